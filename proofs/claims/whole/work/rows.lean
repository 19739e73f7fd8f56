section
-- ===== PART A: goes FIRST, ahead of the names: the tables' words, and 'selects' of the private methods out of them =====
/-- a private method of a class that the tables say can be made, by its rows of tables_1 -/
def lw_okq (q : MethodName × Nat) : Prop := (q.1.cls ≠ "java/lang/invoke/MethodHandle" ∧ q.1.cls ≠ "java/lang/invoke/VarHandle") ∧ Cond.instantiable q.1.cls q.2 ∈ tables_1 ∧ Cond.privateMethod q.1 ∈ tables_1 ∧ Cond.instanceMethod q.1 ∈ tables_1
theorem lw_p0 : lw_okq (⟨"BreakPlaces$Before", "start", "()V"⟩, 6) := ⟨⟨by decide +kernel, by decide +kernel⟩, List.mem_of_getElem? (i := 41) (by decide +kernel), List.mem_of_getElem? (i := 47) (by decide +kernel), List.mem_of_getElem? (i := 48) (by decide +kernel)⟩
theorem lw_p1 : lw_okq (⟨"BreakPlaces", "forgetRules", "()V"⟩, 11) := ⟨⟨by decide +kernel, by decide +kernel⟩, List.mem_of_getElem? (i := 13) (by decide +kernel), List.mem_of_getElem? (i := 114) (by decide +kernel), List.mem_of_getElem? (i := 115) (by decide +kernel)⟩
theorem lw_p2 : lw_okq (⟨"BreakPlaces", "breaksAt", "(I)I"⟩, 11) := ⟨⟨by decide +kernel, by decide +kernel⟩, List.mem_of_getElem? (i := 13) (by decide +kernel), List.mem_of_getElem? (i := 127) (by decide +kernel), List.mem_of_getElem? (i := 128) (by decide +kernel)⟩
theorem lw_p3 : lw_okq (⟨"BreakPlaces", "ruleAt", "(I)I"⟩, 11) := ⟨⟨by decide +kernel, by decide +kernel⟩, List.mem_of_getElem? (i := 13) (by decide +kernel), List.mem_of_getElem? (i := 131) (by decide +kernel), List.mem_of_getElem? (i := 132) (by decide +kernel)⟩
theorem lw_p4 : lw_okq (⟨"BreakPlaces", "kindAt", "(I)I"⟩, 11) := ⟨⟨by decide +kernel, by decide +kernel⟩, List.mem_of_getElem? (i := 13) (by decide +kernel), List.mem_of_getElem? (i := 135) (by decide +kernel), List.mem_of_getElem? (i := 136) (by decide +kernel)⟩
theorem lw_p5 : lw_okq (⟨"BreakPlaces", "findRule", "(II)I"⟩, 11) := ⟨⟨by decide +kernel, by decide +kernel⟩, List.mem_of_getElem? (i := 13) (by decide +kernel), List.mem_of_getElem? (i := 139) (by decide +kernel), List.mem_of_getElem? (i := 140) (by decide +kernel)⟩
theorem lw_p6 : lw_okq (⟨"BreakPlaces", "ruleOfSpaces", "(I)I"⟩, 11) := ⟨⟨by decide +kernel, by decide +kernel⟩, List.mem_of_getElem? (i := 13) (by decide +kernel), List.mem_of_getElem? (i := 143) (by decide +kernel), List.mem_of_getElem? (i := 144) (by decide +kernel)⟩
theorem lw_p7 : lw_okq (⟨"BreakPlaces$Before", "leavesOut", "(I)Z"⟩, 6) := ⟨⟨by decide +kernel, by decide +kernel⟩, List.mem_of_getElem? (i := 41) (by decide +kernel), List.mem_of_getElem? (i := 152) (by decide +kernel), List.mem_of_getElem? (i := 153) (by decide +kernel)⟩
theorem lw_p8 : lw_okq (⟨"BreakPlaces", "ruleOfSigns", "(II)I"⟩, 11) := ⟨⟨by decide +kernel, by decide +kernel⟩, List.mem_of_getElem? (i := 13) (by decide +kernel), List.mem_of_getElem? (i := 172) (by decide +kernel), List.mem_of_getElem? (i := 173) (by decide +kernel)⟩
theorem lw_p9 : lw_okq (⟨"BreakPlaces", "ruleOfMarks", "(III)I"⟩, 11) := ⟨⟨by decide +kernel, by decide +kernel⟩, List.mem_of_getElem? (i := 13) (by decide +kernel), List.mem_of_getElem? (i := 188) (by decide +kernel), List.mem_of_getElem? (i := 189) (by decide +kernel)⟩
theorem lw_p10 : lw_okq (⟨"BreakPlaces$Ranges", "valueOf", "(II)I"⟩, 4) := ⟨⟨by decide +kernel, by decide +kernel⟩, List.mem_of_getElem? (i := 21) (by decide +kernel), List.mem_of_getElem? (i := 196) (by decide +kernel), List.mem_of_getElem? (i := 197) (by decide +kernel)⟩
theorem lw_p11 : lw_okq (⟨"BreakPlaces$Before", "pass", "(II)V"⟩, 6) := ⟨⟨by decide +kernel, by decide +kernel⟩, List.mem_of_getElem? (i := 41) (by decide +kernel), List.mem_of_getElem? (i := 200) (by decide +kernel), List.mem_of_getElem? (i := 201) (by decide +kernel)⟩
theorem lw_p12 : lw_okq (⟨"BreakPlaces", "isBetweenCrAndLf", "(I)Z"⟩, 11) := ⟨⟨by decide +kernel, by decide +kernel⟩, List.mem_of_getElem? (i := 13) (by decide +kernel), List.mem_of_getElem? (i := 206) (by decide +kernel), List.mem_of_getElem? (i := 207) (by decide +kernel)⟩
theorem lw_p13 : lw_okq (⟨"java/lang/Throwable", "fillInStackTrace", "(I)Ljava/lang/Throwable;"⟩, 6) := ⟨⟨by decide +kernel, by decide +kernel⟩, List.mem_of_getElem? (i := 264) (by decide +kernel), List.mem_of_getElem? (i := 262) (by decide +kernel), List.mem_of_getElem? (i := 263) (by decide +kernel)⟩
theorem lw_p14 : lw_okq (⟨"BreakPlaces$Ranges", "isFull", "()Z"⟩, 4) := ⟨⟨by decide +kernel, by decide +kernel⟩, List.mem_of_getElem? (i := 21) (by decide +kernel), List.mem_of_getElem? (i := 294) (by decide +kernel), List.mem_of_getElem? (i := 295) (by decide +kernel)⟩
theorem lw_p15 : lw_okq (⟨"BreakPlaces$Ranges", "tell", "(III)V"⟩, 4) := ⟨⟨by decide +kernel, by decide +kernel⟩, List.mem_of_getElem? (i := 21) (by decide +kernel), List.mem_of_getElem? (i := 314) (by decide +kernel), List.mem_of_getElem? (i := 315) (by decide +kernel)⟩
def lw_privs_1 : List (MethodName × Nat) := [(⟨"BreakPlaces$Before", "start", "()V"⟩, 6), (⟨"BreakPlaces", "forgetRules", "()V"⟩, 11), (⟨"BreakPlaces", "breaksAt", "(I)I"⟩, 11), (⟨"BreakPlaces", "ruleAt", "(I)I"⟩, 11), (⟨"BreakPlaces", "kindAt", "(I)I"⟩, 11), (⟨"BreakPlaces", "findRule", "(II)I"⟩, 11), (⟨"BreakPlaces", "ruleOfSpaces", "(I)I"⟩, 11), (⟨"BreakPlaces$Before", "leavesOut", "(I)Z"⟩, 6), (⟨"BreakPlaces", "ruleOfSigns", "(II)I"⟩, 11), (⟨"BreakPlaces", "ruleOfMarks", "(III)I"⟩, 11), (⟨"BreakPlaces$Ranges", "valueOf", "(II)I"⟩, 4), (⟨"BreakPlaces$Before", "pass", "(II)V"⟩, 6), (⟨"BreakPlaces", "isBetweenCrAndLf", "(I)Z"⟩, 11), (⟨"java/lang/Throwable", "fillInStackTrace", "(I)Ljava/lang/Throwable;"⟩, 6), (⟨"BreakPlaces$Ranges", "isFull", "()Z"⟩, 4), (⟨"BreakPlaces$Ranges", "tell", "(III)V"⟩, 4)]
theorem lw_r1 : ∀ q ∈ lw_privs_1, lw_okq q := List.forall_mem_cons.mpr ⟨lw_p0, List.forall_mem_cons.mpr ⟨lw_p1, List.forall_mem_cons.mpr ⟨lw_p2, List.forall_mem_cons.mpr ⟨lw_p3, List.forall_mem_cons.mpr ⟨lw_p4, List.forall_mem_cons.mpr ⟨lw_p5, List.forall_mem_cons.mpr ⟨lw_p6, List.forall_mem_cons.mpr ⟨lw_p7, List.forall_mem_cons.mpr ⟨lw_p8, List.forall_mem_cons.mpr ⟨lw_p9, List.forall_mem_cons.mpr ⟨lw_p10, List.forall_mem_cons.mpr ⟨lw_p11, List.forall_mem_cons.mpr ⟨lw_p12, List.forall_mem_cons.mpr ⟨lw_p13, List.forall_mem_cons.mpr ⟨lw_p14, List.forall_mem_cons.mpr ⟨lw_p15, fun _ h => absurd h List.not_mem_nil⟩⟩⟩⟩⟩⟩⟩⟩⟩⟩⟩⟩⟩⟩⟩⟩
theorem lw_p16 : lw_okq (⟨"BreakPlaces", "take", "(IIIII)I"⟩, 11) := ⟨⟨by decide +kernel, by decide +kernel⟩, List.mem_of_getElem? (i := 13) (by decide +kernel), List.mem_of_getElem? (i := 335) (by decide +kernel), List.mem_of_getElem? (i := 336) (by decide +kernel)⟩
theorem lw_p17 : lw_okq (⟨"BreakPlaces", "areCharacters", "(I)Z"⟩, 11) := ⟨⟨by decide +kernel, by decide +kernel⟩, List.mem_of_getElem? (i := 13) (by decide +kernel), List.mem_of_getElem? (i := 339) (by decide +kernel), List.mem_of_getElem? (i := 340) (by decide +kernel)⟩
theorem lw_p18 : lw_okq (⟨"BreakPlaces", "putGiven", "(III)V"⟩, 11) := ⟨⟨by decide +kernel, by decide +kernel⟩, List.mem_of_getElem? (i := 13) (by decide +kernel), List.mem_of_getElem? (i := 345) (by decide +kernel), List.mem_of_getElem? (i := 346) (by decide +kernel)⟩
theorem lw_p19 : lw_okq (⟨"BreakPlaces", "isPlace", "(I)Z"⟩, 11) := ⟨⟨by decide +kernel, by decide +kernel⟩, List.mem_of_getElem? (i := 13) (by decide +kernel), List.mem_of_getElem? (i := 360) (by decide +kernel), List.mem_of_getElem? (i := 361) (by decide +kernel)⟩
theorem lw_p20 : lw_okq (⟨"BreakPlaces", "isPosition", "(I)Z"⟩, 11) := ⟨⟨by decide +kernel, by decide +kernel⟩, List.mem_of_getElem? (i := 13) (by decide +kernel), List.mem_of_getElem? (i := 387) (by decide +kernel), List.mem_of_getElem? (i := 388) (by decide +kernel)⟩
theorem lw_p21 : lw_okq (⟨"BreakPlacesModel", "refused", "(I)Z"⟩, 14) := ⟨⟨by decide +kernel, by decide +kernel⟩, List.mem_of_getElem? (i := 430) (by decide +kernel), List.mem_of_getElem? (i := 492) (by decide +kernel), List.mem_of_getElem? (i := 493) (by decide +kernel)⟩
theorem lw_p22 : lw_okq (⟨"BreakPlacesModel", "keep", "(IIIII)V"⟩, 14) := ⟨⟨by decide +kernel, by decide +kernel⟩, List.mem_of_getElem? (i := 430) (by decide +kernel), List.mem_of_getElem? (i := 508) (by decide +kernel), List.mem_of_getElem? (i := 509) (by decide +kernel)⟩
theorem lw_p23 : lw_okq (⟨"BreakPlacesModel", "given", "(I)I"⟩, 14) := ⟨⟨by decide +kernel, by decide +kernel⟩, List.mem_of_getElem? (i := 430) (by decide +kernel), List.mem_of_getElem? (i := 512) (by decide +kernel), List.mem_of_getElem? (i := 513) (by decide +kernel)⟩
theorem lw_p24 : lw_okq (⟨"BreakPlacesModel", "isSound", "(I)Z"⟩, 14) := ⟨⟨by decide +kernel, by decide +kernel⟩, List.mem_of_getElem? (i := 430) (by decide +kernel), List.mem_of_getElem? (i := 516) (by decide +kernel), List.mem_of_getElem? (i := 517) (by decide +kernel)⟩
theorem lw_p25 : lw_okq (⟨"BreakPlacesModel", "isPosition", "(I)Z"⟩, 14) := ⟨⟨by decide +kernel, by decide +kernel⟩, List.mem_of_getElem? (i := 430) (by decide +kernel), List.mem_of_getElem? (i := 532) (by decide +kernel), List.mem_of_getElem? (i := 533) (by decide +kernel)⟩
theorem lw_p26 : lw_okq (⟨"BreakPlacesModel", "classOf", "(I)I"⟩, 14) := ⟨⟨by decide +kernel, by decide +kernel⟩, List.mem_of_getElem? (i := 430) (by decide +kernel), List.mem_of_getElem? (i := 540) (by decide +kernel), List.mem_of_getElem? (i := 541) (by decide +kernel)⟩
theorem lw_p27 : lw_okq (⟨"BreakPlacesModel", "isPlace", "(I)Z"⟩, 14) := ⟨⟨by decide +kernel, by decide +kernel⟩, List.mem_of_getElem? (i := 430) (by decide +kernel), List.mem_of_getElem? (i := 548) (by decide +kernel), List.mem_of_getElem? (i := 549) (by decide +kernel)⟩
theorem lw_p28 : lw_okq (⟨"BreakPlacesModel", "look", "(I)I"⟩, 14) := ⟨⟨by decide +kernel, by decide +kernel⟩, List.mem_of_getElem? (i := 430) (by decide +kernel), List.mem_of_getElem? (i := 552) (by decide +kernel), List.mem_of_getElem? (i := 553) (by decide +kernel)⟩
theorem lw_p29 : lw_okq (⟨"BreakPlacesModel", "early", "(I)I"⟩, 14) := ⟨⟨by decide +kernel, by decide +kernel⟩, List.mem_of_getElem? (i := 430) (by decide +kernel), List.mem_of_getElem? (i := 556) (by decide +kernel), List.mem_of_getElem? (i := 557) (by decide +kernel)⟩
theorem lw_p30 : lw_okq (⟨"BreakPlacesModel", "tell", "(II)I"⟩, 14) := ⟨⟨by decide +kernel, by decide +kernel⟩, List.mem_of_getElem? (i := 430) (by decide +kernel), List.mem_of_getElem? (i := 560) (by decide +kernel), List.mem_of_getElem? (i := 561) (by decide +kernel)⟩
theorem lw_p31 : lw_okq (⟨"BreakPlacesModel", "isLeftOut", "(I)Z"⟩, 14) := ⟨⟨by decide +kernel, by decide +kernel⟩, List.mem_of_getElem? (i := 430) (by decide +kernel), List.mem_of_getElem? (i := 564) (by decide +kernel), List.mem_of_getElem? (i := 565) (by decide +kernel)⟩
def lw_privs_2 : List (MethodName × Nat) := [(⟨"BreakPlaces", "take", "(IIIII)I"⟩, 11), (⟨"BreakPlaces", "areCharacters", "(I)Z"⟩, 11), (⟨"BreakPlaces", "putGiven", "(III)V"⟩, 11), (⟨"BreakPlaces", "isPlace", "(I)Z"⟩, 11), (⟨"BreakPlaces", "isPosition", "(I)Z"⟩, 11), (⟨"BreakPlacesModel", "refused", "(I)Z"⟩, 14), (⟨"BreakPlacesModel", "keep", "(IIIII)V"⟩, 14), (⟨"BreakPlacesModel", "given", "(I)I"⟩, 14), (⟨"BreakPlacesModel", "isSound", "(I)Z"⟩, 14), (⟨"BreakPlacesModel", "isPosition", "(I)Z"⟩, 14), (⟨"BreakPlacesModel", "classOf", "(I)I"⟩, 14), (⟨"BreakPlacesModel", "isPlace", "(I)Z"⟩, 14), (⟨"BreakPlacesModel", "look", "(I)I"⟩, 14), (⟨"BreakPlacesModel", "early", "(I)I"⟩, 14), (⟨"BreakPlacesModel", "tell", "(II)I"⟩, 14), (⟨"BreakPlacesModel", "isLeftOut", "(I)Z"⟩, 14)]
theorem lw_r2 : ∀ q ∈ lw_privs_2, lw_okq q := List.forall_mem_cons.mpr ⟨lw_p16, List.forall_mem_cons.mpr ⟨lw_p17, List.forall_mem_cons.mpr ⟨lw_p18, List.forall_mem_cons.mpr ⟨lw_p19, List.forall_mem_cons.mpr ⟨lw_p20, List.forall_mem_cons.mpr ⟨lw_p21, List.forall_mem_cons.mpr ⟨lw_p22, List.forall_mem_cons.mpr ⟨lw_p23, List.forall_mem_cons.mpr ⟨lw_p24, List.forall_mem_cons.mpr ⟨lw_p25, List.forall_mem_cons.mpr ⟨lw_p26, List.forall_mem_cons.mpr ⟨lw_p27, List.forall_mem_cons.mpr ⟨lw_p28, List.forall_mem_cons.mpr ⟨lw_p29, List.forall_mem_cons.mpr ⟨lw_p30, List.forall_mem_cons.mpr ⟨lw_p31, fun _ h => absurd h List.not_mem_nil⟩⟩⟩⟩⟩⟩⟩⟩⟩⟩⟩⟩⟩⟩⟩⟩
theorem lw_p32 : lw_okq (⟨"BreakPlacesModel", "isMark", "(I)Z"⟩, 14) := ⟨⟨by decide +kernel, by decide +kernel⟩, List.mem_of_getElem? (i := 430) (by decide +kernel), List.mem_of_getElem? (i := 568) (by decide +kernel), List.mem_of_getElem? (i := 569) (by decide +kernel)⟩
theorem lw_p33 : lw_okq (⟨"BreakPlacesModel", "base", "(I)I"⟩, 14) := ⟨⟨by decide +kernel, by decide +kernel⟩, List.mem_of_getElem? (i := 430) (by decide +kernel), List.mem_of_getElem? (i := 572) (by decide +kernel), List.mem_of_getElem? (i := 573) (by decide +kernel)⟩
theorem lw_p34 : lw_okq (⟨"BreakPlacesModel", "baseClass", "(I)I"⟩, 14) := ⟨⟨by decide +kernel, by decide +kernel⟩, List.mem_of_getElem? (i := 430) (by decide +kernel), List.mem_of_getElem? (i := 576) (by decide +kernel), List.mem_of_getElem? (i := 577) (by decide +kernel)⟩
theorem lw_p35 : lw_okq (⟨"BreakPlacesModel", "middle", "(III)I"⟩, 14) := ⟨⟨by decide +kernel, by decide +kernel⟩, List.mem_of_getElem? (i := 430) (by decide +kernel), List.mem_of_getElem? (i := 580) (by decide +kernel), List.mem_of_getElem? (i := 581) (by decide +kernel)⟩
theorem lw_p36 : lw_okq (⟨"BreakPlacesModel", "beforeSpaces", "(I)I"⟩, 14) := ⟨⟨by decide +kernel, by decide +kernel⟩, List.mem_of_getElem? (i := 430) (by decide +kernel), List.mem_of_getElem? (i := 584) (by decide +kernel), List.mem_of_getElem? (i := 585) (by decide +kernel)⟩
theorem lw_p37 : lw_okq (⟨"BreakPlacesModel", "late", "(III)I"⟩, 14) := ⟨⟨by decide +kernel, by decide +kernel⟩, List.mem_of_getElem? (i := 430) (by decide +kernel), List.mem_of_getElem? (i := 588) (by decide +kernel), List.mem_of_getElem? (i := 589) (by decide +kernel)⟩
theorem lw_p38 : lw_okq (⟨"BreakPlacesModel", "last", "(IIII)I"⟩, 14) := ⟨⟨by decide +kernel, by decide +kernel⟩, List.mem_of_getElem? (i := 430) (by decide +kernel), List.mem_of_getElem? (i := 595) (by decide +kernel), List.mem_of_getElem? (i := 596) (by decide +kernel)⟩
theorem lw_p39 : lw_okq (⟨"BreakPlacesModel", "isMarked", "(II)Z"⟩, 14) := ⟨⟨by decide +kernel, by decide +kernel⟩, List.mem_of_getElem? (i := 430) (by decide +kernel), List.mem_of_getElem? (i := 608) (by decide +kernel), List.mem_of_getElem? (i := 609) (by decide +kernel)⟩
theorem lw_p40 : lw_okq (⟨"BreakPlacesModel", "flags", "(I)I"⟩, 14) := ⟨⟨by decide +kernel, by decide +kernel⟩, List.mem_of_getElem? (i := 430) (by decide +kernel), List.mem_of_getElem? (i := 612) (by decide +kernel), List.mem_of_getElem? (i := 613) (by decide +kernel)⟩
def lw_privs_3 : List (MethodName × Nat) := [(⟨"BreakPlacesModel", "isMark", "(I)Z"⟩, 14), (⟨"BreakPlacesModel", "base", "(I)I"⟩, 14), (⟨"BreakPlacesModel", "baseClass", "(I)I"⟩, 14), (⟨"BreakPlacesModel", "middle", "(III)I"⟩, 14), (⟨"BreakPlacesModel", "beforeSpaces", "(I)I"⟩, 14), (⟨"BreakPlacesModel", "late", "(III)I"⟩, 14), (⟨"BreakPlacesModel", "last", "(IIII)I"⟩, 14), (⟨"BreakPlacesModel", "isMarked", "(II)Z"⟩, 14), (⟨"BreakPlacesModel", "flags", "(I)I"⟩, 14)]
theorem lw_r3 : ∀ q ∈ lw_privs_3, lw_okq q := List.forall_mem_cons.mpr ⟨lw_p32, List.forall_mem_cons.mpr ⟨lw_p33, List.forall_mem_cons.mpr ⟨lw_p34, List.forall_mem_cons.mpr ⟨lw_p35, List.forall_mem_cons.mpr ⟨lw_p36, List.forall_mem_cons.mpr ⟨lw_p37, List.forall_mem_cons.mpr ⟨lw_p38, List.forall_mem_cons.mpr ⟨lw_p39, List.forall_mem_cons.mpr ⟨lw_p40, fun _ h => absurd h List.not_mem_nil⟩⟩⟩⟩⟩⟩⟩⟩⟩
def lw_privs : List (MethodName × Nat) := lw_privs_1 ++ (lw_privs_2 ++ (lw_privs_3))
def lw_tbl : List Cond := k2_sels lw_privs ++ tables_1
theorem lw_privs_ok : ∀ q ∈ lw_privs, lw_okq q := by
  show ∀ q ∈ lw_privs_1 ++ (lw_privs_2 ++ (lw_privs_3)), lw_okq q
  exact List.forall_mem_append.mpr ⟨lw_r1, List.forall_mem_append.mpr ⟨lw_r2, lw_r3⟩⟩
end
section
-- whole numbers of 32 bits, as integers
theorem gn_lt {x y : Int32} : x < y ↔ x.toInt < y.toInt := Int32.lt_iff_toInt_lt
theorem gn_le {x y : Int32} : x ≤ y ↔ x.toInt ≤ y.toInt := Int32.le_iff_toInt_le
theorem gn_add {x y : Int32} (h1 : -2147483648 ≤ x.toInt + y.toInt) (h2 : x.toInt + y.toInt ≤ 2147483647) : (x + y).toInt = x.toInt + y.toInt := by
  rw [Int32.toInt_add]
  exact Int.bmod_eq_of_le (by omega) (by omega)
theorem gn_sub {x y : Int32} (h1 : -2147483648 ≤ x.toInt - y.toInt) (h2 : x.toInt - y.toInt ≤ 2147483647) : (x - y).toInt = x.toInt - y.toInt := by
  rw [Int32.toInt_sub]
  exact Int.bmod_eq_of_le (by omega) (by omega)
theorem gn_in {x : Int32} {n : Nat} (h1 : 0 ≤ x.toInt) (h2 : x.toInt < (n : Int)) : vp_in x n := vp_in_iff.mpr ⟨h1, h2⟩
theorem gn_cl {x : Int32} (h : 0 ≤ x.toInt) : (x.toNatClampNeg : Int) = x.toInt := by
  show ((x.toInt.toNat : Nat) : Int) = x.toInt
  omega
theorem gn_0 : (0 : Int32).toInt = 0 := rfl
theorem gn_nn {x : Int32} (h : 0 ≤ x.toInt) : ¬ x < 0 := fun q => by
  have h1 := gn_lt.mp q
  have h0 : (0 : Int32).toInt = 0 := rfl
  omega
theorem gn_le2 {x y : Int32} {n : Nat} (h1 : 0 ≤ x.toInt) (h2 : 0 ≤ y.toInt) (h3 : x.toInt + y.toInt ≤ (n : Int)) : x.toNatClampNeg + y.toNatClampNeg ≤ n := by
  have e1 := gn_cl h1
  have e2 := gn_cl h2
  omega
theorem gn_b1 : (0 : Int32) ≤ 1 := by decide
-- a whole number of 32 bits and its integer: hidden from omega, which sees the integers alone
def gk_v (x : Int32) (z : Int) : Prop := x.toInt = z
theorem gk_vex (x : Int32) : ∃ z : Int, gk_v x z := ⟨_, rfl⟩
theorem gk_lt {x y : Int32} {a b : Int} (va : gk_v x a) (vb : gk_v y b) (h : x < y) : a < b := by
  have h1 := gn_lt.mp h
  rw [show x.toInt = a from va, show y.toInt = b from vb] at h1
  exact h1
theorem gk_le {x y : Int32} {a b : Int} (va : gk_v x a) (vb : gk_v y b) (h : x ≤ y) : a ≤ b := by
  have h1 := gn_le.mp h
  rw [show x.toInt = a from va, show y.toInt = b from vb] at h1
  exact h1
theorem gk_nlt {x y : Int32} {a b : Int} (va : gk_v x a) (vb : gk_v y b) (h : ¬ x < y) : b ≤ a := by
  have h1 := mt gn_lt.mpr h
  rw [show x.toInt = a from va, show y.toInt = b from vb] at h1
  exact Int.not_lt.mp h1
theorem gk_nle {x y : Int32} {a b : Int} (va : gk_v x a) (vb : gk_v y b) (h : ¬ x ≤ y) : b < a := by
  have h1 := mt gn_le.mpr h
  rw [show x.toInt = a from va, show y.toInt = b from vb] at h1
  exact Int.not_le.mp h1
theorem gk_eq {x y : Int32} {a b : Int} (va : gk_v x a) (vb : gk_v y b) (h : x = y) : a = b := by
  rw [← show x.toInt = a from va, ← show y.toInt = b from vb, h]
theorem gk_ne {x y : Int32} {a b : Int} (va : gk_v x a) (vb : gk_v y b) (h : ¬ x = y) : ¬ a = b := by
  rw [← show x.toInt = a from va, ← show y.toInt = b from vb]
  exact mt Int32.toInt_inj.mp h
theorem gk_inj {x y : Int32} {a : Int} (va : gk_v x a) (vb : gk_v y a) : x = y := Int32.toInt_inj.mp (va.trans vb.symm)
theorem gk_add {x y : Int32} {a b : Int} (va : gk_v x a) (vb : gk_v y b) (h1 : -2147483648 ≤ a + b) (h2 : a + b ≤ 2147483647) : ∃ z : Int, gk_v (x + y) z ∧ z = a + b := by
  refine ⟨a + b, ?_, rfl⟩
  have ea : x.toInt = a := va
  have eb : y.toInt = b := vb
  show (x + y).toInt = a + b
  rw [gn_add (by rw [ea, eb]; exact h1) (by rw [ea, eb]; exact h2), ea, eb]
theorem gk_sub {x y : Int32} {a b : Int} (va : gk_v x a) (vb : gk_v y b) (h1 : -2147483648 ≤ a - b) (h2 : a - b ≤ 2147483647) : ∃ z : Int, gk_v (x - y) z ∧ z = a - b := by
  refine ⟨a - b, ?_, rfl⟩
  have ea : x.toInt = a := va
  have eb : y.toInt = b := vb
  show (x - y).toInt = a - b
  rw [gn_sub (by rw [ea, eb]; exact h1) (by rw [ea, eb]; exact h2), ea, eb]
theorem gk_in {x : Int32} {a : Int} {n : Nat} (va : gk_v x a) (h1 : 0 ≤ a) (h2 : a < (n : Int)) : vp_in x n := gn_in (by rw [show x.toInt = a from va]; exact h1) (by rw [show x.toInt = a from va]; exact h2)
theorem gk_nn {x : Int32} {a : Int} (va : gk_v x a) (h : 0 ≤ a) : ¬ x < 0 := gn_nn (by rw [show x.toInt = a from va]; exact h)
theorem gk_le2 {x y : Int32} {a b : Int} {n : Nat} (va : gk_v x a) (vb : gk_v y b) (h1 : 0 ≤ a) (h2 : 0 ≤ b) (h3 : a + b ≤ (n : Int)) : x.toNatClampNeg + y.toNatClampNeg ≤ n := by
  have ea : x.toInt = a := va
  have eb : y.toInt = b := vb
  exact gn_le2 (by rw [ea]; exact h1) (by rw [eb]; exact h2) (by rw [ea, eb]; exact h3)
theorem gk_vn {n : Nat} (h : (n : Int) ≤ 2147483647) : gk_v (nI n) (n : Int) := nI_toInt (by omega)
theorem gk_bd {x : Int32} {a : Int} (va : gk_v x a) : -2147483648 ≤ a ∧ a ≤ 2147483647 := by
  have h1 := Int32.le_toInt x
  have h2 := Int32.toInt_lt x
  rw [show x.toInt = a from va] at h1 h2
  omega
theorem gz_n {x : Int32} (h : x = 0 ∨ x = 1) : narrow .boolean (.int x) = .int x := by rcases h with rfl | rfl <;> rfl
theorem gz_f {x : Int32} (h : x = 0 ∨ x = 1) : fits .boolean (.int x) = true := by rcases h with rfl | rfl <;> rfl
theorem gk_mul {x y : Int32} {a b : Int} (va : gk_v x a) (vb : gk_v y b) (h1 : -2147483648 ≤ a * b) (h2 : a * b ≤ 2147483647) : ∃ z : Int, gk_v (x * y) z ∧ z = a * b := by
  refine ⟨a * b, ?_, rfl⟩
  have ea : x.toInt = a := va
  have eb : y.toInt = b := vb
  show (x * y).toInt = a * b
  rw [Int32.toInt_mul, ea, eb]
  exact Int.bmod_eq_of_le (by omega) (by omega)
end
section
-- the tables' words that stay true as tables grow warm: one list for all methods
def wA : List Cond := lw_tbl.filter goodWord
theorem wA_of {w : Cond} (h : w ∈ lw_tbl) (g : goodWord w = true) : w ∈ wA := List.mem_filter.mpr ⟨h, g⟩
theorem wA_1 {w : Cond} {i : Nat} (h : tables_1_1[i]? = some w) (g : goodWord w = true) : w ∈ wA := wA_of (List.mem_append_right _ (List.mem_append_left _ (List.mem_of_getElem? h))) g
theorem wA_2 {w : Cond} {i : Nat} (h : tables_1_2[i]? = some w) (g : goodWord w = true) : w ∈ wA := wA_of (List.mem_append_right _ (List.mem_append_right _ (List.mem_append_left _ (List.mem_of_getElem? h)))) g
theorem wA_3 {w : Cond} {i : Nat} (h : tables_1_3[i]? = some w) (g : goodWord w = true) : w ∈ wA := wA_of (List.mem_append_right _ (List.mem_append_right _ (List.mem_append_right _ (List.mem_of_getElem? h)))) g
theorem wA_s {w : Cond} {i : Nat} (h : (k2_sels lw_privs)[i]? = some w) (g : goodWord w = true) : w ∈ wA := wA_of (List.mem_append_left _ (List.mem_of_getElem? h)) g
/-- words that a nest mate's member needs, and texts: they stay true too, each by a law of its own -/
def gk_nw : Cond → Bool
  | .fieldLinkNest .. => true
  | .methodLinkNest .. => true
  | .stringRef .. => true
  | _ => false
def wN : List Cond := lw_tbl.filter gk_nw
theorem wN_of {w : Cond} (h : w ∈ lw_tbl) (g : gk_nw w = true) : w ∈ wN := List.mem_filter.mpr ⟨h, g⟩
theorem wN_1 {w : Cond} {i : Nat} (h : tables_1_1[i]? = some w) (g : gk_nw w = true) : w ∈ wN := wN_of (List.mem_append_right _ (List.mem_append_left _ (List.mem_of_getElem? h))) g
theorem wN_2 {w : Cond} {i : Nat} (h : tables_1_2[i]? = some w) (g : gk_nw w = true) : w ∈ wN := wN_of (List.mem_append_right _ (List.mem_append_right _ (List.mem_append_left _ (List.mem_of_getElem? h)))) g
theorem wN_3 {w : Cond} {i : Nat} (h : tables_1_3[i]? = some w) (g : gk_nw w = true) : w ∈ wN := wN_of (List.mem_append_right _ (List.mem_append_right _ (List.mem_append_right _ (List.mem_of_getElem? h)))) g
def gk_N (U : State) : Prop := ∀ w ∈ wN, va_Nw w U
theorem gk_str {a : String} {i : Nat} {t : String} {u U : State} (hv : U.vm = u.vm) (h : va_Nw (.stringRef a i t) u) : va_Nw (.stringRef a i t) U := by
  first
    | exact va_tabs rfl hv.symm h
    | (have h1 := h; simp only [va_Nw, Cond.before, Cond.holds, Cond.value, State.names, State.poolOf?, State.resolvedAt?, hv] at h1 ⊢; exact h1)
theorem gk_N.same {u U : State} (hv : U.vm = u.vm) (h : gk_N u) : gk_N U := by
  intro w hw
  have hg := (List.mem_filter.mp hw).2
  have hz := h w hw
  cases w with
  | fieldLinkNest a i b n d h0 => exact va_Nw.same rfl hv.symm hz
  | methodLinkNest a i x h0 => exact va_Nw.same rfl hv.symm hz
  | stringRef a i t => exact gk_str hv hz
  | _ => cases hg
theorem gk_N.warm {s U : State} (hW : s.WarmedH U.vm) (h : gk_N s) : gk_N U := by
  intro w hw
  have hg := (List.mem_filter.mp hw).2
  have hz := h w hw
  cases w with
  | fieldLinkNest a i b n d h0 => exact va_Nw.warmF hW hz
  | methodLinkNest a i x h0 => exact va_Nw.warmM hW hz
  | stringRef a i t => exact gk_str (u := s.setVm U.vm) rfl (Cond.stringRef_warmed hW hz)
  | _ => cases hg
def gk_and (P : Cond → Prop) : List Cond → Prop
  | [] => True
  | w :: r => P w ∧ gk_and P r
theorem gk_all1 {P : Cond → Prop} : ∀ (l : List Cond), gk_and P l → ∀ w ∈ l, P w
  | [], _, _, h => absurd h List.not_mem_nil
  | a :: r, hp, w, h => (List.mem_cons.mp h).elim (fun e => e ▸ hp.1) (fun h => gk_all1 r hp.2 w h)
theorem gk_all {ws : List Cond} (l : List Cond) (e : ws = l) (h : gk_and (fun w => w ∈ wA) l) : ∀ w ∈ ws, w ∈ wA := e ▸ gk_all1 l h
theorem gk_good {ws : List Cond} (h : ∀ w ∈ ws, w ∈ wA) : GoodIn wA ws := fun w hw => ⟨h w hw, good_of_word (List.mem_filter.mp (h w hw)).2⟩
theorem gk_cons {c : Cond} (h : c ∈ wA) : ∀ w ∈ c :: wA, w ∈ wA := fun w hw => (List.mem_cons.mp hw).elim (fun e => e ▸ h) id
section
variable {R : Room} {s : State} {args : Array Value} {own host C : String} {index maxL n mc ms : Nat} {y : MethodName} {bytes : ByteArray} {ret : Option FieldType} {rm : Room}
theorem gk_cwS (hts : ∀ w ∈ wA, w.before args s = true) (h1 : Cond.methodLink own index y ∈ wA) (h2 : Cond.static y ∈ wA) (h3 : Cond.initialized own ∈ wA) (h4 : Cond.code y bytes maxL ret ∈ wA) (hc : y.cls = own)
    (hd : y.cls ≠ "java/lang/invoke/MethodHandle" ∧ y.cls ≠ "java/lang/invoke/VarHandle" ∧ (parseMethodDescriptor y.desc).map (fun d => d.parameters.length) = some n) (hrc : rm.cells = mc) (hrs : rm.slots = ms) (hR : rm.frames + 1 ≤ R.frames ∧ 8 + (maxL + 11) + rm.locals ≤ R.locals) :
    CallB R s args own index y bytes maxL ret (.code y bytes maxL ret :: wA) rm mc ms n ∧ (Cond.static y).before args s = true :=
  cwS n hts (gk_good (fun w hw => (List.mem_append.mp hw).elim (gk_all1 [_, _, _] ⟨h1, h2, h3, trivial⟩ w) (gk_cons h4 w))) rfl hrc hrs ⟨hc, hd⟩ hR
theorem gk_cwV (hts : ∀ w ∈ wA, w.before args s = true) (h1 : Cond.methodLink own index y ∈ wA) (h2 : Cond.instanceMethod y ∈ wA) (h5 : Cond.selects C y y ∈ wA) (h3 : Cond.initialized C ∈ wA) (h4 : Cond.code y bytes maxL ret ∈ wA) (hc : y.cls = C)
    (hd : y.cls ≠ "java/lang/invoke/MethodHandle" ∧ y.cls ≠ "java/lang/invoke/VarHandle" ∧ (parseMethodDescriptor y.desc).map (fun d => d.parameters.length) = some n) (hrc : rm.cells = mc) (hrs : rm.slots = ms) (hR : rm.frames + 1 ≤ R.frames ∧ 8 + (maxL + 11) + rm.locals ≤ R.locals) :
    CallW R s args own C index y bytes maxL ret (.code y bytes maxL ret :: wA) rm mc ms n :=
  cwV n hts (gk_good (fun w hw => (List.mem_append.mp hw).elim (gk_all1 [_, _, _, _] ⟨h1, h2, h5, h3, trivial⟩ w) (gk_cons h4 w))) rfl hrc hrs ⟨hc, hd⟩ hR
theorem gk_cwSN (hts : ∀ w ∈ wA, w.before args s = true) (hN : gk_N s) (h1 : Cond.methodLinkNest own index y host ∈ wN) (h2 : Cond.static y ∈ wA) (h3 : Cond.initialized y.cls ∈ wA) (h4 : Cond.code y bytes maxL ret ∈ wA)
    (hd : y.cls ≠ "java/lang/invoke/MethodHandle" ∧ y.cls ≠ "java/lang/invoke/VarHandle" ∧ (parseMethodDescriptor y.desc).map (fun d => d.parameters.length) = some n) (hrc : rm.cells = mc) (hrs : rm.slots = ms) (hR : rm.frames + 1 ≤ R.frames ∧ 8 + (maxL + 11) + rm.locals ≤ R.locals) :
    va_CN R s args own index y host bytes maxL ret (.code y bytes maxL ret :: wA) rm mc ms n ∧ (Cond.static y).before args s = true ∧ True :=
  ⟨va_cnB n hts (gk_good (gk_cons h4)) rfl hrc hrs (hN _ h1) (hts _ h3) hd hR, hts _ h2, trivial⟩
theorem gk_cwVN (hts : ∀ w ∈ wA, w.before args s = true) (hN : gk_N s) (h1 : Cond.methodLinkNest own index y host ∈ wN) (h2 : Cond.instanceMethod y ∈ wA) (h5 : Cond.selects C y y ∈ wA) (h3 : Cond.initialized y.cls ∈ wA) (h4 : Cond.code y bytes maxL ret ∈ wA)
    (hd : y.cls ≠ "java/lang/invoke/MethodHandle" ∧ y.cls ≠ "java/lang/invoke/VarHandle" ∧ (parseMethodDescriptor y.desc).map (fun d => d.parameters.length) = some n) (hrc : rm.cells = mc) (hrs : rm.slots = ms) (hR : rm.frames + 1 ≤ R.frames ∧ 8 + (maxL + 11) + rm.locals ≤ R.locals) :
    va_CN R s args own index y host bytes maxL ret (.code y bytes maxL ret :: wA) rm mc ms n ∧ (Cond.instanceMethod y).before args s = true ∧ (Cond.selects C y y).before args s = true :=
  ⟨va_cnB n hts (gk_good (gk_cons h4)) rfl hrc hrs (hN _ h1) (hts _ h3) hd hR, hts _ h2, hts _ h5⟩
end
end
section
-- a small kit of our own over the kit's rows: a world in one word, contracts of methods that end by a return, calls as one row
/-- the world at a place of a walk: tables, cells, apartness, what has changed since the method's start -/
def gk_W (D : va_G) (cl : List vw_C) (tys : List (ClassId × FieldType)) (s : State) (A : Nat → Prop) (H : Heap) (locs : List Loc) (ws : va_W) : Prop :=
  va_K D cl tys s ∧ va_P D cl ws H ∧ va_D A ws ∧ va_S A s.heap H locs ∧ (∀ q : Nat, s.heap.size ≤ q → A q) ∧ gk_N s
def gk_B (D : va_G) (cl : List vw_C) (tys : List (ClassId × FieldType)) (wc : va_W) (sz : Nat) : State → Prop := fun U => U.heap.size = sz ∧ va_P D cl wc U.heap ∧ va_K D cl tys U ∧ va_D (fun _ => True) wc ∧ gk_N U
def gk_E {S : Type} (D : va_G) (cl : List vw_C) (tys : List (ClassId × FieldType)) (w1 : S → va_W) (A : Nat → Prop) : S → State → Prop := fun u t => va_P D cl (w1 u) t.heap ∧ va_K D cl tys t ∧ va_D A (w1 u)
/-- a method that answers an int: from the cells wc, with the arguments av, to the cells w1 u -/
def gk_I {S : Type} (l : Launch) (y : MethodName) (ws : List Cond) (rm : Room) (D : va_G) (cl : List vw_C) (tys : List (ClassId × FieldType)) (av : List Value) (wc : va_W) (post : Int32 → S → Prop) (w1 : S → va_W) (mc ms : Nat) : Prop :=
  ∀ sz : Nat, Met l y ws rm (va_Pc av (gk_B D cl tys wc sz)) (va_Qi post (gk_E D cl tys w1 (va_A wc sz)) (va_A wc sz)) mc ms (va_A wc sz)
/-- a method that answers nothing -/
def gk_V {S : Type} (l : Launch) (y : MethodName) (ws : List Cond) (rm : Room) (D : va_G) (cl : List vw_C) (tys : List (ClassId × FieldType)) (av : List Value) (wc : va_W) (post : S → Prop) (w1 : S → va_W) (mc ms : Nat) : Prop :=
  ∀ sz : Nat, Met l y ws rm (va_Pc av (gk_B D cl tys wc sz)) (va_Qv post (gk_E D cl tys w1 (va_A wc sz)) (va_A wc sz)) mc ms (va_A wc sz)
theorem gk_blind {D : va_G} {cl : List vw_C} {tys : List (ClassId × FieldType)} {av : List Value} {wc : va_W} {sz : Nat} : FrameBlind (va_Pc av (gk_B D cl tys wc sz)) := by
  intro a U g mk q
  obtain ⟨q0, q1, qP, qK, qD, qN⟩ := q
  exact ⟨q0, q1, qP, va_K.moved (u := U) (U := U.calling g mk a) (Vm.Alike.refl U.vm) qK, qD, gk_N.same (u := U) (U := U.calling g mk a) rfl qN⟩
theorem gk_fm {α β : Type} {f : α → Option β} : ∀ (is : List α) (w : List β), is.map f = w.map some → is.filterMap f = w
  | [], [], _ => rfl
  | [], _ :: _, h => by cases h
  | _ :: _, [], h => by cases h
  | a :: is, b :: w, h => by
    have h1 : f a = some b := (List.cons.inj h).1
    have h2 : is.map f = w.map some := (List.cons.inj h).2
    rw [List.filterMap_cons_some h1, gk_fm is w h2]
section
variable {D : va_G} {cl : List vw_C} {tys : List (ClassId × FieldType)} {s : State} {A : Nat → Prop} {H : Heap} {locs : List Loc} {ws wc wr : va_W}
/-- the same cells, fewer or in another order -/
theorem gk_W.re {ws' : va_W} (hW : gk_W D cl tys s A H locs ws) (is : List Nat) (hn : va_nd is = true) (hs : is.map (fun i => ws[i]?) = ws'.map some) : gk_W D cl tys s A H locs ws' :=
  ⟨hW.1, hW.2.1.sub is (gk_fm is ws' hs), hW.2.2.1.sub is hn hs, hW.2.2.2.1, hW.2.2.2.2⟩
theorem gk_W.P (hW : gk_W D cl tys s A H locs ws) : va_P D cl ws H := hW.2.1
/-- what a callee may ask of the cells that it gets -/
theorem gk_pre {av : List Value} (hW : gk_W D cl tys s A H locs ws) (isC : List Nat) (hn : va_nd isC = true) (hC : isC.map (fun i => ws[i]?) = wc.map some) : PreS s H (va_Pc av (gk_B D cl tys wc H.size)) av :=
  ⟨gk_blind, fun U hU hv => ⟨rfl, by rw [hU], by rw [hU]; exact hW.2.1.sub isC (gk_fm isC wc hC), va_K.moved hv.alike hW.1, (hW.2.2.1.sub isC hn hC).weaken (fun _ _ _ _ => trivial), gk_N.warm hv hW.2.2.2.2.2⟩⟩
theorem gk_preV {av : List Value} {a ci : Nat} {fs : List Value} {C : String} {T : u_T} {N : Nat} (hW : gk_W D cl tys s A H locs ws) (isC : List Nat) (hn : va_nd isC = true) (hC : isC.map (fun i => ws[i]?) = wc.map some) (hc : cl[ci]? = some (C, T, N)) (he : wc[0]? = some (a, .inr (ci, fs))) : PreV s H C a (va_Pc (.ref a :: av) (gk_B D cl tys wc H.size)) av :=
  ⟨gk_blind, va_recv hW.1 (hW.2.1.sub isC (gk_fm isC wc hC)) hc he, (gk_pre hW isC hn hC).2⟩
/-- behind a callee that has left its cells as they were -/
theorem gk_W.kept {H1 : Heap} {locs1 : List Loc} (hW : gk_W D cl tys s A H locs ws) (isC : List Nat) (hC : isC.map (fun i => ws[i]?) = wc.map some) (hk : ∀ q : Nat, q < H.size → ¬ va_A wc H.size q → H1[q]? = H[q]?) (hP1 : va_P D cl wc H1) (hS1 : va_S A s.heap H1 locs1) : gk_W D cl tys s A H1 locs1 ws := by
  obtain ⟨hK, hP, hD, hS, hA⟩ := hW
  refine ⟨hK, fun k q hk0 => ?_, hD, hS1, hA⟩
  by_cases hin : ∃ (j : Nat) (e : va_E), wc[j]? = some (q.1, e)
  · obtain ⟨j, e, hj⟩ := hin
    have h1 : (isC.map (fun i => ws[i]?))[j]? = (wc.map some)[j]? := by rw [hC]
    rw [List.getElem?_map, List.getElem?_map, hj] at h1
    cases hi : isC[j]? with
    | none => rw [hi] at h1; cases h1
    | some i =>
      rw [hi] at h1
      have h2 : ws[i]? = some (q.1, e) := Option.some.inj h1
      have h3 : i = k := hD.1 i k _ _ h2 hk0 rfl
      subst h3
      rw [hk0] at h2
      have h4 : q = (q.1, e) := Option.some.inj h2
      have h5 := hP1 j _ hj
      rwa [← h4] at h5
  · refine (hP k q hk0).kept (hk q.1 (hP k q hk0).lt ?_)
    rintro (h | h)
    · exact hin h
    · exact absurd (hP k q hk0).lt (Nat.not_lt.mpr h)
end
section
variable {p : Program} {l : Launch} {e : Env} {R : Room} {s : State} {m : MethodId} {args : Array Value} {below : List Frame} {meth : Method} {c : Code} {H : Heap} {locs : List Loc} {cells slots : Nat} {Q : State → Prop} {D : va_G} {cl : List vw_C} {tys : List (ClassId × FieldType)} {A : Nat → Prop} {ws wc wr : va_W} {pc : Nat} {ls : Array Slot} {rest st0 : List Value} {S : Type} {mc ms : Nat} {a : Array Value}
/-- behind a call that answers an int: the callee's cells as it left them, the rest as it was -/
theorem gk_goI {post : Int32 → S → Prop} {w1 : S → va_W} (hW : gk_W D cl tys s A H locs ws) (isC isR : List Nat) (hC : isC.map (fun i => ws[i]?) = wc.map some) (hR : isR.map (fun i => ws[i]?) = wr.map some) (hn : va_nd isR = true) (hdis : ∀ i ∈ isR, i ∉ isC)
    (hr : va_Run p l e R s m args below meth c H locs cells slots mc ms (F0 m pc ls st0) rest (va_Qi post (gk_E D cl tys w1 (va_A wc H.size)) (va_A wc H.size) a) (va_A wc H.size))
    (kk : ∀ (r : Int32) (u : S) (H1 : Heap) (locs1 : List Loc), post r u → gk_W D cl tys s A H1 locs1 (wr ++ w1 u) → W p l e R s m args below meth c H1 locs1 (cells + mc) (slots + ms) Q (F0 m (pc + 3) ls (.int r :: rest))) : W p l e R s m args below meth c H locs cells slots Q (F0 m pc ls st0) := by
  obtain ⟨hK, hP, hD, hS, hA⟩ := hW
  have hFc := va_free (wc := wc) hD hS hA.1 isC hC
  refine va_calli hr hS (fun q _ h => hFc q h) hFc (fun r u t H1 locs1 ht hvm hw hB hz1 hk1 hS1 => ?_)
  obtain ⟨hP1, hK1, hD1⟩ := hB
  rw [ht] at hP1
  obtain ⟨hP2, hD2⟩ := va_join (wr := wr) (w1 := w1 u) hP hD isC isR hC hR hn hdis hk1 hFc hP1 hD1
  exact kk r u H1 locs1 hw ⟨hK, hP2, hD2, hS1, hA⟩
theorem gk_goV {post : S → Prop} {w1 : S → va_W} (hW : gk_W D cl tys s A H locs ws) (isC isR : List Nat) (hC : isC.map (fun i => ws[i]?) = wc.map some) (hR : isR.map (fun i => ws[i]?) = wr.map some) (hn : va_nd isR = true) (hdis : ∀ i ∈ isR, i ∉ isC)
    (hr : va_Run p l e R s m args below meth c H locs cells slots mc ms (F0 m pc ls st0) rest (va_Qv post (gk_E D cl tys w1 (va_A wc H.size)) (va_A wc H.size) a) (va_A wc H.size))
    (kk : ∀ (u : S) (H1 : Heap) (locs1 : List Loc), post u → gk_W D cl tys s A H1 locs1 (wr ++ w1 u) → W p l e R s m args below meth c H1 locs1 (cells + mc) (slots + ms) Q (F0 m (pc + 3) ls rest)) : W p l e R s m args below meth c H locs cells slots Q (F0 m pc ls st0) := by
  obtain ⟨hK, hP, hD, hS, hA⟩ := hW
  have hFc := va_free (wc := wc) hD hS hA.1 isC hC
  refine va_callv hr hS (fun q _ h => hFc q h) hFc (fun u t H1 locs1 ht hvm hw hB hz1 hk1 hS1 => ?_)
  obtain ⟨hP1, hK1, hD1⟩ := hB
  rw [ht] at hP1
  obtain ⟨hP2, hD2⟩ := va_join (wr := wr) (w1 := w1 u) hP hD isC isR hC hR hn hdis hk1 hFc hP1 hD1
  exact kk u H1 locs1 hw ⟨hK, hP2, hD2, hS1, hA⟩
/-- behind a call that only reads: the answer is v, the world is as it was -/
theorem gk_goR {v : Int32} (hW : gk_W D cl tys s A H locs ws) (isC : List Nat) (hC : isC.map (fun i => ws[i]?) = wc.map some)
    (hr : va_Run p l e R s m args below meth c H locs cells slots 0 0 (F0 m pc ls st0) rest (va_Qi (fun (r : Int32) (_ : Unit) => r = v) (gk_E D cl tys (fun _ => wc) (va_A wc H.size)) (va_A wc H.size) a) (va_A wc H.size))
    (kk : ∀ (H1 : Heap) (locs1 : List Loc), gk_W D cl tys s A H1 locs1 ws → W p l e R s m args below meth c H1 locs1 cells slots Q (F0 m (pc + 3) ls (.int v :: rest))) : W p l e R s m args below meth c H locs cells slots Q (F0 m pc ls st0) := by
  have hFc := va_free (wc := wc) hW.2.2.1 hW.2.2.2.1 hW.2.2.2.2.1 isC hC
  refine va_calli hr hW.2.2.2.1 (fun q _ h => hFc q h) hFc (fun r u t H1 locs1 ht hvm hw hB hz1 hk1 hS1 => ?_)
  obtain ⟨hP1, hK1, hD1⟩ := hB
  rw [ht] at hP1
  subst hw
  exact kk H1 locs1 (hW.kept isC hC hk1 hP1 hS1)
end
section
variable {l : Launch} {y : MethodName} {ws' : List Cond} {rm : Room} {D : va_G} {cl : List vw_C} {tys : List (ClassId × FieldType)} {av : List Value} {wc : va_W} {S : Type} {mc ms : Nat} {cc : ByteArray} {maxL : Nat}
/-- a contract out of a walk: the walk gets its end as a row -/
theorem gk_I.of {post : Int32 → S → Prop} {w1 : S → va_W} {ty : FieldType} (hy : plainName y.cls = true) (hn : (lg_sl av).length ≤ maxL)
    (body : ∀ (p : Program) (e : Env) (s : State) (m : MethodId) (below : List Frame) (meth : Method) (c : Code) (A : Nat → Prop) (ls : Array Slot) (Q : State → Prop) (H : Heap) (locs : List Loc),
      p.tables.exec = Jvm.exec → c.code = cc → c.maxLocals = maxL → s.vm.findClass y.cls = some m.cls → (∀ w ∈ ws', w.before av.toArray s = true) → gk_W D cl tys s A H locs wc → lv_has ls maxL (lv_args 0 av) →
      (∀ (v : Int32) (u : S) (H : Heap) (locs : List Loc) (cells slots pc : Nat) (ls : Array Slot), post v u → gk_W D cl tys s A H locs (w1 u) → decode cc pc = .ok (.ireturn, 1) → narrow ty (.int v) = .int v → cells ≤ mc → slots ≤ ms → W p l e rm s m av.toArray below meth c H locs cells slots Q (F0 m pc ls [.int v])) →
      W p l e rm s m av.toArray below meth c H locs 0 0 Q (F0 m 0 ls [])) : gk_I l y (.code y cc maxL (some ty) :: ws') rm D cl tys av wc post w1 mc ms := by
  intro sz
  refine Met.ofW (cc := cc) (maxL := maxL) (ret := some ty) hy rfl ?_
  intro p e s m args below meth c s₁ B hml hv
  obtain ⟨rfl, hsz, hP, hK, hD0, hN⟩ := hv
  subst hsz
  have hx := B.exec
  have hb := B.bytes
  have hr := B.returns
  have hlocks := B.notSynchronized
  have hts := atoms_spec (ws := .code y cc maxL (some ty) :: ws') B.pre
  have hown : s.vm.findClass y.cls = some m.cls := findClass_of_methodNamed B.named
  have hD := hD0.self (sz := s.heap.size)
  have hl := lv_entry av (n := maxL) hn
  rw [lg_entry_eq]
  refine body p e s m below meth c (va_A wc s.heap.size) _ _ s.heap [] hx hb hml hown (fun w h => hts w (List.mem_cons_of_mem _ h)) ⟨hK, hP, hD, va_S.rf, fun q h => Or.inr h, hN⟩ hl ?_
  intro v u H locs cells slots pc ls hp hW hd hnar hc1 hc2
  refine W.widen hc1 hc2 ?_
  exact W.zret (v := v) hx hb hr hnar (fun t ht hw => ⟨⟨v, u, rfl, hp, by rw [ht]; exact hW.2.1, va_K.moved hw.alike hW.1, hW.2.2.1⟩, hW.2.2.2.1.F ht⟩) hW.2.2.2.1.2.2 hd hlocks
theorem gk_V.of {post : S → Prop} {w1 : S → va_W} (hy : plainName y.cls = true) (hn : (lg_sl av).length ≤ maxL)
    (body : ∀ (p : Program) (e : Env) (s : State) (m : MethodId) (below : List Frame) (meth : Method) (c : Code) (A : Nat → Prop) (ls : Array Slot) (Q : State → Prop) (H : Heap) (locs : List Loc),
      p.tables.exec = Jvm.exec → c.code = cc → c.maxLocals = maxL → s.vm.findClass y.cls = some m.cls → (∀ w ∈ ws', w.before av.toArray s = true) → meth.name = y.name → gk_W D cl tys s A H locs wc → lv_has ls maxL (lv_args 0 av) →
      (∀ (u : S) (H : Heap) (locs : List Loc) (cells slots pc : Nat) (ls : Array Slot), post u → gk_W D cl tys s A H locs (w1 u) → decode cc pc = .ok (.return_, 1) → cells ≤ mc → slots ≤ ms → W p l e rm s m av.toArray below meth c H locs cells slots Q (F0 m pc ls [])) →
      W p l e rm s m av.toArray below meth c H locs 0 0 Q (F0 m 0 ls [])) : gk_V l y (.code y cc maxL none :: ws') rm D cl tys av wc post w1 mc ms := by
  intro sz
  refine Met.ofW (cc := cc) (maxL := maxL) (ret := none) hy rfl ?_
  intro p e s m args below meth c s₁ B hml hv
  obtain ⟨rfl, hsz, hP, hK, hD0, hN⟩ := hv
  subst hsz
  have hx := B.exec
  have hb := B.bytes
  have hr := B.returns
  have hlocks := B.notSynchronized
  have hts := atoms_spec (ws := .code y cc maxL none :: ws') B.pre
  have hown : s.vm.findClass y.cls = some m.cls := findClass_of_methodNamed B.named
  have hin := (name_of_methodNamed B.named B.method).1
  have hD := hD0.self (sz := s.heap.size)
  have hl := lv_entry av (n := maxL) hn
  rw [lg_entry_eq]
  refine body p e s m below meth c (va_A wc s.heap.size) _ _ s.heap [] hx hb hml hown (fun w h => hts w (List.mem_cons_of_mem _ h)) hin ⟨hK, hP, hD, va_S.rf, fun q h => Or.inr h, hN⟩ hl ?_
  intro u H locs cells slots pc ls hp hW hd hc1 hc2
  refine W.widen hc1 hc2 ?_
  exact W.vret hx hb hr (fun t ht hw => ⟨⟨u, rfl, hp, by rw [ht]; exact hW.2.1, va_K.moved hw.alike hW.1, hW.2.2.1⟩, hW.2.2.2.1.F ht⟩) hW.2.2.2.1.2.2 hd hlocks
end
end
section
abbrev R_P : String := "BreakPlaces"
def F_P : u_T := fun k => match k with
  | 0 => ("BreakPlaces", "text", "[I", true)
  | 1 => ("BreakPlaces", "classes", "[I", true)
  | 2 => ("BreakPlaces", "rules", "[I", true)
  | 3 => ("BreakPlaces", "given", "[I", true)
  | 4 => ("BreakPlaces", "classRanges", "LBreakPlaces$Ranges;", true)
  | 5 => ("BreakPlaces", "wide", "LBreakPlaces$Ranges;", true)
  | 6 => ("BreakPlaces", "pictures", "LBreakPlaces$Ranges;", true)
  | 7 => ("BreakPlaces", "before", "LBreakPlaces$Before;", true)
  | 8 => ("BreakPlaces", "length", "I", false)
  | 9 => ("BreakPlaces", "isLoose", "Z", false)
  | _ => ("BreakPlaces", "known", "I", false)
def t_P : Nat → FieldType := fun k => match k with
  | 0 => .array .int
  | 1 => .array .int
  | 2 => .array .int
  | 3 => .array .int
  | 4 => .object "BreakPlaces$Ranges"
  | 5 => .object "BreakPlaces$Ranges"
  | 6 => .object "BreakPlaces$Ranges"
  | 7 => .object "BreakPlaces$Before"
  | 8 => .int
  | 9 => .boolean
  | _ => .int
theorem n_P : ∀ a, a < 11 → ∀ b, b < 11 → a ≠ b → (F_P a).2.1 ≠ (F_P b).2.1 := by decide +kernel
theorem t_P_ok : ∀ k, k < 11 → parseFieldDescriptor (F_P k).2.2.1 = some (t_P k) := by decide +kernel
abbrev R_R : String := "BreakPlaces$Ranges"
def F_R : u_T := fun k => match k with
  | 0 => ("BreakPlaces$Ranges", "firsts", "[I", true)
  | 1 => ("BreakPlaces$Ranges", "lasts", "[I", true)
  | 2 => ("BreakPlaces$Ranges", "values", "[I", true)
  | _ => ("BreakPlaces$Ranges", "many", "I", false)
def t_R : Nat → FieldType := fun k => match k with
  | 0 => .array .int
  | 1 => .array .int
  | 2 => .array .int
  | _ => .int
theorem n_R : ∀ a, a < 4 → ∀ b, b < 4 → a ≠ b → (F_R a).2.1 ≠ (F_R b).2.1 := by decide +kernel
theorem t_R_ok : ∀ k, k < 4 → parseFieldDescriptor (F_R k).2.2.1 = some (t_R k) := by decide +kernel
abbrev R_B : String := "BreakPlaces$Before"
def F_B : u_T := fun k => match k with
  | 0 => ("BreakPlaces$Before", "last", "I", false)
  | 1 => ("BreakPlaces$Before", "a", "I", false)
  | 2 => ("BreakPlaces$Before", "characterA", "I", false)
  | 3 => ("BreakPlaces$Before", "beforeA", "I", false)
  | 4 => ("BreakPlaces$Before", "solid", "I", false)
  | _ => ("BreakPlaces$Before", "oddRow", "Z", false)
def t_B : Nat → FieldType := fun k => match k with
  | 0 => .int
  | 1 => .int
  | 2 => .int
  | 3 => .int
  | 4 => .int
  | _ => .boolean
theorem n_B : ∀ a, a < 6 → ∀ b, b < 6 → a ≠ b → (F_B a).2.1 ≠ (F_B b).2.1 := by decide +kernel
theorem t_B_ok : ∀ k, k < 6 → parseFieldDescriptor (F_B k).2.2.1 = some (t_B k) := by decide +kernel
abbrev R_M : String := "BreakPlacesModel"
def F_M : u_T := fun k => match k with
  | 0 => ("BreakPlacesModel", "fault", "I", false)
  | 1 => ("BreakPlacesModel", "ranges", "I", false)
  | 2 => ("BreakPlacesModel", "firsts", "[I", true)
  | 3 => ("BreakPlacesModel", "lasts", "[I", true)
  | 4 => ("BreakPlacesModel", "kinds", "[I", true)
  | 5 => ("BreakPlacesModel", "marks", "[I", true)
  | 6 => ("BreakPlacesModel", "markFirsts", "[I", true)
  | 7 => ("BreakPlacesModel", "markLasts", "[I", true)
  | 8 => ("BreakPlacesModel", "markAre", "[Z", true)
  | 9 => ("BreakPlacesModel", "isLoose", "Z", false)
  | 10 => ("BreakPlacesModel", "size", "I", false)
  | 11 => ("BreakPlacesModel", "text", "[I", true)
  | 12 => ("BreakPlacesModel", "fresh", "[I", true)
  | _ => ("BreakPlacesModel", "held", "I", false)
def t_M : Nat → FieldType := fun k => match k with
  | 0 => .int
  | 1 => .int
  | 2 => .array .int
  | 3 => .array .int
  | 4 => .array .int
  | 5 => .array .int
  | 6 => .array .int
  | 7 => .array .int
  | 8 => .array .boolean
  | 9 => .boolean
  | 10 => .int
  | 11 => .array .int
  | 12 => .array .int
  | _ => .int
theorem n_M : ∀ a, a < 14 → ∀ b, b < 14 → a ≠ b → (F_M a).2.1 ≠ (F_M b).2.1 := by decide +kernel
theorem t_M_ok : ∀ k, k < 14 → parseFieldDescriptor (F_M k).2.2.1 = some (t_M k) := by decide +kernel
abbrev vwCl : List vw_C := [(R_P, F_P, 11), (R_R, F_R, 4), (R_B, F_B, 6), (R_M, F_M, 14)]
abbrev b_isIn : ByteArray := prog_1_method_36_code
def y_isIn : MethodName := ⟨"BreakPlaces", "isIn", "(IJ)Z"⟩
abbrev b_isCharacter : ByteArray := prog_1_method_15_code
def y_isCharacter : MethodName := ⟨"BreakPlaces", "isCharacter", "(I)Z"⟩
abbrev b_isRange : ByteArray := prog_1_method_16_code
def y_isRange : MethodName := ⟨"BreakPlaces", "isRange", "(II)Z"⟩
abbrev b_standsFor : ByteArray := prog_1_method_37_code
def y_standsFor : MethodName := ⟨"BreakPlaces", "standsFor", "(I)I"⟩
abbrev b_ruleOfGlue : ByteArray := prog_1_method_29_code
def y_ruleOfGlue : MethodName := ⟨"BreakPlaces", "ruleOfGlue", "(II)I"⟩
abbrev b_ruleAcrossSpaces : ByteArray := prog_1_method_30_code
def y_ruleAcrossSpaces : MethodName := ⟨"BreakPlaces", "ruleAcrossSpaces", "(II)I"⟩
abbrev b_ruleOfNumbers : ByteArray := prog_1_method_32_code
def y_ruleOfNumbers : MethodName := ⟨"BreakPlaces", "ruleOfNumbers", "(II)I"⟩
abbrev b_ruleOfWords : ByteArray := prog_1_method_33_code
def y_ruleOfWords : MethodName := ⟨"BreakPlaces", "ruleOfWords", "(II)I"⟩
abbrev b_rIsFull : ByteArray := prog_3_method_2_code
def y_rIsFull : MethodName := ⟨"BreakPlaces$Ranges", "isFull", "()Z"⟩
abbrev b_rTell : ByteArray := prog_3_method_3_code
def y_rTell : MethodName := ⟨"BreakPlaces$Ranges", "tell", "(III)V"⟩
abbrev b_rValueOf : ByteArray := prog_3_method_4_code
def y_rValueOf : MethodName := ⟨"BreakPlaces$Ranges", "valueOf", "(II)I"⟩
abbrev b_isMarked : ByteArray := prog_1_method_35_code
def y_isMarked : MethodName := ⟨"BreakPlaces", "isMarked", "(LBreakPlaces$Ranges;I)Z"⟩
abbrev b_bStart : ByteArray := prog_2_method_2_code
def y_bStart : MethodName := ⟨"BreakPlaces$Before", "start", "()V"⟩
abbrev b_bLeavesout : ByteArray := prog_2_method_3_code
def y_bLeavesout : MethodName := ⟨"BreakPlaces$Before", "leavesOut", "(I)Z"⟩
abbrev b_bPass : ByteArray := prog_2_method_4_code
def y_bPass : MethodName := ⟨"BreakPlaces$Before", "pass", "(II)V"⟩
abbrev b_isPosition : ByteArray := prog_1_method_17_code
def y_isPosition : MethodName := ⟨"BreakPlaces", "isPosition", "(I)Z"⟩
abbrev b_isPlace : ByteArray := prog_1_method_18_code
def y_isPlace : MethodName := ⟨"BreakPlaces", "isPlace", "(I)Z"⟩
abbrev b_forgetRules : ByteArray := prog_1_method_22_code
def y_forgetRules : MethodName := ⟨"BreakPlaces", "forgetRules", "()V"⟩
abbrev b_kindAt : ByteArray := prog_1_method_23_code
def y_kindAt : MethodName := ⟨"BreakPlaces", "kindAt", "(I)I"⟩
abbrev b_isBetween : ByteArray := prog_1_method_25_code
def y_isBetween : MethodName := ⟨"BreakPlaces", "isBetweenCrAndLf", "(I)Z"⟩
abbrev b_ruleOfSpaces : ByteArray := prog_1_method_28_code
def y_ruleOfSpaces : MethodName := ⟨"BreakPlaces", "ruleOfSpaces", "(I)I"⟩
abbrev b_ruleOfSigns : ByteArray := prog_1_method_31_code
def y_ruleOfSigns : MethodName := ⟨"BreakPlaces", "ruleOfSigns", "(II)I"⟩
abbrev b_ruleOfMarks : ByteArray := prog_1_method_34_code
def y_ruleOfMarks : MethodName := ⟨"BreakPlaces", "ruleOfMarks", "(III)I"⟩
abbrev b_findRule : ByteArray := prog_1_method_27_code
def y_findRule : MethodName := ⟨"BreakPlaces", "findRule", "(II)I"⟩
abbrev b_take : ByteArray := prog_1_method_19_code
def y_take : MethodName := ⟨"BreakPlaces", "take", "(IIIII)I"⟩
abbrev b_areCharacters : ByteArray := prog_1_method_20_code
def y_areCharacters : MethodName := ⟨"BreakPlaces", "areCharacters", "(I)Z"⟩
abbrev b_putGiven : ByteArray := prog_1_method_21_code
def y_putGiven : MethodName := ⟨"BreakPlaces", "putGiven", "(III)V"⟩
abbrev b_ruleAt : ByteArray := prog_1_method_26_code
def y_ruleAt : MethodName := ⟨"BreakPlaces", "ruleAt", "(I)I"⟩
abbrev b_breaksAt : ByteArray := prog_1_method_24_code
def y_breaksAt : MethodName := ⟨"BreakPlaces", "breaksAt", "(I)I"⟩
abbrev b_loose : ByteArray := prog_1_method_4_code
def y_loose : MethodName := ⟨"BreakPlaces", "loose", "(Z)Z"⟩
abbrev b_clear : ByteArray := prog_1_method_7_code
def y_clear : MethodName := ⟨"BreakPlaces", "clear", "()I"⟩
abbrev b_mIsChar : ByteArray := prog_5_method_4_code
def y_mIsChar : MethodName := ⟨"BreakPlacesModel", "isChar", "(I)Z"⟩
abbrev b_mIsLetter : ByteArray := prog_5_method_20_code
def y_mIsLetter : MethodName := ⟨"BreakPlacesModel", "isLetter", "(I)Z"⟩
abbrev b_mIsHangul : ByteArray := prog_5_method_21_code
def y_mIsHangul : MethodName := ⟨"BreakPlacesModel", "isHangul", "(I)Z"⟩
abbrev b_mIsBlank : ByteArray := prog_5_method_39_code
def y_mIsBlank : MethodName := ⟨"BreakPlacesModel", "isBlank", "(I)Z"⟩
abbrev b_mIsNumeric : ByteArray := prog_5_method_27_code
def y_mIsNumeric : MethodName := ⟨"BreakPlacesModel", "isNumeric", "(II)Z"⟩
abbrev b_mIsSyllable : ByteArray := prog_5_method_28_code
def y_mIsSyllable : MethodName := ⟨"BreakPlacesModel", "isSyllable", "(II)Z"⟩
abbrev b_mThrown : ByteArray := prog_5_method_2_code
def y_mThrown : MethodName := ⟨"BreakPlacesModel", "thrown", "()I"⟩
abbrev b_mRefused : ByteArray := prog_5_method_3_code
def y_mRefused : MethodName := ⟨"BreakPlacesModel", "refused", "(I)Z"⟩
abbrev b_mTell : ByteArray := prog_5_method_22_code
def y_mTell : MethodName := ⟨"BreakPlacesModel", "tell", "(II)I"⟩
abbrev b_mClear : ByteArray := prog_5_method_13_code
def y_mClear : MethodName := ⟨"BreakPlacesModel", "clear", "()I"⟩
abbrev b_mLoose : ByteArray := prog_5_method_7_code
def y_mLoose : MethodName := ⟨"BreakPlacesModel", "loose", "(Z)Z"⟩
abbrev b_mKeep : ByteArray := prog_5_method_8_code
def y_mKeep : MethodName := ⟨"BreakPlacesModel", "keep", "(IIIII)V"⟩
abbrev b_mProperty : ByteArray := prog_5_method_5_code
def y_mProperty : MethodName := ⟨"BreakPlacesModel", "property", "(III)V"⟩
abbrev b_mGiven : ByteArray := prog_5_method_9_code
def y_mGiven : MethodName := ⟨"BreakPlacesModel", "given", "(I)I"⟩
abbrev b_mIsSound : ByteArray := prog_5_method_10_code
def y_mIsSound : MethodName := ⟨"BreakPlacesModel", "isSound", "(I)Z"⟩
abbrev b_mAdd : ByteArray := prog_5_method_11_code
def y_mAdd : MethodName := ⟨"BreakPlacesModel", "add", "(IIIII)I"⟩
abbrev b_mReplace : ByteArray := prog_5_method_12_code
def y_mReplace : MethodName := ⟨"BreakPlacesModel", "replace", "(IIIII)I"⟩
abbrev b_mClassOf : ByteArray := prog_5_method_14_code
def y_mClassOf : MethodName := ⟨"BreakPlacesModel", "classOf", "(I)I"⟩
abbrev b_mIsMarked : ByteArray := prog_5_method_15_code
def y_mIsMarked : MethodName := ⟨"BreakPlacesModel", "isMarked", "(II)Z"⟩
abbrev b_mMark : ByteArray := prog_5_method_6_code
def y_mMark : MethodName := ⟨"BreakPlacesModel", "mark", "(IIIZ)V"⟩
abbrev b_mIsMark : ByteArray := prog_5_method_16_code
def y_mIsMark : MethodName := ⟨"BreakPlacesModel", "isMark", "(I)Z"⟩
abbrev b_mIsLeftOut : ByteArray := prog_5_method_17_code
def y_mIsLeftOut : MethodName := ⟨"BreakPlacesModel", "isLeftOut", "(I)Z"⟩
abbrev b_mBase : ByteArray := prog_5_method_18_code
def y_mBase : MethodName := ⟨"BreakPlacesModel", "base", "(I)I"⟩
abbrev b_mBaseClass : ByteArray := prog_5_method_19_code
def y_mBaseClass : MethodName := ⟨"BreakPlacesModel", "baseClass", "(I)I"⟩
end
section
theorem d_isIn_0 : decode b_isIn 0 = .ok (.iload_n 0, 1) := by decide +kernel
theorem d_isIn_1 : decode b_isIn 1 = .ok (.ifCond .lt 17, 3) := by decide +kernel
theorem d_isIn_4 : decode b_isIn 4 = .ok (.lload_n 1, 1) := by decide +kernel
theorem d_isIn_5 : decode b_isIn 5 = .ok (.iload_n 0, 1) := by decide +kernel
theorem d_isIn_6 : decode b_isIn 6 = .ok (.lshr, 1) := by decide +kernel
theorem d_isIn_7 : decode b_isIn 7 = .ok (.lconst 1, 1) := by decide +kernel
theorem d_isIn_8 : decode b_isIn 8 = .ok (.land, 1) := by decide +kernel
theorem d_isIn_9 : decode b_isIn 9 = .ok (.lconst 0, 1) := by decide +kernel
theorem d_isIn_10 : decode b_isIn 10 = .ok (.lcmp, 1) := by decide +kernel
theorem d_isIn_11 : decode b_isIn 11 = .ok (.ifCond .eq 7, 3) := by decide +kernel
theorem d_isIn_14 : decode b_isIn 14 = .ok (.iconst 1, 1) := by decide +kernel
theorem d_isIn_15 : decode b_isIn 15 = .ok (.goto 4, 3) := by decide +kernel
theorem d_isIn_18 : decode b_isIn 18 = .ok (.iconst 0, 1) := by decide +kernel
theorem d_isIn_19 : decode b_isIn 19 = .ok (.ireturn, 1) := by decide +kernel
theorem d_isCharacter_0 : decode b_isCharacter 0 = .ok (.iload_n 0, 1) := by decide +kernel
theorem d_isCharacter_1 : decode b_isCharacter 1 = .ok (.ifCond .lt 13, 3) := by decide +kernel
theorem d_isCharacter_4 : decode b_isCharacter 4 = .ok (.iload_n 0, 1) := by decide +kernel
theorem d_isCharacter_5 : decode b_isCharacter 5 = .ok (.ldc 134, 2) := by decide +kernel
theorem d_isCharacter_7 : decode b_isCharacter 7 = .ok (.if_icmp .gt 7, 3) := by decide +kernel
theorem d_isCharacter_10 : decode b_isCharacter 10 = .ok (.iconst 1, 1) := by decide +kernel
theorem d_isCharacter_11 : decode b_isCharacter 11 = .ok (.goto 4, 3) := by decide +kernel
theorem d_isCharacter_14 : decode b_isCharacter 14 = .ok (.iconst 0, 1) := by decide +kernel
theorem d_isCharacter_15 : decode b_isCharacter 15 = .ok (.ireturn, 1) := by decide +kernel
theorem d_isRange_0 : decode b_isRange 0 = .ok (.iload_n 0, 1) := by decide +kernel
theorem d_isRange_1 : decode b_isRange 1 = .ok (.invokestatic 135, 3) := by decide +kernel
theorem d_isRange_4 : decode b_isRange 4 = .ok (.ifCond .eq 19, 3) := by decide +kernel
theorem d_isRange_7 : decode b_isRange 7 = .ok (.iload_n 1, 1) := by decide +kernel
theorem d_isRange_8 : decode b_isRange 8 = .ok (.invokestatic 135, 3) := by decide +kernel
theorem d_isRange_11 : decode b_isRange 11 = .ok (.ifCond .eq 12, 3) := by decide +kernel
theorem d_isRange_14 : decode b_isRange 14 = .ok (.iload_n 0, 1) := by decide +kernel
theorem d_isRange_15 : decode b_isRange 15 = .ok (.iload_n 1, 1) := by decide +kernel
theorem d_isRange_16 : decode b_isRange 16 = .ok (.if_icmp .gt 7, 3) := by decide +kernel
theorem d_isRange_19 : decode b_isRange 19 = .ok (.iconst 1, 1) := by decide +kernel
theorem d_isRange_20 : decode b_isRange 20 = .ok (.goto 4, 3) := by decide +kernel
theorem d_isRange_23 : decode b_isRange 23 = .ok (.iconst 0, 1) := by decide +kernel
theorem d_isRange_24 : decode b_isRange 24 = .ok (.ireturn, 1) := by decide +kernel
theorem d_standsFor_0 : decode b_standsFor 0 = .ok (.iload_n 0, 1) := by decide +kernel
theorem d_standsFor_1 : decode b_standsFor 1 = .ok (.ldc2_w 235, 3) := by decide +kernel
theorem d_standsFor_4 : decode b_standsFor 4 = .ok (.invokestatic 130, 3) := by decide +kernel
theorem d_standsFor_7 : decode b_standsFor 7 = .ok (.ifCond .eq 8, 3) := by decide +kernel
theorem d_standsFor_10 : decode b_standsFor 10 = .ok (.bipush 27, 2) := by decide +kernel
theorem d_standsFor_12 : decode b_standsFor 12 = .ok (.goto 4, 3) := by decide +kernel
theorem d_standsFor_15 : decode b_standsFor 15 = .ok (.iload_n 0, 1) := by decide +kernel
theorem d_standsFor_16 : decode b_standsFor 16 = .ok (.ireturn, 1) := by decide +kernel
theorem d_ruleOfGlue_0 : decode b_ruleOfGlue 0 = .ok (.iload_n 0, 1) := by decide +kernel
theorem d_ruleOfGlue_1 : decode b_ruleOfGlue 1 = .ok (.bipush 6, 2) := by decide +kernel
theorem d_ruleOfGlue_3 : decode b_ruleOfGlue 3 = .ok (.if_icmp .eq 9, 3) := by decide +kernel
theorem d_ruleOfGlue_6 : decode b_ruleOfGlue 6 = .ok (.iload_n 1, 1) := by decide +kernel
theorem d_ruleOfGlue_7 : decode b_ruleOfGlue 7 = .ok (.bipush 6, 2) := by decide +kernel
theorem d_ruleOfGlue_9 : decode b_ruleOfGlue 9 = .ok (.if_icmp .ne 6, 3) := by decide +kernel
theorem d_ruleOfGlue_12 : decode b_ruleOfGlue 12 = .ok (.bipush 110, 2) := by decide +kernel
theorem d_ruleOfGlue_14 : decode b_ruleOfGlue 14 = .ok (.ireturn, 1) := by decide +kernel
theorem d_ruleOfGlue_15 : decode b_ruleOfGlue 15 = .ok (.iload_n 0, 1) := by decide +kernel
theorem d_ruleOfGlue_16 : decode b_ruleOfGlue 16 = .ok (.bipush 9, 2) := by decide +kernel
theorem d_ruleOfGlue_18 : decode b_ruleOfGlue 18 = .ok (.if_icmp .ne 6, 3) := by decide +kernel
theorem d_ruleOfGlue_21 : decode b_ruleOfGlue 21 = .ok (.bipush 120, 2) := by decide +kernel
theorem d_ruleOfGlue_23 : decode b_ruleOfGlue 23 = .ok (.ireturn, 1) := by decide +kernel
theorem d_ruleOfGlue_24 : decode b_ruleOfGlue 24 = .ok (.iload_n 1, 1) := by decide +kernel
theorem d_ruleOfGlue_25 : decode b_ruleOfGlue 25 = .ok (.bipush 9, 2) := by decide +kernel
theorem d_ruleOfGlue_27 : decode b_ruleOfGlue 27 = .ok (.if_icmp .ne 21, 3) := by decide +kernel
theorem d_ruleOfGlue_30 : decode b_ruleOfGlue 30 = .ok (.iload_n 0, 1) := by decide +kernel
theorem d_ruleOfGlue_31 : decode b_ruleOfGlue 31 = .ok (.iconst 4, 1) := by decide +kernel
theorem d_ruleOfGlue_32 : decode b_ruleOfGlue 32 = .ok (.if_icmp .eq 16, 3) := by decide +kernel
theorem d_ruleOfGlue_35 : decode b_ruleOfGlue 35 = .ok (.iload_n 0, 1) := by decide +kernel
theorem d_ruleOfGlue_36 : decode b_ruleOfGlue 36 = .ok (.ldc2_w 202, 3) := by decide +kernel
theorem d_ruleOfGlue_39 : decode b_ruleOfGlue 39 = .ok (.invokestatic 130, 3) := by decide +kernel
theorem d_ruleOfGlue_42 : decode b_ruleOfGlue 42 = .ok (.ifCond .ne 6, 3) := by decide +kernel
theorem d_ruleOfGlue_45 : decode b_ruleOfGlue 45 = .ok (.bipush 121, 2) := by decide +kernel
theorem d_ruleOfGlue_47 : decode b_ruleOfGlue 47 = .ok (.ireturn, 1) := by decide +kernel
theorem d_ruleOfGlue_48 : decode b_ruleOfGlue 48 = .ok (.iload_n 1, 1) := by decide +kernel
theorem d_ruleOfGlue_49 : decode b_ruleOfGlue 49 = .ok (.ldc2_w 204, 3) := by decide +kernel
theorem d_ruleOfGlue_52 : decode b_ruleOfGlue 52 = .ok (.invokestatic 130, 3) := by decide +kernel
theorem d_ruleOfGlue_55 : decode b_ruleOfGlue 55 = .ok (.ifCond .eq 9, 3) := by decide +kernel
theorem d_ruleOfGlue_58 : decode b_ruleOfGlue 58 = .ok (.sipush 130, 3) := by decide +kernel
theorem d_ruleOfGlue_61 : decode b_ruleOfGlue 61 = .ok (.goto 4, 3) := by decide +kernel
theorem d_ruleOfGlue_64 : decode b_ruleOfGlue 64 = .ok (.iconst 0, 1) := by decide +kernel
theorem d_ruleOfGlue_65 : decode b_ruleOfGlue 65 = .ok (.ireturn, 1) := by decide +kernel
theorem d_ruleAcrossSpaces_0 : decode b_ruleAcrossSpaces 0 = .ok (.iload_n 0, 1) := by decide +kernel
theorem d_ruleAcrossSpaces_1 : decode b_ruleAcrossSpaces 1 = .ok (.bipush 20, 2) := by decide +kernel
theorem d_ruleAcrossSpaces_3 : decode b_ruleAcrossSpaces 3 = .ok (.if_icmp .ne 7, 3) := by decide +kernel
theorem d_ruleAcrossSpaces_6 : decode b_ruleAcrossSpaces 6 = .ok (.sipush 140, 3) := by decide +kernel
theorem d_ruleAcrossSpaces_9 : decode b_ruleAcrossSpaces 9 = .ok (.ireturn, 1) := by decide +kernel
theorem d_ruleAcrossSpaces_10 : decode b_ruleAcrossSpaces 10 = .ok (.iload_n 0, 1) := by decide +kernel
theorem d_ruleAcrossSpaces_11 : decode b_ruleAcrossSpaces 11 = .ok (.bipush 21, 2) := by decide +kernel
theorem d_ruleAcrossSpaces_13 : decode b_ruleAcrossSpaces 13 = .ok (.if_icmp .ne 13, 3) := by decide +kernel
theorem d_ruleAcrossSpaces_16 : decode b_ruleAcrossSpaces 16 = .ok (.iload_n 1, 1) := by decide +kernel
theorem d_ruleAcrossSpaces_17 : decode b_ruleAcrossSpaces 17 = .ok (.bipush 20, 2) := by decide +kernel
theorem d_ruleAcrossSpaces_19 : decode b_ruleAcrossSpaces 19 = .ok (.if_icmp .ne 7, 3) := by decide +kernel
theorem d_ruleAcrossSpaces_22 : decode b_ruleAcrossSpaces 22 = .ok (.sipush 150, 3) := by decide +kernel
theorem d_ruleAcrossSpaces_25 : decode b_ruleAcrossSpaces 25 = .ok (.ireturn, 1) := by decide +kernel
theorem d_ruleAcrossSpaces_26 : decode b_ruleAcrossSpaces 26 = .ok (.iload_n 0, 1) := by decide +kernel
theorem d_ruleAcrossSpaces_27 : decode b_ruleAcrossSpaces 27 = .ok (.ldc2_w 206, 3) := by decide +kernel
theorem d_ruleAcrossSpaces_30 : decode b_ruleAcrossSpaces 30 = .ok (.invokestatic 130, 3) := by decide +kernel
theorem d_ruleAcrossSpaces_33 : decode b_ruleAcrossSpaces 33 = .ok (.ifCond .eq 13, 3) := by decide +kernel
theorem d_ruleAcrossSpaces_36 : decode b_ruleAcrossSpaces 36 = .ok (.iload_n 1, 1) := by decide +kernel
theorem d_ruleAcrossSpaces_37 : decode b_ruleAcrossSpaces 37 = .ok (.bipush 19, 2) := by decide +kernel
theorem d_ruleAcrossSpaces_39 : decode b_ruleAcrossSpaces 39 = .ok (.if_icmp .ne 7, 3) := by decide +kernel
theorem d_ruleAcrossSpaces_42 : decode b_ruleAcrossSpaces 42 = .ok (.sipush 160, 3) := by decide +kernel
theorem d_ruleAcrossSpaces_45 : decode b_ruleAcrossSpaces 45 = .ok (.ireturn, 1) := by decide +kernel
theorem d_ruleAcrossSpaces_46 : decode b_ruleAcrossSpaces 46 = .ok (.iload_n 0, 1) := by decide +kernel
theorem d_ruleAcrossSpaces_47 : decode b_ruleAcrossSpaces 47 = .ok (.bipush 10, 2) := by decide +kernel
theorem d_ruleAcrossSpaces_49 : decode b_ruleAcrossSpaces 49 = .ok (.if_icmp .ne 15, 3) := by decide +kernel
theorem d_ruleAcrossSpaces_52 : decode b_ruleAcrossSpaces 52 = .ok (.iload_n 1, 1) := by decide +kernel
theorem d_ruleAcrossSpaces_53 : decode b_ruleAcrossSpaces 53 = .ok (.bipush 10, 2) := by decide +kernel
theorem d_ruleAcrossSpaces_55 : decode b_ruleAcrossSpaces 55 = .ok (.if_icmp .ne 9, 3) := by decide +kernel
theorem d_ruleAcrossSpaces_58 : decode b_ruleAcrossSpaces 58 = .ok (.sipush 170, 3) := by decide +kernel
theorem d_ruleAcrossSpaces_61 : decode b_ruleAcrossSpaces 61 = .ok (.goto 4, 3) := by decide +kernel
theorem d_ruleAcrossSpaces_64 : decode b_ruleAcrossSpaces 64 = .ok (.iconst 0, 1) := by decide +kernel
theorem d_ruleAcrossSpaces_65 : decode b_ruleAcrossSpaces 65 = .ok (.ireturn, 1) := by decide +kernel
theorem d_ruleOfNumbers_0 : decode b_ruleOfNumbers 0 = .ok (.iload_n 0, 1) := by decide +kernel
theorem d_ruleOfNumbers_1 : decode b_ruleOfNumbers 1 = .ok (.ldc2_w 211, 3) := by decide +kernel
theorem d_ruleOfNumbers_4 : decode b_ruleOfNumbers 4 = .ok (.invokestatic 130, 3) := by decide +kernel
theorem d_ruleOfNumbers_7 : decode b_ruleOfNumbers 7 = .ok (.ifCond .eq 9, 3) := by decide +kernel
theorem d_ruleOfNumbers_10 : decode b_ruleOfNumbers 10 = .ok (.iload_n 1, 1) := by decide +kernel
theorem d_ruleOfNumbers_11 : decode b_ruleOfNumbers 11 = .ok (.bipush 23, 2) := by decide +kernel
theorem d_ruleOfNumbers_13 : decode b_ruleOfNumbers 13 = .ok (.if_icmp .eq 19, 3) := by decide +kernel
theorem d_ruleOfNumbers_16 : decode b_ruleOfNumbers 16 = .ok (.iload_n 0, 1) := by decide +kernel
theorem d_ruleOfNumbers_17 : decode b_ruleOfNumbers 17 = .ok (.bipush 23, 2) := by decide +kernel
theorem d_ruleOfNumbers_19 : decode b_ruleOfNumbers 19 = .ok (.if_icmp .ne 17, 3) := by decide +kernel
theorem d_ruleOfNumbers_22 : decode b_ruleOfNumbers 22 = .ok (.iload_n 1, 1) := by decide +kernel
theorem d_ruleOfNumbers_23 : decode b_ruleOfNumbers 23 = .ok (.ldc2_w 211, 3) := by decide +kernel
theorem d_ruleOfNumbers_26 : decode b_ruleOfNumbers 26 = .ok (.invokestatic 130, 3) := by decide +kernel
theorem d_ruleOfNumbers_29 : decode b_ruleOfNumbers 29 = .ok (.ifCond .eq 7, 3) := by decide +kernel
theorem d_ruleOfNumbers_32 : decode b_ruleOfNumbers 32 = .ok (.sipush 230, 3) := by decide +kernel
theorem d_ruleOfNumbers_35 : decode b_ruleOfNumbers 35 = .ok (.ireturn, 1) := by decide +kernel
theorem d_ruleOfNumbers_36 : decode b_ruleOfNumbers 36 = .ok (.iload_n 0, 1) := by decide +kernel
theorem d_ruleOfNumbers_37 : decode b_ruleOfNumbers 37 = .ok (.bipush 25, 2) := by decide +kernel
theorem d_ruleOfNumbers_39 : decode b_ruleOfNumbers 39 = .ok (.if_icmp .ne 13, 3) := by decide +kernel
theorem d_ruleOfNumbers_42 : decode b_ruleOfNumbers 42 = .ok (.iload_n 1, 1) := by decide +kernel
theorem d_ruleOfNumbers_43 : decode b_ruleOfNumbers 43 = .ok (.ldc2_w 213, 3) := by decide +kernel
theorem d_ruleOfNumbers_46 : decode b_ruleOfNumbers 46 = .ok (.invokestatic 130, 3) := by decide +kernel
theorem d_ruleOfNumbers_49 : decode b_ruleOfNumbers 49 = .ok (.ifCond .ne 19, 3) := by decide +kernel
theorem d_ruleOfNumbers_52 : decode b_ruleOfNumbers 52 = .ok (.iload_n 0, 1) := by decide +kernel
theorem d_ruleOfNumbers_53 : decode b_ruleOfNumbers 53 = .ok (.ldc2_w 213, 3) := by decide +kernel
theorem d_ruleOfNumbers_56 : decode b_ruleOfNumbers 56 = .ok (.invokestatic 130, 3) := by decide +kernel
theorem d_ruleOfNumbers_59 : decode b_ruleOfNumbers 59 = .ok (.ifCond .eq 13, 3) := by decide +kernel
theorem d_ruleOfNumbers_62 : decode b_ruleOfNumbers 62 = .ok (.iload_n 1, 1) := by decide +kernel
theorem d_ruleOfNumbers_63 : decode b_ruleOfNumbers 63 = .ok (.bipush 24, 2) := by decide +kernel
theorem d_ruleOfNumbers_65 : decode b_ruleOfNumbers 65 = .ok (.if_icmp .ne 7, 3) := by decide +kernel
theorem d_ruleOfNumbers_68 : decode b_ruleOfNumbers 68 = .ok (.sipush 231, 3) := by decide +kernel
theorem d_ruleOfNumbers_71 : decode b_ruleOfNumbers 71 = .ok (.ireturn, 1) := by decide +kernel
theorem d_ruleOfNumbers_72 : decode b_ruleOfNumbers 72 = .ok (.iload_n 0, 1) := by decide +kernel
theorem d_ruleOfNumbers_73 : decode b_ruleOfNumbers 73 = .ok (.ldc2_w 215, 3) := by decide +kernel
theorem d_ruleOfNumbers_76 : decode b_ruleOfNumbers 76 = .ok (.invokestatic 130, 3) := by decide +kernel
theorem d_ruleOfNumbers_79 : decode b_ruleOfNumbers 79 = .ok (.ifCond .eq 13, 3) := by decide +kernel
theorem d_ruleOfNumbers_82 : decode b_ruleOfNumbers 82 = .ok (.iload_n 1, 1) := by decide +kernel
theorem d_ruleOfNumbers_83 : decode b_ruleOfNumbers 83 = .ok (.ldc2_w 211, 3) := by decide +kernel
theorem d_ruleOfNumbers_86 : decode b_ruleOfNumbers 86 = .ok (.invokestatic 130, 3) := by decide +kernel
theorem d_ruleOfNumbers_89 : decode b_ruleOfNumbers 89 = .ok (.ifCond .ne 23, 3) := by decide +kernel
theorem d_ruleOfNumbers_92 : decode b_ruleOfNumbers 92 = .ok (.iload_n 0, 1) := by decide +kernel
theorem d_ruleOfNumbers_93 : decode b_ruleOfNumbers 93 = .ok (.ldc2_w 211, 3) := by decide +kernel
theorem d_ruleOfNumbers_96 : decode b_ruleOfNumbers 96 = .ok (.invokestatic 130, 3) := by decide +kernel
theorem d_ruleOfNumbers_99 : decode b_ruleOfNumbers 99 = .ok (.ifCond .eq 17, 3) := by decide +kernel
theorem d_ruleOfNumbers_102 : decode b_ruleOfNumbers 102 = .ok (.iload_n 1, 1) := by decide +kernel
theorem d_ruleOfNumbers_103 : decode b_ruleOfNumbers 103 = .ok (.ldc2_w 215, 3) := by decide +kernel
theorem d_ruleOfNumbers_106 : decode b_ruleOfNumbers 106 = .ok (.invokestatic 130, 3) := by decide +kernel
theorem d_ruleOfNumbers_109 : decode b_ruleOfNumbers 109 = .ok (.ifCond .eq 7, 3) := by decide +kernel
theorem d_ruleOfNumbers_112 : decode b_ruleOfNumbers 112 = .ok (.sipush 240, 3) := by decide +kernel
theorem d_ruleOfNumbers_115 : decode b_ruleOfNumbers 115 = .ok (.ireturn, 1) := by decide +kernel
theorem d_ruleOfNumbers_116 : decode b_ruleOfNumbers 116 = .ok (.iload_n 0, 1) := by decide +kernel
theorem d_ruleOfNumbers_117 : decode b_ruleOfNumbers 117 = .ok (.ldc2_w 217, 3) := by decide +kernel
theorem d_ruleOfNumbers_120 : decode b_ruleOfNumbers 120 = .ok (.invokestatic 130, 3) := by decide +kernel
theorem d_ruleOfNumbers_123 : decode b_ruleOfNumbers 123 = .ok (.ifCond .eq 17, 3) := by decide +kernel
theorem d_ruleOfNumbers_126 : decode b_ruleOfNumbers 126 = .ok (.iload_n 1, 1) := by decide +kernel
theorem d_ruleOfNumbers_127 : decode b_ruleOfNumbers 127 = .ok (.ldc2_w 215, 3) := by decide +kernel
theorem d_ruleOfNumbers_130 : decode b_ruleOfNumbers 130 = .ok (.invokestatic 130, 3) := by decide +kernel
theorem d_ruleOfNumbers_133 : decode b_ruleOfNumbers 133 = .ok (.ifCond .eq 7, 3) := by decide +kernel
theorem d_ruleOfNumbers_136 : decode b_ruleOfNumbers 136 = .ok (.sipush 250, 3) := by decide +kernel
theorem d_ruleOfNumbers_139 : decode b_ruleOfNumbers 139 = .ok (.ireturn, 1) := by decide +kernel
theorem d_ruleOfNumbers_140 : decode b_ruleOfNumbers 140 = .ok (.iload_n 0, 1) := by decide +kernel
theorem d_ruleOfNumbers_141 : decode b_ruleOfNumbers 141 = .ok (.ldc2_w 215, 3) := by decide +kernel
theorem d_ruleOfNumbers_144 : decode b_ruleOfNumbers 144 = .ok (.invokestatic 130, 3) := by decide +kernel
theorem d_ruleOfNumbers_147 : decode b_ruleOfNumbers 147 = .ok (.ifCond .eq 19, 3) := by decide +kernel
theorem d_ruleOfNumbers_150 : decode b_ruleOfNumbers 150 = .ok (.iload_n 1, 1) := by decide +kernel
theorem d_ruleOfNumbers_151 : decode b_ruleOfNumbers 151 = .ok (.bipush 20, 2) := by decide +kernel
theorem d_ruleOfNumbers_153 : decode b_ruleOfNumbers 153 = .ok (.if_icmp .eq 9, 3) := by decide +kernel
theorem d_ruleOfNumbers_156 : decode b_ruleOfNumbers 156 = .ok (.iload_n 1, 1) := by decide +kernel
theorem d_ruleOfNumbers_157 : decode b_ruleOfNumbers 157 = .ok (.bipush 23, 2) := by decide +kernel
theorem d_ruleOfNumbers_159 : decode b_ruleOfNumbers 159 = .ok (.if_icmp .ne 7, 3) := by decide +kernel
theorem d_ruleOfNumbers_162 : decode b_ruleOfNumbers 162 = .ok (.sipush 250, 3) := by decide +kernel
theorem d_ruleOfNumbers_165 : decode b_ruleOfNumbers 165 = .ok (.ireturn, 1) := by decide +kernel
theorem d_ruleOfNumbers_166 : decode b_ruleOfNumbers 166 = .ok (.iload_n 0, 1) := by decide +kernel
theorem d_ruleOfNumbers_167 : decode b_ruleOfNumbers 167 = .ok (.ldc2_w 219, 3) := by decide +kernel
theorem d_ruleOfNumbers_170 : decode b_ruleOfNumbers 170 = .ok (.invokestatic 130, 3) := by decide +kernel
theorem d_ruleOfNumbers_173 : decode b_ruleOfNumbers 173 = .ok (.ifCond .eq 15, 3) := by decide +kernel
theorem d_ruleOfNumbers_176 : decode b_ruleOfNumbers 176 = .ok (.iload_n 1, 1) := by decide +kernel
theorem d_ruleOfNumbers_177 : decode b_ruleOfNumbers 177 = .ok (.bipush 23, 2) := by decide +kernel
theorem d_ruleOfNumbers_179 : decode b_ruleOfNumbers 179 = .ok (.if_icmp .ne 9, 3) := by decide +kernel
theorem d_ruleOfNumbers_182 : decode b_ruleOfNumbers 182 = .ok (.sipush 250, 3) := by decide +kernel
theorem d_ruleOfNumbers_185 : decode b_ruleOfNumbers 185 = .ok (.goto 4, 3) := by decide +kernel
theorem d_ruleOfNumbers_188 : decode b_ruleOfNumbers 188 = .ok (.iconst 0, 1) := by decide +kernel
theorem d_ruleOfNumbers_189 : decode b_ruleOfNumbers 189 = .ok (.ireturn, 1) := by decide +kernel
theorem d_ruleOfWords_0 : decode b_ruleOfWords 0 = .ok (.iload_n 0, 1) := by decide +kernel
theorem d_ruleOfWords_1 : decode b_ruleOfWords 1 = .ok (.bipush 34, 2) := by decide +kernel
theorem d_ruleOfWords_3 : decode b_ruleOfWords 3 = .ok (.if_icmp .ne 31, 3) := by decide +kernel
theorem d_ruleOfWords_6 : decode b_ruleOfWords 6 = .ok (.iload_n 1, 1) := by decide +kernel
theorem d_ruleOfWords_7 : decode b_ruleOfWords 7 = .ok (.bipush 34, 2) := by decide +kernel
theorem d_ruleOfWords_9 : decode b_ruleOfWords 9 = .ok (.if_icmp .eq 21, 3) := by decide +kernel
theorem d_ruleOfWords_12 : decode b_ruleOfWords 12 = .ok (.iload_n 1, 1) := by decide +kernel
theorem d_ruleOfWords_13 : decode b_ruleOfWords 13 = .ok (.bipush 35, 2) := by decide +kernel
theorem d_ruleOfWords_15 : decode b_ruleOfWords 15 = .ok (.if_icmp .eq 15, 3) := by decide +kernel
theorem d_ruleOfWords_18 : decode b_ruleOfWords 18 = .ok (.iload_n 1, 1) := by decide +kernel
theorem d_ruleOfWords_19 : decode b_ruleOfWords 19 = .ok (.bipush 32, 2) := by decide +kernel
theorem d_ruleOfWords_21 : decode b_ruleOfWords 21 = .ok (.if_icmp .eq 9, 3) := by decide +kernel
theorem d_ruleOfWords_24 : decode b_ruleOfWords 24 = .ok (.iload_n 1, 1) := by decide +kernel
theorem d_ruleOfWords_25 : decode b_ruleOfWords 25 = .ok (.bipush 33, 2) := by decide +kernel
theorem d_ruleOfWords_27 : decode b_ruleOfWords 27 = .ok (.if_icmp .ne 7, 3) := by decide +kernel
theorem d_ruleOfWords_30 : decode b_ruleOfWords 30 = .ok (.sipush 260, 3) := by decide +kernel
theorem d_ruleOfWords_33 : decode b_ruleOfWords 33 = .ok (.ireturn, 1) := by decide +kernel
theorem d_ruleOfWords_34 : decode b_ruleOfWords 34 = .ok (.iload_n 0, 1) := by decide +kernel
theorem d_ruleOfWords_35 : decode b_ruleOfWords 35 = .ok (.bipush 35, 2) := by decide +kernel
theorem d_ruleOfWords_37 : decode b_ruleOfWords 37 = .ok (.if_icmp .eq 9, 3) := by decide +kernel
theorem d_ruleOfWords_40 : decode b_ruleOfWords 40 = .ok (.iload_n 0, 1) := by decide +kernel
theorem d_ruleOfWords_41 : decode b_ruleOfWords 41 = .ok (.bipush 32, 2) := by decide +kernel
theorem d_ruleOfWords_43 : decode b_ruleOfWords 43 = .ok (.if_icmp .ne 19, 3) := by decide +kernel
theorem d_ruleOfWords_46 : decode b_ruleOfWords 46 = .ok (.iload_n 1, 1) := by decide +kernel
theorem d_ruleOfWords_47 : decode b_ruleOfWords 47 = .ok (.bipush 35, 2) := by decide +kernel
theorem d_ruleOfWords_49 : decode b_ruleOfWords 49 = .ok (.if_icmp .eq 9, 3) := by decide +kernel
theorem d_ruleOfWords_52 : decode b_ruleOfWords 52 = .ok (.iload_n 1, 1) := by decide +kernel
theorem d_ruleOfWords_53 : decode b_ruleOfWords 53 = .ok (.bipush 36, 2) := by decide +kernel
theorem d_ruleOfWords_55 : decode b_ruleOfWords 55 = .ok (.if_icmp .ne 7, 3) := by decide +kernel
theorem d_ruleOfWords_58 : decode b_ruleOfWords 58 = .ok (.sipush 260, 3) := by decide +kernel
theorem d_ruleOfWords_61 : decode b_ruleOfWords 61 = .ok (.ireturn, 1) := by decide +kernel
theorem d_ruleOfWords_62 : decode b_ruleOfWords 62 = .ok (.iload_n 0, 1) := by decide +kernel
theorem d_ruleOfWords_63 : decode b_ruleOfWords 63 = .ok (.bipush 36, 2) := by decide +kernel
theorem d_ruleOfWords_65 : decode b_ruleOfWords 65 = .ok (.if_icmp .eq 9, 3) := by decide +kernel
theorem d_ruleOfWords_68 : decode b_ruleOfWords 68 = .ok (.iload_n 0, 1) := by decide +kernel
theorem d_ruleOfWords_69 : decode b_ruleOfWords 69 = .ok (.bipush 33, 2) := by decide +kernel
theorem d_ruleOfWords_71 : decode b_ruleOfWords 71 = .ok (.if_icmp .ne 13, 3) := by decide +kernel
theorem d_ruleOfWords_74 : decode b_ruleOfWords 74 = .ok (.iload_n 1, 1) := by decide +kernel
theorem d_ruleOfWords_75 : decode b_ruleOfWords 75 = .ok (.bipush 36, 2) := by decide +kernel
theorem d_ruleOfWords_77 : decode b_ruleOfWords 77 = .ok (.if_icmp .ne 7, 3) := by decide +kernel
theorem d_ruleOfWords_80 : decode b_ruleOfWords 80 = .ok (.sipush 260, 3) := by decide +kernel
theorem d_ruleOfWords_83 : decode b_ruleOfWords 83 = .ok (.ireturn, 1) := by decide +kernel
theorem d_ruleOfWords_84 : decode b_ruleOfWords 84 = .ok (.iload_n 0, 1) := by decide +kernel
theorem d_ruleOfWords_85 : decode b_ruleOfWords 85 = .ok (.ldc2_w 221, 3) := by decide +kernel
theorem d_ruleOfWords_88 : decode b_ruleOfWords 88 = .ok (.invokestatic 130, 3) := by decide +kernel
theorem d_ruleOfWords_91 : decode b_ruleOfWords 91 = .ok (.ifCond .eq 9, 3) := by decide +kernel
theorem d_ruleOfWords_94 : decode b_ruleOfWords 94 = .ok (.iload_n 1, 1) := by decide +kernel
theorem d_ruleOfWords_95 : decode b_ruleOfWords 95 = .ok (.bipush 24, 2) := by decide +kernel
theorem d_ruleOfWords_97 : decode b_ruleOfWords 97 = .ok (.if_icmp .eq 19, 3) := by decide +kernel
theorem d_ruleOfWords_100 : decode b_ruleOfWords 100 = .ok (.iload_n 0, 1) := by decide +kernel
theorem d_ruleOfWords_101 : decode b_ruleOfWords 101 = .ok (.bipush 25, 2) := by decide +kernel
theorem d_ruleOfWords_103 : decode b_ruleOfWords 103 = .ok (.if_icmp .ne 17, 3) := by decide +kernel
theorem d_ruleOfWords_106 : decode b_ruleOfWords 106 = .ok (.iload_n 1, 1) := by decide +kernel
theorem d_ruleOfWords_107 : decode b_ruleOfWords 107 = .ok (.ldc2_w 221, 3) := by decide +kernel
theorem d_ruleOfWords_110 : decode b_ruleOfWords 110 = .ok (.invokestatic 130, 3) := by decide +kernel
theorem d_ruleOfWords_113 : decode b_ruleOfWords 113 = .ok (.ifCond .eq 7, 3) := by decide +kernel
theorem d_ruleOfWords_116 : decode b_ruleOfWords 116 = .ok (.sipush 270, 3) := by decide +kernel
theorem d_ruleOfWords_119 : decode b_ruleOfWords 119 = .ok (.ireturn, 1) := by decide +kernel
theorem d_ruleOfWords_120 : decode b_ruleOfWords 120 = .ok (.iload_n 0, 1) := by decide +kernel
theorem d_ruleOfWords_121 : decode b_ruleOfWords 121 = .ok (.ldc2_w 211, 3) := by decide +kernel
theorem d_ruleOfWords_124 : decode b_ruleOfWords 124 = .ok (.invokestatic 130, 3) := by decide +kernel
theorem d_ruleOfWords_127 : decode b_ruleOfWords 127 = .ok (.ifCond .eq 17, 3) := by decide +kernel
theorem d_ruleOfWords_130 : decode b_ruleOfWords 130 = .ok (.iload_n 1, 1) := by decide +kernel
theorem d_ruleOfWords_131 : decode b_ruleOfWords 131 = .ok (.ldc2_w 211, 3) := by decide +kernel
theorem d_ruleOfWords_134 : decode b_ruleOfWords 134 = .ok (.invokestatic 130, 3) := by decide +kernel
theorem d_ruleOfWords_137 : decode b_ruleOfWords 137 = .ok (.ifCond .eq 7, 3) := by decide +kernel
theorem d_ruleOfWords_140 : decode b_ruleOfWords 140 = .ok (.sipush 280, 3) := by decide +kernel
theorem d_ruleOfWords_143 : decode b_ruleOfWords 143 = .ok (.ireturn, 1) := by decide +kernel
theorem d_ruleOfWords_144 : decode b_ruleOfWords 144 = .ok (.iload_n 0, 1) := by decide +kernel
theorem d_ruleOfWords_145 : decode b_ruleOfWords 145 = .ok (.bipush 22, 2) := by decide +kernel
theorem d_ruleOfWords_147 : decode b_ruleOfWords 147 = .ok (.if_icmp .ne 19, 3) := by decide +kernel
theorem d_ruleOfWords_150 : decode b_ruleOfWords 150 = .ok (.iload_n 1, 1) := by decide +kernel
theorem d_ruleOfWords_151 : decode b_ruleOfWords 151 = .ok (.ldc2_w 211, 3) := by decide +kernel
theorem d_ruleOfWords_154 : decode b_ruleOfWords 154 = .ok (.invokestatic 130, 3) := by decide +kernel
theorem d_ruleOfWords_157 : decode b_ruleOfWords 157 = .ok (.ifCond .eq 9, 3) := by decide +kernel
theorem d_ruleOfWords_160 : decode b_ruleOfWords 160 = .ok (.sipush 290, 3) := by decide +kernel
theorem d_ruleOfWords_163 : decode b_ruleOfWords 163 = .ok (.goto 4, 3) := by decide +kernel
theorem d_ruleOfWords_166 : decode b_ruleOfWords 166 = .ok (.iconst 0, 1) := by decide +kernel
theorem d_ruleOfWords_167 : decode b_ruleOfWords 167 = .ok (.ireturn, 1) := by decide +kernel
theorem d_rIsFull_0 : decode b_rIsFull 0 = .ok (.aload_n 0, 1) := by decide +kernel
theorem d_rIsFull_1 : decode b_rIsFull 1 = .ok (.getfield 19, 3) := by decide +kernel
theorem d_rIsFull_4 : decode b_rIsFull 4 = .ok (.aload_n 0, 1) := by decide +kernel
theorem d_rIsFull_5 : decode b_rIsFull 5 = .ok (.getfield 7, 3) := by decide +kernel
theorem d_rIsFull_8 : decode b_rIsFull 8 = .ok (.arraylength, 1) := by decide +kernel
theorem d_rIsFull_9 : decode b_rIsFull 9 = .ok (.if_icmp .lt 7, 3) := by decide +kernel
theorem d_rIsFull_12 : decode b_rIsFull 12 = .ok (.iconst 1, 1) := by decide +kernel
theorem d_rIsFull_13 : decode b_rIsFull 13 = .ok (.goto 4, 3) := by decide +kernel
theorem d_rIsFull_16 : decode b_rIsFull 16 = .ok (.iconst 0, 1) := by decide +kernel
theorem d_rIsFull_17 : decode b_rIsFull 17 = .ok (.ireturn, 1) := by decide +kernel
theorem d_rTell_0 : decode b_rTell 0 = .ok (.aload_n 0, 1) := by decide +kernel
theorem d_rTell_1 : decode b_rTell 1 = .ok (.invokevirtual 23, 3) := by decide +kernel
theorem d_rTell_4 : decode b_rTell 4 = .ok (.ifCond .eq 4, 3) := by decide +kernel
theorem d_rTell_7 : decode b_rTell 7 = .ok (.return_, 1) := by decide +kernel
theorem d_rTell_8 : decode b_rTell 8 = .ok (.aload_n 0, 1) := by decide +kernel
theorem d_rTell_9 : decode b_rTell 9 = .ok (.getfield 7, 3) := by decide +kernel
theorem d_rTell_12 : decode b_rTell 12 = .ok (.aload_n 0, 1) := by decide +kernel
theorem d_rTell_13 : decode b_rTell 13 = .ok (.getfield 19, 3) := by decide +kernel
theorem d_rTell_16 : decode b_rTell 16 = .ok (.iload_n 1, 1) := by decide +kernel
theorem d_rTell_17 : decode b_rTell 17 = .ok (.iastore, 1) := by decide +kernel
theorem d_rTell_18 : decode b_rTell 18 = .ok (.aload_n 0, 1) := by decide +kernel
theorem d_rTell_19 : decode b_rTell 19 = .ok (.getfield 13, 3) := by decide +kernel
theorem d_rTell_22 : decode b_rTell 22 = .ok (.aload_n 0, 1) := by decide +kernel
theorem d_rTell_23 : decode b_rTell 23 = .ok (.getfield 19, 3) := by decide +kernel
theorem d_rTell_26 : decode b_rTell 26 = .ok (.iload_n 2, 1) := by decide +kernel
theorem d_rTell_27 : decode b_rTell 27 = .ok (.iastore, 1) := by decide +kernel
theorem d_rTell_28 : decode b_rTell 28 = .ok (.aload_n 0, 1) := by decide +kernel
theorem d_rTell_29 : decode b_rTell 29 = .ok (.getfield 16, 3) := by decide +kernel
theorem d_rTell_32 : decode b_rTell 32 = .ok (.aload_n 0, 1) := by decide +kernel
theorem d_rTell_33 : decode b_rTell 33 = .ok (.getfield 19, 3) := by decide +kernel
theorem d_rTell_36 : decode b_rTell 36 = .ok (.iload_n 3, 1) := by decide +kernel
theorem d_rTell_37 : decode b_rTell 37 = .ok (.iastore, 1) := by decide +kernel
theorem d_rTell_38 : decode b_rTell 38 = .ok (.aload_n 0, 1) := by decide +kernel
theorem d_rTell_39 : decode b_rTell 39 = .ok (.dup, 1) := by decide +kernel
theorem d_rTell_40 : decode b_rTell 40 = .ok (.getfield 19, 3) := by decide +kernel
theorem d_rTell_43 : decode b_rTell 43 = .ok (.iconst 1, 1) := by decide +kernel
theorem d_rTell_44 : decode b_rTell 44 = .ok (.iadd, 1) := by decide +kernel
theorem d_rTell_45 : decode b_rTell 45 = .ok (.putfield 19, 3) := by decide +kernel
theorem d_rTell_48 : decode b_rTell 48 = .ok (.return_, 1) := by decide +kernel
theorem d_rValueOf_0 : decode b_rValueOf 0 = .ok (.aload_n 0, 1) := by decide +kernel
theorem d_rValueOf_1 : decode b_rValueOf 1 = .ok (.getfield 19, 3) := by decide +kernel
theorem d_rValueOf_4 : decode b_rValueOf 4 = .ok (.iconst 1, 1) := by decide +kernel
theorem d_rValueOf_5 : decode b_rValueOf 5 = .ok (.isub, 1) := by decide +kernel
theorem d_rValueOf_6 : decode b_rValueOf 6 = .ok (.istore_n 3, 1) := by decide +kernel
theorem d_rValueOf_7 : decode b_rValueOf 7 = .ok (.iload_n 3, 1) := by decide +kernel
theorem d_rValueOf_8 : decode b_rValueOf 8 = .ok (.ifCond .lt 36, 3) := by decide +kernel
theorem d_rValueOf_11 : decode b_rValueOf 11 = .ok (.aload_n 0, 1) := by decide +kernel
theorem d_rValueOf_12 : decode b_rValueOf 12 = .ok (.getfield 7, 3) := by decide +kernel
theorem d_rValueOf_15 : decode b_rValueOf 15 = .ok (.iload_n 3, 1) := by decide +kernel
theorem d_rValueOf_16 : decode b_rValueOf 16 = .ok (.iaload, 1) := by decide +kernel
theorem d_rValueOf_17 : decode b_rValueOf 17 = .ok (.iload_n 1, 1) := by decide +kernel
theorem d_rValueOf_18 : decode b_rValueOf 18 = .ok (.if_icmp .gt 20, 3) := by decide +kernel
theorem d_rValueOf_21 : decode b_rValueOf 21 = .ok (.iload_n 1, 1) := by decide +kernel
theorem d_rValueOf_22 : decode b_rValueOf 22 = .ok (.aload_n 0, 1) := by decide +kernel
theorem d_rValueOf_23 : decode b_rValueOf 23 = .ok (.getfield 13, 3) := by decide +kernel
theorem d_rValueOf_26 : decode b_rValueOf 26 = .ok (.iload_n 3, 1) := by decide +kernel
theorem d_rValueOf_27 : decode b_rValueOf 27 = .ok (.iaload, 1) := by decide +kernel
theorem d_rValueOf_28 : decode b_rValueOf 28 = .ok (.if_icmp .gt 10, 3) := by decide +kernel
theorem d_rValueOf_31 : decode b_rValueOf 31 = .ok (.aload_n 0, 1) := by decide +kernel
theorem d_rValueOf_32 : decode b_rValueOf 32 = .ok (.getfield 16, 3) := by decide +kernel
theorem d_rValueOf_35 : decode b_rValueOf 35 = .ok (.iload_n 3, 1) := by decide +kernel
theorem d_rValueOf_36 : decode b_rValueOf 36 = .ok (.iaload, 1) := by decide +kernel
theorem d_rValueOf_37 : decode b_rValueOf 37 = .ok (.ireturn, 1) := by decide +kernel
theorem d_rValueOf_38 : decode b_rValueOf 38 = .ok (.iinc 3 (-1), 3) := by decide +kernel
theorem d_rValueOf_41 : decode b_rValueOf 41 = .ok (.goto (-34), 3) := by decide +kernel
theorem d_rValueOf_44 : decode b_rValueOf 44 = .ok (.iload_n 2, 1) := by decide +kernel
theorem d_rValueOf_45 : decode b_rValueOf 45 = .ok (.ireturn, 1) := by decide +kernel
theorem d_isMarked_0 : decode b_isMarked 0 = .ok (.aload_n 0, 1) := by decide +kernel
theorem d_isMarked_1 : decode b_isMarked 1 = .ok (.iload_n 1, 1) := by decide +kernel
theorem d_isMarked_2 : decode b_isMarked 2 = .ok (.iconst 0, 1) := by decide +kernel
theorem d_isMarked_3 : decode b_isMarked 3 = .ok (.invokevirtual 144, 3) := by decide +kernel
theorem d_isMarked_6 : decode b_isMarked 6 = .ok (.iconst 1, 1) := by decide +kernel
theorem d_isMarked_7 : decode b_isMarked 7 = .ok (.if_icmp .ne 7, 3) := by decide +kernel
theorem d_isMarked_10 : decode b_isMarked 10 = .ok (.iconst 1, 1) := by decide +kernel
theorem d_isMarked_11 : decode b_isMarked 11 = .ok (.goto 4, 3) := by decide +kernel
theorem d_isMarked_14 : decode b_isMarked 14 = .ok (.iconst 0, 1) := by decide +kernel
theorem d_isMarked_15 : decode b_isMarked 15 = .ok (.ireturn, 1) := by decide +kernel
theorem d_bStart_0 : decode b_bStart 0 = .ok (.aload_n 0, 1) := by decide +kernel
theorem d_bStart_1 : decode b_bStart 1 = .ok (.iconst (-1), 1) := by decide +kernel
end
section
theorem d_bStart_2 : decode b_bStart 2 = .ok (.putfield 14, 3) := by decide +kernel
theorem d_bStart_5 : decode b_bStart 5 = .ok (.aload_n 0, 1) := by decide +kernel
theorem d_bStart_6 : decode b_bStart 6 = .ok (.iconst (-1), 1) := by decide +kernel
theorem d_bStart_7 : decode b_bStart 7 = .ok (.putfield 18, 3) := by decide +kernel
theorem d_bStart_10 : decode b_bStart 10 = .ok (.aload_n 0, 1) := by decide +kernel
theorem d_bStart_11 : decode b_bStart 11 = .ok (.iconst (-1), 1) := by decide +kernel
theorem d_bStart_12 : decode b_bStart 12 = .ok (.putfield 21, 3) := by decide +kernel
theorem d_bStart_15 : decode b_bStart 15 = .ok (.aload_n 0, 1) := by decide +kernel
theorem d_bStart_16 : decode b_bStart 16 = .ok (.iconst (-1), 1) := by decide +kernel
theorem d_bStart_17 : decode b_bStart 17 = .ok (.putfield 24, 3) := by decide +kernel
theorem d_bStart_20 : decode b_bStart 20 = .ok (.aload_n 0, 1) := by decide +kernel
theorem d_bStart_21 : decode b_bStart 21 = .ok (.iconst (-1), 1) := by decide +kernel
theorem d_bStart_22 : decode b_bStart 22 = .ok (.putfield 27, 3) := by decide +kernel
theorem d_bStart_25 : decode b_bStart 25 = .ok (.aload_n 0, 1) := by decide +kernel
theorem d_bStart_26 : decode b_bStart 26 = .ok (.iconst 0, 1) := by decide +kernel
theorem d_bStart_27 : decode b_bStart 27 = .ok (.putfield 30, 3) := by decide +kernel
theorem d_bStart_30 : decode b_bStart 30 = .ok (.return_, 1) := by decide +kernel
theorem d_bLeavesout_0 : decode b_bLeavesout 0 = .ok (.iload_n 1, 1) := by decide +kernel
theorem d_bLeavesout_1 : decode b_bLeavesout 1 = .ok (.ldc2_w 34, 3) := by decide +kernel
theorem d_bLeavesout_4 : decode b_bLeavesout 4 = .ok (.invokestatic 36, 3) := by decide +kernel
theorem d_bLeavesout_7 : decode b_bLeavesout 7 = .ok (.ifCond .eq 28, 3) := by decide +kernel
theorem d_bLeavesout_10 : decode b_bLeavesout 10 = .ok (.aload_n 0, 1) := by decide +kernel
theorem d_bLeavesout_11 : decode b_bLeavesout 11 = .ok (.getfield 14, 3) := by decide +kernel
theorem d_bLeavesout_14 : decode b_bLeavesout 14 = .ok (.iconst (-1), 1) := by decide +kernel
theorem d_bLeavesout_15 : decode b_bLeavesout 15 = .ok (.if_icmp .eq 20, 3) := by decide +kernel
theorem d_bLeavesout_18 : decode b_bLeavesout 18 = .ok (.aload_n 0, 1) := by decide +kernel
theorem d_bLeavesout_19 : decode b_bLeavesout 19 = .ok (.getfield 14, 3) := by decide +kernel
theorem d_bLeavesout_22 : decode b_bLeavesout 22 = .ok (.ldc2_w 40, 3) := by decide +kernel
theorem d_bLeavesout_25 : decode b_bLeavesout 25 = .ok (.invokestatic 36, 3) := by decide +kernel
theorem d_bLeavesout_28 : decode b_bLeavesout 28 = .ok (.ifCond .ne 7, 3) := by decide +kernel
theorem d_bLeavesout_31 : decode b_bLeavesout 31 = .ok (.iconst 1, 1) := by decide +kernel
theorem d_bLeavesout_32 : decode b_bLeavesout 32 = .ok (.goto 4, 3) := by decide +kernel
theorem d_bLeavesout_35 : decode b_bLeavesout 35 = .ok (.iconst 0, 1) := by decide +kernel
theorem d_bLeavesout_36 : decode b_bLeavesout 36 = .ok (.ireturn, 1) := by decide +kernel
theorem d_bPass_0 : decode b_bPass 0 = .ok (.aload_n 0, 1) := by decide +kernel
theorem d_bPass_1 : decode b_bPass 1 = .ok (.iload_n 1, 1) := by decide +kernel
theorem d_bPass_2 : decode b_bPass 2 = .ok (.invokevirtual 42, 3) := by decide +kernel
theorem d_bPass_5 : decode b_bPass 5 = .ok (.istore_n 3, 1) := by decide +kernel
theorem d_bPass_6 : decode b_bPass 6 = .ok (.aload_n 0, 1) := by decide +kernel
theorem d_bPass_7 : decode b_bPass 7 = .ok (.iload_n 1, 1) := by decide +kernel
theorem d_bPass_8 : decode b_bPass 8 = .ok (.putfield 14, 3) := by decide +kernel
theorem d_bPass_11 : decode b_bPass 11 = .ok (.iload_n 3, 1) := by decide +kernel
theorem d_bPass_12 : decode b_bPass 12 = .ok (.ifCond .eq 4, 3) := by decide +kernel
theorem d_bPass_15 : decode b_bPass 15 = .ok (.return_, 1) := by decide +kernel
theorem d_bPass_16 : decode b_bPass 16 = .ok (.aload_n 0, 1) := by decide +kernel
theorem d_bPass_17 : decode b_bPass 17 = .ok (.aload_n 0, 1) := by decide +kernel
theorem d_bPass_18 : decode b_bPass 18 = .ok (.getfield 18, 3) := by decide +kernel
theorem d_bPass_21 : decode b_bPass 21 = .ok (.putfield 24, 3) := by decide +kernel
theorem d_bPass_24 : decode b_bPass 24 = .ok (.aload_n 0, 1) := by decide +kernel
theorem d_bPass_25 : decode b_bPass 25 = .ok (.iload_n 1, 1) := by decide +kernel
theorem d_bPass_26 : decode b_bPass 26 = .ok (.invokestatic 46, 3) := by decide +kernel
theorem d_bPass_29 : decode b_bPass 29 = .ok (.putfield 18, 3) := by decide +kernel
theorem d_bPass_32 : decode b_bPass 32 = .ok (.aload_n 0, 1) := by decide +kernel
theorem d_bPass_33 : decode b_bPass 33 = .ok (.iload_n 2, 1) := by decide +kernel
theorem d_bPass_34 : decode b_bPass 34 = .ok (.putfield 21, 3) := by decide +kernel
theorem d_bPass_37 : decode b_bPass 37 = .ok (.aload_n 0, 1) := by decide +kernel
theorem d_bPass_38 : decode b_bPass 38 = .ok (.getfield 18, 3) := by decide +kernel
theorem d_bPass_41 : decode b_bPass 41 = .ok (.iconst 4, 1) := by decide +kernel
theorem d_bPass_42 : decode b_bPass 42 = .ok (.if_icmp .eq 11, 3) := by decide +kernel
theorem d_bPass_45 : decode b_bPass 45 = .ok (.aload_n 0, 1) := by decide +kernel
theorem d_bPass_46 : decode b_bPass 46 = .ok (.aload_n 0, 1) := by decide +kernel
theorem d_bPass_47 : decode b_bPass 47 = .ok (.getfield 18, 3) := by decide +kernel
theorem d_bPass_50 : decode b_bPass 50 = .ok (.putfield 27, 3) := by decide +kernel
theorem d_bPass_53 : decode b_bPass 53 = .ok (.aload_n 0, 1) := by decide +kernel
theorem d_bPass_54 : decode b_bPass 54 = .ok (.aload_n 0, 1) := by decide +kernel
theorem d_bPass_55 : decode b_bPass 55 = .ok (.getfield 18, 3) := by decide +kernel
theorem d_bPass_58 : decode b_bPass 58 = .ok (.bipush 37, 2) := by decide +kernel
theorem d_bPass_60 : decode b_bPass 60 = .ok (.if_icmp .ne 14, 3) := by decide +kernel
theorem d_bPass_63 : decode b_bPass 63 = .ok (.aload_n 0, 1) := by decide +kernel
theorem d_bPass_64 : decode b_bPass 64 = .ok (.getfield 30, 3) := by decide +kernel
theorem d_bPass_67 : decode b_bPass 67 = .ok (.ifCond .ne 7, 3) := by decide +kernel
theorem d_bPass_70 : decode b_bPass 70 = .ok (.iconst 1, 1) := by decide +kernel
theorem d_bPass_71 : decode b_bPass 71 = .ok (.goto 4, 3) := by decide +kernel
theorem d_bPass_74 : decode b_bPass 74 = .ok (.iconst 0, 1) := by decide +kernel
theorem d_bPass_75 : decode b_bPass 75 = .ok (.putfield 30, 3) := by decide +kernel
theorem d_bPass_78 : decode b_bPass 78 = .ok (.return_, 1) := by decide +kernel
theorem d_isPosition_0 : decode b_isPosition 0 = .ok (.iload_n 1, 1) := by decide +kernel
theorem d_isPosition_1 : decode b_isPosition 1 = .ok (.ifCond .lt 15, 3) := by decide +kernel
theorem d_isPosition_4 : decode b_isPosition 4 = .ok (.iload_n 1, 1) := by decide +kernel
theorem d_isPosition_5 : decode b_isPosition 5 = .ok (.aload_n 0, 1) := by decide +kernel
theorem d_isPosition_6 : decode b_isPosition 6 = .ok (.getfield 44, 3) := by decide +kernel
theorem d_isPosition_9 : decode b_isPosition 9 = .ok (.if_icmp .ge 7, 3) := by decide +kernel
theorem d_isPosition_12 : decode b_isPosition 12 = .ok (.iconst 1, 1) := by decide +kernel
theorem d_isPosition_13 : decode b_isPosition 13 = .ok (.goto 4, 3) := by decide +kernel
theorem d_isPosition_16 : decode b_isPosition 16 = .ok (.iconst 0, 1) := by decide +kernel
theorem d_isPosition_17 : decode b_isPosition 17 = .ok (.ireturn, 1) := by decide +kernel
theorem d_isPlace_0 : decode b_isPlace 0 = .ok (.iload_n 1, 1) := by decide +kernel
theorem d_isPlace_1 : decode b_isPlace 1 = .ok (.ifCond .lt 15, 3) := by decide +kernel
theorem d_isPlace_4 : decode b_isPlace 4 = .ok (.iload_n 1, 1) := by decide +kernel
theorem d_isPlace_5 : decode b_isPlace 5 = .ok (.aload_n 0, 1) := by decide +kernel
theorem d_isPlace_6 : decode b_isPlace 6 = .ok (.getfield 44, 3) := by decide +kernel
theorem d_isPlace_9 : decode b_isPlace 9 = .ok (.if_icmp .gt 7, 3) := by decide +kernel
theorem d_isPlace_12 : decode b_isPlace 12 = .ok (.iconst 1, 1) := by decide +kernel
theorem d_isPlace_13 : decode b_isPlace 13 = .ok (.goto 4, 3) := by decide +kernel
theorem d_isPlace_16 : decode b_isPlace 16 = .ok (.iconst 0, 1) := by decide +kernel
theorem d_isPlace_17 : decode b_isPlace 17 = .ok (.ireturn, 1) := by decide +kernel
theorem d_forgetRules_0 : decode b_forgetRules 0 = .ok (.aload_n 0, 1) := by decide +kernel
theorem d_forgetRules_1 : decode b_forgetRules 1 = .ok (.iconst 0, 1) := by decide +kernel
theorem d_forgetRules_2 : decode b_forgetRules 2 = .ok (.putfield 52, 3) := by decide +kernel
theorem d_forgetRules_5 : decode b_forgetRules 5 = .ok (.aload_n 0, 1) := by decide +kernel
theorem d_forgetRules_6 : decode b_forgetRules 6 = .ok (.getfield 40, 3) := by decide +kernel
theorem d_forgetRules_9 : decode b_forgetRules 9 = .ok (.invokevirtual 148, 3) := by decide +kernel
theorem d_forgetRules_12 : decode b_forgetRules 12 = .ok (.return_, 1) := by decide +kernel
theorem d_kindAt_0 : decode b_kindAt 0 = .ok (.aload_n 0, 1) := by decide +kernel
theorem d_kindAt_1 : decode b_kindAt 1 = .ok (.getfield 13, 3) := by decide +kernel
theorem d_kindAt_4 : decode b_kindAt 4 = .ok (.iload_n 1, 1) := by decide +kernel
theorem d_kindAt_5 : decode b_kindAt 5 = .ok (.iaload, 1) := by decide +kernel
theorem d_kindAt_6 : decode b_kindAt 6 = .ok (.tableswitch 59 38 43 #[38, 38, 38, 38, 41, 44], 38) := by decide +kernel
theorem d_kindAt_44 : decode b_kindAt 44 = .ok (.bipush 27, 2) := by decide +kernel
theorem d_kindAt_46 : decode b_kindAt 46 = .ok (.ireturn, 1) := by decide +kernel
theorem d_kindAt_47 : decode b_kindAt 47 = .ok (.bipush 8, 2) := by decide +kernel
theorem d_kindAt_49 : decode b_kindAt 49 = .ok (.ireturn, 1) := by decide +kernel
theorem d_kindAt_50 : decode b_kindAt 50 = .ok (.aload_n 0, 1) := by decide +kernel
theorem d_kindAt_51 : decode b_kindAt 51 = .ok (.getfield 48, 3) := by decide +kernel
theorem d_kindAt_54 : decode b_kindAt 54 = .ok (.ifCond .eq 8, 3) := by decide +kernel
theorem d_kindAt_57 : decode b_kindAt 57 = .ok (.bipush 29, 2) := by decide +kernel
theorem d_kindAt_59 : decode b_kindAt 59 = .ok (.goto 5, 3) := by decide +kernel
theorem d_kindAt_62 : decode b_kindAt 62 = .ok (.bipush 19, 2) := by decide +kernel
theorem d_kindAt_64 : decode b_kindAt 64 = .ok (.ireturn, 1) := by decide +kernel
theorem d_kindAt_65 : decode b_kindAt 65 = .ok (.aload_n 0, 1) := by decide +kernel
theorem d_kindAt_66 : decode b_kindAt 66 = .ok (.getfield 13, 3) := by decide +kernel
theorem d_kindAt_69 : decode b_kindAt 69 = .ok (.iload_n 1, 1) := by decide +kernel
theorem d_kindAt_70 : decode b_kindAt 70 = .ok (.iaload, 1) := by decide +kernel
theorem d_kindAt_71 : decode b_kindAt 71 = .ok (.ireturn, 1) := by decide +kernel
theorem d_isBetween_0 : decode b_isBetween 0 = .ok (.iload_n 1, 1) := by decide +kernel
theorem d_isBetween_1 : decode b_isBetween 1 = .ok (.ifCond .le 35, 3) := by decide +kernel
theorem d_isBetween_4 : decode b_isBetween 4 = .ok (.iload_n 1, 1) := by decide +kernel
theorem d_isBetween_5 : decode b_isBetween 5 = .ok (.aload_n 0, 1) := by decide +kernel
theorem d_isBetween_6 : decode b_isBetween 6 = .ok (.getfield 44, 3) := by decide +kernel
theorem d_isBetween_9 : decode b_isBetween 9 = .ok (.if_icmp .ge 27, 3) := by decide +kernel
theorem d_isBetween_12 : decode b_isBetween 12 = .ok (.aload_n 0, 1) := by decide +kernel
theorem d_isBetween_13 : decode b_isBetween 13 = .ok (.iload_n 1, 1) := by decide +kernel
theorem d_isBetween_14 : decode b_isBetween 14 = .ok (.iconst 1, 1) := by decide +kernel
theorem d_isBetween_15 : decode b_isBetween 15 = .ok (.isub, 1) := by decide +kernel
theorem d_isBetween_16 : decode b_isBetween 16 = .ok (.invokevirtual 114, 3) := by decide +kernel
theorem d_isBetween_19 : decode b_isBetween 19 = .ok (.iconst 1, 1) := by decide +kernel
theorem d_isBetween_20 : decode b_isBetween 20 = .ok (.if_icmp .ne 16, 3) := by decide +kernel
theorem d_isBetween_23 : decode b_isBetween 23 = .ok (.aload_n 0, 1) := by decide +kernel
theorem d_isBetween_24 : decode b_isBetween 24 = .ok (.iload_n 1, 1) := by decide +kernel
theorem d_isBetween_25 : decode b_isBetween 25 = .ok (.invokevirtual 114, 3) := by decide +kernel
theorem d_isBetween_28 : decode b_isBetween 28 = .ok (.iconst 2, 1) := by decide +kernel
theorem d_isBetween_29 : decode b_isBetween 29 = .ok (.if_icmp .ne 7, 3) := by decide +kernel
theorem d_isBetween_32 : decode b_isBetween 32 = .ok (.iconst 1, 1) := by decide +kernel
theorem d_isBetween_33 : decode b_isBetween 33 = .ok (.goto 4, 3) := by decide +kernel
theorem d_isBetween_36 : decode b_isBetween 36 = .ok (.iconst 0, 1) := by decide +kernel
theorem d_isBetween_37 : decode b_isBetween 37 = .ok (.ireturn, 1) := by decide +kernel
theorem d_ruleOfSpaces_0 : decode b_ruleOfSpaces 0 = .ok (.aload_n 0, 1) := by decide +kernel
theorem d_ruleOfSpaces_1 : decode b_ruleOfSpaces 1 = .ok (.getfield 40, 3) := by decide +kernel
theorem d_ruleOfSpaces_4 : decode b_ruleOfSpaces 4 = .ok (.getfield 192, 3) := by decide +kernel
theorem d_ruleOfSpaces_7 : decode b_ruleOfSpaces 7 = .ok (.ifCond .ne 6, 3) := by decide +kernel
theorem d_ruleOfSpaces_10 : decode b_ruleOfSpaces 10 = .ok (.bipush 40, 2) := by decide +kernel
theorem d_ruleOfSpaces_12 : decode b_ruleOfSpaces 12 = .ok (.ireturn, 1) := by decide +kernel
theorem d_ruleOfSpaces_13 : decode b_ruleOfSpaces 13 = .ok (.aload_n 0, 1) := by decide +kernel
theorem d_ruleOfSpaces_14 : decode b_ruleOfSpaces 14 = .ok (.getfield 40, 3) := by decide +kernel
theorem d_ruleOfSpaces_17 : decode b_ruleOfSpaces 17 = .ok (.getfield 192, 3) := by decide +kernel
theorem d_ruleOfSpaces_20 : decode b_ruleOfSpaces 20 = .ok (.ldc2_w 195, 3) := by decide +kernel
theorem d_ruleOfSpaces_23 : decode b_ruleOfSpaces 23 = .ok (.invokestatic 130, 3) := by decide +kernel
theorem d_ruleOfSpaces_26 : decode b_ruleOfSpaces 26 = .ok (.ifCond .eq 6, 3) := by decide +kernel
theorem d_ruleOfSpaces_29 : decode b_ruleOfSpaces 29 = .ok (.bipush 50, 2) := by decide +kernel
theorem d_ruleOfSpaces_31 : decode b_ruleOfSpaces 31 = .ok (.ireturn, 1) := by decide +kernel
theorem d_ruleOfSpaces_32 : decode b_ruleOfSpaces 32 = .ok (.iload_n 1, 1) := by decide +kernel
theorem d_ruleOfSpaces_33 : decode b_ruleOfSpaces 33 = .ok (.ldc2_w 195, 3) := by decide +kernel
theorem d_ruleOfSpaces_36 : decode b_ruleOfSpaces 36 = .ok (.invokestatic 130, 3) := by decide +kernel
theorem d_ruleOfSpaces_39 : decode b_ruleOfSpaces 39 = .ok (.ifCond .eq 6, 3) := by decide +kernel
theorem d_ruleOfSpaces_42 : decode b_ruleOfSpaces 42 = .ok (.bipush 60, 2) := by decide +kernel
theorem d_ruleOfSpaces_44 : decode b_ruleOfSpaces 44 = .ok (.ireturn, 1) := by decide +kernel
theorem d_ruleOfSpaces_45 : decode b_ruleOfSpaces 45 = .ok (.iload_n 1, 1) := by decide +kernel
theorem d_ruleOfSpaces_46 : decode b_ruleOfSpaces 46 = .ok (.ldc2_w 197, 3) := by decide +kernel
theorem d_ruleOfSpaces_49 : decode b_ruleOfSpaces 49 = .ok (.invokestatic 130, 3) := by decide +kernel
theorem d_ruleOfSpaces_52 : decode b_ruleOfSpaces 52 = .ok (.ifCond .eq 6, 3) := by decide +kernel
theorem d_ruleOfSpaces_55 : decode b_ruleOfSpaces 55 = .ok (.bipush 70, 2) := by decide +kernel
theorem d_ruleOfSpaces_57 : decode b_ruleOfSpaces 57 = .ok (.ireturn, 1) := by decide +kernel
theorem d_ruleOfSpaces_58 : decode b_ruleOfSpaces 58 = .ok (.aload_n 0, 1) := by decide +kernel
theorem d_ruleOfSpaces_59 : decode b_ruleOfSpaces 59 = .ok (.getfield 40, 3) := by decide +kernel
theorem d_ruleOfSpaces_62 : decode b_ruleOfSpaces 62 = .ok (.getfield 173, 3) := by decide +kernel
theorem d_ruleOfSpaces_65 : decode b_ruleOfSpaces 65 = .ok (.iconst 5, 1) := by decide +kernel
theorem d_ruleOfSpaces_66 : decode b_ruleOfSpaces 66 = .ok (.if_icmp .ne 6, 3) := by decide +kernel
theorem d_ruleOfSpaces_69 : decode b_ruleOfSpaces 69 = .ok (.bipush 80, 2) := by decide +kernel
theorem d_ruleOfSpaces_71 : decode b_ruleOfSpaces 71 = .ok (.ireturn, 1) := by decide +kernel
theorem d_ruleOfSpaces_72 : decode b_ruleOfSpaces 72 = .ok (.aload_n 0, 1) := by decide +kernel
theorem d_ruleOfSpaces_73 : decode b_ruleOfSpaces 73 = .ok (.getfield 40, 3) := by decide +kernel
theorem d_ruleOfSpaces_76 : decode b_ruleOfSpaces 76 = .ok (.getfield 192, 3) := by decide +kernel
theorem d_ruleOfSpaces_79 : decode b_ruleOfSpaces 79 = .ok (.bipush 7, 2) := by decide +kernel
theorem d_ruleOfSpaces_81 : decode b_ruleOfSpaces 81 = .ok (.if_icmp .ne 6, 3) := by decide +kernel
theorem d_ruleOfSpaces_84 : decode b_ruleOfSpaces 84 = .ok (.bipush 81, 2) := by decide +kernel
theorem d_ruleOfSpaces_86 : decode b_ruleOfSpaces 86 = .ok (.ireturn, 1) := by decide +kernel
theorem d_ruleOfSpaces_87 : decode b_ruleOfSpaces 87 = .ok (.aload_n 0, 1) := by decide +kernel
theorem d_ruleOfSpaces_88 : decode b_ruleOfSpaces 88 = .ok (.getfield 40, 3) := by decide +kernel
theorem d_ruleOfSpaces_91 : decode b_ruleOfSpaces 91 = .ok (.iload_n 1, 1) := by decide +kernel
theorem d_ruleOfSpaces_92 : decode b_ruleOfSpaces 92 = .ok (.invokevirtual 199, 3) := by decide +kernel
theorem d_ruleOfSpaces_95 : decode b_ruleOfSpaces 95 = .ok (.ifCond .eq 8, 3) := by decide +kernel
theorem d_ruleOfSpaces_98 : decode b_ruleOfSpaces 98 = .ok (.bipush 90, 2) := by decide +kernel
theorem d_ruleOfSpaces_100 : decode b_ruleOfSpaces 100 = .ok (.goto 4, 3) := by decide +kernel
theorem d_ruleOfSpaces_103 : decode b_ruleOfSpaces 103 = .ok (.iconst 0, 1) := by decide +kernel
theorem d_ruleOfSpaces_104 : decode b_ruleOfSpaces 104 = .ok (.ireturn, 1) := by decide +kernel
theorem d_ruleOfSigns_0 : decode b_ruleOfSigns 0 = .ok (.iload_n 1, 1) := by decide +kernel
theorem d_ruleOfSigns_1 : decode b_ruleOfSigns 1 = .ok (.iconst 4, 1) := by decide +kernel
theorem d_ruleOfSigns_2 : decode b_ruleOfSigns 2 = .ok (.if_icmp .ne 7, 3) := by decide +kernel
theorem d_ruleOfSigns_5 : decode b_ruleOfSigns 5 = .ok (.sipush 180, 3) := by decide +kernel
theorem d_ruleOfSigns_8 : decode b_ruleOfSigns 8 = .ok (.ireturn, 1) := by decide +kernel
theorem d_ruleOfSigns_9 : decode b_ruleOfSigns 9 = .ok (.iload_n 1, 1) := by decide +kernel
theorem d_ruleOfSigns_10 : decode b_ruleOfSigns 10 = .ok (.bipush 21, 2) := by decide +kernel
theorem d_ruleOfSigns_12 : decode b_ruleOfSigns 12 = .ok (.if_icmp .eq 9, 3) := by decide +kernel
theorem d_ruleOfSigns_15 : decode b_ruleOfSigns 15 = .ok (.iload_n 2, 1) := by decide +kernel
theorem d_ruleOfSigns_16 : decode b_ruleOfSigns 16 = .ok (.bipush 21, 2) := by decide +kernel
theorem d_ruleOfSigns_18 : decode b_ruleOfSigns 18 = .ok (.if_icmp .ne 7, 3) := by decide +kernel
theorem d_ruleOfSigns_21 : decode b_ruleOfSigns 21 = .ok (.sipush 190, 3) := by decide +kernel
theorem d_ruleOfSigns_24 : decode b_ruleOfSigns 24 = .ok (.ireturn, 1) := by decide +kernel
theorem d_ruleOfSigns_25 : decode b_ruleOfSigns 25 = .ok (.iload_n 1, 1) := by decide +kernel
theorem d_ruleOfSigns_26 : decode b_ruleOfSigns 26 = .ok (.bipush 14, 2) := by decide +kernel
theorem d_ruleOfSigns_28 : decode b_ruleOfSigns 28 = .ok (.if_icmp .eq 9, 3) := by decide +kernel
theorem d_ruleOfSigns_31 : decode b_ruleOfSigns 31 = .ok (.iload_n 2, 1) := by decide +kernel
theorem d_ruleOfSigns_32 : decode b_ruleOfSigns 32 = .ok (.bipush 14, 2) := by decide +kernel
theorem d_ruleOfSigns_34 : decode b_ruleOfSigns 34 = .ok (.if_icmp .ne 7, 3) := by decide +kernel
theorem d_ruleOfSigns_37 : decode b_ruleOfSigns 37 = .ok (.sipush 200, 3) := by decide +kernel
theorem d_ruleOfSigns_40 : decode b_ruleOfSigns 40 = .ok (.ireturn, 1) := by decide +kernel
theorem d_ruleOfSigns_41 : decode b_ruleOfSigns 41 = .ok (.iload_n 2, 1) := by decide +kernel
theorem d_ruleOfSigns_42 : decode b_ruleOfSigns 42 = .ok (.ldc2_w 202, 3) := by decide +kernel
theorem d_ruleOfSigns_45 : decode b_ruleOfSigns 45 = .ok (.invokestatic 130, 3) := by decide +kernel
theorem d_ruleOfSigns_48 : decode b_ruleOfSigns 48 = .ok (.ifCond .ne 15, 3) := by decide +kernel
theorem d_ruleOfSigns_51 : decode b_ruleOfSigns 51 = .ok (.iload_n 2, 1) := by decide +kernel
theorem d_ruleOfSigns_52 : decode b_ruleOfSigns 52 = .ok (.bipush 19, 2) := by decide +kernel
theorem d_ruleOfSigns_54 : decode b_ruleOfSigns 54 = .ok (.if_icmp .eq 9, 3) := by decide +kernel
theorem d_ruleOfSigns_57 : decode b_ruleOfSigns 57 = .ok (.iload_n 1, 1) := by decide +kernel
theorem d_ruleOfSigns_58 : decode b_ruleOfSigns 58 = .ok (.bipush 12, 2) := by decide +kernel
theorem d_ruleOfSigns_60 : decode b_ruleOfSigns 60 = .ok (.if_icmp .ne 7, 3) := by decide +kernel
theorem d_ruleOfSigns_63 : decode b_ruleOfSigns 63 = .ok (.sipush 210, 3) := by decide +kernel
theorem d_ruleOfSigns_66 : decode b_ruleOfSigns 66 = .ok (.ireturn, 1) := by decide +kernel
theorem d_ruleOfSigns_67 : decode b_ruleOfSigns 67 = .ok (.iload_n 1, 1) := by decide +kernel
theorem d_ruleOfSigns_68 : decode b_ruleOfSigns 68 = .ok (.ldc2_w 202, 3) := by decide +kernel
theorem d_ruleOfSigns_71 : decode b_ruleOfSigns 71 = .ok (.invokestatic 130, 3) := by decide +kernel
theorem d_ruleOfSigns_74 : decode b_ruleOfSigns 74 = .ok (.ifCond .eq 19, 3) := by decide +kernel
theorem d_ruleOfSigns_77 : decode b_ruleOfSigns 77 = .ok (.aload_n 0, 1) := by decide +kernel
theorem d_ruleOfSigns_78 : decode b_ruleOfSigns 78 = .ok (.getfield 40, 3) := by decide +kernel
theorem d_ruleOfSigns_81 : decode b_ruleOfSigns 81 = .ok (.getfield 208, 3) := by decide +kernel
theorem d_ruleOfSigns_84 : decode b_ruleOfSigns 84 = .ok (.bipush 28, 2) := by decide +kernel
theorem d_ruleOfSigns_86 : decode b_ruleOfSigns 86 = .ok (.if_icmp .ne 7, 3) := by decide +kernel
theorem d_ruleOfSigns_89 : decode b_ruleOfSigns 89 = .ok (.sipush 211, 3) := by decide +kernel
theorem d_ruleOfSigns_92 : decode b_ruleOfSigns 92 = .ok (.ireturn, 1) := by decide +kernel
theorem d_ruleOfSigns_93 : decode b_ruleOfSigns 93 = .ok (.iload_n 1, 1) := by decide +kernel
theorem d_ruleOfSigns_94 : decode b_ruleOfSigns 94 = .ok (.bipush 26, 2) := by decide +kernel
theorem d_ruleOfSigns_96 : decode b_ruleOfSigns 96 = .ok (.if_icmp .ne 13, 3) := by decide +kernel
theorem d_ruleOfSigns_99 : decode b_ruleOfSigns 99 = .ok (.iload_n 2, 1) := by decide +kernel
theorem d_ruleOfSigns_100 : decode b_ruleOfSigns 100 = .ok (.bipush 28, 2) := by decide +kernel
theorem d_ruleOfSigns_102 : decode b_ruleOfSigns 102 = .ok (.if_icmp .ne 7, 3) := by decide +kernel
theorem d_ruleOfSigns_105 : decode b_ruleOfSigns 105 = .ok (.sipush 212, 3) := by decide +kernel
theorem d_ruleOfSigns_108 : decode b_ruleOfSigns 108 = .ok (.ireturn, 1) := by decide +kernel
theorem d_ruleOfSigns_109 : decode b_ruleOfSigns 109 = .ok (.iload_n 2, 1) := by decide +kernel
theorem d_ruleOfSigns_110 : decode b_ruleOfSigns 110 = .ok (.bipush 18, 2) := by decide +kernel
theorem d_ruleOfSigns_112 : decode b_ruleOfSigns 112 = .ok (.if_icmp .ne 9, 3) := by decide +kernel
theorem d_ruleOfSigns_115 : decode b_ruleOfSigns 115 = .ok (.sipush 220, 3) := by decide +kernel
theorem d_ruleOfSigns_118 : decode b_ruleOfSigns 118 = .ok (.goto 4, 3) := by decide +kernel
theorem d_ruleOfSigns_121 : decode b_ruleOfSigns 121 = .ok (.iconst 0, 1) := by decide +kernel
theorem d_ruleOfSigns_122 : decode b_ruleOfSigns 122 = .ok (.ireturn, 1) := by decide +kernel
theorem d_ruleOfMarks_0 : decode b_ruleOfMarks 0 = .ok (.iload_n 1, 1) := by decide +kernel
theorem d_ruleOfMarks_1 : decode b_ruleOfMarks 1 = .ok (.ldc2_w 223, 3) := by decide +kernel
theorem d_ruleOfMarks_4 : decode b_ruleOfMarks 4 = .ok (.invokestatic 130, 3) := by decide +kernel
theorem d_ruleOfMarks_7 : decode b_ruleOfMarks 7 = .ok (.ifCond .eq 24, 3) := by decide +kernel
theorem d_ruleOfMarks_10 : decode b_ruleOfMarks 10 = .ok (.iload_n 2, 1) := by decide +kernel
theorem d_ruleOfMarks_11 : decode b_ruleOfMarks 11 = .ok (.bipush 20, 2) := by decide +kernel
theorem d_ruleOfMarks_13 : decode b_ruleOfMarks 13 = .ok (.if_icmp .ne 18, 3) := by decide +kernel
theorem d_ruleOfMarks_16 : decode b_ruleOfMarks 16 = .ok (.aload_n 0, 1) := by decide +kernel
theorem d_ruleOfMarks_17 : decode b_ruleOfMarks 17 = .ok (.getfield 31, 3) := by decide +kernel
theorem d_ruleOfMarks_20 : decode b_ruleOfMarks 20 = .ok (.iload_n 3, 1) := by decide +kernel
theorem d_ruleOfMarks_21 : decode b_ruleOfMarks 21 = .ok (.invokestatic 225, 3) := by decide +kernel
theorem d_ruleOfMarks_24 : decode b_ruleOfMarks 24 = .ok (.ifCond .ne 7, 3) := by decide +kernel
theorem d_ruleOfMarks_27 : decode b_ruleOfMarks 27 = .ok (.sipush 300, 3) := by decide +kernel
theorem d_ruleOfMarks_30 : decode b_ruleOfMarks 30 = .ok (.ireturn, 1) := by decide +kernel
theorem d_ruleOfMarks_31 : decode b_ruleOfMarks 31 = .ok (.iload_n 1, 1) := by decide +kernel
theorem d_ruleOfMarks_32 : decode b_ruleOfMarks 32 = .ok (.bipush 16, 2) := by decide +kernel
theorem d_ruleOfMarks_34 : decode b_ruleOfMarks 34 = .ok (.if_icmp .ne 34, 3) := by decide +kernel
theorem d_ruleOfMarks_37 : decode b_ruleOfMarks 37 = .ok (.iload_n 2, 1) := by decide +kernel
theorem d_ruleOfMarks_38 : decode b_ruleOfMarks 38 = .ok (.ldc2_w 223, 3) := by decide +kernel
theorem d_ruleOfMarks_41 : decode b_ruleOfMarks 41 = .ok (.invokestatic 130, 3) := by decide +kernel
theorem d_ruleOfMarks_44 : decode b_ruleOfMarks 44 = .ok (.ifCond .eq 24, 3) := by decide +kernel
theorem d_ruleOfMarks_47 : decode b_ruleOfMarks 47 = .ok (.aload_n 0, 1) := by decide +kernel
theorem d_ruleOfMarks_48 : decode b_ruleOfMarks 48 = .ok (.getfield 31, 3) := by decide +kernel
theorem d_ruleOfMarks_51 : decode b_ruleOfMarks 51 = .ok (.aload_n 0, 1) := by decide +kernel
theorem d_ruleOfMarks_52 : decode b_ruleOfMarks 52 = .ok (.getfield 40, 3) := by decide +kernel
theorem d_ruleOfMarks_55 : decode b_ruleOfMarks 55 = .ok (.getfield 229, 3) := by decide +kernel
theorem d_ruleOfMarks_58 : decode b_ruleOfMarks 58 = .ok (.invokestatic 225, 3) := by decide +kernel
theorem d_ruleOfMarks_61 : decode b_ruleOfMarks 61 = .ok (.ifCond .ne 7, 3) := by decide +kernel
theorem d_ruleOfMarks_64 : decode b_ruleOfMarks 64 = .ok (.sipush 300, 3) := by decide +kernel
theorem d_ruleOfMarks_67 : decode b_ruleOfMarks 67 = .ok (.ireturn, 1) := by decide +kernel
theorem d_ruleOfMarks_68 : decode b_ruleOfMarks 68 = .ok (.iload_n 1, 1) := by decide +kernel
theorem d_ruleOfMarks_69 : decode b_ruleOfMarks 69 = .ok (.bipush 37, 2) := by decide +kernel
theorem d_ruleOfMarks_71 : decode b_ruleOfMarks 71 = .ok (.if_icmp .ne 23, 3) := by decide +kernel
theorem d_ruleOfMarks_74 : decode b_ruleOfMarks 74 = .ok (.iload_n 2, 1) := by decide +kernel
theorem d_ruleOfMarks_75 : decode b_ruleOfMarks 75 = .ok (.bipush 37, 2) := by decide +kernel
theorem d_ruleOfMarks_77 : decode b_ruleOfMarks 77 = .ok (.if_icmp .ne 17, 3) := by decide +kernel
theorem d_ruleOfMarks_80 : decode b_ruleOfMarks 80 = .ok (.aload_n 0, 1) := by decide +kernel
theorem d_ruleOfMarks_81 : decode b_ruleOfMarks 81 = .ok (.getfield 40, 3) := by decide +kernel
theorem d_ruleOfMarks_84 : decode b_ruleOfMarks 84 = .ok (.getfield 232, 3) := by decide +kernel
theorem d_ruleOfMarks_87 : decode b_ruleOfMarks 87 = .ok (.ifCond .eq 7, 3) := by decide +kernel
theorem d_ruleOfMarks_90 : decode b_ruleOfMarks 90 = .ok (.sipush 301, 3) := by decide +kernel
theorem d_ruleOfMarks_93 : decode b_ruleOfMarks 93 = .ok (.ireturn, 1) := by decide +kernel
theorem d_ruleOfMarks_94 : decode b_ruleOfMarks 94 = .ok (.iload_n 2, 1) := by decide +kernel
theorem d_ruleOfMarks_95 : decode b_ruleOfMarks 95 = .ok (.bipush 31, 2) := by decide +kernel
theorem d_ruleOfMarks_97 : decode b_ruleOfMarks 97 = .ok (.if_icmp .ne 30, 3) := by decide +kernel
theorem d_ruleOfMarks_100 : decode b_ruleOfMarks 100 = .ok (.iload_n 1, 1) := by decide +kernel
theorem d_ruleOfMarks_101 : decode b_ruleOfMarks 101 = .ok (.bipush 30, 2) := by decide +kernel
theorem d_ruleOfMarks_103 : decode b_ruleOfMarks 103 = .ok (.if_icmp .eq 20, 3) := by decide +kernel
theorem d_ruleOfMarks_106 : decode b_ruleOfMarks 106 = .ok (.aload_n 0, 1) := by decide +kernel
theorem d_ruleOfMarks_107 : decode b_ruleOfMarks 107 = .ok (.getfield 34, 3) := by decide +kernel
theorem d_ruleOfMarks_110 : decode b_ruleOfMarks 110 = .ok (.aload_n 0, 1) := by decide +kernel
theorem d_ruleOfMarks_111 : decode b_ruleOfMarks 111 = .ok (.getfield 40, 3) := by decide +kernel
theorem d_ruleOfMarks_114 : decode b_ruleOfMarks 114 = .ok (.getfield 229, 3) := by decide +kernel
theorem d_ruleOfMarks_117 : decode b_ruleOfMarks 117 = .ok (.invokestatic 225, 3) := by decide +kernel
theorem d_ruleOfMarks_120 : decode b_ruleOfMarks 120 = .ok (.ifCond .eq 7, 3) := by decide +kernel
theorem d_ruleOfMarks_123 : decode b_ruleOfMarks 123 = .ok (.sipush 302, 3) := by decide +kernel
theorem d_ruleOfMarks_126 : decode b_ruleOfMarks 126 = .ok (.ireturn, 1) := by decide +kernel
theorem d_ruleOfMarks_127 : decode b_ruleOfMarks 127 = .ok (.iconst 0, 1) := by decide +kernel
theorem d_ruleOfMarks_128 : decode b_ruleOfMarks 128 = .ok (.ireturn, 1) := by decide +kernel
theorem d_findRule_0 : decode b_findRule 0 = .ok (.aload_n 0, 1) := by decide +kernel
theorem d_findRule_1 : decode b_findRule 1 = .ok (.iload_n 1, 1) := by decide +kernel
theorem d_findRule_2 : decode b_findRule 2 = .ok (.invokevirtual 161, 3) := by decide +kernel
theorem d_findRule_5 : decode b_findRule 5 = .ok (.istore_n 3, 1) := by decide +kernel
theorem d_findRule_6 : decode b_findRule 6 = .ok (.iload_n 3, 1) := by decide +kernel
theorem d_findRule_7 : decode b_findRule 7 = .ok (.ifCond .eq 5, 3) := by decide +kernel
theorem d_findRule_10 : decode b_findRule 10 = .ok (.iload_n 3, 1) := by decide +kernel
theorem d_findRule_11 : decode b_findRule 11 = .ok (.ireturn, 1) := by decide +kernel
theorem d_findRule_12 : decode b_findRule 12 = .ok (.iload_n 1, 1) := by decide +kernel
theorem d_findRule_13 : decode b_findRule 13 = .ok (.invokestatic 164, 3) := by decide +kernel
theorem d_findRule_16 : decode b_findRule 16 = .ok (.istore 4, 2) := by decide +kernel
theorem d_findRule_18 : decode b_findRule 18 = .ok (.aload_n 0, 1) := by decide +kernel
theorem d_findRule_19 : decode b_findRule 19 = .ok (.getfield 40, 3) := by decide +kernel
theorem d_findRule_22 : decode b_findRule 22 = .ok (.getfield 167, 3) := by decide +kernel
theorem d_findRule_25 : decode b_findRule 25 = .ok (.iload 4, 2) := by decide +kernel
theorem d_findRule_27 : decode b_findRule 27 = .ok (.invokestatic 170, 3) := by decide +kernel
theorem d_findRule_30 : decode b_findRule 30 = .ok (.istore_n 3, 1) := by decide +kernel
theorem d_findRule_31 : decode b_findRule 31 = .ok (.iload_n 3, 1) := by decide +kernel
theorem d_findRule_32 : decode b_findRule 32 = .ok (.ifCond .ne 16, 3) := by decide +kernel
theorem d_findRule_35 : decode b_findRule 35 = .ok (.aload_n 0, 1) := by decide +kernel
theorem d_findRule_36 : decode b_findRule 36 = .ok (.getfield 40, 3) := by decide +kernel
theorem d_findRule_39 : decode b_findRule 39 = .ok (.getfield 173, 3) := by decide +kernel
theorem d_findRule_42 : decode b_findRule 42 = .ok (.iload 4, 2) := by decide +kernel
theorem d_findRule_44 : decode b_findRule 44 = .ok (.invokestatic 176, 3) := by decide +kernel
theorem d_findRule_47 : decode b_findRule 47 = .ok (.istore_n 3, 1) := by decide +kernel
theorem d_findRule_48 : decode b_findRule 48 = .ok (.iload_n 3, 1) := by decide +kernel
theorem d_findRule_49 : decode b_findRule 49 = .ok (.ifCond .ne 17, 3) := by decide +kernel
theorem d_findRule_52 : decode b_findRule 52 = .ok (.aload_n 0, 1) := by decide +kernel
theorem d_findRule_53 : decode b_findRule 53 = .ok (.aload_n 0, 1) := by decide +kernel
theorem d_findRule_54 : decode b_findRule 54 = .ok (.getfield 40, 3) := by decide +kernel
theorem d_findRule_57 : decode b_findRule 57 = .ok (.getfield 167, 3) := by decide +kernel
theorem d_findRule_60 : decode b_findRule 60 = .ok (.iload 4, 2) := by decide +kernel
theorem d_findRule_62 : decode b_findRule 62 = .ok (.invokevirtual 179, 3) := by decide +kernel
theorem d_findRule_65 : decode b_findRule 65 = .ok (.istore_n 3, 1) := by decide +kernel
theorem d_findRule_66 : decode b_findRule 66 = .ok (.iload_n 3, 1) := by decide +kernel
theorem d_findRule_67 : decode b_findRule 67 = .ok (.ifCond .ne 16, 3) := by decide +kernel
theorem d_findRule_70 : decode b_findRule 70 = .ok (.aload_n 0, 1) := by decide +kernel
end
section
theorem d_findRule_71 : decode b_findRule 71 = .ok (.getfield 40, 3) := by decide +kernel
theorem d_findRule_74 : decode b_findRule 74 = .ok (.getfield 167, 3) := by decide +kernel
theorem d_findRule_77 : decode b_findRule 77 = .ok (.iload 4, 2) := by decide +kernel
theorem d_findRule_79 : decode b_findRule 79 = .ok (.invokestatic 182, 3) := by decide +kernel
theorem d_findRule_82 : decode b_findRule 82 = .ok (.istore_n 3, 1) := by decide +kernel
theorem d_findRule_83 : decode b_findRule 83 = .ok (.iload_n 3, 1) := by decide +kernel
theorem d_findRule_84 : decode b_findRule 84 = .ok (.ifCond .ne 16, 3) := by decide +kernel
theorem d_findRule_87 : decode b_findRule 87 = .ok (.aload_n 0, 1) := by decide +kernel
theorem d_findRule_88 : decode b_findRule 88 = .ok (.getfield 40, 3) := by decide +kernel
theorem d_findRule_91 : decode b_findRule 91 = .ok (.getfield 167, 3) := by decide +kernel
theorem d_findRule_94 : decode b_findRule 94 = .ok (.iload 4, 2) := by decide +kernel
theorem d_findRule_96 : decode b_findRule 96 = .ok (.invokestatic 185, 3) := by decide +kernel
theorem d_findRule_99 : decode b_findRule 99 = .ok (.istore_n 3, 1) := by decide +kernel
theorem d_findRule_100 : decode b_findRule 100 = .ok (.iload_n 3, 1) := by decide +kernel
theorem d_findRule_101 : decode b_findRule 101 = .ok (.ifCond .ne 18, 3) := by decide +kernel
theorem d_findRule_104 : decode b_findRule 104 = .ok (.aload_n 0, 1) := by decide +kernel
theorem d_findRule_105 : decode b_findRule 105 = .ok (.aload_n 0, 1) := by decide +kernel
theorem d_findRule_106 : decode b_findRule 106 = .ok (.getfield 40, 3) := by decide +kernel
theorem d_findRule_109 : decode b_findRule 109 = .ok (.getfield 167, 3) := by decide +kernel
theorem d_findRule_112 : decode b_findRule 112 = .ok (.iload 4, 2) := by decide +kernel
theorem d_findRule_114 : decode b_findRule 114 = .ok (.iload_n 2, 1) := by decide +kernel
theorem d_findRule_115 : decode b_findRule 115 = .ok (.invokevirtual 188, 3) := by decide +kernel
theorem d_findRule_118 : decode b_findRule 118 = .ok (.istore_n 3, 1) := by decide +kernel
theorem d_findRule_119 : decode b_findRule 119 = .ok (.iload_n 3, 1) := by decide +kernel
theorem d_findRule_120 : decode b_findRule 120 = .ok (.ifCond .ne 9, 3) := by decide +kernel
theorem d_findRule_123 : decode b_findRule 123 = .ok (.sipush 310, 3) := by decide +kernel
theorem d_findRule_126 : decode b_findRule 126 = .ok (.goto 4, 3) := by decide +kernel
theorem d_findRule_129 : decode b_findRule 129 = .ok (.iload_n 3, 1) := by decide +kernel
theorem d_findRule_130 : decode b_findRule 130 = .ok (.ireturn, 1) := by decide +kernel
theorem d_take_0 : decode b_take 0 = .ok (.aload_n 0, 1) := by decide +kernel
theorem d_take_1 : decode b_take 1 = .ok (.getfield 19, 3) := by decide +kernel
theorem d_take_4 : decode b_take 4 = .ok (.iconst 0, 1) := by decide +kernel
theorem d_take_5 : decode b_take 5 = .ok (.iload_n 1, 1) := by decide +kernel
theorem d_take_6 : decode b_take 6 = .ok (.iastore, 1) := by decide +kernel
theorem d_take_7 : decode b_take 7 = .ok (.aload_n 0, 1) := by decide +kernel
theorem d_take_8 : decode b_take 8 = .ok (.getfield 19, 3) := by decide +kernel
theorem d_take_11 : decode b_take 11 = .ok (.iconst 1, 1) := by decide +kernel
theorem d_take_12 : decode b_take 12 = .ok (.iload_n 2, 1) := by decide +kernel
theorem d_take_13 : decode b_take 13 = .ok (.iastore, 1) := by decide +kernel
theorem d_take_14 : decode b_take 14 = .ok (.aload_n 0, 1) := by decide +kernel
theorem d_take_15 : decode b_take 15 = .ok (.getfield 19, 3) := by decide +kernel
theorem d_take_18 : decode b_take 18 = .ok (.iconst 2, 1) := by decide +kernel
theorem d_take_19 : decode b_take 19 = .ok (.iload_n 3, 1) := by decide +kernel
theorem d_take_20 : decode b_take 20 = .ok (.iastore, 1) := by decide +kernel
theorem d_take_21 : decode b_take 21 = .ok (.aload_n 0, 1) := by decide +kernel
theorem d_take_22 : decode b_take 22 = .ok (.getfield 19, 3) := by decide +kernel
theorem d_take_25 : decode b_take 25 = .ok (.iconst 3, 1) := by decide +kernel
theorem d_take_26 : decode b_take 26 = .ok (.iload 4, 2) := by decide +kernel
theorem d_take_28 : decode b_take 28 = .ok (.iastore, 1) := by decide +kernel
theorem d_take_29 : decode b_take 29 = .ok (.aload_n 0, 1) := by decide +kernel
theorem d_take_30 : decode b_take 30 = .ok (.getfield 19, 3) := by decide +kernel
theorem d_take_33 : decode b_take 33 = .ok (.iconst 4, 1) := by decide +kernel
theorem d_take_34 : decode b_take 34 = .ok (.iload 5, 2) := by decide +kernel
theorem d_take_36 : decode b_take 36 = .ok (.iastore, 1) := by decide +kernel
theorem d_take_37 : decode b_take 37 = .ok (.iconst 0, 1) := by decide +kernel
theorem d_take_38 : decode b_take 38 = .ok (.istore 6, 2) := by decide +kernel
theorem d_take_40 : decode b_take 40 = .ok (.iload 6, 2) := by decide +kernel
theorem d_take_42 : decode b_take 42 = .ok (.iconst 5, 1) := by decide +kernel
theorem d_take_43 : decode b_take 43 = .ok (.if_icmp .ge 23, 3) := by decide +kernel
theorem d_take_46 : decode b_take 46 = .ok (.aload_n 0, 1) := by decide +kernel
theorem d_take_47 : decode b_take 47 = .ok (.getfield 19, 3) := by decide +kernel
theorem d_take_50 : decode b_take 50 = .ok (.iload 6, 2) := by decide +kernel
theorem d_take_52 : decode b_take 52 = .ok (.iaload, 1) := by decide +kernel
theorem d_take_53 : decode b_take 53 = .ok (.iconst (-1), 1) := by decide +kernel
theorem d_take_54 : decode b_take 54 = .ok (.if_icmp .ne 6, 3) := by decide +kernel
theorem d_take_57 : decode b_take 57 = .ok (.iload 6, 2) := by decide +kernel
theorem d_take_59 : decode b_take 59 = .ok (.ireturn, 1) := by decide +kernel
theorem d_take_60 : decode b_take 60 = .ok (.iinc 6 1, 3) := by decide +kernel
theorem d_take_63 : decode b_take 63 = .ok (.goto (-23), 3) := by decide +kernel
theorem d_take_66 : decode b_take 66 = .ok (.iconst 5, 1) := by decide +kernel
theorem d_take_67 : decode b_take 67 = .ok (.ireturn, 1) := by decide +kernel
theorem d_areCharacters_0 : decode b_areCharacters 0 = .ok (.iconst 0, 1) := by decide +kernel
theorem d_areCharacters_1 : decode b_areCharacters 1 = .ok (.istore_n 2, 1) := by decide +kernel
theorem d_areCharacters_2 : decode b_areCharacters 2 = .ok (.iload_n 2, 1) := by decide +kernel
theorem d_areCharacters_3 : decode b_areCharacters 3 = .ok (.iload_n 1, 1) := by decide +kernel
theorem d_areCharacters_4 : decode b_areCharacters 4 = .ok (.if_icmp .ge 28, 3) := by decide +kernel
theorem d_areCharacters_7 : decode b_areCharacters 7 = .ok (.iload_n 2, 1) := by decide +kernel
theorem d_areCharacters_8 : decode b_areCharacters 8 = .ok (.iconst 5, 1) := by decide +kernel
theorem d_areCharacters_9 : decode b_areCharacters 9 = .ok (.if_icmp .ge 23, 3) := by decide +kernel
theorem d_areCharacters_12 : decode b_areCharacters 12 = .ok (.aload_n 0, 1) := by decide +kernel
theorem d_areCharacters_13 : decode b_areCharacters 13 = .ok (.getfield 19, 3) := by decide +kernel
theorem d_areCharacters_16 : decode b_areCharacters 16 = .ok (.iload_n 2, 1) := by decide +kernel
theorem d_areCharacters_17 : decode b_areCharacters 17 = .ok (.iaload, 1) := by decide +kernel
theorem d_areCharacters_18 : decode b_areCharacters 18 = .ok (.invokestatic 135, 3) := by decide +kernel
theorem d_areCharacters_21 : decode b_areCharacters 21 = .ok (.ifCond .ne 5, 3) := by decide +kernel
theorem d_areCharacters_24 : decode b_areCharacters 24 = .ok (.iconst 0, 1) := by decide +kernel
theorem d_areCharacters_25 : decode b_areCharacters 25 = .ok (.ireturn, 1) := by decide +kernel
theorem d_areCharacters_26 : decode b_areCharacters 26 = .ok (.iinc 2 1, 3) := by decide +kernel
theorem d_areCharacters_29 : decode b_areCharacters 29 = .ok (.goto (-27), 3) := by decide +kernel
theorem d_areCharacters_32 : decode b_areCharacters 32 = .ok (.iconst 1, 1) := by decide +kernel
theorem d_areCharacters_33 : decode b_areCharacters 33 = .ok (.ireturn, 1) := by decide +kernel
theorem d_putGiven_0 : decode b_putGiven 0 = .ok (.aload_n 0, 1) := by decide +kernel
theorem d_putGiven_1 : decode b_putGiven 1 = .ok (.getfield 44, 3) := by decide +kernel
theorem d_putGiven_4 : decode b_putGiven 4 = .ok (.iload_n 2, 1) := by decide +kernel
theorem d_putGiven_5 : decode b_putGiven 5 = .ok (.isub, 1) := by decide +kernel
theorem d_putGiven_6 : decode b_putGiven 6 = .ok (.istore 4, 2) := by decide +kernel
theorem d_putGiven_8 : decode b_putGiven 8 = .ok (.iload 4, 2) := by decide +kernel
theorem d_putGiven_10 : decode b_putGiven 10 = .ok (.ifCond .le 37, 3) := by decide +kernel
theorem d_putGiven_13 : decode b_putGiven 13 = .ok (.aload_n 0, 1) := by decide +kernel
theorem d_putGiven_14 : decode b_putGiven 14 = .ok (.getfield 9, 3) := by decide +kernel
theorem d_putGiven_17 : decode b_putGiven 17 = .ok (.iload_n 2, 1) := by decide +kernel
theorem d_putGiven_18 : decode b_putGiven 18 = .ok (.aload_n 0, 1) := by decide +kernel
theorem d_putGiven_19 : decode b_putGiven 19 = .ok (.getfield 9, 3) := by decide +kernel
theorem d_putGiven_22 : decode b_putGiven 22 = .ok (.iload_n 1, 1) := by decide +kernel
theorem d_putGiven_23 : decode b_putGiven 23 = .ok (.iload_n 3, 1) := by decide +kernel
theorem d_putGiven_24 : decode b_putGiven 24 = .ok (.iadd, 1) := by decide +kernel
theorem d_putGiven_25 : decode b_putGiven 25 = .ok (.iload 4, 2) := by decide +kernel
theorem d_putGiven_27 : decode b_putGiven 27 = .ok (.invokestatic 138, 3) := by decide +kernel
theorem d_putGiven_30 : decode b_putGiven 30 = .ok (.aload_n 0, 1) := by decide +kernel
theorem d_putGiven_31 : decode b_putGiven 31 = .ok (.getfield 13, 3) := by decide +kernel
theorem d_putGiven_34 : decode b_putGiven 34 = .ok (.iload_n 2, 1) := by decide +kernel
theorem d_putGiven_35 : decode b_putGiven 35 = .ok (.aload_n 0, 1) := by decide +kernel
theorem d_putGiven_36 : decode b_putGiven 36 = .ok (.getfield 13, 3) := by decide +kernel
theorem d_putGiven_39 : decode b_putGiven 39 = .ok (.iload_n 1, 1) := by decide +kernel
theorem d_putGiven_40 : decode b_putGiven 40 = .ok (.iload_n 3, 1) := by decide +kernel
theorem d_putGiven_41 : decode b_putGiven 41 = .ok (.iadd, 1) := by decide +kernel
theorem d_putGiven_42 : decode b_putGiven 42 = .ok (.iload 4, 2) := by decide +kernel
theorem d_putGiven_44 : decode b_putGiven 44 = .ok (.invokestatic 138, 3) := by decide +kernel
theorem d_putGiven_47 : decode b_putGiven 47 = .ok (.iconst 0, 1) := by decide +kernel
theorem d_putGiven_48 : decode b_putGiven 48 = .ok (.istore 5, 2) := by decide +kernel
theorem d_putGiven_50 : decode b_putGiven 50 = .ok (.iload 5, 2) := by decide +kernel
theorem d_putGiven_52 : decode b_putGiven 52 = .ok (.iload_n 3, 1) := by decide +kernel
theorem d_putGiven_53 : decode b_putGiven 53 = .ok (.if_icmp .ge 56, 3) := by decide +kernel
theorem d_putGiven_56 : decode b_putGiven 56 = .ok (.iload 5, 2) := by decide +kernel
theorem d_putGiven_58 : decode b_putGiven 58 = .ok (.iconst 5, 1) := by decide +kernel
theorem d_putGiven_59 : decode b_putGiven 59 = .ok (.if_icmp .ge 50, 3) := by decide +kernel
theorem d_putGiven_62 : decode b_putGiven 62 = .ok (.aload_n 0, 1) := by decide +kernel
theorem d_putGiven_63 : decode b_putGiven 63 = .ok (.getfield 9, 3) := by decide +kernel
theorem d_putGiven_66 : decode b_putGiven 66 = .ok (.iload_n 1, 1) := by decide +kernel
theorem d_putGiven_67 : decode b_putGiven 67 = .ok (.iload 5, 2) := by decide +kernel
theorem d_putGiven_69 : decode b_putGiven 69 = .ok (.iadd, 1) := by decide +kernel
theorem d_putGiven_70 : decode b_putGiven 70 = .ok (.aload_n 0, 1) := by decide +kernel
theorem d_putGiven_71 : decode b_putGiven 71 = .ok (.getfield 19, 3) := by decide +kernel
theorem d_putGiven_74 : decode b_putGiven 74 = .ok (.iload 5, 2) := by decide +kernel
theorem d_putGiven_76 : decode b_putGiven 76 = .ok (.iaload, 1) := by decide +kernel
theorem d_putGiven_77 : decode b_putGiven 77 = .ok (.iastore, 1) := by decide +kernel
theorem d_putGiven_78 : decode b_putGiven 78 = .ok (.aload_n 0, 1) := by decide +kernel
theorem d_putGiven_79 : decode b_putGiven 79 = .ok (.getfield 13, 3) := by decide +kernel
theorem d_putGiven_82 : decode b_putGiven 82 = .ok (.iload_n 1, 1) := by decide +kernel
theorem d_putGiven_83 : decode b_putGiven 83 = .ok (.iload 5, 2) := by decide +kernel
theorem d_putGiven_85 : decode b_putGiven 85 = .ok (.iadd, 1) := by decide +kernel
theorem d_putGiven_86 : decode b_putGiven 86 = .ok (.aload_n 0, 1) := by decide +kernel
theorem d_putGiven_87 : decode b_putGiven 87 = .ok (.getfield 27, 3) := by decide +kernel
theorem d_putGiven_90 : decode b_putGiven 90 = .ok (.aload_n 0, 1) := by decide +kernel
theorem d_putGiven_91 : decode b_putGiven 91 = .ok (.getfield 19, 3) := by decide +kernel
theorem d_putGiven_94 : decode b_putGiven 94 = .ok (.iload 5, 2) := by decide +kernel
theorem d_putGiven_96 : decode b_putGiven 96 = .ok (.iaload, 1) := by decide +kernel
theorem d_putGiven_97 : decode b_putGiven 97 = .ok (.bipush 40, 2) := by decide +kernel
theorem d_putGiven_99 : decode b_putGiven 99 = .ok (.invokevirtual 144, 3) := by decide +kernel
theorem d_putGiven_102 : decode b_putGiven 102 = .ok (.iastore, 1) := by decide +kernel
theorem d_putGiven_103 : decode b_putGiven 103 = .ok (.iinc 5 1, 3) := by decide +kernel
theorem d_putGiven_106 : decode b_putGiven 106 = .ok (.goto (-56), 3) := by decide +kernel
theorem d_putGiven_109 : decode b_putGiven 109 = .ok (.aload_n 0, 1) := by decide +kernel
theorem d_putGiven_110 : decode b_putGiven 110 = .ok (.iload_n 1, 1) := by decide +kernel
theorem d_putGiven_111 : decode b_putGiven 111 = .ok (.iload_n 3, 1) := by decide +kernel
theorem d_putGiven_112 : decode b_putGiven 112 = .ok (.iadd, 1) := by decide +kernel
theorem d_putGiven_113 : decode b_putGiven 113 = .ok (.iload 4, 2) := by decide +kernel
theorem d_putGiven_115 : decode b_putGiven 115 = .ok (.iadd, 1) := by decide +kernel
theorem d_putGiven_116 : decode b_putGiven 116 = .ok (.putfield 44, 3) := by decide +kernel
theorem d_putGiven_119 : decode b_putGiven 119 = .ok (.iload_n 1, 1) := by decide +kernel
theorem d_putGiven_120 : decode b_putGiven 120 = .ok (.aload_n 0, 1) := by decide +kernel
theorem d_putGiven_121 : decode b_putGiven 121 = .ok (.getfield 52, 3) := by decide +kernel
theorem d_putGiven_124 : decode b_putGiven 124 = .ok (.if_icmp .ge 7, 3) := by decide +kernel
theorem d_putGiven_127 : decode b_putGiven 127 = .ok (.aload_n 0, 1) := by decide +kernel
theorem d_putGiven_128 : decode b_putGiven 128 = .ok (.invokevirtual 79, 3) := by decide +kernel
theorem d_putGiven_131 : decode b_putGiven 131 = .ok (.return_, 1) := by decide +kernel
theorem d_ruleAt_0 : decode b_ruleAt 0 = .ok (.iload_n 1, 1) := by decide +kernel
theorem d_ruleAt_1 : decode b_ruleAt 1 = .ok (.ifCond .gt 6, 3) := by decide +kernel
theorem d_ruleAt_4 : decode b_ruleAt 4 = .ok (.bipush 20, 2) := by decide +kernel
theorem d_ruleAt_6 : decode b_ruleAt 6 = .ok (.ireturn, 1) := by decide +kernel
theorem d_ruleAt_7 : decode b_ruleAt 7 = .ok (.iload_n 1, 1) := by decide +kernel
theorem d_ruleAt_8 : decode b_ruleAt 8 = .ok (.aload_n 0, 1) := by decide +kernel
theorem d_ruleAt_9 : decode b_ruleAt 9 = .ok (.getfield 44, 3) := by decide +kernel
theorem d_ruleAt_12 : decode b_ruleAt 12 = .ok (.if_icmp .lt 6, 3) := by decide +kernel
theorem d_ruleAt_15 : decode b_ruleAt 15 = .ok (.bipush 30, 2) := by decide +kernel
theorem d_ruleAt_17 : decode b_ruleAt 17 = .ok (.ireturn, 1) := by decide +kernel
theorem d_ruleAt_18 : decode b_ruleAt 18 = .ok (.aload_n 0, 1) := by decide +kernel
theorem d_ruleAt_19 : decode b_ruleAt 19 = .ok (.getfield 52, 3) := by decide +kernel
theorem d_ruleAt_22 : decode b_ruleAt 22 = .ok (.istore_n 2, 1) := by decide +kernel
theorem d_ruleAt_23 : decode b_ruleAt 23 = .ok (.iload_n 2, 1) := by decide +kernel
theorem d_ruleAt_24 : decode b_ruleAt 24 = .ok (.iload_n 1, 1) := by decide +kernel
theorem d_ruleAt_25 : decode b_ruleAt 25 = .ok (.if_icmp .gt 53, 3) := by decide +kernel
theorem d_ruleAt_28 : decode b_ruleAt 28 = .ok (.aload_n 0, 1) := by decide +kernel
theorem d_ruleAt_29 : decode b_ruleAt 29 = .ok (.iload_n 2, 1) := by decide +kernel
theorem d_ruleAt_30 : decode b_ruleAt 30 = .ok (.invokevirtual 114, 3) := by decide +kernel
theorem d_ruleAt_33 : decode b_ruleAt 33 = .ok (.istore_n 3, 1) := by decide +kernel
theorem d_ruleAt_34 : decode b_ruleAt 34 = .ok (.aload_n 0, 1) := by decide +kernel
theorem d_ruleAt_35 : decode b_ruleAt 35 = .ok (.getfield 16, 3) := by decide +kernel
theorem d_ruleAt_38 : decode b_ruleAt 38 = .ok (.iload_n 2, 1) := by decide +kernel
theorem d_ruleAt_39 : decode b_ruleAt 39 = .ok (.aload_n 0, 1) := by decide +kernel
theorem d_ruleAt_40 : decode b_ruleAt 40 = .ok (.iload_n 3, 1) := by decide +kernel
theorem d_ruleAt_41 : decode b_ruleAt 41 = .ok (.aload_n 0, 1) := by decide +kernel
theorem d_ruleAt_42 : decode b_ruleAt 42 = .ok (.getfield 9, 3) := by decide +kernel
theorem d_ruleAt_45 : decode b_ruleAt 45 = .ok (.iload_n 2, 1) := by decide +kernel
theorem d_ruleAt_46 : decode b_ruleAt 46 = .ok (.iaload, 1) := by decide +kernel
theorem d_ruleAt_47 : decode b_ruleAt 47 = .ok (.invokevirtual 154, 3) := by decide +kernel
theorem d_ruleAt_50 : decode b_ruleAt 50 = .ok (.iastore, 1) := by decide +kernel
theorem d_ruleAt_51 : decode b_ruleAt 51 = .ok (.aload_n 0, 1) := by decide +kernel
theorem d_ruleAt_52 : decode b_ruleAt 52 = .ok (.getfield 40, 3) := by decide +kernel
theorem d_ruleAt_55 : decode b_ruleAt 55 = .ok (.iload_n 3, 1) := by decide +kernel
theorem d_ruleAt_56 : decode b_ruleAt 56 = .ok (.aload_n 0, 1) := by decide +kernel
theorem d_ruleAt_57 : decode b_ruleAt 57 = .ok (.getfield 9, 3) := by decide +kernel
theorem d_ruleAt_60 : decode b_ruleAt 60 = .ok (.iload_n 2, 1) := by decide +kernel
theorem d_ruleAt_61 : decode b_ruleAt 61 = .ok (.iaload, 1) := by decide +kernel
theorem d_ruleAt_62 : decode b_ruleAt 62 = .ok (.invokevirtual 157, 3) := by decide +kernel
theorem d_ruleAt_65 : decode b_ruleAt 65 = .ok (.aload_n 0, 1) := by decide +kernel
theorem d_ruleAt_66 : decode b_ruleAt 66 = .ok (.iload_n 2, 1) := by decide +kernel
theorem d_ruleAt_67 : decode b_ruleAt 67 = .ok (.iconst 1, 1) := by decide +kernel
theorem d_ruleAt_68 : decode b_ruleAt 68 = .ok (.iadd, 1) := by decide +kernel
theorem d_ruleAt_69 : decode b_ruleAt 69 = .ok (.putfield 52, 3) := by decide +kernel
theorem d_ruleAt_72 : decode b_ruleAt 72 = .ok (.iinc 2 1, 3) := by decide +kernel
theorem d_ruleAt_75 : decode b_ruleAt 75 = .ok (.goto (-52), 3) := by decide +kernel
theorem d_ruleAt_78 : decode b_ruleAt 78 = .ok (.aload_n 0, 1) := by decide +kernel
theorem d_ruleAt_79 : decode b_ruleAt 79 = .ok (.getfield 16, 3) := by decide +kernel
theorem d_ruleAt_82 : decode b_ruleAt 82 = .ok (.iload_n 1, 1) := by decide +kernel
theorem d_ruleAt_83 : decode b_ruleAt 83 = .ok (.iaload, 1) := by decide +kernel
theorem d_ruleAt_84 : decode b_ruleAt 84 = .ok (.ireturn, 1) := by decide +kernel
theorem d_breaksAt_0 : decode b_breaksAt 0 = .ok (.aload_n 0, 1) := by decide +kernel
theorem d_breaksAt_1 : decode b_breaksAt 1 = .ok (.iload_n 1, 1) := by decide +kernel
theorem d_breaksAt_2 : decode b_breaksAt 2 = .ok (.invokevirtual 123, 3) := by decide +kernel
theorem d_breaksAt_5 : decode b_breaksAt 5 = .ok (.lookupswitch 85 #[(30, 67), (40, 67), (50, 69), (80, 83), (180, 83), (200, 83), (310, 83)], 67) := by decide +kernel
theorem d_breaksAt_72 : decode b_breaksAt 72 = .ok (.iconst 2, 1) := by decide +kernel
theorem d_breaksAt_73 : decode b_breaksAt 73 = .ok (.ireturn, 1) := by decide +kernel
theorem d_breaksAt_74 : decode b_breaksAt 74 = .ok (.aload_n 0, 1) := by decide +kernel
theorem d_breaksAt_75 : decode b_breaksAt 75 = .ok (.iload_n 1, 1) := by decide +kernel
theorem d_breaksAt_76 : decode b_breaksAt 76 = .ok (.invokevirtual 151, 3) := by decide +kernel
theorem d_breaksAt_79 : decode b_breaksAt 79 = .ok (.ifCond .eq 7, 3) := by decide +kernel
theorem d_breaksAt_82 : decode b_breaksAt 82 = .ok (.iconst 0, 1) := by decide +kernel
theorem d_breaksAt_83 : decode b_breaksAt 83 = .ok (.goto 4, 3) := by decide +kernel
theorem d_breaksAt_86 : decode b_breaksAt 86 = .ok (.iconst 2, 1) := by decide +kernel
theorem d_breaksAt_87 : decode b_breaksAt 87 = .ok (.ireturn, 1) := by decide +kernel
theorem d_breaksAt_88 : decode b_breaksAt 88 = .ok (.iconst 1, 1) := by decide +kernel
theorem d_breaksAt_89 : decode b_breaksAt 89 = .ok (.ireturn, 1) := by decide +kernel
theorem d_breaksAt_90 : decode b_breaksAt 90 = .ok (.iconst 0, 1) := by decide +kernel
theorem d_breaksAt_91 : decode b_breaksAt 91 = .ok (.ireturn, 1) := by decide +kernel
theorem d_loose_0 : decode b_loose 0 = .ok (.aload_n 0, 1) := by decide +kernel
theorem d_loose_1 : decode b_loose 1 = .ok (.getfield 48, 3) := by decide +kernel
theorem d_loose_4 : decode b_loose 4 = .ok (.istore_n 2, 1) := by decide +kernel
theorem d_loose_5 : decode b_loose 5 = .ok (.aload_n 0, 1) := by decide +kernel
theorem d_loose_6 : decode b_loose 6 = .ok (.iload_n 1, 1) := by decide +kernel
theorem d_loose_7 : decode b_loose 7 = .ok (.putfield 48, 3) := by decide +kernel
theorem d_loose_10 : decode b_loose 10 = .ok (.iload_n 2, 1) := by decide +kernel
theorem d_loose_11 : decode b_loose 11 = .ok (.iload_n 1, 1) := by decide +kernel
theorem d_loose_12 : decode b_loose 12 = .ok (.if_icmp .eq 7, 3) := by decide +kernel
theorem d_loose_15 : decode b_loose 15 = .ok (.aload_n 0, 1) := by decide +kernel
theorem d_loose_16 : decode b_loose 16 = .ok (.invokevirtual 79, 3) := by decide +kernel
theorem d_loose_19 : decode b_loose 19 = .ok (.iload_n 2, 1) := by decide +kernel
theorem d_loose_20 : decode b_loose 20 = .ok (.ireturn, 1) := by decide +kernel
theorem d_clear_0 : decode b_clear 0 = .ok (.aload_n 0, 1) := by decide +kernel
theorem d_clear_1 : decode b_clear 1 = .ok (.getfield 44, 3) := by decide +kernel
theorem d_clear_4 : decode b_clear 4 = .ok (.istore_n 1, 1) := by decide +kernel
theorem d_clear_5 : decode b_clear 5 = .ok (.aload_n 0, 1) := by decide +kernel
theorem d_clear_6 : decode b_clear 6 = .ok (.iconst 0, 1) := by decide +kernel
theorem d_clear_7 : decode b_clear 7 = .ok (.putfield 44, 3) := by decide +kernel
theorem d_clear_10 : decode b_clear 10 = .ok (.aload_n 0, 1) := by decide +kernel
theorem d_clear_11 : decode b_clear 11 = .ok (.invokevirtual 79, 3) := by decide +kernel
theorem d_clear_14 : decode b_clear 14 = .ok (.iload_n 1, 1) := by decide +kernel
theorem d_clear_15 : decode b_clear 15 = .ok (.ireturn, 1) := by decide +kernel
theorem d_mIsChar_0 : decode b_mIsChar 0 = .ok (.iload_n 0, 1) := by decide +kernel
theorem d_mIsChar_1 : decode b_mIsChar 1 = .ok (.ifCond .lt 13, 3) := by decide +kernel
theorem d_mIsChar_4 : decode b_mIsChar 4 = .ok (.iload_n 0, 1) := by decide +kernel
theorem d_mIsChar_5 : decode b_mIsChar 5 = .ok (.ldc 42, 2) := by decide +kernel
theorem d_mIsChar_7 : decode b_mIsChar 7 = .ok (.if_icmp .gt 7, 3) := by decide +kernel
theorem d_mIsChar_10 : decode b_mIsChar 10 = .ok (.iconst 1, 1) := by decide +kernel
theorem d_mIsChar_11 : decode b_mIsChar 11 = .ok (.goto 4, 3) := by decide +kernel
theorem d_mIsChar_14 : decode b_mIsChar 14 = .ok (.iconst 0, 1) := by decide +kernel
theorem d_mIsChar_15 : decode b_mIsChar 15 = .ok (.ireturn, 1) := by decide +kernel
theorem d_mIsLetter_0 : decode b_mIsLetter 0 = .ok (.iload_n 0, 1) := by decide +kernel
theorem d_mIsLetter_1 : decode b_mIsLetter 1 = .ok (.bipush 27, 2) := by decide +kernel
theorem d_mIsLetter_3 : decode b_mIsLetter 3 = .ok (.if_icmp .eq 9, 3) := by decide +kernel
theorem d_mIsLetter_6 : decode b_mIsLetter 6 = .ok (.iload_n 0, 1) := by decide +kernel
theorem d_mIsLetter_7 : decode b_mIsLetter 7 = .ok (.bipush 28, 2) := by decide +kernel
theorem d_mIsLetter_9 : decode b_mIsLetter 9 = .ok (.if_icmp .ne 7, 3) := by decide +kernel
theorem d_mIsLetter_12 : decode b_mIsLetter 12 = .ok (.iconst 1, 1) := by decide +kernel
theorem d_mIsLetter_13 : decode b_mIsLetter 13 = .ok (.goto 4, 3) := by decide +kernel
theorem d_mIsLetter_16 : decode b_mIsLetter 16 = .ok (.iconst 0, 1) := by decide +kernel
theorem d_mIsLetter_17 : decode b_mIsLetter 17 = .ok (.ireturn, 1) := by decide +kernel
theorem d_mIsHangul_0 : decode b_mIsHangul 0 = .ok (.iload_n 0, 1) := by decide +kernel
theorem d_mIsHangul_1 : decode b_mIsHangul 1 = .ok (.bipush 32, 2) := by decide +kernel
theorem d_mIsHangul_3 : decode b_mIsHangul 3 = .ok (.if_icmp .lt 13, 3) := by decide +kernel
theorem d_mIsHangul_6 : decode b_mIsHangul 6 = .ok (.iload_n 0, 1) := by decide +kernel
theorem d_mIsHangul_7 : decode b_mIsHangul 7 = .ok (.bipush 36, 2) := by decide +kernel
theorem d_mIsHangul_9 : decode b_mIsHangul 9 = .ok (.if_icmp .gt 7, 3) := by decide +kernel
theorem d_mIsHangul_12 : decode b_mIsHangul 12 = .ok (.iconst 1, 1) := by decide +kernel
theorem d_mIsHangul_13 : decode b_mIsHangul 13 = .ok (.goto 4, 3) := by decide +kernel
theorem d_mIsHangul_16 : decode b_mIsHangul 16 = .ok (.iconst 0, 1) := by decide +kernel
theorem d_mIsHangul_17 : decode b_mIsHangul 17 = .ok (.ireturn, 1) := by decide +kernel
theorem d_mIsBlank_0 : decode b_mIsBlank 0 = .ok (.iload_n 0, 1) := by decide +kernel
theorem d_mIsBlank_1 : decode b_mIsBlank 1 = .ok (.iconst 4, 1) := by decide +kernel
theorem d_mIsBlank_2 : decode b_mIsBlank 2 = .ok (.if_icmp .gt 7, 3) := by decide +kernel
theorem d_mIsBlank_5 : decode b_mIsBlank 5 = .ok (.iconst 1, 1) := by decide +kernel
theorem d_mIsBlank_6 : decode b_mIsBlank 6 = .ok (.goto 4, 3) := by decide +kernel
theorem d_mIsBlank_9 : decode b_mIsBlank 9 = .ok (.iconst 0, 1) := by decide +kernel
theorem d_mIsBlank_10 : decode b_mIsBlank 10 = .ok (.ireturn, 1) := by decide +kernel
theorem d_mIsNumeric_0 : decode b_mIsNumeric 0 = .ok (.iload_n 0, 1) := by decide +kernel
theorem d_mIsNumeric_1 : decode b_mIsNumeric 1 = .ok (.bipush 15, 2) := by decide +kernel
theorem d_mIsNumeric_3 : decode b_mIsNumeric 3 = .ok (.if_icmp .eq 15, 3) := by decide +kernel
theorem d_mIsNumeric_6 : decode b_mIsNumeric 6 = .ok (.iload_n 0, 1) := by decide +kernel
theorem d_mIsNumeric_7 : decode b_mIsNumeric 7 = .ok (.bipush 16, 2) := by decide +kernel
theorem d_mIsNumeric_9 : decode b_mIsNumeric 9 = .ok (.if_icmp .eq 9, 3) := by decide +kernel
theorem d_mIsNumeric_12 : decode b_mIsNumeric 12 = .ok (.iload_n 0, 1) := by decide +kernel
theorem d_mIsNumeric_13 : decode b_mIsNumeric 13 = .ok (.bipush 23, 2) := by decide +kernel
theorem d_mIsNumeric_15 : decode b_mIsNumeric 15 = .ok (.if_icmp .ne 19, 3) := by decide +kernel
theorem d_mIsNumeric_18 : decode b_mIsNumeric 18 = .ok (.iload_n 1, 1) := by decide +kernel
theorem d_mIsNumeric_19 : decode b_mIsNumeric 19 = .ok (.bipush 24, 2) := by decide +kernel
theorem d_mIsNumeric_21 : decode b_mIsNumeric 21 = .ok (.if_icmp .eq 9, 3) := by decide +kernel
theorem d_mIsNumeric_24 : decode b_mIsNumeric 24 = .ok (.iload_n 1, 1) := by decide +kernel
theorem d_mIsNumeric_25 : decode b_mIsNumeric 25 = .ok (.bipush 25, 2) := by decide +kernel
theorem d_mIsNumeric_27 : decode b_mIsNumeric 27 = .ok (.if_icmp .ne 7, 3) := by decide +kernel
theorem d_mIsNumeric_30 : decode b_mIsNumeric 30 = .ok (.iconst 1, 1) := by decide +kernel
theorem d_mIsNumeric_31 : decode b_mIsNumeric 31 = .ok (.goto 4, 3) := by decide +kernel
theorem d_mIsNumeric_34 : decode b_mIsNumeric 34 = .ok (.iconst 0, 1) := by decide +kernel
theorem d_mIsNumeric_35 : decode b_mIsNumeric 35 = .ok (.istore_n 2, 1) := by decide +kernel
theorem d_mIsNumeric_36 : decode b_mIsNumeric 36 = .ok (.iload_n 0, 1) := by decide +kernel
theorem d_mIsNumeric_37 : decode b_mIsNumeric 37 = .ok (.bipush 24, 2) := by decide +kernel
theorem d_mIsNumeric_39 : decode b_mIsNumeric 39 = .ok (.if_icmp .eq 9, 3) := by decide +kernel
theorem d_mIsNumeric_42 : decode b_mIsNumeric 42 = .ok (.iload_n 0, 1) := by decide +kernel
theorem d_mIsNumeric_43 : decode b_mIsNumeric 43 = .ok (.bipush 25, 2) := by decide +kernel
theorem d_mIsNumeric_45 : decode b_mIsNumeric 45 = .ok (.if_icmp .ne 19, 3) := by decide +kernel
theorem d_mIsNumeric_48 : decode b_mIsNumeric 48 = .ok (.iload_n 1, 1) := by decide +kernel
theorem d_mIsNumeric_49 : decode b_mIsNumeric 49 = .ok (.bipush 20, 2) := by decide +kernel
theorem d_mIsNumeric_51 : decode b_mIsNumeric 51 = .ok (.if_icmp .eq 9, 3) := by decide +kernel
theorem d_mIsNumeric_54 : decode b_mIsNumeric 54 = .ok (.iload_n 1, 1) := by decide +kernel
theorem d_mIsNumeric_55 : decode b_mIsNumeric 55 = .ok (.bipush 23, 2) := by decide +kernel
theorem d_mIsNumeric_57 : decode b_mIsNumeric 57 = .ok (.if_icmp .ne 7, 3) := by decide +kernel
theorem d_mIsNumeric_60 : decode b_mIsNumeric 60 = .ok (.iconst 1, 1) := by decide +kernel
theorem d_mIsNumeric_61 : decode b_mIsNumeric 61 = .ok (.goto 4, 3) := by decide +kernel
theorem d_mIsNumeric_64 : decode b_mIsNumeric 64 = .ok (.iconst 0, 1) := by decide +kernel
theorem d_mIsNumeric_65 : decode b_mIsNumeric 65 = .ok (.istore_n 3, 1) := by decide +kernel
theorem d_mIsNumeric_66 : decode b_mIsNumeric 66 = .ok (.iload_n 2, 1) := by decide +kernel
theorem d_mIsNumeric_67 : decode b_mIsNumeric 67 = .ok (.ifCond .ne 37, 3) := by decide +kernel
theorem d_mIsNumeric_70 : decode b_mIsNumeric 70 = .ok (.iload_n 3, 1) := by decide +kernel
theorem d_mIsNumeric_71 : decode b_mIsNumeric 71 = .ok (.ifCond .ne 33, 3) := by decide +kernel
theorem d_mIsNumeric_74 : decode b_mIsNumeric 74 = .ok (.iload_n 0, 1) := by decide +kernel
theorem d_mIsNumeric_75 : decode b_mIsNumeric 75 = .ok (.bipush 13, 2) := by decide +kernel
theorem d_mIsNumeric_77 : decode b_mIsNumeric 77 = .ok (.if_icmp .eq 21, 3) := by decide +kernel
theorem d_mIsNumeric_80 : decode b_mIsNumeric 80 = .ok (.iload_n 0, 1) := by decide +kernel
theorem d_mIsNumeric_81 : decode b_mIsNumeric 81 = .ok (.bipush 22, 2) := by decide +kernel
theorem d_mIsNumeric_83 : decode b_mIsNumeric 83 = .ok (.if_icmp .eq 15, 3) := by decide +kernel
theorem d_mIsNumeric_86 : decode b_mIsNumeric 86 = .ok (.iload_n 0, 1) := by decide +kernel
theorem d_mIsNumeric_87 : decode b_mIsNumeric 87 = .ok (.bipush 23, 2) := by decide +kernel
theorem d_mIsNumeric_89 : decode b_mIsNumeric 89 = .ok (.if_icmp .eq 9, 3) := by decide +kernel
theorem d_mIsNumeric_92 : decode b_mIsNumeric 92 = .ok (.iload_n 0, 1) := by decide +kernel
theorem d_mIsNumeric_93 : decode b_mIsNumeric 93 = .ok (.bipush 26, 2) := by decide +kernel
theorem d_mIsNumeric_95 : decode b_mIsNumeric 95 = .ok (.if_icmp .ne 13, 3) := by decide +kernel
theorem d_mIsNumeric_98 : decode b_mIsNumeric 98 = .ok (.iload_n 1, 1) := by decide +kernel
theorem d_mIsNumeric_99 : decode b_mIsNumeric 99 = .ok (.bipush 23, 2) := by decide +kernel
theorem d_mIsNumeric_101 : decode b_mIsNumeric 101 = .ok (.if_icmp .ne 7, 3) := by decide +kernel
theorem d_mIsNumeric_104 : decode b_mIsNumeric 104 = .ok (.iconst 1, 1) := by decide +kernel
theorem d_mIsNumeric_105 : decode b_mIsNumeric 105 = .ok (.goto 4, 3) := by decide +kernel
end
section
theorem d_mIsNumeric_108 : decode b_mIsNumeric 108 = .ok (.iconst 0, 1) := by decide +kernel
theorem d_mIsNumeric_109 : decode b_mIsNumeric 109 = .ok (.ireturn, 1) := by decide +kernel
theorem d_mIsSyllable_0 : decode b_mIsSyllable 0 = .ok (.iload_n 0, 1) := by decide +kernel
theorem d_mIsSyllable_1 : decode b_mIsSyllable 1 = .ok (.bipush 34, 2) := by decide +kernel
theorem d_mIsSyllable_3 : decode b_mIsSyllable 3 = .ok (.if_icmp .ne 31, 3) := by decide +kernel
theorem d_mIsSyllable_6 : decode b_mIsSyllable 6 = .ok (.iload_n 1, 1) := by decide +kernel
theorem d_mIsSyllable_7 : decode b_mIsSyllable 7 = .ok (.bipush 34, 2) := by decide +kernel
theorem d_mIsSyllable_9 : decode b_mIsSyllable 9 = .ok (.if_icmp .eq 21, 3) := by decide +kernel
theorem d_mIsSyllable_12 : decode b_mIsSyllable 12 = .ok (.iload_n 1, 1) := by decide +kernel
theorem d_mIsSyllable_13 : decode b_mIsSyllable 13 = .ok (.bipush 35, 2) := by decide +kernel
theorem d_mIsSyllable_15 : decode b_mIsSyllable 15 = .ok (.if_icmp .eq 15, 3) := by decide +kernel
theorem d_mIsSyllable_18 : decode b_mIsSyllable 18 = .ok (.iload_n 1, 1) := by decide +kernel
theorem d_mIsSyllable_19 : decode b_mIsSyllable 19 = .ok (.bipush 32, 2) := by decide +kernel
theorem d_mIsSyllable_21 : decode b_mIsSyllable 21 = .ok (.if_icmp .eq 9, 3) := by decide +kernel
theorem d_mIsSyllable_24 : decode b_mIsSyllable 24 = .ok (.iload_n 1, 1) := by decide +kernel
theorem d_mIsSyllable_25 : decode b_mIsSyllable 25 = .ok (.bipush 33, 2) := by decide +kernel
theorem d_mIsSyllable_27 : decode b_mIsSyllable 27 = .ok (.if_icmp .ne 7, 3) := by decide +kernel
theorem d_mIsSyllable_30 : decode b_mIsSyllable 30 = .ok (.iconst 1, 1) := by decide +kernel
theorem d_mIsSyllable_31 : decode b_mIsSyllable 31 = .ok (.goto 4, 3) := by decide +kernel
theorem d_mIsSyllable_34 : decode b_mIsSyllable 34 = .ok (.iconst 0, 1) := by decide +kernel
theorem d_mIsSyllable_35 : decode b_mIsSyllable 35 = .ok (.istore_n 2, 1) := by decide +kernel
theorem d_mIsSyllable_36 : decode b_mIsSyllable 36 = .ok (.iload_n 0, 1) := by decide +kernel
theorem d_mIsSyllable_37 : decode b_mIsSyllable 37 = .ok (.bipush 35, 2) := by decide +kernel
theorem d_mIsSyllable_39 : decode b_mIsSyllable 39 = .ok (.if_icmp .eq 9, 3) := by decide +kernel
theorem d_mIsSyllable_42 : decode b_mIsSyllable 42 = .ok (.iload_n 0, 1) := by decide +kernel
theorem d_mIsSyllable_43 : decode b_mIsSyllable 43 = .ok (.bipush 32, 2) := by decide +kernel
theorem d_mIsSyllable_45 : decode b_mIsSyllable 45 = .ok (.if_icmp .ne 19, 3) := by decide +kernel
theorem d_mIsSyllable_48 : decode b_mIsSyllable 48 = .ok (.iload_n 1, 1) := by decide +kernel
theorem d_mIsSyllable_49 : decode b_mIsSyllable 49 = .ok (.bipush 35, 2) := by decide +kernel
theorem d_mIsSyllable_51 : decode b_mIsSyllable 51 = .ok (.if_icmp .eq 9, 3) := by decide +kernel
theorem d_mIsSyllable_54 : decode b_mIsSyllable 54 = .ok (.iload_n 1, 1) := by decide +kernel
theorem d_mIsSyllable_55 : decode b_mIsSyllable 55 = .ok (.bipush 36, 2) := by decide +kernel
theorem d_mIsSyllable_57 : decode b_mIsSyllable 57 = .ok (.if_icmp .ne 7, 3) := by decide +kernel
theorem d_mIsSyllable_60 : decode b_mIsSyllable 60 = .ok (.iconst 1, 1) := by decide +kernel
theorem d_mIsSyllable_61 : decode b_mIsSyllable 61 = .ok (.goto 4, 3) := by decide +kernel
theorem d_mIsSyllable_64 : decode b_mIsSyllable 64 = .ok (.iconst 0, 1) := by decide +kernel
theorem d_mIsSyllable_65 : decode b_mIsSyllable 65 = .ok (.istore_n 3, 1) := by decide +kernel
theorem d_mIsSyllable_66 : decode b_mIsSyllable 66 = .ok (.iload_n 2, 1) := by decide +kernel
theorem d_mIsSyllable_67 : decode b_mIsSyllable 67 = .ok (.ifCond .ne 25, 3) := by decide +kernel
theorem d_mIsSyllable_70 : decode b_mIsSyllable 70 = .ok (.iload_n 3, 1) := by decide +kernel
theorem d_mIsSyllable_71 : decode b_mIsSyllable 71 = .ok (.ifCond .ne 21, 3) := by decide +kernel
theorem d_mIsSyllable_74 : decode b_mIsSyllable 74 = .ok (.iload_n 0, 1) := by decide +kernel
theorem d_mIsSyllable_75 : decode b_mIsSyllable 75 = .ok (.bipush 36, 2) := by decide +kernel
theorem d_mIsSyllable_77 : decode b_mIsSyllable 77 = .ok (.if_icmp .eq 9, 3) := by decide +kernel
theorem d_mIsSyllable_80 : decode b_mIsSyllable 80 = .ok (.iload_n 0, 1) := by decide +kernel
theorem d_mIsSyllable_81 : decode b_mIsSyllable 81 = .ok (.bipush 33, 2) := by decide +kernel
theorem d_mIsSyllable_83 : decode b_mIsSyllable 83 = .ok (.if_icmp .ne 13, 3) := by decide +kernel
theorem d_mIsSyllable_86 : decode b_mIsSyllable 86 = .ok (.iload_n 1, 1) := by decide +kernel
theorem d_mIsSyllable_87 : decode b_mIsSyllable 87 = .ok (.bipush 36, 2) := by decide +kernel
theorem d_mIsSyllable_89 : decode b_mIsSyllable 89 = .ok (.if_icmp .ne 7, 3) := by decide +kernel
theorem d_mIsSyllable_92 : decode b_mIsSyllable 92 = .ok (.iconst 1, 1) := by decide +kernel
theorem d_mIsSyllable_93 : decode b_mIsSyllable 93 = .ok (.goto 4, 3) := by decide +kernel
theorem d_mIsSyllable_96 : decode b_mIsSyllable 96 = .ok (.iconst 0, 1) := by decide +kernel
theorem d_mIsSyllable_97 : decode b_mIsSyllable 97 = .ok (.ireturn, 1) := by decide +kernel
theorem d_mThrown_0 : decode b_mThrown 0 = .ok (.aload_n 0, 1) := by decide +kernel
theorem d_mThrown_1 : decode b_mThrown 1 = .ok (.getfield 38, 3) := by decide +kernel
theorem d_mThrown_4 : decode b_mThrown 4 = .ok (.ireturn, 1) := by decide +kernel
theorem d_mRefused_0 : decode b_mRefused 0 = .ok (.aload_n 0, 1) := by decide +kernel
theorem d_mRefused_1 : decode b_mRefused 1 = .ok (.iload_n 1, 1) := by decide +kernel
theorem d_mRefused_2 : decode b_mRefused 2 = .ok (.putfield 38, 3) := by decide +kernel
theorem d_mRefused_5 : decode b_mRefused 5 = .ok (.iload_n 1, 1) := by decide +kernel
theorem d_mRefused_6 : decode b_mRefused 6 = .ok (.ifCond .le 7, 3) := by decide +kernel
theorem d_mRefused_9 : decode b_mRefused 9 = .ok (.iconst 1, 1) := by decide +kernel
theorem d_mRefused_10 : decode b_mRefused 10 = .ok (.goto 4, 3) := by decide +kernel
theorem d_mRefused_13 : decode b_mRefused 13 = .ok (.iconst 0, 1) := by decide +kernel
theorem d_mRefused_14 : decode b_mRefused 14 = .ok (.ireturn, 1) := by decide +kernel
theorem d_mTell_0 : decode b_mTell 0 = .ok (.aload_n 0, 1) := by decide +kernel
theorem d_mTell_1 : decode b_mTell 1 = .ok (.iload_n 2, 1) := by decide +kernel
theorem d_mTell_2 : decode b_mTell 2 = .ok (.putfield 80, 3) := by decide +kernel
theorem d_mTell_5 : decode b_mTell 5 = .ok (.iload_n 1, 1) := by decide +kernel
theorem d_mTell_6 : decode b_mTell 6 = .ok (.ireturn, 1) := by decide +kernel
theorem d_mClear_0 : decode b_mClear 0 = .ok (.aload_n 0, 1) := by decide +kernel
theorem d_mClear_1 : decode b_mClear 1 = .ok (.iconst 0, 1) := by decide +kernel
theorem d_mClear_2 : decode b_mClear 2 = .ok (.putfield 38, 3) := by decide +kernel
theorem d_mClear_5 : decode b_mClear 5 = .ok (.aload_n 0, 1) := by decide +kernel
theorem d_mClear_6 : decode b_mClear 6 = .ok (.getfield 68, 3) := by decide +kernel
theorem d_mClear_9 : decode b_mClear 9 = .ok (.istore_n 1, 1) := by decide +kernel
theorem d_mClear_10 : decode b_mClear 10 = .ok (.aload_n 0, 1) := by decide +kernel
theorem d_mClear_11 : decode b_mClear 11 = .ok (.iconst 0, 1) := by decide +kernel
theorem d_mClear_12 : decode b_mClear 12 = .ok (.putfield 68, 3) := by decide +kernel
theorem d_mClear_15 : decode b_mClear 15 = .ok (.iload_n 1, 1) := by decide +kernel
theorem d_mClear_16 : decode b_mClear 16 = .ok (.ireturn, 1) := by decide +kernel
theorem d_mLoose_0 : decode b_mLoose 0 = .ok (.aload_n 0, 1) := by decide +kernel
theorem d_mLoose_1 : decode b_mLoose 1 = .ok (.iconst 0, 1) := by decide +kernel
theorem d_mLoose_2 : decode b_mLoose 2 = .ok (.putfield 38, 3) := by decide +kernel
theorem d_mLoose_5 : decode b_mLoose 5 = .ok (.aload_n 0, 1) := by decide +kernel
theorem d_mLoose_6 : decode b_mLoose 6 = .ok (.getfield 53, 3) := by decide +kernel
theorem d_mLoose_9 : decode b_mLoose 9 = .ok (.istore_n 2, 1) := by decide +kernel
theorem d_mLoose_10 : decode b_mLoose 10 = .ok (.aload_n 0, 1) := by decide +kernel
theorem d_mLoose_11 : decode b_mLoose 11 = .ok (.iload_n 1, 1) := by decide +kernel
theorem d_mLoose_12 : decode b_mLoose 12 = .ok (.putfield 53, 3) := by decide +kernel
theorem d_mLoose_15 : decode b_mLoose 15 = .ok (.iload_n 2, 1) := by decide +kernel
theorem d_mLoose_16 : decode b_mLoose 16 = .ok (.ireturn, 1) := by decide +kernel
theorem d_mKeep_0 : decode b_mKeep 0 = .ok (.aload_n 0, 1) := by decide +kernel
theorem d_mKeep_1 : decode b_mKeep 1 = .ok (.getfield 35, 3) := by decide +kernel
theorem d_mKeep_4 : decode b_mKeep 4 = .ok (.iconst 0, 1) := by decide +kernel
theorem d_mKeep_5 : decode b_mKeep 5 = .ok (.iload_n 1, 1) := by decide +kernel
theorem d_mKeep_6 : decode b_mKeep 6 = .ok (.iastore, 1) := by decide +kernel
theorem d_mKeep_7 : decode b_mKeep 7 = .ok (.aload_n 0, 1) := by decide +kernel
theorem d_mKeep_8 : decode b_mKeep 8 = .ok (.getfield 35, 3) := by decide +kernel
theorem d_mKeep_11 : decode b_mKeep 11 = .ok (.iconst 1, 1) := by decide +kernel
theorem d_mKeep_12 : decode b_mKeep 12 = .ok (.iload_n 2, 1) := by decide +kernel
theorem d_mKeep_13 : decode b_mKeep 13 = .ok (.iastore, 1) := by decide +kernel
theorem d_mKeep_14 : decode b_mKeep 14 = .ok (.aload_n 0, 1) := by decide +kernel
theorem d_mKeep_15 : decode b_mKeep 15 = .ok (.getfield 35, 3) := by decide +kernel
theorem d_mKeep_18 : decode b_mKeep 18 = .ok (.iconst 2, 1) := by decide +kernel
theorem d_mKeep_19 : decode b_mKeep 19 = .ok (.iload_n 3, 1) := by decide +kernel
theorem d_mKeep_20 : decode b_mKeep 20 = .ok (.iastore, 1) := by decide +kernel
theorem d_mKeep_21 : decode b_mKeep 21 = .ok (.aload_n 0, 1) := by decide +kernel
theorem d_mKeep_22 : decode b_mKeep 22 = .ok (.getfield 35, 3) := by decide +kernel
theorem d_mKeep_25 : decode b_mKeep 25 = .ok (.iconst 3, 1) := by decide +kernel
theorem d_mKeep_26 : decode b_mKeep 26 = .ok (.iload 4, 2) := by decide +kernel
theorem d_mKeep_28 : decode b_mKeep 28 = .ok (.iastore, 1) := by decide +kernel
theorem d_mKeep_29 : decode b_mKeep 29 = .ok (.aload_n 0, 1) := by decide +kernel
theorem d_mKeep_30 : decode b_mKeep 30 = .ok (.getfield 35, 3) := by decide +kernel
theorem d_mKeep_33 : decode b_mKeep 33 = .ok (.iconst 4, 1) := by decide +kernel
theorem d_mKeep_34 : decode b_mKeep 34 = .ok (.iload 5, 2) := by decide +kernel
theorem d_mKeep_36 : decode b_mKeep 36 = .ok (.iastore, 1) := by decide +kernel
theorem d_mKeep_37 : decode b_mKeep 37 = .ok (.return_, 1) := by decide +kernel
theorem d_mProperty_0 : decode b_mProperty 0 = .ok (.iload_n 1, 1) := by decide +kernel
theorem d_mProperty_1 : decode b_mProperty 1 = .ok (.invokestatic 43, 3) := by decide +kernel
theorem d_mProperty_4 : decode b_mProperty 4 = .ok (.ifCond .eq 29, 3) := by decide +kernel
theorem d_mProperty_7 : decode b_mProperty 7 = .ok (.iload_n 2, 1) := by decide +kernel
theorem d_mProperty_8 : decode b_mProperty 8 = .ok (.invokestatic 43, 3) := by decide +kernel
theorem d_mProperty_11 : decode b_mProperty 11 = .ok (.ifCond .eq 22, 3) := by decide +kernel
theorem d_mProperty_14 : decode b_mProperty 14 = .ok (.iload_n 1, 1) := by decide +kernel
theorem d_mProperty_15 : decode b_mProperty 15 = .ok (.iload_n 2, 1) := by decide +kernel
theorem d_mProperty_16 : decode b_mProperty 16 = .ok (.if_icmp .gt 17, 3) := by decide +kernel
theorem d_mProperty_19 : decode b_mProperty 19 = .ok (.iload_n 3, 1) := by decide +kernel
theorem d_mProperty_20 : decode b_mProperty 20 = .ok (.ifCond .lt 13, 3) := by decide +kernel
theorem d_mProperty_23 : decode b_mProperty 23 = .ok (.iload_n 3, 1) := by decide +kernel
theorem d_mProperty_24 : decode b_mProperty 24 = .ok (.bipush 43, 2) := by decide +kernel
theorem d_mProperty_26 : decode b_mProperty 26 = .ok (.if_icmp .gt 7, 3) := by decide +kernel
theorem d_mProperty_29 : decode b_mProperty 29 = .ok (.iconst 1, 1) := by decide +kernel
theorem d_mProperty_30 : decode b_mProperty 30 = .ok (.goto 4, 3) := by decide +kernel
theorem d_mProperty_33 : decode b_mProperty 33 = .ok (.iconst 0, 1) := by decide +kernel
theorem d_mProperty_34 : decode b_mProperty 34 = .ok (.istore 4, 2) := by decide +kernel
theorem d_mProperty_36 : decode b_mProperty 36 = .ok (.aload_n 0, 1) := by decide +kernel
theorem d_mProperty_37 : decode b_mProperty 37 = .ok (.iload 4, 2) := by decide +kernel
theorem d_mProperty_39 : decode b_mProperty 39 = .ok (.ifCond .ne 7, 3) := by decide +kernel
theorem d_mProperty_42 : decode b_mProperty 42 = .ok (.iconst 1, 1) := by decide +kernel
theorem d_mProperty_43 : decode b_mProperty 43 = .ok (.goto 17, 3) := by decide +kernel
theorem d_mProperty_46 : decode b_mProperty 46 = .ok (.aload_n 0, 1) := by decide +kernel
theorem d_mProperty_47 : decode b_mProperty 47 = .ok (.getfield 47, 3) := by decide +kernel
theorem d_mProperty_50 : decode b_mProperty 50 = .ok (.bipush 100, 2) := by decide +kernel
theorem d_mProperty_52 : decode b_mProperty 52 = .ok (.if_icmp .ne 7, 3) := by decide +kernel
theorem d_mProperty_55 : decode b_mProperty 55 = .ok (.iconst 2, 1) := by decide +kernel
theorem d_mProperty_56 : decode b_mProperty 56 = .ok (.goto 4, 3) := by decide +kernel
theorem d_mProperty_59 : decode b_mProperty 59 = .ok (.iconst 0, 1) := by decide +kernel
theorem d_mProperty_60 : decode b_mProperty 60 = .ok (.invokevirtual 50, 3) := by decide +kernel
theorem d_mProperty_63 : decode b_mProperty 63 = .ok (.ifCond .ne 43, 3) := by decide +kernel
theorem d_mProperty_66 : decode b_mProperty 66 = .ok (.aload_n 0, 1) := by decide +kernel
theorem d_mProperty_67 : decode b_mProperty 67 = .ok (.getfield 7, 3) := by decide +kernel
theorem d_mProperty_70 : decode b_mProperty 70 = .ok (.aload_n 0, 1) := by decide +kernel
theorem d_mProperty_71 : decode b_mProperty 71 = .ok (.getfield 47, 3) := by decide +kernel
theorem d_mProperty_74 : decode b_mProperty 74 = .ok (.iload_n 1, 1) := by decide +kernel
theorem d_mProperty_75 : decode b_mProperty 75 = .ok (.iastore, 1) := by decide +kernel
theorem d_mProperty_76 : decode b_mProperty 76 = .ok (.aload_n 0, 1) := by decide +kernel
theorem d_mProperty_77 : decode b_mProperty 77 = .ok (.getfield 13, 3) := by decide +kernel
theorem d_mProperty_80 : decode b_mProperty 80 = .ok (.aload_n 0, 1) := by decide +kernel
theorem d_mProperty_81 : decode b_mProperty 81 = .ok (.getfield 47, 3) := by decide +kernel
theorem d_mProperty_84 : decode b_mProperty 84 = .ok (.iload_n 2, 1) := by decide +kernel
theorem d_mProperty_85 : decode b_mProperty 85 = .ok (.iastore, 1) := by decide +kernel
theorem d_mProperty_86 : decode b_mProperty 86 = .ok (.aload_n 0, 1) := by decide +kernel
theorem d_mProperty_87 : decode b_mProperty 87 = .ok (.getfield 16, 3) := by decide +kernel
theorem d_mProperty_90 : decode b_mProperty 90 = .ok (.aload_n 0, 1) := by decide +kernel
theorem d_mProperty_91 : decode b_mProperty 91 = .ok (.getfield 47, 3) := by decide +kernel
theorem d_mProperty_94 : decode b_mProperty 94 = .ok (.iload_n 3, 1) := by decide +kernel
theorem d_mProperty_95 : decode b_mProperty 95 = .ok (.iastore, 1) := by decide +kernel
theorem d_mProperty_96 : decode b_mProperty 96 = .ok (.aload_n 0, 1) := by decide +kernel
theorem d_mProperty_97 : decode b_mProperty 97 = .ok (.dup, 1) := by decide +kernel
theorem d_mProperty_98 : decode b_mProperty 98 = .ok (.getfield 47, 3) := by decide +kernel
theorem d_mProperty_101 : decode b_mProperty 101 = .ok (.iconst 1, 1) := by decide +kernel
theorem d_mProperty_102 : decode b_mProperty 102 = .ok (.iadd, 1) := by decide +kernel
theorem d_mProperty_103 : decode b_mProperty 103 = .ok (.putfield 47, 3) := by decide +kernel
theorem d_mProperty_106 : decode b_mProperty 106 = .ok (.return_, 1) := by decide +kernel
theorem d_mGiven_0 : decode b_mGiven 0 = .ok (.iconst 0, 1) := by decide +kernel
theorem d_mGiven_1 : decode b_mGiven 1 = .ok (.istore_n 2, 1) := by decide +kernel
theorem d_mGiven_2 : decode b_mGiven 2 = .ok (.iload_n 2, 1) := by decide +kernel
theorem d_mGiven_3 : decode b_mGiven 3 = .ok (.iload_n 1, 1) := by decide +kernel
theorem d_mGiven_4 : decode b_mGiven 4 = .ok (.if_icmp .ge 19, 3) := by decide +kernel
theorem d_mGiven_7 : decode b_mGiven 7 = .ok (.aload_n 0, 1) := by decide +kernel
theorem d_mGiven_8 : decode b_mGiven 8 = .ok (.getfield 35, 3) := by decide +kernel
theorem d_mGiven_11 : decode b_mGiven 11 = .ok (.iload_n 2, 1) := by decide +kernel
theorem d_mGiven_12 : decode b_mGiven 12 = .ok (.iaload, 1) := by decide +kernel
theorem d_mGiven_13 : decode b_mGiven 13 = .ok (.iconst (-1), 1) := by decide +kernel
theorem d_mGiven_14 : decode b_mGiven 14 = .ok (.if_icmp .eq 9, 3) := by decide +kernel
theorem d_mGiven_17 : decode b_mGiven 17 = .ok (.iinc 2 1, 3) := by decide +kernel
theorem d_mGiven_20 : decode b_mGiven 20 = .ok (.goto (-18), 3) := by decide +kernel
theorem d_mGiven_23 : decode b_mGiven 23 = .ok (.iload_n 2, 1) := by decide +kernel
theorem d_mGiven_24 : decode b_mGiven 24 = .ok (.ireturn, 1) := by decide +kernel
theorem d_mIsSound_0 : decode b_mIsSound 0 = .ok (.iconst 1, 1) := by decide +kernel
theorem d_mIsSound_1 : decode b_mIsSound 1 = .ok (.istore_n 2, 1) := by decide +kernel
theorem d_mIsSound_2 : decode b_mIsSound 2 = .ok (.iconst 0, 1) := by decide +kernel
theorem d_mIsSound_3 : decode b_mIsSound 3 = .ok (.istore_n 3, 1) := by decide +kernel
theorem d_mIsSound_4 : decode b_mIsSound 4 = .ok (.iload_n 3, 1) := by decide +kernel
theorem d_mIsSound_5 : decode b_mIsSound 5 = .ok (.iload_n 1, 1) := by decide +kernel
theorem d_mIsSound_6 : decode b_mIsSound 6 = .ok (.if_icmp .ge 31, 3) := by decide +kernel
theorem d_mIsSound_9 : decode b_mIsSound 9 = .ok (.iload_n 2, 1) := by decide +kernel
theorem d_mIsSound_10 : decode b_mIsSound 10 = .ok (.ifCond .eq 19, 3) := by decide +kernel
theorem d_mIsSound_13 : decode b_mIsSound 13 = .ok (.aload_n 0, 1) := by decide +kernel
theorem d_mIsSound_14 : decode b_mIsSound 14 = .ok (.getfield 35, 3) := by decide +kernel
theorem d_mIsSound_17 : decode b_mIsSound 17 = .ok (.iload_n 3, 1) := by decide +kernel
theorem d_mIsSound_18 : decode b_mIsSound 18 = .ok (.iaload, 1) := by decide +kernel
theorem d_mIsSound_19 : decode b_mIsSound 19 = .ok (.invokestatic 43, 3) := by decide +kernel
theorem d_mIsSound_22 : decode b_mIsSound 22 = .ok (.ifCond .eq 7, 3) := by decide +kernel
theorem d_mIsSound_25 : decode b_mIsSound 25 = .ok (.iconst 1, 1) := by decide +kernel
theorem d_mIsSound_26 : decode b_mIsSound 26 = .ok (.goto 4, 3) := by decide +kernel
theorem d_mIsSound_29 : decode b_mIsSound 29 = .ok (.iconst 0, 1) := by decide +kernel
theorem d_mIsSound_30 : decode b_mIsSound 30 = .ok (.istore_n 2, 1) := by decide +kernel
theorem d_mIsSound_31 : decode b_mIsSound 31 = .ok (.iinc 3 1, 3) := by decide +kernel
theorem d_mIsSound_34 : decode b_mIsSound 34 = .ok (.goto (-30), 3) := by decide +kernel
theorem d_mIsSound_37 : decode b_mIsSound 37 = .ok (.iload_n 2, 1) := by decide +kernel
theorem d_mIsSound_38 : decode b_mIsSound 38 = .ok (.ireturn, 1) := by decide +kernel
theorem d_mAdd_0 : decode b_mAdd 0 = .ok (.aload_n 0, 1) := by decide +kernel
theorem d_mAdd_1 : decode b_mAdd 1 = .ok (.iload_n 1, 1) := by decide +kernel
theorem d_mAdd_2 : decode b_mAdd 2 = .ok (.iload_n 2, 1) := by decide +kernel
theorem d_mAdd_3 : decode b_mAdd 3 = .ok (.iload_n 3, 1) := by decide +kernel
theorem d_mAdd_4 : decode b_mAdd 4 = .ok (.iload 4, 2) := by decide +kernel
theorem d_mAdd_6 : decode b_mAdd 6 = .ok (.iload 5, 2) := by decide +kernel
theorem d_mAdd_8 : decode b_mAdd 8 = .ok (.invokevirtual 57, 3) := by decide +kernel
theorem d_mAdd_11 : decode b_mAdd 11 = .ok (.aload_n 0, 1) := by decide +kernel
theorem d_mAdd_12 : decode b_mAdd 12 = .ok (.iconst 5, 1) := by decide +kernel
theorem d_mAdd_13 : decode b_mAdd 13 = .ok (.invokevirtual 61, 3) := by decide +kernel
theorem d_mAdd_16 : decode b_mAdd 16 = .ok (.istore 6, 2) := by decide +kernel
theorem d_mAdd_18 : decode b_mAdd 18 = .ok (.aload_n 0, 1) := by decide +kernel
theorem d_mAdd_19 : decode b_mAdd 19 = .ok (.aload_n 0, 1) := by decide +kernel
theorem d_mAdd_20 : decode b_mAdd 20 = .ok (.iload 6, 2) := by decide +kernel
theorem d_mAdd_22 : decode b_mAdd 22 = .ok (.invokevirtual 65, 3) := by decide +kernel
theorem d_mAdd_25 : decode b_mAdd 25 = .ok (.ifCond .ne 7, 3) := by decide +kernel
theorem d_mAdd_28 : decode b_mAdd 28 = .ok (.iconst 1, 1) := by decide +kernel
theorem d_mAdd_29 : decode b_mAdd 29 = .ok (.goto 21, 3) := by decide +kernel
theorem d_mAdd_32 : decode b_mAdd 32 = .ok (.aload_n 0, 1) := by decide +kernel
theorem d_mAdd_33 : decode b_mAdd 33 = .ok (.getfield 68, 3) := by decide +kernel
theorem d_mAdd_36 : decode b_mAdd 36 = .ok (.iload 6, 2) := by decide +kernel
theorem d_mAdd_38 : decode b_mAdd 38 = .ok (.iadd, 1) := by decide +kernel
theorem d_mAdd_39 : decode b_mAdd 39 = .ok (.sipush 2000, 3) := by decide +kernel
theorem d_mAdd_42 : decode b_mAdd 42 = .ok (.if_icmp .le 7, 3) := by decide +kernel
theorem d_mAdd_45 : decode b_mAdd 45 = .ok (.iconst 2, 1) := by decide +kernel
theorem d_mAdd_46 : decode b_mAdd 46 = .ok (.goto 4, 3) := by decide +kernel
theorem d_mAdd_49 : decode b_mAdd 49 = .ok (.iconst 0, 1) := by decide +kernel
theorem d_mAdd_50 : decode b_mAdd 50 = .ok (.invokevirtual 50, 3) := by decide +kernel
theorem d_mAdd_53 : decode b_mAdd 53 = .ok (.ifCond .eq 5, 3) := by decide +kernel
theorem d_mAdd_56 : decode b_mAdd 56 = .ok (.iconst 0, 1) := by decide +kernel
theorem d_mAdd_57 : decode b_mAdd 57 = .ok (.ireturn, 1) := by decide +kernel
theorem d_mAdd_58 : decode b_mAdd 58 = .ok (.iconst 0, 1) := by decide +kernel
theorem d_mAdd_59 : decode b_mAdd 59 = .ok (.istore 7, 2) := by decide +kernel
theorem d_mAdd_61 : decode b_mAdd 61 = .ok (.iload 7, 2) := by decide +kernel
theorem d_mAdd_63 : decode b_mAdd 63 = .ok (.iload 6, 2) := by decide +kernel
theorem d_mAdd_65 : decode b_mAdd 65 = .ok (.if_icmp .ge 28, 3) := by decide +kernel
theorem d_mAdd_68 : decode b_mAdd 68 = .ok (.aload_n 0, 1) := by decide +kernel
theorem d_mAdd_69 : decode b_mAdd 69 = .ok (.getfield 32, 3) := by decide +kernel
theorem d_mAdd_72 : decode b_mAdd 72 = .ok (.aload_n 0, 1) := by decide +kernel
theorem d_mAdd_73 : decode b_mAdd 73 = .ok (.getfield 68, 3) := by decide +kernel
theorem d_mAdd_76 : decode b_mAdd 76 = .ok (.iload 7, 2) := by decide +kernel
theorem d_mAdd_78 : decode b_mAdd 78 = .ok (.iadd, 1) := by decide +kernel
theorem d_mAdd_79 : decode b_mAdd 79 = .ok (.aload_n 0, 1) := by decide +kernel
theorem d_mAdd_80 : decode b_mAdd 80 = .ok (.getfield 35, 3) := by decide +kernel
theorem d_mAdd_83 : decode b_mAdd 83 = .ok (.iload 7, 2) := by decide +kernel
theorem d_mAdd_85 : decode b_mAdd 85 = .ok (.iaload, 1) := by decide +kernel
theorem d_mAdd_86 : decode b_mAdd 86 = .ok (.iastore, 1) := by decide +kernel
theorem d_mAdd_87 : decode b_mAdd 87 = .ok (.iinc 7 1, 3) := by decide +kernel
theorem d_mAdd_90 : decode b_mAdd 90 = .ok (.goto (-29), 3) := by decide +kernel
theorem d_mAdd_93 : decode b_mAdd 93 = .ok (.aload_n 0, 1) := by decide +kernel
theorem d_mAdd_94 : decode b_mAdd 94 = .ok (.aload_n 0, 1) := by decide +kernel
theorem d_mAdd_95 : decode b_mAdd 95 = .ok (.getfield 68, 3) := by decide +kernel
theorem d_mAdd_98 : decode b_mAdd 98 = .ok (.iload 6, 2) := by decide +kernel
theorem d_mAdd_100 : decode b_mAdd 100 = .ok (.iadd, 1) := by decide +kernel
theorem d_mAdd_101 : decode b_mAdd 101 = .ok (.putfield 68, 3) := by decide +kernel
theorem d_mAdd_104 : decode b_mAdd 104 = .ok (.aload_n 0, 1) := by decide +kernel
theorem d_mAdd_105 : decode b_mAdd 105 = .ok (.getfield 68, 3) := by decide +kernel
theorem d_mAdd_108 : decode b_mAdd 108 = .ok (.ireturn, 1) := by decide +kernel
theorem d_mReplace_0 : decode b_mReplace 0 = .ok (.aload_n 0, 1) := by decide +kernel
theorem d_mReplace_1 : decode b_mReplace 1 = .ok (.iload_n 3, 1) := by decide +kernel
theorem d_mReplace_2 : decode b_mReplace 2 = .ok (.iload 4, 2) := by decide +kernel
theorem d_mReplace_4 : decode b_mReplace 4 = .ok (.iload 5, 2) := by decide +kernel
theorem d_mReplace_6 : decode b_mReplace 6 = .ok (.iconst (-1), 1) := by decide +kernel
theorem d_mReplace_7 : decode b_mReplace 7 = .ok (.iconst (-1), 1) := by decide +kernel
theorem d_mReplace_8 : decode b_mReplace 8 = .ok (.invokevirtual 57, 3) := by decide +kernel
theorem d_mReplace_11 : decode b_mReplace 11 = .ok (.aload_n 0, 1) := by decide +kernel
theorem d_mReplace_12 : decode b_mReplace 12 = .ok (.iconst 3, 1) := by decide +kernel
theorem d_mReplace_13 : decode b_mReplace 13 = .ok (.invokevirtual 61, 3) := by decide +kernel
theorem d_mReplace_16 : decode b_mReplace 16 = .ok (.istore 6, 2) := by decide +kernel
theorem d_mReplace_18 : decode b_mReplace 18 = .ok (.iload_n 1, 1) := by decide +kernel
theorem d_mReplace_19 : decode b_mReplace 19 = .ok (.ifCond .lt 20, 3) := by decide +kernel
theorem d_mReplace_22 : decode b_mReplace 22 = .ok (.iload_n 1, 1) := by decide +kernel
theorem d_mReplace_23 : decode b_mReplace 23 = .ok (.iload_n 2, 1) := by decide +kernel
theorem d_mReplace_24 : decode b_mReplace 24 = .ok (.if_icmp .gt 15, 3) := by decide +kernel
theorem d_mReplace_27 : decode b_mReplace 27 = .ok (.iload_n 2, 1) := by decide +kernel
theorem d_mReplace_28 : decode b_mReplace 28 = .ok (.aload_n 0, 1) := by decide +kernel
theorem d_mReplace_29 : decode b_mReplace 29 = .ok (.getfield 68, 3) := by decide +kernel
theorem d_mReplace_32 : decode b_mReplace 32 = .ok (.if_icmp .gt 7, 3) := by decide +kernel
theorem d_mReplace_35 : decode b_mReplace 35 = .ok (.iconst 1, 1) := by decide +kernel
theorem d_mReplace_36 : decode b_mReplace 36 = .ok (.goto 4, 3) := by decide +kernel
theorem d_mReplace_39 : decode b_mReplace 39 = .ok (.iconst 0, 1) := by decide +kernel
theorem d_mReplace_40 : decode b_mReplace 40 = .ok (.istore 7, 2) := by decide +kernel
theorem d_mReplace_42 : decode b_mReplace 42 = .ok (.aload_n 0, 1) := by decide +kernel
theorem d_mReplace_43 : decode b_mReplace 43 = .ok (.iload 7, 2) := by decide +kernel
theorem d_mReplace_45 : decode b_mReplace 45 = .ok (.ifCond .ne 7, 3) := by decide +kernel
theorem d_mReplace_48 : decode b_mReplace 48 = .ok (.iconst 1, 1) := by decide +kernel
theorem d_mReplace_49 : decode b_mReplace 49 = .ok (.goto 38, 3) := by decide +kernel
theorem d_mReplace_52 : decode b_mReplace 52 = .ok (.aload_n 0, 1) := by decide +kernel
theorem d_mReplace_53 : decode b_mReplace 53 = .ok (.iload 6, 2) := by decide +kernel
theorem d_mReplace_55 : decode b_mReplace 55 = .ok (.invokevirtual 65, 3) := by decide +kernel
theorem d_mReplace_58 : decode b_mReplace 58 = .ok (.ifCond .ne 7, 3) := by decide +kernel
theorem d_mReplace_61 : decode b_mReplace 61 = .ok (.iconst 2, 1) := by decide +kernel
theorem d_mReplace_62 : decode b_mReplace 62 = .ok (.goto 25, 3) := by decide +kernel
theorem d_mReplace_65 : decode b_mReplace 65 = .ok (.aload_n 0, 1) := by decide +kernel
theorem d_mReplace_66 : decode b_mReplace 66 = .ok (.getfield 68, 3) := by decide +kernel
theorem d_mReplace_69 : decode b_mReplace 69 = .ok (.iload_n 2, 1) := by decide +kernel
theorem d_mReplace_70 : decode b_mReplace 70 = .ok (.iload_n 1, 1) := by decide +kernel
theorem d_mReplace_71 : decode b_mReplace 71 = .ok (.isub, 1) := by decide +kernel
theorem d_mReplace_72 : decode b_mReplace 72 = .ok (.isub, 1) := by decide +kernel
theorem d_mReplace_73 : decode b_mReplace 73 = .ok (.iload 6, 2) := by decide +kernel
theorem d_mReplace_75 : decode b_mReplace 75 = .ok (.iadd, 1) := by decide +kernel
theorem d_mReplace_76 : decode b_mReplace 76 = .ok (.sipush 2000, 3) := by decide +kernel
theorem d_mReplace_79 : decode b_mReplace 79 = .ok (.if_icmp .le 7, 3) := by decide +kernel
theorem d_mReplace_82 : decode b_mReplace 82 = .ok (.iconst 3, 1) := by decide +kernel
theorem d_mReplace_83 : decode b_mReplace 83 = .ok (.goto 4, 3) := by decide +kernel
theorem d_mReplace_86 : decode b_mReplace 86 = .ok (.iconst 0, 1) := by decide +kernel
theorem d_mReplace_87 : decode b_mReplace 87 = .ok (.invokevirtual 50, 3) := by decide +kernel
theorem d_mReplace_90 : decode b_mReplace 90 = .ok (.ifCond .eq 5, 3) := by decide +kernel
theorem d_mReplace_93 : decode b_mReplace 93 = .ok (.iconst 0, 1) := by decide +kernel
theorem d_mReplace_94 : decode b_mReplace 94 = .ok (.ireturn, 1) := by decide +kernel
theorem d_mReplace_95 : decode b_mReplace 95 = .ok (.iload 6, 2) := by decide +kernel
theorem d_mReplace_97 : decode b_mReplace 97 = .ok (.iload_n 2, 1) := by decide +kernel
theorem d_mReplace_98 : decode b_mReplace 98 = .ok (.iload_n 1, 1) := by decide +kernel
theorem d_mReplace_99 : decode b_mReplace 99 = .ok (.isub, 1) := by decide +kernel
theorem d_mReplace_100 : decode b_mReplace 100 = .ok (.isub, 1) := by decide +kernel
theorem d_mReplace_101 : decode b_mReplace 101 = .ok (.istore 8, 2) := by decide +kernel
theorem d_mReplace_103 : decode b_mReplace 103 = .ok (.iload 8, 2) := by decide +kernel
theorem d_mReplace_105 : decode b_mReplace 105 = .ok (.ifCond .le 43, 3) := by decide +kernel
theorem d_mReplace_108 : decode b_mReplace 108 = .ok (.aload_n 0, 1) := by decide +kernel
theorem d_mReplace_109 : decode b_mReplace 109 = .ok (.getfield 68, 3) := by decide +kernel
theorem d_mReplace_112 : decode b_mReplace 112 = .ok (.iconst 1, 1) := by decide +kernel
theorem d_mReplace_113 : decode b_mReplace 113 = .ok (.isub, 1) := by decide +kernel
theorem d_mReplace_114 : decode b_mReplace 114 = .ok (.istore 9, 2) := by decide +kernel
theorem d_mReplace_116 : decode b_mReplace 116 = .ok (.iload 9, 2) := by decide +kernel
theorem d_mReplace_118 : decode b_mReplace 118 = .ok (.iload_n 2, 1) := by decide +kernel
theorem d_mReplace_119 : decode b_mReplace 119 = .ok (.if_icmp .lt 26, 3) := by decide +kernel
theorem d_mReplace_122 : decode b_mReplace 122 = .ok (.aload_n 0, 1) := by decide +kernel
theorem d_mReplace_123 : decode b_mReplace 123 = .ok (.getfield 32, 3) := by decide +kernel
theorem d_mReplace_126 : decode b_mReplace 126 = .ok (.iload 9, 2) := by decide +kernel
theorem d_mReplace_128 : decode b_mReplace 128 = .ok (.iload 8, 2) := by decide +kernel
theorem d_mReplace_130 : decode b_mReplace 130 = .ok (.iadd, 1) := by decide +kernel
theorem d_mReplace_131 : decode b_mReplace 131 = .ok (.aload_n 0, 1) := by decide +kernel
theorem d_mReplace_132 : decode b_mReplace 132 = .ok (.getfield 32, 3) := by decide +kernel
theorem d_mReplace_135 : decode b_mReplace 135 = .ok (.iload 9, 2) := by decide +kernel
theorem d_mReplace_137 : decode b_mReplace 137 = .ok (.iaload, 1) := by decide +kernel
theorem d_mReplace_138 : decode b_mReplace 138 = .ok (.iastore, 1) := by decide +kernel
end
section
theorem d_mReplace_139 : decode b_mReplace 139 = .ok (.iinc 9 (-1), 3) := by decide +kernel
theorem d_mReplace_142 : decode b_mReplace 142 = .ok (.goto (-26), 3) := by decide +kernel
theorem d_mReplace_145 : decode b_mReplace 145 = .ok (.goto 38, 3) := by decide +kernel
theorem d_mReplace_148 : decode b_mReplace 148 = .ok (.iload_n 2, 1) := by decide +kernel
theorem d_mReplace_149 : decode b_mReplace 149 = .ok (.istore 9, 2) := by decide +kernel
theorem d_mReplace_151 : decode b_mReplace 151 = .ok (.iload 9, 2) := by decide +kernel
theorem d_mReplace_153 : decode b_mReplace 153 = .ok (.aload_n 0, 1) := by decide +kernel
theorem d_mReplace_154 : decode b_mReplace 154 = .ok (.getfield 68, 3) := by decide +kernel
theorem d_mReplace_157 : decode b_mReplace 157 = .ok (.if_icmp .ge 26, 3) := by decide +kernel
theorem d_mReplace_160 : decode b_mReplace 160 = .ok (.aload_n 0, 1) := by decide +kernel
theorem d_mReplace_161 : decode b_mReplace 161 = .ok (.getfield 32, 3) := by decide +kernel
theorem d_mReplace_164 : decode b_mReplace 164 = .ok (.iload 9, 2) := by decide +kernel
theorem d_mReplace_166 : decode b_mReplace 166 = .ok (.iload 8, 2) := by decide +kernel
theorem d_mReplace_168 : decode b_mReplace 168 = .ok (.iadd, 1) := by decide +kernel
theorem d_mReplace_169 : decode b_mReplace 169 = .ok (.aload_n 0, 1) := by decide +kernel
theorem d_mReplace_170 : decode b_mReplace 170 = .ok (.getfield 32, 3) := by decide +kernel
theorem d_mReplace_173 : decode b_mReplace 173 = .ok (.iload 9, 2) := by decide +kernel
theorem d_mReplace_175 : decode b_mReplace 175 = .ok (.iaload, 1) := by decide +kernel
theorem d_mReplace_176 : decode b_mReplace 176 = .ok (.iastore, 1) := by decide +kernel
theorem d_mReplace_177 : decode b_mReplace 177 = .ok (.iinc 9 1, 3) := by decide +kernel
theorem d_mReplace_180 : decode b_mReplace 180 = .ok (.goto (-29), 3) := by decide +kernel
theorem d_mReplace_183 : decode b_mReplace 183 = .ok (.iconst 0, 1) := by decide +kernel
theorem d_mReplace_184 : decode b_mReplace 184 = .ok (.istore 9, 2) := by decide +kernel
theorem d_mReplace_186 : decode b_mReplace 186 = .ok (.iload 9, 2) := by decide +kernel
theorem d_mReplace_188 : decode b_mReplace 188 = .ok (.iload 6, 2) := by decide +kernel
theorem d_mReplace_190 : decode b_mReplace 190 = .ok (.if_icmp .ge 25, 3) := by decide +kernel
theorem d_mReplace_193 : decode b_mReplace 193 = .ok (.aload_n 0, 1) := by decide +kernel
theorem d_mReplace_194 : decode b_mReplace 194 = .ok (.getfield 32, 3) := by decide +kernel
theorem d_mReplace_197 : decode b_mReplace 197 = .ok (.iload_n 1, 1) := by decide +kernel
theorem d_mReplace_198 : decode b_mReplace 198 = .ok (.iload 9, 2) := by decide +kernel
theorem d_mReplace_200 : decode b_mReplace 200 = .ok (.iadd, 1) := by decide +kernel
theorem d_mReplace_201 : decode b_mReplace 201 = .ok (.aload_n 0, 1) := by decide +kernel
theorem d_mReplace_202 : decode b_mReplace 202 = .ok (.getfield 35, 3) := by decide +kernel
theorem d_mReplace_205 : decode b_mReplace 205 = .ok (.iload 9, 2) := by decide +kernel
theorem d_mReplace_207 : decode b_mReplace 207 = .ok (.iaload, 1) := by decide +kernel
theorem d_mReplace_208 : decode b_mReplace 208 = .ok (.iastore, 1) := by decide +kernel
theorem d_mReplace_209 : decode b_mReplace 209 = .ok (.iinc 9 1, 3) := by decide +kernel
theorem d_mReplace_212 : decode b_mReplace 212 = .ok (.goto (-26), 3) := by decide +kernel
theorem d_mReplace_215 : decode b_mReplace 215 = .ok (.aload_n 0, 1) := by decide +kernel
theorem d_mReplace_216 : decode b_mReplace 216 = .ok (.aload_n 0, 1) := by decide +kernel
theorem d_mReplace_217 : decode b_mReplace 217 = .ok (.getfield 68, 3) := by decide +kernel
theorem d_mReplace_220 : decode b_mReplace 220 = .ok (.iload 8, 2) := by decide +kernel
theorem d_mReplace_222 : decode b_mReplace 222 = .ok (.iadd, 1) := by decide +kernel
theorem d_mReplace_223 : decode b_mReplace 223 = .ok (.putfield 68, 3) := by decide +kernel
theorem d_mReplace_226 : decode b_mReplace 226 = .ok (.aload_n 0, 1) := by decide +kernel
theorem d_mReplace_227 : decode b_mReplace 227 = .ok (.getfield 68, 3) := by decide +kernel
theorem d_mReplace_230 : decode b_mReplace 230 = .ok (.ireturn, 1) := by decide +kernel
theorem d_mClassOf_0 : decode b_mClassOf 0 = .ok (.aload_n 0, 1) := by decide +kernel
theorem d_mClassOf_1 : decode b_mClassOf 1 = .ok (.getfield 32, 3) := by decide +kernel
theorem d_mClassOf_4 : decode b_mClassOf 4 = .ok (.iload_n 1, 1) := by decide +kernel
theorem d_mClassOf_5 : decode b_mClassOf 5 = .ok (.iaload, 1) := by decide +kernel
theorem d_mClassOf_6 : decode b_mClassOf 6 = .ok (.istore_n 2, 1) := by decide +kernel
theorem d_mClassOf_7 : decode b_mClassOf 7 = .ok (.bipush 40, 2) := by decide +kernel
theorem d_mClassOf_9 : decode b_mClassOf 9 = .ok (.istore_n 3, 1) := by decide +kernel
theorem d_mClassOf_10 : decode b_mClassOf 10 = .ok (.iconst 0, 1) := by decide +kernel
theorem d_mClassOf_11 : decode b_mClassOf 11 = .ok (.istore 4, 2) := by decide +kernel
theorem d_mClassOf_13 : decode b_mClassOf 13 = .ok (.iload 4, 2) := by decide +kernel
theorem d_mClassOf_15 : decode b_mClassOf 15 = .ok (.aload_n 0, 1) := by decide +kernel
theorem d_mClassOf_16 : decode b_mClassOf 16 = .ok (.getfield 47, 3) := by decide +kernel
theorem d_mClassOf_19 : decode b_mClassOf 19 = .ok (.if_icmp .ge 43, 3) := by decide +kernel
theorem d_mClassOf_22 : decode b_mClassOf 22 = .ok (.aload_n 0, 1) := by decide +kernel
theorem d_mClassOf_23 : decode b_mClassOf 23 = .ok (.getfield 7, 3) := by decide +kernel
theorem d_mClassOf_26 : decode b_mClassOf 26 = .ok (.iload 4, 2) := by decide +kernel
theorem d_mClassOf_28 : decode b_mClassOf 28 = .ok (.iaload, 1) := by decide +kernel
theorem d_mClassOf_29 : decode b_mClassOf 29 = .ok (.iload_n 2, 1) := by decide +kernel
theorem d_mClassOf_30 : decode b_mClassOf 30 = .ok (.if_icmp .gt 24, 3) := by decide +kernel
theorem d_mClassOf_33 : decode b_mClassOf 33 = .ok (.iload_n 2, 1) := by decide +kernel
theorem d_mClassOf_34 : decode b_mClassOf 34 = .ok (.aload_n 0, 1) := by decide +kernel
theorem d_mClassOf_35 : decode b_mClassOf 35 = .ok (.getfield 13, 3) := by decide +kernel
theorem d_mClassOf_38 : decode b_mClassOf 38 = .ok (.iload 4, 2) := by decide +kernel
theorem d_mClassOf_40 : decode b_mClassOf 40 = .ok (.iaload, 1) := by decide +kernel
theorem d_mClassOf_41 : decode b_mClassOf 41 = .ok (.if_icmp .gt 13, 3) := by decide +kernel
theorem d_mClassOf_44 : decode b_mClassOf 44 = .ok (.aload_n 0, 1) := by decide +kernel
theorem d_mClassOf_45 : decode b_mClassOf 45 = .ok (.getfield 16, 3) := by decide +kernel
theorem d_mClassOf_48 : decode b_mClassOf 48 = .ok (.iload 4, 2) := by decide +kernel
theorem d_mClassOf_50 : decode b_mClassOf 50 = .ok (.iaload, 1) := by decide +kernel
theorem d_mClassOf_51 : decode b_mClassOf 51 = .ok (.goto 4, 3) := by decide +kernel
theorem d_mClassOf_54 : decode b_mClassOf 54 = .ok (.iload_n 3, 1) := by decide +kernel
theorem d_mClassOf_55 : decode b_mClassOf 55 = .ok (.istore_n 3, 1) := by decide +kernel
theorem d_mClassOf_56 : decode b_mClassOf 56 = .ok (.iinc 4 1, 3) := by decide +kernel
theorem d_mClassOf_59 : decode b_mClassOf 59 = .ok (.goto (-46), 3) := by decide +kernel
theorem d_mClassOf_62 : decode b_mClassOf 62 = .ok (.iload_n 3, 1) := by decide +kernel
theorem d_mClassOf_63 : decode b_mClassOf 63 = .ok (.bipush 42, 2) := by decide +kernel
theorem d_mClassOf_65 : decode b_mClassOf 65 = .ok (.if_icmp .ne 6, 3) := by decide +kernel
theorem d_mClassOf_68 : decode b_mClassOf 68 = .ok (.bipush 8, 2) := by decide +kernel
theorem d_mClassOf_70 : decode b_mClassOf 70 = .ok (.ireturn, 1) := by decide +kernel
theorem d_mClassOf_71 : decode b_mClassOf 71 = .ok (.iload_n 3, 1) := by decide +kernel
theorem d_mClassOf_72 : decode b_mClassOf 72 = .ok (.bipush 43, 2) := by decide +kernel
theorem d_mClassOf_74 : decode b_mClassOf 74 = .ok (.if_icmp .ne 18, 3) := by decide +kernel
theorem d_mClassOf_77 : decode b_mClassOf 77 = .ok (.aload_n 0, 1) := by decide +kernel
theorem d_mClassOf_78 : decode b_mClassOf 78 = .ok (.getfield 53, 3) := by decide +kernel
theorem d_mClassOf_81 : decode b_mClassOf 81 = .ok (.ifCond .eq 8, 3) := by decide +kernel
theorem d_mClassOf_84 : decode b_mClassOf 84 = .ok (.bipush 29, 2) := by decide +kernel
theorem d_mClassOf_86 : decode b_mClassOf 86 = .ok (.goto 5, 3) := by decide +kernel
theorem d_mClassOf_89 : decode b_mClassOf 89 = .ok (.bipush 19, 2) := by decide +kernel
theorem d_mClassOf_91 : decode b_mClassOf 91 = .ok (.ireturn, 1) := by decide +kernel
theorem d_mClassOf_92 : decode b_mClassOf 92 = .ok (.iload_n 3, 1) := by decide +kernel
theorem d_mClassOf_93 : decode b_mClassOf 93 = .ok (.bipush 38, 2) := by decide +kernel
theorem d_mClassOf_95 : decode b_mClassOf 95 = .ok (.if_icmp .lt 8, 3) := by decide +kernel
theorem d_mClassOf_98 : decode b_mClassOf 98 = .ok (.bipush 27, 2) := by decide +kernel
theorem d_mClassOf_100 : decode b_mClassOf 100 = .ok (.goto 4, 3) := by decide +kernel
theorem d_mClassOf_103 : decode b_mClassOf 103 = .ok (.iload_n 3, 1) := by decide +kernel
theorem d_mClassOf_104 : decode b_mClassOf 104 = .ok (.ireturn, 1) := by decide +kernel
theorem d_mIsMarked_0 : decode b_mIsMarked 0 = .ok (.aload_n 0, 1) := by decide +kernel
theorem d_mIsMarked_1 : decode b_mIsMarked 1 = .ok (.getfield 32, 3) := by decide +kernel
theorem d_mIsMarked_4 : decode b_mIsMarked 4 = .ok (.iload_n 1, 1) := by decide +kernel
theorem d_mIsMarked_5 : decode b_mIsMarked 5 = .ok (.iaload, 1) := by decide +kernel
theorem d_mIsMarked_6 : decode b_mIsMarked 6 = .ok (.istore_n 3, 1) := by decide +kernel
theorem d_mIsMarked_7 : decode b_mIsMarked 7 = .ok (.iconst 0, 1) := by decide +kernel
theorem d_mIsMarked_8 : decode b_mIsMarked 8 = .ok (.istore 4, 2) := by decide +kernel
theorem d_mIsMarked_10 : decode b_mIsMarked 10 = .ok (.bipush 40, 2) := by decide +kernel
theorem d_mIsMarked_12 : decode b_mIsMarked 12 = .ok (.iload_n 2, 1) := by decide +kernel
theorem d_mIsMarked_13 : decode b_mIsMarked 13 = .ok (.imul, 1) := by decide +kernel
theorem d_mIsMarked_14 : decode b_mIsMarked 14 = .ok (.istore 5, 2) := by decide +kernel
theorem d_mIsMarked_16 : decode b_mIsMarked 16 = .ok (.iload 5, 2) := by decide +kernel
theorem d_mIsMarked_18 : decode b_mIsMarked 18 = .ok (.bipush 40, 2) := by decide +kernel
theorem d_mIsMarked_20 : decode b_mIsMarked 20 = .ok (.iload_n 2, 1) := by decide +kernel
theorem d_mIsMarked_21 : decode b_mIsMarked 21 = .ok (.imul, 1) := by decide +kernel
theorem d_mIsMarked_22 : decode b_mIsMarked 22 = .ok (.aload_n 0, 1) := by decide +kernel
theorem d_mIsMarked_23 : decode b_mIsMarked 23 = .ok (.getfield 19, 3) := by decide +kernel
theorem d_mIsMarked_26 : decode b_mIsMarked 26 = .ok (.iload_n 2, 1) := by decide +kernel
theorem d_mIsMarked_27 : decode b_mIsMarked 27 = .ok (.iaload, 1) := by decide +kernel
theorem d_mIsMarked_28 : decode b_mIsMarked 28 = .ok (.iadd, 1) := by decide +kernel
theorem d_mIsMarked_29 : decode b_mIsMarked 29 = .ok (.if_icmp .ge 45, 3) := by decide +kernel
theorem d_mIsMarked_32 : decode b_mIsMarked 32 = .ok (.aload_n 0, 1) := by decide +kernel
theorem d_mIsMarked_33 : decode b_mIsMarked 33 = .ok (.getfield 22, 3) := by decide +kernel
theorem d_mIsMarked_36 : decode b_mIsMarked 36 = .ok (.iload 5, 2) := by decide +kernel
theorem d_mIsMarked_38 : decode b_mIsMarked 38 = .ok (.iaload, 1) := by decide +kernel
theorem d_mIsMarked_39 : decode b_mIsMarked 39 = .ok (.iload_n 3, 1) := by decide +kernel
theorem d_mIsMarked_40 : decode b_mIsMarked 40 = .ok (.if_icmp .gt 24, 3) := by decide +kernel
theorem d_mIsMarked_43 : decode b_mIsMarked 43 = .ok (.iload_n 3, 1) := by decide +kernel
theorem d_mIsMarked_44 : decode b_mIsMarked 44 = .ok (.aload_n 0, 1) := by decide +kernel
theorem d_mIsMarked_45 : decode b_mIsMarked 45 = .ok (.getfield 25, 3) := by decide +kernel
theorem d_mIsMarked_48 : decode b_mIsMarked 48 = .ok (.iload 5, 2) := by decide +kernel
theorem d_mIsMarked_50 : decode b_mIsMarked 50 = .ok (.iaload, 1) := by decide +kernel
theorem d_mIsMarked_51 : decode b_mIsMarked 51 = .ok (.if_icmp .gt 13, 3) := by decide +kernel
theorem d_mIsMarked_54 : decode b_mIsMarked 54 = .ok (.aload_n 0, 1) := by decide +kernel
theorem d_mIsMarked_55 : decode b_mIsMarked 55 = .ok (.getfield 28, 3) := by decide +kernel
theorem d_mIsMarked_58 : decode b_mIsMarked 58 = .ok (.iload 5, 2) := by decide +kernel
theorem d_mIsMarked_60 : decode b_mIsMarked 60 = .ok (.baload, 1) := by decide +kernel
theorem d_mIsMarked_61 : decode b_mIsMarked 61 = .ok (.goto 5, 3) := by decide +kernel
theorem d_mIsMarked_64 : decode b_mIsMarked 64 = .ok (.iload 4, 2) := by decide +kernel
theorem d_mIsMarked_66 : decode b_mIsMarked 66 = .ok (.istore 4, 2) := by decide +kernel
theorem d_mIsMarked_68 : decode b_mIsMarked 68 = .ok (.iinc 5 1, 3) := by decide +kernel
theorem d_mIsMarked_71 : decode b_mIsMarked 71 = .ok (.goto (-55), 3) := by decide +kernel
theorem d_mIsMarked_74 : decode b_mIsMarked 74 = .ok (.iload 4, 2) := by decide +kernel
theorem d_mIsMarked_76 : decode b_mIsMarked 76 = .ok (.ireturn, 1) := by decide +kernel
theorem d_mMark_0 : decode b_mMark 0 = .ok (.iload_n 1, 1) := by decide +kernel
theorem d_mMark_1 : decode b_mMark 1 = .ok (.invokestatic 43, 3) := by decide +kernel
theorem d_mMark_4 : decode b_mMark 4 = .ok (.ifCond .eq 28, 3) := by decide +kernel
theorem d_mMark_7 : decode b_mMark 7 = .ok (.iload_n 2, 1) := by decide +kernel
theorem d_mMark_8 : decode b_mMark 8 = .ok (.invokestatic 43, 3) := by decide +kernel
theorem d_mMark_11 : decode b_mMark 11 = .ok (.ifCond .eq 21, 3) := by decide +kernel
theorem d_mMark_14 : decode b_mMark 14 = .ok (.iload_n 1, 1) := by decide +kernel
theorem d_mMark_15 : decode b_mMark 15 = .ok (.iload_n 2, 1) := by decide +kernel
theorem d_mMark_16 : decode b_mMark 16 = .ok (.if_icmp .gt 16, 3) := by decide +kernel
theorem d_mMark_19 : decode b_mMark 19 = .ok (.iload_n 3, 1) := by decide +kernel
theorem d_mMark_20 : decode b_mMark 20 = .ok (.ifCond .eq 8, 3) := by decide +kernel
theorem d_mMark_23 : decode b_mMark 23 = .ok (.iload_n 3, 1) := by decide +kernel
theorem d_mMark_24 : decode b_mMark 24 = .ok (.iconst 1, 1) := by decide +kernel
theorem d_mMark_25 : decode b_mMark 25 = .ok (.if_icmp .ne 7, 3) := by decide +kernel
theorem d_mMark_28 : decode b_mMark 28 = .ok (.iconst 1, 1) := by decide +kernel
theorem d_mMark_29 : decode b_mMark 29 = .ok (.goto 4, 3) := by decide +kernel
theorem d_mMark_32 : decode b_mMark 32 = .ok (.iconst 0, 1) := by decide +kernel
theorem d_mMark_33 : decode b_mMark 33 = .ok (.istore 5, 2) := by decide +kernel
theorem d_mMark_35 : decode b_mMark 35 = .ok (.aload_n 0, 1) := by decide +kernel
theorem d_mMark_36 : decode b_mMark 36 = .ok (.iload 5, 2) := by decide +kernel
theorem d_mMark_38 : decode b_mMark 38 = .ok (.ifCond .ne 7, 3) := by decide +kernel
theorem d_mMark_41 : decode b_mMark 41 = .ok (.iconst 1, 1) := by decide +kernel
theorem d_mMark_42 : decode b_mMark 42 = .ok (.goto 19, 3) := by decide +kernel
theorem d_mMark_45 : decode b_mMark 45 = .ok (.aload_n 0, 1) := by decide +kernel
theorem d_mMark_46 : decode b_mMark 46 = .ok (.getfield 19, 3) := by decide +kernel
theorem d_mMark_49 : decode b_mMark 49 = .ok (.iload_n 3, 1) := by decide +kernel
theorem d_mMark_50 : decode b_mMark 50 = .ok (.iaload, 1) := by decide +kernel
theorem d_mMark_51 : decode b_mMark 51 = .ok (.bipush 40, 2) := by decide +kernel
theorem d_mMark_53 : decode b_mMark 53 = .ok (.if_icmp .ne 7, 3) := by decide +kernel
theorem d_mMark_56 : decode b_mMark 56 = .ok (.iconst 2, 1) := by decide +kernel
theorem d_mMark_57 : decode b_mMark 57 = .ok (.goto 4, 3) := by decide +kernel
theorem d_mMark_60 : decode b_mMark 60 = .ok (.iconst 0, 1) := by decide +kernel
theorem d_mMark_61 : decode b_mMark 61 = .ok (.invokevirtual 50, 3) := by decide +kernel
theorem d_mMark_64 : decode b_mMark 64 = .ok (.ifCond .eq 4, 3) := by decide +kernel
theorem d_mMark_67 : decode b_mMark 67 = .ok (.return_, 1) := by decide +kernel
theorem d_mMark_68 : decode b_mMark 68 = .ok (.bipush 40, 2) := by decide +kernel
theorem d_mMark_70 : decode b_mMark 70 = .ok (.iload_n 3, 1) := by decide +kernel
theorem d_mMark_71 : decode b_mMark 71 = .ok (.imul, 1) := by decide +kernel
theorem d_mMark_72 : decode b_mMark 72 = .ok (.aload_n 0, 1) := by decide +kernel
theorem d_mMark_73 : decode b_mMark 73 = .ok (.getfield 19, 3) := by decide +kernel
theorem d_mMark_76 : decode b_mMark 76 = .ok (.iload_n 3, 1) := by decide +kernel
theorem d_mMark_77 : decode b_mMark 77 = .ok (.iaload, 1) := by decide +kernel
theorem d_mMark_78 : decode b_mMark 78 = .ok (.iadd, 1) := by decide +kernel
theorem d_mMark_79 : decode b_mMark 79 = .ok (.istore 6, 2) := by decide +kernel
theorem d_mMark_81 : decode b_mMark 81 = .ok (.aload_n 0, 1) := by decide +kernel
theorem d_mMark_82 : decode b_mMark 82 = .ok (.getfield 22, 3) := by decide +kernel
theorem d_mMark_85 : decode b_mMark 85 = .ok (.iload 6, 2) := by decide +kernel
theorem d_mMark_87 : decode b_mMark 87 = .ok (.iload_n 1, 1) := by decide +kernel
theorem d_mMark_88 : decode b_mMark 88 = .ok (.iastore, 1) := by decide +kernel
theorem d_mMark_89 : decode b_mMark 89 = .ok (.aload_n 0, 1) := by decide +kernel
theorem d_mMark_90 : decode b_mMark 90 = .ok (.getfield 25, 3) := by decide +kernel
theorem d_mMark_93 : decode b_mMark 93 = .ok (.iload 6, 2) := by decide +kernel
theorem d_mMark_95 : decode b_mMark 95 = .ok (.iload_n 2, 1) := by decide +kernel
theorem d_mMark_96 : decode b_mMark 96 = .ok (.iastore, 1) := by decide +kernel
theorem d_mMark_97 : decode b_mMark 97 = .ok (.aload_n 0, 1) := by decide +kernel
theorem d_mMark_98 : decode b_mMark 98 = .ok (.getfield 28, 3) := by decide +kernel
theorem d_mMark_101 : decode b_mMark 101 = .ok (.iload 6, 2) := by decide +kernel
theorem d_mMark_103 : decode b_mMark 103 = .ok (.iload 4, 2) := by decide +kernel
theorem d_mMark_105 : decode b_mMark 105 = .ok (.bastore, 1) := by decide +kernel
theorem d_mMark_106 : decode b_mMark 106 = .ok (.aload_n 0, 1) := by decide +kernel
theorem d_mMark_107 : decode b_mMark 107 = .ok (.getfield 19, 3) := by decide +kernel
theorem d_mMark_110 : decode b_mMark 110 = .ok (.iload_n 3, 1) := by decide +kernel
theorem d_mMark_111 : decode b_mMark 111 = .ok (.dup2, 1) := by decide +kernel
theorem d_mMark_112 : decode b_mMark 112 = .ok (.iaload, 1) := by decide +kernel
theorem d_mMark_113 : decode b_mMark 113 = .ok (.iconst 1, 1) := by decide +kernel
theorem d_mMark_114 : decode b_mMark 114 = .ok (.iadd, 1) := by decide +kernel
theorem d_mMark_115 : decode b_mMark 115 = .ok (.iastore, 1) := by decide +kernel
theorem d_mMark_116 : decode b_mMark 116 = .ok (.return_, 1) := by decide +kernel
theorem d_mIsMark_0 : decode b_mIsMark 0 = .ok (.aload_n 0, 1) := by decide +kernel
theorem d_mIsMark_1 : decode b_mIsMark 1 = .ok (.iload_n 1, 1) := by decide +kernel
theorem d_mIsMark_2 : decode b_mIsMark 2 = .ok (.invokevirtual 71, 3) := by decide +kernel
theorem d_mIsMark_5 : decode b_mIsMark 5 = .ok (.istore_n 2, 1) := by decide +kernel
theorem d_mIsMark_6 : decode b_mIsMark 6 = .ok (.iload_n 2, 1) := by decide +kernel
theorem d_mIsMark_7 : decode b_mIsMark 7 = .ok (.bipush 8, 2) := by decide +kernel
theorem d_mIsMark_9 : decode b_mIsMark 9 = .ok (.if_icmp .eq 9, 3) := by decide +kernel
theorem d_mIsMark_12 : decode b_mIsMark 12 = .ok (.iload_n 2, 1) := by decide +kernel
theorem d_mIsMark_13 : decode b_mIsMark 13 = .ok (.bipush 7, 2) := by decide +kernel
theorem d_mIsMark_15 : decode b_mIsMark 15 = .ok (.if_icmp .ne 7, 3) := by decide +kernel
theorem d_mIsMark_18 : decode b_mIsMark 18 = .ok (.iconst 1, 1) := by decide +kernel
theorem d_mIsMark_19 : decode b_mIsMark 19 = .ok (.goto 4, 3) := by decide +kernel
theorem d_mIsMark_22 : decode b_mIsMark 22 = .ok (.iconst 0, 1) := by decide +kernel
theorem d_mIsMark_23 : decode b_mIsMark 23 = .ok (.ireturn, 1) := by decide +kernel
theorem d_mIsLeftOut_0 : decode b_mIsLeftOut 0 = .ok (.iload_n 1, 1) := by decide +kernel
theorem d_mIsLeftOut_1 : decode b_mIsLeftOut 1 = .ok (.ifCond .eq 11, 3) := by decide +kernel
theorem d_mIsLeftOut_4 : decode b_mIsLeftOut 4 = .ok (.aload_n 0, 1) := by decide +kernel
theorem d_mIsLeftOut_5 : decode b_mIsLeftOut 5 = .ok (.iload_n 1, 1) := by decide +kernel
theorem d_mIsLeftOut_6 : decode b_mIsLeftOut 6 = .ok (.invokevirtual 74, 3) := by decide +kernel
theorem d_mIsLeftOut_9 : decode b_mIsLeftOut 9 = .ok (.ifCond .ne 5, 3) := by decide +kernel
theorem d_mIsLeftOut_12 : decode b_mIsLeftOut 12 = .ok (.iconst 0, 1) := by decide +kernel
theorem d_mIsLeftOut_13 : decode b_mIsLeftOut 13 = .ok (.ireturn, 1) := by decide +kernel
theorem d_mIsLeftOut_14 : decode b_mIsLeftOut 14 = .ok (.aload_n 0, 1) := by decide +kernel
theorem d_mIsLeftOut_15 : decode b_mIsLeftOut 15 = .ok (.iload_n 1, 1) := by decide +kernel
theorem d_mIsLeftOut_16 : decode b_mIsLeftOut 16 = .ok (.iconst 1, 1) := by decide +kernel
theorem d_mIsLeftOut_17 : decode b_mIsLeftOut 17 = .ok (.isub, 1) := by decide +kernel
theorem d_mIsLeftOut_18 : decode b_mIsLeftOut 18 = .ok (.invokevirtual 71, 3) := by decide +kernel
theorem d_mIsLeftOut_21 : decode b_mIsLeftOut 21 = .ok (.istore_n 2, 1) := by decide +kernel
theorem d_mIsLeftOut_22 : decode b_mIsLeftOut 22 = .ok (.iload_n 2, 1) := by decide +kernel
theorem d_mIsLeftOut_23 : decode b_mIsLeftOut 23 = .ok (.iconst 5, 1) := by decide +kernel
theorem d_mIsLeftOut_24 : decode b_mIsLeftOut 24 = .ok (.if_icmp .le 7, 3) := by decide +kernel
theorem d_mIsLeftOut_27 : decode b_mIsLeftOut 27 = .ok (.iconst 1, 1) := by decide +kernel
theorem d_mIsLeftOut_28 : decode b_mIsLeftOut 28 = .ok (.goto 4, 3) := by decide +kernel
theorem d_mIsLeftOut_31 : decode b_mIsLeftOut 31 = .ok (.iconst 0, 1) := by decide +kernel
theorem d_mIsLeftOut_32 : decode b_mIsLeftOut 32 = .ok (.ireturn, 1) := by decide +kernel
theorem d_mBase_0 : decode b_mBase 0 = .ok (.iload_n 1, 1) := by decide +kernel
theorem d_mBase_1 : decode b_mBase 1 = .ok (.istore_n 2, 1) := by decide +kernel
theorem d_mBase_2 : decode b_mBase 2 = .ok (.iload_n 2, 1) := by decide +kernel
theorem d_mBase_3 : decode b_mBase 3 = .ok (.ifCond .lt 17, 3) := by decide +kernel
theorem d_mBase_6 : decode b_mBase 6 = .ok (.aload_n 0, 1) := by decide +kernel
theorem d_mBase_7 : decode b_mBase 7 = .ok (.iload_n 2, 1) := by decide +kernel
theorem d_mBase_8 : decode b_mBase 8 = .ok (.invokevirtual 77, 3) := by decide +kernel
theorem d_mBase_11 : decode b_mBase 11 = .ok (.ifCond .eq 9, 3) := by decide +kernel
theorem d_mBase_14 : decode b_mBase 14 = .ok (.iinc 2 (-1), 3) := by decide +kernel
theorem d_mBase_17 : decode b_mBase 17 = .ok (.goto (-15), 3) := by decide +kernel
theorem d_mBase_20 : decode b_mBase 20 = .ok (.iload_n 2, 1) := by decide +kernel
theorem d_mBase_21 : decode b_mBase 21 = .ok (.ireturn, 1) := by decide +kernel
theorem d_mBaseClass_0 : decode b_mBaseClass 0 = .ok (.iload_n 1, 1) := by decide +kernel
theorem d_mBaseClass_1 : decode b_mBaseClass 1 = .ok (.ifCond .ge 5, 3) := by decide +kernel
theorem d_mBaseClass_4 : decode b_mBaseClass 4 = .ok (.iconst (-1), 1) := by decide +kernel
theorem d_mBaseClass_5 : decode b_mBaseClass 5 = .ok (.ireturn, 1) := by decide +kernel
theorem d_mBaseClass_6 : decode b_mBaseClass 6 = .ok (.aload_n 0, 1) := by decide +kernel
theorem d_mBaseClass_7 : decode b_mBaseClass 7 = .ok (.iload_n 1, 1) := by decide +kernel
theorem d_mBaseClass_8 : decode b_mBaseClass 8 = .ok (.invokevirtual 74, 3) := by decide +kernel
theorem d_mBaseClass_11 : decode b_mBaseClass 11 = .ok (.ifCond .eq 8, 3) := by decide +kernel
theorem d_mBaseClass_14 : decode b_mBaseClass 14 = .ok (.bipush 27, 2) := by decide +kernel
theorem d_mBaseClass_16 : decode b_mBaseClass 16 = .ok (.goto 8, 3) := by decide +kernel
theorem d_mBaseClass_19 : decode b_mBaseClass 19 = .ok (.aload_n 0, 1) := by decide +kernel
theorem d_mBaseClass_20 : decode b_mBaseClass 20 = .ok (.iload_n 1, 1) := by decide +kernel
theorem d_mBaseClass_21 : decode b_mBaseClass 21 = .ok (.invokevirtual 71, 3) := by decide +kernel
theorem d_mBaseClass_24 : decode b_mBaseClass 24 = .ok (.ireturn, 1) := by decide +kernel
end
section
theorem w_0 : Cond.constant "BreakPlaces" 134 1114111 ∈ wA := wA_1 (i := 224) rfl rfl
theorem w_1 : Cond.methodLink "BreakPlaces" 135 y_isCharacter ∈ wA := wA_1 (i := 221) rfl rfl
theorem w_2 : Cond.static y_isCharacter ∈ wA := wA_1 (i := 222) rfl rfl
theorem w_3 : Cond.initialized "BreakPlaces" ∈ wA := wA_1 (i := 1) rfl rfl
theorem w_4 : Cond.constantLong "BreakPlaces" 235 384 ∈ wA := wA_1 (i := 161) rfl rfl
theorem w_5 : Cond.methodLink "BreakPlaces" 130 y_isIn ∈ wA := wA_1 (i := 147) rfl rfl
theorem w_6 : Cond.static y_isIn ∈ wA := wA_1 (i := 148) rfl rfl
theorem w_7 : Cond.constantLong "BreakPlaces" 204 71532544 ∈ wA := wA_1 (i := 166) rfl rfl
theorem w_8 : Cond.constantLong "BreakPlaces" 202 10240 ∈ wA := wA_1 (i := 165) rfl rfl
theorem w_9 : Cond.constantLong "BreakPlaces" 206 98304 ∈ wA := wA_1 (i := 170) rfl rfl
theorem w_10 : Cond.constantLong "BreakPlaces" 211 402653184 ∈ wA := wA_1 (i := 178) rfl rfl
theorem w_11 : Cond.constantLong "BreakPlaces" 213 3758096384 ∈ wA := wA_1 (i := 179) rfl rfl
theorem w_12 : Cond.constantLong "BreakPlaces" 215 50331648 ∈ wA := wA_1 (i := 180) rfl rfl
theorem w_13 : Cond.constantLong "BreakPlaces" 217 8486912 ∈ wA := wA_1 (i := 181) rfl rfl
theorem w_14 : Cond.constantLong "BreakPlaces" 219 79699968 ∈ wA := wA_1 (i := 182) rfl rfl
theorem w_15 : Cond.constantLong "BreakPlaces" 221 133143986176 ∈ wA := wA_1 (i := 186) rfl rfl
theorem w_16 : Cond.fieldLink "BreakPlaces$Ranges" 19 "BreakPlaces$Ranges" "many" "I" ∈ wA := wA_1 (i := 29) rfl rfl
theorem w_17 : Cond.fieldLink "BreakPlaces$Ranges" 7 "BreakPlaces$Ranges" "firsts" "[I" ∈ wA := wA_1 (i := 26) rfl rfl
theorem w_18 : Cond.methodLink "BreakPlaces$Ranges" 23 y_rIsFull ∈ wA := wA_2 (i := 77) rfl rfl
theorem w_19 : Cond.instanceMethod y_rIsFull ∈ wA := wA_2 (i := 55) rfl rfl
theorem w_20 : Cond.selects "BreakPlaces$Ranges" y_rIsFull y_rIsFull ∈ wA := wA_s (i := 14) rfl rfl
theorem w_21 : Cond.initialized "BreakPlaces$Ranges" ∈ wA := wA_1 (i := 2) rfl rfl
theorem w_22 : Cond.fieldLink "BreakPlaces$Ranges" 13 "BreakPlaces$Ranges" "lasts" "[I" ∈ wA := wA_1 (i := 27) rfl rfl
theorem w_23 : Cond.fieldLink "BreakPlaces$Ranges" 16 "BreakPlaces$Ranges" "values" "[I" ∈ wA := wA_1 (i := 28) rfl rfl
theorem w_24 : Cond.methodLinkNest "BreakPlaces" 144 y_rValueOf "BreakPlaces" ∈ wN := wN_1 (i := 195) rfl rfl
theorem w_25 : Cond.instanceMethod y_rValueOf ∈ wA := wA_1 (i := 197) rfl rfl
theorem w_26 : Cond.selects "BreakPlaces$Ranges" y_rValueOf y_rValueOf ∈ wA := wA_s (i := 10) rfl rfl
theorem w_27 : Cond.fieldLink "BreakPlaces$Before" 14 "BreakPlaces$Before" "last" "I" ∈ wA := wA_1 (i := 50) rfl rfl
theorem w_28 : Cond.fieldLink "BreakPlaces$Before" 18 "BreakPlaces$Before" "a" "I" ∈ wA := wA_1 (i := 52) rfl rfl
theorem w_29 : Cond.fieldLink "BreakPlaces$Before" 21 "BreakPlaces$Before" "characterA" "I" ∈ wA := wA_1 (i := 54) rfl rfl
theorem w_30 : Cond.fieldLink "BreakPlaces$Before" 24 "BreakPlaces$Before" "beforeA" "I" ∈ wA := wA_1 (i := 56) rfl rfl
theorem w_31 : Cond.fieldLink "BreakPlaces$Before" 27 "BreakPlaces$Before" "solid" "I" ∈ wA := wA_1 (i := 58) rfl rfl
theorem w_32 : Cond.fieldLink "BreakPlaces$Before" 30 "BreakPlaces$Before" "oddRow" "Z" ∈ wA := wA_1 (i := 60) rfl rfl
theorem w_33 : Cond.constantLong "BreakPlaces$Before" 34 384 ∈ wA := wA_1 (i := 155) rfl rfl
theorem w_34 : Cond.methodLinkNest "BreakPlaces$Before" 36 y_isIn "BreakPlaces" ∈ wN := wN_1 (i := 156) rfl rfl
theorem w_35 : Cond.constantLong "BreakPlaces$Before" 40 63 ∈ wA := wA_1 (i := 157) rfl rfl
theorem w_36 : Cond.methodLink "BreakPlaces$Before" 42 y_bLeavesout ∈ wA := wA_1 (i := 203) rfl rfl
theorem w_37 : Cond.instanceMethod y_bLeavesout ∈ wA := wA_1 (i := 153) rfl rfl
theorem w_38 : Cond.selects "BreakPlaces$Before" y_bLeavesout y_bLeavesout ∈ wA := wA_s (i := 7) rfl rfl
theorem w_39 : Cond.initialized "BreakPlaces$Before" ∈ wA := wA_1 (i := 3) rfl rfl
theorem w_40 : Cond.methodLinkNest "BreakPlaces$Before" 46 y_standsFor "BreakPlaces" ∈ wN := wN_1 (i := 204) rfl rfl
theorem w_41 : Cond.static y_standsFor ∈ wA := wA_1 (i := 159) rfl rfl
theorem w_42 : Cond.fieldLink "BreakPlaces" 44 "BreakPlaces" "length" "I" ∈ wA := wA_1 (i := 83) rfl rfl
theorem w_43 : Cond.fieldLink "BreakPlaces" 52 "BreakPlaces" "known" "I" ∈ wA := wA_1 (i := 85) rfl rfl
theorem w_44 : Cond.fieldLink "BreakPlaces" 40 "BreakPlaces" "before" "LBreakPlaces$Before;" ∈ wA := wA_1 (i := 82) rfl rfl
theorem w_45 : Cond.methodLinkNest "BreakPlaces" 148 y_bStart "BreakPlaces" ∈ wN := wN_1 (i := 117) rfl rfl
theorem w_46 : Cond.instanceMethod y_bStart ∈ wA := wA_1 (i := 48) rfl rfl
theorem w_47 : Cond.selects "BreakPlaces$Before" y_bStart y_bStart ∈ wA := wA_s (i := 0) rfl rfl
theorem w_48 : Cond.fieldLink "BreakPlaces" 13 "BreakPlaces" "classes" "[I" ∈ wA := wA_1 (i := 76) rfl rfl
theorem w_49 : Cond.fieldLink "BreakPlaces" 48 "BreakPlaces" "isLoose" "Z" ∈ wA := wA_1 (i := 84) rfl rfl
theorem w_50 : Cond.methodLink "BreakPlaces" 114 y_kindAt ∈ wA := wA_1 (i := 134) rfl rfl
theorem w_51 : Cond.instanceMethod y_kindAt ∈ wA := wA_1 (i := 136) rfl rfl
theorem w_52 : Cond.selects "BreakPlaces" y_kindAt y_kindAt ∈ wA := wA_s (i := 4) rfl rfl
theorem w_53 : Cond.fieldLinkNest "BreakPlaces" 192 "BreakPlaces$Before" "last" "I" "BreakPlaces" ∈ wN := wN_1 (i := 51) rfl rfl
theorem w_54 : Cond.constantLong "BreakPlaces" 195 15 ∈ wA := wA_1 (i := 146) rfl rfl
theorem w_55 : Cond.constantLong "BreakPlaces" 197 48 ∈ wA := wA_1 (i := 150) rfl rfl
theorem w_56 : Cond.fieldLinkNest "BreakPlaces" 173 "BreakPlaces$Before" "solid" "I" "BreakPlaces" ∈ wN := wN_1 (i := 59) rfl rfl
theorem w_57 : Cond.methodLinkNest "BreakPlaces" 199 y_bLeavesout "BreakPlaces" ∈ wN := wN_1 (i := 151) rfl rfl
theorem w_58 : Cond.fieldLinkNest "BreakPlaces" 208 "BreakPlaces$Before" "beforeA" "I" "BreakPlaces" ∈ wN := wN_1 (i := 57) rfl rfl
theorem w_59 : Cond.constantLong "BreakPlaces" 223 411041792 ∈ wA := wA_1 (i := 191) rfl rfl
theorem w_60 : Cond.fieldLink "BreakPlaces" 34 "BreakPlaces" "pictures" "LBreakPlaces$Ranges;" ∈ wA := wA_1 (i := 81) rfl rfl
theorem w_61 : Cond.fieldLinkNest "BreakPlaces" 229 "BreakPlaces$Before" "characterA" "I" "BreakPlaces" ∈ wN := wN_1 (i := 55) rfl rfl
theorem w_62 : Cond.methodLink "BreakPlaces" 225 y_isMarked ∈ wA := wA_1 (i := 192) rfl rfl
theorem w_63 : Cond.static y_isMarked ∈ wA := wA_1 (i := 193) rfl rfl
theorem w_64 : Cond.fieldLinkNest "BreakPlaces" 232 "BreakPlaces$Before" "oddRow" "Z" "BreakPlaces" ∈ wN := wN_1 (i := 61) rfl rfl
theorem w_65 : Cond.fieldLink "BreakPlaces" 31 "BreakPlaces" "wide" "LBreakPlaces$Ranges;" ∈ wA := wA_1 (i := 80) rfl rfl
theorem w_66 : Cond.methodLink "BreakPlaces" 161 y_ruleOfSpaces ∈ wA := wA_1 (i := 142) rfl rfl
theorem w_67 : Cond.instanceMethod y_ruleOfSpaces ∈ wA := wA_1 (i := 144) rfl rfl
theorem w_68 : Cond.selects "BreakPlaces" y_ruleOfSpaces y_ruleOfSpaces ∈ wA := wA_s (i := 6) rfl rfl
theorem w_69 : Cond.methodLink "BreakPlaces" 164 y_standsFor ∈ wA := wA_1 (i := 158) rfl rfl
theorem w_70 : Cond.fieldLinkNest "BreakPlaces" 167 "BreakPlaces$Before" "a" "I" "BreakPlaces" ∈ wN := wN_1 (i := 53) rfl rfl
theorem w_71 : Cond.methodLink "BreakPlaces" 170 y_ruleOfGlue ∈ wA := wA_1 (i := 162) rfl rfl
theorem w_72 : Cond.static y_ruleOfGlue ∈ wA := wA_1 (i := 163) rfl rfl
theorem w_73 : Cond.methodLink "BreakPlaces" 188 y_ruleOfMarks ∈ wA := wA_1 (i := 187) rfl rfl
theorem w_74 : Cond.instanceMethod y_ruleOfMarks ∈ wA := wA_1 (i := 189) rfl rfl
theorem w_75 : Cond.selects "BreakPlaces" y_ruleOfMarks y_ruleOfMarks ∈ wA := wA_s (i := 9) rfl rfl
theorem w_76 : Cond.methodLink "BreakPlaces" 185 y_ruleOfWords ∈ wA := wA_1 (i := 183) rfl rfl
theorem w_77 : Cond.static y_ruleOfWords ∈ wA := wA_1 (i := 184) rfl rfl
theorem w_78 : Cond.methodLink "BreakPlaces" 182 y_ruleOfNumbers ∈ wA := wA_1 (i := 175) rfl rfl
theorem w_79 : Cond.static y_ruleOfNumbers ∈ wA := wA_1 (i := 176) rfl rfl
theorem w_80 : Cond.methodLink "BreakPlaces" 179 y_ruleOfSigns ∈ wA := wA_1 (i := 171) rfl rfl
theorem w_81 : Cond.instanceMethod y_ruleOfSigns ∈ wA := wA_1 (i := 173) rfl rfl
theorem w_82 : Cond.selects "BreakPlaces" y_ruleOfSigns y_ruleOfSigns ∈ wA := wA_s (i := 8) rfl rfl
theorem w_83 : Cond.methodLink "BreakPlaces" 176 y_ruleAcrossSpaces ∈ wA := wA_1 (i := 167) rfl rfl
theorem w_84 : Cond.static y_ruleAcrossSpaces ∈ wA := wA_1 (i := 168) rfl rfl
theorem w_85 : Cond.fieldLink "BreakPlaces" 19 "BreakPlaces" "given" "[I" ∈ wA := wA_1 (i := 78) rfl rfl
theorem w_86 : Cond.methodLink "BreakPlaces" 79 y_forgetRules ∈ wA := wA_1 (i := 113) rfl rfl
theorem w_87 : Cond.instanceMethod y_forgetRules ∈ wA := wA_1 (i := 115) rfl rfl
theorem w_88 : Cond.selects "BreakPlaces" y_forgetRules y_forgetRules ∈ wA := wA_s (i := 1) rfl rfl
theorem w_89 : Cond.fieldLink "BreakPlaces" 9 "BreakPlaces" "text" "[I" ∈ wA := wA_1 (i := 75) rfl rfl
theorem w_90 : Cond.fieldLink "BreakPlaces" 27 "BreakPlaces" "classRanges" "LBreakPlaces$Ranges;" ∈ wA := wA_1 (i := 79) rfl rfl
theorem w_91 : Cond.methodLink "BreakPlaces" 138 arraycopyName ∈ wA := wA_2 (i := 108) rfl rfl
theorem w_92 : Cond.native arraycopyName ∈ wA := wA_2 (i := 110) rfl rfl
theorem w_93 : Cond.static arraycopyName ∈ wA := wA_2 (i := 109) rfl rfl
theorem w_94 : Cond.initialized "java/lang/System" ∈ wA := wA_1 (i := 10) rfl rfl
theorem w_95 : Cond.fieldLink "BreakPlaces" 16 "BreakPlaces" "rules" "[I" ∈ wA := wA_1 (i := 77) rfl rfl
theorem w_96 : Cond.methodLink "BreakPlaces" 154 y_findRule ∈ wA := wA_1 (i := 138) rfl rfl
theorem w_97 : Cond.instanceMethod y_findRule ∈ wA := wA_1 (i := 140) rfl rfl
theorem w_98 : Cond.selects "BreakPlaces" y_findRule y_findRule ∈ wA := wA_s (i := 5) rfl rfl
theorem w_99 : Cond.methodLinkNest "BreakPlaces" 157 y_bPass "BreakPlaces" ∈ wN := wN_1 (i := 199) rfl rfl
theorem w_100 : Cond.instanceMethod y_bPass ∈ wA := wA_1 (i := 201) rfl rfl
theorem w_101 : Cond.selects "BreakPlaces$Before" y_bPass y_bPass ∈ wA := wA_s (i := 11) rfl rfl
theorem w_102 : Cond.methodLink "BreakPlaces" 123 y_ruleAt ∈ wA := wA_1 (i := 130) rfl rfl
theorem w_103 : Cond.instanceMethod y_ruleAt ∈ wA := wA_1 (i := 132) rfl rfl
theorem w_104 : Cond.selects "BreakPlaces" y_ruleAt y_ruleAt ∈ wA := wA_s (i := 3) rfl rfl
theorem w_105 : Cond.methodLink "BreakPlaces" 151 y_isBetween ∈ wA := wA_1 (i := 205) rfl rfl
theorem w_106 : Cond.instanceMethod y_isBetween ∈ wA := wA_1 (i := 207) rfl rfl
theorem w_107 : Cond.selects "BreakPlaces" y_isBetween y_isBetween ∈ wA := wA_s (i := 12) rfl rfl
theorem w_108 : Cond.constant "BreakPlacesModel" 42 1114111 ∈ wA := wA_3 (i := 10) rfl rfl
theorem w_109 : Cond.fieldLink "BreakPlacesModel" 38 "BreakPlacesModel" "fault" "I" ∈ wA := wA_2 (i := 195) rfl rfl
theorem w_110 : Cond.fieldLink "BreakPlacesModel" 80 "BreakPlacesModel" "held" "I" ∈ wA := wA_2 (i := 208) rfl rfl
theorem w_111 : Cond.fieldLink "BreakPlacesModel" 68 "BreakPlacesModel" "size" "I" ∈ wA := wA_2 (i := 205) rfl rfl
theorem w_112 : Cond.fieldLink "BreakPlacesModel" 53 "BreakPlacesModel" "isLoose" "Z" ∈ wA := wA_2 (i := 204) rfl rfl
theorem w_113 : Cond.fieldLink "BreakPlacesModel" 35 "BreakPlacesModel" "fresh" "[I" ∈ wA := wA_2 (i := 207) rfl rfl
theorem w_114 : Cond.methodLink "BreakPlacesModel" 43 y_mIsChar ∈ wA := wA_3 (i := 7) rfl rfl
theorem w_115 : Cond.static y_mIsChar ∈ wA := wA_3 (i := 8) rfl rfl
theorem w_116 : Cond.initialized "BreakPlacesModel" ∈ wA := wA_1 (i := 4) rfl rfl
theorem w_117 : Cond.methodLink "BreakPlacesModel" 50 y_mRefused ∈ wA := wA_3 (i := 11) rfl rfl
theorem w_118 : Cond.instanceMethod y_mRefused ∈ wA := wA_3 (i := 13) rfl rfl
theorem w_119 : Cond.selects "BreakPlacesModel" y_mRefused y_mRefused ∈ wA := wA_s (i := 21) rfl rfl
theorem w_120 : Cond.fieldLink "BreakPlacesModel" 47 "BreakPlacesModel" "ranges" "I" ∈ wA := wA_2 (i := 196) rfl rfl
theorem w_121 : Cond.fieldLink "BreakPlacesModel" 7 "BreakPlacesModel" "firsts" "[I" ∈ wA := wA_2 (i := 197) rfl rfl
theorem w_122 : Cond.fieldLink "BreakPlacesModel" 13 "BreakPlacesModel" "lasts" "[I" ∈ wA := wA_2 (i := 198) rfl rfl
theorem w_123 : Cond.fieldLink "BreakPlacesModel" 16 "BreakPlacesModel" "kinds" "[I" ∈ wA := wA_2 (i := 199) rfl rfl
theorem w_124 : Cond.methodLink "BreakPlacesModel" 57 y_mKeep ∈ wA := wA_3 (i := 27) rfl rfl
theorem w_125 : Cond.instanceMethod y_mKeep ∈ wA := wA_3 (i := 29) rfl rfl
theorem w_126 : Cond.selects "BreakPlacesModel" y_mKeep y_mKeep ∈ wA := wA_s (i := 22) rfl rfl
theorem w_127 : Cond.methodLink "BreakPlacesModel" 61 y_mGiven ∈ wA := wA_3 (i := 31) rfl rfl
theorem w_128 : Cond.instanceMethod y_mGiven ∈ wA := wA_3 (i := 33) rfl rfl
theorem w_129 : Cond.selects "BreakPlacesModel" y_mGiven y_mGiven ∈ wA := wA_s (i := 23) rfl rfl
theorem w_130 : Cond.methodLink "BreakPlacesModel" 65 y_mIsSound ∈ wA := wA_3 (i := 35) rfl rfl
theorem w_131 : Cond.instanceMethod y_mIsSound ∈ wA := wA_3 (i := 37) rfl rfl
theorem w_132 : Cond.selects "BreakPlacesModel" y_mIsSound y_mIsSound ∈ wA := wA_s (i := 24) rfl rfl
theorem w_133 : Cond.fieldLink "BreakPlacesModel" 32 "BreakPlacesModel" "text" "[I" ∈ wA := wA_2 (i := 206) rfl rfl
theorem w_134 : Cond.fieldLink "BreakPlacesModel" 19 "BreakPlacesModel" "marks" "[I" ∈ wA := wA_2 (i := 200) rfl rfl
theorem w_135 : Cond.fieldLink "BreakPlacesModel" 22 "BreakPlacesModel" "markFirsts" "[I" ∈ wA := wA_2 (i := 201) rfl rfl
theorem w_136 : Cond.fieldLink "BreakPlacesModel" 25 "BreakPlacesModel" "markLasts" "[I" ∈ wA := wA_2 (i := 202) rfl rfl
theorem w_137 : Cond.fieldLink "BreakPlacesModel" 28 "BreakPlacesModel" "markAre" "[Z" ∈ wA := wA_2 (i := 203) rfl rfl
theorem w_138 : Cond.methodLink "BreakPlacesModel" 71 y_mClassOf ∈ wA := wA_3 (i := 59) rfl rfl
theorem w_139 : Cond.instanceMethod y_mClassOf ∈ wA := wA_3 (i := 61) rfl rfl
theorem w_140 : Cond.selects "BreakPlacesModel" y_mClassOf y_mClassOf ∈ wA := wA_s (i := 26) rfl rfl
theorem w_141 : Cond.methodLink "BreakPlacesModel" 74 y_mIsMark ∈ wA := wA_3 (i := 87) rfl rfl
theorem w_142 : Cond.instanceMethod y_mIsMark ∈ wA := wA_3 (i := 89) rfl rfl
theorem w_143 : Cond.selects "BreakPlacesModel" y_mIsMark y_mIsMark ∈ wA := wA_s (i := 32) rfl rfl
theorem w_144 : Cond.methodLink "BreakPlacesModel" 77 y_mIsLeftOut ∈ wA := wA_3 (i := 83) rfl rfl
theorem w_145 : Cond.instanceMethod y_mIsLeftOut ∈ wA := wA_3 (i := 85) rfl rfl
theorem w_146 : Cond.selects "BreakPlacesModel" y_mIsLeftOut y_mIsLeftOut ∈ wA := wA_s (i := 31) rfl rfl
theorem v_P_0 : Cond.laysFinal "BreakPlaces" "BreakPlaces" "text" "[I" ∈ wA := wA_1 (i := 86) rfl rfl
theorem v_P_1 : Cond.laysFinal "BreakPlaces" "BreakPlaces" "classes" "[I" ∈ wA := wA_1 (i := 88) rfl rfl
theorem v_P_2 : Cond.laysFinal "BreakPlaces" "BreakPlaces" "rules" "[I" ∈ wA := wA_1 (i := 90) rfl rfl
theorem v_P_3 : Cond.laysFinal "BreakPlaces" "BreakPlaces" "given" "[I" ∈ wA := wA_1 (i := 92) rfl rfl
theorem v_P_4 : Cond.laysFinal "BreakPlaces" "BreakPlaces" "classRanges" "LBreakPlaces$Ranges;" ∈ wA := wA_1 (i := 94) rfl rfl
theorem v_P_5 : Cond.laysFinal "BreakPlaces" "BreakPlaces" "wide" "LBreakPlaces$Ranges;" ∈ wA := wA_1 (i := 96) rfl rfl
theorem v_P_6 : Cond.laysFinal "BreakPlaces" "BreakPlaces" "pictures" "LBreakPlaces$Ranges;" ∈ wA := wA_1 (i := 98) rfl rfl
theorem v_P_7 : Cond.laysFinal "BreakPlaces" "BreakPlaces" "before" "LBreakPlaces$Before;" ∈ wA := wA_1 (i := 100) rfl rfl
theorem v_P_8 : Cond.lays "BreakPlaces" "BreakPlaces" "length" "I" ∈ wA := wA_1 (i := 102) rfl rfl
theorem v_P_9 : Cond.lays "BreakPlaces" "BreakPlaces" "isLoose" "Z" ∈ wA := wA_1 (i := 104) rfl rfl
theorem v_P_10 : Cond.lays "BreakPlaces" "BreakPlaces" "known" "I" ∈ wA := wA_1 (i := 106) rfl rfl
theorem i_P : ∀ w ∈ u_ws R_P F_P 11, w ∈ wA := gk_all [u_lay R_P F_P 0, u_lay R_P F_P 1, u_lay R_P F_P 2, u_lay R_P F_P 3, u_lay R_P F_P 4, u_lay R_P F_P 5, u_lay R_P F_P 6, u_lay R_P F_P 7, u_lay R_P F_P 8, u_lay R_P F_P 9, u_lay R_P F_P 10] rfl ⟨v_P_0, v_P_1, v_P_2, v_P_3, v_P_4, v_P_5, v_P_6, v_P_7, v_P_8, v_P_9, v_P_10, trivial⟩
theorem v_R_0 : Cond.laysFinal "BreakPlaces$Ranges" "BreakPlaces$Ranges" "firsts" "[I" ∈ wA := wA_1 (i := 30) rfl rfl
theorem v_R_1 : Cond.laysFinal "BreakPlaces$Ranges" "BreakPlaces$Ranges" "lasts" "[I" ∈ wA := wA_1 (i := 32) rfl rfl
theorem v_R_2 : Cond.laysFinal "BreakPlaces$Ranges" "BreakPlaces$Ranges" "values" "[I" ∈ wA := wA_1 (i := 34) rfl rfl
theorem v_R_3 : Cond.lays "BreakPlaces$Ranges" "BreakPlaces$Ranges" "many" "I" ∈ wA := wA_1 (i := 36) rfl rfl
theorem i_R : ∀ w ∈ u_ws R_R F_R 4, w ∈ wA := gk_all [u_lay R_R F_R 0, u_lay R_R F_R 1, u_lay R_R F_R 2, u_lay R_R F_R 3] rfl ⟨v_R_0, v_R_1, v_R_2, v_R_3, trivial⟩
theorem v_B_0 : Cond.lays "BreakPlaces$Before" "BreakPlaces$Before" "last" "I" ∈ wA := wA_1 (i := 62) rfl rfl
theorem v_B_1 : Cond.lays "BreakPlaces$Before" "BreakPlaces$Before" "a" "I" ∈ wA := wA_1 (i := 64) rfl rfl
theorem v_B_2 : Cond.lays "BreakPlaces$Before" "BreakPlaces$Before" "characterA" "I" ∈ wA := wA_1 (i := 66) rfl rfl
theorem v_B_3 : Cond.lays "BreakPlaces$Before" "BreakPlaces$Before" "beforeA" "I" ∈ wA := wA_1 (i := 68) rfl rfl
theorem v_B_4 : Cond.lays "BreakPlaces$Before" "BreakPlaces$Before" "solid" "I" ∈ wA := wA_1 (i := 70) rfl rfl
theorem v_B_5 : Cond.lays "BreakPlaces$Before" "BreakPlaces$Before" "oddRow" "Z" ∈ wA := wA_1 (i := 72) rfl rfl
theorem i_B : ∀ w ∈ u_ws R_B F_B 6, w ∈ wA := gk_all [u_lay R_B F_B 0, u_lay R_B F_B 1, u_lay R_B F_B 2, u_lay R_B F_B 3, u_lay R_B F_B 4, u_lay R_B F_B 5] rfl ⟨v_B_0, v_B_1, v_B_2, v_B_3, v_B_4, v_B_5, trivial⟩
theorem v_M_0 : Cond.lays "BreakPlacesModel" "BreakPlacesModel" "fault" "I" ∈ wA := wA_2 (i := 209) rfl rfl
theorem v_M_1 : Cond.lays "BreakPlacesModel" "BreakPlacesModel" "ranges" "I" ∈ wA := wA_2 (i := 211) rfl rfl
theorem v_M_2 : Cond.laysFinal "BreakPlacesModel" "BreakPlacesModel" "firsts" "[I" ∈ wA := wA_2 (i := 213) rfl rfl
theorem v_M_3 : Cond.laysFinal "BreakPlacesModel" "BreakPlacesModel" "lasts" "[I" ∈ wA := wA_2 (i := 215) rfl rfl
theorem v_M_4 : Cond.laysFinal "BreakPlacesModel" "BreakPlacesModel" "kinds" "[I" ∈ wA := wA_2 (i := 217) rfl rfl
theorem v_M_5 : Cond.laysFinal "BreakPlacesModel" "BreakPlacesModel" "marks" "[I" ∈ wA := wA_2 (i := 219) rfl rfl
theorem v_M_6 : Cond.laysFinal "BreakPlacesModel" "BreakPlacesModel" "markFirsts" "[I" ∈ wA := wA_2 (i := 221) rfl rfl
theorem v_M_7 : Cond.laysFinal "BreakPlacesModel" "BreakPlacesModel" "markLasts" "[I" ∈ wA := wA_2 (i := 223) rfl rfl
theorem v_M_8 : Cond.laysFinal "BreakPlacesModel" "BreakPlacesModel" "markAre" "[Z" ∈ wA := wA_2 (i := 225) rfl rfl
theorem v_M_9 : Cond.lays "BreakPlacesModel" "BreakPlacesModel" "isLoose" "Z" ∈ wA := wA_2 (i := 227) rfl rfl
theorem v_M_10 : Cond.lays "BreakPlacesModel" "BreakPlacesModel" "size" "I" ∈ wA := wA_2 (i := 229) rfl rfl
theorem v_M_11 : Cond.laysFinal "BreakPlacesModel" "BreakPlacesModel" "text" "[I" ∈ wA := wA_2 (i := 231) rfl rfl
theorem v_M_12 : Cond.laysFinal "BreakPlacesModel" "BreakPlacesModel" "fresh" "[I" ∈ wA := wA_2 (i := 233) rfl rfl
theorem v_M_13 : Cond.lays "BreakPlacesModel" "BreakPlacesModel" "held" "I" ∈ wA := wA_2 (i := 235) rfl rfl
theorem i_M : ∀ w ∈ u_ws R_M F_M 14, w ∈ wA := gk_all [u_lay R_M F_M 0, u_lay R_M F_M 1, u_lay R_M F_M 2, u_lay R_M F_M 3, u_lay R_M F_M 4, u_lay R_M F_M 5, u_lay R_M F_M 6, u_lay R_M F_M 7, u_lay R_M F_M 8, u_lay R_M F_M 9, u_lay R_M F_M 10, u_lay R_M F_M 11, u_lay R_M F_M 12, u_lay R_M F_M 13] rfl ⟨v_M_0, v_M_1, v_M_2, v_M_3, v_M_4, v_M_5, v_M_6, v_M_7, v_M_8, v_M_9, v_M_10, v_M_11, v_M_12, v_M_13, trivial⟩
theorem k_bLeavesout : Cond.code y_bLeavesout b_bLeavesout 2 (some .boolean) ∈ wA := wA_1 (i := 154) rfl rfl
theorem e_bLeavesout : y_bLeavesout.cls ≠ "java/lang/invoke/MethodHandle" ∧ y_bLeavesout.cls ≠ "java/lang/invoke/VarHandle" ∧ (parseMethodDescriptor y_bLeavesout.desc).map (fun d => d.parameters.length) = some 1 := by decide +kernel
theorem k_bPass : Cond.code y_bPass b_bPass 4 none ∈ wA := wA_1 (i := 202) rfl rfl
theorem e_bPass : y_bPass.cls ≠ "java/lang/invoke/MethodHandle" ∧ y_bPass.cls ≠ "java/lang/invoke/VarHandle" ∧ (parseMethodDescriptor y_bPass.desc).map (fun d => d.parameters.length) = some 2 := by decide +kernel
theorem k_bStart : Cond.code y_bStart b_bStart 1 none ∈ wA := wA_1 (i := 49) rfl rfl
theorem e_bStart : y_bStart.cls ≠ "java/lang/invoke/MethodHandle" ∧ y_bStart.cls ≠ "java/lang/invoke/VarHandle" ∧ (parseMethodDescriptor y_bStart.desc).map (fun d => d.parameters.length) = some 0 := by decide +kernel
theorem k_findRule : Cond.code y_findRule b_findRule 5 (some .int) ∈ wA := wA_1 (i := 141) rfl rfl
theorem e_findRule : y_findRule.cls ≠ "java/lang/invoke/MethodHandle" ∧ y_findRule.cls ≠ "java/lang/invoke/VarHandle" ∧ (parseMethodDescriptor y_findRule.desc).map (fun d => d.parameters.length) = some 2 := by decide +kernel
theorem k_forgetRules : Cond.code y_forgetRules b_forgetRules 1 none ∈ wA := wA_1 (i := 116) rfl rfl
theorem e_forgetRules : y_forgetRules.cls ≠ "java/lang/invoke/MethodHandle" ∧ y_forgetRules.cls ≠ "java/lang/invoke/VarHandle" ∧ (parseMethodDescriptor y_forgetRules.desc).map (fun d => d.parameters.length) = some 0 := by decide +kernel
theorem k_isBetween : Cond.code y_isBetween b_isBetween 2 (some .boolean) ∈ wA := wA_1 (i := 208) rfl rfl
theorem e_isBetween : y_isBetween.cls ≠ "java/lang/invoke/MethodHandle" ∧ y_isBetween.cls ≠ "java/lang/invoke/VarHandle" ∧ (parseMethodDescriptor y_isBetween.desc).map (fun d => d.parameters.length) = some 1 := by decide +kernel
theorem k_isCharacter : Cond.code y_isCharacter b_isCharacter 1 (some .boolean) ∈ wA := wA_1 (i := 223) rfl rfl
theorem e_isCharacter : y_isCharacter.cls ≠ "java/lang/invoke/MethodHandle" ∧ y_isCharacter.cls ≠ "java/lang/invoke/VarHandle" ∧ (parseMethodDescriptor y_isCharacter.desc).map (fun d => d.parameters.length) = some 1 := by decide +kernel
theorem k_isIn : Cond.code y_isIn b_isIn 3 (some .boolean) ∈ wA := wA_1 (i := 149) rfl rfl
theorem e_isIn : y_isIn.cls ≠ "java/lang/invoke/MethodHandle" ∧ y_isIn.cls ≠ "java/lang/invoke/VarHandle" ∧ (parseMethodDescriptor y_isIn.desc).map (fun d => d.parameters.length) = some 2 := by decide +kernel
theorem k_isMarked : Cond.code y_isMarked b_isMarked 2 (some .boolean) ∈ wA := wA_1 (i := 194) rfl rfl
theorem e_isMarked : y_isMarked.cls ≠ "java/lang/invoke/MethodHandle" ∧ y_isMarked.cls ≠ "java/lang/invoke/VarHandle" ∧ (parseMethodDescriptor y_isMarked.desc).map (fun d => d.parameters.length) = some 2 := by decide +kernel
theorem k_kindAt : Cond.code y_kindAt b_kindAt 2 (some .int) ∈ wA := wA_1 (i := 137) rfl rfl
theorem e_kindAt : y_kindAt.cls ≠ "java/lang/invoke/MethodHandle" ∧ y_kindAt.cls ≠ "java/lang/invoke/VarHandle" ∧ (parseMethodDescriptor y_kindAt.desc).map (fun d => d.parameters.length) = some 1 := by decide +kernel
theorem k_mClassOf : Cond.code y_mClassOf b_mClassOf 5 (some .int) ∈ wA := wA_3 (i := 62) rfl rfl
theorem e_mClassOf : y_mClassOf.cls ≠ "java/lang/invoke/MethodHandle" ∧ y_mClassOf.cls ≠ "java/lang/invoke/VarHandle" ∧ (parseMethodDescriptor y_mClassOf.desc).map (fun d => d.parameters.length) = some 1 := by decide +kernel
theorem k_mGiven : Cond.code y_mGiven b_mGiven 3 (some .int) ∈ wA := wA_3 (i := 34) rfl rfl
theorem e_mGiven : y_mGiven.cls ≠ "java/lang/invoke/MethodHandle" ∧ y_mGiven.cls ≠ "java/lang/invoke/VarHandle" ∧ (parseMethodDescriptor y_mGiven.desc).map (fun d => d.parameters.length) = some 1 := by decide +kernel
theorem k_mIsChar : Cond.code y_mIsChar b_mIsChar 1 (some .boolean) ∈ wA := wA_3 (i := 9) rfl rfl
theorem e_mIsChar : y_mIsChar.cls ≠ "java/lang/invoke/MethodHandle" ∧ y_mIsChar.cls ≠ "java/lang/invoke/VarHandle" ∧ (parseMethodDescriptor y_mIsChar.desc).map (fun d => d.parameters.length) = some 1 := by decide +kernel
theorem k_mIsLeftOut : Cond.code y_mIsLeftOut b_mIsLeftOut 3 (some .boolean) ∈ wA := wA_3 (i := 86) rfl rfl
theorem e_mIsLeftOut : y_mIsLeftOut.cls ≠ "java/lang/invoke/MethodHandle" ∧ y_mIsLeftOut.cls ≠ "java/lang/invoke/VarHandle" ∧ (parseMethodDescriptor y_mIsLeftOut.desc).map (fun d => d.parameters.length) = some 1 := by decide +kernel
theorem k_mIsMark : Cond.code y_mIsMark b_mIsMark 3 (some .boolean) ∈ wA := wA_3 (i := 90) rfl rfl
theorem e_mIsMark : y_mIsMark.cls ≠ "java/lang/invoke/MethodHandle" ∧ y_mIsMark.cls ≠ "java/lang/invoke/VarHandle" ∧ (parseMethodDescriptor y_mIsMark.desc).map (fun d => d.parameters.length) = some 1 := by decide +kernel
theorem k_mIsSound : Cond.code y_mIsSound b_mIsSound 4 (some .boolean) ∈ wA := wA_3 (i := 38) rfl rfl
theorem e_mIsSound : y_mIsSound.cls ≠ "java/lang/invoke/MethodHandle" ∧ y_mIsSound.cls ≠ "java/lang/invoke/VarHandle" ∧ (parseMethodDescriptor y_mIsSound.desc).map (fun d => d.parameters.length) = some 1 := by decide +kernel
theorem k_mKeep : Cond.code y_mKeep b_mKeep 6 none ∈ wA := wA_3 (i := 30) rfl rfl
theorem e_mKeep : y_mKeep.cls ≠ "java/lang/invoke/MethodHandle" ∧ y_mKeep.cls ≠ "java/lang/invoke/VarHandle" ∧ (parseMethodDescriptor y_mKeep.desc).map (fun d => d.parameters.length) = some 5 := by decide +kernel
theorem k_mRefused : Cond.code y_mRefused b_mRefused 2 (some .boolean) ∈ wA := wA_3 (i := 14) rfl rfl
theorem e_mRefused : y_mRefused.cls ≠ "java/lang/invoke/MethodHandle" ∧ y_mRefused.cls ≠ "java/lang/invoke/VarHandle" ∧ (parseMethodDescriptor y_mRefused.desc).map (fun d => d.parameters.length) = some 1 := by decide +kernel
theorem k_rIsFull : Cond.code y_rIsFull b_rIsFull 1 (some .boolean) ∈ wA := wA_2 (i := 56) rfl rfl
theorem e_rIsFull : y_rIsFull.cls ≠ "java/lang/invoke/MethodHandle" ∧ y_rIsFull.cls ≠ "java/lang/invoke/VarHandle" ∧ (parseMethodDescriptor y_rIsFull.desc).map (fun d => d.parameters.length) = some 0 := by decide +kernel
theorem k_rValueOf : Cond.code y_rValueOf b_rValueOf 4 (some .int) ∈ wA := wA_1 (i := 198) rfl rfl
theorem e_rValueOf : y_rValueOf.cls ≠ "java/lang/invoke/MethodHandle" ∧ y_rValueOf.cls ≠ "java/lang/invoke/VarHandle" ∧ (parseMethodDescriptor y_rValueOf.desc).map (fun d => d.parameters.length) = some 2 := by decide +kernel
theorem k_ruleAcrossSpaces : Cond.code y_ruleAcrossSpaces b_ruleAcrossSpaces 2 (some .int) ∈ wA := wA_1 (i := 169) rfl rfl
theorem e_ruleAcrossSpaces : y_ruleAcrossSpaces.cls ≠ "java/lang/invoke/MethodHandle" ∧ y_ruleAcrossSpaces.cls ≠ "java/lang/invoke/VarHandle" ∧ (parseMethodDescriptor y_ruleAcrossSpaces.desc).map (fun d => d.parameters.length) = some 2 := by decide +kernel
theorem k_ruleAt : Cond.code y_ruleAt b_ruleAt 4 (some .int) ∈ wA := wA_1 (i := 133) rfl rfl
theorem e_ruleAt : y_ruleAt.cls ≠ "java/lang/invoke/MethodHandle" ∧ y_ruleAt.cls ≠ "java/lang/invoke/VarHandle" ∧ (parseMethodDescriptor y_ruleAt.desc).map (fun d => d.parameters.length) = some 1 := by decide +kernel
theorem k_ruleOfGlue : Cond.code y_ruleOfGlue b_ruleOfGlue 2 (some .int) ∈ wA := wA_1 (i := 164) rfl rfl
theorem e_ruleOfGlue : y_ruleOfGlue.cls ≠ "java/lang/invoke/MethodHandle" ∧ y_ruleOfGlue.cls ≠ "java/lang/invoke/VarHandle" ∧ (parseMethodDescriptor y_ruleOfGlue.desc).map (fun d => d.parameters.length) = some 2 := by decide +kernel
theorem k_ruleOfMarks : Cond.code y_ruleOfMarks b_ruleOfMarks 4 (some .int) ∈ wA := wA_1 (i := 190) rfl rfl
theorem e_ruleOfMarks : y_ruleOfMarks.cls ≠ "java/lang/invoke/MethodHandle" ∧ y_ruleOfMarks.cls ≠ "java/lang/invoke/VarHandle" ∧ (parseMethodDescriptor y_ruleOfMarks.desc).map (fun d => d.parameters.length) = some 3 := by decide +kernel
theorem k_ruleOfNumbers : Cond.code y_ruleOfNumbers b_ruleOfNumbers 2 (some .int) ∈ wA := wA_1 (i := 177) rfl rfl
theorem e_ruleOfNumbers : y_ruleOfNumbers.cls ≠ "java/lang/invoke/MethodHandle" ∧ y_ruleOfNumbers.cls ≠ "java/lang/invoke/VarHandle" ∧ (parseMethodDescriptor y_ruleOfNumbers.desc).map (fun d => d.parameters.length) = some 2 := by decide +kernel
theorem k_ruleOfSigns : Cond.code y_ruleOfSigns b_ruleOfSigns 3 (some .int) ∈ wA := wA_1 (i := 174) rfl rfl
theorem e_ruleOfSigns : y_ruleOfSigns.cls ≠ "java/lang/invoke/MethodHandle" ∧ y_ruleOfSigns.cls ≠ "java/lang/invoke/VarHandle" ∧ (parseMethodDescriptor y_ruleOfSigns.desc).map (fun d => d.parameters.length) = some 2 := by decide +kernel
theorem k_ruleOfSpaces : Cond.code y_ruleOfSpaces b_ruleOfSpaces 2 (some .int) ∈ wA := wA_1 (i := 145) rfl rfl
theorem e_ruleOfSpaces : y_ruleOfSpaces.cls ≠ "java/lang/invoke/MethodHandle" ∧ y_ruleOfSpaces.cls ≠ "java/lang/invoke/VarHandle" ∧ (parseMethodDescriptor y_ruleOfSpaces.desc).map (fun d => d.parameters.length) = some 1 := by decide +kernel
theorem k_ruleOfWords : Cond.code y_ruleOfWords b_ruleOfWords 2 (some .int) ∈ wA := wA_1 (i := 185) rfl rfl
theorem e_ruleOfWords : y_ruleOfWords.cls ≠ "java/lang/invoke/MethodHandle" ∧ y_ruleOfWords.cls ≠ "java/lang/invoke/VarHandle" ∧ (parseMethodDescriptor y_ruleOfWords.desc).map (fun d => d.parameters.length) = some 2 := by decide +kernel
theorem k_standsFor : Cond.code y_standsFor b_standsFor 1 (some .int) ∈ wA := wA_1 (i := 160) rfl rfl
theorem e_standsFor : y_standsFor.cls ≠ "java/lang/invoke/MethodHandle" ∧ y_standsFor.cls ≠ "java/lang/invoke/VarHandle" ∧ (parseMethodDescriptor y_standsFor.desc).map (fun d => d.parameters.length) = some 1 := by decide +kernel
end
section
-- the worlds: one block of ranges, what stands before a place, the whole object
abbrev gk_T (cI : ClassId) (cL : ClassId × ClassId) : List (ClassId × FieldType) := [(cI, .int), (cL.1, .long), (cL.2, .boolean)]
def wd_R (cI : ClassId) (N a0 a1 a2 a3 : Nat) (fa la va : Nat → Int32) (mn : Int32) : va_W := [(a0, .inr (1, [.ref a1, .ref a2, .ref a3, .int mn])), (a1, .inl (cI, N, .inl fa)), (a2, .inl (cI, N, .inl la)), (a3, .inl (cI, N, .inl va))]
def wd_B (a0 : Nat) (b1 b2 b3 b4 b5 b6 : Int32) : va_W := [(a0, .inr (2, [.int b1, .int b2, .int b3, .int b4, .int b5, .int b6]))]
def wd_P (cI : ClassId) (h : Nat → Nat) (tx cs rl gv fa1 la1 va1 : Nat → Int32) (mn1 : Int32) (fa2 la2 va2 : Nat → Int32) (mn2 : Int32) (fa3 la3 va3 : Nat → Int32) (mn3 b1 b2 b3 b4 b5 b6 ln lo kn : Int32) : va_W :=
  [(h 0, .inr (0, [.ref (h 1), .ref (h 2), .ref (h 3), .ref (h 4), .ref (h 5), .ref (h 9), .ref (h 13), .ref (h 17), .int ln, .int lo, .int kn])),
   (h 1, .inl (cI, 2000, .inl tx)), (h 2, .inl (cI, 2000, .inl cs)), (h 3, .inl (cI, 2000, .inl rl)), (h 4, .inl (cI, 5, .inl gv)),
   (h 5, .inr (1, [.ref (h 6), .ref (h 7), .ref (h 8), .int mn1])), (h 6, .inl (cI, 100, .inl fa1)), (h 7, .inl (cI, 100, .inl la1)), (h 8, .inl (cI, 100, .inl va1)),
   (h 9, .inr (1, [.ref (h 10), .ref (h 11), .ref (h 12), .int mn2])), (h 10, .inl (cI, 40, .inl fa2)), (h 11, .inl (cI, 40, .inl la2)), (h 12, .inl (cI, 40, .inl va2)),
   (h 13, .inr (1, [.ref (h 14), .ref (h 15), .ref (h 16), .int mn3])), (h 14, .inl (cI, 40, .inl fa3)), (h 15, .inl (cI, 40, .inl la3)), (h 16, .inl (cI, 40, .inl va3)),
   (h 17, .inr (2, [.int b1, .int b2, .int b3, .int b4, .int b5, .int b6]))]
def wd_M (cI : ClassId) (cL : ClassId × ClassId) (g : Nat → Nat) (fl rn : Int32) (fs lt kk mk mf ml ma : Nat → Int32) (il sz : Int32) (tt fh : Nat → Int32) (hd : Int32) : va_W :=
  [(g 0, .inr (3, [.int fl, .int rn, .ref (g 1), .ref (g 2), .ref (g 3), .ref (g 4), .ref (g 5), .ref (g 6), .ref (g 7), .int il, .int sz, .ref (g 8), .ref (g 9), .int hd])),
   (g 1, .inl (cI, 100, .inl fs)), (g 2, .inl (cI, 100, .inl lt)), (g 3, .inl (cI, 100, .inl kk)), (g 4, .inl (cI, 2, .inl mk)), (g 5, .inl (cI, 80, .inl mf)), (g 6, .inl (cI, 80, .inl ml)), (g 7, .inl (cL.2, 80, .inl ma)), (g 8, .inl (cI, 2000, .inl tt)), (g 9, .inl (cI, 5, .inl fh))]
end
section
def mm_isIn (x0 : Int32) (x1 : Int64) : Int32 := if x0 < 0 then 0 else (if (lg_cmp ((x1 >>> (x0.toInt64 &&& 63)) &&& 1) 0) = 0 then 0 else 1)
def rm_isIn : Room := { frames := 0, cells := 0, slots := 0, locals := 0 }
set_option maxHeartbeats 4000000 in
set_option maxRecDepth 100000 in
theorem c_isIn (l : Launch) (D : va_G) (cI : ClassId) (cL : ClassId × ClassId) (x0 : Int32) (x1 : Int64) : gk_I l y_isIn (.code y_isIn b_isIn 3 (some .boolean) :: wA) rm_isIn D vwCl (gk_T cI cL) [.int x0, .long x1] [] (fun (r : Int32) (_ : Unit) => r = mm_isIn x0 x1) (fun (_ : Unit) => []) 0 0 := by
  refine gk_I.of (by decide) (Nat.le_of_ble_eq_true rfl) ?_
  intro p e s m below meth c A ls Q H locs hx hb hml hown hts hW hl X
  have hl : lv_has ls 3 [(0, .int x0), (1, .long x1)] := hl
  obtain ⟨tgt, heq⟩ : ∃ t, mm_isIn x0 x1 = t := ⟨_, rfl⟩
  rw [heq] at X
  rw [mm_isIn] at heq
  refine lv_iload_n hx hb d_isIn_0 rfl (lv_at hl 0 rfl) ?_
  refine lv_if_lt (tgt := 18) hx hb d_isIn_1 (by decide) (fun c_1 => ?_) (fun c_1 => ?_)
  · rw [if_pos c_1] at heq
    refine lv_iconst (v := 0) hx hb d_isIn_18 (by decide) ?_
    exact X _ () H locs 0 0 19 ls heq hW d_isIn_19 rfl (Nat.le_of_ble_eq_true rfl) (Nat.le_of_ble_eq_true rfl)
  · rw [if_neg c_1] at heq
    refine lv_lload_n hx hb d_isIn_4 rfl (lv_at hl 1 rfl) ?_
    refine lv_iload_n hx hb d_isIn_5 rfl (lv_at hl 0 rfl) ?_
    refine lv_lshr (v := x1 >>> (x0.toInt64 &&& 63)) hx hb d_isIn_6 rfl ?_
    refine lv_lconst (v := 1) hx hb d_isIn_7 (by decide) ?_
    refine lv_land hx hb d_isIn_8 ?_
    refine lv_lconst (v := 0) hx hb d_isIn_9 (by decide) ?_
    refine W.lcmp hx hb d_isIn_10 ?_
    refine lv_if_eq (tgt := 18) hx hb d_isIn_11 (by decide) (fun c_2 => ?_) (fun c_2 => ?_)
    · rw [if_pos c_2] at heq
      refine lv_iconst (v := 0) hx hb d_isIn_18 (by decide) ?_
      exact X _ () H locs 0 0 19 ls heq hW d_isIn_19 rfl (Nat.le_of_ble_eq_true rfl) (Nat.le_of_ble_eq_true rfl)
    · rw [if_neg c_2] at heq
      refine lv_iconst (v := 1) hx hb d_isIn_14 (by decide) ?_
      refine lv_goto (tgt := 19) hx hb d_isIn_15 (by decide) ?_
      exact X _ () H locs 0 0 19 ls heq hW d_isIn_19 rfl (Nat.le_of_ble_eq_true rfl) (Nat.le_of_ble_eq_true rfl)
def mm_isCharacter (x0 : Int32) : Int32 := if x0 < 0 then 0 else (if 1114111 < x0 then 0 else 1)
def rm_isCharacter : Room := { frames := 0, cells := 0, slots := 0, locals := 0 }
set_option maxHeartbeats 4000000 in
set_option maxRecDepth 100000 in
theorem c_isCharacter (l : Launch) (D : va_G) (cI : ClassId) (cL : ClassId × ClassId) (x0 : Int32) : gk_I l y_isCharacter (.code y_isCharacter b_isCharacter 1 (some .boolean) :: wA) rm_isCharacter D vwCl (gk_T cI cL) [.int x0] [] (fun (r : Int32) (_ : Unit) => r = mm_isCharacter x0) (fun (_ : Unit) => []) 0 0 := by
  refine gk_I.of (by decide) (Nat.le_of_ble_eq_true rfl) ?_
  intro p e s m below meth c A ls Q H locs hx hb hml hown hts hW hl X
  have hl : lv_has ls 1 [(0, .int x0)] := hl
  obtain ⟨tgt, heq⟩ : ∃ t, mm_isCharacter x0 = t := ⟨_, rfl⟩
  rw [heq] at X
  rw [mm_isCharacter] at heq
  refine lv_iload_n hx hb d_isCharacter_0 rfl (lv_at hl 0 rfl) ?_
  refine lv_if_lt (tgt := 14) hx hb d_isCharacter_1 (by decide) (fun c_1 => ?_) (fun c_1 => ?_)
  · rw [if_pos c_1] at heq
    refine lv_iconst (v := 0) hx hb d_isCharacter_14 (by decide) ?_
    exact X _ () H locs 0 0 15 ls heq hW d_isCharacter_15 rfl (Nat.le_of_ble_eq_true rfl) (Nat.le_of_ble_eq_true rfl)
  · rw [if_neg c_1] at heq
    refine lv_iload_n hx hb d_isCharacter_4 rfl (lv_at hl 0 rfl) ?_
    refine lv_ldc (v := 1114111) hx hb hown (hts _ w_0) d_isCharacter_5 ?_
    refine lv_icmp_gt (tgt := 14) hx hb d_isCharacter_7 (by decide) (fun c_2 => ?_) (fun c_2 => ?_)
    · rw [if_pos c_2] at heq
      refine lv_iconst (v := 0) hx hb d_isCharacter_14 (by decide) ?_
      exact X _ () H locs 0 0 15 ls heq hW d_isCharacter_15 rfl (Nat.le_of_ble_eq_true rfl) (Nat.le_of_ble_eq_true rfl)
    · rw [if_neg c_2] at heq
      refine lv_iconst (v := 1) hx hb d_isCharacter_10 (by decide) ?_
      refine lv_goto (tgt := 15) hx hb d_isCharacter_11 (by decide) ?_
      exact X _ () H locs 0 0 15 ls heq hW d_isCharacter_15 rfl (Nat.le_of_ble_eq_true rfl) (Nat.le_of_ble_eq_true rfl)
def mm_isRange (x0 x1 : Int32) : Int32 := if (mm_isCharacter x0) = 0 then 0 else (if (mm_isCharacter x1) = 0 then 0 else (if x1 < x0 then 0 else 1))
def rm_isRange : Room := { frames := 1, cells := 0, slots := 0, locals := 20 }
set_option maxHeartbeats 4000000 in
set_option maxRecDepth 100000 in
theorem c_isRange (l : Launch) (D : va_G) (cI : ClassId) (cL : ClassId × ClassId) (x0 x1 : Int32) : gk_I l y_isRange (.code y_isRange b_isRange 2 (some .boolean) :: wA) rm_isRange D vwCl (gk_T cI cL) [.int x0, .int x1] [] (fun (r : Int32) (_ : Unit) => r = mm_isRange x0 x1) (fun (_ : Unit) => []) 0 0 := by
  refine gk_I.of (by decide) (Nat.le_of_ble_eq_true rfl) ?_
  intro p e s m below meth c A ls Q H locs hx hb hml hown hts hW hl X
  have hl : lv_has ls 2 [(0, .int x0), (1, .int x1)] := hl
  obtain ⟨tgt, heq⟩ : ∃ t, mm_isRange x0 x1 = t := ⟨_, rfl⟩
  rw [heq] at X
  rw [mm_isRange] at heq
  refine lv_iload_n hx hb d_isRange_0 rfl (lv_at hl 0 rfl) ?_
  refine gk_goR hW [] rfl (va_runS (As := [.int x0]) (rest := []) ⟨hx, hb, hml, hown, hts⟩ (c_isCharacter l D cI cL x0 _) (gk_cwS hts w_1 w_2 w_3 k_isCharacter rfl e_isCharacter rfl rfl ⟨Nat.le_of_ble_eq_true rfl, Nat.le_of_ble_eq_true rfl⟩) (gk_pre hW [] rfl rfl) rfl rfl hl.1 rfl (lv_room (Nat.le_of_ble_eq_true rfl)) d_isRange_1 ⟨Nat.le_of_ble_eq_true rfl, Nat.le_of_ble_eq_true rfl⟩) (fun H locs hW => ?_)
  refine lv_if_eq (tgt := 23) hx hb d_isRange_4 (by decide) (fun c_1 => ?_) (fun c_1 => ?_)
  · rw [if_pos c_1] at heq
    refine lv_iconst (v := 0) hx hb d_isRange_23 (by decide) ?_
    exact X _ () H locs 0 0 24 ls heq hW d_isRange_24 rfl (Nat.le_of_ble_eq_true rfl) (Nat.le_of_ble_eq_true rfl)
  · rw [if_neg c_1] at heq
    refine lv_iload_n hx hb d_isRange_7 rfl (lv_at hl 1 rfl) ?_
    refine gk_goR hW [] rfl (va_runS (As := [.int x1]) (rest := []) ⟨hx, hb, hml, hown, hts⟩ (c_isCharacter l D cI cL x1 _) (gk_cwS hts w_1 w_2 w_3 k_isCharacter rfl e_isCharacter rfl rfl ⟨Nat.le_of_ble_eq_true rfl, Nat.le_of_ble_eq_true rfl⟩) (gk_pre hW [] rfl rfl) rfl rfl hl.1 rfl (lv_room (Nat.le_of_ble_eq_true rfl)) d_isRange_8 ⟨Nat.le_of_ble_eq_true rfl, Nat.le_of_ble_eq_true rfl⟩) (fun H locs hW => ?_)
    refine lv_if_eq (tgt := 23) hx hb d_isRange_11 (by decide) (fun c_2 => ?_) (fun c_2 => ?_)
    · rw [if_pos c_2] at heq
      refine lv_iconst (v := 0) hx hb d_isRange_23 (by decide) ?_
      exact X _ () H locs 0 0 24 ls heq hW d_isRange_24 rfl (Nat.le_of_ble_eq_true rfl) (Nat.le_of_ble_eq_true rfl)
    · rw [if_neg c_2] at heq
      refine lv_iload_n hx hb d_isRange_14 rfl (lv_at hl 0 rfl) ?_
      refine lv_iload_n hx hb d_isRange_15 rfl (lv_at hl 1 rfl) ?_
      refine lv_icmp_gt (tgt := 23) hx hb d_isRange_16 (by decide) (fun c_3 => ?_) (fun c_3 => ?_)
      · rw [if_pos c_3] at heq
        refine lv_iconst (v := 0) hx hb d_isRange_23 (by decide) ?_
        exact X _ () H locs 0 0 24 ls heq hW d_isRange_24 rfl (Nat.le_of_ble_eq_true rfl) (Nat.le_of_ble_eq_true rfl)
      · rw [if_neg c_3] at heq
        refine lv_iconst (v := 1) hx hb d_isRange_19 (by decide) ?_
        refine lv_goto (tgt := 24) hx hb d_isRange_20 (by decide) ?_
        exact X _ () H locs 0 0 24 ls heq hW d_isRange_24 rfl (Nat.le_of_ble_eq_true rfl) (Nat.le_of_ble_eq_true rfl)
def mm_standsFor (x0 : Int32) : Int32 := if (mm_isIn x0 384) = 0 then x0 else 27
def rm_standsFor : Room := { frames := 1, cells := 0, slots := 0, locals := 22 }
set_option maxHeartbeats 4000000 in
set_option maxRecDepth 100000 in
theorem c_standsFor (l : Launch) (D : va_G) (cI : ClassId) (cL : ClassId × ClassId) (x0 : Int32) : gk_I l y_standsFor (.code y_standsFor b_standsFor 1 (some .int) :: wA) rm_standsFor D vwCl (gk_T cI cL) [.int x0] [] (fun (r : Int32) (_ : Unit) => r = mm_standsFor x0) (fun (_ : Unit) => []) 0 0 := by
  refine gk_I.of (by decide) (Nat.le_of_ble_eq_true rfl) ?_
  intro p e s m below meth c A ls Q H locs hx hb hml hown hts hW hl X
  have hl : lv_has ls 1 [(0, .int x0)] := hl
  obtain ⟨tgt, heq⟩ : ∃ t, mm_standsFor x0 = t := ⟨_, rfl⟩
  rw [heq] at X
  rw [mm_standsFor] at heq
  refine lv_iload_n hx hb d_standsFor_0 rfl (lv_at hl 0 rfl) ?_
  refine lv_ldc2 (v := 384) hx hb hown (hts _ w_4) d_standsFor_1 ?_
  refine gk_goR hW [] rfl (va_runS (As := [.int x0, .long 384]) (rest := []) ⟨hx, hb, hml, hown, hts⟩ (c_isIn l D cI cL x0 384 _) (gk_cwS hts w_5 w_6 w_3 k_isIn rfl e_isIn rfl rfl ⟨Nat.le_of_ble_eq_true rfl, Nat.le_of_ble_eq_true rfl⟩) (gk_pre hW [] rfl rfl) rfl rfl hl.1 rfl (lv_room (Nat.le_of_ble_eq_true rfl)) d_standsFor_4 ⟨Nat.le_of_ble_eq_true rfl, Nat.le_of_ble_eq_true rfl⟩) (fun H locs hW => ?_)
  refine lv_if_eq (tgt := 15) hx hb d_standsFor_7 (by decide) (fun c_1 => ?_) (fun c_1 => ?_)
  · rw [if_pos c_1] at heq
    refine lv_iload_n hx hb d_standsFor_15 rfl (lv_at hl 0 rfl) ?_
    exact X _ () H locs 0 0 16 ls heq hW d_standsFor_16 rfl (Nat.le_of_ble_eq_true rfl) (Nat.le_of_ble_eq_true rfl)
  · rw [if_neg c_1] at heq
    refine lv_bipush (v := 27) hx hb d_standsFor_10 (by decide) ?_
    refine lv_goto (tgt := 16) hx hb d_standsFor_12 (by decide) ?_
    exact X _ () H locs 0 0 16 ls heq hW d_standsFor_16 rfl (Nat.le_of_ble_eq_true rfl) (Nat.le_of_ble_eq_true rfl)
def mm_ruleOfGlue_48 (x0 x1 : Int32) : Int32 := if (mm_isIn x1 71532544) = 0 then 0 else 130
def mm_ruleOfGlue (x0 x1 : Int32) : Int32 := if x0 = 6 then 110 else (if x1 = 6 then 110 else (if x0 = 9 then 120 else (if x1 = 9 then (if x0 = 4 then (mm_ruleOfGlue_48 x0 x1) else (if (mm_isIn x0 10240) = 0 then 121 else (mm_ruleOfGlue_48 x0 x1))) else (mm_ruleOfGlue_48 x0 x1))))
def rm_ruleOfGlue : Room := { frames := 1, cells := 0, slots := 0, locals := 22 }
set_option maxHeartbeats 4000000 in
set_option maxRecDepth 100000 in
theorem c_ruleOfGlue (l : Launch) (D : va_G) (cI : ClassId) (cL : ClassId × ClassId) (x0 x1 : Int32) : gk_I l y_ruleOfGlue (.code y_ruleOfGlue b_ruleOfGlue 2 (some .int) :: wA) rm_ruleOfGlue D vwCl (gk_T cI cL) [.int x0, .int x1] [] (fun (r : Int32) (_ : Unit) => r = mm_ruleOfGlue x0 x1) (fun (_ : Unit) => []) 0 0 := by
  refine gk_I.of (by decide) (Nat.le_of_ble_eq_true rfl) ?_
  intro p e s m below meth c A ls Q H locs hx hb hml hown hts hW hl X
  have hl : lv_has ls 2 [(0, .int x0), (1, .int x1)] := hl
  obtain ⟨tgt, heq⟩ : ∃ t, mm_ruleOfGlue x0 x1 = t := ⟨_, rfl⟩
  rw [heq] at X
  rw [mm_ruleOfGlue] at heq
  have K48 : ∀ (H : Heap) (locs : List Loc) (ls : Array Slot), mm_ruleOfGlue_48 x0 x1 = tgt → gk_W D vwCl (gk_T cI cL) s A H locs [] → lv_has ls 2 [(0, .int x0), (1, .int x1)] → W p l e rm_ruleOfGlue s m [.int x0, .int x1].toArray below meth c H locs 0 0 Q (F0 m 48 ls []) := by
    intro  H locs ls heq hW hl
    rw [mm_ruleOfGlue_48] at heq
    refine lv_iload_n hx hb d_ruleOfGlue_48 rfl (lv_at hl 1 rfl) ?_
    refine lv_ldc2 (v := 71532544) hx hb hown (hts _ w_7) d_ruleOfGlue_49 ?_
    refine gk_goR hW [] rfl (va_runS (As := [.int x1, .long 71532544]) (rest := []) ⟨hx, hb, hml, hown, hts⟩ (c_isIn l D cI cL x1 71532544 _) (gk_cwS hts w_5 w_6 w_3 k_isIn rfl e_isIn rfl rfl ⟨Nat.le_of_ble_eq_true rfl, Nat.le_of_ble_eq_true rfl⟩) (gk_pre hW [] rfl rfl) rfl rfl hl.1 rfl (lv_room (Nat.le_of_ble_eq_true rfl)) d_ruleOfGlue_52 ⟨Nat.le_of_ble_eq_true rfl, Nat.le_of_ble_eq_true rfl⟩) (fun H locs hW => ?_)
    refine lv_if_eq (tgt := 64) hx hb d_ruleOfGlue_55 (by decide) (fun c_1 => ?_) (fun c_1 => ?_)
    · rw [if_pos c_1] at heq
      refine lv_iconst (v := 0) hx hb d_ruleOfGlue_64 (by decide) ?_
      exact X _ () H locs 0 0 65 ls heq hW d_ruleOfGlue_65 rfl (Nat.le_of_ble_eq_true rfl) (Nat.le_of_ble_eq_true rfl)
    · rw [if_neg c_1] at heq
      refine lv_sipush (v := 130) hx hb d_ruleOfGlue_58 (by decide) ?_
      refine lv_goto (tgt := 65) hx hb d_ruleOfGlue_61 (by decide) ?_
      exact X _ () H locs 0 0 65 ls heq hW d_ruleOfGlue_65 rfl (Nat.le_of_ble_eq_true rfl) (Nat.le_of_ble_eq_true rfl)
  refine lv_iload_n hx hb d_ruleOfGlue_0 rfl (lv_at hl 0 rfl) ?_
  refine lv_bipush (v := 6) hx hb d_ruleOfGlue_1 (by decide) ?_
  refine lv_icmp_eq (tgt := 12) hx hb d_ruleOfGlue_3 (by decide) (fun c_2 => ?_) (fun c_2 => ?_)
  · rw [if_pos c_2] at heq
    refine lv_bipush (v := 110) hx hb d_ruleOfGlue_12 (by decide) ?_
    exact X _ () H locs 0 0 14 ls heq hW d_ruleOfGlue_14 rfl (Nat.le_of_ble_eq_true rfl) (Nat.le_of_ble_eq_true rfl)
  · rw [if_neg c_2] at heq
    refine lv_iload_n hx hb d_ruleOfGlue_6 rfl (lv_at hl 1 rfl) ?_
    refine lv_bipush (v := 6) hx hb d_ruleOfGlue_7 (by decide) ?_
    refine lv_icmp_ne (tgt := 15) hx hb d_ruleOfGlue_9 (by decide) (fun c_3 => ?_) (fun c_3 => ?_)
    · rw [if_neg c_3] at heq
      refine lv_iload_n hx hb d_ruleOfGlue_15 rfl (lv_at hl 0 rfl) ?_
      refine lv_bipush (v := 9) hx hb d_ruleOfGlue_16 (by decide) ?_
      refine lv_icmp_ne (tgt := 24) hx hb d_ruleOfGlue_18 (by decide) (fun c_4 => ?_) (fun c_4 => ?_)
      · rw [if_neg c_4] at heq
        refine lv_iload_n hx hb d_ruleOfGlue_24 rfl (lv_at hl 1 rfl) ?_
        refine lv_bipush (v := 9) hx hb d_ruleOfGlue_25 (by decide) ?_
        refine lv_icmp_ne (tgt := 48) hx hb d_ruleOfGlue_27 (by decide) (fun c_5 => ?_) (fun c_5 => ?_)
        · rw [if_neg c_5] at heq
          exact K48  H locs ls heq hW (lv_sub hl [0, 1] rfl)
        · rw [if_pos c_5] at heq
          refine lv_iload_n hx hb d_ruleOfGlue_30 rfl (lv_at hl 0 rfl) ?_
          refine lv_iconst (v := 4) hx hb d_ruleOfGlue_31 (by decide) ?_
          refine lv_icmp_eq (tgt := 48) hx hb d_ruleOfGlue_32 (by decide) (fun c_6 => ?_) (fun c_6 => ?_)
          · rw [if_pos c_6] at heq
            exact K48  H locs ls heq hW (lv_sub hl [0, 1] rfl)
          · rw [if_neg c_6] at heq
            refine lv_iload_n hx hb d_ruleOfGlue_35 rfl (lv_at hl 0 rfl) ?_
            refine lv_ldc2 (v := 10240) hx hb hown (hts _ w_8) d_ruleOfGlue_36 ?_
            refine gk_goR hW [] rfl (va_runS (As := [.int x0, .long 10240]) (rest := []) ⟨hx, hb, hml, hown, hts⟩ (c_isIn l D cI cL x0 10240 _) (gk_cwS hts w_5 w_6 w_3 k_isIn rfl e_isIn rfl rfl ⟨Nat.le_of_ble_eq_true rfl, Nat.le_of_ble_eq_true rfl⟩) (gk_pre hW [] rfl rfl) rfl rfl hl.1 rfl (lv_room (Nat.le_of_ble_eq_true rfl)) d_ruleOfGlue_39 ⟨Nat.le_of_ble_eq_true rfl, Nat.le_of_ble_eq_true rfl⟩) (fun H locs hW => ?_)
            refine lv_if_ne (tgt := 48) hx hb d_ruleOfGlue_42 (by decide) (fun c_7 => ?_) (fun c_7 => ?_)
            · rw [if_neg c_7] at heq
              exact K48  H locs ls heq hW (lv_sub hl [0, 1] rfl)
            · rw [if_pos c_7] at heq
              refine lv_bipush (v := 121) hx hb d_ruleOfGlue_45 (by decide) ?_
              exact X _ () H locs 0 0 47 ls heq hW d_ruleOfGlue_47 rfl (Nat.le_of_ble_eq_true rfl) (Nat.le_of_ble_eq_true rfl)
      · rw [if_pos c_4] at heq
        refine lv_bipush (v := 120) hx hb d_ruleOfGlue_21 (by decide) ?_
        exact X _ () H locs 0 0 23 ls heq hW d_ruleOfGlue_23 rfl (Nat.le_of_ble_eq_true rfl) (Nat.le_of_ble_eq_true rfl)
    · rw [if_pos c_3] at heq
      refine lv_bipush (v := 110) hx hb d_ruleOfGlue_12 (by decide) ?_
      exact X _ () H locs 0 0 14 ls heq hW d_ruleOfGlue_14 rfl (Nat.le_of_ble_eq_true rfl) (Nat.le_of_ble_eq_true rfl)
def mm_ruleAcrossSpaces_46 (x0 x1 : Int32) : Int32 := if x0 = 10 then (if x1 = 10 then 170 else 0) else 0
def mm_ruleAcrossSpaces_26 (x0 x1 : Int32) : Int32 := if (mm_isIn x0 98304) = 0 then (mm_ruleAcrossSpaces_46 x0 x1) else (if x1 = 19 then 160 else (mm_ruleAcrossSpaces_46 x0 x1))
def mm_ruleAcrossSpaces (x0 x1 : Int32) : Int32 := if x0 = 20 then 140 else (if x0 = 21 then (if x1 = 20 then 150 else (mm_ruleAcrossSpaces_26 x0 x1)) else (mm_ruleAcrossSpaces_26 x0 x1))
def rm_ruleAcrossSpaces : Room := { frames := 1, cells := 0, slots := 0, locals := 22 }
set_option maxHeartbeats 4000000 in
set_option maxRecDepth 100000 in
theorem c_ruleAcrossSpaces (l : Launch) (D : va_G) (cI : ClassId) (cL : ClassId × ClassId) (x0 x1 : Int32) : gk_I l y_ruleAcrossSpaces (.code y_ruleAcrossSpaces b_ruleAcrossSpaces 2 (some .int) :: wA) rm_ruleAcrossSpaces D vwCl (gk_T cI cL) [.int x0, .int x1] [] (fun (r : Int32) (_ : Unit) => r = mm_ruleAcrossSpaces x0 x1) (fun (_ : Unit) => []) 0 0 := by
  refine gk_I.of (by decide) (Nat.le_of_ble_eq_true rfl) ?_
  intro p e s m below meth c A ls Q H locs hx hb hml hown hts hW hl X
  have hl : lv_has ls 2 [(0, .int x0), (1, .int x1)] := hl
  obtain ⟨tgt, heq⟩ : ∃ t, mm_ruleAcrossSpaces x0 x1 = t := ⟨_, rfl⟩
  rw [heq] at X
  rw [mm_ruleAcrossSpaces] at heq
  have K46 : ∀ (H : Heap) (locs : List Loc) (ls : Array Slot), mm_ruleAcrossSpaces_46 x0 x1 = tgt → gk_W D vwCl (gk_T cI cL) s A H locs [] → lv_has ls 2 [(0, .int x0), (1, .int x1)] → W p l e rm_ruleAcrossSpaces s m [.int x0, .int x1].toArray below meth c H locs 0 0 Q (F0 m 46 ls []) := by
    intro  H locs ls heq hW hl
    rw [mm_ruleAcrossSpaces_46] at heq
    refine lv_iload_n hx hb d_ruleAcrossSpaces_46 rfl (lv_at hl 0 rfl) ?_
    refine lv_bipush (v := 10) hx hb d_ruleAcrossSpaces_47 (by decide) ?_
    refine lv_icmp_ne (tgt := 64) hx hb d_ruleAcrossSpaces_49 (by decide) (fun c_1 => ?_) (fun c_1 => ?_)
    · rw [if_neg c_1] at heq
      refine lv_iconst (v := 0) hx hb d_ruleAcrossSpaces_64 (by decide) ?_
      exact X _ () H locs 0 0 65 ls heq hW d_ruleAcrossSpaces_65 rfl (Nat.le_of_ble_eq_true rfl) (Nat.le_of_ble_eq_true rfl)
    · rw [if_pos c_1] at heq
      refine lv_iload_n hx hb d_ruleAcrossSpaces_52 rfl (lv_at hl 1 rfl) ?_
      refine lv_bipush (v := 10) hx hb d_ruleAcrossSpaces_53 (by decide) ?_
      refine lv_icmp_ne (tgt := 64) hx hb d_ruleAcrossSpaces_55 (by decide) (fun c_2 => ?_) (fun c_2 => ?_)
      · rw [if_neg c_2] at heq
        refine lv_iconst (v := 0) hx hb d_ruleAcrossSpaces_64 (by decide) ?_
        exact X _ () H locs 0 0 65 ls heq hW d_ruleAcrossSpaces_65 rfl (Nat.le_of_ble_eq_true rfl) (Nat.le_of_ble_eq_true rfl)
      · rw [if_pos c_2] at heq
        refine lv_sipush (v := 170) hx hb d_ruleAcrossSpaces_58 (by decide) ?_
        refine lv_goto (tgt := 65) hx hb d_ruleAcrossSpaces_61 (by decide) ?_
        exact X _ () H locs 0 0 65 ls heq hW d_ruleAcrossSpaces_65 rfl (Nat.le_of_ble_eq_true rfl) (Nat.le_of_ble_eq_true rfl)
  have K26 : ∀ (H : Heap) (locs : List Loc) (ls : Array Slot), mm_ruleAcrossSpaces_26 x0 x1 = tgt → gk_W D vwCl (gk_T cI cL) s A H locs [] → lv_has ls 2 [(0, .int x0), (1, .int x1)] → W p l e rm_ruleAcrossSpaces s m [.int x0, .int x1].toArray below meth c H locs 0 0 Q (F0 m 26 ls []) := by
    intro  H locs ls heq hW hl
    rw [mm_ruleAcrossSpaces_26] at heq
    refine lv_iload_n hx hb d_ruleAcrossSpaces_26 rfl (lv_at hl 0 rfl) ?_
    refine lv_ldc2 (v := 98304) hx hb hown (hts _ w_9) d_ruleAcrossSpaces_27 ?_
    refine gk_goR hW [] rfl (va_runS (As := [.int x0, .long 98304]) (rest := []) ⟨hx, hb, hml, hown, hts⟩ (c_isIn l D cI cL x0 98304 _) (gk_cwS hts w_5 w_6 w_3 k_isIn rfl e_isIn rfl rfl ⟨Nat.le_of_ble_eq_true rfl, Nat.le_of_ble_eq_true rfl⟩) (gk_pre hW [] rfl rfl) rfl rfl hl.1 rfl (lv_room (Nat.le_of_ble_eq_true rfl)) d_ruleAcrossSpaces_30 ⟨Nat.le_of_ble_eq_true rfl, Nat.le_of_ble_eq_true rfl⟩) (fun H locs hW => ?_)
    refine lv_if_eq (tgt := 46) hx hb d_ruleAcrossSpaces_33 (by decide) (fun c_3 => ?_) (fun c_3 => ?_)
    · rw [if_pos c_3] at heq
      exact K46  H locs ls heq hW (lv_sub hl [0, 1] rfl)
    · rw [if_neg c_3] at heq
      refine lv_iload_n hx hb d_ruleAcrossSpaces_36 rfl (lv_at hl 1 rfl) ?_
      refine lv_bipush (v := 19) hx hb d_ruleAcrossSpaces_37 (by decide) ?_
      refine lv_icmp_ne (tgt := 46) hx hb d_ruleAcrossSpaces_39 (by decide) (fun c_4 => ?_) (fun c_4 => ?_)
      · rw [if_neg c_4] at heq
        exact K46  H locs ls heq hW (lv_sub hl [0, 1] rfl)
      · rw [if_pos c_4] at heq
        refine lv_sipush (v := 160) hx hb d_ruleAcrossSpaces_42 (by decide) ?_
        exact X _ () H locs 0 0 45 ls heq hW d_ruleAcrossSpaces_45 rfl (Nat.le_of_ble_eq_true rfl) (Nat.le_of_ble_eq_true rfl)
  refine lv_iload_n hx hb d_ruleAcrossSpaces_0 rfl (lv_at hl 0 rfl) ?_
  refine lv_bipush (v := 20) hx hb d_ruleAcrossSpaces_1 (by decide) ?_
  refine lv_icmp_ne (tgt := 10) hx hb d_ruleAcrossSpaces_3 (by decide) (fun c_5 => ?_) (fun c_5 => ?_)
  · rw [if_neg c_5] at heq
    refine lv_iload_n hx hb d_ruleAcrossSpaces_10 rfl (lv_at hl 0 rfl) ?_
    refine lv_bipush (v := 21) hx hb d_ruleAcrossSpaces_11 (by decide) ?_
    refine lv_icmp_ne (tgt := 26) hx hb d_ruleAcrossSpaces_13 (by decide) (fun c_6 => ?_) (fun c_6 => ?_)
    · rw [if_neg c_6] at heq
      exact K26  H locs ls heq hW (lv_sub hl [0, 1] rfl)
    · rw [if_pos c_6] at heq
      refine lv_iload_n hx hb d_ruleAcrossSpaces_16 rfl (lv_at hl 1 rfl) ?_
      refine lv_bipush (v := 20) hx hb d_ruleAcrossSpaces_17 (by decide) ?_
      refine lv_icmp_ne (tgt := 26) hx hb d_ruleAcrossSpaces_19 (by decide) (fun c_7 => ?_) (fun c_7 => ?_)
      · rw [if_neg c_7] at heq
        exact K26  H locs ls heq hW (lv_sub hl [0, 1] rfl)
      · rw [if_pos c_7] at heq
        refine lv_sipush (v := 150) hx hb d_ruleAcrossSpaces_22 (by decide) ?_
        exact X _ () H locs 0 0 25 ls heq hW d_ruleAcrossSpaces_25 rfl (Nat.le_of_ble_eq_true rfl) (Nat.le_of_ble_eq_true rfl)
  · rw [if_pos c_5] at heq
    refine lv_sipush (v := 140) hx hb d_ruleAcrossSpaces_6 (by decide) ?_
    exact X _ () H locs 0 0 9 ls heq hW d_ruleAcrossSpaces_9 rfl (Nat.le_of_ble_eq_true rfl) (Nat.le_of_ble_eq_true rfl)
def mm_ruleOfNumbers_166 (x0 x1 : Int32) : Int32 := if (mm_isIn x0 79699968) = 0 then 0 else (if x1 = 23 then 250 else 0)
def mm_ruleOfNumbers_140 (x0 x1 : Int32) : Int32 := if (mm_isIn x0 50331648) = 0 then (mm_ruleOfNumbers_166 x0 x1) else (if x1 = 20 then 250 else (if x1 = 23 then 250 else (mm_ruleOfNumbers_166 x0 x1)))
def mm_ruleOfNumbers_116 (x0 x1 : Int32) : Int32 := if (mm_isIn x0 8486912) = 0 then (mm_ruleOfNumbers_140 x0 x1) else (if (mm_isIn x1 50331648) = 0 then (mm_ruleOfNumbers_140 x0 x1) else 250)
def mm_ruleOfNumbers_92 (x0 x1 : Int32) : Int32 := if (mm_isIn x0 402653184) = 0 then (mm_ruleOfNumbers_116 x0 x1) else (if (mm_isIn x1 50331648) = 0 then (mm_ruleOfNumbers_116 x0 x1) else 240)
def mm_ruleOfNumbers_72 (x0 x1 : Int32) : Int32 := if (mm_isIn x0 50331648) = 0 then (mm_ruleOfNumbers_92 x0 x1) else (if (mm_isIn x1 402653184) = 0 then (mm_ruleOfNumbers_92 x0 x1) else 240)
def mm_ruleOfNumbers_52 (x0 x1 : Int32) : Int32 := if (mm_isIn x0 3758096384) = 0 then (mm_ruleOfNumbers_72 x0 x1) else (if x1 = 24 then 231 else (mm_ruleOfNumbers_72 x0 x1))
def mm_ruleOfNumbers_36 (x0 x1 : Int32) : Int32 := if x0 = 25 then (if (mm_isIn x1 3758096384) = 0 then (mm_ruleOfNumbers_52 x0 x1) else 231) else (mm_ruleOfNumbers_52 x0 x1)
def mm_ruleOfNumbers_16 (x0 x1 : Int32) : Int32 := if x0 = 23 then (if (mm_isIn x1 402653184) = 0 then (mm_ruleOfNumbers_36 x0 x1) else 230) else (mm_ruleOfNumbers_36 x0 x1)
def mm_ruleOfNumbers (x0 x1 : Int32) : Int32 := if (mm_isIn x0 402653184) = 0 then (mm_ruleOfNumbers_16 x0 x1) else (if x1 = 23 then 230 else (mm_ruleOfNumbers_16 x0 x1))
def rm_ruleOfNumbers : Room := { frames := 1, cells := 0, slots := 0, locals := 22 }
set_option maxHeartbeats 4000000 in
set_option maxRecDepth 100000 in
theorem c_ruleOfNumbers (l : Launch) (D : va_G) (cI : ClassId) (cL : ClassId × ClassId) (x0 x1 : Int32) : gk_I l y_ruleOfNumbers (.code y_ruleOfNumbers b_ruleOfNumbers 2 (some .int) :: wA) rm_ruleOfNumbers D vwCl (gk_T cI cL) [.int x0, .int x1] [] (fun (r : Int32) (_ : Unit) => r = mm_ruleOfNumbers x0 x1) (fun (_ : Unit) => []) 0 0 := by
  refine gk_I.of (by decide) (Nat.le_of_ble_eq_true rfl) ?_
  intro p e s m below meth c A ls Q H locs hx hb hml hown hts hW hl X
  have hl : lv_has ls 2 [(0, .int x0), (1, .int x1)] := hl
  obtain ⟨tgt, heq⟩ : ∃ t, mm_ruleOfNumbers x0 x1 = t := ⟨_, rfl⟩
  rw [heq] at X
  rw [mm_ruleOfNumbers] at heq
  have K166 : ∀ (H : Heap) (locs : List Loc) (ls : Array Slot), mm_ruleOfNumbers_166 x0 x1 = tgt → gk_W D vwCl (gk_T cI cL) s A H locs [] → lv_has ls 2 [(0, .int x0), (1, .int x1)] → W p l e rm_ruleOfNumbers s m [.int x0, .int x1].toArray below meth c H locs 0 0 Q (F0 m 166 ls []) := by
    intro  H locs ls heq hW hl
    rw [mm_ruleOfNumbers_166] at heq
    refine lv_iload_n hx hb d_ruleOfNumbers_166 rfl (lv_at hl 0 rfl) ?_
    refine lv_ldc2 (v := 79699968) hx hb hown (hts _ w_14) d_ruleOfNumbers_167 ?_
    refine gk_goR hW [] rfl (va_runS (As := [.int x0, .long 79699968]) (rest := []) ⟨hx, hb, hml, hown, hts⟩ (c_isIn l D cI cL x0 79699968 _) (gk_cwS hts w_5 w_6 w_3 k_isIn rfl e_isIn rfl rfl ⟨Nat.le_of_ble_eq_true rfl, Nat.le_of_ble_eq_true rfl⟩) (gk_pre hW [] rfl rfl) rfl rfl hl.1 rfl (lv_room (Nat.le_of_ble_eq_true rfl)) d_ruleOfNumbers_170 ⟨Nat.le_of_ble_eq_true rfl, Nat.le_of_ble_eq_true rfl⟩) (fun H locs hW => ?_)
    refine lv_if_eq (tgt := 188) hx hb d_ruleOfNumbers_173 (by decide) (fun c_1 => ?_) (fun c_1 => ?_)
    · rw [if_pos c_1] at heq
      refine lv_iconst (v := 0) hx hb d_ruleOfNumbers_188 (by decide) ?_
      exact X _ () H locs 0 0 189 ls heq hW d_ruleOfNumbers_189 rfl (Nat.le_of_ble_eq_true rfl) (Nat.le_of_ble_eq_true rfl)
    · rw [if_neg c_1] at heq
      refine lv_iload_n hx hb d_ruleOfNumbers_176 rfl (lv_at hl 1 rfl) ?_
      refine lv_bipush (v := 23) hx hb d_ruleOfNumbers_177 (by decide) ?_
      refine lv_icmp_ne (tgt := 188) hx hb d_ruleOfNumbers_179 (by decide) (fun c_2 => ?_) (fun c_2 => ?_)
      · rw [if_neg c_2] at heq
        refine lv_iconst (v := 0) hx hb d_ruleOfNumbers_188 (by decide) ?_
        exact X _ () H locs 0 0 189 ls heq hW d_ruleOfNumbers_189 rfl (Nat.le_of_ble_eq_true rfl) (Nat.le_of_ble_eq_true rfl)
      · rw [if_pos c_2] at heq
        refine lv_sipush (v := 250) hx hb d_ruleOfNumbers_182 (by decide) ?_
        refine lv_goto (tgt := 189) hx hb d_ruleOfNumbers_185 (by decide) ?_
        exact X _ () H locs 0 0 189 ls heq hW d_ruleOfNumbers_189 rfl (Nat.le_of_ble_eq_true rfl) (Nat.le_of_ble_eq_true rfl)
  have K140 : ∀ (H : Heap) (locs : List Loc) (ls : Array Slot), mm_ruleOfNumbers_140 x0 x1 = tgt → gk_W D vwCl (gk_T cI cL) s A H locs [] → lv_has ls 2 [(0, .int x0), (1, .int x1)] → W p l e rm_ruleOfNumbers s m [.int x0, .int x1].toArray below meth c H locs 0 0 Q (F0 m 140 ls []) := by
    intro  H locs ls heq hW hl
    rw [mm_ruleOfNumbers_140] at heq
    refine lv_iload_n hx hb d_ruleOfNumbers_140 rfl (lv_at hl 0 rfl) ?_
    refine lv_ldc2 (v := 50331648) hx hb hown (hts _ w_12) d_ruleOfNumbers_141 ?_
    refine gk_goR hW [] rfl (va_runS (As := [.int x0, .long 50331648]) (rest := []) ⟨hx, hb, hml, hown, hts⟩ (c_isIn l D cI cL x0 50331648 _) (gk_cwS hts w_5 w_6 w_3 k_isIn rfl e_isIn rfl rfl ⟨Nat.le_of_ble_eq_true rfl, Nat.le_of_ble_eq_true rfl⟩) (gk_pre hW [] rfl rfl) rfl rfl hl.1 rfl (lv_room (Nat.le_of_ble_eq_true rfl)) d_ruleOfNumbers_144 ⟨Nat.le_of_ble_eq_true rfl, Nat.le_of_ble_eq_true rfl⟩) (fun H locs hW => ?_)
    refine lv_if_eq (tgt := 166) hx hb d_ruleOfNumbers_147 (by decide) (fun c_3 => ?_) (fun c_3 => ?_)
    · rw [if_pos c_3] at heq
      exact K166  H locs ls heq hW (lv_sub hl [0, 1] rfl)
    · rw [if_neg c_3] at heq
      refine lv_iload_n hx hb d_ruleOfNumbers_150 rfl (lv_at hl 1 rfl) ?_
      refine lv_bipush (v := 20) hx hb d_ruleOfNumbers_151 (by decide) ?_
      refine lv_icmp_eq (tgt := 162) hx hb d_ruleOfNumbers_153 (by decide) (fun c_4 => ?_) (fun c_4 => ?_)
      · rw [if_pos c_4] at heq
        refine lv_sipush (v := 250) hx hb d_ruleOfNumbers_162 (by decide) ?_
        exact X _ () H locs 0 0 165 ls heq hW d_ruleOfNumbers_165 rfl (Nat.le_of_ble_eq_true rfl) (Nat.le_of_ble_eq_true rfl)
      · rw [if_neg c_4] at heq
        refine lv_iload_n hx hb d_ruleOfNumbers_156 rfl (lv_at hl 1 rfl) ?_
        refine lv_bipush (v := 23) hx hb d_ruleOfNumbers_157 (by decide) ?_
        refine lv_icmp_ne (tgt := 166) hx hb d_ruleOfNumbers_159 (by decide) (fun c_5 => ?_) (fun c_5 => ?_)
        · rw [if_neg c_5] at heq
          exact K166  H locs ls heq hW (lv_sub hl [0, 1] rfl)
        · rw [if_pos c_5] at heq
          refine lv_sipush (v := 250) hx hb d_ruleOfNumbers_162 (by decide) ?_
          exact X _ () H locs 0 0 165 ls heq hW d_ruleOfNumbers_165 rfl (Nat.le_of_ble_eq_true rfl) (Nat.le_of_ble_eq_true rfl)
  have K116 : ∀ (H : Heap) (locs : List Loc) (ls : Array Slot), mm_ruleOfNumbers_116 x0 x1 = tgt → gk_W D vwCl (gk_T cI cL) s A H locs [] → lv_has ls 2 [(0, .int x0), (1, .int x1)] → W p l e rm_ruleOfNumbers s m [.int x0, .int x1].toArray below meth c H locs 0 0 Q (F0 m 116 ls []) := by
    intro  H locs ls heq hW hl
    rw [mm_ruleOfNumbers_116] at heq
    refine lv_iload_n hx hb d_ruleOfNumbers_116 rfl (lv_at hl 0 rfl) ?_
    refine lv_ldc2 (v := 8486912) hx hb hown (hts _ w_13) d_ruleOfNumbers_117 ?_
    refine gk_goR hW [] rfl (va_runS (As := [.int x0, .long 8486912]) (rest := []) ⟨hx, hb, hml, hown, hts⟩ (c_isIn l D cI cL x0 8486912 _) (gk_cwS hts w_5 w_6 w_3 k_isIn rfl e_isIn rfl rfl ⟨Nat.le_of_ble_eq_true rfl, Nat.le_of_ble_eq_true rfl⟩) (gk_pre hW [] rfl rfl) rfl rfl hl.1 rfl (lv_room (Nat.le_of_ble_eq_true rfl)) d_ruleOfNumbers_120 ⟨Nat.le_of_ble_eq_true rfl, Nat.le_of_ble_eq_true rfl⟩) (fun H locs hW => ?_)
    refine lv_if_eq (tgt := 140) hx hb d_ruleOfNumbers_123 (by decide) (fun c_6 => ?_) (fun c_6 => ?_)
    · rw [if_pos c_6] at heq
      exact K140  H locs ls heq hW (lv_sub hl [0, 1] rfl)
    · rw [if_neg c_6] at heq
      refine lv_iload_n hx hb d_ruleOfNumbers_126 rfl (lv_at hl 1 rfl) ?_
      refine lv_ldc2 (v := 50331648) hx hb hown (hts _ w_12) d_ruleOfNumbers_127 ?_
      refine gk_goR hW [] rfl (va_runS (As := [.int x1, .long 50331648]) (rest := []) ⟨hx, hb, hml, hown, hts⟩ (c_isIn l D cI cL x1 50331648 _) (gk_cwS hts w_5 w_6 w_3 k_isIn rfl e_isIn rfl rfl ⟨Nat.le_of_ble_eq_true rfl, Nat.le_of_ble_eq_true rfl⟩) (gk_pre hW [] rfl rfl) rfl rfl hl.1 rfl (lv_room (Nat.le_of_ble_eq_true rfl)) d_ruleOfNumbers_130 ⟨Nat.le_of_ble_eq_true rfl, Nat.le_of_ble_eq_true rfl⟩) (fun H locs hW => ?_)
      refine lv_if_eq (tgt := 140) hx hb d_ruleOfNumbers_133 (by decide) (fun c_7 => ?_) (fun c_7 => ?_)
      · rw [if_pos c_7] at heq
        exact K140  H locs ls heq hW (lv_sub hl [0, 1] rfl)
      · rw [if_neg c_7] at heq
        refine lv_sipush (v := 250) hx hb d_ruleOfNumbers_136 (by decide) ?_
        exact X _ () H locs 0 0 139 ls heq hW d_ruleOfNumbers_139 rfl (Nat.le_of_ble_eq_true rfl) (Nat.le_of_ble_eq_true rfl)
  have K92 : ∀ (H : Heap) (locs : List Loc) (ls : Array Slot), mm_ruleOfNumbers_92 x0 x1 = tgt → gk_W D vwCl (gk_T cI cL) s A H locs [] → lv_has ls 2 [(0, .int x0), (1, .int x1)] → W p l e rm_ruleOfNumbers s m [.int x0, .int x1].toArray below meth c H locs 0 0 Q (F0 m 92 ls []) := by
    intro  H locs ls heq hW hl
    rw [mm_ruleOfNumbers_92] at heq
    refine lv_iload_n hx hb d_ruleOfNumbers_92 rfl (lv_at hl 0 rfl) ?_
    refine lv_ldc2 (v := 402653184) hx hb hown (hts _ w_10) d_ruleOfNumbers_93 ?_
    refine gk_goR hW [] rfl (va_runS (As := [.int x0, .long 402653184]) (rest := []) ⟨hx, hb, hml, hown, hts⟩ (c_isIn l D cI cL x0 402653184 _) (gk_cwS hts w_5 w_6 w_3 k_isIn rfl e_isIn rfl rfl ⟨Nat.le_of_ble_eq_true rfl, Nat.le_of_ble_eq_true rfl⟩) (gk_pre hW [] rfl rfl) rfl rfl hl.1 rfl (lv_room (Nat.le_of_ble_eq_true rfl)) d_ruleOfNumbers_96 ⟨Nat.le_of_ble_eq_true rfl, Nat.le_of_ble_eq_true rfl⟩) (fun H locs hW => ?_)
    refine lv_if_eq (tgt := 116) hx hb d_ruleOfNumbers_99 (by decide) (fun c_8 => ?_) (fun c_8 => ?_)
    · rw [if_pos c_8] at heq
      exact K116  H locs ls heq hW (lv_sub hl [0, 1] rfl)
    · rw [if_neg c_8] at heq
      refine lv_iload_n hx hb d_ruleOfNumbers_102 rfl (lv_at hl 1 rfl) ?_
      refine lv_ldc2 (v := 50331648) hx hb hown (hts _ w_12) d_ruleOfNumbers_103 ?_
      refine gk_goR hW [] rfl (va_runS (As := [.int x1, .long 50331648]) (rest := []) ⟨hx, hb, hml, hown, hts⟩ (c_isIn l D cI cL x1 50331648 _) (gk_cwS hts w_5 w_6 w_3 k_isIn rfl e_isIn rfl rfl ⟨Nat.le_of_ble_eq_true rfl, Nat.le_of_ble_eq_true rfl⟩) (gk_pre hW [] rfl rfl) rfl rfl hl.1 rfl (lv_room (Nat.le_of_ble_eq_true rfl)) d_ruleOfNumbers_106 ⟨Nat.le_of_ble_eq_true rfl, Nat.le_of_ble_eq_true rfl⟩) (fun H locs hW => ?_)
      refine lv_if_eq (tgt := 116) hx hb d_ruleOfNumbers_109 (by decide) (fun c_9 => ?_) (fun c_9 => ?_)
      · rw [if_pos c_9] at heq
        exact K116  H locs ls heq hW (lv_sub hl [0, 1] rfl)
      · rw [if_neg c_9] at heq
        refine lv_sipush (v := 240) hx hb d_ruleOfNumbers_112 (by decide) ?_
        exact X _ () H locs 0 0 115 ls heq hW d_ruleOfNumbers_115 rfl (Nat.le_of_ble_eq_true rfl) (Nat.le_of_ble_eq_true rfl)
  have K72 : ∀ (H : Heap) (locs : List Loc) (ls : Array Slot), mm_ruleOfNumbers_72 x0 x1 = tgt → gk_W D vwCl (gk_T cI cL) s A H locs [] → lv_has ls 2 [(0, .int x0), (1, .int x1)] → W p l e rm_ruleOfNumbers s m [.int x0, .int x1].toArray below meth c H locs 0 0 Q (F0 m 72 ls []) := by
    intro  H locs ls heq hW hl
    rw [mm_ruleOfNumbers_72] at heq
    refine lv_iload_n hx hb d_ruleOfNumbers_72 rfl (lv_at hl 0 rfl) ?_
    refine lv_ldc2 (v := 50331648) hx hb hown (hts _ w_12) d_ruleOfNumbers_73 ?_
    refine gk_goR hW [] rfl (va_runS (As := [.int x0, .long 50331648]) (rest := []) ⟨hx, hb, hml, hown, hts⟩ (c_isIn l D cI cL x0 50331648 _) (gk_cwS hts w_5 w_6 w_3 k_isIn rfl e_isIn rfl rfl ⟨Nat.le_of_ble_eq_true rfl, Nat.le_of_ble_eq_true rfl⟩) (gk_pre hW [] rfl rfl) rfl rfl hl.1 rfl (lv_room (Nat.le_of_ble_eq_true rfl)) d_ruleOfNumbers_76 ⟨Nat.le_of_ble_eq_true rfl, Nat.le_of_ble_eq_true rfl⟩) (fun H locs hW => ?_)
    refine lv_if_eq (tgt := 92) hx hb d_ruleOfNumbers_79 (by decide) (fun c_10 => ?_) (fun c_10 => ?_)
    · rw [if_pos c_10] at heq
      exact K92  H locs ls heq hW (lv_sub hl [0, 1] rfl)
    · rw [if_neg c_10] at heq
      refine lv_iload_n hx hb d_ruleOfNumbers_82 rfl (lv_at hl 1 rfl) ?_
      refine lv_ldc2 (v := 402653184) hx hb hown (hts _ w_10) d_ruleOfNumbers_83 ?_
      refine gk_goR hW [] rfl (va_runS (As := [.int x1, .long 402653184]) (rest := []) ⟨hx, hb, hml, hown, hts⟩ (c_isIn l D cI cL x1 402653184 _) (gk_cwS hts w_5 w_6 w_3 k_isIn rfl e_isIn rfl rfl ⟨Nat.le_of_ble_eq_true rfl, Nat.le_of_ble_eq_true rfl⟩) (gk_pre hW [] rfl rfl) rfl rfl hl.1 rfl (lv_room (Nat.le_of_ble_eq_true rfl)) d_ruleOfNumbers_86 ⟨Nat.le_of_ble_eq_true rfl, Nat.le_of_ble_eq_true rfl⟩) (fun H locs hW => ?_)
      refine lv_if_ne (tgt := 112) hx hb d_ruleOfNumbers_89 (by decide) (fun c_11 => ?_) (fun c_11 => ?_)
      · rw [if_neg c_11] at heq
        refine lv_sipush (v := 240) hx hb d_ruleOfNumbers_112 (by decide) ?_
        exact X _ () H locs 0 0 115 ls heq hW d_ruleOfNumbers_115 rfl (Nat.le_of_ble_eq_true rfl) (Nat.le_of_ble_eq_true rfl)
      · rw [if_pos c_11] at heq
        exact K92  H locs ls heq hW (lv_sub hl [0, 1] rfl)
  have K52 : ∀ (H : Heap) (locs : List Loc) (ls : Array Slot), mm_ruleOfNumbers_52 x0 x1 = tgt → gk_W D vwCl (gk_T cI cL) s A H locs [] → lv_has ls 2 [(0, .int x0), (1, .int x1)] → W p l e rm_ruleOfNumbers s m [.int x0, .int x1].toArray below meth c H locs 0 0 Q (F0 m 52 ls []) := by
    intro  H locs ls heq hW hl
    rw [mm_ruleOfNumbers_52] at heq
    refine lv_iload_n hx hb d_ruleOfNumbers_52 rfl (lv_at hl 0 rfl) ?_
    refine lv_ldc2 (v := 3758096384) hx hb hown (hts _ w_11) d_ruleOfNumbers_53 ?_
    refine gk_goR hW [] rfl (va_runS (As := [.int x0, .long 3758096384]) (rest := []) ⟨hx, hb, hml, hown, hts⟩ (c_isIn l D cI cL x0 3758096384 _) (gk_cwS hts w_5 w_6 w_3 k_isIn rfl e_isIn rfl rfl ⟨Nat.le_of_ble_eq_true rfl, Nat.le_of_ble_eq_true rfl⟩) (gk_pre hW [] rfl rfl) rfl rfl hl.1 rfl (lv_room (Nat.le_of_ble_eq_true rfl)) d_ruleOfNumbers_56 ⟨Nat.le_of_ble_eq_true rfl, Nat.le_of_ble_eq_true rfl⟩) (fun H locs hW => ?_)
    refine lv_if_eq (tgt := 72) hx hb d_ruleOfNumbers_59 (by decide) (fun c_12 => ?_) (fun c_12 => ?_)
    · rw [if_pos c_12] at heq
      exact K72  H locs ls heq hW (lv_sub hl [0, 1] rfl)
    · rw [if_neg c_12] at heq
      refine lv_iload_n hx hb d_ruleOfNumbers_62 rfl (lv_at hl 1 rfl) ?_
      refine lv_bipush (v := 24) hx hb d_ruleOfNumbers_63 (by decide) ?_
      refine lv_icmp_ne (tgt := 72) hx hb d_ruleOfNumbers_65 (by decide) (fun c_13 => ?_) (fun c_13 => ?_)
      · rw [if_neg c_13] at heq
        exact K72  H locs ls heq hW (lv_sub hl [0, 1] rfl)
      · rw [if_pos c_13] at heq
        refine lv_sipush (v := 231) hx hb d_ruleOfNumbers_68 (by decide) ?_
        exact X _ () H locs 0 0 71 ls heq hW d_ruleOfNumbers_71 rfl (Nat.le_of_ble_eq_true rfl) (Nat.le_of_ble_eq_true rfl)
  have K36 : ∀ (H : Heap) (locs : List Loc) (ls : Array Slot), mm_ruleOfNumbers_36 x0 x1 = tgt → gk_W D vwCl (gk_T cI cL) s A H locs [] → lv_has ls 2 [(0, .int x0), (1, .int x1)] → W p l e rm_ruleOfNumbers s m [.int x0, .int x1].toArray below meth c H locs 0 0 Q (F0 m 36 ls []) := by
    intro  H locs ls heq hW hl
    rw [mm_ruleOfNumbers_36] at heq
    refine lv_iload_n hx hb d_ruleOfNumbers_36 rfl (lv_at hl 0 rfl) ?_
    refine lv_bipush (v := 25) hx hb d_ruleOfNumbers_37 (by decide) ?_
    refine lv_icmp_ne (tgt := 52) hx hb d_ruleOfNumbers_39 (by decide) (fun c_14 => ?_) (fun c_14 => ?_)
    · rw [if_neg c_14] at heq
      exact K52  H locs ls heq hW (lv_sub hl [0, 1] rfl)
    · rw [if_pos c_14] at heq
      refine lv_iload_n hx hb d_ruleOfNumbers_42 rfl (lv_at hl 1 rfl) ?_
      refine lv_ldc2 (v := 3758096384) hx hb hown (hts _ w_11) d_ruleOfNumbers_43 ?_
      refine gk_goR hW [] rfl (va_runS (As := [.int x1, .long 3758096384]) (rest := []) ⟨hx, hb, hml, hown, hts⟩ (c_isIn l D cI cL x1 3758096384 _) (gk_cwS hts w_5 w_6 w_3 k_isIn rfl e_isIn rfl rfl ⟨Nat.le_of_ble_eq_true rfl, Nat.le_of_ble_eq_true rfl⟩) (gk_pre hW [] rfl rfl) rfl rfl hl.1 rfl (lv_room (Nat.le_of_ble_eq_true rfl)) d_ruleOfNumbers_46 ⟨Nat.le_of_ble_eq_true rfl, Nat.le_of_ble_eq_true rfl⟩) (fun H locs hW => ?_)
      refine lv_if_ne (tgt := 68) hx hb d_ruleOfNumbers_49 (by decide) (fun c_15 => ?_) (fun c_15 => ?_)
      · rw [if_neg c_15] at heq
        refine lv_sipush (v := 231) hx hb d_ruleOfNumbers_68 (by decide) ?_
        exact X _ () H locs 0 0 71 ls heq hW d_ruleOfNumbers_71 rfl (Nat.le_of_ble_eq_true rfl) (Nat.le_of_ble_eq_true rfl)
      · rw [if_pos c_15] at heq
        exact K52  H locs ls heq hW (lv_sub hl [0, 1] rfl)
  have K16 : ∀ (H : Heap) (locs : List Loc) (ls : Array Slot), mm_ruleOfNumbers_16 x0 x1 = tgt → gk_W D vwCl (gk_T cI cL) s A H locs [] → lv_has ls 2 [(0, .int x0), (1, .int x1)] → W p l e rm_ruleOfNumbers s m [.int x0, .int x1].toArray below meth c H locs 0 0 Q (F0 m 16 ls []) := by
    intro  H locs ls heq hW hl
    rw [mm_ruleOfNumbers_16] at heq
    refine lv_iload_n hx hb d_ruleOfNumbers_16 rfl (lv_at hl 0 rfl) ?_
    refine lv_bipush (v := 23) hx hb d_ruleOfNumbers_17 (by decide) ?_
    refine lv_icmp_ne (tgt := 36) hx hb d_ruleOfNumbers_19 (by decide) (fun c_16 => ?_) (fun c_16 => ?_)
    · rw [if_neg c_16] at heq
      exact K36  H locs ls heq hW (lv_sub hl [0, 1] rfl)
    · rw [if_pos c_16] at heq
      refine lv_iload_n hx hb d_ruleOfNumbers_22 rfl (lv_at hl 1 rfl) ?_
      refine lv_ldc2 (v := 402653184) hx hb hown (hts _ w_10) d_ruleOfNumbers_23 ?_
      refine gk_goR hW [] rfl (va_runS (As := [.int x1, .long 402653184]) (rest := []) ⟨hx, hb, hml, hown, hts⟩ (c_isIn l D cI cL x1 402653184 _) (gk_cwS hts w_5 w_6 w_3 k_isIn rfl e_isIn rfl rfl ⟨Nat.le_of_ble_eq_true rfl, Nat.le_of_ble_eq_true rfl⟩) (gk_pre hW [] rfl rfl) rfl rfl hl.1 rfl (lv_room (Nat.le_of_ble_eq_true rfl)) d_ruleOfNumbers_26 ⟨Nat.le_of_ble_eq_true rfl, Nat.le_of_ble_eq_true rfl⟩) (fun H locs hW => ?_)
      refine lv_if_eq (tgt := 36) hx hb d_ruleOfNumbers_29 (by decide) (fun c_17 => ?_) (fun c_17 => ?_)
      · rw [if_pos c_17] at heq
        exact K36  H locs ls heq hW (lv_sub hl [0, 1] rfl)
      · rw [if_neg c_17] at heq
        refine lv_sipush (v := 230) hx hb d_ruleOfNumbers_32 (by decide) ?_
        exact X _ () H locs 0 0 35 ls heq hW d_ruleOfNumbers_35 rfl (Nat.le_of_ble_eq_true rfl) (Nat.le_of_ble_eq_true rfl)
  refine lv_iload_n hx hb d_ruleOfNumbers_0 rfl (lv_at hl 0 rfl) ?_
  refine lv_ldc2 (v := 402653184) hx hb hown (hts _ w_10) d_ruleOfNumbers_1 ?_
  refine gk_goR hW [] rfl (va_runS (As := [.int x0, .long 402653184]) (rest := []) ⟨hx, hb, hml, hown, hts⟩ (c_isIn l D cI cL x0 402653184 _) (gk_cwS hts w_5 w_6 w_3 k_isIn rfl e_isIn rfl rfl ⟨Nat.le_of_ble_eq_true rfl, Nat.le_of_ble_eq_true rfl⟩) (gk_pre hW [] rfl rfl) rfl rfl hl.1 rfl (lv_room (Nat.le_of_ble_eq_true rfl)) d_ruleOfNumbers_4 ⟨Nat.le_of_ble_eq_true rfl, Nat.le_of_ble_eq_true rfl⟩) (fun H locs hW => ?_)
  refine lv_if_eq (tgt := 16) hx hb d_ruleOfNumbers_7 (by decide) (fun c_18 => ?_) (fun c_18 => ?_)
  · rw [if_pos c_18] at heq
    exact K16  H locs ls heq hW (lv_sub hl [0, 1] rfl)
  · rw [if_neg c_18] at heq
    refine lv_iload_n hx hb d_ruleOfNumbers_10 rfl (lv_at hl 1 rfl) ?_
    refine lv_bipush (v := 23) hx hb d_ruleOfNumbers_11 (by decide) ?_
    refine lv_icmp_eq (tgt := 32) hx hb d_ruleOfNumbers_13 (by decide) (fun c_19 => ?_) (fun c_19 => ?_)
    · rw [if_pos c_19] at heq
      refine lv_sipush (v := 230) hx hb d_ruleOfNumbers_32 (by decide) ?_
      exact X _ () H locs 0 0 35 ls heq hW d_ruleOfNumbers_35 rfl (Nat.le_of_ble_eq_true rfl) (Nat.le_of_ble_eq_true rfl)
    · rw [if_neg c_19] at heq
      exact K16  H locs ls heq hW (lv_sub hl [0, 1] rfl)
def mm_ruleOfWords_144 (x0 x1 : Int32) : Int32 := if x0 = 22 then (if (mm_isIn x1 402653184) = 0 then 0 else 290) else 0
def mm_ruleOfWords_120 (x0 x1 : Int32) : Int32 := if (mm_isIn x0 402653184) = 0 then (mm_ruleOfWords_144 x0 x1) else (if (mm_isIn x1 402653184) = 0 then (mm_ruleOfWords_144 x0 x1) else 280)
def mm_ruleOfWords_100 (x0 x1 : Int32) : Int32 := if x0 = 25 then (if (mm_isIn x1 133143986176) = 0 then (mm_ruleOfWords_120 x0 x1) else 270) else (mm_ruleOfWords_120 x0 x1)
def mm_ruleOfWords_84 (x0 x1 : Int32) : Int32 := if (mm_isIn x0 133143986176) = 0 then (mm_ruleOfWords_100 x0 x1) else (if x1 = 24 then 270 else (mm_ruleOfWords_100 x0 x1))
def mm_ruleOfWords_74 (x0 x1 : Int32) : Int32 := if x1 = 36 then 260 else (mm_ruleOfWords_84 x0 x1)
def mm_ruleOfWords_62 (x0 x1 : Int32) : Int32 := if x0 = 36 then (mm_ruleOfWords_74 x0 x1) else (if x0 = 33 then (mm_ruleOfWords_74 x0 x1) else (mm_ruleOfWords_84 x0 x1))
def mm_ruleOfWords_46 (x0 x1 : Int32) : Int32 := if x1 = 35 then 260 else (if x1 = 36 then 260 else (mm_ruleOfWords_62 x0 x1))
def mm_ruleOfWords_34 (x0 x1 : Int32) : Int32 := if x0 = 35 then (mm_ruleOfWords_46 x0 x1) else (if x0 = 32 then (mm_ruleOfWords_46 x0 x1) else (mm_ruleOfWords_62 x0 x1))
def mm_ruleOfWords (x0 x1 : Int32) : Int32 := if x0 = 34 then (if x1 = 34 then 260 else (if x1 = 35 then 260 else (if x1 = 32 then 260 else (if x1 = 33 then 260 else (mm_ruleOfWords_34 x0 x1))))) else (mm_ruleOfWords_34 x0 x1)
def rm_ruleOfWords : Room := { frames := 1, cells := 0, slots := 0, locals := 22 }
set_option maxHeartbeats 4000000 in
set_option maxRecDepth 100000 in
theorem c_ruleOfWords (l : Launch) (D : va_G) (cI : ClassId) (cL : ClassId × ClassId) (x0 x1 : Int32) : gk_I l y_ruleOfWords (.code y_ruleOfWords b_ruleOfWords 2 (some .int) :: wA) rm_ruleOfWords D vwCl (gk_T cI cL) [.int x0, .int x1] [] (fun (r : Int32) (_ : Unit) => r = mm_ruleOfWords x0 x1) (fun (_ : Unit) => []) 0 0 := by
  refine gk_I.of (by decide) (Nat.le_of_ble_eq_true rfl) ?_
  intro p e s m below meth c A ls Q H locs hx hb hml hown hts hW hl X
  have hl : lv_has ls 2 [(0, .int x0), (1, .int x1)] := hl
  obtain ⟨tgt, heq⟩ : ∃ t, mm_ruleOfWords x0 x1 = t := ⟨_, rfl⟩
  rw [heq] at X
  rw [mm_ruleOfWords] at heq
  have K144 : ∀ (H : Heap) (locs : List Loc) (ls : Array Slot), mm_ruleOfWords_144 x0 x1 = tgt → gk_W D vwCl (gk_T cI cL) s A H locs [] → lv_has ls 2 [(0, .int x0), (1, .int x1)] → W p l e rm_ruleOfWords s m [.int x0, .int x1].toArray below meth c H locs 0 0 Q (F0 m 144 ls []) := by
    intro  H locs ls heq hW hl
    rw [mm_ruleOfWords_144] at heq
    refine lv_iload_n hx hb d_ruleOfWords_144 rfl (lv_at hl 0 rfl) ?_
    refine lv_bipush (v := 22) hx hb d_ruleOfWords_145 (by decide) ?_
    refine lv_icmp_ne (tgt := 166) hx hb d_ruleOfWords_147 (by decide) (fun c_1 => ?_) (fun c_1 => ?_)
    · rw [if_neg c_1] at heq
      refine lv_iconst (v := 0) hx hb d_ruleOfWords_166 (by decide) ?_
      exact X _ () H locs 0 0 167 ls heq hW d_ruleOfWords_167 rfl (Nat.le_of_ble_eq_true rfl) (Nat.le_of_ble_eq_true rfl)
    · rw [if_pos c_1] at heq
      refine lv_iload_n hx hb d_ruleOfWords_150 rfl (lv_at hl 1 rfl) ?_
      refine lv_ldc2 (v := 402653184) hx hb hown (hts _ w_10) d_ruleOfWords_151 ?_
      refine gk_goR hW [] rfl (va_runS (As := [.int x1, .long 402653184]) (rest := []) ⟨hx, hb, hml, hown, hts⟩ (c_isIn l D cI cL x1 402653184 _) (gk_cwS hts w_5 w_6 w_3 k_isIn rfl e_isIn rfl rfl ⟨Nat.le_of_ble_eq_true rfl, Nat.le_of_ble_eq_true rfl⟩) (gk_pre hW [] rfl rfl) rfl rfl hl.1 rfl (lv_room (Nat.le_of_ble_eq_true rfl)) d_ruleOfWords_154 ⟨Nat.le_of_ble_eq_true rfl, Nat.le_of_ble_eq_true rfl⟩) (fun H locs hW => ?_)
      refine lv_if_eq (tgt := 166) hx hb d_ruleOfWords_157 (by decide) (fun c_2 => ?_) (fun c_2 => ?_)
      · rw [if_pos c_2] at heq
        refine lv_iconst (v := 0) hx hb d_ruleOfWords_166 (by decide) ?_
        exact X _ () H locs 0 0 167 ls heq hW d_ruleOfWords_167 rfl (Nat.le_of_ble_eq_true rfl) (Nat.le_of_ble_eq_true rfl)
      · rw [if_neg c_2] at heq
        refine lv_sipush (v := 290) hx hb d_ruleOfWords_160 (by decide) ?_
        refine lv_goto (tgt := 167) hx hb d_ruleOfWords_163 (by decide) ?_
        exact X _ () H locs 0 0 167 ls heq hW d_ruleOfWords_167 rfl (Nat.le_of_ble_eq_true rfl) (Nat.le_of_ble_eq_true rfl)
  have K120 : ∀ (H : Heap) (locs : List Loc) (ls : Array Slot), mm_ruleOfWords_120 x0 x1 = tgt → gk_W D vwCl (gk_T cI cL) s A H locs [] → lv_has ls 2 [(0, .int x0), (1, .int x1)] → W p l e rm_ruleOfWords s m [.int x0, .int x1].toArray below meth c H locs 0 0 Q (F0 m 120 ls []) := by
    intro  H locs ls heq hW hl
    rw [mm_ruleOfWords_120] at heq
    refine lv_iload_n hx hb d_ruleOfWords_120 rfl (lv_at hl 0 rfl) ?_
    refine lv_ldc2 (v := 402653184) hx hb hown (hts _ w_10) d_ruleOfWords_121 ?_
    refine gk_goR hW [] rfl (va_runS (As := [.int x0, .long 402653184]) (rest := []) ⟨hx, hb, hml, hown, hts⟩ (c_isIn l D cI cL x0 402653184 _) (gk_cwS hts w_5 w_6 w_3 k_isIn rfl e_isIn rfl rfl ⟨Nat.le_of_ble_eq_true rfl, Nat.le_of_ble_eq_true rfl⟩) (gk_pre hW [] rfl rfl) rfl rfl hl.1 rfl (lv_room (Nat.le_of_ble_eq_true rfl)) d_ruleOfWords_124 ⟨Nat.le_of_ble_eq_true rfl, Nat.le_of_ble_eq_true rfl⟩) (fun H locs hW => ?_)
    refine lv_if_eq (tgt := 144) hx hb d_ruleOfWords_127 (by decide) (fun c_3 => ?_) (fun c_3 => ?_)
    · rw [if_pos c_3] at heq
      exact K144  H locs ls heq hW (lv_sub hl [0, 1] rfl)
    · rw [if_neg c_3] at heq
      refine lv_iload_n hx hb d_ruleOfWords_130 rfl (lv_at hl 1 rfl) ?_
      refine lv_ldc2 (v := 402653184) hx hb hown (hts _ w_10) d_ruleOfWords_131 ?_
      refine gk_goR hW [] rfl (va_runS (As := [.int x1, .long 402653184]) (rest := []) ⟨hx, hb, hml, hown, hts⟩ (c_isIn l D cI cL x1 402653184 _) (gk_cwS hts w_5 w_6 w_3 k_isIn rfl e_isIn rfl rfl ⟨Nat.le_of_ble_eq_true rfl, Nat.le_of_ble_eq_true rfl⟩) (gk_pre hW [] rfl rfl) rfl rfl hl.1 rfl (lv_room (Nat.le_of_ble_eq_true rfl)) d_ruleOfWords_134 ⟨Nat.le_of_ble_eq_true rfl, Nat.le_of_ble_eq_true rfl⟩) (fun H locs hW => ?_)
      refine lv_if_eq (tgt := 144) hx hb d_ruleOfWords_137 (by decide) (fun c_4 => ?_) (fun c_4 => ?_)
      · rw [if_pos c_4] at heq
        exact K144  H locs ls heq hW (lv_sub hl [0, 1] rfl)
      · rw [if_neg c_4] at heq
        refine lv_sipush (v := 280) hx hb d_ruleOfWords_140 (by decide) ?_
        exact X _ () H locs 0 0 143 ls heq hW d_ruleOfWords_143 rfl (Nat.le_of_ble_eq_true rfl) (Nat.le_of_ble_eq_true rfl)
  have K100 : ∀ (H : Heap) (locs : List Loc) (ls : Array Slot), mm_ruleOfWords_100 x0 x1 = tgt → gk_W D vwCl (gk_T cI cL) s A H locs [] → lv_has ls 2 [(0, .int x0), (1, .int x1)] → W p l e rm_ruleOfWords s m [.int x0, .int x1].toArray below meth c H locs 0 0 Q (F0 m 100 ls []) := by
    intro  H locs ls heq hW hl
    rw [mm_ruleOfWords_100] at heq
    refine lv_iload_n hx hb d_ruleOfWords_100 rfl (lv_at hl 0 rfl) ?_
    refine lv_bipush (v := 25) hx hb d_ruleOfWords_101 (by decide) ?_
    refine lv_icmp_ne (tgt := 120) hx hb d_ruleOfWords_103 (by decide) (fun c_5 => ?_) (fun c_5 => ?_)
    · rw [if_neg c_5] at heq
      exact K120  H locs ls heq hW (lv_sub hl [0, 1] rfl)
    · rw [if_pos c_5] at heq
      refine lv_iload_n hx hb d_ruleOfWords_106 rfl (lv_at hl 1 rfl) ?_
      refine lv_ldc2 (v := 133143986176) hx hb hown (hts _ w_15) d_ruleOfWords_107 ?_
      refine gk_goR hW [] rfl (va_runS (As := [.int x1, .long 133143986176]) (rest := []) ⟨hx, hb, hml, hown, hts⟩ (c_isIn l D cI cL x1 133143986176 _) (gk_cwS hts w_5 w_6 w_3 k_isIn rfl e_isIn rfl rfl ⟨Nat.le_of_ble_eq_true rfl, Nat.le_of_ble_eq_true rfl⟩) (gk_pre hW [] rfl rfl) rfl rfl hl.1 rfl (lv_room (Nat.le_of_ble_eq_true rfl)) d_ruleOfWords_110 ⟨Nat.le_of_ble_eq_true rfl, Nat.le_of_ble_eq_true rfl⟩) (fun H locs hW => ?_)
      refine lv_if_eq (tgt := 120) hx hb d_ruleOfWords_113 (by decide) (fun c_6 => ?_) (fun c_6 => ?_)
      · rw [if_pos c_6] at heq
        exact K120  H locs ls heq hW (lv_sub hl [0, 1] rfl)
      · rw [if_neg c_6] at heq
        refine lv_sipush (v := 270) hx hb d_ruleOfWords_116 (by decide) ?_
        exact X _ () H locs 0 0 119 ls heq hW d_ruleOfWords_119 rfl (Nat.le_of_ble_eq_true rfl) (Nat.le_of_ble_eq_true rfl)
  have K84 : ∀ (H : Heap) (locs : List Loc) (ls : Array Slot), mm_ruleOfWords_84 x0 x1 = tgt → gk_W D vwCl (gk_T cI cL) s A H locs [] → lv_has ls 2 [(0, .int x0), (1, .int x1)] → W p l e rm_ruleOfWords s m [.int x0, .int x1].toArray below meth c H locs 0 0 Q (F0 m 84 ls []) := by
    intro  H locs ls heq hW hl
    rw [mm_ruleOfWords_84] at heq
    refine lv_iload_n hx hb d_ruleOfWords_84 rfl (lv_at hl 0 rfl) ?_
    refine lv_ldc2 (v := 133143986176) hx hb hown (hts _ w_15) d_ruleOfWords_85 ?_
    refine gk_goR hW [] rfl (va_runS (As := [.int x0, .long 133143986176]) (rest := []) ⟨hx, hb, hml, hown, hts⟩ (c_isIn l D cI cL x0 133143986176 _) (gk_cwS hts w_5 w_6 w_3 k_isIn rfl e_isIn rfl rfl ⟨Nat.le_of_ble_eq_true rfl, Nat.le_of_ble_eq_true rfl⟩) (gk_pre hW [] rfl rfl) rfl rfl hl.1 rfl (lv_room (Nat.le_of_ble_eq_true rfl)) d_ruleOfWords_88 ⟨Nat.le_of_ble_eq_true rfl, Nat.le_of_ble_eq_true rfl⟩) (fun H locs hW => ?_)
    refine lv_if_eq (tgt := 100) hx hb d_ruleOfWords_91 (by decide) (fun c_7 => ?_) (fun c_7 => ?_)
    · rw [if_pos c_7] at heq
      exact K100  H locs ls heq hW (lv_sub hl [0, 1] rfl)
    · rw [if_neg c_7] at heq
      refine lv_iload_n hx hb d_ruleOfWords_94 rfl (lv_at hl 1 rfl) ?_
      refine lv_bipush (v := 24) hx hb d_ruleOfWords_95 (by decide) ?_
      refine lv_icmp_eq (tgt := 116) hx hb d_ruleOfWords_97 (by decide) (fun c_8 => ?_) (fun c_8 => ?_)
      · rw [if_pos c_8] at heq
        refine lv_sipush (v := 270) hx hb d_ruleOfWords_116 (by decide) ?_
        exact X _ () H locs 0 0 119 ls heq hW d_ruleOfWords_119 rfl (Nat.le_of_ble_eq_true rfl) (Nat.le_of_ble_eq_true rfl)
      · rw [if_neg c_8] at heq
        exact K100  H locs ls heq hW (lv_sub hl [0, 1] rfl)
  have K74 : ∀ (H : Heap) (locs : List Loc) (ls : Array Slot), mm_ruleOfWords_74 x0 x1 = tgt → gk_W D vwCl (gk_T cI cL) s A H locs [] → lv_has ls 2 [(0, .int x0), (1, .int x1)] → W p l e rm_ruleOfWords s m [.int x0, .int x1].toArray below meth c H locs 0 0 Q (F0 m 74 ls []) := by
    intro  H locs ls heq hW hl
    rw [mm_ruleOfWords_74] at heq
    refine lv_iload_n hx hb d_ruleOfWords_74 rfl (lv_at hl 1 rfl) ?_
    refine lv_bipush (v := 36) hx hb d_ruleOfWords_75 (by decide) ?_
    refine lv_icmp_ne (tgt := 84) hx hb d_ruleOfWords_77 (by decide) (fun c_9 => ?_) (fun c_9 => ?_)
    · rw [if_neg c_9] at heq
      exact K84  H locs ls heq hW (lv_sub hl [0, 1] rfl)
    · rw [if_pos c_9] at heq
      refine lv_sipush (v := 260) hx hb d_ruleOfWords_80 (by decide) ?_
      exact X _ () H locs 0 0 83 ls heq hW d_ruleOfWords_83 rfl (Nat.le_of_ble_eq_true rfl) (Nat.le_of_ble_eq_true rfl)
  have K62 : ∀ (H : Heap) (locs : List Loc) (ls : Array Slot), mm_ruleOfWords_62 x0 x1 = tgt → gk_W D vwCl (gk_T cI cL) s A H locs [] → lv_has ls 2 [(0, .int x0), (1, .int x1)] → W p l e rm_ruleOfWords s m [.int x0, .int x1].toArray below meth c H locs 0 0 Q (F0 m 62 ls []) := by
    intro  H locs ls heq hW hl
    rw [mm_ruleOfWords_62] at heq
    refine lv_iload_n hx hb d_ruleOfWords_62 rfl (lv_at hl 0 rfl) ?_
    refine lv_bipush (v := 36) hx hb d_ruleOfWords_63 (by decide) ?_
    refine lv_icmp_eq (tgt := 74) hx hb d_ruleOfWords_65 (by decide) (fun c_10 => ?_) (fun c_10 => ?_)
    · rw [if_pos c_10] at heq
      exact K74  H locs ls heq hW (lv_sub hl [0, 1] rfl)
    · rw [if_neg c_10] at heq
      refine lv_iload_n hx hb d_ruleOfWords_68 rfl (lv_at hl 0 rfl) ?_
      refine lv_bipush (v := 33) hx hb d_ruleOfWords_69 (by decide) ?_
      refine lv_icmp_ne (tgt := 84) hx hb d_ruleOfWords_71 (by decide) (fun c_11 => ?_) (fun c_11 => ?_)
      · rw [if_neg c_11] at heq
        exact K84  H locs ls heq hW (lv_sub hl [0, 1] rfl)
      · rw [if_pos c_11] at heq
        exact K74  H locs ls heq hW (lv_sub hl [0, 1] rfl)
  have K46 : ∀ (H : Heap) (locs : List Loc) (ls : Array Slot), mm_ruleOfWords_46 x0 x1 = tgt → gk_W D vwCl (gk_T cI cL) s A H locs [] → lv_has ls 2 [(0, .int x0), (1, .int x1)] → W p l e rm_ruleOfWords s m [.int x0, .int x1].toArray below meth c H locs 0 0 Q (F0 m 46 ls []) := by
    intro  H locs ls heq hW hl
    rw [mm_ruleOfWords_46] at heq
    refine lv_iload_n hx hb d_ruleOfWords_46 rfl (lv_at hl 1 rfl) ?_
    refine lv_bipush (v := 35) hx hb d_ruleOfWords_47 (by decide) ?_
    refine lv_icmp_eq (tgt := 58) hx hb d_ruleOfWords_49 (by decide) (fun c_12 => ?_) (fun c_12 => ?_)
    · rw [if_pos c_12] at heq
      refine lv_sipush (v := 260) hx hb d_ruleOfWords_58 (by decide) ?_
      exact X _ () H locs 0 0 61 ls heq hW d_ruleOfWords_61 rfl (Nat.le_of_ble_eq_true rfl) (Nat.le_of_ble_eq_true rfl)
    · rw [if_neg c_12] at heq
      refine lv_iload_n hx hb d_ruleOfWords_52 rfl (lv_at hl 1 rfl) ?_
      refine lv_bipush (v := 36) hx hb d_ruleOfWords_53 (by decide) ?_
      refine lv_icmp_ne (tgt := 62) hx hb d_ruleOfWords_55 (by decide) (fun c_13 => ?_) (fun c_13 => ?_)
      · rw [if_neg c_13] at heq
        exact K62  H locs ls heq hW (lv_sub hl [0, 1] rfl)
      · rw [if_pos c_13] at heq
        refine lv_sipush (v := 260) hx hb d_ruleOfWords_58 (by decide) ?_
        exact X _ () H locs 0 0 61 ls heq hW d_ruleOfWords_61 rfl (Nat.le_of_ble_eq_true rfl) (Nat.le_of_ble_eq_true rfl)
  have K34 : ∀ (H : Heap) (locs : List Loc) (ls : Array Slot), mm_ruleOfWords_34 x0 x1 = tgt → gk_W D vwCl (gk_T cI cL) s A H locs [] → lv_has ls 2 [(0, .int x0), (1, .int x1)] → W p l e rm_ruleOfWords s m [.int x0, .int x1].toArray below meth c H locs 0 0 Q (F0 m 34 ls []) := by
    intro  H locs ls heq hW hl
    rw [mm_ruleOfWords_34] at heq
    refine lv_iload_n hx hb d_ruleOfWords_34 rfl (lv_at hl 0 rfl) ?_
    refine lv_bipush (v := 35) hx hb d_ruleOfWords_35 (by decide) ?_
    refine lv_icmp_eq (tgt := 46) hx hb d_ruleOfWords_37 (by decide) (fun c_14 => ?_) (fun c_14 => ?_)
    · rw [if_pos c_14] at heq
      exact K46  H locs ls heq hW (lv_sub hl [0, 1] rfl)
    · rw [if_neg c_14] at heq
      refine lv_iload_n hx hb d_ruleOfWords_40 rfl (lv_at hl 0 rfl) ?_
      refine lv_bipush (v := 32) hx hb d_ruleOfWords_41 (by decide) ?_
      refine lv_icmp_ne (tgt := 62) hx hb d_ruleOfWords_43 (by decide) (fun c_15 => ?_) (fun c_15 => ?_)
      · rw [if_neg c_15] at heq
        exact K62  H locs ls heq hW (lv_sub hl [0, 1] rfl)
      · rw [if_pos c_15] at heq
        exact K46  H locs ls heq hW (lv_sub hl [0, 1] rfl)
  refine lv_iload_n hx hb d_ruleOfWords_0 rfl (lv_at hl 0 rfl) ?_
  refine lv_bipush (v := 34) hx hb d_ruleOfWords_1 (by decide) ?_
  refine lv_icmp_ne (tgt := 34) hx hb d_ruleOfWords_3 (by decide) (fun c_16 => ?_) (fun c_16 => ?_)
  · rw [if_neg c_16] at heq
    exact K34  H locs ls heq hW (lv_sub hl [0, 1] rfl)
  · rw [if_pos c_16] at heq
    refine lv_iload_n hx hb d_ruleOfWords_6 rfl (lv_at hl 1 rfl) ?_
    refine lv_bipush (v := 34) hx hb d_ruleOfWords_7 (by decide) ?_
    refine lv_icmp_eq (tgt := 30) hx hb d_ruleOfWords_9 (by decide) (fun c_17 => ?_) (fun c_17 => ?_)
    · rw [if_pos c_17] at heq
      refine lv_sipush (v := 260) hx hb d_ruleOfWords_30 (by decide) ?_
      exact X _ () H locs 0 0 33 ls heq hW d_ruleOfWords_33 rfl (Nat.le_of_ble_eq_true rfl) (Nat.le_of_ble_eq_true rfl)
    · rw [if_neg c_17] at heq
      refine lv_iload_n hx hb d_ruleOfWords_12 rfl (lv_at hl 1 rfl) ?_
      refine lv_bipush (v := 35) hx hb d_ruleOfWords_13 (by decide) ?_
      refine lv_icmp_eq (tgt := 30) hx hb d_ruleOfWords_15 (by decide) (fun c_18 => ?_) (fun c_18 => ?_)
      · rw [if_pos c_18] at heq
        refine lv_sipush (v := 260) hx hb d_ruleOfWords_30 (by decide) ?_
        exact X _ () H locs 0 0 33 ls heq hW d_ruleOfWords_33 rfl (Nat.le_of_ble_eq_true rfl) (Nat.le_of_ble_eq_true rfl)
      · rw [if_neg c_18] at heq
        refine lv_iload_n hx hb d_ruleOfWords_18 rfl (lv_at hl 1 rfl) ?_
        refine lv_bipush (v := 32) hx hb d_ruleOfWords_19 (by decide) ?_
        refine lv_icmp_eq (tgt := 30) hx hb d_ruleOfWords_21 (by decide) (fun c_19 => ?_) (fun c_19 => ?_)
        · rw [if_pos c_19] at heq
          refine lv_sipush (v := 260) hx hb d_ruleOfWords_30 (by decide) ?_
          exact X _ () H locs 0 0 33 ls heq hW d_ruleOfWords_33 rfl (Nat.le_of_ble_eq_true rfl) (Nat.le_of_ble_eq_true rfl)
        · rw [if_neg c_19] at heq
          refine lv_iload_n hx hb d_ruleOfWords_24 rfl (lv_at hl 1 rfl) ?_
          refine lv_bipush (v := 33) hx hb d_ruleOfWords_25 (by decide) ?_
          refine lv_icmp_ne (tgt := 34) hx hb d_ruleOfWords_27 (by decide) (fun c_20 => ?_) (fun c_20 => ?_)
          · rw [if_neg c_20] at heq
            exact K34  H locs ls heq hW (lv_sub hl [0, 1] rfl)
          · rw [if_pos c_20] at heq
            refine lv_sipush (v := 260) hx hb d_ruleOfWords_30 (by decide) ?_
            exact X _ () H locs 0 0 33 ls heq hW d_ruleOfWords_33 rfl (Nat.le_of_ble_eq_true rfl) (Nat.le_of_ble_eq_true rfl)
end
section
def mm_rIsFull (N : Nat) (mn : Int32) : Int32 := if mn < (nI N) then 0 else 1
def rm_rIsFull : Room := { frames := 0, cells := 0, slots := 0, locals := 0 }
set_option maxHeartbeats 4000000 in
set_option maxRecDepth 100000 in
theorem c_rIsFull (l : Launch) (D : va_G) (cI : ClassId) (cL : ClassId × ClassId) (N a0 a1 a2 a3 : Nat) (fa la va : Nat → Int32) (mn : Int32) (z_mn : Int) (v_mn : gk_v mn z_mn) (hN : (N : Int) ≤ 100) (hmn : 0 ≤ z_mn ∧ z_mn ≤ (N : Int)) : gk_I l y_rIsFull (.code y_rIsFull b_rIsFull 1 (some .boolean) :: wA) rm_rIsFull D vwCl (gk_T cI cL) [.ref a0] (wd_R cI N a0 a1 a2 a3 fa la va mn) (fun (r : Int32) (_ : Unit) => r = mm_rIsFull N mn) (fun (_ : Unit) => (wd_R cI N a0 a1 a2 a3 fa la va mn)) 0 0 := by
  refine gk_I.of (by decide) (Nat.le_of_ble_eq_true rfl) ?_
  intro p e s m below meth c A ls Q H locs hx hb hml hown hts hW hl X
  have hl : lv_has ls 1 [(0, .ref a0)] := hl
  obtain ⟨tgt, heq⟩ : ∃ t, mm_rIsFull N mn = t := ⟨_, rfl⟩
  rw [heq] at X
  rw [mm_rIsFull] at heq
  refine lv_aload_n hx hb d_rIsFull_0 rfl (lv_at hl 0 rfl) ?_
  refine va_get (D := D) (C := R_R) (T := F_R) (N := 4) hx hb hts i_R hown hW.1 hW.2.1 0 rfl rfl 3 (by decide) (hts _ w_16) (fun _ h9 => h9) rfl d_rIsFull_1 ?_
  refine lv_aload_n hx hb d_rIsFull_4 rfl (lv_at hl 0 rfl) ?_
  refine va_get (D := D) (C := R_R) (T := F_R) (N := 4) hx hb hts i_R hown hW.1 hW.2.1 0 rfl rfl 0 (by decide) (hts _ w_17) (fun _ h9 => h9) rfl d_rIsFull_5 ?_
  refine va_alen (v := nI N) hx hb hW.1 hW.2.1 1 0 rfl rfl rfl d_rIsFull_8 ?_
  refine lv_icmp_lt (tgt := 16) hx hb d_rIsFull_9 (by decide) (fun c_1 => ?_) (fun c_1 => ?_)
  · rw [if_pos c_1] at heq
    have ic_1 := gk_lt v_mn (gk_vn (n := N) (by omega)) c_1
    refine lv_iconst (v := 0) hx hb d_rIsFull_16 (by decide) ?_
    exact X _ () H locs 0 0 17 ls heq hW d_rIsFull_17 rfl (Nat.le_of_ble_eq_true rfl) (Nat.le_of_ble_eq_true rfl)
  · rw [if_neg c_1] at heq
    have ic_1 := gk_nlt v_mn (gk_vn (n := N) (by omega)) c_1
    refine lv_iconst (v := 1) hx hb d_rIsFull_12 (by decide) ?_
    refine lv_goto (tgt := 17) hx hb d_rIsFull_13 (by decide) ?_
    exact X _ () H locs 0 0 17 ls heq hW d_rIsFull_17 rfl (Nat.le_of_ble_eq_true rfl) (Nat.le_of_ble_eq_true rfl)
def mm_rTell (x1 x2 x3 : Int32) (N : Nat) (fa la va : Nat → Int32) (mn : Int32) : (Nat → Int32) × (Nat → Int32) × (Nat → Int32) × Int32 := if (mm_rIsFull N mn) = 0 then (upd fa mn.toNatClampNeg x1, upd la mn.toNatClampNeg x2, upd va mn.toNatClampNeg x3, mn + 1) else (fa, la, va, mn)
theorem mm_rIsFull_lt {N : Nat} {mn : Int32} {z : Int} (h : mm_rIsFull N mn = 0) (v : gk_v mn z) (hN : (N : Int) ≤ 100) : z < (N : Int) := by
  unfold mm_rIsFull at h
  split at h
  · rename_i hc
    exact gk_lt v (gk_vn (n := N) (by omega)) hc
  · exact absurd h (by decide)
def rm_rTell : Room := { frames := 1, cells := 0, slots := 0, locals := 20 }
set_option maxHeartbeats 4000000 in
set_option maxRecDepth 100000 in
theorem c_rTell (l : Launch) (D : va_G) (cI : ClassId) (cL : ClassId × ClassId) (N a0 a1 a2 a3 : Nat) (fa la va : Nat → Int32) (mn x1 x2 x3 : Int32) (z_mn : Int) (v_mn : gk_v mn z_mn) (hN : (N : Int) ≤ 100) (hmn : 0 ≤ z_mn ∧ z_mn ≤ (N : Int)) : gk_V l y_rTell (.code y_rTell b_rTell 4 none :: wA) rm_rTell D vwCl (gk_T cI cL) [.ref a0, .int x1, .int x2, .int x3] (wd_R cI N a0 a1 a2 a3 fa la va mn) (fun (u : (Nat → Int32) × (Nat → Int32) × (Nat → Int32) × Int32) => u = mm_rTell x1 x2 x3 N fa la va mn) (fun u => (wd_R cI N a0 a1 a2 a3 u.1 u.2.1 u.2.2.1 u.2.2.2)) 0 0 := by
  refine gk_V.of (by decide) (Nat.le_of_ble_eq_true rfl) ?_
  intro p e s m below meth c A ls Q H locs hx hb hml hown hts hin hW hl X
  have hl : lv_has ls 4 [(0, .ref a0), (1, .int x1), (2, .int x2), (3, .int x3)] := hl
  obtain ⟨tgt, heq⟩ : ∃ t, mm_rTell x1 x2 x3 N fa la va mn = t := ⟨_, rfl⟩
  rw [heq] at X
  rw [mm_rTell] at heq
  obtain ⟨z_x1, v_x1⟩ := gk_vex x1
  obtain ⟨z_x2, v_x2⟩ := gk_vex x2
  obtain ⟨z_x3, v_x3⟩ := gk_vex x3
  refine lv_aload_n hx hb d_rTell_0 rfl (lv_at hl 0 rfl) ?_
  refine gk_goR hW [0, 1, 2, 3] rfl (va_runV (As := []) (rest := []) ⟨hx, hb, hml, hown, hts⟩ (c_rIsFull l D cI cL N a0 a1 a2 a3 fa la va mn z_mn v_mn (by omega) (by omega) _) (gk_cwV hts w_18 w_19 w_20 w_21 k_rIsFull rfl e_rIsFull rfl rfl ⟨Nat.le_of_ble_eq_true rfl, Nat.le_of_ble_eq_true rfl⟩) (gk_preV hW [0, 1, 2, 3] rfl rfl rfl rfl) rfl rfl hl.1 rfl (lv_room (Nat.le_of_ble_eq_true rfl)) d_rTell_1 ⟨Nat.le_of_ble_eq_true rfl, Nat.le_of_ble_eq_true rfl⟩) (fun H locs hW => ?_)
  refine lv_if_eq (tgt := 8) hx hb d_rTell_4 (by decide) (fun c_1 => ?_) (fun c_1 => ?_)
  · rw [if_pos c_1] at heq
    have iN := mm_rIsFull_lt c_1 v_mn (by omega)
    refine lv_aload_n hx hb d_rTell_8 rfl (lv_at hl 0 rfl) ?_
    refine va_get (D := D) (C := R_R) (T := F_R) (N := 4) hx hb hts i_R hown hW.1 hW.2.1 0 rfl rfl 0 (by decide) (hts _ w_17) (fun _ h9 => h9) rfl d_rTell_9 ?_
    refine lv_aload_n hx hb d_rTell_12 rfl (lv_at hl 0 rfl) ?_
    refine va_get (D := D) (C := R_R) (T := F_R) (N := 4) hx hb hts i_R hown hW.1 hW.2.1 0 rfl rfl 3 (by decide) (hts _ w_16) (fun _ h9 => h9) rfl d_rTell_13 ?_
    refine lv_iload_n hx hb d_rTell_16 rfl (lv_at hl 1 rfl) ?_
    refine va_iast hx hb hW.1 hW.2.1 hW.2.2.1 hW.2.2.2.1 1 0 rfl rfl (i := mn) (x := x1) (gk_in v_mn (by omega) (by omega)) d_rTell_17 (fun H locs hP hD hS => ?_)
    have hW : gk_W D vwCl (gk_T cI cL) s A H locs (wd_R cI N a0 a1 a2 a3 (upd fa mn.toNatClampNeg x1) la va mn) := ⟨hW.1, hP, hD, hS, hW.2.2.2.2⟩
    refine lv_aload_n hx hb d_rTell_18 rfl (lv_at hl 0 rfl) ?_
    refine va_get (D := D) (C := R_R) (T := F_R) (N := 4) hx hb hts i_R hown hW.1 hW.2.1 0 rfl rfl 1 (by decide) (hts _ w_22) (fun _ h9 => h9) rfl d_rTell_19 ?_
    refine lv_aload_n hx hb d_rTell_22 rfl (lv_at hl 0 rfl) ?_
    refine va_get (D := D) (C := R_R) (T := F_R) (N := 4) hx hb hts i_R hown hW.1 hW.2.1 0 rfl rfl 3 (by decide) (hts _ w_16) (fun _ h9 => h9) rfl d_rTell_23 ?_
    refine lv_iload_n hx hb d_rTell_26 rfl (lv_at hl 2 rfl) ?_
    refine va_iast hx hb hW.1 hW.2.1 hW.2.2.1 hW.2.2.2.1 2 0 rfl rfl (i := mn) (x := x2) (gk_in v_mn (by omega) (by omega)) d_rTell_27 (fun H locs hP hD hS => ?_)
    have hW : gk_W D vwCl (gk_T cI cL) s A H locs (wd_R cI N a0 a1 a2 a3 (upd fa mn.toNatClampNeg x1) (upd la mn.toNatClampNeg x2) va mn) := ⟨hW.1, hP, hD, hS, hW.2.2.2.2⟩
    refine lv_aload_n hx hb d_rTell_28 rfl (lv_at hl 0 rfl) ?_
    refine va_get (D := D) (C := R_R) (T := F_R) (N := 4) hx hb hts i_R hown hW.1 hW.2.1 0 rfl rfl 2 (by decide) (hts _ w_23) (fun _ h9 => h9) rfl d_rTell_29 ?_
    refine lv_aload_n hx hb d_rTell_32 rfl (lv_at hl 0 rfl) ?_
    refine va_get (D := D) (C := R_R) (T := F_R) (N := 4) hx hb hts i_R hown hW.1 hW.2.1 0 rfl rfl 3 (by decide) (hts _ w_16) (fun _ h9 => h9) rfl d_rTell_33 ?_
    refine lv_iload_n hx hb d_rTell_36 rfl (lv_at hl 3 rfl) ?_
    refine va_iast hx hb hW.1 hW.2.1 hW.2.2.1 hW.2.2.2.1 3 0 rfl rfl (i := mn) (x := x3) (gk_in v_mn (by omega) (by omega)) d_rTell_37 (fun H locs hP hD hS => ?_)
    have hW : gk_W D vwCl (gk_T cI cL) s A H locs (wd_R cI N a0 a1 a2 a3 (upd fa mn.toNatClampNeg x1) (upd la mn.toNatClampNeg x2) (upd va mn.toNatClampNeg x3) mn) := ⟨hW.1, hP, hD, hS, hW.2.2.2.2⟩
    refine lv_aload_n hx hb d_rTell_38 rfl (lv_at hl 0 rfl) ?_
    refine lv_dup hx hb d_rTell_39 rfl ?_
    refine va_get (D := D) (C := R_R) (T := F_R) (N := 4) hx hb hts i_R hown hW.1 hW.2.1 0 rfl rfl 3 (by decide) (hts _ w_16) (fun _ h9 => h9) rfl d_rTell_40 ?_
    refine lv_iconst (v := 1) hx hb d_rTell_43 (by decide) ?_
    refine lv_iadd hx hb d_rTell_44 ?_
    obtain ⟨zt_2, vt_2, et_2⟩ := gk_add v_mn (show gk_v 1 1 from rfl) (by omega) (by omega)
    refine va_put (D := D) (ci := 1) (v := .int (mn + 1)) (ty := .int) (C := R_R) (T := F_R) (N := 4) hx hb hts i_R t_R t_R_ok n_R hown hW.1 hW.2.1 hW.2.2.1 hW.2.2.2.1 0 rfl rfl 3 (by decide) (hts _ w_16) (fun _ h9 => h9) rfl (by decide +kernel) rfl rfl (Nat.le_of_ble_eq_true rfl) d_rTell_45 (fun H locs hP hD hS => ?_)
    have hW : gk_W D vwCl (gk_T cI cL) s A H locs (wd_R cI N a0 a1 a2 a3 (upd fa mn.toNatClampNeg x1) (upd la mn.toNatClampNeg x2) (upd va mn.toNatClampNeg x3) (mn + 1)) := ⟨hW.1, hP, hD, hS, hW.2.2.2.2⟩
    exact X (upd fa mn.toNatClampNeg x1, upd la mn.toNatClampNeg x2, upd va mn.toNatClampNeg x3, mn + 1) H locs 0 0 48 ls heq hW d_rTell_48 (Nat.le_of_ble_eq_true rfl) (Nat.le_of_ble_eq_true rfl)
  · rw [if_neg c_1] at heq
    exact X (fa, la, va, mn) H locs 0 0 7 ls heq hW d_rTell_7 (Nat.le_of_ble_eq_true rfl) (Nat.le_of_ble_eq_true rfl)
def mm_rValueOf_7 (x1 x2 : Int32) (fa la va : Nat → Int32) (mn : Int32) : Nat → Int32 → Int32
  | 0, x3 => 0
  | n + 1, x3 => if x3 < 0 then x2 else (if x1 < (fa x3.toNatClampNeg) then (mm_rValueOf_7 x1 x2 fa la va mn n (x3 + (-1))) else (if (la x3.toNatClampNeg) < x1 then (mm_rValueOf_7 x1 x2 fa la va mn n (x3 + (-1))) else (va x3.toNatClampNeg)))
def mm_rValueOf (x1 x2 : Int32) (fa la va : Nat → Int32) (mn : Int32) : Int32 := mm_rValueOf_7 x1 x2 fa la va mn 101 (mn - 1)
def rm_rValueOf : Room := { frames := 0, cells := 0, slots := 0, locals := 0 }
set_option maxHeartbeats 4000000 in
set_option maxRecDepth 100000 in
theorem c_rValueOf (l : Launch) (D : va_G) (cI : ClassId) (cL : ClassId × ClassId) (N a0 a1 a2 a3 : Nat) (fa la va : Nat → Int32) (mn x1 x2 : Int32) (z_mn : Int) (v_mn : gk_v mn z_mn) (hN : (N : Int) ≤ 100) (hmn : 0 ≤ z_mn ∧ z_mn ≤ (N : Int)) : gk_I l y_rValueOf (.code y_rValueOf b_rValueOf 4 (some .int) :: wA) rm_rValueOf D vwCl (gk_T cI cL) [.ref a0, .int x1, .int x2] (wd_R cI N a0 a1 a2 a3 fa la va mn) (fun (r : Int32) (_ : Unit) => r = mm_rValueOf x1 x2 fa la va mn) (fun (_ : Unit) => (wd_R cI N a0 a1 a2 a3 fa la va mn)) 0 0 := by
  refine gk_I.of (by decide) (Nat.le_of_ble_eq_true rfl) ?_
  intro p e s m below meth c A ls Q H locs hx hb hml hown hts hW hl X
  have hl : lv_has ls 4 [(0, .ref a0), (1, .int x1), (2, .int x2)] := hl
  obtain ⟨tgt, heq⟩ : ∃ t, mm_rValueOf x1 x2 fa la va mn = t := ⟨_, rfl⟩
  rw [heq] at X
  rw [mm_rValueOf] at heq
  obtain ⟨z_x1, v_x1⟩ := gk_vex x1
  obtain ⟨z_x2, v_x2⟩ := gk_vex x2
  have L7 : ∀ (n : Nat) (x3 : Int32) (H : Heap) (locs : List Loc) (ls : Array Slot), ∀ (z_x3 : Int), gk_v x3 z_x3 → (z_x3 + 1) < (n : Int) → -1 ≤ z_x3 ∧ z_x3 < (N : Int) → mm_rValueOf_7 x1 x2 fa la va mn n x3 = tgt → gk_W D vwCl (gk_T cI cL) s A H locs (wd_R cI N a0 a1 a2 a3 fa la va mn) → lv_has ls 4 [(0, .ref a0), (1, .int x1), (2, .int x2), (3, .int x3)] → W p l e rm_rValueOf s m [.ref a0, .int x1, .int x2].toArray below meth c H locs 0 0 Q (F0 m 7 ls []) := by
    intro n
    induction n with
    | zero => intro x3 H locs ls z_x3 v_x3 hm f7_0 heq hW hl; exfalso; omega
    | succ n ih =>
      intro x3 H locs ls z_x3 v_x3 hm f7_0 heq hW hl
      rw [mm_rValueOf_7] at heq
      refine lv_iload_n hx hb d_rValueOf_7 rfl (lv_at hl 3 rfl) ?_
      refine lv_if_lt (tgt := 44) hx hb d_rValueOf_8 (by decide) (fun c_1 => ?_) (fun c_1 => ?_)
      · rw [if_pos c_1] at heq
        have ic_1 := gk_lt v_x3 (show gk_v 0 0 from rfl) c_1
        refine lv_iload_n hx hb d_rValueOf_44 rfl (lv_at hl 2 rfl) ?_
        exact X _ () H locs 0 0 45 ls heq hW d_rValueOf_45 rfl (Nat.le_of_ble_eq_true rfl) (Nat.le_of_ble_eq_true rfl)
      · rw [if_neg c_1] at heq
        have ic_1 := gk_nlt v_x3 (show gk_v 0 0 from rfl) c_1
        refine lv_aload_n hx hb d_rValueOf_11 rfl (lv_at hl 0 rfl) ?_
        refine va_get (D := D) (C := R_R) (T := F_R) (N := 4) hx hb hts i_R hown hW.1 hW.2.1 0 rfl rfl 0 (by decide) (hts _ w_17) (fun _ h9 => h9) rfl d_rValueOf_12 ?_
        refine lv_iload_n hx hb d_rValueOf_15 rfl (lv_at hl 3 rfl) ?_
        refine va_iald hx hb hW.1 hW.2.1 1 0 rfl rfl (i := x3) (gk_in v_x3 (by omega) (by omega)) d_rValueOf_16 ?_
        refine lv_iload_n hx hb d_rValueOf_17 rfl (lv_at hl 1 rfl) ?_
        refine lv_icmp_gt (tgt := 38) hx hb d_rValueOf_18 (by decide) (fun c_2 => ?_) (fun c_2 => ?_)
        · rw [if_pos c_2] at heq
          refine lv_iinc (v := x3 + (-1)) (lv' := [(3, .int (x3 + (-1))), (0, .ref a0), (1, .int x1), (2, .int x2)]) hx hb d_rValueOf_38 hl (k := 3) rfl rfl (by decide) rfl (fun ls hl => ?_)
          obtain ⟨zt_3, vt_3, et_3⟩ := gk_add v_x3 (show gk_v (-1) (-1) from rfl) (by omega) (by omega)
          refine lv_goto (tgt := 7) hx hb d_rValueOf_41 (by decide) ?_
          exact ih (x3 + (-1)) H locs ls zt_3 vt_3 (by omega) (by omega) heq hW (lv_sub hl [1, 2, 3, 0] rfl)
        · rw [if_neg c_2] at heq
          refine lv_iload_n hx hb d_rValueOf_21 rfl (lv_at hl 1 rfl) ?_
          refine lv_aload_n hx hb d_rValueOf_22 rfl (lv_at hl 0 rfl) ?_
          refine va_get (D := D) (C := R_R) (T := F_R) (N := 4) hx hb hts i_R hown hW.1 hW.2.1 0 rfl rfl 1 (by decide) (hts _ w_22) (fun _ h9 => h9) rfl d_rValueOf_23 ?_
          refine lv_iload_n hx hb d_rValueOf_26 rfl (lv_at hl 3 rfl) ?_
          refine va_iald hx hb hW.1 hW.2.1 2 0 rfl rfl (i := x3) (gk_in v_x3 (by omega) (by omega)) d_rValueOf_27 ?_
          refine lv_icmp_gt (tgt := 38) hx hb d_rValueOf_28 (by decide) (fun c_4 => ?_) (fun c_4 => ?_)
          · rw [if_pos c_4] at heq
            refine lv_iinc (v := x3 + (-1)) (lv' := [(3, .int (x3 + (-1))), (0, .ref a0), (1, .int x1), (2, .int x2)]) hx hb d_rValueOf_38 hl (k := 3) rfl rfl (by decide) rfl (fun ls hl => ?_)
            obtain ⟨zt_5, vt_5, et_5⟩ := gk_add v_x3 (show gk_v (-1) (-1) from rfl) (by omega) (by omega)
            refine lv_goto (tgt := 7) hx hb d_rValueOf_41 (by decide) ?_
            exact ih (x3 + (-1)) H locs ls zt_5 vt_5 (by omega) (by omega) heq hW (lv_sub hl [1, 2, 3, 0] rfl)
          · rw [if_neg c_4] at heq
            refine lv_aload_n hx hb d_rValueOf_31 rfl (lv_at hl 0 rfl) ?_
            refine va_get (D := D) (C := R_R) (T := F_R) (N := 4) hx hb hts i_R hown hW.1 hW.2.1 0 rfl rfl 2 (by decide) (hts _ w_23) (fun _ h9 => h9) rfl d_rValueOf_32 ?_
            refine lv_iload_n hx hb d_rValueOf_35 rfl (lv_at hl 3 rfl) ?_
            refine va_iald hx hb hW.1 hW.2.1 3 0 rfl rfl (i := x3) (gk_in v_x3 (by omega) (by omega)) d_rValueOf_36 ?_
            exact X _ () H locs 0 0 37 ls heq hW d_rValueOf_37 rfl (Nat.le_of_ble_eq_true rfl) (Nat.le_of_ble_eq_true rfl)
  refine lv_aload_n hx hb d_rValueOf_0 rfl (lv_at hl 0 rfl) ?_
  refine va_get (D := D) (C := R_R) (T := F_R) (N := 4) hx hb hts i_R hown hW.1 hW.2.1 0 rfl rfl 3 (by decide) (hts _ w_16) (fun _ h9 => h9) rfl d_rValueOf_1 ?_
  refine lv_iconst (v := 1) hx hb d_rValueOf_4 (by decide) ?_
  refine lv_isub hx hb d_rValueOf_5 ?_
  obtain ⟨zt_6, vt_6, et_6⟩ := gk_sub v_mn (show gk_v 1 1 from rfl) (by omega) (by omega)
  refine lv_istore_n (lv' := [(3, .int (mn - 1)), (0, .ref a0), (1, .int x1), (2, .int x2)]) hx hb d_rValueOf_6 rfl hl (by decide) rfl (fun ls hl => ?_)
  exact L7 101 (mn - 1) H locs ls zt_6 vt_6 (by omega) (by omega) heq hW (lv_sub hl [1, 2, 3, 0] rfl)
def mm_isMarked (x1 : Int32) (fa la va : Nat → Int32) (mn : Int32) : Int32 := if (mm_rValueOf x1 0 fa la va mn) = 1 then 1 else 0
def rm_isMarked : Room := { frames := 1, cells := 0, slots := 0, locals := 23 }
set_option maxHeartbeats 4000000 in
set_option maxRecDepth 100000 in
theorem c_isMarked (l : Launch) (D : va_G) (cI : ClassId) (cL : ClassId × ClassId) (N a0 a1 a2 a3 : Nat) (fa la va : Nat → Int32) (mn x1 : Int32) (z_mn : Int) (v_mn : gk_v mn z_mn) (hN : (N : Int) ≤ 100) (hmn : 0 ≤ z_mn ∧ z_mn ≤ (N : Int)) : gk_I l y_isMarked (.code y_isMarked b_isMarked 2 (some .boolean) :: wA) rm_isMarked D vwCl (gk_T cI cL) [.ref a0, .int x1] (wd_R cI N a0 a1 a2 a3 fa la va mn) (fun (r : Int32) (_ : Unit) => r = mm_isMarked x1 fa la va mn) (fun (_ : Unit) => (wd_R cI N a0 a1 a2 a3 fa la va mn)) 0 0 := by
  refine gk_I.of (by decide) (Nat.le_of_ble_eq_true rfl) ?_
  intro p e s m below meth c A ls Q H locs hx hb hml hown hts hW hl X
  have hl : lv_has ls 2 [(0, .ref a0), (1, .int x1)] := hl
  obtain ⟨tgt, heq⟩ : ∃ t, mm_isMarked x1 fa la va mn = t := ⟨_, rfl⟩
  rw [heq] at X
  rw [mm_isMarked] at heq
  refine lv_aload_n hx hb d_isMarked_0 rfl (lv_at hl 0 rfl) ?_
  refine lv_iload_n hx hb d_isMarked_1 rfl (lv_at hl 1 rfl) ?_
  refine lv_iconst (v := 0) hx hb d_isMarked_2 (by decide) ?_
  refine gk_goR hW [0, 1, 2, 3] rfl (va_runVN (As := [.int x1, .int 0]) (rest := []) ⟨hx, hb, hml, hown, hts⟩ (c_rValueOf l D cI cL N a0 a1 a2 a3 fa la va mn x1 0 z_mn v_mn (by omega) (by omega) _) (gk_cwVN hts hW.2.2.2.2.2 w_24 w_25 w_26 w_21 k_rValueOf e_rValueOf rfl rfl ⟨Nat.le_of_ble_eq_true rfl, Nat.le_of_ble_eq_true rfl⟩) (gk_preV hW [0, 1, 2, 3] rfl rfl rfl rfl) rfl rfl hl.1 rfl (lv_room (Nat.le_of_ble_eq_true rfl)) d_isMarked_3 ⟨Nat.le_of_ble_eq_true rfl, Nat.le_of_ble_eq_true rfl⟩) (fun H locs hW => ?_)
  refine lv_iconst (v := 1) hx hb d_isMarked_6 (by decide) ?_
  refine lv_icmp_ne (tgt := 14) hx hb d_isMarked_7 (by decide) (fun c_1 => ?_) (fun c_1 => ?_)
  · rw [if_neg c_1] at heq
    refine lv_iconst (v := 0) hx hb d_isMarked_14 (by decide) ?_
    exact X _ () H locs 0 0 15 ls heq hW d_isMarked_15 rfl (Nat.le_of_ble_eq_true rfl) (Nat.le_of_ble_eq_true rfl)
  · rw [if_pos c_1] at heq
    refine lv_iconst (v := 1) hx hb d_isMarked_10 (by decide) ?_
    refine lv_goto (tgt := 15) hx hb d_isMarked_11 (by decide) ?_
    exact X _ () H locs 0 0 15 ls heq hW d_isMarked_15 rfl (Nat.le_of_ble_eq_true rfl) (Nat.le_of_ble_eq_true rfl)
end
section
def mm_bStart (b1 b2 b3 b4 b5 b6 : Int32) : Int32 × Int32 × Int32 × Int32 × Int32 × Int32 := ((-1), (-1), (-1), (-1), (-1), 0)
def rm_bStart : Room := { frames := 0, cells := 0, slots := 0, locals := 0 }
set_option maxHeartbeats 4000000 in
set_option maxRecDepth 100000 in
theorem c_bStart (l : Launch) (D : va_G) (cI : ClassId) (cL : ClassId × ClassId) (a0 : Nat) (b1 b2 b3 b4 b5 b6 : Int32) : gk_V l y_bStart (.code y_bStart b_bStart 1 none :: wA) rm_bStart D vwCl (gk_T cI cL) [.ref a0] (wd_B a0 b1 b2 b3 b4 b5 b6) (fun (u : Int32 × Int32 × Int32 × Int32 × Int32 × Int32) => u = mm_bStart b1 b2 b3 b4 b5 b6) (fun u => (wd_B a0 u.1 u.2.1 u.2.2.1 u.2.2.2.1 u.2.2.2.2.1 u.2.2.2.2.2)) 0 0 := by
  refine gk_V.of (by decide) (Nat.le_of_ble_eq_true rfl) ?_
  intro p e s m below meth c A ls Q H locs hx hb hml hown hts hin hW hl X
  have hl : lv_has ls 1 [(0, .ref a0)] := hl
  obtain ⟨tgt, heq⟩ : ∃ t, mm_bStart b1 b2 b3 b4 b5 b6 = t := ⟨_, rfl⟩
  rw [heq] at X
  rw [mm_bStart] at heq
  refine lv_aload_n hx hb d_bStart_0 rfl (lv_at hl 0 rfl) ?_
  refine lv_iconst (v := (-1)) hx hb d_bStart_1 (by decide) ?_
  refine va_put (D := D) (ci := 2) (v := .int (-1)) (ty := .int) (C := R_B) (T := F_B) (N := 6) hx hb hts i_B t_B t_B_ok n_B hown hW.1 hW.2.1 hW.2.2.1 hW.2.2.2.1 0 rfl rfl 0 (by decide) (hts _ w_27) (fun _ h9 => h9) rfl (by decide +kernel) rfl rfl (Nat.le_of_ble_eq_true rfl) d_bStart_2 (fun H locs hP hD hS => ?_)
  have hW : gk_W D vwCl (gk_T cI cL) s A H locs (wd_B a0 (-1) b2 b3 b4 b5 b6) := ⟨hW.1, hP, hD, hS, hW.2.2.2.2⟩
  refine lv_aload_n hx hb d_bStart_5 rfl (lv_at hl 0 rfl) ?_
  refine lv_iconst (v := (-1)) hx hb d_bStart_6 (by decide) ?_
  refine va_put (D := D) (ci := 2) (v := .int (-1)) (ty := .int) (C := R_B) (T := F_B) (N := 6) hx hb hts i_B t_B t_B_ok n_B hown hW.1 hW.2.1 hW.2.2.1 hW.2.2.2.1 0 rfl rfl 1 (by decide) (hts _ w_28) (fun _ h9 => h9) rfl (by decide +kernel) rfl rfl (Nat.le_of_ble_eq_true rfl) d_bStart_7 (fun H locs hP hD hS => ?_)
  have hW : gk_W D vwCl (gk_T cI cL) s A H locs (wd_B a0 (-1) (-1) b3 b4 b5 b6) := ⟨hW.1, hP, hD, hS, hW.2.2.2.2⟩
  refine lv_aload_n hx hb d_bStart_10 rfl (lv_at hl 0 rfl) ?_
  refine lv_iconst (v := (-1)) hx hb d_bStart_11 (by decide) ?_
  refine va_put (D := D) (ci := 2) (v := .int (-1)) (ty := .int) (C := R_B) (T := F_B) (N := 6) hx hb hts i_B t_B t_B_ok n_B hown hW.1 hW.2.1 hW.2.2.1 hW.2.2.2.1 0 rfl rfl 2 (by decide) (hts _ w_29) (fun _ h9 => h9) rfl (by decide +kernel) rfl rfl (Nat.le_of_ble_eq_true rfl) d_bStart_12 (fun H locs hP hD hS => ?_)
  have hW : gk_W D vwCl (gk_T cI cL) s A H locs (wd_B a0 (-1) (-1) (-1) b4 b5 b6) := ⟨hW.1, hP, hD, hS, hW.2.2.2.2⟩
  refine lv_aload_n hx hb d_bStart_15 rfl (lv_at hl 0 rfl) ?_
  refine lv_iconst (v := (-1)) hx hb d_bStart_16 (by decide) ?_
  refine va_put (D := D) (ci := 2) (v := .int (-1)) (ty := .int) (C := R_B) (T := F_B) (N := 6) hx hb hts i_B t_B t_B_ok n_B hown hW.1 hW.2.1 hW.2.2.1 hW.2.2.2.1 0 rfl rfl 3 (by decide) (hts _ w_30) (fun _ h9 => h9) rfl (by decide +kernel) rfl rfl (Nat.le_of_ble_eq_true rfl) d_bStart_17 (fun H locs hP hD hS => ?_)
  have hW : gk_W D vwCl (gk_T cI cL) s A H locs (wd_B a0 (-1) (-1) (-1) (-1) b5 b6) := ⟨hW.1, hP, hD, hS, hW.2.2.2.2⟩
  refine lv_aload_n hx hb d_bStart_20 rfl (lv_at hl 0 rfl) ?_
  refine lv_iconst (v := (-1)) hx hb d_bStart_21 (by decide) ?_
  refine va_put (D := D) (ci := 2) (v := .int (-1)) (ty := .int) (C := R_B) (T := F_B) (N := 6) hx hb hts i_B t_B t_B_ok n_B hown hW.1 hW.2.1 hW.2.2.1 hW.2.2.2.1 0 rfl rfl 4 (by decide) (hts _ w_31) (fun _ h9 => h9) rfl (by decide +kernel) rfl rfl (Nat.le_of_ble_eq_true rfl) d_bStart_22 (fun H locs hP hD hS => ?_)
  have hW : gk_W D vwCl (gk_T cI cL) s A H locs (wd_B a0 (-1) (-1) (-1) (-1) (-1) b6) := ⟨hW.1, hP, hD, hS, hW.2.2.2.2⟩
  refine lv_aload_n hx hb d_bStart_25 rfl (lv_at hl 0 rfl) ?_
  refine lv_iconst (v := 0) hx hb d_bStart_26 (by decide) ?_
  refine va_put (D := D) (ci := 2) (v := .int 0) (ty := .boolean) (C := R_B) (T := F_B) (N := 6) hx hb hts i_B t_B t_B_ok n_B hown hW.1 hW.2.1 hW.2.2.1 hW.2.2.2.1 0 rfl rfl 5 (by decide) (hts _ w_32) (fun _ h9 => h9) rfl (by decide +kernel) rfl rfl (Nat.le_of_ble_eq_true rfl) d_bStart_27 (fun H locs hP hD hS => ?_)
  have hW : gk_W D vwCl (gk_T cI cL) s A H locs (wd_B a0 (-1) (-1) (-1) (-1) (-1) 0) := ⟨hW.1, hP, hD, hS, hW.2.2.2.2⟩
  exact X ((-1), (-1), (-1), (-1), (-1), 0) H locs 0 0 30 ls heq hW d_bStart_30 (Nat.le_of_ble_eq_true rfl) (Nat.le_of_ble_eq_true rfl)
def mm_bLeavesout (x1 b1 : Int32) : Int32 := if (mm_isIn x1 384) = 0 then 0 else (if b1 = (-1) then 0 else (if (mm_isIn b1 63) = 0 then 1 else 0))
def rm_bLeavesout : Room := { frames := 1, cells := 0, slots := 0, locals := 22 }
set_option maxHeartbeats 4000000 in
set_option maxRecDepth 100000 in
theorem c_bLeavesout (l : Launch) (D : va_G) (cI : ClassId) (cL : ClassId × ClassId) (a0 : Nat) (b1 b2 b3 b4 b5 b6 x1 : Int32) : gk_I l y_bLeavesout (.code y_bLeavesout b_bLeavesout 2 (some .boolean) :: wA) rm_bLeavesout D vwCl (gk_T cI cL) [.ref a0, .int x1] (wd_B a0 b1 b2 b3 b4 b5 b6) (fun (r : Int32) (_ : Unit) => r = mm_bLeavesout x1 b1) (fun (_ : Unit) => (wd_B a0 b1 b2 b3 b4 b5 b6)) 0 0 := by
  refine gk_I.of (by decide) (Nat.le_of_ble_eq_true rfl) ?_
  intro p e s m below meth c A ls Q H locs hx hb hml hown hts hW hl X
  have hl : lv_has ls 2 [(0, .ref a0), (1, .int x1)] := hl
  obtain ⟨tgt, heq⟩ : ∃ t, mm_bLeavesout x1 b1 = t := ⟨_, rfl⟩
  rw [heq] at X
  rw [mm_bLeavesout] at heq
  refine lv_iload_n hx hb d_bLeavesout_0 rfl (lv_at hl 1 rfl) ?_
  refine lv_ldc2 (v := 384) hx hb hown (hts _ w_33) d_bLeavesout_1 ?_
  refine gk_goR hW [] rfl (va_runSN (As := [.int x1, .long 384]) (rest := []) ⟨hx, hb, hml, hown, hts⟩ (c_isIn l D cI cL x1 384 _) (gk_cwSN hts hW.2.2.2.2.2 w_34 w_6 w_3 k_isIn e_isIn rfl rfl ⟨Nat.le_of_ble_eq_true rfl, Nat.le_of_ble_eq_true rfl⟩) (gk_pre hW [] rfl rfl) rfl rfl hl.1 rfl (lv_room (Nat.le_of_ble_eq_true rfl)) d_bLeavesout_4 ⟨Nat.le_of_ble_eq_true rfl, Nat.le_of_ble_eq_true rfl⟩) (fun H locs hW => ?_)
  refine lv_if_eq (tgt := 35) hx hb d_bLeavesout_7 (by decide) (fun c_1 => ?_) (fun c_1 => ?_)
  · rw [if_pos c_1] at heq
    refine lv_iconst (v := 0) hx hb d_bLeavesout_35 (by decide) ?_
    exact X _ () H locs 0 0 36 ls heq hW d_bLeavesout_36 rfl (Nat.le_of_ble_eq_true rfl) (Nat.le_of_ble_eq_true rfl)
  · rw [if_neg c_1] at heq
    refine lv_aload_n hx hb d_bLeavesout_10 rfl (lv_at hl 0 rfl) ?_
    refine va_get (D := D) (C := R_B) (T := F_B) (N := 6) hx hb hts i_B hown hW.1 hW.2.1 0 rfl rfl 0 (by decide) (hts _ w_27) (fun _ h9 => h9) rfl d_bLeavesout_11 ?_
    refine lv_iconst (v := (-1)) hx hb d_bLeavesout_14 (by decide) ?_
    refine lv_icmp_eq (tgt := 35) hx hb d_bLeavesout_15 (by decide) (fun c_2 => ?_) (fun c_2 => ?_)
    · rw [if_pos c_2] at heq
      refine lv_iconst (v := 0) hx hb d_bLeavesout_35 (by decide) ?_
      exact X _ () H locs 0 0 36 ls heq hW d_bLeavesout_36 rfl (Nat.le_of_ble_eq_true rfl) (Nat.le_of_ble_eq_true rfl)
    · rw [if_neg c_2] at heq
      refine lv_aload_n hx hb d_bLeavesout_18 rfl (lv_at hl 0 rfl) ?_
      refine va_get (D := D) (C := R_B) (T := F_B) (N := 6) hx hb hts i_B hown hW.1 hW.2.1 0 rfl rfl 0 (by decide) (hts _ w_27) (fun _ h9 => h9) rfl d_bLeavesout_19 ?_
      refine lv_ldc2 (v := 63) hx hb hown (hts _ w_35) d_bLeavesout_22 ?_
      refine gk_goR hW [] rfl (va_runSN (As := [.int b1, .long 63]) (rest := []) ⟨hx, hb, hml, hown, hts⟩ (c_isIn l D cI cL b1 63 _) (gk_cwSN hts hW.2.2.2.2.2 w_34 w_6 w_3 k_isIn e_isIn rfl rfl ⟨Nat.le_of_ble_eq_true rfl, Nat.le_of_ble_eq_true rfl⟩) (gk_pre hW [] rfl rfl) rfl rfl hl.1 rfl (lv_room (Nat.le_of_ble_eq_true rfl)) d_bLeavesout_25 ⟨Nat.le_of_ble_eq_true rfl, Nat.le_of_ble_eq_true rfl⟩) (fun H locs hW => ?_)
      refine lv_if_ne (tgt := 35) hx hb d_bLeavesout_28 (by decide) (fun c_3 => ?_) (fun c_3 => ?_)
      · rw [if_neg c_3] at heq
        refine lv_iconst (v := 0) hx hb d_bLeavesout_35 (by decide) ?_
        exact X _ () H locs 0 0 36 ls heq hW d_bLeavesout_36 rfl (Nat.le_of_ble_eq_true rfl) (Nat.le_of_ble_eq_true rfl)
      · rw [if_pos c_3] at heq
        refine lv_iconst (v := 1) hx hb d_bLeavesout_31 (by decide) ?_
        refine lv_goto (tgt := 36) hx hb d_bLeavesout_32 (by decide) ?_
        exact X _ () H locs 0 0 36 ls heq hW d_bLeavesout_36 rfl (Nat.le_of_ble_eq_true rfl) (Nat.le_of_ble_eq_true rfl)
def mm_bPass_53 (x1 x2 x3 b1 b2 b3 b4 b5 b6 : Int32) : Int32 × Int32 × Int32 × Int32 × Int32 × Int32 := if b2 = 37 then (if b6 = 0 then (b1, b2, b3, b4, b5, 1) else (b1, b2, b3, b4, b5, 0)) else (b1, b2, b3, b4, b5, 0)
def mm_bPass (x1 x2 b1 b2 b3 b4 b5 b6 : Int32) : Int32 × Int32 × Int32 × Int32 × Int32 × Int32 := if (mm_bLeavesout x1 b1) = 0 then (if (mm_standsFor x1) = 4 then (mm_bPass_53 x1 x2 (mm_bLeavesout x1 b1) x1 (mm_standsFor x1) x2 b2 b5 b6) else (mm_bPass_53 x1 x2 (mm_bLeavesout x1 b1) x1 (mm_standsFor x1) x2 b2 (mm_standsFor x1) b6)) else (x1, b2, b3, b4, b5, b6)
def rm_bPass : Room := { frames := 2, cells := 0, slots := 0, locals := 43 }
set_option maxHeartbeats 4000000 in
set_option maxRecDepth 100000 in
theorem c_bPass (l : Launch) (D : va_G) (cI : ClassId) (cL : ClassId × ClassId) (a0 : Nat) (b1 b2 b3 b4 b5 b6 x1 x2 : Int32) : gk_V l y_bPass (.code y_bPass b_bPass 4 none :: wA) rm_bPass D vwCl (gk_T cI cL) [.ref a0, .int x1, .int x2] (wd_B a0 b1 b2 b3 b4 b5 b6) (fun (u : Int32 × Int32 × Int32 × Int32 × Int32 × Int32) => u = mm_bPass x1 x2 b1 b2 b3 b4 b5 b6) (fun u => (wd_B a0 u.1 u.2.1 u.2.2.1 u.2.2.2.1 u.2.2.2.2.1 u.2.2.2.2.2)) 0 0 := by
  refine gk_V.of (by decide) (Nat.le_of_ble_eq_true rfl) ?_
  intro p e s m below meth c A ls Q H locs hx hb hml hown hts hin hW hl X
  have hl : lv_has ls 4 [(0, .ref a0), (1, .int x1), (2, .int x2)] := hl
  obtain ⟨tgt, heq⟩ : ∃ t, mm_bPass x1 x2 b1 b2 b3 b4 b5 b6 = t := ⟨_, rfl⟩
  rw [heq] at X
  rw [mm_bPass] at heq
  have K53 : ∀ (x3 b1 b2 b3 b4 b5 b6 : Int32) (H : Heap) (locs : List Loc) (ls : Array Slot), mm_bPass_53 x1 x2 x3 b1 b2 b3 b4 b5 b6 = tgt → gk_W D vwCl (gk_T cI cL) s A H locs (wd_B a0 b1 b2 b3 b4 b5 b6) → lv_has ls 4 [(0, .ref a0), (1, .int x1), (2, .int x2), (3, .int x3)] → W p l e rm_bPass s m [.ref a0, .int x1, .int x2].toArray below meth c H locs 0 0 Q (F0 m 53 ls []) := by
    intro x3 b1 b2 b3 b4 b5 b6 H locs ls heq hW hl
    rw [mm_bPass_53] at heq
    refine lv_aload_n hx hb d_bPass_53 rfl (lv_at hl 0 rfl) ?_
    refine lv_aload_n hx hb d_bPass_54 rfl (lv_at hl 0 rfl) ?_
    refine va_get (D := D) (C := R_B) (T := F_B) (N := 6) hx hb hts i_B hown hW.1 hW.2.1 0 rfl rfl 1 (by decide) (hts _ w_28) (fun _ h9 => h9) rfl d_bPass_55 ?_
    refine lv_bipush (v := 37) hx hb d_bPass_58 (by decide) ?_
    refine lv_icmp_ne (tgt := 74) hx hb d_bPass_60 (by decide) (fun c_1 => ?_) (fun c_1 => ?_)
    · rw [if_neg c_1] at heq
      refine lv_iconst (v := 0) hx hb d_bPass_74 (by decide) ?_
      refine va_put (D := D) (ci := 2) (v := .int 0) (ty := .boolean) (C := R_B) (T := F_B) (N := 6) hx hb hts i_B t_B t_B_ok n_B hown hW.1 hW.2.1 hW.2.2.1 hW.2.2.2.1 0 rfl rfl 5 (by decide) (hts _ w_32) (fun _ h9 => h9) rfl (by decide +kernel) rfl rfl (Nat.le_of_ble_eq_true rfl) d_bPass_75 (fun H locs hP hD hS => ?_)
      have hW : gk_W D vwCl (gk_T cI cL) s A H locs (wd_B a0 b1 b2 b3 b4 b5 0) := ⟨hW.1, hP, hD, hS, hW.2.2.2.2⟩
      exact X (b1, b2, b3, b4, b5, 0) H locs 0 0 78 ls heq hW d_bPass_78 (Nat.le_of_ble_eq_true rfl) (Nat.le_of_ble_eq_true rfl)
    · rw [if_pos c_1] at heq
      refine lv_aload_n hx hb d_bPass_63 rfl (lv_at hl 0 rfl) ?_
      refine va_get (D := D) (C := R_B) (T := F_B) (N := 6) hx hb hts i_B hown hW.1 hW.2.1 0 rfl rfl 5 (by decide) (hts _ w_32) (fun _ h9 => h9) rfl d_bPass_64 ?_
      refine lv_if_ne (tgt := 74) hx hb d_bPass_67 (by decide) (fun c_2 => ?_) (fun c_2 => ?_)
      · rw [if_neg c_2] at heq
        refine lv_iconst (v := 0) hx hb d_bPass_74 (by decide) ?_
        refine va_put (D := D) (ci := 2) (v := .int 0) (ty := .boolean) (C := R_B) (T := F_B) (N := 6) hx hb hts i_B t_B t_B_ok n_B hown hW.1 hW.2.1 hW.2.2.1 hW.2.2.2.1 0 rfl rfl 5 (by decide) (hts _ w_32) (fun _ h9 => h9) rfl (by decide +kernel) rfl rfl (Nat.le_of_ble_eq_true rfl) d_bPass_75 (fun H locs hP hD hS => ?_)
        have hW : gk_W D vwCl (gk_T cI cL) s A H locs (wd_B a0 b1 b2 b3 b4 b5 0) := ⟨hW.1, hP, hD, hS, hW.2.2.2.2⟩
        exact X (b1, b2, b3, b4, b5, 0) H locs 0 0 78 ls heq hW d_bPass_78 (Nat.le_of_ble_eq_true rfl) (Nat.le_of_ble_eq_true rfl)
      · rw [if_pos c_2] at heq
        refine lv_iconst (v := 1) hx hb d_bPass_70 (by decide) ?_
        refine lv_goto (tgt := 75) hx hb d_bPass_71 (by decide) ?_
        refine va_put (D := D) (ci := 2) (v := .int 1) (ty := .boolean) (C := R_B) (T := F_B) (N := 6) hx hb hts i_B t_B t_B_ok n_B hown hW.1 hW.2.1 hW.2.2.1 hW.2.2.2.1 0 rfl rfl 5 (by decide) (hts _ w_32) (fun _ h9 => h9) rfl (by decide +kernel) rfl rfl (Nat.le_of_ble_eq_true rfl) d_bPass_75 (fun H locs hP hD hS => ?_)
        have hW : gk_W D vwCl (gk_T cI cL) s A H locs (wd_B a0 b1 b2 b3 b4 b5 1) := ⟨hW.1, hP, hD, hS, hW.2.2.2.2⟩
        exact X (b1, b2, b3, b4, b5, 1) H locs 0 0 78 ls heq hW d_bPass_78 (Nat.le_of_ble_eq_true rfl) (Nat.le_of_ble_eq_true rfl)
  refine lv_aload_n hx hb d_bPass_0 rfl (lv_at hl 0 rfl) ?_
  refine lv_iload_n hx hb d_bPass_1 rfl (lv_at hl 1 rfl) ?_
  refine gk_goR hW [0] rfl (va_runV (As := [.int x1]) (rest := []) ⟨hx, hb, hml, hown, hts⟩ (c_bLeavesout l D cI cL a0 b1 b2 b3 b4 b5 b6 x1 _) (gk_cwV hts w_36 w_37 w_38 w_39 k_bLeavesout rfl e_bLeavesout rfl rfl ⟨Nat.le_of_ble_eq_true rfl, Nat.le_of_ble_eq_true rfl⟩) (gk_preV hW [0] rfl rfl rfl rfl) rfl rfl hl.1 rfl (lv_room (Nat.le_of_ble_eq_true rfl)) d_bPass_2 ⟨Nat.le_of_ble_eq_true rfl, Nat.le_of_ble_eq_true rfl⟩) (fun H locs hW => ?_)
  refine lv_istore_n (lv' := [(3, .int (mm_bLeavesout x1 b1)), (0, .ref a0), (1, .int x1), (2, .int x2)]) hx hb d_bPass_5 rfl hl (by decide) rfl (fun ls hl => ?_)
  refine lv_aload_n hx hb d_bPass_6 rfl (lv_at hl 1 rfl) ?_
  refine lv_iload_n hx hb d_bPass_7 rfl (lv_at hl 2 rfl) ?_
  refine va_put (D := D) (ci := 2) (v := .int x1) (ty := .int) (C := R_B) (T := F_B) (N := 6) hx hb hts i_B t_B t_B_ok n_B hown hW.1 hW.2.1 hW.2.2.1 hW.2.2.2.1 0 rfl rfl 0 (by decide) (hts _ w_27) (fun _ h9 => h9) rfl (by decide +kernel) rfl rfl (Nat.le_of_ble_eq_true rfl) d_bPass_8 (fun H locs hP hD hS => ?_)
  have hW : gk_W D vwCl (gk_T cI cL) s A H locs (wd_B a0 x1 b2 b3 b4 b5 b6) := ⟨hW.1, hP, hD, hS, hW.2.2.2.2⟩
  refine lv_iload_n hx hb d_bPass_11 rfl (lv_at hl 0 rfl) ?_
  refine lv_if_eq (tgt := 16) hx hb d_bPass_12 (by decide) (fun c_3 => ?_) (fun c_3 => ?_)
  · rw [if_pos c_3] at heq
    refine lv_aload_n hx hb d_bPass_16 rfl (lv_at hl 1 rfl) ?_
    refine lv_aload_n hx hb d_bPass_17 rfl (lv_at hl 1 rfl) ?_
    refine va_get (D := D) (C := R_B) (T := F_B) (N := 6) hx hb hts i_B hown hW.1 hW.2.1 0 rfl rfl 1 (by decide) (hts _ w_28) (fun _ h9 => h9) rfl d_bPass_18 ?_
    refine va_put (D := D) (ci := 2) (v := .int b2) (ty := .int) (C := R_B) (T := F_B) (N := 6) hx hb hts i_B t_B t_B_ok n_B hown hW.1 hW.2.1 hW.2.2.1 hW.2.2.2.1 0 rfl rfl 3 (by decide) (hts _ w_30) (fun _ h9 => h9) rfl (by decide +kernel) rfl rfl (Nat.le_of_ble_eq_true rfl) d_bPass_21 (fun H locs hP hD hS => ?_)
    have hW : gk_W D vwCl (gk_T cI cL) s A H locs (wd_B a0 x1 b2 b3 b2 b5 b6) := ⟨hW.1, hP, hD, hS, hW.2.2.2.2⟩
    refine lv_aload_n hx hb d_bPass_24 rfl (lv_at hl 1 rfl) ?_
    refine lv_iload_n hx hb d_bPass_25 rfl (lv_at hl 2 rfl) ?_
    refine gk_goR hW [] rfl (va_runSN (As := [.int x1]) (rest := [.ref a0]) ⟨hx, hb, hml, hown, hts⟩ (c_standsFor l D cI cL x1 _) (gk_cwSN hts hW.2.2.2.2.2 w_40 w_41 w_3 k_standsFor e_standsFor rfl rfl ⟨Nat.le_of_ble_eq_true rfl, Nat.le_of_ble_eq_true rfl⟩) (gk_pre hW [] rfl rfl) rfl rfl hl.1 rfl (lv_room (Nat.le_of_ble_eq_true rfl)) d_bPass_26 ⟨Nat.le_of_ble_eq_true rfl, Nat.le_of_ble_eq_true rfl⟩) (fun H locs hW => ?_)
    refine va_put (D := D) (ci := 2) (v := .int (mm_standsFor x1)) (ty := .int) (C := R_B) (T := F_B) (N := 6) hx hb hts i_B t_B t_B_ok n_B hown hW.1 hW.2.1 hW.2.2.1 hW.2.2.2.1 0 rfl rfl 1 (by decide) (hts _ w_28) (fun _ h9 => h9) rfl (by decide +kernel) rfl rfl (Nat.le_of_ble_eq_true rfl) d_bPass_29 (fun H locs hP hD hS => ?_)
    have hW : gk_W D vwCl (gk_T cI cL) s A H locs (wd_B a0 x1 (mm_standsFor x1) b3 b2 b5 b6) := ⟨hW.1, hP, hD, hS, hW.2.2.2.2⟩
    refine lv_aload_n hx hb d_bPass_32 rfl (lv_at hl 1 rfl) ?_
    refine lv_iload_n hx hb d_bPass_33 rfl (lv_at hl 3 rfl) ?_
    refine va_put (D := D) (ci := 2) (v := .int x2) (ty := .int) (C := R_B) (T := F_B) (N := 6) hx hb hts i_B t_B t_B_ok n_B hown hW.1 hW.2.1 hW.2.2.1 hW.2.2.2.1 0 rfl rfl 2 (by decide) (hts _ w_29) (fun _ h9 => h9) rfl (by decide +kernel) rfl rfl (Nat.le_of_ble_eq_true rfl) d_bPass_34 (fun H locs hP hD hS => ?_)
    have hW : gk_W D vwCl (gk_T cI cL) s A H locs (wd_B a0 x1 (mm_standsFor x1) x2 b2 b5 b6) := ⟨hW.1, hP, hD, hS, hW.2.2.2.2⟩
    refine lv_aload_n hx hb d_bPass_37 rfl (lv_at hl 1 rfl) ?_
    refine va_get (D := D) (C := R_B) (T := F_B) (N := 6) hx hb hts i_B hown hW.1 hW.2.1 0 rfl rfl 1 (by decide) (hts _ w_28) (fun _ h9 => h9) rfl d_bPass_38 ?_
    refine lv_iconst (v := 4) hx hb d_bPass_41 (by decide) ?_
    refine lv_icmp_eq (tgt := 53) hx hb d_bPass_42 (by decide) (fun c_4 => ?_) (fun c_4 => ?_)
    · rw [if_pos c_4] at heq
      exact K53 (mm_bLeavesout x1 b1) x1 (mm_standsFor x1) x2 b2 b5 b6 H locs ls heq hW (lv_sub hl [1, 2, 3, 0] rfl)
    · rw [if_neg c_4] at heq
      refine lv_aload_n hx hb d_bPass_45 rfl (lv_at hl 1 rfl) ?_
      refine lv_aload_n hx hb d_bPass_46 rfl (lv_at hl 1 rfl) ?_
      refine va_get (D := D) (C := R_B) (T := F_B) (N := 6) hx hb hts i_B hown hW.1 hW.2.1 0 rfl rfl 1 (by decide) (hts _ w_28) (fun _ h9 => h9) rfl d_bPass_47 ?_
      refine va_put (D := D) (ci := 2) (v := .int (mm_standsFor x1)) (ty := .int) (C := R_B) (T := F_B) (N := 6) hx hb hts i_B t_B t_B_ok n_B hown hW.1 hW.2.1 hW.2.2.1 hW.2.2.2.1 0 rfl rfl 4 (by decide) (hts _ w_31) (fun _ h9 => h9) rfl (by decide +kernel) rfl rfl (Nat.le_of_ble_eq_true rfl) d_bPass_50 (fun H locs hP hD hS => ?_)
      have hW : gk_W D vwCl (gk_T cI cL) s A H locs (wd_B a0 x1 (mm_standsFor x1) x2 b2 (mm_standsFor x1) b6) := ⟨hW.1, hP, hD, hS, hW.2.2.2.2⟩
      exact K53 (mm_bLeavesout x1 b1) x1 (mm_standsFor x1) x2 b2 (mm_standsFor x1) b6 H locs ls heq hW (lv_sub hl [1, 2, 3, 0] rfl)
  · rw [if_neg c_3] at heq
    exact X (x1, b2, b3, b4, b5, b6) H locs 0 0 15 ls heq hW d_bPass_15 (Nat.le_of_ble_eq_true rfl) (Nat.le_of_ble_eq_true rfl)
end
section
def mm_isPosition (x1 ln : Int32) : Int32 := if x1 < 0 then 0 else (if ln ≤ x1 then 0 else 1)
def rm_isPosition : Room := { frames := 0, cells := 0, slots := 0, locals := 0 }
set_option maxHeartbeats 4000000 in
set_option maxRecDepth 100000 in
theorem c_isPosition (l : Launch) (D : va_G) (cI : ClassId) (cL : ClassId × ClassId) (h : Nat → Nat) (tx cs rl gv fa1 la1 va1 : Nat → Int32) (mn1 : Int32) (fa2 la2 va2 : Nat → Int32) (mn2 : Int32) (fa3 la3 va3 : Nat → Int32) (mn3 b1 b2 b3 b4 b5 b6 ln lo kn x1 : Int32) : gk_I l y_isPosition (.code y_isPosition b_isPosition 2 (some .boolean) :: wA) rm_isPosition D vwCl (gk_T cI cL) [.ref (h 0), .int x1] (wd_P cI h tx cs rl gv fa1 la1 va1 mn1 fa2 la2 va2 mn2 fa3 la3 va3 mn3 b1 b2 b3 b4 b5 b6 ln lo kn) (fun (r : Int32) (_ : Unit) => r = mm_isPosition x1 ln) (fun (_ : Unit) => (wd_P cI h tx cs rl gv fa1 la1 va1 mn1 fa2 la2 va2 mn2 fa3 la3 va3 mn3 b1 b2 b3 b4 b5 b6 ln lo kn)) 0 0 := by
  refine gk_I.of (by decide) (Nat.le_of_ble_eq_true rfl) ?_
  intro p e s m below meth c A ls Q H locs hx hb hml hown hts hW hl X
  have hl : lv_has ls 2 [(0, .ref (h 0)), (1, .int x1)] := hl
  obtain ⟨tgt, heq⟩ : ∃ t, mm_isPosition x1 ln = t := ⟨_, rfl⟩
  rw [heq] at X
  rw [mm_isPosition] at heq
  refine lv_iload_n hx hb d_isPosition_0 rfl (lv_at hl 1 rfl) ?_
  refine lv_if_lt (tgt := 16) hx hb d_isPosition_1 (by decide) (fun c_1 => ?_) (fun c_1 => ?_)
  · rw [if_pos c_1] at heq
    refine lv_iconst (v := 0) hx hb d_isPosition_16 (by decide) ?_
    exact X _ () H locs 0 0 17 ls heq hW d_isPosition_17 rfl (Nat.le_of_ble_eq_true rfl) (Nat.le_of_ble_eq_true rfl)
  · rw [if_neg c_1] at heq
    refine lv_iload_n hx hb d_isPosition_4 rfl (lv_at hl 1 rfl) ?_
    refine lv_aload_n hx hb d_isPosition_5 rfl (lv_at hl 0 rfl) ?_
    refine va_get (D := D) (C := R_P) (T := F_P) (N := 11) hx hb hts i_P hown hW.1 hW.2.1 0 rfl rfl 8 (by decide) (hts _ w_42) (fun _ h9 => h9) rfl d_isPosition_6 ?_
    refine lv_icmp_ge (tgt := 16) hx hb d_isPosition_9 (by decide) (fun c_2 => ?_) (fun c_2 => ?_)
    · rw [if_pos c_2] at heq
      refine lv_iconst (v := 0) hx hb d_isPosition_16 (by decide) ?_
      exact X _ () H locs 0 0 17 ls heq hW d_isPosition_17 rfl (Nat.le_of_ble_eq_true rfl) (Nat.le_of_ble_eq_true rfl)
    · rw [if_neg c_2] at heq
      refine lv_iconst (v := 1) hx hb d_isPosition_12 (by decide) ?_
      refine lv_goto (tgt := 17) hx hb d_isPosition_13 (by decide) ?_
      exact X _ () H locs 0 0 17 ls heq hW d_isPosition_17 rfl (Nat.le_of_ble_eq_true rfl) (Nat.le_of_ble_eq_true rfl)
def mm_isPlace (x1 ln : Int32) : Int32 := if x1 < 0 then 0 else (if ln < x1 then 0 else 1)
def rm_isPlace : Room := { frames := 0, cells := 0, slots := 0, locals := 0 }
set_option maxHeartbeats 4000000 in
set_option maxRecDepth 100000 in
theorem c_isPlace (l : Launch) (D : va_G) (cI : ClassId) (cL : ClassId × ClassId) (h : Nat → Nat) (tx cs rl gv fa1 la1 va1 : Nat → Int32) (mn1 : Int32) (fa2 la2 va2 : Nat → Int32) (mn2 : Int32) (fa3 la3 va3 : Nat → Int32) (mn3 b1 b2 b3 b4 b5 b6 ln lo kn x1 : Int32) : gk_I l y_isPlace (.code y_isPlace b_isPlace 2 (some .boolean) :: wA) rm_isPlace D vwCl (gk_T cI cL) [.ref (h 0), .int x1] (wd_P cI h tx cs rl gv fa1 la1 va1 mn1 fa2 la2 va2 mn2 fa3 la3 va3 mn3 b1 b2 b3 b4 b5 b6 ln lo kn) (fun (r : Int32) (_ : Unit) => r = mm_isPlace x1 ln) (fun (_ : Unit) => (wd_P cI h tx cs rl gv fa1 la1 va1 mn1 fa2 la2 va2 mn2 fa3 la3 va3 mn3 b1 b2 b3 b4 b5 b6 ln lo kn)) 0 0 := by
  refine gk_I.of (by decide) (Nat.le_of_ble_eq_true rfl) ?_
  intro p e s m below meth c A ls Q H locs hx hb hml hown hts hW hl X
  have hl : lv_has ls 2 [(0, .ref (h 0)), (1, .int x1)] := hl
  obtain ⟨tgt, heq⟩ : ∃ t, mm_isPlace x1 ln = t := ⟨_, rfl⟩
  rw [heq] at X
  rw [mm_isPlace] at heq
  refine lv_iload_n hx hb d_isPlace_0 rfl (lv_at hl 1 rfl) ?_
  refine lv_if_lt (tgt := 16) hx hb d_isPlace_1 (by decide) (fun c_1 => ?_) (fun c_1 => ?_)
  · rw [if_pos c_1] at heq
    refine lv_iconst (v := 0) hx hb d_isPlace_16 (by decide) ?_
    exact X _ () H locs 0 0 17 ls heq hW d_isPlace_17 rfl (Nat.le_of_ble_eq_true rfl) (Nat.le_of_ble_eq_true rfl)
  · rw [if_neg c_1] at heq
    refine lv_iload_n hx hb d_isPlace_4 rfl (lv_at hl 1 rfl) ?_
    refine lv_aload_n hx hb d_isPlace_5 rfl (lv_at hl 0 rfl) ?_
    refine va_get (D := D) (C := R_P) (T := F_P) (N := 11) hx hb hts i_P hown hW.1 hW.2.1 0 rfl rfl 8 (by decide) (hts _ w_42) (fun _ h9 => h9) rfl d_isPlace_6 ?_
    refine lv_icmp_gt (tgt := 16) hx hb d_isPlace_9 (by decide) (fun c_2 => ?_) (fun c_2 => ?_)
    · rw [if_pos c_2] at heq
      refine lv_iconst (v := 0) hx hb d_isPlace_16 (by decide) ?_
      exact X _ () H locs 0 0 17 ls heq hW d_isPlace_17 rfl (Nat.le_of_ble_eq_true rfl) (Nat.le_of_ble_eq_true rfl)
    · rw [if_neg c_2] at heq
      refine lv_iconst (v := 1) hx hb d_isPlace_12 (by decide) ?_
      refine lv_goto (tgt := 17) hx hb d_isPlace_13 (by decide) ?_
      exact X _ () H locs 0 0 17 ls heq hW d_isPlace_17 rfl (Nat.le_of_ble_eq_true rfl) (Nat.le_of_ble_eq_true rfl)
def mm_forgetRules (b1 b2 b3 b4 b5 b6 kn : Int32) : Int32 × Int32 × Int32 × Int32 × Int32 × Int32 × Int32 := match (mm_bStart b1 b2 b3 b4 b5 b6) with | (u_1, u_2, u_3, u_4, u_5, u_6) => (u_1, u_2, u_3, u_4, u_5, u_6, 0)
def rm_forgetRules : Room := { frames := 1, cells := 0, slots := 0, locals := 20 }
set_option maxHeartbeats 4000000 in
set_option maxRecDepth 100000 in
theorem c_forgetRules (l : Launch) (D : va_G) (cI : ClassId) (cL : ClassId × ClassId) (h : Nat → Nat) (tx cs rl gv fa1 la1 va1 : Nat → Int32) (mn1 : Int32) (fa2 la2 va2 : Nat → Int32) (mn2 : Int32) (fa3 la3 va3 : Nat → Int32) (mn3 b1 b2 b3 b4 b5 b6 ln lo kn : Int32) : gk_V l y_forgetRules (.code y_forgetRules b_forgetRules 1 none :: wA) rm_forgetRules D vwCl (gk_T cI cL) [.ref (h 0)] (wd_P cI h tx cs rl gv fa1 la1 va1 mn1 fa2 la2 va2 mn2 fa3 la3 va3 mn3 b1 b2 b3 b4 b5 b6 ln lo kn) (fun (u : Int32 × Int32 × Int32 × Int32 × Int32 × Int32 × Int32) => u = mm_forgetRules b1 b2 b3 b4 b5 b6 kn) (fun u => (wd_P cI h tx cs rl gv fa1 la1 va1 mn1 fa2 la2 va2 mn2 fa3 la3 va3 mn3 u.1 u.2.1 u.2.2.1 u.2.2.2.1 u.2.2.2.2.1 u.2.2.2.2.2.1 ln lo u.2.2.2.2.2.2)) 0 0 := by
  refine gk_V.of (by decide) (Nat.le_of_ble_eq_true rfl) ?_
  intro p e s m below meth c A ls Q H locs hx hb hml hown hts hin hW hl X
  have hl : lv_has ls 1 [(0, .ref (h 0))] := hl
  obtain ⟨tgt, heq⟩ : ∃ t, mm_forgetRules b1 b2 b3 b4 b5 b6 kn = t := ⟨_, rfl⟩
  rw [heq] at X
  rw [mm_forgetRules] at heq
  refine lv_aload_n hx hb d_forgetRules_0 rfl (lv_at hl 0 rfl) ?_
  refine lv_iconst (v := 0) hx hb d_forgetRules_1 (by decide) ?_
  refine va_put (D := D) (ci := 0) (v := .int 0) (ty := .int) (C := R_P) (T := F_P) (N := 11) hx hb hts i_P t_P t_P_ok n_P hown hW.1 hW.2.1 hW.2.2.1 hW.2.2.2.1 0 rfl rfl 10 (by decide) (hts _ w_43) (fun _ h9 => h9) rfl (by decide +kernel) rfl rfl (Nat.le_of_ble_eq_true rfl) d_forgetRules_2 (fun H locs hP hD hS => ?_)
  have hW : gk_W D vwCl (gk_T cI cL) s A H locs (wd_P cI h tx cs rl gv fa1 la1 va1 mn1 fa2 la2 va2 mn2 fa3 la3 va3 mn3 b1 b2 b3 b4 b5 b6 ln lo 0) := ⟨hW.1, hP, hD, hS, hW.2.2.2.2⟩
  refine lv_aload_n hx hb d_forgetRules_5 rfl (lv_at hl 0 rfl) ?_
  refine va_get (D := D) (C := R_P) (T := F_P) (N := 11) hx hb hts i_P hown hW.1 hW.2.1 0 rfl rfl 7 (by decide) (hts _ w_44) (fun _ h9 => h9) rfl d_forgetRules_6 ?_
  refine gk_goV (wr := [((h 0), .inr (0, [.ref (h 1), .ref (h 2), .ref (h 3), .ref (h 4), .ref (h 5), .ref (h 9), .ref (h 13), .ref (h 17), .int ln, .int lo, .int 0])), ((h 1), .inl (cI, 2000, .inl tx)), ((h 2), .inl (cI, 2000, .inl cs)), ((h 3), .inl (cI, 2000, .inl rl)), ((h 4), .inl (cI, 5, .inl gv)), ((h 5), .inr (1, [.ref (h 6), .ref (h 7), .ref (h 8), .int mn1])), ((h 6), .inl (cI, 100, .inl fa1)), ((h 7), .inl (cI, 100, .inl la1)), ((h 8), .inl (cI, 100, .inl va1)), ((h 9), .inr (1, [.ref (h 10), .ref (h 11), .ref (h 12), .int mn2])), ((h 10), .inl (cI, 40, .inl fa2)), ((h 11), .inl (cI, 40, .inl la2)), ((h 12), .inl (cI, 40, .inl va2)), ((h 13), .inr (1, [.ref (h 14), .ref (h 15), .ref (h 16), .int mn3])), ((h 14), .inl (cI, 40, .inl fa3)), ((h 15), .inl (cI, 40, .inl la3)), ((h 16), .inl (cI, 40, .inl va3))]) hW [17] [0, 1, 2, 3, 4, 5, 6, 7, 8, 9, 10, 11, 12, 13, 14, 15, 16] rfl rfl (by decide) (by decide) (va_runVN (As := []) (rest := []) ⟨hx, hb, hml, hown, hts⟩ (c_bStart l D cI cL (h 17) b1 b2 b3 b4 b5 b6 _) (gk_cwVN hts hW.2.2.2.2.2 w_45 w_46 w_47 w_39 k_bStart e_bStart rfl rfl ⟨Nat.le_of_ble_eq_true rfl, Nat.le_of_ble_eq_true rfl⟩) (gk_preV hW [17] rfl rfl rfl rfl) rfl rfl hl.1 rfl (lv_room (Nat.le_of_ble_eq_true rfl)) d_forgetRules_9 ⟨Nat.le_of_ble_eq_true rfl, Nat.le_of_ble_eq_true rfl⟩) (fun u H locs p_7 hW => ?_)
  obtain ⟨u_1, u_2, u_3, u_4, u_5, u_6⟩ := u
  have hW : gk_W D vwCl (gk_T cI cL) s A H locs (wd_P cI h tx cs rl gv fa1 la1 va1 mn1 fa2 la2 va2 mn2 fa3 la3 va3 mn3 u_1 u_2 u_3 u_4 u_5 u_6 ln lo 0) := hW.re [0, 1, 2, 3, 4, 5, 6, 7, 8, 9, 10, 11, 12, 13, 14, 15, 16, 17] (by decide) rfl
  rw [← p_7] at heq
  dsimp only at heq
  exact X (u_1, u_2, u_3, u_4, u_5, u_6, 0) H locs 0 0 12 ls heq hW d_forgetRules_12 (Nat.le_of_ble_eq_true rfl) (Nat.le_of_ble_eq_true rfl)
def mm_kindAt (x1 : Int32) (cs : Nat → Int32) (lo : Int32) : Int32 := if cs x1.toNatClampNeg = 38 then 27 else (if cs x1.toNatClampNeg = 39 then 27 else (if cs x1.toNatClampNeg = 40 then 27 else (if cs x1.toNatClampNeg = 41 then 27 else (if cs x1.toNatClampNeg = 42 then 8 else (if cs x1.toNatClampNeg = 43 then (if lo = 0 then 19 else 29) else (cs x1.toNatClampNeg))))))
def rm_kindAt : Room := { frames := 0, cells := 0, slots := 0, locals := 0 }
set_option maxHeartbeats 4000000 in
set_option maxRecDepth 100000 in
theorem c_kindAt (l : Launch) (D : va_G) (cI : ClassId) (cL : ClassId × ClassId) (h : Nat → Nat) (tx cs rl gv fa1 la1 va1 : Nat → Int32) (mn1 : Int32) (fa2 la2 va2 : Nat → Int32) (mn2 : Int32) (fa3 la3 va3 : Nat → Int32) (mn3 b1 b2 b3 b4 b5 b6 ln lo kn x1 : Int32) (z_x1 : Int) (v_x1 : gk_v x1 z_x1) (hx1 : 0 ≤ z_x1 ∧ z_x1 < 2000) : gk_I l y_kindAt (.code y_kindAt b_kindAt 2 (some .int) :: wA) rm_kindAt D vwCl (gk_T cI cL) [.ref (h 0), .int x1] (wd_P cI h tx cs rl gv fa1 la1 va1 mn1 fa2 la2 va2 mn2 fa3 la3 va3 mn3 b1 b2 b3 b4 b5 b6 ln lo kn) (fun (r : Int32) (_ : Unit) => r = mm_kindAt x1 cs lo) (fun (_ : Unit) => (wd_P cI h tx cs rl gv fa1 la1 va1 mn1 fa2 la2 va2 mn2 fa3 la3 va3 mn3 b1 b2 b3 b4 b5 b6 ln lo kn)) 0 0 := by
  refine gk_I.of (by decide) (Nat.le_of_ble_eq_true rfl) ?_
  intro p e s m below meth c A ls Q H locs hx hb hml hown hts hW hl X
  have hl : lv_has ls 2 [(0, .ref (h 0)), (1, .int x1)] := hl
  obtain ⟨tgt, heq⟩ : ∃ t, mm_kindAt x1 cs lo = t := ⟨_, rfl⟩
  rw [heq] at X
  rw [mm_kindAt] at heq
  obtain ⟨z_lo, v_lo⟩ := gk_vex lo
  refine lv_aload_n hx hb d_kindAt_0 rfl (lv_at hl 0 rfl) ?_
  refine va_get (D := D) (C := R_P) (T := F_P) (N := 11) hx hb hts i_P hown hW.1 hW.2.1 0 rfl rfl 1 (by decide) (hts _ w_48) (fun _ h9 => h9) rfl d_kindAt_1 ?_
  refine lv_iload_n hx hb d_kindAt_4 rfl (lv_at hl 1 rfl) ?_
  refine va_iald hx hb hW.1 hW.2.1 2 0 rfl rfl (i := x1) (gk_in v_x1 (by omega) (by omega)) d_kindAt_5 ?_
  by_cases c_1 : cs x1.toNatClampNeg = 38
  · rw [if_pos c_1] at heq
    refine lv_tableIn (off := 38) (tgt := 44) hx hb d_kindAt_6 (by rw [c_1]; decide) (by rw [c_1]; decide) (by rw [c_1]; rfl) (by decide) ?_
    refine lv_bipush (v := 27) hx hb d_kindAt_44 (by decide) ?_
    exact X _ () H locs 0 0 46 ls heq hW d_kindAt_46 rfl (Nat.le_of_ble_eq_true rfl) (Nat.le_of_ble_eq_true rfl)
  rw [if_neg c_1] at heq
  by_cases c_2 : cs x1.toNatClampNeg = 39
  · rw [if_pos c_2] at heq
    refine lv_tableIn (off := 38) (tgt := 44) hx hb d_kindAt_6 (by rw [c_2]; decide) (by rw [c_2]; decide) (by rw [c_2]; rfl) (by decide) ?_
    refine lv_bipush (v := 27) hx hb d_kindAt_44 (by decide) ?_
    exact X _ () H locs 0 0 46 ls heq hW d_kindAt_46 rfl (Nat.le_of_ble_eq_true rfl) (Nat.le_of_ble_eq_true rfl)
  rw [if_neg c_2] at heq
  by_cases c_3 : cs x1.toNatClampNeg = 40
  · rw [if_pos c_3] at heq
    refine lv_tableIn (off := 38) (tgt := 44) hx hb d_kindAt_6 (by rw [c_3]; decide) (by rw [c_3]; decide) (by rw [c_3]; rfl) (by decide) ?_
    refine lv_bipush (v := 27) hx hb d_kindAt_44 (by decide) ?_
    exact X _ () H locs 0 0 46 ls heq hW d_kindAt_46 rfl (Nat.le_of_ble_eq_true rfl) (Nat.le_of_ble_eq_true rfl)
  rw [if_neg c_3] at heq
  by_cases c_4 : cs x1.toNatClampNeg = 41
  · rw [if_pos c_4] at heq
    refine lv_tableIn (off := 38) (tgt := 44) hx hb d_kindAt_6 (by rw [c_4]; decide) (by rw [c_4]; decide) (by rw [c_4]; rfl) (by decide) ?_
    refine lv_bipush (v := 27) hx hb d_kindAt_44 (by decide) ?_
    exact X _ () H locs 0 0 46 ls heq hW d_kindAt_46 rfl (Nat.le_of_ble_eq_true rfl) (Nat.le_of_ble_eq_true rfl)
  rw [if_neg c_4] at heq
  by_cases c_5 : cs x1.toNatClampNeg = 42
  · rw [if_pos c_5] at heq
    refine lv_tableIn (off := 41) (tgt := 47) hx hb d_kindAt_6 (by rw [c_5]; decide) (by rw [c_5]; decide) (by rw [c_5]; rfl) (by decide) ?_
    refine lv_bipush (v := 8) hx hb d_kindAt_47 (by decide) ?_
    exact X _ () H locs 0 0 49 ls heq hW d_kindAt_49 rfl (Nat.le_of_ble_eq_true rfl) (Nat.le_of_ble_eq_true rfl)
  rw [if_neg c_5] at heq
  by_cases c_6 : cs x1.toNatClampNeg = 43
  · rw [if_pos c_6] at heq
    refine lv_tableIn (off := 44) (tgt := 50) hx hb d_kindAt_6 (by rw [c_6]; decide) (by rw [c_6]; decide) (by rw [c_6]; rfl) (by decide) ?_
    refine lv_aload_n hx hb d_kindAt_50 rfl (lv_at hl 0 rfl) ?_
    refine va_get (D := D) (C := R_P) (T := F_P) (N := 11) hx hb hts i_P hown hW.1 hW.2.1 0 rfl rfl 9 (by decide) (hts _ w_49) (fun _ h9 => h9) rfl d_kindAt_51 ?_
    refine lv_if_eq (tgt := 62) hx hb d_kindAt_54 (by decide) (fun c_7 => ?_) (fun c_7 => ?_)
    · rw [if_pos c_7] at heq
      refine lv_bipush (v := 19) hx hb d_kindAt_62 (by decide) ?_
      exact X _ () H locs 0 0 64 ls heq hW d_kindAt_64 rfl (Nat.le_of_ble_eq_true rfl) (Nat.le_of_ble_eq_true rfl)
    · rw [if_neg c_7] at heq
      refine lv_bipush (v := 29) hx hb d_kindAt_57 (by decide) ?_
      refine lv_goto (tgt := 64) hx hb d_kindAt_59 (by decide) ?_
      exact X _ () H locs 0 0 64 ls heq hW d_kindAt_64 rfl (Nat.le_of_ble_eq_true rfl) (Nat.le_of_ble_eq_true rfl)
  rw [if_neg c_6] at heq
  refine lv_tableOut (tgt := 65) hx hb d_kindAt_6 (by have nc_1 := lv_neT (a := 38) c_1 rfl; have nc_2 := lv_neT (a := 39) c_2 rfl; have nc_3 := lv_neT (a := 40) c_3 rfl; have nc_4 := lv_neT (a := 41) c_4 rfl; have nc_5 := lv_neT (a := 42) c_5 rfl; have nc_6 := lv_neT (a := 43) c_6 rfl; omega) (by decide) ?_
  refine lv_aload_n hx hb d_kindAt_65 rfl (lv_at hl 0 rfl) ?_
  refine va_get (D := D) (C := R_P) (T := F_P) (N := 11) hx hb hts i_P hown hW.1 hW.2.1 0 rfl rfl 1 (by decide) (hts _ w_48) (fun _ h9 => h9) rfl d_kindAt_66 ?_
  refine lv_iload_n hx hb d_kindAt_69 rfl (lv_at hl 1 rfl) ?_
  refine va_iald hx hb hW.1 hW.2.1 2 0 rfl rfl (i := x1) (gk_in v_x1 (by omega) (by omega)) d_kindAt_70 ?_
  exact X _ () H locs 0 0 71 ls heq hW d_kindAt_71 rfl (Nat.le_of_ble_eq_true rfl) (Nat.le_of_ble_eq_true rfl)
def mm_isBetween (x1 : Int32) (cs : Nat → Int32) (ln lo : Int32) : Int32 := if x1 ≤ 0 then 0 else (if ln ≤ x1 then 0 else (if (mm_kindAt (x1 - 1) cs lo) = 1 then (if (mm_kindAt x1 cs lo) = 2 then 1 else 0) else 0))
def rm_isBetween : Room := { frames := 1, cells := 0, slots := 0, locals := 21 }
set_option maxHeartbeats 4000000 in
set_option maxRecDepth 100000 in
theorem c_isBetween (l : Launch) (D : va_G) (cI : ClassId) (cL : ClassId × ClassId) (h : Nat → Nat) (tx cs rl gv fa1 la1 va1 : Nat → Int32) (mn1 : Int32) (fa2 la2 va2 : Nat → Int32) (mn2 : Int32) (fa3 la3 va3 : Nat → Int32) (mn3 b1 b2 b3 b4 b5 b6 ln lo kn x1 : Int32) (z_ln : Int) (v_ln : gk_v ln z_ln) (hln : 0 ≤ z_ln ∧ z_ln ≤ 2000) : gk_I l y_isBetween (.code y_isBetween b_isBetween 2 (some .boolean) :: wA) rm_isBetween D vwCl (gk_T cI cL) [.ref (h 0), .int x1] (wd_P cI h tx cs rl gv fa1 la1 va1 mn1 fa2 la2 va2 mn2 fa3 la3 va3 mn3 b1 b2 b3 b4 b5 b6 ln lo kn) (fun (r : Int32) (_ : Unit) => r = mm_isBetween x1 cs ln lo) (fun (_ : Unit) => (wd_P cI h tx cs rl gv fa1 la1 va1 mn1 fa2 la2 va2 mn2 fa3 la3 va3 mn3 b1 b2 b3 b4 b5 b6 ln lo kn)) 0 0 := by
  refine gk_I.of (by decide) (Nat.le_of_ble_eq_true rfl) ?_
  intro p e s m below meth c A ls Q H locs hx hb hml hown hts hW hl X
  have hl : lv_has ls 2 [(0, .ref (h 0)), (1, .int x1)] := hl
  obtain ⟨tgt, heq⟩ : ∃ t, mm_isBetween x1 cs ln lo = t := ⟨_, rfl⟩
  rw [heq] at X
  rw [mm_isBetween] at heq
  obtain ⟨z_x1, v_x1⟩ := gk_vex x1
  obtain ⟨z_lo, v_lo⟩ := gk_vex lo
  refine lv_iload_n hx hb d_isBetween_0 rfl (lv_at hl 1 rfl) ?_
  refine lv_if_le (tgt := 36) hx hb d_isBetween_1 (by decide) (fun c_1 => ?_) (fun c_1 => ?_)
  · rw [if_pos c_1] at heq
    have ic_1 := gk_le v_x1 (show gk_v 0 0 from rfl) c_1
    refine lv_iconst (v := 0) hx hb d_isBetween_36 (by decide) ?_
    exact X _ () H locs 0 0 37 ls heq hW d_isBetween_37 rfl (Nat.le_of_ble_eq_true rfl) (Nat.le_of_ble_eq_true rfl)
  · rw [if_neg c_1] at heq
    have ic_1 := gk_nle v_x1 (show gk_v 0 0 from rfl) c_1
    refine lv_iload_n hx hb d_isBetween_4 rfl (lv_at hl 1 rfl) ?_
    refine lv_aload_n hx hb d_isBetween_5 rfl (lv_at hl 0 rfl) ?_
    refine va_get (D := D) (C := R_P) (T := F_P) (N := 11) hx hb hts i_P hown hW.1 hW.2.1 0 rfl rfl 8 (by decide) (hts _ w_42) (fun _ h9 => h9) rfl d_isBetween_6 ?_
    refine lv_icmp_ge (tgt := 36) hx hb d_isBetween_9 (by decide) (fun c_2 => ?_) (fun c_2 => ?_)
    · rw [if_pos c_2] at heq
      have ic_2 := gk_le v_ln v_x1 c_2
      refine lv_iconst (v := 0) hx hb d_isBetween_36 (by decide) ?_
      exact X _ () H locs 0 0 37 ls heq hW d_isBetween_37 rfl (Nat.le_of_ble_eq_true rfl) (Nat.le_of_ble_eq_true rfl)
    · rw [if_neg c_2] at heq
      have ic_2 := gk_nle v_ln v_x1 c_2
      refine lv_aload_n hx hb d_isBetween_12 rfl (lv_at hl 0 rfl) ?_
      refine lv_iload_n hx hb d_isBetween_13 rfl (lv_at hl 1 rfl) ?_
      refine lv_iconst (v := 1) hx hb d_isBetween_14 (by decide) ?_
      refine lv_isub hx hb d_isBetween_15 ?_
      obtain ⟨zt_3, vt_3, et_3⟩ := gk_sub v_x1 (show gk_v 1 1 from rfl) (by omega) (by omega)
      refine gk_goR hW [0, 1, 2, 3, 4, 5, 6, 7, 8, 9, 10, 11, 12, 13, 14, 15, 16, 17] rfl (va_runV (As := [.int (x1 - 1)]) (rest := []) ⟨hx, hb, hml, hown, hts⟩ (c_kindAt l D cI cL h tx cs rl gv fa1 la1 va1 mn1 fa2 la2 va2 mn2 fa3 la3 va3 mn3 b1 b2 b3 b4 b5 b6 ln lo kn (x1 - 1) zt_3 vt_3 (by omega) _) (gk_cwV hts w_50 w_51 w_52 w_3 k_kindAt rfl e_kindAt rfl rfl ⟨Nat.le_of_ble_eq_true rfl, Nat.le_of_ble_eq_true rfl⟩) (gk_preV hW [0, 1, 2, 3, 4, 5, 6, 7, 8, 9, 10, 11, 12, 13, 14, 15, 16, 17] rfl rfl rfl rfl) rfl rfl hl.1 rfl (lv_room (Nat.le_of_ble_eq_true rfl)) d_isBetween_16 ⟨Nat.le_of_ble_eq_true rfl, Nat.le_of_ble_eq_true rfl⟩) (fun H locs hW => ?_)
      refine lv_iconst (v := 1) hx hb d_isBetween_19 (by decide) ?_
      refine lv_icmp_ne (tgt := 36) hx hb d_isBetween_20 (by decide) (fun c_4 => ?_) (fun c_4 => ?_)
      · rw [if_neg c_4] at heq
        refine lv_iconst (v := 0) hx hb d_isBetween_36 (by decide) ?_
        exact X _ () H locs 0 0 37 ls heq hW d_isBetween_37 rfl (Nat.le_of_ble_eq_true rfl) (Nat.le_of_ble_eq_true rfl)
      · rw [if_pos c_4] at heq
        refine lv_aload_n hx hb d_isBetween_23 rfl (lv_at hl 0 rfl) ?_
        refine lv_iload_n hx hb d_isBetween_24 rfl (lv_at hl 1 rfl) ?_
        refine gk_goR hW [0, 1, 2, 3, 4, 5, 6, 7, 8, 9, 10, 11, 12, 13, 14, 15, 16, 17] rfl (va_runV (As := [.int x1]) (rest := []) ⟨hx, hb, hml, hown, hts⟩ (c_kindAt l D cI cL h tx cs rl gv fa1 la1 va1 mn1 fa2 la2 va2 mn2 fa3 la3 va3 mn3 b1 b2 b3 b4 b5 b6 ln lo kn x1 z_x1 v_x1 (by omega) _) (gk_cwV hts w_50 w_51 w_52 w_3 k_kindAt rfl e_kindAt rfl rfl ⟨Nat.le_of_ble_eq_true rfl, Nat.le_of_ble_eq_true rfl⟩) (gk_preV hW [0, 1, 2, 3, 4, 5, 6, 7, 8, 9, 10, 11, 12, 13, 14, 15, 16, 17] rfl rfl rfl rfl) rfl rfl hl.1 rfl (lv_room (Nat.le_of_ble_eq_true rfl)) d_isBetween_25 ⟨Nat.le_of_ble_eq_true rfl, Nat.le_of_ble_eq_true rfl⟩) (fun H locs hW => ?_)
        refine lv_iconst (v := 2) hx hb d_isBetween_28 (by decide) ?_
        refine lv_icmp_ne (tgt := 36) hx hb d_isBetween_29 (by decide) (fun c_5 => ?_) (fun c_5 => ?_)
        · rw [if_neg c_5] at heq
          refine lv_iconst (v := 0) hx hb d_isBetween_36 (by decide) ?_
          exact X _ () H locs 0 0 37 ls heq hW d_isBetween_37 rfl (Nat.le_of_ble_eq_true rfl) (Nat.le_of_ble_eq_true rfl)
        · rw [if_pos c_5] at heq
          refine lv_iconst (v := 1) hx hb d_isBetween_32 (by decide) ?_
          refine lv_goto (tgt := 37) hx hb d_isBetween_33 (by decide) ?_
          exact X _ () H locs 0 0 37 ls heq hW d_isBetween_37 rfl (Nat.le_of_ble_eq_true rfl) (Nat.le_of_ble_eq_true rfl)
def mm_ruleOfSpaces (x1 b1 b5 : Int32) : Int32 := if b1 = 0 then 40 else (if (mm_isIn b1 15) = 0 then (if (mm_isIn x1 15) = 0 then (if (mm_isIn x1 48) = 0 then (if b5 = 5 then 80 else (if b1 = 7 then 81 else (if (mm_bLeavesout x1 b1) = 0 then 0 else 90))) else 70) else 60) else 50)
def rm_ruleOfSpaces : Room := { frames := 2, cells := 0, slots := 0, locals := 43 }
set_option maxHeartbeats 4000000 in
set_option maxRecDepth 100000 in
theorem c_ruleOfSpaces (l : Launch) (D : va_G) (cI : ClassId) (cL : ClassId × ClassId) (h : Nat → Nat) (tx cs rl gv fa1 la1 va1 : Nat → Int32) (mn1 : Int32) (fa2 la2 va2 : Nat → Int32) (mn2 : Int32) (fa3 la3 va3 : Nat → Int32) (mn3 b1 b2 b3 b4 b5 b6 ln lo kn x1 : Int32) : gk_I l y_ruleOfSpaces (.code y_ruleOfSpaces b_ruleOfSpaces 2 (some .int) :: wA) rm_ruleOfSpaces D vwCl (gk_T cI cL) [.ref (h 0), .int x1] (wd_P cI h tx cs rl gv fa1 la1 va1 mn1 fa2 la2 va2 mn2 fa3 la3 va3 mn3 b1 b2 b3 b4 b5 b6 ln lo kn) (fun (r : Int32) (_ : Unit) => r = mm_ruleOfSpaces x1 b1 b5) (fun (_ : Unit) => (wd_P cI h tx cs rl gv fa1 la1 va1 mn1 fa2 la2 va2 mn2 fa3 la3 va3 mn3 b1 b2 b3 b4 b5 b6 ln lo kn)) 0 0 := by
  refine gk_I.of (by decide) (Nat.le_of_ble_eq_true rfl) ?_
  intro p e s m below meth c A ls Q H locs hx hb hml hown hts hW hl X
  have hl : lv_has ls 2 [(0, .ref (h 0)), (1, .int x1)] := hl
  obtain ⟨tgt, heq⟩ : ∃ t, mm_ruleOfSpaces x1 b1 b5 = t := ⟨_, rfl⟩
  rw [heq] at X
  rw [mm_ruleOfSpaces] at heq
  refine lv_aload_n hx hb d_ruleOfSpaces_0 rfl (lv_at hl 0 rfl) ?_
  refine va_get (D := D) (C := R_P) (T := F_P) (N := 11) hx hb hts i_P hown hW.1 hW.2.1 0 rfl rfl 7 (by decide) (hts _ w_44) (fun _ h9 => h9) rfl d_ruleOfSpaces_1 ?_
  refine va_getN (D := D) (C := R_B) (T := F_B) (N := 6) hx hb hts i_B hown hW.1 hW.2.1 17 rfl rfl 0 (by decide) (va_Nw.use rfl (hW.2.2.2.2.2 _ w_53)) (fun _ h9 => h9) rfl d_ruleOfSpaces_4 ?_
  refine lv_if_ne (tgt := 13) hx hb d_ruleOfSpaces_7 (by decide) (fun c_1 => ?_) (fun c_1 => ?_)
  · rw [if_neg c_1] at heq
    refine lv_aload_n hx hb d_ruleOfSpaces_13 rfl (lv_at hl 0 rfl) ?_
    refine va_get (D := D) (C := R_P) (T := F_P) (N := 11) hx hb hts i_P hown hW.1 hW.2.1 0 rfl rfl 7 (by decide) (hts _ w_44) (fun _ h9 => h9) rfl d_ruleOfSpaces_14 ?_
    refine va_getN (D := D) (C := R_B) (T := F_B) (N := 6) hx hb hts i_B hown hW.1 hW.2.1 17 rfl rfl 0 (by decide) (va_Nw.use rfl (hW.2.2.2.2.2 _ w_53)) (fun _ h9 => h9) rfl d_ruleOfSpaces_17 ?_
    refine lv_ldc2 (v := 15) hx hb hown (hts _ w_54) d_ruleOfSpaces_20 ?_
    refine gk_goR hW [] rfl (va_runS (As := [.int b1, .long 15]) (rest := []) ⟨hx, hb, hml, hown, hts⟩ (c_isIn l D cI cL b1 15 _) (gk_cwS hts w_5 w_6 w_3 k_isIn rfl e_isIn rfl rfl ⟨Nat.le_of_ble_eq_true rfl, Nat.le_of_ble_eq_true rfl⟩) (gk_pre hW [] rfl rfl) rfl rfl hl.1 rfl (lv_room (Nat.le_of_ble_eq_true rfl)) d_ruleOfSpaces_23 ⟨Nat.le_of_ble_eq_true rfl, Nat.le_of_ble_eq_true rfl⟩) (fun H locs hW => ?_)
    refine lv_if_eq (tgt := 32) hx hb d_ruleOfSpaces_26 (by decide) (fun c_2 => ?_) (fun c_2 => ?_)
    · rw [if_pos c_2] at heq
      refine lv_iload_n hx hb d_ruleOfSpaces_32 rfl (lv_at hl 1 rfl) ?_
      refine lv_ldc2 (v := 15) hx hb hown (hts _ w_54) d_ruleOfSpaces_33 ?_
      refine gk_goR hW [] rfl (va_runS (As := [.int x1, .long 15]) (rest := []) ⟨hx, hb, hml, hown, hts⟩ (c_isIn l D cI cL x1 15 _) (gk_cwS hts w_5 w_6 w_3 k_isIn rfl e_isIn rfl rfl ⟨Nat.le_of_ble_eq_true rfl, Nat.le_of_ble_eq_true rfl⟩) (gk_pre hW [] rfl rfl) rfl rfl hl.1 rfl (lv_room (Nat.le_of_ble_eq_true rfl)) d_ruleOfSpaces_36 ⟨Nat.le_of_ble_eq_true rfl, Nat.le_of_ble_eq_true rfl⟩) (fun H locs hW => ?_)
      refine lv_if_eq (tgt := 45) hx hb d_ruleOfSpaces_39 (by decide) (fun c_3 => ?_) (fun c_3 => ?_)
      · rw [if_pos c_3] at heq
        refine lv_iload_n hx hb d_ruleOfSpaces_45 rfl (lv_at hl 1 rfl) ?_
        refine lv_ldc2 (v := 48) hx hb hown (hts _ w_55) d_ruleOfSpaces_46 ?_
        refine gk_goR hW [] rfl (va_runS (As := [.int x1, .long 48]) (rest := []) ⟨hx, hb, hml, hown, hts⟩ (c_isIn l D cI cL x1 48 _) (gk_cwS hts w_5 w_6 w_3 k_isIn rfl e_isIn rfl rfl ⟨Nat.le_of_ble_eq_true rfl, Nat.le_of_ble_eq_true rfl⟩) (gk_pre hW [] rfl rfl) rfl rfl hl.1 rfl (lv_room (Nat.le_of_ble_eq_true rfl)) d_ruleOfSpaces_49 ⟨Nat.le_of_ble_eq_true rfl, Nat.le_of_ble_eq_true rfl⟩) (fun H locs hW => ?_)
        refine lv_if_eq (tgt := 58) hx hb d_ruleOfSpaces_52 (by decide) (fun c_4 => ?_) (fun c_4 => ?_)
        · rw [if_pos c_4] at heq
          refine lv_aload_n hx hb d_ruleOfSpaces_58 rfl (lv_at hl 0 rfl) ?_
          refine va_get (D := D) (C := R_P) (T := F_P) (N := 11) hx hb hts i_P hown hW.1 hW.2.1 0 rfl rfl 7 (by decide) (hts _ w_44) (fun _ h9 => h9) rfl d_ruleOfSpaces_59 ?_
          refine va_getN (D := D) (C := R_B) (T := F_B) (N := 6) hx hb hts i_B hown hW.1 hW.2.1 17 rfl rfl 4 (by decide) (va_Nw.use rfl (hW.2.2.2.2.2 _ w_56)) (fun _ h9 => h9) rfl d_ruleOfSpaces_62 ?_
          refine lv_iconst (v := 5) hx hb d_ruleOfSpaces_65 (by decide) ?_
          refine lv_icmp_ne (tgt := 72) hx hb d_ruleOfSpaces_66 (by decide) (fun c_5 => ?_) (fun c_5 => ?_)
          · rw [if_neg c_5] at heq
            refine lv_aload_n hx hb d_ruleOfSpaces_72 rfl (lv_at hl 0 rfl) ?_
            refine va_get (D := D) (C := R_P) (T := F_P) (N := 11) hx hb hts i_P hown hW.1 hW.2.1 0 rfl rfl 7 (by decide) (hts _ w_44) (fun _ h9 => h9) rfl d_ruleOfSpaces_73 ?_
            refine va_getN (D := D) (C := R_B) (T := F_B) (N := 6) hx hb hts i_B hown hW.1 hW.2.1 17 rfl rfl 0 (by decide) (va_Nw.use rfl (hW.2.2.2.2.2 _ w_53)) (fun _ h9 => h9) rfl d_ruleOfSpaces_76 ?_
            refine lv_bipush (v := 7) hx hb d_ruleOfSpaces_79 (by decide) ?_
            refine lv_icmp_ne (tgt := 87) hx hb d_ruleOfSpaces_81 (by decide) (fun c_6 => ?_) (fun c_6 => ?_)
            · rw [if_neg c_6] at heq
              refine lv_aload_n hx hb d_ruleOfSpaces_87 rfl (lv_at hl 0 rfl) ?_
              refine va_get (D := D) (C := R_P) (T := F_P) (N := 11) hx hb hts i_P hown hW.1 hW.2.1 0 rfl rfl 7 (by decide) (hts _ w_44) (fun _ h9 => h9) rfl d_ruleOfSpaces_88 ?_
              refine lv_iload_n hx hb d_ruleOfSpaces_91 rfl (lv_at hl 1 rfl) ?_
              refine gk_goR hW [17] rfl (va_runVN (As := [.int x1]) (rest := []) ⟨hx, hb, hml, hown, hts⟩ (c_bLeavesout l D cI cL (h 17) b1 b2 b3 b4 b5 b6 x1 _) (gk_cwVN hts hW.2.2.2.2.2 w_57 w_37 w_38 w_39 k_bLeavesout e_bLeavesout rfl rfl ⟨Nat.le_of_ble_eq_true rfl, Nat.le_of_ble_eq_true rfl⟩) (gk_preV hW [17] rfl rfl rfl rfl) rfl rfl hl.1 rfl (lv_room (Nat.le_of_ble_eq_true rfl)) d_ruleOfSpaces_92 ⟨Nat.le_of_ble_eq_true rfl, Nat.le_of_ble_eq_true rfl⟩) (fun H locs hW => ?_)
              refine lv_if_eq (tgt := 103) hx hb d_ruleOfSpaces_95 (by decide) (fun c_7 => ?_) (fun c_7 => ?_)
              · rw [if_pos c_7] at heq
                refine lv_iconst (v := 0) hx hb d_ruleOfSpaces_103 (by decide) ?_
                exact X _ () H locs 0 0 104 ls heq hW d_ruleOfSpaces_104 rfl (Nat.le_of_ble_eq_true rfl) (Nat.le_of_ble_eq_true rfl)
              · rw [if_neg c_7] at heq
                refine lv_bipush (v := 90) hx hb d_ruleOfSpaces_98 (by decide) ?_
                refine lv_goto (tgt := 104) hx hb d_ruleOfSpaces_100 (by decide) ?_
                exact X _ () H locs 0 0 104 ls heq hW d_ruleOfSpaces_104 rfl (Nat.le_of_ble_eq_true rfl) (Nat.le_of_ble_eq_true rfl)
            · rw [if_pos c_6] at heq
              refine lv_bipush (v := 81) hx hb d_ruleOfSpaces_84 (by decide) ?_
              exact X _ () H locs 0 0 86 ls heq hW d_ruleOfSpaces_86 rfl (Nat.le_of_ble_eq_true rfl) (Nat.le_of_ble_eq_true rfl)
          · rw [if_pos c_5] at heq
            refine lv_bipush (v := 80) hx hb d_ruleOfSpaces_69 (by decide) ?_
            exact X _ () H locs 0 0 71 ls heq hW d_ruleOfSpaces_71 rfl (Nat.le_of_ble_eq_true rfl) (Nat.le_of_ble_eq_true rfl)
        · rw [if_neg c_4] at heq
          refine lv_bipush (v := 70) hx hb d_ruleOfSpaces_55 (by decide) ?_
          exact X _ () H locs 0 0 57 ls heq hW d_ruleOfSpaces_57 rfl (Nat.le_of_ble_eq_true rfl) (Nat.le_of_ble_eq_true rfl)
      · rw [if_neg c_3] at heq
        refine lv_bipush (v := 60) hx hb d_ruleOfSpaces_42 (by decide) ?_
        exact X _ () H locs 0 0 44 ls heq hW d_ruleOfSpaces_44 rfl (Nat.le_of_ble_eq_true rfl) (Nat.le_of_ble_eq_true rfl)
    · rw [if_neg c_2] at heq
      refine lv_bipush (v := 50) hx hb d_ruleOfSpaces_29 (by decide) ?_
      exact X _ () H locs 0 0 31 ls heq hW d_ruleOfSpaces_31 rfl (Nat.le_of_ble_eq_true rfl) (Nat.le_of_ble_eq_true rfl)
  · rw [if_pos c_1] at heq
    refine lv_bipush (v := 40) hx hb d_ruleOfSpaces_10 (by decide) ?_
    exact X _ () H locs 0 0 12 ls heq hW d_ruleOfSpaces_12 rfl (Nat.le_of_ble_eq_true rfl) (Nat.le_of_ble_eq_true rfl)
def mm_ruleOfSigns_109 (x1 x2 b4 : Int32) : Int32 := if x2 = 18 then 220 else 0
def mm_ruleOfSigns_93 (x1 x2 b4 : Int32) : Int32 := if x1 = 26 then (if x2 = 28 then 212 else (mm_ruleOfSigns_109 x1 x2 b4)) else (mm_ruleOfSigns_109 x1 x2 b4)
def mm_ruleOfSigns (x1 x2 b4 : Int32) : Int32 := if x1 = 4 then 180 else (if x1 = 21 then 190 else (if x2 = 21 then 190 else (if x1 = 14 then 200 else (if x2 = 14 then 200 else (if (mm_isIn x2 10240) = 0 then (if x2 = 19 then 210 else (if x1 = 12 then 210 else (if (mm_isIn x1 10240) = 0 then (mm_ruleOfSigns_93 x1 x2 b4) else (if b4 = 28 then 211 else (mm_ruleOfSigns_93 x1 x2 b4))))) else 210)))))
def rm_ruleOfSigns : Room := { frames := 1, cells := 0, slots := 0, locals := 22 }
set_option maxHeartbeats 4000000 in
set_option maxRecDepth 100000 in
theorem c_ruleOfSigns (l : Launch) (D : va_G) (cI : ClassId) (cL : ClassId × ClassId) (h : Nat → Nat) (tx cs rl gv fa1 la1 va1 : Nat → Int32) (mn1 : Int32) (fa2 la2 va2 : Nat → Int32) (mn2 : Int32) (fa3 la3 va3 : Nat → Int32) (mn3 b1 b2 b3 b4 b5 b6 ln lo kn x1 x2 : Int32) : gk_I l y_ruleOfSigns (.code y_ruleOfSigns b_ruleOfSigns 3 (some .int) :: wA) rm_ruleOfSigns D vwCl (gk_T cI cL) [.ref (h 0), .int x1, .int x2] (wd_P cI h tx cs rl gv fa1 la1 va1 mn1 fa2 la2 va2 mn2 fa3 la3 va3 mn3 b1 b2 b3 b4 b5 b6 ln lo kn) (fun (r : Int32) (_ : Unit) => r = mm_ruleOfSigns x1 x2 b4) (fun (_ : Unit) => (wd_P cI h tx cs rl gv fa1 la1 va1 mn1 fa2 la2 va2 mn2 fa3 la3 va3 mn3 b1 b2 b3 b4 b5 b6 ln lo kn)) 0 0 := by
  refine gk_I.of (by decide) (Nat.le_of_ble_eq_true rfl) ?_
  intro p e s m below meth c A ls Q H locs hx hb hml hown hts hW hl X
  have hl : lv_has ls 3 [(0, .ref (h 0)), (1, .int x1), (2, .int x2)] := hl
  obtain ⟨tgt, heq⟩ : ∃ t, mm_ruleOfSigns x1 x2 b4 = t := ⟨_, rfl⟩
  rw [heq] at X
  rw [mm_ruleOfSigns] at heq
  have K109 : ∀ (H : Heap) (locs : List Loc) (ls : Array Slot), mm_ruleOfSigns_109 x1 x2 b4 = tgt → gk_W D vwCl (gk_T cI cL) s A H locs (wd_P cI h tx cs rl gv fa1 la1 va1 mn1 fa2 la2 va2 mn2 fa3 la3 va3 mn3 b1 b2 b3 b4 b5 b6 ln lo kn) → lv_has ls 3 [(0, .ref (h 0)), (1, .int x1), (2, .int x2)] → W p l e rm_ruleOfSigns s m [.ref (h 0), .int x1, .int x2].toArray below meth c H locs 0 0 Q (F0 m 109 ls []) := by
    intro  H locs ls heq hW hl
    rw [mm_ruleOfSigns_109] at heq
    refine lv_iload_n hx hb d_ruleOfSigns_109 rfl (lv_at hl 2 rfl) ?_
    refine lv_bipush (v := 18) hx hb d_ruleOfSigns_110 (by decide) ?_
    refine lv_icmp_ne (tgt := 121) hx hb d_ruleOfSigns_112 (by decide) (fun c_1 => ?_) (fun c_1 => ?_)
    · rw [if_neg c_1] at heq
      refine lv_iconst (v := 0) hx hb d_ruleOfSigns_121 (by decide) ?_
      exact X _ () H locs 0 0 122 ls heq hW d_ruleOfSigns_122 rfl (Nat.le_of_ble_eq_true rfl) (Nat.le_of_ble_eq_true rfl)
    · rw [if_pos c_1] at heq
      refine lv_sipush (v := 220) hx hb d_ruleOfSigns_115 (by decide) ?_
      refine lv_goto (tgt := 122) hx hb d_ruleOfSigns_118 (by decide) ?_
      exact X _ () H locs 0 0 122 ls heq hW d_ruleOfSigns_122 rfl (Nat.le_of_ble_eq_true rfl) (Nat.le_of_ble_eq_true rfl)
  have K93 : ∀ (H : Heap) (locs : List Loc) (ls : Array Slot), mm_ruleOfSigns_93 x1 x2 b4 = tgt → gk_W D vwCl (gk_T cI cL) s A H locs (wd_P cI h tx cs rl gv fa1 la1 va1 mn1 fa2 la2 va2 mn2 fa3 la3 va3 mn3 b1 b2 b3 b4 b5 b6 ln lo kn) → lv_has ls 3 [(0, .ref (h 0)), (1, .int x1), (2, .int x2)] → W p l e rm_ruleOfSigns s m [.ref (h 0), .int x1, .int x2].toArray below meth c H locs 0 0 Q (F0 m 93 ls []) := by
    intro  H locs ls heq hW hl
    rw [mm_ruleOfSigns_93] at heq
    refine lv_iload_n hx hb d_ruleOfSigns_93 rfl (lv_at hl 1 rfl) ?_
    refine lv_bipush (v := 26) hx hb d_ruleOfSigns_94 (by decide) ?_
    refine lv_icmp_ne (tgt := 109) hx hb d_ruleOfSigns_96 (by decide) (fun c_2 => ?_) (fun c_2 => ?_)
    · rw [if_neg c_2] at heq
      exact K109  H locs ls heq hW (lv_sub hl [0, 1, 2] rfl)
    · rw [if_pos c_2] at heq
      refine lv_iload_n hx hb d_ruleOfSigns_99 rfl (lv_at hl 2 rfl) ?_
      refine lv_bipush (v := 28) hx hb d_ruleOfSigns_100 (by decide) ?_
      refine lv_icmp_ne (tgt := 109) hx hb d_ruleOfSigns_102 (by decide) (fun c_3 => ?_) (fun c_3 => ?_)
      · rw [if_neg c_3] at heq
        exact K109  H locs ls heq hW (lv_sub hl [0, 1, 2] rfl)
      · rw [if_pos c_3] at heq
        refine lv_sipush (v := 212) hx hb d_ruleOfSigns_105 (by decide) ?_
        exact X _ () H locs 0 0 108 ls heq hW d_ruleOfSigns_108 rfl (Nat.le_of_ble_eq_true rfl) (Nat.le_of_ble_eq_true rfl)
  refine lv_iload_n hx hb d_ruleOfSigns_0 rfl (lv_at hl 1 rfl) ?_
  refine lv_iconst (v := 4) hx hb d_ruleOfSigns_1 (by decide) ?_
  refine lv_icmp_ne (tgt := 9) hx hb d_ruleOfSigns_2 (by decide) (fun c_4 => ?_) (fun c_4 => ?_)
  · rw [if_neg c_4] at heq
    refine lv_iload_n hx hb d_ruleOfSigns_9 rfl (lv_at hl 1 rfl) ?_
    refine lv_bipush (v := 21) hx hb d_ruleOfSigns_10 (by decide) ?_
    refine lv_icmp_eq (tgt := 21) hx hb d_ruleOfSigns_12 (by decide) (fun c_5 => ?_) (fun c_5 => ?_)
    · rw [if_pos c_5] at heq
      refine lv_sipush (v := 190) hx hb d_ruleOfSigns_21 (by decide) ?_
      exact X _ () H locs 0 0 24 ls heq hW d_ruleOfSigns_24 rfl (Nat.le_of_ble_eq_true rfl) (Nat.le_of_ble_eq_true rfl)
    · rw [if_neg c_5] at heq
      refine lv_iload_n hx hb d_ruleOfSigns_15 rfl (lv_at hl 2 rfl) ?_
      refine lv_bipush (v := 21) hx hb d_ruleOfSigns_16 (by decide) ?_
      refine lv_icmp_ne (tgt := 25) hx hb d_ruleOfSigns_18 (by decide) (fun c_6 => ?_) (fun c_6 => ?_)
      · rw [if_neg c_6] at heq
        refine lv_iload_n hx hb d_ruleOfSigns_25 rfl (lv_at hl 1 rfl) ?_
        refine lv_bipush (v := 14) hx hb d_ruleOfSigns_26 (by decide) ?_
        refine lv_icmp_eq (tgt := 37) hx hb d_ruleOfSigns_28 (by decide) (fun c_7 => ?_) (fun c_7 => ?_)
        · rw [if_pos c_7] at heq
          refine lv_sipush (v := 200) hx hb d_ruleOfSigns_37 (by decide) ?_
          exact X _ () H locs 0 0 40 ls heq hW d_ruleOfSigns_40 rfl (Nat.le_of_ble_eq_true rfl) (Nat.le_of_ble_eq_true rfl)
        · rw [if_neg c_7] at heq
          refine lv_iload_n hx hb d_ruleOfSigns_31 rfl (lv_at hl 2 rfl) ?_
          refine lv_bipush (v := 14) hx hb d_ruleOfSigns_32 (by decide) ?_
          refine lv_icmp_ne (tgt := 41) hx hb d_ruleOfSigns_34 (by decide) (fun c_8 => ?_) (fun c_8 => ?_)
          · rw [if_neg c_8] at heq
            refine lv_iload_n hx hb d_ruleOfSigns_41 rfl (lv_at hl 2 rfl) ?_
            refine lv_ldc2 (v := 10240) hx hb hown (hts _ w_8) d_ruleOfSigns_42 ?_
            refine gk_goR hW [] rfl (va_runS (As := [.int x2, .long 10240]) (rest := []) ⟨hx, hb, hml, hown, hts⟩ (c_isIn l D cI cL x2 10240 _) (gk_cwS hts w_5 w_6 w_3 k_isIn rfl e_isIn rfl rfl ⟨Nat.le_of_ble_eq_true rfl, Nat.le_of_ble_eq_true rfl⟩) (gk_pre hW [] rfl rfl) rfl rfl hl.1 rfl (lv_room (Nat.le_of_ble_eq_true rfl)) d_ruleOfSigns_45 ⟨Nat.le_of_ble_eq_true rfl, Nat.le_of_ble_eq_true rfl⟩) (fun H locs hW => ?_)
            refine lv_if_ne (tgt := 63) hx hb d_ruleOfSigns_48 (by decide) (fun c_9 => ?_) (fun c_9 => ?_)
            · rw [if_neg c_9] at heq
              refine lv_sipush (v := 210) hx hb d_ruleOfSigns_63 (by decide) ?_
              exact X _ () H locs 0 0 66 ls heq hW d_ruleOfSigns_66 rfl (Nat.le_of_ble_eq_true rfl) (Nat.le_of_ble_eq_true rfl)
            · rw [if_pos c_9] at heq
              refine lv_iload_n hx hb d_ruleOfSigns_51 rfl (lv_at hl 2 rfl) ?_
              refine lv_bipush (v := 19) hx hb d_ruleOfSigns_52 (by decide) ?_
              refine lv_icmp_eq (tgt := 63) hx hb d_ruleOfSigns_54 (by decide) (fun c_10 => ?_) (fun c_10 => ?_)
              · rw [if_pos c_10] at heq
                refine lv_sipush (v := 210) hx hb d_ruleOfSigns_63 (by decide) ?_
                exact X _ () H locs 0 0 66 ls heq hW d_ruleOfSigns_66 rfl (Nat.le_of_ble_eq_true rfl) (Nat.le_of_ble_eq_true rfl)
              · rw [if_neg c_10] at heq
                refine lv_iload_n hx hb d_ruleOfSigns_57 rfl (lv_at hl 1 rfl) ?_
                refine lv_bipush (v := 12) hx hb d_ruleOfSigns_58 (by decide) ?_
                refine lv_icmp_ne (tgt := 67) hx hb d_ruleOfSigns_60 (by decide) (fun c_11 => ?_) (fun c_11 => ?_)
                · rw [if_neg c_11] at heq
                  refine lv_iload_n hx hb d_ruleOfSigns_67 rfl (lv_at hl 1 rfl) ?_
                  refine lv_ldc2 (v := 10240) hx hb hown (hts _ w_8) d_ruleOfSigns_68 ?_
                  refine gk_goR hW [] rfl (va_runS (As := [.int x1, .long 10240]) (rest := []) ⟨hx, hb, hml, hown, hts⟩ (c_isIn l D cI cL x1 10240 _) (gk_cwS hts w_5 w_6 w_3 k_isIn rfl e_isIn rfl rfl ⟨Nat.le_of_ble_eq_true rfl, Nat.le_of_ble_eq_true rfl⟩) (gk_pre hW [] rfl rfl) rfl rfl hl.1 rfl (lv_room (Nat.le_of_ble_eq_true rfl)) d_ruleOfSigns_71 ⟨Nat.le_of_ble_eq_true rfl, Nat.le_of_ble_eq_true rfl⟩) (fun H locs hW => ?_)
                  refine lv_if_eq (tgt := 93) hx hb d_ruleOfSigns_74 (by decide) (fun c_12 => ?_) (fun c_12 => ?_)
                  · rw [if_pos c_12] at heq
                    exact K93  H locs ls heq hW (lv_sub hl [0, 1, 2] rfl)
                  · rw [if_neg c_12] at heq
                    refine lv_aload_n hx hb d_ruleOfSigns_77 rfl (lv_at hl 0 rfl) ?_
                    refine va_get (D := D) (C := R_P) (T := F_P) (N := 11) hx hb hts i_P hown hW.1 hW.2.1 0 rfl rfl 7 (by decide) (hts _ w_44) (fun _ h9 => h9) rfl d_ruleOfSigns_78 ?_
                    refine va_getN (D := D) (C := R_B) (T := F_B) (N := 6) hx hb hts i_B hown hW.1 hW.2.1 17 rfl rfl 3 (by decide) (va_Nw.use rfl (hW.2.2.2.2.2 _ w_58)) (fun _ h9 => h9) rfl d_ruleOfSigns_81 ?_
                    refine lv_bipush (v := 28) hx hb d_ruleOfSigns_84 (by decide) ?_
                    refine lv_icmp_ne (tgt := 93) hx hb d_ruleOfSigns_86 (by decide) (fun c_13 => ?_) (fun c_13 => ?_)
                    · rw [if_neg c_13] at heq
                      exact K93  H locs ls heq hW (lv_sub hl [0, 1, 2] rfl)
                    · rw [if_pos c_13] at heq
                      refine lv_sipush (v := 211) hx hb d_ruleOfSigns_89 (by decide) ?_
                      exact X _ () H locs 0 0 92 ls heq hW d_ruleOfSigns_92 rfl (Nat.le_of_ble_eq_true rfl) (Nat.le_of_ble_eq_true rfl)
                · rw [if_pos c_11] at heq
                  refine lv_sipush (v := 210) hx hb d_ruleOfSigns_63 (by decide) ?_
                  exact X _ () H locs 0 0 66 ls heq hW d_ruleOfSigns_66 rfl (Nat.le_of_ble_eq_true rfl) (Nat.le_of_ble_eq_true rfl)
          · rw [if_pos c_8] at heq
            refine lv_sipush (v := 200) hx hb d_ruleOfSigns_37 (by decide) ?_
            exact X _ () H locs 0 0 40 ls heq hW d_ruleOfSigns_40 rfl (Nat.le_of_ble_eq_true rfl) (Nat.le_of_ble_eq_true rfl)
      · rw [if_pos c_6] at heq
        refine lv_sipush (v := 190) hx hb d_ruleOfSigns_21 (by decide) ?_
        exact X _ () H locs 0 0 24 ls heq hW d_ruleOfSigns_24 rfl (Nat.le_of_ble_eq_true rfl) (Nat.le_of_ble_eq_true rfl)
  · rw [if_pos c_4] at heq
    refine lv_sipush (v := 180) hx hb d_ruleOfSigns_5 (by decide) ?_
    exact X _ () H locs 0 0 8 ls heq hW d_ruleOfSigns_8 rfl (Nat.le_of_ble_eq_true rfl) (Nat.le_of_ble_eq_true rfl)
def mm_ruleOfMarks_94 (x1 x2 x3 : Int32) (fa2 la2 va2 : Nat → Int32) (mn2 : Int32) (fa3 la3 va3 : Nat → Int32) (mn3 b3 b6 : Int32) : Int32 := if x2 = 31 then (if x1 = 30 then 302 else (if (mm_isMarked b3 fa3 la3 va3 mn3) = 0 then 0 else 302)) else 0
def mm_ruleOfMarks_68 (x1 x2 x3 : Int32) (fa2 la2 va2 : Nat → Int32) (mn2 : Int32) (fa3 la3 va3 : Nat → Int32) (mn3 b3 b6 : Int32) : Int32 := if x1 = 37 then (if x2 = 37 then (if b6 = 0 then (mm_ruleOfMarks_94 x1 x2 x3 fa2 la2 va2 mn2 fa3 la3 va3 mn3 b3 b6) else 301) else (mm_ruleOfMarks_94 x1 x2 x3 fa2 la2 va2 mn2 fa3 la3 va3 mn3 b3 b6)) else (mm_ruleOfMarks_94 x1 x2 x3 fa2 la2 va2 mn2 fa3 la3 va3 mn3 b3 b6)
def mm_ruleOfMarks_31 (x1 x2 x3 : Int32) (fa2 la2 va2 : Nat → Int32) (mn2 : Int32) (fa3 la3 va3 : Nat → Int32) (mn3 b3 b6 : Int32) : Int32 := if x1 = 16 then (if (mm_isIn x2 411041792) = 0 then (mm_ruleOfMarks_68 x1 x2 x3 fa2 la2 va2 mn2 fa3 la3 va3 mn3 b3 b6) else (if (mm_isMarked b3 fa2 la2 va2 mn2) = 0 then 300 else (mm_ruleOfMarks_68 x1 x2 x3 fa2 la2 va2 mn2 fa3 la3 va3 mn3 b3 b6))) else (mm_ruleOfMarks_68 x1 x2 x3 fa2 la2 va2 mn2 fa3 la3 va3 mn3 b3 b6)
def mm_ruleOfMarks (x1 x2 x3 : Int32) (fa2 la2 va2 : Nat → Int32) (mn2 : Int32) (fa3 la3 va3 : Nat → Int32) (mn3 b3 b6 : Int32) : Int32 := if (mm_isIn x1 411041792) = 0 then (mm_ruleOfMarks_31 x1 x2 x3 fa2 la2 va2 mn2 fa3 la3 va3 mn3 b3 b6) else (if x2 = 20 then (if (mm_isMarked x3 fa2 la2 va2 mn2) = 0 then 300 else (mm_ruleOfMarks_31 x1 x2 x3 fa2 la2 va2 mn2 fa3 la3 va3 mn3 b3 b6)) else (mm_ruleOfMarks_31 x1 x2 x3 fa2 la2 va2 mn2 fa3 la3 va3 mn3 b3 b6))
def rm_ruleOfMarks : Room := { frames := 2, cells := 0, slots := 0, locals := 44 }
set_option maxHeartbeats 4000000 in
set_option maxRecDepth 100000 in
theorem c_ruleOfMarks (l : Launch) (D : va_G) (cI : ClassId) (cL : ClassId × ClassId) (h : Nat → Nat) (tx cs rl gv fa1 la1 va1 : Nat → Int32) (mn1 : Int32) (fa2 la2 va2 : Nat → Int32) (mn2 : Int32) (fa3 la3 va3 : Nat → Int32) (mn3 b1 b2 b3 b4 b5 b6 ln lo kn x1 x2 x3 : Int32) (z_mn2 : Int) (v_mn2 : gk_v mn2 z_mn2) (z_mn3 : Int) (v_mn3 : gk_v mn3 z_mn3) (hm2 : 0 ≤ z_mn2 ∧ z_mn2 ≤ 40) (hm3 : 0 ≤ z_mn3 ∧ z_mn3 ≤ 40) : gk_I l y_ruleOfMarks (.code y_ruleOfMarks b_ruleOfMarks 4 (some .int) :: wA) rm_ruleOfMarks D vwCl (gk_T cI cL) [.ref (h 0), .int x1, .int x2, .int x3] (wd_P cI h tx cs rl gv fa1 la1 va1 mn1 fa2 la2 va2 mn2 fa3 la3 va3 mn3 b1 b2 b3 b4 b5 b6 ln lo kn) (fun (r : Int32) (_ : Unit) => r = mm_ruleOfMarks x1 x2 x3 fa2 la2 va2 mn2 fa3 la3 va3 mn3 b3 b6) (fun (_ : Unit) => (wd_P cI h tx cs rl gv fa1 la1 va1 mn1 fa2 la2 va2 mn2 fa3 la3 va3 mn3 b1 b2 b3 b4 b5 b6 ln lo kn)) 0 0 := by
  refine gk_I.of (by decide) (Nat.le_of_ble_eq_true rfl) ?_
  intro p e s m below meth c A ls Q H locs hx hb hml hown hts hW hl X
  have hl : lv_has ls 4 [(0, .ref (h 0)), (1, .int x1), (2, .int x2), (3, .int x3)] := hl
  obtain ⟨tgt, heq⟩ : ∃ t, mm_ruleOfMarks x1 x2 x3 fa2 la2 va2 mn2 fa3 la3 va3 mn3 b3 b6 = t := ⟨_, rfl⟩
  rw [heq] at X
  rw [mm_ruleOfMarks] at heq
  have K94 : ∀ (H : Heap) (locs : List Loc) (ls : Array Slot), mm_ruleOfMarks_94 x1 x2 x3 fa2 la2 va2 mn2 fa3 la3 va3 mn3 b3 b6 = tgt → gk_W D vwCl (gk_T cI cL) s A H locs (wd_P cI h tx cs rl gv fa1 la1 va1 mn1 fa2 la2 va2 mn2 fa3 la3 va3 mn3 b1 b2 b3 b4 b5 b6 ln lo kn) → lv_has ls 4 [(0, .ref (h 0)), (1, .int x1), (2, .int x2), (3, .int x3)] → W p l e rm_ruleOfMarks s m [.ref (h 0), .int x1, .int x2, .int x3].toArray below meth c H locs 0 0 Q (F0 m 94 ls []) := by
    intro  H locs ls heq hW hl
    rw [mm_ruleOfMarks_94] at heq
    refine lv_iload_n hx hb d_ruleOfMarks_94 rfl (lv_at hl 2 rfl) ?_
    refine lv_bipush (v := 31) hx hb d_ruleOfMarks_95 (by decide) ?_
    refine lv_icmp_ne (tgt := 127) hx hb d_ruleOfMarks_97 (by decide) (fun c_1 => ?_) (fun c_1 => ?_)
    · rw [if_neg c_1] at heq
      refine lv_iconst (v := 0) hx hb d_ruleOfMarks_127 (by decide) ?_
      exact X _ () H locs 0 0 128 ls heq hW d_ruleOfMarks_128 rfl (Nat.le_of_ble_eq_true rfl) (Nat.le_of_ble_eq_true rfl)
    · rw [if_pos c_1] at heq
      refine lv_iload_n hx hb d_ruleOfMarks_100 rfl (lv_at hl 1 rfl) ?_
      refine lv_bipush (v := 30) hx hb d_ruleOfMarks_101 (by decide) ?_
      refine lv_icmp_eq (tgt := 123) hx hb d_ruleOfMarks_103 (by decide) (fun c_2 => ?_) (fun c_2 => ?_)
      · rw [if_pos c_2] at heq
        refine lv_sipush (v := 302) hx hb d_ruleOfMarks_123 (by decide) ?_
        exact X _ () H locs 0 0 126 ls heq hW d_ruleOfMarks_126 rfl (Nat.le_of_ble_eq_true rfl) (Nat.le_of_ble_eq_true rfl)
      · rw [if_neg c_2] at heq
        refine lv_aload_n hx hb d_ruleOfMarks_106 rfl (lv_at hl 0 rfl) ?_
        refine va_get (D := D) (C := R_P) (T := F_P) (N := 11) hx hb hts i_P hown hW.1 hW.2.1 0 rfl rfl 6 (by decide) (hts _ w_60) (fun _ h9 => h9) rfl d_ruleOfMarks_107 ?_
        refine lv_aload_n hx hb d_ruleOfMarks_110 rfl (lv_at hl 0 rfl) ?_
        refine va_get (D := D) (C := R_P) (T := F_P) (N := 11) hx hb hts i_P hown hW.1 hW.2.1 0 rfl rfl 7 (by decide) (hts _ w_44) (fun _ h9 => h9) rfl d_ruleOfMarks_111 ?_
        refine va_getN (D := D) (C := R_B) (T := F_B) (N := 6) hx hb hts i_B hown hW.1 hW.2.1 17 rfl rfl 2 (by decide) (va_Nw.use rfl (hW.2.2.2.2.2 _ w_61)) (fun _ h9 => h9) rfl d_ruleOfMarks_114 ?_
        refine gk_goR hW [13, 14, 15, 16] rfl (va_runS (As := [.ref (h 13), .int b3]) (rest := []) ⟨hx, hb, hml, hown, hts⟩ (c_isMarked l D cI cL 40 (h 13) (h 14) (h 15) (h 16) fa3 la3 va3 mn3 b3 z_mn3 v_mn3 (by omega) (by omega) _) (gk_cwS hts w_62 w_63 w_3 k_isMarked rfl e_isMarked rfl rfl ⟨Nat.le_of_ble_eq_true rfl, Nat.le_of_ble_eq_true rfl⟩) (gk_pre hW [13, 14, 15, 16] rfl rfl) rfl rfl hl.1 rfl (lv_room (Nat.le_of_ble_eq_true rfl)) d_ruleOfMarks_117 ⟨Nat.le_of_ble_eq_true rfl, Nat.le_of_ble_eq_true rfl⟩) (fun H locs hW => ?_)
        refine lv_if_eq (tgt := 127) hx hb d_ruleOfMarks_120 (by decide) (fun c_3 => ?_) (fun c_3 => ?_)
        · rw [if_pos c_3] at heq
          refine lv_iconst (v := 0) hx hb d_ruleOfMarks_127 (by decide) ?_
          exact X _ () H locs 0 0 128 ls heq hW d_ruleOfMarks_128 rfl (Nat.le_of_ble_eq_true rfl) (Nat.le_of_ble_eq_true rfl)
        · rw [if_neg c_3] at heq
          refine lv_sipush (v := 302) hx hb d_ruleOfMarks_123 (by decide) ?_
          exact X _ () H locs 0 0 126 ls heq hW d_ruleOfMarks_126 rfl (Nat.le_of_ble_eq_true rfl) (Nat.le_of_ble_eq_true rfl)
  have K68 : ∀ (H : Heap) (locs : List Loc) (ls : Array Slot), mm_ruleOfMarks_68 x1 x2 x3 fa2 la2 va2 mn2 fa3 la3 va3 mn3 b3 b6 = tgt → gk_W D vwCl (gk_T cI cL) s A H locs (wd_P cI h tx cs rl gv fa1 la1 va1 mn1 fa2 la2 va2 mn2 fa3 la3 va3 mn3 b1 b2 b3 b4 b5 b6 ln lo kn) → lv_has ls 4 [(0, .ref (h 0)), (1, .int x1), (2, .int x2), (3, .int x3)] → W p l e rm_ruleOfMarks s m [.ref (h 0), .int x1, .int x2, .int x3].toArray below meth c H locs 0 0 Q (F0 m 68 ls []) := by
    intro  H locs ls heq hW hl
    rw [mm_ruleOfMarks_68] at heq
    refine lv_iload_n hx hb d_ruleOfMarks_68 rfl (lv_at hl 1 rfl) ?_
    refine lv_bipush (v := 37) hx hb d_ruleOfMarks_69 (by decide) ?_
    refine lv_icmp_ne (tgt := 94) hx hb d_ruleOfMarks_71 (by decide) (fun c_4 => ?_) (fun c_4 => ?_)
    · rw [if_neg c_4] at heq
      exact K94  H locs ls heq hW (lv_sub hl [0, 1, 2, 3] rfl)
    · rw [if_pos c_4] at heq
      refine lv_iload_n hx hb d_ruleOfMarks_74 rfl (lv_at hl 2 rfl) ?_
      refine lv_bipush (v := 37) hx hb d_ruleOfMarks_75 (by decide) ?_
      refine lv_icmp_ne (tgt := 94) hx hb d_ruleOfMarks_77 (by decide) (fun c_5 => ?_) (fun c_5 => ?_)
      · rw [if_neg c_5] at heq
        exact K94  H locs ls heq hW (lv_sub hl [0, 1, 2, 3] rfl)
      · rw [if_pos c_5] at heq
        refine lv_aload_n hx hb d_ruleOfMarks_80 rfl (lv_at hl 0 rfl) ?_
        refine va_get (D := D) (C := R_P) (T := F_P) (N := 11) hx hb hts i_P hown hW.1 hW.2.1 0 rfl rfl 7 (by decide) (hts _ w_44) (fun _ h9 => h9) rfl d_ruleOfMarks_81 ?_
        refine va_getN (D := D) (C := R_B) (T := F_B) (N := 6) hx hb hts i_B hown hW.1 hW.2.1 17 rfl rfl 5 (by decide) (va_Nw.use rfl (hW.2.2.2.2.2 _ w_64)) (fun _ h9 => h9) rfl d_ruleOfMarks_84 ?_
        refine lv_if_eq (tgt := 94) hx hb d_ruleOfMarks_87 (by decide) (fun c_6 => ?_) (fun c_6 => ?_)
        · rw [if_pos c_6] at heq
          exact K94  H locs ls heq hW (lv_sub hl [0, 1, 2, 3] rfl)
        · rw [if_neg c_6] at heq
          refine lv_sipush (v := 301) hx hb d_ruleOfMarks_90 (by decide) ?_
          exact X _ () H locs 0 0 93 ls heq hW d_ruleOfMarks_93 rfl (Nat.le_of_ble_eq_true rfl) (Nat.le_of_ble_eq_true rfl)
  have K31 : ∀ (H : Heap) (locs : List Loc) (ls : Array Slot), mm_ruleOfMarks_31 x1 x2 x3 fa2 la2 va2 mn2 fa3 la3 va3 mn3 b3 b6 = tgt → gk_W D vwCl (gk_T cI cL) s A H locs (wd_P cI h tx cs rl gv fa1 la1 va1 mn1 fa2 la2 va2 mn2 fa3 la3 va3 mn3 b1 b2 b3 b4 b5 b6 ln lo kn) → lv_has ls 4 [(0, .ref (h 0)), (1, .int x1), (2, .int x2), (3, .int x3)] → W p l e rm_ruleOfMarks s m [.ref (h 0), .int x1, .int x2, .int x3].toArray below meth c H locs 0 0 Q (F0 m 31 ls []) := by
    intro  H locs ls heq hW hl
    rw [mm_ruleOfMarks_31] at heq
    refine lv_iload_n hx hb d_ruleOfMarks_31 rfl (lv_at hl 1 rfl) ?_
    refine lv_bipush (v := 16) hx hb d_ruleOfMarks_32 (by decide) ?_
    refine lv_icmp_ne (tgt := 68) hx hb d_ruleOfMarks_34 (by decide) (fun c_7 => ?_) (fun c_7 => ?_)
    · rw [if_neg c_7] at heq
      exact K68  H locs ls heq hW (lv_sub hl [0, 1, 2, 3] rfl)
    · rw [if_pos c_7] at heq
      refine lv_iload_n hx hb d_ruleOfMarks_37 rfl (lv_at hl 2 rfl) ?_
      refine lv_ldc2 (v := 411041792) hx hb hown (hts _ w_59) d_ruleOfMarks_38 ?_
      refine gk_goR hW [] rfl (va_runS (As := [.int x2, .long 411041792]) (rest := []) ⟨hx, hb, hml, hown, hts⟩ (c_isIn l D cI cL x2 411041792 _) (gk_cwS hts w_5 w_6 w_3 k_isIn rfl e_isIn rfl rfl ⟨Nat.le_of_ble_eq_true rfl, Nat.le_of_ble_eq_true rfl⟩) (gk_pre hW [] rfl rfl) rfl rfl hl.1 rfl (lv_room (Nat.le_of_ble_eq_true rfl)) d_ruleOfMarks_41 ⟨Nat.le_of_ble_eq_true rfl, Nat.le_of_ble_eq_true rfl⟩) (fun H locs hW => ?_)
      refine lv_if_eq (tgt := 68) hx hb d_ruleOfMarks_44 (by decide) (fun c_8 => ?_) (fun c_8 => ?_)
      · rw [if_pos c_8] at heq
        exact K68  H locs ls heq hW (lv_sub hl [0, 1, 2, 3] rfl)
      · rw [if_neg c_8] at heq
        refine lv_aload_n hx hb d_ruleOfMarks_47 rfl (lv_at hl 0 rfl) ?_
        refine va_get (D := D) (C := R_P) (T := F_P) (N := 11) hx hb hts i_P hown hW.1 hW.2.1 0 rfl rfl 5 (by decide) (hts _ w_65) (fun _ h9 => h9) rfl d_ruleOfMarks_48 ?_
        refine lv_aload_n hx hb d_ruleOfMarks_51 rfl (lv_at hl 0 rfl) ?_
        refine va_get (D := D) (C := R_P) (T := F_P) (N := 11) hx hb hts i_P hown hW.1 hW.2.1 0 rfl rfl 7 (by decide) (hts _ w_44) (fun _ h9 => h9) rfl d_ruleOfMarks_52 ?_
        refine va_getN (D := D) (C := R_B) (T := F_B) (N := 6) hx hb hts i_B hown hW.1 hW.2.1 17 rfl rfl 2 (by decide) (va_Nw.use rfl (hW.2.2.2.2.2 _ w_61)) (fun _ h9 => h9) rfl d_ruleOfMarks_55 ?_
        refine gk_goR hW [9, 10, 11, 12] rfl (va_runS (As := [.ref (h 9), .int b3]) (rest := []) ⟨hx, hb, hml, hown, hts⟩ (c_isMarked l D cI cL 40 (h 9) (h 10) (h 11) (h 12) fa2 la2 va2 mn2 b3 z_mn2 v_mn2 (by omega) (by omega) _) (gk_cwS hts w_62 w_63 w_3 k_isMarked rfl e_isMarked rfl rfl ⟨Nat.le_of_ble_eq_true rfl, Nat.le_of_ble_eq_true rfl⟩) (gk_pre hW [9, 10, 11, 12] rfl rfl) rfl rfl hl.1 rfl (lv_room (Nat.le_of_ble_eq_true rfl)) d_ruleOfMarks_58 ⟨Nat.le_of_ble_eq_true rfl, Nat.le_of_ble_eq_true rfl⟩) (fun H locs hW => ?_)
        refine lv_if_ne (tgt := 68) hx hb d_ruleOfMarks_61 (by decide) (fun c_9 => ?_) (fun c_9 => ?_)
        · rw [if_neg c_9] at heq
          exact K68  H locs ls heq hW (lv_sub hl [0, 1, 2, 3] rfl)
        · rw [if_pos c_9] at heq
          refine lv_sipush (v := 300) hx hb d_ruleOfMarks_64 (by decide) ?_
          exact X _ () H locs 0 0 67 ls heq hW d_ruleOfMarks_67 rfl (Nat.le_of_ble_eq_true rfl) (Nat.le_of_ble_eq_true rfl)
  refine lv_iload_n hx hb d_ruleOfMarks_0 rfl (lv_at hl 1 rfl) ?_
  refine lv_ldc2 (v := 411041792) hx hb hown (hts _ w_59) d_ruleOfMarks_1 ?_
  refine gk_goR hW [] rfl (va_runS (As := [.int x1, .long 411041792]) (rest := []) ⟨hx, hb, hml, hown, hts⟩ (c_isIn l D cI cL x1 411041792 _) (gk_cwS hts w_5 w_6 w_3 k_isIn rfl e_isIn rfl rfl ⟨Nat.le_of_ble_eq_true rfl, Nat.le_of_ble_eq_true rfl⟩) (gk_pre hW [] rfl rfl) rfl rfl hl.1 rfl (lv_room (Nat.le_of_ble_eq_true rfl)) d_ruleOfMarks_4 ⟨Nat.le_of_ble_eq_true rfl, Nat.le_of_ble_eq_true rfl⟩) (fun H locs hW => ?_)
  refine lv_if_eq (tgt := 31) hx hb d_ruleOfMarks_7 (by decide) (fun c_10 => ?_) (fun c_10 => ?_)
  · rw [if_pos c_10] at heq
    exact K31  H locs ls heq hW (lv_sub hl [0, 1, 2, 3] rfl)
  · rw [if_neg c_10] at heq
    refine lv_iload_n hx hb d_ruleOfMarks_10 rfl (lv_at hl 2 rfl) ?_
    refine lv_bipush (v := 20) hx hb d_ruleOfMarks_11 (by decide) ?_
    refine lv_icmp_ne (tgt := 31) hx hb d_ruleOfMarks_13 (by decide) (fun c_11 => ?_) (fun c_11 => ?_)
    · rw [if_neg c_11] at heq
      exact K31  H locs ls heq hW (lv_sub hl [0, 1, 2, 3] rfl)
    · rw [if_pos c_11] at heq
      refine lv_aload_n hx hb d_ruleOfMarks_16 rfl (lv_at hl 0 rfl) ?_
      refine va_get (D := D) (C := R_P) (T := F_P) (N := 11) hx hb hts i_P hown hW.1 hW.2.1 0 rfl rfl 5 (by decide) (hts _ w_65) (fun _ h9 => h9) rfl d_ruleOfMarks_17 ?_
      refine lv_iload_n hx hb d_ruleOfMarks_20 rfl (lv_at hl 3 rfl) ?_
      refine gk_goR hW [9, 10, 11, 12] rfl (va_runS (As := [.ref (h 9), .int x3]) (rest := []) ⟨hx, hb, hml, hown, hts⟩ (c_isMarked l D cI cL 40 (h 9) (h 10) (h 11) (h 12) fa2 la2 va2 mn2 x3 z_mn2 v_mn2 (by omega) (by omega) _) (gk_cwS hts w_62 w_63 w_3 k_isMarked rfl e_isMarked rfl rfl ⟨Nat.le_of_ble_eq_true rfl, Nat.le_of_ble_eq_true rfl⟩) (gk_pre hW [9, 10, 11, 12] rfl rfl) rfl rfl hl.1 rfl (lv_room (Nat.le_of_ble_eq_true rfl)) d_ruleOfMarks_21 ⟨Nat.le_of_ble_eq_true rfl, Nat.le_of_ble_eq_true rfl⟩) (fun H locs hW => ?_)
      refine lv_if_ne (tgt := 31) hx hb d_ruleOfMarks_24 (by decide) (fun c_12 => ?_) (fun c_12 => ?_)
      · rw [if_neg c_12] at heq
        exact K31  H locs ls heq hW (lv_sub hl [0, 1, 2, 3] rfl)
      · rw [if_pos c_12] at heq
        refine lv_sipush (v := 300) hx hb d_ruleOfMarks_27 (by decide) ?_
        exact X _ () H locs 0 0 30 ls heq hW d_ruleOfMarks_30 rfl (Nat.le_of_ble_eq_true rfl) (Nat.le_of_ble_eq_true rfl)
end
section
def mm_findRule_119 (x1 x2 : Int32) (fa2 la2 va2 : Nat → Int32) (mn2 : Int32) (fa3 la3 va3 : Nat → Int32) (mn3 b1 b2 b3 b4 b5 b6 x3 x4 : Int32) : Int32 := if x3 = 0 then 310 else x3
def mm_findRule_100 (x1 x2 : Int32) (fa2 la2 va2 : Nat → Int32) (mn2 : Int32) (fa3 la3 va3 : Nat → Int32) (mn3 b1 b2 b3 b4 b5 b6 x3 x4 : Int32) : Int32 := if x3 = 0 then (mm_findRule_119 x1 x2 fa2 la2 va2 mn2 fa3 la3 va3 mn3 b1 b2 b3 b4 b5 b6 (mm_ruleOfMarks b2 x4 x2 fa2 la2 va2 mn2 fa3 la3 va3 mn3 b3 b6) x4) else (mm_findRule_119 x1 x2 fa2 la2 va2 mn2 fa3 la3 va3 mn3 b1 b2 b3 b4 b5 b6 x3 x4)
def mm_findRule_83 (x1 x2 : Int32) (fa2 la2 va2 : Nat → Int32) (mn2 : Int32) (fa3 la3 va3 : Nat → Int32) (mn3 b1 b2 b3 b4 b5 b6 x3 x4 : Int32) : Int32 := if x3 = 0 then (mm_findRule_100 x1 x2 fa2 la2 va2 mn2 fa3 la3 va3 mn3 b1 b2 b3 b4 b5 b6 (mm_ruleOfWords b2 x4) x4) else (mm_findRule_100 x1 x2 fa2 la2 va2 mn2 fa3 la3 va3 mn3 b1 b2 b3 b4 b5 b6 x3 x4)
def mm_findRule_66 (x1 x2 : Int32) (fa2 la2 va2 : Nat → Int32) (mn2 : Int32) (fa3 la3 va3 : Nat → Int32) (mn3 b1 b2 b3 b4 b5 b6 x3 x4 : Int32) : Int32 := if x3 = 0 then (mm_findRule_83 x1 x2 fa2 la2 va2 mn2 fa3 la3 va3 mn3 b1 b2 b3 b4 b5 b6 (mm_ruleOfNumbers b2 x4) x4) else (mm_findRule_83 x1 x2 fa2 la2 va2 mn2 fa3 la3 va3 mn3 b1 b2 b3 b4 b5 b6 x3 x4)
def mm_findRule_48 (x1 x2 : Int32) (fa2 la2 va2 : Nat → Int32) (mn2 : Int32) (fa3 la3 va3 : Nat → Int32) (mn3 b1 b2 b3 b4 b5 b6 x3 x4 : Int32) : Int32 := if x3 = 0 then (mm_findRule_66 x1 x2 fa2 la2 va2 mn2 fa3 la3 va3 mn3 b1 b2 b3 b4 b5 b6 (mm_ruleOfSigns b2 x4 b4) x4) else (mm_findRule_66 x1 x2 fa2 la2 va2 mn2 fa3 la3 va3 mn3 b1 b2 b3 b4 b5 b6 x3 x4)
def mm_findRule (x1 x2 : Int32) (fa2 la2 va2 : Nat → Int32) (mn2 : Int32) (fa3 la3 va3 : Nat → Int32) (mn3 b1 b2 b3 b4 b5 b6 : Int32) : Int32 := if (mm_ruleOfSpaces x1 b1 b5) = 0 then (if (mm_ruleOfGlue b2 (mm_standsFor x1)) = 0 then (mm_findRule_48 x1 x2 fa2 la2 va2 mn2 fa3 la3 va3 mn3 b1 b2 b3 b4 b5 b6 (mm_ruleAcrossSpaces b5 (mm_standsFor x1)) (mm_standsFor x1)) else (mm_findRule_48 x1 x2 fa2 la2 va2 mn2 fa3 la3 va3 mn3 b1 b2 b3 b4 b5 b6 (mm_ruleOfGlue b2 (mm_standsFor x1)) (mm_standsFor x1))) else (mm_ruleOfSpaces x1 b1 b5)
def rm_findRule : Room := { frames := 3, cells := 0, slots := 0, locals := 67 }
set_option maxHeartbeats 4000000 in
set_option maxRecDepth 100000 in
theorem c_findRule (l : Launch) (D : va_G) (cI : ClassId) (cL : ClassId × ClassId) (h : Nat → Nat) (tx cs rl gv fa1 la1 va1 : Nat → Int32) (mn1 : Int32) (fa2 la2 va2 : Nat → Int32) (mn2 : Int32) (fa3 la3 va3 : Nat → Int32) (mn3 b1 b2 b3 b4 b5 b6 ln lo kn x1 x2 : Int32) (z_mn2 : Int) (v_mn2 : gk_v mn2 z_mn2) (z_mn3 : Int) (v_mn3 : gk_v mn3 z_mn3) (hm2 : 0 ≤ z_mn2 ∧ z_mn2 ≤ 40) (hm3 : 0 ≤ z_mn3 ∧ z_mn3 ≤ 40) : gk_I l y_findRule (.code y_findRule b_findRule 5 (some .int) :: wA) rm_findRule D vwCl (gk_T cI cL) [.ref (h 0), .int x1, .int x2] (wd_P cI h tx cs rl gv fa1 la1 va1 mn1 fa2 la2 va2 mn2 fa3 la3 va3 mn3 b1 b2 b3 b4 b5 b6 ln lo kn) (fun (r : Int32) (_ : Unit) => r = mm_findRule x1 x2 fa2 la2 va2 mn2 fa3 la3 va3 mn3 b1 b2 b3 b4 b5 b6) (fun (_ : Unit) => (wd_P cI h tx cs rl gv fa1 la1 va1 mn1 fa2 la2 va2 mn2 fa3 la3 va3 mn3 b1 b2 b3 b4 b5 b6 ln lo kn)) 0 0 := by
  refine gk_I.of (by decide) (Nat.le_of_ble_eq_true rfl) ?_
  intro p e s m below meth c A ls Q H locs hx hb hml hown hts hW hl X
  have hl : lv_has ls 5 [(0, .ref (h 0)), (1, .int x1), (2, .int x2)] := hl
  obtain ⟨tgt, heq⟩ : ∃ t, mm_findRule x1 x2 fa2 la2 va2 mn2 fa3 la3 va3 mn3 b1 b2 b3 b4 b5 b6 = t := ⟨_, rfl⟩
  rw [heq] at X
  rw [mm_findRule] at heq
  have K119 : ∀ (x3 x4 : Int32) (H : Heap) (locs : List Loc) (ls : Array Slot), mm_findRule_119 x1 x2 fa2 la2 va2 mn2 fa3 la3 va3 mn3 b1 b2 b3 b4 b5 b6 x3 x4 = tgt → gk_W D vwCl (gk_T cI cL) s A H locs (wd_P cI h tx cs rl gv fa1 la1 va1 mn1 fa2 la2 va2 mn2 fa3 la3 va3 mn3 b1 b2 b3 b4 b5 b6 ln lo kn) → lv_has ls 5 [(0, .ref (h 0)), (1, .int x1), (2, .int x2), (3, .int x3), (4, .int x4)] → W p l e rm_findRule s m [.ref (h 0), .int x1, .int x2].toArray below meth c H locs 0 0 Q (F0 m 119 ls []) := by
    intro x3 x4 H locs ls heq hW hl
    rw [mm_findRule_119] at heq
    refine lv_iload_n hx hb d_findRule_119 rfl (lv_at hl 3 rfl) ?_
    refine lv_if_ne (tgt := 129) hx hb d_findRule_120 (by decide) (fun c_1 => ?_) (fun c_1 => ?_)
    · rw [if_neg c_1] at heq
      refine lv_iload_n hx hb d_findRule_129 rfl (lv_at hl 3 rfl) ?_
      exact X _ () H locs 0 0 130 ls heq hW d_findRule_130 rfl (Nat.le_of_ble_eq_true rfl) (Nat.le_of_ble_eq_true rfl)
    · rw [if_pos c_1] at heq
      refine lv_sipush (v := 310) hx hb d_findRule_123 (by decide) ?_
      refine lv_goto (tgt := 130) hx hb d_findRule_126 (by decide) ?_
      exact X _ () H locs 0 0 130 ls heq hW d_findRule_130 rfl (Nat.le_of_ble_eq_true rfl) (Nat.le_of_ble_eq_true rfl)
  have K100 : ∀ (x3 x4 : Int32) (H : Heap) (locs : List Loc) (ls : Array Slot), mm_findRule_100 x1 x2 fa2 la2 va2 mn2 fa3 la3 va3 mn3 b1 b2 b3 b4 b5 b6 x3 x4 = tgt → gk_W D vwCl (gk_T cI cL) s A H locs (wd_P cI h tx cs rl gv fa1 la1 va1 mn1 fa2 la2 va2 mn2 fa3 la3 va3 mn3 b1 b2 b3 b4 b5 b6 ln lo kn) → lv_has ls 5 [(0, .ref (h 0)), (1, .int x1), (2, .int x2), (3, .int x3), (4, .int x4)] → W p l e rm_findRule s m [.ref (h 0), .int x1, .int x2].toArray below meth c H locs 0 0 Q (F0 m 100 ls []) := by
    intro x3 x4 H locs ls heq hW hl
    rw [mm_findRule_100] at heq
    refine lv_iload_n hx hb d_findRule_100 rfl (lv_at hl 3 rfl) ?_
    refine lv_if_ne (tgt := 119) hx hb d_findRule_101 (by decide) (fun c_2 => ?_) (fun c_2 => ?_)
    · rw [if_neg c_2] at heq
      exact K119 x3 x4 H locs ls heq hW (lv_sub hl [0, 1, 2, 3, 4] rfl)
    · rw [if_pos c_2] at heq
      refine lv_aload_n hx hb d_findRule_104 rfl (lv_at hl 0 rfl) ?_
      refine lv_aload_n hx hb d_findRule_105 rfl (lv_at hl 0 rfl) ?_
      refine va_get (D := D) (C := R_P) (T := F_P) (N := 11) hx hb hts i_P hown hW.1 hW.2.1 0 rfl rfl 7 (by decide) (hts _ w_44) (fun _ h9 => h9) rfl d_findRule_106 ?_
      refine va_getN (D := D) (C := R_B) (T := F_B) (N := 6) hx hb hts i_B hown hW.1 hW.2.1 17 rfl rfl 1 (by decide) (va_Nw.use rfl (hW.2.2.2.2.2 _ w_70)) (fun _ h9 => h9) rfl d_findRule_109 ?_
      refine lv_iload hx hb d_findRule_112 (lv_at hl 4 rfl) ?_
      refine lv_iload_n hx hb d_findRule_114 rfl (lv_at hl 2 rfl) ?_
      refine gk_goR hW [0, 1, 2, 3, 4, 5, 6, 7, 8, 9, 10, 11, 12, 13, 14, 15, 16, 17] rfl (va_runV (As := [.int b2, .int x4, .int x2]) (rest := []) ⟨hx, hb, hml, hown, hts⟩ (c_ruleOfMarks l D cI cL h tx cs rl gv fa1 la1 va1 mn1 fa2 la2 va2 mn2 fa3 la3 va3 mn3 b1 b2 b3 b4 b5 b6 ln lo kn b2 x4 x2 z_mn2 v_mn2 z_mn3 v_mn3 (by omega) (by omega) _) (gk_cwV hts w_73 w_74 w_75 w_3 k_ruleOfMarks rfl e_ruleOfMarks rfl rfl ⟨Nat.le_of_ble_eq_true rfl, Nat.le_of_ble_eq_true rfl⟩) (gk_preV hW [0, 1, 2, 3, 4, 5, 6, 7, 8, 9, 10, 11, 12, 13, 14, 15, 16, 17] rfl rfl rfl rfl) rfl rfl hl.1 rfl (lv_room (Nat.le_of_ble_eq_true rfl)) d_findRule_115 ⟨Nat.le_of_ble_eq_true rfl, Nat.le_of_ble_eq_true rfl⟩) (fun H locs hW => ?_)
      refine lv_istore_n (lv' := [(3, .int (mm_ruleOfMarks b2 x4 x2 fa2 la2 va2 mn2 fa3 la3 va3 mn3 b3 b6)), (0, .ref (h 0)), (1, .int x1), (2, .int x2), (4, .int x4)]) hx hb d_findRule_118 rfl hl (by decide) rfl (fun ls hl => ?_)
      exact K119 (mm_ruleOfMarks b2 x4 x2 fa2 la2 va2 mn2 fa3 la3 va3 mn3 b3 b6) x4 H locs ls heq hW (lv_sub hl [1, 2, 3, 0, 4] rfl)
  have K83 : ∀ (x3 x4 : Int32) (H : Heap) (locs : List Loc) (ls : Array Slot), mm_findRule_83 x1 x2 fa2 la2 va2 mn2 fa3 la3 va3 mn3 b1 b2 b3 b4 b5 b6 x3 x4 = tgt → gk_W D vwCl (gk_T cI cL) s A H locs (wd_P cI h tx cs rl gv fa1 la1 va1 mn1 fa2 la2 va2 mn2 fa3 la3 va3 mn3 b1 b2 b3 b4 b5 b6 ln lo kn) → lv_has ls 5 [(0, .ref (h 0)), (1, .int x1), (2, .int x2), (3, .int x3), (4, .int x4)] → W p l e rm_findRule s m [.ref (h 0), .int x1, .int x2].toArray below meth c H locs 0 0 Q (F0 m 83 ls []) := by
    intro x3 x4 H locs ls heq hW hl
    rw [mm_findRule_83] at heq
    refine lv_iload_n hx hb d_findRule_83 rfl (lv_at hl 3 rfl) ?_
    refine lv_if_ne (tgt := 100) hx hb d_findRule_84 (by decide) (fun c_3 => ?_) (fun c_3 => ?_)
    · rw [if_neg c_3] at heq
      exact K100 x3 x4 H locs ls heq hW (lv_sub hl [0, 1, 2, 3, 4] rfl)
    · rw [if_pos c_3] at heq
      refine lv_aload_n hx hb d_findRule_87 rfl (lv_at hl 0 rfl) ?_
      refine va_get (D := D) (C := R_P) (T := F_P) (N := 11) hx hb hts i_P hown hW.1 hW.2.1 0 rfl rfl 7 (by decide) (hts _ w_44) (fun _ h9 => h9) rfl d_findRule_88 ?_
      refine va_getN (D := D) (C := R_B) (T := F_B) (N := 6) hx hb hts i_B hown hW.1 hW.2.1 17 rfl rfl 1 (by decide) (va_Nw.use rfl (hW.2.2.2.2.2 _ w_70)) (fun _ h9 => h9) rfl d_findRule_91 ?_
      refine lv_iload hx hb d_findRule_94 (lv_at hl 4 rfl) ?_
      refine gk_goR hW [] rfl (va_runS (As := [.int b2, .int x4]) (rest := []) ⟨hx, hb, hml, hown, hts⟩ (c_ruleOfWords l D cI cL b2 x4 _) (gk_cwS hts w_76 w_77 w_3 k_ruleOfWords rfl e_ruleOfWords rfl rfl ⟨Nat.le_of_ble_eq_true rfl, Nat.le_of_ble_eq_true rfl⟩) (gk_pre hW [] rfl rfl) rfl rfl hl.1 rfl (lv_room (Nat.le_of_ble_eq_true rfl)) d_findRule_96 ⟨Nat.le_of_ble_eq_true rfl, Nat.le_of_ble_eq_true rfl⟩) (fun H locs hW => ?_)
      refine lv_istore_n (lv' := [(3, .int (mm_ruleOfWords b2 x4)), (0, .ref (h 0)), (1, .int x1), (2, .int x2), (4, .int x4)]) hx hb d_findRule_99 rfl hl (by decide) rfl (fun ls hl => ?_)
      exact K100 (mm_ruleOfWords b2 x4) x4 H locs ls heq hW (lv_sub hl [1, 2, 3, 0, 4] rfl)
  have K66 : ∀ (x3 x4 : Int32) (H : Heap) (locs : List Loc) (ls : Array Slot), mm_findRule_66 x1 x2 fa2 la2 va2 mn2 fa3 la3 va3 mn3 b1 b2 b3 b4 b5 b6 x3 x4 = tgt → gk_W D vwCl (gk_T cI cL) s A H locs (wd_P cI h tx cs rl gv fa1 la1 va1 mn1 fa2 la2 va2 mn2 fa3 la3 va3 mn3 b1 b2 b3 b4 b5 b6 ln lo kn) → lv_has ls 5 [(0, .ref (h 0)), (1, .int x1), (2, .int x2), (3, .int x3), (4, .int x4)] → W p l e rm_findRule s m [.ref (h 0), .int x1, .int x2].toArray below meth c H locs 0 0 Q (F0 m 66 ls []) := by
    intro x3 x4 H locs ls heq hW hl
    rw [mm_findRule_66] at heq
    refine lv_iload_n hx hb d_findRule_66 rfl (lv_at hl 3 rfl) ?_
    refine lv_if_ne (tgt := 83) hx hb d_findRule_67 (by decide) (fun c_4 => ?_) (fun c_4 => ?_)
    · rw [if_neg c_4] at heq
      exact K83 x3 x4 H locs ls heq hW (lv_sub hl [0, 1, 2, 3, 4] rfl)
    · rw [if_pos c_4] at heq
      refine lv_aload_n hx hb d_findRule_70 rfl (lv_at hl 0 rfl) ?_
      refine va_get (D := D) (C := R_P) (T := F_P) (N := 11) hx hb hts i_P hown hW.1 hW.2.1 0 rfl rfl 7 (by decide) (hts _ w_44) (fun _ h9 => h9) rfl d_findRule_71 ?_
      refine va_getN (D := D) (C := R_B) (T := F_B) (N := 6) hx hb hts i_B hown hW.1 hW.2.1 17 rfl rfl 1 (by decide) (va_Nw.use rfl (hW.2.2.2.2.2 _ w_70)) (fun _ h9 => h9) rfl d_findRule_74 ?_
      refine lv_iload hx hb d_findRule_77 (lv_at hl 4 rfl) ?_
      refine gk_goR hW [] rfl (va_runS (As := [.int b2, .int x4]) (rest := []) ⟨hx, hb, hml, hown, hts⟩ (c_ruleOfNumbers l D cI cL b2 x4 _) (gk_cwS hts w_78 w_79 w_3 k_ruleOfNumbers rfl e_ruleOfNumbers rfl rfl ⟨Nat.le_of_ble_eq_true rfl, Nat.le_of_ble_eq_true rfl⟩) (gk_pre hW [] rfl rfl) rfl rfl hl.1 rfl (lv_room (Nat.le_of_ble_eq_true rfl)) d_findRule_79 ⟨Nat.le_of_ble_eq_true rfl, Nat.le_of_ble_eq_true rfl⟩) (fun H locs hW => ?_)
      refine lv_istore_n (lv' := [(3, .int (mm_ruleOfNumbers b2 x4)), (0, .ref (h 0)), (1, .int x1), (2, .int x2), (4, .int x4)]) hx hb d_findRule_82 rfl hl (by decide) rfl (fun ls hl => ?_)
      exact K83 (mm_ruleOfNumbers b2 x4) x4 H locs ls heq hW (lv_sub hl [1, 2, 3, 0, 4] rfl)
  have K48 : ∀ (x3 x4 : Int32) (H : Heap) (locs : List Loc) (ls : Array Slot), mm_findRule_48 x1 x2 fa2 la2 va2 mn2 fa3 la3 va3 mn3 b1 b2 b3 b4 b5 b6 x3 x4 = tgt → gk_W D vwCl (gk_T cI cL) s A H locs (wd_P cI h tx cs rl gv fa1 la1 va1 mn1 fa2 la2 va2 mn2 fa3 la3 va3 mn3 b1 b2 b3 b4 b5 b6 ln lo kn) → lv_has ls 5 [(0, .ref (h 0)), (1, .int x1), (2, .int x2), (3, .int x3), (4, .int x4)] → W p l e rm_findRule s m [.ref (h 0), .int x1, .int x2].toArray below meth c H locs 0 0 Q (F0 m 48 ls []) := by
    intro x3 x4 H locs ls heq hW hl
    rw [mm_findRule_48] at heq
    refine lv_iload_n hx hb d_findRule_48 rfl (lv_at hl 3 rfl) ?_
    refine lv_if_ne (tgt := 66) hx hb d_findRule_49 (by decide) (fun c_5 => ?_) (fun c_5 => ?_)
    · rw [if_neg c_5] at heq
      exact K66 x3 x4 H locs ls heq hW (lv_sub hl [0, 1, 2, 3, 4] rfl)
    · rw [if_pos c_5] at heq
      refine lv_aload_n hx hb d_findRule_52 rfl (lv_at hl 0 rfl) ?_
      refine lv_aload_n hx hb d_findRule_53 rfl (lv_at hl 0 rfl) ?_
      refine va_get (D := D) (C := R_P) (T := F_P) (N := 11) hx hb hts i_P hown hW.1 hW.2.1 0 rfl rfl 7 (by decide) (hts _ w_44) (fun _ h9 => h9) rfl d_findRule_54 ?_
      refine va_getN (D := D) (C := R_B) (T := F_B) (N := 6) hx hb hts i_B hown hW.1 hW.2.1 17 rfl rfl 1 (by decide) (va_Nw.use rfl (hW.2.2.2.2.2 _ w_70)) (fun _ h9 => h9) rfl d_findRule_57 ?_
      refine lv_iload hx hb d_findRule_60 (lv_at hl 4 rfl) ?_
      refine gk_goR hW [0, 1, 2, 3, 4, 5, 6, 7, 8, 9, 10, 11, 12, 13, 14, 15, 16, 17] rfl (va_runV (As := [.int b2, .int x4]) (rest := []) ⟨hx, hb, hml, hown, hts⟩ (c_ruleOfSigns l D cI cL h tx cs rl gv fa1 la1 va1 mn1 fa2 la2 va2 mn2 fa3 la3 va3 mn3 b1 b2 b3 b4 b5 b6 ln lo kn b2 x4 _) (gk_cwV hts w_80 w_81 w_82 w_3 k_ruleOfSigns rfl e_ruleOfSigns rfl rfl ⟨Nat.le_of_ble_eq_true rfl, Nat.le_of_ble_eq_true rfl⟩) (gk_preV hW [0, 1, 2, 3, 4, 5, 6, 7, 8, 9, 10, 11, 12, 13, 14, 15, 16, 17] rfl rfl rfl rfl) rfl rfl hl.1 rfl (lv_room (Nat.le_of_ble_eq_true rfl)) d_findRule_62 ⟨Nat.le_of_ble_eq_true rfl, Nat.le_of_ble_eq_true rfl⟩) (fun H locs hW => ?_)
      refine lv_istore_n (lv' := [(3, .int (mm_ruleOfSigns b2 x4 b4)), (0, .ref (h 0)), (1, .int x1), (2, .int x2), (4, .int x4)]) hx hb d_findRule_65 rfl hl (by decide) rfl (fun ls hl => ?_)
      exact K66 (mm_ruleOfSigns b2 x4 b4) x4 H locs ls heq hW (lv_sub hl [1, 2, 3, 0, 4] rfl)
  refine lv_aload_n hx hb d_findRule_0 rfl (lv_at hl 0 rfl) ?_
  refine lv_iload_n hx hb d_findRule_1 rfl (lv_at hl 1 rfl) ?_
  refine gk_goR hW [0, 1, 2, 3, 4, 5, 6, 7, 8, 9, 10, 11, 12, 13, 14, 15, 16, 17] rfl (va_runV (As := [.int x1]) (rest := []) ⟨hx, hb, hml, hown, hts⟩ (c_ruleOfSpaces l D cI cL h tx cs rl gv fa1 la1 va1 mn1 fa2 la2 va2 mn2 fa3 la3 va3 mn3 b1 b2 b3 b4 b5 b6 ln lo kn x1 _) (gk_cwV hts w_66 w_67 w_68 w_3 k_ruleOfSpaces rfl e_ruleOfSpaces rfl rfl ⟨Nat.le_of_ble_eq_true rfl, Nat.le_of_ble_eq_true rfl⟩) (gk_preV hW [0, 1, 2, 3, 4, 5, 6, 7, 8, 9, 10, 11, 12, 13, 14, 15, 16, 17] rfl rfl rfl rfl) rfl rfl hl.1 rfl (lv_room (Nat.le_of_ble_eq_true rfl)) d_findRule_2 ⟨Nat.le_of_ble_eq_true rfl, Nat.le_of_ble_eq_true rfl⟩) (fun H locs hW => ?_)
  refine lv_istore_n (lv' := [(3, .int (mm_ruleOfSpaces x1 b1 b5)), (0, .ref (h 0)), (1, .int x1), (2, .int x2)]) hx hb d_findRule_5 rfl hl (by decide) rfl (fun ls hl => ?_)
  refine lv_iload_n hx hb d_findRule_6 rfl (lv_at hl 0 rfl) ?_
  refine lv_if_eq (tgt := 12) hx hb d_findRule_7 (by decide) (fun c_6 => ?_) (fun c_6 => ?_)
  · rw [if_pos c_6] at heq
    refine lv_iload_n hx hb d_findRule_12 rfl (lv_at hl 2 rfl) ?_
    refine gk_goR hW [] rfl (va_runS (As := [.int x1]) (rest := []) ⟨hx, hb, hml, hown, hts⟩ (c_standsFor l D cI cL x1 _) (gk_cwS hts w_69 w_41 w_3 k_standsFor rfl e_standsFor rfl rfl ⟨Nat.le_of_ble_eq_true rfl, Nat.le_of_ble_eq_true rfl⟩) (gk_pre hW [] rfl rfl) rfl rfl hl.1 rfl (lv_room (Nat.le_of_ble_eq_true rfl)) d_findRule_13 ⟨Nat.le_of_ble_eq_true rfl, Nat.le_of_ble_eq_true rfl⟩) (fun H locs hW => ?_)
    refine lv_istore (lv' := [(4, .int (mm_standsFor x1)), (3, .int (mm_ruleOfSpaces x1 b1 b5)), (0, .ref (h 0)), (1, .int x1), (2, .int x2)]) hx hb d_findRule_16 hl (by decide) rfl (fun ls hl => ?_)
    refine lv_aload_n hx hb d_findRule_18 rfl (lv_at hl 2 rfl) ?_
    refine va_get (D := D) (C := R_P) (T := F_P) (N := 11) hx hb hts i_P hown hW.1 hW.2.1 0 rfl rfl 7 (by decide) (hts _ w_44) (fun _ h9 => h9) rfl d_findRule_19 ?_
    refine va_getN (D := D) (C := R_B) (T := F_B) (N := 6) hx hb hts i_B hown hW.1 hW.2.1 17 rfl rfl 1 (by decide) (va_Nw.use rfl (hW.2.2.2.2.2 _ w_70)) (fun _ h9 => h9) rfl d_findRule_22 ?_
    refine lv_iload hx hb d_findRule_25 (lv_at hl 0 rfl) ?_
    refine gk_goR hW [] rfl (va_runS (As := [.int b2, .int (mm_standsFor x1)]) (rest := []) ⟨hx, hb, hml, hown, hts⟩ (c_ruleOfGlue l D cI cL b2 (mm_standsFor x1) _) (gk_cwS hts w_71 w_72 w_3 k_ruleOfGlue rfl e_ruleOfGlue rfl rfl ⟨Nat.le_of_ble_eq_true rfl, Nat.le_of_ble_eq_true rfl⟩) (gk_pre hW [] rfl rfl) rfl rfl hl.1 rfl (lv_room (Nat.le_of_ble_eq_true rfl)) d_findRule_27 ⟨Nat.le_of_ble_eq_true rfl, Nat.le_of_ble_eq_true rfl⟩) (fun H locs hW => ?_)
    refine lv_istore_n (lv' := [(3, .int (mm_ruleOfGlue b2 (mm_standsFor x1))), (4, .int (mm_standsFor x1)), (0, .ref (h 0)), (1, .int x1), (2, .int x2)]) hx hb d_findRule_30 rfl hl (by decide) rfl (fun ls hl => ?_)
    refine lv_iload_n hx hb d_findRule_31 rfl (lv_at hl 0 rfl) ?_
    refine lv_if_ne (tgt := 48) hx hb d_findRule_32 (by decide) (fun c_7 => ?_) (fun c_7 => ?_)
    · rw [if_neg c_7] at heq
      exact K48 (mm_ruleOfGlue b2 (mm_standsFor x1)) (mm_standsFor x1) H locs ls heq hW (lv_sub hl [2, 3, 4, 0, 1] rfl)
    · rw [if_pos c_7] at heq
      refine lv_aload_n hx hb d_findRule_35 rfl (lv_at hl 2 rfl) ?_
      refine va_get (D := D) (C := R_P) (T := F_P) (N := 11) hx hb hts i_P hown hW.1 hW.2.1 0 rfl rfl 7 (by decide) (hts _ w_44) (fun _ h9 => h9) rfl d_findRule_36 ?_
      refine va_getN (D := D) (C := R_B) (T := F_B) (N := 6) hx hb hts i_B hown hW.1 hW.2.1 17 rfl rfl 4 (by decide) (va_Nw.use rfl (hW.2.2.2.2.2 _ w_56)) (fun _ h9 => h9) rfl d_findRule_39 ?_
      refine lv_iload hx hb d_findRule_42 (lv_at hl 1 rfl) ?_
      refine gk_goR hW [] rfl (va_runS (As := [.int b5, .int (mm_standsFor x1)]) (rest := []) ⟨hx, hb, hml, hown, hts⟩ (c_ruleAcrossSpaces l D cI cL b5 (mm_standsFor x1) _) (gk_cwS hts w_83 w_84 w_3 k_ruleAcrossSpaces rfl e_ruleAcrossSpaces rfl rfl ⟨Nat.le_of_ble_eq_true rfl, Nat.le_of_ble_eq_true rfl⟩) (gk_pre hW [] rfl rfl) rfl rfl hl.1 rfl (lv_room (Nat.le_of_ble_eq_true rfl)) d_findRule_44 ⟨Nat.le_of_ble_eq_true rfl, Nat.le_of_ble_eq_true rfl⟩) (fun H locs hW => ?_)
      refine lv_istore_n (lv' := [(3, .int (mm_ruleAcrossSpaces b5 (mm_standsFor x1))), (4, .int (mm_standsFor x1)), (0, .ref (h 0)), (1, .int x1), (2, .int x2)]) hx hb d_findRule_47 rfl hl (by decide) rfl (fun ls hl => ?_)
      exact K48 (mm_ruleAcrossSpaces b5 (mm_standsFor x1)) (mm_standsFor x1) H locs ls heq hW (lv_sub hl [2, 3, 4, 0, 1] rfl)
  · rw [if_neg c_6] at heq
    refine lv_iload_n hx hb d_findRule_10 rfl (lv_at hl 0 rfl) ?_
    exact X _ () H locs 0 0 11 ls heq hW d_findRule_11 rfl (Nat.le_of_ble_eq_true rfl) (Nat.le_of_ble_eq_true rfl)
end
section
def mm_take_40 (x1 x2 x3 x4 x5 : Int32) : Nat → Int32 → (Nat → Int32) → Int32 × (Nat → Int32)
  | 0, x6, gv => (0, gv)
  | n + 1, x6, gv => if 5 ≤ x6 then (5, gv) else (if (gv x6.toNatClampNeg) = (-1) then (x6, gv) else (mm_take_40 x1 x2 x3 x4 x5 n (x6 + 1) gv))
def mm_take (x1 x2 x3 x4 x5 : Int32) (gv : Nat → Int32) : Int32 × (Nat → Int32) := mm_take_40 x1 x2 x3 x4 x5 6 0 (upd (upd (upd (upd (upd gv (0 : Int32).toNatClampNeg x1) (1 : Int32).toNatClampNeg x2) (2 : Int32).toNatClampNeg x3) (3 : Int32).toNatClampNeg x4) (4 : Int32).toNatClampNeg x5)
def rm_take : Room := { frames := 0, cells := 0, slots := 0, locals := 0 }
set_option maxHeartbeats 4000000 in
set_option maxRecDepth 100000 in
theorem c_take (l : Launch) (D : va_G) (cI : ClassId) (cL : ClassId × ClassId) (h : Nat → Nat) (tx cs rl gv fa1 la1 va1 : Nat → Int32) (mn1 : Int32) (fa2 la2 va2 : Nat → Int32) (mn2 : Int32) (fa3 la3 va3 : Nat → Int32) (mn3 b1 b2 b3 b4 b5 b6 ln lo kn x1 x2 x3 x4 x5 : Int32) : gk_I l y_take (.code y_take b_take 7 (some .int) :: wA) rm_take D vwCl (gk_T cI cL) [.ref (h 0), .int x1, .int x2, .int x3, .int x4, .int x5] (wd_P cI h tx cs rl gv fa1 la1 va1 mn1 fa2 la2 va2 mn2 fa3 la3 va3 mn3 b1 b2 b3 b4 b5 b6 ln lo kn) (fun (r : Int32) (u : (Nat → Int32)) => (r, u) = mm_take x1 x2 x3 x4 x5 gv) (fun u => (wd_P cI h tx cs rl u fa1 la1 va1 mn1 fa2 la2 va2 mn2 fa3 la3 va3 mn3 b1 b2 b3 b4 b5 b6 ln lo kn)) 0 0 := by
  refine gk_I.of (by decide) (Nat.le_of_ble_eq_true rfl) ?_
  intro p e s m below meth c A ls Q H locs hx hb hml hown hts hW hl X
  have hl : lv_has ls 7 [(0, .ref (h 0)), (1, .int x1), (2, .int x2), (3, .int x3), (4, .int x4), (5, .int x5)] := hl
  obtain ⟨tgt, heq⟩ : ∃ t, mm_take x1 x2 x3 x4 x5 gv = t := ⟨_, rfl⟩
  rw [heq] at X
  rw [mm_take] at heq
  obtain ⟨z_x1, v_x1⟩ := gk_vex x1
  obtain ⟨z_x2, v_x2⟩ := gk_vex x2
  obtain ⟨z_x3, v_x3⟩ := gk_vex x3
  obtain ⟨z_x4, v_x4⟩ := gk_vex x4
  obtain ⟨z_x5, v_x5⟩ := gk_vex x5
  have L40 : ∀ (n : Nat) (x6 : Int32) (gv : Nat → Int32) (H : Heap) (locs : List Loc) (ls : Array Slot), ∀ (z_x6 : Int), gk_v x6 z_x6 → (5 - z_x6) < (n : Int) → 0 ≤ z_x6 ∧ z_x6 ≤ 5 → mm_take_40 x1 x2 x3 x4 x5 n x6 gv = tgt → gk_W D vwCl (gk_T cI cL) s A H locs (wd_P cI h tx cs rl gv fa1 la1 va1 mn1 fa2 la2 va2 mn2 fa3 la3 va3 mn3 b1 b2 b3 b4 b5 b6 ln lo kn) → lv_has ls 7 [(0, .ref (h 0)), (1, .int x1), (2, .int x2), (3, .int x3), (4, .int x4), (5, .int x5), (6, .int x6)] → W p l e rm_take s m [.ref (h 0), .int x1, .int x2, .int x3, .int x4, .int x5].toArray below meth c H locs 0 0 Q (F0 m 40 ls []) := by
    intro n
    induction n with
    | zero => intro x6 gv H locs ls z_x6 v_x6 hm f40_0 heq hW hl; exfalso; omega
    | succ n ih =>
      intro x6 gv H locs ls z_x6 v_x6 hm f40_0 heq hW hl
      rw [mm_take_40] at heq
      refine lv_iload hx hb d_take_40 (lv_at hl 6 rfl) ?_
      refine lv_iconst (v := 5) hx hb d_take_42 (by decide) ?_
      refine lv_icmp_ge (tgt := 66) hx hb d_take_43 (by decide) (fun c_1 => ?_) (fun c_1 => ?_)
      · rw [if_pos c_1] at heq
        have ic_1 := gk_le (show gk_v 5 5 from rfl) v_x6 c_1
        refine lv_iconst (v := 5) hx hb d_take_66 (by decide) ?_
        exact X _ gv H locs 0 0 67 ls heq hW d_take_67 rfl (Nat.le_of_ble_eq_true rfl) (Nat.le_of_ble_eq_true rfl)
      · rw [if_neg c_1] at heq
        have ic_1 := gk_nle (show gk_v 5 5 from rfl) v_x6 c_1
        refine lv_aload_n hx hb d_take_46 rfl (lv_at hl 0 rfl) ?_
        refine va_get (D := D) (C := R_P) (T := F_P) (N := 11) hx hb hts i_P hown hW.1 hW.2.1 0 rfl rfl 3 (by decide) (hts _ w_85) (fun _ h9 => h9) rfl d_take_47 ?_
        refine lv_iload hx hb d_take_50 (lv_at hl 6 rfl) ?_
        refine va_iald hx hb hW.1 hW.2.1 4 0 rfl rfl (i := x6) (gk_in v_x6 (by omega) (by omega)) d_take_52 ?_
        refine lv_iconst (v := (-1)) hx hb d_take_53 (by decide) ?_
        refine lv_icmp_ne (tgt := 60) hx hb d_take_54 (by decide) (fun c_2 => ?_) (fun c_2 => ?_)
        · rw [if_neg c_2] at heq
          refine lv_iinc (v := x6 + 1) (lv' := [(6, .int (x6 + 1)), (0, .ref (h 0)), (1, .int x1), (2, .int x2), (3, .int x3), (4, .int x4), (5, .int x5)]) hx hb d_take_60 hl (k := 6) rfl rfl (by decide) rfl (fun ls hl => ?_)
          obtain ⟨zt_3, vt_3, et_3⟩ := gk_add v_x6 (show gk_v 1 1 from rfl) (by omega) (by omega)
          refine lv_goto (tgt := 40) hx hb d_take_63 (by decide) ?_
          exact ih (x6 + 1) gv H locs ls zt_3 vt_3 (by omega) (by omega) heq hW (lv_sub hl [1, 2, 3, 4, 5, 6, 0] rfl)
        · rw [if_pos c_2] at heq
          refine lv_iload hx hb d_take_57 (lv_at hl 6 rfl) ?_
          exact X _ gv H locs 0 0 59 ls heq hW d_take_59 rfl (Nat.le_of_ble_eq_true rfl) (Nat.le_of_ble_eq_true rfl)
  refine lv_aload_n hx hb d_take_0 rfl (lv_at hl 0 rfl) ?_
  refine va_get (D := D) (C := R_P) (T := F_P) (N := 11) hx hb hts i_P hown hW.1 hW.2.1 0 rfl rfl 3 (by decide) (hts _ w_85) (fun _ h9 => h9) rfl d_take_1 ?_
  refine lv_iconst (v := 0) hx hb d_take_4 (by decide) ?_
  refine lv_iload_n hx hb d_take_5 rfl (lv_at hl 1 rfl) ?_
  refine va_iast hx hb hW.1 hW.2.1 hW.2.2.1 hW.2.2.2.1 4 0 rfl rfl (i := 0) (x := x1) (gk_in (show gk_v 0 0 from rfl) (by omega) (by omega)) d_take_6 (fun H locs hP hD hS => ?_)
  have hW : gk_W D vwCl (gk_T cI cL) s A H locs (wd_P cI h tx cs rl (upd gv (0 : Int32).toNatClampNeg x1) fa1 la1 va1 mn1 fa2 la2 va2 mn2 fa3 la3 va3 mn3 b1 b2 b3 b4 b5 b6 ln lo kn) := ⟨hW.1, hP, hD, hS, hW.2.2.2.2⟩
  refine lv_aload_n hx hb d_take_7 rfl (lv_at hl 0 rfl) ?_
  refine va_get (D := D) (C := R_P) (T := F_P) (N := 11) hx hb hts i_P hown hW.1 hW.2.1 0 rfl rfl 3 (by decide) (hts _ w_85) (fun _ h9 => h9) rfl d_take_8 ?_
  refine lv_iconst (v := 1) hx hb d_take_11 (by decide) ?_
  refine lv_iload_n hx hb d_take_12 rfl (lv_at hl 2 rfl) ?_
  refine va_iast hx hb hW.1 hW.2.1 hW.2.2.1 hW.2.2.2.1 4 0 rfl rfl (i := 1) (x := x2) (gk_in (show gk_v 1 1 from rfl) (by omega) (by omega)) d_take_13 (fun H locs hP hD hS => ?_)
  have hW : gk_W D vwCl (gk_T cI cL) s A H locs (wd_P cI h tx cs rl (upd (upd gv (0 : Int32).toNatClampNeg x1) (1 : Int32).toNatClampNeg x2) fa1 la1 va1 mn1 fa2 la2 va2 mn2 fa3 la3 va3 mn3 b1 b2 b3 b4 b5 b6 ln lo kn) := ⟨hW.1, hP, hD, hS, hW.2.2.2.2⟩
  refine lv_aload_n hx hb d_take_14 rfl (lv_at hl 0 rfl) ?_
  refine va_get (D := D) (C := R_P) (T := F_P) (N := 11) hx hb hts i_P hown hW.1 hW.2.1 0 rfl rfl 3 (by decide) (hts _ w_85) (fun _ h9 => h9) rfl d_take_15 ?_
  refine lv_iconst (v := 2) hx hb d_take_18 (by decide) ?_
  refine lv_iload_n hx hb d_take_19 rfl (lv_at hl 3 rfl) ?_
  refine va_iast hx hb hW.1 hW.2.1 hW.2.2.1 hW.2.2.2.1 4 0 rfl rfl (i := 2) (x := x3) (gk_in (show gk_v 2 2 from rfl) (by omega) (by omega)) d_take_20 (fun H locs hP hD hS => ?_)
  have hW : gk_W D vwCl (gk_T cI cL) s A H locs (wd_P cI h tx cs rl (upd (upd (upd gv (0 : Int32).toNatClampNeg x1) (1 : Int32).toNatClampNeg x2) (2 : Int32).toNatClampNeg x3) fa1 la1 va1 mn1 fa2 la2 va2 mn2 fa3 la3 va3 mn3 b1 b2 b3 b4 b5 b6 ln lo kn) := ⟨hW.1, hP, hD, hS, hW.2.2.2.2⟩
  refine lv_aload_n hx hb d_take_21 rfl (lv_at hl 0 rfl) ?_
  refine va_get (D := D) (C := R_P) (T := F_P) (N := 11) hx hb hts i_P hown hW.1 hW.2.1 0 rfl rfl 3 (by decide) (hts _ w_85) (fun _ h9 => h9) rfl d_take_22 ?_
  refine lv_iconst (v := 3) hx hb d_take_25 (by decide) ?_
  refine lv_iload hx hb d_take_26 (lv_at hl 4 rfl) ?_
  refine va_iast hx hb hW.1 hW.2.1 hW.2.2.1 hW.2.2.2.1 4 0 rfl rfl (i := 3) (x := x4) (gk_in (show gk_v 3 3 from rfl) (by omega) (by omega)) d_take_28 (fun H locs hP hD hS => ?_)
  have hW : gk_W D vwCl (gk_T cI cL) s A H locs (wd_P cI h tx cs rl (upd (upd (upd (upd gv (0 : Int32).toNatClampNeg x1) (1 : Int32).toNatClampNeg x2) (2 : Int32).toNatClampNeg x3) (3 : Int32).toNatClampNeg x4) fa1 la1 va1 mn1 fa2 la2 va2 mn2 fa3 la3 va3 mn3 b1 b2 b3 b4 b5 b6 ln lo kn) := ⟨hW.1, hP, hD, hS, hW.2.2.2.2⟩
  refine lv_aload_n hx hb d_take_29 rfl (lv_at hl 0 rfl) ?_
  refine va_get (D := D) (C := R_P) (T := F_P) (N := 11) hx hb hts i_P hown hW.1 hW.2.1 0 rfl rfl 3 (by decide) (hts _ w_85) (fun _ h9 => h9) rfl d_take_30 ?_
  refine lv_iconst (v := 4) hx hb d_take_33 (by decide) ?_
  refine lv_iload hx hb d_take_34 (lv_at hl 5 rfl) ?_
  refine va_iast hx hb hW.1 hW.2.1 hW.2.2.1 hW.2.2.2.1 4 0 rfl rfl (i := 4) (x := x5) (gk_in (show gk_v 4 4 from rfl) (by omega) (by omega)) d_take_36 (fun H locs hP hD hS => ?_)
  have hW : gk_W D vwCl (gk_T cI cL) s A H locs (wd_P cI h tx cs rl (upd (upd (upd (upd (upd gv (0 : Int32).toNatClampNeg x1) (1 : Int32).toNatClampNeg x2) (2 : Int32).toNatClampNeg x3) (3 : Int32).toNatClampNeg x4) (4 : Int32).toNatClampNeg x5) fa1 la1 va1 mn1 fa2 la2 va2 mn2 fa3 la3 va3 mn3 b1 b2 b3 b4 b5 b6 ln lo kn) := ⟨hW.1, hP, hD, hS, hW.2.2.2.2⟩
  refine lv_iconst (v := 0) hx hb d_take_37 (by decide) ?_
  refine lv_istore (lv' := [(6, .int 0), (0, .ref (h 0)), (1, .int x1), (2, .int x2), (3, .int x3), (4, .int x4), (5, .int x5)]) hx hb d_take_38 hl (by decide) rfl (fun ls hl => ?_)
  exact L40 6 0 (upd (upd (upd (upd (upd gv (0 : Int32).toNatClampNeg x1) (1 : Int32).toNatClampNeg x2) (2 : Int32).toNatClampNeg x3) (3 : Int32).toNatClampNeg x4) (4 : Int32).toNatClampNeg x5) H locs ls 0 (show gk_v 0 0 from rfl) (by omega) (by omega) heq hW (lv_sub hl [1, 2, 3, 4, 5, 6, 0] rfl)
def mm_areCharacters_2 (x1 : Int32) (gv : Nat → Int32) : Nat → Int32 → Int32
  | 0, x2 => 0
  | n + 1, x2 => if x1 ≤ x2 then 1 else (if 5 ≤ x2 then 1 else (if (mm_isCharacter (gv x2.toNatClampNeg)) = 0 then 0 else (mm_areCharacters_2 x1 gv n (x2 + 1))))
def mm_areCharacters (x1 : Int32) (gv : Nat → Int32) : Int32 := mm_areCharacters_2 x1 gv 6 0
def rm_areCharacters : Room := { frames := 1, cells := 0, slots := 0, locals := 20 }
set_option maxHeartbeats 4000000 in
set_option maxRecDepth 100000 in
theorem c_areCharacters (l : Launch) (D : va_G) (cI : ClassId) (cL : ClassId × ClassId) (h : Nat → Nat) (tx cs rl gv fa1 la1 va1 : Nat → Int32) (mn1 : Int32) (fa2 la2 va2 : Nat → Int32) (mn2 : Int32) (fa3 la3 va3 : Nat → Int32) (mn3 b1 b2 b3 b4 b5 b6 ln lo kn x1 : Int32) : gk_I l y_areCharacters (.code y_areCharacters b_areCharacters 3 (some .boolean) :: wA) rm_areCharacters D vwCl (gk_T cI cL) [.ref (h 0), .int x1] (wd_P cI h tx cs rl gv fa1 la1 va1 mn1 fa2 la2 va2 mn2 fa3 la3 va3 mn3 b1 b2 b3 b4 b5 b6 ln lo kn) (fun (r : Int32) (_ : Unit) => r = mm_areCharacters x1 gv) (fun (_ : Unit) => (wd_P cI h tx cs rl gv fa1 la1 va1 mn1 fa2 la2 va2 mn2 fa3 la3 va3 mn3 b1 b2 b3 b4 b5 b6 ln lo kn)) 0 0 := by
  refine gk_I.of (by decide) (Nat.le_of_ble_eq_true rfl) ?_
  intro p e s m below meth c A ls Q H locs hx hb hml hown hts hW hl X
  have hl : lv_has ls 3 [(0, .ref (h 0)), (1, .int x1)] := hl
  obtain ⟨tgt, heq⟩ : ∃ t, mm_areCharacters x1 gv = t := ⟨_, rfl⟩
  rw [heq] at X
  rw [mm_areCharacters] at heq
  obtain ⟨z_x1, v_x1⟩ := gk_vex x1
  have L2 : ∀ (n : Nat) (x2 : Int32) (H : Heap) (locs : List Loc) (ls : Array Slot), ∀ (z_x2 : Int), gk_v x2 z_x2 → (5 - z_x2) < (n : Int) → 0 ≤ z_x2 ∧ z_x2 ≤ 5 → mm_areCharacters_2 x1 gv n x2 = tgt → gk_W D vwCl (gk_T cI cL) s A H locs (wd_P cI h tx cs rl gv fa1 la1 va1 mn1 fa2 la2 va2 mn2 fa3 la3 va3 mn3 b1 b2 b3 b4 b5 b6 ln lo kn) → lv_has ls 3 [(0, .ref (h 0)), (1, .int x1), (2, .int x2)] → W p l e rm_areCharacters s m [.ref (h 0), .int x1].toArray below meth c H locs 0 0 Q (F0 m 2 ls []) := by
    intro n
    induction n with
    | zero => intro x2 H locs ls z_x2 v_x2 hm f2_0 heq hW hl; exfalso; omega
    | succ n ih =>
      intro x2 H locs ls z_x2 v_x2 hm f2_0 heq hW hl
      rw [mm_areCharacters_2] at heq
      refine lv_iload_n hx hb d_areCharacters_2 rfl (lv_at hl 2 rfl) ?_
      refine lv_iload_n hx hb d_areCharacters_3 rfl (lv_at hl 1 rfl) ?_
      refine lv_icmp_ge (tgt := 32) hx hb d_areCharacters_4 (by decide) (fun c_1 => ?_) (fun c_1 => ?_)
      · rw [if_pos c_1] at heq
        have ic_1 := gk_le v_x1 v_x2 c_1
        refine lv_iconst (v := 1) hx hb d_areCharacters_32 (by decide) ?_
        exact X _ () H locs 0 0 33 ls heq hW d_areCharacters_33 rfl (Nat.le_of_ble_eq_true rfl) (Nat.le_of_ble_eq_true rfl)
      · rw [if_neg c_1] at heq
        have ic_1 := gk_nle v_x1 v_x2 c_1
        refine lv_iload_n hx hb d_areCharacters_7 rfl (lv_at hl 2 rfl) ?_
        refine lv_iconst (v := 5) hx hb d_areCharacters_8 (by decide) ?_
        refine lv_icmp_ge (tgt := 32) hx hb d_areCharacters_9 (by decide) (fun c_2 => ?_) (fun c_2 => ?_)
        · rw [if_pos c_2] at heq
          have ic_2 := gk_le (show gk_v 5 5 from rfl) v_x2 c_2
          refine lv_iconst (v := 1) hx hb d_areCharacters_32 (by decide) ?_
          exact X _ () H locs 0 0 33 ls heq hW d_areCharacters_33 rfl (Nat.le_of_ble_eq_true rfl) (Nat.le_of_ble_eq_true rfl)
        · rw [if_neg c_2] at heq
          have ic_2 := gk_nle (show gk_v 5 5 from rfl) v_x2 c_2
          refine lv_aload_n hx hb d_areCharacters_12 rfl (lv_at hl 0 rfl) ?_
          refine va_get (D := D) (C := R_P) (T := F_P) (N := 11) hx hb hts i_P hown hW.1 hW.2.1 0 rfl rfl 3 (by decide) (hts _ w_85) (fun _ h9 => h9) rfl d_areCharacters_13 ?_
          refine lv_iload_n hx hb d_areCharacters_16 rfl (lv_at hl 2 rfl) ?_
          refine va_iald hx hb hW.1 hW.2.1 4 0 rfl rfl (i := x2) (gk_in v_x2 (by omega) (by omega)) d_areCharacters_17 ?_
          refine gk_goR hW [] rfl (va_runS (As := [.int (gv x2.toNatClampNeg)]) (rest := []) ⟨hx, hb, hml, hown, hts⟩ (c_isCharacter l D cI cL (gv x2.toNatClampNeg) _) (gk_cwS hts w_1 w_2 w_3 k_isCharacter rfl e_isCharacter rfl rfl ⟨Nat.le_of_ble_eq_true rfl, Nat.le_of_ble_eq_true rfl⟩) (gk_pre hW [] rfl rfl) rfl rfl hl.1 rfl (lv_room (Nat.le_of_ble_eq_true rfl)) d_areCharacters_18 ⟨Nat.le_of_ble_eq_true rfl, Nat.le_of_ble_eq_true rfl⟩) (fun H locs hW => ?_)
          refine lv_if_ne (tgt := 26) hx hb d_areCharacters_21 (by decide) (fun c_3 => ?_) (fun c_3 => ?_)
          · rw [if_neg c_3] at heq
            refine lv_iinc (v := x2 + 1) (lv' := [(2, .int (x2 + 1)), (0, .ref (h 0)), (1, .int x1)]) hx hb d_areCharacters_26 hl (k := 2) rfl rfl (by decide) rfl (fun ls hl => ?_)
            obtain ⟨zt_4, vt_4, et_4⟩ := gk_add v_x2 (show gk_v 1 1 from rfl) (by omega) (by omega)
            refine lv_goto (tgt := 2) hx hb d_areCharacters_29 (by decide) ?_
            exact ih (x2 + 1) H locs ls zt_4 vt_4 (by omega) (by omega) heq hW (lv_sub hl [1, 2, 0] rfl)
          · rw [if_pos c_3] at heq
            refine lv_iconst (v := 0) hx hb d_areCharacters_24 (by decide) ?_
            exact X _ () H locs 0 0 25 ls heq hW d_areCharacters_25 rfl (Nat.le_of_ble_eq_true rfl) (Nat.le_of_ble_eq_true rfl)
  refine lv_iconst (v := 0) hx hb d_areCharacters_0 (by decide) ?_
  refine lv_istore_n (lv' := [(2, .int 0), (0, .ref (h 0)), (1, .int x1)]) hx hb d_areCharacters_1 rfl hl (by decide) rfl (fun ls hl => ?_)
  exact L2 6 0 H locs ls 0 (show gk_v 0 0 from rfl) (by omega) (by omega) heq hW (lv_sub hl [1, 2, 0] rfl)
def mm_putGiven_109 (x1 x2 x3 : Int32) (gv fa1 la1 va1 : Nat → Int32) (mn1 x4 x5 : Int32) (tx cs : Nat → Int32) (b1 b2 b3 b4 b5 b6 ln kn : Int32) : (Nat → Int32) × (Nat → Int32) × Int32 × Int32 × Int32 × Int32 × Int32 × Int32 × Int32 × Int32 := if kn ≤ x1 then (tx, cs, b1, b2, b3, b4, b5, b6, (x1 + x3) + x4, kn) else (match (mm_forgetRules b1 b2 b3 b4 b5 b6 kn) with | (u_2, u_3, u_4, u_5, u_6, u_7, u_8) => (tx, cs, u_2, u_3, u_4, u_5, u_6, u_7, (x1 + x3) + x4, u_8))
def mm_putGiven_50 (x1 x2 x3 : Int32) (gv fa1 la1 va1 : Nat → Int32) (mn1 : Int32) : Nat → Int32 → Int32 → (Nat → Int32) → (Nat → Int32) → Int32 → Int32 → Int32 → Int32 → Int32 → Int32 → Int32 → Int32 → (Nat → Int32) × (Nat → Int32) × Int32 × Int32 × Int32 × Int32 × Int32 × Int32 × Int32 × Int32
  | 0, x4, x5, tx, cs, b1, b2, b3, b4, b5, b6, ln, kn => (tx, cs, b1, b2, b3, b4, b5, b6, ln, kn)
  | n + 1, x4, x5, tx, cs, b1, b2, b3, b4, b5, b6, ln, kn => if x3 ≤ x5 then (mm_putGiven_109 x1 x2 x3 gv fa1 la1 va1 mn1 x4 x5 tx cs b1 b2 b3 b4 b5 b6 ln kn) else (if 5 ≤ x5 then (mm_putGiven_109 x1 x2 x3 gv fa1 la1 va1 mn1 x4 x5 tx cs b1 b2 b3 b4 b5 b6 ln kn) else (mm_putGiven_50 x1 x2 x3 gv fa1 la1 va1 mn1 n x4 (x5 + 1) (upd tx (x1 + x5).toNatClampNeg (gv x5.toNatClampNeg)) (upd cs (x1 + x5).toNatClampNeg (mm_rValueOf (gv x5.toNatClampNeg) 40 fa1 la1 va1 mn1)) b1 b2 b3 b4 b5 b6 ln kn))
def mm_putGiven (x1 x2 x3 : Int32) (tx cs gv fa1 la1 va1 : Nat → Int32) (mn1 b1 b2 b3 b4 b5 b6 ln kn : Int32) : (Nat → Int32) × (Nat → Int32) × Int32 × Int32 × Int32 × Int32 × Int32 × Int32 × Int32 × Int32 := if (ln - x2) ≤ 0 then (mm_putGiven_50 x1 x2 x3 gv fa1 la1 va1 mn1 6 (ln - x2) 0 tx cs b1 b2 b3 b4 b5 b6 ln kn) else (mm_putGiven_50 x1 x2 x3 gv fa1 la1 va1 mn1 6 (ln - x2) 0 (va_cpy tx tx x2.toNatClampNeg (x1 + x3).toNatClampNeg (ln - x2).toNatClampNeg) (va_cpy cs cs x2.toNatClampNeg (x1 + x3).toNatClampNeg (ln - x2).toNatClampNeg) b1 b2 b3 b4 b5 b6 ln kn)
def rm_putGiven : Room := { frames := 2, cells := 0, slots := 0, locals := 60 }
set_option maxHeartbeats 4000000 in
set_option maxRecDepth 100000 in
theorem c_putGiven (l : Launch) (D : va_G) (cI : ClassId) (cL : ClassId × ClassId) (h : Nat → Nat) (tx cs rl gv fa1 la1 va1 : Nat → Int32) (mn1 : Int32) (fa2 la2 va2 : Nat → Int32) (mn2 : Int32) (fa3 la3 va3 : Nat → Int32) (mn3 b1 b2 b3 b4 b5 b6 ln lo kn x1 x2 x3 : Int32) (z_ln : Int) (v_ln : gk_v ln z_ln) (z_mn1 : Int) (v_mn1 : gk_v mn1 z_mn1) (z_x1 : Int) (v_x1 : gk_v x1 z_x1) (z_x2 : Int) (v_x2 : gk_v x2 z_x2) (z_x3 : Int) (v_x3 : gk_v x3 z_x3) (hln : 0 ≤ z_ln ∧ z_ln ≤ 2000) (hm1 : 0 ≤ z_mn1 ∧ z_mn1 ≤ 100) (hpg : 0 ≤ z_x1 ∧ z_x1 ≤ z_x2 ∧ z_x2 ≤ z_ln ∧ 0 ≤ z_x3 ∧ z_x3 ≤ 5 ∧ z_ln - (z_x2 - z_x1) + z_x3 ≤ 2000) : gk_V l y_putGiven (.code y_putGiven b_putGiven 6 none :: wA) rm_putGiven D vwCl (gk_T cI cL) [.ref (h 0), .int x1, .int x2, .int x3] (wd_P cI h tx cs rl gv fa1 la1 va1 mn1 fa2 la2 va2 mn2 fa3 la3 va3 mn3 b1 b2 b3 b4 b5 b6 ln lo kn) (fun (u : (Nat → Int32) × (Nat → Int32) × Int32 × Int32 × Int32 × Int32 × Int32 × Int32 × Int32 × Int32) => u = mm_putGiven x1 x2 x3 tx cs gv fa1 la1 va1 mn1 b1 b2 b3 b4 b5 b6 ln kn) (fun u => (wd_P cI h u.1 u.2.1 rl gv fa1 la1 va1 mn1 fa2 la2 va2 mn2 fa3 la3 va3 mn3 u.2.2.1 u.2.2.2.1 u.2.2.2.2.1 u.2.2.2.2.2.1 u.2.2.2.2.2.2.1 u.2.2.2.2.2.2.2.1 u.2.2.2.2.2.2.2.2.1 lo u.2.2.2.2.2.2.2.2.2)) 0 0 := by
  refine gk_V.of (by decide) (Nat.le_of_ble_eq_true rfl) ?_
  intro p e s m below meth c A ls Q H locs hx hb hml hown hts hin hW hl X
  have hl : lv_has ls 6 [(0, .ref (h 0)), (1, .int x1), (2, .int x2), (3, .int x3)] := hl
  obtain ⟨tgt, heq⟩ : ∃ t, mm_putGiven x1 x2 x3 tx cs gv fa1 la1 va1 mn1 b1 b2 b3 b4 b5 b6 ln kn = t := ⟨_, rfl⟩
  rw [heq] at X
  rw [mm_putGiven] at heq
  obtain ⟨z_kn, v_kn⟩ := gk_vex kn
  have K109 : ∀ (x4 x5 : Int32) (tx cs : Nat → Int32) (b1 b2 b3 b4 b5 b6 ln kn : Int32) (H : Heap) (locs : List Loc) (ls : Array Slot), mm_putGiven_109 x1 x2 x3 gv fa1 la1 va1 mn1 x4 x5 tx cs b1 b2 b3 b4 b5 b6 ln kn = tgt → gk_W D vwCl (gk_T cI cL) s A H locs (wd_P cI h tx cs rl gv fa1 la1 va1 mn1 fa2 la2 va2 mn2 fa3 la3 va3 mn3 b1 b2 b3 b4 b5 b6 ln lo kn) → lv_has ls 6 [(0, .ref (h 0)), (1, .int x1), (2, .int x2), (3, .int x3), (4, .int x4), (5, .int x5)] → W p l e rm_putGiven s m [.ref (h 0), .int x1, .int x2, .int x3].toArray below meth c H locs 0 0 Q (F0 m 109 ls []) := by
    intro x4 x5 tx cs b1 b2 b3 b4 b5 b6 ln kn H locs ls heq hW hl
    rw [mm_putGiven_109] at heq
    refine lv_aload_n hx hb d_putGiven_109 rfl (lv_at hl 0 rfl) ?_
    refine lv_iload_n hx hb d_putGiven_110 rfl (lv_at hl 1 rfl) ?_
    refine lv_iload_n hx hb d_putGiven_111 rfl (lv_at hl 3 rfl) ?_
    refine lv_iadd hx hb d_putGiven_112 ?_
    refine lv_iload hx hb d_putGiven_113 (lv_at hl 4 rfl) ?_
    refine lv_iadd hx hb d_putGiven_115 ?_
    refine va_put (D := D) (ci := 0) (v := .int ((x1 + x3) + x4)) (ty := .int) (C := R_P) (T := F_P) (N := 11) hx hb hts i_P t_P t_P_ok n_P hown hW.1 hW.2.1 hW.2.2.1 hW.2.2.2.1 0 rfl rfl 8 (by decide) (hts _ w_42) (fun _ h9 => h9) rfl (by decide +kernel) rfl rfl (Nat.le_of_ble_eq_true rfl) d_putGiven_116 (fun H locs hP hD hS => ?_)
    have hW : gk_W D vwCl (gk_T cI cL) s A H locs (wd_P cI h tx cs rl gv fa1 la1 va1 mn1 fa2 la2 va2 mn2 fa3 la3 va3 mn3 b1 b2 b3 b4 b5 b6 ((x1 + x3) + x4) lo kn) := ⟨hW.1, hP, hD, hS, hW.2.2.2.2⟩
    refine lv_iload_n hx hb d_putGiven_119 rfl (lv_at hl 1 rfl) ?_
    refine lv_aload_n hx hb d_putGiven_120 rfl (lv_at hl 0 rfl) ?_
    refine va_get (D := D) (C := R_P) (T := F_P) (N := 11) hx hb hts i_P hown hW.1 hW.2.1 0 rfl rfl 10 (by decide) (hts _ w_43) (fun _ h9 => h9) rfl d_putGiven_121 ?_
    refine lv_icmp_ge (tgt := 131) hx hb d_putGiven_124 (by decide) (fun c_1 => ?_) (fun c_1 => ?_)
    · rw [if_pos c_1] at heq
      exact X (tx, cs, b1, b2, b3, b4, b5, b6, (x1 + x3) + x4, kn) H locs 0 0 131 ls heq hW d_putGiven_131 (Nat.le_of_ble_eq_true rfl) (Nat.le_of_ble_eq_true rfl)
    · rw [if_neg c_1] at heq
      refine lv_aload_n hx hb d_putGiven_127 rfl (lv_at hl 0 rfl) ?_
      refine gk_goV (wr := []) hW [0, 1, 2, 3, 4, 5, 6, 7, 8, 9, 10, 11, 12, 13, 14, 15, 16, 17] [] rfl rfl (by decide) (by decide) (va_runV (As := []) (rest := []) ⟨hx, hb, hml, hown, hts⟩ (c_forgetRules l D cI cL h tx cs rl gv fa1 la1 va1 mn1 fa2 la2 va2 mn2 fa3 la3 va3 mn3 b1 b2 b3 b4 b5 b6 ((x1 + x3) + x4) lo kn _) (gk_cwV hts w_86 w_87 w_88 w_3 k_forgetRules rfl e_forgetRules rfl rfl ⟨Nat.le_of_ble_eq_true rfl, Nat.le_of_ble_eq_true rfl⟩) (gk_preV hW [0, 1, 2, 3, 4, 5, 6, 7, 8, 9, 10, 11, 12, 13, 14, 15, 16, 17] rfl rfl rfl rfl) rfl rfl hl.1 rfl (lv_room (Nat.le_of_ble_eq_true rfl)) d_putGiven_128 ⟨Nat.le_of_ble_eq_true rfl, Nat.le_of_ble_eq_true rfl⟩) (fun u H locs p_9 hW => ?_)
      obtain ⟨u_2, u_3, u_4, u_5, u_6, u_7, u_8⟩ := u
      have hW : gk_W D vwCl (gk_T cI cL) s A H locs (wd_P cI h tx cs rl gv fa1 la1 va1 mn1 fa2 la2 va2 mn2 fa3 la3 va3 mn3 u_2 u_3 u_4 u_5 u_6 u_7 ((x1 + x3) + x4) lo u_8) := hW.re [0, 1, 2, 3, 4, 5, 6, 7, 8, 9, 10, 11, 12, 13, 14, 15, 16, 17] (by decide) rfl
      rw [← p_9] at heq
      dsimp only at heq
      exact X (tx, cs, u_2, u_3, u_4, u_5, u_6, u_7, (x1 + x3) + x4, u_8) H locs 0 0 131 ls heq hW d_putGiven_131 (Nat.le_of_ble_eq_true rfl) (Nat.le_of_ble_eq_true rfl)
  have L50 : ∀ (n : Nat) (x4 x5 : Int32) (tx cs : Nat → Int32) (b1 b2 b3 b4 b5 b6 ln kn : Int32) (H : Heap) (locs : List Loc) (ls : Array Slot), ∀ (z_x5 : Int), gk_v x5 z_x5 → (5 - z_x5) < (n : Int) → 0 ≤ z_x5 ∧ z_x5 ≤ 5 → mm_putGiven_50 x1 x2 x3 gv fa1 la1 va1 mn1 n x4 x5 tx cs b1 b2 b3 b4 b5 b6 ln kn = tgt → gk_W D vwCl (gk_T cI cL) s A H locs (wd_P cI h tx cs rl gv fa1 la1 va1 mn1 fa2 la2 va2 mn2 fa3 la3 va3 mn3 b1 b2 b3 b4 b5 b6 ln lo kn) → lv_has ls 6 [(0, .ref (h 0)), (1, .int x1), (2, .int x2), (3, .int x3), (4, .int x4), (5, .int x5)] → W p l e rm_putGiven s m [.ref (h 0), .int x1, .int x2, .int x3].toArray below meth c H locs 0 0 Q (F0 m 50 ls []) := by
    intro n
    induction n with
    | zero => intro x4 x5 tx cs b1 b2 b3 b4 b5 b6 ln kn H locs ls z_x5 v_x5 hm f50_0 heq hW hl; exfalso; omega
    | succ n ih =>
      intro x4 x5 tx cs b1 b2 b3 b4 b5 b6 ln kn H locs ls z_x5 v_x5 hm f50_0 heq hW hl
      rw [mm_putGiven_50] at heq
      refine lv_iload hx hb d_putGiven_50 (lv_at hl 5 rfl) ?_
      refine lv_iload_n hx hb d_putGiven_52 rfl (lv_at hl 3 rfl) ?_
      refine lv_icmp_ge (tgt := 109) hx hb d_putGiven_53 (by decide) (fun c_10 => ?_) (fun c_10 => ?_)
      · rw [if_pos c_10] at heq
        have ic_10 := gk_le v_x3 v_x5 c_10
        exact K109 x4 x5 tx cs b1 b2 b3 b4 b5 b6 ln kn H locs ls heq hW (lv_sub hl [0, 1, 2, 3, 4, 5] rfl)
      · rw [if_neg c_10] at heq
        have ic_10 := gk_nle v_x3 v_x5 c_10
        refine lv_iload hx hb d_putGiven_56 (lv_at hl 5 rfl) ?_
        refine lv_iconst (v := 5) hx hb d_putGiven_58 (by decide) ?_
        refine lv_icmp_ge (tgt := 109) hx hb d_putGiven_59 (by decide) (fun c_11 => ?_) (fun c_11 => ?_)
        · rw [if_pos c_11] at heq
          have ic_11 := gk_le (show gk_v 5 5 from rfl) v_x5 c_11
          exact K109 x4 x5 tx cs b1 b2 b3 b4 b5 b6 ln kn H locs ls heq hW (lv_sub hl [0, 1, 2, 3, 4, 5] rfl)
        · rw [if_neg c_11] at heq
          have ic_11 := gk_nle (show gk_v 5 5 from rfl) v_x5 c_11
          refine lv_aload_n hx hb d_putGiven_62 rfl (lv_at hl 0 rfl) ?_
          refine va_get (D := D) (C := R_P) (T := F_P) (N := 11) hx hb hts i_P hown hW.1 hW.2.1 0 rfl rfl 0 (by decide) (hts _ w_89) (fun _ h9 => h9) rfl d_putGiven_63 ?_
          refine lv_iload_n hx hb d_putGiven_66 rfl (lv_at hl 1 rfl) ?_
          refine lv_iload hx hb d_putGiven_67 (lv_at hl 5 rfl) ?_
          refine lv_iadd hx hb d_putGiven_69 ?_
          obtain ⟨zt_12, vt_12, et_12⟩ := gk_add v_x1 v_x5 (by omega) (by omega)
          refine lv_aload_n hx hb d_putGiven_70 rfl (lv_at hl 0 rfl) ?_
          refine va_get (D := D) (C := R_P) (T := F_P) (N := 11) hx hb hts i_P hown hW.1 hW.2.1 0 rfl rfl 3 (by decide) (hts _ w_85) (fun _ h9 => h9) rfl d_putGiven_71 ?_
          refine lv_iload hx hb d_putGiven_74 (lv_at hl 5 rfl) ?_
          refine va_iald hx hb hW.1 hW.2.1 4 0 rfl rfl (i := x5) (gk_in v_x5 (by omega) (by omega)) d_putGiven_76 ?_
          refine va_iast hx hb hW.1 hW.2.1 hW.2.2.1 hW.2.2.2.1 1 0 rfl rfl (i := x1 + x5) (x := gv x5.toNatClampNeg) (gk_in vt_12 (by omega) (by omega)) d_putGiven_77 (fun H locs hP hD hS => ?_)
          have hW : gk_W D vwCl (gk_T cI cL) s A H locs (wd_P cI h (upd tx (x1 + x5).toNatClampNeg (gv x5.toNatClampNeg)) cs rl gv fa1 la1 va1 mn1 fa2 la2 va2 mn2 fa3 la3 va3 mn3 b1 b2 b3 b4 b5 b6 ln lo kn) := ⟨hW.1, hP, hD, hS, hW.2.2.2.2⟩
          refine lv_aload_n hx hb d_putGiven_78 rfl (lv_at hl 0 rfl) ?_
          refine va_get (D := D) (C := R_P) (T := F_P) (N := 11) hx hb hts i_P hown hW.1 hW.2.1 0 rfl rfl 1 (by decide) (hts _ w_48) (fun _ h9 => h9) rfl d_putGiven_79 ?_
          refine lv_iload_n hx hb d_putGiven_82 rfl (lv_at hl 1 rfl) ?_
          refine lv_iload hx hb d_putGiven_83 (lv_at hl 5 rfl) ?_
          refine lv_iadd hx hb d_putGiven_85 ?_
          obtain ⟨zt_13, vt_13, et_13⟩ := gk_add v_x1 v_x5 (by omega) (by omega)
          refine lv_aload_n hx hb d_putGiven_86 rfl (lv_at hl 0 rfl) ?_
          refine va_get (D := D) (C := R_P) (T := F_P) (N := 11) hx hb hts i_P hown hW.1 hW.2.1 0 rfl rfl 4 (by decide) (hts _ w_90) (fun _ h9 => h9) rfl d_putGiven_87 ?_
          refine lv_aload_n hx hb d_putGiven_90 rfl (lv_at hl 0 rfl) ?_
          refine va_get (D := D) (C := R_P) (T := F_P) (N := 11) hx hb hts i_P hown hW.1 hW.2.1 0 rfl rfl 3 (by decide) (hts _ w_85) (fun _ h9 => h9) rfl d_putGiven_91 ?_
          refine lv_iload hx hb d_putGiven_94 (lv_at hl 5 rfl) ?_
          refine va_iald hx hb hW.1 hW.2.1 4 0 rfl rfl (i := x5) (gk_in v_x5 (by omega) (by omega)) d_putGiven_96 ?_
          refine lv_bipush (v := 40) hx hb d_putGiven_97 (by decide) ?_
          refine gk_goR hW [5, 6, 7, 8] rfl (va_runVN (As := [.int (gv x5.toNatClampNeg), .int 40]) (rest := [.int (x1 + x5), .ref (h 2)]) ⟨hx, hb, hml, hown, hts⟩ (c_rValueOf l D cI cL 100 (h 5) (h 6) (h 7) (h 8) fa1 la1 va1 mn1 (gv x5.toNatClampNeg) 40 z_mn1 v_mn1 (by omega) (by omega) _) (gk_cwVN hts hW.2.2.2.2.2 w_24 w_25 w_26 w_21 k_rValueOf e_rValueOf rfl rfl ⟨Nat.le_of_ble_eq_true rfl, Nat.le_of_ble_eq_true rfl⟩) (gk_preV hW [5, 6, 7, 8] rfl rfl rfl rfl) rfl rfl hl.1 rfl (lv_room (Nat.le_of_ble_eq_true rfl)) d_putGiven_99 ⟨Nat.le_of_ble_eq_true rfl, Nat.le_of_ble_eq_true rfl⟩) (fun H locs hW => ?_)
          refine va_iast hx hb hW.1 hW.2.1 hW.2.2.1 hW.2.2.2.1 2 0 rfl rfl (i := x1 + x5) (x := (mm_rValueOf (gv x5.toNatClampNeg) 40 fa1 la1 va1 mn1)) (gk_in vt_13 (by omega) (by omega)) d_putGiven_102 (fun H locs hP hD hS => ?_)
          have hW : gk_W D vwCl (gk_T cI cL) s A H locs (wd_P cI h (upd tx (x1 + x5).toNatClampNeg (gv x5.toNatClampNeg)) (upd cs (x1 + x5).toNatClampNeg (mm_rValueOf (gv x5.toNatClampNeg) 40 fa1 la1 va1 mn1)) rl gv fa1 la1 va1 mn1 fa2 la2 va2 mn2 fa3 la3 va3 mn3 b1 b2 b3 b4 b5 b6 ln lo kn) := ⟨hW.1, hP, hD, hS, hW.2.2.2.2⟩
          refine lv_iinc (v := x5 + 1) (lv' := [(5, .int (x5 + 1)), (0, .ref (h 0)), (1, .int x1), (2, .int x2), (3, .int x3), (4, .int x4)]) hx hb d_putGiven_103 hl (k := 5) rfl rfl (by decide) rfl (fun ls hl => ?_)
          obtain ⟨zt_14, vt_14, et_14⟩ := gk_add v_x5 (show gk_v 1 1 from rfl) (by omega) (by omega)
          refine lv_goto (tgt := 50) hx hb d_putGiven_106 (by decide) ?_
          exact ih x4 (x5 + 1) (upd tx (x1 + x5).toNatClampNeg (gv x5.toNatClampNeg)) (upd cs (x1 + x5).toNatClampNeg (mm_rValueOf (gv x5.toNatClampNeg) 40 fa1 la1 va1 mn1)) b1 b2 b3 b4 b5 b6 ln kn H locs ls zt_14 vt_14 (by omega) (by omega) heq hW (lv_sub hl [1, 2, 3, 4, 5, 0] rfl)
  refine lv_aload_n hx hb d_putGiven_0 rfl (lv_at hl 0 rfl) ?_
  refine va_get (D := D) (C := R_P) (T := F_P) (N := 11) hx hb hts i_P hown hW.1 hW.2.1 0 rfl rfl 8 (by decide) (hts _ w_42) (fun _ h9 => h9) rfl d_putGiven_1 ?_
  refine lv_iload_n hx hb d_putGiven_4 rfl (lv_at hl 2 rfl) ?_
  refine lv_isub hx hb d_putGiven_5 ?_
  obtain ⟨zt_15, vt_15, et_15⟩ := gk_sub v_ln v_x2 (by omega) (by omega)
  refine lv_istore (lv' := [(4, .int (ln - x2)), (0, .ref (h 0)), (1, .int x1), (2, .int x2), (3, .int x3)]) hx hb d_putGiven_6 hl (by decide) rfl (fun ls hl => ?_)
  refine lv_iload hx hb d_putGiven_8 (lv_at hl 0 rfl) ?_
  refine lv_if_le (tgt := 47) hx hb d_putGiven_10 (by decide) (fun c_16 => ?_) (fun c_16 => ?_)
  · rw [if_pos c_16] at heq
    have ic_16 := gk_le vt_15 (show gk_v 0 0 from rfl) c_16
    refine lv_iconst (v := 0) hx hb d_putGiven_47 (by decide) ?_
    refine lv_istore (lv' := [(5, .int 0), (4, .int (ln - x2)), (0, .ref (h 0)), (1, .int x1), (2, .int x2), (3, .int x3)]) hx hb d_putGiven_48 hl (by decide) rfl (fun ls hl => ?_)
    exact L50 6 (ln - x2) 0 tx cs b1 b2 b3 b4 b5 b6 ln kn H locs ls 0 (show gk_v 0 0 from rfl) (by omega) (by omega) heq hW (lv_sub hl [2, 3, 4, 5, 1, 0] rfl)
  · rw [if_neg c_16] at heq
    have ic_16 := gk_nle vt_15 (show gk_v 0 0 from rfl) c_16
    refine lv_aload_n hx hb d_putGiven_13 rfl (lv_at hl 1 rfl) ?_
    refine va_get (D := D) (C := R_P) (T := F_P) (N := 11) hx hb hts i_P hown hW.1 hW.2.1 0 rfl rfl 0 (by decide) (hts _ w_89) (fun _ h9 => h9) rfl d_putGiven_14 ?_
    refine lv_iload_n hx hb d_putGiven_17 rfl (lv_at hl 3 rfl) ?_
    refine lv_aload_n hx hb d_putGiven_18 rfl (lv_at hl 1 rfl) ?_
    refine va_get (D := D) (C := R_P) (T := F_P) (N := 11) hx hb hts i_P hown hW.1 hW.2.1 0 rfl rfl 0 (by decide) (hts _ w_89) (fun _ h9 => h9) rfl d_putGiven_19 ?_
    refine lv_iload_n hx hb d_putGiven_22 rfl (lv_at hl 2 rfl) ?_
    refine lv_iload_n hx hb d_putGiven_23 rfl (lv_at hl 4 rfl) ?_
    refine lv_iadd hx hb d_putGiven_24 ?_
    obtain ⟨zt_17, vt_17, et_17⟩ := gk_add v_x1 v_x3 (by omega) (by omega)
    refine lv_iload hx hb d_putGiven_25 (lv_at hl 0 rfl) ?_
    refine va_copyi hx hb (hml.trans hl.1.symm) hown (hts _ w_91) (hts _ w_92) (hts _ w_93) (hts _ w_94) hW.1 hW.2.1 hW.2.2.1 hW.2.2.2.1 1 1 0 0 rfl rfl rfl rfl rfl (gk_nn v_x2 (by omega)) (gk_nn vt_17 (by omega)) (gk_nn vt_15 (by omega)) (gk_le2 v_x2 vt_15 (by omega) (by omega) (by omega)) (gk_le2 vt_17 vt_15 (by omega) (by omega) (by omega)) (fun _ _ => rfl) (Nat.le_of_ble_eq_true rfl) (Nat.le_of_ble_eq_true rfl) d_putGiven_27 (fun H locs hP hD hS => ?_)
    have hW : gk_W D vwCl (gk_T cI cL) s A H locs (wd_P cI h (va_cpy tx tx x2.toNatClampNeg (x1 + x3).toNatClampNeg (ln - x2).toNatClampNeg) cs rl gv fa1 la1 va1 mn1 fa2 la2 va2 mn2 fa3 la3 va3 mn3 b1 b2 b3 b4 b5 b6 ln lo kn) := ⟨hW.1, hP, hD, hS, hW.2.2.2.2⟩
    refine lv_aload_n hx hb d_putGiven_30 rfl (lv_at hl 1 rfl) ?_
    refine va_get (D := D) (C := R_P) (T := F_P) (N := 11) hx hb hts i_P hown hW.1 hW.2.1 0 rfl rfl 1 (by decide) (hts _ w_48) (fun _ h9 => h9) rfl d_putGiven_31 ?_
    refine lv_iload_n hx hb d_putGiven_34 rfl (lv_at hl 3 rfl) ?_
    refine lv_aload_n hx hb d_putGiven_35 rfl (lv_at hl 1 rfl) ?_
    refine va_get (D := D) (C := R_P) (T := F_P) (N := 11) hx hb hts i_P hown hW.1 hW.2.1 0 rfl rfl 1 (by decide) (hts _ w_48) (fun _ h9 => h9) rfl d_putGiven_36 ?_
    refine lv_iload_n hx hb d_putGiven_39 rfl (lv_at hl 2 rfl) ?_
    refine lv_iload_n hx hb d_putGiven_40 rfl (lv_at hl 4 rfl) ?_
    refine lv_iadd hx hb d_putGiven_41 ?_
    obtain ⟨zt_18, vt_18, et_18⟩ := gk_add v_x1 v_x3 (by omega) (by omega)
    refine lv_iload hx hb d_putGiven_42 (lv_at hl 0 rfl) ?_
    refine va_copyi hx hb (hml.trans hl.1.symm) hown (hts _ w_91) (hts _ w_92) (hts _ w_93) (hts _ w_94) hW.1 hW.2.1 hW.2.2.1 hW.2.2.2.1 2 2 0 0 rfl rfl rfl rfl rfl (gk_nn v_x2 (by omega)) (gk_nn vt_18 (by omega)) (gk_nn vt_15 (by omega)) (gk_le2 v_x2 vt_15 (by omega) (by omega) (by omega)) (gk_le2 vt_18 vt_15 (by omega) (by omega) (by omega)) (fun _ _ => rfl) (Nat.le_of_ble_eq_true rfl) (Nat.le_of_ble_eq_true rfl) d_putGiven_44 (fun H locs hP hD hS => ?_)
    have hW : gk_W D vwCl (gk_T cI cL) s A H locs (wd_P cI h (va_cpy tx tx x2.toNatClampNeg (x1 + x3).toNatClampNeg (ln - x2).toNatClampNeg) (va_cpy cs cs x2.toNatClampNeg (x1 + x3).toNatClampNeg (ln - x2).toNatClampNeg) rl gv fa1 la1 va1 mn1 fa2 la2 va2 mn2 fa3 la3 va3 mn3 b1 b2 b3 b4 b5 b6 ln lo kn) := ⟨hW.1, hP, hD, hS, hW.2.2.2.2⟩
    refine lv_iconst (v := 0) hx hb d_putGiven_47 (by decide) ?_
    refine lv_istore (lv' := [(5, .int 0), (4, .int (ln - x2)), (0, .ref (h 0)), (1, .int x1), (2, .int x2), (3, .int x3)]) hx hb d_putGiven_48 hl (by decide) rfl (fun ls hl => ?_)
    exact L50 6 (ln - x2) 0 (va_cpy tx tx x2.toNatClampNeg (x1 + x3).toNatClampNeg (ln - x2).toNatClampNeg) (va_cpy cs cs x2.toNatClampNeg (x1 + x3).toNatClampNeg (ln - x2).toNatClampNeg) b1 b2 b3 b4 b5 b6 ln kn H locs ls 0 (show gk_v 0 0 from rfl) (by omega) (by omega) heq hW (lv_sub hl [2, 3, 4, 5, 1, 0] rfl)
end
section
def mm_ruleAt_23 (x1 : Int32) (tx cs fa2 la2 va2 : Nat → Int32) (mn2 : Int32) (fa3 la3 va3 : Nat → Int32) (mn3 ln lo : Int32) : Nat → Int32 → (Nat → Int32) → Int32 → Int32 → Int32 → Int32 → Int32 → Int32 → Int32 → Int32 × (Nat → Int32) × Int32 × Int32 × Int32 × Int32 × Int32 × Int32 × Int32
  | 0, x2, rl, b1, b2, b3, b4, b5, b6, kn => (0, rl, b1, b2, b3, b4, b5, b6, kn)
  | n + 1, x2, rl, b1, b2, b3, b4, b5, b6, kn => if x1 < x2 then (rl x1.toNatClampNeg, rl, b1, b2, b3, b4, b5, b6, kn) else (match (mm_bPass (mm_kindAt x2 cs lo) (tx x2.toNatClampNeg) b1 b2 b3 b4 b5 b6) with | (u_2, u_3, u_4, u_5, u_6, u_7) => mm_ruleAt_23 x1 tx cs fa2 la2 va2 mn2 fa3 la3 va3 mn3 ln lo n (x2 + 1) (upd rl x2.toNatClampNeg (mm_findRule (mm_kindAt x2 cs lo) (tx x2.toNatClampNeg) fa2 la2 va2 mn2 fa3 la3 va3 mn3 b1 b2 b3 b4 b5 b6)) u_2 u_3 u_4 u_5 u_6 u_7 (x2 + 1))
def mm_ruleAt (x1 : Int32) (tx cs rl fa2 la2 va2 : Nat → Int32) (mn2 : Int32) (fa3 la3 va3 : Nat → Int32) (mn3 b1 b2 b3 b4 b5 b6 ln lo kn : Int32) : Int32 × (Nat → Int32) × Int32 × Int32 × Int32 × Int32 × Int32 × Int32 × Int32 := if 0 < x1 then (if x1 < ln then (mm_ruleAt_23 x1 tx cs fa2 la2 va2 mn2 fa3 la3 va3 mn3 ln lo 2001 kn rl b1 b2 b3 b4 b5 b6 kn) else (30, rl, b1, b2, b3, b4, b5, b6, kn)) else (20, rl, b1, b2, b3, b4, b5, b6, kn)
def rm_ruleAt : Room := { frames := 4, cells := 0, slots := 0, locals := 91 }
set_option maxHeartbeats 4000000 in
set_option maxRecDepth 100000 in
theorem c_ruleAt (l : Launch) (D : va_G) (cI : ClassId) (cL : ClassId × ClassId) (h : Nat → Nat) (tx cs rl gv fa1 la1 va1 : Nat → Int32) (mn1 : Int32) (fa2 la2 va2 : Nat → Int32) (mn2 : Int32) (fa3 la3 va3 : Nat → Int32) (mn3 b1 b2 b3 b4 b5 b6 ln lo kn x1 : Int32) (z_kn : Int) (v_kn : gk_v kn z_kn) (z_ln : Int) (v_ln : gk_v ln z_ln) (z_mn2 : Int) (v_mn2 : gk_v mn2 z_mn2) (z_mn3 : Int) (v_mn3 : gk_v mn3 z_mn3) (hln : 0 ≤ z_ln ∧ z_ln ≤ 2000) (hkn : 0 ≤ z_kn ∧ z_kn ≤ z_ln) (hm2 : 0 ≤ z_mn2 ∧ z_mn2 ≤ 40) (hm3 : 0 ≤ z_mn3 ∧ z_mn3 ≤ 40) : gk_I l y_ruleAt (.code y_ruleAt b_ruleAt 4 (some .int) :: wA) rm_ruleAt D vwCl (gk_T cI cL) [.ref (h 0), .int x1] (wd_P cI h tx cs rl gv fa1 la1 va1 mn1 fa2 la2 va2 mn2 fa3 la3 va3 mn3 b1 b2 b3 b4 b5 b6 ln lo kn) (fun (r : Int32) (u : (Nat → Int32) × Int32 × Int32 × Int32 × Int32 × Int32 × Int32 × Int32) => (r, u) = mm_ruleAt x1 tx cs rl fa2 la2 va2 mn2 fa3 la3 va3 mn3 b1 b2 b3 b4 b5 b6 ln lo kn) (fun u => (wd_P cI h tx cs u.1 gv fa1 la1 va1 mn1 fa2 la2 va2 mn2 fa3 la3 va3 mn3 u.2.1 u.2.2.1 u.2.2.2.1 u.2.2.2.2.1 u.2.2.2.2.2.1 u.2.2.2.2.2.2.1 ln lo u.2.2.2.2.2.2.2)) 0 0 := by
  refine gk_I.of (by decide) (Nat.le_of_ble_eq_true rfl) ?_
  intro p e s m below meth c A ls Q H locs hx hb hml hown hts hW hl X
  have hl : lv_has ls 4 [(0, .ref (h 0)), (1, .int x1)] := hl
  obtain ⟨tgt, heq⟩ : ∃ t, mm_ruleAt x1 tx cs rl fa2 la2 va2 mn2 fa3 la3 va3 mn3 b1 b2 b3 b4 b5 b6 ln lo kn = t := ⟨_, rfl⟩
  rw [heq] at X
  rw [mm_ruleAt] at heq
  obtain ⟨z_x1, v_x1⟩ := gk_vex x1
  obtain ⟨z_b1, v_b1⟩ := gk_vex b1
  obtain ⟨z_b2, v_b2⟩ := gk_vex b2
  obtain ⟨z_b3, v_b3⟩ := gk_vex b3
  obtain ⟨z_b4, v_b4⟩ := gk_vex b4
  obtain ⟨z_b5, v_b5⟩ := gk_vex b5
  obtain ⟨z_b6, v_b6⟩ := gk_vex b6
  obtain ⟨z_lo, v_lo⟩ := gk_vex lo
  have L23 : ∀ (n : Nat) (x2 : Int32) (rl : Nat → Int32) (b1 b2 b3 b4 b5 b6 kn : Int32) (H : Heap) (locs : List Loc) (ls : Array Slot), ∀ (z_x2 : Int), gk_v x2 z_x2 → (z_ln - z_x2) < (n : Int) → 0 < z_x1 ∧ z_x1 < z_ln → 0 ≤ z_x2 ∧ z_x2 ≤ z_ln → mm_ruleAt_23 x1 tx cs fa2 la2 va2 mn2 fa3 la3 va3 mn3 ln lo n x2 rl b1 b2 b3 b4 b5 b6 kn = tgt → gk_W D vwCl (gk_T cI cL) s A H locs (wd_P cI h tx cs rl gv fa1 la1 va1 mn1 fa2 la2 va2 mn2 fa3 la3 va3 mn3 b1 b2 b3 b4 b5 b6 ln lo kn) → lv_has ls 4 [(0, .ref (h 0)), (1, .int x1), (2, .int x2)] → W p l e rm_ruleAt s m [.ref (h 0), .int x1].toArray below meth c H locs 0 0 Q (F0 m 23 ls []) := by
    intro n
    induction n with
    | zero => intro x2 rl b1 b2 b3 b4 b5 b6 kn H locs ls z_x2 v_x2 hm f23_0 f23_1 heq hW hl; exfalso; omega
    | succ n ih =>
      intro x2 rl b1 b2 b3 b4 b5 b6 kn H locs ls z_x2 v_x2 hm f23_0 f23_1 heq hW hl
      rw [mm_ruleAt_23] at heq
      refine lv_iload_n hx hb d_ruleAt_23 rfl (lv_at hl 2 rfl) ?_
      refine lv_iload_n hx hb d_ruleAt_24 rfl (lv_at hl 1 rfl) ?_
      refine lv_icmp_gt (tgt := 78) hx hb d_ruleAt_25 (by decide) (fun c_1 => ?_) (fun c_1 => ?_)
      · rw [if_pos c_1] at heq
        have ic_1 := gk_lt v_x1 v_x2 c_1
        refine lv_aload_n hx hb d_ruleAt_78 rfl (lv_at hl 0 rfl) ?_
        refine va_get (D := D) (C := R_P) (T := F_P) (N := 11) hx hb hts i_P hown hW.1 hW.2.1 0 rfl rfl 2 (by decide) (hts _ w_95) (fun _ h9 => h9) rfl d_ruleAt_79 ?_
        refine lv_iload_n hx hb d_ruleAt_82 rfl (lv_at hl 1 rfl) ?_
        refine va_iald hx hb hW.1 hW.2.1 3 0 rfl rfl (i := x1) (gk_in v_x1 (by omega) (by omega)) d_ruleAt_83 ?_
        exact X _ (rl, b1, b2, b3, b4, b5, b6, kn) H locs 0 0 84 ls heq hW d_ruleAt_84 rfl (Nat.le_of_ble_eq_true rfl) (Nat.le_of_ble_eq_true rfl)
      · rw [if_neg c_1] at heq
        have ic_1 := gk_nlt v_x1 v_x2 c_1
        refine lv_aload_n hx hb d_ruleAt_28 rfl (lv_at hl 0 rfl) ?_
        refine lv_iload_n hx hb d_ruleAt_29 rfl (lv_at hl 2 rfl) ?_
        refine gk_goR hW [0, 1, 2, 3, 4, 5, 6, 7, 8, 9, 10, 11, 12, 13, 14, 15, 16, 17] rfl (va_runV (As := [.int x2]) (rest := []) ⟨hx, hb, hml, hown, hts⟩ (c_kindAt l D cI cL h tx cs rl gv fa1 la1 va1 mn1 fa2 la2 va2 mn2 fa3 la3 va3 mn3 b1 b2 b3 b4 b5 b6 ln lo kn x2 z_x2 v_x2 (by omega) _) (gk_cwV hts w_50 w_51 w_52 w_3 k_kindAt rfl e_kindAt rfl rfl ⟨Nat.le_of_ble_eq_true rfl, Nat.le_of_ble_eq_true rfl⟩) (gk_preV hW [0, 1, 2, 3, 4, 5, 6, 7, 8, 9, 10, 11, 12, 13, 14, 15, 16, 17] rfl rfl rfl rfl) rfl rfl hl.1 rfl (lv_room (Nat.le_of_ble_eq_true rfl)) d_ruleAt_30 ⟨Nat.le_of_ble_eq_true rfl, Nat.le_of_ble_eq_true rfl⟩) (fun H locs hW => ?_)
        refine lv_istore_n (lv' := [(3, .int (mm_kindAt x2 cs lo)), (0, .ref (h 0)), (1, .int x1), (2, .int x2)]) hx hb d_ruleAt_33 rfl hl (by decide) rfl (fun ls hl => ?_)
        refine lv_aload_n hx hb d_ruleAt_34 rfl (lv_at hl 1 rfl) ?_
        refine va_get (D := D) (C := R_P) (T := F_P) (N := 11) hx hb hts i_P hown hW.1 hW.2.1 0 rfl rfl 2 (by decide) (hts _ w_95) (fun _ h9 => h9) rfl d_ruleAt_35 ?_
        refine lv_iload_n hx hb d_ruleAt_38 rfl (lv_at hl 3 rfl) ?_
        refine lv_aload_n hx hb d_ruleAt_39 rfl (lv_at hl 1 rfl) ?_
        refine lv_iload_n hx hb d_ruleAt_40 rfl (lv_at hl 0 rfl) ?_
        refine lv_aload_n hx hb d_ruleAt_41 rfl (lv_at hl 1 rfl) ?_
        refine va_get (D := D) (C := R_P) (T := F_P) (N := 11) hx hb hts i_P hown hW.1 hW.2.1 0 rfl rfl 0 (by decide) (hts _ w_89) (fun _ h9 => h9) rfl d_ruleAt_42 ?_
        refine lv_iload_n hx hb d_ruleAt_45 rfl (lv_at hl 3 rfl) ?_
        refine va_iald hx hb hW.1 hW.2.1 1 0 rfl rfl (i := x2) (gk_in v_x2 (by omega) (by omega)) d_ruleAt_46 ?_
        refine gk_goR hW [0, 1, 2, 3, 4, 5, 6, 7, 8, 9, 10, 11, 12, 13, 14, 15, 16, 17] rfl (va_runV (As := [.int (mm_kindAt x2 cs lo), .int (tx x2.toNatClampNeg)]) (rest := [.int x2, .ref (h 3)]) ⟨hx, hb, hml, hown, hts⟩ (c_findRule l D cI cL h tx cs rl gv fa1 la1 va1 mn1 fa2 la2 va2 mn2 fa3 la3 va3 mn3 b1 b2 b3 b4 b5 b6 ln lo kn (mm_kindAt x2 cs lo) (tx x2.toNatClampNeg) z_mn2 v_mn2 z_mn3 v_mn3 (by omega) (by omega) _) (gk_cwV hts w_96 w_97 w_98 w_3 k_findRule rfl e_findRule rfl rfl ⟨Nat.le_of_ble_eq_true rfl, Nat.le_of_ble_eq_true rfl⟩) (gk_preV hW [0, 1, 2, 3, 4, 5, 6, 7, 8, 9, 10, 11, 12, 13, 14, 15, 16, 17] rfl rfl rfl rfl) rfl rfl hl.1 rfl (lv_room (Nat.le_of_ble_eq_true rfl)) d_ruleAt_47 ⟨Nat.le_of_ble_eq_true rfl, Nat.le_of_ble_eq_true rfl⟩) (fun H locs hW => ?_)
        refine va_iast hx hb hW.1 hW.2.1 hW.2.2.1 hW.2.2.2.1 3 0 rfl rfl (i := x2) (x := (mm_findRule (mm_kindAt x2 cs lo) (tx x2.toNatClampNeg) fa2 la2 va2 mn2 fa3 la3 va3 mn3 b1 b2 b3 b4 b5 b6)) (gk_in v_x2 (by omega) (by omega)) d_ruleAt_50 (fun H locs hP hD hS => ?_)
        have hW : gk_W D vwCl (gk_T cI cL) s A H locs (wd_P cI h tx cs (upd rl x2.toNatClampNeg (mm_findRule (mm_kindAt x2 cs lo) (tx x2.toNatClampNeg) fa2 la2 va2 mn2 fa3 la3 va3 mn3 b1 b2 b3 b4 b5 b6)) gv fa1 la1 va1 mn1 fa2 la2 va2 mn2 fa3 la3 va3 mn3 b1 b2 b3 b4 b5 b6 ln lo kn) := ⟨hW.1, hP, hD, hS, hW.2.2.2.2⟩
        refine lv_aload_n hx hb d_ruleAt_51 rfl (lv_at hl 1 rfl) ?_
        refine va_get (D := D) (C := R_P) (T := F_P) (N := 11) hx hb hts i_P hown hW.1 hW.2.1 0 rfl rfl 7 (by decide) (hts _ w_44) (fun _ h9 => h9) rfl d_ruleAt_52 ?_
        refine lv_iload_n hx hb d_ruleAt_55 rfl (lv_at hl 0 rfl) ?_
        refine lv_aload_n hx hb d_ruleAt_56 rfl (lv_at hl 1 rfl) ?_
        refine va_get (D := D) (C := R_P) (T := F_P) (N := 11) hx hb hts i_P hown hW.1 hW.2.1 0 rfl rfl 0 (by decide) (hts _ w_89) (fun _ h9 => h9) rfl d_ruleAt_57 ?_
        refine lv_iload_n hx hb d_ruleAt_60 rfl (lv_at hl 3 rfl) ?_
        refine va_iald hx hb hW.1 hW.2.1 1 0 rfl rfl (i := x2) (gk_in v_x2 (by omega) (by omega)) d_ruleAt_61 ?_
        refine gk_goV (wr := [((h 0), .inr (0, [.ref (h 1), .ref (h 2), .ref (h 3), .ref (h 4), .ref (h 5), .ref (h 9), .ref (h 13), .ref (h 17), .int ln, .int lo, .int kn])), ((h 1), .inl (cI, 2000, .inl tx)), ((h 2), .inl (cI, 2000, .inl cs)), ((h 3), .inl (cI, 2000, .inl (upd rl x2.toNatClampNeg (mm_findRule (mm_kindAt x2 cs lo) (tx x2.toNatClampNeg) fa2 la2 va2 mn2 fa3 la3 va3 mn3 b1 b2 b3 b4 b5 b6)))), ((h 4), .inl (cI, 5, .inl gv)), ((h 5), .inr (1, [.ref (h 6), .ref (h 7), .ref (h 8), .int mn1])), ((h 6), .inl (cI, 100, .inl fa1)), ((h 7), .inl (cI, 100, .inl la1)), ((h 8), .inl (cI, 100, .inl va1)), ((h 9), .inr (1, [.ref (h 10), .ref (h 11), .ref (h 12), .int mn2])), ((h 10), .inl (cI, 40, .inl fa2)), ((h 11), .inl (cI, 40, .inl la2)), ((h 12), .inl (cI, 40, .inl va2)), ((h 13), .inr (1, [.ref (h 14), .ref (h 15), .ref (h 16), .int mn3])), ((h 14), .inl (cI, 40, .inl fa3)), ((h 15), .inl (cI, 40, .inl la3)), ((h 16), .inl (cI, 40, .inl va3))]) hW [17] [0, 1, 2, 3, 4, 5, 6, 7, 8, 9, 10, 11, 12, 13, 14, 15, 16] rfl rfl (by decide) (by decide) (va_runVN (As := [.int (mm_kindAt x2 cs lo), .int (tx x2.toNatClampNeg)]) (rest := []) ⟨hx, hb, hml, hown, hts⟩ (c_bPass l D cI cL (h 17) b1 b2 b3 b4 b5 b6 (mm_kindAt x2 cs lo) (tx x2.toNatClampNeg) _) (gk_cwVN hts hW.2.2.2.2.2 w_99 w_100 w_101 w_39 k_bPass e_bPass rfl rfl ⟨Nat.le_of_ble_eq_true rfl, Nat.le_of_ble_eq_true rfl⟩) (gk_preV hW [17] rfl rfl rfl rfl) rfl rfl hl.1 rfl (lv_room (Nat.le_of_ble_eq_true rfl)) d_ruleAt_62 ⟨Nat.le_of_ble_eq_true rfl, Nat.le_of_ble_eq_true rfl⟩) (fun u H locs p_8 hW => ?_)
        obtain ⟨u_2, u_3, u_4, u_5, u_6, u_7⟩ := u
        have hW : gk_W D vwCl (gk_T cI cL) s A H locs (wd_P cI h tx cs (upd rl x2.toNatClampNeg (mm_findRule (mm_kindAt x2 cs lo) (tx x2.toNatClampNeg) fa2 la2 va2 mn2 fa3 la3 va3 mn3 b1 b2 b3 b4 b5 b6)) gv fa1 la1 va1 mn1 fa2 la2 va2 mn2 fa3 la3 va3 mn3 u_2 u_3 u_4 u_5 u_6 u_7 ln lo kn) := hW.re [0, 1, 2, 3, 4, 5, 6, 7, 8, 9, 10, 11, 12, 13, 14, 15, 16, 17] (by decide) rfl
        rw [← p_8] at heq
        dsimp only at heq
        refine lv_aload_n hx hb d_ruleAt_65 rfl (lv_at hl 1 rfl) ?_
        refine lv_iload_n hx hb d_ruleAt_66 rfl (lv_at hl 3 rfl) ?_
        refine lv_iconst (v := 1) hx hb d_ruleAt_67 (by decide) ?_
        refine lv_iadd hx hb d_ruleAt_68 ?_
        obtain ⟨zt_9, vt_9, et_9⟩ := gk_add v_x2 (show gk_v 1 1 from rfl) (by omega) (by omega)
        refine va_put (D := D) (ci := 0) (v := .int (x2 + 1)) (ty := .int) (C := R_P) (T := F_P) (N := 11) hx hb hts i_P t_P t_P_ok n_P hown hW.1 hW.2.1 hW.2.2.1 hW.2.2.2.1 0 rfl rfl 10 (by decide) (hts _ w_43) (fun _ h9 => h9) rfl (by decide +kernel) rfl rfl (Nat.le_of_ble_eq_true rfl) d_ruleAt_69 (fun H locs hP hD hS => ?_)
        have hW : gk_W D vwCl (gk_T cI cL) s A H locs (wd_P cI h tx cs (upd rl x2.toNatClampNeg (mm_findRule (mm_kindAt x2 cs lo) (tx x2.toNatClampNeg) fa2 la2 va2 mn2 fa3 la3 va3 mn3 b1 b2 b3 b4 b5 b6)) gv fa1 la1 va1 mn1 fa2 la2 va2 mn2 fa3 la3 va3 mn3 u_2 u_3 u_4 u_5 u_6 u_7 ln lo (x2 + 1)) := ⟨hW.1, hP, hD, hS, hW.2.2.2.2⟩
        refine lv_iinc (v := x2 + 1) (lv' := [(2, .int (x2 + 1)), (3, .int (mm_kindAt x2 cs lo)), (0, .ref (h 0)), (1, .int x1)]) hx hb d_ruleAt_72 hl (k := 3) rfl rfl (by decide) rfl (fun ls hl => ?_)
        obtain ⟨zt_10, vt_10, et_10⟩ := gk_add v_x2 (show gk_v 1 1 from rfl) (by omega) (by omega)
        refine lv_goto (tgt := 23) hx hb d_ruleAt_75 (by decide) ?_
        exact ih (x2 + 1) (upd rl x2.toNatClampNeg (mm_findRule (mm_kindAt x2 cs lo) (tx x2.toNatClampNeg) fa2 la2 va2 mn2 fa3 la3 va3 mn3 b1 b2 b3 b4 b5 b6)) u_2 u_3 u_4 u_5 u_6 u_7 (x2 + 1) H locs ls zt_10 vt_10 (by omega) (by omega) (by omega) heq hW (lv_sub hl [2, 3, 0] rfl)
  refine lv_iload_n hx hb d_ruleAt_0 rfl (lv_at hl 1 rfl) ?_
  refine lv_if_gt (tgt := 7) hx hb d_ruleAt_1 (by decide) (fun c_11 => ?_) (fun c_11 => ?_)
  · rw [if_pos c_11] at heq
    have ic_11 := gk_lt (show gk_v 0 0 from rfl) v_x1 c_11
    refine lv_iload_n hx hb d_ruleAt_7 rfl (lv_at hl 1 rfl) ?_
    refine lv_aload_n hx hb d_ruleAt_8 rfl (lv_at hl 0 rfl) ?_
    refine va_get (D := D) (C := R_P) (T := F_P) (N := 11) hx hb hts i_P hown hW.1 hW.2.1 0 rfl rfl 8 (by decide) (hts _ w_42) (fun _ h9 => h9) rfl d_ruleAt_9 ?_
    refine lv_icmp_lt (tgt := 18) hx hb d_ruleAt_12 (by decide) (fun c_12 => ?_) (fun c_12 => ?_)
    · rw [if_pos c_12] at heq
      have ic_12 := gk_lt v_x1 v_ln c_12
      refine lv_aload_n hx hb d_ruleAt_18 rfl (lv_at hl 0 rfl) ?_
      refine va_get (D := D) (C := R_P) (T := F_P) (N := 11) hx hb hts i_P hown hW.1 hW.2.1 0 rfl rfl 10 (by decide) (hts _ w_43) (fun _ h9 => h9) rfl d_ruleAt_19 ?_
      refine lv_istore_n (lv' := [(2, .int kn), (0, .ref (h 0)), (1, .int x1)]) hx hb d_ruleAt_22 rfl hl (by decide) rfl (fun ls hl => ?_)
      exact L23 2001 kn rl b1 b2 b3 b4 b5 b6 kn H locs ls z_kn v_kn (by omega) (by omega) (by omega) heq hW (lv_sub hl [1, 2, 0] rfl)
    · rw [if_neg c_12] at heq
      have ic_12 := gk_nlt v_x1 v_ln c_12
      refine lv_bipush (v := 30) hx hb d_ruleAt_15 (by decide) ?_
      exact X _ (rl, b1, b2, b3, b4, b5, b6, kn) H locs 0 0 17 ls heq hW d_ruleAt_17 rfl (Nat.le_of_ble_eq_true rfl) (Nat.le_of_ble_eq_true rfl)
  · rw [if_neg c_11] at heq
    have ic_11 := gk_nlt (show gk_v 0 0 from rfl) v_x1 c_11
    refine lv_bipush (v := 20) hx hb d_ruleAt_4 (by decide) ?_
    exact X _ (rl, b1, b2, b3, b4, b5, b6, kn) H locs 0 0 6 ls heq hW d_ruleAt_6 rfl (Nat.le_of_ble_eq_true rfl) (Nat.le_of_ble_eq_true rfl)
def mm_breaksAt (x1 : Int32) (tx cs rl fa2 la2 va2 : Nat → Int32) (mn2 : Int32) (fa3 la3 va3 : Nat → Int32) (mn3 b1 b2 b3 b4 b5 b6 ln lo kn : Int32) : Int32 × (Nat → Int32) × Int32 × Int32 × Int32 × Int32 × Int32 × Int32 × Int32 := match (mm_ruleAt x1 tx cs rl fa2 la2 va2 mn2 fa3 la3 va3 mn3 b1 b2 b3 b4 b5 b6 ln lo kn) with | (r_1, u_2, u_3, u_4, u_5, u_6, u_7, u_8, u_9) => if r_1 = 30 then (2, u_2, u_3, u_4, u_5, u_6, u_7, u_8, u_9) else (if r_1 = 40 then (2, u_2, u_3, u_4, u_5, u_6, u_7, u_8, u_9) else (if r_1 = 50 then (if (mm_isBetween x1 cs ln lo) = 0 then (2, u_2, u_3, u_4, u_5, u_6, u_7, u_8, u_9) else (0, u_2, u_3, u_4, u_5, u_6, u_7, u_8, u_9)) else (if r_1 = 80 then (1, u_2, u_3, u_4, u_5, u_6, u_7, u_8, u_9) else (if r_1 = 180 then (1, u_2, u_3, u_4, u_5, u_6, u_7, u_8, u_9) else (if r_1 = 200 then (1, u_2, u_3, u_4, u_5, u_6, u_7, u_8, u_9) else (if r_1 = 310 then (1, u_2, u_3, u_4, u_5, u_6, u_7, u_8, u_9) else (0, u_2, u_3, u_4, u_5, u_6, u_7, u_8, u_9)))))))
def rm_breaksAt : Room := { frames := 5, cells := 0, slots := 0, locals := 114 }
set_option maxHeartbeats 4000000 in
set_option maxRecDepth 100000 in
theorem c_breaksAt (l : Launch) (D : va_G) (cI : ClassId) (cL : ClassId × ClassId) (h : Nat → Nat) (tx cs rl gv fa1 la1 va1 : Nat → Int32) (mn1 : Int32) (fa2 la2 va2 : Nat → Int32) (mn2 : Int32) (fa3 la3 va3 : Nat → Int32) (mn3 b1 b2 b3 b4 b5 b6 ln lo kn x1 : Int32) (z_kn : Int) (v_kn : gk_v kn z_kn) (z_ln : Int) (v_ln : gk_v ln z_ln) (z_mn2 : Int) (v_mn2 : gk_v mn2 z_mn2) (z_mn3 : Int) (v_mn3 : gk_v mn3 z_mn3) (hln : 0 ≤ z_ln ∧ z_ln ≤ 2000) (hkn : 0 ≤ z_kn ∧ z_kn ≤ z_ln) (hm2 : 0 ≤ z_mn2 ∧ z_mn2 ≤ 40) (hm3 : 0 ≤ z_mn3 ∧ z_mn3 ≤ 40) : gk_I l y_breaksAt (.code y_breaksAt b_breaksAt 2 (some .int) :: wA) rm_breaksAt D vwCl (gk_T cI cL) [.ref (h 0), .int x1] (wd_P cI h tx cs rl gv fa1 la1 va1 mn1 fa2 la2 va2 mn2 fa3 la3 va3 mn3 b1 b2 b3 b4 b5 b6 ln lo kn) (fun (r : Int32) (u : (Nat → Int32) × Int32 × Int32 × Int32 × Int32 × Int32 × Int32 × Int32) => (r, u) = mm_breaksAt x1 tx cs rl fa2 la2 va2 mn2 fa3 la3 va3 mn3 b1 b2 b3 b4 b5 b6 ln lo kn) (fun u => (wd_P cI h tx cs u.1 gv fa1 la1 va1 mn1 fa2 la2 va2 mn2 fa3 la3 va3 mn3 u.2.1 u.2.2.1 u.2.2.2.1 u.2.2.2.2.1 u.2.2.2.2.2.1 u.2.2.2.2.2.2.1 ln lo u.2.2.2.2.2.2.2)) 0 0 := by
  refine gk_I.of (by decide) (Nat.le_of_ble_eq_true rfl) ?_
  intro p e s m below meth c A ls Q H locs hx hb hml hown hts hW hl X
  have hl : lv_has ls 2 [(0, .ref (h 0)), (1, .int x1)] := hl
  obtain ⟨tgt, heq⟩ : ∃ t, mm_breaksAt x1 tx cs rl fa2 la2 va2 mn2 fa3 la3 va3 mn3 b1 b2 b3 b4 b5 b6 ln lo kn = t := ⟨_, rfl⟩
  rw [heq] at X
  rw [mm_breaksAt] at heq
  obtain ⟨z_x1, v_x1⟩ := gk_vex x1
  obtain ⟨z_b1, v_b1⟩ := gk_vex b1
  obtain ⟨z_b2, v_b2⟩ := gk_vex b2
  obtain ⟨z_b3, v_b3⟩ := gk_vex b3
  obtain ⟨z_b4, v_b4⟩ := gk_vex b4
  obtain ⟨z_b5, v_b5⟩ := gk_vex b5
  obtain ⟨z_b6, v_b6⟩ := gk_vex b6
  obtain ⟨z_lo, v_lo⟩ := gk_vex lo
  refine lv_aload_n hx hb d_breaksAt_0 rfl (lv_at hl 0 rfl) ?_
  refine lv_iload_n hx hb d_breaksAt_1 rfl (lv_at hl 1 rfl) ?_
  refine gk_goI (wr := []) hW [0, 1, 2, 3, 4, 5, 6, 7, 8, 9, 10, 11, 12, 13, 14, 15, 16, 17] [] rfl rfl (by decide) (by decide) (va_runV (As := [.int x1]) (rest := []) ⟨hx, hb, hml, hown, hts⟩ (c_ruleAt l D cI cL h tx cs rl gv fa1 la1 va1 mn1 fa2 la2 va2 mn2 fa3 la3 va3 mn3 b1 b2 b3 b4 b5 b6 ln lo kn x1 z_kn v_kn z_ln v_ln z_mn2 v_mn2 z_mn3 v_mn3 (by omega) (by omega) (by omega) (by omega) _) (gk_cwV hts w_102 w_103 w_104 w_3 k_ruleAt rfl e_ruleAt rfl rfl ⟨Nat.le_of_ble_eq_true rfl, Nat.le_of_ble_eq_true rfl⟩) (gk_preV hW [0, 1, 2, 3, 4, 5, 6, 7, 8, 9, 10, 11, 12, 13, 14, 15, 16, 17] rfl rfl rfl rfl) rfl rfl hl.1 rfl (lv_room (Nat.le_of_ble_eq_true rfl)) d_breaksAt_2 ⟨Nat.le_of_ble_eq_true rfl, Nat.le_of_ble_eq_true rfl⟩) (fun r_1 u H locs p_10 hW => ?_)
  obtain ⟨u_2, u_3, u_4, u_5, u_6, u_7, u_8, u_9⟩ := u
  have hW : gk_W D vwCl (gk_T cI cL) s A H locs (wd_P cI h tx cs u_2 gv fa1 la1 va1 mn1 fa2 la2 va2 mn2 fa3 la3 va3 mn3 u_3 u_4 u_5 u_6 u_7 u_8 ln lo u_9) := hW.re [0, 1, 2, 3, 4, 5, 6, 7, 8, 9, 10, 11, 12, 13, 14, 15, 16, 17] (by decide) rfl
  rw [← p_10] at heq
  dsimp only at heq
  by_cases c_11 : r_1 = 30
  · rw [if_pos c_11] at heq
    refine lv_lookup (off := 67) (tgt := 72) hx hb d_breaksAt_5 (by decide) (by rw [c_11]; rfl) (by decide) ?_
    refine lv_iconst (v := 2) hx hb d_breaksAt_72 (by decide) ?_
    exact X _ (u_2, u_3, u_4, u_5, u_6, u_7, u_8, u_9) H locs 0 0 73 ls heq hW d_breaksAt_73 rfl (Nat.le_of_ble_eq_true rfl) (Nat.le_of_ble_eq_true rfl)
  rw [if_neg c_11] at heq
  by_cases c_12 : r_1 = 40
  · rw [if_pos c_12] at heq
    refine lv_lookup (off := 67) (tgt := 72) hx hb d_breaksAt_5 (by decide) (by rw [c_12]; rfl) (by decide) ?_
    refine lv_iconst (v := 2) hx hb d_breaksAt_72 (by decide) ?_
    exact X _ (u_2, u_3, u_4, u_5, u_6, u_7, u_8, u_9) H locs 0 0 73 ls heq hW d_breaksAt_73 rfl (Nat.le_of_ble_eq_true rfl) (Nat.le_of_ble_eq_true rfl)
  rw [if_neg c_12] at heq
  by_cases c_13 : r_1 = 50
  · rw [if_pos c_13] at heq
    refine lv_lookup (off := 69) (tgt := 74) hx hb d_breaksAt_5 (by decide) (by rw [c_13]; rfl) (by decide) ?_
    refine lv_aload_n hx hb d_breaksAt_74 rfl (lv_at hl 0 rfl) ?_
    refine lv_iload_n hx hb d_breaksAt_75 rfl (lv_at hl 1 rfl) ?_
    refine gk_goR hW [0, 1, 2, 3, 4, 5, 6, 7, 8, 9, 10, 11, 12, 13, 14, 15, 16, 17] rfl (va_runV (As := [.int x1]) (rest := []) ⟨hx, hb, hml, hown, hts⟩ (c_isBetween l D cI cL h tx cs u_2 gv fa1 la1 va1 mn1 fa2 la2 va2 mn2 fa3 la3 va3 mn3 u_3 u_4 u_5 u_6 u_7 u_8 ln lo u_9 x1 z_ln v_ln (by omega) _) (gk_cwV hts w_105 w_106 w_107 w_3 k_isBetween rfl e_isBetween rfl rfl ⟨Nat.le_of_ble_eq_true rfl, Nat.le_of_ble_eq_true rfl⟩) (gk_preV hW [0, 1, 2, 3, 4, 5, 6, 7, 8, 9, 10, 11, 12, 13, 14, 15, 16, 17] rfl rfl rfl rfl) rfl rfl hl.1 rfl (lv_room (Nat.le_of_ble_eq_true rfl)) d_breaksAt_76 ⟨Nat.le_of_ble_eq_true rfl, Nat.le_of_ble_eq_true rfl⟩) (fun H locs hW => ?_)
    refine lv_if_eq (tgt := 86) hx hb d_breaksAt_79 (by decide) (fun c_14 => ?_) (fun c_14 => ?_)
    · rw [if_pos c_14] at heq
      refine lv_iconst (v := 2) hx hb d_breaksAt_86 (by decide) ?_
      exact X _ (u_2, u_3, u_4, u_5, u_6, u_7, u_8, u_9) H locs 0 0 87 ls heq hW d_breaksAt_87 rfl (Nat.le_of_ble_eq_true rfl) (Nat.le_of_ble_eq_true rfl)
    · rw [if_neg c_14] at heq
      refine lv_iconst (v := 0) hx hb d_breaksAt_82 (by decide) ?_
      refine lv_goto (tgt := 87) hx hb d_breaksAt_83 (by decide) ?_
      exact X _ (u_2, u_3, u_4, u_5, u_6, u_7, u_8, u_9) H locs 0 0 87 ls heq hW d_breaksAt_87 rfl (Nat.le_of_ble_eq_true rfl) (Nat.le_of_ble_eq_true rfl)
  rw [if_neg c_13] at heq
  by_cases c_15 : r_1 = 80
  · rw [if_pos c_15] at heq
    refine lv_lookup (off := 83) (tgt := 88) hx hb d_breaksAt_5 (by decide) (by rw [c_15]; rfl) (by decide) ?_
    refine lv_iconst (v := 1) hx hb d_breaksAt_88 (by decide) ?_
    exact X _ (u_2, u_3, u_4, u_5, u_6, u_7, u_8, u_9) H locs 0 0 89 ls heq hW d_breaksAt_89 rfl (Nat.le_of_ble_eq_true rfl) (Nat.le_of_ble_eq_true rfl)
  rw [if_neg c_15] at heq
  by_cases c_16 : r_1 = 180
  · rw [if_pos c_16] at heq
    refine lv_lookup (off := 83) (tgt := 88) hx hb d_breaksAt_5 (by decide) (by rw [c_16]; rfl) (by decide) ?_
    refine lv_iconst (v := 1) hx hb d_breaksAt_88 (by decide) ?_
    exact X _ (u_2, u_3, u_4, u_5, u_6, u_7, u_8, u_9) H locs 0 0 89 ls heq hW d_breaksAt_89 rfl (Nat.le_of_ble_eq_true rfl) (Nat.le_of_ble_eq_true rfl)
  rw [if_neg c_16] at heq
  by_cases c_17 : r_1 = 200
  · rw [if_pos c_17] at heq
    refine lv_lookup (off := 83) (tgt := 88) hx hb d_breaksAt_5 (by decide) (by rw [c_17]; rfl) (by decide) ?_
    refine lv_iconst (v := 1) hx hb d_breaksAt_88 (by decide) ?_
    exact X _ (u_2, u_3, u_4, u_5, u_6, u_7, u_8, u_9) H locs 0 0 89 ls heq hW d_breaksAt_89 rfl (Nat.le_of_ble_eq_true rfl) (Nat.le_of_ble_eq_true rfl)
  rw [if_neg c_17] at heq
  by_cases c_18 : r_1 = 310
  · rw [if_pos c_18] at heq
    refine lv_lookup (off := 83) (tgt := 88) hx hb d_breaksAt_5 (by decide) (by rw [c_18]; rfl) (by decide) ?_
    refine lv_iconst (v := 1) hx hb d_breaksAt_88 (by decide) ?_
    exact X _ (u_2, u_3, u_4, u_5, u_6, u_7, u_8, u_9) H locs 0 0 89 ls heq hW d_breaksAt_89 rfl (Nat.le_of_ble_eq_true rfl) (Nat.le_of_ble_eq_true rfl)
  rw [if_neg c_18] at heq
  refine lv_lookup (off := 85) (tgt := 90) hx hb d_breaksAt_5 (by decide) ((lv_osw (a := 30) c_11 rfl).trans ((lv_osw (a := 40) c_12 rfl).trans ((lv_osw (a := 50) c_13 rfl).trans ((lv_osw (a := 80) c_15 rfl).trans ((lv_osw (a := 180) c_16 rfl).trans ((lv_osw (a := 200) c_17 rfl).trans ((lv_osw (a := 310) c_18 rfl).trans (rfl)))))))) (by decide) ?_
  refine lv_iconst (v := 0) hx hb d_breaksAt_90 (by decide) ?_
  exact X _ (u_2, u_3, u_4, u_5, u_6, u_7, u_8, u_9) H locs 0 0 91 ls heq hW d_breaksAt_91 rfl (Nat.le_of_ble_eq_true rfl) (Nat.le_of_ble_eq_true rfl)
end
section
def mm_loose (x1 b1 b2 b3 b4 b5 b6 lo kn : Int32) : Int32 × Int32 × Int32 × Int32 × Int32 × Int32 × Int32 × Int32 × Int32 := if lo = x1 then (lo, b1, b2, b3, b4, b5, b6, x1, kn) else (match (mm_forgetRules b1 b2 b3 b4 b5 b6 kn) with | (u_2, u_3, u_4, u_5, u_6, u_7, u_8) => (lo, u_2, u_3, u_4, u_5, u_6, u_7, x1, u_8))
def rm_loose : Room := { frames := 2, cells := 0, slots := 0, locals := 40 }
set_option maxHeartbeats 4000000 in
set_option maxRecDepth 100000 in
theorem c_loose (l : Launch) (D : va_G) (cI : ClassId) (cL : ClassId × ClassId) (h : Nat → Nat) (tx cs rl gv fa1 la1 va1 : Nat → Int32) (mn1 : Int32) (fa2 la2 va2 : Nat → Int32) (mn2 : Int32) (fa3 la3 va3 : Nat → Int32) (mn3 b1 b2 b3 b4 b5 b6 ln lo kn x1 : Int32) (hlo : (x1 = 0 ∨ x1 = 1) ∧ (lo = 0 ∨ lo = 1)) : gk_I l y_loose (.code y_loose b_loose 3 (some .boolean) :: wA) rm_loose D vwCl (gk_T cI cL) [.ref (h 0), .int x1] (wd_P cI h tx cs rl gv fa1 la1 va1 mn1 fa2 la2 va2 mn2 fa3 la3 va3 mn3 b1 b2 b3 b4 b5 b6 ln lo kn) (fun (r : Int32) (u : Int32 × Int32 × Int32 × Int32 × Int32 × Int32 × Int32 × Int32) => (r, u) = mm_loose x1 b1 b2 b3 b4 b5 b6 lo kn) (fun u => (wd_P cI h tx cs rl gv fa1 la1 va1 mn1 fa2 la2 va2 mn2 fa3 la3 va3 mn3 u.1 u.2.1 u.2.2.1 u.2.2.2.1 u.2.2.2.2.1 u.2.2.2.2.2.1 ln u.2.2.2.2.2.2.1 u.2.2.2.2.2.2.2)) 0 0 := by
  refine gk_I.of (by decide) (Nat.le_of_ble_eq_true rfl) ?_
  intro p e s m below meth c A ls Q H locs hx hb hml hown hts hW hl X
  have hl : lv_has ls 3 [(0, .ref (h 0)), (1, .int x1)] := hl
  obtain ⟨tgt, heq⟩ : ∃ t, mm_loose x1 b1 b2 b3 b4 b5 b6 lo kn = t := ⟨_, rfl⟩
  rw [heq] at X
  rw [mm_loose] at heq
  obtain ⟨z_x1, v_x1⟩ := gk_vex x1
  obtain ⟨z_lo, v_lo⟩ := gk_vex lo
  refine lv_aload_n hx hb d_loose_0 rfl (lv_at hl 0 rfl) ?_
  refine va_get (D := D) (C := R_P) (T := F_P) (N := 11) hx hb hts i_P hown hW.1 hW.2.1 0 rfl rfl 9 (by decide) (hts _ w_49) (fun _ h9 => h9) rfl d_loose_1 ?_
  refine lv_istore_n (lv' := [(2, .int lo), (0, .ref (h 0)), (1, .int x1)]) hx hb d_loose_4 rfl hl (by decide) rfl (fun ls hl => ?_)
  refine lv_aload_n hx hb d_loose_5 rfl (lv_at hl 1 rfl) ?_
  refine lv_iload_n hx hb d_loose_6 rfl (lv_at hl 2 rfl) ?_
  refine va_put (D := D) (ci := 0) (v := .int x1) (ty := .boolean) (C := R_P) (T := F_P) (N := 11) hx hb hts i_P t_P t_P_ok n_P hown hW.1 hW.2.1 hW.2.2.1 hW.2.2.2.1 0 rfl rfl 9 (by decide) (hts _ w_49) (fun _ h9 => h9) rfl (by decide +kernel) (gz_n hlo.1) (gz_f hlo.1) (Nat.le_of_ble_eq_true rfl) d_loose_7 (fun H locs hP hD hS => ?_)
  have hW : gk_W D vwCl (gk_T cI cL) s A H locs (wd_P cI h tx cs rl gv fa1 la1 va1 mn1 fa2 la2 va2 mn2 fa3 la3 va3 mn3 b1 b2 b3 b4 b5 b6 ln x1 kn) := ⟨hW.1, hP, hD, hS, hW.2.2.2.2⟩
  refine lv_iload_n hx hb d_loose_10 rfl (lv_at hl 0 rfl) ?_
  refine lv_iload_n hx hb d_loose_11 rfl (lv_at hl 2 rfl) ?_
  refine lv_icmp_eq (tgt := 19) hx hb d_loose_12 (by decide) (fun c_1 => ?_) (fun c_1 => ?_)
  · rw [if_pos c_1] at heq
    refine lv_iload_n hx hb d_loose_19 rfl (lv_at hl 0 rfl) ?_
    exact X _ (b1, b2, b3, b4, b5, b6, x1, kn) H locs 0 0 20 ls heq hW d_loose_20 (gz_n hlo.2) (Nat.le_of_ble_eq_true rfl) (Nat.le_of_ble_eq_true rfl)
  · rw [if_neg c_1] at heq
    refine lv_aload_n hx hb d_loose_15 rfl (lv_at hl 1 rfl) ?_
    refine gk_goV (wr := []) hW [0, 1, 2, 3, 4, 5, 6, 7, 8, 9, 10, 11, 12, 13, 14, 15, 16, 17] [] rfl rfl (by decide) (by decide) (va_runV (As := []) (rest := []) ⟨hx, hb, hml, hown, hts⟩ (c_forgetRules l D cI cL h tx cs rl gv fa1 la1 va1 mn1 fa2 la2 va2 mn2 fa3 la3 va3 mn3 b1 b2 b3 b4 b5 b6 ln x1 kn _) (gk_cwV hts w_86 w_87 w_88 w_3 k_forgetRules rfl e_forgetRules rfl rfl ⟨Nat.le_of_ble_eq_true rfl, Nat.le_of_ble_eq_true rfl⟩) (gk_preV hW [0, 1, 2, 3, 4, 5, 6, 7, 8, 9, 10, 11, 12, 13, 14, 15, 16, 17] rfl rfl rfl rfl) rfl rfl hl.1 rfl (lv_room (Nat.le_of_ble_eq_true rfl)) d_loose_16 ⟨Nat.le_of_ble_eq_true rfl, Nat.le_of_ble_eq_true rfl⟩) (fun u H locs p_9 hW => ?_)
    obtain ⟨u_2, u_3, u_4, u_5, u_6, u_7, u_8⟩ := u
    have hW : gk_W D vwCl (gk_T cI cL) s A H locs (wd_P cI h tx cs rl gv fa1 la1 va1 mn1 fa2 la2 va2 mn2 fa3 la3 va3 mn3 u_2 u_3 u_4 u_5 u_6 u_7 ln x1 u_8) := hW.re [0, 1, 2, 3, 4, 5, 6, 7, 8, 9, 10, 11, 12, 13, 14, 15, 16, 17] (by decide) rfl
    rw [← p_9] at heq
    dsimp only at heq
    refine lv_iload_n hx hb d_loose_19 rfl (lv_at hl 0 rfl) ?_
    exact X _ (u_2, u_3, u_4, u_5, u_6, u_7, x1, u_8) H locs 0 0 20 ls heq hW d_loose_20 (gz_n hlo.2) (Nat.le_of_ble_eq_true rfl) (Nat.le_of_ble_eq_true rfl)
def mm_clear (b1 b2 b3 b4 b5 b6 ln kn : Int32) : Int32 × Int32 × Int32 × Int32 × Int32 × Int32 × Int32 × Int32 × Int32 := match (mm_forgetRules b1 b2 b3 b4 b5 b6 kn) with | (u_1, u_2, u_3, u_4, u_5, u_6, u_7) => (ln, u_1, u_2, u_3, u_4, u_5, u_6, 0, u_7)
def rm_clear : Room := { frames := 2, cells := 0, slots := 0, locals := 40 }
set_option maxHeartbeats 4000000 in
set_option maxRecDepth 100000 in
theorem c_clear (l : Launch) (D : va_G) (cI : ClassId) (cL : ClassId × ClassId) (h : Nat → Nat) (tx cs rl gv fa1 la1 va1 : Nat → Int32) (mn1 : Int32) (fa2 la2 va2 : Nat → Int32) (mn2 : Int32) (fa3 la3 va3 : Nat → Int32) (mn3 b1 b2 b3 b4 b5 b6 ln lo kn : Int32) : gk_I l y_clear (.code y_clear b_clear 2 (some .int) :: wA) rm_clear D vwCl (gk_T cI cL) [.ref (h 0)] (wd_P cI h tx cs rl gv fa1 la1 va1 mn1 fa2 la2 va2 mn2 fa3 la3 va3 mn3 b1 b2 b3 b4 b5 b6 ln lo kn) (fun (r : Int32) (u : Int32 × Int32 × Int32 × Int32 × Int32 × Int32 × Int32 × Int32) => (r, u) = mm_clear b1 b2 b3 b4 b5 b6 ln kn) (fun u => (wd_P cI h tx cs rl gv fa1 la1 va1 mn1 fa2 la2 va2 mn2 fa3 la3 va3 mn3 u.1 u.2.1 u.2.2.1 u.2.2.2.1 u.2.2.2.2.1 u.2.2.2.2.2.1 u.2.2.2.2.2.2.1 lo u.2.2.2.2.2.2.2)) 0 0 := by
  refine gk_I.of (by decide) (Nat.le_of_ble_eq_true rfl) ?_
  intro p e s m below meth c A ls Q H locs hx hb hml hown hts hW hl X
  have hl : lv_has ls 2 [(0, .ref (h 0))] := hl
  obtain ⟨tgt, heq⟩ : ∃ t, mm_clear b1 b2 b3 b4 b5 b6 ln kn = t := ⟨_, rfl⟩
  rw [heq] at X
  rw [mm_clear] at heq
  refine lv_aload_n hx hb d_clear_0 rfl (lv_at hl 0 rfl) ?_
  refine va_get (D := D) (C := R_P) (T := F_P) (N := 11) hx hb hts i_P hown hW.1 hW.2.1 0 rfl rfl 8 (by decide) (hts _ w_42) (fun _ h9 => h9) rfl d_clear_1 ?_
  refine lv_istore_n (lv' := [(1, .int ln), (0, .ref (h 0))]) hx hb d_clear_4 rfl hl (by decide) rfl (fun ls hl => ?_)
  refine lv_aload_n hx hb d_clear_5 rfl (lv_at hl 1 rfl) ?_
  refine lv_iconst (v := 0) hx hb d_clear_6 (by decide) ?_
  refine va_put (D := D) (ci := 0) (v := .int 0) (ty := .int) (C := R_P) (T := F_P) (N := 11) hx hb hts i_P t_P t_P_ok n_P hown hW.1 hW.2.1 hW.2.2.1 hW.2.2.2.1 0 rfl rfl 8 (by decide) (hts _ w_42) (fun _ h9 => h9) rfl (by decide +kernel) rfl rfl (Nat.le_of_ble_eq_true rfl) d_clear_7 (fun H locs hP hD hS => ?_)
  have hW : gk_W D vwCl (gk_T cI cL) s A H locs (wd_P cI h tx cs rl gv fa1 la1 va1 mn1 fa2 la2 va2 mn2 fa3 la3 va3 mn3 b1 b2 b3 b4 b5 b6 0 lo kn) := ⟨hW.1, hP, hD, hS, hW.2.2.2.2⟩
  refine lv_aload_n hx hb d_clear_10 rfl (lv_at hl 1 rfl) ?_
  refine gk_goV (wr := []) hW [0, 1, 2, 3, 4, 5, 6, 7, 8, 9, 10, 11, 12, 13, 14, 15, 16, 17] [] rfl rfl (by decide) (by decide) (va_runV (As := []) (rest := []) ⟨hx, hb, hml, hown, hts⟩ (c_forgetRules l D cI cL h tx cs rl gv fa1 la1 va1 mn1 fa2 la2 va2 mn2 fa3 la3 va3 mn3 b1 b2 b3 b4 b5 b6 0 lo kn _) (gk_cwV hts w_86 w_87 w_88 w_3 k_forgetRules rfl e_forgetRules rfl rfl ⟨Nat.le_of_ble_eq_true rfl, Nat.le_of_ble_eq_true rfl⟩) (gk_preV hW [0, 1, 2, 3, 4, 5, 6, 7, 8, 9, 10, 11, 12, 13, 14, 15, 16, 17] rfl rfl rfl rfl) rfl rfl hl.1 rfl (lv_room (Nat.le_of_ble_eq_true rfl)) d_clear_11 ⟨Nat.le_of_ble_eq_true rfl, Nat.le_of_ble_eq_true rfl⟩) (fun u H locs p_8 hW => ?_)
  obtain ⟨u_1, u_2, u_3, u_4, u_5, u_6, u_7⟩ := u
  have hW : gk_W D vwCl (gk_T cI cL) s A H locs (wd_P cI h tx cs rl gv fa1 la1 va1 mn1 fa2 la2 va2 mn2 fa3 la3 va3 mn3 u_1 u_2 u_3 u_4 u_5 u_6 0 lo u_7) := hW.re [0, 1, 2, 3, 4, 5, 6, 7, 8, 9, 10, 11, 12, 13, 14, 15, 16, 17] (by decide) rfl
  rw [← p_8] at heq
  dsimp only at heq
  refine lv_iload_n hx hb d_clear_14 rfl (lv_at hl 0 rfl) ?_
  exact X _ (u_1, u_2, u_3, u_4, u_5, u_6, 0, u_7) H locs 0 0 15 ls heq hW d_clear_15 rfl (Nat.le_of_ble_eq_true rfl) (Nat.le_of_ble_eq_true rfl)
end
section
def mm_mIsChar (x0 : Int32) : Int32 := if x0 < 0 then 0 else (if 1114111 < x0 then 0 else 1)
def rm_mIsChar : Room := { frames := 0, cells := 0, slots := 0, locals := 0 }
set_option maxHeartbeats 4000000 in
set_option maxRecDepth 100000 in
theorem c_mIsChar (l : Launch) (D : va_G) (cI : ClassId) (cL : ClassId × ClassId) (x0 : Int32) : gk_I l y_mIsChar (.code y_mIsChar b_mIsChar 1 (some .boolean) :: wA) rm_mIsChar D vwCl (gk_T cI cL) [.int x0] [] (fun (r : Int32) (_ : Unit) => r = mm_mIsChar x0) (fun (_ : Unit) => []) 0 0 := by
  refine gk_I.of (by decide) (Nat.le_of_ble_eq_true rfl) ?_
  intro p e s m below meth c A ls Q H locs hx hb hml hown hts hW hl X
  have hl : lv_has ls 1 [(0, .int x0)] := hl
  obtain ⟨tgt, heq⟩ : ∃ t, mm_mIsChar x0 = t := ⟨_, rfl⟩
  rw [heq] at X
  rw [mm_mIsChar] at heq
  refine lv_iload_n hx hb d_mIsChar_0 rfl (lv_at hl 0 rfl) ?_
  refine lv_if_lt (tgt := 14) hx hb d_mIsChar_1 (by decide) (fun c_1 => ?_) (fun c_1 => ?_)
  · rw [if_pos c_1] at heq
    refine lv_iconst (v := 0) hx hb d_mIsChar_14 (by decide) ?_
    exact X _ () H locs 0 0 15 ls heq hW d_mIsChar_15 rfl (Nat.le_of_ble_eq_true rfl) (Nat.le_of_ble_eq_true rfl)
  · rw [if_neg c_1] at heq
    refine lv_iload_n hx hb d_mIsChar_4 rfl (lv_at hl 0 rfl) ?_
    refine lv_ldc (v := 1114111) hx hb hown (hts _ w_108) d_mIsChar_5 ?_
    refine lv_icmp_gt (tgt := 14) hx hb d_mIsChar_7 (by decide) (fun c_2 => ?_) (fun c_2 => ?_)
    · rw [if_pos c_2] at heq
      refine lv_iconst (v := 0) hx hb d_mIsChar_14 (by decide) ?_
      exact X _ () H locs 0 0 15 ls heq hW d_mIsChar_15 rfl (Nat.le_of_ble_eq_true rfl) (Nat.le_of_ble_eq_true rfl)
    · rw [if_neg c_2] at heq
      refine lv_iconst (v := 1) hx hb d_mIsChar_10 (by decide) ?_
      refine lv_goto (tgt := 15) hx hb d_mIsChar_11 (by decide) ?_
      exact X _ () H locs 0 0 15 ls heq hW d_mIsChar_15 rfl (Nat.le_of_ble_eq_true rfl) (Nat.le_of_ble_eq_true rfl)
def mm_mIsLetter (x0 : Int32) : Int32 := if x0 = 27 then 1 else (if x0 = 28 then 1 else 0)
def rm_mIsLetter : Room := { frames := 0, cells := 0, slots := 0, locals := 0 }
set_option maxHeartbeats 4000000 in
set_option maxRecDepth 100000 in
theorem c_mIsLetter (l : Launch) (D : va_G) (cI : ClassId) (cL : ClassId × ClassId) (x0 : Int32) : gk_I l y_mIsLetter (.code y_mIsLetter b_mIsLetter 1 (some .boolean) :: wA) rm_mIsLetter D vwCl (gk_T cI cL) [.int x0] [] (fun (r : Int32) (_ : Unit) => r = mm_mIsLetter x0) (fun (_ : Unit) => []) 0 0 := by
  refine gk_I.of (by decide) (Nat.le_of_ble_eq_true rfl) ?_
  intro p e s m below meth c A ls Q H locs hx hb hml hown hts hW hl X
  have hl : lv_has ls 1 [(0, .int x0)] := hl
  obtain ⟨tgt, heq⟩ : ∃ t, mm_mIsLetter x0 = t := ⟨_, rfl⟩
  rw [heq] at X
  rw [mm_mIsLetter] at heq
  refine lv_iload_n hx hb d_mIsLetter_0 rfl (lv_at hl 0 rfl) ?_
  refine lv_bipush (v := 27) hx hb d_mIsLetter_1 (by decide) ?_
  refine lv_icmp_eq (tgt := 12) hx hb d_mIsLetter_3 (by decide) (fun c_1 => ?_) (fun c_1 => ?_)
  · rw [if_pos c_1] at heq
    refine lv_iconst (v := 1) hx hb d_mIsLetter_12 (by decide) ?_
    refine lv_goto (tgt := 17) hx hb d_mIsLetter_13 (by decide) ?_
    exact X _ () H locs 0 0 17 ls heq hW d_mIsLetter_17 rfl (Nat.le_of_ble_eq_true rfl) (Nat.le_of_ble_eq_true rfl)
  · rw [if_neg c_1] at heq
    refine lv_iload_n hx hb d_mIsLetter_6 rfl (lv_at hl 0 rfl) ?_
    refine lv_bipush (v := 28) hx hb d_mIsLetter_7 (by decide) ?_
    refine lv_icmp_ne (tgt := 16) hx hb d_mIsLetter_9 (by decide) (fun c_2 => ?_) (fun c_2 => ?_)
    · rw [if_neg c_2] at heq
      refine lv_iconst (v := 0) hx hb d_mIsLetter_16 (by decide) ?_
      exact X _ () H locs 0 0 17 ls heq hW d_mIsLetter_17 rfl (Nat.le_of_ble_eq_true rfl) (Nat.le_of_ble_eq_true rfl)
    · rw [if_pos c_2] at heq
      refine lv_iconst (v := 1) hx hb d_mIsLetter_12 (by decide) ?_
      refine lv_goto (tgt := 17) hx hb d_mIsLetter_13 (by decide) ?_
      exact X _ () H locs 0 0 17 ls heq hW d_mIsLetter_17 rfl (Nat.le_of_ble_eq_true rfl) (Nat.le_of_ble_eq_true rfl)
def mm_mIsHangul (x0 : Int32) : Int32 := if x0 < 32 then 0 else (if 36 < x0 then 0 else 1)
def rm_mIsHangul : Room := { frames := 0, cells := 0, slots := 0, locals := 0 }
set_option maxHeartbeats 4000000 in
set_option maxRecDepth 100000 in
theorem c_mIsHangul (l : Launch) (D : va_G) (cI : ClassId) (cL : ClassId × ClassId) (x0 : Int32) : gk_I l y_mIsHangul (.code y_mIsHangul b_mIsHangul 1 (some .boolean) :: wA) rm_mIsHangul D vwCl (gk_T cI cL) [.int x0] [] (fun (r : Int32) (_ : Unit) => r = mm_mIsHangul x0) (fun (_ : Unit) => []) 0 0 := by
  refine gk_I.of (by decide) (Nat.le_of_ble_eq_true rfl) ?_
  intro p e s m below meth c A ls Q H locs hx hb hml hown hts hW hl X
  have hl : lv_has ls 1 [(0, .int x0)] := hl
  obtain ⟨tgt, heq⟩ : ∃ t, mm_mIsHangul x0 = t := ⟨_, rfl⟩
  rw [heq] at X
  rw [mm_mIsHangul] at heq
  refine lv_iload_n hx hb d_mIsHangul_0 rfl (lv_at hl 0 rfl) ?_
  refine lv_bipush (v := 32) hx hb d_mIsHangul_1 (by decide) ?_
  refine lv_icmp_lt (tgt := 16) hx hb d_mIsHangul_3 (by decide) (fun c_1 => ?_) (fun c_1 => ?_)
  · rw [if_pos c_1] at heq
    refine lv_iconst (v := 0) hx hb d_mIsHangul_16 (by decide) ?_
    exact X _ () H locs 0 0 17 ls heq hW d_mIsHangul_17 rfl (Nat.le_of_ble_eq_true rfl) (Nat.le_of_ble_eq_true rfl)
  · rw [if_neg c_1] at heq
    refine lv_iload_n hx hb d_mIsHangul_6 rfl (lv_at hl 0 rfl) ?_
    refine lv_bipush (v := 36) hx hb d_mIsHangul_7 (by decide) ?_
    refine lv_icmp_gt (tgt := 16) hx hb d_mIsHangul_9 (by decide) (fun c_2 => ?_) (fun c_2 => ?_)
    · rw [if_pos c_2] at heq
      refine lv_iconst (v := 0) hx hb d_mIsHangul_16 (by decide) ?_
      exact X _ () H locs 0 0 17 ls heq hW d_mIsHangul_17 rfl (Nat.le_of_ble_eq_true rfl) (Nat.le_of_ble_eq_true rfl)
    · rw [if_neg c_2] at heq
      refine lv_iconst (v := 1) hx hb d_mIsHangul_12 (by decide) ?_
      refine lv_goto (tgt := 17) hx hb d_mIsHangul_13 (by decide) ?_
      exact X _ () H locs 0 0 17 ls heq hW d_mIsHangul_17 rfl (Nat.le_of_ble_eq_true rfl) (Nat.le_of_ble_eq_true rfl)
def mm_mIsBlank (x0 : Int32) : Int32 := if 4 < x0 then 0 else 1
def rm_mIsBlank : Room := { frames := 0, cells := 0, slots := 0, locals := 0 }
set_option maxHeartbeats 4000000 in
set_option maxRecDepth 100000 in
theorem c_mIsBlank (l : Launch) (D : va_G) (cI : ClassId) (cL : ClassId × ClassId) (x0 : Int32) : gk_I l y_mIsBlank (.code y_mIsBlank b_mIsBlank 1 (some .boolean) :: wA) rm_mIsBlank D vwCl (gk_T cI cL) [.int x0] [] (fun (r : Int32) (_ : Unit) => r = mm_mIsBlank x0) (fun (_ : Unit) => []) 0 0 := by
  refine gk_I.of (by decide) (Nat.le_of_ble_eq_true rfl) ?_
  intro p e s m below meth c A ls Q H locs hx hb hml hown hts hW hl X
  have hl : lv_has ls 1 [(0, .int x0)] := hl
  obtain ⟨tgt, heq⟩ : ∃ t, mm_mIsBlank x0 = t := ⟨_, rfl⟩
  rw [heq] at X
  rw [mm_mIsBlank] at heq
  refine lv_iload_n hx hb d_mIsBlank_0 rfl (lv_at hl 0 rfl) ?_
  refine lv_iconst (v := 4) hx hb d_mIsBlank_1 (by decide) ?_
  refine lv_icmp_gt (tgt := 9) hx hb d_mIsBlank_2 (by decide) (fun c_1 => ?_) (fun c_1 => ?_)
  · rw [if_pos c_1] at heq
    refine lv_iconst (v := 0) hx hb d_mIsBlank_9 (by decide) ?_
    exact X _ () H locs 0 0 10 ls heq hW d_mIsBlank_10 rfl (Nat.le_of_ble_eq_true rfl) (Nat.le_of_ble_eq_true rfl)
  · rw [if_neg c_1] at heq
    refine lv_iconst (v := 1) hx hb d_mIsBlank_5 (by decide) ?_
    refine lv_goto (tgt := 10) hx hb d_mIsBlank_6 (by decide) ?_
    exact X _ () H locs 0 0 10 ls heq hW d_mIsBlank_10 rfl (Nat.le_of_ble_eq_true rfl) (Nat.le_of_ble_eq_true rfl)
def mm_mIsNumeric_98 (x0 x1 x2 x3 : Int32) : Int32 := if x1 = 23 then 1 else 0
def mm_mIsNumeric_65 (x0 x1 x2 y0 : Int32) : Int32 := if x2 = 0 then (if y0 = 0 then (if x0 = 13 then (mm_mIsNumeric_98 x0 x1 x2 y0) else (if x0 = 22 then (mm_mIsNumeric_98 x0 x1 x2 y0) else (if x0 = 23 then (mm_mIsNumeric_98 x0 x1 x2 y0) else (if x0 = 26 then (mm_mIsNumeric_98 x0 x1 x2 y0) else 0)))) else 1) else 1
def mm_mIsNumeric_64 (x0 x1 x2 : Int32) : Int32 := mm_mIsNumeric_65 x0 x1 x2 0
def mm_mIsNumeric_60 (x0 x1 x2 : Int32) : Int32 := mm_mIsNumeric_65 x0 x1 x2 1
def mm_mIsNumeric_48 (x0 x1 x2 : Int32) : Int32 := if x1 = 20 then (mm_mIsNumeric_60 x0 x1 x2) else (if x1 = 23 then (mm_mIsNumeric_60 x0 x1 x2) else (mm_mIsNumeric_64 x0 x1 x2))
def mm_mIsNumeric_35 (x0 x1 y0 : Int32) : Int32 := if x0 = 24 then (mm_mIsNumeric_48 x0 x1 y0) else (if x0 = 25 then (mm_mIsNumeric_48 x0 x1 y0) else (mm_mIsNumeric_64 x0 x1 y0))
def mm_mIsNumeric_34 (x0 x1 : Int32) : Int32 := mm_mIsNumeric_35 x0 x1 0
def mm_mIsNumeric_30 (x0 x1 : Int32) : Int32 := mm_mIsNumeric_35 x0 x1 1
def mm_mIsNumeric_18 (x0 x1 : Int32) : Int32 := if x1 = 24 then (mm_mIsNumeric_30 x0 x1) else (if x1 = 25 then (mm_mIsNumeric_30 x0 x1) else (mm_mIsNumeric_34 x0 x1))
def mm_mIsNumeric (x0 x1 : Int32) : Int32 := if x0 = 15 then (mm_mIsNumeric_18 x0 x1) else (if x0 = 16 then (mm_mIsNumeric_18 x0 x1) else (if x0 = 23 then (mm_mIsNumeric_18 x0 x1) else (mm_mIsNumeric_34 x0 x1)))
def rm_mIsNumeric : Room := { frames := 0, cells := 0, slots := 0, locals := 0 }
set_option maxHeartbeats 4000000 in
set_option maxRecDepth 100000 in
theorem c_mIsNumeric (l : Launch) (D : va_G) (cI : ClassId) (cL : ClassId × ClassId) (x0 x1 : Int32) : gk_I l y_mIsNumeric (.code y_mIsNumeric b_mIsNumeric 4 (some .boolean) :: wA) rm_mIsNumeric D vwCl (gk_T cI cL) [.int x0, .int x1] [] (fun (r : Int32) (_ : Unit) => r = mm_mIsNumeric x0 x1) (fun (_ : Unit) => []) 0 0 := by
  refine gk_I.of (by decide) (Nat.le_of_ble_eq_true rfl) ?_
  intro p e s m below meth c A ls Q H locs hx hb hml hown hts hW hl X
  have hl : lv_has ls 4 [(0, .int x0), (1, .int x1)] := hl
  obtain ⟨tgt, heq⟩ : ∃ t, mm_mIsNumeric x0 x1 = t := ⟨_, rfl⟩
  rw [heq] at X
  rw [mm_mIsNumeric] at heq
  have K98 : ∀ (x2 x3 : Int32) (H : Heap) (locs : List Loc) (ls : Array Slot), mm_mIsNumeric_98 x0 x1 x2 x3 = tgt → gk_W D vwCl (gk_T cI cL) s A H locs [] → lv_has ls 4 [(0, .int x0), (1, .int x1), (2, .int x2), (3, .int x3)] → W p l e rm_mIsNumeric s m [.int x0, .int x1].toArray below meth c H locs 0 0 Q (F0 m 98 ls []) := by
    intro x2 x3 H locs ls heq hW hl
    rw [mm_mIsNumeric_98] at heq
    refine lv_iload_n hx hb d_mIsNumeric_98 rfl (lv_at hl 1 rfl) ?_
    refine lv_bipush (v := 23) hx hb d_mIsNumeric_99 (by decide) ?_
    refine lv_icmp_ne (tgt := 108) hx hb d_mIsNumeric_101 (by decide) (fun c_1 => ?_) (fun c_1 => ?_)
    · rw [if_neg c_1] at heq
      refine lv_iconst (v := 0) hx hb d_mIsNumeric_108 (by decide) ?_
      exact X _ () H locs 0 0 109 ls heq hW d_mIsNumeric_109 rfl (Nat.le_of_ble_eq_true rfl) (Nat.le_of_ble_eq_true rfl)
    · rw [if_pos c_1] at heq
      refine lv_iconst (v := 1) hx hb d_mIsNumeric_104 (by decide) ?_
      refine lv_goto (tgt := 109) hx hb d_mIsNumeric_105 (by decide) ?_
      exact X _ () H locs 0 0 109 ls heq hW d_mIsNumeric_109 rfl (Nat.le_of_ble_eq_true rfl) (Nat.le_of_ble_eq_true rfl)
  have K65 : ∀ (x2 y0 : Int32) (H : Heap) (locs : List Loc) (ls : Array Slot), mm_mIsNumeric_65 x0 x1 x2 y0 = tgt → gk_W D vwCl (gk_T cI cL) s A H locs [] → lv_has ls 4 [(0, .int x0), (1, .int x1), (2, .int x2)] → W p l e rm_mIsNumeric s m [.int x0, .int x1].toArray below meth c H locs 0 0 Q (F0 m 65 ls [.int y0]) := by
    intro x2 y0 H locs ls heq hW hl
    rw [mm_mIsNumeric_65] at heq
    refine lv_istore_n (lv' := [(3, .int y0), (0, .int x0), (1, .int x1), (2, .int x2)]) hx hb d_mIsNumeric_65 rfl hl (by decide) rfl (fun ls hl => ?_)
    refine lv_iload_n hx hb d_mIsNumeric_66 rfl (lv_at hl 3 rfl) ?_
    refine lv_if_ne (tgt := 104) hx hb d_mIsNumeric_67 (by decide) (fun c_2 => ?_) (fun c_2 => ?_)
    · rw [if_neg c_2] at heq
      refine lv_iconst (v := 1) hx hb d_mIsNumeric_104 (by decide) ?_
      refine lv_goto (tgt := 109) hx hb d_mIsNumeric_105 (by decide) ?_
      exact X _ () H locs 0 0 109 ls heq hW d_mIsNumeric_109 rfl (Nat.le_of_ble_eq_true rfl) (Nat.le_of_ble_eq_true rfl)
    · rw [if_pos c_2] at heq
      refine lv_iload_n hx hb d_mIsNumeric_70 rfl (lv_at hl 0 rfl) ?_
      refine lv_if_ne (tgt := 104) hx hb d_mIsNumeric_71 (by decide) (fun c_3 => ?_) (fun c_3 => ?_)
      · rw [if_neg c_3] at heq
        refine lv_iconst (v := 1) hx hb d_mIsNumeric_104 (by decide) ?_
        refine lv_goto (tgt := 109) hx hb d_mIsNumeric_105 (by decide) ?_
        exact X _ () H locs 0 0 109 ls heq hW d_mIsNumeric_109 rfl (Nat.le_of_ble_eq_true rfl) (Nat.le_of_ble_eq_true rfl)
      · rw [if_pos c_3] at heq
        refine lv_iload_n hx hb d_mIsNumeric_74 rfl (lv_at hl 1 rfl) ?_
        refine lv_bipush (v := 13) hx hb d_mIsNumeric_75 (by decide) ?_
        refine lv_icmp_eq (tgt := 98) hx hb d_mIsNumeric_77 (by decide) (fun c_4 => ?_) (fun c_4 => ?_)
        · rw [if_pos c_4] at heq
          exact K98 x2 y0 H locs ls heq hW (lv_sub hl [1, 2, 3, 0] rfl)
        · rw [if_neg c_4] at heq
          refine lv_iload_n hx hb d_mIsNumeric_80 rfl (lv_at hl 1 rfl) ?_
          refine lv_bipush (v := 22) hx hb d_mIsNumeric_81 (by decide) ?_
          refine lv_icmp_eq (tgt := 98) hx hb d_mIsNumeric_83 (by decide) (fun c_5 => ?_) (fun c_5 => ?_)
          · rw [if_pos c_5] at heq
            exact K98 x2 y0 H locs ls heq hW (lv_sub hl [1, 2, 3, 0] rfl)
          · rw [if_neg c_5] at heq
            refine lv_iload_n hx hb d_mIsNumeric_86 rfl (lv_at hl 1 rfl) ?_
            refine lv_bipush (v := 23) hx hb d_mIsNumeric_87 (by decide) ?_
            refine lv_icmp_eq (tgt := 98) hx hb d_mIsNumeric_89 (by decide) (fun c_6 => ?_) (fun c_6 => ?_)
            · rw [if_pos c_6] at heq
              exact K98 x2 y0 H locs ls heq hW (lv_sub hl [1, 2, 3, 0] rfl)
            · rw [if_neg c_6] at heq
              refine lv_iload_n hx hb d_mIsNumeric_92 rfl (lv_at hl 1 rfl) ?_
              refine lv_bipush (v := 26) hx hb d_mIsNumeric_93 (by decide) ?_
              refine lv_icmp_ne (tgt := 108) hx hb d_mIsNumeric_95 (by decide) (fun c_7 => ?_) (fun c_7 => ?_)
              · rw [if_neg c_7] at heq
                refine lv_iconst (v := 0) hx hb d_mIsNumeric_108 (by decide) ?_
                exact X _ () H locs 0 0 109 ls heq hW d_mIsNumeric_109 rfl (Nat.le_of_ble_eq_true rfl) (Nat.le_of_ble_eq_true rfl)
              · rw [if_pos c_7] at heq
                exact K98 x2 y0 H locs ls heq hW (lv_sub hl [1, 2, 3, 0] rfl)
  have K64 : ∀ (x2 : Int32) (H : Heap) (locs : List Loc) (ls : Array Slot), mm_mIsNumeric_64 x0 x1 x2 = tgt → gk_W D vwCl (gk_T cI cL) s A H locs [] → lv_has ls 4 [(0, .int x0), (1, .int x1), (2, .int x2)] → W p l e rm_mIsNumeric s m [.int x0, .int x1].toArray below meth c H locs 0 0 Q (F0 m 64 ls []) := by
    intro x2 H locs ls heq hW hl
    rw [mm_mIsNumeric_64] at heq
    refine lv_iconst (v := 0) hx hb d_mIsNumeric_64 (by decide) ?_
    exact K65 x2 0 H locs ls heq hW (lv_sub hl [0, 1, 2] rfl)
  have K60 : ∀ (x2 : Int32) (H : Heap) (locs : List Loc) (ls : Array Slot), mm_mIsNumeric_60 x0 x1 x2 = tgt → gk_W D vwCl (gk_T cI cL) s A H locs [] → lv_has ls 4 [(0, .int x0), (1, .int x1), (2, .int x2)] → W p l e rm_mIsNumeric s m [.int x0, .int x1].toArray below meth c H locs 0 0 Q (F0 m 60 ls []) := by
    intro x2 H locs ls heq hW hl
    rw [mm_mIsNumeric_60] at heq
    refine lv_iconst (v := 1) hx hb d_mIsNumeric_60 (by decide) ?_
    refine lv_goto (tgt := 65) hx hb d_mIsNumeric_61 (by decide) ?_
    exact K65 x2 1 H locs ls heq hW (lv_sub hl [0, 1, 2] rfl)
  have K48 : ∀ (x2 : Int32) (H : Heap) (locs : List Loc) (ls : Array Slot), mm_mIsNumeric_48 x0 x1 x2 = tgt → gk_W D vwCl (gk_T cI cL) s A H locs [] → lv_has ls 4 [(0, .int x0), (1, .int x1), (2, .int x2)] → W p l e rm_mIsNumeric s m [.int x0, .int x1].toArray below meth c H locs 0 0 Q (F0 m 48 ls []) := by
    intro x2 H locs ls heq hW hl
    rw [mm_mIsNumeric_48] at heq
    refine lv_iload_n hx hb d_mIsNumeric_48 rfl (lv_at hl 1 rfl) ?_
    refine lv_bipush (v := 20) hx hb d_mIsNumeric_49 (by decide) ?_
    refine lv_icmp_eq (tgt := 60) hx hb d_mIsNumeric_51 (by decide) (fun c_8 => ?_) (fun c_8 => ?_)
    · rw [if_pos c_8] at heq
      exact K60 x2 H locs ls heq hW (lv_sub hl [0, 1, 2] rfl)
    · rw [if_neg c_8] at heq
      refine lv_iload_n hx hb d_mIsNumeric_54 rfl (lv_at hl 1 rfl) ?_
      refine lv_bipush (v := 23) hx hb d_mIsNumeric_55 (by decide) ?_
      refine lv_icmp_ne (tgt := 64) hx hb d_mIsNumeric_57 (by decide) (fun c_9 => ?_) (fun c_9 => ?_)
      · rw [if_neg c_9] at heq
        exact K64 x2 H locs ls heq hW (lv_sub hl [0, 1, 2] rfl)
      · rw [if_pos c_9] at heq
        exact K60 x2 H locs ls heq hW (lv_sub hl [0, 1, 2] rfl)
  have K35 : ∀ (y0 : Int32) (H : Heap) (locs : List Loc) (ls : Array Slot), mm_mIsNumeric_35 x0 x1 y0 = tgt → gk_W D vwCl (gk_T cI cL) s A H locs [] → lv_has ls 4 [(0, .int x0), (1, .int x1)] → W p l e rm_mIsNumeric s m [.int x0, .int x1].toArray below meth c H locs 0 0 Q (F0 m 35 ls [.int y0]) := by
    intro y0 H locs ls heq hW hl
    rw [mm_mIsNumeric_35] at heq
    refine lv_istore_n (lv' := [(2, .int y0), (0, .int x0), (1, .int x1)]) hx hb d_mIsNumeric_35 rfl hl (by decide) rfl (fun ls hl => ?_)
    refine lv_iload_n hx hb d_mIsNumeric_36 rfl (lv_at hl 1 rfl) ?_
    refine lv_bipush (v := 24) hx hb d_mIsNumeric_37 (by decide) ?_
    refine lv_icmp_eq (tgt := 48) hx hb d_mIsNumeric_39 (by decide) (fun c_10 => ?_) (fun c_10 => ?_)
    · rw [if_pos c_10] at heq
      exact K48 y0 H locs ls heq hW (lv_sub hl [1, 2, 0] rfl)
    · rw [if_neg c_10] at heq
      refine lv_iload_n hx hb d_mIsNumeric_42 rfl (lv_at hl 1 rfl) ?_
      refine lv_bipush (v := 25) hx hb d_mIsNumeric_43 (by decide) ?_
      refine lv_icmp_ne (tgt := 64) hx hb d_mIsNumeric_45 (by decide) (fun c_11 => ?_) (fun c_11 => ?_)
      · rw [if_neg c_11] at heq
        exact K64 y0 H locs ls heq hW (lv_sub hl [1, 2, 0] rfl)
      · rw [if_pos c_11] at heq
        exact K48 y0 H locs ls heq hW (lv_sub hl [1, 2, 0] rfl)
  have K34 : ∀ (H : Heap) (locs : List Loc) (ls : Array Slot), mm_mIsNumeric_34 x0 x1 = tgt → gk_W D vwCl (gk_T cI cL) s A H locs [] → lv_has ls 4 [(0, .int x0), (1, .int x1)] → W p l e rm_mIsNumeric s m [.int x0, .int x1].toArray below meth c H locs 0 0 Q (F0 m 34 ls []) := by
    intro  H locs ls heq hW hl
    rw [mm_mIsNumeric_34] at heq
    refine lv_iconst (v := 0) hx hb d_mIsNumeric_34 (by decide) ?_
    exact K35 0 H locs ls heq hW (lv_sub hl [0, 1] rfl)
  have K30 : ∀ (H : Heap) (locs : List Loc) (ls : Array Slot), mm_mIsNumeric_30 x0 x1 = tgt → gk_W D vwCl (gk_T cI cL) s A H locs [] → lv_has ls 4 [(0, .int x0), (1, .int x1)] → W p l e rm_mIsNumeric s m [.int x0, .int x1].toArray below meth c H locs 0 0 Q (F0 m 30 ls []) := by
    intro  H locs ls heq hW hl
    rw [mm_mIsNumeric_30] at heq
    refine lv_iconst (v := 1) hx hb d_mIsNumeric_30 (by decide) ?_
    refine lv_goto (tgt := 35) hx hb d_mIsNumeric_31 (by decide) ?_
    exact K35 1 H locs ls heq hW (lv_sub hl [0, 1] rfl)
  have K18 : ∀ (H : Heap) (locs : List Loc) (ls : Array Slot), mm_mIsNumeric_18 x0 x1 = tgt → gk_W D vwCl (gk_T cI cL) s A H locs [] → lv_has ls 4 [(0, .int x0), (1, .int x1)] → W p l e rm_mIsNumeric s m [.int x0, .int x1].toArray below meth c H locs 0 0 Q (F0 m 18 ls []) := by
    intro  H locs ls heq hW hl
    rw [mm_mIsNumeric_18] at heq
    refine lv_iload_n hx hb d_mIsNumeric_18 rfl (lv_at hl 1 rfl) ?_
    refine lv_bipush (v := 24) hx hb d_mIsNumeric_19 (by decide) ?_
    refine lv_icmp_eq (tgt := 30) hx hb d_mIsNumeric_21 (by decide) (fun c_12 => ?_) (fun c_12 => ?_)
    · rw [if_pos c_12] at heq
      exact K30  H locs ls heq hW (lv_sub hl [0, 1] rfl)
    · rw [if_neg c_12] at heq
      refine lv_iload_n hx hb d_mIsNumeric_24 rfl (lv_at hl 1 rfl) ?_
      refine lv_bipush (v := 25) hx hb d_mIsNumeric_25 (by decide) ?_
      refine lv_icmp_ne (tgt := 34) hx hb d_mIsNumeric_27 (by decide) (fun c_13 => ?_) (fun c_13 => ?_)
      · rw [if_neg c_13] at heq
        exact K34  H locs ls heq hW (lv_sub hl [0, 1] rfl)
      · rw [if_pos c_13] at heq
        exact K30  H locs ls heq hW (lv_sub hl [0, 1] rfl)
  refine lv_iload_n hx hb d_mIsNumeric_0 rfl (lv_at hl 0 rfl) ?_
  refine lv_bipush (v := 15) hx hb d_mIsNumeric_1 (by decide) ?_
  refine lv_icmp_eq (tgt := 18) hx hb d_mIsNumeric_3 (by decide) (fun c_14 => ?_) (fun c_14 => ?_)
  · rw [if_pos c_14] at heq
    exact K18  H locs ls heq hW (lv_sub hl [0, 1] rfl)
  · rw [if_neg c_14] at heq
    refine lv_iload_n hx hb d_mIsNumeric_6 rfl (lv_at hl 0 rfl) ?_
    refine lv_bipush (v := 16) hx hb d_mIsNumeric_7 (by decide) ?_
    refine lv_icmp_eq (tgt := 18) hx hb d_mIsNumeric_9 (by decide) (fun c_15 => ?_) (fun c_15 => ?_)
    · rw [if_pos c_15] at heq
      exact K18  H locs ls heq hW (lv_sub hl [0, 1] rfl)
    · rw [if_neg c_15] at heq
      refine lv_iload_n hx hb d_mIsNumeric_12 rfl (lv_at hl 0 rfl) ?_
      refine lv_bipush (v := 23) hx hb d_mIsNumeric_13 (by decide) ?_
      refine lv_icmp_ne (tgt := 34) hx hb d_mIsNumeric_15 (by decide) (fun c_16 => ?_) (fun c_16 => ?_)
      · rw [if_neg c_16] at heq
        exact K34  H locs ls heq hW (lv_sub hl [0, 1] rfl)
      · rw [if_pos c_16] at heq
        exact K18  H locs ls heq hW (lv_sub hl [0, 1] rfl)
def mm_mIsSyllable_86 (x0 x1 x2 x3 : Int32) : Int32 := if x1 = 36 then 1 else 0
def mm_mIsSyllable_65 (x0 x1 x2 y0 : Int32) : Int32 := if x2 = 0 then (if y0 = 0 then (if x0 = 36 then (mm_mIsSyllable_86 x0 x1 x2 y0) else (if x0 = 33 then (mm_mIsSyllable_86 x0 x1 x2 y0) else 0)) else 1) else 1
def mm_mIsSyllable_64 (x0 x1 x2 : Int32) : Int32 := mm_mIsSyllable_65 x0 x1 x2 0
def mm_mIsSyllable_60 (x0 x1 x2 : Int32) : Int32 := mm_mIsSyllable_65 x0 x1 x2 1
def mm_mIsSyllable_48 (x0 x1 x2 : Int32) : Int32 := if x1 = 35 then (mm_mIsSyllable_60 x0 x1 x2) else (if x1 = 36 then (mm_mIsSyllable_60 x0 x1 x2) else (mm_mIsSyllable_64 x0 x1 x2))
def mm_mIsSyllable_35 (x0 x1 y0 : Int32) : Int32 := if x0 = 35 then (mm_mIsSyllable_48 x0 x1 y0) else (if x0 = 32 then (mm_mIsSyllable_48 x0 x1 y0) else (mm_mIsSyllable_64 x0 x1 y0))
def mm_mIsSyllable_34 (x0 x1 : Int32) : Int32 := mm_mIsSyllable_35 x0 x1 0
def mm_mIsSyllable_30 (x0 x1 : Int32) : Int32 := mm_mIsSyllable_35 x0 x1 1
def mm_mIsSyllable (x0 x1 : Int32) : Int32 := if x0 = 34 then (if x1 = 34 then (mm_mIsSyllable_30 x0 x1) else (if x1 = 35 then (mm_mIsSyllable_30 x0 x1) else (if x1 = 32 then (mm_mIsSyllable_30 x0 x1) else (if x1 = 33 then (mm_mIsSyllable_30 x0 x1) else (mm_mIsSyllable_34 x0 x1))))) else (mm_mIsSyllable_34 x0 x1)
def rm_mIsSyllable : Room := { frames := 0, cells := 0, slots := 0, locals := 0 }
set_option maxHeartbeats 4000000 in
set_option maxRecDepth 100000 in
theorem c_mIsSyllable (l : Launch) (D : va_G) (cI : ClassId) (cL : ClassId × ClassId) (x0 x1 : Int32) : gk_I l y_mIsSyllable (.code y_mIsSyllable b_mIsSyllable 4 (some .boolean) :: wA) rm_mIsSyllable D vwCl (gk_T cI cL) [.int x0, .int x1] [] (fun (r : Int32) (_ : Unit) => r = mm_mIsSyllable x0 x1) (fun (_ : Unit) => []) 0 0 := by
  refine gk_I.of (by decide) (Nat.le_of_ble_eq_true rfl) ?_
  intro p e s m below meth c A ls Q H locs hx hb hml hown hts hW hl X
  have hl : lv_has ls 4 [(0, .int x0), (1, .int x1)] := hl
  obtain ⟨tgt, heq⟩ : ∃ t, mm_mIsSyllable x0 x1 = t := ⟨_, rfl⟩
  rw [heq] at X
  rw [mm_mIsSyllable] at heq
  have K86 : ∀ (x2 x3 : Int32) (H : Heap) (locs : List Loc) (ls : Array Slot), mm_mIsSyllable_86 x0 x1 x2 x3 = tgt → gk_W D vwCl (gk_T cI cL) s A H locs [] → lv_has ls 4 [(0, .int x0), (1, .int x1), (2, .int x2), (3, .int x3)] → W p l e rm_mIsSyllable s m [.int x0, .int x1].toArray below meth c H locs 0 0 Q (F0 m 86 ls []) := by
    intro x2 x3 H locs ls heq hW hl
    rw [mm_mIsSyllable_86] at heq
    refine lv_iload_n hx hb d_mIsSyllable_86 rfl (lv_at hl 1 rfl) ?_
    refine lv_bipush (v := 36) hx hb d_mIsSyllable_87 (by decide) ?_
    refine lv_icmp_ne (tgt := 96) hx hb d_mIsSyllable_89 (by decide) (fun c_1 => ?_) (fun c_1 => ?_)
    · rw [if_neg c_1] at heq
      refine lv_iconst (v := 0) hx hb d_mIsSyllable_96 (by decide) ?_
      exact X _ () H locs 0 0 97 ls heq hW d_mIsSyllable_97 rfl (Nat.le_of_ble_eq_true rfl) (Nat.le_of_ble_eq_true rfl)
    · rw [if_pos c_1] at heq
      refine lv_iconst (v := 1) hx hb d_mIsSyllable_92 (by decide) ?_
      refine lv_goto (tgt := 97) hx hb d_mIsSyllable_93 (by decide) ?_
      exact X _ () H locs 0 0 97 ls heq hW d_mIsSyllable_97 rfl (Nat.le_of_ble_eq_true rfl) (Nat.le_of_ble_eq_true rfl)
  have K65 : ∀ (x2 y0 : Int32) (H : Heap) (locs : List Loc) (ls : Array Slot), mm_mIsSyllable_65 x0 x1 x2 y0 = tgt → gk_W D vwCl (gk_T cI cL) s A H locs [] → lv_has ls 4 [(0, .int x0), (1, .int x1), (2, .int x2)] → W p l e rm_mIsSyllable s m [.int x0, .int x1].toArray below meth c H locs 0 0 Q (F0 m 65 ls [.int y0]) := by
    intro x2 y0 H locs ls heq hW hl
    rw [mm_mIsSyllable_65] at heq
    refine lv_istore_n (lv' := [(3, .int y0), (0, .int x0), (1, .int x1), (2, .int x2)]) hx hb d_mIsSyllable_65 rfl hl (by decide) rfl (fun ls hl => ?_)
    refine lv_iload_n hx hb d_mIsSyllable_66 rfl (lv_at hl 3 rfl) ?_
    refine lv_if_ne (tgt := 92) hx hb d_mIsSyllable_67 (by decide) (fun c_2 => ?_) (fun c_2 => ?_)
    · rw [if_neg c_2] at heq
      refine lv_iconst (v := 1) hx hb d_mIsSyllable_92 (by decide) ?_
      refine lv_goto (tgt := 97) hx hb d_mIsSyllable_93 (by decide) ?_
      exact X _ () H locs 0 0 97 ls heq hW d_mIsSyllable_97 rfl (Nat.le_of_ble_eq_true rfl) (Nat.le_of_ble_eq_true rfl)
    · rw [if_pos c_2] at heq
      refine lv_iload_n hx hb d_mIsSyllable_70 rfl (lv_at hl 0 rfl) ?_
      refine lv_if_ne (tgt := 92) hx hb d_mIsSyllable_71 (by decide) (fun c_3 => ?_) (fun c_3 => ?_)
      · rw [if_neg c_3] at heq
        refine lv_iconst (v := 1) hx hb d_mIsSyllable_92 (by decide) ?_
        refine lv_goto (tgt := 97) hx hb d_mIsSyllable_93 (by decide) ?_
        exact X _ () H locs 0 0 97 ls heq hW d_mIsSyllable_97 rfl (Nat.le_of_ble_eq_true rfl) (Nat.le_of_ble_eq_true rfl)
      · rw [if_pos c_3] at heq
        refine lv_iload_n hx hb d_mIsSyllable_74 rfl (lv_at hl 1 rfl) ?_
        refine lv_bipush (v := 36) hx hb d_mIsSyllable_75 (by decide) ?_
        refine lv_icmp_eq (tgt := 86) hx hb d_mIsSyllable_77 (by decide) (fun c_4 => ?_) (fun c_4 => ?_)
        · rw [if_pos c_4] at heq
          exact K86 x2 y0 H locs ls heq hW (lv_sub hl [1, 2, 3, 0] rfl)
        · rw [if_neg c_4] at heq
          refine lv_iload_n hx hb d_mIsSyllable_80 rfl (lv_at hl 1 rfl) ?_
          refine lv_bipush (v := 33) hx hb d_mIsSyllable_81 (by decide) ?_
          refine lv_icmp_ne (tgt := 96) hx hb d_mIsSyllable_83 (by decide) (fun c_5 => ?_) (fun c_5 => ?_)
          · rw [if_neg c_5] at heq
            refine lv_iconst (v := 0) hx hb d_mIsSyllable_96 (by decide) ?_
            exact X _ () H locs 0 0 97 ls heq hW d_mIsSyllable_97 rfl (Nat.le_of_ble_eq_true rfl) (Nat.le_of_ble_eq_true rfl)
          · rw [if_pos c_5] at heq
            exact K86 x2 y0 H locs ls heq hW (lv_sub hl [1, 2, 3, 0] rfl)
  have K64 : ∀ (x2 : Int32) (H : Heap) (locs : List Loc) (ls : Array Slot), mm_mIsSyllable_64 x0 x1 x2 = tgt → gk_W D vwCl (gk_T cI cL) s A H locs [] → lv_has ls 4 [(0, .int x0), (1, .int x1), (2, .int x2)] → W p l e rm_mIsSyllable s m [.int x0, .int x1].toArray below meth c H locs 0 0 Q (F0 m 64 ls []) := by
    intro x2 H locs ls heq hW hl
    rw [mm_mIsSyllable_64] at heq
    refine lv_iconst (v := 0) hx hb d_mIsSyllable_64 (by decide) ?_
    exact K65 x2 0 H locs ls heq hW (lv_sub hl [0, 1, 2] rfl)
  have K60 : ∀ (x2 : Int32) (H : Heap) (locs : List Loc) (ls : Array Slot), mm_mIsSyllable_60 x0 x1 x2 = tgt → gk_W D vwCl (gk_T cI cL) s A H locs [] → lv_has ls 4 [(0, .int x0), (1, .int x1), (2, .int x2)] → W p l e rm_mIsSyllable s m [.int x0, .int x1].toArray below meth c H locs 0 0 Q (F0 m 60 ls []) := by
    intro x2 H locs ls heq hW hl
    rw [mm_mIsSyllable_60] at heq
    refine lv_iconst (v := 1) hx hb d_mIsSyllable_60 (by decide) ?_
    refine lv_goto (tgt := 65) hx hb d_mIsSyllable_61 (by decide) ?_
    exact K65 x2 1 H locs ls heq hW (lv_sub hl [0, 1, 2] rfl)
  have K48 : ∀ (x2 : Int32) (H : Heap) (locs : List Loc) (ls : Array Slot), mm_mIsSyllable_48 x0 x1 x2 = tgt → gk_W D vwCl (gk_T cI cL) s A H locs [] → lv_has ls 4 [(0, .int x0), (1, .int x1), (2, .int x2)] → W p l e rm_mIsSyllable s m [.int x0, .int x1].toArray below meth c H locs 0 0 Q (F0 m 48 ls []) := by
    intro x2 H locs ls heq hW hl
    rw [mm_mIsSyllable_48] at heq
    refine lv_iload_n hx hb d_mIsSyllable_48 rfl (lv_at hl 1 rfl) ?_
    refine lv_bipush (v := 35) hx hb d_mIsSyllable_49 (by decide) ?_
    refine lv_icmp_eq (tgt := 60) hx hb d_mIsSyllable_51 (by decide) (fun c_6 => ?_) (fun c_6 => ?_)
    · rw [if_pos c_6] at heq
      exact K60 x2 H locs ls heq hW (lv_sub hl [0, 1, 2] rfl)
    · rw [if_neg c_6] at heq
      refine lv_iload_n hx hb d_mIsSyllable_54 rfl (lv_at hl 1 rfl) ?_
      refine lv_bipush (v := 36) hx hb d_mIsSyllable_55 (by decide) ?_
      refine lv_icmp_ne (tgt := 64) hx hb d_mIsSyllable_57 (by decide) (fun c_7 => ?_) (fun c_7 => ?_)
      · rw [if_neg c_7] at heq
        exact K64 x2 H locs ls heq hW (lv_sub hl [0, 1, 2] rfl)
      · rw [if_pos c_7] at heq
        exact K60 x2 H locs ls heq hW (lv_sub hl [0, 1, 2] rfl)
  have K35 : ∀ (y0 : Int32) (H : Heap) (locs : List Loc) (ls : Array Slot), mm_mIsSyllable_35 x0 x1 y0 = tgt → gk_W D vwCl (gk_T cI cL) s A H locs [] → lv_has ls 4 [(0, .int x0), (1, .int x1)] → W p l e rm_mIsSyllable s m [.int x0, .int x1].toArray below meth c H locs 0 0 Q (F0 m 35 ls [.int y0]) := by
    intro y0 H locs ls heq hW hl
    rw [mm_mIsSyllable_35] at heq
    refine lv_istore_n (lv' := [(2, .int y0), (0, .int x0), (1, .int x1)]) hx hb d_mIsSyllable_35 rfl hl (by decide) rfl (fun ls hl => ?_)
    refine lv_iload_n hx hb d_mIsSyllable_36 rfl (lv_at hl 1 rfl) ?_
    refine lv_bipush (v := 35) hx hb d_mIsSyllable_37 (by decide) ?_
    refine lv_icmp_eq (tgt := 48) hx hb d_mIsSyllable_39 (by decide) (fun c_8 => ?_) (fun c_8 => ?_)
    · rw [if_pos c_8] at heq
      exact K48 y0 H locs ls heq hW (lv_sub hl [1, 2, 0] rfl)
    · rw [if_neg c_8] at heq
      refine lv_iload_n hx hb d_mIsSyllable_42 rfl (lv_at hl 1 rfl) ?_
      refine lv_bipush (v := 32) hx hb d_mIsSyllable_43 (by decide) ?_
      refine lv_icmp_ne (tgt := 64) hx hb d_mIsSyllable_45 (by decide) (fun c_9 => ?_) (fun c_9 => ?_)
      · rw [if_neg c_9] at heq
        exact K64 y0 H locs ls heq hW (lv_sub hl [1, 2, 0] rfl)
      · rw [if_pos c_9] at heq
        exact K48 y0 H locs ls heq hW (lv_sub hl [1, 2, 0] rfl)
  have K34 : ∀ (H : Heap) (locs : List Loc) (ls : Array Slot), mm_mIsSyllable_34 x0 x1 = tgt → gk_W D vwCl (gk_T cI cL) s A H locs [] → lv_has ls 4 [(0, .int x0), (1, .int x1)] → W p l e rm_mIsSyllable s m [.int x0, .int x1].toArray below meth c H locs 0 0 Q (F0 m 34 ls []) := by
    intro  H locs ls heq hW hl
    rw [mm_mIsSyllable_34] at heq
    refine lv_iconst (v := 0) hx hb d_mIsSyllable_34 (by decide) ?_
    exact K35 0 H locs ls heq hW (lv_sub hl [0, 1] rfl)
  have K30 : ∀ (H : Heap) (locs : List Loc) (ls : Array Slot), mm_mIsSyllable_30 x0 x1 = tgt → gk_W D vwCl (gk_T cI cL) s A H locs [] → lv_has ls 4 [(0, .int x0), (1, .int x1)] → W p l e rm_mIsSyllable s m [.int x0, .int x1].toArray below meth c H locs 0 0 Q (F0 m 30 ls []) := by
    intro  H locs ls heq hW hl
    rw [mm_mIsSyllable_30] at heq
    refine lv_iconst (v := 1) hx hb d_mIsSyllable_30 (by decide) ?_
    refine lv_goto (tgt := 35) hx hb d_mIsSyllable_31 (by decide) ?_
    exact K35 1 H locs ls heq hW (lv_sub hl [0, 1] rfl)
  refine lv_iload_n hx hb d_mIsSyllable_0 rfl (lv_at hl 0 rfl) ?_
  refine lv_bipush (v := 34) hx hb d_mIsSyllable_1 (by decide) ?_
  refine lv_icmp_ne (tgt := 34) hx hb d_mIsSyllable_3 (by decide) (fun c_10 => ?_) (fun c_10 => ?_)
  · rw [if_neg c_10] at heq
    exact K34  H locs ls heq hW (lv_sub hl [0, 1] rfl)
  · rw [if_pos c_10] at heq
    refine lv_iload_n hx hb d_mIsSyllable_6 rfl (lv_at hl 1 rfl) ?_
    refine lv_bipush (v := 34) hx hb d_mIsSyllable_7 (by decide) ?_
    refine lv_icmp_eq (tgt := 30) hx hb d_mIsSyllable_9 (by decide) (fun c_11 => ?_) (fun c_11 => ?_)
    · rw [if_pos c_11] at heq
      exact K30  H locs ls heq hW (lv_sub hl [0, 1] rfl)
    · rw [if_neg c_11] at heq
      refine lv_iload_n hx hb d_mIsSyllable_12 rfl (lv_at hl 1 rfl) ?_
      refine lv_bipush (v := 35) hx hb d_mIsSyllable_13 (by decide) ?_
      refine lv_icmp_eq (tgt := 30) hx hb d_mIsSyllable_15 (by decide) (fun c_12 => ?_) (fun c_12 => ?_)
      · rw [if_pos c_12] at heq
        exact K30  H locs ls heq hW (lv_sub hl [0, 1] rfl)
      · rw [if_neg c_12] at heq
        refine lv_iload_n hx hb d_mIsSyllable_18 rfl (lv_at hl 1 rfl) ?_
        refine lv_bipush (v := 32) hx hb d_mIsSyllable_19 (by decide) ?_
        refine lv_icmp_eq (tgt := 30) hx hb d_mIsSyllable_21 (by decide) (fun c_13 => ?_) (fun c_13 => ?_)
        · rw [if_pos c_13] at heq
          exact K30  H locs ls heq hW (lv_sub hl [0, 1] rfl)
        · rw [if_neg c_13] at heq
          refine lv_iload_n hx hb d_mIsSyllable_24 rfl (lv_at hl 1 rfl) ?_
          refine lv_bipush (v := 33) hx hb d_mIsSyllable_25 (by decide) ?_
          refine lv_icmp_ne (tgt := 34) hx hb d_mIsSyllable_27 (by decide) (fun c_14 => ?_) (fun c_14 => ?_)
          · rw [if_neg c_14] at heq
            exact K34  H locs ls heq hW (lv_sub hl [0, 1] rfl)
          · rw [if_pos c_14] at heq
            exact K30  H locs ls heq hW (lv_sub hl [0, 1] rfl)
def mm_mThrown (fl : Int32) : Int32 := fl
def rm_mThrown : Room := { frames := 0, cells := 0, slots := 0, locals := 0 }
set_option maxHeartbeats 4000000 in
set_option maxRecDepth 100000 in
theorem c_mThrown (l : Launch) (D : va_G) (cI : ClassId) (cL cL : ClassId × ClassId) (g : Nat → Nat) (fl rn : Int32) (fs lt kk mk mf ml ma : Nat → Int32) (il sz : Int32) (tt fh : Nat → Int32) (hd : Int32) : gk_I l y_mThrown (.code y_mThrown b_mThrown 1 (some .int) :: wA) rm_mThrown D vwCl (gk_T cI cL) [.ref (g 0)] (wd_M cI cL g fl rn fs lt kk mk mf ml ma il sz tt fh hd) (fun (r : Int32) (_ : Unit) => r = mm_mThrown fl) (fun (_ : Unit) => (wd_M cI cL g fl rn fs lt kk mk mf ml ma il sz tt fh hd)) 0 0 := by
  refine gk_I.of (by decide) (Nat.le_of_ble_eq_true rfl) ?_
  intro p e s m below meth c A ls Q H locs hx hb hml hown hts hW hl X
  have hl : lv_has ls 1 [(0, .ref (g 0))] := hl
  obtain ⟨tgt, heq⟩ : ∃ t, mm_mThrown fl = t := ⟨_, rfl⟩
  rw [heq] at X
  rw [mm_mThrown] at heq
  refine lv_aload_n hx hb d_mThrown_0 rfl (lv_at hl 0 rfl) ?_
  refine va_get (D := D) (C := R_M) (T := F_M) (N := 14) hx hb hts i_M hown hW.1 hW.2.1 0 rfl rfl 0 (by decide) (hts _ w_109) (fun _ h9 => h9) rfl d_mThrown_1 ?_
  exact X _ () H locs 0 0 4 ls heq hW d_mThrown_4 rfl (Nat.le_of_ble_eq_true rfl) (Nat.le_of_ble_eq_true rfl)
def mm_mRefused (x1 fl : Int32) : Int32 × Int32 := if x1 ≤ 0 then (0, x1) else (1, x1)
def rm_mRefused : Room := { frames := 0, cells := 0, slots := 0, locals := 0 }
set_option maxHeartbeats 4000000 in
set_option maxRecDepth 100000 in
theorem c_mRefused (l : Launch) (D : va_G) (cI : ClassId) (cL cL : ClassId × ClassId) (g : Nat → Nat) (fl rn : Int32) (fs lt kk mk mf ml ma : Nat → Int32) (il sz : Int32) (tt fh : Nat → Int32) (hd x1 : Int32) : gk_I l y_mRefused (.code y_mRefused b_mRefused 2 (some .boolean) :: wA) rm_mRefused D vwCl (gk_T cI cL) [.ref (g 0), .int x1] (wd_M cI cL g fl rn fs lt kk mk mf ml ma il sz tt fh hd) (fun (r : Int32) (u : Int32) => (r, u) = mm_mRefused x1 fl) (fun u => (wd_M cI cL g u rn fs lt kk mk mf ml ma il sz tt fh hd)) 0 0 := by
  refine gk_I.of (by decide) (Nat.le_of_ble_eq_true rfl) ?_
  intro p e s m below meth c A ls Q H locs hx hb hml hown hts hW hl X
  have hl : lv_has ls 2 [(0, .ref (g 0)), (1, .int x1)] := hl
  obtain ⟨tgt, heq⟩ : ∃ t, mm_mRefused x1 fl = t := ⟨_, rfl⟩
  rw [heq] at X
  rw [mm_mRefused] at heq
  refine lv_aload_n hx hb d_mRefused_0 rfl (lv_at hl 0 rfl) ?_
  refine lv_iload_n hx hb d_mRefused_1 rfl (lv_at hl 1 rfl) ?_
  refine va_put (D := D) (ci := 3) (v := .int x1) (ty := .int) (C := R_M) (T := F_M) (N := 14) hx hb hts i_M t_M t_M_ok n_M hown hW.1 hW.2.1 hW.2.2.1 hW.2.2.2.1 0 rfl rfl 0 (by decide) (hts _ w_109) (fun _ h9 => h9) rfl (by decide +kernel) rfl rfl (Nat.le_of_ble_eq_true rfl) d_mRefused_2 (fun H locs hP hD hS => ?_)
  have hW : gk_W D vwCl (gk_T cI cL) s A H locs (wd_M cI cL g x1 rn fs lt kk mk mf ml ma il sz tt fh hd) := ⟨hW.1, hP, hD, hS, hW.2.2.2.2⟩
  refine lv_iload_n hx hb d_mRefused_5 rfl (lv_at hl 1 rfl) ?_
  refine lv_if_le (tgt := 13) hx hb d_mRefused_6 (by decide) (fun c_1 => ?_) (fun c_1 => ?_)
  · rw [if_pos c_1] at heq
    refine lv_iconst (v := 0) hx hb d_mRefused_13 (by decide) ?_
    exact X _ x1 H locs 0 0 14 ls heq hW d_mRefused_14 rfl (Nat.le_of_ble_eq_true rfl) (Nat.le_of_ble_eq_true rfl)
  · rw [if_neg c_1] at heq
    refine lv_iconst (v := 1) hx hb d_mRefused_9 (by decide) ?_
    refine lv_goto (tgt := 14) hx hb d_mRefused_10 (by decide) ?_
    exact X _ x1 H locs 0 0 14 ls heq hW d_mRefused_14 rfl (Nat.le_of_ble_eq_true rfl) (Nat.le_of_ble_eq_true rfl)
def mm_mTell (x1 x2 hd : Int32) : Int32 × Int32 := (x1, x2)
def rm_mTell : Room := { frames := 0, cells := 0, slots := 0, locals := 0 }
set_option maxHeartbeats 4000000 in
set_option maxRecDepth 100000 in
theorem c_mTell (l : Launch) (D : va_G) (cI : ClassId) (cL cL : ClassId × ClassId) (g : Nat → Nat) (fl rn : Int32) (fs lt kk mk mf ml ma : Nat → Int32) (il sz : Int32) (tt fh : Nat → Int32) (hd x1 x2 : Int32) : gk_I l y_mTell (.code y_mTell b_mTell 3 (some .int) :: wA) rm_mTell D vwCl (gk_T cI cL) [.ref (g 0), .int x1, .int x2] (wd_M cI cL g fl rn fs lt kk mk mf ml ma il sz tt fh hd) (fun (r : Int32) (u : Int32) => (r, u) = mm_mTell x1 x2 hd) (fun u => (wd_M cI cL g fl rn fs lt kk mk mf ml ma il sz tt fh u)) 0 0 := by
  refine gk_I.of (by decide) (Nat.le_of_ble_eq_true rfl) ?_
  intro p e s m below meth c A ls Q H locs hx hb hml hown hts hW hl X
  have hl : lv_has ls 3 [(0, .ref (g 0)), (1, .int x1), (2, .int x2)] := hl
  obtain ⟨tgt, heq⟩ : ∃ t, mm_mTell x1 x2 hd = t := ⟨_, rfl⟩
  rw [heq] at X
  rw [mm_mTell] at heq
  refine lv_aload_n hx hb d_mTell_0 rfl (lv_at hl 0 rfl) ?_
  refine lv_iload_n hx hb d_mTell_1 rfl (lv_at hl 2 rfl) ?_
  refine va_put (D := D) (ci := 3) (v := .int x2) (ty := .int) (C := R_M) (T := F_M) (N := 14) hx hb hts i_M t_M t_M_ok n_M hown hW.1 hW.2.1 hW.2.2.1 hW.2.2.2.1 0 rfl rfl 13 (by decide) (hts _ w_110) (fun _ h9 => h9) rfl (by decide +kernel) rfl rfl (Nat.le_of_ble_eq_true rfl) d_mTell_2 (fun H locs hP hD hS => ?_)
  have hW : gk_W D vwCl (gk_T cI cL) s A H locs (wd_M cI cL g fl rn fs lt kk mk mf ml ma il sz tt fh x2) := ⟨hW.1, hP, hD, hS, hW.2.2.2.2⟩
  refine lv_iload_n hx hb d_mTell_5 rfl (lv_at hl 1 rfl) ?_
  exact X _ x2 H locs 0 0 6 ls heq hW d_mTell_6 rfl (Nat.le_of_ble_eq_true rfl) (Nat.le_of_ble_eq_true rfl)
def mm_mClear (fl sz : Int32) : Int32 × Int32 × Int32 := (sz, 0, 0)
def rm_mClear : Room := { frames := 0, cells := 0, slots := 0, locals := 0 }
set_option maxHeartbeats 4000000 in
set_option maxRecDepth 100000 in
theorem c_mClear (l : Launch) (D : va_G) (cI : ClassId) (cL cL : ClassId × ClassId) (g : Nat → Nat) (fl rn : Int32) (fs lt kk mk mf ml ma : Nat → Int32) (il sz : Int32) (tt fh : Nat → Int32) (hd : Int32) : gk_I l y_mClear (.code y_mClear b_mClear 2 (some .int) :: wA) rm_mClear D vwCl (gk_T cI cL) [.ref (g 0)] (wd_M cI cL g fl rn fs lt kk mk mf ml ma il sz tt fh hd) (fun (r : Int32) (u : Int32 × Int32) => (r, u) = mm_mClear fl sz) (fun u => (wd_M cI cL g u.1 rn fs lt kk mk mf ml ma il u.2 tt fh hd)) 0 0 := by
  refine gk_I.of (by decide) (Nat.le_of_ble_eq_true rfl) ?_
  intro p e s m below meth c A ls Q H locs hx hb hml hown hts hW hl X
  have hl : lv_has ls 2 [(0, .ref (g 0))] := hl
  obtain ⟨tgt, heq⟩ : ∃ t, mm_mClear fl sz = t := ⟨_, rfl⟩
  rw [heq] at X
  rw [mm_mClear] at heq
  refine lv_aload_n hx hb d_mClear_0 rfl (lv_at hl 0 rfl) ?_
  refine lv_iconst (v := 0) hx hb d_mClear_1 (by decide) ?_
  refine va_put (D := D) (ci := 3) (v := .int 0) (ty := .int) (C := R_M) (T := F_M) (N := 14) hx hb hts i_M t_M t_M_ok n_M hown hW.1 hW.2.1 hW.2.2.1 hW.2.2.2.1 0 rfl rfl 0 (by decide) (hts _ w_109) (fun _ h9 => h9) rfl (by decide +kernel) rfl rfl (Nat.le_of_ble_eq_true rfl) d_mClear_2 (fun H locs hP hD hS => ?_)
  have hW : gk_W D vwCl (gk_T cI cL) s A H locs (wd_M cI cL g 0 rn fs lt kk mk mf ml ma il sz tt fh hd) := ⟨hW.1, hP, hD, hS, hW.2.2.2.2⟩
  refine lv_aload_n hx hb d_mClear_5 rfl (lv_at hl 0 rfl) ?_
  refine va_get (D := D) (C := R_M) (T := F_M) (N := 14) hx hb hts i_M hown hW.1 hW.2.1 0 rfl rfl 10 (by decide) (hts _ w_111) (fun _ h9 => h9) rfl d_mClear_6 ?_
  refine lv_istore_n (lv' := [(1, .int sz), (0, .ref (g 0))]) hx hb d_mClear_9 rfl hl (by decide) rfl (fun ls hl => ?_)
  refine lv_aload_n hx hb d_mClear_10 rfl (lv_at hl 1 rfl) ?_
  refine lv_iconst (v := 0) hx hb d_mClear_11 (by decide) ?_
  refine va_put (D := D) (ci := 3) (v := .int 0) (ty := .int) (C := R_M) (T := F_M) (N := 14) hx hb hts i_M t_M t_M_ok n_M hown hW.1 hW.2.1 hW.2.2.1 hW.2.2.2.1 0 rfl rfl 10 (by decide) (hts _ w_111) (fun _ h9 => h9) rfl (by decide +kernel) rfl rfl (Nat.le_of_ble_eq_true rfl) d_mClear_12 (fun H locs hP hD hS => ?_)
  have hW : gk_W D vwCl (gk_T cI cL) s A H locs (wd_M cI cL g 0 rn fs lt kk mk mf ml ma il 0 tt fh hd) := ⟨hW.1, hP, hD, hS, hW.2.2.2.2⟩
  refine lv_iload_n hx hb d_mClear_15 rfl (lv_at hl 0 rfl) ?_
  exact X _ (0, 0) H locs 0 0 16 ls heq hW d_mClear_16 rfl (Nat.le_of_ble_eq_true rfl) (Nat.le_of_ble_eq_true rfl)
def mm_mLoose (x1 fl il : Int32) : Int32 × Int32 × Int32 := (il, 0, x1)
def rm_mLoose : Room := { frames := 0, cells := 0, slots := 0, locals := 0 }
set_option maxHeartbeats 4000000 in
set_option maxRecDepth 100000 in
theorem c_mLoose (l : Launch) (D : va_G) (cI : ClassId) (cL cL : ClassId × ClassId) (g : Nat → Nat) (fl rn : Int32) (fs lt kk mk mf ml ma : Nat → Int32) (il sz : Int32) (tt fh : Nat → Int32) (hd x1 : Int32) (hlo : (x1 = 0 ∨ x1 = 1) ∧ (il = 0 ∨ il = 1)) : gk_I l y_mLoose (.code y_mLoose b_mLoose 3 (some .boolean) :: wA) rm_mLoose D vwCl (gk_T cI cL) [.ref (g 0), .int x1] (wd_M cI cL g fl rn fs lt kk mk mf ml ma il sz tt fh hd) (fun (r : Int32) (u : Int32 × Int32) => (r, u) = mm_mLoose x1 fl il) (fun u => (wd_M cI cL g u.1 rn fs lt kk mk mf ml ma u.2 sz tt fh hd)) 0 0 := by
  refine gk_I.of (by decide) (Nat.le_of_ble_eq_true rfl) ?_
  intro p e s m below meth c A ls Q H locs hx hb hml hown hts hW hl X
  have hl : lv_has ls 3 [(0, .ref (g 0)), (1, .int x1)] := hl
  obtain ⟨tgt, heq⟩ : ∃ t, mm_mLoose x1 fl il = t := ⟨_, rfl⟩
  rw [heq] at X
  rw [mm_mLoose] at heq
  obtain ⟨z_x1, v_x1⟩ := gk_vex x1
  obtain ⟨z_il, v_il⟩ := gk_vex il
  refine lv_aload_n hx hb d_mLoose_0 rfl (lv_at hl 0 rfl) ?_
  refine lv_iconst (v := 0) hx hb d_mLoose_1 (by decide) ?_
  refine va_put (D := D) (ci := 3) (v := .int 0) (ty := .int) (C := R_M) (T := F_M) (N := 14) hx hb hts i_M t_M t_M_ok n_M hown hW.1 hW.2.1 hW.2.2.1 hW.2.2.2.1 0 rfl rfl 0 (by decide) (hts _ w_109) (fun _ h9 => h9) rfl (by decide +kernel) rfl rfl (Nat.le_of_ble_eq_true rfl) d_mLoose_2 (fun H locs hP hD hS => ?_)
  have hW : gk_W D vwCl (gk_T cI cL) s A H locs (wd_M cI cL g 0 rn fs lt kk mk mf ml ma il sz tt fh hd) := ⟨hW.1, hP, hD, hS, hW.2.2.2.2⟩
  refine lv_aload_n hx hb d_mLoose_5 rfl (lv_at hl 0 rfl) ?_
  refine va_get (D := D) (C := R_M) (T := F_M) (N := 14) hx hb hts i_M hown hW.1 hW.2.1 0 rfl rfl 9 (by decide) (hts _ w_112) (fun _ h9 => h9) rfl d_mLoose_6 ?_
  refine lv_istore_n (lv' := [(2, .int il), (0, .ref (g 0)), (1, .int x1)]) hx hb d_mLoose_9 rfl hl (by decide) rfl (fun ls hl => ?_)
  refine lv_aload_n hx hb d_mLoose_10 rfl (lv_at hl 1 rfl) ?_
  refine lv_iload_n hx hb d_mLoose_11 rfl (lv_at hl 2 rfl) ?_
  refine va_put (D := D) (ci := 3) (v := .int x1) (ty := .boolean) (C := R_M) (T := F_M) (N := 14) hx hb hts i_M t_M t_M_ok n_M hown hW.1 hW.2.1 hW.2.2.1 hW.2.2.2.1 0 rfl rfl 9 (by decide) (hts _ w_112) (fun _ h9 => h9) rfl (by decide +kernel) (gz_n hlo.1) (gz_f hlo.1) (Nat.le_of_ble_eq_true rfl) d_mLoose_12 (fun H locs hP hD hS => ?_)
  have hW : gk_W D vwCl (gk_T cI cL) s A H locs (wd_M cI cL g 0 rn fs lt kk mk mf ml ma x1 sz tt fh hd) := ⟨hW.1, hP, hD, hS, hW.2.2.2.2⟩
  refine lv_iload_n hx hb d_mLoose_15 rfl (lv_at hl 0 rfl) ?_
  exact X _ (0, x1) H locs 0 0 16 ls heq hW d_mLoose_16 (gz_n hlo.2) (Nat.le_of_ble_eq_true rfl) (Nat.le_of_ble_eq_true rfl)
def mm_mKeep (x1 x2 x3 x4 x5 : Int32) (fh : Nat → Int32) : (Nat → Int32) := upd (upd (upd (upd (upd fh (0 : Int32).toNatClampNeg x1) (1 : Int32).toNatClampNeg x2) (2 : Int32).toNatClampNeg x3) (3 : Int32).toNatClampNeg x4) (4 : Int32).toNatClampNeg x5
def rm_mKeep : Room := { frames := 0, cells := 0, slots := 0, locals := 0 }
set_option maxHeartbeats 4000000 in
set_option maxRecDepth 100000 in
theorem c_mKeep (l : Launch) (D : va_G) (cI : ClassId) (cL cL : ClassId × ClassId) (g : Nat → Nat) (fl rn : Int32) (fs lt kk mk mf ml ma : Nat → Int32) (il sz : Int32) (tt fh : Nat → Int32) (hd x1 x2 x3 x4 x5 : Int32) : gk_V l y_mKeep (.code y_mKeep b_mKeep 6 none :: wA) rm_mKeep D vwCl (gk_T cI cL) [.ref (g 0), .int x1, .int x2, .int x3, .int x4, .int x5] (wd_M cI cL g fl rn fs lt kk mk mf ml ma il sz tt fh hd) (fun (u : (Nat → Int32)) => u = mm_mKeep x1 x2 x3 x4 x5 fh) (fun u => (wd_M cI cL g fl rn fs lt kk mk mf ml ma il sz tt u hd)) 0 0 := by
  refine gk_V.of (by decide) (Nat.le_of_ble_eq_true rfl) ?_
  intro p e s m below meth c A ls Q H locs hx hb hml hown hts hin hW hl X
  have hl : lv_has ls 6 [(0, .ref (g 0)), (1, .int x1), (2, .int x2), (3, .int x3), (4, .int x4), (5, .int x5)] := hl
  obtain ⟨tgt, heq⟩ : ∃ t, mm_mKeep x1 x2 x3 x4 x5 fh = t := ⟨_, rfl⟩
  rw [heq] at X
  rw [mm_mKeep] at heq
  obtain ⟨z_x1, v_x1⟩ := gk_vex x1
  obtain ⟨z_x2, v_x2⟩ := gk_vex x2
  obtain ⟨z_x3, v_x3⟩ := gk_vex x3
  obtain ⟨z_x4, v_x4⟩ := gk_vex x4
  obtain ⟨z_x5, v_x5⟩ := gk_vex x5
  refine lv_aload_n hx hb d_mKeep_0 rfl (lv_at hl 0 rfl) ?_
  refine va_get (D := D) (C := R_M) (T := F_M) (N := 14) hx hb hts i_M hown hW.1 hW.2.1 0 rfl rfl 12 (by decide) (hts _ w_113) (fun _ h9 => h9) rfl d_mKeep_1 ?_
  refine lv_iconst (v := 0) hx hb d_mKeep_4 (by decide) ?_
  refine lv_iload_n hx hb d_mKeep_5 rfl (lv_at hl 1 rfl) ?_
  refine va_iast hx hb hW.1 hW.2.1 hW.2.2.1 hW.2.2.2.1 9 0 rfl rfl (i := 0) (x := x1) (gk_in (show gk_v 0 0 from rfl) (by omega) (by omega)) d_mKeep_6 (fun H locs hP hD hS => ?_)
  have hW : gk_W D vwCl (gk_T cI cL) s A H locs (wd_M cI cL g fl rn fs lt kk mk mf ml ma il sz tt (upd fh (0 : Int32).toNatClampNeg x1) hd) := ⟨hW.1, hP, hD, hS, hW.2.2.2.2⟩
  refine lv_aload_n hx hb d_mKeep_7 rfl (lv_at hl 0 rfl) ?_
  refine va_get (D := D) (C := R_M) (T := F_M) (N := 14) hx hb hts i_M hown hW.1 hW.2.1 0 rfl rfl 12 (by decide) (hts _ w_113) (fun _ h9 => h9) rfl d_mKeep_8 ?_
  refine lv_iconst (v := 1) hx hb d_mKeep_11 (by decide) ?_
  refine lv_iload_n hx hb d_mKeep_12 rfl (lv_at hl 2 rfl) ?_
  refine va_iast hx hb hW.1 hW.2.1 hW.2.2.1 hW.2.2.2.1 9 0 rfl rfl (i := 1) (x := x2) (gk_in (show gk_v 1 1 from rfl) (by omega) (by omega)) d_mKeep_13 (fun H locs hP hD hS => ?_)
  have hW : gk_W D vwCl (gk_T cI cL) s A H locs (wd_M cI cL g fl rn fs lt kk mk mf ml ma il sz tt (upd (upd fh (0 : Int32).toNatClampNeg x1) (1 : Int32).toNatClampNeg x2) hd) := ⟨hW.1, hP, hD, hS, hW.2.2.2.2⟩
  refine lv_aload_n hx hb d_mKeep_14 rfl (lv_at hl 0 rfl) ?_
  refine va_get (D := D) (C := R_M) (T := F_M) (N := 14) hx hb hts i_M hown hW.1 hW.2.1 0 rfl rfl 12 (by decide) (hts _ w_113) (fun _ h9 => h9) rfl d_mKeep_15 ?_
  refine lv_iconst (v := 2) hx hb d_mKeep_18 (by decide) ?_
  refine lv_iload_n hx hb d_mKeep_19 rfl (lv_at hl 3 rfl) ?_
  refine va_iast hx hb hW.1 hW.2.1 hW.2.2.1 hW.2.2.2.1 9 0 rfl rfl (i := 2) (x := x3) (gk_in (show gk_v 2 2 from rfl) (by omega) (by omega)) d_mKeep_20 (fun H locs hP hD hS => ?_)
  have hW : gk_W D vwCl (gk_T cI cL) s A H locs (wd_M cI cL g fl rn fs lt kk mk mf ml ma il sz tt (upd (upd (upd fh (0 : Int32).toNatClampNeg x1) (1 : Int32).toNatClampNeg x2) (2 : Int32).toNatClampNeg x3) hd) := ⟨hW.1, hP, hD, hS, hW.2.2.2.2⟩
  refine lv_aload_n hx hb d_mKeep_21 rfl (lv_at hl 0 rfl) ?_
  refine va_get (D := D) (C := R_M) (T := F_M) (N := 14) hx hb hts i_M hown hW.1 hW.2.1 0 rfl rfl 12 (by decide) (hts _ w_113) (fun _ h9 => h9) rfl d_mKeep_22 ?_
  refine lv_iconst (v := 3) hx hb d_mKeep_25 (by decide) ?_
  refine lv_iload hx hb d_mKeep_26 (lv_at hl 4 rfl) ?_
  refine va_iast hx hb hW.1 hW.2.1 hW.2.2.1 hW.2.2.2.1 9 0 rfl rfl (i := 3) (x := x4) (gk_in (show gk_v 3 3 from rfl) (by omega) (by omega)) d_mKeep_28 (fun H locs hP hD hS => ?_)
  have hW : gk_W D vwCl (gk_T cI cL) s A H locs (wd_M cI cL g fl rn fs lt kk mk mf ml ma il sz tt (upd (upd (upd (upd fh (0 : Int32).toNatClampNeg x1) (1 : Int32).toNatClampNeg x2) (2 : Int32).toNatClampNeg x3) (3 : Int32).toNatClampNeg x4) hd) := ⟨hW.1, hP, hD, hS, hW.2.2.2.2⟩
  refine lv_aload_n hx hb d_mKeep_29 rfl (lv_at hl 0 rfl) ?_
  refine va_get (D := D) (C := R_M) (T := F_M) (N := 14) hx hb hts i_M hown hW.1 hW.2.1 0 rfl rfl 12 (by decide) (hts _ w_113) (fun _ h9 => h9) rfl d_mKeep_30 ?_
  refine lv_iconst (v := 4) hx hb d_mKeep_33 (by decide) ?_
  refine lv_iload hx hb d_mKeep_34 (lv_at hl 5 rfl) ?_
  refine va_iast hx hb hW.1 hW.2.1 hW.2.2.1 hW.2.2.2.1 9 0 rfl rfl (i := 4) (x := x5) (gk_in (show gk_v 4 4 from rfl) (by omega) (by omega)) d_mKeep_36 (fun H locs hP hD hS => ?_)
  have hW : gk_W D vwCl (gk_T cI cL) s A H locs (wd_M cI cL g fl rn fs lt kk mk mf ml ma il sz tt (upd (upd (upd (upd (upd fh (0 : Int32).toNatClampNeg x1) (1 : Int32).toNatClampNeg x2) (2 : Int32).toNatClampNeg x3) (3 : Int32).toNatClampNeg x4) (4 : Int32).toNatClampNeg x5) hd) := ⟨hW.1, hP, hD, hS, hW.2.2.2.2⟩
  exact X (upd (upd (upd (upd (upd fh (0 : Int32).toNatClampNeg x1) (1 : Int32).toNatClampNeg x2) (2 : Int32).toNatClampNeg x3) (3 : Int32).toNatClampNeg x4) (4 : Int32).toNatClampNeg x5) H locs 0 0 37 ls heq hW d_mKeep_37 (Nat.le_of_ble_eq_true rfl) (Nat.le_of_ble_eq_true rfl)
end
section
def mm_mProperty (x1 x2 x3 fl rn : Int32) (fs lt kk : Nat → Int32) : Int32 × Int32 × (Nat → Int32) × (Nat → Int32) × (Nat → Int32) := if (mm_mIsChar x1) = 0 then (1, rn, fs, lt, kk) else (if (mm_mIsChar x2) = 0 then (1, rn, fs, lt, kk) else (if x2 < x1 then (1, rn, fs, lt, kk) else (if x3 < 0 then (1, rn, fs, lt, kk) else (if 43 < x3 then (1, rn, fs, lt, kk) else (if rn = 100 then (2, rn, fs, lt, kk) else (0, rn + 1, upd fs rn.toNatClampNeg x1, upd lt rn.toNatClampNeg x2, upd kk rn.toNatClampNeg x3))))))
def rm_mProperty : Room := { frames := 1, cells := 0, slots := 0, locals := 21 }
set_option maxHeartbeats 4000000 in
set_option maxRecDepth 100000 in
theorem c_mProperty (l : Launch) (D : va_G) (cI : ClassId) (cL cL : ClassId × ClassId) (g : Nat → Nat) (fl rn : Int32) (fs lt kk mk mf ml ma : Nat → Int32) (il sz : Int32) (tt fh : Nat → Int32) (hd x1 x2 x3 : Int32) (z_rn : Int) (v_rn : gk_v rn z_rn) (hrn : 0 ≤ z_rn ∧ z_rn ≤ 100) : gk_V l y_mProperty (.code y_mProperty b_mProperty 5 none :: wA) rm_mProperty D vwCl (gk_T cI cL) [.ref (g 0), .int x1, .int x2, .int x3] (wd_M cI cL g fl rn fs lt kk mk mf ml ma il sz tt fh hd) (fun (u : Int32 × Int32 × (Nat → Int32) × (Nat → Int32) × (Nat → Int32)) => u = mm_mProperty x1 x2 x3 fl rn fs lt kk) (fun u => (wd_M cI cL g u.1 u.2.1 u.2.2.1 u.2.2.2.1 u.2.2.2.2 mk mf ml ma il sz tt fh hd)) 0 0 := by
  refine gk_V.of (by decide) (Nat.le_of_ble_eq_true rfl) ?_
  intro p e s m below meth c A ls Q H locs hx hb hml hown hts hin hW hl X
  have hl : lv_has ls 5 [(0, .ref (g 0)), (1, .int x1), (2, .int x2), (3, .int x3)] := hl
  obtain ⟨tgt, heq⟩ : ∃ t, mm_mProperty x1 x2 x3 fl rn fs lt kk = t := ⟨_, rfl⟩
  rw [heq] at X
  rw [mm_mProperty] at heq
  obtain ⟨z_x1, v_x1⟩ := gk_vex x1
  obtain ⟨z_x2, v_x2⟩ := gk_vex x2
  obtain ⟨z_x3, v_x3⟩ := gk_vex x3
  refine lv_iload_n hx hb d_mProperty_0 rfl (lv_at hl 1 rfl) ?_
  refine gk_goR hW [] rfl (va_runS (As := [.int x1]) (rest := []) ⟨hx, hb, hml, hown, hts⟩ (c_mIsChar l D cI cL x1 _) (gk_cwS hts w_114 w_115 w_116 k_mIsChar rfl e_mIsChar rfl rfl ⟨Nat.le_of_ble_eq_true rfl, Nat.le_of_ble_eq_true rfl⟩) (gk_pre hW [] rfl rfl) rfl rfl hl.1 rfl (lv_room (Nat.le_of_ble_eq_true rfl)) d_mProperty_1 ⟨Nat.le_of_ble_eq_true rfl, Nat.le_of_ble_eq_true rfl⟩) (fun H locs hW => ?_)
  refine lv_if_eq (tgt := 33) hx hb d_mProperty_4 (by decide) (fun c_1 => ?_) (fun c_1 => ?_)
  · rw [if_pos c_1] at heq
    refine lv_iconst (v := 0) hx hb d_mProperty_33 (by decide) ?_
    refine lv_istore (lv' := [(4, .int 0), (0, .ref (g 0)), (1, .int x1), (2, .int x2), (3, .int x3)]) hx hb d_mProperty_34 hl (by decide) rfl (fun ls hl => ?_)
    refine lv_aload_n hx hb d_mProperty_36 rfl (lv_at hl 1 rfl) ?_
    refine lv_iload hx hb d_mProperty_37 (lv_at hl 0 rfl) ?_
    refine lv_if_ne (tgt := 46) hx hb d_mProperty_39 (by decide) (fun c_2 => absurd c_2 (by decide)) (fun _ => ?_)
    refine lv_iconst (v := 1) hx hb d_mProperty_42 (by decide) ?_
    refine lv_goto (tgt := 60) hx hb d_mProperty_43 (by decide) ?_
    refine gk_goI (wr := []) hW [0, 1, 2, 3, 4, 5, 6, 7, 8, 9] [] rfl rfl (by decide) (by decide) (va_runV (As := [.int 1]) (rest := []) ⟨hx, hb, hml, hown, hts⟩ (c_mRefused l D cI cL cL g fl rn fs lt kk mk mf ml ma il sz tt fh hd 1 _) (gk_cwV hts w_117 w_118 w_119 w_116 k_mRefused rfl e_mRefused rfl rfl ⟨Nat.le_of_ble_eq_true rfl, Nat.le_of_ble_eq_true rfl⟩) (gk_preV hW [0, 1, 2, 3, 4, 5, 6, 7, 8, 9] rfl rfl rfl rfl) rfl rfl hl.1 rfl (lv_room (Nat.le_of_ble_eq_true rfl)) d_mProperty_60 ⟨Nat.le_of_ble_eq_true rfl, Nat.le_of_ble_eq_true rfl⟩) (fun r_3 u H locs p_5 hW => ?_)
    obtain ⟨rfl, rfl⟩ : r_3 = 1 ∧ u = 1 := Prod.mk.inj (p_5.trans (show (mm_mRefused 1 fl) = (1, 1) from rfl))
    have hW : gk_W D vwCl (gk_T cI cL) s A H locs (wd_M cI cL g 1 rn fs lt kk mk mf ml ma il sz tt fh hd) := hW.re [0, 1, 2, 3, 4, 5, 6, 7, 8, 9] (by decide) rfl
    refine lv_if_ne (tgt := 106) hx hb d_mProperty_63 (by decide) (fun _ => ?_) (fun c_6 => absurd c_6 (by decide))
    exact X (1, rn, fs, lt, kk) H locs 0 0 106 ls heq hW d_mProperty_106 (Nat.le_of_ble_eq_true rfl) (Nat.le_of_ble_eq_true rfl)
  · rw [if_neg c_1] at heq
    refine lv_iload_n hx hb d_mProperty_7 rfl (lv_at hl 2 rfl) ?_
    refine gk_goR hW [] rfl (va_runS (As := [.int x2]) (rest := []) ⟨hx, hb, hml, hown, hts⟩ (c_mIsChar l D cI cL x2 _) (gk_cwS hts w_114 w_115 w_116 k_mIsChar rfl e_mIsChar rfl rfl ⟨Nat.le_of_ble_eq_true rfl, Nat.le_of_ble_eq_true rfl⟩) (gk_pre hW [] rfl rfl) rfl rfl hl.1 rfl (lv_room (Nat.le_of_ble_eq_true rfl)) d_mProperty_8 ⟨Nat.le_of_ble_eq_true rfl, Nat.le_of_ble_eq_true rfl⟩) (fun H locs hW => ?_)
    refine lv_if_eq (tgt := 33) hx hb d_mProperty_11 (by decide) (fun c_7 => ?_) (fun c_7 => ?_)
    · rw [if_pos c_7] at heq
      refine lv_iconst (v := 0) hx hb d_mProperty_33 (by decide) ?_
      refine lv_istore (lv' := [(4, .int 0), (0, .ref (g 0)), (1, .int x1), (2, .int x2), (3, .int x3)]) hx hb d_mProperty_34 hl (by decide) rfl (fun ls hl => ?_)
      refine lv_aload_n hx hb d_mProperty_36 rfl (lv_at hl 1 rfl) ?_
      refine lv_iload hx hb d_mProperty_37 (lv_at hl 0 rfl) ?_
      refine lv_if_ne (tgt := 46) hx hb d_mProperty_39 (by decide) (fun c_8 => absurd c_8 (by decide)) (fun _ => ?_)
      refine lv_iconst (v := 1) hx hb d_mProperty_42 (by decide) ?_
      refine lv_goto (tgt := 60) hx hb d_mProperty_43 (by decide) ?_
      refine gk_goI (wr := []) hW [0, 1, 2, 3, 4, 5, 6, 7, 8, 9] [] rfl rfl (by decide) (by decide) (va_runV (As := [.int 1]) (rest := []) ⟨hx, hb, hml, hown, hts⟩ (c_mRefused l D cI cL cL g fl rn fs lt kk mk mf ml ma il sz tt fh hd 1 _) (gk_cwV hts w_117 w_118 w_119 w_116 k_mRefused rfl e_mRefused rfl rfl ⟨Nat.le_of_ble_eq_true rfl, Nat.le_of_ble_eq_true rfl⟩) (gk_preV hW [0, 1, 2, 3, 4, 5, 6, 7, 8, 9] rfl rfl rfl rfl) rfl rfl hl.1 rfl (lv_room (Nat.le_of_ble_eq_true rfl)) d_mProperty_60 ⟨Nat.le_of_ble_eq_true rfl, Nat.le_of_ble_eq_true rfl⟩) (fun r_9 u H locs p_11 hW => ?_)
      obtain ⟨rfl, rfl⟩ : r_9 = 1 ∧ u = 1 := Prod.mk.inj (p_11.trans (show (mm_mRefused 1 fl) = (1, 1) from rfl))
      have hW : gk_W D vwCl (gk_T cI cL) s A H locs (wd_M cI cL g 1 rn fs lt kk mk mf ml ma il sz tt fh hd) := hW.re [0, 1, 2, 3, 4, 5, 6, 7, 8, 9] (by decide) rfl
      refine lv_if_ne (tgt := 106) hx hb d_mProperty_63 (by decide) (fun _ => ?_) (fun c_12 => absurd c_12 (by decide))
      exact X (1, rn, fs, lt, kk) H locs 0 0 106 ls heq hW d_mProperty_106 (Nat.le_of_ble_eq_true rfl) (Nat.le_of_ble_eq_true rfl)
    · rw [if_neg c_7] at heq
      refine lv_iload_n hx hb d_mProperty_14 rfl (lv_at hl 1 rfl) ?_
      refine lv_iload_n hx hb d_mProperty_15 rfl (lv_at hl 2 rfl) ?_
      refine lv_icmp_gt (tgt := 33) hx hb d_mProperty_16 (by decide) (fun c_13 => ?_) (fun c_13 => ?_)
      · rw [if_pos c_13] at heq
        have ic_13 := gk_lt v_x2 v_x1 c_13
        refine lv_iconst (v := 0) hx hb d_mProperty_33 (by decide) ?_
        refine lv_istore (lv' := [(4, .int 0), (0, .ref (g 0)), (1, .int x1), (2, .int x2), (3, .int x3)]) hx hb d_mProperty_34 hl (by decide) rfl (fun ls hl => ?_)
        refine lv_aload_n hx hb d_mProperty_36 rfl (lv_at hl 1 rfl) ?_
        refine lv_iload hx hb d_mProperty_37 (lv_at hl 0 rfl) ?_
        refine lv_if_ne (tgt := 46) hx hb d_mProperty_39 (by decide) (fun c_14 => absurd c_14 (by decide)) (fun _ => ?_)
        refine lv_iconst (v := 1) hx hb d_mProperty_42 (by decide) ?_
        refine lv_goto (tgt := 60) hx hb d_mProperty_43 (by decide) ?_
        refine gk_goI (wr := []) hW [0, 1, 2, 3, 4, 5, 6, 7, 8, 9] [] rfl rfl (by decide) (by decide) (va_runV (As := [.int 1]) (rest := []) ⟨hx, hb, hml, hown, hts⟩ (c_mRefused l D cI cL cL g fl rn fs lt kk mk mf ml ma il sz tt fh hd 1 _) (gk_cwV hts w_117 w_118 w_119 w_116 k_mRefused rfl e_mRefused rfl rfl ⟨Nat.le_of_ble_eq_true rfl, Nat.le_of_ble_eq_true rfl⟩) (gk_preV hW [0, 1, 2, 3, 4, 5, 6, 7, 8, 9] rfl rfl rfl rfl) rfl rfl hl.1 rfl (lv_room (Nat.le_of_ble_eq_true rfl)) d_mProperty_60 ⟨Nat.le_of_ble_eq_true rfl, Nat.le_of_ble_eq_true rfl⟩) (fun r_15 u H locs p_17 hW => ?_)
        obtain ⟨rfl, rfl⟩ : r_15 = 1 ∧ u = 1 := Prod.mk.inj (p_17.trans (show (mm_mRefused 1 fl) = (1, 1) from rfl))
        have hW : gk_W D vwCl (gk_T cI cL) s A H locs (wd_M cI cL g 1 rn fs lt kk mk mf ml ma il sz tt fh hd) := hW.re [0, 1, 2, 3, 4, 5, 6, 7, 8, 9] (by decide) rfl
        refine lv_if_ne (tgt := 106) hx hb d_mProperty_63 (by decide) (fun _ => ?_) (fun c_18 => absurd c_18 (by decide))
        exact X (1, rn, fs, lt, kk) H locs 0 0 106 ls heq hW d_mProperty_106 (Nat.le_of_ble_eq_true rfl) (Nat.le_of_ble_eq_true rfl)
      · rw [if_neg c_13] at heq
        have ic_13 := gk_nlt v_x2 v_x1 c_13
        refine lv_iload_n hx hb d_mProperty_19 rfl (lv_at hl 3 rfl) ?_
        refine lv_if_lt (tgt := 33) hx hb d_mProperty_20 (by decide) (fun c_19 => ?_) (fun c_19 => ?_)
        · rw [if_pos c_19] at heq
          have ic_19 := gk_lt v_x3 (show gk_v 0 0 from rfl) c_19
          refine lv_iconst (v := 0) hx hb d_mProperty_33 (by decide) ?_
          refine lv_istore (lv' := [(4, .int 0), (0, .ref (g 0)), (1, .int x1), (2, .int x2), (3, .int x3)]) hx hb d_mProperty_34 hl (by decide) rfl (fun ls hl => ?_)
          refine lv_aload_n hx hb d_mProperty_36 rfl (lv_at hl 1 rfl) ?_
          refine lv_iload hx hb d_mProperty_37 (lv_at hl 0 rfl) ?_
          refine lv_if_ne (tgt := 46) hx hb d_mProperty_39 (by decide) (fun c_20 => absurd c_20 (by decide)) (fun _ => ?_)
          refine lv_iconst (v := 1) hx hb d_mProperty_42 (by decide) ?_
          refine lv_goto (tgt := 60) hx hb d_mProperty_43 (by decide) ?_
          refine gk_goI (wr := []) hW [0, 1, 2, 3, 4, 5, 6, 7, 8, 9] [] rfl rfl (by decide) (by decide) (va_runV (As := [.int 1]) (rest := []) ⟨hx, hb, hml, hown, hts⟩ (c_mRefused l D cI cL cL g fl rn fs lt kk mk mf ml ma il sz tt fh hd 1 _) (gk_cwV hts w_117 w_118 w_119 w_116 k_mRefused rfl e_mRefused rfl rfl ⟨Nat.le_of_ble_eq_true rfl, Nat.le_of_ble_eq_true rfl⟩) (gk_preV hW [0, 1, 2, 3, 4, 5, 6, 7, 8, 9] rfl rfl rfl rfl) rfl rfl hl.1 rfl (lv_room (Nat.le_of_ble_eq_true rfl)) d_mProperty_60 ⟨Nat.le_of_ble_eq_true rfl, Nat.le_of_ble_eq_true rfl⟩) (fun r_21 u H locs p_23 hW => ?_)
          obtain ⟨rfl, rfl⟩ : r_21 = 1 ∧ u = 1 := Prod.mk.inj (p_23.trans (show (mm_mRefused 1 fl) = (1, 1) from rfl))
          have hW : gk_W D vwCl (gk_T cI cL) s A H locs (wd_M cI cL g 1 rn fs lt kk mk mf ml ma il sz tt fh hd) := hW.re [0, 1, 2, 3, 4, 5, 6, 7, 8, 9] (by decide) rfl
          refine lv_if_ne (tgt := 106) hx hb d_mProperty_63 (by decide) (fun _ => ?_) (fun c_24 => absurd c_24 (by decide))
          exact X (1, rn, fs, lt, kk) H locs 0 0 106 ls heq hW d_mProperty_106 (Nat.le_of_ble_eq_true rfl) (Nat.le_of_ble_eq_true rfl)
        · rw [if_neg c_19] at heq
          have ic_19 := gk_nlt v_x3 (show gk_v 0 0 from rfl) c_19
          refine lv_iload_n hx hb d_mProperty_23 rfl (lv_at hl 3 rfl) ?_
          refine lv_bipush (v := 43) hx hb d_mProperty_24 (by decide) ?_
          refine lv_icmp_gt (tgt := 33) hx hb d_mProperty_26 (by decide) (fun c_25 => ?_) (fun c_25 => ?_)
          · rw [if_pos c_25] at heq
            have ic_25 := gk_lt (show gk_v 43 43 from rfl) v_x3 c_25
            refine lv_iconst (v := 0) hx hb d_mProperty_33 (by decide) ?_
            refine lv_istore (lv' := [(4, .int 0), (0, .ref (g 0)), (1, .int x1), (2, .int x2), (3, .int x3)]) hx hb d_mProperty_34 hl (by decide) rfl (fun ls hl => ?_)
            refine lv_aload_n hx hb d_mProperty_36 rfl (lv_at hl 1 rfl) ?_
            refine lv_iload hx hb d_mProperty_37 (lv_at hl 0 rfl) ?_
            refine lv_if_ne (tgt := 46) hx hb d_mProperty_39 (by decide) (fun c_26 => absurd c_26 (by decide)) (fun _ => ?_)
            refine lv_iconst (v := 1) hx hb d_mProperty_42 (by decide) ?_
            refine lv_goto (tgt := 60) hx hb d_mProperty_43 (by decide) ?_
            refine gk_goI (wr := []) hW [0, 1, 2, 3, 4, 5, 6, 7, 8, 9] [] rfl rfl (by decide) (by decide) (va_runV (As := [.int 1]) (rest := []) ⟨hx, hb, hml, hown, hts⟩ (c_mRefused l D cI cL cL g fl rn fs lt kk mk mf ml ma il sz tt fh hd 1 _) (gk_cwV hts w_117 w_118 w_119 w_116 k_mRefused rfl e_mRefused rfl rfl ⟨Nat.le_of_ble_eq_true rfl, Nat.le_of_ble_eq_true rfl⟩) (gk_preV hW [0, 1, 2, 3, 4, 5, 6, 7, 8, 9] rfl rfl rfl rfl) rfl rfl hl.1 rfl (lv_room (Nat.le_of_ble_eq_true rfl)) d_mProperty_60 ⟨Nat.le_of_ble_eq_true rfl, Nat.le_of_ble_eq_true rfl⟩) (fun r_27 u H locs p_29 hW => ?_)
            obtain ⟨rfl, rfl⟩ : r_27 = 1 ∧ u = 1 := Prod.mk.inj (p_29.trans (show (mm_mRefused 1 fl) = (1, 1) from rfl))
            have hW : gk_W D vwCl (gk_T cI cL) s A H locs (wd_M cI cL g 1 rn fs lt kk mk mf ml ma il sz tt fh hd) := hW.re [0, 1, 2, 3, 4, 5, 6, 7, 8, 9] (by decide) rfl
            refine lv_if_ne (tgt := 106) hx hb d_mProperty_63 (by decide) (fun _ => ?_) (fun c_30 => absurd c_30 (by decide))
            exact X (1, rn, fs, lt, kk) H locs 0 0 106 ls heq hW d_mProperty_106 (Nat.le_of_ble_eq_true rfl) (Nat.le_of_ble_eq_true rfl)
          · rw [if_neg c_25] at heq
            have ic_25 := gk_nlt (show gk_v 43 43 from rfl) v_x3 c_25
            refine lv_iconst (v := 1) hx hb d_mProperty_29 (by decide) ?_
            refine lv_goto (tgt := 34) hx hb d_mProperty_30 (by decide) ?_
            refine lv_istore (lv' := [(4, .int 1), (0, .ref (g 0)), (1, .int x1), (2, .int x2), (3, .int x3)]) hx hb d_mProperty_34 hl (by decide) rfl (fun ls hl => ?_)
            refine lv_aload_n hx hb d_mProperty_36 rfl (lv_at hl 1 rfl) ?_
            refine lv_iload hx hb d_mProperty_37 (lv_at hl 0 rfl) ?_
            refine lv_if_ne (tgt := 46) hx hb d_mProperty_39 (by decide) (fun _ => ?_) (fun c_31 => absurd c_31 (by decide))
            refine lv_aload_n hx hb d_mProperty_46 rfl (lv_at hl 1 rfl) ?_
            refine va_get (D := D) (C := R_M) (T := F_M) (N := 14) hx hb hts i_M hown hW.1 hW.2.1 0 rfl rfl 1 (by decide) (hts _ w_120) (fun _ h9 => h9) rfl d_mProperty_47 ?_
            refine lv_bipush (v := 100) hx hb d_mProperty_50 (by decide) ?_
            refine lv_icmp_ne (tgt := 59) hx hb d_mProperty_52 (by decide) (fun c_32 => ?_) (fun c_32 => ?_)
            · rw [if_neg c_32] at heq
              have ic_32 := gk_ne v_rn (show gk_v 100 100 from rfl) c_32
              refine lv_iconst (v := 0) hx hb d_mProperty_59 (by decide) ?_
              refine gk_goI (wr := []) hW [0, 1, 2, 3, 4, 5, 6, 7, 8, 9] [] rfl rfl (by decide) (by decide) (va_runV (As := [.int 0]) (rest := []) ⟨hx, hb, hml, hown, hts⟩ (c_mRefused l D cI cL cL g fl rn fs lt kk mk mf ml ma il sz tt fh hd 0 _) (gk_cwV hts w_117 w_118 w_119 w_116 k_mRefused rfl e_mRefused rfl rfl ⟨Nat.le_of_ble_eq_true rfl, Nat.le_of_ble_eq_true rfl⟩) (gk_preV hW [0, 1, 2, 3, 4, 5, 6, 7, 8, 9] rfl rfl rfl rfl) rfl rfl hl.1 rfl (lv_room (Nat.le_of_ble_eq_true rfl)) d_mProperty_60 ⟨Nat.le_of_ble_eq_true rfl, Nat.le_of_ble_eq_true rfl⟩) (fun r_33 u H locs p_35 hW => ?_)
              obtain ⟨rfl, rfl⟩ : r_33 = 0 ∧ u = 0 := Prod.mk.inj (p_35.trans (show (mm_mRefused 0 fl) = (0, 0) from rfl))
              have hW : gk_W D vwCl (gk_T cI cL) s A H locs (wd_M cI cL g 0 rn fs lt kk mk mf ml ma il sz tt fh hd) := hW.re [0, 1, 2, 3, 4, 5, 6, 7, 8, 9] (by decide) rfl
              refine lv_if_ne (tgt := 106) hx hb d_mProperty_63 (by decide) (fun c_36 => absurd c_36 (by decide)) (fun _ => ?_)
              refine lv_aload_n hx hb d_mProperty_66 rfl (lv_at hl 1 rfl) ?_
              refine va_get (D := D) (C := R_M) (T := F_M) (N := 14) hx hb hts i_M hown hW.1 hW.2.1 0 rfl rfl 2 (by decide) (hts _ w_121) (fun _ h9 => h9) rfl d_mProperty_67 ?_
              refine lv_aload_n hx hb d_mProperty_70 rfl (lv_at hl 1 rfl) ?_
              refine va_get (D := D) (C := R_M) (T := F_M) (N := 14) hx hb hts i_M hown hW.1 hW.2.1 0 rfl rfl 1 (by decide) (hts _ w_120) (fun _ h9 => h9) rfl d_mProperty_71 ?_
              refine lv_iload_n hx hb d_mProperty_74 rfl (lv_at hl 2 rfl) ?_
              refine va_iast hx hb hW.1 hW.2.1 hW.2.2.1 hW.2.2.2.1 1 0 rfl rfl (i := rn) (x := x1) (gk_in v_rn (by omega) (by omega)) d_mProperty_75 (fun H locs hP hD hS => ?_)
              have hW : gk_W D vwCl (gk_T cI cL) s A H locs (wd_M cI cL g 0 rn (upd fs rn.toNatClampNeg x1) lt kk mk mf ml ma il sz tt fh hd) := ⟨hW.1, hP, hD, hS, hW.2.2.2.2⟩
              refine lv_aload_n hx hb d_mProperty_76 rfl (lv_at hl 1 rfl) ?_
              refine va_get (D := D) (C := R_M) (T := F_M) (N := 14) hx hb hts i_M hown hW.1 hW.2.1 0 rfl rfl 3 (by decide) (hts _ w_122) (fun _ h9 => h9) rfl d_mProperty_77 ?_
              refine lv_aload_n hx hb d_mProperty_80 rfl (lv_at hl 1 rfl) ?_
              refine va_get (D := D) (C := R_M) (T := F_M) (N := 14) hx hb hts i_M hown hW.1 hW.2.1 0 rfl rfl 1 (by decide) (hts _ w_120) (fun _ h9 => h9) rfl d_mProperty_81 ?_
              refine lv_iload_n hx hb d_mProperty_84 rfl (lv_at hl 3 rfl) ?_
              refine va_iast hx hb hW.1 hW.2.1 hW.2.2.1 hW.2.2.2.1 2 0 rfl rfl (i := rn) (x := x2) (gk_in v_rn (by omega) (by omega)) d_mProperty_85 (fun H locs hP hD hS => ?_)
              have hW : gk_W D vwCl (gk_T cI cL) s A H locs (wd_M cI cL g 0 rn (upd fs rn.toNatClampNeg x1) (upd lt rn.toNatClampNeg x2) kk mk mf ml ma il sz tt fh hd) := ⟨hW.1, hP, hD, hS, hW.2.2.2.2⟩
              refine lv_aload_n hx hb d_mProperty_86 rfl (lv_at hl 1 rfl) ?_
              refine va_get (D := D) (C := R_M) (T := F_M) (N := 14) hx hb hts i_M hown hW.1 hW.2.1 0 rfl rfl 4 (by decide) (hts _ w_123) (fun _ h9 => h9) rfl d_mProperty_87 ?_
              refine lv_aload_n hx hb d_mProperty_90 rfl (lv_at hl 1 rfl) ?_
              refine va_get (D := D) (C := R_M) (T := F_M) (N := 14) hx hb hts i_M hown hW.1 hW.2.1 0 rfl rfl 1 (by decide) (hts _ w_120) (fun _ h9 => h9) rfl d_mProperty_91 ?_
              refine lv_iload_n hx hb d_mProperty_94 rfl (lv_at hl 4 rfl) ?_
              refine va_iast hx hb hW.1 hW.2.1 hW.2.2.1 hW.2.2.2.1 3 0 rfl rfl (i := rn) (x := x3) (gk_in v_rn (by omega) (by omega)) d_mProperty_95 (fun H locs hP hD hS => ?_)
              have hW : gk_W D vwCl (gk_T cI cL) s A H locs (wd_M cI cL g 0 rn (upd fs rn.toNatClampNeg x1) (upd lt rn.toNatClampNeg x2) (upd kk rn.toNatClampNeg x3) mk mf ml ma il sz tt fh hd) := ⟨hW.1, hP, hD, hS, hW.2.2.2.2⟩
              refine lv_aload_n hx hb d_mProperty_96 rfl (lv_at hl 1 rfl) ?_
              refine lv_dup hx hb d_mProperty_97 rfl ?_
              refine va_get (D := D) (C := R_M) (T := F_M) (N := 14) hx hb hts i_M hown hW.1 hW.2.1 0 rfl rfl 1 (by decide) (hts _ w_120) (fun _ h9 => h9) rfl d_mProperty_98 ?_
              refine lv_iconst (v := 1) hx hb d_mProperty_101 (by decide) ?_
              refine lv_iadd hx hb d_mProperty_102 ?_
              obtain ⟨zt_37, vt_37, et_37⟩ := gk_add v_rn (show gk_v 1 1 from rfl) (by omega) (by omega)
              refine va_put (D := D) (ci := 3) (v := .int (rn + 1)) (ty := .int) (C := R_M) (T := F_M) (N := 14) hx hb hts i_M t_M t_M_ok n_M hown hW.1 hW.2.1 hW.2.2.1 hW.2.2.2.1 0 rfl rfl 1 (by decide) (hts _ w_120) (fun _ h9 => h9) rfl (by decide +kernel) rfl rfl (Nat.le_of_ble_eq_true rfl) d_mProperty_103 (fun H locs hP hD hS => ?_)
              have hW : gk_W D vwCl (gk_T cI cL) s A H locs (wd_M cI cL g 0 (rn + 1) (upd fs rn.toNatClampNeg x1) (upd lt rn.toNatClampNeg x2) (upd kk rn.toNatClampNeg x3) mk mf ml ma il sz tt fh hd) := ⟨hW.1, hP, hD, hS, hW.2.2.2.2⟩
              exact X (0, rn + 1, upd fs rn.toNatClampNeg x1, upd lt rn.toNatClampNeg x2, upd kk rn.toNatClampNeg x3) H locs 0 0 106 ls heq hW d_mProperty_106 (Nat.le_of_ble_eq_true rfl) (Nat.le_of_ble_eq_true rfl)
            · rw [if_pos c_32] at heq
              have ic_32 := gk_eq v_rn (show gk_v 100 100 from rfl) c_32
              refine lv_iconst (v := 2) hx hb d_mProperty_55 (by decide) ?_
              refine lv_goto (tgt := 60) hx hb d_mProperty_56 (by decide) ?_
              refine gk_goI (wr := []) hW [0, 1, 2, 3, 4, 5, 6, 7, 8, 9] [] rfl rfl (by decide) (by decide) (va_runV (As := [.int 2]) (rest := []) ⟨hx, hb, hml, hown, hts⟩ (c_mRefused l D cI cL cL g fl rn fs lt kk mk mf ml ma il sz tt fh hd 2 _) (gk_cwV hts w_117 w_118 w_119 w_116 k_mRefused rfl e_mRefused rfl rfl ⟨Nat.le_of_ble_eq_true rfl, Nat.le_of_ble_eq_true rfl⟩) (gk_preV hW [0, 1, 2, 3, 4, 5, 6, 7, 8, 9] rfl rfl rfl rfl) rfl rfl hl.1 rfl (lv_room (Nat.le_of_ble_eq_true rfl)) d_mProperty_60 ⟨Nat.le_of_ble_eq_true rfl, Nat.le_of_ble_eq_true rfl⟩) (fun r_38 u H locs p_40 hW => ?_)
              obtain ⟨rfl, rfl⟩ : r_38 = 1 ∧ u = 2 := Prod.mk.inj (p_40.trans (show (mm_mRefused 2 fl) = (1, 2) from rfl))
              have hW : gk_W D vwCl (gk_T cI cL) s A H locs (wd_M cI cL g 2 rn fs lt kk mk mf ml ma il sz tt fh hd) := hW.re [0, 1, 2, 3, 4, 5, 6, 7, 8, 9] (by decide) rfl
              refine lv_if_ne (tgt := 106) hx hb d_mProperty_63 (by decide) (fun _ => ?_) (fun c_41 => absurd c_41 (by decide))
              exact X (2, rn, fs, lt, kk) H locs 0 0 106 ls heq hW d_mProperty_106 (Nat.le_of_ble_eq_true rfl) (Nat.le_of_ble_eq_true rfl)
def mm_mGiven_2 (x1 : Int32) (fh : Nat → Int32) : Nat → Int32 → Int32
  | 0, x2 => 0
  | n + 1, x2 => if x1 ≤ x2 then x2 else (if (fh x2.toNatClampNeg) = (-1) then x2 else (mm_mGiven_2 x1 fh n (x2 + 1)))
def mm_mGiven (x1 : Int32) (fh : Nat → Int32) : Int32 := mm_mGiven_2 x1 fh 6 0
theorem mm_mGiven_bd2 (x1 : Int32) (fh : Nat → Int32) (z1 : Int) (v1 : gk_v x1 z1) (h1 : 0 ≤ z1 ∧ z1 ≤ 5) : ∀ (n : Nat) (x2 : Int32) (z2 : Int), gk_v x2 z2 → 0 ≤ z2 → z2 ≤ z1 → ∃ z : Int, gk_v (mm_mGiven_2 x1 fh n x2) z ∧ 0 ≤ z ∧ z ≤ z1 := by
  intro n
  induction n with
  | zero => intro x2 z2 v2 a b; exact ⟨0, rfl, by omega, by omega⟩
  | succ n ih =>
    intro x2 z2 v2 a b
    rw [mm_mGiven_2]
    by_cases c : x1 ≤ x2
    · rw [if_pos c]; exact ⟨z2, v2, a, b⟩
    · rw [if_neg c]
      have hc := gk_nle v1 v2 c
      by_cases d : fh x2.toNatClampNeg = (-1)
      · rw [if_pos d]; exact ⟨z2, v2, a, b⟩
      · rw [if_neg d]
        obtain ⟨z3, v3, e3⟩ := gk_add v2 (show gk_v 1 1 from rfl) (by omega) (by omega)
        exact ih (x2 + 1) z3 v3 (by omega) (by omega)
theorem mm_mGiven_bd (x1 : Int32) (fh : Nat → Int32) (z1 : Int) (v1 : gk_v x1 z1) (h1 : 0 ≤ z1 ∧ z1 ≤ 5) : ∃ z : Int, gk_v (mm_mGiven x1 fh) z ∧ 0 ≤ z ∧ z ≤ z1 := mm_mGiven_bd2 x1 fh z1 v1 h1 6 0 0 rfl (by omega) (by omega)
def rm_mGiven : Room := { frames := 0, cells := 0, slots := 0, locals := 0 }
set_option maxHeartbeats 4000000 in
set_option maxRecDepth 100000 in
theorem c_mGiven (l : Launch) (D : va_G) (cI : ClassId) (cL cL : ClassId × ClassId) (g : Nat → Nat) (fl rn : Int32) (fs lt kk mk mf ml ma : Nat → Int32) (il sz : Int32) (tt fh : Nat → Int32) (hd x1 : Int32) (z_x1 : Int) (v_x1 : gk_v x1 z_x1) (hx1 : 0 ≤ z_x1 ∧ z_x1 ≤ 5) : gk_I l y_mGiven (.code y_mGiven b_mGiven 3 (some .int) :: wA) rm_mGiven D vwCl (gk_T cI cL) [.ref (g 0), .int x1] (wd_M cI cL g fl rn fs lt kk mk mf ml ma il sz tt fh hd) (fun (r : Int32) (_ : Unit) => r = mm_mGiven x1 fh) (fun (_ : Unit) => (wd_M cI cL g fl rn fs lt kk mk mf ml ma il sz tt fh hd)) 0 0 := by
  refine gk_I.of (by decide) (Nat.le_of_ble_eq_true rfl) ?_
  intro p e s m below meth c A ls Q H locs hx hb hml hown hts hW hl X
  have hl : lv_has ls 3 [(0, .ref (g 0)), (1, .int x1)] := hl
  obtain ⟨tgt, heq⟩ : ∃ t, mm_mGiven x1 fh = t := ⟨_, rfl⟩
  rw [heq] at X
  rw [mm_mGiven] at heq
  have L2 : ∀ (n : Nat) (x2 : Int32) (H : Heap) (locs : List Loc) (ls : Array Slot), ∀ (z_x2 : Int), gk_v x2 z_x2 → (z_x1 - z_x2) < (n : Int) → 0 ≤ z_x2 ∧ z_x2 ≤ z_x1 → mm_mGiven_2 x1 fh n x2 = tgt → gk_W D vwCl (gk_T cI cL) s A H locs (wd_M cI cL g fl rn fs lt kk mk mf ml ma il sz tt fh hd) → lv_has ls 3 [(0, .ref (g 0)), (1, .int x1), (2, .int x2)] → W p l e rm_mGiven s m [.ref (g 0), .int x1].toArray below meth c H locs 0 0 Q (F0 m 2 ls []) := by
    intro n
    induction n with
    | zero => intro x2 H locs ls z_x2 v_x2 hm f2_0 heq hW hl; exfalso; omega
    | succ n ih =>
      intro x2 H locs ls z_x2 v_x2 hm f2_0 heq hW hl
      rw [mm_mGiven_2] at heq
      refine lv_iload_n hx hb d_mGiven_2 rfl (lv_at hl 2 rfl) ?_
      refine lv_iload_n hx hb d_mGiven_3 rfl (lv_at hl 1 rfl) ?_
      refine lv_icmp_ge (tgt := 23) hx hb d_mGiven_4 (by decide) (fun c_1 => ?_) (fun c_1 => ?_)
      · rw [if_pos c_1] at heq
        have ic_1 := gk_le v_x1 v_x2 c_1
        refine lv_iload_n hx hb d_mGiven_23 rfl (lv_at hl 2 rfl) ?_
        exact X _ () H locs 0 0 24 ls heq hW d_mGiven_24 rfl (Nat.le_of_ble_eq_true rfl) (Nat.le_of_ble_eq_true rfl)
      · rw [if_neg c_1] at heq
        have ic_1 := gk_nle v_x1 v_x2 c_1
        refine lv_aload_n hx hb d_mGiven_7 rfl (lv_at hl 0 rfl) ?_
        refine va_get (D := D) (C := R_M) (T := F_M) (N := 14) hx hb hts i_M hown hW.1 hW.2.1 0 rfl rfl 12 (by decide) (hts _ w_113) (fun _ h9 => h9) rfl d_mGiven_8 ?_
        refine lv_iload_n hx hb d_mGiven_11 rfl (lv_at hl 2 rfl) ?_
        refine va_iald hx hb hW.1 hW.2.1 9 0 rfl rfl (i := x2) (gk_in v_x2 (by omega) (by omega)) d_mGiven_12 ?_
        refine lv_iconst (v := (-1)) hx hb d_mGiven_13 (by decide) ?_
        refine lv_icmp_eq (tgt := 23) hx hb d_mGiven_14 (by decide) (fun c_2 => ?_) (fun c_2 => ?_)
        · rw [if_pos c_2] at heq
          refine lv_iload_n hx hb d_mGiven_23 rfl (lv_at hl 2 rfl) ?_
          exact X _ () H locs 0 0 24 ls heq hW d_mGiven_24 rfl (Nat.le_of_ble_eq_true rfl) (Nat.le_of_ble_eq_true rfl)
        · rw [if_neg c_2] at heq
          refine lv_iinc (v := x2 + 1) (lv' := [(2, .int (x2 + 1)), (0, .ref (g 0)), (1, .int x1)]) hx hb d_mGiven_17 hl (k := 2) rfl rfl (by decide) rfl (fun ls hl => ?_)
          obtain ⟨zt_3, vt_3, et_3⟩ := gk_add v_x2 (show gk_v 1 1 from rfl) (by omega) (by omega)
          refine lv_goto (tgt := 2) hx hb d_mGiven_20 (by decide) ?_
          exact ih (x2 + 1) H locs ls zt_3 vt_3 (by omega) (by omega) heq hW (lv_sub hl [1, 2, 0] rfl)
  refine lv_iconst (v := 0) hx hb d_mGiven_0 (by decide) ?_
  refine lv_istore_n (lv' := [(2, .int 0), (0, .ref (g 0)), (1, .int x1)]) hx hb d_mGiven_1 rfl hl (by decide) rfl (fun ls hl => ?_)
  exact L2 6 0 H locs ls 0 (show gk_v 0 0 from rfl) (by omega) (by omega) heq hW (lv_sub hl [1, 2, 0] rfl)
def mm_mIsSound_4 (x1 : Int32) (fh : Nat → Int32) : Nat → Int32 → Int32 → Int32
  | 0, x2, x3 => 0
  | n + 1, x2, x3 => if x1 ≤ x3 then x2 else (if x2 = 0 then (mm_mIsSound_4 x1 fh n 0 (x3 + 1)) else (if (mm_mIsChar (fh x3.toNatClampNeg)) = 0 then (mm_mIsSound_4 x1 fh n 0 (x3 + 1)) else (mm_mIsSound_4 x1 fh n 1 (x3 + 1))))
def mm_mIsSound (x1 : Int32) (fh : Nat → Int32) : Int32 := mm_mIsSound_4 x1 fh 6 1 0
def rm_mIsSound : Room := { frames := 1, cells := 0, slots := 0, locals := 20 }
set_option maxHeartbeats 4000000 in
set_option maxRecDepth 100000 in
theorem c_mIsSound (l : Launch) (D : va_G) (cI : ClassId) (cL cL : ClassId × ClassId) (g : Nat → Nat) (fl rn : Int32) (fs lt kk mk mf ml ma : Nat → Int32) (il sz : Int32) (tt fh : Nat → Int32) (hd x1 : Int32) (z_x1 : Int) (v_x1 : gk_v x1 z_x1) (hx1 : 0 ≤ z_x1 ∧ z_x1 ≤ 5) : gk_I l y_mIsSound (.code y_mIsSound b_mIsSound 4 (some .boolean) :: wA) rm_mIsSound D vwCl (gk_T cI cL) [.ref (g 0), .int x1] (wd_M cI cL g fl rn fs lt kk mk mf ml ma il sz tt fh hd) (fun (r : Int32) (_ : Unit) => r = mm_mIsSound x1 fh) (fun (_ : Unit) => (wd_M cI cL g fl rn fs lt kk mk mf ml ma il sz tt fh hd)) 0 0 := by
  refine gk_I.of (by decide) (Nat.le_of_ble_eq_true rfl) ?_
  intro p e s m below meth c A ls Q H locs hx hb hml hown hts hW hl X
  have hl : lv_has ls 4 [(0, .ref (g 0)), (1, .int x1)] := hl
  obtain ⟨tgt, heq⟩ : ∃ t, mm_mIsSound x1 fh = t := ⟨_, rfl⟩
  rw [heq] at X
  rw [mm_mIsSound] at heq
  have L4 : ∀ (n : Nat) (x2 x3 : Int32) (H : Heap) (locs : List Loc) (ls : Array Slot), ∀ (z_x3 : Int), gk_v x3 z_x3 → (5 - z_x3) < (n : Int) → 0 ≤ z_x3 ∧ z_x3 ≤ z_x1 → x2 = 0 ∨ x2 = 1 → mm_mIsSound_4 x1 fh n x2 x3 = tgt → gk_W D vwCl (gk_T cI cL) s A H locs (wd_M cI cL g fl rn fs lt kk mk mf ml ma il sz tt fh hd) → lv_has ls 4 [(0, .ref (g 0)), (1, .int x1), (2, .int x2), (3, .int x3)] → W p l e rm_mIsSound s m [.ref (g 0), .int x1].toArray below meth c H locs 0 0 Q (F0 m 4 ls []) := by
    intro n
    induction n with
    | zero => intro x2 x3 H locs ls z_x3 v_x3 hm f4_0 f4_1 heq hW hl; exfalso; omega
    | succ n ih =>
      intro x2 x3 H locs ls z_x3 v_x3 hm f4_0 f4_1 heq hW hl
      rw [mm_mIsSound_4] at heq
      refine lv_iload_n hx hb d_mIsSound_4 rfl (lv_at hl 3 rfl) ?_
      refine lv_iload_n hx hb d_mIsSound_5 rfl (lv_at hl 1 rfl) ?_
      refine lv_icmp_ge (tgt := 37) hx hb d_mIsSound_6 (by decide) (fun c_1 => ?_) (fun c_1 => ?_)
      · rw [if_pos c_1] at heq
        have ic_1 := gk_le v_x1 v_x3 c_1
        refine lv_iload_n hx hb d_mIsSound_37 rfl (lv_at hl 2 rfl) ?_
        exact X _ () H locs 0 0 38 ls heq hW d_mIsSound_38 (gz_n f4_1) (Nat.le_of_ble_eq_true rfl) (Nat.le_of_ble_eq_true rfl)
      · rw [if_neg c_1] at heq
        have ic_1 := gk_nle v_x1 v_x3 c_1
        refine lv_iload_n hx hb d_mIsSound_9 rfl (lv_at hl 2 rfl) ?_
        refine lv_if_eq (tgt := 29) hx hb d_mIsSound_10 (by decide) (fun c_2 => ?_) (fun c_2 => ?_)
        · rw [if_pos c_2] at heq
          refine lv_iconst (v := 0) hx hb d_mIsSound_29 (by decide) ?_
          refine lv_istore_n (lv' := [(2, .int 0), (0, .ref (g 0)), (1, .int x1), (3, .int x3)]) hx hb d_mIsSound_30 rfl hl (by decide) rfl (fun ls hl => ?_)
          refine lv_iinc (v := x3 + 1) (lv' := [(3, .int (x3 + 1)), (2, .int 0), (0, .ref (g 0)), (1, .int x1)]) hx hb d_mIsSound_31 hl (k := 3) rfl rfl (by decide) rfl (fun ls hl => ?_)
          obtain ⟨zt_3, vt_3, et_3⟩ := gk_add v_x3 (show gk_v 1 1 from rfl) (by omega) (by omega)
          refine lv_goto (tgt := 4) hx hb d_mIsSound_34 (by decide) ?_
          exact ih 0 (x3 + 1) H locs ls zt_3 vt_3 (by omega) (by omega) (Or.inl rfl) heq hW (lv_sub hl [2, 3, 1, 0] rfl)
        · rw [if_neg c_2] at heq
          refine lv_aload_n hx hb d_mIsSound_13 rfl (lv_at hl 0 rfl) ?_
          refine va_get (D := D) (C := R_M) (T := F_M) (N := 14) hx hb hts i_M hown hW.1 hW.2.1 0 rfl rfl 12 (by decide) (hts _ w_113) (fun _ h9 => h9) rfl d_mIsSound_14 ?_
          refine lv_iload_n hx hb d_mIsSound_17 rfl (lv_at hl 3 rfl) ?_
          refine va_iald hx hb hW.1 hW.2.1 9 0 rfl rfl (i := x3) (gk_in v_x3 (by omega) (by omega)) d_mIsSound_18 ?_
          refine gk_goR hW [] rfl (va_runS (As := [.int (fh x3.toNatClampNeg)]) (rest := []) ⟨hx, hb, hml, hown, hts⟩ (c_mIsChar l D cI cL (fh x3.toNatClampNeg) _) (gk_cwS hts w_114 w_115 w_116 k_mIsChar rfl e_mIsChar rfl rfl ⟨Nat.le_of_ble_eq_true rfl, Nat.le_of_ble_eq_true rfl⟩) (gk_pre hW [] rfl rfl) rfl rfl hl.1 rfl (lv_room (Nat.le_of_ble_eq_true rfl)) d_mIsSound_19 ⟨Nat.le_of_ble_eq_true rfl, Nat.le_of_ble_eq_true rfl⟩) (fun H locs hW => ?_)
          refine lv_if_eq (tgt := 29) hx hb d_mIsSound_22 (by decide) (fun c_4 => ?_) (fun c_4 => ?_)
          · rw [if_pos c_4] at heq
            refine lv_iconst (v := 0) hx hb d_mIsSound_29 (by decide) ?_
            refine lv_istore_n (lv' := [(2, .int 0), (0, .ref (g 0)), (1, .int x1), (3, .int x3)]) hx hb d_mIsSound_30 rfl hl (by decide) rfl (fun ls hl => ?_)
            refine lv_iinc (v := x3 + 1) (lv' := [(3, .int (x3 + 1)), (2, .int 0), (0, .ref (g 0)), (1, .int x1)]) hx hb d_mIsSound_31 hl (k := 3) rfl rfl (by decide) rfl (fun ls hl => ?_)
            obtain ⟨zt_5, vt_5, et_5⟩ := gk_add v_x3 (show gk_v 1 1 from rfl) (by omega) (by omega)
            refine lv_goto (tgt := 4) hx hb d_mIsSound_34 (by decide) ?_
            exact ih 0 (x3 + 1) H locs ls zt_5 vt_5 (by omega) (by omega) (Or.inl rfl) heq hW (lv_sub hl [2, 3, 1, 0] rfl)
          · rw [if_neg c_4] at heq
            refine lv_iconst (v := 1) hx hb d_mIsSound_25 (by decide) ?_
            refine lv_goto (tgt := 30) hx hb d_mIsSound_26 (by decide) ?_
            refine lv_istore_n (lv' := [(2, .int 1), (0, .ref (g 0)), (1, .int x1), (3, .int x3)]) hx hb d_mIsSound_30 rfl hl (by decide) rfl (fun ls hl => ?_)
            refine lv_iinc (v := x3 + 1) (lv' := [(3, .int (x3 + 1)), (2, .int 1), (0, .ref (g 0)), (1, .int x1)]) hx hb d_mIsSound_31 hl (k := 3) rfl rfl (by decide) rfl (fun ls hl => ?_)
            obtain ⟨zt_6, vt_6, et_6⟩ := gk_add v_x3 (show gk_v 1 1 from rfl) (by omega) (by omega)
            refine lv_goto (tgt := 4) hx hb d_mIsSound_34 (by decide) ?_
            exact ih 1 (x3 + 1) H locs ls zt_6 vt_6 (by omega) (by omega) (Or.inr rfl) heq hW (lv_sub hl [2, 3, 1, 0] rfl)
  refine lv_iconst (v := 1) hx hb d_mIsSound_0 (by decide) ?_
  refine lv_istore_n (lv' := [(2, .int 1), (0, .ref (g 0)), (1, .int x1)]) hx hb d_mIsSound_1 rfl hl (by decide) rfl (fun ls hl => ?_)
  refine lv_iconst (v := 0) hx hb d_mIsSound_2 (by decide) ?_
  refine lv_istore_n (lv' := [(3, .int 0), (2, .int 1), (0, .ref (g 0)), (1, .int x1)]) hx hb d_mIsSound_3 rfl hl (by decide) rfl (fun ls hl => ?_)
  exact L4 6 1 0 H locs ls 0 (show gk_v 0 0 from rfl) (by omega) (by omega) (Or.inr rfl) heq hW (lv_sub hl [2, 3, 1, 0] rfl)
def mm_mAdd_61 (x1 x2 x3 x4 x5 : Int32) : Nat → Int32 → Int32 → Int32 → Int32 → (Nat → Int32) → (Nat → Int32) → Int32 × Int32 × Int32 × (Nat → Int32) × (Nat → Int32)
  | 0, x6, x7, fl, sz, tt, fh => (0, fl, sz, tt, fh)
  | n + 1, x6, x7, fl, sz, tt, fh => if x6 ≤ x7 then (sz + x6, fl, sz + x6, tt, fh) else (mm_mAdd_61 x1 x2 x3 x4 x5 n x6 (x7 + 1) fl sz (upd tt (sz + x7).toNatClampNeg (fh x7.toNatClampNeg)) fh)
def mm_mAdd (x1 x2 x3 x4 x5 fl sz : Int32) (tt fh : Nat → Int32) : Int32 × Int32 × Int32 × (Nat → Int32) × (Nat → Int32) := if (mm_mIsSound (mm_mGiven 5 (mm_mKeep x1 x2 x3 x4 x5 fh)) (mm_mKeep x1 x2 x3 x4 x5 fh)) = 0 then (0, 1, sz, tt, (mm_mKeep x1 x2 x3 x4 x5 fh)) else (if (sz + (mm_mGiven 5 (mm_mKeep x1 x2 x3 x4 x5 fh))) ≤ 2000 then (mm_mAdd_61 x1 x2 x3 x4 x5 6 (mm_mGiven 5 (mm_mKeep x1 x2 x3 x4 x5 fh)) 0 0 sz tt (mm_mKeep x1 x2 x3 x4 x5 fh)) else (0, 2, sz, tt, (mm_mKeep x1 x2 x3 x4 x5 fh)))
def rm_mAdd : Room := { frames := 2, cells := 0, slots := 0, locals := 43 }
set_option maxHeartbeats 4000000 in
set_option maxRecDepth 100000 in
theorem c_mAdd (l : Launch) (D : va_G) (cI : ClassId) (cL cL : ClassId × ClassId) (g : Nat → Nat) (fl rn : Int32) (fs lt kk mk mf ml ma : Nat → Int32) (il sz : Int32) (tt fh : Nat → Int32) (hd x1 x2 x3 x4 x5 : Int32) (z_sz : Int) (v_sz : gk_v sz z_sz) (hsz : 0 ≤ z_sz ∧ z_sz ≤ 2000) : gk_I l y_mAdd (.code y_mAdd b_mAdd 8 (some .int) :: wA) rm_mAdd D vwCl (gk_T cI cL) [.ref (g 0), .int x1, .int x2, .int x3, .int x4, .int x5] (wd_M cI cL g fl rn fs lt kk mk mf ml ma il sz tt fh hd) (fun (r : Int32) (u : Int32 × Int32 × (Nat → Int32) × (Nat → Int32)) => (r, u) = mm_mAdd x1 x2 x3 x4 x5 fl sz tt fh) (fun u => (wd_M cI cL g u.1 rn fs lt kk mk mf ml ma il u.2.1 u.2.2.1 u.2.2.2 hd)) 0 0 := by
  refine gk_I.of (by decide) (Nat.le_of_ble_eq_true rfl) ?_
  intro p e s m below meth c A ls Q H locs hx hb hml hown hts hW hl X
  have hl : lv_has ls 8 [(0, .ref (g 0)), (1, .int x1), (2, .int x2), (3, .int x3), (4, .int x4), (5, .int x5)] := hl
  obtain ⟨tgt, heq⟩ : ∃ t, mm_mAdd x1 x2 x3 x4 x5 fl sz tt fh = t := ⟨_, rfl⟩
  rw [heq] at X
  rw [mm_mAdd] at heq
  obtain ⟨z_x1, v_x1⟩ := gk_vex x1
  obtain ⟨z_x2, v_x2⟩ := gk_vex x2
  obtain ⟨z_x3, v_x3⟩ := gk_vex x3
  obtain ⟨z_x4, v_x4⟩ := gk_vex x4
  obtain ⟨z_x5, v_x5⟩ := gk_vex x5
  have L61 : ∀ (n : Nat) (x6 x7 fl sz : Int32) (tt fh : Nat → Int32) (H : Heap) (locs : List Loc) (ls : Array Slot), ∀ (z_sz : Int), gk_v sz z_sz → ∀ (z_x6 : Int), gk_v x6 z_x6 → ∀ (z_x7 : Int), gk_v x7 z_x7 → (5 - z_x7) < (n : Int) → 0 ≤ z_x7 ∧ z_x7 ≤ z_x6 ∧ z_x6 ≤ 5 ∧ z_sz + z_x6 ≤ 2000 ∧ 0 ≤ z_sz ∧ z_sz ≤ 2000 → mm_mAdd_61 x1 x2 x3 x4 x5 n x6 x7 fl sz tt fh = tgt → gk_W D vwCl (gk_T cI cL) s A H locs (wd_M cI cL g fl rn fs lt kk mk mf ml ma il sz tt fh hd) → lv_has ls 8 [(0, .ref (g 0)), (1, .int x1), (2, .int x2), (3, .int x3), (4, .int x4), (5, .int x5), (6, .int x6), (7, .int x7)] → W p l e rm_mAdd s m [.ref (g 0), .int x1, .int x2, .int x3, .int x4, .int x5].toArray below meth c H locs 0 0 Q (F0 m 61 ls []) := by
    intro n
    induction n with
    | zero => intro x6 x7 fl sz tt fh H locs ls z_sz v_sz z_x6 v_x6 z_x7 v_x7 hm f61_0 heq hW hl; exfalso; omega
    | succ n ih =>
      intro x6 x7 fl sz tt fh H locs ls z_sz v_sz z_x6 v_x6 z_x7 v_x7 hm f61_0 heq hW hl
      rw [mm_mAdd_61] at heq
      refine lv_iload hx hb d_mAdd_61 (lv_at hl 7 rfl) ?_
      refine lv_iload hx hb d_mAdd_63 (lv_at hl 6 rfl) ?_
      refine lv_icmp_ge (tgt := 93) hx hb d_mAdd_65 (by decide) (fun c_1 => ?_) (fun c_1 => ?_)
      · rw [if_pos c_1] at heq
        have ic_1 := gk_le v_x6 v_x7 c_1
        refine lv_aload_n hx hb d_mAdd_93 rfl (lv_at hl 0 rfl) ?_
        refine lv_aload_n hx hb d_mAdd_94 rfl (lv_at hl 0 rfl) ?_
        refine va_get (D := D) (C := R_M) (T := F_M) (N := 14) hx hb hts i_M hown hW.1 hW.2.1 0 rfl rfl 10 (by decide) (hts _ w_111) (fun _ h9 => h9) rfl d_mAdd_95 ?_
        refine lv_iload hx hb d_mAdd_98 (lv_at hl 6 rfl) ?_
        refine lv_iadd hx hb d_mAdd_100 ?_
        obtain ⟨zt_2, vt_2, et_2⟩ := gk_add v_sz v_x6 (by omega) (by omega)
        refine va_put (D := D) (ci := 3) (v := .int (sz + x6)) (ty := .int) (C := R_M) (T := F_M) (N := 14) hx hb hts i_M t_M t_M_ok n_M hown hW.1 hW.2.1 hW.2.2.1 hW.2.2.2.1 0 rfl rfl 10 (by decide) (hts _ w_111) (fun _ h9 => h9) rfl (by decide +kernel) rfl rfl (Nat.le_of_ble_eq_true rfl) d_mAdd_101 (fun H locs hP hD hS => ?_)
        have hW : gk_W D vwCl (gk_T cI cL) s A H locs (wd_M cI cL g fl rn fs lt kk mk mf ml ma il (sz + x6) tt fh hd) := ⟨hW.1, hP, hD, hS, hW.2.2.2.2⟩
        refine lv_aload_n hx hb d_mAdd_104 rfl (lv_at hl 0 rfl) ?_
        refine va_get (D := D) (C := R_M) (T := F_M) (N := 14) hx hb hts i_M hown hW.1 hW.2.1 0 rfl rfl 10 (by decide) (hts _ w_111) (fun _ h9 => h9) rfl d_mAdd_105 ?_
        exact X _ (fl, sz + x6, tt, fh) H locs 0 0 108 ls heq hW d_mAdd_108 rfl (Nat.le_of_ble_eq_true rfl) (Nat.le_of_ble_eq_true rfl)
      · rw [if_neg c_1] at heq
        have ic_1 := gk_nle v_x6 v_x7 c_1
        refine lv_aload_n hx hb d_mAdd_68 rfl (lv_at hl 0 rfl) ?_
        refine va_get (D := D) (C := R_M) (T := F_M) (N := 14) hx hb hts i_M hown hW.1 hW.2.1 0 rfl rfl 11 (by decide) (hts _ w_133) (fun _ h9 => h9) rfl d_mAdd_69 ?_
        refine lv_aload_n hx hb d_mAdd_72 rfl (lv_at hl 0 rfl) ?_
        refine va_get (D := D) (C := R_M) (T := F_M) (N := 14) hx hb hts i_M hown hW.1 hW.2.1 0 rfl rfl 10 (by decide) (hts _ w_111) (fun _ h9 => h9) rfl d_mAdd_73 ?_
        refine lv_iload hx hb d_mAdd_76 (lv_at hl 7 rfl) ?_
        refine lv_iadd hx hb d_mAdd_78 ?_
        obtain ⟨zt_3, vt_3, et_3⟩ := gk_add v_sz v_x7 (by omega) (by omega)
        refine lv_aload_n hx hb d_mAdd_79 rfl (lv_at hl 0 rfl) ?_
        refine va_get (D := D) (C := R_M) (T := F_M) (N := 14) hx hb hts i_M hown hW.1 hW.2.1 0 rfl rfl 12 (by decide) (hts _ w_113) (fun _ h9 => h9) rfl d_mAdd_80 ?_
        refine lv_iload hx hb d_mAdd_83 (lv_at hl 7 rfl) ?_
        refine va_iald hx hb hW.1 hW.2.1 9 0 rfl rfl (i := x7) (gk_in v_x7 (by omega) (by omega)) d_mAdd_85 ?_
        refine va_iast hx hb hW.1 hW.2.1 hW.2.2.1 hW.2.2.2.1 8 0 rfl rfl (i := sz + x7) (x := fh x7.toNatClampNeg) (gk_in vt_3 (by omega) (by omega)) d_mAdd_86 (fun H locs hP hD hS => ?_)
        have hW : gk_W D vwCl (gk_T cI cL) s A H locs (wd_M cI cL g fl rn fs lt kk mk mf ml ma il sz (upd tt (sz + x7).toNatClampNeg (fh x7.toNatClampNeg)) fh hd) := ⟨hW.1, hP, hD, hS, hW.2.2.2.2⟩
        refine lv_iinc (v := x7 + 1) (lv' := [(7, .int (x7 + 1)), (0, .ref (g 0)), (1, .int x1), (2, .int x2), (3, .int x3), (4, .int x4), (5, .int x5), (6, .int x6)]) hx hb d_mAdd_87 hl (k := 7) rfl rfl (by decide) rfl (fun ls hl => ?_)
        obtain ⟨zt_4, vt_4, et_4⟩ := gk_add v_x7 (show gk_v 1 1 from rfl) (by omega) (by omega)
        refine lv_goto (tgt := 61) hx hb d_mAdd_90 (by decide) ?_
        exact ih x6 (x7 + 1) fl sz (upd tt (sz + x7).toNatClampNeg (fh x7.toNatClampNeg)) fh H locs ls z_sz v_sz z_x6 v_x6 zt_4 vt_4 (by omega) (by omega) heq hW (lv_sub hl [1, 2, 3, 4, 5, 6, 7, 0] rfl)
  refine lv_aload_n hx hb d_mAdd_0 rfl (lv_at hl 0 rfl) ?_
  refine lv_iload_n hx hb d_mAdd_1 rfl (lv_at hl 1 rfl) ?_
  refine lv_iload_n hx hb d_mAdd_2 rfl (lv_at hl 2 rfl) ?_
  refine lv_iload_n hx hb d_mAdd_3 rfl (lv_at hl 3 rfl) ?_
  refine lv_iload hx hb d_mAdd_4 (lv_at hl 4 rfl) ?_
  refine lv_iload hx hb d_mAdd_6 (lv_at hl 5 rfl) ?_
  refine gk_goV (wr := []) hW [0, 1, 2, 3, 4, 5, 6, 7, 8, 9] [] rfl rfl (by decide) (by decide) (va_runV (As := [.int x1, .int x2, .int x3, .int x4, .int x5]) (rest := []) ⟨hx, hb, hml, hown, hts⟩ (c_mKeep l D cI cL cL g fl rn fs lt kk mk mf ml ma il sz tt fh hd x1 x2 x3 x4 x5 _) (gk_cwV hts w_124 w_125 w_126 w_116 k_mKeep rfl e_mKeep rfl rfl ⟨Nat.le_of_ble_eq_true rfl, Nat.le_of_ble_eq_true rfl⟩) (gk_preV hW [0, 1, 2, 3, 4, 5, 6, 7, 8, 9] rfl rfl rfl rfl) rfl rfl hl.1 rfl (lv_room (Nat.le_of_ble_eq_true rfl)) d_mAdd_8 ⟨Nat.le_of_ble_eq_true rfl, Nat.le_of_ble_eq_true rfl⟩) (fun u H locs p_6 hW => ?_)
  subst p_6
  have hW : gk_W D vwCl (gk_T cI cL) s A H locs (wd_M cI cL g fl rn fs lt kk mk mf ml ma il sz tt (mm_mKeep x1 x2 x3 x4 x5 fh) hd) := hW.re [0, 1, 2, 3, 4, 5, 6, 7, 8, 9] (by decide) rfl
  refine lv_aload_n hx hb d_mAdd_11 rfl (lv_at hl 0 rfl) ?_
  refine lv_iconst (v := 5) hx hb d_mAdd_12 (by decide) ?_
  refine gk_goR hW [0, 1, 2, 3, 4, 5, 6, 7, 8, 9] rfl (va_runV (As := [.int 5]) (rest := []) ⟨hx, hb, hml, hown, hts⟩ (c_mGiven l D cI cL cL g fl rn fs lt kk mk mf ml ma il sz tt (mm_mKeep x1 x2 x3 x4 x5 fh) hd 5 5 (show gk_v 5 5 from rfl) (by omega) _) (gk_cwV hts w_127 w_128 w_129 w_116 k_mGiven rfl e_mGiven rfl rfl ⟨Nat.le_of_ble_eq_true rfl, Nat.le_of_ble_eq_true rfl⟩) (gk_preV hW [0, 1, 2, 3, 4, 5, 6, 7, 8, 9] rfl rfl rfl rfl) rfl rfl hl.1 rfl (lv_room (Nat.le_of_ble_eq_true rfl)) d_mAdd_13 ⟨Nat.le_of_ble_eq_true rfl, Nat.le_of_ble_eq_true rfl⟩) (fun H locs hW => ?_)
  obtain ⟨zg_7, vg_7, hg_7⟩ := mm_mGiven_bd 5 (mm_mKeep x1 x2 x3 x4 x5 fh) 5 (show gk_v 5 5 from rfl) (by omega)
  refine lv_istore (lv' := [(6, .int (mm_mGiven 5 (mm_mKeep x1 x2 x3 x4 x5 fh))), (0, .ref (g 0)), (1, .int x1), (2, .int x2), (3, .int x3), (4, .int x4), (5, .int x5)]) hx hb d_mAdd_16 hl (by decide) rfl (fun ls hl => ?_)
  refine lv_aload_n hx hb d_mAdd_18 rfl (lv_at hl 1 rfl) ?_
  refine lv_aload_n hx hb d_mAdd_19 rfl (lv_at hl 1 rfl) ?_
  refine lv_iload hx hb d_mAdd_20 (lv_at hl 0 rfl) ?_
  refine gk_goR hW [0, 1, 2, 3, 4, 5, 6, 7, 8, 9] rfl (va_runV (As := [.int (mm_mGiven 5 (mm_mKeep x1 x2 x3 x4 x5 fh))]) (rest := [.ref (g 0)]) ⟨hx, hb, hml, hown, hts⟩ (c_mIsSound l D cI cL cL g fl rn fs lt kk mk mf ml ma il sz tt (mm_mKeep x1 x2 x3 x4 x5 fh) hd (mm_mGiven 5 (mm_mKeep x1 x2 x3 x4 x5 fh)) zg_7 vg_7 (by omega) _) (gk_cwV hts w_130 w_131 w_132 w_116 k_mIsSound rfl e_mIsSound rfl rfl ⟨Nat.le_of_ble_eq_true rfl, Nat.le_of_ble_eq_true rfl⟩) (gk_preV hW [0, 1, 2, 3, 4, 5, 6, 7, 8, 9] rfl rfl rfl rfl) rfl rfl hl.1 rfl (lv_room (Nat.le_of_ble_eq_true rfl)) d_mAdd_22 ⟨Nat.le_of_ble_eq_true rfl, Nat.le_of_ble_eq_true rfl⟩) (fun H locs hW => ?_)
  refine lv_if_ne (tgt := 32) hx hb d_mAdd_25 (by decide) (fun c_8 => ?_) (fun c_8 => ?_)
  · rw [if_neg c_8] at heq
    refine lv_aload_n hx hb d_mAdd_32 rfl (lv_at hl 1 rfl) ?_
    refine va_get (D := D) (C := R_M) (T := F_M) (N := 14) hx hb hts i_M hown hW.1 hW.2.1 0 rfl rfl 10 (by decide) (hts _ w_111) (fun _ h9 => h9) rfl d_mAdd_33 ?_
    refine lv_iload hx hb d_mAdd_36 (lv_at hl 0 rfl) ?_
    refine lv_iadd hx hb d_mAdd_38 ?_
    obtain ⟨zt_9, vt_9, et_9⟩ := gk_add v_sz vg_7 (by omega) (by omega)
    refine lv_sipush (v := 2000) hx hb d_mAdd_39 (by decide) ?_
    refine lv_icmp_le (tgt := 49) hx hb d_mAdd_42 (by decide) (fun c_10 => ?_) (fun c_10 => ?_)
    · rw [if_pos c_10] at heq
      have ic_10 := gk_le vt_9 (show gk_v 2000 2000 from rfl) c_10
      refine lv_iconst (v := 0) hx hb d_mAdd_49 (by decide) ?_
      refine gk_goI (wr := []) hW [0, 1, 2, 3, 4, 5, 6, 7, 8, 9] [] rfl rfl (by decide) (by decide) (va_runV (As := [.int 0]) (rest := []) ⟨hx, hb, hml, hown, hts⟩ (c_mRefused l D cI cL cL g fl rn fs lt kk mk mf ml ma il sz tt (mm_mKeep x1 x2 x3 x4 x5 fh) hd 0 _) (gk_cwV hts w_117 w_118 w_119 w_116 k_mRefused rfl e_mRefused rfl rfl ⟨Nat.le_of_ble_eq_true rfl, Nat.le_of_ble_eq_true rfl⟩) (gk_preV hW [0, 1, 2, 3, 4, 5, 6, 7, 8, 9] rfl rfl rfl rfl) rfl rfl hl.1 rfl (lv_room (Nat.le_of_ble_eq_true rfl)) d_mAdd_50 ⟨Nat.le_of_ble_eq_true rfl, Nat.le_of_ble_eq_true rfl⟩) (fun r_11 u H locs p_13 hW => ?_)
      obtain ⟨rfl, rfl⟩ : r_11 = 0 ∧ u = 0 := Prod.mk.inj (p_13.trans (show (mm_mRefused 0 fl) = (0, 0) from rfl))
      have hW : gk_W D vwCl (gk_T cI cL) s A H locs (wd_M cI cL g 0 rn fs lt kk mk mf ml ma il sz tt (mm_mKeep x1 x2 x3 x4 x5 fh) hd) := hW.re [0, 1, 2, 3, 4, 5, 6, 7, 8, 9] (by decide) rfl
      refine lv_if_eq (tgt := 58) hx hb d_mAdd_53 (by decide) (fun _ => ?_) (fun c_14 => absurd c_14 (by decide))
      refine lv_iconst (v := 0) hx hb d_mAdd_58 (by decide) ?_
      refine lv_istore (lv' := [(7, .int 0), (6, .int (mm_mGiven 5 (mm_mKeep x1 x2 x3 x4 x5 fh))), (0, .ref (g 0)), (1, .int x1), (2, .int x2), (3, .int x3), (4, .int x4), (5, .int x5)]) hx hb d_mAdd_59 hl (by decide) rfl (fun ls hl => ?_)
      exact L61 6 (mm_mGiven 5 (mm_mKeep x1 x2 x3 x4 x5 fh)) 0 0 sz tt (mm_mKeep x1 x2 x3 x4 x5 fh) H locs ls z_sz v_sz zg_7 vg_7 0 (show gk_v 0 0 from rfl) (by omega) (by omega) heq hW (lv_sub hl [2, 3, 4, 5, 6, 7, 1, 0] rfl)
    · rw [if_neg c_10] at heq
      have ic_10 := gk_nle vt_9 (show gk_v 2000 2000 from rfl) c_10
      refine lv_iconst (v := 2) hx hb d_mAdd_45 (by decide) ?_
      refine lv_goto (tgt := 50) hx hb d_mAdd_46 (by decide) ?_
      refine gk_goI (wr := []) hW [0, 1, 2, 3, 4, 5, 6, 7, 8, 9] [] rfl rfl (by decide) (by decide) (va_runV (As := [.int 2]) (rest := []) ⟨hx, hb, hml, hown, hts⟩ (c_mRefused l D cI cL cL g fl rn fs lt kk mk mf ml ma il sz tt (mm_mKeep x1 x2 x3 x4 x5 fh) hd 2 _) (gk_cwV hts w_117 w_118 w_119 w_116 k_mRefused rfl e_mRefused rfl rfl ⟨Nat.le_of_ble_eq_true rfl, Nat.le_of_ble_eq_true rfl⟩) (gk_preV hW [0, 1, 2, 3, 4, 5, 6, 7, 8, 9] rfl rfl rfl rfl) rfl rfl hl.1 rfl (lv_room (Nat.le_of_ble_eq_true rfl)) d_mAdd_50 ⟨Nat.le_of_ble_eq_true rfl, Nat.le_of_ble_eq_true rfl⟩) (fun r_15 u H locs p_17 hW => ?_)
      obtain ⟨rfl, rfl⟩ : r_15 = 1 ∧ u = 2 := Prod.mk.inj (p_17.trans (show (mm_mRefused 2 fl) = (1, 2) from rfl))
      have hW : gk_W D vwCl (gk_T cI cL) s A H locs (wd_M cI cL g 2 rn fs lt kk mk mf ml ma il sz tt (mm_mKeep x1 x2 x3 x4 x5 fh) hd) := hW.re [0, 1, 2, 3, 4, 5, 6, 7, 8, 9] (by decide) rfl
      refine lv_if_eq (tgt := 58) hx hb d_mAdd_53 (by decide) (fun c_18 => absurd c_18 (by decide)) (fun _ => ?_)
      refine lv_iconst (v := 0) hx hb d_mAdd_56 (by decide) ?_
      exact X _ (2, sz, tt, (mm_mKeep x1 x2 x3 x4 x5 fh)) H locs 0 0 57 ls heq hW d_mAdd_57 rfl (Nat.le_of_ble_eq_true rfl) (Nat.le_of_ble_eq_true rfl)
  · rw [if_pos c_8] at heq
    refine lv_iconst (v := 1) hx hb d_mAdd_28 (by decide) ?_
    refine lv_goto (tgt := 50) hx hb d_mAdd_29 (by decide) ?_
    refine gk_goI (wr := []) hW [0, 1, 2, 3, 4, 5, 6, 7, 8, 9] [] rfl rfl (by decide) (by decide) (va_runV (As := [.int 1]) (rest := []) ⟨hx, hb, hml, hown, hts⟩ (c_mRefused l D cI cL cL g fl rn fs lt kk mk mf ml ma il sz tt (mm_mKeep x1 x2 x3 x4 x5 fh) hd 1 _) (gk_cwV hts w_117 w_118 w_119 w_116 k_mRefused rfl e_mRefused rfl rfl ⟨Nat.le_of_ble_eq_true rfl, Nat.le_of_ble_eq_true rfl⟩) (gk_preV hW [0, 1, 2, 3, 4, 5, 6, 7, 8, 9] rfl rfl rfl rfl) rfl rfl hl.1 rfl (lv_room (Nat.le_of_ble_eq_true rfl)) d_mAdd_50 ⟨Nat.le_of_ble_eq_true rfl, Nat.le_of_ble_eq_true rfl⟩) (fun r_19 u H locs p_21 hW => ?_)
    obtain ⟨rfl, rfl⟩ : r_19 = 1 ∧ u = 1 := Prod.mk.inj (p_21.trans (show (mm_mRefused 1 fl) = (1, 1) from rfl))
    have hW : gk_W D vwCl (gk_T cI cL) s A H locs (wd_M cI cL g 1 rn fs lt kk mk mf ml ma il sz tt (mm_mKeep x1 x2 x3 x4 x5 fh) hd) := hW.re [0, 1, 2, 3, 4, 5, 6, 7, 8, 9] (by decide) rfl
    refine lv_if_eq (tgt := 58) hx hb d_mAdd_53 (by decide) (fun c_22 => absurd c_22 (by decide)) (fun _ => ?_)
    refine lv_iconst (v := 0) hx hb d_mAdd_56 (by decide) ?_
    exact X _ (1, sz, tt, (mm_mKeep x1 x2 x3 x4 x5 fh)) H locs 0 0 57 ls heq hW d_mAdd_57 rfl (Nat.le_of_ble_eq_true rfl) (Nat.le_of_ble_eq_true rfl)
def mm_mReplace_186 (x1 x2 x3 x4 x5 : Int32) : Nat → Int32 → Int32 → Int32 → Int32 → Int32 → Int32 → (Nat → Int32) → (Nat → Int32) → Int32 × Int32 × Int32 × (Nat → Int32) × (Nat → Int32)
  | 0, x6, x7, x8, x9, fl, sz, tt, fh => (0, fl, sz, tt, fh)
  | n + 1, x6, x7, x8, x9, fl, sz, tt, fh => if x6 ≤ x9 then (sz + x8, fl, sz + x8, tt, fh) else (mm_mReplace_186 x1 x2 x3 x4 x5 n x6 x7 x8 (x9 + 1) fl sz (upd tt (x1 + x9).toNatClampNeg (fh x9.toNatClampNeg)) fh)
def mm_mReplace_151 (x1 x2 x3 x4 x5 : Int32) : Nat → Int32 → Int32 → Int32 → Int32 → Int32 → Int32 → (Nat → Int32) → (Nat → Int32) → Int32 × Int32 × Int32 × (Nat → Int32) × (Nat → Int32)
  | 0, x6, x7, x8, x9, fl, sz, tt, fh => (0, fl, sz, tt, fh)
  | n + 1, x6, x7, x8, x9, fl, sz, tt, fh => if sz ≤ x9 then (mm_mReplace_186 x1 x2 x3 x4 x5 6 x6 x7 x8 0 fl sz tt fh) else (mm_mReplace_151 x1 x2 x3 x4 x5 n x6 x7 x8 (x9 + 1) fl sz (upd tt (x9 + x8).toNatClampNeg (tt x9.toNatClampNeg)) fh)
def mm_mReplace_116 (x1 x2 x3 x4 x5 : Int32) : Nat → Int32 → Int32 → Int32 → Int32 → Int32 → Int32 → (Nat → Int32) → (Nat → Int32) → Int32 × Int32 × Int32 × (Nat → Int32) × (Nat → Int32)
  | 0, x6, x7, x8, x9, fl, sz, tt, fh => (0, fl, sz, tt, fh)
  | n + 1, x6, x7, x8, x9, fl, sz, tt, fh => if x9 < x2 then (mm_mReplace_186 x1 x2 x3 x4 x5 6 x6 x7 x8 0 fl sz tt fh) else (mm_mReplace_116 x1 x2 x3 x4 x5 n x6 x7 x8 (x9 + (-1)) fl sz (upd tt (x9 + x8).toNatClampNeg (tt x9.toNatClampNeg)) fh)
def mm_mReplace (x1 x2 x3 x4 x5 fl sz : Int32) (tt fh : Nat → Int32) : Int32 × Int32 × Int32 × (Nat → Int32) × (Nat → Int32) := if x1 < 0 then (0, 1, sz, tt, (mm_mKeep x3 x4 x5 (-1) (-1) fh)) else (if x2 < x1 then (0, 1, sz, tt, (mm_mKeep x3 x4 x5 (-1) (-1) fh)) else (if sz < x2 then (0, 1, sz, tt, (mm_mKeep x3 x4 x5 (-1) (-1) fh)) else (if (mm_mIsSound (mm_mGiven 3 (mm_mKeep x3 x4 x5 (-1) (-1) fh)) (mm_mKeep x3 x4 x5 (-1) (-1) fh)) = 0 then (0, 2, sz, tt, (mm_mKeep x3 x4 x5 (-1) (-1) fh)) else (if ((sz - (x2 - x1)) + (mm_mGiven 3 (mm_mKeep x3 x4 x5 (-1) (-1) fh))) ≤ 2000 then (if ((mm_mGiven 3 (mm_mKeep x3 x4 x5 (-1) (-1) fh)) - (x2 - x1)) ≤ 0 then (mm_mReplace_151 x1 x2 x3 x4 x5 2001 (mm_mGiven 3 (mm_mKeep x3 x4 x5 (-1) (-1) fh)) 1 ((mm_mGiven 3 (mm_mKeep x3 x4 x5 (-1) (-1) fh)) - (x2 - x1)) x2 0 sz tt (mm_mKeep x3 x4 x5 (-1) (-1) fh)) else (mm_mReplace_116 x1 x2 x3 x4 x5 2001 (mm_mGiven 3 (mm_mKeep x3 x4 x5 (-1) (-1) fh)) 1 ((mm_mGiven 3 (mm_mKeep x3 x4 x5 (-1) (-1) fh)) - (x2 - x1)) (sz - 1) 0 sz tt (mm_mKeep x3 x4 x5 (-1) (-1) fh))) else (0, 3, sz, tt, (mm_mKeep x3 x4 x5 (-1) (-1) fh))))))
def rm_mReplace : Room := { frames := 2, cells := 0, slots := 0, locals := 43 }
set_option maxHeartbeats 4000000 in
set_option maxRecDepth 100000 in
theorem c_mReplace (l : Launch) (D : va_G) (cI : ClassId) (cL cL : ClassId × ClassId) (g : Nat → Nat) (fl rn : Int32) (fs lt kk mk mf ml ma : Nat → Int32) (il sz : Int32) (tt fh : Nat → Int32) (hd x1 x2 x3 x4 x5 : Int32) (z_sz : Int) (v_sz : gk_v sz z_sz) (hsz : 0 ≤ z_sz ∧ z_sz ≤ 2000) : gk_I l y_mReplace (.code y_mReplace b_mReplace 10 (some .int) :: wA) rm_mReplace D vwCl (gk_T cI cL) [.ref (g 0), .int x1, .int x2, .int x3, .int x4, .int x5] (wd_M cI cL g fl rn fs lt kk mk mf ml ma il sz tt fh hd) (fun (r : Int32) (u : Int32 × Int32 × (Nat → Int32) × (Nat → Int32)) => (r, u) = mm_mReplace x1 x2 x3 x4 x5 fl sz tt fh) (fun u => (wd_M cI cL g u.1 rn fs lt kk mk mf ml ma il u.2.1 u.2.2.1 u.2.2.2 hd)) 0 0 := by
  refine gk_I.of (by decide) (Nat.le_of_ble_eq_true rfl) ?_
  intro p e s m below meth c A ls Q H locs hx hb hml hown hts hW hl X
  have hl : lv_has ls 10 [(0, .ref (g 0)), (1, .int x1), (2, .int x2), (3, .int x3), (4, .int x4), (5, .int x5)] := hl
  obtain ⟨tgt, heq⟩ : ∃ t, mm_mReplace x1 x2 x3 x4 x5 fl sz tt fh = t := ⟨_, rfl⟩
  rw [heq] at X
  rw [mm_mReplace] at heq
  obtain ⟨z_x1, v_x1⟩ := gk_vex x1
  obtain ⟨z_x2, v_x2⟩ := gk_vex x2
  obtain ⟨z_x3, v_x3⟩ := gk_vex x3
  obtain ⟨z_x4, v_x4⟩ := gk_vex x4
  obtain ⟨z_x5, v_x5⟩ := gk_vex x5
  have L186 : ∀ (n : Nat) (x6 x7 x8 x9 fl sz : Int32) (tt fh : Nat → Int32) (H : Heap) (locs : List Loc) (ls : Array Slot), ∀ (z_sz : Int), gk_v sz z_sz → ∀ (z_x6 : Int), gk_v x6 z_x6 → ∀ (z_x8 : Int), gk_v x8 z_x8 → ∀ (z_x9 : Int), gk_v x9 z_x9 → (5 - z_x9) < (n : Int) → 0 ≤ z_x1 ∧ z_x1 ≤ z_x2 ∧ z_x2 ≤ z_sz ∧ 0 ≤ z_x6 ∧ z_x6 ≤ 3 ∧ z_x8 = z_x6 - (z_x2 - z_x1) ∧ z_sz + z_x8 ≤ 2000 ∧ 0 ≤ z_sz ∧ z_sz ≤ 2000 → 0 ≤ z_x9 ∧ z_x9 ≤ z_x6 → mm_mReplace_186 x1 x2 x3 x4 x5 n x6 x7 x8 x9 fl sz tt fh = tgt → gk_W D vwCl (gk_T cI cL) s A H locs (wd_M cI cL g fl rn fs lt kk mk mf ml ma il sz tt fh hd) → lv_has ls 10 [(0, .ref (g 0)), (1, .int x1), (2, .int x2), (3, .int x3), (4, .int x4), (5, .int x5), (6, .int x6), (7, .int x7), (8, .int x8), (9, .int x9)] → W p l e rm_mReplace s m [.ref (g 0), .int x1, .int x2, .int x3, .int x4, .int x5].toArray below meth c H locs 0 0 Q (F0 m 186 ls []) := by
    intro n
    induction n with
    | zero => intro x6 x7 x8 x9 fl sz tt fh H locs ls z_sz v_sz z_x6 v_x6 z_x8 v_x8 z_x9 v_x9 hm f186_0 f186_1 heq hW hl; exfalso; omega
    | succ n ih =>
      intro x6 x7 x8 x9 fl sz tt fh H locs ls z_sz v_sz z_x6 v_x6 z_x8 v_x8 z_x9 v_x9 hm f186_0 f186_1 heq hW hl
      rw [mm_mReplace_186] at heq
      refine lv_iload hx hb d_mReplace_186 (lv_at hl 9 rfl) ?_
      refine lv_iload hx hb d_mReplace_188 (lv_at hl 6 rfl) ?_
      refine lv_icmp_ge (tgt := 215) hx hb d_mReplace_190 (by decide) (fun c_1 => ?_) (fun c_1 => ?_)
      · rw [if_pos c_1] at heq
        have ic_1 := gk_le v_x6 v_x9 c_1
        refine lv_aload_n hx hb d_mReplace_215 rfl (lv_at hl 0 rfl) ?_
        refine lv_aload_n hx hb d_mReplace_216 rfl (lv_at hl 0 rfl) ?_
        refine va_get (D := D) (C := R_M) (T := F_M) (N := 14) hx hb hts i_M hown hW.1 hW.2.1 0 rfl rfl 10 (by decide) (hts _ w_111) (fun _ h9 => h9) rfl d_mReplace_217 ?_
        refine lv_iload hx hb d_mReplace_220 (lv_at hl 8 rfl) ?_
        refine lv_iadd hx hb d_mReplace_222 ?_
        obtain ⟨zt_2, vt_2, et_2⟩ := gk_add v_sz v_x8 (by omega) (by omega)
        refine va_put (D := D) (ci := 3) (v := .int (sz + x8)) (ty := .int) (C := R_M) (T := F_M) (N := 14) hx hb hts i_M t_M t_M_ok n_M hown hW.1 hW.2.1 hW.2.2.1 hW.2.2.2.1 0 rfl rfl 10 (by decide) (hts _ w_111) (fun _ h9 => h9) rfl (by decide +kernel) rfl rfl (Nat.le_of_ble_eq_true rfl) d_mReplace_223 (fun H locs hP hD hS => ?_)
        have hW : gk_W D vwCl (gk_T cI cL) s A H locs (wd_M cI cL g fl rn fs lt kk mk mf ml ma il (sz + x8) tt fh hd) := ⟨hW.1, hP, hD, hS, hW.2.2.2.2⟩
        refine lv_aload_n hx hb d_mReplace_226 rfl (lv_at hl 0 rfl) ?_
        refine va_get (D := D) (C := R_M) (T := F_M) (N := 14) hx hb hts i_M hown hW.1 hW.2.1 0 rfl rfl 10 (by decide) (hts _ w_111) (fun _ h9 => h9) rfl d_mReplace_227 ?_
        exact X _ (fl, sz + x8, tt, fh) H locs 0 0 230 ls heq hW d_mReplace_230 rfl (Nat.le_of_ble_eq_true rfl) (Nat.le_of_ble_eq_true rfl)
      · rw [if_neg c_1] at heq
        have ic_1 := gk_nle v_x6 v_x9 c_1
        refine lv_aload_n hx hb d_mReplace_193 rfl (lv_at hl 0 rfl) ?_
        refine va_get (D := D) (C := R_M) (T := F_M) (N := 14) hx hb hts i_M hown hW.1 hW.2.1 0 rfl rfl 11 (by decide) (hts _ w_133) (fun _ h9 => h9) rfl d_mReplace_194 ?_
        refine lv_iload_n hx hb d_mReplace_197 rfl (lv_at hl 1 rfl) ?_
        refine lv_iload hx hb d_mReplace_198 (lv_at hl 9 rfl) ?_
        refine lv_iadd hx hb d_mReplace_200 ?_
        obtain ⟨zt_3, vt_3, et_3⟩ := gk_add v_x1 v_x9 (by omega) (by omega)
        refine lv_aload_n hx hb d_mReplace_201 rfl (lv_at hl 0 rfl) ?_
        refine va_get (D := D) (C := R_M) (T := F_M) (N := 14) hx hb hts i_M hown hW.1 hW.2.1 0 rfl rfl 12 (by decide) (hts _ w_113) (fun _ h9 => h9) rfl d_mReplace_202 ?_
        refine lv_iload hx hb d_mReplace_205 (lv_at hl 9 rfl) ?_
        refine va_iald hx hb hW.1 hW.2.1 9 0 rfl rfl (i := x9) (gk_in v_x9 (by omega) (by omega)) d_mReplace_207 ?_
        refine va_iast hx hb hW.1 hW.2.1 hW.2.2.1 hW.2.2.2.1 8 0 rfl rfl (i := x1 + x9) (x := fh x9.toNatClampNeg) (gk_in vt_3 (by omega) (by omega)) d_mReplace_208 (fun H locs hP hD hS => ?_)
        have hW : gk_W D vwCl (gk_T cI cL) s A H locs (wd_M cI cL g fl rn fs lt kk mk mf ml ma il sz (upd tt (x1 + x9).toNatClampNeg (fh x9.toNatClampNeg)) fh hd) := ⟨hW.1, hP, hD, hS, hW.2.2.2.2⟩
        refine lv_iinc (v := x9 + 1) (lv' := [(9, .int (x9 + 1)), (0, .ref (g 0)), (1, .int x1), (2, .int x2), (3, .int x3), (4, .int x4), (5, .int x5), (6, .int x6), (7, .int x7), (8, .int x8)]) hx hb d_mReplace_209 hl (k := 9) rfl rfl (by decide) rfl (fun ls hl => ?_)
        obtain ⟨zt_4, vt_4, et_4⟩ := gk_add v_x9 (show gk_v 1 1 from rfl) (by omega) (by omega)
        refine lv_goto (tgt := 186) hx hb d_mReplace_212 (by decide) ?_
        exact ih x6 x7 x8 (x9 + 1) fl sz (upd tt (x1 + x9).toNatClampNeg (fh x9.toNatClampNeg)) fh H locs ls z_sz v_sz z_x6 v_x6 z_x8 v_x8 zt_4 vt_4 (by omega) (by omega) (by omega) heq hW (lv_sub hl [1, 2, 3, 4, 5, 6, 7, 8, 9, 0] rfl)
  have L151 : ∀ (n : Nat) (x6 x7 x8 x9 fl sz : Int32) (tt fh : Nat → Int32) (H : Heap) (locs : List Loc) (ls : Array Slot), ∀ (z_sz : Int), gk_v sz z_sz → ∀ (z_x6 : Int), gk_v x6 z_x6 → ∀ (z_x8 : Int), gk_v x8 z_x8 → ∀ (z_x9 : Int), gk_v x9 z_x9 → (z_sz - z_x9) < (n : Int) → 0 ≤ z_x1 ∧ z_x1 ≤ z_x2 ∧ z_x2 ≤ z_sz ∧ 0 ≤ z_x6 ∧ z_x6 ≤ 3 ∧ z_x8 = z_x6 - (z_x2 - z_x1) ∧ z_sz + z_x8 ≤ 2000 ∧ 0 ≤ z_sz ∧ z_sz ≤ 2000 ∧ z_x8 ≤ 0 → z_x2 ≤ z_x9 ∧ z_x9 ≤ z_sz → mm_mReplace_151 x1 x2 x3 x4 x5 n x6 x7 x8 x9 fl sz tt fh = tgt → gk_W D vwCl (gk_T cI cL) s A H locs (wd_M cI cL g fl rn fs lt kk mk mf ml ma il sz tt fh hd) → lv_has ls 10 [(0, .ref (g 0)), (1, .int x1), (2, .int x2), (3, .int x3), (4, .int x4), (5, .int x5), (6, .int x6), (7, .int x7), (8, .int x8), (9, .int x9)] → W p l e rm_mReplace s m [.ref (g 0), .int x1, .int x2, .int x3, .int x4, .int x5].toArray below meth c H locs 0 0 Q (F0 m 151 ls []) := by
    intro n
    induction n with
    | zero => intro x6 x7 x8 x9 fl sz tt fh H locs ls z_sz v_sz z_x6 v_x6 z_x8 v_x8 z_x9 v_x9 hm f151_0 f151_1 heq hW hl; exfalso; omega
    | succ n ih =>
      intro x6 x7 x8 x9 fl sz tt fh H locs ls z_sz v_sz z_x6 v_x6 z_x8 v_x8 z_x9 v_x9 hm f151_0 f151_1 heq hW hl
      rw [mm_mReplace_151] at heq
      refine lv_iload hx hb d_mReplace_151 (lv_at hl 9 rfl) ?_
      refine lv_aload_n hx hb d_mReplace_153 rfl (lv_at hl 0 rfl) ?_
      refine va_get (D := D) (C := R_M) (T := F_M) (N := 14) hx hb hts i_M hown hW.1 hW.2.1 0 rfl rfl 10 (by decide) (hts _ w_111) (fun _ h9 => h9) rfl d_mReplace_154 ?_
      refine lv_icmp_ge (tgt := 183) hx hb d_mReplace_157 (by decide) (fun c_5 => ?_) (fun c_5 => ?_)
      · rw [if_pos c_5] at heq
        have ic_5 := gk_le v_sz v_x9 c_5
        refine lv_iconst (v := 0) hx hb d_mReplace_183 (by decide) ?_
        refine lv_istore (lv' := [(9, .int 0), (0, .ref (g 0)), (1, .int x1), (2, .int x2), (3, .int x3), (4, .int x4), (5, .int x5), (6, .int x6), (7, .int x7), (8, .int x8)]) hx hb d_mReplace_184 hl (by decide) rfl (fun ls hl => ?_)
        exact L186 6 x6 x7 x8 0 fl sz tt fh H locs ls z_sz v_sz z_x6 v_x6 z_x8 v_x8 0 (show gk_v 0 0 from rfl) (by omega) (by omega) (by omega) heq hW (lv_sub hl [1, 2, 3, 4, 5, 6, 7, 8, 9, 0] rfl)
      · rw [if_neg c_5] at heq
        have ic_5 := gk_nle v_sz v_x9 c_5
        refine lv_aload_n hx hb d_mReplace_160 rfl (lv_at hl 0 rfl) ?_
        refine va_get (D := D) (C := R_M) (T := F_M) (N := 14) hx hb hts i_M hown hW.1 hW.2.1 0 rfl rfl 11 (by decide) (hts _ w_133) (fun _ h9 => h9) rfl d_mReplace_161 ?_
        refine lv_iload hx hb d_mReplace_164 (lv_at hl 9 rfl) ?_
        refine lv_iload hx hb d_mReplace_166 (lv_at hl 8 rfl) ?_
        refine lv_iadd hx hb d_mReplace_168 ?_
        obtain ⟨zt_6, vt_6, et_6⟩ := gk_add v_x9 v_x8 (by omega) (by omega)
        refine lv_aload_n hx hb d_mReplace_169 rfl (lv_at hl 0 rfl) ?_
        refine va_get (D := D) (C := R_M) (T := F_M) (N := 14) hx hb hts i_M hown hW.1 hW.2.1 0 rfl rfl 11 (by decide) (hts _ w_133) (fun _ h9 => h9) rfl d_mReplace_170 ?_
        refine lv_iload hx hb d_mReplace_173 (lv_at hl 9 rfl) ?_
        refine va_iald hx hb hW.1 hW.2.1 8 0 rfl rfl (i := x9) (gk_in v_x9 (by omega) (by omega)) d_mReplace_175 ?_
        refine va_iast hx hb hW.1 hW.2.1 hW.2.2.1 hW.2.2.2.1 8 0 rfl rfl (i := x9 + x8) (x := tt x9.toNatClampNeg) (gk_in vt_6 (by omega) (by omega)) d_mReplace_176 (fun H locs hP hD hS => ?_)
        have hW : gk_W D vwCl (gk_T cI cL) s A H locs (wd_M cI cL g fl rn fs lt kk mk mf ml ma il sz (upd tt (x9 + x8).toNatClampNeg (tt x9.toNatClampNeg)) fh hd) := ⟨hW.1, hP, hD, hS, hW.2.2.2.2⟩
        refine lv_iinc (v := x9 + 1) (lv' := [(9, .int (x9 + 1)), (0, .ref (g 0)), (1, .int x1), (2, .int x2), (3, .int x3), (4, .int x4), (5, .int x5), (6, .int x6), (7, .int x7), (8, .int x8)]) hx hb d_mReplace_177 hl (k := 9) rfl rfl (by decide) rfl (fun ls hl => ?_)
        obtain ⟨zt_7, vt_7, et_7⟩ := gk_add v_x9 (show gk_v 1 1 from rfl) (by omega) (by omega)
        refine lv_goto (tgt := 151) hx hb d_mReplace_180 (by decide) ?_
        exact ih x6 x7 x8 (x9 + 1) fl sz (upd tt (x9 + x8).toNatClampNeg (tt x9.toNatClampNeg)) fh H locs ls z_sz v_sz z_x6 v_x6 z_x8 v_x8 zt_7 vt_7 (by omega) (by omega) (by omega) heq hW (lv_sub hl [1, 2, 3, 4, 5, 6, 7, 8, 9, 0] rfl)
  have L116 : ∀ (n : Nat) (x6 x7 x8 x9 fl sz : Int32) (tt fh : Nat → Int32) (H : Heap) (locs : List Loc) (ls : Array Slot), ∀ (z_sz : Int), gk_v sz z_sz → ∀ (z_x6 : Int), gk_v x6 z_x6 → ∀ (z_x8 : Int), gk_v x8 z_x8 → ∀ (z_x9 : Int), gk_v x9 z_x9 → (z_x9 - z_x2 + 1) < (n : Int) → 0 ≤ z_x1 ∧ z_x1 ≤ z_x2 ∧ z_x2 ≤ z_sz ∧ 0 ≤ z_x6 ∧ z_x6 ≤ 3 ∧ z_x8 = z_x6 - (z_x2 - z_x1) ∧ z_sz + z_x8 ≤ 2000 ∧ 0 ≤ z_sz ∧ z_sz ≤ 2000 ∧ 0 < z_x8 → z_x2 - 1 ≤ z_x9 ∧ z_x9 < z_sz → mm_mReplace_116 x1 x2 x3 x4 x5 n x6 x7 x8 x9 fl sz tt fh = tgt → gk_W D vwCl (gk_T cI cL) s A H locs (wd_M cI cL g fl rn fs lt kk mk mf ml ma il sz tt fh hd) → lv_has ls 10 [(0, .ref (g 0)), (1, .int x1), (2, .int x2), (3, .int x3), (4, .int x4), (5, .int x5), (6, .int x6), (7, .int x7), (8, .int x8), (9, .int x9)] → W p l e rm_mReplace s m [.ref (g 0), .int x1, .int x2, .int x3, .int x4, .int x5].toArray below meth c H locs 0 0 Q (F0 m 116 ls []) := by
    intro n
    induction n with
    | zero => intro x6 x7 x8 x9 fl sz tt fh H locs ls z_sz v_sz z_x6 v_x6 z_x8 v_x8 z_x9 v_x9 hm f116_0 f116_1 heq hW hl; exfalso; omega
    | succ n ih =>
      intro x6 x7 x8 x9 fl sz tt fh H locs ls z_sz v_sz z_x6 v_x6 z_x8 v_x8 z_x9 v_x9 hm f116_0 f116_1 heq hW hl
      rw [mm_mReplace_116] at heq
      refine lv_iload hx hb d_mReplace_116 (lv_at hl 9 rfl) ?_
      refine lv_iload_n hx hb d_mReplace_118 rfl (lv_at hl 2 rfl) ?_
      refine lv_icmp_lt (tgt := 145) hx hb d_mReplace_119 (by decide) (fun c_8 => ?_) (fun c_8 => ?_)
      · rw [if_pos c_8] at heq
        have ic_8 := gk_lt v_x9 v_x2 c_8
        refine lv_goto (tgt := 183) hx hb d_mReplace_145 (by decide) ?_
        refine lv_iconst (v := 0) hx hb d_mReplace_183 (by decide) ?_
        refine lv_istore (lv' := [(9, .int 0), (0, .ref (g 0)), (1, .int x1), (2, .int x2), (3, .int x3), (4, .int x4), (5, .int x5), (6, .int x6), (7, .int x7), (8, .int x8)]) hx hb d_mReplace_184 hl (by decide) rfl (fun ls hl => ?_)
        exact L186 6 x6 x7 x8 0 fl sz tt fh H locs ls z_sz v_sz z_x6 v_x6 z_x8 v_x8 0 (show gk_v 0 0 from rfl) (by omega) (by omega) (by omega) heq hW (lv_sub hl [1, 2, 3, 4, 5, 6, 7, 8, 9, 0] rfl)
      · rw [if_neg c_8] at heq
        have ic_8 := gk_nlt v_x9 v_x2 c_8
        refine lv_aload_n hx hb d_mReplace_122 rfl (lv_at hl 0 rfl) ?_
        refine va_get (D := D) (C := R_M) (T := F_M) (N := 14) hx hb hts i_M hown hW.1 hW.2.1 0 rfl rfl 11 (by decide) (hts _ w_133) (fun _ h9 => h9) rfl d_mReplace_123 ?_
        refine lv_iload hx hb d_mReplace_126 (lv_at hl 9 rfl) ?_
        refine lv_iload hx hb d_mReplace_128 (lv_at hl 8 rfl) ?_
        refine lv_iadd hx hb d_mReplace_130 ?_
        obtain ⟨zt_9, vt_9, et_9⟩ := gk_add v_x9 v_x8 (by omega) (by omega)
        refine lv_aload_n hx hb d_mReplace_131 rfl (lv_at hl 0 rfl) ?_
        refine va_get (D := D) (C := R_M) (T := F_M) (N := 14) hx hb hts i_M hown hW.1 hW.2.1 0 rfl rfl 11 (by decide) (hts _ w_133) (fun _ h9 => h9) rfl d_mReplace_132 ?_
        refine lv_iload hx hb d_mReplace_135 (lv_at hl 9 rfl) ?_
        refine va_iald hx hb hW.1 hW.2.1 8 0 rfl rfl (i := x9) (gk_in v_x9 (by omega) (by omega)) d_mReplace_137 ?_
        refine va_iast hx hb hW.1 hW.2.1 hW.2.2.1 hW.2.2.2.1 8 0 rfl rfl (i := x9 + x8) (x := tt x9.toNatClampNeg) (gk_in vt_9 (by omega) (by omega)) d_mReplace_138 (fun H locs hP hD hS => ?_)
        have hW : gk_W D vwCl (gk_T cI cL) s A H locs (wd_M cI cL g fl rn fs lt kk mk mf ml ma il sz (upd tt (x9 + x8).toNatClampNeg (tt x9.toNatClampNeg)) fh hd) := ⟨hW.1, hP, hD, hS, hW.2.2.2.2⟩
        refine lv_iinc (v := x9 + (-1)) (lv' := [(9, .int (x9 + (-1))), (0, .ref (g 0)), (1, .int x1), (2, .int x2), (3, .int x3), (4, .int x4), (5, .int x5), (6, .int x6), (7, .int x7), (8, .int x8)]) hx hb d_mReplace_139 hl (k := 9) rfl rfl (by decide) rfl (fun ls hl => ?_)
        obtain ⟨zt_10, vt_10, et_10⟩ := gk_add v_x9 (show gk_v (-1) (-1) from rfl) (by omega) (by omega)
        refine lv_goto (tgt := 116) hx hb d_mReplace_142 (by decide) ?_
        exact ih x6 x7 x8 (x9 + (-1)) fl sz (upd tt (x9 + x8).toNatClampNeg (tt x9.toNatClampNeg)) fh H locs ls z_sz v_sz z_x6 v_x6 z_x8 v_x8 zt_10 vt_10 (by omega) (by omega) (by omega) heq hW (lv_sub hl [1, 2, 3, 4, 5, 6, 7, 8, 9, 0] rfl)
  refine lv_aload_n hx hb d_mReplace_0 rfl (lv_at hl 0 rfl) ?_
  refine lv_iload_n hx hb d_mReplace_1 rfl (lv_at hl 3 rfl) ?_
  refine lv_iload hx hb d_mReplace_2 (lv_at hl 4 rfl) ?_
  refine lv_iload hx hb d_mReplace_4 (lv_at hl 5 rfl) ?_
  refine lv_iconst (v := (-1)) hx hb d_mReplace_6 (by decide) ?_
  refine lv_iconst (v := (-1)) hx hb d_mReplace_7 (by decide) ?_
  refine gk_goV (wr := []) hW [0, 1, 2, 3, 4, 5, 6, 7, 8, 9] [] rfl rfl (by decide) (by decide) (va_runV (As := [.int x3, .int x4, .int x5, .int (-1), .int (-1)]) (rest := []) ⟨hx, hb, hml, hown, hts⟩ (c_mKeep l D cI cL cL g fl rn fs lt kk mk mf ml ma il sz tt fh hd x3 x4 x5 (-1) (-1) _) (gk_cwV hts w_124 w_125 w_126 w_116 k_mKeep rfl e_mKeep rfl rfl ⟨Nat.le_of_ble_eq_true rfl, Nat.le_of_ble_eq_true rfl⟩) (gk_preV hW [0, 1, 2, 3, 4, 5, 6, 7, 8, 9] rfl rfl rfl rfl) rfl rfl hl.1 rfl (lv_room (Nat.le_of_ble_eq_true rfl)) d_mReplace_8 ⟨Nat.le_of_ble_eq_true rfl, Nat.le_of_ble_eq_true rfl⟩) (fun u H locs p_12 hW => ?_)
  subst p_12
  have hW : gk_W D vwCl (gk_T cI cL) s A H locs (wd_M cI cL g fl rn fs lt kk mk mf ml ma il sz tt (mm_mKeep x3 x4 x5 (-1) (-1) fh) hd) := hW.re [0, 1, 2, 3, 4, 5, 6, 7, 8, 9] (by decide) rfl
  refine lv_aload_n hx hb d_mReplace_11 rfl (lv_at hl 0 rfl) ?_
  refine lv_iconst (v := 3) hx hb d_mReplace_12 (by decide) ?_
  refine gk_goR hW [0, 1, 2, 3, 4, 5, 6, 7, 8, 9] rfl (va_runV (As := [.int 3]) (rest := []) ⟨hx, hb, hml, hown, hts⟩ (c_mGiven l D cI cL cL g fl rn fs lt kk mk mf ml ma il sz tt (mm_mKeep x3 x4 x5 (-1) (-1) fh) hd 3 3 (show gk_v 3 3 from rfl) (by omega) _) (gk_cwV hts w_127 w_128 w_129 w_116 k_mGiven rfl e_mGiven rfl rfl ⟨Nat.le_of_ble_eq_true rfl, Nat.le_of_ble_eq_true rfl⟩) (gk_preV hW [0, 1, 2, 3, 4, 5, 6, 7, 8, 9] rfl rfl rfl rfl) rfl rfl hl.1 rfl (lv_room (Nat.le_of_ble_eq_true rfl)) d_mReplace_13 ⟨Nat.le_of_ble_eq_true rfl, Nat.le_of_ble_eq_true rfl⟩) (fun H locs hW => ?_)
  obtain ⟨zg_13, vg_13, hg_13⟩ := mm_mGiven_bd 3 (mm_mKeep x3 x4 x5 (-1) (-1) fh) 3 (show gk_v 3 3 from rfl) (by omega)
  refine lv_istore (lv' := [(6, .int (mm_mGiven 3 (mm_mKeep x3 x4 x5 (-1) (-1) fh))), (0, .ref (g 0)), (1, .int x1), (2, .int x2), (3, .int x3), (4, .int x4), (5, .int x5)]) hx hb d_mReplace_16 hl (by decide) rfl (fun ls hl => ?_)
  refine lv_iload_n hx hb d_mReplace_18 rfl (lv_at hl 2 rfl) ?_
  refine lv_if_lt (tgt := 39) hx hb d_mReplace_19 (by decide) (fun c_14 => ?_) (fun c_14 => ?_)
  · rw [if_pos c_14] at heq
    have ic_14 := gk_lt v_x1 (show gk_v 0 0 from rfl) c_14
    refine lv_iconst (v := 0) hx hb d_mReplace_39 (by decide) ?_
    refine lv_istore (lv' := [(7, .int 0), (6, .int (mm_mGiven 3 (mm_mKeep x3 x4 x5 (-1) (-1) fh))), (0, .ref (g 0)), (1, .int x1), (2, .int x2), (3, .int x3), (4, .int x4), (5, .int x5)]) hx hb d_mReplace_40 hl (by decide) rfl (fun ls hl => ?_)
    refine lv_aload_n hx hb d_mReplace_42 rfl (lv_at hl 2 rfl) ?_
    refine lv_iload hx hb d_mReplace_43 (lv_at hl 0 rfl) ?_
    refine lv_if_ne (tgt := 52) hx hb d_mReplace_45 (by decide) (fun c_15 => absurd c_15 (by decide)) (fun _ => ?_)
    refine lv_iconst (v := 1) hx hb d_mReplace_48 (by decide) ?_
    refine lv_goto (tgt := 87) hx hb d_mReplace_49 (by decide) ?_
    refine gk_goI (wr := []) hW [0, 1, 2, 3, 4, 5, 6, 7, 8, 9] [] rfl rfl (by decide) (by decide) (va_runV (As := [.int 1]) (rest := []) ⟨hx, hb, hml, hown, hts⟩ (c_mRefused l D cI cL cL g fl rn fs lt kk mk mf ml ma il sz tt (mm_mKeep x3 x4 x5 (-1) (-1) fh) hd 1 _) (gk_cwV hts w_117 w_118 w_119 w_116 k_mRefused rfl e_mRefused rfl rfl ⟨Nat.le_of_ble_eq_true rfl, Nat.le_of_ble_eq_true rfl⟩) (gk_preV hW [0, 1, 2, 3, 4, 5, 6, 7, 8, 9] rfl rfl rfl rfl) rfl rfl hl.1 rfl (lv_room (Nat.le_of_ble_eq_true rfl)) d_mReplace_87 ⟨Nat.le_of_ble_eq_true rfl, Nat.le_of_ble_eq_true rfl⟩) (fun r_16 u H locs p_18 hW => ?_)
    obtain ⟨rfl, rfl⟩ : r_16 = 1 ∧ u = 1 := Prod.mk.inj (p_18.trans (show (mm_mRefused 1 fl) = (1, 1) from rfl))
    have hW : gk_W D vwCl (gk_T cI cL) s A H locs (wd_M cI cL g 1 rn fs lt kk mk mf ml ma il sz tt (mm_mKeep x3 x4 x5 (-1) (-1) fh) hd) := hW.re [0, 1, 2, 3, 4, 5, 6, 7, 8, 9] (by decide) rfl
    refine lv_if_eq (tgt := 95) hx hb d_mReplace_90 (by decide) (fun c_19 => absurd c_19 (by decide)) (fun _ => ?_)
    refine lv_iconst (v := 0) hx hb d_mReplace_93 (by decide) ?_
    exact X _ (1, sz, tt, (mm_mKeep x3 x4 x5 (-1) (-1) fh)) H locs 0 0 94 ls heq hW d_mReplace_94 rfl (Nat.le_of_ble_eq_true rfl) (Nat.le_of_ble_eq_true rfl)
  · rw [if_neg c_14] at heq
    have ic_14 := gk_nlt v_x1 (show gk_v 0 0 from rfl) c_14
    refine lv_iload_n hx hb d_mReplace_22 rfl (lv_at hl 2 rfl) ?_
    refine lv_iload_n hx hb d_mReplace_23 rfl (lv_at hl 3 rfl) ?_
    refine lv_icmp_gt (tgt := 39) hx hb d_mReplace_24 (by decide) (fun c_20 => ?_) (fun c_20 => ?_)
    · rw [if_pos c_20] at heq
      have ic_20 := gk_lt v_x2 v_x1 c_20
      refine lv_iconst (v := 0) hx hb d_mReplace_39 (by decide) ?_
      refine lv_istore (lv' := [(7, .int 0), (6, .int (mm_mGiven 3 (mm_mKeep x3 x4 x5 (-1) (-1) fh))), (0, .ref (g 0)), (1, .int x1), (2, .int x2), (3, .int x3), (4, .int x4), (5, .int x5)]) hx hb d_mReplace_40 hl (by decide) rfl (fun ls hl => ?_)
      refine lv_aload_n hx hb d_mReplace_42 rfl (lv_at hl 2 rfl) ?_
      refine lv_iload hx hb d_mReplace_43 (lv_at hl 0 rfl) ?_
      refine lv_if_ne (tgt := 52) hx hb d_mReplace_45 (by decide) (fun c_21 => absurd c_21 (by decide)) (fun _ => ?_)
      refine lv_iconst (v := 1) hx hb d_mReplace_48 (by decide) ?_
      refine lv_goto (tgt := 87) hx hb d_mReplace_49 (by decide) ?_
      refine gk_goI (wr := []) hW [0, 1, 2, 3, 4, 5, 6, 7, 8, 9] [] rfl rfl (by decide) (by decide) (va_runV (As := [.int 1]) (rest := []) ⟨hx, hb, hml, hown, hts⟩ (c_mRefused l D cI cL cL g fl rn fs lt kk mk mf ml ma il sz tt (mm_mKeep x3 x4 x5 (-1) (-1) fh) hd 1 _) (gk_cwV hts w_117 w_118 w_119 w_116 k_mRefused rfl e_mRefused rfl rfl ⟨Nat.le_of_ble_eq_true rfl, Nat.le_of_ble_eq_true rfl⟩) (gk_preV hW [0, 1, 2, 3, 4, 5, 6, 7, 8, 9] rfl rfl rfl rfl) rfl rfl hl.1 rfl (lv_room (Nat.le_of_ble_eq_true rfl)) d_mReplace_87 ⟨Nat.le_of_ble_eq_true rfl, Nat.le_of_ble_eq_true rfl⟩) (fun r_22 u H locs p_24 hW => ?_)
      obtain ⟨rfl, rfl⟩ : r_22 = 1 ∧ u = 1 := Prod.mk.inj (p_24.trans (show (mm_mRefused 1 fl) = (1, 1) from rfl))
      have hW : gk_W D vwCl (gk_T cI cL) s A H locs (wd_M cI cL g 1 rn fs lt kk mk mf ml ma il sz tt (mm_mKeep x3 x4 x5 (-1) (-1) fh) hd) := hW.re [0, 1, 2, 3, 4, 5, 6, 7, 8, 9] (by decide) rfl
      refine lv_if_eq (tgt := 95) hx hb d_mReplace_90 (by decide) (fun c_25 => absurd c_25 (by decide)) (fun _ => ?_)
      refine lv_iconst (v := 0) hx hb d_mReplace_93 (by decide) ?_
      exact X _ (1, sz, tt, (mm_mKeep x3 x4 x5 (-1) (-1) fh)) H locs 0 0 94 ls heq hW d_mReplace_94 rfl (Nat.le_of_ble_eq_true rfl) (Nat.le_of_ble_eq_true rfl)
    · rw [if_neg c_20] at heq
      have ic_20 := gk_nlt v_x2 v_x1 c_20
      refine lv_iload_n hx hb d_mReplace_27 rfl (lv_at hl 3 rfl) ?_
      refine lv_aload_n hx hb d_mReplace_28 rfl (lv_at hl 1 rfl) ?_
      refine va_get (D := D) (C := R_M) (T := F_M) (N := 14) hx hb hts i_M hown hW.1 hW.2.1 0 rfl rfl 10 (by decide) (hts _ w_111) (fun _ h9 => h9) rfl d_mReplace_29 ?_
      refine lv_icmp_gt (tgt := 39) hx hb d_mReplace_32 (by decide) (fun c_26 => ?_) (fun c_26 => ?_)
      · rw [if_pos c_26] at heq
        have ic_26 := gk_lt v_sz v_x2 c_26
        refine lv_iconst (v := 0) hx hb d_mReplace_39 (by decide) ?_
        refine lv_istore (lv' := [(7, .int 0), (6, .int (mm_mGiven 3 (mm_mKeep x3 x4 x5 (-1) (-1) fh))), (0, .ref (g 0)), (1, .int x1), (2, .int x2), (3, .int x3), (4, .int x4), (5, .int x5)]) hx hb d_mReplace_40 hl (by decide) rfl (fun ls hl => ?_)
        refine lv_aload_n hx hb d_mReplace_42 rfl (lv_at hl 2 rfl) ?_
        refine lv_iload hx hb d_mReplace_43 (lv_at hl 0 rfl) ?_
        refine lv_if_ne (tgt := 52) hx hb d_mReplace_45 (by decide) (fun c_27 => absurd c_27 (by decide)) (fun _ => ?_)
        refine lv_iconst (v := 1) hx hb d_mReplace_48 (by decide) ?_
        refine lv_goto (tgt := 87) hx hb d_mReplace_49 (by decide) ?_
        refine gk_goI (wr := []) hW [0, 1, 2, 3, 4, 5, 6, 7, 8, 9] [] rfl rfl (by decide) (by decide) (va_runV (As := [.int 1]) (rest := []) ⟨hx, hb, hml, hown, hts⟩ (c_mRefused l D cI cL cL g fl rn fs lt kk mk mf ml ma il sz tt (mm_mKeep x3 x4 x5 (-1) (-1) fh) hd 1 _) (gk_cwV hts w_117 w_118 w_119 w_116 k_mRefused rfl e_mRefused rfl rfl ⟨Nat.le_of_ble_eq_true rfl, Nat.le_of_ble_eq_true rfl⟩) (gk_preV hW [0, 1, 2, 3, 4, 5, 6, 7, 8, 9] rfl rfl rfl rfl) rfl rfl hl.1 rfl (lv_room (Nat.le_of_ble_eq_true rfl)) d_mReplace_87 ⟨Nat.le_of_ble_eq_true rfl, Nat.le_of_ble_eq_true rfl⟩) (fun r_28 u H locs p_30 hW => ?_)
        obtain ⟨rfl, rfl⟩ : r_28 = 1 ∧ u = 1 := Prod.mk.inj (p_30.trans (show (mm_mRefused 1 fl) = (1, 1) from rfl))
        have hW : gk_W D vwCl (gk_T cI cL) s A H locs (wd_M cI cL g 1 rn fs lt kk mk mf ml ma il sz tt (mm_mKeep x3 x4 x5 (-1) (-1) fh) hd) := hW.re [0, 1, 2, 3, 4, 5, 6, 7, 8, 9] (by decide) rfl
        refine lv_if_eq (tgt := 95) hx hb d_mReplace_90 (by decide) (fun c_31 => absurd c_31 (by decide)) (fun _ => ?_)
        refine lv_iconst (v := 0) hx hb d_mReplace_93 (by decide) ?_
        exact X _ (1, sz, tt, (mm_mKeep x3 x4 x5 (-1) (-1) fh)) H locs 0 0 94 ls heq hW d_mReplace_94 rfl (Nat.le_of_ble_eq_true rfl) (Nat.le_of_ble_eq_true rfl)
      · rw [if_neg c_26] at heq
        have ic_26 := gk_nlt v_sz v_x2 c_26
        refine lv_iconst (v := 1) hx hb d_mReplace_35 (by decide) ?_
        refine lv_goto (tgt := 40) hx hb d_mReplace_36 (by decide) ?_
        refine lv_istore (lv' := [(7, .int 1), (6, .int (mm_mGiven 3 (mm_mKeep x3 x4 x5 (-1) (-1) fh))), (0, .ref (g 0)), (1, .int x1), (2, .int x2), (3, .int x3), (4, .int x4), (5, .int x5)]) hx hb d_mReplace_40 hl (by decide) rfl (fun ls hl => ?_)
        refine lv_aload_n hx hb d_mReplace_42 rfl (lv_at hl 2 rfl) ?_
        refine lv_iload hx hb d_mReplace_43 (lv_at hl 0 rfl) ?_
        refine lv_if_ne (tgt := 52) hx hb d_mReplace_45 (by decide) (fun _ => ?_) (fun c_32 => absurd c_32 (by decide))
        refine lv_aload_n hx hb d_mReplace_52 rfl (lv_at hl 2 rfl) ?_
        refine lv_iload hx hb d_mReplace_53 (lv_at hl 1 rfl) ?_
        refine gk_goR hW [0, 1, 2, 3, 4, 5, 6, 7, 8, 9] rfl (va_runV (As := [.int (mm_mGiven 3 (mm_mKeep x3 x4 x5 (-1) (-1) fh))]) (rest := [.ref (g 0)]) ⟨hx, hb, hml, hown, hts⟩ (c_mIsSound l D cI cL cL g fl rn fs lt kk mk mf ml ma il sz tt (mm_mKeep x3 x4 x5 (-1) (-1) fh) hd (mm_mGiven 3 (mm_mKeep x3 x4 x5 (-1) (-1) fh)) zg_13 vg_13 (by omega) _) (gk_cwV hts w_130 w_131 w_132 w_116 k_mIsSound rfl e_mIsSound rfl rfl ⟨Nat.le_of_ble_eq_true rfl, Nat.le_of_ble_eq_true rfl⟩) (gk_preV hW [0, 1, 2, 3, 4, 5, 6, 7, 8, 9] rfl rfl rfl rfl) rfl rfl hl.1 rfl (lv_room (Nat.le_of_ble_eq_true rfl)) d_mReplace_55 ⟨Nat.le_of_ble_eq_true rfl, Nat.le_of_ble_eq_true rfl⟩) (fun H locs hW => ?_)
        refine lv_if_ne (tgt := 65) hx hb d_mReplace_58 (by decide) (fun c_33 => ?_) (fun c_33 => ?_)
        · rw [if_neg c_33] at heq
          refine lv_aload_n hx hb d_mReplace_65 rfl (lv_at hl 2 rfl) ?_
          refine va_get (D := D) (C := R_M) (T := F_M) (N := 14) hx hb hts i_M hown hW.1 hW.2.1 0 rfl rfl 10 (by decide) (hts _ w_111) (fun _ h9 => h9) rfl d_mReplace_66 ?_
          refine lv_iload_n hx hb d_mReplace_69 rfl (lv_at hl 4 rfl) ?_
          refine lv_iload_n hx hb d_mReplace_70 rfl (lv_at hl 3 rfl) ?_
          refine lv_isub hx hb d_mReplace_71 ?_
          obtain ⟨zt_34, vt_34, et_34⟩ := gk_sub v_x2 v_x1 (by omega) (by omega)
          refine lv_isub hx hb d_mReplace_72 ?_
          obtain ⟨zt_35, vt_35, et_35⟩ := gk_sub v_sz vt_34 (by omega) (by omega)
          refine lv_iload hx hb d_mReplace_73 (lv_at hl 1 rfl) ?_
          refine lv_iadd hx hb d_mReplace_75 ?_
          obtain ⟨zt_36, vt_36, et_36⟩ := gk_add vt_35 vg_13 (by omega) (by omega)
          refine lv_sipush (v := 2000) hx hb d_mReplace_76 (by decide) ?_
          refine lv_icmp_le (tgt := 86) hx hb d_mReplace_79 (by decide) (fun c_37 => ?_) (fun c_37 => ?_)
          · rw [if_pos c_37] at heq
            have ic_37 := gk_le vt_36 (show gk_v 2000 2000 from rfl) c_37
            refine lv_iconst (v := 0) hx hb d_mReplace_86 (by decide) ?_
            refine gk_goI (wr := []) hW [0, 1, 2, 3, 4, 5, 6, 7, 8, 9] [] rfl rfl (by decide) (by decide) (va_runV (As := [.int 0]) (rest := []) ⟨hx, hb, hml, hown, hts⟩ (c_mRefused l D cI cL cL g fl rn fs lt kk mk mf ml ma il sz tt (mm_mKeep x3 x4 x5 (-1) (-1) fh) hd 0 _) (gk_cwV hts w_117 w_118 w_119 w_116 k_mRefused rfl e_mRefused rfl rfl ⟨Nat.le_of_ble_eq_true rfl, Nat.le_of_ble_eq_true rfl⟩) (gk_preV hW [0, 1, 2, 3, 4, 5, 6, 7, 8, 9] rfl rfl rfl rfl) rfl rfl hl.1 rfl (lv_room (Nat.le_of_ble_eq_true rfl)) d_mReplace_87 ⟨Nat.le_of_ble_eq_true rfl, Nat.le_of_ble_eq_true rfl⟩) (fun r_38 u H locs p_40 hW => ?_)
            obtain ⟨rfl, rfl⟩ : r_38 = 0 ∧ u = 0 := Prod.mk.inj (p_40.trans (show (mm_mRefused 0 fl) = (0, 0) from rfl))
            have hW : gk_W D vwCl (gk_T cI cL) s A H locs (wd_M cI cL g 0 rn fs lt kk mk mf ml ma il sz tt (mm_mKeep x3 x4 x5 (-1) (-1) fh) hd) := hW.re [0, 1, 2, 3, 4, 5, 6, 7, 8, 9] (by decide) rfl
            refine lv_if_eq (tgt := 95) hx hb d_mReplace_90 (by decide) (fun _ => ?_) (fun c_41 => absurd c_41 (by decide))
            refine lv_iload hx hb d_mReplace_95 (lv_at hl 1 rfl) ?_
            refine lv_iload_n hx hb d_mReplace_97 rfl (lv_at hl 4 rfl) ?_
            refine lv_iload_n hx hb d_mReplace_98 rfl (lv_at hl 3 rfl) ?_
            refine lv_isub hx hb d_mReplace_99 ?_
            obtain ⟨zt_42, vt_42, et_42⟩ := gk_sub v_x2 v_x1 (by omega) (by omega)
            refine lv_isub hx hb d_mReplace_100 ?_
            obtain ⟨zt_43, vt_43, et_43⟩ := gk_sub vg_13 vt_42 (by omega) (by omega)
            refine lv_istore (lv' := [(8, .int ((mm_mGiven 3 (mm_mKeep x3 x4 x5 (-1) (-1) fh)) - (x2 - x1))), (7, .int 1), (6, .int (mm_mGiven 3 (mm_mKeep x3 x4 x5 (-1) (-1) fh))), (0, .ref (g 0)), (1, .int x1), (2, .int x2), (3, .int x3), (4, .int x4), (5, .int x5)]) hx hb d_mReplace_101 hl (by decide) rfl (fun ls hl => ?_)
            refine lv_iload hx hb d_mReplace_103 (lv_at hl 0 rfl) ?_
            refine lv_if_le (tgt := 148) hx hb d_mReplace_105 (by decide) (fun c_44 => ?_) (fun c_44 => ?_)
            · rw [if_pos c_44] at heq
              have ic_44 := gk_le vt_43 (show gk_v 0 0 from rfl) c_44
              refine lv_iload_n hx hb d_mReplace_148 rfl (lv_at hl 5 rfl) ?_
              refine lv_istore (lv' := [(9, .int x2), (8, .int ((mm_mGiven 3 (mm_mKeep x3 x4 x5 (-1) (-1) fh)) - (x2 - x1))), (7, .int 1), (6, .int (mm_mGiven 3 (mm_mKeep x3 x4 x5 (-1) (-1) fh))), (0, .ref (g 0)), (1, .int x1), (2, .int x2), (3, .int x3), (4, .int x4), (5, .int x5)]) hx hb d_mReplace_149 hl (by decide) rfl (fun ls hl => ?_)
              exact L151 2001 (mm_mGiven 3 (mm_mKeep x3 x4 x5 (-1) (-1) fh)) 1 ((mm_mGiven 3 (mm_mKeep x3 x4 x5 (-1) (-1) fh)) - (x2 - x1)) x2 0 sz tt (mm_mKeep x3 x4 x5 (-1) (-1) fh) H locs ls z_sz v_sz zg_13 vg_13 zt_43 vt_43 z_x2 v_x2 (by omega) (by omega) (by omega) heq hW (lv_sub hl [4, 5, 6, 7, 8, 9, 3, 2, 1, 0] rfl)
            · rw [if_neg c_44] at heq
              have ic_44 := gk_nle vt_43 (show gk_v 0 0 from rfl) c_44
              refine lv_aload_n hx hb d_mReplace_108 rfl (lv_at hl 3 rfl) ?_
              refine va_get (D := D) (C := R_M) (T := F_M) (N := 14) hx hb hts i_M hown hW.1 hW.2.1 0 rfl rfl 10 (by decide) (hts _ w_111) (fun _ h9 => h9) rfl d_mReplace_109 ?_
              refine lv_iconst (v := 1) hx hb d_mReplace_112 (by decide) ?_
              refine lv_isub hx hb d_mReplace_113 ?_
              obtain ⟨zt_45, vt_45, et_45⟩ := gk_sub v_sz (show gk_v 1 1 from rfl) (by omega) (by omega)
              refine lv_istore (lv' := [(9, .int (sz - 1)), (8, .int ((mm_mGiven 3 (mm_mKeep x3 x4 x5 (-1) (-1) fh)) - (x2 - x1))), (7, .int 1), (6, .int (mm_mGiven 3 (mm_mKeep x3 x4 x5 (-1) (-1) fh))), (0, .ref (g 0)), (1, .int x1), (2, .int x2), (3, .int x3), (4, .int x4), (5, .int x5)]) hx hb d_mReplace_114 hl (by decide) rfl (fun ls hl => ?_)
              exact L116 2001 (mm_mGiven 3 (mm_mKeep x3 x4 x5 (-1) (-1) fh)) 1 ((mm_mGiven 3 (mm_mKeep x3 x4 x5 (-1) (-1) fh)) - (x2 - x1)) (sz - 1) 0 sz tt (mm_mKeep x3 x4 x5 (-1) (-1) fh) H locs ls z_sz v_sz zg_13 vg_13 zt_43 vt_43 zt_45 vt_45 (by omega) (by omega) (by omega) heq hW (lv_sub hl [4, 5, 6, 7, 8, 9, 3, 2, 1, 0] rfl)
          · rw [if_neg c_37] at heq
            have ic_37 := gk_nle vt_36 (show gk_v 2000 2000 from rfl) c_37
            refine lv_iconst (v := 3) hx hb d_mReplace_82 (by decide) ?_
            refine lv_goto (tgt := 87) hx hb d_mReplace_83 (by decide) ?_
            refine gk_goI (wr := []) hW [0, 1, 2, 3, 4, 5, 6, 7, 8, 9] [] rfl rfl (by decide) (by decide) (va_runV (As := [.int 3]) (rest := []) ⟨hx, hb, hml, hown, hts⟩ (c_mRefused l D cI cL cL g fl rn fs lt kk mk mf ml ma il sz tt (mm_mKeep x3 x4 x5 (-1) (-1) fh) hd 3 _) (gk_cwV hts w_117 w_118 w_119 w_116 k_mRefused rfl e_mRefused rfl rfl ⟨Nat.le_of_ble_eq_true rfl, Nat.le_of_ble_eq_true rfl⟩) (gk_preV hW [0, 1, 2, 3, 4, 5, 6, 7, 8, 9] rfl rfl rfl rfl) rfl rfl hl.1 rfl (lv_room (Nat.le_of_ble_eq_true rfl)) d_mReplace_87 ⟨Nat.le_of_ble_eq_true rfl, Nat.le_of_ble_eq_true rfl⟩) (fun r_46 u H locs p_48 hW => ?_)
            obtain ⟨rfl, rfl⟩ : r_46 = 1 ∧ u = 3 := Prod.mk.inj (p_48.trans (show (mm_mRefused 3 fl) = (1, 3) from rfl))
            have hW : gk_W D vwCl (gk_T cI cL) s A H locs (wd_M cI cL g 3 rn fs lt kk mk mf ml ma il sz tt (mm_mKeep x3 x4 x5 (-1) (-1) fh) hd) := hW.re [0, 1, 2, 3, 4, 5, 6, 7, 8, 9] (by decide) rfl
            refine lv_if_eq (tgt := 95) hx hb d_mReplace_90 (by decide) (fun c_49 => absurd c_49 (by decide)) (fun _ => ?_)
            refine lv_iconst (v := 0) hx hb d_mReplace_93 (by decide) ?_
            exact X _ (3, sz, tt, (mm_mKeep x3 x4 x5 (-1) (-1) fh)) H locs 0 0 94 ls heq hW d_mReplace_94 rfl (Nat.le_of_ble_eq_true rfl) (Nat.le_of_ble_eq_true rfl)
        · rw [if_pos c_33] at heq
          refine lv_iconst (v := 2) hx hb d_mReplace_61 (by decide) ?_
          refine lv_goto (tgt := 87) hx hb d_mReplace_62 (by decide) ?_
          refine gk_goI (wr := []) hW [0, 1, 2, 3, 4, 5, 6, 7, 8, 9] [] rfl rfl (by decide) (by decide) (va_runV (As := [.int 2]) (rest := []) ⟨hx, hb, hml, hown, hts⟩ (c_mRefused l D cI cL cL g fl rn fs lt kk mk mf ml ma il sz tt (mm_mKeep x3 x4 x5 (-1) (-1) fh) hd 2 _) (gk_cwV hts w_117 w_118 w_119 w_116 k_mRefused rfl e_mRefused rfl rfl ⟨Nat.le_of_ble_eq_true rfl, Nat.le_of_ble_eq_true rfl⟩) (gk_preV hW [0, 1, 2, 3, 4, 5, 6, 7, 8, 9] rfl rfl rfl rfl) rfl rfl hl.1 rfl (lv_room (Nat.le_of_ble_eq_true rfl)) d_mReplace_87 ⟨Nat.le_of_ble_eq_true rfl, Nat.le_of_ble_eq_true rfl⟩) (fun r_50 u H locs p_52 hW => ?_)
          obtain ⟨rfl, rfl⟩ : r_50 = 1 ∧ u = 2 := Prod.mk.inj (p_52.trans (show (mm_mRefused 2 fl) = (1, 2) from rfl))
          have hW : gk_W D vwCl (gk_T cI cL) s A H locs (wd_M cI cL g 2 rn fs lt kk mk mf ml ma il sz tt (mm_mKeep x3 x4 x5 (-1) (-1) fh) hd) := hW.re [0, 1, 2, 3, 4, 5, 6, 7, 8, 9] (by decide) rfl
          refine lv_if_eq (tgt := 95) hx hb d_mReplace_90 (by decide) (fun c_53 => absurd c_53 (by decide)) (fun _ => ?_)
          refine lv_iconst (v := 0) hx hb d_mReplace_93 (by decide) ?_
          exact X _ (2, sz, tt, (mm_mKeep x3 x4 x5 (-1) (-1) fh)) H locs 0 0 94 ls heq hW d_mReplace_94 rfl (Nat.le_of_ble_eq_true rfl) (Nat.le_of_ble_eq_true rfl)
end
section
def mm_mClassOf_13 (x1 rn : Int32) (fs lt kk : Nat → Int32) (il : Int32) (tt : Nat → Int32) : Nat → Int32 → Int32 → Int32 → Int32
  | 0, x2, x3, x4 => 0
  | n + 1, x2, x3, x4 => if rn ≤ x4 then (if x3 = 42 then 8 else (if x3 = 43 then (if il = 0 then 19 else 29) else (if x3 < 38 then x3 else 27))) else (if x2 < (fs x4.toNatClampNeg) then (mm_mClassOf_13 x1 rn fs lt kk il tt n x2 x3 (x4 + 1)) else (if (lt x4.toNatClampNeg) < x2 then (mm_mClassOf_13 x1 rn fs lt kk il tt n x2 x3 (x4 + 1)) else (mm_mClassOf_13 x1 rn fs lt kk il tt n x2 (kk x4.toNatClampNeg) (x4 + 1))))
def mm_mClassOf (x1 rn : Int32) (fs lt kk : Nat → Int32) (il : Int32) (tt : Nat → Int32) : Int32 := mm_mClassOf_13 x1 rn fs lt kk il tt 101 (tt x1.toNatClampNeg) 40 0
def rm_mClassOf : Room := { frames := 0, cells := 0, slots := 0, locals := 0 }
set_option maxHeartbeats 4000000 in
set_option maxRecDepth 100000 in
theorem c_mClassOf (l : Launch) (D : va_G) (cI : ClassId) (cL cL : ClassId × ClassId) (g : Nat → Nat) (fl rn : Int32) (fs lt kk mk mf ml ma : Nat → Int32) (il sz : Int32) (tt fh : Nat → Int32) (hd x1 : Int32) (z_rn : Int) (v_rn : gk_v rn z_rn) (z_x1 : Int) (v_x1 : gk_v x1 z_x1) (hrn : 0 ≤ z_rn ∧ z_rn ≤ 100) (hx1 : 0 ≤ z_x1 ∧ z_x1 < 2000) : gk_I l y_mClassOf (.code y_mClassOf b_mClassOf 5 (some .int) :: wA) rm_mClassOf D vwCl (gk_T cI cL) [.ref (g 0), .int x1] (wd_M cI cL g fl rn fs lt kk mk mf ml ma il sz tt fh hd) (fun (r : Int32) (_ : Unit) => r = mm_mClassOf x1 rn fs lt kk il tt) (fun (_ : Unit) => (wd_M cI cL g fl rn fs lt kk mk mf ml ma il sz tt fh hd)) 0 0 := by
  refine gk_I.of (by decide) (Nat.le_of_ble_eq_true rfl) ?_
  intro p e s m below meth c A ls Q H locs hx hb hml hown hts hW hl X
  have hl : lv_has ls 5 [(0, .ref (g 0)), (1, .int x1)] := hl
  obtain ⟨tgt, heq⟩ : ∃ t, mm_mClassOf x1 rn fs lt kk il tt = t := ⟨_, rfl⟩
  rw [heq] at X
  rw [mm_mClassOf] at heq
  obtain ⟨z_il, v_il⟩ := gk_vex il
  have L13 : ∀ (n : Nat) (x2 x3 x4 : Int32) (H : Heap) (locs : List Loc) (ls : Array Slot), ∀ (z_x4 : Int), gk_v x4 z_x4 → (z_rn - z_x4) < (n : Int) → 0 ≤ z_x4 ∧ z_x4 ≤ z_rn → mm_mClassOf_13 x1 rn fs lt kk il tt n x2 x3 x4 = tgt → gk_W D vwCl (gk_T cI cL) s A H locs (wd_M cI cL g fl rn fs lt kk mk mf ml ma il sz tt fh hd) → lv_has ls 5 [(0, .ref (g 0)), (1, .int x1), (2, .int x2), (3, .int x3), (4, .int x4)] → W p l e rm_mClassOf s m [.ref (g 0), .int x1].toArray below meth c H locs 0 0 Q (F0 m 13 ls []) := by
    intro n
    induction n with
    | zero => intro x2 x3 x4 H locs ls z_x4 v_x4 hm f13_0 heq hW hl; exfalso; omega
    | succ n ih =>
      intro x2 x3 x4 H locs ls z_x4 v_x4 hm f13_0 heq hW hl
      rw [mm_mClassOf_13] at heq
      refine lv_iload hx hb d_mClassOf_13 (lv_at hl 4 rfl) ?_
      refine lv_aload_n hx hb d_mClassOf_15 rfl (lv_at hl 0 rfl) ?_
      refine va_get (D := D) (C := R_M) (T := F_M) (N := 14) hx hb hts i_M hown hW.1 hW.2.1 0 rfl rfl 1 (by decide) (hts _ w_120) (fun _ h9 => h9) rfl d_mClassOf_16 ?_
      refine lv_icmp_ge (tgt := 62) hx hb d_mClassOf_19 (by decide) (fun c_1 => ?_) (fun c_1 => ?_)
      · rw [if_pos c_1] at heq
        have ic_1 := gk_le v_rn v_x4 c_1
        refine lv_iload_n hx hb d_mClassOf_62 rfl (lv_at hl 3 rfl) ?_
        refine lv_bipush (v := 42) hx hb d_mClassOf_63 (by decide) ?_
        refine lv_icmp_ne (tgt := 71) hx hb d_mClassOf_65 (by decide) (fun c_2 => ?_) (fun c_2 => ?_)
        · rw [if_neg c_2] at heq
          refine lv_iload_n hx hb d_mClassOf_71 rfl (lv_at hl 3 rfl) ?_
          refine lv_bipush (v := 43) hx hb d_mClassOf_72 (by decide) ?_
          refine lv_icmp_ne (tgt := 92) hx hb d_mClassOf_74 (by decide) (fun c_3 => ?_) (fun c_3 => ?_)
          · rw [if_neg c_3] at heq
            refine lv_iload_n hx hb d_mClassOf_92 rfl (lv_at hl 3 rfl) ?_
            refine lv_bipush (v := 38) hx hb d_mClassOf_93 (by decide) ?_
            refine lv_icmp_lt (tgt := 103) hx hb d_mClassOf_95 (by decide) (fun c_4 => ?_) (fun c_4 => ?_)
            · rw [if_pos c_4] at heq
              refine lv_iload_n hx hb d_mClassOf_103 rfl (lv_at hl 3 rfl) ?_
              exact X _ () H locs 0 0 104 ls heq hW d_mClassOf_104 rfl (Nat.le_of_ble_eq_true rfl) (Nat.le_of_ble_eq_true rfl)
            · rw [if_neg c_4] at heq
              refine lv_bipush (v := 27) hx hb d_mClassOf_98 (by decide) ?_
              refine lv_goto (tgt := 104) hx hb d_mClassOf_100 (by decide) ?_
              exact X _ () H locs 0 0 104 ls heq hW d_mClassOf_104 rfl (Nat.le_of_ble_eq_true rfl) (Nat.le_of_ble_eq_true rfl)
          · rw [if_pos c_3] at heq
            refine lv_aload_n hx hb d_mClassOf_77 rfl (lv_at hl 0 rfl) ?_
            refine va_get (D := D) (C := R_M) (T := F_M) (N := 14) hx hb hts i_M hown hW.1 hW.2.1 0 rfl rfl 9 (by decide) (hts _ w_112) (fun _ h9 => h9) rfl d_mClassOf_78 ?_
            refine lv_if_eq (tgt := 89) hx hb d_mClassOf_81 (by decide) (fun c_5 => ?_) (fun c_5 => ?_)
            · rw [if_pos c_5] at heq
              refine lv_bipush (v := 19) hx hb d_mClassOf_89 (by decide) ?_
              exact X _ () H locs 0 0 91 ls heq hW d_mClassOf_91 rfl (Nat.le_of_ble_eq_true rfl) (Nat.le_of_ble_eq_true rfl)
            · rw [if_neg c_5] at heq
              refine lv_bipush (v := 29) hx hb d_mClassOf_84 (by decide) ?_
              refine lv_goto (tgt := 91) hx hb d_mClassOf_86 (by decide) ?_
              exact X _ () H locs 0 0 91 ls heq hW d_mClassOf_91 rfl (Nat.le_of_ble_eq_true rfl) (Nat.le_of_ble_eq_true rfl)
        · rw [if_pos c_2] at heq
          refine lv_bipush (v := 8) hx hb d_mClassOf_68 (by decide) ?_
          exact X _ () H locs 0 0 70 ls heq hW d_mClassOf_70 rfl (Nat.le_of_ble_eq_true rfl) (Nat.le_of_ble_eq_true rfl)
      · rw [if_neg c_1] at heq
        have ic_1 := gk_nle v_rn v_x4 c_1
        refine lv_aload_n hx hb d_mClassOf_22 rfl (lv_at hl 0 rfl) ?_
        refine va_get (D := D) (C := R_M) (T := F_M) (N := 14) hx hb hts i_M hown hW.1 hW.2.1 0 rfl rfl 2 (by decide) (hts _ w_121) (fun _ h9 => h9) rfl d_mClassOf_23 ?_
        refine lv_iload hx hb d_mClassOf_26 (lv_at hl 4 rfl) ?_
        refine va_iald hx hb hW.1 hW.2.1 1 0 rfl rfl (i := x4) (gk_in v_x4 (by omega) (by omega)) d_mClassOf_28 ?_
        refine lv_iload_n hx hb d_mClassOf_29 rfl (lv_at hl 2 rfl) ?_
        refine lv_icmp_gt (tgt := 54) hx hb d_mClassOf_30 (by decide) (fun c_6 => ?_) (fun c_6 => ?_)
        · rw [if_pos c_6] at heq
          refine lv_iload_n hx hb d_mClassOf_54 rfl (lv_at hl 3 rfl) ?_
          refine lv_istore_n (lv' := [(3, .int x3), (0, .ref (g 0)), (1, .int x1), (2, .int x2), (4, .int x4)]) hx hb d_mClassOf_55 rfl hl (by decide) rfl (fun ls hl => ?_)
          refine lv_iinc (v := x4 + 1) (lv' := [(4, .int (x4 + 1)), (3, .int x3), (0, .ref (g 0)), (1, .int x1), (2, .int x2)]) hx hb d_mClassOf_56 hl (k := 4) rfl rfl (by decide) rfl (fun ls hl => ?_)
          obtain ⟨zt_7, vt_7, et_7⟩ := gk_add v_x4 (show gk_v 1 1 from rfl) (by omega) (by omega)
          refine lv_goto (tgt := 13) hx hb d_mClassOf_59 (by decide) ?_
          exact ih x2 x3 (x4 + 1) H locs ls zt_7 vt_7 (by omega) (by omega) heq hW (lv_sub hl [2, 3, 4, 1, 0] rfl)
        · rw [if_neg c_6] at heq
          refine lv_iload_n hx hb d_mClassOf_33 rfl (lv_at hl 2 rfl) ?_
          refine lv_aload_n hx hb d_mClassOf_34 rfl (lv_at hl 0 rfl) ?_
          refine va_get (D := D) (C := R_M) (T := F_M) (N := 14) hx hb hts i_M hown hW.1 hW.2.1 0 rfl rfl 3 (by decide) (hts _ w_122) (fun _ h9 => h9) rfl d_mClassOf_35 ?_
          refine lv_iload hx hb d_mClassOf_38 (lv_at hl 4 rfl) ?_
          refine va_iald hx hb hW.1 hW.2.1 2 0 rfl rfl (i := x4) (gk_in v_x4 (by omega) (by omega)) d_mClassOf_40 ?_
          refine lv_icmp_gt (tgt := 54) hx hb d_mClassOf_41 (by decide) (fun c_8 => ?_) (fun c_8 => ?_)
          · rw [if_pos c_8] at heq
            refine lv_iload_n hx hb d_mClassOf_54 rfl (lv_at hl 3 rfl) ?_
            refine lv_istore_n (lv' := [(3, .int x3), (0, .ref (g 0)), (1, .int x1), (2, .int x2), (4, .int x4)]) hx hb d_mClassOf_55 rfl hl (by decide) rfl (fun ls hl => ?_)
            refine lv_iinc (v := x4 + 1) (lv' := [(4, .int (x4 + 1)), (3, .int x3), (0, .ref (g 0)), (1, .int x1), (2, .int x2)]) hx hb d_mClassOf_56 hl (k := 4) rfl rfl (by decide) rfl (fun ls hl => ?_)
            obtain ⟨zt_9, vt_9, et_9⟩ := gk_add v_x4 (show gk_v 1 1 from rfl) (by omega) (by omega)
            refine lv_goto (tgt := 13) hx hb d_mClassOf_59 (by decide) ?_
            exact ih x2 x3 (x4 + 1) H locs ls zt_9 vt_9 (by omega) (by omega) heq hW (lv_sub hl [2, 3, 4, 1, 0] rfl)
          · rw [if_neg c_8] at heq
            refine lv_aload_n hx hb d_mClassOf_44 rfl (lv_at hl 0 rfl) ?_
            refine va_get (D := D) (C := R_M) (T := F_M) (N := 14) hx hb hts i_M hown hW.1 hW.2.1 0 rfl rfl 4 (by decide) (hts _ w_123) (fun _ h9 => h9) rfl d_mClassOf_45 ?_
            refine lv_iload hx hb d_mClassOf_48 (lv_at hl 4 rfl) ?_
            refine va_iald hx hb hW.1 hW.2.1 3 0 rfl rfl (i := x4) (gk_in v_x4 (by omega) (by omega)) d_mClassOf_50 ?_
            refine lv_goto (tgt := 55) hx hb d_mClassOf_51 (by decide) ?_
            refine lv_istore_n (lv' := [(3, .int (kk x4.toNatClampNeg)), (0, .ref (g 0)), (1, .int x1), (2, .int x2), (4, .int x4)]) hx hb d_mClassOf_55 rfl hl (by decide) rfl (fun ls hl => ?_)
            refine lv_iinc (v := x4 + 1) (lv' := [(4, .int (x4 + 1)), (3, .int (kk x4.toNatClampNeg)), (0, .ref (g 0)), (1, .int x1), (2, .int x2)]) hx hb d_mClassOf_56 hl (k := 4) rfl rfl (by decide) rfl (fun ls hl => ?_)
            obtain ⟨zt_10, vt_10, et_10⟩ := gk_add v_x4 (show gk_v 1 1 from rfl) (by omega) (by omega)
            refine lv_goto (tgt := 13) hx hb d_mClassOf_59 (by decide) ?_
            exact ih x2 (kk x4.toNatClampNeg) (x4 + 1) H locs ls zt_10 vt_10 (by omega) (by omega) heq hW (lv_sub hl [2, 3, 4, 1, 0] rfl)
  refine lv_aload_n hx hb d_mClassOf_0 rfl (lv_at hl 0 rfl) ?_
  refine va_get (D := D) (C := R_M) (T := F_M) (N := 14) hx hb hts i_M hown hW.1 hW.2.1 0 rfl rfl 11 (by decide) (hts _ w_133) (fun _ h9 => h9) rfl d_mClassOf_1 ?_
  refine lv_iload_n hx hb d_mClassOf_4 rfl (lv_at hl 1 rfl) ?_
  refine va_iald hx hb hW.1 hW.2.1 8 0 rfl rfl (i := x1) (gk_in v_x1 (by omega) (by omega)) d_mClassOf_5 ?_
  refine lv_istore_n (lv' := [(2, .int (tt x1.toNatClampNeg)), (0, .ref (g 0)), (1, .int x1)]) hx hb d_mClassOf_6 rfl hl (by decide) rfl (fun ls hl => ?_)
  refine lv_bipush (v := 40) hx hb d_mClassOf_7 (by decide) ?_
  refine lv_istore_n (lv' := [(3, .int 40), (2, .int (tt x1.toNatClampNeg)), (0, .ref (g 0)), (1, .int x1)]) hx hb d_mClassOf_9 rfl hl (by decide) rfl (fun ls hl => ?_)
  refine lv_iconst (v := 0) hx hb d_mClassOf_10 (by decide) ?_
  refine lv_istore (lv' := [(4, .int 0), (3, .int 40), (2, .int (tt x1.toNatClampNeg)), (0, .ref (g 0)), (1, .int x1)]) hx hb d_mClassOf_11 hl (by decide) rfl (fun ls hl => ?_)
  exact L13 101 (tt x1.toNatClampNeg) 40 0 H locs ls 0 (show gk_v 0 0 from rfl) (by omega) (by omega) heq hW (lv_sub hl [3, 4, 2, 1, 0] rfl)
def mm_mIsMarked_16 (x1 x2 : Int32) (mk mf ml ma tt : Nat → Int32) : Nat → Int32 → Int32 → Int32 → Int32
  | 0, x3, x4, x5 => 0
  | n + 1, x3, x4, x5 => if ((40 * x2) + (mk x2.toNatClampNeg)) ≤ x5 then x4 else (if x3 < (mf x5.toNatClampNeg) then (mm_mIsMarked_16 x1 x2 mk mf ml ma tt n x3 x4 (x5 + 1)) else (if (ml x5.toNatClampNeg) < x3 then (mm_mIsMarked_16 x1 x2 mk mf ml ma tt n x3 x4 (x5 + 1)) else (mm_mIsMarked_16 x1 x2 mk mf ml ma tt n x3 (ma x5.toNatClampNeg) (x5 + 1))))
def mm_mIsMarked (x1 x2 : Int32) (mk mf ml ma tt : Nat → Int32) : Int32 := mm_mIsMarked_16 x1 x2 mk mf ml ma tt 101 (tt x1.toNatClampNeg) 0 (40 * x2)
def rm_mIsMarked : Room := { frames := 0, cells := 0, slots := 0, locals := 0 }
set_option maxHeartbeats 4000000 in
set_option maxRecDepth 100000 in
theorem c_mIsMarked (l : Launch) (D : va_G) (cI : ClassId) (cL cL : ClassId × ClassId) (g : Nat → Nat) (fl rn : Int32) (fs lt kk mk mf ml ma : Nat → Int32) (il sz : Int32) (tt fh : Nat → Int32) (hd x1 x2 : Int32) (z_x1 : Int) (v_x1 : gk_v x1 z_x1) (z_x2 : Int) (v_x2 : gk_v x2 z_x2) (hx1 : 0 ≤ z_x1 ∧ z_x1 < 2000) (hx2 : 0 ≤ z_x2 ∧ z_x2 ≤ 1) (hmk : ∀ i : Nat, i < 2 → ∃ z : Int, gk_v (mk i) z ∧ 0 ≤ z ∧ z ≤ 40) (hma : ∀ i : Nat, ma i = 0 ∨ ma i = 1) : gk_I l y_mIsMarked (.code y_mIsMarked b_mIsMarked 6 (some .boolean) :: wA) rm_mIsMarked D vwCl (gk_T cI cL) [.ref (g 0), .int x1, .int x2] (wd_M cI cL g fl rn fs lt kk mk mf ml ma il sz tt fh hd) (fun (r : Int32) (_ : Unit) => r = mm_mIsMarked x1 x2 mk mf ml ma tt) (fun (_ : Unit) => (wd_M cI cL g fl rn fs lt kk mk mf ml ma il sz tt fh hd)) 0 0 := by
  refine gk_I.of (by decide) (Nat.le_of_ble_eq_true rfl) ?_
  intro p e s m below meth c A ls Q H locs hx hb hml hown hts hW hl X
  have hl : lv_has ls 6 [(0, .ref (g 0)), (1, .int x1), (2, .int x2)] := hl
  obtain ⟨tgt, heq⟩ : ∃ t, mm_mIsMarked x1 x2 mk mf ml ma tt = t := ⟨_, rfl⟩
  rw [heq] at X
  rw [mm_mIsMarked] at heq
  have L16 : ∀ (n : Nat) (x3 x4 x5 : Int32) (H : Heap) (locs : List Loc) (ls : Array Slot), ∀ (z_x5 : Int), gk_v x5 z_x5 → (80 - z_x5) < (n : Int) → 40 * z_x2 ≤ z_x5 ∧ z_x5 ≤ 80 → x4 = 0 ∨ x4 = 1 → mm_mIsMarked_16 x1 x2 mk mf ml ma tt n x3 x4 x5 = tgt → gk_W D vwCl (gk_T cI cL) s A H locs (wd_M cI cL g fl rn fs lt kk mk mf ml ma il sz tt fh hd) → lv_has ls 6 [(0, .ref (g 0)), (1, .int x1), (2, .int x2), (3, .int x3), (4, .int x4), (5, .int x5)] → W p l e rm_mIsMarked s m [.ref (g 0), .int x1, .int x2].toArray below meth c H locs 0 0 Q (F0 m 16 ls []) := by
    intro n
    induction n with
    | zero => intro x3 x4 x5 H locs ls z_x5 v_x5 hm f16_0 f16_1 heq hW hl; exfalso; omega
    | succ n ih =>
      intro x3 x4 x5 H locs ls z_x5 v_x5 hm f16_0 f16_1 heq hW hl
      rw [mm_mIsMarked_16] at heq
      refine lv_iload hx hb d_mIsMarked_16 (lv_at hl 5 rfl) ?_
      refine lv_bipush (v := 40) hx hb d_mIsMarked_18 (by decide) ?_
      refine lv_iload_n hx hb d_mIsMarked_20 rfl (lv_at hl 2 rfl) ?_
      refine lv_imul hx hb d_mIsMarked_21 ?_
      obtain ⟨zt_1, vt_1, et_1⟩ := gk_mul (show gk_v 40 40 from rfl) v_x2 (by omega) (by omega)
      refine lv_aload_n hx hb d_mIsMarked_22 rfl (lv_at hl 0 rfl) ?_
      refine va_get (D := D) (C := R_M) (T := F_M) (N := 14) hx hb hts i_M hown hW.1 hW.2.1 0 rfl rfl 5 (by decide) (hts _ w_134) (fun _ h9 => h9) rfl d_mIsMarked_23 ?_
      refine lv_iload_n hx hb d_mIsMarked_26 rfl (lv_at hl 2 rfl) ?_
      refine va_iald hx hb hW.1 hW.2.1 4 0 rfl rfl (i := x2) (gk_in v_x2 (by omega) (by omega)) d_mIsMarked_27 ?_
      obtain ⟨zm, vm, hm9⟩ := hmk x2.toNatClampNeg (by have e9 := gn_cl (x := x2) (by rw [show x2.toInt = z_x2 from v_x2]; omega); rw [show x2.toInt = z_x2 from v_x2] at e9; omega)
      refine lv_iadd hx hb d_mIsMarked_28 ?_
      obtain ⟨zt_2, vt_2, et_2⟩ := gk_add vt_1 vm (by omega) (by omega)
      refine lv_icmp_ge (tgt := 74) hx hb d_mIsMarked_29 (by decide) (fun c_3 => ?_) (fun c_3 => ?_)
      · rw [if_pos c_3] at heq
        have ic_3 := gk_le vt_2 v_x5 c_3
        refine lv_iload hx hb d_mIsMarked_74 (lv_at hl 4 rfl) ?_
        exact X _ () H locs 0 0 76 ls heq hW d_mIsMarked_76 (gz_n f16_1) (Nat.le_of_ble_eq_true rfl) (Nat.le_of_ble_eq_true rfl)
      · rw [if_neg c_3] at heq
        have ic_3 := gk_nle vt_2 v_x5 c_3
        refine lv_aload_n hx hb d_mIsMarked_32 rfl (lv_at hl 0 rfl) ?_
        refine va_get (D := D) (C := R_M) (T := F_M) (N := 14) hx hb hts i_M hown hW.1 hW.2.1 0 rfl rfl 6 (by decide) (hts _ w_135) (fun _ h9 => h9) rfl d_mIsMarked_33 ?_
        refine lv_iload hx hb d_mIsMarked_36 (lv_at hl 5 rfl) ?_
        refine va_iald hx hb hW.1 hW.2.1 5 0 rfl rfl (i := x5) (gk_in v_x5 (by omega) (by omega)) d_mIsMarked_38 ?_
        refine lv_iload_n hx hb d_mIsMarked_39 rfl (lv_at hl 3 rfl) ?_
        refine lv_icmp_gt (tgt := 64) hx hb d_mIsMarked_40 (by decide) (fun c_4 => ?_) (fun c_4 => ?_)
        · rw [if_pos c_4] at heq
          refine lv_iload hx hb d_mIsMarked_64 (lv_at hl 4 rfl) ?_
          refine lv_istore (lv' := [(4, .int x4), (0, .ref (g 0)), (1, .int x1), (2, .int x2), (3, .int x3), (5, .int x5)]) hx hb d_mIsMarked_66 hl (by decide) rfl (fun ls hl => ?_)
          refine lv_iinc (v := x5 + 1) (lv' := [(5, .int (x5 + 1)), (4, .int x4), (0, .ref (g 0)), (1, .int x1), (2, .int x2), (3, .int x3)]) hx hb d_mIsMarked_68 hl (k := 5) rfl rfl (by decide) rfl (fun ls hl => ?_)
          obtain ⟨zt_5, vt_5, et_5⟩ := gk_add v_x5 (show gk_v 1 1 from rfl) (by omega) (by omega)
          refine lv_goto (tgt := 16) hx hb d_mIsMarked_71 (by decide) ?_
          exact ih x3 x4 (x5 + 1) H locs ls zt_5 vt_5 (by omega) (by omega) f16_1 heq hW (lv_sub hl [2, 3, 4, 5, 1, 0] rfl)
        · rw [if_neg c_4] at heq
          refine lv_iload_n hx hb d_mIsMarked_43 rfl (lv_at hl 3 rfl) ?_
          refine lv_aload_n hx hb d_mIsMarked_44 rfl (lv_at hl 0 rfl) ?_
          refine va_get (D := D) (C := R_M) (T := F_M) (N := 14) hx hb hts i_M hown hW.1 hW.2.1 0 rfl rfl 7 (by decide) (hts _ w_136) (fun _ h9 => h9) rfl d_mIsMarked_45 ?_
          refine lv_iload hx hb d_mIsMarked_48 (lv_at hl 5 rfl) ?_
          refine va_iald hx hb hW.1 hW.2.1 6 0 rfl rfl (i := x5) (gk_in v_x5 (by omega) (by omega)) d_mIsMarked_50 ?_
          refine lv_icmp_gt (tgt := 64) hx hb d_mIsMarked_51 (by decide) (fun c_6 => ?_) (fun c_6 => ?_)
          · rw [if_pos c_6] at heq
            refine lv_iload hx hb d_mIsMarked_64 (lv_at hl 4 rfl) ?_
            refine lv_istore (lv' := [(4, .int x4), (0, .ref (g 0)), (1, .int x1), (2, .int x2), (3, .int x3), (5, .int x5)]) hx hb d_mIsMarked_66 hl (by decide) rfl (fun ls hl => ?_)
            refine lv_iinc (v := x5 + 1) (lv' := [(5, .int (x5 + 1)), (4, .int x4), (0, .ref (g 0)), (1, .int x1), (2, .int x2), (3, .int x3)]) hx hb d_mIsMarked_68 hl (k := 5) rfl rfl (by decide) rfl (fun ls hl => ?_)
            obtain ⟨zt_7, vt_7, et_7⟩ := gk_add v_x5 (show gk_v 1 1 from rfl) (by omega) (by omega)
            refine lv_goto (tgt := 16) hx hb d_mIsMarked_71 (by decide) ?_
            exact ih x3 x4 (x5 + 1) H locs ls zt_7 vt_7 (by omega) (by omega) f16_1 heq hW (lv_sub hl [2, 3, 4, 5, 1, 0] rfl)
          · rw [if_neg c_6] at heq
            refine lv_aload_n hx hb d_mIsMarked_54 rfl (lv_at hl 0 rfl) ?_
            refine va_get (D := D) (C := R_M) (T := F_M) (N := 14) hx hb hts i_M hown hW.1 hW.2.1 0 rfl rfl 8 (by decide) (hts _ w_137) (fun _ h9 => h9) rfl d_mIsMarked_55 ?_
            refine lv_iload hx hb d_mIsMarked_58 (lv_at hl 5 rfl) ?_
            refine va_zald hx hb hW.1 hW.2.1 7 2 rfl rfl (i := x5) (gk_in v_x5 (by omega) (by omega)) d_mIsMarked_60 ?_
            refine lv_goto (tgt := 66) hx hb d_mIsMarked_61 (by decide) ?_
            refine lv_istore (lv' := [(4, .int (ma x5.toNatClampNeg)), (0, .ref (g 0)), (1, .int x1), (2, .int x2), (3, .int x3), (5, .int x5)]) hx hb d_mIsMarked_66 hl (by decide) rfl (fun ls hl => ?_)
            refine lv_iinc (v := x5 + 1) (lv' := [(5, .int (x5 + 1)), (4, .int (ma x5.toNatClampNeg)), (0, .ref (g 0)), (1, .int x1), (2, .int x2), (3, .int x3)]) hx hb d_mIsMarked_68 hl (k := 5) rfl rfl (by decide) rfl (fun ls hl => ?_)
            obtain ⟨zt_8, vt_8, et_8⟩ := gk_add v_x5 (show gk_v 1 1 from rfl) (by omega) (by omega)
            refine lv_goto (tgt := 16) hx hb d_mIsMarked_71 (by decide) ?_
            exact ih x3 (ma x5.toNatClampNeg) (x5 + 1) H locs ls zt_8 vt_8 (by omega) (by omega) (hma _) heq hW (lv_sub hl [2, 3, 4, 5, 1, 0] rfl)
  refine lv_aload_n hx hb d_mIsMarked_0 rfl (lv_at hl 0 rfl) ?_
  refine va_get (D := D) (C := R_M) (T := F_M) (N := 14) hx hb hts i_M hown hW.1 hW.2.1 0 rfl rfl 11 (by decide) (hts _ w_133) (fun _ h9 => h9) rfl d_mIsMarked_1 ?_
  refine lv_iload_n hx hb d_mIsMarked_4 rfl (lv_at hl 1 rfl) ?_
  refine va_iald hx hb hW.1 hW.2.1 8 0 rfl rfl (i := x1) (gk_in v_x1 (by omega) (by omega)) d_mIsMarked_5 ?_
  refine lv_istore_n (lv' := [(3, .int (tt x1.toNatClampNeg)), (0, .ref (g 0)), (1, .int x1), (2, .int x2)]) hx hb d_mIsMarked_6 rfl hl (by decide) rfl (fun ls hl => ?_)
  refine lv_iconst (v := 0) hx hb d_mIsMarked_7 (by decide) ?_
  refine lv_istore (lv' := [(4, .int 0), (3, .int (tt x1.toNatClampNeg)), (0, .ref (g 0)), (1, .int x1), (2, .int x2)]) hx hb d_mIsMarked_8 hl (by decide) rfl (fun ls hl => ?_)
  refine lv_bipush (v := 40) hx hb d_mIsMarked_10 (by decide) ?_
  refine lv_iload_n hx hb d_mIsMarked_12 rfl (lv_at hl 4 rfl) ?_
  refine lv_imul hx hb d_mIsMarked_13 ?_
  obtain ⟨zt_9, vt_9, et_9⟩ := gk_mul (show gk_v 40 40 from rfl) v_x2 (by omega) (by omega)
  refine lv_istore (lv' := [(5, .int (40 * x2)), (4, .int 0), (3, .int (tt x1.toNatClampNeg)), (0, .ref (g 0)), (1, .int x1), (2, .int x2)]) hx hb d_mIsMarked_14 hl (by decide) rfl (fun ls hl => ?_)
  exact L16 101 (tt x1.toNatClampNeg) 0 (40 * x2) H locs ls zt_9 vt_9 (by omega) (by omega) (Or.inl rfl) heq hW (lv_sub hl [3, 4, 5, 2, 1, 0] rfl)
def mm_mMark (x1 x2 x3 x4 fl : Int32) (mk mf ml ma : Nat → Int32) : Int32 × (Nat → Int32) × (Nat → Int32) × (Nat → Int32) × (Nat → Int32) := if (mm_mIsChar x1) = 0 then (1, mk, mf, ml, ma) else (if (mm_mIsChar x2) = 0 then (1, mk, mf, ml, ma) else (if x2 < x1 then (1, mk, mf, ml, ma) else (if x3 = 0 then (if (mk x3.toNatClampNeg) = 40 then (2, mk, mf, ml, ma) else (0, upd mk x3.toNatClampNeg ((mk x3.toNatClampNeg) + 1), upd mf ((40 * x3) + (mk x3.toNatClampNeg)).toNatClampNeg x1, upd ml ((40 * x3) + (mk x3.toNatClampNeg)).toNatClampNeg x2, upd ma ((40 * x3) + (mk x3.toNatClampNeg)).toNatClampNeg (vp_nar .boolean x4))) else (if x3 = 1 then (if (mk x3.toNatClampNeg) = 40 then (2, mk, mf, ml, ma) else (0, upd mk x3.toNatClampNeg ((mk x3.toNatClampNeg) + 1), upd mf ((40 * x3) + (mk x3.toNatClampNeg)).toNatClampNeg x1, upd ml ((40 * x3) + (mk x3.toNatClampNeg)).toNatClampNeg x2, upd ma ((40 * x3) + (mk x3.toNatClampNeg)).toNatClampNeg (vp_nar .boolean x4))) else (1, mk, mf, ml, ma)))))
def rm_mMark : Room := { frames := 1, cells := 0, slots := 0, locals := 21 }
set_option maxHeartbeats 4000000 in
set_option maxRecDepth 100000 in
theorem c_mMark (l : Launch) (D : va_G) (cI : ClassId) (cL cL : ClassId × ClassId) (g : Nat → Nat) (fl rn : Int32) (fs lt kk mk mf ml ma : Nat → Int32) (il sz : Int32) (tt fh : Nat → Int32) (hd x1 x2 x3 x4 : Int32) (hmk : ∀ i : Nat, i < 2 → ∃ z : Int, gk_v (mk i) z ∧ 0 ≤ z ∧ z ≤ 40) (hx4 : x4 = 0 ∨ x4 = 1) : gk_V l y_mMark (.code y_mMark b_mMark 7 none :: wA) rm_mMark D vwCl (gk_T cI cL) [.ref (g 0), .int x1, .int x2, .int x3, .int x4] (wd_M cI cL g fl rn fs lt kk mk mf ml ma il sz tt fh hd) (fun (u : Int32 × (Nat → Int32) × (Nat → Int32) × (Nat → Int32) × (Nat → Int32)) => u = mm_mMark x1 x2 x3 x4 fl mk mf ml ma) (fun u => (wd_M cI cL g u.1 rn fs lt kk u.2.1 u.2.2.1 u.2.2.2.1 u.2.2.2.2 il sz tt fh hd)) 0 0 := by
  refine gk_V.of (by decide) (Nat.le_of_ble_eq_true rfl) ?_
  intro p e s m below meth c A ls Q H locs hx hb hml hown hts hin hW hl X
  have hl : lv_has ls 7 [(0, .ref (g 0)), (1, .int x1), (2, .int x2), (3, .int x3), (4, .int x4)] := hl
  obtain ⟨tgt, heq⟩ : ∃ t, mm_mMark x1 x2 x3 x4 fl mk mf ml ma = t := ⟨_, rfl⟩
  rw [heq] at X
  rw [mm_mMark] at heq
  obtain ⟨z_x1, v_x1⟩ := gk_vex x1
  obtain ⟨z_x2, v_x2⟩ := gk_vex x2
  obtain ⟨z_x3, v_x3⟩ := gk_vex x3
  obtain ⟨z_x4, v_x4⟩ := gk_vex x4
  refine lv_iload_n hx hb d_mMark_0 rfl (lv_at hl 1 rfl) ?_
  refine gk_goR hW [] rfl (va_runS (As := [.int x1]) (rest := []) ⟨hx, hb, hml, hown, hts⟩ (c_mIsChar l D cI cL x1 _) (gk_cwS hts w_114 w_115 w_116 k_mIsChar rfl e_mIsChar rfl rfl ⟨Nat.le_of_ble_eq_true rfl, Nat.le_of_ble_eq_true rfl⟩) (gk_pre hW [] rfl rfl) rfl rfl hl.1 rfl (lv_room (Nat.le_of_ble_eq_true rfl)) d_mMark_1 ⟨Nat.le_of_ble_eq_true rfl, Nat.le_of_ble_eq_true rfl⟩) (fun H locs hW => ?_)
  refine lv_if_eq (tgt := 32) hx hb d_mMark_4 (by decide) (fun c_1 => ?_) (fun c_1 => ?_)
  · rw [if_pos c_1] at heq
    refine lv_iconst (v := 0) hx hb d_mMark_32 (by decide) ?_
    refine lv_istore (lv' := [(5, .int 0), (0, .ref (g 0)), (1, .int x1), (2, .int x2), (3, .int x3), (4, .int x4)]) hx hb d_mMark_33 hl (by decide) rfl (fun ls hl => ?_)
    refine lv_aload_n hx hb d_mMark_35 rfl (lv_at hl 1 rfl) ?_
    refine lv_iload hx hb d_mMark_36 (lv_at hl 0 rfl) ?_
    refine lv_if_ne (tgt := 45) hx hb d_mMark_38 (by decide) (fun c_2 => absurd c_2 (by decide)) (fun _ => ?_)
    refine lv_iconst (v := 1) hx hb d_mMark_41 (by decide) ?_
    refine lv_goto (tgt := 61) hx hb d_mMark_42 (by decide) ?_
    refine gk_goI (wr := []) hW [0, 1, 2, 3, 4, 5, 6, 7, 8, 9] [] rfl rfl (by decide) (by decide) (va_runV (As := [.int 1]) (rest := []) ⟨hx, hb, hml, hown, hts⟩ (c_mRefused l D cI cL cL g fl rn fs lt kk mk mf ml ma il sz tt fh hd 1 _) (gk_cwV hts w_117 w_118 w_119 w_116 k_mRefused rfl e_mRefused rfl rfl ⟨Nat.le_of_ble_eq_true rfl, Nat.le_of_ble_eq_true rfl⟩) (gk_preV hW [0, 1, 2, 3, 4, 5, 6, 7, 8, 9] rfl rfl rfl rfl) rfl rfl hl.1 rfl (lv_room (Nat.le_of_ble_eq_true rfl)) d_mMark_61 ⟨Nat.le_of_ble_eq_true rfl, Nat.le_of_ble_eq_true rfl⟩) (fun r_3 u H locs p_5 hW => ?_)
    obtain ⟨rfl, rfl⟩ : r_3 = 1 ∧ u = 1 := Prod.mk.inj (p_5.trans (show (mm_mRefused 1 fl) = (1, 1) from rfl))
    have hW : gk_W D vwCl (gk_T cI cL) s A H locs (wd_M cI cL g 1 rn fs lt kk mk mf ml ma il sz tt fh hd) := hW.re [0, 1, 2, 3, 4, 5, 6, 7, 8, 9] (by decide) rfl
    refine lv_if_eq (tgt := 68) hx hb d_mMark_64 (by decide) (fun c_6 => absurd c_6 (by decide)) (fun _ => ?_)
    exact X (1, mk, mf, ml, ma) H locs 0 0 67 ls heq hW d_mMark_67 (Nat.le_of_ble_eq_true rfl) (Nat.le_of_ble_eq_true rfl)
  · rw [if_neg c_1] at heq
    refine lv_iload_n hx hb d_mMark_7 rfl (lv_at hl 2 rfl) ?_
    refine gk_goR hW [] rfl (va_runS (As := [.int x2]) (rest := []) ⟨hx, hb, hml, hown, hts⟩ (c_mIsChar l D cI cL x2 _) (gk_cwS hts w_114 w_115 w_116 k_mIsChar rfl e_mIsChar rfl rfl ⟨Nat.le_of_ble_eq_true rfl, Nat.le_of_ble_eq_true rfl⟩) (gk_pre hW [] rfl rfl) rfl rfl hl.1 rfl (lv_room (Nat.le_of_ble_eq_true rfl)) d_mMark_8 ⟨Nat.le_of_ble_eq_true rfl, Nat.le_of_ble_eq_true rfl⟩) (fun H locs hW => ?_)
    refine lv_if_eq (tgt := 32) hx hb d_mMark_11 (by decide) (fun c_7 => ?_) (fun c_7 => ?_)
    · rw [if_pos c_7] at heq
      refine lv_iconst (v := 0) hx hb d_mMark_32 (by decide) ?_
      refine lv_istore (lv' := [(5, .int 0), (0, .ref (g 0)), (1, .int x1), (2, .int x2), (3, .int x3), (4, .int x4)]) hx hb d_mMark_33 hl (by decide) rfl (fun ls hl => ?_)
      refine lv_aload_n hx hb d_mMark_35 rfl (lv_at hl 1 rfl) ?_
      refine lv_iload hx hb d_mMark_36 (lv_at hl 0 rfl) ?_
      refine lv_if_ne (tgt := 45) hx hb d_mMark_38 (by decide) (fun c_8 => absurd c_8 (by decide)) (fun _ => ?_)
      refine lv_iconst (v := 1) hx hb d_mMark_41 (by decide) ?_
      refine lv_goto (tgt := 61) hx hb d_mMark_42 (by decide) ?_
      refine gk_goI (wr := []) hW [0, 1, 2, 3, 4, 5, 6, 7, 8, 9] [] rfl rfl (by decide) (by decide) (va_runV (As := [.int 1]) (rest := []) ⟨hx, hb, hml, hown, hts⟩ (c_mRefused l D cI cL cL g fl rn fs lt kk mk mf ml ma il sz tt fh hd 1 _) (gk_cwV hts w_117 w_118 w_119 w_116 k_mRefused rfl e_mRefused rfl rfl ⟨Nat.le_of_ble_eq_true rfl, Nat.le_of_ble_eq_true rfl⟩) (gk_preV hW [0, 1, 2, 3, 4, 5, 6, 7, 8, 9] rfl rfl rfl rfl) rfl rfl hl.1 rfl (lv_room (Nat.le_of_ble_eq_true rfl)) d_mMark_61 ⟨Nat.le_of_ble_eq_true rfl, Nat.le_of_ble_eq_true rfl⟩) (fun r_9 u H locs p_11 hW => ?_)
      obtain ⟨rfl, rfl⟩ : r_9 = 1 ∧ u = 1 := Prod.mk.inj (p_11.trans (show (mm_mRefused 1 fl) = (1, 1) from rfl))
      have hW : gk_W D vwCl (gk_T cI cL) s A H locs (wd_M cI cL g 1 rn fs lt kk mk mf ml ma il sz tt fh hd) := hW.re [0, 1, 2, 3, 4, 5, 6, 7, 8, 9] (by decide) rfl
      refine lv_if_eq (tgt := 68) hx hb d_mMark_64 (by decide) (fun c_12 => absurd c_12 (by decide)) (fun _ => ?_)
      exact X (1, mk, mf, ml, ma) H locs 0 0 67 ls heq hW d_mMark_67 (Nat.le_of_ble_eq_true rfl) (Nat.le_of_ble_eq_true rfl)
    · rw [if_neg c_7] at heq
      refine lv_iload_n hx hb d_mMark_14 rfl (lv_at hl 1 rfl) ?_
      refine lv_iload_n hx hb d_mMark_15 rfl (lv_at hl 2 rfl) ?_
      refine lv_icmp_gt (tgt := 32) hx hb d_mMark_16 (by decide) (fun c_13 => ?_) (fun c_13 => ?_)
      · rw [if_pos c_13] at heq
        have ic_13 := gk_lt v_x2 v_x1 c_13
        refine lv_iconst (v := 0) hx hb d_mMark_32 (by decide) ?_
        refine lv_istore (lv' := [(5, .int 0), (0, .ref (g 0)), (1, .int x1), (2, .int x2), (3, .int x3), (4, .int x4)]) hx hb d_mMark_33 hl (by decide) rfl (fun ls hl => ?_)
        refine lv_aload_n hx hb d_mMark_35 rfl (lv_at hl 1 rfl) ?_
        refine lv_iload hx hb d_mMark_36 (lv_at hl 0 rfl) ?_
        refine lv_if_ne (tgt := 45) hx hb d_mMark_38 (by decide) (fun c_14 => absurd c_14 (by decide)) (fun _ => ?_)
        refine lv_iconst (v := 1) hx hb d_mMark_41 (by decide) ?_
        refine lv_goto (tgt := 61) hx hb d_mMark_42 (by decide) ?_
        refine gk_goI (wr := []) hW [0, 1, 2, 3, 4, 5, 6, 7, 8, 9] [] rfl rfl (by decide) (by decide) (va_runV (As := [.int 1]) (rest := []) ⟨hx, hb, hml, hown, hts⟩ (c_mRefused l D cI cL cL g fl rn fs lt kk mk mf ml ma il sz tt fh hd 1 _) (gk_cwV hts w_117 w_118 w_119 w_116 k_mRefused rfl e_mRefused rfl rfl ⟨Nat.le_of_ble_eq_true rfl, Nat.le_of_ble_eq_true rfl⟩) (gk_preV hW [0, 1, 2, 3, 4, 5, 6, 7, 8, 9] rfl rfl rfl rfl) rfl rfl hl.1 rfl (lv_room (Nat.le_of_ble_eq_true rfl)) d_mMark_61 ⟨Nat.le_of_ble_eq_true rfl, Nat.le_of_ble_eq_true rfl⟩) (fun r_15 u H locs p_17 hW => ?_)
        obtain ⟨rfl, rfl⟩ : r_15 = 1 ∧ u = 1 := Prod.mk.inj (p_17.trans (show (mm_mRefused 1 fl) = (1, 1) from rfl))
        have hW : gk_W D vwCl (gk_T cI cL) s A H locs (wd_M cI cL g 1 rn fs lt kk mk mf ml ma il sz tt fh hd) := hW.re [0, 1, 2, 3, 4, 5, 6, 7, 8, 9] (by decide) rfl
        refine lv_if_eq (tgt := 68) hx hb d_mMark_64 (by decide) (fun c_18 => absurd c_18 (by decide)) (fun _ => ?_)
        exact X (1, mk, mf, ml, ma) H locs 0 0 67 ls heq hW d_mMark_67 (Nat.le_of_ble_eq_true rfl) (Nat.le_of_ble_eq_true rfl)
      · rw [if_neg c_13] at heq
        have ic_13 := gk_nlt v_x2 v_x1 c_13
        refine lv_iload_n hx hb d_mMark_19 rfl (lv_at hl 3 rfl) ?_
        refine lv_if_eq (tgt := 28) hx hb d_mMark_20 (by decide) (fun c_19 => ?_) (fun c_19 => ?_)
        · rw [if_pos c_19] at heq
          have ic_19 := gk_eq v_x3 (show gk_v 0 0 from rfl) c_19
          refine lv_iconst (v := 1) hx hb d_mMark_28 (by decide) ?_
          refine lv_goto (tgt := 33) hx hb d_mMark_29 (by decide) ?_
          refine lv_istore (lv' := [(5, .int 1), (0, .ref (g 0)), (1, .int x1), (2, .int x2), (3, .int x3), (4, .int x4)]) hx hb d_mMark_33 hl (by decide) rfl (fun ls hl => ?_)
          refine lv_aload_n hx hb d_mMark_35 rfl (lv_at hl 1 rfl) ?_
          refine lv_iload hx hb d_mMark_36 (lv_at hl 0 rfl) ?_
          refine lv_if_ne (tgt := 45) hx hb d_mMark_38 (by decide) (fun _ => ?_) (fun c_20 => absurd c_20 (by decide))
          refine lv_aload_n hx hb d_mMark_45 rfl (lv_at hl 1 rfl) ?_
          refine va_get (D := D) (C := R_M) (T := F_M) (N := 14) hx hb hts i_M hown hW.1 hW.2.1 0 rfl rfl 5 (by decide) (hts _ w_134) (fun _ h9 => h9) rfl d_mMark_46 ?_
          refine lv_iload_n hx hb d_mMark_49 rfl (lv_at hl 4 rfl) ?_
          refine va_iald hx hb hW.1 hW.2.1 4 0 rfl rfl (i := x3) (gk_in v_x3 (by omega) (by omega)) d_mMark_50 ?_
          obtain ⟨zm50, vm50, hm50⟩ := hmk x3.toNatClampNeg (by have e9 := gn_cl (x := x3) (by rw [show x3.toInt = z_x3 from v_x3]; omega); rw [show x3.toInt = z_x3 from v_x3] at e9; omega)
          refine lv_bipush (v := 40) hx hb d_mMark_51 (by decide) ?_
          refine lv_icmp_ne (tgt := 60) hx hb d_mMark_53 (by decide) (fun c_21 => ?_) (fun c_21 => ?_)
          · rw [if_neg c_21] at heq
            have ic_21 := gk_ne vm50 (show gk_v 40 40 from rfl) c_21
            refine lv_iconst (v := 0) hx hb d_mMark_60 (by decide) ?_
            refine gk_goI (wr := []) hW [0, 1, 2, 3, 4, 5, 6, 7, 8, 9] [] rfl rfl (by decide) (by decide) (va_runV (As := [.int 0]) (rest := []) ⟨hx, hb, hml, hown, hts⟩ (c_mRefused l D cI cL cL g fl rn fs lt kk mk mf ml ma il sz tt fh hd 0 _) (gk_cwV hts w_117 w_118 w_119 w_116 k_mRefused rfl e_mRefused rfl rfl ⟨Nat.le_of_ble_eq_true rfl, Nat.le_of_ble_eq_true rfl⟩) (gk_preV hW [0, 1, 2, 3, 4, 5, 6, 7, 8, 9] rfl rfl rfl rfl) rfl rfl hl.1 rfl (lv_room (Nat.le_of_ble_eq_true rfl)) d_mMark_61 ⟨Nat.le_of_ble_eq_true rfl, Nat.le_of_ble_eq_true rfl⟩) (fun r_22 u H locs p_24 hW => ?_)
            obtain ⟨rfl, rfl⟩ : r_22 = 0 ∧ u = 0 := Prod.mk.inj (p_24.trans (show (mm_mRefused 0 fl) = (0, 0) from rfl))
            have hW : gk_W D vwCl (gk_T cI cL) s A H locs (wd_M cI cL g 0 rn fs lt kk mk mf ml ma il sz tt fh hd) := hW.re [0, 1, 2, 3, 4, 5, 6, 7, 8, 9] (by decide) rfl
            refine lv_if_eq (tgt := 68) hx hb d_mMark_64 (by decide) (fun _ => ?_) (fun c_25 => absurd c_25 (by decide))
            refine lv_bipush (v := 40) hx hb d_mMark_68 (by decide) ?_
            refine lv_iload_n hx hb d_mMark_70 rfl (lv_at hl 4 rfl) ?_
            refine lv_imul hx hb d_mMark_71 ?_
            obtain ⟨zt_26, vt_26, et_26⟩ := gk_mul (show gk_v 40 40 from rfl) v_x3 (by omega) (by omega)
            refine lv_aload_n hx hb d_mMark_72 rfl (lv_at hl 1 rfl) ?_
            refine va_get (D := D) (C := R_M) (T := F_M) (N := 14) hx hb hts i_M hown hW.1 hW.2.1 0 rfl rfl 5 (by decide) (hts _ w_134) (fun _ h9 => h9) rfl d_mMark_73 ?_
            refine lv_iload_n hx hb d_mMark_76 rfl (lv_at hl 4 rfl) ?_
            refine va_iald hx hb hW.1 hW.2.1 4 0 rfl rfl (i := x3) (gk_in v_x3 (by omega) (by omega)) d_mMark_77 ?_
            refine lv_iadd hx hb d_mMark_78 ?_
            obtain ⟨zt_27, vt_27, et_27⟩ := gk_add vt_26 vm50 (by omega) (by omega)
            refine lv_istore (lv' := [(6, .int ((40 * x3) + (mk x3.toNatClampNeg))), (5, .int 1), (0, .ref (g 0)), (1, .int x1), (2, .int x2), (3, .int x3), (4, .int x4)]) hx hb d_mMark_79 hl (by decide) rfl (fun ls hl => ?_)
            refine lv_aload_n hx hb d_mMark_81 rfl (lv_at hl 2 rfl) ?_
            refine va_get (D := D) (C := R_M) (T := F_M) (N := 14) hx hb hts i_M hown hW.1 hW.2.1 0 rfl rfl 6 (by decide) (hts _ w_135) (fun _ h9 => h9) rfl d_mMark_82 ?_
            refine lv_iload hx hb d_mMark_85 (lv_at hl 0 rfl) ?_
            refine lv_iload_n hx hb d_mMark_87 rfl (lv_at hl 3 rfl) ?_
            refine va_iast hx hb hW.1 hW.2.1 hW.2.2.1 hW.2.2.2.1 5 0 rfl rfl (i := (40 * x3) + (mk x3.toNatClampNeg)) (x := x1) (gk_in vt_27 (by omega) (by omega)) d_mMark_88 (fun H locs hP hD hS => ?_)
            have hW : gk_W D vwCl (gk_T cI cL) s A H locs (wd_M cI cL g 0 rn fs lt kk mk (upd mf ((40 * x3) + (mk x3.toNatClampNeg)).toNatClampNeg x1) ml ma il sz tt fh hd) := ⟨hW.1, hP, hD, hS, hW.2.2.2.2⟩
            refine lv_aload_n hx hb d_mMark_89 rfl (lv_at hl 2 rfl) ?_
            refine va_get (D := D) (C := R_M) (T := F_M) (N := 14) hx hb hts i_M hown hW.1 hW.2.1 0 rfl rfl 7 (by decide) (hts _ w_136) (fun _ h9 => h9) rfl d_mMark_90 ?_
            refine lv_iload hx hb d_mMark_93 (lv_at hl 0 rfl) ?_
            refine lv_iload_n hx hb d_mMark_95 rfl (lv_at hl 4 rfl) ?_
            refine va_iast hx hb hW.1 hW.2.1 hW.2.2.1 hW.2.2.2.1 6 0 rfl rfl (i := (40 * x3) + (mk x3.toNatClampNeg)) (x := x2) (gk_in vt_27 (by omega) (by omega)) d_mMark_96 (fun H locs hP hD hS => ?_)
            have hW : gk_W D vwCl (gk_T cI cL) s A H locs (wd_M cI cL g 0 rn fs lt kk mk (upd mf ((40 * x3) + (mk x3.toNatClampNeg)).toNatClampNeg x1) (upd ml ((40 * x3) + (mk x3.toNatClampNeg)).toNatClampNeg x2) ma il sz tt fh hd) := ⟨hW.1, hP, hD, hS, hW.2.2.2.2⟩
            refine lv_aload_n hx hb d_mMark_97 rfl (lv_at hl 2 rfl) ?_
            refine va_get (D := D) (C := R_M) (T := F_M) (N := 14) hx hb hts i_M hown hW.1 hW.2.1 0 rfl rfl 8 (by decide) (hts _ w_137) (fun _ h9 => h9) rfl d_mMark_98 ?_
            refine lv_iload hx hb d_mMark_101 (lv_at hl 0 rfl) ?_
            refine lv_iload hx hb d_mMark_103 (lv_at hl 6 rfl) ?_
            refine va_zast hx hb hW.1 hW.2.1 hW.2.2.1 hW.2.2.2.1 7 2 rfl rfl (i := (40 * x3) + (mk x3.toNatClampNeg)) (x := x4) (gk_in vt_27 (by omega) (by omega)) d_mMark_105 (fun H locs hP hD hS => ?_)
            have hW : gk_W D vwCl (gk_T cI cL) s A H locs (wd_M cI cL g 0 rn fs lt kk mk (upd mf ((40 * x3) + (mk x3.toNatClampNeg)).toNatClampNeg x1) (upd ml ((40 * x3) + (mk x3.toNatClampNeg)).toNatClampNeg x2) (upd ma ((40 * x3) + (mk x3.toNatClampNeg)).toNatClampNeg (vp_nar .boolean x4)) il sz tt fh hd) := ⟨hW.1, hP, hD, hS, hW.2.2.2.2⟩
            refine lv_aload_n hx hb d_mMark_106 rfl (lv_at hl 2 rfl) ?_
            refine va_get (D := D) (C := R_M) (T := F_M) (N := 14) hx hb hts i_M hown hW.1 hW.2.1 0 rfl rfl 5 (by decide) (hts _ w_134) (fun _ h9 => h9) rfl d_mMark_107 ?_
            refine lv_iload_n hx hb d_mMark_110 rfl (lv_at hl 5 rfl) ?_
            refine lv_dup2_11 hx hb d_mMark_111 rfl rfl ?_
            refine va_iald hx hb hW.1 hW.2.1 4 0 rfl rfl (i := x3) (gk_in v_x3 (by omega) (by omega)) d_mMark_112 ?_
            refine lv_iconst (v := 1) hx hb d_mMark_113 (by decide) ?_
            refine lv_iadd hx hb d_mMark_114 ?_
            obtain ⟨zt_28, vt_28, et_28⟩ := gk_add vm50 (show gk_v 1 1 from rfl) (by omega) (by omega)
            refine va_iast hx hb hW.1 hW.2.1 hW.2.2.1 hW.2.2.2.1 4 0 rfl rfl (i := x3) (x := (mk x3.toNatClampNeg) + 1) (gk_in v_x3 (by omega) (by omega)) d_mMark_115 (fun H locs hP hD hS => ?_)
            have hW : gk_W D vwCl (gk_T cI cL) s A H locs (wd_M cI cL g 0 rn fs lt kk (upd mk x3.toNatClampNeg ((mk x3.toNatClampNeg) + 1)) (upd mf ((40 * x3) + (mk x3.toNatClampNeg)).toNatClampNeg x1) (upd ml ((40 * x3) + (mk x3.toNatClampNeg)).toNatClampNeg x2) (upd ma ((40 * x3) + (mk x3.toNatClampNeg)).toNatClampNeg (vp_nar .boolean x4)) il sz tt fh hd) := ⟨hW.1, hP, hD, hS, hW.2.2.2.2⟩
            exact X (0, upd mk x3.toNatClampNeg ((mk x3.toNatClampNeg) + 1), upd mf ((40 * x3) + (mk x3.toNatClampNeg)).toNatClampNeg x1, upd ml ((40 * x3) + (mk x3.toNatClampNeg)).toNatClampNeg x2, upd ma ((40 * x3) + (mk x3.toNatClampNeg)).toNatClampNeg (vp_nar .boolean x4)) H locs 0 0 116 ls heq hW d_mMark_116 (Nat.le_of_ble_eq_true rfl) (Nat.le_of_ble_eq_true rfl)
          · rw [if_pos c_21] at heq
            have ic_21 := gk_eq vm50 (show gk_v 40 40 from rfl) c_21
            refine lv_iconst (v := 2) hx hb d_mMark_56 (by decide) ?_
            refine lv_goto (tgt := 61) hx hb d_mMark_57 (by decide) ?_
            refine gk_goI (wr := []) hW [0, 1, 2, 3, 4, 5, 6, 7, 8, 9] [] rfl rfl (by decide) (by decide) (va_runV (As := [.int 2]) (rest := []) ⟨hx, hb, hml, hown, hts⟩ (c_mRefused l D cI cL cL g fl rn fs lt kk mk mf ml ma il sz tt fh hd 2 _) (gk_cwV hts w_117 w_118 w_119 w_116 k_mRefused rfl e_mRefused rfl rfl ⟨Nat.le_of_ble_eq_true rfl, Nat.le_of_ble_eq_true rfl⟩) (gk_preV hW [0, 1, 2, 3, 4, 5, 6, 7, 8, 9] rfl rfl rfl rfl) rfl rfl hl.1 rfl (lv_room (Nat.le_of_ble_eq_true rfl)) d_mMark_61 ⟨Nat.le_of_ble_eq_true rfl, Nat.le_of_ble_eq_true rfl⟩) (fun r_29 u H locs p_31 hW => ?_)
            obtain ⟨rfl, rfl⟩ : r_29 = 1 ∧ u = 2 := Prod.mk.inj (p_31.trans (show (mm_mRefused 2 fl) = (1, 2) from rfl))
            have hW : gk_W D vwCl (gk_T cI cL) s A H locs (wd_M cI cL g 2 rn fs lt kk mk mf ml ma il sz tt fh hd) := hW.re [0, 1, 2, 3, 4, 5, 6, 7, 8, 9] (by decide) rfl
            refine lv_if_eq (tgt := 68) hx hb d_mMark_64 (by decide) (fun c_32 => absurd c_32 (by decide)) (fun _ => ?_)
            exact X (2, mk, mf, ml, ma) H locs 0 0 67 ls heq hW d_mMark_67 (Nat.le_of_ble_eq_true rfl) (Nat.le_of_ble_eq_true rfl)
        · rw [if_neg c_19] at heq
          have ic_19 := gk_ne v_x3 (show gk_v 0 0 from rfl) c_19
          refine lv_iload_n hx hb d_mMark_23 rfl (lv_at hl 3 rfl) ?_
          refine lv_iconst (v := 1) hx hb d_mMark_24 (by decide) ?_
          refine lv_icmp_ne (tgt := 32) hx hb d_mMark_25 (by decide) (fun c_33 => ?_) (fun c_33 => ?_)
          · rw [if_neg c_33] at heq
            have ic_33 := gk_ne v_x3 (show gk_v 1 1 from rfl) c_33
            refine lv_iconst (v := 0) hx hb d_mMark_32 (by decide) ?_
            refine lv_istore (lv' := [(5, .int 0), (0, .ref (g 0)), (1, .int x1), (2, .int x2), (3, .int x3), (4, .int x4)]) hx hb d_mMark_33 hl (by decide) rfl (fun ls hl => ?_)
            refine lv_aload_n hx hb d_mMark_35 rfl (lv_at hl 1 rfl) ?_
            refine lv_iload hx hb d_mMark_36 (lv_at hl 0 rfl) ?_
            refine lv_if_ne (tgt := 45) hx hb d_mMark_38 (by decide) (fun c_34 => absurd c_34 (by decide)) (fun _ => ?_)
            refine lv_iconst (v := 1) hx hb d_mMark_41 (by decide) ?_
            refine lv_goto (tgt := 61) hx hb d_mMark_42 (by decide) ?_
            refine gk_goI (wr := []) hW [0, 1, 2, 3, 4, 5, 6, 7, 8, 9] [] rfl rfl (by decide) (by decide) (va_runV (As := [.int 1]) (rest := []) ⟨hx, hb, hml, hown, hts⟩ (c_mRefused l D cI cL cL g fl rn fs lt kk mk mf ml ma il sz tt fh hd 1 _) (gk_cwV hts w_117 w_118 w_119 w_116 k_mRefused rfl e_mRefused rfl rfl ⟨Nat.le_of_ble_eq_true rfl, Nat.le_of_ble_eq_true rfl⟩) (gk_preV hW [0, 1, 2, 3, 4, 5, 6, 7, 8, 9] rfl rfl rfl rfl) rfl rfl hl.1 rfl (lv_room (Nat.le_of_ble_eq_true rfl)) d_mMark_61 ⟨Nat.le_of_ble_eq_true rfl, Nat.le_of_ble_eq_true rfl⟩) (fun r_35 u H locs p_37 hW => ?_)
            obtain ⟨rfl, rfl⟩ : r_35 = 1 ∧ u = 1 := Prod.mk.inj (p_37.trans (show (mm_mRefused 1 fl) = (1, 1) from rfl))
            have hW : gk_W D vwCl (gk_T cI cL) s A H locs (wd_M cI cL g 1 rn fs lt kk mk mf ml ma il sz tt fh hd) := hW.re [0, 1, 2, 3, 4, 5, 6, 7, 8, 9] (by decide) rfl
            refine lv_if_eq (tgt := 68) hx hb d_mMark_64 (by decide) (fun c_38 => absurd c_38 (by decide)) (fun _ => ?_)
            exact X (1, mk, mf, ml, ma) H locs 0 0 67 ls heq hW d_mMark_67 (Nat.le_of_ble_eq_true rfl) (Nat.le_of_ble_eq_true rfl)
          · rw [if_pos c_33] at heq
            have ic_33 := gk_eq v_x3 (show gk_v 1 1 from rfl) c_33
            refine lv_iconst (v := 1) hx hb d_mMark_28 (by decide) ?_
            refine lv_goto (tgt := 33) hx hb d_mMark_29 (by decide) ?_
            refine lv_istore (lv' := [(5, .int 1), (0, .ref (g 0)), (1, .int x1), (2, .int x2), (3, .int x3), (4, .int x4)]) hx hb d_mMark_33 hl (by decide) rfl (fun ls hl => ?_)
            refine lv_aload_n hx hb d_mMark_35 rfl (lv_at hl 1 rfl) ?_
            refine lv_iload hx hb d_mMark_36 (lv_at hl 0 rfl) ?_
            refine lv_if_ne (tgt := 45) hx hb d_mMark_38 (by decide) (fun _ => ?_) (fun c_39 => absurd c_39 (by decide))
            refine lv_aload_n hx hb d_mMark_45 rfl (lv_at hl 1 rfl) ?_
            refine va_get (D := D) (C := R_M) (T := F_M) (N := 14) hx hb hts i_M hown hW.1 hW.2.1 0 rfl rfl 5 (by decide) (hts _ w_134) (fun _ h9 => h9) rfl d_mMark_46 ?_
            refine lv_iload_n hx hb d_mMark_49 rfl (lv_at hl 4 rfl) ?_
            refine va_iald hx hb hW.1 hW.2.1 4 0 rfl rfl (i := x3) (gk_in v_x3 (by omega) (by omega)) d_mMark_50 ?_
            obtain ⟨zm50, vm50, hm50⟩ := hmk x3.toNatClampNeg (by have e9 := gn_cl (x := x3) (by rw [show x3.toInt = z_x3 from v_x3]; omega); rw [show x3.toInt = z_x3 from v_x3] at e9; omega)
            refine lv_bipush (v := 40) hx hb d_mMark_51 (by decide) ?_
            refine lv_icmp_ne (tgt := 60) hx hb d_mMark_53 (by decide) (fun c_40 => ?_) (fun c_40 => ?_)
            · rw [if_neg c_40] at heq
              have ic_40 := gk_ne vm50 (show gk_v 40 40 from rfl) c_40
              refine lv_iconst (v := 0) hx hb d_mMark_60 (by decide) ?_
              refine gk_goI (wr := []) hW [0, 1, 2, 3, 4, 5, 6, 7, 8, 9] [] rfl rfl (by decide) (by decide) (va_runV (As := [.int 0]) (rest := []) ⟨hx, hb, hml, hown, hts⟩ (c_mRefused l D cI cL cL g fl rn fs lt kk mk mf ml ma il sz tt fh hd 0 _) (gk_cwV hts w_117 w_118 w_119 w_116 k_mRefused rfl e_mRefused rfl rfl ⟨Nat.le_of_ble_eq_true rfl, Nat.le_of_ble_eq_true rfl⟩) (gk_preV hW [0, 1, 2, 3, 4, 5, 6, 7, 8, 9] rfl rfl rfl rfl) rfl rfl hl.1 rfl (lv_room (Nat.le_of_ble_eq_true rfl)) d_mMark_61 ⟨Nat.le_of_ble_eq_true rfl, Nat.le_of_ble_eq_true rfl⟩) (fun r_41 u H locs p_43 hW => ?_)
              obtain ⟨rfl, rfl⟩ : r_41 = 0 ∧ u = 0 := Prod.mk.inj (p_43.trans (show (mm_mRefused 0 fl) = (0, 0) from rfl))
              have hW : gk_W D vwCl (gk_T cI cL) s A H locs (wd_M cI cL g 0 rn fs lt kk mk mf ml ma il sz tt fh hd) := hW.re [0, 1, 2, 3, 4, 5, 6, 7, 8, 9] (by decide) rfl
              refine lv_if_eq (tgt := 68) hx hb d_mMark_64 (by decide) (fun _ => ?_) (fun c_44 => absurd c_44 (by decide))
              refine lv_bipush (v := 40) hx hb d_mMark_68 (by decide) ?_
              refine lv_iload_n hx hb d_mMark_70 rfl (lv_at hl 4 rfl) ?_
              refine lv_imul hx hb d_mMark_71 ?_
              obtain ⟨zt_45, vt_45, et_45⟩ := gk_mul (show gk_v 40 40 from rfl) v_x3 (by omega) (by omega)
              refine lv_aload_n hx hb d_mMark_72 rfl (lv_at hl 1 rfl) ?_
              refine va_get (D := D) (C := R_M) (T := F_M) (N := 14) hx hb hts i_M hown hW.1 hW.2.1 0 rfl rfl 5 (by decide) (hts _ w_134) (fun _ h9 => h9) rfl d_mMark_73 ?_
              refine lv_iload_n hx hb d_mMark_76 rfl (lv_at hl 4 rfl) ?_
              refine va_iald hx hb hW.1 hW.2.1 4 0 rfl rfl (i := x3) (gk_in v_x3 (by omega) (by omega)) d_mMark_77 ?_
              refine lv_iadd hx hb d_mMark_78 ?_
              obtain ⟨zt_46, vt_46, et_46⟩ := gk_add vt_45 vm50 (by omega) (by omega)
              refine lv_istore (lv' := [(6, .int ((40 * x3) + (mk x3.toNatClampNeg))), (5, .int 1), (0, .ref (g 0)), (1, .int x1), (2, .int x2), (3, .int x3), (4, .int x4)]) hx hb d_mMark_79 hl (by decide) rfl (fun ls hl => ?_)
              refine lv_aload_n hx hb d_mMark_81 rfl (lv_at hl 2 rfl) ?_
              refine va_get (D := D) (C := R_M) (T := F_M) (N := 14) hx hb hts i_M hown hW.1 hW.2.1 0 rfl rfl 6 (by decide) (hts _ w_135) (fun _ h9 => h9) rfl d_mMark_82 ?_
              refine lv_iload hx hb d_mMark_85 (lv_at hl 0 rfl) ?_
              refine lv_iload_n hx hb d_mMark_87 rfl (lv_at hl 3 rfl) ?_
              refine va_iast hx hb hW.1 hW.2.1 hW.2.2.1 hW.2.2.2.1 5 0 rfl rfl (i := (40 * x3) + (mk x3.toNatClampNeg)) (x := x1) (gk_in vt_46 (by omega) (by omega)) d_mMark_88 (fun H locs hP hD hS => ?_)
              have hW : gk_W D vwCl (gk_T cI cL) s A H locs (wd_M cI cL g 0 rn fs lt kk mk (upd mf ((40 * x3) + (mk x3.toNatClampNeg)).toNatClampNeg x1) ml ma il sz tt fh hd) := ⟨hW.1, hP, hD, hS, hW.2.2.2.2⟩
              refine lv_aload_n hx hb d_mMark_89 rfl (lv_at hl 2 rfl) ?_
              refine va_get (D := D) (C := R_M) (T := F_M) (N := 14) hx hb hts i_M hown hW.1 hW.2.1 0 rfl rfl 7 (by decide) (hts _ w_136) (fun _ h9 => h9) rfl d_mMark_90 ?_
              refine lv_iload hx hb d_mMark_93 (lv_at hl 0 rfl) ?_
              refine lv_iload_n hx hb d_mMark_95 rfl (lv_at hl 4 rfl) ?_
              refine va_iast hx hb hW.1 hW.2.1 hW.2.2.1 hW.2.2.2.1 6 0 rfl rfl (i := (40 * x3) + (mk x3.toNatClampNeg)) (x := x2) (gk_in vt_46 (by omega) (by omega)) d_mMark_96 (fun H locs hP hD hS => ?_)
              have hW : gk_W D vwCl (gk_T cI cL) s A H locs (wd_M cI cL g 0 rn fs lt kk mk (upd mf ((40 * x3) + (mk x3.toNatClampNeg)).toNatClampNeg x1) (upd ml ((40 * x3) + (mk x3.toNatClampNeg)).toNatClampNeg x2) ma il sz tt fh hd) := ⟨hW.1, hP, hD, hS, hW.2.2.2.2⟩
              refine lv_aload_n hx hb d_mMark_97 rfl (lv_at hl 2 rfl) ?_
              refine va_get (D := D) (C := R_M) (T := F_M) (N := 14) hx hb hts i_M hown hW.1 hW.2.1 0 rfl rfl 8 (by decide) (hts _ w_137) (fun _ h9 => h9) rfl d_mMark_98 ?_
              refine lv_iload hx hb d_mMark_101 (lv_at hl 0 rfl) ?_
              refine lv_iload hx hb d_mMark_103 (lv_at hl 6 rfl) ?_
              refine va_zast hx hb hW.1 hW.2.1 hW.2.2.1 hW.2.2.2.1 7 2 rfl rfl (i := (40 * x3) + (mk x3.toNatClampNeg)) (x := x4) (gk_in vt_46 (by omega) (by omega)) d_mMark_105 (fun H locs hP hD hS => ?_)
              have hW : gk_W D vwCl (gk_T cI cL) s A H locs (wd_M cI cL g 0 rn fs lt kk mk (upd mf ((40 * x3) + (mk x3.toNatClampNeg)).toNatClampNeg x1) (upd ml ((40 * x3) + (mk x3.toNatClampNeg)).toNatClampNeg x2) (upd ma ((40 * x3) + (mk x3.toNatClampNeg)).toNatClampNeg (vp_nar .boolean x4)) il sz tt fh hd) := ⟨hW.1, hP, hD, hS, hW.2.2.2.2⟩
              refine lv_aload_n hx hb d_mMark_106 rfl (lv_at hl 2 rfl) ?_
              refine va_get (D := D) (C := R_M) (T := F_M) (N := 14) hx hb hts i_M hown hW.1 hW.2.1 0 rfl rfl 5 (by decide) (hts _ w_134) (fun _ h9 => h9) rfl d_mMark_107 ?_
              refine lv_iload_n hx hb d_mMark_110 rfl (lv_at hl 5 rfl) ?_
              refine lv_dup2_11 hx hb d_mMark_111 rfl rfl ?_
              refine va_iald hx hb hW.1 hW.2.1 4 0 rfl rfl (i := x3) (gk_in v_x3 (by omega) (by omega)) d_mMark_112 ?_
              refine lv_iconst (v := 1) hx hb d_mMark_113 (by decide) ?_
              refine lv_iadd hx hb d_mMark_114 ?_
              obtain ⟨zt_47, vt_47, et_47⟩ := gk_add vm50 (show gk_v 1 1 from rfl) (by omega) (by omega)
              refine va_iast hx hb hW.1 hW.2.1 hW.2.2.1 hW.2.2.2.1 4 0 rfl rfl (i := x3) (x := (mk x3.toNatClampNeg) + 1) (gk_in v_x3 (by omega) (by omega)) d_mMark_115 (fun H locs hP hD hS => ?_)
              have hW : gk_W D vwCl (gk_T cI cL) s A H locs (wd_M cI cL g 0 rn fs lt kk (upd mk x3.toNatClampNeg ((mk x3.toNatClampNeg) + 1)) (upd mf ((40 * x3) + (mk x3.toNatClampNeg)).toNatClampNeg x1) (upd ml ((40 * x3) + (mk x3.toNatClampNeg)).toNatClampNeg x2) (upd ma ((40 * x3) + (mk x3.toNatClampNeg)).toNatClampNeg (vp_nar .boolean x4)) il sz tt fh hd) := ⟨hW.1, hP, hD, hS, hW.2.2.2.2⟩
              exact X (0, upd mk x3.toNatClampNeg ((mk x3.toNatClampNeg) + 1), upd mf ((40 * x3) + (mk x3.toNatClampNeg)).toNatClampNeg x1, upd ml ((40 * x3) + (mk x3.toNatClampNeg)).toNatClampNeg x2, upd ma ((40 * x3) + (mk x3.toNatClampNeg)).toNatClampNeg (vp_nar .boolean x4)) H locs 0 0 116 ls heq hW d_mMark_116 (Nat.le_of_ble_eq_true rfl) (Nat.le_of_ble_eq_true rfl)
            · rw [if_pos c_40] at heq
              have ic_40 := gk_eq vm50 (show gk_v 40 40 from rfl) c_40
              refine lv_iconst (v := 2) hx hb d_mMark_56 (by decide) ?_
              refine lv_goto (tgt := 61) hx hb d_mMark_57 (by decide) ?_
              refine gk_goI (wr := []) hW [0, 1, 2, 3, 4, 5, 6, 7, 8, 9] [] rfl rfl (by decide) (by decide) (va_runV (As := [.int 2]) (rest := []) ⟨hx, hb, hml, hown, hts⟩ (c_mRefused l D cI cL cL g fl rn fs lt kk mk mf ml ma il sz tt fh hd 2 _) (gk_cwV hts w_117 w_118 w_119 w_116 k_mRefused rfl e_mRefused rfl rfl ⟨Nat.le_of_ble_eq_true rfl, Nat.le_of_ble_eq_true rfl⟩) (gk_preV hW [0, 1, 2, 3, 4, 5, 6, 7, 8, 9] rfl rfl rfl rfl) rfl rfl hl.1 rfl (lv_room (Nat.le_of_ble_eq_true rfl)) d_mMark_61 ⟨Nat.le_of_ble_eq_true rfl, Nat.le_of_ble_eq_true rfl⟩) (fun r_48 u H locs p_50 hW => ?_)
              obtain ⟨rfl, rfl⟩ : r_48 = 1 ∧ u = 2 := Prod.mk.inj (p_50.trans (show (mm_mRefused 2 fl) = (1, 2) from rfl))
              have hW : gk_W D vwCl (gk_T cI cL) s A H locs (wd_M cI cL g 2 rn fs lt kk mk mf ml ma il sz tt fh hd) := hW.re [0, 1, 2, 3, 4, 5, 6, 7, 8, 9] (by decide) rfl
              refine lv_if_eq (tgt := 68) hx hb d_mMark_64 (by decide) (fun c_51 => absurd c_51 (by decide)) (fun _ => ?_)
              exact X (2, mk, mf, ml, ma) H locs 0 0 67 ls heq hW d_mMark_67 (Nat.le_of_ble_eq_true rfl) (Nat.le_of_ble_eq_true rfl)
def mm_mIsMark (x1 rn : Int32) (fs lt kk : Nat → Int32) (il : Int32) (tt : Nat → Int32) : Int32 := if (mm_mClassOf x1 rn fs lt kk il tt) = 8 then 1 else (if (mm_mClassOf x1 rn fs lt kk il tt) = 7 then 1 else 0)
def rm_mIsMark : Room := { frames := 1, cells := 0, slots := 0, locals := 24 }
set_option maxHeartbeats 4000000 in
set_option maxRecDepth 100000 in
theorem c_mIsMark (l : Launch) (D : va_G) (cI : ClassId) (cL cL : ClassId × ClassId) (g : Nat → Nat) (fl rn : Int32) (fs lt kk mk mf ml ma : Nat → Int32) (il sz : Int32) (tt fh : Nat → Int32) (hd x1 : Int32) (z_rn : Int) (v_rn : gk_v rn z_rn) (z_x1 : Int) (v_x1 : gk_v x1 z_x1) (hrn : 0 ≤ z_rn ∧ z_rn ≤ 100) (hx1 : 0 ≤ z_x1 ∧ z_x1 < 2000) : gk_I l y_mIsMark (.code y_mIsMark b_mIsMark 3 (some .boolean) :: wA) rm_mIsMark D vwCl (gk_T cI cL) [.ref (g 0), .int x1] (wd_M cI cL g fl rn fs lt kk mk mf ml ma il sz tt fh hd) (fun (r : Int32) (_ : Unit) => r = mm_mIsMark x1 rn fs lt kk il tt) (fun (_ : Unit) => (wd_M cI cL g fl rn fs lt kk mk mf ml ma il sz tt fh hd)) 0 0 := by
  refine gk_I.of (by decide) (Nat.le_of_ble_eq_true rfl) ?_
  intro p e s m below meth c A ls Q H locs hx hb hml hown hts hW hl X
  have hl : lv_has ls 3 [(0, .ref (g 0)), (1, .int x1)] := hl
  obtain ⟨tgt, heq⟩ : ∃ t, mm_mIsMark x1 rn fs lt kk il tt = t := ⟨_, rfl⟩
  rw [heq] at X
  rw [mm_mIsMark] at heq
  refine lv_aload_n hx hb d_mIsMark_0 rfl (lv_at hl 0 rfl) ?_
  refine lv_iload_n hx hb d_mIsMark_1 rfl (lv_at hl 1 rfl) ?_
  refine gk_goR hW [0, 1, 2, 3, 4, 5, 6, 7, 8, 9] rfl (va_runV (As := [.int x1]) (rest := []) ⟨hx, hb, hml, hown, hts⟩ (c_mClassOf l D cI cL cL g fl rn fs lt kk mk mf ml ma il sz tt fh hd x1 z_rn v_rn z_x1 v_x1 (by omega) (by omega) _) (gk_cwV hts w_138 w_139 w_140 w_116 k_mClassOf rfl e_mClassOf rfl rfl ⟨Nat.le_of_ble_eq_true rfl, Nat.le_of_ble_eq_true rfl⟩) (gk_preV hW [0, 1, 2, 3, 4, 5, 6, 7, 8, 9] rfl rfl rfl rfl) rfl rfl hl.1 rfl (lv_room (Nat.le_of_ble_eq_true rfl)) d_mIsMark_2 ⟨Nat.le_of_ble_eq_true rfl, Nat.le_of_ble_eq_true rfl⟩) (fun H locs hW => ?_)
  refine lv_istore_n (lv' := [(2, .int (mm_mClassOf x1 rn fs lt kk il tt)), (0, .ref (g 0)), (1, .int x1)]) hx hb d_mIsMark_5 rfl hl (by decide) rfl (fun ls hl => ?_)
  refine lv_iload_n hx hb d_mIsMark_6 rfl (lv_at hl 0 rfl) ?_
  refine lv_bipush (v := 8) hx hb d_mIsMark_7 (by decide) ?_
  refine lv_icmp_eq (tgt := 18) hx hb d_mIsMark_9 (by decide) (fun c_1 => ?_) (fun c_1 => ?_)
  · rw [if_pos c_1] at heq
    refine lv_iconst (v := 1) hx hb d_mIsMark_18 (by decide) ?_
    refine lv_goto (tgt := 23) hx hb d_mIsMark_19 (by decide) ?_
    exact X _ () H locs 0 0 23 ls heq hW d_mIsMark_23 rfl (Nat.le_of_ble_eq_true rfl) (Nat.le_of_ble_eq_true rfl)
  · rw [if_neg c_1] at heq
    refine lv_iload_n hx hb d_mIsMark_12 rfl (lv_at hl 0 rfl) ?_
    refine lv_bipush (v := 7) hx hb d_mIsMark_13 (by decide) ?_
    refine lv_icmp_ne (tgt := 22) hx hb d_mIsMark_15 (by decide) (fun c_2 => ?_) (fun c_2 => ?_)
    · rw [if_neg c_2] at heq
      refine lv_iconst (v := 0) hx hb d_mIsMark_22 (by decide) ?_
      exact X _ () H locs 0 0 23 ls heq hW d_mIsMark_23 rfl (Nat.le_of_ble_eq_true rfl) (Nat.le_of_ble_eq_true rfl)
    · rw [if_pos c_2] at heq
      refine lv_iconst (v := 1) hx hb d_mIsMark_18 (by decide) ?_
      refine lv_goto (tgt := 23) hx hb d_mIsMark_19 (by decide) ?_
      exact X _ () H locs 0 0 23 ls heq hW d_mIsMark_23 rfl (Nat.le_of_ble_eq_true rfl) (Nat.le_of_ble_eq_true rfl)
def mm_mIsLeftOut (x1 rn : Int32) (fs lt kk : Nat → Int32) (il : Int32) (tt : Nat → Int32) : Int32 := if x1 = 0 then 0 else (if (mm_mIsMark x1 rn fs lt kk il tt) = 0 then 0 else (if (mm_mClassOf (x1 - 1) rn fs lt kk il tt) ≤ 5 then 0 else 1))
def rm_mIsLeftOut : Room := { frames := 2, cells := 0, slots := 0, locals := 46 }
set_option maxHeartbeats 4000000 in
set_option maxRecDepth 100000 in
theorem c_mIsLeftOut (l : Launch) (D : va_G) (cI : ClassId) (cL cL : ClassId × ClassId) (g : Nat → Nat) (fl rn : Int32) (fs lt kk mk mf ml ma : Nat → Int32) (il sz : Int32) (tt fh : Nat → Int32) (hd x1 : Int32) (z_rn : Int) (v_rn : gk_v rn z_rn) (z_x1 : Int) (v_x1 : gk_v x1 z_x1) (hrn : 0 ≤ z_rn ∧ z_rn ≤ 100) (hx1 : 0 ≤ z_x1 ∧ z_x1 < 2000) : gk_I l y_mIsLeftOut (.code y_mIsLeftOut b_mIsLeftOut 3 (some .boolean) :: wA) rm_mIsLeftOut D vwCl (gk_T cI cL) [.ref (g 0), .int x1] (wd_M cI cL g fl rn fs lt kk mk mf ml ma il sz tt fh hd) (fun (r : Int32) (_ : Unit) => r = mm_mIsLeftOut x1 rn fs lt kk il tt) (fun (_ : Unit) => (wd_M cI cL g fl rn fs lt kk mk mf ml ma il sz tt fh hd)) 0 0 := by
  refine gk_I.of (by decide) (Nat.le_of_ble_eq_true rfl) ?_
  intro p e s m below meth c A ls Q H locs hx hb hml hown hts hW hl X
  have hl : lv_has ls 3 [(0, .ref (g 0)), (1, .int x1)] := hl
  obtain ⟨tgt, heq⟩ : ∃ t, mm_mIsLeftOut x1 rn fs lt kk il tt = t := ⟨_, rfl⟩
  rw [heq] at X
  rw [mm_mIsLeftOut] at heq
  obtain ⟨z_il, v_il⟩ := gk_vex il
  refine lv_iload_n hx hb d_mIsLeftOut_0 rfl (lv_at hl 1 rfl) ?_
  refine lv_if_eq (tgt := 12) hx hb d_mIsLeftOut_1 (by decide) (fun c_1 => ?_) (fun c_1 => ?_)
  · rw [if_pos c_1] at heq
    have ic_1 := gk_eq v_x1 (show gk_v 0 0 from rfl) c_1
    refine lv_iconst (v := 0) hx hb d_mIsLeftOut_12 (by decide) ?_
    exact X _ () H locs 0 0 13 ls heq hW d_mIsLeftOut_13 rfl (Nat.le_of_ble_eq_true rfl) (Nat.le_of_ble_eq_true rfl)
  · rw [if_neg c_1] at heq
    have ic_1 := gk_ne v_x1 (show gk_v 0 0 from rfl) c_1
    refine lv_aload_n hx hb d_mIsLeftOut_4 rfl (lv_at hl 0 rfl) ?_
    refine lv_iload_n hx hb d_mIsLeftOut_5 rfl (lv_at hl 1 rfl) ?_
    refine gk_goR hW [0, 1, 2, 3, 4, 5, 6, 7, 8, 9] rfl (va_runV (As := [.int x1]) (rest := []) ⟨hx, hb, hml, hown, hts⟩ (c_mIsMark l D cI cL cL g fl rn fs lt kk mk mf ml ma il sz tt fh hd x1 z_rn v_rn z_x1 v_x1 (by omega) (by omega) _) (gk_cwV hts w_141 w_142 w_143 w_116 k_mIsMark rfl e_mIsMark rfl rfl ⟨Nat.le_of_ble_eq_true rfl, Nat.le_of_ble_eq_true rfl⟩) (gk_preV hW [0, 1, 2, 3, 4, 5, 6, 7, 8, 9] rfl rfl rfl rfl) rfl rfl hl.1 rfl (lv_room (Nat.le_of_ble_eq_true rfl)) d_mIsLeftOut_6 ⟨Nat.le_of_ble_eq_true rfl, Nat.le_of_ble_eq_true rfl⟩) (fun H locs hW => ?_)
    refine lv_if_ne (tgt := 14) hx hb d_mIsLeftOut_9 (by decide) (fun c_2 => ?_) (fun c_2 => ?_)
    · rw [if_neg c_2] at heq
      refine lv_aload_n hx hb d_mIsLeftOut_14 rfl (lv_at hl 0 rfl) ?_
      refine lv_iload_n hx hb d_mIsLeftOut_15 rfl (lv_at hl 1 rfl) ?_
      refine lv_iconst (v := 1) hx hb d_mIsLeftOut_16 (by decide) ?_
      refine lv_isub hx hb d_mIsLeftOut_17 ?_
      obtain ⟨zt_3, vt_3, et_3⟩ := gk_sub v_x1 (show gk_v 1 1 from rfl) (by omega) (by omega)
      refine gk_goR hW [0, 1, 2, 3, 4, 5, 6, 7, 8, 9] rfl (va_runV (As := [.int (x1 - 1)]) (rest := []) ⟨hx, hb, hml, hown, hts⟩ (c_mClassOf l D cI cL cL g fl rn fs lt kk mk mf ml ma il sz tt fh hd (x1 - 1) z_rn v_rn zt_3 vt_3 (by omega) (by omega) _) (gk_cwV hts w_138 w_139 w_140 w_116 k_mClassOf rfl e_mClassOf rfl rfl ⟨Nat.le_of_ble_eq_true rfl, Nat.le_of_ble_eq_true rfl⟩) (gk_preV hW [0, 1, 2, 3, 4, 5, 6, 7, 8, 9] rfl rfl rfl rfl) rfl rfl hl.1 rfl (lv_room (Nat.le_of_ble_eq_true rfl)) d_mIsLeftOut_18 ⟨Nat.le_of_ble_eq_true rfl, Nat.le_of_ble_eq_true rfl⟩) (fun H locs hW => ?_)
      refine lv_istore_n (lv' := [(2, .int (mm_mClassOf (x1 - 1) rn fs lt kk il tt)), (0, .ref (g 0)), (1, .int x1)]) hx hb d_mIsLeftOut_21 rfl hl (by decide) rfl (fun ls hl => ?_)
      refine lv_iload_n hx hb d_mIsLeftOut_22 rfl (lv_at hl 0 rfl) ?_
      refine lv_iconst (v := 5) hx hb d_mIsLeftOut_23 (by decide) ?_
      refine lv_icmp_le (tgt := 31) hx hb d_mIsLeftOut_24 (by decide) (fun c_4 => ?_) (fun c_4 => ?_)
      · rw [if_pos c_4] at heq
        refine lv_iconst (v := 0) hx hb d_mIsLeftOut_31 (by decide) ?_
        exact X _ () H locs 0 0 32 ls heq hW d_mIsLeftOut_32 rfl (Nat.le_of_ble_eq_true rfl) (Nat.le_of_ble_eq_true rfl)
      · rw [if_neg c_4] at heq
        refine lv_iconst (v := 1) hx hb d_mIsLeftOut_27 (by decide) ?_
        refine lv_goto (tgt := 32) hx hb d_mIsLeftOut_28 (by decide) ?_
        exact X _ () H locs 0 0 32 ls heq hW d_mIsLeftOut_32 rfl (Nat.le_of_ble_eq_true rfl) (Nat.le_of_ble_eq_true rfl)
    · rw [if_pos c_2] at heq
      refine lv_iconst (v := 0) hx hb d_mIsLeftOut_12 (by decide) ?_
      exact X _ () H locs 0 0 13 ls heq hW d_mIsLeftOut_13 rfl (Nat.le_of_ble_eq_true rfl) (Nat.le_of_ble_eq_true rfl)
def mm_mBase_2 (x1 rn : Int32) (fs lt kk : Nat → Int32) (il : Int32) (tt : Nat → Int32) : Nat → Int32 → Int32
  | 0, x2 => 0
  | n + 1, x2 => if x2 < 0 then x2 else (if (mm_mIsLeftOut x2 rn fs lt kk il tt) = 0 then x2 else (mm_mBase_2 x1 rn fs lt kk il tt n (x2 + (-1))))
def mm_mBase (x1 rn : Int32) (fs lt kk : Nat → Int32) (il : Int32) (tt : Nat → Int32) : Int32 := mm_mBase_2 x1 rn fs lt kk il tt 2100 x1
def rm_mBase : Room := { frames := 3, cells := 0, slots := 0, locals := 68 }
set_option maxHeartbeats 4000000 in
set_option maxRecDepth 100000 in
theorem c_mBase (l : Launch) (D : va_G) (cI : ClassId) (cL cL : ClassId × ClassId) (g : Nat → Nat) (fl rn : Int32) (fs lt kk mk mf ml ma : Nat → Int32) (il sz : Int32) (tt fh : Nat → Int32) (hd x1 : Int32) (z_rn : Int) (v_rn : gk_v rn z_rn) (z_x1 : Int) (v_x1 : gk_v x1 z_x1) (hrn : 0 ≤ z_rn ∧ z_rn ≤ 100) (hx1 : -10 ≤ z_x1 ∧ z_x1 < 2000) : gk_I l y_mBase (.code y_mBase b_mBase 3 (some .int) :: wA) rm_mBase D vwCl (gk_T cI cL) [.ref (g 0), .int x1] (wd_M cI cL g fl rn fs lt kk mk mf ml ma il sz tt fh hd) (fun (r : Int32) (_ : Unit) => r = mm_mBase x1 rn fs lt kk il tt) (fun (_ : Unit) => (wd_M cI cL g fl rn fs lt kk mk mf ml ma il sz tt fh hd)) 0 0 := by
  refine gk_I.of (by decide) (Nat.le_of_ble_eq_true rfl) ?_
  intro p e s m below meth c A ls Q H locs hx hb hml hown hts hW hl X
  have hl : lv_has ls 3 [(0, .ref (g 0)), (1, .int x1)] := hl
  obtain ⟨tgt, heq⟩ : ∃ t, mm_mBase x1 rn fs lt kk il tt = t := ⟨_, rfl⟩
  rw [heq] at X
  rw [mm_mBase] at heq
  obtain ⟨z_il, v_il⟩ := gk_vex il
  have L2 : ∀ (n : Nat) (x2 : Int32) (H : Heap) (locs : List Loc) (ls : Array Slot), ∀ (z_x2 : Int), gk_v x2 z_x2 → (z_x2 + 11) < (n : Int) → -10 ≤ z_x2 ∧ z_x2 < 2000 → mm_mBase_2 x1 rn fs lt kk il tt n x2 = tgt → gk_W D vwCl (gk_T cI cL) s A H locs (wd_M cI cL g fl rn fs lt kk mk mf ml ma il sz tt fh hd) → lv_has ls 3 [(0, .ref (g 0)), (1, .int x1), (2, .int x2)] → W p l e rm_mBase s m [.ref (g 0), .int x1].toArray below meth c H locs 0 0 Q (F0 m 2 ls []) := by
    intro n
    induction n with
    | zero => intro x2 H locs ls z_x2 v_x2 hm f2_0 heq hW hl; exfalso; omega
    | succ n ih =>
      intro x2 H locs ls z_x2 v_x2 hm f2_0 heq hW hl
      rw [mm_mBase_2] at heq
      refine lv_iload_n hx hb d_mBase_2 rfl (lv_at hl 2 rfl) ?_
      refine lv_if_lt (tgt := 20) hx hb d_mBase_3 (by decide) (fun c_1 => ?_) (fun c_1 => ?_)
      · rw [if_pos c_1] at heq
        have ic_1 := gk_lt v_x2 (show gk_v 0 0 from rfl) c_1
        refine lv_iload_n hx hb d_mBase_20 rfl (lv_at hl 2 rfl) ?_
        exact X _ () H locs 0 0 21 ls heq hW d_mBase_21 rfl (Nat.le_of_ble_eq_true rfl) (Nat.le_of_ble_eq_true rfl)
      · rw [if_neg c_1] at heq
        have ic_1 := gk_nlt v_x2 (show gk_v 0 0 from rfl) c_1
        refine lv_aload_n hx hb d_mBase_6 rfl (lv_at hl 0 rfl) ?_
        refine lv_iload_n hx hb d_mBase_7 rfl (lv_at hl 2 rfl) ?_
        refine gk_goR hW [0, 1, 2, 3, 4, 5, 6, 7, 8, 9] rfl (va_runV (As := [.int x2]) (rest := []) ⟨hx, hb, hml, hown, hts⟩ (c_mIsLeftOut l D cI cL cL g fl rn fs lt kk mk mf ml ma il sz tt fh hd x2 z_rn v_rn z_x2 v_x2 (by omega) (by omega) _) (gk_cwV hts w_144 w_145 w_146 w_116 k_mIsLeftOut rfl e_mIsLeftOut rfl rfl ⟨Nat.le_of_ble_eq_true rfl, Nat.le_of_ble_eq_true rfl⟩) (gk_preV hW [0, 1, 2, 3, 4, 5, 6, 7, 8, 9] rfl rfl rfl rfl) rfl rfl hl.1 rfl (lv_room (Nat.le_of_ble_eq_true rfl)) d_mBase_8 ⟨Nat.le_of_ble_eq_true rfl, Nat.le_of_ble_eq_true rfl⟩) (fun H locs hW => ?_)
        refine lv_if_eq (tgt := 20) hx hb d_mBase_11 (by decide) (fun c_2 => ?_) (fun c_2 => ?_)
        · rw [if_pos c_2] at heq
          refine lv_iload_n hx hb d_mBase_20 rfl (lv_at hl 2 rfl) ?_
          exact X _ () H locs 0 0 21 ls heq hW d_mBase_21 rfl (Nat.le_of_ble_eq_true rfl) (Nat.le_of_ble_eq_true rfl)
        · rw [if_neg c_2] at heq
          refine lv_iinc (v := x2 + (-1)) (lv' := [(2, .int (x2 + (-1))), (0, .ref (g 0)), (1, .int x1)]) hx hb d_mBase_14 hl (k := 2) rfl rfl (by decide) rfl (fun ls hl => ?_)
          obtain ⟨zt_3, vt_3, et_3⟩ := gk_add v_x2 (show gk_v (-1) (-1) from rfl) (by omega) (by omega)
          refine lv_goto (tgt := 2) hx hb d_mBase_17 (by decide) ?_
          exact ih (x2 + (-1)) H locs ls zt_3 vt_3 (by omega) (by omega) heq hW (lv_sub hl [1, 2, 0] rfl)
  refine lv_iload_n hx hb d_mBase_0 rfl (lv_at hl 1 rfl) ?_
  refine lv_istore_n (lv' := [(2, .int x1), (0, .ref (g 0)), (1, .int x1)]) hx hb d_mBase_1 rfl hl (by decide) rfl (fun ls hl => ?_)
  exact L2 2100 x1 H locs ls z_x1 v_x1 (by omega) (by omega) heq hW (lv_sub hl [1, 2, 0] rfl)
def mm_mBaseClass (x1 rn : Int32) (fs lt kk : Nat → Int32) (il : Int32) (tt : Nat → Int32) : Int32 := if 0 ≤ x1 then (if (mm_mIsMark x1 rn fs lt kk il tt) = 0 then (mm_mClassOf x1 rn fs lt kk il tt) else 27) else (-1)
def rm_mBaseClass : Room := { frames := 2, cells := 0, slots := 0, locals := 46 }
set_option maxHeartbeats 4000000 in
set_option maxRecDepth 100000 in
theorem c_mBaseClass (l : Launch) (D : va_G) (cI : ClassId) (cL cL : ClassId × ClassId) (g : Nat → Nat) (fl rn : Int32) (fs lt kk mk mf ml ma : Nat → Int32) (il sz : Int32) (tt fh : Nat → Int32) (hd x1 : Int32) (z_rn : Int) (v_rn : gk_v rn z_rn) (z_x1 : Int) (v_x1 : gk_v x1 z_x1) (hrn : 0 ≤ z_rn ∧ z_rn ≤ 100) (hx1 : -10 ≤ z_x1 ∧ z_x1 < 2000) : gk_I l y_mBaseClass (.code y_mBaseClass b_mBaseClass 2 (some .int) :: wA) rm_mBaseClass D vwCl (gk_T cI cL) [.ref (g 0), .int x1] (wd_M cI cL g fl rn fs lt kk mk mf ml ma il sz tt fh hd) (fun (r : Int32) (_ : Unit) => r = mm_mBaseClass x1 rn fs lt kk il tt) (fun (_ : Unit) => (wd_M cI cL g fl rn fs lt kk mk mf ml ma il sz tt fh hd)) 0 0 := by
  refine gk_I.of (by decide) (Nat.le_of_ble_eq_true rfl) ?_
  intro p e s m below meth c A ls Q H locs hx hb hml hown hts hW hl X
  have hl : lv_has ls 2 [(0, .ref (g 0)), (1, .int x1)] := hl
  obtain ⟨tgt, heq⟩ : ∃ t, mm_mBaseClass x1 rn fs lt kk il tt = t := ⟨_, rfl⟩
  rw [heq] at X
  rw [mm_mBaseClass] at heq
  obtain ⟨z_il, v_il⟩ := gk_vex il
  refine lv_iload_n hx hb d_mBaseClass_0 rfl (lv_at hl 1 rfl) ?_
  refine lv_if_ge (tgt := 6) hx hb d_mBaseClass_1 (by decide) (fun c_1 => ?_) (fun c_1 => ?_)
  · rw [if_pos c_1] at heq
    have ic_1 := gk_le (show gk_v 0 0 from rfl) v_x1 c_1
    refine lv_aload_n hx hb d_mBaseClass_6 rfl (lv_at hl 0 rfl) ?_
    refine lv_iload_n hx hb d_mBaseClass_7 rfl (lv_at hl 1 rfl) ?_
    refine gk_goR hW [0, 1, 2, 3, 4, 5, 6, 7, 8, 9] rfl (va_runV (As := [.int x1]) (rest := []) ⟨hx, hb, hml, hown, hts⟩ (c_mIsMark l D cI cL cL g fl rn fs lt kk mk mf ml ma il sz tt fh hd x1 z_rn v_rn z_x1 v_x1 (by omega) (by omega) _) (gk_cwV hts w_141 w_142 w_143 w_116 k_mIsMark rfl e_mIsMark rfl rfl ⟨Nat.le_of_ble_eq_true rfl, Nat.le_of_ble_eq_true rfl⟩) (gk_preV hW [0, 1, 2, 3, 4, 5, 6, 7, 8, 9] rfl rfl rfl rfl) rfl rfl hl.1 rfl (lv_room (Nat.le_of_ble_eq_true rfl)) d_mBaseClass_8 ⟨Nat.le_of_ble_eq_true rfl, Nat.le_of_ble_eq_true rfl⟩) (fun H locs hW => ?_)
    refine lv_if_eq (tgt := 19) hx hb d_mBaseClass_11 (by decide) (fun c_2 => ?_) (fun c_2 => ?_)
    · rw [if_pos c_2] at heq
      refine lv_aload_n hx hb d_mBaseClass_19 rfl (lv_at hl 0 rfl) ?_
      refine lv_iload_n hx hb d_mBaseClass_20 rfl (lv_at hl 1 rfl) ?_
      refine gk_goR hW [0, 1, 2, 3, 4, 5, 6, 7, 8, 9] rfl (va_runV (As := [.int x1]) (rest := []) ⟨hx, hb, hml, hown, hts⟩ (c_mClassOf l D cI cL cL g fl rn fs lt kk mk mf ml ma il sz tt fh hd x1 z_rn v_rn z_x1 v_x1 (by omega) (by omega) _) (gk_cwV hts w_138 w_139 w_140 w_116 k_mClassOf rfl e_mClassOf rfl rfl ⟨Nat.le_of_ble_eq_true rfl, Nat.le_of_ble_eq_true rfl⟩) (gk_preV hW [0, 1, 2, 3, 4, 5, 6, 7, 8, 9] rfl rfl rfl rfl) rfl rfl hl.1 rfl (lv_room (Nat.le_of_ble_eq_true rfl)) d_mBaseClass_21 ⟨Nat.le_of_ble_eq_true rfl, Nat.le_of_ble_eq_true rfl⟩) (fun H locs hW => ?_)
      exact X _ () H locs 0 0 24 ls heq hW d_mBaseClass_24 rfl (Nat.le_of_ble_eq_true rfl) (Nat.le_of_ble_eq_true rfl)
    · rw [if_neg c_2] at heq
      refine lv_bipush (v := 27) hx hb d_mBaseClass_14 (by decide) ?_
      refine lv_goto (tgt := 24) hx hb d_mBaseClass_16 (by decide) ?_
      exact X _ () H locs 0 0 24 ls heq hW d_mBaseClass_24 rfl (Nat.le_of_ble_eq_true rfl) (Nat.le_of_ble_eq_true rfl)
  · rw [if_neg c_1] at heq
    have ic_1 := gk_nle (show gk_v 0 0 from rfl) v_x1 c_1
    refine lv_iconst (v := (-1)) hx hb d_mBaseClass_4 (by decide) ?_
    exact X _ () H locs 0 0 5 ls heq hW d_mBaseClass_5 rfl (Nat.le_of_ble_eq_true rfl) (Nat.le_of_ble_eq_true rfl)
end
