def mm_findRule_119 (x1 x2 : Int32) (fa2 la2 va2 : Nat → Int32) (mn2 : Int32) (fa3 la3 va3 : Nat → Int32) (mn3 b1 b2 b3 b4 b5 b6 x3 x4 : Int32) : Int32 := if x3 = 0 then 310 else x3
def mm_findRule_100 (x1 x2 : Int32) (fa2 la2 va2 : Nat → Int32) (mn2 : Int32) (fa3 la3 va3 : Nat → Int32) (mn3 b1 b2 b3 b4 b5 b6 x3 x4 : Int32) : Int32 := if x3 = 0 then (mm_findRule_119 x1 x2 fa2 la2 va2 mn2 fa3 la3 va3 mn3 b1 b2 b3 b4 b5 b6 (mm_ruleOfMarks b2 x4 x2 fa2 la2 va2 mn2 fa3 la3 va3 mn3 b3 b6) x4) else (mm_findRule_119 x1 x2 fa2 la2 va2 mn2 fa3 la3 va3 mn3 b1 b2 b3 b4 b5 b6 x3 x4)
def mm_findRule_83 (x1 x2 : Int32) (fa2 la2 va2 : Nat → Int32) (mn2 : Int32) (fa3 la3 va3 : Nat → Int32) (mn3 b1 b2 b3 b4 b5 b6 x3 x4 : Int32) : Int32 := if x3 = 0 then (mm_findRule_100 x1 x2 fa2 la2 va2 mn2 fa3 la3 va3 mn3 b1 b2 b3 b4 b5 b6 (mm_ruleOfWords b2 x4) x4) else (mm_findRule_100 x1 x2 fa2 la2 va2 mn2 fa3 la3 va3 mn3 b1 b2 b3 b4 b5 b6 x3 x4)
def mm_findRule_66 (x1 x2 : Int32) (fa2 la2 va2 : Nat → Int32) (mn2 : Int32) (fa3 la3 va3 : Nat → Int32) (mn3 b1 b2 b3 b4 b5 b6 x3 x4 : Int32) : Int32 := if x3 = 0 then (mm_findRule_83 x1 x2 fa2 la2 va2 mn2 fa3 la3 va3 mn3 b1 b2 b3 b4 b5 b6 (mm_ruleOfNumbers b2 x4) x4) else (mm_findRule_83 x1 x2 fa2 la2 va2 mn2 fa3 la3 va3 mn3 b1 b2 b3 b4 b5 b6 x3 x4)
def mm_findRule_48 (x1 x2 : Int32) (fa2 la2 va2 : Nat → Int32) (mn2 : Int32) (fa3 la3 va3 : Nat → Int32) (mn3 b1 b2 b3 b4 b5 b6 x3 x4 : Int32) : Int32 := if x3 = 0 then (mm_findRule_66 x1 x2 fa2 la2 va2 mn2 fa3 la3 va3 mn3 b1 b2 b3 b4 b5 b6 (mm_ruleOfSigns b2 x4 b4) x4) else (mm_findRule_66 x1 x2 fa2 la2 va2 mn2 fa3 la3 va3 mn3 b1 b2 b3 b4 b5 b6 x3 x4)
def mm_findRule (x1 x2 : Int32) (fa2 la2 va2 : Nat → Int32) (mn2 : Int32) (fa3 la3 va3 : Nat → Int32) (mn3 b1 b2 b3 b4 b5 b6 : Int32) : Int32 := if (mm_ruleOfSpaces x1 b1 b5) = 0 then (if (mm_ruleOfGlue b2 (mm_standsFor x1)) = 0 then (mm_findRule_48 x1 x2 fa2 la2 va2 mn2 fa3 la3 va3 mn3 b1 b2 b3 b4 b5 b6 (mm_ruleAcrossSpaces b5 (mm_standsFor x1)) (mm_standsFor x1)) else (mm_findRule_48 x1 x2 fa2 la2 va2 mn2 fa3 la3 va3 mn3 b1 b2 b3 b4 b5 b6 (mm_ruleOfGlue b2 (mm_standsFor x1)) (mm_standsFor x1))) else (mm_ruleOfSpaces x1 b1 b5)
def rm_findRule : Room := { frames := 3, cells := 0, slots := 0, locals := 67 }
set_option maxHeartbeats 4000000 in
set_option maxRecDepth 100000 in
theorem c_findRule (l : Launch) (D : va_G) (cI : ClassId) (cL : ClassId × ClassId) (h : Nat → Nat) (tx cs rl gv fa1 la1 va1 : Nat → Int32) (mn1 : Int32) (fa2 la2 va2 : Nat → Int32) (mn2 : Int32) (fa3 la3 va3 : Nat → Int32) (mn3 b1 b2 b3 b4 b5 b6 ln lo kn x1 x2 : Int32) (z_mn2 : Int) (v_mn2 : gk_v mn2 z_mn2) (z_mn3 : Int) (v_mn3 : gk_v mn3 z_mn3) (hm2 : 0 ≤ z_mn2 ∧ z_mn2 ≤ 40) (hm3 : 0 ≤ z_mn3 ∧ z_mn3 ≤ 40) : gk_I l y_findRule (.code y_findRule b_findRule 5 (some .int) :: wA) rm_findRule D vwCl (gk_T cI cL) [.ref (h 0), .int x1, .int x2] (wd_P cI h tx cs rl gv fa1 la1 va1 mn1 fa2 la2 va2 mn2 fa3 la3 va3 mn3 b1 b2 b3 b4 b5 b6 ln lo kn) (fun (r : Int32) (_ : Unit) => r = mm_findRule x1 x2 fa2 la2 va2 mn2 fa3 la3 va3 mn3 b1 b2 b3 b4 b5 b6) (fun (_ : Unit) => (wd_P cI h tx cs rl gv fa1 la1 va1 mn1 fa2 la2 va2 mn2 fa3 la3 va3 mn3 b1 b2 b3 b4 b5 b6 ln lo kn)) 0 0 := by
  refine gk_I.of (by decide) (Nat.le_of_ble_eq_true rfl) ?_
  intro p e s m below meth c A ls Q H locs hx hb hml hown hts hW hl X
  have hl : lv_has ls 5 [(0, .ref (h 0)), (1, .int x1), (2, .int x2)] := hl
  obtain ⟨tgt, heq⟩ : ∃ t, mm_findRule x1 x2 fa2 la2 va2 mn2 fa3 la3 va3 mn3 b1 b2 b3 b4 b5 b6 = t := ⟨_, rfl⟩
  rw [heq] at X
  rw [mm_findRule] at heq
  have K119 : ∀ (x3 x4 : Int32) (H : Heap) (locs : List Loc) (ls : Array Slot), mm_findRule_119 x1 x2 fa2 la2 va2 mn2 fa3 la3 va3 mn3 b1 b2 b3 b4 b5 b6 x3 x4 = tgt → gk_W D vwCl (gk_T cI cL) s A H locs (wd_P cI h tx cs rl gv fa1 la1 va1 mn1 fa2 la2 va2 mn2 fa3 la3 va3 mn3 b1 b2 b3 b4 b5 b6 ln lo kn) → lv_has ls 5 [(0, .ref (h 0)), (1, .int x1), (2, .int x2), (3, .int x3), (4, .int x4)] → W p l e rm_findRule s m [.ref (h 0), .int x1, .int x2].toArray below meth c H locs 0 0 Q (F0 m 119 ls []) := by
    intro x3 x4 H locs ls heq hW hl
    rw [mm_findRule_119] at heq
    refine lv_iload_n hx hb d_findRule_119 rfl (lv_at hl 3 rfl) ?_
    refine lv_if_ne (tgt := 129) hx hb d_findRule_120 (by decide) (fun c_1 => ?_) (fun c_1 => ?_)
    · replace heq := (if_neg c_1).symm.trans heq
      refine lv_iload_n hx hb d_findRule_129 rfl (lv_at hl 3 rfl) ?_
      exact X _ () H locs 0 0 130 ls heq hW d_findRule_130 rfl (Nat.le_of_ble_eq_true rfl) (Nat.le_of_ble_eq_true rfl)
    · replace heq := (if_pos c_1).symm.trans heq
      refine lv_sipush (v := 310) hx hb d_findRule_123 (by decide) ?_
      refine lv_goto (tgt := 130) hx hb d_findRule_126 (by decide) ?_
      exact X _ () H locs 0 0 130 ls heq hW d_findRule_130 rfl (Nat.le_of_ble_eq_true rfl) (Nat.le_of_ble_eq_true rfl)
  have K100 : ∀ (x3 x4 : Int32) (H : Heap) (locs : List Loc) (ls : Array Slot), mm_findRule_100 x1 x2 fa2 la2 va2 mn2 fa3 la3 va3 mn3 b1 b2 b3 b4 b5 b6 x3 x4 = tgt → gk_W D vwCl (gk_T cI cL) s A H locs (wd_P cI h tx cs rl gv fa1 la1 va1 mn1 fa2 la2 va2 mn2 fa3 la3 va3 mn3 b1 b2 b3 b4 b5 b6 ln lo kn) → lv_has ls 5 [(0, .ref (h 0)), (1, .int x1), (2, .int x2), (3, .int x3), (4, .int x4)] → W p l e rm_findRule s m [.ref (h 0), .int x1, .int x2].toArray below meth c H locs 0 0 Q (F0 m 100 ls []) := by
    intro x3 x4 H locs ls heq hW hl
    rw [mm_findRule_100] at heq
    refine lv_iload_n hx hb d_findRule_100 rfl (lv_at hl 3 rfl) ?_
    refine lv_if_ne (tgt := 119) hx hb d_findRule_101 (by decide) (fun c_2 => ?_) (fun c_2 => ?_)
    · replace heq := (if_neg c_2).symm.trans heq
      exact K119 x3 x4 H locs ls heq hW (lv_sub hl [0, 1, 2, 3, 4] rfl)
    · replace heq := (if_pos c_2).symm.trans heq
      refine lv_aload_n hx hb d_findRule_104 rfl (lv_at hl 0 rfl) ?_
      refine lv_aload_n hx hb d_findRule_105 rfl (lv_at hl 0 rfl) ?_
      refine va_get (D := D) (C := R_P) (T := F_P) (N := 11) hx hb hts i_P hown hW.1 hW.2.1 0 rfl rfl 7 (by decide) (hts _ w_44) (fun _ h9 => h9) rfl d_findRule_106 ?_
      refine va_getN (D := D) (C := R_B) (T := F_B) (N := 6) hx hb hts i_B hown hW.1 hW.2.1 17 rfl rfl 1 (by decide) (va_Nw.use rfl (hW.2.2.2.2.2.1 _ w_70)) (fun _ h9 => h9) rfl d_findRule_109 ?_
      refine lv_iload hx hb d_findRule_112 (lv_at hl 4 rfl) ?_
      refine lv_iload_n hx hb d_findRule_114 rfl (lv_at hl 2 rfl) ?_
      refine gk_goR hW [0, 1, 2, 3, 4, 5, 6, 7, 8, 9, 10, 11, 12, 13, 14, 15, 16, 17] rfl (va_runV (As := [.int b2, .int x4, .int x2]) (rest := []) ⟨hx, hb, hml, hown, hts⟩ (c_ruleOfMarks l D cI cL h tx cs rl gv fa1 la1 va1 mn1 fa2 la2 va2 mn2 fa3 la3 va3 mn3 b1 b2 b3 b4 b5 b6 ln lo kn b2 x4 x2 z_mn2 v_mn2 z_mn3 v_mn3 (by omega) (by omega) _) (gk_cwV hts w_73 w_74 w_75 w_3 k_ruleOfMarks rfl e_ruleOfMarks rfl rfl ⟨Nat.le_of_ble_eq_true rfl, Nat.le_of_ble_eq_true rfl⟩) (gk_preV hW [0, 1, 2, 3, 4, 5, 6, 7, 8, 9, 10, 11, 12, 13, 14, 15, 16, 17] rfl rfl rfl rfl) rfl rfl hl.1 rfl (lv_room (Nat.le_of_ble_eq_true rfl)) d_findRule_115 ⟨Nat.le_of_ble_eq_true rfl, Nat.le_of_ble_eq_true rfl⟩) (fun H locs hW => ?_)
      refine lv_istore_n (lv' := [(3, .int (mm_ruleOfMarks b2 x4 x2 fa2 la2 va2 mn2 fa3 la3 va3 mn3 b3 b6)), (0, .ref (h 0)), (1, .int x1), (2, .int x2), (4, .int x4)]) hx hb d_findRule_118 rfl hl (by decide) rfl (fun ls hl => ?_)
      exact K119 (mm_ruleOfMarks b2 x4 x2 fa2 la2 va2 mn2 fa3 la3 va3 mn3 b3 b6) x4 H locs ls heq hW (lv_sub hl [1, 2, 3, 0, 4] rfl)
  have K83 : ∀ (x3 x4 : Int32) (H : Heap) (locs : List Loc) (ls : Array Slot), mm_findRule_83 x1 x2 fa2 la2 va2 mn2 fa3 la3 va3 mn3 b1 b2 b3 b4 b5 b6 x3 x4 = tgt → gk_W D vwCl (gk_T cI cL) s A H locs (wd_P cI h tx cs rl gv fa1 la1 va1 mn1 fa2 la2 va2 mn2 fa3 la3 va3 mn3 b1 b2 b3 b4 b5 b6 ln lo kn) → lv_has ls 5 [(0, .ref (h 0)), (1, .int x1), (2, .int x2), (3, .int x3), (4, .int x4)] → W p l e rm_findRule s m [.ref (h 0), .int x1, .int x2].toArray below meth c H locs 0 0 Q (F0 m 83 ls []) := by
    intro x3 x4 H locs ls heq hW hl
    rw [mm_findRule_83] at heq
    refine lv_iload_n hx hb d_findRule_83 rfl (lv_at hl 3 rfl) ?_
    refine lv_if_ne (tgt := 100) hx hb d_findRule_84 (by decide) (fun c_3 => ?_) (fun c_3 => ?_)
    · replace heq := (if_neg c_3).symm.trans heq
      exact K100 x3 x4 H locs ls heq hW (lv_sub hl [0, 1, 2, 3, 4] rfl)
    · replace heq := (if_pos c_3).symm.trans heq
      refine lv_aload_n hx hb d_findRule_87 rfl (lv_at hl 0 rfl) ?_
      refine va_get (D := D) (C := R_P) (T := F_P) (N := 11) hx hb hts i_P hown hW.1 hW.2.1 0 rfl rfl 7 (by decide) (hts _ w_44) (fun _ h9 => h9) rfl d_findRule_88 ?_
      refine va_getN (D := D) (C := R_B) (T := F_B) (N := 6) hx hb hts i_B hown hW.1 hW.2.1 17 rfl rfl 1 (by decide) (va_Nw.use rfl (hW.2.2.2.2.2.1 _ w_70)) (fun _ h9 => h9) rfl d_findRule_91 ?_
      refine lv_iload hx hb d_findRule_94 (lv_at hl 4 rfl) ?_
      refine gk_goR hW [] rfl (va_runS (As := [.int b2, .int x4]) (rest := []) ⟨hx, hb, hml, hown, hts⟩ (c_ruleOfWords l D cI cL b2 x4 _) (gk_cwS hts w_76 w_77 w_3 k_ruleOfWords rfl e_ruleOfWords rfl rfl ⟨Nat.le_of_ble_eq_true rfl, Nat.le_of_ble_eq_true rfl⟩) (gk_pre hW [] rfl rfl) rfl rfl hl.1 rfl (lv_room (Nat.le_of_ble_eq_true rfl)) d_findRule_96 ⟨Nat.le_of_ble_eq_true rfl, Nat.le_of_ble_eq_true rfl⟩) (fun H locs hW => ?_)
      refine lv_istore_n (lv' := [(3, .int (mm_ruleOfWords b2 x4)), (0, .ref (h 0)), (1, .int x1), (2, .int x2), (4, .int x4)]) hx hb d_findRule_99 rfl hl (by decide) rfl (fun ls hl => ?_)
      exact K100 (mm_ruleOfWords b2 x4) x4 H locs ls heq hW (lv_sub hl [1, 2, 3, 0, 4] rfl)
  have K66 : ∀ (x3 x4 : Int32) (H : Heap) (locs : List Loc) (ls : Array Slot), mm_findRule_66 x1 x2 fa2 la2 va2 mn2 fa3 la3 va3 mn3 b1 b2 b3 b4 b5 b6 x3 x4 = tgt → gk_W D vwCl (gk_T cI cL) s A H locs (wd_P cI h tx cs rl gv fa1 la1 va1 mn1 fa2 la2 va2 mn2 fa3 la3 va3 mn3 b1 b2 b3 b4 b5 b6 ln lo kn) → lv_has ls 5 [(0, .ref (h 0)), (1, .int x1), (2, .int x2), (3, .int x3), (4, .int x4)] → W p l e rm_findRule s m [.ref (h 0), .int x1, .int x2].toArray below meth c H locs 0 0 Q (F0 m 66 ls []) := by
    intro x3 x4 H locs ls heq hW hl
    rw [mm_findRule_66] at heq
    refine lv_iload_n hx hb d_findRule_66 rfl (lv_at hl 3 rfl) ?_
    refine lv_if_ne (tgt := 83) hx hb d_findRule_67 (by decide) (fun c_4 => ?_) (fun c_4 => ?_)
    · replace heq := (if_neg c_4).symm.trans heq
      exact K83 x3 x4 H locs ls heq hW (lv_sub hl [0, 1, 2, 3, 4] rfl)
    · replace heq := (if_pos c_4).symm.trans heq
      refine lv_aload_n hx hb d_findRule_70 rfl (lv_at hl 0 rfl) ?_
      refine va_get (D := D) (C := R_P) (T := F_P) (N := 11) hx hb hts i_P hown hW.1 hW.2.1 0 rfl rfl 7 (by decide) (hts _ w_44) (fun _ h9 => h9) rfl d_findRule_71 ?_
      refine va_getN (D := D) (C := R_B) (T := F_B) (N := 6) hx hb hts i_B hown hW.1 hW.2.1 17 rfl rfl 1 (by decide) (va_Nw.use rfl (hW.2.2.2.2.2.1 _ w_70)) (fun _ h9 => h9) rfl d_findRule_74 ?_
      refine lv_iload hx hb d_findRule_77 (lv_at hl 4 rfl) ?_
      refine gk_goR hW [] rfl (va_runS (As := [.int b2, .int x4]) (rest := []) ⟨hx, hb, hml, hown, hts⟩ (c_ruleOfNumbers l D cI cL b2 x4 _) (gk_cwS hts w_78 w_79 w_3 k_ruleOfNumbers rfl e_ruleOfNumbers rfl rfl ⟨Nat.le_of_ble_eq_true rfl, Nat.le_of_ble_eq_true rfl⟩) (gk_pre hW [] rfl rfl) rfl rfl hl.1 rfl (lv_room (Nat.le_of_ble_eq_true rfl)) d_findRule_79 ⟨Nat.le_of_ble_eq_true rfl, Nat.le_of_ble_eq_true rfl⟩) (fun H locs hW => ?_)
      refine lv_istore_n (lv' := [(3, .int (mm_ruleOfNumbers b2 x4)), (0, .ref (h 0)), (1, .int x1), (2, .int x2), (4, .int x4)]) hx hb d_findRule_82 rfl hl (by decide) rfl (fun ls hl => ?_)
      exact K83 (mm_ruleOfNumbers b2 x4) x4 H locs ls heq hW (lv_sub hl [1, 2, 3, 0, 4] rfl)
  have K48 : ∀ (x3 x4 : Int32) (H : Heap) (locs : List Loc) (ls : Array Slot), mm_findRule_48 x1 x2 fa2 la2 va2 mn2 fa3 la3 va3 mn3 b1 b2 b3 b4 b5 b6 x3 x4 = tgt → gk_W D vwCl (gk_T cI cL) s A H locs (wd_P cI h tx cs rl gv fa1 la1 va1 mn1 fa2 la2 va2 mn2 fa3 la3 va3 mn3 b1 b2 b3 b4 b5 b6 ln lo kn) → lv_has ls 5 [(0, .ref (h 0)), (1, .int x1), (2, .int x2), (3, .int x3), (4, .int x4)] → W p l e rm_findRule s m [.ref (h 0), .int x1, .int x2].toArray below meth c H locs 0 0 Q (F0 m 48 ls []) := by
    intro x3 x4 H locs ls heq hW hl
    rw [mm_findRule_48] at heq
    refine lv_iload_n hx hb d_findRule_48 rfl (lv_at hl 3 rfl) ?_
    refine lv_if_ne (tgt := 66) hx hb d_findRule_49 (by decide) (fun c_5 => ?_) (fun c_5 => ?_)
    · replace heq := (if_neg c_5).symm.trans heq
      exact K66 x3 x4 H locs ls heq hW (lv_sub hl [0, 1, 2, 3, 4] rfl)
    · replace heq := (if_pos c_5).symm.trans heq
      refine lv_aload_n hx hb d_findRule_52 rfl (lv_at hl 0 rfl) ?_
      refine lv_aload_n hx hb d_findRule_53 rfl (lv_at hl 0 rfl) ?_
      refine va_get (D := D) (C := R_P) (T := F_P) (N := 11) hx hb hts i_P hown hW.1 hW.2.1 0 rfl rfl 7 (by decide) (hts _ w_44) (fun _ h9 => h9) rfl d_findRule_54 ?_
      refine va_getN (D := D) (C := R_B) (T := F_B) (N := 6) hx hb hts i_B hown hW.1 hW.2.1 17 rfl rfl 1 (by decide) (va_Nw.use rfl (hW.2.2.2.2.2.1 _ w_70)) (fun _ h9 => h9) rfl d_findRule_57 ?_
      refine lv_iload hx hb d_findRule_60 (lv_at hl 4 rfl) ?_
      refine gk_goR hW [0, 1, 2, 3, 4, 5, 6, 7, 8, 9, 10, 11, 12, 13, 14, 15, 16, 17] rfl (va_runV (As := [.int b2, .int x4]) (rest := []) ⟨hx, hb, hml, hown, hts⟩ (c_ruleOfSigns l D cI cL h tx cs rl gv fa1 la1 va1 mn1 fa2 la2 va2 mn2 fa3 la3 va3 mn3 b1 b2 b3 b4 b5 b6 ln lo kn b2 x4 _) (gk_cwV hts w_80 w_81 w_82 w_3 k_ruleOfSigns rfl e_ruleOfSigns rfl rfl ⟨Nat.le_of_ble_eq_true rfl, Nat.le_of_ble_eq_true rfl⟩) (gk_preV hW [0, 1, 2, 3, 4, 5, 6, 7, 8, 9, 10, 11, 12, 13, 14, 15, 16, 17] rfl rfl rfl rfl) rfl rfl hl.1 rfl (lv_room (Nat.le_of_ble_eq_true rfl)) d_findRule_62 ⟨Nat.le_of_ble_eq_true rfl, Nat.le_of_ble_eq_true rfl⟩) (fun H locs hW => ?_)
      refine lv_istore_n (lv' := [(3, .int (mm_ruleOfSigns b2 x4 b4)), (0, .ref (h 0)), (1, .int x1), (2, .int x2), (4, .int x4)]) hx hb d_findRule_65 rfl hl (by decide) rfl (fun ls hl => ?_)
      exact K66 (mm_ruleOfSigns b2 x4 b4) x4 H locs ls heq hW (lv_sub hl [1, 2, 3, 0, 4] rfl)
  refine lv_aload_n hx hb d_findRule_0 rfl (lv_at hl 0 rfl) ?_
  refine lv_iload_n hx hb d_findRule_1 rfl (lv_at hl 1 rfl) ?_
  refine gk_goR hW [0, 1, 2, 3, 4, 5, 6, 7, 8, 9, 10, 11, 12, 13, 14, 15, 16, 17] rfl (va_runV (As := [.int x1]) (rest := []) ⟨hx, hb, hml, hown, hts⟩ (c_ruleOfSpaces l D cI cL h tx cs rl gv fa1 la1 va1 mn1 fa2 la2 va2 mn2 fa3 la3 va3 mn3 b1 b2 b3 b4 b5 b6 ln lo kn x1 _) (gk_cwV hts w_66 w_67 w_68 w_3 k_ruleOfSpaces rfl e_ruleOfSpaces rfl rfl ⟨Nat.le_of_ble_eq_true rfl, Nat.le_of_ble_eq_true rfl⟩) (gk_preV hW [0, 1, 2, 3, 4, 5, 6, 7, 8, 9, 10, 11, 12, 13, 14, 15, 16, 17] rfl rfl rfl rfl) rfl rfl hl.1 rfl (lv_room (Nat.le_of_ble_eq_true rfl)) d_findRule_2 ⟨Nat.le_of_ble_eq_true rfl, Nat.le_of_ble_eq_true rfl⟩) (fun H locs hW => ?_)
  refine lv_istore_n (lv' := [(3, .int (mm_ruleOfSpaces x1 b1 b5)), (0, .ref (h 0)), (1, .int x1), (2, .int x2)]) hx hb d_findRule_5 rfl hl (by decide) rfl (fun ls hl => ?_)
  refine lv_iload_n hx hb d_findRule_6 rfl (lv_at hl 0 rfl) ?_
  refine lv_if_eq (tgt := 12) hx hb d_findRule_7 (by decide) (fun c_6 => ?_) (fun c_6 => ?_)
  · replace heq := (if_pos c_6).symm.trans heq
    refine lv_iload_n hx hb d_findRule_12 rfl (lv_at hl 2 rfl) ?_
    refine gk_goR hW [] rfl (va_runS (As := [.int x1]) (rest := []) ⟨hx, hb, hml, hown, hts⟩ (c_standsFor l D cI cL x1 _) (gk_cwS hts w_69 w_41 w_3 k_standsFor rfl e_standsFor rfl rfl ⟨Nat.le_of_ble_eq_true rfl, Nat.le_of_ble_eq_true rfl⟩) (gk_pre hW [] rfl rfl) rfl rfl hl.1 rfl (lv_room (Nat.le_of_ble_eq_true rfl)) d_findRule_13 ⟨Nat.le_of_ble_eq_true rfl, Nat.le_of_ble_eq_true rfl⟩) (fun H locs hW => ?_)
    refine lv_istore (lv' := [(4, .int (mm_standsFor x1)), (3, .int (mm_ruleOfSpaces x1 b1 b5)), (0, .ref (h 0)), (1, .int x1), (2, .int x2)]) hx hb d_findRule_16 hl (by decide) rfl (fun ls hl => ?_)
    refine lv_aload_n hx hb d_findRule_18 rfl (lv_at hl 2 rfl) ?_
    refine va_get (D := D) (C := R_P) (T := F_P) (N := 11) hx hb hts i_P hown hW.1 hW.2.1 0 rfl rfl 7 (by decide) (hts _ w_44) (fun _ h9 => h9) rfl d_findRule_19 ?_
    refine va_getN (D := D) (C := R_B) (T := F_B) (N := 6) hx hb hts i_B hown hW.1 hW.2.1 17 rfl rfl 1 (by decide) (va_Nw.use rfl (hW.2.2.2.2.2.1 _ w_70)) (fun _ h9 => h9) rfl d_findRule_22 ?_
    refine lv_iload hx hb d_findRule_25 (lv_at hl 0 rfl) ?_
    refine gk_goR hW [] rfl (va_runS (As := [.int b2, .int (mm_standsFor x1)]) (rest := []) ⟨hx, hb, hml, hown, hts⟩ (c_ruleOfGlue l D cI cL b2 (mm_standsFor x1) _) (gk_cwS hts w_71 w_72 w_3 k_ruleOfGlue rfl e_ruleOfGlue rfl rfl ⟨Nat.le_of_ble_eq_true rfl, Nat.le_of_ble_eq_true rfl⟩) (gk_pre hW [] rfl rfl) rfl rfl hl.1 rfl (lv_room (Nat.le_of_ble_eq_true rfl)) d_findRule_27 ⟨Nat.le_of_ble_eq_true rfl, Nat.le_of_ble_eq_true rfl⟩) (fun H locs hW => ?_)
    refine lv_istore_n (lv' := [(3, .int (mm_ruleOfGlue b2 (mm_standsFor x1))), (4, .int (mm_standsFor x1)), (0, .ref (h 0)), (1, .int x1), (2, .int x2)]) hx hb d_findRule_30 rfl hl (by decide) rfl (fun ls hl => ?_)
    refine lv_iload_n hx hb d_findRule_31 rfl (lv_at hl 0 rfl) ?_
    refine lv_if_ne (tgt := 48) hx hb d_findRule_32 (by decide) (fun c_7 => ?_) (fun c_7 => ?_)
    · replace heq := (if_neg c_7).symm.trans heq
      exact K48 (mm_ruleOfGlue b2 (mm_standsFor x1)) (mm_standsFor x1) H locs ls heq hW (lv_sub hl [2, 3, 4, 0, 1] rfl)
    · replace heq := (if_pos c_7).symm.trans heq
      refine lv_aload_n hx hb d_findRule_35 rfl (lv_at hl 2 rfl) ?_
      refine va_get (D := D) (C := R_P) (T := F_P) (N := 11) hx hb hts i_P hown hW.1 hW.2.1 0 rfl rfl 7 (by decide) (hts _ w_44) (fun _ h9 => h9) rfl d_findRule_36 ?_
      refine va_getN (D := D) (C := R_B) (T := F_B) (N := 6) hx hb hts i_B hown hW.1 hW.2.1 17 rfl rfl 4 (by decide) (va_Nw.use rfl (hW.2.2.2.2.2.1 _ w_56)) (fun _ h9 => h9) rfl d_findRule_39 ?_
      refine lv_iload hx hb d_findRule_42 (lv_at hl 1 rfl) ?_
      refine gk_goR hW [] rfl (va_runS (As := [.int b5, .int (mm_standsFor x1)]) (rest := []) ⟨hx, hb, hml, hown, hts⟩ (c_ruleAcrossSpaces l D cI cL b5 (mm_standsFor x1) _) (gk_cwS hts w_83 w_84 w_3 k_ruleAcrossSpaces rfl e_ruleAcrossSpaces rfl rfl ⟨Nat.le_of_ble_eq_true rfl, Nat.le_of_ble_eq_true rfl⟩) (gk_pre hW [] rfl rfl) rfl rfl hl.1 rfl (lv_room (Nat.le_of_ble_eq_true rfl)) d_findRule_44 ⟨Nat.le_of_ble_eq_true rfl, Nat.le_of_ble_eq_true rfl⟩) (fun H locs hW => ?_)
      refine lv_istore_n (lv' := [(3, .int (mm_ruleAcrossSpaces b5 (mm_standsFor x1))), (4, .int (mm_standsFor x1)), (0, .ref (h 0)), (1, .int x1), (2, .int x2)]) hx hb d_findRule_47 rfl hl (by decide) rfl (fun ls hl => ?_)
      exact K48 (mm_ruleAcrossSpaces b5 (mm_standsFor x1)) (mm_standsFor x1) H locs ls heq hW (lv_sub hl [2, 3, 4, 0, 1] rfl)
  · replace heq := (if_neg c_6).symm.trans heq
    refine lv_iload_n hx hb d_findRule_10 rfl (lv_at hl 0 rfl) ?_
    exact X _ () H locs 0 0 11 ls heq hW d_findRule_11 rfl (Nat.le_of_ble_eq_true rfl) (Nat.le_of_ble_eq_true rfl)
