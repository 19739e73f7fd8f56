def mm_isIn (x0 : Int32) (x1 : Int64) : Int32 := if x0 < 0 then 0 else (if (lg_cmp ((x1 >>> (x0.toInt64 &&& 63)) &&& 1) 0) = 0 then 0 else 1)
def rm_isIn : Room := { frames := 0, cells := 0, slots := 0, locals := 0 }
set_option maxHeartbeats 4000000 in
set_option maxRecDepth 100000 in
theorem c_isIn (l : Launch) (D : va_G) (cI : ClassId) (cL : ClassId × ClassId) (x0 : Int32) (x1 : Int64) : gk_I l y_isIn (.code y_isIn b_isIn 3 (some .boolean) :: wA) rm_isIn D vwCl (gk_T cI cL) [.int x0, .long x1] [] (fun (r : Int32) (_ : Unit) => r = mm_isIn x0 x1) (fun (_ : Unit) => []) 0 0 := by
  refine gk_I.of (by decide) (Nat.le_of_ble_eq_true rfl) ?_
  intro p e s m below meth c A ls Q H locs hx hb hml hown hts hW hl X
  have hl : lv_has ls 3 [(0, .int x0), (1, .long x1)] := hl
  obtain ⟨tgt, heq⟩ : ∃ t, mm_isIn x0 x1 = t := ⟨_, rfl⟩
  rw [heq] at X
  rw [mm_isIn] at heq
  refine lv_iload_n hx hb d_isIn_0 rfl (lv_at hl 0 rfl) ?_
  refine lv_if_lt (tgt := 18) hx hb d_isIn_1 (by decide) (fun c_1 => ?_) (fun c_1 => ?_)
  · replace heq := (if_pos c_1).symm.trans heq
    refine lv_iconst (v := 0) hx hb d_isIn_18 (by decide) ?_
    exact X _ () H locs 0 0 19 ls heq hW d_isIn_19 rfl (Nat.le_of_ble_eq_true rfl) (Nat.le_of_ble_eq_true rfl)
  · replace heq := (if_neg c_1).symm.trans heq
    refine lv_lload_n hx hb d_isIn_4 rfl (lv_at hl 1 rfl) ?_
    refine lv_iload_n hx hb d_isIn_5 rfl (lv_at hl 0 rfl) ?_
    refine lv_lshr (v := x1 >>> (x0.toInt64 &&& 63)) hx hb d_isIn_6 rfl ?_
    refine lv_lconst (v := 1) hx hb d_isIn_7 (by decide) ?_
    refine lv_land hx hb d_isIn_8 ?_
    refine lv_lconst (v := 0) hx hb d_isIn_9 (by decide) ?_
    refine W.lcmp hx hb d_isIn_10 ?_
    refine lv_if_eq (tgt := 18) hx hb d_isIn_11 (by decide) (fun c_2 => ?_) (fun c_2 => ?_)
    · replace heq := (if_pos c_2).symm.trans heq
      refine lv_iconst (v := 0) hx hb d_isIn_18 (by decide) ?_
      exact X _ () H locs 0 0 19 ls heq hW d_isIn_19 rfl (Nat.le_of_ble_eq_true rfl) (Nat.le_of_ble_eq_true rfl)
    · replace heq := (if_neg c_2).symm.trans heq
      refine lv_iconst (v := 1) hx hb d_isIn_14 (by decide) ?_
      refine lv_goto (tgt := 19) hx hb d_isIn_15 (by decide) ?_
      exact X _ () H locs 0 0 19 ls heq hW d_isIn_19 rfl (Nat.le_of_ble_eq_true rfl) (Nat.le_of_ble_eq_true rfl)
def mm_isCharacter (x0 : Int32) : Int32 := if x0 < 0 then 0 else (if 1114111 < x0 then 0 else 1)
def rm_isCharacter : Room := { frames := 0, cells := 0, slots := 0, locals := 0 }
set_option maxHeartbeats 4000000 in
set_option maxRecDepth 100000 in
theorem c_isCharacter (l : Launch) (D : va_G) (cI : ClassId) (cL : ClassId × ClassId) (x0 : Int32) : gk_I l y_isCharacter (.code y_isCharacter b_isCharacter 1 (some .boolean) :: wA) rm_isCharacter D vwCl (gk_T cI cL) [.int x0] [] (fun (r : Int32) (_ : Unit) => r = mm_isCharacter x0) (fun (_ : Unit) => []) 0 0 := by
  refine gk_I.of (by decide) (Nat.le_of_ble_eq_true rfl) ?_
  intro p e s m below meth c A ls Q H locs hx hb hml hown hts hW hl X
  have hl : lv_has ls 1 [(0, .int x0)] := hl
  obtain ⟨tgt, heq⟩ : ∃ t, mm_isCharacter x0 = t := ⟨_, rfl⟩
  rw [heq] at X
  rw [mm_isCharacter] at heq
  refine lv_iload_n hx hb d_isCharacter_0 rfl (lv_at hl 0 rfl) ?_
  refine lv_if_lt (tgt := 14) hx hb d_isCharacter_1 (by decide) (fun c_1 => ?_) (fun c_1 => ?_)
  · replace heq := (if_pos c_1).symm.trans heq
    refine lv_iconst (v := 0) hx hb d_isCharacter_14 (by decide) ?_
    exact X _ () H locs 0 0 15 ls heq hW d_isCharacter_15 rfl (Nat.le_of_ble_eq_true rfl) (Nat.le_of_ble_eq_true rfl)
  · replace heq := (if_neg c_1).symm.trans heq
    refine lv_iload_n hx hb d_isCharacter_4 rfl (lv_at hl 0 rfl) ?_
    refine lv_ldc (v := 1114111) hx hb hown (hts _ w_0) d_isCharacter_5 ?_
    refine lv_icmp_gt (tgt := 14) hx hb d_isCharacter_7 (by decide) (fun c_2 => ?_) (fun c_2 => ?_)
    · replace heq := (if_pos c_2).symm.trans heq
      refine lv_iconst (v := 0) hx hb d_isCharacter_14 (by decide) ?_
      exact X _ () H locs 0 0 15 ls heq hW d_isCharacter_15 rfl (Nat.le_of_ble_eq_true rfl) (Nat.le_of_ble_eq_true rfl)
    · replace heq := (if_neg c_2).symm.trans heq
      refine lv_iconst (v := 1) hx hb d_isCharacter_10 (by decide) ?_
      refine lv_goto (tgt := 15) hx hb d_isCharacter_11 (by decide) ?_
      exact X _ () H locs 0 0 15 ls heq hW d_isCharacter_15 rfl (Nat.le_of_ble_eq_true rfl) (Nat.le_of_ble_eq_true rfl)
def mm_isRange (x0 x1 : Int32) : Int32 := if (mm_isCharacter x0) = 0 then 0 else (if (mm_isCharacter x1) = 0 then 0 else (if x1 < x0 then 0 else 1))
def rm_isRange : Room := { frames := 1, cells := 0, slots := 0, locals := 20 }
set_option maxHeartbeats 4000000 in
set_option maxRecDepth 100000 in
theorem c_isRange (l : Launch) (D : va_G) (cI : ClassId) (cL : ClassId × ClassId) (x0 x1 : Int32) : gk_I l y_isRange (.code y_isRange b_isRange 2 (some .boolean) :: wA) rm_isRange D vwCl (gk_T cI cL) [.int x0, .int x1] [] (fun (r : Int32) (_ : Unit) => r = mm_isRange x0 x1) (fun (_ : Unit) => []) 0 0 := by
  refine gk_I.of (by decide) (Nat.le_of_ble_eq_true rfl) ?_
  intro p e s m below meth c A ls Q H locs hx hb hml hown hts hW hl X
  have hl : lv_has ls 2 [(0, .int x0), (1, .int x1)] := hl
  obtain ⟨tgt, heq⟩ : ∃ t, mm_isRange x0 x1 = t := ⟨_, rfl⟩
  rw [heq] at X
  rw [mm_isRange] at heq
  refine lv_iload_n hx hb d_isRange_0 rfl (lv_at hl 0 rfl) ?_
  refine gk_goR hW [] rfl (va_runS (As := [.int x0]) (rest := []) ⟨hx, hb, hml, hown, hts⟩ (c_isCharacter l D cI cL x0 _) (gk_cwS hts w_1 w_2 w_3 k_isCharacter rfl e_isCharacter rfl rfl ⟨Nat.le_of_ble_eq_true rfl, Nat.le_of_ble_eq_true rfl⟩) (gk_pre hW [] rfl rfl) rfl rfl hl.1 rfl (lv_room (Nat.le_of_ble_eq_true rfl)) d_isRange_1 ⟨Nat.le_of_ble_eq_true rfl, Nat.le_of_ble_eq_true rfl⟩) (fun H locs hW => ?_)
  refine lv_if_eq (tgt := 23) hx hb d_isRange_4 (by decide) (fun c_1 => ?_) (fun c_1 => ?_)
  · replace heq := (if_pos c_1).symm.trans heq
    refine lv_iconst (v := 0) hx hb d_isRange_23 (by decide) ?_
    exact X _ () H locs 0 0 24 ls heq hW d_isRange_24 rfl (Nat.le_of_ble_eq_true rfl) (Nat.le_of_ble_eq_true rfl)
  · replace heq := (if_neg c_1).symm.trans heq
    refine lv_iload_n hx hb d_isRange_7 rfl (lv_at hl 1 rfl) ?_
    refine gk_goR hW [] rfl (va_runS (As := [.int x1]) (rest := []) ⟨hx, hb, hml, hown, hts⟩ (c_isCharacter l D cI cL x1 _) (gk_cwS hts w_1 w_2 w_3 k_isCharacter rfl e_isCharacter rfl rfl ⟨Nat.le_of_ble_eq_true rfl, Nat.le_of_ble_eq_true rfl⟩) (gk_pre hW [] rfl rfl) rfl rfl hl.1 rfl (lv_room (Nat.le_of_ble_eq_true rfl)) d_isRange_8 ⟨Nat.le_of_ble_eq_true rfl, Nat.le_of_ble_eq_true rfl⟩) (fun H locs hW => ?_)
    refine lv_if_eq (tgt := 23) hx hb d_isRange_11 (by decide) (fun c_2 => ?_) (fun c_2 => ?_)
    · replace heq := (if_pos c_2).symm.trans heq
      refine lv_iconst (v := 0) hx hb d_isRange_23 (by decide) ?_
      exact X _ () H locs 0 0 24 ls heq hW d_isRange_24 rfl (Nat.le_of_ble_eq_true rfl) (Nat.le_of_ble_eq_true rfl)
    · replace heq := (if_neg c_2).symm.trans heq
      refine lv_iload_n hx hb d_isRange_14 rfl (lv_at hl 0 rfl) ?_
      refine lv_iload_n hx hb d_isRange_15 rfl (lv_at hl 1 rfl) ?_
      refine lv_icmp_gt (tgt := 23) hx hb d_isRange_16 (by decide) (fun c_3 => ?_) (fun c_3 => ?_)
      · replace heq := (if_pos c_3).symm.trans heq
        refine lv_iconst (v := 0) hx hb d_isRange_23 (by decide) ?_
        exact X _ () H locs 0 0 24 ls heq hW d_isRange_24 rfl (Nat.le_of_ble_eq_true rfl) (Nat.le_of_ble_eq_true rfl)
      · replace heq := (if_neg c_3).symm.trans heq
        refine lv_iconst (v := 1) hx hb d_isRange_19 (by decide) ?_
        refine lv_goto (tgt := 24) hx hb d_isRange_20 (by decide) ?_
        exact X _ () H locs 0 0 24 ls heq hW d_isRange_24 rfl (Nat.le_of_ble_eq_true rfl) (Nat.le_of_ble_eq_true rfl)
def mm_standsFor (x0 : Int32) : Int32 := if (mm_isIn x0 384) = 0 then x0 else 27
def rm_standsFor : Room := { frames := 1, cells := 0, slots := 0, locals := 22 }
set_option maxHeartbeats 4000000 in
set_option maxRecDepth 100000 in
theorem c_standsFor (l : Launch) (D : va_G) (cI : ClassId) (cL : ClassId × ClassId) (x0 : Int32) : gk_I l y_standsFor (.code y_standsFor b_standsFor 1 (some .int) :: wA) rm_standsFor D vwCl (gk_T cI cL) [.int x0] [] (fun (r : Int32) (_ : Unit) => r = mm_standsFor x0) (fun (_ : Unit) => []) 0 0 := by
  refine gk_I.of (by decide) (Nat.le_of_ble_eq_true rfl) ?_
  intro p e s m below meth c A ls Q H locs hx hb hml hown hts hW hl X
  have hl : lv_has ls 1 [(0, .int x0)] := hl
  obtain ⟨tgt, heq⟩ : ∃ t, mm_standsFor x0 = t := ⟨_, rfl⟩
  rw [heq] at X
  rw [mm_standsFor] at heq
  refine lv_iload_n hx hb d_standsFor_0 rfl (lv_at hl 0 rfl) ?_
  refine lv_ldc2 (v := 384) hx hb hown (hts _ w_4) d_standsFor_1 ?_
  refine gk_goR hW [] rfl (va_runS (As := [.int x0, .long 384]) (rest := []) ⟨hx, hb, hml, hown, hts⟩ (c_isIn l D cI cL x0 384 _) (gk_cwS hts w_5 w_6 w_3 k_isIn rfl e_isIn rfl rfl ⟨Nat.le_of_ble_eq_true rfl, Nat.le_of_ble_eq_true rfl⟩) (gk_pre hW [] rfl rfl) rfl rfl hl.1 rfl (lv_room (Nat.le_of_ble_eq_true rfl)) d_standsFor_4 ⟨Nat.le_of_ble_eq_true rfl, Nat.le_of_ble_eq_true rfl⟩) (fun H locs hW => ?_)
  refine lv_if_eq (tgt := 15) hx hb d_standsFor_7 (by decide) (fun c_1 => ?_) (fun c_1 => ?_)
  · replace heq := (if_pos c_1).symm.trans heq
    refine lv_iload_n hx hb d_standsFor_15 rfl (lv_at hl 0 rfl) ?_
    exact X _ () H locs 0 0 16 ls heq hW d_standsFor_16 rfl (Nat.le_of_ble_eq_true rfl) (Nat.le_of_ble_eq_true rfl)
  · replace heq := (if_neg c_1).symm.trans heq
    refine lv_bipush (v := 27) hx hb d_standsFor_10 (by decide) ?_
    refine lv_goto (tgt := 16) hx hb d_standsFor_12 (by decide) ?_
    exact X _ () H locs 0 0 16 ls heq hW d_standsFor_16 rfl (Nat.le_of_ble_eq_true rfl) (Nat.le_of_ble_eq_true rfl)
def mm_ruleOfGlue_48 (x0 x1 : Int32) : Int32 := if (mm_isIn x1 71532544) = 0 then 0 else 130
def mm_ruleOfGlue (x0 x1 : Int32) : Int32 := if x0 = 6 then 110 else (if x1 = 6 then 110 else (if x0 = 9 then 120 else (if x1 = 9 then (if x0 = 4 then (mm_ruleOfGlue_48 x0 x1) else (if (mm_isIn x0 10240) = 0 then 121 else (mm_ruleOfGlue_48 x0 x1))) else (mm_ruleOfGlue_48 x0 x1))))
def rm_ruleOfGlue : Room := { frames := 1, cells := 0, slots := 0, locals := 22 }
set_option maxHeartbeats 4000000 in
set_option maxRecDepth 100000 in
theorem c_ruleOfGlue (l : Launch) (D : va_G) (cI : ClassId) (cL : ClassId × ClassId) (x0 x1 : Int32) : gk_I l y_ruleOfGlue (.code y_ruleOfGlue b_ruleOfGlue 2 (some .int) :: wA) rm_ruleOfGlue D vwCl (gk_T cI cL) [.int x0, .int x1] [] (fun (r : Int32) (_ : Unit) => r = mm_ruleOfGlue x0 x1) (fun (_ : Unit) => []) 0 0 := by
  refine gk_I.of (by decide) (Nat.le_of_ble_eq_true rfl) ?_
  intro p e s m below meth c A ls Q H locs hx hb hml hown hts hW hl X
  have hl : lv_has ls 2 [(0, .int x0), (1, .int x1)] := hl
  obtain ⟨tgt, heq⟩ : ∃ t, mm_ruleOfGlue x0 x1 = t := ⟨_, rfl⟩
  rw [heq] at X
  rw [mm_ruleOfGlue] at heq
  have K48 : ∀ (H : Heap) (locs : List Loc) (ls : Array Slot), mm_ruleOfGlue_48 x0 x1 = tgt → gk_W D vwCl (gk_T cI cL) s A H locs [] → lv_has ls 2 [(0, .int x0), (1, .int x1)] → W p l e rm_ruleOfGlue s m [.int x0, .int x1].toArray below meth c H locs 0 0 Q (F0 m 48 ls []) := by
    intro  H locs ls heq hW hl
    rw [mm_ruleOfGlue_48] at heq
    refine lv_iload_n hx hb d_ruleOfGlue_48 rfl (lv_at hl 1 rfl) ?_
    refine lv_ldc2 (v := 71532544) hx hb hown (hts _ w_7) d_ruleOfGlue_49 ?_
    refine gk_goR hW [] rfl (va_runS (As := [.int x1, .long 71532544]) (rest := []) ⟨hx, hb, hml, hown, hts⟩ (c_isIn l D cI cL x1 71532544 _) (gk_cwS hts w_5 w_6 w_3 k_isIn rfl e_isIn rfl rfl ⟨Nat.le_of_ble_eq_true rfl, Nat.le_of_ble_eq_true rfl⟩) (gk_pre hW [] rfl rfl) rfl rfl hl.1 rfl (lv_room (Nat.le_of_ble_eq_true rfl)) d_ruleOfGlue_52 ⟨Nat.le_of_ble_eq_true rfl, Nat.le_of_ble_eq_true rfl⟩) (fun H locs hW => ?_)
    refine lv_if_eq (tgt := 64) hx hb d_ruleOfGlue_55 (by decide) (fun c_1 => ?_) (fun c_1 => ?_)
    · replace heq := (if_pos c_1).symm.trans heq
      refine lv_iconst (v := 0) hx hb d_ruleOfGlue_64 (by decide) ?_
      exact X _ () H locs 0 0 65 ls heq hW d_ruleOfGlue_65 rfl (Nat.le_of_ble_eq_true rfl) (Nat.le_of_ble_eq_true rfl)
    · replace heq := (if_neg c_1).symm.trans heq
      refine lv_sipush (v := 130) hx hb d_ruleOfGlue_58 (by decide) ?_
      refine lv_goto (tgt := 65) hx hb d_ruleOfGlue_61 (by decide) ?_
      exact X _ () H locs 0 0 65 ls heq hW d_ruleOfGlue_65 rfl (Nat.le_of_ble_eq_true rfl) (Nat.le_of_ble_eq_true rfl)
  refine lv_iload_n hx hb d_ruleOfGlue_0 rfl (lv_at hl 0 rfl) ?_
  refine lv_bipush (v := 6) hx hb d_ruleOfGlue_1 (by decide) ?_
  refine lv_icmp_eq (tgt := 12) hx hb d_ruleOfGlue_3 (by decide) (fun c_2 => ?_) (fun c_2 => ?_)
  · replace heq := (if_pos c_2).symm.trans heq
    refine lv_bipush (v := 110) hx hb d_ruleOfGlue_12 (by decide) ?_
    exact X _ () H locs 0 0 14 ls heq hW d_ruleOfGlue_14 rfl (Nat.le_of_ble_eq_true rfl) (Nat.le_of_ble_eq_true rfl)
  · replace heq := (if_neg c_2).symm.trans heq
    refine lv_iload_n hx hb d_ruleOfGlue_6 rfl (lv_at hl 1 rfl) ?_
    refine lv_bipush (v := 6) hx hb d_ruleOfGlue_7 (by decide) ?_
    refine lv_icmp_ne (tgt := 15) hx hb d_ruleOfGlue_9 (by decide) (fun c_3 => ?_) (fun c_3 => ?_)
    · replace heq := (if_neg c_3).symm.trans heq
      refine lv_iload_n hx hb d_ruleOfGlue_15 rfl (lv_at hl 0 rfl) ?_
      refine lv_bipush (v := 9) hx hb d_ruleOfGlue_16 (by decide) ?_
      refine lv_icmp_ne (tgt := 24) hx hb d_ruleOfGlue_18 (by decide) (fun c_4 => ?_) (fun c_4 => ?_)
      · replace heq := (if_neg c_4).symm.trans heq
        refine lv_iload_n hx hb d_ruleOfGlue_24 rfl (lv_at hl 1 rfl) ?_
        refine lv_bipush (v := 9) hx hb d_ruleOfGlue_25 (by decide) ?_
        refine lv_icmp_ne (tgt := 48) hx hb d_ruleOfGlue_27 (by decide) (fun c_5 => ?_) (fun c_5 => ?_)
        · replace heq := (if_neg c_5).symm.trans heq
          exact K48  H locs ls heq hW (lv_sub hl [0, 1] rfl)
        · replace heq := (if_pos c_5).symm.trans heq
          refine lv_iload_n hx hb d_ruleOfGlue_30 rfl (lv_at hl 0 rfl) ?_
          refine lv_iconst (v := 4) hx hb d_ruleOfGlue_31 (by decide) ?_
          refine lv_icmp_eq (tgt := 48) hx hb d_ruleOfGlue_32 (by decide) (fun c_6 => ?_) (fun c_6 => ?_)
          · replace heq := (if_pos c_6).symm.trans heq
            exact K48  H locs ls heq hW (lv_sub hl [0, 1] rfl)
          · replace heq := (if_neg c_6).symm.trans heq
            refine lv_iload_n hx hb d_ruleOfGlue_35 rfl (lv_at hl 0 rfl) ?_
            refine lv_ldc2 (v := 10240) hx hb hown (hts _ w_8) d_ruleOfGlue_36 ?_
            refine gk_goR hW [] rfl (va_runS (As := [.int x0, .long 10240]) (rest := []) ⟨hx, hb, hml, hown, hts⟩ (c_isIn l D cI cL x0 10240 _) (gk_cwS hts w_5 w_6 w_3 k_isIn rfl e_isIn rfl rfl ⟨Nat.le_of_ble_eq_true rfl, Nat.le_of_ble_eq_true rfl⟩) (gk_pre hW [] rfl rfl) rfl rfl hl.1 rfl (lv_room (Nat.le_of_ble_eq_true rfl)) d_ruleOfGlue_39 ⟨Nat.le_of_ble_eq_true rfl, Nat.le_of_ble_eq_true rfl⟩) (fun H locs hW => ?_)
            refine lv_if_ne (tgt := 48) hx hb d_ruleOfGlue_42 (by decide) (fun c_7 => ?_) (fun c_7 => ?_)
            · replace heq := (if_neg c_7).symm.trans heq
              exact K48  H locs ls heq hW (lv_sub hl [0, 1] rfl)
            · replace heq := (if_pos c_7).symm.trans heq
              refine lv_bipush (v := 121) hx hb d_ruleOfGlue_45 (by decide) ?_
              exact X _ () H locs 0 0 47 ls heq hW d_ruleOfGlue_47 rfl (Nat.le_of_ble_eq_true rfl) (Nat.le_of_ble_eq_true rfl)
      · replace heq := (if_pos c_4).symm.trans heq
        refine lv_bipush (v := 120) hx hb d_ruleOfGlue_21 (by decide) ?_
        exact X _ () H locs 0 0 23 ls heq hW d_ruleOfGlue_23 rfl (Nat.le_of_ble_eq_true rfl) (Nat.le_of_ble_eq_true rfl)
    · replace heq := (if_pos c_3).symm.trans heq
      refine lv_bipush (v := 110) hx hb d_ruleOfGlue_12 (by decide) ?_
      exact X _ () H locs 0 0 14 ls heq hW d_ruleOfGlue_14 rfl (Nat.le_of_ble_eq_true rfl) (Nat.le_of_ble_eq_true rfl)
def mm_ruleAcrossSpaces_46 (x0 x1 : Int32) : Int32 := if x0 = 10 then (if x1 = 10 then 170 else 0) else 0
def mm_ruleAcrossSpaces_26 (x0 x1 : Int32) : Int32 := if (mm_isIn x0 98304) = 0 then (mm_ruleAcrossSpaces_46 x0 x1) else (if x1 = 19 then 160 else (mm_ruleAcrossSpaces_46 x0 x1))
def mm_ruleAcrossSpaces (x0 x1 : Int32) : Int32 := if x0 = 20 then 140 else (if x0 = 21 then (if x1 = 20 then 150 else (mm_ruleAcrossSpaces_26 x0 x1)) else (mm_ruleAcrossSpaces_26 x0 x1))
def rm_ruleAcrossSpaces : Room := { frames := 1, cells := 0, slots := 0, locals := 22 }
set_option maxHeartbeats 4000000 in
set_option maxRecDepth 100000 in
theorem c_ruleAcrossSpaces (l : Launch) (D : va_G) (cI : ClassId) (cL : ClassId × ClassId) (x0 x1 : Int32) : gk_I l y_ruleAcrossSpaces (.code y_ruleAcrossSpaces b_ruleAcrossSpaces 2 (some .int) :: wA) rm_ruleAcrossSpaces D vwCl (gk_T cI cL) [.int x0, .int x1] [] (fun (r : Int32) (_ : Unit) => r = mm_ruleAcrossSpaces x0 x1) (fun (_ : Unit) => []) 0 0 := by
  refine gk_I.of (by decide) (Nat.le_of_ble_eq_true rfl) ?_
  intro p e s m below meth c A ls Q H locs hx hb hml hown hts hW hl X
  have hl : lv_has ls 2 [(0, .int x0), (1, .int x1)] := hl
  obtain ⟨tgt, heq⟩ : ∃ t, mm_ruleAcrossSpaces x0 x1 = t := ⟨_, rfl⟩
  rw [heq] at X
  rw [mm_ruleAcrossSpaces] at heq
  have K46 : ∀ (H : Heap) (locs : List Loc) (ls : Array Slot), mm_ruleAcrossSpaces_46 x0 x1 = tgt → gk_W D vwCl (gk_T cI cL) s A H locs [] → lv_has ls 2 [(0, .int x0), (1, .int x1)] → W p l e rm_ruleAcrossSpaces s m [.int x0, .int x1].toArray below meth c H locs 0 0 Q (F0 m 46 ls []) := by
    intro  H locs ls heq hW hl
    rw [mm_ruleAcrossSpaces_46] at heq
    refine lv_iload_n hx hb d_ruleAcrossSpaces_46 rfl (lv_at hl 0 rfl) ?_
    refine lv_bipush (v := 10) hx hb d_ruleAcrossSpaces_47 (by decide) ?_
    refine lv_icmp_ne (tgt := 64) hx hb d_ruleAcrossSpaces_49 (by decide) (fun c_1 => ?_) (fun c_1 => ?_)
    · replace heq := (if_neg c_1).symm.trans heq
      refine lv_iconst (v := 0) hx hb d_ruleAcrossSpaces_64 (by decide) ?_
      exact X _ () H locs 0 0 65 ls heq hW d_ruleAcrossSpaces_65 rfl (Nat.le_of_ble_eq_true rfl) (Nat.le_of_ble_eq_true rfl)
    · replace heq := (if_pos c_1).symm.trans heq
      refine lv_iload_n hx hb d_ruleAcrossSpaces_52 rfl (lv_at hl 1 rfl) ?_
      refine lv_bipush (v := 10) hx hb d_ruleAcrossSpaces_53 (by decide) ?_
      refine lv_icmp_ne (tgt := 64) hx hb d_ruleAcrossSpaces_55 (by decide) (fun c_2 => ?_) (fun c_2 => ?_)
      · replace heq := (if_neg c_2).symm.trans heq
        refine lv_iconst (v := 0) hx hb d_ruleAcrossSpaces_64 (by decide) ?_
        exact X _ () H locs 0 0 65 ls heq hW d_ruleAcrossSpaces_65 rfl (Nat.le_of_ble_eq_true rfl) (Nat.le_of_ble_eq_true rfl)
      · replace heq := (if_pos c_2).symm.trans heq
        refine lv_sipush (v := 170) hx hb d_ruleAcrossSpaces_58 (by decide) ?_
        refine lv_goto (tgt := 65) hx hb d_ruleAcrossSpaces_61 (by decide) ?_
        exact X _ () H locs 0 0 65 ls heq hW d_ruleAcrossSpaces_65 rfl (Nat.le_of_ble_eq_true rfl) (Nat.le_of_ble_eq_true rfl)
  have K26 : ∀ (H : Heap) (locs : List Loc) (ls : Array Slot), mm_ruleAcrossSpaces_26 x0 x1 = tgt → gk_W D vwCl (gk_T cI cL) s A H locs [] → lv_has ls 2 [(0, .int x0), (1, .int x1)] → W p l e rm_ruleAcrossSpaces s m [.int x0, .int x1].toArray below meth c H locs 0 0 Q (F0 m 26 ls []) := by
    intro  H locs ls heq hW hl
    rw [mm_ruleAcrossSpaces_26] at heq
    refine lv_iload_n hx hb d_ruleAcrossSpaces_26 rfl (lv_at hl 0 rfl) ?_
    refine lv_ldc2 (v := 98304) hx hb hown (hts _ w_9) d_ruleAcrossSpaces_27 ?_
    refine gk_goR hW [] rfl (va_runS (As := [.int x0, .long 98304]) (rest := []) ⟨hx, hb, hml, hown, hts⟩ (c_isIn l D cI cL x0 98304 _) (gk_cwS hts w_5 w_6 w_3 k_isIn rfl e_isIn rfl rfl ⟨Nat.le_of_ble_eq_true rfl, Nat.le_of_ble_eq_true rfl⟩) (gk_pre hW [] rfl rfl) rfl rfl hl.1 rfl (lv_room (Nat.le_of_ble_eq_true rfl)) d_ruleAcrossSpaces_30 ⟨Nat.le_of_ble_eq_true rfl, Nat.le_of_ble_eq_true rfl⟩) (fun H locs hW => ?_)
    refine lv_if_eq (tgt := 46) hx hb d_ruleAcrossSpaces_33 (by decide) (fun c_3 => ?_) (fun c_3 => ?_)
    · replace heq := (if_pos c_3).symm.trans heq
      exact K46  H locs ls heq hW (lv_sub hl [0, 1] rfl)
    · replace heq := (if_neg c_3).symm.trans heq
      refine lv_iload_n hx hb d_ruleAcrossSpaces_36 rfl (lv_at hl 1 rfl) ?_
      refine lv_bipush (v := 19) hx hb d_ruleAcrossSpaces_37 (by decide) ?_
      refine lv_icmp_ne (tgt := 46) hx hb d_ruleAcrossSpaces_39 (by decide) (fun c_4 => ?_) (fun c_4 => ?_)
      · replace heq := (if_neg c_4).symm.trans heq
        exact K46  H locs ls heq hW (lv_sub hl [0, 1] rfl)
      · replace heq := (if_pos c_4).symm.trans heq
        refine lv_sipush (v := 160) hx hb d_ruleAcrossSpaces_42 (by decide) ?_
        exact X _ () H locs 0 0 45 ls heq hW d_ruleAcrossSpaces_45 rfl (Nat.le_of_ble_eq_true rfl) (Nat.le_of_ble_eq_true rfl)
  refine lv_iload_n hx hb d_ruleAcrossSpaces_0 rfl (lv_at hl 0 rfl) ?_
  refine lv_bipush (v := 20) hx hb d_ruleAcrossSpaces_1 (by decide) ?_
  refine lv_icmp_ne (tgt := 10) hx hb d_ruleAcrossSpaces_3 (by decide) (fun c_5 => ?_) (fun c_5 => ?_)
  · replace heq := (if_neg c_5).symm.trans heq
    refine lv_iload_n hx hb d_ruleAcrossSpaces_10 rfl (lv_at hl 0 rfl) ?_
    refine lv_bipush (v := 21) hx hb d_ruleAcrossSpaces_11 (by decide) ?_
    refine lv_icmp_ne (tgt := 26) hx hb d_ruleAcrossSpaces_13 (by decide) (fun c_6 => ?_) (fun c_6 => ?_)
    · replace heq := (if_neg c_6).symm.trans heq
      exact K26  H locs ls heq hW (lv_sub hl [0, 1] rfl)
    · replace heq := (if_pos c_6).symm.trans heq
      refine lv_iload_n hx hb d_ruleAcrossSpaces_16 rfl (lv_at hl 1 rfl) ?_
      refine lv_bipush (v := 20) hx hb d_ruleAcrossSpaces_17 (by decide) ?_
      refine lv_icmp_ne (tgt := 26) hx hb d_ruleAcrossSpaces_19 (by decide) (fun c_7 => ?_) (fun c_7 => ?_)
      · replace heq := (if_neg c_7).symm.trans heq
        exact K26  H locs ls heq hW (lv_sub hl [0, 1] rfl)
      · replace heq := (if_pos c_7).symm.trans heq
        refine lv_sipush (v := 150) hx hb d_ruleAcrossSpaces_22 (by decide) ?_
        exact X _ () H locs 0 0 25 ls heq hW d_ruleAcrossSpaces_25 rfl (Nat.le_of_ble_eq_true rfl) (Nat.le_of_ble_eq_true rfl)
  · replace heq := (if_pos c_5).symm.trans heq
    refine lv_sipush (v := 140) hx hb d_ruleAcrossSpaces_6 (by decide) ?_
    exact X _ () H locs 0 0 9 ls heq hW d_ruleAcrossSpaces_9 rfl (Nat.le_of_ble_eq_true rfl) (Nat.le_of_ble_eq_true rfl)
def mm_ruleOfNumbers_166 (x0 x1 : Int32) : Int32 := if (mm_isIn x0 79699968) = 0 then 0 else (if x1 = 23 then 250 else 0)
def mm_ruleOfNumbers_140 (x0 x1 : Int32) : Int32 := if (mm_isIn x0 50331648) = 0 then (mm_ruleOfNumbers_166 x0 x1) else (if x1 = 20 then 250 else (if x1 = 23 then 250 else (mm_ruleOfNumbers_166 x0 x1)))
def mm_ruleOfNumbers_116 (x0 x1 : Int32) : Int32 := if (mm_isIn x0 8486912) = 0 then (mm_ruleOfNumbers_140 x0 x1) else (if (mm_isIn x1 50331648) = 0 then (mm_ruleOfNumbers_140 x0 x1) else 250)
def mm_ruleOfNumbers_92 (x0 x1 : Int32) : Int32 := if (mm_isIn x0 402653184) = 0 then (mm_ruleOfNumbers_116 x0 x1) else (if (mm_isIn x1 50331648) = 0 then (mm_ruleOfNumbers_116 x0 x1) else 240)
def mm_ruleOfNumbers_72 (x0 x1 : Int32) : Int32 := if (mm_isIn x0 50331648) = 0 then (mm_ruleOfNumbers_92 x0 x1) else (if (mm_isIn x1 402653184) = 0 then (mm_ruleOfNumbers_92 x0 x1) else 240)
def mm_ruleOfNumbers_52 (x0 x1 : Int32) : Int32 := if (mm_isIn x0 3758096384) = 0 then (mm_ruleOfNumbers_72 x0 x1) else (if x1 = 24 then 231 else (mm_ruleOfNumbers_72 x0 x1))
def mm_ruleOfNumbers_36 (x0 x1 : Int32) : Int32 := if x0 = 25 then (if (mm_isIn x1 3758096384) = 0 then (mm_ruleOfNumbers_52 x0 x1) else 231) else (mm_ruleOfNumbers_52 x0 x1)
def mm_ruleOfNumbers_16 (x0 x1 : Int32) : Int32 := if x0 = 23 then (if (mm_isIn x1 402653184) = 0 then (mm_ruleOfNumbers_36 x0 x1) else 230) else (mm_ruleOfNumbers_36 x0 x1)
def mm_ruleOfNumbers (x0 x1 : Int32) : Int32 := if (mm_isIn x0 402653184) = 0 then (mm_ruleOfNumbers_16 x0 x1) else (if x1 = 23 then 230 else (mm_ruleOfNumbers_16 x0 x1))
def rm_ruleOfNumbers : Room := { frames := 1, cells := 0, slots := 0, locals := 22 }
set_option maxHeartbeats 4000000 in
set_option maxRecDepth 100000 in
theorem c_ruleOfNumbers (l : Launch) (D : va_G) (cI : ClassId) (cL : ClassId × ClassId) (x0 x1 : Int32) : gk_I l y_ruleOfNumbers (.code y_ruleOfNumbers b_ruleOfNumbers 2 (some .int) :: wA) rm_ruleOfNumbers D vwCl (gk_T cI cL) [.int x0, .int x1] [] (fun (r : Int32) (_ : Unit) => r = mm_ruleOfNumbers x0 x1) (fun (_ : Unit) => []) 0 0 := by
  refine gk_I.of (by decide) (Nat.le_of_ble_eq_true rfl) ?_
  intro p e s m below meth c A ls Q H locs hx hb hml hown hts hW hl X
  have hl : lv_has ls 2 [(0, .int x0), (1, .int x1)] := hl
  obtain ⟨tgt, heq⟩ : ∃ t, mm_ruleOfNumbers x0 x1 = t := ⟨_, rfl⟩
  rw [heq] at X
  rw [mm_ruleOfNumbers] at heq
  have K166 : ∀ (H : Heap) (locs : List Loc) (ls : Array Slot), mm_ruleOfNumbers_166 x0 x1 = tgt → gk_W D vwCl (gk_T cI cL) s A H locs [] → lv_has ls 2 [(0, .int x0), (1, .int x1)] → W p l e rm_ruleOfNumbers s m [.int x0, .int x1].toArray below meth c H locs 0 0 Q (F0 m 166 ls []) := by
    intro  H locs ls heq hW hl
    rw [mm_ruleOfNumbers_166] at heq
    refine lv_iload_n hx hb d_ruleOfNumbers_166 rfl (lv_at hl 0 rfl) ?_
    refine lv_ldc2 (v := 79699968) hx hb hown (hts _ w_14) d_ruleOfNumbers_167 ?_
    refine gk_goR hW [] rfl (va_runS (As := [.int x0, .long 79699968]) (rest := []) ⟨hx, hb, hml, hown, hts⟩ (c_isIn l D cI cL x0 79699968 _) (gk_cwS hts w_5 w_6 w_3 k_isIn rfl e_isIn rfl rfl ⟨Nat.le_of_ble_eq_true rfl, Nat.le_of_ble_eq_true rfl⟩) (gk_pre hW [] rfl rfl) rfl rfl hl.1 rfl (lv_room (Nat.le_of_ble_eq_true rfl)) d_ruleOfNumbers_170 ⟨Nat.le_of_ble_eq_true rfl, Nat.le_of_ble_eq_true rfl⟩) (fun H locs hW => ?_)
    refine lv_if_eq (tgt := 188) hx hb d_ruleOfNumbers_173 (by decide) (fun c_1 => ?_) (fun c_1 => ?_)
    · replace heq := (if_pos c_1).symm.trans heq
      refine lv_iconst (v := 0) hx hb d_ruleOfNumbers_188 (by decide) ?_
      exact X _ () H locs 0 0 189 ls heq hW d_ruleOfNumbers_189 rfl (Nat.le_of_ble_eq_true rfl) (Nat.le_of_ble_eq_true rfl)
    · replace heq := (if_neg c_1).symm.trans heq
      refine lv_iload_n hx hb d_ruleOfNumbers_176 rfl (lv_at hl 1 rfl) ?_
      refine lv_bipush (v := 23) hx hb d_ruleOfNumbers_177 (by decide) ?_
      refine lv_icmp_ne (tgt := 188) hx hb d_ruleOfNumbers_179 (by decide) (fun c_2 => ?_) (fun c_2 => ?_)
      · replace heq := (if_neg c_2).symm.trans heq
        refine lv_iconst (v := 0) hx hb d_ruleOfNumbers_188 (by decide) ?_
        exact X _ () H locs 0 0 189 ls heq hW d_ruleOfNumbers_189 rfl (Nat.le_of_ble_eq_true rfl) (Nat.le_of_ble_eq_true rfl)
      · replace heq := (if_pos c_2).symm.trans heq
        refine lv_sipush (v := 250) hx hb d_ruleOfNumbers_182 (by decide) ?_
        refine lv_goto (tgt := 189) hx hb d_ruleOfNumbers_185 (by decide) ?_
        exact X _ () H locs 0 0 189 ls heq hW d_ruleOfNumbers_189 rfl (Nat.le_of_ble_eq_true rfl) (Nat.le_of_ble_eq_true rfl)
  have K140 : ∀ (H : Heap) (locs : List Loc) (ls : Array Slot), mm_ruleOfNumbers_140 x0 x1 = tgt → gk_W D vwCl (gk_T cI cL) s A H locs [] → lv_has ls 2 [(0, .int x0), (1, .int x1)] → W p l e rm_ruleOfNumbers s m [.int x0, .int x1].toArray below meth c H locs 0 0 Q (F0 m 140 ls []) := by
    intro  H locs ls heq hW hl
    rw [mm_ruleOfNumbers_140] at heq
    refine lv_iload_n hx hb d_ruleOfNumbers_140 rfl (lv_at hl 0 rfl) ?_
    refine lv_ldc2 (v := 50331648) hx hb hown (hts _ w_12) d_ruleOfNumbers_141 ?_
    refine gk_goR hW [] rfl (va_runS (As := [.int x0, .long 50331648]) (rest := []) ⟨hx, hb, hml, hown, hts⟩ (c_isIn l D cI cL x0 50331648 _) (gk_cwS hts w_5 w_6 w_3 k_isIn rfl e_isIn rfl rfl ⟨Nat.le_of_ble_eq_true rfl, Nat.le_of_ble_eq_true rfl⟩) (gk_pre hW [] rfl rfl) rfl rfl hl.1 rfl (lv_room (Nat.le_of_ble_eq_true rfl)) d_ruleOfNumbers_144 ⟨Nat.le_of_ble_eq_true rfl, Nat.le_of_ble_eq_true rfl⟩) (fun H locs hW => ?_)
    refine lv_if_eq (tgt := 166) hx hb d_ruleOfNumbers_147 (by decide) (fun c_3 => ?_) (fun c_3 => ?_)
    · replace heq := (if_pos c_3).symm.trans heq
      exact K166  H locs ls heq hW (lv_sub hl [0, 1] rfl)
    · replace heq := (if_neg c_3).symm.trans heq
      refine lv_iload_n hx hb d_ruleOfNumbers_150 rfl (lv_at hl 1 rfl) ?_
      refine lv_bipush (v := 20) hx hb d_ruleOfNumbers_151 (by decide) ?_
      refine lv_icmp_eq (tgt := 162) hx hb d_ruleOfNumbers_153 (by decide) (fun c_4 => ?_) (fun c_4 => ?_)
      · replace heq := (if_pos c_4).symm.trans heq
        refine lv_sipush (v := 250) hx hb d_ruleOfNumbers_162 (by decide) ?_
        exact X _ () H locs 0 0 165 ls heq hW d_ruleOfNumbers_165 rfl (Nat.le_of_ble_eq_true rfl) (Nat.le_of_ble_eq_true rfl)
      · replace heq := (if_neg c_4).symm.trans heq
        refine lv_iload_n hx hb d_ruleOfNumbers_156 rfl (lv_at hl 1 rfl) ?_
        refine lv_bipush (v := 23) hx hb d_ruleOfNumbers_157 (by decide) ?_
        refine lv_icmp_ne (tgt := 166) hx hb d_ruleOfNumbers_159 (by decide) (fun c_5 => ?_) (fun c_5 => ?_)
        · replace heq := (if_neg c_5).symm.trans heq
          exact K166  H locs ls heq hW (lv_sub hl [0, 1] rfl)
        · replace heq := (if_pos c_5).symm.trans heq
          refine lv_sipush (v := 250) hx hb d_ruleOfNumbers_162 (by decide) ?_
          exact X _ () H locs 0 0 165 ls heq hW d_ruleOfNumbers_165 rfl (Nat.le_of_ble_eq_true rfl) (Nat.le_of_ble_eq_true rfl)
  have K116 : ∀ (H : Heap) (locs : List Loc) (ls : Array Slot), mm_ruleOfNumbers_116 x0 x1 = tgt → gk_W D vwCl (gk_T cI cL) s A H locs [] → lv_has ls 2 [(0, .int x0), (1, .int x1)] → W p l e rm_ruleOfNumbers s m [.int x0, .int x1].toArray below meth c H locs 0 0 Q (F0 m 116 ls []) := by
    intro  H locs ls heq hW hl
    rw [mm_ruleOfNumbers_116] at heq
    refine lv_iload_n hx hb d_ruleOfNumbers_116 rfl (lv_at hl 0 rfl) ?_
    refine lv_ldc2 (v := 8486912) hx hb hown (hts _ w_13) d_ruleOfNumbers_117 ?_
    refine gk_goR hW [] rfl (va_runS (As := [.int x0, .long 8486912]) (rest := []) ⟨hx, hb, hml, hown, hts⟩ (c_isIn l D cI cL x0 8486912 _) (gk_cwS hts w_5 w_6 w_3 k_isIn rfl e_isIn rfl rfl ⟨Nat.le_of_ble_eq_true rfl, Nat.le_of_ble_eq_true rfl⟩) (gk_pre hW [] rfl rfl) rfl rfl hl.1 rfl (lv_room (Nat.le_of_ble_eq_true rfl)) d_ruleOfNumbers_120 ⟨Nat.le_of_ble_eq_true rfl, Nat.le_of_ble_eq_true rfl⟩) (fun H locs hW => ?_)
    refine lv_if_eq (tgt := 140) hx hb d_ruleOfNumbers_123 (by decide) (fun c_6 => ?_) (fun c_6 => ?_)
    · replace heq := (if_pos c_6).symm.trans heq
      exact K140  H locs ls heq hW (lv_sub hl [0, 1] rfl)
    · replace heq := (if_neg c_6).symm.trans heq
      refine lv_iload_n hx hb d_ruleOfNumbers_126 rfl (lv_at hl 1 rfl) ?_
      refine lv_ldc2 (v := 50331648) hx hb hown (hts _ w_12) d_ruleOfNumbers_127 ?_
      refine gk_goR hW [] rfl (va_runS (As := [.int x1, .long 50331648]) (rest := []) ⟨hx, hb, hml, hown, hts⟩ (c_isIn l D cI cL x1 50331648 _) (gk_cwS hts w_5 w_6 w_3 k_isIn rfl e_isIn rfl rfl ⟨Nat.le_of_ble_eq_true rfl, Nat.le_of_ble_eq_true rfl⟩) (gk_pre hW [] rfl rfl) rfl rfl hl.1 rfl (lv_room (Nat.le_of_ble_eq_true rfl)) d_ruleOfNumbers_130 ⟨Nat.le_of_ble_eq_true rfl, Nat.le_of_ble_eq_true rfl⟩) (fun H locs hW => ?_)
      refine lv_if_eq (tgt := 140) hx hb d_ruleOfNumbers_133 (by decide) (fun c_7 => ?_) (fun c_7 => ?_)
      · replace heq := (if_pos c_7).symm.trans heq
        exact K140  H locs ls heq hW (lv_sub hl [0, 1] rfl)
      · replace heq := (if_neg c_7).symm.trans heq
        refine lv_sipush (v := 250) hx hb d_ruleOfNumbers_136 (by decide) ?_
        exact X _ () H locs 0 0 139 ls heq hW d_ruleOfNumbers_139 rfl (Nat.le_of_ble_eq_true rfl) (Nat.le_of_ble_eq_true rfl)
  have K92 : ∀ (H : Heap) (locs : List Loc) (ls : Array Slot), mm_ruleOfNumbers_92 x0 x1 = tgt → gk_W D vwCl (gk_T cI cL) s A H locs [] → lv_has ls 2 [(0, .int x0), (1, .int x1)] → W p l e rm_ruleOfNumbers s m [.int x0, .int x1].toArray below meth c H locs 0 0 Q (F0 m 92 ls []) := by
    intro  H locs ls heq hW hl
    rw [mm_ruleOfNumbers_92] at heq
    refine lv_iload_n hx hb d_ruleOfNumbers_92 rfl (lv_at hl 0 rfl) ?_
    refine lv_ldc2 (v := 402653184) hx hb hown (hts _ w_10) d_ruleOfNumbers_93 ?_
    refine gk_goR hW [] rfl (va_runS (As := [.int x0, .long 402653184]) (rest := []) ⟨hx, hb, hml, hown, hts⟩ (c_isIn l D cI cL x0 402653184 _) (gk_cwS hts w_5 w_6 w_3 k_isIn rfl e_isIn rfl rfl ⟨Nat.le_of_ble_eq_true rfl, Nat.le_of_ble_eq_true rfl⟩) (gk_pre hW [] rfl rfl) rfl rfl hl.1 rfl (lv_room (Nat.le_of_ble_eq_true rfl)) d_ruleOfNumbers_96 ⟨Nat.le_of_ble_eq_true rfl, Nat.le_of_ble_eq_true rfl⟩) (fun H locs hW => ?_)
    refine lv_if_eq (tgt := 116) hx hb d_ruleOfNumbers_99 (by decide) (fun c_8 => ?_) (fun c_8 => ?_)
    · replace heq := (if_pos c_8).symm.trans heq
      exact K116  H locs ls heq hW (lv_sub hl [0, 1] rfl)
    · replace heq := (if_neg c_8).symm.trans heq
      refine lv_iload_n hx hb d_ruleOfNumbers_102 rfl (lv_at hl 1 rfl) ?_
      refine lv_ldc2 (v := 50331648) hx hb hown (hts _ w_12) d_ruleOfNumbers_103 ?_
      refine gk_goR hW [] rfl (va_runS (As := [.int x1, .long 50331648]) (rest := []) ⟨hx, hb, hml, hown, hts⟩ (c_isIn l D cI cL x1 50331648 _) (gk_cwS hts w_5 w_6 w_3 k_isIn rfl e_isIn rfl rfl ⟨Nat.le_of_ble_eq_true rfl, Nat.le_of_ble_eq_true rfl⟩) (gk_pre hW [] rfl rfl) rfl rfl hl.1 rfl (lv_room (Nat.le_of_ble_eq_true rfl)) d_ruleOfNumbers_106 ⟨Nat.le_of_ble_eq_true rfl, Nat.le_of_ble_eq_true rfl⟩) (fun H locs hW => ?_)
      refine lv_if_eq (tgt := 116) hx hb d_ruleOfNumbers_109 (by decide) (fun c_9 => ?_) (fun c_9 => ?_)
      · replace heq := (if_pos c_9).symm.trans heq
        exact K116  H locs ls heq hW (lv_sub hl [0, 1] rfl)
      · replace heq := (if_neg c_9).symm.trans heq
        refine lv_sipush (v := 240) hx hb d_ruleOfNumbers_112 (by decide) ?_
        exact X _ () H locs 0 0 115 ls heq hW d_ruleOfNumbers_115 rfl (Nat.le_of_ble_eq_true rfl) (Nat.le_of_ble_eq_true rfl)
  have K72 : ∀ (H : Heap) (locs : List Loc) (ls : Array Slot), mm_ruleOfNumbers_72 x0 x1 = tgt → gk_W D vwCl (gk_T cI cL) s A H locs [] → lv_has ls 2 [(0, .int x0), (1, .int x1)] → W p l e rm_ruleOfNumbers s m [.int x0, .int x1].toArray below meth c H locs 0 0 Q (F0 m 72 ls []) := by
    intro  H locs ls heq hW hl
    rw [mm_ruleOfNumbers_72] at heq
    refine lv_iload_n hx hb d_ruleOfNumbers_72 rfl (lv_at hl 0 rfl) ?_
    refine lv_ldc2 (v := 50331648) hx hb hown (hts _ w_12) d_ruleOfNumbers_73 ?_
    refine gk_goR hW [] rfl (va_runS (As := [.int x0, .long 50331648]) (rest := []) ⟨hx, hb, hml, hown, hts⟩ (c_isIn l D cI cL x0 50331648 _) (gk_cwS hts w_5 w_6 w_3 k_isIn rfl e_isIn rfl rfl ⟨Nat.le_of_ble_eq_true rfl, Nat.le_of_ble_eq_true rfl⟩) (gk_pre hW [] rfl rfl) rfl rfl hl.1 rfl (lv_room (Nat.le_of_ble_eq_true rfl)) d_ruleOfNumbers_76 ⟨Nat.le_of_ble_eq_true rfl, Nat.le_of_ble_eq_true rfl⟩) (fun H locs hW => ?_)
    refine lv_if_eq (tgt := 92) hx hb d_ruleOfNumbers_79 (by decide) (fun c_10 => ?_) (fun c_10 => ?_)
    · replace heq := (if_pos c_10).symm.trans heq
      exact K92  H locs ls heq hW (lv_sub hl [0, 1] rfl)
    · replace heq := (if_neg c_10).symm.trans heq
      refine lv_iload_n hx hb d_ruleOfNumbers_82 rfl (lv_at hl 1 rfl) ?_
      refine lv_ldc2 (v := 402653184) hx hb hown (hts _ w_10) d_ruleOfNumbers_83 ?_
      refine gk_goR hW [] rfl (va_runS (As := [.int x1, .long 402653184]) (rest := []) ⟨hx, hb, hml, hown, hts⟩ (c_isIn l D cI cL x1 402653184 _) (gk_cwS hts w_5 w_6 w_3 k_isIn rfl e_isIn rfl rfl ⟨Nat.le_of_ble_eq_true rfl, Nat.le_of_ble_eq_true rfl⟩) (gk_pre hW [] rfl rfl) rfl rfl hl.1 rfl (lv_room (Nat.le_of_ble_eq_true rfl)) d_ruleOfNumbers_86 ⟨Nat.le_of_ble_eq_true rfl, Nat.le_of_ble_eq_true rfl⟩) (fun H locs hW => ?_)
      refine lv_if_ne (tgt := 112) hx hb d_ruleOfNumbers_89 (by decide) (fun c_11 => ?_) (fun c_11 => ?_)
      · replace heq := (if_neg c_11).symm.trans heq
        refine lv_sipush (v := 240) hx hb d_ruleOfNumbers_112 (by decide) ?_
        exact X _ () H locs 0 0 115 ls heq hW d_ruleOfNumbers_115 rfl (Nat.le_of_ble_eq_true rfl) (Nat.le_of_ble_eq_true rfl)
      · replace heq := (if_pos c_11).symm.trans heq
        exact K92  H locs ls heq hW (lv_sub hl [0, 1] rfl)
  have K52 : ∀ (H : Heap) (locs : List Loc) (ls : Array Slot), mm_ruleOfNumbers_52 x0 x1 = tgt → gk_W D vwCl (gk_T cI cL) s A H locs [] → lv_has ls 2 [(0, .int x0), (1, .int x1)] → W p l e rm_ruleOfNumbers s m [.int x0, .int x1].toArray below meth c H locs 0 0 Q (F0 m 52 ls []) := by
    intro  H locs ls heq hW hl
    rw [mm_ruleOfNumbers_52] at heq
    refine lv_iload_n hx hb d_ruleOfNumbers_52 rfl (lv_at hl 0 rfl) ?_
    refine lv_ldc2 (v := 3758096384) hx hb hown (hts _ w_11) d_ruleOfNumbers_53 ?_
    refine gk_goR hW [] rfl (va_runS (As := [.int x0, .long 3758096384]) (rest := []) ⟨hx, hb, hml, hown, hts⟩ (c_isIn l D cI cL x0 3758096384 _) (gk_cwS hts w_5 w_6 w_3 k_isIn rfl e_isIn rfl rfl ⟨Nat.le_of_ble_eq_true rfl, Nat.le_of_ble_eq_true rfl⟩) (gk_pre hW [] rfl rfl) rfl rfl hl.1 rfl (lv_room (Nat.le_of_ble_eq_true rfl)) d_ruleOfNumbers_56 ⟨Nat.le_of_ble_eq_true rfl, Nat.le_of_ble_eq_true rfl⟩) (fun H locs hW => ?_)
    refine lv_if_eq (tgt := 72) hx hb d_ruleOfNumbers_59 (by decide) (fun c_12 => ?_) (fun c_12 => ?_)
    · replace heq := (if_pos c_12).symm.trans heq
      exact K72  H locs ls heq hW (lv_sub hl [0, 1] rfl)
    · replace heq := (if_neg c_12).symm.trans heq
      refine lv_iload_n hx hb d_ruleOfNumbers_62 rfl (lv_at hl 1 rfl) ?_
      refine lv_bipush (v := 24) hx hb d_ruleOfNumbers_63 (by decide) ?_
      refine lv_icmp_ne (tgt := 72) hx hb d_ruleOfNumbers_65 (by decide) (fun c_13 => ?_) (fun c_13 => ?_)
      · replace heq := (if_neg c_13).symm.trans heq
        exact K72  H locs ls heq hW (lv_sub hl [0, 1] rfl)
      · replace heq := (if_pos c_13).symm.trans heq
        refine lv_sipush (v := 231) hx hb d_ruleOfNumbers_68 (by decide) ?_
        exact X _ () H locs 0 0 71 ls heq hW d_ruleOfNumbers_71 rfl (Nat.le_of_ble_eq_true rfl) (Nat.le_of_ble_eq_true rfl)
  have K36 : ∀ (H : Heap) (locs : List Loc) (ls : Array Slot), mm_ruleOfNumbers_36 x0 x1 = tgt → gk_W D vwCl (gk_T cI cL) s A H locs [] → lv_has ls 2 [(0, .int x0), (1, .int x1)] → W p l e rm_ruleOfNumbers s m [.int x0, .int x1].toArray below meth c H locs 0 0 Q (F0 m 36 ls []) := by
    intro  H locs ls heq hW hl
    rw [mm_ruleOfNumbers_36] at heq
    refine lv_iload_n hx hb d_ruleOfNumbers_36 rfl (lv_at hl 0 rfl) ?_
    refine lv_bipush (v := 25) hx hb d_ruleOfNumbers_37 (by decide) ?_
    refine lv_icmp_ne (tgt := 52) hx hb d_ruleOfNumbers_39 (by decide) (fun c_14 => ?_) (fun c_14 => ?_)
    · replace heq := (if_neg c_14).symm.trans heq
      exact K52  H locs ls heq hW (lv_sub hl [0, 1] rfl)
    · replace heq := (if_pos c_14).symm.trans heq
      refine lv_iload_n hx hb d_ruleOfNumbers_42 rfl (lv_at hl 1 rfl) ?_
      refine lv_ldc2 (v := 3758096384) hx hb hown (hts _ w_11) d_ruleOfNumbers_43 ?_
      refine gk_goR hW [] rfl (va_runS (As := [.int x1, .long 3758096384]) (rest := []) ⟨hx, hb, hml, hown, hts⟩ (c_isIn l D cI cL x1 3758096384 _) (gk_cwS hts w_5 w_6 w_3 k_isIn rfl e_isIn rfl rfl ⟨Nat.le_of_ble_eq_true rfl, Nat.le_of_ble_eq_true rfl⟩) (gk_pre hW [] rfl rfl) rfl rfl hl.1 rfl (lv_room (Nat.le_of_ble_eq_true rfl)) d_ruleOfNumbers_46 ⟨Nat.le_of_ble_eq_true rfl, Nat.le_of_ble_eq_true rfl⟩) (fun H locs hW => ?_)
      refine lv_if_ne (tgt := 68) hx hb d_ruleOfNumbers_49 (by decide) (fun c_15 => ?_) (fun c_15 => ?_)
      · replace heq := (if_neg c_15).symm.trans heq
        refine lv_sipush (v := 231) hx hb d_ruleOfNumbers_68 (by decide) ?_
        exact X _ () H locs 0 0 71 ls heq hW d_ruleOfNumbers_71 rfl (Nat.le_of_ble_eq_true rfl) (Nat.le_of_ble_eq_true rfl)
      · replace heq := (if_pos c_15).symm.trans heq
        exact K52  H locs ls heq hW (lv_sub hl [0, 1] rfl)
  have K16 : ∀ (H : Heap) (locs : List Loc) (ls : Array Slot), mm_ruleOfNumbers_16 x0 x1 = tgt → gk_W D vwCl (gk_T cI cL) s A H locs [] → lv_has ls 2 [(0, .int x0), (1, .int x1)] → W p l e rm_ruleOfNumbers s m [.int x0, .int x1].toArray below meth c H locs 0 0 Q (F0 m 16 ls []) := by
    intro  H locs ls heq hW hl
    rw [mm_ruleOfNumbers_16] at heq
    refine lv_iload_n hx hb d_ruleOfNumbers_16 rfl (lv_at hl 0 rfl) ?_
    refine lv_bipush (v := 23) hx hb d_ruleOfNumbers_17 (by decide) ?_
    refine lv_icmp_ne (tgt := 36) hx hb d_ruleOfNumbers_19 (by decide) (fun c_16 => ?_) (fun c_16 => ?_)
    · replace heq := (if_neg c_16).symm.trans heq
      exact K36  H locs ls heq hW (lv_sub hl [0, 1] rfl)
    · replace heq := (if_pos c_16).symm.trans heq
      refine lv_iload_n hx hb d_ruleOfNumbers_22 rfl (lv_at hl 1 rfl) ?_
      refine lv_ldc2 (v := 402653184) hx hb hown (hts _ w_10) d_ruleOfNumbers_23 ?_
      refine gk_goR hW [] rfl (va_runS (As := [.int x1, .long 402653184]) (rest := []) ⟨hx, hb, hml, hown, hts⟩ (c_isIn l D cI cL x1 402653184 _) (gk_cwS hts w_5 w_6 w_3 k_isIn rfl e_isIn rfl rfl ⟨Nat.le_of_ble_eq_true rfl, Nat.le_of_ble_eq_true rfl⟩) (gk_pre hW [] rfl rfl) rfl rfl hl.1 rfl (lv_room (Nat.le_of_ble_eq_true rfl)) d_ruleOfNumbers_26 ⟨Nat.le_of_ble_eq_true rfl, Nat.le_of_ble_eq_true rfl⟩) (fun H locs hW => ?_)
      refine lv_if_eq (tgt := 36) hx hb d_ruleOfNumbers_29 (by decide) (fun c_17 => ?_) (fun c_17 => ?_)
      · replace heq := (if_pos c_17).symm.trans heq
        exact K36  H locs ls heq hW (lv_sub hl [0, 1] rfl)
      · replace heq := (if_neg c_17).symm.trans heq
        refine lv_sipush (v := 230) hx hb d_ruleOfNumbers_32 (by decide) ?_
        exact X _ () H locs 0 0 35 ls heq hW d_ruleOfNumbers_35 rfl (Nat.le_of_ble_eq_true rfl) (Nat.le_of_ble_eq_true rfl)
  refine lv_iload_n hx hb d_ruleOfNumbers_0 rfl (lv_at hl 0 rfl) ?_
  refine lv_ldc2 (v := 402653184) hx hb hown (hts _ w_10) d_ruleOfNumbers_1 ?_
  refine gk_goR hW [] rfl (va_runS (As := [.int x0, .long 402653184]) (rest := []) ⟨hx, hb, hml, hown, hts⟩ (c_isIn l D cI cL x0 402653184 _) (gk_cwS hts w_5 w_6 w_3 k_isIn rfl e_isIn rfl rfl ⟨Nat.le_of_ble_eq_true rfl, Nat.le_of_ble_eq_true rfl⟩) (gk_pre hW [] rfl rfl) rfl rfl hl.1 rfl (lv_room (Nat.le_of_ble_eq_true rfl)) d_ruleOfNumbers_4 ⟨Nat.le_of_ble_eq_true rfl, Nat.le_of_ble_eq_true rfl⟩) (fun H locs hW => ?_)
  refine lv_if_eq (tgt := 16) hx hb d_ruleOfNumbers_7 (by decide) (fun c_18 => ?_) (fun c_18 => ?_)
  · replace heq := (if_pos c_18).symm.trans heq
    exact K16  H locs ls heq hW (lv_sub hl [0, 1] rfl)
  · replace heq := (if_neg c_18).symm.trans heq
    refine lv_iload_n hx hb d_ruleOfNumbers_10 rfl (lv_at hl 1 rfl) ?_
    refine lv_bipush (v := 23) hx hb d_ruleOfNumbers_11 (by decide) ?_
    refine lv_icmp_eq (tgt := 32) hx hb d_ruleOfNumbers_13 (by decide) (fun c_19 => ?_) (fun c_19 => ?_)
    · replace heq := (if_pos c_19).symm.trans heq
      refine lv_sipush (v := 230) hx hb d_ruleOfNumbers_32 (by decide) ?_
      exact X _ () H locs 0 0 35 ls heq hW d_ruleOfNumbers_35 rfl (Nat.le_of_ble_eq_true rfl) (Nat.le_of_ble_eq_true rfl)
    · replace heq := (if_neg c_19).symm.trans heq
      exact K16  H locs ls heq hW (lv_sub hl [0, 1] rfl)
def mm_ruleOfWords_144 (x0 x1 : Int32) : Int32 := if x0 = 22 then (if (mm_isIn x1 402653184) = 0 then 0 else 290) else 0
def mm_ruleOfWords_120 (x0 x1 : Int32) : Int32 := if (mm_isIn x0 402653184) = 0 then (mm_ruleOfWords_144 x0 x1) else (if (mm_isIn x1 402653184) = 0 then (mm_ruleOfWords_144 x0 x1) else 280)
def mm_ruleOfWords_100 (x0 x1 : Int32) : Int32 := if x0 = 25 then (if (mm_isIn x1 133143986176) = 0 then (mm_ruleOfWords_120 x0 x1) else 270) else (mm_ruleOfWords_120 x0 x1)
def mm_ruleOfWords_84 (x0 x1 : Int32) : Int32 := if (mm_isIn x0 133143986176) = 0 then (mm_ruleOfWords_100 x0 x1) else (if x1 = 24 then 270 else (mm_ruleOfWords_100 x0 x1))
def mm_ruleOfWords_74 (x0 x1 : Int32) : Int32 := if x1 = 36 then 260 else (mm_ruleOfWords_84 x0 x1)
def mm_ruleOfWords_62 (x0 x1 : Int32) : Int32 := if x0 = 36 then (mm_ruleOfWords_74 x0 x1) else (if x0 = 33 then (mm_ruleOfWords_74 x0 x1) else (mm_ruleOfWords_84 x0 x1))
def mm_ruleOfWords_46 (x0 x1 : Int32) : Int32 := if x1 = 35 then 260 else (if x1 = 36 then 260 else (mm_ruleOfWords_62 x0 x1))
def mm_ruleOfWords_34 (x0 x1 : Int32) : Int32 := if x0 = 35 then (mm_ruleOfWords_46 x0 x1) else (if x0 = 32 then (mm_ruleOfWords_46 x0 x1) else (mm_ruleOfWords_62 x0 x1))
def mm_ruleOfWords (x0 x1 : Int32) : Int32 := if x0 = 34 then (if x1 = 34 then 260 else (if x1 = 35 then 260 else (if x1 = 32 then 260 else (if x1 = 33 then 260 else (mm_ruleOfWords_34 x0 x1))))) else (mm_ruleOfWords_34 x0 x1)
def rm_ruleOfWords : Room := { frames := 1, cells := 0, slots := 0, locals := 22 }
set_option maxHeartbeats 4000000 in
set_option maxRecDepth 100000 in
theorem c_ruleOfWords (l : Launch) (D : va_G) (cI : ClassId) (cL : ClassId × ClassId) (x0 x1 : Int32) : gk_I l y_ruleOfWords (.code y_ruleOfWords b_ruleOfWords 2 (some .int) :: wA) rm_ruleOfWords D vwCl (gk_T cI cL) [.int x0, .int x1] [] (fun (r : Int32) (_ : Unit) => r = mm_ruleOfWords x0 x1) (fun (_ : Unit) => []) 0 0 := by
  refine gk_I.of (by decide) (Nat.le_of_ble_eq_true rfl) ?_
  intro p e s m below meth c A ls Q H locs hx hb hml hown hts hW hl X
  have hl : lv_has ls 2 [(0, .int x0), (1, .int x1)] := hl
  obtain ⟨tgt, heq⟩ : ∃ t, mm_ruleOfWords x0 x1 = t := ⟨_, rfl⟩
  rw [heq] at X
  rw [mm_ruleOfWords] at heq
  have K144 : ∀ (H : Heap) (locs : List Loc) (ls : Array Slot), mm_ruleOfWords_144 x0 x1 = tgt → gk_W D vwCl (gk_T cI cL) s A H locs [] → lv_has ls 2 [(0, .int x0), (1, .int x1)] → W p l e rm_ruleOfWords s m [.int x0, .int x1].toArray below meth c H locs 0 0 Q (F0 m 144 ls []) := by
    intro  H locs ls heq hW hl
    rw [mm_ruleOfWords_144] at heq
    refine lv_iload_n hx hb d_ruleOfWords_144 rfl (lv_at hl 0 rfl) ?_
    refine lv_bipush (v := 22) hx hb d_ruleOfWords_145 (by decide) ?_
    refine lv_icmp_ne (tgt := 166) hx hb d_ruleOfWords_147 (by decide) (fun c_1 => ?_) (fun c_1 => ?_)
    · replace heq := (if_neg c_1).symm.trans heq
      refine lv_iconst (v := 0) hx hb d_ruleOfWords_166 (by decide) ?_
      exact X _ () H locs 0 0 167 ls heq hW d_ruleOfWords_167 rfl (Nat.le_of_ble_eq_true rfl) (Nat.le_of_ble_eq_true rfl)
    · replace heq := (if_pos c_1).symm.trans heq
      refine lv_iload_n hx hb d_ruleOfWords_150 rfl (lv_at hl 1 rfl) ?_
      refine lv_ldc2 (v := 402653184) hx hb hown (hts _ w_10) d_ruleOfWords_151 ?_
      refine gk_goR hW [] rfl (va_runS (As := [.int x1, .long 402653184]) (rest := []) ⟨hx, hb, hml, hown, hts⟩ (c_isIn l D cI cL x1 402653184 _) (gk_cwS hts w_5 w_6 w_3 k_isIn rfl e_isIn rfl rfl ⟨Nat.le_of_ble_eq_true rfl, Nat.le_of_ble_eq_true rfl⟩) (gk_pre hW [] rfl rfl) rfl rfl hl.1 rfl (lv_room (Nat.le_of_ble_eq_true rfl)) d_ruleOfWords_154 ⟨Nat.le_of_ble_eq_true rfl, Nat.le_of_ble_eq_true rfl⟩) (fun H locs hW => ?_)
      refine lv_if_eq (tgt := 166) hx hb d_ruleOfWords_157 (by decide) (fun c_2 => ?_) (fun c_2 => ?_)
      · replace heq := (if_pos c_2).symm.trans heq
        refine lv_iconst (v := 0) hx hb d_ruleOfWords_166 (by decide) ?_
        exact X _ () H locs 0 0 167 ls heq hW d_ruleOfWords_167 rfl (Nat.le_of_ble_eq_true rfl) (Nat.le_of_ble_eq_true rfl)
      · replace heq := (if_neg c_2).symm.trans heq
        refine lv_sipush (v := 290) hx hb d_ruleOfWords_160 (by decide) ?_
        refine lv_goto (tgt := 167) hx hb d_ruleOfWords_163 (by decide) ?_
        exact X _ () H locs 0 0 167 ls heq hW d_ruleOfWords_167 rfl (Nat.le_of_ble_eq_true rfl) (Nat.le_of_ble_eq_true rfl)
  have K120 : ∀ (H : Heap) (locs : List Loc) (ls : Array Slot), mm_ruleOfWords_120 x0 x1 = tgt → gk_W D vwCl (gk_T cI cL) s A H locs [] → lv_has ls 2 [(0, .int x0), (1, .int x1)] → W p l e rm_ruleOfWords s m [.int x0, .int x1].toArray below meth c H locs 0 0 Q (F0 m 120 ls []) := by
    intro  H locs ls heq hW hl
    rw [mm_ruleOfWords_120] at heq
    refine lv_iload_n hx hb d_ruleOfWords_120 rfl (lv_at hl 0 rfl) ?_
    refine lv_ldc2 (v := 402653184) hx hb hown (hts _ w_10) d_ruleOfWords_121 ?_
    refine gk_goR hW [] rfl (va_runS (As := [.int x0, .long 402653184]) (rest := []) ⟨hx, hb, hml, hown, hts⟩ (c_isIn l D cI cL x0 402653184 _) (gk_cwS hts w_5 w_6 w_3 k_isIn rfl e_isIn rfl rfl ⟨Nat.le_of_ble_eq_true rfl, Nat.le_of_ble_eq_true rfl⟩) (gk_pre hW [] rfl rfl) rfl rfl hl.1 rfl (lv_room (Nat.le_of_ble_eq_true rfl)) d_ruleOfWords_124 ⟨Nat.le_of_ble_eq_true rfl, Nat.le_of_ble_eq_true rfl⟩) (fun H locs hW => ?_)
    refine lv_if_eq (tgt := 144) hx hb d_ruleOfWords_127 (by decide) (fun c_3 => ?_) (fun c_3 => ?_)
    · replace heq := (if_pos c_3).symm.trans heq
      exact K144  H locs ls heq hW (lv_sub hl [0, 1] rfl)
    · replace heq := (if_neg c_3).symm.trans heq
      refine lv_iload_n hx hb d_ruleOfWords_130 rfl (lv_at hl 1 rfl) ?_
      refine lv_ldc2 (v := 402653184) hx hb hown (hts _ w_10) d_ruleOfWords_131 ?_
      refine gk_goR hW [] rfl (va_runS (As := [.int x1, .long 402653184]) (rest := []) ⟨hx, hb, hml, hown, hts⟩ (c_isIn l D cI cL x1 402653184 _) (gk_cwS hts w_5 w_6 w_3 k_isIn rfl e_isIn rfl rfl ⟨Nat.le_of_ble_eq_true rfl, Nat.le_of_ble_eq_true rfl⟩) (gk_pre hW [] rfl rfl) rfl rfl hl.1 rfl (lv_room (Nat.le_of_ble_eq_true rfl)) d_ruleOfWords_134 ⟨Nat.le_of_ble_eq_true rfl, Nat.le_of_ble_eq_true rfl⟩) (fun H locs hW => ?_)
      refine lv_if_eq (tgt := 144) hx hb d_ruleOfWords_137 (by decide) (fun c_4 => ?_) (fun c_4 => ?_)
      · replace heq := (if_pos c_4).symm.trans heq
        exact K144  H locs ls heq hW (lv_sub hl [0, 1] rfl)
      · replace heq := (if_neg c_4).symm.trans heq
        refine lv_sipush (v := 280) hx hb d_ruleOfWords_140 (by decide) ?_
        exact X _ () H locs 0 0 143 ls heq hW d_ruleOfWords_143 rfl (Nat.le_of_ble_eq_true rfl) (Nat.le_of_ble_eq_true rfl)
  have K100 : ∀ (H : Heap) (locs : List Loc) (ls : Array Slot), mm_ruleOfWords_100 x0 x1 = tgt → gk_W D vwCl (gk_T cI cL) s A H locs [] → lv_has ls 2 [(0, .int x0), (1, .int x1)] → W p l e rm_ruleOfWords s m [.int x0, .int x1].toArray below meth c H locs 0 0 Q (F0 m 100 ls []) := by
    intro  H locs ls heq hW hl
    rw [mm_ruleOfWords_100] at heq
    refine lv_iload_n hx hb d_ruleOfWords_100 rfl (lv_at hl 0 rfl) ?_
    refine lv_bipush (v := 25) hx hb d_ruleOfWords_101 (by decide) ?_
    refine lv_icmp_ne (tgt := 120) hx hb d_ruleOfWords_103 (by decide) (fun c_5 => ?_) (fun c_5 => ?_)
    · replace heq := (if_neg c_5).symm.trans heq
      exact K120  H locs ls heq hW (lv_sub hl [0, 1] rfl)
    · replace heq := (if_pos c_5).symm.trans heq
      refine lv_iload_n hx hb d_ruleOfWords_106 rfl (lv_at hl 1 rfl) ?_
      refine lv_ldc2 (v := 133143986176) hx hb hown (hts _ w_15) d_ruleOfWords_107 ?_
      refine gk_goR hW [] rfl (va_runS (As := [.int x1, .long 133143986176]) (rest := []) ⟨hx, hb, hml, hown, hts⟩ (c_isIn l D cI cL x1 133143986176 _) (gk_cwS hts w_5 w_6 w_3 k_isIn rfl e_isIn rfl rfl ⟨Nat.le_of_ble_eq_true rfl, Nat.le_of_ble_eq_true rfl⟩) (gk_pre hW [] rfl rfl) rfl rfl hl.1 rfl (lv_room (Nat.le_of_ble_eq_true rfl)) d_ruleOfWords_110 ⟨Nat.le_of_ble_eq_true rfl, Nat.le_of_ble_eq_true rfl⟩) (fun H locs hW => ?_)
      refine lv_if_eq (tgt := 120) hx hb d_ruleOfWords_113 (by decide) (fun c_6 => ?_) (fun c_6 => ?_)
      · replace heq := (if_pos c_6).symm.trans heq
        exact K120  H locs ls heq hW (lv_sub hl [0, 1] rfl)
      · replace heq := (if_neg c_6).symm.trans heq
        refine lv_sipush (v := 270) hx hb d_ruleOfWords_116 (by decide) ?_
        exact X _ () H locs 0 0 119 ls heq hW d_ruleOfWords_119 rfl (Nat.le_of_ble_eq_true rfl) (Nat.le_of_ble_eq_true rfl)
  have K84 : ∀ (H : Heap) (locs : List Loc) (ls : Array Slot), mm_ruleOfWords_84 x0 x1 = tgt → gk_W D vwCl (gk_T cI cL) s A H locs [] → lv_has ls 2 [(0, .int x0), (1, .int x1)] → W p l e rm_ruleOfWords s m [.int x0, .int x1].toArray below meth c H locs 0 0 Q (F0 m 84 ls []) := by
    intro  H locs ls heq hW hl
    rw [mm_ruleOfWords_84] at heq
    refine lv_iload_n hx hb d_ruleOfWords_84 rfl (lv_at hl 0 rfl) ?_
    refine lv_ldc2 (v := 133143986176) hx hb hown (hts _ w_15) d_ruleOfWords_85 ?_
    refine gk_goR hW [] rfl (va_runS (As := [.int x0, .long 133143986176]) (rest := []) ⟨hx, hb, hml, hown, hts⟩ (c_isIn l D cI cL x0 133143986176 _) (gk_cwS hts w_5 w_6 w_3 k_isIn rfl e_isIn rfl rfl ⟨Nat.le_of_ble_eq_true rfl, Nat.le_of_ble_eq_true rfl⟩) (gk_pre hW [] rfl rfl) rfl rfl hl.1 rfl (lv_room (Nat.le_of_ble_eq_true rfl)) d_ruleOfWords_88 ⟨Nat.le_of_ble_eq_true rfl, Nat.le_of_ble_eq_true rfl⟩) (fun H locs hW => ?_)
    refine lv_if_eq (tgt := 100) hx hb d_ruleOfWords_91 (by decide) (fun c_7 => ?_) (fun c_7 => ?_)
    · replace heq := (if_pos c_7).symm.trans heq
      exact K100  H locs ls heq hW (lv_sub hl [0, 1] rfl)
    · replace heq := (if_neg c_7).symm.trans heq
      refine lv_iload_n hx hb d_ruleOfWords_94 rfl (lv_at hl 1 rfl) ?_
      refine lv_bipush (v := 24) hx hb d_ruleOfWords_95 (by decide) ?_
      refine lv_icmp_eq (tgt := 116) hx hb d_ruleOfWords_97 (by decide) (fun c_8 => ?_) (fun c_8 => ?_)
      · replace heq := (if_pos c_8).symm.trans heq
        refine lv_sipush (v := 270) hx hb d_ruleOfWords_116 (by decide) ?_
        exact X _ () H locs 0 0 119 ls heq hW d_ruleOfWords_119 rfl (Nat.le_of_ble_eq_true rfl) (Nat.le_of_ble_eq_true rfl)
      · replace heq := (if_neg c_8).symm.trans heq
        exact K100  H locs ls heq hW (lv_sub hl [0, 1] rfl)
  have K74 : ∀ (H : Heap) (locs : List Loc) (ls : Array Slot), mm_ruleOfWords_74 x0 x1 = tgt → gk_W D vwCl (gk_T cI cL) s A H locs [] → lv_has ls 2 [(0, .int x0), (1, .int x1)] → W p l e rm_ruleOfWords s m [.int x0, .int x1].toArray below meth c H locs 0 0 Q (F0 m 74 ls []) := by
    intro  H locs ls heq hW hl
    rw [mm_ruleOfWords_74] at heq
    refine lv_iload_n hx hb d_ruleOfWords_74 rfl (lv_at hl 1 rfl) ?_
    refine lv_bipush (v := 36) hx hb d_ruleOfWords_75 (by decide) ?_
    refine lv_icmp_ne (tgt := 84) hx hb d_ruleOfWords_77 (by decide) (fun c_9 => ?_) (fun c_9 => ?_)
    · replace heq := (if_neg c_9).symm.trans heq
      exact K84  H locs ls heq hW (lv_sub hl [0, 1] rfl)
    · replace heq := (if_pos c_9).symm.trans heq
      refine lv_sipush (v := 260) hx hb d_ruleOfWords_80 (by decide) ?_
      exact X _ () H locs 0 0 83 ls heq hW d_ruleOfWords_83 rfl (Nat.le_of_ble_eq_true rfl) (Nat.le_of_ble_eq_true rfl)
  have K62 : ∀ (H : Heap) (locs : List Loc) (ls : Array Slot), mm_ruleOfWords_62 x0 x1 = tgt → gk_W D vwCl (gk_T cI cL) s A H locs [] → lv_has ls 2 [(0, .int x0), (1, .int x1)] → W p l e rm_ruleOfWords s m [.int x0, .int x1].toArray below meth c H locs 0 0 Q (F0 m 62 ls []) := by
    intro  H locs ls heq hW hl
    rw [mm_ruleOfWords_62] at heq
    refine lv_iload_n hx hb d_ruleOfWords_62 rfl (lv_at hl 0 rfl) ?_
    refine lv_bipush (v := 36) hx hb d_ruleOfWords_63 (by decide) ?_
    refine lv_icmp_eq (tgt := 74) hx hb d_ruleOfWords_65 (by decide) (fun c_10 => ?_) (fun c_10 => ?_)
    · replace heq := (if_pos c_10).symm.trans heq
      exact K74  H locs ls heq hW (lv_sub hl [0, 1] rfl)
    · replace heq := (if_neg c_10).symm.trans heq
      refine lv_iload_n hx hb d_ruleOfWords_68 rfl (lv_at hl 0 rfl) ?_
      refine lv_bipush (v := 33) hx hb d_ruleOfWords_69 (by decide) ?_
      refine lv_icmp_ne (tgt := 84) hx hb d_ruleOfWords_71 (by decide) (fun c_11 => ?_) (fun c_11 => ?_)
      · replace heq := (if_neg c_11).symm.trans heq
        exact K84  H locs ls heq hW (lv_sub hl [0, 1] rfl)
      · replace heq := (if_pos c_11).symm.trans heq
        exact K74  H locs ls heq hW (lv_sub hl [0, 1] rfl)
  have K46 : ∀ (H : Heap) (locs : List Loc) (ls : Array Slot), mm_ruleOfWords_46 x0 x1 = tgt → gk_W D vwCl (gk_T cI cL) s A H locs [] → lv_has ls 2 [(0, .int x0), (1, .int x1)] → W p l e rm_ruleOfWords s m [.int x0, .int x1].toArray below meth c H locs 0 0 Q (F0 m 46 ls []) := by
    intro  H locs ls heq hW hl
    rw [mm_ruleOfWords_46] at heq
    refine lv_iload_n hx hb d_ruleOfWords_46 rfl (lv_at hl 1 rfl) ?_
    refine lv_bipush (v := 35) hx hb d_ruleOfWords_47 (by decide) ?_
    refine lv_icmp_eq (tgt := 58) hx hb d_ruleOfWords_49 (by decide) (fun c_12 => ?_) (fun c_12 => ?_)
    · replace heq := (if_pos c_12).symm.trans heq
      refine lv_sipush (v := 260) hx hb d_ruleOfWords_58 (by decide) ?_
      exact X _ () H locs 0 0 61 ls heq hW d_ruleOfWords_61 rfl (Nat.le_of_ble_eq_true rfl) (Nat.le_of_ble_eq_true rfl)
    · replace heq := (if_neg c_12).symm.trans heq
      refine lv_iload_n hx hb d_ruleOfWords_52 rfl (lv_at hl 1 rfl) ?_
      refine lv_bipush (v := 36) hx hb d_ruleOfWords_53 (by decide) ?_
      refine lv_icmp_ne (tgt := 62) hx hb d_ruleOfWords_55 (by decide) (fun c_13 => ?_) (fun c_13 => ?_)
      · replace heq := (if_neg c_13).symm.trans heq
        exact K62  H locs ls heq hW (lv_sub hl [0, 1] rfl)
      · replace heq := (if_pos c_13).symm.trans heq
        refine lv_sipush (v := 260) hx hb d_ruleOfWords_58 (by decide) ?_
        exact X _ () H locs 0 0 61 ls heq hW d_ruleOfWords_61 rfl (Nat.le_of_ble_eq_true rfl) (Nat.le_of_ble_eq_true rfl)
  have K34 : ∀ (H : Heap) (locs : List Loc) (ls : Array Slot), mm_ruleOfWords_34 x0 x1 = tgt → gk_W D vwCl (gk_T cI cL) s A H locs [] → lv_has ls 2 [(0, .int x0), (1, .int x1)] → W p l e rm_ruleOfWords s m [.int x0, .int x1].toArray below meth c H locs 0 0 Q (F0 m 34 ls []) := by
    intro  H locs ls heq hW hl
    rw [mm_ruleOfWords_34] at heq
    refine lv_iload_n hx hb d_ruleOfWords_34 rfl (lv_at hl 0 rfl) ?_
    refine lv_bipush (v := 35) hx hb d_ruleOfWords_35 (by decide) ?_
    refine lv_icmp_eq (tgt := 46) hx hb d_ruleOfWords_37 (by decide) (fun c_14 => ?_) (fun c_14 => ?_)
    · replace heq := (if_pos c_14).symm.trans heq
      exact K46  H locs ls heq hW (lv_sub hl [0, 1] rfl)
    · replace heq := (if_neg c_14).symm.trans heq
      refine lv_iload_n hx hb d_ruleOfWords_40 rfl (lv_at hl 0 rfl) ?_
      refine lv_bipush (v := 32) hx hb d_ruleOfWords_41 (by decide) ?_
      refine lv_icmp_ne (tgt := 62) hx hb d_ruleOfWords_43 (by decide) (fun c_15 => ?_) (fun c_15 => ?_)
      · replace heq := (if_neg c_15).symm.trans heq
        exact K62  H locs ls heq hW (lv_sub hl [0, 1] rfl)
      · replace heq := (if_pos c_15).symm.trans heq
        exact K46  H locs ls heq hW (lv_sub hl [0, 1] rfl)
  refine lv_iload_n hx hb d_ruleOfWords_0 rfl (lv_at hl 0 rfl) ?_
  refine lv_bipush (v := 34) hx hb d_ruleOfWords_1 (by decide) ?_
  refine lv_icmp_ne (tgt := 34) hx hb d_ruleOfWords_3 (by decide) (fun c_16 => ?_) (fun c_16 => ?_)
  · replace heq := (if_neg c_16).symm.trans heq
    exact K34  H locs ls heq hW (lv_sub hl [0, 1] rfl)
  · replace heq := (if_pos c_16).symm.trans heq
    refine lv_iload_n hx hb d_ruleOfWords_6 rfl (lv_at hl 1 rfl) ?_
    refine lv_bipush (v := 34) hx hb d_ruleOfWords_7 (by decide) ?_
    refine lv_icmp_eq (tgt := 30) hx hb d_ruleOfWords_9 (by decide) (fun c_17 => ?_) (fun c_17 => ?_)
    · replace heq := (if_pos c_17).symm.trans heq
      refine lv_sipush (v := 260) hx hb d_ruleOfWords_30 (by decide) ?_
      exact X _ () H locs 0 0 33 ls heq hW d_ruleOfWords_33 rfl (Nat.le_of_ble_eq_true rfl) (Nat.le_of_ble_eq_true rfl)
    · replace heq := (if_neg c_17).symm.trans heq
      refine lv_iload_n hx hb d_ruleOfWords_12 rfl (lv_at hl 1 rfl) ?_
      refine lv_bipush (v := 35) hx hb d_ruleOfWords_13 (by decide) ?_
      refine lv_icmp_eq (tgt := 30) hx hb d_ruleOfWords_15 (by decide) (fun c_18 => ?_) (fun c_18 => ?_)
      · replace heq := (if_pos c_18).symm.trans heq
        refine lv_sipush (v := 260) hx hb d_ruleOfWords_30 (by decide) ?_
        exact X _ () H locs 0 0 33 ls heq hW d_ruleOfWords_33 rfl (Nat.le_of_ble_eq_true rfl) (Nat.le_of_ble_eq_true rfl)
      · replace heq := (if_neg c_18).symm.trans heq
        refine lv_iload_n hx hb d_ruleOfWords_18 rfl (lv_at hl 1 rfl) ?_
        refine lv_bipush (v := 32) hx hb d_ruleOfWords_19 (by decide) ?_
        refine lv_icmp_eq (tgt := 30) hx hb d_ruleOfWords_21 (by decide) (fun c_19 => ?_) (fun c_19 => ?_)
        · replace heq := (if_pos c_19).symm.trans heq
          refine lv_sipush (v := 260) hx hb d_ruleOfWords_30 (by decide) ?_
          exact X _ () H locs 0 0 33 ls heq hW d_ruleOfWords_33 rfl (Nat.le_of_ble_eq_true rfl) (Nat.le_of_ble_eq_true rfl)
        · replace heq := (if_neg c_19).symm.trans heq
          refine lv_iload_n hx hb d_ruleOfWords_24 rfl (lv_at hl 1 rfl) ?_
          refine lv_bipush (v := 33) hx hb d_ruleOfWords_25 (by decide) ?_
          refine lv_icmp_ne (tgt := 34) hx hb d_ruleOfWords_27 (by decide) (fun c_20 => ?_) (fun c_20 => ?_)
          · replace heq := (if_neg c_20).symm.trans heq
            exact K34  H locs ls heq hW (lv_sub hl [0, 1] rfl)
          · replace heq := (if_pos c_20).symm.trans heq
            refine lv_sipush (v := 260) hx hb d_ruleOfWords_30 (by decide) ?_
            exact X _ () H locs 0 0 33 ls heq hW d_ruleOfWords_33 rfl (Nat.le_of_ble_eq_true rfl) (Nat.le_of_ble_eq_true rfl)
