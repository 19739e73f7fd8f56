def mm_mIsChar (x0 : Int32) : Int32 := if x0 < 0 then 0 else (if 1114111 < x0 then 0 else 1)
def rm_mIsChar : Room := { frames := 0, cells := 0, slots := 0, locals := 0 }
set_option maxHeartbeats 4000000 in
set_option maxRecDepth 100000 in
theorem c_mIsChar (l : Launch) (D : va_G) (cI : ClassId) (cL : ClassId × ClassId) (x0 : Int32) : gk_I l y_mIsChar (.code y_mIsChar b_mIsChar 1 (some .boolean) :: wA) rm_mIsChar D vwCl (gk_T cI cL) [.int x0] [] (fun (r : Int32) (_ : Unit) => r = mm_mIsChar x0) (fun (_ : Unit) => []) 0 0 := by
  refine gk_I.of (by decide) (Nat.le_of_ble_eq_true rfl) ?_
  intro p e s m below meth c A ls Q H locs hx hb hml hown hts hW hl X
  have hl : lv_has ls 1 [(0, .int x0)] := hl
  obtain ⟨tgt, heq⟩ : ∃ t, mm_mIsChar x0 = t := ⟨_, rfl⟩
  rw [heq] at X
  rw [mm_mIsChar] at heq
  refine lv_iload_n hx hb d_mIsChar_0 rfl (lv_at hl 0 rfl) ?_
  refine lv_if_lt (tgt := 14) hx hb d_mIsChar_1 (by decide) (fun c_1 => ?_) (fun c_1 => ?_)
  · replace heq := (if_pos c_1).symm.trans heq
    refine lv_iconst (v := 0) hx hb d_mIsChar_14 (by decide) ?_
    exact X _ () H locs 0 0 15 ls heq hW d_mIsChar_15 rfl (Nat.le_of_ble_eq_true rfl) (Nat.le_of_ble_eq_true rfl)
  · replace heq := (if_neg c_1).symm.trans heq
    refine lv_iload_n hx hb d_mIsChar_4 rfl (lv_at hl 0 rfl) ?_
    refine lv_ldc (v := 1114111) hx hb hown (hts _ w_137) d_mIsChar_5 ?_
    refine lv_icmp_gt (tgt := 14) hx hb d_mIsChar_7 (by decide) (fun c_2 => ?_) (fun c_2 => ?_)
    · replace heq := (if_pos c_2).symm.trans heq
      refine lv_iconst (v := 0) hx hb d_mIsChar_14 (by decide) ?_
      exact X _ () H locs 0 0 15 ls heq hW d_mIsChar_15 rfl (Nat.le_of_ble_eq_true rfl) (Nat.le_of_ble_eq_true rfl)
    · replace heq := (if_neg c_2).symm.trans heq
      refine lv_iconst (v := 1) hx hb d_mIsChar_10 (by decide) ?_
      refine lv_goto (tgt := 15) hx hb d_mIsChar_11 (by decide) ?_
      exact X _ () H locs 0 0 15 ls heq hW d_mIsChar_15 rfl (Nat.le_of_ble_eq_true rfl) (Nat.le_of_ble_eq_true rfl)
def mm_mIsLetter (x0 : Int32) : Int32 := if x0 = 27 then 1 else (if x0 = 28 then 1 else 0)
def rm_mIsLetter : Room := { frames := 0, cells := 0, slots := 0, locals := 0 }
set_option maxHeartbeats 4000000 in
set_option maxRecDepth 100000 in
theorem c_mIsLetter (l : Launch) (D : va_G) (cI : ClassId) (cL : ClassId × ClassId) (x0 : Int32) : gk_I l y_mIsLetter (.code y_mIsLetter b_mIsLetter 1 (some .boolean) :: wA) rm_mIsLetter D vwCl (gk_T cI cL) [.int x0] [] (fun (r : Int32) (_ : Unit) => r = mm_mIsLetter x0) (fun (_ : Unit) => []) 0 0 := by
  refine gk_I.of (by decide) (Nat.le_of_ble_eq_true rfl) ?_
  intro p e s m below meth c A ls Q H locs hx hb hml hown hts hW hl X
  have hl : lv_has ls 1 [(0, .int x0)] := hl
  obtain ⟨tgt, heq⟩ : ∃ t, mm_mIsLetter x0 = t := ⟨_, rfl⟩
  rw [heq] at X
  rw [mm_mIsLetter] at heq
  refine lv_iload_n hx hb d_mIsLetter_0 rfl (lv_at hl 0 rfl) ?_
  refine lv_bipush (v := 27) hx hb d_mIsLetter_1 (by decide) ?_
  refine lv_icmp_eq (tgt := 12) hx hb d_mIsLetter_3 (by decide) (fun c_1 => ?_) (fun c_1 => ?_)
  · replace heq := (if_pos c_1).symm.trans heq
    refine lv_iconst (v := 1) hx hb d_mIsLetter_12 (by decide) ?_
    refine lv_goto (tgt := 17) hx hb d_mIsLetter_13 (by decide) ?_
    exact X _ () H locs 0 0 17 ls heq hW d_mIsLetter_17 rfl (Nat.le_of_ble_eq_true rfl) (Nat.le_of_ble_eq_true rfl)
  · replace heq := (if_neg c_1).symm.trans heq
    refine lv_iload_n hx hb d_mIsLetter_6 rfl (lv_at hl 0 rfl) ?_
    refine lv_bipush (v := 28) hx hb d_mIsLetter_7 (by decide) ?_
    refine lv_icmp_ne (tgt := 16) hx hb d_mIsLetter_9 (by decide) (fun c_2 => ?_) (fun c_2 => ?_)
    · replace heq := (if_neg c_2).symm.trans heq
      refine lv_iconst (v := 0) hx hb d_mIsLetter_16 (by decide) ?_
      exact X _ () H locs 0 0 17 ls heq hW d_mIsLetter_17 rfl (Nat.le_of_ble_eq_true rfl) (Nat.le_of_ble_eq_true rfl)
    · replace heq := (if_pos c_2).symm.trans heq
      refine lv_iconst (v := 1) hx hb d_mIsLetter_12 (by decide) ?_
      refine lv_goto (tgt := 17) hx hb d_mIsLetter_13 (by decide) ?_
      exact X _ () H locs 0 0 17 ls heq hW d_mIsLetter_17 rfl (Nat.le_of_ble_eq_true rfl) (Nat.le_of_ble_eq_true rfl)
def mm_mIsHangul (x0 : Int32) : Int32 := if x0 < 32 then 0 else (if 36 < x0 then 0 else 1)
def rm_mIsHangul : Room := { frames := 0, cells := 0, slots := 0, locals := 0 }
set_option maxHeartbeats 4000000 in
set_option maxRecDepth 100000 in
theorem c_mIsHangul (l : Launch) (D : va_G) (cI : ClassId) (cL : ClassId × ClassId) (x0 : Int32) : gk_I l y_mIsHangul (.code y_mIsHangul b_mIsHangul 1 (some .boolean) :: wA) rm_mIsHangul D vwCl (gk_T cI cL) [.int x0] [] (fun (r : Int32) (_ : Unit) => r = mm_mIsHangul x0) (fun (_ : Unit) => []) 0 0 := by
  refine gk_I.of (by decide) (Nat.le_of_ble_eq_true rfl) ?_
  intro p e s m below meth c A ls Q H locs hx hb hml hown hts hW hl X
  have hl : lv_has ls 1 [(0, .int x0)] := hl
  obtain ⟨tgt, heq⟩ : ∃ t, mm_mIsHangul x0 = t := ⟨_, rfl⟩
  rw [heq] at X
  rw [mm_mIsHangul] at heq
  refine lv_iload_n hx hb d_mIsHangul_0 rfl (lv_at hl 0 rfl) ?_
  refine lv_bipush (v := 32) hx hb d_mIsHangul_1 (by decide) ?_
  refine lv_icmp_lt (tgt := 16) hx hb d_mIsHangul_3 (by decide) (fun c_1 => ?_) (fun c_1 => ?_)
  · replace heq := (if_pos c_1).symm.trans heq
    refine lv_iconst (v := 0) hx hb d_mIsHangul_16 (by decide) ?_
    exact X _ () H locs 0 0 17 ls heq hW d_mIsHangul_17 rfl (Nat.le_of_ble_eq_true rfl) (Nat.le_of_ble_eq_true rfl)
  · replace heq := (if_neg c_1).symm.trans heq
    refine lv_iload_n hx hb d_mIsHangul_6 rfl (lv_at hl 0 rfl) ?_
    refine lv_bipush (v := 36) hx hb d_mIsHangul_7 (by decide) ?_
    refine lv_icmp_gt (tgt := 16) hx hb d_mIsHangul_9 (by decide) (fun c_2 => ?_) (fun c_2 => ?_)
    · replace heq := (if_pos c_2).symm.trans heq
      refine lv_iconst (v := 0) hx hb d_mIsHangul_16 (by decide) ?_
      exact X _ () H locs 0 0 17 ls heq hW d_mIsHangul_17 rfl (Nat.le_of_ble_eq_true rfl) (Nat.le_of_ble_eq_true rfl)
    · replace heq := (if_neg c_2).symm.trans heq
      refine lv_iconst (v := 1) hx hb d_mIsHangul_12 (by decide) ?_
      refine lv_goto (tgt := 17) hx hb d_mIsHangul_13 (by decide) ?_
      exact X _ () H locs 0 0 17 ls heq hW d_mIsHangul_17 rfl (Nat.le_of_ble_eq_true rfl) (Nat.le_of_ble_eq_true rfl)
def mm_mIsBlank (x0 : Int32) : Int32 := if 4 < x0 then 0 else 1
def rm_mIsBlank : Room := { frames := 0, cells := 0, slots := 0, locals := 0 }
set_option maxHeartbeats 4000000 in
set_option maxRecDepth 100000 in
theorem c_mIsBlank (l : Launch) (D : va_G) (cI : ClassId) (cL : ClassId × ClassId) (x0 : Int32) : gk_I l y_mIsBlank (.code y_mIsBlank b_mIsBlank 1 (some .boolean) :: wA) rm_mIsBlank D vwCl (gk_T cI cL) [.int x0] [] (fun (r : Int32) (_ : Unit) => r = mm_mIsBlank x0) (fun (_ : Unit) => []) 0 0 := by
  refine gk_I.of (by decide) (Nat.le_of_ble_eq_true rfl) ?_
  intro p e s m below meth c A ls Q H locs hx hb hml hown hts hW hl X
  have hl : lv_has ls 1 [(0, .int x0)] := hl
  obtain ⟨tgt, heq⟩ : ∃ t, mm_mIsBlank x0 = t := ⟨_, rfl⟩
  rw [heq] at X
  rw [mm_mIsBlank] at heq
  refine lv_iload_n hx hb d_mIsBlank_0 rfl (lv_at hl 0 rfl) ?_
  refine lv_iconst (v := 4) hx hb d_mIsBlank_1 (by decide) ?_
  refine lv_icmp_gt (tgt := 9) hx hb d_mIsBlank_2 (by decide) (fun c_1 => ?_) (fun c_1 => ?_)
  · replace heq := (if_pos c_1).symm.trans heq
    refine lv_iconst (v := 0) hx hb d_mIsBlank_9 (by decide) ?_
    exact X _ () H locs 0 0 10 ls heq hW d_mIsBlank_10 rfl (Nat.le_of_ble_eq_true rfl) (Nat.le_of_ble_eq_true rfl)
  · replace heq := (if_neg c_1).symm.trans heq
    refine lv_iconst (v := 1) hx hb d_mIsBlank_5 (by decide) ?_
    refine lv_goto (tgt := 10) hx hb d_mIsBlank_6 (by decide) ?_
    exact X _ () H locs 0 0 10 ls heq hW d_mIsBlank_10 rfl (Nat.le_of_ble_eq_true rfl) (Nat.le_of_ble_eq_true rfl)
def mm_mIsNumeric_98 (x0 x1 x2 x3 : Int32) : Int32 := if x1 = 23 then 1 else 0
def mm_mIsNumeric_65 (x0 x1 x2 y0 : Int32) : Int32 := if x2 = 0 then (if y0 = 0 then (if x0 = 13 then (mm_mIsNumeric_98 x0 x1 x2 y0) else (if x0 = 22 then (mm_mIsNumeric_98 x0 x1 x2 y0) else (if x0 = 23 then (mm_mIsNumeric_98 x0 x1 x2 y0) else (if x0 = 26 then (mm_mIsNumeric_98 x0 x1 x2 y0) else 0)))) else 1) else 1
def mm_mIsNumeric_64 (x0 x1 x2 : Int32) : Int32 := mm_mIsNumeric_65 x0 x1 x2 0
def mm_mIsNumeric_60 (x0 x1 x2 : Int32) : Int32 := mm_mIsNumeric_65 x0 x1 x2 1
def mm_mIsNumeric_48 (x0 x1 x2 : Int32) : Int32 := if x1 = 20 then (mm_mIsNumeric_60 x0 x1 x2) else (if x1 = 23 then (mm_mIsNumeric_60 x0 x1 x2) else (mm_mIsNumeric_64 x0 x1 x2))
def mm_mIsNumeric_35 (x0 x1 y0 : Int32) : Int32 := if x0 = 24 then (mm_mIsNumeric_48 x0 x1 y0) else (if x0 = 25 then (mm_mIsNumeric_48 x0 x1 y0) else (mm_mIsNumeric_64 x0 x1 y0))
def mm_mIsNumeric_34 (x0 x1 : Int32) : Int32 := mm_mIsNumeric_35 x0 x1 0
def mm_mIsNumeric_30 (x0 x1 : Int32) : Int32 := mm_mIsNumeric_35 x0 x1 1
def mm_mIsNumeric_18 (x0 x1 : Int32) : Int32 := if x1 = 24 then (mm_mIsNumeric_30 x0 x1) else (if x1 = 25 then (mm_mIsNumeric_30 x0 x1) else (mm_mIsNumeric_34 x0 x1))
def mm_mIsNumeric (x0 x1 : Int32) : Int32 := if x0 = 15 then (mm_mIsNumeric_18 x0 x1) else (if x0 = 16 then (mm_mIsNumeric_18 x0 x1) else (if x0 = 23 then (mm_mIsNumeric_18 x0 x1) else (mm_mIsNumeric_34 x0 x1)))
def rm_mIsNumeric : Room := { frames := 0, cells := 0, slots := 0, locals := 0 }
set_option maxHeartbeats 4000000 in
set_option maxRecDepth 100000 in
theorem c_mIsNumeric (l : Launch) (D : va_G) (cI : ClassId) (cL : ClassId × ClassId) (x0 x1 : Int32) : gk_I l y_mIsNumeric (.code y_mIsNumeric b_mIsNumeric 4 (some .boolean) :: wA) rm_mIsNumeric D vwCl (gk_T cI cL) [.int x0, .int x1] [] (fun (r : Int32) (_ : Unit) => r = mm_mIsNumeric x0 x1) (fun (_ : Unit) => []) 0 0 := by
  refine gk_I.of (by decide) (Nat.le_of_ble_eq_true rfl) ?_
  intro p e s m below meth c A ls Q H locs hx hb hml hown hts hW hl X
  have hl : lv_has ls 4 [(0, .int x0), (1, .int x1)] := hl
  obtain ⟨tgt, heq⟩ : ∃ t, mm_mIsNumeric x0 x1 = t := ⟨_, rfl⟩
  rw [heq] at X
  rw [mm_mIsNumeric] at heq
  have K98 : ∀ (x2 x3 : Int32) (H : Heap) (locs : List Loc) (ls : Array Slot), mm_mIsNumeric_98 x0 x1 x2 x3 = tgt → gk_W D vwCl (gk_T cI cL) s A H locs [] → lv_has ls 4 [(0, .int x0), (1, .int x1), (2, .int x2), (3, .int x3)] → W p l e rm_mIsNumeric s m [.int x0, .int x1].toArray below meth c H locs 0 0 Q (F0 m 98 ls []) := by
    intro x2 x3 H locs ls heq hW hl
    rw [mm_mIsNumeric_98] at heq
    refine lv_iload_n hx hb d_mIsNumeric_98 rfl (lv_at hl 1 rfl) ?_
    refine lv_bipush (v := 23) hx hb d_mIsNumeric_99 (by decide) ?_
    refine lv_icmp_ne (tgt := 108) hx hb d_mIsNumeric_101 (by decide) (fun c_1 => ?_) (fun c_1 => ?_)
    · replace heq := (if_neg c_1).symm.trans heq
      refine lv_iconst (v := 0) hx hb d_mIsNumeric_108 (by decide) ?_
      exact X _ () H locs 0 0 109 ls heq hW d_mIsNumeric_109 rfl (Nat.le_of_ble_eq_true rfl) (Nat.le_of_ble_eq_true rfl)
    · replace heq := (if_pos c_1).symm.trans heq
      refine lv_iconst (v := 1) hx hb d_mIsNumeric_104 (by decide) ?_
      refine lv_goto (tgt := 109) hx hb d_mIsNumeric_105 (by decide) ?_
      exact X _ () H locs 0 0 109 ls heq hW d_mIsNumeric_109 rfl (Nat.le_of_ble_eq_true rfl) (Nat.le_of_ble_eq_true rfl)
  have K65 : ∀ (x2 y0 : Int32) (H : Heap) (locs : List Loc) (ls : Array Slot), mm_mIsNumeric_65 x0 x1 x2 y0 = tgt → gk_W D vwCl (gk_T cI cL) s A H locs [] → lv_has ls 4 [(0, .int x0), (1, .int x1), (2, .int x2)] → W p l e rm_mIsNumeric s m [.int x0, .int x1].toArray below meth c H locs 0 0 Q (F0 m 65 ls [.int y0]) := by
    intro x2 y0 H locs ls heq hW hl
    rw [mm_mIsNumeric_65] at heq
    refine lv_istore_n (lv' := [(3, .int y0), (0, .int x0), (1, .int x1), (2, .int x2)]) hx hb d_mIsNumeric_65 rfl hl (by decide) rfl (fun ls hl => ?_)
    refine lv_iload_n hx hb d_mIsNumeric_66 rfl (lv_at hl 3 rfl) ?_
    refine lv_if_ne (tgt := 104) hx hb d_mIsNumeric_67 (by decide) (fun c_2 => ?_) (fun c_2 => ?_)
    · replace heq := (if_neg c_2).symm.trans heq
      refine lv_iconst (v := 1) hx hb d_mIsNumeric_104 (by decide) ?_
      refine lv_goto (tgt := 109) hx hb d_mIsNumeric_105 (by decide) ?_
      exact X _ () H locs 0 0 109 ls heq hW d_mIsNumeric_109 rfl (Nat.le_of_ble_eq_true rfl) (Nat.le_of_ble_eq_true rfl)
    · replace heq := (if_pos c_2).symm.trans heq
      refine lv_iload_n hx hb d_mIsNumeric_70 rfl (lv_at hl 0 rfl) ?_
      refine lv_if_ne (tgt := 104) hx hb d_mIsNumeric_71 (by decide) (fun c_3 => ?_) (fun c_3 => ?_)
      · replace heq := (if_neg c_3).symm.trans heq
        refine lv_iconst (v := 1) hx hb d_mIsNumeric_104 (by decide) ?_
        refine lv_goto (tgt := 109) hx hb d_mIsNumeric_105 (by decide) ?_
        exact X _ () H locs 0 0 109 ls heq hW d_mIsNumeric_109 rfl (Nat.le_of_ble_eq_true rfl) (Nat.le_of_ble_eq_true rfl)
      · replace heq := (if_pos c_3).symm.trans heq
        refine lv_iload_n hx hb d_mIsNumeric_74 rfl (lv_at hl 1 rfl) ?_
        refine lv_bipush (v := 13) hx hb d_mIsNumeric_75 (by decide) ?_
        refine lv_icmp_eq (tgt := 98) hx hb d_mIsNumeric_77 (by decide) (fun c_4 => ?_) (fun c_4 => ?_)
        · replace heq := (if_pos c_4).symm.trans heq
          exact K98 x2 y0 H locs ls heq hW (lv_sub hl [1, 2, 3, 0] rfl)
        · replace heq := (if_neg c_4).symm.trans heq
          refine lv_iload_n hx hb d_mIsNumeric_80 rfl (lv_at hl 1 rfl) ?_
          refine lv_bipush (v := 22) hx hb d_mIsNumeric_81 (by decide) ?_
          refine lv_icmp_eq (tgt := 98) hx hb d_mIsNumeric_83 (by decide) (fun c_5 => ?_) (fun c_5 => ?_)
          · replace heq := (if_pos c_5).symm.trans heq
            exact K98 x2 y0 H locs ls heq hW (lv_sub hl [1, 2, 3, 0] rfl)
          · replace heq := (if_neg c_5).symm.trans heq
            refine lv_iload_n hx hb d_mIsNumeric_86 rfl (lv_at hl 1 rfl) ?_
            refine lv_bipush (v := 23) hx hb d_mIsNumeric_87 (by decide) ?_
            refine lv_icmp_eq (tgt := 98) hx hb d_mIsNumeric_89 (by decide) (fun c_6 => ?_) (fun c_6 => ?_)
            · replace heq := (if_pos c_6).symm.trans heq
              exact K98 x2 y0 H locs ls heq hW (lv_sub hl [1, 2, 3, 0] rfl)
            · replace heq := (if_neg c_6).symm.trans heq
              refine lv_iload_n hx hb d_mIsNumeric_92 rfl (lv_at hl 1 rfl) ?_
              refine lv_bipush (v := 26) hx hb d_mIsNumeric_93 (by decide) ?_
              refine lv_icmp_ne (tgt := 108) hx hb d_mIsNumeric_95 (by decide) (fun c_7 => ?_) (fun c_7 => ?_)
              · replace heq := (if_neg c_7).symm.trans heq
                refine lv_iconst (v := 0) hx hb d_mIsNumeric_108 (by decide) ?_
                exact X _ () H locs 0 0 109 ls heq hW d_mIsNumeric_109 rfl (Nat.le_of_ble_eq_true rfl) (Nat.le_of_ble_eq_true rfl)
              · replace heq := (if_pos c_7).symm.trans heq
                exact K98 x2 y0 H locs ls heq hW (lv_sub hl [1, 2, 3, 0] rfl)
  have K64 : ∀ (x2 : Int32) (H : Heap) (locs : List Loc) (ls : Array Slot), mm_mIsNumeric_64 x0 x1 x2 = tgt → gk_W D vwCl (gk_T cI cL) s A H locs [] → lv_has ls 4 [(0, .int x0), (1, .int x1), (2, .int x2)] → W p l e rm_mIsNumeric s m [.int x0, .int x1].toArray below meth c H locs 0 0 Q (F0 m 64 ls []) := by
    intro x2 H locs ls heq hW hl
    rw [mm_mIsNumeric_64] at heq
    refine lv_iconst (v := 0) hx hb d_mIsNumeric_64 (by decide) ?_
    exact K65 x2 0 H locs ls heq hW (lv_sub hl [0, 1, 2] rfl)
  have K60 : ∀ (x2 : Int32) (H : Heap) (locs : List Loc) (ls : Array Slot), mm_mIsNumeric_60 x0 x1 x2 = tgt → gk_W D vwCl (gk_T cI cL) s A H locs [] → lv_has ls 4 [(0, .int x0), (1, .int x1), (2, .int x2)] → W p l e rm_mIsNumeric s m [.int x0, .int x1].toArray below meth c H locs 0 0 Q (F0 m 60 ls []) := by
    intro x2 H locs ls heq hW hl
    rw [mm_mIsNumeric_60] at heq
    refine lv_iconst (v := 1) hx hb d_mIsNumeric_60 (by decide) ?_
    refine lv_goto (tgt := 65) hx hb d_mIsNumeric_61 (by decide) ?_
    exact K65 x2 1 H locs ls heq hW (lv_sub hl [0, 1, 2] rfl)
  have K48 : ∀ (x2 : Int32) (H : Heap) (locs : List Loc) (ls : Array Slot), mm_mIsNumeric_48 x0 x1 x2 = tgt → gk_W D vwCl (gk_T cI cL) s A H locs [] → lv_has ls 4 [(0, .int x0), (1, .int x1), (2, .int x2)] → W p l e rm_mIsNumeric s m [.int x0, .int x1].toArray below meth c H locs 0 0 Q (F0 m 48 ls []) := by
    intro x2 H locs ls heq hW hl
    rw [mm_mIsNumeric_48] at heq
    refine lv_iload_n hx hb d_mIsNumeric_48 rfl (lv_at hl 1 rfl) ?_
    refine lv_bipush (v := 20) hx hb d_mIsNumeric_49 (by decide) ?_
    refine lv_icmp_eq (tgt := 60) hx hb d_mIsNumeric_51 (by decide) (fun c_8 => ?_) (fun c_8 => ?_)
    · replace heq := (if_pos c_8).symm.trans heq
      exact K60 x2 H locs ls heq hW (lv_sub hl [0, 1, 2] rfl)
    · replace heq := (if_neg c_8).symm.trans heq
      refine lv_iload_n hx hb d_mIsNumeric_54 rfl (lv_at hl 1 rfl) ?_
      refine lv_bipush (v := 23) hx hb d_mIsNumeric_55 (by decide) ?_
      refine lv_icmp_ne (tgt := 64) hx hb d_mIsNumeric_57 (by decide) (fun c_9 => ?_) (fun c_9 => ?_)
      · replace heq := (if_neg c_9).symm.trans heq
        exact K64 x2 H locs ls heq hW (lv_sub hl [0, 1, 2] rfl)
      · replace heq := (if_pos c_9).symm.trans heq
        exact K60 x2 H locs ls heq hW (lv_sub hl [0, 1, 2] rfl)
  have K35 : ∀ (y0 : Int32) (H : Heap) (locs : List Loc) (ls : Array Slot), mm_mIsNumeric_35 x0 x1 y0 = tgt → gk_W D vwCl (gk_T cI cL) s A H locs [] → lv_has ls 4 [(0, .int x0), (1, .int x1)] → W p l e rm_mIsNumeric s m [.int x0, .int x1].toArray below meth c H locs 0 0 Q (F0 m 35 ls [.int y0]) := by
    intro y0 H locs ls heq hW hl
    rw [mm_mIsNumeric_35] at heq
    refine lv_istore_n (lv' := [(2, .int y0), (0, .int x0), (1, .int x1)]) hx hb d_mIsNumeric_35 rfl hl (by decide) rfl (fun ls hl => ?_)
    refine lv_iload_n hx hb d_mIsNumeric_36 rfl (lv_at hl 1 rfl) ?_
    refine lv_bipush (v := 24) hx hb d_mIsNumeric_37 (by decide) ?_
    refine lv_icmp_eq (tgt := 48) hx hb d_mIsNumeric_39 (by decide) (fun c_10 => ?_) (fun c_10 => ?_)
    · replace heq := (if_pos c_10).symm.trans heq
      exact K48 y0 H locs ls heq hW (lv_sub hl [1, 2, 0] rfl)
    · replace heq := (if_neg c_10).symm.trans heq
      refine lv_iload_n hx hb d_mIsNumeric_42 rfl (lv_at hl 1 rfl) ?_
      refine lv_bipush (v := 25) hx hb d_mIsNumeric_43 (by decide) ?_
      refine lv_icmp_ne (tgt := 64) hx hb d_mIsNumeric_45 (by decide) (fun c_11 => ?_) (fun c_11 => ?_)
      · replace heq := (if_neg c_11).symm.trans heq
        exact K64 y0 H locs ls heq hW (lv_sub hl [1, 2, 0] rfl)
      · replace heq := (if_pos c_11).symm.trans heq
        exact K48 y0 H locs ls heq hW (lv_sub hl [1, 2, 0] rfl)
  have K34 : ∀ (H : Heap) (locs : List Loc) (ls : Array Slot), mm_mIsNumeric_34 x0 x1 = tgt → gk_W D vwCl (gk_T cI cL) s A H locs [] → lv_has ls 4 [(0, .int x0), (1, .int x1)] → W p l e rm_mIsNumeric s m [.int x0, .int x1].toArray below meth c H locs 0 0 Q (F0 m 34 ls []) := by
    intro  H locs ls heq hW hl
    rw [mm_mIsNumeric_34] at heq
    refine lv_iconst (v := 0) hx hb d_mIsNumeric_34 (by decide) ?_
    exact K35 0 H locs ls heq hW (lv_sub hl [0, 1] rfl)
  have K30 : ∀ (H : Heap) (locs : List Loc) (ls : Array Slot), mm_mIsNumeric_30 x0 x1 = tgt → gk_W D vwCl (gk_T cI cL) s A H locs [] → lv_has ls 4 [(0, .int x0), (1, .int x1)] → W p l e rm_mIsNumeric s m [.int x0, .int x1].toArray below meth c H locs 0 0 Q (F0 m 30 ls []) := by
    intro  H locs ls heq hW hl
    rw [mm_mIsNumeric_30] at heq
    refine lv_iconst (v := 1) hx hb d_mIsNumeric_30 (by decide) ?_
    refine lv_goto (tgt := 35) hx hb d_mIsNumeric_31 (by decide) ?_
    exact K35 1 H locs ls heq hW (lv_sub hl [0, 1] rfl)
  have K18 : ∀ (H : Heap) (locs : List Loc) (ls : Array Slot), mm_mIsNumeric_18 x0 x1 = tgt → gk_W D vwCl (gk_T cI cL) s A H locs [] → lv_has ls 4 [(0, .int x0), (1, .int x1)] → W p l e rm_mIsNumeric s m [.int x0, .int x1].toArray below meth c H locs 0 0 Q (F0 m 18 ls []) := by
    intro  H locs ls heq hW hl
    rw [mm_mIsNumeric_18] at heq
    refine lv_iload_n hx hb d_mIsNumeric_18 rfl (lv_at hl 1 rfl) ?_
    refine lv_bipush (v := 24) hx hb d_mIsNumeric_19 (by decide) ?_
    refine lv_icmp_eq (tgt := 30) hx hb d_mIsNumeric_21 (by decide) (fun c_12 => ?_) (fun c_12 => ?_)
    · replace heq := (if_pos c_12).symm.trans heq
      exact K30  H locs ls heq hW (lv_sub hl [0, 1] rfl)
    · replace heq := (if_neg c_12).symm.trans heq
      refine lv_iload_n hx hb d_mIsNumeric_24 rfl (lv_at hl 1 rfl) ?_
      refine lv_bipush (v := 25) hx hb d_mIsNumeric_25 (by decide) ?_
      refine lv_icmp_ne (tgt := 34) hx hb d_mIsNumeric_27 (by decide) (fun c_13 => ?_) (fun c_13 => ?_)
      · replace heq := (if_neg c_13).symm.trans heq
        exact K34  H locs ls heq hW (lv_sub hl [0, 1] rfl)
      · replace heq := (if_pos c_13).symm.trans heq
        exact K30  H locs ls heq hW (lv_sub hl [0, 1] rfl)
  refine lv_iload_n hx hb d_mIsNumeric_0 rfl (lv_at hl 0 rfl) ?_
  refine lv_bipush (v := 15) hx hb d_mIsNumeric_1 (by decide) ?_
  refine lv_icmp_eq (tgt := 18) hx hb d_mIsNumeric_3 (by decide) (fun c_14 => ?_) (fun c_14 => ?_)
  · replace heq := (if_pos c_14).symm.trans heq
    exact K18  H locs ls heq hW (lv_sub hl [0, 1] rfl)
  · replace heq := (if_neg c_14).symm.trans heq
    refine lv_iload_n hx hb d_mIsNumeric_6 rfl (lv_at hl 0 rfl) ?_
    refine lv_bipush (v := 16) hx hb d_mIsNumeric_7 (by decide) ?_
    refine lv_icmp_eq (tgt := 18) hx hb d_mIsNumeric_9 (by decide) (fun c_15 => ?_) (fun c_15 => ?_)
    · replace heq := (if_pos c_15).symm.trans heq
      exact K18  H locs ls heq hW (lv_sub hl [0, 1] rfl)
    · replace heq := (if_neg c_15).symm.trans heq
      refine lv_iload_n hx hb d_mIsNumeric_12 rfl (lv_at hl 0 rfl) ?_
      refine lv_bipush (v := 23) hx hb d_mIsNumeric_13 (by decide) ?_
      refine lv_icmp_ne (tgt := 34) hx hb d_mIsNumeric_15 (by decide) (fun c_16 => ?_) (fun c_16 => ?_)
      · replace heq := (if_neg c_16).symm.trans heq
        exact K34  H locs ls heq hW (lv_sub hl [0, 1] rfl)
      · replace heq := (if_pos c_16).symm.trans heq
        exact K18  H locs ls heq hW (lv_sub hl [0, 1] rfl)
def mm_mIsSyllable_86 (x0 x1 x2 x3 : Int32) : Int32 := if x1 = 36 then 1 else 0
def mm_mIsSyllable_65 (x0 x1 x2 y0 : Int32) : Int32 := if x2 = 0 then (if y0 = 0 then (if x0 = 36 then (mm_mIsSyllable_86 x0 x1 x2 y0) else (if x0 = 33 then (mm_mIsSyllable_86 x0 x1 x2 y0) else 0)) else 1) else 1
def mm_mIsSyllable_64 (x0 x1 x2 : Int32) : Int32 := mm_mIsSyllable_65 x0 x1 x2 0
def mm_mIsSyllable_60 (x0 x1 x2 : Int32) : Int32 := mm_mIsSyllable_65 x0 x1 x2 1
def mm_mIsSyllable_48 (x0 x1 x2 : Int32) : Int32 := if x1 = 35 then (mm_mIsSyllable_60 x0 x1 x2) else (if x1 = 36 then (mm_mIsSyllable_60 x0 x1 x2) else (mm_mIsSyllable_64 x0 x1 x2))
def mm_mIsSyllable_35 (x0 x1 y0 : Int32) : Int32 := if x0 = 35 then (mm_mIsSyllable_48 x0 x1 y0) else (if x0 = 32 then (mm_mIsSyllable_48 x0 x1 y0) else (mm_mIsSyllable_64 x0 x1 y0))
def mm_mIsSyllable_34 (x0 x1 : Int32) : Int32 := mm_mIsSyllable_35 x0 x1 0
def mm_mIsSyllable_30 (x0 x1 : Int32) : Int32 := mm_mIsSyllable_35 x0 x1 1
def mm_mIsSyllable (x0 x1 : Int32) : Int32 := if x0 = 34 then (if x1 = 34 then (mm_mIsSyllable_30 x0 x1) else (if x1 = 35 then (mm_mIsSyllable_30 x0 x1) else (if x1 = 32 then (mm_mIsSyllable_30 x0 x1) else (if x1 = 33 then (mm_mIsSyllable_30 x0 x1) else (mm_mIsSyllable_34 x0 x1))))) else (mm_mIsSyllable_34 x0 x1)
def rm_mIsSyllable : Room := { frames := 0, cells := 0, slots := 0, locals := 0 }
set_option maxHeartbeats 4000000 in
set_option maxRecDepth 100000 in
theorem c_mIsSyllable (l : Launch) (D : va_G) (cI : ClassId) (cL : ClassId × ClassId) (x0 x1 : Int32) : gk_I l y_mIsSyllable (.code y_mIsSyllable b_mIsSyllable 4 (some .boolean) :: wA) rm_mIsSyllable D vwCl (gk_T cI cL) [.int x0, .int x1] [] (fun (r : Int32) (_ : Unit) => r = mm_mIsSyllable x0 x1) (fun (_ : Unit) => []) 0 0 := by
  refine gk_I.of (by decide) (Nat.le_of_ble_eq_true rfl) ?_
  intro p e s m below meth c A ls Q H locs hx hb hml hown hts hW hl X
  have hl : lv_has ls 4 [(0, .int x0), (1, .int x1)] := hl
  obtain ⟨tgt, heq⟩ : ∃ t, mm_mIsSyllable x0 x1 = t := ⟨_, rfl⟩
  rw [heq] at X
  rw [mm_mIsSyllable] at heq
  have K86 : ∀ (x2 x3 : Int32) (H : Heap) (locs : List Loc) (ls : Array Slot), mm_mIsSyllable_86 x0 x1 x2 x3 = tgt → gk_W D vwCl (gk_T cI cL) s A H locs [] → lv_has ls 4 [(0, .int x0), (1, .int x1), (2, .int x2), (3, .int x3)] → W p l e rm_mIsSyllable s m [.int x0, .int x1].toArray below meth c H locs 0 0 Q (F0 m 86 ls []) := by
    intro x2 x3 H locs ls heq hW hl
    rw [mm_mIsSyllable_86] at heq
    refine lv_iload_n hx hb d_mIsSyllable_86 rfl (lv_at hl 1 rfl) ?_
    refine lv_bipush (v := 36) hx hb d_mIsSyllable_87 (by decide) ?_
    refine lv_icmp_ne (tgt := 96) hx hb d_mIsSyllable_89 (by decide) (fun c_1 => ?_) (fun c_1 => ?_)
    · replace heq := (if_neg c_1).symm.trans heq
      refine lv_iconst (v := 0) hx hb d_mIsSyllable_96 (by decide) ?_
      exact X _ () H locs 0 0 97 ls heq hW d_mIsSyllable_97 rfl (Nat.le_of_ble_eq_true rfl) (Nat.le_of_ble_eq_true rfl)
    · replace heq := (if_pos c_1).symm.trans heq
      refine lv_iconst (v := 1) hx hb d_mIsSyllable_92 (by decide) ?_
      refine lv_goto (tgt := 97) hx hb d_mIsSyllable_93 (by decide) ?_
      exact X _ () H locs 0 0 97 ls heq hW d_mIsSyllable_97 rfl (Nat.le_of_ble_eq_true rfl) (Nat.le_of_ble_eq_true rfl)
  have K65 : ∀ (x2 y0 : Int32) (H : Heap) (locs : List Loc) (ls : Array Slot), mm_mIsSyllable_65 x0 x1 x2 y0 = tgt → gk_W D vwCl (gk_T cI cL) s A H locs [] → lv_has ls 4 [(0, .int x0), (1, .int x1), (2, .int x2)] → W p l e rm_mIsSyllable s m [.int x0, .int x1].toArray below meth c H locs 0 0 Q (F0 m 65 ls [.int y0]) := by
    intro x2 y0 H locs ls heq hW hl
    rw [mm_mIsSyllable_65] at heq
    refine lv_istore_n (lv' := [(3, .int y0), (0, .int x0), (1, .int x1), (2, .int x2)]) hx hb d_mIsSyllable_65 rfl hl (by decide) rfl (fun ls hl => ?_)
    refine lv_iload_n hx hb d_mIsSyllable_66 rfl (lv_at hl 3 rfl) ?_
    refine lv_if_ne (tgt := 92) hx hb d_mIsSyllable_67 (by decide) (fun c_2 => ?_) (fun c_2 => ?_)
    · replace heq := (if_neg c_2).symm.trans heq
      refine lv_iconst (v := 1) hx hb d_mIsSyllable_92 (by decide) ?_
      refine lv_goto (tgt := 97) hx hb d_mIsSyllable_93 (by decide) ?_
      exact X _ () H locs 0 0 97 ls heq hW d_mIsSyllable_97 rfl (Nat.le_of_ble_eq_true rfl) (Nat.le_of_ble_eq_true rfl)
    · replace heq := (if_pos c_2).symm.trans heq
      refine lv_iload_n hx hb d_mIsSyllable_70 rfl (lv_at hl 0 rfl) ?_
      refine lv_if_ne (tgt := 92) hx hb d_mIsSyllable_71 (by decide) (fun c_3 => ?_) (fun c_3 => ?_)
      · replace heq := (if_neg c_3).symm.trans heq
        refine lv_iconst (v := 1) hx hb d_mIsSyllable_92 (by decide) ?_
        refine lv_goto (tgt := 97) hx hb d_mIsSyllable_93 (by decide) ?_
        exact X _ () H locs 0 0 97 ls heq hW d_mIsSyllable_97 rfl (Nat.le_of_ble_eq_true rfl) (Nat.le_of_ble_eq_true rfl)
      · replace heq := (if_pos c_3).symm.trans heq
        refine lv_iload_n hx hb d_mIsSyllable_74 rfl (lv_at hl 1 rfl) ?_
        refine lv_bipush (v := 36) hx hb d_mIsSyllable_75 (by decide) ?_
        refine lv_icmp_eq (tgt := 86) hx hb d_mIsSyllable_77 (by decide) (fun c_4 => ?_) (fun c_4 => ?_)
        · replace heq := (if_pos c_4).symm.trans heq
          exact K86 x2 y0 H locs ls heq hW (lv_sub hl [1, 2, 3, 0] rfl)
        · replace heq := (if_neg c_4).symm.trans heq
          refine lv_iload_n hx hb d_mIsSyllable_80 rfl (lv_at hl 1 rfl) ?_
          refine lv_bipush (v := 33) hx hb d_mIsSyllable_81 (by decide) ?_
          refine lv_icmp_ne (tgt := 96) hx hb d_mIsSyllable_83 (by decide) (fun c_5 => ?_) (fun c_5 => ?_)
          · replace heq := (if_neg c_5).symm.trans heq
            refine lv_iconst (v := 0) hx hb d_mIsSyllable_96 (by decide) ?_
            exact X _ () H locs 0 0 97 ls heq hW d_mIsSyllable_97 rfl (Nat.le_of_ble_eq_true rfl) (Nat.le_of_ble_eq_true rfl)
          · replace heq := (if_pos c_5).symm.trans heq
            exact K86 x2 y0 H locs ls heq hW (lv_sub hl [1, 2, 3, 0] rfl)
  have K64 : ∀ (x2 : Int32) (H : Heap) (locs : List Loc) (ls : Array Slot), mm_mIsSyllable_64 x0 x1 x2 = tgt → gk_W D vwCl (gk_T cI cL) s A H locs [] → lv_has ls 4 [(0, .int x0), (1, .int x1), (2, .int x2)] → W p l e rm_mIsSyllable s m [.int x0, .int x1].toArray below meth c H locs 0 0 Q (F0 m 64 ls []) := by
    intro x2 H locs ls heq hW hl
    rw [mm_mIsSyllable_64] at heq
    refine lv_iconst (v := 0) hx hb d_mIsSyllable_64 (by decide) ?_
    exact K65 x2 0 H locs ls heq hW (lv_sub hl [0, 1, 2] rfl)
  have K60 : ∀ (x2 : Int32) (H : Heap) (locs : List Loc) (ls : Array Slot), mm_mIsSyllable_60 x0 x1 x2 = tgt → gk_W D vwCl (gk_T cI cL) s A H locs [] → lv_has ls 4 [(0, .int x0), (1, .int x1), (2, .int x2)] → W p l e rm_mIsSyllable s m [.int x0, .int x1].toArray below meth c H locs 0 0 Q (F0 m 60 ls []) := by
    intro x2 H locs ls heq hW hl
    rw [mm_mIsSyllable_60] at heq
    refine lv_iconst (v := 1) hx hb d_mIsSyllable_60 (by decide) ?_
    refine lv_goto (tgt := 65) hx hb d_mIsSyllable_61 (by decide) ?_
    exact K65 x2 1 H locs ls heq hW (lv_sub hl [0, 1, 2] rfl)
  have K48 : ∀ (x2 : Int32) (H : Heap) (locs : List Loc) (ls : Array Slot), mm_mIsSyllable_48 x0 x1 x2 = tgt → gk_W D vwCl (gk_T cI cL) s A H locs [] → lv_has ls 4 [(0, .int x0), (1, .int x1), (2, .int x2)] → W p l e rm_mIsSyllable s m [.int x0, .int x1].toArray below meth c H locs 0 0 Q (F0 m 48 ls []) := by
    intro x2 H locs ls heq hW hl
    rw [mm_mIsSyllable_48] at heq
    refine lv_iload_n hx hb d_mIsSyllable_48 rfl (lv_at hl 1 rfl) ?_
    refine lv_bipush (v := 35) hx hb d_mIsSyllable_49 (by decide) ?_
    refine lv_icmp_eq (tgt := 60) hx hb d_mIsSyllable_51 (by decide) (fun c_6 => ?_) (fun c_6 => ?_)
    · replace heq := (if_pos c_6).symm.trans heq
      exact K60 x2 H locs ls heq hW (lv_sub hl [0, 1, 2] rfl)
    · replace heq := (if_neg c_6).symm.trans heq
      refine lv_iload_n hx hb d_mIsSyllable_54 rfl (lv_at hl 1 rfl) ?_
      refine lv_bipush (v := 36) hx hb d_mIsSyllable_55 (by decide) ?_
      refine lv_icmp_ne (tgt := 64) hx hb d_mIsSyllable_57 (by decide) (fun c_7 => ?_) (fun c_7 => ?_)
      · replace heq := (if_neg c_7).symm.trans heq
        exact K64 x2 H locs ls heq hW (lv_sub hl [0, 1, 2] rfl)
      · replace heq := (if_pos c_7).symm.trans heq
        exact K60 x2 H locs ls heq hW (lv_sub hl [0, 1, 2] rfl)
  have K35 : ∀ (y0 : Int32) (H : Heap) (locs : List Loc) (ls : Array Slot), mm_mIsSyllable_35 x0 x1 y0 = tgt → gk_W D vwCl (gk_T cI cL) s A H locs [] → lv_has ls 4 [(0, .int x0), (1, .int x1)] → W p l e rm_mIsSyllable s m [.int x0, .int x1].toArray below meth c H locs 0 0 Q (F0 m 35 ls [.int y0]) := by
    intro y0 H locs ls heq hW hl
    rw [mm_mIsSyllable_35] at heq
    refine lv_istore_n (lv' := [(2, .int y0), (0, .int x0), (1, .int x1)]) hx hb d_mIsSyllable_35 rfl hl (by decide) rfl (fun ls hl => ?_)
    refine lv_iload_n hx hb d_mIsSyllable_36 rfl (lv_at hl 1 rfl) ?_
    refine lv_bipush (v := 35) hx hb d_mIsSyllable_37 (by decide) ?_
    refine lv_icmp_eq (tgt := 48) hx hb d_mIsSyllable_39 (by decide) (fun c_8 => ?_) (fun c_8 => ?_)
    · replace heq := (if_pos c_8).symm.trans heq
      exact K48 y0 H locs ls heq hW (lv_sub hl [1, 2, 0] rfl)
    · replace heq := (if_neg c_8).symm.trans heq
      refine lv_iload_n hx hb d_mIsSyllable_42 rfl (lv_at hl 1 rfl) ?_
      refine lv_bipush (v := 32) hx hb d_mIsSyllable_43 (by decide) ?_
      refine lv_icmp_ne (tgt := 64) hx hb d_mIsSyllable_45 (by decide) (fun c_9 => ?_) (fun c_9 => ?_)
      · replace heq := (if_neg c_9).symm.trans heq
        exact K64 y0 H locs ls heq hW (lv_sub hl [1, 2, 0] rfl)
      · replace heq := (if_pos c_9).symm.trans heq
        exact K48 y0 H locs ls heq hW (lv_sub hl [1, 2, 0] rfl)
  have K34 : ∀ (H : Heap) (locs : List Loc) (ls : Array Slot), mm_mIsSyllable_34 x0 x1 = tgt → gk_W D vwCl (gk_T cI cL) s A H locs [] → lv_has ls 4 [(0, .int x0), (1, .int x1)] → W p l e rm_mIsSyllable s m [.int x0, .int x1].toArray below meth c H locs 0 0 Q (F0 m 34 ls []) := by
    intro  H locs ls heq hW hl
    rw [mm_mIsSyllable_34] at heq
    refine lv_iconst (v := 0) hx hb d_mIsSyllable_34 (by decide) ?_
    exact K35 0 H locs ls heq hW (lv_sub hl [0, 1] rfl)
  have K30 : ∀ (H : Heap) (locs : List Loc) (ls : Array Slot), mm_mIsSyllable_30 x0 x1 = tgt → gk_W D vwCl (gk_T cI cL) s A H locs [] → lv_has ls 4 [(0, .int x0), (1, .int x1)] → W p l e rm_mIsSyllable s m [.int x0, .int x1].toArray below meth c H locs 0 0 Q (F0 m 30 ls []) := by
    intro  H locs ls heq hW hl
    rw [mm_mIsSyllable_30] at heq
    refine lv_iconst (v := 1) hx hb d_mIsSyllable_30 (by decide) ?_
    refine lv_goto (tgt := 35) hx hb d_mIsSyllable_31 (by decide) ?_
    exact K35 1 H locs ls heq hW (lv_sub hl [0, 1] rfl)
  refine lv_iload_n hx hb d_mIsSyllable_0 rfl (lv_at hl 0 rfl) ?_
  refine lv_bipush (v := 34) hx hb d_mIsSyllable_1 (by decide) ?_
  refine lv_icmp_ne (tgt := 34) hx hb d_mIsSyllable_3 (by decide) (fun c_10 => ?_) (fun c_10 => ?_)
  · replace heq := (if_neg c_10).symm.trans heq
    exact K34  H locs ls heq hW (lv_sub hl [0, 1] rfl)
  · replace heq := (if_pos c_10).symm.trans heq
    refine lv_iload_n hx hb d_mIsSyllable_6 rfl (lv_at hl 1 rfl) ?_
    refine lv_bipush (v := 34) hx hb d_mIsSyllable_7 (by decide) ?_
    refine lv_icmp_eq (tgt := 30) hx hb d_mIsSyllable_9 (by decide) (fun c_11 => ?_) (fun c_11 => ?_)
    · replace heq := (if_pos c_11).symm.trans heq
      exact K30  H locs ls heq hW (lv_sub hl [0, 1] rfl)
    · replace heq := (if_neg c_11).symm.trans heq
      refine lv_iload_n hx hb d_mIsSyllable_12 rfl (lv_at hl 1 rfl) ?_
      refine lv_bipush (v := 35) hx hb d_mIsSyllable_13 (by decide) ?_
      refine lv_icmp_eq (tgt := 30) hx hb d_mIsSyllable_15 (by decide) (fun c_12 => ?_) (fun c_12 => ?_)
      · replace heq := (if_pos c_12).symm.trans heq
        exact K30  H locs ls heq hW (lv_sub hl [0, 1] rfl)
      · replace heq := (if_neg c_12).symm.trans heq
        refine lv_iload_n hx hb d_mIsSyllable_18 rfl (lv_at hl 1 rfl) ?_
        refine lv_bipush (v := 32) hx hb d_mIsSyllable_19 (by decide) ?_
        refine lv_icmp_eq (tgt := 30) hx hb d_mIsSyllable_21 (by decide) (fun c_13 => ?_) (fun c_13 => ?_)
        · replace heq := (if_pos c_13).symm.trans heq
          exact K30  H locs ls heq hW (lv_sub hl [0, 1] rfl)
        · replace heq := (if_neg c_13).symm.trans heq
          refine lv_iload_n hx hb d_mIsSyllable_24 rfl (lv_at hl 1 rfl) ?_
          refine lv_bipush (v := 33) hx hb d_mIsSyllable_25 (by decide) ?_
          refine lv_icmp_ne (tgt := 34) hx hb d_mIsSyllable_27 (by decide) (fun c_14 => ?_) (fun c_14 => ?_)
          · replace heq := (if_neg c_14).symm.trans heq
            exact K34  H locs ls heq hW (lv_sub hl [0, 1] rfl)
          · replace heq := (if_pos c_14).symm.trans heq
            exact K30  H locs ls heq hW (lv_sub hl [0, 1] rfl)
def mm_mThrown (fl : Int32) : Int32 := fl
def rm_mThrown : Room := { frames := 0, cells := 0, slots := 0, locals := 0 }
set_option maxHeartbeats 4000000 in
set_option maxRecDepth 100000 in
theorem c_mThrown (l : Launch) (D : va_G) (cI : ClassId) (cL cL : ClassId × ClassId) (g : Nat → Nat) (fl rn : Int32) (fs lt kk mk mf ml ma : Nat → Int32) (il sz : Int32) (tt fh : Nat → Int32) (hd : Int32) : gk_I l y_mThrown (.code y_mThrown b_mThrown 1 (some .int) :: wA) rm_mThrown D vwCl (gk_T cI cL) [.ref (g 0)] (wd_M cI cL g fl rn fs lt kk mk mf ml ma il sz tt fh hd) (fun (r : Int32) (_ : Unit) => r = mm_mThrown fl) (fun (_ : Unit) => (wd_M cI cL g fl rn fs lt kk mk mf ml ma il sz tt fh hd)) 0 0 := by
  refine gk_I.of (by decide) (Nat.le_of_ble_eq_true rfl) ?_
  intro p e s m below meth c A ls Q H locs hx hb hml hown hts hW hl X
  have hl : lv_has ls 1 [(0, .ref (g 0))] := hl
  obtain ⟨tgt, heq⟩ : ∃ t, mm_mThrown fl = t := ⟨_, rfl⟩
  rw [heq] at X
  rw [mm_mThrown] at heq
  refine lv_aload_n hx hb d_mThrown_0 rfl (lv_at hl 0 rfl) ?_
  refine va_get (D := D) (C := R_M) (T := F_M) (N := 14) hx hb hts i_M hown hW.1 hW.2.1 0 rfl rfl 0 (by decide) (hts _ w_138) (fun _ h9 => h9) rfl d_mThrown_1 ?_
  exact X _ () H locs 0 0 4 ls heq hW d_mThrown_4 rfl (Nat.le_of_ble_eq_true rfl) (Nat.le_of_ble_eq_true rfl)
def mm_mRefused (x1 fl : Int32) : Int32 × Int32 := if x1 ≤ 0 then (0, x1) else (1, x1)
def rm_mRefused : Room := { frames := 0, cells := 0, slots := 0, locals := 0 }
set_option maxHeartbeats 4000000 in
set_option maxRecDepth 100000 in
theorem c_mRefused (l : Launch) (D : va_G) (cI : ClassId) (cL cL : ClassId × ClassId) (g : Nat → Nat) (fl rn : Int32) (fs lt kk mk mf ml ma : Nat → Int32) (il sz : Int32) (tt fh : Nat → Int32) (hd x1 : Int32) : gk_I l y_mRefused (.code y_mRefused b_mRefused 2 (some .boolean) :: wA) rm_mRefused D vwCl (gk_T cI cL) [.ref (g 0), .int x1] (wd_M cI cL g fl rn fs lt kk mk mf ml ma il sz tt fh hd) (fun (r : Int32) (u : Int32) => (r, u) = mm_mRefused x1 fl) (fun u => (wd_M cI cL g u rn fs lt kk mk mf ml ma il sz tt fh hd)) 0 0 := by
  refine gk_I.of (by decide) (Nat.le_of_ble_eq_true rfl) ?_
  intro p e s m below meth c A ls Q H locs hx hb hml hown hts hW hl X
  have hl : lv_has ls 2 [(0, .ref (g 0)), (1, .int x1)] := hl
  obtain ⟨tgt, heq⟩ : ∃ t, mm_mRefused x1 fl = t := ⟨_, rfl⟩
  rw [heq] at X
  rw [mm_mRefused] at heq
  refine lv_aload_n hx hb d_mRefused_0 rfl (lv_at hl 0 rfl) ?_
  refine lv_iload_n hx hb d_mRefused_1 rfl (lv_at hl 1 rfl) ?_
  refine va_put (D := D) (ci := 3) (v := .int x1) (ty := .int) (C := R_M) (T := F_M) (N := 14) hx hb hts i_M t_M t_M_ok n_M hown hW.1 hW.2.1 hW.2.2.1 hW.2.2.2.1 0 rfl rfl 0 (by decide) (hts _ w_138) (fun _ h9 => h9) rfl (by decide +kernel) rfl rfl (Nat.le_of_ble_eq_true rfl) d_mRefused_2 (fun H locs hP hD hS => ?_)
  have hW : gk_W D vwCl (gk_T cI cL) s A H locs (wd_M cI cL g x1 rn fs lt kk mk mf ml ma il sz tt fh hd) := ⟨hW.1, hP, hD, hS, hW.2.2.2.2⟩
  refine lv_iload_n hx hb d_mRefused_5 rfl (lv_at hl 1 rfl) ?_
  refine lv_if_le (tgt := 13) hx hb d_mRefused_6 (by decide) (fun c_1 => ?_) (fun c_1 => ?_)
  · replace heq := (if_pos c_1).symm.trans heq
    refine lv_iconst (v := 0) hx hb d_mRefused_13 (by decide) ?_
    exact X _ x1 H locs 0 0 14 ls heq hW d_mRefused_14 rfl (Nat.le_of_ble_eq_true rfl) (Nat.le_of_ble_eq_true rfl)
  · replace heq := (if_neg c_1).symm.trans heq
    refine lv_iconst (v := 1) hx hb d_mRefused_9 (by decide) ?_
    refine lv_goto (tgt := 14) hx hb d_mRefused_10 (by decide) ?_
    exact X _ x1 H locs 0 0 14 ls heq hW d_mRefused_14 rfl (Nat.le_of_ble_eq_true rfl) (Nat.le_of_ble_eq_true rfl)
def mm_mTell (x1 x2 hd : Int32) : Int32 × Int32 := (x1, x2)
def rm_mTell : Room := { frames := 0, cells := 0, slots := 0, locals := 0 }
set_option maxHeartbeats 4000000 in
set_option maxRecDepth 100000 in
theorem c_mTell (l : Launch) (D : va_G) (cI : ClassId) (cL cL : ClassId × ClassId) (g : Nat → Nat) (fl rn : Int32) (fs lt kk mk mf ml ma : Nat → Int32) (il sz : Int32) (tt fh : Nat → Int32) (hd x1 x2 : Int32) : gk_I l y_mTell (.code y_mTell b_mTell 3 (some .int) :: wA) rm_mTell D vwCl (gk_T cI cL) [.ref (g 0), .int x1, .int x2] (wd_M cI cL g fl rn fs lt kk mk mf ml ma il sz tt fh hd) (fun (r : Int32) (u : Int32) => (r, u) = mm_mTell x1 x2 hd) (fun u => (wd_M cI cL g fl rn fs lt kk mk mf ml ma il sz tt fh u)) 0 0 := by
  refine gk_I.of (by decide) (Nat.le_of_ble_eq_true rfl) ?_
  intro p e s m below meth c A ls Q H locs hx hb hml hown hts hW hl X
  have hl : lv_has ls 3 [(0, .ref (g 0)), (1, .int x1), (2, .int x2)] := hl
  obtain ⟨tgt, heq⟩ : ∃ t, mm_mTell x1 x2 hd = t := ⟨_, rfl⟩
  rw [heq] at X
  rw [mm_mTell] at heq
  refine lv_aload_n hx hb d_mTell_0 rfl (lv_at hl 0 rfl) ?_
  refine lv_iload_n hx hb d_mTell_1 rfl (lv_at hl 2 rfl) ?_
  refine va_put (D := D) (ci := 3) (v := .int x2) (ty := .int) (C := R_M) (T := F_M) (N := 14) hx hb hts i_M t_M t_M_ok n_M hown hW.1 hW.2.1 hW.2.2.1 hW.2.2.2.1 0 rfl rfl 13 (by decide) (hts _ w_139) (fun _ h9 => h9) rfl (by decide +kernel) rfl rfl (Nat.le_of_ble_eq_true rfl) d_mTell_2 (fun H locs hP hD hS => ?_)
  have hW : gk_W D vwCl (gk_T cI cL) s A H locs (wd_M cI cL g fl rn fs lt kk mk mf ml ma il sz tt fh x2) := ⟨hW.1, hP, hD, hS, hW.2.2.2.2⟩
  refine lv_iload_n hx hb d_mTell_5 rfl (lv_at hl 1 rfl) ?_
  exact X _ x2 H locs 0 0 6 ls heq hW d_mTell_6 rfl (Nat.le_of_ble_eq_true rfl) (Nat.le_of_ble_eq_true rfl)
def mm_mClear (fl sz : Int32) : Int32 × Int32 × Int32 := (sz, 0, 0)
def rm_mClear : Room := { frames := 0, cells := 0, slots := 0, locals := 0 }
set_option maxHeartbeats 4000000 in
set_option maxRecDepth 100000 in
theorem c_mClear (l : Launch) (D : va_G) (cI : ClassId) (cL cL : ClassId × ClassId) (g : Nat → Nat) (fl rn : Int32) (fs lt kk mk mf ml ma : Nat → Int32) (il sz : Int32) (tt fh : Nat → Int32) (hd : Int32) : gk_I l y_mClear (.code y_mClear b_mClear 2 (some .int) :: wA) rm_mClear D vwCl (gk_T cI cL) [.ref (g 0)] (wd_M cI cL g fl rn fs lt kk mk mf ml ma il sz tt fh hd) (fun (r : Int32) (u : Int32 × Int32) => (r, u) = mm_mClear fl sz) (fun u => (wd_M cI cL g u.1 rn fs lt kk mk mf ml ma il u.2 tt fh hd)) 0 0 := by
  refine gk_I.of (by decide) (Nat.le_of_ble_eq_true rfl) ?_
  intro p e s m below meth c A ls Q H locs hx hb hml hown hts hW hl X
  have hl : lv_has ls 2 [(0, .ref (g 0))] := hl
  obtain ⟨tgt, heq⟩ : ∃ t, mm_mClear fl sz = t := ⟨_, rfl⟩
  rw [heq] at X
  rw [mm_mClear] at heq
  refine lv_aload_n hx hb d_mClear_0 rfl (lv_at hl 0 rfl) ?_
  refine lv_iconst (v := 0) hx hb d_mClear_1 (by decide) ?_
  refine va_put (D := D) (ci := 3) (v := .int 0) (ty := .int) (C := R_M) (T := F_M) (N := 14) hx hb hts i_M t_M t_M_ok n_M hown hW.1 hW.2.1 hW.2.2.1 hW.2.2.2.1 0 rfl rfl 0 (by decide) (hts _ w_138) (fun _ h9 => h9) rfl (by decide +kernel) rfl rfl (Nat.le_of_ble_eq_true rfl) d_mClear_2 (fun H locs hP hD hS => ?_)
  have hW : gk_W D vwCl (gk_T cI cL) s A H locs (wd_M cI cL g 0 rn fs lt kk mk mf ml ma il sz tt fh hd) := ⟨hW.1, hP, hD, hS, hW.2.2.2.2⟩
  refine lv_aload_n hx hb d_mClear_5 rfl (lv_at hl 0 rfl) ?_
  refine va_get (D := D) (C := R_M) (T := F_M) (N := 14) hx hb hts i_M hown hW.1 hW.2.1 0 rfl rfl 10 (by decide) (hts _ w_140) (fun _ h9 => h9) rfl d_mClear_6 ?_
  refine lv_istore_n (lv' := [(1, .int sz), (0, .ref (g 0))]) hx hb d_mClear_9 rfl hl (by decide) rfl (fun ls hl => ?_)
  refine lv_aload_n hx hb d_mClear_10 rfl (lv_at hl 1 rfl) ?_
  refine lv_iconst (v := 0) hx hb d_mClear_11 (by decide) ?_
  refine va_put (D := D) (ci := 3) (v := .int 0) (ty := .int) (C := R_M) (T := F_M) (N := 14) hx hb hts i_M t_M t_M_ok n_M hown hW.1 hW.2.1 hW.2.2.1 hW.2.2.2.1 0 rfl rfl 10 (by decide) (hts _ w_140) (fun _ h9 => h9) rfl (by decide +kernel) rfl rfl (Nat.le_of_ble_eq_true rfl) d_mClear_12 (fun H locs hP hD hS => ?_)
  have hW : gk_W D vwCl (gk_T cI cL) s A H locs (wd_M cI cL g 0 rn fs lt kk mk mf ml ma il 0 tt fh hd) := ⟨hW.1, hP, hD, hS, hW.2.2.2.2⟩
  refine lv_iload_n hx hb d_mClear_15 rfl (lv_at hl 0 rfl) ?_
  exact X _ (0, 0) H locs 0 0 16 ls heq hW d_mClear_16 rfl (Nat.le_of_ble_eq_true rfl) (Nat.le_of_ble_eq_true rfl)
def mm_mLoose (x1 fl il : Int32) : Int32 × Int32 × Int32 := (il, 0, x1)
def rm_mLoose : Room := { frames := 0, cells := 0, slots := 0, locals := 0 }
set_option maxHeartbeats 4000000 in
set_option maxRecDepth 100000 in
theorem c_mLoose (l : Launch) (D : va_G) (cI : ClassId) (cL cL : ClassId × ClassId) (g : Nat → Nat) (fl rn : Int32) (fs lt kk mk mf ml ma : Nat → Int32) (il sz : Int32) (tt fh : Nat → Int32) (hd x1 : Int32) (hlo : (x1 = 0 ∨ x1 = 1) ∧ (il = 0 ∨ il = 1)) : gk_I l y_mLoose (.code y_mLoose b_mLoose 3 (some .boolean) :: wA) rm_mLoose D vwCl (gk_T cI cL) [.ref (g 0), .int x1] (wd_M cI cL g fl rn fs lt kk mk mf ml ma il sz tt fh hd) (fun (r : Int32) (u : Int32 × Int32) => (r, u) = mm_mLoose x1 fl il) (fun u => (wd_M cI cL g u.1 rn fs lt kk mk mf ml ma u.2 sz tt fh hd)) 0 0 := by
  refine gk_I.of (by decide) (Nat.le_of_ble_eq_true rfl) ?_
  intro p e s m below meth c A ls Q H locs hx hb hml hown hts hW hl X
  have hl : lv_has ls 3 [(0, .ref (g 0)), (1, .int x1)] := hl
  obtain ⟨tgt, heq⟩ : ∃ t, mm_mLoose x1 fl il = t := ⟨_, rfl⟩
  rw [heq] at X
  rw [mm_mLoose] at heq
  obtain ⟨z_x1, v_x1⟩ := gk_vex x1
  obtain ⟨z_il, v_il⟩ := gk_vex il
  refine lv_aload_n hx hb d_mLoose_0 rfl (lv_at hl 0 rfl) ?_
  refine lv_iconst (v := 0) hx hb d_mLoose_1 (by decide) ?_
  refine va_put (D := D) (ci := 3) (v := .int 0) (ty := .int) (C := R_M) (T := F_M) (N := 14) hx hb hts i_M t_M t_M_ok n_M hown hW.1 hW.2.1 hW.2.2.1 hW.2.2.2.1 0 rfl rfl 0 (by decide) (hts _ w_138) (fun _ h9 => h9) rfl (by decide +kernel) rfl rfl (Nat.le_of_ble_eq_true rfl) d_mLoose_2 (fun H locs hP hD hS => ?_)
  have hW : gk_W D vwCl (gk_T cI cL) s A H locs (wd_M cI cL g 0 rn fs lt kk mk mf ml ma il sz tt fh hd) := ⟨hW.1, hP, hD, hS, hW.2.2.2.2⟩
  refine lv_aload_n hx hb d_mLoose_5 rfl (lv_at hl 0 rfl) ?_
  refine va_get (D := D) (C := R_M) (T := F_M) (N := 14) hx hb hts i_M hown hW.1 hW.2.1 0 rfl rfl 9 (by decide) (hts _ w_141) (fun _ h9 => h9) rfl d_mLoose_6 ?_
  refine lv_istore_n (lv' := [(2, .int il), (0, .ref (g 0)), (1, .int x1)]) hx hb d_mLoose_9 rfl hl (by decide) rfl (fun ls hl => ?_)
  refine lv_aload_n hx hb d_mLoose_10 rfl (lv_at hl 1 rfl) ?_
  refine lv_iload_n hx hb d_mLoose_11 rfl (lv_at hl 2 rfl) ?_
  refine va_put (D := D) (ci := 3) (v := .int x1) (ty := .boolean) (C := R_M) (T := F_M) (N := 14) hx hb hts i_M t_M t_M_ok n_M hown hW.1 hW.2.1 hW.2.2.1 hW.2.2.2.1 0 rfl rfl 9 (by decide) (hts _ w_141) (fun _ h9 => h9) rfl (by decide +kernel) (gz_n hlo.1) (gz_f hlo.1) (Nat.le_of_ble_eq_true rfl) d_mLoose_12 (fun H locs hP hD hS => ?_)
  have hW : gk_W D vwCl (gk_T cI cL) s A H locs (wd_M cI cL g 0 rn fs lt kk mk mf ml ma x1 sz tt fh hd) := ⟨hW.1, hP, hD, hS, hW.2.2.2.2⟩
  refine lv_iload_n hx hb d_mLoose_15 rfl (lv_at hl 0 rfl) ?_
  exact X _ (0, x1) H locs 0 0 16 ls heq hW d_mLoose_16 (gz_n hlo.2) (Nat.le_of_ble_eq_true rfl) (Nat.le_of_ble_eq_true rfl)
def mm_mKeep (x1 x2 x3 x4 x5 : Int32) (fh : Nat → Int32) : (Nat → Int32) := upd (upd (upd (upd (upd fh (0 : Int32).toNatClampNeg x1) (1 : Int32).toNatClampNeg x2) (2 : Int32).toNatClampNeg x3) (3 : Int32).toNatClampNeg x4) (4 : Int32).toNatClampNeg x5
def rm_mKeep : Room := { frames := 0, cells := 0, slots := 0, locals := 0 }
set_option maxHeartbeats 4000000 in
set_option maxRecDepth 100000 in
theorem c_mKeep (l : Launch) (D : va_G) (cI : ClassId) (cL cL : ClassId × ClassId) (g : Nat → Nat) (fl rn : Int32) (fs lt kk mk mf ml ma : Nat → Int32) (il sz : Int32) (tt fh : Nat → Int32) (hd x1 x2 x3 x4 x5 : Int32) : gk_V l y_mKeep (.code y_mKeep b_mKeep 6 none :: wA) rm_mKeep D vwCl (gk_T cI cL) [.ref (g 0), .int x1, .int x2, .int x3, .int x4, .int x5] (wd_M cI cL g fl rn fs lt kk mk mf ml ma il sz tt fh hd) (fun (u : (Nat → Int32)) => u = mm_mKeep x1 x2 x3 x4 x5 fh) (fun u => (wd_M cI cL g fl rn fs lt kk mk mf ml ma il sz tt u hd)) 0 0 := by
  refine gk_V.of (by decide) (Nat.le_of_ble_eq_true rfl) ?_
  intro p e s m below meth c A ls Q H locs hx hb hml hown hts hin hW hl X
  have hl : lv_has ls 6 [(0, .ref (g 0)), (1, .int x1), (2, .int x2), (3, .int x3), (4, .int x4), (5, .int x5)] := hl
  obtain ⟨tgt, heq⟩ : ∃ t, mm_mKeep x1 x2 x3 x4 x5 fh = t := ⟨_, rfl⟩
  rw [heq] at X
  rw [mm_mKeep] at heq
  obtain ⟨z_x1, v_x1⟩ := gk_vex x1
  obtain ⟨z_x2, v_x2⟩ := gk_vex x2
  obtain ⟨z_x3, v_x3⟩ := gk_vex x3
  obtain ⟨z_x4, v_x4⟩ := gk_vex x4
  obtain ⟨z_x5, v_x5⟩ := gk_vex x5
  refine lv_aload_n hx hb d_mKeep_0 rfl (lv_at hl 0 rfl) ?_
  refine va_get (D := D) (C := R_M) (T := F_M) (N := 14) hx hb hts i_M hown hW.1 hW.2.1 0 rfl rfl 12 (by decide) (hts _ w_142) (fun _ h9 => h9) rfl d_mKeep_1 ?_
  refine lv_iconst (v := 0) hx hb d_mKeep_4 (by decide) ?_
  refine lv_iload_n hx hb d_mKeep_5 rfl (lv_at hl 1 rfl) ?_
  refine va_iast hx hb hW.1 hW.2.1 hW.2.2.1 hW.2.2.2.1 9 0 rfl rfl (i := 0) (x := x1) (gk_in (show gk_v 0 0 from rfl) (by omega) (by omega)) d_mKeep_6 (fun H locs hP hD hS => ?_)
  have hW : gk_W D vwCl (gk_T cI cL) s A H locs (wd_M cI cL g fl rn fs lt kk mk mf ml ma il sz tt (upd fh (0 : Int32).toNatClampNeg x1) hd) := ⟨hW.1, hP, hD, hS, hW.2.2.2.2⟩
  refine lv_aload_n hx hb d_mKeep_7 rfl (lv_at hl 0 rfl) ?_
  refine va_get (D := D) (C := R_M) (T := F_M) (N := 14) hx hb hts i_M hown hW.1 hW.2.1 0 rfl rfl 12 (by decide) (hts _ w_142) (fun _ h9 => h9) rfl d_mKeep_8 ?_
  refine lv_iconst (v := 1) hx hb d_mKeep_11 (by decide) ?_
  refine lv_iload_n hx hb d_mKeep_12 rfl (lv_at hl 2 rfl) ?_
  refine va_iast hx hb hW.1 hW.2.1 hW.2.2.1 hW.2.2.2.1 9 0 rfl rfl (i := 1) (x := x2) (gk_in (show gk_v 1 1 from rfl) (by omega) (by omega)) d_mKeep_13 (fun H locs hP hD hS => ?_)
  have hW : gk_W D vwCl (gk_T cI cL) s A H locs (wd_M cI cL g fl rn fs lt kk mk mf ml ma il sz tt (upd (upd fh (0 : Int32).toNatClampNeg x1) (1 : Int32).toNatClampNeg x2) hd) := ⟨hW.1, hP, hD, hS, hW.2.2.2.2⟩
  refine lv_aload_n hx hb d_mKeep_14 rfl (lv_at hl 0 rfl) ?_
  refine va_get (D := D) (C := R_M) (T := F_M) (N := 14) hx hb hts i_M hown hW.1 hW.2.1 0 rfl rfl 12 (by decide) (hts _ w_142) (fun _ h9 => h9) rfl d_mKeep_15 ?_
  refine lv_iconst (v := 2) hx hb d_mKeep_18 (by decide) ?_
  refine lv_iload_n hx hb d_mKeep_19 rfl (lv_at hl 3 rfl) ?_
  refine va_iast hx hb hW.1 hW.2.1 hW.2.2.1 hW.2.2.2.1 9 0 rfl rfl (i := 2) (x := x3) (gk_in (show gk_v 2 2 from rfl) (by omega) (by omega)) d_mKeep_20 (fun H locs hP hD hS => ?_)
  have hW : gk_W D vwCl (gk_T cI cL) s A H locs (wd_M cI cL g fl rn fs lt kk mk mf ml ma il sz tt (upd (upd (upd fh (0 : Int32).toNatClampNeg x1) (1 : Int32).toNatClampNeg x2) (2 : Int32).toNatClampNeg x3) hd) := ⟨hW.1, hP, hD, hS, hW.2.2.2.2⟩
  refine lv_aload_n hx hb d_mKeep_21 rfl (lv_at hl 0 rfl) ?_
  refine va_get (D := D) (C := R_M) (T := F_M) (N := 14) hx hb hts i_M hown hW.1 hW.2.1 0 rfl rfl 12 (by decide) (hts _ w_142) (fun _ h9 => h9) rfl d_mKeep_22 ?_
  refine lv_iconst (v := 3) hx hb d_mKeep_25 (by decide) ?_
  refine lv_iload hx hb d_mKeep_26 (lv_at hl 4 rfl) ?_
  refine va_iast hx hb hW.1 hW.2.1 hW.2.2.1 hW.2.2.2.1 9 0 rfl rfl (i := 3) (x := x4) (gk_in (show gk_v 3 3 from rfl) (by omega) (by omega)) d_mKeep_28 (fun H locs hP hD hS => ?_)
  have hW : gk_W D vwCl (gk_T cI cL) s A H locs (wd_M cI cL g fl rn fs lt kk mk mf ml ma il sz tt (upd (upd (upd (upd fh (0 : Int32).toNatClampNeg x1) (1 : Int32).toNatClampNeg x2) (2 : Int32).toNatClampNeg x3) (3 : Int32).toNatClampNeg x4) hd) := ⟨hW.1, hP, hD, hS, hW.2.2.2.2⟩
  refine lv_aload_n hx hb d_mKeep_29 rfl (lv_at hl 0 rfl) ?_
  refine va_get (D := D) (C := R_M) (T := F_M) (N := 14) hx hb hts i_M hown hW.1 hW.2.1 0 rfl rfl 12 (by decide) (hts _ w_142) (fun _ h9 => h9) rfl d_mKeep_30 ?_
  refine lv_iconst (v := 4) hx hb d_mKeep_33 (by decide) ?_
  refine lv_iload hx hb d_mKeep_34 (lv_at hl 5 rfl) ?_
  refine va_iast hx hb hW.1 hW.2.1 hW.2.2.1 hW.2.2.2.1 9 0 rfl rfl (i := 4) (x := x5) (gk_in (show gk_v 4 4 from rfl) (by omega) (by omega)) d_mKeep_36 (fun H locs hP hD hS => ?_)
  have hW : gk_W D vwCl (gk_T cI cL) s A H locs (wd_M cI cL g fl rn fs lt kk mk mf ml ma il sz tt (upd (upd (upd (upd (upd fh (0 : Int32).toNatClampNeg x1) (1 : Int32).toNatClampNeg x2) (2 : Int32).toNatClampNeg x3) (3 : Int32).toNatClampNeg x4) (4 : Int32).toNatClampNeg x5) hd) := ⟨hW.1, hP, hD, hS, hW.2.2.2.2⟩
  exact X (upd (upd (upd (upd (upd fh (0 : Int32).toNatClampNeg x1) (1 : Int32).toNatClampNeg x2) (2 : Int32).toNatClampNeg x3) (3 : Int32).toNatClampNeg x4) (4 : Int32).toNatClampNeg x5) H locs 0 0 37 ls heq hW d_mKeep_37 (Nat.le_of_ble_eq_true rfl) (Nat.le_of_ble_eq_true rfl)
