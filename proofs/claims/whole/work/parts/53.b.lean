def mm_mBeforeSpaces_23 (x1 rn : Int32) (fs lt kk : Nat → Int32) (il : Int32) (tt : Nat → Int32) (x2 : Int32) : Int32 := (mm_mBaseClass (mm_mBase x2 rn fs lt kk il tt) rn fs lt kk il tt)
def mm_mBeforeSpaces_4 (x1 rn : Int32) (fs lt kk : Nat → Int32) (il : Int32) (tt : Nat → Int32) : Nat → Int32 → Int32
  | 0, x2 => 0
  | n + 1, x2 => if x2 < 0 then (mm_mBeforeSpaces_23 x1 rn fs lt kk il tt x2) else (if (mm_mClassOf x2 rn fs lt kk il tt) = 4 then (mm_mBeforeSpaces_4 x1 rn fs lt kk il tt n (x2 + (-1))) else (mm_mBeforeSpaces_23 x1 rn fs lt kk il tt x2))
def mm_mBeforeSpaces (x1 rn : Int32) (fs lt kk : Nat → Int32) (il : Int32) (tt : Nat → Int32) : Int32 := mm_mBeforeSpaces_4 x1 rn fs lt kk il tt 2100 (x1 - 1)
def rm_mBeforeSpaces : Room := { frames := 4, cells := 0, slots := 0, locals := 90 }
set_option maxHeartbeats 4000000 in
set_option maxRecDepth 100000 in
theorem c_mBeforeSpaces (l : Launch) (D : va_G) (cI : ClassId) (cL cL : ClassId × ClassId) (g : Nat → Nat) (fl rn : Int32) (fs lt kk mk mf ml ma : Nat → Int32) (il sz : Int32) (tt fh : Nat → Int32) (hd x1 : Int32) (z_rn : Int) (v_rn : gk_v rn z_rn) (z_x1 : Int) (v_x1 : gk_v x1 z_x1) (hrn : 0 ≤ z_rn ∧ z_rn ≤ 100) (hx1 : 1 ≤ z_x1 ∧ z_x1 ≤ 2000) : gk_I l y_mBeforeSpaces (.code y_mBeforeSpaces b_mBeforeSpaces 3 (some .int) :: wA) rm_mBeforeSpaces D vwCl (gk_T cI cL) [.ref (g 0), .int x1] (wd_M cI cL g fl rn fs lt kk mk mf ml ma il sz tt fh hd) (fun (r : Int32) (_ : Unit) => r = mm_mBeforeSpaces x1 rn fs lt kk il tt) (fun (_ : Unit) => (wd_M cI cL g fl rn fs lt kk mk mf ml ma il sz tt fh hd)) 0 0 := by
  refine gk_I.of (by decide) (Nat.le_of_ble_eq_true rfl) ?_
  intro p e s m below meth c A ls Q H locs hx hb hml hown hts hW hl X
  have hl : lv_has ls 3 [(0, .ref (g 0)), (1, .int x1)] := hl
  obtain ⟨tgt, heq⟩ : ∃ t, mm_mBeforeSpaces x1 rn fs lt kk il tt = t := ⟨_, rfl⟩
  rw [heq] at X
  rw [mm_mBeforeSpaces] at heq
  obtain ⟨z_il, v_il⟩ := gk_vex il
  have K23 : ∀ (x2 : Int32) (H : Heap) (locs : List Loc) (ls : Array Slot), ∀ (z_x2 : Int), gk_v x2 z_x2 → -1 ≤ z_x2 ∧ z_x2 < 2000 → mm_mBeforeSpaces_23 x1 rn fs lt kk il tt x2 = tgt → gk_W D vwCl (gk_T cI cL) s A H locs (wd_M cI cL g fl rn fs lt kk mk mf ml ma il sz tt fh hd) → lv_has ls 3 [(0, .ref (g 0)), (1, .int x1), (2, .int x2)] → W p l e rm_mBeforeSpaces s m [.ref (g 0), .int x1].toArray below meth c H locs 0 0 Q (F0 m 23 ls []) := by
    intro x2 H locs ls z_x2 v_x2 f23_0 heq hW hl
    rw [mm_mBeforeSpaces_23] at heq
    refine lv_aload_n hx hb d_mBeforeSpaces_23 rfl (lv_at hl 0 rfl) ?_
    refine lv_aload_n hx hb d_mBeforeSpaces_24 rfl (lv_at hl 0 rfl) ?_
    refine lv_iload_n hx hb d_mBeforeSpaces_25 rfl (lv_at hl 2 rfl) ?_
    refine gk_goR hW [0, 1, 2, 3, 4, 5, 6, 7, 8, 9] rfl (va_runV (As := [.int x2]) (rest := [.ref (g 0)]) ⟨hx, hb, hml, hown, hts⟩ (c_mBase l D cI cL cL g fl rn fs lt kk mk mf ml ma il sz tt fh hd x2 z_rn v_rn z_x2 v_x2 (by omega) (by omega) _) (gk_cwV hts w_179 w_180 w_181 w_145 k_mBase rfl e_mBase rfl rfl ⟨Nat.le_of_ble_eq_true rfl, Nat.le_of_ble_eq_true rfl⟩) (gk_preV hW [0, 1, 2, 3, 4, 5, 6, 7, 8, 9] rfl rfl rfl rfl) rfl rfl hl.1 rfl (lv_room (Nat.le_of_ble_eq_true rfl)) d_mBeforeSpaces_26 ⟨Nat.le_of_ble_eq_true rfl, Nat.le_of_ble_eq_true rfl⟩) (fun H locs hW => ?_)
    obtain ⟨zb_1, vb_1, hb_1⟩ := mm_mBase_bd x2 rn fs lt kk il tt z_x2 v_x2 (by omega)
    refine gk_goR hW [0, 1, 2, 3, 4, 5, 6, 7, 8, 9] rfl (va_runV (As := [.int (mm_mBase x2 rn fs lt kk il tt)]) (rest := []) ⟨hx, hb, hml, hown, hts⟩ (c_mBaseClass l D cI cL cL g fl rn fs lt kk mk mf ml ma il sz tt fh hd (mm_mBase x2 rn fs lt kk il tt) z_rn v_rn zb_1 vb_1 (by omega) (by omega) _) (gk_cwV hts w_182 w_183 w_184 w_145 k_mBaseClass rfl e_mBaseClass rfl rfl ⟨Nat.le_of_ble_eq_true rfl, Nat.le_of_ble_eq_true rfl⟩) (gk_preV hW [0, 1, 2, 3, 4, 5, 6, 7, 8, 9] rfl rfl rfl rfl) rfl rfl hl.1 rfl (lv_room (Nat.le_of_ble_eq_true rfl)) d_mBeforeSpaces_29 ⟨Nat.le_of_ble_eq_true rfl, Nat.le_of_ble_eq_true rfl⟩) (fun H locs hW => ?_)
    exact X _ () H locs 0 0 32 ls heq hW d_mBeforeSpaces_32 rfl (Nat.le_of_ble_eq_true rfl) (Nat.le_of_ble_eq_true rfl)
  have L4 : ∀ (n : Nat) (x2 : Int32) (H : Heap) (locs : List Loc) (ls : Array Slot), ∀ (z_x2 : Int), gk_v x2 z_x2 → (z_x2 + 2) < (n : Int) → -1 ≤ z_x2 ∧ z_x2 < 2000 → mm_mBeforeSpaces_4 x1 rn fs lt kk il tt n x2 = tgt → gk_W D vwCl (gk_T cI cL) s A H locs (wd_M cI cL g fl rn fs lt kk mk mf ml ma il sz tt fh hd) → lv_has ls 3 [(0, .ref (g 0)), (1, .int x1), (2, .int x2)] → W p l e rm_mBeforeSpaces s m [.ref (g 0), .int x1].toArray below meth c H locs 0 0 Q (F0 m 4 ls []) := by
    intro n
    induction n with
    | zero => intro x2 H locs ls z_x2 v_x2 hm f4_0 heq hW hl; exfalso; omega
    | succ n ih =>
      intro x2 H locs ls z_x2 v_x2 hm f4_0 heq hW hl
      rw [mm_mBeforeSpaces_4] at heq
      refine lv_iload_n hx hb d_mBeforeSpaces_4 rfl (lv_at hl 2 rfl) ?_
      refine lv_if_lt (tgt := 23) hx hb d_mBeforeSpaces_5 (by decide) (fun c_2 => ?_) (fun c_2 => ?_)
      · replace heq := (if_pos c_2).symm.trans heq
        have ic_2 := gk_lt v_x2 (show gk_v 0 0 from rfl) c_2
        exact K23 x2 H locs ls z_x2 v_x2 (by omega) heq hW (lv_sub hl [0, 1, 2] rfl)
      · replace heq := (if_neg c_2).symm.trans heq
        have ic_2 := gk_nlt v_x2 (show gk_v 0 0 from rfl) c_2
        refine lv_aload_n hx hb d_mBeforeSpaces_8 rfl (lv_at hl 0 rfl) ?_
        refine lv_iload_n hx hb d_mBeforeSpaces_9 rfl (lv_at hl 2 rfl) ?_
        refine gk_goR hW [0, 1, 2, 3, 4, 5, 6, 7, 8, 9] rfl (va_runV (As := [.int x2]) (rest := []) ⟨hx, hb, hml, hown, hts⟩ (c_mClassOf l D cI cL cL g fl rn fs lt kk mk mf ml ma il sz tt fh hd x2 z_rn v_rn z_x2 v_x2 (by omega) (by omega) _) (gk_cwV hts w_167 w_168 w_169 w_145 k_mClassOf rfl e_mClassOf rfl rfl ⟨Nat.le_of_ble_eq_true rfl, Nat.le_of_ble_eq_true rfl⟩) (gk_preV hW [0, 1, 2, 3, 4, 5, 6, 7, 8, 9] rfl rfl rfl rfl) rfl rfl hl.1 rfl (lv_room (Nat.le_of_ble_eq_true rfl)) d_mBeforeSpaces_10 ⟨Nat.le_of_ble_eq_true rfl, Nat.le_of_ble_eq_true rfl⟩) (fun H locs hW => ?_)
        refine lv_iconst (v := 4) hx hb d_mBeforeSpaces_13 (by decide) ?_
        refine lv_icmp_ne (tgt := 23) hx hb d_mBeforeSpaces_14 (by decide) (fun c_3 => ?_) (fun c_3 => ?_)
        · replace heq := (if_neg c_3).symm.trans heq
          exact K23 x2 H locs ls z_x2 v_x2 (by omega) heq hW (lv_sub hl [0, 1, 2] rfl)
        · replace heq := (if_pos c_3).symm.trans heq
          refine lv_iinc (v := x2 + (-1)) (lv' := [(2, .int (x2 + (-1))), (0, .ref (g 0)), (1, .int x1)]) hx hb d_mBeforeSpaces_17 hl (k := 2) rfl rfl (by decide) rfl (fun ls hl => ?_)
          obtain ⟨zt_4, vt_4, et_4⟩ := gk_add v_x2 (show gk_v (-1) (-1) from rfl) (by omega) (by omega)
          refine lv_goto (tgt := 4) hx hb d_mBeforeSpaces_20 (by decide) ?_
          exact ih (x2 + (-1)) H locs ls zt_4 vt_4 (by omega) (by omega) heq hW (lv_sub hl [1, 2, 0] rfl)
  refine lv_iload_n hx hb d_mBeforeSpaces_0 rfl (lv_at hl 1 rfl) ?_
  refine lv_iconst (v := 1) hx hb d_mBeforeSpaces_1 (by decide) ?_
  refine lv_isub hx hb d_mBeforeSpaces_2 ?_
  obtain ⟨zt_5, vt_5, et_5⟩ := gk_sub v_x1 (show gk_v 1 1 from rfl) (by omega) (by omega)
  refine lv_istore_n (lv' := [(2, .int (x1 - 1)), (0, .ref (g 0)), (1, .int x1)]) hx hb d_mBeforeSpaces_3 rfl hl (by decide) rfl (fun ls hl => ?_)
  exact L4 2100 (x1 - 1) H locs ls zt_5 vt_5 (by omega) (by omega) heq hW (lv_sub hl [1, 2, 0] rfl)
def mm_mFlags_4 (x1 rn : Int32) (fs lt kk : Nat → Int32) (il : Int32) (tt : Nat → Int32) : Nat → Int32 → Int32 → Int32
  | 0, x2, x3 => 0
  | n + 1, x2, x3 => if x3 < 0 then x2 else (if (mm_mBaseClass x3 rn fs lt kk il tt) = 37 then (mm_mFlags_4 x1 rn fs lt kk il tt n (x2 + 1) (mm_mBase (x3 - 1) rn fs lt kk il tt)) else x2)
def mm_mFlags (x1 rn : Int32) (fs lt kk : Nat → Int32) (il : Int32) (tt : Nat → Int32) : Int32 := mm_mFlags_4 x1 rn fs lt kk il tt 2100 0 x1
def rm_mFlags : Room := { frames := 4, cells := 0, slots := 0, locals := 90 }
set_option maxHeartbeats 4000000 in
set_option maxRecDepth 100000 in
theorem c_mFlags (l : Launch) (D : va_G) (cI : ClassId) (cL cL : ClassId × ClassId) (g : Nat → Nat) (fl rn : Int32) (fs lt kk mk mf ml ma : Nat → Int32) (il sz : Int32) (tt fh : Nat → Int32) (hd x1 : Int32) (z_rn : Int) (v_rn : gk_v rn z_rn) (z_x1 : Int) (v_x1 : gk_v x1 z_x1) (hrn : 0 ≤ z_rn ∧ z_rn ≤ 100) (hx1 : 0 ≤ z_x1 ∧ z_x1 < 2000) : gk_I l y_mFlags (.code y_mFlags b_mFlags 4 (some .int) :: wA) rm_mFlags D vwCl (gk_T cI cL) [.ref (g 0), .int x1] (wd_M cI cL g fl rn fs lt kk mk mf ml ma il sz tt fh hd) (fun (r : Int32) (_ : Unit) => r = mm_mFlags x1 rn fs lt kk il tt) (fun (_ : Unit) => (wd_M cI cL g fl rn fs lt kk mk mf ml ma il sz tt fh hd)) 0 0 := by
  refine gk_I.of (by decide) (Nat.le_of_ble_eq_true rfl) ?_
  intro p e s m below meth c A ls Q H locs hx hb hml hown hts hW hl X
  have hl : lv_has ls 4 [(0, .ref (g 0)), (1, .int x1)] := hl
  obtain ⟨tgt, heq⟩ : ∃ t, mm_mFlags x1 rn fs lt kk il tt = t := ⟨_, rfl⟩
  rw [heq] at X
  rw [mm_mFlags] at heq
  obtain ⟨z_il, v_il⟩ := gk_vex il
  have L4 : ∀ (n : Nat) (x2 x3 : Int32) (H : Heap) (locs : List Loc) (ls : Array Slot), ∀ (z_x3 : Int), gk_v x3 z_x3 → (z_x3 + 11) < (n : Int) → -10 ≤ z_x3 ∧ z_x3 < 2000 → mm_mFlags_4 x1 rn fs lt kk il tt n x2 x3 = tgt → gk_W D vwCl (gk_T cI cL) s A H locs (wd_M cI cL g fl rn fs lt kk mk mf ml ma il sz tt fh hd) → lv_has ls 4 [(0, .ref (g 0)), (1, .int x1), (2, .int x2), (3, .int x3)] → W p l e rm_mFlags s m [.ref (g 0), .int x1].toArray below meth c H locs 0 0 Q (F0 m 4 ls []) := by
    intro n
    induction n with
    | zero => intro x2 x3 H locs ls z_x3 v_x3 hm f4_0 heq hW hl; exfalso; omega
    | succ n ih =>
      intro x2 x3 H locs ls z_x3 v_x3 hm f4_0 heq hW hl
      rw [mm_mFlags_4] at heq
      refine lv_iload_n hx hb d_mFlags_4 rfl (lv_at hl 3 rfl) ?_
      refine lv_if_lt (tgt := 32) hx hb d_mFlags_5 (by decide) (fun c_1 => ?_) (fun c_1 => ?_)
      · replace heq := (if_pos c_1).symm.trans heq
        have ic_1 := gk_lt v_x3 (show gk_v 0 0 from rfl) c_1
        refine lv_iload_n hx hb d_mFlags_32 rfl (lv_at hl 2 rfl) ?_
        exact X _ () H locs 0 0 33 ls heq hW d_mFlags_33 rfl (Nat.le_of_ble_eq_true rfl) (Nat.le_of_ble_eq_true rfl)
      · replace heq := (if_neg c_1).symm.trans heq
        have ic_1 := gk_nlt v_x3 (show gk_v 0 0 from rfl) c_1
        refine lv_aload_n hx hb d_mFlags_8 rfl (lv_at hl 0 rfl) ?_
        refine lv_iload_n hx hb d_mFlags_9 rfl (lv_at hl 3 rfl) ?_
        refine gk_goR hW [0, 1, 2, 3, 4, 5, 6, 7, 8, 9] rfl (va_runV (As := [.int x3]) (rest := []) ⟨hx, hb, hml, hown, hts⟩ (c_mBaseClass l D cI cL cL g fl rn fs lt kk mk mf ml ma il sz tt fh hd x3 z_rn v_rn z_x3 v_x3 (by omega) (by omega) _) (gk_cwV hts w_182 w_183 w_184 w_145 k_mBaseClass rfl e_mBaseClass rfl rfl ⟨Nat.le_of_ble_eq_true rfl, Nat.le_of_ble_eq_true rfl⟩) (gk_preV hW [0, 1, 2, 3, 4, 5, 6, 7, 8, 9] rfl rfl rfl rfl) rfl rfl hl.1 rfl (lv_room (Nat.le_of_ble_eq_true rfl)) d_mFlags_10 ⟨Nat.le_of_ble_eq_true rfl, Nat.le_of_ble_eq_true rfl⟩) (fun H locs hW => ?_)
        refine lv_bipush (v := 37) hx hb d_mFlags_13 (by decide) ?_
        refine lv_icmp_ne (tgt := 32) hx hb d_mFlags_15 (by decide) (fun c_2 => ?_) (fun c_2 => ?_)
        · replace heq := (if_neg c_2).symm.trans heq
          refine lv_iload_n hx hb d_mFlags_32 rfl (lv_at hl 2 rfl) ?_
          exact X _ () H locs 0 0 33 ls heq hW d_mFlags_33 rfl (Nat.le_of_ble_eq_true rfl) (Nat.le_of_ble_eq_true rfl)
        · replace heq := (if_pos c_2).symm.trans heq
          refine lv_iinc (v := x2 + 1) (lv' := [(2, .int (x2 + 1)), (0, .ref (g 0)), (1, .int x1), (3, .int x3)]) hx hb d_mFlags_18 hl (k := 2) rfl rfl (by decide) rfl (fun ls hl => ?_)
          refine lv_aload_n hx hb d_mFlags_21 rfl (lv_at hl 1 rfl) ?_
          refine lv_iload_n hx hb d_mFlags_22 rfl (lv_at hl 3 rfl) ?_
          refine lv_iconst (v := 1) hx hb d_mFlags_23 (by decide) ?_
          refine lv_isub hx hb d_mFlags_24 ?_
          obtain ⟨zt_3, vt_3, et_3⟩ := gk_sub v_x3 (show gk_v 1 1 from rfl) (by omega) (by omega)
          refine gk_goR hW [0, 1, 2, 3, 4, 5, 6, 7, 8, 9] rfl (va_runV (As := [.int (x3 - 1)]) (rest := []) ⟨hx, hb, hml, hown, hts⟩ (c_mBase l D cI cL cL g fl rn fs lt kk mk mf ml ma il sz tt fh hd (x3 - 1) z_rn v_rn zt_3 vt_3 (by omega) (by omega) _) (gk_cwV hts w_179 w_180 w_181 w_145 k_mBase rfl e_mBase rfl rfl ⟨Nat.le_of_ble_eq_true rfl, Nat.le_of_ble_eq_true rfl⟩) (gk_preV hW [0, 1, 2, 3, 4, 5, 6, 7, 8, 9] rfl rfl rfl rfl) rfl rfl hl.1 rfl (lv_room (Nat.le_of_ble_eq_true rfl)) d_mFlags_25 ⟨Nat.le_of_ble_eq_true rfl, Nat.le_of_ble_eq_true rfl⟩) (fun H locs hW => ?_)
          obtain ⟨zb_4, vb_4, hb_4⟩ := mm_mBase_bd (x3 - 1) rn fs lt kk il tt zt_3 vt_3 (by omega)
          refine lv_istore_n (lv' := [(3, .int (mm_mBase (x3 - 1) rn fs lt kk il tt)), (2, .int (x2 + 1)), (0, .ref (g 0)), (1, .int x1)]) hx hb d_mFlags_28 rfl hl (by decide) rfl (fun ls hl => ?_)
          refine lv_goto (tgt := 4) hx hb d_mFlags_29 (by decide) ?_
          exact ih (x2 + 1) (mm_mBase (x3 - 1) rn fs lt kk il tt) H locs ls zb_4 vb_4 (by omega) (by omega) heq hW (lv_sub hl [2, 3, 1, 0] rfl)
  refine lv_iconst (v := 0) hx hb d_mFlags_0 (by decide) ?_
  refine lv_istore_n (lv' := [(2, .int 0), (0, .ref (g 0)), (1, .int x1)]) hx hb d_mFlags_1 rfl hl (by decide) rfl (fun ls hl => ?_)
  refine lv_iload_n hx hb d_mFlags_2 rfl (lv_at hl 2 rfl) ?_
  refine lv_istore_n (lv' := [(3, .int x1), (2, .int 0), (0, .ref (g 0)), (1, .int x1)]) hx hb d_mFlags_3 rfl hl (by decide) rfl (fun ls hl => ?_)
  exact L4 2100 0 x1 H locs ls z_x1 v_x1 (by omega) (by omega) heq hW (lv_sub hl [2, 3, 1, 0] rfl)
