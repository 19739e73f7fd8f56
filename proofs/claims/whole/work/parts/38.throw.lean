def mm_at (x1 : Int32) (tx : Nat → Int32) (ln : Int32) : Int32 × Int32 := if (mm_isPosition x1 ln) = 0 then (3, 0) else (0, tx x1.toNatClampNeg)
def rm_at : Room := { frames := 6, cells := 1, slots := 6, locals := 82 }
theorem T_at_8 : gx_T b_at "BreakPlaces" wA rm_at "java/lang/IndexOutOfBoundsException" "no such position" ["java/lang/RuntimeException", "java/lang/Exception"] 8 104 112 108 := ⟨⟨by decide +kernel, by decide +kernel⟩, ⟨w_111, w_112, w_113, a_IO⟩, o_IO, ⟨d_at_8, d_at_11, d_at_12, d_at_14, d_at_17⟩, Nat.le_of_ble_eq_true rfl, Nat.le_of_ble_eq_true rfl⟩
set_option maxHeartbeats 4000000 in
set_option maxRecDepth 100000 in
theorem c_at (l : Launch) (hst : l.stackTraces = false) (D : va_G) (cI : ClassId) (cL : ClassId × ClassId) (h : Nat → Nat) (tx cs rl gv fa1 la1 va1 : Nat → Int32) (mn1 : Int32) (fa2 la2 va2 : Nat → Int32) (mn2 : Int32) (fa3 la3 va3 : Nat → Int32) (mn3 b1 b2 b3 b4 b5 b6 ln lo kn x1 : Int32) (z_ln : Int) (v_ln : gk_v ln z_ln) (hln : 0 ≤ z_ln ∧ z_ln ≤ 2000) : gx_I l y_at (.code y_at b_at 2 (some .int) :: wA) rm_at D vwCl (gk_T cI cL) [.ref (h 0), .int x1] (wd_P cI h tx cs rl gv fa1 la1 va1 mn1 fa2 la2 va2 mn2 fa3 la3 va3 mn3 b1 b2 b3 b4 b5 b6 ln lo kn) (fun (r : Int32) (_ : Unit) => (0, r) = mm_at x1 tx ln) (fun (E : String) (_ : Unit) => (E = "java/lang/IndexOutOfBoundsException" ∧ (3, 0) = mm_at x1 tx ln)) (fun (_ : Unit) => (wd_P cI h tx cs rl gv fa1 la1 va1 mn1 fa2 la2 va2 mn2 fa3 la3 va3 mn3 b1 b2 b3 b4 b5 b6 ln lo kn)) 1 6 := by
  refine gx_I.of hst (by decide) (Nat.le_of_ble_eq_true rfl) ?_
  intro p e s m below meth c A ls Q H locs hx hb hml hown hts hW hl X Y
  have hl : lv_has ls 2 [(0, .ref (h 0)), (1, .int x1)] := hl
  obtain ⟨tgt, heq⟩ : ∃ t, mm_at x1 tx ln = t := ⟨_, rfl⟩
  rw [heq] at X
  rw [heq] at Y
  rw [mm_at] at heq
  obtain ⟨z_x1, v_x1⟩ := gk_vex x1
  refine lv_aload_n hx hb d_at_0 rfl (lv_at hl 0 rfl) ?_
  refine lv_iload_n hx hb d_at_1 rfl (lv_at hl 1 rfl) ?_
  refine gk_goR hW [0, 1, 2, 3, 4, 5, 6, 7, 8, 9, 10, 11, 12, 13, 14, 15, 16, 17] rfl (va_runV (As := [.int x1]) (rest := []) ⟨hx, hb, hml, hown, hts⟩ (c_isPosition l D cI cL h tx cs rl gv fa1 la1 va1 mn1 fa2 la2 va2 mn2 fa3 la3 va3 mn3 b1 b2 b3 b4 b5 b6 ln lo kn x1 _) (gk_cwV hts w_108 w_109 w_110 w_3 k_isPosition rfl e_isPosition rfl rfl ⟨Nat.le_of_ble_eq_true rfl, Nat.le_of_ble_eq_true rfl⟩) (gk_preV hW [0, 1, 2, 3, 4, 5, 6, 7, 8, 9, 10, 11, 12, 13, 14, 15, 16, 17] rfl rfl rfl rfl) rfl rfl hl.1 rfl (lv_room (Nat.le_of_ble_eq_true rfl)) d_at_2 ⟨Nat.le_of_ble_eq_true rfl, Nat.le_of_ble_eq_true rfl⟩) (fun H locs hW => ?_)
  refine lv_if_ne (tgt := 18) hx hb d_at_5 (by decide) (fun c_1 => ?_) (fun c_1 => ?_)
  · replace heq := (if_neg c_1).symm.trans heq
    have hin := mm_isPosition_in c_1 v_x1 v_ln
    refine lv_aload_n hx hb d_at_18 rfl (lv_at hl 0 rfl) ?_
    refine va_get (D := D) (C := R_P) (T := F_P) (N := 11) hx hb hts i_P hown hW.1 hW.2.1 0 rfl rfl 0 (by decide) (hts _ w_89) (fun _ h9 => h9) rfl d_at_19 ?_
    refine lv_iload_n hx hb d_at_22 rfl (lv_at hl 1 rfl) ?_
    refine va_iald hx hb hW.1 hW.2.1 1 0 rfl rfl (i := x1) (gk_in v_x1 (by omega) (by omega)) d_at_23 ?_
    exact X _ () H locs 0 0 24 ls heq hW d_at_24 rfl (Nat.le_of_ble_eq_true rfl) (Nat.le_of_ble_eq_true rfl)
  · replace heq := (if_pos c_1).symm.trans heq
    exact Y _ _ _ 8 104 112 108 () H locs 0 0 ls T_at_8 (⟨rfl, heq⟩) hW hl.1 (Nat.le_of_ble_eq_true rfl) (Nat.le_of_ble_eq_true rfl) (Nat.le_of_ble_eq_true rfl) (Nat.le_of_ble_eq_true rfl)
def mm_kind (x1 : Int32) (cs : Nat → Int32) (ln lo : Int32) : Int32 × Int32 := if (mm_isPosition x1 ln) = 0 then (3, 0) else (0, (mm_kindAt x1 cs lo))
def rm_kind : Room := { frames := 6, cells := 1, slots := 6, locals := 82 }
theorem T_kind_8 : gx_T b_kind "BreakPlaces" wA rm_kind "java/lang/IndexOutOfBoundsException" "no such position" ["java/lang/RuntimeException", "java/lang/Exception"] 8 104 112 108 := ⟨⟨by decide +kernel, by decide +kernel⟩, ⟨w_111, w_112, w_113, a_IO⟩, o_IO, ⟨d_kind_8, d_kind_11, d_kind_12, d_kind_14, d_kind_17⟩, Nat.le_of_ble_eq_true rfl, Nat.le_of_ble_eq_true rfl⟩
set_option maxHeartbeats 4000000 in
set_option maxRecDepth 100000 in
theorem c_kind (l : Launch) (hst : l.stackTraces = false) (D : va_G) (cI : ClassId) (cL : ClassId × ClassId) (h : Nat → Nat) (tx cs rl gv fa1 la1 va1 : Nat → Int32) (mn1 : Int32) (fa2 la2 va2 : Nat → Int32) (mn2 : Int32) (fa3 la3 va3 : Nat → Int32) (mn3 b1 b2 b3 b4 b5 b6 ln lo kn x1 : Int32) (z_ln : Int) (v_ln : gk_v ln z_ln) (hln : 0 ≤ z_ln ∧ z_ln ≤ 2000) : gx_I l y_kind (.code y_kind b_kind 2 (some .int) :: wA) rm_kind D vwCl (gk_T cI cL) [.ref (h 0), .int x1] (wd_P cI h tx cs rl gv fa1 la1 va1 mn1 fa2 la2 va2 mn2 fa3 la3 va3 mn3 b1 b2 b3 b4 b5 b6 ln lo kn) (fun (r : Int32) (_ : Unit) => (0, r) = mm_kind x1 cs ln lo) (fun (E : String) (_ : Unit) => (E = "java/lang/IndexOutOfBoundsException" ∧ (3, 0) = mm_kind x1 cs ln lo)) (fun (_ : Unit) => (wd_P cI h tx cs rl gv fa1 la1 va1 mn1 fa2 la2 va2 mn2 fa3 la3 va3 mn3 b1 b2 b3 b4 b5 b6 ln lo kn)) 1 6 := by
  refine gx_I.of hst (by decide) (Nat.le_of_ble_eq_true rfl) ?_
  intro p e s m below meth c A ls Q H locs hx hb hml hown hts hW hl X Y
  have hl : lv_has ls 2 [(0, .ref (h 0)), (1, .int x1)] := hl
  obtain ⟨tgt, heq⟩ : ∃ t, mm_kind x1 cs ln lo = t := ⟨_, rfl⟩
  rw [heq] at X
  rw [heq] at Y
  rw [mm_kind] at heq
  obtain ⟨z_x1, v_x1⟩ := gk_vex x1
  obtain ⟨z_lo, v_lo⟩ := gk_vex lo
  refine lv_aload_n hx hb d_kind_0 rfl (lv_at hl 0 rfl) ?_
  refine lv_iload_n hx hb d_kind_1 rfl (lv_at hl 1 rfl) ?_
  refine gk_goR hW [0, 1, 2, 3, 4, 5, 6, 7, 8, 9, 10, 11, 12, 13, 14, 15, 16, 17] rfl (va_runV (As := [.int x1]) (rest := []) ⟨hx, hb, hml, hown, hts⟩ (c_isPosition l D cI cL h tx cs rl gv fa1 la1 va1 mn1 fa2 la2 va2 mn2 fa3 la3 va3 mn3 b1 b2 b3 b4 b5 b6 ln lo kn x1 _) (gk_cwV hts w_108 w_109 w_110 w_3 k_isPosition rfl e_isPosition rfl rfl ⟨Nat.le_of_ble_eq_true rfl, Nat.le_of_ble_eq_true rfl⟩) (gk_preV hW [0, 1, 2, 3, 4, 5, 6, 7, 8, 9, 10, 11, 12, 13, 14, 15, 16, 17] rfl rfl rfl rfl) rfl rfl hl.1 rfl (lv_room (Nat.le_of_ble_eq_true rfl)) d_kind_2 ⟨Nat.le_of_ble_eq_true rfl, Nat.le_of_ble_eq_true rfl⟩) (fun H locs hW => ?_)
  refine lv_if_ne (tgt := 18) hx hb d_kind_5 (by decide) (fun c_1 => ?_) (fun c_1 => ?_)
  · replace heq := (if_neg c_1).symm.trans heq
    have hin := mm_isPosition_in c_1 v_x1 v_ln
    refine lv_aload_n hx hb d_kind_18 rfl (lv_at hl 0 rfl) ?_
    refine lv_iload_n hx hb d_kind_19 rfl (lv_at hl 1 rfl) ?_
    refine gk_goR hW [0, 1, 2, 3, 4, 5, 6, 7, 8, 9, 10, 11, 12, 13, 14, 15, 16, 17] rfl (va_runV (As := [.int x1]) (rest := []) ⟨hx, hb, hml, hown, hts⟩ (c_kindAt l D cI cL h tx cs rl gv fa1 la1 va1 mn1 fa2 la2 va2 mn2 fa3 la3 va3 mn3 b1 b2 b3 b4 b5 b6 ln lo kn x1 z_x1 v_x1 (by omega) _) (gk_cwV hts w_50 w_51 w_52 w_3 k_kindAt rfl e_kindAt rfl rfl ⟨Nat.le_of_ble_eq_true rfl, Nat.le_of_ble_eq_true rfl⟩) (gk_preV hW [0, 1, 2, 3, 4, 5, 6, 7, 8, 9, 10, 11, 12, 13, 14, 15, 16, 17] rfl rfl rfl rfl) rfl rfl hl.1 rfl (lv_room (Nat.le_of_ble_eq_true rfl)) d_kind_20 ⟨Nat.le_of_ble_eq_true rfl, Nat.le_of_ble_eq_true rfl⟩) (fun H locs hW => ?_)
    exact X _ () H locs 0 0 23 ls heq hW d_kind_23 rfl (Nat.le_of_ble_eq_true rfl) (Nat.le_of_ble_eq_true rfl)
  · replace heq := (if_pos c_1).symm.trans heq
    exact Y _ _ _ 8 104 112 108 () H locs 0 0 ls T_kind_8 (⟨rfl, heq⟩) hW hl.1 (Nat.le_of_ble_eq_true rfl) (Nat.le_of_ble_eq_true rfl) (Nat.le_of_ble_eq_true rfl) (Nat.le_of_ble_eq_true rfl)
def mm_breaks (x1 : Int32) (tx cs rl fa2 la2 va2 : Nat → Int32) (mn2 : Int32) (fa3 la3 va3 : Nat → Int32) (mn3 b1 b2 b3 b4 b5 b6 ln lo kn : Int32) : Int32 × Int32 × (Nat → Int32) × Int32 × Int32 × Int32 × Int32 × Int32 × Int32 × Int32 := if (mm_isPlace x1 ln) = 0 then (3, 0, rl, b1, b2, b3, b4, b5, b6, kn) else (match (mm_breaksAt x1 tx cs rl fa2 la2 va2 mn2 fa3 la3 va3 mn3 b1 b2 b3 b4 b5 b6 ln lo kn) with | (r_2, u_3, u_4, u_5, u_6, u_7, u_8, u_9, u_10) => (0, r_2, u_3, u_4, u_5, u_6, u_7, u_8, u_9, u_10))
def rm_breaks : Room := { frames := 6, cells := 1, slots := 6, locals := 135 }
theorem T_breaks_8 : gx_T b_breaks "BreakPlaces" wA rm_breaks "java/lang/IndexOutOfBoundsException" "no such place" ["java/lang/RuntimeException", "java/lang/Exception"] 8 104 118 108 := ⟨⟨by decide +kernel, by decide +kernel⟩, ⟨w_111, w_112, w_120, a_IO⟩, o_IO, ⟨d_breaks_8, d_breaks_11, d_breaks_12, d_breaks_14, d_breaks_17⟩, Nat.le_of_ble_eq_true rfl, Nat.le_of_ble_eq_true rfl⟩
set_option maxHeartbeats 4000000 in
set_option maxRecDepth 100000 in
theorem c_breaks (l : Launch) (hst : l.stackTraces = false) (D : va_G) (cI : ClassId) (cL : ClassId × ClassId) (h : Nat → Nat) (tx cs rl gv fa1 la1 va1 : Nat → Int32) (mn1 : Int32) (fa2 la2 va2 : Nat → Int32) (mn2 : Int32) (fa3 la3 va3 : Nat → Int32) (mn3 b1 b2 b3 b4 b5 b6 ln lo kn x1 : Int32) (z_kn : Int) (v_kn : gk_v kn z_kn) (z_ln : Int) (v_ln : gk_v ln z_ln) (z_mn2 : Int) (v_mn2 : gk_v mn2 z_mn2) (z_mn3 : Int) (v_mn3 : gk_v mn3 z_mn3) (hln : 0 ≤ z_ln ∧ z_ln ≤ 2000) (hkn : 0 ≤ z_kn ∧ z_kn ≤ z_ln) (hm2 : 0 ≤ z_mn2 ∧ z_mn2 ≤ 40) (hm3 : 0 ≤ z_mn3 ∧ z_mn3 ≤ 40) : gx_I l y_breaks (.code y_breaks b_breaks 2 (some .int) :: wA) rm_breaks D vwCl (gk_T cI cL) [.ref (h 0), .int x1] (wd_P cI h tx cs rl gv fa1 la1 va1 mn1 fa2 la2 va2 mn2 fa3 la3 va3 mn3 b1 b2 b3 b4 b5 b6 ln lo kn) (fun (r : Int32) (u : (Nat → Int32) × Int32 × Int32 × Int32 × Int32 × Int32 × Int32 × Int32) => (0, r, u) = mm_breaks x1 tx cs rl fa2 la2 va2 mn2 fa3 la3 va3 mn3 b1 b2 b3 b4 b5 b6 ln lo kn) (fun (E : String) (u : (Nat → Int32) × Int32 × Int32 × Int32 × Int32 × Int32 × Int32 × Int32) => (E = "java/lang/IndexOutOfBoundsException" ∧ (3, 0, u) = mm_breaks x1 tx cs rl fa2 la2 va2 mn2 fa3 la3 va3 mn3 b1 b2 b3 b4 b5 b6 ln lo kn)) (fun u => (wd_P cI h tx cs u.1 gv fa1 la1 va1 mn1 fa2 la2 va2 mn2 fa3 la3 va3 mn3 u.2.1 u.2.2.1 u.2.2.2.1 u.2.2.2.2.1 u.2.2.2.2.2.1 u.2.2.2.2.2.2.1 ln lo u.2.2.2.2.2.2.2)) 1 6 := by
  refine gx_I.of hst (by decide) (Nat.le_of_ble_eq_true rfl) ?_
  intro p e s m below meth c A ls Q H locs hx hb hml hown hts hW hl X Y
  have hl : lv_has ls 2 [(0, .ref (h 0)), (1, .int x1)] := hl
  obtain ⟨tgt, heq⟩ : ∃ t, mm_breaks x1 tx cs rl fa2 la2 va2 mn2 fa3 la3 va3 mn3 b1 b2 b3 b4 b5 b6 ln lo kn = t := ⟨_, rfl⟩
  rw [heq] at X
  rw [heq] at Y
  rw [mm_breaks] at heq
  obtain ⟨z_x1, v_x1⟩ := gk_vex x1
  obtain ⟨z_b1, v_b1⟩ := gk_vex b1
  obtain ⟨z_b2, v_b2⟩ := gk_vex b2
  obtain ⟨z_b3, v_b3⟩ := gk_vex b3
  obtain ⟨z_b4, v_b4⟩ := gk_vex b4
  obtain ⟨z_b5, v_b5⟩ := gk_vex b5
  obtain ⟨z_b6, v_b6⟩ := gk_vex b6
  obtain ⟨z_lo, v_lo⟩ := gk_vex lo
  refine lv_aload_n hx hb d_breaks_0 rfl (lv_at hl 0 rfl) ?_
  refine lv_iload_n hx hb d_breaks_1 rfl (lv_at hl 1 rfl) ?_
  refine gk_goR hW [0, 1, 2, 3, 4, 5, 6, 7, 8, 9, 10, 11, 12, 13, 14, 15, 16, 17] rfl (va_runV (As := [.int x1]) (rest := []) ⟨hx, hb, hml, hown, hts⟩ (c_isPlace l D cI cL h tx cs rl gv fa1 la1 va1 mn1 fa2 la2 va2 mn2 fa3 la3 va3 mn3 b1 b2 b3 b4 b5 b6 ln lo kn x1 _) (gk_cwV hts w_114 w_115 w_116 w_3 k_isPlace rfl e_isPlace rfl rfl ⟨Nat.le_of_ble_eq_true rfl, Nat.le_of_ble_eq_true rfl⟩) (gk_preV hW [0, 1, 2, 3, 4, 5, 6, 7, 8, 9, 10, 11, 12, 13, 14, 15, 16, 17] rfl rfl rfl rfl) rfl rfl hl.1 rfl (lv_room (Nat.le_of_ble_eq_true rfl)) d_breaks_2 ⟨Nat.le_of_ble_eq_true rfl, Nat.le_of_ble_eq_true rfl⟩) (fun H locs hW => ?_)
  refine lv_if_ne (tgt := 18) hx hb d_breaks_5 (by decide) (fun c_1 => ?_) (fun c_1 => ?_)
  · replace heq := (if_neg c_1).symm.trans heq
    refine lv_aload_n hx hb d_breaks_18 rfl (lv_at hl 0 rfl) ?_
    refine lv_iload_n hx hb d_breaks_19 rfl (lv_at hl 1 rfl) ?_
    refine gk_goI (wr := []) hW [0, 1, 2, 3, 4, 5, 6, 7, 8, 9, 10, 11, 12, 13, 14, 15, 16, 17] [] rfl rfl (by decide) (by decide) (va_runV (As := [.int x1]) (rest := []) ⟨hx, hb, hml, hown, hts⟩ (c_breaksAt l D cI cL h tx cs rl gv fa1 la1 va1 mn1 fa2 la2 va2 mn2 fa3 la3 va3 mn3 b1 b2 b3 b4 b5 b6 ln lo kn x1 z_kn v_kn z_ln v_ln z_mn2 v_mn2 z_mn3 v_mn3 (by omega) (by omega) (by omega) (by omega) _) (gk_cwV hts w_117 w_118 w_119 w_3 k_breaksAt rfl e_breaksAt rfl rfl ⟨Nat.le_of_ble_eq_true rfl, Nat.le_of_ble_eq_true rfl⟩) (gk_preV hW [0, 1, 2, 3, 4, 5, 6, 7, 8, 9, 10, 11, 12, 13, 14, 15, 16, 17] rfl rfl rfl rfl) rfl rfl hl.1 rfl (lv_room (Nat.le_of_ble_eq_true rfl)) d_breaks_20 ⟨Nat.le_of_ble_eq_true rfl, Nat.le_of_ble_eq_true rfl⟩) (fun r_2 u H locs p_11 hW => ?_)
    obtain ⟨u_3, u_4, u_5, u_6, u_7, u_8, u_9, u_10⟩ := u
    have hW : gk_W D vwCl (gk_T cI cL) s A H locs (wd_P cI h tx cs u_3 gv fa1 la1 va1 mn1 fa2 la2 va2 mn2 fa3 la3 va3 mn3 u_4 u_5 u_6 u_7 u_8 u_9 ln lo u_10) := hW.re [0, 1, 2, 3, 4, 5, 6, 7, 8, 9, 10, 11, 12, 13, 14, 15, 16, 17] (by decide) rfl
    rw [← p_11] at heq
    dsimp only at heq
    obtain ⟨zk_12, vk_12, hk_12⟩ := mm_breaksAt_kn p_11 v_ln v_kn (by omega) (by omega)
    exact X _ (u_3, u_4, u_5, u_6, u_7, u_8, u_9, u_10) H locs 0 0 23 ls heq hW d_breaks_23 rfl (Nat.le_of_ble_eq_true rfl) (Nat.le_of_ble_eq_true rfl)
  · replace heq := (if_pos c_1).symm.trans heq
    exact Y _ _ _ 8 104 118 108 (rl, b1, b2, b3, b4, b5, b6, kn) H locs 0 0 ls T_breaks_8 (⟨rfl, heq⟩) hW hl.1 (Nat.le_of_ble_eq_true rfl) (Nat.le_of_ble_eq_true rfl) (Nat.le_of_ble_eq_true rfl) (Nat.le_of_ble_eq_true rfl)
def mm_rule (x1 : Int32) (tx cs rl fa2 la2 va2 : Nat → Int32) (mn2 : Int32) (fa3 la3 va3 : Nat → Int32) (mn3 b1 b2 b3 b4 b5 b6 ln lo kn : Int32) : Int32 × Int32 × (Nat → Int32) × Int32 × Int32 × Int32 × Int32 × Int32 × Int32 × Int32 := if (mm_isPlace x1 ln) = 0 then (3, 0, rl, b1, b2, b3, b4, b5, b6, kn) else (match (mm_ruleAt x1 tx cs rl fa2 la2 va2 mn2 fa3 la3 va3 mn3 b1 b2 b3 b4 b5 b6 ln lo kn) with | (r_2, u_3, u_4, u_5, u_6, u_7, u_8, u_9, u_10) => (0, r_2, u_3, u_4, u_5, u_6, u_7, u_8, u_9, u_10))
def rm_rule : Room := { frames := 6, cells := 1, slots := 6, locals := 114 }
theorem T_rule_8 : gx_T b_rule "BreakPlaces" wA rm_rule "java/lang/IndexOutOfBoundsException" "no such place" ["java/lang/RuntimeException", "java/lang/Exception"] 8 104 118 108 := ⟨⟨by decide +kernel, by decide +kernel⟩, ⟨w_111, w_112, w_120, a_IO⟩, o_IO, ⟨d_rule_8, d_rule_11, d_rule_12, d_rule_14, d_rule_17⟩, Nat.le_of_ble_eq_true rfl, Nat.le_of_ble_eq_true rfl⟩
set_option maxHeartbeats 4000000 in
set_option maxRecDepth 100000 in
theorem c_rule (l : Launch) (hst : l.stackTraces = false) (D : va_G) (cI : ClassId) (cL : ClassId × ClassId) (h : Nat → Nat) (tx cs rl gv fa1 la1 va1 : Nat → Int32) (mn1 : Int32) (fa2 la2 va2 : Nat → Int32) (mn2 : Int32) (fa3 la3 va3 : Nat → Int32) (mn3 b1 b2 b3 b4 b5 b6 ln lo kn x1 : Int32) (z_kn : Int) (v_kn : gk_v kn z_kn) (z_ln : Int) (v_ln : gk_v ln z_ln) (z_mn2 : Int) (v_mn2 : gk_v mn2 z_mn2) (z_mn3 : Int) (v_mn3 : gk_v mn3 z_mn3) (hln : 0 ≤ z_ln ∧ z_ln ≤ 2000) (hkn : 0 ≤ z_kn ∧ z_kn ≤ z_ln) (hm2 : 0 ≤ z_mn2 ∧ z_mn2 ≤ 40) (hm3 : 0 ≤ z_mn3 ∧ z_mn3 ≤ 40) : gx_I l y_rule (.code y_rule b_rule 2 (some .int) :: wA) rm_rule D vwCl (gk_T cI cL) [.ref (h 0), .int x1] (wd_P cI h tx cs rl gv fa1 la1 va1 mn1 fa2 la2 va2 mn2 fa3 la3 va3 mn3 b1 b2 b3 b4 b5 b6 ln lo kn) (fun (r : Int32) (u : (Nat → Int32) × Int32 × Int32 × Int32 × Int32 × Int32 × Int32 × Int32) => (0, r, u) = mm_rule x1 tx cs rl fa2 la2 va2 mn2 fa3 la3 va3 mn3 b1 b2 b3 b4 b5 b6 ln lo kn) (fun (E : String) (u : (Nat → Int32) × Int32 × Int32 × Int32 × Int32 × Int32 × Int32 × Int32) => (E = "java/lang/IndexOutOfBoundsException" ∧ (3, 0, u) = mm_rule x1 tx cs rl fa2 la2 va2 mn2 fa3 la3 va3 mn3 b1 b2 b3 b4 b5 b6 ln lo kn)) (fun u => (wd_P cI h tx cs u.1 gv fa1 la1 va1 mn1 fa2 la2 va2 mn2 fa3 la3 va3 mn3 u.2.1 u.2.2.1 u.2.2.2.1 u.2.2.2.2.1 u.2.2.2.2.2.1 u.2.2.2.2.2.2.1 ln lo u.2.2.2.2.2.2.2)) 1 6 := by
  refine gx_I.of hst (by decide) (Nat.le_of_ble_eq_true rfl) ?_
  intro p e s m below meth c A ls Q H locs hx hb hml hown hts hW hl X Y
  have hl : lv_has ls 2 [(0, .ref (h 0)), (1, .int x1)] := hl
  obtain ⟨tgt, heq⟩ : ∃ t, mm_rule x1 tx cs rl fa2 la2 va2 mn2 fa3 la3 va3 mn3 b1 b2 b3 b4 b5 b6 ln lo kn = t := ⟨_, rfl⟩
  rw [heq] at X
  rw [heq] at Y
  rw [mm_rule] at heq
  obtain ⟨z_x1, v_x1⟩ := gk_vex x1
  obtain ⟨z_b1, v_b1⟩ := gk_vex b1
  obtain ⟨z_b2, v_b2⟩ := gk_vex b2
  obtain ⟨z_b3, v_b3⟩ := gk_vex b3
  obtain ⟨z_b4, v_b4⟩ := gk_vex b4
  obtain ⟨z_b5, v_b5⟩ := gk_vex b5
  obtain ⟨z_b6, v_b6⟩ := gk_vex b6
  obtain ⟨z_lo, v_lo⟩ := gk_vex lo
  refine lv_aload_n hx hb d_rule_0 rfl (lv_at hl 0 rfl) ?_
  refine lv_iload_n hx hb d_rule_1 rfl (lv_at hl 1 rfl) ?_
  refine gk_goR hW [0, 1, 2, 3, 4, 5, 6, 7, 8, 9, 10, 11, 12, 13, 14, 15, 16, 17] rfl (va_runV (As := [.int x1]) (rest := []) ⟨hx, hb, hml, hown, hts⟩ (c_isPlace l D cI cL h tx cs rl gv fa1 la1 va1 mn1 fa2 la2 va2 mn2 fa3 la3 va3 mn3 b1 b2 b3 b4 b5 b6 ln lo kn x1 _) (gk_cwV hts w_114 w_115 w_116 w_3 k_isPlace rfl e_isPlace rfl rfl ⟨Nat.le_of_ble_eq_true rfl, Nat.le_of_ble_eq_true rfl⟩) (gk_preV hW [0, 1, 2, 3, 4, 5, 6, 7, 8, 9, 10, 11, 12, 13, 14, 15, 16, 17] rfl rfl rfl rfl) rfl rfl hl.1 rfl (lv_room (Nat.le_of_ble_eq_true rfl)) d_rule_2 ⟨Nat.le_of_ble_eq_true rfl, Nat.le_of_ble_eq_true rfl⟩) (fun H locs hW => ?_)
  refine lv_if_ne (tgt := 18) hx hb d_rule_5 (by decide) (fun c_1 => ?_) (fun c_1 => ?_)
  · replace heq := (if_neg c_1).symm.trans heq
    refine lv_aload_n hx hb d_rule_18 rfl (lv_at hl 0 rfl) ?_
    refine lv_iload_n hx hb d_rule_19 rfl (lv_at hl 1 rfl) ?_
    refine gk_goI (wr := []) hW [0, 1, 2, 3, 4, 5, 6, 7, 8, 9, 10, 11, 12, 13, 14, 15, 16, 17] [] rfl rfl (by decide) (by decide) (va_runV (As := [.int x1]) (rest := []) ⟨hx, hb, hml, hown, hts⟩ (c_ruleAt l D cI cL h tx cs rl gv fa1 la1 va1 mn1 fa2 la2 va2 mn2 fa3 la3 va3 mn3 b1 b2 b3 b4 b5 b6 ln lo kn x1 z_kn v_kn z_ln v_ln z_mn2 v_mn2 z_mn3 v_mn3 (by omega) (by omega) (by omega) (by omega) _) (gk_cwV hts w_102 w_103 w_104 w_3 k_ruleAt rfl e_ruleAt rfl rfl ⟨Nat.le_of_ble_eq_true rfl, Nat.le_of_ble_eq_true rfl⟩) (gk_preV hW [0, 1, 2, 3, 4, 5, 6, 7, 8, 9, 10, 11, 12, 13, 14, 15, 16, 17] rfl rfl rfl rfl) rfl rfl hl.1 rfl (lv_room (Nat.le_of_ble_eq_true rfl)) d_rule_20 ⟨Nat.le_of_ble_eq_true rfl, Nat.le_of_ble_eq_true rfl⟩) (fun r_2 u H locs p_11 hW => ?_)
    obtain ⟨u_3, u_4, u_5, u_6, u_7, u_8, u_9, u_10⟩ := u
    have hW : gk_W D vwCl (gk_T cI cL) s A H locs (wd_P cI h tx cs u_3 gv fa1 la1 va1 mn1 fa2 la2 va2 mn2 fa3 la3 va3 mn3 u_4 u_5 u_6 u_7 u_8 u_9 ln lo u_10) := hW.re [0, 1, 2, 3, 4, 5, 6, 7, 8, 9, 10, 11, 12, 13, 14, 15, 16, 17] (by decide) rfl
    rw [← p_11] at heq
    dsimp only at heq
    exact X _ (u_3, u_4, u_5, u_6, u_7, u_8, u_9, u_10) H locs 0 0 23 ls heq hW d_rule_23 rfl (Nat.le_of_ble_eq_true rfl) (Nat.le_of_ble_eq_true rfl)
  · replace heq := (if_pos c_1).symm.trans heq
    exact Y _ _ _ 8 104 118 108 (rl, b1, b2, b3, b4, b5, b6, kn) H locs 0 0 ls T_rule_8 (⟨rfl, heq⟩) hW hl.1 (Nat.le_of_ble_eq_true rfl) (Nat.le_of_ble_eq_true rfl) (Nat.le_of_ble_eq_true rfl) (Nat.le_of_ble_eq_true rfl)
