def mm_count_25 (x1 : Int32) (tx cs fa2 la2 va2 : Nat → Int32) (mn2 : Int32) (fa3 la3 va3 : Nat → Int32) (mn3 ln lo : Int32) : Nat → Int32 → Int32 → (Nat → Int32) → Int32 → Int32 → Int32 → Int32 → Int32 → Int32 → Int32 → Int32 × (Nat → Int32) × Int32 × Int32 × Int32 × Int32 × Int32 × Int32 × Int32
  | 0, x2, x3, rl, b1, b2, b3, b4, b5, b6, kn => (0, rl, b1, b2, b3, b4, b5, b6, kn)
  | n + 1, x2, x3, rl, b1, b2, b3, b4, b5, b6, kn => if ln < x3 then (x2, rl, b1, b2, b3, b4, b5, b6, kn) else (match (mm_breaksAt x3 tx cs rl fa2 la2 va2 mn2 fa3 la3 va3 mn3 b1 b2 b3 b4 b5 b6 ln lo kn) with | (r_2, u_3, u_4, u_5, u_6, u_7, u_8, u_9, u_10) => if r_2 = x1 then (mm_count_25 x1 tx cs fa2 la2 va2 mn2 fa3 la3 va3 mn3 ln lo n (x2 + 1) (x3 + 1) u_3 u_4 u_5 u_6 u_7 u_8 u_9 u_10) else (mm_count_25 x1 tx cs fa2 la2 va2 mn2 fa3 la3 va3 mn3 ln lo n x2 (x3 + 1) u_3 u_4 u_5 u_6 u_7 u_8 u_9 u_10))
def mm_count (x1 : Int32) (tx cs rl fa2 la2 va2 : Nat → Int32) (mn2 : Int32) (fa3 la3 va3 : Nat → Int32) (mn3 b1 b2 b3 b4 b5 b6 ln lo kn : Int32) : Int32 × (Nat → Int32) × Int32 × Int32 × Int32 × Int32 × Int32 × Int32 × Int32 := if x1 = 0 then (ln, rl, b1, b2, b3, b4, b5, b6, kn) else (if x1 = 1 then (mm_count_25 x1 tx cs fa2 la2 va2 mn2 fa3 la3 va3 mn3 ln lo 2002 0 0 rl b1 b2 b3 b4 b5 b6 kn) else (if x1 = 2 then (mm_count_25 x1 tx cs fa2 la2 va2 mn2 fa3 la3 va3 mn3 ln lo 2002 0 0 rl b1 b2 b3 b4 b5 b6 kn) else ((-1), rl, b1, b2, b3, b4, b5, b6, kn)))
def rm_count : Room := { frames := 6, cells := 0, slots := 0, locals := 135 }
set_option maxHeartbeats 4000000 in
set_option maxRecDepth 100000 in
theorem c_count (l : Launch) (D : va_G) (cI : ClassId) (cL : ClassId × ClassId) (h : Nat → Nat) (tx cs rl gv fa1 la1 va1 : Nat → Int32) (mn1 : Int32) (fa2 la2 va2 : Nat → Int32) (mn2 : Int32) (fa3 la3 va3 : Nat → Int32) (mn3 b1 b2 b3 b4 b5 b6 ln lo kn x1 : Int32) (z_kn : Int) (v_kn : gk_v kn z_kn) (z_ln : Int) (v_ln : gk_v ln z_ln) (z_mn2 : Int) (v_mn2 : gk_v mn2 z_mn2) (z_mn3 : Int) (v_mn3 : gk_v mn3 z_mn3) (hln : 0 ≤ z_ln ∧ z_ln ≤ 2000) (hkn : 0 ≤ z_kn ∧ z_kn ≤ z_ln) (hm2 : 0 ≤ z_mn2 ∧ z_mn2 ≤ 40) (hm3 : 0 ≤ z_mn3 ∧ z_mn3 ≤ 40) : gk_I l y_count (.code y_count b_count 4 (some .int) :: wA) rm_count D vwCl (gk_T cI cL) [.ref (h 0), .int x1] (wd_P cI h tx cs rl gv fa1 la1 va1 mn1 fa2 la2 va2 mn2 fa3 la3 va3 mn3 b1 b2 b3 b4 b5 b6 ln lo kn) (fun (r : Int32) (u : (Nat → Int32) × Int32 × Int32 × Int32 × Int32 × Int32 × Int32 × Int32) => (r, u) = mm_count x1 tx cs rl fa2 la2 va2 mn2 fa3 la3 va3 mn3 b1 b2 b3 b4 b5 b6 ln lo kn) (fun u => (wd_P cI h tx cs u.1 gv fa1 la1 va1 mn1 fa2 la2 va2 mn2 fa3 la3 va3 mn3 u.2.1 u.2.2.1 u.2.2.2.1 u.2.2.2.2.1 u.2.2.2.2.2.1 u.2.2.2.2.2.2.1 ln lo u.2.2.2.2.2.2.2)) 0 0 := by
  refine gk_I.of (by decide) (Nat.le_of_ble_eq_true rfl) ?_
  intro p e s m below meth c A ls Q H locs hx hb hml hown hts hW hl X
  have hl : lv_has ls 4 [(0, .ref (h 0)), (1, .int x1)] := hl
  obtain ⟨tgt, heq⟩ : ∃ t, mm_count x1 tx cs rl fa2 la2 va2 mn2 fa3 la3 va3 mn3 b1 b2 b3 b4 b5 b6 ln lo kn = t := ⟨_, rfl⟩
  rw [heq] at X
  rw [mm_count] at heq
  obtain ⟨z_x1, v_x1⟩ := gk_vex x1
  obtain ⟨z_b1, v_b1⟩ := gk_vex b1
  obtain ⟨z_b2, v_b2⟩ := gk_vex b2
  obtain ⟨z_b3, v_b3⟩ := gk_vex b3
  obtain ⟨z_b4, v_b4⟩ := gk_vex b4
  obtain ⟨z_b5, v_b5⟩ := gk_vex b5
  obtain ⟨z_b6, v_b6⟩ := gk_vex b6
  obtain ⟨z_lo, v_lo⟩ := gk_vex lo
  have L25 : ∀ (n : Nat) (x2 x3 : Int32) (rl : Nat → Int32) (b1 b2 b3 b4 b5 b6 kn : Int32) (H : Heap) (locs : List Loc) (ls : Array Slot), ∀ (z_kn : Int), gk_v kn z_kn → ∀ (z_x3 : Int), gk_v x3 z_x3 → (z_ln + 1 - z_x3) < (n : Int) → 0 ≤ z_x3 ∧ z_x3 ≤ z_ln + 1 → 0 ≤ z_kn ∧ z_kn ≤ z_ln → mm_count_25 x1 tx cs fa2 la2 va2 mn2 fa3 la3 va3 mn3 ln lo n x2 x3 rl b1 b2 b3 b4 b5 b6 kn = tgt → gk_W D vwCl (gk_T cI cL) s A H locs (wd_P cI h tx cs rl gv fa1 la1 va1 mn1 fa2 la2 va2 mn2 fa3 la3 va3 mn3 b1 b2 b3 b4 b5 b6 ln lo kn) → lv_has ls 4 [(0, .ref (h 0)), (1, .int x1), (2, .int x2), (3, .int x3)] → W p l e rm_count s m [.ref (h 0), .int x1].toArray below meth c H locs 0 0 Q (F0 m 25 ls []) := by
    intro n
    induction n with
    | zero => intro x2 x3 rl b1 b2 b3 b4 b5 b6 kn H locs ls z_kn v_kn z_x3 v_x3 hm f25_0 f25_1 heq hW hl; exfalso; omega
    | succ n ih =>
      intro x2 x3 rl b1 b2 b3 b4 b5 b6 kn H locs ls z_kn v_kn z_x3 v_x3 hm f25_0 f25_1 heq hW hl
      rw [mm_count_25] at heq
      refine lv_iload_n hx hb d_count_25 rfl (lv_at hl 3 rfl) ?_
      refine lv_aload_n hx hb d_count_26 rfl (lv_at hl 0 rfl) ?_
      refine va_get (D := D) (C := R_P) (T := F_P) (N := 11) hx hb hts i_P hown hW.1 hW.2.1 0 rfl rfl 8 (by decide) (hts _ w_42) (fun _ h9 => h9) rfl d_count_27 ?_
      refine lv_icmp_gt (tgt := 51) hx hb d_count_30 (by decide) (fun c_1 => ?_) (fun c_1 => ?_)
      · replace heq := (if_pos c_1).symm.trans heq
        have ic_1 := gk_lt v_ln v_x3 c_1
        refine lv_iload_n hx hb d_count_51 rfl (lv_at hl 2 rfl) ?_
        exact X _ (rl, b1, b2, b3, b4, b5, b6, kn) H locs 0 0 52 ls heq hW d_count_52 rfl (Nat.le_of_ble_eq_true rfl) (Nat.le_of_ble_eq_true rfl)
      · replace heq := (if_neg c_1).symm.trans heq
        have ic_1 := gk_nlt v_ln v_x3 c_1
        refine lv_aload_n hx hb d_count_33 rfl (lv_at hl 0 rfl) ?_
        refine lv_iload_n hx hb d_count_34 rfl (lv_at hl 3 rfl) ?_
        refine gk_goI (wr := []) hW [0, 1, 2, 3, 4, 5, 6, 7, 8, 9, 10, 11, 12, 13, 14, 15, 16, 17] [] rfl rfl (by decide) (by decide) (va_runV (As := [.int x3]) (rest := []) ⟨hx, hb, hml, hown, hts⟩ (c_breaksAt l D cI cL h tx cs rl gv fa1 la1 va1 mn1 fa2 la2 va2 mn2 fa3 la3 va3 mn3 b1 b2 b3 b4 b5 b6 ln lo kn x3 z_kn v_kn z_ln v_ln z_mn2 v_mn2 z_mn3 v_mn3 (by omega) (by omega) (by omega) (by omega) _) (gk_cwV hts w_117 w_118 w_119 w_3 k_breaksAt rfl e_breaksAt rfl rfl ⟨Nat.le_of_ble_eq_true rfl, Nat.le_of_ble_eq_true rfl⟩) (gk_preV hW [0, 1, 2, 3, 4, 5, 6, 7, 8, 9, 10, 11, 12, 13, 14, 15, 16, 17] rfl rfl rfl rfl) rfl rfl hl.1 rfl (lv_room (Nat.le_of_ble_eq_true rfl)) d_count_35 ⟨Nat.le_of_ble_eq_true rfl, Nat.le_of_ble_eq_true rfl⟩) (fun r_2 u H locs p_11 hW => ?_)
        obtain ⟨u_3, u_4, u_5, u_6, u_7, u_8, u_9, u_10⟩ := u
        have hW : gk_W D vwCl (gk_T cI cL) s A H locs (wd_P cI h tx cs u_3 gv fa1 la1 va1 mn1 fa2 la2 va2 mn2 fa3 la3 va3 mn3 u_4 u_5 u_6 u_7 u_8 u_9 ln lo u_10) := hW.re [0, 1, 2, 3, 4, 5, 6, 7, 8, 9, 10, 11, 12, 13, 14, 15, 16, 17] (by decide) rfl
        rw [← p_11] at heq
        dsimp only at heq
        obtain ⟨zk_12, vk_12, hk_12⟩ := mm_breaksAt_kn p_11 v_ln v_kn (by omega) (by omega)
        refine lv_iload_n hx hb d_count_38 rfl (lv_at hl 1 rfl) ?_
        refine lv_icmp_ne (tgt := 45) hx hb d_count_39 (by decide) (fun c_13 => ?_) (fun c_13 => ?_)
        · replace heq := (if_neg c_13).symm.trans heq
          refine lv_iinc (v := x3 + 1) (lv' := [(3, .int (x3 + 1)), (0, .ref (h 0)), (1, .int x1), (2, .int x2)]) hx hb d_count_45 hl (k := 3) rfl rfl (by decide) rfl (fun ls hl => ?_)
          obtain ⟨zt_14, vt_14, et_14⟩ := gk_add v_x3 (show gk_v 1 1 from rfl) (by omega) (by omega)
          refine lv_goto (tgt := 25) hx hb d_count_48 (by decide) ?_
          exact ih x2 (x3 + 1) u_3 u_4 u_5 u_6 u_7 u_8 u_9 u_10 H locs ls zk_12 vk_12 zt_14 vt_14 (by omega) (by omega) (by omega) heq hW (lv_sub hl [1, 2, 3, 0] rfl)
        · replace heq := (if_pos c_13).symm.trans heq
          refine lv_iinc (v := x2 + 1) (lv' := [(2, .int (x2 + 1)), (0, .ref (h 0)), (1, .int x1), (3, .int x3)]) hx hb d_count_42 hl (k := 2) rfl rfl (by decide) rfl (fun ls hl => ?_)
          refine lv_iinc (v := x3 + 1) (lv' := [(3, .int (x3 + 1)), (2, .int (x2 + 1)), (0, .ref (h 0)), (1, .int x1)]) hx hb d_count_45 hl (k := 3) rfl rfl (by decide) rfl (fun ls hl => ?_)
          obtain ⟨zt_15, vt_15, et_15⟩ := gk_add v_x3 (show gk_v 1 1 from rfl) (by omega) (by omega)
          refine lv_goto (tgt := 25) hx hb d_count_48 (by decide) ?_
          exact ih (x2 + 1) (x3 + 1) u_3 u_4 u_5 u_6 u_7 u_8 u_9 u_10 H locs ls zk_12 vk_12 zt_15 vt_15 (by omega) (by omega) (by omega) heq hW (lv_sub hl [2, 3, 1, 0] rfl)
  refine lv_iload_n hx hb d_count_0 rfl (lv_at hl 1 rfl) ?_
  refine lv_if_ne (tgt := 9) hx hb d_count_1 (by decide) (fun c_16 => ?_) (fun c_16 => ?_)
  · replace heq := (if_neg c_16).symm.trans heq
    refine lv_iload_n hx hb d_count_9 rfl (lv_at hl 1 rfl) ?_
    refine lv_iconst (v := 1) hx hb d_count_10 (by decide) ?_
    refine lv_icmp_eq (tgt := 21) hx hb d_count_11 (by decide) (fun c_17 => ?_) (fun c_17 => ?_)
    · replace heq := (if_pos c_17).symm.trans heq
      refine lv_iconst (v := 0) hx hb d_count_21 (by decide) ?_
      refine lv_istore_n (lv' := [(2, .int 0), (0, .ref (h 0)), (1, .int x1)]) hx hb d_count_22 rfl hl (by decide) rfl (fun ls hl => ?_)
      refine lv_iconst (v := 0) hx hb d_count_23 (by decide) ?_
      refine lv_istore_n (lv' := [(3, .int 0), (2, .int 0), (0, .ref (h 0)), (1, .int x1)]) hx hb d_count_24 rfl hl (by decide) rfl (fun ls hl => ?_)
      exact L25 2002 0 0 rl b1 b2 b3 b4 b5 b6 kn H locs ls z_kn v_kn 0 (show gk_v 0 0 from rfl) (by omega) (by omega) (by omega) heq hW (lv_sub hl [2, 3, 1, 0] rfl)
    · replace heq := (if_neg c_17).symm.trans heq
      refine lv_iload_n hx hb d_count_14 rfl (lv_at hl 1 rfl) ?_
      refine lv_iconst (v := 2) hx hb d_count_15 (by decide) ?_
      refine lv_icmp_eq (tgt := 21) hx hb d_count_16 (by decide) (fun c_18 => ?_) (fun c_18 => ?_)
      · replace heq := (if_pos c_18).symm.trans heq
        refine lv_iconst (v := 0) hx hb d_count_21 (by decide) ?_
        refine lv_istore_n (lv' := [(2, .int 0), (0, .ref (h 0)), (1, .int x1)]) hx hb d_count_22 rfl hl (by decide) rfl (fun ls hl => ?_)
        refine lv_iconst (v := 0) hx hb d_count_23 (by decide) ?_
        refine lv_istore_n (lv' := [(3, .int 0), (2, .int 0), (0, .ref (h 0)), (1, .int x1)]) hx hb d_count_24 rfl hl (by decide) rfl (fun ls hl => ?_)
        exact L25 2002 0 0 rl b1 b2 b3 b4 b5 b6 kn H locs ls z_kn v_kn 0 (show gk_v 0 0 from rfl) (by omega) (by omega) (by omega) heq hW (lv_sub hl [2, 3, 1, 0] rfl)
      · replace heq := (if_neg c_18).symm.trans heq
        refine lv_iconst (v := (-1)) hx hb d_count_19 (by decide) ?_
        exact X _ (rl, b1, b2, b3, b4, b5, b6, kn) H locs 0 0 20 ls heq hW d_count_20 rfl (Nat.le_of_ble_eq_true rfl) (Nat.le_of_ble_eq_true rfl)
  · replace heq := (if_pos c_16).symm.trans heq
    refine lv_aload_n hx hb d_count_4 rfl (lv_at hl 0 rfl) ?_
    refine va_get (D := D) (C := R_P) (T := F_P) (N := 11) hx hb hts i_P hown hW.1 hW.2.1 0 rfl rfl 8 (by decide) (hts _ w_42) (fun _ h9 => h9) rfl d_count_5 ?_
    exact X _ (rl, b1, b2, b3, b4, b5, b6, kn) H locs 0 0 8 ls heq hW d_count_8 rfl (Nat.le_of_ble_eq_true rfl) (Nat.le_of_ble_eq_true rfl)
def mm_next_22 (x1 : Int32) (tx cs fa2 la2 va2 : Nat → Int32) (mn2 : Int32) (fa3 la3 va3 : Nat → Int32) (mn3 ln lo : Int32) : Nat → Int32 → (Nat → Int32) → Int32 → Int32 → Int32 → Int32 → Int32 → Int32 → Int32 → Int32 × Int32 × (Nat → Int32) × Int32 × Int32 × Int32 × Int32 × Int32 × Int32 × Int32
  | 0, x2, rl, b1, b2, b3, b4, b5, b6, kn => (0, 0, rl, b1, b2, b3, b4, b5, b6, kn)
  | n + 1, x2, rl, b1, b2, b3, b4, b5, b6, kn => if ln < x2 then (0, (-1), rl, b1, b2, b3, b4, b5, b6, kn) else (match (mm_breaksAt x2 tx cs rl fa2 la2 va2 mn2 fa3 la3 va3 mn3 b1 b2 b3 b4 b5 b6 ln lo kn) with | (r_2, u_3, u_4, u_5, u_6, u_7, u_8, u_9, u_10) => if r_2 = 0 then (mm_next_22 x1 tx cs fa2 la2 va2 mn2 fa3 la3 va3 mn3 ln lo n (x2 + 1) u_3 u_4 u_5 u_6 u_7 u_8 u_9 u_10) else (0, x2, u_3, u_4, u_5, u_6, u_7, u_8, u_9, u_10))
def mm_next (x1 : Int32) (tx cs rl fa2 la2 va2 : Nat → Int32) (mn2 : Int32) (fa3 la3 va3 : Nat → Int32) (mn3 b1 b2 b3 b4 b5 b6 ln lo kn : Int32) : Int32 × Int32 × (Nat → Int32) × Int32 × Int32 × Int32 × Int32 × Int32 × Int32 × Int32 := if (mm_isPlace x1 ln) = 0 then (3, 0, rl, b1, b2, b3, b4, b5, b6, kn) else (mm_next_22 x1 tx cs fa2 la2 va2 mn2 fa3 la3 va3 mn3 ln lo 2002 (x1 + 1) rl b1 b2 b3 b4 b5 b6 kn)
def rm_next : Room := { frames := 6, cells := 1, slots := 6, locals := 135 }
theorem T_next_8 : gx_T b_next "BreakPlaces" wA rm_next "java/lang/IndexOutOfBoundsException" "no such place" ["java/lang/RuntimeException", "java/lang/Exception"] 8 104 118 108 := ⟨⟨by decide +kernel, by decide +kernel⟩, ⟨w_111, w_112, w_120, a_IO⟩, o_IO, ⟨d_next_8, d_next_11, d_next_12, d_next_14, d_next_17⟩, Nat.le_of_ble_eq_true rfl, Nat.le_of_ble_eq_true rfl⟩
set_option maxHeartbeats 4000000 in
set_option maxRecDepth 100000 in
theorem c_next (l : Launch) (hst : l.stackTraces = false) (D : va_G) (cI : ClassId) (cL : ClassId × ClassId) (h : Nat → Nat) (tx cs rl gv fa1 la1 va1 : Nat → Int32) (mn1 : Int32) (fa2 la2 va2 : Nat → Int32) (mn2 : Int32) (fa3 la3 va3 : Nat → Int32) (mn3 b1 b2 b3 b4 b5 b6 ln lo kn x1 : Int32) (z_kn : Int) (v_kn : gk_v kn z_kn) (z_ln : Int) (v_ln : gk_v ln z_ln) (z_mn2 : Int) (v_mn2 : gk_v mn2 z_mn2) (z_mn3 : Int) (v_mn3 : gk_v mn3 z_mn3) (hln : 0 ≤ z_ln ∧ z_ln ≤ 2000) (hkn : 0 ≤ z_kn ∧ z_kn ≤ z_ln) (hm2 : 0 ≤ z_mn2 ∧ z_mn2 ≤ 40) (hm3 : 0 ≤ z_mn3 ∧ z_mn3 ≤ 40) : gx_I l y_next (.code y_next b_next 3 (some .int) :: wA) rm_next D vwCl (gk_T cI cL) [.ref (h 0), .int x1] (wd_P cI h tx cs rl gv fa1 la1 va1 mn1 fa2 la2 va2 mn2 fa3 la3 va3 mn3 b1 b2 b3 b4 b5 b6 ln lo kn) (fun (r : Int32) (u : (Nat → Int32) × Int32 × Int32 × Int32 × Int32 × Int32 × Int32 × Int32) => (0, r, u) = mm_next x1 tx cs rl fa2 la2 va2 mn2 fa3 la3 va3 mn3 b1 b2 b3 b4 b5 b6 ln lo kn) (fun (E : String) (u : (Nat → Int32) × Int32 × Int32 × Int32 × Int32 × Int32 × Int32 × Int32) => (E = "java/lang/IndexOutOfBoundsException" ∧ (3, 0, u) = mm_next x1 tx cs rl fa2 la2 va2 mn2 fa3 la3 va3 mn3 b1 b2 b3 b4 b5 b6 ln lo kn)) (fun u => (wd_P cI h tx cs u.1 gv fa1 la1 va1 mn1 fa2 la2 va2 mn2 fa3 la3 va3 mn3 u.2.1 u.2.2.1 u.2.2.2.1 u.2.2.2.2.1 u.2.2.2.2.2.1 u.2.2.2.2.2.2.1 ln lo u.2.2.2.2.2.2.2)) 1 6 := by
  refine gx_I.of hst (by decide) (Nat.le_of_ble_eq_true rfl) ?_
  intro p e s m below meth c A ls Q H locs hx hb hml hown hts hW hl X Y
  have hl : lv_has ls 3 [(0, .ref (h 0)), (1, .int x1)] := hl
  obtain ⟨tgt, heq⟩ : ∃ t, mm_next x1 tx cs rl fa2 la2 va2 mn2 fa3 la3 va3 mn3 b1 b2 b3 b4 b5 b6 ln lo kn = t := ⟨_, rfl⟩
  rw [heq] at X
  rw [heq] at Y
  rw [mm_next] at heq
  obtain ⟨z_x1, v_x1⟩ := gk_vex x1
  obtain ⟨z_b1, v_b1⟩ := gk_vex b1
  obtain ⟨z_b2, v_b2⟩ := gk_vex b2
  obtain ⟨z_b3, v_b3⟩ := gk_vex b3
  obtain ⟨z_b4, v_b4⟩ := gk_vex b4
  obtain ⟨z_b5, v_b5⟩ := gk_vex b5
  obtain ⟨z_b6, v_b6⟩ := gk_vex b6
  obtain ⟨z_lo, v_lo⟩ := gk_vex lo
  have L22 : ∀ (n : Nat) (x2 : Int32) (rl : Nat → Int32) (b1 b2 b3 b4 b5 b6 kn : Int32) (H : Heap) (locs : List Loc) (ls : Array Slot), ∀ (z_kn : Int), gk_v kn z_kn → ∀ (z_x2 : Int), gk_v x2 z_x2 → (z_ln + 1 - z_x2) < (n : Int) → 0 ≤ z_x2 ∧ z_x2 ≤ z_ln + 1 → 0 ≤ z_kn ∧ z_kn ≤ z_ln → mm_next_22 x1 tx cs fa2 la2 va2 mn2 fa3 la3 va3 mn3 ln lo n x2 rl b1 b2 b3 b4 b5 b6 kn = tgt → gk_W D vwCl (gk_T cI cL) s A H locs (wd_P cI h tx cs rl gv fa1 la1 va1 mn1 fa2 la2 va2 mn2 fa3 la3 va3 mn3 b1 b2 b3 b4 b5 b6 ln lo kn) → lv_has ls 3 [(0, .ref (h 0)), (1, .int x1), (2, .int x2)] → W p l e rm_next s m [.ref (h 0), .int x1].toArray below meth c H locs 0 0 Q (F0 m 22 ls []) := by
    intro n
    induction n with
    | zero => intro x2 rl b1 b2 b3 b4 b5 b6 kn H locs ls z_kn v_kn z_x2 v_x2 hm f22_0 f22_1 heq hW hl; exfalso; omega
    | succ n ih =>
      intro x2 rl b1 b2 b3 b4 b5 b6 kn H locs ls z_kn v_kn z_x2 v_x2 hm f22_0 f22_1 heq hW hl
      rw [mm_next_22] at heq
      refine lv_iload_n hx hb d_next_22 rfl (lv_at hl 2 rfl) ?_
      refine lv_aload_n hx hb d_next_23 rfl (lv_at hl 0 rfl) ?_
      refine va_get (D := D) (C := R_P) (T := F_P) (N := 11) hx hb hts i_P hown hW.1 hW.2.1 0 rfl rfl 8 (by decide) (hts _ w_42) (fun _ h9 => h9) rfl d_next_24 ?_
      refine lv_icmp_gt (tgt := 46) hx hb d_next_27 (by decide) (fun c_1 => ?_) (fun c_1 => ?_)
      · replace heq := (if_pos c_1).symm.trans heq
        have ic_1 := gk_lt v_ln v_x2 c_1
        refine lv_iconst (v := (-1)) hx hb d_next_46 (by decide) ?_
        exact X _ (rl, b1, b2, b3, b4, b5, b6, kn) H locs 0 0 47 ls heq hW d_next_47 rfl (Nat.le_of_ble_eq_true rfl) (Nat.le_of_ble_eq_true rfl)
      · replace heq := (if_neg c_1).symm.trans heq
        have ic_1 := gk_nlt v_ln v_x2 c_1
        refine lv_aload_n hx hb d_next_30 rfl (lv_at hl 0 rfl) ?_
        refine lv_iload_n hx hb d_next_31 rfl (lv_at hl 2 rfl) ?_
        refine gk_goI (wr := []) hW [0, 1, 2, 3, 4, 5, 6, 7, 8, 9, 10, 11, 12, 13, 14, 15, 16, 17] [] rfl rfl (by decide) (by decide) (va_runV (As := [.int x2]) (rest := []) ⟨hx, hb, hml, hown, hts⟩ (c_breaksAt l D cI cL h tx cs rl gv fa1 la1 va1 mn1 fa2 la2 va2 mn2 fa3 la3 va3 mn3 b1 b2 b3 b4 b5 b6 ln lo kn x2 z_kn v_kn z_ln v_ln z_mn2 v_mn2 z_mn3 v_mn3 (by omega) (by omega) (by omega) (by omega) _) (gk_cwV hts w_117 w_118 w_119 w_3 k_breaksAt rfl e_breaksAt rfl rfl ⟨Nat.le_of_ble_eq_true rfl, Nat.le_of_ble_eq_true rfl⟩) (gk_preV hW [0, 1, 2, 3, 4, 5, 6, 7, 8, 9, 10, 11, 12, 13, 14, 15, 16, 17] rfl rfl rfl rfl) rfl rfl hl.1 rfl (lv_room (Nat.le_of_ble_eq_true rfl)) d_next_32 ⟨Nat.le_of_ble_eq_true rfl, Nat.le_of_ble_eq_true rfl⟩) (fun r_2 u H locs p_11 hW => ?_)
        obtain ⟨u_3, u_4, u_5, u_6, u_7, u_8, u_9, u_10⟩ := u
        have hW : gk_W D vwCl (gk_T cI cL) s A H locs (wd_P cI h tx cs u_3 gv fa1 la1 va1 mn1 fa2 la2 va2 mn2 fa3 la3 va3 mn3 u_4 u_5 u_6 u_7 u_8 u_9 ln lo u_10) := hW.re [0, 1, 2, 3, 4, 5, 6, 7, 8, 9, 10, 11, 12, 13, 14, 15, 16, 17] (by decide) rfl
        rw [← p_11] at heq
        dsimp only at heq
        obtain ⟨zk_12, vk_12, hk_12⟩ := mm_breaksAt_kn p_11 v_ln v_kn (by omega) (by omega)
        refine lv_if_eq (tgt := 40) hx hb d_next_35 (by decide) (fun c_13 => ?_) (fun c_13 => ?_)
        · replace heq := (if_pos c_13).symm.trans heq
          refine lv_iinc (v := x2 + 1) (lv' := [(2, .int (x2 + 1)), (0, .ref (h 0)), (1, .int x1)]) hx hb d_next_40 hl (k := 2) rfl rfl (by decide) rfl (fun ls hl => ?_)
          obtain ⟨zt_14, vt_14, et_14⟩ := gk_add v_x2 (show gk_v 1 1 from rfl) (by omega) (by omega)
          refine lv_goto (tgt := 22) hx hb d_next_43 (by decide) ?_
          exact ih (x2 + 1) u_3 u_4 u_5 u_6 u_7 u_8 u_9 u_10 H locs ls zk_12 vk_12 zt_14 vt_14 (by omega) (by omega) (by omega) heq hW (lv_sub hl [1, 2, 0] rfl)
        · replace heq := (if_neg c_13).symm.trans heq
          refine lv_iload_n hx hb d_next_38 rfl (lv_at hl 2 rfl) ?_
          exact X _ (u_3, u_4, u_5, u_6, u_7, u_8, u_9, u_10) H locs 0 0 39 ls heq hW d_next_39 rfl (Nat.le_of_ble_eq_true rfl) (Nat.le_of_ble_eq_true rfl)
  refine lv_aload_n hx hb d_next_0 rfl (lv_at hl 0 rfl) ?_
  refine lv_iload_n hx hb d_next_1 rfl (lv_at hl 1 rfl) ?_
  refine gk_goR hW [0, 1, 2, 3, 4, 5, 6, 7, 8, 9, 10, 11, 12, 13, 14, 15, 16, 17] rfl (va_runV (As := [.int x1]) (rest := []) ⟨hx, hb, hml, hown, hts⟩ (c_isPlace l D cI cL h tx cs rl gv fa1 la1 va1 mn1 fa2 la2 va2 mn2 fa3 la3 va3 mn3 b1 b2 b3 b4 b5 b6 ln lo kn x1 _) (gk_cwV hts w_114 w_115 w_116 w_3 k_isPlace rfl e_isPlace rfl rfl ⟨Nat.le_of_ble_eq_true rfl, Nat.le_of_ble_eq_true rfl⟩) (gk_preV hW [0, 1, 2, 3, 4, 5, 6, 7, 8, 9, 10, 11, 12, 13, 14, 15, 16, 17] rfl rfl rfl rfl) rfl rfl hl.1 rfl (lv_room (Nat.le_of_ble_eq_true rfl)) d_next_2 ⟨Nat.le_of_ble_eq_true rfl, Nat.le_of_ble_eq_true rfl⟩) (fun H locs hW => ?_)
  refine lv_if_ne (tgt := 18) hx hb d_next_5 (by decide) (fun c_15 => ?_) (fun c_15 => ?_)
  · replace heq := (if_neg c_15).symm.trans heq
    have hin := mm_isPlace_in c_15 v_x1 v_ln
    refine lv_iload_n hx hb d_next_18 rfl (lv_at hl 1 rfl) ?_
    refine lv_iconst (v := 1) hx hb d_next_19 (by decide) ?_
    refine lv_iadd hx hb d_next_20 ?_
    obtain ⟨zt_16, vt_16, et_16⟩ := gk_add v_x1 (show gk_v 1 1 from rfl) (by omega) (by omega)
    refine lv_istore_n (lv' := [(2, .int (x1 + 1)), (0, .ref (h 0)), (1, .int x1)]) hx hb d_next_21 rfl hl (by decide) rfl (fun ls hl => ?_)
    exact L22 2002 (x1 + 1) rl b1 b2 b3 b4 b5 b6 kn H locs ls z_kn v_kn zt_16 vt_16 (by omega) (by omega) (by omega) heq hW (lv_sub hl [1, 2, 0] rfl)
  · replace heq := (if_pos c_15).symm.trans heq
    exact Y _ _ _ 8 104 118 108 (rl, b1, b2, b3, b4, b5, b6, kn) H locs 0 0 ls T_next_8 (⟨rfl, heq⟩) hW hl.1 (Nat.le_of_ble_eq_true rfl) (Nat.le_of_ble_eq_true rfl) (Nat.le_of_ble_eq_true rfl) (Nat.le_of_ble_eq_true rfl)
def mm_fit_62 (x1 x2 : Int32) (tx cs fa2 la2 va2 : Nat → Int32) (mn2 : Int32) (fa3 la3 va3 : Nat → Int32) (mn3 ln lo : Int32) : Nat → Int32 → Int32 → Int32 → (Nat → Int32) → Int32 → Int32 → Int32 → Int32 → Int32 → Int32 → Int32 → Int32 × Int32 × (Nat → Int32) × Int32 × Int32 × Int32 × Int32 × Int32 × Int32 × Int32
  | 0, x3, x4, x5, rl, b1, b2, b3, b4, b5, b6, kn => (0, 0, rl, b1, b2, b3, b4, b5, b6, kn)
  | n + 1, x3, x4, x5, rl, b1, b2, b3, b4, b5, b6, kn => if ln < x5 then (0, x3, rl, b1, b2, b3, b4, b5, b6, kn) else (if (mm_isIn (mm_kindAt (x5 - 1) cs lo) 31) = 0 then (if (x5 - x1) ≤ x2 then (match (mm_breaksAt x5 tx cs rl fa2 la2 va2 mn2 fa3 la3 va3 mn3 b1 b2 b3 b4 b5 b6 ln lo kn) with | (r_25, u_26, u_27, u_28, u_29, u_30, u_31, u_32, u_33) => if r_25 = 0 then (if r_25 = 2 then (0, x3, u_26, u_27, u_28, u_29, u_30, u_31, u_32, u_33) else (mm_fit_62 x1 x2 tx cs fa2 la2 va2 mn2 fa3 la3 va3 mn3 ln lo n x3 x5 (x5 + 1) u_26 u_27 u_28 u_29 u_30 u_31 u_32 u_33)) else (if r_25 = 2 then (0, x5 - x1, u_26, u_27, u_28, u_29, u_30, u_31, u_32, u_33) else (mm_fit_62 x1 x2 tx cs fa2 la2 va2 mn2 fa3 la3 va3 mn3 ln lo n (x5 - x1) x5 (x5 + 1) u_26 u_27 u_28 u_29 u_30 u_31 u_32 u_33))) else (0, x3, rl, b1, b2, b3, b4, b5, b6, kn)) else (if (x4 - x1) ≤ x2 then (match (mm_breaksAt x5 tx cs rl fa2 la2 va2 mn2 fa3 la3 va3 mn3 b1 b2 b3 b4 b5 b6 ln lo kn) with | (r_6, u_7, u_8, u_9, u_10, u_11, u_12, u_13, u_14) => if r_6 = 0 then (if r_6 = 2 then (0, x3, u_7, u_8, u_9, u_10, u_11, u_12, u_13, u_14) else (mm_fit_62 x1 x2 tx cs fa2 la2 va2 mn2 fa3 la3 va3 mn3 ln lo n x3 x4 (x5 + 1) u_7 u_8 u_9 u_10 u_11 u_12 u_13 u_14)) else (if r_6 = 2 then (0, x5 - x1, u_7, u_8, u_9, u_10, u_11, u_12, u_13, u_14) else (mm_fit_62 x1 x2 tx cs fa2 la2 va2 mn2 fa3 la3 va3 mn3 ln lo n (x5 - x1) x4 (x5 + 1) u_7 u_8 u_9 u_10 u_11 u_12 u_13 u_14))) else (0, x3, rl, b1, b2, b3, b4, b5, b6, kn)))
def mm_fit (x1 x2 : Int32) (tx cs rl fa2 la2 va2 : Nat → Int32) (mn2 : Int32) (fa3 la3 va3 : Nat → Int32) (mn3 b1 b2 b3 b4 b5 b6 ln lo kn : Int32) : Int32 × Int32 × (Nat → Int32) × Int32 × Int32 × Int32 × Int32 × Int32 × Int32 × Int32 := if (mm_isPlace x1 ln) = 0 then (3, 0, rl, b1, b2, b3, b4, b5, b6, kn) else (if x2 < 1 then (1, 0, rl, b1, b2, b3, b4, b5, b6, kn) else (if x2 ≤ 2000 then (if x1 = ln then (mm_fit_62 x1 x2 tx cs fa2 la2 va2 mn2 fa3 la3 va3 mn3 ln lo 2002 0 x1 (x1 + 1) rl b1 b2 b3 b4 b5 b6 kn) else (mm_fit_62 x1 x2 tx cs fa2 la2 va2 mn2 fa3 la3 va3 mn3 ln lo 2002 x2 x1 (x1 + 1) rl b1 b2 b3 b4 b5 b6 kn)) else (1, 0, rl, b1, b2, b3, b4, b5, b6, kn)))
def rm_fit : Room := { frames := 6, cells := 1, slots := 6, locals := 135 }
theorem T_fit_30 : gx_T b_fit "BreakPlaces" wA rm_fit "java/lang/IllegalArgumentException" "room is not 1 .. 2000" ["java/lang/RuntimeException", "java/lang/Exception"] 30 59 126 63 := ⟨⟨by decide +kernel, by decide +kernel⟩, ⟨w_122, w_123, w_124, a_IA⟩, o_IA, ⟨d_fit_30, d_fit_33, d_fit_34, d_fit_36, d_fit_39⟩, Nat.le_of_ble_eq_true rfl, Nat.le_of_ble_eq_true rfl⟩
theorem T_fit_8 : gx_T b_fit "BreakPlaces" wA rm_fit "java/lang/IndexOutOfBoundsException" "no such place" ["java/lang/RuntimeException", "java/lang/Exception"] 8 104 118 108 := ⟨⟨by decide +kernel, by decide +kernel⟩, ⟨w_111, w_112, w_120, a_IO⟩, o_IO, ⟨d_fit_8, d_fit_11, d_fit_12, d_fit_14, d_fit_17⟩, Nat.le_of_ble_eq_true rfl, Nat.le_of_ble_eq_true rfl⟩
set_option maxHeartbeats 4000000 in
set_option maxRecDepth 100000 in
theorem c_fit (l : Launch) (hst : l.stackTraces = false) (D : va_G) (cI : ClassId) (cL : ClassId × ClassId) (h : Nat → Nat) (tx cs rl gv fa1 la1 va1 : Nat → Int32) (mn1 : Int32) (fa2 la2 va2 : Nat → Int32) (mn2 : Int32) (fa3 la3 va3 : Nat → Int32) (mn3 b1 b2 b3 b4 b5 b6 ln lo kn x1 x2 : Int32) (z_kn : Int) (v_kn : gk_v kn z_kn) (z_ln : Int) (v_ln : gk_v ln z_ln) (z_mn2 : Int) (v_mn2 : gk_v mn2 z_mn2) (z_mn3 : Int) (v_mn3 : gk_v mn3 z_mn3) (hln : 0 ≤ z_ln ∧ z_ln ≤ 2000) (hkn : 0 ≤ z_kn ∧ z_kn ≤ z_ln) (hm2 : 0 ≤ z_mn2 ∧ z_mn2 ≤ 40) (hm3 : 0 ≤ z_mn3 ∧ z_mn3 ≤ 40) : gx_I l y_fit (.code y_fit b_fit 7 (some .int) :: wA) rm_fit D vwCl (gk_T cI cL) [.ref (h 0), .int x1, .int x2] (wd_P cI h tx cs rl gv fa1 la1 va1 mn1 fa2 la2 va2 mn2 fa3 la3 va3 mn3 b1 b2 b3 b4 b5 b6 ln lo kn) (fun (r : Int32) (u : (Nat → Int32) × Int32 × Int32 × Int32 × Int32 × Int32 × Int32 × Int32) => (0, r, u) = mm_fit x1 x2 tx cs rl fa2 la2 va2 mn2 fa3 la3 va3 mn3 b1 b2 b3 b4 b5 b6 ln lo kn) (fun (E : String) (u : (Nat → Int32) × Int32 × Int32 × Int32 × Int32 × Int32 × Int32 × Int32) => (E = "java/lang/IndexOutOfBoundsException" ∧ (3, 0, u) = mm_fit x1 x2 tx cs rl fa2 la2 va2 mn2 fa3 la3 va3 mn3 b1 b2 b3 b4 b5 b6 ln lo kn) ∨ (E = "java/lang/IllegalArgumentException" ∧ (1, 0, u) = mm_fit x1 x2 tx cs rl fa2 la2 va2 mn2 fa3 la3 va3 mn3 b1 b2 b3 b4 b5 b6 ln lo kn)) (fun u => (wd_P cI h tx cs u.1 gv fa1 la1 va1 mn1 fa2 la2 va2 mn2 fa3 la3 va3 mn3 u.2.1 u.2.2.1 u.2.2.2.1 u.2.2.2.2.1 u.2.2.2.2.2.1 u.2.2.2.2.2.2.1 ln lo u.2.2.2.2.2.2.2)) 1 6 := by
  refine gx_I.of hst (by decide) (Nat.le_of_ble_eq_true rfl) ?_
  intro p e s m below meth c A ls Q H locs hx hb hml hown hts hW hl X Y
  have hl : lv_has ls 7 [(0, .ref (h 0)), (1, .int x1), (2, .int x2)] := hl
  obtain ⟨tgt, heq⟩ : ∃ t, mm_fit x1 x2 tx cs rl fa2 la2 va2 mn2 fa3 la3 va3 mn3 b1 b2 b3 b4 b5 b6 ln lo kn = t := ⟨_, rfl⟩
  rw [heq] at X
  simp only [heq] at Y
  rw [mm_fit] at heq
  obtain ⟨z_x1, v_x1⟩ := gk_vex x1
  obtain ⟨z_x2, v_x2⟩ := gk_vex x2
  obtain ⟨z_b1, v_b1⟩ := gk_vex b1
  obtain ⟨z_b2, v_b2⟩ := gk_vex b2
  obtain ⟨z_b3, v_b3⟩ := gk_vex b3
  obtain ⟨z_b4, v_b4⟩ := gk_vex b4
  obtain ⟨z_b5, v_b5⟩ := gk_vex b5
  obtain ⟨z_b6, v_b6⟩ := gk_vex b6
  obtain ⟨z_lo, v_lo⟩ := gk_vex lo
  have L62 : ∀ (n : Nat) (x3 x4 x5 : Int32) (rl : Nat → Int32) (b1 b2 b3 b4 b5 b6 kn : Int32) (H : Heap) (locs : List Loc) (ls : Array Slot), ∀ (z_kn : Int), gk_v kn z_kn → ∀ (z_x4 : Int), gk_v x4 z_x4 → ∀ (z_x5 : Int), gk_v x5 z_x5 → (z_ln + 1 - z_x5) < (n : Int) → 0 ≤ z_x1 ∧ z_x1 < z_x5 ∧ z_x5 ≤ z_ln + 1 ∧ z_x1 ≤ z_x4 ∧ z_x4 < z_x5 → 0 ≤ z_kn ∧ z_kn ≤ z_ln → mm_fit_62 x1 x2 tx cs fa2 la2 va2 mn2 fa3 la3 va3 mn3 ln lo n x3 x4 x5 rl b1 b2 b3 b4 b5 b6 kn = tgt → gk_W D vwCl (gk_T cI cL) s A H locs (wd_P cI h tx cs rl gv fa1 la1 va1 mn1 fa2 la2 va2 mn2 fa3 la3 va3 mn3 b1 b2 b3 b4 b5 b6 ln lo kn) → lv_has ls 7 [(0, .ref (h 0)), (1, .int x1), (2, .int x2), (3, .int x3), (4, .int x4), (5, .int x5)] → W p l e rm_fit s m [.ref (h 0), .int x1, .int x2].toArray below meth c H locs 0 0 Q (F0 m 62 ls []) := by
    intro n
    induction n with
    | zero => intro x3 x4 x5 rl b1 b2 b3 b4 b5 b6 kn H locs ls z_kn v_kn z_x4 v_x4 z_x5 v_x5 hm f62_0 f62_1 heq hW hl; exfalso; omega
    | succ n ih =>
      intro x3 x4 x5 rl b1 b2 b3 b4 b5 b6 kn H locs ls z_kn v_kn z_x4 v_x4 z_x5 v_x5 hm f62_0 f62_1 heq hW hl
      rw [mm_fit_62] at heq
      refine lv_iload hx hb d_fit_62 (lv_at hl 5 rfl) ?_
      refine lv_aload_n hx hb d_fit_64 rfl (lv_at hl 0 rfl) ?_
      refine va_get (D := D) (C := R_P) (T := F_P) (N := 11) hx hb hts i_P hown hW.1 hW.2.1 0 rfl rfl 8 (by decide) (hts _ w_42) (fun _ h9 => h9) rfl d_fit_65 ?_
      refine lv_icmp_gt (tgt := 136) hx hb d_fit_68 (by decide) (fun c_1 => ?_) (fun c_1 => ?_)
      · replace heq := (if_pos c_1).symm.trans heq
        have ic_1 := gk_lt v_ln v_x5 c_1
        refine lv_iload_n hx hb d_fit_136 rfl (lv_at hl 3 rfl) ?_
        exact X _ (rl, b1, b2, b3, b4, b5, b6, kn) H locs 0 0 137 ls heq hW d_fit_137 rfl (Nat.le_of_ble_eq_true rfl) (Nat.le_of_ble_eq_true rfl)
      · replace heq := (if_neg c_1).symm.trans heq
        have ic_1 := gk_nlt v_ln v_x5 c_1
        refine lv_aload_n hx hb d_fit_71 rfl (lv_at hl 0 rfl) ?_
        refine lv_iload hx hb d_fit_72 (lv_at hl 5 rfl) ?_
        refine lv_iconst (v := 1) hx hb d_fit_74 (by decide) ?_
        refine lv_isub hx hb d_fit_75 ?_
        obtain ⟨zt_2, vt_2, et_2⟩ := gk_sub v_x5 (show gk_v 1 1 from rfl) (by omega) (by omega)
        refine gk_goR hW [0, 1, 2, 3, 4, 5, 6, 7, 8, 9, 10, 11, 12, 13, 14, 15, 16, 17] rfl (va_runV (As := [.int (x5 - 1)]) (rest := []) ⟨hx, hb, hml, hown, hts⟩ (c_kindAt l D cI cL h tx cs rl gv fa1 la1 va1 mn1 fa2 la2 va2 mn2 fa3 la3 va3 mn3 b1 b2 b3 b4 b5 b6 ln lo kn (x5 - 1) zt_2 vt_2 (by omega) _) (gk_cwV hts w_50 w_51 w_52 w_3 k_kindAt rfl e_kindAt rfl rfl ⟨Nat.le_of_ble_eq_true rfl, Nat.le_of_ble_eq_true rfl⟩) (gk_preV hW [0, 1, 2, 3, 4, 5, 6, 7, 8, 9, 10, 11, 12, 13, 14, 15, 16, 17] rfl rfl rfl rfl) rfl rfl hl.1 rfl (lv_room (Nat.le_of_ble_eq_true rfl)) d_fit_76 ⟨Nat.le_of_ble_eq_true rfl, Nat.le_of_ble_eq_true rfl⟩) (fun H locs hW => ?_)
        refine lv_ldc2 (v := 31) hx hb hown (hts _ w_121) d_fit_79 ?_
        refine gk_goR hW [] rfl (va_runS (As := [.int (mm_kindAt (x5 - 1) cs lo), .long 31]) (rest := []) ⟨hx, hb, hml, hown, hts⟩ (c_isIn l D cI cL (mm_kindAt (x5 - 1) cs lo) 31 _) (gk_cwS hts w_5 w_6 w_3 k_isIn rfl e_isIn rfl rfl ⟨Nat.le_of_ble_eq_true rfl, Nat.le_of_ble_eq_true rfl⟩) (gk_pre hW [] rfl rfl) rfl rfl hl.1 rfl (lv_room (Nat.le_of_ble_eq_true rfl)) d_fit_82 ⟨Nat.le_of_ble_eq_true rfl, Nat.le_of_ble_eq_true rfl⟩) (fun H locs hW => ?_)
        refine lv_if_ne (tgt := 92) hx hb d_fit_85 (by decide) (fun c_3 => ?_) (fun c_3 => ?_)
        · replace heq := (if_neg c_3).symm.trans heq
          refine lv_iload hx hb d_fit_92 (lv_at hl 4 rfl) ?_
          refine lv_iload_n hx hb d_fit_94 rfl (lv_at hl 1 rfl) ?_
          refine lv_isub hx hb d_fit_95 ?_
          obtain ⟨zt_4, vt_4, et_4⟩ := gk_sub v_x4 v_x1 (by omega) (by omega)
          refine lv_iload_n hx hb d_fit_96 rfl (lv_at hl 2 rfl) ?_
          refine lv_icmp_le (tgt := 103) hx hb d_fit_97 (by decide) (fun c_5 => ?_) (fun c_5 => ?_)
          · replace heq := (if_pos c_5).symm.trans heq
            have ic_5 := gk_le vt_4 v_x2 c_5
            refine lv_aload_n hx hb d_fit_103 rfl (lv_at hl 0 rfl) ?_
            refine lv_iload hx hb d_fit_104 (lv_at hl 5 rfl) ?_
            refine gk_goI (wr := []) hW [0, 1, 2, 3, 4, 5, 6, 7, 8, 9, 10, 11, 12, 13, 14, 15, 16, 17] [] rfl rfl (by decide) (by decide) (va_runV (As := [.int x5]) (rest := []) ⟨hx, hb, hml, hown, hts⟩ (c_breaksAt l D cI cL h tx cs rl gv fa1 la1 va1 mn1 fa2 la2 va2 mn2 fa3 la3 va3 mn3 b1 b2 b3 b4 b5 b6 ln lo kn x5 z_kn v_kn z_ln v_ln z_mn2 v_mn2 z_mn3 v_mn3 (by omega) (by omega) (by omega) (by omega) _) (gk_cwV hts w_117 w_118 w_119 w_3 k_breaksAt rfl e_breaksAt rfl rfl ⟨Nat.le_of_ble_eq_true rfl, Nat.le_of_ble_eq_true rfl⟩) (gk_preV hW [0, 1, 2, 3, 4, 5, 6, 7, 8, 9, 10, 11, 12, 13, 14, 15, 16, 17] rfl rfl rfl rfl) rfl rfl hl.1 rfl (lv_room (Nat.le_of_ble_eq_true rfl)) d_fit_106 ⟨Nat.le_of_ble_eq_true rfl, Nat.le_of_ble_eq_true rfl⟩) (fun r_6 u H locs p_15 hW => ?_)
            obtain ⟨u_7, u_8, u_9, u_10, u_11, u_12, u_13, u_14⟩ := u
            have hW : gk_W D vwCl (gk_T cI cL) s A H locs (wd_P cI h tx cs u_7 gv fa1 la1 va1 mn1 fa2 la2 va2 mn2 fa3 la3 va3 mn3 u_8 u_9 u_10 u_11 u_12 u_13 ln lo u_14) := hW.re [0, 1, 2, 3, 4, 5, 6, 7, 8, 9, 10, 11, 12, 13, 14, 15, 16, 17] (by decide) rfl
            rw [← p_15] at heq
            dsimp only at heq
            obtain ⟨zk_16, vk_16, hk_16⟩ := mm_breaksAt_kn p_15 v_ln v_kn (by omega) (by omega)
            refine lv_istore (lv' := [(6, .int r_6), (0, .ref (h 0)), (1, .int x1), (2, .int x2), (3, .int x3), (4, .int x4), (5, .int x5)]) hx hb d_fit_109 hl (by decide) rfl (fun ls hl => ?_)
            refine lv_iload hx hb d_fit_111 (lv_at hl 0 rfl) ?_
            refine lv_if_eq (tgt := 121) hx hb d_fit_113 (by decide) (fun c_17 => ?_) (fun c_17 => ?_)
            · replace heq := (if_pos c_17).symm.trans heq
              refine lv_iload hx hb d_fit_121 (lv_at hl 0 rfl) ?_
              refine lv_iconst (v := 2) hx hb d_fit_123 (by decide) ?_
              refine lv_icmp_ne (tgt := 130) hx hb d_fit_124 (by decide) (fun c_18 => ?_) (fun c_18 => ?_)
              · replace heq := (if_neg c_18).symm.trans heq
                refine lv_iinc (v := x5 + 1) (lv' := [(5, .int (x5 + 1)), (6, .int r_6), (0, .ref (h 0)), (1, .int x1), (2, .int x2), (3, .int x3), (4, .int x4)]) hx hb d_fit_130 hl (k := 6) rfl rfl (by decide) rfl (fun ls hl => ?_)
                obtain ⟨zt_19, vt_19, et_19⟩ := gk_add v_x5 (show gk_v 1 1 from rfl) (by omega) (by omega)
                refine lv_goto (tgt := 62) hx hb d_fit_133 (by decide) ?_
                exact ih x3 x4 (x5 + 1) u_7 u_8 u_9 u_10 u_11 u_12 u_13 u_14 H locs ls zk_16 vk_16 z_x4 v_x4 zt_19 vt_19 (by omega) (by omega) (by omega) heq hW (lv_sub hl [2, 3, 4, 5, 6, 0] rfl)
              · replace heq := (if_pos c_18).symm.trans heq
                refine lv_goto (tgt := 136) hx hb d_fit_127 (by decide) ?_
                refine lv_iload_n hx hb d_fit_136 rfl (lv_at hl 4 rfl) ?_
                exact X _ (u_7, u_8, u_9, u_10, u_11, u_12, u_13, u_14) H locs 0 0 137 ls heq hW d_fit_137 rfl (Nat.le_of_ble_eq_true rfl) (Nat.le_of_ble_eq_true rfl)
            · replace heq := (if_neg c_17).symm.trans heq
              refine lv_iload hx hb d_fit_116 (lv_at hl 6 rfl) ?_
              refine lv_iload_n hx hb d_fit_118 rfl (lv_at hl 2 rfl) ?_
              refine lv_isub hx hb d_fit_119 ?_
              obtain ⟨zt_20, vt_20, et_20⟩ := gk_sub v_x5 v_x1 (by omega) (by omega)
              refine lv_istore_n (lv' := [(3, .int (x5 - x1)), (6, .int r_6), (0, .ref (h 0)), (1, .int x1), (2, .int x2), (4, .int x4), (5, .int x5)]) hx hb d_fit_120 rfl hl (by decide) rfl (fun ls hl => ?_)
              refine lv_iload hx hb d_fit_121 (lv_at hl 1 rfl) ?_
              refine lv_iconst (v := 2) hx hb d_fit_123 (by decide) ?_
              refine lv_icmp_ne (tgt := 130) hx hb d_fit_124 (by decide) (fun c_21 => ?_) (fun c_21 => ?_)
              · replace heq := (if_neg c_21).symm.trans heq
                refine lv_iinc (v := x5 + 1) (lv' := [(5, .int (x5 + 1)), (3, .int (x5 - x1)), (6, .int r_6), (0, .ref (h 0)), (1, .int x1), (2, .int x2), (4, .int x4)]) hx hb d_fit_130 hl (k := 6) rfl rfl (by decide) rfl (fun ls hl => ?_)
                obtain ⟨zt_22, vt_22, et_22⟩ := gk_add v_x5 (show gk_v 1 1 from rfl) (by omega) (by omega)
                refine lv_goto (tgt := 62) hx hb d_fit_133 (by decide) ?_
                exact ih (x5 - x1) x4 (x5 + 1) u_7 u_8 u_9 u_10 u_11 u_12 u_13 u_14 H locs ls zk_16 vk_16 z_x4 v_x4 zt_22 vt_22 (by omega) (by omega) (by omega) heq hW (lv_sub hl [3, 4, 5, 1, 6, 0] rfl)
              · replace heq := (if_pos c_21).symm.trans heq
                refine lv_goto (tgt := 136) hx hb d_fit_127 (by decide) ?_
                refine lv_iload_n hx hb d_fit_136 rfl (lv_at hl 0 rfl) ?_
                exact X _ (u_7, u_8, u_9, u_10, u_11, u_12, u_13, u_14) H locs 0 0 137 ls heq hW d_fit_137 rfl (Nat.le_of_ble_eq_true rfl) (Nat.le_of_ble_eq_true rfl)
          · replace heq := (if_neg c_5).symm.trans heq
            have ic_5 := gk_nle vt_4 v_x2 c_5
            refine lv_goto (tgt := 136) hx hb d_fit_100 (by decide) ?_
            refine lv_iload_n hx hb d_fit_136 rfl (lv_at hl 3 rfl) ?_
            exact X _ (rl, b1, b2, b3, b4, b5, b6, kn) H locs 0 0 137 ls heq hW d_fit_137 rfl (Nat.le_of_ble_eq_true rfl) (Nat.le_of_ble_eq_true rfl)
        · replace heq := (if_pos c_3).symm.trans heq
          refine lv_iload hx hb d_fit_88 (lv_at hl 5 rfl) ?_
          refine lv_istore (lv' := [(4, .int x5), (0, .ref (h 0)), (1, .int x1), (2, .int x2), (3, .int x3), (5, .int x5)]) hx hb d_fit_90 hl (by decide) rfl (fun ls hl => ?_)
          refine lv_iload hx hb d_fit_92 (lv_at hl 0 rfl) ?_
          refine lv_iload_n hx hb d_fit_94 rfl (lv_at hl 2 rfl) ?_
          refine lv_isub hx hb d_fit_95 ?_
          obtain ⟨zt_23, vt_23, et_23⟩ := gk_sub v_x5 v_x1 (by omega) (by omega)
          refine lv_iload_n hx hb d_fit_96 rfl (lv_at hl 3 rfl) ?_
          refine lv_icmp_le (tgt := 103) hx hb d_fit_97 (by decide) (fun c_24 => ?_) (fun c_24 => ?_)
          · replace heq := (if_pos c_24).symm.trans heq
            have ic_24 := gk_le vt_23 v_x2 c_24
            refine lv_aload_n hx hb d_fit_103 rfl (lv_at hl 1 rfl) ?_
            refine lv_iload hx hb d_fit_104 (lv_at hl 5 rfl) ?_
            refine gk_goI (wr := []) hW [0, 1, 2, 3, 4, 5, 6, 7, 8, 9, 10, 11, 12, 13, 14, 15, 16, 17] [] rfl rfl (by decide) (by decide) (va_runV (As := [.int x5]) (rest := []) ⟨hx, hb, hml, hown, hts⟩ (c_breaksAt l D cI cL h tx cs rl gv fa1 la1 va1 mn1 fa2 la2 va2 mn2 fa3 la3 va3 mn3 b1 b2 b3 b4 b5 b6 ln lo kn x5 z_kn v_kn z_ln v_ln z_mn2 v_mn2 z_mn3 v_mn3 (by omega) (by omega) (by omega) (by omega) _) (gk_cwV hts w_117 w_118 w_119 w_3 k_breaksAt rfl e_breaksAt rfl rfl ⟨Nat.le_of_ble_eq_true rfl, Nat.le_of_ble_eq_true rfl⟩) (gk_preV hW [0, 1, 2, 3, 4, 5, 6, 7, 8, 9, 10, 11, 12, 13, 14, 15, 16, 17] rfl rfl rfl rfl) rfl rfl hl.1 rfl (lv_room (Nat.le_of_ble_eq_true rfl)) d_fit_106 ⟨Nat.le_of_ble_eq_true rfl, Nat.le_of_ble_eq_true rfl⟩) (fun r_25 u H locs p_34 hW => ?_)
            obtain ⟨u_26, u_27, u_28, u_29, u_30, u_31, u_32, u_33⟩ := u
            have hW : gk_W D vwCl (gk_T cI cL) s A H locs (wd_P cI h tx cs u_26 gv fa1 la1 va1 mn1 fa2 la2 va2 mn2 fa3 la3 va3 mn3 u_27 u_28 u_29 u_30 u_31 u_32 ln lo u_33) := hW.re [0, 1, 2, 3, 4, 5, 6, 7, 8, 9, 10, 11, 12, 13, 14, 15, 16, 17] (by decide) rfl
            rw [← p_34] at heq
            dsimp only at heq
            obtain ⟨zk_35, vk_35, hk_35⟩ := mm_breaksAt_kn p_34 v_ln v_kn (by omega) (by omega)
            refine lv_istore (lv' := [(6, .int r_25), (4, .int x5), (0, .ref (h 0)), (1, .int x1), (2, .int x2), (3, .int x3), (5, .int x5)]) hx hb d_fit_109 hl (by decide) rfl (fun ls hl => ?_)
            refine lv_iload hx hb d_fit_111 (lv_at hl 0 rfl) ?_
            refine lv_if_eq (tgt := 121) hx hb d_fit_113 (by decide) (fun c_36 => ?_) (fun c_36 => ?_)
            · replace heq := (if_pos c_36).symm.trans heq
              refine lv_iload hx hb d_fit_121 (lv_at hl 0 rfl) ?_
              refine lv_iconst (v := 2) hx hb d_fit_123 (by decide) ?_
              refine lv_icmp_ne (tgt := 130) hx hb d_fit_124 (by decide) (fun c_37 => ?_) (fun c_37 => ?_)
              · replace heq := (if_neg c_37).symm.trans heq
                refine lv_iinc (v := x5 + 1) (lv' := [(5, .int (x5 + 1)), (6, .int r_25), (4, .int x5), (0, .ref (h 0)), (1, .int x1), (2, .int x2), (3, .int x3)]) hx hb d_fit_130 hl (k := 6) rfl rfl (by decide) rfl (fun ls hl => ?_)
                obtain ⟨zt_38, vt_38, et_38⟩ := gk_add v_x5 (show gk_v 1 1 from rfl) (by omega) (by omega)
                refine lv_goto (tgt := 62) hx hb d_fit_133 (by decide) ?_
                exact ih x3 x5 (x5 + 1) u_26 u_27 u_28 u_29 u_30 u_31 u_32 u_33 H locs ls zk_35 vk_35 z_x5 v_x5 zt_38 vt_38 (by omega) (by omega) (by omega) heq hW (lv_sub hl [3, 4, 5, 6, 2, 0] rfl)
              · replace heq := (if_pos c_37).symm.trans heq
                refine lv_goto (tgt := 136) hx hb d_fit_127 (by decide) ?_
                refine lv_iload_n hx hb d_fit_136 rfl (lv_at hl 5 rfl) ?_
                exact X _ (u_26, u_27, u_28, u_29, u_30, u_31, u_32, u_33) H locs 0 0 137 ls heq hW d_fit_137 rfl (Nat.le_of_ble_eq_true rfl) (Nat.le_of_ble_eq_true rfl)
            · replace heq := (if_neg c_36).symm.trans heq
              refine lv_iload hx hb d_fit_116 (lv_at hl 6 rfl) ?_
              refine lv_iload_n hx hb d_fit_118 rfl (lv_at hl 3 rfl) ?_
              refine lv_isub hx hb d_fit_119 ?_
              obtain ⟨zt_39, vt_39, et_39⟩ := gk_sub v_x5 v_x1 (by omega) (by omega)
              refine lv_istore_n (lv' := [(3, .int (x5 - x1)), (6, .int r_25), (4, .int x5), (0, .ref (h 0)), (1, .int x1), (2, .int x2), (5, .int x5)]) hx hb d_fit_120 rfl hl (by decide) rfl (fun ls hl => ?_)
              refine lv_iload hx hb d_fit_121 (lv_at hl 1 rfl) ?_
              refine lv_iconst (v := 2) hx hb d_fit_123 (by decide) ?_
              refine lv_icmp_ne (tgt := 130) hx hb d_fit_124 (by decide) (fun c_40 => ?_) (fun c_40 => ?_)
              · replace heq := (if_neg c_40).symm.trans heq
                refine lv_iinc (v := x5 + 1) (lv' := [(5, .int (x5 + 1)), (3, .int (x5 - x1)), (6, .int r_25), (4, .int x5), (0, .ref (h 0)), (1, .int x1), (2, .int x2)]) hx hb d_fit_130 hl (k := 6) rfl rfl (by decide) rfl (fun ls hl => ?_)
                obtain ⟨zt_41, vt_41, et_41⟩ := gk_add v_x5 (show gk_v 1 1 from rfl) (by omega) (by omega)
                refine lv_goto (tgt := 62) hx hb d_fit_133 (by decide) ?_
                exact ih (x5 - x1) x5 (x5 + 1) u_26 u_27 u_28 u_29 u_30 u_31 u_32 u_33 H locs ls zk_35 vk_35 z_x5 v_x5 zt_41 vt_41 (by omega) (by omega) (by omega) heq hW (lv_sub hl [4, 5, 6, 1, 3, 0] rfl)
              · replace heq := (if_pos c_40).symm.trans heq
                refine lv_goto (tgt := 136) hx hb d_fit_127 (by decide) ?_
                refine lv_iload_n hx hb d_fit_136 rfl (lv_at hl 0 rfl) ?_
                exact X _ (u_26, u_27, u_28, u_29, u_30, u_31, u_32, u_33) H locs 0 0 137 ls heq hW d_fit_137 rfl (Nat.le_of_ble_eq_true rfl) (Nat.le_of_ble_eq_true rfl)
          · replace heq := (if_neg c_24).symm.trans heq
            have ic_24 := gk_nle vt_23 v_x2 c_24
            refine lv_goto (tgt := 136) hx hb d_fit_100 (by decide) ?_
            refine lv_iload_n hx hb d_fit_136 rfl (lv_at hl 4 rfl) ?_
            exact X _ (rl, b1, b2, b3, b4, b5, b6, kn) H locs 0 0 137 ls heq hW d_fit_137 rfl (Nat.le_of_ble_eq_true rfl) (Nat.le_of_ble_eq_true rfl)
  refine lv_aload_n hx hb d_fit_0 rfl (lv_at hl 0 rfl) ?_
  refine lv_iload_n hx hb d_fit_1 rfl (lv_at hl 1 rfl) ?_
  refine gk_goR hW [0, 1, 2, 3, 4, 5, 6, 7, 8, 9, 10, 11, 12, 13, 14, 15, 16, 17] rfl (va_runV (As := [.int x1]) (rest := []) ⟨hx, hb, hml, hown, hts⟩ (c_isPlace l D cI cL h tx cs rl gv fa1 la1 va1 mn1 fa2 la2 va2 mn2 fa3 la3 va3 mn3 b1 b2 b3 b4 b5 b6 ln lo kn x1 _) (gk_cwV hts w_114 w_115 w_116 w_3 k_isPlace rfl e_isPlace rfl rfl ⟨Nat.le_of_ble_eq_true rfl, Nat.le_of_ble_eq_true rfl⟩) (gk_preV hW [0, 1, 2, 3, 4, 5, 6, 7, 8, 9, 10, 11, 12, 13, 14, 15, 16, 17] rfl rfl rfl rfl) rfl rfl hl.1 rfl (lv_room (Nat.le_of_ble_eq_true rfl)) d_fit_2 ⟨Nat.le_of_ble_eq_true rfl, Nat.le_of_ble_eq_true rfl⟩) (fun H locs hW => ?_)
  refine lv_if_ne (tgt := 18) hx hb d_fit_5 (by decide) (fun c_42 => ?_) (fun c_42 => ?_)
  · replace heq := (if_neg c_42).symm.trans heq
    have hin := mm_isPlace_in c_42 v_x1 v_ln
    refine lv_iload_n hx hb d_fit_18 rfl (lv_at hl 2 rfl) ?_
    refine lv_iconst (v := 1) hx hb d_fit_19 (by decide) ?_
    refine lv_icmp_lt (tgt := 30) hx hb d_fit_20 (by decide) (fun c_43 => ?_) (fun c_43 => ?_)
    · replace heq := (if_pos c_43).symm.trans heq
      have ic_43 := gk_lt v_x2 (show gk_v 1 1 from rfl) c_43
      exact Y _ _ _ 30 59 126 63 (rl, b1, b2, b3, b4, b5, b6, kn) H locs 0 0 ls T_fit_30 (Or.inr (⟨rfl, heq⟩)) hW hl.1 (Nat.le_of_ble_eq_true rfl) (Nat.le_of_ble_eq_true rfl) (Nat.le_of_ble_eq_true rfl) (Nat.le_of_ble_eq_true rfl)
    · replace heq := (if_neg c_43).symm.trans heq
      have ic_43 := gk_nlt v_x2 (show gk_v 1 1 from rfl) c_43
      refine lv_iload_n hx hb d_fit_23 rfl (lv_at hl 2 rfl) ?_
      refine lv_sipush (v := 2000) hx hb d_fit_24 (by decide) ?_
      refine lv_icmp_le (tgt := 40) hx hb d_fit_27 (by decide) (fun c_44 => ?_) (fun c_44 => ?_)
      · replace heq := (if_pos c_44).symm.trans heq
        have ic_44 := gk_le v_x2 (show gk_v 2000 2000 from rfl) c_44
        refine lv_iload_n hx hb d_fit_40 rfl (lv_at hl 1 rfl) ?_
        refine lv_aload_n hx hb d_fit_41 rfl (lv_at hl 0 rfl) ?_
        refine va_get (D := D) (C := R_P) (T := F_P) (N := 11) hx hb hts i_P hown hW.1 hW.2.1 0 rfl rfl 8 (by decide) (hts _ w_42) (fun _ h9 => h9) rfl d_fit_42 ?_
        refine lv_icmp_ne (tgt := 52) hx hb d_fit_45 (by decide) (fun c_45 => ?_) (fun c_45 => ?_)
        · replace heq := (if_neg c_45).symm.trans heq
          refine lv_iload_n hx hb d_fit_52 rfl (lv_at hl 2 rfl) ?_
          refine lv_istore_n (lv' := [(3, .int x2), (0, .ref (h 0)), (1, .int x1), (2, .int x2)]) hx hb d_fit_53 rfl hl (by decide) rfl (fun ls hl => ?_)
          refine lv_iload_n hx hb d_fit_54 rfl (lv_at hl 2 rfl) ?_
          refine lv_istore (lv' := [(4, .int x1), (3, .int x2), (0, .ref (h 0)), (1, .int x1), (2, .int x2)]) hx hb d_fit_55 hl (by decide) rfl (fun ls hl => ?_)
          refine lv_iload_n hx hb d_fit_57 rfl (lv_at hl 3 rfl) ?_
          refine lv_iconst (v := 1) hx hb d_fit_58 (by decide) ?_
          refine lv_iadd hx hb d_fit_59 ?_
          obtain ⟨zt_46, vt_46, et_46⟩ := gk_add v_x1 (show gk_v 1 1 from rfl) (by omega) (by omega)
          refine lv_istore (lv' := [(5, .int (x1 + 1)), (4, .int x1), (3, .int x2), (0, .ref (h 0)), (1, .int x1), (2, .int x2)]) hx hb d_fit_60 hl (by decide) rfl (fun ls hl => ?_)
          exact L62 2002 x2 x1 (x1 + 1) rl b1 b2 b3 b4 b5 b6 kn H locs ls z_kn v_kn z_x1 v_x1 zt_46 vt_46 (by omega) (by omega) (by omega) heq hW (lv_sub hl [3, 4, 5, 2, 1, 0] rfl)
        · replace heq := (if_pos c_45).symm.trans heq
          refine lv_iconst (v := 0) hx hb d_fit_48 (by decide) ?_
          refine lv_goto (tgt := 53) hx hb d_fit_49 (by decide) ?_
          refine lv_istore_n (lv' := [(3, .int 0), (0, .ref (h 0)), (1, .int x1), (2, .int x2)]) hx hb d_fit_53 rfl hl (by decide) rfl (fun ls hl => ?_)
          refine lv_iload_n hx hb d_fit_54 rfl (lv_at hl 2 rfl) ?_
          refine lv_istore (lv' := [(4, .int x1), (3, .int 0), (0, .ref (h 0)), (1, .int x1), (2, .int x2)]) hx hb d_fit_55 hl (by decide) rfl (fun ls hl => ?_)
          refine lv_iload_n hx hb d_fit_57 rfl (lv_at hl 3 rfl) ?_
          refine lv_iconst (v := 1) hx hb d_fit_58 (by decide) ?_
          refine lv_iadd hx hb d_fit_59 ?_
          obtain ⟨zt_47, vt_47, et_47⟩ := gk_add v_x1 (show gk_v 1 1 from rfl) (by omega) (by omega)
          refine lv_istore (lv' := [(5, .int (x1 + 1)), (4, .int x1), (3, .int 0), (0, .ref (h 0)), (1, .int x1), (2, .int x2)]) hx hb d_fit_60 hl (by decide) rfl (fun ls hl => ?_)
          exact L62 2002 0 x1 (x1 + 1) rl b1 b2 b3 b4 b5 b6 kn H locs ls z_kn v_kn z_x1 v_x1 zt_47 vt_47 (by omega) (by omega) (by omega) heq hW (lv_sub hl [3, 4, 5, 2, 1, 0] rfl)
      · replace heq := (if_neg c_44).symm.trans heq
        have ic_44 := gk_nle v_x2 (show gk_v 2000 2000 from rfl) c_44
        exact Y _ _ _ 30 59 126 63 (rl, b1, b2, b3, b4, b5, b6, kn) H locs 0 0 ls T_fit_30 (Or.inr (⟨rfl, heq⟩)) hW hl.1 (Nat.le_of_ble_eq_true rfl) (Nat.le_of_ble_eq_true rfl) (Nat.le_of_ble_eq_true rfl) (Nat.le_of_ble_eq_true rfl)
  · replace heq := (if_pos c_42).symm.trans heq
    exact Y _ _ _ 8 104 118 108 (rl, b1, b2, b3, b4, b5, b6, kn) H locs 0 0 ls T_fit_8 (Or.inl ⟨rfl, heq⟩) hW hl.1 (Nat.le_of_ble_eq_true rfl) (Nat.le_of_ble_eq_true rfl) (Nat.le_of_ble_eq_true rfl) (Nat.le_of_ble_eq_true rfl)
