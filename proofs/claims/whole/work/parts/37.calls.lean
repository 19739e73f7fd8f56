def mm_loose (x1 b1 b2 b3 b4 b5 b6 lo kn : Int32) : Int32 × Int32 × Int32 × Int32 × Int32 × Int32 × Int32 × Int32 × Int32 := if lo = x1 then (lo, b1, b2, b3, b4, b5, b6, x1, kn) else (match (mm_forgetRules b1 b2 b3 b4 b5 b6 kn) with | (u_2, u_3, u_4, u_5, u_6, u_7, u_8) => (lo, u_2, u_3, u_4, u_5, u_6, u_7, x1, u_8))
def rm_loose : Room := { frames := 2, cells := 0, slots := 0, locals := 40 }
set_option maxHeartbeats 4000000 in
set_option maxRecDepth 100000 in
theorem c_loose (l : Launch) (D : va_G) (cI : ClassId) (cL : ClassId × ClassId) (h : Nat → Nat) (tx cs rl gv fa1 la1 va1 : Nat → Int32) (mn1 : Int32) (fa2 la2 va2 : Nat → Int32) (mn2 : Int32) (fa3 la3 va3 : Nat → Int32) (mn3 b1 b2 b3 b4 b5 b6 ln lo kn x1 : Int32) (hlo : (x1 = 0 ∨ x1 = 1) ∧ (lo = 0 ∨ lo = 1)) : gk_I l y_loose (.code y_loose b_loose 3 (some .boolean) :: wA) rm_loose D vwCl (gk_T cI cL) [.ref (h 0), .int x1] (wd_P cI h tx cs rl gv fa1 la1 va1 mn1 fa2 la2 va2 mn2 fa3 la3 va3 mn3 b1 b2 b3 b4 b5 b6 ln lo kn) (fun (r : Int32) (u : Int32 × Int32 × Int32 × Int32 × Int32 × Int32 × Int32 × Int32) => (r, u) = mm_loose x1 b1 b2 b3 b4 b5 b6 lo kn) (fun u => (wd_P cI h tx cs rl gv fa1 la1 va1 mn1 fa2 la2 va2 mn2 fa3 la3 va3 mn3 u.1 u.2.1 u.2.2.1 u.2.2.2.1 u.2.2.2.2.1 u.2.2.2.2.2.1 ln u.2.2.2.2.2.2.1 u.2.2.2.2.2.2.2)) 0 0 := by
  refine gk_I.of (by decide) (Nat.le_of_ble_eq_true rfl) ?_
  intro p e s m below meth c A ls Q H locs hx hb hml hown hts hW hl X
  have hl : lv_has ls 3 [(0, .ref (h 0)), (1, .int x1)] := hl
  obtain ⟨tgt, heq⟩ : ∃ t, mm_loose x1 b1 b2 b3 b4 b5 b6 lo kn = t := ⟨_, rfl⟩
  rw [heq] at X
  rw [mm_loose] at heq
  obtain ⟨z_x1, v_x1⟩ := gk_vex x1
  obtain ⟨z_lo, v_lo⟩ := gk_vex lo
  refine lv_aload_n hx hb d_loose_0 rfl (lv_at hl 0 rfl) ?_
  refine va_get (D := D) (C := R_P) (T := F_P) (N := 11) hx hb hts i_P hown hW.1 hW.2.1 0 rfl rfl 9 (by decide) (hts _ w_49) (fun _ h9 => h9) rfl d_loose_1 ?_
  refine lv_istore_n (lv' := [(2, .int lo), (0, .ref (h 0)), (1, .int x1)]) hx hb d_loose_4 rfl hl (by decide) rfl (fun ls hl => ?_)
  refine lv_aload_n hx hb d_loose_5 rfl (lv_at hl 1 rfl) ?_
  refine lv_iload_n hx hb d_loose_6 rfl (lv_at hl 2 rfl) ?_
  refine va_put (D := D) (ci := 0) (v := .int x1) (ty := .boolean) (C := R_P) (T := F_P) (N := 11) hx hb hts i_P t_P t_P_ok n_P hown hW.1 hW.2.1 hW.2.2.1 hW.2.2.2.1 0 rfl rfl 9 (by decide) (hts _ w_49) (fun _ h9 => h9) rfl (by decide +kernel) (gz_n hlo.1) (gz_f hlo.1) (Nat.le_of_ble_eq_true rfl) d_loose_7 (fun H locs hP hD hS => ?_)
  have hW : gk_W D vwCl (gk_T cI cL) s A H locs (wd_P cI h tx cs rl gv fa1 la1 va1 mn1 fa2 la2 va2 mn2 fa3 la3 va3 mn3 b1 b2 b3 b4 b5 b6 ln x1 kn) := ⟨hW.1, hP, hD, hS, hW.2.2.2.2⟩
  refine lv_iload_n hx hb d_loose_10 rfl (lv_at hl 0 rfl) ?_
  refine lv_iload_n hx hb d_loose_11 rfl (lv_at hl 2 rfl) ?_
  refine lv_icmp_eq (tgt := 19) hx hb d_loose_12 (by decide) (fun c_1 => ?_) (fun c_1 => ?_)
  · replace heq := (if_pos c_1).symm.trans heq
    refine lv_iload_n hx hb d_loose_19 rfl (lv_at hl 0 rfl) ?_
    exact X _ (b1, b2, b3, b4, b5, b6, x1, kn) H locs 0 0 20 ls heq hW d_loose_20 (gz_n hlo.2) (Nat.le_of_ble_eq_true rfl) (Nat.le_of_ble_eq_true rfl)
  · replace heq := (if_neg c_1).symm.trans heq
    refine lv_aload_n hx hb d_loose_15 rfl (lv_at hl 1 rfl) ?_
    refine gk_goV (wr := []) hW [0, 1, 2, 3, 4, 5, 6, 7, 8, 9, 10, 11, 12, 13, 14, 15, 16, 17] [] rfl rfl (by decide) (by decide) (va_runV (As := []) (rest := []) ⟨hx, hb, hml, hown, hts⟩ (c_forgetRules l D cI cL h tx cs rl gv fa1 la1 va1 mn1 fa2 la2 va2 mn2 fa3 la3 va3 mn3 b1 b2 b3 b4 b5 b6 ln x1 kn _) (gk_cwV hts w_86 w_87 w_88 w_3 k_forgetRules rfl e_forgetRules rfl rfl ⟨Nat.le_of_ble_eq_true rfl, Nat.le_of_ble_eq_true rfl⟩) (gk_preV hW [0, 1, 2, 3, 4, 5, 6, 7, 8, 9, 10, 11, 12, 13, 14, 15, 16, 17] rfl rfl rfl rfl) rfl rfl hl.1 rfl (lv_room (Nat.le_of_ble_eq_true rfl)) d_loose_16 ⟨Nat.le_of_ble_eq_true rfl, Nat.le_of_ble_eq_true rfl⟩) (fun u H locs p_9 hW => ?_)
    obtain ⟨u_2, u_3, u_4, u_5, u_6, u_7, u_8⟩ := u
    have hW : gk_W D vwCl (gk_T cI cL) s A H locs (wd_P cI h tx cs rl gv fa1 la1 va1 mn1 fa2 la2 va2 mn2 fa3 la3 va3 mn3 u_2 u_3 u_4 u_5 u_6 u_7 ln x1 u_8) := hW.re [0, 1, 2, 3, 4, 5, 6, 7, 8, 9, 10, 11, 12, 13, 14, 15, 16, 17] (by decide) rfl
    rw [← p_9] at heq
    dsimp only at heq
    refine lv_iload_n hx hb d_loose_19 rfl (lv_at hl 0 rfl) ?_
    exact X _ (u_2, u_3, u_4, u_5, u_6, u_7, x1, u_8) H locs 0 0 20 ls heq hW d_loose_20 (gz_n hlo.2) (Nat.le_of_ble_eq_true rfl) (Nat.le_of_ble_eq_true rfl)
def mm_clear (b1 b2 b3 b4 b5 b6 ln kn : Int32) : Int32 × Int32 × Int32 × Int32 × Int32 × Int32 × Int32 × Int32 × Int32 := match (mm_forgetRules b1 b2 b3 b4 b5 b6 kn) with | (u_1, u_2, u_3, u_4, u_5, u_6, u_7) => (ln, u_1, u_2, u_3, u_4, u_5, u_6, 0, u_7)
def rm_clear : Room := { frames := 2, cells := 0, slots := 0, locals := 40 }
set_option maxHeartbeats 4000000 in
set_option maxRecDepth 100000 in
theorem c_clear (l : Launch) (D : va_G) (cI : ClassId) (cL : ClassId × ClassId) (h : Nat → Nat) (tx cs rl gv fa1 la1 va1 : Nat → Int32) (mn1 : Int32) (fa2 la2 va2 : Nat → Int32) (mn2 : Int32) (fa3 la3 va3 : Nat → Int32) (mn3 b1 b2 b3 b4 b5 b6 ln lo kn : Int32) : gk_I l y_clear (.code y_clear b_clear 2 (some .int) :: wA) rm_clear D vwCl (gk_T cI cL) [.ref (h 0)] (wd_P cI h tx cs rl gv fa1 la1 va1 mn1 fa2 la2 va2 mn2 fa3 la3 va3 mn3 b1 b2 b3 b4 b5 b6 ln lo kn) (fun (r : Int32) (u : Int32 × Int32 × Int32 × Int32 × Int32 × Int32 × Int32 × Int32) => (r, u) = mm_clear b1 b2 b3 b4 b5 b6 ln kn) (fun u => (wd_P cI h tx cs rl gv fa1 la1 va1 mn1 fa2 la2 va2 mn2 fa3 la3 va3 mn3 u.1 u.2.1 u.2.2.1 u.2.2.2.1 u.2.2.2.2.1 u.2.2.2.2.2.1 u.2.2.2.2.2.2.1 lo u.2.2.2.2.2.2.2)) 0 0 := by
  refine gk_I.of (by decide) (Nat.le_of_ble_eq_true rfl) ?_
  intro p e s m below meth c A ls Q H locs hx hb hml hown hts hW hl X
  have hl : lv_has ls 2 [(0, .ref (h 0))] := hl
  obtain ⟨tgt, heq⟩ : ∃ t, mm_clear b1 b2 b3 b4 b5 b6 ln kn = t := ⟨_, rfl⟩
  rw [heq] at X
  rw [mm_clear] at heq
  refine lv_aload_n hx hb d_clear_0 rfl (lv_at hl 0 rfl) ?_
  refine va_get (D := D) (C := R_P) (T := F_P) (N := 11) hx hb hts i_P hown hW.1 hW.2.1 0 rfl rfl 8 (by decide) (hts _ w_42) (fun _ h9 => h9) rfl d_clear_1 ?_
  refine lv_istore_n (lv' := [(1, .int ln), (0, .ref (h 0))]) hx hb d_clear_4 rfl hl (by decide) rfl (fun ls hl => ?_)
  refine lv_aload_n hx hb d_clear_5 rfl (lv_at hl 1 rfl) ?_
  refine lv_iconst (v := 0) hx hb d_clear_6 (by decide) ?_
  refine va_put (D := D) (ci := 0) (v := .int 0) (ty := .int) (C := R_P) (T := F_P) (N := 11) hx hb hts i_P t_P t_P_ok n_P hown hW.1 hW.2.1 hW.2.2.1 hW.2.2.2.1 0 rfl rfl 8 (by decide) (hts _ w_42) (fun _ h9 => h9) rfl (by decide +kernel) rfl rfl (Nat.le_of_ble_eq_true rfl) d_clear_7 (fun H locs hP hD hS => ?_)
  have hW : gk_W D vwCl (gk_T cI cL) s A H locs (wd_P cI h tx cs rl gv fa1 la1 va1 mn1 fa2 la2 va2 mn2 fa3 la3 va3 mn3 b1 b2 b3 b4 b5 b6 0 lo kn) := ⟨hW.1, hP, hD, hS, hW.2.2.2.2⟩
  refine lv_aload_n hx hb d_clear_10 rfl (lv_at hl 1 rfl) ?_
  refine gk_goV (wr := []) hW [0, 1, 2, 3, 4, 5, 6, 7, 8, 9, 10, 11, 12, 13, 14, 15, 16, 17] [] rfl rfl (by decide) (by decide) (va_runV (As := []) (rest := []) ⟨hx, hb, hml, hown, hts⟩ (c_forgetRules l D cI cL h tx cs rl gv fa1 la1 va1 mn1 fa2 la2 va2 mn2 fa3 la3 va3 mn3 b1 b2 b3 b4 b5 b6 0 lo kn _) (gk_cwV hts w_86 w_87 w_88 w_3 k_forgetRules rfl e_forgetRules rfl rfl ⟨Nat.le_of_ble_eq_true rfl, Nat.le_of_ble_eq_true rfl⟩) (gk_preV hW [0, 1, 2, 3, 4, 5, 6, 7, 8, 9, 10, 11, 12, 13, 14, 15, 16, 17] rfl rfl rfl rfl) rfl rfl hl.1 rfl (lv_room (Nat.le_of_ble_eq_true rfl)) d_clear_11 ⟨Nat.le_of_ble_eq_true rfl, Nat.le_of_ble_eq_true rfl⟩) (fun u H locs p_8 hW => ?_)
  obtain ⟨u_1, u_2, u_3, u_4, u_5, u_6, u_7⟩ := u
  have hW : gk_W D vwCl (gk_T cI cL) s A H locs (wd_P cI h tx cs rl gv fa1 la1 va1 mn1 fa2 la2 va2 mn2 fa3 la3 va3 mn3 u_1 u_2 u_3 u_4 u_5 u_6 0 lo u_7) := hW.re [0, 1, 2, 3, 4, 5, 6, 7, 8, 9, 10, 11, 12, 13, 14, 15, 16, 17] (by decide) rfl
  rw [← p_8] at heq
  dsimp only at heq
  refine lv_iload_n hx hb d_clear_14 rfl (lv_at hl 0 rfl) ?_
  exact X _ (u_1, u_2, u_3, u_4, u_5, u_6, 0, u_7) H locs 0 0 15 ls heq hW d_clear_15 rfl (Nat.le_of_ble_eq_true rfl) (Nat.le_of_ble_eq_true rfl)
