def mm_isPosition (x1 ln : Int32) : Int32 := if x1 < 0 then 0 else (if ln ≤ x1 then 0 else 1)
theorem mm_isPosition_in {x1 ln : Int32} {z1 zs : Int} (h : ¬ mm_isPosition x1 ln = 0) (v1 : gk_v x1 z1) (vs : gk_v ln zs) : 0 ≤ z1 ∧ z1 < zs := by
  rw [mm_isPosition] at h
  by_cases c1 : x1 < 0
  · rw [if_pos c1] at h; exact absurd rfl h
  · rw [if_neg c1] at h
    have h1 := gk_nlt v1 (show gk_v 0 0 from rfl) c1
    by_cases c2 : ln ≤ x1
    · rw [if_pos c2] at h; exact absurd rfl h
    · have h2 := gk_nle vs v1 c2
      omega
def rm_isPosition : Room := { frames := 0, cells := 0, slots := 0, locals := 0 }
set_option maxHeartbeats 4000000 in
set_option maxRecDepth 100000 in
theorem c_isPosition (l : Launch) (D : va_G) (cI : ClassId) (cL : ClassId × ClassId) (h : Nat → Nat) (tx cs rl gv fa1 la1 va1 : Nat → Int32) (mn1 : Int32) (fa2 la2 va2 : Nat → Int32) (mn2 : Int32) (fa3 la3 va3 : Nat → Int32) (mn3 b1 b2 b3 b4 b5 b6 ln lo kn x1 : Int32) : gk_I l y_isPosition (.code y_isPosition b_isPosition 2 (some .boolean) :: wA) rm_isPosition D vwCl (gk_T cI cL) [.ref (h 0), .int x1] (wd_P cI h tx cs rl gv fa1 la1 va1 mn1 fa2 la2 va2 mn2 fa3 la3 va3 mn3 b1 b2 b3 b4 b5 b6 ln lo kn) (fun (r : Int32) (_ : Unit) => r = mm_isPosition x1 ln) (fun (_ : Unit) => (wd_P cI h tx cs rl gv fa1 la1 va1 mn1 fa2 la2 va2 mn2 fa3 la3 va3 mn3 b1 b2 b3 b4 b5 b6 ln lo kn)) 0 0 := by
  refine gk_I.of (by decide) (Nat.le_of_ble_eq_true rfl) ?_
  intro p e s m below meth c A ls Q H locs hx hb hml hown hts hW hl X
  have hl : lv_has ls 2 [(0, .ref (h 0)), (1, .int x1)] := hl
  obtain ⟨tgt, heq⟩ : ∃ t, mm_isPosition x1 ln = t := ⟨_, rfl⟩
  rw [heq] at X
  rw [mm_isPosition] at heq
  refine lv_iload_n hx hb d_isPosition_0 rfl (lv_at hl 1 rfl) ?_
  refine lv_if_lt (tgt := 16) hx hb d_isPosition_1 (by decide) (fun c_1 => ?_) (fun c_1 => ?_)
  · replace heq := (if_pos c_1).symm.trans heq
    refine lv_iconst (v := 0) hx hb d_isPosition_16 (by decide) ?_
    exact X _ () H locs 0 0 17 ls heq hW d_isPosition_17 rfl (Nat.le_of_ble_eq_true rfl) (Nat.le_of_ble_eq_true rfl)
  · replace heq := (if_neg c_1).symm.trans heq
    refine lv_iload_n hx hb d_isPosition_4 rfl (lv_at hl 1 rfl) ?_
    refine lv_aload_n hx hb d_isPosition_5 rfl (lv_at hl 0 rfl) ?_
    refine va_get (D := D) (C := R_P) (T := F_P) (N := 11) hx hb hts i_P hown hW.1 hW.2.1 0 rfl rfl 8 (by decide) (hts _ w_42) (fun _ h9 => h9) rfl d_isPosition_6 ?_
    refine lv_icmp_ge (tgt := 16) hx hb d_isPosition_9 (by decide) (fun c_2 => ?_) (fun c_2 => ?_)
    · replace heq := (if_pos c_2).symm.trans heq
      refine lv_iconst (v := 0) hx hb d_isPosition_16 (by decide) ?_
      exact X _ () H locs 0 0 17 ls heq hW d_isPosition_17 rfl (Nat.le_of_ble_eq_true rfl) (Nat.le_of_ble_eq_true rfl)
    · replace heq := (if_neg c_2).symm.trans heq
      refine lv_iconst (v := 1) hx hb d_isPosition_12 (by decide) ?_
      refine lv_goto (tgt := 17) hx hb d_isPosition_13 (by decide) ?_
      exact X _ () H locs 0 0 17 ls heq hW d_isPosition_17 rfl (Nat.le_of_ble_eq_true rfl) (Nat.le_of_ble_eq_true rfl)
def mm_isPlace (x1 ln : Int32) : Int32 := if x1 < 0 then 0 else (if ln < x1 then 0 else 1)
theorem mm_isPlace_in {x1 ln : Int32} {z1 zs : Int} (h : ¬ mm_isPlace x1 ln = 0) (v1 : gk_v x1 z1) (vs : gk_v ln zs) : 0 ≤ z1 ∧ z1 ≤ zs := by
  rw [mm_isPlace] at h
  by_cases c1 : x1 < 0
  · rw [if_pos c1] at h; exact absurd rfl h
  · rw [if_neg c1] at h
    have h1 := gk_nlt v1 (show gk_v 0 0 from rfl) c1
    by_cases c2 : ln < x1
    · rw [if_pos c2] at h; exact absurd rfl h
    · have h2 := gk_nlt vs v1 c2
      omega
def rm_isPlace : Room := { frames := 0, cells := 0, slots := 0, locals := 0 }
set_option maxHeartbeats 4000000 in
set_option maxRecDepth 100000 in
theorem c_isPlace (l : Launch) (D : va_G) (cI : ClassId) (cL : ClassId × ClassId) (h : Nat → Nat) (tx cs rl gv fa1 la1 va1 : Nat → Int32) (mn1 : Int32) (fa2 la2 va2 : Nat → Int32) (mn2 : Int32) (fa3 la3 va3 : Nat → Int32) (mn3 b1 b2 b3 b4 b5 b6 ln lo kn x1 : Int32) : gk_I l y_isPlace (.code y_isPlace b_isPlace 2 (some .boolean) :: wA) rm_isPlace D vwCl (gk_T cI cL) [.ref (h 0), .int x1] (wd_P cI h tx cs rl gv fa1 la1 va1 mn1 fa2 la2 va2 mn2 fa3 la3 va3 mn3 b1 b2 b3 b4 b5 b6 ln lo kn) (fun (r : Int32) (_ : Unit) => r = mm_isPlace x1 ln) (fun (_ : Unit) => (wd_P cI h tx cs rl gv fa1 la1 va1 mn1 fa2 la2 va2 mn2 fa3 la3 va3 mn3 b1 b2 b3 b4 b5 b6 ln lo kn)) 0 0 := by
  refine gk_I.of (by decide) (Nat.le_of_ble_eq_true rfl) ?_
  intro p e s m below meth c A ls Q H locs hx hb hml hown hts hW hl X
  have hl : lv_has ls 2 [(0, .ref (h 0)), (1, .int x1)] := hl
  obtain ⟨tgt, heq⟩ : ∃ t, mm_isPlace x1 ln = t := ⟨_, rfl⟩
  rw [heq] at X
  rw [mm_isPlace] at heq
  refine lv_iload_n hx hb d_isPlace_0 rfl (lv_at hl 1 rfl) ?_
  refine lv_if_lt (tgt := 16) hx hb d_isPlace_1 (by decide) (fun c_1 => ?_) (fun c_1 => ?_)
  · replace heq := (if_pos c_1).symm.trans heq
    refine lv_iconst (v := 0) hx hb d_isPlace_16 (by decide) ?_
    exact X _ () H locs 0 0 17 ls heq hW d_isPlace_17 rfl (Nat.le_of_ble_eq_true rfl) (Nat.le_of_ble_eq_true rfl)
  · replace heq := (if_neg c_1).symm.trans heq
    refine lv_iload_n hx hb d_isPlace_4 rfl (lv_at hl 1 rfl) ?_
    refine lv_aload_n hx hb d_isPlace_5 rfl (lv_at hl 0 rfl) ?_
    refine va_get (D := D) (C := R_P) (T := F_P) (N := 11) hx hb hts i_P hown hW.1 hW.2.1 0 rfl rfl 8 (by decide) (hts _ w_42) (fun _ h9 => h9) rfl d_isPlace_6 ?_
    refine lv_icmp_gt (tgt := 16) hx hb d_isPlace_9 (by decide) (fun c_2 => ?_) (fun c_2 => ?_)
    · replace heq := (if_pos c_2).symm.trans heq
      refine lv_iconst (v := 0) hx hb d_isPlace_16 (by decide) ?_
      exact X _ () H locs 0 0 17 ls heq hW d_isPlace_17 rfl (Nat.le_of_ble_eq_true rfl) (Nat.le_of_ble_eq_true rfl)
    · replace heq := (if_neg c_2).symm.trans heq
      refine lv_iconst (v := 1) hx hb d_isPlace_12 (by decide) ?_
      refine lv_goto (tgt := 17) hx hb d_isPlace_13 (by decide) ?_
      exact X _ () H locs 0 0 17 ls heq hW d_isPlace_17 rfl (Nat.le_of_ble_eq_true rfl) (Nat.le_of_ble_eq_true rfl)
def mm_forgetRules (b1 b2 b3 b4 b5 b6 kn : Int32) : Int32 × Int32 × Int32 × Int32 × Int32 × Int32 × Int32 := match (mm_bStart b1 b2 b3 b4 b5 b6) with | (u_1, u_2, u_3, u_4, u_5, u_6) => (u_1, u_2, u_3, u_4, u_5, u_6, 0)
def rm_forgetRules : Room := { frames := 1, cells := 0, slots := 0, locals := 20 }
set_option maxHeartbeats 4000000 in
set_option maxRecDepth 100000 in
theorem c_forgetRules (l : Launch) (D : va_G) (cI : ClassId) (cL : ClassId × ClassId) (h : Nat → Nat) (tx cs rl gv fa1 la1 va1 : Nat → Int32) (mn1 : Int32) (fa2 la2 va2 : Nat → Int32) (mn2 : Int32) (fa3 la3 va3 : Nat → Int32) (mn3 b1 b2 b3 b4 b5 b6 ln lo kn : Int32) : gk_V l y_forgetRules (.code y_forgetRules b_forgetRules 1 none :: wA) rm_forgetRules D vwCl (gk_T cI cL) [.ref (h 0)] (wd_P cI h tx cs rl gv fa1 la1 va1 mn1 fa2 la2 va2 mn2 fa3 la3 va3 mn3 b1 b2 b3 b4 b5 b6 ln lo kn) (fun (u : Int32 × Int32 × Int32 × Int32 × Int32 × Int32 × Int32) => u = mm_forgetRules b1 b2 b3 b4 b5 b6 kn) (fun u => (wd_P cI h tx cs rl gv fa1 la1 va1 mn1 fa2 la2 va2 mn2 fa3 la3 va3 mn3 u.1 u.2.1 u.2.2.1 u.2.2.2.1 u.2.2.2.2.1 u.2.2.2.2.2.1 ln lo u.2.2.2.2.2.2)) 0 0 := by
  refine gk_V.of (by decide) (Nat.le_of_ble_eq_true rfl) ?_
  intro p e s m below meth c A ls Q H locs hx hb hml hown hts hin hW hl X
  have hl : lv_has ls 1 [(0, .ref (h 0))] := hl
  obtain ⟨tgt, heq⟩ : ∃ t, mm_forgetRules b1 b2 b3 b4 b5 b6 kn = t := ⟨_, rfl⟩
  rw [heq] at X
  rw [mm_forgetRules] at heq
  refine lv_aload_n hx hb d_forgetRules_0 rfl (lv_at hl 0 rfl) ?_
  refine lv_iconst (v := 0) hx hb d_forgetRules_1 (by decide) ?_
  refine va_put (D := D) (ci := 0) (v := .int 0) (ty := .int) (C := R_P) (T := F_P) (N := 11) hx hb hts i_P t_P t_P_ok n_P hown hW.1 hW.2.1 hW.2.2.1 hW.2.2.2.1 0 rfl rfl 10 (by decide) (hts _ w_43) (fun _ h9 => h9) rfl (by decide +kernel) rfl rfl (Nat.le_of_ble_eq_true rfl) d_forgetRules_2 (fun H locs hP hD hS => ?_)
  have hW : gk_W D vwCl (gk_T cI cL) s A H locs (wd_P cI h tx cs rl gv fa1 la1 va1 mn1 fa2 la2 va2 mn2 fa3 la3 va3 mn3 b1 b2 b3 b4 b5 b6 ln lo 0) := ⟨hW.1, hP, hD, hS, hW.2.2.2.2⟩
  refine lv_aload_n hx hb d_forgetRules_5 rfl (lv_at hl 0 rfl) ?_
  refine va_get (D := D) (C := R_P) (T := F_P) (N := 11) hx hb hts i_P hown hW.1 hW.2.1 0 rfl rfl 7 (by decide) (hts _ w_44) (fun _ h9 => h9) rfl d_forgetRules_6 ?_
  refine gk_goV (wr := [((h 0), .inr (0, [.ref (h 1), .ref (h 2), .ref (h 3), .ref (h 4), .ref (h 5), .ref (h 9), .ref (h 13), .ref (h 17), .int ln, .int lo, .int 0])), ((h 1), .inl (cI, 2000, .inl tx)), ((h 2), .inl (cI, 2000, .inl cs)), ((h 3), .inl (cI, 2000, .inl rl)), ((h 4), .inl (cI, 5, .inl gv)), ((h 5), .inr (1, [.ref (h 6), .ref (h 7), .ref (h 8), .int mn1])), ((h 6), .inl (cI, 100, .inl fa1)), ((h 7), .inl (cI, 100, .inl la1)), ((h 8), .inl (cI, 100, .inl va1)), ((h 9), .inr (1, [.ref (h 10), .ref (h 11), .ref (h 12), .int mn2])), ((h 10), .inl (cI, 40, .inl fa2)), ((h 11), .inl (cI, 40, .inl la2)), ((h 12), .inl (cI, 40, .inl va2)), ((h 13), .inr (1, [.ref (h 14), .ref (h 15), .ref (h 16), .int mn3])), ((h 14), .inl (cI, 40, .inl fa3)), ((h 15), .inl (cI, 40, .inl la3)), ((h 16), .inl (cI, 40, .inl va3))]) hW [17] [0, 1, 2, 3, 4, 5, 6, 7, 8, 9, 10, 11, 12, 13, 14, 15, 16] rfl rfl (by decide) (by decide) (va_runVN (As := []) (rest := []) ⟨hx, hb, hml, hown, hts⟩ (c_bStart l D cI cL (h 17) b1 b2 b3 b4 b5 b6 _) (gk_cwVN hts hW.2.2.2.2.2 w_45 w_46 w_47 w_39 k_bStart e_bStart rfl rfl ⟨Nat.le_of_ble_eq_true rfl, Nat.le_of_ble_eq_true rfl⟩) (gk_preV hW [17] rfl rfl rfl rfl) rfl rfl hl.1 rfl (lv_room (Nat.le_of_ble_eq_true rfl)) d_forgetRules_9 ⟨Nat.le_of_ble_eq_true rfl, Nat.le_of_ble_eq_true rfl⟩) (fun u H locs p_7 hW => ?_)
  obtain ⟨u_1, u_2, u_3, u_4, u_5, u_6⟩ := u
  have hW : gk_W D vwCl (gk_T cI cL) s A H locs (wd_P cI h tx cs rl gv fa1 la1 va1 mn1 fa2 la2 va2 mn2 fa3 la3 va3 mn3 u_1 u_2 u_3 u_4 u_5 u_6 ln lo 0) := hW.re [0, 1, 2, 3, 4, 5, 6, 7, 8, 9, 10, 11, 12, 13, 14, 15, 16, 17] (by decide) rfl
  rw [← p_7] at heq
  dsimp only at heq
  exact X (u_1, u_2, u_3, u_4, u_5, u_6, 0) H locs 0 0 12 ls heq hW d_forgetRules_12 (Nat.le_of_ble_eq_true rfl) (Nat.le_of_ble_eq_true rfl)
def mm_kindAt (x1 : Int32) (cs : Nat → Int32) (lo : Int32) : Int32 := if cs x1.toNatClampNeg = 38 then 27 else (if cs x1.toNatClampNeg = 39 then 27 else (if cs x1.toNatClampNeg = 40 then 27 else (if cs x1.toNatClampNeg = 41 then 27 else (if cs x1.toNatClampNeg = 42 then 8 else (if cs x1.toNatClampNeg = 43 then (if lo = 0 then 19 else 29) else (cs x1.toNatClampNeg))))))
def rm_kindAt : Room := { frames := 0, cells := 0, slots := 0, locals := 0 }
set_option maxHeartbeats 4000000 in
set_option maxRecDepth 100000 in
theorem c_kindAt (l : Launch) (D : va_G) (cI : ClassId) (cL : ClassId × ClassId) (h : Nat → Nat) (tx cs rl gv fa1 la1 va1 : Nat → Int32) (mn1 : Int32) (fa2 la2 va2 : Nat → Int32) (mn2 : Int32) (fa3 la3 va3 : Nat → Int32) (mn3 b1 b2 b3 b4 b5 b6 ln lo kn x1 : Int32) (z_x1 : Int) (v_x1 : gk_v x1 z_x1) (hx1 : 0 ≤ z_x1 ∧ z_x1 < 2000) : gk_I l y_kindAt (.code y_kindAt b_kindAt 2 (some .int) :: wA) rm_kindAt D vwCl (gk_T cI cL) [.ref (h 0), .int x1] (wd_P cI h tx cs rl gv fa1 la1 va1 mn1 fa2 la2 va2 mn2 fa3 la3 va3 mn3 b1 b2 b3 b4 b5 b6 ln lo kn) (fun (r : Int32) (_ : Unit) => r = mm_kindAt x1 cs lo) (fun (_ : Unit) => (wd_P cI h tx cs rl gv fa1 la1 va1 mn1 fa2 la2 va2 mn2 fa3 la3 va3 mn3 b1 b2 b3 b4 b5 b6 ln lo kn)) 0 0 := by
  refine gk_I.of (by decide) (Nat.le_of_ble_eq_true rfl) ?_
  intro p e s m below meth c A ls Q H locs hx hb hml hown hts hW hl X
  have hl : lv_has ls 2 [(0, .ref (h 0)), (1, .int x1)] := hl
  obtain ⟨tgt, heq⟩ : ∃ t, mm_kindAt x1 cs lo = t := ⟨_, rfl⟩
  rw [heq] at X
  rw [mm_kindAt] at heq
  obtain ⟨z_lo, v_lo⟩ := gk_vex lo
  refine lv_aload_n hx hb d_kindAt_0 rfl (lv_at hl 0 rfl) ?_
  refine va_get (D := D) (C := R_P) (T := F_P) (N := 11) hx hb hts i_P hown hW.1 hW.2.1 0 rfl rfl 1 (by decide) (hts _ w_48) (fun _ h9 => h9) rfl d_kindAt_1 ?_
  refine lv_iload_n hx hb d_kindAt_4 rfl (lv_at hl 1 rfl) ?_
  refine va_iald hx hb hW.1 hW.2.1 2 0 rfl rfl (i := x1) (gk_in v_x1 (by omega) (by omega)) d_kindAt_5 ?_
  by_cases c_1 : cs x1.toNatClampNeg = 38
  · replace heq := (if_pos c_1).symm.trans heq
    refine lv_tableIn (off := 38) (tgt := 44) hx hb d_kindAt_6 (by rw [c_1]; decide) (by rw [c_1]; decide) (by rw [c_1]; rfl) (by decide) ?_
    refine lv_bipush (v := 27) hx hb d_kindAt_44 (by decide) ?_
    exact X _ () H locs 0 0 46 ls heq hW d_kindAt_46 rfl (Nat.le_of_ble_eq_true rfl) (Nat.le_of_ble_eq_true rfl)
  replace heq := (if_neg c_1).symm.trans heq
  by_cases c_2 : cs x1.toNatClampNeg = 39
  · replace heq := (if_pos c_2).symm.trans heq
    refine lv_tableIn (off := 38) (tgt := 44) hx hb d_kindAt_6 (by rw [c_2]; decide) (by rw [c_2]; decide) (by rw [c_2]; rfl) (by decide) ?_
    refine lv_bipush (v := 27) hx hb d_kindAt_44 (by decide) ?_
    exact X _ () H locs 0 0 46 ls heq hW d_kindAt_46 rfl (Nat.le_of_ble_eq_true rfl) (Nat.le_of_ble_eq_true rfl)
  replace heq := (if_neg c_2).symm.trans heq
  by_cases c_3 : cs x1.toNatClampNeg = 40
  · replace heq := (if_pos c_3).symm.trans heq
    refine lv_tableIn (off := 38) (tgt := 44) hx hb d_kindAt_6 (by rw [c_3]; decide) (by rw [c_3]; decide) (by rw [c_3]; rfl) (by decide) ?_
    refine lv_bipush (v := 27) hx hb d_kindAt_44 (by decide) ?_
    exact X _ () H locs 0 0 46 ls heq hW d_kindAt_46 rfl (Nat.le_of_ble_eq_true rfl) (Nat.le_of_ble_eq_true rfl)
  replace heq := (if_neg c_3).symm.trans heq
  by_cases c_4 : cs x1.toNatClampNeg = 41
  · replace heq := (if_pos c_4).symm.trans heq
    refine lv_tableIn (off := 38) (tgt := 44) hx hb d_kindAt_6 (by rw [c_4]; decide) (by rw [c_4]; decide) (by rw [c_4]; rfl) (by decide) ?_
    refine lv_bipush (v := 27) hx hb d_kindAt_44 (by decide) ?_
    exact X _ () H locs 0 0 46 ls heq hW d_kindAt_46 rfl (Nat.le_of_ble_eq_true rfl) (Nat.le_of_ble_eq_true rfl)
  replace heq := (if_neg c_4).symm.trans heq
  by_cases c_5 : cs x1.toNatClampNeg = 42
  · replace heq := (if_pos c_5).symm.trans heq
    refine lv_tableIn (off := 41) (tgt := 47) hx hb d_kindAt_6 (by rw [c_5]; decide) (by rw [c_5]; decide) (by rw [c_5]; rfl) (by decide) ?_
    refine lv_bipush (v := 8) hx hb d_kindAt_47 (by decide) ?_
    exact X _ () H locs 0 0 49 ls heq hW d_kindAt_49 rfl (Nat.le_of_ble_eq_true rfl) (Nat.le_of_ble_eq_true rfl)
  replace heq := (if_neg c_5).symm.trans heq
  by_cases c_6 : cs x1.toNatClampNeg = 43
  · replace heq := (if_pos c_6).symm.trans heq
    refine lv_tableIn (off := 44) (tgt := 50) hx hb d_kindAt_6 (by rw [c_6]; decide) (by rw [c_6]; decide) (by rw [c_6]; rfl) (by decide) ?_
    refine lv_aload_n hx hb d_kindAt_50 rfl (lv_at hl 0 rfl) ?_
    refine va_get (D := D) (C := R_P) (T := F_P) (N := 11) hx hb hts i_P hown hW.1 hW.2.1 0 rfl rfl 9 (by decide) (hts _ w_49) (fun _ h9 => h9) rfl d_kindAt_51 ?_
    refine lv_if_eq (tgt := 62) hx hb d_kindAt_54 (by decide) (fun c_7 => ?_) (fun c_7 => ?_)
    · replace heq := (if_pos c_7).symm.trans heq
      refine lv_bipush (v := 19) hx hb d_kindAt_62 (by decide) ?_
      exact X _ () H locs 0 0 64 ls heq hW d_kindAt_64 rfl (Nat.le_of_ble_eq_true rfl) (Nat.le_of_ble_eq_true rfl)
    · replace heq := (if_neg c_7).symm.trans heq
      refine lv_bipush (v := 29) hx hb d_kindAt_57 (by decide) ?_
      refine lv_goto (tgt := 64) hx hb d_kindAt_59 (by decide) ?_
      exact X _ () H locs 0 0 64 ls heq hW d_kindAt_64 rfl (Nat.le_of_ble_eq_true rfl) (Nat.le_of_ble_eq_true rfl)
  replace heq := (if_neg c_6).symm.trans heq
  refine lv_tableOut (tgt := 65) hx hb d_kindAt_6 (by have nc_1 := lv_neT (a := 38) c_1 rfl; have nc_2 := lv_neT (a := 39) c_2 rfl; have nc_3 := lv_neT (a := 40) c_3 rfl; have nc_4 := lv_neT (a := 41) c_4 rfl; have nc_5 := lv_neT (a := 42) c_5 rfl; have nc_6 := lv_neT (a := 43) c_6 rfl; omega) (by decide) ?_
  refine lv_aload_n hx hb d_kindAt_65 rfl (lv_at hl 0 rfl) ?_
  refine va_get (D := D) (C := R_P) (T := F_P) (N := 11) hx hb hts i_P hown hW.1 hW.2.1 0 rfl rfl 1 (by decide) (hts _ w_48) (fun _ h9 => h9) rfl d_kindAt_66 ?_
  refine lv_iload_n hx hb d_kindAt_69 rfl (lv_at hl 1 rfl) ?_
  refine va_iald hx hb hW.1 hW.2.1 2 0 rfl rfl (i := x1) (gk_in v_x1 (by omega) (by omega)) d_kindAt_70 ?_
  exact X _ () H locs 0 0 71 ls heq hW d_kindAt_71 rfl (Nat.le_of_ble_eq_true rfl) (Nat.le_of_ble_eq_true rfl)
def mm_isBetween (x1 : Int32) (cs : Nat → Int32) (ln lo : Int32) : Int32 := if x1 ≤ 0 then 0 else (if ln ≤ x1 then 0 else (if (mm_kindAt (x1 - 1) cs lo) = 1 then (if (mm_kindAt x1 cs lo) = 2 then 1 else 0) else 0))
def rm_isBetween : Room := { frames := 1, cells := 0, slots := 0, locals := 21 }
set_option maxHeartbeats 4000000 in
set_option maxRecDepth 100000 in
theorem c_isBetween (l : Launch) (D : va_G) (cI : ClassId) (cL : ClassId × ClassId) (h : Nat → Nat) (tx cs rl gv fa1 la1 va1 : Nat → Int32) (mn1 : Int32) (fa2 la2 va2 : Nat → Int32) (mn2 : Int32) (fa3 la3 va3 : Nat → Int32) (mn3 b1 b2 b3 b4 b5 b6 ln lo kn x1 : Int32) (z_ln : Int) (v_ln : gk_v ln z_ln) (hln : 0 ≤ z_ln ∧ z_ln ≤ 2000) : gk_I l y_isBetween (.code y_isBetween b_isBetween 2 (some .boolean) :: wA) rm_isBetween D vwCl (gk_T cI cL) [.ref (h 0), .int x1] (wd_P cI h tx cs rl gv fa1 la1 va1 mn1 fa2 la2 va2 mn2 fa3 la3 va3 mn3 b1 b2 b3 b4 b5 b6 ln lo kn) (fun (r : Int32) (_ : Unit) => r = mm_isBetween x1 cs ln lo) (fun (_ : Unit) => (wd_P cI h tx cs rl gv fa1 la1 va1 mn1 fa2 la2 va2 mn2 fa3 la3 va3 mn3 b1 b2 b3 b4 b5 b6 ln lo kn)) 0 0 := by
  refine gk_I.of (by decide) (Nat.le_of_ble_eq_true rfl) ?_
  intro p e s m below meth c A ls Q H locs hx hb hml hown hts hW hl X
  have hl : lv_has ls 2 [(0, .ref (h 0)), (1, .int x1)] := hl
  obtain ⟨tgt, heq⟩ : ∃ t, mm_isBetween x1 cs ln lo = t := ⟨_, rfl⟩
  rw [heq] at X
  rw [mm_isBetween] at heq
  obtain ⟨z_x1, v_x1⟩ := gk_vex x1
  obtain ⟨z_lo, v_lo⟩ := gk_vex lo
  refine lv_iload_n hx hb d_isBetween_0 rfl (lv_at hl 1 rfl) ?_
  refine lv_if_le (tgt := 36) hx hb d_isBetween_1 (by decide) (fun c_1 => ?_) (fun c_1 => ?_)
  · replace heq := (if_pos c_1).symm.trans heq
    have ic_1 := gk_le v_x1 (show gk_v 0 0 from rfl) c_1
    refine lv_iconst (v := 0) hx hb d_isBetween_36 (by decide) ?_
    exact X _ () H locs 0 0 37 ls heq hW d_isBetween_37 rfl (Nat.le_of_ble_eq_true rfl) (Nat.le_of_ble_eq_true rfl)
  · replace heq := (if_neg c_1).symm.trans heq
    have ic_1 := gk_nle v_x1 (show gk_v 0 0 from rfl) c_1
    refine lv_iload_n hx hb d_isBetween_4 rfl (lv_at hl 1 rfl) ?_
    refine lv_aload_n hx hb d_isBetween_5 rfl (lv_at hl 0 rfl) ?_
    refine va_get (D := D) (C := R_P) (T := F_P) (N := 11) hx hb hts i_P hown hW.1 hW.2.1 0 rfl rfl 8 (by decide) (hts _ w_42) (fun _ h9 => h9) rfl d_isBetween_6 ?_
    refine lv_icmp_ge (tgt := 36) hx hb d_isBetween_9 (by decide) (fun c_2 => ?_) (fun c_2 => ?_)
    · replace heq := (if_pos c_2).symm.trans heq
      have ic_2 := gk_le v_ln v_x1 c_2
      refine lv_iconst (v := 0) hx hb d_isBetween_36 (by decide) ?_
      exact X _ () H locs 0 0 37 ls heq hW d_isBetween_37 rfl (Nat.le_of_ble_eq_true rfl) (Nat.le_of_ble_eq_true rfl)
    · replace heq := (if_neg c_2).symm.trans heq
      have ic_2 := gk_nle v_ln v_x1 c_2
      refine lv_aload_n hx hb d_isBetween_12 rfl (lv_at hl 0 rfl) ?_
      refine lv_iload_n hx hb d_isBetween_13 rfl (lv_at hl 1 rfl) ?_
      refine lv_iconst (v := 1) hx hb d_isBetween_14 (by decide) ?_
      refine lv_isub hx hb d_isBetween_15 ?_
      obtain ⟨zt_3, vt_3, et_3⟩ := gk_sub v_x1 (show gk_v 1 1 from rfl) (by omega) (by omega)
      refine gk_goR hW [0, 1, 2, 3, 4, 5, 6, 7, 8, 9, 10, 11, 12, 13, 14, 15, 16, 17] rfl (va_runV (As := [.int (x1 - 1)]) (rest := []) ⟨hx, hb, hml, hown, hts⟩ (c_kindAt l D cI cL h tx cs rl gv fa1 la1 va1 mn1 fa2 la2 va2 mn2 fa3 la3 va3 mn3 b1 b2 b3 b4 b5 b6 ln lo kn (x1 - 1) zt_3 vt_3 (by omega) _) (gk_cwV hts w_50 w_51 w_52 w_3 k_kindAt rfl e_kindAt rfl rfl ⟨Nat.le_of_ble_eq_true rfl, Nat.le_of_ble_eq_true rfl⟩) (gk_preV hW [0, 1, 2, 3, 4, 5, 6, 7, 8, 9, 10, 11, 12, 13, 14, 15, 16, 17] rfl rfl rfl rfl) rfl rfl hl.1 rfl (lv_room (Nat.le_of_ble_eq_true rfl)) d_isBetween_16 ⟨Nat.le_of_ble_eq_true rfl, Nat.le_of_ble_eq_true rfl⟩) (fun H locs hW => ?_)
      refine lv_iconst (v := 1) hx hb d_isBetween_19 (by decide) ?_
      refine lv_icmp_ne (tgt := 36) hx hb d_isBetween_20 (by decide) (fun c_4 => ?_) (fun c_4 => ?_)
      · replace heq := (if_neg c_4).symm.trans heq
        refine lv_iconst (v := 0) hx hb d_isBetween_36 (by decide) ?_
        exact X _ () H locs 0 0 37 ls heq hW d_isBetween_37 rfl (Nat.le_of_ble_eq_true rfl) (Nat.le_of_ble_eq_true rfl)
      · replace heq := (if_pos c_4).symm.trans heq
        refine lv_aload_n hx hb d_isBetween_23 rfl (lv_at hl 0 rfl) ?_
        refine lv_iload_n hx hb d_isBetween_24 rfl (lv_at hl 1 rfl) ?_
        refine gk_goR hW [0, 1, 2, 3, 4, 5, 6, 7, 8, 9, 10, 11, 12, 13, 14, 15, 16, 17] rfl (va_runV (As := [.int x1]) (rest := []) ⟨hx, hb, hml, hown, hts⟩ (c_kindAt l D cI cL h tx cs rl gv fa1 la1 va1 mn1 fa2 la2 va2 mn2 fa3 la3 va3 mn3 b1 b2 b3 b4 b5 b6 ln lo kn x1 z_x1 v_x1 (by omega) _) (gk_cwV hts w_50 w_51 w_52 w_3 k_kindAt rfl e_kindAt rfl rfl ⟨Nat.le_of_ble_eq_true rfl, Nat.le_of_ble_eq_true rfl⟩) (gk_preV hW [0, 1, 2, 3, 4, 5, 6, 7, 8, 9, 10, 11, 12, 13, 14, 15, 16, 17] rfl rfl rfl rfl) rfl rfl hl.1 rfl (lv_room (Nat.le_of_ble_eq_true rfl)) d_isBetween_25 ⟨Nat.le_of_ble_eq_true rfl, Nat.le_of_ble_eq_true rfl⟩) (fun H locs hW => ?_)
        refine lv_iconst (v := 2) hx hb d_isBetween_28 (by decide) ?_
        refine lv_icmp_ne (tgt := 36) hx hb d_isBetween_29 (by decide) (fun c_5 => ?_) (fun c_5 => ?_)
        · replace heq := (if_neg c_5).symm.trans heq
          refine lv_iconst (v := 0) hx hb d_isBetween_36 (by decide) ?_
          exact X _ () H locs 0 0 37 ls heq hW d_isBetween_37 rfl (Nat.le_of_ble_eq_true rfl) (Nat.le_of_ble_eq_true rfl)
        · replace heq := (if_pos c_5).symm.trans heq
          refine lv_iconst (v := 1) hx hb d_isBetween_32 (by decide) ?_
          refine lv_goto (tgt := 37) hx hb d_isBetween_33 (by decide) ?_
          exact X _ () H locs 0 0 37 ls heq hW d_isBetween_37 rfl (Nat.le_of_ble_eq_true rfl) (Nat.le_of_ble_eq_true rfl)
def mm_ruleOfSpaces (x1 b1 b5 : Int32) : Int32 := if b1 = 0 then 40 else (if (mm_isIn b1 15) = 0 then (if (mm_isIn x1 15) = 0 then (if (mm_isIn x1 48) = 0 then (if b5 = 5 then 80 else (if b1 = 7 then 81 else (if (mm_bLeavesout x1 b1) = 0 then 0 else 90))) else 70) else 60) else 50)
def rm_ruleOfSpaces : Room := { frames := 2, cells := 0, slots := 0, locals := 43 }
set_option maxHeartbeats 4000000 in
set_option maxRecDepth 100000 in
theorem c_ruleOfSpaces (l : Launch) (D : va_G) (cI : ClassId) (cL : ClassId × ClassId) (h : Nat → Nat) (tx cs rl gv fa1 la1 va1 : Nat → Int32) (mn1 : Int32) (fa2 la2 va2 : Nat → Int32) (mn2 : Int32) (fa3 la3 va3 : Nat → Int32) (mn3 b1 b2 b3 b4 b5 b6 ln lo kn x1 : Int32) : gk_I l y_ruleOfSpaces (.code y_ruleOfSpaces b_ruleOfSpaces 2 (some .int) :: wA) rm_ruleOfSpaces D vwCl (gk_T cI cL) [.ref (h 0), .int x1] (wd_P cI h tx cs rl gv fa1 la1 va1 mn1 fa2 la2 va2 mn2 fa3 la3 va3 mn3 b1 b2 b3 b4 b5 b6 ln lo kn) (fun (r : Int32) (_ : Unit) => r = mm_ruleOfSpaces x1 b1 b5) (fun (_ : Unit) => (wd_P cI h tx cs rl gv fa1 la1 va1 mn1 fa2 la2 va2 mn2 fa3 la3 va3 mn3 b1 b2 b3 b4 b5 b6 ln lo kn)) 0 0 := by
  refine gk_I.of (by decide) (Nat.le_of_ble_eq_true rfl) ?_
  intro p e s m below meth c A ls Q H locs hx hb hml hown hts hW hl X
  have hl : lv_has ls 2 [(0, .ref (h 0)), (1, .int x1)] := hl
  obtain ⟨tgt, heq⟩ : ∃ t, mm_ruleOfSpaces x1 b1 b5 = t := ⟨_, rfl⟩
  rw [heq] at X
  rw [mm_ruleOfSpaces] at heq
  refine lv_aload_n hx hb d_ruleOfSpaces_0 rfl (lv_at hl 0 rfl) ?_
  refine va_get (D := D) (C := R_P) (T := F_P) (N := 11) hx hb hts i_P hown hW.1 hW.2.1 0 rfl rfl 7 (by decide) (hts _ w_44) (fun _ h9 => h9) rfl d_ruleOfSpaces_1 ?_
  refine va_getN (D := D) (C := R_B) (T := F_B) (N := 6) hx hb hts i_B hown hW.1 hW.2.1 17 rfl rfl 0 (by decide) (va_Nw.use rfl (hW.2.2.2.2.2.1 _ w_53)) (fun _ h9 => h9) rfl d_ruleOfSpaces_4 ?_
  refine lv_if_ne (tgt := 13) hx hb d_ruleOfSpaces_7 (by decide) (fun c_1 => ?_) (fun c_1 => ?_)
  · replace heq := (if_neg c_1).symm.trans heq
    refine lv_aload_n hx hb d_ruleOfSpaces_13 rfl (lv_at hl 0 rfl) ?_
    refine va_get (D := D) (C := R_P) (T := F_P) (N := 11) hx hb hts i_P hown hW.1 hW.2.1 0 rfl rfl 7 (by decide) (hts _ w_44) (fun _ h9 => h9) rfl d_ruleOfSpaces_14 ?_
    refine va_getN (D := D) (C := R_B) (T := F_B) (N := 6) hx hb hts i_B hown hW.1 hW.2.1 17 rfl rfl 0 (by decide) (va_Nw.use rfl (hW.2.2.2.2.2.1 _ w_53)) (fun _ h9 => h9) rfl d_ruleOfSpaces_17 ?_
    refine lv_ldc2 (v := 15) hx hb hown (hts _ w_54) d_ruleOfSpaces_20 ?_
    refine gk_goR hW [] rfl (va_runS (As := [.int b1, .long 15]) (rest := []) ⟨hx, hb, hml, hown, hts⟩ (c_isIn l D cI cL b1 15 _) (gk_cwS hts w_5 w_6 w_3 k_isIn rfl e_isIn rfl rfl ⟨Nat.le_of_ble_eq_true rfl, Nat.le_of_ble_eq_true rfl⟩) (gk_pre hW [] rfl rfl) rfl rfl hl.1 rfl (lv_room (Nat.le_of_ble_eq_true rfl)) d_ruleOfSpaces_23 ⟨Nat.le_of_ble_eq_true rfl, Nat.le_of_ble_eq_true rfl⟩) (fun H locs hW => ?_)
    refine lv_if_eq (tgt := 32) hx hb d_ruleOfSpaces_26 (by decide) (fun c_2 => ?_) (fun c_2 => ?_)
    · replace heq := (if_pos c_2).symm.trans heq
      refine lv_iload_n hx hb d_ruleOfSpaces_32 rfl (lv_at hl 1 rfl) ?_
      refine lv_ldc2 (v := 15) hx hb hown (hts _ w_54) d_ruleOfSpaces_33 ?_
      refine gk_goR hW [] rfl (va_runS (As := [.int x1, .long 15]) (rest := []) ⟨hx, hb, hml, hown, hts⟩ (c_isIn l D cI cL x1 15 _) (gk_cwS hts w_5 w_6 w_3 k_isIn rfl e_isIn rfl rfl ⟨Nat.le_of_ble_eq_true rfl, Nat.le_of_ble_eq_true rfl⟩) (gk_pre hW [] rfl rfl) rfl rfl hl.1 rfl (lv_room (Nat.le_of_ble_eq_true rfl)) d_ruleOfSpaces_36 ⟨Nat.le_of_ble_eq_true rfl, Nat.le_of_ble_eq_true rfl⟩) (fun H locs hW => ?_)
      refine lv_if_eq (tgt := 45) hx hb d_ruleOfSpaces_39 (by decide) (fun c_3 => ?_) (fun c_3 => ?_)
      · replace heq := (if_pos c_3).symm.trans heq
        refine lv_iload_n hx hb d_ruleOfSpaces_45 rfl (lv_at hl 1 rfl) ?_
        refine lv_ldc2 (v := 48) hx hb hown (hts _ w_55) d_ruleOfSpaces_46 ?_
        refine gk_goR hW [] rfl (va_runS (As := [.int x1, .long 48]) (rest := []) ⟨hx, hb, hml, hown, hts⟩ (c_isIn l D cI cL x1 48 _) (gk_cwS hts w_5 w_6 w_3 k_isIn rfl e_isIn rfl rfl ⟨Nat.le_of_ble_eq_true rfl, Nat.le_of_ble_eq_true rfl⟩) (gk_pre hW [] rfl rfl) rfl rfl hl.1 rfl (lv_room (Nat.le_of_ble_eq_true rfl)) d_ruleOfSpaces_49 ⟨Nat.le_of_ble_eq_true rfl, Nat.le_of_ble_eq_true rfl⟩) (fun H locs hW => ?_)
        refine lv_if_eq (tgt := 58) hx hb d_ruleOfSpaces_52 (by decide) (fun c_4 => ?_) (fun c_4 => ?_)
        · replace heq := (if_pos c_4).symm.trans heq
          refine lv_aload_n hx hb d_ruleOfSpaces_58 rfl (lv_at hl 0 rfl) ?_
          refine va_get (D := D) (C := R_P) (T := F_P) (N := 11) hx hb hts i_P hown hW.1 hW.2.1 0 rfl rfl 7 (by decide) (hts _ w_44) (fun _ h9 => h9) rfl d_ruleOfSpaces_59 ?_
          refine va_getN (D := D) (C := R_B) (T := F_B) (N := 6) hx hb hts i_B hown hW.1 hW.2.1 17 rfl rfl 4 (by decide) (va_Nw.use rfl (hW.2.2.2.2.2.1 _ w_56)) (fun _ h9 => h9) rfl d_ruleOfSpaces_62 ?_
          refine lv_iconst (v := 5) hx hb d_ruleOfSpaces_65 (by decide) ?_
          refine lv_icmp_ne (tgt := 72) hx hb d_ruleOfSpaces_66 (by decide) (fun c_5 => ?_) (fun c_5 => ?_)
          · replace heq := (if_neg c_5).symm.trans heq
            refine lv_aload_n hx hb d_ruleOfSpaces_72 rfl (lv_at hl 0 rfl) ?_
            refine va_get (D := D) (C := R_P) (T := F_P) (N := 11) hx hb hts i_P hown hW.1 hW.2.1 0 rfl rfl 7 (by decide) (hts _ w_44) (fun _ h9 => h9) rfl d_ruleOfSpaces_73 ?_
            refine va_getN (D := D) (C := R_B) (T := F_B) (N := 6) hx hb hts i_B hown hW.1 hW.2.1 17 rfl rfl 0 (by decide) (va_Nw.use rfl (hW.2.2.2.2.2.1 _ w_53)) (fun _ h9 => h9) rfl d_ruleOfSpaces_76 ?_
            refine lv_bipush (v := 7) hx hb d_ruleOfSpaces_79 (by decide) ?_
            refine lv_icmp_ne (tgt := 87) hx hb d_ruleOfSpaces_81 (by decide) (fun c_6 => ?_) (fun c_6 => ?_)
            · replace heq := (if_neg c_6).symm.trans heq
              refine lv_aload_n hx hb d_ruleOfSpaces_87 rfl (lv_at hl 0 rfl) ?_
              refine va_get (D := D) (C := R_P) (T := F_P) (N := 11) hx hb hts i_P hown hW.1 hW.2.1 0 rfl rfl 7 (by decide) (hts _ w_44) (fun _ h9 => h9) rfl d_ruleOfSpaces_88 ?_
              refine lv_iload_n hx hb d_ruleOfSpaces_91 rfl (lv_at hl 1 rfl) ?_
              refine gk_goR hW [17] rfl (va_runVN (As := [.int x1]) (rest := []) ⟨hx, hb, hml, hown, hts⟩ (c_bLeavesout l D cI cL (h 17) b1 b2 b3 b4 b5 b6 x1 _) (gk_cwVN hts hW.2.2.2.2.2 w_57 w_37 w_38 w_39 k_bLeavesout e_bLeavesout rfl rfl ⟨Nat.le_of_ble_eq_true rfl, Nat.le_of_ble_eq_true rfl⟩) (gk_preV hW [17] rfl rfl rfl rfl) rfl rfl hl.1 rfl (lv_room (Nat.le_of_ble_eq_true rfl)) d_ruleOfSpaces_92 ⟨Nat.le_of_ble_eq_true rfl, Nat.le_of_ble_eq_true rfl⟩) (fun H locs hW => ?_)
              refine lv_if_eq (tgt := 103) hx hb d_ruleOfSpaces_95 (by decide) (fun c_7 => ?_) (fun c_7 => ?_)
              · replace heq := (if_pos c_7).symm.trans heq
                refine lv_iconst (v := 0) hx hb d_ruleOfSpaces_103 (by decide) ?_
                exact X _ () H locs 0 0 104 ls heq hW d_ruleOfSpaces_104 rfl (Nat.le_of_ble_eq_true rfl) (Nat.le_of_ble_eq_true rfl)
              · replace heq := (if_neg c_7).symm.trans heq
                refine lv_bipush (v := 90) hx hb d_ruleOfSpaces_98 (by decide) ?_
                refine lv_goto (tgt := 104) hx hb d_ruleOfSpaces_100 (by decide) ?_
                exact X _ () H locs 0 0 104 ls heq hW d_ruleOfSpaces_104 rfl (Nat.le_of_ble_eq_true rfl) (Nat.le_of_ble_eq_true rfl)
            · replace heq := (if_pos c_6).symm.trans heq
              refine lv_bipush (v := 81) hx hb d_ruleOfSpaces_84 (by decide) ?_
              exact X _ () H locs 0 0 86 ls heq hW d_ruleOfSpaces_86 rfl (Nat.le_of_ble_eq_true rfl) (Nat.le_of_ble_eq_true rfl)
          · replace heq := (if_pos c_5).symm.trans heq
            refine lv_bipush (v := 80) hx hb d_ruleOfSpaces_69 (by decide) ?_
            exact X _ () H locs 0 0 71 ls heq hW d_ruleOfSpaces_71 rfl (Nat.le_of_ble_eq_true rfl) (Nat.le_of_ble_eq_true rfl)
        · replace heq := (if_neg c_4).symm.trans heq
          refine lv_bipush (v := 70) hx hb d_ruleOfSpaces_55 (by decide) ?_
          exact X _ () H locs 0 0 57 ls heq hW d_ruleOfSpaces_57 rfl (Nat.le_of_ble_eq_true rfl) (Nat.le_of_ble_eq_true rfl)
      · replace heq := (if_neg c_3).symm.trans heq
        refine lv_bipush (v := 60) hx hb d_ruleOfSpaces_42 (by decide) ?_
        exact X _ () H locs 0 0 44 ls heq hW d_ruleOfSpaces_44 rfl (Nat.le_of_ble_eq_true rfl) (Nat.le_of_ble_eq_true rfl)
    · replace heq := (if_neg c_2).symm.trans heq
      refine lv_bipush (v := 50) hx hb d_ruleOfSpaces_29 (by decide) ?_
      exact X _ () H locs 0 0 31 ls heq hW d_ruleOfSpaces_31 rfl (Nat.le_of_ble_eq_true rfl) (Nat.le_of_ble_eq_true rfl)
  · replace heq := (if_pos c_1).symm.trans heq
    refine lv_bipush (v := 40) hx hb d_ruleOfSpaces_10 (by decide) ?_
    exact X _ () H locs 0 0 12 ls heq hW d_ruleOfSpaces_12 rfl (Nat.le_of_ble_eq_true rfl) (Nat.le_of_ble_eq_true rfl)
def mm_ruleOfSigns_109 (x1 x2 b4 : Int32) : Int32 := if x2 = 18 then 220 else 0
def mm_ruleOfSigns_93 (x1 x2 b4 : Int32) : Int32 := if x1 = 26 then (if x2 = 28 then 212 else (mm_ruleOfSigns_109 x1 x2 b4)) else (mm_ruleOfSigns_109 x1 x2 b4)
def mm_ruleOfSigns (x1 x2 b4 : Int32) : Int32 := if x1 = 4 then 180 else (if x1 = 21 then 190 else (if x2 = 21 then 190 else (if x1 = 14 then 200 else (if x2 = 14 then 200 else (if (mm_isIn x2 10240) = 0 then (if x2 = 19 then 210 else (if x1 = 12 then 210 else (if (mm_isIn x1 10240) = 0 then (mm_ruleOfSigns_93 x1 x2 b4) else (if b4 = 28 then 211 else (mm_ruleOfSigns_93 x1 x2 b4))))) else 210)))))
def rm_ruleOfSigns : Room := { frames := 1, cells := 0, slots := 0, locals := 22 }
set_option maxHeartbeats 4000000 in
set_option maxRecDepth 100000 in
theorem c_ruleOfSigns (l : Launch) (D : va_G) (cI : ClassId) (cL : ClassId × ClassId) (h : Nat → Nat) (tx cs rl gv fa1 la1 va1 : Nat → Int32) (mn1 : Int32) (fa2 la2 va2 : Nat → Int32) (mn2 : Int32) (fa3 la3 va3 : Nat → Int32) (mn3 b1 b2 b3 b4 b5 b6 ln lo kn x1 x2 : Int32) : gk_I l y_ruleOfSigns (.code y_ruleOfSigns b_ruleOfSigns 3 (some .int) :: wA) rm_ruleOfSigns D vwCl (gk_T cI cL) [.ref (h 0), .int x1, .int x2] (wd_P cI h tx cs rl gv fa1 la1 va1 mn1 fa2 la2 va2 mn2 fa3 la3 va3 mn3 b1 b2 b3 b4 b5 b6 ln lo kn) (fun (r : Int32) (_ : Unit) => r = mm_ruleOfSigns x1 x2 b4) (fun (_ : Unit) => (wd_P cI h tx cs rl gv fa1 la1 va1 mn1 fa2 la2 va2 mn2 fa3 la3 va3 mn3 b1 b2 b3 b4 b5 b6 ln lo kn)) 0 0 := by
  refine gk_I.of (by decide) (Nat.le_of_ble_eq_true rfl) ?_
  intro p e s m below meth c A ls Q H locs hx hb hml hown hts hW hl X
  have hl : lv_has ls 3 [(0, .ref (h 0)), (1, .int x1), (2, .int x2)] := hl
  obtain ⟨tgt, heq⟩ : ∃ t, mm_ruleOfSigns x1 x2 b4 = t := ⟨_, rfl⟩
  rw [heq] at X
  rw [mm_ruleOfSigns] at heq
  have K109 : ∀ (H : Heap) (locs : List Loc) (ls : Array Slot), mm_ruleOfSigns_109 x1 x2 b4 = tgt → gk_W D vwCl (gk_T cI cL) s A H locs (wd_P cI h tx cs rl gv fa1 la1 va1 mn1 fa2 la2 va2 mn2 fa3 la3 va3 mn3 b1 b2 b3 b4 b5 b6 ln lo kn) → lv_has ls 3 [(0, .ref (h 0)), (1, .int x1), (2, .int x2)] → W p l e rm_ruleOfSigns s m [.ref (h 0), .int x1, .int x2].toArray below meth c H locs 0 0 Q (F0 m 109 ls []) := by
    intro  H locs ls heq hW hl
    rw [mm_ruleOfSigns_109] at heq
    refine lv_iload_n hx hb d_ruleOfSigns_109 rfl (lv_at hl 2 rfl) ?_
    refine lv_bipush (v := 18) hx hb d_ruleOfSigns_110 (by decide) ?_
    refine lv_icmp_ne (tgt := 121) hx hb d_ruleOfSigns_112 (by decide) (fun c_1 => ?_) (fun c_1 => ?_)
    · replace heq := (if_neg c_1).symm.trans heq
      refine lv_iconst (v := 0) hx hb d_ruleOfSigns_121 (by decide) ?_
      exact X _ () H locs 0 0 122 ls heq hW d_ruleOfSigns_122 rfl (Nat.le_of_ble_eq_true rfl) (Nat.le_of_ble_eq_true rfl)
    · replace heq := (if_pos c_1).symm.trans heq
      refine lv_sipush (v := 220) hx hb d_ruleOfSigns_115 (by decide) ?_
      refine lv_goto (tgt := 122) hx hb d_ruleOfSigns_118 (by decide) ?_
      exact X _ () H locs 0 0 122 ls heq hW d_ruleOfSigns_122 rfl (Nat.le_of_ble_eq_true rfl) (Nat.le_of_ble_eq_true rfl)
  have K93 : ∀ (H : Heap) (locs : List Loc) (ls : Array Slot), mm_ruleOfSigns_93 x1 x2 b4 = tgt → gk_W D vwCl (gk_T cI cL) s A H locs (wd_P cI h tx cs rl gv fa1 la1 va1 mn1 fa2 la2 va2 mn2 fa3 la3 va3 mn3 b1 b2 b3 b4 b5 b6 ln lo kn) → lv_has ls 3 [(0, .ref (h 0)), (1, .int x1), (2, .int x2)] → W p l e rm_ruleOfSigns s m [.ref (h 0), .int x1, .int x2].toArray below meth c H locs 0 0 Q (F0 m 93 ls []) := by
    intro  H locs ls heq hW hl
    rw [mm_ruleOfSigns_93] at heq
    refine lv_iload_n hx hb d_ruleOfSigns_93 rfl (lv_at hl 1 rfl) ?_
    refine lv_bipush (v := 26) hx hb d_ruleOfSigns_94 (by decide) ?_
    refine lv_icmp_ne (tgt := 109) hx hb d_ruleOfSigns_96 (by decide) (fun c_2 => ?_) (fun c_2 => ?_)
    · replace heq := (if_neg c_2).symm.trans heq
      exact K109  H locs ls heq hW (lv_sub hl [0, 1, 2] rfl)
    · replace heq := (if_pos c_2).symm.trans heq
      refine lv_iload_n hx hb d_ruleOfSigns_99 rfl (lv_at hl 2 rfl) ?_
      refine lv_bipush (v := 28) hx hb d_ruleOfSigns_100 (by decide) ?_
      refine lv_icmp_ne (tgt := 109) hx hb d_ruleOfSigns_102 (by decide) (fun c_3 => ?_) (fun c_3 => ?_)
      · replace heq := (if_neg c_3).symm.trans heq
        exact K109  H locs ls heq hW (lv_sub hl [0, 1, 2] rfl)
      · replace heq := (if_pos c_3).symm.trans heq
        refine lv_sipush (v := 212) hx hb d_ruleOfSigns_105 (by decide) ?_
        exact X _ () H locs 0 0 108 ls heq hW d_ruleOfSigns_108 rfl (Nat.le_of_ble_eq_true rfl) (Nat.le_of_ble_eq_true rfl)
  refine lv_iload_n hx hb d_ruleOfSigns_0 rfl (lv_at hl 1 rfl) ?_
  refine lv_iconst (v := 4) hx hb d_ruleOfSigns_1 (by decide) ?_
  refine lv_icmp_ne (tgt := 9) hx hb d_ruleOfSigns_2 (by decide) (fun c_4 => ?_) (fun c_4 => ?_)
  · replace heq := (if_neg c_4).symm.trans heq
    refine lv_iload_n hx hb d_ruleOfSigns_9 rfl (lv_at hl 1 rfl) ?_
    refine lv_bipush (v := 21) hx hb d_ruleOfSigns_10 (by decide) ?_
    refine lv_icmp_eq (tgt := 21) hx hb d_ruleOfSigns_12 (by decide) (fun c_5 => ?_) (fun c_5 => ?_)
    · replace heq := (if_pos c_5).symm.trans heq
      refine lv_sipush (v := 190) hx hb d_ruleOfSigns_21 (by decide) ?_
      exact X _ () H locs 0 0 24 ls heq hW d_ruleOfSigns_24 rfl (Nat.le_of_ble_eq_true rfl) (Nat.le_of_ble_eq_true rfl)
    · replace heq := (if_neg c_5).symm.trans heq
      refine lv_iload_n hx hb d_ruleOfSigns_15 rfl (lv_at hl 2 rfl) ?_
      refine lv_bipush (v := 21) hx hb d_ruleOfSigns_16 (by decide) ?_
      refine lv_icmp_ne (tgt := 25) hx hb d_ruleOfSigns_18 (by decide) (fun c_6 => ?_) (fun c_6 => ?_)
      · replace heq := (if_neg c_6).symm.trans heq
        refine lv_iload_n hx hb d_ruleOfSigns_25 rfl (lv_at hl 1 rfl) ?_
        refine lv_bipush (v := 14) hx hb d_ruleOfSigns_26 (by decide) ?_
        refine lv_icmp_eq (tgt := 37) hx hb d_ruleOfSigns_28 (by decide) (fun c_7 => ?_) (fun c_7 => ?_)
        · replace heq := (if_pos c_7).symm.trans heq
          refine lv_sipush (v := 200) hx hb d_ruleOfSigns_37 (by decide) ?_
          exact X _ () H locs 0 0 40 ls heq hW d_ruleOfSigns_40 rfl (Nat.le_of_ble_eq_true rfl) (Nat.le_of_ble_eq_true rfl)
        · replace heq := (if_neg c_7).symm.trans heq
          refine lv_iload_n hx hb d_ruleOfSigns_31 rfl (lv_at hl 2 rfl) ?_
          refine lv_bipush (v := 14) hx hb d_ruleOfSigns_32 (by decide) ?_
          refine lv_icmp_ne (tgt := 41) hx hb d_ruleOfSigns_34 (by decide) (fun c_8 => ?_) (fun c_8 => ?_)
          · replace heq := (if_neg c_8).symm.trans heq
            refine lv_iload_n hx hb d_ruleOfSigns_41 rfl (lv_at hl 2 rfl) ?_
            refine lv_ldc2 (v := 10240) hx hb hown (hts _ w_8) d_ruleOfSigns_42 ?_
            refine gk_goR hW [] rfl (va_runS (As := [.int x2, .long 10240]) (rest := []) ⟨hx, hb, hml, hown, hts⟩ (c_isIn l D cI cL x2 10240 _) (gk_cwS hts w_5 w_6 w_3 k_isIn rfl e_isIn rfl rfl ⟨Nat.le_of_ble_eq_true rfl, Nat.le_of_ble_eq_true rfl⟩) (gk_pre hW [] rfl rfl) rfl rfl hl.1 rfl (lv_room (Nat.le_of_ble_eq_true rfl)) d_ruleOfSigns_45 ⟨Nat.le_of_ble_eq_true rfl, Nat.le_of_ble_eq_true rfl⟩) (fun H locs hW => ?_)
            refine lv_if_ne (tgt := 63) hx hb d_ruleOfSigns_48 (by decide) (fun c_9 => ?_) (fun c_9 => ?_)
            · replace heq := (if_neg c_9).symm.trans heq
              refine lv_sipush (v := 210) hx hb d_ruleOfSigns_63 (by decide) ?_
              exact X _ () H locs 0 0 66 ls heq hW d_ruleOfSigns_66 rfl (Nat.le_of_ble_eq_true rfl) (Nat.le_of_ble_eq_true rfl)
            · replace heq := (if_pos c_9).symm.trans heq
              refine lv_iload_n hx hb d_ruleOfSigns_51 rfl (lv_at hl 2 rfl) ?_
              refine lv_bipush (v := 19) hx hb d_ruleOfSigns_52 (by decide) ?_
              refine lv_icmp_eq (tgt := 63) hx hb d_ruleOfSigns_54 (by decide) (fun c_10 => ?_) (fun c_10 => ?_)
              · replace heq := (if_pos c_10).symm.trans heq
                refine lv_sipush (v := 210) hx hb d_ruleOfSigns_63 (by decide) ?_
                exact X _ () H locs 0 0 66 ls heq hW d_ruleOfSigns_66 rfl (Nat.le_of_ble_eq_true rfl) (Nat.le_of_ble_eq_true rfl)
              · replace heq := (if_neg c_10).symm.trans heq
                refine lv_iload_n hx hb d_ruleOfSigns_57 rfl (lv_at hl 1 rfl) ?_
                refine lv_bipush (v := 12) hx hb d_ruleOfSigns_58 (by decide) ?_
                refine lv_icmp_ne (tgt := 67) hx hb d_ruleOfSigns_60 (by decide) (fun c_11 => ?_) (fun c_11 => ?_)
                · replace heq := (if_neg c_11).symm.trans heq
                  refine lv_iload_n hx hb d_ruleOfSigns_67 rfl (lv_at hl 1 rfl) ?_
                  refine lv_ldc2 (v := 10240) hx hb hown (hts _ w_8) d_ruleOfSigns_68 ?_
                  refine gk_goR hW [] rfl (va_runS (As := [.int x1, .long 10240]) (rest := []) ⟨hx, hb, hml, hown, hts⟩ (c_isIn l D cI cL x1 10240 _) (gk_cwS hts w_5 w_6 w_3 k_isIn rfl e_isIn rfl rfl ⟨Nat.le_of_ble_eq_true rfl, Nat.le_of_ble_eq_true rfl⟩) (gk_pre hW [] rfl rfl) rfl rfl hl.1 rfl (lv_room (Nat.le_of_ble_eq_true rfl)) d_ruleOfSigns_71 ⟨Nat.le_of_ble_eq_true rfl, Nat.le_of_ble_eq_true rfl⟩) (fun H locs hW => ?_)
                  refine lv_if_eq (tgt := 93) hx hb d_ruleOfSigns_74 (by decide) (fun c_12 => ?_) (fun c_12 => ?_)
                  · replace heq := (if_pos c_12).symm.trans heq
                    exact K93  H locs ls heq hW (lv_sub hl [0, 1, 2] rfl)
                  · replace heq := (if_neg c_12).symm.trans heq
                    refine lv_aload_n hx hb d_ruleOfSigns_77 rfl (lv_at hl 0 rfl) ?_
                    refine va_get (D := D) (C := R_P) (T := F_P) (N := 11) hx hb hts i_P hown hW.1 hW.2.1 0 rfl rfl 7 (by decide) (hts _ w_44) (fun _ h9 => h9) rfl d_ruleOfSigns_78 ?_
                    refine va_getN (D := D) (C := R_B) (T := F_B) (N := 6) hx hb hts i_B hown hW.1 hW.2.1 17 rfl rfl 3 (by decide) (va_Nw.use rfl (hW.2.2.2.2.2.1 _ w_58)) (fun _ h9 => h9) rfl d_ruleOfSigns_81 ?_
                    refine lv_bipush (v := 28) hx hb d_ruleOfSigns_84 (by decide) ?_
                    refine lv_icmp_ne (tgt := 93) hx hb d_ruleOfSigns_86 (by decide) (fun c_13 => ?_) (fun c_13 => ?_)
                    · replace heq := (if_neg c_13).symm.trans heq
                      exact K93  H locs ls heq hW (lv_sub hl [0, 1, 2] rfl)
                    · replace heq := (if_pos c_13).symm.trans heq
                      refine lv_sipush (v := 211) hx hb d_ruleOfSigns_89 (by decide) ?_
                      exact X _ () H locs 0 0 92 ls heq hW d_ruleOfSigns_92 rfl (Nat.le_of_ble_eq_true rfl) (Nat.le_of_ble_eq_true rfl)
                · replace heq := (if_pos c_11).symm.trans heq
                  refine lv_sipush (v := 210) hx hb d_ruleOfSigns_63 (by decide) ?_
                  exact X _ () H locs 0 0 66 ls heq hW d_ruleOfSigns_66 rfl (Nat.le_of_ble_eq_true rfl) (Nat.le_of_ble_eq_true rfl)
          · replace heq := (if_pos c_8).symm.trans heq
            refine lv_sipush (v := 200) hx hb d_ruleOfSigns_37 (by decide) ?_
            exact X _ () H locs 0 0 40 ls heq hW d_ruleOfSigns_40 rfl (Nat.le_of_ble_eq_true rfl) (Nat.le_of_ble_eq_true rfl)
      · replace heq := (if_pos c_6).symm.trans heq
        refine lv_sipush (v := 190) hx hb d_ruleOfSigns_21 (by decide) ?_
        exact X _ () H locs 0 0 24 ls heq hW d_ruleOfSigns_24 rfl (Nat.le_of_ble_eq_true rfl) (Nat.le_of_ble_eq_true rfl)
  · replace heq := (if_pos c_4).symm.trans heq
    refine lv_sipush (v := 180) hx hb d_ruleOfSigns_5 (by decide) ?_
    exact X _ () H locs 0 0 8 ls heq hW d_ruleOfSigns_8 rfl (Nat.le_of_ble_eq_true rfl) (Nat.le_of_ble_eq_true rfl)
def mm_ruleOfMarks_94 (x1 x2 x3 : Int32) (fa2 la2 va2 : Nat → Int32) (mn2 : Int32) (fa3 la3 va3 : Nat → Int32) (mn3 b3 b6 : Int32) : Int32 := if x2 = 31 then (if x1 = 30 then 302 else (if (mm_isMarked b3 fa3 la3 va3 mn3) = 0 then 0 else 302)) else 0
def mm_ruleOfMarks_68 (x1 x2 x3 : Int32) (fa2 la2 va2 : Nat → Int32) (mn2 : Int32) (fa3 la3 va3 : Nat → Int32) (mn3 b3 b6 : Int32) : Int32 := if x1 = 37 then (if x2 = 37 then (if b6 = 0 then (mm_ruleOfMarks_94 x1 x2 x3 fa2 la2 va2 mn2 fa3 la3 va3 mn3 b3 b6) else 301) else (mm_ruleOfMarks_94 x1 x2 x3 fa2 la2 va2 mn2 fa3 la3 va3 mn3 b3 b6)) else (mm_ruleOfMarks_94 x1 x2 x3 fa2 la2 va2 mn2 fa3 la3 va3 mn3 b3 b6)
def mm_ruleOfMarks_31 (x1 x2 x3 : Int32) (fa2 la2 va2 : Nat → Int32) (mn2 : Int32) (fa3 la3 va3 : Nat → Int32) (mn3 b3 b6 : Int32) : Int32 := if x1 = 16 then (if (mm_isIn x2 411041792) = 0 then (mm_ruleOfMarks_68 x1 x2 x3 fa2 la2 va2 mn2 fa3 la3 va3 mn3 b3 b6) else (if (mm_isMarked b3 fa2 la2 va2 mn2) = 0 then 300 else (mm_ruleOfMarks_68 x1 x2 x3 fa2 la2 va2 mn2 fa3 la3 va3 mn3 b3 b6))) else (mm_ruleOfMarks_68 x1 x2 x3 fa2 la2 va2 mn2 fa3 la3 va3 mn3 b3 b6)
def mm_ruleOfMarks (x1 x2 x3 : Int32) (fa2 la2 va2 : Nat → Int32) (mn2 : Int32) (fa3 la3 va3 : Nat → Int32) (mn3 b3 b6 : Int32) : Int32 := if (mm_isIn x1 411041792) = 0 then (mm_ruleOfMarks_31 x1 x2 x3 fa2 la2 va2 mn2 fa3 la3 va3 mn3 b3 b6) else (if x2 = 20 then (if (mm_isMarked x3 fa2 la2 va2 mn2) = 0 then 300 else (mm_ruleOfMarks_31 x1 x2 x3 fa2 la2 va2 mn2 fa3 la3 va3 mn3 b3 b6)) else (mm_ruleOfMarks_31 x1 x2 x3 fa2 la2 va2 mn2 fa3 la3 va3 mn3 b3 b6))
def rm_ruleOfMarks : Room := { frames := 2, cells := 0, slots := 0, locals := 44 }
set_option maxHeartbeats 4000000 in
set_option maxRecDepth 100000 in
theorem c_ruleOfMarks (l : Launch) (D : va_G) (cI : ClassId) (cL : ClassId × ClassId) (h : Nat → Nat) (tx cs rl gv fa1 la1 va1 : Nat → Int32) (mn1 : Int32) (fa2 la2 va2 : Nat → Int32) (mn2 : Int32) (fa3 la3 va3 : Nat → Int32) (mn3 b1 b2 b3 b4 b5 b6 ln lo kn x1 x2 x3 : Int32) (z_mn2 : Int) (v_mn2 : gk_v mn2 z_mn2) (z_mn3 : Int) (v_mn3 : gk_v mn3 z_mn3) (hm2 : 0 ≤ z_mn2 ∧ z_mn2 ≤ 40) (hm3 : 0 ≤ z_mn3 ∧ z_mn3 ≤ 40) : gk_I l y_ruleOfMarks (.code y_ruleOfMarks b_ruleOfMarks 4 (some .int) :: wA) rm_ruleOfMarks D vwCl (gk_T cI cL) [.ref (h 0), .int x1, .int x2, .int x3] (wd_P cI h tx cs rl gv fa1 la1 va1 mn1 fa2 la2 va2 mn2 fa3 la3 va3 mn3 b1 b2 b3 b4 b5 b6 ln lo kn) (fun (r : Int32) (_ : Unit) => r = mm_ruleOfMarks x1 x2 x3 fa2 la2 va2 mn2 fa3 la3 va3 mn3 b3 b6) (fun (_ : Unit) => (wd_P cI h tx cs rl gv fa1 la1 va1 mn1 fa2 la2 va2 mn2 fa3 la3 va3 mn3 b1 b2 b3 b4 b5 b6 ln lo kn)) 0 0 := by
  refine gk_I.of (by decide) (Nat.le_of_ble_eq_true rfl) ?_
  intro p e s m below meth c A ls Q H locs hx hb hml hown hts hW hl X
  have hl : lv_has ls 4 [(0, .ref (h 0)), (1, .int x1), (2, .int x2), (3, .int x3)] := hl
  obtain ⟨tgt, heq⟩ : ∃ t, mm_ruleOfMarks x1 x2 x3 fa2 la2 va2 mn2 fa3 la3 va3 mn3 b3 b6 = t := ⟨_, rfl⟩
  rw [heq] at X
  rw [mm_ruleOfMarks] at heq
  have K94 : ∀ (H : Heap) (locs : List Loc) (ls : Array Slot), mm_ruleOfMarks_94 x1 x2 x3 fa2 la2 va2 mn2 fa3 la3 va3 mn3 b3 b6 = tgt → gk_W D vwCl (gk_T cI cL) s A H locs (wd_P cI h tx cs rl gv fa1 la1 va1 mn1 fa2 la2 va2 mn2 fa3 la3 va3 mn3 b1 b2 b3 b4 b5 b6 ln lo kn) → lv_has ls 4 [(0, .ref (h 0)), (1, .int x1), (2, .int x2), (3, .int x3)] → W p l e rm_ruleOfMarks s m [.ref (h 0), .int x1, .int x2, .int x3].toArray below meth c H locs 0 0 Q (F0 m 94 ls []) := by
    intro  H locs ls heq hW hl
    rw [mm_ruleOfMarks_94] at heq
    refine lv_iload_n hx hb d_ruleOfMarks_94 rfl (lv_at hl 2 rfl) ?_
    refine lv_bipush (v := 31) hx hb d_ruleOfMarks_95 (by decide) ?_
    refine lv_icmp_ne (tgt := 127) hx hb d_ruleOfMarks_97 (by decide) (fun c_1 => ?_) (fun c_1 => ?_)
    · replace heq := (if_neg c_1).symm.trans heq
      refine lv_iconst (v := 0) hx hb d_ruleOfMarks_127 (by decide) ?_
      exact X _ () H locs 0 0 128 ls heq hW d_ruleOfMarks_128 rfl (Nat.le_of_ble_eq_true rfl) (Nat.le_of_ble_eq_true rfl)
    · replace heq := (if_pos c_1).symm.trans heq
      refine lv_iload_n hx hb d_ruleOfMarks_100 rfl (lv_at hl 1 rfl) ?_
      refine lv_bipush (v := 30) hx hb d_ruleOfMarks_101 (by decide) ?_
      refine lv_icmp_eq (tgt := 123) hx hb d_ruleOfMarks_103 (by decide) (fun c_2 => ?_) (fun c_2 => ?_)
      · replace heq := (if_pos c_2).symm.trans heq
        refine lv_sipush (v := 302) hx hb d_ruleOfMarks_123 (by decide) ?_
        exact X _ () H locs 0 0 126 ls heq hW d_ruleOfMarks_126 rfl (Nat.le_of_ble_eq_true rfl) (Nat.le_of_ble_eq_true rfl)
      · replace heq := (if_neg c_2).symm.trans heq
        refine lv_aload_n hx hb d_ruleOfMarks_106 rfl (lv_at hl 0 rfl) ?_
        refine va_get (D := D) (C := R_P) (T := F_P) (N := 11) hx hb hts i_P hown hW.1 hW.2.1 0 rfl rfl 6 (by decide) (hts _ w_60) (fun _ h9 => h9) rfl d_ruleOfMarks_107 ?_
        refine lv_aload_n hx hb d_ruleOfMarks_110 rfl (lv_at hl 0 rfl) ?_
        refine va_get (D := D) (C := R_P) (T := F_P) (N := 11) hx hb hts i_P hown hW.1 hW.2.1 0 rfl rfl 7 (by decide) (hts _ w_44) (fun _ h9 => h9) rfl d_ruleOfMarks_111 ?_
        refine va_getN (D := D) (C := R_B) (T := F_B) (N := 6) hx hb hts i_B hown hW.1 hW.2.1 17 rfl rfl 2 (by decide) (va_Nw.use rfl (hW.2.2.2.2.2.1 _ w_61)) (fun _ h9 => h9) rfl d_ruleOfMarks_114 ?_
        refine gk_goR hW [13, 14, 15, 16] rfl (va_runS (As := [.ref (h 13), .int b3]) (rest := []) ⟨hx, hb, hml, hown, hts⟩ (c_isMarked l D cI cL 40 (h 13) (h 14) (h 15) (h 16) fa3 la3 va3 mn3 b3 z_mn3 v_mn3 (by omega) (by omega) _) (gk_cwS hts w_62 w_63 w_3 k_isMarked rfl e_isMarked rfl rfl ⟨Nat.le_of_ble_eq_true rfl, Nat.le_of_ble_eq_true rfl⟩) (gk_pre hW [13, 14, 15, 16] rfl rfl) rfl rfl hl.1 rfl (lv_room (Nat.le_of_ble_eq_true rfl)) d_ruleOfMarks_117 ⟨Nat.le_of_ble_eq_true rfl, Nat.le_of_ble_eq_true rfl⟩) (fun H locs hW => ?_)
        refine lv_if_eq (tgt := 127) hx hb d_ruleOfMarks_120 (by decide) (fun c_3 => ?_) (fun c_3 => ?_)
        · replace heq := (if_pos c_3).symm.trans heq
          refine lv_iconst (v := 0) hx hb d_ruleOfMarks_127 (by decide) ?_
          exact X _ () H locs 0 0 128 ls heq hW d_ruleOfMarks_128 rfl (Nat.le_of_ble_eq_true rfl) (Nat.le_of_ble_eq_true rfl)
        · replace heq := (if_neg c_3).symm.trans heq
          refine lv_sipush (v := 302) hx hb d_ruleOfMarks_123 (by decide) ?_
          exact X _ () H locs 0 0 126 ls heq hW d_ruleOfMarks_126 rfl (Nat.le_of_ble_eq_true rfl) (Nat.le_of_ble_eq_true rfl)
  have K68 : ∀ (H : Heap) (locs : List Loc) (ls : Array Slot), mm_ruleOfMarks_68 x1 x2 x3 fa2 la2 va2 mn2 fa3 la3 va3 mn3 b3 b6 = tgt → gk_W D vwCl (gk_T cI cL) s A H locs (wd_P cI h tx cs rl gv fa1 la1 va1 mn1 fa2 la2 va2 mn2 fa3 la3 va3 mn3 b1 b2 b3 b4 b5 b6 ln lo kn) → lv_has ls 4 [(0, .ref (h 0)), (1, .int x1), (2, .int x2), (3, .int x3)] → W p l e rm_ruleOfMarks s m [.ref (h 0), .int x1, .int x2, .int x3].toArray below meth c H locs 0 0 Q (F0 m 68 ls []) := by
    intro  H locs ls heq hW hl
    rw [mm_ruleOfMarks_68] at heq
    refine lv_iload_n hx hb d_ruleOfMarks_68 rfl (lv_at hl 1 rfl) ?_
    refine lv_bipush (v := 37) hx hb d_ruleOfMarks_69 (by decide) ?_
    refine lv_icmp_ne (tgt := 94) hx hb d_ruleOfMarks_71 (by decide) (fun c_4 => ?_) (fun c_4 => ?_)
    · replace heq := (if_neg c_4).symm.trans heq
      exact K94  H locs ls heq hW (lv_sub hl [0, 1, 2, 3] rfl)
    · replace heq := (if_pos c_4).symm.trans heq
      refine lv_iload_n hx hb d_ruleOfMarks_74 rfl (lv_at hl 2 rfl) ?_
      refine lv_bipush (v := 37) hx hb d_ruleOfMarks_75 (by decide) ?_
      refine lv_icmp_ne (tgt := 94) hx hb d_ruleOfMarks_77 (by decide) (fun c_5 => ?_) (fun c_5 => ?_)
      · replace heq := (if_neg c_5).symm.trans heq
        exact K94  H locs ls heq hW (lv_sub hl [0, 1, 2, 3] rfl)
      · replace heq := (if_pos c_5).symm.trans heq
        refine lv_aload_n hx hb d_ruleOfMarks_80 rfl (lv_at hl 0 rfl) ?_
        refine va_get (D := D) (C := R_P) (T := F_P) (N := 11) hx hb hts i_P hown hW.1 hW.2.1 0 rfl rfl 7 (by decide) (hts _ w_44) (fun _ h9 => h9) rfl d_ruleOfMarks_81 ?_
        refine va_getN (D := D) (C := R_B) (T := F_B) (N := 6) hx hb hts i_B hown hW.1 hW.2.1 17 rfl rfl 5 (by decide) (va_Nw.use rfl (hW.2.2.2.2.2.1 _ w_64)) (fun _ h9 => h9) rfl d_ruleOfMarks_84 ?_
        refine lv_if_eq (tgt := 94) hx hb d_ruleOfMarks_87 (by decide) (fun c_6 => ?_) (fun c_6 => ?_)
        · replace heq := (if_pos c_6).symm.trans heq
          exact K94  H locs ls heq hW (lv_sub hl [0, 1, 2, 3] rfl)
        · replace heq := (if_neg c_6).symm.trans heq
          refine lv_sipush (v := 301) hx hb d_ruleOfMarks_90 (by decide) ?_
          exact X _ () H locs 0 0 93 ls heq hW d_ruleOfMarks_93 rfl (Nat.le_of_ble_eq_true rfl) (Nat.le_of_ble_eq_true rfl)
  have K31 : ∀ (H : Heap) (locs : List Loc) (ls : Array Slot), mm_ruleOfMarks_31 x1 x2 x3 fa2 la2 va2 mn2 fa3 la3 va3 mn3 b3 b6 = tgt → gk_W D vwCl (gk_T cI cL) s A H locs (wd_P cI h tx cs rl gv fa1 la1 va1 mn1 fa2 la2 va2 mn2 fa3 la3 va3 mn3 b1 b2 b3 b4 b5 b6 ln lo kn) → lv_has ls 4 [(0, .ref (h 0)), (1, .int x1), (2, .int x2), (3, .int x3)] → W p l e rm_ruleOfMarks s m [.ref (h 0), .int x1, .int x2, .int x3].toArray below meth c H locs 0 0 Q (F0 m 31 ls []) := by
    intro  H locs ls heq hW hl
    rw [mm_ruleOfMarks_31] at heq
    refine lv_iload_n hx hb d_ruleOfMarks_31 rfl (lv_at hl 1 rfl) ?_
    refine lv_bipush (v := 16) hx hb d_ruleOfMarks_32 (by decide) ?_
    refine lv_icmp_ne (tgt := 68) hx hb d_ruleOfMarks_34 (by decide) (fun c_7 => ?_) (fun c_7 => ?_)
    · replace heq := (if_neg c_7).symm.trans heq
      exact K68  H locs ls heq hW (lv_sub hl [0, 1, 2, 3] rfl)
    · replace heq := (if_pos c_7).symm.trans heq
      refine lv_iload_n hx hb d_ruleOfMarks_37 rfl (lv_at hl 2 rfl) ?_
      refine lv_ldc2 (v := 411041792) hx hb hown (hts _ w_59) d_ruleOfMarks_38 ?_
      refine gk_goR hW [] rfl (va_runS (As := [.int x2, .long 411041792]) (rest := []) ⟨hx, hb, hml, hown, hts⟩ (c_isIn l D cI cL x2 411041792 _) (gk_cwS hts w_5 w_6 w_3 k_isIn rfl e_isIn rfl rfl ⟨Nat.le_of_ble_eq_true rfl, Nat.le_of_ble_eq_true rfl⟩) (gk_pre hW [] rfl rfl) rfl rfl hl.1 rfl (lv_room (Nat.le_of_ble_eq_true rfl)) d_ruleOfMarks_41 ⟨Nat.le_of_ble_eq_true rfl, Nat.le_of_ble_eq_true rfl⟩) (fun H locs hW => ?_)
      refine lv_if_eq (tgt := 68) hx hb d_ruleOfMarks_44 (by decide) (fun c_8 => ?_) (fun c_8 => ?_)
      · replace heq := (if_pos c_8).symm.trans heq
        exact K68  H locs ls heq hW (lv_sub hl [0, 1, 2, 3] rfl)
      · replace heq := (if_neg c_8).symm.trans heq
        refine lv_aload_n hx hb d_ruleOfMarks_47 rfl (lv_at hl 0 rfl) ?_
        refine va_get (D := D) (C := R_P) (T := F_P) (N := 11) hx hb hts i_P hown hW.1 hW.2.1 0 rfl rfl 5 (by decide) (hts _ w_65) (fun _ h9 => h9) rfl d_ruleOfMarks_48 ?_
        refine lv_aload_n hx hb d_ruleOfMarks_51 rfl (lv_at hl 0 rfl) ?_
        refine va_get (D := D) (C := R_P) (T := F_P) (N := 11) hx hb hts i_P hown hW.1 hW.2.1 0 rfl rfl 7 (by decide) (hts _ w_44) (fun _ h9 => h9) rfl d_ruleOfMarks_52 ?_
        refine va_getN (D := D) (C := R_B) (T := F_B) (N := 6) hx hb hts i_B hown hW.1 hW.2.1 17 rfl rfl 2 (by decide) (va_Nw.use rfl (hW.2.2.2.2.2.1 _ w_61)) (fun _ h9 => h9) rfl d_ruleOfMarks_55 ?_
        refine gk_goR hW [9, 10, 11, 12] rfl (va_runS (As := [.ref (h 9), .int b3]) (rest := []) ⟨hx, hb, hml, hown, hts⟩ (c_isMarked l D cI cL 40 (h 9) (h 10) (h 11) (h 12) fa2 la2 va2 mn2 b3 z_mn2 v_mn2 (by omega) (by omega) _) (gk_cwS hts w_62 w_63 w_3 k_isMarked rfl e_isMarked rfl rfl ⟨Nat.le_of_ble_eq_true rfl, Nat.le_of_ble_eq_true rfl⟩) (gk_pre hW [9, 10, 11, 12] rfl rfl) rfl rfl hl.1 rfl (lv_room (Nat.le_of_ble_eq_true rfl)) d_ruleOfMarks_58 ⟨Nat.le_of_ble_eq_true rfl, Nat.le_of_ble_eq_true rfl⟩) (fun H locs hW => ?_)
        refine lv_if_ne (tgt := 68) hx hb d_ruleOfMarks_61 (by decide) (fun c_9 => ?_) (fun c_9 => ?_)
        · replace heq := (if_neg c_9).symm.trans heq
          exact K68  H locs ls heq hW (lv_sub hl [0, 1, 2, 3] rfl)
        · replace heq := (if_pos c_9).symm.trans heq
          refine lv_sipush (v := 300) hx hb d_ruleOfMarks_64 (by decide) ?_
          exact X _ () H locs 0 0 67 ls heq hW d_ruleOfMarks_67 rfl (Nat.le_of_ble_eq_true rfl) (Nat.le_of_ble_eq_true rfl)
  refine lv_iload_n hx hb d_ruleOfMarks_0 rfl (lv_at hl 1 rfl) ?_
  refine lv_ldc2 (v := 411041792) hx hb hown (hts _ w_59) d_ruleOfMarks_1 ?_
  refine gk_goR hW [] rfl (va_runS (As := [.int x1, .long 411041792]) (rest := []) ⟨hx, hb, hml, hown, hts⟩ (c_isIn l D cI cL x1 411041792 _) (gk_cwS hts w_5 w_6 w_3 k_isIn rfl e_isIn rfl rfl ⟨Nat.le_of_ble_eq_true rfl, Nat.le_of_ble_eq_true rfl⟩) (gk_pre hW [] rfl rfl) rfl rfl hl.1 rfl (lv_room (Nat.le_of_ble_eq_true rfl)) d_ruleOfMarks_4 ⟨Nat.le_of_ble_eq_true rfl, Nat.le_of_ble_eq_true rfl⟩) (fun H locs hW => ?_)
  refine lv_if_eq (tgt := 31) hx hb d_ruleOfMarks_7 (by decide) (fun c_10 => ?_) (fun c_10 => ?_)
  · replace heq := (if_pos c_10).symm.trans heq
    exact K31  H locs ls heq hW (lv_sub hl [0, 1, 2, 3] rfl)
  · replace heq := (if_neg c_10).symm.trans heq
    refine lv_iload_n hx hb d_ruleOfMarks_10 rfl (lv_at hl 2 rfl) ?_
    refine lv_bipush (v := 20) hx hb d_ruleOfMarks_11 (by decide) ?_
    refine lv_icmp_ne (tgt := 31) hx hb d_ruleOfMarks_13 (by decide) (fun c_11 => ?_) (fun c_11 => ?_)
    · replace heq := (if_neg c_11).symm.trans heq
      exact K31  H locs ls heq hW (lv_sub hl [0, 1, 2, 3] rfl)
    · replace heq := (if_pos c_11).symm.trans heq
      refine lv_aload_n hx hb d_ruleOfMarks_16 rfl (lv_at hl 0 rfl) ?_
      refine va_get (D := D) (C := R_P) (T := F_P) (N := 11) hx hb hts i_P hown hW.1 hW.2.1 0 rfl rfl 5 (by decide) (hts _ w_65) (fun _ h9 => h9) rfl d_ruleOfMarks_17 ?_
      refine lv_iload_n hx hb d_ruleOfMarks_20 rfl (lv_at hl 3 rfl) ?_
      refine gk_goR hW [9, 10, 11, 12] rfl (va_runS (As := [.ref (h 9), .int x3]) (rest := []) ⟨hx, hb, hml, hown, hts⟩ (c_isMarked l D cI cL 40 (h 9) (h 10) (h 11) (h 12) fa2 la2 va2 mn2 x3 z_mn2 v_mn2 (by omega) (by omega) _) (gk_cwS hts w_62 w_63 w_3 k_isMarked rfl e_isMarked rfl rfl ⟨Nat.le_of_ble_eq_true rfl, Nat.le_of_ble_eq_true rfl⟩) (gk_pre hW [9, 10, 11, 12] rfl rfl) rfl rfl hl.1 rfl (lv_room (Nat.le_of_ble_eq_true rfl)) d_ruleOfMarks_21 ⟨Nat.le_of_ble_eq_true rfl, Nat.le_of_ble_eq_true rfl⟩) (fun H locs hW => ?_)
      refine lv_if_ne (tgt := 31) hx hb d_ruleOfMarks_24 (by decide) (fun c_12 => ?_) (fun c_12 => ?_)
      · replace heq := (if_neg c_12).symm.trans heq
        exact K31  H locs ls heq hW (lv_sub hl [0, 1, 2, 3] rfl)
      · replace heq := (if_pos c_12).symm.trans heq
        refine lv_sipush (v := 300) hx hb d_ruleOfMarks_27 (by decide) ?_
        exact X _ () H locs 0 0 30 ls heq hW d_ruleOfMarks_30 rfl (Nat.le_of_ble_eq_true rfl) (Nat.le_of_ble_eq_true rfl)
