def mm_take_40 (x1 x2 x3 x4 x5 : Int32) : Nat → Int32 → (Nat → Int32) → Int32 × (Nat → Int32)
  | 0, x6, gv => (0, gv)
  | n + 1, x6, gv => if 5 ≤ x6 then (5, gv) else (if (gv x6.toNatClampNeg) = (-1) then (x6, gv) else (mm_take_40 x1 x2 x3 x4 x5 n (x6 + 1) gv))
def mm_take (x1 x2 x3 x4 x5 : Int32) (gv : Nat → Int32) : Int32 × (Nat → Int32) := mm_take_40 x1 x2 x3 x4 x5 6 0 (upd (upd (upd (upd (upd gv (0 : Int32).toNatClampNeg x1) (1 : Int32).toNatClampNeg x2) (2 : Int32).toNatClampNeg x3) (3 : Int32).toNatClampNeg x4) (4 : Int32).toNatClampNeg x5)
def rm_take : Room := { frames := 0, cells := 0, slots := 0, locals := 0 }
set_option maxHeartbeats 4000000 in
set_option maxRecDepth 100000 in
theorem c_take (l : Launch) (D : va_G) (cI : ClassId) (cL : ClassId × ClassId) (h : Nat → Nat) (tx cs rl gv fa1 la1 va1 : Nat → Int32) (mn1 : Int32) (fa2 la2 va2 : Nat → Int32) (mn2 : Int32) (fa3 la3 va3 : Nat → Int32) (mn3 b1 b2 b3 b4 b5 b6 ln lo kn x1 x2 x3 x4 x5 : Int32) : gk_I l y_take (.code y_take b_take 7 (some .int) :: wA) rm_take D vwCl (gk_T cI cL) [.ref (h 0), .int x1, .int x2, .int x3, .int x4, .int x5] (wd_P cI h tx cs rl gv fa1 la1 va1 mn1 fa2 la2 va2 mn2 fa3 la3 va3 mn3 b1 b2 b3 b4 b5 b6 ln lo kn) (fun (r : Int32) (u : (Nat → Int32)) => (r, u) = mm_take x1 x2 x3 x4 x5 gv) (fun u => (wd_P cI h tx cs rl u fa1 la1 va1 mn1 fa2 la2 va2 mn2 fa3 la3 va3 mn3 b1 b2 b3 b4 b5 b6 ln lo kn)) 0 0 := by
  refine gk_I.of (by decide) (Nat.le_of_ble_eq_true rfl) ?_
  intro p e s m below meth c A ls Q H locs hx hb hml hown hts hW hl X
  have hl : lv_has ls 7 [(0, .ref (h 0)), (1, .int x1), (2, .int x2), (3, .int x3), (4, .int x4), (5, .int x5)] := hl
  obtain ⟨tgt, heq⟩ : ∃ t, mm_take x1 x2 x3 x4 x5 gv = t := ⟨_, rfl⟩
  rw [heq] at X
  rw [mm_take] at heq
  obtain ⟨z_x1, v_x1⟩ := gk_vex x1
  obtain ⟨z_x2, v_x2⟩ := gk_vex x2
  obtain ⟨z_x3, v_x3⟩ := gk_vex x3
  obtain ⟨z_x4, v_x4⟩ := gk_vex x4
  obtain ⟨z_x5, v_x5⟩ := gk_vex x5
  have L40 : ∀ (n : Nat) (x6 : Int32) (gv : Nat → Int32) (H : Heap) (locs : List Loc) (ls : Array Slot), ∀ (z_x6 : Int), gk_v x6 z_x6 → (5 - z_x6) < (n : Int) → 0 ≤ z_x6 ∧ z_x6 ≤ 5 → mm_take_40 x1 x2 x3 x4 x5 n x6 gv = tgt → gk_W D vwCl (gk_T cI cL) s A H locs (wd_P cI h tx cs rl gv fa1 la1 va1 mn1 fa2 la2 va2 mn2 fa3 la3 va3 mn3 b1 b2 b3 b4 b5 b6 ln lo kn) → lv_has ls 7 [(0, .ref (h 0)), (1, .int x1), (2, .int x2), (3, .int x3), (4, .int x4), (5, .int x5), (6, .int x6)] → W p l e rm_take s m [.ref (h 0), .int x1, .int x2, .int x3, .int x4, .int x5].toArray below meth c H locs 0 0 Q (F0 m 40 ls []) := by
    intro n
    induction n with
    | zero => intro x6 gv H locs ls z_x6 v_x6 hm f40_0 heq hW hl; exfalso; omega
    | succ n ih =>
      intro x6 gv H locs ls z_x6 v_x6 hm f40_0 heq hW hl
      rw [mm_take_40] at heq
      refine lv_iload hx hb d_take_40 (lv_at hl 6 rfl) ?_
      refine lv_iconst (v := 5) hx hb d_take_42 (by decide) ?_
      refine lv_icmp_ge (tgt := 66) hx hb d_take_43 (by decide) (fun c_1 => ?_) (fun c_1 => ?_)
      · replace heq := (if_pos c_1).symm.trans heq
        have ic_1 := gk_le (show gk_v 5 5 from rfl) v_x6 c_1
        refine lv_iconst (v := 5) hx hb d_take_66 (by decide) ?_
        exact X _ gv H locs 0 0 67 ls heq hW d_take_67 rfl (Nat.le_of_ble_eq_true rfl) (Nat.le_of_ble_eq_true rfl)
      · replace heq := (if_neg c_1).symm.trans heq
        have ic_1 := gk_nle (show gk_v 5 5 from rfl) v_x6 c_1
        refine lv_aload_n hx hb d_take_46 rfl (lv_at hl 0 rfl) ?_
        refine va_get (D := D) (C := R_P) (T := F_P) (N := 11) hx hb hts i_P hown hW.1 hW.2.1 0 rfl rfl 3 (by decide) (hts _ w_85) (fun _ h9 => h9) rfl d_take_47 ?_
        refine lv_iload hx hb d_take_50 (lv_at hl 6 rfl) ?_
        refine va_iald hx hb hW.1 hW.2.1 4 0 rfl rfl (i := x6) (gk_in v_x6 (by omega) (by omega)) d_take_52 ?_
        refine lv_iconst (v := (-1)) hx hb d_take_53 (by decide) ?_
        refine lv_icmp_ne (tgt := 60) hx hb d_take_54 (by decide) (fun c_2 => ?_) (fun c_2 => ?_)
        · replace heq := (if_neg c_2).symm.trans heq
          refine lv_iinc (v := x6 + 1) (lv' := [(6, .int (x6 + 1)), (0, .ref (h 0)), (1, .int x1), (2, .int x2), (3, .int x3), (4, .int x4), (5, .int x5)]) hx hb d_take_60 hl (k := 6) rfl rfl (by decide) rfl (fun ls hl => ?_)
          obtain ⟨zt_3, vt_3, et_3⟩ := gk_add v_x6 (show gk_v 1 1 from rfl) (by omega) (by omega)
          refine lv_goto (tgt := 40) hx hb d_take_63 (by decide) ?_
          exact ih (x6 + 1) gv H locs ls zt_3 vt_3 (by omega) (by omega) heq hW (lv_sub hl [1, 2, 3, 4, 5, 6, 0] rfl)
        · replace heq := (if_pos c_2).symm.trans heq
          refine lv_iload hx hb d_take_57 (lv_at hl 6 rfl) ?_
          exact X _ gv H locs 0 0 59 ls heq hW d_take_59 rfl (Nat.le_of_ble_eq_true rfl) (Nat.le_of_ble_eq_true rfl)
  refine lv_aload_n hx hb d_take_0 rfl (lv_at hl 0 rfl) ?_
  refine va_get (D := D) (C := R_P) (T := F_P) (N := 11) hx hb hts i_P hown hW.1 hW.2.1 0 rfl rfl 3 (by decide) (hts _ w_85) (fun _ h9 => h9) rfl d_take_1 ?_
  refine lv_iconst (v := 0) hx hb d_take_4 (by decide) ?_
  refine lv_iload_n hx hb d_take_5 rfl (lv_at hl 1 rfl) ?_
  refine va_iast hx hb hW.1 hW.2.1 hW.2.2.1 hW.2.2.2.1 4 0 rfl rfl (i := 0) (x := x1) (gk_in (show gk_v 0 0 from rfl) (by omega) (by omega)) d_take_6 (fun H locs hP hD hS => ?_)
  have hW : gk_W D vwCl (gk_T cI cL) s A H locs (wd_P cI h tx cs rl (upd gv (0 : Int32).toNatClampNeg x1) fa1 la1 va1 mn1 fa2 la2 va2 mn2 fa3 la3 va3 mn3 b1 b2 b3 b4 b5 b6 ln lo kn) := ⟨hW.1, hP, hD, hS, hW.2.2.2.2⟩
  refine lv_aload_n hx hb d_take_7 rfl (lv_at hl 0 rfl) ?_
  refine va_get (D := D) (C := R_P) (T := F_P) (N := 11) hx hb hts i_P hown hW.1 hW.2.1 0 rfl rfl 3 (by decide) (hts _ w_85) (fun _ h9 => h9) rfl d_take_8 ?_
  refine lv_iconst (v := 1) hx hb d_take_11 (by decide) ?_
  refine lv_iload_n hx hb d_take_12 rfl (lv_at hl 2 rfl) ?_
  refine va_iast hx hb hW.1 hW.2.1 hW.2.2.1 hW.2.2.2.1 4 0 rfl rfl (i := 1) (x := x2) (gk_in (show gk_v 1 1 from rfl) (by omega) (by omega)) d_take_13 (fun H locs hP hD hS => ?_)
  have hW : gk_W D vwCl (gk_T cI cL) s A H locs (wd_P cI h tx cs rl (upd (upd gv (0 : Int32).toNatClampNeg x1) (1 : Int32).toNatClampNeg x2) fa1 la1 va1 mn1 fa2 la2 va2 mn2 fa3 la3 va3 mn3 b1 b2 b3 b4 b5 b6 ln lo kn) := ⟨hW.1, hP, hD, hS, hW.2.2.2.2⟩
  refine lv_aload_n hx hb d_take_14 rfl (lv_at hl 0 rfl) ?_
  refine va_get (D := D) (C := R_P) (T := F_P) (N := 11) hx hb hts i_P hown hW.1 hW.2.1 0 rfl rfl 3 (by decide) (hts _ w_85) (fun _ h9 => h9) rfl d_take_15 ?_
  refine lv_iconst (v := 2) hx hb d_take_18 (by decide) ?_
  refine lv_iload_n hx hb d_take_19 rfl (lv_at hl 3 rfl) ?_
  refine va_iast hx hb hW.1 hW.2.1 hW.2.2.1 hW.2.2.2.1 4 0 rfl rfl (i := 2) (x := x3) (gk_in (show gk_v 2 2 from rfl) (by omega) (by omega)) d_take_20 (fun H locs hP hD hS => ?_)
  have hW : gk_W D vwCl (gk_T cI cL) s A H locs (wd_P cI h tx cs rl (upd (upd (upd gv (0 : Int32).toNatClampNeg x1) (1 : Int32).toNatClampNeg x2) (2 : Int32).toNatClampNeg x3) fa1 la1 va1 mn1 fa2 la2 va2 mn2 fa3 la3 va3 mn3 b1 b2 b3 b4 b5 b6 ln lo kn) := ⟨hW.1, hP, hD, hS, hW.2.2.2.2⟩
  refine lv_aload_n hx hb d_take_21 rfl (lv_at hl 0 rfl) ?_
  refine va_get (D := D) (C := R_P) (T := F_P) (N := 11) hx hb hts i_P hown hW.1 hW.2.1 0 rfl rfl 3 (by decide) (hts _ w_85) (fun _ h9 => h9) rfl d_take_22 ?_
  refine lv_iconst (v := 3) hx hb d_take_25 (by decide) ?_
  refine lv_iload hx hb d_take_26 (lv_at hl 4 rfl) ?_
  refine va_iast hx hb hW.1 hW.2.1 hW.2.2.1 hW.2.2.2.1 4 0 rfl rfl (i := 3) (x := x4) (gk_in (show gk_v 3 3 from rfl) (by omega) (by omega)) d_take_28 (fun H locs hP hD hS => ?_)
  have hW : gk_W D vwCl (gk_T cI cL) s A H locs (wd_P cI h tx cs rl (upd (upd (upd (upd gv (0 : Int32).toNatClampNeg x1) (1 : Int32).toNatClampNeg x2) (2 : Int32).toNatClampNeg x3) (3 : Int32).toNatClampNeg x4) fa1 la1 va1 mn1 fa2 la2 va2 mn2 fa3 la3 va3 mn3 b1 b2 b3 b4 b5 b6 ln lo kn) := ⟨hW.1, hP, hD, hS, hW.2.2.2.2⟩
  refine lv_aload_n hx hb d_take_29 rfl (lv_at hl 0 rfl) ?_
  refine va_get (D := D) (C := R_P) (T := F_P) (N := 11) hx hb hts i_P hown hW.1 hW.2.1 0 rfl rfl 3 (by decide) (hts _ w_85) (fun _ h9 => h9) rfl d_take_30 ?_
  refine lv_iconst (v := 4) hx hb d_take_33 (by decide) ?_
  refine lv_iload hx hb d_take_34 (lv_at hl 5 rfl) ?_
  refine va_iast hx hb hW.1 hW.2.1 hW.2.2.1 hW.2.2.2.1 4 0 rfl rfl (i := 4) (x := x5) (gk_in (show gk_v 4 4 from rfl) (by omega) (by omega)) d_take_36 (fun H locs hP hD hS => ?_)
  have hW : gk_W D vwCl (gk_T cI cL) s A H locs (wd_P cI h tx cs rl (upd (upd (upd (upd (upd gv (0 : Int32).toNatClampNeg x1) (1 : Int32).toNatClampNeg x2) (2 : Int32).toNatClampNeg x3) (3 : Int32).toNatClampNeg x4) (4 : Int32).toNatClampNeg x5) fa1 la1 va1 mn1 fa2 la2 va2 mn2 fa3 la3 va3 mn3 b1 b2 b3 b4 b5 b6 ln lo kn) := ⟨hW.1, hP, hD, hS, hW.2.2.2.2⟩
  refine lv_iconst (v := 0) hx hb d_take_37 (by decide) ?_
  refine lv_istore (lv' := [(6, .int 0), (0, .ref (h 0)), (1, .int x1), (2, .int x2), (3, .int x3), (4, .int x4), (5, .int x5)]) hx hb d_take_38 hl (by decide) rfl (fun ls hl => ?_)
  exact L40 6 0 (upd (upd (upd (upd (upd gv (0 : Int32).toNatClampNeg x1) (1 : Int32).toNatClampNeg x2) (2 : Int32).toNatClampNeg x3) (3 : Int32).toNatClampNeg x4) (4 : Int32).toNatClampNeg x5) H locs ls 0 (show gk_v 0 0 from rfl) (by omega) (by omega) heq hW (lv_sub hl [1, 2, 3, 4, 5, 6, 0] rfl)
def mm_areCharacters_2 (x1 : Int32) (gv : Nat → Int32) : Nat → Int32 → Int32
  | 0, x2 => 0
  | n + 1, x2 => if x1 ≤ x2 then 1 else (if 5 ≤ x2 then 1 else (if (mm_isCharacter (gv x2.toNatClampNeg)) = 0 then 0 else (mm_areCharacters_2 x1 gv n (x2 + 1))))
def mm_areCharacters (x1 : Int32) (gv : Nat → Int32) : Int32 := mm_areCharacters_2 x1 gv 6 0
def rm_areCharacters : Room := { frames := 1, cells := 0, slots := 0, locals := 20 }
set_option maxHeartbeats 4000000 in
set_option maxRecDepth 100000 in
theorem c_areCharacters (l : Launch) (D : va_G) (cI : ClassId) (cL : ClassId × ClassId) (h : Nat → Nat) (tx cs rl gv fa1 la1 va1 : Nat → Int32) (mn1 : Int32) (fa2 la2 va2 : Nat → Int32) (mn2 : Int32) (fa3 la3 va3 : Nat → Int32) (mn3 b1 b2 b3 b4 b5 b6 ln lo kn x1 : Int32) : gk_I l y_areCharacters (.code y_areCharacters b_areCharacters 3 (some .boolean) :: wA) rm_areCharacters D vwCl (gk_T cI cL) [.ref (h 0), .int x1] (wd_P cI h tx cs rl gv fa1 la1 va1 mn1 fa2 la2 va2 mn2 fa3 la3 va3 mn3 b1 b2 b3 b4 b5 b6 ln lo kn) (fun (r : Int32) (_ : Unit) => r = mm_areCharacters x1 gv) (fun (_ : Unit) => (wd_P cI h tx cs rl gv fa1 la1 va1 mn1 fa2 la2 va2 mn2 fa3 la3 va3 mn3 b1 b2 b3 b4 b5 b6 ln lo kn)) 0 0 := by
  refine gk_I.of (by decide) (Nat.le_of_ble_eq_true rfl) ?_
  intro p e s m below meth c A ls Q H locs hx hb hml hown hts hW hl X
  have hl : lv_has ls 3 [(0, .ref (h 0)), (1, .int x1)] := hl
  obtain ⟨tgt, heq⟩ : ∃ t, mm_areCharacters x1 gv = t := ⟨_, rfl⟩
  rw [heq] at X
  rw [mm_areCharacters] at heq
  obtain ⟨z_x1, v_x1⟩ := gk_vex x1
  have L2 : ∀ (n : Nat) (x2 : Int32) (H : Heap) (locs : List Loc) (ls : Array Slot), ∀ (z_x2 : Int), gk_v x2 z_x2 → (5 - z_x2) < (n : Int) → 0 ≤ z_x2 ∧ z_x2 ≤ 5 → mm_areCharacters_2 x1 gv n x2 = tgt → gk_W D vwCl (gk_T cI cL) s A H locs (wd_P cI h tx cs rl gv fa1 la1 va1 mn1 fa2 la2 va2 mn2 fa3 la3 va3 mn3 b1 b2 b3 b4 b5 b6 ln lo kn) → lv_has ls 3 [(0, .ref (h 0)), (1, .int x1), (2, .int x2)] → W p l e rm_areCharacters s m [.ref (h 0), .int x1].toArray below meth c H locs 0 0 Q (F0 m 2 ls []) := by
    intro n
    induction n with
    | zero => intro x2 H locs ls z_x2 v_x2 hm f2_0 heq hW hl; exfalso; omega
    | succ n ih =>
      intro x2 H locs ls z_x2 v_x2 hm f2_0 heq hW hl
      rw [mm_areCharacters_2] at heq
      refine lv_iload_n hx hb d_areCharacters_2 rfl (lv_at hl 2 rfl) ?_
      refine lv_iload_n hx hb d_areCharacters_3 rfl (lv_at hl 1 rfl) ?_
      refine lv_icmp_ge (tgt := 32) hx hb d_areCharacters_4 (by decide) (fun c_1 => ?_) (fun c_1 => ?_)
      · replace heq := (if_pos c_1).symm.trans heq
        have ic_1 := gk_le v_x1 v_x2 c_1
        refine lv_iconst (v := 1) hx hb d_areCharacters_32 (by decide) ?_
        exact X _ () H locs 0 0 33 ls heq hW d_areCharacters_33 rfl (Nat.le_of_ble_eq_true rfl) (Nat.le_of_ble_eq_true rfl)
      · replace heq := (if_neg c_1).symm.trans heq
        have ic_1 := gk_nle v_x1 v_x2 c_1
        refine lv_iload_n hx hb d_areCharacters_7 rfl (lv_at hl 2 rfl) ?_
        refine lv_iconst (v := 5) hx hb d_areCharacters_8 (by decide) ?_
        refine lv_icmp_ge (tgt := 32) hx hb d_areCharacters_9 (by decide) (fun c_2 => ?_) (fun c_2 => ?_)
        · replace heq := (if_pos c_2).symm.trans heq
          have ic_2 := gk_le (show gk_v 5 5 from rfl) v_x2 c_2
          refine lv_iconst (v := 1) hx hb d_areCharacters_32 (by decide) ?_
          exact X _ () H locs 0 0 33 ls heq hW d_areCharacters_33 rfl (Nat.le_of_ble_eq_true rfl) (Nat.le_of_ble_eq_true rfl)
        · replace heq := (if_neg c_2).symm.trans heq
          have ic_2 := gk_nle (show gk_v 5 5 from rfl) v_x2 c_2
          refine lv_aload_n hx hb d_areCharacters_12 rfl (lv_at hl 0 rfl) ?_
          refine va_get (D := D) (C := R_P) (T := F_P) (N := 11) hx hb hts i_P hown hW.1 hW.2.1 0 rfl rfl 3 (by decide) (hts _ w_85) (fun _ h9 => h9) rfl d_areCharacters_13 ?_
          refine lv_iload_n hx hb d_areCharacters_16 rfl (lv_at hl 2 rfl) ?_
          refine va_iald hx hb hW.1 hW.2.1 4 0 rfl rfl (i := x2) (gk_in v_x2 (by omega) (by omega)) d_areCharacters_17 ?_
          refine gk_goR hW [] rfl (va_runS (As := [.int (gv x2.toNatClampNeg)]) (rest := []) ⟨hx, hb, hml, hown, hts⟩ (c_isCharacter l D cI cL (gv x2.toNatClampNeg) _) (gk_cwS hts w_1 w_2 w_3 k_isCharacter rfl e_isCharacter rfl rfl ⟨Nat.le_of_ble_eq_true rfl, Nat.le_of_ble_eq_true rfl⟩) (gk_pre hW [] rfl rfl) rfl rfl hl.1 rfl (lv_room (Nat.le_of_ble_eq_true rfl)) d_areCharacters_18 ⟨Nat.le_of_ble_eq_true rfl, Nat.le_of_ble_eq_true rfl⟩) (fun H locs hW => ?_)
          refine lv_if_ne (tgt := 26) hx hb d_areCharacters_21 (by decide) (fun c_3 => ?_) (fun c_3 => ?_)
          · replace heq := (if_neg c_3).symm.trans heq
            refine lv_iinc (v := x2 + 1) (lv' := [(2, .int (x2 + 1)), (0, .ref (h 0)), (1, .int x1)]) hx hb d_areCharacters_26 hl (k := 2) rfl rfl (by decide) rfl (fun ls hl => ?_)
            obtain ⟨zt_4, vt_4, et_4⟩ := gk_add v_x2 (show gk_v 1 1 from rfl) (by omega) (by omega)
            refine lv_goto (tgt := 2) hx hb d_areCharacters_29 (by decide) ?_
            exact ih (x2 + 1) H locs ls zt_4 vt_4 (by omega) (by omega) heq hW (lv_sub hl [1, 2, 0] rfl)
          · replace heq := (if_pos c_3).symm.trans heq
            refine lv_iconst (v := 0) hx hb d_areCharacters_24 (by decide) ?_
            exact X _ () H locs 0 0 25 ls heq hW d_areCharacters_25 rfl (Nat.le_of_ble_eq_true rfl) (Nat.le_of_ble_eq_true rfl)
  refine lv_iconst (v := 0) hx hb d_areCharacters_0 (by decide) ?_
  refine lv_istore_n (lv' := [(2, .int 0), (0, .ref (h 0)), (1, .int x1)]) hx hb d_areCharacters_1 rfl hl (by decide) rfl (fun ls hl => ?_)
  exact L2 6 0 H locs ls 0 (show gk_v 0 0 from rfl) (by omega) (by omega) heq hW (lv_sub hl [1, 2, 0] rfl)
def mm_putGiven_109 (x1 x2 x3 : Int32) (gv fa1 la1 va1 : Nat → Int32) (mn1 x4 x5 : Int32) (tx cs : Nat → Int32) (b1 b2 b3 b4 b5 b6 ln kn : Int32) : (Nat → Int32) × (Nat → Int32) × Int32 × Int32 × Int32 × Int32 × Int32 × Int32 × Int32 × Int32 := if kn ≤ x1 then (tx, cs, b1, b2, b3, b4, b5, b6, (x1 + x3) + x4, kn) else (match (mm_forgetRules b1 b2 b3 b4 b5 b6 kn) with | (u_2, u_3, u_4, u_5, u_6, u_7, u_8) => (tx, cs, u_2, u_3, u_4, u_5, u_6, u_7, (x1 + x3) + x4, u_8))
def mm_putGiven_50 (x1 x2 x3 : Int32) (gv fa1 la1 va1 : Nat → Int32) (mn1 : Int32) : Nat → Int32 → Int32 → (Nat → Int32) → (Nat → Int32) → Int32 → Int32 → Int32 → Int32 → Int32 → Int32 → Int32 → Int32 → (Nat → Int32) × (Nat → Int32) × Int32 × Int32 × Int32 × Int32 × Int32 × Int32 × Int32 × Int32
  | 0, x4, x5, tx, cs, b1, b2, b3, b4, b5, b6, ln, kn => (tx, cs, b1, b2, b3, b4, b5, b6, ln, kn)
  | n + 1, x4, x5, tx, cs, b1, b2, b3, b4, b5, b6, ln, kn => if x3 ≤ x5 then (mm_putGiven_109 x1 x2 x3 gv fa1 la1 va1 mn1 x4 x5 tx cs b1 b2 b3 b4 b5 b6 ln kn) else (if 5 ≤ x5 then (mm_putGiven_109 x1 x2 x3 gv fa1 la1 va1 mn1 x4 x5 tx cs b1 b2 b3 b4 b5 b6 ln kn) else (mm_putGiven_50 x1 x2 x3 gv fa1 la1 va1 mn1 n x4 (x5 + 1) (upd tx (x1 + x5).toNatClampNeg (gv x5.toNatClampNeg)) (upd cs (x1 + x5).toNatClampNeg (mm_rValueOf (gv x5.toNatClampNeg) 40 fa1 la1 va1 mn1)) b1 b2 b3 b4 b5 b6 ln kn))
def mm_putGiven (x1 x2 x3 : Int32) (tx cs gv fa1 la1 va1 : Nat → Int32) (mn1 b1 b2 b3 b4 b5 b6 ln kn : Int32) : (Nat → Int32) × (Nat → Int32) × Int32 × Int32 × Int32 × Int32 × Int32 × Int32 × Int32 × Int32 := if (ln - x2) ≤ 0 then (mm_putGiven_50 x1 x2 x3 gv fa1 la1 va1 mn1 6 (ln - x2) 0 tx cs b1 b2 b3 b4 b5 b6 ln kn) else (mm_putGiven_50 x1 x2 x3 gv fa1 la1 va1 mn1 6 (ln - x2) 0 (va_cpy tx tx x2.toNatClampNeg (x1 + x3).toNatClampNeg (ln - x2).toNatClampNeg) (va_cpy cs cs x2.toNatClampNeg (x1 + x3).toNatClampNeg (ln - x2).toNatClampNeg) b1 b2 b3 b4 b5 b6 ln kn)
def rm_putGiven : Room := { frames := 2, cells := 0, slots := 0, locals := 60 }
set_option maxHeartbeats 4000000 in
set_option maxRecDepth 100000 in
theorem c_putGiven (l : Launch) (D : va_G) (cI : ClassId) (cL : ClassId × ClassId) (h : Nat → Nat) (tx cs rl gv fa1 la1 va1 : Nat → Int32) (mn1 : Int32) (fa2 la2 va2 : Nat → Int32) (mn2 : Int32) (fa3 la3 va3 : Nat → Int32) (mn3 b1 b2 b3 b4 b5 b6 ln lo kn x1 x2 x3 : Int32) (z_ln : Int) (v_ln : gk_v ln z_ln) (z_mn1 : Int) (v_mn1 : gk_v mn1 z_mn1) (z_x1 : Int) (v_x1 : gk_v x1 z_x1) (z_x2 : Int) (v_x2 : gk_v x2 z_x2) (z_x3 : Int) (v_x3 : gk_v x3 z_x3) (hln : 0 ≤ z_ln ∧ z_ln ≤ 2000) (hm1 : 0 ≤ z_mn1 ∧ z_mn1 ≤ 100) (hpg : 0 ≤ z_x1 ∧ z_x1 ≤ z_x2 ∧ z_x2 ≤ z_ln ∧ 0 ≤ z_x3 ∧ z_x3 ≤ 5 ∧ z_ln - (z_x2 - z_x1) + z_x3 ≤ 2000) : gk_V l y_putGiven (.code y_putGiven b_putGiven 6 none :: wA) rm_putGiven D vwCl (gk_T cI cL) [.ref (h 0), .int x1, .int x2, .int x3] (wd_P cI h tx cs rl gv fa1 la1 va1 mn1 fa2 la2 va2 mn2 fa3 la3 va3 mn3 b1 b2 b3 b4 b5 b6 ln lo kn) (fun (u : (Nat → Int32) × (Nat → Int32) × Int32 × Int32 × Int32 × Int32 × Int32 × Int32 × Int32 × Int32) => u = mm_putGiven x1 x2 x3 tx cs gv fa1 la1 va1 mn1 b1 b2 b3 b4 b5 b6 ln kn) (fun u => (wd_P cI h u.1 u.2.1 rl gv fa1 la1 va1 mn1 fa2 la2 va2 mn2 fa3 la3 va3 mn3 u.2.2.1 u.2.2.2.1 u.2.2.2.2.1 u.2.2.2.2.2.1 u.2.2.2.2.2.2.1 u.2.2.2.2.2.2.2.1 u.2.2.2.2.2.2.2.2.1 lo u.2.2.2.2.2.2.2.2.2)) 0 0 := by
  refine gk_V.of (by decide) (Nat.le_of_ble_eq_true rfl) ?_
  intro p e s m below meth c A ls Q H locs hx hb hml hown hts hin hW hl X
  have hl : lv_has ls 6 [(0, .ref (h 0)), (1, .int x1), (2, .int x2), (3, .int x3)] := hl
  obtain ⟨tgt, heq⟩ : ∃ t, mm_putGiven x1 x2 x3 tx cs gv fa1 la1 va1 mn1 b1 b2 b3 b4 b5 b6 ln kn = t := ⟨_, rfl⟩
  rw [heq] at X
  rw [mm_putGiven] at heq
  obtain ⟨z_kn, v_kn⟩ := gk_vex kn
  have K109 : ∀ (x4 x5 : Int32) (tx cs : Nat → Int32) (b1 b2 b3 b4 b5 b6 ln kn : Int32) (H : Heap) (locs : List Loc) (ls : Array Slot), mm_putGiven_109 x1 x2 x3 gv fa1 la1 va1 mn1 x4 x5 tx cs b1 b2 b3 b4 b5 b6 ln kn = tgt → gk_W D vwCl (gk_T cI cL) s A H locs (wd_P cI h tx cs rl gv fa1 la1 va1 mn1 fa2 la2 va2 mn2 fa3 la3 va3 mn3 b1 b2 b3 b4 b5 b6 ln lo kn) → lv_has ls 6 [(0, .ref (h 0)), (1, .int x1), (2, .int x2), (3, .int x3), (4, .int x4), (5, .int x5)] → W p l e rm_putGiven s m [.ref (h 0), .int x1, .int x2, .int x3].toArray below meth c H locs 0 0 Q (F0 m 109 ls []) := by
    intro x4 x5 tx cs b1 b2 b3 b4 b5 b6 ln kn H locs ls heq hW hl
    rw [mm_putGiven_109] at heq
    refine lv_aload_n hx hb d_putGiven_109 rfl (lv_at hl 0 rfl) ?_
    refine lv_iload_n hx hb d_putGiven_110 rfl (lv_at hl 1 rfl) ?_
    refine lv_iload_n hx hb d_putGiven_111 rfl (lv_at hl 3 rfl) ?_
    refine lv_iadd hx hb d_putGiven_112 ?_
    refine lv_iload hx hb d_putGiven_113 (lv_at hl 4 rfl) ?_
    refine lv_iadd hx hb d_putGiven_115 ?_
    refine va_put (D := D) (ci := 0) (v := .int ((x1 + x3) + x4)) (ty := .int) (C := R_P) (T := F_P) (N := 11) hx hb hts i_P t_P t_P_ok n_P hown hW.1 hW.2.1 hW.2.2.1 hW.2.2.2.1 0 rfl rfl 8 (by decide) (hts _ w_42) (fun _ h9 => h9) rfl (by decide +kernel) rfl rfl (Nat.le_of_ble_eq_true rfl) d_putGiven_116 (fun H locs hP hD hS => ?_)
    have hW : gk_W D vwCl (gk_T cI cL) s A H locs (wd_P cI h tx cs rl gv fa1 la1 va1 mn1 fa2 la2 va2 mn2 fa3 la3 va3 mn3 b1 b2 b3 b4 b5 b6 ((x1 + x3) + x4) lo kn) := ⟨hW.1, hP, hD, hS, hW.2.2.2.2⟩
    refine lv_iload_n hx hb d_putGiven_119 rfl (lv_at hl 1 rfl) ?_
    refine lv_aload_n hx hb d_putGiven_120 rfl (lv_at hl 0 rfl) ?_
    refine va_get (D := D) (C := R_P) (T := F_P) (N := 11) hx hb hts i_P hown hW.1 hW.2.1 0 rfl rfl 10 (by decide) (hts _ w_43) (fun _ h9 => h9) rfl d_putGiven_121 ?_
    refine lv_icmp_ge (tgt := 131) hx hb d_putGiven_124 (by decide) (fun c_1 => ?_) (fun c_1 => ?_)
    · replace heq := (if_pos c_1).symm.trans heq
      exact X (tx, cs, b1, b2, b3, b4, b5, b6, (x1 + x3) + x4, kn) H locs 0 0 131 ls heq hW d_putGiven_131 (Nat.le_of_ble_eq_true rfl) (Nat.le_of_ble_eq_true rfl)
    · replace heq := (if_neg c_1).symm.trans heq
      refine lv_aload_n hx hb d_putGiven_127 rfl (lv_at hl 0 rfl) ?_
      refine gk_goV (wr := []) hW [0, 1, 2, 3, 4, 5, 6, 7, 8, 9, 10, 11, 12, 13, 14, 15, 16, 17] [] rfl rfl (by decide) (by decide) (va_runV (As := []) (rest := []) ⟨hx, hb, hml, hown, hts⟩ (c_forgetRules l D cI cL h tx cs rl gv fa1 la1 va1 mn1 fa2 la2 va2 mn2 fa3 la3 va3 mn3 b1 b2 b3 b4 b5 b6 ((x1 + x3) + x4) lo kn _) (gk_cwV hts w_86 w_87 w_88 w_3 k_forgetRules rfl e_forgetRules rfl rfl ⟨Nat.le_of_ble_eq_true rfl, Nat.le_of_ble_eq_true rfl⟩) (gk_preV hW [0, 1, 2, 3, 4, 5, 6, 7, 8, 9, 10, 11, 12, 13, 14, 15, 16, 17] rfl rfl rfl rfl) rfl rfl hl.1 rfl (lv_room (Nat.le_of_ble_eq_true rfl)) d_putGiven_128 ⟨Nat.le_of_ble_eq_true rfl, Nat.le_of_ble_eq_true rfl⟩) (fun u H locs p_9 hW => ?_)
      obtain ⟨u_2, u_3, u_4, u_5, u_6, u_7, u_8⟩ := u
      have hW : gk_W D vwCl (gk_T cI cL) s A H locs (wd_P cI h tx cs rl gv fa1 la1 va1 mn1 fa2 la2 va2 mn2 fa3 la3 va3 mn3 u_2 u_3 u_4 u_5 u_6 u_7 ((x1 + x3) + x4) lo u_8) := hW.re [0, 1, 2, 3, 4, 5, 6, 7, 8, 9, 10, 11, 12, 13, 14, 15, 16, 17] (by decide) rfl
      rw [← p_9] at heq
      dsimp only at heq
      exact X (tx, cs, u_2, u_3, u_4, u_5, u_6, u_7, (x1 + x3) + x4, u_8) H locs 0 0 131 ls heq hW d_putGiven_131 (Nat.le_of_ble_eq_true rfl) (Nat.le_of_ble_eq_true rfl)
  have L50 : ∀ (n : Nat) (x4 x5 : Int32) (tx cs : Nat → Int32) (b1 b2 b3 b4 b5 b6 ln kn : Int32) (H : Heap) (locs : List Loc) (ls : Array Slot), ∀ (z_x5 : Int), gk_v x5 z_x5 → (5 - z_x5) < (n : Int) → 0 ≤ z_x5 ∧ z_x5 ≤ 5 → mm_putGiven_50 x1 x2 x3 gv fa1 la1 va1 mn1 n x4 x5 tx cs b1 b2 b3 b4 b5 b6 ln kn = tgt → gk_W D vwCl (gk_T cI cL) s A H locs (wd_P cI h tx cs rl gv fa1 la1 va1 mn1 fa2 la2 va2 mn2 fa3 la3 va3 mn3 b1 b2 b3 b4 b5 b6 ln lo kn) → lv_has ls 6 [(0, .ref (h 0)), (1, .int x1), (2, .int x2), (3, .int x3), (4, .int x4), (5, .int x5)] → W p l e rm_putGiven s m [.ref (h 0), .int x1, .int x2, .int x3].toArray below meth c H locs 0 0 Q (F0 m 50 ls []) := by
    intro n
    induction n with
    | zero => intro x4 x5 tx cs b1 b2 b3 b4 b5 b6 ln kn H locs ls z_x5 v_x5 hm f50_0 heq hW hl; exfalso; omega
    | succ n ih =>
      intro x4 x5 tx cs b1 b2 b3 b4 b5 b6 ln kn H locs ls z_x5 v_x5 hm f50_0 heq hW hl
      rw [mm_putGiven_50] at heq
      refine lv_iload hx hb d_putGiven_50 (lv_at hl 5 rfl) ?_
      refine lv_iload_n hx hb d_putGiven_52 rfl (lv_at hl 3 rfl) ?_
      refine lv_icmp_ge (tgt := 109) hx hb d_putGiven_53 (by decide) (fun c_10 => ?_) (fun c_10 => ?_)
      · replace heq := (if_pos c_10).symm.trans heq
        have ic_10 := gk_le v_x3 v_x5 c_10
        exact K109 x4 x5 tx cs b1 b2 b3 b4 b5 b6 ln kn H locs ls heq hW (lv_sub hl [0, 1, 2, 3, 4, 5] rfl)
      · replace heq := (if_neg c_10).symm.trans heq
        have ic_10 := gk_nle v_x3 v_x5 c_10
        refine lv_iload hx hb d_putGiven_56 (lv_at hl 5 rfl) ?_
        refine lv_iconst (v := 5) hx hb d_putGiven_58 (by decide) ?_
        refine lv_icmp_ge (tgt := 109) hx hb d_putGiven_59 (by decide) (fun c_11 => ?_) (fun c_11 => ?_)
        · replace heq := (if_pos c_11).symm.trans heq
          have ic_11 := gk_le (show gk_v 5 5 from rfl) v_x5 c_11
          exact K109 x4 x5 tx cs b1 b2 b3 b4 b5 b6 ln kn H locs ls heq hW (lv_sub hl [0, 1, 2, 3, 4, 5] rfl)
        · replace heq := (if_neg c_11).symm.trans heq
          have ic_11 := gk_nle (show gk_v 5 5 from rfl) v_x5 c_11
          refine lv_aload_n hx hb d_putGiven_62 rfl (lv_at hl 0 rfl) ?_
          refine va_get (D := D) (C := R_P) (T := F_P) (N := 11) hx hb hts i_P hown hW.1 hW.2.1 0 rfl rfl 0 (by decide) (hts _ w_89) (fun _ h9 => h9) rfl d_putGiven_63 ?_
          refine lv_iload_n hx hb d_putGiven_66 rfl (lv_at hl 1 rfl) ?_
          refine lv_iload hx hb d_putGiven_67 (lv_at hl 5 rfl) ?_
          refine lv_iadd hx hb d_putGiven_69 ?_
          obtain ⟨zt_12, vt_12, et_12⟩ := gk_add v_x1 v_x5 (by omega) (by omega)
          refine lv_aload_n hx hb d_putGiven_70 rfl (lv_at hl 0 rfl) ?_
          refine va_get (D := D) (C := R_P) (T := F_P) (N := 11) hx hb hts i_P hown hW.1 hW.2.1 0 rfl rfl 3 (by decide) (hts _ w_85) (fun _ h9 => h9) rfl d_putGiven_71 ?_
          refine lv_iload hx hb d_putGiven_74 (lv_at hl 5 rfl) ?_
          refine va_iald hx hb hW.1 hW.2.1 4 0 rfl rfl (i := x5) (gk_in v_x5 (by omega) (by omega)) d_putGiven_76 ?_
          refine va_iast hx hb hW.1 hW.2.1 hW.2.2.1 hW.2.2.2.1 1 0 rfl rfl (i := x1 + x5) (x := gv x5.toNatClampNeg) (gk_in vt_12 (by omega) (by omega)) d_putGiven_77 (fun H locs hP hD hS => ?_)
          have hW : gk_W D vwCl (gk_T cI cL) s A H locs (wd_P cI h (upd tx (x1 + x5).toNatClampNeg (gv x5.toNatClampNeg)) cs rl gv fa1 la1 va1 mn1 fa2 la2 va2 mn2 fa3 la3 va3 mn3 b1 b2 b3 b4 b5 b6 ln lo kn) := ⟨hW.1, hP, hD, hS, hW.2.2.2.2⟩
          refine lv_aload_n hx hb d_putGiven_78 rfl (lv_at hl 0 rfl) ?_
          refine va_get (D := D) (C := R_P) (T := F_P) (N := 11) hx hb hts i_P hown hW.1 hW.2.1 0 rfl rfl 1 (by decide) (hts _ w_48) (fun _ h9 => h9) rfl d_putGiven_79 ?_
          refine lv_iload_n hx hb d_putGiven_82 rfl (lv_at hl 1 rfl) ?_
          refine lv_iload hx hb d_putGiven_83 (lv_at hl 5 rfl) ?_
          refine lv_iadd hx hb d_putGiven_85 ?_
          obtain ⟨zt_13, vt_13, et_13⟩ := gk_add v_x1 v_x5 (by omega) (by omega)
          refine lv_aload_n hx hb d_putGiven_86 rfl (lv_at hl 0 rfl) ?_
          refine va_get (D := D) (C := R_P) (T := F_P) (N := 11) hx hb hts i_P hown hW.1 hW.2.1 0 rfl rfl 4 (by decide) (hts _ w_90) (fun _ h9 => h9) rfl d_putGiven_87 ?_
          refine lv_aload_n hx hb d_putGiven_90 rfl (lv_at hl 0 rfl) ?_
          refine va_get (D := D) (C := R_P) (T := F_P) (N := 11) hx hb hts i_P hown hW.1 hW.2.1 0 rfl rfl 3 (by decide) (hts _ w_85) (fun _ h9 => h9) rfl d_putGiven_91 ?_
          refine lv_iload hx hb d_putGiven_94 (lv_at hl 5 rfl) ?_
          refine va_iald hx hb hW.1 hW.2.1 4 0 rfl rfl (i := x5) (gk_in v_x5 (by omega) (by omega)) d_putGiven_96 ?_
          refine lv_bipush (v := 40) hx hb d_putGiven_97 (by decide) ?_
          refine gk_goR hW [5, 6, 7, 8] rfl (va_runVN (As := [.int (gv x5.toNatClampNeg), .int 40]) (rest := [.int (x1 + x5), .ref (h 2)]) ⟨hx, hb, hml, hown, hts⟩ (c_rValueOf l D cI cL 100 (h 5) (h 6) (h 7) (h 8) fa1 la1 va1 mn1 (gv x5.toNatClampNeg) 40 z_mn1 v_mn1 (by omega) (by omega) _) (gk_cwVN hts hW.2.2.2.2.2 w_24 w_25 w_26 w_21 k_rValueOf e_rValueOf rfl rfl ⟨Nat.le_of_ble_eq_true rfl, Nat.le_of_ble_eq_true rfl⟩) (gk_preV hW [5, 6, 7, 8] rfl rfl rfl rfl) rfl rfl hl.1 rfl (lv_room (Nat.le_of_ble_eq_true rfl)) d_putGiven_99 ⟨Nat.le_of_ble_eq_true rfl, Nat.le_of_ble_eq_true rfl⟩) (fun H locs hW => ?_)
          refine va_iast hx hb hW.1 hW.2.1 hW.2.2.1 hW.2.2.2.1 2 0 rfl rfl (i := x1 + x5) (x := (mm_rValueOf (gv x5.toNatClampNeg) 40 fa1 la1 va1 mn1)) (gk_in vt_13 (by omega) (by omega)) d_putGiven_102 (fun H locs hP hD hS => ?_)
          have hW : gk_W D vwCl (gk_T cI cL) s A H locs (wd_P cI h (upd tx (x1 + x5).toNatClampNeg (gv x5.toNatClampNeg)) (upd cs (x1 + x5).toNatClampNeg (mm_rValueOf (gv x5.toNatClampNeg) 40 fa1 la1 va1 mn1)) rl gv fa1 la1 va1 mn1 fa2 la2 va2 mn2 fa3 la3 va3 mn3 b1 b2 b3 b4 b5 b6 ln lo kn) := ⟨hW.1, hP, hD, hS, hW.2.2.2.2⟩
          refine lv_iinc (v := x5 + 1) (lv' := [(5, .int (x5 + 1)), (0, .ref (h 0)), (1, .int x1), (2, .int x2), (3, .int x3), (4, .int x4)]) hx hb d_putGiven_103 hl (k := 5) rfl rfl (by decide) rfl (fun ls hl => ?_)
          obtain ⟨zt_14, vt_14, et_14⟩ := gk_add v_x5 (show gk_v 1 1 from rfl) (by omega) (by omega)
          refine lv_goto (tgt := 50) hx hb d_putGiven_106 (by decide) ?_
          exact ih x4 (x5 + 1) (upd tx (x1 + x5).toNatClampNeg (gv x5.toNatClampNeg)) (upd cs (x1 + x5).toNatClampNeg (mm_rValueOf (gv x5.toNatClampNeg) 40 fa1 la1 va1 mn1)) b1 b2 b3 b4 b5 b6 ln kn H locs ls zt_14 vt_14 (by omega) (by omega) heq hW (lv_sub hl [1, 2, 3, 4, 5, 0] rfl)
  refine lv_aload_n hx hb d_putGiven_0 rfl (lv_at hl 0 rfl) ?_
  refine va_get (D := D) (C := R_P) (T := F_P) (N := 11) hx hb hts i_P hown hW.1 hW.2.1 0 rfl rfl 8 (by decide) (hts _ w_42) (fun _ h9 => h9) rfl d_putGiven_1 ?_
  refine lv_iload_n hx hb d_putGiven_4 rfl (lv_at hl 2 rfl) ?_
  refine lv_isub hx hb d_putGiven_5 ?_
  obtain ⟨zt_15, vt_15, et_15⟩ := gk_sub v_ln v_x2 (by omega) (by omega)
  refine lv_istore (lv' := [(4, .int (ln - x2)), (0, .ref (h 0)), (1, .int x1), (2, .int x2), (3, .int x3)]) hx hb d_putGiven_6 hl (by decide) rfl (fun ls hl => ?_)
  refine lv_iload hx hb d_putGiven_8 (lv_at hl 0 rfl) ?_
  refine lv_if_le (tgt := 47) hx hb d_putGiven_10 (by decide) (fun c_16 => ?_) (fun c_16 => ?_)
  · replace heq := (if_pos c_16).symm.trans heq
    have ic_16 := gk_le vt_15 (show gk_v 0 0 from rfl) c_16
    refine lv_iconst (v := 0) hx hb d_putGiven_47 (by decide) ?_
    refine lv_istore (lv' := [(5, .int 0), (4, .int (ln - x2)), (0, .ref (h 0)), (1, .int x1), (2, .int x2), (3, .int x3)]) hx hb d_putGiven_48 hl (by decide) rfl (fun ls hl => ?_)
    exact L50 6 (ln - x2) 0 tx cs b1 b2 b3 b4 b5 b6 ln kn H locs ls 0 (show gk_v 0 0 from rfl) (by omega) (by omega) heq hW (lv_sub hl [2, 3, 4, 5, 1, 0] rfl)
  · replace heq := (if_neg c_16).symm.trans heq
    have ic_16 := gk_nle vt_15 (show gk_v 0 0 from rfl) c_16
    refine lv_aload_n hx hb d_putGiven_13 rfl (lv_at hl 1 rfl) ?_
    refine va_get (D := D) (C := R_P) (T := F_P) (N := 11) hx hb hts i_P hown hW.1 hW.2.1 0 rfl rfl 0 (by decide) (hts _ w_89) (fun _ h9 => h9) rfl d_putGiven_14 ?_
    refine lv_iload_n hx hb d_putGiven_17 rfl (lv_at hl 3 rfl) ?_
    refine lv_aload_n hx hb d_putGiven_18 rfl (lv_at hl 1 rfl) ?_
    refine va_get (D := D) (C := R_P) (T := F_P) (N := 11) hx hb hts i_P hown hW.1 hW.2.1 0 rfl rfl 0 (by decide) (hts _ w_89) (fun _ h9 => h9) rfl d_putGiven_19 ?_
    refine lv_iload_n hx hb d_putGiven_22 rfl (lv_at hl 2 rfl) ?_
    refine lv_iload_n hx hb d_putGiven_23 rfl (lv_at hl 4 rfl) ?_
    refine lv_iadd hx hb d_putGiven_24 ?_
    obtain ⟨zt_17, vt_17, et_17⟩ := gk_add v_x1 v_x3 (by omega) (by omega)
    refine lv_iload hx hb d_putGiven_25 (lv_at hl 0 rfl) ?_
    refine va_copyi hx hb (hml.trans hl.1.symm) hown (hts _ w_91) (hts _ w_92) (hts _ w_93) (hts _ w_94) hW.1 hW.2.1 hW.2.2.1 hW.2.2.2.1 1 1 0 0 rfl rfl rfl rfl rfl (gk_nn v_x2 (by omega)) (gk_nn vt_17 (by omega)) (gk_nn vt_15 (by omega)) (gk_le2 v_x2 vt_15 (by omega) (by omega) (by omega)) (gk_le2 vt_17 vt_15 (by omega) (by omega) (by omega)) (fun _ _ => rfl) (Nat.le_of_ble_eq_true rfl) (Nat.le_of_ble_eq_true rfl) d_putGiven_27 (fun H locs hP hD hS => ?_)
    have hW : gk_W D vwCl (gk_T cI cL) s A H locs (wd_P cI h (va_cpy tx tx x2.toNatClampNeg (x1 + x3).toNatClampNeg (ln - x2).toNatClampNeg) cs rl gv fa1 la1 va1 mn1 fa2 la2 va2 mn2 fa3 la3 va3 mn3 b1 b2 b3 b4 b5 b6 ln lo kn) := ⟨hW.1, hP, hD, hS, hW.2.2.2.2⟩
    refine lv_aload_n hx hb d_putGiven_30 rfl (lv_at hl 1 rfl) ?_
    refine va_get (D := D) (C := R_P) (T := F_P) (N := 11) hx hb hts i_P hown hW.1 hW.2.1 0 rfl rfl 1 (by decide) (hts _ w_48) (fun _ h9 => h9) rfl d_putGiven_31 ?_
    refine lv_iload_n hx hb d_putGiven_34 rfl (lv_at hl 3 rfl) ?_
    refine lv_aload_n hx hb d_putGiven_35 rfl (lv_at hl 1 rfl) ?_
    refine va_get (D := D) (C := R_P) (T := F_P) (N := 11) hx hb hts i_P hown hW.1 hW.2.1 0 rfl rfl 1 (by decide) (hts _ w_48) (fun _ h9 => h9) rfl d_putGiven_36 ?_
    refine lv_iload_n hx hb d_putGiven_39 rfl (lv_at hl 2 rfl) ?_
    refine lv_iload_n hx hb d_putGiven_40 rfl (lv_at hl 4 rfl) ?_
    refine lv_iadd hx hb d_putGiven_41 ?_
    obtain ⟨zt_18, vt_18, et_18⟩ := gk_add v_x1 v_x3 (by omega) (by omega)
    refine lv_iload hx hb d_putGiven_42 (lv_at hl 0 rfl) ?_
    refine va_copyi hx hb (hml.trans hl.1.symm) hown (hts _ w_91) (hts _ w_92) (hts _ w_93) (hts _ w_94) hW.1 hW.2.1 hW.2.2.1 hW.2.2.2.1 2 2 0 0 rfl rfl rfl rfl rfl (gk_nn v_x2 (by omega)) (gk_nn vt_18 (by omega)) (gk_nn vt_15 (by omega)) (gk_le2 v_x2 vt_15 (by omega) (by omega) (by omega)) (gk_le2 vt_18 vt_15 (by omega) (by omega) (by omega)) (fun _ _ => rfl) (Nat.le_of_ble_eq_true rfl) (Nat.le_of_ble_eq_true rfl) d_putGiven_44 (fun H locs hP hD hS => ?_)
    have hW : gk_W D vwCl (gk_T cI cL) s A H locs (wd_P cI h (va_cpy tx tx x2.toNatClampNeg (x1 + x3).toNatClampNeg (ln - x2).toNatClampNeg) (va_cpy cs cs x2.toNatClampNeg (x1 + x3).toNatClampNeg (ln - x2).toNatClampNeg) rl gv fa1 la1 va1 mn1 fa2 la2 va2 mn2 fa3 la3 va3 mn3 b1 b2 b3 b4 b5 b6 ln lo kn) := ⟨hW.1, hP, hD, hS, hW.2.2.2.2⟩
    refine lv_iconst (v := 0) hx hb d_putGiven_47 (by decide) ?_
    refine lv_istore (lv' := [(5, .int 0), (4, .int (ln - x2)), (0, .ref (h 0)), (1, .int x1), (2, .int x2), (3, .int x3)]) hx hb d_putGiven_48 hl (by decide) rfl (fun ls hl => ?_)
    exact L50 6 (ln - x2) 0 (va_cpy tx tx x2.toNatClampNeg (x1 + x3).toNatClampNeg (ln - x2).toNatClampNeg) (va_cpy cs cs x2.toNatClampNeg (x1 + x3).toNatClampNeg (ln - x2).toNatClampNeg) b1 b2 b3 b4 b5 b6 ln kn H locs ls 0 (show gk_v 0 0 from rfl) (by omega) (by omega) heq hW (lv_sub hl [2, 3, 4, 5, 1, 0] rfl)
