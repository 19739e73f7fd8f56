def mm_bStart (b1 b2 b3 b4 b5 b6 : Int32) : Int32 × Int32 × Int32 × Int32 × Int32 × Int32 := ((-1), (-1), (-1), (-1), (-1), 0)
def rm_bStart : Room := { frames := 0, cells := 0, slots := 0, locals := 0 }
set_option maxHeartbeats 4000000 in
set_option maxRecDepth 100000 in
theorem c_bStart (l : Launch) (D : va_G) (cI : ClassId) (cL : ClassId × ClassId) (a0 : Nat) (b1 b2 b3 b4 b5 b6 : Int32) : gk_V l y_bStart (.code y_bStart b_bStart 1 none :: wA) rm_bStart D vwCl (gk_T cI cL) [.ref a0] (wd_B a0 b1 b2 b3 b4 b5 b6) (fun (u : Int32 × Int32 × Int32 × Int32 × Int32 × Int32) => u = mm_bStart b1 b2 b3 b4 b5 b6) (fun u => (wd_B a0 u.1 u.2.1 u.2.2.1 u.2.2.2.1 u.2.2.2.2.1 u.2.2.2.2.2)) 0 0 := by
  refine gk_V.of (by decide) (Nat.le_of_ble_eq_true rfl) ?_
  intro p e s m below meth c A ls Q H locs hx hb hml hown hts hin hW hl X
  have hl : lv_has ls 1 [(0, .ref a0)] := hl
  obtain ⟨tgt, heq⟩ : ∃ t, mm_bStart b1 b2 b3 b4 b5 b6 = t := ⟨_, rfl⟩
  rw [heq] at X
  rw [mm_bStart] at heq
  refine lv_aload_n hx hb d_bStart_0 rfl (lv_at hl 0 rfl) ?_
  refine lv_iconst (v := (-1)) hx hb d_bStart_1 (by decide) ?_
  refine va_put (D := D) (ci := 2) (v := .int (-1)) (ty := .int) (C := R_B) (T := F_B) (N := 6) hx hb hts i_B t_B t_B_ok n_B hown hW.1 hW.2.1 hW.2.2.1 hW.2.2.2.1 0 rfl rfl 0 (by decide) (hts _ w_27) (fun _ h9 => h9) rfl (by decide +kernel) rfl rfl (Nat.le_of_ble_eq_true rfl) d_bStart_2 (fun H locs hP hD hS => ?_)
  have hW : gk_W D vwCl (gk_T cI cL) s A H locs (wd_B a0 (-1) b2 b3 b4 b5 b6) := ⟨hW.1, hP, hD, hS, hW.2.2.2.2⟩
  refine lv_aload_n hx hb d_bStart_5 rfl (lv_at hl 0 rfl) ?_
  refine lv_iconst (v := (-1)) hx hb d_bStart_6 (by decide) ?_
  refine va_put (D := D) (ci := 2) (v := .int (-1)) (ty := .int) (C := R_B) (T := F_B) (N := 6) hx hb hts i_B t_B t_B_ok n_B hown hW.1 hW.2.1 hW.2.2.1 hW.2.2.2.1 0 rfl rfl 1 (by decide) (hts _ w_28) (fun _ h9 => h9) rfl (by decide +kernel) rfl rfl (Nat.le_of_ble_eq_true rfl) d_bStart_7 (fun H locs hP hD hS => ?_)
  have hW : gk_W D vwCl (gk_T cI cL) s A H locs (wd_B a0 (-1) (-1) b3 b4 b5 b6) := ⟨hW.1, hP, hD, hS, hW.2.2.2.2⟩
  refine lv_aload_n hx hb d_bStart_10 rfl (lv_at hl 0 rfl) ?_
  refine lv_iconst (v := (-1)) hx hb d_bStart_11 (by decide) ?_
  refine va_put (D := D) (ci := 2) (v := .int (-1)) (ty := .int) (C := R_B) (T := F_B) (N := 6) hx hb hts i_B t_B t_B_ok n_B hown hW.1 hW.2.1 hW.2.2.1 hW.2.2.2.1 0 rfl rfl 2 (by decide) (hts _ w_29) (fun _ h9 => h9) rfl (by decide +kernel) rfl rfl (Nat.le_of_ble_eq_true rfl) d_bStart_12 (fun H locs hP hD hS => ?_)
  have hW : gk_W D vwCl (gk_T cI cL) s A H locs (wd_B a0 (-1) (-1) (-1) b4 b5 b6) := ⟨hW.1, hP, hD, hS, hW.2.2.2.2⟩
  refine lv_aload_n hx hb d_bStart_15 rfl (lv_at hl 0 rfl) ?_
  refine lv_iconst (v := (-1)) hx hb d_bStart_16 (by decide) ?_
  refine va_put (D := D) (ci := 2) (v := .int (-1)) (ty := .int) (C := R_B) (T := F_B) (N := 6) hx hb hts i_B t_B t_B_ok n_B hown hW.1 hW.2.1 hW.2.2.1 hW.2.2.2.1 0 rfl rfl 3 (by decide) (hts _ w_30) (fun _ h9 => h9) rfl (by decide +kernel) rfl rfl (Nat.le_of_ble_eq_true rfl) d_bStart_17 (fun H locs hP hD hS => ?_)
  have hW : gk_W D vwCl (gk_T cI cL) s A H locs (wd_B a0 (-1) (-1) (-1) (-1) b5 b6) := ⟨hW.1, hP, hD, hS, hW.2.2.2.2⟩
  refine lv_aload_n hx hb d_bStart_20 rfl (lv_at hl 0 rfl) ?_
  refine lv_iconst (v := (-1)) hx hb d_bStart_21 (by decide) ?_
  refine va_put (D := D) (ci := 2) (v := .int (-1)) (ty := .int) (C := R_B) (T := F_B) (N := 6) hx hb hts i_B t_B t_B_ok n_B hown hW.1 hW.2.1 hW.2.2.1 hW.2.2.2.1 0 rfl rfl 4 (by decide) (hts _ w_31) (fun _ h9 => h9) rfl (by decide +kernel) rfl rfl (Nat.le_of_ble_eq_true rfl) d_bStart_22 (fun H locs hP hD hS => ?_)
  have hW : gk_W D vwCl (gk_T cI cL) s A H locs (wd_B a0 (-1) (-1) (-1) (-1) (-1) b6) := ⟨hW.1, hP, hD, hS, hW.2.2.2.2⟩
  refine lv_aload_n hx hb d_bStart_25 rfl (lv_at hl 0 rfl) ?_
  refine lv_iconst (v := 0) hx hb d_bStart_26 (by decide) ?_
  refine va_put (D := D) (ci := 2) (v := .int 0) (ty := .boolean) (C := R_B) (T := F_B) (N := 6) hx hb hts i_B t_B t_B_ok n_B hown hW.1 hW.2.1 hW.2.2.1 hW.2.2.2.1 0 rfl rfl 5 (by decide) (hts _ w_32) (fun _ h9 => h9) rfl (by decide +kernel) rfl rfl (Nat.le_of_ble_eq_true rfl) d_bStart_27 (fun H locs hP hD hS => ?_)
  have hW : gk_W D vwCl (gk_T cI cL) s A H locs (wd_B a0 (-1) (-1) (-1) (-1) (-1) 0) := ⟨hW.1, hP, hD, hS, hW.2.2.2.2⟩
  exact X ((-1), (-1), (-1), (-1), (-1), 0) H locs 0 0 30 ls heq hW d_bStart_30 (Nat.le_of_ble_eq_true rfl) (Nat.le_of_ble_eq_true rfl)
def mm_bLeavesout (x1 b1 : Int32) : Int32 := if (mm_isIn x1 384) = 0 then 0 else (if b1 = (-1) then 0 else (if (mm_isIn b1 63) = 0 then 1 else 0))
def rm_bLeavesout : Room := { frames := 1, cells := 0, slots := 0, locals := 22 }
set_option maxHeartbeats 4000000 in
set_option maxRecDepth 100000 in
theorem c_bLeavesout (l : Launch) (D : va_G) (cI : ClassId) (cL : ClassId × ClassId) (a0 : Nat) (b1 b2 b3 b4 b5 b6 x1 : Int32) : gk_I l y_bLeavesout (.code y_bLeavesout b_bLeavesout 2 (some .boolean) :: wA) rm_bLeavesout D vwCl (gk_T cI cL) [.ref a0, .int x1] (wd_B a0 b1 b2 b3 b4 b5 b6) (fun (r : Int32) (_ : Unit) => r = mm_bLeavesout x1 b1) (fun (_ : Unit) => (wd_B a0 b1 b2 b3 b4 b5 b6)) 0 0 := by
  refine gk_I.of (by decide) (Nat.le_of_ble_eq_true rfl) ?_
  intro p e s m below meth c A ls Q H locs hx hb hml hown hts hW hl X
  have hl : lv_has ls 2 [(0, .ref a0), (1, .int x1)] := hl
  obtain ⟨tgt, heq⟩ : ∃ t, mm_bLeavesout x1 b1 = t := ⟨_, rfl⟩
  rw [heq] at X
  rw [mm_bLeavesout] at heq
  refine lv_iload_n hx hb d_bLeavesout_0 rfl (lv_at hl 1 rfl) ?_
  refine lv_ldc2 (v := 384) hx hb hown (hts _ w_33) d_bLeavesout_1 ?_
  refine gk_goR hW [] rfl (va_runSN (As := [.int x1, .long 384]) (rest := []) ⟨hx, hb, hml, hown, hts⟩ (c_isIn l D cI cL x1 384 _) (gk_cwSN hts hW.2.2.2.2.2 w_34 w_6 w_3 k_isIn e_isIn rfl rfl ⟨Nat.le_of_ble_eq_true rfl, Nat.le_of_ble_eq_true rfl⟩) (gk_pre hW [] rfl rfl) rfl rfl hl.1 rfl (lv_room (Nat.le_of_ble_eq_true rfl)) d_bLeavesout_4 ⟨Nat.le_of_ble_eq_true rfl, Nat.le_of_ble_eq_true rfl⟩) (fun H locs hW => ?_)
  refine lv_if_eq (tgt := 35) hx hb d_bLeavesout_7 (by decide) (fun c_1 => ?_) (fun c_1 => ?_)
  · replace heq := (if_pos c_1).symm.trans heq
    refine lv_iconst (v := 0) hx hb d_bLeavesout_35 (by decide) ?_
    exact X _ () H locs 0 0 36 ls heq hW d_bLeavesout_36 rfl (Nat.le_of_ble_eq_true rfl) (Nat.le_of_ble_eq_true rfl)
  · replace heq := (if_neg c_1).symm.trans heq
    refine lv_aload_n hx hb d_bLeavesout_10 rfl (lv_at hl 0 rfl) ?_
    refine va_get (D := D) (C := R_B) (T := F_B) (N := 6) hx hb hts i_B hown hW.1 hW.2.1 0 rfl rfl 0 (by decide) (hts _ w_27) (fun _ h9 => h9) rfl d_bLeavesout_11 ?_
    refine lv_iconst (v := (-1)) hx hb d_bLeavesout_14 (by decide) ?_
    refine lv_icmp_eq (tgt := 35) hx hb d_bLeavesout_15 (by decide) (fun c_2 => ?_) (fun c_2 => ?_)
    · replace heq := (if_pos c_2).symm.trans heq
      refine lv_iconst (v := 0) hx hb d_bLeavesout_35 (by decide) ?_
      exact X _ () H locs 0 0 36 ls heq hW d_bLeavesout_36 rfl (Nat.le_of_ble_eq_true rfl) (Nat.le_of_ble_eq_true rfl)
    · replace heq := (if_neg c_2).symm.trans heq
      refine lv_aload_n hx hb d_bLeavesout_18 rfl (lv_at hl 0 rfl) ?_
      refine va_get (D := D) (C := R_B) (T := F_B) (N := 6) hx hb hts i_B hown hW.1 hW.2.1 0 rfl rfl 0 (by decide) (hts _ w_27) (fun _ h9 => h9) rfl d_bLeavesout_19 ?_
      refine lv_ldc2 (v := 63) hx hb hown (hts _ w_35) d_bLeavesout_22 ?_
      refine gk_goR hW [] rfl (va_runSN (As := [.int b1, .long 63]) (rest := []) ⟨hx, hb, hml, hown, hts⟩ (c_isIn l D cI cL b1 63 _) (gk_cwSN hts hW.2.2.2.2.2 w_34 w_6 w_3 k_isIn e_isIn rfl rfl ⟨Nat.le_of_ble_eq_true rfl, Nat.le_of_ble_eq_true rfl⟩) (gk_pre hW [] rfl rfl) rfl rfl hl.1 rfl (lv_room (Nat.le_of_ble_eq_true rfl)) d_bLeavesout_25 ⟨Nat.le_of_ble_eq_true rfl, Nat.le_of_ble_eq_true rfl⟩) (fun H locs hW => ?_)
      refine lv_if_ne (tgt := 35) hx hb d_bLeavesout_28 (by decide) (fun c_3 => ?_) (fun c_3 => ?_)
      · replace heq := (if_neg c_3).symm.trans heq
        refine lv_iconst (v := 0) hx hb d_bLeavesout_35 (by decide) ?_
        exact X _ () H locs 0 0 36 ls heq hW d_bLeavesout_36 rfl (Nat.le_of_ble_eq_true rfl) (Nat.le_of_ble_eq_true rfl)
      · replace heq := (if_pos c_3).symm.trans heq
        refine lv_iconst (v := 1) hx hb d_bLeavesout_31 (by decide) ?_
        refine lv_goto (tgt := 36) hx hb d_bLeavesout_32 (by decide) ?_
        exact X _ () H locs 0 0 36 ls heq hW d_bLeavesout_36 rfl (Nat.le_of_ble_eq_true rfl) (Nat.le_of_ble_eq_true rfl)
def mm_bPass_53 (x1 x2 x3 b1 b2 b3 b4 b5 b6 : Int32) : Int32 × Int32 × Int32 × Int32 × Int32 × Int32 := if b2 = 37 then (if b6 = 0 then (b1, b2, b3, b4, b5, 1) else (b1, b2, b3, b4, b5, 0)) else (b1, b2, b3, b4, b5, 0)
def mm_bPass (x1 x2 b1 b2 b3 b4 b5 b6 : Int32) : Int32 × Int32 × Int32 × Int32 × Int32 × Int32 := if (mm_bLeavesout x1 b1) = 0 then (if (mm_standsFor x1) = 4 then (mm_bPass_53 x1 x2 (mm_bLeavesout x1 b1) x1 (mm_standsFor x1) x2 b2 b5 b6) else (mm_bPass_53 x1 x2 (mm_bLeavesout x1 b1) x1 (mm_standsFor x1) x2 b2 (mm_standsFor x1) b6)) else (x1, b2, b3, b4, b5, b6)
def rm_bPass : Room := { frames := 2, cells := 0, slots := 0, locals := 43 }
set_option maxHeartbeats 4000000 in
set_option maxRecDepth 100000 in
theorem c_bPass (l : Launch) (D : va_G) (cI : ClassId) (cL : ClassId × ClassId) (a0 : Nat) (b1 b2 b3 b4 b5 b6 x1 x2 : Int32) : gk_V l y_bPass (.code y_bPass b_bPass 4 none :: wA) rm_bPass D vwCl (gk_T cI cL) [.ref a0, .int x1, .int x2] (wd_B a0 b1 b2 b3 b4 b5 b6) (fun (u : Int32 × Int32 × Int32 × Int32 × Int32 × Int32) => u = mm_bPass x1 x2 b1 b2 b3 b4 b5 b6) (fun u => (wd_B a0 u.1 u.2.1 u.2.2.1 u.2.2.2.1 u.2.2.2.2.1 u.2.2.2.2.2)) 0 0 := by
  refine gk_V.of (by decide) (Nat.le_of_ble_eq_true rfl) ?_
  intro p e s m below meth c A ls Q H locs hx hb hml hown hts hin hW hl X
  have hl : lv_has ls 4 [(0, .ref a0), (1, .int x1), (2, .int x2)] := hl
  obtain ⟨tgt, heq⟩ : ∃ t, mm_bPass x1 x2 b1 b2 b3 b4 b5 b6 = t := ⟨_, rfl⟩
  rw [heq] at X
  rw [mm_bPass] at heq
  have K53 : ∀ (x3 b1 b2 b3 b4 b5 b6 : Int32) (H : Heap) (locs : List Loc) (ls : Array Slot), mm_bPass_53 x1 x2 x3 b1 b2 b3 b4 b5 b6 = tgt → gk_W D vwCl (gk_T cI cL) s A H locs (wd_B a0 b1 b2 b3 b4 b5 b6) → lv_has ls 4 [(0, .ref a0), (1, .int x1), (2, .int x2), (3, .int x3)] → W p l e rm_bPass s m [.ref a0, .int x1, .int x2].toArray below meth c H locs 0 0 Q (F0 m 53 ls []) := by
    intro x3 b1 b2 b3 b4 b5 b6 H locs ls heq hW hl
    rw [mm_bPass_53] at heq
    refine lv_aload_n hx hb d_bPass_53 rfl (lv_at hl 0 rfl) ?_
    refine lv_aload_n hx hb d_bPass_54 rfl (lv_at hl 0 rfl) ?_
    refine va_get (D := D) (C := R_B) (T := F_B) (N := 6) hx hb hts i_B hown hW.1 hW.2.1 0 rfl rfl 1 (by decide) (hts _ w_28) (fun _ h9 => h9) rfl d_bPass_55 ?_
    refine lv_bipush (v := 37) hx hb d_bPass_58 (by decide) ?_
    refine lv_icmp_ne (tgt := 74) hx hb d_bPass_60 (by decide) (fun c_1 => ?_) (fun c_1 => ?_)
    · replace heq := (if_neg c_1).symm.trans heq
      refine lv_iconst (v := 0) hx hb d_bPass_74 (by decide) ?_
      refine va_put (D := D) (ci := 2) (v := .int 0) (ty := .boolean) (C := R_B) (T := F_B) (N := 6) hx hb hts i_B t_B t_B_ok n_B hown hW.1 hW.2.1 hW.2.2.1 hW.2.2.2.1 0 rfl rfl 5 (by decide) (hts _ w_32) (fun _ h9 => h9) rfl (by decide +kernel) rfl rfl (Nat.le_of_ble_eq_true rfl) d_bPass_75 (fun H locs hP hD hS => ?_)
      have hW : gk_W D vwCl (gk_T cI cL) s A H locs (wd_B a0 b1 b2 b3 b4 b5 0) := ⟨hW.1, hP, hD, hS, hW.2.2.2.2⟩
      exact X (b1, b2, b3, b4, b5, 0) H locs 0 0 78 ls heq hW d_bPass_78 (Nat.le_of_ble_eq_true rfl) (Nat.le_of_ble_eq_true rfl)
    · replace heq := (if_pos c_1).symm.trans heq
      refine lv_aload_n hx hb d_bPass_63 rfl (lv_at hl 0 rfl) ?_
      refine va_get (D := D) (C := R_B) (T := F_B) (N := 6) hx hb hts i_B hown hW.1 hW.2.1 0 rfl rfl 5 (by decide) (hts _ w_32) (fun _ h9 => h9) rfl d_bPass_64 ?_
      refine lv_if_ne (tgt := 74) hx hb d_bPass_67 (by decide) (fun c_2 => ?_) (fun c_2 => ?_)
      · replace heq := (if_neg c_2).symm.trans heq
        refine lv_iconst (v := 0) hx hb d_bPass_74 (by decide) ?_
        refine va_put (D := D) (ci := 2) (v := .int 0) (ty := .boolean) (C := R_B) (T := F_B) (N := 6) hx hb hts i_B t_B t_B_ok n_B hown hW.1 hW.2.1 hW.2.2.1 hW.2.2.2.1 0 rfl rfl 5 (by decide) (hts _ w_32) (fun _ h9 => h9) rfl (by decide +kernel) rfl rfl (Nat.le_of_ble_eq_true rfl) d_bPass_75 (fun H locs hP hD hS => ?_)
        have hW : gk_W D vwCl (gk_T cI cL) s A H locs (wd_B a0 b1 b2 b3 b4 b5 0) := ⟨hW.1, hP, hD, hS, hW.2.2.2.2⟩
        exact X (b1, b2, b3, b4, b5, 0) H locs 0 0 78 ls heq hW d_bPass_78 (Nat.le_of_ble_eq_true rfl) (Nat.le_of_ble_eq_true rfl)
      · replace heq := (if_pos c_2).symm.trans heq
        refine lv_iconst (v := 1) hx hb d_bPass_70 (by decide) ?_
        refine lv_goto (tgt := 75) hx hb d_bPass_71 (by decide) ?_
        refine va_put (D := D) (ci := 2) (v := .int 1) (ty := .boolean) (C := R_B) (T := F_B) (N := 6) hx hb hts i_B t_B t_B_ok n_B hown hW.1 hW.2.1 hW.2.2.1 hW.2.2.2.1 0 rfl rfl 5 (by decide) (hts _ w_32) (fun _ h9 => h9) rfl (by decide +kernel) rfl rfl (Nat.le_of_ble_eq_true rfl) d_bPass_75 (fun H locs hP hD hS => ?_)
        have hW : gk_W D vwCl (gk_T cI cL) s A H locs (wd_B a0 b1 b2 b3 b4 b5 1) := ⟨hW.1, hP, hD, hS, hW.2.2.2.2⟩
        exact X (b1, b2, b3, b4, b5, 1) H locs 0 0 78 ls heq hW d_bPass_78 (Nat.le_of_ble_eq_true rfl) (Nat.le_of_ble_eq_true rfl)
  refine lv_aload_n hx hb d_bPass_0 rfl (lv_at hl 0 rfl) ?_
  refine lv_iload_n hx hb d_bPass_1 rfl (lv_at hl 1 rfl) ?_
  refine gk_goR hW [0] rfl (va_runV (As := [.int x1]) (rest := []) ⟨hx, hb, hml, hown, hts⟩ (c_bLeavesout l D cI cL a0 b1 b2 b3 b4 b5 b6 x1 _) (gk_cwV hts w_36 w_37 w_38 w_39 k_bLeavesout rfl e_bLeavesout rfl rfl ⟨Nat.le_of_ble_eq_true rfl, Nat.le_of_ble_eq_true rfl⟩) (gk_preV hW [0] rfl rfl rfl rfl) rfl rfl hl.1 rfl (lv_room (Nat.le_of_ble_eq_true rfl)) d_bPass_2 ⟨Nat.le_of_ble_eq_true rfl, Nat.le_of_ble_eq_true rfl⟩) (fun H locs hW => ?_)
  refine lv_istore_n (lv' := [(3, .int (mm_bLeavesout x1 b1)), (0, .ref a0), (1, .int x1), (2, .int x2)]) hx hb d_bPass_5 rfl hl (by decide) rfl (fun ls hl => ?_)
  refine lv_aload_n hx hb d_bPass_6 rfl (lv_at hl 1 rfl) ?_
  refine lv_iload_n hx hb d_bPass_7 rfl (lv_at hl 2 rfl) ?_
  refine va_put (D := D) (ci := 2) (v := .int x1) (ty := .int) (C := R_B) (T := F_B) (N := 6) hx hb hts i_B t_B t_B_ok n_B hown hW.1 hW.2.1 hW.2.2.1 hW.2.2.2.1 0 rfl rfl 0 (by decide) (hts _ w_27) (fun _ h9 => h9) rfl (by decide +kernel) rfl rfl (Nat.le_of_ble_eq_true rfl) d_bPass_8 (fun H locs hP hD hS => ?_)
  have hW : gk_W D vwCl (gk_T cI cL) s A H locs (wd_B a0 x1 b2 b3 b4 b5 b6) := ⟨hW.1, hP, hD, hS, hW.2.2.2.2⟩
  refine lv_iload_n hx hb d_bPass_11 rfl (lv_at hl 0 rfl) ?_
  refine lv_if_eq (tgt := 16) hx hb d_bPass_12 (by decide) (fun c_3 => ?_) (fun c_3 => ?_)
  · replace heq := (if_pos c_3).symm.trans heq
    refine lv_aload_n hx hb d_bPass_16 rfl (lv_at hl 1 rfl) ?_
    refine lv_aload_n hx hb d_bPass_17 rfl (lv_at hl 1 rfl) ?_
    refine va_get (D := D) (C := R_B) (T := F_B) (N := 6) hx hb hts i_B hown hW.1 hW.2.1 0 rfl rfl 1 (by decide) (hts _ w_28) (fun _ h9 => h9) rfl d_bPass_18 ?_
    refine va_put (D := D) (ci := 2) (v := .int b2) (ty := .int) (C := R_B) (T := F_B) (N := 6) hx hb hts i_B t_B t_B_ok n_B hown hW.1 hW.2.1 hW.2.2.1 hW.2.2.2.1 0 rfl rfl 3 (by decide) (hts _ w_30) (fun _ h9 => h9) rfl (by decide +kernel) rfl rfl (Nat.le_of_ble_eq_true rfl) d_bPass_21 (fun H locs hP hD hS => ?_)
    have hW : gk_W D vwCl (gk_T cI cL) s A H locs (wd_B a0 x1 b2 b3 b2 b5 b6) := ⟨hW.1, hP, hD, hS, hW.2.2.2.2⟩
    refine lv_aload_n hx hb d_bPass_24 rfl (lv_at hl 1 rfl) ?_
    refine lv_iload_n hx hb d_bPass_25 rfl (lv_at hl 2 rfl) ?_
    refine gk_goR hW [] rfl (va_runSN (As := [.int x1]) (rest := [.ref a0]) ⟨hx, hb, hml, hown, hts⟩ (c_standsFor l D cI cL x1 _) (gk_cwSN hts hW.2.2.2.2.2 w_40 w_41 w_3 k_standsFor e_standsFor rfl rfl ⟨Nat.le_of_ble_eq_true rfl, Nat.le_of_ble_eq_true rfl⟩) (gk_pre hW [] rfl rfl) rfl rfl hl.1 rfl (lv_room (Nat.le_of_ble_eq_true rfl)) d_bPass_26 ⟨Nat.le_of_ble_eq_true rfl, Nat.le_of_ble_eq_true rfl⟩) (fun H locs hW => ?_)
    refine va_put (D := D) (ci := 2) (v := .int (mm_standsFor x1)) (ty := .int) (C := R_B) (T := F_B) (N := 6) hx hb hts i_B t_B t_B_ok n_B hown hW.1 hW.2.1 hW.2.2.1 hW.2.2.2.1 0 rfl rfl 1 (by decide) (hts _ w_28) (fun _ h9 => h9) rfl (by decide +kernel) rfl rfl (Nat.le_of_ble_eq_true rfl) d_bPass_29 (fun H locs hP hD hS => ?_)
    have hW : gk_W D vwCl (gk_T cI cL) s A H locs (wd_B a0 x1 (mm_standsFor x1) b3 b2 b5 b6) := ⟨hW.1, hP, hD, hS, hW.2.2.2.2⟩
    refine lv_aload_n hx hb d_bPass_32 rfl (lv_at hl 1 rfl) ?_
    refine lv_iload_n hx hb d_bPass_33 rfl (lv_at hl 3 rfl) ?_
    refine va_put (D := D) (ci := 2) (v := .int x2) (ty := .int) (C := R_B) (T := F_B) (N := 6) hx hb hts i_B t_B t_B_ok n_B hown hW.1 hW.2.1 hW.2.2.1 hW.2.2.2.1 0 rfl rfl 2 (by decide) (hts _ w_29) (fun _ h9 => h9) rfl (by decide +kernel) rfl rfl (Nat.le_of_ble_eq_true rfl) d_bPass_34 (fun H locs hP hD hS => ?_)
    have hW : gk_W D vwCl (gk_T cI cL) s A H locs (wd_B a0 x1 (mm_standsFor x1) x2 b2 b5 b6) := ⟨hW.1, hP, hD, hS, hW.2.2.2.2⟩
    refine lv_aload_n hx hb d_bPass_37 rfl (lv_at hl 1 rfl) ?_
    refine va_get (D := D) (C := R_B) (T := F_B) (N := 6) hx hb hts i_B hown hW.1 hW.2.1 0 rfl rfl 1 (by decide) (hts _ w_28) (fun _ h9 => h9) rfl d_bPass_38 ?_
    refine lv_iconst (v := 4) hx hb d_bPass_41 (by decide) ?_
    refine lv_icmp_eq (tgt := 53) hx hb d_bPass_42 (by decide) (fun c_4 => ?_) (fun c_4 => ?_)
    · replace heq := (if_pos c_4).symm.trans heq
      exact K53 (mm_bLeavesout x1 b1) x1 (mm_standsFor x1) x2 b2 b5 b6 H locs ls heq hW (lv_sub hl [1, 2, 3, 0] rfl)
    · replace heq := (if_neg c_4).symm.trans heq
      refine lv_aload_n hx hb d_bPass_45 rfl (lv_at hl 1 rfl) ?_
      refine lv_aload_n hx hb d_bPass_46 rfl (lv_at hl 1 rfl) ?_
      refine va_get (D := D) (C := R_B) (T := F_B) (N := 6) hx hb hts i_B hown hW.1 hW.2.1 0 rfl rfl 1 (by decide) (hts _ w_28) (fun _ h9 => h9) rfl d_bPass_47 ?_
      refine va_put (D := D) (ci := 2) (v := .int (mm_standsFor x1)) (ty := .int) (C := R_B) (T := F_B) (N := 6) hx hb hts i_B t_B t_B_ok n_B hown hW.1 hW.2.1 hW.2.2.1 hW.2.2.2.1 0 rfl rfl 4 (by decide) (hts _ w_31) (fun _ h9 => h9) rfl (by decide +kernel) rfl rfl (Nat.le_of_ble_eq_true rfl) d_bPass_50 (fun H locs hP hD hS => ?_)
      have hW : gk_W D vwCl (gk_T cI cL) s A H locs (wd_B a0 x1 (mm_standsFor x1) x2 b2 (mm_standsFor x1) b6) := ⟨hW.1, hP, hD, hS, hW.2.2.2.2⟩
      exact K53 (mm_bLeavesout x1 b1) x1 (mm_standsFor x1) x2 b2 (mm_standsFor x1) b6 H locs ls heq hW (lv_sub hl [1, 2, 3, 0] rfl)
  · replace heq := (if_neg c_3).symm.trans heq
    exact X (x1, b2, b3, b4, b5, b6) H locs 0 0 15 ls heq hW d_bPass_15 (Nat.le_of_ble_eq_true rfl) (Nat.le_of_ble_eq_true rfl)
