def mm_rIsFull (N : Nat) (mn : Int32) : Int32 := if mn < (nI N) then 0 else 1
def rm_rIsFull : Room := { frames := 0, cells := 0, slots := 0, locals := 0 }
set_option maxHeartbeats 4000000 in
set_option maxRecDepth 100000 in
theorem c_rIsFull (l : Launch) (D : va_G) (cI : ClassId) (cL : ClassId × ClassId) (N a0 a1 a2 a3 : Nat) (fa la va : Nat → Int32) (mn : Int32) (z_mn : Int) (v_mn : gk_v mn z_mn) (hN : (N : Int) ≤ 100) (hmn : 0 ≤ z_mn ∧ z_mn ≤ (N : Int)) : gk_I l y_rIsFull (.code y_rIsFull b_rIsFull 1 (some .boolean) :: wA) rm_rIsFull D vwCl (gk_T cI cL) [.ref a0] (wd_R cI N a0 a1 a2 a3 fa la va mn) (fun (r : Int32) (_ : Unit) => r = mm_rIsFull N mn) (fun (_ : Unit) => (wd_R cI N a0 a1 a2 a3 fa la va mn)) 0 0 := by
  refine gk_I.of (by decide) (Nat.le_of_ble_eq_true rfl) ?_
  intro p e s m below meth c A ls Q H locs hx hb hml hown hts hW hl X
  have hl : lv_has ls 1 [(0, .ref a0)] := hl
  obtain ⟨tgt, heq⟩ : ∃ t, mm_rIsFull N mn = t := ⟨_, rfl⟩
  rw [heq] at X
  rw [mm_rIsFull] at heq
  refine lv_aload_n hx hb d_rIsFull_0 rfl (lv_at hl 0 rfl) ?_
  refine va_get (D := D) (C := R_R) (T := F_R) (N := 4) hx hb hts i_R hown hW.1 hW.2.1 0 rfl rfl 3 (by decide) (hts _ w_16) (fun _ h9 => h9) rfl d_rIsFull_1 ?_
  refine lv_aload_n hx hb d_rIsFull_4 rfl (lv_at hl 0 rfl) ?_
  refine va_get (D := D) (C := R_R) (T := F_R) (N := 4) hx hb hts i_R hown hW.1 hW.2.1 0 rfl rfl 0 (by decide) (hts _ w_17) (fun _ h9 => h9) rfl d_rIsFull_5 ?_
  refine va_alen (v := nI N) hx hb hW.1 hW.2.1 1 0 rfl rfl rfl d_rIsFull_8 ?_
  refine lv_icmp_lt (tgt := 16) hx hb d_rIsFull_9 (by decide) (fun c_1 => ?_) (fun c_1 => ?_)
  · replace heq := (if_pos c_1).symm.trans heq
    have ic_1 := gk_lt v_mn (gk_vn (n := N) (by omega)) c_1
    refine lv_iconst (v := 0) hx hb d_rIsFull_16 (by decide) ?_
    exact X _ () H locs 0 0 17 ls heq hW d_rIsFull_17 rfl (Nat.le_of_ble_eq_true rfl) (Nat.le_of_ble_eq_true rfl)
  · replace heq := (if_neg c_1).symm.trans heq
    have ic_1 := gk_nlt v_mn (gk_vn (n := N) (by omega)) c_1
    refine lv_iconst (v := 1) hx hb d_rIsFull_12 (by decide) ?_
    refine lv_goto (tgt := 17) hx hb d_rIsFull_13 (by decide) ?_
    exact X _ () H locs 0 0 17 ls heq hW d_rIsFull_17 rfl (Nat.le_of_ble_eq_true rfl) (Nat.le_of_ble_eq_true rfl)
def mm_rTell (x1 x2 x3 : Int32) (N : Nat) (fa la va : Nat → Int32) (mn : Int32) : (Nat → Int32) × (Nat → Int32) × (Nat → Int32) × Int32 := if (mm_rIsFull N mn) = 0 then (upd fa mn.toNatClampNeg x1, upd la mn.toNatClampNeg x2, upd va mn.toNatClampNeg x3, mn + 1) else (fa, la, va, mn)
theorem mm_rIsFull_lt {N : Nat} {mn : Int32} {z : Int} (h : mm_rIsFull N mn = 0) (v : gk_v mn z) (hN : (N : Int) ≤ 100) : z < (N : Int) := by
  unfold mm_rIsFull at h
  split at h
  · rename_i hc
    exact gk_lt v (gk_vn (n := N) (by omega)) hc
  · exact absurd h (by decide)
def rm_rTell : Room := { frames := 1, cells := 0, slots := 0, locals := 20 }
set_option maxHeartbeats 4000000 in
set_option maxRecDepth 100000 in
theorem c_rTell (l : Launch) (D : va_G) (cI : ClassId) (cL : ClassId × ClassId) (N a0 a1 a2 a3 : Nat) (fa la va : Nat → Int32) (mn x1 x2 x3 : Int32) (z_mn : Int) (v_mn : gk_v mn z_mn) (hN : (N : Int) ≤ 100) (hmn : 0 ≤ z_mn ∧ z_mn ≤ (N : Int)) : gk_V l y_rTell (.code y_rTell b_rTell 4 none :: wA) rm_rTell D vwCl (gk_T cI cL) [.ref a0, .int x1, .int x2, .int x3] (wd_R cI N a0 a1 a2 a3 fa la va mn) (fun (u : (Nat → Int32) × (Nat → Int32) × (Nat → Int32) × Int32) => u = mm_rTell x1 x2 x3 N fa la va mn) (fun u => (wd_R cI N a0 a1 a2 a3 u.1 u.2.1 u.2.2.1 u.2.2.2)) 0 0 := by
  refine gk_V.of (by decide) (Nat.le_of_ble_eq_true rfl) ?_
  intro p e s m below meth c A ls Q H locs hx hb hml hown hts hin hW hl X
  have hl : lv_has ls 4 [(0, .ref a0), (1, .int x1), (2, .int x2), (3, .int x3)] := hl
  obtain ⟨tgt, heq⟩ : ∃ t, mm_rTell x1 x2 x3 N fa la va mn = t := ⟨_, rfl⟩
  rw [heq] at X
  rw [mm_rTell] at heq
  obtain ⟨z_x1, v_x1⟩ := gk_vex x1
  obtain ⟨z_x2, v_x2⟩ := gk_vex x2
  obtain ⟨z_x3, v_x3⟩ := gk_vex x3
  refine lv_aload_n hx hb d_rTell_0 rfl (lv_at hl 0 rfl) ?_
  refine gk_goR hW [0, 1, 2, 3] rfl (va_runV (As := []) (rest := []) ⟨hx, hb, hml, hown, hts⟩ (c_rIsFull l D cI cL N a0 a1 a2 a3 fa la va mn z_mn v_mn hN (by omega) _) (gk_cwV hts w_18 w_19 w_20 w_21 k_rIsFull rfl e_rIsFull rfl rfl ⟨Nat.le_of_ble_eq_true rfl, Nat.le_of_ble_eq_true rfl⟩) (gk_preV hW [0, 1, 2, 3] rfl rfl rfl rfl) rfl rfl hl.1 rfl (lv_room (Nat.le_of_ble_eq_true rfl)) d_rTell_1 ⟨Nat.le_of_ble_eq_true rfl, Nat.le_of_ble_eq_true rfl⟩) (fun H locs hW => ?_)
  refine lv_if_eq (tgt := 8) hx hb d_rTell_4 (by decide) (fun c_1 => ?_) (fun c_1 => ?_)
  · replace heq := (if_pos c_1).symm.trans heq
    have iN := mm_rIsFull_lt c_1 v_mn (by omega)
    refine lv_aload_n hx hb d_rTell_8 rfl (lv_at hl 0 rfl) ?_
    refine va_get (D := D) (C := R_R) (T := F_R) (N := 4) hx hb hts i_R hown hW.1 hW.2.1 0 rfl rfl 0 (by decide) (hts _ w_17) (fun _ h9 => h9) rfl d_rTell_9 ?_
    refine lv_aload_n hx hb d_rTell_12 rfl (lv_at hl 0 rfl) ?_
    refine va_get (D := D) (C := R_R) (T := F_R) (N := 4) hx hb hts i_R hown hW.1 hW.2.1 0 rfl rfl 3 (by decide) (hts _ w_16) (fun _ h9 => h9) rfl d_rTell_13 ?_
    refine lv_iload_n hx hb d_rTell_16 rfl (lv_at hl 1 rfl) ?_
    refine va_iast hx hb hW.1 hW.2.1 hW.2.2.1 hW.2.2.2.1 1 0 rfl rfl (i := mn) (x := x1) (gk_in v_mn (by omega) (by omega)) d_rTell_17 (fun H locs hP hD hS => ?_)
    have hW : gk_W D vwCl (gk_T cI cL) s A H locs (wd_R cI N a0 a1 a2 a3 (upd fa mn.toNatClampNeg x1) la va mn) := ⟨hW.1, hP, hD, hS, hW.2.2.2.2⟩
    refine lv_aload_n hx hb d_rTell_18 rfl (lv_at hl 0 rfl) ?_
    refine va_get (D := D) (C := R_R) (T := F_R) (N := 4) hx hb hts i_R hown hW.1 hW.2.1 0 rfl rfl 1 (by decide) (hts _ w_22) (fun _ h9 => h9) rfl d_rTell_19 ?_
    refine lv_aload_n hx hb d_rTell_22 rfl (lv_at hl 0 rfl) ?_
    refine va_get (D := D) (C := R_R) (T := F_R) (N := 4) hx hb hts i_R hown hW.1 hW.2.1 0 rfl rfl 3 (by decide) (hts _ w_16) (fun _ h9 => h9) rfl d_rTell_23 ?_
    refine lv_iload_n hx hb d_rTell_26 rfl (lv_at hl 2 rfl) ?_
    refine va_iast hx hb hW.1 hW.2.1 hW.2.2.1 hW.2.2.2.1 2 0 rfl rfl (i := mn) (x := x2) (gk_in v_mn (by omega) (by omega)) d_rTell_27 (fun H locs hP hD hS => ?_)
    have hW : gk_W D vwCl (gk_T cI cL) s A H locs (wd_R cI N a0 a1 a2 a3 (upd fa mn.toNatClampNeg x1) (upd la mn.toNatClampNeg x2) va mn) := ⟨hW.1, hP, hD, hS, hW.2.2.2.2⟩
    refine lv_aload_n hx hb d_rTell_28 rfl (lv_at hl 0 rfl) ?_
    refine va_get (D := D) (C := R_R) (T := F_R) (N := 4) hx hb hts i_R hown hW.1 hW.2.1 0 rfl rfl 2 (by decide) (hts _ w_23) (fun _ h9 => h9) rfl d_rTell_29 ?_
    refine lv_aload_n hx hb d_rTell_32 rfl (lv_at hl 0 rfl) ?_
    refine va_get (D := D) (C := R_R) (T := F_R) (N := 4) hx hb hts i_R hown hW.1 hW.2.1 0 rfl rfl 3 (by decide) (hts _ w_16) (fun _ h9 => h9) rfl d_rTell_33 ?_
    refine lv_iload_n hx hb d_rTell_36 rfl (lv_at hl 3 rfl) ?_
    refine va_iast hx hb hW.1 hW.2.1 hW.2.2.1 hW.2.2.2.1 3 0 rfl rfl (i := mn) (x := x3) (gk_in v_mn (by omega) (by omega)) d_rTell_37 (fun H locs hP hD hS => ?_)
    have hW : gk_W D vwCl (gk_T cI cL) s A H locs (wd_R cI N a0 a1 a2 a3 (upd fa mn.toNatClampNeg x1) (upd la mn.toNatClampNeg x2) (upd va mn.toNatClampNeg x3) mn) := ⟨hW.1, hP, hD, hS, hW.2.2.2.2⟩
    refine lv_aload_n hx hb d_rTell_38 rfl (lv_at hl 0 rfl) ?_
    refine lv_dup hx hb d_rTell_39 rfl ?_
    refine va_get (D := D) (C := R_R) (T := F_R) (N := 4) hx hb hts i_R hown hW.1 hW.2.1 0 rfl rfl 3 (by decide) (hts _ w_16) (fun _ h9 => h9) rfl d_rTell_40 ?_
    refine lv_iconst (v := 1) hx hb d_rTell_43 (by decide) ?_
    refine lv_iadd hx hb d_rTell_44 ?_
    obtain ⟨zt_2, vt_2, et_2⟩ := gk_add v_mn (show gk_v 1 1 from rfl) (by omega) (by omega)
    refine va_put (D := D) (ci := 1) (v := .int (mn + 1)) (ty := .int) (C := R_R) (T := F_R) (N := 4) hx hb hts i_R t_R t_R_ok n_R hown hW.1 hW.2.1 hW.2.2.1 hW.2.2.2.1 0 rfl rfl 3 (by decide) (hts _ w_16) (fun _ h9 => h9) rfl (by decide +kernel) rfl rfl (Nat.le_of_ble_eq_true rfl) d_rTell_45 (fun H locs hP hD hS => ?_)
    have hW : gk_W D vwCl (gk_T cI cL) s A H locs (wd_R cI N a0 a1 a2 a3 (upd fa mn.toNatClampNeg x1) (upd la mn.toNatClampNeg x2) (upd va mn.toNatClampNeg x3) (mn + 1)) := ⟨hW.1, hP, hD, hS, hW.2.2.2.2⟩
    exact X (upd fa mn.toNatClampNeg x1, upd la mn.toNatClampNeg x2, upd va mn.toNatClampNeg x3, mn + 1) H locs 0 0 48 ls heq hW d_rTell_48 (Nat.le_of_ble_eq_true rfl) (Nat.le_of_ble_eq_true rfl)
  · replace heq := (if_neg c_1).symm.trans heq
    exact X (fa, la, va, mn) H locs 0 0 7 ls heq hW d_rTell_7 (Nat.le_of_ble_eq_true rfl) (Nat.le_of_ble_eq_true rfl)
def mm_rValueOf_7 (x1 x2 : Int32) (fa la va : Nat → Int32) (mn : Int32) : Nat → Int32 → Int32
  | 0, x3 => 0
  | n + 1, x3 => if x3 < 0 then x2 else (if x1 < (fa x3.toNatClampNeg) then (mm_rValueOf_7 x1 x2 fa la va mn n (x3 + (-1))) else (if (la x3.toNatClampNeg) < x1 then (mm_rValueOf_7 x1 x2 fa la va mn n (x3 + (-1))) else (va x3.toNatClampNeg)))
def mm_rValueOf (x1 x2 : Int32) (fa la va : Nat → Int32) (mn : Int32) : Int32 := mm_rValueOf_7 x1 x2 fa la va mn 101 (mn - 1)
def rm_rValueOf : Room := { frames := 0, cells := 0, slots := 0, locals := 0 }
set_option maxHeartbeats 4000000 in
set_option maxRecDepth 100000 in
theorem c_rValueOf (l : Launch) (D : va_G) (cI : ClassId) (cL : ClassId × ClassId) (N a0 a1 a2 a3 : Nat) (fa la va : Nat → Int32) (mn x1 x2 : Int32) (z_mn : Int) (v_mn : gk_v mn z_mn) (hN : (N : Int) ≤ 100) (hmn : 0 ≤ z_mn ∧ z_mn ≤ (N : Int)) : gk_I l y_rValueOf (.code y_rValueOf b_rValueOf 4 (some .int) :: wA) rm_rValueOf D vwCl (gk_T cI cL) [.ref a0, .int x1, .int x2] (wd_R cI N a0 a1 a2 a3 fa la va mn) (fun (r : Int32) (_ : Unit) => r = mm_rValueOf x1 x2 fa la va mn) (fun (_ : Unit) => (wd_R cI N a0 a1 a2 a3 fa la va mn)) 0 0 := by
  refine gk_I.of (by decide) (Nat.le_of_ble_eq_true rfl) ?_
  intro p e s m below meth c A ls Q H locs hx hb hml hown hts hW hl X
  have hl : lv_has ls 4 [(0, .ref a0), (1, .int x1), (2, .int x2)] := hl
  obtain ⟨tgt, heq⟩ : ∃ t, mm_rValueOf x1 x2 fa la va mn = t := ⟨_, rfl⟩
  rw [heq] at X
  rw [mm_rValueOf] at heq
  obtain ⟨z_x1, v_x1⟩ := gk_vex x1
  obtain ⟨z_x2, v_x2⟩ := gk_vex x2
  have L7 : ∀ (n : Nat) (x3 : Int32) (H : Heap) (locs : List Loc) (ls : Array Slot), ∀ (z_x3 : Int), gk_v x3 z_x3 → (z_x3 + 1) < (n : Int) → -1 ≤ z_x3 ∧ z_x3 < (N : Int) → mm_rValueOf_7 x1 x2 fa la va mn n x3 = tgt → gk_W D vwCl (gk_T cI cL) s A H locs (wd_R cI N a0 a1 a2 a3 fa la va mn) → lv_has ls 4 [(0, .ref a0), (1, .int x1), (2, .int x2), (3, .int x3)] → W p l e rm_rValueOf s m [.ref a0, .int x1, .int x2].toArray below meth c H locs 0 0 Q (F0 m 7 ls []) := by
    intro n
    induction n with
    | zero => intro x3 H locs ls z_x3 v_x3 hm f7_0 heq hW hl; exfalso; omega
    | succ n ih =>
      intro x3 H locs ls z_x3 v_x3 hm f7_0 heq hW hl
      rw [mm_rValueOf_7] at heq
      refine lv_iload_n hx hb d_rValueOf_7 rfl (lv_at hl 3 rfl) ?_
      refine lv_if_lt (tgt := 44) hx hb d_rValueOf_8 (by decide) (fun c_1 => ?_) (fun c_1 => ?_)
      · replace heq := (if_pos c_1).symm.trans heq
        have ic_1 := gk_lt v_x3 (show gk_v 0 0 from rfl) c_1
        refine lv_iload_n hx hb d_rValueOf_44 rfl (lv_at hl 2 rfl) ?_
        exact X _ () H locs 0 0 45 ls heq hW d_rValueOf_45 rfl (Nat.le_of_ble_eq_true rfl) (Nat.le_of_ble_eq_true rfl)
      · replace heq := (if_neg c_1).symm.trans heq
        have ic_1 := gk_nlt v_x3 (show gk_v 0 0 from rfl) c_1
        refine lv_aload_n hx hb d_rValueOf_11 rfl (lv_at hl 0 rfl) ?_
        refine va_get (D := D) (C := R_R) (T := F_R) (N := 4) hx hb hts i_R hown hW.1 hW.2.1 0 rfl rfl 0 (by decide) (hts _ w_17) (fun _ h9 => h9) rfl d_rValueOf_12 ?_
        refine lv_iload_n hx hb d_rValueOf_15 rfl (lv_at hl 3 rfl) ?_
        refine va_iald hx hb hW.1 hW.2.1 1 0 rfl rfl (i := x3) (gk_in v_x3 (by omega) (by omega)) d_rValueOf_16 ?_
        refine lv_iload_n hx hb d_rValueOf_17 rfl (lv_at hl 1 rfl) ?_
        refine lv_icmp_gt (tgt := 38) hx hb d_rValueOf_18 (by decide) (fun c_2 => ?_) (fun c_2 => ?_)
        · replace heq := (if_pos c_2).symm.trans heq
          refine lv_iinc (v := x3 + (-1)) (lv' := [(3, .int (x3 + (-1))), (0, .ref a0), (1, .int x1), (2, .int x2)]) hx hb d_rValueOf_38 hl (k := 3) rfl rfl (by decide) rfl (fun ls hl => ?_)
          obtain ⟨zt_3, vt_3, et_3⟩ := gk_add v_x3 (show gk_v (-1) (-1) from rfl) (by omega) (by omega)
          refine lv_goto (tgt := 7) hx hb d_rValueOf_41 (by decide) ?_
          exact ih (x3 + (-1)) H locs ls zt_3 vt_3 (by omega) (by omega) heq hW (lv_sub hl [1, 2, 3, 0] rfl)
        · replace heq := (if_neg c_2).symm.trans heq
          refine lv_iload_n hx hb d_rValueOf_21 rfl (lv_at hl 1 rfl) ?_
          refine lv_aload_n hx hb d_rValueOf_22 rfl (lv_at hl 0 rfl) ?_
          refine va_get (D := D) (C := R_R) (T := F_R) (N := 4) hx hb hts i_R hown hW.1 hW.2.1 0 rfl rfl 1 (by decide) (hts _ w_22) (fun _ h9 => h9) rfl d_rValueOf_23 ?_
          refine lv_iload_n hx hb d_rValueOf_26 rfl (lv_at hl 3 rfl) ?_
          refine va_iald hx hb hW.1 hW.2.1 2 0 rfl rfl (i := x3) (gk_in v_x3 (by omega) (by omega)) d_rValueOf_27 ?_
          refine lv_icmp_gt (tgt := 38) hx hb d_rValueOf_28 (by decide) (fun c_4 => ?_) (fun c_4 => ?_)
          · replace heq := (if_pos c_4).symm.trans heq
            refine lv_iinc (v := x3 + (-1)) (lv' := [(3, .int (x3 + (-1))), (0, .ref a0), (1, .int x1), (2, .int x2)]) hx hb d_rValueOf_38 hl (k := 3) rfl rfl (by decide) rfl (fun ls hl => ?_)
            obtain ⟨zt_5, vt_5, et_5⟩ := gk_add v_x3 (show gk_v (-1) (-1) from rfl) (by omega) (by omega)
            refine lv_goto (tgt := 7) hx hb d_rValueOf_41 (by decide) ?_
            exact ih (x3 + (-1)) H locs ls zt_5 vt_5 (by omega) (by omega) heq hW (lv_sub hl [1, 2, 3, 0] rfl)
          · replace heq := (if_neg c_4).symm.trans heq
            refine lv_aload_n hx hb d_rValueOf_31 rfl (lv_at hl 0 rfl) ?_
            refine va_get (D := D) (C := R_R) (T := F_R) (N := 4) hx hb hts i_R hown hW.1 hW.2.1 0 rfl rfl 2 (by decide) (hts _ w_23) (fun _ h9 => h9) rfl d_rValueOf_32 ?_
            refine lv_iload_n hx hb d_rValueOf_35 rfl (lv_at hl 3 rfl) ?_
            refine va_iald hx hb hW.1 hW.2.1 3 0 rfl rfl (i := x3) (gk_in v_x3 (by omega) (by omega)) d_rValueOf_36 ?_
            exact X _ () H locs 0 0 37 ls heq hW d_rValueOf_37 rfl (Nat.le_of_ble_eq_true rfl) (Nat.le_of_ble_eq_true rfl)
  refine lv_aload_n hx hb d_rValueOf_0 rfl (lv_at hl 0 rfl) ?_
  refine va_get (D := D) (C := R_R) (T := F_R) (N := 4) hx hb hts i_R hown hW.1 hW.2.1 0 rfl rfl 3 (by decide) (hts _ w_16) (fun _ h9 => h9) rfl d_rValueOf_1 ?_
  refine lv_iconst (v := 1) hx hb d_rValueOf_4 (by decide) ?_
  refine lv_isub hx hb d_rValueOf_5 ?_
  obtain ⟨zt_6, vt_6, et_6⟩ := gk_sub v_mn (show gk_v 1 1 from rfl) (by omega) (by omega)
  refine lv_istore_n (lv' := [(3, .int (mn - 1)), (0, .ref a0), (1, .int x1), (2, .int x2)]) hx hb d_rValueOf_6 rfl hl (by decide) rfl (fun ls hl => ?_)
  exact L7 101 (mn - 1) H locs ls zt_6 vt_6 (by omega) (by omega) heq hW (lv_sub hl [1, 2, 3, 0] rfl)
def mm_isMarked (x1 : Int32) (fa la va : Nat → Int32) (mn : Int32) : Int32 := if (mm_rValueOf x1 0 fa la va mn) = 1 then 1 else 0
def rm_isMarked : Room := { frames := 1, cells := 0, slots := 0, locals := 23 }
set_option maxHeartbeats 4000000 in
set_option maxRecDepth 100000 in
theorem c_isMarked (l : Launch) (D : va_G) (cI : ClassId) (cL : ClassId × ClassId) (N a0 a1 a2 a3 : Nat) (fa la va : Nat → Int32) (mn x1 : Int32) (z_mn : Int) (v_mn : gk_v mn z_mn) (hN : (N : Int) ≤ 100) (hmn : 0 ≤ z_mn ∧ z_mn ≤ (N : Int)) : gk_I l y_isMarked (.code y_isMarked b_isMarked 2 (some .boolean) :: wA) rm_isMarked D vwCl (gk_T cI cL) [.ref a0, .int x1] (wd_R cI N a0 a1 a2 a3 fa la va mn) (fun (r : Int32) (_ : Unit) => r = mm_isMarked x1 fa la va mn) (fun (_ : Unit) => (wd_R cI N a0 a1 a2 a3 fa la va mn)) 0 0 := by
  refine gk_I.of (by decide) (Nat.le_of_ble_eq_true rfl) ?_
  intro p e s m below meth c A ls Q H locs hx hb hml hown hts hW hl X
  have hl : lv_has ls 2 [(0, .ref a0), (1, .int x1)] := hl
  obtain ⟨tgt, heq⟩ : ∃ t, mm_isMarked x1 fa la va mn = t := ⟨_, rfl⟩
  rw [heq] at X
  rw [mm_isMarked] at heq
  refine lv_aload_n hx hb d_isMarked_0 rfl (lv_at hl 0 rfl) ?_
  refine lv_iload_n hx hb d_isMarked_1 rfl (lv_at hl 1 rfl) ?_
  refine lv_iconst (v := 0) hx hb d_isMarked_2 (by decide) ?_
  refine gk_goR hW [0, 1, 2, 3] rfl (va_runVN (As := [.int x1, .int 0]) (rest := []) ⟨hx, hb, hml, hown, hts⟩ (c_rValueOf l D cI cL N a0 a1 a2 a3 fa la va mn x1 0 z_mn v_mn hN (by omega) _) (gk_cwVN hts hW.2.2.2.2.2 w_24 w_25 w_26 w_21 k_rValueOf e_rValueOf rfl rfl ⟨Nat.le_of_ble_eq_true rfl, Nat.le_of_ble_eq_true rfl⟩) (gk_preV hW [0, 1, 2, 3] rfl rfl rfl rfl) rfl rfl hl.1 rfl (lv_room (Nat.le_of_ble_eq_true rfl)) d_isMarked_3 ⟨Nat.le_of_ble_eq_true rfl, Nat.le_of_ble_eq_true rfl⟩) (fun H locs hW => ?_)
  refine lv_iconst (v := 1) hx hb d_isMarked_6 (by decide) ?_
  refine lv_icmp_ne (tgt := 14) hx hb d_isMarked_7 (by decide) (fun c_1 => ?_) (fun c_1 => ?_)
  · replace heq := (if_neg c_1).symm.trans heq
    refine lv_iconst (v := 0) hx hb d_isMarked_14 (by decide) ?_
    exact X _ () H locs 0 0 15 ls heq hW d_isMarked_15 rfl (Nat.le_of_ble_eq_true rfl) (Nat.le_of_ble_eq_true rfl)
  · replace heq := (if_pos c_1).symm.trans heq
    refine lv_iconst (v := 1) hx hb d_isMarked_10 (by decide) ?_
    refine lv_goto (tgt := 15) hx hb d_isMarked_11 (by decide) ?_
    exact X _ () H locs 0 0 15 ls heq hW d_isMarked_15 rfl (Nat.le_of_ble_eq_true rfl) (Nat.le_of_ble_eq_true rfl)
