def mm_mClassOf_13 (x1 rn : Int32) (fs lt kk : Nat → Int32) (il : Int32) (tt : Nat → Int32) : Nat → Int32 → Int32 → Int32 → Int32
  | 0, x2, x3, x4 => 0
  | n + 1, x2, x3, x4 => if rn ≤ x4 then (if x3 = 42 then 8 else (if x3 = 43 then (if il = 0 then 19 else 29) else (if x3 < 38 then x3 else 27))) else (if x2 < (fs x4.toNatClampNeg) then (mm_mClassOf_13 x1 rn fs lt kk il tt n x2 x3 (x4 + 1)) else (if (lt x4.toNatClampNeg) < x2 then (mm_mClassOf_13 x1 rn fs lt kk il tt n x2 x3 (x4 + 1)) else (mm_mClassOf_13 x1 rn fs lt kk il tt n x2 (kk x4.toNatClampNeg) (x4 + 1))))
def mm_mClassOf (x1 rn : Int32) (fs lt kk : Nat → Int32) (il : Int32) (tt : Nat → Int32) : Int32 := mm_mClassOf_13 x1 rn fs lt kk il tt 101 (tt x1.toNatClampNeg) 40 0
def rm_mClassOf : Room := { frames := 0, cells := 0, slots := 0, locals := 0 }
set_option maxHeartbeats 4000000 in
set_option maxRecDepth 100000 in
theorem c_mClassOf (l : Launch) (D : va_G) (cI : ClassId) (cL cL : ClassId × ClassId) (g : Nat → Nat) (fl rn : Int32) (fs lt kk mk mf ml ma : Nat → Int32) (il sz : Int32) (tt fh : Nat → Int32) (hd x1 : Int32) (z_rn : Int) (v_rn : gk_v rn z_rn) (z_x1 : Int) (v_x1 : gk_v x1 z_x1) (hrn : 0 ≤ z_rn ∧ z_rn ≤ 100) (hx1 : 0 ≤ z_x1 ∧ z_x1 < 2000) : gk_I l y_mClassOf (.code y_mClassOf b_mClassOf 5 (some .int) :: wA) rm_mClassOf D vwCl (gk_T cI cL) [.ref (g 0), .int x1] (wd_M cI cL g fl rn fs lt kk mk mf ml ma il sz tt fh hd) (fun (r : Int32) (_ : Unit) => r = mm_mClassOf x1 rn fs lt kk il tt) (fun (_ : Unit) => (wd_M cI cL g fl rn fs lt kk mk mf ml ma il sz tt fh hd)) 0 0 := by
  refine gk_I.of (by decide) (Nat.le_of_ble_eq_true rfl) ?_
  intro p e s m below meth c A ls Q H locs hx hb hml hown hts hW hl X
  have hl : lv_has ls 5 [(0, .ref (g 0)), (1, .int x1)] := hl
  obtain ⟨tgt, heq⟩ : ∃ t, mm_mClassOf x1 rn fs lt kk il tt = t := ⟨_, rfl⟩
  rw [heq] at X
  rw [mm_mClassOf] at heq
  obtain ⟨z_il, v_il⟩ := gk_vex il
  have L13 : ∀ (n : Nat) (x2 x3 x4 : Int32) (H : Heap) (locs : List Loc) (ls : Array Slot), ∀ (z_x4 : Int), gk_v x4 z_x4 → (z_rn - z_x4) < (n : Int) → 0 ≤ z_x4 ∧ z_x4 ≤ z_rn → mm_mClassOf_13 x1 rn fs lt kk il tt n x2 x3 x4 = tgt → gk_W D vwCl (gk_T cI cL) s A H locs (wd_M cI cL g fl rn fs lt kk mk mf ml ma il sz tt fh hd) → lv_has ls 5 [(0, .ref (g 0)), (1, .int x1), (2, .int x2), (3, .int x3), (4, .int x4)] → W p l e rm_mClassOf s m [.ref (g 0), .int x1].toArray below meth c H locs 0 0 Q (F0 m 13 ls []) := by
    intro n
    induction n with
    | zero => intro x2 x3 x4 H locs ls z_x4 v_x4 hm f13_0 heq hW hl; exfalso; omega
    | succ n ih =>
      intro x2 x3 x4 H locs ls z_x4 v_x4 hm f13_0 heq hW hl
      rw [mm_mClassOf_13] at heq
      refine lv_iload hx hb d_mClassOf_13 (lv_at hl 4 rfl) ?_
      refine lv_aload_n hx hb d_mClassOf_15 rfl (lv_at hl 0 rfl) ?_
      refine va_get (D := D) (C := R_M) (T := F_M) (N := 14) hx hb hts i_M hown hW.1 hW.2.1 0 rfl rfl 1 (by decide) (hts _ w_149) (fun _ h9 => h9) rfl d_mClassOf_16 ?_
      refine lv_icmp_ge (tgt := 62) hx hb d_mClassOf_19 (by decide) (fun c_1 => ?_) (fun c_1 => ?_)
      · replace heq := (if_pos c_1).symm.trans heq
        have ic_1 := gk_le v_rn v_x4 c_1
        refine lv_iload_n hx hb d_mClassOf_62 rfl (lv_at hl 3 rfl) ?_
        refine lv_bipush (v := 42) hx hb d_mClassOf_63 (by decide) ?_
        refine lv_icmp_ne (tgt := 71) hx hb d_mClassOf_65 (by decide) (fun c_2 => ?_) (fun c_2 => ?_)
        · replace heq := (if_neg c_2).symm.trans heq
          refine lv_iload_n hx hb d_mClassOf_71 rfl (lv_at hl 3 rfl) ?_
          refine lv_bipush (v := 43) hx hb d_mClassOf_72 (by decide) ?_
          refine lv_icmp_ne (tgt := 92) hx hb d_mClassOf_74 (by decide) (fun c_3 => ?_) (fun c_3 => ?_)
          · replace heq := (if_neg c_3).symm.trans heq
            refine lv_iload_n hx hb d_mClassOf_92 rfl (lv_at hl 3 rfl) ?_
            refine lv_bipush (v := 38) hx hb d_mClassOf_93 (by decide) ?_
            refine lv_icmp_lt (tgt := 103) hx hb d_mClassOf_95 (by decide) (fun c_4 => ?_) (fun c_4 => ?_)
            · replace heq := (if_pos c_4).symm.trans heq
              refine lv_iload_n hx hb d_mClassOf_103 rfl (lv_at hl 3 rfl) ?_
              exact X _ () H locs 0 0 104 ls heq hW d_mClassOf_104 rfl (Nat.le_of_ble_eq_true rfl) (Nat.le_of_ble_eq_true rfl)
            · replace heq := (if_neg c_4).symm.trans heq
              refine lv_bipush (v := 27) hx hb d_mClassOf_98 (by decide) ?_
              refine lv_goto (tgt := 104) hx hb d_mClassOf_100 (by decide) ?_
              exact X _ () H locs 0 0 104 ls heq hW d_mClassOf_104 rfl (Nat.le_of_ble_eq_true rfl) (Nat.le_of_ble_eq_true rfl)
          · replace heq := (if_pos c_3).symm.trans heq
            refine lv_aload_n hx hb d_mClassOf_77 rfl (lv_at hl 0 rfl) ?_
            refine va_get (D := D) (C := R_M) (T := F_M) (N := 14) hx hb hts i_M hown hW.1 hW.2.1 0 rfl rfl 9 (by decide) (hts _ w_141) (fun _ h9 => h9) rfl d_mClassOf_78 ?_
            refine lv_if_eq (tgt := 89) hx hb d_mClassOf_81 (by decide) (fun c_5 => ?_) (fun c_5 => ?_)
            · replace heq := (if_pos c_5).symm.trans heq
              refine lv_bipush (v := 19) hx hb d_mClassOf_89 (by decide) ?_
              exact X _ () H locs 0 0 91 ls heq hW d_mClassOf_91 rfl (Nat.le_of_ble_eq_true rfl) (Nat.le_of_ble_eq_true rfl)
            · replace heq := (if_neg c_5).symm.trans heq
              refine lv_bipush (v := 29) hx hb d_mClassOf_84 (by decide) ?_
              refine lv_goto (tgt := 91) hx hb d_mClassOf_86 (by decide) ?_
              exact X _ () H locs 0 0 91 ls heq hW d_mClassOf_91 rfl (Nat.le_of_ble_eq_true rfl) (Nat.le_of_ble_eq_true rfl)
        · replace heq := (if_pos c_2).symm.trans heq
          refine lv_bipush (v := 8) hx hb d_mClassOf_68 (by decide) ?_
          exact X _ () H locs 0 0 70 ls heq hW d_mClassOf_70 rfl (Nat.le_of_ble_eq_true rfl) (Nat.le_of_ble_eq_true rfl)
      · replace heq := (if_neg c_1).symm.trans heq
        have ic_1 := gk_nle v_rn v_x4 c_1
        refine lv_aload_n hx hb d_mClassOf_22 rfl (lv_at hl 0 rfl) ?_
        refine va_get (D := D) (C := R_M) (T := F_M) (N := 14) hx hb hts i_M hown hW.1 hW.2.1 0 rfl rfl 2 (by decide) (hts _ w_150) (fun _ h9 => h9) rfl d_mClassOf_23 ?_
        refine lv_iload hx hb d_mClassOf_26 (lv_at hl 4 rfl) ?_
        refine va_iald hx hb hW.1 hW.2.1 1 0 rfl rfl (i := x4) (gk_in v_x4 (by omega) (by omega)) d_mClassOf_28 ?_
        refine lv_iload_n hx hb d_mClassOf_29 rfl (lv_at hl 2 rfl) ?_
        refine lv_icmp_gt (tgt := 54) hx hb d_mClassOf_30 (by decide) (fun c_6 => ?_) (fun c_6 => ?_)
        · replace heq := (if_pos c_6).symm.trans heq
          refine lv_iload_n hx hb d_mClassOf_54 rfl (lv_at hl 3 rfl) ?_
          refine lv_istore_n (lv' := [(3, .int x3), (0, .ref (g 0)), (1, .int x1), (2, .int x2), (4, .int x4)]) hx hb d_mClassOf_55 rfl hl (by decide) rfl (fun ls hl => ?_)
          refine lv_iinc (v := x4 + 1) (lv' := [(4, .int (x4 + 1)), (3, .int x3), (0, .ref (g 0)), (1, .int x1), (2, .int x2)]) hx hb d_mClassOf_56 hl (k := 4) rfl rfl (by decide) rfl (fun ls hl => ?_)
          obtain ⟨zt_7, vt_7, et_7⟩ := gk_add v_x4 (show gk_v 1 1 from rfl) (by omega) (by omega)
          refine lv_goto (tgt := 13) hx hb d_mClassOf_59 (by decide) ?_
          exact ih x2 x3 (x4 + 1) H locs ls zt_7 vt_7 (by omega) (by omega) heq hW (lv_sub hl [2, 3, 4, 1, 0] rfl)
        · replace heq := (if_neg c_6).symm.trans heq
          refine lv_iload_n hx hb d_mClassOf_33 rfl (lv_at hl 2 rfl) ?_
          refine lv_aload_n hx hb d_mClassOf_34 rfl (lv_at hl 0 rfl) ?_
          refine va_get (D := D) (C := R_M) (T := F_M) (N := 14) hx hb hts i_M hown hW.1 hW.2.1 0 rfl rfl 3 (by decide) (hts _ w_151) (fun _ h9 => h9) rfl d_mClassOf_35 ?_
          refine lv_iload hx hb d_mClassOf_38 (lv_at hl 4 rfl) ?_
          refine va_iald hx hb hW.1 hW.2.1 2 0 rfl rfl (i := x4) (gk_in v_x4 (by omega) (by omega)) d_mClassOf_40 ?_
          refine lv_icmp_gt (tgt := 54) hx hb d_mClassOf_41 (by decide) (fun c_8 => ?_) (fun c_8 => ?_)
          · replace heq := (if_pos c_8).symm.trans heq
            refine lv_iload_n hx hb d_mClassOf_54 rfl (lv_at hl 3 rfl) ?_
            refine lv_istore_n (lv' := [(3, .int x3), (0, .ref (g 0)), (1, .int x1), (2, .int x2), (4, .int x4)]) hx hb d_mClassOf_55 rfl hl (by decide) rfl (fun ls hl => ?_)
            refine lv_iinc (v := x4 + 1) (lv' := [(4, .int (x4 + 1)), (3, .int x3), (0, .ref (g 0)), (1, .int x1), (2, .int x2)]) hx hb d_mClassOf_56 hl (k := 4) rfl rfl (by decide) rfl (fun ls hl => ?_)
            obtain ⟨zt_9, vt_9, et_9⟩ := gk_add v_x4 (show gk_v 1 1 from rfl) (by omega) (by omega)
            refine lv_goto (tgt := 13) hx hb d_mClassOf_59 (by decide) ?_
            exact ih x2 x3 (x4 + 1) H locs ls zt_9 vt_9 (by omega) (by omega) heq hW (lv_sub hl [2, 3, 4, 1, 0] rfl)
          · replace heq := (if_neg c_8).symm.trans heq
            refine lv_aload_n hx hb d_mClassOf_44 rfl (lv_at hl 0 rfl) ?_
            refine va_get (D := D) (C := R_M) (T := F_M) (N := 14) hx hb hts i_M hown hW.1 hW.2.1 0 rfl rfl 4 (by decide) (hts _ w_152) (fun _ h9 => h9) rfl d_mClassOf_45 ?_
            refine lv_iload hx hb d_mClassOf_48 (lv_at hl 4 rfl) ?_
            refine va_iald hx hb hW.1 hW.2.1 3 0 rfl rfl (i := x4) (gk_in v_x4 (by omega) (by omega)) d_mClassOf_50 ?_
            refine lv_goto (tgt := 55) hx hb d_mClassOf_51 (by decide) ?_
            refine lv_istore_n (lv' := [(3, .int (kk x4.toNatClampNeg)), (0, .ref (g 0)), (1, .int x1), (2, .int x2), (4, .int x4)]) hx hb d_mClassOf_55 rfl hl (by decide) rfl (fun ls hl => ?_)
            refine lv_iinc (v := x4 + 1) (lv' := [(4, .int (x4 + 1)), (3, .int (kk x4.toNatClampNeg)), (0, .ref (g 0)), (1, .int x1), (2, .int x2)]) hx hb d_mClassOf_56 hl (k := 4) rfl rfl (by decide) rfl (fun ls hl => ?_)
            obtain ⟨zt_10, vt_10, et_10⟩ := gk_add v_x4 (show gk_v 1 1 from rfl) (by omega) (by omega)
            refine lv_goto (tgt := 13) hx hb d_mClassOf_59 (by decide) ?_
            exact ih x2 (kk x4.toNatClampNeg) (x4 + 1) H locs ls zt_10 vt_10 (by omega) (by omega) heq hW (lv_sub hl [2, 3, 4, 1, 0] rfl)
  refine lv_aload_n hx hb d_mClassOf_0 rfl (lv_at hl 0 rfl) ?_
  refine va_get (D := D) (C := R_M) (T := F_M) (N := 14) hx hb hts i_M hown hW.1 hW.2.1 0 rfl rfl 11 (by decide) (hts _ w_162) (fun _ h9 => h9) rfl d_mClassOf_1 ?_
  refine lv_iload_n hx hb d_mClassOf_4 rfl (lv_at hl 1 rfl) ?_
  refine va_iald hx hb hW.1 hW.2.1 8 0 rfl rfl (i := x1) (gk_in v_x1 (by omega) (by omega)) d_mClassOf_5 ?_
  refine lv_istore_n (lv' := [(2, .int (tt x1.toNatClampNeg)), (0, .ref (g 0)), (1, .int x1)]) hx hb d_mClassOf_6 rfl hl (by decide) rfl (fun ls hl => ?_)
  refine lv_bipush (v := 40) hx hb d_mClassOf_7 (by decide) ?_
  refine lv_istore_n (lv' := [(3, .int 40), (2, .int (tt x1.toNatClampNeg)), (0, .ref (g 0)), (1, .int x1)]) hx hb d_mClassOf_9 rfl hl (by decide) rfl (fun ls hl => ?_)
  refine lv_iconst (v := 0) hx hb d_mClassOf_10 (by decide) ?_
  refine lv_istore (lv' := [(4, .int 0), (3, .int 40), (2, .int (tt x1.toNatClampNeg)), (0, .ref (g 0)), (1, .int x1)]) hx hb d_mClassOf_11 hl (by decide) rfl (fun ls hl => ?_)
  exact L13 101 (tt x1.toNatClampNeg) 40 0 H locs ls 0 (show gk_v 0 0 from rfl) (by omega) (by omega) heq hW (lv_sub hl [3, 4, 2, 1, 0] rfl)
def mm_mIsMarked_16 (x1 x2 : Int32) (mk mf ml ma tt : Nat → Int32) : Nat → Int32 → Int32 → Int32 → Int32
  | 0, x3, x4, x5 => 0
  | n + 1, x3, x4, x5 => if ((40 * x2) + (mk x2.toNatClampNeg)) ≤ x5 then x4 else (if x3 < (mf x5.toNatClampNeg) then (mm_mIsMarked_16 x1 x2 mk mf ml ma tt n x3 x4 (x5 + 1)) else (if (ml x5.toNatClampNeg) < x3 then (mm_mIsMarked_16 x1 x2 mk mf ml ma tt n x3 x4 (x5 + 1)) else (mm_mIsMarked_16 x1 x2 mk mf ml ma tt n x3 (ma x5.toNatClampNeg) (x5 + 1))))
def mm_mIsMarked (x1 x2 : Int32) (mk mf ml ma tt : Nat → Int32) : Int32 := mm_mIsMarked_16 x1 x2 mk mf ml ma tt 101 (tt x1.toNatClampNeg) 0 (40 * x2)
def rm_mIsMarked : Room := { frames := 0, cells := 0, slots := 0, locals := 0 }
set_option maxHeartbeats 4000000 in
set_option maxRecDepth 100000 in
theorem c_mIsMarked (l : Launch) (D : va_G) (cI : ClassId) (cL cL : ClassId × ClassId) (g : Nat → Nat) (fl rn : Int32) (fs lt kk mk mf ml ma : Nat → Int32) (il sz : Int32) (tt fh : Nat → Int32) (hd x1 x2 : Int32) (z_x1 : Int) (v_x1 : gk_v x1 z_x1) (z_x2 : Int) (v_x2 : gk_v x2 z_x2) (hx1 : 0 ≤ z_x1 ∧ z_x1 < 2000) (hx2 : 0 ≤ z_x2 ∧ z_x2 ≤ 1) (hmk : ∀ i : Nat, i < 2 → ∃ z : Int, gk_v (mk i) z ∧ 0 ≤ z ∧ z ≤ 40) (hma : ∀ i : Nat, ma i = 0 ∨ ma i = 1) : gk_I l y_mIsMarked (.code y_mIsMarked b_mIsMarked 6 (some .boolean) :: wA) rm_mIsMarked D vwCl (gk_T cI cL) [.ref (g 0), .int x1, .int x2] (wd_M cI cL g fl rn fs lt kk mk mf ml ma il sz tt fh hd) (fun (r : Int32) (_ : Unit) => r = mm_mIsMarked x1 x2 mk mf ml ma tt) (fun (_ : Unit) => (wd_M cI cL g fl rn fs lt kk mk mf ml ma il sz tt fh hd)) 0 0 := by
  refine gk_I.of (by decide) (Nat.le_of_ble_eq_true rfl) ?_
  intro p e s m below meth c A ls Q H locs hx hb hml hown hts hW hl X
  have hl : lv_has ls 6 [(0, .ref (g 0)), (1, .int x1), (2, .int x2)] := hl
  obtain ⟨tgt, heq⟩ : ∃ t, mm_mIsMarked x1 x2 mk mf ml ma tt = t := ⟨_, rfl⟩
  rw [heq] at X
  rw [mm_mIsMarked] at heq
  have L16 : ∀ (n : Nat) (x3 x4 x5 : Int32) (H : Heap) (locs : List Loc) (ls : Array Slot), ∀ (z_x5 : Int), gk_v x5 z_x5 → (80 - z_x5) < (n : Int) → 40 * z_x2 ≤ z_x5 ∧ z_x5 ≤ 80 → x4 = 0 ∨ x4 = 1 → mm_mIsMarked_16 x1 x2 mk mf ml ma tt n x3 x4 x5 = tgt → gk_W D vwCl (gk_T cI cL) s A H locs (wd_M cI cL g fl rn fs lt kk mk mf ml ma il sz tt fh hd) → lv_has ls 6 [(0, .ref (g 0)), (1, .int x1), (2, .int x2), (3, .int x3), (4, .int x4), (5, .int x5)] → W p l e rm_mIsMarked s m [.ref (g 0), .int x1, .int x2].toArray below meth c H locs 0 0 Q (F0 m 16 ls []) := by
    intro n
    induction n with
    | zero => intro x3 x4 x5 H locs ls z_x5 v_x5 hm f16_0 f16_1 heq hW hl; exfalso; omega
    | succ n ih =>
      intro x3 x4 x5 H locs ls z_x5 v_x5 hm f16_0 f16_1 heq hW hl
      rw [mm_mIsMarked_16] at heq
      refine lv_iload hx hb d_mIsMarked_16 (lv_at hl 5 rfl) ?_
      refine lv_bipush (v := 40) hx hb d_mIsMarked_18 (by decide) ?_
      refine lv_iload_n hx hb d_mIsMarked_20 rfl (lv_at hl 2 rfl) ?_
      refine lv_imul hx hb d_mIsMarked_21 ?_
      obtain ⟨zt_1, vt_1, et_1⟩ := gk_mul (show gk_v 40 40 from rfl) v_x2 (by omega) (by omega)
      refine lv_aload_n hx hb d_mIsMarked_22 rfl (lv_at hl 0 rfl) ?_
      refine va_get (D := D) (C := R_M) (T := F_M) (N := 14) hx hb hts i_M hown hW.1 hW.2.1 0 rfl rfl 5 (by decide) (hts _ w_163) (fun _ h9 => h9) rfl d_mIsMarked_23 ?_
      refine lv_iload_n hx hb d_mIsMarked_26 rfl (lv_at hl 2 rfl) ?_
      refine va_iald hx hb hW.1 hW.2.1 4 0 rfl rfl (i := x2) (gk_in v_x2 (by omega) (by omega)) d_mIsMarked_27 ?_
      obtain ⟨zm, vm, hm9⟩ := hmk x2.toNatClampNeg (by have e9 := gn_cl (x := x2) (by rw [show x2.toInt = z_x2 from v_x2]; omega); rw [show x2.toInt = z_x2 from v_x2] at e9; omega)
      refine lv_iadd hx hb d_mIsMarked_28 ?_
      obtain ⟨zt_2, vt_2, et_2⟩ := gk_add vt_1 vm (by omega) (by omega)
      refine lv_icmp_ge (tgt := 74) hx hb d_mIsMarked_29 (by decide) (fun c_3 => ?_) (fun c_3 => ?_)
      · replace heq := (if_pos c_3).symm.trans heq
        have ic_3 := gk_le vt_2 v_x5 c_3
        refine lv_iload hx hb d_mIsMarked_74 (lv_at hl 4 rfl) ?_
        exact X _ () H locs 0 0 76 ls heq hW d_mIsMarked_76 (gz_n f16_1) (Nat.le_of_ble_eq_true rfl) (Nat.le_of_ble_eq_true rfl)
      · replace heq := (if_neg c_3).symm.trans heq
        have ic_3 := gk_nle vt_2 v_x5 c_3
        refine lv_aload_n hx hb d_mIsMarked_32 rfl (lv_at hl 0 rfl) ?_
        refine va_get (D := D) (C := R_M) (T := F_M) (N := 14) hx hb hts i_M hown hW.1 hW.2.1 0 rfl rfl 6 (by decide) (hts _ w_164) (fun _ h9 => h9) rfl d_mIsMarked_33 ?_
        refine lv_iload hx hb d_mIsMarked_36 (lv_at hl 5 rfl) ?_
        refine va_iald hx hb hW.1 hW.2.1 5 0 rfl rfl (i := x5) (gk_in v_x5 (by omega) (by omega)) d_mIsMarked_38 ?_
        refine lv_iload_n hx hb d_mIsMarked_39 rfl (lv_at hl 3 rfl) ?_
        refine lv_icmp_gt (tgt := 64) hx hb d_mIsMarked_40 (by decide) (fun c_4 => ?_) (fun c_4 => ?_)
        · replace heq := (if_pos c_4).symm.trans heq
          refine lv_iload hx hb d_mIsMarked_64 (lv_at hl 4 rfl) ?_
          refine lv_istore (lv' := [(4, .int x4), (0, .ref (g 0)), (1, .int x1), (2, .int x2), (3, .int x3), (5, .int x5)]) hx hb d_mIsMarked_66 hl (by decide) rfl (fun ls hl => ?_)
          refine lv_iinc (v := x5 + 1) (lv' := [(5, .int (x5 + 1)), (4, .int x4), (0, .ref (g 0)), (1, .int x1), (2, .int x2), (3, .int x3)]) hx hb d_mIsMarked_68 hl (k := 5) rfl rfl (by decide) rfl (fun ls hl => ?_)
          obtain ⟨zt_5, vt_5, et_5⟩ := gk_add v_x5 (show gk_v 1 1 from rfl) (by omega) (by omega)
          refine lv_goto (tgt := 16) hx hb d_mIsMarked_71 (by decide) ?_
          exact ih x3 x4 (x5 + 1) H locs ls zt_5 vt_5 (by omega) (by omega) f16_1 heq hW (lv_sub hl [2, 3, 4, 5, 1, 0] rfl)
        · replace heq := (if_neg c_4).symm.trans heq
          refine lv_iload_n hx hb d_mIsMarked_43 rfl (lv_at hl 3 rfl) ?_
          refine lv_aload_n hx hb d_mIsMarked_44 rfl (lv_at hl 0 rfl) ?_
          refine va_get (D := D) (C := R_M) (T := F_M) (N := 14) hx hb hts i_M hown hW.1 hW.2.1 0 rfl rfl 7 (by decide) (hts _ w_165) (fun _ h9 => h9) rfl d_mIsMarked_45 ?_
          refine lv_iload hx hb d_mIsMarked_48 (lv_at hl 5 rfl) ?_
          refine va_iald hx hb hW.1 hW.2.1 6 0 rfl rfl (i := x5) (gk_in v_x5 (by omega) (by omega)) d_mIsMarked_50 ?_
          refine lv_icmp_gt (tgt := 64) hx hb d_mIsMarked_51 (by decide) (fun c_6 => ?_) (fun c_6 => ?_)
          · replace heq := (if_pos c_6).symm.trans heq
            refine lv_iload hx hb d_mIsMarked_64 (lv_at hl 4 rfl) ?_
            refine lv_istore (lv' := [(4, .int x4), (0, .ref (g 0)), (1, .int x1), (2, .int x2), (3, .int x3), (5, .int x5)]) hx hb d_mIsMarked_66 hl (by decide) rfl (fun ls hl => ?_)
            refine lv_iinc (v := x5 + 1) (lv' := [(5, .int (x5 + 1)), (4, .int x4), (0, .ref (g 0)), (1, .int x1), (2, .int x2), (3, .int x3)]) hx hb d_mIsMarked_68 hl (k := 5) rfl rfl (by decide) rfl (fun ls hl => ?_)
            obtain ⟨zt_7, vt_7, et_7⟩ := gk_add v_x5 (show gk_v 1 1 from rfl) (by omega) (by omega)
            refine lv_goto (tgt := 16) hx hb d_mIsMarked_71 (by decide) ?_
            exact ih x3 x4 (x5 + 1) H locs ls zt_7 vt_7 (by omega) (by omega) f16_1 heq hW (lv_sub hl [2, 3, 4, 5, 1, 0] rfl)
          · replace heq := (if_neg c_6).symm.trans heq
            refine lv_aload_n hx hb d_mIsMarked_54 rfl (lv_at hl 0 rfl) ?_
            refine va_get (D := D) (C := R_M) (T := F_M) (N := 14) hx hb hts i_M hown hW.1 hW.2.1 0 rfl rfl 8 (by decide) (hts _ w_166) (fun _ h9 => h9) rfl d_mIsMarked_55 ?_
            refine lv_iload hx hb d_mIsMarked_58 (lv_at hl 5 rfl) ?_
            refine va_zald hx hb hW.1 hW.2.1 7 2 rfl rfl (i := x5) (gk_in v_x5 (by omega) (by omega)) d_mIsMarked_60 ?_
            refine lv_goto (tgt := 66) hx hb d_mIsMarked_61 (by decide) ?_
            refine lv_istore (lv' := [(4, .int (ma x5.toNatClampNeg)), (0, .ref (g 0)), (1, .int x1), (2, .int x2), (3, .int x3), (5, .int x5)]) hx hb d_mIsMarked_66 hl (by decide) rfl (fun ls hl => ?_)
            refine lv_iinc (v := x5 + 1) (lv' := [(5, .int (x5 + 1)), (4, .int (ma x5.toNatClampNeg)), (0, .ref (g 0)), (1, .int x1), (2, .int x2), (3, .int x3)]) hx hb d_mIsMarked_68 hl (k := 5) rfl rfl (by decide) rfl (fun ls hl => ?_)
            obtain ⟨zt_8, vt_8, et_8⟩ := gk_add v_x5 (show gk_v 1 1 from rfl) (by omega) (by omega)
            refine lv_goto (tgt := 16) hx hb d_mIsMarked_71 (by decide) ?_
            exact ih x3 (ma x5.toNatClampNeg) (x5 + 1) H locs ls zt_8 vt_8 (by omega) (by omega) (hma _) heq hW (lv_sub hl [2, 3, 4, 5, 1, 0] rfl)
  refine lv_aload_n hx hb d_mIsMarked_0 rfl (lv_at hl 0 rfl) ?_
  refine va_get (D := D) (C := R_M) (T := F_M) (N := 14) hx hb hts i_M hown hW.1 hW.2.1 0 rfl rfl 11 (by decide) (hts _ w_162) (fun _ h9 => h9) rfl d_mIsMarked_1 ?_
  refine lv_iload_n hx hb d_mIsMarked_4 rfl (lv_at hl 1 rfl) ?_
  refine va_iald hx hb hW.1 hW.2.1 8 0 rfl rfl (i := x1) (gk_in v_x1 (by omega) (by omega)) d_mIsMarked_5 ?_
  refine lv_istore_n (lv' := [(3, .int (tt x1.toNatClampNeg)), (0, .ref (g 0)), (1, .int x1), (2, .int x2)]) hx hb d_mIsMarked_6 rfl hl (by decide) rfl (fun ls hl => ?_)
  refine lv_iconst (v := 0) hx hb d_mIsMarked_7 (by decide) ?_
  refine lv_istore (lv' := [(4, .int 0), (3, .int (tt x1.toNatClampNeg)), (0, .ref (g 0)), (1, .int x1), (2, .int x2)]) hx hb d_mIsMarked_8 hl (by decide) rfl (fun ls hl => ?_)
  refine lv_bipush (v := 40) hx hb d_mIsMarked_10 (by decide) ?_
  refine lv_iload_n hx hb d_mIsMarked_12 rfl (lv_at hl 4 rfl) ?_
  refine lv_imul hx hb d_mIsMarked_13 ?_
  obtain ⟨zt_9, vt_9, et_9⟩ := gk_mul (show gk_v 40 40 from rfl) v_x2 (by omega) (by omega)
  refine lv_istore (lv' := [(5, .int (40 * x2)), (4, .int 0), (3, .int (tt x1.toNatClampNeg)), (0, .ref (g 0)), (1, .int x1), (2, .int x2)]) hx hb d_mIsMarked_14 hl (by decide) rfl (fun ls hl => ?_)
  exact L16 101 (tt x1.toNatClampNeg) 0 (40 * x2) H locs ls zt_9 vt_9 (by omega) (by omega) (Or.inl rfl) heq hW (lv_sub hl [3, 4, 5, 2, 1, 0] rfl)
def mm_mMark (x1 x2 x3 x4 fl : Int32) (mk mf ml ma : Nat → Int32) : Int32 × (Nat → Int32) × (Nat → Int32) × (Nat → Int32) × (Nat → Int32) := if (mm_mIsChar x1) = 0 then (1, mk, mf, ml, ma) else (if (mm_mIsChar x2) = 0 then (1, mk, mf, ml, ma) else (if x2 < x1 then (1, mk, mf, ml, ma) else (if x3 = 0 then (if (mk x3.toNatClampNeg) = 40 then (2, mk, mf, ml, ma) else (0, upd mk x3.toNatClampNeg ((mk x3.toNatClampNeg) + 1), upd mf ((40 * x3) + (mk x3.toNatClampNeg)).toNatClampNeg x1, upd ml ((40 * x3) + (mk x3.toNatClampNeg)).toNatClampNeg x2, upd ma ((40 * x3) + (mk x3.toNatClampNeg)).toNatClampNeg (vp_nar .boolean x4))) else (if x3 = 1 then (if (mk x3.toNatClampNeg) = 40 then (2, mk, mf, ml, ma) else (0, upd mk x3.toNatClampNeg ((mk x3.toNatClampNeg) + 1), upd mf ((40 * x3) + (mk x3.toNatClampNeg)).toNatClampNeg x1, upd ml ((40 * x3) + (mk x3.toNatClampNeg)).toNatClampNeg x2, upd ma ((40 * x3) + (mk x3.toNatClampNeg)).toNatClampNeg (vp_nar .boolean x4))) else (1, mk, mf, ml, ma)))))
def rm_mMark : Room := { frames := 1, cells := 0, slots := 0, locals := 21 }
set_option maxHeartbeats 4000000 in
set_option maxRecDepth 100000 in
theorem c_mMark (l : Launch) (D : va_G) (cI : ClassId) (cL cL : ClassId × ClassId) (g : Nat → Nat) (fl rn : Int32) (fs lt kk mk mf ml ma : Nat → Int32) (il sz : Int32) (tt fh : Nat → Int32) (hd x1 x2 x3 x4 : Int32) (hmk : ∀ i : Nat, i < 2 → ∃ z : Int, gk_v (mk i) z ∧ 0 ≤ z ∧ z ≤ 40) (hx4 : x4 = 0 ∨ x4 = 1) : gk_V l y_mMark (.code y_mMark b_mMark 7 none :: wA) rm_mMark D vwCl (gk_T cI cL) [.ref (g 0), .int x1, .int x2, .int x3, .int x4] (wd_M cI cL g fl rn fs lt kk mk mf ml ma il sz tt fh hd) (fun (u : Int32 × (Nat → Int32) × (Nat → Int32) × (Nat → Int32) × (Nat → Int32)) => u = mm_mMark x1 x2 x3 x4 fl mk mf ml ma) (fun u => (wd_M cI cL g u.1 rn fs lt kk u.2.1 u.2.2.1 u.2.2.2.1 u.2.2.2.2 il sz tt fh hd)) 0 0 := by
  refine gk_V.of (by decide) (Nat.le_of_ble_eq_true rfl) ?_
  intro p e s m below meth c A ls Q H locs hx hb hml hown hts hin hW hl X
  have hl : lv_has ls 7 [(0, .ref (g 0)), (1, .int x1), (2, .int x2), (3, .int x3), (4, .int x4)] := hl
  obtain ⟨tgt, heq⟩ : ∃ t, mm_mMark x1 x2 x3 x4 fl mk mf ml ma = t := ⟨_, rfl⟩
  rw [heq] at X
  rw [mm_mMark] at heq
  obtain ⟨z_x1, v_x1⟩ := gk_vex x1
  obtain ⟨z_x2, v_x2⟩ := gk_vex x2
  obtain ⟨z_x3, v_x3⟩ := gk_vex x3
  obtain ⟨z_x4, v_x4⟩ := gk_vex x4
  refine lv_iload_n hx hb d_mMark_0 rfl (lv_at hl 1 rfl) ?_
  refine gk_goR hW [] rfl (va_runS (As := [.int x1]) (rest := []) ⟨hx, hb, hml, hown, hts⟩ (c_mIsChar l D cI cL x1 _) (gk_cwS hts w_143 w_144 w_145 k_mIsChar rfl e_mIsChar rfl rfl ⟨Nat.le_of_ble_eq_true rfl, Nat.le_of_ble_eq_true rfl⟩) (gk_pre hW [] rfl rfl) rfl rfl hl.1 rfl (lv_room (Nat.le_of_ble_eq_true rfl)) d_mMark_1 ⟨Nat.le_of_ble_eq_true rfl, Nat.le_of_ble_eq_true rfl⟩) (fun H locs hW => ?_)
  refine lv_if_eq (tgt := 32) hx hb d_mMark_4 (by decide) (fun c_1 => ?_) (fun c_1 => ?_)
  · replace heq := (if_pos c_1).symm.trans heq
    refine lv_iconst (v := 0) hx hb d_mMark_32 (by decide) ?_
    refine lv_istore (lv' := [(5, .int 0), (0, .ref (g 0)), (1, .int x1), (2, .int x2), (3, .int x3), (4, .int x4)]) hx hb d_mMark_33 hl (by decide) rfl (fun ls hl => ?_)
    refine lv_aload_n hx hb d_mMark_35 rfl (lv_at hl 1 rfl) ?_
    refine lv_iload hx hb d_mMark_36 (lv_at hl 0 rfl) ?_
    refine lv_if_ne (tgt := 45) hx hb d_mMark_38 (by decide) (fun c_2 => absurd c_2 (by decide)) (fun _ => ?_)
    refine lv_iconst (v := 1) hx hb d_mMark_41 (by decide) ?_
    refine lv_goto (tgt := 61) hx hb d_mMark_42 (by decide) ?_
    refine gk_goI (wr := []) hW [0, 1, 2, 3, 4, 5, 6, 7, 8, 9] [] rfl rfl (by decide) (by decide) (va_runV (As := [.int 1]) (rest := []) ⟨hx, hb, hml, hown, hts⟩ (c_mRefused l D cI cL cL g fl rn fs lt kk mk mf ml ma il sz tt fh hd 1 _) (gk_cwV hts w_146 w_147 w_148 w_145 k_mRefused rfl e_mRefused rfl rfl ⟨Nat.le_of_ble_eq_true rfl, Nat.le_of_ble_eq_true rfl⟩) (gk_preV hW [0, 1, 2, 3, 4, 5, 6, 7, 8, 9] rfl rfl rfl rfl) rfl rfl hl.1 rfl (lv_room (Nat.le_of_ble_eq_true rfl)) d_mMark_61 ⟨Nat.le_of_ble_eq_true rfl, Nat.le_of_ble_eq_true rfl⟩) (fun r_3 u H locs p_5 hW => ?_)
    obtain ⟨rfl, rfl⟩ : r_3 = 1 ∧ u = 1 := Prod.mk.inj (p_5.trans (show (mm_mRefused 1 fl) = (1, 1) from rfl))
    have hW : gk_W D vwCl (gk_T cI cL) s A H locs (wd_M cI cL g 1 rn fs lt kk mk mf ml ma il sz tt fh hd) := hW.re [0, 1, 2, 3, 4, 5, 6, 7, 8, 9] (by decide) rfl
    refine lv_if_eq (tgt := 68) hx hb d_mMark_64 (by decide) (fun c_6 => absurd c_6 (by decide)) (fun _ => ?_)
    exact X (1, mk, mf, ml, ma) H locs 0 0 67 ls heq hW d_mMark_67 (Nat.le_of_ble_eq_true rfl) (Nat.le_of_ble_eq_true rfl)
  · replace heq := (if_neg c_1).symm.trans heq
    refine lv_iload_n hx hb d_mMark_7 rfl (lv_at hl 2 rfl) ?_
    refine gk_goR hW [] rfl (va_runS (As := [.int x2]) (rest := []) ⟨hx, hb, hml, hown, hts⟩ (c_mIsChar l D cI cL x2 _) (gk_cwS hts w_143 w_144 w_145 k_mIsChar rfl e_mIsChar rfl rfl ⟨Nat.le_of_ble_eq_true rfl, Nat.le_of_ble_eq_true rfl⟩) (gk_pre hW [] rfl rfl) rfl rfl hl.1 rfl (lv_room (Nat.le_of_ble_eq_true rfl)) d_mMark_8 ⟨Nat.le_of_ble_eq_true rfl, Nat.le_of_ble_eq_true rfl⟩) (fun H locs hW => ?_)
    refine lv_if_eq (tgt := 32) hx hb d_mMark_11 (by decide) (fun c_7 => ?_) (fun c_7 => ?_)
    · replace heq := (if_pos c_7).symm.trans heq
      refine lv_iconst (v := 0) hx hb d_mMark_32 (by decide) ?_
      refine lv_istore (lv' := [(5, .int 0), (0, .ref (g 0)), (1, .int x1), (2, .int x2), (3, .int x3), (4, .int x4)]) hx hb d_mMark_33 hl (by decide) rfl (fun ls hl => ?_)
      refine lv_aload_n hx hb d_mMark_35 rfl (lv_at hl 1 rfl) ?_
      refine lv_iload hx hb d_mMark_36 (lv_at hl 0 rfl) ?_
      refine lv_if_ne (tgt := 45) hx hb d_mMark_38 (by decide) (fun c_8 => absurd c_8 (by decide)) (fun _ => ?_)
      refine lv_iconst (v := 1) hx hb d_mMark_41 (by decide) ?_
      refine lv_goto (tgt := 61) hx hb d_mMark_42 (by decide) ?_
      refine gk_goI (wr := []) hW [0, 1, 2, 3, 4, 5, 6, 7, 8, 9] [] rfl rfl (by decide) (by decide) (va_runV (As := [.int 1]) (rest := []) ⟨hx, hb, hml, hown, hts⟩ (c_mRefused l D cI cL cL g fl rn fs lt kk mk mf ml ma il sz tt fh hd 1 _) (gk_cwV hts w_146 w_147 w_148 w_145 k_mRefused rfl e_mRefused rfl rfl ⟨Nat.le_of_ble_eq_true rfl, Nat.le_of_ble_eq_true rfl⟩) (gk_preV hW [0, 1, 2, 3, 4, 5, 6, 7, 8, 9] rfl rfl rfl rfl) rfl rfl hl.1 rfl (lv_room (Nat.le_of_ble_eq_true rfl)) d_mMark_61 ⟨Nat.le_of_ble_eq_true rfl, Nat.le_of_ble_eq_true rfl⟩) (fun r_9 u H locs p_11 hW => ?_)
      obtain ⟨rfl, rfl⟩ : r_9 = 1 ∧ u = 1 := Prod.mk.inj (p_11.trans (show (mm_mRefused 1 fl) = (1, 1) from rfl))
      have hW : gk_W D vwCl (gk_T cI cL) s A H locs (wd_M cI cL g 1 rn fs lt kk mk mf ml ma il sz tt fh hd) := hW.re [0, 1, 2, 3, 4, 5, 6, 7, 8, 9] (by decide) rfl
      refine lv_if_eq (tgt := 68) hx hb d_mMark_64 (by decide) (fun c_12 => absurd c_12 (by decide)) (fun _ => ?_)
      exact X (1, mk, mf, ml, ma) H locs 0 0 67 ls heq hW d_mMark_67 (Nat.le_of_ble_eq_true rfl) (Nat.le_of_ble_eq_true rfl)
    · replace heq := (if_neg c_7).symm.trans heq
      refine lv_iload_n hx hb d_mMark_14 rfl (lv_at hl 1 rfl) ?_
      refine lv_iload_n hx hb d_mMark_15 rfl (lv_at hl 2 rfl) ?_
      refine lv_icmp_gt (tgt := 32) hx hb d_mMark_16 (by decide) (fun c_13 => ?_) (fun c_13 => ?_)
      · replace heq := (if_pos c_13).symm.trans heq
        have ic_13 := gk_lt v_x2 v_x1 c_13
        refine lv_iconst (v := 0) hx hb d_mMark_32 (by decide) ?_
        refine lv_istore (lv' := [(5, .int 0), (0, .ref (g 0)), (1, .int x1), (2, .int x2), (3, .int x3), (4, .int x4)]) hx hb d_mMark_33 hl (by decide) rfl (fun ls hl => ?_)
        refine lv_aload_n hx hb d_mMark_35 rfl (lv_at hl 1 rfl) ?_
        refine lv_iload hx hb d_mMark_36 (lv_at hl 0 rfl) ?_
        refine lv_if_ne (tgt := 45) hx hb d_mMark_38 (by decide) (fun c_14 => absurd c_14 (by decide)) (fun _ => ?_)
        refine lv_iconst (v := 1) hx hb d_mMark_41 (by decide) ?_
        refine lv_goto (tgt := 61) hx hb d_mMark_42 (by decide) ?_
        refine gk_goI (wr := []) hW [0, 1, 2, 3, 4, 5, 6, 7, 8, 9] [] rfl rfl (by decide) (by decide) (va_runV (As := [.int 1]) (rest := []) ⟨hx, hb, hml, hown, hts⟩ (c_mRefused l D cI cL cL g fl rn fs lt kk mk mf ml ma il sz tt fh hd 1 _) (gk_cwV hts w_146 w_147 w_148 w_145 k_mRefused rfl e_mRefused rfl rfl ⟨Nat.le_of_ble_eq_true rfl, Nat.le_of_ble_eq_true rfl⟩) (gk_preV hW [0, 1, 2, 3, 4, 5, 6, 7, 8, 9] rfl rfl rfl rfl) rfl rfl hl.1 rfl (lv_room (Nat.le_of_ble_eq_true rfl)) d_mMark_61 ⟨Nat.le_of_ble_eq_true rfl, Nat.le_of_ble_eq_true rfl⟩) (fun r_15 u H locs p_17 hW => ?_)
        obtain ⟨rfl, rfl⟩ : r_15 = 1 ∧ u = 1 := Prod.mk.inj (p_17.trans (show (mm_mRefused 1 fl) = (1, 1) from rfl))
        have hW : gk_W D vwCl (gk_T cI cL) s A H locs (wd_M cI cL g 1 rn fs lt kk mk mf ml ma il sz tt fh hd) := hW.re [0, 1, 2, 3, 4, 5, 6, 7, 8, 9] (by decide) rfl
        refine lv_if_eq (tgt := 68) hx hb d_mMark_64 (by decide) (fun c_18 => absurd c_18 (by decide)) (fun _ => ?_)
        exact X (1, mk, mf, ml, ma) H locs 0 0 67 ls heq hW d_mMark_67 (Nat.le_of_ble_eq_true rfl) (Nat.le_of_ble_eq_true rfl)
      · replace heq := (if_neg c_13).symm.trans heq
        have ic_13 := gk_nlt v_x2 v_x1 c_13
        refine lv_iload_n hx hb d_mMark_19 rfl (lv_at hl 3 rfl) ?_
        refine lv_if_eq (tgt := 28) hx hb d_mMark_20 (by decide) (fun c_19 => ?_) (fun c_19 => ?_)
        · replace heq := (if_pos c_19).symm.trans heq
          have ic_19 := gk_eq v_x3 (show gk_v 0 0 from rfl) c_19
          refine lv_iconst (v := 1) hx hb d_mMark_28 (by decide) ?_
          refine lv_goto (tgt := 33) hx hb d_mMark_29 (by decide) ?_
          refine lv_istore (lv' := [(5, .int 1), (0, .ref (g 0)), (1, .int x1), (2, .int x2), (3, .int x3), (4, .int x4)]) hx hb d_mMark_33 hl (by decide) rfl (fun ls hl => ?_)
          refine lv_aload_n hx hb d_mMark_35 rfl (lv_at hl 1 rfl) ?_
          refine lv_iload hx hb d_mMark_36 (lv_at hl 0 rfl) ?_
          refine lv_if_ne (tgt := 45) hx hb d_mMark_38 (by decide) (fun _ => ?_) (fun c_20 => absurd c_20 (by decide))
          refine lv_aload_n hx hb d_mMark_45 rfl (lv_at hl 1 rfl) ?_
          refine va_get (D := D) (C := R_M) (T := F_M) (N := 14) hx hb hts i_M hown hW.1 hW.2.1 0 rfl rfl 5 (by decide) (hts _ w_163) (fun _ h9 => h9) rfl d_mMark_46 ?_
          refine lv_iload_n hx hb d_mMark_49 rfl (lv_at hl 4 rfl) ?_
          refine va_iald hx hb hW.1 hW.2.1 4 0 rfl rfl (i := x3) (gk_in v_x3 (by omega) (by omega)) d_mMark_50 ?_
          obtain ⟨zm50, vm50, hm50⟩ := hmk x3.toNatClampNeg (by have e9 := gn_cl (x := x3) (by rw [show x3.toInt = z_x3 from v_x3]; omega); rw [show x3.toInt = z_x3 from v_x3] at e9; omega)
          refine lv_bipush (v := 40) hx hb d_mMark_51 (by decide) ?_
          refine lv_icmp_ne (tgt := 60) hx hb d_mMark_53 (by decide) (fun c_21 => ?_) (fun c_21 => ?_)
          · replace heq := (if_neg c_21).symm.trans heq
            have ic_21 := gk_ne vm50 (show gk_v 40 40 from rfl) c_21
            refine lv_iconst (v := 0) hx hb d_mMark_60 (by decide) ?_
            refine gk_goI (wr := []) hW [0, 1, 2, 3, 4, 5, 6, 7, 8, 9] [] rfl rfl (by decide) (by decide) (va_runV (As := [.int 0]) (rest := []) ⟨hx, hb, hml, hown, hts⟩ (c_mRefused l D cI cL cL g fl rn fs lt kk mk mf ml ma il sz tt fh hd 0 _) (gk_cwV hts w_146 w_147 w_148 w_145 k_mRefused rfl e_mRefused rfl rfl ⟨Nat.le_of_ble_eq_true rfl, Nat.le_of_ble_eq_true rfl⟩) (gk_preV hW [0, 1, 2, 3, 4, 5, 6, 7, 8, 9] rfl rfl rfl rfl) rfl rfl hl.1 rfl (lv_room (Nat.le_of_ble_eq_true rfl)) d_mMark_61 ⟨Nat.le_of_ble_eq_true rfl, Nat.le_of_ble_eq_true rfl⟩) (fun r_22 u H locs p_24 hW => ?_)
            obtain ⟨rfl, rfl⟩ : r_22 = 0 ∧ u = 0 := Prod.mk.inj (p_24.trans (show (mm_mRefused 0 fl) = (0, 0) from rfl))
            have hW : gk_W D vwCl (gk_T cI cL) s A H locs (wd_M cI cL g 0 rn fs lt kk mk mf ml ma il sz tt fh hd) := hW.re [0, 1, 2, 3, 4, 5, 6, 7, 8, 9] (by decide) rfl
            refine lv_if_eq (tgt := 68) hx hb d_mMark_64 (by decide) (fun _ => ?_) (fun c_25 => absurd c_25 (by decide))
            refine lv_bipush (v := 40) hx hb d_mMark_68 (by decide) ?_
            refine lv_iload_n hx hb d_mMark_70 rfl (lv_at hl 4 rfl) ?_
            refine lv_imul hx hb d_mMark_71 ?_
            obtain ⟨zt_26, vt_26, et_26⟩ := gk_mul (show gk_v 40 40 from rfl) v_x3 (by omega) (by omega)
            refine lv_aload_n hx hb d_mMark_72 rfl (lv_at hl 1 rfl) ?_
            refine va_get (D := D) (C := R_M) (T := F_M) (N := 14) hx hb hts i_M hown hW.1 hW.2.1 0 rfl rfl 5 (by decide) (hts _ w_163) (fun _ h9 => h9) rfl d_mMark_73 ?_
            refine lv_iload_n hx hb d_mMark_76 rfl (lv_at hl 4 rfl) ?_
            refine va_iald hx hb hW.1 hW.2.1 4 0 rfl rfl (i := x3) (gk_in v_x3 (by omega) (by omega)) d_mMark_77 ?_
            refine lv_iadd hx hb d_mMark_78 ?_
            obtain ⟨zt_27, vt_27, et_27⟩ := gk_add vt_26 vm50 (by omega) (by omega)
            refine lv_istore (lv' := [(6, .int ((40 * x3) + (mk x3.toNatClampNeg))), (5, .int 1), (0, .ref (g 0)), (1, .int x1), (2, .int x2), (3, .int x3), (4, .int x4)]) hx hb d_mMark_79 hl (by decide) rfl (fun ls hl => ?_)
            refine lv_aload_n hx hb d_mMark_81 rfl (lv_at hl 2 rfl) ?_
            refine va_get (D := D) (C := R_M) (T := F_M) (N := 14) hx hb hts i_M hown hW.1 hW.2.1 0 rfl rfl 6 (by decide) (hts _ w_164) (fun _ h9 => h9) rfl d_mMark_82 ?_
            refine lv_iload hx hb d_mMark_85 (lv_at hl 0 rfl) ?_
            refine lv_iload_n hx hb d_mMark_87 rfl (lv_at hl 3 rfl) ?_
            refine va_iast hx hb hW.1 hW.2.1 hW.2.2.1 hW.2.2.2.1 5 0 rfl rfl (i := (40 * x3) + (mk x3.toNatClampNeg)) (x := x1) (gk_in vt_27 (by omega) (by omega)) d_mMark_88 (fun H locs hP hD hS => ?_)
            have hW : gk_W D vwCl (gk_T cI cL) s A H locs (wd_M cI cL g 0 rn fs lt kk mk (upd mf ((40 * x3) + (mk x3.toNatClampNeg)).toNatClampNeg x1) ml ma il sz tt fh hd) := ⟨hW.1, hP, hD, hS, hW.2.2.2.2⟩
            refine lv_aload_n hx hb d_mMark_89 rfl (lv_at hl 2 rfl) ?_
            refine va_get (D := D) (C := R_M) (T := F_M) (N := 14) hx hb hts i_M hown hW.1 hW.2.1 0 rfl rfl 7 (by decide) (hts _ w_165) (fun _ h9 => h9) rfl d_mMark_90 ?_
            refine lv_iload hx hb d_mMark_93 (lv_at hl 0 rfl) ?_
            refine lv_iload_n hx hb d_mMark_95 rfl (lv_at hl 4 rfl) ?_
            refine va_iast hx hb hW.1 hW.2.1 hW.2.2.1 hW.2.2.2.1 6 0 rfl rfl (i := (40 * x3) + (mk x3.toNatClampNeg)) (x := x2) (gk_in vt_27 (by omega) (by omega)) d_mMark_96 (fun H locs hP hD hS => ?_)
            have hW : gk_W D vwCl (gk_T cI cL) s A H locs (wd_M cI cL g 0 rn fs lt kk mk (upd mf ((40 * x3) + (mk x3.toNatClampNeg)).toNatClampNeg x1) (upd ml ((40 * x3) + (mk x3.toNatClampNeg)).toNatClampNeg x2) ma il sz tt fh hd) := ⟨hW.1, hP, hD, hS, hW.2.2.2.2⟩
            refine lv_aload_n hx hb d_mMark_97 rfl (lv_at hl 2 rfl) ?_
            refine va_get (D := D) (C := R_M) (T := F_M) (N := 14) hx hb hts i_M hown hW.1 hW.2.1 0 rfl rfl 8 (by decide) (hts _ w_166) (fun _ h9 => h9) rfl d_mMark_98 ?_
            refine lv_iload hx hb d_mMark_101 (lv_at hl 0 rfl) ?_
            refine lv_iload hx hb d_mMark_103 (lv_at hl 6 rfl) ?_
            refine va_zast hx hb hW.1 hW.2.1 hW.2.2.1 hW.2.2.2.1 7 2 rfl rfl (i := (40 * x3) + (mk x3.toNatClampNeg)) (x := x4) (gk_in vt_27 (by omega) (by omega)) d_mMark_105 (fun H locs hP hD hS => ?_)
            have hW : gk_W D vwCl (gk_T cI cL) s A H locs (wd_M cI cL g 0 rn fs lt kk mk (upd mf ((40 * x3) + (mk x3.toNatClampNeg)).toNatClampNeg x1) (upd ml ((40 * x3) + (mk x3.toNatClampNeg)).toNatClampNeg x2) (upd ma ((40 * x3) + (mk x3.toNatClampNeg)).toNatClampNeg (vp_nar .boolean x4)) il sz tt fh hd) := ⟨hW.1, hP, hD, hS, hW.2.2.2.2⟩
            refine lv_aload_n hx hb d_mMark_106 rfl (lv_at hl 2 rfl) ?_
            refine va_get (D := D) (C := R_M) (T := F_M) (N := 14) hx hb hts i_M hown hW.1 hW.2.1 0 rfl rfl 5 (by decide) (hts _ w_163) (fun _ h9 => h9) rfl d_mMark_107 ?_
            refine lv_iload_n hx hb d_mMark_110 rfl (lv_at hl 5 rfl) ?_
            refine lv_dup2_11 hx hb d_mMark_111 rfl rfl ?_
            refine va_iald hx hb hW.1 hW.2.1 4 0 rfl rfl (i := x3) (gk_in v_x3 (by omega) (by omega)) d_mMark_112 ?_
            refine lv_iconst (v := 1) hx hb d_mMark_113 (by decide) ?_
            refine lv_iadd hx hb d_mMark_114 ?_
            obtain ⟨zt_28, vt_28, et_28⟩ := gk_add vm50 (show gk_v 1 1 from rfl) (by omega) (by omega)
            refine va_iast hx hb hW.1 hW.2.1 hW.2.2.1 hW.2.2.2.1 4 0 rfl rfl (i := x3) (x := (mk x3.toNatClampNeg) + 1) (gk_in v_x3 (by omega) (by omega)) d_mMark_115 (fun H locs hP hD hS => ?_)
            have hW : gk_W D vwCl (gk_T cI cL) s A H locs (wd_M cI cL g 0 rn fs lt kk (upd mk x3.toNatClampNeg ((mk x3.toNatClampNeg) + 1)) (upd mf ((40 * x3) + (mk x3.toNatClampNeg)).toNatClampNeg x1) (upd ml ((40 * x3) + (mk x3.toNatClampNeg)).toNatClampNeg x2) (upd ma ((40 * x3) + (mk x3.toNatClampNeg)).toNatClampNeg (vp_nar .boolean x4)) il sz tt fh hd) := ⟨hW.1, hP, hD, hS, hW.2.2.2.2⟩
            exact X (0, upd mk x3.toNatClampNeg ((mk x3.toNatClampNeg) + 1), upd mf ((40 * x3) + (mk x3.toNatClampNeg)).toNatClampNeg x1, upd ml ((40 * x3) + (mk x3.toNatClampNeg)).toNatClampNeg x2, upd ma ((40 * x3) + (mk x3.toNatClampNeg)).toNatClampNeg (vp_nar .boolean x4)) H locs 0 0 116 ls heq hW d_mMark_116 (Nat.le_of_ble_eq_true rfl) (Nat.le_of_ble_eq_true rfl)
          · replace heq := (if_pos c_21).symm.trans heq
            have ic_21 := gk_eq vm50 (show gk_v 40 40 from rfl) c_21
            refine lv_iconst (v := 2) hx hb d_mMark_56 (by decide) ?_
            refine lv_goto (tgt := 61) hx hb d_mMark_57 (by decide) ?_
            refine gk_goI (wr := []) hW [0, 1, 2, 3, 4, 5, 6, 7, 8, 9] [] rfl rfl (by decide) (by decide) (va_runV (As := [.int 2]) (rest := []) ⟨hx, hb, hml, hown, hts⟩ (c_mRefused l D cI cL cL g fl rn fs lt kk mk mf ml ma il sz tt fh hd 2 _) (gk_cwV hts w_146 w_147 w_148 w_145 k_mRefused rfl e_mRefused rfl rfl ⟨Nat.le_of_ble_eq_true rfl, Nat.le_of_ble_eq_true rfl⟩) (gk_preV hW [0, 1, 2, 3, 4, 5, 6, 7, 8, 9] rfl rfl rfl rfl) rfl rfl hl.1 rfl (lv_room (Nat.le_of_ble_eq_true rfl)) d_mMark_61 ⟨Nat.le_of_ble_eq_true rfl, Nat.le_of_ble_eq_true rfl⟩) (fun r_29 u H locs p_31 hW => ?_)
            obtain ⟨rfl, rfl⟩ : r_29 = 1 ∧ u = 2 := Prod.mk.inj (p_31.trans (show (mm_mRefused 2 fl) = (1, 2) from rfl))
            have hW : gk_W D vwCl (gk_T cI cL) s A H locs (wd_M cI cL g 2 rn fs lt kk mk mf ml ma il sz tt fh hd) := hW.re [0, 1, 2, 3, 4, 5, 6, 7, 8, 9] (by decide) rfl
            refine lv_if_eq (tgt := 68) hx hb d_mMark_64 (by decide) (fun c_32 => absurd c_32 (by decide)) (fun _ => ?_)
            exact X (2, mk, mf, ml, ma) H locs 0 0 67 ls heq hW d_mMark_67 (Nat.le_of_ble_eq_true rfl) (Nat.le_of_ble_eq_true rfl)
        · replace heq := (if_neg c_19).symm.trans heq
          have ic_19 := gk_ne v_x3 (show gk_v 0 0 from rfl) c_19
          refine lv_iload_n hx hb d_mMark_23 rfl (lv_at hl 3 rfl) ?_
          refine lv_iconst (v := 1) hx hb d_mMark_24 (by decide) ?_
          refine lv_icmp_ne (tgt := 32) hx hb d_mMark_25 (by decide) (fun c_33 => ?_) (fun c_33 => ?_)
          · replace heq := (if_neg c_33).symm.trans heq
            have ic_33 := gk_ne v_x3 (show gk_v 1 1 from rfl) c_33
            refine lv_iconst (v := 0) hx hb d_mMark_32 (by decide) ?_
            refine lv_istore (lv' := [(5, .int 0), (0, .ref (g 0)), (1, .int x1), (2, .int x2), (3, .int x3), (4, .int x4)]) hx hb d_mMark_33 hl (by decide) rfl (fun ls hl => ?_)
            refine lv_aload_n hx hb d_mMark_35 rfl (lv_at hl 1 rfl) ?_
            refine lv_iload hx hb d_mMark_36 (lv_at hl 0 rfl) ?_
            refine lv_if_ne (tgt := 45) hx hb d_mMark_38 (by decide) (fun c_34 => absurd c_34 (by decide)) (fun _ => ?_)
            refine lv_iconst (v := 1) hx hb d_mMark_41 (by decide) ?_
            refine lv_goto (tgt := 61) hx hb d_mMark_42 (by decide) ?_
            refine gk_goI (wr := []) hW [0, 1, 2, 3, 4, 5, 6, 7, 8, 9] [] rfl rfl (by decide) (by decide) (va_runV (As := [.int 1]) (rest := []) ⟨hx, hb, hml, hown, hts⟩ (c_mRefused l D cI cL cL g fl rn fs lt kk mk mf ml ma il sz tt fh hd 1 _) (gk_cwV hts w_146 w_147 w_148 w_145 k_mRefused rfl e_mRefused rfl rfl ⟨Nat.le_of_ble_eq_true rfl, Nat.le_of_ble_eq_true rfl⟩) (gk_preV hW [0, 1, 2, 3, 4, 5, 6, 7, 8, 9] rfl rfl rfl rfl) rfl rfl hl.1 rfl (lv_room (Nat.le_of_ble_eq_true rfl)) d_mMark_61 ⟨Nat.le_of_ble_eq_true rfl, Nat.le_of_ble_eq_true rfl⟩) (fun r_35 u H locs p_37 hW => ?_)
            obtain ⟨rfl, rfl⟩ : r_35 = 1 ∧ u = 1 := Prod.mk.inj (p_37.trans (show (mm_mRefused 1 fl) = (1, 1) from rfl))
            have hW : gk_W D vwCl (gk_T cI cL) s A H locs (wd_M cI cL g 1 rn fs lt kk mk mf ml ma il sz tt fh hd) := hW.re [0, 1, 2, 3, 4, 5, 6, 7, 8, 9] (by decide) rfl
            refine lv_if_eq (tgt := 68) hx hb d_mMark_64 (by decide) (fun c_38 => absurd c_38 (by decide)) (fun _ => ?_)
            exact X (1, mk, mf, ml, ma) H locs 0 0 67 ls heq hW d_mMark_67 (Nat.le_of_ble_eq_true rfl) (Nat.le_of_ble_eq_true rfl)
          · replace heq := (if_pos c_33).symm.trans heq
            have ic_33 := gk_eq v_x3 (show gk_v 1 1 from rfl) c_33
            refine lv_iconst (v := 1) hx hb d_mMark_28 (by decide) ?_
            refine lv_goto (tgt := 33) hx hb d_mMark_29 (by decide) ?_
            refine lv_istore (lv' := [(5, .int 1), (0, .ref (g 0)), (1, .int x1), (2, .int x2), (3, .int x3), (4, .int x4)]) hx hb d_mMark_33 hl (by decide) rfl (fun ls hl => ?_)
            refine lv_aload_n hx hb d_mMark_35 rfl (lv_at hl 1 rfl) ?_
            refine lv_iload hx hb d_mMark_36 (lv_at hl 0 rfl) ?_
            refine lv_if_ne (tgt := 45) hx hb d_mMark_38 (by decide) (fun _ => ?_) (fun c_39 => absurd c_39 (by decide))
            refine lv_aload_n hx hb d_mMark_45 rfl (lv_at hl 1 rfl) ?_
            refine va_get (D := D) (C := R_M) (T := F_M) (N := 14) hx hb hts i_M hown hW.1 hW.2.1 0 rfl rfl 5 (by decide) (hts _ w_163) (fun _ h9 => h9) rfl d_mMark_46 ?_
            refine lv_iload_n hx hb d_mMark_49 rfl (lv_at hl 4 rfl) ?_
            refine va_iald hx hb hW.1 hW.2.1 4 0 rfl rfl (i := x3) (gk_in v_x3 (by omega) (by omega)) d_mMark_50 ?_
            obtain ⟨zm50, vm50, hm50⟩ := hmk x3.toNatClampNeg (by have e9 := gn_cl (x := x3) (by rw [show x3.toInt = z_x3 from v_x3]; omega); rw [show x3.toInt = z_x3 from v_x3] at e9; omega)
            refine lv_bipush (v := 40) hx hb d_mMark_51 (by decide) ?_
            refine lv_icmp_ne (tgt := 60) hx hb d_mMark_53 (by decide) (fun c_40 => ?_) (fun c_40 => ?_)
            · replace heq := (if_neg c_40).symm.trans heq
              have ic_40 := gk_ne vm50 (show gk_v 40 40 from rfl) c_40
              refine lv_iconst (v := 0) hx hb d_mMark_60 (by decide) ?_
              refine gk_goI (wr := []) hW [0, 1, 2, 3, 4, 5, 6, 7, 8, 9] [] rfl rfl (by decide) (by decide) (va_runV (As := [.int 0]) (rest := []) ⟨hx, hb, hml, hown, hts⟩ (c_mRefused l D cI cL cL g fl rn fs lt kk mk mf ml ma il sz tt fh hd 0 _) (gk_cwV hts w_146 w_147 w_148 w_145 k_mRefused rfl e_mRefused rfl rfl ⟨Nat.le_of_ble_eq_true rfl, Nat.le_of_ble_eq_true rfl⟩) (gk_preV hW [0, 1, 2, 3, 4, 5, 6, 7, 8, 9] rfl rfl rfl rfl) rfl rfl hl.1 rfl (lv_room (Nat.le_of_ble_eq_true rfl)) d_mMark_61 ⟨Nat.le_of_ble_eq_true rfl, Nat.le_of_ble_eq_true rfl⟩) (fun r_41 u H locs p_43 hW => ?_)
              obtain ⟨rfl, rfl⟩ : r_41 = 0 ∧ u = 0 := Prod.mk.inj (p_43.trans (show (mm_mRefused 0 fl) = (0, 0) from rfl))
              have hW : gk_W D vwCl (gk_T cI cL) s A H locs (wd_M cI cL g 0 rn fs lt kk mk mf ml ma il sz tt fh hd) := hW.re [0, 1, 2, 3, 4, 5, 6, 7, 8, 9] (by decide) rfl
              refine lv_if_eq (tgt := 68) hx hb d_mMark_64 (by decide) (fun _ => ?_) (fun c_44 => absurd c_44 (by decide))
              refine lv_bipush (v := 40) hx hb d_mMark_68 (by decide) ?_
              refine lv_iload_n hx hb d_mMark_70 rfl (lv_at hl 4 rfl) ?_
              refine lv_imul hx hb d_mMark_71 ?_
              obtain ⟨zt_45, vt_45, et_45⟩ := gk_mul (show gk_v 40 40 from rfl) v_x3 (by omega) (by omega)
              refine lv_aload_n hx hb d_mMark_72 rfl (lv_at hl 1 rfl) ?_
              refine va_get (D := D) (C := R_M) (T := F_M) (N := 14) hx hb hts i_M hown hW.1 hW.2.1 0 rfl rfl 5 (by decide) (hts _ w_163) (fun _ h9 => h9) rfl d_mMark_73 ?_
              refine lv_iload_n hx hb d_mMark_76 rfl (lv_at hl 4 rfl) ?_
              refine va_iald hx hb hW.1 hW.2.1 4 0 rfl rfl (i := x3) (gk_in v_x3 (by omega) (by omega)) d_mMark_77 ?_
              refine lv_iadd hx hb d_mMark_78 ?_
              obtain ⟨zt_46, vt_46, et_46⟩ := gk_add vt_45 vm50 (by omega) (by omega)
              refine lv_istore (lv' := [(6, .int ((40 * x3) + (mk x3.toNatClampNeg))), (5, .int 1), (0, .ref (g 0)), (1, .int x1), (2, .int x2), (3, .int x3), (4, .int x4)]) hx hb d_mMark_79 hl (by decide) rfl (fun ls hl => ?_)
              refine lv_aload_n hx hb d_mMark_81 rfl (lv_at hl 2 rfl) ?_
              refine va_get (D := D) (C := R_M) (T := F_M) (N := 14) hx hb hts i_M hown hW.1 hW.2.1 0 rfl rfl 6 (by decide) (hts _ w_164) (fun _ h9 => h9) rfl d_mMark_82 ?_
              refine lv_iload hx hb d_mMark_85 (lv_at hl 0 rfl) ?_
              refine lv_iload_n hx hb d_mMark_87 rfl (lv_at hl 3 rfl) ?_
              refine va_iast hx hb hW.1 hW.2.1 hW.2.2.1 hW.2.2.2.1 5 0 rfl rfl (i := (40 * x3) + (mk x3.toNatClampNeg)) (x := x1) (gk_in vt_46 (by omega) (by omega)) d_mMark_88 (fun H locs hP hD hS => ?_)
              have hW : gk_W D vwCl (gk_T cI cL) s A H locs (wd_M cI cL g 0 rn fs lt kk mk (upd mf ((40 * x3) + (mk x3.toNatClampNeg)).toNatClampNeg x1) ml ma il sz tt fh hd) := ⟨hW.1, hP, hD, hS, hW.2.2.2.2⟩
              refine lv_aload_n hx hb d_mMark_89 rfl (lv_at hl 2 rfl) ?_
              refine va_get (D := D) (C := R_M) (T := F_M) (N := 14) hx hb hts i_M hown hW.1 hW.2.1 0 rfl rfl 7 (by decide) (hts _ w_165) (fun _ h9 => h9) rfl d_mMark_90 ?_
              refine lv_iload hx hb d_mMark_93 (lv_at hl 0 rfl) ?_
              refine lv_iload_n hx hb d_mMark_95 rfl (lv_at hl 4 rfl) ?_
              refine va_iast hx hb hW.1 hW.2.1 hW.2.2.1 hW.2.2.2.1 6 0 rfl rfl (i := (40 * x3) + (mk x3.toNatClampNeg)) (x := x2) (gk_in vt_46 (by omega) (by omega)) d_mMark_96 (fun H locs hP hD hS => ?_)
              have hW : gk_W D vwCl (gk_T cI cL) s A H locs (wd_M cI cL g 0 rn fs lt kk mk (upd mf ((40 * x3) + (mk x3.toNatClampNeg)).toNatClampNeg x1) (upd ml ((40 * x3) + (mk x3.toNatClampNeg)).toNatClampNeg x2) ma il sz tt fh hd) := ⟨hW.1, hP, hD, hS, hW.2.2.2.2⟩
              refine lv_aload_n hx hb d_mMark_97 rfl (lv_at hl 2 rfl) ?_
              refine va_get (D := D) (C := R_M) (T := F_M) (N := 14) hx hb hts i_M hown hW.1 hW.2.1 0 rfl rfl 8 (by decide) (hts _ w_166) (fun _ h9 => h9) rfl d_mMark_98 ?_
              refine lv_iload hx hb d_mMark_101 (lv_at hl 0 rfl) ?_
              refine lv_iload hx hb d_mMark_103 (lv_at hl 6 rfl) ?_
              refine va_zast hx hb hW.1 hW.2.1 hW.2.2.1 hW.2.2.2.1 7 2 rfl rfl (i := (40 * x3) + (mk x3.toNatClampNeg)) (x := x4) (gk_in vt_46 (by omega) (by omega)) d_mMark_105 (fun H locs hP hD hS => ?_)
              have hW : gk_W D vwCl (gk_T cI cL) s A H locs (wd_M cI cL g 0 rn fs lt kk mk (upd mf ((40 * x3) + (mk x3.toNatClampNeg)).toNatClampNeg x1) (upd ml ((40 * x3) + (mk x3.toNatClampNeg)).toNatClampNeg x2) (upd ma ((40 * x3) + (mk x3.toNatClampNeg)).toNatClampNeg (vp_nar .boolean x4)) il sz tt fh hd) := ⟨hW.1, hP, hD, hS, hW.2.2.2.2⟩
              refine lv_aload_n hx hb d_mMark_106 rfl (lv_at hl 2 rfl) ?_
              refine va_get (D := D) (C := R_M) (T := F_M) (N := 14) hx hb hts i_M hown hW.1 hW.2.1 0 rfl rfl 5 (by decide) (hts _ w_163) (fun _ h9 => h9) rfl d_mMark_107 ?_
              refine lv_iload_n hx hb d_mMark_110 rfl (lv_at hl 5 rfl) ?_
              refine lv_dup2_11 hx hb d_mMark_111 rfl rfl ?_
              refine va_iald hx hb hW.1 hW.2.1 4 0 rfl rfl (i := x3) (gk_in v_x3 (by omega) (by omega)) d_mMark_112 ?_
              refine lv_iconst (v := 1) hx hb d_mMark_113 (by decide) ?_
              refine lv_iadd hx hb d_mMark_114 ?_
              obtain ⟨zt_47, vt_47, et_47⟩ := gk_add vm50 (show gk_v 1 1 from rfl) (by omega) (by omega)
              refine va_iast hx hb hW.1 hW.2.1 hW.2.2.1 hW.2.2.2.1 4 0 rfl rfl (i := x3) (x := (mk x3.toNatClampNeg) + 1) (gk_in v_x3 (by omega) (by omega)) d_mMark_115 (fun H locs hP hD hS => ?_)
              have hW : gk_W D vwCl (gk_T cI cL) s A H locs (wd_M cI cL g 0 rn fs lt kk (upd mk x3.toNatClampNeg ((mk x3.toNatClampNeg) + 1)) (upd mf ((40 * x3) + (mk x3.toNatClampNeg)).toNatClampNeg x1) (upd ml ((40 * x3) + (mk x3.toNatClampNeg)).toNatClampNeg x2) (upd ma ((40 * x3) + (mk x3.toNatClampNeg)).toNatClampNeg (vp_nar .boolean x4)) il sz tt fh hd) := ⟨hW.1, hP, hD, hS, hW.2.2.2.2⟩
              exact X (0, upd mk x3.toNatClampNeg ((mk x3.toNatClampNeg) + 1), upd mf ((40 * x3) + (mk x3.toNatClampNeg)).toNatClampNeg x1, upd ml ((40 * x3) + (mk x3.toNatClampNeg)).toNatClampNeg x2, upd ma ((40 * x3) + (mk x3.toNatClampNeg)).toNatClampNeg (vp_nar .boolean x4)) H locs 0 0 116 ls heq hW d_mMark_116 (Nat.le_of_ble_eq_true rfl) (Nat.le_of_ble_eq_true rfl)
            · replace heq := (if_pos c_40).symm.trans heq
              have ic_40 := gk_eq vm50 (show gk_v 40 40 from rfl) c_40
              refine lv_iconst (v := 2) hx hb d_mMark_56 (by decide) ?_
              refine lv_goto (tgt := 61) hx hb d_mMark_57 (by decide) ?_
              refine gk_goI (wr := []) hW [0, 1, 2, 3, 4, 5, 6, 7, 8, 9] [] rfl rfl (by decide) (by decide) (va_runV (As := [.int 2]) (rest := []) ⟨hx, hb, hml, hown, hts⟩ (c_mRefused l D cI cL cL g fl rn fs lt kk mk mf ml ma il sz tt fh hd 2 _) (gk_cwV hts w_146 w_147 w_148 w_145 k_mRefused rfl e_mRefused rfl rfl ⟨Nat.le_of_ble_eq_true rfl, Nat.le_of_ble_eq_true rfl⟩) (gk_preV hW [0, 1, 2, 3, 4, 5, 6, 7, 8, 9] rfl rfl rfl rfl) rfl rfl hl.1 rfl (lv_room (Nat.le_of_ble_eq_true rfl)) d_mMark_61 ⟨Nat.le_of_ble_eq_true rfl, Nat.le_of_ble_eq_true rfl⟩) (fun r_48 u H locs p_50 hW => ?_)
              obtain ⟨rfl, rfl⟩ : r_48 = 1 ∧ u = 2 := Prod.mk.inj (p_50.trans (show (mm_mRefused 2 fl) = (1, 2) from rfl))
              have hW : gk_W D vwCl (gk_T cI cL) s A H locs (wd_M cI cL g 2 rn fs lt kk mk mf ml ma il sz tt fh hd) := hW.re [0, 1, 2, 3, 4, 5, 6, 7, 8, 9] (by decide) rfl
              refine lv_if_eq (tgt := 68) hx hb d_mMark_64 (by decide) (fun c_51 => absurd c_51 (by decide)) (fun _ => ?_)
              exact X (2, mk, mf, ml, ma) H locs 0 0 67 ls heq hW d_mMark_67 (Nat.le_of_ble_eq_true rfl) (Nat.le_of_ble_eq_true rfl)
def mm_mIsMark (x1 rn : Int32) (fs lt kk : Nat → Int32) (il : Int32) (tt : Nat → Int32) : Int32 := if (mm_mClassOf x1 rn fs lt kk il tt) = 8 then 1 else (if (mm_mClassOf x1 rn fs lt kk il tt) = 7 then 1 else 0)
def rm_mIsMark : Room := { frames := 1, cells := 0, slots := 0, locals := 24 }
set_option maxHeartbeats 4000000 in
set_option maxRecDepth 100000 in
theorem c_mIsMark (l : Launch) (D : va_G) (cI : ClassId) (cL cL : ClassId × ClassId) (g : Nat → Nat) (fl rn : Int32) (fs lt kk mk mf ml ma : Nat → Int32) (il sz : Int32) (tt fh : Nat → Int32) (hd x1 : Int32) (z_rn : Int) (v_rn : gk_v rn z_rn) (z_x1 : Int) (v_x1 : gk_v x1 z_x1) (hrn : 0 ≤ z_rn ∧ z_rn ≤ 100) (hx1 : 0 ≤ z_x1 ∧ z_x1 < 2000) : gk_I l y_mIsMark (.code y_mIsMark b_mIsMark 3 (some .boolean) :: wA) rm_mIsMark D vwCl (gk_T cI cL) [.ref (g 0), .int x1] (wd_M cI cL g fl rn fs lt kk mk mf ml ma il sz tt fh hd) (fun (r : Int32) (_ : Unit) => r = mm_mIsMark x1 rn fs lt kk il tt) (fun (_ : Unit) => (wd_M cI cL g fl rn fs lt kk mk mf ml ma il sz tt fh hd)) 0 0 := by
  refine gk_I.of (by decide) (Nat.le_of_ble_eq_true rfl) ?_
  intro p e s m below meth c A ls Q H locs hx hb hml hown hts hW hl X
  have hl : lv_has ls 3 [(0, .ref (g 0)), (1, .int x1)] := hl
  obtain ⟨tgt, heq⟩ : ∃ t, mm_mIsMark x1 rn fs lt kk il tt = t := ⟨_, rfl⟩
  rw [heq] at X
  rw [mm_mIsMark] at heq
  refine lv_aload_n hx hb d_mIsMark_0 rfl (lv_at hl 0 rfl) ?_
  refine lv_iload_n hx hb d_mIsMark_1 rfl (lv_at hl 1 rfl) ?_
  refine gk_goR hW [0, 1, 2, 3, 4, 5, 6, 7, 8, 9] rfl (va_runV (As := [.int x1]) (rest := []) ⟨hx, hb, hml, hown, hts⟩ (c_mClassOf l D cI cL cL g fl rn fs lt kk mk mf ml ma il sz tt fh hd x1 z_rn v_rn z_x1 v_x1 (by omega) (by omega) _) (gk_cwV hts w_167 w_168 w_169 w_145 k_mClassOf rfl e_mClassOf rfl rfl ⟨Nat.le_of_ble_eq_true rfl, Nat.le_of_ble_eq_true rfl⟩) (gk_preV hW [0, 1, 2, 3, 4, 5, 6, 7, 8, 9] rfl rfl rfl rfl) rfl rfl hl.1 rfl (lv_room (Nat.le_of_ble_eq_true rfl)) d_mIsMark_2 ⟨Nat.le_of_ble_eq_true rfl, Nat.le_of_ble_eq_true rfl⟩) (fun H locs hW => ?_)
  refine lv_istore_n (lv' := [(2, .int (mm_mClassOf x1 rn fs lt kk il tt)), (0, .ref (g 0)), (1, .int x1)]) hx hb d_mIsMark_5 rfl hl (by decide) rfl (fun ls hl => ?_)
  refine lv_iload_n hx hb d_mIsMark_6 rfl (lv_at hl 0 rfl) ?_
  refine lv_bipush (v := 8) hx hb d_mIsMark_7 (by decide) ?_
  refine lv_icmp_eq (tgt := 18) hx hb d_mIsMark_9 (by decide) (fun c_1 => ?_) (fun c_1 => ?_)
  · replace heq := (if_pos c_1).symm.trans heq
    refine lv_iconst (v := 1) hx hb d_mIsMark_18 (by decide) ?_
    refine lv_goto (tgt := 23) hx hb d_mIsMark_19 (by decide) ?_
    exact X _ () H locs 0 0 23 ls heq hW d_mIsMark_23 rfl (Nat.le_of_ble_eq_true rfl) (Nat.le_of_ble_eq_true rfl)
  · replace heq := (if_neg c_1).symm.trans heq
    refine lv_iload_n hx hb d_mIsMark_12 rfl (lv_at hl 0 rfl) ?_
    refine lv_bipush (v := 7) hx hb d_mIsMark_13 (by decide) ?_
    refine lv_icmp_ne (tgt := 22) hx hb d_mIsMark_15 (by decide) (fun c_2 => ?_) (fun c_2 => ?_)
    · replace heq := (if_neg c_2).symm.trans heq
      refine lv_iconst (v := 0) hx hb d_mIsMark_22 (by decide) ?_
      exact X _ () H locs 0 0 23 ls heq hW d_mIsMark_23 rfl (Nat.le_of_ble_eq_true rfl) (Nat.le_of_ble_eq_true rfl)
    · replace heq := (if_pos c_2).symm.trans heq
      refine lv_iconst (v := 1) hx hb d_mIsMark_18 (by decide) ?_
      refine lv_goto (tgt := 23) hx hb d_mIsMark_19 (by decide) ?_
      exact X _ () H locs 0 0 23 ls heq hW d_mIsMark_23 rfl (Nat.le_of_ble_eq_true rfl) (Nat.le_of_ble_eq_true rfl)
def mm_mIsLeftOut (x1 rn : Int32) (fs lt kk : Nat → Int32) (il : Int32) (tt : Nat → Int32) : Int32 := if x1 = 0 then 0 else (if (mm_mIsMark x1 rn fs lt kk il tt) = 0 then 0 else (if (mm_mClassOf (x1 - 1) rn fs lt kk il tt) ≤ 5 then 0 else 1))
def rm_mIsLeftOut : Room := { frames := 2, cells := 0, slots := 0, locals := 46 }
set_option maxHeartbeats 4000000 in
set_option maxRecDepth 100000 in
theorem c_mIsLeftOut (l : Launch) (D : va_G) (cI : ClassId) (cL cL : ClassId × ClassId) (g : Nat → Nat) (fl rn : Int32) (fs lt kk mk mf ml ma : Nat → Int32) (il sz : Int32) (tt fh : Nat → Int32) (hd x1 : Int32) (z_rn : Int) (v_rn : gk_v rn z_rn) (z_x1 : Int) (v_x1 : gk_v x1 z_x1) (hrn : 0 ≤ z_rn ∧ z_rn ≤ 100) (hx1 : 0 ≤ z_x1 ∧ z_x1 < 2000) : gk_I l y_mIsLeftOut (.code y_mIsLeftOut b_mIsLeftOut 3 (some .boolean) :: wA) rm_mIsLeftOut D vwCl (gk_T cI cL) [.ref (g 0), .int x1] (wd_M cI cL g fl rn fs lt kk mk mf ml ma il sz tt fh hd) (fun (r : Int32) (_ : Unit) => r = mm_mIsLeftOut x1 rn fs lt kk il tt) (fun (_ : Unit) => (wd_M cI cL g fl rn fs lt kk mk mf ml ma il sz tt fh hd)) 0 0 := by
  refine gk_I.of (by decide) (Nat.le_of_ble_eq_true rfl) ?_
  intro p e s m below meth c A ls Q H locs hx hb hml hown hts hW hl X
  have hl : lv_has ls 3 [(0, .ref (g 0)), (1, .int x1)] := hl
  obtain ⟨tgt, heq⟩ : ∃ t, mm_mIsLeftOut x1 rn fs lt kk il tt = t := ⟨_, rfl⟩
  rw [heq] at X
  rw [mm_mIsLeftOut] at heq
  obtain ⟨z_il, v_il⟩ := gk_vex il
  refine lv_iload_n hx hb d_mIsLeftOut_0 rfl (lv_at hl 1 rfl) ?_
  refine lv_if_eq (tgt := 12) hx hb d_mIsLeftOut_1 (by decide) (fun c_1 => ?_) (fun c_1 => ?_)
  · replace heq := (if_pos c_1).symm.trans heq
    have ic_1 := gk_eq v_x1 (show gk_v 0 0 from rfl) c_1
    refine lv_iconst (v := 0) hx hb d_mIsLeftOut_12 (by decide) ?_
    exact X _ () H locs 0 0 13 ls heq hW d_mIsLeftOut_13 rfl (Nat.le_of_ble_eq_true rfl) (Nat.le_of_ble_eq_true rfl)
  · replace heq := (if_neg c_1).symm.trans heq
    have ic_1 := gk_ne v_x1 (show gk_v 0 0 from rfl) c_1
    refine lv_aload_n hx hb d_mIsLeftOut_4 rfl (lv_at hl 0 rfl) ?_
    refine lv_iload_n hx hb d_mIsLeftOut_5 rfl (lv_at hl 1 rfl) ?_
    refine gk_goR hW [0, 1, 2, 3, 4, 5, 6, 7, 8, 9] rfl (va_runV (As := [.int x1]) (rest := []) ⟨hx, hb, hml, hown, hts⟩ (c_mIsMark l D cI cL cL g fl rn fs lt kk mk mf ml ma il sz tt fh hd x1 z_rn v_rn z_x1 v_x1 (by omega) (by omega) _) (gk_cwV hts w_170 w_171 w_172 w_145 k_mIsMark rfl e_mIsMark rfl rfl ⟨Nat.le_of_ble_eq_true rfl, Nat.le_of_ble_eq_true rfl⟩) (gk_preV hW [0, 1, 2, 3, 4, 5, 6, 7, 8, 9] rfl rfl rfl rfl) rfl rfl hl.1 rfl (lv_room (Nat.le_of_ble_eq_true rfl)) d_mIsLeftOut_6 ⟨Nat.le_of_ble_eq_true rfl, Nat.le_of_ble_eq_true rfl⟩) (fun H locs hW => ?_)
    refine lv_if_ne (tgt := 14) hx hb d_mIsLeftOut_9 (by decide) (fun c_2 => ?_) (fun c_2 => ?_)
    · replace heq := (if_neg c_2).symm.trans heq
      refine lv_aload_n hx hb d_mIsLeftOut_14 rfl (lv_at hl 0 rfl) ?_
      refine lv_iload_n hx hb d_mIsLeftOut_15 rfl (lv_at hl 1 rfl) ?_
      refine lv_iconst (v := 1) hx hb d_mIsLeftOut_16 (by decide) ?_
      refine lv_isub hx hb d_mIsLeftOut_17 ?_
      obtain ⟨zt_3, vt_3, et_3⟩ := gk_sub v_x1 (show gk_v 1 1 from rfl) (by omega) (by omega)
      refine gk_goR hW [0, 1, 2, 3, 4, 5, 6, 7, 8, 9] rfl (va_runV (As := [.int (x1 - 1)]) (rest := []) ⟨hx, hb, hml, hown, hts⟩ (c_mClassOf l D cI cL cL g fl rn fs lt kk mk mf ml ma il sz tt fh hd (x1 - 1) z_rn v_rn zt_3 vt_3 (by omega) (by omega) _) (gk_cwV hts w_167 w_168 w_169 w_145 k_mClassOf rfl e_mClassOf rfl rfl ⟨Nat.le_of_ble_eq_true rfl, Nat.le_of_ble_eq_true rfl⟩) (gk_preV hW [0, 1, 2, 3, 4, 5, 6, 7, 8, 9] rfl rfl rfl rfl) rfl rfl hl.1 rfl (lv_room (Nat.le_of_ble_eq_true rfl)) d_mIsLeftOut_18 ⟨Nat.le_of_ble_eq_true rfl, Nat.le_of_ble_eq_true rfl⟩) (fun H locs hW => ?_)
      refine lv_istore_n (lv' := [(2, .int (mm_mClassOf (x1 - 1) rn fs lt kk il tt)), (0, .ref (g 0)), (1, .int x1)]) hx hb d_mIsLeftOut_21 rfl hl (by decide) rfl (fun ls hl => ?_)
      refine lv_iload_n hx hb d_mIsLeftOut_22 rfl (lv_at hl 0 rfl) ?_
      refine lv_iconst (v := 5) hx hb d_mIsLeftOut_23 (by decide) ?_
      refine lv_icmp_le (tgt := 31) hx hb d_mIsLeftOut_24 (by decide) (fun c_4 => ?_) (fun c_4 => ?_)
      · replace heq := (if_pos c_4).symm.trans heq
        refine lv_iconst (v := 0) hx hb d_mIsLeftOut_31 (by decide) ?_
        exact X _ () H locs 0 0 32 ls heq hW d_mIsLeftOut_32 rfl (Nat.le_of_ble_eq_true rfl) (Nat.le_of_ble_eq_true rfl)
      · replace heq := (if_neg c_4).symm.trans heq
        refine lv_iconst (v := 1) hx hb d_mIsLeftOut_27 (by decide) ?_
        refine lv_goto (tgt := 32) hx hb d_mIsLeftOut_28 (by decide) ?_
        exact X _ () H locs 0 0 32 ls heq hW d_mIsLeftOut_32 rfl (Nat.le_of_ble_eq_true rfl) (Nat.le_of_ble_eq_true rfl)
    · replace heq := (if_pos c_2).symm.trans heq
      refine lv_iconst (v := 0) hx hb d_mIsLeftOut_12 (by decide) ?_
      exact X _ () H locs 0 0 13 ls heq hW d_mIsLeftOut_13 rfl (Nat.le_of_ble_eq_true rfl) (Nat.le_of_ble_eq_true rfl)
def mm_mBase_2 (x1 rn : Int32) (fs lt kk : Nat → Int32) (il : Int32) (tt : Nat → Int32) : Nat → Int32 → Int32
  | 0, x2 => 0
  | n + 1, x2 => if x2 < 0 then x2 else (if (mm_mIsLeftOut x2 rn fs lt kk il tt) = 0 then x2 else (mm_mBase_2 x1 rn fs lt kk il tt n (x2 + (-1))))
def mm_mBase (x1 rn : Int32) (fs lt kk : Nat → Int32) (il : Int32) (tt : Nat → Int32) : Int32 := mm_mBase_2 x1 rn fs lt kk il tt 2100 x1
theorem mm_mBase_bd2 (x1 rn : Int32) (fs lt kk : Nat → Int32) (il : Int32) (tt : Nat → Int32) : ∀ (n : Nat) (x2 : Int32) (z2 : Int), gk_v x2 z2 → z2 + 11 < (n : Int) → -10 ≤ z2 → z2 < 2000 → ∃ z : Int, gk_v (mm_mBase_2 x1 rn fs lt kk il tt n x2) z ∧ z ≤ z2 ∧ -10 ≤ z ∧ (0 ≤ z2 → 0 ≤ z) := by
  intro n
  induction n with
  | zero => intro x2 z2 v2 a b c; exfalso; omega
  | succ n ih =>
    intro x2 z2 v2 a b c
    rw [mm_mBase_2]
    by_cases c1 : x2 < 0
    · rw [if_pos c1]; exact ⟨z2, v2, by omega, by omega, fun h => h⟩
    · rw [if_neg c1]
      have h1 := gk_nlt v2 (show gk_v 0 0 from rfl) c1
      by_cases c2 : mm_mIsLeftOut x2 rn fs lt kk il tt = 0
      · rw [if_pos c2]; exact ⟨z2, v2, by omega, by omega, fun h => h⟩
      · rw [if_neg c2]
        have h0 : ¬ z2 = 0 := by
          intro h0
          rw [h0] at v2
          have e0 : x2 = 0 := gk_inj v2 (show gk_v 0 0 from rfl)
          apply c2
          rw [e0, mm_mIsLeftOut, if_pos rfl]
        obtain ⟨z3, v3, e3⟩ := gk_add v2 (show gk_v (-1) (-1) from rfl) (by omega) (by omega)
        obtain ⟨z, v, q1, q2, q3⟩ := ih (x2 + (-1)) z3 v3 (by omega) (by omega) (by omega)
        exact ⟨z, v, by omega, by omega, fun _ => q3 (by omega)⟩
theorem mm_mBase_bd (x1 rn : Int32) (fs lt kk : Nat → Int32) (il : Int32) (tt : Nat → Int32) (z1 : Int) (v1 : gk_v x1 z1) (h1 : -10 ≤ z1 ∧ z1 < 2000) : ∃ z : Int, gk_v (mm_mBase x1 rn fs lt kk il tt) z ∧ z ≤ z1 ∧ -10 ≤ z ∧ (0 ≤ z1 → 0 ≤ z) := mm_mBase_bd2 x1 rn fs lt kk il tt 2100 x1 z1 v1 (by omega) (by omega) (by omega)
def rm_mBase : Room := { frames := 3, cells := 0, slots := 0, locals := 68 }
set_option maxHeartbeats 4000000 in
set_option maxRecDepth 100000 in
theorem c_mBase (l : Launch) (D : va_G) (cI : ClassId) (cL cL : ClassId × ClassId) (g : Nat → Nat) (fl rn : Int32) (fs lt kk mk mf ml ma : Nat → Int32) (il sz : Int32) (tt fh : Nat → Int32) (hd x1 : Int32) (z_rn : Int) (v_rn : gk_v rn z_rn) (z_x1 : Int) (v_x1 : gk_v x1 z_x1) (hrn : 0 ≤ z_rn ∧ z_rn ≤ 100) (hx1 : -10 ≤ z_x1 ∧ z_x1 < 2000) : gk_I l y_mBase (.code y_mBase b_mBase 3 (some .int) :: wA) rm_mBase D vwCl (gk_T cI cL) [.ref (g 0), .int x1] (wd_M cI cL g fl rn fs lt kk mk mf ml ma il sz tt fh hd) (fun (r : Int32) (_ : Unit) => r = mm_mBase x1 rn fs lt kk il tt) (fun (_ : Unit) => (wd_M cI cL g fl rn fs lt kk mk mf ml ma il sz tt fh hd)) 0 0 := by
  refine gk_I.of (by decide) (Nat.le_of_ble_eq_true rfl) ?_
  intro p e s m below meth c A ls Q H locs hx hb hml hown hts hW hl X
  have hl : lv_has ls 3 [(0, .ref (g 0)), (1, .int x1)] := hl
  obtain ⟨tgt, heq⟩ : ∃ t, mm_mBase x1 rn fs lt kk il tt = t := ⟨_, rfl⟩
  rw [heq] at X
  rw [mm_mBase] at heq
  obtain ⟨z_il, v_il⟩ := gk_vex il
  have L2 : ∀ (n : Nat) (x2 : Int32) (H : Heap) (locs : List Loc) (ls : Array Slot), ∀ (z_x2 : Int), gk_v x2 z_x2 → (z_x2 + 11) < (n : Int) → -10 ≤ z_x2 ∧ z_x2 < 2000 → mm_mBase_2 x1 rn fs lt kk il tt n x2 = tgt → gk_W D vwCl (gk_T cI cL) s A H locs (wd_M cI cL g fl rn fs lt kk mk mf ml ma il sz tt fh hd) → lv_has ls 3 [(0, .ref (g 0)), (1, .int x1), (2, .int x2)] → W p l e rm_mBase s m [.ref (g 0), .int x1].toArray below meth c H locs 0 0 Q (F0 m 2 ls []) := by
    intro n
    induction n with
    | zero => intro x2 H locs ls z_x2 v_x2 hm f2_0 heq hW hl; exfalso; omega
    | succ n ih =>
      intro x2 H locs ls z_x2 v_x2 hm f2_0 heq hW hl
      rw [mm_mBase_2] at heq
      refine lv_iload_n hx hb d_mBase_2 rfl (lv_at hl 2 rfl) ?_
      refine lv_if_lt (tgt := 20) hx hb d_mBase_3 (by decide) (fun c_1 => ?_) (fun c_1 => ?_)
      · replace heq := (if_pos c_1).symm.trans heq
        have ic_1 := gk_lt v_x2 (show gk_v 0 0 from rfl) c_1
        refine lv_iload_n hx hb d_mBase_20 rfl (lv_at hl 2 rfl) ?_
        exact X _ () H locs 0 0 21 ls heq hW d_mBase_21 rfl (Nat.le_of_ble_eq_true rfl) (Nat.le_of_ble_eq_true rfl)
      · replace heq := (if_neg c_1).symm.trans heq
        have ic_1 := gk_nlt v_x2 (show gk_v 0 0 from rfl) c_1
        refine lv_aload_n hx hb d_mBase_6 rfl (lv_at hl 0 rfl) ?_
        refine lv_iload_n hx hb d_mBase_7 rfl (lv_at hl 2 rfl) ?_
        refine gk_goR hW [0, 1, 2, 3, 4, 5, 6, 7, 8, 9] rfl (va_runV (As := [.int x2]) (rest := []) ⟨hx, hb, hml, hown, hts⟩ (c_mIsLeftOut l D cI cL cL g fl rn fs lt kk mk mf ml ma il sz tt fh hd x2 z_rn v_rn z_x2 v_x2 (by omega) (by omega) _) (gk_cwV hts w_173 w_174 w_175 w_145 k_mIsLeftOut rfl e_mIsLeftOut rfl rfl ⟨Nat.le_of_ble_eq_true rfl, Nat.le_of_ble_eq_true rfl⟩) (gk_preV hW [0, 1, 2, 3, 4, 5, 6, 7, 8, 9] rfl rfl rfl rfl) rfl rfl hl.1 rfl (lv_room (Nat.le_of_ble_eq_true rfl)) d_mBase_8 ⟨Nat.le_of_ble_eq_true rfl, Nat.le_of_ble_eq_true rfl⟩) (fun H locs hW => ?_)
        refine lv_if_eq (tgt := 20) hx hb d_mBase_11 (by decide) (fun c_2 => ?_) (fun c_2 => ?_)
        · replace heq := (if_pos c_2).symm.trans heq
          refine lv_iload_n hx hb d_mBase_20 rfl (lv_at hl 2 rfl) ?_
          exact X _ () H locs 0 0 21 ls heq hW d_mBase_21 rfl (Nat.le_of_ble_eq_true rfl) (Nat.le_of_ble_eq_true rfl)
        · replace heq := (if_neg c_2).symm.trans heq
          refine lv_iinc (v := x2 + (-1)) (lv' := [(2, .int (x2 + (-1))), (0, .ref (g 0)), (1, .int x1)]) hx hb d_mBase_14 hl (k := 2) rfl rfl (by decide) rfl (fun ls hl => ?_)
          obtain ⟨zt_3, vt_3, et_3⟩ := gk_add v_x2 (show gk_v (-1) (-1) from rfl) (by omega) (by omega)
          refine lv_goto (tgt := 2) hx hb d_mBase_17 (by decide) ?_
          exact ih (x2 + (-1)) H locs ls zt_3 vt_3 (by omega) (by omega) heq hW (lv_sub hl [1, 2, 0] rfl)
  refine lv_iload_n hx hb d_mBase_0 rfl (lv_at hl 1 rfl) ?_
  refine lv_istore_n (lv' := [(2, .int x1), (0, .ref (g 0)), (1, .int x1)]) hx hb d_mBase_1 rfl hl (by decide) rfl (fun ls hl => ?_)
  exact L2 2100 x1 H locs ls z_x1 v_x1 (by omega) (by omega) heq hW (lv_sub hl [1, 2, 0] rfl)
def mm_mBaseClass (x1 rn : Int32) (fs lt kk : Nat → Int32) (il : Int32) (tt : Nat → Int32) : Int32 := if 0 ≤ x1 then (if (mm_mIsMark x1 rn fs lt kk il tt) = 0 then (mm_mClassOf x1 rn fs lt kk il tt) else 27) else (-1)
def rm_mBaseClass : Room := { frames := 2, cells := 0, slots := 0, locals := 46 }
set_option maxHeartbeats 4000000 in
set_option maxRecDepth 100000 in
theorem c_mBaseClass (l : Launch) (D : va_G) (cI : ClassId) (cL cL : ClassId × ClassId) (g : Nat → Nat) (fl rn : Int32) (fs lt kk mk mf ml ma : Nat → Int32) (il sz : Int32) (tt fh : Nat → Int32) (hd x1 : Int32) (z_rn : Int) (v_rn : gk_v rn z_rn) (z_x1 : Int) (v_x1 : gk_v x1 z_x1) (hrn : 0 ≤ z_rn ∧ z_rn ≤ 100) (hx1 : -10 ≤ z_x1 ∧ z_x1 < 2000) : gk_I l y_mBaseClass (.code y_mBaseClass b_mBaseClass 2 (some .int) :: wA) rm_mBaseClass D vwCl (gk_T cI cL) [.ref (g 0), .int x1] (wd_M cI cL g fl rn fs lt kk mk mf ml ma il sz tt fh hd) (fun (r : Int32) (_ : Unit) => r = mm_mBaseClass x1 rn fs lt kk il tt) (fun (_ : Unit) => (wd_M cI cL g fl rn fs lt kk mk mf ml ma il sz tt fh hd)) 0 0 := by
  refine gk_I.of (by decide) (Nat.le_of_ble_eq_true rfl) ?_
  intro p e s m below meth c A ls Q H locs hx hb hml hown hts hW hl X
  have hl : lv_has ls 2 [(0, .ref (g 0)), (1, .int x1)] := hl
  obtain ⟨tgt, heq⟩ : ∃ t, mm_mBaseClass x1 rn fs lt kk il tt = t := ⟨_, rfl⟩
  rw [heq] at X
  rw [mm_mBaseClass] at heq
  obtain ⟨z_il, v_il⟩ := gk_vex il
  refine lv_iload_n hx hb d_mBaseClass_0 rfl (lv_at hl 1 rfl) ?_
  refine lv_if_ge (tgt := 6) hx hb d_mBaseClass_1 (by decide) (fun c_1 => ?_) (fun c_1 => ?_)
  · replace heq := (if_pos c_1).symm.trans heq
    have ic_1 := gk_le (show gk_v 0 0 from rfl) v_x1 c_1
    refine lv_aload_n hx hb d_mBaseClass_6 rfl (lv_at hl 0 rfl) ?_
    refine lv_iload_n hx hb d_mBaseClass_7 rfl (lv_at hl 1 rfl) ?_
    refine gk_goR hW [0, 1, 2, 3, 4, 5, 6, 7, 8, 9] rfl (va_runV (As := [.int x1]) (rest := []) ⟨hx, hb, hml, hown, hts⟩ (c_mIsMark l D cI cL cL g fl rn fs lt kk mk mf ml ma il sz tt fh hd x1 z_rn v_rn z_x1 v_x1 (by omega) (by omega) _) (gk_cwV hts w_170 w_171 w_172 w_145 k_mIsMark rfl e_mIsMark rfl rfl ⟨Nat.le_of_ble_eq_true rfl, Nat.le_of_ble_eq_true rfl⟩) (gk_preV hW [0, 1, 2, 3, 4, 5, 6, 7, 8, 9] rfl rfl rfl rfl) rfl rfl hl.1 rfl (lv_room (Nat.le_of_ble_eq_true rfl)) d_mBaseClass_8 ⟨Nat.le_of_ble_eq_true rfl, Nat.le_of_ble_eq_true rfl⟩) (fun H locs hW => ?_)
    refine lv_if_eq (tgt := 19) hx hb d_mBaseClass_11 (by decide) (fun c_2 => ?_) (fun c_2 => ?_)
    · replace heq := (if_pos c_2).symm.trans heq
      refine lv_aload_n hx hb d_mBaseClass_19 rfl (lv_at hl 0 rfl) ?_
      refine lv_iload_n hx hb d_mBaseClass_20 rfl (lv_at hl 1 rfl) ?_
      refine gk_goR hW [0, 1, 2, 3, 4, 5, 6, 7, 8, 9] rfl (va_runV (As := [.int x1]) (rest := []) ⟨hx, hb, hml, hown, hts⟩ (c_mClassOf l D cI cL cL g fl rn fs lt kk mk mf ml ma il sz tt fh hd x1 z_rn v_rn z_x1 v_x1 (by omega) (by omega) _) (gk_cwV hts w_167 w_168 w_169 w_145 k_mClassOf rfl e_mClassOf rfl rfl ⟨Nat.le_of_ble_eq_true rfl, Nat.le_of_ble_eq_true rfl⟩) (gk_preV hW [0, 1, 2, 3, 4, 5, 6, 7, 8, 9] rfl rfl rfl rfl) rfl rfl hl.1 rfl (lv_room (Nat.le_of_ble_eq_true rfl)) d_mBaseClass_21 ⟨Nat.le_of_ble_eq_true rfl, Nat.le_of_ble_eq_true rfl⟩) (fun H locs hW => ?_)
      exact X _ () H locs 0 0 24 ls heq hW d_mBaseClass_24 rfl (Nat.le_of_ble_eq_true rfl) (Nat.le_of_ble_eq_true rfl)
    · replace heq := (if_neg c_2).symm.trans heq
      refine lv_bipush (v := 27) hx hb d_mBaseClass_14 (by decide) ?_
      refine lv_goto (tgt := 24) hx hb d_mBaseClass_16 (by decide) ?_
      exact X _ () H locs 0 0 24 ls heq hW d_mBaseClass_24 rfl (Nat.le_of_ble_eq_true rfl) (Nat.le_of_ble_eq_true rfl)
  · replace heq := (if_neg c_1).symm.trans heq
    have ic_1 := gk_nle (show gk_v 0 0 from rfl) v_x1 c_1
    refine lv_iconst (v := (-1)) hx hb d_mBaseClass_4 (by decide) ?_
    exact X _ () H locs 0 0 5 ls heq hW d_mBaseClass_5 rfl (Nat.le_of_ble_eq_true rfl) (Nat.le_of_ble_eq_true rfl)
