def mm_property_61 (x1 x2 x3 : Int32) (tx : Nat → Int32) (ln : Int32) : Nat → Int32 → (Nat → Int32) → (Nat → Int32) → (Nat → Int32) → (Nat → Int32) → Int32 → Int32 → Int32 → Int32 → Int32 → Int32 → Int32 → Int32 → Int32 × (Nat → Int32) × (Nat → Int32) × (Nat → Int32) × (Nat → Int32) × Int32 × Int32 × Int32 × Int32 × Int32 × Int32 × Int32 × Int32
  | 0, x4, cs, fa1, la1, va1, mn1, b1, b2, b3, b4, b5, b6, kn => (0, cs, fa1, la1, va1, mn1, b1, b2, b3, b4, b5, b6, kn)
  | n + 1, x4, cs, fa1, la1, va1, mn1, b1, b2, b3, b4, b5, b6, kn => if ln ≤ x4 then (match (mm_forgetRules b1 b2 b3 b4 b5 b6 kn) with | (u_2, u_3, u_4, u_5, u_6, u_7, u_8) => (0, cs, fa1, la1, va1, mn1, u_2, u_3, u_4, u_5, u_6, u_7, u_8)) else (if (tx x4.toNatClampNeg) < x1 then (mm_property_61 x1 x2 x3 tx ln n (x4 + 1) cs fa1 la1 va1 mn1 b1 b2 b3 b4 b5 b6 kn) else (if x2 < (tx x4.toNatClampNeg) then (mm_property_61 x1 x2 x3 tx ln n (x4 + 1) cs fa1 la1 va1 mn1 b1 b2 b3 b4 b5 b6 kn) else (mm_property_61 x1 x2 x3 tx ln n (x4 + 1) (upd cs x4.toNatClampNeg x3) fa1 la1 va1 mn1 b1 b2 b3 b4 b5 b6 kn)))
def mm_property (x1 x2 x3 : Int32) (tx cs fa1 la1 va1 : Nat → Int32) (mn1 b1 b2 b3 b4 b5 b6 ln kn : Int32) : Int32 × (Nat → Int32) × (Nat → Int32) × (Nat → Int32) × (Nat → Int32) × Int32 × Int32 × Int32 × Int32 × Int32 × Int32 × Int32 × Int32 := if (mm_isRange x1 x2) = 0 then (1, cs, fa1, la1, va1, mn1, b1, b2, b3, b4, b5, b6, kn) else (if x3 < 0 then (1, cs, fa1, la1, va1, mn1, b1, b2, b3, b4, b5, b6, kn) else (if x3 ≤ 43 then (if (mm_rIsFull 100 mn1) = 0 then (match (mm_rTell x1 x2 x3 100 fa1 la1 va1 mn1) with | (u_19, u_20, u_21, u_22) => mm_property_61 x1 x2 x3 tx ln 2001 0 cs u_19 u_20 u_21 u_22 b1 b2 b3 b4 b5 b6 kn) else (2, cs, fa1, la1, va1, mn1, b1, b2, b3, b4, b5, b6, kn)) else (1, cs, fa1, la1, va1, mn1, b1, b2, b3, b4, b5, b6, kn)))
def rm_property : Room := { frames := 6, cells := 1, slots := 6, locals := 82 }
theorem T_property_18 : gx_T b_property "BreakPlaces" wA rm_property "java/lang/IllegalArgumentException" "no range of characters, or no class" ["java/lang/RuntimeException", "java/lang/Exception"] 18 59 61 63 := ⟨⟨by decide +kernel, by decide +kernel⟩, ⟨w_122, w_123, w_131, a_IA⟩, o_IA, ⟨d_property_18, d_property_21, d_property_22, d_property_24, d_property_27⟩, Nat.le_of_ble_eq_true rfl, Nat.le_of_ble_eq_true rfl⟩
theorem T_property_38 : gx_T b_property "BreakPlaces" wA rm_property "java/lang/IllegalStateException" "there are 100 ranges of classes" ["java/lang/RuntimeException", "java/lang/Exception"] 38 70 72 74 := ⟨⟨by decide +kernel, by decide +kernel⟩, ⟨w_132, w_133, w_134, a_IS⟩, o_IS, ⟨d_property_38, d_property_41, d_property_42, d_property_44, d_property_47⟩, Nat.le_of_ble_eq_true rfl, Nat.le_of_ble_eq_true rfl⟩
set_option maxHeartbeats 4000000 in
set_option maxRecDepth 100000 in
theorem c_property (l : Launch) (hst : l.stackTraces = false) (D : va_G) (cI : ClassId) (cL : ClassId × ClassId) (h : Nat → Nat) (tx cs rl gv fa1 la1 va1 : Nat → Int32) (mn1 : Int32) (fa2 la2 va2 : Nat → Int32) (mn2 : Int32) (fa3 la3 va3 : Nat → Int32) (mn3 b1 b2 b3 b4 b5 b6 ln lo kn x1 x2 x3 : Int32) (z_ln : Int) (v_ln : gk_v ln z_ln) (z_mn1 : Int) (v_mn1 : gk_v mn1 z_mn1) (hln : 0 ≤ z_ln ∧ z_ln ≤ 2000) (hm1 : 0 ≤ z_mn1 ∧ z_mn1 ≤ 100) : gx_V l y_property (.code y_property b_property 5 none :: wA) rm_property D vwCl (gk_T cI cL) [.ref (h 0), .int x1, .int x2, .int x3] (wd_P cI h tx cs rl gv fa1 la1 va1 mn1 fa2 la2 va2 mn2 fa3 la3 va3 mn3 b1 b2 b3 b4 b5 b6 ln lo kn) (fun (u : (Nat → Int32) × (Nat → Int32) × (Nat → Int32) × (Nat → Int32) × Int32 × Int32 × Int32 × Int32 × Int32 × Int32 × Int32 × Int32) => (0, u) = mm_property x1 x2 x3 tx cs fa1 la1 va1 mn1 b1 b2 b3 b4 b5 b6 ln kn) (fun (E : String) (u : (Nat → Int32) × (Nat → Int32) × (Nat → Int32) × (Nat → Int32) × Int32 × Int32 × Int32 × Int32 × Int32 × Int32 × Int32 × Int32) => (E = "java/lang/IllegalArgumentException" ∧ (1, u) = mm_property x1 x2 x3 tx cs fa1 la1 va1 mn1 b1 b2 b3 b4 b5 b6 ln kn) ∨ (E = "java/lang/IllegalStateException" ∧ (2, u) = mm_property x1 x2 x3 tx cs fa1 la1 va1 mn1 b1 b2 b3 b4 b5 b6 ln kn)) (fun u => (wd_P cI h tx u.1 rl gv u.2.1 u.2.2.1 u.2.2.2.1 u.2.2.2.2.1 fa2 la2 va2 mn2 fa3 la3 va3 mn3 u.2.2.2.2.2.1 u.2.2.2.2.2.2.1 u.2.2.2.2.2.2.2.1 u.2.2.2.2.2.2.2.2.1 u.2.2.2.2.2.2.2.2.2.1 u.2.2.2.2.2.2.2.2.2.2.1 ln lo u.2.2.2.2.2.2.2.2.2.2.2)) 1 6 := by
  refine gx_V.of hst (by decide) (Nat.le_of_ble_eq_true rfl) ?_
  intro p e s m below meth c A ls Q H locs hx hb hml hown hts hin hW hl X Y
  have hl : lv_has ls 5 [(0, .ref (h 0)), (1, .int x1), (2, .int x2), (3, .int x3)] := hl
  obtain ⟨tgt, heq⟩ : ∃ t, mm_property x1 x2 x3 tx cs fa1 la1 va1 mn1 b1 b2 b3 b4 b5 b6 ln kn = t := ⟨_, rfl⟩
  rw [heq] at X
  simp only [heq] at Y
  rw [mm_property] at heq
  obtain ⟨z_x1, v_x1⟩ := gk_vex x1
  obtain ⟨z_x2, v_x2⟩ := gk_vex x2
  obtain ⟨z_x3, v_x3⟩ := gk_vex x3
  have L61 : ∀ (n : Nat) (x4 : Int32) (cs fa1 la1 va1 : Nat → Int32) (mn1 b1 b2 b3 b4 b5 b6 kn : Int32) (H : Heap) (locs : List Loc) (ls : Array Slot), ∀ (z_x4 : Int), gk_v x4 z_x4 → (z_ln - z_x4) < (n : Int) → 0 ≤ z_x4 ∧ z_x4 ≤ z_ln → mm_property_61 x1 x2 x3 tx ln n x4 cs fa1 la1 va1 mn1 b1 b2 b3 b4 b5 b6 kn = tgt → gk_W D vwCl (gk_T cI cL) s A H locs (wd_P cI h tx cs rl gv fa1 la1 va1 mn1 fa2 la2 va2 mn2 fa3 la3 va3 mn3 b1 b2 b3 b4 b5 b6 ln lo kn) → lv_has ls 5 [(0, .ref (h 0)), (1, .int x1), (2, .int x2), (3, .int x3), (4, .int x4)] → W p l e rm_property s m [.ref (h 0), .int x1, .int x2, .int x3].toArray below meth c H locs 0 0 Q (F0 m 61 ls []) := by
    intro n
    induction n with
    | zero => intro x4 cs fa1 la1 va1 mn1 b1 b2 b3 b4 b5 b6 kn H locs ls z_x4 v_x4 hm f61_0 heq hW hl; exfalso; omega
    | succ n ih =>
      intro x4 cs fa1 la1 va1 mn1 b1 b2 b3 b4 b5 b6 kn H locs ls z_x4 v_x4 hm f61_0 heq hW hl
      rw [mm_property_61] at heq
      refine lv_iload hx hb d_property_61 (lv_at hl 4 rfl) ?_
      refine lv_aload_n hx hb d_property_63 rfl (lv_at hl 0 rfl) ?_
      refine va_get (D := D) (C := R_P) (T := F_P) (N := 11) hx hb hts i_P hown hW.1 hW.2.1 0 rfl rfl 8 (by decide) (hts _ w_42) (fun _ h9 => h9) rfl d_property_64 ?_
      refine lv_icmp_ge (tgt := 106) hx hb d_property_67 (by decide) (fun c_1 => ?_) (fun c_1 => ?_)
      · replace heq := (if_pos c_1).symm.trans heq
        have ic_1 := gk_le v_ln v_x4 c_1
        refine lv_aload_n hx hb d_property_106 rfl (lv_at hl 0 rfl) ?_
        refine gk_goV (wr := []) hW [0, 1, 2, 3, 4, 5, 6, 7, 8, 9, 10, 11, 12, 13, 14, 15, 16, 17] [] rfl rfl (by decide) (by decide) (va_runV (As := []) (rest := []) ⟨hx, hb, hml, hown, hts⟩ (c_forgetRules l D cI cL h tx cs rl gv fa1 la1 va1 mn1 fa2 la2 va2 mn2 fa3 la3 va3 mn3 b1 b2 b3 b4 b5 b6 ln lo kn _) (gk_cwV hts w_86 w_87 w_88 w_3 k_forgetRules rfl e_forgetRules rfl rfl ⟨Nat.le_of_ble_eq_true rfl, Nat.le_of_ble_eq_true rfl⟩) (gk_preV hW [0, 1, 2, 3, 4, 5, 6, 7, 8, 9, 10, 11, 12, 13, 14, 15, 16, 17] rfl rfl rfl rfl) rfl rfl hl.1 rfl (lv_room (Nat.le_of_ble_eq_true rfl)) d_property_107 ⟨Nat.le_of_ble_eq_true rfl, Nat.le_of_ble_eq_true rfl⟩) (fun u H locs p_9 hW => ?_)
        obtain ⟨u_2, u_3, u_4, u_5, u_6, u_7, u_8⟩ := u
        have hW : gk_W D vwCl (gk_T cI cL) s A H locs (wd_P cI h tx cs rl gv fa1 la1 va1 mn1 fa2 la2 va2 mn2 fa3 la3 va3 mn3 u_2 u_3 u_4 u_5 u_6 u_7 ln lo u_8) := hW.re [0, 1, 2, 3, 4, 5, 6, 7, 8, 9, 10, 11, 12, 13, 14, 15, 16, 17] (by decide) rfl
        rw [← p_9] at heq
        dsimp only at heq
        exact X (cs, fa1, la1, va1, mn1, u_2, u_3, u_4, u_5, u_6, u_7, u_8) H locs 0 0 110 ls heq hW d_property_110 (Nat.le_of_ble_eq_true rfl) (Nat.le_of_ble_eq_true rfl)
      · replace heq := (if_neg c_1).symm.trans heq
        have ic_1 := gk_nle v_ln v_x4 c_1
        refine lv_iload_n hx hb d_property_70 rfl (lv_at hl 1 rfl) ?_
        refine lv_aload_n hx hb d_property_71 rfl (lv_at hl 0 rfl) ?_
        refine va_get (D := D) (C := R_P) (T := F_P) (N := 11) hx hb hts i_P hown hW.1 hW.2.1 0 rfl rfl 0 (by decide) (hts _ w_89) (fun _ h9 => h9) rfl d_property_72 ?_
        refine lv_iload hx hb d_property_75 (lv_at hl 4 rfl) ?_
        refine va_iald hx hb hW.1 hW.2.1 1 0 rfl rfl (i := x4) (gk_in v_x4 (by omega) (by omega)) d_property_77 ?_
        refine lv_icmp_gt (tgt := 100) hx hb d_property_78 (by decide) (fun c_10 => ?_) (fun c_10 => ?_)
        · replace heq := (if_pos c_10).symm.trans heq
          refine lv_iinc (v := x4 + 1) (lv' := [(4, .int (x4 + 1)), (0, .ref (h 0)), (1, .int x1), (2, .int x2), (3, .int x3)]) hx hb d_property_100 hl (k := 4) rfl rfl (by decide) rfl (fun ls hl => ?_)
          obtain ⟨zt_11, vt_11, et_11⟩ := gk_add v_x4 (show gk_v 1 1 from rfl) (by omega) (by omega)
          refine lv_goto (tgt := 61) hx hb d_property_103 (by decide) ?_
          exact ih (x4 + 1) cs fa1 la1 va1 mn1 b1 b2 b3 b4 b5 b6 kn H locs ls zt_11 vt_11 (by omega) (by omega) heq hW (lv_sub hl [1, 2, 3, 4, 0] rfl)
        · replace heq := (if_neg c_10).symm.trans heq
          refine lv_aload_n hx hb d_property_81 rfl (lv_at hl 0 rfl) ?_
          refine va_get (D := D) (C := R_P) (T := F_P) (N := 11) hx hb hts i_P hown hW.1 hW.2.1 0 rfl rfl 0 (by decide) (hts _ w_89) (fun _ h9 => h9) rfl d_property_82 ?_
          refine lv_iload hx hb d_property_85 (lv_at hl 4 rfl) ?_
          refine va_iald hx hb hW.1 hW.2.1 1 0 rfl rfl (i := x4) (gk_in v_x4 (by omega) (by omega)) d_property_87 ?_
          refine lv_iload_n hx hb d_property_88 rfl (lv_at hl 2 rfl) ?_
          refine lv_icmp_gt (tgt := 100) hx hb d_property_89 (by decide) (fun c_12 => ?_) (fun c_12 => ?_)
          · replace heq := (if_pos c_12).symm.trans heq
            refine lv_iinc (v := x4 + 1) (lv' := [(4, .int (x4 + 1)), (0, .ref (h 0)), (1, .int x1), (2, .int x2), (3, .int x3)]) hx hb d_property_100 hl (k := 4) rfl rfl (by decide) rfl (fun ls hl => ?_)
            obtain ⟨zt_13, vt_13, et_13⟩ := gk_add v_x4 (show gk_v 1 1 from rfl) (by omega) (by omega)
            refine lv_goto (tgt := 61) hx hb d_property_103 (by decide) ?_
            exact ih (x4 + 1) cs fa1 la1 va1 mn1 b1 b2 b3 b4 b5 b6 kn H locs ls zt_13 vt_13 (by omega) (by omega) heq hW (lv_sub hl [1, 2, 3, 4, 0] rfl)
          · replace heq := (if_neg c_12).symm.trans heq
            refine lv_aload_n hx hb d_property_92 rfl (lv_at hl 0 rfl) ?_
            refine va_get (D := D) (C := R_P) (T := F_P) (N := 11) hx hb hts i_P hown hW.1 hW.2.1 0 rfl rfl 1 (by decide) (hts _ w_48) (fun _ h9 => h9) rfl d_property_93 ?_
            refine lv_iload hx hb d_property_96 (lv_at hl 4 rfl) ?_
            refine lv_iload_n hx hb d_property_98 rfl (lv_at hl 3 rfl) ?_
            refine va_iast hx hb hW.1 hW.2.1 hW.2.2.1 hW.2.2.2.1 2 0 rfl rfl (i := x4) (x := x3) (gk_in v_x4 (by omega) (by omega)) d_property_99 (fun H locs hP hD hS => ?_)
            have hW : gk_W D vwCl (gk_T cI cL) s A H locs (wd_P cI h tx (upd cs x4.toNatClampNeg x3) rl gv fa1 la1 va1 mn1 fa2 la2 va2 mn2 fa3 la3 va3 mn3 b1 b2 b3 b4 b5 b6 ln lo kn) := ⟨hW.1, hP, hD, hS, hW.2.2.2.2⟩
            refine lv_iinc (v := x4 + 1) (lv' := [(4, .int (x4 + 1)), (0, .ref (h 0)), (1, .int x1), (2, .int x2), (3, .int x3)]) hx hb d_property_100 hl (k := 4) rfl rfl (by decide) rfl (fun ls hl => ?_)
            obtain ⟨zt_14, vt_14, et_14⟩ := gk_add v_x4 (show gk_v 1 1 from rfl) (by omega) (by omega)
            refine lv_goto (tgt := 61) hx hb d_property_103 (by decide) ?_
            exact ih (x4 + 1) (upd cs x4.toNatClampNeg x3) fa1 la1 va1 mn1 b1 b2 b3 b4 b5 b6 kn H locs ls zt_14 vt_14 (by omega) (by omega) heq hW (lv_sub hl [1, 2, 3, 4, 0] rfl)
  refine lv_iload_n hx hb d_property_0 rfl (lv_at hl 1 rfl) ?_
  refine lv_iload_n hx hb d_property_1 rfl (lv_at hl 2 rfl) ?_
  refine gk_goR hW [] rfl (va_runS (As := [.int x1, .int x2]) (rest := []) ⟨hx, hb, hml, hown, hts⟩ (c_isRange l D cI cL x1 x2 _) (gk_cwS hts w_125 w_126 w_3 k_isRange rfl e_isRange rfl rfl ⟨Nat.le_of_ble_eq_true rfl, Nat.le_of_ble_eq_true rfl⟩) (gk_pre hW [] rfl rfl) rfl rfl hl.1 rfl (lv_room (Nat.le_of_ble_eq_true rfl)) d_property_2 ⟨Nat.le_of_ble_eq_true rfl, Nat.le_of_ble_eq_true rfl⟩) (fun H locs hW => ?_)
  refine lv_if_eq (tgt := 18) hx hb d_property_5 (by decide) (fun c_15 => ?_) (fun c_15 => ?_)
  · replace heq := (if_pos c_15).symm.trans heq
    exact Y _ _ _ 18 59 61 63 (cs, fa1, la1, va1, mn1, b1, b2, b3, b4, b5, b6, kn) H locs 0 0 ls T_property_18 (Or.inl ⟨rfl, heq⟩) hW hl.1 (Nat.le_of_ble_eq_true rfl) (Nat.le_of_ble_eq_true rfl) (Nat.le_of_ble_eq_true rfl) (Nat.le_of_ble_eq_true rfl)
  · replace heq := (if_neg c_15).symm.trans heq
    refine lv_iload_n hx hb d_property_8 rfl (lv_at hl 3 rfl) ?_
    refine lv_if_lt (tgt := 18) hx hb d_property_9 (by decide) (fun c_16 => ?_) (fun c_16 => ?_)
    · replace heq := (if_pos c_16).symm.trans heq
      have ic_16 := gk_lt v_x3 (show gk_v 0 0 from rfl) c_16
      exact Y _ _ _ 18 59 61 63 (cs, fa1, la1, va1, mn1, b1, b2, b3, b4, b5, b6, kn) H locs 0 0 ls T_property_18 (Or.inl ⟨rfl, heq⟩) hW hl.1 (Nat.le_of_ble_eq_true rfl) (Nat.le_of_ble_eq_true rfl) (Nat.le_of_ble_eq_true rfl) (Nat.le_of_ble_eq_true rfl)
    · replace heq := (if_neg c_16).symm.trans heq
      have ic_16 := gk_nlt v_x3 (show gk_v 0 0 from rfl) c_16
      refine lv_iload_n hx hb d_property_12 rfl (lv_at hl 3 rfl) ?_
      refine lv_bipush (v := 43) hx hb d_property_13 (by decide) ?_
      refine lv_icmp_le (tgt := 28) hx hb d_property_15 (by decide) (fun c_17 => ?_) (fun c_17 => ?_)
      · replace heq := (if_pos c_17).symm.trans heq
        have ic_17 := gk_le v_x3 (show gk_v 43 43 from rfl) c_17
        refine lv_aload_n hx hb d_property_28 rfl (lv_at hl 0 rfl) ?_
        refine va_get (D := D) (C := R_P) (T := F_P) (N := 11) hx hb hts i_P hown hW.1 hW.2.1 0 rfl rfl 4 (by decide) (hts _ w_90) (fun _ h9 => h9) rfl d_property_29 ?_
        refine gk_goR hW [5, 6, 7, 8] rfl (va_runVN (As := []) (rest := []) ⟨hx, hb, hml, hown, hts⟩ (c_rIsFull l D cI cL 100 (h 5) (h 6) (h 7) (h 8) fa1 la1 va1 mn1 z_mn1 v_mn1 (by omega) (by omega) _) (gk_cwVN hts hW.2.2.2.2.2 w_127 w_19 w_20 w_21 k_rIsFull e_rIsFull rfl rfl ⟨Nat.le_of_ble_eq_true rfl, Nat.le_of_ble_eq_true rfl⟩) (gk_preV hW [5, 6, 7, 8] rfl rfl rfl rfl) rfl rfl hl.1 rfl (lv_room (Nat.le_of_ble_eq_true rfl)) d_property_32 ⟨Nat.le_of_ble_eq_true rfl, Nat.le_of_ble_eq_true rfl⟩) (fun H locs hW => ?_)
        refine lv_if_eq (tgt := 48) hx hb d_property_35 (by decide) (fun c_18 => ?_) (fun c_18 => ?_)
        · replace heq := (if_pos c_18).symm.trans heq
          refine lv_aload_n hx hb d_property_48 rfl (lv_at hl 0 rfl) ?_
          refine va_get (D := D) (C := R_P) (T := F_P) (N := 11) hx hb hts i_P hown hW.1 hW.2.1 0 rfl rfl 4 (by decide) (hts _ w_90) (fun _ h9 => h9) rfl d_property_49 ?_
          refine lv_iload_n hx hb d_property_52 rfl (lv_at hl 1 rfl) ?_
          refine lv_iload_n hx hb d_property_53 rfl (lv_at hl 2 rfl) ?_
          refine lv_iload_n hx hb d_property_54 rfl (lv_at hl 3 rfl) ?_
          refine gk_goV (wr := [((h 0), .inr (0, [.ref (h 1), .ref (h 2), .ref (h 3), .ref (h 4), .ref (h 5), .ref (h 9), .ref (h 13), .ref (h 17), .int ln, .int lo, .int kn])), ((h 1), .inl (cI, 2000, .inl tx)), ((h 2), .inl (cI, 2000, .inl cs)), ((h 3), .inl (cI, 2000, .inl rl)), ((h 4), .inl (cI, 5, .inl gv)), ((h 9), .inr (1, [.ref (h 10), .ref (h 11), .ref (h 12), .int mn2])), ((h 10), .inl (cI, 40, .inl fa2)), ((h 11), .inl (cI, 40, .inl la2)), ((h 12), .inl (cI, 40, .inl va2)), ((h 13), .inr (1, [.ref (h 14), .ref (h 15), .ref (h 16), .int mn3])), ((h 14), .inl (cI, 40, .inl fa3)), ((h 15), .inl (cI, 40, .inl la3)), ((h 16), .inl (cI, 40, .inl va3)), ((h 17), .inr (2, [.int b1, .int b2, .int b3, .int b4, .int b5, .int b6]))]) hW [5, 6, 7, 8] [0, 1, 2, 3, 4, 9, 10, 11, 12, 13, 14, 15, 16, 17] rfl rfl (by decide) (by decide) (va_runVN (As := [.int x1, .int x2, .int x3]) (rest := []) ⟨hx, hb, hml, hown, hts⟩ (c_rTell l D cI cL 100 (h 5) (h 6) (h 7) (h 8) fa1 la1 va1 mn1 x1 x2 x3 z_mn1 v_mn1 (by omega) (by omega) _) (gk_cwVN hts hW.2.2.2.2.2 w_128 w_129 w_130 w_21 k_rTell e_rTell rfl rfl ⟨Nat.le_of_ble_eq_true rfl, Nat.le_of_ble_eq_true rfl⟩) (gk_preV hW [5, 6, 7, 8] rfl rfl rfl rfl) rfl rfl hl.1 rfl (lv_room (Nat.le_of_ble_eq_true rfl)) d_property_55 ⟨Nat.le_of_ble_eq_true rfl, Nat.le_of_ble_eq_true rfl⟩) (fun u H locs p_23 hW => ?_)
          obtain ⟨u_19, u_20, u_21, u_22⟩ := u
          have hW : gk_W D vwCl (gk_T cI cL) s A H locs (wd_P cI h tx cs rl gv u_19 u_20 u_21 u_22 fa2 la2 va2 mn2 fa3 la3 va3 mn3 b1 b2 b3 b4 b5 b6 ln lo kn) := hW.re [0, 1, 2, 3, 4, 14, 15, 16, 17, 5, 6, 7, 8, 9, 10, 11, 12, 13] (by decide) rfl
          rw [← p_23] at heq
          dsimp only at heq
          refine lv_iconst (v := 0) hx hb d_property_58 (by decide) ?_
          refine lv_istore (lv' := [(4, .int 0), (0, .ref (h 0)), (1, .int x1), (2, .int x2), (3, .int x3)]) hx hb d_property_59 hl (by decide) rfl (fun ls hl => ?_)
          exact L61 2001 0 cs u_19 u_20 u_21 u_22 b1 b2 b3 b4 b5 b6 kn H locs ls 0 (show gk_v 0 0 from rfl) (by omega) (by omega) heq hW (lv_sub hl [1, 2, 3, 4, 0] rfl)
        · replace heq := (if_neg c_18).symm.trans heq
          exact Y _ _ _ 38 70 72 74 (cs, fa1, la1, va1, mn1, b1, b2, b3, b4, b5, b6, kn) H locs 0 0 ls T_property_38 (Or.inr (⟨rfl, heq⟩)) hW hl.1 (Nat.le_of_ble_eq_true rfl) (Nat.le_of_ble_eq_true rfl) (Nat.le_of_ble_eq_true rfl) (Nat.le_of_ble_eq_true rfl)
      · replace heq := (if_neg c_17).symm.trans heq
        have ic_17 := gk_nle v_x3 (show gk_v 43 43 from rfl) c_17
        exact Y _ _ _ 18 59 61 63 (cs, fa1, la1, va1, mn1, b1, b2, b3, b4, b5, b6, kn) H locs 0 0 ls T_property_18 (Or.inl ⟨rfl, heq⟩) hW hl.1 (Nat.le_of_ble_eq_true rfl) (Nat.le_of_ble_eq_true rfl) (Nat.le_of_ble_eq_true rfl) (Nat.le_of_ble_eq_true rfl)
def mm_mark (x1 x2 x3 x4 : Int32) (fa2 la2 va2 : Nat → Int32) (mn2 : Int32) (fa3 la3 va3 : Nat → Int32) (mn3 b1 b2 b3 b4 b5 b6 kn : Int32) : Int32 × (Nat → Int32) × (Nat → Int32) × (Nat → Int32) × Int32 × (Nat → Int32) × (Nat → Int32) × (Nat → Int32) × Int32 × Int32 × Int32 × Int32 × Int32 × Int32 × Int32 × Int32 := if (mm_isRange x1 x2) = 0 then (1, fa2, la2, va2, mn2, fa3, la3, va3, mn3, b1, b2, b3, b4, b5, b6, kn) else (if x3 = 0 then (if x3 = 0 then (if (mm_rIsFull 40 mn2) = 0 then (if x4 = 0 then (match (mm_rTell x1 x2 0 40 fa2 la2 va2 mn2) with | (u_34, u_35, u_36, u_37) => match (mm_forgetRules b1 b2 b3 b4 b5 b6 kn) with | (u_39, u_40, u_41, u_42, u_43, u_44, u_45) => (0, u_34, u_35, u_36, u_37, fa3, la3, va3, mn3, u_39, u_40, u_41, u_42, u_43, u_44, u_45)) else (match (mm_rTell x1 x2 1 40 fa2 la2 va2 mn2) with | (u_47, u_48, u_49, u_50) => match (mm_forgetRules b1 b2 b3 b4 b5 b6 kn) with | (u_52, u_53, u_54, u_55, u_56, u_57, u_58) => (0, u_47, u_48, u_49, u_50, fa3, la3, va3, mn3, u_52, u_53, u_54, u_55, u_56, u_57, u_58))) else (2, fa2, la2, va2, mn2, fa3, la3, va3, mn3, b1, b2, b3, b4, b5, b6, kn)) else (if (mm_rIsFull 40 mn3) = 0 then (if x4 = 0 then (match (mm_rTell x1 x2 0 40 fa3 la3 va3 mn3) with | (u_6, u_7, u_8, u_9) => match (mm_forgetRules b1 b2 b3 b4 b5 b6 kn) with | (u_11, u_12, u_13, u_14, u_15, u_16, u_17) => (0, fa2, la2, va2, mn2, u_6, u_7, u_8, u_9, u_11, u_12, u_13, u_14, u_15, u_16, u_17)) else (match (mm_rTell x1 x2 1 40 fa3 la3 va3 mn3) with | (u_19, u_20, u_21, u_22) => match (mm_forgetRules b1 b2 b3 b4 b5 b6 kn) with | (u_24, u_25, u_26, u_27, u_28, u_29, u_30) => (0, fa2, la2, va2, mn2, u_19, u_20, u_21, u_22, u_24, u_25, u_26, u_27, u_28, u_29, u_30))) else (2, fa2, la2, va2, mn2, fa3, la3, va3, mn3, b1, b2, b3, b4, b5, b6, kn))) else (if x3 = 1 then (if x3 = 0 then (if (mm_rIsFull 40 mn2) = 0 then (if x4 = 0 then (match (mm_rTell x1 x2 0 40 fa2 la2 va2 mn2) with | (u_92, u_93, u_94, u_95) => match (mm_forgetRules b1 b2 b3 b4 b5 b6 kn) with | (u_97, u_98, u_99, u_100, u_101, u_102, u_103) => (0, u_92, u_93, u_94, u_95, fa3, la3, va3, mn3, u_97, u_98, u_99, u_100, u_101, u_102, u_103)) else (match (mm_rTell x1 x2 1 40 fa2 la2 va2 mn2) with | (u_105, u_106, u_107, u_108) => match (mm_forgetRules b1 b2 b3 b4 b5 b6 kn) with | (u_110, u_111, u_112, u_113, u_114, u_115, u_116) => (0, u_105, u_106, u_107, u_108, fa3, la3, va3, mn3, u_110, u_111, u_112, u_113, u_114, u_115, u_116))) else (2, fa2, la2, va2, mn2, fa3, la3, va3, mn3, b1, b2, b3, b4, b5, b6, kn)) else (if (mm_rIsFull 40 mn3) = 0 then (if x4 = 0 then (match (mm_rTell x1 x2 0 40 fa3 la3 va3 mn3) with | (u_64, u_65, u_66, u_67) => match (mm_forgetRules b1 b2 b3 b4 b5 b6 kn) with | (u_69, u_70, u_71, u_72, u_73, u_74, u_75) => (0, fa2, la2, va2, mn2, u_64, u_65, u_66, u_67, u_69, u_70, u_71, u_72, u_73, u_74, u_75)) else (match (mm_rTell x1 x2 1 40 fa3 la3 va3 mn3) with | (u_77, u_78, u_79, u_80) => match (mm_forgetRules b1 b2 b3 b4 b5 b6 kn) with | (u_82, u_83, u_84, u_85, u_86, u_87, u_88) => (0, fa2, la2, va2, mn2, u_77, u_78, u_79, u_80, u_82, u_83, u_84, u_85, u_86, u_87, u_88))) else (2, fa2, la2, va2, mn2, fa3, la3, va3, mn3, b1, b2, b3, b4, b5, b6, kn))) else (1, fa2, la2, va2, mn2, fa3, la3, va3, mn3, b1, b2, b3, b4, b5, b6, kn)))
def rm_mark : Room := { frames := 6, cells := 1, slots := 6, locals := 82 }
theorem T_mark_17 : gx_T b_mark "BreakPlaces" wA rm_mark "java/lang/IllegalArgumentException" "no range of characters, or no such mark" ["java/lang/RuntimeException", "java/lang/Exception"] 17 59 82 63 := ⟨⟨by decide +kernel, by decide +kernel⟩, ⟨w_122, w_123, w_135, a_IA⟩, o_IA, ⟨d_mark_17, d_mark_20, d_mark_21, d_mark_23, d_mark_26⟩, Nat.le_of_ble_eq_true rfl, Nat.le_of_ble_eq_true rfl⟩
theorem T_mark_52 : gx_T b_mark "BreakPlaces" wA rm_mark "java/lang/IllegalStateException" "there are 40 ranges of that mark" ["java/lang/RuntimeException", "java/lang/Exception"] 52 70 84 74 := ⟨⟨by decide +kernel, by decide +kernel⟩, ⟨w_132, w_133, w_136, a_IS⟩, o_IS, ⟨d_mark_52, d_mark_55, d_mark_56, d_mark_58, d_mark_61⟩, Nat.le_of_ble_eq_true rfl, Nat.le_of_ble_eq_true rfl⟩
set_option maxHeartbeats 4000000 in
set_option maxRecDepth 100000 in
theorem c_mark (l : Launch) (hst : l.stackTraces = false) (D : va_G) (cI : ClassId) (cL : ClassId × ClassId) (h : Nat → Nat) (tx cs rl gv fa1 la1 va1 : Nat → Int32) (mn1 : Int32) (fa2 la2 va2 : Nat → Int32) (mn2 : Int32) (fa3 la3 va3 : Nat → Int32) (mn3 b1 b2 b3 b4 b5 b6 ln lo kn x1 x2 x3 x4 : Int32) (z_mn2 : Int) (v_mn2 : gk_v mn2 z_mn2) (z_mn3 : Int) (v_mn3 : gk_v mn3 z_mn3) (hm2 : 0 ≤ z_mn2 ∧ z_mn2 ≤ 40) (hm3 : 0 ≤ z_mn3 ∧ z_mn3 ≤ 40) : gx_V l y_mark (.code y_mark b_mark 6 none :: wA) rm_mark D vwCl (gk_T cI cL) [.ref (h 0), .int x1, .int x2, .int x3, .int x4] (wd_P cI h tx cs rl gv fa1 la1 va1 mn1 fa2 la2 va2 mn2 fa3 la3 va3 mn3 b1 b2 b3 b4 b5 b6 ln lo kn) (fun (u : (Nat → Int32) × (Nat → Int32) × (Nat → Int32) × Int32 × (Nat → Int32) × (Nat → Int32) × (Nat → Int32) × Int32 × Int32 × Int32 × Int32 × Int32 × Int32 × Int32 × Int32) => (0, u) = mm_mark x1 x2 x3 x4 fa2 la2 va2 mn2 fa3 la3 va3 mn3 b1 b2 b3 b4 b5 b6 kn) (fun (E : String) (u : (Nat → Int32) × (Nat → Int32) × (Nat → Int32) × Int32 × (Nat → Int32) × (Nat → Int32) × (Nat → Int32) × Int32 × Int32 × Int32 × Int32 × Int32 × Int32 × Int32 × Int32) => (E = "java/lang/IllegalArgumentException" ∧ (1, u) = mm_mark x1 x2 x3 x4 fa2 la2 va2 mn2 fa3 la3 va3 mn3 b1 b2 b3 b4 b5 b6 kn) ∨ (E = "java/lang/IllegalStateException" ∧ (2, u) = mm_mark x1 x2 x3 x4 fa2 la2 va2 mn2 fa3 la3 va3 mn3 b1 b2 b3 b4 b5 b6 kn)) (fun u => (wd_P cI h tx cs rl gv fa1 la1 va1 mn1 u.1 u.2.1 u.2.2.1 u.2.2.2.1 u.2.2.2.2.1 u.2.2.2.2.2.1 u.2.2.2.2.2.2.1 u.2.2.2.2.2.2.2.1 u.2.2.2.2.2.2.2.2.1 u.2.2.2.2.2.2.2.2.2.1 u.2.2.2.2.2.2.2.2.2.2.1 u.2.2.2.2.2.2.2.2.2.2.2.1 u.2.2.2.2.2.2.2.2.2.2.2.2.1 u.2.2.2.2.2.2.2.2.2.2.2.2.2.1 ln lo u.2.2.2.2.2.2.2.2.2.2.2.2.2.2)) 1 6 := by
  refine gx_V.of hst (by decide) (Nat.le_of_ble_eq_true rfl) ?_
  intro p e s m below meth c A ls Q H locs hx hb hml hown hts hin hW hl X Y
  have hl : lv_has ls 6 [(0, .ref (h 0)), (1, .int x1), (2, .int x2), (3, .int x3), (4, .int x4)] := hl
  obtain ⟨tgt, heq⟩ : ∃ t, mm_mark x1 x2 x3 x4 fa2 la2 va2 mn2 fa3 la3 va3 mn3 b1 b2 b3 b4 b5 b6 kn = t := ⟨_, rfl⟩
  rw [heq] at X
  simp only [heq] at Y
  rw [mm_mark] at heq
  obtain ⟨z_x1, v_x1⟩ := gk_vex x1
  obtain ⟨z_x2, v_x2⟩ := gk_vex x2
  obtain ⟨z_x3, v_x3⟩ := gk_vex x3
  obtain ⟨z_x4, v_x4⟩ := gk_vex x4
  refine lv_iload_n hx hb d_mark_0 rfl (lv_at hl 1 rfl) ?_
  refine lv_iload_n hx hb d_mark_1 rfl (lv_at hl 2 rfl) ?_
  refine gk_goR hW [] rfl (va_runS (As := [.int x1, .int x2]) (rest := []) ⟨hx, hb, hml, hown, hts⟩ (c_isRange l D cI cL x1 x2 _) (gk_cwS hts w_125 w_126 w_3 k_isRange rfl e_isRange rfl rfl ⟨Nat.le_of_ble_eq_true rfl, Nat.le_of_ble_eq_true rfl⟩) (gk_pre hW [] rfl rfl) rfl rfl hl.1 rfl (lv_room (Nat.le_of_ble_eq_true rfl)) d_mark_2 ⟨Nat.le_of_ble_eq_true rfl, Nat.le_of_ble_eq_true rfl⟩) (fun H locs hW => ?_)
  refine lv_if_eq (tgt := 17) hx hb d_mark_5 (by decide) (fun c_1 => ?_) (fun c_1 => ?_)
  · replace heq := (if_pos c_1).symm.trans heq
    exact Y _ _ _ 17 59 82 63 (fa2, la2, va2, mn2, fa3, la3, va3, mn3, b1, b2, b3, b4, b5, b6, kn) H locs 0 0 ls T_mark_17 (Or.inl ⟨rfl, heq⟩) hW hl.1 (Nat.le_of_ble_eq_true rfl) (Nat.le_of_ble_eq_true rfl) (Nat.le_of_ble_eq_true rfl) (Nat.le_of_ble_eq_true rfl)
  · replace heq := (if_neg c_1).symm.trans heq
    refine lv_iload_n hx hb d_mark_8 rfl (lv_at hl 3 rfl) ?_
    refine lv_if_eq (tgt := 27) hx hb d_mark_9 (by decide) (fun c_2 => ?_) (fun c_2 => ?_)
    · replace heq := (if_pos c_2).symm.trans heq
      refine lv_iload_n hx hb d_mark_27 rfl (lv_at hl 3 rfl) ?_
      refine lv_if_ne (tgt := 38) hx hb d_mark_28 (by decide) (fun c_3 => ?_) (fun c_3 => ?_)
      · replace heq := (if_neg c_3).symm.trans heq
        refine lv_aload_n hx hb d_mark_38 rfl (lv_at hl 0 rfl) ?_
        refine va_get (D := D) (C := R_P) (T := F_P) (N := 11) hx hb hts i_P hown hW.1 hW.2.1 0 rfl rfl 6 (by decide) (hts _ w_60) (fun _ h9 => h9) rfl d_mark_39 ?_
        refine lv_astore (lv' := [(5, .ref (h 13)), (0, .ref (h 0)), (1, .int x1), (2, .int x2), (3, .int x3), (4, .int x4)]) hx hb d_mark_42 hl (by decide) rfl (fun ls hl => ?_)
        refine lv_aload hx hb d_mark_44 (lv_at hl 0 rfl) ?_
        refine gk_goR hW [13, 14, 15, 16] rfl (va_runVN (As := []) (rest := []) ⟨hx, hb, hml, hown, hts⟩ (c_rIsFull l D cI cL 40 (h 13) (h 14) (h 15) (h 16) fa3 la3 va3 mn3 z_mn3 v_mn3 (by omega) (by omega) _) (gk_cwVN hts hW.2.2.2.2.2 w_127 w_19 w_20 w_21 k_rIsFull e_rIsFull rfl rfl ⟨Nat.le_of_ble_eq_true rfl, Nat.le_of_ble_eq_true rfl⟩) (gk_preV hW [13, 14, 15, 16] rfl rfl rfl rfl) rfl rfl hl.1 rfl (lv_room (Nat.le_of_ble_eq_true rfl)) d_mark_46 ⟨Nat.le_of_ble_eq_true rfl, Nat.le_of_ble_eq_true rfl⟩) (fun H locs hW => ?_)
        refine lv_if_eq (tgt := 62) hx hb d_mark_49 (by decide) (fun c_4 => ?_) (fun c_4 => ?_)
        · replace heq := (if_pos c_4).symm.trans heq
          refine lv_aload hx hb d_mark_62 (lv_at hl 0 rfl) ?_
          refine lv_iload_n hx hb d_mark_64 rfl (lv_at hl 2 rfl) ?_
          refine lv_iload_n hx hb d_mark_65 rfl (lv_at hl 3 rfl) ?_
          refine lv_iload hx hb d_mark_66 (lv_at hl 5 rfl) ?_
          refine lv_if_eq (tgt := 75) hx hb d_mark_68 (by decide) (fun c_5 => ?_) (fun c_5 => ?_)
          · replace heq := (if_pos c_5).symm.trans heq
            refine lv_iconst (v := 0) hx hb d_mark_75 (by decide) ?_
            refine gk_goV (wr := [((h 0), .inr (0, [.ref (h 1), .ref (h 2), .ref (h 3), .ref (h 4), .ref (h 5), .ref (h 9), .ref (h 13), .ref (h 17), .int ln, .int lo, .int kn])), ((h 1), .inl (cI, 2000, .inl tx)), ((h 2), .inl (cI, 2000, .inl cs)), ((h 3), .inl (cI, 2000, .inl rl)), ((h 4), .inl (cI, 5, .inl gv)), ((h 5), .inr (1, [.ref (h 6), .ref (h 7), .ref (h 8), .int mn1])), ((h 6), .inl (cI, 100, .inl fa1)), ((h 7), .inl (cI, 100, .inl la1)), ((h 8), .inl (cI, 100, .inl va1)), ((h 9), .inr (1, [.ref (h 10), .ref (h 11), .ref (h 12), .int mn2])), ((h 10), .inl (cI, 40, .inl fa2)), ((h 11), .inl (cI, 40, .inl la2)), ((h 12), .inl (cI, 40, .inl va2)), ((h 17), .inr (2, [.int b1, .int b2, .int b3, .int b4, .int b5, .int b6]))]) hW [13, 14, 15, 16] [0, 1, 2, 3, 4, 5, 6, 7, 8, 9, 10, 11, 12, 17] rfl rfl (by decide) (by decide) (va_runVN (As := [.int x1, .int x2, .int 0]) (rest := []) ⟨hx, hb, hml, hown, hts⟩ (c_rTell l D cI cL 40 (h 13) (h 14) (h 15) (h 16) fa3 la3 va3 mn3 x1 x2 0 z_mn3 v_mn3 (by omega) (by omega) _) (gk_cwVN hts hW.2.2.2.2.2 w_128 w_129 w_130 w_21 k_rTell e_rTell rfl rfl ⟨Nat.le_of_ble_eq_true rfl, Nat.le_of_ble_eq_true rfl⟩) (gk_preV hW [13, 14, 15, 16] rfl rfl rfl rfl) rfl rfl hl.1 rfl (lv_room (Nat.le_of_ble_eq_true rfl)) d_mark_76 ⟨Nat.le_of_ble_eq_true rfl, Nat.le_of_ble_eq_true rfl⟩) (fun u H locs p_10 hW => ?_)
            obtain ⟨u_6, u_7, u_8, u_9⟩ := u
            have hW : gk_W D vwCl (gk_T cI cL) s A H locs (wd_P cI h tx cs rl gv fa1 la1 va1 mn1 fa2 la2 va2 mn2 u_6 u_7 u_8 u_9 b1 b2 b3 b4 b5 b6 ln lo kn) := hW.re [0, 1, 2, 3, 4, 5, 6, 7, 8, 9, 10, 11, 12, 14, 15, 16, 17, 13] (by decide) rfl
            rw [← p_10] at heq
            dsimp only at heq
            refine lv_aload_n hx hb d_mark_79 rfl (lv_at hl 1 rfl) ?_
            refine gk_goV (wr := []) hW [0, 1, 2, 3, 4, 5, 6, 7, 8, 9, 10, 11, 12, 13, 14, 15, 16, 17] [] rfl rfl (by decide) (by decide) (va_runV (As := []) (rest := []) ⟨hx, hb, hml, hown, hts⟩ (c_forgetRules l D cI cL h tx cs rl gv fa1 la1 va1 mn1 fa2 la2 va2 mn2 u_6 u_7 u_8 u_9 b1 b2 b3 b4 b5 b6 ln lo kn _) (gk_cwV hts w_86 w_87 w_88 w_3 k_forgetRules rfl e_forgetRules rfl rfl ⟨Nat.le_of_ble_eq_true rfl, Nat.le_of_ble_eq_true rfl⟩) (gk_preV hW [0, 1, 2, 3, 4, 5, 6, 7, 8, 9, 10, 11, 12, 13, 14, 15, 16, 17] rfl rfl rfl rfl) rfl rfl hl.1 rfl (lv_room (Nat.le_of_ble_eq_true rfl)) d_mark_80 ⟨Nat.le_of_ble_eq_true rfl, Nat.le_of_ble_eq_true rfl⟩) (fun u H locs p_18 hW => ?_)
            obtain ⟨u_11, u_12, u_13, u_14, u_15, u_16, u_17⟩ := u
            have hW : gk_W D vwCl (gk_T cI cL) s A H locs (wd_P cI h tx cs rl gv fa1 la1 va1 mn1 fa2 la2 va2 mn2 u_6 u_7 u_8 u_9 u_11 u_12 u_13 u_14 u_15 u_16 ln lo u_17) := hW.re [0, 1, 2, 3, 4, 5, 6, 7, 8, 9, 10, 11, 12, 13, 14, 15, 16, 17] (by decide) rfl
            rw [← p_18] at heq
            dsimp only at heq
            exact X (fa2, la2, va2, mn2, u_6, u_7, u_8, u_9, u_11, u_12, u_13, u_14, u_15, u_16, u_17) H locs 0 0 83 ls heq hW d_mark_83 (Nat.le_of_ble_eq_true rfl) (Nat.le_of_ble_eq_true rfl)
          · replace heq := (if_neg c_5).symm.trans heq
            refine lv_iconst (v := 1) hx hb d_mark_71 (by decide) ?_
            refine lv_goto (tgt := 76) hx hb d_mark_72 (by decide) ?_
            refine gk_goV (wr := [((h 0), .inr (0, [.ref (h 1), .ref (h 2), .ref (h 3), .ref (h 4), .ref (h 5), .ref (h 9), .ref (h 13), .ref (h 17), .int ln, .int lo, .int kn])), ((h 1), .inl (cI, 2000, .inl tx)), ((h 2), .inl (cI, 2000, .inl cs)), ((h 3), .inl (cI, 2000, .inl rl)), ((h 4), .inl (cI, 5, .inl gv)), ((h 5), .inr (1, [.ref (h 6), .ref (h 7), .ref (h 8), .int mn1])), ((h 6), .inl (cI, 100, .inl fa1)), ((h 7), .inl (cI, 100, .inl la1)), ((h 8), .inl (cI, 100, .inl va1)), ((h 9), .inr (1, [.ref (h 10), .ref (h 11), .ref (h 12), .int mn2])), ((h 10), .inl (cI, 40, .inl fa2)), ((h 11), .inl (cI, 40, .inl la2)), ((h 12), .inl (cI, 40, .inl va2)), ((h 17), .inr (2, [.int b1, .int b2, .int b3, .int b4, .int b5, .int b6]))]) hW [13, 14, 15, 16] [0, 1, 2, 3, 4, 5, 6, 7, 8, 9, 10, 11, 12, 17] rfl rfl (by decide) (by decide) (va_runVN (As := [.int x1, .int x2, .int 1]) (rest := []) ⟨hx, hb, hml, hown, hts⟩ (c_rTell l D cI cL 40 (h 13) (h 14) (h 15) (h 16) fa3 la3 va3 mn3 x1 x2 1 z_mn3 v_mn3 (by omega) (by omega) _) (gk_cwVN hts hW.2.2.2.2.2 w_128 w_129 w_130 w_21 k_rTell e_rTell rfl rfl ⟨Nat.le_of_ble_eq_true rfl, Nat.le_of_ble_eq_true rfl⟩) (gk_preV hW [13, 14, 15, 16] rfl rfl rfl rfl) rfl rfl hl.1 rfl (lv_room (Nat.le_of_ble_eq_true rfl)) d_mark_76 ⟨Nat.le_of_ble_eq_true rfl, Nat.le_of_ble_eq_true rfl⟩) (fun u H locs p_23 hW => ?_)
            obtain ⟨u_19, u_20, u_21, u_22⟩ := u
            have hW : gk_W D vwCl (gk_T cI cL) s A H locs (wd_P cI h tx cs rl gv fa1 la1 va1 mn1 fa2 la2 va2 mn2 u_19 u_20 u_21 u_22 b1 b2 b3 b4 b5 b6 ln lo kn) := hW.re [0, 1, 2, 3, 4, 5, 6, 7, 8, 9, 10, 11, 12, 14, 15, 16, 17, 13] (by decide) rfl
            rw [← p_23] at heq
            dsimp only at heq
            refine lv_aload_n hx hb d_mark_79 rfl (lv_at hl 1 rfl) ?_
            refine gk_goV (wr := []) hW [0, 1, 2, 3, 4, 5, 6, 7, 8, 9, 10, 11, 12, 13, 14, 15, 16, 17] [] rfl rfl (by decide) (by decide) (va_runV (As := []) (rest := []) ⟨hx, hb, hml, hown, hts⟩ (c_forgetRules l D cI cL h tx cs rl gv fa1 la1 va1 mn1 fa2 la2 va2 mn2 u_19 u_20 u_21 u_22 b1 b2 b3 b4 b5 b6 ln lo kn _) (gk_cwV hts w_86 w_87 w_88 w_3 k_forgetRules rfl e_forgetRules rfl rfl ⟨Nat.le_of_ble_eq_true rfl, Nat.le_of_ble_eq_true rfl⟩) (gk_preV hW [0, 1, 2, 3, 4, 5, 6, 7, 8, 9, 10, 11, 12, 13, 14, 15, 16, 17] rfl rfl rfl rfl) rfl rfl hl.1 rfl (lv_room (Nat.le_of_ble_eq_true rfl)) d_mark_80 ⟨Nat.le_of_ble_eq_true rfl, Nat.le_of_ble_eq_true rfl⟩) (fun u H locs p_31 hW => ?_)
            obtain ⟨u_24, u_25, u_26, u_27, u_28, u_29, u_30⟩ := u
            have hW : gk_W D vwCl (gk_T cI cL) s A H locs (wd_P cI h tx cs rl gv fa1 la1 va1 mn1 fa2 la2 va2 mn2 u_19 u_20 u_21 u_22 u_24 u_25 u_26 u_27 u_28 u_29 ln lo u_30) := hW.re [0, 1, 2, 3, 4, 5, 6, 7, 8, 9, 10, 11, 12, 13, 14, 15, 16, 17] (by decide) rfl
            rw [← p_31] at heq
            dsimp only at heq
            exact X (fa2, la2, va2, mn2, u_19, u_20, u_21, u_22, u_24, u_25, u_26, u_27, u_28, u_29, u_30) H locs 0 0 83 ls heq hW d_mark_83 (Nat.le_of_ble_eq_true rfl) (Nat.le_of_ble_eq_true rfl)
        · replace heq := (if_neg c_4).symm.trans heq
          exact Y _ _ _ 52 70 84 74 (fa2, la2, va2, mn2, fa3, la3, va3, mn3, b1, b2, b3, b4, b5, b6, kn) H locs 0 0 ls T_mark_52 (Or.inr (⟨rfl, heq⟩)) hW hl.1 (Nat.le_of_ble_eq_true rfl) (Nat.le_of_ble_eq_true rfl) (Nat.le_of_ble_eq_true rfl) (Nat.le_of_ble_eq_true rfl)
      · replace heq := (if_pos c_3).symm.trans heq
        refine lv_aload_n hx hb d_mark_31 rfl (lv_at hl 0 rfl) ?_
        refine va_get (D := D) (C := R_P) (T := F_P) (N := 11) hx hb hts i_P hown hW.1 hW.2.1 0 rfl rfl 5 (by decide) (hts _ w_65) (fun _ h9 => h9) rfl d_mark_32 ?_
        refine lv_goto (tgt := 42) hx hb d_mark_35 (by decide) ?_
        refine lv_astore (lv' := [(5, .ref (h 9)), (0, .ref (h 0)), (1, .int x1), (2, .int x2), (3, .int x3), (4, .int x4)]) hx hb d_mark_42 hl (by decide) rfl (fun ls hl => ?_)
        refine lv_aload hx hb d_mark_44 (lv_at hl 0 rfl) ?_
        refine gk_goR hW [9, 10, 11, 12] rfl (va_runVN (As := []) (rest := []) ⟨hx, hb, hml, hown, hts⟩ (c_rIsFull l D cI cL 40 (h 9) (h 10) (h 11) (h 12) fa2 la2 va2 mn2 z_mn2 v_mn2 (by omega) (by omega) _) (gk_cwVN hts hW.2.2.2.2.2 w_127 w_19 w_20 w_21 k_rIsFull e_rIsFull rfl rfl ⟨Nat.le_of_ble_eq_true rfl, Nat.le_of_ble_eq_true rfl⟩) (gk_preV hW [9, 10, 11, 12] rfl rfl rfl rfl) rfl rfl hl.1 rfl (lv_room (Nat.le_of_ble_eq_true rfl)) d_mark_46 ⟨Nat.le_of_ble_eq_true rfl, Nat.le_of_ble_eq_true rfl⟩) (fun H locs hW => ?_)
        refine lv_if_eq (tgt := 62) hx hb d_mark_49 (by decide) (fun c_32 => ?_) (fun c_32 => ?_)
        · replace heq := (if_pos c_32).symm.trans heq
          refine lv_aload hx hb d_mark_62 (lv_at hl 0 rfl) ?_
          refine lv_iload_n hx hb d_mark_64 rfl (lv_at hl 2 rfl) ?_
          refine lv_iload_n hx hb d_mark_65 rfl (lv_at hl 3 rfl) ?_
          refine lv_iload hx hb d_mark_66 (lv_at hl 5 rfl) ?_
          refine lv_if_eq (tgt := 75) hx hb d_mark_68 (by decide) (fun c_33 => ?_) (fun c_33 => ?_)
          · replace heq := (if_pos c_33).symm.trans heq
            refine lv_iconst (v := 0) hx hb d_mark_75 (by decide) ?_
            refine gk_goV (wr := [((h 0), .inr (0, [.ref (h 1), .ref (h 2), .ref (h 3), .ref (h 4), .ref (h 5), .ref (h 9), .ref (h 13), .ref (h 17), .int ln, .int lo, .int kn])), ((h 1), .inl (cI, 2000, .inl tx)), ((h 2), .inl (cI, 2000, .inl cs)), ((h 3), .inl (cI, 2000, .inl rl)), ((h 4), .inl (cI, 5, .inl gv)), ((h 5), .inr (1, [.ref (h 6), .ref (h 7), .ref (h 8), .int mn1])), ((h 6), .inl (cI, 100, .inl fa1)), ((h 7), .inl (cI, 100, .inl la1)), ((h 8), .inl (cI, 100, .inl va1)), ((h 13), .inr (1, [.ref (h 14), .ref (h 15), .ref (h 16), .int mn3])), ((h 14), .inl (cI, 40, .inl fa3)), ((h 15), .inl (cI, 40, .inl la3)), ((h 16), .inl (cI, 40, .inl va3)), ((h 17), .inr (2, [.int b1, .int b2, .int b3, .int b4, .int b5, .int b6]))]) hW [9, 10, 11, 12] [0, 1, 2, 3, 4, 5, 6, 7, 8, 13, 14, 15, 16, 17] rfl rfl (by decide) (by decide) (va_runVN (As := [.int x1, .int x2, .int 0]) (rest := []) ⟨hx, hb, hml, hown, hts⟩ (c_rTell l D cI cL 40 (h 9) (h 10) (h 11) (h 12) fa2 la2 va2 mn2 x1 x2 0 z_mn2 v_mn2 (by omega) (by omega) _) (gk_cwVN hts hW.2.2.2.2.2 w_128 w_129 w_130 w_21 k_rTell e_rTell rfl rfl ⟨Nat.le_of_ble_eq_true rfl, Nat.le_of_ble_eq_true rfl⟩) (gk_preV hW [9, 10, 11, 12] rfl rfl rfl rfl) rfl rfl hl.1 rfl (lv_room (Nat.le_of_ble_eq_true rfl)) d_mark_76 ⟨Nat.le_of_ble_eq_true rfl, Nat.le_of_ble_eq_true rfl⟩) (fun u H locs p_38 hW => ?_)
            obtain ⟨u_34, u_35, u_36, u_37⟩ := u
            have hW : gk_W D vwCl (gk_T cI cL) s A H locs (wd_P cI h tx cs rl gv fa1 la1 va1 mn1 u_34 u_35 u_36 u_37 fa3 la3 va3 mn3 b1 b2 b3 b4 b5 b6 ln lo kn) := hW.re [0, 1, 2, 3, 4, 5, 6, 7, 8, 14, 15, 16, 17, 9, 10, 11, 12, 13] (by decide) rfl
            rw [← p_38] at heq
            dsimp only at heq
            refine lv_aload_n hx hb d_mark_79 rfl (lv_at hl 1 rfl) ?_
            refine gk_goV (wr := []) hW [0, 1, 2, 3, 4, 5, 6, 7, 8, 9, 10, 11, 12, 13, 14, 15, 16, 17] [] rfl rfl (by decide) (by decide) (va_runV (As := []) (rest := []) ⟨hx, hb, hml, hown, hts⟩ (c_forgetRules l D cI cL h tx cs rl gv fa1 la1 va1 mn1 u_34 u_35 u_36 u_37 fa3 la3 va3 mn3 b1 b2 b3 b4 b5 b6 ln lo kn _) (gk_cwV hts w_86 w_87 w_88 w_3 k_forgetRules rfl e_forgetRules rfl rfl ⟨Nat.le_of_ble_eq_true rfl, Nat.le_of_ble_eq_true rfl⟩) (gk_preV hW [0, 1, 2, 3, 4, 5, 6, 7, 8, 9, 10, 11, 12, 13, 14, 15, 16, 17] rfl rfl rfl rfl) rfl rfl hl.1 rfl (lv_room (Nat.le_of_ble_eq_true rfl)) d_mark_80 ⟨Nat.le_of_ble_eq_true rfl, Nat.le_of_ble_eq_true rfl⟩) (fun u H locs p_46 hW => ?_)
            obtain ⟨u_39, u_40, u_41, u_42, u_43, u_44, u_45⟩ := u
            have hW : gk_W D vwCl (gk_T cI cL) s A H locs (wd_P cI h tx cs rl gv fa1 la1 va1 mn1 u_34 u_35 u_36 u_37 fa3 la3 va3 mn3 u_39 u_40 u_41 u_42 u_43 u_44 ln lo u_45) := hW.re [0, 1, 2, 3, 4, 5, 6, 7, 8, 9, 10, 11, 12, 13, 14, 15, 16, 17] (by decide) rfl
            rw [← p_46] at heq
            dsimp only at heq
            exact X (u_34, u_35, u_36, u_37, fa3, la3, va3, mn3, u_39, u_40, u_41, u_42, u_43, u_44, u_45) H locs 0 0 83 ls heq hW d_mark_83 (Nat.le_of_ble_eq_true rfl) (Nat.le_of_ble_eq_true rfl)
          · replace heq := (if_neg c_33).symm.trans heq
            refine lv_iconst (v := 1) hx hb d_mark_71 (by decide) ?_
            refine lv_goto (tgt := 76) hx hb d_mark_72 (by decide) ?_
            refine gk_goV (wr := [((h 0), .inr (0, [.ref (h 1), .ref (h 2), .ref (h 3), .ref (h 4), .ref (h 5), .ref (h 9), .ref (h 13), .ref (h 17), .int ln, .int lo, .int kn])), ((h 1), .inl (cI, 2000, .inl tx)), ((h 2), .inl (cI, 2000, .inl cs)), ((h 3), .inl (cI, 2000, .inl rl)), ((h 4), .inl (cI, 5, .inl gv)), ((h 5), .inr (1, [.ref (h 6), .ref (h 7), .ref (h 8), .int mn1])), ((h 6), .inl (cI, 100, .inl fa1)), ((h 7), .inl (cI, 100, .inl la1)), ((h 8), .inl (cI, 100, .inl va1)), ((h 13), .inr (1, [.ref (h 14), .ref (h 15), .ref (h 16), .int mn3])), ((h 14), .inl (cI, 40, .inl fa3)), ((h 15), .inl (cI, 40, .inl la3)), ((h 16), .inl (cI, 40, .inl va3)), ((h 17), .inr (2, [.int b1, .int b2, .int b3, .int b4, .int b5, .int b6]))]) hW [9, 10, 11, 12] [0, 1, 2, 3, 4, 5, 6, 7, 8, 13, 14, 15, 16, 17] rfl rfl (by decide) (by decide) (va_runVN (As := [.int x1, .int x2, .int 1]) (rest := []) ⟨hx, hb, hml, hown, hts⟩ (c_rTell l D cI cL 40 (h 9) (h 10) (h 11) (h 12) fa2 la2 va2 mn2 x1 x2 1 z_mn2 v_mn2 (by omega) (by omega) _) (gk_cwVN hts hW.2.2.2.2.2 w_128 w_129 w_130 w_21 k_rTell e_rTell rfl rfl ⟨Nat.le_of_ble_eq_true rfl, Nat.le_of_ble_eq_true rfl⟩) (gk_preV hW [9, 10, 11, 12] rfl rfl rfl rfl) rfl rfl hl.1 rfl (lv_room (Nat.le_of_ble_eq_true rfl)) d_mark_76 ⟨Nat.le_of_ble_eq_true rfl, Nat.le_of_ble_eq_true rfl⟩) (fun u H locs p_51 hW => ?_)
            obtain ⟨u_47, u_48, u_49, u_50⟩ := u
            have hW : gk_W D vwCl (gk_T cI cL) s A H locs (wd_P cI h tx cs rl gv fa1 la1 va1 mn1 u_47 u_48 u_49 u_50 fa3 la3 va3 mn3 b1 b2 b3 b4 b5 b6 ln lo kn) := hW.re [0, 1, 2, 3, 4, 5, 6, 7, 8, 14, 15, 16, 17, 9, 10, 11, 12, 13] (by decide) rfl
            rw [← p_51] at heq
            dsimp only at heq
            refine lv_aload_n hx hb d_mark_79 rfl (lv_at hl 1 rfl) ?_
            refine gk_goV (wr := []) hW [0, 1, 2, 3, 4, 5, 6, 7, 8, 9, 10, 11, 12, 13, 14, 15, 16, 17] [] rfl rfl (by decide) (by decide) (va_runV (As := []) (rest := []) ⟨hx, hb, hml, hown, hts⟩ (c_forgetRules l D cI cL h tx cs rl gv fa1 la1 va1 mn1 u_47 u_48 u_49 u_50 fa3 la3 va3 mn3 b1 b2 b3 b4 b5 b6 ln lo kn _) (gk_cwV hts w_86 w_87 w_88 w_3 k_forgetRules rfl e_forgetRules rfl rfl ⟨Nat.le_of_ble_eq_true rfl, Nat.le_of_ble_eq_true rfl⟩) (gk_preV hW [0, 1, 2, 3, 4, 5, 6, 7, 8, 9, 10, 11, 12, 13, 14, 15, 16, 17] rfl rfl rfl rfl) rfl rfl hl.1 rfl (lv_room (Nat.le_of_ble_eq_true rfl)) d_mark_80 ⟨Nat.le_of_ble_eq_true rfl, Nat.le_of_ble_eq_true rfl⟩) (fun u H locs p_59 hW => ?_)
            obtain ⟨u_52, u_53, u_54, u_55, u_56, u_57, u_58⟩ := u
            have hW : gk_W D vwCl (gk_T cI cL) s A H locs (wd_P cI h tx cs rl gv fa1 la1 va1 mn1 u_47 u_48 u_49 u_50 fa3 la3 va3 mn3 u_52 u_53 u_54 u_55 u_56 u_57 ln lo u_58) := hW.re [0, 1, 2, 3, 4, 5, 6, 7, 8, 9, 10, 11, 12, 13, 14, 15, 16, 17] (by decide) rfl
            rw [← p_59] at heq
            dsimp only at heq
            exact X (u_47, u_48, u_49, u_50, fa3, la3, va3, mn3, u_52, u_53, u_54, u_55, u_56, u_57, u_58) H locs 0 0 83 ls heq hW d_mark_83 (Nat.le_of_ble_eq_true rfl) (Nat.le_of_ble_eq_true rfl)
        · replace heq := (if_neg c_32).symm.trans heq
          exact Y _ _ _ 52 70 84 74 (fa2, la2, va2, mn2, fa3, la3, va3, mn3, b1, b2, b3, b4, b5, b6, kn) H locs 0 0 ls T_mark_52 (Or.inr (⟨rfl, heq⟩)) hW hl.1 (Nat.le_of_ble_eq_true rfl) (Nat.le_of_ble_eq_true rfl) (Nat.le_of_ble_eq_true rfl) (Nat.le_of_ble_eq_true rfl)
    · replace heq := (if_neg c_2).symm.trans heq
      refine lv_iload_n hx hb d_mark_12 rfl (lv_at hl 3 rfl) ?_
      refine lv_iconst (v := 1) hx hb d_mark_13 (by decide) ?_
      refine lv_icmp_eq (tgt := 27) hx hb d_mark_14 (by decide) (fun c_60 => ?_) (fun c_60 => ?_)
      · replace heq := (if_pos c_60).symm.trans heq
        refine lv_iload_n hx hb d_mark_27 rfl (lv_at hl 3 rfl) ?_
        refine lv_if_ne (tgt := 38) hx hb d_mark_28 (by decide) (fun c_61 => ?_) (fun c_61 => ?_)
        · replace heq := (if_neg c_61).symm.trans heq
          refine lv_aload_n hx hb d_mark_38 rfl (lv_at hl 0 rfl) ?_
          refine va_get (D := D) (C := R_P) (T := F_P) (N := 11) hx hb hts i_P hown hW.1 hW.2.1 0 rfl rfl 6 (by decide) (hts _ w_60) (fun _ h9 => h9) rfl d_mark_39 ?_
          refine lv_astore (lv' := [(5, .ref (h 13)), (0, .ref (h 0)), (1, .int x1), (2, .int x2), (3, .int x3), (4, .int x4)]) hx hb d_mark_42 hl (by decide) rfl (fun ls hl => ?_)
          refine lv_aload hx hb d_mark_44 (lv_at hl 0 rfl) ?_
          refine gk_goR hW [13, 14, 15, 16] rfl (va_runVN (As := []) (rest := []) ⟨hx, hb, hml, hown, hts⟩ (c_rIsFull l D cI cL 40 (h 13) (h 14) (h 15) (h 16) fa3 la3 va3 mn3 z_mn3 v_mn3 (by omega) (by omega) _) (gk_cwVN hts hW.2.2.2.2.2 w_127 w_19 w_20 w_21 k_rIsFull e_rIsFull rfl rfl ⟨Nat.le_of_ble_eq_true rfl, Nat.le_of_ble_eq_true rfl⟩) (gk_preV hW [13, 14, 15, 16] rfl rfl rfl rfl) rfl rfl hl.1 rfl (lv_room (Nat.le_of_ble_eq_true rfl)) d_mark_46 ⟨Nat.le_of_ble_eq_true rfl, Nat.le_of_ble_eq_true rfl⟩) (fun H locs hW => ?_)
          refine lv_if_eq (tgt := 62) hx hb d_mark_49 (by decide) (fun c_62 => ?_) (fun c_62 => ?_)
          · replace heq := (if_pos c_62).symm.trans heq
            refine lv_aload hx hb d_mark_62 (lv_at hl 0 rfl) ?_
            refine lv_iload_n hx hb d_mark_64 rfl (lv_at hl 2 rfl) ?_
            refine lv_iload_n hx hb d_mark_65 rfl (lv_at hl 3 rfl) ?_
            refine lv_iload hx hb d_mark_66 (lv_at hl 5 rfl) ?_
            refine lv_if_eq (tgt := 75) hx hb d_mark_68 (by decide) (fun c_63 => ?_) (fun c_63 => ?_)
            · replace heq := (if_pos c_63).symm.trans heq
              refine lv_iconst (v := 0) hx hb d_mark_75 (by decide) ?_
              refine gk_goV (wr := [((h 0), .inr (0, [.ref (h 1), .ref (h 2), .ref (h 3), .ref (h 4), .ref (h 5), .ref (h 9), .ref (h 13), .ref (h 17), .int ln, .int lo, .int kn])), ((h 1), .inl (cI, 2000, .inl tx)), ((h 2), .inl (cI, 2000, .inl cs)), ((h 3), .inl (cI, 2000, .inl rl)), ((h 4), .inl (cI, 5, .inl gv)), ((h 5), .inr (1, [.ref (h 6), .ref (h 7), .ref (h 8), .int mn1])), ((h 6), .inl (cI, 100, .inl fa1)), ((h 7), .inl (cI, 100, .inl la1)), ((h 8), .inl (cI, 100, .inl va1)), ((h 9), .inr (1, [.ref (h 10), .ref (h 11), .ref (h 12), .int mn2])), ((h 10), .inl (cI, 40, .inl fa2)), ((h 11), .inl (cI, 40, .inl la2)), ((h 12), .inl (cI, 40, .inl va2)), ((h 17), .inr (2, [.int b1, .int b2, .int b3, .int b4, .int b5, .int b6]))]) hW [13, 14, 15, 16] [0, 1, 2, 3, 4, 5, 6, 7, 8, 9, 10, 11, 12, 17] rfl rfl (by decide) (by decide) (va_runVN (As := [.int x1, .int x2, .int 0]) (rest := []) ⟨hx, hb, hml, hown, hts⟩ (c_rTell l D cI cL 40 (h 13) (h 14) (h 15) (h 16) fa3 la3 va3 mn3 x1 x2 0 z_mn3 v_mn3 (by omega) (by omega) _) (gk_cwVN hts hW.2.2.2.2.2 w_128 w_129 w_130 w_21 k_rTell e_rTell rfl rfl ⟨Nat.le_of_ble_eq_true rfl, Nat.le_of_ble_eq_true rfl⟩) (gk_preV hW [13, 14, 15, 16] rfl rfl rfl rfl) rfl rfl hl.1 rfl (lv_room (Nat.le_of_ble_eq_true rfl)) d_mark_76 ⟨Nat.le_of_ble_eq_true rfl, Nat.le_of_ble_eq_true rfl⟩) (fun u H locs p_68 hW => ?_)
              obtain ⟨u_64, u_65, u_66, u_67⟩ := u
              have hW : gk_W D vwCl (gk_T cI cL) s A H locs (wd_P cI h tx cs rl gv fa1 la1 va1 mn1 fa2 la2 va2 mn2 u_64 u_65 u_66 u_67 b1 b2 b3 b4 b5 b6 ln lo kn) := hW.re [0, 1, 2, 3, 4, 5, 6, 7, 8, 9, 10, 11, 12, 14, 15, 16, 17, 13] (by decide) rfl
              rw [← p_68] at heq
              dsimp only at heq
              refine lv_aload_n hx hb d_mark_79 rfl (lv_at hl 1 rfl) ?_
              refine gk_goV (wr := []) hW [0, 1, 2, 3, 4, 5, 6, 7, 8, 9, 10, 11, 12, 13, 14, 15, 16, 17] [] rfl rfl (by decide) (by decide) (va_runV (As := []) (rest := []) ⟨hx, hb, hml, hown, hts⟩ (c_forgetRules l D cI cL h tx cs rl gv fa1 la1 va1 mn1 fa2 la2 va2 mn2 u_64 u_65 u_66 u_67 b1 b2 b3 b4 b5 b6 ln lo kn _) (gk_cwV hts w_86 w_87 w_88 w_3 k_forgetRules rfl e_forgetRules rfl rfl ⟨Nat.le_of_ble_eq_true rfl, Nat.le_of_ble_eq_true rfl⟩) (gk_preV hW [0, 1, 2, 3, 4, 5, 6, 7, 8, 9, 10, 11, 12, 13, 14, 15, 16, 17] rfl rfl rfl rfl) rfl rfl hl.1 rfl (lv_room (Nat.le_of_ble_eq_true rfl)) d_mark_80 ⟨Nat.le_of_ble_eq_true rfl, Nat.le_of_ble_eq_true rfl⟩) (fun u H locs p_76 hW => ?_)
              obtain ⟨u_69, u_70, u_71, u_72, u_73, u_74, u_75⟩ := u
              have hW : gk_W D vwCl (gk_T cI cL) s A H locs (wd_P cI h tx cs rl gv fa1 la1 va1 mn1 fa2 la2 va2 mn2 u_64 u_65 u_66 u_67 u_69 u_70 u_71 u_72 u_73 u_74 ln lo u_75) := hW.re [0, 1, 2, 3, 4, 5, 6, 7, 8, 9, 10, 11, 12, 13, 14, 15, 16, 17] (by decide) rfl
              rw [← p_76] at heq
              dsimp only at heq
              exact X (fa2, la2, va2, mn2, u_64, u_65, u_66, u_67, u_69, u_70, u_71, u_72, u_73, u_74, u_75) H locs 0 0 83 ls heq hW d_mark_83 (Nat.le_of_ble_eq_true rfl) (Nat.le_of_ble_eq_true rfl)
            · replace heq := (if_neg c_63).symm.trans heq
              refine lv_iconst (v := 1) hx hb d_mark_71 (by decide) ?_
              refine lv_goto (tgt := 76) hx hb d_mark_72 (by decide) ?_
              refine gk_goV (wr := [((h 0), .inr (0, [.ref (h 1), .ref (h 2), .ref (h 3), .ref (h 4), .ref (h 5), .ref (h 9), .ref (h 13), .ref (h 17), .int ln, .int lo, .int kn])), ((h 1), .inl (cI, 2000, .inl tx)), ((h 2), .inl (cI, 2000, .inl cs)), ((h 3), .inl (cI, 2000, .inl rl)), ((h 4), .inl (cI, 5, .inl gv)), ((h 5), .inr (1, [.ref (h 6), .ref (h 7), .ref (h 8), .int mn1])), ((h 6), .inl (cI, 100, .inl fa1)), ((h 7), .inl (cI, 100, .inl la1)), ((h 8), .inl (cI, 100, .inl va1)), ((h 9), .inr (1, [.ref (h 10), .ref (h 11), .ref (h 12), .int mn2])), ((h 10), .inl (cI, 40, .inl fa2)), ((h 11), .inl (cI, 40, .inl la2)), ((h 12), .inl (cI, 40, .inl va2)), ((h 17), .inr (2, [.int b1, .int b2, .int b3, .int b4, .int b5, .int b6]))]) hW [13, 14, 15, 16] [0, 1, 2, 3, 4, 5, 6, 7, 8, 9, 10, 11, 12, 17] rfl rfl (by decide) (by decide) (va_runVN (As := [.int x1, .int x2, .int 1]) (rest := []) ⟨hx, hb, hml, hown, hts⟩ (c_rTell l D cI cL 40 (h 13) (h 14) (h 15) (h 16) fa3 la3 va3 mn3 x1 x2 1 z_mn3 v_mn3 (by omega) (by omega) _) (gk_cwVN hts hW.2.2.2.2.2 w_128 w_129 w_130 w_21 k_rTell e_rTell rfl rfl ⟨Nat.le_of_ble_eq_true rfl, Nat.le_of_ble_eq_true rfl⟩) (gk_preV hW [13, 14, 15, 16] rfl rfl rfl rfl) rfl rfl hl.1 rfl (lv_room (Nat.le_of_ble_eq_true rfl)) d_mark_76 ⟨Nat.le_of_ble_eq_true rfl, Nat.le_of_ble_eq_true rfl⟩) (fun u H locs p_81 hW => ?_)
              obtain ⟨u_77, u_78, u_79, u_80⟩ := u
              have hW : gk_W D vwCl (gk_T cI cL) s A H locs (wd_P cI h tx cs rl gv fa1 la1 va1 mn1 fa2 la2 va2 mn2 u_77 u_78 u_79 u_80 b1 b2 b3 b4 b5 b6 ln lo kn) := hW.re [0, 1, 2, 3, 4, 5, 6, 7, 8, 9, 10, 11, 12, 14, 15, 16, 17, 13] (by decide) rfl
              rw [← p_81] at heq
              dsimp only at heq
              refine lv_aload_n hx hb d_mark_79 rfl (lv_at hl 1 rfl) ?_
              refine gk_goV (wr := []) hW [0, 1, 2, 3, 4, 5, 6, 7, 8, 9, 10, 11, 12, 13, 14, 15, 16, 17] [] rfl rfl (by decide) (by decide) (va_runV (As := []) (rest := []) ⟨hx, hb, hml, hown, hts⟩ (c_forgetRules l D cI cL h tx cs rl gv fa1 la1 va1 mn1 fa2 la2 va2 mn2 u_77 u_78 u_79 u_80 b1 b2 b3 b4 b5 b6 ln lo kn _) (gk_cwV hts w_86 w_87 w_88 w_3 k_forgetRules rfl e_forgetRules rfl rfl ⟨Nat.le_of_ble_eq_true rfl, Nat.le_of_ble_eq_true rfl⟩) (gk_preV hW [0, 1, 2, 3, 4, 5, 6, 7, 8, 9, 10, 11, 12, 13, 14, 15, 16, 17] rfl rfl rfl rfl) rfl rfl hl.1 rfl (lv_room (Nat.le_of_ble_eq_true rfl)) d_mark_80 ⟨Nat.le_of_ble_eq_true rfl, Nat.le_of_ble_eq_true rfl⟩) (fun u H locs p_89 hW => ?_)
              obtain ⟨u_82, u_83, u_84, u_85, u_86, u_87, u_88⟩ := u
              have hW : gk_W D vwCl (gk_T cI cL) s A H locs (wd_P cI h tx cs rl gv fa1 la1 va1 mn1 fa2 la2 va2 mn2 u_77 u_78 u_79 u_80 u_82 u_83 u_84 u_85 u_86 u_87 ln lo u_88) := hW.re [0, 1, 2, 3, 4, 5, 6, 7, 8, 9, 10, 11, 12, 13, 14, 15, 16, 17] (by decide) rfl
              rw [← p_89] at heq
              dsimp only at heq
              exact X (fa2, la2, va2, mn2, u_77, u_78, u_79, u_80, u_82, u_83, u_84, u_85, u_86, u_87, u_88) H locs 0 0 83 ls heq hW d_mark_83 (Nat.le_of_ble_eq_true rfl) (Nat.le_of_ble_eq_true rfl)
          · replace heq := (if_neg c_62).symm.trans heq
            exact Y _ _ _ 52 70 84 74 (fa2, la2, va2, mn2, fa3, la3, va3, mn3, b1, b2, b3, b4, b5, b6, kn) H locs 0 0 ls T_mark_52 (Or.inr (⟨rfl, heq⟩)) hW hl.1 (Nat.le_of_ble_eq_true rfl) (Nat.le_of_ble_eq_true rfl) (Nat.le_of_ble_eq_true rfl) (Nat.le_of_ble_eq_true rfl)
        · replace heq := (if_pos c_61).symm.trans heq
          refine lv_aload_n hx hb d_mark_31 rfl (lv_at hl 0 rfl) ?_
          refine va_get (D := D) (C := R_P) (T := F_P) (N := 11) hx hb hts i_P hown hW.1 hW.2.1 0 rfl rfl 5 (by decide) (hts _ w_65) (fun _ h9 => h9) rfl d_mark_32 ?_
          refine lv_goto (tgt := 42) hx hb d_mark_35 (by decide) ?_
          refine lv_astore (lv' := [(5, .ref (h 9)), (0, .ref (h 0)), (1, .int x1), (2, .int x2), (3, .int x3), (4, .int x4)]) hx hb d_mark_42 hl (by decide) rfl (fun ls hl => ?_)
          refine lv_aload hx hb d_mark_44 (lv_at hl 0 rfl) ?_
          refine gk_goR hW [9, 10, 11, 12] rfl (va_runVN (As := []) (rest := []) ⟨hx, hb, hml, hown, hts⟩ (c_rIsFull l D cI cL 40 (h 9) (h 10) (h 11) (h 12) fa2 la2 va2 mn2 z_mn2 v_mn2 (by omega) (by omega) _) (gk_cwVN hts hW.2.2.2.2.2 w_127 w_19 w_20 w_21 k_rIsFull e_rIsFull rfl rfl ⟨Nat.le_of_ble_eq_true rfl, Nat.le_of_ble_eq_true rfl⟩) (gk_preV hW [9, 10, 11, 12] rfl rfl rfl rfl) rfl rfl hl.1 rfl (lv_room (Nat.le_of_ble_eq_true rfl)) d_mark_46 ⟨Nat.le_of_ble_eq_true rfl, Nat.le_of_ble_eq_true rfl⟩) (fun H locs hW => ?_)
          refine lv_if_eq (tgt := 62) hx hb d_mark_49 (by decide) (fun c_90 => ?_) (fun c_90 => ?_)
          · replace heq := (if_pos c_90).symm.trans heq
            refine lv_aload hx hb d_mark_62 (lv_at hl 0 rfl) ?_
            refine lv_iload_n hx hb d_mark_64 rfl (lv_at hl 2 rfl) ?_
            refine lv_iload_n hx hb d_mark_65 rfl (lv_at hl 3 rfl) ?_
            refine lv_iload hx hb d_mark_66 (lv_at hl 5 rfl) ?_
            refine lv_if_eq (tgt := 75) hx hb d_mark_68 (by decide) (fun c_91 => ?_) (fun c_91 => ?_)
            · replace heq := (if_pos c_91).symm.trans heq
              refine lv_iconst (v := 0) hx hb d_mark_75 (by decide) ?_
              refine gk_goV (wr := [((h 0), .inr (0, [.ref (h 1), .ref (h 2), .ref (h 3), .ref (h 4), .ref (h 5), .ref (h 9), .ref (h 13), .ref (h 17), .int ln, .int lo, .int kn])), ((h 1), .inl (cI, 2000, .inl tx)), ((h 2), .inl (cI, 2000, .inl cs)), ((h 3), .inl (cI, 2000, .inl rl)), ((h 4), .inl (cI, 5, .inl gv)), ((h 5), .inr (1, [.ref (h 6), .ref (h 7), .ref (h 8), .int mn1])), ((h 6), .inl (cI, 100, .inl fa1)), ((h 7), .inl (cI, 100, .inl la1)), ((h 8), .inl (cI, 100, .inl va1)), ((h 13), .inr (1, [.ref (h 14), .ref (h 15), .ref (h 16), .int mn3])), ((h 14), .inl (cI, 40, .inl fa3)), ((h 15), .inl (cI, 40, .inl la3)), ((h 16), .inl (cI, 40, .inl va3)), ((h 17), .inr (2, [.int b1, .int b2, .int b3, .int b4, .int b5, .int b6]))]) hW [9, 10, 11, 12] [0, 1, 2, 3, 4, 5, 6, 7, 8, 13, 14, 15, 16, 17] rfl rfl (by decide) (by decide) (va_runVN (As := [.int x1, .int x2, .int 0]) (rest := []) ⟨hx, hb, hml, hown, hts⟩ (c_rTell l D cI cL 40 (h 9) (h 10) (h 11) (h 12) fa2 la2 va2 mn2 x1 x2 0 z_mn2 v_mn2 (by omega) (by omega) _) (gk_cwVN hts hW.2.2.2.2.2 w_128 w_129 w_130 w_21 k_rTell e_rTell rfl rfl ⟨Nat.le_of_ble_eq_true rfl, Nat.le_of_ble_eq_true rfl⟩) (gk_preV hW [9, 10, 11, 12] rfl rfl rfl rfl) rfl rfl hl.1 rfl (lv_room (Nat.le_of_ble_eq_true rfl)) d_mark_76 ⟨Nat.le_of_ble_eq_true rfl, Nat.le_of_ble_eq_true rfl⟩) (fun u H locs p_96 hW => ?_)
              obtain ⟨u_92, u_93, u_94, u_95⟩ := u
              have hW : gk_W D vwCl (gk_T cI cL) s A H locs (wd_P cI h tx cs rl gv fa1 la1 va1 mn1 u_92 u_93 u_94 u_95 fa3 la3 va3 mn3 b1 b2 b3 b4 b5 b6 ln lo kn) := hW.re [0, 1, 2, 3, 4, 5, 6, 7, 8, 14, 15, 16, 17, 9, 10, 11, 12, 13] (by decide) rfl
              rw [← p_96] at heq
              dsimp only at heq
              refine lv_aload_n hx hb d_mark_79 rfl (lv_at hl 1 rfl) ?_
              refine gk_goV (wr := []) hW [0, 1, 2, 3, 4, 5, 6, 7, 8, 9, 10, 11, 12, 13, 14, 15, 16, 17] [] rfl rfl (by decide) (by decide) (va_runV (As := []) (rest := []) ⟨hx, hb, hml, hown, hts⟩ (c_forgetRules l D cI cL h tx cs rl gv fa1 la1 va1 mn1 u_92 u_93 u_94 u_95 fa3 la3 va3 mn3 b1 b2 b3 b4 b5 b6 ln lo kn _) (gk_cwV hts w_86 w_87 w_88 w_3 k_forgetRules rfl e_forgetRules rfl rfl ⟨Nat.le_of_ble_eq_true rfl, Nat.le_of_ble_eq_true rfl⟩) (gk_preV hW [0, 1, 2, 3, 4, 5, 6, 7, 8, 9, 10, 11, 12, 13, 14, 15, 16, 17] rfl rfl rfl rfl) rfl rfl hl.1 rfl (lv_room (Nat.le_of_ble_eq_true rfl)) d_mark_80 ⟨Nat.le_of_ble_eq_true rfl, Nat.le_of_ble_eq_true rfl⟩) (fun u H locs p_104 hW => ?_)
              obtain ⟨u_97, u_98, u_99, u_100, u_101, u_102, u_103⟩ := u
              have hW : gk_W D vwCl (gk_T cI cL) s A H locs (wd_P cI h tx cs rl gv fa1 la1 va1 mn1 u_92 u_93 u_94 u_95 fa3 la3 va3 mn3 u_97 u_98 u_99 u_100 u_101 u_102 ln lo u_103) := hW.re [0, 1, 2, 3, 4, 5, 6, 7, 8, 9, 10, 11, 12, 13, 14, 15, 16, 17] (by decide) rfl
              rw [← p_104] at heq
              dsimp only at heq
              exact X (u_92, u_93, u_94, u_95, fa3, la3, va3, mn3, u_97, u_98, u_99, u_100, u_101, u_102, u_103) H locs 0 0 83 ls heq hW d_mark_83 (Nat.le_of_ble_eq_true rfl) (Nat.le_of_ble_eq_true rfl)
            · replace heq := (if_neg c_91).symm.trans heq
              refine lv_iconst (v := 1) hx hb d_mark_71 (by decide) ?_
              refine lv_goto (tgt := 76) hx hb d_mark_72 (by decide) ?_
              refine gk_goV (wr := [((h 0), .inr (0, [.ref (h 1), .ref (h 2), .ref (h 3), .ref (h 4), .ref (h 5), .ref (h 9), .ref (h 13), .ref (h 17), .int ln, .int lo, .int kn])), ((h 1), .inl (cI, 2000, .inl tx)), ((h 2), .inl (cI, 2000, .inl cs)), ((h 3), .inl (cI, 2000, .inl rl)), ((h 4), .inl (cI, 5, .inl gv)), ((h 5), .inr (1, [.ref (h 6), .ref (h 7), .ref (h 8), .int mn1])), ((h 6), .inl (cI, 100, .inl fa1)), ((h 7), .inl (cI, 100, .inl la1)), ((h 8), .inl (cI, 100, .inl va1)), ((h 13), .inr (1, [.ref (h 14), .ref (h 15), .ref (h 16), .int mn3])), ((h 14), .inl (cI, 40, .inl fa3)), ((h 15), .inl (cI, 40, .inl la3)), ((h 16), .inl (cI, 40, .inl va3)), ((h 17), .inr (2, [.int b1, .int b2, .int b3, .int b4, .int b5, .int b6]))]) hW [9, 10, 11, 12] [0, 1, 2, 3, 4, 5, 6, 7, 8, 13, 14, 15, 16, 17] rfl rfl (by decide) (by decide) (va_runVN (As := [.int x1, .int x2, .int 1]) (rest := []) ⟨hx, hb, hml, hown, hts⟩ (c_rTell l D cI cL 40 (h 9) (h 10) (h 11) (h 12) fa2 la2 va2 mn2 x1 x2 1 z_mn2 v_mn2 (by omega) (by omega) _) (gk_cwVN hts hW.2.2.2.2.2 w_128 w_129 w_130 w_21 k_rTell e_rTell rfl rfl ⟨Nat.le_of_ble_eq_true rfl, Nat.le_of_ble_eq_true rfl⟩) (gk_preV hW [9, 10, 11, 12] rfl rfl rfl rfl) rfl rfl hl.1 rfl (lv_room (Nat.le_of_ble_eq_true rfl)) d_mark_76 ⟨Nat.le_of_ble_eq_true rfl, Nat.le_of_ble_eq_true rfl⟩) (fun u H locs p_109 hW => ?_)
              obtain ⟨u_105, u_106, u_107, u_108⟩ := u
              have hW : gk_W D vwCl (gk_T cI cL) s A H locs (wd_P cI h tx cs rl gv fa1 la1 va1 mn1 u_105 u_106 u_107 u_108 fa3 la3 va3 mn3 b1 b2 b3 b4 b5 b6 ln lo kn) := hW.re [0, 1, 2, 3, 4, 5, 6, 7, 8, 14, 15, 16, 17, 9, 10, 11, 12, 13] (by decide) rfl
              rw [← p_109] at heq
              dsimp only at heq
              refine lv_aload_n hx hb d_mark_79 rfl (lv_at hl 1 rfl) ?_
              refine gk_goV (wr := []) hW [0, 1, 2, 3, 4, 5, 6, 7, 8, 9, 10, 11, 12, 13, 14, 15, 16, 17] [] rfl rfl (by decide) (by decide) (va_runV (As := []) (rest := []) ⟨hx, hb, hml, hown, hts⟩ (c_forgetRules l D cI cL h tx cs rl gv fa1 la1 va1 mn1 u_105 u_106 u_107 u_108 fa3 la3 va3 mn3 b1 b2 b3 b4 b5 b6 ln lo kn _) (gk_cwV hts w_86 w_87 w_88 w_3 k_forgetRules rfl e_forgetRules rfl rfl ⟨Nat.le_of_ble_eq_true rfl, Nat.le_of_ble_eq_true rfl⟩) (gk_preV hW [0, 1, 2, 3, 4, 5, 6, 7, 8, 9, 10, 11, 12, 13, 14, 15, 16, 17] rfl rfl rfl rfl) rfl rfl hl.1 rfl (lv_room (Nat.le_of_ble_eq_true rfl)) d_mark_80 ⟨Nat.le_of_ble_eq_true rfl, Nat.le_of_ble_eq_true rfl⟩) (fun u H locs p_117 hW => ?_)
              obtain ⟨u_110, u_111, u_112, u_113, u_114, u_115, u_116⟩ := u
              have hW : gk_W D vwCl (gk_T cI cL) s A H locs (wd_P cI h tx cs rl gv fa1 la1 va1 mn1 u_105 u_106 u_107 u_108 fa3 la3 va3 mn3 u_110 u_111 u_112 u_113 u_114 u_115 ln lo u_116) := hW.re [0, 1, 2, 3, 4, 5, 6, 7, 8, 9, 10, 11, 12, 13, 14, 15, 16, 17] (by decide) rfl
              rw [← p_117] at heq
              dsimp only at heq
              exact X (u_105, u_106, u_107, u_108, fa3, la3, va3, mn3, u_110, u_111, u_112, u_113, u_114, u_115, u_116) H locs 0 0 83 ls heq hW d_mark_83 (Nat.le_of_ble_eq_true rfl) (Nat.le_of_ble_eq_true rfl)
          · replace heq := (if_neg c_90).symm.trans heq
            exact Y _ _ _ 52 70 84 74 (fa2, la2, va2, mn2, fa3, la3, va3, mn3, b1, b2, b3, b4, b5, b6, kn) H locs 0 0 ls T_mark_52 (Or.inr (⟨rfl, heq⟩)) hW hl.1 (Nat.le_of_ble_eq_true rfl) (Nat.le_of_ble_eq_true rfl) (Nat.le_of_ble_eq_true rfl) (Nat.le_of_ble_eq_true rfl)
      · replace heq := (if_neg c_60).symm.trans heq
        exact Y _ _ _ 17 59 82 63 (fa2, la2, va2, mn2, fa3, la3, va3, mn3, b1, b2, b3, b4, b5, b6, kn) H locs 0 0 ls T_mark_17 (Or.inl ⟨rfl, heq⟩) hW hl.1 (Nat.le_of_ble_eq_true rfl) (Nat.le_of_ble_eq_true rfl) (Nat.le_of_ble_eq_true rfl) (Nat.le_of_ble_eq_true rfl)
