def mm_add (x1 x2 x3 x4 x5 : Int32) (tx cs gv fa1 la1 va1 : Nat → Int32) (mn1 b1 b2 b3 b4 b5 b6 ln kn : Int32) : Int32 × Int32 × (Nat → Int32) × (Nat → Int32) × (Nat → Int32) × Int32 × Int32 × Int32 × Int32 × Int32 × Int32 × Int32 × Int32 := match (mm_take x1 x2 x3 x4 x5 gv) with | (r_1, u_2) => if (mm_areCharacters r_1 u_2) = 0 then (1, 0, tx, cs, u_2, b1, b2, b3, b4, b5, b6, ln, kn) else (if (ln + r_1) ≤ 2000 then (match (mm_putGiven ln ln r_1 tx cs u_2 fa1 la1 va1 mn1 b1 b2 b3 b4 b5 b6 ln kn) with | (u_8, u_9, u_10, u_11, u_12, u_13, u_14, u_15, u_16, u_17) => (0, u_16, u_8, u_9, u_2, u_10, u_11, u_12, u_13, u_14, u_15, u_16, u_17)) else (2, 0, tx, cs, u_2, b1, b2, b3, b4, b5, b6, ln, kn))
theorem mm_take_bd2 (x1 x2 x3 x4 x5 : Int32) : ∀ (n : Nat) (x6 : Int32) (gv : Nat → Int32) (z6 : Int), gk_v x6 z6 → 0 ≤ z6 → z6 ≤ 5 → ∃ z : Int, gk_v (mm_take_40 x1 x2 x3 x4 x5 n x6 gv).1 z ∧ 0 ≤ z ∧ z ≤ 5 := by
  intro n
  induction n with
  | zero => intro x6 gv z6 v6 a b; exact ⟨0, rfl, by omega, by omega⟩
  | succ n ih =>
    intro x6 gv z6 v6 a b
    rw [mm_take_40]
    by_cases c1 : 5 ≤ x6
    · rw [if_pos c1]; exact ⟨5, rfl, by omega, by omega⟩
    · rw [if_neg c1]
      have h1 := gk_nle (show gk_v 5 5 from rfl) v6 c1
      by_cases c2 : gv x6.toNatClampNeg = (-1)
      · rw [if_pos c2]; exact ⟨z6, v6, by omega, by omega⟩
      · rw [if_neg c2]
        obtain ⟨z3, v3, e3⟩ := gk_add v6 (show gk_v 1 1 from rfl) (by omega) (by omega)
        exact ih (x6 + 1) gv z3 v3 (by omega) (by omega)
theorem mm_take_bd {x1 x2 x3 x4 x5 r : Int32} {gv u : Nat → Int32} (hp : (r, u) = mm_take x1 x2 x3 x4 x5 gv) : ∃ z : Int, gk_v r z ∧ 0 ≤ z ∧ z ≤ 5 := by
  rw [mm_take] at hp
  have h := mm_take_bd2 x1 x2 x3 x4 x5 6 0 (upd (upd (upd (upd (upd gv (0 : Int32).toNatClampNeg x1) (1 : Int32).toNatClampNeg x2) (2 : Int32).toNatClampNeg x3) (3 : Int32).toNatClampNeg x4) (4 : Int32).toNatClampNeg x5) 0 rfl (by omega) (by omega)
  rw [← hp] at h
  exact h
def rm_add : Room := { frames := 6, cells := 1, slots := 6, locals := 85 }
theorem T_add_22 : gx_T b_add "BreakPlaces" wA rm_add "java/lang/IllegalArgumentException" "no character" ["java/lang/RuntimeException", "java/lang/Exception"] 22 59 94 63 := ⟨⟨by decide +kernel, by decide +kernel⟩, ⟨w_122, w_123, w_235, a_IA⟩, o_IA, ⟨d_add_22, d_add_25, d_add_26, d_add_28, d_add_31⟩, Nat.le_of_ble_eq_true rfl, Nat.le_of_ble_eq_true rfl⟩
theorem T_add_45 : gx_T b_add "BreakPlaces" wA rm_add "java/lang/IllegalStateException" "more than 2000 characters" ["java/lang/RuntimeException", "java/lang/Exception"] 45 70 96 74 := ⟨⟨by decide +kernel, by decide +kernel⟩, ⟨w_132, w_133, w_234, a_IS⟩, o_IS, ⟨d_add_45, d_add_48, d_add_49, d_add_51, d_add_54⟩, Nat.le_of_ble_eq_true rfl, Nat.le_of_ble_eq_true rfl⟩
set_option maxHeartbeats 4000000 in
set_option maxRecDepth 100000 in
theorem c_add (l : Launch) (hst : l.stackTraces = false) (D : va_G) (cI : ClassId) (cL : ClassId × ClassId) (h : Nat → Nat) (tx cs rl gv fa1 la1 va1 : Nat → Int32) (mn1 : Int32) (fa2 la2 va2 : Nat → Int32) (mn2 : Int32) (fa3 la3 va3 : Nat → Int32) (mn3 b1 b2 b3 b4 b5 b6 ln lo kn x1 x2 x3 x4 x5 : Int32) (z_ln : Int) (v_ln : gk_v ln z_ln) (z_mn1 : Int) (v_mn1 : gk_v mn1 z_mn1) (hln : 0 ≤ z_ln ∧ z_ln ≤ 2000) (hm1 : 0 ≤ z_mn1 ∧ z_mn1 ≤ 100) : gx_I l y_add (.code y_add b_add 7 (some .int) :: wA) rm_add D vwCl (gk_T cI cL) [.ref (h 0), .int x1, .int x2, .int x3, .int x4, .int x5] (wd_P cI h tx cs rl gv fa1 la1 va1 mn1 fa2 la2 va2 mn2 fa3 la3 va3 mn3 b1 b2 b3 b4 b5 b6 ln lo kn) (fun (r : Int32) (u : (Nat → Int32) × (Nat → Int32) × (Nat → Int32) × Int32 × Int32 × Int32 × Int32 × Int32 × Int32 × Int32 × Int32) => (0, r, u) = mm_add x1 x2 x3 x4 x5 tx cs gv fa1 la1 va1 mn1 b1 b2 b3 b4 b5 b6 ln kn) (fun (E : String) (u : (Nat → Int32) × (Nat → Int32) × (Nat → Int32) × Int32 × Int32 × Int32 × Int32 × Int32 × Int32 × Int32 × Int32) => (E = "java/lang/IllegalArgumentException" ∧ (1, 0, u) = mm_add x1 x2 x3 x4 x5 tx cs gv fa1 la1 va1 mn1 b1 b2 b3 b4 b5 b6 ln kn) ∨ (E = "java/lang/IllegalStateException" ∧ (2, 0, u) = mm_add x1 x2 x3 x4 x5 tx cs gv fa1 la1 va1 mn1 b1 b2 b3 b4 b5 b6 ln kn)) (fun u => (wd_P cI h u.1 u.2.1 rl u.2.2.1 fa1 la1 va1 mn1 fa2 la2 va2 mn2 fa3 la3 va3 mn3 u.2.2.2.1 u.2.2.2.2.1 u.2.2.2.2.2.1 u.2.2.2.2.2.2.1 u.2.2.2.2.2.2.2.1 u.2.2.2.2.2.2.2.2.1 u.2.2.2.2.2.2.2.2.2.1 lo u.2.2.2.2.2.2.2.2.2.2)) 1 6 := by
  refine gx_I.of hst (by decide) (Nat.le_of_ble_eq_true rfl) ?_
  intro p e s m below meth c A ls Q H locs hx hb hml hown hts hW hl X Y
  have hl : lv_has ls 7 [(0, .ref (h 0)), (1, .int x1), (2, .int x2), (3, .int x3), (4, .int x4), (5, .int x5)] := hl
  obtain ⟨tgt, heq⟩ : ∃ t, mm_add x1 x2 x3 x4 x5 tx cs gv fa1 la1 va1 mn1 b1 b2 b3 b4 b5 b6 ln kn = t := ⟨_, rfl⟩
  rw [heq] at X
  simp only [heq] at Y
  rw [mm_add] at heq
  obtain ⟨z_x1, v_x1⟩ := gk_vex x1
  obtain ⟨z_x2, v_x2⟩ := gk_vex x2
  obtain ⟨z_x3, v_x3⟩ := gk_vex x3
  obtain ⟨z_x4, v_x4⟩ := gk_vex x4
  obtain ⟨z_x5, v_x5⟩ := gk_vex x5
  obtain ⟨z_kn, v_kn⟩ := gk_vex kn
  refine lv_aload_n hx hb d_add_0 rfl (lv_at hl 0 rfl) ?_
  refine lv_iload_n hx hb d_add_1 rfl (lv_at hl 1 rfl) ?_
  refine lv_iload_n hx hb d_add_2 rfl (lv_at hl 2 rfl) ?_
  refine lv_iload_n hx hb d_add_3 rfl (lv_at hl 3 rfl) ?_
  refine lv_iload hx hb d_add_4 (lv_at hl 4 rfl) ?_
  refine lv_iload hx hb d_add_6 (lv_at hl 5 rfl) ?_
  refine gk_goI (wr := []) hW [0, 1, 2, 3, 4, 5, 6, 7, 8, 9, 10, 11, 12, 13, 14, 15, 16, 17] [] rfl rfl (by decide) (by decide) (va_runV (As := [.int x1, .int x2, .int x3, .int x4, .int x5]) (rest := []) ⟨hx, hb, hml, hown, hts⟩ (c_take l D cI cL h tx cs rl gv fa1 la1 va1 mn1 fa2 la2 va2 mn2 fa3 la3 va3 mn3 b1 b2 b3 b4 b5 b6 ln lo kn x1 x2 x3 x4 x5 _) (gk_cwV hts w_225 w_226 w_227 w_3 k_take rfl e_take rfl rfl ⟨Nat.le_of_ble_eq_true rfl, Nat.le_of_ble_eq_true rfl⟩) (gk_preV hW [0, 1, 2, 3, 4, 5, 6, 7, 8, 9, 10, 11, 12, 13, 14, 15, 16, 17] rfl rfl rfl rfl) rfl rfl hl.1 rfl (lv_room (Nat.le_of_ble_eq_true rfl)) d_add_8 ⟨Nat.le_of_ble_eq_true rfl, Nat.le_of_ble_eq_true rfl⟩) (fun r_1 u H locs p_3 hW => ?_)
  obtain ⟨u_2, rfl⟩ : ∃ z, z = u := ⟨u, rfl⟩
  have hW : gk_W D vwCl (gk_T cI cL) s A H locs (wd_P cI h tx cs rl u_2 fa1 la1 va1 mn1 fa2 la2 va2 mn2 fa3 la3 va3 mn3 b1 b2 b3 b4 b5 b6 ln lo kn) := hW.re [0, 1, 2, 3, 4, 5, 6, 7, 8, 9, 10, 11, 12, 13, 14, 15, 16, 17] (by decide) rfl
  rw [← p_3] at heq
  dsimp only at heq
  obtain ⟨zk_4, vk_4, hk_4⟩ := mm_take_bd p_3
  refine lv_istore (lv' := [(6, .int r_1), (0, .ref (h 0)), (1, .int x1), (2, .int x2), (3, .int x3), (4, .int x4), (5, .int x5)]) hx hb d_add_11 hl (by decide) rfl (fun ls hl => ?_)
  refine lv_aload_n hx hb d_add_13 rfl (lv_at hl 1 rfl) ?_
  refine lv_iload hx hb d_add_14 (lv_at hl 0 rfl) ?_
  refine gk_goR hW [0, 1, 2, 3, 4, 5, 6, 7, 8, 9, 10, 11, 12, 13, 14, 15, 16, 17] rfl (va_runV (As := [.int r_1]) (rest := []) ⟨hx, hb, hml, hown, hts⟩ (c_areCharacters l D cI cL h tx cs rl u_2 fa1 la1 va1 mn1 fa2 la2 va2 mn2 fa3 la3 va3 mn3 b1 b2 b3 b4 b5 b6 ln lo kn r_1 _) (gk_cwV hts w_228 w_229 w_230 w_3 k_areCharacters rfl e_areCharacters rfl rfl ⟨Nat.le_of_ble_eq_true rfl, Nat.le_of_ble_eq_true rfl⟩) (gk_preV hW [0, 1, 2, 3, 4, 5, 6, 7, 8, 9, 10, 11, 12, 13, 14, 15, 16, 17] rfl rfl rfl rfl) rfl rfl hl.1 rfl (lv_room (Nat.le_of_ble_eq_true rfl)) d_add_16 ⟨Nat.le_of_ble_eq_true rfl, Nat.le_of_ble_eq_true rfl⟩) (fun H locs hW => ?_)
  refine lv_if_ne (tgt := 32) hx hb d_add_19 (by decide) (fun c_5 => ?_) (fun c_5 => ?_)
  · replace heq := (if_neg c_5).symm.trans heq
    refine lv_aload_n hx hb d_add_32 rfl (lv_at hl 1 rfl) ?_
    refine va_get (D := D) (C := R_P) (T := F_P) (N := 11) hx hb hts i_P hown hW.1 hW.2.1 0 rfl rfl 8 (by decide) (hts _ w_42) (fun _ h9 => h9) rfl d_add_33 ?_
    refine lv_iload hx hb d_add_36 (lv_at hl 0 rfl) ?_
    refine lv_iadd hx hb d_add_38 ?_
    obtain ⟨zt_6, vt_6, et_6⟩ := gk_add v_ln vk_4 (by omega) (by omega)
    refine lv_sipush (v := 2000) hx hb d_add_39 (by decide) ?_
    refine lv_icmp_le (tgt := 55) hx hb d_add_42 (by decide) (fun c_7 => ?_) (fun c_7 => ?_)
    · replace heq := (if_pos c_7).symm.trans heq
      have ic_7 := gk_le vt_6 (show gk_v 2000 2000 from rfl) c_7
      refine lv_aload_n hx hb d_add_55 rfl (lv_at hl 1 rfl) ?_
      refine lv_aload_n hx hb d_add_56 rfl (lv_at hl 1 rfl) ?_
      refine va_get (D := D) (C := R_P) (T := F_P) (N := 11) hx hb hts i_P hown hW.1 hW.2.1 0 rfl rfl 8 (by decide) (hts _ w_42) (fun _ h9 => h9) rfl d_add_57 ?_
      refine lv_aload_n hx hb d_add_60 rfl (lv_at hl 1 rfl) ?_
      refine va_get (D := D) (C := R_P) (T := F_P) (N := 11) hx hb hts i_P hown hW.1 hW.2.1 0 rfl rfl 8 (by decide) (hts _ w_42) (fun _ h9 => h9) rfl d_add_61 ?_
      refine lv_iload hx hb d_add_64 (lv_at hl 0 rfl) ?_
      refine gk_goV (wr := []) hW [0, 1, 2, 3, 4, 5, 6, 7, 8, 9, 10, 11, 12, 13, 14, 15, 16, 17] [] rfl rfl (by decide) (by decide) (va_runV (As := [.int ln, .int ln, .int r_1]) (rest := []) ⟨hx, hb, hml, hown, hts⟩ (c_putGiven l D cI cL h tx cs rl u_2 fa1 la1 va1 mn1 fa2 la2 va2 mn2 fa3 la3 va3 mn3 b1 b2 b3 b4 b5 b6 ln lo kn ln ln r_1 z_ln v_ln z_mn1 v_mn1 z_ln v_ln z_ln v_ln zk_4 vk_4 (by omega) (by omega) (by omega) _) (gk_cwV hts w_231 w_232 w_233 w_3 k_putGiven rfl e_putGiven rfl rfl ⟨Nat.le_of_ble_eq_true rfl, Nat.le_of_ble_eq_true rfl⟩) (gk_preV hW [0, 1, 2, 3, 4, 5, 6, 7, 8, 9, 10, 11, 12, 13, 14, 15, 16, 17] rfl rfl rfl rfl) rfl rfl hl.1 rfl (lv_room (Nat.le_of_ble_eq_true rfl)) d_add_66 ⟨Nat.le_of_ble_eq_true rfl, Nat.le_of_ble_eq_true rfl⟩) (fun u H locs p_18 hW => ?_)
      obtain ⟨u_8, u_9, u_10, u_11, u_12, u_13, u_14, u_15, u_16, u_17⟩ := u
      have hW : gk_W D vwCl (gk_T cI cL) s A H locs (wd_P cI h u_8 u_9 rl u_2 fa1 la1 va1 mn1 fa2 la2 va2 mn2 fa3 la3 va3 mn3 u_10 u_11 u_12 u_13 u_14 u_15 u_16 lo u_17) := hW.re [0, 1, 2, 3, 4, 5, 6, 7, 8, 9, 10, 11, 12, 13, 14, 15, 16, 17] (by decide) rfl
      rw [← p_18] at heq
      dsimp only at heq
      refine lv_aload_n hx hb d_add_69 rfl (lv_at hl 1 rfl) ?_
      refine va_get (D := D) (C := R_P) (T := F_P) (N := 11) hx hb hts i_P hown hW.1 hW.2.1 0 rfl rfl 8 (by decide) (hts _ w_42) (fun _ h9 => h9) rfl d_add_70 ?_
      exact X _ (u_8, u_9, u_2, u_10, u_11, u_12, u_13, u_14, u_15, u_16, u_17) H locs 0 0 73 ls heq hW d_add_73 rfl (Nat.le_of_ble_eq_true rfl) (Nat.le_of_ble_eq_true rfl)
    · replace heq := (if_neg c_7).symm.trans heq
      have ic_7 := gk_nle vt_6 (show gk_v 2000 2000 from rfl) c_7
      exact Y _ _ _ 45 70 96 74 (tx, cs, u_2, b1, b2, b3, b4, b5, b6, ln, kn) H locs 0 0 ls T_add_45 (Or.inr (⟨rfl, heq⟩)) hW hl.1 (Nat.le_of_ble_eq_true rfl) (Nat.le_of_ble_eq_true rfl) (Nat.le_of_ble_eq_true rfl) (Nat.le_of_ble_eq_true rfl)
  · replace heq := (if_pos c_5).symm.trans heq
    exact Y _ _ _ 22 59 94 63 (tx, cs, u_2, b1, b2, b3, b4, b5, b6, ln, kn) H locs 0 0 ls T_add_22 (Or.inl ⟨rfl, heq⟩) hW hl.1 (Nat.le_of_ble_eq_true rfl) (Nat.le_of_ble_eq_true rfl) (Nat.le_of_ble_eq_true rfl) (Nat.le_of_ble_eq_true rfl)
def mm_replace (x1 x2 x3 x4 x5 : Int32) (tx cs gv fa1 la1 va1 : Nat → Int32) (mn1 b1 b2 b3 b4 b5 b6 ln kn : Int32) : Int32 × Int32 × (Nat → Int32) × (Nat → Int32) × (Nat → Int32) × Int32 × Int32 × Int32 × Int32 × Int32 × Int32 × Int32 × Int32 := if x2 < x1 then (3, 0, tx, cs, gv, b1, b2, b3, b4, b5, b6, ln, kn) else (if (mm_isPlace x1 ln) = 0 then (3, 0, tx, cs, gv, b1, b2, b3, b4, b5, b6, ln, kn) else (if (mm_isPlace x2 ln) = 0 then (3, 0, tx, cs, gv, b1, b2, b3, b4, b5, b6, ln, kn) else (match (mm_take x3 x4 x5 (-1) (-1) gv) with | (r_4, u_5) => if (mm_areCharacters r_4 u_5) = 0 then (1, 0, tx, cs, u_5, b1, b2, b3, b4, b5, b6, ln, kn) else (if ((ln - (x2 - x1)) + r_4) ≤ 2000 then (match (mm_putGiven x1 x2 r_4 tx cs u_5 fa1 la1 va1 mn1 b1 b2 b3 b4 b5 b6 ln kn) with | (u_13, u_14, u_15, u_16, u_17, u_18, u_19, u_20, u_21, u_22) => (0, u_21, u_13, u_14, u_5, u_15, u_16, u_17, u_18, u_19, u_20, u_21, u_22)) else (2, 0, tx, cs, u_5, b1, b2, b3, b4, b5, b6, ln, kn)))))
def rm_replace : Room := { frames := 6, cells := 1, slots := 6, locals := 85 }
theorem T_replace_21 : gx_T b_replace "BreakPlaces" wA rm_replace "java/lang/IndexOutOfBoundsException" "no such places" ["java/lang/RuntimeException", "java/lang/Exception"] 21 104 106 108 := ⟨⟨by decide +kernel, by decide +kernel⟩, ⟨w_111, w_112, w_236, a_IO⟩, o_IO, ⟨d_replace_21, d_replace_24, d_replace_25, d_replace_27, d_replace_30⟩, Nat.le_of_ble_eq_true rfl, Nat.le_of_ble_eq_true rfl⟩
theorem T_replace_53 : gx_T b_replace "BreakPlaces" wA rm_replace "java/lang/IllegalArgumentException" "no character" ["java/lang/RuntimeException", "java/lang/Exception"] 53 59 94 63 := ⟨⟨by decide +kernel, by decide +kernel⟩, ⟨w_122, w_123, w_235, a_IA⟩, o_IA, ⟨d_replace_53, d_replace_56, d_replace_57, d_replace_59, d_replace_62⟩, Nat.le_of_ble_eq_true rfl, Nat.le_of_ble_eq_true rfl⟩
theorem T_replace_80 : gx_T b_replace "BreakPlaces" wA rm_replace "java/lang/IllegalStateException" "more than 2000 characters" ["java/lang/RuntimeException", "java/lang/Exception"] 80 70 96 74 := ⟨⟨by decide +kernel, by decide +kernel⟩, ⟨w_132, w_133, w_234, a_IS⟩, o_IS, ⟨d_replace_80, d_replace_83, d_replace_84, d_replace_86, d_replace_89⟩, Nat.le_of_ble_eq_true rfl, Nat.le_of_ble_eq_true rfl⟩
set_option maxHeartbeats 4000000 in
set_option maxRecDepth 100000 in
theorem c_replace (l : Launch) (hst : l.stackTraces = false) (D : va_G) (cI : ClassId) (cL : ClassId × ClassId) (h : Nat → Nat) (tx cs rl gv fa1 la1 va1 : Nat → Int32) (mn1 : Int32) (fa2 la2 va2 : Nat → Int32) (mn2 : Int32) (fa3 la3 va3 : Nat → Int32) (mn3 b1 b2 b3 b4 b5 b6 ln lo kn x1 x2 x3 x4 x5 : Int32) (z_ln : Int) (v_ln : gk_v ln z_ln) (z_mn1 : Int) (v_mn1 : gk_v mn1 z_mn1) (hln : 0 ≤ z_ln ∧ z_ln ≤ 2000) (hm1 : 0 ≤ z_mn1 ∧ z_mn1 ≤ 100) : gx_I l y_replace (.code y_replace b_replace 7 (some .int) :: wA) rm_replace D vwCl (gk_T cI cL) [.ref (h 0), .int x1, .int x2, .int x3, .int x4, .int x5] (wd_P cI h tx cs rl gv fa1 la1 va1 mn1 fa2 la2 va2 mn2 fa3 la3 va3 mn3 b1 b2 b3 b4 b5 b6 ln lo kn) (fun (r : Int32) (u : (Nat → Int32) × (Nat → Int32) × (Nat → Int32) × Int32 × Int32 × Int32 × Int32 × Int32 × Int32 × Int32 × Int32) => (0, r, u) = mm_replace x1 x2 x3 x4 x5 tx cs gv fa1 la1 va1 mn1 b1 b2 b3 b4 b5 b6 ln kn) (fun (E : String) (u : (Nat → Int32) × (Nat → Int32) × (Nat → Int32) × Int32 × Int32 × Int32 × Int32 × Int32 × Int32 × Int32 × Int32) => (E = "java/lang/IndexOutOfBoundsException" ∧ (3, 0, u) = mm_replace x1 x2 x3 x4 x5 tx cs gv fa1 la1 va1 mn1 b1 b2 b3 b4 b5 b6 ln kn) ∨ (E = "java/lang/IllegalArgumentException" ∧ (1, 0, u) = mm_replace x1 x2 x3 x4 x5 tx cs gv fa1 la1 va1 mn1 b1 b2 b3 b4 b5 b6 ln kn) ∨ (E = "java/lang/IllegalStateException" ∧ (2, 0, u) = mm_replace x1 x2 x3 x4 x5 tx cs gv fa1 la1 va1 mn1 b1 b2 b3 b4 b5 b6 ln kn)) (fun u => (wd_P cI h u.1 u.2.1 rl u.2.2.1 fa1 la1 va1 mn1 fa2 la2 va2 mn2 fa3 la3 va3 mn3 u.2.2.2.1 u.2.2.2.2.1 u.2.2.2.2.2.1 u.2.2.2.2.2.2.1 u.2.2.2.2.2.2.2.1 u.2.2.2.2.2.2.2.2.1 u.2.2.2.2.2.2.2.2.2.1 lo u.2.2.2.2.2.2.2.2.2.2)) 1 6 := by
  refine gx_I.of hst (by decide) (Nat.le_of_ble_eq_true rfl) ?_
  intro p e s m below meth c A ls Q H locs hx hb hml hown hts hW hl X Y
  have hl : lv_has ls 7 [(0, .ref (h 0)), (1, .int x1), (2, .int x2), (3, .int x3), (4, .int x4), (5, .int x5)] := hl
  obtain ⟨tgt, heq⟩ : ∃ t, mm_replace x1 x2 x3 x4 x5 tx cs gv fa1 la1 va1 mn1 b1 b2 b3 b4 b5 b6 ln kn = t := ⟨_, rfl⟩
  rw [heq] at X
  simp only [heq] at Y
  rw [mm_replace] at heq
  obtain ⟨z_x1, v_x1⟩ := gk_vex x1
  obtain ⟨z_x2, v_x2⟩ := gk_vex x2
  obtain ⟨z_x3, v_x3⟩ := gk_vex x3
  obtain ⟨z_x4, v_x4⟩ := gk_vex x4
  obtain ⟨z_x5, v_x5⟩ := gk_vex x5
  obtain ⟨z_kn, v_kn⟩ := gk_vex kn
  refine lv_iload_n hx hb d_replace_0 rfl (lv_at hl 1 rfl) ?_
  refine lv_iload_n hx hb d_replace_1 rfl (lv_at hl 2 rfl) ?_
  refine lv_icmp_gt (tgt := 21) hx hb d_replace_2 (by decide) (fun c_1 => ?_) (fun c_1 => ?_)
  · replace heq := (if_pos c_1).symm.trans heq
    have ic_1 := gk_lt v_x2 v_x1 c_1
    exact Y _ _ _ 21 104 106 108 (tx, cs, gv, b1, b2, b3, b4, b5, b6, ln, kn) H locs 0 0 ls T_replace_21 (Or.inl ⟨rfl, heq⟩) hW hl.1 (Nat.le_of_ble_eq_true rfl) (Nat.le_of_ble_eq_true rfl) (Nat.le_of_ble_eq_true rfl) (Nat.le_of_ble_eq_true rfl)
  · replace heq := (if_neg c_1).symm.trans heq
    have ic_1 := gk_nlt v_x2 v_x1 c_1
    refine lv_aload_n hx hb d_replace_5 rfl (lv_at hl 0 rfl) ?_
    refine lv_iload_n hx hb d_replace_6 rfl (lv_at hl 1 rfl) ?_
    refine gk_goR hW [0, 1, 2, 3, 4, 5, 6, 7, 8, 9, 10, 11, 12, 13, 14, 15, 16, 17] rfl (va_runV (As := [.int x1]) (rest := []) ⟨hx, hb, hml, hown, hts⟩ (c_isPlace l D cI cL h tx cs rl gv fa1 la1 va1 mn1 fa2 la2 va2 mn2 fa3 la3 va3 mn3 b1 b2 b3 b4 b5 b6 ln lo kn x1 _) (gk_cwV hts w_114 w_115 w_116 w_3 k_isPlace rfl e_isPlace rfl rfl ⟨Nat.le_of_ble_eq_true rfl, Nat.le_of_ble_eq_true rfl⟩) (gk_preV hW [0, 1, 2, 3, 4, 5, 6, 7, 8, 9, 10, 11, 12, 13, 14, 15, 16, 17] rfl rfl rfl rfl) rfl rfl hl.1 rfl (lv_room (Nat.le_of_ble_eq_true rfl)) d_replace_7 ⟨Nat.le_of_ble_eq_true rfl, Nat.le_of_ble_eq_true rfl⟩) (fun H locs hW => ?_)
    refine lv_if_eq (tgt := 21) hx hb d_replace_10 (by decide) (fun c_2 => ?_) (fun c_2 => ?_)
    · replace heq := (if_pos c_2).symm.trans heq
      exact Y _ _ _ 21 104 106 108 (tx, cs, gv, b1, b2, b3, b4, b5, b6, ln, kn) H locs 0 0 ls T_replace_21 (Or.inl ⟨rfl, heq⟩) hW hl.1 (Nat.le_of_ble_eq_true rfl) (Nat.le_of_ble_eq_true rfl) (Nat.le_of_ble_eq_true rfl) (Nat.le_of_ble_eq_true rfl)
    · replace heq := (if_neg c_2).symm.trans heq
      have hin1 := mm_isPlace_in c_2 v_x1 v_ln
      refine lv_aload_n hx hb d_replace_13 rfl (lv_at hl 0 rfl) ?_
      refine lv_iload_n hx hb d_replace_14 rfl (lv_at hl 2 rfl) ?_
      refine gk_goR hW [0, 1, 2, 3, 4, 5, 6, 7, 8, 9, 10, 11, 12, 13, 14, 15, 16, 17] rfl (va_runV (As := [.int x2]) (rest := []) ⟨hx, hb, hml, hown, hts⟩ (c_isPlace l D cI cL h tx cs rl gv fa1 la1 va1 mn1 fa2 la2 va2 mn2 fa3 la3 va3 mn3 b1 b2 b3 b4 b5 b6 ln lo kn x2 _) (gk_cwV hts w_114 w_115 w_116 w_3 k_isPlace rfl e_isPlace rfl rfl ⟨Nat.le_of_ble_eq_true rfl, Nat.le_of_ble_eq_true rfl⟩) (gk_preV hW [0, 1, 2, 3, 4, 5, 6, 7, 8, 9, 10, 11, 12, 13, 14, 15, 16, 17] rfl rfl rfl rfl) rfl rfl hl.1 rfl (lv_room (Nat.le_of_ble_eq_true rfl)) d_replace_15 ⟨Nat.le_of_ble_eq_true rfl, Nat.le_of_ble_eq_true rfl⟩) (fun H locs hW => ?_)
      refine lv_if_ne (tgt := 31) hx hb d_replace_18 (by decide) (fun c_3 => ?_) (fun c_3 => ?_)
      · replace heq := (if_neg c_3).symm.trans heq
        have hin2 := mm_isPlace_in c_3 v_x2 v_ln
        refine lv_aload_n hx hb d_replace_31 rfl (lv_at hl 0 rfl) ?_
        refine lv_iload_n hx hb d_replace_32 rfl (lv_at hl 3 rfl) ?_
        refine lv_iload hx hb d_replace_33 (lv_at hl 4 rfl) ?_
        refine lv_iload hx hb d_replace_35 (lv_at hl 5 rfl) ?_
        refine lv_iconst (v := (-1)) hx hb d_replace_37 (by decide) ?_
        refine lv_iconst (v := (-1)) hx hb d_replace_38 (by decide) ?_
        refine gk_goI (wr := []) hW [0, 1, 2, 3, 4, 5, 6, 7, 8, 9, 10, 11, 12, 13, 14, 15, 16, 17] [] rfl rfl (by decide) (by decide) (va_runV (As := [.int x3, .int x4, .int x5, .int (-1), .int (-1)]) (rest := []) ⟨hx, hb, hml, hown, hts⟩ (c_take l D cI cL h tx cs rl gv fa1 la1 va1 mn1 fa2 la2 va2 mn2 fa3 la3 va3 mn3 b1 b2 b3 b4 b5 b6 ln lo kn x3 x4 x5 (-1) (-1) _) (gk_cwV hts w_225 w_226 w_227 w_3 k_take rfl e_take rfl rfl ⟨Nat.le_of_ble_eq_true rfl, Nat.le_of_ble_eq_true rfl⟩) (gk_preV hW [0, 1, 2, 3, 4, 5, 6, 7, 8, 9, 10, 11, 12, 13, 14, 15, 16, 17] rfl rfl rfl rfl) rfl rfl hl.1 rfl (lv_room (Nat.le_of_ble_eq_true rfl)) d_replace_39 ⟨Nat.le_of_ble_eq_true rfl, Nat.le_of_ble_eq_true rfl⟩) (fun r_4 u H locs p_6 hW => ?_)
        obtain ⟨u_5, rfl⟩ : ∃ z, z = u := ⟨u, rfl⟩
        have hW : gk_W D vwCl (gk_T cI cL) s A H locs (wd_P cI h tx cs rl u_5 fa1 la1 va1 mn1 fa2 la2 va2 mn2 fa3 la3 va3 mn3 b1 b2 b3 b4 b5 b6 ln lo kn) := hW.re [0, 1, 2, 3, 4, 5, 6, 7, 8, 9, 10, 11, 12, 13, 14, 15, 16, 17] (by decide) rfl
        rw [← p_6] at heq
        dsimp only at heq
        obtain ⟨zk_7, vk_7, hk_7⟩ := mm_take_bd p_6
        refine lv_istore (lv' := [(6, .int r_4), (0, .ref (h 0)), (1, .int x1), (2, .int x2), (3, .int x3), (4, .int x4), (5, .int x5)]) hx hb d_replace_42 hl (by decide) rfl (fun ls hl => ?_)
        refine lv_aload_n hx hb d_replace_44 rfl (lv_at hl 1 rfl) ?_
        refine lv_iload hx hb d_replace_45 (lv_at hl 0 rfl) ?_
        refine gk_goR hW [0, 1, 2, 3, 4, 5, 6, 7, 8, 9, 10, 11, 12, 13, 14, 15, 16, 17] rfl (va_runV (As := [.int r_4]) (rest := []) ⟨hx, hb, hml, hown, hts⟩ (c_areCharacters l D cI cL h tx cs rl u_5 fa1 la1 va1 mn1 fa2 la2 va2 mn2 fa3 la3 va3 mn3 b1 b2 b3 b4 b5 b6 ln lo kn r_4 _) (gk_cwV hts w_228 w_229 w_230 w_3 k_areCharacters rfl e_areCharacters rfl rfl ⟨Nat.le_of_ble_eq_true rfl, Nat.le_of_ble_eq_true rfl⟩) (gk_preV hW [0, 1, 2, 3, 4, 5, 6, 7, 8, 9, 10, 11, 12, 13, 14, 15, 16, 17] rfl rfl rfl rfl) rfl rfl hl.1 rfl (lv_room (Nat.le_of_ble_eq_true rfl)) d_replace_47 ⟨Nat.le_of_ble_eq_true rfl, Nat.le_of_ble_eq_true rfl⟩) (fun H locs hW => ?_)
        refine lv_if_ne (tgt := 63) hx hb d_replace_50 (by decide) (fun c_8 => ?_) (fun c_8 => ?_)
        · replace heq := (if_neg c_8).symm.trans heq
          refine lv_aload_n hx hb d_replace_63 rfl (lv_at hl 1 rfl) ?_
          refine va_get (D := D) (C := R_P) (T := F_P) (N := 11) hx hb hts i_P hown hW.1 hW.2.1 0 rfl rfl 8 (by decide) (hts _ w_42) (fun _ h9 => h9) rfl d_replace_64 ?_
          refine lv_iload_n hx hb d_replace_67 rfl (lv_at hl 3 rfl) ?_
          refine lv_iload_n hx hb d_replace_68 rfl (lv_at hl 2 rfl) ?_
          refine lv_isub hx hb d_replace_69 ?_
          obtain ⟨zt_9, vt_9, et_9⟩ := gk_sub v_x2 v_x1 (by omega) (by omega)
          refine lv_isub hx hb d_replace_70 ?_
          obtain ⟨zt_10, vt_10, et_10⟩ := gk_sub v_ln vt_9 (by omega) (by omega)
          refine lv_iload hx hb d_replace_71 (lv_at hl 0 rfl) ?_
          refine lv_iadd hx hb d_replace_73 ?_
          obtain ⟨zt_11, vt_11, et_11⟩ := gk_add vt_10 vk_7 (by omega) (by omega)
          refine lv_sipush (v := 2000) hx hb d_replace_74 (by decide) ?_
          refine lv_icmp_le (tgt := 90) hx hb d_replace_77 (by decide) (fun c_12 => ?_) (fun c_12 => ?_)
          · replace heq := (if_pos c_12).symm.trans heq
            have ic_12 := gk_le vt_11 (show gk_v 2000 2000 from rfl) c_12
            refine lv_aload_n hx hb d_replace_90 rfl (lv_at hl 1 rfl) ?_
            refine lv_iload_n hx hb d_replace_91 rfl (lv_at hl 2 rfl) ?_
            refine lv_iload_n hx hb d_replace_92 rfl (lv_at hl 3 rfl) ?_
            refine lv_iload hx hb d_replace_93 (lv_at hl 0 rfl) ?_
            refine gk_goV (wr := []) hW [0, 1, 2, 3, 4, 5, 6, 7, 8, 9, 10, 11, 12, 13, 14, 15, 16, 17] [] rfl rfl (by decide) (by decide) (va_runV (As := [.int x1, .int x2, .int r_4]) (rest := []) ⟨hx, hb, hml, hown, hts⟩ (c_putGiven l D cI cL h tx cs rl u_5 fa1 la1 va1 mn1 fa2 la2 va2 mn2 fa3 la3 va3 mn3 b1 b2 b3 b4 b5 b6 ln lo kn x1 x2 r_4 z_ln v_ln z_mn1 v_mn1 z_x1 v_x1 z_x2 v_x2 zk_7 vk_7 (by omega) (by omega) (by omega) _) (gk_cwV hts w_231 w_232 w_233 w_3 k_putGiven rfl e_putGiven rfl rfl ⟨Nat.le_of_ble_eq_true rfl, Nat.le_of_ble_eq_true rfl⟩) (gk_preV hW [0, 1, 2, 3, 4, 5, 6, 7, 8, 9, 10, 11, 12, 13, 14, 15, 16, 17] rfl rfl rfl rfl) rfl rfl hl.1 rfl (lv_room (Nat.le_of_ble_eq_true rfl)) d_replace_95 ⟨Nat.le_of_ble_eq_true rfl, Nat.le_of_ble_eq_true rfl⟩) (fun u H locs p_23 hW => ?_)
            obtain ⟨u_13, u_14, u_15, u_16, u_17, u_18, u_19, u_20, u_21, u_22⟩ := u
            have hW : gk_W D vwCl (gk_T cI cL) s A H locs (wd_P cI h u_13 u_14 rl u_5 fa1 la1 va1 mn1 fa2 la2 va2 mn2 fa3 la3 va3 mn3 u_15 u_16 u_17 u_18 u_19 u_20 u_21 lo u_22) := hW.re [0, 1, 2, 3, 4, 5, 6, 7, 8, 9, 10, 11, 12, 13, 14, 15, 16, 17] (by decide) rfl
            rw [← p_23] at heq
            dsimp only at heq
            refine lv_aload_n hx hb d_replace_98 rfl (lv_at hl 1 rfl) ?_
            refine va_get (D := D) (C := R_P) (T := F_P) (N := 11) hx hb hts i_P hown hW.1 hW.2.1 0 rfl rfl 8 (by decide) (hts _ w_42) (fun _ h9 => h9) rfl d_replace_99 ?_
            exact X _ (u_13, u_14, u_5, u_15, u_16, u_17, u_18, u_19, u_20, u_21, u_22) H locs 0 0 102 ls heq hW d_replace_102 rfl (Nat.le_of_ble_eq_true rfl) (Nat.le_of_ble_eq_true rfl)
          · replace heq := (if_neg c_12).symm.trans heq
            have ic_12 := gk_nle vt_11 (show gk_v 2000 2000 from rfl) c_12
            exact Y _ _ _ 80 70 96 74 (tx, cs, u_5, b1, b2, b3, b4, b5, b6, ln, kn) H locs 0 0 ls T_replace_80 (Or.inr (Or.inr (⟨rfl, heq⟩))) hW hl.1 (Nat.le_of_ble_eq_true rfl) (Nat.le_of_ble_eq_true rfl) (Nat.le_of_ble_eq_true rfl) (Nat.le_of_ble_eq_true rfl)
        · replace heq := (if_pos c_8).symm.trans heq
          exact Y _ _ _ 53 59 94 63 (tx, cs, u_5, b1, b2, b3, b4, b5, b6, ln, kn) H locs 0 0 ls T_replace_53 (Or.inr (Or.inl ⟨rfl, heq⟩)) hW hl.1 (Nat.le_of_ble_eq_true rfl) (Nat.le_of_ble_eq_true rfl) (Nat.le_of_ble_eq_true rfl) (Nat.le_of_ble_eq_true rfl)
      · replace heq := (if_pos c_3).symm.trans heq
        exact Y _ _ _ 21 104 106 108 (tx, cs, gv, b1, b2, b3, b4, b5, b6, ln, kn) H locs 0 0 ls T_replace_21 (Or.inl ⟨rfl, heq⟩) hW hl.1 (Nat.le_of_ble_eq_true rfl) (Nat.le_of_ble_eq_true rfl) (Nat.le_of_ble_eq_true rfl) (Nat.le_of_ble_eq_true rfl)
