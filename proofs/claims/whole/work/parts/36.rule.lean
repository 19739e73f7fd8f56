def mm_ruleAt_23 (x1 : Int32) (tx cs fa2 la2 va2 : Nat → Int32) (mn2 : Int32) (fa3 la3 va3 : Nat → Int32) (mn3 ln lo : Int32) : Nat → Int32 → (Nat → Int32) → Int32 → Int32 → Int32 → Int32 → Int32 → Int32 → Int32 → Int32 × (Nat → Int32) × Int32 × Int32 × Int32 × Int32 × Int32 × Int32 × Int32
  | 0, x2, rl, b1, b2, b3, b4, b5, b6, kn => (0, rl, b1, b2, b3, b4, b5, b6, kn)
  | n + 1, x2, rl, b1, b2, b3, b4, b5, b6, kn => if x1 < x2 then (rl x1.toNatClampNeg, rl, b1, b2, b3, b4, b5, b6, kn) else (match (mm_bPass (mm_kindAt x2 cs lo) (tx x2.toNatClampNeg) b1 b2 b3 b4 b5 b6) with | (u_2, u_3, u_4, u_5, u_6, u_7) => mm_ruleAt_23 x1 tx cs fa2 la2 va2 mn2 fa3 la3 va3 mn3 ln lo n (x2 + 1) (upd rl x2.toNatClampNeg (mm_findRule (mm_kindAt x2 cs lo) (tx x2.toNatClampNeg) fa2 la2 va2 mn2 fa3 la3 va3 mn3 b1 b2 b3 b4 b5 b6)) u_2 u_3 u_4 u_5 u_6 u_7 (x2 + 1))
def mm_ruleAt (x1 : Int32) (tx cs rl fa2 la2 va2 : Nat → Int32) (mn2 : Int32) (fa3 la3 va3 : Nat → Int32) (mn3 b1 b2 b3 b4 b5 b6 ln lo kn : Int32) : Int32 × (Nat → Int32) × Int32 × Int32 × Int32 × Int32 × Int32 × Int32 × Int32 := if 0 < x1 then (if x1 < ln then (mm_ruleAt_23 x1 tx cs fa2 la2 va2 mn2 fa3 la3 va3 mn3 ln lo 2001 kn rl b1 b2 b3 b4 b5 b6 kn) else (30, rl, b1, b2, b3, b4, b5, b6, kn)) else (20, rl, b1, b2, b3, b4, b5, b6, kn)
theorem mm_ruleAt_23_kn (x1 : Int32) (tx cs fa2 la2 va2 : Nat → Int32) (mn2 : Int32) (fa3 la3 va3 : Nat → Int32) (mn3 ln lo : Int32) (z1 zl : Int) (v1 : gk_v x1 z1) (h1 : z1 < zl) (hl : zl ≤ 2000) : ∀ (n : Nat) (x2 : Int32) (rl : Nat → Int32) (b1 b2 b3 b4 b5 b6 kn : Int32) (z2 zk : Int), gk_v x2 z2 → gk_v kn zk → 0 ≤ z2 → 0 ≤ zk → zk ≤ zl → ∃ z : Int, gk_v (mm_ruleAt_23 x1 tx cs fa2 la2 va2 mn2 fa3 la3 va3 mn3 ln lo n x2 rl b1 b2 b3 b4 b5 b6 kn).2.2.2.2.2.2.2.2 z ∧ 0 ≤ z ∧ z ≤ zl := by
  intro n
  induction n with
  | zero => intro x2 rl b1 b2 b3 b4 b5 b6 kn z2 zk v2 vk a b c; exact ⟨zk, vk, b, c⟩
  | succ n ih =>
    intro x2 rl b1 b2 b3 b4 b5 b6 kn z2 zk v2 vk a b c
    rw [mm_ruleAt_23]
    by_cases c1 : x1 < x2
    · rw [if_pos c1]; exact ⟨zk, vk, b, c⟩
    · rw [if_neg c1]
      have h2 := gk_nlt v1 v2 c1
      obtain ⟨z3, v3, e3⟩ := gk_add v2 (show gk_v 1 1 from rfl) (by omega) (by omega)
      obtain ⟨⟨u1, u2, u3, u4, u5, u6⟩, hu⟩ : ∃ t, mm_bPass (mm_kindAt x2 cs lo) (tx x2.toNatClampNeg) b1 b2 b3 b4 b5 b6 = t := ⟨_, rfl⟩
      rw [hu]
      exact ih (x2 + 1) _ u1 u2 u3 u4 u5 u6 (x2 + 1) z3 z3 v3 v3 (by omega) (by omega) (by omega)
theorem mm_ruleAt_kn (x1 : Int32) (tx cs rl fa2 la2 va2 : Nat → Int32) (mn2 : Int32) (fa3 la3 va3 : Nat → Int32) (mn3 b1 b2 b3 b4 b5 b6 ln lo kn : Int32) {zl zk : Int} (vl : gk_v ln zl) (vk : gk_v kn zk) (hl : 0 ≤ zl ∧ zl ≤ 2000) (hk : 0 ≤ zk ∧ zk ≤ zl) : ∃ z : Int, gk_v (mm_ruleAt x1 tx cs rl fa2 la2 va2 mn2 fa3 la3 va3 mn3 b1 b2 b3 b4 b5 b6 ln lo kn).2.2.2.2.2.2.2.2 z ∧ 0 ≤ z ∧ z ≤ zl := by
  rw [mm_ruleAt]
  by_cases c1 : 0 < x1
  · rw [if_pos c1]
    by_cases c2 : x1 < ln
    · rw [if_pos c2]
      obtain ⟨z1, v1⟩ := gk_vex x1
      have h1 := gk_lt v1 vl c2
      exact mm_ruleAt_23_kn x1 tx cs fa2 la2 va2 mn2 fa3 la3 va3 mn3 ln lo z1 zl v1 h1 hl.2 2001 kn rl b1 b2 b3 b4 b5 b6 kn zk zk vk vk hk.1 hk.1 hk.2
    · rw [if_neg c2]; exact ⟨zk, vk, hk.1, hk.2⟩
  · rw [if_neg c1]; exact ⟨zk, vk, hk.1, hk.2⟩
def rm_ruleAt : Room := { frames := 4, cells := 0, slots := 0, locals := 91 }
set_option maxHeartbeats 4000000 in
set_option maxRecDepth 100000 in
theorem c_ruleAt (l : Launch) (D : va_G) (cI : ClassId) (cL : ClassId × ClassId) (h : Nat → Nat) (tx cs rl gv fa1 la1 va1 : Nat → Int32) (mn1 : Int32) (fa2 la2 va2 : Nat → Int32) (mn2 : Int32) (fa3 la3 va3 : Nat → Int32) (mn3 b1 b2 b3 b4 b5 b6 ln lo kn x1 : Int32) (z_kn : Int) (v_kn : gk_v kn z_kn) (z_ln : Int) (v_ln : gk_v ln z_ln) (z_mn2 : Int) (v_mn2 : gk_v mn2 z_mn2) (z_mn3 : Int) (v_mn3 : gk_v mn3 z_mn3) (hln : 0 ≤ z_ln ∧ z_ln ≤ 2000) (hkn : 0 ≤ z_kn ∧ z_kn ≤ z_ln) (hm2 : 0 ≤ z_mn2 ∧ z_mn2 ≤ 40) (hm3 : 0 ≤ z_mn3 ∧ z_mn3 ≤ 40) : gk_I l y_ruleAt (.code y_ruleAt b_ruleAt 4 (some .int) :: wA) rm_ruleAt D vwCl (gk_T cI cL) [.ref (h 0), .int x1] (wd_P cI h tx cs rl gv fa1 la1 va1 mn1 fa2 la2 va2 mn2 fa3 la3 va3 mn3 b1 b2 b3 b4 b5 b6 ln lo kn) (fun (r : Int32) (u : (Nat → Int32) × Int32 × Int32 × Int32 × Int32 × Int32 × Int32 × Int32) => (r, u) = mm_ruleAt x1 tx cs rl fa2 la2 va2 mn2 fa3 la3 va3 mn3 b1 b2 b3 b4 b5 b6 ln lo kn) (fun u => (wd_P cI h tx cs u.1 gv fa1 la1 va1 mn1 fa2 la2 va2 mn2 fa3 la3 va3 mn3 u.2.1 u.2.2.1 u.2.2.2.1 u.2.2.2.2.1 u.2.2.2.2.2.1 u.2.2.2.2.2.2.1 ln lo u.2.2.2.2.2.2.2)) 0 0 := by
  refine gk_I.of (by decide) (Nat.le_of_ble_eq_true rfl) ?_
  intro p e s m below meth c A ls Q H locs hx hb hml hown hts hW hl X
  have hl : lv_has ls 4 [(0, .ref (h 0)), (1, .int x1)] := hl
  obtain ⟨tgt, heq⟩ : ∃ t, mm_ruleAt x1 tx cs rl fa2 la2 va2 mn2 fa3 la3 va3 mn3 b1 b2 b3 b4 b5 b6 ln lo kn = t := ⟨_, rfl⟩
  rw [heq] at X
  rw [mm_ruleAt] at heq
  obtain ⟨z_x1, v_x1⟩ := gk_vex x1
  obtain ⟨z_b1, v_b1⟩ := gk_vex b1
  obtain ⟨z_b2, v_b2⟩ := gk_vex b2
  obtain ⟨z_b3, v_b3⟩ := gk_vex b3
  obtain ⟨z_b4, v_b4⟩ := gk_vex b4
  obtain ⟨z_b5, v_b5⟩ := gk_vex b5
  obtain ⟨z_b6, v_b6⟩ := gk_vex b6
  obtain ⟨z_lo, v_lo⟩ := gk_vex lo
  have L23 : ∀ (n : Nat) (x2 : Int32) (rl : Nat → Int32) (b1 b2 b3 b4 b5 b6 kn : Int32) (H : Heap) (locs : List Loc) (ls : Array Slot), ∀ (z_x2 : Int), gk_v x2 z_x2 → (z_ln - z_x2) < (n : Int) → 0 < z_x1 ∧ z_x1 < z_ln → 0 ≤ z_x2 ∧ z_x2 ≤ z_ln → mm_ruleAt_23 x1 tx cs fa2 la2 va2 mn2 fa3 la3 va3 mn3 ln lo n x2 rl b1 b2 b3 b4 b5 b6 kn = tgt → gk_W D vwCl (gk_T cI cL) s A H locs (wd_P cI h tx cs rl gv fa1 la1 va1 mn1 fa2 la2 va2 mn2 fa3 la3 va3 mn3 b1 b2 b3 b4 b5 b6 ln lo kn) → lv_has ls 4 [(0, .ref (h 0)), (1, .int x1), (2, .int x2)] → W p l e rm_ruleAt s m [.ref (h 0), .int x1].toArray below meth c H locs 0 0 Q (F0 m 23 ls []) := by
    intro n
    induction n with
    | zero => intro x2 rl b1 b2 b3 b4 b5 b6 kn H locs ls z_x2 v_x2 hm f23_0 f23_1 heq hW hl; exfalso; omega
    | succ n ih =>
      intro x2 rl b1 b2 b3 b4 b5 b6 kn H locs ls z_x2 v_x2 hm f23_0 f23_1 heq hW hl
      rw [mm_ruleAt_23] at heq
      refine lv_iload_n hx hb d_ruleAt_23 rfl (lv_at hl 2 rfl) ?_
      refine lv_iload_n hx hb d_ruleAt_24 rfl (lv_at hl 1 rfl) ?_
      refine lv_icmp_gt (tgt := 78) hx hb d_ruleAt_25 (by decide) (fun c_1 => ?_) (fun c_1 => ?_)
      · replace heq := (if_pos c_1).symm.trans heq
        have ic_1 := gk_lt v_x1 v_x2 c_1
        refine lv_aload_n hx hb d_ruleAt_78 rfl (lv_at hl 0 rfl) ?_
        refine va_get (D := D) (C := R_P) (T := F_P) (N := 11) hx hb hts i_P hown hW.1 hW.2.1 0 rfl rfl 2 (by decide) (hts _ w_95) (fun _ h9 => h9) rfl d_ruleAt_79 ?_
        refine lv_iload_n hx hb d_ruleAt_82 rfl (lv_at hl 1 rfl) ?_
        refine va_iald hx hb hW.1 hW.2.1 3 0 rfl rfl (i := x1) (gk_in v_x1 (by omega) (by omega)) d_ruleAt_83 ?_
        exact X _ (rl, b1, b2, b3, b4, b5, b6, kn) H locs 0 0 84 ls heq hW d_ruleAt_84 rfl (Nat.le_of_ble_eq_true rfl) (Nat.le_of_ble_eq_true rfl)
      · replace heq := (if_neg c_1).symm.trans heq
        have ic_1 := gk_nlt v_x1 v_x2 c_1
        refine lv_aload_n hx hb d_ruleAt_28 rfl (lv_at hl 0 rfl) ?_
        refine lv_iload_n hx hb d_ruleAt_29 rfl (lv_at hl 2 rfl) ?_
        refine gk_goR hW [0, 1, 2, 3, 4, 5, 6, 7, 8, 9, 10, 11, 12, 13, 14, 15, 16, 17] rfl (va_runV (As := [.int x2]) (rest := []) ⟨hx, hb, hml, hown, hts⟩ (c_kindAt l D cI cL h tx cs rl gv fa1 la1 va1 mn1 fa2 la2 va2 mn2 fa3 la3 va3 mn3 b1 b2 b3 b4 b5 b6 ln lo kn x2 z_x2 v_x2 (by omega) _) (gk_cwV hts w_50 w_51 w_52 w_3 k_kindAt rfl e_kindAt rfl rfl ⟨Nat.le_of_ble_eq_true rfl, Nat.le_of_ble_eq_true rfl⟩) (gk_preV hW [0, 1, 2, 3, 4, 5, 6, 7, 8, 9, 10, 11, 12, 13, 14, 15, 16, 17] rfl rfl rfl rfl) rfl rfl hl.1 rfl (lv_room (Nat.le_of_ble_eq_true rfl)) d_ruleAt_30 ⟨Nat.le_of_ble_eq_true rfl, Nat.le_of_ble_eq_true rfl⟩) (fun H locs hW => ?_)
        refine lv_istore_n (lv' := [(3, .int (mm_kindAt x2 cs lo)), (0, .ref (h 0)), (1, .int x1), (2, .int x2)]) hx hb d_ruleAt_33 rfl hl (by decide) rfl (fun ls hl => ?_)
        refine lv_aload_n hx hb d_ruleAt_34 rfl (lv_at hl 1 rfl) ?_
        refine va_get (D := D) (C := R_P) (T := F_P) (N := 11) hx hb hts i_P hown hW.1 hW.2.1 0 rfl rfl 2 (by decide) (hts _ w_95) (fun _ h9 => h9) rfl d_ruleAt_35 ?_
        refine lv_iload_n hx hb d_ruleAt_38 rfl (lv_at hl 3 rfl) ?_
        refine lv_aload_n hx hb d_ruleAt_39 rfl (lv_at hl 1 rfl) ?_
        refine lv_iload_n hx hb d_ruleAt_40 rfl (lv_at hl 0 rfl) ?_
        refine lv_aload_n hx hb d_ruleAt_41 rfl (lv_at hl 1 rfl) ?_
        refine va_get (D := D) (C := R_P) (T := F_P) (N := 11) hx hb hts i_P hown hW.1 hW.2.1 0 rfl rfl 0 (by decide) (hts _ w_89) (fun _ h9 => h9) rfl d_ruleAt_42 ?_
        refine lv_iload_n hx hb d_ruleAt_45 rfl (lv_at hl 3 rfl) ?_
        refine va_iald hx hb hW.1 hW.2.1 1 0 rfl rfl (i := x2) (gk_in v_x2 (by omega) (by omega)) d_ruleAt_46 ?_
        refine gk_goR hW [0, 1, 2, 3, 4, 5, 6, 7, 8, 9, 10, 11, 12, 13, 14, 15, 16, 17] rfl (va_runV (As := [.int (mm_kindAt x2 cs lo), .int (tx x2.toNatClampNeg)]) (rest := [.int x2, .ref (h 3)]) ⟨hx, hb, hml, hown, hts⟩ (c_findRule l D cI cL h tx cs rl gv fa1 la1 va1 mn1 fa2 la2 va2 mn2 fa3 la3 va3 mn3 b1 b2 b3 b4 b5 b6 ln lo kn (mm_kindAt x2 cs lo) (tx x2.toNatClampNeg) z_mn2 v_mn2 z_mn3 v_mn3 (by omega) (by omega) _) (gk_cwV hts w_96 w_97 w_98 w_3 k_findRule rfl e_findRule rfl rfl ⟨Nat.le_of_ble_eq_true rfl, Nat.le_of_ble_eq_true rfl⟩) (gk_preV hW [0, 1, 2, 3, 4, 5, 6, 7, 8, 9, 10, 11, 12, 13, 14, 15, 16, 17] rfl rfl rfl rfl) rfl rfl hl.1 rfl (lv_room (Nat.le_of_ble_eq_true rfl)) d_ruleAt_47 ⟨Nat.le_of_ble_eq_true rfl, Nat.le_of_ble_eq_true rfl⟩) (fun H locs hW => ?_)
        refine va_iast hx hb hW.1 hW.2.1 hW.2.2.1 hW.2.2.2.1 3 0 rfl rfl (i := x2) (x := (mm_findRule (mm_kindAt x2 cs lo) (tx x2.toNatClampNeg) fa2 la2 va2 mn2 fa3 la3 va3 mn3 b1 b2 b3 b4 b5 b6)) (gk_in v_x2 (by omega) (by omega)) d_ruleAt_50 (fun H locs hP hD hS => ?_)
        have hW : gk_W D vwCl (gk_T cI cL) s A H locs (wd_P cI h tx cs (upd rl x2.toNatClampNeg (mm_findRule (mm_kindAt x2 cs lo) (tx x2.toNatClampNeg) fa2 la2 va2 mn2 fa3 la3 va3 mn3 b1 b2 b3 b4 b5 b6)) gv fa1 la1 va1 mn1 fa2 la2 va2 mn2 fa3 la3 va3 mn3 b1 b2 b3 b4 b5 b6 ln lo kn) := ⟨hW.1, hP, hD, hS, hW.2.2.2.2⟩
        refine lv_aload_n hx hb d_ruleAt_51 rfl (lv_at hl 1 rfl) ?_
        refine va_get (D := D) (C := R_P) (T := F_P) (N := 11) hx hb hts i_P hown hW.1 hW.2.1 0 rfl rfl 7 (by decide) (hts _ w_44) (fun _ h9 => h9) rfl d_ruleAt_52 ?_
        refine lv_iload_n hx hb d_ruleAt_55 rfl (lv_at hl 0 rfl) ?_
        refine lv_aload_n hx hb d_ruleAt_56 rfl (lv_at hl 1 rfl) ?_
        refine va_get (D := D) (C := R_P) (T := F_P) (N := 11) hx hb hts i_P hown hW.1 hW.2.1 0 rfl rfl 0 (by decide) (hts _ w_89) (fun _ h9 => h9) rfl d_ruleAt_57 ?_
        refine lv_iload_n hx hb d_ruleAt_60 rfl (lv_at hl 3 rfl) ?_
        refine va_iald hx hb hW.1 hW.2.1 1 0 rfl rfl (i := x2) (gk_in v_x2 (by omega) (by omega)) d_ruleAt_61 ?_
        refine gk_goV (wr := [((h 0), .inr (0, [.ref (h 1), .ref (h 2), .ref (h 3), .ref (h 4), .ref (h 5), .ref (h 9), .ref (h 13), .ref (h 17), .int ln, .int lo, .int kn])), ((h 1), .inl (cI, 2000, .inl tx)), ((h 2), .inl (cI, 2000, .inl cs)), ((h 3), .inl (cI, 2000, .inl (upd rl x2.toNatClampNeg (mm_findRule (mm_kindAt x2 cs lo) (tx x2.toNatClampNeg) fa2 la2 va2 mn2 fa3 la3 va3 mn3 b1 b2 b3 b4 b5 b6)))), ((h 4), .inl (cI, 5, .inl gv)), ((h 5), .inr (1, [.ref (h 6), .ref (h 7), .ref (h 8), .int mn1])), ((h 6), .inl (cI, 100, .inl fa1)), ((h 7), .inl (cI, 100, .inl la1)), ((h 8), .inl (cI, 100, .inl va1)), ((h 9), .inr (1, [.ref (h 10), .ref (h 11), .ref (h 12), .int mn2])), ((h 10), .inl (cI, 40, .inl fa2)), ((h 11), .inl (cI, 40, .inl la2)), ((h 12), .inl (cI, 40, .inl va2)), ((h 13), .inr (1, [.ref (h 14), .ref (h 15), .ref (h 16), .int mn3])), ((h 14), .inl (cI, 40, .inl fa3)), ((h 15), .inl (cI, 40, .inl la3)), ((h 16), .inl (cI, 40, .inl va3))]) hW [17] [0, 1, 2, 3, 4, 5, 6, 7, 8, 9, 10, 11, 12, 13, 14, 15, 16] rfl rfl (by decide) (by decide) (va_runVN (As := [.int (mm_kindAt x2 cs lo), .int (tx x2.toNatClampNeg)]) (rest := []) ⟨hx, hb, hml, hown, hts⟩ (c_bPass l D cI cL (h 17) b1 b2 b3 b4 b5 b6 (mm_kindAt x2 cs lo) (tx x2.toNatClampNeg) _) (gk_cwVN hts hW.2.2.2.2.2 w_99 w_100 w_101 w_39 k_bPass e_bPass rfl rfl ⟨Nat.le_of_ble_eq_true rfl, Nat.le_of_ble_eq_true rfl⟩) (gk_preV hW [17] rfl rfl rfl rfl) rfl rfl hl.1 rfl (lv_room (Nat.le_of_ble_eq_true rfl)) d_ruleAt_62 ⟨Nat.le_of_ble_eq_true rfl, Nat.le_of_ble_eq_true rfl⟩) (fun u H locs p_8 hW => ?_)
        obtain ⟨u_2, u_3, u_4, u_5, u_6, u_7⟩ := u
        have hW : gk_W D vwCl (gk_T cI cL) s A H locs (wd_P cI h tx cs (upd rl x2.toNatClampNeg (mm_findRule (mm_kindAt x2 cs lo) (tx x2.toNatClampNeg) fa2 la2 va2 mn2 fa3 la3 va3 mn3 b1 b2 b3 b4 b5 b6)) gv fa1 la1 va1 mn1 fa2 la2 va2 mn2 fa3 la3 va3 mn3 u_2 u_3 u_4 u_5 u_6 u_7 ln lo kn) := hW.re [0, 1, 2, 3, 4, 5, 6, 7, 8, 9, 10, 11, 12, 13, 14, 15, 16, 17] (by decide) rfl
        rw [← p_8] at heq
        dsimp only at heq
        refine lv_aload_n hx hb d_ruleAt_65 rfl (lv_at hl 1 rfl) ?_
        refine lv_iload_n hx hb d_ruleAt_66 rfl (lv_at hl 3 rfl) ?_
        refine lv_iconst (v := 1) hx hb d_ruleAt_67 (by decide) ?_
        refine lv_iadd hx hb d_ruleAt_68 ?_
        obtain ⟨zt_9, vt_9, et_9⟩ := gk_add v_x2 (show gk_v 1 1 from rfl) (by omega) (by omega)
        refine va_put (D := D) (ci := 0) (v := .int (x2 + 1)) (ty := .int) (C := R_P) (T := F_P) (N := 11) hx hb hts i_P t_P t_P_ok n_P hown hW.1 hW.2.1 hW.2.2.1 hW.2.2.2.1 0 rfl rfl 10 (by decide) (hts _ w_43) (fun _ h9 => h9) rfl (by decide +kernel) rfl rfl (Nat.le_of_ble_eq_true rfl) d_ruleAt_69 (fun H locs hP hD hS => ?_)
        have hW : gk_W D vwCl (gk_T cI cL) s A H locs (wd_P cI h tx cs (upd rl x2.toNatClampNeg (mm_findRule (mm_kindAt x2 cs lo) (tx x2.toNatClampNeg) fa2 la2 va2 mn2 fa3 la3 va3 mn3 b1 b2 b3 b4 b5 b6)) gv fa1 la1 va1 mn1 fa2 la2 va2 mn2 fa3 la3 va3 mn3 u_2 u_3 u_4 u_5 u_6 u_7 ln lo (x2 + 1)) := ⟨hW.1, hP, hD, hS, hW.2.2.2.2⟩
        refine lv_iinc (v := x2 + 1) (lv' := [(2, .int (x2 + 1)), (3, .int (mm_kindAt x2 cs lo)), (0, .ref (h 0)), (1, .int x1)]) hx hb d_ruleAt_72 hl (k := 3) rfl rfl (by decide) rfl (fun ls hl => ?_)
        obtain ⟨zt_10, vt_10, et_10⟩ := gk_add v_x2 (show gk_v 1 1 from rfl) (by omega) (by omega)
        refine lv_goto (tgt := 23) hx hb d_ruleAt_75 (by decide) ?_
        exact ih (x2 + 1) (upd rl x2.toNatClampNeg (mm_findRule (mm_kindAt x2 cs lo) (tx x2.toNatClampNeg) fa2 la2 va2 mn2 fa3 la3 va3 mn3 b1 b2 b3 b4 b5 b6)) u_2 u_3 u_4 u_5 u_6 u_7 (x2 + 1) H locs ls zt_10 vt_10 (by omega) (by omega) (by omega) heq hW (lv_sub hl [2, 3, 0] rfl)
  refine lv_iload_n hx hb d_ruleAt_0 rfl (lv_at hl 1 rfl) ?_
  refine lv_if_gt (tgt := 7) hx hb d_ruleAt_1 (by decide) (fun c_11 => ?_) (fun c_11 => ?_)
  · replace heq := (if_pos c_11).symm.trans heq
    have ic_11 := gk_lt (show gk_v 0 0 from rfl) v_x1 c_11
    refine lv_iload_n hx hb d_ruleAt_7 rfl (lv_at hl 1 rfl) ?_
    refine lv_aload_n hx hb d_ruleAt_8 rfl (lv_at hl 0 rfl) ?_
    refine va_get (D := D) (C := R_P) (T := F_P) (N := 11) hx hb hts i_P hown hW.1 hW.2.1 0 rfl rfl 8 (by decide) (hts _ w_42) (fun _ h9 => h9) rfl d_ruleAt_9 ?_
    refine lv_icmp_lt (tgt := 18) hx hb d_ruleAt_12 (by decide) (fun c_12 => ?_) (fun c_12 => ?_)
    · replace heq := (if_pos c_12).symm.trans heq
      have ic_12 := gk_lt v_x1 v_ln c_12
      refine lv_aload_n hx hb d_ruleAt_18 rfl (lv_at hl 0 rfl) ?_
      refine va_get (D := D) (C := R_P) (T := F_P) (N := 11) hx hb hts i_P hown hW.1 hW.2.1 0 rfl rfl 10 (by decide) (hts _ w_43) (fun _ h9 => h9) rfl d_ruleAt_19 ?_
      refine lv_istore_n (lv' := [(2, .int kn), (0, .ref (h 0)), (1, .int x1)]) hx hb d_ruleAt_22 rfl hl (by decide) rfl (fun ls hl => ?_)
      exact L23 2001 kn rl b1 b2 b3 b4 b5 b6 kn H locs ls z_kn v_kn (by omega) (by omega) (by omega) heq hW (lv_sub hl [1, 2, 0] rfl)
    · replace heq := (if_neg c_12).symm.trans heq
      have ic_12 := gk_nlt v_x1 v_ln c_12
      refine lv_bipush (v := 30) hx hb d_ruleAt_15 (by decide) ?_
      exact X _ (rl, b1, b2, b3, b4, b5, b6, kn) H locs 0 0 17 ls heq hW d_ruleAt_17 rfl (Nat.le_of_ble_eq_true rfl) (Nat.le_of_ble_eq_true rfl)
  · replace heq := (if_neg c_11).symm.trans heq
    have ic_11 := gk_nlt (show gk_v 0 0 from rfl) v_x1 c_11
    refine lv_bipush (v := 20) hx hb d_ruleAt_4 (by decide) ?_
    exact X _ (rl, b1, b2, b3, b4, b5, b6, kn) H locs 0 0 6 ls heq hW d_ruleAt_6 rfl (Nat.le_of_ble_eq_true rfl) (Nat.le_of_ble_eq_true rfl)
def mm_breaksAt (x1 : Int32) (tx cs rl fa2 la2 va2 : Nat → Int32) (mn2 : Int32) (fa3 la3 va3 : Nat → Int32) (mn3 b1 b2 b3 b4 b5 b6 ln lo kn : Int32) : Int32 × (Nat → Int32) × Int32 × Int32 × Int32 × Int32 × Int32 × Int32 × Int32 := match (mm_ruleAt x1 tx cs rl fa2 la2 va2 mn2 fa3 la3 va3 mn3 b1 b2 b3 b4 b5 b6 ln lo kn) with | (r_1, u_2, u_3, u_4, u_5, u_6, u_7, u_8, u_9) => if r_1 = 30 then (2, u_2, u_3, u_4, u_5, u_6, u_7, u_8, u_9) else (if r_1 = 40 then (2, u_2, u_3, u_4, u_5, u_6, u_7, u_8, u_9) else (if r_1 = 50 then (if (mm_isBetween x1 cs ln lo) = 0 then (2, u_2, u_3, u_4, u_5, u_6, u_7, u_8, u_9) else (0, u_2, u_3, u_4, u_5, u_6, u_7, u_8, u_9)) else (if r_1 = 80 then (1, u_2, u_3, u_4, u_5, u_6, u_7, u_8, u_9) else (if r_1 = 180 then (1, u_2, u_3, u_4, u_5, u_6, u_7, u_8, u_9) else (if r_1 = 200 then (1, u_2, u_3, u_4, u_5, u_6, u_7, u_8, u_9) else (if r_1 = 310 then (1, u_2, u_3, u_4, u_5, u_6, u_7, u_8, u_9) else (0, u_2, u_3, u_4, u_5, u_6, u_7, u_8, u_9)))))))
theorem mm_breaksAt_2 (x1 : Int32) (tx cs rl fa2 la2 va2 : Nat → Int32) (mn2 : Int32) (fa3 la3 va3 : Nat → Int32) (mn3 b1 b2 b3 b4 b5 b6 ln lo kn : Int32) : (mm_breaksAt x1 tx cs rl fa2 la2 va2 mn2 fa3 la3 va3 mn3 b1 b2 b3 b4 b5 b6 ln lo kn).2 = (mm_ruleAt x1 tx cs rl fa2 la2 va2 mn2 fa3 la3 va3 mn3 b1 b2 b3 b4 b5 b6 ln lo kn).2 := by
  rw [mm_breaksAt]
  obtain ⟨⟨r, u1, u2, u3, u4, u5, u6, u7, u8⟩, hu⟩ : ∃ t, mm_ruleAt x1 tx cs rl fa2 la2 va2 mn2 fa3 la3 va3 mn3 b1 b2 b3 b4 b5 b6 ln lo kn = t := ⟨_, rfl⟩
  rw [hu]
  dsimp only
  repeat' split
  all_goals rfl
theorem mm_breaksAt_kn {x1 : Int32} {tx cs rl fa2 la2 va2 : Nat → Int32} {mn2 : Int32} {fa3 la3 va3 : Nat → Int32} {mn3 b1 b2 b3 b4 b5 b6 ln lo kn : Int32} {r : Int32} {u1 : Nat → Int32} {u2 u3 u4 u5 u6 u7 u8 : Int32} {zl zk : Int} (hp : (r, u1, u2, u3, u4, u5, u6, u7, u8) = mm_breaksAt x1 tx cs rl fa2 la2 va2 mn2 fa3 la3 va3 mn3 b1 b2 b3 b4 b5 b6 ln lo kn) (vl : gk_v ln zl) (vk : gk_v kn zk) (hl : 0 ≤ zl ∧ zl ≤ 2000) (hk : 0 ≤ zk ∧ zk ≤ zl) : ∃ z : Int, gk_v u8 z ∧ 0 ≤ z ∧ z ≤ zl := by
  have h := mm_ruleAt_kn x1 tx cs rl fa2 la2 va2 mn2 fa3 la3 va3 mn3 b1 b2 b3 b4 b5 b6 ln lo kn vl vk hl hk
  rw [← mm_breaksAt_2, ← hp] at h
  exact h
def rm_breaksAt : Room := { frames := 5, cells := 0, slots := 0, locals := 114 }
set_option maxHeartbeats 4000000 in
set_option maxRecDepth 100000 in
theorem c_breaksAt (l : Launch) (D : va_G) (cI : ClassId) (cL : ClassId × ClassId) (h : Nat → Nat) (tx cs rl gv fa1 la1 va1 : Nat → Int32) (mn1 : Int32) (fa2 la2 va2 : Nat → Int32) (mn2 : Int32) (fa3 la3 va3 : Nat → Int32) (mn3 b1 b2 b3 b4 b5 b6 ln lo kn x1 : Int32) (z_kn : Int) (v_kn : gk_v kn z_kn) (z_ln : Int) (v_ln : gk_v ln z_ln) (z_mn2 : Int) (v_mn2 : gk_v mn2 z_mn2) (z_mn3 : Int) (v_mn3 : gk_v mn3 z_mn3) (hln : 0 ≤ z_ln ∧ z_ln ≤ 2000) (hkn : 0 ≤ z_kn ∧ z_kn ≤ z_ln) (hm2 : 0 ≤ z_mn2 ∧ z_mn2 ≤ 40) (hm3 : 0 ≤ z_mn3 ∧ z_mn3 ≤ 40) : gk_I l y_breaksAt (.code y_breaksAt b_breaksAt 2 (some .int) :: wA) rm_breaksAt D vwCl (gk_T cI cL) [.ref (h 0), .int x1] (wd_P cI h tx cs rl gv fa1 la1 va1 mn1 fa2 la2 va2 mn2 fa3 la3 va3 mn3 b1 b2 b3 b4 b5 b6 ln lo kn) (fun (r : Int32) (u : (Nat → Int32) × Int32 × Int32 × Int32 × Int32 × Int32 × Int32 × Int32) => (r, u) = mm_breaksAt x1 tx cs rl fa2 la2 va2 mn2 fa3 la3 va3 mn3 b1 b2 b3 b4 b5 b6 ln lo kn) (fun u => (wd_P cI h tx cs u.1 gv fa1 la1 va1 mn1 fa2 la2 va2 mn2 fa3 la3 va3 mn3 u.2.1 u.2.2.1 u.2.2.2.1 u.2.2.2.2.1 u.2.2.2.2.2.1 u.2.2.2.2.2.2.1 ln lo u.2.2.2.2.2.2.2)) 0 0 := by
  refine gk_I.of (by decide) (Nat.le_of_ble_eq_true rfl) ?_
  intro p e s m below meth c A ls Q H locs hx hb hml hown hts hW hl X
  have hl : lv_has ls 2 [(0, .ref (h 0)), (1, .int x1)] := hl
  obtain ⟨tgt, heq⟩ : ∃ t, mm_breaksAt x1 tx cs rl fa2 la2 va2 mn2 fa3 la3 va3 mn3 b1 b2 b3 b4 b5 b6 ln lo kn = t := ⟨_, rfl⟩
  rw [heq] at X
  rw [mm_breaksAt] at heq
  obtain ⟨z_x1, v_x1⟩ := gk_vex x1
  obtain ⟨z_b1, v_b1⟩ := gk_vex b1
  obtain ⟨z_b2, v_b2⟩ := gk_vex b2
  obtain ⟨z_b3, v_b3⟩ := gk_vex b3
  obtain ⟨z_b4, v_b4⟩ := gk_vex b4
  obtain ⟨z_b5, v_b5⟩ := gk_vex b5
  obtain ⟨z_b6, v_b6⟩ := gk_vex b6
  obtain ⟨z_lo, v_lo⟩ := gk_vex lo
  refine lv_aload_n hx hb d_breaksAt_0 rfl (lv_at hl 0 rfl) ?_
  refine lv_iload_n hx hb d_breaksAt_1 rfl (lv_at hl 1 rfl) ?_
  refine gk_goI (wr := []) hW [0, 1, 2, 3, 4, 5, 6, 7, 8, 9, 10, 11, 12, 13, 14, 15, 16, 17] [] rfl rfl (by decide) (by decide) (va_runV (As := [.int x1]) (rest := []) ⟨hx, hb, hml, hown, hts⟩ (c_ruleAt l D cI cL h tx cs rl gv fa1 la1 va1 mn1 fa2 la2 va2 mn2 fa3 la3 va3 mn3 b1 b2 b3 b4 b5 b6 ln lo kn x1 z_kn v_kn z_ln v_ln z_mn2 v_mn2 z_mn3 v_mn3 (by omega) (by omega) (by omega) (by omega) _) (gk_cwV hts w_102 w_103 w_104 w_3 k_ruleAt rfl e_ruleAt rfl rfl ⟨Nat.le_of_ble_eq_true rfl, Nat.le_of_ble_eq_true rfl⟩) (gk_preV hW [0, 1, 2, 3, 4, 5, 6, 7, 8, 9, 10, 11, 12, 13, 14, 15, 16, 17] rfl rfl rfl rfl) rfl rfl hl.1 rfl (lv_room (Nat.le_of_ble_eq_true rfl)) d_breaksAt_2 ⟨Nat.le_of_ble_eq_true rfl, Nat.le_of_ble_eq_true rfl⟩) (fun r_1 u H locs p_10 hW => ?_)
  obtain ⟨u_2, u_3, u_4, u_5, u_6, u_7, u_8, u_9⟩ := u
  have hW : gk_W D vwCl (gk_T cI cL) s A H locs (wd_P cI h tx cs u_2 gv fa1 la1 va1 mn1 fa2 la2 va2 mn2 fa3 la3 va3 mn3 u_3 u_4 u_5 u_6 u_7 u_8 ln lo u_9) := hW.re [0, 1, 2, 3, 4, 5, 6, 7, 8, 9, 10, 11, 12, 13, 14, 15, 16, 17] (by decide) rfl
  rw [← p_10] at heq
  dsimp only at heq
  by_cases c_11 : r_1 = 30
  · replace heq := (if_pos c_11).symm.trans heq
    refine lv_lookup (off := 67) (tgt := 72) hx hb d_breaksAt_5 (by decide) (by rw [c_11]; rfl) (by decide) ?_
    refine lv_iconst (v := 2) hx hb d_breaksAt_72 (by decide) ?_
    exact X _ (u_2, u_3, u_4, u_5, u_6, u_7, u_8, u_9) H locs 0 0 73 ls heq hW d_breaksAt_73 rfl (Nat.le_of_ble_eq_true rfl) (Nat.le_of_ble_eq_true rfl)
  replace heq := (if_neg c_11).symm.trans heq
  by_cases c_12 : r_1 = 40
  · replace heq := (if_pos c_12).symm.trans heq
    refine lv_lookup (off := 67) (tgt := 72) hx hb d_breaksAt_5 (by decide) (by rw [c_12]; rfl) (by decide) ?_
    refine lv_iconst (v := 2) hx hb d_breaksAt_72 (by decide) ?_
    exact X _ (u_2, u_3, u_4, u_5, u_6, u_7, u_8, u_9) H locs 0 0 73 ls heq hW d_breaksAt_73 rfl (Nat.le_of_ble_eq_true rfl) (Nat.le_of_ble_eq_true rfl)
  replace heq := (if_neg c_12).symm.trans heq
  by_cases c_13 : r_1 = 50
  · replace heq := (if_pos c_13).symm.trans heq
    refine lv_lookup (off := 69) (tgt := 74) hx hb d_breaksAt_5 (by decide) (by rw [c_13]; rfl) (by decide) ?_
    refine lv_aload_n hx hb d_breaksAt_74 rfl (lv_at hl 0 rfl) ?_
    refine lv_iload_n hx hb d_breaksAt_75 rfl (lv_at hl 1 rfl) ?_
    refine gk_goR hW [0, 1, 2, 3, 4, 5, 6, 7, 8, 9, 10, 11, 12, 13, 14, 15, 16, 17] rfl (va_runV (As := [.int x1]) (rest := []) ⟨hx, hb, hml, hown, hts⟩ (c_isBetween l D cI cL h tx cs u_2 gv fa1 la1 va1 mn1 fa2 la2 va2 mn2 fa3 la3 va3 mn3 u_3 u_4 u_5 u_6 u_7 u_8 ln lo u_9 x1 z_ln v_ln (by omega) _) (gk_cwV hts w_105 w_106 w_107 w_3 k_isBetween rfl e_isBetween rfl rfl ⟨Nat.le_of_ble_eq_true rfl, Nat.le_of_ble_eq_true rfl⟩) (gk_preV hW [0, 1, 2, 3, 4, 5, 6, 7, 8, 9, 10, 11, 12, 13, 14, 15, 16, 17] rfl rfl rfl rfl) rfl rfl hl.1 rfl (lv_room (Nat.le_of_ble_eq_true rfl)) d_breaksAt_76 ⟨Nat.le_of_ble_eq_true rfl, Nat.le_of_ble_eq_true rfl⟩) (fun H locs hW => ?_)
    refine lv_if_eq (tgt := 86) hx hb d_breaksAt_79 (by decide) (fun c_14 => ?_) (fun c_14 => ?_)
    · replace heq := (if_pos c_14).symm.trans heq
      refine lv_iconst (v := 2) hx hb d_breaksAt_86 (by decide) ?_
      exact X _ (u_2, u_3, u_4, u_5, u_6, u_7, u_8, u_9) H locs 0 0 87 ls heq hW d_breaksAt_87 rfl (Nat.le_of_ble_eq_true rfl) (Nat.le_of_ble_eq_true rfl)
    · replace heq := (if_neg c_14).symm.trans heq
      refine lv_iconst (v := 0) hx hb d_breaksAt_82 (by decide) ?_
      refine lv_goto (tgt := 87) hx hb d_breaksAt_83 (by decide) ?_
      exact X _ (u_2, u_3, u_4, u_5, u_6, u_7, u_8, u_9) H locs 0 0 87 ls heq hW d_breaksAt_87 rfl (Nat.le_of_ble_eq_true rfl) (Nat.le_of_ble_eq_true rfl)
  replace heq := (if_neg c_13).symm.trans heq
  by_cases c_15 : r_1 = 80
  · replace heq := (if_pos c_15).symm.trans heq
    refine lv_lookup (off := 83) (tgt := 88) hx hb d_breaksAt_5 (by decide) (by rw [c_15]; rfl) (by decide) ?_
    refine lv_iconst (v := 1) hx hb d_breaksAt_88 (by decide) ?_
    exact X _ (u_2, u_3, u_4, u_5, u_6, u_7, u_8, u_9) H locs 0 0 89 ls heq hW d_breaksAt_89 rfl (Nat.le_of_ble_eq_true rfl) (Nat.le_of_ble_eq_true rfl)
  replace heq := (if_neg c_15).symm.trans heq
  by_cases c_16 : r_1 = 180
  · replace heq := (if_pos c_16).symm.trans heq
    refine lv_lookup (off := 83) (tgt := 88) hx hb d_breaksAt_5 (by decide) (by rw [c_16]; rfl) (by decide) ?_
    refine lv_iconst (v := 1) hx hb d_breaksAt_88 (by decide) ?_
    exact X _ (u_2, u_3, u_4, u_5, u_6, u_7, u_8, u_9) H locs 0 0 89 ls heq hW d_breaksAt_89 rfl (Nat.le_of_ble_eq_true rfl) (Nat.le_of_ble_eq_true rfl)
  replace heq := (if_neg c_16).symm.trans heq
  by_cases c_17 : r_1 = 200
  · replace heq := (if_pos c_17).symm.trans heq
    refine lv_lookup (off := 83) (tgt := 88) hx hb d_breaksAt_5 (by decide) (by rw [c_17]; rfl) (by decide) ?_
    refine lv_iconst (v := 1) hx hb d_breaksAt_88 (by decide) ?_
    exact X _ (u_2, u_3, u_4, u_5, u_6, u_7, u_8, u_9) H locs 0 0 89 ls heq hW d_breaksAt_89 rfl (Nat.le_of_ble_eq_true rfl) (Nat.le_of_ble_eq_true rfl)
  replace heq := (if_neg c_17).symm.trans heq
  by_cases c_18 : r_1 = 310
  · replace heq := (if_pos c_18).symm.trans heq
    refine lv_lookup (off := 83) (tgt := 88) hx hb d_breaksAt_5 (by decide) (by rw [c_18]; rfl) (by decide) ?_
    refine lv_iconst (v := 1) hx hb d_breaksAt_88 (by decide) ?_
    exact X _ (u_2, u_3, u_4, u_5, u_6, u_7, u_8, u_9) H locs 0 0 89 ls heq hW d_breaksAt_89 rfl (Nat.le_of_ble_eq_true rfl) (Nat.le_of_ble_eq_true rfl)
  replace heq := (if_neg c_18).symm.trans heq
  refine lv_lookup (off := 85) (tgt := 90) hx hb d_breaksAt_5 (by decide) ((lv_osw (a := 30) c_11 rfl).trans ((lv_osw (a := 40) c_12 rfl).trans ((lv_osw (a := 50) c_13 rfl).trans ((lv_osw (a := 80) c_15 rfl).trans ((lv_osw (a := 180) c_16 rfl).trans ((lv_osw (a := 200) c_17 rfl).trans ((lv_osw (a := 310) c_18 rfl).trans (rfl)))))))) (by decide) ?_
  refine lv_iconst (v := 0) hx hb d_breaksAt_90 (by decide) ?_
  exact X _ (u_2, u_3, u_4, u_5, u_6, u_7, u_8, u_9) H locs 0 0 91 ls heq hW d_breaksAt_91 rfl (Nat.le_of_ble_eq_true rfl) (Nat.le_of_ble_eq_true rfl)
