def mm_mProperty (x1 x2 x3 fl rn : Int32) (fs lt kk : Nat → Int32) : Int32 × Int32 × (Nat → Int32) × (Nat → Int32) × (Nat → Int32) := if (mm_mIsChar x1) = 0 then (1, rn, fs, lt, kk) else (if (mm_mIsChar x2) = 0 then (1, rn, fs, lt, kk) else (if x2 < x1 then (1, rn, fs, lt, kk) else (if x3 < 0 then (1, rn, fs, lt, kk) else (if 43 < x3 then (1, rn, fs, lt, kk) else (if rn = 100 then (2, rn, fs, lt, kk) else (0, rn + 1, upd fs rn.toNatClampNeg x1, upd lt rn.toNatClampNeg x2, upd kk rn.toNatClampNeg x3))))))
def rm_mProperty : Room := { frames := 1, cells := 0, slots := 0, locals := 21 }
set_option maxHeartbeats 4000000 in
set_option maxRecDepth 100000 in
theorem c_mProperty (l : Launch) (D : va_G) (cI : ClassId) (cL cL : ClassId × ClassId) (g : Nat → Nat) (fl rn : Int32) (fs lt kk mk mf ml ma : Nat → Int32) (il sz : Int32) (tt fh : Nat → Int32) (hd x1 x2 x3 : Int32) (z_rn : Int) (v_rn : gk_v rn z_rn) (hrn : 0 ≤ z_rn ∧ z_rn ≤ 100) : gk_V l y_mProperty (.code y_mProperty b_mProperty 5 none :: wA) rm_mProperty D vwCl (gk_T cI cL) [.ref (g 0), .int x1, .int x2, .int x3] (wd_M cI cL g fl rn fs lt kk mk mf ml ma il sz tt fh hd) (fun (u : Int32 × Int32 × (Nat → Int32) × (Nat → Int32) × (Nat → Int32)) => u = mm_mProperty x1 x2 x3 fl rn fs lt kk) (fun u => (wd_M cI cL g u.1 u.2.1 u.2.2.1 u.2.2.2.1 u.2.2.2.2 mk mf ml ma il sz tt fh hd)) 0 0 := by
  refine gk_V.of (by decide) (Nat.le_of_ble_eq_true rfl) ?_
  intro p e s m below meth c A ls Q H locs hx hb hml hown hts hin hW hl X
  have hl : lv_has ls 5 [(0, .ref (g 0)), (1, .int x1), (2, .int x2), (3, .int x3)] := hl
  obtain ⟨tgt, heq⟩ : ∃ t, mm_mProperty x1 x2 x3 fl rn fs lt kk = t := ⟨_, rfl⟩
  rw [heq] at X
  rw [mm_mProperty] at heq
  obtain ⟨z_x1, v_x1⟩ := gk_vex x1
  obtain ⟨z_x2, v_x2⟩ := gk_vex x2
  obtain ⟨z_x3, v_x3⟩ := gk_vex x3
  refine lv_iload_n hx hb d_mProperty_0 rfl (lv_at hl 1 rfl) ?_
  refine gk_goR hW [] rfl (va_runS (As := [.int x1]) (rest := []) ⟨hx, hb, hml, hown, hts⟩ (c_mIsChar l D cI cL x1 _) (gk_cwS hts w_143 w_144 w_145 k_mIsChar rfl e_mIsChar rfl rfl ⟨Nat.le_of_ble_eq_true rfl, Nat.le_of_ble_eq_true rfl⟩) (gk_pre hW [] rfl rfl) rfl rfl hl.1 rfl (lv_room (Nat.le_of_ble_eq_true rfl)) d_mProperty_1 ⟨Nat.le_of_ble_eq_true rfl, Nat.le_of_ble_eq_true rfl⟩) (fun H locs hW => ?_)
  refine lv_if_eq (tgt := 33) hx hb d_mProperty_4 (by decide) (fun c_1 => ?_) (fun c_1 => ?_)
  · replace heq := (if_pos c_1).symm.trans heq
    refine lv_iconst (v := 0) hx hb d_mProperty_33 (by decide) ?_
    refine lv_istore (lv' := [(4, .int 0), (0, .ref (g 0)), (1, .int x1), (2, .int x2), (3, .int x3)]) hx hb d_mProperty_34 hl (by decide) rfl (fun ls hl => ?_)
    refine lv_aload_n hx hb d_mProperty_36 rfl (lv_at hl 1 rfl) ?_
    refine lv_iload hx hb d_mProperty_37 (lv_at hl 0 rfl) ?_
    refine lv_if_ne (tgt := 46) hx hb d_mProperty_39 (by decide) (fun c_2 => absurd c_2 (by decide)) (fun _ => ?_)
    refine lv_iconst (v := 1) hx hb d_mProperty_42 (by decide) ?_
    refine lv_goto (tgt := 60) hx hb d_mProperty_43 (by decide) ?_
    refine gk_goI (wr := []) hW [0, 1, 2, 3, 4, 5, 6, 7, 8, 9] [] rfl rfl (by decide) (by decide) (va_runV (As := [.int 1]) (rest := []) ⟨hx, hb, hml, hown, hts⟩ (c_mRefused l D cI cL cL g fl rn fs lt kk mk mf ml ma il sz tt fh hd 1 _) (gk_cwV hts w_146 w_147 w_148 w_145 k_mRefused rfl e_mRefused rfl rfl ⟨Nat.le_of_ble_eq_true rfl, Nat.le_of_ble_eq_true rfl⟩) (gk_preV hW [0, 1, 2, 3, 4, 5, 6, 7, 8, 9] rfl rfl rfl rfl) rfl rfl hl.1 rfl (lv_room (Nat.le_of_ble_eq_true rfl)) d_mProperty_60 ⟨Nat.le_of_ble_eq_true rfl, Nat.le_of_ble_eq_true rfl⟩) (fun r_3 u H locs p_5 hW => ?_)
    obtain ⟨rfl, rfl⟩ : r_3 = 1 ∧ u = 1 := Prod.mk.inj (p_5.trans (show (mm_mRefused 1 fl) = (1, 1) from rfl))
    have hW : gk_W D vwCl (gk_T cI cL) s A H locs (wd_M cI cL g 1 rn fs lt kk mk mf ml ma il sz tt fh hd) := hW.re [0, 1, 2, 3, 4, 5, 6, 7, 8, 9] (by decide) rfl
    refine lv_if_ne (tgt := 106) hx hb d_mProperty_63 (by decide) (fun _ => ?_) (fun c_6 => absurd c_6 (by decide))
    exact X (1, rn, fs, lt, kk) H locs 0 0 106 ls heq hW d_mProperty_106 (Nat.le_of_ble_eq_true rfl) (Nat.le_of_ble_eq_true rfl)
  · replace heq := (if_neg c_1).symm.trans heq
    refine lv_iload_n hx hb d_mProperty_7 rfl (lv_at hl 2 rfl) ?_
    refine gk_goR hW [] rfl (va_runS (As := [.int x2]) (rest := []) ⟨hx, hb, hml, hown, hts⟩ (c_mIsChar l D cI cL x2 _) (gk_cwS hts w_143 w_144 w_145 k_mIsChar rfl e_mIsChar rfl rfl ⟨Nat.le_of_ble_eq_true rfl, Nat.le_of_ble_eq_true rfl⟩) (gk_pre hW [] rfl rfl) rfl rfl hl.1 rfl (lv_room (Nat.le_of_ble_eq_true rfl)) d_mProperty_8 ⟨Nat.le_of_ble_eq_true rfl, Nat.le_of_ble_eq_true rfl⟩) (fun H locs hW => ?_)
    refine lv_if_eq (tgt := 33) hx hb d_mProperty_11 (by decide) (fun c_7 => ?_) (fun c_7 => ?_)
    · replace heq := (if_pos c_7).symm.trans heq
      refine lv_iconst (v := 0) hx hb d_mProperty_33 (by decide) ?_
      refine lv_istore (lv' := [(4, .int 0), (0, .ref (g 0)), (1, .int x1), (2, .int x2), (3, .int x3)]) hx hb d_mProperty_34 hl (by decide) rfl (fun ls hl => ?_)
      refine lv_aload_n hx hb d_mProperty_36 rfl (lv_at hl 1 rfl) ?_
      refine lv_iload hx hb d_mProperty_37 (lv_at hl 0 rfl) ?_
      refine lv_if_ne (tgt := 46) hx hb d_mProperty_39 (by decide) (fun c_8 => absurd c_8 (by decide)) (fun _ => ?_)
      refine lv_iconst (v := 1) hx hb d_mProperty_42 (by decide) ?_
      refine lv_goto (tgt := 60) hx hb d_mProperty_43 (by decide) ?_
      refine gk_goI (wr := []) hW [0, 1, 2, 3, 4, 5, 6, 7, 8, 9] [] rfl rfl (by decide) (by decide) (va_runV (As := [.int 1]) (rest := []) ⟨hx, hb, hml, hown, hts⟩ (c_mRefused l D cI cL cL g fl rn fs lt kk mk mf ml ma il sz tt fh hd 1 _) (gk_cwV hts w_146 w_147 w_148 w_145 k_mRefused rfl e_mRefused rfl rfl ⟨Nat.le_of_ble_eq_true rfl, Nat.le_of_ble_eq_true rfl⟩) (gk_preV hW [0, 1, 2, 3, 4, 5, 6, 7, 8, 9] rfl rfl rfl rfl) rfl rfl hl.1 rfl (lv_room (Nat.le_of_ble_eq_true rfl)) d_mProperty_60 ⟨Nat.le_of_ble_eq_true rfl, Nat.le_of_ble_eq_true rfl⟩) (fun r_9 u H locs p_11 hW => ?_)
      obtain ⟨rfl, rfl⟩ : r_9 = 1 ∧ u = 1 := Prod.mk.inj (p_11.trans (show (mm_mRefused 1 fl) = (1, 1) from rfl))
      have hW : gk_W D vwCl (gk_T cI cL) s A H locs (wd_M cI cL g 1 rn fs lt kk mk mf ml ma il sz tt fh hd) := hW.re [0, 1, 2, 3, 4, 5, 6, 7, 8, 9] (by decide) rfl
      refine lv_if_ne (tgt := 106) hx hb d_mProperty_63 (by decide) (fun _ => ?_) (fun c_12 => absurd c_12 (by decide))
      exact X (1, rn, fs, lt, kk) H locs 0 0 106 ls heq hW d_mProperty_106 (Nat.le_of_ble_eq_true rfl) (Nat.le_of_ble_eq_true rfl)
    · replace heq := (if_neg c_7).symm.trans heq
      refine lv_iload_n hx hb d_mProperty_14 rfl (lv_at hl 1 rfl) ?_
      refine lv_iload_n hx hb d_mProperty_15 rfl (lv_at hl 2 rfl) ?_
      refine lv_icmp_gt (tgt := 33) hx hb d_mProperty_16 (by decide) (fun c_13 => ?_) (fun c_13 => ?_)
      · replace heq := (if_pos c_13).symm.trans heq
        have ic_13 := gk_lt v_x2 v_x1 c_13
        refine lv_iconst (v := 0) hx hb d_mProperty_33 (by decide) ?_
        refine lv_istore (lv' := [(4, .int 0), (0, .ref (g 0)), (1, .int x1), (2, .int x2), (3, .int x3)]) hx hb d_mProperty_34 hl (by decide) rfl (fun ls hl => ?_)
        refine lv_aload_n hx hb d_mProperty_36 rfl (lv_at hl 1 rfl) ?_
        refine lv_iload hx hb d_mProperty_37 (lv_at hl 0 rfl) ?_
        refine lv_if_ne (tgt := 46) hx hb d_mProperty_39 (by decide) (fun c_14 => absurd c_14 (by decide)) (fun _ => ?_)
        refine lv_iconst (v := 1) hx hb d_mProperty_42 (by decide) ?_
        refine lv_goto (tgt := 60) hx hb d_mProperty_43 (by decide) ?_
        refine gk_goI (wr := []) hW [0, 1, 2, 3, 4, 5, 6, 7, 8, 9] [] rfl rfl (by decide) (by decide) (va_runV (As := [.int 1]) (rest := []) ⟨hx, hb, hml, hown, hts⟩ (c_mRefused l D cI cL cL g fl rn fs lt kk mk mf ml ma il sz tt fh hd 1 _) (gk_cwV hts w_146 w_147 w_148 w_145 k_mRefused rfl e_mRefused rfl rfl ⟨Nat.le_of_ble_eq_true rfl, Nat.le_of_ble_eq_true rfl⟩) (gk_preV hW [0, 1, 2, 3, 4, 5, 6, 7, 8, 9] rfl rfl rfl rfl) rfl rfl hl.1 rfl (lv_room (Nat.le_of_ble_eq_true rfl)) d_mProperty_60 ⟨Nat.le_of_ble_eq_true rfl, Nat.le_of_ble_eq_true rfl⟩) (fun r_15 u H locs p_17 hW => ?_)
        obtain ⟨rfl, rfl⟩ : r_15 = 1 ∧ u = 1 := Prod.mk.inj (p_17.trans (show (mm_mRefused 1 fl) = (1, 1) from rfl))
        have hW : gk_W D vwCl (gk_T cI cL) s A H locs (wd_M cI cL g 1 rn fs lt kk mk mf ml ma il sz tt fh hd) := hW.re [0, 1, 2, 3, 4, 5, 6, 7, 8, 9] (by decide) rfl
        refine lv_if_ne (tgt := 106) hx hb d_mProperty_63 (by decide) (fun _ => ?_) (fun c_18 => absurd c_18 (by decide))
        exact X (1, rn, fs, lt, kk) H locs 0 0 106 ls heq hW d_mProperty_106 (Nat.le_of_ble_eq_true rfl) (Nat.le_of_ble_eq_true rfl)
      · replace heq := (if_neg c_13).symm.trans heq
        have ic_13 := gk_nlt v_x2 v_x1 c_13
        refine lv_iload_n hx hb d_mProperty_19 rfl (lv_at hl 3 rfl) ?_
        refine lv_if_lt (tgt := 33) hx hb d_mProperty_20 (by decide) (fun c_19 => ?_) (fun c_19 => ?_)
        · replace heq := (if_pos c_19).symm.trans heq
          have ic_19 := gk_lt v_x3 (show gk_v 0 0 from rfl) c_19
          refine lv_iconst (v := 0) hx hb d_mProperty_33 (by decide) ?_
          refine lv_istore (lv' := [(4, .int 0), (0, .ref (g 0)), (1, .int x1), (2, .int x2), (3, .int x3)]) hx hb d_mProperty_34 hl (by decide) rfl (fun ls hl => ?_)
          refine lv_aload_n hx hb d_mProperty_36 rfl (lv_at hl 1 rfl) ?_
          refine lv_iload hx hb d_mProperty_37 (lv_at hl 0 rfl) ?_
          refine lv_if_ne (tgt := 46) hx hb d_mProperty_39 (by decide) (fun c_20 => absurd c_20 (by decide)) (fun _ => ?_)
          refine lv_iconst (v := 1) hx hb d_mProperty_42 (by decide) ?_
          refine lv_goto (tgt := 60) hx hb d_mProperty_43 (by decide) ?_
          refine gk_goI (wr := []) hW [0, 1, 2, 3, 4, 5, 6, 7, 8, 9] [] rfl rfl (by decide) (by decide) (va_runV (As := [.int 1]) (rest := []) ⟨hx, hb, hml, hown, hts⟩ (c_mRefused l D cI cL cL g fl rn fs lt kk mk mf ml ma il sz tt fh hd 1 _) (gk_cwV hts w_146 w_147 w_148 w_145 k_mRefused rfl e_mRefused rfl rfl ⟨Nat.le_of_ble_eq_true rfl, Nat.le_of_ble_eq_true rfl⟩) (gk_preV hW [0, 1, 2, 3, 4, 5, 6, 7, 8, 9] rfl rfl rfl rfl) rfl rfl hl.1 rfl (lv_room (Nat.le_of_ble_eq_true rfl)) d_mProperty_60 ⟨Nat.le_of_ble_eq_true rfl, Nat.le_of_ble_eq_true rfl⟩) (fun r_21 u H locs p_23 hW => ?_)
          obtain ⟨rfl, rfl⟩ : r_21 = 1 ∧ u = 1 := Prod.mk.inj (p_23.trans (show (mm_mRefused 1 fl) = (1, 1) from rfl))
          have hW : gk_W D vwCl (gk_T cI cL) s A H locs (wd_M cI cL g 1 rn fs lt kk mk mf ml ma il sz tt fh hd) := hW.re [0, 1, 2, 3, 4, 5, 6, 7, 8, 9] (by decide) rfl
          refine lv_if_ne (tgt := 106) hx hb d_mProperty_63 (by decide) (fun _ => ?_) (fun c_24 => absurd c_24 (by decide))
          exact X (1, rn, fs, lt, kk) H locs 0 0 106 ls heq hW d_mProperty_106 (Nat.le_of_ble_eq_true rfl) (Nat.le_of_ble_eq_true rfl)
        · replace heq := (if_neg c_19).symm.trans heq
          have ic_19 := gk_nlt v_x3 (show gk_v 0 0 from rfl) c_19
          refine lv_iload_n hx hb d_mProperty_23 rfl (lv_at hl 3 rfl) ?_
          refine lv_bipush (v := 43) hx hb d_mProperty_24 (by decide) ?_
          refine lv_icmp_gt (tgt := 33) hx hb d_mProperty_26 (by decide) (fun c_25 => ?_) (fun c_25 => ?_)
          · replace heq := (if_pos c_25).symm.trans heq
            have ic_25 := gk_lt (show gk_v 43 43 from rfl) v_x3 c_25
            refine lv_iconst (v := 0) hx hb d_mProperty_33 (by decide) ?_
            refine lv_istore (lv' := [(4, .int 0), (0, .ref (g 0)), (1, .int x1), (2, .int x2), (3, .int x3)]) hx hb d_mProperty_34 hl (by decide) rfl (fun ls hl => ?_)
            refine lv_aload_n hx hb d_mProperty_36 rfl (lv_at hl 1 rfl) ?_
            refine lv_iload hx hb d_mProperty_37 (lv_at hl 0 rfl) ?_
            refine lv_if_ne (tgt := 46) hx hb d_mProperty_39 (by decide) (fun c_26 => absurd c_26 (by decide)) (fun _ => ?_)
            refine lv_iconst (v := 1) hx hb d_mProperty_42 (by decide) ?_
            refine lv_goto (tgt := 60) hx hb d_mProperty_43 (by decide) ?_
            refine gk_goI (wr := []) hW [0, 1, 2, 3, 4, 5, 6, 7, 8, 9] [] rfl rfl (by decide) (by decide) (va_runV (As := [.int 1]) (rest := []) ⟨hx, hb, hml, hown, hts⟩ (c_mRefused l D cI cL cL g fl rn fs lt kk mk mf ml ma il sz tt fh hd 1 _) (gk_cwV hts w_146 w_147 w_148 w_145 k_mRefused rfl e_mRefused rfl rfl ⟨Nat.le_of_ble_eq_true rfl, Nat.le_of_ble_eq_true rfl⟩) (gk_preV hW [0, 1, 2, 3, 4, 5, 6, 7, 8, 9] rfl rfl rfl rfl) rfl rfl hl.1 rfl (lv_room (Nat.le_of_ble_eq_true rfl)) d_mProperty_60 ⟨Nat.le_of_ble_eq_true rfl, Nat.le_of_ble_eq_true rfl⟩) (fun r_27 u H locs p_29 hW => ?_)
            obtain ⟨rfl, rfl⟩ : r_27 = 1 ∧ u = 1 := Prod.mk.inj (p_29.trans (show (mm_mRefused 1 fl) = (1, 1) from rfl))
            have hW : gk_W D vwCl (gk_T cI cL) s A H locs (wd_M cI cL g 1 rn fs lt kk mk mf ml ma il sz tt fh hd) := hW.re [0, 1, 2, 3, 4, 5, 6, 7, 8, 9] (by decide) rfl
            refine lv_if_ne (tgt := 106) hx hb d_mProperty_63 (by decide) (fun _ => ?_) (fun c_30 => absurd c_30 (by decide))
            exact X (1, rn, fs, lt, kk) H locs 0 0 106 ls heq hW d_mProperty_106 (Nat.le_of_ble_eq_true rfl) (Nat.le_of_ble_eq_true rfl)
          · replace heq := (if_neg c_25).symm.trans heq
            have ic_25 := gk_nlt (show gk_v 43 43 from rfl) v_x3 c_25
            refine lv_iconst (v := 1) hx hb d_mProperty_29 (by decide) ?_
            refine lv_goto (tgt := 34) hx hb d_mProperty_30 (by decide) ?_
            refine lv_istore (lv' := [(4, .int 1), (0, .ref (g 0)), (1, .int x1), (2, .int x2), (3, .int x3)]) hx hb d_mProperty_34 hl (by decide) rfl (fun ls hl => ?_)
            refine lv_aload_n hx hb d_mProperty_36 rfl (lv_at hl 1 rfl) ?_
            refine lv_iload hx hb d_mProperty_37 (lv_at hl 0 rfl) ?_
            refine lv_if_ne (tgt := 46) hx hb d_mProperty_39 (by decide) (fun _ => ?_) (fun c_31 => absurd c_31 (by decide))
            refine lv_aload_n hx hb d_mProperty_46 rfl (lv_at hl 1 rfl) ?_
            refine va_get (D := D) (C := R_M) (T := F_M) (N := 14) hx hb hts i_M hown hW.1 hW.2.1 0 rfl rfl 1 (by decide) (hts _ w_149) (fun _ h9 => h9) rfl d_mProperty_47 ?_
            refine lv_bipush (v := 100) hx hb d_mProperty_50 (by decide) ?_
            refine lv_icmp_ne (tgt := 59) hx hb d_mProperty_52 (by decide) (fun c_32 => ?_) (fun c_32 => ?_)
            · replace heq := (if_neg c_32).symm.trans heq
              have ic_32 := gk_ne v_rn (show gk_v 100 100 from rfl) c_32
              refine lv_iconst (v := 0) hx hb d_mProperty_59 (by decide) ?_
              refine gk_goI (wr := []) hW [0, 1, 2, 3, 4, 5, 6, 7, 8, 9] [] rfl rfl (by decide) (by decide) (va_runV (As := [.int 0]) (rest := []) ⟨hx, hb, hml, hown, hts⟩ (c_mRefused l D cI cL cL g fl rn fs lt kk mk mf ml ma il sz tt fh hd 0 _) (gk_cwV hts w_146 w_147 w_148 w_145 k_mRefused rfl e_mRefused rfl rfl ⟨Nat.le_of_ble_eq_true rfl, Nat.le_of_ble_eq_true rfl⟩) (gk_preV hW [0, 1, 2, 3, 4, 5, 6, 7, 8, 9] rfl rfl rfl rfl) rfl rfl hl.1 rfl (lv_room (Nat.le_of_ble_eq_true rfl)) d_mProperty_60 ⟨Nat.le_of_ble_eq_true rfl, Nat.le_of_ble_eq_true rfl⟩) (fun r_33 u H locs p_35 hW => ?_)
              obtain ⟨rfl, rfl⟩ : r_33 = 0 ∧ u = 0 := Prod.mk.inj (p_35.trans (show (mm_mRefused 0 fl) = (0, 0) from rfl))
              have hW : gk_W D vwCl (gk_T cI cL) s A H locs (wd_M cI cL g 0 rn fs lt kk mk mf ml ma il sz tt fh hd) := hW.re [0, 1, 2, 3, 4, 5, 6, 7, 8, 9] (by decide) rfl
              refine lv_if_ne (tgt := 106) hx hb d_mProperty_63 (by decide) (fun c_36 => absurd c_36 (by decide)) (fun _ => ?_)
              refine lv_aload_n hx hb d_mProperty_66 rfl (lv_at hl 1 rfl) ?_
              refine va_get (D := D) (C := R_M) (T := F_M) (N := 14) hx hb hts i_M hown hW.1 hW.2.1 0 rfl rfl 2 (by decide) (hts _ w_150) (fun _ h9 => h9) rfl d_mProperty_67 ?_
              refine lv_aload_n hx hb d_mProperty_70 rfl (lv_at hl 1 rfl) ?_
              refine va_get (D := D) (C := R_M) (T := F_M) (N := 14) hx hb hts i_M hown hW.1 hW.2.1 0 rfl rfl 1 (by decide) (hts _ w_149) (fun _ h9 => h9) rfl d_mProperty_71 ?_
              refine lv_iload_n hx hb d_mProperty_74 rfl (lv_at hl 2 rfl) ?_
              refine va_iast hx hb hW.1 hW.2.1 hW.2.2.1 hW.2.2.2.1 1 0 rfl rfl (i := rn) (x := x1) (gk_in v_rn (by omega) (by omega)) d_mProperty_75 (fun H locs hP hD hS => ?_)
              have hW : gk_W D vwCl (gk_T cI cL) s A H locs (wd_M cI cL g 0 rn (upd fs rn.toNatClampNeg x1) lt kk mk mf ml ma il sz tt fh hd) := ⟨hW.1, hP, hD, hS, hW.2.2.2.2⟩
              refine lv_aload_n hx hb d_mProperty_76 rfl (lv_at hl 1 rfl) ?_
              refine va_get (D := D) (C := R_M) (T := F_M) (N := 14) hx hb hts i_M hown hW.1 hW.2.1 0 rfl rfl 3 (by decide) (hts _ w_151) (fun _ h9 => h9) rfl d_mProperty_77 ?_
              refine lv_aload_n hx hb d_mProperty_80 rfl (lv_at hl 1 rfl) ?_
              refine va_get (D := D) (C := R_M) (T := F_M) (N := 14) hx hb hts i_M hown hW.1 hW.2.1 0 rfl rfl 1 (by decide) (hts _ w_149) (fun _ h9 => h9) rfl d_mProperty_81 ?_
              refine lv_iload_n hx hb d_mProperty_84 rfl (lv_at hl 3 rfl) ?_
              refine va_iast hx hb hW.1 hW.2.1 hW.2.2.1 hW.2.2.2.1 2 0 rfl rfl (i := rn) (x := x2) (gk_in v_rn (by omega) (by omega)) d_mProperty_85 (fun H locs hP hD hS => ?_)
              have hW : gk_W D vwCl (gk_T cI cL) s A H locs (wd_M cI cL g 0 rn (upd fs rn.toNatClampNeg x1) (upd lt rn.toNatClampNeg x2) kk mk mf ml ma il sz tt fh hd) := ⟨hW.1, hP, hD, hS, hW.2.2.2.2⟩
              refine lv_aload_n hx hb d_mProperty_86 rfl (lv_at hl 1 rfl) ?_
              refine va_get (D := D) (C := R_M) (T := F_M) (N := 14) hx hb hts i_M hown hW.1 hW.2.1 0 rfl rfl 4 (by decide) (hts _ w_152) (fun _ h9 => h9) rfl d_mProperty_87 ?_
              refine lv_aload_n hx hb d_mProperty_90 rfl (lv_at hl 1 rfl) ?_
              refine va_get (D := D) (C := R_M) (T := F_M) (N := 14) hx hb hts i_M hown hW.1 hW.2.1 0 rfl rfl 1 (by decide) (hts _ w_149) (fun _ h9 => h9) rfl d_mProperty_91 ?_
              refine lv_iload_n hx hb d_mProperty_94 rfl (lv_at hl 4 rfl) ?_
              refine va_iast hx hb hW.1 hW.2.1 hW.2.2.1 hW.2.2.2.1 3 0 rfl rfl (i := rn) (x := x3) (gk_in v_rn (by omega) (by omega)) d_mProperty_95 (fun H locs hP hD hS => ?_)
              have hW : gk_W D vwCl (gk_T cI cL) s A H locs (wd_M cI cL g 0 rn (upd fs rn.toNatClampNeg x1) (upd lt rn.toNatClampNeg x2) (upd kk rn.toNatClampNeg x3) mk mf ml ma il sz tt fh hd) := ⟨hW.1, hP, hD, hS, hW.2.2.2.2⟩
              refine lv_aload_n hx hb d_mProperty_96 rfl (lv_at hl 1 rfl) ?_
              refine lv_dup hx hb d_mProperty_97 rfl ?_
              refine va_get (D := D) (C := R_M) (T := F_M) (N := 14) hx hb hts i_M hown hW.1 hW.2.1 0 rfl rfl 1 (by decide) (hts _ w_149) (fun _ h9 => h9) rfl d_mProperty_98 ?_
              refine lv_iconst (v := 1) hx hb d_mProperty_101 (by decide) ?_
              refine lv_iadd hx hb d_mProperty_102 ?_
              obtain ⟨zt_37, vt_37, et_37⟩ := gk_add v_rn (show gk_v 1 1 from rfl) (by omega) (by omega)
              refine va_put (D := D) (ci := 3) (v := .int (rn + 1)) (ty := .int) (C := R_M) (T := F_M) (N := 14) hx hb hts i_M t_M t_M_ok n_M hown hW.1 hW.2.1 hW.2.2.1 hW.2.2.2.1 0 rfl rfl 1 (by decide) (hts _ w_149) (fun _ h9 => h9) rfl (by decide +kernel) rfl rfl (Nat.le_of_ble_eq_true rfl) d_mProperty_103 (fun H locs hP hD hS => ?_)
              have hW : gk_W D vwCl (gk_T cI cL) s A H locs (wd_M cI cL g 0 (rn + 1) (upd fs rn.toNatClampNeg x1) (upd lt rn.toNatClampNeg x2) (upd kk rn.toNatClampNeg x3) mk mf ml ma il sz tt fh hd) := ⟨hW.1, hP, hD, hS, hW.2.2.2.2⟩
              exact X (0, rn + 1, upd fs rn.toNatClampNeg x1, upd lt rn.toNatClampNeg x2, upd kk rn.toNatClampNeg x3) H locs 0 0 106 ls heq hW d_mProperty_106 (Nat.le_of_ble_eq_true rfl) (Nat.le_of_ble_eq_true rfl)
            · replace heq := (if_pos c_32).symm.trans heq
              have ic_32 := gk_eq v_rn (show gk_v 100 100 from rfl) c_32
              refine lv_iconst (v := 2) hx hb d_mProperty_55 (by decide) ?_
              refine lv_goto (tgt := 60) hx hb d_mProperty_56 (by decide) ?_
              refine gk_goI (wr := []) hW [0, 1, 2, 3, 4, 5, 6, 7, 8, 9] [] rfl rfl (by decide) (by decide) (va_runV (As := [.int 2]) (rest := []) ⟨hx, hb, hml, hown, hts⟩ (c_mRefused l D cI cL cL g fl rn fs lt kk mk mf ml ma il sz tt fh hd 2 _) (gk_cwV hts w_146 w_147 w_148 w_145 k_mRefused rfl e_mRefused rfl rfl ⟨Nat.le_of_ble_eq_true rfl, Nat.le_of_ble_eq_true rfl⟩) (gk_preV hW [0, 1, 2, 3, 4, 5, 6, 7, 8, 9] rfl rfl rfl rfl) rfl rfl hl.1 rfl (lv_room (Nat.le_of_ble_eq_true rfl)) d_mProperty_60 ⟨Nat.le_of_ble_eq_true rfl, Nat.le_of_ble_eq_true rfl⟩) (fun r_38 u H locs p_40 hW => ?_)
              obtain ⟨rfl, rfl⟩ : r_38 = 1 ∧ u = 2 := Prod.mk.inj (p_40.trans (show (mm_mRefused 2 fl) = (1, 2) from rfl))
              have hW : gk_W D vwCl (gk_T cI cL) s A H locs (wd_M cI cL g 2 rn fs lt kk mk mf ml ma il sz tt fh hd) := hW.re [0, 1, 2, 3, 4, 5, 6, 7, 8, 9] (by decide) rfl
              refine lv_if_ne (tgt := 106) hx hb d_mProperty_63 (by decide) (fun _ => ?_) (fun c_41 => absurd c_41 (by decide))
              exact X (2, rn, fs, lt, kk) H locs 0 0 106 ls heq hW d_mProperty_106 (Nat.le_of_ble_eq_true rfl) (Nat.le_of_ble_eq_true rfl)
def mm_mGiven_2 (x1 : Int32) (fh : Nat → Int32) : Nat → Int32 → Int32
  | 0, x2 => 0
  | n + 1, x2 => if x1 ≤ x2 then x2 else (if (fh x2.toNatClampNeg) = (-1) then x2 else (mm_mGiven_2 x1 fh n (x2 + 1)))
def mm_mGiven (x1 : Int32) (fh : Nat → Int32) : Int32 := mm_mGiven_2 x1 fh 6 0
theorem mm_mGiven_bd2 (x1 : Int32) (fh : Nat → Int32) (z1 : Int) (v1 : gk_v x1 z1) (h1 : 0 ≤ z1 ∧ z1 ≤ 5) : ∀ (n : Nat) (x2 : Int32) (z2 : Int), gk_v x2 z2 → 0 ≤ z2 → z2 ≤ z1 → ∃ z : Int, gk_v (mm_mGiven_2 x1 fh n x2) z ∧ 0 ≤ z ∧ z ≤ z1 := by
  intro n
  induction n with
  | zero => intro x2 z2 v2 a b; exact ⟨0, rfl, by omega, by omega⟩
  | succ n ih =>
    intro x2 z2 v2 a b
    rw [mm_mGiven_2]
    by_cases c : x1 ≤ x2
    · rw [if_pos c]; exact ⟨z2, v2, a, b⟩
    · rw [if_neg c]
      have hc := gk_nle v1 v2 c
      by_cases d : fh x2.toNatClampNeg = (-1)
      · rw [if_pos d]; exact ⟨z2, v2, a, b⟩
      · rw [if_neg d]
        obtain ⟨z3, v3, e3⟩ := gk_add v2 (show gk_v 1 1 from rfl) (by omega) (by omega)
        exact ih (x2 + 1) z3 v3 (by omega) (by omega)
theorem mm_mGiven_bd (x1 : Int32) (fh : Nat → Int32) (z1 : Int) (v1 : gk_v x1 z1) (h1 : 0 ≤ z1 ∧ z1 ≤ 5) : ∃ z : Int, gk_v (mm_mGiven x1 fh) z ∧ 0 ≤ z ∧ z ≤ z1 := mm_mGiven_bd2 x1 fh z1 v1 h1 6 0 0 rfl (by omega) (by omega)
def rm_mGiven : Room := { frames := 0, cells := 0, slots := 0, locals := 0 }
set_option maxHeartbeats 4000000 in
set_option maxRecDepth 100000 in
theorem c_mGiven (l : Launch) (D : va_G) (cI : ClassId) (cL cL : ClassId × ClassId) (g : Nat → Nat) (fl rn : Int32) (fs lt kk mk mf ml ma : Nat → Int32) (il sz : Int32) (tt fh : Nat → Int32) (hd x1 : Int32) (z_x1 : Int) (v_x1 : gk_v x1 z_x1) (hx1 : 0 ≤ z_x1 ∧ z_x1 ≤ 5) : gk_I l y_mGiven (.code y_mGiven b_mGiven 3 (some .int) :: wA) rm_mGiven D vwCl (gk_T cI cL) [.ref (g 0), .int x1] (wd_M cI cL g fl rn fs lt kk mk mf ml ma il sz tt fh hd) (fun (r : Int32) (_ : Unit) => r = mm_mGiven x1 fh) (fun (_ : Unit) => (wd_M cI cL g fl rn fs lt kk mk mf ml ma il sz tt fh hd)) 0 0 := by
  refine gk_I.of (by decide) (Nat.le_of_ble_eq_true rfl) ?_
  intro p e s m below meth c A ls Q H locs hx hb hml hown hts hW hl X
  have hl : lv_has ls 3 [(0, .ref (g 0)), (1, .int x1)] := hl
  obtain ⟨tgt, heq⟩ : ∃ t, mm_mGiven x1 fh = t := ⟨_, rfl⟩
  rw [heq] at X
  rw [mm_mGiven] at heq
  have L2 : ∀ (n : Nat) (x2 : Int32) (H : Heap) (locs : List Loc) (ls : Array Slot), ∀ (z_x2 : Int), gk_v x2 z_x2 → (z_x1 - z_x2) < (n : Int) → 0 ≤ z_x2 ∧ z_x2 ≤ z_x1 → mm_mGiven_2 x1 fh n x2 = tgt → gk_W D vwCl (gk_T cI cL) s A H locs (wd_M cI cL g fl rn fs lt kk mk mf ml ma il sz tt fh hd) → lv_has ls 3 [(0, .ref (g 0)), (1, .int x1), (2, .int x2)] → W p l e rm_mGiven s m [.ref (g 0), .int x1].toArray below meth c H locs 0 0 Q (F0 m 2 ls []) := by
    intro n
    induction n with
    | zero => intro x2 H locs ls z_x2 v_x2 hm f2_0 heq hW hl; exfalso; omega
    | succ n ih =>
      intro x2 H locs ls z_x2 v_x2 hm f2_0 heq hW hl
      rw [mm_mGiven_2] at heq
      refine lv_iload_n hx hb d_mGiven_2 rfl (lv_at hl 2 rfl) ?_
      refine lv_iload_n hx hb d_mGiven_3 rfl (lv_at hl 1 rfl) ?_
      refine lv_icmp_ge (tgt := 23) hx hb d_mGiven_4 (by decide) (fun c_1 => ?_) (fun c_1 => ?_)
      · replace heq := (if_pos c_1).symm.trans heq
        have ic_1 := gk_le v_x1 v_x2 c_1
        refine lv_iload_n hx hb d_mGiven_23 rfl (lv_at hl 2 rfl) ?_
        exact X _ () H locs 0 0 24 ls heq hW d_mGiven_24 rfl (Nat.le_of_ble_eq_true rfl) (Nat.le_of_ble_eq_true rfl)
      · replace heq := (if_neg c_1).symm.trans heq
        have ic_1 := gk_nle v_x1 v_x2 c_1
        refine lv_aload_n hx hb d_mGiven_7 rfl (lv_at hl 0 rfl) ?_
        refine va_get (D := D) (C := R_M) (T := F_M) (N := 14) hx hb hts i_M hown hW.1 hW.2.1 0 rfl rfl 12 (by decide) (hts _ w_142) (fun _ h9 => h9) rfl d_mGiven_8 ?_
        refine lv_iload_n hx hb d_mGiven_11 rfl (lv_at hl 2 rfl) ?_
        refine va_iald hx hb hW.1 hW.2.1 9 0 rfl rfl (i := x2) (gk_in v_x2 (by omega) (by omega)) d_mGiven_12 ?_
        refine lv_iconst (v := (-1)) hx hb d_mGiven_13 (by decide) ?_
        refine lv_icmp_eq (tgt := 23) hx hb d_mGiven_14 (by decide) (fun c_2 => ?_) (fun c_2 => ?_)
        · replace heq := (if_pos c_2).symm.trans heq
          refine lv_iload_n hx hb d_mGiven_23 rfl (lv_at hl 2 rfl) ?_
          exact X _ () H locs 0 0 24 ls heq hW d_mGiven_24 rfl (Nat.le_of_ble_eq_true rfl) (Nat.le_of_ble_eq_true rfl)
        · replace heq := (if_neg c_2).symm.trans heq
          refine lv_iinc (v := x2 + 1) (lv' := [(2, .int (x2 + 1)), (0, .ref (g 0)), (1, .int x1)]) hx hb d_mGiven_17 hl (k := 2) rfl rfl (by decide) rfl (fun ls hl => ?_)
          obtain ⟨zt_3, vt_3, et_3⟩ := gk_add v_x2 (show gk_v 1 1 from rfl) (by omega) (by omega)
          refine lv_goto (tgt := 2) hx hb d_mGiven_20 (by decide) ?_
          exact ih (x2 + 1) H locs ls zt_3 vt_3 (by omega) (by omega) heq hW (lv_sub hl [1, 2, 0] rfl)
  refine lv_iconst (v := 0) hx hb d_mGiven_0 (by decide) ?_
  refine lv_istore_n (lv' := [(2, .int 0), (0, .ref (g 0)), (1, .int x1)]) hx hb d_mGiven_1 rfl hl (by decide) rfl (fun ls hl => ?_)
  exact L2 6 0 H locs ls 0 (show gk_v 0 0 from rfl) (by omega) (by omega) heq hW (lv_sub hl [1, 2, 0] rfl)
def mm_mIsSound_4 (x1 : Int32) (fh : Nat → Int32) : Nat → Int32 → Int32 → Int32
  | 0, x2, x3 => 0
  | n + 1, x2, x3 => if x1 ≤ x3 then x2 else (if x2 = 0 then (mm_mIsSound_4 x1 fh n 0 (x3 + 1)) else (if (mm_mIsChar (fh x3.toNatClampNeg)) = 0 then (mm_mIsSound_4 x1 fh n 0 (x3 + 1)) else (mm_mIsSound_4 x1 fh n 1 (x3 + 1))))
def mm_mIsSound (x1 : Int32) (fh : Nat → Int32) : Int32 := mm_mIsSound_4 x1 fh 6 1 0
def rm_mIsSound : Room := { frames := 1, cells := 0, slots := 0, locals := 20 }
set_option maxHeartbeats 4000000 in
set_option maxRecDepth 100000 in
theorem c_mIsSound (l : Launch) (D : va_G) (cI : ClassId) (cL cL : ClassId × ClassId) (g : Nat → Nat) (fl rn : Int32) (fs lt kk mk mf ml ma : Nat → Int32) (il sz : Int32) (tt fh : Nat → Int32) (hd x1 : Int32) (z_x1 : Int) (v_x1 : gk_v x1 z_x1) (hx1 : 0 ≤ z_x1 ∧ z_x1 ≤ 5) : gk_I l y_mIsSound (.code y_mIsSound b_mIsSound 4 (some .boolean) :: wA) rm_mIsSound D vwCl (gk_T cI cL) [.ref (g 0), .int x1] (wd_M cI cL g fl rn fs lt kk mk mf ml ma il sz tt fh hd) (fun (r : Int32) (_ : Unit) => r = mm_mIsSound x1 fh) (fun (_ : Unit) => (wd_M cI cL g fl rn fs lt kk mk mf ml ma il sz tt fh hd)) 0 0 := by
  refine gk_I.of (by decide) (Nat.le_of_ble_eq_true rfl) ?_
  intro p e s m below meth c A ls Q H locs hx hb hml hown hts hW hl X
  have hl : lv_has ls 4 [(0, .ref (g 0)), (1, .int x1)] := hl
  obtain ⟨tgt, heq⟩ : ∃ t, mm_mIsSound x1 fh = t := ⟨_, rfl⟩
  rw [heq] at X
  rw [mm_mIsSound] at heq
  have L4 : ∀ (n : Nat) (x2 x3 : Int32) (H : Heap) (locs : List Loc) (ls : Array Slot), ∀ (z_x3 : Int), gk_v x3 z_x3 → (5 - z_x3) < (n : Int) → 0 ≤ z_x3 ∧ z_x3 ≤ z_x1 → x2 = 0 ∨ x2 = 1 → mm_mIsSound_4 x1 fh n x2 x3 = tgt → gk_W D vwCl (gk_T cI cL) s A H locs (wd_M cI cL g fl rn fs lt kk mk mf ml ma il sz tt fh hd) → lv_has ls 4 [(0, .ref (g 0)), (1, .int x1), (2, .int x2), (3, .int x3)] → W p l e rm_mIsSound s m [.ref (g 0), .int x1].toArray below meth c H locs 0 0 Q (F0 m 4 ls []) := by
    intro n
    induction n with
    | zero => intro x2 x3 H locs ls z_x3 v_x3 hm f4_0 f4_1 heq hW hl; exfalso; omega
    | succ n ih =>
      intro x2 x3 H locs ls z_x3 v_x3 hm f4_0 f4_1 heq hW hl
      rw [mm_mIsSound_4] at heq
      refine lv_iload_n hx hb d_mIsSound_4 rfl (lv_at hl 3 rfl) ?_
      refine lv_iload_n hx hb d_mIsSound_5 rfl (lv_at hl 1 rfl) ?_
      refine lv_icmp_ge (tgt := 37) hx hb d_mIsSound_6 (by decide) (fun c_1 => ?_) (fun c_1 => ?_)
      · replace heq := (if_pos c_1).symm.trans heq
        have ic_1 := gk_le v_x1 v_x3 c_1
        refine lv_iload_n hx hb d_mIsSound_37 rfl (lv_at hl 2 rfl) ?_
        exact X _ () H locs 0 0 38 ls heq hW d_mIsSound_38 (gz_n f4_1) (Nat.le_of_ble_eq_true rfl) (Nat.le_of_ble_eq_true rfl)
      · replace heq := (if_neg c_1).symm.trans heq
        have ic_1 := gk_nle v_x1 v_x3 c_1
        refine lv_iload_n hx hb d_mIsSound_9 rfl (lv_at hl 2 rfl) ?_
        refine lv_if_eq (tgt := 29) hx hb d_mIsSound_10 (by decide) (fun c_2 => ?_) (fun c_2 => ?_)
        · replace heq := (if_pos c_2).symm.trans heq
          refine lv_iconst (v := 0) hx hb d_mIsSound_29 (by decide) ?_
          refine lv_istore_n (lv' := [(2, .int 0), (0, .ref (g 0)), (1, .int x1), (3, .int x3)]) hx hb d_mIsSound_30 rfl hl (by decide) rfl (fun ls hl => ?_)
          refine lv_iinc (v := x3 + 1) (lv' := [(3, .int (x3 + 1)), (2, .int 0), (0, .ref (g 0)), (1, .int x1)]) hx hb d_mIsSound_31 hl (k := 3) rfl rfl (by decide) rfl (fun ls hl => ?_)
          obtain ⟨zt_3, vt_3, et_3⟩ := gk_add v_x3 (show gk_v 1 1 from rfl) (by omega) (by omega)
          refine lv_goto (tgt := 4) hx hb d_mIsSound_34 (by decide) ?_
          exact ih 0 (x3 + 1) H locs ls zt_3 vt_3 (by omega) (by omega) (Or.inl rfl) heq hW (lv_sub hl [2, 3, 1, 0] rfl)
        · replace heq := (if_neg c_2).symm.trans heq
          refine lv_aload_n hx hb d_mIsSound_13 rfl (lv_at hl 0 rfl) ?_
          refine va_get (D := D) (C := R_M) (T := F_M) (N := 14) hx hb hts i_M hown hW.1 hW.2.1 0 rfl rfl 12 (by decide) (hts _ w_142) (fun _ h9 => h9) rfl d_mIsSound_14 ?_
          refine lv_iload_n hx hb d_mIsSound_17 rfl (lv_at hl 3 rfl) ?_
          refine va_iald hx hb hW.1 hW.2.1 9 0 rfl rfl (i := x3) (gk_in v_x3 (by omega) (by omega)) d_mIsSound_18 ?_
          refine gk_goR hW [] rfl (va_runS (As := [.int (fh x3.toNatClampNeg)]) (rest := []) ⟨hx, hb, hml, hown, hts⟩ (c_mIsChar l D cI cL (fh x3.toNatClampNeg) _) (gk_cwS hts w_143 w_144 w_145 k_mIsChar rfl e_mIsChar rfl rfl ⟨Nat.le_of_ble_eq_true rfl, Nat.le_of_ble_eq_true rfl⟩) (gk_pre hW [] rfl rfl) rfl rfl hl.1 rfl (lv_room (Nat.le_of_ble_eq_true rfl)) d_mIsSound_19 ⟨Nat.le_of_ble_eq_true rfl, Nat.le_of_ble_eq_true rfl⟩) (fun H locs hW => ?_)
          refine lv_if_eq (tgt := 29) hx hb d_mIsSound_22 (by decide) (fun c_4 => ?_) (fun c_4 => ?_)
          · replace heq := (if_pos c_4).symm.trans heq
            refine lv_iconst (v := 0) hx hb d_mIsSound_29 (by decide) ?_
            refine lv_istore_n (lv' := [(2, .int 0), (0, .ref (g 0)), (1, .int x1), (3, .int x3)]) hx hb d_mIsSound_30 rfl hl (by decide) rfl (fun ls hl => ?_)
            refine lv_iinc (v := x3 + 1) (lv' := [(3, .int (x3 + 1)), (2, .int 0), (0, .ref (g 0)), (1, .int x1)]) hx hb d_mIsSound_31 hl (k := 3) rfl rfl (by decide) rfl (fun ls hl => ?_)
            obtain ⟨zt_5, vt_5, et_5⟩ := gk_add v_x3 (show gk_v 1 1 from rfl) (by omega) (by omega)
            refine lv_goto (tgt := 4) hx hb d_mIsSound_34 (by decide) ?_
            exact ih 0 (x3 + 1) H locs ls zt_5 vt_5 (by omega) (by omega) (Or.inl rfl) heq hW (lv_sub hl [2, 3, 1, 0] rfl)
          · replace heq := (if_neg c_4).symm.trans heq
            refine lv_iconst (v := 1) hx hb d_mIsSound_25 (by decide) ?_
            refine lv_goto (tgt := 30) hx hb d_mIsSound_26 (by decide) ?_
            refine lv_istore_n (lv' := [(2, .int 1), (0, .ref (g 0)), (1, .int x1), (3, .int x3)]) hx hb d_mIsSound_30 rfl hl (by decide) rfl (fun ls hl => ?_)
            refine lv_iinc (v := x3 + 1) (lv' := [(3, .int (x3 + 1)), (2, .int 1), (0, .ref (g 0)), (1, .int x1)]) hx hb d_mIsSound_31 hl (k := 3) rfl rfl (by decide) rfl (fun ls hl => ?_)
            obtain ⟨zt_6, vt_6, et_6⟩ := gk_add v_x3 (show gk_v 1 1 from rfl) (by omega) (by omega)
            refine lv_goto (tgt := 4) hx hb d_mIsSound_34 (by decide) ?_
            exact ih 1 (x3 + 1) H locs ls zt_6 vt_6 (by omega) (by omega) (Or.inr rfl) heq hW (lv_sub hl [2, 3, 1, 0] rfl)
  refine lv_iconst (v := 1) hx hb d_mIsSound_0 (by decide) ?_
  refine lv_istore_n (lv' := [(2, .int 1), (0, .ref (g 0)), (1, .int x1)]) hx hb d_mIsSound_1 rfl hl (by decide) rfl (fun ls hl => ?_)
  refine lv_iconst (v := 0) hx hb d_mIsSound_2 (by decide) ?_
  refine lv_istore_n (lv' := [(3, .int 0), (2, .int 1), (0, .ref (g 0)), (1, .int x1)]) hx hb d_mIsSound_3 rfl hl (by decide) rfl (fun ls hl => ?_)
  exact L4 6 1 0 H locs ls 0 (show gk_v 0 0 from rfl) (by omega) (by omega) (Or.inr rfl) heq hW (lv_sub hl [2, 3, 1, 0] rfl)
def mm_mAdd_61 (x1 x2 x3 x4 x5 : Int32) : Nat → Int32 → Int32 → Int32 → Int32 → (Nat → Int32) → (Nat → Int32) → Int32 × Int32 × Int32 × (Nat → Int32) × (Nat → Int32)
  | 0, x6, x7, fl, sz, tt, fh => (0, fl, sz, tt, fh)
  | n + 1, x6, x7, fl, sz, tt, fh => if x6 ≤ x7 then (sz + x6, fl, sz + x6, tt, fh) else (mm_mAdd_61 x1 x2 x3 x4 x5 n x6 (x7 + 1) fl sz (upd tt (sz + x7).toNatClampNeg (fh x7.toNatClampNeg)) fh)
def mm_mAdd (x1 x2 x3 x4 x5 fl sz : Int32) (tt fh : Nat → Int32) : Int32 × Int32 × Int32 × (Nat → Int32) × (Nat → Int32) := if (mm_mIsSound (mm_mGiven 5 (mm_mKeep x1 x2 x3 x4 x5 fh)) (mm_mKeep x1 x2 x3 x4 x5 fh)) = 0 then (0, 1, sz, tt, (mm_mKeep x1 x2 x3 x4 x5 fh)) else (if (sz + (mm_mGiven 5 (mm_mKeep x1 x2 x3 x4 x5 fh))) ≤ 2000 then (mm_mAdd_61 x1 x2 x3 x4 x5 6 (mm_mGiven 5 (mm_mKeep x1 x2 x3 x4 x5 fh)) 0 0 sz tt (mm_mKeep x1 x2 x3 x4 x5 fh)) else (0, 2, sz, tt, (mm_mKeep x1 x2 x3 x4 x5 fh)))
def rm_mAdd : Room := { frames := 2, cells := 0, slots := 0, locals := 43 }
set_option maxHeartbeats 4000000 in
set_option maxRecDepth 100000 in
theorem c_mAdd (l : Launch) (D : va_G) (cI : ClassId) (cL cL : ClassId × ClassId) (g : Nat → Nat) (fl rn : Int32) (fs lt kk mk mf ml ma : Nat → Int32) (il sz : Int32) (tt fh : Nat → Int32) (hd x1 x2 x3 x4 x5 : Int32) (z_sz : Int) (v_sz : gk_v sz z_sz) (hsz : 0 ≤ z_sz ∧ z_sz ≤ 2000) : gk_I l y_mAdd (.code y_mAdd b_mAdd 8 (some .int) :: wA) rm_mAdd D vwCl (gk_T cI cL) [.ref (g 0), .int x1, .int x2, .int x3, .int x4, .int x5] (wd_M cI cL g fl rn fs lt kk mk mf ml ma il sz tt fh hd) (fun (r : Int32) (u : Int32 × Int32 × (Nat → Int32) × (Nat → Int32)) => (r, u) = mm_mAdd x1 x2 x3 x4 x5 fl sz tt fh) (fun u => (wd_M cI cL g u.1 rn fs lt kk mk mf ml ma il u.2.1 u.2.2.1 u.2.2.2 hd)) 0 0 := by
  refine gk_I.of (by decide) (Nat.le_of_ble_eq_true rfl) ?_
  intro p e s m below meth c A ls Q H locs hx hb hml hown hts hW hl X
  have hl : lv_has ls 8 [(0, .ref (g 0)), (1, .int x1), (2, .int x2), (3, .int x3), (4, .int x4), (5, .int x5)] := hl
  obtain ⟨tgt, heq⟩ : ∃ t, mm_mAdd x1 x2 x3 x4 x5 fl sz tt fh = t := ⟨_, rfl⟩
  rw [heq] at X
  rw [mm_mAdd] at heq
  obtain ⟨z_x1, v_x1⟩ := gk_vex x1
  obtain ⟨z_x2, v_x2⟩ := gk_vex x2
  obtain ⟨z_x3, v_x3⟩ := gk_vex x3
  obtain ⟨z_x4, v_x4⟩ := gk_vex x4
  obtain ⟨z_x5, v_x5⟩ := gk_vex x5
  have L61 : ∀ (n : Nat) (x6 x7 fl sz : Int32) (tt fh : Nat → Int32) (H : Heap) (locs : List Loc) (ls : Array Slot), ∀ (z_sz : Int), gk_v sz z_sz → ∀ (z_x6 : Int), gk_v x6 z_x6 → ∀ (z_x7 : Int), gk_v x7 z_x7 → (5 - z_x7) < (n : Int) → 0 ≤ z_x7 ∧ z_x7 ≤ z_x6 ∧ z_x6 ≤ 5 ∧ z_sz + z_x6 ≤ 2000 ∧ 0 ≤ z_sz ∧ z_sz ≤ 2000 → mm_mAdd_61 x1 x2 x3 x4 x5 n x6 x7 fl sz tt fh = tgt → gk_W D vwCl (gk_T cI cL) s A H locs (wd_M cI cL g fl rn fs lt kk mk mf ml ma il sz tt fh hd) → lv_has ls 8 [(0, .ref (g 0)), (1, .int x1), (2, .int x2), (3, .int x3), (4, .int x4), (5, .int x5), (6, .int x6), (7, .int x7)] → W p l e rm_mAdd s m [.ref (g 0), .int x1, .int x2, .int x3, .int x4, .int x5].toArray below meth c H locs 0 0 Q (F0 m 61 ls []) := by
    intro n
    induction n with
    | zero => intro x6 x7 fl sz tt fh H locs ls z_sz v_sz z_x6 v_x6 z_x7 v_x7 hm f61_0 heq hW hl; exfalso; omega
    | succ n ih =>
      intro x6 x7 fl sz tt fh H locs ls z_sz v_sz z_x6 v_x6 z_x7 v_x7 hm f61_0 heq hW hl
      rw [mm_mAdd_61] at heq
      refine lv_iload hx hb d_mAdd_61 (lv_at hl 7 rfl) ?_
      refine lv_iload hx hb d_mAdd_63 (lv_at hl 6 rfl) ?_
      refine lv_icmp_ge (tgt := 93) hx hb d_mAdd_65 (by decide) (fun c_1 => ?_) (fun c_1 => ?_)
      · replace heq := (if_pos c_1).symm.trans heq
        have ic_1 := gk_le v_x6 v_x7 c_1
        refine lv_aload_n hx hb d_mAdd_93 rfl (lv_at hl 0 rfl) ?_
        refine lv_aload_n hx hb d_mAdd_94 rfl (lv_at hl 0 rfl) ?_
        refine va_get (D := D) (C := R_M) (T := F_M) (N := 14) hx hb hts i_M hown hW.1 hW.2.1 0 rfl rfl 10 (by decide) (hts _ w_140) (fun _ h9 => h9) rfl d_mAdd_95 ?_
        refine lv_iload hx hb d_mAdd_98 (lv_at hl 6 rfl) ?_
        refine lv_iadd hx hb d_mAdd_100 ?_
        obtain ⟨zt_2, vt_2, et_2⟩ := gk_add v_sz v_x6 (by omega) (by omega)
        refine va_put (D := D) (ci := 3) (v := .int (sz + x6)) (ty := .int) (C := R_M) (T := F_M) (N := 14) hx hb hts i_M t_M t_M_ok n_M hown hW.1 hW.2.1 hW.2.2.1 hW.2.2.2.1 0 rfl rfl 10 (by decide) (hts _ w_140) (fun _ h9 => h9) rfl (by decide +kernel) rfl rfl (Nat.le_of_ble_eq_true rfl) d_mAdd_101 (fun H locs hP hD hS => ?_)
        have hW : gk_W D vwCl (gk_T cI cL) s A H locs (wd_M cI cL g fl rn fs lt kk mk mf ml ma il (sz + x6) tt fh hd) := ⟨hW.1, hP, hD, hS, hW.2.2.2.2⟩
        refine lv_aload_n hx hb d_mAdd_104 rfl (lv_at hl 0 rfl) ?_
        refine va_get (D := D) (C := R_M) (T := F_M) (N := 14) hx hb hts i_M hown hW.1 hW.2.1 0 rfl rfl 10 (by decide) (hts _ w_140) (fun _ h9 => h9) rfl d_mAdd_105 ?_
        exact X _ (fl, sz + x6, tt, fh) H locs 0 0 108 ls heq hW d_mAdd_108 rfl (Nat.le_of_ble_eq_true rfl) (Nat.le_of_ble_eq_true rfl)
      · replace heq := (if_neg c_1).symm.trans heq
        have ic_1 := gk_nle v_x6 v_x7 c_1
        refine lv_aload_n hx hb d_mAdd_68 rfl (lv_at hl 0 rfl) ?_
        refine va_get (D := D) (C := R_M) (T := F_M) (N := 14) hx hb hts i_M hown hW.1 hW.2.1 0 rfl rfl 11 (by decide) (hts _ w_162) (fun _ h9 => h9) rfl d_mAdd_69 ?_
        refine lv_aload_n hx hb d_mAdd_72 rfl (lv_at hl 0 rfl) ?_
        refine va_get (D := D) (C := R_M) (T := F_M) (N := 14) hx hb hts i_M hown hW.1 hW.2.1 0 rfl rfl 10 (by decide) (hts _ w_140) (fun _ h9 => h9) rfl d_mAdd_73 ?_
        refine lv_iload hx hb d_mAdd_76 (lv_at hl 7 rfl) ?_
        refine lv_iadd hx hb d_mAdd_78 ?_
        obtain ⟨zt_3, vt_3, et_3⟩ := gk_add v_sz v_x7 (by omega) (by omega)
        refine lv_aload_n hx hb d_mAdd_79 rfl (lv_at hl 0 rfl) ?_
        refine va_get (D := D) (C := R_M) (T := F_M) (N := 14) hx hb hts i_M hown hW.1 hW.2.1 0 rfl rfl 12 (by decide) (hts _ w_142) (fun _ h9 => h9) rfl d_mAdd_80 ?_
        refine lv_iload hx hb d_mAdd_83 (lv_at hl 7 rfl) ?_
        refine va_iald hx hb hW.1 hW.2.1 9 0 rfl rfl (i := x7) (gk_in v_x7 (by omega) (by omega)) d_mAdd_85 ?_
        refine va_iast hx hb hW.1 hW.2.1 hW.2.2.1 hW.2.2.2.1 8 0 rfl rfl (i := sz + x7) (x := fh x7.toNatClampNeg) (gk_in vt_3 (by omega) (by omega)) d_mAdd_86 (fun H locs hP hD hS => ?_)
        have hW : gk_W D vwCl (gk_T cI cL) s A H locs (wd_M cI cL g fl rn fs lt kk mk mf ml ma il sz (upd tt (sz + x7).toNatClampNeg (fh x7.toNatClampNeg)) fh hd) := ⟨hW.1, hP, hD, hS, hW.2.2.2.2⟩
        refine lv_iinc (v := x7 + 1) (lv' := [(7, .int (x7 + 1)), (0, .ref (g 0)), (1, .int x1), (2, .int x2), (3, .int x3), (4, .int x4), (5, .int x5), (6, .int x6)]) hx hb d_mAdd_87 hl (k := 7) rfl rfl (by decide) rfl (fun ls hl => ?_)
        obtain ⟨zt_4, vt_4, et_4⟩ := gk_add v_x7 (show gk_v 1 1 from rfl) (by omega) (by omega)
        refine lv_goto (tgt := 61) hx hb d_mAdd_90 (by decide) ?_
        exact ih x6 (x7 + 1) fl sz (upd tt (sz + x7).toNatClampNeg (fh x7.toNatClampNeg)) fh H locs ls z_sz v_sz z_x6 v_x6 zt_4 vt_4 (by omega) (by omega) heq hW (lv_sub hl [1, 2, 3, 4, 5, 6, 7, 0] rfl)
  refine lv_aload_n hx hb d_mAdd_0 rfl (lv_at hl 0 rfl) ?_
  refine lv_iload_n hx hb d_mAdd_1 rfl (lv_at hl 1 rfl) ?_
  refine lv_iload_n hx hb d_mAdd_2 rfl (lv_at hl 2 rfl) ?_
  refine lv_iload_n hx hb d_mAdd_3 rfl (lv_at hl 3 rfl) ?_
  refine lv_iload hx hb d_mAdd_4 (lv_at hl 4 rfl) ?_
  refine lv_iload hx hb d_mAdd_6 (lv_at hl 5 rfl) ?_
  refine gk_goV (wr := []) hW [0, 1, 2, 3, 4, 5, 6, 7, 8, 9] [] rfl rfl (by decide) (by decide) (va_runV (As := [.int x1, .int x2, .int x3, .int x4, .int x5]) (rest := []) ⟨hx, hb, hml, hown, hts⟩ (c_mKeep l D cI cL cL g fl rn fs lt kk mk mf ml ma il sz tt fh hd x1 x2 x3 x4 x5 _) (gk_cwV hts w_153 w_154 w_155 w_145 k_mKeep rfl e_mKeep rfl rfl ⟨Nat.le_of_ble_eq_true rfl, Nat.le_of_ble_eq_true rfl⟩) (gk_preV hW [0, 1, 2, 3, 4, 5, 6, 7, 8, 9] rfl rfl rfl rfl) rfl rfl hl.1 rfl (lv_room (Nat.le_of_ble_eq_true rfl)) d_mAdd_8 ⟨Nat.le_of_ble_eq_true rfl, Nat.le_of_ble_eq_true rfl⟩) (fun u H locs p_6 hW => ?_)
  subst p_6
  have hW : gk_W D vwCl (gk_T cI cL) s A H locs (wd_M cI cL g fl rn fs lt kk mk mf ml ma il sz tt (mm_mKeep x1 x2 x3 x4 x5 fh) hd) := hW.re [0, 1, 2, 3, 4, 5, 6, 7, 8, 9] (by decide) rfl
  refine lv_aload_n hx hb d_mAdd_11 rfl (lv_at hl 0 rfl) ?_
  refine lv_iconst (v := 5) hx hb d_mAdd_12 (by decide) ?_
  refine gk_goR hW [0, 1, 2, 3, 4, 5, 6, 7, 8, 9] rfl (va_runV (As := [.int 5]) (rest := []) ⟨hx, hb, hml, hown, hts⟩ (c_mGiven l D cI cL cL g fl rn fs lt kk mk mf ml ma il sz tt (mm_mKeep x1 x2 x3 x4 x5 fh) hd 5 5 (show gk_v 5 5 from rfl) (by omega) _) (gk_cwV hts w_156 w_157 w_158 w_145 k_mGiven rfl e_mGiven rfl rfl ⟨Nat.le_of_ble_eq_true rfl, Nat.le_of_ble_eq_true rfl⟩) (gk_preV hW [0, 1, 2, 3, 4, 5, 6, 7, 8, 9] rfl rfl rfl rfl) rfl rfl hl.1 rfl (lv_room (Nat.le_of_ble_eq_true rfl)) d_mAdd_13 ⟨Nat.le_of_ble_eq_true rfl, Nat.le_of_ble_eq_true rfl⟩) (fun H locs hW => ?_)
  obtain ⟨zg_7, vg_7, hg_7⟩ := mm_mGiven_bd 5 (mm_mKeep x1 x2 x3 x4 x5 fh) 5 (show gk_v 5 5 from rfl) (by omega)
  refine lv_istore (lv' := [(6, .int (mm_mGiven 5 (mm_mKeep x1 x2 x3 x4 x5 fh))), (0, .ref (g 0)), (1, .int x1), (2, .int x2), (3, .int x3), (4, .int x4), (5, .int x5)]) hx hb d_mAdd_16 hl (by decide) rfl (fun ls hl => ?_)
  refine lv_aload_n hx hb d_mAdd_18 rfl (lv_at hl 1 rfl) ?_
  refine lv_aload_n hx hb d_mAdd_19 rfl (lv_at hl 1 rfl) ?_
  refine lv_iload hx hb d_mAdd_20 (lv_at hl 0 rfl) ?_
  refine gk_goR hW [0, 1, 2, 3, 4, 5, 6, 7, 8, 9] rfl (va_runV (As := [.int (mm_mGiven 5 (mm_mKeep x1 x2 x3 x4 x5 fh))]) (rest := [.ref (g 0)]) ⟨hx, hb, hml, hown, hts⟩ (c_mIsSound l D cI cL cL g fl rn fs lt kk mk mf ml ma il sz tt (mm_mKeep x1 x2 x3 x4 x5 fh) hd (mm_mGiven 5 (mm_mKeep x1 x2 x3 x4 x5 fh)) zg_7 vg_7 (by omega) _) (gk_cwV hts w_159 w_160 w_161 w_145 k_mIsSound rfl e_mIsSound rfl rfl ⟨Nat.le_of_ble_eq_true rfl, Nat.le_of_ble_eq_true rfl⟩) (gk_preV hW [0, 1, 2, 3, 4, 5, 6, 7, 8, 9] rfl rfl rfl rfl) rfl rfl hl.1 rfl (lv_room (Nat.le_of_ble_eq_true rfl)) d_mAdd_22 ⟨Nat.le_of_ble_eq_true rfl, Nat.le_of_ble_eq_true rfl⟩) (fun H locs hW => ?_)
  refine lv_if_ne (tgt := 32) hx hb d_mAdd_25 (by decide) (fun c_8 => ?_) (fun c_8 => ?_)
  · replace heq := (if_neg c_8).symm.trans heq
    refine lv_aload_n hx hb d_mAdd_32 rfl (lv_at hl 1 rfl) ?_
    refine va_get (D := D) (C := R_M) (T := F_M) (N := 14) hx hb hts i_M hown hW.1 hW.2.1 0 rfl rfl 10 (by decide) (hts _ w_140) (fun _ h9 => h9) rfl d_mAdd_33 ?_
    refine lv_iload hx hb d_mAdd_36 (lv_at hl 0 rfl) ?_
    refine lv_iadd hx hb d_mAdd_38 ?_
    obtain ⟨zt_9, vt_9, et_9⟩ := gk_add v_sz vg_7 (by omega) (by omega)
    refine lv_sipush (v := 2000) hx hb d_mAdd_39 (by decide) ?_
    refine lv_icmp_le (tgt := 49) hx hb d_mAdd_42 (by decide) (fun c_10 => ?_) (fun c_10 => ?_)
    · replace heq := (if_pos c_10).symm.trans heq
      have ic_10 := gk_le vt_9 (show gk_v 2000 2000 from rfl) c_10
      refine lv_iconst (v := 0) hx hb d_mAdd_49 (by decide) ?_
      refine gk_goI (wr := []) hW [0, 1, 2, 3, 4, 5, 6, 7, 8, 9] [] rfl rfl (by decide) (by decide) (va_runV (As := [.int 0]) (rest := []) ⟨hx, hb, hml, hown, hts⟩ (c_mRefused l D cI cL cL g fl rn fs lt kk mk mf ml ma il sz tt (mm_mKeep x1 x2 x3 x4 x5 fh) hd 0 _) (gk_cwV hts w_146 w_147 w_148 w_145 k_mRefused rfl e_mRefused rfl rfl ⟨Nat.le_of_ble_eq_true rfl, Nat.le_of_ble_eq_true rfl⟩) (gk_preV hW [0, 1, 2, 3, 4, 5, 6, 7, 8, 9] rfl rfl rfl rfl) rfl rfl hl.1 rfl (lv_room (Nat.le_of_ble_eq_true rfl)) d_mAdd_50 ⟨Nat.le_of_ble_eq_true rfl, Nat.le_of_ble_eq_true rfl⟩) (fun r_11 u H locs p_13 hW => ?_)
      obtain ⟨rfl, rfl⟩ : r_11 = 0 ∧ u = 0 := Prod.mk.inj (p_13.trans (show (mm_mRefused 0 fl) = (0, 0) from rfl))
      have hW : gk_W D vwCl (gk_T cI cL) s A H locs (wd_M cI cL g 0 rn fs lt kk mk mf ml ma il sz tt (mm_mKeep x1 x2 x3 x4 x5 fh) hd) := hW.re [0, 1, 2, 3, 4, 5, 6, 7, 8, 9] (by decide) rfl
      refine lv_if_eq (tgt := 58) hx hb d_mAdd_53 (by decide) (fun _ => ?_) (fun c_14 => absurd c_14 (by decide))
      refine lv_iconst (v := 0) hx hb d_mAdd_58 (by decide) ?_
      refine lv_istore (lv' := [(7, .int 0), (6, .int (mm_mGiven 5 (mm_mKeep x1 x2 x3 x4 x5 fh))), (0, .ref (g 0)), (1, .int x1), (2, .int x2), (3, .int x3), (4, .int x4), (5, .int x5)]) hx hb d_mAdd_59 hl (by decide) rfl (fun ls hl => ?_)
      exact L61 6 (mm_mGiven 5 (mm_mKeep x1 x2 x3 x4 x5 fh)) 0 0 sz tt (mm_mKeep x1 x2 x3 x4 x5 fh) H locs ls z_sz v_sz zg_7 vg_7 0 (show gk_v 0 0 from rfl) (by omega) (by omega) heq hW (lv_sub hl [2, 3, 4, 5, 6, 7, 1, 0] rfl)
    · replace heq := (if_neg c_10).symm.trans heq
      have ic_10 := gk_nle vt_9 (show gk_v 2000 2000 from rfl) c_10
      refine lv_iconst (v := 2) hx hb d_mAdd_45 (by decide) ?_
      refine lv_goto (tgt := 50) hx hb d_mAdd_46 (by decide) ?_
      refine gk_goI (wr := []) hW [0, 1, 2, 3, 4, 5, 6, 7, 8, 9] [] rfl rfl (by decide) (by decide) (va_runV (As := [.int 2]) (rest := []) ⟨hx, hb, hml, hown, hts⟩ (c_mRefused l D cI cL cL g fl rn fs lt kk mk mf ml ma il sz tt (mm_mKeep x1 x2 x3 x4 x5 fh) hd 2 _) (gk_cwV hts w_146 w_147 w_148 w_145 k_mRefused rfl e_mRefused rfl rfl ⟨Nat.le_of_ble_eq_true rfl, Nat.le_of_ble_eq_true rfl⟩) (gk_preV hW [0, 1, 2, 3, 4, 5, 6, 7, 8, 9] rfl rfl rfl rfl) rfl rfl hl.1 rfl (lv_room (Nat.le_of_ble_eq_true rfl)) d_mAdd_50 ⟨Nat.le_of_ble_eq_true rfl, Nat.le_of_ble_eq_true rfl⟩) (fun r_15 u H locs p_17 hW => ?_)
      obtain ⟨rfl, rfl⟩ : r_15 = 1 ∧ u = 2 := Prod.mk.inj (p_17.trans (show (mm_mRefused 2 fl) = (1, 2) from rfl))
      have hW : gk_W D vwCl (gk_T cI cL) s A H locs (wd_M cI cL g 2 rn fs lt kk mk mf ml ma il sz tt (mm_mKeep x1 x2 x3 x4 x5 fh) hd) := hW.re [0, 1, 2, 3, 4, 5, 6, 7, 8, 9] (by decide) rfl
      refine lv_if_eq (tgt := 58) hx hb d_mAdd_53 (by decide) (fun c_18 => absurd c_18 (by decide)) (fun _ => ?_)
      refine lv_iconst (v := 0) hx hb d_mAdd_56 (by decide) ?_
      exact X _ (2, sz, tt, (mm_mKeep x1 x2 x3 x4 x5 fh)) H locs 0 0 57 ls heq hW d_mAdd_57 rfl (Nat.le_of_ble_eq_true rfl) (Nat.le_of_ble_eq_true rfl)
  · replace heq := (if_pos c_8).symm.trans heq
    refine lv_iconst (v := 1) hx hb d_mAdd_28 (by decide) ?_
    refine lv_goto (tgt := 50) hx hb d_mAdd_29 (by decide) ?_
    refine gk_goI (wr := []) hW [0, 1, 2, 3, 4, 5, 6, 7, 8, 9] [] rfl rfl (by decide) (by decide) (va_runV (As := [.int 1]) (rest := []) ⟨hx, hb, hml, hown, hts⟩ (c_mRefused l D cI cL cL g fl rn fs lt kk mk mf ml ma il sz tt (mm_mKeep x1 x2 x3 x4 x5 fh) hd 1 _) (gk_cwV hts w_146 w_147 w_148 w_145 k_mRefused rfl e_mRefused rfl rfl ⟨Nat.le_of_ble_eq_true rfl, Nat.le_of_ble_eq_true rfl⟩) (gk_preV hW [0, 1, 2, 3, 4, 5, 6, 7, 8, 9] rfl rfl rfl rfl) rfl rfl hl.1 rfl (lv_room (Nat.le_of_ble_eq_true rfl)) d_mAdd_50 ⟨Nat.le_of_ble_eq_true rfl, Nat.le_of_ble_eq_true rfl⟩) (fun r_19 u H locs p_21 hW => ?_)
    obtain ⟨rfl, rfl⟩ : r_19 = 1 ∧ u = 1 := Prod.mk.inj (p_21.trans (show (mm_mRefused 1 fl) = (1, 1) from rfl))
    have hW : gk_W D vwCl (gk_T cI cL) s A H locs (wd_M cI cL g 1 rn fs lt kk mk mf ml ma il sz tt (mm_mKeep x1 x2 x3 x4 x5 fh) hd) := hW.re [0, 1, 2, 3, 4, 5, 6, 7, 8, 9] (by decide) rfl
    refine lv_if_eq (tgt := 58) hx hb d_mAdd_53 (by decide) (fun c_22 => absurd c_22 (by decide)) (fun _ => ?_)
    refine lv_iconst (v := 0) hx hb d_mAdd_56 (by decide) ?_
    exact X _ (1, sz, tt, (mm_mKeep x1 x2 x3 x4 x5 fh)) H locs 0 0 57 ls heq hW d_mAdd_57 rfl (Nat.le_of_ble_eq_true rfl) (Nat.le_of_ble_eq_true rfl)
def mm_mReplace_186 (x1 x2 x3 x4 x5 : Int32) : Nat → Int32 → Int32 → Int32 → Int32 → Int32 → Int32 → (Nat → Int32) → (Nat → Int32) → Int32 × Int32 × Int32 × (Nat → Int32) × (Nat → Int32)
  | 0, x6, x7, x8, x9, fl, sz, tt, fh => (0, fl, sz, tt, fh)
  | n + 1, x6, x7, x8, x9, fl, sz, tt, fh => if x6 ≤ x9 then (sz + x8, fl, sz + x8, tt, fh) else (mm_mReplace_186 x1 x2 x3 x4 x5 n x6 x7 x8 (x9 + 1) fl sz (upd tt (x1 + x9).toNatClampNeg (fh x9.toNatClampNeg)) fh)
def mm_mReplace_151 (x1 x2 x3 x4 x5 : Int32) : Nat → Int32 → Int32 → Int32 → Int32 → Int32 → Int32 → (Nat → Int32) → (Nat → Int32) → Int32 × Int32 × Int32 × (Nat → Int32) × (Nat → Int32)
  | 0, x6, x7, x8, x9, fl, sz, tt, fh => (0, fl, sz, tt, fh)
  | n + 1, x6, x7, x8, x9, fl, sz, tt, fh => if sz ≤ x9 then (mm_mReplace_186 x1 x2 x3 x4 x5 6 x6 x7 x8 0 fl sz tt fh) else (mm_mReplace_151 x1 x2 x3 x4 x5 n x6 x7 x8 (x9 + 1) fl sz (upd tt (x9 + x8).toNatClampNeg (tt x9.toNatClampNeg)) fh)
def mm_mReplace_116 (x1 x2 x3 x4 x5 : Int32) : Nat → Int32 → Int32 → Int32 → Int32 → Int32 → Int32 → (Nat → Int32) → (Nat → Int32) → Int32 × Int32 × Int32 × (Nat → Int32) × (Nat → Int32)
  | 0, x6, x7, x8, x9, fl, sz, tt, fh => (0, fl, sz, tt, fh)
  | n + 1, x6, x7, x8, x9, fl, sz, tt, fh => if x9 < x2 then (mm_mReplace_186 x1 x2 x3 x4 x5 6 x6 x7 x8 0 fl sz tt fh) else (mm_mReplace_116 x1 x2 x3 x4 x5 n x6 x7 x8 (x9 + (-1)) fl sz (upd tt (x9 + x8).toNatClampNeg (tt x9.toNatClampNeg)) fh)
def mm_mReplace (x1 x2 x3 x4 x5 fl sz : Int32) (tt fh : Nat → Int32) : Int32 × Int32 × Int32 × (Nat → Int32) × (Nat → Int32) := if x1 < 0 then (0, 1, sz, tt, (mm_mKeep x3 x4 x5 (-1) (-1) fh)) else (if x2 < x1 then (0, 1, sz, tt, (mm_mKeep x3 x4 x5 (-1) (-1) fh)) else (if sz < x2 then (0, 1, sz, tt, (mm_mKeep x3 x4 x5 (-1) (-1) fh)) else (if (mm_mIsSound (mm_mGiven 3 (mm_mKeep x3 x4 x5 (-1) (-1) fh)) (mm_mKeep x3 x4 x5 (-1) (-1) fh)) = 0 then (0, 2, sz, tt, (mm_mKeep x3 x4 x5 (-1) (-1) fh)) else (if ((sz - (x2 - x1)) + (mm_mGiven 3 (mm_mKeep x3 x4 x5 (-1) (-1) fh))) ≤ 2000 then (if ((mm_mGiven 3 (mm_mKeep x3 x4 x5 (-1) (-1) fh)) - (x2 - x1)) ≤ 0 then (mm_mReplace_151 x1 x2 x3 x4 x5 2001 (mm_mGiven 3 (mm_mKeep x3 x4 x5 (-1) (-1) fh)) 1 ((mm_mGiven 3 (mm_mKeep x3 x4 x5 (-1) (-1) fh)) - (x2 - x1)) x2 0 sz tt (mm_mKeep x3 x4 x5 (-1) (-1) fh)) else (mm_mReplace_116 x1 x2 x3 x4 x5 2001 (mm_mGiven 3 (mm_mKeep x3 x4 x5 (-1) (-1) fh)) 1 ((mm_mGiven 3 (mm_mKeep x3 x4 x5 (-1) (-1) fh)) - (x2 - x1)) (sz - 1) 0 sz tt (mm_mKeep x3 x4 x5 (-1) (-1) fh))) else (0, 3, sz, tt, (mm_mKeep x3 x4 x5 (-1) (-1) fh))))))
def rm_mReplace : Room := { frames := 2, cells := 0, slots := 0, locals := 43 }
set_option maxHeartbeats 4000000 in
set_option maxRecDepth 100000 in
theorem c_mReplace (l : Launch) (D : va_G) (cI : ClassId) (cL cL : ClassId × ClassId) (g : Nat → Nat) (fl rn : Int32) (fs lt kk mk mf ml ma : Nat → Int32) (il sz : Int32) (tt fh : Nat → Int32) (hd x1 x2 x3 x4 x5 : Int32) (z_sz : Int) (v_sz : gk_v sz z_sz) (hsz : 0 ≤ z_sz ∧ z_sz ≤ 2000) : gk_I l y_mReplace (.code y_mReplace b_mReplace 10 (some .int) :: wA) rm_mReplace D vwCl (gk_T cI cL) [.ref (g 0), .int x1, .int x2, .int x3, .int x4, .int x5] (wd_M cI cL g fl rn fs lt kk mk mf ml ma il sz tt fh hd) (fun (r : Int32) (u : Int32 × Int32 × (Nat → Int32) × (Nat → Int32)) => (r, u) = mm_mReplace x1 x2 x3 x4 x5 fl sz tt fh) (fun u => (wd_M cI cL g u.1 rn fs lt kk mk mf ml ma il u.2.1 u.2.2.1 u.2.2.2 hd)) 0 0 := by
  refine gk_I.of (by decide) (Nat.le_of_ble_eq_true rfl) ?_
  intro p e s m below meth c A ls Q H locs hx hb hml hown hts hW hl X
  have hl : lv_has ls 10 [(0, .ref (g 0)), (1, .int x1), (2, .int x2), (3, .int x3), (4, .int x4), (5, .int x5)] := hl
  obtain ⟨tgt, heq⟩ : ∃ t, mm_mReplace x1 x2 x3 x4 x5 fl sz tt fh = t := ⟨_, rfl⟩
  rw [heq] at X
  rw [mm_mReplace] at heq
  obtain ⟨z_x1, v_x1⟩ := gk_vex x1
  obtain ⟨z_x2, v_x2⟩ := gk_vex x2
  obtain ⟨z_x3, v_x3⟩ := gk_vex x3
  obtain ⟨z_x4, v_x4⟩ := gk_vex x4
  obtain ⟨z_x5, v_x5⟩ := gk_vex x5
  have L186 : ∀ (n : Nat) (x6 x7 x8 x9 fl sz : Int32) (tt fh : Nat → Int32) (H : Heap) (locs : List Loc) (ls : Array Slot), ∀ (z_sz : Int), gk_v sz z_sz → ∀ (z_x6 : Int), gk_v x6 z_x6 → ∀ (z_x8 : Int), gk_v x8 z_x8 → ∀ (z_x9 : Int), gk_v x9 z_x9 → (5 - z_x9) < (n : Int) → 0 ≤ z_x1 ∧ z_x1 ≤ z_x2 ∧ z_x2 ≤ z_sz ∧ 0 ≤ z_x6 ∧ z_x6 ≤ 3 ∧ z_x8 = z_x6 - (z_x2 - z_x1) ∧ z_sz + z_x8 ≤ 2000 ∧ 0 ≤ z_sz ∧ z_sz ≤ 2000 → 0 ≤ z_x9 ∧ z_x9 ≤ z_x6 → mm_mReplace_186 x1 x2 x3 x4 x5 n x6 x7 x8 x9 fl sz tt fh = tgt → gk_W D vwCl (gk_T cI cL) s A H locs (wd_M cI cL g fl rn fs lt kk mk mf ml ma il sz tt fh hd) → lv_has ls 10 [(0, .ref (g 0)), (1, .int x1), (2, .int x2), (3, .int x3), (4, .int x4), (5, .int x5), (6, .int x6), (7, .int x7), (8, .int x8), (9, .int x9)] → W p l e rm_mReplace s m [.ref (g 0), .int x1, .int x2, .int x3, .int x4, .int x5].toArray below meth c H locs 0 0 Q (F0 m 186 ls []) := by
    intro n
    induction n with
    | zero => intro x6 x7 x8 x9 fl sz tt fh H locs ls z_sz v_sz z_x6 v_x6 z_x8 v_x8 z_x9 v_x9 hm f186_0 f186_1 heq hW hl; exfalso; omega
    | succ n ih =>
      intro x6 x7 x8 x9 fl sz tt fh H locs ls z_sz v_sz z_x6 v_x6 z_x8 v_x8 z_x9 v_x9 hm f186_0 f186_1 heq hW hl
      rw [mm_mReplace_186] at heq
      refine lv_iload hx hb d_mReplace_186 (lv_at hl 9 rfl) ?_
      refine lv_iload hx hb d_mReplace_188 (lv_at hl 6 rfl) ?_
      refine lv_icmp_ge (tgt := 215) hx hb d_mReplace_190 (by decide) (fun c_1 => ?_) (fun c_1 => ?_)
      · replace heq := (if_pos c_1).symm.trans heq
        have ic_1 := gk_le v_x6 v_x9 c_1
        refine lv_aload_n hx hb d_mReplace_215 rfl (lv_at hl 0 rfl) ?_
        refine lv_aload_n hx hb d_mReplace_216 rfl (lv_at hl 0 rfl) ?_
        refine va_get (D := D) (C := R_M) (T := F_M) (N := 14) hx hb hts i_M hown hW.1 hW.2.1 0 rfl rfl 10 (by decide) (hts _ w_140) (fun _ h9 => h9) rfl d_mReplace_217 ?_
        refine lv_iload hx hb d_mReplace_220 (lv_at hl 8 rfl) ?_
        refine lv_iadd hx hb d_mReplace_222 ?_
        obtain ⟨zt_2, vt_2, et_2⟩ := gk_add v_sz v_x8 (by omega) (by omega)
        refine va_put (D := D) (ci := 3) (v := .int (sz + x8)) (ty := .int) (C := R_M) (T := F_M) (N := 14) hx hb hts i_M t_M t_M_ok n_M hown hW.1 hW.2.1 hW.2.2.1 hW.2.2.2.1 0 rfl rfl 10 (by decide) (hts _ w_140) (fun _ h9 => h9) rfl (by decide +kernel) rfl rfl (Nat.le_of_ble_eq_true rfl) d_mReplace_223 (fun H locs hP hD hS => ?_)
        have hW : gk_W D vwCl (gk_T cI cL) s A H locs (wd_M cI cL g fl rn fs lt kk mk mf ml ma il (sz + x8) tt fh hd) := ⟨hW.1, hP, hD, hS, hW.2.2.2.2⟩
        refine lv_aload_n hx hb d_mReplace_226 rfl (lv_at hl 0 rfl) ?_
        refine va_get (D := D) (C := R_M) (T := F_M) (N := 14) hx hb hts i_M hown hW.1 hW.2.1 0 rfl rfl 10 (by decide) (hts _ w_140) (fun _ h9 => h9) rfl d_mReplace_227 ?_
        exact X _ (fl, sz + x8, tt, fh) H locs 0 0 230 ls heq hW d_mReplace_230 rfl (Nat.le_of_ble_eq_true rfl) (Nat.le_of_ble_eq_true rfl)
      · replace heq := (if_neg c_1).symm.trans heq
        have ic_1 := gk_nle v_x6 v_x9 c_1
        refine lv_aload_n hx hb d_mReplace_193 rfl (lv_at hl 0 rfl) ?_
        refine va_get (D := D) (C := R_M) (T := F_M) (N := 14) hx hb hts i_M hown hW.1 hW.2.1 0 rfl rfl 11 (by decide) (hts _ w_162) (fun _ h9 => h9) rfl d_mReplace_194 ?_
        refine lv_iload_n hx hb d_mReplace_197 rfl (lv_at hl 1 rfl) ?_
        refine lv_iload hx hb d_mReplace_198 (lv_at hl 9 rfl) ?_
        refine lv_iadd hx hb d_mReplace_200 ?_
        obtain ⟨zt_3, vt_3, et_3⟩ := gk_add v_x1 v_x9 (by omega) (by omega)
        refine lv_aload_n hx hb d_mReplace_201 rfl (lv_at hl 0 rfl) ?_
        refine va_get (D := D) (C := R_M) (T := F_M) (N := 14) hx hb hts i_M hown hW.1 hW.2.1 0 rfl rfl 12 (by decide) (hts _ w_142) (fun _ h9 => h9) rfl d_mReplace_202 ?_
        refine lv_iload hx hb d_mReplace_205 (lv_at hl 9 rfl) ?_
        refine va_iald hx hb hW.1 hW.2.1 9 0 rfl rfl (i := x9) (gk_in v_x9 (by omega) (by omega)) d_mReplace_207 ?_
        refine va_iast hx hb hW.1 hW.2.1 hW.2.2.1 hW.2.2.2.1 8 0 rfl rfl (i := x1 + x9) (x := fh x9.toNatClampNeg) (gk_in vt_3 (by omega) (by omega)) d_mReplace_208 (fun H locs hP hD hS => ?_)
        have hW : gk_W D vwCl (gk_T cI cL) s A H locs (wd_M cI cL g fl rn fs lt kk mk mf ml ma il sz (upd tt (x1 + x9).toNatClampNeg (fh x9.toNatClampNeg)) fh hd) := ⟨hW.1, hP, hD, hS, hW.2.2.2.2⟩
        refine lv_iinc (v := x9 + 1) (lv' := [(9, .int (x9 + 1)), (0, .ref (g 0)), (1, .int x1), (2, .int x2), (3, .int x3), (4, .int x4), (5, .int x5), (6, .int x6), (7, .int x7), (8, .int x8)]) hx hb d_mReplace_209 hl (k := 9) rfl rfl (by decide) rfl (fun ls hl => ?_)
        obtain ⟨zt_4, vt_4, et_4⟩ := gk_add v_x9 (show gk_v 1 1 from rfl) (by omega) (by omega)
        refine lv_goto (tgt := 186) hx hb d_mReplace_212 (by decide) ?_
        exact ih x6 x7 x8 (x9 + 1) fl sz (upd tt (x1 + x9).toNatClampNeg (fh x9.toNatClampNeg)) fh H locs ls z_sz v_sz z_x6 v_x6 z_x8 v_x8 zt_4 vt_4 (by omega) (by omega) (by omega) heq hW (lv_sub hl [1, 2, 3, 4, 5, 6, 7, 8, 9, 0] rfl)
  have L151 : ∀ (n : Nat) (x6 x7 x8 x9 fl sz : Int32) (tt fh : Nat → Int32) (H : Heap) (locs : List Loc) (ls : Array Slot), ∀ (z_sz : Int), gk_v sz z_sz → ∀ (z_x6 : Int), gk_v x6 z_x6 → ∀ (z_x8 : Int), gk_v x8 z_x8 → ∀ (z_x9 : Int), gk_v x9 z_x9 → (z_sz - z_x9) < (n : Int) → 0 ≤ z_x1 ∧ z_x1 ≤ z_x2 ∧ z_x2 ≤ z_sz ∧ 0 ≤ z_x6 ∧ z_x6 ≤ 3 ∧ z_x8 = z_x6 - (z_x2 - z_x1) ∧ z_sz + z_x8 ≤ 2000 ∧ 0 ≤ z_sz ∧ z_sz ≤ 2000 ∧ z_x8 ≤ 0 → z_x2 ≤ z_x9 ∧ z_x9 ≤ z_sz → mm_mReplace_151 x1 x2 x3 x4 x5 n x6 x7 x8 x9 fl sz tt fh = tgt → gk_W D vwCl (gk_T cI cL) s A H locs (wd_M cI cL g fl rn fs lt kk mk mf ml ma il sz tt fh hd) → lv_has ls 10 [(0, .ref (g 0)), (1, .int x1), (2, .int x2), (3, .int x3), (4, .int x4), (5, .int x5), (6, .int x6), (7, .int x7), (8, .int x8), (9, .int x9)] → W p l e rm_mReplace s m [.ref (g 0), .int x1, .int x2, .int x3, .int x4, .int x5].toArray below meth c H locs 0 0 Q (F0 m 151 ls []) := by
    intro n
    induction n with
    | zero => intro x6 x7 x8 x9 fl sz tt fh H locs ls z_sz v_sz z_x6 v_x6 z_x8 v_x8 z_x9 v_x9 hm f151_0 f151_1 heq hW hl; exfalso; omega
    | succ n ih =>
      intro x6 x7 x8 x9 fl sz tt fh H locs ls z_sz v_sz z_x6 v_x6 z_x8 v_x8 z_x9 v_x9 hm f151_0 f151_1 heq hW hl
      rw [mm_mReplace_151] at heq
      refine lv_iload hx hb d_mReplace_151 (lv_at hl 9 rfl) ?_
      refine lv_aload_n hx hb d_mReplace_153 rfl (lv_at hl 0 rfl) ?_
      refine va_get (D := D) (C := R_M) (T := F_M) (N := 14) hx hb hts i_M hown hW.1 hW.2.1 0 rfl rfl 10 (by decide) (hts _ w_140) (fun _ h9 => h9) rfl d_mReplace_154 ?_
      refine lv_icmp_ge (tgt := 183) hx hb d_mReplace_157 (by decide) (fun c_5 => ?_) (fun c_5 => ?_)
      · replace heq := (if_pos c_5).symm.trans heq
        have ic_5 := gk_le v_sz v_x9 c_5
        refine lv_iconst (v := 0) hx hb d_mReplace_183 (by decide) ?_
        refine lv_istore (lv' := [(9, .int 0), (0, .ref (g 0)), (1, .int x1), (2, .int x2), (3, .int x3), (4, .int x4), (5, .int x5), (6, .int x6), (7, .int x7), (8, .int x8)]) hx hb d_mReplace_184 hl (by decide) rfl (fun ls hl => ?_)
        exact L186 6 x6 x7 x8 0 fl sz tt fh H locs ls z_sz v_sz z_x6 v_x6 z_x8 v_x8 0 (show gk_v 0 0 from rfl) (by omega) (by omega) (by omega) heq hW (lv_sub hl [1, 2, 3, 4, 5, 6, 7, 8, 9, 0] rfl)
      · replace heq := (if_neg c_5).symm.trans heq
        have ic_5 := gk_nle v_sz v_x9 c_5
        refine lv_aload_n hx hb d_mReplace_160 rfl (lv_at hl 0 rfl) ?_
        refine va_get (D := D) (C := R_M) (T := F_M) (N := 14) hx hb hts i_M hown hW.1 hW.2.1 0 rfl rfl 11 (by decide) (hts _ w_162) (fun _ h9 => h9) rfl d_mReplace_161 ?_
        refine lv_iload hx hb d_mReplace_164 (lv_at hl 9 rfl) ?_
        refine lv_iload hx hb d_mReplace_166 (lv_at hl 8 rfl) ?_
        refine lv_iadd hx hb d_mReplace_168 ?_
        obtain ⟨zt_6, vt_6, et_6⟩ := gk_add v_x9 v_x8 (by omega) (by omega)
        refine lv_aload_n hx hb d_mReplace_169 rfl (lv_at hl 0 rfl) ?_
        refine va_get (D := D) (C := R_M) (T := F_M) (N := 14) hx hb hts i_M hown hW.1 hW.2.1 0 rfl rfl 11 (by decide) (hts _ w_162) (fun _ h9 => h9) rfl d_mReplace_170 ?_
        refine lv_iload hx hb d_mReplace_173 (lv_at hl 9 rfl) ?_
        refine va_iald hx hb hW.1 hW.2.1 8 0 rfl rfl (i := x9) (gk_in v_x9 (by omega) (by omega)) d_mReplace_175 ?_
        refine va_iast hx hb hW.1 hW.2.1 hW.2.2.1 hW.2.2.2.1 8 0 rfl rfl (i := x9 + x8) (x := tt x9.toNatClampNeg) (gk_in vt_6 (by omega) (by omega)) d_mReplace_176 (fun H locs hP hD hS => ?_)
        have hW : gk_W D vwCl (gk_T cI cL) s A H locs (wd_M cI cL g fl rn fs lt kk mk mf ml ma il sz (upd tt (x9 + x8).toNatClampNeg (tt x9.toNatClampNeg)) fh hd) := ⟨hW.1, hP, hD, hS, hW.2.2.2.2⟩
        refine lv_iinc (v := x9 + 1) (lv' := [(9, .int (x9 + 1)), (0, .ref (g 0)), (1, .int x1), (2, .int x2), (3, .int x3), (4, .int x4), (5, .int x5), (6, .int x6), (7, .int x7), (8, .int x8)]) hx hb d_mReplace_177 hl (k := 9) rfl rfl (by decide) rfl (fun ls hl => ?_)
        obtain ⟨zt_7, vt_7, et_7⟩ := gk_add v_x9 (show gk_v 1 1 from rfl) (by omega) (by omega)
        refine lv_goto (tgt := 151) hx hb d_mReplace_180 (by decide) ?_
        exact ih x6 x7 x8 (x9 + 1) fl sz (upd tt (x9 + x8).toNatClampNeg (tt x9.toNatClampNeg)) fh H locs ls z_sz v_sz z_x6 v_x6 z_x8 v_x8 zt_7 vt_7 (by omega) (by omega) (by omega) heq hW (lv_sub hl [1, 2, 3, 4, 5, 6, 7, 8, 9, 0] rfl)
  have L116 : ∀ (n : Nat) (x6 x7 x8 x9 fl sz : Int32) (tt fh : Nat → Int32) (H : Heap) (locs : List Loc) (ls : Array Slot), ∀ (z_sz : Int), gk_v sz z_sz → ∀ (z_x6 : Int), gk_v x6 z_x6 → ∀ (z_x8 : Int), gk_v x8 z_x8 → ∀ (z_x9 : Int), gk_v x9 z_x9 → (z_x9 - z_x2 + 1) < (n : Int) → 0 ≤ z_x1 ∧ z_x1 ≤ z_x2 ∧ z_x2 ≤ z_sz ∧ 0 ≤ z_x6 ∧ z_x6 ≤ 3 ∧ z_x8 = z_x6 - (z_x2 - z_x1) ∧ z_sz + z_x8 ≤ 2000 ∧ 0 ≤ z_sz ∧ z_sz ≤ 2000 ∧ 0 < z_x8 → z_x2 - 1 ≤ z_x9 ∧ z_x9 < z_sz → mm_mReplace_116 x1 x2 x3 x4 x5 n x6 x7 x8 x9 fl sz tt fh = tgt → gk_W D vwCl (gk_T cI cL) s A H locs (wd_M cI cL g fl rn fs lt kk mk mf ml ma il sz tt fh hd) → lv_has ls 10 [(0, .ref (g 0)), (1, .int x1), (2, .int x2), (3, .int x3), (4, .int x4), (5, .int x5), (6, .int x6), (7, .int x7), (8, .int x8), (9, .int x9)] → W p l e rm_mReplace s m [.ref (g 0), .int x1, .int x2, .int x3, .int x4, .int x5].toArray below meth c H locs 0 0 Q (F0 m 116 ls []) := by
    intro n
    induction n with
    | zero => intro x6 x7 x8 x9 fl sz tt fh H locs ls z_sz v_sz z_x6 v_x6 z_x8 v_x8 z_x9 v_x9 hm f116_0 f116_1 heq hW hl; exfalso; omega
    | succ n ih =>
      intro x6 x7 x8 x9 fl sz tt fh H locs ls z_sz v_sz z_x6 v_x6 z_x8 v_x8 z_x9 v_x9 hm f116_0 f116_1 heq hW hl
      rw [mm_mReplace_116] at heq
      refine lv_iload hx hb d_mReplace_116 (lv_at hl 9 rfl) ?_
      refine lv_iload_n hx hb d_mReplace_118 rfl (lv_at hl 2 rfl) ?_
      refine lv_icmp_lt (tgt := 145) hx hb d_mReplace_119 (by decide) (fun c_8 => ?_) (fun c_8 => ?_)
      · replace heq := (if_pos c_8).symm.trans heq
        have ic_8 := gk_lt v_x9 v_x2 c_8
        refine lv_goto (tgt := 183) hx hb d_mReplace_145 (by decide) ?_
        refine lv_iconst (v := 0) hx hb d_mReplace_183 (by decide) ?_
        refine lv_istore (lv' := [(9, .int 0), (0, .ref (g 0)), (1, .int x1), (2, .int x2), (3, .int x3), (4, .int x4), (5, .int x5), (6, .int x6), (7, .int x7), (8, .int x8)]) hx hb d_mReplace_184 hl (by decide) rfl (fun ls hl => ?_)
        exact L186 6 x6 x7 x8 0 fl sz tt fh H locs ls z_sz v_sz z_x6 v_x6 z_x8 v_x8 0 (show gk_v 0 0 from rfl) (by omega) (by omega) (by omega) heq hW (lv_sub hl [1, 2, 3, 4, 5, 6, 7, 8, 9, 0] rfl)
      · replace heq := (if_neg c_8).symm.trans heq
        have ic_8 := gk_nlt v_x9 v_x2 c_8
        refine lv_aload_n hx hb d_mReplace_122 rfl (lv_at hl 0 rfl) ?_
        refine va_get (D := D) (C := R_M) (T := F_M) (N := 14) hx hb hts i_M hown hW.1 hW.2.1 0 rfl rfl 11 (by decide) (hts _ w_162) (fun _ h9 => h9) rfl d_mReplace_123 ?_
        refine lv_iload hx hb d_mReplace_126 (lv_at hl 9 rfl) ?_
        refine lv_iload hx hb d_mReplace_128 (lv_at hl 8 rfl) ?_
        refine lv_iadd hx hb d_mReplace_130 ?_
        obtain ⟨zt_9, vt_9, et_9⟩ := gk_add v_x9 v_x8 (by omega) (by omega)
        refine lv_aload_n hx hb d_mReplace_131 rfl (lv_at hl 0 rfl) ?_
        refine va_get (D := D) (C := R_M) (T := F_M) (N := 14) hx hb hts i_M hown hW.1 hW.2.1 0 rfl rfl 11 (by decide) (hts _ w_162) (fun _ h9 => h9) rfl d_mReplace_132 ?_
        refine lv_iload hx hb d_mReplace_135 (lv_at hl 9 rfl) ?_
        refine va_iald hx hb hW.1 hW.2.1 8 0 rfl rfl (i := x9) (gk_in v_x9 (by omega) (by omega)) d_mReplace_137 ?_
        refine va_iast hx hb hW.1 hW.2.1 hW.2.2.1 hW.2.2.2.1 8 0 rfl rfl (i := x9 + x8) (x := tt x9.toNatClampNeg) (gk_in vt_9 (by omega) (by omega)) d_mReplace_138 (fun H locs hP hD hS => ?_)
        have hW : gk_W D vwCl (gk_T cI cL) s A H locs (wd_M cI cL g fl rn fs lt kk mk mf ml ma il sz (upd tt (x9 + x8).toNatClampNeg (tt x9.toNatClampNeg)) fh hd) := ⟨hW.1, hP, hD, hS, hW.2.2.2.2⟩
        refine lv_iinc (v := x9 + (-1)) (lv' := [(9, .int (x9 + (-1))), (0, .ref (g 0)), (1, .int x1), (2, .int x2), (3, .int x3), (4, .int x4), (5, .int x5), (6, .int x6), (7, .int x7), (8, .int x8)]) hx hb d_mReplace_139 hl (k := 9) rfl rfl (by decide) rfl (fun ls hl => ?_)
        obtain ⟨zt_10, vt_10, et_10⟩ := gk_add v_x9 (show gk_v (-1) (-1) from rfl) (by omega) (by omega)
        refine lv_goto (tgt := 116) hx hb d_mReplace_142 (by decide) ?_
        exact ih x6 x7 x8 (x9 + (-1)) fl sz (upd tt (x9 + x8).toNatClampNeg (tt x9.toNatClampNeg)) fh H locs ls z_sz v_sz z_x6 v_x6 z_x8 v_x8 zt_10 vt_10 (by omega) (by omega) (by omega) heq hW (lv_sub hl [1, 2, 3, 4, 5, 6, 7, 8, 9, 0] rfl)
  refine lv_aload_n hx hb d_mReplace_0 rfl (lv_at hl 0 rfl) ?_
  refine lv_iload_n hx hb d_mReplace_1 rfl (lv_at hl 3 rfl) ?_
  refine lv_iload hx hb d_mReplace_2 (lv_at hl 4 rfl) ?_
  refine lv_iload hx hb d_mReplace_4 (lv_at hl 5 rfl) ?_
  refine lv_iconst (v := (-1)) hx hb d_mReplace_6 (by decide) ?_
  refine lv_iconst (v := (-1)) hx hb d_mReplace_7 (by decide) ?_
  refine gk_goV (wr := []) hW [0, 1, 2, 3, 4, 5, 6, 7, 8, 9] [] rfl rfl (by decide) (by decide) (va_runV (As := [.int x3, .int x4, .int x5, .int (-1), .int (-1)]) (rest := []) ⟨hx, hb, hml, hown, hts⟩ (c_mKeep l D cI cL cL g fl rn fs lt kk mk mf ml ma il sz tt fh hd x3 x4 x5 (-1) (-1) _) (gk_cwV hts w_153 w_154 w_155 w_145 k_mKeep rfl e_mKeep rfl rfl ⟨Nat.le_of_ble_eq_true rfl, Nat.le_of_ble_eq_true rfl⟩) (gk_preV hW [0, 1, 2, 3, 4, 5, 6, 7, 8, 9] rfl rfl rfl rfl) rfl rfl hl.1 rfl (lv_room (Nat.le_of_ble_eq_true rfl)) d_mReplace_8 ⟨Nat.le_of_ble_eq_true rfl, Nat.le_of_ble_eq_true rfl⟩) (fun u H locs p_12 hW => ?_)
  subst p_12
  have hW : gk_W D vwCl (gk_T cI cL) s A H locs (wd_M cI cL g fl rn fs lt kk mk mf ml ma il sz tt (mm_mKeep x3 x4 x5 (-1) (-1) fh) hd) := hW.re [0, 1, 2, 3, 4, 5, 6, 7, 8, 9] (by decide) rfl
  refine lv_aload_n hx hb d_mReplace_11 rfl (lv_at hl 0 rfl) ?_
  refine lv_iconst (v := 3) hx hb d_mReplace_12 (by decide) ?_
  refine gk_goR hW [0, 1, 2, 3, 4, 5, 6, 7, 8, 9] rfl (va_runV (As := [.int 3]) (rest := []) ⟨hx, hb, hml, hown, hts⟩ (c_mGiven l D cI cL cL g fl rn fs lt kk mk mf ml ma il sz tt (mm_mKeep x3 x4 x5 (-1) (-1) fh) hd 3 3 (show gk_v 3 3 from rfl) (by omega) _) (gk_cwV hts w_156 w_157 w_158 w_145 k_mGiven rfl e_mGiven rfl rfl ⟨Nat.le_of_ble_eq_true rfl, Nat.le_of_ble_eq_true rfl⟩) (gk_preV hW [0, 1, 2, 3, 4, 5, 6, 7, 8, 9] rfl rfl rfl rfl) rfl rfl hl.1 rfl (lv_room (Nat.le_of_ble_eq_true rfl)) d_mReplace_13 ⟨Nat.le_of_ble_eq_true rfl, Nat.le_of_ble_eq_true rfl⟩) (fun H locs hW => ?_)
  obtain ⟨zg_13, vg_13, hg_13⟩ := mm_mGiven_bd 3 (mm_mKeep x3 x4 x5 (-1) (-1) fh) 3 (show gk_v 3 3 from rfl) (by omega)
  refine lv_istore (lv' := [(6, .int (mm_mGiven 3 (mm_mKeep x3 x4 x5 (-1) (-1) fh))), (0, .ref (g 0)), (1, .int x1), (2, .int x2), (3, .int x3), (4, .int x4), (5, .int x5)]) hx hb d_mReplace_16 hl (by decide) rfl (fun ls hl => ?_)
  refine lv_iload_n hx hb d_mReplace_18 rfl (lv_at hl 2 rfl) ?_
  refine lv_if_lt (tgt := 39) hx hb d_mReplace_19 (by decide) (fun c_14 => ?_) (fun c_14 => ?_)
  · replace heq := (if_pos c_14).symm.trans heq
    have ic_14 := gk_lt v_x1 (show gk_v 0 0 from rfl) c_14
    refine lv_iconst (v := 0) hx hb d_mReplace_39 (by decide) ?_
    refine lv_istore (lv' := [(7, .int 0), (6, .int (mm_mGiven 3 (mm_mKeep x3 x4 x5 (-1) (-1) fh))), (0, .ref (g 0)), (1, .int x1), (2, .int x2), (3, .int x3), (4, .int x4), (5, .int x5)]) hx hb d_mReplace_40 hl (by decide) rfl (fun ls hl => ?_)
    refine lv_aload_n hx hb d_mReplace_42 rfl (lv_at hl 2 rfl) ?_
    refine lv_iload hx hb d_mReplace_43 (lv_at hl 0 rfl) ?_
    refine lv_if_ne (tgt := 52) hx hb d_mReplace_45 (by decide) (fun c_15 => absurd c_15 (by decide)) (fun _ => ?_)
    refine lv_iconst (v := 1) hx hb d_mReplace_48 (by decide) ?_
    refine lv_goto (tgt := 87) hx hb d_mReplace_49 (by decide) ?_
    refine gk_goI (wr := []) hW [0, 1, 2, 3, 4, 5, 6, 7, 8, 9] [] rfl rfl (by decide) (by decide) (va_runV (As := [.int 1]) (rest := []) ⟨hx, hb, hml, hown, hts⟩ (c_mRefused l D cI cL cL g fl rn fs lt kk mk mf ml ma il sz tt (mm_mKeep x3 x4 x5 (-1) (-1) fh) hd 1 _) (gk_cwV hts w_146 w_147 w_148 w_145 k_mRefused rfl e_mRefused rfl rfl ⟨Nat.le_of_ble_eq_true rfl, Nat.le_of_ble_eq_true rfl⟩) (gk_preV hW [0, 1, 2, 3, 4, 5, 6, 7, 8, 9] rfl rfl rfl rfl) rfl rfl hl.1 rfl (lv_room (Nat.le_of_ble_eq_true rfl)) d_mReplace_87 ⟨Nat.le_of_ble_eq_true rfl, Nat.le_of_ble_eq_true rfl⟩) (fun r_16 u H locs p_18 hW => ?_)
    obtain ⟨rfl, rfl⟩ : r_16 = 1 ∧ u = 1 := Prod.mk.inj (p_18.trans (show (mm_mRefused 1 fl) = (1, 1) from rfl))
    have hW : gk_W D vwCl (gk_T cI cL) s A H locs (wd_M cI cL g 1 rn fs lt kk mk mf ml ma il sz tt (mm_mKeep x3 x4 x5 (-1) (-1) fh) hd) := hW.re [0, 1, 2, 3, 4, 5, 6, 7, 8, 9] (by decide) rfl
    refine lv_if_eq (tgt := 95) hx hb d_mReplace_90 (by decide) (fun c_19 => absurd c_19 (by decide)) (fun _ => ?_)
    refine lv_iconst (v := 0) hx hb d_mReplace_93 (by decide) ?_
    exact X _ (1, sz, tt, (mm_mKeep x3 x4 x5 (-1) (-1) fh)) H locs 0 0 94 ls heq hW d_mReplace_94 rfl (Nat.le_of_ble_eq_true rfl) (Nat.le_of_ble_eq_true rfl)
  · replace heq := (if_neg c_14).symm.trans heq
    have ic_14 := gk_nlt v_x1 (show gk_v 0 0 from rfl) c_14
    refine lv_iload_n hx hb d_mReplace_22 rfl (lv_at hl 2 rfl) ?_
    refine lv_iload_n hx hb d_mReplace_23 rfl (lv_at hl 3 rfl) ?_
    refine lv_icmp_gt (tgt := 39) hx hb d_mReplace_24 (by decide) (fun c_20 => ?_) (fun c_20 => ?_)
    · replace heq := (if_pos c_20).symm.trans heq
      have ic_20 := gk_lt v_x2 v_x1 c_20
      refine lv_iconst (v := 0) hx hb d_mReplace_39 (by decide) ?_
      refine lv_istore (lv' := [(7, .int 0), (6, .int (mm_mGiven 3 (mm_mKeep x3 x4 x5 (-1) (-1) fh))), (0, .ref (g 0)), (1, .int x1), (2, .int x2), (3, .int x3), (4, .int x4), (5, .int x5)]) hx hb d_mReplace_40 hl (by decide) rfl (fun ls hl => ?_)
      refine lv_aload_n hx hb d_mReplace_42 rfl (lv_at hl 2 rfl) ?_
      refine lv_iload hx hb d_mReplace_43 (lv_at hl 0 rfl) ?_
      refine lv_if_ne (tgt := 52) hx hb d_mReplace_45 (by decide) (fun c_21 => absurd c_21 (by decide)) (fun _ => ?_)
      refine lv_iconst (v := 1) hx hb d_mReplace_48 (by decide) ?_
      refine lv_goto (tgt := 87) hx hb d_mReplace_49 (by decide) ?_
      refine gk_goI (wr := []) hW [0, 1, 2, 3, 4, 5, 6, 7, 8, 9] [] rfl rfl (by decide) (by decide) (va_runV (As := [.int 1]) (rest := []) ⟨hx, hb, hml, hown, hts⟩ (c_mRefused l D cI cL cL g fl rn fs lt kk mk mf ml ma il sz tt (mm_mKeep x3 x4 x5 (-1) (-1) fh) hd 1 _) (gk_cwV hts w_146 w_147 w_148 w_145 k_mRefused rfl e_mRefused rfl rfl ⟨Nat.le_of_ble_eq_true rfl, Nat.le_of_ble_eq_true rfl⟩) (gk_preV hW [0, 1, 2, 3, 4, 5, 6, 7, 8, 9] rfl rfl rfl rfl) rfl rfl hl.1 rfl (lv_room (Nat.le_of_ble_eq_true rfl)) d_mReplace_87 ⟨Nat.le_of_ble_eq_true rfl, Nat.le_of_ble_eq_true rfl⟩) (fun r_22 u H locs p_24 hW => ?_)
      obtain ⟨rfl, rfl⟩ : r_22 = 1 ∧ u = 1 := Prod.mk.inj (p_24.trans (show (mm_mRefused 1 fl) = (1, 1) from rfl))
      have hW : gk_W D vwCl (gk_T cI cL) s A H locs (wd_M cI cL g 1 rn fs lt kk mk mf ml ma il sz tt (mm_mKeep x3 x4 x5 (-1) (-1) fh) hd) := hW.re [0, 1, 2, 3, 4, 5, 6, 7, 8, 9] (by decide) rfl
      refine lv_if_eq (tgt := 95) hx hb d_mReplace_90 (by decide) (fun c_25 => absurd c_25 (by decide)) (fun _ => ?_)
      refine lv_iconst (v := 0) hx hb d_mReplace_93 (by decide) ?_
      exact X _ (1, sz, tt, (mm_mKeep x3 x4 x5 (-1) (-1) fh)) H locs 0 0 94 ls heq hW d_mReplace_94 rfl (Nat.le_of_ble_eq_true rfl) (Nat.le_of_ble_eq_true rfl)
    · replace heq := (if_neg c_20).symm.trans heq
      have ic_20 := gk_nlt v_x2 v_x1 c_20
      refine lv_iload_n hx hb d_mReplace_27 rfl (lv_at hl 3 rfl) ?_
      refine lv_aload_n hx hb d_mReplace_28 rfl (lv_at hl 1 rfl) ?_
      refine va_get (D := D) (C := R_M) (T := F_M) (N := 14) hx hb hts i_M hown hW.1 hW.2.1 0 rfl rfl 10 (by decide) (hts _ w_140) (fun _ h9 => h9) rfl d_mReplace_29 ?_
      refine lv_icmp_gt (tgt := 39) hx hb d_mReplace_32 (by decide) (fun c_26 => ?_) (fun c_26 => ?_)
      · replace heq := (if_pos c_26).symm.trans heq
        have ic_26 := gk_lt v_sz v_x2 c_26
        refine lv_iconst (v := 0) hx hb d_mReplace_39 (by decide) ?_
        refine lv_istore (lv' := [(7, .int 0), (6, .int (mm_mGiven 3 (mm_mKeep x3 x4 x5 (-1) (-1) fh))), (0, .ref (g 0)), (1, .int x1), (2, .int x2), (3, .int x3), (4, .int x4), (5, .int x5)]) hx hb d_mReplace_40 hl (by decide) rfl (fun ls hl => ?_)
        refine lv_aload_n hx hb d_mReplace_42 rfl (lv_at hl 2 rfl) ?_
        refine lv_iload hx hb d_mReplace_43 (lv_at hl 0 rfl) ?_
        refine lv_if_ne (tgt := 52) hx hb d_mReplace_45 (by decide) (fun c_27 => absurd c_27 (by decide)) (fun _ => ?_)
        refine lv_iconst (v := 1) hx hb d_mReplace_48 (by decide) ?_
        refine lv_goto (tgt := 87) hx hb d_mReplace_49 (by decide) ?_
        refine gk_goI (wr := []) hW [0, 1, 2, 3, 4, 5, 6, 7, 8, 9] [] rfl rfl (by decide) (by decide) (va_runV (As := [.int 1]) (rest := []) ⟨hx, hb, hml, hown, hts⟩ (c_mRefused l D cI cL cL g fl rn fs lt kk mk mf ml ma il sz tt (mm_mKeep x3 x4 x5 (-1) (-1) fh) hd 1 _) (gk_cwV hts w_146 w_147 w_148 w_145 k_mRefused rfl e_mRefused rfl rfl ⟨Nat.le_of_ble_eq_true rfl, Nat.le_of_ble_eq_true rfl⟩) (gk_preV hW [0, 1, 2, 3, 4, 5, 6, 7, 8, 9] rfl rfl rfl rfl) rfl rfl hl.1 rfl (lv_room (Nat.le_of_ble_eq_true rfl)) d_mReplace_87 ⟨Nat.le_of_ble_eq_true rfl, Nat.le_of_ble_eq_true rfl⟩) (fun r_28 u H locs p_30 hW => ?_)
        obtain ⟨rfl, rfl⟩ : r_28 = 1 ∧ u = 1 := Prod.mk.inj (p_30.trans (show (mm_mRefused 1 fl) = (1, 1) from rfl))
        have hW : gk_W D vwCl (gk_T cI cL) s A H locs (wd_M cI cL g 1 rn fs lt kk mk mf ml ma il sz tt (mm_mKeep x3 x4 x5 (-1) (-1) fh) hd) := hW.re [0, 1, 2, 3, 4, 5, 6, 7, 8, 9] (by decide) rfl
        refine lv_if_eq (tgt := 95) hx hb d_mReplace_90 (by decide) (fun c_31 => absurd c_31 (by decide)) (fun _ => ?_)
        refine lv_iconst (v := 0) hx hb d_mReplace_93 (by decide) ?_
        exact X _ (1, sz, tt, (mm_mKeep x3 x4 x5 (-1) (-1) fh)) H locs 0 0 94 ls heq hW d_mReplace_94 rfl (Nat.le_of_ble_eq_true rfl) (Nat.le_of_ble_eq_true rfl)
      · replace heq := (if_neg c_26).symm.trans heq
        have ic_26 := gk_nlt v_sz v_x2 c_26
        refine lv_iconst (v := 1) hx hb d_mReplace_35 (by decide) ?_
        refine lv_goto (tgt := 40) hx hb d_mReplace_36 (by decide) ?_
        refine lv_istore (lv' := [(7, .int 1), (6, .int (mm_mGiven 3 (mm_mKeep x3 x4 x5 (-1) (-1) fh))), (0, .ref (g 0)), (1, .int x1), (2, .int x2), (3, .int x3), (4, .int x4), (5, .int x5)]) hx hb d_mReplace_40 hl (by decide) rfl (fun ls hl => ?_)
        refine lv_aload_n hx hb d_mReplace_42 rfl (lv_at hl 2 rfl) ?_
        refine lv_iload hx hb d_mReplace_43 (lv_at hl 0 rfl) ?_
        refine lv_if_ne (tgt := 52) hx hb d_mReplace_45 (by decide) (fun _ => ?_) (fun c_32 => absurd c_32 (by decide))
        refine lv_aload_n hx hb d_mReplace_52 rfl (lv_at hl 2 rfl) ?_
        refine lv_iload hx hb d_mReplace_53 (lv_at hl 1 rfl) ?_
        refine gk_goR hW [0, 1, 2, 3, 4, 5, 6, 7, 8, 9] rfl (va_runV (As := [.int (mm_mGiven 3 (mm_mKeep x3 x4 x5 (-1) (-1) fh))]) (rest := [.ref (g 0)]) ⟨hx, hb, hml, hown, hts⟩ (c_mIsSound l D cI cL cL g fl rn fs lt kk mk mf ml ma il sz tt (mm_mKeep x3 x4 x5 (-1) (-1) fh) hd (mm_mGiven 3 (mm_mKeep x3 x4 x5 (-1) (-1) fh)) zg_13 vg_13 (by omega) _) (gk_cwV hts w_159 w_160 w_161 w_145 k_mIsSound rfl e_mIsSound rfl rfl ⟨Nat.le_of_ble_eq_true rfl, Nat.le_of_ble_eq_true rfl⟩) (gk_preV hW [0, 1, 2, 3, 4, 5, 6, 7, 8, 9] rfl rfl rfl rfl) rfl rfl hl.1 rfl (lv_room (Nat.le_of_ble_eq_true rfl)) d_mReplace_55 ⟨Nat.le_of_ble_eq_true rfl, Nat.le_of_ble_eq_true rfl⟩) (fun H locs hW => ?_)
        refine lv_if_ne (tgt := 65) hx hb d_mReplace_58 (by decide) (fun c_33 => ?_) (fun c_33 => ?_)
        · replace heq := (if_neg c_33).symm.trans heq
          refine lv_aload_n hx hb d_mReplace_65 rfl (lv_at hl 2 rfl) ?_
          refine va_get (D := D) (C := R_M) (T := F_M) (N := 14) hx hb hts i_M hown hW.1 hW.2.1 0 rfl rfl 10 (by decide) (hts _ w_140) (fun _ h9 => h9) rfl d_mReplace_66 ?_
          refine lv_iload_n hx hb d_mReplace_69 rfl (lv_at hl 4 rfl) ?_
          refine lv_iload_n hx hb d_mReplace_70 rfl (lv_at hl 3 rfl) ?_
          refine lv_isub hx hb d_mReplace_71 ?_
          obtain ⟨zt_34, vt_34, et_34⟩ := gk_sub v_x2 v_x1 (by omega) (by omega)
          refine lv_isub hx hb d_mReplace_72 ?_
          obtain ⟨zt_35, vt_35, et_35⟩ := gk_sub v_sz vt_34 (by omega) (by omega)
          refine lv_iload hx hb d_mReplace_73 (lv_at hl 1 rfl) ?_
          refine lv_iadd hx hb d_mReplace_75 ?_
          obtain ⟨zt_36, vt_36, et_36⟩ := gk_add vt_35 vg_13 (by omega) (by omega)
          refine lv_sipush (v := 2000) hx hb d_mReplace_76 (by decide) ?_
          refine lv_icmp_le (tgt := 86) hx hb d_mReplace_79 (by decide) (fun c_37 => ?_) (fun c_37 => ?_)
          · replace heq := (if_pos c_37).symm.trans heq
            have ic_37 := gk_le vt_36 (show gk_v 2000 2000 from rfl) c_37
            refine lv_iconst (v := 0) hx hb d_mReplace_86 (by decide) ?_
            refine gk_goI (wr := []) hW [0, 1, 2, 3, 4, 5, 6, 7, 8, 9] [] rfl rfl (by decide) (by decide) (va_runV (As := [.int 0]) (rest := []) ⟨hx, hb, hml, hown, hts⟩ (c_mRefused l D cI cL cL g fl rn fs lt kk mk mf ml ma il sz tt (mm_mKeep x3 x4 x5 (-1) (-1) fh) hd 0 _) (gk_cwV hts w_146 w_147 w_148 w_145 k_mRefused rfl e_mRefused rfl rfl ⟨Nat.le_of_ble_eq_true rfl, Nat.le_of_ble_eq_true rfl⟩) (gk_preV hW [0, 1, 2, 3, 4, 5, 6, 7, 8, 9] rfl rfl rfl rfl) rfl rfl hl.1 rfl (lv_room (Nat.le_of_ble_eq_true rfl)) d_mReplace_87 ⟨Nat.le_of_ble_eq_true rfl, Nat.le_of_ble_eq_true rfl⟩) (fun r_38 u H locs p_40 hW => ?_)
            obtain ⟨rfl, rfl⟩ : r_38 = 0 ∧ u = 0 := Prod.mk.inj (p_40.trans (show (mm_mRefused 0 fl) = (0, 0) from rfl))
            have hW : gk_W D vwCl (gk_T cI cL) s A H locs (wd_M cI cL g 0 rn fs lt kk mk mf ml ma il sz tt (mm_mKeep x3 x4 x5 (-1) (-1) fh) hd) := hW.re [0, 1, 2, 3, 4, 5, 6, 7, 8, 9] (by decide) rfl
            refine lv_if_eq (tgt := 95) hx hb d_mReplace_90 (by decide) (fun _ => ?_) (fun c_41 => absurd c_41 (by decide))
            refine lv_iload hx hb d_mReplace_95 (lv_at hl 1 rfl) ?_
            refine lv_iload_n hx hb d_mReplace_97 rfl (lv_at hl 4 rfl) ?_
            refine lv_iload_n hx hb d_mReplace_98 rfl (lv_at hl 3 rfl) ?_
            refine lv_isub hx hb d_mReplace_99 ?_
            obtain ⟨zt_42, vt_42, et_42⟩ := gk_sub v_x2 v_x1 (by omega) (by omega)
            refine lv_isub hx hb d_mReplace_100 ?_
            obtain ⟨zt_43, vt_43, et_43⟩ := gk_sub vg_13 vt_42 (by omega) (by omega)
            refine lv_istore (lv' := [(8, .int ((mm_mGiven 3 (mm_mKeep x3 x4 x5 (-1) (-1) fh)) - (x2 - x1))), (7, .int 1), (6, .int (mm_mGiven 3 (mm_mKeep x3 x4 x5 (-1) (-1) fh))), (0, .ref (g 0)), (1, .int x1), (2, .int x2), (3, .int x3), (4, .int x4), (5, .int x5)]) hx hb d_mReplace_101 hl (by decide) rfl (fun ls hl => ?_)
            refine lv_iload hx hb d_mReplace_103 (lv_at hl 0 rfl) ?_
            refine lv_if_le (tgt := 148) hx hb d_mReplace_105 (by decide) (fun c_44 => ?_) (fun c_44 => ?_)
            · replace heq := (if_pos c_44).symm.trans heq
              have ic_44 := gk_le vt_43 (show gk_v 0 0 from rfl) c_44
              refine lv_iload_n hx hb d_mReplace_148 rfl (lv_at hl 5 rfl) ?_
              refine lv_istore (lv' := [(9, .int x2), (8, .int ((mm_mGiven 3 (mm_mKeep x3 x4 x5 (-1) (-1) fh)) - (x2 - x1))), (7, .int 1), (6, .int (mm_mGiven 3 (mm_mKeep x3 x4 x5 (-1) (-1) fh))), (0, .ref (g 0)), (1, .int x1), (2, .int x2), (3, .int x3), (4, .int x4), (5, .int x5)]) hx hb d_mReplace_149 hl (by decide) rfl (fun ls hl => ?_)
              exact L151 2001 (mm_mGiven 3 (mm_mKeep x3 x4 x5 (-1) (-1) fh)) 1 ((mm_mGiven 3 (mm_mKeep x3 x4 x5 (-1) (-1) fh)) - (x2 - x1)) x2 0 sz tt (mm_mKeep x3 x4 x5 (-1) (-1) fh) H locs ls z_sz v_sz zg_13 vg_13 zt_43 vt_43 z_x2 v_x2 (by omega) (by omega) (by omega) heq hW (lv_sub hl [4, 5, 6, 7, 8, 9, 3, 2, 1, 0] rfl)
            · replace heq := (if_neg c_44).symm.trans heq
              have ic_44 := gk_nle vt_43 (show gk_v 0 0 from rfl) c_44
              refine lv_aload_n hx hb d_mReplace_108 rfl (lv_at hl 3 rfl) ?_
              refine va_get (D := D) (C := R_M) (T := F_M) (N := 14) hx hb hts i_M hown hW.1 hW.2.1 0 rfl rfl 10 (by decide) (hts _ w_140) (fun _ h9 => h9) rfl d_mReplace_109 ?_
              refine lv_iconst (v := 1) hx hb d_mReplace_112 (by decide) ?_
              refine lv_isub hx hb d_mReplace_113 ?_
              obtain ⟨zt_45, vt_45, et_45⟩ := gk_sub v_sz (show gk_v 1 1 from rfl) (by omega) (by omega)
              refine lv_istore (lv' := [(9, .int (sz - 1)), (8, .int ((mm_mGiven 3 (mm_mKeep x3 x4 x5 (-1) (-1) fh)) - (x2 - x1))), (7, .int 1), (6, .int (mm_mGiven 3 (mm_mKeep x3 x4 x5 (-1) (-1) fh))), (0, .ref (g 0)), (1, .int x1), (2, .int x2), (3, .int x3), (4, .int x4), (5, .int x5)]) hx hb d_mReplace_114 hl (by decide) rfl (fun ls hl => ?_)
              exact L116 2001 (mm_mGiven 3 (mm_mKeep x3 x4 x5 (-1) (-1) fh)) 1 ((mm_mGiven 3 (mm_mKeep x3 x4 x5 (-1) (-1) fh)) - (x2 - x1)) (sz - 1) 0 sz tt (mm_mKeep x3 x4 x5 (-1) (-1) fh) H locs ls z_sz v_sz zg_13 vg_13 zt_43 vt_43 zt_45 vt_45 (by omega) (by omega) (by omega) heq hW (lv_sub hl [4, 5, 6, 7, 8, 9, 3, 2, 1, 0] rfl)
          · replace heq := (if_neg c_37).symm.trans heq
            have ic_37 := gk_nle vt_36 (show gk_v 2000 2000 from rfl) c_37
            refine lv_iconst (v := 3) hx hb d_mReplace_82 (by decide) ?_
            refine lv_goto (tgt := 87) hx hb d_mReplace_83 (by decide) ?_
            refine gk_goI (wr := []) hW [0, 1, 2, 3, 4, 5, 6, 7, 8, 9] [] rfl rfl (by decide) (by decide) (va_runV (As := [.int 3]) (rest := []) ⟨hx, hb, hml, hown, hts⟩ (c_mRefused l D cI cL cL g fl rn fs lt kk mk mf ml ma il sz tt (mm_mKeep x3 x4 x5 (-1) (-1) fh) hd 3 _) (gk_cwV hts w_146 w_147 w_148 w_145 k_mRefused rfl e_mRefused rfl rfl ⟨Nat.le_of_ble_eq_true rfl, Nat.le_of_ble_eq_true rfl⟩) (gk_preV hW [0, 1, 2, 3, 4, 5, 6, 7, 8, 9] rfl rfl rfl rfl) rfl rfl hl.1 rfl (lv_room (Nat.le_of_ble_eq_true rfl)) d_mReplace_87 ⟨Nat.le_of_ble_eq_true rfl, Nat.le_of_ble_eq_true rfl⟩) (fun r_46 u H locs p_48 hW => ?_)
            obtain ⟨rfl, rfl⟩ : r_46 = 1 ∧ u = 3 := Prod.mk.inj (p_48.trans (show (mm_mRefused 3 fl) = (1, 3) from rfl))
            have hW : gk_W D vwCl (gk_T cI cL) s A H locs (wd_M cI cL g 3 rn fs lt kk mk mf ml ma il sz tt (mm_mKeep x3 x4 x5 (-1) (-1) fh) hd) := hW.re [0, 1, 2, 3, 4, 5, 6, 7, 8, 9] (by decide) rfl
            refine lv_if_eq (tgt := 95) hx hb d_mReplace_90 (by decide) (fun c_49 => absurd c_49 (by decide)) (fun _ => ?_)
            refine lv_iconst (v := 0) hx hb d_mReplace_93 (by decide) ?_
            exact X _ (3, sz, tt, (mm_mKeep x3 x4 x5 (-1) (-1) fh)) H locs 0 0 94 ls heq hW d_mReplace_94 rfl (Nat.le_of_ble_eq_true rfl) (Nat.le_of_ble_eq_true rfl)
        · replace heq := (if_pos c_33).symm.trans heq
          refine lv_iconst (v := 2) hx hb d_mReplace_61 (by decide) ?_
          refine lv_goto (tgt := 87) hx hb d_mReplace_62 (by decide) ?_
          refine gk_goI (wr := []) hW [0, 1, 2, 3, 4, 5, 6, 7, 8, 9] [] rfl rfl (by decide) (by decide) (va_runV (As := [.int 2]) (rest := []) ⟨hx, hb, hml, hown, hts⟩ (c_mRefused l D cI cL cL g fl rn fs lt kk mk mf ml ma il sz tt (mm_mKeep x3 x4 x5 (-1) (-1) fh) hd 2 _) (gk_cwV hts w_146 w_147 w_148 w_145 k_mRefused rfl e_mRefused rfl rfl ⟨Nat.le_of_ble_eq_true rfl, Nat.le_of_ble_eq_true rfl⟩) (gk_preV hW [0, 1, 2, 3, 4, 5, 6, 7, 8, 9] rfl rfl rfl rfl) rfl rfl hl.1 rfl (lv_room (Nat.le_of_ble_eq_true rfl)) d_mReplace_87 ⟨Nat.le_of_ble_eq_true rfl, Nat.le_of_ble_eq_true rfl⟩) (fun r_50 u H locs p_52 hW => ?_)
          obtain ⟨rfl, rfl⟩ : r_50 = 1 ∧ u = 2 := Prod.mk.inj (p_52.trans (show (mm_mRefused 2 fl) = (1, 2) from rfl))
          have hW : gk_W D vwCl (gk_T cI cL) s A H locs (wd_M cI cL g 2 rn fs lt kk mk mf ml ma il sz tt (mm_mKeep x3 x4 x5 (-1) (-1) fh) hd) := hW.re [0, 1, 2, 3, 4, 5, 6, 7, 8, 9] (by decide) rfl
          refine lv_if_eq (tgt := 95) hx hb d_mReplace_90 (by decide) (fun c_53 => absurd c_53 (by decide)) (fun _ => ?_)
          refine lv_iconst (v := 0) hx hb d_mReplace_93 (by decide) ?_
          exact X _ (2, sz, tt, (mm_mKeep x3 x4 x5 (-1) (-1) fh)) H locs 0 0 94 ls heq hW d_mReplace_94 rfl (Nat.le_of_ble_eq_true rfl) (Nat.le_of_ble_eq_true rfl)
