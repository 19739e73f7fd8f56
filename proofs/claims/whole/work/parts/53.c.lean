def mm_mMiddle_200 (x1 x2 x3 rn : Int32) (fs lt kk : Nat → Int32) (il : Int32) (tt : Nat → Int32) (x4 hd : Int32) : Int32 × Int32 := if x2 = 4 then (180, 1) else (if x2 = 21 then (190, 0) else (if x3 = 21 then (190, 0) else (if x2 = 14 then (200, 1) else (if x3 = 14 then (200, 1) else (0, hd)))))
def mm_mMiddle_178 (x1 x2 x3 rn : Int32) (fs lt kk : Nat → Int32) (il : Int32) (tt : Nat → Int32) (x4 hd : Int32) : Int32 × Int32 := if x4 = 10 then (if x3 = 10 then (170, 0) else (mm_mMiddle_200 x1 x2 x3 rn fs lt kk il tt x4 hd)) else (mm_mMiddle_200 x1 x2 x3 rn fs lt kk il tt x4 hd)
def mm_mMiddle_163 (x1 x2 x3 rn : Int32) (fs lt kk : Nat → Int32) (il : Int32) (tt : Nat → Int32) (x4 hd : Int32) : Int32 × Int32 := if x3 = 19 then (160, 0) else (mm_mMiddle_178 x1 x2 x3 rn fs lt kk il tt x4 hd)
def mm_mMiddle_149 (x1 x2 x3 rn : Int32) (fs lt kk : Nat → Int32) (il : Int32) (tt : Nat → Int32) (x4 hd : Int32) : Int32 × Int32 := if x4 = 15 then (mm_mMiddle_163 x1 x2 x3 rn fs lt kk il tt x4 hd) else (if x4 = 16 then (mm_mMiddle_163 x1 x2 x3 rn fs lt kk il tt x4 hd) else (mm_mMiddle_178 x1 x2 x3 rn fs lt kk il tt x4 hd))
def mm_mMiddle_65 (x1 x2 x3 rn : Int32) (fs lt kk : Nat → Int32) (il : Int32) (tt : Nat → Int32) (hd : Int32) : Int32 × Int32 := if x3 = 15 then (130, 0) else (if x3 = 16 then (130, 0) else (if x3 = 17 then (130, 0) else (if x3 = 22 then (130, 0) else (if x3 = 26 then (130, 0) else (if (mm_mBeforeSpaces x1 rn fs lt kk il tt) = 20 then (140, 0) else (if (mm_mBeforeSpaces x1 rn fs lt kk il tt) = 21 then (if x3 = 20 then (150, 0) else (mm_mMiddle_149 x1 x2 x3 rn fs lt kk il tt (mm_mBeforeSpaces x1 rn fs lt kk il tt) hd)) else (mm_mMiddle_149 x1 x2 x3 rn fs lt kk il tt (mm_mBeforeSpaces x1 rn fs lt kk il tt) hd)))))))
def mm_mMiddle (x1 x2 x3 rn : Int32) (fs lt kk : Nat → Int32) (il : Int32) (tt : Nat → Int32) (hd : Int32) : Int32 × Int32 := if x2 = 6 then (110, 0) else (if x3 = 6 then (110, 0) else (if x2 = 9 then (120, 0) else (if x3 = 9 then (if x2 = 4 then (mm_mMiddle_65 x1 x2 x3 rn fs lt kk il tt hd) else (if x2 = 11 then (mm_mMiddle_65 x1 x2 x3 rn fs lt kk il tt hd) else (if x2 = 13 then (mm_mMiddle_65 x1 x2 x3 rn fs lt kk il tt hd) else (121, 0)))) else (mm_mMiddle_65 x1 x2 x3 rn fs lt kk il tt hd))))
def rm_mMiddle : Room := { frames := 5, cells := 0, slots := 0, locals := 112 }
set_option maxHeartbeats 4000000 in
set_option maxRecDepth 100000 in
theorem c_mMiddle (l : Launch) (D : va_G) (cI : ClassId) (cL cL : ClassId × ClassId) (g : Nat → Nat) (fl rn : Int32) (fs lt kk mk mf ml ma : Nat → Int32) (il sz : Int32) (tt fh : Nat → Int32) (hd x1 x2 x3 : Int32) (z_rn : Int) (v_rn : gk_v rn z_rn) (z_x1 : Int) (v_x1 : gk_v x1 z_x1) (hrn : 0 ≤ z_rn ∧ z_rn ≤ 100) (hx1 : 1 ≤ z_x1 ∧ z_x1 ≤ 2000) : gk_I l y_mMiddle (.code y_mMiddle b_mMiddle 5 (some .int) :: wA) rm_mMiddle D vwCl (gk_T cI cL) [.ref (g 0), .int x1, .int x2, .int x3] (wd_M cI cL g fl rn fs lt kk mk mf ml ma il sz tt fh hd) (fun (r : Int32) (u : Int32) => (r, u) = mm_mMiddle x1 x2 x3 rn fs lt kk il tt hd) (fun u => (wd_M cI cL g fl rn fs lt kk mk mf ml ma il sz tt fh u)) 0 0 := by
  refine gk_I.of (by decide) (Nat.le_of_ble_eq_true rfl) ?_
  intro p e s m below meth c A ls Q H locs hx hb hml hown hts hW hl X
  have hl : lv_has ls 5 [(0, .ref (g 0)), (1, .int x1), (2, .int x2), (3, .int x3)] := hl
  obtain ⟨tgt, heq⟩ : ∃ t, mm_mMiddle x1 x2 x3 rn fs lt kk il tt hd = t := ⟨_, rfl⟩
  rw [heq] at X
  rw [mm_mMiddle] at heq
  obtain ⟨z_x2, v_x2⟩ := gk_vex x2
  obtain ⟨z_x3, v_x3⟩ := gk_vex x3
  obtain ⟨z_il, v_il⟩ := gk_vex il
  have K200 : ∀ (x4 hd : Int32) (H : Heap) (locs : List Loc) (ls : Array Slot), mm_mMiddle_200 x1 x2 x3 rn fs lt kk il tt x4 hd = tgt → gk_W D vwCl (gk_T cI cL) s A H locs (wd_M cI cL g fl rn fs lt kk mk mf ml ma il sz tt fh hd) → lv_has ls 5 [(0, .ref (g 0)), (1, .int x1), (2, .int x2), (3, .int x3), (4, .int x4)] → W p l e rm_mMiddle s m [.ref (g 0), .int x1, .int x2, .int x3].toArray below meth c H locs 0 0 Q (F0 m 200 ls []) := by
    intro x4 hd H locs ls heq hW hl
    rw [mm_mMiddle_200] at heq
    refine lv_iload_n hx hb d_mMiddle_200 rfl (lv_at hl 2 rfl) ?_
    refine lv_iconst (v := 4) hx hb d_mMiddle_201 (by decide) ?_
    refine lv_icmp_ne (tgt := 214) hx hb d_mMiddle_202 (by decide) (fun c_1 => ?_) (fun c_1 => ?_)
    · replace heq := (if_neg c_1).symm.trans heq
      refine lv_iload_n hx hb d_mMiddle_214 rfl (lv_at hl 2 rfl) ?_
      refine lv_bipush (v := 21) hx hb d_mMiddle_215 (by decide) ?_
      refine lv_icmp_eq (tgt := 226) hx hb d_mMiddle_217 (by decide) (fun c_2 => ?_) (fun c_2 => ?_)
      · replace heq := (if_pos c_2).symm.trans heq
        refine lv_aload_n hx hb d_mMiddle_226 rfl (lv_at hl 0 rfl) ?_
        refine lv_sipush (v := 190) hx hb d_mMiddle_227 (by decide) ?_
        refine lv_iconst (v := 0) hx hb d_mMiddle_230 (by decide) ?_
        refine gk_goI (wr := []) hW [0, 1, 2, 3, 4, 5, 6, 7, 8, 9] [] rfl rfl (by decide) (by decide) (va_runV (As := [.int 190, .int 0]) (rest := []) ⟨hx, hb, hml, hown, hts⟩ (c_mTell l D cI cL cL g fl rn fs lt kk mk mf ml ma il sz tt fh hd 190 0 _) (gk_cwV hts w_176 w_177 w_178 w_145 k_mTell rfl e_mTell rfl rfl ⟨Nat.le_of_ble_eq_true rfl, Nat.le_of_ble_eq_true rfl⟩) (gk_preV hW [0, 1, 2, 3, 4, 5, 6, 7, 8, 9] rfl rfl rfl rfl) rfl rfl hl.1 rfl (lv_room (Nat.le_of_ble_eq_true rfl)) d_mMiddle_231 ⟨Nat.le_of_ble_eq_true rfl, Nat.le_of_ble_eq_true rfl⟩) (fun r_3 u H locs p_5 hW => ?_)
        obtain ⟨rfl, rfl⟩ : r_3 = 190 ∧ u = 0 := Prod.mk.inj (p_5.trans (show (mm_mTell 190 0 hd) = (190, 0) from rfl))
        have hW : gk_W D vwCl (gk_T cI cL) s A H locs (wd_M cI cL g fl rn fs lt kk mk mf ml ma il sz tt fh 0) := hW.re [0, 1, 2, 3, 4, 5, 6, 7, 8, 9] (by decide) rfl
        exact X _ 0 H locs 0 0 234 ls heq hW d_mMiddle_234 rfl (Nat.le_of_ble_eq_true rfl) (Nat.le_of_ble_eq_true rfl)
      · replace heq := (if_neg c_2).symm.trans heq
        refine lv_iload_n hx hb d_mMiddle_220 rfl (lv_at hl 3 rfl) ?_
        refine lv_bipush (v := 21) hx hb d_mMiddle_221 (by decide) ?_
        refine lv_icmp_ne (tgt := 235) hx hb d_mMiddle_223 (by decide) (fun c_6 => ?_) (fun c_6 => ?_)
        · replace heq := (if_neg c_6).symm.trans heq
          refine lv_iload_n hx hb d_mMiddle_235 rfl (lv_at hl 2 rfl) ?_
          refine lv_bipush (v := 14) hx hb d_mMiddle_236 (by decide) ?_
          refine lv_icmp_eq (tgt := 247) hx hb d_mMiddle_238 (by decide) (fun c_7 => ?_) (fun c_7 => ?_)
          · replace heq := (if_pos c_7).symm.trans heq
            refine lv_aload_n hx hb d_mMiddle_247 rfl (lv_at hl 0 rfl) ?_
            refine lv_sipush (v := 200) hx hb d_mMiddle_248 (by decide) ?_
            refine lv_iconst (v := 1) hx hb d_mMiddle_251 (by decide) ?_
            refine gk_goI (wr := []) hW [0, 1, 2, 3, 4, 5, 6, 7, 8, 9] [] rfl rfl (by decide) (by decide) (va_runV (As := [.int 200, .int 1]) (rest := []) ⟨hx, hb, hml, hown, hts⟩ (c_mTell l D cI cL cL g fl rn fs lt kk mk mf ml ma il sz tt fh hd 200 1 _) (gk_cwV hts w_176 w_177 w_178 w_145 k_mTell rfl e_mTell rfl rfl ⟨Nat.le_of_ble_eq_true rfl, Nat.le_of_ble_eq_true rfl⟩) (gk_preV hW [0, 1, 2, 3, 4, 5, 6, 7, 8, 9] rfl rfl rfl rfl) rfl rfl hl.1 rfl (lv_room (Nat.le_of_ble_eq_true rfl)) d_mMiddle_252 ⟨Nat.le_of_ble_eq_true rfl, Nat.le_of_ble_eq_true rfl⟩) (fun r_8 u H locs p_10 hW => ?_)
            obtain ⟨rfl, rfl⟩ : r_8 = 200 ∧ u = 1 := Prod.mk.inj (p_10.trans (show (mm_mTell 200 1 hd) = (200, 1) from rfl))
            have hW : gk_W D vwCl (gk_T cI cL) s A H locs (wd_M cI cL g fl rn fs lt kk mk mf ml ma il sz tt fh 1) := hW.re [0, 1, 2, 3, 4, 5, 6, 7, 8, 9] (by decide) rfl
            refine lv_goto (tgt := 259) hx hb d_mMiddle_255 (by decide) ?_
            exact X _ 1 H locs 0 0 259 ls heq hW d_mMiddle_259 rfl (Nat.le_of_ble_eq_true rfl) (Nat.le_of_ble_eq_true rfl)
          · replace heq := (if_neg c_7).symm.trans heq
            refine lv_iload_n hx hb d_mMiddle_241 rfl (lv_at hl 3 rfl) ?_
            refine lv_bipush (v := 14) hx hb d_mMiddle_242 (by decide) ?_
            refine lv_icmp_ne (tgt := 258) hx hb d_mMiddle_244 (by decide) (fun c_11 => ?_) (fun c_11 => ?_)
            · replace heq := (if_neg c_11).symm.trans heq
              refine lv_iconst (v := 0) hx hb d_mMiddle_258 (by decide) ?_
              exact X _ hd H locs 0 0 259 ls heq hW d_mMiddle_259 rfl (Nat.le_of_ble_eq_true rfl) (Nat.le_of_ble_eq_true rfl)
            · replace heq := (if_pos c_11).symm.trans heq
              refine lv_aload_n hx hb d_mMiddle_247 rfl (lv_at hl 0 rfl) ?_
              refine lv_sipush (v := 200) hx hb d_mMiddle_248 (by decide) ?_
              refine lv_iconst (v := 1) hx hb d_mMiddle_251 (by decide) ?_
              refine gk_goI (wr := []) hW [0, 1, 2, 3, 4, 5, 6, 7, 8, 9] [] rfl rfl (by decide) (by decide) (va_runV (As := [.int 200, .int 1]) (rest := []) ⟨hx, hb, hml, hown, hts⟩ (c_mTell l D cI cL cL g fl rn fs lt kk mk mf ml ma il sz tt fh hd 200 1 _) (gk_cwV hts w_176 w_177 w_178 w_145 k_mTell rfl e_mTell rfl rfl ⟨Nat.le_of_ble_eq_true rfl, Nat.le_of_ble_eq_true rfl⟩) (gk_preV hW [0, 1, 2, 3, 4, 5, 6, 7, 8, 9] rfl rfl rfl rfl) rfl rfl hl.1 rfl (lv_room (Nat.le_of_ble_eq_true rfl)) d_mMiddle_252 ⟨Nat.le_of_ble_eq_true rfl, Nat.le_of_ble_eq_true rfl⟩) (fun r_12 u H locs p_14 hW => ?_)
              obtain ⟨rfl, rfl⟩ : r_12 = 200 ∧ u = 1 := Prod.mk.inj (p_14.trans (show (mm_mTell 200 1 hd) = (200, 1) from rfl))
              have hW : gk_W D vwCl (gk_T cI cL) s A H locs (wd_M cI cL g fl rn fs lt kk mk mf ml ma il sz tt fh 1) := hW.re [0, 1, 2, 3, 4, 5, 6, 7, 8, 9] (by decide) rfl
              refine lv_goto (tgt := 259) hx hb d_mMiddle_255 (by decide) ?_
              exact X _ 1 H locs 0 0 259 ls heq hW d_mMiddle_259 rfl (Nat.le_of_ble_eq_true rfl) (Nat.le_of_ble_eq_true rfl)
        · replace heq := (if_pos c_6).symm.trans heq
          refine lv_aload_n hx hb d_mMiddle_226 rfl (lv_at hl 0 rfl) ?_
          refine lv_sipush (v := 190) hx hb d_mMiddle_227 (by decide) ?_
          refine lv_iconst (v := 0) hx hb d_mMiddle_230 (by decide) ?_
          refine gk_goI (wr := []) hW [0, 1, 2, 3, 4, 5, 6, 7, 8, 9] [] rfl rfl (by decide) (by decide) (va_runV (As := [.int 190, .int 0]) (rest := []) ⟨hx, hb, hml, hown, hts⟩ (c_mTell l D cI cL cL g fl rn fs lt kk mk mf ml ma il sz tt fh hd 190 0 _) (gk_cwV hts w_176 w_177 w_178 w_145 k_mTell rfl e_mTell rfl rfl ⟨Nat.le_of_ble_eq_true rfl, Nat.le_of_ble_eq_true rfl⟩) (gk_preV hW [0, 1, 2, 3, 4, 5, 6, 7, 8, 9] rfl rfl rfl rfl) rfl rfl hl.1 rfl (lv_room (Nat.le_of_ble_eq_true rfl)) d_mMiddle_231 ⟨Nat.le_of_ble_eq_true rfl, Nat.le_of_ble_eq_true rfl⟩) (fun r_15 u H locs p_17 hW => ?_)
          obtain ⟨rfl, rfl⟩ : r_15 = 190 ∧ u = 0 := Prod.mk.inj (p_17.trans (show (mm_mTell 190 0 hd) = (190, 0) from rfl))
          have hW : gk_W D vwCl (gk_T cI cL) s A H locs (wd_M cI cL g fl rn fs lt kk mk mf ml ma il sz tt fh 0) := hW.re [0, 1, 2, 3, 4, 5, 6, 7, 8, 9] (by decide) rfl
          exact X _ 0 H locs 0 0 234 ls heq hW d_mMiddle_234 rfl (Nat.le_of_ble_eq_true rfl) (Nat.le_of_ble_eq_true rfl)
    · replace heq := (if_pos c_1).symm.trans heq
      refine lv_aload_n hx hb d_mMiddle_205 rfl (lv_at hl 0 rfl) ?_
      refine lv_sipush (v := 180) hx hb d_mMiddle_206 (by decide) ?_
      refine lv_iconst (v := 1) hx hb d_mMiddle_209 (by decide) ?_
      refine gk_goI (wr := []) hW [0, 1, 2, 3, 4, 5, 6, 7, 8, 9] [] rfl rfl (by decide) (by decide) (va_runV (As := [.int 180, .int 1]) (rest := []) ⟨hx, hb, hml, hown, hts⟩ (c_mTell l D cI cL cL g fl rn fs lt kk mk mf ml ma il sz tt fh hd 180 1 _) (gk_cwV hts w_176 w_177 w_178 w_145 k_mTell rfl e_mTell rfl rfl ⟨Nat.le_of_ble_eq_true rfl, Nat.le_of_ble_eq_true rfl⟩) (gk_preV hW [0, 1, 2, 3, 4, 5, 6, 7, 8, 9] rfl rfl rfl rfl) rfl rfl hl.1 rfl (lv_room (Nat.le_of_ble_eq_true rfl)) d_mMiddle_210 ⟨Nat.le_of_ble_eq_true rfl, Nat.le_of_ble_eq_true rfl⟩) (fun r_18 u H locs p_20 hW => ?_)
      obtain ⟨rfl, rfl⟩ : r_18 = 180 ∧ u = 1 := Prod.mk.inj (p_20.trans (show (mm_mTell 180 1 hd) = (180, 1) from rfl))
      have hW : gk_W D vwCl (gk_T cI cL) s A H locs (wd_M cI cL g fl rn fs lt kk mk mf ml ma il sz tt fh 1) := hW.re [0, 1, 2, 3, 4, 5, 6, 7, 8, 9] (by decide) rfl
      exact X _ 1 H locs 0 0 213 ls heq hW d_mMiddle_213 rfl (Nat.le_of_ble_eq_true rfl) (Nat.le_of_ble_eq_true rfl)
  have K178 : ∀ (x4 hd : Int32) (H : Heap) (locs : List Loc) (ls : Array Slot), mm_mMiddle_178 x1 x2 x3 rn fs lt kk il tt x4 hd = tgt → gk_W D vwCl (gk_T cI cL) s A H locs (wd_M cI cL g fl rn fs lt kk mk mf ml ma il sz tt fh hd) → lv_has ls 5 [(0, .ref (g 0)), (1, .int x1), (2, .int x2), (3, .int x3), (4, .int x4)] → W p l e rm_mMiddle s m [.ref (g 0), .int x1, .int x2, .int x3].toArray below meth c H locs 0 0 Q (F0 m 178 ls []) := by
    intro x4 hd H locs ls heq hW hl
    rw [mm_mMiddle_178] at heq
    refine lv_iload hx hb d_mMiddle_178 (lv_at hl 4 rfl) ?_
    refine lv_bipush (v := 10) hx hb d_mMiddle_180 (by decide) ?_
    refine lv_icmp_ne (tgt := 200) hx hb d_mMiddle_182 (by decide) (fun c_21 => ?_) (fun c_21 => ?_)
    · replace heq := (if_neg c_21).symm.trans heq
      exact K200 x4 hd H locs ls heq hW (lv_sub hl [0, 1, 2, 3, 4] rfl)
    · replace heq := (if_pos c_21).symm.trans heq
      refine lv_iload_n hx hb d_mMiddle_185 rfl (lv_at hl 3 rfl) ?_
      refine lv_bipush (v := 10) hx hb d_mMiddle_186 (by decide) ?_
      refine lv_icmp_ne (tgt := 200) hx hb d_mMiddle_188 (by decide) (fun c_22 => ?_) (fun c_22 => ?_)
      · replace heq := (if_neg c_22).symm.trans heq
        exact K200 x4 hd H locs ls heq hW (lv_sub hl [0, 1, 2, 3, 4] rfl)
      · replace heq := (if_pos c_22).symm.trans heq
        refine lv_aload_n hx hb d_mMiddle_191 rfl (lv_at hl 0 rfl) ?_
        refine lv_sipush (v := 170) hx hb d_mMiddle_192 (by decide) ?_
        refine lv_iconst (v := 0) hx hb d_mMiddle_195 (by decide) ?_
        refine gk_goI (wr := []) hW [0, 1, 2, 3, 4, 5, 6, 7, 8, 9] [] rfl rfl (by decide) (by decide) (va_runV (As := [.int 170, .int 0]) (rest := []) ⟨hx, hb, hml, hown, hts⟩ (c_mTell l D cI cL cL g fl rn fs lt kk mk mf ml ma il sz tt fh hd 170 0 _) (gk_cwV hts w_176 w_177 w_178 w_145 k_mTell rfl e_mTell rfl rfl ⟨Nat.le_of_ble_eq_true rfl, Nat.le_of_ble_eq_true rfl⟩) (gk_preV hW [0, 1, 2, 3, 4, 5, 6, 7, 8, 9] rfl rfl rfl rfl) rfl rfl hl.1 rfl (lv_room (Nat.le_of_ble_eq_true rfl)) d_mMiddle_196 ⟨Nat.le_of_ble_eq_true rfl, Nat.le_of_ble_eq_true rfl⟩) (fun r_23 u H locs p_25 hW => ?_)
        obtain ⟨rfl, rfl⟩ : r_23 = 170 ∧ u = 0 := Prod.mk.inj (p_25.trans (show (mm_mTell 170 0 hd) = (170, 0) from rfl))
        have hW : gk_W D vwCl (gk_T cI cL) s A H locs (wd_M cI cL g fl rn fs lt kk mk mf ml ma il sz tt fh 0) := hW.re [0, 1, 2, 3, 4, 5, 6, 7, 8, 9] (by decide) rfl
        exact X _ 0 H locs 0 0 199 ls heq hW d_mMiddle_199 rfl (Nat.le_of_ble_eq_true rfl) (Nat.le_of_ble_eq_true rfl)
  have K163 : ∀ (x4 hd : Int32) (H : Heap) (locs : List Loc) (ls : Array Slot), mm_mMiddle_163 x1 x2 x3 rn fs lt kk il tt x4 hd = tgt → gk_W D vwCl (gk_T cI cL) s A H locs (wd_M cI cL g fl rn fs lt kk mk mf ml ma il sz tt fh hd) → lv_has ls 5 [(0, .ref (g 0)), (1, .int x1), (2, .int x2), (3, .int x3), (4, .int x4)] → W p l e rm_mMiddle s m [.ref (g 0), .int x1, .int x2, .int x3].toArray below meth c H locs 0 0 Q (F0 m 163 ls []) := by
    intro x4 hd H locs ls heq hW hl
    rw [mm_mMiddle_163] at heq
    refine lv_iload_n hx hb d_mMiddle_163 rfl (lv_at hl 3 rfl) ?_
    refine lv_bipush (v := 19) hx hb d_mMiddle_164 (by decide) ?_
    refine lv_icmp_ne (tgt := 178) hx hb d_mMiddle_166 (by decide) (fun c_26 => ?_) (fun c_26 => ?_)
    · replace heq := (if_neg c_26).symm.trans heq
      exact K178 x4 hd H locs ls heq hW (lv_sub hl [0, 1, 2, 3, 4] rfl)
    · replace heq := (if_pos c_26).symm.trans heq
      refine lv_aload_n hx hb d_mMiddle_169 rfl (lv_at hl 0 rfl) ?_
      refine lv_sipush (v := 160) hx hb d_mMiddle_170 (by decide) ?_
      refine lv_iconst (v := 0) hx hb d_mMiddle_173 (by decide) ?_
      refine gk_goI (wr := []) hW [0, 1, 2, 3, 4, 5, 6, 7, 8, 9] [] rfl rfl (by decide) (by decide) (va_runV (As := [.int 160, .int 0]) (rest := []) ⟨hx, hb, hml, hown, hts⟩ (c_mTell l D cI cL cL g fl rn fs lt kk mk mf ml ma il sz tt fh hd 160 0 _) (gk_cwV hts w_176 w_177 w_178 w_145 k_mTell rfl e_mTell rfl rfl ⟨Nat.le_of_ble_eq_true rfl, Nat.le_of_ble_eq_true rfl⟩) (gk_preV hW [0, 1, 2, 3, 4, 5, 6, 7, 8, 9] rfl rfl rfl rfl) rfl rfl hl.1 rfl (lv_room (Nat.le_of_ble_eq_true rfl)) d_mMiddle_174 ⟨Nat.le_of_ble_eq_true rfl, Nat.le_of_ble_eq_true rfl⟩) (fun r_27 u H locs p_29 hW => ?_)
      obtain ⟨rfl, rfl⟩ : r_27 = 160 ∧ u = 0 := Prod.mk.inj (p_29.trans (show (mm_mTell 160 0 hd) = (160, 0) from rfl))
      have hW : gk_W D vwCl (gk_T cI cL) s A H locs (wd_M cI cL g fl rn fs lt kk mk mf ml ma il sz tt fh 0) := hW.re [0, 1, 2, 3, 4, 5, 6, 7, 8, 9] (by decide) rfl
      exact X _ 0 H locs 0 0 177 ls heq hW d_mMiddle_177 rfl (Nat.le_of_ble_eq_true rfl) (Nat.le_of_ble_eq_true rfl)
  have K149 : ∀ (x4 hd : Int32) (H : Heap) (locs : List Loc) (ls : Array Slot), mm_mMiddle_149 x1 x2 x3 rn fs lt kk il tt x4 hd = tgt → gk_W D vwCl (gk_T cI cL) s A H locs (wd_M cI cL g fl rn fs lt kk mk mf ml ma il sz tt fh hd) → lv_has ls 5 [(0, .ref (g 0)), (1, .int x1), (2, .int x2), (3, .int x3), (4, .int x4)] → W p l e rm_mMiddle s m [.ref (g 0), .int x1, .int x2, .int x3].toArray below meth c H locs 0 0 Q (F0 m 149 ls []) := by
    intro x4 hd H locs ls heq hW hl
    rw [mm_mMiddle_149] at heq
    refine lv_iload hx hb d_mMiddle_149 (lv_at hl 4 rfl) ?_
    refine lv_bipush (v := 15) hx hb d_mMiddle_151 (by decide) ?_
    refine lv_icmp_eq (tgt := 163) hx hb d_mMiddle_153 (by decide) (fun c_30 => ?_) (fun c_30 => ?_)
    · replace heq := (if_pos c_30).symm.trans heq
      exact K163 x4 hd H locs ls heq hW (lv_sub hl [0, 1, 2, 3, 4] rfl)
    · replace heq := (if_neg c_30).symm.trans heq
      refine lv_iload hx hb d_mMiddle_156 (lv_at hl 4 rfl) ?_
      refine lv_bipush (v := 16) hx hb d_mMiddle_158 (by decide) ?_
      refine lv_icmp_ne (tgt := 178) hx hb d_mMiddle_160 (by decide) (fun c_31 => ?_) (fun c_31 => ?_)
      · replace heq := (if_neg c_31).symm.trans heq
        exact K178 x4 hd H locs ls heq hW (lv_sub hl [0, 1, 2, 3, 4] rfl)
      · replace heq := (if_pos c_31).symm.trans heq
        exact K163 x4 hd H locs ls heq hW (lv_sub hl [0, 1, 2, 3, 4] rfl)
  have K65 : ∀ (hd : Int32) (H : Heap) (locs : List Loc) (ls : Array Slot), mm_mMiddle_65 x1 x2 x3 rn fs lt kk il tt hd = tgt → gk_W D vwCl (gk_T cI cL) s A H locs (wd_M cI cL g fl rn fs lt kk mk mf ml ma il sz tt fh hd) → lv_has ls 5 [(0, .ref (g 0)), (1, .int x1), (2, .int x2), (3, .int x3)] → W p l e rm_mMiddle s m [.ref (g 0), .int x1, .int x2, .int x3].toArray below meth c H locs 0 0 Q (F0 m 65 ls []) := by
    intro hd H locs ls heq hW hl
    rw [mm_mMiddle_65] at heq
    refine lv_iload_n hx hb d_mMiddle_65 rfl (lv_at hl 3 rfl) ?_
    refine lv_bipush (v := 15) hx hb d_mMiddle_66 (by decide) ?_
    refine lv_icmp_eq (tgt := 95) hx hb d_mMiddle_68 (by decide) (fun c_32 => ?_) (fun c_32 => ?_)
    · replace heq := (if_pos c_32).symm.trans heq
      refine lv_aload_n hx hb d_mMiddle_95 rfl (lv_at hl 0 rfl) ?_
      refine lv_sipush (v := 130) hx hb d_mMiddle_96 (by decide) ?_
      refine lv_iconst (v := 0) hx hb d_mMiddle_99 (by decide) ?_
      refine gk_goI (wr := []) hW [0, 1, 2, 3, 4, 5, 6, 7, 8, 9] [] rfl rfl (by decide) (by decide) (va_runV (As := [.int 130, .int 0]) (rest := []) ⟨hx, hb, hml, hown, hts⟩ (c_mTell l D cI cL cL g fl rn fs lt kk mk mf ml ma il sz tt fh hd 130 0 _) (gk_cwV hts w_176 w_177 w_178 w_145 k_mTell rfl e_mTell rfl rfl ⟨Nat.le_of_ble_eq_true rfl, Nat.le_of_ble_eq_true rfl⟩) (gk_preV hW [0, 1, 2, 3, 4, 5, 6, 7, 8, 9] rfl rfl rfl rfl) rfl rfl hl.1 rfl (lv_room (Nat.le_of_ble_eq_true rfl)) d_mMiddle_100 ⟨Nat.le_of_ble_eq_true rfl, Nat.le_of_ble_eq_true rfl⟩) (fun r_33 u H locs p_35 hW => ?_)
      obtain ⟨rfl, rfl⟩ : r_33 = 130 ∧ u = 0 := Prod.mk.inj (p_35.trans (show (mm_mTell 130 0 hd) = (130, 0) from rfl))
      have hW : gk_W D vwCl (gk_T cI cL) s A H locs (wd_M cI cL g fl rn fs lt kk mk mf ml ma il sz tt fh 0) := hW.re [0, 1, 2, 3, 4, 5, 6, 7, 8, 9] (by decide) rfl
      exact X _ 0 H locs 0 0 103 ls heq hW d_mMiddle_103 rfl (Nat.le_of_ble_eq_true rfl) (Nat.le_of_ble_eq_true rfl)
    · replace heq := (if_neg c_32).symm.trans heq
      refine lv_iload_n hx hb d_mMiddle_71 rfl (lv_at hl 3 rfl) ?_
      refine lv_bipush (v := 16) hx hb d_mMiddle_72 (by decide) ?_
      refine lv_icmp_eq (tgt := 95) hx hb d_mMiddle_74 (by decide) (fun c_36 => ?_) (fun c_36 => ?_)
      · replace heq := (if_pos c_36).symm.trans heq
        refine lv_aload_n hx hb d_mMiddle_95 rfl (lv_at hl 0 rfl) ?_
        refine lv_sipush (v := 130) hx hb d_mMiddle_96 (by decide) ?_
        refine lv_iconst (v := 0) hx hb d_mMiddle_99 (by decide) ?_
        refine gk_goI (wr := []) hW [0, 1, 2, 3, 4, 5, 6, 7, 8, 9] [] rfl rfl (by decide) (by decide) (va_runV (As := [.int 130, .int 0]) (rest := []) ⟨hx, hb, hml, hown, hts⟩ (c_mTell l D cI cL cL g fl rn fs lt kk mk mf ml ma il sz tt fh hd 130 0 _) (gk_cwV hts w_176 w_177 w_178 w_145 k_mTell rfl e_mTell rfl rfl ⟨Nat.le_of_ble_eq_true rfl, Nat.le_of_ble_eq_true rfl⟩) (gk_preV hW [0, 1, 2, 3, 4, 5, 6, 7, 8, 9] rfl rfl rfl rfl) rfl rfl hl.1 rfl (lv_room (Nat.le_of_ble_eq_true rfl)) d_mMiddle_100 ⟨Nat.le_of_ble_eq_true rfl, Nat.le_of_ble_eq_true rfl⟩) (fun r_37 u H locs p_39 hW => ?_)
        obtain ⟨rfl, rfl⟩ : r_37 = 130 ∧ u = 0 := Prod.mk.inj (p_39.trans (show (mm_mTell 130 0 hd) = (130, 0) from rfl))
        have hW : gk_W D vwCl (gk_T cI cL) s A H locs (wd_M cI cL g fl rn fs lt kk mk mf ml ma il sz tt fh 0) := hW.re [0, 1, 2, 3, 4, 5, 6, 7, 8, 9] (by decide) rfl
        exact X _ 0 H locs 0 0 103 ls heq hW d_mMiddle_103 rfl (Nat.le_of_ble_eq_true rfl) (Nat.le_of_ble_eq_true rfl)
      · replace heq := (if_neg c_36).symm.trans heq
        refine lv_iload_n hx hb d_mMiddle_77 rfl (lv_at hl 3 rfl) ?_
        refine lv_bipush (v := 17) hx hb d_mMiddle_78 (by decide) ?_
        refine lv_icmp_eq (tgt := 95) hx hb d_mMiddle_80 (by decide) (fun c_40 => ?_) (fun c_40 => ?_)
        · replace heq := (if_pos c_40).symm.trans heq
          refine lv_aload_n hx hb d_mMiddle_95 rfl (lv_at hl 0 rfl) ?_
          refine lv_sipush (v := 130) hx hb d_mMiddle_96 (by decide) ?_
          refine lv_iconst (v := 0) hx hb d_mMiddle_99 (by decide) ?_
          refine gk_goI (wr := []) hW [0, 1, 2, 3, 4, 5, 6, 7, 8, 9] [] rfl rfl (by decide) (by decide) (va_runV (As := [.int 130, .int 0]) (rest := []) ⟨hx, hb, hml, hown, hts⟩ (c_mTell l D cI cL cL g fl rn fs lt kk mk mf ml ma il sz tt fh hd 130 0 _) (gk_cwV hts w_176 w_177 w_178 w_145 k_mTell rfl e_mTell rfl rfl ⟨Nat.le_of_ble_eq_true rfl, Nat.le_of_ble_eq_true rfl⟩) (gk_preV hW [0, 1, 2, 3, 4, 5, 6, 7, 8, 9] rfl rfl rfl rfl) rfl rfl hl.1 rfl (lv_room (Nat.le_of_ble_eq_true rfl)) d_mMiddle_100 ⟨Nat.le_of_ble_eq_true rfl, Nat.le_of_ble_eq_true rfl⟩) (fun r_41 u H locs p_43 hW => ?_)
          obtain ⟨rfl, rfl⟩ : r_41 = 130 ∧ u = 0 := Prod.mk.inj (p_43.trans (show (mm_mTell 130 0 hd) = (130, 0) from rfl))
          have hW : gk_W D vwCl (gk_T cI cL) s A H locs (wd_M cI cL g fl rn fs lt kk mk mf ml ma il sz tt fh 0) := hW.re [0, 1, 2, 3, 4, 5, 6, 7, 8, 9] (by decide) rfl
          exact X _ 0 H locs 0 0 103 ls heq hW d_mMiddle_103 rfl (Nat.le_of_ble_eq_true rfl) (Nat.le_of_ble_eq_true rfl)
        · replace heq := (if_neg c_40).symm.trans heq
          refine lv_iload_n hx hb d_mMiddle_83 rfl (lv_at hl 3 rfl) ?_
          refine lv_bipush (v := 22) hx hb d_mMiddle_84 (by decide) ?_
          refine lv_icmp_eq (tgt := 95) hx hb d_mMiddle_86 (by decide) (fun c_44 => ?_) (fun c_44 => ?_)
          · replace heq := (if_pos c_44).symm.trans heq
            refine lv_aload_n hx hb d_mMiddle_95 rfl (lv_at hl 0 rfl) ?_
            refine lv_sipush (v := 130) hx hb d_mMiddle_96 (by decide) ?_
            refine lv_iconst (v := 0) hx hb d_mMiddle_99 (by decide) ?_
            refine gk_goI (wr := []) hW [0, 1, 2, 3, 4, 5, 6, 7, 8, 9] [] rfl rfl (by decide) (by decide) (va_runV (As := [.int 130, .int 0]) (rest := []) ⟨hx, hb, hml, hown, hts⟩ (c_mTell l D cI cL cL g fl rn fs lt kk mk mf ml ma il sz tt fh hd 130 0 _) (gk_cwV hts w_176 w_177 w_178 w_145 k_mTell rfl e_mTell rfl rfl ⟨Nat.le_of_ble_eq_true rfl, Nat.le_of_ble_eq_true rfl⟩) (gk_preV hW [0, 1, 2, 3, 4, 5, 6, 7, 8, 9] rfl rfl rfl rfl) rfl rfl hl.1 rfl (lv_room (Nat.le_of_ble_eq_true rfl)) d_mMiddle_100 ⟨Nat.le_of_ble_eq_true rfl, Nat.le_of_ble_eq_true rfl⟩) (fun r_45 u H locs p_47 hW => ?_)
            obtain ⟨rfl, rfl⟩ : r_45 = 130 ∧ u = 0 := Prod.mk.inj (p_47.trans (show (mm_mTell 130 0 hd) = (130, 0) from rfl))
            have hW : gk_W D vwCl (gk_T cI cL) s A H locs (wd_M cI cL g fl rn fs lt kk mk mf ml ma il sz tt fh 0) := hW.re [0, 1, 2, 3, 4, 5, 6, 7, 8, 9] (by decide) rfl
            exact X _ 0 H locs 0 0 103 ls heq hW d_mMiddle_103 rfl (Nat.le_of_ble_eq_true rfl) (Nat.le_of_ble_eq_true rfl)
          · replace heq := (if_neg c_44).symm.trans heq
            refine lv_iload_n hx hb d_mMiddle_89 rfl (lv_at hl 3 rfl) ?_
            refine lv_bipush (v := 26) hx hb d_mMiddle_90 (by decide) ?_
            refine lv_icmp_ne (tgt := 104) hx hb d_mMiddle_92 (by decide) (fun c_48 => ?_) (fun c_48 => ?_)
            · replace heq := (if_neg c_48).symm.trans heq
              refine lv_aload_n hx hb d_mMiddle_104 rfl (lv_at hl 0 rfl) ?_
              refine lv_iload_n hx hb d_mMiddle_105 rfl (lv_at hl 1 rfl) ?_
              refine gk_goR hW [0, 1, 2, 3, 4, 5, 6, 7, 8, 9] rfl (va_runV (As := [.int x1]) (rest := []) ⟨hx, hb, hml, hown, hts⟩ (c_mBeforeSpaces l D cI cL cL g fl rn fs lt kk mk mf ml ma il sz tt fh hd x1 z_rn v_rn z_x1 v_x1 (by omega) (by omega) _) (gk_cwV hts w_185 w_186 w_187 w_145 k_mBeforeSpaces rfl e_mBeforeSpaces rfl rfl ⟨Nat.le_of_ble_eq_true rfl, Nat.le_of_ble_eq_true rfl⟩) (gk_preV hW [0, 1, 2, 3, 4, 5, 6, 7, 8, 9] rfl rfl rfl rfl) rfl rfl hl.1 rfl (lv_room (Nat.le_of_ble_eq_true rfl)) d_mMiddle_106 ⟨Nat.le_of_ble_eq_true rfl, Nat.le_of_ble_eq_true rfl⟩) (fun H locs hW => ?_)
              refine lv_istore (lv' := [(4, .int (mm_mBeforeSpaces x1 rn fs lt kk il tt)), (0, .ref (g 0)), (1, .int x1), (2, .int x2), (3, .int x3)]) hx hb d_mMiddle_109 hl (by decide) rfl (fun ls hl => ?_)
              refine lv_iload hx hb d_mMiddle_111 (lv_at hl 0 rfl) ?_
              refine lv_bipush (v := 20) hx hb d_mMiddle_113 (by decide) ?_
              refine lv_icmp_ne (tgt := 127) hx hb d_mMiddle_115 (by decide) (fun c_49 => ?_) (fun c_49 => ?_)
              · replace heq := (if_neg c_49).symm.trans heq
                refine lv_iload hx hb d_mMiddle_127 (lv_at hl 0 rfl) ?_
                refine lv_bipush (v := 21) hx hb d_mMiddle_129 (by decide) ?_
                refine lv_icmp_ne (tgt := 149) hx hb d_mMiddle_131 (by decide) (fun c_50 => ?_) (fun c_50 => ?_)
                · replace heq := (if_neg c_50).symm.trans heq
                  exact K149 (mm_mBeforeSpaces x1 rn fs lt kk il tt) hd H locs ls heq hW (lv_sub hl [1, 2, 3, 4, 0] rfl)
                · replace heq := (if_pos c_50).symm.trans heq
                  refine lv_iload_n hx hb d_mMiddle_134 rfl (lv_at hl 4 rfl) ?_
                  refine lv_bipush (v := 20) hx hb d_mMiddle_135 (by decide) ?_
                  refine lv_icmp_ne (tgt := 149) hx hb d_mMiddle_137 (by decide) (fun c_51 => ?_) (fun c_51 => ?_)
                  · replace heq := (if_neg c_51).symm.trans heq
                    exact K149 (mm_mBeforeSpaces x1 rn fs lt kk il tt) hd H locs ls heq hW (lv_sub hl [1, 2, 3, 4, 0] rfl)
                  · replace heq := (if_pos c_51).symm.trans heq
                    refine lv_aload_n hx hb d_mMiddle_140 rfl (lv_at hl 1 rfl) ?_
                    refine lv_sipush (v := 150) hx hb d_mMiddle_141 (by decide) ?_
                    refine lv_iconst (v := 0) hx hb d_mMiddle_144 (by decide) ?_
                    refine gk_goI (wr := []) hW [0, 1, 2, 3, 4, 5, 6, 7, 8, 9] [] rfl rfl (by decide) (by decide) (va_runV (As := [.int 150, .int 0]) (rest := []) ⟨hx, hb, hml, hown, hts⟩ (c_mTell l D cI cL cL g fl rn fs lt kk mk mf ml ma il sz tt fh hd 150 0 _) (gk_cwV hts w_176 w_177 w_178 w_145 k_mTell rfl e_mTell rfl rfl ⟨Nat.le_of_ble_eq_true rfl, Nat.le_of_ble_eq_true rfl⟩) (gk_preV hW [0, 1, 2, 3, 4, 5, 6, 7, 8, 9] rfl rfl rfl rfl) rfl rfl hl.1 rfl (lv_room (Nat.le_of_ble_eq_true rfl)) d_mMiddle_145 ⟨Nat.le_of_ble_eq_true rfl, Nat.le_of_ble_eq_true rfl⟩) (fun r_52 u H locs p_54 hW => ?_)
                    obtain ⟨rfl, rfl⟩ : r_52 = 150 ∧ u = 0 := Prod.mk.inj (p_54.trans (show (mm_mTell 150 0 hd) = (150, 0) from rfl))
                    have hW : gk_W D vwCl (gk_T cI cL) s A H locs (wd_M cI cL g fl rn fs lt kk mk mf ml ma il sz tt fh 0) := hW.re [0, 1, 2, 3, 4, 5, 6, 7, 8, 9] (by decide) rfl
                    exact X _ 0 H locs 0 0 148 ls heq hW d_mMiddle_148 rfl (Nat.le_of_ble_eq_true rfl) (Nat.le_of_ble_eq_true rfl)
              · replace heq := (if_pos c_49).symm.trans heq
                refine lv_aload_n hx hb d_mMiddle_118 rfl (lv_at hl 1 rfl) ?_
                refine lv_sipush (v := 140) hx hb d_mMiddle_119 (by decide) ?_
                refine lv_iconst (v := 0) hx hb d_mMiddle_122 (by decide) ?_
                refine gk_goI (wr := []) hW [0, 1, 2, 3, 4, 5, 6, 7, 8, 9] [] rfl rfl (by decide) (by decide) (va_runV (As := [.int 140, .int 0]) (rest := []) ⟨hx, hb, hml, hown, hts⟩ (c_mTell l D cI cL cL g fl rn fs lt kk mk mf ml ma il sz tt fh hd 140 0 _) (gk_cwV hts w_176 w_177 w_178 w_145 k_mTell rfl e_mTell rfl rfl ⟨Nat.le_of_ble_eq_true rfl, Nat.le_of_ble_eq_true rfl⟩) (gk_preV hW [0, 1, 2, 3, 4, 5, 6, 7, 8, 9] rfl rfl rfl rfl) rfl rfl hl.1 rfl (lv_room (Nat.le_of_ble_eq_true rfl)) d_mMiddle_123 ⟨Nat.le_of_ble_eq_true rfl, Nat.le_of_ble_eq_true rfl⟩) (fun r_55 u H locs p_57 hW => ?_)
                obtain ⟨rfl, rfl⟩ : r_55 = 140 ∧ u = 0 := Prod.mk.inj (p_57.trans (show (mm_mTell 140 0 hd) = (140, 0) from rfl))
                have hW : gk_W D vwCl (gk_T cI cL) s A H locs (wd_M cI cL g fl rn fs lt kk mk mf ml ma il sz tt fh 0) := hW.re [0, 1, 2, 3, 4, 5, 6, 7, 8, 9] (by decide) rfl
                exact X _ 0 H locs 0 0 126 ls heq hW d_mMiddle_126 rfl (Nat.le_of_ble_eq_true rfl) (Nat.le_of_ble_eq_true rfl)
            · replace heq := (if_pos c_48).symm.trans heq
              refine lv_aload_n hx hb d_mMiddle_95 rfl (lv_at hl 0 rfl) ?_
              refine lv_sipush (v := 130) hx hb d_mMiddle_96 (by decide) ?_
              refine lv_iconst (v := 0) hx hb d_mMiddle_99 (by decide) ?_
              refine gk_goI (wr := []) hW [0, 1, 2, 3, 4, 5, 6, 7, 8, 9] [] rfl rfl (by decide) (by decide) (va_runV (As := [.int 130, .int 0]) (rest := []) ⟨hx, hb, hml, hown, hts⟩ (c_mTell l D cI cL cL g fl rn fs lt kk mk mf ml ma il sz tt fh hd 130 0 _) (gk_cwV hts w_176 w_177 w_178 w_145 k_mTell rfl e_mTell rfl rfl ⟨Nat.le_of_ble_eq_true rfl, Nat.le_of_ble_eq_true rfl⟩) (gk_preV hW [0, 1, 2, 3, 4, 5, 6, 7, 8, 9] rfl rfl rfl rfl) rfl rfl hl.1 rfl (lv_room (Nat.le_of_ble_eq_true rfl)) d_mMiddle_100 ⟨Nat.le_of_ble_eq_true rfl, Nat.le_of_ble_eq_true rfl⟩) (fun r_58 u H locs p_60 hW => ?_)
              obtain ⟨rfl, rfl⟩ : r_58 = 130 ∧ u = 0 := Prod.mk.inj (p_60.trans (show (mm_mTell 130 0 hd) = (130, 0) from rfl))
              have hW : gk_W D vwCl (gk_T cI cL) s A H locs (wd_M cI cL g fl rn fs lt kk mk mf ml ma il sz tt fh 0) := hW.re [0, 1, 2, 3, 4, 5, 6, 7, 8, 9] (by decide) rfl
              exact X _ 0 H locs 0 0 103 ls heq hW d_mMiddle_103 rfl (Nat.le_of_ble_eq_true rfl) (Nat.le_of_ble_eq_true rfl)
  refine lv_iload_n hx hb d_mMiddle_0 rfl (lv_at hl 2 rfl) ?_
  refine lv_bipush (v := 6) hx hb d_mMiddle_1 (by decide) ?_
  refine lv_icmp_eq (tgt := 12) hx hb d_mMiddle_3 (by decide) (fun c_61 => ?_) (fun c_61 => ?_)
  · replace heq := (if_pos c_61).symm.trans heq
    refine lv_aload_n hx hb d_mMiddle_12 rfl (lv_at hl 0 rfl) ?_
    refine lv_bipush (v := 110) hx hb d_mMiddle_13 (by decide) ?_
    refine lv_iconst (v := 0) hx hb d_mMiddle_15 (by decide) ?_
    refine gk_goI (wr := []) hW [0, 1, 2, 3, 4, 5, 6, 7, 8, 9] [] rfl rfl (by decide) (by decide) (va_runV (As := [.int 110, .int 0]) (rest := []) ⟨hx, hb, hml, hown, hts⟩ (c_mTell l D cI cL cL g fl rn fs lt kk mk mf ml ma il sz tt fh hd 110 0 _) (gk_cwV hts w_176 w_177 w_178 w_145 k_mTell rfl e_mTell rfl rfl ⟨Nat.le_of_ble_eq_true rfl, Nat.le_of_ble_eq_true rfl⟩) (gk_preV hW [0, 1, 2, 3, 4, 5, 6, 7, 8, 9] rfl rfl rfl rfl) rfl rfl hl.1 rfl (lv_room (Nat.le_of_ble_eq_true rfl)) d_mMiddle_16 ⟨Nat.le_of_ble_eq_true rfl, Nat.le_of_ble_eq_true rfl⟩) (fun r_62 u H locs p_64 hW => ?_)
    obtain ⟨rfl, rfl⟩ : r_62 = 110 ∧ u = 0 := Prod.mk.inj (p_64.trans (show (mm_mTell 110 0 hd) = (110, 0) from rfl))
    have hW : gk_W D vwCl (gk_T cI cL) s A H locs (wd_M cI cL g fl rn fs lt kk mk mf ml ma il sz tt fh 0) := hW.re [0, 1, 2, 3, 4, 5, 6, 7, 8, 9] (by decide) rfl
    exact X _ 0 H locs 0 0 19 ls heq hW d_mMiddle_19 rfl (Nat.le_of_ble_eq_true rfl) (Nat.le_of_ble_eq_true rfl)
  · replace heq := (if_neg c_61).symm.trans heq
    refine lv_iload_n hx hb d_mMiddle_6 rfl (lv_at hl 3 rfl) ?_
    refine lv_bipush (v := 6) hx hb d_mMiddle_7 (by decide) ?_
    refine lv_icmp_ne (tgt := 20) hx hb d_mMiddle_9 (by decide) (fun c_65 => ?_) (fun c_65 => ?_)
    · replace heq := (if_neg c_65).symm.trans heq
      refine lv_iload_n hx hb d_mMiddle_20 rfl (lv_at hl 2 rfl) ?_
      refine lv_bipush (v := 9) hx hb d_mMiddle_21 (by decide) ?_
      refine lv_icmp_ne (tgt := 34) hx hb d_mMiddle_23 (by decide) (fun c_66 => ?_) (fun c_66 => ?_)
      · replace heq := (if_neg c_66).symm.trans heq
        refine lv_iload_n hx hb d_mMiddle_34 rfl (lv_at hl 3 rfl) ?_
        refine lv_bipush (v := 9) hx hb d_mMiddle_35 (by decide) ?_
        refine lv_icmp_ne (tgt := 65) hx hb d_mMiddle_37 (by decide) (fun c_67 => ?_) (fun c_67 => ?_)
        · replace heq := (if_neg c_67).symm.trans heq
          exact K65 hd H locs ls heq hW (lv_sub hl [0, 1, 2, 3] rfl)
        · replace heq := (if_pos c_67).symm.trans heq
          refine lv_iload_n hx hb d_mMiddle_40 rfl (lv_at hl 2 rfl) ?_
          refine lv_iconst (v := 4) hx hb d_mMiddle_41 (by decide) ?_
          refine lv_icmp_eq (tgt := 65) hx hb d_mMiddle_42 (by decide) (fun c_68 => ?_) (fun c_68 => ?_)
          · replace heq := (if_pos c_68).symm.trans heq
            exact K65 hd H locs ls heq hW (lv_sub hl [0, 1, 2, 3] rfl)
          · replace heq := (if_neg c_68).symm.trans heq
            refine lv_iload_n hx hb d_mMiddle_45 rfl (lv_at hl 2 rfl) ?_
            refine lv_bipush (v := 11) hx hb d_mMiddle_46 (by decide) ?_
            refine lv_icmp_eq (tgt := 65) hx hb d_mMiddle_48 (by decide) (fun c_69 => ?_) (fun c_69 => ?_)
            · replace heq := (if_pos c_69).symm.trans heq
              exact K65 hd H locs ls heq hW (lv_sub hl [0, 1, 2, 3] rfl)
            · replace heq := (if_neg c_69).symm.trans heq
              refine lv_iload_n hx hb d_mMiddle_51 rfl (lv_at hl 2 rfl) ?_
              refine lv_bipush (v := 13) hx hb d_mMiddle_52 (by decide) ?_
              refine lv_icmp_eq (tgt := 65) hx hb d_mMiddle_54 (by decide) (fun c_70 => ?_) (fun c_70 => ?_)
              · replace heq := (if_pos c_70).symm.trans heq
                exact K65 hd H locs ls heq hW (lv_sub hl [0, 1, 2, 3] rfl)
              · replace heq := (if_neg c_70).symm.trans heq
                refine lv_aload_n hx hb d_mMiddle_57 rfl (lv_at hl 0 rfl) ?_
                refine lv_bipush (v := 121) hx hb d_mMiddle_58 (by decide) ?_
                refine lv_iconst (v := 0) hx hb d_mMiddle_60 (by decide) ?_
                refine gk_goI (wr := []) hW [0, 1, 2, 3, 4, 5, 6, 7, 8, 9] [] rfl rfl (by decide) (by decide) (va_runV (As := [.int 121, .int 0]) (rest := []) ⟨hx, hb, hml, hown, hts⟩ (c_mTell l D cI cL cL g fl rn fs lt kk mk mf ml ma il sz tt fh hd 121 0 _) (gk_cwV hts w_176 w_177 w_178 w_145 k_mTell rfl e_mTell rfl rfl ⟨Nat.le_of_ble_eq_true rfl, Nat.le_of_ble_eq_true rfl⟩) (gk_preV hW [0, 1, 2, 3, 4, 5, 6, 7, 8, 9] rfl rfl rfl rfl) rfl rfl hl.1 rfl (lv_room (Nat.le_of_ble_eq_true rfl)) d_mMiddle_61 ⟨Nat.le_of_ble_eq_true rfl, Nat.le_of_ble_eq_true rfl⟩) (fun r_71 u H locs p_73 hW => ?_)
                obtain ⟨rfl, rfl⟩ : r_71 = 121 ∧ u = 0 := Prod.mk.inj (p_73.trans (show (mm_mTell 121 0 hd) = (121, 0) from rfl))
                have hW : gk_W D vwCl (gk_T cI cL) s A H locs (wd_M cI cL g fl rn fs lt kk mk mf ml ma il sz tt fh 0) := hW.re [0, 1, 2, 3, 4, 5, 6, 7, 8, 9] (by decide) rfl
                exact X _ 0 H locs 0 0 64 ls heq hW d_mMiddle_64 rfl (Nat.le_of_ble_eq_true rfl) (Nat.le_of_ble_eq_true rfl)
      · replace heq := (if_pos c_66).symm.trans heq
        refine lv_aload_n hx hb d_mMiddle_26 rfl (lv_at hl 0 rfl) ?_
        refine lv_bipush (v := 120) hx hb d_mMiddle_27 (by decide) ?_
        refine lv_iconst (v := 0) hx hb d_mMiddle_29 (by decide) ?_
        refine gk_goI (wr := []) hW [0, 1, 2, 3, 4, 5, 6, 7, 8, 9] [] rfl rfl (by decide) (by decide) (va_runV (As := [.int 120, .int 0]) (rest := []) ⟨hx, hb, hml, hown, hts⟩ (c_mTell l D cI cL cL g fl rn fs lt kk mk mf ml ma il sz tt fh hd 120 0 _) (gk_cwV hts w_176 w_177 w_178 w_145 k_mTell rfl e_mTell rfl rfl ⟨Nat.le_of_ble_eq_true rfl, Nat.le_of_ble_eq_true rfl⟩) (gk_preV hW [0, 1, 2, 3, 4, 5, 6, 7, 8, 9] rfl rfl rfl rfl) rfl rfl hl.1 rfl (lv_room (Nat.le_of_ble_eq_true rfl)) d_mMiddle_30 ⟨Nat.le_of_ble_eq_true rfl, Nat.le_of_ble_eq_true rfl⟩) (fun r_74 u H locs p_76 hW => ?_)
        obtain ⟨rfl, rfl⟩ : r_74 = 120 ∧ u = 0 := Prod.mk.inj (p_76.trans (show (mm_mTell 120 0 hd) = (120, 0) from rfl))
        have hW : gk_W D vwCl (gk_T cI cL) s A H locs (wd_M cI cL g fl rn fs lt kk mk mf ml ma il sz tt fh 0) := hW.re [0, 1, 2, 3, 4, 5, 6, 7, 8, 9] (by decide) rfl
        exact X _ 0 H locs 0 0 33 ls heq hW d_mMiddle_33 rfl (Nat.le_of_ble_eq_true rfl) (Nat.le_of_ble_eq_true rfl)
    · replace heq := (if_pos c_65).symm.trans heq
      refine lv_aload_n hx hb d_mMiddle_12 rfl (lv_at hl 0 rfl) ?_
      refine lv_bipush (v := 110) hx hb d_mMiddle_13 (by decide) ?_
      refine lv_iconst (v := 0) hx hb d_mMiddle_15 (by decide) ?_
      refine gk_goI (wr := []) hW [0, 1, 2, 3, 4, 5, 6, 7, 8, 9] [] rfl rfl (by decide) (by decide) (va_runV (As := [.int 110, .int 0]) (rest := []) ⟨hx, hb, hml, hown, hts⟩ (c_mTell l D cI cL cL g fl rn fs lt kk mk mf ml ma il sz tt fh hd 110 0 _) (gk_cwV hts w_176 w_177 w_178 w_145 k_mTell rfl e_mTell rfl rfl ⟨Nat.le_of_ble_eq_true rfl, Nat.le_of_ble_eq_true rfl⟩) (gk_preV hW [0, 1, 2, 3, 4, 5, 6, 7, 8, 9] rfl rfl rfl rfl) rfl rfl hl.1 rfl (lv_room (Nat.le_of_ble_eq_true rfl)) d_mMiddle_16 ⟨Nat.le_of_ble_eq_true rfl, Nat.le_of_ble_eq_true rfl⟩) (fun r_77 u H locs p_79 hW => ?_)
      obtain ⟨rfl, rfl⟩ : r_77 = 110 ∧ u = 0 := Prod.mk.inj (p_79.trans (show (mm_mTell 110 0 hd) = (110, 0) from rfl))
      have hW : gk_W D vwCl (gk_T cI cL) s A H locs (wd_M cI cL g fl rn fs lt kk mk mf ml ma il sz tt fh 0) := hW.re [0, 1, 2, 3, 4, 5, 6, 7, 8, 9] (by decide) rfl
      exact X _ 0 H locs 0 0 19 ls heq hW d_mMiddle_19 rfl (Nat.le_of_ble_eq_true rfl) (Nat.le_of_ble_eq_true rfl)
