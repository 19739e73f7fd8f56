def mm_mLast_245 (x1 x2 x3 x4 rn : Int32) (fs lt kk mk mf ml ma : Nat → Int32) (il : Int32) (tt : Nat → Int32) (x5 x6 hd : Int32) : Int32 × Int32 := if x4 = 31 then (if x3 = 30 then (302, 0) else (if (mm_mIsMarked x2 1 mk mf ml ma tt) = 0 then (310, 1) else (302, 0))) else (310, 1)
def mm_mLast_191 (x1 x2 x3 x4 rn : Int32) (fs lt kk mk mf ml ma : Nat → Int32) (il : Int32) (tt : Nat → Int32) (x5 y0 hd : Int32) : Int32 × Int32 := if x5 = 0 then (if y0 = 0 then (if x3 = 37 then (if x4 = 37 then (if ((mm_mFlags x2 rn fs lt kk il tt) - (mm_mFlags x2 rn fs lt kk il tt) / 2 * 2) = 1 then (301, 0) else (mm_mLast_245 x1 x2 x3 x4 rn fs lt kk mk mf ml ma il tt x5 y0 hd)) else (mm_mLast_245 x1 x2 x3 x4 rn fs lt kk mk mf ml ma il tt x5 y0 hd)) else (mm_mLast_245 x1 x2 x3 x4 rn fs lt kk mk mf ml ma il tt x5 y0 hd)) else (300, 0)) else (300, 0)
def mm_mLast_190 (x1 x2 x3 x4 rn : Int32) (fs lt kk mk mf ml ma : Nat → Int32) (il : Int32) (tt : Nat → Int32) (x5 hd : Int32) : Int32 × Int32 := mm_mLast_191 x1 x2 x3 x4 rn fs lt kk mk mf ml ma il tt x5 0 hd
def mm_mLast_186 (x1 x2 x3 x4 rn : Int32) (fs lt kk mk mf ml ma : Nat → Int32) (il : Int32) (tt : Nat → Int32) (x5 hd : Int32) : Int32 × Int32 := mm_mLast_191 x1 x2 x3 x4 rn fs lt kk mk mf ml ma il tt x5 1 hd
def mm_mLast_154 (x1 x2 x3 x4 rn : Int32) (fs lt kk mk mf ml ma : Nat → Int32) (il : Int32) (tt : Nat → Int32) (y0 hd : Int32) : Int32 × Int32 := if x3 = 16 then (if (mm_mIsMarked x2 0 mk mf ml ma tt) = 0 then (if (mm_mIsLetter x4) = 0 then (if x4 = 23 then (mm_mLast_186 x1 x2 x3 x4 rn fs lt kk mk mf ml ma il tt y0 hd) else (mm_mLast_190 x1 x2 x3 x4 rn fs lt kk mk mf ml ma il tt y0 hd)) else (mm_mLast_186 x1 x2 x3 x4 rn fs lt kk mk mf ml ma il tt y0 hd)) else (mm_mLast_190 x1 x2 x3 x4 rn fs lt kk mk mf ml ma il tt y0 hd)) else (mm_mLast_190 x1 x2 x3 x4 rn fs lt kk mk mf ml ma il tt y0 hd)
def mm_mLast_153 (x1 x2 x3 x4 rn : Int32) (fs lt kk mk mf ml ma : Nat → Int32) (il : Int32) (tt : Nat → Int32) (hd : Int32) : Int32 × Int32 := mm_mLast_154 x1 x2 x3 x4 rn fs lt kk mk mf ml ma il tt 0 hd
def mm_mLast_133 (x1 x2 x3 x4 rn : Int32) (fs lt kk mk mf ml ma : Nat → Int32) (il : Int32) (tt : Nat → Int32) (hd : Int32) : Int32 × Int32 := if x4 = 20 then (if (mm_mIsMarked x1 0 mk mf ml ma tt) = 0 then (mm_mLast_154 x1 x2 x3 x4 rn fs lt kk mk mf ml ma il tt 1 hd) else (mm_mLast_153 x1 x2 x3 x4 rn fs lt kk mk mf ml ma il tt hd)) else (mm_mLast_153 x1 x2 x3 x4 rn fs lt kk mk mf ml ma il tt hd)
def mm_mLast_120 (x1 x2 x3 x4 rn : Int32) (fs lt kk mk mf ml ma : Nat → Int32) (il : Int32) (tt : Nat → Int32) (hd : Int32) : Int32 × Int32 := if (mm_mIsLetter x3) = 0 then (if x3 = 23 then (mm_mLast_133 x1 x2 x3 x4 rn fs lt kk mk mf ml ma il tt hd) else (mm_mLast_153 x1 x2 x3 x4 rn fs lt kk mk mf ml ma il tt hd)) else (mm_mLast_133 x1 x2 x3 x4 rn fs lt kk mk mf ml ma il tt hd)
def mm_mLast_97 (x1 x2 x3 x4 rn : Int32) (fs lt kk mk mf ml ma : Nat → Int32) (il : Int32) (tt : Nat → Int32) (hd : Int32) : Int32 × Int32 := if x3 = 22 then (if (mm_mIsLetter x4) = 0 then (mm_mLast_120 x1 x2 x3 x4 rn fs lt kk mk mf ml ma il tt hd) else (290, 0)) else (mm_mLast_120 x1 x2 x3 x4 rn fs lt kk mk mf ml ma il tt hd)
def mm_mLast_73 (x1 x2 x3 x4 rn : Int32) (fs lt kk mk mf ml ma : Nat → Int32) (il : Int32) (tt : Nat → Int32) (hd : Int32) : Int32 × Int32 := if (mm_mIsLetter x3) = 0 then (mm_mLast_97 x1 x2 x3 x4 rn fs lt kk mk mf ml ma il tt hd) else (if (mm_mIsLetter x4) = 0 then (mm_mLast_97 x1 x2 x3 x4 rn fs lt kk mk mf ml ma il tt hd) else (280, 0))
def mm_mLast_50 (x1 x2 x3 x4 rn : Int32) (fs lt kk mk mf ml ma : Nat → Int32) (il : Int32) (tt : Nat → Int32) (hd : Int32) : Int32 × Int32 := if x3 = 25 then (if (mm_mIsHangul x4) = 0 then (mm_mLast_73 x1 x2 x3 x4 rn fs lt kk mk mf ml ma il tt hd) else (270, 0)) else (mm_mLast_73 x1 x2 x3 x4 rn fs lt kk mk mf ml ma il tt hd)
def mm_mLast (x1 x2 x3 x4 rn : Int32) (fs lt kk mk mf ml ma : Nat → Int32) (il : Int32) (tt : Nat → Int32) (hd : Int32) : Int32 × Int32 := if (mm_mIsNumeric x3 x4) = 0 then (if (mm_mIsSyllable x3 x4) = 0 then (if (mm_mIsHangul x3) = 0 then (mm_mLast_50 x1 x2 x3 x4 rn fs lt kk mk mf ml ma il tt hd) else (if x4 = 24 then (270, 0) else (mm_mLast_50 x1 x2 x3 x4 rn fs lt kk mk mf ml ma il tt hd))) else (260, 0)) else (250, 0)
def rm_mLast : Room := { frames := 5, cells := 0, slots := 0, locals := 113 }
set_option maxHeartbeats 4000000 in
set_option maxRecDepth 100000 in
theorem c_mLast (l : Launch) (D : va_G) (cI : ClassId) (cL cL : ClassId × ClassId) (g : Nat → Nat) (fl rn : Int32) (fs lt kk mk mf ml ma : Nat → Int32) (il sz : Int32) (tt fh : Nat → Int32) (hd x1 x2 x3 x4 : Int32) (z_rn : Int) (v_rn : gk_v rn z_rn) (z_x1 : Int) (v_x1 : gk_v x1 z_x1) (z_x2 : Int) (v_x2 : gk_v x2 z_x2) (hrn : 0 ≤ z_rn ∧ z_rn ≤ 100) (hx1 : 0 ≤ z_x1 ∧ z_x1 < 2000) (hx2 : 0 ≤ z_x2 ∧ z_x2 < 2000) (hmk : ∀ i : Nat, i < 2 → ∃ z : Int, gk_v (mk i) z ∧ 0 ≤ z ∧ z ≤ 40) (hma : ∀ i : Nat, ma i = 0 ∨ ma i = 1) : gk_I l y_mLast (.code y_mLast b_mLast 7 (some .int) :: wA) rm_mLast D vwCl (gk_T cI cL) [.ref (g 0), .int x1, .int x2, .int x3, .int x4] (wd_M cI cL g fl rn fs lt kk mk mf ml ma il sz tt fh hd) (fun (r : Int32) (u : Int32) => (r, u) = mm_mLast x1 x2 x3 x4 rn fs lt kk mk mf ml ma il tt hd) (fun u => (wd_M cI cL g fl rn fs lt kk mk mf ml ma il sz tt fh u)) 0 0 := by
  refine gk_I.of (by decide) (Nat.le_of_ble_eq_true rfl) ?_
  intro p e s m below meth c A ls Q H locs hx hb hml hown hts hW hl X
  have hl : lv_has ls 7 [(0, .ref (g 0)), (1, .int x1), (2, .int x2), (3, .int x3), (4, .int x4)] := hl
  obtain ⟨tgt, heq⟩ : ∃ t, mm_mLast x1 x2 x3 x4 rn fs lt kk mk mf ml ma il tt hd = t := ⟨_, rfl⟩
  rw [heq] at X
  rw [mm_mLast] at heq
  obtain ⟨z_x3, v_x3⟩ := gk_vex x3
  obtain ⟨z_x4, v_x4⟩ := gk_vex x4
  obtain ⟨z_il, v_il⟩ := gk_vex il
  have K245 : ∀ (x5 x6 hd : Int32) (H : Heap) (locs : List Loc) (ls : Array Slot), mm_mLast_245 x1 x2 x3 x4 rn fs lt kk mk mf ml ma il tt x5 x6 hd = tgt → gk_W D vwCl (gk_T cI cL) s A H locs (wd_M cI cL g fl rn fs lt kk mk mf ml ma il sz tt fh hd) → lv_has ls 7 [(0, .ref (g 0)), (1, .int x1), (2, .int x2), (3, .int x3), (4, .int x4), (5, .int x5), (6, .int x6)] → W p l e rm_mLast s m [.ref (g 0), .int x1, .int x2, .int x3, .int x4].toArray below meth c H locs 0 0 Q (F0 m 245 ls []) := by
    intro x5 x6 hd H locs ls heq hW hl
    rw [mm_mLast_245] at heq
    refine lv_iload hx hb d_mLast_245 (lv_at hl 4 rfl) ?_
    refine lv_bipush (v := 31) hx hb d_mLast_247 (by decide) ?_
    refine lv_icmp_ne (tgt := 276) hx hb d_mLast_249 (by decide) (fun c_1 => ?_) (fun c_1 => ?_)
    · replace heq := (if_neg c_1).symm.trans heq
      refine lv_aload_n hx hb d_mLast_276 rfl (lv_at hl 0 rfl) ?_
      refine lv_sipush (v := 310) hx hb d_mLast_277 (by decide) ?_
      refine lv_iconst (v := 1) hx hb d_mLast_280 (by decide) ?_
      refine gk_goI (wr := []) hW [0, 1, 2, 3, 4, 5, 6, 7, 8, 9] [] rfl rfl (by decide) (by decide) (va_runV (As := [.int 310, .int 1]) (rest := []) ⟨hx, hb, hml, hown, hts⟩ (c_mTell l D cI cL cL g fl rn fs lt kk mk mf ml ma il sz tt fh hd 310 1 _) (gk_cwV hts w_176 w_177 w_178 w_145 k_mTell rfl e_mTell rfl rfl ⟨Nat.le_of_ble_eq_true rfl, Nat.le_of_ble_eq_true rfl⟩) (gk_preV hW [0, 1, 2, 3, 4, 5, 6, 7, 8, 9] rfl rfl rfl rfl) rfl rfl hl.1 rfl (lv_room (Nat.le_of_ble_eq_true rfl)) d_mLast_281 ⟨Nat.le_of_ble_eq_true rfl, Nat.le_of_ble_eq_true rfl⟩) (fun r_2 u H locs p_4 hW => ?_)
      obtain ⟨rfl, rfl⟩ : r_2 = 310 ∧ u = 1 := Prod.mk.inj (p_4.trans (show (mm_mTell 310 1 hd) = (310, 1) from rfl))
      have hW : gk_W D vwCl (gk_T cI cL) s A H locs (wd_M cI cL g fl rn fs lt kk mk mf ml ma il sz tt fh 1) := hW.re [0, 1, 2, 3, 4, 5, 6, 7, 8, 9] (by decide) rfl
      exact X _ 1 H locs 0 0 284 ls heq hW d_mLast_284 rfl (Nat.le_of_ble_eq_true rfl) (Nat.le_of_ble_eq_true rfl)
    · replace heq := (if_pos c_1).symm.trans heq
      refine lv_iload_n hx hb d_mLast_252 rfl (lv_at hl 3 rfl) ?_
      refine lv_bipush (v := 30) hx hb d_mLast_253 (by decide) ?_
      refine lv_icmp_eq (tgt := 267) hx hb d_mLast_255 (by decide) (fun c_5 => ?_) (fun c_5 => ?_)
      · replace heq := (if_pos c_5).symm.trans heq
        refine lv_aload_n hx hb d_mLast_267 rfl (lv_at hl 0 rfl) ?_
        refine lv_sipush (v := 302) hx hb d_mLast_268 (by decide) ?_
        refine lv_iconst (v := 0) hx hb d_mLast_271 (by decide) ?_
        refine gk_goI (wr := []) hW [0, 1, 2, 3, 4, 5, 6, 7, 8, 9] [] rfl rfl (by decide) (by decide) (va_runV (As := [.int 302, .int 0]) (rest := []) ⟨hx, hb, hml, hown, hts⟩ (c_mTell l D cI cL cL g fl rn fs lt kk mk mf ml ma il sz tt fh hd 302 0 _) (gk_cwV hts w_176 w_177 w_178 w_145 k_mTell rfl e_mTell rfl rfl ⟨Nat.le_of_ble_eq_true rfl, Nat.le_of_ble_eq_true rfl⟩) (gk_preV hW [0, 1, 2, 3, 4, 5, 6, 7, 8, 9] rfl rfl rfl rfl) rfl rfl hl.1 rfl (lv_room (Nat.le_of_ble_eq_true rfl)) d_mLast_272 ⟨Nat.le_of_ble_eq_true rfl, Nat.le_of_ble_eq_true rfl⟩) (fun r_6 u H locs p_8 hW => ?_)
        obtain ⟨rfl, rfl⟩ : r_6 = 302 ∧ u = 0 := Prod.mk.inj (p_8.trans (show (mm_mTell 302 0 hd) = (302, 0) from rfl))
        have hW : gk_W D vwCl (gk_T cI cL) s A H locs (wd_M cI cL g fl rn fs lt kk mk mf ml ma il sz tt fh 0) := hW.re [0, 1, 2, 3, 4, 5, 6, 7, 8, 9] (by decide) rfl
        exact X _ 0 H locs 0 0 275 ls heq hW d_mLast_275 rfl (Nat.le_of_ble_eq_true rfl) (Nat.le_of_ble_eq_true rfl)
      · replace heq := (if_neg c_5).symm.trans heq
        refine lv_aload_n hx hb d_mLast_258 rfl (lv_at hl 0 rfl) ?_
        refine lv_iload_n hx hb d_mLast_259 rfl (lv_at hl 2 rfl) ?_
        refine lv_iconst (v := 1) hx hb d_mLast_260 (by decide) ?_
        refine gk_goR hW [0, 1, 2, 3, 4, 5, 6, 7, 8, 9] rfl (va_runV (As := [.int x2, .int 1]) (rest := []) ⟨hx, hb, hml, hown, hts⟩ (c_mIsMarked l D cI cL cL g fl rn fs lt kk mk mf ml ma il sz tt fh hd x2 1 z_x2 v_x2 1 (show gk_v 1 1 from rfl) (by omega) (by omega) hmk hma _) (gk_cwV hts w_196 w_197 w_198 w_145 k_mIsMarked rfl e_mIsMarked rfl rfl ⟨Nat.le_of_ble_eq_true rfl, Nat.le_of_ble_eq_true rfl⟩) (gk_preV hW [0, 1, 2, 3, 4, 5, 6, 7, 8, 9] rfl rfl rfl rfl) rfl rfl hl.1 rfl (lv_room (Nat.le_of_ble_eq_true rfl)) d_mLast_261 ⟨Nat.le_of_ble_eq_true rfl, Nat.le_of_ble_eq_true rfl⟩) (fun H locs hW => ?_)
        refine lv_if_eq (tgt := 276) hx hb d_mLast_264 (by decide) (fun c_9 => ?_) (fun c_9 => ?_)
        · replace heq := (if_pos c_9).symm.trans heq
          refine lv_aload_n hx hb d_mLast_276 rfl (lv_at hl 0 rfl) ?_
          refine lv_sipush (v := 310) hx hb d_mLast_277 (by decide) ?_
          refine lv_iconst (v := 1) hx hb d_mLast_280 (by decide) ?_
          refine gk_goI (wr := []) hW [0, 1, 2, 3, 4, 5, 6, 7, 8, 9] [] rfl rfl (by decide) (by decide) (va_runV (As := [.int 310, .int 1]) (rest := []) ⟨hx, hb, hml, hown, hts⟩ (c_mTell l D cI cL cL g fl rn fs lt kk mk mf ml ma il sz tt fh hd 310 1 _) (gk_cwV hts w_176 w_177 w_178 w_145 k_mTell rfl e_mTell rfl rfl ⟨Nat.le_of_ble_eq_true rfl, Nat.le_of_ble_eq_true rfl⟩) (gk_preV hW [0, 1, 2, 3, 4, 5, 6, 7, 8, 9] rfl rfl rfl rfl) rfl rfl hl.1 rfl (lv_room (Nat.le_of_ble_eq_true rfl)) d_mLast_281 ⟨Nat.le_of_ble_eq_true rfl, Nat.le_of_ble_eq_true rfl⟩) (fun r_10 u H locs p_12 hW => ?_)
          obtain ⟨rfl, rfl⟩ : r_10 = 310 ∧ u = 1 := Prod.mk.inj (p_12.trans (show (mm_mTell 310 1 hd) = (310, 1) from rfl))
          have hW : gk_W D vwCl (gk_T cI cL) s A H locs (wd_M cI cL g fl rn fs lt kk mk mf ml ma il sz tt fh 1) := hW.re [0, 1, 2, 3, 4, 5, 6, 7, 8, 9] (by decide) rfl
          exact X _ 1 H locs 0 0 284 ls heq hW d_mLast_284 rfl (Nat.le_of_ble_eq_true rfl) (Nat.le_of_ble_eq_true rfl)
        · replace heq := (if_neg c_9).symm.trans heq
          refine lv_aload_n hx hb d_mLast_267 rfl (lv_at hl 0 rfl) ?_
          refine lv_sipush (v := 302) hx hb d_mLast_268 (by decide) ?_
          refine lv_iconst (v := 0) hx hb d_mLast_271 (by decide) ?_
          refine gk_goI (wr := []) hW [0, 1, 2, 3, 4, 5, 6, 7, 8, 9] [] rfl rfl (by decide) (by decide) (va_runV (As := [.int 302, .int 0]) (rest := []) ⟨hx, hb, hml, hown, hts⟩ (c_mTell l D cI cL cL g fl rn fs lt kk mk mf ml ma il sz tt fh hd 302 0 _) (gk_cwV hts w_176 w_177 w_178 w_145 k_mTell rfl e_mTell rfl rfl ⟨Nat.le_of_ble_eq_true rfl, Nat.le_of_ble_eq_true rfl⟩) (gk_preV hW [0, 1, 2, 3, 4, 5, 6, 7, 8, 9] rfl rfl rfl rfl) rfl rfl hl.1 rfl (lv_room (Nat.le_of_ble_eq_true rfl)) d_mLast_272 ⟨Nat.le_of_ble_eq_true rfl, Nat.le_of_ble_eq_true rfl⟩) (fun r_13 u H locs p_15 hW => ?_)
          obtain ⟨rfl, rfl⟩ : r_13 = 302 ∧ u = 0 := Prod.mk.inj (p_15.trans (show (mm_mTell 302 0 hd) = (302, 0) from rfl))
          have hW : gk_W D vwCl (gk_T cI cL) s A H locs (wd_M cI cL g fl rn fs lt kk mk mf ml ma il sz tt fh 0) := hW.re [0, 1, 2, 3, 4, 5, 6, 7, 8, 9] (by decide) rfl
          exact X _ 0 H locs 0 0 275 ls heq hW d_mLast_275 rfl (Nat.le_of_ble_eq_true rfl) (Nat.le_of_ble_eq_true rfl)
  have K191 : ∀ (x5 y0 hd : Int32) (H : Heap) (locs : List Loc) (ls : Array Slot), mm_mLast_191 x1 x2 x3 x4 rn fs lt kk mk mf ml ma il tt x5 y0 hd = tgt → gk_W D vwCl (gk_T cI cL) s A H locs (wd_M cI cL g fl rn fs lt kk mk mf ml ma il sz tt fh hd) → lv_has ls 7 [(0, .ref (g 0)), (1, .int x1), (2, .int x2), (3, .int x3), (4, .int x4), (5, .int x5)] → W p l e rm_mLast s m [.ref (g 0), .int x1, .int x2, .int x3, .int x4].toArray below meth c H locs 0 0 Q (F0 m 191 ls [.int y0]) := by
    intro x5 y0 hd H locs ls heq hW hl
    rw [mm_mLast_191] at heq
    refine lv_istore (lv' := [(6, .int y0), (0, .ref (g 0)), (1, .int x1), (2, .int x2), (3, .int x3), (4, .int x4), (5, .int x5)]) hx hb d_mLast_191 hl (by decide) rfl (fun ls hl => ?_)
    refine lv_iload hx hb d_mLast_193 (lv_at hl 6 rfl) ?_
    refine lv_if_ne (tgt := 203) hx hb d_mLast_195 (by decide) (fun c_16 => ?_) (fun c_16 => ?_)
    · replace heq := (if_neg c_16).symm.trans heq
      refine lv_aload_n hx hb d_mLast_203 rfl (lv_at hl 1 rfl) ?_
      refine lv_sipush (v := 300) hx hb d_mLast_204 (by decide) ?_
      refine lv_iconst (v := 0) hx hb d_mLast_207 (by decide) ?_
      refine gk_goI (wr := []) hW [0, 1, 2, 3, 4, 5, 6, 7, 8, 9] [] rfl rfl (by decide) (by decide) (va_runV (As := [.int 300, .int 0]) (rest := []) ⟨hx, hb, hml, hown, hts⟩ (c_mTell l D cI cL cL g fl rn fs lt kk mk mf ml ma il sz tt fh hd 300 0 _) (gk_cwV hts w_176 w_177 w_178 w_145 k_mTell rfl e_mTell rfl rfl ⟨Nat.le_of_ble_eq_true rfl, Nat.le_of_ble_eq_true rfl⟩) (gk_preV hW [0, 1, 2, 3, 4, 5, 6, 7, 8, 9] rfl rfl rfl rfl) rfl rfl hl.1 rfl (lv_room (Nat.le_of_ble_eq_true rfl)) d_mLast_208 ⟨Nat.le_of_ble_eq_true rfl, Nat.le_of_ble_eq_true rfl⟩) (fun r_17 u H locs p_19 hW => ?_)
      obtain ⟨rfl, rfl⟩ : r_17 = 300 ∧ u = 0 := Prod.mk.inj (p_19.trans (show (mm_mTell 300 0 hd) = (300, 0) from rfl))
      have hW : gk_W D vwCl (gk_T cI cL) s A H locs (wd_M cI cL g fl rn fs lt kk mk mf ml ma il sz tt fh 0) := hW.re [0, 1, 2, 3, 4, 5, 6, 7, 8, 9] (by decide) rfl
      exact X _ 0 H locs 0 0 211 ls heq hW d_mLast_211 rfl (Nat.le_of_ble_eq_true rfl) (Nat.le_of_ble_eq_true rfl)
    · replace heq := (if_pos c_16).symm.trans heq
      refine lv_iload hx hb d_mLast_198 (lv_at hl 0 rfl) ?_
      refine lv_if_eq (tgt := 212) hx hb d_mLast_200 (by decide) (fun c_20 => ?_) (fun c_20 => ?_)
      · replace heq := (if_pos c_20).symm.trans heq
        refine lv_iload_n hx hb d_mLast_212 rfl (lv_at hl 4 rfl) ?_
        refine lv_bipush (v := 37) hx hb d_mLast_213 (by decide) ?_
        refine lv_icmp_ne (tgt := 245) hx hb d_mLast_215 (by decide) (fun c_21 => ?_) (fun c_21 => ?_)
        · replace heq := (if_neg c_21).symm.trans heq
          exact K245 x5 y0 hd H locs ls heq hW (lv_sub hl [1, 2, 3, 4, 5, 6, 0] rfl)
        · replace heq := (if_pos c_21).symm.trans heq
          refine lv_iload hx hb d_mLast_218 (lv_at hl 5 rfl) ?_
          refine lv_bipush (v := 37) hx hb d_mLast_220 (by decide) ?_
          refine lv_icmp_ne (tgt := 245) hx hb d_mLast_222 (by decide) (fun c_22 => ?_) (fun c_22 => ?_)
          · replace heq := (if_neg c_22).symm.trans heq
            exact K245 x5 y0 hd H locs ls heq hW (lv_sub hl [1, 2, 3, 4, 5, 6, 0] rfl)
          · replace heq := (if_pos c_22).symm.trans heq
            refine lv_aload_n hx hb d_mLast_225 rfl (lv_at hl 1 rfl) ?_
            refine lv_iload_n hx hb d_mLast_226 rfl (lv_at hl 3 rfl) ?_
            refine gk_goR hW [0, 1, 2, 3, 4, 5, 6, 7, 8, 9] rfl (va_runV (As := [.int x2]) (rest := []) ⟨hx, hb, hml, hown, hts⟩ (c_mFlags l D cI cL cL g fl rn fs lt kk mk mf ml ma il sz tt fh hd x2 z_rn v_rn z_x2 v_x2 (by omega) (by omega) _) (gk_cwV hts w_199 w_200 w_201 w_145 k_mFlags rfl e_mFlags rfl rfl ⟨Nat.le_of_ble_eq_true rfl, Nat.le_of_ble_eq_true rfl⟩) (gk_preV hW [0, 1, 2, 3, 4, 5, 6, 7, 8, 9] rfl rfl rfl rfl) rfl rfl hl.1 rfl (lv_room (Nat.le_of_ble_eq_true rfl)) d_mLast_227 ⟨Nat.le_of_ble_eq_true rfl, Nat.le_of_ble_eq_true rfl⟩) (fun H locs hW => ?_)
            refine lv_iconst (v := 2) hx hb d_mLast_230 (by decide) ?_
            refine lv_irem hx hb d_mLast_231 (by decide) ?_
            refine lv_iconst (v := 1) hx hb d_mLast_232 (by decide) ?_
            refine lv_icmp_ne (tgt := 245) hx hb d_mLast_233 (by decide) (fun c_23 => ?_) (fun c_23 => ?_)
            · replace heq := (if_neg c_23).symm.trans heq
              exact K245 x5 y0 hd H locs ls heq hW (lv_sub hl [1, 2, 3, 4, 5, 6, 0] rfl)
            · replace heq := (if_pos c_23).symm.trans heq
              refine lv_aload_n hx hb d_mLast_236 rfl (lv_at hl 1 rfl) ?_
              refine lv_sipush (v := 301) hx hb d_mLast_237 (by decide) ?_
              refine lv_iconst (v := 0) hx hb d_mLast_240 (by decide) ?_
              refine gk_goI (wr := []) hW [0, 1, 2, 3, 4, 5, 6, 7, 8, 9] [] rfl rfl (by decide) (by decide) (va_runV (As := [.int 301, .int 0]) (rest := []) ⟨hx, hb, hml, hown, hts⟩ (c_mTell l D cI cL cL g fl rn fs lt kk mk mf ml ma il sz tt fh hd 301 0 _) (gk_cwV hts w_176 w_177 w_178 w_145 k_mTell rfl e_mTell rfl rfl ⟨Nat.le_of_ble_eq_true rfl, Nat.le_of_ble_eq_true rfl⟩) (gk_preV hW [0, 1, 2, 3, 4, 5, 6, 7, 8, 9] rfl rfl rfl rfl) rfl rfl hl.1 rfl (lv_room (Nat.le_of_ble_eq_true rfl)) d_mLast_241 ⟨Nat.le_of_ble_eq_true rfl, Nat.le_of_ble_eq_true rfl⟩) (fun r_24 u H locs p_26 hW => ?_)
              obtain ⟨rfl, rfl⟩ : r_24 = 301 ∧ u = 0 := Prod.mk.inj (p_26.trans (show (mm_mTell 301 0 hd) = (301, 0) from rfl))
              have hW : gk_W D vwCl (gk_T cI cL) s A H locs (wd_M cI cL g fl rn fs lt kk mk mf ml ma il sz tt fh 0) := hW.re [0, 1, 2, 3, 4, 5, 6, 7, 8, 9] (by decide) rfl
              exact X _ 0 H locs 0 0 244 ls heq hW d_mLast_244 rfl (Nat.le_of_ble_eq_true rfl) (Nat.le_of_ble_eq_true rfl)
      · replace heq := (if_neg c_20).symm.trans heq
        refine lv_aload_n hx hb d_mLast_203 rfl (lv_at hl 1 rfl) ?_
        refine lv_sipush (v := 300) hx hb d_mLast_204 (by decide) ?_
        refine lv_iconst (v := 0) hx hb d_mLast_207 (by decide) ?_
        refine gk_goI (wr := []) hW [0, 1, 2, 3, 4, 5, 6, 7, 8, 9] [] rfl rfl (by decide) (by decide) (va_runV (As := [.int 300, .int 0]) (rest := []) ⟨hx, hb, hml, hown, hts⟩ (c_mTell l D cI cL cL g fl rn fs lt kk mk mf ml ma il sz tt fh hd 300 0 _) (gk_cwV hts w_176 w_177 w_178 w_145 k_mTell rfl e_mTell rfl rfl ⟨Nat.le_of_ble_eq_true rfl, Nat.le_of_ble_eq_true rfl⟩) (gk_preV hW [0, 1, 2, 3, 4, 5, 6, 7, 8, 9] rfl rfl rfl rfl) rfl rfl hl.1 rfl (lv_room (Nat.le_of_ble_eq_true rfl)) d_mLast_208 ⟨Nat.le_of_ble_eq_true rfl, Nat.le_of_ble_eq_true rfl⟩) (fun r_27 u H locs p_29 hW => ?_)
        obtain ⟨rfl, rfl⟩ : r_27 = 300 ∧ u = 0 := Prod.mk.inj (p_29.trans (show (mm_mTell 300 0 hd) = (300, 0) from rfl))
        have hW : gk_W D vwCl (gk_T cI cL) s A H locs (wd_M cI cL g fl rn fs lt kk mk mf ml ma il sz tt fh 0) := hW.re [0, 1, 2, 3, 4, 5, 6, 7, 8, 9] (by decide) rfl
        exact X _ 0 H locs 0 0 211 ls heq hW d_mLast_211 rfl (Nat.le_of_ble_eq_true rfl) (Nat.le_of_ble_eq_true rfl)
  have K190 : ∀ (x5 hd : Int32) (H : Heap) (locs : List Loc) (ls : Array Slot), mm_mLast_190 x1 x2 x3 x4 rn fs lt kk mk mf ml ma il tt x5 hd = tgt → gk_W D vwCl (gk_T cI cL) s A H locs (wd_M cI cL g fl rn fs lt kk mk mf ml ma il sz tt fh hd) → lv_has ls 7 [(0, .ref (g 0)), (1, .int x1), (2, .int x2), (3, .int x3), (4, .int x4), (5, .int x5)] → W p l e rm_mLast s m [.ref (g 0), .int x1, .int x2, .int x3, .int x4].toArray below meth c H locs 0 0 Q (F0 m 190 ls []) := by
    intro x5 hd H locs ls heq hW hl
    rw [mm_mLast_190] at heq
    refine lv_iconst (v := 0) hx hb d_mLast_190 (by decide) ?_
    exact K191 x5 0 hd H locs ls heq hW (lv_sub hl [0, 1, 2, 3, 4, 5] rfl)
  have K186 : ∀ (x5 hd : Int32) (H : Heap) (locs : List Loc) (ls : Array Slot), mm_mLast_186 x1 x2 x3 x4 rn fs lt kk mk mf ml ma il tt x5 hd = tgt → gk_W D vwCl (gk_T cI cL) s A H locs (wd_M cI cL g fl rn fs lt kk mk mf ml ma il sz tt fh hd) → lv_has ls 7 [(0, .ref (g 0)), (1, .int x1), (2, .int x2), (3, .int x3), (4, .int x4), (5, .int x5)] → W p l e rm_mLast s m [.ref (g 0), .int x1, .int x2, .int x3, .int x4].toArray below meth c H locs 0 0 Q (F0 m 186 ls []) := by
    intro x5 hd H locs ls heq hW hl
    rw [mm_mLast_186] at heq
    refine lv_iconst (v := 1) hx hb d_mLast_186 (by decide) ?_
    refine lv_goto (tgt := 191) hx hb d_mLast_187 (by decide) ?_
    exact K191 x5 1 hd H locs ls heq hW (lv_sub hl [0, 1, 2, 3, 4, 5] rfl)
  have K154 : ∀ (y0 hd : Int32) (H : Heap) (locs : List Loc) (ls : Array Slot), mm_mLast_154 x1 x2 x3 x4 rn fs lt kk mk mf ml ma il tt y0 hd = tgt → gk_W D vwCl (gk_T cI cL) s A H locs (wd_M cI cL g fl rn fs lt kk mk mf ml ma il sz tt fh hd) → lv_has ls 7 [(0, .ref (g 0)), (1, .int x1), (2, .int x2), (3, .int x3), (4, .int x4)] → W p l e rm_mLast s m [.ref (g 0), .int x1, .int x2, .int x3, .int x4].toArray below meth c H locs 0 0 Q (F0 m 154 ls [.int y0]) := by
    intro y0 hd H locs ls heq hW hl
    rw [mm_mLast_154] at heq
    refine lv_istore (lv' := [(5, .int y0), (0, .ref (g 0)), (1, .int x1), (2, .int x2), (3, .int x3), (4, .int x4)]) hx hb d_mLast_154 hl (by decide) rfl (fun ls hl => ?_)
    refine lv_iload_n hx hb d_mLast_156 rfl (lv_at hl 4 rfl) ?_
    refine lv_bipush (v := 16) hx hb d_mLast_157 (by decide) ?_
    refine lv_icmp_ne (tgt := 190) hx hb d_mLast_159 (by decide) (fun c_30 => ?_) (fun c_30 => ?_)
    · replace heq := (if_neg c_30).symm.trans heq
      exact K190 y0 hd H locs ls heq hW (lv_sub hl [1, 2, 3, 4, 5, 0] rfl)
    · replace heq := (if_pos c_30).symm.trans heq
      refine lv_aload_n hx hb d_mLast_162 rfl (lv_at hl 1 rfl) ?_
      refine lv_iload_n hx hb d_mLast_163 rfl (lv_at hl 3 rfl) ?_
      refine lv_iconst (v := 0) hx hb d_mLast_164 (by decide) ?_
      refine gk_goR hW [0, 1, 2, 3, 4, 5, 6, 7, 8, 9] rfl (va_runV (As := [.int x2, .int 0]) (rest := []) ⟨hx, hb, hml, hown, hts⟩ (c_mIsMarked l D cI cL cL g fl rn fs lt kk mk mf ml ma il sz tt fh hd x2 0 z_x2 v_x2 0 (show gk_v 0 0 from rfl) (by omega) (by omega) hmk hma _) (gk_cwV hts w_196 w_197 w_198 w_145 k_mIsMarked rfl e_mIsMarked rfl rfl ⟨Nat.le_of_ble_eq_true rfl, Nat.le_of_ble_eq_true rfl⟩) (gk_preV hW [0, 1, 2, 3, 4, 5, 6, 7, 8, 9] rfl rfl rfl rfl) rfl rfl hl.1 rfl (lv_room (Nat.le_of_ble_eq_true rfl)) d_mLast_165 ⟨Nat.le_of_ble_eq_true rfl, Nat.le_of_ble_eq_true rfl⟩) (fun H locs hW => ?_)
      refine lv_if_ne (tgt := 190) hx hb d_mLast_168 (by decide) (fun c_31 => ?_) (fun c_31 => ?_)
      · replace heq := (if_neg c_31).symm.trans heq
        exact K190 y0 hd H locs ls heq hW (lv_sub hl [1, 2, 3, 4, 5, 0] rfl)
      · replace heq := (if_pos c_31).symm.trans heq
        refine lv_iload hx hb d_mLast_171 (lv_at hl 5 rfl) ?_
        refine gk_goR hW [] rfl (va_runS (As := [.int x4]) (rest := []) ⟨hx, hb, hml, hown, hts⟩ (c_mIsLetter l D cI cL x4 _) (gk_cwS hts w_188 w_189 w_145 k_mIsLetter rfl e_mIsLetter rfl rfl ⟨Nat.le_of_ble_eq_true rfl, Nat.le_of_ble_eq_true rfl⟩) (gk_pre hW [] rfl rfl) rfl rfl hl.1 rfl (lv_room (Nat.le_of_ble_eq_true rfl)) d_mLast_173 ⟨Nat.le_of_ble_eq_true rfl, Nat.le_of_ble_eq_true rfl⟩) (fun H locs hW => ?_)
        refine lv_if_ne (tgt := 186) hx hb d_mLast_176 (by decide) (fun c_32 => ?_) (fun c_32 => ?_)
        · replace heq := (if_neg c_32).symm.trans heq
          exact K186 y0 hd H locs ls heq hW (lv_sub hl [1, 2, 3, 4, 5, 0] rfl)
        · replace heq := (if_pos c_32).symm.trans heq
          refine lv_iload hx hb d_mLast_179 (lv_at hl 5 rfl) ?_
          refine lv_bipush (v := 23) hx hb d_mLast_181 (by decide) ?_
          refine lv_icmp_ne (tgt := 190) hx hb d_mLast_183 (by decide) (fun c_33 => ?_) (fun c_33 => ?_)
          · replace heq := (if_neg c_33).symm.trans heq
            exact K190 y0 hd H locs ls heq hW (lv_sub hl [1, 2, 3, 4, 5, 0] rfl)
          · replace heq := (if_pos c_33).symm.trans heq
            exact K186 y0 hd H locs ls heq hW (lv_sub hl [1, 2, 3, 4, 5, 0] rfl)
  have K153 : ∀ (hd : Int32) (H : Heap) (locs : List Loc) (ls : Array Slot), mm_mLast_153 x1 x2 x3 x4 rn fs lt kk mk mf ml ma il tt hd = tgt → gk_W D vwCl (gk_T cI cL) s A H locs (wd_M cI cL g fl rn fs lt kk mk mf ml ma il sz tt fh hd) → lv_has ls 7 [(0, .ref (g 0)), (1, .int x1), (2, .int x2), (3, .int x3), (4, .int x4)] → W p l e rm_mLast s m [.ref (g 0), .int x1, .int x2, .int x3, .int x4].toArray below meth c H locs 0 0 Q (F0 m 153 ls []) := by
    intro hd H locs ls heq hW hl
    rw [mm_mLast_153] at heq
    refine lv_iconst (v := 0) hx hb d_mLast_153 (by decide) ?_
    exact K154 0 hd H locs ls heq hW (lv_sub hl [0, 1, 2, 3, 4] rfl)
  have K133 : ∀ (hd : Int32) (H : Heap) (locs : List Loc) (ls : Array Slot), mm_mLast_133 x1 x2 x3 x4 rn fs lt kk mk mf ml ma il tt hd = tgt → gk_W D vwCl (gk_T cI cL) s A H locs (wd_M cI cL g fl rn fs lt kk mk mf ml ma il sz tt fh hd) → lv_has ls 7 [(0, .ref (g 0)), (1, .int x1), (2, .int x2), (3, .int x3), (4, .int x4)] → W p l e rm_mLast s m [.ref (g 0), .int x1, .int x2, .int x3, .int x4].toArray below meth c H locs 0 0 Q (F0 m 133 ls []) := by
    intro hd H locs ls heq hW hl
    rw [mm_mLast_133] at heq
    refine lv_iload hx hb d_mLast_133 (lv_at hl 4 rfl) ?_
    refine lv_bipush (v := 20) hx hb d_mLast_135 (by decide) ?_
    refine lv_icmp_ne (tgt := 153) hx hb d_mLast_137 (by decide) (fun c_34 => ?_) (fun c_34 => ?_)
    · replace heq := (if_neg c_34).symm.trans heq
      exact K153 hd H locs ls heq hW (lv_sub hl [0, 1, 2, 3, 4] rfl)
    · replace heq := (if_pos c_34).symm.trans heq
      refine lv_aload_n hx hb d_mLast_140 rfl (lv_at hl 0 rfl) ?_
      refine lv_iload_n hx hb d_mLast_141 rfl (lv_at hl 1 rfl) ?_
      refine lv_iconst (v := 0) hx hb d_mLast_142 (by decide) ?_
      refine gk_goR hW [0, 1, 2, 3, 4, 5, 6, 7, 8, 9] rfl (va_runV (As := [.int x1, .int 0]) (rest := []) ⟨hx, hb, hml, hown, hts⟩ (c_mIsMarked l D cI cL cL g fl rn fs lt kk mk mf ml ma il sz tt fh hd x1 0 z_x1 v_x1 0 (show gk_v 0 0 from rfl) (by omega) (by omega) hmk hma _) (gk_cwV hts w_196 w_197 w_198 w_145 k_mIsMarked rfl e_mIsMarked rfl rfl ⟨Nat.le_of_ble_eq_true rfl, Nat.le_of_ble_eq_true rfl⟩) (gk_preV hW [0, 1, 2, 3, 4, 5, 6, 7, 8, 9] rfl rfl rfl rfl) rfl rfl hl.1 rfl (lv_room (Nat.le_of_ble_eq_true rfl)) d_mLast_143 ⟨Nat.le_of_ble_eq_true rfl, Nat.le_of_ble_eq_true rfl⟩) (fun H locs hW => ?_)
      refine lv_if_ne (tgt := 153) hx hb d_mLast_146 (by decide) (fun c_35 => ?_) (fun c_35 => ?_)
      · replace heq := (if_neg c_35).symm.trans heq
        exact K153 hd H locs ls heq hW (lv_sub hl [0, 1, 2, 3, 4] rfl)
      · replace heq := (if_pos c_35).symm.trans heq
        refine lv_iconst (v := 1) hx hb d_mLast_149 (by decide) ?_
        refine lv_goto (tgt := 154) hx hb d_mLast_150 (by decide) ?_
        exact K154 1 hd H locs ls heq hW (lv_sub hl [0, 1, 2, 3, 4] rfl)
  have K120 : ∀ (hd : Int32) (H : Heap) (locs : List Loc) (ls : Array Slot), mm_mLast_120 x1 x2 x3 x4 rn fs lt kk mk mf ml ma il tt hd = tgt → gk_W D vwCl (gk_T cI cL) s A H locs (wd_M cI cL g fl rn fs lt kk mk mf ml ma il sz tt fh hd) → lv_has ls 7 [(0, .ref (g 0)), (1, .int x1), (2, .int x2), (3, .int x3), (4, .int x4)] → W p l e rm_mLast s m [.ref (g 0), .int x1, .int x2, .int x3, .int x4].toArray below meth c H locs 0 0 Q (F0 m 120 ls []) := by
    intro hd H locs ls heq hW hl
    rw [mm_mLast_120] at heq
    refine lv_iload_n hx hb d_mLast_120 rfl (lv_at hl 3 rfl) ?_
    refine gk_goR hW [] rfl (va_runS (As := [.int x3]) (rest := []) ⟨hx, hb, hml, hown, hts⟩ (c_mIsLetter l D cI cL x3 _) (gk_cwS hts w_188 w_189 w_145 k_mIsLetter rfl e_mIsLetter rfl rfl ⟨Nat.le_of_ble_eq_true rfl, Nat.le_of_ble_eq_true rfl⟩) (gk_pre hW [] rfl rfl) rfl rfl hl.1 rfl (lv_room (Nat.le_of_ble_eq_true rfl)) d_mLast_121 ⟨Nat.le_of_ble_eq_true rfl, Nat.le_of_ble_eq_true rfl⟩) (fun H locs hW => ?_)
    refine lv_if_ne (tgt := 133) hx hb d_mLast_124 (by decide) (fun c_36 => ?_) (fun c_36 => ?_)
    · replace heq := (if_neg c_36).symm.trans heq
      exact K133 hd H locs ls heq hW (lv_sub hl [0, 1, 2, 3, 4] rfl)
    · replace heq := (if_pos c_36).symm.trans heq
      refine lv_iload_n hx hb d_mLast_127 rfl (lv_at hl 3 rfl) ?_
      refine lv_bipush (v := 23) hx hb d_mLast_128 (by decide) ?_
      refine lv_icmp_ne (tgt := 153) hx hb d_mLast_130 (by decide) (fun c_37 => ?_) (fun c_37 => ?_)
      · replace heq := (if_neg c_37).symm.trans heq
        exact K153 hd H locs ls heq hW (lv_sub hl [0, 1, 2, 3, 4] rfl)
      · replace heq := (if_pos c_37).symm.trans heq
        exact K133 hd H locs ls heq hW (lv_sub hl [0, 1, 2, 3, 4] rfl)
  have K97 : ∀ (hd : Int32) (H : Heap) (locs : List Loc) (ls : Array Slot), mm_mLast_97 x1 x2 x3 x4 rn fs lt kk mk mf ml ma il tt hd = tgt → gk_W D vwCl (gk_T cI cL) s A H locs (wd_M cI cL g fl rn fs lt kk mk mf ml ma il sz tt fh hd) → lv_has ls 7 [(0, .ref (g 0)), (1, .int x1), (2, .int x2), (3, .int x3), (4, .int x4)] → W p l e rm_mLast s m [.ref (g 0), .int x1, .int x2, .int x3, .int x4].toArray below meth c H locs 0 0 Q (F0 m 97 ls []) := by
    intro hd H locs ls heq hW hl
    rw [mm_mLast_97] at heq
    refine lv_iload_n hx hb d_mLast_97 rfl (lv_at hl 3 rfl) ?_
    refine lv_bipush (v := 22) hx hb d_mLast_98 (by decide) ?_
    refine lv_icmp_ne (tgt := 120) hx hb d_mLast_100 (by decide) (fun c_38 => ?_) (fun c_38 => ?_)
    · replace heq := (if_neg c_38).symm.trans heq
      exact K120 hd H locs ls heq hW (lv_sub hl [0, 1, 2, 3, 4] rfl)
    · replace heq := (if_pos c_38).symm.trans heq
      refine lv_iload hx hb d_mLast_103 (lv_at hl 4 rfl) ?_
      refine gk_goR hW [] rfl (va_runS (As := [.int x4]) (rest := []) ⟨hx, hb, hml, hown, hts⟩ (c_mIsLetter l D cI cL x4 _) (gk_cwS hts w_188 w_189 w_145 k_mIsLetter rfl e_mIsLetter rfl rfl ⟨Nat.le_of_ble_eq_true rfl, Nat.le_of_ble_eq_true rfl⟩) (gk_pre hW [] rfl rfl) rfl rfl hl.1 rfl (lv_room (Nat.le_of_ble_eq_true rfl)) d_mLast_105 ⟨Nat.le_of_ble_eq_true rfl, Nat.le_of_ble_eq_true rfl⟩) (fun H locs hW => ?_)
      refine lv_if_eq (tgt := 120) hx hb d_mLast_108 (by decide) (fun c_39 => ?_) (fun c_39 => ?_)
      · replace heq := (if_pos c_39).symm.trans heq
        exact K120 hd H locs ls heq hW (lv_sub hl [0, 1, 2, 3, 4] rfl)
      · replace heq := (if_neg c_39).symm.trans heq
        refine lv_aload_n hx hb d_mLast_111 rfl (lv_at hl 0 rfl) ?_
        refine lv_sipush (v := 290) hx hb d_mLast_112 (by decide) ?_
        refine lv_iconst (v := 0) hx hb d_mLast_115 (by decide) ?_
        refine gk_goI (wr := []) hW [0, 1, 2, 3, 4, 5, 6, 7, 8, 9] [] rfl rfl (by decide) (by decide) (va_runV (As := [.int 290, .int 0]) (rest := []) ⟨hx, hb, hml, hown, hts⟩ (c_mTell l D cI cL cL g fl rn fs lt kk mk mf ml ma il sz tt fh hd 290 0 _) (gk_cwV hts w_176 w_177 w_178 w_145 k_mTell rfl e_mTell rfl rfl ⟨Nat.le_of_ble_eq_true rfl, Nat.le_of_ble_eq_true rfl⟩) (gk_preV hW [0, 1, 2, 3, 4, 5, 6, 7, 8, 9] rfl rfl rfl rfl) rfl rfl hl.1 rfl (lv_room (Nat.le_of_ble_eq_true rfl)) d_mLast_116 ⟨Nat.le_of_ble_eq_true rfl, Nat.le_of_ble_eq_true rfl⟩) (fun r_40 u H locs p_42 hW => ?_)
        obtain ⟨rfl, rfl⟩ : r_40 = 290 ∧ u = 0 := Prod.mk.inj (p_42.trans (show (mm_mTell 290 0 hd) = (290, 0) from rfl))
        have hW : gk_W D vwCl (gk_T cI cL) s A H locs (wd_M cI cL g fl rn fs lt kk mk mf ml ma il sz tt fh 0) := hW.re [0, 1, 2, 3, 4, 5, 6, 7, 8, 9] (by decide) rfl
        exact X _ 0 H locs 0 0 119 ls heq hW d_mLast_119 rfl (Nat.le_of_ble_eq_true rfl) (Nat.le_of_ble_eq_true rfl)
  have K73 : ∀ (hd : Int32) (H : Heap) (locs : List Loc) (ls : Array Slot), mm_mLast_73 x1 x2 x3 x4 rn fs lt kk mk mf ml ma il tt hd = tgt → gk_W D vwCl (gk_T cI cL) s A H locs (wd_M cI cL g fl rn fs lt kk mk mf ml ma il sz tt fh hd) → lv_has ls 7 [(0, .ref (g 0)), (1, .int x1), (2, .int x2), (3, .int x3), (4, .int x4)] → W p l e rm_mLast s m [.ref (g 0), .int x1, .int x2, .int x3, .int x4].toArray below meth c H locs 0 0 Q (F0 m 73 ls []) := by
    intro hd H locs ls heq hW hl
    rw [mm_mLast_73] at heq
    refine lv_iload_n hx hb d_mLast_73 rfl (lv_at hl 3 rfl) ?_
    refine gk_goR hW [] rfl (va_runS (As := [.int x3]) (rest := []) ⟨hx, hb, hml, hown, hts⟩ (c_mIsLetter l D cI cL x3 _) (gk_cwS hts w_188 w_189 w_145 k_mIsLetter rfl e_mIsLetter rfl rfl ⟨Nat.le_of_ble_eq_true rfl, Nat.le_of_ble_eq_true rfl⟩) (gk_pre hW [] rfl rfl) rfl rfl hl.1 rfl (lv_room (Nat.le_of_ble_eq_true rfl)) d_mLast_74 ⟨Nat.le_of_ble_eq_true rfl, Nat.le_of_ble_eq_true rfl⟩) (fun H locs hW => ?_)
    refine lv_if_eq (tgt := 97) hx hb d_mLast_77 (by decide) (fun c_43 => ?_) (fun c_43 => ?_)
    · replace heq := (if_pos c_43).symm.trans heq
      exact K97 hd H locs ls heq hW (lv_sub hl [0, 1, 2, 3, 4] rfl)
    · replace heq := (if_neg c_43).symm.trans heq
      refine lv_iload hx hb d_mLast_80 (lv_at hl 4 rfl) ?_
      refine gk_goR hW [] rfl (va_runS (As := [.int x4]) (rest := []) ⟨hx, hb, hml, hown, hts⟩ (c_mIsLetter l D cI cL x4 _) (gk_cwS hts w_188 w_189 w_145 k_mIsLetter rfl e_mIsLetter rfl rfl ⟨Nat.le_of_ble_eq_true rfl, Nat.le_of_ble_eq_true rfl⟩) (gk_pre hW [] rfl rfl) rfl rfl hl.1 rfl (lv_room (Nat.le_of_ble_eq_true rfl)) d_mLast_82 ⟨Nat.le_of_ble_eq_true rfl, Nat.le_of_ble_eq_true rfl⟩) (fun H locs hW => ?_)
      refine lv_if_eq (tgt := 97) hx hb d_mLast_85 (by decide) (fun c_44 => ?_) (fun c_44 => ?_)
      · replace heq := (if_pos c_44).symm.trans heq
        exact K97 hd H locs ls heq hW (lv_sub hl [0, 1, 2, 3, 4] rfl)
      · replace heq := (if_neg c_44).symm.trans heq
        refine lv_aload_n hx hb d_mLast_88 rfl (lv_at hl 0 rfl) ?_
        refine lv_sipush (v := 280) hx hb d_mLast_89 (by decide) ?_
        refine lv_iconst (v := 0) hx hb d_mLast_92 (by decide) ?_
        refine gk_goI (wr := []) hW [0, 1, 2, 3, 4, 5, 6, 7, 8, 9] [] rfl rfl (by decide) (by decide) (va_runV (As := [.int 280, .int 0]) (rest := []) ⟨hx, hb, hml, hown, hts⟩ (c_mTell l D cI cL cL g fl rn fs lt kk mk mf ml ma il sz tt fh hd 280 0 _) (gk_cwV hts w_176 w_177 w_178 w_145 k_mTell rfl e_mTell rfl rfl ⟨Nat.le_of_ble_eq_true rfl, Nat.le_of_ble_eq_true rfl⟩) (gk_preV hW [0, 1, 2, 3, 4, 5, 6, 7, 8, 9] rfl rfl rfl rfl) rfl rfl hl.1 rfl (lv_room (Nat.le_of_ble_eq_true rfl)) d_mLast_93 ⟨Nat.le_of_ble_eq_true rfl, Nat.le_of_ble_eq_true rfl⟩) (fun r_45 u H locs p_47 hW => ?_)
        obtain ⟨rfl, rfl⟩ : r_45 = 280 ∧ u = 0 := Prod.mk.inj (p_47.trans (show (mm_mTell 280 0 hd) = (280, 0) from rfl))
        have hW : gk_W D vwCl (gk_T cI cL) s A H locs (wd_M cI cL g fl rn fs lt kk mk mf ml ma il sz tt fh 0) := hW.re [0, 1, 2, 3, 4, 5, 6, 7, 8, 9] (by decide) rfl
        exact X _ 0 H locs 0 0 96 ls heq hW d_mLast_96 rfl (Nat.le_of_ble_eq_true rfl) (Nat.le_of_ble_eq_true rfl)
  have K50 : ∀ (hd : Int32) (H : Heap) (locs : List Loc) (ls : Array Slot), mm_mLast_50 x1 x2 x3 x4 rn fs lt kk mk mf ml ma il tt hd = tgt → gk_W D vwCl (gk_T cI cL) s A H locs (wd_M cI cL g fl rn fs lt kk mk mf ml ma il sz tt fh hd) → lv_has ls 7 [(0, .ref (g 0)), (1, .int x1), (2, .int x2), (3, .int x3), (4, .int x4)] → W p l e rm_mLast s m [.ref (g 0), .int x1, .int x2, .int x3, .int x4].toArray below meth c H locs 0 0 Q (F0 m 50 ls []) := by
    intro hd H locs ls heq hW hl
    rw [mm_mLast_50] at heq
    refine lv_iload_n hx hb d_mLast_50 rfl (lv_at hl 3 rfl) ?_
    refine lv_bipush (v := 25) hx hb d_mLast_51 (by decide) ?_
    refine lv_icmp_ne (tgt := 73) hx hb d_mLast_53 (by decide) (fun c_48 => ?_) (fun c_48 => ?_)
    · replace heq := (if_neg c_48).symm.trans heq
      exact K73 hd H locs ls heq hW (lv_sub hl [0, 1, 2, 3, 4] rfl)
    · replace heq := (if_pos c_48).symm.trans heq
      refine lv_iload hx hb d_mLast_56 (lv_at hl 4 rfl) ?_
      refine gk_goR hW [] rfl (va_runS (As := [.int x4]) (rest := []) ⟨hx, hb, hml, hown, hts⟩ (c_mIsHangul l D cI cL x4 _) (gk_cwS hts w_194 w_195 w_145 k_mIsHangul rfl e_mIsHangul rfl rfl ⟨Nat.le_of_ble_eq_true rfl, Nat.le_of_ble_eq_true rfl⟩) (gk_pre hW [] rfl rfl) rfl rfl hl.1 rfl (lv_room (Nat.le_of_ble_eq_true rfl)) d_mLast_58 ⟨Nat.le_of_ble_eq_true rfl, Nat.le_of_ble_eq_true rfl⟩) (fun H locs hW => ?_)
      refine lv_if_eq (tgt := 73) hx hb d_mLast_61 (by decide) (fun c_49 => ?_) (fun c_49 => ?_)
      · replace heq := (if_pos c_49).symm.trans heq
        exact K73 hd H locs ls heq hW (lv_sub hl [0, 1, 2, 3, 4] rfl)
      · replace heq := (if_neg c_49).symm.trans heq
        refine lv_aload_n hx hb d_mLast_64 rfl (lv_at hl 0 rfl) ?_
        refine lv_sipush (v := 270) hx hb d_mLast_65 (by decide) ?_
        refine lv_iconst (v := 0) hx hb d_mLast_68 (by decide) ?_
        refine gk_goI (wr := []) hW [0, 1, 2, 3, 4, 5, 6, 7, 8, 9] [] rfl rfl (by decide) (by decide) (va_runV (As := [.int 270, .int 0]) (rest := []) ⟨hx, hb, hml, hown, hts⟩ (c_mTell l D cI cL cL g fl rn fs lt kk mk mf ml ma il sz tt fh hd 270 0 _) (gk_cwV hts w_176 w_177 w_178 w_145 k_mTell rfl e_mTell rfl rfl ⟨Nat.le_of_ble_eq_true rfl, Nat.le_of_ble_eq_true rfl⟩) (gk_preV hW [0, 1, 2, 3, 4, 5, 6, 7, 8, 9] rfl rfl rfl rfl) rfl rfl hl.1 rfl (lv_room (Nat.le_of_ble_eq_true rfl)) d_mLast_69 ⟨Nat.le_of_ble_eq_true rfl, Nat.le_of_ble_eq_true rfl⟩) (fun r_50 u H locs p_52 hW => ?_)
        obtain ⟨rfl, rfl⟩ : r_50 = 270 ∧ u = 0 := Prod.mk.inj (p_52.trans (show (mm_mTell 270 0 hd) = (270, 0) from rfl))
        have hW : gk_W D vwCl (gk_T cI cL) s A H locs (wd_M cI cL g fl rn fs lt kk mk mf ml ma il sz tt fh 0) := hW.re [0, 1, 2, 3, 4, 5, 6, 7, 8, 9] (by decide) rfl
        exact X _ 0 H locs 0 0 72 ls heq hW d_mLast_72 rfl (Nat.le_of_ble_eq_true rfl) (Nat.le_of_ble_eq_true rfl)
  refine lv_iload_n hx hb d_mLast_0 rfl (lv_at hl 3 rfl) ?_
  refine lv_iload hx hb d_mLast_1 (lv_at hl 4 rfl) ?_
  refine gk_goR hW [] rfl (va_runS (As := [.int x3, .int x4]) (rest := []) ⟨hx, hb, hml, hown, hts⟩ (c_mIsNumeric l D cI cL x3 x4 _) (gk_cwS hts w_190 w_191 w_145 k_mIsNumeric rfl e_mIsNumeric rfl rfl ⟨Nat.le_of_ble_eq_true rfl, Nat.le_of_ble_eq_true rfl⟩) (gk_pre hW [] rfl rfl) rfl rfl hl.1 rfl (lv_room (Nat.le_of_ble_eq_true rfl)) d_mLast_3 ⟨Nat.le_of_ble_eq_true rfl, Nat.le_of_ble_eq_true rfl⟩) (fun H locs hW => ?_)
  refine lv_if_eq (tgt := 18) hx hb d_mLast_6 (by decide) (fun c_53 => ?_) (fun c_53 => ?_)
  · replace heq := (if_pos c_53).symm.trans heq
    refine lv_iload_n hx hb d_mLast_18 rfl (lv_at hl 3 rfl) ?_
    refine lv_iload hx hb d_mLast_19 (lv_at hl 4 rfl) ?_
    refine gk_goR hW [] rfl (va_runS (As := [.int x3, .int x4]) (rest := []) ⟨hx, hb, hml, hown, hts⟩ (c_mIsSyllable l D cI cL x3 x4 _) (gk_cwS hts w_192 w_193 w_145 k_mIsSyllable rfl e_mIsSyllable rfl rfl ⟨Nat.le_of_ble_eq_true rfl, Nat.le_of_ble_eq_true rfl⟩) (gk_pre hW [] rfl rfl) rfl rfl hl.1 rfl (lv_room (Nat.le_of_ble_eq_true rfl)) d_mLast_21 ⟨Nat.le_of_ble_eq_true rfl, Nat.le_of_ble_eq_true rfl⟩) (fun H locs hW => ?_)
    refine lv_if_eq (tgt := 36) hx hb d_mLast_24 (by decide) (fun c_54 => ?_) (fun c_54 => ?_)
    · replace heq := (if_pos c_54).symm.trans heq
      refine lv_iload_n hx hb d_mLast_36 rfl (lv_at hl 3 rfl) ?_
      refine gk_goR hW [] rfl (va_runS (As := [.int x3]) (rest := []) ⟨hx, hb, hml, hown, hts⟩ (c_mIsHangul l D cI cL x3 _) (gk_cwS hts w_194 w_195 w_145 k_mIsHangul rfl e_mIsHangul rfl rfl ⟨Nat.le_of_ble_eq_true rfl, Nat.le_of_ble_eq_true rfl⟩) (gk_pre hW [] rfl rfl) rfl rfl hl.1 rfl (lv_room (Nat.le_of_ble_eq_true rfl)) d_mLast_37 ⟨Nat.le_of_ble_eq_true rfl, Nat.le_of_ble_eq_true rfl⟩) (fun H locs hW => ?_)
      refine lv_if_eq (tgt := 50) hx hb d_mLast_40 (by decide) (fun c_55 => ?_) (fun c_55 => ?_)
      · replace heq := (if_pos c_55).symm.trans heq
        exact K50 hd H locs ls heq hW (lv_sub hl [0, 1, 2, 3, 4] rfl)
      · replace heq := (if_neg c_55).symm.trans heq
        refine lv_iload hx hb d_mLast_43 (lv_at hl 4 rfl) ?_
        refine lv_bipush (v := 24) hx hb d_mLast_45 (by decide) ?_
        refine lv_icmp_eq (tgt := 64) hx hb d_mLast_47 (by decide) (fun c_56 => ?_) (fun c_56 => ?_)
        · replace heq := (if_pos c_56).symm.trans heq
          refine lv_aload_n hx hb d_mLast_64 rfl (lv_at hl 0 rfl) ?_
          refine lv_sipush (v := 270) hx hb d_mLast_65 (by decide) ?_
          refine lv_iconst (v := 0) hx hb d_mLast_68 (by decide) ?_
          refine gk_goI (wr := []) hW [0, 1, 2, 3, 4, 5, 6, 7, 8, 9] [] rfl rfl (by decide) (by decide) (va_runV (As := [.int 270, .int 0]) (rest := []) ⟨hx, hb, hml, hown, hts⟩ (c_mTell l D cI cL cL g fl rn fs lt kk mk mf ml ma il sz tt fh hd 270 0 _) (gk_cwV hts w_176 w_177 w_178 w_145 k_mTell rfl e_mTell rfl rfl ⟨Nat.le_of_ble_eq_true rfl, Nat.le_of_ble_eq_true rfl⟩) (gk_preV hW [0, 1, 2, 3, 4, 5, 6, 7, 8, 9] rfl rfl rfl rfl) rfl rfl hl.1 rfl (lv_room (Nat.le_of_ble_eq_true rfl)) d_mLast_69 ⟨Nat.le_of_ble_eq_true rfl, Nat.le_of_ble_eq_true rfl⟩) (fun r_57 u H locs p_59 hW => ?_)
          obtain ⟨rfl, rfl⟩ : r_57 = 270 ∧ u = 0 := Prod.mk.inj (p_59.trans (show (mm_mTell 270 0 hd) = (270, 0) from rfl))
          have hW : gk_W D vwCl (gk_T cI cL) s A H locs (wd_M cI cL g fl rn fs lt kk mk mf ml ma il sz tt fh 0) := hW.re [0, 1, 2, 3, 4, 5, 6, 7, 8, 9] (by decide) rfl
          exact X _ 0 H locs 0 0 72 ls heq hW d_mLast_72 rfl (Nat.le_of_ble_eq_true rfl) (Nat.le_of_ble_eq_true rfl)
        · replace heq := (if_neg c_56).symm.trans heq
          exact K50 hd H locs ls heq hW (lv_sub hl [0, 1, 2, 3, 4] rfl)
    · replace heq := (if_neg c_54).symm.trans heq
      refine lv_aload_n hx hb d_mLast_27 rfl (lv_at hl 0 rfl) ?_
      refine lv_sipush (v := 260) hx hb d_mLast_28 (by decide) ?_
      refine lv_iconst (v := 0) hx hb d_mLast_31 (by decide) ?_
      refine gk_goI (wr := []) hW [0, 1, 2, 3, 4, 5, 6, 7, 8, 9] [] rfl rfl (by decide) (by decide) (va_runV (As := [.int 260, .int 0]) (rest := []) ⟨hx, hb, hml, hown, hts⟩ (c_mTell l D cI cL cL g fl rn fs lt kk mk mf ml ma il sz tt fh hd 260 0 _) (gk_cwV hts w_176 w_177 w_178 w_145 k_mTell rfl e_mTell rfl rfl ⟨Nat.le_of_ble_eq_true rfl, Nat.le_of_ble_eq_true rfl⟩) (gk_preV hW [0, 1, 2, 3, 4, 5, 6, 7, 8, 9] rfl rfl rfl rfl) rfl rfl hl.1 rfl (lv_room (Nat.le_of_ble_eq_true rfl)) d_mLast_32 ⟨Nat.le_of_ble_eq_true rfl, Nat.le_of_ble_eq_true rfl⟩) (fun r_60 u H locs p_62 hW => ?_)
      obtain ⟨rfl, rfl⟩ : r_60 = 260 ∧ u = 0 := Prod.mk.inj (p_62.trans (show (mm_mTell 260 0 hd) = (260, 0) from rfl))
      have hW : gk_W D vwCl (gk_T cI cL) s A H locs (wd_M cI cL g fl rn fs lt kk mk mf ml ma il sz tt fh 0) := hW.re [0, 1, 2, 3, 4, 5, 6, 7, 8, 9] (by decide) rfl
      exact X _ 0 H locs 0 0 35 ls heq hW d_mLast_35 rfl (Nat.le_of_ble_eq_true rfl) (Nat.le_of_ble_eq_true rfl)
  · replace heq := (if_neg c_53).symm.trans heq
    refine lv_aload_n hx hb d_mLast_9 rfl (lv_at hl 0 rfl) ?_
    refine lv_sipush (v := 250) hx hb d_mLast_10 (by decide) ?_
    refine lv_iconst (v := 0) hx hb d_mLast_13 (by decide) ?_
    refine gk_goI (wr := []) hW [0, 1, 2, 3, 4, 5, 6, 7, 8, 9] [] rfl rfl (by decide) (by decide) (va_runV (As := [.int 250, .int 0]) (rest := []) ⟨hx, hb, hml, hown, hts⟩ (c_mTell l D cI cL cL g fl rn fs lt kk mk mf ml ma il sz tt fh hd 250 0 _) (gk_cwV hts w_176 w_177 w_178 w_145 k_mTell rfl e_mTell rfl rfl ⟨Nat.le_of_ble_eq_true rfl, Nat.le_of_ble_eq_true rfl⟩) (gk_preV hW [0, 1, 2, 3, 4, 5, 6, 7, 8, 9] rfl rfl rfl rfl) rfl rfl hl.1 rfl (lv_room (Nat.le_of_ble_eq_true rfl)) d_mLast_14 ⟨Nat.le_of_ble_eq_true rfl, Nat.le_of_ble_eq_true rfl⟩) (fun r_63 u H locs p_65 hW => ?_)
    obtain ⟨rfl, rfl⟩ : r_63 = 250 ∧ u = 0 := Prod.mk.inj (p_65.trans (show (mm_mTell 250 0 hd) = (250, 0) from rfl))
    have hW : gk_W D vwCl (gk_T cI cL) s A H locs (wd_M cI cL g fl rn fs lt kk mk mf ml ma il sz tt fh 0) := hW.re [0, 1, 2, 3, 4, 5, 6, 7, 8, 9] (by decide) rfl
    exact X _ 0 H locs 0 0 17 ls heq hW d_mLast_17 rfl (Nat.le_of_ble_eq_true rfl) (Nat.le_of_ble_eq_true rfl)
