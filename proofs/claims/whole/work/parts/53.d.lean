def mm_mLate_253 (x1 x2 x3 rn : Int32) (fs lt kk : Nat → Int32) (il : Int32) (tt : Nat → Int32) (x4 x5 x6 hd : Int32) : Int32 × Int32 := if (mm_mIsLetter x2) = 0 then (0, hd) else (if x3 = 25 then (240, 0) else (if x3 = 24 then (240, 0) else (0, hd)))
def mm_mLate_239 (x1 x2 x3 rn : Int32) (fs lt kk : Nat → Int32) (il : Int32) (tt : Nat → Int32) (x4 x5 y0 hd : Int32) : Int32 × Int32 := if y0 = 0 then (mm_mLate_253 x1 x2 x3 rn fs lt kk il tt x4 x5 y0 hd) else (if (mm_mIsLetter x3) = 0 then (mm_mLate_253 x1 x2 x3 rn fs lt kk il tt x4 x5 y0 hd) else (240, 0))
def mm_mLate_234 (x1 x2 x3 rn : Int32) (fs lt kk : Nat → Int32) (il : Int32) (tt : Nat → Int32) (x4 x5 hd : Int32) : Int32 × Int32 := mm_mLate_239 x1 x2 x3 rn fs lt kk il tt x4 x5 1 hd
def mm_mLate_222 (x1 x2 x3 rn : Int32) (fs lt kk : Nat → Int32) (il : Int32) (tt : Nat → Int32) (x4 x5 hd : Int32) : Int32 × Int32 := if x2 = 25 then (mm_mLate_234 x1 x2 x3 rn fs lt kk il tt x4 x5 hd) else (if x2 = 24 then (mm_mLate_234 x1 x2 x3 rn fs lt kk il tt x4 x5 hd) else (mm_mLate_239 x1 x2 x3 rn fs lt kk il tt x4 x5 0 hd))
def mm_mLate_202 (x1 x2 x3 rn : Int32) (fs lt kk : Nat → Int32) (il : Int32) (tt : Nat → Int32) (x4 x5 hd : Int32) : Int32 × Int32 := if x5 = 0 then (mm_mLate_222 x1 x2 x3 rn fs lt kk il tt x4 x5 hd) else (if x3 = 24 then (231, 0) else (mm_mLate_222 x1 x2 x3 rn fs lt kk il tt x4 x5 hd))
def mm_mLate_189 (x1 x2 x3 rn : Int32) (fs lt kk : Nat → Int32) (il : Int32) (tt : Nat → Int32) (x4 y0 hd : Int32) : Int32 × Int32 := if x2 = 25 then (if x4 = 0 then (mm_mLate_202 x1 x2 x3 rn fs lt kk il tt x4 y0 hd) else (231, 0)) else (mm_mLate_202 x1 x2 x3 rn fs lt kk il tt x4 y0 hd)
def mm_mLate_184 (x1 x2 x3 rn : Int32) (fs lt kk : Nat → Int32) (il : Int32) (tt : Nat → Int32) (x4 hd : Int32) : Int32 × Int32 := mm_mLate_189 x1 x2 x3 rn fs lt kk il tt x4 1 hd
def mm_mLate_164 (x1 x2 x3 rn : Int32) (fs lt kk : Nat → Int32) (il : Int32) (tt : Nat → Int32) (y0 hd : Int32) : Int32 × Int32 := if x2 = 29 then (mm_mLate_184 x1 x2 x3 rn fs lt kk il tt y0 hd) else (if x2 = 30 then (mm_mLate_184 x1 x2 x3 rn fs lt kk il tt y0 hd) else (if x2 = 31 then (mm_mLate_184 x1 x2 x3 rn fs lt kk il tt y0 hd) else (mm_mLate_189 x1 x2 x3 rn fs lt kk il tt y0 0 hd)))
def mm_mLate_159 (x1 x2 x3 rn : Int32) (fs lt kk : Nat → Int32) (il : Int32) (tt : Nat → Int32) (hd : Int32) : Int32 × Int32 := mm_mLate_164 x1 x2 x3 rn fs lt kk il tt 1 hd
def mm_mLate_141 (x1 x2 x3 rn : Int32) (fs lt kk : Nat → Int32) (il : Int32) (tt : Nat → Int32) (hd : Int32) : Int32 × Int32 := if x3 = 29 then (mm_mLate_159 x1 x2 x3 rn fs lt kk il tt hd) else (if x3 = 30 then (mm_mLate_159 x1 x2 x3 rn fs lt kk il tt hd) else (if x3 = 31 then (mm_mLate_159 x1 x2 x3 rn fs lt kk il tt hd) else (mm_mLate_164 x1 x2 x3 rn fs lt kk il tt 0 hd)))
def mm_mLate_119 (x1 x2 x3 rn : Int32) (fs lt kk : Nat → Int32) (il : Int32) (tt : Nat → Int32) (hd : Int32) : Int32 × Int32 := if x2 = 23 then (if (mm_mIsLetter x3) = 0 then (mm_mLate_141 x1 x2 x3 rn fs lt kk il tt hd) else (230, 0)) else (mm_mLate_141 x1 x2 x3 rn fs lt kk il tt hd)
def mm_mLate_91 (x1 x2 x3 rn : Int32) (fs lt kk : Nat → Int32) (il : Int32) (tt : Nat → Int32) (hd : Int32) : Int32 × Int32 := if x3 = 18 then (220, 0) else (if (mm_mIsLetter x2) = 0 then (mm_mLate_119 x1 x2 x3 rn fs lt kk il tt hd) else (if x3 = 23 then (230, 0) else (mm_mLate_119 x1 x2 x3 rn fs lt kk il tt hd)))
def mm_mLate_70 (x1 x2 x3 rn : Int32) (fs lt kk : Nat → Int32) (il : Int32) (tt : Nat → Int32) (hd : Int32) : Int32 × Int32 := if x2 = 26 then (if x3 = 28 then (212, 0) else (mm_mLate_91 x1 x2 x3 rn fs lt kk il tt hd)) else (mm_mLate_91 x1 x2 x3 rn fs lt kk il tt hd)
def mm_mLate_45 (x1 x2 x3 rn : Int32) (fs lt kk : Nat → Int32) (il : Int32) (tt : Nat → Int32) (hd : Int32) : Int32 × Int32 := if (mm_mBaseClass (mm_mBase (x1 - 1) rn fs lt kk il tt) rn fs lt kk il tt) = 28 then (211, 0) else (mm_mLate_70 x1 x2 x3 rn fs lt kk il tt hd)
def mm_mLate (x1 x2 x3 rn : Int32) (fs lt kk : Nat → Int32) (il : Int32) (tt : Nat → Int32) (hd : Int32) : Int32 × Int32 := if x3 = 11 then (210, 0) else (if x3 = 13 then (210, 0) else (if x3 = 19 then (210, 0) else (if x2 = 12 then (210, 0) else (if x2 = 13 then (mm_mLate_45 x1 x2 x3 rn fs lt kk il tt hd) else (if x2 = 11 then (mm_mLate_45 x1 x2 x3 rn fs lt kk il tt hd) else (mm_mLate_70 x1 x2 x3 rn fs lt kk il tt hd))))))
def rm_mLate : Room := { frames := 4, cells := 0, slots := 0, locals := 90 }
set_option maxHeartbeats 4000000 in
set_option maxRecDepth 100000 in
theorem c_mLate (l : Launch) (D : va_G) (cI : ClassId) (cL cL : ClassId × ClassId) (g : Nat → Nat) (fl rn : Int32) (fs lt kk mk mf ml ma : Nat → Int32) (il sz : Int32) (tt fh : Nat → Int32) (hd x1 x2 x3 : Int32) (z_rn : Int) (v_rn : gk_v rn z_rn) (z_x1 : Int) (v_x1 : gk_v x1 z_x1) (hrn : 0 ≤ z_rn ∧ z_rn ≤ 100) (hx1 : 0 ≤ z_x1 ∧ z_x1 < 2000) : gk_I l y_mLate (.code y_mLate b_mLate 7 (some .int) :: wA) rm_mLate D vwCl (gk_T cI cL) [.ref (g 0), .int x1, .int x2, .int x3] (wd_M cI cL g fl rn fs lt kk mk mf ml ma il sz tt fh hd) (fun (r : Int32) (u : Int32) => (r, u) = mm_mLate x1 x2 x3 rn fs lt kk il tt hd) (fun u => (wd_M cI cL g fl rn fs lt kk mk mf ml ma il sz tt fh u)) 0 0 := by
  refine gk_I.of (by decide) (Nat.le_of_ble_eq_true rfl) ?_
  intro p e s m below meth c A ls Q H locs hx hb hml hown hts hW hl X
  have hl : lv_has ls 7 [(0, .ref (g 0)), (1, .int x1), (2, .int x2), (3, .int x3)] := hl
  obtain ⟨tgt, heq⟩ : ∃ t, mm_mLate x1 x2 x3 rn fs lt kk il tt hd = t := ⟨_, rfl⟩
  rw [heq] at X
  rw [mm_mLate] at heq
  obtain ⟨z_x2, v_x2⟩ := gk_vex x2
  obtain ⟨z_x3, v_x3⟩ := gk_vex x3
  obtain ⟨z_il, v_il⟩ := gk_vex il
  have K253 : ∀ (x4 x5 x6 hd : Int32) (H : Heap) (locs : List Loc) (ls : Array Slot), mm_mLate_253 x1 x2 x3 rn fs lt kk il tt x4 x5 x6 hd = tgt → gk_W D vwCl (gk_T cI cL) s A H locs (wd_M cI cL g fl rn fs lt kk mk mf ml ma il sz tt fh hd) → lv_has ls 7 [(0, .ref (g 0)), (1, .int x1), (2, .int x2), (3, .int x3), (4, .int x4), (5, .int x5), (6, .int x6)] → W p l e rm_mLate s m [.ref (g 0), .int x1, .int x2, .int x3].toArray below meth c H locs 0 0 Q (F0 m 253 ls []) := by
    intro x4 x5 x6 hd H locs ls heq hW hl
    rw [mm_mLate_253] at heq
    refine lv_iload_n hx hb d_mLate_253 rfl (lv_at hl 2 rfl) ?_
    refine gk_goR hW [] rfl (va_runS (As := [.int x2]) (rest := []) ⟨hx, hb, hml, hown, hts⟩ (c_mIsLetter l D cI cL x2 _) (gk_cwS hts w_188 w_189 w_145 k_mIsLetter rfl e_mIsLetter rfl rfl ⟨Nat.le_of_ble_eq_true rfl, Nat.le_of_ble_eq_true rfl⟩) (gk_pre hW [] rfl rfl) rfl rfl hl.1 rfl (lv_room (Nat.le_of_ble_eq_true rfl)) d_mLate_254 ⟨Nat.le_of_ble_eq_true rfl, Nat.le_of_ble_eq_true rfl⟩) (fun H locs hW => ?_)
    refine lv_if_eq (tgt := 283) hx hb d_mLate_257 (by decide) (fun c_1 => ?_) (fun c_1 => ?_)
    · replace heq := (if_pos c_1).symm.trans heq
      refine lv_iconst (v := 0) hx hb d_mLate_283 (by decide) ?_
      exact X _ hd H locs 0 0 284 ls heq hW d_mLate_284 rfl (Nat.le_of_ble_eq_true rfl) (Nat.le_of_ble_eq_true rfl)
    · replace heq := (if_neg c_1).symm.trans heq
      refine lv_iload_n hx hb d_mLate_260 rfl (lv_at hl 3 rfl) ?_
      refine lv_bipush (v := 25) hx hb d_mLate_261 (by decide) ?_
      refine lv_icmp_eq (tgt := 272) hx hb d_mLate_263 (by decide) (fun c_2 => ?_) (fun c_2 => ?_)
      · replace heq := (if_pos c_2).symm.trans heq
        refine lv_aload_n hx hb d_mLate_272 rfl (lv_at hl 0 rfl) ?_
        refine lv_sipush (v := 240) hx hb d_mLate_273 (by decide) ?_
        refine lv_iconst (v := 0) hx hb d_mLate_276 (by decide) ?_
        refine gk_goI (wr := []) hW [0, 1, 2, 3, 4, 5, 6, 7, 8, 9] [] rfl rfl (by decide) (by decide) (va_runV (As := [.int 240, .int 0]) (rest := []) ⟨hx, hb, hml, hown, hts⟩ (c_mTell l D cI cL cL g fl rn fs lt kk mk mf ml ma il sz tt fh hd 240 0 _) (gk_cwV hts w_176 w_177 w_178 w_145 k_mTell rfl e_mTell rfl rfl ⟨Nat.le_of_ble_eq_true rfl, Nat.le_of_ble_eq_true rfl⟩) (gk_preV hW [0, 1, 2, 3, 4, 5, 6, 7, 8, 9] rfl rfl rfl rfl) rfl rfl hl.1 rfl (lv_room (Nat.le_of_ble_eq_true rfl)) d_mLate_277 ⟨Nat.le_of_ble_eq_true rfl, Nat.le_of_ble_eq_true rfl⟩) (fun r_3 u H locs p_5 hW => ?_)
        obtain ⟨rfl, rfl⟩ : r_3 = 240 ∧ u = 0 := Prod.mk.inj (p_5.trans (show (mm_mTell 240 0 hd) = (240, 0) from rfl))
        have hW : gk_W D vwCl (gk_T cI cL) s A H locs (wd_M cI cL g fl rn fs lt kk mk mf ml ma il sz tt fh 0) := hW.re [0, 1, 2, 3, 4, 5, 6, 7, 8, 9] (by decide) rfl
        refine lv_goto (tgt := 284) hx hb d_mLate_280 (by decide) ?_
        exact X _ 0 H locs 0 0 284 ls heq hW d_mLate_284 rfl (Nat.le_of_ble_eq_true rfl) (Nat.le_of_ble_eq_true rfl)
      · replace heq := (if_neg c_2).symm.trans heq
        refine lv_iload_n hx hb d_mLate_266 rfl (lv_at hl 3 rfl) ?_
        refine lv_bipush (v := 24) hx hb d_mLate_267 (by decide) ?_
        refine lv_icmp_ne (tgt := 283) hx hb d_mLate_269 (by decide) (fun c_6 => ?_) (fun c_6 => ?_)
        · replace heq := (if_neg c_6).symm.trans heq
          refine lv_iconst (v := 0) hx hb d_mLate_283 (by decide) ?_
          exact X _ hd H locs 0 0 284 ls heq hW d_mLate_284 rfl (Nat.le_of_ble_eq_true rfl) (Nat.le_of_ble_eq_true rfl)
        · replace heq := (if_pos c_6).symm.trans heq
          refine lv_aload_n hx hb d_mLate_272 rfl (lv_at hl 0 rfl) ?_
          refine lv_sipush (v := 240) hx hb d_mLate_273 (by decide) ?_
          refine lv_iconst (v := 0) hx hb d_mLate_276 (by decide) ?_
          refine gk_goI (wr := []) hW [0, 1, 2, 3, 4, 5, 6, 7, 8, 9] [] rfl rfl (by decide) (by decide) (va_runV (As := [.int 240, .int 0]) (rest := []) ⟨hx, hb, hml, hown, hts⟩ (c_mTell l D cI cL cL g fl rn fs lt kk mk mf ml ma il sz tt fh hd 240 0 _) (gk_cwV hts w_176 w_177 w_178 w_145 k_mTell rfl e_mTell rfl rfl ⟨Nat.le_of_ble_eq_true rfl, Nat.le_of_ble_eq_true rfl⟩) (gk_preV hW [0, 1, 2, 3, 4, 5, 6, 7, 8, 9] rfl rfl rfl rfl) rfl rfl hl.1 rfl (lv_room (Nat.le_of_ble_eq_true rfl)) d_mLate_277 ⟨Nat.le_of_ble_eq_true rfl, Nat.le_of_ble_eq_true rfl⟩) (fun r_7 u H locs p_9 hW => ?_)
          obtain ⟨rfl, rfl⟩ : r_7 = 240 ∧ u = 0 := Prod.mk.inj (p_9.trans (show (mm_mTell 240 0 hd) = (240, 0) from rfl))
          have hW : gk_W D vwCl (gk_T cI cL) s A H locs (wd_M cI cL g fl rn fs lt kk mk mf ml ma il sz tt fh 0) := hW.re [0, 1, 2, 3, 4, 5, 6, 7, 8, 9] (by decide) rfl
          refine lv_goto (tgt := 284) hx hb d_mLate_280 (by decide) ?_
          exact X _ 0 H locs 0 0 284 ls heq hW d_mLate_284 rfl (Nat.le_of_ble_eq_true rfl) (Nat.le_of_ble_eq_true rfl)
  have K239 : ∀ (x4 x5 y0 hd : Int32) (H : Heap) (locs : List Loc) (ls : Array Slot), mm_mLate_239 x1 x2 x3 rn fs lt kk il tt x4 x5 y0 hd = tgt → gk_W D vwCl (gk_T cI cL) s A H locs (wd_M cI cL g fl rn fs lt kk mk mf ml ma il sz tt fh hd) → lv_has ls 7 [(0, .ref (g 0)), (1, .int x1), (2, .int x2), (3, .int x3), (4, .int x4), (5, .int x5)] → W p l e rm_mLate s m [.ref (g 0), .int x1, .int x2, .int x3].toArray below meth c H locs 0 0 Q (F0 m 239 ls [.int y0]) := by
    intro x4 x5 y0 hd H locs ls heq hW hl
    rw [mm_mLate_239] at heq
    refine lv_istore (lv' := [(6, .int y0), (0, .ref (g 0)), (1, .int x1), (2, .int x2), (3, .int x3), (4, .int x4), (5, .int x5)]) hx hb d_mLate_239 hl (by decide) rfl (fun ls hl => ?_)
    refine lv_iload hx hb d_mLate_241 (lv_at hl 0 rfl) ?_
    refine lv_if_eq (tgt := 253) hx hb d_mLate_243 (by decide) (fun c_10 => ?_) (fun c_10 => ?_)
    · replace heq := (if_pos c_10).symm.trans heq
      exact K253 x4 x5 y0 hd H locs ls heq hW (lv_sub hl [1, 2, 3, 4, 5, 6, 0] rfl)
    · replace heq := (if_neg c_10).symm.trans heq
      refine lv_iload_n hx hb d_mLate_246 rfl (lv_at hl 4 rfl) ?_
      refine gk_goR hW [] rfl (va_runS (As := [.int x3]) (rest := []) ⟨hx, hb, hml, hown, hts⟩ (c_mIsLetter l D cI cL x3 _) (gk_cwS hts w_188 w_189 w_145 k_mIsLetter rfl e_mIsLetter rfl rfl ⟨Nat.le_of_ble_eq_true rfl, Nat.le_of_ble_eq_true rfl⟩) (gk_pre hW [] rfl rfl) rfl rfl hl.1 rfl (lv_room (Nat.le_of_ble_eq_true rfl)) d_mLate_247 ⟨Nat.le_of_ble_eq_true rfl, Nat.le_of_ble_eq_true rfl⟩) (fun H locs hW => ?_)
      refine lv_if_ne (tgt := 272) hx hb d_mLate_250 (by decide) (fun c_11 => ?_) (fun c_11 => ?_)
      · replace heq := (if_neg c_11).symm.trans heq
        refine lv_aload_n hx hb d_mLate_272 rfl (lv_at hl 1 rfl) ?_
        refine lv_sipush (v := 240) hx hb d_mLate_273 (by decide) ?_
        refine lv_iconst (v := 0) hx hb d_mLate_276 (by decide) ?_
        refine gk_goI (wr := []) hW [0, 1, 2, 3, 4, 5, 6, 7, 8, 9] [] rfl rfl (by decide) (by decide) (va_runV (As := [.int 240, .int 0]) (rest := []) ⟨hx, hb, hml, hown, hts⟩ (c_mTell l D cI cL cL g fl rn fs lt kk mk mf ml ma il sz tt fh hd 240 0 _) (gk_cwV hts w_176 w_177 w_178 w_145 k_mTell rfl e_mTell rfl rfl ⟨Nat.le_of_ble_eq_true rfl, Nat.le_of_ble_eq_true rfl⟩) (gk_preV hW [0, 1, 2, 3, 4, 5, 6, 7, 8, 9] rfl rfl rfl rfl) rfl rfl hl.1 rfl (lv_room (Nat.le_of_ble_eq_true rfl)) d_mLate_277 ⟨Nat.le_of_ble_eq_true rfl, Nat.le_of_ble_eq_true rfl⟩) (fun r_12 u H locs p_14 hW => ?_)
        obtain ⟨rfl, rfl⟩ : r_12 = 240 ∧ u = 0 := Prod.mk.inj (p_14.trans (show (mm_mTell 240 0 hd) = (240, 0) from rfl))
        have hW : gk_W D vwCl (gk_T cI cL) s A H locs (wd_M cI cL g fl rn fs lt kk mk mf ml ma il sz tt fh 0) := hW.re [0, 1, 2, 3, 4, 5, 6, 7, 8, 9] (by decide) rfl
        refine lv_goto (tgt := 284) hx hb d_mLate_280 (by decide) ?_
        exact X _ 0 H locs 0 0 284 ls heq hW d_mLate_284 rfl (Nat.le_of_ble_eq_true rfl) (Nat.le_of_ble_eq_true rfl)
      · replace heq := (if_pos c_11).symm.trans heq
        exact K253 x4 x5 y0 hd H locs ls heq hW (lv_sub hl [1, 2, 3, 4, 5, 6, 0] rfl)
  have K234 : ∀ (x4 x5 hd : Int32) (H : Heap) (locs : List Loc) (ls : Array Slot), mm_mLate_234 x1 x2 x3 rn fs lt kk il tt x4 x5 hd = tgt → gk_W D vwCl (gk_T cI cL) s A H locs (wd_M cI cL g fl rn fs lt kk mk mf ml ma il sz tt fh hd) → lv_has ls 7 [(0, .ref (g 0)), (1, .int x1), (2, .int x2), (3, .int x3), (4, .int x4), (5, .int x5)] → W p l e rm_mLate s m [.ref (g 0), .int x1, .int x2, .int x3].toArray below meth c H locs 0 0 Q (F0 m 234 ls []) := by
    intro x4 x5 hd H locs ls heq hW hl
    rw [mm_mLate_234] at heq
    refine lv_iconst (v := 1) hx hb d_mLate_234 (by decide) ?_
    refine lv_goto (tgt := 239) hx hb d_mLate_235 (by decide) ?_
    exact K239 x4 x5 1 hd H locs ls heq hW (lv_sub hl [0, 1, 2, 3, 4, 5] rfl)
  have K222 : ∀ (x4 x5 hd : Int32) (H : Heap) (locs : List Loc) (ls : Array Slot), mm_mLate_222 x1 x2 x3 rn fs lt kk il tt x4 x5 hd = tgt → gk_W D vwCl (gk_T cI cL) s A H locs (wd_M cI cL g fl rn fs lt kk mk mf ml ma il sz tt fh hd) → lv_has ls 7 [(0, .ref (g 0)), (1, .int x1), (2, .int x2), (3, .int x3), (4, .int x4), (5, .int x5)] → W p l e rm_mLate s m [.ref (g 0), .int x1, .int x2, .int x3].toArray below meth c H locs 0 0 Q (F0 m 222 ls []) := by
    intro x4 x5 hd H locs ls heq hW hl
    rw [mm_mLate_222] at heq
    refine lv_iload_n hx hb d_mLate_222 rfl (lv_at hl 2 rfl) ?_
    refine lv_bipush (v := 25) hx hb d_mLate_223 (by decide) ?_
    refine lv_icmp_eq (tgt := 234) hx hb d_mLate_225 (by decide) (fun c_15 => ?_) (fun c_15 => ?_)
    · replace heq := (if_pos c_15).symm.trans heq
      exact K234 x4 x5 hd H locs ls heq hW (lv_sub hl [0, 1, 2, 3, 4, 5] rfl)
    · replace heq := (if_neg c_15).symm.trans heq
      refine lv_iload_n hx hb d_mLate_228 rfl (lv_at hl 2 rfl) ?_
      refine lv_bipush (v := 24) hx hb d_mLate_229 (by decide) ?_
      refine lv_icmp_ne (tgt := 238) hx hb d_mLate_231 (by decide) (fun c_16 => ?_) (fun c_16 => ?_)
      · replace heq := (if_neg c_16).symm.trans heq
        refine lv_iconst (v := 0) hx hb d_mLate_238 (by decide) ?_
        exact K239 x4 x5 0 hd H locs ls heq hW (lv_sub hl [0, 1, 2, 3, 4, 5] rfl)
      · replace heq := (if_pos c_16).symm.trans heq
        exact K234 x4 x5 hd H locs ls heq hW (lv_sub hl [0, 1, 2, 3, 4, 5] rfl)
  have K202 : ∀ (x4 x5 hd : Int32) (H : Heap) (locs : List Loc) (ls : Array Slot), mm_mLate_202 x1 x2 x3 rn fs lt kk il tt x4 x5 hd = tgt → gk_W D vwCl (gk_T cI cL) s A H locs (wd_M cI cL g fl rn fs lt kk mk mf ml ma il sz tt fh hd) → lv_has ls 7 [(0, .ref (g 0)), (1, .int x1), (2, .int x2), (3, .int x3), (4, .int x4), (5, .int x5)] → W p l e rm_mLate s m [.ref (g 0), .int x1, .int x2, .int x3].toArray below meth c H locs 0 0 Q (F0 m 202 ls []) := by
    intro x4 x5 hd H locs ls heq hW hl
    rw [mm_mLate_202] at heq
    refine lv_iload hx hb d_mLate_202 (lv_at hl 5 rfl) ?_
    refine lv_if_eq (tgt := 222) hx hb d_mLate_204 (by decide) (fun c_17 => ?_) (fun c_17 => ?_)
    · replace heq := (if_pos c_17).symm.trans heq
      exact K222 x4 x5 hd H locs ls heq hW (lv_sub hl [0, 1, 2, 3, 4, 5] rfl)
    · replace heq := (if_neg c_17).symm.trans heq
      refine lv_iload_n hx hb d_mLate_207 rfl (lv_at hl 3 rfl) ?_
      refine lv_bipush (v := 24) hx hb d_mLate_208 (by decide) ?_
      refine lv_icmp_ne (tgt := 222) hx hb d_mLate_210 (by decide) (fun c_18 => ?_) (fun c_18 => ?_)
      · replace heq := (if_neg c_18).symm.trans heq
        exact K222 x4 x5 hd H locs ls heq hW (lv_sub hl [0, 1, 2, 3, 4, 5] rfl)
      · replace heq := (if_pos c_18).symm.trans heq
        refine lv_aload_n hx hb d_mLate_213 rfl (lv_at hl 0 rfl) ?_
        refine lv_sipush (v := 231) hx hb d_mLate_214 (by decide) ?_
        refine lv_iconst (v := 0) hx hb d_mLate_217 (by decide) ?_
        refine gk_goI (wr := []) hW [0, 1, 2, 3, 4, 5, 6, 7, 8, 9] [] rfl rfl (by decide) (by decide) (va_runV (As := [.int 231, .int 0]) (rest := []) ⟨hx, hb, hml, hown, hts⟩ (c_mTell l D cI cL cL g fl rn fs lt kk mk mf ml ma il sz tt fh hd 231 0 _) (gk_cwV hts w_176 w_177 w_178 w_145 k_mTell rfl e_mTell rfl rfl ⟨Nat.le_of_ble_eq_true rfl, Nat.le_of_ble_eq_true rfl⟩) (gk_preV hW [0, 1, 2, 3, 4, 5, 6, 7, 8, 9] rfl rfl rfl rfl) rfl rfl hl.1 rfl (lv_room (Nat.le_of_ble_eq_true rfl)) d_mLate_218 ⟨Nat.le_of_ble_eq_true rfl, Nat.le_of_ble_eq_true rfl⟩) (fun r_19 u H locs p_21 hW => ?_)
        obtain ⟨rfl, rfl⟩ : r_19 = 231 ∧ u = 0 := Prod.mk.inj (p_21.trans (show (mm_mTell 231 0 hd) = (231, 0) from rfl))
        have hW : gk_W D vwCl (gk_T cI cL) s A H locs (wd_M cI cL g fl rn fs lt kk mk mf ml ma il sz tt fh 0) := hW.re [0, 1, 2, 3, 4, 5, 6, 7, 8, 9] (by decide) rfl
        exact X _ 0 H locs 0 0 221 ls heq hW d_mLate_221 rfl (Nat.le_of_ble_eq_true rfl) (Nat.le_of_ble_eq_true rfl)
  have K189 : ∀ (x4 y0 hd : Int32) (H : Heap) (locs : List Loc) (ls : Array Slot), mm_mLate_189 x1 x2 x3 rn fs lt kk il tt x4 y0 hd = tgt → gk_W D vwCl (gk_T cI cL) s A H locs (wd_M cI cL g fl rn fs lt kk mk mf ml ma il sz tt fh hd) → lv_has ls 7 [(0, .ref (g 0)), (1, .int x1), (2, .int x2), (3, .int x3), (4, .int x4)] → W p l e rm_mLate s m [.ref (g 0), .int x1, .int x2, .int x3].toArray below meth c H locs 0 0 Q (F0 m 189 ls [.int y0]) := by
    intro x4 y0 hd H locs ls heq hW hl
    rw [mm_mLate_189] at heq
    refine lv_istore (lv' := [(5, .int y0), (0, .ref (g 0)), (1, .int x1), (2, .int x2), (3, .int x3), (4, .int x4)]) hx hb d_mLate_189 hl (by decide) rfl (fun ls hl => ?_)
    refine lv_iload_n hx hb d_mLate_191 rfl (lv_at hl 3 rfl) ?_
    refine lv_bipush (v := 25) hx hb d_mLate_192 (by decide) ?_
    refine lv_icmp_ne (tgt := 202) hx hb d_mLate_194 (by decide) (fun c_22 => ?_) (fun c_22 => ?_)
    · replace heq := (if_neg c_22).symm.trans heq
      exact K202 x4 y0 hd H locs ls heq hW (lv_sub hl [1, 2, 3, 4, 5, 0] rfl)
    · replace heq := (if_pos c_22).symm.trans heq
      refine lv_iload hx hb d_mLate_197 (lv_at hl 5 rfl) ?_
      refine lv_if_ne (tgt := 213) hx hb d_mLate_199 (by decide) (fun c_23 => ?_) (fun c_23 => ?_)
      · replace heq := (if_neg c_23).symm.trans heq
        refine lv_aload_n hx hb d_mLate_213 rfl (lv_at hl 1 rfl) ?_
        refine lv_sipush (v := 231) hx hb d_mLate_214 (by decide) ?_
        refine lv_iconst (v := 0) hx hb d_mLate_217 (by decide) ?_
        refine gk_goI (wr := []) hW [0, 1, 2, 3, 4, 5, 6, 7, 8, 9] [] rfl rfl (by decide) (by decide) (va_runV (As := [.int 231, .int 0]) (rest := []) ⟨hx, hb, hml, hown, hts⟩ (c_mTell l D cI cL cL g fl rn fs lt kk mk mf ml ma il sz tt fh hd 231 0 _) (gk_cwV hts w_176 w_177 w_178 w_145 k_mTell rfl e_mTell rfl rfl ⟨Nat.le_of_ble_eq_true rfl, Nat.le_of_ble_eq_true rfl⟩) (gk_preV hW [0, 1, 2, 3, 4, 5, 6, 7, 8, 9] rfl rfl rfl rfl) rfl rfl hl.1 rfl (lv_room (Nat.le_of_ble_eq_true rfl)) d_mLate_218 ⟨Nat.le_of_ble_eq_true rfl, Nat.le_of_ble_eq_true rfl⟩) (fun r_24 u H locs p_26 hW => ?_)
        obtain ⟨rfl, rfl⟩ : r_24 = 231 ∧ u = 0 := Prod.mk.inj (p_26.trans (show (mm_mTell 231 0 hd) = (231, 0) from rfl))
        have hW : gk_W D vwCl (gk_T cI cL) s A H locs (wd_M cI cL g fl rn fs lt kk mk mf ml ma il sz tt fh 0) := hW.re [0, 1, 2, 3, 4, 5, 6, 7, 8, 9] (by decide) rfl
        exact X _ 0 H locs 0 0 221 ls heq hW d_mLate_221 rfl (Nat.le_of_ble_eq_true rfl) (Nat.le_of_ble_eq_true rfl)
      · replace heq := (if_pos c_23).symm.trans heq
        exact K202 x4 y0 hd H locs ls heq hW (lv_sub hl [1, 2, 3, 4, 5, 0] rfl)
  have K184 : ∀ (x4 hd : Int32) (H : Heap) (locs : List Loc) (ls : Array Slot), mm_mLate_184 x1 x2 x3 rn fs lt kk il tt x4 hd = tgt → gk_W D vwCl (gk_T cI cL) s A H locs (wd_M cI cL g fl rn fs lt kk mk mf ml ma il sz tt fh hd) → lv_has ls 7 [(0, .ref (g 0)), (1, .int x1), (2, .int x2), (3, .int x3), (4, .int x4)] → W p l e rm_mLate s m [.ref (g 0), .int x1, .int x2, .int x3].toArray below meth c H locs 0 0 Q (F0 m 184 ls []) := by
    intro x4 hd H locs ls heq hW hl
    rw [mm_mLate_184] at heq
    refine lv_iconst (v := 1) hx hb d_mLate_184 (by decide) ?_
    refine lv_goto (tgt := 189) hx hb d_mLate_185 (by decide) ?_
    exact K189 x4 1 hd H locs ls heq hW (lv_sub hl [0, 1, 2, 3, 4] rfl)
  have K164 : ∀ (y0 hd : Int32) (H : Heap) (locs : List Loc) (ls : Array Slot), mm_mLate_164 x1 x2 x3 rn fs lt kk il tt y0 hd = tgt → gk_W D vwCl (gk_T cI cL) s A H locs (wd_M cI cL g fl rn fs lt kk mk mf ml ma il sz tt fh hd) → lv_has ls 7 [(0, .ref (g 0)), (1, .int x1), (2, .int x2), (3, .int x3)] → W p l e rm_mLate s m [.ref (g 0), .int x1, .int x2, .int x3].toArray below meth c H locs 0 0 Q (F0 m 164 ls [.int y0]) := by
    intro y0 hd H locs ls heq hW hl
    rw [mm_mLate_164] at heq
    refine lv_istore (lv' := [(4, .int y0), (0, .ref (g 0)), (1, .int x1), (2, .int x2), (3, .int x3)]) hx hb d_mLate_164 hl (by decide) rfl (fun ls hl => ?_)
    refine lv_iload_n hx hb d_mLate_166 rfl (lv_at hl 3 rfl) ?_
    refine lv_bipush (v := 29) hx hb d_mLate_167 (by decide) ?_
    refine lv_icmp_eq (tgt := 184) hx hb d_mLate_169 (by decide) (fun c_27 => ?_) (fun c_27 => ?_)
    · replace heq := (if_pos c_27).symm.trans heq
      exact K184 y0 hd H locs ls heq hW (lv_sub hl [1, 2, 3, 4, 0] rfl)
    · replace heq := (if_neg c_27).symm.trans heq
      refine lv_iload_n hx hb d_mLate_172 rfl (lv_at hl 3 rfl) ?_
      refine lv_bipush (v := 30) hx hb d_mLate_173 (by decide) ?_
      refine lv_icmp_eq (tgt := 184) hx hb d_mLate_175 (by decide) (fun c_28 => ?_) (fun c_28 => ?_)
      · replace heq := (if_pos c_28).symm.trans heq
        exact K184 y0 hd H locs ls heq hW (lv_sub hl [1, 2, 3, 4, 0] rfl)
      · replace heq := (if_neg c_28).symm.trans heq
        refine lv_iload_n hx hb d_mLate_178 rfl (lv_at hl 3 rfl) ?_
        refine lv_bipush (v := 31) hx hb d_mLate_179 (by decide) ?_
        refine lv_icmp_ne (tgt := 188) hx hb d_mLate_181 (by decide) (fun c_29 => ?_) (fun c_29 => ?_)
        · replace heq := (if_neg c_29).symm.trans heq
          refine lv_iconst (v := 0) hx hb d_mLate_188 (by decide) ?_
          exact K189 y0 0 hd H locs ls heq hW (lv_sub hl [1, 2, 3, 4, 0] rfl)
        · replace heq := (if_pos c_29).symm.trans heq
          exact K184 y0 hd H locs ls heq hW (lv_sub hl [1, 2, 3, 4, 0] rfl)
  have K159 : ∀ (hd : Int32) (H : Heap) (locs : List Loc) (ls : Array Slot), mm_mLate_159 x1 x2 x3 rn fs lt kk il tt hd = tgt → gk_W D vwCl (gk_T cI cL) s A H locs (wd_M cI cL g fl rn fs lt kk mk mf ml ma il sz tt fh hd) → lv_has ls 7 [(0, .ref (g 0)), (1, .int x1), (2, .int x2), (3, .int x3)] → W p l e rm_mLate s m [.ref (g 0), .int x1, .int x2, .int x3].toArray below meth c H locs 0 0 Q (F0 m 159 ls []) := by
    intro hd H locs ls heq hW hl
    rw [mm_mLate_159] at heq
    refine lv_iconst (v := 1) hx hb d_mLate_159 (by decide) ?_
    refine lv_goto (tgt := 164) hx hb d_mLate_160 (by decide) ?_
    exact K164 1 hd H locs ls heq hW (lv_sub hl [0, 1, 2, 3] rfl)
  have K141 : ∀ (hd : Int32) (H : Heap) (locs : List Loc) (ls : Array Slot), mm_mLate_141 x1 x2 x3 rn fs lt kk il tt hd = tgt → gk_W D vwCl (gk_T cI cL) s A H locs (wd_M cI cL g fl rn fs lt kk mk mf ml ma il sz tt fh hd) → lv_has ls 7 [(0, .ref (g 0)), (1, .int x1), (2, .int x2), (3, .int x3)] → W p l e rm_mLate s m [.ref (g 0), .int x1, .int x2, .int x3].toArray below meth c H locs 0 0 Q (F0 m 141 ls []) := by
    intro hd H locs ls heq hW hl
    rw [mm_mLate_141] at heq
    refine lv_iload_n hx hb d_mLate_141 rfl (lv_at hl 3 rfl) ?_
    refine lv_bipush (v := 29) hx hb d_mLate_142 (by decide) ?_
    refine lv_icmp_eq (tgt := 159) hx hb d_mLate_144 (by decide) (fun c_30 => ?_) (fun c_30 => ?_)
    · replace heq := (if_pos c_30).symm.trans heq
      exact K159 hd H locs ls heq hW (lv_sub hl [0, 1, 2, 3] rfl)
    · replace heq := (if_neg c_30).symm.trans heq
      refine lv_iload_n hx hb d_mLate_147 rfl (lv_at hl 3 rfl) ?_
      refine lv_bipush (v := 30) hx hb d_mLate_148 (by decide) ?_
      refine lv_icmp_eq (tgt := 159) hx hb d_mLate_150 (by decide) (fun c_31 => ?_) (fun c_31 => ?_)
      · replace heq := (if_pos c_31).symm.trans heq
        exact K159 hd H locs ls heq hW (lv_sub hl [0, 1, 2, 3] rfl)
      · replace heq := (if_neg c_31).symm.trans heq
        refine lv_iload_n hx hb d_mLate_153 rfl (lv_at hl 3 rfl) ?_
        refine lv_bipush (v := 31) hx hb d_mLate_154 (by decide) ?_
        refine lv_icmp_ne (tgt := 163) hx hb d_mLate_156 (by decide) (fun c_32 => ?_) (fun c_32 => ?_)
        · replace heq := (if_neg c_32).symm.trans heq
          refine lv_iconst (v := 0) hx hb d_mLate_163 (by decide) ?_
          exact K164 0 hd H locs ls heq hW (lv_sub hl [0, 1, 2, 3] rfl)
        · replace heq := (if_pos c_32).symm.trans heq
          exact K159 hd H locs ls heq hW (lv_sub hl [0, 1, 2, 3] rfl)
  have K119 : ∀ (hd : Int32) (H : Heap) (locs : List Loc) (ls : Array Slot), mm_mLate_119 x1 x2 x3 rn fs lt kk il tt hd = tgt → gk_W D vwCl (gk_T cI cL) s A H locs (wd_M cI cL g fl rn fs lt kk mk mf ml ma il sz tt fh hd) → lv_has ls 7 [(0, .ref (g 0)), (1, .int x1), (2, .int x2), (3, .int x3)] → W p l e rm_mLate s m [.ref (g 0), .int x1, .int x2, .int x3].toArray below meth c H locs 0 0 Q (F0 m 119 ls []) := by
    intro hd H locs ls heq hW hl
    rw [mm_mLate_119] at heq
    refine lv_iload_n hx hb d_mLate_119 rfl (lv_at hl 2 rfl) ?_
    refine lv_bipush (v := 23) hx hb d_mLate_120 (by decide) ?_
    refine lv_icmp_ne (tgt := 141) hx hb d_mLate_122 (by decide) (fun c_33 => ?_) (fun c_33 => ?_)
    · replace heq := (if_neg c_33).symm.trans heq
      exact K141 hd H locs ls heq hW (lv_sub hl [0, 1, 2, 3] rfl)
    · replace heq := (if_pos c_33).symm.trans heq
      refine lv_iload_n hx hb d_mLate_125 rfl (lv_at hl 3 rfl) ?_
      refine gk_goR hW [] rfl (va_runS (As := [.int x3]) (rest := []) ⟨hx, hb, hml, hown, hts⟩ (c_mIsLetter l D cI cL x3 _) (gk_cwS hts w_188 w_189 w_145 k_mIsLetter rfl e_mIsLetter rfl rfl ⟨Nat.le_of_ble_eq_true rfl, Nat.le_of_ble_eq_true rfl⟩) (gk_pre hW [] rfl rfl) rfl rfl hl.1 rfl (lv_room (Nat.le_of_ble_eq_true rfl)) d_mLate_126 ⟨Nat.le_of_ble_eq_true rfl, Nat.le_of_ble_eq_true rfl⟩) (fun H locs hW => ?_)
      refine lv_if_eq (tgt := 141) hx hb d_mLate_129 (by decide) (fun c_34 => ?_) (fun c_34 => ?_)
      · replace heq := (if_pos c_34).symm.trans heq
        exact K141 hd H locs ls heq hW (lv_sub hl [0, 1, 2, 3] rfl)
      · replace heq := (if_neg c_34).symm.trans heq
        refine lv_aload_n hx hb d_mLate_132 rfl (lv_at hl 0 rfl) ?_
        refine lv_sipush (v := 230) hx hb d_mLate_133 (by decide) ?_
        refine lv_iconst (v := 0) hx hb d_mLate_136 (by decide) ?_
        refine gk_goI (wr := []) hW [0, 1, 2, 3, 4, 5, 6, 7, 8, 9] [] rfl rfl (by decide) (by decide) (va_runV (As := [.int 230, .int 0]) (rest := []) ⟨hx, hb, hml, hown, hts⟩ (c_mTell l D cI cL cL g fl rn fs lt kk mk mf ml ma il sz tt fh hd 230 0 _) (gk_cwV hts w_176 w_177 w_178 w_145 k_mTell rfl e_mTell rfl rfl ⟨Nat.le_of_ble_eq_true rfl, Nat.le_of_ble_eq_true rfl⟩) (gk_preV hW [0, 1, 2, 3, 4, 5, 6, 7, 8, 9] rfl rfl rfl rfl) rfl rfl hl.1 rfl (lv_room (Nat.le_of_ble_eq_true rfl)) d_mLate_137 ⟨Nat.le_of_ble_eq_true rfl, Nat.le_of_ble_eq_true rfl⟩) (fun r_35 u H locs p_37 hW => ?_)
        obtain ⟨rfl, rfl⟩ : r_35 = 230 ∧ u = 0 := Prod.mk.inj (p_37.trans (show (mm_mTell 230 0 hd) = (230, 0) from rfl))
        have hW : gk_W D vwCl (gk_T cI cL) s A H locs (wd_M cI cL g fl rn fs lt kk mk mf ml ma il sz tt fh 0) := hW.re [0, 1, 2, 3, 4, 5, 6, 7, 8, 9] (by decide) rfl
        exact X _ 0 H locs 0 0 140 ls heq hW d_mLate_140 rfl (Nat.le_of_ble_eq_true rfl) (Nat.le_of_ble_eq_true rfl)
  have K91 : ∀ (hd : Int32) (H : Heap) (locs : List Loc) (ls : Array Slot), mm_mLate_91 x1 x2 x3 rn fs lt kk il tt hd = tgt → gk_W D vwCl (gk_T cI cL) s A H locs (wd_M cI cL g fl rn fs lt kk mk mf ml ma il sz tt fh hd) → lv_has ls 7 [(0, .ref (g 0)), (1, .int x1), (2, .int x2), (3, .int x3)] → W p l e rm_mLate s m [.ref (g 0), .int x1, .int x2, .int x3].toArray below meth c H locs 0 0 Q (F0 m 91 ls []) := by
    intro hd H locs ls heq hW hl
    rw [mm_mLate_91] at heq
    refine lv_iload_n hx hb d_mLate_91 rfl (lv_at hl 3 rfl) ?_
    refine lv_bipush (v := 18) hx hb d_mLate_92 (by decide) ?_
    refine lv_icmp_ne (tgt := 106) hx hb d_mLate_94 (by decide) (fun c_38 => ?_) (fun c_38 => ?_)
    · replace heq := (if_neg c_38).symm.trans heq
      refine lv_iload_n hx hb d_mLate_106 rfl (lv_at hl 2 rfl) ?_
      refine gk_goR hW [] rfl (va_runS (As := [.int x2]) (rest := []) ⟨hx, hb, hml, hown, hts⟩ (c_mIsLetter l D cI cL x2 _) (gk_cwS hts w_188 w_189 w_145 k_mIsLetter rfl e_mIsLetter rfl rfl ⟨Nat.le_of_ble_eq_true rfl, Nat.le_of_ble_eq_true rfl⟩) (gk_pre hW [] rfl rfl) rfl rfl hl.1 rfl (lv_room (Nat.le_of_ble_eq_true rfl)) d_mLate_107 ⟨Nat.le_of_ble_eq_true rfl, Nat.le_of_ble_eq_true rfl⟩) (fun H locs hW => ?_)
      refine lv_if_eq (tgt := 119) hx hb d_mLate_110 (by decide) (fun c_39 => ?_) (fun c_39 => ?_)
      · replace heq := (if_pos c_39).symm.trans heq
        exact K119 hd H locs ls heq hW (lv_sub hl [0, 1, 2, 3] rfl)
      · replace heq := (if_neg c_39).symm.trans heq
        refine lv_iload_n hx hb d_mLate_113 rfl (lv_at hl 3 rfl) ?_
        refine lv_bipush (v := 23) hx hb d_mLate_114 (by decide) ?_
        refine lv_icmp_eq (tgt := 132) hx hb d_mLate_116 (by decide) (fun c_40 => ?_) (fun c_40 => ?_)
        · replace heq := (if_pos c_40).symm.trans heq
          refine lv_aload_n hx hb d_mLate_132 rfl (lv_at hl 0 rfl) ?_
          refine lv_sipush (v := 230) hx hb d_mLate_133 (by decide) ?_
          refine lv_iconst (v := 0) hx hb d_mLate_136 (by decide) ?_
          refine gk_goI (wr := []) hW [0, 1, 2, 3, 4, 5, 6, 7, 8, 9] [] rfl rfl (by decide) (by decide) (va_runV (As := [.int 230, .int 0]) (rest := []) ⟨hx, hb, hml, hown, hts⟩ (c_mTell l D cI cL cL g fl rn fs lt kk mk mf ml ma il sz tt fh hd 230 0 _) (gk_cwV hts w_176 w_177 w_178 w_145 k_mTell rfl e_mTell rfl rfl ⟨Nat.le_of_ble_eq_true rfl, Nat.le_of_ble_eq_true rfl⟩) (gk_preV hW [0, 1, 2, 3, 4, 5, 6, 7, 8, 9] rfl rfl rfl rfl) rfl rfl hl.1 rfl (lv_room (Nat.le_of_ble_eq_true rfl)) d_mLate_137 ⟨Nat.le_of_ble_eq_true rfl, Nat.le_of_ble_eq_true rfl⟩) (fun r_41 u H locs p_43 hW => ?_)
          obtain ⟨rfl, rfl⟩ : r_41 = 230 ∧ u = 0 := Prod.mk.inj (p_43.trans (show (mm_mTell 230 0 hd) = (230, 0) from rfl))
          have hW : gk_W D vwCl (gk_T cI cL) s A H locs (wd_M cI cL g fl rn fs lt kk mk mf ml ma il sz tt fh 0) := hW.re [0, 1, 2, 3, 4, 5, 6, 7, 8, 9] (by decide) rfl
          exact X _ 0 H locs 0 0 140 ls heq hW d_mLate_140 rfl (Nat.le_of_ble_eq_true rfl) (Nat.le_of_ble_eq_true rfl)
        · replace heq := (if_neg c_40).symm.trans heq
          exact K119 hd H locs ls heq hW (lv_sub hl [0, 1, 2, 3] rfl)
    · replace heq := (if_pos c_38).symm.trans heq
      refine lv_aload_n hx hb d_mLate_97 rfl (lv_at hl 0 rfl) ?_
      refine lv_sipush (v := 220) hx hb d_mLate_98 (by decide) ?_
      refine lv_iconst (v := 0) hx hb d_mLate_101 (by decide) ?_
      refine gk_goI (wr := []) hW [0, 1, 2, 3, 4, 5, 6, 7, 8, 9] [] rfl rfl (by decide) (by decide) (va_runV (As := [.int 220, .int 0]) (rest := []) ⟨hx, hb, hml, hown, hts⟩ (c_mTell l D cI cL cL g fl rn fs lt kk mk mf ml ma il sz tt fh hd 220 0 _) (gk_cwV hts w_176 w_177 w_178 w_145 k_mTell rfl e_mTell rfl rfl ⟨Nat.le_of_ble_eq_true rfl, Nat.le_of_ble_eq_true rfl⟩) (gk_preV hW [0, 1, 2, 3, 4, 5, 6, 7, 8, 9] rfl rfl rfl rfl) rfl rfl hl.1 rfl (lv_room (Nat.le_of_ble_eq_true rfl)) d_mLate_102 ⟨Nat.le_of_ble_eq_true rfl, Nat.le_of_ble_eq_true rfl⟩) (fun r_44 u H locs p_46 hW => ?_)
      obtain ⟨rfl, rfl⟩ : r_44 = 220 ∧ u = 0 := Prod.mk.inj (p_46.trans (show (mm_mTell 220 0 hd) = (220, 0) from rfl))
      have hW : gk_W D vwCl (gk_T cI cL) s A H locs (wd_M cI cL g fl rn fs lt kk mk mf ml ma il sz tt fh 0) := hW.re [0, 1, 2, 3, 4, 5, 6, 7, 8, 9] (by decide) rfl
      exact X _ 0 H locs 0 0 105 ls heq hW d_mLate_105 rfl (Nat.le_of_ble_eq_true rfl) (Nat.le_of_ble_eq_true rfl)
  have K70 : ∀ (hd : Int32) (H : Heap) (locs : List Loc) (ls : Array Slot), mm_mLate_70 x1 x2 x3 rn fs lt kk il tt hd = tgt → gk_W D vwCl (gk_T cI cL) s A H locs (wd_M cI cL g fl rn fs lt kk mk mf ml ma il sz tt fh hd) → lv_has ls 7 [(0, .ref (g 0)), (1, .int x1), (2, .int x2), (3, .int x3)] → W p l e rm_mLate s m [.ref (g 0), .int x1, .int x2, .int x3].toArray below meth c H locs 0 0 Q (F0 m 70 ls []) := by
    intro hd H locs ls heq hW hl
    rw [mm_mLate_70] at heq
    refine lv_iload_n hx hb d_mLate_70 rfl (lv_at hl 2 rfl) ?_
    refine lv_bipush (v := 26) hx hb d_mLate_71 (by decide) ?_
    refine lv_icmp_ne (tgt := 91) hx hb d_mLate_73 (by decide) (fun c_47 => ?_) (fun c_47 => ?_)
    · replace heq := (if_neg c_47).symm.trans heq
      exact K91 hd H locs ls heq hW (lv_sub hl [0, 1, 2, 3] rfl)
    · replace heq := (if_pos c_47).symm.trans heq
      refine lv_iload_n hx hb d_mLate_76 rfl (lv_at hl 3 rfl) ?_
      refine lv_bipush (v := 28) hx hb d_mLate_77 (by decide) ?_
      refine lv_icmp_ne (tgt := 91) hx hb d_mLate_79 (by decide) (fun c_48 => ?_) (fun c_48 => ?_)
      · replace heq := (if_neg c_48).symm.trans heq
        exact K91 hd H locs ls heq hW (lv_sub hl [0, 1, 2, 3] rfl)
      · replace heq := (if_pos c_48).symm.trans heq
        refine lv_aload_n hx hb d_mLate_82 rfl (lv_at hl 0 rfl) ?_
        refine lv_sipush (v := 212) hx hb d_mLate_83 (by decide) ?_
        refine lv_iconst (v := 0) hx hb d_mLate_86 (by decide) ?_
        refine gk_goI (wr := []) hW [0, 1, 2, 3, 4, 5, 6, 7, 8, 9] [] rfl rfl (by decide) (by decide) (va_runV (As := [.int 212, .int 0]) (rest := []) ⟨hx, hb, hml, hown, hts⟩ (c_mTell l D cI cL cL g fl rn fs lt kk mk mf ml ma il sz tt fh hd 212 0 _) (gk_cwV hts w_176 w_177 w_178 w_145 k_mTell rfl e_mTell rfl rfl ⟨Nat.le_of_ble_eq_true rfl, Nat.le_of_ble_eq_true rfl⟩) (gk_preV hW [0, 1, 2, 3, 4, 5, 6, 7, 8, 9] rfl rfl rfl rfl) rfl rfl hl.1 rfl (lv_room (Nat.le_of_ble_eq_true rfl)) d_mLate_87 ⟨Nat.le_of_ble_eq_true rfl, Nat.le_of_ble_eq_true rfl⟩) (fun r_49 u H locs p_51 hW => ?_)
        obtain ⟨rfl, rfl⟩ : r_49 = 212 ∧ u = 0 := Prod.mk.inj (p_51.trans (show (mm_mTell 212 0 hd) = (212, 0) from rfl))
        have hW : gk_W D vwCl (gk_T cI cL) s A H locs (wd_M cI cL g fl rn fs lt kk mk mf ml ma il sz tt fh 0) := hW.re [0, 1, 2, 3, 4, 5, 6, 7, 8, 9] (by decide) rfl
        exact X _ 0 H locs 0 0 90 ls heq hW d_mLate_90 rfl (Nat.le_of_ble_eq_true rfl) (Nat.le_of_ble_eq_true rfl)
  have K45 : ∀ (hd : Int32) (H : Heap) (locs : List Loc) (ls : Array Slot), mm_mLate_45 x1 x2 x3 rn fs lt kk il tt hd = tgt → gk_W D vwCl (gk_T cI cL) s A H locs (wd_M cI cL g fl rn fs lt kk mk mf ml ma il sz tt fh hd) → lv_has ls 7 [(0, .ref (g 0)), (1, .int x1), (2, .int x2), (3, .int x3)] → W p l e rm_mLate s m [.ref (g 0), .int x1, .int x2, .int x3].toArray below meth c H locs 0 0 Q (F0 m 45 ls []) := by
    intro hd H locs ls heq hW hl
    rw [mm_mLate_45] at heq
    refine lv_aload_n hx hb d_mLate_45 rfl (lv_at hl 0 rfl) ?_
    refine lv_aload_n hx hb d_mLate_46 rfl (lv_at hl 0 rfl) ?_
    refine lv_iload_n hx hb d_mLate_47 rfl (lv_at hl 1 rfl) ?_
    refine lv_iconst (v := 1) hx hb d_mLate_48 (by decide) ?_
    refine lv_isub hx hb d_mLate_49 ?_
    obtain ⟨zt_52, vt_52, et_52⟩ := gk_sub v_x1 (show gk_v 1 1 from rfl) (by omega) (by omega)
    refine gk_goR hW [0, 1, 2, 3, 4, 5, 6, 7, 8, 9] rfl (va_runV (As := [.int (x1 - 1)]) (rest := [.ref (g 0)]) ⟨hx, hb, hml, hown, hts⟩ (c_mBase l D cI cL cL g fl rn fs lt kk mk mf ml ma il sz tt fh hd (x1 - 1) z_rn v_rn zt_52 vt_52 (by omega) (by omega) _) (gk_cwV hts w_179 w_180 w_181 w_145 k_mBase rfl e_mBase rfl rfl ⟨Nat.le_of_ble_eq_true rfl, Nat.le_of_ble_eq_true rfl⟩) (gk_preV hW [0, 1, 2, 3, 4, 5, 6, 7, 8, 9] rfl rfl rfl rfl) rfl rfl hl.1 rfl (lv_room (Nat.le_of_ble_eq_true rfl)) d_mLate_50 ⟨Nat.le_of_ble_eq_true rfl, Nat.le_of_ble_eq_true rfl⟩) (fun H locs hW => ?_)
    obtain ⟨zb_53, vb_53, hb_53⟩ := mm_mBase_bd (x1 - 1) rn fs lt kk il tt zt_52 vt_52 (by omega)
    refine gk_goR hW [0, 1, 2, 3, 4, 5, 6, 7, 8, 9] rfl (va_runV (As := [.int (mm_mBase (x1 - 1) rn fs lt kk il tt)]) (rest := []) ⟨hx, hb, hml, hown, hts⟩ (c_mBaseClass l D cI cL cL g fl rn fs lt kk mk mf ml ma il sz tt fh hd (mm_mBase (x1 - 1) rn fs lt kk il tt) z_rn v_rn zb_53 vb_53 (by omega) (by omega) _) (gk_cwV hts w_182 w_183 w_184 w_145 k_mBaseClass rfl e_mBaseClass rfl rfl ⟨Nat.le_of_ble_eq_true rfl, Nat.le_of_ble_eq_true rfl⟩) (gk_preV hW [0, 1, 2, 3, 4, 5, 6, 7, 8, 9] rfl rfl rfl rfl) rfl rfl hl.1 rfl (lv_room (Nat.le_of_ble_eq_true rfl)) d_mLate_53 ⟨Nat.le_of_ble_eq_true rfl, Nat.le_of_ble_eq_true rfl⟩) (fun H locs hW => ?_)
    refine lv_bipush (v := 28) hx hb d_mLate_56 (by decide) ?_
    refine lv_icmp_ne (tgt := 70) hx hb d_mLate_58 (by decide) (fun c_54 => ?_) (fun c_54 => ?_)
    · replace heq := (if_neg c_54).symm.trans heq
      exact K70 hd H locs ls heq hW (lv_sub hl [0, 1, 2, 3] rfl)
    · replace heq := (if_pos c_54).symm.trans heq
      refine lv_aload_n hx hb d_mLate_61 rfl (lv_at hl 0 rfl) ?_
      refine lv_sipush (v := 211) hx hb d_mLate_62 (by decide) ?_
      refine lv_iconst (v := 0) hx hb d_mLate_65 (by decide) ?_
      refine gk_goI (wr := []) hW [0, 1, 2, 3, 4, 5, 6, 7, 8, 9] [] rfl rfl (by decide) (by decide) (va_runV (As := [.int 211, .int 0]) (rest := []) ⟨hx, hb, hml, hown, hts⟩ (c_mTell l D cI cL cL g fl rn fs lt kk mk mf ml ma il sz tt fh hd 211 0 _) (gk_cwV hts w_176 w_177 w_178 w_145 k_mTell rfl e_mTell rfl rfl ⟨Nat.le_of_ble_eq_true rfl, Nat.le_of_ble_eq_true rfl⟩) (gk_preV hW [0, 1, 2, 3, 4, 5, 6, 7, 8, 9] rfl rfl rfl rfl) rfl rfl hl.1 rfl (lv_room (Nat.le_of_ble_eq_true rfl)) d_mLate_66 ⟨Nat.le_of_ble_eq_true rfl, Nat.le_of_ble_eq_true rfl⟩) (fun r_55 u H locs p_57 hW => ?_)
      obtain ⟨rfl, rfl⟩ : r_55 = 211 ∧ u = 0 := Prod.mk.inj (p_57.trans (show (mm_mTell 211 0 hd) = (211, 0) from rfl))
      have hW : gk_W D vwCl (gk_T cI cL) s A H locs (wd_M cI cL g fl rn fs lt kk mk mf ml ma il sz tt fh 0) := hW.re [0, 1, 2, 3, 4, 5, 6, 7, 8, 9] (by decide) rfl
      exact X _ 0 H locs 0 0 69 ls heq hW d_mLate_69 rfl (Nat.le_of_ble_eq_true rfl) (Nat.le_of_ble_eq_true rfl)
  refine lv_iload_n hx hb d_mLate_0 rfl (lv_at hl 3 rfl) ?_
  refine lv_bipush (v := 11) hx hb d_mLate_1 (by decide) ?_
  refine lv_icmp_eq (tgt := 24) hx hb d_mLate_3 (by decide) (fun c_58 => ?_) (fun c_58 => ?_)
  · replace heq := (if_pos c_58).symm.trans heq
    refine lv_aload_n hx hb d_mLate_24 rfl (lv_at hl 0 rfl) ?_
    refine lv_sipush (v := 210) hx hb d_mLate_25 (by decide) ?_
    refine lv_iconst (v := 0) hx hb d_mLate_28 (by decide) ?_
    refine gk_goI (wr := []) hW [0, 1, 2, 3, 4, 5, 6, 7, 8, 9] [] rfl rfl (by decide) (by decide) (va_runV (As := [.int 210, .int 0]) (rest := []) ⟨hx, hb, hml, hown, hts⟩ (c_mTell l D cI cL cL g fl rn fs lt kk mk mf ml ma il sz tt fh hd 210 0 _) (gk_cwV hts w_176 w_177 w_178 w_145 k_mTell rfl e_mTell rfl rfl ⟨Nat.le_of_ble_eq_true rfl, Nat.le_of_ble_eq_true rfl⟩) (gk_preV hW [0, 1, 2, 3, 4, 5, 6, 7, 8, 9] rfl rfl rfl rfl) rfl rfl hl.1 rfl (lv_room (Nat.le_of_ble_eq_true rfl)) d_mLate_29 ⟨Nat.le_of_ble_eq_true rfl, Nat.le_of_ble_eq_true rfl⟩) (fun r_59 u H locs p_61 hW => ?_)
    obtain ⟨rfl, rfl⟩ : r_59 = 210 ∧ u = 0 := Prod.mk.inj (p_61.trans (show (mm_mTell 210 0 hd) = (210, 0) from rfl))
    have hW : gk_W D vwCl (gk_T cI cL) s A H locs (wd_M cI cL g fl rn fs lt kk mk mf ml ma il sz tt fh 0) := hW.re [0, 1, 2, 3, 4, 5, 6, 7, 8, 9] (by decide) rfl
    exact X _ 0 H locs 0 0 32 ls heq hW d_mLate_32 rfl (Nat.le_of_ble_eq_true rfl) (Nat.le_of_ble_eq_true rfl)
  · replace heq := (if_neg c_58).symm.trans heq
    refine lv_iload_n hx hb d_mLate_6 rfl (lv_at hl 3 rfl) ?_
    refine lv_bipush (v := 13) hx hb d_mLate_7 (by decide) ?_
    refine lv_icmp_eq (tgt := 24) hx hb d_mLate_9 (by decide) (fun c_62 => ?_) (fun c_62 => ?_)
    · replace heq := (if_pos c_62).symm.trans heq
      refine lv_aload_n hx hb d_mLate_24 rfl (lv_at hl 0 rfl) ?_
      refine lv_sipush (v := 210) hx hb d_mLate_25 (by decide) ?_
      refine lv_iconst (v := 0) hx hb d_mLate_28 (by decide) ?_
      refine gk_goI (wr := []) hW [0, 1, 2, 3, 4, 5, 6, 7, 8, 9] [] rfl rfl (by decide) (by decide) (va_runV (As := [.int 210, .int 0]) (rest := []) ⟨hx, hb, hml, hown, hts⟩ (c_mTell l D cI cL cL g fl rn fs lt kk mk mf ml ma il sz tt fh hd 210 0 _) (gk_cwV hts w_176 w_177 w_178 w_145 k_mTell rfl e_mTell rfl rfl ⟨Nat.le_of_ble_eq_true rfl, Nat.le_of_ble_eq_true rfl⟩) (gk_preV hW [0, 1, 2, 3, 4, 5, 6, 7, 8, 9] rfl rfl rfl rfl) rfl rfl hl.1 rfl (lv_room (Nat.le_of_ble_eq_true rfl)) d_mLate_29 ⟨Nat.le_of_ble_eq_true rfl, Nat.le_of_ble_eq_true rfl⟩) (fun r_63 u H locs p_65 hW => ?_)
      obtain ⟨rfl, rfl⟩ : r_63 = 210 ∧ u = 0 := Prod.mk.inj (p_65.trans (show (mm_mTell 210 0 hd) = (210, 0) from rfl))
      have hW : gk_W D vwCl (gk_T cI cL) s A H locs (wd_M cI cL g fl rn fs lt kk mk mf ml ma il sz tt fh 0) := hW.re [0, 1, 2, 3, 4, 5, 6, 7, 8, 9] (by decide) rfl
      exact X _ 0 H locs 0 0 32 ls heq hW d_mLate_32 rfl (Nat.le_of_ble_eq_true rfl) (Nat.le_of_ble_eq_true rfl)
    · replace heq := (if_neg c_62).symm.trans heq
      refine lv_iload_n hx hb d_mLate_12 rfl (lv_at hl 3 rfl) ?_
      refine lv_bipush (v := 19) hx hb d_mLate_13 (by decide) ?_
      refine lv_icmp_eq (tgt := 24) hx hb d_mLate_15 (by decide) (fun c_66 => ?_) (fun c_66 => ?_)
      · replace heq := (if_pos c_66).symm.trans heq
        refine lv_aload_n hx hb d_mLate_24 rfl (lv_at hl 0 rfl) ?_
        refine lv_sipush (v := 210) hx hb d_mLate_25 (by decide) ?_
        refine lv_iconst (v := 0) hx hb d_mLate_28 (by decide) ?_
        refine gk_goI (wr := []) hW [0, 1, 2, 3, 4, 5, 6, 7, 8, 9] [] rfl rfl (by decide) (by decide) (va_runV (As := [.int 210, .int 0]) (rest := []) ⟨hx, hb, hml, hown, hts⟩ (c_mTell l D cI cL cL g fl rn fs lt kk mk mf ml ma il sz tt fh hd 210 0 _) (gk_cwV hts w_176 w_177 w_178 w_145 k_mTell rfl e_mTell rfl rfl ⟨Nat.le_of_ble_eq_true rfl, Nat.le_of_ble_eq_true rfl⟩) (gk_preV hW [0, 1, 2, 3, 4, 5, 6, 7, 8, 9] rfl rfl rfl rfl) rfl rfl hl.1 rfl (lv_room (Nat.le_of_ble_eq_true rfl)) d_mLate_29 ⟨Nat.le_of_ble_eq_true rfl, Nat.le_of_ble_eq_true rfl⟩) (fun r_67 u H locs p_69 hW => ?_)
        obtain ⟨rfl, rfl⟩ : r_67 = 210 ∧ u = 0 := Prod.mk.inj (p_69.trans (show (mm_mTell 210 0 hd) = (210, 0) from rfl))
        have hW : gk_W D vwCl (gk_T cI cL) s A H locs (wd_M cI cL g fl rn fs lt kk mk mf ml ma il sz tt fh 0) := hW.re [0, 1, 2, 3, 4, 5, 6, 7, 8, 9] (by decide) rfl
        exact X _ 0 H locs 0 0 32 ls heq hW d_mLate_32 rfl (Nat.le_of_ble_eq_true rfl) (Nat.le_of_ble_eq_true rfl)
      · replace heq := (if_neg c_66).symm.trans heq
        refine lv_iload_n hx hb d_mLate_18 rfl (lv_at hl 2 rfl) ?_
        refine lv_bipush (v := 12) hx hb d_mLate_19 (by decide) ?_
        refine lv_icmp_ne (tgt := 33) hx hb d_mLate_21 (by decide) (fun c_70 => ?_) (fun c_70 => ?_)
        · replace heq := (if_neg c_70).symm.trans heq
          refine lv_iload_n hx hb d_mLate_33 rfl (lv_at hl 2 rfl) ?_
          refine lv_bipush (v := 13) hx hb d_mLate_34 (by decide) ?_
          refine lv_icmp_eq (tgt := 45) hx hb d_mLate_36 (by decide) (fun c_71 => ?_) (fun c_71 => ?_)
          · replace heq := (if_pos c_71).symm.trans heq
            exact K45 hd H locs ls heq hW (lv_sub hl [0, 1, 2, 3] rfl)
          · replace heq := (if_neg c_71).symm.trans heq
            refine lv_iload_n hx hb d_mLate_39 rfl (lv_at hl 2 rfl) ?_
            refine lv_bipush (v := 11) hx hb d_mLate_40 (by decide) ?_
            refine lv_icmp_ne (tgt := 70) hx hb d_mLate_42 (by decide) (fun c_72 => ?_) (fun c_72 => ?_)
            · replace heq := (if_neg c_72).symm.trans heq
              exact K70 hd H locs ls heq hW (lv_sub hl [0, 1, 2, 3] rfl)
            · replace heq := (if_pos c_72).symm.trans heq
              exact K45 hd H locs ls heq hW (lv_sub hl [0, 1, 2, 3] rfl)
        · replace heq := (if_pos c_70).symm.trans heq
          refine lv_aload_n hx hb d_mLate_24 rfl (lv_at hl 0 rfl) ?_
          refine lv_sipush (v := 210) hx hb d_mLate_25 (by decide) ?_
          refine lv_iconst (v := 0) hx hb d_mLate_28 (by decide) ?_
          refine gk_goI (wr := []) hW [0, 1, 2, 3, 4, 5, 6, 7, 8, 9] [] rfl rfl (by decide) (by decide) (va_runV (As := [.int 210, .int 0]) (rest := []) ⟨hx, hb, hml, hown, hts⟩ (c_mTell l D cI cL cL g fl rn fs lt kk mk mf ml ma il sz tt fh hd 210 0 _) (gk_cwV hts w_176 w_177 w_178 w_145 k_mTell rfl e_mTell rfl rfl ⟨Nat.le_of_ble_eq_true rfl, Nat.le_of_ble_eq_true rfl⟩) (gk_preV hW [0, 1, 2, 3, 4, 5, 6, 7, 8, 9] rfl rfl rfl rfl) rfl rfl hl.1 rfl (lv_room (Nat.le_of_ble_eq_true rfl)) d_mLate_29 ⟨Nat.le_of_ble_eq_true rfl, Nat.le_of_ble_eq_true rfl⟩) (fun r_73 u H locs p_75 hW => ?_)
          obtain ⟨rfl, rfl⟩ : r_73 = 210 ∧ u = 0 := Prod.mk.inj (p_75.trans (show (mm_mTell 210 0 hd) = (210, 0) from rfl))
          have hW : gk_W D vwCl (gk_T cI cL) s A H locs (wd_M cI cL g fl rn fs lt kk mk mf ml ma il sz tt fh 0) := hW.re [0, 1, 2, 3, 4, 5, 6, 7, 8, 9] (by decide) rfl
          exact X _ 0 H locs 0 0 32 ls heq hW d_mLate_32 rfl (Nat.le_of_ble_eq_true rfl) (Nat.le_of_ble_eq_true rfl)
