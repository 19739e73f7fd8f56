def mm_hProperty (x1 x2 x3 : Int32) (tx cs fa1 la1 va1 : Nat → Int32) (mn1 b1 b2 b3 b4 b5 b6 ln kn : Int32) : Int32 × (Nat → Int32) × (Nat → Int32) × (Nat → Int32) × (Nat → Int32) × Int32 × Int32 × Int32 × Int32 × Int32 × Int32 × Int32 × Int32 := match mm_property x1 x2 x3 tx cs fa1 la1 va1 mn1 b1 b2 b3 b4 b5 b6 ln kn with | (k, w0, w1, w2, w3, w4, w5, w6, w7, w8, w9, w10, w11) => if k = 0 then (0, w0, w1, w2, w3, w4, w5, w6, w7, w8, w9, w10, w11) else (if k = 1 then (1, w0, w1, w2, w3, w4, w5, w6, w7, w8, w9, w10, w11) else (if k = 2 then (2, w0, w1, w2, w3, w4, w5, w6, w7, w8, w9, w10, w11) else (0, w0, w1, w2, w3, w4, w5, w6, w7, w8, w9, w10, w11)))
def rm_hProperty : Room := { frames := 7, cells := 1, slots := 6, locals := 106 }
set_option maxHeartbeats 4000000 in
set_option maxRecDepth 100000 in
theorem c_hProperty (l : Launch) (hst : l.stackTraces = false) (D : va_G) (cI : ClassId) (cL : ClassId × ClassId) (h : Nat → Nat) (tx cs rl gv fa1 la1 va1 : Nat → Int32) (mn1 : Int32) (fa2 la2 va2 : Nat → Int32) (mn2 : Int32) (fa3 la3 va3 : Nat → Int32) (mn3 b1 b2 b3 b4 b5 b6 ln lo kn : Int32) (x1 x2 x3 : Int32) (z_ln : Int) (v_ln : gk_v ln z_ln) (z_mn1 : Int) (v_mn1 : gk_v mn1 z_mn1) (hln : 0 ≤ z_ln ∧ z_ln ≤ 2000) (hm1 : 0 ≤ z_mn1 ∧ z_mn1 ≤ 100) : gk_H l y_hProperty (.codeWith y_hProperty b_hProperty 5 (some .int) [(0, 7, 10, 13), (0, 7, 14, 15)] :: wA) rm_hProperty D vwCl (gk_T cI cL) [.ref (h 0), .int x1, .int x2, .int x3] (wd_P cI h tx cs rl gv fa1 la1 va1 mn1 fa2 la2 va2 mn2 fa3 la3 va3 mn3 b1 b2 b3 b4 b5 b6 ln lo kn) (fun (r : Int32) (u : (Nat → Int32) × (Nat → Int32) × (Nat → Int32) × (Nat → Int32) × Int32 × Int32 × Int32 × Int32 × Int32 × Int32 × Int32 × Int32) => (r, u) = mm_hProperty x1 x2 x3 tx cs fa1 la1 va1 mn1 b1 b2 b3 b4 b5 b6 ln kn) (fun u => (wd_P cI h tx u.1 rl gv u.2.1 u.2.2.1 u.2.2.2.1 u.2.2.2.2.1 fa2 la2 va2 mn2 fa3 la3 va3 mn3 u.2.2.2.2.2.1 u.2.2.2.2.2.2.1 u.2.2.2.2.2.2.2.1 u.2.2.2.2.2.2.2.2.1 u.2.2.2.2.2.2.2.2.2.1 u.2.2.2.2.2.2.2.2.2.2.1 ln lo u.2.2.2.2.2.2.2.2.2.2.2)) 1 6 := by
  refine gk_H.of (by decide) (Nat.le_of_ble_eq_true rfl) ?_
  intro p e s m below meth c A ls Q H locs hx hb hml hown hts htab hF hW hl X
  have hl : lv_has ls 5 [(0, .ref (h 0)), (1, .int x1), (2, .int x2), (3, .int x3)] := hl
  refine lv_aload_n hx hb d_hProperty_0 rfl (lv_at hl 0 rfl) ?_
  refine lv_iload_n hx hb d_hProperty_1 rfl (lv_at hl 1 rfl) ?_
  refine lv_iload_n hx hb d_hProperty_2 rfl (lv_at hl 2 rfl) ?_
  refine lv_iload_n hx hb d_hProperty_3 rfl (lv_at hl 3 rfl) ?_
  refine gx_goV (wr := []) hW [0, 1, 2, 3, 4, 5, 6, 7, 8, 9, 10, 11, 12, 13, 14, 15, 16, 17] [] rfl rfl (by decide) (by decide) (vx_runV (As := [.int x1, .int x2, .int x3]) (rest := []) ⟨hx, hb, hml, hown, hts⟩ (c_property l hst D cI cL h tx cs rl gv fa1 la1 va1 mn1 fa2 la2 va2 mn2 fa3 la3 va3 mn3 b1 b2 b3 b4 b5 b6 ln lo kn x1 x2 x3 z_ln v_ln z_mn1 v_mn1 hln hm1 _) (gk_cwV hts w_253 w_254 w_255 w_3 k_property rfl e_property rfl rfl ⟨Nat.le_of_ble_eq_true rfl, Nat.le_of_ble_eq_true rfl⟩) (gx_preV hW hF [0, 1, 2, 3, 4, 5, 6, 7, 8, 9, 10, 11, 12, 13, 14, 15, 16, 17] rfl rfl rfl rfl) rfl rfl hl.1 rfl (lv_room (Nat.le_of_ble_eq_true rfl)) d_hProperty_4 ⟨Nat.le_of_ble_eq_true rfl, Nat.le_of_ble_eq_true rfl⟩) (fun E ce q u H locs hp hW hce hcv hcl => ?_) (fun u H locs hp hW => ?_)
  · skip
    obtain ⟨w0, w1, w2, w3, w4, w5, w6, w7, w8, w9, w10, w11⟩ := u
    have hW : gk_W D vwCl (gk_T cI cL) s A H locs (wd_P cI h tx w0 rl gv w1 w2 w3 w4 fa2 la2 va2 mn2 fa3 la3 va3 mn3 w5 w6 w7 w8 w9 w10 ln lo w11) := hW.re [0, 1, 2, 3, 4, 5, 6, 7, 8, 9, 10, 11, 12, 13, 14, 15, 16, 17] (by decide) rfl
    rcases hp with ⟨rfl, hp⟩ | ⟨rfl, hp⟩
    · refine vx_catch (own := "BreakPlacesLaw") (name := "java/lang/IllegalArgumentException") hown [] ⟨0, 7, 10, 13⟩ [⟨0, 7, 14, 15⟩] (htab.trans rfl) (fun z hz => absurd hz List.not_mem_nil) (by decide) (by decide) (hts _ w_256) (hW.2.2.2.2.2.use w_258) hce hcv hcl ?_
      refine lv_astore (lv' := [(4, .ref q), (0, .ref (h 0)), (1, .int x1), (2, .int x2), (3, .int x3)]) hx hb d_hProperty_10 hl (by decide) rfl (fun ls hl => ?_)
      refine lv_iconst (v := 1) hx hb d_hProperty_12 (by decide) ?_
      exact X _ (w0, w1, w2, w3, w4, w5, w6, w7, w8, w9, w10, w11) H locs _ _ 13 ls (by rw [mm_hProperty, ← hp]; rfl) hW d_hProperty_13 rfl (Nat.le_of_ble_eq_true rfl) (Nat.le_of_ble_eq_true rfl)
    · have hps : ∀ z ∈ ([⟨0, 7, 10, 13⟩] : List ExceptionTableEntry), covers z 4 = false ∨ (z.catchType ≠ 0 ∧ ∃ nm : String, (Cond.classLink "BreakPlacesLaw" z.catchType nm).before [.ref (h 0), .int x1, .int x2, .int x3].toArray s = true ∧ va_Nc "java/lang/IllegalStateException" nm s) := by
        intro z hz
        rcases List.mem_cons.mp hz with rfl | hz
        · exact Or.inr ⟨by decide, _, hts _ w_256, hW.2.2.2.2.2.2.2.2.1⟩
        exact absurd hz List.not_mem_nil
      refine vx_catch (own := "BreakPlacesLaw") (name := "java/lang/IllegalStateException") hown [⟨0, 7, 10, 13⟩] ⟨0, 7, 14, 15⟩ [] (htab.trans rfl) hps (by decide) (by decide) (hts _ w_257) (hW.2.2.2.2.2.use w_259) hce hcv hcl ?_
      refine lv_astore (lv' := [(4, .ref q), (0, .ref (h 0)), (1, .int x1), (2, .int x2), (3, .int x3)]) hx hb d_hProperty_14 hl (by decide) rfl (fun ls hl => ?_)
      refine lv_iconst (v := 2) hx hb d_hProperty_16 (by decide) ?_
      exact X _ (w0, w1, w2, w3, w4, w5, w6, w7, w8, w9, w10, w11) H locs _ _ 17 ls (by rw [mm_hProperty, ← hp]; rfl) hW d_hProperty_17 rfl (Nat.le_of_ble_eq_true rfl) (Nat.le_of_ble_eq_true rfl)
  · skip
    obtain ⟨w0, w1, w2, w3, w4, w5, w6, w7, w8, w9, w10, w11⟩ := u
    have hW : gk_W D vwCl (gk_T cI cL) s A H locs (wd_P cI h tx w0 rl gv w1 w2 w3 w4 fa2 la2 va2 mn2 fa3 la3 va3 mn3 w5 w6 w7 w8 w9 w10 ln lo w11) := hW.re [0, 1, 2, 3, 4, 5, 6, 7, 8, 9, 10, 11, 12, 13, 14, 15, 16, 17] (by decide) rfl
    refine lv_goto (tgt := 18) hx hb d_hProperty_7 (by decide) ?_
    refine lv_iconst (v := 0) hx hb d_hProperty_18 (by decide) ?_
    exact X _ (w0, w1, w2, w3, w4, w5, w6, w7, w8, w9, w10, w11) H locs _ _ 19 ls (by rw [mm_hProperty, ← hp]; rfl) hW d_hProperty_19 rfl (Nat.le_of_ble_eq_true rfl) (Nat.le_of_ble_eq_true rfl)
def mm_hMark (x1 x2 x3 x4 : Int32) (fa2 la2 va2 : Nat → Int32) (mn2 : Int32) (fa3 la3 va3 : Nat → Int32) (mn3 b1 b2 b3 b4 b5 b6 kn : Int32) : Int32 × (Nat → Int32) × (Nat → Int32) × (Nat → Int32) × Int32 × (Nat → Int32) × (Nat → Int32) × (Nat → Int32) × Int32 × Int32 × Int32 × Int32 × Int32 × Int32 × Int32 × Int32 := match mm_mark x1 x2 x3 x4 fa2 la2 va2 mn2 fa3 la3 va3 mn3 b1 b2 b3 b4 b5 b6 kn with | (k, w0, w1, w2, w3, w4, w5, w6, w7, w8, w9, w10, w11, w12, w13, w14) => if k = 0 then (0, w0, w1, w2, w3, w4, w5, w6, w7, w8, w9, w10, w11, w12, w13, w14) else (if k = 1 then (1, w0, w1, w2, w3, w4, w5, w6, w7, w8, w9, w10, w11, w12, w13, w14) else (if k = 2 then (2, w0, w1, w2, w3, w4, w5, w6, w7, w8, w9, w10, w11, w12, w13, w14) else (0, w0, w1, w2, w3, w4, w5, w6, w7, w8, w9, w10, w11, w12, w13, w14)))
def rm_hMark : Room := { frames := 7, cells := 1, slots := 6, locals := 107 }
set_option maxHeartbeats 4000000 in
set_option maxRecDepth 100000 in
theorem c_hMark (l : Launch) (hst : l.stackTraces = false) (D : va_G) (cI : ClassId) (cL : ClassId × ClassId) (h : Nat → Nat) (tx cs rl gv fa1 la1 va1 : Nat → Int32) (mn1 : Int32) (fa2 la2 va2 : Nat → Int32) (mn2 : Int32) (fa3 la3 va3 : Nat → Int32) (mn3 b1 b2 b3 b4 b5 b6 ln lo kn : Int32) (x1 x2 x3 x4 : Int32) (z_mn2 : Int) (v_mn2 : gk_v mn2 z_mn2) (z_mn3 : Int) (v_mn3 : gk_v mn3 z_mn3) (hm2 : 0 ≤ z_mn2 ∧ z_mn2 ≤ 40) (hm3 : 0 ≤ z_mn3 ∧ z_mn3 ≤ 40) : gk_H l y_hMark (.codeWith y_hMark b_hMark 6 (some .int) [(0, 9, 12, 13), (0, 9, 16, 15)] :: wA) rm_hMark D vwCl (gk_T cI cL) [.ref (h 0), .int x1, .int x2, .int x3, .int x4] (wd_P cI h tx cs rl gv fa1 la1 va1 mn1 fa2 la2 va2 mn2 fa3 la3 va3 mn3 b1 b2 b3 b4 b5 b6 ln lo kn) (fun (r : Int32) (u : (Nat → Int32) × (Nat → Int32) × (Nat → Int32) × Int32 × (Nat → Int32) × (Nat → Int32) × (Nat → Int32) × Int32 × Int32 × Int32 × Int32 × Int32 × Int32 × Int32 × Int32) => (r, u) = mm_hMark x1 x2 x3 x4 fa2 la2 va2 mn2 fa3 la3 va3 mn3 b1 b2 b3 b4 b5 b6 kn) (fun u => (wd_P cI h tx cs rl gv fa1 la1 va1 mn1 u.1 u.2.1 u.2.2.1 u.2.2.2.1 u.2.2.2.2.1 u.2.2.2.2.2.1 u.2.2.2.2.2.2.1 u.2.2.2.2.2.2.2.1 u.2.2.2.2.2.2.2.2.1 u.2.2.2.2.2.2.2.2.2.1 u.2.2.2.2.2.2.2.2.2.2.1 u.2.2.2.2.2.2.2.2.2.2.2.1 u.2.2.2.2.2.2.2.2.2.2.2.2.1 u.2.2.2.2.2.2.2.2.2.2.2.2.2.1 ln lo u.2.2.2.2.2.2.2.2.2.2.2.2.2.2)) 1 6 := by
  refine gk_H.of (by decide) (Nat.le_of_ble_eq_true rfl) ?_
  intro p e s m below meth c A ls Q H locs hx hb hml hown hts htab hF hW hl X
  have hl : lv_has ls 6 [(0, .ref (h 0)), (1, .int x1), (2, .int x2), (3, .int x3), (4, .int x4)] := hl
  refine lv_aload_n hx hb d_hMark_0 rfl (lv_at hl 0 rfl) ?_
  refine lv_iload_n hx hb d_hMark_1 rfl (lv_at hl 1 rfl) ?_
  refine lv_iload_n hx hb d_hMark_2 rfl (lv_at hl 2 rfl) ?_
  refine lv_iload_n hx hb d_hMark_3 rfl (lv_at hl 3 rfl) ?_
  refine lv_iload hx hb d_hMark_4 (lv_at hl 4 rfl) ?_
  refine gx_goV (wr := []) hW [0, 1, 2, 3, 4, 5, 6, 7, 8, 9, 10, 11, 12, 13, 14, 15, 16, 17] [] rfl rfl (by decide) (by decide) (vx_runV (As := [.int x1, .int x2, .int x3, .int x4]) (rest := []) ⟨hx, hb, hml, hown, hts⟩ (c_mark l hst D cI cL h tx cs rl gv fa1 la1 va1 mn1 fa2 la2 va2 mn2 fa3 la3 va3 mn3 b1 b2 b3 b4 b5 b6 ln lo kn x1 x2 x3 x4 z_mn2 v_mn2 z_mn3 v_mn3 hm2 hm3 _) (gk_cwV hts w_260 w_261 w_262 w_3 k_mark rfl e_mark rfl rfl ⟨Nat.le_of_ble_eq_true rfl, Nat.le_of_ble_eq_true rfl⟩) (gx_preV hW hF [0, 1, 2, 3, 4, 5, 6, 7, 8, 9, 10, 11, 12, 13, 14, 15, 16, 17] rfl rfl rfl rfl) rfl rfl hl.1 rfl (lv_room (Nat.le_of_ble_eq_true rfl)) d_hMark_6 ⟨Nat.le_of_ble_eq_true rfl, Nat.le_of_ble_eq_true rfl⟩) (fun E ce q u H locs hp hW hce hcv hcl => ?_) (fun u H locs hp hW => ?_)
  · skip
    obtain ⟨w0, w1, w2, w3, w4, w5, w6, w7, w8, w9, w10, w11, w12, w13, w14⟩ := u
    have hW : gk_W D vwCl (gk_T cI cL) s A H locs (wd_P cI h tx cs rl gv fa1 la1 va1 mn1 w0 w1 w2 w3 w4 w5 w6 w7 w8 w9 w10 w11 w12 w13 ln lo w14) := hW.re [0, 1, 2, 3, 4, 5, 6, 7, 8, 9, 10, 11, 12, 13, 14, 15, 16, 17] (by decide) rfl
    rcases hp with ⟨rfl, hp⟩ | ⟨rfl, hp⟩
    · refine vx_catch (own := "BreakPlacesLaw") (name := "java/lang/IllegalArgumentException") hown [] ⟨0, 9, 12, 13⟩ [⟨0, 9, 16, 15⟩] (htab.trans rfl) (fun z hz => absurd hz List.not_mem_nil) (by decide) (by decide) (hts _ w_256) (hW.2.2.2.2.2.use w_258) hce hcv hcl ?_
      refine lv_astore (lv' := [(5, .ref q), (0, .ref (h 0)), (1, .int x1), (2, .int x2), (3, .int x3), (4, .int x4)]) hx hb d_hMark_12 hl (by decide) rfl (fun ls hl => ?_)
      refine lv_iconst (v := 1) hx hb d_hMark_14 (by decide) ?_
      exact X _ (w0, w1, w2, w3, w4, w5, w6, w7, w8, w9, w10, w11, w12, w13, w14) H locs _ _ 15 ls (by rw [mm_hMark, ← hp]; rfl) hW d_hMark_15 rfl (Nat.le_of_ble_eq_true rfl) (Nat.le_of_ble_eq_true rfl)
    · have hps : ∀ z ∈ ([⟨0, 9, 12, 13⟩] : List ExceptionTableEntry), covers z 6 = false ∨ (z.catchType ≠ 0 ∧ ∃ nm : String, (Cond.classLink "BreakPlacesLaw" z.catchType nm).before [.ref (h 0), .int x1, .int x2, .int x3, .int x4].toArray s = true ∧ va_Nc "java/lang/IllegalStateException" nm s) := by
        intro z hz
        rcases List.mem_cons.mp hz with rfl | hz
        · exact Or.inr ⟨by decide, _, hts _ w_256, hW.2.2.2.2.2.2.2.2.1⟩
        exact absurd hz List.not_mem_nil
      refine vx_catch (own := "BreakPlacesLaw") (name := "java/lang/IllegalStateException") hown [⟨0, 9, 12, 13⟩] ⟨0, 9, 16, 15⟩ [] (htab.trans rfl) hps (by decide) (by decide) (hts _ w_257) (hW.2.2.2.2.2.use w_259) hce hcv hcl ?_
      refine lv_astore (lv' := [(5, .ref q), (0, .ref (h 0)), (1, .int x1), (2, .int x2), (3, .int x3), (4, .int x4)]) hx hb d_hMark_16 hl (by decide) rfl (fun ls hl => ?_)
      refine lv_iconst (v := 2) hx hb d_hMark_18 (by decide) ?_
      exact X _ (w0, w1, w2, w3, w4, w5, w6, w7, w8, w9, w10, w11, w12, w13, w14) H locs _ _ 19 ls (by rw [mm_hMark, ← hp]; rfl) hW d_hMark_19 rfl (Nat.le_of_ble_eq_true rfl) (Nat.le_of_ble_eq_true rfl)
  · skip
    obtain ⟨w0, w1, w2, w3, w4, w5, w6, w7, w8, w9, w10, w11, w12, w13, w14⟩ := u
    have hW : gk_W D vwCl (gk_T cI cL) s A H locs (wd_P cI h tx cs rl gv fa1 la1 va1 mn1 w0 w1 w2 w3 w4 w5 w6 w7 w8 w9 w10 w11 w12 w13 ln lo w14) := hW.re [0, 1, 2, 3, 4, 5, 6, 7, 8, 9, 10, 11, 12, 13, 14, 15, 16, 17] (by decide) rfl
    refine lv_goto (tgt := 20) hx hb d_hMark_9 (by decide) ?_
    refine lv_iconst (v := 0) hx hb d_hMark_20 (by decide) ?_
    exact X _ (w0, w1, w2, w3, w4, w5, w6, w7, w8, w9, w10, w11, w12, w13, w14) H locs _ _ 21 ls (by rw [mm_hMark, ← hp]; rfl) hW d_hMark_21 rfl (Nat.le_of_ble_eq_true rfl) (Nat.le_of_ble_eq_true rfl)
def mm_hAdd (x1 x2 x3 x4 x5 : Int32) (tx cs gv fa1 la1 va1 : Nat → Int32) (mn1 b1 b2 b3 b4 b5 b6 ln kn : Int32) (ot : Nat → Int64) : Int32 × (Nat → Int32) × (Nat → Int32) × (Nat → Int32) × Int32 × Int32 × Int32 × Int32 × Int32 × Int32 × Int32 × Int32 × (Nat → Int64) := match mm_add x1 x2 x3 x4 x5 tx cs gv fa1 la1 va1 mn1 b1 b2 b3 b4 b5 b6 ln kn with | (k, r, w0, w1, w2, w3, w4, w5, w6, w7, w8, w9, w10) => if k = 0 then (0, w0, w1, w2, w3, w4, w5, w6, w7, w8, w9, w10, vp_updL ot (0 : Int32).toNatClampNeg r.toInt64) else (if k = 1 then (1, w0, w1, w2, w3, w4, w5, w6, w7, w8, w9, w10, ot) else (if k = 2 then (2, w0, w1, w2, w3, w4, w5, w6, w7, w8, w9, w10, ot) else (0, w0, w1, w2, w3, w4, w5, w6, w7, w8, w9, w10, ot)))
def rm_hAdd : Room := { frames := 7, cells := 1, slots := 6, locals := 111 }
set_option maxHeartbeats 4000000 in
set_option maxRecDepth 100000 in
theorem c_hAdd (l : Launch) (hst : l.stackTraces = false) (D : va_G) (cI : ClassId) (cL : ClassId × ClassId) (h : Nat → Nat) (tx cs rl gv fa1 la1 va1 : Nat → Int32) (mn1 : Int32) (fa2 la2 va2 : Nat → Int32) (mn2 : Int32) (fa3 la3 va3 : Nat → Int32) (mn3 b1 b2 b3 b4 b5 b6 ln lo kn : Int32) (ho : Nat) (ot : Nat → Int64) (x1 x2 x3 x4 x5 : Int32) (z_ln : Int) (v_ln : gk_v ln z_ln) (z_mn1 : Int) (v_mn1 : gk_v mn1 z_mn1) (hln : 0 ≤ z_ln ∧ z_ln ≤ 2000) (hm1 : 0 ≤ z_mn1 ∧ z_mn1 ≤ 100) : gk_H l y_hAdd (.codeWith y_hAdd b_hAdd 8 (some .int) [(0, 16, 19, 13), (0, 16, 23, 15)] :: wA) rm_hAdd D vwCl (gk_T cI cL) [.ref (h 0), .int x1, .int x2, .int x3, .int x4, .int x5, .ref ho] ((wd_P cI h tx cs rl gv fa1 la1 va1 mn1 fa2 la2 va2 mn2 fa3 la3 va3 mn3 b1 b2 b3 b4 b5 b6 ln lo kn) ++ [(ho, .inl (cL.1, 1, .inr (.inl ot)))]) (fun (r : Int32) (u : (Nat → Int32) × (Nat → Int32) × (Nat → Int32) × Int32 × Int32 × Int32 × Int32 × Int32 × Int32 × Int32 × Int32 × (Nat → Int64)) => (r, u) = mm_hAdd x1 x2 x3 x4 x5 tx cs gv fa1 la1 va1 mn1 b1 b2 b3 b4 b5 b6 ln kn ot) (fun u => ((wd_P cI h u.1 u.2.1 rl u.2.2.1 fa1 la1 va1 mn1 fa2 la2 va2 mn2 fa3 la3 va3 mn3 u.2.2.2.1 u.2.2.2.2.1 u.2.2.2.2.2.1 u.2.2.2.2.2.2.1 u.2.2.2.2.2.2.2.1 u.2.2.2.2.2.2.2.2.1 u.2.2.2.2.2.2.2.2.2.1 lo u.2.2.2.2.2.2.2.2.2.2.1) ++ [(ho, .inl (cL.1, 1, .inr (.inl u.2.2.2.2.2.2.2.2.2.2.2)))])) 1 6 := by
  refine gk_H.of (by decide) (Nat.le_of_ble_eq_true rfl) ?_
  intro p e s m below meth c A ls Q H locs hx hb hml hown hts htab hF hW hl X
  have hl : lv_has ls 8 [(0, .ref (h 0)), (1, .int x1), (2, .int x2), (3, .int x3), (4, .int x4), (5, .int x5), (6, .ref ho)] := hl
  refine lv_aload hx hb d_hAdd_0 (lv_at hl 6 rfl) ?_
  refine lv_iconst (v := 0) hx hb d_hAdd_2 (by decide) ?_
  refine lv_aload_n hx hb d_hAdd_3 rfl (lv_at hl 0 rfl) ?_
  refine lv_iload_n hx hb d_hAdd_4 rfl (lv_at hl 1 rfl) ?_
  refine lv_iload_n hx hb d_hAdd_5 rfl (lv_at hl 2 rfl) ?_
  refine lv_iload_n hx hb d_hAdd_6 rfl (lv_at hl 3 rfl) ?_
  refine lv_iload hx hb d_hAdd_7 (lv_at hl 4 rfl) ?_
  refine lv_iload hx hb d_hAdd_9 (lv_at hl 5 rfl) ?_
  refine gx_goI (wr := [(ho, .inl (cL.1, 1, .inr (.inl ot)))]) hW [0, 1, 2, 3, 4, 5, 6, 7, 8, 9, 10, 11, 12, 13, 14, 15, 16, 17] [18] rfl rfl (by decide) (by decide) (vx_runV (As := [.int x1, .int x2, .int x3, .int x4, .int x5]) (rest := [.int 0, .ref ho]) ⟨hx, hb, hml, hown, hts⟩ (c_add l hst D cI cL h tx cs rl gv fa1 la1 va1 mn1 fa2 la2 va2 mn2 fa3 la3 va3 mn3 b1 b2 b3 b4 b5 b6 ln lo kn x1 x2 x3 x4 x5 z_ln v_ln z_mn1 v_mn1 hln hm1 _) (gk_cwV hts w_263 w_264 w_265 w_3 k_add rfl e_add rfl rfl ⟨Nat.le_of_ble_eq_true rfl, Nat.le_of_ble_eq_true rfl⟩) (gx_preV hW hF [0, 1, 2, 3, 4, 5, 6, 7, 8, 9, 10, 11, 12, 13, 14, 15, 16, 17] rfl rfl rfl rfl) rfl rfl hl.1 rfl (lv_room (Nat.le_of_ble_eq_true rfl)) d_hAdd_11 ⟨Nat.le_of_ble_eq_true rfl, Nat.le_of_ble_eq_true rfl⟩) (fun E ce q u H locs hp hW hce hcv hcl => ?_) (fun r u H locs hp hW => ?_)
  · skip
    obtain ⟨w0, w1, w2, w3, w4, w5, w6, w7, w8, w9, w10⟩ := u
    have hW : gk_W D vwCl (gk_T cI cL) s A H locs ((wd_P cI h w0 w1 rl w2 fa1 la1 va1 mn1 fa2 la2 va2 mn2 fa3 la3 va3 mn3 w3 w4 w5 w6 w7 w8 w9 lo w10) ++ [(ho, .inl (cL.1, 1, .inr (.inl ot)))]) := hW.re [1, 2, 3, 4, 5, 6, 7, 8, 9, 10, 11, 12, 13, 14, 15, 16, 17, 18, 0] (by decide) rfl
    rcases hp with ⟨rfl, hp⟩ | ⟨rfl, hp⟩
    · refine vx_catch (own := "BreakPlacesLaw") (name := "java/lang/IllegalArgumentException") hown [] ⟨0, 16, 19, 13⟩ [⟨0, 16, 23, 15⟩] (htab.trans rfl) (fun z hz => absurd hz List.not_mem_nil) (by decide) (by decide) (hts _ w_256) (hW.2.2.2.2.2.use w_258) hce hcv hcl ?_
      refine lv_astore (lv' := [(7, .ref q), (0, .ref (h 0)), (1, .int x1), (2, .int x2), (3, .int x3), (4, .int x4), (5, .int x5), (6, .ref ho)]) hx hb d_hAdd_19 hl (by decide) rfl (fun ls hl => ?_)
      refine lv_iconst (v := 1) hx hb d_hAdd_21 (by decide) ?_
      exact X _ (w0, w1, w2, w3, w4, w5, w6, w7, w8, w9, w10, ot) H locs _ _ 22 ls (by rw [mm_hAdd, ← hp]; rfl) hW d_hAdd_22 rfl (Nat.le_of_ble_eq_true rfl) (Nat.le_of_ble_eq_true rfl)
    · have hps : ∀ z ∈ ([⟨0, 16, 19, 13⟩] : List ExceptionTableEntry), covers z 11 = false ∨ (z.catchType ≠ 0 ∧ ∃ nm : String, (Cond.classLink "BreakPlacesLaw" z.catchType nm).before [.ref (h 0), .int x1, .int x2, .int x3, .int x4, .int x5, .ref ho].toArray s = true ∧ va_Nc "java/lang/IllegalStateException" nm s) := by
        intro z hz
        rcases List.mem_cons.mp hz with rfl | hz
        · exact Or.inr ⟨by decide, _, hts _ w_256, hW.2.2.2.2.2.2.2.2.1⟩
        exact absurd hz List.not_mem_nil
      refine vx_catch (own := "BreakPlacesLaw") (name := "java/lang/IllegalStateException") hown [⟨0, 16, 19, 13⟩] ⟨0, 16, 23, 15⟩ [] (htab.trans rfl) hps (by decide) (by decide) (hts _ w_257) (hW.2.2.2.2.2.use w_259) hce hcv hcl ?_
      refine lv_astore (lv' := [(7, .ref q), (0, .ref (h 0)), (1, .int x1), (2, .int x2), (3, .int x3), (4, .int x4), (5, .int x5), (6, .ref ho)]) hx hb d_hAdd_23 hl (by decide) rfl (fun ls hl => ?_)
      refine lv_iconst (v := 2) hx hb d_hAdd_25 (by decide) ?_
      exact X _ (w0, w1, w2, w3, w4, w5, w6, w7, w8, w9, w10, ot) H locs _ _ 26 ls (by rw [mm_hAdd, ← hp]; rfl) hW d_hAdd_26 rfl (Nat.le_of_ble_eq_true rfl) (Nat.le_of_ble_eq_true rfl)
  · skip
    obtain ⟨w0, w1, w2, w3, w4, w5, w6, w7, w8, w9, w10⟩ := u
    have hW : gk_W D vwCl (gk_T cI cL) s A H locs ((wd_P cI h w0 w1 rl w2 fa1 la1 va1 mn1 fa2 la2 va2 mn2 fa3 la3 va3 mn3 w3 w4 w5 w6 w7 w8 w9 lo w10) ++ [(ho, .inl (cL.1, 1, .inr (.inl ot)))]) := hW.re [1, 2, 3, 4, 5, 6, 7, 8, 9, 10, 11, 12, 13, 14, 15, 16, 17, 18, 0] (by decide) rfl
    refine lv_i2l (v := r.toInt64) hx hb d_hAdd_14 rfl ?_
    refine va_last hx hb hW.1 hW.2.1 hW.2.2.1 hW.2.2.2.1 18 1 rfl rfl (i := 0) (x := r.toInt64) (gk_in (show gk_v 0 0 from rfl) (by omega) (by omega)) d_hAdd_15 (fun H locs hP hD hS => ?_)
    have hW : gk_W D vwCl (gk_T cI cL) s A H locs ((wd_P cI h w0 w1 rl w2 fa1 la1 va1 mn1 fa2 la2 va2 mn2 fa3 la3 va3 mn3 w3 w4 w5 w6 w7 w8 w9 lo w10) ++ [(ho, .inl (cL.1, 1, .inr (.inl (vp_updL ot (0 : Int32).toNatClampNeg r.toInt64))))]) := ⟨hW.1, hP, hD, hS, hW.2.2.2.2⟩
    refine lv_goto (tgt := 27) hx hb d_hAdd_16 (by decide) ?_
    refine lv_iconst (v := 0) hx hb d_hAdd_27 (by decide) ?_
    exact X _ (w0, w1, w2, w3, w4, w5, w6, w7, w8, w9, w10, (vp_updL ot (0 : Int32).toNatClampNeg r.toInt64)) H locs _ _ 28 ls (by rw [mm_hAdd, ← hp]; rfl) hW d_hAdd_28 rfl (Nat.le_of_ble_eq_true rfl) (Nat.le_of_ble_eq_true rfl)
def mm_hReplace (x1 x2 x3 x4 x5 : Int32) (tx cs gv fa1 la1 va1 : Nat → Int32) (mn1 b1 b2 b3 b4 b5 b6 ln kn : Int32) (ot : Nat → Int64) : Int32 × (Nat → Int32) × (Nat → Int32) × (Nat → Int32) × Int32 × Int32 × Int32 × Int32 × Int32 × Int32 × Int32 × Int32 × (Nat → Int64) := match mm_replace x1 x2 x3 x4 x5 tx cs gv fa1 la1 va1 mn1 b1 b2 b3 b4 b5 b6 ln kn with | (k, r, w0, w1, w2, w3, w4, w5, w6, w7, w8, w9, w10) => if k = 0 then (0, w0, w1, w2, w3, w4, w5, w6, w7, w8, w9, w10, vp_updL ot (0 : Int32).toNatClampNeg r.toInt64) else (if k = 3 then (1, w0, w1, w2, w3, w4, w5, w6, w7, w8, w9, w10, ot) else (if k = 1 then (2, w0, w1, w2, w3, w4, w5, w6, w7, w8, w9, w10, ot) else (if k = 2 then (3, w0, w1, w2, w3, w4, w5, w6, w7, w8, w9, w10, ot) else (0, w0, w1, w2, w3, w4, w5, w6, w7, w8, w9, w10, ot))))
def rm_hReplace : Room := { frames := 7, cells := 1, slots := 6, locals := 111 }
set_option maxHeartbeats 4000000 in
set_option maxRecDepth 100000 in
theorem c_hReplace (l : Launch) (hst : l.stackTraces = false) (D : va_G) (cI : ClassId) (cL : ClassId × ClassId) (h : Nat → Nat) (tx cs rl gv fa1 la1 va1 : Nat → Int32) (mn1 : Int32) (fa2 la2 va2 : Nat → Int32) (mn2 : Int32) (fa3 la3 va3 : Nat → Int32) (mn3 b1 b2 b3 b4 b5 b6 ln lo kn : Int32) (ho : Nat) (ot : Nat → Int64) (x1 x2 x3 x4 x5 : Int32) (z_ln : Int) (v_ln : gk_v ln z_ln) (z_mn1 : Int) (v_mn1 : gk_v mn1 z_mn1) (hln : 0 ≤ z_ln ∧ z_ln ≤ 2000) (hm1 : 0 ≤ z_mn1 ∧ z_mn1 ≤ 100) : gk_H l y_hReplace (.codeWith y_hReplace b_hReplace 8 (some .int) [(0, 16, 19, 28), (0, 16, 23, 13), (0, 16, 27, 15)] :: wA) rm_hReplace D vwCl (gk_T cI cL) [.ref (h 0), .int x1, .int x2, .int x3, .int x4, .int x5, .ref ho] ((wd_P cI h tx cs rl gv fa1 la1 va1 mn1 fa2 la2 va2 mn2 fa3 la3 va3 mn3 b1 b2 b3 b4 b5 b6 ln lo kn) ++ [(ho, .inl (cL.1, 1, .inr (.inl ot)))]) (fun (r : Int32) (u : (Nat → Int32) × (Nat → Int32) × (Nat → Int32) × Int32 × Int32 × Int32 × Int32 × Int32 × Int32 × Int32 × Int32 × (Nat → Int64)) => (r, u) = mm_hReplace x1 x2 x3 x4 x5 tx cs gv fa1 la1 va1 mn1 b1 b2 b3 b4 b5 b6 ln kn ot) (fun u => ((wd_P cI h u.1 u.2.1 rl u.2.2.1 fa1 la1 va1 mn1 fa2 la2 va2 mn2 fa3 la3 va3 mn3 u.2.2.2.1 u.2.2.2.2.1 u.2.2.2.2.2.1 u.2.2.2.2.2.2.1 u.2.2.2.2.2.2.2.1 u.2.2.2.2.2.2.2.2.1 u.2.2.2.2.2.2.2.2.2.1 lo u.2.2.2.2.2.2.2.2.2.2.1) ++ [(ho, .inl (cL.1, 1, .inr (.inl u.2.2.2.2.2.2.2.2.2.2.2)))])) 1 6 := by
  refine gk_H.of (by decide) (Nat.le_of_ble_eq_true rfl) ?_
  intro p e s m below meth c A ls Q H locs hx hb hml hown hts htab hF hW hl X
  have hl : lv_has ls 8 [(0, .ref (h 0)), (1, .int x1), (2, .int x2), (3, .int x3), (4, .int x4), (5, .int x5), (6, .ref ho)] := hl
  refine lv_aload hx hb d_hReplace_0 (lv_at hl 6 rfl) ?_
  refine lv_iconst (v := 0) hx hb d_hReplace_2 (by decide) ?_
  refine lv_aload_n hx hb d_hReplace_3 rfl (lv_at hl 0 rfl) ?_
  refine lv_iload_n hx hb d_hReplace_4 rfl (lv_at hl 1 rfl) ?_
  refine lv_iload_n hx hb d_hReplace_5 rfl (lv_at hl 2 rfl) ?_
  refine lv_iload_n hx hb d_hReplace_6 rfl (lv_at hl 3 rfl) ?_
  refine lv_iload hx hb d_hReplace_7 (lv_at hl 4 rfl) ?_
  refine lv_iload hx hb d_hReplace_9 (lv_at hl 5 rfl) ?_
  refine gx_goI (wr := [(ho, .inl (cL.1, 1, .inr (.inl ot)))]) hW [0, 1, 2, 3, 4, 5, 6, 7, 8, 9, 10, 11, 12, 13, 14, 15, 16, 17] [18] rfl rfl (by decide) (by decide) (vx_runV (As := [.int x1, .int x2, .int x3, .int x4, .int x5]) (rest := [.int 0, .ref ho]) ⟨hx, hb, hml, hown, hts⟩ (c_replace l hst D cI cL h tx cs rl gv fa1 la1 va1 mn1 fa2 la2 va2 mn2 fa3 la3 va3 mn3 b1 b2 b3 b4 b5 b6 ln lo kn x1 x2 x3 x4 x5 z_ln v_ln z_mn1 v_mn1 hln hm1 _) (gk_cwV hts w_266 w_267 w_268 w_3 k_replace rfl e_replace rfl rfl ⟨Nat.le_of_ble_eq_true rfl, Nat.le_of_ble_eq_true rfl⟩) (gx_preV hW hF [0, 1, 2, 3, 4, 5, 6, 7, 8, 9, 10, 11, 12, 13, 14, 15, 16, 17] rfl rfl rfl rfl) rfl rfl hl.1 rfl (lv_room (Nat.le_of_ble_eq_true rfl)) d_hReplace_11 ⟨Nat.le_of_ble_eq_true rfl, Nat.le_of_ble_eq_true rfl⟩) (fun E ce q u H locs hp hW hce hcv hcl => ?_) (fun r u H locs hp hW => ?_)
  · skip
    obtain ⟨w0, w1, w2, w3, w4, w5, w6, w7, w8, w9, w10⟩ := u
    have hW : gk_W D vwCl (gk_T cI cL) s A H locs ((wd_P cI h w0 w1 rl w2 fa1 la1 va1 mn1 fa2 la2 va2 mn2 fa3 la3 va3 mn3 w3 w4 w5 w6 w7 w8 w9 lo w10) ++ [(ho, .inl (cL.1, 1, .inr (.inl ot)))]) := hW.re [1, 2, 3, 4, 5, 6, 7, 8, 9, 10, 11, 12, 13, 14, 15, 16, 17, 18, 0] (by decide) rfl
    rcases hp with ⟨rfl, hp⟩ | ⟨rfl, hp⟩ | ⟨rfl, hp⟩
    · refine vx_catch (own := "BreakPlacesLaw") (name := "java/lang/IndexOutOfBoundsException") hown [] ⟨0, 16, 19, 28⟩ [⟨0, 16, 23, 13⟩, ⟨0, 16, 27, 15⟩] (htab.trans rfl) (fun z hz => absurd hz List.not_mem_nil) (by decide) (by decide) (hts _ w_269) (hW.2.2.2.2.2.use w_270) hce hcv hcl ?_
      refine lv_astore (lv' := [(7, .ref q), (0, .ref (h 0)), (1, .int x1), (2, .int x2), (3, .int x3), (4, .int x4), (5, .int x5), (6, .ref ho)]) hx hb d_hReplace_19 hl (by decide) rfl (fun ls hl => ?_)
      refine lv_iconst (v := 1) hx hb d_hReplace_21 (by decide) ?_
      exact X _ (w0, w1, w2, w3, w4, w5, w6, w7, w8, w9, w10, ot) H locs _ _ 22 ls (by rw [mm_hReplace, ← hp]; rfl) hW d_hReplace_22 rfl (Nat.le_of_ble_eq_true rfl) (Nat.le_of_ble_eq_true rfl)
    · have hps : ∀ z ∈ ([⟨0, 16, 19, 28⟩] : List ExceptionTableEntry), covers z 11 = false ∨ (z.catchType ≠ 0 ∧ ∃ nm : String, (Cond.classLink "BreakPlacesLaw" z.catchType nm).before [.ref (h 0), .int x1, .int x2, .int x3, .int x4, .int x5, .ref ho].toArray s = true ∧ va_Nc "java/lang/IllegalArgumentException" nm s) := by
        intro z hz
        rcases List.mem_cons.mp hz with rfl | hz
        · exact Or.inr ⟨by decide, _, hts _ w_269, hW.2.2.2.2.2.2.2.1⟩
        exact absurd hz List.not_mem_nil
      refine vx_catch (own := "BreakPlacesLaw") (name := "java/lang/IllegalArgumentException") hown [⟨0, 16, 19, 28⟩] ⟨0, 16, 23, 13⟩ [⟨0, 16, 27, 15⟩] (htab.trans rfl) hps (by decide) (by decide) (hts _ w_256) (hW.2.2.2.2.2.use w_258) hce hcv hcl ?_
      refine lv_astore (lv' := [(7, .ref q), (0, .ref (h 0)), (1, .int x1), (2, .int x2), (3, .int x3), (4, .int x4), (5, .int x5), (6, .ref ho)]) hx hb d_hReplace_23 hl (by decide) rfl (fun ls hl => ?_)
      refine lv_iconst (v := 2) hx hb d_hReplace_25 (by decide) ?_
      exact X _ (w0, w1, w2, w3, w4, w5, w6, w7, w8, w9, w10, ot) H locs _ _ 26 ls (by rw [mm_hReplace, ← hp]; rfl) hW d_hReplace_26 rfl (Nat.le_of_ble_eq_true rfl) (Nat.le_of_ble_eq_true rfl)
    · have hps : ∀ z ∈ ([⟨0, 16, 19, 28⟩, ⟨0, 16, 23, 13⟩] : List ExceptionTableEntry), covers z 11 = false ∨ (z.catchType ≠ 0 ∧ ∃ nm : String, (Cond.classLink "BreakPlacesLaw" z.catchType nm).before [.ref (h 0), .int x1, .int x2, .int x3, .int x4, .int x5, .ref ho].toArray s = true ∧ va_Nc "java/lang/IllegalStateException" nm s) := by
        intro z hz
        rcases List.mem_cons.mp hz with rfl | hz
        · exact Or.inr ⟨by decide, _, hts _ w_269, hW.2.2.2.2.2.2.2.2.2⟩
        rcases List.mem_cons.mp hz with rfl | hz
        · exact Or.inr ⟨by decide, _, hts _ w_256, hW.2.2.2.2.2.2.2.2.1⟩
        exact absurd hz List.not_mem_nil
      refine vx_catch (own := "BreakPlacesLaw") (name := "java/lang/IllegalStateException") hown [⟨0, 16, 19, 28⟩, ⟨0, 16, 23, 13⟩] ⟨0, 16, 27, 15⟩ [] (htab.trans rfl) hps (by decide) (by decide) (hts _ w_257) (hW.2.2.2.2.2.use w_259) hce hcv hcl ?_
      refine lv_astore (lv' := [(7, .ref q), (0, .ref (h 0)), (1, .int x1), (2, .int x2), (3, .int x3), (4, .int x4), (5, .int x5), (6, .ref ho)]) hx hb d_hReplace_27 hl (by decide) rfl (fun ls hl => ?_)
      refine lv_iconst (v := 3) hx hb d_hReplace_29 (by decide) ?_
      exact X _ (w0, w1, w2, w3, w4, w5, w6, w7, w8, w9, w10, ot) H locs _ _ 30 ls (by rw [mm_hReplace, ← hp]; rfl) hW d_hReplace_30 rfl (Nat.le_of_ble_eq_true rfl) (Nat.le_of_ble_eq_true rfl)
  · skip
    obtain ⟨w0, w1, w2, w3, w4, w5, w6, w7, w8, w9, w10⟩ := u
    have hW : gk_W D vwCl (gk_T cI cL) s A H locs ((wd_P cI h w0 w1 rl w2 fa1 la1 va1 mn1 fa2 la2 va2 mn2 fa3 la3 va3 mn3 w3 w4 w5 w6 w7 w8 w9 lo w10) ++ [(ho, .inl (cL.1, 1, .inr (.inl ot)))]) := hW.re [1, 2, 3, 4, 5, 6, 7, 8, 9, 10, 11, 12, 13, 14, 15, 16, 17, 18, 0] (by decide) rfl
    refine lv_i2l (v := r.toInt64) hx hb d_hReplace_14 rfl ?_
    refine va_last hx hb hW.1 hW.2.1 hW.2.2.1 hW.2.2.2.1 18 1 rfl rfl (i := 0) (x := r.toInt64) (gk_in (show gk_v 0 0 from rfl) (by omega) (by omega)) d_hReplace_15 (fun H locs hP hD hS => ?_)
    have hW : gk_W D vwCl (gk_T cI cL) s A H locs ((wd_P cI h w0 w1 rl w2 fa1 la1 va1 mn1 fa2 la2 va2 mn2 fa3 la3 va3 mn3 w3 w4 w5 w6 w7 w8 w9 lo w10) ++ [(ho, .inl (cL.1, 1, .inr (.inl (vp_updL ot (0 : Int32).toNatClampNeg r.toInt64))))]) := ⟨hW.1, hP, hD, hS, hW.2.2.2.2⟩
    refine lv_goto (tgt := 31) hx hb d_hReplace_16 (by decide) ?_
    refine lv_iconst (v := 0) hx hb d_hReplace_31 (by decide) ?_
    exact X _ (w0, w1, w2, w3, w4, w5, w6, w7, w8, w9, w10, (vp_updL ot (0 : Int32).toNatClampNeg r.toInt64)) H locs _ _ 32 ls (by rw [mm_hReplace, ← hp]; rfl) hW d_hReplace_32 rfl (Nat.le_of_ble_eq_true rfl) (Nat.le_of_ble_eq_true rfl)
def mm_hAt (x1 : Int32) (tx : Nat → Int32) (ln : Int32) (ot : Nat → Int64) : Int32 × (Nat → Int64) := match mm_at x1 tx ln with | (k, r) => if k = 0 then (0, vp_updL ot (0 : Int32).toNatClampNeg r.toInt64) else (if k = 3 then (1, ot) else (0, ot))
def rm_hAt : Room := { frames := 7, cells := 1, slots := 6, locals := 103 }
set_option maxHeartbeats 4000000 in
set_option maxRecDepth 100000 in
theorem c_hAt (l : Launch) (hst : l.stackTraces = false) (D : va_G) (cI : ClassId) (cL : ClassId × ClassId) (h : Nat → Nat) (tx cs rl gv fa1 la1 va1 : Nat → Int32) (mn1 : Int32) (fa2 la2 va2 : Nat → Int32) (mn2 : Int32) (fa3 la3 va3 : Nat → Int32) (mn3 b1 b2 b3 b4 b5 b6 ln lo kn : Int32) (ho : Nat) (ot : Nat → Int64) (x1 : Int32) (z_ln : Int) (v_ln : gk_v ln z_ln) (hln : 0 ≤ z_ln ∧ z_ln ≤ 2000) : gk_H l y_hAt (.codeWith y_hAt b_hAt 4 (some .int) [(0, 9, 12, 28)] :: wA) rm_hAt D vwCl (gk_T cI cL) [.ref (h 0), .int x1, .ref ho] ((wd_P cI h tx cs rl gv fa1 la1 va1 mn1 fa2 la2 va2 mn2 fa3 la3 va3 mn3 b1 b2 b3 b4 b5 b6 ln lo kn) ++ [(ho, .inl (cL.1, 1, .inr (.inl ot)))]) (fun (r : Int32) (u : (Nat → Int64)) => (r, u) = mm_hAt x1 tx ln ot) (fun u => ((wd_P cI h tx cs rl gv fa1 la1 va1 mn1 fa2 la2 va2 mn2 fa3 la3 va3 mn3 b1 b2 b3 b4 b5 b6 ln lo kn) ++ [(ho, .inl (cL.1, 1, .inr (.inl u)))])) 1 6 := by
  refine gk_H.of (by decide) (Nat.le_of_ble_eq_true rfl) ?_
  intro p e s m below meth c A ls Q H locs hx hb hml hown hts htab hF hW hl X
  have hl : lv_has ls 4 [(0, .ref (h 0)), (1, .int x1), (2, .ref ho)] := hl
  refine lv_aload_n hx hb d_hAt_0 rfl (lv_at hl 2 rfl) ?_
  refine lv_iconst (v := 0) hx hb d_hAt_1 (by decide) ?_
  refine lv_aload_n hx hb d_hAt_2 rfl (lv_at hl 0 rfl) ?_
  refine lv_iload_n hx hb d_hAt_3 rfl (lv_at hl 1 rfl) ?_
  refine gx_goI (wr := [(ho, .inl (cL.1, 1, .inr (.inl ot)))]) hW [0, 1, 2, 3, 4, 5, 6, 7, 8, 9, 10, 11, 12, 13, 14, 15, 16, 17] [18] rfl rfl (by decide) (by decide) (vx_runV (As := [.int x1]) (rest := [.int 0, .ref ho]) ⟨hx, hb, hml, hown, hts⟩ (c_at l hst D cI cL h tx cs rl gv fa1 la1 va1 mn1 fa2 la2 va2 mn2 fa3 la3 va3 mn3 b1 b2 b3 b4 b5 b6 ln lo kn x1 z_ln v_ln hln _) (gk_cwV hts w_271 w_272 w_273 w_3 k_at rfl e_at rfl rfl ⟨Nat.le_of_ble_eq_true rfl, Nat.le_of_ble_eq_true rfl⟩) (gx_preV hW hF [0, 1, 2, 3, 4, 5, 6, 7, 8, 9, 10, 11, 12, 13, 14, 15, 16, 17] rfl rfl rfl rfl) rfl rfl hl.1 rfl (lv_room (Nat.le_of_ble_eq_true rfl)) d_hAt_4 ⟨Nat.le_of_ble_eq_true rfl, Nat.le_of_ble_eq_true rfl⟩) (fun E ce q u H locs hp hW hce hcv hcl => ?_) (fun r u H locs hp hW => ?_)
  · skip
    have hW : gk_W D vwCl (gk_T cI cL) s A H locs ((wd_P cI h tx cs rl gv fa1 la1 va1 mn1 fa2 la2 va2 mn2 fa3 la3 va3 mn3 b1 b2 b3 b4 b5 b6 ln lo kn) ++ [(ho, .inl (cL.1, 1, .inr (.inl ot)))]) := hW.re [1, 2, 3, 4, 5, 6, 7, 8, 9, 10, 11, 12, 13, 14, 15, 16, 17, 18, 0] (by decide) rfl
    obtain ⟨rfl, hp⟩ := hp
    refine vx_catch (own := "BreakPlacesLaw") (name := "java/lang/IndexOutOfBoundsException") hown [] ⟨0, 9, 12, 28⟩ [] (htab.trans rfl) (fun z hz => absurd hz List.not_mem_nil) (by decide) (by decide) (hts _ w_269) (hW.2.2.2.2.2.use w_270) hce hcv hcl ?_
    refine lv_astore_n (lv' := [(3, .ref q), (0, .ref (h 0)), (1, .int x1), (2, .ref ho)]) hx hb d_hAt_12 rfl hl (by decide) rfl (fun ls hl => ?_)
    refine lv_iconst (v := 1) hx hb d_hAt_13 (by decide) ?_
    exact X _ ot H locs _ _ 14 ls (by rw [mm_hAt, ← hp]; rfl) hW d_hAt_14 rfl (Nat.le_of_ble_eq_true rfl) (Nat.le_of_ble_eq_true rfl)
  · skip
    have hW : gk_W D vwCl (gk_T cI cL) s A H locs ((wd_P cI h tx cs rl gv fa1 la1 va1 mn1 fa2 la2 va2 mn2 fa3 la3 va3 mn3 b1 b2 b3 b4 b5 b6 ln lo kn) ++ [(ho, .inl (cL.1, 1, .inr (.inl ot)))]) := hW.re [1, 2, 3, 4, 5, 6, 7, 8, 9, 10, 11, 12, 13, 14, 15, 16, 17, 18, 0] (by decide) rfl
    refine lv_i2l (v := r.toInt64) hx hb d_hAt_7 rfl ?_
    refine va_last hx hb hW.1 hW.2.1 hW.2.2.1 hW.2.2.2.1 18 1 rfl rfl (i := 0) (x := r.toInt64) (gk_in (show gk_v 0 0 from rfl) (by omega) (by omega)) d_hAt_8 (fun H locs hP hD hS => ?_)
    have hW : gk_W D vwCl (gk_T cI cL) s A H locs ((wd_P cI h tx cs rl gv fa1 la1 va1 mn1 fa2 la2 va2 mn2 fa3 la3 va3 mn3 b1 b2 b3 b4 b5 b6 ln lo kn) ++ [(ho, .inl (cL.1, 1, .inr (.inl (vp_updL ot (0 : Int32).toNatClampNeg r.toInt64))))]) := ⟨hW.1, hP, hD, hS, hW.2.2.2.2⟩
    refine lv_goto (tgt := 15) hx hb d_hAt_9 (by decide) ?_
    refine lv_iconst (v := 0) hx hb d_hAt_15 (by decide) ?_
    exact X _ (vp_updL ot (0 : Int32).toNatClampNeg r.toInt64) H locs _ _ 16 ls (by rw [mm_hAt, ← hp]; rfl) hW d_hAt_16 rfl (Nat.le_of_ble_eq_true rfl) (Nat.le_of_ble_eq_true rfl)
def mm_hKind (x1 : Int32) (cs : Nat → Int32) (ln lo : Int32) (ot : Nat → Int64) : Int32 × (Nat → Int64) := match mm_kind x1 cs ln lo with | (k, r) => if k = 0 then (0, vp_updL ot (0 : Int32).toNatClampNeg r.toInt64) else (if k = 3 then (1, ot) else (0, ot))
def rm_hKind : Room := { frames := 7, cells := 1, slots := 6, locals := 103 }
set_option maxHeartbeats 4000000 in
set_option maxRecDepth 100000 in
theorem c_hKind (l : Launch) (hst : l.stackTraces = false) (D : va_G) (cI : ClassId) (cL : ClassId × ClassId) (h : Nat → Nat) (tx cs rl gv fa1 la1 va1 : Nat → Int32) (mn1 : Int32) (fa2 la2 va2 : Nat → Int32) (mn2 : Int32) (fa3 la3 va3 : Nat → Int32) (mn3 b1 b2 b3 b4 b5 b6 ln lo kn : Int32) (ho : Nat) (ot : Nat → Int64) (x1 : Int32) (z_ln : Int) (v_ln : gk_v ln z_ln) (hln : 0 ≤ z_ln ∧ z_ln ≤ 2000) : gk_H l y_hKind (.codeWith y_hKind b_hKind 4 (some .int) [(0, 9, 12, 28)] :: wA) rm_hKind D vwCl (gk_T cI cL) [.ref (h 0), .int x1, .ref ho] ((wd_P cI h tx cs rl gv fa1 la1 va1 mn1 fa2 la2 va2 mn2 fa3 la3 va3 mn3 b1 b2 b3 b4 b5 b6 ln lo kn) ++ [(ho, .inl (cL.1, 1, .inr (.inl ot)))]) (fun (r : Int32) (u : (Nat → Int64)) => (r, u) = mm_hKind x1 cs ln lo ot) (fun u => ((wd_P cI h tx cs rl gv fa1 la1 va1 mn1 fa2 la2 va2 mn2 fa3 la3 va3 mn3 b1 b2 b3 b4 b5 b6 ln lo kn) ++ [(ho, .inl (cL.1, 1, .inr (.inl u)))])) 1 6 := by
  refine gk_H.of (by decide) (Nat.le_of_ble_eq_true rfl) ?_
  intro p e s m below meth c A ls Q H locs hx hb hml hown hts htab hF hW hl X
  have hl : lv_has ls 4 [(0, .ref (h 0)), (1, .int x1), (2, .ref ho)] := hl
  refine lv_aload_n hx hb d_hKind_0 rfl (lv_at hl 2 rfl) ?_
  refine lv_iconst (v := 0) hx hb d_hKind_1 (by decide) ?_
  refine lv_aload_n hx hb d_hKind_2 rfl (lv_at hl 0 rfl) ?_
  refine lv_iload_n hx hb d_hKind_3 rfl (lv_at hl 1 rfl) ?_
  refine gx_goI (wr := [(ho, .inl (cL.1, 1, .inr (.inl ot)))]) hW [0, 1, 2, 3, 4, 5, 6, 7, 8, 9, 10, 11, 12, 13, 14, 15, 16, 17] [18] rfl rfl (by decide) (by decide) (vx_runV (As := [.int x1]) (rest := [.int 0, .ref ho]) ⟨hx, hb, hml, hown, hts⟩ (c_kind l hst D cI cL h tx cs rl gv fa1 la1 va1 mn1 fa2 la2 va2 mn2 fa3 la3 va3 mn3 b1 b2 b3 b4 b5 b6 ln lo kn x1 z_ln v_ln hln _) (gk_cwV hts w_274 w_275 w_276 w_3 k_kind rfl e_kind rfl rfl ⟨Nat.le_of_ble_eq_true rfl, Nat.le_of_ble_eq_true rfl⟩) (gx_preV hW hF [0, 1, 2, 3, 4, 5, 6, 7, 8, 9, 10, 11, 12, 13, 14, 15, 16, 17] rfl rfl rfl rfl) rfl rfl hl.1 rfl (lv_room (Nat.le_of_ble_eq_true rfl)) d_hKind_4 ⟨Nat.le_of_ble_eq_true rfl, Nat.le_of_ble_eq_true rfl⟩) (fun E ce q u H locs hp hW hce hcv hcl => ?_) (fun r u H locs hp hW => ?_)
  · skip
    have hW : gk_W D vwCl (gk_T cI cL) s A H locs ((wd_P cI h tx cs rl gv fa1 la1 va1 mn1 fa2 la2 va2 mn2 fa3 la3 va3 mn3 b1 b2 b3 b4 b5 b6 ln lo kn) ++ [(ho, .inl (cL.1, 1, .inr (.inl ot)))]) := hW.re [1, 2, 3, 4, 5, 6, 7, 8, 9, 10, 11, 12, 13, 14, 15, 16, 17, 18, 0] (by decide) rfl
    obtain ⟨rfl, hp⟩ := hp
    refine vx_catch (own := "BreakPlacesLaw") (name := "java/lang/IndexOutOfBoundsException") hown [] ⟨0, 9, 12, 28⟩ [] (htab.trans rfl) (fun z hz => absurd hz List.not_mem_nil) (by decide) (by decide) (hts _ w_269) (hW.2.2.2.2.2.use w_270) hce hcv hcl ?_
    refine lv_astore_n (lv' := [(3, .ref q), (0, .ref (h 0)), (1, .int x1), (2, .ref ho)]) hx hb d_hKind_12 rfl hl (by decide) rfl (fun ls hl => ?_)
    refine lv_iconst (v := 1) hx hb d_hKind_13 (by decide) ?_
    exact X _ ot H locs _ _ 14 ls (by rw [mm_hKind, ← hp]; rfl) hW d_hKind_14 rfl (Nat.le_of_ble_eq_true rfl) (Nat.le_of_ble_eq_true rfl)
  · skip
    have hW : gk_W D vwCl (gk_T cI cL) s A H locs ((wd_P cI h tx cs rl gv fa1 la1 va1 mn1 fa2 la2 va2 mn2 fa3 la3 va3 mn3 b1 b2 b3 b4 b5 b6 ln lo kn) ++ [(ho, .inl (cL.1, 1, .inr (.inl ot)))]) := hW.re [1, 2, 3, 4, 5, 6, 7, 8, 9, 10, 11, 12, 13, 14, 15, 16, 17, 18, 0] (by decide) rfl
    refine lv_i2l (v := r.toInt64) hx hb d_hKind_7 rfl ?_
    refine va_last hx hb hW.1 hW.2.1 hW.2.2.1 hW.2.2.2.1 18 1 rfl rfl (i := 0) (x := r.toInt64) (gk_in (show gk_v 0 0 from rfl) (by omega) (by omega)) d_hKind_8 (fun H locs hP hD hS => ?_)
    have hW : gk_W D vwCl (gk_T cI cL) s A H locs ((wd_P cI h tx cs rl gv fa1 la1 va1 mn1 fa2 la2 va2 mn2 fa3 la3 va3 mn3 b1 b2 b3 b4 b5 b6 ln lo kn) ++ [(ho, .inl (cL.1, 1, .inr (.inl (vp_updL ot (0 : Int32).toNatClampNeg r.toInt64))))]) := ⟨hW.1, hP, hD, hS, hW.2.2.2.2⟩
    refine lv_goto (tgt := 15) hx hb d_hKind_9 (by decide) ?_
    refine lv_iconst (v := 0) hx hb d_hKind_15 (by decide) ?_
    exact X _ (vp_updL ot (0 : Int32).toNatClampNeg r.toInt64) H locs _ _ 16 ls (by rw [mm_hKind, ← hp]; rfl) hW d_hKind_16 rfl (Nat.le_of_ble_eq_true rfl) (Nat.le_of_ble_eq_true rfl)
def mm_hBreaks (x1 : Int32) (tx cs rl fa2 la2 va2 : Nat → Int32) (mn2 : Int32) (fa3 la3 va3 : Nat → Int32) (mn3 b1 b2 b3 b4 b5 b6 ln lo kn : Int32) (ot : Nat → Int64) : Int32 × (Nat → Int32) × Int32 × Int32 × Int32 × Int32 × Int32 × Int32 × Int32 × (Nat → Int64) := match mm_breaks x1 tx cs rl fa2 la2 va2 mn2 fa3 la3 va3 mn3 b1 b2 b3 b4 b5 b6 ln lo kn with | (k, r, w0, w1, w2, w3, w4, w5, w6, w7) => if k = 0 then (0, w0, w1, w2, w3, w4, w5, w6, w7, vp_updL ot (0 : Int32).toNatClampNeg r.toInt64) else (if k = 3 then (1, w0, w1, w2, w3, w4, w5, w6, w7, ot) else (0, w0, w1, w2, w3, w4, w5, w6, w7, ot))
def rm_hBreaks : Room := { frames := 7, cells := 1, slots := 6, locals := 156 }
set_option maxHeartbeats 4000000 in
set_option maxRecDepth 100000 in
theorem c_hBreaks (l : Launch) (hst : l.stackTraces = false) (D : va_G) (cI : ClassId) (cL : ClassId × ClassId) (h : Nat → Nat) (tx cs rl gv fa1 la1 va1 : Nat → Int32) (mn1 : Int32) (fa2 la2 va2 : Nat → Int32) (mn2 : Int32) (fa3 la3 va3 : Nat → Int32) (mn3 b1 b2 b3 b4 b5 b6 ln lo kn : Int32) (ho : Nat) (ot : Nat → Int64) (x1 : Int32) (z_kn : Int) (v_kn : gk_v kn z_kn) (z_ln : Int) (v_ln : gk_v ln z_ln) (z_mn2 : Int) (v_mn2 : gk_v mn2 z_mn2) (z_mn3 : Int) (v_mn3 : gk_v mn3 z_mn3) (hln : 0 ≤ z_ln ∧ z_ln ≤ 2000) (hkn : 0 ≤ z_kn ∧ z_kn ≤ z_ln) (hm2 : 0 ≤ z_mn2 ∧ z_mn2 ≤ 40) (hm3 : 0 ≤ z_mn3 ∧ z_mn3 ≤ 40) : gk_H l y_hBreaks (.codeWith y_hBreaks b_hBreaks 4 (some .int) [(0, 9, 12, 28)] :: wA) rm_hBreaks D vwCl (gk_T cI cL) [.ref (h 0), .int x1, .ref ho] ((wd_P cI h tx cs rl gv fa1 la1 va1 mn1 fa2 la2 va2 mn2 fa3 la3 va3 mn3 b1 b2 b3 b4 b5 b6 ln lo kn) ++ [(ho, .inl (cL.1, 1, .inr (.inl ot)))]) (fun (r : Int32) (u : (Nat → Int32) × Int32 × Int32 × Int32 × Int32 × Int32 × Int32 × Int32 × (Nat → Int64)) => (r, u) = mm_hBreaks x1 tx cs rl fa2 la2 va2 mn2 fa3 la3 va3 mn3 b1 b2 b3 b4 b5 b6 ln lo kn ot) (fun u => ((wd_P cI h tx cs u.1 gv fa1 la1 va1 mn1 fa2 la2 va2 mn2 fa3 la3 va3 mn3 u.2.1 u.2.2.1 u.2.2.2.1 u.2.2.2.2.1 u.2.2.2.2.2.1 u.2.2.2.2.2.2.1 ln lo u.2.2.2.2.2.2.2.1) ++ [(ho, .inl (cL.1, 1, .inr (.inl u.2.2.2.2.2.2.2.2)))])) 1 6 := by
  refine gk_H.of (by decide) (Nat.le_of_ble_eq_true rfl) ?_
  intro p e s m below meth c A ls Q H locs hx hb hml hown hts htab hF hW hl X
  have hl : lv_has ls 4 [(0, .ref (h 0)), (1, .int x1), (2, .ref ho)] := hl
  refine lv_aload_n hx hb d_hBreaks_0 rfl (lv_at hl 2 rfl) ?_
  refine lv_iconst (v := 0) hx hb d_hBreaks_1 (by decide) ?_
  refine lv_aload_n hx hb d_hBreaks_2 rfl (lv_at hl 0 rfl) ?_
  refine lv_iload_n hx hb d_hBreaks_3 rfl (lv_at hl 1 rfl) ?_
  refine gx_goI (wr := [(ho, .inl (cL.1, 1, .inr (.inl ot)))]) hW [0, 1, 2, 3, 4, 5, 6, 7, 8, 9, 10, 11, 12, 13, 14, 15, 16, 17] [18] rfl rfl (by decide) (by decide) (vx_runV (As := [.int x1]) (rest := [.int 0, .ref ho]) ⟨hx, hb, hml, hown, hts⟩ (c_breaks l hst D cI cL h tx cs rl gv fa1 la1 va1 mn1 fa2 la2 va2 mn2 fa3 la3 va3 mn3 b1 b2 b3 b4 b5 b6 ln lo kn x1 z_kn v_kn z_ln v_ln z_mn2 v_mn2 z_mn3 v_mn3 hln hkn hm2 hm3 _) (gk_cwV hts w_277 w_278 w_279 w_3 k_breaks rfl e_breaks rfl rfl ⟨Nat.le_of_ble_eq_true rfl, Nat.le_of_ble_eq_true rfl⟩) (gx_preV hW hF [0, 1, 2, 3, 4, 5, 6, 7, 8, 9, 10, 11, 12, 13, 14, 15, 16, 17] rfl rfl rfl rfl) rfl rfl hl.1 rfl (lv_room (Nat.le_of_ble_eq_true rfl)) d_hBreaks_4 ⟨Nat.le_of_ble_eq_true rfl, Nat.le_of_ble_eq_true rfl⟩) (fun E ce q u H locs hp hW hce hcv hcl => ?_) (fun r u H locs hp hW => ?_)
  · skip
    obtain ⟨w0, w1, w2, w3, w4, w5, w6, w7⟩ := u
    have hW : gk_W D vwCl (gk_T cI cL) s A H locs ((wd_P cI h tx cs w0 gv fa1 la1 va1 mn1 fa2 la2 va2 mn2 fa3 la3 va3 mn3 w1 w2 w3 w4 w5 w6 ln lo w7) ++ [(ho, .inl (cL.1, 1, .inr (.inl ot)))]) := hW.re [1, 2, 3, 4, 5, 6, 7, 8, 9, 10, 11, 12, 13, 14, 15, 16, 17, 18, 0] (by decide) rfl
    obtain ⟨rfl, hp⟩ := hp
    refine vx_catch (own := "BreakPlacesLaw") (name := "java/lang/IndexOutOfBoundsException") hown [] ⟨0, 9, 12, 28⟩ [] (htab.trans rfl) (fun z hz => absurd hz List.not_mem_nil) (by decide) (by decide) (hts _ w_269) (hW.2.2.2.2.2.use w_270) hce hcv hcl ?_
    refine lv_astore_n (lv' := [(3, .ref q), (0, .ref (h 0)), (1, .int x1), (2, .ref ho)]) hx hb d_hBreaks_12 rfl hl (by decide) rfl (fun ls hl => ?_)
    refine lv_iconst (v := 1) hx hb d_hBreaks_13 (by decide) ?_
    exact X _ (w0, w1, w2, w3, w4, w5, w6, w7, ot) H locs _ _ 14 ls (by rw [mm_hBreaks, ← hp]; rfl) hW d_hBreaks_14 rfl (Nat.le_of_ble_eq_true rfl) (Nat.le_of_ble_eq_true rfl)
  · skip
    obtain ⟨w0, w1, w2, w3, w4, w5, w6, w7⟩ := u
    have hW : gk_W D vwCl (gk_T cI cL) s A H locs ((wd_P cI h tx cs w0 gv fa1 la1 va1 mn1 fa2 la2 va2 mn2 fa3 la3 va3 mn3 w1 w2 w3 w4 w5 w6 ln lo w7) ++ [(ho, .inl (cL.1, 1, .inr (.inl ot)))]) := hW.re [1, 2, 3, 4, 5, 6, 7, 8, 9, 10, 11, 12, 13, 14, 15, 16, 17, 18, 0] (by decide) rfl
    refine lv_i2l (v := r.toInt64) hx hb d_hBreaks_7 rfl ?_
    refine va_last hx hb hW.1 hW.2.1 hW.2.2.1 hW.2.2.2.1 18 1 rfl rfl (i := 0) (x := r.toInt64) (gk_in (show gk_v 0 0 from rfl) (by omega) (by omega)) d_hBreaks_8 (fun H locs hP hD hS => ?_)
    have hW : gk_W D vwCl (gk_T cI cL) s A H locs ((wd_P cI h tx cs w0 gv fa1 la1 va1 mn1 fa2 la2 va2 mn2 fa3 la3 va3 mn3 w1 w2 w3 w4 w5 w6 ln lo w7) ++ [(ho, .inl (cL.1, 1, .inr (.inl (vp_updL ot (0 : Int32).toNatClampNeg r.toInt64))))]) := ⟨hW.1, hP, hD, hS, hW.2.2.2.2⟩
    refine lv_goto (tgt := 15) hx hb d_hBreaks_9 (by decide) ?_
    refine lv_iconst (v := 0) hx hb d_hBreaks_15 (by decide) ?_
    exact X _ (w0, w1, w2, w3, w4, w5, w6, w7, (vp_updL ot (0 : Int32).toNatClampNeg r.toInt64)) H locs _ _ 16 ls (by rw [mm_hBreaks, ← hp]; rfl) hW d_hBreaks_16 rfl (Nat.le_of_ble_eq_true rfl) (Nat.le_of_ble_eq_true rfl)
def mm_hRule (x1 : Int32) (tx cs rl fa2 la2 va2 : Nat → Int32) (mn2 : Int32) (fa3 la3 va3 : Nat → Int32) (mn3 b1 b2 b3 b4 b5 b6 ln lo kn : Int32) (ot : Nat → Int64) : Int32 × (Nat → Int32) × Int32 × Int32 × Int32 × Int32 × Int32 × Int32 × Int32 × (Nat → Int64) := match mm_rule x1 tx cs rl fa2 la2 va2 mn2 fa3 la3 va3 mn3 b1 b2 b3 b4 b5 b6 ln lo kn with | (k, r, w0, w1, w2, w3, w4, w5, w6, w7) => if k = 0 then (0, w0, w1, w2, w3, w4, w5, w6, w7, vp_updL ot (0 : Int32).toNatClampNeg r.toInt64) else (if k = 3 then (1, w0, w1, w2, w3, w4, w5, w6, w7, ot) else (0, w0, w1, w2, w3, w4, w5, w6, w7, ot))
def rm_hRule : Room := { frames := 7, cells := 1, slots := 6, locals := 135 }
set_option maxHeartbeats 4000000 in
set_option maxRecDepth 100000 in
theorem c_hRule (l : Launch) (hst : l.stackTraces = false) (D : va_G) (cI : ClassId) (cL : ClassId × ClassId) (h : Nat → Nat) (tx cs rl gv fa1 la1 va1 : Nat → Int32) (mn1 : Int32) (fa2 la2 va2 : Nat → Int32) (mn2 : Int32) (fa3 la3 va3 : Nat → Int32) (mn3 b1 b2 b3 b4 b5 b6 ln lo kn : Int32) (ho : Nat) (ot : Nat → Int64) (x1 : Int32) (z_kn : Int) (v_kn : gk_v kn z_kn) (z_ln : Int) (v_ln : gk_v ln z_ln) (z_mn2 : Int) (v_mn2 : gk_v mn2 z_mn2) (z_mn3 : Int) (v_mn3 : gk_v mn3 z_mn3) (hln : 0 ≤ z_ln ∧ z_ln ≤ 2000) (hkn : 0 ≤ z_kn ∧ z_kn ≤ z_ln) (hm2 : 0 ≤ z_mn2 ∧ z_mn2 ≤ 40) (hm3 : 0 ≤ z_mn3 ∧ z_mn3 ≤ 40) : gk_H l y_hRule (.codeWith y_hRule b_hRule 4 (some .int) [(0, 9, 12, 28)] :: wA) rm_hRule D vwCl (gk_T cI cL) [.ref (h 0), .int x1, .ref ho] ((wd_P cI h tx cs rl gv fa1 la1 va1 mn1 fa2 la2 va2 mn2 fa3 la3 va3 mn3 b1 b2 b3 b4 b5 b6 ln lo kn) ++ [(ho, .inl (cL.1, 1, .inr (.inl ot)))]) (fun (r : Int32) (u : (Nat → Int32) × Int32 × Int32 × Int32 × Int32 × Int32 × Int32 × Int32 × (Nat → Int64)) => (r, u) = mm_hRule x1 tx cs rl fa2 la2 va2 mn2 fa3 la3 va3 mn3 b1 b2 b3 b4 b5 b6 ln lo kn ot) (fun u => ((wd_P cI h tx cs u.1 gv fa1 la1 va1 mn1 fa2 la2 va2 mn2 fa3 la3 va3 mn3 u.2.1 u.2.2.1 u.2.2.2.1 u.2.2.2.2.1 u.2.2.2.2.2.1 u.2.2.2.2.2.2.1 ln lo u.2.2.2.2.2.2.2.1) ++ [(ho, .inl (cL.1, 1, .inr (.inl u.2.2.2.2.2.2.2.2)))])) 1 6 := by
  refine gk_H.of (by decide) (Nat.le_of_ble_eq_true rfl) ?_
  intro p e s m below meth c A ls Q H locs hx hb hml hown hts htab hF hW hl X
  have hl : lv_has ls 4 [(0, .ref (h 0)), (1, .int x1), (2, .ref ho)] := hl
  refine lv_aload_n hx hb d_hRule_0 rfl (lv_at hl 2 rfl) ?_
  refine lv_iconst (v := 0) hx hb d_hRule_1 (by decide) ?_
  refine lv_aload_n hx hb d_hRule_2 rfl (lv_at hl 0 rfl) ?_
  refine lv_iload_n hx hb d_hRule_3 rfl (lv_at hl 1 rfl) ?_
  refine gx_goI (wr := [(ho, .inl (cL.1, 1, .inr (.inl ot)))]) hW [0, 1, 2, 3, 4, 5, 6, 7, 8, 9, 10, 11, 12, 13, 14, 15, 16, 17] [18] rfl rfl (by decide) (by decide) (vx_runV (As := [.int x1]) (rest := [.int 0, .ref ho]) ⟨hx, hb, hml, hown, hts⟩ (c_rule l hst D cI cL h tx cs rl gv fa1 la1 va1 mn1 fa2 la2 va2 mn2 fa3 la3 va3 mn3 b1 b2 b3 b4 b5 b6 ln lo kn x1 z_kn v_kn z_ln v_ln z_mn2 v_mn2 z_mn3 v_mn3 hln hkn hm2 hm3 _) (gk_cwV hts w_280 w_281 w_282 w_3 k_rule rfl e_rule rfl rfl ⟨Nat.le_of_ble_eq_true rfl, Nat.le_of_ble_eq_true rfl⟩) (gx_preV hW hF [0, 1, 2, 3, 4, 5, 6, 7, 8, 9, 10, 11, 12, 13, 14, 15, 16, 17] rfl rfl rfl rfl) rfl rfl hl.1 rfl (lv_room (Nat.le_of_ble_eq_true rfl)) d_hRule_4 ⟨Nat.le_of_ble_eq_true rfl, Nat.le_of_ble_eq_true rfl⟩) (fun E ce q u H locs hp hW hce hcv hcl => ?_) (fun r u H locs hp hW => ?_)
  · skip
    obtain ⟨w0, w1, w2, w3, w4, w5, w6, w7⟩ := u
    have hW : gk_W D vwCl (gk_T cI cL) s A H locs ((wd_P cI h tx cs w0 gv fa1 la1 va1 mn1 fa2 la2 va2 mn2 fa3 la3 va3 mn3 w1 w2 w3 w4 w5 w6 ln lo w7) ++ [(ho, .inl (cL.1, 1, .inr (.inl ot)))]) := hW.re [1, 2, 3, 4, 5, 6, 7, 8, 9, 10, 11, 12, 13, 14, 15, 16, 17, 18, 0] (by decide) rfl
    obtain ⟨rfl, hp⟩ := hp
    refine vx_catch (own := "BreakPlacesLaw") (name := "java/lang/IndexOutOfBoundsException") hown [] ⟨0, 9, 12, 28⟩ [] (htab.trans rfl) (fun z hz => absurd hz List.not_mem_nil) (by decide) (by decide) (hts _ w_269) (hW.2.2.2.2.2.use w_270) hce hcv hcl ?_
    refine lv_astore_n (lv' := [(3, .ref q), (0, .ref (h 0)), (1, .int x1), (2, .ref ho)]) hx hb d_hRule_12 rfl hl (by decide) rfl (fun ls hl => ?_)
    refine lv_iconst (v := 1) hx hb d_hRule_13 (by decide) ?_
    exact X _ (w0, w1, w2, w3, w4, w5, w6, w7, ot) H locs _ _ 14 ls (by rw [mm_hRule, ← hp]; rfl) hW d_hRule_14 rfl (Nat.le_of_ble_eq_true rfl) (Nat.le_of_ble_eq_true rfl)
  · skip
    obtain ⟨w0, w1, w2, w3, w4, w5, w6, w7⟩ := u
    have hW : gk_W D vwCl (gk_T cI cL) s A H locs ((wd_P cI h tx cs w0 gv fa1 la1 va1 mn1 fa2 la2 va2 mn2 fa3 la3 va3 mn3 w1 w2 w3 w4 w5 w6 ln lo w7) ++ [(ho, .inl (cL.1, 1, .inr (.inl ot)))]) := hW.re [1, 2, 3, 4, 5, 6, 7, 8, 9, 10, 11, 12, 13, 14, 15, 16, 17, 18, 0] (by decide) rfl
    refine lv_i2l (v := r.toInt64) hx hb d_hRule_7 rfl ?_
    refine va_last hx hb hW.1 hW.2.1 hW.2.2.1 hW.2.2.2.1 18 1 rfl rfl (i := 0) (x := r.toInt64) (gk_in (show gk_v 0 0 from rfl) (by omega) (by omega)) d_hRule_8 (fun H locs hP hD hS => ?_)
    have hW : gk_W D vwCl (gk_T cI cL) s A H locs ((wd_P cI h tx cs w0 gv fa1 la1 va1 mn1 fa2 la2 va2 mn2 fa3 la3 va3 mn3 w1 w2 w3 w4 w5 w6 ln lo w7) ++ [(ho, .inl (cL.1, 1, .inr (.inl (vp_updL ot (0 : Int32).toNatClampNeg r.toInt64))))]) := ⟨hW.1, hP, hD, hS, hW.2.2.2.2⟩
    refine lv_goto (tgt := 15) hx hb d_hRule_9 (by decide) ?_
    refine lv_iconst (v := 0) hx hb d_hRule_15 (by decide) ?_
    exact X _ (w0, w1, w2, w3, w4, w5, w6, w7, (vp_updL ot (0 : Int32).toNatClampNeg r.toInt64)) H locs _ _ 16 ls (by rw [mm_hRule, ← hp]; rfl) hW d_hRule_16 rfl (Nat.le_of_ble_eq_true rfl) (Nat.le_of_ble_eq_true rfl)
def mm_hNext (x1 : Int32) (tx cs rl fa2 la2 va2 : Nat → Int32) (mn2 : Int32) (fa3 la3 va3 : Nat → Int32) (mn3 b1 b2 b3 b4 b5 b6 ln lo kn : Int32) (ot : Nat → Int64) : Int32 × (Nat → Int32) × Int32 × Int32 × Int32 × Int32 × Int32 × Int32 × Int32 × (Nat → Int64) := match mm_next x1 tx cs rl fa2 la2 va2 mn2 fa3 la3 va3 mn3 b1 b2 b3 b4 b5 b6 ln lo kn with | (k, r, w0, w1, w2, w3, w4, w5, w6, w7) => if k = 0 then (0, w0, w1, w2, w3, w4, w5, w6, w7, vp_updL ot (0 : Int32).toNatClampNeg r.toInt64) else (if k = 3 then (1, w0, w1, w2, w3, w4, w5, w6, w7, ot) else (0, w0, w1, w2, w3, w4, w5, w6, w7, ot))
def rm_hNext : Room := { frames := 7, cells := 1, slots := 6, locals := 157 }
set_option maxHeartbeats 4000000 in
set_option maxRecDepth 100000 in
theorem c_hNext (l : Launch) (hst : l.stackTraces = false) (D : va_G) (cI : ClassId) (cL : ClassId × ClassId) (h : Nat → Nat) (tx cs rl gv fa1 la1 va1 : Nat → Int32) (mn1 : Int32) (fa2 la2 va2 : Nat → Int32) (mn2 : Int32) (fa3 la3 va3 : Nat → Int32) (mn3 b1 b2 b3 b4 b5 b6 ln lo kn : Int32) (ho : Nat) (ot : Nat → Int64) (x1 : Int32) (z_kn : Int) (v_kn : gk_v kn z_kn) (z_ln : Int) (v_ln : gk_v ln z_ln) (z_mn2 : Int) (v_mn2 : gk_v mn2 z_mn2) (z_mn3 : Int) (v_mn3 : gk_v mn3 z_mn3) (hln : 0 ≤ z_ln ∧ z_ln ≤ 2000) (hkn : 0 ≤ z_kn ∧ z_kn ≤ z_ln) (hm2 : 0 ≤ z_mn2 ∧ z_mn2 ≤ 40) (hm3 : 0 ≤ z_mn3 ∧ z_mn3 ≤ 40) : gk_H l y_hNext (.codeWith y_hNext b_hNext 4 (some .int) [(0, 9, 12, 28)] :: wA) rm_hNext D vwCl (gk_T cI cL) [.ref (h 0), .int x1, .ref ho] ((wd_P cI h tx cs rl gv fa1 la1 va1 mn1 fa2 la2 va2 mn2 fa3 la3 va3 mn3 b1 b2 b3 b4 b5 b6 ln lo kn) ++ [(ho, .inl (cL.1, 1, .inr (.inl ot)))]) (fun (r : Int32) (u : (Nat → Int32) × Int32 × Int32 × Int32 × Int32 × Int32 × Int32 × Int32 × (Nat → Int64)) => (r, u) = mm_hNext x1 tx cs rl fa2 la2 va2 mn2 fa3 la3 va3 mn3 b1 b2 b3 b4 b5 b6 ln lo kn ot) (fun u => ((wd_P cI h tx cs u.1 gv fa1 la1 va1 mn1 fa2 la2 va2 mn2 fa3 la3 va3 mn3 u.2.1 u.2.2.1 u.2.2.2.1 u.2.2.2.2.1 u.2.2.2.2.2.1 u.2.2.2.2.2.2.1 ln lo u.2.2.2.2.2.2.2.1) ++ [(ho, .inl (cL.1, 1, .inr (.inl u.2.2.2.2.2.2.2.2)))])) 1 6 := by
  refine gk_H.of (by decide) (Nat.le_of_ble_eq_true rfl) ?_
  intro p e s m below meth c A ls Q H locs hx hb hml hown hts htab hF hW hl X
  have hl : lv_has ls 4 [(0, .ref (h 0)), (1, .int x1), (2, .ref ho)] := hl
  refine lv_aload_n hx hb d_hNext_0 rfl (lv_at hl 2 rfl) ?_
  refine lv_iconst (v := 0) hx hb d_hNext_1 (by decide) ?_
  refine lv_aload_n hx hb d_hNext_2 rfl (lv_at hl 0 rfl) ?_
  refine lv_iload_n hx hb d_hNext_3 rfl (lv_at hl 1 rfl) ?_
  refine gx_goI (wr := [(ho, .inl (cL.1, 1, .inr (.inl ot)))]) hW [0, 1, 2, 3, 4, 5, 6, 7, 8, 9, 10, 11, 12, 13, 14, 15, 16, 17] [18] rfl rfl (by decide) (by decide) (vx_runV (As := [.int x1]) (rest := [.int 0, .ref ho]) ⟨hx, hb, hml, hown, hts⟩ (c_next l hst D cI cL h tx cs rl gv fa1 la1 va1 mn1 fa2 la2 va2 mn2 fa3 la3 va3 mn3 b1 b2 b3 b4 b5 b6 ln lo kn x1 z_kn v_kn z_ln v_ln z_mn2 v_mn2 z_mn3 v_mn3 hln hkn hm2 hm3 _) (gk_cwV hts w_283 w_284 w_285 w_3 k_next rfl e_next rfl rfl ⟨Nat.le_of_ble_eq_true rfl, Nat.le_of_ble_eq_true rfl⟩) (gx_preV hW hF [0, 1, 2, 3, 4, 5, 6, 7, 8, 9, 10, 11, 12, 13, 14, 15, 16, 17] rfl rfl rfl rfl) rfl rfl hl.1 rfl (lv_room (Nat.le_of_ble_eq_true rfl)) d_hNext_4 ⟨Nat.le_of_ble_eq_true rfl, Nat.le_of_ble_eq_true rfl⟩) (fun E ce q u H locs hp hW hce hcv hcl => ?_) (fun r u H locs hp hW => ?_)
  · skip
    obtain ⟨w0, w1, w2, w3, w4, w5, w6, w7⟩ := u
    have hW : gk_W D vwCl (gk_T cI cL) s A H locs ((wd_P cI h tx cs w0 gv fa1 la1 va1 mn1 fa2 la2 va2 mn2 fa3 la3 va3 mn3 w1 w2 w3 w4 w5 w6 ln lo w7) ++ [(ho, .inl (cL.1, 1, .inr (.inl ot)))]) := hW.re [1, 2, 3, 4, 5, 6, 7, 8, 9, 10, 11, 12, 13, 14, 15, 16, 17, 18, 0] (by decide) rfl
    obtain ⟨rfl, hp⟩ := hp
    refine vx_catch (own := "BreakPlacesLaw") (name := "java/lang/IndexOutOfBoundsException") hown [] ⟨0, 9, 12, 28⟩ [] (htab.trans rfl) (fun z hz => absurd hz List.not_mem_nil) (by decide) (by decide) (hts _ w_269) (hW.2.2.2.2.2.use w_270) hce hcv hcl ?_
    refine lv_astore_n (lv' := [(3, .ref q), (0, .ref (h 0)), (1, .int x1), (2, .ref ho)]) hx hb d_hNext_12 rfl hl (by decide) rfl (fun ls hl => ?_)
    refine lv_iconst (v := 1) hx hb d_hNext_13 (by decide) ?_
    exact X _ (w0, w1, w2, w3, w4, w5, w6, w7, ot) H locs _ _ 14 ls (by rw [mm_hNext, ← hp]; rfl) hW d_hNext_14 rfl (Nat.le_of_ble_eq_true rfl) (Nat.le_of_ble_eq_true rfl)
  · skip
    obtain ⟨w0, w1, w2, w3, w4, w5, w6, w7⟩ := u
    have hW : gk_W D vwCl (gk_T cI cL) s A H locs ((wd_P cI h tx cs w0 gv fa1 la1 va1 mn1 fa2 la2 va2 mn2 fa3 la3 va3 mn3 w1 w2 w3 w4 w5 w6 ln lo w7) ++ [(ho, .inl (cL.1, 1, .inr (.inl ot)))]) := hW.re [1, 2, 3, 4, 5, 6, 7, 8, 9, 10, 11, 12, 13, 14, 15, 16, 17, 18, 0] (by decide) rfl
    refine lv_i2l (v := r.toInt64) hx hb d_hNext_7 rfl ?_
    refine va_last hx hb hW.1 hW.2.1 hW.2.2.1 hW.2.2.2.1 18 1 rfl rfl (i := 0) (x := r.toInt64) (gk_in (show gk_v 0 0 from rfl) (by omega) (by omega)) d_hNext_8 (fun H locs hP hD hS => ?_)
    have hW : gk_W D vwCl (gk_T cI cL) s A H locs ((wd_P cI h tx cs w0 gv fa1 la1 va1 mn1 fa2 la2 va2 mn2 fa3 la3 va3 mn3 w1 w2 w3 w4 w5 w6 ln lo w7) ++ [(ho, .inl (cL.1, 1, .inr (.inl (vp_updL ot (0 : Int32).toNatClampNeg r.toInt64))))]) := ⟨hW.1, hP, hD, hS, hW.2.2.2.2⟩
    refine lv_goto (tgt := 15) hx hb d_hNext_9 (by decide) ?_
    refine lv_iconst (v := 0) hx hb d_hNext_15 (by decide) ?_
    exact X _ (w0, w1, w2, w3, w4, w5, w6, w7, (vp_updL ot (0 : Int32).toNatClampNeg r.toInt64)) H locs _ _ 16 ls (by rw [mm_hNext, ← hp]; rfl) hW d_hNext_16 rfl (Nat.le_of_ble_eq_true rfl) (Nat.le_of_ble_eq_true rfl)
def mm_hFit (x1 x2 : Int32) (tx cs rl fa2 la2 va2 : Nat → Int32) (mn2 : Int32) (fa3 la3 va3 : Nat → Int32) (mn3 b1 b2 b3 b4 b5 b6 ln lo kn : Int32) (ot : Nat → Int64) : Int32 × (Nat → Int32) × Int32 × Int32 × Int32 × Int32 × Int32 × Int32 × Int32 × (Nat → Int64) := match mm_fit x1 x2 tx cs rl fa2 la2 va2 mn2 fa3 la3 va3 mn3 b1 b2 b3 b4 b5 b6 ln lo kn with | (k, r, w0, w1, w2, w3, w4, w5, w6, w7) => if k = 0 then (0, w0, w1, w2, w3, w4, w5, w6, w7, vp_updL ot (0 : Int32).toNatClampNeg r.toInt64) else (if k = 3 then (1, w0, w1, w2, w3, w4, w5, w6, w7, ot) else (if k = 1 then (2, w0, w1, w2, w3, w4, w5, w6, w7, ot) else (0, w0, w1, w2, w3, w4, w5, w6, w7, ot)))
def rm_hFit : Room := { frames := 7, cells := 1, slots := 6, locals := 161 }
set_option maxHeartbeats 4000000 in
set_option maxRecDepth 100000 in
theorem c_hFit (l : Launch) (hst : l.stackTraces = false) (D : va_G) (cI : ClassId) (cL : ClassId × ClassId) (h : Nat → Nat) (tx cs rl gv fa1 la1 va1 : Nat → Int32) (mn1 : Int32) (fa2 la2 va2 : Nat → Int32) (mn2 : Int32) (fa3 la3 va3 : Nat → Int32) (mn3 b1 b2 b3 b4 b5 b6 ln lo kn : Int32) (ho : Nat) (ot : Nat → Int64) (x1 x2 : Int32) (z_kn : Int) (v_kn : gk_v kn z_kn) (z_ln : Int) (v_ln : gk_v ln z_ln) (z_mn2 : Int) (v_mn2 : gk_v mn2 z_mn2) (z_mn3 : Int) (v_mn3 : gk_v mn3 z_mn3) (hln : 0 ≤ z_ln ∧ z_ln ≤ 2000) (hkn : 0 ≤ z_kn ∧ z_kn ≤ z_ln) (hm2 : 0 ≤ z_mn2 ∧ z_mn2 ≤ 40) (hm3 : 0 ≤ z_mn3 ∧ z_mn3 ≤ 40) : gk_H l y_hFit (.codeWith y_hFit b_hFit 5 (some .int) [(0, 10, 13, 28), (0, 10, 17, 13)] :: wA) rm_hFit D vwCl (gk_T cI cL) [.ref (h 0), .int x1, .int x2, .ref ho] ((wd_P cI h tx cs rl gv fa1 la1 va1 mn1 fa2 la2 va2 mn2 fa3 la3 va3 mn3 b1 b2 b3 b4 b5 b6 ln lo kn) ++ [(ho, .inl (cL.1, 1, .inr (.inl ot)))]) (fun (r : Int32) (u : (Nat → Int32) × Int32 × Int32 × Int32 × Int32 × Int32 × Int32 × Int32 × (Nat → Int64)) => (r, u) = mm_hFit x1 x2 tx cs rl fa2 la2 va2 mn2 fa3 la3 va3 mn3 b1 b2 b3 b4 b5 b6 ln lo kn ot) (fun u => ((wd_P cI h tx cs u.1 gv fa1 la1 va1 mn1 fa2 la2 va2 mn2 fa3 la3 va3 mn3 u.2.1 u.2.2.1 u.2.2.2.1 u.2.2.2.2.1 u.2.2.2.2.2.1 u.2.2.2.2.2.2.1 ln lo u.2.2.2.2.2.2.2.1) ++ [(ho, .inl (cL.1, 1, .inr (.inl u.2.2.2.2.2.2.2.2)))])) 1 6 := by
  refine gk_H.of (by decide) (Nat.le_of_ble_eq_true rfl) ?_
  intro p e s m below meth c A ls Q H locs hx hb hml hown hts htab hF hW hl X
  have hl : lv_has ls 5 [(0, .ref (h 0)), (1, .int x1), (2, .int x2), (3, .ref ho)] := hl
  refine lv_aload_n hx hb d_hFit_0 rfl (lv_at hl 3 rfl) ?_
  refine lv_iconst (v := 0) hx hb d_hFit_1 (by decide) ?_
  refine lv_aload_n hx hb d_hFit_2 rfl (lv_at hl 0 rfl) ?_
  refine lv_iload_n hx hb d_hFit_3 rfl (lv_at hl 1 rfl) ?_
  refine lv_iload_n hx hb d_hFit_4 rfl (lv_at hl 2 rfl) ?_
  refine gx_goI (wr := [(ho, .inl (cL.1, 1, .inr (.inl ot)))]) hW [0, 1, 2, 3, 4, 5, 6, 7, 8, 9, 10, 11, 12, 13, 14, 15, 16, 17] [18] rfl rfl (by decide) (by decide) (vx_runV (As := [.int x1, .int x2]) (rest := [.int 0, .ref ho]) ⟨hx, hb, hml, hown, hts⟩ (c_fit l hst D cI cL h tx cs rl gv fa1 la1 va1 mn1 fa2 la2 va2 mn2 fa3 la3 va3 mn3 b1 b2 b3 b4 b5 b6 ln lo kn x1 x2 z_kn v_kn z_ln v_ln z_mn2 v_mn2 z_mn3 v_mn3 hln hkn hm2 hm3 _) (gk_cwV hts w_286 w_287 w_288 w_3 k_fit rfl e_fit rfl rfl ⟨Nat.le_of_ble_eq_true rfl, Nat.le_of_ble_eq_true rfl⟩) (gx_preV hW hF [0, 1, 2, 3, 4, 5, 6, 7, 8, 9, 10, 11, 12, 13, 14, 15, 16, 17] rfl rfl rfl rfl) rfl rfl hl.1 rfl (lv_room (Nat.le_of_ble_eq_true rfl)) d_hFit_5 ⟨Nat.le_of_ble_eq_true rfl, Nat.le_of_ble_eq_true rfl⟩) (fun E ce q u H locs hp hW hce hcv hcl => ?_) (fun r u H locs hp hW => ?_)
  · skip
    obtain ⟨w0, w1, w2, w3, w4, w5, w6, w7⟩ := u
    have hW : gk_W D vwCl (gk_T cI cL) s A H locs ((wd_P cI h tx cs w0 gv fa1 la1 va1 mn1 fa2 la2 va2 mn2 fa3 la3 va3 mn3 w1 w2 w3 w4 w5 w6 ln lo w7) ++ [(ho, .inl (cL.1, 1, .inr (.inl ot)))]) := hW.re [1, 2, 3, 4, 5, 6, 7, 8, 9, 10, 11, 12, 13, 14, 15, 16, 17, 18, 0] (by decide) rfl
    rcases hp with ⟨rfl, hp⟩ | ⟨rfl, hp⟩
    · refine vx_catch (own := "BreakPlacesLaw") (name := "java/lang/IndexOutOfBoundsException") hown [] ⟨0, 10, 13, 28⟩ [⟨0, 10, 17, 13⟩] (htab.trans rfl) (fun z hz => absurd hz List.not_mem_nil) (by decide) (by decide) (hts _ w_269) (hW.2.2.2.2.2.use w_270) hce hcv hcl ?_
      refine lv_astore (lv' := [(4, .ref q), (0, .ref (h 0)), (1, .int x1), (2, .int x2), (3, .ref ho)]) hx hb d_hFit_13 hl (by decide) rfl (fun ls hl => ?_)
      refine lv_iconst (v := 1) hx hb d_hFit_15 (by decide) ?_
      exact X _ (w0, w1, w2, w3, w4, w5, w6, w7, ot) H locs _ _ 16 ls (by rw [mm_hFit, ← hp]; rfl) hW d_hFit_16 rfl (Nat.le_of_ble_eq_true rfl) (Nat.le_of_ble_eq_true rfl)
    · have hps : ∀ z ∈ ([⟨0, 10, 13, 28⟩] : List ExceptionTableEntry), covers z 5 = false ∨ (z.catchType ≠ 0 ∧ ∃ nm : String, (Cond.classLink "BreakPlacesLaw" z.catchType nm).before [.ref (h 0), .int x1, .int x2, .ref ho].toArray s = true ∧ va_Nc "java/lang/IllegalArgumentException" nm s) := by
        intro z hz
        rcases List.mem_cons.mp hz with rfl | hz
        · exact Or.inr ⟨by decide, _, hts _ w_269, hW.2.2.2.2.2.2.2.1⟩
        exact absurd hz List.not_mem_nil
      refine vx_catch (own := "BreakPlacesLaw") (name := "java/lang/IllegalArgumentException") hown [⟨0, 10, 13, 28⟩] ⟨0, 10, 17, 13⟩ [] (htab.trans rfl) hps (by decide) (by decide) (hts _ w_256) (hW.2.2.2.2.2.use w_258) hce hcv hcl ?_
      refine lv_astore (lv' := [(4, .ref q), (0, .ref (h 0)), (1, .int x1), (2, .int x2), (3, .ref ho)]) hx hb d_hFit_17 hl (by decide) rfl (fun ls hl => ?_)
      refine lv_iconst (v := 2) hx hb d_hFit_19 (by decide) ?_
      exact X _ (w0, w1, w2, w3, w4, w5, w6, w7, ot) H locs _ _ 20 ls (by rw [mm_hFit, ← hp]; rfl) hW d_hFit_20 rfl (Nat.le_of_ble_eq_true rfl) (Nat.le_of_ble_eq_true rfl)
  · skip
    obtain ⟨w0, w1, w2, w3, w4, w5, w6, w7⟩ := u
    have hW : gk_W D vwCl (gk_T cI cL) s A H locs ((wd_P cI h tx cs w0 gv fa1 la1 va1 mn1 fa2 la2 va2 mn2 fa3 la3 va3 mn3 w1 w2 w3 w4 w5 w6 ln lo w7) ++ [(ho, .inl (cL.1, 1, .inr (.inl ot)))]) := hW.re [1, 2, 3, 4, 5, 6, 7, 8, 9, 10, 11, 12, 13, 14, 15, 16, 17, 18, 0] (by decide) rfl
    refine lv_i2l (v := r.toInt64) hx hb d_hFit_8 rfl ?_
    refine va_last hx hb hW.1 hW.2.1 hW.2.2.1 hW.2.2.2.1 18 1 rfl rfl (i := 0) (x := r.toInt64) (gk_in (show gk_v 0 0 from rfl) (by omega) (by omega)) d_hFit_9 (fun H locs hP hD hS => ?_)
    have hW : gk_W D vwCl (gk_T cI cL) s A H locs ((wd_P cI h tx cs w0 gv fa1 la1 va1 mn1 fa2 la2 va2 mn2 fa3 la3 va3 mn3 w1 w2 w3 w4 w5 w6 ln lo w7) ++ [(ho, .inl (cL.1, 1, .inr (.inl (vp_updL ot (0 : Int32).toNatClampNeg r.toInt64))))]) := ⟨hW.1, hP, hD, hS, hW.2.2.2.2⟩
    refine lv_goto (tgt := 21) hx hb d_hFit_10 (by decide) ?_
    refine lv_iconst (v := 0) hx hb d_hFit_21 (by decide) ?_
    exact X _ (w0, w1, w2, w3, w4, w5, w6, w7, (vp_updL ot (0 : Int32).toNatClampNeg r.toInt64)) H locs _ _ 22 ls (by rw [mm_hFit, ← hp]; rfl) hW d_hFit_22 rfl (Nat.le_of_ble_eq_true rfl) (Nat.le_of_ble_eq_true rfl)
