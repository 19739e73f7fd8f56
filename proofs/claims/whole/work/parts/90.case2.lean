set_option maxHeartbeats 4000000 in
set_option maxRecDepth 100000 in
theorem lc_At (l : Launch) (hst : l.stackTraces = false) (p : Program) (e : Env) (s : State) (m : MethodId) (below : List Frame) (meth : Method) (c : Code) (A : Nat → Prop) (Q : State → Prop) (b L : Nat) (xs : Nat → Int32) (D : va_G) (cI : ClassId) (cL : ClassId × ClassId) (h g : Nat → Nat) (ho : Nat) (tx cs rl gv fa1 la1 va1 : Nat → Int32) (mn1 : Int32) (fa2 la2 va2 : Nat → Int32) (mn2 : Int32) (fa3 la3 va3 : Nat → Int32) (mn3 b1 b2 b3 b4 b5 b6 ln lo kn fl rn : Int32) (fs lt kk mk mf ml ma : Nat → Int32) (il sz : Int32) (tt fh : Nat → Int32) (hd : Int32) (ot : Nat → Int64) (x4 : Int32) (z_x4 : Int) (v_x4 : gk_v x4 z_x4) (hz : 0 ≤ z_x4 ∧ z_x4 + 6 ≤ (L : Int)) (hL : L ≤ 3072)
    (hx : p.tables.exec = Jvm.exec) (hb : c.code = code) (hml : c.maxLocals = 7) (hown : s.vm.findClass "BreakPlacesLaw" = some m.cls) (hts : ∀ w ∈ wA, w.before #[Value.ref b] s = true) (hX : va_X b L xs s s.heap) (hbl : b < s.heap.size) (hbA : ¬ A b) (hF : gx_F A s s.heap) (hI : lw_I tx cs rl fa1 la1 va1 mn1 fa2 la2 va2 mn2 fa3 la3 va3 mn3 b1 b2 b3 b4 b5 b6 ln lo kn rn fs lt kk mk mf ml ma il sz tt) (H : Heap) (locs : List Loc) (cells slots : Nat) (hcs : cells + 1 ≤ 600000 ∧ slots + 6 ≤ 7200000) (ls : Array Slot)
    (hW : gk_W D vwCl (gk_T cI cL) s A H locs (wd_L cI cL h g ho tx cs rl gv fa1 la1 va1 mn1 fa2 la2 va2 mn2 fa3 la3 va3 mn3 b1 b2 b3 b4 b5 b6 ln lo kn fl rn fs lt kk mk mf ml ma il sz tt fh hd ot)) (hl : lv_has ls 7 [(0, .ref b), (1, .ref (h 0)), (2, .ref (g 0)), (3, .ref ho), (4, .int x4)])
    (KE : ∀ (tx cs rl gv fa1 la1 va1 : Nat → Int32) (mn1 : Int32) (fa2 la2 va2 : Nat → Int32) (mn2 : Int32) (fa3 la3 va3 : Nat → Int32) (mn3 b1 b2 b3 b4 b5 b6 ln lo kn fl rn : Int32) (fs lt kk mk mf ml ma : Nat → Int32) (il sz : Int32) (tt fh : Nat → Int32) (hd : Int32) (ot : Nat → Int64) (H : Heap) (locs : List Loc) (ls : Array Slot), lw_I tx cs rl fa1 la1 va1 mn1 fa2 la2 va2 mn2 fa3 la3 va3 mn3 b1 b2 b3 b4 b5 b6 ln lo kn rn fs lt kk mk mf ml ma il sz tt → gk_W D vwCl (gk_T cI cL) s A H locs (wd_L cI cL h g ho tx cs rl gv fa1 la1 va1 mn1 fa2 la2 va2 mn2 fa3 la3 va3 mn3 b1 b2 b3 b4 b5 b6 ln lo kn fl rn fs lt kk mk mf ml ma il sz tt fh hd ot) → lv_has ls 7 [(0, .ref b), (1, .ref (h 0)), (2, .ref (g 0)), (3, .ref ho), (4, .int x4)] → W p l e room_1 s m #[Value.ref b] below meth c H locs (cells + 1) (slots + 6) Q (F0 m 891 ls [])) : W p l e room_1 s m #[Value.ref b] below meth c H locs cells slots Q (F0 m 518 ls []) := by
  obtain ⟨z_ln, z_kn, z_mn1, z_mn2, z_mn3, z_rn, z_sz, ⟨v_ln, v_kn, v_mn1, v_mn2, v_mn3, v_rn, v_sz⟩, hln, hkn, hm1, hm2, hm3, hrn, hsz, hmk, hma, hlo, hil⟩ := pe_pre hI
  refine lv_aload_n hx hb d_law_518 rfl (lv_at hl 1 rfl) ?_
  refine lv_aload_n hx hb d_law_519 rfl (lv_at hl 0 rfl) ?_
  refine lv_iload hx hb d_law_520 (lv_at hl 4 rfl) ?_
  refine lv_iconst (v := 1) hx hb d_law_522 (by decide) ?_
  refine lv_iadd hx hb d_law_523 ?_
  obtain ⟨zt_1, vt_1, et_1⟩ := gk_add v_x4 (show gk_v 1 1 from rfl) (by omega) (by omega)
  refine va_sld hx hb hX hbl hbA hW.2.2.2.1 (i := x4 + 1) (gk_in vt_1 (by omega) (by omega)) d_law_524 ?_
  refine lv_aload_n hx hb d_law_525 rfl (lv_at hl 3 rfl) ?_
  refine gk_goI (wr := [((g 0), .inr (3, [.int fl, .int rn, .ref (g 1), .ref (g 2), .ref (g 3), .ref (g 4), .ref (g 5), .ref (g 6), .ref (g 7), .int il, .int sz, .ref (g 8), .ref (g 9), .int hd])), ((g 1), .inl (cI, 100, .inl fs)), ((g 2), .inl (cI, 100, .inl lt)), ((g 3), .inl (cI, 100, .inl kk)), ((g 4), .inl (cI, 2, .inl mk)), ((g 5), .inl (cI, 80, .inl mf)), ((g 6), .inl (cI, 80, .inl ml)), ((g 7), .inl (cL.2, 80, .inl ma)), ((g 8), .inl (cI, 2000, .inl tt)), ((g 9), .inl (cI, 5, .inl fh))]) hW [0, 1, 2, 3, 4, 5, 6, 7, 8, 9, 10, 11, 12, 13, 14, 15, 16, 17, 28] [18, 19, 20, 21, 22, 23, 24, 25, 26, 27] rfl rfl (by decide) (by decide) (vx_runSW (As := [.ref (h 0), .int (xs ((x4 + 1).toNatClampNeg)), .ref ho]) (rest := []) ⟨hx, hb, hml, hown, hts⟩ (c_hAt l hst D cI cL h tx cs rl gv fa1 la1 va1 mn1 fa2 la2 va2 mn2 fa3 la3 va3 mn3 b1 b2 b3 b4 b5 b6 ln lo kn ho ot (xs ((x4 + 1).toNatClampNeg)) z_ln v_ln hln _) (gk_cwSW hts w_325 w_326 w_290 kw_hAt e_hAt rfl rfl ⟨Nat.le_of_ble_eq_true rfl, Nat.le_of_ble_eq_true rfl⟩) (gx_pre hW (hF.kept hW.2.2.2.1.2.1) [0, 1, 2, 3, 4, 5, 6, 7, 8, 9, 10, 11, 12, 13, 14, 15, 16, 17, 28] rfl rfl) rfl rfl hl.1 rfl (lv_room (Nat.le_of_ble_eq_true rfl)) d_law_526 ⟨by show _ ≤ 601024; omega, by show _ ≤ 7293034; omega⟩) (fun r_2 u H locs p_4 hW => ?_)
  obtain ⟨u_3, rfl⟩ : ∃ z, z = u := ⟨u, rfl⟩
  have hW : gk_W D vwCl (gk_T cI cL) s A H locs (wd_L cI cL h g ho tx cs rl gv fa1 la1 va1 mn1 fa2 la2 va2 mn2 fa3 la3 va3 mn3 b1 b2 b3 b4 b5 b6 ln lo kn fl rn fs lt kk mk mf ml ma il sz tt fh hd u_3) := hW.re [10, 11, 12, 13, 14, 15, 16, 17, 18, 19, 20, 21, 22, 23, 24, 25, 26, 27, 0, 1, 2, 3, 4, 5, 6, 7, 8, 9, 28] (by decide) rfl
  refine lv_istore (lv' := [(5, .int r_2), (0, .ref b), (1, .ref (h 0)), (2, .ref (g 0)), (3, .ref ho), (4, .int x4)]) hx hb d_law_529 hl (by decide) rfl (fun ls hl => ?_)
  refine lv_aload_n hx hb d_law_531 rfl (lv_at hl 3 rfl) ?_
  refine lv_aload_n hx hb d_law_532 rfl (lv_at hl 1 rfl) ?_
  refine lv_iload hx hb d_law_533 (lv_at hl 5 rfl) ?_
  refine lv_iconst (v := 1) hx hb d_law_535 (by decide) ?_
  refine lv_iadd hx hb d_law_536 ?_
  obtain ⟨zt_5, vt_5, et_5⟩ := gk_add v_x4 (show gk_v 1 1 from rfl) (by omega) (by omega)
  refine va_sld hx hb hX hbl hbA hW.2.2.2.1 (i := x4 + 1) (gk_in vt_5 (by omega) (by omega)) d_law_537 ?_
  refine gk_goI (wr := [((h 0), .inr (0, [.ref (h 1), .ref (h 2), .ref (h 3), .ref (h 4), .ref (h 5), .ref (h 9), .ref (h 13), .ref (h 17), .int ln, .int lo, .int kn])), ((h 1), .inl (cI, 2000, .inl tx)), ((h 2), .inl (cI, 2000, .inl cs)), ((h 3), .inl (cI, 2000, .inl rl)), ((h 4), .inl (cI, 5, .inl gv)), ((h 5), .inr (1, [.ref (h 6), .ref (h 7), .ref (h 8), .int mn1])), ((h 6), .inl (cI, 100, .inl fa1)), ((h 7), .inl (cI, 100, .inl la1)), ((h 8), .inl (cI, 100, .inl va1)), ((h 9), .inr (1, [.ref (h 10), .ref (h 11), .ref (h 12), .int mn2])), ((h 10), .inl (cI, 40, .inl fa2)), ((h 11), .inl (cI, 40, .inl la2)), ((h 12), .inl (cI, 40, .inl va2)), ((h 13), .inr (1, [.ref (h 14), .ref (h 15), .ref (h 16), .int mn3])), ((h 14), .inl (cI, 40, .inl fa3)), ((h 15), .inl (cI, 40, .inl la3)), ((h 16), .inl (cI, 40, .inl va3)), ((h 17), .inr (2, [.int b1, .int b2, .int b3, .int b4, .int b5, .int b6])), (ho, .inl (cL.1, 1, .inr (.inl u_3)))]) hW [18, 19, 20, 21, 22, 23, 24, 25, 26, 27] [0, 1, 2, 3, 4, 5, 6, 7, 8, 9, 10, 11, 12, 13, 14, 15, 16, 17, 28] rfl rfl (by decide) (by decide) (va_runV (As := [.int (xs ((x4 + 1).toNatClampNeg))]) (rest := []) ⟨hx, hb, hml, hown, hts⟩ (c_mAt l D cI cL cL g fl rn fs lt kk mk mf ml ma il sz tt fh hd (xs ((x4 + 1).toNatClampNeg)) z_sz v_sz hsz _) (gk_cwV hts w_327 w_328 w_329 w_145 k_mAt rfl e_mAt rfl rfl ⟨Nat.le_of_ble_eq_true rfl, Nat.le_of_ble_eq_true rfl⟩) (gk_preV hW [18, 19, 20, 21, 22, 23, 24, 25, 26, 27] rfl rfl rfl rfl) rfl rfl hl.1 rfl (lv_room (Nat.le_of_ble_eq_true rfl)) d_law_538 ⟨by show _ ≤ 601024; omega, by show _ ≤ 7293034; omega⟩) (fun r_6 u H locs p_8 hW => ?_)
  obtain ⟨u_7, rfl⟩ : ∃ z, z = u := ⟨u, rfl⟩
  have hW : gk_W D vwCl (gk_T cI cL) s A H locs (wd_L cI cL h g ho tx cs rl gv fa1 la1 va1 mn1 fa2 la2 va2 mn2 fa3 la3 va3 mn3 b1 b2 b3 b4 b5 b6 ln lo kn u_7 rn fs lt kk mk mf ml ma il sz tt fh hd u_3) := hW.re [0, 1, 2, 3, 4, 5, 6, 7, 8, 9, 10, 11, 12, 13, 14, 15, 16, 17, 19, 20, 21, 22, 23, 24, 25, 26, 27, 28, 18] (by decide) rfl
  obtain ⟨eF, eO, hI⟩ := pe_At hI p_4 p_8
  refine lv_istore (lv' := [(6, .int r_6), (5, .int r_2), (0, .ref b), (1, .ref (h 0)), (2, .ref (g 0)), (3, .ref ho), (4, .int x4)]) hx hb d_law_541 hl (by decide) rfl (fun ls hl => ?_)
  refine lv_aload_n hx hb d_law_543 rfl (lv_at hl 4 rfl) ?_
  refine gk_goR hW [18, 19, 20, 21, 22, 23, 24, 25, 26, 27] rfl (va_runV (As := []) (rest := []) ⟨hx, hb, hml, hown, hts⟩ (c_mThrown l D cI cL cL g u_7 rn fs lt kk mk mf ml ma il sz tt fh hd _) (gk_cwV hts w_295 w_296 w_297 w_145 k_mThrown rfl e_mThrown rfl rfl ⟨Nat.le_of_ble_eq_true rfl, Nat.le_of_ble_eq_true rfl⟩) (gk_preV hW [18, 19, 20, 21, 22, 23, 24, 25, 26, 27] rfl rfl rfl rfl) rfl rfl hl.1 rfl (lv_room (Nat.le_of_ble_eq_true rfl)) d_law_544 ⟨by show _ ≤ 601024; omega, by show _ ≤ 7293034; omega⟩) (fun H locs hW => ?_)
  refine lv_iload hx hb d_law_547 (lv_at hl 1 rfl) ?_
  refine lv_icmp_eq (tgt := 554) hx hb d_law_549 (by decide) (fun c_9 => ?_) (fun c_9 => absurd eF c_9)
  refine lv_iload hx hb d_law_554 (lv_at hl 1 rfl) ?_
  refine lv_if_ne (tgt := 571) hx hb d_law_556 (by decide) (fun c_10 => ?_) (fun c_10 => ?_)
  · skip
    refine lv_goto (tgt := 891) hx hb d_law_571 (by decide) ?_
    exact KE tx cs rl gv fa1 la1 va1 mn1 fa2 la2 va2 mn2 fa3 la3 va3 mn3 b1 b2 b3 b4 b5 b6 ln lo kn u_7 rn fs lt kk mk mf ml ma il sz tt fh hd u_3 H locs ls hI hW (lv_sub hl [2, 3, 4, 5, 6] rfl)
  · skip
    refine lv_aload_n hx hb d_law_559 rfl (lv_at hl 5 rfl) ?_
    refine lv_iconst (v := 0) hx hb d_law_560 (by decide) ?_
    refine va_lald hx hb hW.1 hW.2.1 28 1 rfl rfl (i := 0) (gk_in (show gk_v 0 0 from rfl) (by omega) (by omega)) d_law_561 ?_
    refine lv_iload hx hb d_law_562 (lv_at hl 0 rfl) ?_
    refine lv_i2l (v := r_6.toInt64) hx hb d_law_564 rfl ?_
    refine W.lcmp hx hb d_law_565 ?_
    refine lv_if_eq (tgt := 571) hx hb d_law_566 (by decide) (fun c_11 => ?_) (fun c_11 => absurd (eO c_10) c_11)
    refine lv_goto (tgt := 891) hx hb d_law_571 (by decide) ?_
    exact KE tx cs rl gv fa1 la1 va1 mn1 fa2 la2 va2 mn2 fa3 la3 va3 mn3 b1 b2 b3 b4 b5 b6 ln lo kn u_7 rn fs lt kk mk mf ml ma il sz tt fh hd u_3 H locs ls hI hW (lv_sub hl [2, 3, 4, 5, 6] rfl)
set_option maxHeartbeats 4000000 in
set_option maxRecDepth 100000 in
theorem lc_Kind (l : Launch) (hst : l.stackTraces = false) (p : Program) (e : Env) (s : State) (m : MethodId) (below : List Frame) (meth : Method) (c : Code) (A : Nat → Prop) (Q : State → Prop) (b L : Nat) (xs : Nat → Int32) (D : va_G) (cI : ClassId) (cL : ClassId × ClassId) (h g : Nat → Nat) (ho : Nat) (tx cs rl gv fa1 la1 va1 : Nat → Int32) (mn1 : Int32) (fa2 la2 va2 : Nat → Int32) (mn2 : Int32) (fa3 la3 va3 : Nat → Int32) (mn3 b1 b2 b3 b4 b5 b6 ln lo kn fl rn : Int32) (fs lt kk mk mf ml ma : Nat → Int32) (il sz : Int32) (tt fh : Nat → Int32) (hd : Int32) (ot : Nat → Int64) (x4 : Int32) (z_x4 : Int) (v_x4 : gk_v x4 z_x4) (hz : 0 ≤ z_x4 ∧ z_x4 + 6 ≤ (L : Int)) (hL : L ≤ 3072)
    (hx : p.tables.exec = Jvm.exec) (hb : c.code = code) (hml : c.maxLocals = 7) (hown : s.vm.findClass "BreakPlacesLaw" = some m.cls) (hts : ∀ w ∈ wA, w.before #[Value.ref b] s = true) (hX : va_X b L xs s s.heap) (hbl : b < s.heap.size) (hbA : ¬ A b) (hF : gx_F A s s.heap) (hI : lw_I tx cs rl fa1 la1 va1 mn1 fa2 la2 va2 mn2 fa3 la3 va3 mn3 b1 b2 b3 b4 b5 b6 ln lo kn rn fs lt kk mk mf ml ma il sz tt) (H : Heap) (locs : List Loc) (cells slots : Nat) (hcs : cells + 1 ≤ 600000 ∧ slots + 6 ≤ 7200000) (ls : Array Slot)
    (hW : gk_W D vwCl (gk_T cI cL) s A H locs (wd_L cI cL h g ho tx cs rl gv fa1 la1 va1 mn1 fa2 la2 va2 mn2 fa3 la3 va3 mn3 b1 b2 b3 b4 b5 b6 ln lo kn fl rn fs lt kk mk mf ml ma il sz tt fh hd ot)) (hl : lv_has ls 7 [(0, .ref b), (1, .ref (h 0)), (2, .ref (g 0)), (3, .ref ho), (4, .int x4)])
    (KE : ∀ (tx cs rl gv fa1 la1 va1 : Nat → Int32) (mn1 : Int32) (fa2 la2 va2 : Nat → Int32) (mn2 : Int32) (fa3 la3 va3 : Nat → Int32) (mn3 b1 b2 b3 b4 b5 b6 ln lo kn fl rn : Int32) (fs lt kk mk mf ml ma : Nat → Int32) (il sz : Int32) (tt fh : Nat → Int32) (hd : Int32) (ot : Nat → Int64) (H : Heap) (locs : List Loc) (ls : Array Slot), lw_I tx cs rl fa1 la1 va1 mn1 fa2 la2 va2 mn2 fa3 la3 va3 mn3 b1 b2 b3 b4 b5 b6 ln lo kn rn fs lt kk mk mf ml ma il sz tt → gk_W D vwCl (gk_T cI cL) s A H locs (wd_L cI cL h g ho tx cs rl gv fa1 la1 va1 mn1 fa2 la2 va2 mn2 fa3 la3 va3 mn3 b1 b2 b3 b4 b5 b6 ln lo kn fl rn fs lt kk mk mf ml ma il sz tt fh hd ot) → lv_has ls 7 [(0, .ref b), (1, .ref (h 0)), (2, .ref (g 0)), (3, .ref ho), (4, .int x4)] → W p l e room_1 s m #[Value.ref b] below meth c H locs (cells + 1) (slots + 6) Q (F0 m 891 ls [])) : W p l e room_1 s m #[Value.ref b] below meth c H locs cells slots Q (F0 m 574 ls []) := by
  obtain ⟨z_ln, z_kn, z_mn1, z_mn2, z_mn3, z_rn, z_sz, ⟨v_ln, v_kn, v_mn1, v_mn2, v_mn3, v_rn, v_sz⟩, hln, hkn, hm1, hm2, hm3, hrn, hsz, hmk, hma, hlo, hil⟩ := pe_pre hI
  refine lv_aload_n hx hb d_law_574 rfl (lv_at hl 1 rfl) ?_
  refine lv_aload_n hx hb d_law_575 rfl (lv_at hl 0 rfl) ?_
  refine lv_iload hx hb d_law_576 (lv_at hl 4 rfl) ?_
  refine lv_iconst (v := 1) hx hb d_law_578 (by decide) ?_
  refine lv_iadd hx hb d_law_579 ?_
  obtain ⟨zt_1, vt_1, et_1⟩ := gk_add v_x4 (show gk_v 1 1 from rfl) (by omega) (by omega)
  refine va_sld hx hb hX hbl hbA hW.2.2.2.1 (i := x4 + 1) (gk_in vt_1 (by omega) (by omega)) d_law_580 ?_
  refine lv_aload_n hx hb d_law_581 rfl (lv_at hl 3 rfl) ?_
  refine gk_goI (wr := [((g 0), .inr (3, [.int fl, .int rn, .ref (g 1), .ref (g 2), .ref (g 3), .ref (g 4), .ref (g 5), .ref (g 6), .ref (g 7), .int il, .int sz, .ref (g 8), .ref (g 9), .int hd])), ((g 1), .inl (cI, 100, .inl fs)), ((g 2), .inl (cI, 100, .inl lt)), ((g 3), .inl (cI, 100, .inl kk)), ((g 4), .inl (cI, 2, .inl mk)), ((g 5), .inl (cI, 80, .inl mf)), ((g 6), .inl (cI, 80, .inl ml)), ((g 7), .inl (cL.2, 80, .inl ma)), ((g 8), .inl (cI, 2000, .inl tt)), ((g 9), .inl (cI, 5, .inl fh))]) hW [0, 1, 2, 3, 4, 5, 6, 7, 8, 9, 10, 11, 12, 13, 14, 15, 16, 17, 28] [18, 19, 20, 21, 22, 23, 24, 25, 26, 27] rfl rfl (by decide) (by decide) (vx_runSW (As := [.ref (h 0), .int (xs ((x4 + 1).toNatClampNeg)), .ref ho]) (rest := []) ⟨hx, hb, hml, hown, hts⟩ (c_hKind l hst D cI cL h tx cs rl gv fa1 la1 va1 mn1 fa2 la2 va2 mn2 fa3 la3 va3 mn3 b1 b2 b3 b4 b5 b6 ln lo kn ho ot (xs ((x4 + 1).toNatClampNeg)) z_ln v_ln hln _) (gk_cwSW hts w_330 w_331 w_290 kw_hKind e_hKind rfl rfl ⟨Nat.le_of_ble_eq_true rfl, Nat.le_of_ble_eq_true rfl⟩) (gx_pre hW (hF.kept hW.2.2.2.1.2.1) [0, 1, 2, 3, 4, 5, 6, 7, 8, 9, 10, 11, 12, 13, 14, 15, 16, 17, 28] rfl rfl) rfl rfl hl.1 rfl (lv_room (Nat.le_of_ble_eq_true rfl)) d_law_582 ⟨by show _ ≤ 601024; omega, by show _ ≤ 7293034; omega⟩) (fun r_2 u H locs p_4 hW => ?_)
  obtain ⟨u_3, rfl⟩ : ∃ z, z = u := ⟨u, rfl⟩
  have hW : gk_W D vwCl (gk_T cI cL) s A H locs (wd_L cI cL h g ho tx cs rl gv fa1 la1 va1 mn1 fa2 la2 va2 mn2 fa3 la3 va3 mn3 b1 b2 b3 b4 b5 b6 ln lo kn fl rn fs lt kk mk mf ml ma il sz tt fh hd u_3) := hW.re [10, 11, 12, 13, 14, 15, 16, 17, 18, 19, 20, 21, 22, 23, 24, 25, 26, 27, 0, 1, 2, 3, 4, 5, 6, 7, 8, 9, 28] (by decide) rfl
  refine lv_istore (lv' := [(5, .int r_2), (0, .ref b), (1, .ref (h 0)), (2, .ref (g 0)), (3, .ref ho), (4, .int x4)]) hx hb d_law_585 hl (by decide) rfl (fun ls hl => ?_)
  refine lv_aload_n hx hb d_law_587 rfl (lv_at hl 3 rfl) ?_
  refine lv_aload_n hx hb d_law_588 rfl (lv_at hl 1 rfl) ?_
  refine lv_iload hx hb d_law_589 (lv_at hl 5 rfl) ?_
  refine lv_iconst (v := 1) hx hb d_law_591 (by decide) ?_
  refine lv_iadd hx hb d_law_592 ?_
  obtain ⟨zt_5, vt_5, et_5⟩ := gk_add v_x4 (show gk_v 1 1 from rfl) (by omega) (by omega)
  refine va_sld hx hb hX hbl hbA hW.2.2.2.1 (i := x4 + 1) (gk_in vt_5 (by omega) (by omega)) d_law_593 ?_
  refine gk_goI (wr := [((h 0), .inr (0, [.ref (h 1), .ref (h 2), .ref (h 3), .ref (h 4), .ref (h 5), .ref (h 9), .ref (h 13), .ref (h 17), .int ln, .int lo, .int kn])), ((h 1), .inl (cI, 2000, .inl tx)), ((h 2), .inl (cI, 2000, .inl cs)), ((h 3), .inl (cI, 2000, .inl rl)), ((h 4), .inl (cI, 5, .inl gv)), ((h 5), .inr (1, [.ref (h 6), .ref (h 7), .ref (h 8), .int mn1])), ((h 6), .inl (cI, 100, .inl fa1)), ((h 7), .inl (cI, 100, .inl la1)), ((h 8), .inl (cI, 100, .inl va1)), ((h 9), .inr (1, [.ref (h 10), .ref (h 11), .ref (h 12), .int mn2])), ((h 10), .inl (cI, 40, .inl fa2)), ((h 11), .inl (cI, 40, .inl la2)), ((h 12), .inl (cI, 40, .inl va2)), ((h 13), .inr (1, [.ref (h 14), .ref (h 15), .ref (h 16), .int mn3])), ((h 14), .inl (cI, 40, .inl fa3)), ((h 15), .inl (cI, 40, .inl la3)), ((h 16), .inl (cI, 40, .inl va3)), ((h 17), .inr (2, [.int b1, .int b2, .int b3, .int b4, .int b5, .int b6])), (ho, .inl (cL.1, 1, .inr (.inl u_3)))]) hW [18, 19, 20, 21, 22, 23, 24, 25, 26, 27] [0, 1, 2, 3, 4, 5, 6, 7, 8, 9, 10, 11, 12, 13, 14, 15, 16, 17, 28] rfl rfl (by decide) (by decide) (va_runV (As := [.int (xs ((x4 + 1).toNatClampNeg))]) (rest := []) ⟨hx, hb, hml, hown, hts⟩ (c_mKind l D cI cL cL g fl rn fs lt kk mk mf ml ma il sz tt fh hd (xs ((x4 + 1).toNatClampNeg)) z_rn v_rn z_sz v_sz hsz hrn _) (gk_cwV hts w_332 w_333 w_334 w_145 k_mKind rfl e_mKind rfl rfl ⟨Nat.le_of_ble_eq_true rfl, Nat.le_of_ble_eq_true rfl⟩) (gk_preV hW [18, 19, 20, 21, 22, 23, 24, 25, 26, 27] rfl rfl rfl rfl) rfl rfl hl.1 rfl (lv_room (Nat.le_of_ble_eq_true rfl)) d_law_594 ⟨by show _ ≤ 601024; omega, by show _ ≤ 7293034; omega⟩) (fun r_6 u H locs p_8 hW => ?_)
  obtain ⟨u_7, rfl⟩ : ∃ z, z = u := ⟨u, rfl⟩
  have hW : gk_W D vwCl (gk_T cI cL) s A H locs (wd_L cI cL h g ho tx cs rl gv fa1 la1 va1 mn1 fa2 la2 va2 mn2 fa3 la3 va3 mn3 b1 b2 b3 b4 b5 b6 ln lo kn u_7 rn fs lt kk mk mf ml ma il sz tt fh hd u_3) := hW.re [0, 1, 2, 3, 4, 5, 6, 7, 8, 9, 10, 11, 12, 13, 14, 15, 16, 17, 19, 20, 21, 22, 23, 24, 25, 26, 27, 28, 18] (by decide) rfl
  obtain ⟨eF, eO, hI⟩ := pe_Kind hI p_4 p_8
  refine lv_istore (lv' := [(6, .int r_6), (5, .int r_2), (0, .ref b), (1, .ref (h 0)), (2, .ref (g 0)), (3, .ref ho), (4, .int x4)]) hx hb d_law_597 hl (by decide) rfl (fun ls hl => ?_)
  refine lv_aload_n hx hb d_law_599 rfl (lv_at hl 4 rfl) ?_
  refine gk_goR hW [18, 19, 20, 21, 22, 23, 24, 25, 26, 27] rfl (va_runV (As := []) (rest := []) ⟨hx, hb, hml, hown, hts⟩ (c_mThrown l D cI cL cL g u_7 rn fs lt kk mk mf ml ma il sz tt fh hd _) (gk_cwV hts w_295 w_296 w_297 w_145 k_mThrown rfl e_mThrown rfl rfl ⟨Nat.le_of_ble_eq_true rfl, Nat.le_of_ble_eq_true rfl⟩) (gk_preV hW [18, 19, 20, 21, 22, 23, 24, 25, 26, 27] rfl rfl rfl rfl) rfl rfl hl.1 rfl (lv_room (Nat.le_of_ble_eq_true rfl)) d_law_600 ⟨by show _ ≤ 601024; omega, by show _ ≤ 7293034; omega⟩) (fun H locs hW => ?_)
  refine lv_iload hx hb d_law_603 (lv_at hl 1 rfl) ?_
  refine lv_icmp_eq (tgt := 610) hx hb d_law_605 (by decide) (fun c_9 => ?_) (fun c_9 => absurd eF c_9)
  refine lv_iload hx hb d_law_610 (lv_at hl 1 rfl) ?_
  refine lv_if_ne (tgt := 627) hx hb d_law_612 (by decide) (fun c_10 => ?_) (fun c_10 => ?_)
  · skip
    refine lv_goto (tgt := 891) hx hb d_law_627 (by decide) ?_
    exact KE tx cs rl gv fa1 la1 va1 mn1 fa2 la2 va2 mn2 fa3 la3 va3 mn3 b1 b2 b3 b4 b5 b6 ln lo kn u_7 rn fs lt kk mk mf ml ma il sz tt fh hd u_3 H locs ls hI hW (lv_sub hl [2, 3, 4, 5, 6] rfl)
  · skip
    refine lv_aload_n hx hb d_law_615 rfl (lv_at hl 5 rfl) ?_
    refine lv_iconst (v := 0) hx hb d_law_616 (by decide) ?_
    refine va_lald hx hb hW.1 hW.2.1 28 1 rfl rfl (i := 0) (gk_in (show gk_v 0 0 from rfl) (by omega) (by omega)) d_law_617 ?_
    refine lv_iload hx hb d_law_618 (lv_at hl 0 rfl) ?_
    refine lv_i2l (v := r_6.toInt64) hx hb d_law_620 rfl ?_
    refine W.lcmp hx hb d_law_621 ?_
    refine lv_if_eq (tgt := 627) hx hb d_law_622 (by decide) (fun c_11 => ?_) (fun c_11 => absurd (eO c_10) c_11)
    refine lv_goto (tgt := 891) hx hb d_law_627 (by decide) ?_
    exact KE tx cs rl gv fa1 la1 va1 mn1 fa2 la2 va2 mn2 fa3 la3 va3 mn3 b1 b2 b3 b4 b5 b6 ln lo kn u_7 rn fs lt kk mk mf ml ma il sz tt fh hd u_3 H locs ls hI hW (lv_sub hl [2, 3, 4, 5, 6] rfl)
set_option maxHeartbeats 4000000 in
set_option maxRecDepth 100000 in
theorem lc_Breaks (l : Launch) (hst : l.stackTraces = false) (p : Program) (e : Env) (s : State) (m : MethodId) (below : List Frame) (meth : Method) (c : Code) (A : Nat → Prop) (Q : State → Prop) (b L : Nat) (xs : Nat → Int32) (D : va_G) (cI : ClassId) (cL : ClassId × ClassId) (h g : Nat → Nat) (ho : Nat) (tx cs rl gv fa1 la1 va1 : Nat → Int32) (mn1 : Int32) (fa2 la2 va2 : Nat → Int32) (mn2 : Int32) (fa3 la3 va3 : Nat → Int32) (mn3 b1 b2 b3 b4 b5 b6 ln lo kn fl rn : Int32) (fs lt kk mk mf ml ma : Nat → Int32) (il sz : Int32) (tt fh : Nat → Int32) (hd : Int32) (ot : Nat → Int64) (x4 : Int32) (z_x4 : Int) (v_x4 : gk_v x4 z_x4) (hz : 0 ≤ z_x4 ∧ z_x4 + 6 ≤ (L : Int)) (hL : L ≤ 3072)
    (hx : p.tables.exec = Jvm.exec) (hb : c.code = code) (hml : c.maxLocals = 7) (hown : s.vm.findClass "BreakPlacesLaw" = some m.cls) (hts : ∀ w ∈ wA, w.before #[Value.ref b] s = true) (hX : va_X b L xs s s.heap) (hbl : b < s.heap.size) (hbA : ¬ A b) (hF : gx_F A s s.heap) (hI : lw_I tx cs rl fa1 la1 va1 mn1 fa2 la2 va2 mn2 fa3 la3 va3 mn3 b1 b2 b3 b4 b5 b6 ln lo kn rn fs lt kk mk mf ml ma il sz tt) (H : Heap) (locs : List Loc) (cells slots : Nat) (hcs : cells + 1 ≤ 600000 ∧ slots + 6 ≤ 7200000) (ls : Array Slot)
    (hW : gk_W D vwCl (gk_T cI cL) s A H locs (wd_L cI cL h g ho tx cs rl gv fa1 la1 va1 mn1 fa2 la2 va2 mn2 fa3 la3 va3 mn3 b1 b2 b3 b4 b5 b6 ln lo kn fl rn fs lt kk mk mf ml ma il sz tt fh hd ot)) (hl : lv_has ls 7 [(0, .ref b), (1, .ref (h 0)), (2, .ref (g 0)), (3, .ref ho), (4, .int x4)])
    (KE : ∀ (tx cs rl gv fa1 la1 va1 : Nat → Int32) (mn1 : Int32) (fa2 la2 va2 : Nat → Int32) (mn2 : Int32) (fa3 la3 va3 : Nat → Int32) (mn3 b1 b2 b3 b4 b5 b6 ln lo kn fl rn : Int32) (fs lt kk mk mf ml ma : Nat → Int32) (il sz : Int32) (tt fh : Nat → Int32) (hd : Int32) (ot : Nat → Int64) (H : Heap) (locs : List Loc) (ls : Array Slot), lw_I tx cs rl fa1 la1 va1 mn1 fa2 la2 va2 mn2 fa3 la3 va3 mn3 b1 b2 b3 b4 b5 b6 ln lo kn rn fs lt kk mk mf ml ma il sz tt → gk_W D vwCl (gk_T cI cL) s A H locs (wd_L cI cL h g ho tx cs rl gv fa1 la1 va1 mn1 fa2 la2 va2 mn2 fa3 la3 va3 mn3 b1 b2 b3 b4 b5 b6 ln lo kn fl rn fs lt kk mk mf ml ma il sz tt fh hd ot) → lv_has ls 7 [(0, .ref b), (1, .ref (h 0)), (2, .ref (g 0)), (3, .ref ho), (4, .int x4)] → W p l e room_1 s m #[Value.ref b] below meth c H locs (cells + 1) (slots + 6) Q (F0 m 891 ls [])) : W p l e room_1 s m #[Value.ref b] below meth c H locs cells slots Q (F0 m 630 ls []) := by
  obtain ⟨z_ln, z_kn, z_mn1, z_mn2, z_mn3, z_rn, z_sz, ⟨v_ln, v_kn, v_mn1, v_mn2, v_mn3, v_rn, v_sz⟩, hln, hkn, hm1, hm2, hm3, hrn, hsz, hmk, hma, hlo, hil⟩ := pe_pre hI
  refine lv_aload_n hx hb d_law_630 rfl (lv_at hl 1 rfl) ?_
  refine lv_aload_n hx hb d_law_631 rfl (lv_at hl 0 rfl) ?_
  refine lv_iload hx hb d_law_632 (lv_at hl 4 rfl) ?_
  refine lv_iconst (v := 1) hx hb d_law_634 (by decide) ?_
  refine lv_iadd hx hb d_law_635 ?_
  obtain ⟨zt_1, vt_1, et_1⟩ := gk_add v_x4 (show gk_v 1 1 from rfl) (by omega) (by omega)
  refine va_sld hx hb hX hbl hbA hW.2.2.2.1 (i := x4 + 1) (gk_in vt_1 (by omega) (by omega)) d_law_636 ?_
  refine lv_aload_n hx hb d_law_637 rfl (lv_at hl 3 rfl) ?_
  refine gk_goI (wr := [((g 0), .inr (3, [.int fl, .int rn, .ref (g 1), .ref (g 2), .ref (g 3), .ref (g 4), .ref (g 5), .ref (g 6), .ref (g 7), .int il, .int sz, .ref (g 8), .ref (g 9), .int hd])), ((g 1), .inl (cI, 100, .inl fs)), ((g 2), .inl (cI, 100, .inl lt)), ((g 3), .inl (cI, 100, .inl kk)), ((g 4), .inl (cI, 2, .inl mk)), ((g 5), .inl (cI, 80, .inl mf)), ((g 6), .inl (cI, 80, .inl ml)), ((g 7), .inl (cL.2, 80, .inl ma)), ((g 8), .inl (cI, 2000, .inl tt)), ((g 9), .inl (cI, 5, .inl fh))]) hW [0, 1, 2, 3, 4, 5, 6, 7, 8, 9, 10, 11, 12, 13, 14, 15, 16, 17, 28] [18, 19, 20, 21, 22, 23, 24, 25, 26, 27] rfl rfl (by decide) (by decide) (vx_runSW (As := [.ref (h 0), .int (xs ((x4 + 1).toNatClampNeg)), .ref ho]) (rest := []) ⟨hx, hb, hml, hown, hts⟩ (c_hBreaks l hst D cI cL h tx cs rl gv fa1 la1 va1 mn1 fa2 la2 va2 mn2 fa3 la3 va3 mn3 b1 b2 b3 b4 b5 b6 ln lo kn ho ot (xs ((x4 + 1).toNatClampNeg)) z_kn v_kn z_ln v_ln z_mn2 v_mn2 z_mn3 v_mn3 hln hkn hm2 hm3 _) (gk_cwSW hts w_335 w_336 w_290 kw_hBreaks e_hBreaks rfl rfl ⟨Nat.le_of_ble_eq_true rfl, Nat.le_of_ble_eq_true rfl⟩) (gx_pre hW (hF.kept hW.2.2.2.1.2.1) [0, 1, 2, 3, 4, 5, 6, 7, 8, 9, 10, 11, 12, 13, 14, 15, 16, 17, 28] rfl rfl) rfl rfl hl.1 rfl (lv_room (Nat.le_of_ble_eq_true rfl)) d_law_638 ⟨by show _ ≤ 601024; omega, by show _ ≤ 7293034; omega⟩) (fun r_2 u H locs p_12 hW => ?_)
  obtain ⟨u_3, u_4, u_5, u_6, u_7, u_8, u_9, u_10, u_11⟩ := u
  have hW : gk_W D vwCl (gk_T cI cL) s A H locs (wd_L cI cL h g ho tx cs u_3 gv fa1 la1 va1 mn1 fa2 la2 va2 mn2 fa3 la3 va3 mn3 u_4 u_5 u_6 u_7 u_8 u_9 ln lo u_10 fl rn fs lt kk mk mf ml ma il sz tt fh hd u_11) := hW.re [10, 11, 12, 13, 14, 15, 16, 17, 18, 19, 20, 21, 22, 23, 24, 25, 26, 27, 0, 1, 2, 3, 4, 5, 6, 7, 8, 9, 28] (by decide) rfl
  refine lv_istore (lv' := [(5, .int r_2), (0, .ref b), (1, .ref (h 0)), (2, .ref (g 0)), (3, .ref ho), (4, .int x4)]) hx hb d_law_641 hl (by decide) rfl (fun ls hl => ?_)
  refine lv_aload_n hx hb d_law_643 rfl (lv_at hl 3 rfl) ?_
  refine lv_aload_n hx hb d_law_644 rfl (lv_at hl 1 rfl) ?_
  refine lv_iload hx hb d_law_645 (lv_at hl 5 rfl) ?_
  refine lv_iconst (v := 1) hx hb d_law_647 (by decide) ?_
  refine lv_iadd hx hb d_law_648 ?_
  obtain ⟨zt_13, vt_13, et_13⟩ := gk_add v_x4 (show gk_v 1 1 from rfl) (by omega) (by omega)
  refine va_sld hx hb hX hbl hbA hW.2.2.2.1 (i := x4 + 1) (gk_in vt_13 (by omega) (by omega)) d_law_649 ?_
  refine gk_goI (wr := [((h 0), .inr (0, [.ref (h 1), .ref (h 2), .ref (h 3), .ref (h 4), .ref (h 5), .ref (h 9), .ref (h 13), .ref (h 17), .int ln, .int lo, .int u_10])), ((h 1), .inl (cI, 2000, .inl tx)), ((h 2), .inl (cI, 2000, .inl cs)), ((h 3), .inl (cI, 2000, .inl u_3)), ((h 4), .inl (cI, 5, .inl gv)), ((h 5), .inr (1, [.ref (h 6), .ref (h 7), .ref (h 8), .int mn1])), ((h 6), .inl (cI, 100, .inl fa1)), ((h 7), .inl (cI, 100, .inl la1)), ((h 8), .inl (cI, 100, .inl va1)), ((h 9), .inr (1, [.ref (h 10), .ref (h 11), .ref (h 12), .int mn2])), ((h 10), .inl (cI, 40, .inl fa2)), ((h 11), .inl (cI, 40, .inl la2)), ((h 12), .inl (cI, 40, .inl va2)), ((h 13), .inr (1, [.ref (h 14), .ref (h 15), .ref (h 16), .int mn3])), ((h 14), .inl (cI, 40, .inl fa3)), ((h 15), .inl (cI, 40, .inl la3)), ((h 16), .inl (cI, 40, .inl va3)), ((h 17), .inr (2, [.int u_4, .int u_5, .int u_6, .int u_7, .int u_8, .int u_9])), (ho, .inl (cL.1, 1, .inr (.inl u_11)))]) hW [18, 19, 20, 21, 22, 23, 24, 25, 26, 27] [0, 1, 2, 3, 4, 5, 6, 7, 8, 9, 10, 11, 12, 13, 14, 15, 16, 17, 28] rfl rfl (by decide) (by decide) (va_runV (As := [.int (xs ((x4 + 1).toNatClampNeg))]) (rest := []) ⟨hx, hb, hml, hown, hts⟩ (c_mBreaks l D cI cL cL g fl rn fs lt kk mk mf ml ma il sz tt fh hd (xs ((x4 + 1).toNatClampNeg)) z_rn v_rn z_sz v_sz hsz hrn hmk hma _) (gk_cwV hts w_337 w_338 w_339 w_145 k_mBreaks rfl e_mBreaks rfl rfl ⟨Nat.le_of_ble_eq_true rfl, Nat.le_of_ble_eq_true rfl⟩) (gk_preV hW [18, 19, 20, 21, 22, 23, 24, 25, 26, 27] rfl rfl rfl rfl) rfl rfl hl.1 rfl (lv_room (Nat.le_of_ble_eq_true rfl)) d_law_650 ⟨by show _ ≤ 601024; omega, by show _ ≤ 7293034; omega⟩) (fun r_14 u H locs p_17 hW => ?_)
  obtain ⟨u_15, u_16⟩ := u
  have hW : gk_W D vwCl (gk_T cI cL) s A H locs (wd_L cI cL h g ho tx cs u_3 gv fa1 la1 va1 mn1 fa2 la2 va2 mn2 fa3 la3 va3 mn3 u_4 u_5 u_6 u_7 u_8 u_9 ln lo u_10 u_15 rn fs lt kk mk mf ml ma il sz tt fh u_16 u_11) := hW.re [0, 1, 2, 3, 4, 5, 6, 7, 8, 9, 10, 11, 12, 13, 14, 15, 16, 17, 19, 20, 21, 22, 23, 24, 25, 26, 27, 28, 18] (by decide) rfl
  obtain ⟨eF, eO, hI⟩ := pe_Breaks hI p_12 p_17
  refine lv_istore (lv' := [(6, .int r_14), (5, .int r_2), (0, .ref b), (1, .ref (h 0)), (2, .ref (g 0)), (3, .ref ho), (4, .int x4)]) hx hb d_law_653 hl (by decide) rfl (fun ls hl => ?_)
  refine lv_aload_n hx hb d_law_655 rfl (lv_at hl 4 rfl) ?_
  refine gk_goR hW [18, 19, 20, 21, 22, 23, 24, 25, 26, 27] rfl (va_runV (As := []) (rest := []) ⟨hx, hb, hml, hown, hts⟩ (c_mThrown l D cI cL cL g u_15 rn fs lt kk mk mf ml ma il sz tt fh u_16 _) (gk_cwV hts w_295 w_296 w_297 w_145 k_mThrown rfl e_mThrown rfl rfl ⟨Nat.le_of_ble_eq_true rfl, Nat.le_of_ble_eq_true rfl⟩) (gk_preV hW [18, 19, 20, 21, 22, 23, 24, 25, 26, 27] rfl rfl rfl rfl) rfl rfl hl.1 rfl (lv_room (Nat.le_of_ble_eq_true rfl)) d_law_656 ⟨by show _ ≤ 601024; omega, by show _ ≤ 7293034; omega⟩) (fun H locs hW => ?_)
  refine lv_iload hx hb d_law_659 (lv_at hl 1 rfl) ?_
  refine lv_icmp_eq (tgt := 666) hx hb d_law_661 (by decide) (fun c_18 => ?_) (fun c_18 => absurd eF c_18)
  refine lv_iload hx hb d_law_666 (lv_at hl 1 rfl) ?_
  refine lv_if_ne (tgt := 683) hx hb d_law_668 (by decide) (fun c_19 => ?_) (fun c_19 => ?_)
  · skip
    refine lv_goto (tgt := 891) hx hb d_law_683 (by decide) ?_
    exact KE tx cs u_3 gv fa1 la1 va1 mn1 fa2 la2 va2 mn2 fa3 la3 va3 mn3 u_4 u_5 u_6 u_7 u_8 u_9 ln lo u_10 u_15 rn fs lt kk mk mf ml ma il sz tt fh u_16 u_11 H locs ls hI hW (lv_sub hl [2, 3, 4, 5, 6] rfl)
  · skip
    refine lv_aload_n hx hb d_law_671 rfl (lv_at hl 5 rfl) ?_
    refine lv_iconst (v := 0) hx hb d_law_672 (by decide) ?_
    refine va_lald hx hb hW.1 hW.2.1 28 1 rfl rfl (i := 0) (gk_in (show gk_v 0 0 from rfl) (by omega) (by omega)) d_law_673 ?_
    refine lv_iload hx hb d_law_674 (lv_at hl 0 rfl) ?_
    refine lv_i2l (v := r_14.toInt64) hx hb d_law_676 rfl ?_
    refine W.lcmp hx hb d_law_677 ?_
    refine lv_if_eq (tgt := 683) hx hb d_law_678 (by decide) (fun c_20 => ?_) (fun c_20 => absurd (eO c_19) c_20)
    refine lv_goto (tgt := 891) hx hb d_law_683 (by decide) ?_
    exact KE tx cs u_3 gv fa1 la1 va1 mn1 fa2 la2 va2 mn2 fa3 la3 va3 mn3 u_4 u_5 u_6 u_7 u_8 u_9 ln lo u_10 u_15 rn fs lt kk mk mf ml ma il sz tt fh u_16 u_11 H locs ls hI hW (lv_sub hl [2, 3, 4, 5, 6] rfl)
