set_option maxHeartbeats 4000000 in
set_option maxRecDepth 100000 in
theorem lc_Add (l : Launch) (hst : l.stackTraces = false) (p : Program) (e : Env) (s : State) (m : MethodId) (below : List Frame) (meth : Method) (c : Code) (A : Nat → Prop) (Q : State → Prop) (b L : Nat) (xs : Nat → Int32) (D : va_G) (cI : ClassId) (cL : ClassId × ClassId) (h g : Nat → Nat) (ho : Nat) (tx cs rl gv fa1 la1 va1 : Nat → Int32) (mn1 : Int32) (fa2 la2 va2 : Nat → Int32) (mn2 : Int32) (fa3 la3 va3 : Nat → Int32) (mn3 b1 b2 b3 b4 b5 b6 ln lo kn fl rn : Int32) (fs lt kk mk mf ml ma : Nat → Int32) (il sz : Int32) (tt fh : Nat → Int32) (hd : Int32) (ot : Nat → Int64) (x4 : Int32) (z_x4 : Int) (v_x4 : gk_v x4 z_x4) (hz : 0 ≤ z_x4 ∧ z_x4 + 6 ≤ (L : Int)) (hL : L ≤ 3072)
    (hx : p.tables.exec = Jvm.exec) (hb : c.code = code) (hml : c.maxLocals = 7) (hown : s.vm.findClass "BreakPlacesLaw" = some m.cls) (hts : ∀ w ∈ wA, w.before #[Value.ref b] s = true) (hX : va_X b L xs s s.heap) (hbl : b < s.heap.size) (hbA : ¬ A b) (hF : gx_F A s s.heap) (hI : lw_I tx cs rl fa1 la1 va1 mn1 fa2 la2 va2 mn2 fa3 la3 va3 mn3 b1 b2 b3 b4 b5 b6 ln lo kn rn fs lt kk mk mf ml ma il sz tt) (H : Heap) (locs : List Loc) (cells slots : Nat) (hcs : cells + 1 ≤ 600000 ∧ slots + 6 ≤ 7200000) (ls : Array Slot)
    (hW : gk_W D vwCl (gk_T cI cL) s A H locs (wd_L cI cL h g ho tx cs rl gv fa1 la1 va1 mn1 fa2 la2 va2 mn2 fa3 la3 va3 mn3 b1 b2 b3 b4 b5 b6 ln lo kn fl rn fs lt kk mk mf ml ma il sz tt fh hd ot)) (hl : lv_has ls 7 [(0, .ref b), (1, .ref (h 0)), (2, .ref (g 0)), (3, .ref ho), (4, .int x4)])
    (KE : ∀ (tx cs rl gv fa1 la1 va1 : Nat → Int32) (mn1 : Int32) (fa2 la2 va2 : Nat → Int32) (mn2 : Int32) (fa3 la3 va3 : Nat → Int32) (mn3 b1 b2 b3 b4 b5 b6 ln lo kn fl rn : Int32) (fs lt kk mk mf ml ma : Nat → Int32) (il sz : Int32) (tt fh : Nat → Int32) (hd : Int32) (ot : Nat → Int64) (H : Heap) (locs : List Loc) (ls : Array Slot), lw_I tx cs rl fa1 la1 va1 mn1 fa2 la2 va2 mn2 fa3 la3 va3 mn3 b1 b2 b3 b4 b5 b6 ln lo kn rn fs lt kk mk mf ml ma il sz tt → gk_W D vwCl (gk_T cI cL) s A H locs (wd_L cI cL h g ho tx cs rl gv fa1 la1 va1 mn1 fa2 la2 va2 mn2 fa3 la3 va3 mn3 b1 b2 b3 b4 b5 b6 ln lo kn fl rn fs lt kk mk mf ml ma il sz tt fh hd ot) → lv_has ls 7 [(0, .ref b), (1, .ref (h 0)), (2, .ref (g 0)), (3, .ref ho), (4, .int x4)] → W p l e room_1 s m #[Value.ref b] below meth c H locs (cells + 1) (slots + 6) Q (F0 m 891 ls [])) : W p l e room_1 s m #[Value.ref b] below meth c H locs cells slots Q (F0 m 297 ls []) := by
  obtain ⟨z_ln, z_kn, z_mn1, z_mn2, z_mn3, z_rn, z_sz, ⟨v_ln, v_kn, v_mn1, v_mn2, v_mn3, v_rn, v_sz⟩, hln, hkn, hm1, hm2, hm3, hrn, hsz, hmk, hma, hlo, hil⟩ := pe_pre hI
  refine lv_aload_n hx hb d_law_297 rfl (lv_at hl 1 rfl) ?_
  refine lv_aload_n hx hb d_law_298 rfl (lv_at hl 0 rfl) ?_
  refine lv_iload hx hb d_law_299 (lv_at hl 4 rfl) ?_
  refine lv_iconst (v := 1) hx hb d_law_301 (by decide) ?_
  refine lv_iadd hx hb d_law_302 ?_
  obtain ⟨zt_1, vt_1, et_1⟩ := gk_add v_x4 (show gk_v 1 1 from rfl) (by omega) (by omega)
  refine va_sld hx hb hX hbl hbA hW.2.2.2.1 (i := x4 + 1) (gk_in vt_1 (by omega) (by omega)) d_law_303 ?_
  refine lv_aload_n hx hb d_law_304 rfl (lv_at hl 0 rfl) ?_
  refine lv_iload hx hb d_law_305 (lv_at hl 4 rfl) ?_
  refine lv_iconst (v := 2) hx hb d_law_307 (by decide) ?_
  refine lv_iadd hx hb d_law_308 ?_
  obtain ⟨zt_2, vt_2, et_2⟩ := gk_add v_x4 (show gk_v 2 2 from rfl) (by omega) (by omega)
  refine va_sld hx hb hX hbl hbA hW.2.2.2.1 (i := x4 + 2) (gk_in vt_2 (by omega) (by omega)) d_law_309 ?_
  refine lv_aload_n hx hb d_law_310 rfl (lv_at hl 0 rfl) ?_
  refine lv_iload hx hb d_law_311 (lv_at hl 4 rfl) ?_
  refine lv_iconst (v := 3) hx hb d_law_313 (by decide) ?_
  refine lv_iadd hx hb d_law_314 ?_
  obtain ⟨zt_3, vt_3, et_3⟩ := gk_add v_x4 (show gk_v 3 3 from rfl) (by omega) (by omega)
  refine va_sld hx hb hX hbl hbA hW.2.2.2.1 (i := x4 + 3) (gk_in vt_3 (by omega) (by omega)) d_law_315 ?_
  refine lv_aload_n hx hb d_law_316 rfl (lv_at hl 0 rfl) ?_
  refine lv_iload hx hb d_law_317 (lv_at hl 4 rfl) ?_
  refine lv_iconst (v := 4) hx hb d_law_319 (by decide) ?_
  refine lv_iadd hx hb d_law_320 ?_
  obtain ⟨zt_4, vt_4, et_4⟩ := gk_add v_x4 (show gk_v 4 4 from rfl) (by omega) (by omega)
  refine va_sld hx hb hX hbl hbA hW.2.2.2.1 (i := x4 + 4) (gk_in vt_4 (by omega) (by omega)) d_law_321 ?_
  refine lv_aload_n hx hb d_law_322 rfl (lv_at hl 0 rfl) ?_
  refine lv_iload hx hb d_law_323 (lv_at hl 4 rfl) ?_
  refine lv_iconst (v := 5) hx hb d_law_325 (by decide) ?_
  refine lv_iadd hx hb d_law_326 ?_
  obtain ⟨zt_5, vt_5, et_5⟩ := gk_add v_x4 (show gk_v 5 5 from rfl) (by omega) (by omega)
  refine va_sld hx hb hX hbl hbA hW.2.2.2.1 (i := x4 + 5) (gk_in vt_5 (by omega) (by omega)) d_law_327 ?_
  refine lv_aload_n hx hb d_law_328 rfl (lv_at hl 3 rfl) ?_
  refine gk_goI (wr := [((g 0), .inr (3, [.int fl, .int rn, .ref (g 1), .ref (g 2), .ref (g 3), .ref (g 4), .ref (g 5), .ref (g 6), .ref (g 7), .int il, .int sz, .ref (g 8), .ref (g 9), .int hd])), ((g 1), .inl (cI, 100, .inl fs)), ((g 2), .inl (cI, 100, .inl lt)), ((g 3), .inl (cI, 100, .inl kk)), ((g 4), .inl (cI, 2, .inl mk)), ((g 5), .inl (cI, 80, .inl mf)), ((g 6), .inl (cI, 80, .inl ml)), ((g 7), .inl (cL.2, 80, .inl ma)), ((g 8), .inl (cI, 2000, .inl tt)), ((g 9), .inl (cI, 5, .inl fh))]) hW [0, 1, 2, 3, 4, 5, 6, 7, 8, 9, 10, 11, 12, 13, 14, 15, 16, 17, 28] [18, 19, 20, 21, 22, 23, 24, 25, 26, 27] rfl rfl (by decide) (by decide) (vx_runSW (As := [.ref (h 0), .int (xs ((x4 + 1).toNatClampNeg)), .int (xs ((x4 + 2).toNatClampNeg)), .int (xs ((x4 + 3).toNatClampNeg)), .int (xs ((x4 + 4).toNatClampNeg)), .int (xs ((x4 + 5).toNatClampNeg)), .ref ho]) (rest := []) ⟨hx, hb, hml, hown, hts⟩ (c_hAdd l hst D cI cL h tx cs rl gv fa1 la1 va1 mn1 fa2 la2 va2 mn2 fa3 la3 va3 mn3 b1 b2 b3 b4 b5 b6 ln lo kn ho ot (xs ((x4 + 1).toNatClampNeg)) (xs ((x4 + 2).toNatClampNeg)) (xs ((x4 + 3).toNatClampNeg)) (xs ((x4 + 4).toNatClampNeg)) (xs ((x4 + 5).toNatClampNeg)) z_ln v_ln z_mn1 v_mn1 hln hm1 _) (gk_cwSW hts w_309 w_310 w_290 kw_hAdd e_hAdd rfl rfl ⟨Nat.le_of_ble_eq_true rfl, Nat.le_of_ble_eq_true rfl⟩) (gx_pre hW (hF.kept hW.2.2.2.1.2.1) [0, 1, 2, 3, 4, 5, 6, 7, 8, 9, 10, 11, 12, 13, 14, 15, 16, 17, 28] rfl rfl) rfl rfl hl.1 rfl (lv_room (Nat.le_of_ble_eq_true rfl)) d_law_329 ⟨by show _ ≤ 601024; omega, by show _ ≤ 7293034; omega⟩) (fun r_6 u H locs p_19 hW => ?_)
  obtain ⟨u_7, u_8, u_9, u_10, u_11, u_12, u_13, u_14, u_15, u_16, u_17, u_18⟩ := u
  have hW : gk_W D vwCl (gk_T cI cL) s A H locs (wd_L cI cL h g ho u_7 u_8 rl u_9 fa1 la1 va1 mn1 fa2 la2 va2 mn2 fa3 la3 va3 mn3 u_10 u_11 u_12 u_13 u_14 u_15 u_16 lo u_17 fl rn fs lt kk mk mf ml ma il sz tt fh hd u_18) := hW.re [10, 11, 12, 13, 14, 15, 16, 17, 18, 19, 20, 21, 22, 23, 24, 25, 26, 27, 0, 1, 2, 3, 4, 5, 6, 7, 8, 9, 28] (by decide) rfl
  refine lv_istore (lv' := [(5, .int r_6), (0, .ref b), (1, .ref (h 0)), (2, .ref (g 0)), (3, .ref ho), (4, .int x4)]) hx hb d_law_332 hl (by decide) rfl (fun ls hl => ?_)
  refine lv_aload_n hx hb d_law_334 rfl (lv_at hl 3 rfl) ?_
  refine lv_aload_n hx hb d_law_335 rfl (lv_at hl 1 rfl) ?_
  refine lv_iload hx hb d_law_336 (lv_at hl 5 rfl) ?_
  refine lv_iconst (v := 1) hx hb d_law_338 (by decide) ?_
  refine lv_iadd hx hb d_law_339 ?_
  obtain ⟨zt_20, vt_20, et_20⟩ := gk_add v_x4 (show gk_v 1 1 from rfl) (by omega) (by omega)
  refine va_sld hx hb hX hbl hbA hW.2.2.2.1 (i := x4 + 1) (gk_in vt_20 (by omega) (by omega)) d_law_340 ?_
  refine lv_aload_n hx hb d_law_341 rfl (lv_at hl 1 rfl) ?_
  refine lv_iload hx hb d_law_342 (lv_at hl 5 rfl) ?_
  refine lv_iconst (v := 2) hx hb d_law_344 (by decide) ?_
  refine lv_iadd hx hb d_law_345 ?_
  obtain ⟨zt_21, vt_21, et_21⟩ := gk_add v_x4 (show gk_v 2 2 from rfl) (by omega) (by omega)
  refine va_sld hx hb hX hbl hbA hW.2.2.2.1 (i := x4 + 2) (gk_in vt_21 (by omega) (by omega)) d_law_346 ?_
  refine lv_aload_n hx hb d_law_347 rfl (lv_at hl 1 rfl) ?_
  refine lv_iload hx hb d_law_348 (lv_at hl 5 rfl) ?_
  refine lv_iconst (v := 3) hx hb d_law_350 (by decide) ?_
  refine lv_iadd hx hb d_law_351 ?_
  obtain ⟨zt_22, vt_22, et_22⟩ := gk_add v_x4 (show gk_v 3 3 from rfl) (by omega) (by omega)
  refine va_sld hx hb hX hbl hbA hW.2.2.2.1 (i := x4 + 3) (gk_in vt_22 (by omega) (by omega)) d_law_352 ?_
  refine lv_aload_n hx hb d_law_353 rfl (lv_at hl 1 rfl) ?_
  refine lv_iload hx hb d_law_354 (lv_at hl 5 rfl) ?_
  refine lv_iconst (v := 4) hx hb d_law_356 (by decide) ?_
  refine lv_iadd hx hb d_law_357 ?_
  obtain ⟨zt_23, vt_23, et_23⟩ := gk_add v_x4 (show gk_v 4 4 from rfl) (by omega) (by omega)
  refine va_sld hx hb hX hbl hbA hW.2.2.2.1 (i := x4 + 4) (gk_in vt_23 (by omega) (by omega)) d_law_358 ?_
  refine lv_aload_n hx hb d_law_359 rfl (lv_at hl 1 rfl) ?_
  refine lv_iload hx hb d_law_360 (lv_at hl 5 rfl) ?_
  refine lv_iconst (v := 5) hx hb d_law_362 (by decide) ?_
  refine lv_iadd hx hb d_law_363 ?_
  obtain ⟨zt_24, vt_24, et_24⟩ := gk_add v_x4 (show gk_v 5 5 from rfl) (by omega) (by omega)
  refine va_sld hx hb hX hbl hbA hW.2.2.2.1 (i := x4 + 5) (gk_in vt_24 (by omega) (by omega)) d_law_364 ?_
  refine gk_goI (wr := [((h 0), .inr (0, [.ref (h 1), .ref (h 2), .ref (h 3), .ref (h 4), .ref (h 5), .ref (h 9), .ref (h 13), .ref (h 17), .int u_16, .int lo, .int u_17])), ((h 1), .inl (cI, 2000, .inl u_7)), ((h 2), .inl (cI, 2000, .inl u_8)), ((h 3), .inl (cI, 2000, .inl rl)), ((h 4), .inl (cI, 5, .inl u_9)), ((h 5), .inr (1, [.ref (h 6), .ref (h 7), .ref (h 8), .int mn1])), ((h 6), .inl (cI, 100, .inl fa1)), ((h 7), .inl (cI, 100, .inl la1)), ((h 8), .inl (cI, 100, .inl va1)), ((h 9), .inr (1, [.ref (h 10), .ref (h 11), .ref (h 12), .int mn2])), ((h 10), .inl (cI, 40, .inl fa2)), ((h 11), .inl (cI, 40, .inl la2)), ((h 12), .inl (cI, 40, .inl va2)), ((h 13), .inr (1, [.ref (h 14), .ref (h 15), .ref (h 16), .int mn3])), ((h 14), .inl (cI, 40, .inl fa3)), ((h 15), .inl (cI, 40, .inl la3)), ((h 16), .inl (cI, 40, .inl va3)), ((h 17), .inr (2, [.int u_10, .int u_11, .int u_12, .int u_13, .int u_14, .int u_15])), (ho, .inl (cL.1, 1, .inr (.inl u_18)))]) hW [18, 19, 20, 21, 22, 23, 24, 25, 26, 27] [0, 1, 2, 3, 4, 5, 6, 7, 8, 9, 10, 11, 12, 13, 14, 15, 16, 17, 28] rfl rfl (by decide) (by decide) (va_runV (As := [.int (xs ((x4 + 1).toNatClampNeg)), .int (xs ((x4 + 2).toNatClampNeg)), .int (xs ((x4 + 3).toNatClampNeg)), .int (xs ((x4 + 4).toNatClampNeg)), .int (xs ((x4 + 5).toNatClampNeg))]) (rest := []) ⟨hx, hb, hml, hown, hts⟩ (c_mAdd l D cI cL cL g fl rn fs lt kk mk mf ml ma il sz tt fh hd (xs ((x4 + 1).toNatClampNeg)) (xs ((x4 + 2).toNatClampNeg)) (xs ((x4 + 3).toNatClampNeg)) (xs ((x4 + 4).toNatClampNeg)) (xs ((x4 + 5).toNatClampNeg)) z_sz v_sz hsz _) (gk_cwV hts w_311 w_312 w_313 w_145 k_mAdd rfl e_mAdd rfl rfl ⟨Nat.le_of_ble_eq_true rfl, Nat.le_of_ble_eq_true rfl⟩) (gk_preV hW [18, 19, 20, 21, 22, 23, 24, 25, 26, 27] rfl rfl rfl rfl) rfl rfl hl.1 rfl (lv_room (Nat.le_of_ble_eq_true rfl)) d_law_365 ⟨by show _ ≤ 601024; omega, by show _ ≤ 7293034; omega⟩) (fun r_25 u H locs p_30 hW => ?_)
  obtain ⟨u_26, u_27, u_28, u_29⟩ := u
  have hW : gk_W D vwCl (gk_T cI cL) s A H locs (wd_L cI cL h g ho u_7 u_8 rl u_9 fa1 la1 va1 mn1 fa2 la2 va2 mn2 fa3 la3 va3 mn3 u_10 u_11 u_12 u_13 u_14 u_15 u_16 lo u_17 u_26 rn fs lt kk mk mf ml ma il u_27 u_28 u_29 hd u_18) := hW.re [0, 1, 2, 3, 4, 5, 6, 7, 8, 9, 10, 11, 12, 13, 14, 15, 16, 17, 19, 20, 21, 22, 23, 24, 25, 26, 27, 28, 18] (by decide) rfl
  obtain ⟨eF, eO, hI⟩ := pe_Add hI p_19 p_30
  refine lv_istore (lv' := [(6, .int r_25), (5, .int r_6), (0, .ref b), (1, .ref (h 0)), (2, .ref (g 0)), (3, .ref ho), (4, .int x4)]) hx hb d_law_368 hl (by decide) rfl (fun ls hl => ?_)
  refine lv_aload_n hx hb d_law_370 rfl (lv_at hl 4 rfl) ?_
  refine gk_goR hW [18, 19, 20, 21, 22, 23, 24, 25, 26, 27] rfl (va_runV (As := []) (rest := []) ⟨hx, hb, hml, hown, hts⟩ (c_mThrown l D cI cL cL g u_26 rn fs lt kk mk mf ml ma il u_27 u_28 u_29 hd _) (gk_cwV hts w_295 w_296 w_297 w_145 k_mThrown rfl e_mThrown rfl rfl ⟨Nat.le_of_ble_eq_true rfl, Nat.le_of_ble_eq_true rfl⟩) (gk_preV hW [18, 19, 20, 21, 22, 23, 24, 25, 26, 27] rfl rfl rfl rfl) rfl rfl hl.1 rfl (lv_room (Nat.le_of_ble_eq_true rfl)) d_law_371 ⟨by show _ ≤ 601024; omega, by show _ ≤ 7293034; omega⟩) (fun H locs hW => ?_)
  refine lv_iload hx hb d_law_374 (lv_at hl 1 rfl) ?_
  refine lv_icmp_eq (tgt := 381) hx hb d_law_376 (by decide) (fun c_31 => ?_) (fun c_31 => absurd eF c_31)
  refine lv_iload hx hb d_law_381 (lv_at hl 1 rfl) ?_
  refine lv_if_ne (tgt := 398) hx hb d_law_383 (by decide) (fun c_32 => ?_) (fun c_32 => ?_)
  · skip
    refine lv_goto (tgt := 891) hx hb d_law_398 (by decide) ?_
    exact KE u_7 u_8 rl u_9 fa1 la1 va1 mn1 fa2 la2 va2 mn2 fa3 la3 va3 mn3 u_10 u_11 u_12 u_13 u_14 u_15 u_16 lo u_17 u_26 rn fs lt kk mk mf ml ma il u_27 u_28 u_29 hd u_18 H locs ls hI hW (lv_sub hl [2, 3, 4, 5, 6] rfl)
  · skip
    refine lv_aload_n hx hb d_law_386 rfl (lv_at hl 5 rfl) ?_
    refine lv_iconst (v := 0) hx hb d_law_387 (by decide) ?_
    refine va_lald hx hb hW.1 hW.2.1 28 1 rfl rfl (i := 0) (gk_in (show gk_v 0 0 from rfl) (by omega) (by omega)) d_law_388 ?_
    refine lv_iload hx hb d_law_389 (lv_at hl 0 rfl) ?_
    refine lv_i2l (v := r_25.toInt64) hx hb d_law_391 rfl ?_
    refine W.lcmp hx hb d_law_392 ?_
    refine lv_if_eq (tgt := 398) hx hb d_law_393 (by decide) (fun c_33 => ?_) (fun c_33 => absurd (eO c_32) c_33)
    refine lv_goto (tgt := 891) hx hb d_law_398 (by decide) ?_
    exact KE u_7 u_8 rl u_9 fa1 la1 va1 mn1 fa2 la2 va2 mn2 fa3 la3 va3 mn3 u_10 u_11 u_12 u_13 u_14 u_15 u_16 lo u_17 u_26 rn fs lt kk mk mf ml ma il u_27 u_28 u_29 hd u_18 H locs ls hI hW (lv_sub hl [2, 3, 4, 5, 6] rfl)
set_option maxHeartbeats 4000000 in
set_option maxRecDepth 100000 in
theorem lc_Replace (l : Launch) (hst : l.stackTraces = false) (p : Program) (e : Env) (s : State) (m : MethodId) (below : List Frame) (meth : Method) (c : Code) (A : Nat → Prop) (Q : State → Prop) (b L : Nat) (xs : Nat → Int32) (D : va_G) (cI : ClassId) (cL : ClassId × ClassId) (h g : Nat → Nat) (ho : Nat) (tx cs rl gv fa1 la1 va1 : Nat → Int32) (mn1 : Int32) (fa2 la2 va2 : Nat → Int32) (mn2 : Int32) (fa3 la3 va3 : Nat → Int32) (mn3 b1 b2 b3 b4 b5 b6 ln lo kn fl rn : Int32) (fs lt kk mk mf ml ma : Nat → Int32) (il sz : Int32) (tt fh : Nat → Int32) (hd : Int32) (ot : Nat → Int64) (x4 : Int32) (z_x4 : Int) (v_x4 : gk_v x4 z_x4) (hz : 0 ≤ z_x4 ∧ z_x4 + 6 ≤ (L : Int)) (hL : L ≤ 3072)
    (hx : p.tables.exec = Jvm.exec) (hb : c.code = code) (hml : c.maxLocals = 7) (hown : s.vm.findClass "BreakPlacesLaw" = some m.cls) (hts : ∀ w ∈ wA, w.before #[Value.ref b] s = true) (hX : va_X b L xs s s.heap) (hbl : b < s.heap.size) (hbA : ¬ A b) (hF : gx_F A s s.heap) (hI : lw_I tx cs rl fa1 la1 va1 mn1 fa2 la2 va2 mn2 fa3 la3 va3 mn3 b1 b2 b3 b4 b5 b6 ln lo kn rn fs lt kk mk mf ml ma il sz tt) (H : Heap) (locs : List Loc) (cells slots : Nat) (hcs : cells + 1 ≤ 600000 ∧ slots + 6 ≤ 7200000) (ls : Array Slot)
    (hW : gk_W D vwCl (gk_T cI cL) s A H locs (wd_L cI cL h g ho tx cs rl gv fa1 la1 va1 mn1 fa2 la2 va2 mn2 fa3 la3 va3 mn3 b1 b2 b3 b4 b5 b6 ln lo kn fl rn fs lt kk mk mf ml ma il sz tt fh hd ot)) (hl : lv_has ls 7 [(0, .ref b), (1, .ref (h 0)), (2, .ref (g 0)), (3, .ref ho), (4, .int x4)])
    (KE : ∀ (tx cs rl gv fa1 la1 va1 : Nat → Int32) (mn1 : Int32) (fa2 la2 va2 : Nat → Int32) (mn2 : Int32) (fa3 la3 va3 : Nat → Int32) (mn3 b1 b2 b3 b4 b5 b6 ln lo kn fl rn : Int32) (fs lt kk mk mf ml ma : Nat → Int32) (il sz : Int32) (tt fh : Nat → Int32) (hd : Int32) (ot : Nat → Int64) (H : Heap) (locs : List Loc) (ls : Array Slot), lw_I tx cs rl fa1 la1 va1 mn1 fa2 la2 va2 mn2 fa3 la3 va3 mn3 b1 b2 b3 b4 b5 b6 ln lo kn rn fs lt kk mk mf ml ma il sz tt → gk_W D vwCl (gk_T cI cL) s A H locs (wd_L cI cL h g ho tx cs rl gv fa1 la1 va1 mn1 fa2 la2 va2 mn2 fa3 la3 va3 mn3 b1 b2 b3 b4 b5 b6 ln lo kn fl rn fs lt kk mk mf ml ma il sz tt fh hd ot) → lv_has ls 7 [(0, .ref b), (1, .ref (h 0)), (2, .ref (g 0)), (3, .ref ho), (4, .int x4)] → W p l e room_1 s m #[Value.ref b] below meth c H locs (cells + 1) (slots + 6) Q (F0 m 891 ls [])) : W p l e room_1 s m #[Value.ref b] below meth c H locs cells slots Q (F0 m 401 ls []) := by
  obtain ⟨z_ln, z_kn, z_mn1, z_mn2, z_mn3, z_rn, z_sz, ⟨v_ln, v_kn, v_mn1, v_mn2, v_mn3, v_rn, v_sz⟩, hln, hkn, hm1, hm2, hm3, hrn, hsz, hmk, hma, hlo, hil⟩ := pe_pre hI
  refine lv_aload_n hx hb d_law_401 rfl (lv_at hl 1 rfl) ?_
  refine lv_aload_n hx hb d_law_402 rfl (lv_at hl 0 rfl) ?_
  refine lv_iload hx hb d_law_403 (lv_at hl 4 rfl) ?_
  refine lv_iconst (v := 1) hx hb d_law_405 (by decide) ?_
  refine lv_iadd hx hb d_law_406 ?_
  obtain ⟨zt_1, vt_1, et_1⟩ := gk_add v_x4 (show gk_v 1 1 from rfl) (by omega) (by omega)
  refine va_sld hx hb hX hbl hbA hW.2.2.2.1 (i := x4 + 1) (gk_in vt_1 (by omega) (by omega)) d_law_407 ?_
  refine lv_aload_n hx hb d_law_408 rfl (lv_at hl 0 rfl) ?_
  refine lv_iload hx hb d_law_409 (lv_at hl 4 rfl) ?_
  refine lv_iconst (v := 2) hx hb d_law_411 (by decide) ?_
  refine lv_iadd hx hb d_law_412 ?_
  obtain ⟨zt_2, vt_2, et_2⟩ := gk_add v_x4 (show gk_v 2 2 from rfl) (by omega) (by omega)
  refine va_sld hx hb hX hbl hbA hW.2.2.2.1 (i := x4 + 2) (gk_in vt_2 (by omega) (by omega)) d_law_413 ?_
  refine lv_aload_n hx hb d_law_414 rfl (lv_at hl 0 rfl) ?_
  refine lv_iload hx hb d_law_415 (lv_at hl 4 rfl) ?_
  refine lv_iconst (v := 3) hx hb d_law_417 (by decide) ?_
  refine lv_iadd hx hb d_law_418 ?_
  obtain ⟨zt_3, vt_3, et_3⟩ := gk_add v_x4 (show gk_v 3 3 from rfl) (by omega) (by omega)
  refine va_sld hx hb hX hbl hbA hW.2.2.2.1 (i := x4 + 3) (gk_in vt_3 (by omega) (by omega)) d_law_419 ?_
  refine lv_aload_n hx hb d_law_420 rfl (lv_at hl 0 rfl) ?_
  refine lv_iload hx hb d_law_421 (lv_at hl 4 rfl) ?_
  refine lv_iconst (v := 4) hx hb d_law_423 (by decide) ?_
  refine lv_iadd hx hb d_law_424 ?_
  obtain ⟨zt_4, vt_4, et_4⟩ := gk_add v_x4 (show gk_v 4 4 from rfl) (by omega) (by omega)
  refine va_sld hx hb hX hbl hbA hW.2.2.2.1 (i := x4 + 4) (gk_in vt_4 (by omega) (by omega)) d_law_425 ?_
  refine lv_aload_n hx hb d_law_426 rfl (lv_at hl 0 rfl) ?_
  refine lv_iload hx hb d_law_427 (lv_at hl 4 rfl) ?_
  refine lv_iconst (v := 5) hx hb d_law_429 (by decide) ?_
  refine lv_iadd hx hb d_law_430 ?_
  obtain ⟨zt_5, vt_5, et_5⟩ := gk_add v_x4 (show gk_v 5 5 from rfl) (by omega) (by omega)
  refine va_sld hx hb hX hbl hbA hW.2.2.2.1 (i := x4 + 5) (gk_in vt_5 (by omega) (by omega)) d_law_431 ?_
  refine lv_aload_n hx hb d_law_432 rfl (lv_at hl 3 rfl) ?_
  refine gk_goI (wr := [((g 0), .inr (3, [.int fl, .int rn, .ref (g 1), .ref (g 2), .ref (g 3), .ref (g 4), .ref (g 5), .ref (g 6), .ref (g 7), .int il, .int sz, .ref (g 8), .ref (g 9), .int hd])), ((g 1), .inl (cI, 100, .inl fs)), ((g 2), .inl (cI, 100, .inl lt)), ((g 3), .inl (cI, 100, .inl kk)), ((g 4), .inl (cI, 2, .inl mk)), ((g 5), .inl (cI, 80, .inl mf)), ((g 6), .inl (cI, 80, .inl ml)), ((g 7), .inl (cL.2, 80, .inl ma)), ((g 8), .inl (cI, 2000, .inl tt)), ((g 9), .inl (cI, 5, .inl fh))]) hW [0, 1, 2, 3, 4, 5, 6, 7, 8, 9, 10, 11, 12, 13, 14, 15, 16, 17, 28] [18, 19, 20, 21, 22, 23, 24, 25, 26, 27] rfl rfl (by decide) (by decide) (vx_runSW (As := [.ref (h 0), .int (xs ((x4 + 1).toNatClampNeg)), .int (xs ((x4 + 2).toNatClampNeg)), .int (xs ((x4 + 3).toNatClampNeg)), .int (xs ((x4 + 4).toNatClampNeg)), .int (xs ((x4 + 5).toNatClampNeg)), .ref ho]) (rest := []) ⟨hx, hb, hml, hown, hts⟩ (c_hReplace l hst D cI cL h tx cs rl gv fa1 la1 va1 mn1 fa2 la2 va2 mn2 fa3 la3 va3 mn3 b1 b2 b3 b4 b5 b6 ln lo kn ho ot (xs ((x4 + 1).toNatClampNeg)) (xs ((x4 + 2).toNatClampNeg)) (xs ((x4 + 3).toNatClampNeg)) (xs ((x4 + 4).toNatClampNeg)) (xs ((x4 + 5).toNatClampNeg)) z_ln v_ln z_mn1 v_mn1 hln hm1 _) (gk_cwSW hts w_314 w_315 w_290 kw_hReplace e_hReplace rfl rfl ⟨Nat.le_of_ble_eq_true rfl, Nat.le_of_ble_eq_true rfl⟩) (gx_pre hW (hF.kept hW.2.2.2.1.2.1) [0, 1, 2, 3, 4, 5, 6, 7, 8, 9, 10, 11, 12, 13, 14, 15, 16, 17, 28] rfl rfl) rfl rfl hl.1 rfl (lv_room (Nat.le_of_ble_eq_true rfl)) d_law_433 ⟨by show _ ≤ 601024; omega, by show _ ≤ 7293034; omega⟩) (fun r_6 u H locs p_19 hW => ?_)
  obtain ⟨u_7, u_8, u_9, u_10, u_11, u_12, u_13, u_14, u_15, u_16, u_17, u_18⟩ := u
  have hW : gk_W D vwCl (gk_T cI cL) s A H locs (wd_L cI cL h g ho u_7 u_8 rl u_9 fa1 la1 va1 mn1 fa2 la2 va2 mn2 fa3 la3 va3 mn3 u_10 u_11 u_12 u_13 u_14 u_15 u_16 lo u_17 fl rn fs lt kk mk mf ml ma il sz tt fh hd u_18) := hW.re [10, 11, 12, 13, 14, 15, 16, 17, 18, 19, 20, 21, 22, 23, 24, 25, 26, 27, 0, 1, 2, 3, 4, 5, 6, 7, 8, 9, 28] (by decide) rfl
  refine lv_istore (lv' := [(5, .int r_6), (0, .ref b), (1, .ref (h 0)), (2, .ref (g 0)), (3, .ref ho), (4, .int x4)]) hx hb d_law_436 hl (by decide) rfl (fun ls hl => ?_)
  refine lv_aload_n hx hb d_law_438 rfl (lv_at hl 3 rfl) ?_
  refine lv_aload_n hx hb d_law_439 rfl (lv_at hl 1 rfl) ?_
  refine lv_iload hx hb d_law_440 (lv_at hl 5 rfl) ?_
  refine lv_iconst (v := 1) hx hb d_law_442 (by decide) ?_
  refine lv_iadd hx hb d_law_443 ?_
  obtain ⟨zt_20, vt_20, et_20⟩ := gk_add v_x4 (show gk_v 1 1 from rfl) (by omega) (by omega)
  refine va_sld hx hb hX hbl hbA hW.2.2.2.1 (i := x4 + 1) (gk_in vt_20 (by omega) (by omega)) d_law_444 ?_
  refine lv_aload_n hx hb d_law_445 rfl (lv_at hl 1 rfl) ?_
  refine lv_iload hx hb d_law_446 (lv_at hl 5 rfl) ?_
  refine lv_iconst (v := 2) hx hb d_law_448 (by decide) ?_
  refine lv_iadd hx hb d_law_449 ?_
  obtain ⟨zt_21, vt_21, et_21⟩ := gk_add v_x4 (show gk_v 2 2 from rfl) (by omega) (by omega)
  refine va_sld hx hb hX hbl hbA hW.2.2.2.1 (i := x4 + 2) (gk_in vt_21 (by omega) (by omega)) d_law_450 ?_
  refine lv_aload_n hx hb d_law_451 rfl (lv_at hl 1 rfl) ?_
  refine lv_iload hx hb d_law_452 (lv_at hl 5 rfl) ?_
  refine lv_iconst (v := 3) hx hb d_law_454 (by decide) ?_
  refine lv_iadd hx hb d_law_455 ?_
  obtain ⟨zt_22, vt_22, et_22⟩ := gk_add v_x4 (show gk_v 3 3 from rfl) (by omega) (by omega)
  refine va_sld hx hb hX hbl hbA hW.2.2.2.1 (i := x4 + 3) (gk_in vt_22 (by omega) (by omega)) d_law_456 ?_
  refine lv_aload_n hx hb d_law_457 rfl (lv_at hl 1 rfl) ?_
  refine lv_iload hx hb d_law_458 (lv_at hl 5 rfl) ?_
  refine lv_iconst (v := 4) hx hb d_law_460 (by decide) ?_
  refine lv_iadd hx hb d_law_461 ?_
  obtain ⟨zt_23, vt_23, et_23⟩ := gk_add v_x4 (show gk_v 4 4 from rfl) (by omega) (by omega)
  refine va_sld hx hb hX hbl hbA hW.2.2.2.1 (i := x4 + 4) (gk_in vt_23 (by omega) (by omega)) d_law_462 ?_
  refine lv_aload_n hx hb d_law_463 rfl (lv_at hl 1 rfl) ?_
  refine lv_iload hx hb d_law_464 (lv_at hl 5 rfl) ?_
  refine lv_iconst (v := 5) hx hb d_law_466 (by decide) ?_
  refine lv_iadd hx hb d_law_467 ?_
  obtain ⟨zt_24, vt_24, et_24⟩ := gk_add v_x4 (show gk_v 5 5 from rfl) (by omega) (by omega)
  refine va_sld hx hb hX hbl hbA hW.2.2.2.1 (i := x4 + 5) (gk_in vt_24 (by omega) (by omega)) d_law_468 ?_
  refine gk_goI (wr := [((h 0), .inr (0, [.ref (h 1), .ref (h 2), .ref (h 3), .ref (h 4), .ref (h 5), .ref (h 9), .ref (h 13), .ref (h 17), .int u_16, .int lo, .int u_17])), ((h 1), .inl (cI, 2000, .inl u_7)), ((h 2), .inl (cI, 2000, .inl u_8)), ((h 3), .inl (cI, 2000, .inl rl)), ((h 4), .inl (cI, 5, .inl u_9)), ((h 5), .inr (1, [.ref (h 6), .ref (h 7), .ref (h 8), .int mn1])), ((h 6), .inl (cI, 100, .inl fa1)), ((h 7), .inl (cI, 100, .inl la1)), ((h 8), .inl (cI, 100, .inl va1)), ((h 9), .inr (1, [.ref (h 10), .ref (h 11), .ref (h 12), .int mn2])), ((h 10), .inl (cI, 40, .inl fa2)), ((h 11), .inl (cI, 40, .inl la2)), ((h 12), .inl (cI, 40, .inl va2)), ((h 13), .inr (1, [.ref (h 14), .ref (h 15), .ref (h 16), .int mn3])), ((h 14), .inl (cI, 40, .inl fa3)), ((h 15), .inl (cI, 40, .inl la3)), ((h 16), .inl (cI, 40, .inl va3)), ((h 17), .inr (2, [.int u_10, .int u_11, .int u_12, .int u_13, .int u_14, .int u_15])), (ho, .inl (cL.1, 1, .inr (.inl u_18)))]) hW [18, 19, 20, 21, 22, 23, 24, 25, 26, 27] [0, 1, 2, 3, 4, 5, 6, 7, 8, 9, 10, 11, 12, 13, 14, 15, 16, 17, 28] rfl rfl (by decide) (by decide) (va_runV (As := [.int (xs ((x4 + 1).toNatClampNeg)), .int (xs ((x4 + 2).toNatClampNeg)), .int (xs ((x4 + 3).toNatClampNeg)), .int (xs ((x4 + 4).toNatClampNeg)), .int (xs ((x4 + 5).toNatClampNeg))]) (rest := []) ⟨hx, hb, hml, hown, hts⟩ (c_mReplace l D cI cL cL g fl rn fs lt kk mk mf ml ma il sz tt fh hd (xs ((x4 + 1).toNatClampNeg)) (xs ((x4 + 2).toNatClampNeg)) (xs ((x4 + 3).toNatClampNeg)) (xs ((x4 + 4).toNatClampNeg)) (xs ((x4 + 5).toNatClampNeg)) z_sz v_sz hsz _) (gk_cwV hts w_316 w_317 w_318 w_145 k_mReplace rfl e_mReplace rfl rfl ⟨Nat.le_of_ble_eq_true rfl, Nat.le_of_ble_eq_true rfl⟩) (gk_preV hW [18, 19, 20, 21, 22, 23, 24, 25, 26, 27] rfl rfl rfl rfl) rfl rfl hl.1 rfl (lv_room (Nat.le_of_ble_eq_true rfl)) d_law_469 ⟨by show _ ≤ 601024; omega, by show _ ≤ 7293034; omega⟩) (fun r_25 u H locs p_30 hW => ?_)
  obtain ⟨u_26, u_27, u_28, u_29⟩ := u
  have hW : gk_W D vwCl (gk_T cI cL) s A H locs (wd_L cI cL h g ho u_7 u_8 rl u_9 fa1 la1 va1 mn1 fa2 la2 va2 mn2 fa3 la3 va3 mn3 u_10 u_11 u_12 u_13 u_14 u_15 u_16 lo u_17 u_26 rn fs lt kk mk mf ml ma il u_27 u_28 u_29 hd u_18) := hW.re [0, 1, 2, 3, 4, 5, 6, 7, 8, 9, 10, 11, 12, 13, 14, 15, 16, 17, 19, 20, 21, 22, 23, 24, 25, 26, 27, 28, 18] (by decide) rfl
  obtain ⟨eF, eO, hI⟩ := pe_Replace hI p_19 p_30
  refine lv_istore (lv' := [(6, .int r_25), (5, .int r_6), (0, .ref b), (1, .ref (h 0)), (2, .ref (g 0)), (3, .ref ho), (4, .int x4)]) hx hb d_law_472 hl (by decide) rfl (fun ls hl => ?_)
  refine lv_aload_n hx hb d_law_474 rfl (lv_at hl 4 rfl) ?_
  refine gk_goR hW [18, 19, 20, 21, 22, 23, 24, 25, 26, 27] rfl (va_runV (As := []) (rest := []) ⟨hx, hb, hml, hown, hts⟩ (c_mThrown l D cI cL cL g u_26 rn fs lt kk mk mf ml ma il u_27 u_28 u_29 hd _) (gk_cwV hts w_295 w_296 w_297 w_145 k_mThrown rfl e_mThrown rfl rfl ⟨Nat.le_of_ble_eq_true rfl, Nat.le_of_ble_eq_true rfl⟩) (gk_preV hW [18, 19, 20, 21, 22, 23, 24, 25, 26, 27] rfl rfl rfl rfl) rfl rfl hl.1 rfl (lv_room (Nat.le_of_ble_eq_true rfl)) d_law_475 ⟨by show _ ≤ 601024; omega, by show _ ≤ 7293034; omega⟩) (fun H locs hW => ?_)
  refine lv_iload hx hb d_law_478 (lv_at hl 1 rfl) ?_
  refine lv_icmp_eq (tgt := 485) hx hb d_law_480 (by decide) (fun c_31 => ?_) (fun c_31 => absurd eF c_31)
  refine lv_iload hx hb d_law_485 (lv_at hl 1 rfl) ?_
  refine lv_if_ne (tgt := 502) hx hb d_law_487 (by decide) (fun c_32 => ?_) (fun c_32 => ?_)
  · skip
    refine lv_goto (tgt := 891) hx hb d_law_502 (by decide) ?_
    exact KE u_7 u_8 rl u_9 fa1 la1 va1 mn1 fa2 la2 va2 mn2 fa3 la3 va3 mn3 u_10 u_11 u_12 u_13 u_14 u_15 u_16 lo u_17 u_26 rn fs lt kk mk mf ml ma il u_27 u_28 u_29 hd u_18 H locs ls hI hW (lv_sub hl [2, 3, 4, 5, 6] rfl)
  · skip
    refine lv_aload_n hx hb d_law_490 rfl (lv_at hl 5 rfl) ?_
    refine lv_iconst (v := 0) hx hb d_law_491 (by decide) ?_
    refine va_lald hx hb hW.1 hW.2.1 28 1 rfl rfl (i := 0) (gk_in (show gk_v 0 0 from rfl) (by omega) (by omega)) d_law_492 ?_
    refine lv_iload hx hb d_law_493 (lv_at hl 0 rfl) ?_
    refine lv_i2l (v := r_25.toInt64) hx hb d_law_495 rfl ?_
    refine W.lcmp hx hb d_law_496 ?_
    refine lv_if_eq (tgt := 502) hx hb d_law_497 (by decide) (fun c_33 => ?_) (fun c_33 => absurd (eO c_32) c_33)
    refine lv_goto (tgt := 891) hx hb d_law_502 (by decide) ?_
    exact KE u_7 u_8 rl u_9 fa1 la1 va1 mn1 fa2 la2 va2 mn2 fa3 la3 va3 mn3 u_10 u_11 u_12 u_13 u_14 u_15 u_16 lo u_17 u_26 rn fs lt kk mk mf ml ma il u_27 u_28 u_29 hd u_18 H locs ls hI hW (lv_sub hl [2, 3, 4, 5, 6] rfl)
set_option maxHeartbeats 4000000 in
set_option maxRecDepth 100000 in
theorem lc_Clear (l : Launch) (hst : l.stackTraces = false) (p : Program) (e : Env) (s : State) (m : MethodId) (below : List Frame) (meth : Method) (c : Code) (A : Nat → Prop) (Q : State → Prop) (b L : Nat) (xs : Nat → Int32) (D : va_G) (cI : ClassId) (cL : ClassId × ClassId) (h g : Nat → Nat) (ho : Nat) (tx cs rl gv fa1 la1 va1 : Nat → Int32) (mn1 : Int32) (fa2 la2 va2 : Nat → Int32) (mn2 : Int32) (fa3 la3 va3 : Nat → Int32) (mn3 b1 b2 b3 b4 b5 b6 ln lo kn fl rn : Int32) (fs lt kk mk mf ml ma : Nat → Int32) (il sz : Int32) (tt fh : Nat → Int32) (hd : Int32) (ot : Nat → Int64) (x4 : Int32) (z_x4 : Int) (v_x4 : gk_v x4 z_x4) (hz : 0 ≤ z_x4 ∧ z_x4 + 6 ≤ (L : Int)) (hL : L ≤ 3072)
    (hx : p.tables.exec = Jvm.exec) (hb : c.code = code) (hml : c.maxLocals = 7) (hown : s.vm.findClass "BreakPlacesLaw" = some m.cls) (hts : ∀ w ∈ wA, w.before #[Value.ref b] s = true) (hX : va_X b L xs s s.heap) (hbl : b < s.heap.size) (hbA : ¬ A b) (hF : gx_F A s s.heap) (hI : lw_I tx cs rl fa1 la1 va1 mn1 fa2 la2 va2 mn2 fa3 la3 va3 mn3 b1 b2 b3 b4 b5 b6 ln lo kn rn fs lt kk mk mf ml ma il sz tt) (H : Heap) (locs : List Loc) (cells slots : Nat) (hcs : cells + 1 ≤ 600000 ∧ slots + 6 ≤ 7200000) (ls : Array Slot)
    (hW : gk_W D vwCl (gk_T cI cL) s A H locs (wd_L cI cL h g ho tx cs rl gv fa1 la1 va1 mn1 fa2 la2 va2 mn2 fa3 la3 va3 mn3 b1 b2 b3 b4 b5 b6 ln lo kn fl rn fs lt kk mk mf ml ma il sz tt fh hd ot)) (hl : lv_has ls 7 [(0, .ref b), (1, .ref (h 0)), (2, .ref (g 0)), (3, .ref ho), (4, .int x4)])
    (KE : ∀ (tx cs rl gv fa1 la1 va1 : Nat → Int32) (mn1 : Int32) (fa2 la2 va2 : Nat → Int32) (mn2 : Int32) (fa3 la3 va3 : Nat → Int32) (mn3 b1 b2 b3 b4 b5 b6 ln lo kn fl rn : Int32) (fs lt kk mk mf ml ma : Nat → Int32) (il sz : Int32) (tt fh : Nat → Int32) (hd : Int32) (ot : Nat → Int64) (H : Heap) (locs : List Loc) (ls : Array Slot), lw_I tx cs rl fa1 la1 va1 mn1 fa2 la2 va2 mn2 fa3 la3 va3 mn3 b1 b2 b3 b4 b5 b6 ln lo kn rn fs lt kk mk mf ml ma il sz tt → gk_W D vwCl (gk_T cI cL) s A H locs (wd_L cI cL h g ho tx cs rl gv fa1 la1 va1 mn1 fa2 la2 va2 mn2 fa3 la3 va3 mn3 b1 b2 b3 b4 b5 b6 ln lo kn fl rn fs lt kk mk mf ml ma il sz tt fh hd ot) → lv_has ls 7 [(0, .ref b), (1, .ref (h 0)), (2, .ref (g 0)), (3, .ref ho), (4, .int x4)] → W p l e room_1 s m #[Value.ref b] below meth c H locs (cells + 1) (slots + 6) Q (F0 m 891 ls [])) : W p l e room_1 s m #[Value.ref b] below meth c H locs cells slots Q (F0 m 505 ls []) := by
  obtain ⟨z_ln, z_kn, z_mn1, z_mn2, z_mn3, z_rn, z_sz, ⟨v_ln, v_kn, v_mn1, v_mn2, v_mn3, v_rn, v_sz⟩, hln, hkn, hm1, hm2, hm3, hrn, hsz, hmk, hma, hlo, hil⟩ := pe_pre hI
  refine lv_aload_n hx hb d_law_505 rfl (lv_at hl 1 rfl) ?_
  refine gk_goI (wr := [((g 0), .inr (3, [.int fl, .int rn, .ref (g 1), .ref (g 2), .ref (g 3), .ref (g 4), .ref (g 5), .ref (g 6), .ref (g 7), .int il, .int sz, .ref (g 8), .ref (g 9), .int hd])), ((g 1), .inl (cI, 100, .inl fs)), ((g 2), .inl (cI, 100, .inl lt)), ((g 3), .inl (cI, 100, .inl kk)), ((g 4), .inl (cI, 2, .inl mk)), ((g 5), .inl (cI, 80, .inl mf)), ((g 6), .inl (cI, 80, .inl ml)), ((g 7), .inl (cL.2, 80, .inl ma)), ((g 8), .inl (cI, 2000, .inl tt)), ((g 9), .inl (cI, 5, .inl fh)), (ho, .inl (cL.1, 1, .inr (.inl ot)))]) hW [0, 1, 2, 3, 4, 5, 6, 7, 8, 9, 10, 11, 12, 13, 14, 15, 16, 17] [18, 19, 20, 21, 22, 23, 24, 25, 26, 27, 28] rfl rfl (by decide) (by decide) (va_runV (As := []) (rest := []) ⟨hx, hb, hml, hown, hts⟩ (c_clear l D cI cL h tx cs rl gv fa1 la1 va1 mn1 fa2 la2 va2 mn2 fa3 la3 va3 mn3 b1 b2 b3 b4 b5 b6 ln lo kn _) (gk_cwV hts w_319 w_320 w_321 w_3 k_clear rfl e_clear rfl rfl ⟨Nat.le_of_ble_eq_true rfl, Nat.le_of_ble_eq_true rfl⟩) (gk_preV hW [0, 1, 2, 3, 4, 5, 6, 7, 8, 9, 10, 11, 12, 13, 14, 15, 16, 17] rfl rfl rfl rfl) rfl rfl hl.1 rfl (lv_room (Nat.le_of_ble_eq_true rfl)) d_law_506 ⟨by show _ ≤ 601024; omega, by show _ ≤ 7293034; omega⟩) (fun r_1 u H locs p_10 hW => ?_)
  obtain ⟨u_2, u_3, u_4, u_5, u_6, u_7, u_8, u_9⟩ := u
  have hW : gk_W D vwCl (gk_T cI cL) s A H locs (wd_L cI cL h g ho tx cs rl gv fa1 la1 va1 mn1 fa2 la2 va2 mn2 fa3 la3 va3 mn3 u_2 u_3 u_4 u_5 u_6 u_7 u_8 lo u_9 fl rn fs lt kk mk mf ml ma il sz tt fh hd ot) := hW.re [11, 12, 13, 14, 15, 16, 17, 18, 19, 20, 21, 22, 23, 24, 25, 26, 27, 28, 0, 1, 2, 3, 4, 5, 6, 7, 8, 9, 10] (by decide) rfl
  refine lv_aload_n hx hb d_law_509 rfl (lv_at hl 2 rfl) ?_
  refine gk_goI (wr := [((h 0), .inr (0, [.ref (h 1), .ref (h 2), .ref (h 3), .ref (h 4), .ref (h 5), .ref (h 9), .ref (h 13), .ref (h 17), .int u_8, .int lo, .int u_9])), ((h 1), .inl (cI, 2000, .inl tx)), ((h 2), .inl (cI, 2000, .inl cs)), ((h 3), .inl (cI, 2000, .inl rl)), ((h 4), .inl (cI, 5, .inl gv)), ((h 5), .inr (1, [.ref (h 6), .ref (h 7), .ref (h 8), .int mn1])), ((h 6), .inl (cI, 100, .inl fa1)), ((h 7), .inl (cI, 100, .inl la1)), ((h 8), .inl (cI, 100, .inl va1)), ((h 9), .inr (1, [.ref (h 10), .ref (h 11), .ref (h 12), .int mn2])), ((h 10), .inl (cI, 40, .inl fa2)), ((h 11), .inl (cI, 40, .inl la2)), ((h 12), .inl (cI, 40, .inl va2)), ((h 13), .inr (1, [.ref (h 14), .ref (h 15), .ref (h 16), .int mn3])), ((h 14), .inl (cI, 40, .inl fa3)), ((h 15), .inl (cI, 40, .inl la3)), ((h 16), .inl (cI, 40, .inl va3)), ((h 17), .inr (2, [.int u_2, .int u_3, .int u_4, .int u_5, .int u_6, .int u_7])), (ho, .inl (cL.1, 1, .inr (.inl ot)))]) hW [18, 19, 20, 21, 22, 23, 24, 25, 26, 27] [0, 1, 2, 3, 4, 5, 6, 7, 8, 9, 10, 11, 12, 13, 14, 15, 16, 17, 28] rfl rfl (by decide) (by decide) (va_runV (As := []) (rest := [.int r_1]) ⟨hx, hb, hml, hown, hts⟩ (c_mClear l D cI cL cL g fl rn fs lt kk mk mf ml ma il sz tt fh hd _) (gk_cwV hts w_322 w_323 w_324 w_145 k_mClear rfl e_mClear rfl rfl ⟨Nat.le_of_ble_eq_true rfl, Nat.le_of_ble_eq_true rfl⟩) (gk_preV hW [18, 19, 20, 21, 22, 23, 24, 25, 26, 27] rfl rfl rfl rfl) rfl rfl hl.1 rfl (lv_room (Nat.le_of_ble_eq_true rfl)) d_law_510 ⟨by show _ ≤ 601024; omega, by show _ ≤ 7293034; omega⟩) (fun r_11 u H locs p_14 hW => ?_)
  obtain ⟨u_12, u_13⟩ := u
  have hW : gk_W D vwCl (gk_T cI cL) s A H locs (wd_L cI cL h g ho tx cs rl gv fa1 la1 va1 mn1 fa2 la2 va2 mn2 fa3 la3 va3 mn3 u_2 u_3 u_4 u_5 u_6 u_7 u_8 lo u_9 u_12 rn fs lt kk mk mf ml ma il u_13 tt fh hd ot) := hW.re [0, 1, 2, 3, 4, 5, 6, 7, 8, 9, 10, 11, 12, 13, 14, 15, 16, 17, 19, 20, 21, 22, 23, 24, 25, 26, 27, 28, 18] (by decide) rfl
  obtain ⟨eF, hI⟩ := pe_Clear hI p_10 p_14
  refine lv_icmp_eq (tgt := 891) hx hb d_law_513 (by decide) (fun c_15 => ?_) (fun c_15 => absurd eF c_15)
  refine W.widen (k := cells + 1) (n := slots + 6) (by omega) (by omega) ?_
  exact KE tx cs rl gv fa1 la1 va1 mn1 fa2 la2 va2 mn2 fa3 la3 va3 mn3 u_2 u_3 u_4 u_5 u_6 u_7 u_8 lo u_9 u_12 rn fs lt kk mk mf ml ma il u_13 tt fh hd ot H locs ls hI hW (lv_sub hl [0, 1, 2, 3, 4] rfl)
