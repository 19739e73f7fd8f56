set_option maxHeartbeats 4000000 in
set_option maxRecDepth 100000 in
theorem lc_Rule (l : Launch) (hst : l.stackTraces = false) (p : Program) (e : Env) (s : State) (m : MethodId) (below : List Frame) (meth : Method) (c : Code) (A : Nat → Prop) (Q : State → Prop) (b L : Nat) (xs : Nat → Int32) (D : va_G) (cI : ClassId) (cL : ClassId × ClassId) (h g : Nat → Nat) (ho : Nat) (tx cs rl gv fa1 la1 va1 : Nat → Int32) (mn1 : Int32) (fa2 la2 va2 : Nat → Int32) (mn2 : Int32) (fa3 la3 va3 : Nat → Int32) (mn3 b1 b2 b3 b4 b5 b6 ln lo kn fl rn : Int32) (fs lt kk mk mf ml ma : Nat → Int32) (il sz : Int32) (tt fh : Nat → Int32) (hd : Int32) (ot : Nat → Int64) (x4 : Int32) (z_x4 : Int) (v_x4 : gk_v x4 z_x4) (hz : 0 ≤ z_x4 ∧ z_x4 + 6 ≤ (L : Int)) (hL : L ≤ 3072)
    (hx : p.tables.exec = Jvm.exec) (hb : c.code = code) (hml : c.maxLocals = 7) (hown : s.vm.findClass "BreakPlacesLaw" = some m.cls) (hts : ∀ w ∈ wA, w.before #[Value.ref b] s = true) (hX : va_X b L xs s s.heap) (hbl : b < s.heap.size) (hbA : ¬ A b) (hF : gx_F A s s.heap) (hI : lw_I tx cs rl fa1 la1 va1 mn1 fa2 la2 va2 mn2 fa3 la3 va3 mn3 b1 b2 b3 b4 b5 b6 ln lo kn rn fs lt kk mk mf ml ma il sz tt) (H : Heap) (locs : List Loc) (cells slots : Nat) (hcs : cells + 1 ≤ 600000 ∧ slots + 6 ≤ 7200000) (ls : Array Slot)
    (hW : gk_W D vwCl (gk_T cI cL) s A H locs (wd_L cI cL h g ho tx cs rl gv fa1 la1 va1 mn1 fa2 la2 va2 mn2 fa3 la3 va3 mn3 b1 b2 b3 b4 b5 b6 ln lo kn fl rn fs lt kk mk mf ml ma il sz tt fh hd ot)) (hl : lv_has ls 7 [(0, .ref b), (1, .ref (h 0)), (2, .ref (g 0)), (3, .ref ho), (4, .int x4)])
    (KE : ∀ (tx cs rl gv fa1 la1 va1 : Nat → Int32) (mn1 : Int32) (fa2 la2 va2 : Nat → Int32) (mn2 : Int32) (fa3 la3 va3 : Nat → Int32) (mn3 b1 b2 b3 b4 b5 b6 ln lo kn fl rn : Int32) (fs lt kk mk mf ml ma : Nat → Int32) (il sz : Int32) (tt fh : Nat → Int32) (hd : Int32) (ot : Nat → Int64) (H : Heap) (locs : List Loc) (ls : Array Slot), lw_I tx cs rl fa1 la1 va1 mn1 fa2 la2 va2 mn2 fa3 la3 va3 mn3 b1 b2 b3 b4 b5 b6 ln lo kn rn fs lt kk mk mf ml ma il sz tt → gk_W D vwCl (gk_T cI cL) s A H locs (wd_L cI cL h g ho tx cs rl gv fa1 la1 va1 mn1 fa2 la2 va2 mn2 fa3 la3 va3 mn3 b1 b2 b3 b4 b5 b6 ln lo kn fl rn fs lt kk mk mf ml ma il sz tt fh hd ot) → lv_has ls 7 [(0, .ref b), (1, .ref (h 0)), (2, .ref (g 0)), (3, .ref ho), (4, .int x4)] → W p l e room_1 s m #[Value.ref b] below meth c H locs (cells + 1) (slots + 6) Q (F0 m 891 ls [])) : W p l e room_1 s m #[Value.ref b] below meth c H locs cells slots Q (F0 m 686 ls []) := by
  obtain ⟨z_ln, z_kn, z_mn1, z_mn2, z_mn3, z_rn, z_sz, ⟨v_ln, v_kn, v_mn1, v_mn2, v_mn3, v_rn, v_sz⟩, hln, hkn, hm1, hm2, hm3, hrn, hsz, hmk, hma, hlo, hil⟩ := pe_pre hI
  refine lv_aload_n hx hb d_law_686 rfl (lv_at hl 1 rfl) ?_
  refine lv_aload_n hx hb d_law_687 rfl (lv_at hl 0 rfl) ?_
  refine lv_iload hx hb d_law_688 (lv_at hl 4 rfl) ?_
  refine lv_iconst (v := 1) hx hb d_law_690 (by decide) ?_
  refine lv_iadd hx hb d_law_691 ?_
  obtain ⟨zt_1, vt_1, et_1⟩ := gk_add v_x4 (show gk_v 1 1 from rfl) (by omega) (by omega)
  refine va_sld hx hb hX hbl hbA hW.2.2.2.1 (i := x4 + 1) (gk_in vt_1 (by omega) (by omega)) d_law_692 ?_
  refine lv_aload_n hx hb d_law_693 rfl (lv_at hl 3 rfl) ?_
  refine gk_goI (wr := [((g 0), .inr (3, [.int fl, .int rn, .ref (g 1), .ref (g 2), .ref (g 3), .ref (g 4), .ref (g 5), .ref (g 6), .ref (g 7), .int il, .int sz, .ref (g 8), .ref (g 9), .int hd])), ((g 1), .inl (cI, 100, .inl fs)), ((g 2), .inl (cI, 100, .inl lt)), ((g 3), .inl (cI, 100, .inl kk)), ((g 4), .inl (cI, 2, .inl mk)), ((g 5), .inl (cI, 80, .inl mf)), ((g 6), .inl (cI, 80, .inl ml)), ((g 7), .inl (cL.2, 80, .inl ma)), ((g 8), .inl (cI, 2000, .inl tt)), ((g 9), .inl (cI, 5, .inl fh))]) hW [0, 1, 2, 3, 4, 5, 6, 7, 8, 9, 10, 11, 12, 13, 14, 15, 16, 17, 28] [18, 19, 20, 21, 22, 23, 24, 25, 26, 27] rfl rfl (by decide) (by decide) (vx_runSW (As := [.ref (h 0), .int (xs ((x4 + 1).toNatClampNeg)), .ref ho]) (rest := []) ⟨hx, hb, hml, hown, hts⟩ (c_hRule l hst D cI cL h tx cs rl gv fa1 la1 va1 mn1 fa2 la2 va2 mn2 fa3 la3 va3 mn3 b1 b2 b3 b4 b5 b6 ln lo kn ho ot (xs ((x4 + 1).toNatClampNeg)) z_kn v_kn z_ln v_ln z_mn2 v_mn2 z_mn3 v_mn3 hln hkn hm2 hm3 _) (gk_cwSW hts w_340 w_341 w_290 kw_hRule e_hRule rfl rfl ⟨Nat.le_of_ble_eq_true rfl, Nat.le_of_ble_eq_true rfl⟩) (gx_pre hW (hF.kept hW.2.2.2.1.2.1) [0, 1, 2, 3, 4, 5, 6, 7, 8, 9, 10, 11, 12, 13, 14, 15, 16, 17, 28] rfl rfl) rfl rfl hl.1 rfl (lv_room (Nat.le_of_ble_eq_true rfl)) d_law_694 ⟨by show _ ≤ 601024; omega, by show _ ≤ 7293034; omega⟩) (fun r_2 u H locs p_12 hW => ?_)
  obtain ⟨u_3, u_4, u_5, u_6, u_7, u_8, u_9, u_10, u_11⟩ := u
  have hW : gk_W D vwCl (gk_T cI cL) s A H locs (wd_L cI cL h g ho tx cs u_3 gv fa1 la1 va1 mn1 fa2 la2 va2 mn2 fa3 la3 va3 mn3 u_4 u_5 u_6 u_7 u_8 u_9 ln lo u_10 fl rn fs lt kk mk mf ml ma il sz tt fh hd u_11) := hW.re [10, 11, 12, 13, 14, 15, 16, 17, 18, 19, 20, 21, 22, 23, 24, 25, 26, 27, 0, 1, 2, 3, 4, 5, 6, 7, 8, 9, 28] (by decide) rfl
  refine lv_istore (lv' := [(5, .int r_2), (0, .ref b), (1, .ref (h 0)), (2, .ref (g 0)), (3, .ref ho), (4, .int x4)]) hx hb d_law_697 hl (by decide) rfl (fun ls hl => ?_)
  refine lv_aload_n hx hb d_law_699 rfl (lv_at hl 3 rfl) ?_
  refine lv_aload_n hx hb d_law_700 rfl (lv_at hl 1 rfl) ?_
  refine lv_iload hx hb d_law_701 (lv_at hl 5 rfl) ?_
  refine lv_iconst (v := 1) hx hb d_law_703 (by decide) ?_
  refine lv_iadd hx hb d_law_704 ?_
  obtain ⟨zt_13, vt_13, et_13⟩ := gk_add v_x4 (show gk_v 1 1 from rfl) (by omega) (by omega)
  refine va_sld hx hb hX hbl hbA hW.2.2.2.1 (i := x4 + 1) (gk_in vt_13 (by omega) (by omega)) d_law_705 ?_
  refine gk_goI (wr := [((h 0), .inr (0, [.ref (h 1), .ref (h 2), .ref (h 3), .ref (h 4), .ref (h 5), .ref (h 9), .ref (h 13), .ref (h 17), .int ln, .int lo, .int u_10])), ((h 1), .inl (cI, 2000, .inl tx)), ((h 2), .inl (cI, 2000, .inl cs)), ((h 3), .inl (cI, 2000, .inl u_3)), ((h 4), .inl (cI, 5, .inl gv)), ((h 5), .inr (1, [.ref (h 6), .ref (h 7), .ref (h 8), .int mn1])), ((h 6), .inl (cI, 100, .inl fa1)), ((h 7), .inl (cI, 100, .inl la1)), ((h 8), .inl (cI, 100, .inl va1)), ((h 9), .inr (1, [.ref (h 10), .ref (h 11), .ref (h 12), .int mn2])), ((h 10), .inl (cI, 40, .inl fa2)), ((h 11), .inl (cI, 40, .inl la2)), ((h 12), .inl (cI, 40, .inl va2)), ((h 13), .inr (1, [.ref (h 14), .ref (h 15), .ref (h 16), .int mn3])), ((h 14), .inl (cI, 40, .inl fa3)), ((h 15), .inl (cI, 40, .inl la3)), ((h 16), .inl (cI, 40, .inl va3)), ((h 17), .inr (2, [.int u_4, .int u_5, .int u_6, .int u_7, .int u_8, .int u_9])), (ho, .inl (cL.1, 1, .inr (.inl u_11)))]) hW [18, 19, 20, 21, 22, 23, 24, 25, 26, 27] [0, 1, 2, 3, 4, 5, 6, 7, 8, 9, 10, 11, 12, 13, 14, 15, 16, 17, 28] rfl rfl (by decide) (by decide) (va_runV (As := [.int (xs ((x4 + 1).toNatClampNeg))]) (rest := []) ⟨hx, hb, hml, hown, hts⟩ (c_mRule l D cI cL cL g fl rn fs lt kk mk mf ml ma il sz tt fh hd (xs ((x4 + 1).toNatClampNeg)) z_rn v_rn z_sz v_sz hsz hrn hmk hma _) (gk_cwV hts w_342 w_343 w_344 w_145 k_mRule rfl e_mRule rfl rfl ⟨Nat.le_of_ble_eq_true rfl, Nat.le_of_ble_eq_true rfl⟩) (gk_preV hW [18, 19, 20, 21, 22, 23, 24, 25, 26, 27] rfl rfl rfl rfl) rfl rfl hl.1 rfl (lv_room (Nat.le_of_ble_eq_true rfl)) d_law_706 ⟨by show _ ≤ 601024; omega, by show _ ≤ 7293034; omega⟩) (fun r_14 u H locs p_17 hW => ?_)
  obtain ⟨u_15, u_16⟩ := u
  have hW : gk_W D vwCl (gk_T cI cL) s A H locs (wd_L cI cL h g ho tx cs u_3 gv fa1 la1 va1 mn1 fa2 la2 va2 mn2 fa3 la3 va3 mn3 u_4 u_5 u_6 u_7 u_8 u_9 ln lo u_10 u_15 rn fs lt kk mk mf ml ma il sz tt fh u_16 u_11) := hW.re [0, 1, 2, 3, 4, 5, 6, 7, 8, 9, 10, 11, 12, 13, 14, 15, 16, 17, 19, 20, 21, 22, 23, 24, 25, 26, 27, 28, 18] (by decide) rfl
  obtain ⟨eF, eO, hI⟩ := pe_Rule hI p_12 p_17
  refine lv_istore (lv' := [(6, .int r_14), (5, .int r_2), (0, .ref b), (1, .ref (h 0)), (2, .ref (g 0)), (3, .ref ho), (4, .int x4)]) hx hb d_law_709 hl (by decide) rfl (fun ls hl => ?_)
  refine lv_aload_n hx hb d_law_711 rfl (lv_at hl 4 rfl) ?_
  refine gk_goR hW [18, 19, 20, 21, 22, 23, 24, 25, 26, 27] rfl (va_runV (As := []) (rest := []) ⟨hx, hb, hml, hown, hts⟩ (c_mThrown l D cI cL cL g u_15 rn fs lt kk mk mf ml ma il sz tt fh u_16 _) (gk_cwV hts w_295 w_296 w_297 w_145 k_mThrown rfl e_mThrown rfl rfl ⟨Nat.le_of_ble_eq_true rfl, Nat.le_of_ble_eq_true rfl⟩) (gk_preV hW [18, 19, 20, 21, 22, 23, 24, 25, 26, 27] rfl rfl rfl rfl) rfl rfl hl.1 rfl (lv_room (Nat.le_of_ble_eq_true rfl)) d_law_712 ⟨by show _ ≤ 601024; omega, by show _ ≤ 7293034; omega⟩) (fun H locs hW => ?_)
  refine lv_iload hx hb d_law_715 (lv_at hl 1 rfl) ?_
  refine lv_icmp_eq (tgt := 722) hx hb d_law_717 (by decide) (fun c_18 => ?_) (fun c_18 => absurd eF c_18)
  refine lv_iload hx hb d_law_722 (lv_at hl 1 rfl) ?_
  refine lv_if_ne (tgt := 739) hx hb d_law_724 (by decide) (fun c_19 => ?_) (fun c_19 => ?_)
  · skip
    refine lv_goto (tgt := 891) hx hb d_law_739 (by decide) ?_
    exact KE tx cs u_3 gv fa1 la1 va1 mn1 fa2 la2 va2 mn2 fa3 la3 va3 mn3 u_4 u_5 u_6 u_7 u_8 u_9 ln lo u_10 u_15 rn fs lt kk mk mf ml ma il sz tt fh u_16 u_11 H locs ls hI hW (lv_sub hl [2, 3, 4, 5, 6] rfl)
  · skip
    refine lv_aload_n hx hb d_law_727 rfl (lv_at hl 5 rfl) ?_
    refine lv_iconst (v := 0) hx hb d_law_728 (by decide) ?_
    refine va_lald hx hb hW.1 hW.2.1 28 1 rfl rfl (i := 0) (gk_in (show gk_v 0 0 from rfl) (by omega) (by omega)) d_law_729 ?_
    refine lv_iload hx hb d_law_730 (lv_at hl 0 rfl) ?_
    refine lv_i2l (v := r_14.toInt64) hx hb d_law_732 rfl ?_
    refine W.lcmp hx hb d_law_733 ?_
    refine lv_if_eq (tgt := 739) hx hb d_law_734 (by decide) (fun c_20 => ?_) (fun c_20 => absurd (eO c_19) c_20)
    refine lv_goto (tgt := 891) hx hb d_law_739 (by decide) ?_
    exact KE tx cs u_3 gv fa1 la1 va1 mn1 fa2 la2 va2 mn2 fa3 la3 va3 mn3 u_4 u_5 u_6 u_7 u_8 u_9 ln lo u_10 u_15 rn fs lt kk mk mf ml ma il sz tt fh u_16 u_11 H locs ls hI hW (lv_sub hl [2, 3, 4, 5, 6] rfl)
set_option maxHeartbeats 4000000 in
set_option maxRecDepth 100000 in
theorem lc_Next (l : Launch) (hst : l.stackTraces = false) (p : Program) (e : Env) (s : State) (m : MethodId) (below : List Frame) (meth : Method) (c : Code) (A : Nat → Prop) (Q : State → Prop) (b L : Nat) (xs : Nat → Int32) (D : va_G) (cI : ClassId) (cL : ClassId × ClassId) (h g : Nat → Nat) (ho : Nat) (tx cs rl gv fa1 la1 va1 : Nat → Int32) (mn1 : Int32) (fa2 la2 va2 : Nat → Int32) (mn2 : Int32) (fa3 la3 va3 : Nat → Int32) (mn3 b1 b2 b3 b4 b5 b6 ln lo kn fl rn : Int32) (fs lt kk mk mf ml ma : Nat → Int32) (il sz : Int32) (tt fh : Nat → Int32) (hd : Int32) (ot : Nat → Int64) (x4 : Int32) (z_x4 : Int) (v_x4 : gk_v x4 z_x4) (hz : 0 ≤ z_x4 ∧ z_x4 + 6 ≤ (L : Int)) (hL : L ≤ 3072)
    (hx : p.tables.exec = Jvm.exec) (hb : c.code = code) (hml : c.maxLocals = 7) (hown : s.vm.findClass "BreakPlacesLaw" = some m.cls) (hts : ∀ w ∈ wA, w.before #[Value.ref b] s = true) (hX : va_X b L xs s s.heap) (hbl : b < s.heap.size) (hbA : ¬ A b) (hF : gx_F A s s.heap) (hI : lw_I tx cs rl fa1 la1 va1 mn1 fa2 la2 va2 mn2 fa3 la3 va3 mn3 b1 b2 b3 b4 b5 b6 ln lo kn rn fs lt kk mk mf ml ma il sz tt) (H : Heap) (locs : List Loc) (cells slots : Nat) (hcs : cells + 1 ≤ 600000 ∧ slots + 6 ≤ 7200000) (ls : Array Slot)
    (hW : gk_W D vwCl (gk_T cI cL) s A H locs (wd_L cI cL h g ho tx cs rl gv fa1 la1 va1 mn1 fa2 la2 va2 mn2 fa3 la3 va3 mn3 b1 b2 b3 b4 b5 b6 ln lo kn fl rn fs lt kk mk mf ml ma il sz tt fh hd ot)) (hl : lv_has ls 7 [(0, .ref b), (1, .ref (h 0)), (2, .ref (g 0)), (3, .ref ho), (4, .int x4)])
    (KE : ∀ (tx cs rl gv fa1 la1 va1 : Nat → Int32) (mn1 : Int32) (fa2 la2 va2 : Nat → Int32) (mn2 : Int32) (fa3 la3 va3 : Nat → Int32) (mn3 b1 b2 b3 b4 b5 b6 ln lo kn fl rn : Int32) (fs lt kk mk mf ml ma : Nat → Int32) (il sz : Int32) (tt fh : Nat → Int32) (hd : Int32) (ot : Nat → Int64) (H : Heap) (locs : List Loc) (ls : Array Slot), lw_I tx cs rl fa1 la1 va1 mn1 fa2 la2 va2 mn2 fa3 la3 va3 mn3 b1 b2 b3 b4 b5 b6 ln lo kn rn fs lt kk mk mf ml ma il sz tt → gk_W D vwCl (gk_T cI cL) s A H locs (wd_L cI cL h g ho tx cs rl gv fa1 la1 va1 mn1 fa2 la2 va2 mn2 fa3 la3 va3 mn3 b1 b2 b3 b4 b5 b6 ln lo kn fl rn fs lt kk mk mf ml ma il sz tt fh hd ot) → lv_has ls 7 [(0, .ref b), (1, .ref (h 0)), (2, .ref (g 0)), (3, .ref ho), (4, .int x4)] → W p l e room_1 s m #[Value.ref b] below meth c H locs (cells + 1) (slots + 6) Q (F0 m 891 ls [])) : W p l e room_1 s m #[Value.ref b] below meth c H locs cells slots Q (F0 m 742 ls []) := by
  obtain ⟨z_ln, z_kn, z_mn1, z_mn2, z_mn3, z_rn, z_sz, ⟨v_ln, v_kn, v_mn1, v_mn2, v_mn3, v_rn, v_sz⟩, hln, hkn, hm1, hm2, hm3, hrn, hsz, hmk, hma, hlo, hil⟩ := pe_pre hI
  refine lv_aload_n hx hb d_law_742 rfl (lv_at hl 1 rfl) ?_
  refine lv_aload_n hx hb d_law_743 rfl (lv_at hl 0 rfl) ?_
  refine lv_iload hx hb d_law_744 (lv_at hl 4 rfl) ?_
  refine lv_iconst (v := 1) hx hb d_law_746 (by decide) ?_
  refine lv_iadd hx hb d_law_747 ?_
  obtain ⟨zt_1, vt_1, et_1⟩ := gk_add v_x4 (show gk_v 1 1 from rfl) (by omega) (by omega)
  refine va_sld hx hb hX hbl hbA hW.2.2.2.1 (i := x4 + 1) (gk_in vt_1 (by omega) (by omega)) d_law_748 ?_
  refine lv_aload_n hx hb d_law_749 rfl (lv_at hl 3 rfl) ?_
  refine gk_goI (wr := [((g 0), .inr (3, [.int fl, .int rn, .ref (g 1), .ref (g 2), .ref (g 3), .ref (g 4), .ref (g 5), .ref (g 6), .ref (g 7), .int il, .int sz, .ref (g 8), .ref (g 9), .int hd])), ((g 1), .inl (cI, 100, .inl fs)), ((g 2), .inl (cI, 100, .inl lt)), ((g 3), .inl (cI, 100, .inl kk)), ((g 4), .inl (cI, 2, .inl mk)), ((g 5), .inl (cI, 80, .inl mf)), ((g 6), .inl (cI, 80, .inl ml)), ((g 7), .inl (cL.2, 80, .inl ma)), ((g 8), .inl (cI, 2000, .inl tt)), ((g 9), .inl (cI, 5, .inl fh))]) hW [0, 1, 2, 3, 4, 5, 6, 7, 8, 9, 10, 11, 12, 13, 14, 15, 16, 17, 28] [18, 19, 20, 21, 22, 23, 24, 25, 26, 27] rfl rfl (by decide) (by decide) (vx_runSW (As := [.ref (h 0), .int (xs ((x4 + 1).toNatClampNeg)), .ref ho]) (rest := []) ⟨hx, hb, hml, hown, hts⟩ (c_hNext l hst D cI cL h tx cs rl gv fa1 la1 va1 mn1 fa2 la2 va2 mn2 fa3 la3 va3 mn3 b1 b2 b3 b4 b5 b6 ln lo kn ho ot (xs ((x4 + 1).toNatClampNeg)) z_kn v_kn z_ln v_ln z_mn2 v_mn2 z_mn3 v_mn3 hln hkn hm2 hm3 _) (gk_cwSW hts w_345 w_346 w_290 kw_hNext e_hNext rfl rfl ⟨Nat.le_of_ble_eq_true rfl, Nat.le_of_ble_eq_true rfl⟩) (gx_pre hW (hF.kept hW.2.2.2.1.2.1) [0, 1, 2, 3, 4, 5, 6, 7, 8, 9, 10, 11, 12, 13, 14, 15, 16, 17, 28] rfl rfl) rfl rfl hl.1 rfl (lv_room (Nat.le_of_ble_eq_true rfl)) d_law_750 ⟨by show _ ≤ 601024; omega, by show _ ≤ 7293034; omega⟩) (fun r_2 u H locs p_12 hW => ?_)
  obtain ⟨u_3, u_4, u_5, u_6, u_7, u_8, u_9, u_10, u_11⟩ := u
  have hW : gk_W D vwCl (gk_T cI cL) s A H locs (wd_L cI cL h g ho tx cs u_3 gv fa1 la1 va1 mn1 fa2 la2 va2 mn2 fa3 la3 va3 mn3 u_4 u_5 u_6 u_7 u_8 u_9 ln lo u_10 fl rn fs lt kk mk mf ml ma il sz tt fh hd u_11) := hW.re [10, 11, 12, 13, 14, 15, 16, 17, 18, 19, 20, 21, 22, 23, 24, 25, 26, 27, 0, 1, 2, 3, 4, 5, 6, 7, 8, 9, 28] (by decide) rfl
  refine lv_istore (lv' := [(5, .int r_2), (0, .ref b), (1, .ref (h 0)), (2, .ref (g 0)), (3, .ref ho), (4, .int x4)]) hx hb d_law_753 hl (by decide) rfl (fun ls hl => ?_)
  refine lv_aload_n hx hb d_law_755 rfl (lv_at hl 3 rfl) ?_
  refine lv_aload_n hx hb d_law_756 rfl (lv_at hl 1 rfl) ?_
  refine lv_iload hx hb d_law_757 (lv_at hl 5 rfl) ?_
  refine lv_iconst (v := 1) hx hb d_law_759 (by decide) ?_
  refine lv_iadd hx hb d_law_760 ?_
  obtain ⟨zt_13, vt_13, et_13⟩ := gk_add v_x4 (show gk_v 1 1 from rfl) (by omega) (by omega)
  refine va_sld hx hb hX hbl hbA hW.2.2.2.1 (i := x4 + 1) (gk_in vt_13 (by omega) (by omega)) d_law_761 ?_
  refine gk_goI (wr := [((h 0), .inr (0, [.ref (h 1), .ref (h 2), .ref (h 3), .ref (h 4), .ref (h 5), .ref (h 9), .ref (h 13), .ref (h 17), .int ln, .int lo, .int u_10])), ((h 1), .inl (cI, 2000, .inl tx)), ((h 2), .inl (cI, 2000, .inl cs)), ((h 3), .inl (cI, 2000, .inl u_3)), ((h 4), .inl (cI, 5, .inl gv)), ((h 5), .inr (1, [.ref (h 6), .ref (h 7), .ref (h 8), .int mn1])), ((h 6), .inl (cI, 100, .inl fa1)), ((h 7), .inl (cI, 100, .inl la1)), ((h 8), .inl (cI, 100, .inl va1)), ((h 9), .inr (1, [.ref (h 10), .ref (h 11), .ref (h 12), .int mn2])), ((h 10), .inl (cI, 40, .inl fa2)), ((h 11), .inl (cI, 40, .inl la2)), ((h 12), .inl (cI, 40, .inl va2)), ((h 13), .inr (1, [.ref (h 14), .ref (h 15), .ref (h 16), .int mn3])), ((h 14), .inl (cI, 40, .inl fa3)), ((h 15), .inl (cI, 40, .inl la3)), ((h 16), .inl (cI, 40, .inl va3)), ((h 17), .inr (2, [.int u_4, .int u_5, .int u_6, .int u_7, .int u_8, .int u_9])), (ho, .inl (cL.1, 1, .inr (.inl u_11)))]) hW [18, 19, 20, 21, 22, 23, 24, 25, 26, 27] [0, 1, 2, 3, 4, 5, 6, 7, 8, 9, 10, 11, 12, 13, 14, 15, 16, 17, 28] rfl rfl (by decide) (by decide) (va_runV (As := [.int (xs ((x4 + 1).toNatClampNeg))]) (rest := []) ⟨hx, hb, hml, hown, hts⟩ (c_mNext l D cI cL cL g fl rn fs lt kk mk mf ml ma il sz tt fh hd (xs ((x4 + 1).toNatClampNeg)) z_rn v_rn z_sz v_sz hsz hrn hmk hma _) (gk_cwV hts w_347 w_348 w_349 w_145 k_mNext rfl e_mNext rfl rfl ⟨Nat.le_of_ble_eq_true rfl, Nat.le_of_ble_eq_true rfl⟩) (gk_preV hW [18, 19, 20, 21, 22, 23, 24, 25, 26, 27] rfl rfl rfl rfl) rfl rfl hl.1 rfl (lv_room (Nat.le_of_ble_eq_true rfl)) d_law_762 ⟨by show _ ≤ 601024; omega, by show _ ≤ 7293034; omega⟩) (fun r_14 u H locs p_17 hW => ?_)
  obtain ⟨u_15, u_16⟩ := u
  have hW : gk_W D vwCl (gk_T cI cL) s A H locs (wd_L cI cL h g ho tx cs u_3 gv fa1 la1 va1 mn1 fa2 la2 va2 mn2 fa3 la3 va3 mn3 u_4 u_5 u_6 u_7 u_8 u_9 ln lo u_10 u_15 rn fs lt kk mk mf ml ma il sz tt fh u_16 u_11) := hW.re [0, 1, 2, 3, 4, 5, 6, 7, 8, 9, 10, 11, 12, 13, 14, 15, 16, 17, 19, 20, 21, 22, 23, 24, 25, 26, 27, 28, 18] (by decide) rfl
  obtain ⟨eF, eO, hI⟩ := pe_Next hI p_12 p_17
  refine lv_istore (lv' := [(6, .int r_14), (5, .int r_2), (0, .ref b), (1, .ref (h 0)), (2, .ref (g 0)), (3, .ref ho), (4, .int x4)]) hx hb d_law_765 hl (by decide) rfl (fun ls hl => ?_)
  refine lv_aload_n hx hb d_law_767 rfl (lv_at hl 4 rfl) ?_
  refine gk_goR hW [18, 19, 20, 21, 22, 23, 24, 25, 26, 27] rfl (va_runV (As := []) (rest := []) ⟨hx, hb, hml, hown, hts⟩ (c_mThrown l D cI cL cL g u_15 rn fs lt kk mk mf ml ma il sz tt fh u_16 _) (gk_cwV hts w_295 w_296 w_297 w_145 k_mThrown rfl e_mThrown rfl rfl ⟨Nat.le_of_ble_eq_true rfl, Nat.le_of_ble_eq_true rfl⟩) (gk_preV hW [18, 19, 20, 21, 22, 23, 24, 25, 26, 27] rfl rfl rfl rfl) rfl rfl hl.1 rfl (lv_room (Nat.le_of_ble_eq_true rfl)) d_law_768 ⟨by show _ ≤ 601024; omega, by show _ ≤ 7293034; omega⟩) (fun H locs hW => ?_)
  refine lv_iload hx hb d_law_771 (lv_at hl 1 rfl) ?_
  refine lv_icmp_eq (tgt := 778) hx hb d_law_773 (by decide) (fun c_18 => ?_) (fun c_18 => absurd eF c_18)
  refine lv_iload hx hb d_law_778 (lv_at hl 1 rfl) ?_
  refine lv_if_ne (tgt := 795) hx hb d_law_780 (by decide) (fun c_19 => ?_) (fun c_19 => ?_)
  · skip
    refine lv_goto (tgt := 891) hx hb d_law_795 (by decide) ?_
    exact KE tx cs u_3 gv fa1 la1 va1 mn1 fa2 la2 va2 mn2 fa3 la3 va3 mn3 u_4 u_5 u_6 u_7 u_8 u_9 ln lo u_10 u_15 rn fs lt kk mk mf ml ma il sz tt fh u_16 u_11 H locs ls hI hW (lv_sub hl [2, 3, 4, 5, 6] rfl)
  · skip
    refine lv_aload_n hx hb d_law_783 rfl (lv_at hl 5 rfl) ?_
    refine lv_iconst (v := 0) hx hb d_law_784 (by decide) ?_
    refine va_lald hx hb hW.1 hW.2.1 28 1 rfl rfl (i := 0) (gk_in (show gk_v 0 0 from rfl) (by omega) (by omega)) d_law_785 ?_
    refine lv_iload hx hb d_law_786 (lv_at hl 0 rfl) ?_
    refine lv_i2l (v := r_14.toInt64) hx hb d_law_788 rfl ?_
    refine W.lcmp hx hb d_law_789 ?_
    refine lv_if_eq (tgt := 795) hx hb d_law_790 (by decide) (fun c_20 => ?_) (fun c_20 => absurd (eO c_19) c_20)
    refine lv_goto (tgt := 891) hx hb d_law_795 (by decide) ?_
    exact KE tx cs u_3 gv fa1 la1 va1 mn1 fa2 la2 va2 mn2 fa3 la3 va3 mn3 u_4 u_5 u_6 u_7 u_8 u_9 ln lo u_10 u_15 rn fs lt kk mk mf ml ma il sz tt fh u_16 u_11 H locs ls hI hW (lv_sub hl [2, 3, 4, 5, 6] rfl)
set_option maxHeartbeats 4000000 in
set_option maxRecDepth 100000 in
theorem lc_Fit (l : Launch) (hst : l.stackTraces = false) (p : Program) (e : Env) (s : State) (m : MethodId) (below : List Frame) (meth : Method) (c : Code) (A : Nat → Prop) (Q : State → Prop) (b L : Nat) (xs : Nat → Int32) (D : va_G) (cI : ClassId) (cL : ClassId × ClassId) (h g : Nat → Nat) (ho : Nat) (tx cs rl gv fa1 la1 va1 : Nat → Int32) (mn1 : Int32) (fa2 la2 va2 : Nat → Int32) (mn2 : Int32) (fa3 la3 va3 : Nat → Int32) (mn3 b1 b2 b3 b4 b5 b6 ln lo kn fl rn : Int32) (fs lt kk mk mf ml ma : Nat → Int32) (il sz : Int32) (tt fh : Nat → Int32) (hd : Int32) (ot : Nat → Int64) (x4 : Int32) (z_x4 : Int) (v_x4 : gk_v x4 z_x4) (hz : 0 ≤ z_x4 ∧ z_x4 + 6 ≤ (L : Int)) (hL : L ≤ 3072)
    (hx : p.tables.exec = Jvm.exec) (hb : c.code = code) (hml : c.maxLocals = 7) (hown : s.vm.findClass "BreakPlacesLaw" = some m.cls) (hts : ∀ w ∈ wA, w.before #[Value.ref b] s = true) (hX : va_X b L xs s s.heap) (hbl : b < s.heap.size) (hbA : ¬ A b) (hF : gx_F A s s.heap) (hI : lw_I tx cs rl fa1 la1 va1 mn1 fa2 la2 va2 mn2 fa3 la3 va3 mn3 b1 b2 b3 b4 b5 b6 ln lo kn rn fs lt kk mk mf ml ma il sz tt) (H : Heap) (locs : List Loc) (cells slots : Nat) (hcs : cells + 1 ≤ 600000 ∧ slots + 6 ≤ 7200000) (ls : Array Slot)
    (hW : gk_W D vwCl (gk_T cI cL) s A H locs (wd_L cI cL h g ho tx cs rl gv fa1 la1 va1 mn1 fa2 la2 va2 mn2 fa3 la3 va3 mn3 b1 b2 b3 b4 b5 b6 ln lo kn fl rn fs lt kk mk mf ml ma il sz tt fh hd ot)) (hl : lv_has ls 7 [(0, .ref b), (1, .ref (h 0)), (2, .ref (g 0)), (3, .ref ho), (4, .int x4)])
    (KE : ∀ (tx cs rl gv fa1 la1 va1 : Nat → Int32) (mn1 : Int32) (fa2 la2 va2 : Nat → Int32) (mn2 : Int32) (fa3 la3 va3 : Nat → Int32) (mn3 b1 b2 b3 b4 b5 b6 ln lo kn fl rn : Int32) (fs lt kk mk mf ml ma : Nat → Int32) (il sz : Int32) (tt fh : Nat → Int32) (hd : Int32) (ot : Nat → Int64) (H : Heap) (locs : List Loc) (ls : Array Slot), lw_I tx cs rl fa1 la1 va1 mn1 fa2 la2 va2 mn2 fa3 la3 va3 mn3 b1 b2 b3 b4 b5 b6 ln lo kn rn fs lt kk mk mf ml ma il sz tt → gk_W D vwCl (gk_T cI cL) s A H locs (wd_L cI cL h g ho tx cs rl gv fa1 la1 va1 mn1 fa2 la2 va2 mn2 fa3 la3 va3 mn3 b1 b2 b3 b4 b5 b6 ln lo kn fl rn fs lt kk mk mf ml ma il sz tt fh hd ot) → lv_has ls 7 [(0, .ref b), (1, .ref (h 0)), (2, .ref (g 0)), (3, .ref ho), (4, .int x4)] → W p l e room_1 s m #[Value.ref b] below meth c H locs (cells + 1) (slots + 6) Q (F0 m 891 ls [])) : W p l e room_1 s m #[Value.ref b] below meth c H locs cells slots Q (F0 m 798 ls []) := by
  obtain ⟨z_ln, z_kn, z_mn1, z_mn2, z_mn3, z_rn, z_sz, ⟨v_ln, v_kn, v_mn1, v_mn2, v_mn3, v_rn, v_sz⟩, hln, hkn, hm1, hm2, hm3, hrn, hsz, hmk, hma, hlo, hil⟩ := pe_pre hI
  refine lv_aload_n hx hb d_law_798 rfl (lv_at hl 1 rfl) ?_
  refine lv_aload_n hx hb d_law_799 rfl (lv_at hl 0 rfl) ?_
  refine lv_iload hx hb d_law_800 (lv_at hl 4 rfl) ?_
  refine lv_iconst (v := 1) hx hb d_law_802 (by decide) ?_
  refine lv_iadd hx hb d_law_803 ?_
  obtain ⟨zt_1, vt_1, et_1⟩ := gk_add v_x4 (show gk_v 1 1 from rfl) (by omega) (by omega)
  refine va_sld hx hb hX hbl hbA hW.2.2.2.1 (i := x4 + 1) (gk_in vt_1 (by omega) (by omega)) d_law_804 ?_
  refine lv_aload_n hx hb d_law_805 rfl (lv_at hl 0 rfl) ?_
  refine lv_iload hx hb d_law_806 (lv_at hl 4 rfl) ?_
  refine lv_iconst (v := 2) hx hb d_law_808 (by decide) ?_
  refine lv_iadd hx hb d_law_809 ?_
  obtain ⟨zt_2, vt_2, et_2⟩ := gk_add v_x4 (show gk_v 2 2 from rfl) (by omega) (by omega)
  refine va_sld hx hb hX hbl hbA hW.2.2.2.1 (i := x4 + 2) (gk_in vt_2 (by omega) (by omega)) d_law_810 ?_
  refine lv_aload_n hx hb d_law_811 rfl (lv_at hl 3 rfl) ?_
  refine gk_goI (wr := [((g 0), .inr (3, [.int fl, .int rn, .ref (g 1), .ref (g 2), .ref (g 3), .ref (g 4), .ref (g 5), .ref (g 6), .ref (g 7), .int il, .int sz, .ref (g 8), .ref (g 9), .int hd])), ((g 1), .inl (cI, 100, .inl fs)), ((g 2), .inl (cI, 100, .inl lt)), ((g 3), .inl (cI, 100, .inl kk)), ((g 4), .inl (cI, 2, .inl mk)), ((g 5), .inl (cI, 80, .inl mf)), ((g 6), .inl (cI, 80, .inl ml)), ((g 7), .inl (cL.2, 80, .inl ma)), ((g 8), .inl (cI, 2000, .inl tt)), ((g 9), .inl (cI, 5, .inl fh))]) hW [0, 1, 2, 3, 4, 5, 6, 7, 8, 9, 10, 11, 12, 13, 14, 15, 16, 17, 28] [18, 19, 20, 21, 22, 23, 24, 25, 26, 27] rfl rfl (by decide) (by decide) (vx_runSW (As := [.ref (h 0), .int (xs ((x4 + 1).toNatClampNeg)), .int (xs ((x4 + 2).toNatClampNeg)), .ref ho]) (rest := []) ⟨hx, hb, hml, hown, hts⟩ (c_hFit l hst D cI cL h tx cs rl gv fa1 la1 va1 mn1 fa2 la2 va2 mn2 fa3 la3 va3 mn3 b1 b2 b3 b4 b5 b6 ln lo kn ho ot (xs ((x4 + 1).toNatClampNeg)) (xs ((x4 + 2).toNatClampNeg)) z_kn v_kn z_ln v_ln z_mn2 v_mn2 z_mn3 v_mn3 hln hkn hm2 hm3 _) (gk_cwSW hts w_350 w_351 w_290 kw_hFit e_hFit rfl rfl ⟨Nat.le_of_ble_eq_true rfl, Nat.le_of_ble_eq_true rfl⟩) (gx_pre hW (hF.kept hW.2.2.2.1.2.1) [0, 1, 2, 3, 4, 5, 6, 7, 8, 9, 10, 11, 12, 13, 14, 15, 16, 17, 28] rfl rfl) rfl rfl hl.1 rfl (lv_room (Nat.le_of_ble_eq_true rfl)) d_law_812 ⟨by show _ ≤ 601024; omega, by show _ ≤ 7293034; omega⟩) (fun r_3 u H locs p_13 hW => ?_)
  obtain ⟨u_4, u_5, u_6, u_7, u_8, u_9, u_10, u_11, u_12⟩ := u
  have hW : gk_W D vwCl (gk_T cI cL) s A H locs (wd_L cI cL h g ho tx cs u_4 gv fa1 la1 va1 mn1 fa2 la2 va2 mn2 fa3 la3 va3 mn3 u_5 u_6 u_7 u_8 u_9 u_10 ln lo u_11 fl rn fs lt kk mk mf ml ma il sz tt fh hd u_12) := hW.re [10, 11, 12, 13, 14, 15, 16, 17, 18, 19, 20, 21, 22, 23, 24, 25, 26, 27, 0, 1, 2, 3, 4, 5, 6, 7, 8, 9, 28] (by decide) rfl
  refine lv_istore (lv' := [(5, .int r_3), (0, .ref b), (1, .ref (h 0)), (2, .ref (g 0)), (3, .ref ho), (4, .int x4)]) hx hb d_law_815 hl (by decide) rfl (fun ls hl => ?_)
  refine lv_aload_n hx hb d_law_817 rfl (lv_at hl 3 rfl) ?_
  refine lv_aload_n hx hb d_law_818 rfl (lv_at hl 1 rfl) ?_
  refine lv_iload hx hb d_law_819 (lv_at hl 5 rfl) ?_
  refine lv_iconst (v := 1) hx hb d_law_821 (by decide) ?_
  refine lv_iadd hx hb d_law_822 ?_
  obtain ⟨zt_14, vt_14, et_14⟩ := gk_add v_x4 (show gk_v 1 1 from rfl) (by omega) (by omega)
  refine va_sld hx hb hX hbl hbA hW.2.2.2.1 (i := x4 + 1) (gk_in vt_14 (by omega) (by omega)) d_law_823 ?_
  refine lv_aload_n hx hb d_law_824 rfl (lv_at hl 1 rfl) ?_
  refine lv_iload hx hb d_law_825 (lv_at hl 5 rfl) ?_
  refine lv_iconst (v := 2) hx hb d_law_827 (by decide) ?_
  refine lv_iadd hx hb d_law_828 ?_
  obtain ⟨zt_15, vt_15, et_15⟩ := gk_add v_x4 (show gk_v 2 2 from rfl) (by omega) (by omega)
  refine va_sld hx hb hX hbl hbA hW.2.2.2.1 (i := x4 + 2) (gk_in vt_15 (by omega) (by omega)) d_law_829 ?_
  refine gk_goI (wr := [((h 0), .inr (0, [.ref (h 1), .ref (h 2), .ref (h 3), .ref (h 4), .ref (h 5), .ref (h 9), .ref (h 13), .ref (h 17), .int ln, .int lo, .int u_11])), ((h 1), .inl (cI, 2000, .inl tx)), ((h 2), .inl (cI, 2000, .inl cs)), ((h 3), .inl (cI, 2000, .inl u_4)), ((h 4), .inl (cI, 5, .inl gv)), ((h 5), .inr (1, [.ref (h 6), .ref (h 7), .ref (h 8), .int mn1])), ((h 6), .inl (cI, 100, .inl fa1)), ((h 7), .inl (cI, 100, .inl la1)), ((h 8), .inl (cI, 100, .inl va1)), ((h 9), .inr (1, [.ref (h 10), .ref (h 11), .ref (h 12), .int mn2])), ((h 10), .inl (cI, 40, .inl fa2)), ((h 11), .inl (cI, 40, .inl la2)), ((h 12), .inl (cI, 40, .inl va2)), ((h 13), .inr (1, [.ref (h 14), .ref (h 15), .ref (h 16), .int mn3])), ((h 14), .inl (cI, 40, .inl fa3)), ((h 15), .inl (cI, 40, .inl la3)), ((h 16), .inl (cI, 40, .inl va3)), ((h 17), .inr (2, [.int u_5, .int u_6, .int u_7, .int u_8, .int u_9, .int u_10])), (ho, .inl (cL.1, 1, .inr (.inl u_12)))]) hW [18, 19, 20, 21, 22, 23, 24, 25, 26, 27] [0, 1, 2, 3, 4, 5, 6, 7, 8, 9, 10, 11, 12, 13, 14, 15, 16, 17, 28] rfl rfl (by decide) (by decide) (va_runV (As := [.int (xs ((x4 + 1).toNatClampNeg)), .int (xs ((x4 + 2).toNatClampNeg))]) (rest := []) ⟨hx, hb, hml, hown, hts⟩ (c_mFit l D cI cL cL g fl rn fs lt kk mk mf ml ma il sz tt fh hd (xs ((x4 + 1).toNatClampNeg)) (xs ((x4 + 2).toNatClampNeg)) z_rn v_rn z_sz v_sz hsz hrn hmk hma _) (gk_cwV hts w_352 w_353 w_354 w_145 k_mFit rfl e_mFit rfl rfl ⟨Nat.le_of_ble_eq_true rfl, Nat.le_of_ble_eq_true rfl⟩) (gk_preV hW [18, 19, 20, 21, 22, 23, 24, 25, 26, 27] rfl rfl rfl rfl) rfl rfl hl.1 rfl (lv_room (Nat.le_of_ble_eq_true rfl)) d_law_830 ⟨by show _ ≤ 601024; omega, by show _ ≤ 7293034; omega⟩) (fun r_16 u H locs p_19 hW => ?_)
  obtain ⟨u_17, u_18⟩ := u
  have hW : gk_W D vwCl (gk_T cI cL) s A H locs (wd_L cI cL h g ho tx cs u_4 gv fa1 la1 va1 mn1 fa2 la2 va2 mn2 fa3 la3 va3 mn3 u_5 u_6 u_7 u_8 u_9 u_10 ln lo u_11 u_17 rn fs lt kk mk mf ml ma il sz tt fh u_18 u_12) := hW.re [0, 1, 2, 3, 4, 5, 6, 7, 8, 9, 10, 11, 12, 13, 14, 15, 16, 17, 19, 20, 21, 22, 23, 24, 25, 26, 27, 28, 18] (by decide) rfl
  obtain ⟨eF, eO, hI⟩ := pe_Fit hI p_13 p_19
  refine lv_istore (lv' := [(6, .int r_16), (5, .int r_3), (0, .ref b), (1, .ref (h 0)), (2, .ref (g 0)), (3, .ref ho), (4, .int x4)]) hx hb d_law_833 hl (by decide) rfl (fun ls hl => ?_)
  refine lv_aload_n hx hb d_law_835 rfl (lv_at hl 4 rfl) ?_
  refine gk_goR hW [18, 19, 20, 21, 22, 23, 24, 25, 26, 27] rfl (va_runV (As := []) (rest := []) ⟨hx, hb, hml, hown, hts⟩ (c_mThrown l D cI cL cL g u_17 rn fs lt kk mk mf ml ma il sz tt fh u_18 _) (gk_cwV hts w_295 w_296 w_297 w_145 k_mThrown rfl e_mThrown rfl rfl ⟨Nat.le_of_ble_eq_true rfl, Nat.le_of_ble_eq_true rfl⟩) (gk_preV hW [18, 19, 20, 21, 22, 23, 24, 25, 26, 27] rfl rfl rfl rfl) rfl rfl hl.1 rfl (lv_room (Nat.le_of_ble_eq_true rfl)) d_law_836 ⟨by show _ ≤ 601024; omega, by show _ ≤ 7293034; omega⟩) (fun H locs hW => ?_)
  refine lv_iload hx hb d_law_839 (lv_at hl 1 rfl) ?_
  refine lv_icmp_eq (tgt := 846) hx hb d_law_841 (by decide) (fun c_20 => ?_) (fun c_20 => absurd eF c_20)
  refine lv_iload hx hb d_law_846 (lv_at hl 1 rfl) ?_
  refine lv_if_ne (tgt := 863) hx hb d_law_848 (by decide) (fun c_21 => ?_) (fun c_21 => ?_)
  · skip
    refine lv_goto (tgt := 891) hx hb d_law_863 (by decide) ?_
    exact KE tx cs u_4 gv fa1 la1 va1 mn1 fa2 la2 va2 mn2 fa3 la3 va3 mn3 u_5 u_6 u_7 u_8 u_9 u_10 ln lo u_11 u_17 rn fs lt kk mk mf ml ma il sz tt fh u_18 u_12 H locs ls hI hW (lv_sub hl [2, 3, 4, 5, 6] rfl)
  · skip
    refine lv_aload_n hx hb d_law_851 rfl (lv_at hl 5 rfl) ?_
    refine lv_iconst (v := 0) hx hb d_law_852 (by decide) ?_
    refine va_lald hx hb hW.1 hW.2.1 28 1 rfl rfl (i := 0) (gk_in (show gk_v 0 0 from rfl) (by omega) (by omega)) d_law_853 ?_
    refine lv_iload hx hb d_law_854 (lv_at hl 0 rfl) ?_
    refine lv_i2l (v := r_16.toInt64) hx hb d_law_856 rfl ?_
    refine W.lcmp hx hb d_law_857 ?_
    refine lv_if_eq (tgt := 863) hx hb d_law_858 (by decide) (fun c_22 => ?_) (fun c_22 => absurd (eO c_21) c_22)
    refine lv_goto (tgt := 891) hx hb d_law_863 (by decide) ?_
    exact KE tx cs u_4 gv fa1 la1 va1 mn1 fa2 la2 va2 mn2 fa3 la3 va3 mn3 u_5 u_6 u_7 u_8 u_9 u_10 ln lo u_11 u_17 rn fs lt kk mk mf ml ma il sz tt fh u_18 u_12 H locs ls hI hW (lv_sub hl [2, 3, 4, 5, 6] rfl)
