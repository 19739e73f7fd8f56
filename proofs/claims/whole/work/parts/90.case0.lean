set_option maxHeartbeats 4000000 in
set_option maxRecDepth 100000 in
theorem lc_Property (l : Launch) (hst : l.stackTraces = false) (p : Program) (e : Env) (s : State) (m : MethodId) (below : List Frame) (meth : Method) (c : Code) (A : Nat → Prop) (Q : State → Prop) (b L : Nat) (xs : Nat → Int32) (D : va_G) (cI : ClassId) (cL : ClassId × ClassId) (h g : Nat → Nat) (ho : Nat) (tx cs rl gv fa1 la1 va1 : Nat → Int32) (mn1 : Int32) (fa2 la2 va2 : Nat → Int32) (mn2 : Int32) (fa3 la3 va3 : Nat → Int32) (mn3 b1 b2 b3 b4 b5 b6 ln lo kn fl rn : Int32) (fs lt kk mk mf ml ma : Nat → Int32) (il sz : Int32) (tt fh : Nat → Int32) (hd : Int32) (ot : Nat → Int64) (x4 : Int32) (z_x4 : Int) (v_x4 : gk_v x4 z_x4) (hz : 0 ≤ z_x4 ∧ z_x4 + 6 ≤ (L : Int)) (hL : L ≤ 3072)
    (hx : p.tables.exec = Jvm.exec) (hb : c.code = code) (hml : c.maxLocals = 7) (hown : s.vm.findClass "BreakPlacesLaw" = some m.cls) (hts : ∀ w ∈ wA, w.before #[Value.ref b] s = true) (hX : va_X b L xs s s.heap) (hbl : b < s.heap.size) (hbA : ¬ A b) (hF : gx_F A s s.heap) (hI : lw_I tx cs rl fa1 la1 va1 mn1 fa2 la2 va2 mn2 fa3 la3 va3 mn3 b1 b2 b3 b4 b5 b6 ln lo kn rn fs lt kk mk mf ml ma il sz tt) (H : Heap) (locs : List Loc) (cells slots : Nat) (hcs : cells + 1 ≤ 600000 ∧ slots + 6 ≤ 7200000) (ls : Array Slot)
    (hW : gk_W D vwCl (gk_T cI cL) s A H locs (wd_L cI cL h g ho tx cs rl gv fa1 la1 va1 mn1 fa2 la2 va2 mn2 fa3 la3 va3 mn3 b1 b2 b3 b4 b5 b6 ln lo kn fl rn fs lt kk mk mf ml ma il sz tt fh hd ot)) (hl : lv_has ls 7 [(0, .ref b), (1, .ref (h 0)), (2, .ref (g 0)), (3, .ref ho), (4, .int x4)])
    (KE : ∀ (tx cs rl gv fa1 la1 va1 : Nat → Int32) (mn1 : Int32) (fa2 la2 va2 : Nat → Int32) (mn2 : Int32) (fa3 la3 va3 : Nat → Int32) (mn3 b1 b2 b3 b4 b5 b6 ln lo kn fl rn : Int32) (fs lt kk mk mf ml ma : Nat → Int32) (il sz : Int32) (tt fh : Nat → Int32) (hd : Int32) (ot : Nat → Int64) (H : Heap) (locs : List Loc) (ls : Array Slot), lw_I tx cs rl fa1 la1 va1 mn1 fa2 la2 va2 mn2 fa3 la3 va3 mn3 b1 b2 b3 b4 b5 b6 ln lo kn rn fs lt kk mk mf ml ma il sz tt → gk_W D vwCl (gk_T cI cL) s A H locs (wd_L cI cL h g ho tx cs rl gv fa1 la1 va1 mn1 fa2 la2 va2 mn2 fa3 la3 va3 mn3 b1 b2 b3 b4 b5 b6 ln lo kn fl rn fs lt kk mk mf ml ma il sz tt fh hd ot) → lv_has ls 7 [(0, .ref b), (1, .ref (h 0)), (2, .ref (g 0)), (3, .ref ho), (4, .int x4)] → W p l e room_1 s m #[Value.ref b] below meth c H locs (cells + 1) (slots + 6) Q (F0 m 891 ls [])) : W p l e room_1 s m #[Value.ref b] below meth c H locs cells slots Q (F0 m 108 ls []) := by
  obtain ⟨z_ln, z_kn, z_mn1, z_mn2, z_mn3, z_rn, z_sz, ⟨v_ln, v_kn, v_mn1, v_mn2, v_mn3, v_rn, v_sz⟩, hln, hkn, hm1, hm2, hm3, hrn, hsz, hmk, hma, hlo, hil⟩ := pe_pre hI
  refine lv_aload_n hx hb d_law_108 rfl (lv_at hl 1 rfl) ?_
  refine lv_aload_n hx hb d_law_109 rfl (lv_at hl 0 rfl) ?_
  refine lv_iload hx hb d_law_110 (lv_at hl 4 rfl) ?_
  refine lv_iconst (v := 1) hx hb d_law_112 (by decide) ?_
  refine lv_iadd hx hb d_law_113 ?_
  obtain ⟨zt_1, vt_1, et_1⟩ := gk_add v_x4 (show gk_v 1 1 from rfl) (by omega) (by omega)
  refine va_sld hx hb hX hbl hbA hW.2.2.2.1 (i := x4 + 1) (gk_in vt_1 (by omega) (by omega)) d_law_114 ?_
  refine lv_aload_n hx hb d_law_115 rfl (lv_at hl 0 rfl) ?_
  refine lv_iload hx hb d_law_116 (lv_at hl 4 rfl) ?_
  refine lv_iconst (v := 2) hx hb d_law_118 (by decide) ?_
  refine lv_iadd hx hb d_law_119 ?_
  obtain ⟨zt_2, vt_2, et_2⟩ := gk_add v_x4 (show gk_v 2 2 from rfl) (by omega) (by omega)
  refine va_sld hx hb hX hbl hbA hW.2.2.2.1 (i := x4 + 2) (gk_in vt_2 (by omega) (by omega)) d_law_120 ?_
  refine lv_aload_n hx hb d_law_121 rfl (lv_at hl 0 rfl) ?_
  refine lv_iload hx hb d_law_122 (lv_at hl 4 rfl) ?_
  refine lv_iconst (v := 3) hx hb d_law_124 (by decide) ?_
  refine lv_iadd hx hb d_law_125 ?_
  obtain ⟨zt_3, vt_3, et_3⟩ := gk_add v_x4 (show gk_v 3 3 from rfl) (by omega) (by omega)
  refine va_sld hx hb hX hbl hbA hW.2.2.2.1 (i := x4 + 3) (gk_in vt_3 (by omega) (by omega)) d_law_126 ?_
  refine gk_goI (wr := [((g 0), .inr (3, [.int fl, .int rn, .ref (g 1), .ref (g 2), .ref (g 3), .ref (g 4), .ref (g 5), .ref (g 6), .ref (g 7), .int il, .int sz, .ref (g 8), .ref (g 9), .int hd])), ((g 1), .inl (cI, 100, .inl fs)), ((g 2), .inl (cI, 100, .inl lt)), ((g 3), .inl (cI, 100, .inl kk)), ((g 4), .inl (cI, 2, .inl mk)), ((g 5), .inl (cI, 80, .inl mf)), ((g 6), .inl (cI, 80, .inl ml)), ((g 7), .inl (cL.2, 80, .inl ma)), ((g 8), .inl (cI, 2000, .inl tt)), ((g 9), .inl (cI, 5, .inl fh)), (ho, .inl (cL.1, 1, .inr (.inl ot)))]) hW [0, 1, 2, 3, 4, 5, 6, 7, 8, 9, 10, 11, 12, 13, 14, 15, 16, 17] [18, 19, 20, 21, 22, 23, 24, 25, 26, 27, 28] rfl rfl (by decide) (by decide) (vx_runSW (As := [.ref (h 0), .int (xs ((x4 + 1).toNatClampNeg)), .int (xs ((x4 + 2).toNatClampNeg)), .int (xs ((x4 + 3).toNatClampNeg))]) (rest := []) ⟨hx, hb, hml, hown, hts⟩ (c_hProperty l hst D cI cL h tx cs rl gv fa1 la1 va1 mn1 fa2 la2 va2 mn2 fa3 la3 va3 mn3 b1 b2 b3 b4 b5 b6 ln lo kn (xs ((x4 + 1).toNatClampNeg)) (xs ((x4 + 2).toNatClampNeg)) (xs ((x4 + 3).toNatClampNeg)) z_ln v_ln z_mn1 v_mn1 hln hm1 _) (gk_cwSW hts w_289 w_291 w_290 kw_hProperty e_hProperty rfl rfl ⟨Nat.le_of_ble_eq_true rfl, Nat.le_of_ble_eq_true rfl⟩) (gx_pre hW (hF.kept hW.2.2.2.1.2.1) [0, 1, 2, 3, 4, 5, 6, 7, 8, 9, 10, 11, 12, 13, 14, 15, 16, 17] rfl rfl) rfl rfl hl.1 rfl (lv_room (Nat.le_of_ble_eq_true rfl)) d_law_127 ⟨by show _ ≤ 601024; omega, by show _ ≤ 7293034; omega⟩) (fun r_4 u H locs p_17 hW => ?_)
  obtain ⟨u_5, u_6, u_7, u_8, u_9, u_10, u_11, u_12, u_13, u_14, u_15, u_16⟩ := u
  have hW : gk_W D vwCl (gk_T cI cL) s A H locs (wd_L cI cL h g ho tx u_5 rl gv u_6 u_7 u_8 u_9 fa2 la2 va2 mn2 fa3 la3 va3 mn3 u_10 u_11 u_12 u_13 u_14 u_15 ln lo u_16 fl rn fs lt kk mk mf ml ma il sz tt fh hd ot) := hW.re [11, 12, 13, 14, 15, 16, 17, 18, 19, 20, 21, 22, 23, 24, 25, 26, 27, 28, 0, 1, 2, 3, 4, 5, 6, 7, 8, 9, 10] (by decide) rfl
  refine lv_istore (lv' := [(5, .int r_4), (0, .ref b), (1, .ref (h 0)), (2, .ref (g 0)), (3, .ref ho), (4, .int x4)]) hx hb d_law_130 hl (by decide) rfl (fun ls hl => ?_)
  refine lv_aload_n hx hb d_law_132 rfl (lv_at hl 3 rfl) ?_
  refine lv_aload_n hx hb d_law_133 rfl (lv_at hl 1 rfl) ?_
  refine lv_iload hx hb d_law_134 (lv_at hl 5 rfl) ?_
  refine lv_iconst (v := 1) hx hb d_law_136 (by decide) ?_
  refine lv_iadd hx hb d_law_137 ?_
  obtain ⟨zt_18, vt_18, et_18⟩ := gk_add v_x4 (show gk_v 1 1 from rfl) (by omega) (by omega)
  refine va_sld hx hb hX hbl hbA hW.2.2.2.1 (i := x4 + 1) (gk_in vt_18 (by omega) (by omega)) d_law_138 ?_
  refine lv_aload_n hx hb d_law_139 rfl (lv_at hl 1 rfl) ?_
  refine lv_iload hx hb d_law_140 (lv_at hl 5 rfl) ?_
  refine lv_iconst (v := 2) hx hb d_law_142 (by decide) ?_
  refine lv_iadd hx hb d_law_143 ?_
  obtain ⟨zt_19, vt_19, et_19⟩ := gk_add v_x4 (show gk_v 2 2 from rfl) (by omega) (by omega)
  refine va_sld hx hb hX hbl hbA hW.2.2.2.1 (i := x4 + 2) (gk_in vt_19 (by omega) (by omega)) d_law_144 ?_
  refine lv_aload_n hx hb d_law_145 rfl (lv_at hl 1 rfl) ?_
  refine lv_iload hx hb d_law_146 (lv_at hl 5 rfl) ?_
  refine lv_iconst (v := 3) hx hb d_law_148 (by decide) ?_
  refine lv_iadd hx hb d_law_149 ?_
  obtain ⟨zt_20, vt_20, et_20⟩ := gk_add v_x4 (show gk_v 3 3 from rfl) (by omega) (by omega)
  refine va_sld hx hb hX hbl hbA hW.2.2.2.1 (i := x4 + 3) (gk_in vt_20 (by omega) (by omega)) d_law_150 ?_
  refine gk_goV (wr := [((h 0), .inr (0, [.ref (h 1), .ref (h 2), .ref (h 3), .ref (h 4), .ref (h 5), .ref (h 9), .ref (h 13), .ref (h 17), .int ln, .int lo, .int u_16])), ((h 1), .inl (cI, 2000, .inl tx)), ((h 2), .inl (cI, 2000, .inl u_5)), ((h 3), .inl (cI, 2000, .inl rl)), ((h 4), .inl (cI, 5, .inl gv)), ((h 5), .inr (1, [.ref (h 6), .ref (h 7), .ref (h 8), .int u_9])), ((h 6), .inl (cI, 100, .inl u_6)), ((h 7), .inl (cI, 100, .inl u_7)), ((h 8), .inl (cI, 100, .inl u_8)), ((h 9), .inr (1, [.ref (h 10), .ref (h 11), .ref (h 12), .int mn2])), ((h 10), .inl (cI, 40, .inl fa2)), ((h 11), .inl (cI, 40, .inl la2)), ((h 12), .inl (cI, 40, .inl va2)), ((h 13), .inr (1, [.ref (h 14), .ref (h 15), .ref (h 16), .int mn3])), ((h 14), .inl (cI, 40, .inl fa3)), ((h 15), .inl (cI, 40, .inl la3)), ((h 16), .inl (cI, 40, .inl va3)), ((h 17), .inr (2, [.int u_10, .int u_11, .int u_12, .int u_13, .int u_14, .int u_15])), (ho, .inl (cL.1, 1, .inr (.inl ot)))]) hW [18, 19, 20, 21, 22, 23, 24, 25, 26, 27] [0, 1, 2, 3, 4, 5, 6, 7, 8, 9, 10, 11, 12, 13, 14, 15, 16, 17, 28] rfl rfl (by decide) (by decide) (va_runV (As := [.int (xs ((x4 + 1).toNatClampNeg)), .int (xs ((x4 + 2).toNatClampNeg)), .int (xs ((x4 + 3).toNatClampNeg))]) (rest := []) ⟨hx, hb, hml, hown, hts⟩ (c_mProperty l D cI cL cL g fl rn fs lt kk mk mf ml ma il sz tt fh hd (xs ((x4 + 1).toNatClampNeg)) (xs ((x4 + 2).toNatClampNeg)) (xs ((x4 + 3).toNatClampNeg)) z_rn v_rn hrn _) (gk_cwV hts w_292 w_293 w_294 w_145 k_mProperty rfl e_mProperty rfl rfl ⟨Nat.le_of_ble_eq_true rfl, Nat.le_of_ble_eq_true rfl⟩) (gk_preV hW [18, 19, 20, 21, 22, 23, 24, 25, 26, 27] rfl rfl rfl rfl) rfl rfl hl.1 rfl (lv_room (Nat.le_of_ble_eq_true rfl)) d_law_151 ⟨by show _ ≤ 601024; omega, by show _ ≤ 7293034; omega⟩) (fun u H locs p_26 hW => ?_)
  obtain ⟨u_21, u_22, u_23, u_24, u_25⟩ := u
  have hW : gk_W D vwCl (gk_T cI cL) s A H locs (wd_L cI cL h g ho tx u_5 rl gv u_6 u_7 u_8 u_9 fa2 la2 va2 mn2 fa3 la3 va3 mn3 u_10 u_11 u_12 u_13 u_14 u_15 ln lo u_16 u_21 u_22 u_23 u_24 u_25 mk mf ml ma il sz tt fh hd ot) := hW.re [0, 1, 2, 3, 4, 5, 6, 7, 8, 9, 10, 11, 12, 13, 14, 15, 16, 17, 19, 20, 21, 22, 23, 24, 25, 26, 27, 28, 18] (by decide) rfl
  obtain ⟨eF, hI⟩ := pe_Property hI p_17 p_26
  refine lv_aload_n hx hb d_law_154 rfl (lv_at hl 3 rfl) ?_
  refine gk_goR hW [18, 19, 20, 21, 22, 23, 24, 25, 26, 27] rfl (va_runV (As := []) (rest := []) ⟨hx, hb, hml, hown, hts⟩ (c_mThrown l D cI cL cL g u_21 u_22 u_23 u_24 u_25 mk mf ml ma il sz tt fh hd _) (gk_cwV hts w_295 w_296 w_297 w_145 k_mThrown rfl e_mThrown rfl rfl ⟨Nat.le_of_ble_eq_true rfl, Nat.le_of_ble_eq_true rfl⟩) (gk_preV hW [18, 19, 20, 21, 22, 23, 24, 25, 26, 27] rfl rfl rfl rfl) rfl rfl hl.1 rfl (lv_room (Nat.le_of_ble_eq_true rfl)) d_law_155 ⟨by show _ ≤ 601024; omega, by show _ ≤ 7293034; omega⟩) (fun H locs hW => ?_)
  refine lv_iload hx hb d_law_158 (lv_at hl 0 rfl) ?_
  refine lv_icmp_eq (tgt := 165) hx hb d_law_160 (by decide) (fun c_27 => ?_) (fun c_27 => absurd eF c_27)
  refine lv_goto (tgt := 891) hx hb d_law_165 (by decide) ?_
  exact KE tx u_5 rl gv u_6 u_7 u_8 u_9 fa2 la2 va2 mn2 fa3 la3 va3 mn3 u_10 u_11 u_12 u_13 u_14 u_15 ln lo u_16 u_21 u_22 u_23 u_24 u_25 mk mf ml ma il sz tt fh hd ot H locs ls hI hW (lv_sub hl [1, 2, 3, 4, 5] rfl)
set_option maxHeartbeats 4000000 in
set_option maxRecDepth 100000 in
theorem lc_Mark (l : Launch) (hst : l.stackTraces = false) (p : Program) (e : Env) (s : State) (m : MethodId) (below : List Frame) (meth : Method) (c : Code) (A : Nat → Prop) (Q : State → Prop) (b L : Nat) (xs : Nat → Int32) (D : va_G) (cI : ClassId) (cL : ClassId × ClassId) (h g : Nat → Nat) (ho : Nat) (tx cs rl gv fa1 la1 va1 : Nat → Int32) (mn1 : Int32) (fa2 la2 va2 : Nat → Int32) (mn2 : Int32) (fa3 la3 va3 : Nat → Int32) (mn3 b1 b2 b3 b4 b5 b6 ln lo kn fl rn : Int32) (fs lt kk mk mf ml ma : Nat → Int32) (il sz : Int32) (tt fh : Nat → Int32) (hd : Int32) (ot : Nat → Int64) (x4 : Int32) (z_x4 : Int) (v_x4 : gk_v x4 z_x4) (hz : 0 ≤ z_x4 ∧ z_x4 + 6 ≤ (L : Int)) (hL : L ≤ 3072)
    (hx : p.tables.exec = Jvm.exec) (hb : c.code = code) (hml : c.maxLocals = 7) (hown : s.vm.findClass "BreakPlacesLaw" = some m.cls) (hts : ∀ w ∈ wA, w.before #[Value.ref b] s = true) (hX : va_X b L xs s s.heap) (hbl : b < s.heap.size) (hbA : ¬ A b) (hF : gx_F A s s.heap) (hI : lw_I tx cs rl fa1 la1 va1 mn1 fa2 la2 va2 mn2 fa3 la3 va3 mn3 b1 b2 b3 b4 b5 b6 ln lo kn rn fs lt kk mk mf ml ma il sz tt) (H : Heap) (locs : List Loc) (cells slots : Nat) (hcs : cells + 1 ≤ 600000 ∧ slots + 6 ≤ 7200000) (ls : Array Slot)
    (hW : gk_W D vwCl (gk_T cI cL) s A H locs (wd_L cI cL h g ho tx cs rl gv fa1 la1 va1 mn1 fa2 la2 va2 mn2 fa3 la3 va3 mn3 b1 b2 b3 b4 b5 b6 ln lo kn fl rn fs lt kk mk mf ml ma il sz tt fh hd ot)) (hl : lv_has ls 7 [(0, .ref b), (1, .ref (h 0)), (2, .ref (g 0)), (3, .ref ho), (4, .int x4)])
    (KE : ∀ (tx cs rl gv fa1 la1 va1 : Nat → Int32) (mn1 : Int32) (fa2 la2 va2 : Nat → Int32) (mn2 : Int32) (fa3 la3 va3 : Nat → Int32) (mn3 b1 b2 b3 b4 b5 b6 ln lo kn fl rn : Int32) (fs lt kk mk mf ml ma : Nat → Int32) (il sz : Int32) (tt fh : Nat → Int32) (hd : Int32) (ot : Nat → Int64) (H : Heap) (locs : List Loc) (ls : Array Slot), lw_I tx cs rl fa1 la1 va1 mn1 fa2 la2 va2 mn2 fa3 la3 va3 mn3 b1 b2 b3 b4 b5 b6 ln lo kn rn fs lt kk mk mf ml ma il sz tt → gk_W D vwCl (gk_T cI cL) s A H locs (wd_L cI cL h g ho tx cs rl gv fa1 la1 va1 mn1 fa2 la2 va2 mn2 fa3 la3 va3 mn3 b1 b2 b3 b4 b5 b6 ln lo kn fl rn fs lt kk mk mf ml ma il sz tt fh hd ot) → lv_has ls 7 [(0, .ref b), (1, .ref (h 0)), (2, .ref (g 0)), (3, .ref ho), (4, .int x4)] → W p l e room_1 s m #[Value.ref b] below meth c H locs (cells + 1) (slots + 6) Q (F0 m 891 ls [])) : W p l e room_1 s m #[Value.ref b] below meth c H locs cells slots Q (F0 m 168 ls []) := by
  obtain ⟨z_ln, z_kn, z_mn1, z_mn2, z_mn3, z_rn, z_sz, ⟨v_ln, v_kn, v_mn1, v_mn2, v_mn3, v_rn, v_sz⟩, hln, hkn, hm1, hm2, hm3, hrn, hsz, hmk, hma, hlo, hil⟩ := pe_pre hI
  refine lv_aload_n hx hb d_law_168 rfl (lv_at hl 1 rfl) ?_
  refine lv_aload_n hx hb d_law_169 rfl (lv_at hl 0 rfl) ?_
  refine lv_iload hx hb d_law_170 (lv_at hl 4 rfl) ?_
  refine lv_iconst (v := 1) hx hb d_law_172 (by decide) ?_
  refine lv_iadd hx hb d_law_173 ?_
  obtain ⟨zt_1, vt_1, et_1⟩ := gk_add v_x4 (show gk_v 1 1 from rfl) (by omega) (by omega)
  refine va_sld hx hb hX hbl hbA hW.2.2.2.1 (i := x4 + 1) (gk_in vt_1 (by omega) (by omega)) d_law_174 ?_
  refine lv_aload_n hx hb d_law_175 rfl (lv_at hl 0 rfl) ?_
  refine lv_iload hx hb d_law_176 (lv_at hl 4 rfl) ?_
  refine lv_iconst (v := 2) hx hb d_law_178 (by decide) ?_
  refine lv_iadd hx hb d_law_179 ?_
  obtain ⟨zt_2, vt_2, et_2⟩ := gk_add v_x4 (show gk_v 2 2 from rfl) (by omega) (by omega)
  refine va_sld hx hb hX hbl hbA hW.2.2.2.1 (i := x4 + 2) (gk_in vt_2 (by omega) (by omega)) d_law_180 ?_
  refine lv_aload_n hx hb d_law_181 rfl (lv_at hl 0 rfl) ?_
  refine lv_iload hx hb d_law_182 (lv_at hl 4 rfl) ?_
  refine lv_iconst (v := 3) hx hb d_law_184 (by decide) ?_
  refine lv_iadd hx hb d_law_185 ?_
  obtain ⟨zt_3, vt_3, et_3⟩ := gk_add v_x4 (show gk_v 3 3 from rfl) (by omega) (by omega)
  refine va_sld hx hb hX hbl hbA hW.2.2.2.1 (i := x4 + 3) (gk_in vt_3 (by omega) (by omega)) d_law_186 ?_
  refine lv_aload_n hx hb d_law_187 rfl (lv_at hl 0 rfl) ?_
  refine lv_iload hx hb d_law_188 (lv_at hl 4 rfl) ?_
  refine lv_iconst (v := 4) hx hb d_law_190 (by decide) ?_
  refine lv_iadd hx hb d_law_191 ?_
  obtain ⟨zt_4, vt_4, et_4⟩ := gk_add v_x4 (show gk_v 4 4 from rfl) (by omega) (by omega)
  refine va_sld hx hb hX hbl hbA hW.2.2.2.1 (i := x4 + 4) (gk_in vt_4 (by omega) (by omega)) d_law_192 ?_
  refine lv_if_eq (tgt := 200) hx hb d_law_193 (by decide) (fun c_5 => ?_) (fun c_5 => ?_)
  · skip
    refine lv_iconst (v := 0) hx hb d_law_200 (by decide) ?_
    refine gk_goI (wr := [((g 0), .inr (3, [.int fl, .int rn, .ref (g 1), .ref (g 2), .ref (g 3), .ref (g 4), .ref (g 5), .ref (g 6), .ref (g 7), .int il, .int sz, .ref (g 8), .ref (g 9), .int hd])), ((g 1), .inl (cI, 100, .inl fs)), ((g 2), .inl (cI, 100, .inl lt)), ((g 3), .inl (cI, 100, .inl kk)), ((g 4), .inl (cI, 2, .inl mk)), ((g 5), .inl (cI, 80, .inl mf)), ((g 6), .inl (cI, 80, .inl ml)), ((g 7), .inl (cL.2, 80, .inl ma)), ((g 8), .inl (cI, 2000, .inl tt)), ((g 9), .inl (cI, 5, .inl fh)), (ho, .inl (cL.1, 1, .inr (.inl ot)))]) hW [0, 1, 2, 3, 4, 5, 6, 7, 8, 9, 10, 11, 12, 13, 14, 15, 16, 17] [18, 19, 20, 21, 22, 23, 24, 25, 26, 27, 28] rfl rfl (by decide) (by decide) (vx_runSW (As := [.ref (h 0), .int (xs ((x4 + 1).toNatClampNeg)), .int (xs ((x4 + 2).toNatClampNeg)), .int (xs ((x4 + 3).toNatClampNeg)), .int 0]) (rest := []) ⟨hx, hb, hml, hown, hts⟩ (c_hMark l hst D cI cL h tx cs rl gv fa1 la1 va1 mn1 fa2 la2 va2 mn2 fa3 la3 va3 mn3 b1 b2 b3 b4 b5 b6 ln lo kn (xs ((x4 + 1).toNatClampNeg)) (xs ((x4 + 2).toNatClampNeg)) (xs ((x4 + 3).toNatClampNeg)) 0 z_mn2 v_mn2 z_mn3 v_mn3 hm2 hm3 _) (gk_cwSW hts w_298 w_299 w_290 kw_hMark e_hMark rfl rfl ⟨Nat.le_of_ble_eq_true rfl, Nat.le_of_ble_eq_true rfl⟩) (gx_pre hW (hF.kept hW.2.2.2.1.2.1) [0, 1, 2, 3, 4, 5, 6, 7, 8, 9, 10, 11, 12, 13, 14, 15, 16, 17] rfl rfl) rfl rfl hl.1 rfl (lv_room (Nat.le_of_ble_eq_true rfl)) d_law_201 ⟨by show _ ≤ 601024; omega, by show _ ≤ 7293034; omega⟩) (fun r_6 u H locs p_22 hW => ?_)
    obtain ⟨u_7, u_8, u_9, u_10, u_11, u_12, u_13, u_14, u_15, u_16, u_17, u_18, u_19, u_20, u_21⟩ := u
    have hW : gk_W D vwCl (gk_T cI cL) s A H locs (wd_L cI cL h g ho tx cs rl gv fa1 la1 va1 mn1 u_7 u_8 u_9 u_10 u_11 u_12 u_13 u_14 u_15 u_16 u_17 u_18 u_19 u_20 ln lo u_21 fl rn fs lt kk mk mf ml ma il sz tt fh hd ot) := hW.re [11, 12, 13, 14, 15, 16, 17, 18, 19, 20, 21, 22, 23, 24, 25, 26, 27, 28, 0, 1, 2, 3, 4, 5, 6, 7, 8, 9, 10] (by decide) rfl
    refine lv_istore (lv' := [(5, .int r_6), (0, .ref b), (1, .ref (h 0)), (2, .ref (g 0)), (3, .ref ho), (4, .int x4)]) hx hb d_law_204 hl (by decide) rfl (fun ls hl => ?_)
    refine lv_aload_n hx hb d_law_206 rfl (lv_at hl 3 rfl) ?_
    refine lv_aload_n hx hb d_law_207 rfl (lv_at hl 1 rfl) ?_
    refine lv_iload hx hb d_law_208 (lv_at hl 5 rfl) ?_
    refine lv_iconst (v := 1) hx hb d_law_210 (by decide) ?_
    refine lv_iadd hx hb d_law_211 ?_
    obtain ⟨zt_23, vt_23, et_23⟩ := gk_add v_x4 (show gk_v 1 1 from rfl) (by omega) (by omega)
    refine va_sld hx hb hX hbl hbA hW.2.2.2.1 (i := x4 + 1) (gk_in vt_23 (by omega) (by omega)) d_law_212 ?_
    refine lv_aload_n hx hb d_law_213 rfl (lv_at hl 1 rfl) ?_
    refine lv_iload hx hb d_law_214 (lv_at hl 5 rfl) ?_
    refine lv_iconst (v := 2) hx hb d_law_216 (by decide) ?_
    refine lv_iadd hx hb d_law_217 ?_
    obtain ⟨zt_24, vt_24, et_24⟩ := gk_add v_x4 (show gk_v 2 2 from rfl) (by omega) (by omega)
    refine va_sld hx hb hX hbl hbA hW.2.2.2.1 (i := x4 + 2) (gk_in vt_24 (by omega) (by omega)) d_law_218 ?_
    refine lv_aload_n hx hb d_law_219 rfl (lv_at hl 1 rfl) ?_
    refine lv_iload hx hb d_law_220 (lv_at hl 5 rfl) ?_
    refine lv_iconst (v := 3) hx hb d_law_222 (by decide) ?_
    refine lv_iadd hx hb d_law_223 ?_
    obtain ⟨zt_25, vt_25, et_25⟩ := gk_add v_x4 (show gk_v 3 3 from rfl) (by omega) (by omega)
    refine va_sld hx hb hX hbl hbA hW.2.2.2.1 (i := x4 + 3) (gk_in vt_25 (by omega) (by omega)) d_law_224 ?_
    refine lv_aload_n hx hb d_law_225 rfl (lv_at hl 1 rfl) ?_
    refine lv_iload hx hb d_law_226 (lv_at hl 5 rfl) ?_
    refine lv_iconst (v := 4) hx hb d_law_228 (by decide) ?_
    refine lv_iadd hx hb d_law_229 ?_
    obtain ⟨zt_26, vt_26, et_26⟩ := gk_add v_x4 (show gk_v 4 4 from rfl) (by omega) (by omega)
    refine va_sld hx hb hX hbl hbA hW.2.2.2.1 (i := x4 + 4) (gk_in vt_26 (by omega) (by omega)) d_law_230 ?_
    refine lv_if_eq (tgt := 238) hx hb d_law_231 (by decide) (fun _ => ?_) (fun c_27 => absurd c_5 c_27)
    refine lv_iconst (v := 0) hx hb d_law_238 (by decide) ?_
    refine gk_goV (wr := [((h 0), .inr (0, [.ref (h 1), .ref (h 2), .ref (h 3), .ref (h 4), .ref (h 5), .ref (h 9), .ref (h 13), .ref (h 17), .int ln, .int lo, .int u_21])), ((h 1), .inl (cI, 2000, .inl tx)), ((h 2), .inl (cI, 2000, .inl cs)), ((h 3), .inl (cI, 2000, .inl rl)), ((h 4), .inl (cI, 5, .inl gv)), ((h 5), .inr (1, [.ref (h 6), .ref (h 7), .ref (h 8), .int mn1])), ((h 6), .inl (cI, 100, .inl fa1)), ((h 7), .inl (cI, 100, .inl la1)), ((h 8), .inl (cI, 100, .inl va1)), ((h 9), .inr (1, [.ref (h 10), .ref (h 11), .ref (h 12), .int u_10])), ((h 10), .inl (cI, 40, .inl u_7)), ((h 11), .inl (cI, 40, .inl u_8)), ((h 12), .inl (cI, 40, .inl u_9)), ((h 13), .inr (1, [.ref (h 14), .ref (h 15), .ref (h 16), .int u_14])), ((h 14), .inl (cI, 40, .inl u_11)), ((h 15), .inl (cI, 40, .inl u_12)), ((h 16), .inl (cI, 40, .inl u_13)), ((h 17), .inr (2, [.int u_15, .int u_16, .int u_17, .int u_18, .int u_19, .int u_20])), (ho, .inl (cL.1, 1, .inr (.inl ot)))]) hW [18, 19, 20, 21, 22, 23, 24, 25, 26, 27] [0, 1, 2, 3, 4, 5, 6, 7, 8, 9, 10, 11, 12, 13, 14, 15, 16, 17, 28] rfl rfl (by decide) (by decide) (va_runV (As := [.int (xs ((x4 + 1).toNatClampNeg)), .int (xs ((x4 + 2).toNatClampNeg)), .int (xs ((x4 + 3).toNatClampNeg)), .int 0]) (rest := []) ⟨hx, hb, hml, hown, hts⟩ (c_mMark l D cI cL cL g fl rn fs lt kk mk mf ml ma il sz tt fh hd (xs ((x4 + 1).toNatClampNeg)) (xs ((x4 + 2).toNatClampNeg)) (xs ((x4 + 3).toNatClampNeg)) 0 hmk (Or.inl rfl) _) (gk_cwV hts w_300 w_301 w_302 w_145 k_mMark rfl e_mMark rfl rfl ⟨Nat.le_of_ble_eq_true rfl, Nat.le_of_ble_eq_true rfl⟩) (gk_preV hW [18, 19, 20, 21, 22, 23, 24, 25, 26, 27] rfl rfl rfl rfl) rfl rfl hl.1 rfl (lv_room (Nat.le_of_ble_eq_true rfl)) d_law_239 ⟨by show _ ≤ 601024; omega, by show _ ≤ 7293034; omega⟩) (fun u H locs p_33 hW => ?_)
    obtain ⟨u_28, u_29, u_30, u_31, u_32⟩ := u
    have hW : gk_W D vwCl (gk_T cI cL) s A H locs (wd_L cI cL h g ho tx cs rl gv fa1 la1 va1 mn1 u_7 u_8 u_9 u_10 u_11 u_12 u_13 u_14 u_15 u_16 u_17 u_18 u_19 u_20 ln lo u_21 u_28 rn fs lt kk u_29 u_30 u_31 u_32 il sz tt fh hd ot) := hW.re [0, 1, 2, 3, 4, 5, 6, 7, 8, 9, 10, 11, 12, 13, 14, 15, 16, 17, 19, 20, 21, 22, 23, 24, 25, 26, 27, 28, 18] (by decide) rfl
    obtain ⟨eF, hI⟩ := pe_Mark (by decide) hI p_22 p_33
    refine lv_aload_n hx hb d_law_242 rfl (lv_at hl 3 rfl) ?_
    refine gk_goR hW [18, 19, 20, 21, 22, 23, 24, 25, 26, 27] rfl (va_runV (As := []) (rest := []) ⟨hx, hb, hml, hown, hts⟩ (c_mThrown l D cI cL cL g u_28 rn fs lt kk u_29 u_30 u_31 u_32 il sz tt fh hd _) (gk_cwV hts w_295 w_296 w_297 w_145 k_mThrown rfl e_mThrown rfl rfl ⟨Nat.le_of_ble_eq_true rfl, Nat.le_of_ble_eq_true rfl⟩) (gk_preV hW [18, 19, 20, 21, 22, 23, 24, 25, 26, 27] rfl rfl rfl rfl) rfl rfl hl.1 rfl (lv_room (Nat.le_of_ble_eq_true rfl)) d_law_243 ⟨by show _ ≤ 601024; omega, by show _ ≤ 7293034; omega⟩) (fun H locs hW => ?_)
    refine lv_iload hx hb d_law_246 (lv_at hl 0 rfl) ?_
    refine lv_icmp_eq (tgt := 253) hx hb d_law_248 (by decide) (fun c_34 => ?_) (fun c_34 => absurd eF c_34)
    refine lv_goto (tgt := 891) hx hb d_law_253 (by decide) ?_
    exact KE tx cs rl gv fa1 la1 va1 mn1 u_7 u_8 u_9 u_10 u_11 u_12 u_13 u_14 u_15 u_16 u_17 u_18 u_19 u_20 ln lo u_21 u_28 rn fs lt kk u_29 u_30 u_31 u_32 il sz tt fh hd ot H locs ls hI hW (lv_sub hl [1, 2, 3, 4, 5] rfl)
  · skip
    refine lv_iconst (v := 1) hx hb d_law_196 (by decide) ?_
    refine lv_goto (tgt := 201) hx hb d_law_197 (by decide) ?_
    refine gk_goI (wr := [((g 0), .inr (3, [.int fl, .int rn, .ref (g 1), .ref (g 2), .ref (g 3), .ref (g 4), .ref (g 5), .ref (g 6), .ref (g 7), .int il, .int sz, .ref (g 8), .ref (g 9), .int hd])), ((g 1), .inl (cI, 100, .inl fs)), ((g 2), .inl (cI, 100, .inl lt)), ((g 3), .inl (cI, 100, .inl kk)), ((g 4), .inl (cI, 2, .inl mk)), ((g 5), .inl (cI, 80, .inl mf)), ((g 6), .inl (cI, 80, .inl ml)), ((g 7), .inl (cL.2, 80, .inl ma)), ((g 8), .inl (cI, 2000, .inl tt)), ((g 9), .inl (cI, 5, .inl fh)), (ho, .inl (cL.1, 1, .inr (.inl ot)))]) hW [0, 1, 2, 3, 4, 5, 6, 7, 8, 9, 10, 11, 12, 13, 14, 15, 16, 17] [18, 19, 20, 21, 22, 23, 24, 25, 26, 27, 28] rfl rfl (by decide) (by decide) (vx_runSW (As := [.ref (h 0), .int (xs ((x4 + 1).toNatClampNeg)), .int (xs ((x4 + 2).toNatClampNeg)), .int (xs ((x4 + 3).toNatClampNeg)), .int 1]) (rest := []) ⟨hx, hb, hml, hown, hts⟩ (c_hMark l hst D cI cL h tx cs rl gv fa1 la1 va1 mn1 fa2 la2 va2 mn2 fa3 la3 va3 mn3 b1 b2 b3 b4 b5 b6 ln lo kn (xs ((x4 + 1).toNatClampNeg)) (xs ((x4 + 2).toNatClampNeg)) (xs ((x4 + 3).toNatClampNeg)) 1 z_mn2 v_mn2 z_mn3 v_mn3 hm2 hm3 _) (gk_cwSW hts w_298 w_299 w_290 kw_hMark e_hMark rfl rfl ⟨Nat.le_of_ble_eq_true rfl, Nat.le_of_ble_eq_true rfl⟩) (gx_pre hW (hF.kept hW.2.2.2.1.2.1) [0, 1, 2, 3, 4, 5, 6, 7, 8, 9, 10, 11, 12, 13, 14, 15, 16, 17] rfl rfl) rfl rfl hl.1 rfl (lv_room (Nat.le_of_ble_eq_true rfl)) d_law_201 ⟨by show _ ≤ 601024; omega, by show _ ≤ 7293034; omega⟩) (fun r_35 u H locs p_51 hW => ?_)
    obtain ⟨u_36, u_37, u_38, u_39, u_40, u_41, u_42, u_43, u_44, u_45, u_46, u_47, u_48, u_49, u_50⟩ := u
    have hW : gk_W D vwCl (gk_T cI cL) s A H locs (wd_L cI cL h g ho tx cs rl gv fa1 la1 va1 mn1 u_36 u_37 u_38 u_39 u_40 u_41 u_42 u_43 u_44 u_45 u_46 u_47 u_48 u_49 ln lo u_50 fl rn fs lt kk mk mf ml ma il sz tt fh hd ot) := hW.re [11, 12, 13, 14, 15, 16, 17, 18, 19, 20, 21, 22, 23, 24, 25, 26, 27, 28, 0, 1, 2, 3, 4, 5, 6, 7, 8, 9, 10] (by decide) rfl
    refine lv_istore (lv' := [(5, .int r_35), (0, .ref b), (1, .ref (h 0)), (2, .ref (g 0)), (3, .ref ho), (4, .int x4)]) hx hb d_law_204 hl (by decide) rfl (fun ls hl => ?_)
    refine lv_aload_n hx hb d_law_206 rfl (lv_at hl 3 rfl) ?_
    refine lv_aload_n hx hb d_law_207 rfl (lv_at hl 1 rfl) ?_
    refine lv_iload hx hb d_law_208 (lv_at hl 5 rfl) ?_
    refine lv_iconst (v := 1) hx hb d_law_210 (by decide) ?_
    refine lv_iadd hx hb d_law_211 ?_
    obtain ⟨zt_52, vt_52, et_52⟩ := gk_add v_x4 (show gk_v 1 1 from rfl) (by omega) (by omega)
    refine va_sld hx hb hX hbl hbA hW.2.2.2.1 (i := x4 + 1) (gk_in vt_52 (by omega) (by omega)) d_law_212 ?_
    refine lv_aload_n hx hb d_law_213 rfl (lv_at hl 1 rfl) ?_
    refine lv_iload hx hb d_law_214 (lv_at hl 5 rfl) ?_
    refine lv_iconst (v := 2) hx hb d_law_216 (by decide) ?_
    refine lv_iadd hx hb d_law_217 ?_
    obtain ⟨zt_53, vt_53, et_53⟩ := gk_add v_x4 (show gk_v 2 2 from rfl) (by omega) (by omega)
    refine va_sld hx hb hX hbl hbA hW.2.2.2.1 (i := x4 + 2) (gk_in vt_53 (by omega) (by omega)) d_law_218 ?_
    refine lv_aload_n hx hb d_law_219 rfl (lv_at hl 1 rfl) ?_
    refine lv_iload hx hb d_law_220 (lv_at hl 5 rfl) ?_
    refine lv_iconst (v := 3) hx hb d_law_222 (by decide) ?_
    refine lv_iadd hx hb d_law_223 ?_
    obtain ⟨zt_54, vt_54, et_54⟩ := gk_add v_x4 (show gk_v 3 3 from rfl) (by omega) (by omega)
    refine va_sld hx hb hX hbl hbA hW.2.2.2.1 (i := x4 + 3) (gk_in vt_54 (by omega) (by omega)) d_law_224 ?_
    refine lv_aload_n hx hb d_law_225 rfl (lv_at hl 1 rfl) ?_
    refine lv_iload hx hb d_law_226 (lv_at hl 5 rfl) ?_
    refine lv_iconst (v := 4) hx hb d_law_228 (by decide) ?_
    refine lv_iadd hx hb d_law_229 ?_
    obtain ⟨zt_55, vt_55, et_55⟩ := gk_add v_x4 (show gk_v 4 4 from rfl) (by omega) (by omega)
    refine va_sld hx hb hX hbl hbA hW.2.2.2.1 (i := x4 + 4) (gk_in vt_55 (by omega) (by omega)) d_law_230 ?_
    refine lv_if_eq (tgt := 238) hx hb d_law_231 (by decide) (fun c_56 => absurd c_56 c_5) (fun _ => ?_)
    refine lv_iconst (v := 1) hx hb d_law_234 (by decide) ?_
    refine lv_goto (tgt := 239) hx hb d_law_235 (by decide) ?_
    refine gk_goV (wr := [((h 0), .inr (0, [.ref (h 1), .ref (h 2), .ref (h 3), .ref (h 4), .ref (h 5), .ref (h 9), .ref (h 13), .ref (h 17), .int ln, .int lo, .int u_50])), ((h 1), .inl (cI, 2000, .inl tx)), ((h 2), .inl (cI, 2000, .inl cs)), ((h 3), .inl (cI, 2000, .inl rl)), ((h 4), .inl (cI, 5, .inl gv)), ((h 5), .inr (1, [.ref (h 6), .ref (h 7), .ref (h 8), .int mn1])), ((h 6), .inl (cI, 100, .inl fa1)), ((h 7), .inl (cI, 100, .inl la1)), ((h 8), .inl (cI, 100, .inl va1)), ((h 9), .inr (1, [.ref (h 10), .ref (h 11), .ref (h 12), .int u_39])), ((h 10), .inl (cI, 40, .inl u_36)), ((h 11), .inl (cI, 40, .inl u_37)), ((h 12), .inl (cI, 40, .inl u_38)), ((h 13), .inr (1, [.ref (h 14), .ref (h 15), .ref (h 16), .int u_43])), ((h 14), .inl (cI, 40, .inl u_40)), ((h 15), .inl (cI, 40, .inl u_41)), ((h 16), .inl (cI, 40, .inl u_42)), ((h 17), .inr (2, [.int u_44, .int u_45, .int u_46, .int u_47, .int u_48, .int u_49])), (ho, .inl (cL.1, 1, .inr (.inl ot)))]) hW [18, 19, 20, 21, 22, 23, 24, 25, 26, 27] [0, 1, 2, 3, 4, 5, 6, 7, 8, 9, 10, 11, 12, 13, 14, 15, 16, 17, 28] rfl rfl (by decide) (by decide) (va_runV (As := [.int (xs ((x4 + 1).toNatClampNeg)), .int (xs ((x4 + 2).toNatClampNeg)), .int (xs ((x4 + 3).toNatClampNeg)), .int 1]) (rest := []) ⟨hx, hb, hml, hown, hts⟩ (c_mMark l D cI cL cL g fl rn fs lt kk mk mf ml ma il sz tt fh hd (xs ((x4 + 1).toNatClampNeg)) (xs ((x4 + 2).toNatClampNeg)) (xs ((x4 + 3).toNatClampNeg)) 1 hmk (Or.inr rfl) _) (gk_cwV hts w_300 w_301 w_302 w_145 k_mMark rfl e_mMark rfl rfl ⟨Nat.le_of_ble_eq_true rfl, Nat.le_of_ble_eq_true rfl⟩) (gk_preV hW [18, 19, 20, 21, 22, 23, 24, 25, 26, 27] rfl rfl rfl rfl) rfl rfl hl.1 rfl (lv_room (Nat.le_of_ble_eq_true rfl)) d_law_239 ⟨by show _ ≤ 601024; omega, by show _ ≤ 7293034; omega⟩) (fun u H locs p_62 hW => ?_)
    obtain ⟨u_57, u_58, u_59, u_60, u_61⟩ := u
    have hW : gk_W D vwCl (gk_T cI cL) s A H locs (wd_L cI cL h g ho tx cs rl gv fa1 la1 va1 mn1 u_36 u_37 u_38 u_39 u_40 u_41 u_42 u_43 u_44 u_45 u_46 u_47 u_48 u_49 ln lo u_50 u_57 rn fs lt kk u_58 u_59 u_60 u_61 il sz tt fh hd ot) := hW.re [0, 1, 2, 3, 4, 5, 6, 7, 8, 9, 10, 11, 12, 13, 14, 15, 16, 17, 19, 20, 21, 22, 23, 24, 25, 26, 27, 28, 18] (by decide) rfl
    obtain ⟨eF, hI⟩ := pe_Mark (by decide) hI p_51 p_62
    refine lv_aload_n hx hb d_law_242 rfl (lv_at hl 3 rfl) ?_
    refine gk_goR hW [18, 19, 20, 21, 22, 23, 24, 25, 26, 27] rfl (va_runV (As := []) (rest := []) ⟨hx, hb, hml, hown, hts⟩ (c_mThrown l D cI cL cL g u_57 rn fs lt kk u_58 u_59 u_60 u_61 il sz tt fh hd _) (gk_cwV hts w_295 w_296 w_297 w_145 k_mThrown rfl e_mThrown rfl rfl ⟨Nat.le_of_ble_eq_true rfl, Nat.le_of_ble_eq_true rfl⟩) (gk_preV hW [18, 19, 20, 21, 22, 23, 24, 25, 26, 27] rfl rfl rfl rfl) rfl rfl hl.1 rfl (lv_room (Nat.le_of_ble_eq_true rfl)) d_law_243 ⟨by show _ ≤ 601024; omega, by show _ ≤ 7293034; omega⟩) (fun H locs hW => ?_)
    refine lv_iload hx hb d_law_246 (lv_at hl 0 rfl) ?_
    refine lv_icmp_eq (tgt := 253) hx hb d_law_248 (by decide) (fun c_63 => ?_) (fun c_63 => absurd eF c_63)
    refine lv_goto (tgt := 891) hx hb d_law_253 (by decide) ?_
    exact KE tx cs rl gv fa1 la1 va1 mn1 u_36 u_37 u_38 u_39 u_40 u_41 u_42 u_43 u_44 u_45 u_46 u_47 u_48 u_49 ln lo u_50 u_57 rn fs lt kk u_58 u_59 u_60 u_61 il sz tt fh hd ot H locs ls hI hW (lv_sub hl [1, 2, 3, 4, 5] rfl)
set_option maxHeartbeats 4000000 in
set_option maxRecDepth 100000 in
theorem lc_Loose (l : Launch) (hst : l.stackTraces = false) (p : Program) (e : Env) (s : State) (m : MethodId) (below : List Frame) (meth : Method) (c : Code) (A : Nat → Prop) (Q : State → Prop) (b L : Nat) (xs : Nat → Int32) (D : va_G) (cI : ClassId) (cL : ClassId × ClassId) (h g : Nat → Nat) (ho : Nat) (tx cs rl gv fa1 la1 va1 : Nat → Int32) (mn1 : Int32) (fa2 la2 va2 : Nat → Int32) (mn2 : Int32) (fa3 la3 va3 : Nat → Int32) (mn3 b1 b2 b3 b4 b5 b6 ln lo kn fl rn : Int32) (fs lt kk mk mf ml ma : Nat → Int32) (il sz : Int32) (tt fh : Nat → Int32) (hd : Int32) (ot : Nat → Int64) (x4 : Int32) (z_x4 : Int) (v_x4 : gk_v x4 z_x4) (hz : 0 ≤ z_x4 ∧ z_x4 + 6 ≤ (L : Int)) (hL : L ≤ 3072)
    (hx : p.tables.exec = Jvm.exec) (hb : c.code = code) (hml : c.maxLocals = 7) (hown : s.vm.findClass "BreakPlacesLaw" = some m.cls) (hts : ∀ w ∈ wA, w.before #[Value.ref b] s = true) (hX : va_X b L xs s s.heap) (hbl : b < s.heap.size) (hbA : ¬ A b) (hF : gx_F A s s.heap) (hI : lw_I tx cs rl fa1 la1 va1 mn1 fa2 la2 va2 mn2 fa3 la3 va3 mn3 b1 b2 b3 b4 b5 b6 ln lo kn rn fs lt kk mk mf ml ma il sz tt) (H : Heap) (locs : List Loc) (cells slots : Nat) (hcs : cells + 1 ≤ 600000 ∧ slots + 6 ≤ 7200000) (ls : Array Slot)
    (hW : gk_W D vwCl (gk_T cI cL) s A H locs (wd_L cI cL h g ho tx cs rl gv fa1 la1 va1 mn1 fa2 la2 va2 mn2 fa3 la3 va3 mn3 b1 b2 b3 b4 b5 b6 ln lo kn fl rn fs lt kk mk mf ml ma il sz tt fh hd ot)) (hl : lv_has ls 7 [(0, .ref b), (1, .ref (h 0)), (2, .ref (g 0)), (3, .ref ho), (4, .int x4)])
    (KE : ∀ (tx cs rl gv fa1 la1 va1 : Nat → Int32) (mn1 : Int32) (fa2 la2 va2 : Nat → Int32) (mn2 : Int32) (fa3 la3 va3 : Nat → Int32) (mn3 b1 b2 b3 b4 b5 b6 ln lo kn fl rn : Int32) (fs lt kk mk mf ml ma : Nat → Int32) (il sz : Int32) (tt fh : Nat → Int32) (hd : Int32) (ot : Nat → Int64) (H : Heap) (locs : List Loc) (ls : Array Slot), lw_I tx cs rl fa1 la1 va1 mn1 fa2 la2 va2 mn2 fa3 la3 va3 mn3 b1 b2 b3 b4 b5 b6 ln lo kn rn fs lt kk mk mf ml ma il sz tt → gk_W D vwCl (gk_T cI cL) s A H locs (wd_L cI cL h g ho tx cs rl gv fa1 la1 va1 mn1 fa2 la2 va2 mn2 fa3 la3 va3 mn3 b1 b2 b3 b4 b5 b6 ln lo kn fl rn fs lt kk mk mf ml ma il sz tt fh hd ot) → lv_has ls 7 [(0, .ref b), (1, .ref (h 0)), (2, .ref (g 0)), (3, .ref ho), (4, .int x4)] → W p l e room_1 s m #[Value.ref b] below meth c H locs (cells + 1) (slots + 6) Q (F0 m 891 ls [])) : W p l e room_1 s m #[Value.ref b] below meth c H locs cells slots Q (F0 m 256 ls []) := by
  obtain ⟨z_ln, z_kn, z_mn1, z_mn2, z_mn3, z_rn, z_sz, ⟨v_ln, v_kn, v_mn1, v_mn2, v_mn3, v_rn, v_sz⟩, hln, hkn, hm1, hm2, hm3, hrn, hsz, hmk, hma, hlo, hil⟩ := pe_pre hI
  refine lv_aload_n hx hb d_law_256 rfl (lv_at hl 1 rfl) ?_
  refine lv_aload_n hx hb d_law_257 rfl (lv_at hl 0 rfl) ?_
  refine lv_iload hx hb d_law_258 (lv_at hl 4 rfl) ?_
  refine lv_iconst (v := 1) hx hb d_law_260 (by decide) ?_
  refine lv_iadd hx hb d_law_261 ?_
  obtain ⟨zt_1, vt_1, et_1⟩ := gk_add v_x4 (show gk_v 1 1 from rfl) (by omega) (by omega)
  refine va_sld hx hb hX hbl hbA hW.2.2.2.1 (i := x4 + 1) (gk_in vt_1 (by omega) (by omega)) d_law_262 ?_
  refine lv_if_eq (tgt := 270) hx hb d_law_263 (by decide) (fun c_2 => ?_) (fun c_2 => ?_)
  · skip
    refine lv_iconst (v := 0) hx hb d_law_270 (by decide) ?_
    refine gk_goI (wr := [((g 0), .inr (3, [.int fl, .int rn, .ref (g 1), .ref (g 2), .ref (g 3), .ref (g 4), .ref (g 5), .ref (g 6), .ref (g 7), .int il, .int sz, .ref (g 8), .ref (g 9), .int hd])), ((g 1), .inl (cI, 100, .inl fs)), ((g 2), .inl (cI, 100, .inl lt)), ((g 3), .inl (cI, 100, .inl kk)), ((g 4), .inl (cI, 2, .inl mk)), ((g 5), .inl (cI, 80, .inl mf)), ((g 6), .inl (cI, 80, .inl ml)), ((g 7), .inl (cL.2, 80, .inl ma)), ((g 8), .inl (cI, 2000, .inl tt)), ((g 9), .inl (cI, 5, .inl fh)), (ho, .inl (cL.1, 1, .inr (.inl ot)))]) hW [0, 1, 2, 3, 4, 5, 6, 7, 8, 9, 10, 11, 12, 13, 14, 15, 16, 17] [18, 19, 20, 21, 22, 23, 24, 25, 26, 27, 28] rfl rfl (by decide) (by decide) (va_runV (As := [.int 0]) (rest := []) ⟨hx, hb, hml, hown, hts⟩ (c_loose l D cI cL h tx cs rl gv fa1 la1 va1 mn1 fa2 la2 va2 mn2 fa3 la3 va3 mn3 b1 b2 b3 b4 b5 b6 ln lo kn 0 ⟨Or.inl rfl, hlo⟩ _) (gk_cwV hts w_303 w_304 w_305 w_3 k_loose rfl e_loose rfl rfl ⟨Nat.le_of_ble_eq_true rfl, Nat.le_of_ble_eq_true rfl⟩) (gk_preV hW [0, 1, 2, 3, 4, 5, 6, 7, 8, 9, 10, 11, 12, 13, 14, 15, 16, 17] rfl rfl rfl rfl) rfl rfl hl.1 rfl (lv_room (Nat.le_of_ble_eq_true rfl)) d_law_271 ⟨by show _ ≤ 601024; omega, by show _ ≤ 7293034; omega⟩) (fun r_3 u H locs p_12 hW => ?_)
    obtain ⟨u_4, u_5, u_6, u_7, u_8, u_9, u_10, u_11⟩ := u
    have hW : gk_W D vwCl (gk_T cI cL) s A H locs (wd_L cI cL h g ho tx cs rl gv fa1 la1 va1 mn1 fa2 la2 va2 mn2 fa3 la3 va3 mn3 u_4 u_5 u_6 u_7 u_8 u_9 ln u_10 u_11 fl rn fs lt kk mk mf ml ma il sz tt fh hd ot) := hW.re [11, 12, 13, 14, 15, 16, 17, 18, 19, 20, 21, 22, 23, 24, 25, 26, 27, 28, 0, 1, 2, 3, 4, 5, 6, 7, 8, 9, 10] (by decide) rfl
    refine lv_aload_n hx hb d_law_274 rfl (lv_at hl 2 rfl) ?_
    refine lv_aload_n hx hb d_law_275 rfl (lv_at hl 0 rfl) ?_
    refine lv_iload hx hb d_law_276 (lv_at hl 4 rfl) ?_
    refine lv_iconst (v := 1) hx hb d_law_278 (by decide) ?_
    refine lv_iadd hx hb d_law_279 ?_
    obtain ⟨zt_13, vt_13, et_13⟩ := gk_add v_x4 (show gk_v 1 1 from rfl) (by omega) (by omega)
    refine va_sld hx hb hX hbl hbA hW.2.2.2.1 (i := x4 + 1) (gk_in vt_13 (by omega) (by omega)) d_law_280 ?_
    refine lv_if_eq (tgt := 288) hx hb d_law_281 (by decide) (fun _ => ?_) (fun c_14 => absurd c_2 c_14)
    refine lv_iconst (v := 0) hx hb d_law_288 (by decide) ?_
    refine gk_goI (wr := [((h 0), .inr (0, [.ref (h 1), .ref (h 2), .ref (h 3), .ref (h 4), .ref (h 5), .ref (h 9), .ref (h 13), .ref (h 17), .int ln, .int u_10, .int u_11])), ((h 1), .inl (cI, 2000, .inl tx)), ((h 2), .inl (cI, 2000, .inl cs)), ((h 3), .inl (cI, 2000, .inl rl)), ((h 4), .inl (cI, 5, .inl gv)), ((h 5), .inr (1, [.ref (h 6), .ref (h 7), .ref (h 8), .int mn1])), ((h 6), .inl (cI, 100, .inl fa1)), ((h 7), .inl (cI, 100, .inl la1)), ((h 8), .inl (cI, 100, .inl va1)), ((h 9), .inr (1, [.ref (h 10), .ref (h 11), .ref (h 12), .int mn2])), ((h 10), .inl (cI, 40, .inl fa2)), ((h 11), .inl (cI, 40, .inl la2)), ((h 12), .inl (cI, 40, .inl va2)), ((h 13), .inr (1, [.ref (h 14), .ref (h 15), .ref (h 16), .int mn3])), ((h 14), .inl (cI, 40, .inl fa3)), ((h 15), .inl (cI, 40, .inl la3)), ((h 16), .inl (cI, 40, .inl va3)), ((h 17), .inr (2, [.int u_4, .int u_5, .int u_6, .int u_7, .int u_8, .int u_9])), (ho, .inl (cL.1, 1, .inr (.inl ot)))]) hW [18, 19, 20, 21, 22, 23, 24, 25, 26, 27] [0, 1, 2, 3, 4, 5, 6, 7, 8, 9, 10, 11, 12, 13, 14, 15, 16, 17, 28] rfl rfl (by decide) (by decide) (va_runV (As := [.int 0]) (rest := [.int r_3]) ⟨hx, hb, hml, hown, hts⟩ (c_mLoose l D cI cL cL g fl rn fs lt kk mk mf ml ma il sz tt fh hd 0 ⟨Or.inl rfl, hil⟩ _) (gk_cwV hts w_306 w_307 w_308 w_145 k_mLoose rfl e_mLoose rfl rfl ⟨Nat.le_of_ble_eq_true rfl, Nat.le_of_ble_eq_true rfl⟩) (gk_preV hW [18, 19, 20, 21, 22, 23, 24, 25, 26, 27] rfl rfl rfl rfl) rfl rfl hl.1 rfl (lv_room (Nat.le_of_ble_eq_true rfl)) d_law_289 ⟨by show _ ≤ 601024; omega, by show _ ≤ 7293034; omega⟩) (fun r_15 u H locs p_18 hW => ?_)
    obtain ⟨u_16, u_17⟩ := u
    have hW : gk_W D vwCl (gk_T cI cL) s A H locs (wd_L cI cL h g ho tx cs rl gv fa1 la1 va1 mn1 fa2 la2 va2 mn2 fa3 la3 va3 mn3 u_4 u_5 u_6 u_7 u_8 u_9 ln u_10 u_11 u_16 rn fs lt kk mk mf ml ma u_17 sz tt fh hd ot) := hW.re [0, 1, 2, 3, 4, 5, 6, 7, 8, 9, 10, 11, 12, 13, 14, 15, 16, 17, 19, 20, 21, 22, 23, 24, 25, 26, 27, 28, 18] (by decide) rfl
    obtain ⟨eF, hI⟩ := pe_Loose (by decide) hI p_12 p_18
    refine lv_icmp_eq (tgt := 891) hx hb d_law_292 (by decide) (fun c_19 => ?_) (fun c_19 => absurd eF c_19)
    refine W.widen (k := cells + 1) (n := slots + 6) (by omega) (by omega) ?_
    exact KE tx cs rl gv fa1 la1 va1 mn1 fa2 la2 va2 mn2 fa3 la3 va3 mn3 u_4 u_5 u_6 u_7 u_8 u_9 ln u_10 u_11 u_16 rn fs lt kk mk mf ml ma u_17 sz tt fh hd ot H locs ls hI hW (lv_sub hl [0, 1, 2, 3, 4] rfl)
  · skip
    refine lv_iconst (v := 1) hx hb d_law_266 (by decide) ?_
    refine lv_goto (tgt := 271) hx hb d_law_267 (by decide) ?_
    refine gk_goI (wr := [((g 0), .inr (3, [.int fl, .int rn, .ref (g 1), .ref (g 2), .ref (g 3), .ref (g 4), .ref (g 5), .ref (g 6), .ref (g 7), .int il, .int sz, .ref (g 8), .ref (g 9), .int hd])), ((g 1), .inl (cI, 100, .inl fs)), ((g 2), .inl (cI, 100, .inl lt)), ((g 3), .inl (cI, 100, .inl kk)), ((g 4), .inl (cI, 2, .inl mk)), ((g 5), .inl (cI, 80, .inl mf)), ((g 6), .inl (cI, 80, .inl ml)), ((g 7), .inl (cL.2, 80, .inl ma)), ((g 8), .inl (cI, 2000, .inl tt)), ((g 9), .inl (cI, 5, .inl fh)), (ho, .inl (cL.1, 1, .inr (.inl ot)))]) hW [0, 1, 2, 3, 4, 5, 6, 7, 8, 9, 10, 11, 12, 13, 14, 15, 16, 17] [18, 19, 20, 21, 22, 23, 24, 25, 26, 27, 28] rfl rfl (by decide) (by decide) (va_runV (As := [.int 1]) (rest := []) ⟨hx, hb, hml, hown, hts⟩ (c_loose l D cI cL h tx cs rl gv fa1 la1 va1 mn1 fa2 la2 va2 mn2 fa3 la3 va3 mn3 b1 b2 b3 b4 b5 b6 ln lo kn 1 ⟨Or.inr rfl, hlo⟩ _) (gk_cwV hts w_303 w_304 w_305 w_3 k_loose rfl e_loose rfl rfl ⟨Nat.le_of_ble_eq_true rfl, Nat.le_of_ble_eq_true rfl⟩) (gk_preV hW [0, 1, 2, 3, 4, 5, 6, 7, 8, 9, 10, 11, 12, 13, 14, 15, 16, 17] rfl rfl rfl rfl) rfl rfl hl.1 rfl (lv_room (Nat.le_of_ble_eq_true rfl)) d_law_271 ⟨by show _ ≤ 601024; omega, by show _ ≤ 7293034; omega⟩) (fun r_20 u H locs p_29 hW => ?_)
    obtain ⟨u_21, u_22, u_23, u_24, u_25, u_26, u_27, u_28⟩ := u
    have hW : gk_W D vwCl (gk_T cI cL) s A H locs (wd_L cI cL h g ho tx cs rl gv fa1 la1 va1 mn1 fa2 la2 va2 mn2 fa3 la3 va3 mn3 u_21 u_22 u_23 u_24 u_25 u_26 ln u_27 u_28 fl rn fs lt kk mk mf ml ma il sz tt fh hd ot) := hW.re [11, 12, 13, 14, 15, 16, 17, 18, 19, 20, 21, 22, 23, 24, 25, 26, 27, 28, 0, 1, 2, 3, 4, 5, 6, 7, 8, 9, 10] (by decide) rfl
    refine lv_aload_n hx hb d_law_274 rfl (lv_at hl 2 rfl) ?_
    refine lv_aload_n hx hb d_law_275 rfl (lv_at hl 0 rfl) ?_
    refine lv_iload hx hb d_law_276 (lv_at hl 4 rfl) ?_
    refine lv_iconst (v := 1) hx hb d_law_278 (by decide) ?_
    refine lv_iadd hx hb d_law_279 ?_
    obtain ⟨zt_30, vt_30, et_30⟩ := gk_add v_x4 (show gk_v 1 1 from rfl) (by omega) (by omega)
    refine va_sld hx hb hX hbl hbA hW.2.2.2.1 (i := x4 + 1) (gk_in vt_30 (by omega) (by omega)) d_law_280 ?_
    refine lv_if_eq (tgt := 288) hx hb d_law_281 (by decide) (fun c_31 => absurd c_31 c_2) (fun _ => ?_)
    refine lv_iconst (v := 1) hx hb d_law_284 (by decide) ?_
    refine lv_goto (tgt := 289) hx hb d_law_285 (by decide) ?_
    refine gk_goI (wr := [((h 0), .inr (0, [.ref (h 1), .ref (h 2), .ref (h 3), .ref (h 4), .ref (h 5), .ref (h 9), .ref (h 13), .ref (h 17), .int ln, .int u_27, .int u_28])), ((h 1), .inl (cI, 2000, .inl tx)), ((h 2), .inl (cI, 2000, .inl cs)), ((h 3), .inl (cI, 2000, .inl rl)), ((h 4), .inl (cI, 5, .inl gv)), ((h 5), .inr (1, [.ref (h 6), .ref (h 7), .ref (h 8), .int mn1])), ((h 6), .inl (cI, 100, .inl fa1)), ((h 7), .inl (cI, 100, .inl la1)), ((h 8), .inl (cI, 100, .inl va1)), ((h 9), .inr (1, [.ref (h 10), .ref (h 11), .ref (h 12), .int mn2])), ((h 10), .inl (cI, 40, .inl fa2)), ((h 11), .inl (cI, 40, .inl la2)), ((h 12), .inl (cI, 40, .inl va2)), ((h 13), .inr (1, [.ref (h 14), .ref (h 15), .ref (h 16), .int mn3])), ((h 14), .inl (cI, 40, .inl fa3)), ((h 15), .inl (cI, 40, .inl la3)), ((h 16), .inl (cI, 40, .inl va3)), ((h 17), .inr (2, [.int u_21, .int u_22, .int u_23, .int u_24, .int u_25, .int u_26])), (ho, .inl (cL.1, 1, .inr (.inl ot)))]) hW [18, 19, 20, 21, 22, 23, 24, 25, 26, 27] [0, 1, 2, 3, 4, 5, 6, 7, 8, 9, 10, 11, 12, 13, 14, 15, 16, 17, 28] rfl rfl (by decide) (by decide) (va_runV (As := [.int 1]) (rest := [.int r_20]) ⟨hx, hb, hml, hown, hts⟩ (c_mLoose l D cI cL cL g fl rn fs lt kk mk mf ml ma il sz tt fh hd 1 ⟨Or.inr rfl, hil⟩ _) (gk_cwV hts w_306 w_307 w_308 w_145 k_mLoose rfl e_mLoose rfl rfl ⟨Nat.le_of_ble_eq_true rfl, Nat.le_of_ble_eq_true rfl⟩) (gk_preV hW [18, 19, 20, 21, 22, 23, 24, 25, 26, 27] rfl rfl rfl rfl) rfl rfl hl.1 rfl (lv_room (Nat.le_of_ble_eq_true rfl)) d_law_289 ⟨by show _ ≤ 601024; omega, by show _ ≤ 7293034; omega⟩) (fun r_32 u H locs p_35 hW => ?_)
    obtain ⟨u_33, u_34⟩ := u
    have hW : gk_W D vwCl (gk_T cI cL) s A H locs (wd_L cI cL h g ho tx cs rl gv fa1 la1 va1 mn1 fa2 la2 va2 mn2 fa3 la3 va3 mn3 u_21 u_22 u_23 u_24 u_25 u_26 ln u_27 u_28 u_33 rn fs lt kk mk mf ml ma u_34 sz tt fh hd ot) := hW.re [0, 1, 2, 3, 4, 5, 6, 7, 8, 9, 10, 11, 12, 13, 14, 15, 16, 17, 19, 20, 21, 22, 23, 24, 25, 26, 27, 28, 18] (by decide) rfl
    obtain ⟨eF, hI⟩ := pe_Loose (by decide) hI p_29 p_35
    refine lv_icmp_eq (tgt := 891) hx hb d_law_292 (by decide) (fun c_36 => ?_) (fun c_36 => absurd eF c_36)
    refine W.widen (k := cells + 1) (n := slots + 6) (by omega) (by omega) ?_
    exact KE tx cs rl gv fa1 la1 va1 mn1 fa2 la2 va2 mn2 fa3 la3 va3 mn3 u_21 u_22 u_23 u_24 u_25 u_26 ln u_27 u_28 u_33 rn fs lt kk mk mf ml ma u_34 sz tt fh hd ot H locs ls hI hW (lv_sub hl [0, 1, 2, 3, 4] rfl)
