set_option maxHeartbeats 4000000 in
set_option maxRecDepth 100000 in
theorem lw_loop (l : Launch) (hst : l.stackTraces = false) (p : Program) (e : Env) (s : State) (m : MethodId) (below : List Frame) (meth : Method) (c : Code) (b L : Nat) (xs : Nat → Int32) (D : va_G) (cI : ClassId) (cL : ClassId × ClassId) (h g : Nat → Nat) (ho : Nat) (hL : L ≤ 3072) (hx : p.tables.exec = Jvm.exec) (hb : c.code = code) (hr : meth.sig.returnType = ret) (hlocks : meth.locks = false) (hml : c.maxLocals = 7) (hown : s.vm.findClass "BreakPlacesLaw" = some m.cls) (hts : ∀ w ∈ wA, w.before #[Value.ref b] s = true) (hX : va_X b L xs s s.heap) (hbl : b < s.heap.size) (hbA : ¬ (fun q : Nat => s.heap.size ≤ q) b) (hF : gx_F (fun q : Nat => s.heap.size ≤ q) s s.heap) :
    ∀ (N j : Nat) (tx cs rl gv fa1 la1 va1 : Nat → Int32) (mn1 : Int32) (fa2 la2 va2 : Nat → Int32) (mn2 : Int32) (fa3 la3 va3 : Nat → Int32) (mn3 b1 b2 b3 b4 b5 b6 ln lo kn fl rn : Int32) (fs lt kk mk mf ml ma : Nat → Int32) (il sz : Int32) (tt fh : Nat → Int32) (hd : Int32) (ot : Nat → Int64) (H : Heap) (locs : List Loc) (ls : Array Slot), L < 6 * j + 6 * N → 6 * j ≤ L → lw_I tx cs rl fa1 la1 va1 mn1 fa2 la2 va2 mn2 fa3 la3 va3 mn3 b1 b2 b3 b4 b5 b6 ln lo kn rn fs lt kk mk mf ml ma il sz tt → gk_W D vwCl (gk_T cI cL) s (fun q : Nat => s.heap.size ≤ q) H locs (wd_L cI cL h g ho tx cs rl gv fa1 la1 va1 mn1 fa2 la2 va2 mn2 fa3 la3 va3 mn3 b1 b2 b3 b4 b5 b6 ln lo kn fl rn fs lt kk mk mf ml ma il sz tt fh hd ot) → lv_has ls 7 [(0, .ref b), (1, .ref (h 0)), (2, .ref (g 0)), (3, .ref ho), (4, .int (nI (6 * j)))] → W p l e room_1 s m #[Value.ref b] below meth c H locs (29 + j) (9500 + 6 * j) (lw_Z below #[Value.ref b] s) (F0 m 23 ls []) := by
  intro N
  induction N with
  | zero => intro j tx cs rl gv fa1 la1 va1 mn1 fa2 la2 va2 mn2 fa3 la3 va3 mn3 b1 b2 b3 b4 b5 b6 ln lo kn fl rn fs lt kk mk mf ml ma il sz tt fh hd ot H locs ls h1 h2; exfalso; omega
  | succ N ih =>
    intro j tx cs rl gv fa1 la1 va1 mn1 fa2 la2 va2 mn2 fa3 la3 va3 mn3 b1 b2 b3 b4 b5 b6 ln lo kn fl rn fs lt kk mk mf ml ma il sz tt fh hd ot H locs ls h1 h2 hI hW hl
    have vj : gk_v (nI (6 * j)) ((6 * j : Nat) : Int) := gk_vn (by omega)
    have vL : gk_v (Int32.ofNat L) (L : Int) := gk_vn (n := L) (by omega)
    have KE : 6 * j + 6 ≤ L → ∀ (tx cs rl gv fa1 la1 va1 : Nat → Int32) (mn1 : Int32) (fa2 la2 va2 : Nat → Int32) (mn2 : Int32) (fa3 la3 va3 : Nat → Int32) (mn3 b1 b2 b3 b4 b5 b6 ln lo kn fl rn : Int32) (fs lt kk mk mf ml ma : Nat → Int32) (il sz : Int32) (tt fh : Nat → Int32) (hd : Int32) (ot : Nat → Int64) (H : Heap) (locs : List Loc) (ls : Array Slot), lw_I tx cs rl fa1 la1 va1 mn1 fa2 la2 va2 mn2 fa3 la3 va3 mn3 b1 b2 b3 b4 b5 b6 ln lo kn rn fs lt kk mk mf ml ma il sz tt → gk_W D vwCl (gk_T cI cL) s (fun q : Nat => s.heap.size ≤ q) H locs (wd_L cI cL h g ho tx cs rl gv fa1 la1 va1 mn1 fa2 la2 va2 mn2 fa3 la3 va3 mn3 b1 b2 b3 b4 b5 b6 ln lo kn fl rn fs lt kk mk mf ml ma il sz tt fh hd ot) → lv_has ls 7 [(0, .ref b), (1, .ref (h 0)), (2, .ref (g 0)), (3, .ref ho), (4, .int (nI (6 * j)))] → W p l e room_1 s m #[Value.ref b] below meth c H locs (29 + j + 1) (9500 + 6 * j + 6) (lw_Z below #[Value.ref b] s) (F0 m 891 ls []) := by
      intro h3 tx cs rl gv fa1 la1 va1 mn1 fa2 la2 va2 mn2 fa3 la3 va3 mn3 b1 b2 b3 b4 b5 b6 ln lo kn fl rn fs lt kk mk mf ml ma il sz tt fh hd ot H locs ls hI hW hl
      refine lv_iinc (v := nI (6 * j) + 6) (lv' := [(4, .int (nI (6 * j) + 6)), (0, .ref b), (1, .ref (h 0)), (2, .ref (g 0)), (3, .ref ho)]) hx hb d_law_891 hl (k := 4) rfl rfl (by decide) rfl (fun ls hl => ?_)
      refine lv_goto (tgt := 23) hx hb d_law_894 (by decide) ?_
      have e6 : nI (6 * j) + 6 = nI (6 * (j + 1)) := nI_add (6 * j) 6
      rw [e6] at hl
      exact ih (j + 1) tx cs rl gv fa1 la1 va1 mn1 fa2 la2 va2 mn2 fa3 la3 va3 mn3 b1 b2 b3 b4 b5 b6 ln lo kn fl rn fs lt kk mk mf ml ma il sz tt fh hd ot H locs ls (by omega) (by omega) hI hW (lv_sub hl [1, 2, 3, 4, 0] rfl)
    refine lv_iload hx hb d_law_23 (lv_at hl 4 rfl) ?_
    refine lv_aload_n hx hb d_law_25 rfl (lv_at hl 0 rfl) ?_
    refine va_slen hx hb hX hbl hbA hW.2.2.2.1 d_law_26 ?_
    refine lv_bipush (v := 6) hx hb d_law_27 (by decide) ?_
    refine lv_isub hx hb d_law_29 ?_
    obtain ⟨zd, vd, ed⟩ := gk_sub vL (show gk_v 6 6 from rfl) (by omega) (by omega)
    refine lv_icmp_gt (tgt := 897) hx hb d_law_30 (by decide) (fun c1 => ?_) (fun c1 => ?_)
    · refine lv_iconst (v := 1) hx hb d_law_897 (by decide) ?_
      refine va_forget (fun q hq => hW.2.2.2.1.2.2 q hq) ?_
      refine W.widen (k := 601024) (n := 7293034) (by omega) (by omega) ?_
      exact lw_ret hx hb hr hlocks d_law_898
    · have h3 := gk_nlt vd vj c1
      have h4 : 6 * j + 6 ≤ L := by omega
      have KE := KE h4
      refine lv_aload_n hx hb d_law_33 rfl (lv_at hl 0 rfl) ?_
      refine lv_iload hx hb d_law_34 (lv_at hl 4 rfl) ?_
      refine va_sld hx hb hX hbl hbA hW.2.2.2.1 (i := nI (6 * j)) (gk_in vj (by omega) (by omega)) d_law_36 ?_
      refine lv_bipush (v := 15) hx hb d_law_37 (by decide) ?_
      refine lv_iand hx hb d_law_39 ?_
      obtain ⟨op, hop⟩ : ∃ t, xs (nI (6 * j)).toNatClampNeg &&& 15 = t := ⟨_, rfl⟩
      rw [hop]
      by_cases q0 : op = 0
      · refine lv_tableIn (off := 68) (tgt := 108) hx hb d_law_40 (by rw [q0]; decide) (by rw [q0]; decide) (by rw [q0]; rfl) (by decide) ?_
        exact lc_Property l hst p e s m below meth c (fun q : Nat => s.heap.size ≤ q) (lw_Z below #[Value.ref b] s) b L xs D cI cL h g ho tx cs rl gv fa1 la1 va1 mn1 fa2 la2 va2 mn2 fa3 la3 va3 mn3 b1 b2 b3 b4 b5 b6 ln lo kn fl rn fs lt kk mk mf ml ma il sz tt fh hd ot (nI (6 * j)) _ vj ⟨by omega, by omega⟩ hL hx hb hml hown hts hX hbl hbA hF hI H locs (29 + j) (9500 + 6 * j) ⟨by omega, by omega⟩ ls hW hl KE
      by_cases q1 : op = 1
      · refine lv_tableIn (off := 128) (tgt := 168) hx hb d_law_40 (by rw [q1]; decide) (by rw [q1]; decide) (by rw [q1]; rfl) (by decide) ?_
        exact lc_Mark l hst p e s m below meth c (fun q : Nat => s.heap.size ≤ q) (lw_Z below #[Value.ref b] s) b L xs D cI cL h g ho tx cs rl gv fa1 la1 va1 mn1 fa2 la2 va2 mn2 fa3 la3 va3 mn3 b1 b2 b3 b4 b5 b6 ln lo kn fl rn fs lt kk mk mf ml ma il sz tt fh hd ot (nI (6 * j)) _ vj ⟨by omega, by omega⟩ hL hx hb hml hown hts hX hbl hbA hF hI H locs (29 + j) (9500 + 6 * j) ⟨by omega, by omega⟩ ls hW hl KE
      by_cases q2 : op = 2
      · refine lv_tableIn (off := 216) (tgt := 256) hx hb d_law_40 (by rw [q2]; decide) (by rw [q2]; decide) (by rw [q2]; rfl) (by decide) ?_
        exact lc_Loose l hst p e s m below meth c (fun q : Nat => s.heap.size ≤ q) (lw_Z below #[Value.ref b] s) b L xs D cI cL h g ho tx cs rl gv fa1 la1 va1 mn1 fa2 la2 va2 mn2 fa3 la3 va3 mn3 b1 b2 b3 b4 b5 b6 ln lo kn fl rn fs lt kk mk mf ml ma il sz tt fh hd ot (nI (6 * j)) _ vj ⟨by omega, by omega⟩ hL hx hb hml hown hts hX hbl hbA hF hI H locs (29 + j) (9500 + 6 * j) ⟨by omega, by omega⟩ ls hW hl KE
      by_cases q3 : op = 3
      · refine lv_tableIn (off := 257) (tgt := 297) hx hb d_law_40 (by rw [q3]; decide) (by rw [q3]; decide) (by rw [q3]; rfl) (by decide) ?_
        exact lc_Add l hst p e s m below meth c (fun q : Nat => s.heap.size ≤ q) (lw_Z below #[Value.ref b] s) b L xs D cI cL h g ho tx cs rl gv fa1 la1 va1 mn1 fa2 la2 va2 mn2 fa3 la3 va3 mn3 b1 b2 b3 b4 b5 b6 ln lo kn fl rn fs lt kk mk mf ml ma il sz tt fh hd ot (nI (6 * j)) _ vj ⟨by omega, by omega⟩ hL hx hb hml hown hts hX hbl hbA hF hI H locs (29 + j) (9500 + 6 * j) ⟨by omega, by omega⟩ ls hW hl KE
      by_cases q4 : op = 4
      · refine lv_tableIn (off := 361) (tgt := 401) hx hb d_law_40 (by rw [q4]; decide) (by rw [q4]; decide) (by rw [q4]; rfl) (by decide) ?_
        exact lc_Replace l hst p e s m below meth c (fun q : Nat => s.heap.size ≤ q) (lw_Z below #[Value.ref b] s) b L xs D cI cL h g ho tx cs rl gv fa1 la1 va1 mn1 fa2 la2 va2 mn2 fa3 la3 va3 mn3 b1 b2 b3 b4 b5 b6 ln lo kn fl rn fs lt kk mk mf ml ma il sz tt fh hd ot (nI (6 * j)) _ vj ⟨by omega, by omega⟩ hL hx hb hml hown hts hX hbl hbA hF hI H locs (29 + j) (9500 + 6 * j) ⟨by omega, by omega⟩ ls hW hl KE
      by_cases q5 : op = 5
      · refine lv_tableIn (off := 465) (tgt := 505) hx hb d_law_40 (by rw [q5]; decide) (by rw [q5]; decide) (by rw [q5]; rfl) (by decide) ?_
        exact lc_Clear l hst p e s m below meth c (fun q : Nat => s.heap.size ≤ q) (lw_Z below #[Value.ref b] s) b L xs D cI cL h g ho tx cs rl gv fa1 la1 va1 mn1 fa2 la2 va2 mn2 fa3 la3 va3 mn3 b1 b2 b3 b4 b5 b6 ln lo kn fl rn fs lt kk mk mf ml ma il sz tt fh hd ot (nI (6 * j)) _ vj ⟨by omega, by omega⟩ hL hx hb hml hown hts hX hbl hbA hF hI H locs (29 + j) (9500 + 6 * j) ⟨by omega, by omega⟩ ls hW hl KE
      by_cases q6 : op = 6
      · refine lv_tableIn (off := 478) (tgt := 518) hx hb d_law_40 (by rw [q6]; decide) (by rw [q6]; decide) (by rw [q6]; rfl) (by decide) ?_
        exact lc_At l hst p e s m below meth c (fun q : Nat => s.heap.size ≤ q) (lw_Z below #[Value.ref b] s) b L xs D cI cL h g ho tx cs rl gv fa1 la1 va1 mn1 fa2 la2 va2 mn2 fa3 la3 va3 mn3 b1 b2 b3 b4 b5 b6 ln lo kn fl rn fs lt kk mk mf ml ma il sz tt fh hd ot (nI (6 * j)) _ vj ⟨by omega, by omega⟩ hL hx hb hml hown hts hX hbl hbA hF hI H locs (29 + j) (9500 + 6 * j) ⟨by omega, by omega⟩ ls hW hl KE
      by_cases q7 : op = 7
      · refine lv_tableIn (off := 534) (tgt := 574) hx hb d_law_40 (by rw [q7]; decide) (by rw [q7]; decide) (by rw [q7]; rfl) (by decide) ?_
        exact lc_Kind l hst p e s m below meth c (fun q : Nat => s.heap.size ≤ q) (lw_Z below #[Value.ref b] s) b L xs D cI cL h g ho tx cs rl gv fa1 la1 va1 mn1 fa2 la2 va2 mn2 fa3 la3 va3 mn3 b1 b2 b3 b4 b5 b6 ln lo kn fl rn fs lt kk mk mf ml ma il sz tt fh hd ot (nI (6 * j)) _ vj ⟨by omega, by omega⟩ hL hx hb hml hown hts hX hbl hbA hF hI H locs (29 + j) (9500 + 6 * j) ⟨by omega, by omega⟩ ls hW hl KE
      by_cases q8 : op = 8
      · refine lv_tableIn (off := 590) (tgt := 630) hx hb d_law_40 (by rw [q8]; decide) (by rw [q8]; decide) (by rw [q8]; rfl) (by decide) ?_
        exact lc_Breaks l hst p e s m below meth c (fun q : Nat => s.heap.size ≤ q) (lw_Z below #[Value.ref b] s) b L xs D cI cL h g ho tx cs rl gv fa1 la1 va1 mn1 fa2 la2 va2 mn2 fa3 la3 va3 mn3 b1 b2 b3 b4 b5 b6 ln lo kn fl rn fs lt kk mk mf ml ma il sz tt fh hd ot (nI (6 * j)) _ vj ⟨by omega, by omega⟩ hL hx hb hml hown hts hX hbl hbA hF hI H locs (29 + j) (9500 + 6 * j) ⟨by omega, by omega⟩ ls hW hl KE
      by_cases q9 : op = 9
      · refine lv_tableIn (off := 646) (tgt := 686) hx hb d_law_40 (by rw [q9]; decide) (by rw [q9]; decide) (by rw [q9]; rfl) (by decide) ?_
        exact lc_Rule l hst p e s m below meth c (fun q : Nat => s.heap.size ≤ q) (lw_Z below #[Value.ref b] s) b L xs D cI cL h g ho tx cs rl gv fa1 la1 va1 mn1 fa2 la2 va2 mn2 fa3 la3 va3 mn3 b1 b2 b3 b4 b5 b6 ln lo kn fl rn fs lt kk mk mf ml ma il sz tt fh hd ot (nI (6 * j)) _ vj ⟨by omega, by omega⟩ hL hx hb hml hown hts hX hbl hbA hF hI H locs (29 + j) (9500 + 6 * j) ⟨by omega, by omega⟩ ls hW hl KE
      by_cases q10 : op = 10
      · refine lv_tableIn (off := 702) (tgt := 742) hx hb d_law_40 (by rw [q10]; decide) (by rw [q10]; decide) (by rw [q10]; rfl) (by decide) ?_
        exact lc_Next l hst p e s m below meth c (fun q : Nat => s.heap.size ≤ q) (lw_Z below #[Value.ref b] s) b L xs D cI cL h g ho tx cs rl gv fa1 la1 va1 mn1 fa2 la2 va2 mn2 fa3 la3 va3 mn3 b1 b2 b3 b4 b5 b6 ln lo kn fl rn fs lt kk mk mf ml ma il sz tt fh hd ot (nI (6 * j)) _ vj ⟨by omega, by omega⟩ hL hx hb hml hown hts hX hbl hbA hF hI H locs (29 + j) (9500 + 6 * j) ⟨by omega, by omega⟩ ls hW hl KE
      by_cases q11 : op = 11
      · refine lv_tableIn (off := 758) (tgt := 798) hx hb d_law_40 (by rw [q11]; decide) (by rw [q11]; decide) (by rw [q11]; rfl) (by decide) ?_
        exact lc_Fit l hst p e s m below meth c (fun q : Nat => s.heap.size ≤ q) (lw_Z below #[Value.ref b] s) b L xs D cI cL h g ho tx cs rl gv fa1 la1 va1 mn1 fa2 la2 va2 mn2 fa3 la3 va3 mn3 b1 b2 b3 b4 b5 b6 ln lo kn fl rn fs lt kk mk mf ml ma il sz tt fh hd ot (nI (6 * j)) _ vj ⟨by omega, by omega⟩ hL hx hb hml hown hts hX hbl hbA hF hI H locs (29 + j) (9500 + 6 * j) ⟨by omega, by omega⟩ ls hW hl KE
      by_cases q12 : op = 12
      · refine lv_tableIn (off := 826) (tgt := 866) hx hb d_law_40 (by rw [q12]; decide) (by rw [q12]; decide) (by rw [q12]; rfl) (by decide) ?_
        exact lc_Count l hst p e s m below meth c (fun q : Nat => s.heap.size ≤ q) (lw_Z below #[Value.ref b] s) b L xs D cI cL h g ho tx cs rl gv fa1 la1 va1 mn1 fa2 la2 va2 mn2 fa3 la3 va3 mn3 b1 b2 b3 b4 b5 b6 ln lo kn fl rn fs lt kk mk mf ml ma il sz tt fh hd ot (nI (6 * j)) _ vj ⟨by omega, by omega⟩ hL hx hb hml hown hts hX hbl hbA hF hI H locs (29 + j) (9500 + 6 * j) ⟨by omega, by omega⟩ ls hW hl KE
      refine lv_tableOut (tgt := 891) hx hb d_law_40 (by have nq0 := lv_neT (a := 0) q0 rfl; have nq1 := lv_neT (a := 1) q1 rfl; have nq2 := lv_neT (a := 2) q2 rfl; have nq3 := lv_neT (a := 3) q3 rfl; have nq4 := lv_neT (a := 4) q4 rfl; have nq5 := lv_neT (a := 5) q5 rfl; have nq6 := lv_neT (a := 6) q6 rfl; have nq7 := lv_neT (a := 7) q7 rfl; have nq8 := lv_neT (a := 8) q8 rfl; have nq9 := lv_neT (a := 9) q9 rfl; have nq10 := lv_neT (a := 10) q10 rfl; have nq11 := lv_neT (a := 11) q11 rfl; have nq12 := lv_neT (a := 12) q12 rfl; omega) (by decide) ?_
      refine W.widen (k := 29 + j + 1) (n := 9500 + 6 * j + 6) (by omega) (by omega) ?_
      exact KE tx cs rl gv fa1 la1 va1 mn1 fa2 la2 va2 mn2 fa3 la3 va3 mn3 b1 b2 b3 b4 b5 b6 ln lo kn fl rn fs lt kk mk mf ml ma il sz tt fh hd ot H locs ls hI hW hl
theorem gk_arr {args : Array Value} {s : State} {ty : FieldType} (harr : (Cond.arrayClass ty).before args s = true) (hq : ∀ cA : ClassId, s.vm.findClass ("[" ++ ty.toString) = some cA → va_RA s cA ty) : ∃ cA : ClassId, ArrOfT s cA ty ∧ va_RA s cA ty := by
  obtain ⟨cA, kA, comp, h1, h2, h3⟩ := Cond.arrayClass_spec harr
  exact ⟨cA, fun n z => ⟨fun k h => (by cases h), kA, h2, comp, h3⟩, hq cA h1⟩
theorem gk_N0 {b : Nat} {s : State} (hts : ∀ w ∈ lw_tbl, w.before #[Value.ref b] s = true) : ∀ w ∈ wN, va_Nw w s := by
  intro w hw
  have h := hts w (List.mem_filter.mp hw).1
  have hg := (List.mem_filter.mp hw).2
  cases w with
  | fieldLinkNest a i b n d h0 => exact va_Nw.of rfl h
  | methodLinkNest a i x h0 => exact va_Nw.of rfl h
  | stringRef a i t => first | exact va_Nw.of rfl h | (simp only [va_Nw, Cond.before, Cond.holds, Cond.value] at h ⊢; exact h)
  | declares x => exact va_Nw.of rfl h
  | castable a b => exact va_Nw.of rfl h
  | _ => cases hg
theorem lw_I0 : lw_I (fun _ => 0) (fun _ => 0) (fun _ => 0) (fun _ => 0) (fun _ => 0) (fun _ => 0) 0 (fun _ => 0) (fun _ => 0) (fun _ => 0) 0 (fun _ => 0) (fun _ => 0) (fun _ => 0) 0 (-1) (-1) (-1) (-1) (-1) 0 0 0 0 0 (fun _ => 0) (fun _ => 0) (fun _ => 0) (fun _ => 0) (fun _ => 0) (fun _ => 0) (fun _ => 0) 0 0 (fun _ => 0) := 
  ⟨0, 0, 0, 0, 0, ⟨nI_0.symm, nI_0.symm, by omega⟩, ⟨nI_0.symm, nI_0.symm, by omega⟩, ⟨nI_0.symm, by omega⟩, ⟨nI_0.symm, nI_0.symm, by omega⟩, ⟨nI_0.symm, nI_0.symm, by omega⟩, ⟨rfl, Or.inl rfl⟩, fun i h => absurd h (Nat.not_lt_zero i), fun i h => absurd h (Nat.not_lt_zero i), fun i h => absurd h (Nat.not_lt_zero i), fun i h => absurd h (Nat.not_lt_zero i), fun i h => absurd h (Nat.not_lt_zero i), fun _ => Or.inl rfl, rfl, fun i h => absurd h (Nat.not_lt_zero i)⟩
set_option maxHeartbeats 4000000 in
set_option maxRecDepth 100000 in
/-- from the entry, for every script of at most 3072 ints, the law comes to its end with true -/
theorem whole_start {p : Program} {e : Env} {s : State} {m : MethodId} {below : List Frame} {meth : Method} {c : Code} (l : Launch) (hst : l.stackTraces = false) {b L : Nat} {xs : Nat → Int32} (hL : L ≤ 3072) (C0 : lw_At p s m meth c b L xs) : W p l e room_1 s m #[Value.ref b] below meth c s.heap [] 0 0 (lw_Z below #[Value.ref b] s) (entryFrame m ([Value.ref b] : List Value).toArray 7) := by
  obtain ⟨hx, hb, hr, hml, hown, hts0, hX, hbl, hlocks, hgv⟩ := id C0
  have hown : s.vm.findClass "BreakPlacesLaw" = some m.cls := hown
  have hgs := flat_of_before _ hgv
  have hts : ∀ w ∈ wA, w.before #[Value.ref b] s = true := fun w hw => hts0 w (List.mem_filter.mp hw).1
  have hA : ∀ q : Nat, s.heap.size ≤ q → (fun q : Nat => s.heap.size ≤ q) q := fun _ h => h
  have hbA : ¬ (fun q : Nat => s.heap.size ≤ q) b := Nat.not_le.mpr hbl
  have hF : gx_F (fun q : Nat => s.heap.size ≤ q) s s.heap := ⟨vx_Zqof (hts0 _ ls_1) (hts _ w_365) (hgs (.isRef (.static "java/lang/Throwable" "UNASSIGNED_STACK" "[Ljava/lang/StackTraceElement;")) (by decide +kernel)) (fun a h => Nat.not_le.mpr h), vx_Zqof (hts0 _ ls_2) (hts _ w_365) (hgs (.isRef (.static "java/lang/Throwable" "SUPPRESSED_SENTINEL" "Ljava/util/List;")) (by decide +kernel)) (fun a h => Nat.not_le.mpr h)⟩
  have hN : gk_N s := ⟨gk_N0 hts0, va_Nc.of (hgs _ nc_1), va_Nc.of (hgs _ nc_2), va_Nc.of (hgs _ nc_3), va_Nc.of (hgs _ nc_4)⟩
  obtain ⟨c0, iS0, hKn0⟩ := u_known (C := R_P) (T := F_P) (N := 11) (n := 11) hts i_P (hts _ w_362)
  obtain ⟨c1, iS1, hKn1⟩ := u_known (C := R_R) (T := F_R) (N := 4) (n := 4) hts i_R (hts _ w_244)
  obtain ⟨c2, iS2, hKn2⟩ := u_known (C := R_B) (T := F_B) (N := 6) (n := 6) hts i_B (hts _ w_248)
  obtain ⟨c3, iS3, hKn3⟩ := u_known (C := R_M) (T := F_M) (N := 14) (n := 14) hts i_M (hts _ w_364)
  obtain ⟨D, hKc⟩ : ∃ (D : va_G), ∀ (k : Nat) (q : vw_C), vwCl[k]? = some q → u_Kn s q.1 q.2.1 q.2.2 (D.1 k) (D.2 k) := by
    refine ⟨(fun k => if k = 0 then c0 else if k = 1 then c1 else if k = 2 then c2 else c3, fun k => if k = 0 then iS0 else if k = 1 then iS1 else if k = 2 then iS2 else iS3), ?_⟩
    intro k q hq
    match k, hq with
    | 0, hq => cases hq; exact hKn0
    | 1, hq => cases hq; exact hKn1
    | 2, hq => cases hq; exact hKn2
    | 3, hq => cases hq; exact hKn3
    | k + 4, hq => simp [vwCl] at hq
  obtain ⟨cI, hcI⟩ := gk_arr (ty := .int) (hts _ w_239) (fun cA h => h)
  obtain ⟨cJ, hcJ⟩ := gk_arr (ty := .long) (hts _ w_366) (fun cA h => h)
  obtain ⟨cZ, hcZ⟩ := gk_arr (ty := .boolean) (hts _ w_252) (fun cA h => h)
  obtain ⟨cL, hcL⟩ : ∃ t : ClassId × ClassId, t = (cJ, cZ) := ⟨_, rfl⟩
  have hK : va_K D vwCl (gk_T cI cL) s := ⟨hKc, fun k q hq => by
    subst hcL
    match k, hq with
    | 0, hq => cases hq; exact hcI
    | 1, hq => cases hq; exact hcJ
    | 2, hq => cases hq; exact hcZ
    | k + 3, hq => simp at hq⟩
  obtain ⟨H, hH⟩ : ∃ t, t = s.heap := ⟨_, rfl⟩
  obtain ⟨locs, hlo⟩ : ∃ t : List Loc, t = [] := ⟨_, rfl⟩
  have hW : gk_W D vwCl (gk_T cI cL) s (fun q : Nat => s.heap.size ≤ q) s.heap [] [] := ⟨hK, fun k q h => by simp at h, ⟨fun i j p q h => by simp at h, fun k q h => by simp at h⟩, va_S.rf, hA, hN⟩
  have hl := lv_entry ([.ref b]) (n := 7) (Nat.le_of_ble_eq_true rfl)
  rw [lg_entry_eq]
  generalize (lg_sl ([.ref b]) ++ List.replicate (7 - (lg_sl ([.ref b])).length) Slot.unset).toArray = ls at hl ⊢
  have hl : lv_has ls 7 [(0, .ref b)] := hl
  clear hH hlo H locs
  refine va_new (ci := 0) (fs := [.null, .null, .null, .null, .null, .null, .null, .null, .int 0, .int 0, .int 0]) (C := R_P) (T := F_P) (N := 11) hx hb hts i_P t_P t_P_ok hown (hts _ w_361) (hts _ w_362) (hts _ w_3) hW.1 hW.2.1 hW.2.2.1 hW.2.2.2.1 hW.2.2.2.2.1 rfl (fun j hj => by rcases (show j = 0 ∨ j = 1 ∨ j = 2 ∨ j = 3 ∨ j = 4 ∨ j = 5 ∨ j = 6 ∨ j = 7 ∨ j = 8 ∨ j = 9 ∨ j = 10 by omega) with rfl | rfl | rfl | rfl | rfl | rfl | rfl | rfl | rfl | rfl | rfl <;> rfl) (Nat.le_of_ble_eq_true rfl) (Nat.le_of_ble_eq_true rfl) d_law_0 (fun q0 H hP hD hS => ?_)
  have hW : gk_W D vwCl (gk_T cI cL) s (fun q : Nat => s.heap.size ≤ q) H [] [(q0, .inr (0, [.null, .null, .null, .null, .null, .null, .null, .null, .int 0, .int 0, .int 0]))] := ⟨hW.1, hP, hD, hS, hW.2.2.2.2⟩
  refine lv_dup hx hb d_law_3 rfl ?_
  refine gk_goV (wr := []) hW [0] [] rfl rfl (by decide) (by decide) (va_runI (As := []) (rest := [.ref q0]) ⟨hx, hb, hml, hown, hts⟩ (c_pInit l D cI cL q0 _) (gk_cwI hts w_367 w_368 w_3 k_pInit rfl e_pInit rfl rfl ⟨Nat.le_of_ble_eq_true rfl, Nat.le_of_ble_eq_true rfl⟩) (gk_pre hW [0] rfl rfl) rfl rfl hl.1 rfl (lv_room (Nat.le_of_ble_eq_true rfl)) d_law_4 ⟨Nat.le_of_ble_eq_true rfl, Nat.le_of_ble_eq_true rfl⟩) (fun u H locs hp hW => ?_)
  obtain ⟨h, rfl⟩ : ∃ t, t = u := ⟨u, rfl⟩
  have hW : gk_W D vwCl (gk_T cI cL) s (fun q : Nat => s.heap.size ≤ q) H locs (wd_P cI h (fun _ => 0) (fun _ => 0) (fun _ => 0) (fun _ => 0) (fun _ => 0) (fun _ => 0) (fun _ => 0) 0 (fun _ => 0) (fun _ => 0) (fun _ => 0) 0 (fun _ => 0) (fun _ => 0) (fun _ => 0) 0 (-1) (-1) (-1) (-1) (-1) 0 0 0 0) := hW
  rw [← hp]
  refine lv_astore_n (lv' := [(1, .ref (h 0)), (0, .ref b)]) hx hb d_law_7 rfl hl (by decide) rfl (fun ls hl => ?_)
  refine va_new (ci := 3) (fs := [.int 0, .int 0, .null, .null, .null, .null, .null, .null, .null, .int 0, .int 0, .null, .null, .int 0]) (C := R_M) (T := F_M) (N := 14) hx hb hts i_M t_M t_M_ok hown (hts _ w_363) (hts _ w_364) (hts _ w_145) hW.1 hW.2.1 hW.2.2.1 hW.2.2.2.1 hW.2.2.2.2.1 rfl (fun j hj => by rcases (show j = 0 ∨ j = 1 ∨ j = 2 ∨ j = 3 ∨ j = 4 ∨ j = 5 ∨ j = 6 ∨ j = 7 ∨ j = 8 ∨ j = 9 ∨ j = 10 ∨ j = 11 ∨ j = 12 ∨ j = 13 by omega) with rfl | rfl | rfl | rfl | rfl | rfl | rfl | rfl | rfl | rfl | rfl | rfl | rfl | rfl <;> rfl) (Nat.le_of_ble_eq_true rfl) (Nat.le_of_ble_eq_true rfl) d_law_8 (fun q8 H hP hD hS => ?_)
  have hW : gk_W D vwCl (gk_T cI cL) s (fun q : Nat => s.heap.size ≤ q) H locs ((wd_P cI h (fun _ => 0) (fun _ => 0) (fun _ => 0) (fun _ => 0) (fun _ => 0) (fun _ => 0) (fun _ => 0) 0 (fun _ => 0) (fun _ => 0) (fun _ => 0) 0 (fun _ => 0) (fun _ => 0) (fun _ => 0) 0 (-1) (-1) (-1) (-1) (-1) 0 0 0 0) ++ [(q8, .inr (3, [.int 0, .int 0, .null, .null, .null, .null, .null, .null, .null, .int 0, .int 0, .null, .null, .int 0]))]) := ⟨hW.1, hP, hD, hS, hW.2.2.2.2⟩
  refine lv_dup hx hb d_law_11 rfl ?_
  refine gk_goV (wr := (wd_P cI h (fun _ => 0) (fun _ => 0) (fun _ => 0) (fun _ => 0) (fun _ => 0) (fun _ => 0) (fun _ => 0) 0 (fun _ => 0) (fun _ => 0) (fun _ => 0) 0 (fun _ => 0) (fun _ => 0) (fun _ => 0) 0 (-1) (-1) (-1) (-1) (-1) 0 0 0 0)) hW [18] [0, 1, 2, 3, 4, 5, 6, 7, 8, 9, 10, 11, 12, 13, 14, 15, 16, 17] rfl rfl (by decide) (by decide) (va_runI (As := []) (rest := [.ref q8]) ⟨hx, hb, hml, hown, hts⟩ (c_mInit l D cI cL q8 _) (gk_cwI hts w_369 w_370 w_145 k_mInit rfl e_mInit rfl rfl ⟨Nat.le_of_ble_eq_true rfl, Nat.le_of_ble_eq_true rfl⟩) (gk_pre hW [18] rfl rfl) rfl rfl hl.1 rfl (lv_room (Nat.le_of_ble_eq_true rfl)) d_law_12 ⟨Nat.le_of_ble_eq_true rfl, Nat.le_of_ble_eq_true rfl⟩) (fun u H locs hp hW => ?_)
  obtain ⟨g, rfl⟩ : ∃ t, t = u := ⟨u, rfl⟩
  have hW : gk_W D vwCl (gk_T cI cL) s (fun q : Nat => s.heap.size ≤ q) H locs ((wd_P cI h (fun _ => 0) (fun _ => 0) (fun _ => 0) (fun _ => 0) (fun _ => 0) (fun _ => 0) (fun _ => 0) 0 (fun _ => 0) (fun _ => 0) (fun _ => 0) 0 (fun _ => 0) (fun _ => 0) (fun _ => 0) 0 (-1) (-1) (-1) (-1) (-1) 0 0 0 0) ++ (wd_M cI cL g 0 0 (fun _ => 0) (fun _ => 0) (fun _ => 0) (fun _ => 0) (fun _ => 0) (fun _ => 0) (fun _ => 0) 0 0 (fun _ => 0) (fun _ => 0) 0)) := hW
  rw [← hp]
  refine lv_astore_n (lv' := [(2, .ref (g 0)), (1, .ref (h 0)), (0, .ref b)]) hx hb d_law_15 rfl hl (by decide) rfl (fun ls hl => ?_)
  refine lv_iconst (v := 1) hx hb d_law_16 (by decide) ?_
  refine gk_newl (N := 1) hx hb (hts _ w_366) hW (by decide) (by decide) (by decide) (Nat.le_of_ble_eq_true rfl) (Nat.le_of_ble_eq_true rfl) d_law_17 (fun ho H hW => ?_)
  have hW : gk_W D vwCl (gk_T cI cL) s (fun q : Nat => s.heap.size ≤ q) H locs (wd_L cI cL h g ho (fun _ => 0) (fun _ => 0) (fun _ => 0) (fun _ => 0) (fun _ => 0) (fun _ => 0) (fun _ => 0) 0 (fun _ => 0) (fun _ => 0) (fun _ => 0) 0 (fun _ => 0) (fun _ => 0) (fun _ => 0) 0 (-1) (-1) (-1) (-1) (-1) 0 0 0 0 0 0 (fun _ => 0) (fun _ => 0) (fun _ => 0) (fun _ => 0) (fun _ => 0) (fun _ => 0) (fun _ => 0) 0 0 (fun _ => 0) (fun _ => 0) 0 (fun _ => 0)) := hW.re [0, 1, 2, 3, 4, 5, 6, 7, 8, 9, 10, 11, 12, 13, 14, 15, 16, 17, 18, 19, 20, 21, 22, 23, 24, 25, 26, 27, 28] (by decide) rfl
  refine lv_astore_n (lv' := [(3, .ref ho), (2, .ref (g 0)), (1, .ref (h 0)), (0, .ref b)]) hx hb d_law_19 rfl hl (by decide) rfl (fun ls hl => ?_)
  refine lv_iconst (v := 0) hx hb d_law_20 (by decide) ?_
  refine lv_istore (lv' := [(4, .int 0), (3, .ref ho), (2, .ref (g 0)), (1, .ref (h 0)), (0, .ref b)]) hx hb d_law_21 hl (by decide) rfl (fun ls hl => ?_)
  refine W.widen (k := 29 + 0) (n := 9500 + 6 * 0) (by omega) (by omega) ?_
  exact lw_loop l hst p e s m below meth c b L xs D cI cL h g ho hL hx hb hr hlocks hml hown hts hX hbl hbA hF (L + 1) 0 _ _ _ _ _ _ _ _ _ _ _ _ _ _ _ _ _ _ _ _ _ _ _ _ _ _ _ _ _ _ _ _ _ _ _ _ _ _ _ _ H locs ls (by omega) (by omega) lw_I0 hW (lv_sub hl [4, 3, 2, 1, 0] rfl)
