-- the law's helpers: static methods with an exception table, over methods that may throw
def gk_H {S : Type} (l : Launch) (y : MethodName) (ws : List Cond) (rm : Room) (D : va_G) (cl : List vw_C) (tys : List (ClassId × FieldType)) (av : List Value) (wc : va_W) (post : Int32 → S → Prop) (w1 : S → va_W) (mc ms : Nat) : Prop :=
  ∀ sz : Nat, Met l y ws rm (va_Pc av (gx_B D cl tys wc sz)) (va_Qi post (gk_E D cl tys w1 (va_A wc sz)) (va_A wc sz)) mc ms (va_A wc sz)
section
variable {l : Launch} {y : MethodName} {ws' : List Cond} {rm : Room} {D : va_G} {cl : List vw_C} {tys : List (ClassId × FieldType)} {av : List Value} {wc : va_W} {S : Type} {mc ms : Nat} {cc : ByteArray} {maxL : Nat} {hh : List (Nat × Nat × Nat × Nat)}
theorem gk_H.of {post : Int32 → S → Prop} {w1 : S → va_W} {ty : FieldType} (hy : plainName y.cls = true) (hn : (lg_sl av).length ≤ maxL)
    (body : ∀ (p : Program) (e : Env) (s : State) (m : MethodId) (below : List Frame) (meth : Method) (c : Code) (A : Nat → Prop) (ls : Array Slot) (Q : State → Prop) (H : Heap) (locs : List Loc),
      p.tables.exec = Jvm.exec → c.code = cc → c.maxLocals = maxL → s.vm.findClass y.cls = some m.cls → (∀ w ∈ ws', w.before av.toArray s = true) → c.exceptionTable.toList = tableOf hh → gx_F A s H → gk_W D cl tys s A H locs wc → lv_has ls maxL (lv_args 0 av) →
      (∀ (v : Int32) (u : S) (H : Heap) (locs : List Loc) (cells slots pc : Nat) (ls : Array Slot), post v u → gk_W D cl tys s A H locs (w1 u) → decode cc pc = .ok (.ireturn, 1) → narrow ty (.int v) = .int v → cells ≤ mc → slots ≤ ms → W p l e rm s m av.toArray below meth c H locs cells slots Q (F0 m pc ls [.int v])) →
      W p l e rm s m av.toArray below meth c H locs 0 0 Q (F0 m 0 ls [])) : gk_H l y (.codeWith y cc maxL (some ty) hh :: ws') rm D cl tys av wc post w1 mc ms := by
  intro sz
  refine va_MetW (cc := cc) (maxL := maxL) (ret := some ty) (hh := hh) hy rfl ?_
  intro p e s m args below meth c s₁ B hml hv
  obtain ⟨rfl, ⟨hsz, hP, hK, hD0, hN⟩, hF⟩ := hv
  subst hsz
  have hx := B.exec
  have hb := B.bytes
  have hr := B.returns
  have hlocks := B.notSynchronized
  have hts := atoms_spec (ws := .codeWith y cc maxL (some ty) hh :: ws') B.pre
  have htab : c.exceptionTable.toList = tableOf hh := vx_table (x := y) B (hts _ List.mem_cons_self)
  have hown : s.vm.findClass y.cls = some m.cls := findClass_of_methodNamed B.named
  have hD := hD0.self (sz := s.heap.size)
  have hl := lv_entry av (n := maxL) hn
  rw [lg_entry_eq]
  refine body p e s m below meth c (va_A wc s.heap.size) _ _ s.heap [] hx hb hml hown (fun w h => hts w (List.mem_cons_of_mem _ h)) htab hF ⟨hK, hP, hD, va_S.rf, fun q h => Or.inr h, hN⟩ hl ?_
  intro v u H locs cells slots pc ls hp hW hd hnar hc1 hc2
  refine W.widen hc1 hc2 ?_
  exact W.zret (v := v) hx hb hr hnar (fun t ht hw => ⟨⟨v, u, rfl, hp, by rw [ht]; exact hW.2.1, va_K.moved hw.alike hW.1, hW.2.2.1⟩, hW.2.2.2.1.F ht⟩) hW.2.2.2.1.2.2 hd hlocks
end
section
variable {p : Program} {l : Launch} {e : Env} {R : Room} {s : State} {m : MethodId} {args : Array Value} {below : List Frame} {meth : Method} {c : Code} {H : Heap} {locs : List Loc} {cells slots : Nat} {Q : State → Prop} {D : va_G} {cl : List vw_C} {tys : List (ClassId × FieldType)} {A : Nat → Prop} {ws wc wr : va_W} {pc : Nat} {ls : Array Slot} {rest st0 : List Value} {S : Type} {mc ms : Nat} {a : Array Value}
theorem gx_pre {av : List Value} (hW : gk_W D cl tys s A H locs ws) (hF : gx_F A s H) (isC : List Nat) (hn : va_nd isC = true) (hC : isC.map (fun i => ws[i]?) = wc.map some) : PreS s H (va_Pc av (gx_B D cl tys wc H.size)) av :=
  ⟨gx_blind, fun U hU hv => ⟨((gk_pre (av := av) hW isC hn hC).2 U hU hv).1, ((gk_pre (av := av) hW isC hn hC).2 U hU hv).2, by rw [hU]; exact (hF.moved hv.alike).narrow (va_free (wc := wc) hW.2.2.1 hW.2.2.2.1 hW.2.2.2.2.1 isC hC)⟩⟩
theorem gx_preV {av : List Value} {b ci : Nat} {fs : List Value} {C : String} {T : u_T} {N : Nat} (hW : gk_W D cl tys s A H locs ws) (hF : gx_F A s H) (isC : List Nat) (hn : va_nd isC = true) (hC : isC.map (fun i => ws[i]?) = wc.map some) (hc : cl[ci]? = some (C, T, N)) (he : wc[0]? = some (b, .inr (ci, fs))) : PreV s H C b (va_Pc (.ref b :: av) (gx_B D cl tys wc H.size)) av :=
  ⟨gx_blind, (gk_preV (av := av) hW isC hn hC hc he).2.1, (gx_pre hW hF isC hn hC).2⟩
theorem gx_goI {post : Int32 → S → Prop} {px : String → S → Prop} {w1 : S → va_W} (hW : gk_W D cl tys s A H locs ws) (isC isR : List Nat) (hC : isC.map (fun i => ws[i]?) = wc.map some) (hR : isR.map (fun i => ws[i]?) = wr.map some) (hn : va_nd isR = true) (hdis : ∀ i ∈ isR, i ∉ isC)
    (hr : vx_Run p l e R s m args below meth c H locs cells slots mc ms (F0 m pc ls st0) rest (va_Qi post (gk_E D cl tys w1 (va_A wc H.size)) (va_A wc H.size) a) (vx_X (fun _ : S => True) (fun E u t => px E u ∧ gk_E D cl tys w1 (va_A wc H.size) u t) (va_A wc H.size)) (va_A wc H.size))
    (kx : ∀ (E : String) (ce : Cell) (q : Addr) (u : S) (H1 : Heap) (locs1 : List Loc), px E u → gk_W D cl tys s A H1 locs1 (wr ++ w1 u) → H1[q]? = some ce → ce.vm = .none → s.vm.findClass E = some ce.cls → vx_W p l e R s m args below meth c H1 locs1 (cells + mc) (slots + ms) Q (F0 m pc ls rest) q)
    (kk : ∀ (r : Int32) (u : S) (H1 : Heap) (locs1 : List Loc), post r u → gk_W D cl tys s A H1 locs1 (wr ++ w1 u) → W p l e R s m args below meth c H1 locs1 (cells + mc) (slots + ms) Q (F0 m (pc + 3) ls (.int r :: rest))) : W p l e R s m args below meth c H locs cells slots Q (F0 m pc ls st0) := by
  obtain ⟨hK, hP, hD, hS, hA⟩ := hW
  have hFc := va_free (wc := wc) hD hS hA.1 isC hC
  refine vx_calli hr hS (fun q _ h => hFc q h) hFc (fun q _ h => hFc q h) (fun E ce q9 u t H1 locs1 ht hvm _ hB hz1 hk1 hS1 hce hcv hcl => ?_) (fun r u t H1 locs1 ht hvm hw hB hz1 hk1 hS1 => ?_)
  · obtain ⟨hpx, hP1, hK1, hD1⟩ := hB
    rw [ht] at hP1
    obtain ⟨hP2, hD2⟩ := va_join (wr := wr) (w1 := w1 u) hP hD isC isR hC hR hn hdis hk1 hFc hP1 hD1
    exact kx E ce q9 u H1 locs1 hpx ⟨hK, hP2, hD2, hS1, hA⟩ hce hcv hcl
  · obtain ⟨hP1, hK1, hD1⟩ := hB
    rw [ht] at hP1
    obtain ⟨hP2, hD2⟩ := va_join (wr := wr) (w1 := w1 u) hP hD isC isR hC hR hn hdis hk1 hFc hP1 hD1
    exact kk r u H1 locs1 hw ⟨hK, hP2, hD2, hS1, hA⟩
theorem gx_goV {post : S → Prop} {px : String → S → Prop} {w1 : S → va_W} (hW : gk_W D cl tys s A H locs ws) (isC isR : List Nat) (hC : isC.map (fun i => ws[i]?) = wc.map some) (hR : isR.map (fun i => ws[i]?) = wr.map some) (hn : va_nd isR = true) (hdis : ∀ i ∈ isR, i ∉ isC)
    (hr : vx_Run p l e R s m args below meth c H locs cells slots mc ms (F0 m pc ls st0) rest (va_Qv post (gk_E D cl tys w1 (va_A wc H.size)) (va_A wc H.size) a) (vx_X (fun _ : S => True) (fun E u t => px E u ∧ gk_E D cl tys w1 (va_A wc H.size) u t) (va_A wc H.size)) (va_A wc H.size))
    (kx : ∀ (E : String) (ce : Cell) (q : Addr) (u : S) (H1 : Heap) (locs1 : List Loc), px E u → gk_W D cl tys s A H1 locs1 (wr ++ w1 u) → H1[q]? = some ce → ce.vm = .none → s.vm.findClass E = some ce.cls → vx_W p l e R s m args below meth c H1 locs1 (cells + mc) (slots + ms) Q (F0 m pc ls rest) q)
    (kk : ∀ (u : S) (H1 : Heap) (locs1 : List Loc), post u → gk_W D cl tys s A H1 locs1 (wr ++ w1 u) → W p l e R s m args below meth c H1 locs1 (cells + mc) (slots + ms) Q (F0 m (pc + 3) ls rest)) : W p l e R s m args below meth c H locs cells slots Q (F0 m pc ls st0) := by
  obtain ⟨hK, hP, hD, hS, hA⟩ := hW
  have hFc := va_free (wc := wc) hD hS hA.1 isC hC
  refine vx_callv hr hS (fun q _ h => hFc q h) hFc (fun q _ h => hFc q h) (fun E ce q9 u t H1 locs1 ht hvm _ hB hz1 hk1 hS1 hce hcv hcl => ?_) (fun u t H1 locs1 ht hvm hw hB hz1 hk1 hS1 => ?_)
  · obtain ⟨hpx, hP1, hK1, hD1⟩ := hB
    rw [ht] at hP1
    obtain ⟨hP2, hD2⟩ := va_join (wr := wr) (w1 := w1 u) hP hD isC isR hC hR hn hdis hk1 hFc hP1 hD1
    exact kx E ce q9 u H1 locs1 hpx ⟨hK, hP2, hD2, hS1, hA⟩ hce hcv hcl
  · obtain ⟨hP1, hK1, hD1⟩ := hB
    rw [ht] at hP1
    obtain ⟨hP2, hD2⟩ := va_join (wr := wr) (w1 := w1 u) hP hD isC isR hC hR hn hdis hk1 hFc hP1 hD1
    exact kk u H1 locs1 hw ⟨hK, hP2, hD2, hS1, hA⟩
end
