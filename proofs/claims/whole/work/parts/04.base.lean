-- a small kit of our own over the kit's rows: a world in one word, contracts of methods that end by a return, calls as one row
/-- the world at a place of a walk: tables, cells, apartness, what has changed since the method's start -/
def gk_W (D : va_G) (cl : List vw_C) (tys : List (ClassId × FieldType)) (s : State) (A : Nat → Prop) (H : Heap) (locs : List Loc) (ws : va_W) : Prop :=
  va_K D cl tys s ∧ va_P D cl ws H ∧ va_D A ws ∧ va_S A s.heap H locs ∧ (∀ q : Nat, s.heap.size ≤ q → A q) ∧ gk_N s
def gk_B (D : va_G) (cl : List vw_C) (tys : List (ClassId × FieldType)) (wc : va_W) (sz : Nat) : State → Prop := fun U => U.heap.size = sz ∧ va_P D cl wc U.heap ∧ va_K D cl tys U ∧ va_D (fun _ => True) wc ∧ gk_N U
def gk_E {S : Type} (D : va_G) (cl : List vw_C) (tys : List (ClassId × FieldType)) (w1 : S → va_W) (A : Nat → Prop) : S → State → Prop := fun u t => va_P D cl (w1 u) t.heap ∧ va_K D cl tys t ∧ va_D A (w1 u)
/-- a method that answers an int: from the cells wc, with the arguments av, to the cells w1 u -/
def gk_I {S : Type} (l : Launch) (y : MethodName) (ws : List Cond) (rm : Room) (D : va_G) (cl : List vw_C) (tys : List (ClassId × FieldType)) (av : List Value) (wc : va_W) (post : Int32 → S → Prop) (w1 : S → va_W) (mc ms : Nat) : Prop :=
  ∀ sz : Nat, Met l y ws rm (va_Pc av (gk_B D cl tys wc sz)) (va_Qi post (gk_E D cl tys w1 (va_A wc sz)) (va_A wc sz)) mc ms (va_A wc sz)
/-- a method that answers nothing -/
def gk_V {S : Type} (l : Launch) (y : MethodName) (ws : List Cond) (rm : Room) (D : va_G) (cl : List vw_C) (tys : List (ClassId × FieldType)) (av : List Value) (wc : va_W) (post : S → Prop) (w1 : S → va_W) (mc ms : Nat) : Prop :=
  ∀ sz : Nat, Met l y ws rm (va_Pc av (gk_B D cl tys wc sz)) (va_Qv post (gk_E D cl tys w1 (va_A wc sz)) (va_A wc sz)) mc ms (va_A wc sz)
theorem gk_blind {D : va_G} {cl : List vw_C} {tys : List (ClassId × FieldType)} {av : List Value} {wc : va_W} {sz : Nat} : FrameBlind (va_Pc av (gk_B D cl tys wc sz)) := by
  intro a U g mk q
  obtain ⟨q0, q1, qP, qK, qD, qN⟩ := q
  exact ⟨q0, q1, qP, va_K.moved (u := U) (U := U.calling g mk a) (Vm.Alike.refl U.vm) qK, qD, gk_N.same (u := U) (U := U.calling g mk a) rfl qN⟩
theorem gk_fm {α β : Type} {f : α → Option β} : ∀ (is : List α) (w : List β), is.map f = w.map some → is.filterMap f = w
  | [], [], _ => rfl
  | [], _ :: _, h => by cases h
  | _ :: _, [], h => by cases h
  | a :: is, b :: w, h => by
    have h1 : f a = some b := (List.cons.inj h).1
    have h2 : is.map f = w.map some := (List.cons.inj h).2
    rw [List.filterMap_cons_some h1, gk_fm is w h2]
section
variable {D : va_G} {cl : List vw_C} {tys : List (ClassId × FieldType)} {s : State} {A : Nat → Prop} {H : Heap} {locs : List Loc} {ws wc wr : va_W}
/-- the same cells, fewer or in another order -/
theorem gk_W.re {ws' : va_W} (hW : gk_W D cl tys s A H locs ws) (is : List Nat) (hn : va_nd is = true) (hs : is.map (fun i => ws[i]?) = ws'.map some) : gk_W D cl tys s A H locs ws' :=
  ⟨hW.1, hW.2.1.sub is (gk_fm is ws' hs), hW.2.2.1.sub is hn hs, hW.2.2.2.1, hW.2.2.2.2⟩
theorem gk_W.P (hW : gk_W D cl tys s A H locs ws) : va_P D cl ws H := hW.2.1
/-- what a callee may ask of the cells that it gets -/
theorem gk_pre {av : List Value} (hW : gk_W D cl tys s A H locs ws) (isC : List Nat) (hn : va_nd isC = true) (hC : isC.map (fun i => ws[i]?) = wc.map some) : PreS s H (va_Pc av (gk_B D cl tys wc H.size)) av :=
  ⟨gk_blind, fun U hU hv => ⟨rfl, by rw [hU], by rw [hU]; exact hW.2.1.sub isC (gk_fm isC wc hC), va_K.moved hv.alike hW.1, (hW.2.2.1.sub isC hn hC).weaken (fun _ _ _ _ => trivial), gk_N.warm hv hW.2.2.2.2.2⟩⟩
theorem gk_preV {av : List Value} {a ci : Nat} {fs : List Value} {C : String} {T : u_T} {N : Nat} (hW : gk_W D cl tys s A H locs ws) (isC : List Nat) (hn : va_nd isC = true) (hC : isC.map (fun i => ws[i]?) = wc.map some) (hc : cl[ci]? = some (C, T, N)) (he : wc[0]? = some (a, .inr (ci, fs))) : PreV s H C a (va_Pc (.ref a :: av) (gk_B D cl tys wc H.size)) av :=
  ⟨gk_blind, va_recv hW.1 (hW.2.1.sub isC (gk_fm isC wc hC)) hc he, (gk_pre hW isC hn hC).2⟩
/-- behind a callee that has left its cells as they were -/
theorem gk_W.kept {H1 : Heap} {locs1 : List Loc} (hW : gk_W D cl tys s A H locs ws) (isC : List Nat) (hC : isC.map (fun i => ws[i]?) = wc.map some) (hk : ∀ q : Nat, q < H.size → ¬ va_A wc H.size q → H1[q]? = H[q]?) (hP1 : va_P D cl wc H1) (hS1 : va_S A s.heap H1 locs1) : gk_W D cl tys s A H1 locs1 ws := by
  obtain ⟨hK, hP, hD, hS, hA⟩ := hW
  refine ⟨hK, fun k q hk0 => ?_, hD, hS1, hA⟩
  by_cases hin : ∃ (j : Nat) (e : va_E), wc[j]? = some (q.1, e)
  · obtain ⟨j, e, hj⟩ := hin
    have h1 : (isC.map (fun i => ws[i]?))[j]? = (wc.map some)[j]? := by rw [hC]
    rw [List.getElem?_map, List.getElem?_map, hj] at h1
    cases hi : isC[j]? with
    | none => rw [hi] at h1; cases h1
    | some i =>
      rw [hi] at h1
      have h2 : ws[i]? = some (q.1, e) := Option.some.inj h1
      have h3 : i = k := hD.1 i k _ _ h2 hk0 rfl
      subst h3
      rw [hk0] at h2
      have h4 : q = (q.1, e) := Option.some.inj h2
      have h5 := hP1 j _ hj
      rwa [← h4] at h5
  · refine (hP k q hk0).kept (hk q.1 (hP k q hk0).lt ?_)
    rintro (h | h)
    · exact hin h
    · exact absurd (hP k q hk0).lt (Nat.not_lt.mpr h)
end
section
variable {p : Program} {l : Launch} {e : Env} {R : Room} {s : State} {m : MethodId} {args : Array Value} {below : List Frame} {meth : Method} {c : Code} {H : Heap} {locs : List Loc} {cells slots : Nat} {Q : State → Prop} {D : va_G} {cl : List vw_C} {tys : List (ClassId × FieldType)} {A : Nat → Prop} {ws wc wr : va_W} {pc : Nat} {ls : Array Slot} {rest st0 : List Value} {S : Type} {mc ms : Nat} {a : Array Value}
/-- behind a call that answers an int: the callee's cells as it left them, the rest as it was -/
theorem gk_goI {post : Int32 → S → Prop} {w1 : S → va_W} (hW : gk_W D cl tys s A H locs ws) (isC isR : List Nat) (hC : isC.map (fun i => ws[i]?) = wc.map some) (hR : isR.map (fun i => ws[i]?) = wr.map some) (hn : va_nd isR = true) (hdis : ∀ i ∈ isR, i ∉ isC)
    (hr : va_Run p l e R s m args below meth c H locs cells slots mc ms (F0 m pc ls st0) rest (va_Qi post (gk_E D cl tys w1 (va_A wc H.size)) (va_A wc H.size) a) (va_A wc H.size))
    (kk : ∀ (r : Int32) (u : S) (H1 : Heap) (locs1 : List Loc), post r u → gk_W D cl tys s A H1 locs1 (wr ++ w1 u) → W p l e R s m args below meth c H1 locs1 (cells + mc) (slots + ms) Q (F0 m (pc + 3) ls (.int r :: rest))) : W p l e R s m args below meth c H locs cells slots Q (F0 m pc ls st0) := by
  obtain ⟨hK, hP, hD, hS, hA⟩ := hW
  have hFc := va_free (wc := wc) hD hS hA.1 isC hC
  refine va_calli hr hS (fun q _ h => hFc q h) hFc (fun r u t H1 locs1 ht hvm hw hB hz1 hk1 hS1 => ?_)
  obtain ⟨hP1, hK1, hD1⟩ := hB
  rw [ht] at hP1
  obtain ⟨hP2, hD2⟩ := va_join (wr := wr) (w1 := w1 u) hP hD isC isR hC hR hn hdis hk1 hFc hP1 hD1
  exact kk r u H1 locs1 hw ⟨hK, hP2, hD2, hS1, hA⟩
theorem gk_goV {post : S → Prop} {w1 : S → va_W} (hW : gk_W D cl tys s A H locs ws) (isC isR : List Nat) (hC : isC.map (fun i => ws[i]?) = wc.map some) (hR : isR.map (fun i => ws[i]?) = wr.map some) (hn : va_nd isR = true) (hdis : ∀ i ∈ isR, i ∉ isC)
    (hr : va_Run p l e R s m args below meth c H locs cells slots mc ms (F0 m pc ls st0) rest (va_Qv post (gk_E D cl tys w1 (va_A wc H.size)) (va_A wc H.size) a) (va_A wc H.size))
    (kk : ∀ (u : S) (H1 : Heap) (locs1 : List Loc), post u → gk_W D cl tys s A H1 locs1 (wr ++ w1 u) → W p l e R s m args below meth c H1 locs1 (cells + mc) (slots + ms) Q (F0 m (pc + 3) ls rest)) : W p l e R s m args below meth c H locs cells slots Q (F0 m pc ls st0) := by
  obtain ⟨hK, hP, hD, hS, hA⟩ := hW
  have hFc := va_free (wc := wc) hD hS hA.1 isC hC
  refine va_callv hr hS (fun q _ h => hFc q h) hFc (fun u t H1 locs1 ht hvm hw hB hz1 hk1 hS1 => ?_)
  obtain ⟨hP1, hK1, hD1⟩ := hB
  rw [ht] at hP1
  obtain ⟨hP2, hD2⟩ := va_join (wr := wr) (w1 := w1 u) hP hD isC isR hC hR hn hdis hk1 hFc hP1 hD1
  exact kk u H1 locs1 hw ⟨hK, hP2, hD2, hS1, hA⟩
/-- behind a call that only reads: the answer is v, the world is as it was -/
theorem gk_goR {v : Int32} (hW : gk_W D cl tys s A H locs ws) (isC : List Nat) (hC : isC.map (fun i => ws[i]?) = wc.map some)
    (hr : va_Run p l e R s m args below meth c H locs cells slots 0 0 (F0 m pc ls st0) rest (va_Qi (fun (r : Int32) (_ : Unit) => r = v) (gk_E D cl tys (fun _ => wc) (va_A wc H.size)) (va_A wc H.size) a) (va_A wc H.size))
    (kk : ∀ (H1 : Heap) (locs1 : List Loc), gk_W D cl tys s A H1 locs1 ws → W p l e R s m args below meth c H1 locs1 cells slots Q (F0 m (pc + 3) ls (.int v :: rest))) : W p l e R s m args below meth c H locs cells slots Q (F0 m pc ls st0) := by
  have hFc := va_free (wc := wc) hW.2.2.1 hW.2.2.2.1 hW.2.2.2.2.1 isC hC
  refine va_calli hr hW.2.2.2.1 (fun q _ h => hFc q h) hFc (fun r u t H1 locs1 ht hvm hw hB hz1 hk1 hS1 => ?_)
  obtain ⟨hP1, hK1, hD1⟩ := hB
  rw [ht] at hP1
  subst hw
  exact kk H1 locs1 (hW.kept isC hC hk1 hP1 hS1)
end
section
variable {l : Launch} {y : MethodName} {ws' : List Cond} {rm : Room} {D : va_G} {cl : List vw_C} {tys : List (ClassId × FieldType)} {av : List Value} {wc : va_W} {S : Type} {mc ms : Nat} {cc : ByteArray} {maxL : Nat}
/-- a contract out of a walk: the walk gets its end as a row -/
theorem gk_I.of {post : Int32 → S → Prop} {w1 : S → va_W} {ty : FieldType} (hy : plainName y.cls = true) (hn : (lg_sl av).length ≤ maxL)
    (body : ∀ (p : Program) (e : Env) (s : State) (m : MethodId) (below : List Frame) (meth : Method) (c : Code) (A : Nat → Prop) (ls : Array Slot) (Q : State → Prop) (H : Heap) (locs : List Loc),
      p.tables.exec = Jvm.exec → c.code = cc → c.maxLocals = maxL → s.vm.findClass y.cls = some m.cls → (∀ w ∈ ws', w.before av.toArray s = true) → gk_W D cl tys s A H locs wc → lv_has ls maxL (lv_args 0 av) →
      (∀ (v : Int32) (u : S) (H : Heap) (locs : List Loc) (cells slots pc : Nat) (ls : Array Slot), post v u → gk_W D cl tys s A H locs (w1 u) → decode cc pc = .ok (.ireturn, 1) → narrow ty (.int v) = .int v → cells ≤ mc → slots ≤ ms → W p l e rm s m av.toArray below meth c H locs cells slots Q (F0 m pc ls [.int v])) →
      W p l e rm s m av.toArray below meth c H locs 0 0 Q (F0 m 0 ls [])) : gk_I l y (.code y cc maxL (some ty) :: ws') rm D cl tys av wc post w1 mc ms := by
  intro sz
  refine Met.ofW (cc := cc) (maxL := maxL) (ret := some ty) hy rfl ?_
  intro p e s m args below meth c s₁ B hml hv
  obtain ⟨rfl, hsz, hP, hK, hD0, hN⟩ := hv
  subst hsz
  have hx := B.exec
  have hb := B.bytes
  have hr := B.returns
  have hlocks := B.notSynchronized
  have hts := atoms_spec (ws := .code y cc maxL (some ty) :: ws') B.pre
  have hown : s.vm.findClass y.cls = some m.cls := findClass_of_methodNamed B.named
  have hD := hD0.self (sz := s.heap.size)
  have hl := lv_entry av (n := maxL) hn
  rw [lg_entry_eq]
  refine body p e s m below meth c (va_A wc s.heap.size) _ _ s.heap [] hx hb hml hown (fun w h => hts w (List.mem_cons_of_mem _ h)) ⟨hK, hP, hD, va_S.rf, fun q h => Or.inr h, hN⟩ hl ?_
  intro v u H locs cells slots pc ls hp hW hd hnar hc1 hc2
  refine W.widen hc1 hc2 ?_
  exact W.zret (v := v) hx hb hr hnar (fun t ht hw => ⟨⟨v, u, rfl, hp, by rw [ht]; exact hW.2.1, va_K.moved hw.alike hW.1, hW.2.2.1⟩, hW.2.2.2.1.F ht⟩) hW.2.2.2.1.2.2 hd hlocks
theorem gk_V.of {post : S → Prop} {w1 : S → va_W} (hy : plainName y.cls = true) (hn : (lg_sl av).length ≤ maxL)
    (body : ∀ (p : Program) (e : Env) (s : State) (m : MethodId) (below : List Frame) (meth : Method) (c : Code) (A : Nat → Prop) (ls : Array Slot) (Q : State → Prop) (H : Heap) (locs : List Loc),
      p.tables.exec = Jvm.exec → c.code = cc → c.maxLocals = maxL → s.vm.findClass y.cls = some m.cls → (∀ w ∈ ws', w.before av.toArray s = true) → meth.name = y.name → gk_W D cl tys s A H locs wc → lv_has ls maxL (lv_args 0 av) →
      (∀ (u : S) (H : Heap) (locs : List Loc) (cells slots pc : Nat) (ls : Array Slot), post u → gk_W D cl tys s A H locs (w1 u) → decode cc pc = .ok (.return_, 1) → cells ≤ mc → slots ≤ ms → W p l e rm s m av.toArray below meth c H locs cells slots Q (F0 m pc ls [])) →
      W p l e rm s m av.toArray below meth c H locs 0 0 Q (F0 m 0 ls [])) : gk_V l y (.code y cc maxL none :: ws') rm D cl tys av wc post w1 mc ms := by
  intro sz
  refine Met.ofW (cc := cc) (maxL := maxL) (ret := none) hy rfl ?_
  intro p e s m args below meth c s₁ B hml hv
  obtain ⟨rfl, hsz, hP, hK, hD0, hN⟩ := hv
  subst hsz
  have hx := B.exec
  have hb := B.bytes
  have hr := B.returns
  have hlocks := B.notSynchronized
  have hts := atoms_spec (ws := .code y cc maxL none :: ws') B.pre
  have hown : s.vm.findClass y.cls = some m.cls := findClass_of_methodNamed B.named
  have hin := (name_of_methodNamed B.named B.method).1
  have hD := hD0.self (sz := s.heap.size)
  have hl := lv_entry av (n := maxL) hn
  rw [lg_entry_eq]
  refine body p e s m below meth c (va_A wc s.heap.size) _ _ s.heap [] hx hb hml hown (fun w h => hts w (List.mem_cons_of_mem _ h)) hin ⟨hK, hP, hD, va_S.rf, fun q h => Or.inr h, hN⟩ hl ?_
  intro u H locs cells slots pc ls hp hW hd hc1 hc2
  refine W.widen hc1 hc2 ?_
  exact W.vret hx hb hr (fun t ht hw => ⟨⟨u, rfl, hp, by rw [ht]; exact hW.2.1, va_K.moved hw.alike hW.1, hW.2.2.1⟩, hW.2.2.2.1.F ht⟩) hW.2.2.2.1.2.2 hd hlocks
end
