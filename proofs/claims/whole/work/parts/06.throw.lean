-- methods that return or throw: contracts, their ends, their calls
def gx_F (A : Nat → Prop) (U : State) (H : Heap) : Prop := vx_Zq Bundle.tN "UNASSIGNED_STACK" Bundle.steD A U H ∧ vx_Zq Bundle.tN "SUPPRESSED_SENTINEL" Bundle.listD A U H
theorem gx_F.moved {A : Nat → Prop} {u U : State} {H : Heap} (hv : u.vm.Alike U.vm) (h : gx_F A u H) : gx_F A U H := ⟨h.1.moved hv, h.2.moved hv⟩
theorem gx_F.kept {A : Nat → Prop} {U : State} {H H1 : Heap} (h : gx_F A U H) (hq : ∀ a : Nat, a < H.size → ¬ A a → H1[a]? = H[a]?) : gx_F A U H1 := ⟨h.1.kept hq, h.2.kept hq⟩
theorem gx_F.narrow {A B : Nat → Prop} {U : State} {H : Heap} (h : gx_F A U H) (hAB : ∀ q, B q → A q) : gx_F B U H := ⟨h.1.narrow hAB, h.2.narrow hAB⟩
def gx_B (D : va_G) (cl : List vw_C) (tys : List (ClassId × FieldType)) (wc : va_W) (sz : Nat) : State → Prop := fun U => gk_B D cl tys wc sz U ∧ gx_F (va_A wc sz) U U.heap
theorem gx_blind {D : va_G} {cl : List vw_C} {tys : List (ClassId × FieldType)} {av : List Value} {wc : va_W} {sz : Nat} : FrameBlind (va_Pc av (gx_B D cl tys wc sz)) := by
  intro a U g mk q
  obtain ⟨q0, q1, q2⟩ := q
  have h := gk_blind (av := av) (D := D) (cl := cl) (tys := tys) (wc := wc) (sz := sz) a U g mk ⟨q0, q1⟩
  exact ⟨h.1, h.2, gx_F.moved (u := U) (U := U.calling g mk a) (Vm.Alike.refl U.vm) q2⟩
def gx_I {S : Type} (l : Launch) (y : MethodName) (ws : List Cond) (rm : Room) (D : va_G) (cl : List vw_C) (tys : List (ClassId × FieldType)) (av : List Value) (wc : va_W) (post : Int32 → S → Prop) (px : String → S → Prop) (w1 : S → va_W) (mc ms : Nat) : Prop :=
  ∀ sz : Nat, vx_Met l y ws rm (va_Pc av (gx_B D cl tys wc sz)) (va_Qi post (gk_E D cl tys w1 (va_A wc sz)) (va_A wc sz)) (vx_X (fun _ : S => True) (fun E u t => px E u ∧ gk_E D cl tys w1 (va_A wc sz) u t) (va_A wc sz)) mc ms (va_A wc sz)
def gx_V {S : Type} (l : Launch) (y : MethodName) (ws : List Cond) (rm : Room) (D : va_G) (cl : List vw_C) (tys : List (ClassId × FieldType)) (av : List Value) (wc : va_W) (post : S → Prop) (px : String → S → Prop) (w1 : S → va_W) (mc ms : Nat) : Prop :=
  ∀ sz : Nat, vx_Met l y ws rm (va_Pc av (gx_B D cl tys wc sz)) (va_Qv post (gk_E D cl tys w1 (va_A wc sz)) (va_A wc sz)) (vx_X (fun _ : S => True) (fun E u t => px E u ∧ gk_E D cl tys w1 (va_A wc sz) u t) (va_A wc sz)) mc ms (va_A wc sz)
theorem gx_str {own text : String} {i : Nat} {s : State} {m : ClassId} (hown : s.vm.findClass own = some m) (h : va_Nw (.stringRef own i text) s) : ∃ sa : Nat, vk_R own i text sa s := by
  obtain ⟨k, cf, j, a, -, -, -, -, -, hev⟩ := Cond.stringRef_spec (args := #[]) hown h
  exact ⟨a, h, hev⟩
/-- what a throw's row asks, in one word -/
def gx_T (cc : ByteArray) (own : String) (ws : List Cond) (rm : Room) (cls text : String) (names : List String) (pc ik is ic : Nat) : Prop :=
  (Bundle.fit cls = true ∧ (∀ n ∈ names, Bundle.fit n = true)) ∧ (Cond.classLink own ik cls ∈ ws ∧ Cond.initialized cls ∈ ws ∧ Cond.stringRef own is text ∈ wN ∧ ∀ w ∈ vx_atS own ic cls names, w ∈ ws ∨ w ∈ wN) ∧
  (∀ w ∈ Cond.classLink own ik cls :: Cond.initialized cls :: vx_atS own ic cls names, vx_ot w = true) ∧
  (decode cc pc = .ok (.new ik, 3) ∧ decode cc (pc + 3) = .ok (.dup, 1) ∧ decode cc (pc + 4) = .ok (.ldc is, 2) ∧ decode cc (pc + 6) = .ok (.invokespecial ic, 3) ∧ decode cc (pc + 9) = .ok (.athrow, 1)) ∧
  names.length + 3 < rm.frames ∧ 13 * (names.length + 1) + 43 ≤ rm.locals
section
variable {p : Program} {l : Launch} {e : Env} {R : Room} {s : State} {m : MethodId} {args : Array Value} {below : List Frame} {meth : Method} {c : Code} {H : Heap} {locs : List Loc} {cells slots : Nat} {D : va_G} {cl : List vw_C} {tys : List (ClassId × FieldType)} {A : Nat → Prop} {pc : Nat} {ls : Array Slot} {S : Type} {mc ms : Nat} {Qc : Array Value → State → Outcome → State → Prop}
theorem gx_thrown {cc : ByteArray} {own cls text : String} {names : List String} {ik is ic : Nat} {ws : List Cond} {px : String → S → Prop} {w1 : S → va_W} (hx : p.tables.exec = Jvm.exec) (hb : c.code = cc) (hl : l.stackTraces = false) (hown : s.vm.findClass own = some m.cls) (hts : ∀ w ∈ ws, w.before args s = true) (hF : gx_F A s s.heap) (hno : ∀ x ∈ c.exceptionTable.toList, False) (hlocks : meth.locks = false)
    (hT : gx_T cc own ws R cls text names pc ik is ic) {u : S} (hp : px cls u) (hW : gk_W D cl tys s A H locs (w1 u)) (hsize : ls.size = c.maxLocals) (h1 : cells + 1 ≤ mc) (h2 : slots + 6 ≤ ms) (h3 : cells + 1 ≤ R.cells) (h4 : slots + 6 ≤ R.slots) :
    W p l e R s m args below meth c H locs cells slots (vx_MQ below Qc (vx_X (fun _ : S => True) (fun E u t => px E u ∧ gk_E D cl tys w1 A u t) A) args s mc ms A) (F0 m pc ls []) := by
  obtain ⟨⟨f1, f2⟩, ⟨w1', w2', w3', w4'⟩, g1, ⟨d0, d3, d4, d6, d9⟩, r1, r2⟩ := hT
  obtain ⟨sa, hstr⟩ := gx_str hown (hW.2.2.2.2.2.1 _ w3')
  refine vx_throwS (A := A) (sa := sa) (text := text) (names := names) hx hb hl hown f1 f2 (hts _ w1') (hts _ w2') hstr (fun w h => (w4' w h).elim (hts w) (fun h9 => hW.2.2.2.2.2.use h9)) g1 hF.1 hF.2 hW.2.2.2.1 hsize d0 d3 d4 d6 d9 (fun x h => (hno x h).elim) r1 (by simpa using r2) h3 h4 hlocks ?_ hW.2.2.2.1.2.2 h1 h2
  intro t hal hz hk
  refine ⟨u, trivial, ⟨hp, hW.2.1.kept (fun k q hq => hk q.1 (hW.2.1 k q hq).lt), va_K.moved hal hW.1, hW.2.2.1⟩, Nat.le_trans hW.2.2.2.1.1 hz, fun q h5 h6 => ?_⟩
  rw [hk q (Nat.lt_of_lt_of_le h5 hW.2.2.2.1.1)]
  exact hW.2.2.2.1.2.1 q h5 h6
end
section
variable {l : Launch} {y : MethodName} {ws' : List Cond} {rm : Room} {D : va_G} {cl : List vw_C} {tys : List (ClassId × FieldType)} {av : List Value} {wc : va_W} {S : Type} {mc ms : Nat} {cc : ByteArray} {maxL : Nat}
theorem gx_I.of {post : Int32 → S → Prop} {px : String → S → Prop} {w1 : S → va_W} {ty : FieldType} (hst : l.stackTraces = false) (hy : plainName y.cls = true) (hn : (lg_sl av).length ≤ maxL)
    (body : ∀ (p : Program) (e : Env) (s : State) (m : MethodId) (below : List Frame) (meth : Method) (c : Code) (A : Nat → Prop) (ls : Array Slot) (Q : State → Prop) (H : Heap) (locs : List Loc),
      p.tables.exec = Jvm.exec → c.code = cc → c.maxLocals = maxL → s.vm.findClass y.cls = some m.cls → (∀ w ∈ ws', w.before av.toArray s = true) → gk_W D cl tys s A H locs wc → lv_has ls maxL (lv_args 0 av) →
      (∀ (v : Int32) (u : S) (H : Heap) (locs : List Loc) (cells slots pc : Nat) (ls : Array Slot), post v u → gk_W D cl tys s A H locs (w1 u) → decode cc pc = .ok (.ireturn, 1) → narrow ty (.int v) = .int v → cells ≤ mc → slots ≤ ms → W p l e rm s m av.toArray below meth c H locs cells slots Q (F0 m pc ls [.int v])) →
      (∀ (cls text : String) (names : List String) (pc ik is ic : Nat) (u : S) (H : Heap) (locs : List Loc) (cells slots : Nat) (ls : Array Slot), gx_T cc y.cls ws' rm cls text names pc ik is ic → px cls u → gk_W D cl tys s A H locs (w1 u) → ls.size = maxL → cells + 1 ≤ mc → slots + 6 ≤ ms → cells + 1 ≤ rm.cells → slots + 6 ≤ rm.slots → W p l e rm s m av.toArray below meth c H locs cells slots Q (F0 m pc ls [])) →
      W p l e rm s m av.toArray below meth c H locs 0 0 Q (F0 m 0 ls [])) : gx_I l y (.code y cc maxL (some ty) :: ws') rm D cl tys av wc post px w1 mc ms := by
  intro sz
  refine vx_ofW (cc := cc) (maxL := maxL) (ret := some ty) hy rfl ?_
  intro p e s m args below meth c s₁ B hml hno hv
  obtain ⟨rfl, ⟨hsz, hP, hK, hD0, hN⟩, hF⟩ := hv
  subst hsz
  have hx := B.exec
  have hb := B.bytes
  have hr := B.returns
  have hlocks := B.notSynchronized
  have hts := atoms_spec (ws := .code y cc maxL (some ty) :: ws') B.pre
  have hown : s.vm.findClass y.cls = some m.cls := findClass_of_methodNamed B.named
  have hD := hD0.self (sz := s.heap.size)
  have hl := lv_entry av (n := maxL) hn
  rw [lg_entry_eq]
  refine body p e s m below meth c (va_A wc s.heap.size) _ _ s.heap [] hx hb hml hown (fun w h => hts w (List.mem_cons_of_mem _ h)) ⟨hK, hP, hD, va_S.rf, fun q h => Or.inr h, hN⟩ hl ?_ ?_
  · intro v u H locs cells slots pc ls hp hW hd hnar hc1 hc2
    refine vx_ret (W.widen hc1 hc2 ?_)
    exact W.zret (v := v) hx hb hr hnar (fun t ht hw => ⟨⟨v, u, rfl, hp, by rw [ht]; exact hW.2.1, va_K.moved hw.alike hW.1, hW.2.2.1⟩, hW.2.2.2.1.F ht⟩) hW.2.2.2.1.2.2 hd hlocks
  · intro cls text names pc ik is ic u H locs cells slots ls hT hp hW hsize h1 h2 h3 h4
    exact gx_thrown hx hb hst hown (fun w h => hts w (List.mem_cons_of_mem _ h)) hF hno hlocks hT hp hW (hsize.trans hml.symm) h1 h2 h3 h4
theorem gx_V.of {post : S → Prop} {px : String → S → Prop} {w1 : S → va_W} (hst : l.stackTraces = false) (hy : plainName y.cls = true) (hn : (lg_sl av).length ≤ maxL)
    (body : ∀ (p : Program) (e : Env) (s : State) (m : MethodId) (below : List Frame) (meth : Method) (c : Code) (A : Nat → Prop) (ls : Array Slot) (Q : State → Prop) (H : Heap) (locs : List Loc),
      p.tables.exec = Jvm.exec → c.code = cc → c.maxLocals = maxL → s.vm.findClass y.cls = some m.cls → (∀ w ∈ ws', w.before av.toArray s = true) → meth.name = y.name → gk_W D cl tys s A H locs wc → lv_has ls maxL (lv_args 0 av) →
      (∀ (u : S) (H : Heap) (locs : List Loc) (cells slots pc : Nat) (ls : Array Slot), post u → gk_W D cl tys s A H locs (w1 u) → decode cc pc = .ok (.return_, 1) → cells ≤ mc → slots ≤ ms → W p l e rm s m av.toArray below meth c H locs cells slots Q (F0 m pc ls [])) →
      (∀ (cls text : String) (names : List String) (pc ik is ic : Nat) (u : S) (H : Heap) (locs : List Loc) (cells slots : Nat) (ls : Array Slot), gx_T cc y.cls ws' rm cls text names pc ik is ic → px cls u → gk_W D cl tys s A H locs (w1 u) → ls.size = maxL → cells + 1 ≤ mc → slots + 6 ≤ ms → cells + 1 ≤ rm.cells → slots + 6 ≤ rm.slots → W p l e rm s m av.toArray below meth c H locs cells slots Q (F0 m pc ls [])) →
      W p l e rm s m av.toArray below meth c H locs 0 0 Q (F0 m 0 ls [])) : gx_V l y (.code y cc maxL none :: ws') rm D cl tys av wc post px w1 mc ms := by
  intro sz
  refine vx_ofW (cc := cc) (maxL := maxL) (ret := none) hy rfl ?_
  intro p e s m args below meth c s₁ B hml hno hv
  obtain ⟨rfl, ⟨hsz, hP, hK, hD0, hN⟩, hF⟩ := hv
  subst hsz
  have hx := B.exec
  have hb := B.bytes
  have hr := B.returns
  have hlocks := B.notSynchronized
  have hts := atoms_spec (ws := .code y cc maxL none :: ws') B.pre
  have hown : s.vm.findClass y.cls = some m.cls := findClass_of_methodNamed B.named
  have hin := (name_of_methodNamed B.named B.method).1
  have hD := hD0.self (sz := s.heap.size)
  have hl := lv_entry av (n := maxL) hn
  rw [lg_entry_eq]
  refine body p e s m below meth c (va_A wc s.heap.size) _ _ s.heap [] hx hb hml hown (fun w h => hts w (List.mem_cons_of_mem _ h)) hin ⟨hK, hP, hD, va_S.rf, fun q h => Or.inr h, hN⟩ hl ?_ ?_
  · intro u H locs cells slots pc ls hp hW hd hc1 hc2
    refine vx_ret (W.widen hc1 hc2 ?_)
    exact W.vret hx hb hr (fun t ht hw => ⟨⟨u, rfl, hp, by rw [ht]; exact hW.2.1, va_K.moved hw.alike hW.1, hW.2.2.1⟩, hW.2.2.2.1.F ht⟩) hW.2.2.2.1.2.2 hd hlocks
  · intro cls text names pc ik is ic u H locs cells slots ls hT hp hW hsize h1 h2 h3 h4
    exact gx_thrown hx hb hst hown (fun w h => hts w (List.mem_cons_of_mem _ h)) hF hno hlocks hT hp hW (hsize.trans hml.symm) h1 h2 h3 h4
end
