-- new arrays, and the makers' calls
section
variable {p : Program} {l : Launch} {e : Env} {R : Room} {s : State} {m : MethodId} {args : Array Value} {below : List Frame} {meth : Method} {c : Code} {H : Heap} {locs : List Loc} {cells slots : Nat} {Q : State → Prop} {D : va_G} {cl : List vw_C} {cI : ClassId} {cL : ClassId × ClassId} {A : Nat → Prop} {ws : va_W} {pc : Nat} {ls : Array Slot} {rest : List Value} {cc : ByteArray}
theorem gk_newi (hx : p.tables.exec = Jvm.exec) (hb : c.code = cc) (harr : (Cond.arrayClass .int).before args s = true) (hW : gk_W D cl (gk_T cI cL) s A H locs ws) {n : Int32} {N : Nat} (hn : ¬ n < 0) (hN : n.toNatClampNeg = N) (h4 : N * 4 ≤ 536870912) (hc : cells + 1 ≤ R.cells) (hs : slots + N ≤ R.slots) (hd : decode cc pc = .ok (.newarray .int, 2))
    (kk : ∀ (q : Nat) (H1 : Heap), gk_W D cl (gk_T cI cL) s A H1 locs (ws ++ [(q, .inl (cI, N, .inl (fun _ => 0)))]) → W p l e R s m args below meth c H1 locs (cells + 1) (slots + N) Q (F0 m (pc + 2) ls (.ref q :: rest))) : W p l e R s m args below meth c H locs cells slots Q (F0 m pc ls (.int n :: rest)) := by
  refine va_newa (atype := .int) (ty := .int) (a0 := (N, .inl (fun _ => 0))) hx hb harr rfl hW.1 hW.2.1 hW.2.2.1 hW.2.2.2.1 hW.2.2.2.2.1 (fun cA => rfl) hn hN h4 hc hs hd (fun q cA H1 hK hP hD hS => ?_)
  have h1 := (hK.2 3 (cA, .int) rfl).2
  have h2 := (hW.1.2 0 (cI, .int) rfl).2
  have e1 : cA = cI := Option.some.inj (h1.symm.trans h2)
  subst e1
  exact kk q H1 ⟨hW.1, hP, hD, hS, hW.2.2.2.2⟩
theorem gk_newl (hx : p.tables.exec = Jvm.exec) (hb : c.code = cc) (harr : (Cond.arrayClass .long).before args s = true) (hW : gk_W D cl (gk_T cI cL) s A H locs ws) {n : Int32} {N : Nat} (hn : ¬ n < 0) (hN : n.toNatClampNeg = N) (h4 : N * 8 ≤ 536870912) (hc : cells + 1 ≤ R.cells) (hs : slots + N ≤ R.slots) (hd : decode cc pc = .ok (.newarray .long, 2))
    (kk : ∀ (q : Nat) (H1 : Heap), gk_W D cl (gk_T cI cL) s A H1 locs (ws ++ [(q, .inl (cL.1, N, .inr (.inl (fun _ => 0))))]) → W p l e R s m args below meth c H1 locs (cells + 1) (slots + N) Q (F0 m (pc + 2) ls (.ref q :: rest))) : W p l e R s m args below meth c H locs cells slots Q (F0 m pc ls (.int n :: rest)) := by
  refine va_newa (atype := .long) (ty := .long) (a0 := (N, .inr (.inl (fun _ => 0)))) hx hb harr rfl hW.1 hW.2.1 hW.2.2.1 hW.2.2.2.1 hW.2.2.2.2.1 (fun cA => rfl) hn hN h4 hc hs hd (fun q cA H1 hK hP hD hS => ?_)
  have h1 := (hK.2 3 (cA, .long) rfl).2
  have h2 := (hW.1.2 1 (cL.1, .long) rfl).2
  have e1 : cA = cL.1 := Option.some.inj (h1.symm.trans h2)
  subst e1
  exact kk q H1 ⟨hW.1, hP, hD, hS, hW.2.2.2.2⟩
theorem gk_newz (hx : p.tables.exec = Jvm.exec) (hb : c.code = cc) (harr : (Cond.arrayClass .boolean).before args s = true) (hW : gk_W D cl (gk_T cI cL) s A H locs ws) {n : Int32} {N : Nat} (hn : ¬ n < 0) (hN : n.toNatClampNeg = N) (h4 : N * 1 ≤ 536870912) (hc : cells + 1 ≤ R.cells) (hs : slots + N ≤ R.slots) (hd : decode cc pc = .ok (.newarray .boolean, 2))
    (kk : ∀ (q : Nat) (H1 : Heap), gk_W D cl (gk_T cI cL) s A H1 locs (ws ++ [(q, .inl (cL.2, N, .inl (fun _ => 0)))]) → W p l e R s m args below meth c H1 locs (cells + 1) (slots + N) Q (F0 m (pc + 2) ls (.ref q :: rest))) : W p l e R s m args below meth c H locs cells slots Q (F0 m pc ls (.int n :: rest)) := by
  refine va_newa (atype := .boolean) (ty := .boolean) (a0 := (N, .inl (fun _ => 0))) hx hb harr rfl hW.1 hW.2.1 hW.2.2.1 hW.2.2.2.1 hW.2.2.2.2.1 (fun cA => rfl) hn hN h4 hc hs hd (fun q cA H1 hK hP hD hS => ?_)
  have h1 := (hK.2 3 (cA, .boolean) rfl).2
  have h2 := (hW.1.2 2 (cL.2, .boolean) rfl).2
  have e1 : cA = cL.2 := Option.some.inj (h1.symm.trans h2)
  subst e1
  exact kk q H1 ⟨hW.1, hP, hD, hS, hW.2.2.2.2⟩
end
section
variable {R : Room} {s : State} {args : Array Value} {own host : String} {index maxL n mc ms : Nat} {y : MethodName} {bytes : ByteArray} {rm : Room}
theorem gk_cwIN (hts : ∀ w ∈ wA, w.before args s = true) (hN : gk_N s) (h1 : Cond.methodLinkNest own index y host ∈ wN) (h2 : Cond.instanceMethod y ∈ wA) (h3 : Cond.initialized y.cls ∈ wA) (h4 : Cond.code y bytes maxL none ∈ wA) (h5 : y.name = "<init>")
    (hd : y.cls ≠ "java/lang/invoke/MethodHandle" ∧ y.cls ≠ "java/lang/invoke/VarHandle" ∧ (parseMethodDescriptor y.desc).map (fun d => d.parameters.length) = some n) (hrc : rm.cells = mc) (hrs : rm.slots = ms) (hR : rm.frames + 1 ≤ R.frames ∧ 8 + (maxL + 11) + rm.locals ≤ R.locals) :
    va_CN R s args own index y host bytes maxL none (.code y bytes maxL none :: wA) rm mc ms n ∧ y.name = "<init>" ∧ (Cond.instanceMethod y).before args s = true :=
  ⟨va_cnB n hts (gk_good (gk_cons h4)) rfl hrc hrs (hN.1 _ h1) (hts _ h3) hd hR, h5, hts _ h2⟩
theorem gk_cwI (hts : ∀ w ∈ wA, w.before args s = true) (h1 : Cond.methodLink own index y ∈ wA) (h2 : Cond.instanceMethod y ∈ wA) (h3 : Cond.initialized y.cls ∈ wA) (h4 : Cond.code y bytes maxL none ∈ wA) (h5 : y.name = "<init>")
    (hd : y.cls ≠ "java/lang/invoke/MethodHandle" ∧ y.cls ≠ "java/lang/invoke/VarHandle" ∧ (parseMethodDescriptor y.desc).map (fun d => d.parameters.length) = some n) (hrc : rm.cells = mc) (hrs : rm.slots = ms) (hR : rm.frames + 1 ≤ R.frames ∧ 8 + (maxL + 11) + rm.locals ≤ R.locals) :
    CallB R s args own index y bytes maxL none (.code y bytes maxL none :: wA) rm mc ms n ∧ y.name = "<init>" ∧ (Cond.instanceMethod y).before args s = true :=
  cwI n hts (gk_good (gk_cons h4)) rfl hrc hrs (hts _ h3) (hts _ h1) (hts _ h2) h5 hd hR
end
