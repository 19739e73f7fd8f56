-- the tables' words that stay true as tables grow warm: one list for all methods
def wA : List Cond := lw_tbl.filter goodWord
theorem wA_of {w : Cond} (h : w ∈ lw_tbl) (g : goodWord w = true) : w ∈ wA := List.mem_filter.mpr ⟨h, g⟩
theorem wA_1 {w : Cond} {i : Nat} (h : tables_1_1[i]? = some w) (g : goodWord w = true) : w ∈ wA := wA_of (List.mem_append_right _ (List.mem_append_left _ (List.mem_of_getElem? h))) g
theorem wA_2 {w : Cond} {i : Nat} (h : tables_1_2[i]? = some w) (g : goodWord w = true) : w ∈ wA := wA_of (List.mem_append_right _ (List.mem_append_right _ (List.mem_append_left _ (List.mem_of_getElem? h)))) g
theorem wA_3 {w : Cond} {i : Nat} (h : tables_1_3[i]? = some w) (g : goodWord w = true) : w ∈ wA := wA_of (List.mem_append_right _ (List.mem_append_right _ (List.mem_append_right _ (List.mem_of_getElem? h)))) g
theorem wA_s {w : Cond} {i : Nat} (h : (k2_sels lw_privs)[i]? = some w) (g : goodWord w = true) : w ∈ wA := wA_of (List.mem_append_left _ (List.mem_of_getElem? h)) g
/-- words that a nest mate's member needs, and texts: they stay true too, each by a law of its own -/
def gk_nw : Cond → Bool
  | .fieldLinkNest .. => true
  | .methodLinkNest .. => true
  | .stringRef .. => true
  | .declares .. => true
  | .castable .. => true
  | _ => false
def wN : List Cond := lw_tbl.filter gk_nw
theorem wN_of {w : Cond} (h : w ∈ lw_tbl) (g : gk_nw w = true) : w ∈ wN := List.mem_filter.mpr ⟨h, g⟩
theorem wN_1 {w : Cond} {i : Nat} (h : tables_1_1[i]? = some w) (g : gk_nw w = true) : w ∈ wN := wN_of (List.mem_append_right _ (List.mem_append_left _ (List.mem_of_getElem? h))) g
theorem wN_2 {w : Cond} {i : Nat} (h : tables_1_2[i]? = some w) (g : gk_nw w = true) : w ∈ wN := wN_of (List.mem_append_right _ (List.mem_append_right _ (List.mem_append_left _ (List.mem_of_getElem? h)))) g
theorem wN_3 {w : Cond} {i : Nat} (h : tables_1_3[i]? = some w) (g : gk_nw w = true) : w ∈ wN := wN_of (List.mem_append_right _ (List.mem_append_right _ (List.mem_append_right _ (List.mem_of_getElem? h)))) g
/-- the pairs of exceptions of which one isn't the other -/
def gk_Nc (U : State) : Prop := va_Nc "java/lang/IllegalArgumentException" "java/lang/IllegalStateException" U ∧ va_Nc "java/lang/IllegalArgumentException" "java/lang/IndexOutOfBoundsException" U ∧ va_Nc "java/lang/IllegalStateException" "java/lang/IllegalArgumentException" U ∧ va_Nc "java/lang/IllegalStateException" "java/lang/IndexOutOfBoundsException" U
theorem gk_Nc.moved {u U : State} (hv : u.vm.Alike U.vm) (h : gk_Nc u) : gk_Nc U := ⟨h.1.moved hv, h.2.1.moved hv, h.2.2.1.moved hv, h.2.2.2.moved hv⟩
def gk_N (U : State) : Prop := (∀ w ∈ wN, va_Nw w U) ∧ gk_Nc U
theorem gk_str {a : String} {i : Nat} {t : String} {u U : State} (hv : U.vm = u.vm) (h : va_Nw (.stringRef a i t) u) : va_Nw (.stringRef a i t) U := by
  first
    | exact va_tabs rfl hv.symm h
    | (have h1 := h; simp only [va_Nw, Cond.before, Cond.holds, Cond.value, State.names, State.poolOf?, State.resolvedAt?, hv] at h1 ⊢; exact h1)
theorem gk_castW {a b : String} {s U : State} (hW : s.WarmedH U.vm) (hz : va_Nw (.castable a b) s) : va_Nw (.castable a b) U := by
  obtain ⟨c3, c4, h3, h4, h5⟩ := Cond.castable_spec (args := #[]) hz
  show (Cond.castable a b).holds #[] U none U [] = true
  simp [Cond.holds, Cond.value, hW.alike.findClass, h3, h4, hW.alike.assignable, h5]
theorem gk_N.same {u U : State} (hv : U.vm = u.vm) (h : gk_N u) : gk_N U := by
  refine ⟨?_, h.2.moved (by rw [hv]; exact Vm.Alike.refl _)⟩
  intro w hw
  have hg := (List.mem_filter.mp hw).2
  have hz := h.1 w hw
  cases w with
  | fieldLinkNest a i b n d h0 => exact va_Nw.same rfl hv.symm hz
  | methodLinkNest a i x h0 => exact va_Nw.same rfl hv.symm hz
  | stringRef a i t => exact gk_str hv hz
  | declares x => exact va_Nw.same rfl hv.symm hz
  | castable a b => exact va_Nw.same rfl hv.symm hz
  | _ => cases hg
theorem gk_N.warm {s U : State} (hW : s.WarmedH U.vm) (h : gk_N s) : gk_N U := by
  refine ⟨?_, h.2.moved hW.alike⟩
  intro w hw
  have hg := (List.mem_filter.mp hw).2
  have hz := h.1 w hw
  cases w with
  | fieldLinkNest a i b n d h0 => exact va_Nw.warmF hW hz
  | methodLinkNest a i x h0 => exact va_Nw.warmM hW hz
  | stringRef a i t => exact gk_str (u := s.setVm U.vm) rfl (Cond.stringRef_warmed hW hz)
  | declares x => exact va_Nw.warmD hW hz
  | castable a b => exact gk_castW hW hz
  | _ => cases hg
theorem gk_N.use {U : State} (h : gk_N U) {w : Cond} (hw : w ∈ wN) {args : Array Value} : w.before args U = true := by
  have hg := (List.mem_filter.mp hw).2
  have hz := h.1 w hw
  cases w with
  | fieldLinkNest a i b n d h0 => exact va_Nw.use rfl hz
  | methodLinkNest a i x h0 => exact va_Nw.use rfl hz
  | declares x => exact va_Nw.use rfl hz
  | castable a b => exact va_Nw.use rfl hz
  | stringRef a i t =>
    first
      | exact va_Nw.use rfl hz
      | (have h1 := hz; simp only [va_Nw, Cond.before, Cond.holds, Cond.value] at h1 ⊢; exact h1)
  | _ => cases hg
def gk_and (P : Cond → Prop) : List Cond → Prop
  | [] => True
  | w :: r => P w ∧ gk_and P r
theorem gk_all1 {P : Cond → Prop} : ∀ (l : List Cond), gk_and P l → ∀ w ∈ l, P w
  | [], _, _, h => absurd h List.not_mem_nil
  | a :: r, hp, w, h => (List.mem_cons.mp h).elim (fun e => e ▸ hp.1) (fun h => gk_all1 r hp.2 w h)
theorem gk_all {ws : List Cond} (l : List Cond) (e : ws = l) (h : gk_and (fun w => w ∈ wA) l) : ∀ w ∈ ws, w ∈ wA := e ▸ gk_all1 l h
theorem gk_good {ws : List Cond} (h : ∀ w ∈ ws, w ∈ wA) : GoodIn wA ws := fun w hw => ⟨h w hw, good_of_word (List.mem_filter.mp (h w hw)).2⟩
theorem gk_cons {c : Cond} (h : c ∈ wA) : ∀ w ∈ c :: wA, w ∈ wA := fun w hw => (List.mem_cons.mp hw).elim (fun e => e ▸ h) id
section
variable {R : Room} {s : State} {args : Array Value} {own host C : String} {index maxL n mc ms : Nat} {y : MethodName} {bytes : ByteArray} {ret : Option FieldType} {rm : Room}
theorem gk_cwS (hts : ∀ w ∈ wA, w.before args s = true) (h1 : Cond.methodLink own index y ∈ wA) (h2 : Cond.static y ∈ wA) (h3 : Cond.initialized own ∈ wA) (h4 : Cond.code y bytes maxL ret ∈ wA) (hc : y.cls = own)
    (hd : y.cls ≠ "java/lang/invoke/MethodHandle" ∧ y.cls ≠ "java/lang/invoke/VarHandle" ∧ (parseMethodDescriptor y.desc).map (fun d => d.parameters.length) = some n) (hrc : rm.cells = mc) (hrs : rm.slots = ms) (hR : rm.frames + 1 ≤ R.frames ∧ 8 + (maxL + 11) + rm.locals ≤ R.locals) :
    CallB R s args own index y bytes maxL ret (.code y bytes maxL ret :: wA) rm mc ms n ∧ (Cond.static y).before args s = true :=
  cwS n hts (gk_good (fun w hw => (List.mem_append.mp hw).elim (gk_all1 [_, _, _] ⟨h1, h2, h3, trivial⟩ w) (gk_cons h4 w))) rfl hrc hrs ⟨hc, hd⟩ hR
theorem gk_cwV (hts : ∀ w ∈ wA, w.before args s = true) (h1 : Cond.methodLink own index y ∈ wA) (h2 : Cond.instanceMethod y ∈ wA) (h5 : Cond.selects C y y ∈ wA) (h3 : Cond.initialized C ∈ wA) (h4 : Cond.code y bytes maxL ret ∈ wA) (hc : y.cls = C)
    (hd : y.cls ≠ "java/lang/invoke/MethodHandle" ∧ y.cls ≠ "java/lang/invoke/VarHandle" ∧ (parseMethodDescriptor y.desc).map (fun d => d.parameters.length) = some n) (hrc : rm.cells = mc) (hrs : rm.slots = ms) (hR : rm.frames + 1 ≤ R.frames ∧ 8 + (maxL + 11) + rm.locals ≤ R.locals) :
    CallW R s args own C index y bytes maxL ret (.code y bytes maxL ret :: wA) rm mc ms n :=
  cwV n hts (gk_good (fun w hw => (List.mem_append.mp hw).elim (gk_all1 [_, _, _, _] ⟨h1, h2, h5, h3, trivial⟩ w) (gk_cons h4 w))) rfl hrc hrs ⟨hc, hd⟩ hR
theorem gk_cwSN (hts : ∀ w ∈ wA, w.before args s = true) (hN : gk_N s) (h1 : Cond.methodLinkNest own index y host ∈ wN) (h2 : Cond.static y ∈ wA) (h3 : Cond.initialized y.cls ∈ wA) (h4 : Cond.code y bytes maxL ret ∈ wA)
    (hd : y.cls ≠ "java/lang/invoke/MethodHandle" ∧ y.cls ≠ "java/lang/invoke/VarHandle" ∧ (parseMethodDescriptor y.desc).map (fun d => d.parameters.length) = some n) (hrc : rm.cells = mc) (hrs : rm.slots = ms) (hR : rm.frames + 1 ≤ R.frames ∧ 8 + (maxL + 11) + rm.locals ≤ R.locals) :
    va_CN R s args own index y host bytes maxL ret (.code y bytes maxL ret :: wA) rm mc ms n ∧ (Cond.static y).before args s = true ∧ True :=
  ⟨va_cnB n hts (gk_good (gk_cons h4)) rfl hrc hrs (hN.1 _ h1) (hts _ h3) hd hR, hts _ h2, trivial⟩
theorem gk_cwVN (hts : ∀ w ∈ wA, w.before args s = true) (hN : gk_N s) (h1 : Cond.methodLinkNest own index y host ∈ wN) (h2 : Cond.instanceMethod y ∈ wA) (h5 : Cond.selects C y y ∈ wA) (h3 : Cond.initialized y.cls ∈ wA) (h4 : Cond.code y bytes maxL ret ∈ wA)
    (hd : y.cls ≠ "java/lang/invoke/MethodHandle" ∧ y.cls ≠ "java/lang/invoke/VarHandle" ∧ (parseMethodDescriptor y.desc).map (fun d => d.parameters.length) = some n) (hrc : rm.cells = mc) (hrs : rm.slots = ms) (hR : rm.frames + 1 ≤ R.frames ∧ 8 + (maxL + 11) + rm.locals ≤ R.locals) :
    va_CN R s args own index y host bytes maxL ret (.code y bytes maxL ret :: wA) rm mc ms n ∧ (Cond.instanceMethod y).before args s = true ∧ (Cond.selects C y y).before args s = true :=
  ⟨va_cnB n hts (gk_good (gk_cons h4)) rfl hrc hrs (hN.1 _ h1) (hts _ h3) hd hR, hts _ h2, hts _ h5⟩
end
