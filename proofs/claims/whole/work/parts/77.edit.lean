-- changes: of the ranges, and of the text
theorem pn_nle {x y : Int32} (h : x < y) : ¬ y ≤ x := fun h2 => by
  have h3 := gn_lt.mp h
  have h4 := gn_le.mp h2
  omega
theorem pn_le {x y : Int32} (h : ¬ y < x) : x ≤ y := gn_le.mpr (by
  have h3 := mt gn_lt.mpr h
  omega)
theorem pn_dl {i m t p : Nat} (hpt : p ≤ t) (hti : t ≤ i) (hi : i ≤ 2000) (hm : m ≤ 5) : nI i + (nI m - (nI t - nI p)) = nI (p + m + (i - t)) := by
  rw [pn_sub hpt (by omega)]
  obtain ⟨z1, h1, e1⟩ := gk_sub (gk_vn (n := m) (by omega)) (gk_vn (n := t - p) (by omega)) (by omega) (by omega)
  obtain ⟨z2, h2, e2⟩ := gk_add (gk_vn (n := i) (by omega)) h1 (by omega) (by omega)
  refine gk_inj h2 ?_
  rw [show z2 = ((p + m + (i - t) : Nat) : Int) by omega]
  exact gk_vn (by omega)
theorem pn_D0 {m t p : Nat} (hpt : p ≤ t) (ht : t ≤ 2000) (hm : m ≤ 5) : nI m - (nI t - nI p) ≤ 0 ↔ p + m ≤ t := by
  rw [pn_sub hpt (by omega)]
  obtain ⟨z1, h1, e1⟩ := gk_sub (gk_vn (n := m) (by omega)) (gk_vn (n := t - p) (by omega)) (by omega) (by omega)
  constructor
  · intro h
    have h3 := gk_le h1 (show gk_v 0 0 from rfl) h
    omega
  · intro h
    refine gn_le.mpr ?_
    rw [show (nI m - nI (t - p)).toInt = z1 from h1]
    show z1 ≤ 0
    omega
theorem pn_plt {t : Nat} (ht : t ≤ 2000) : nI t - 1 < nI t := by
  cases t with
  | zero => decide
  | succ t =>
    rw [nI_pred]
    exact nI_lt (by omega) (by omega)
theorem pl_range {α : Type} {x1 x2 : Int32} (A B : α) : (if mm_mIsChar x1 = 0 then A else (if mm_mIsChar x2 = 0 then A else (if x2 < x1 then A else B))) = if mm_isRange x1 x2 = 0 then A else B := by
  unfold mm_isRange
  by_cases c1 : mm_isCharacter x1 = 0
  · rw [if_pos (show mm_mIsChar x1 = 0 from c1), if_pos c1, if_pos rfl]
  · rw [if_neg (show ¬ mm_mIsChar x1 = 0 from c1), if_neg c1]
    by_cases c2 : mm_isCharacter x2 = 0
    · rw [if_pos (show mm_mIsChar x2 = 0 from c2), if_pos c2, if_pos rfl]
    · rw [if_neg (show ¬ mm_mIsChar x2 = 0 from c2), if_neg c2]
      by_cases c3 : x2 < x1
      · rw [if_pos c3, if_pos c3, if_pos rfl]
      · rw [if_neg c3, if_neg c3, if_neg (by decide)]
section
variable {n : Nat} {tx cs rl fa1 la1 va1 : Nat → Int32} {mn1 : Int32} {fa2 la2 va2 : Nat → Int32} {mn2 : Int32} {fa3 la3 va3 : Nat → Int32} {mn3 b1 b2 b3 b4 b5 b6 ln lo kn rn : Int32} {fs lt kk mk mf ml ma : Nat → Int32} {il sz : Int32} {tt : Nat → Int32} {x1 x2 x3 x4 x5 x6 x7 fl : Int32} {gv fh : Nat → Int32}
theorem pl_mprop : mm_mProperty x1 x2 x3 fl rn fs lt kk = if mm_isRange x1 x2 = 0 then (1, rn, fs, lt, kk) else (if x3 < 0 then (1, rn, fs, lt, kk) else (if 43 < x3 then (1, rn, fs, lt, kk) else (if rn = 100 then (2, rn, fs, lt, kk) else (0, rn + 1, upd fs rn.toNatClampNeg x1, upd lt rn.toNatClampNeg x2, upd kk rn.toNatClampNeg x3)))) := pl_range _ _
theorem pl_61 (hn : n ≤ 2000) : ∀ (f i : Nat) (cs : Nat → Int32), n - i < f → i ≤ n → ∃ cs' : Nat → Int32, mm_property_61 x1 x2 x3 tx (nI n) f (nI i) cs fa1 la1 va1 mn1 b1 b2 b3 b4 b5 b6 kn = (0, cs', fa1, la1, va1, mn1, -1, -1, -1, -1, -1, 0, 0) ∧ (∀ j, j < i → cs' j = cs j) ∧ ∀ j, i ≤ j → j < n → cs' j = if tx j < x1 then cs j else (if x2 < tx j then cs j else x3) := by
  intro f
  induction f with
  | zero => intro i cs h; omega
  | succ f ih =>
    intro i cs hf hi
    by_cases h : n ≤ i
    · refine ⟨cs, ?_, fun j _ => rfl, fun j h1 h2 => absurd h2 (by omega)⟩
      rw [mm_property_61, if_pos (nI_le h (by omega))] <;> rfl
    · have step : ∀ cs2 : Nat → Int32, (∀ j, j ≠ i → cs2 j = cs j) → cs2 i = (if tx i < x1 then cs i else (if x2 < tx i then cs i else x3)) → mm_property_61 x1 x2 x3 tx (nI n) (f + 1) (nI i) cs fa1 la1 va1 mn1 b1 b2 b3 b4 b5 b6 kn = mm_property_61 x1 x2 x3 tx (nI n) f (nI (i + 1)) cs2 fa1 la1 va1 mn1 b1 b2 b3 b4 b5 b6 kn →
          ∃ cs' : Nat → Int32, mm_property_61 x1 x2 x3 tx (nI n) (f + 1) (nI i) cs fa1 la1 va1 mn1 b1 b2 b3 b4 b5 b6 kn = (0, cs', fa1, la1, va1, mn1, -1, -1, -1, -1, -1, 0, 0) ∧ (∀ j, j < i → cs' j = cs j) ∧ ∀ j, i ≤ j → j < n → cs' j = if tx j < x1 then cs j else (if x2 < tx j then cs j else x3) := by
        intro cs2 hc1 hc2 he
        obtain ⟨cs', e, k1, k2⟩ := ih (i + 1) cs2 (by omega) (by omega)
        refine ⟨cs', he.trans e, ?_, ?_⟩
        · intro j hj
          rw [k1 j (by omega), hc1 j (by omega)]
        · intro j hj1 hj2
          by_cases hji : j = i
          · subst hji
            rw [k1 j (by omega), hc2]
          · rw [k2 j (by omega) hj2, hc1 j hji]
      by_cases c1 : tx i < x1
      · exact step cs (fun _ _ => rfl) (if_pos c1).symm (by rw [mm_property_61, if_neg (nI_ge (by omega) (by omega)), nI_clamp (by omega), if_pos c1, nI_1])
      · by_cases c2 : x2 < tx i
        · exact step cs (fun _ _ => rfl) (by rw [if_neg c1, if_pos c2]) (by rw [mm_property_61, if_neg (nI_ge (by omega) (by omega)), nI_clamp (by omega), if_neg c1, if_pos c2, nI_1])
        · exact step (upd cs i x3) (fun j hj => pk_un hj) (by rw [if_neg c1, if_neg c2]; exact pk_us) (by rw [mm_property_61, if_neg (nI_ge (by omega) (by omega)), nI_clamp (by omega), if_neg c1, if_neg c2, nI_1])
-- rules below a change
theorem pe_kdc {cs' : Nat → Int32} {i : Nat} (hi : i < 2 ^ 31) (h : cs' i = cs i) : pe_kd cs' lo i = pe_kd cs lo i := by
  rw [pe_kdV hi, pe_kdV hi, h]
theorem pe_Bc {tx' cs' : Nat → Int32} : ∀ k, k ≤ 2000 → (∀ i, i < k → tx' i = tx i ∧ cs' i = cs i) → pe_B tx' cs' lo k = pe_B tx cs lo k := by
  intro k
  induction k with
  | zero => intro _ _; rfl
  | succ k ih =>
    intro hk h
    have e : ∀ (tx cs : Nat → Int32), pe_B tx cs lo (k + 1) = (match pe_B tx cs lo k with | (b1, b2, b3, b4, b5, b6) => mm_bPass (pe_kd cs lo k) (tx k) b1 b2 b3 b4 b5 b6) := fun _ _ => rfl
    rw [e tx' cs', e tx cs, ih (by omega) (fun i hi => h i (by omega)), (h k (by omega)).1, pe_kdc (by omega) (h k (by omega)).2]
theorem pe_Rc {tx' cs' : Nat → Int32} {q : Nat} (hq : q ≤ 2000) (h : ∀ i, i < q + 1 → tx' i = tx i ∧ cs' i = cs i) : pe_R tx' cs' fa2 la2 va2 mn2 fa3 la3 va3 mn3 lo q = pe_R tx cs fa2 la2 va2 mn2 fa3 la3 va3 mn3 lo q := by
  unfold pe_R
  rw [pe_Bc q hq (fun i hi => h i (by omega)), (h q (by omega)).1, pe_kdc (by omega) (h q (by omega)).2]
-- the given characters
def pl_5 (x1 x2 x3 x4 x5 : Int32) (g : Nat → Int32) : Nat → Int32 := upd (upd (upd (upd (upd g 0 x1) 1 x2) 2 x3) 3 x4) 4 x5
theorem pl_5e : ∀ i, i < 5 → pl_5 x1 x2 x3 x4 x5 gv i = pl_5 x1 x2 x3 x4 x5 fh i := by
  intro i hi
  rcases (show i = 0 ∨ i = 1 ∨ i = 2 ∨ i = 3 ∨ i = 4 by omega) with rfl | rfl | rfl | rfl | rfl <;> rfl
theorem pl_take {L : Nat} (hL : L ≤ 5) (h5 : L = 5 ∨ gv L = -1) (he : ∀ i, i < 5 → gv i = fh i) : ∀ f i : Nat, i ≤ L → L - i < f → ∃ m, m ≤ L ∧ mm_take_40 x1 x2 x3 x4 x5 f (nI i) gv = (nI m, gv) ∧ mm_mGiven_2 (nI L) fh f (nI i) = nI m := by
  have hge : ∀ i : Nat, i < 5 → ¬ (5 : Int32) ≤ nI i := fun i hi => nI_ge (a := i) (b := 5) hi (by omega)
  intro f
  induction f with
  | zero => intro i _ h; omega
  | succ f ih =>
    intro i hi hf
    by_cases h : L ≤ i
    · have hiL : i = L := by omega
      subst hiL
      refine ⟨i, Nat.le_refl _, ?_, ?_⟩
      · by_cases h6 : i = 5
        · subst h6
          rw [mm_take_40, if_pos (by decide)] <;> rfl
        · rw [mm_take_40, if_neg (hge i (by omega)), nI_clamp (by omega), if_pos (h5.resolve_left h6)]
      · rw [mm_mGiven_2, if_pos (nI_le (Nat.le_refl _) (by omega))]
    · by_cases hg : gv i = -1
      · refine ⟨i, by omega, ?_, ?_⟩
        · rw [mm_take_40, if_neg (hge i (by omega)), nI_clamp (by omega), if_pos hg]
        · rw [mm_mGiven_2, if_neg (nI_ge (by omega) (by omega)), nI_clamp (by omega), ← he i (by omega), if_pos hg]
      · obtain ⟨m, hm, e1, e2⟩ := ih (i + 1) (by omega) (by omega)
        refine ⟨m, hm, ?_, ?_⟩
        · rw [mm_take_40, if_neg (hge i (by omega)), nI_clamp (by omega), if_neg hg, nI_1]
          exact e1
        · rw [mm_mGiven_2, if_neg (nI_ge (by omega) (by omega)), nI_clamp (by omega), ← he i (by omega), if_neg hg, nI_1]
          exact e2
theorem pl_sound0 {m : Nat} (hm : m ≤ 5) : ∀ f i : Nat, i ≤ 5 → m - i < f → mm_mIsSound_4 (nI m) fh f 0 (nI i) = 0 := by
  intro f
  induction f with
  | zero => intro i _ h; omega
  | succ f ih =>
    intro i hi hf
    by_cases h : m ≤ i
    · rw [mm_mIsSound_4, if_pos (nI_le h (by omega))]
    · rw [mm_mIsSound_4, if_neg (nI_ge (by omega) (by omega)), if_pos rfl, nI_1]
      exact ih (i + 1) (by omega) (by omega)
theorem pl_sound {m : Nat} (hm : m ≤ 5) (he : ∀ i, i < 5 → gv i = fh i) : ∀ f i : Nat, i ≤ 5 → m - i < f → mm_areCharacters_2 (nI m) gv f (nI i) = mm_mIsSound_4 (nI m) fh f 1 (nI i) := by
  have hge : ∀ i : Nat, i < 5 → ¬ (5 : Int32) ≤ nI i := fun i hi => nI_ge (a := i) (b := 5) hi (by omega)
  intro f
  induction f with
  | zero => intro i _ h; omega
  | succ f ih =>
    intro i hi hf
    by_cases h : m ≤ i
    · have hle := nI_le h (show i < 2 ^ 31 by omega)
      rw [mm_areCharacters_2, mm_mIsSound_4, if_pos hle, if_pos hle]
    · have hle := nI_ge (show i < m by omega) (by omega)
      rw [mm_areCharacters_2, mm_mIsSound_4, if_neg hle, if_neg hle, if_neg (hge i (by omega)), nI_clamp (by omega), if_neg (show ¬ (1 : Int32) = 0 by decide), ← he i (by omega)]
      by_cases hc : mm_isCharacter (gv i) = 0
      · rw [if_pos hc, if_pos (show mm_mIsChar (gv i) = 0 from hc), nI_1, pl_sound0 hm f (i + 1) (by omega) (by omega)]
      · rw [if_neg hc, if_neg (show ¬ mm_mIsChar (gv i) = 0 from hc), nI_1]
        exact ih (i + 1) (by omega) (by omega)
theorem pl_50 {p m : Nat} (hm : m ≤ 5) (hpm : p + m ≤ 2000) : ∀ (f i : Nat) (tx cs : Nat → Int32), i ≤ m → m - i < f → ∃ tx' cs' : Nat → Int32, mm_putGiven_50 (nI p) x2 (nI m) gv fa1 la1 va1 mn1 f x4 (nI i) tx cs b1 b2 b3 b4 b5 b6 ln kn = mm_putGiven_109 (nI p) x2 (nI m) gv fa1 la1 va1 mn1 x4 (nI m) tx' cs' b1 b2 b3 b4 b5 b6 ln kn ∧ (∀ j, i ≤ j → j < m → tx' (p + j) = gv j ∧ cs' (p + j) = mm_rValueOf (gv j) 40 fa1 la1 va1 mn1) ∧ ∀ j, (j < p + i ∨ p + m ≤ j) → tx' j = tx j ∧ cs' j = cs j := by
  intro f
  induction f with
  | zero => intro i tx cs _ h; omega
  | succ f ih =>
    intro i tx cs hi hf
    by_cases h : m ≤ i
    · have him : i = m := by omega
      subst him
      refine ⟨tx, cs, ?_, fun j h1 h2 => absurd h2 (by omega), fun j _ => ⟨rfl, rfl⟩⟩
      rw [mm_putGiven_50, if_pos (nI_le (Nat.le_refl _) (by omega))]
    · obtain ⟨tx', cs', e, k1, k2⟩ := ih (i + 1) (upd tx (p + i) (gv i)) (upd cs (p + i) (mm_rValueOf (gv i) 40 fa1 la1 va1 mn1)) (by omega) (by omega)
      refine ⟨tx', cs', ?_, ?_, ?_⟩
      · have h5 : ¬ (5 : Int32) ≤ nI i := nI_ge (a := i) (b := 5) (by omega) (by omega)
        rw [mm_putGiven_50, if_neg (nI_ge (by omega) (by omega)), if_neg h5, nI_add, nI_clamp (n := p + i) (by omega), nI_clamp (n := i) (by omega), nI_1]
        exact e
      · intro j h1 h2
        by_cases hji : j = i
        · subst hji
          have h3 := k2 (p + j) (Or.inl (by omega))
          exact ⟨h3.1.trans pk_us, h3.2.trans pk_us⟩
        · exact k1 j (by omega) h2
      · intro j hj
        have h3 := k2 j (by omega)
        exact ⟨h3.1.trans (pk_un (by omega)), h3.2.trans (pk_un (by omega))⟩
theorem pl_add61 {m : Nat} (hm : m ≤ 5) (hnm : n + m ≤ 2000) : ∀ (f i : Nat) (tt : Nat → Int32), i ≤ m → m - i < f → ∃ tt' : Nat → Int32, mm_mAdd_61 x1 x2 x3 x4 x5 f (nI m) (nI i) fl (nI n) tt fh = (nI (n + m), fl, nI (n + m), tt', fh) ∧ (∀ j, i ≤ j → j < m → tt' (n + j) = fh j) ∧ ∀ j, (j < n + i ∨ n + m ≤ j) → tt' j = tt j := by
  intro f
  induction f with
  | zero => intro i tt _ h; omega
  | succ f ih =>
    intro i tt hi hf
    by_cases h : m ≤ i
    · refine ⟨tt, ?_, fun j h1 h2 => absurd h2 (by omega), fun j _ => rfl⟩
      rw [mm_mAdd_61, if_pos (nI_le h (by omega)), nI_add]
    · obtain ⟨tt', e, k1, k2⟩ := ih (i + 1) (upd tt (n + i) (fh i)) (by omega) (by omega)
      refine ⟨tt', ?_, ?_, ?_⟩
      · rw [mm_mAdd_61, if_neg (nI_ge (by omega) (by omega)), nI_add, nI_clamp (n := n + i) (by omega), nI_clamp (n := i) (by omega), nI_1]
        exact e
      · intro j h1 h2
        by_cases hji : j = i
        · subst hji
          exact (k2 (n + j) (Or.inl (by omega))).trans pk_us
        · exact k1 j (by omega) h2
      · intro j hj
        exact (k2 j (by omega)).trans (pk_un (by omega))
theorem pl_186 {p m : Nat} {D : Int32} (hm : m ≤ 5) (hpm : p + m ≤ 2000) : ∀ (f i : Nat) (tt : Nat → Int32), i ≤ m → m - i < f → ∃ tt' : Nat → Int32, mm_mReplace_186 (nI p) x2 x3 x4 x5 f (nI m) x7 D (nI i) fl sz tt fh = (sz + D, fl, sz + D, tt', fh) ∧ (∀ j, i ≤ j → j < m → tt' (p + j) = fh j) ∧ ∀ j, (j < p + i ∨ p + m ≤ j) → tt' j = tt j := by
  intro f
  induction f with
  | zero => intro i tt _ h; omega
  | succ f ih =>
    intro i tt hi hf
    by_cases h : m ≤ i
    · refine ⟨tt, ?_, fun j h1 h2 => absurd h2 (by omega), fun j _ => rfl⟩
      rw [mm_mReplace_186, if_pos (nI_le h (by omega))]
    · obtain ⟨tt', e, k1, k2⟩ := ih (i + 1) (upd tt (p + i) (fh i)) (by omega) (by omega)
      refine ⟨tt', ?_, ?_, ?_⟩
      · rw [mm_mReplace_186, if_neg (nI_ge (by omega) (by omega)), nI_add, nI_clamp (n := p + i) (by omega), nI_clamp (n := i) (by omega), nI_1]
        exact e
      · intro j h1 h2
        by_cases hji : j = i
        · subst hji
          exact (k2 (p + j) (Or.inl (by omega))).trans pk_us
        · exact k1 j (by omega) h2
      · intro j hj
        exact (k2 j (by omega)).trans (pk_un (by omega))
theorem pl_151 {p t m : Nat} {D : Int32} (hn : n ≤ 2000) (hT : p + m ≤ t) (htn : t ≤ n) (hD : ∀ i, t ≤ i → i ≤ n → nI i + D = nI (p + m + (i - t))) : ∀ (f i : Nat) (cur : Nat → Int32), n - i < f → t ≤ i → i ≤ n → (∀ j, t ≤ j → j < i → cur (p + m + (j - t)) = tt j) → (∀ j, j < p + m → cur j = tt j) → (∀ j, i ≤ j → cur j = tt j) →
    ∃ cur' : Nat → Int32, mm_mReplace_151 x1 x2 x3 x4 x5 f x6 x7 D (nI i) fl (nI n) cur fh = mm_mReplace_186 x1 x2 x3 x4 x5 6 x6 x7 D 0 fl (nI n) cur' fh ∧ (∀ j, t ≤ j → j < n → cur' (p + m + (j - t)) = tt j) ∧ ∀ j, j < p + m → cur' j = tt j := by
  intro f
  induction f with
  | zero => intro i cur h; omega
  | succ f ih =>
    intro i cur hf hti hi k1 k2 k3
    by_cases h : n ≤ i
    · exact ⟨cur, by rw [mm_mReplace_151, if_pos (nI_le h (by omega))], fun j h1 h2 => k1 j h1 (by omega), k2⟩
    · obtain ⟨cur', e, w1, w2⟩ := ih (i + 1) (upd cur (p + m + (i - t)) (tt i)) (by omega) (by omega) (by omega)
        (fun j h1 h2 => by
          by_cases hji : j = i
          · subst hji; exact pk_us
          · exact (pk_un (by omega)).trans (k1 j h1 (by omega)))
        (fun j h1 => (pk_un (by omega)).trans (k2 j h1))
        (fun j h1 => (pk_un (by omega)).trans (k3 j (by omega)))
      refine ⟨cur', ?_, w1, w2⟩
      rw [mm_mReplace_151, if_neg (nI_ge (by omega) (by omega)), hD i hti hi, nI_clamp (n := p + m + (i - t)) (by omega), nI_clamp (n := i) (by omega), nI_1, k3 i (Nat.le_refl _)]
      exact e
theorem pl_116 {p t m : Nat} {D : Int32} (hn : n ≤ 2000) (hm : m ≤ 5) (hpt : p ≤ t) (hT : t < p + m) (htn : t ≤ n) (hD : ∀ i, t ≤ i → i ≤ n → nI i + D = nI (p + m + (i - t))) : ∀ (f e : Nat) (cur : Nat → Int32), e - t < f → t ≤ e → e ≤ n → (∀ j, e ≤ j → j < n → cur (p + m + (j - t)) = tt j) → (∀ j, j < p + m → cur j = tt j) → (∀ j, j < e → cur j = tt j) →
    ∃ cur' : Nat → Int32, mm_mReplace_116 x1 (nI t) x3 x4 x5 f x6 x7 D (nI e - 1) fl (nI n) cur fh = mm_mReplace_186 x1 (nI t) x3 x4 x5 6 x6 x7 D 0 fl (nI n) cur' fh ∧ (∀ j, t ≤ j → j < n → cur' (p + m + (j - t)) = tt j) ∧ ∀ j, j < p + m → cur' j = tt j := by
  intro f
  induction f with
  | zero => intro e cur h; omega
  | succ f ih =>
    intro e cur hf hte he k1 k2 k3
    by_cases h : e = t
    · subst h
      exact ⟨cur, by rw [mm_mReplace_116, if_pos (pn_plt (by omega))], k1, k2⟩
    · obtain ⟨i, rfl⟩ : ∃ i, e = i + 1 := ⟨e - 1, by omega⟩
      obtain ⟨cur', e, w1, w2⟩ := ih i (upd cur (p + m + (i - t)) (tt i)) (by omega) (by omega) (by omega)
        (fun j h1 h2 => by
          by_cases hji : j = i
          · subst hji; exact pk_us
          · exact (pk_un (by omega)).trans (k1 j (by omega) h2))
        (fun j h1 => (pk_un (by omega)).trans (k2 j h1))
        (fun j h1 => (pk_un (by omega)).trans (k3 j (by omega)))
      refine ⟨cur', ?_, w1, w2⟩
      rw [nI_pred, mm_mReplace_116, if_neg (nI_nlt (by omega) (by omega)), hD i (by omega) (by omega), nI_clamp (n := p + m + (i - t)) (by omega), nI_clamp (n := i) (by omega), pn_ms, k3 i (by omega)]
      exact e
set_option maxHeartbeats 2000000 in
theorem pe_put {p t m : Nat} {tt' : Nat → Int32} (hI : lw_I tx cs rl fa1 la1 va1 mn1 fa2 la2 va2 mn2 fa3 la3 va3 mn3 b1 b2 b3 b4 b5 b6 (nI n) lo kn rn fs lt kk mk mf ml ma il sz tt) (hpt : p ≤ t) (htn : t ≤ n) (hm : m ≤ 5) (hn : n ≤ 2000) (hsz : p + m + (n - t) ≤ 2000) (q1 : ∀ j, j < p → tt' j = tt j) (q2 : ∀ j, j < m → tt' (p + j) = gv j) (q3 : ∀ j, t ≤ j → j < n → tt' (p + m + (j - t)) = tt j) :
    ∃ (tx' cs' : Nat → Int32) (b1' b2' b3' b4' b5' b6' kn' : Int32), mm_putGiven (nI p) (nI t) (nI m) tx cs gv fa1 la1 va1 mn1 b1 b2 b3 b4 b5 b6 (nI n) kn = (tx', cs', b1', b2', b3', b4', b5', b6', nI (p + m + (n - t)), kn') ∧ lw_I tx' cs' rl fa1 la1 va1 mn1 fa2 la2 va2 mn2 fa3 la3 va3 mn3 b1' b2' b3' b4' b5' b6' (nI (p + m + (n - t))) lo kn' rn fs lt kk mk mf ml ma il (nI (p + m + (n - t))) tt' := by
  obtain ⟨n0, r0, k, m2, m3, ⟨a1, a2, a3⟩, hr, ⟨d1, d2⟩, e2, e3, g, h1, h2, h3, h4, h5, h6, h7, h8⟩ := hI
  have hnn : n0 = n := ((nI_eq (by omega) (by omega)).mp a1).symm
  subst hnn
  subst d1
  have ed : nI n0 - nI t = nI (n0 - t) := pn_sub htn (by omega)
  obtain ⟨tx1, cs1, e1, w1, w2⟩ : ∃ tx1 cs1 : Nat → Int32, mm_putGiven (nI p) (nI t) (nI m) tx cs gv fa1 la1 va1 mn1 b1 b2 b3 b4 b5 b6 (nI n0) (nI k) = mm_putGiven_50 (nI p) (nI t) (nI m) gv fa1 la1 va1 mn1 6 (nI (n0 - t)) 0 tx1 cs1 b1 b2 b3 b4 b5 b6 (nI n0) (nI k) ∧ (∀ j, j < p + m → tx1 j = tx j ∧ cs1 j = cs j) ∧ ∀ j, t ≤ j → j < n0 → tx1 (p + m + (j - t)) = tx j ∧ cs1 (p + m + (j - t)) = cs j := by
    by_cases h : n0 - t = 0
    · refine ⟨tx, cs, ?_, fun j _ => ⟨rfl, rfl⟩, fun j h1 h2 => absurd h2 (by omega)⟩
      unfold mm_putGiven
      rw [ed, if_pos (by rw [h]; decide)]
    · refine ⟨va_cpy tx tx t (p + m) (n0 - t), va_cpy cs cs t (p + m) (n0 - t), ?_, ?_, ?_⟩
      · unfold mm_putGiven
        rw [ed, if_neg (nI_nle (by omega) (by omega)), nI_add, nI_clamp (n := t) (by omega), nI_clamp (n := p + m) (by omega), nI_clamp (n := n0 - t) (by omega)]
      · intro j hj
        exact ⟨pk_cpy_out (Or.inl hj), pk_cpy_out (Or.inl hj)⟩
      · intro j hj1 hj2
        have ej : t + (p + m + (j - t) - (p + m)) = j := by omega
        exact ⟨(pk_cpy_in (by omega) (by omega)).trans (by rw [ej]), (pk_cpy_in (by omega) (by omega)).trans (by rw [ej])⟩
  obtain ⟨tx2, cs2, e50, v1, v2⟩ := pl_50 (x2 := nI t) (x4 := nI (n0 - t)) (gv := gv) (fa1 := fa1) (la1 := la1) (va1 := va1) (mn1 := mn1) (b1 := b1) (b2 := b2) (b3 := b3) (b4 := b4) (b5 := b5) (b6 := b6) (ln := nI n0) (kn := nI k) hm (show p + m ≤ 2000 by omega) 6 0 tx1 cs1 (by omega) (by omega)
  rw [nI_0] at e50
  have etx : ∀ j, j < p → tx2 j = tx j ∧ cs2 j = cs j := fun j hj => ⟨(v2 j (Or.inl (by omega))).1.trans (w1 j (by omega)).1, (v2 j (Or.inl (by omega))).2.trans (w1 j (by omega)).2⟩
  have etail : ∀ j, t ≤ j → j < n0 → tx2 (p + m + (j - t)) = tx j ∧ cs2 (p + m + (j - t)) = cs j := fun j hj1 hj2 => ⟨(v2 _ (Or.inr (by omega))).1.trans (w2 j hj1 hj2).1, (v2 _ (Or.inr (by omega))).2.trans (w2 j hj1 hj2).2⟩
  have hcase : ∀ i, i < p + m + (n0 - t) → i < p ∨ (∃ j, j < m ∧ i = p + j) ∨ ∃ j, t ≤ j ∧ j < n0 ∧ i = p + m + (j - t) := by
    intro i hi
    by_cases c1 : i < p
    · exact Or.inl c1
    · by_cases c2 : i < p + m
      · exact Or.inr (Or.inl ⟨i - p, by omega, by omega⟩)
      · exact Or.inr (Or.inr ⟨i - (p + m) + t, by omega, by omega, by omega⟩)
  have ht2 : ∀ i, i < p + m + (n0 - t) → tx2 i = tt' i := by
    intro i hi
    rcases hcase i hi with c | ⟨j, c1, rfl⟩ | ⟨j, c1, c2, rfl⟩
    · rw [(etx i c).1, q1 i c, h1 i (by omega)]
    · rw [(v1 j (by omega) c1).1, q2 j c1]
    · rw [(etail j c1 c2).1, q3 j c1 c2, h1 j c2]
  have hc2 : ∀ i, i < p + m + (n0 - t) → cs2 i = mm_rValueOf (tx2 i) 40 fa1 la1 va1 mn1 := by
    intro i hi
    rcases hcase i hi with c | ⟨j, c1, rfl⟩ | ⟨j, c1, c2, rfl⟩
    · rw [(etx i c).1, (etx i c).2, h3 i (by omega)]
    · rw [(v1 j (by omega) c1).1, (v1 j (by omega) c1).2]
    · rw [(etail j c1 c2).1, (etail j c1 c2).2, h3 j c2]
  have hln : nI p + nI m + nI (n0 - t) = nI (p + m + (n0 - t)) := by rw [nI_add, nI_add]
  by_cases hk : k ≤ p
  · refine ⟨tx2, cs2, b1, b2, b3, b4, b5, b6, nI k, ?_, p + m + (n0 - t), r0, k, m2, m3, ⟨rfl, rfl, hsz⟩, hr, ⟨rfl, by omega⟩, e2, e3, g, ht2, h2, hc2, h4, h5, h6, ?_, ?_⟩
    · rw [e1, e50]
      unfold mm_putGiven_109
      rw [if_pos (nI_le hk (by omega)), hln]
    · rw [h7]
      exact (pe_Bc k (by omega) (fun i hi => etx i (by omega))).symm
    · intro q hq
      rw [h8 q hq]
      exact (pe_Rc (by omega) (fun i hi => etx i (by omega))).symm
  · refine ⟨tx2, cs2, -1, -1, -1, -1, -1, 0, 0, ?_, p + m + (n0 - t), r0, 0, m2, m3, ⟨rfl, rfl, hsz⟩, hr, ⟨nI_0.symm, by omega⟩, e2, e3, g, ht2, h2, hc2, h4, h5, h6, rfl, fun q hq => absurd hq (by omega)⟩
    rw [e1, e50]
    unfold mm_putGiven_109
    rw [if_neg (nI_ge (by omega) (by omega)), hln] <;> rfl
end
theorem pl_mmark {x1 x2 x3 x4 fl : Int32} {mk mf ml ma : Nat → Int32} : mm_mMark x1 x2 x3 x4 fl mk mf ml ma = if mm_isRange x1 x2 = 0 then (1, mk, mf, ml, ma) else (if x3 = 0 then (if (mk x3.toNatClampNeg) = 40 then (2, mk, mf, ml, ma) else (0, upd mk x3.toNatClampNeg ((mk x3.toNatClampNeg) + 1), upd mf ((40 * x3) + (mk x3.toNatClampNeg)).toNatClampNeg x1, upd ml ((40 * x3) + (mk x3.toNatClampNeg)).toNatClampNeg x2, upd ma ((40 * x3) + (mk x3.toNatClampNeg)).toNatClampNeg (vp_nar .boolean x4))) else (if x3 = 1 then (if (mk x3.toNatClampNeg) = 40 then (2, mk, mf, ml, ma) else (0, upd mk x3.toNatClampNeg ((mk x3.toNatClampNeg) + 1), upd mf ((40 * x3) + (mk x3.toNatClampNeg)).toNatClampNeg x1, upd ml ((40 * x3) + (mk x3.toNatClampNeg)).toNatClampNeg x2, upd ma ((40 * x3) + (mk x3.toNatClampNeg)).toNatClampNeg (vp_nar .boolean x4))) else (1, mk, mf, ml, ma))) := pl_range _ _
