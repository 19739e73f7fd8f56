-- what holds between the class's cells and the reference's
def pe_kd (cs : Nat → Int32) (lo : Int32) (i : Nat) : Int32 := mm_kindAt (nI i) cs lo
def pe_B (tx cs : Nat → Int32) (lo : Int32) : Nat → Int32 × Int32 × Int32 × Int32 × Int32 × Int32
  | 0 => (-1, -1, -1, -1, -1, 0)
  | i + 1 => match pe_B tx cs lo i with | (b1, b2, b3, b4, b5, b6) => mm_bPass (pe_kd cs lo i) (tx i) b1 b2 b3 b4 b5 b6
def pe_R (tx cs fa2 la2 va2 : Nat → Int32) (mn2 : Int32) (fa3 la3 va3 : Nat → Int32) (mn3 lo : Int32) (p : Nat) : Int32 :=
  match pe_B tx cs lo p with | (b1, b2, b3, b4, b5, b6) => mm_findRule (pe_kd cs lo p) (tx p) fa2 la2 va2 mn2 fa3 la3 va3 mn3 b1 b2 b3 b4 b5 b6
def lw_I (tx cs rl fa1 la1 va1 : Nat → Int32) (mn1 : Int32) (fa2 la2 va2 : Nat → Int32) (mn2 : Int32) (fa3 la3 va3 : Nat → Int32) (mn3 b1 b2 b3 b4 b5 b6 ln lo kn : Int32) (rn : Int32) (fs lt kk mk mf ml ma : Nat → Int32) (il sz : Int32) (tt : Nat → Int32) : Prop :=
  ∃ (n r k m2 m3 : Nat), (ln = nI n ∧ sz = nI n ∧ n ≤ 2000) ∧ (mn1 = nI r ∧ rn = nI r ∧ r ≤ 100) ∧ (kn = nI k ∧ k ≤ n) ∧ (mn2 = nI m2 ∧ mk 0 = nI m2 ∧ m2 ≤ 40) ∧ (mn3 = nI m3 ∧ mk 1 = nI m3 ∧ m3 ≤ 40) ∧ (lo = il ∧ (lo = 0 ∨ lo = 1)) ∧
    (∀ i, i < n → tx i = tt i) ∧ (∀ i, i < r → fa1 i = fs i ∧ la1 i = lt i ∧ va1 i = kk i ∧ 0 ≤ (kk i).toInt ∧ (kk i).toInt ≤ 43) ∧ (∀ i, i < n → cs i = mm_rValueOf (tx i) 40 fa1 la1 va1 mn1) ∧
    (∀ i, i < m2 → fa2 i = mf i ∧ la2 i = ml i ∧ va2 i = ma i) ∧ (∀ i, i < m3 → fa3 i = mf (40 + i) ∧ la3 i = ml (40 + i) ∧ va3 i = ma (40 + i)) ∧ (∀ i, ma i = 0 ∨ ma i = 1) ∧
    (b1, b2, b3, b4, b5, b6) = pe_B tx cs lo k ∧ ∀ p, p < k → rl p = pe_R tx cs fa2 la2 va2 mn2 fa3 la3 va3 mn3 lo p
theorem pe_pre {tx cs rl fa1 la1 va1 : Nat → Int32} {mn1 : Int32} {fa2 la2 va2 : Nat → Int32} {mn2 : Int32} {fa3 la3 va3 : Nat → Int32} {mn3 b1 b2 b3 b4 b5 b6 ln lo kn : Int32} {rn : Int32} {fs lt kk mk mf ml ma : Nat → Int32} {il sz : Int32} {tt : Nat → Int32}
    (h : lw_I tx cs rl fa1 la1 va1 mn1 fa2 la2 va2 mn2 fa3 la3 va3 mn3 b1 b2 b3 b4 b5 b6 ln lo kn rn fs lt kk mk mf ml ma il sz tt) :
    ∃ z_ln z_kn z_mn1 z_mn2 z_mn3 z_rn z_sz : Int, (gk_v ln z_ln ∧ gk_v kn z_kn ∧ gk_v mn1 z_mn1 ∧ gk_v mn2 z_mn2 ∧ gk_v mn3 z_mn3 ∧ gk_v rn z_rn ∧ gk_v sz z_sz) ∧ (0 ≤ z_ln ∧ z_ln ≤ 2000) ∧ (0 ≤ z_kn ∧ z_kn ≤ z_ln) ∧ (0 ≤ z_mn1 ∧ z_mn1 ≤ 100) ∧ (0 ≤ z_mn2 ∧ z_mn2 ≤ 40) ∧ (0 ≤ z_mn3 ∧ z_mn3 ≤ 40) ∧ (0 ≤ z_rn ∧ z_rn ≤ 100) ∧ (0 ≤ z_sz ∧ z_sz ≤ 2000) ∧
      (∀ i : Nat, i < 2 → ∃ z : Int, gk_v (mk i) z ∧ 0 ≤ z ∧ z ≤ 40) ∧ (∀ i : Nat, ma i = 0 ∨ ma i = 1) ∧ (lo = 0 ∨ lo = 1) ∧ (il = 0 ∨ il = 1) := by
  obtain ⟨n, r, k, m2, m3, ⟨a1, a2, a3⟩, ⟨c1, c2, c3⟩, ⟨d1, d2⟩, ⟨e1, e2, e3⟩, ⟨f1, f2, f3⟩, ⟨g1, g2⟩, -, -, -, -, -, hma, -, -⟩ := h
  refine ⟨n, k, r, m2, m3, r, n, ⟨?_, ?_, ?_, ?_, ?_, ?_, ?_⟩, by omega, by omega, by omega, by omega, by omega, by omega, by omega, ?_, hma, g2, by rw [← g1]; exact g2⟩
  · rw [a1]; exact gk_vn (by omega)
  · rw [d1]; exact gk_vn (by omega)
  · rw [c1]; exact gk_vn (by omega)
  · rw [e1]; exact gk_vn (by omega)
  · rw [f1]; exact gk_vn (by omega)
  · rw [c2]; exact gk_vn (by omega)
  · rw [a2]; exact gk_vn (by omega)
  · intro i hi
    rcases (show i = 0 ∨ i = 1 by omega) with rfl | rfl
    · exact ⟨m2, by rw [e2]; exact gk_vn (by omega), by omega, by omega⟩
    · exact ⟨m3, by rw [f2]; exact gk_vn (by omega), by omega, by omega⟩
