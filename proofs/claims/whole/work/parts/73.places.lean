-- places: what stands before a place, on both sides
theorem pn_m1 (n : Nat) : nI (n + 1) + (-1) = nI n := (Int32.sub_eq_add_neg _ _).symm.trans (nI_pred n)
theorem pn_0m : nI 0 + (-1) = -1 := by decide
theorem pn_0s : nI 0 - 1 = -1 := by decide
theorem pn_par (m : Nat) : nI ((m + 1) % 2) = if nI (m % 2) = 0 then 1 else 0 := by
  rcases (show m % 2 = 0 ∨ m % 2 = 1 by omega) with h | h
  · rw [h, show (m + 1) % 2 = 1 by omega]; rfl
  · rw [h, show (m + 1) % 2 = 0 by omega]; rfl
def pk_L (K : Nat → Int32) (i : Nat) : Int32 := if i = 0 then 0 else pk_L2 (K i) (K (i - 1))
def pk_b (K : Nat → Int32) : Nat → Nat
  | 0 => 0
  | i + 1 => if pk_L K (i + 1) = 0 then i + 1 else pk_b K i
def pk_s (K : Nat → Int32) : Nat → Int32
  | 0 => -1
  | p + 1 => if K p = 4 then pk_s K p else pk_C (K (pk_b K p))
def pk_F (K : Nat → Int32) : Nat → Nat
  | 0 => if pk_C (K 0) = 37 then 1 else 0
  | p + 1 => if pk_L K (p + 1) = 0 then (if pk_C (K (p + 1)) = 37 then pk_F K p + 1 else 0) else pk_F K p
def pk_z (K : Nat → Int32) (p : Nat) : Int32 := if pk_b K p = 0 then -1 else pk_C (K (pk_b K (pk_b K p - 1)))
theorem pk_Ls (K : Nat → Int32) (i : Nat) : pk_L K (i + 1) = pk_L2 (K (i + 1)) (K i) := rfl
theorem pk_bp {K : Nat → Int32} {i : Nat} (h : pk_L K (i + 1) = 0) : pk_b K (i + 1) = i + 1 := by
  rw [pk_b, if_pos h]
theorem pk_bn {K : Nat → Int32} {i : Nat} (h : ¬ pk_L K (i + 1) = 0) : pk_b K (i + 1) = pk_b K i := by
  rw [pk_b, if_neg h]
theorem pk_sp {K : Nat → Int32} {p : Nat} (h : K p = 4) : pk_s K (p + 1) = pk_s K p := by
  rw [pk_s, if_pos h]
theorem pk_sn {K : Nat → Int32} {p : Nat} (h : ¬ K p = 4) : pk_s K (p + 1) = pk_C (K (pk_b K p)) := by
  rw [pk_s, if_neg h]
theorem pk_ble (K : Nat → Int32) : ∀ i, pk_b K i ≤ i := by
  intro i
  induction i with
  | zero => exact Nat.le_refl _
  | succ i ih =>
    by_cases h : pk_L K (i + 1) = 0
    · rw [pk_bp h]; exact Nat.le_refl _
    · rw [pk_bn h]; omega
theorem pk_Fle (K : Nat → Int32) : ∀ i, pk_F K i ≤ i + 1 := by
  intro i
  induction i with
  | zero => rw [pk_F]; split <;> omega
  | succ i ih => rw [pk_F]; split <;> (try split) <;> omega
theorem pk_skq {K : Nat → Int32} {n : Nat} (hK : ∀ i, i < n → kc (K i)) : ∀ p, p ≤ n → kq (pk_s K p) := by
  intro p
  induction p with
  | zero => intro _; exact Or.inl rfl
  | succ p ih =>
    intro hp
    rw [pk_s]
    split
    · exact ih (by omega)
    · exact (pk_Ckc (hK _ (by have := pk_ble K p; omega))).q
theorem pk_pass {k t b1 b2 b3 b4 b5 b6 : Int32} (hk : kc k) : mm_bPass k t b1 b2 b3 b4 b5 b6 = if mm_bLeavesout k b1 = 0 then (k, pk_C k, t, b2, (if k = 4 then b5 else pk_C k), (if pk_C k = 37 then (if b6 = 0 then 1 else 0) else 0)) else (k, b2, b3, b4, b5, b6) := by
  unfold mm_bPass
  rw [pk_stands hk]
  by_cases h0 : mm_bLeavesout k b1 = 0
  · rw [if_pos h0, if_pos h0]
    have e53 : ∀ (y b5' : Int32), mm_bPass_53 k t y k (pk_C k) t b2 b5' b6 = (k, pk_C k, t, b2, b5', if pk_C k = 37 then (if b6 = 0 then 1 else 0) else 0) := by
      intro y b5'
      unfold mm_bPass_53
      by_cases h37 : pk_C k = 37
      · simp only [if_pos h37]
        by_cases h6 : b6 = 0
        · simp only [if_pos h6]
        · simp only [if_neg h6]
      · simp only [if_neg h37]
    rw [e53, e53]
    by_cases h4 : k = 4
    · rw [if_pos ((pk_C4 hk).mpr h4), if_pos h4]
    · rw [if_neg (mt (pk_C4 hk).mp h4), if_neg h4]
  · rw [if_neg h0, if_neg h0]
theorem pk_fold {tx cs : Nat → Int32} {lo : Int32} {n : Nat} (hK : ∀ i, i < n → kc (pe_kd cs lo i)) : ∀ p, p < n → pe_B tx cs lo (p + 1) = (pe_kd cs lo p, pk_C (pe_kd cs lo (pk_b (pe_kd cs lo) p)), tx (pk_b (pe_kd cs lo) p), pk_z (pe_kd cs lo) p, pk_s (pe_kd cs lo) (p + 1), nI (pk_F (pe_kd cs lo) p % 2)) := by
  generalize hKe : pe_kd cs lo = K at hK ⊢
  intro p
  induction p with
  | zero =>
    intro hp
    rw [pe_B, pe_B, hKe]
    dsimp only
    rw [pk_pass (hK 0 hp), pk_leaves0 (hK 0 hp), if_pos rfl, pk_s, pk_s, pk_F]
    show _ = (K 0, pk_C (K 0), tx 0, (-1 : Int32), _, _)
    by_cases h37 : pk_C (K 0) = 37
    · simp only [if_pos h37]; rfl
    · simp only [if_neg h37]; rfl
  | succ p ih =>
    intro hp
    have hk := hK (p + 1) hp
    rw [pe_B, ih (by omega), hKe]
    dsimp only
    rw [pk_pass hk, pk_leaves hk (hK p (by omega)), ← pk_Ls]
    by_cases hL : pk_L K (p + 1) = 0
    · have es : pk_s K (p + 1 + 1) = (if K (p + 1) = 4 then pk_s K (p + 1) else pk_C (K (pk_b K (p + 1)))) := rfl
      have eF : pk_F K (p + 1) = (if pk_L K (p + 1) = 0 then (if pk_C (K (p + 1)) = 37 then pk_F K p + 1 else 0) else pk_F K p) := rfl
      have ez : pk_z K (p + 1) = (if pk_b K (p + 1) = 0 then -1 else pk_C (K (pk_b K (pk_b K (p + 1) - 1)))) := rfl
      rw [pk_bp hL] at es ez
      rw [if_pos hL] at eF
      rw [if_neg (by omega)] at ez
      rw [if_pos hL, pk_bp hL, es, eF, ez]
      show _ = (K (p + 1), pk_C (K (p + 1)), tx (p + 1), pk_C (K (pk_b K p)), _, _)
      by_cases h37 : pk_C (K (p + 1)) = 37
      · simp only [if_pos h37, pn_par]
      · simp only [if_neg h37]; rfl
    · have h4 : ¬ K (p + 1) = 4 := by
        intro h
        apply hL
        rw [pk_Ls, h]
        rfl
      have h4' : ¬ K p = 4 := by
        intro h
        apply hL
        rw [pk_Ls]
        exact pk_L2_4 h
      rw [if_neg hL, pk_bn hL, pk_s, if_neg h4', pk_s, if_neg h4, pk_bn hL, pk_F, if_neg hL, pk_z, pk_z, pk_bn hL]
-- the reference
def pl_E (l k s lo : Int32) : Int32 := if l = 0 then 40 else (if l = 1 then 50 else (if l = 2 then 50 else (if l = 3 then 50 else (if 3 < k then (if k = 4 then 70 else (if k = 5 then 70 else (if s = 5 then 80 else (if l = 7 then 81 else (if lo = 0 then 0 else 90))))) else 60))))
theorem pl_E5 {l k : Int32} (hl : kc l) (hk : kc k) : pl_E l k 5 (pk_L2 k l) = mm_ruleOfSpaces k l 5 := kc2 (P := fun l k => pl_E l k 5 (pk_L2 k l) = mm_ruleOfSpaces k l 5) (by decide +kernel) hl hk
theorem pl_E0 {l k : Int32} (hl : kc l) (hk : kc k) : pl_E l k 0 (pk_L2 k l) = mm_ruleOfSpaces k l 0 := kc2 (P := fun l k => pl_E l k 0 (pk_L2 k l) = mm_ruleOfSpaces k l 0) (by decide +kernel) hl hk
theorem pl_Es {l k s : Int32} (hl : kc l) (hk : kc k) : pl_E l k s (pk_L2 k l) = mm_ruleOfSpaces k l s := by
  by_cases hs : s = 5
  · subst hs; exact pl_E5 hl hk
  · have h0 : ((0 : Int32) = 5) = False := eq_false (by decide)
    have e1 : pl_E l k s (pk_L2 k l) = pl_E l k 0 (pk_L2 k l) := by
      unfold pl_E
      simp only [hs, h0, if_false]
    have e2 : mm_ruleOfSpaces k l s = mm_ruleOfSpaces k l 0 := by
      unfold mm_ruleOfSpaces
      simp only [hs, h0, if_false]
    rw [e1, e2]
    exact pl_E0 hl hk
theorem pl_pE {l k : Int32} (hl : kc l) (hk : kc k) (s : Int32) : pk_p (mm_ruleOfSpaces k l s) := by
  rw [← pl_Es hl hk]
  unfold pl_E pk_p
  repeat' split
  all_goals first | exact Or.inl rfl | exact Or.inr (by decide)
theorem pk_w50 (hd l k : Int32) : pk_w 50 hd l k = (50, if l = 1 then (if k = 2 then 0 else 2) else 2) := rfl
section
variable {n : Nat} {K : Nat → Int32} {rn il x1 : Int32} {fs lt kk tt : Nat → Int32} (hn : n ≤ 2000) (hC : ∀ i, i < n → mm_mClassOf (nI i) rn fs lt kk il tt = K i) (hK : ∀ i, i < n → kc (K i))
theorem rk_mark {i : Nat} (hC : ∀ i, i < n → mm_mClassOf (nI i) rn fs lt kk il tt = K i) (hi : i < n) : mm_mIsMark (nI i) rn fs lt kk il tt = if K i = 8 then 1 else (if K i = 7 then 1 else 0) := by
  unfold mm_mIsMark
  rw [hC i hi]
theorem rk_left {i : Nat} (hn : n ≤ 2000) (hC : ∀ i, i < n → mm_mClassOf (nI i) rn fs lt kk il tt = K i) (hi : i < n) : mm_mIsLeftOut (nI i) rn fs lt kk il tt = pk_L K i := by
  unfold mm_mIsLeftOut
  cases i with
  | zero => rw [if_pos nI_0]; rfl
  | succ i =>
    rw [if_neg (nI_ne0 (by omega) (by omega)), rk_mark hC hi, nI_pred, hC i (by omega), pk_Ls]
    unfold pk_L2
    by_cases h8 : K (i + 1) = 8
    · simp only [if_pos h8, if_pos (Or.inl h8 : K (i + 1) = 8 ∨ K (i + 1) = 7)]; rfl
    · by_cases h7 : K (i + 1) = 7
      · simp only [if_neg h8, if_pos h7, if_pos (Or.inr h7 : K (i + 1) = 8 ∨ K (i + 1) = 7)]; rfl
      · simp only [if_neg h8, if_neg h7, if_neg (fun h => h.elim h8 h7 : ¬ (K (i + 1) = 8 ∨ K (i + 1) = 7))]; rfl
theorem rk_base2 (hn : n ≤ 2000) (hC : ∀ i, i < n → mm_mClassOf (nI i) rn fs lt kk il tt = K i) : ∀ (i f : Nat), i < f → i < n → mm_mBase_2 x1 rn fs lt kk il tt f (nI i) = nI (pk_b K i) := by
  intro i
  induction i with
  | zero =>
    intro f hf hi
    obtain ⟨f, rfl⟩ : ∃ g, f = g + 1 := ⟨f - 1, by omega⟩
    rw [mm_mBase_2, if_neg (nI_pos (by omega)), rk_left hn hC hi, if_pos (show pk_L K 0 = 0 from rfl)]
    rfl
  | succ i ih =>
    intro f hf hi
    obtain ⟨f, rfl⟩ : ∃ g, f = g + 1 := ⟨f - 1, by omega⟩
    rw [mm_mBase_2, if_neg (nI_pos (by omega)), rk_left hn hC hi]
    by_cases h : pk_L K (i + 1) = 0
    · rw [if_pos h, pk_bp h]
    · rw [if_neg h, pk_bn h, pn_m1]
      exact ih f (by omega) (by omega)
theorem rk_base {i : Nat} (hn : n ≤ 2000) (hC : ∀ i, i < n → mm_mClassOf (nI i) rn fs lt kk il tt = K i) (hi : i < n) : mm_mBase (nI i) rn fs lt kk il tt = nI (pk_b K i) := rk_base2 hn hC i 2100 (by omega) hi
theorem rk_base0' (f : Nat) : mm_mBase_2 x1 rn fs lt kk il tt (f + 1) (-1) = -1 := by
  rw [mm_mBase_2, if_pos (by decide)]
theorem rk_base0 : mm_mBase (-1) rn fs lt kk il tt = -1 := rk_base0' 2099
theorem rk_bc {i : Nat} (hn : n ≤ 2000) (hC : ∀ i, i < n → mm_mClassOf (nI i) rn fs lt kk il tt = K i) (hi : i < n) : mm_mBaseClass (nI i) rn fs lt kk il tt = pk_C (K i) := by
  unfold mm_mBaseClass pk_C
  rw [if_pos (nI_pos' (by omega)), rk_mark hC hi, hC i hi]
  by_cases h8 : K i = 8
  · simp only [if_pos h8]; rfl
  · by_cases h7 : K i = 7
    · simp only [if_neg h8, if_pos h7]; rfl
    · simp only [if_neg h8, if_neg h7]; rfl
theorem rk_bc0 : mm_mBaseClass (-1) rn fs lt kk il tt = -1 := by
  unfold mm_mBaseClass
  rw [if_neg (by decide)]
theorem rk_spaces4 (hn : n ≤ 2000) (hC : ∀ i, i < n → mm_mClassOf (nI i) rn fs lt kk il tt = K i) : ∀ (i f : Nat), i + 1 < f → i < n → mm_mBeforeSpaces_4 x1 rn fs lt kk il tt f (nI i) = pk_s K (i + 1) := by
  intro i
  induction i with
  | zero =>
    intro f hf hi
    obtain ⟨f, rfl⟩ : ∃ g, f = g + 1 + 1 := ⟨f - 2, by omega⟩
    rw [mm_mBeforeSpaces_4, if_neg (nI_pos (by omega)), hC 0 hi, pk_s]
    by_cases h : K 0 = 4
    · rw [if_pos h, if_pos h, pn_0m, mm_mBeforeSpaces_4, if_pos (by decide)]
      unfold mm_mBeforeSpaces_23
      rw [rk_base0, rk_bc0]
      rfl
    · rw [if_neg h, if_neg h]
      unfold mm_mBeforeSpaces_23
      rw [rk_base hn hC hi, rk_bc hn hC (by have := pk_ble K 0; omega)]
  | succ i ih =>
    intro f hf hi
    obtain ⟨f, rfl⟩ : ∃ g, f = g + 1 := ⟨f - 1, by omega⟩
    rw [mm_mBeforeSpaces_4, if_neg (nI_pos (by omega)), hC (i + 1) hi, pk_s]
    by_cases h : K (i + 1) = 4
    · rw [if_pos h, if_pos h, pn_m1]
      exact ih f (by omega) (by omega)
    · rw [if_neg h, if_neg h]
      unfold mm_mBeforeSpaces_23
      rw [rk_base hn hC hi, rk_bc hn hC (by have := pk_ble K (i + 1); omega)]
theorem rk_spaces {q : Nat} (hn : n ≤ 2000) (hC : ∀ i, i < n → mm_mClassOf (nI i) rn fs lt kk il tt = K i) (hq : q < n) : mm_mBeforeSpaces (nI (q + 1)) rn fs lt kk il tt = pk_s K (q + 1) := by
  unfold mm_mBeforeSpaces
  rw [nI_pred]
  exact rk_spaces4 hn hC q 2100 (by omega) hq
theorem rk_flags4 (hn : n ≤ 2000) (hC : ∀ i, i < n → mm_mClassOf (nI i) rn fs lt kk il tt = K i) : ∀ (i f c : Nat), i + 1 < f → i < n → mm_mFlags_4 x1 rn fs lt kk il tt f (nI c) (nI (pk_b K i)) = nI (c + pk_F K i) := by
  intro i
  induction i with
  | zero =>
    intro f c hf hi
    obtain ⟨f, rfl⟩ : ∃ g, f = g + 1 + 1 := ⟨f - 2, by omega⟩
    show mm_mFlags_4 x1 rn fs lt kk il tt (f + 1 + 1) (nI c) (nI 0) = _
    rw [mm_mFlags_4, if_neg (nI_pos (by omega)), rk_bc hn hC hi, pk_F]
    by_cases h : pk_C (K 0) = 37
    · rw [if_pos h, if_pos h, pn_0s, rk_base0, mm_mFlags_4, if_pos (by decide)]
      exact nI_1 c
    · rw [if_neg h, if_neg h]
      rfl
  | succ i ih =>
    intro f c hf hi
    rw [pk_F]
    by_cases hL : pk_L K (i + 1) = 0
    · rw [if_pos hL, pk_bp hL]
      obtain ⟨f, rfl⟩ : ∃ g, f = g + 1 := ⟨f - 1, by omega⟩
      rw [mm_mFlags_4, if_neg (nI_pos (by omega)), rk_bc hn hC hi]
      by_cases h : pk_C (K (i + 1)) = 37
      · rw [if_pos h, if_pos h, nI_pred, rk_base hn hC (by omega), nI_1, ih f (c + 1) (by omega) (by omega)]
        congr 1
        omega
      · rw [if_neg h, if_neg h]
        rfl
    · rw [if_neg hL, pk_bn hL]
      exact ih f c (by omega) (by omega)
theorem rk_flags {q : Nat} (hn : n ≤ 2000) (hC : ∀ i, i < n → mm_mClassOf (nI i) rn fs lt kk il tt = K i) (hq : q < n) : mm_mFlags (nI (pk_b K q)) rn fs lt kk il tt = nI (pk_F K q) := by
  have h := rk_flags4 (x1 := nI (pk_b K q)) hn hC q 2100 0 (by omega) hq
  rw [Nat.zero_add] at h
  exact h
theorem rk_b5 : ∀ i, K (pk_b K i) = 5 → K i = 5 := by
  intro i
  induction i with
  | zero => intro h; exact h
  | succ i ih =>
    intro h
    by_cases hL : pk_L K (i + 1) = 0
    · rw [pk_bp hL] at h; exact h
    · rw [pk_bn hL] at h
      exact absurd (by rw [pk_Ls]; exact pk_L2_5 (ih h)) hL
theorem rk_z5 {j : Nat} (hK : ∀ i, i < n → kc (K i)) (hj : j < n) (h4 : ¬ K j = 4) : K j = 5 ↔ pk_s K (j + 1) = 5 := by
  rw [pk_s, if_neg h4, pk_C5 (hK _ (by have := pk_ble K j; omega))]
  refine ⟨fun h => ?_, rk_b5 j⟩
  cases j with
  | zero => exact h
  | succ i =>
    have hL : pk_L K (i + 1) = 0 := by rw [pk_Ls]; exact pk_L2_x5 h
    rw [pk_bp hL]
    exact h
theorem rk_early {p : Nat} {sz hd x2 x3 : Int32} (hn : n ≤ 2000) (hC : ∀ i, i < n → mm_mClassOf (nI i) rn fs lt kk il tt = K i) (hK : ∀ i, i < n → kc (K i)) (hp : p < n) : ∀ (j f : Nat), j < f → j < n → mm_mEarly_131 (nI p) rn fs lt kk il sz tt f x2 x3 (nI j) hd = if pk_s K (j + 1) = 5 then (80, 1) else (if x2 = 7 then (81, 0) else (if pk_L K p = 0 then (0, hd) else (90, 0))) := by
  have e152 : ∀ j, j < n → ¬ K j = 4 → mm_mEarly_152 (nI p) rn fs lt kk il sz tt x2 x3 (nI j) hd = if pk_s K (j + 1) = 5 then (80, 1) else (if x2 = 7 then (81, 0) else (if pk_L K p = 0 then (0, hd) else (90, 0))) := by
    intro j hj h4
    unfold mm_mEarly_152
    rw [hC j hj, rk_left hn hC hp]
    by_cases h5 : K j = 5
    · rw [if_pos h5, if_pos ((rk_z5 hK hj h4).mp h5)]
    · rw [if_neg h5, if_neg (mt (rk_z5 hK hj h4).mpr h5)]
  intro j
  induction j with
  | zero =>
    intro f hf hj
    obtain ⟨f, rfl⟩ : ∃ g, f = g + 1 := ⟨f - 1, by omega⟩
    rw [mm_mEarly_131, if_pos (show nI 0 ≤ 0 by decide)]
    by_cases h4 : K 0 = 4
    · unfold mm_mEarly_152
      rw [hC 0 hj, rk_left hn hC hp, if_neg (show ¬ K 0 = 5 by rw [h4]; decide), pk_sp h4]
      exact (if_neg (show ¬ (-1 : Int32) = 5 by decide)).symm
    · exact e152 0 hj h4
  | succ j ih =>
    intro f hf hj
    obtain ⟨f, rfl⟩ : ∃ g, f = g + 1 := ⟨f - 1, by omega⟩
    rw [mm_mEarly_131, if_neg (nI_nle (by omega) (by omega)), hC (j + 1) hj]
    by_cases h4 : K (j + 1) = 4
    · rw [if_pos h4, pn_m1, ih f (by omega) (by omega), pk_sp h4]
    · rw [if_neg h4]
      exact e152 (j + 1) hj h4
theorem rk_E {q : Nat} {hd : Int32} (hn : n ≤ 2000) (hC : ∀ i, i < n → mm_mClassOf (nI i) rn fs lt kk il tt = K i) (hK : ∀ i, i < n → kc (K i)) (hq : q + 1 < n) : mm_mEarly (nI (q + 1)) rn fs lt kk il (nI n) tt hd = pk_w (mm_ruleOfSpaces (K (q + 1)) (K q) (pk_s K (q + 1))) hd (K q) (K (q + 1)) := by
  rw [← pl_Es (hK q (by omega)) (hK (q + 1) hq)]
  unfold mm_mEarly mm_mEarly_72
  rw [if_neg (nI_ne0 (by omega) (by omega)), if_neg (mt (nI_eq (by omega) (by omega)).mp (by omega)), nI_pred, hC q (by omega), hC (q + 1) hq, rk_early hn hC hK hq q 2001 (by omega) (by omega), pk_Ls]
  generalize K q = a
  generalize K (q + 1) = b
  generalize pk_s K (q + 1) = s
  generalize pk_L2 b a = z
  unfold pl_E
  simp only [pk_wi, pk_w40, pk_w50, pk_w60, pk_w70, pk_w80, pk_w81, pk_w90, pk_w0]
  by_cases h1 : a = 1
  · subst h1
    by_cases h2 : b = 2
    · subst h2; rfl
    · simp only [if_neg h2]; rfl
  · simp only [if_neg h1]
end
