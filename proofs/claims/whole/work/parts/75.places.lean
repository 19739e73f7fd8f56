-- the rule and the break of a place, on both sides
theorem pn_sub {a b : Nat} (h : b ≤ a) (ha : a < 2 ^ 31) : nI a - nI b = nI (a - b) := by
  obtain ⟨z, hz, he⟩ := gk_sub (gk_vn (n := a) (by omega)) (gk_vn (n := b) (by omega)) (by omega) (by omega)
  have h2 := gk_vn (n := a - b) (by omega)
  refine gk_inj hz ?_
  rw [show z = ((a - b : Nat) : Int) by omega]
  exact h2
theorem pn_gt0 {p : Nat} (h : 0 < p) (hp : p < 2 ^ 31) : 0 < nI p := by
  have h1 := nI_lt (a := 0) (b := p) h hp
  rw [nI_0] at h1
  exact h1
theorem pl_place {n : Nat} {x : Int32} (h : ¬ mm_isPlace x (nI n) = 0) : ∃ p, p ≤ n ∧ x = nI p := by
  unfold mm_isPlace at h
  by_cases h0 : x < 0
  · rw [if_pos h0] at h; exact absurd rfl h
  · rw [if_neg h0] at h
    by_cases h1 : nI n < x
    · rw [if_pos h1] at h; exact absurd rfl h
    · obtain ⟨j, hj, rfl⟩ := nI_of h0
      exact ⟨j, Nat.le_of_not_lt (fun h2 => h1 (nI_lt h2 hj)), rfl⟩
theorem pl_pos {n : Nat} {x : Int32} (h : ¬ mm_isPosition x (nI n) = 0) : ∃ p, p < n ∧ x = nI p := by
  unfold mm_isPosition at h
  by_cases h0 : x < 0
  · rw [if_pos h0] at h; exact absurd rfl h
  · rw [if_neg h0] at h
    by_cases h1 : nI n ≤ x
    · rw [if_pos h1] at h; exact absurd rfl h
    · obtain ⟨j, hj, rfl⟩ := nI_of h0
      exact ⟨j, Nat.lt_of_not_le (fun h2 => h1 (nI_le h2 hj)), rfl⟩
theorem pl_out {ot : Nat → Int64} {r : Int32} : lg_cmp (vp_updL ot (0 : Int32).toNatClampNeg r.toInt64 (0 : Int32).toNatClampNeg) r.toInt64 = 0 := (lg_cmp_eq _ _).mpr (if_pos rfl)
theorem pl_pi {α : Type} {c : Prop} [Decidable c] (x y : Int32) (w : α) : (if c then x else y, w) = if c then (x, w) else (y, w) := by split <;> rfl
def pl_r (n : Nat) (tx cs fa2 la2 va2 : Nat → Int32) (mn2 : Int32) (fa3 la3 va3 : Nat → Int32) (mn3 lo : Int32) (p : Nat) : Int32 := if p = 0 then 20 else (if p = n then 30 else pe_R tx cs fa2 la2 va2 mn2 fa3 la3 va3 mn3 lo p)
def pl_b (n : Nat) (tx cs fa2 la2 va2 : Nat → Int32) (mn2 : Int32) (fa3 la3 va3 : Nat → Int32) (mn3 lo : Int32) (p : Nat) : Int32 := if p = 0 then 0 else (if p = n then 2 else pk_h (pe_R tx cs fa2 la2 va2 mn2 fa3 la3 va3 mn3 lo p) (pe_kd cs lo (p - 1)) (pe_kd cs lo p))
section
variable {n : Nat} {tx cs rl fa1 la1 va1 : Nat → Int32} {mn1 : Int32} {fa2 la2 va2 : Nat → Int32} {mn2 : Int32} {fa3 la3 va3 : Nat → Int32} {mn3 b1 b2 b3 b4 b5 b6 ln lo kn rn : Int32} {fs lt kk mk mf ml ma : Nat → Int32} {il sz : Int32} {tt : Nat → Int32}
theorem pl_look0 {hd : Int32} : mm_mLook (nI 0) rn fs lt kk mk mf ml ma il sz tt hd = (20, 0) := by
  have e : mm_mEarly (nI 0) rn fs lt kk il sz tt hd = (20, 0) := by
    unfold mm_mEarly
    rw [if_pos nI_0]
  unfold mm_mLook
  rw [e]
  dsimp only
  rw [if_neg (by decide)]
theorem pl_lookn {hd : Int32} (h0 : 0 < n) (hn : n ≤ 2000) : mm_mLook (nI n) rn fs lt kk mk mf ml ma il (nI n) tt hd = (30, 2) := by
  have e : mm_mEarly (nI n) rn fs lt kk il (nI n) tt hd = (30, 2) := by
    unfold mm_mEarly
    rw [if_neg (nI_ne0 h0 (by omega)), if_pos rfl]
  unfold mm_mLook
  rw [e]
  dsimp only
  rw [if_neg (by decide)]
theorem pl_lk {p : Nat} {hd : Int32} (hG : pe_G n tx cs fa2 la2 va2 mn2 fa3 la3 va3 mn3 lo rn fs lt kk mk mf ml ma il tt) (hp : p ≤ n) : mm_mLook (nI p) rn fs lt kk mk mf ml ma il (nI n) tt hd = (pl_r n tx cs fa2 la2 va2 mn2 fa3 la3 va3 mn3 lo p, pl_b n tx cs fa2 la2 va2 mn2 fa3 la3 va3 mn3 lo p) := by
  have hn := hG.1
  unfold pl_r pl_b
  by_cases h0 : p = 0
  · rw [if_pos h0, if_pos h0, h0]
    exact pl_look0
  · rw [if_neg h0, if_neg h0]
    by_cases h1 : p = n
    · rw [if_pos h1, if_pos h1, h1]
      exact pl_lookn (by omega) hn
    · rw [if_neg h1, if_neg h1]
      obtain ⟨q, rfl⟩ : ∃ q, p = q + 1 := ⟨p - 1, by omega⟩
      exact pl_look hG (by omega)
theorem pl_23 {p : Nat} (hn : n ≤ 2000) (hp : p < n) : ∀ (f k : Nat) (rl : Nat → Int32) (b1 b2 b3 b4 b5 b6 : Int32), p + 1 - k < f → k ≤ n → (b1, b2, b3, b4, b5, b6) = pe_B tx cs lo k → (∀ q, q < k → rl q = pe_R tx cs fa2 la2 va2 mn2 fa3 la3 va3 mn3 lo q) →
    ∃ (rl' : Nat → Int32) (b1' b2' b3' b4' b5' b6' kn' : Int32), mm_ruleAt_23 (nI p) tx cs fa2 la2 va2 mn2 fa3 la3 va3 mn3 ln lo f (nI k) rl b1 b2 b3 b4 b5 b6 (nI k) = (pe_R tx cs fa2 la2 va2 mn2 fa3 la3 va3 mn3 lo p, rl', b1', b2', b3', b4', b5', b6', kn') ∧ pe_J n tx cs fa2 la2 va2 mn2 fa3 la3 va3 mn3 lo rl' b1' b2' b3' b4' b5' b6' kn' := by
  intro f
  induction f with
  | zero => intro k rl b1 b2 b3 b4 b5 b6 h; omega
  | succ f ih =>
    intro k rl b1 b2 b3 b4 b5 b6 hf hk hb hr
    by_cases h : p < k
    · refine ⟨rl, b1, b2, b3, b4, b5, b6, nI k, ?_, k, rfl, hk, hb, hr⟩
      rw [mm_ruleAt_23, if_pos (nI_lt h (by omega)), nI_clamp (by omega), hr p h]
    · obtain ⟨u1, u2, u3, u4, u5, u6, hu⟩ : ∃ u1 u2 u3 u4 u5 u6 : Int32, pe_B tx cs lo (k + 1) = (u1, u2, u3, u4, u5, u6) := ⟨_, _, _, _, _, _, rfl⟩
      have e1 : pe_B tx cs lo (k + 1) = mm_bPass (mm_kindAt (nI k) cs lo) (tx k) b1 b2 b3 b4 b5 b6 := by
        show (match pe_B tx cs lo k with | (v1, v2, v3, v4, v5, v6) => mm_bPass (pe_kd cs lo k) (tx k) v1 v2 v3 v4 v5 v6) = _
        rw [← hb]
        rfl
      have e2 : pe_R tx cs fa2 la2 va2 mn2 fa3 la3 va3 mn3 lo k = mm_findRule (mm_kindAt (nI k) cs lo) (tx k) fa2 la2 va2 mn2 fa3 la3 va3 mn3 b1 b2 b3 b4 b5 b6 := by
        unfold pe_R
        rw [← hb]
        rfl
      rw [mm_ruleAt_23, if_neg (nI_nlt (by omega) (by omega)), nI_clamp (by omega), ← e2, ← e1, hu]
      dsimp only
      rw [nI_1]
      refine ih (k + 1) _ u1 u2 u3 u4 u5 u6 (by omega) (by omega) hu.symm ?_
      intro q hq
      by_cases hqk : q = k
      · subst hqk
        exact pk_us
      · exact (pk_un hqk).trans (hr q (by omega))
theorem pl_rule {p : Nat} (hn : n ≤ 2000) (hp : p ≤ n) (hJ : pe_J n tx cs fa2 la2 va2 mn2 fa3 la3 va3 mn3 lo rl b1 b2 b3 b4 b5 b6 kn) :
    ∃ (rl' : Nat → Int32) (b1' b2' b3' b4' b5' b6' kn' : Int32), mm_ruleAt (nI p) tx cs rl fa2 la2 va2 mn2 fa3 la3 va3 mn3 b1 b2 b3 b4 b5 b6 (nI n) lo kn = (pl_r n tx cs fa2 la2 va2 mn2 fa3 la3 va3 mn3 lo p, rl', b1', b2', b3', b4', b5', b6', kn') ∧ pe_J n tx cs fa2 la2 va2 mn2 fa3 la3 va3 mn3 lo rl' b1' b2' b3' b4' b5' b6' kn' := by
  by_cases h0 : p = 0
  · refine ⟨rl, b1, b2, b3, b4, b5, b6, kn, ?_, hJ⟩
    unfold pl_r mm_ruleAt
    rw [if_pos h0, h0, if_neg (by decide)]
  · by_cases h1 : p = n
    · refine ⟨rl, b1, b2, b3, b4, b5, b6, kn, ?_, hJ⟩
      unfold pl_r mm_ruleAt
      rw [if_neg h0, if_pos h1, h1, if_pos (pn_gt0 (by omega) (by omega)), if_neg (nI_nlt (Nat.le_refl _) (by omega))]
    · obtain ⟨k, rfl, hkn, hb, hr⟩ := hJ
      obtain ⟨rl', c1, c2, c3, c4, c5, c6, kn', e, hJ'⟩ := pl_23 (ln := nI n) (fa2 := fa2) (la2 := la2) (va2 := va2) (mn2 := mn2) (fa3 := fa3) (la3 := la3) (va3 := va3) (mn3 := mn3) hn (show p < n by omega) 2001 k rl b1 b2 b3 b4 b5 b6 (by omega) hkn hb hr
      refine ⟨rl', c1, c2, c3, c4, c5, c6, kn', ?_, hJ'⟩
      unfold pl_r mm_ruleAt
      rw [if_neg h0, if_neg h1, if_pos (pn_gt0 (by omega) (by omega)), if_pos (nI_lt (by omega) (by omega))]
      exact e
theorem pl_between {p : Nat} (hn : n ≤ 2000) (h0 : 0 < p) (hp : p < n) : mm_isBetween (nI p) cs (nI n) lo = if pe_kd cs lo (p - 1) = 1 then (if pe_kd cs lo p = 2 then 1 else 0) else 0 := by
  obtain ⟨q, rfl⟩ : ∃ q, p = q + 1 := ⟨p - 1, by omega⟩
  unfold mm_isBetween
  rw [if_neg (nI_nle (by omega) (by omega)), if_neg (nI_ge hp (by omega)), nI_pred]
  rfl
set_option maxHeartbeats 1000000 in
theorem pl_breaks {p : Nat} (hn : n ≤ 2000) (hp : p ≤ n) (hJ : pe_J n tx cs fa2 la2 va2 mn2 fa3 la3 va3 mn3 lo rl b1 b2 b3 b4 b5 b6 kn) :
    ∃ (rl' : Nat → Int32) (b1' b2' b3' b4' b5' b6' kn' : Int32), mm_breaksAt (nI p) tx cs rl fa2 la2 va2 mn2 fa3 la3 va3 mn3 b1 b2 b3 b4 b5 b6 (nI n) lo kn = (pl_b n tx cs fa2 la2 va2 mn2 fa3 la3 va3 mn3 lo p, rl', b1', b2', b3', b4', b5', b6', kn') ∧ pe_J n tx cs fa2 la2 va2 mn2 fa3 la3 va3 mn3 lo rl' b1' b2' b3' b4' b5' b6' kn' := by
  obtain ⟨rl', c1, c2, c3, c4, c5, c6, kn', e, hJ'⟩ := pl_rule hn hp hJ
  refine ⟨rl', c1, c2, c3, c4, c5, c6, kn', ?_, hJ'⟩
  unfold mm_breaksAt
  rw [e]
  dsimp only
  unfold pl_r pl_b
  by_cases h0 : p = 0
  · simp only [if_pos h0] <;> rfl
  · by_cases h1 : p = n
    · simp only [if_neg h0, if_pos h1] <;> rfl
    · simp only [if_neg h0, if_neg h1]
      rw [pl_between hn (by omega) (by omega)]
      generalize pe_R tx cs fa2 la2 va2 mn2 fa3 la3 va3 mn3 lo p = r
      generalize pe_kd cs lo (p - 1) = l
      generalize pe_kd cs lo p = k
      generalize (rl', c1, c2, c3, c4, c5, c6, kn') = w
      unfold pk_h
      simp only [pl_pi]
      by_cases hl : l = 1
      · subst hl
        by_cases hk : k = 2
        · subst hk
          rfl
        · simp only [if_neg hk] <;> rfl
      · simp only [if_neg hl] <;> rfl
end
