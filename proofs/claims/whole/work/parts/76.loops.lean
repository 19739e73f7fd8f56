-- the loops of next, count and fit, on both sides
def pl_i (K : Nat → Int32) (p : Nat) : Nat → Nat
  | 0 => p
  | d + 1 => if mm_mIsBlank (K (p + d)) = 0 then p + d + 1 else pl_i K p d
theorem pl_is (K : Nat → Int32) (p d : Nat) : pl_i K p (d + 1) = if mm_mIsBlank (K (p + d)) = 0 then p + d + 1 else pl_i K p d := rfl
theorem pl_ile (K : Nat → Int32) (p : Nat) : ∀ d, p ≤ pl_i K p d ∧ pl_i K p d ≤ p + d := by
  intro d
  induction d with
  | zero => exact ⟨Nat.le_refl _, Nat.le_refl _⟩
  | succ d ih =>
    rw [pl_is]
    split
    · exact ⟨by omega, by omega⟩
    · exact ⟨by omega, by omega⟩
theorem pl_imono (K : Nat → Int32) (p d : Nat) : pl_i K p d ≤ pl_i K p (d + 1) := by
  have h := pl_ile K p d
  rw [pl_is]
  split
  · omega
  · exact Nat.le_refl _
theorem pl_blank {x : Int32} (h : kc x) : mm_isIn x 31 = mm_mIsBlank x := kc1 (P := fun x => mm_isIn x 31 = mm_mIsBlank x) (by decide +kernel) h
section
variable {n : Nat} {tx cs rl fa1 la1 va1 : Nat → Int32} {mn1 : Int32} {fa2 la2 va2 : Nat → Int32} {mn2 : Int32} {fa3 la3 va3 : Nat → Int32} {mn3 b1 b2 b3 b4 b5 b6 ln lo kn rn : Int32} {fs lt kk mk mf ml ma : Nat → Int32} {il sz : Int32} {tt : Nat → Int32} {x1 fl : Int32}
set_option maxHeartbeats 1000000 in
theorem pl_next (hG : pe_G n tx cs fa2 la2 va2 mn2 fa3 la3 va3 mn3 lo rn fs lt kk mk mf ml ma il tt) : ∀ (f q : Nat) (rl : Nat → Int32) (b1 b2 b3 b4 b5 b6 kn hd : Int32), n + 1 - q < f → q ≤ 2001 → pe_J n tx cs fa2 la2 va2 mn2 fa3 la3 va3 mn3 lo rl b1 b2 b3 b4 b5 b6 kn →
    ∃ (v : Int32) (rl' : Nat → Int32) (b1' b2' b3' b4' b5' b6' kn' hd' : Int32), mm_next_22 x1 tx cs fa2 la2 va2 mn2 fa3 la3 va3 mn3 (nI n) lo f (nI q) rl b1 b2 b3 b4 b5 b6 kn = (0, v, rl', b1', b2', b3', b4', b5', b6', kn') ∧ mm_mNext_26 x1 rn fs lt kk mk mf ml ma il (nI n) tt f (nI q) fl hd = (v, fl, hd') ∧ pe_J n tx cs fa2 la2 va2 mn2 fa3 la3 va3 mn3 lo rl' b1' b2' b3' b4' b5' b6' kn' := by
  have hn := hG.1
  intro f
  induction f with
  | zero => intro q rl b1 b2 b3 b4 b5 b6 kn hd h; omega
  | succ f ih =>
    intro q rl b1 b2 b3 b4 b5 b6 kn hd hf hq hJ
    by_cases h : n < q
    · refine ⟨-1, rl, b1, b2, b3, b4, b5, b6, kn, hd, ?_, ?_, hJ⟩
      · rw [mm_next_22, if_pos (nI_lt h (by omega))]
      · rw [mm_mNext_26, if_pos (nI_lt h (by omega))]
    · obtain ⟨rl2, c1, c2, c3, c4, c5, c6, kn2, e, hJ2⟩ := pl_breaks hn (show q ≤ n by omega) hJ
      have e2 := pl_lk (hd := hd) hG (show q ≤ n by omega)
      by_cases hb : pl_b n tx cs fa2 la2 va2 mn2 fa3 la3 va3 mn3 lo q = 0
      · obtain ⟨v, rl3, u1, u2, u3, u4, u5, u6, kn3, hd3, e3, e4, hJ3⟩ := ih (q + 1) rl2 c1 c2 c3 c4 c5 c6 kn2 (pl_b n tx cs fa2 la2 va2 mn2 fa3 la3 va3 mn3 lo q) (by omega) (by omega) hJ2
        refine ⟨v, rl3, u1, u2, u3, u4, u5, u6, kn3, hd3, ?_, ?_, hJ3⟩
        · rw [mm_next_22, if_neg (nI_nlt (by omega) (by omega)), e]
          dsimp only
          rw [if_pos hb, nI_1]
          exact e3
        · rw [mm_mNext_26, if_neg (nI_nlt (by omega) (by omega)), e2]
          dsimp only
          rw [if_pos hb, nI_1]
          exact e4
      · refine ⟨nI q, rl2, c1, c2, c3, c4, c5, c6, kn2, pl_b n tx cs fa2 la2 va2 mn2 fa3 la3 va3 mn3 lo q, ?_, ?_, hJ2⟩
        · rw [mm_next_22, if_neg (nI_nlt (by omega) (by omega)), e]
          dsimp only
          rw [if_neg hb]
        · rw [mm_mNext_26, if_neg (nI_nlt (by omega) (by omega)), e2]
          dsimp only
          rw [if_neg hb]
set_option maxHeartbeats 1000000 in
theorem pl_count (hG : pe_G n tx cs fa2 la2 va2 mn2 fa3 la3 va3 mn3 lo rn fs lt kk mk mf ml ma il tt) (h0 : ¬ x1 ≤ 0) (h00 : ¬ x1 = 0) : ∀ (f q : Nat) (rl : Nat → Int32) (b1 b2 b3 b4 b5 b6 kn x2 hd : Int32), n + 1 - q < f → q ≤ 2001 → pe_J n tx cs fa2 la2 va2 mn2 fa3 la3 va3 mn3 lo rl b1 b2 b3 b4 b5 b6 kn →
    ∃ (v : Int32) (rl' : Nat → Int32) (b1' b2' b3' b4' b5' b6' kn' hd' : Int32), mm_count_25 x1 tx cs fa2 la2 va2 mn2 fa3 la3 va3 mn3 (nI n) lo f x2 (nI q) rl b1 b2 b3 b4 b5 b6 kn = (v, rl', b1', b2', b3', b4', b5', b6', kn') ∧ mm_mCount_20 x1 rn fs lt kk mk mf ml ma il (nI n) tt f x2 (nI q) fl hd = (v, fl, hd') ∧ pe_J n tx cs fa2 la2 va2 mn2 fa3 la3 va3 mn3 lo rl' b1' b2' b3' b4' b5' b6' kn' := by
  have hn := hG.1
  intro f
  induction f with
  | zero => intro q rl b1 b2 b3 b4 b5 b6 kn x2 hd h; omega
  | succ f ih =>
    intro q rl b1 b2 b3 b4 b5 b6 kn x2 hd hf hq hJ
    by_cases h : n < q
    · refine ⟨x2, rl, b1, b2, b3, b4, b5, b6, kn, hd, ?_, ?_, hJ⟩
      · rw [mm_count_25, if_pos (nI_lt h (by omega))]
      · rw [mm_mCount_20, if_pos (nI_lt h (by omega))]
        unfold mm_mCount_60
        rw [if_neg h00]
    · obtain ⟨rl2, c1, c2, c3, c4, c5, c6, kn2, e, hJ2⟩ := pl_breaks hn (show q ≤ n by omega) hJ
      have e2 := pl_lk (hd := hd) hG (show q ≤ n by omega)
      by_cases hb : pl_b n tx cs fa2 la2 va2 mn2 fa3 la3 va3 mn3 lo q = x1
      · obtain ⟨v, rl3, u1, u2, u3, u4, u5, u6, kn3, hd3, e3, e4, hJ3⟩ := ih (q + 1) rl2 c1 c2 c3 c4 c5 c6 kn2 (x2 + 1) (pl_b n tx cs fa2 la2 va2 mn2 fa3 la3 va3 mn3 lo q) (by omega) (by omega) hJ2
        refine ⟨v, rl3, u1, u2, u3, u4, u5, u6, kn3, hd3, ?_, ?_, hJ3⟩
        · rw [mm_count_25, if_neg (nI_nlt (by omega) (by omega)), e]
          dsimp only
          rw [if_pos hb, nI_1]
          exact e3
        · rw [mm_mCount_20, if_neg (nI_nlt (by omega) (by omega)), if_neg h0, e2]
          dsimp only
          rw [if_pos hb, nI_1]
          exact e4
      · obtain ⟨v, rl3, u1, u2, u3, u4, u5, u6, kn3, hd3, e3, e4, hJ3⟩ := ih (q + 1) rl2 c1 c2 c3 c4 c5 c6 kn2 x2 (pl_b n tx cs fa2 la2 va2 mn2 fa3 la3 va3 mn3 lo q) (by omega) (by omega) hJ2
        refine ⟨v, rl3, u1, u2, u3, u4, u5, u6, kn3, hd3, ?_, ?_, hJ3⟩
        · rw [mm_count_25, if_neg (nI_nlt (by omega) (by omega)), e]
          dsimp only
          rw [if_neg hb, nI_1]
          exact e3
        · rw [mm_mCount_20, if_neg (nI_nlt (by omega) (by omega)), if_neg h0, e2]
          dsimp only
          rw [if_neg hb, nI_1]
          exact e4
theorem pl_81 {K : Nat → Int32} {p : Nat} (hn : n ≤ 2000) (hC : ∀ i, i < n → mm_mClassOf (nI i) rn fs lt kk il tt = K i) : ∀ (d f : Nat), d < f → p + d ≤ n → mm_mFit_81 (nI p) rn fs lt kk il tt f (nI (p + d)) = nI (pl_i K p d) := by
  intro d
  induction d with
  | zero =>
    intro f hf hd
    obtain ⟨f, rfl⟩ : ∃ g, f = g + 1 := ⟨f - 1, by omega⟩
    rw [mm_mFit_81, if_pos (nI_le (by omega) (by omega))]
    rfl
  | succ d ih =>
    intro f hf hd
    obtain ⟨f, rfl⟩ : ∃ g, f = g + 1 := ⟨f - 1, by omega⟩
    show mm_mFit_81 (nI p) rn fs lt kk il tt (f + 1) (nI (p + d + 1)) = _
    rw [mm_mFit_81, if_neg (nI_ge (by omega) (by omega)), nI_pred, hC (p + d) (by omega), pn_m1, pl_is]
    by_cases hb : mm_mIsBlank (K (p + d)) = 0
    · rw [if_pos hb, if_pos hb]
    · rw [if_neg hb, if_neg hb]
      exact ih f (by omega) (by omega)
theorem pl_142 {p w : Nat} {best x4 hd : Int32} : mm_mFit_142 (nI p) (nI w) rn fs lt kk mk mf ml ma il sz tt best x4 fl hd = (if 0 ≤ best then best - nI p else nI w, fl, hd) := (pl_pi _ _ _).symm
set_option maxHeartbeats 1000000 in
theorem pl_tail {p w : Nat} (hG : pe_G n tx cs fa2 la2 va2 mn2 fa3 la3 va3 mn3 lo rn fs lt kk mk mf ml ma il tt) (hw : w ≤ 2000) : ∀ (f d : Nat) (best hd : Int32), n + 1 - (p + d + 1) < f → p + d + 1 ≤ 2001 → w < pl_i (pe_kd cs lo) p (d + 1) - p →
    ∃ hd' : Int32, mm_mFit_60 (nI p) (nI w) rn fs lt kk mk mf ml ma il (nI n) tt f best (nI (p + d + 1)) fl hd = (if 0 ≤ best then best - nI p else nI w, fl, hd') := by
  have hn := hG.1
  intro f
  induction f with
  | zero => intro d best hd h; omega
  | succ f ih =>
    intro d best hd hf hq hbig
    by_cases h : n < p + d + 1
    · exact ⟨hd, by rw [mm_mFit_60, if_pos (nI_lt h (by omega)), pl_142]⟩
    · by_cases h2 : hd = 2
      · exact ⟨hd, by rw [mm_mFit_60, if_neg (nI_nlt (by omega) (by omega)), if_pos h2, pl_142]⟩
      · have hmono := pl_imono (pe_kd cs lo) p (d + 1)
        have hi := pl_ile (pe_kd cs lo) p (d + 1)
        obtain ⟨hd', e⟩ := ih (d + 1) best (pl_b n tx cs fa2 la2 va2 mn2 fa3 la3 va3 mn3 lo (p + d + 1)) (by omega) (by omega) (by omega)
        have e2 := pl_lk (hd := hd) hG (show p + d + 1 ≤ n by omega)
        have e81 : mm_mFit_81 (nI p) rn fs lt kk il tt 2001 (nI (p + d + 1)) = nI (pl_i (pe_kd cs lo) p (d + 1)) := pl_81 hn hG.2.2.1 (d + 1) 2001 (by omega) (by omega)
        refine ⟨hd', ?_⟩
        rw [mm_mFit_60, if_neg (nI_nlt (by omega) (by omega)), if_neg h2, e2]
        dsimp only
        by_cases hb : pl_b n tx cs fa2 la2 va2 mn2 fa3 la3 va3 mn3 lo (p + d + 1) = 0
        · rw [if_pos hb, nI_1]
          exact e
        · rw [if_neg hb, e81, pn_sub hi.1 (by omega), if_pos (nI_lt hbig (by omega)), nI_1]
          exact e
set_option maxHeartbeats 1000000 in
theorem pl_62 {p w f d : Nat} {x3 r : Int32} {rl2 : Nat → Int32} {c1 c2 c3 c4 c5 c6 kn2 : Int32} (hn : n ≤ 2000) (hk : kc (pe_kd cs lo (p + d))) (h : p + d + 1 ≤ n) (e : mm_breaksAt (nI (p + d + 1)) tx cs rl fa2 la2 va2 mn2 fa3 la3 va3 mn3 b1 b2 b3 b4 b5 b6 (nI n) lo kn = (r, rl2, c1, c2, c3, c4, c5, c6, kn2)) :
    mm_fit_62 (nI p) (nI w) tx cs fa2 la2 va2 mn2 fa3 la3 va3 mn3 (nI n) lo (f + 1) x3 (nI (pl_i (pe_kd cs lo) p d)) (nI (p + d + 1)) rl b1 b2 b3 b4 b5 b6 kn =
      if nI (pl_i (pe_kd cs lo) p (d + 1)) - nI p ≤ nI w then (if r = 2 then (0, (if r = 0 then x3 else nI (p + d + 1) - nI p), rl2, c1, c2, c3, c4, c5, c6, kn2) else mm_fit_62 (nI p) (nI w) tx cs fa2 la2 va2 mn2 fa3 la3 va3 mn3 (nI n) lo f (if r = 0 then x3 else nI (p + d + 1) - nI p) (nI (pl_i (pe_kd cs lo) p (d + 1))) (nI (p + d + 1) + 1) rl2 c1 c2 c3 c4 c5 c6 kn2) else (0, x3, rl, b1, b2, b3, b4, b5, b6, kn) := by
  have hbl : mm_isIn (mm_kindAt (nI (p + d + 1) - 1) cs lo) 31 = mm_mIsBlank (pe_kd cs lo (p + d)) := by
    rw [nI_pred]
    exact pl_blank hk
  rw [mm_fit_62, if_neg (nI_nlt (by omega) (by omega)), hbl, e, pl_is]
  dsimp only
  by_cases c : mm_mIsBlank (pe_kd cs lo (p + d)) = 0
  · simp only [if_pos c]
    by_cases h0 : r = 0
    · simp only [if_pos h0]
    · simp only [if_neg h0]
  · simp only [if_neg c]
    by_cases h0 : r = 0
    · simp only [if_pos h0]
    · simp only [if_neg h0]
set_option maxHeartbeats 1000000 in
theorem pl_fit {p w : Nat} (hG : pe_G n tx cs fa2 la2 va2 mn2 fa3 la3 va3 mn3 lo rn fs lt kk mk mf ml ma il tt) (hw : w ≤ 2000) : ∀ (f d : Nat) (rl : Nat → Int32) (b1 b2 b3 b4 b5 b6 kn x3 best hd : Int32), n + 1 - (p + d + 1) < f → p + d ≤ n → ¬ hd = 2 → x3 = (if 0 ≤ best then best - nI p else nI w) → pe_J n tx cs fa2 la2 va2 mn2 fa3 la3 va3 mn3 lo rl b1 b2 b3 b4 b5 b6 kn →
    ∃ (v : Int32) (rl' : Nat → Int32) (b1' b2' b3' b4' b5' b6' kn' hd' : Int32), mm_fit_62 (nI p) (nI w) tx cs fa2 la2 va2 mn2 fa3 la3 va3 mn3 (nI n) lo f x3 (nI (pl_i (pe_kd cs lo) p d)) (nI (p + d + 1)) rl b1 b2 b3 b4 b5 b6 kn = (0, v, rl', b1', b2', b3', b4', b5', b6', kn') ∧ mm_mFit_60 (nI p) (nI w) rn fs lt kk mk mf ml ma il (nI n) tt f best (nI (p + d + 1)) fl hd = (v, fl, hd') ∧ pe_J n tx cs fa2 la2 va2 mn2 fa3 la3 va3 mn3 lo rl' b1' b2' b3' b4' b5' b6' kn' := by
  have hn := hG.1
  intro f
  induction f with
  | zero => intro d rl b1 b2 b3 b4 b5 b6 kn x3 best hd h; omega
  | succ f ih =>
    intro d rl b1 b2 b3 b4 b5 b6 kn x3 best hd hf hd0 hd2 hx hJ
    by_cases h : n < p + d + 1
    · refine ⟨x3, rl, b1, b2, b3, b4, b5, b6, kn, hd, ?_, ?_, hJ⟩
      · rw [mm_fit_62, if_pos (nI_lt h (by omega))]
      · rw [mm_mFit_60, if_pos (nI_lt h (by omega)), pl_142, hx]
    · obtain ⟨rl2, c1, c2, c3, c4, c5, c6, kn2, e, hJ2⟩ := pl_breaks hn (show p + d + 1 ≤ n by omega) hJ
      have e2 := pl_lk (hd := hd) hG (show p + d + 1 ≤ n by omega)
      have e81 : mm_mFit_81 (nI p) rn fs lt kk il tt 2001 (nI (p + d + 1)) = nI (pl_i (pe_kd cs lo) p (d + 1)) := pl_81 hn hG.2.2.1 (d + 1) 2001 (by omega) (by omega)
      have hi := pl_ile (pe_kd cs lo) p (d + 1)
      have e62 := pl_62 (w := w) (f := f) (x3 := x3) hn (hG.2.1 (p + d) (by omega)) (show p + d + 1 ≤ n by omega) e
      rw [pn_sub hi.1 (by omega)] at e62
      by_cases hbig : w < pl_i (pe_kd cs lo) p (d + 1) - p
      · obtain ⟨hd', et⟩ := pl_tail (fl := fl) hG hw (f + 1) d best hd hf (by omega) hbig
        refine ⟨x3, rl, b1, b2, b3, b4, b5, b6, kn, hd', ?_, ?_, hJ⟩
        · rw [e62, if_neg (nI_ge hbig (by omega))]
        · rw [et, hx]
      · rw [if_pos (nI_le (by omega) (by omega))] at e62
        have em : mm_mFit_60 (nI p) (nI w) rn fs lt kk mk mf ml ma il (nI n) tt (f + 1) best (nI (p + d + 1)) fl hd = if pl_b n tx cs fa2 la2 va2 mn2 fa3 la3 va3 mn3 lo (p + d + 1) = 0 then mm_mFit_60 (nI p) (nI w) rn fs lt kk mk mf ml ma il (nI n) tt f best (nI (p + d + 1 + 1)) fl (pl_b n tx cs fa2 la2 va2 mn2 fa3 la3 va3 mn3 lo (p + d + 1)) else mm_mFit_60 (nI p) (nI w) rn fs lt kk mk mf ml ma il (nI n) tt f (nI (p + d + 1)) (nI (p + d + 1 + 1)) fl (pl_b n tx cs fa2 la2 va2 mn2 fa3 la3 va3 mn3 lo (p + d + 1)) := by
          rw [mm_mFit_60, if_neg (nI_nlt (by omega) (by omega)), if_neg hd2, e2]
          dsimp only
          rw [e81, pn_sub hi.1 (by omega), if_neg (nI_nlt (by omega) (by omega)), nI_1]
        by_cases hb0 : pl_b n tx cs fa2 la2 va2 mn2 fa3 la3 va3 mn3 lo (p + d + 1) = 0
        · have hb2 : ¬ pl_b n tx cs fa2 la2 va2 mn2 fa3 la3 va3 mn3 lo (p + d + 1) = 2 := by rw [hb0]; decide
          obtain ⟨v, rl3, u1, u2, u3, u4, u5, u6, kn3, hd3, e3, e4, hJ3⟩ := ih (d + 1) rl2 c1 c2 c3 c4 c5 c6 kn2 x3 best (pl_b n tx cs fa2 la2 va2 mn2 fa3 la3 va3 mn3 lo (p + d + 1)) (by omega) (by omega) hb2 hx hJ2
          refine ⟨v, rl3, u1, u2, u3, u4, u5, u6, kn3, hd3, ?_, ?_, hJ3⟩
          · rw [e62, if_neg hb2, if_pos hb0, nI_1]
            exact e3
          · rw [em, if_pos hb0]
            exact e4
        · by_cases hb2 : pl_b n tx cs fa2 la2 va2 mn2 fa3 la3 va3 mn3 lo (p + d + 1) = 2
          · refine ⟨nI (p + d + 1) - nI p, rl2, c1, c2, c3, c4, c5, c6, kn2, pl_b n tx cs fa2 la2 va2 mn2 fa3 la3 va3 mn3 lo (p + d + 1), ?_, ?_, hJ2⟩
            · rw [e62, if_pos hb2, if_neg hb0]
            · rw [em, if_neg hb0]
              obtain ⟨g, rfl⟩ : ∃ g, f = g + 1 := ⟨f - 1, by omega⟩
              by_cases h3 : n < p + d + 1 + 1
              · rw [mm_mFit_60, if_pos (nI_lt h3 (by omega)), pl_142, if_pos (nI_pos' (by omega))]
              · rw [mm_mFit_60, if_neg (nI_nlt (by omega) (by omega)), if_pos hb2, pl_142, if_pos (nI_pos' (by omega))]
          · obtain ⟨v, rl3, u1, u2, u3, u4, u5, u6, kn3, hd3, e3, e4, hJ3⟩ := ih (d + 1) rl2 c1 c2 c3 c4 c5 c6 kn2 (nI (p + d + 1) - nI p) (nI (p + d + 1)) (pl_b n tx cs fa2 la2 va2 mn2 fa3 la3 va3 mn3 lo (p + d + 1)) (by omega) (by omega) hb2 (if_pos (nI_pos' (by omega))).symm hJ2
            refine ⟨v, rl3, u1, u2, u3, u4, u5, u6, kn3, hd3, ?_, ?_, hJ3⟩
            · rw [e62, if_neg hb2, if_neg hb0, nI_1]
              exact e3
            · rw [em, if_neg hb0]
              exact e4
end
