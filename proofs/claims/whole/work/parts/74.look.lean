-- ranges: of several that hold a character the last one counts
def pv (c d : Int32) (f l v : Nat → Int32) : Nat → Int32
  | 0 => d
  | r + 1 => if c < f r then pv c d f l v r else (if l r < c then pv c d f l v r else v r)
theorem pv_congr {c d : Int32} {f l v f' l' v' : Nat → Int32} : ∀ r, (∀ i, i < r → f i = f' i ∧ l i = l' i ∧ v i = v' i) → pv c d f l v r = pv c d f' l' v' r := by
  intro r
  induction r with
  | zero => intro _; rfl
  | succ r ih =>
    intro h
    obtain ⟨h1, h2, h3⟩ := h r (by omega)
    rw [pv, pv, h1, h2, h3, ih (fun i hi => h i (by omega))]
theorem pv_ind {c d : Int32} {f l v : Nat → Int32} {P : Int32 → Prop} (hd : P d) : ∀ r, (∀ i, i < r → P (v i)) → P (pv c d f l v r) := by
  intro r
  induction r with
  | zero => intro _; exact hd
  | succ r ih =>
    intro h
    rw [pv]
    split
    · exact ih (fun i hi => h i (by omega))
    · split
      · exact ih (fun i hi => h i (by omega))
      · exact h r (by omega)
theorem pn_ms (x : Int32) : x + (-1) = x - 1 := (Int32.sub_eq_add_neg x 1).symm
theorem pv_7 {c d mn : Int32} {f l v : Nat → Int32} : ∀ (r g : Nat), r < g → r ≤ 2000 → mm_rValueOf_7 c d f l v mn g (nI r - 1) = pv c d f l v r := by
  intro r
  induction r with
  | zero =>
    intro g hg _
    obtain ⟨g, rfl⟩ : ∃ x, g = x + 1 := ⟨g - 1, by omega⟩
    rw [pn_0s, mm_rValueOf_7, if_pos (by decide)]
    rfl
  | succ r ih =>
    intro g hg hr
    obtain ⟨g, rfl⟩ : ∃ x, g = x + 1 := ⟨g - 1, by omega⟩
    rw [nI_pred, mm_rValueOf_7, if_neg (nI_pos (by omega)), nI_clamp (by omega), pn_ms, ih g (by omega) (by omega), pv]
theorem pv_value {c d : Int32} {f l v : Nat → Int32} {r : Nat} (hr : r ≤ 100) : mm_rValueOf c d f l v (nI r) = pv c d f l v r := pv_7 r 101 (by omega) (by omega)
theorem pv_13 {x1 il c d : Int32} {fs lt kk tt : Nat → Int32} {r : Nat} (hr : r ≤ 100) : ∀ (e j g : Nat), j + e = r → e < g → mm_mClassOf_13 x1 (nI r) fs lt kk il tt g c (pv c d fs lt kk j) (nI j) = pk_W (pv c d fs lt kk r) il := by
  intro e
  induction e with
  | zero =>
    intro j g hj hg
    obtain ⟨g, rfl⟩ : ∃ x, g = x + 1 := ⟨g - 1, by omega⟩
    rw [Nat.add_zero] at hj
    subst hj
    rw [mm_mClassOf_13, if_pos (nI_le (Nat.le_refl _) (by omega))]
    rfl
  | succ e ih =>
    intro j g hj hg
    obtain ⟨g, rfl⟩ : ∃ x, g = x + 1 := ⟨g - 1, by omega⟩
    have h1 := ih (j + 1) g (by omega) (by omega)
    have e1 : pv c d fs lt kk (j + 1) = if c < fs j then pv c d fs lt kk j else (if lt j < c then pv c d fs lt kk j else kk j) := rfl
    rw [mm_mClassOf_13, if_neg (nI_ge (by omega) (by omega)), nI_clamp (by omega), nI_1]
    rw [e1] at h1
    by_cases c1 : c < fs j
    · rw [if_pos c1]; rw [if_pos c1] at h1; exact h1
    · rw [if_neg c1]; rw [if_neg c1] at h1
      by_cases c2 : lt j < c
      · rw [if_pos c2]; rw [if_pos c2] at h1; exact h1
      · rw [if_neg c2]; rw [if_neg c2] at h1; exact h1
theorem pv_class {il : Int32} {fs lt kk tt : Nat → Int32} {r i : Nat} (hr : r ≤ 100) (hi : i < 2000) : mm_mClassOf (nI i) (nI r) fs lt kk il tt = pk_W (pv (tt i) 40 fs lt kk r) il := by
  have h := pv_13 (x1 := nI i) (il := il) (c := tt i) (d := 40) (fs := fs) (lt := lt) (kk := kk) (tt := tt) hr r 0 101 (by omega) (by omega)
  unfold mm_mClassOf
  rw [nI_clamp (by omega)]
  exact h
theorem pv_16 {x1 x2 c : Int32} {mk mf ml ma tt : Nat → Int32} {o m : Nat} (hm : o + m ≤ 80) (hb : ((40 * x2) + (mk x2.toNatClampNeg)) = nI (o + m)) : ∀ (e j g : Nat), j + e = m → e < g → mm_mIsMarked_16 x1 x2 mk mf ml ma tt g c (pv c 0 (fun i => mf (o + i)) (fun i => ml (o + i)) (fun i => ma (o + i)) j) (nI (o + j)) = pv c 0 (fun i => mf (o + i)) (fun i => ml (o + i)) (fun i => ma (o + i)) m := by
  intro e
  induction e with
  | zero =>
    intro j g hj hg
    obtain ⟨g, rfl⟩ : ∃ x, g = x + 1 := ⟨g - 1, by omega⟩
    rw [Nat.add_zero] at hj
    subst hj
    rw [mm_mIsMarked_16, hb, if_pos (nI_le (Nat.le_refl _) (by omega))]
  | succ e ih =>
    intro j g hj hg
    obtain ⟨g, rfl⟩ : ∃ x, g = x + 1 := ⟨g - 1, by omega⟩
    have h1 := ih (j + 1) g (by omega) (by omega)
    have e1 : pv c 0 (fun i => mf (o + i)) (fun i => ml (o + i)) (fun i => ma (o + i)) (j + 1) = if c < mf (o + j) then pv c 0 (fun i => mf (o + i)) (fun i => ml (o + i)) (fun i => ma (o + i)) j else (if ml (o + j) < c then pv c 0 (fun i => mf (o + i)) (fun i => ml (o + i)) (fun i => ma (o + i)) j else ma (o + j)) := rfl
    rw [mm_mIsMarked_16, hb, if_neg (nI_ge (by omega) (by omega)), nI_clamp (by omega), nI_1]
    rw [e1, ← Nat.add_assoc] at h1
    by_cases c1 : c < mf (o + j)
    · rw [if_pos c1]; rw [if_pos c1] at h1; exact h1
    · rw [if_neg c1]; rw [if_neg c1] at h1
      by_cases c2 : ml (o + j) < c
      · rw [if_pos c2]; rw [if_pos c2] at h1; exact h1
      · rw [if_neg c2]; rw [if_neg c2] at h1; exact h1
theorem pv_mark0 {mk mf ml ma tt : Nat → Int32} {m i : Nat} (hm : m ≤ 40) (hi : i < 2000) (hk : mk 0 = nI m) : mm_mIsMarked (nI i) 0 mk mf ml ma tt = pv (tt i) 0 (fun i => mf (0 + i)) (fun i => ml (0 + i)) (fun i => ma (0 + i)) m := by
  have hb : ((40 * (0 : Int32)) + (mk (0 : Int32).toNatClampNeg)) = nI (0 + m) := by
    show (40 * (0 : Int32)) + mk 0 = _
    rw [hk]
    exact nI_add 0 m
  have h := pv_16 (x1 := nI i) (c := tt i) (mf := mf) (ml := ml) (ma := ma) (tt := tt) (show 0 + m ≤ 80 by omega) hb m 0 101 (by omega) (by omega)
  unfold mm_mIsMarked
  rw [nI_clamp (by omega)]
  exact h
theorem pv_mark1 {mk mf ml ma tt : Nat → Int32} {m i : Nat} (hm : m ≤ 40) (hi : i < 2000) (hk : mk 1 = nI m) : mm_mIsMarked (nI i) 1 mk mf ml ma tt = pv (tt i) 0 (fun i => mf (40 + i)) (fun i => ml (40 + i)) (fun i => ma (40 + i)) m := by
  have hb : ((40 * (1 : Int32)) + (mk (1 : Int32).toNatClampNeg)) = nI (40 + m) := by
    show (40 * (1 : Int32)) + mk 1 = _
    rw [hk]
    exact nI_add 40 m
  have h := pv_16 (x1 := nI i) (c := tt i) (mf := mf) (ml := ml) (ma := ma) (tt := tt) (show 40 + m ≤ 80 by omega) hb m 0 101 (by omega) (by omega)
  unfold mm_mIsMarked
  rw [nI_clamp (by omega)]
  exact h
theorem pv_isMarked {c : Int32} {f l v : Nat → Int32} {m : Nat} (hm : m ≤ 100) (hv : ∀ i, i < m → v i = 0 ∨ v i = 1) : mm_isMarked c f l v (nI m) = pv c 0 f l v m := by
  unfold mm_isMarked
  rw [pv_value hm]
  rcases pv_ind (c := c) (d := 0) (f := f) (l := l) (v := v) (P := fun x => x = 0 ∨ x = 1) (Or.inl rfl) m hv with h | h
  · rw [h]; rfl
  · rw [h]; rfl
theorem pe_kdV {cs : Nat → Int32} {lo : Int32} {i : Nat} (hi : i < 2 ^ 31) : pe_kd cs lo i = pk_V (cs i) lo := by
  unfold pe_kd pk_V mm_kindAt
  rw [nI_clamp hi]
theorem pn_of {x : Int32} (h0 : 0 ≤ x.toInt) (h1 : x.toInt ≤ 43) : ∃ j : Nat, j < 44 ∧ x = nI j := ⟨x.toInt.toNat, by omega, Int32.toInt_inj.mp (by rw [nI_toInt (by omega)]; omega)⟩
theorem pn_mod : ∀ m, m < 2002 → nI m - nI m / 2 * 2 = nI (m % 2) := by decide +kernel
/-- what both sides know of the text: kinds, characters, marks -/
def pe_G (n : Nat) (tx cs fa2 la2 va2 : Nat → Int32) (mn2 : Int32) (fa3 la3 va3 : Nat → Int32) (mn3 lo rn : Int32) (fs lt kk mk mf ml ma : Nat → Int32) (il : Int32) (tt : Nat → Int32) : Prop :=
  n ≤ 2000 ∧ (∀ i, i < n → kc (pe_kd cs lo i)) ∧ (∀ i, i < n → mm_mClassOf (nI i) rn fs lt kk il tt = pe_kd cs lo i) ∧ (∀ i, i < n → tx i = tt i) ∧
    ∀ i, i < n → mm_mIsMarked (nI i) 0 mk mf ml ma tt = mm_isMarked (tx i) fa2 la2 va2 mn2 ∧ mm_mIsMarked (nI i) 1 mk mf ml ma tt = mm_isMarked (tx i) fa3 la3 va3 mn3
/-- what is known of the rules -/
def pe_J (n : Nat) (tx cs fa2 la2 va2 : Nat → Int32) (mn2 : Int32) (fa3 la3 va3 : Nat → Int32) (mn3 lo : Int32) (rl : Nat → Int32) (b1 b2 b3 b4 b5 b6 kn : Int32) : Prop :=
  ∃ k : Nat, kn = nI k ∧ k ≤ n ∧ (b1, b2, b3, b4, b5, b6) = pe_B tx cs lo k ∧ ∀ p, p < k → rl p = pe_R tx cs fa2 la2 va2 mn2 fa3 la3 va3 mn3 lo p
section
variable {tx cs rl fa1 la1 va1 : Nat → Int32} {mn1 : Int32} {fa2 la2 va2 : Nat → Int32} {mn2 : Int32} {fa3 la3 va3 : Nat → Int32} {mn3 b1 b2 b3 b4 b5 b6 ln lo kn rn : Int32} {fs lt kk mk mf ml ma : Nat → Int32} {il sz : Int32} {tt : Nat → Int32}
theorem pe_split (hI : lw_I tx cs rl fa1 la1 va1 mn1 fa2 la2 va2 mn2 fa3 la3 va3 mn3 b1 b2 b3 b4 b5 b6 ln lo kn rn fs lt kk mk mf ml ma il sz tt) :
    ∃ n : Nat, ln = nI n ∧ sz = nI n ∧ pe_G n tx cs fa2 la2 va2 mn2 fa3 la3 va3 mn3 lo rn fs lt kk mk mf ml ma il tt ∧ pe_J n tx cs fa2 la2 va2 mn2 fa3 la3 va3 mn3 lo rl b1 b2 b3 b4 b5 b6 kn ∧
      ∀ (rl' : Nat → Int32) (b1' b2' b3' b4' b5' b6' kn' : Int32), pe_J n tx cs fa2 la2 va2 mn2 fa3 la3 va3 mn3 lo rl' b1' b2' b3' b4' b5' b6' kn' → lw_I tx cs rl' fa1 la1 va1 mn1 fa2 la2 va2 mn2 fa3 la3 va3 mn3 b1' b2' b3' b4' b5' b6' ln lo kn' rn fs lt kk mk mf ml ma il sz tt := by
  obtain ⟨n, r, k, m2, m3, ⟨a1, a2, a3⟩, ⟨c1, c2, c3⟩, ⟨d1, d2⟩, ⟨e1, e2, e3⟩, ⟨f1, f2, f3⟩, ⟨g1, g2⟩, h1, h2, h3, h4, h5, h6, h7, h8⟩ := hI
  have hcs : ∀ i, i < n → ∃ j : Nat, j < 44 ∧ cs i = nI j := by
    intro i hi
    rw [h3 i hi, c1, pv_value c3]
    exact pv_ind (P := fun x => ∃ j : Nat, j < 44 ∧ x = nI j) ⟨40, by omega, rfl⟩ r (fun j hj => by rw [(h2 j hj).2.2.1]; exact pn_of (h2 j hj).2.2.2.1 (h2 j hj).2.2.2.2)
  refine ⟨n, a1, a2, ⟨a3, ?_, ?_, h1, ?_⟩, ⟨k, d1, d2, h7, h8⟩, ?_⟩
  · intro i hi
    rw [pe_kdV (by omega)]
    exact pk_Vk (hcs i hi) g2
  · intro i hi
    rw [pe_kdV (by omega), c2, pv_class c3 (by omega), ← pk_VW (hcs i hi) g2, ← g1, h3 i hi, c1, pv_value c3, h1 i hi]
    congr 1
    exact (pv_congr r (fun j hj => ⟨(h2 j hj).1, (h2 j hj).2.1, (h2 j hj).2.2.1⟩)).symm
  · intro i hi
    rw [pv_mark0 e3 (by omega) e2, pv_mark1 f3 (by omega) f2, e1, f1, pv_isMarked (by omega) (fun j hj => by rw [(h4 j hj).2.2]; exact h6 _), pv_isMarked (by omega) (fun j hj => by rw [(h5 j hj).2.2]; exact h6 _), h1 i hi]
    exact ⟨(pv_congr m2 (fun j hj => by rw [Nat.zero_add]; exact h4 j hj)).symm, (pv_congr m3 (fun j hj => h5 j hj)).symm⟩
  · intro rl' b1' b2' b3' b4' b5' b6' kn' hJ
    obtain ⟨k', d1', d2', h7', h8'⟩ := hJ
    exact ⟨n, r, k', m2, m3, ⟨a1, a2, a3⟩, ⟨c1, c2, c3⟩, ⟨d1', d2'⟩, ⟨e1, e2, e3⟩, ⟨f1, f2, f3⟩, ⟨g1, g2⟩, h1, h2, h3, h4, h5, h6, h7', h8'⟩
end
theorem pk_orn {x : Int32} (h : ¬ x = 0) (t : Int32) : pk_or x t = x := if_neg h
theorem pk_wn {v : Int32} (h : ¬ v = 0) (hd l k : Int32) : pk_w v hd l k = (v, pk_h v l k) := by
  unfold pk_w
  rw [if_neg h]
theorem pk_isMarked {c : Int32} {f l v : Nat → Int32} {mn : Int32} : mm_isMarked c f l v mn = 0 ∨ mm_isMarked c f l v mn = 1 := by
  unfold mm_isMarked
  split
  · exact Or.inr rfl
  · exact Or.inl rfl
section
variable {n : Nat} {tx cs fa2 la2 va2 : Nat → Int32} {mn2 : Int32} {fa3 la3 va3 : Nat → Int32} {mn3 lo rn : Int32} {fs lt kk mk mf ml ma : Nat → Int32} {il : Int32} {tt : Nat → Int32}
theorem pl_R {q : Nat} (hG : pe_G n tx cs fa2 la2 va2 mn2 fa3 la3 va3 mn3 lo rn fs lt kk mk mf ml ma il tt) (hq : q + 1 < n) : pe_R tx cs fa2 la2 va2 mn2 fa3 la3 va3 mn3 lo (q + 1) =
    pk_or (mm_ruleOfSpaces (pe_kd cs lo (q + 1)) (pe_kd cs lo q) (pk_s (pe_kd cs lo) (q + 1))) (pk_or (pk_or (pm_G (pk_C (pe_kd cs lo (pk_b (pe_kd cs lo) q))) (pk_C (pe_kd cs lo (q + 1)))) (pk_or (pm_A (pk_s (pe_kd cs lo) (q + 1)) (pk_C (pe_kd cs lo (q + 1)))) (pm_1 (pk_C (pe_kd cs lo (pk_b (pe_kd cs lo) q))) (pk_C (pe_kd cs lo (q + 1))))))
      (pk_or (pk_or (pm_2 (pk_C (pe_kd cs lo (pk_b (pe_kd cs lo) q))) (pk_C (pe_kd cs lo (q + 1))) (pk_z (pe_kd cs lo) q)) (pm_3 (pk_C (pe_kd cs lo (pk_b (pe_kd cs lo) q))) (pk_C (pe_kd cs lo (q + 1)))))
      (pk_or (pm_4 (pk_C (pe_kd cs lo (pk_b (pe_kd cs lo) q))) (pk_C (pe_kd cs lo (q + 1)))) (pk_or (pm_5 (pk_C (pe_kd cs lo (pk_b (pe_kd cs lo) q))) (pk_C (pe_kd cs lo (q + 1))))
      (pm_6 (pk_C (pe_kd cs lo (pk_b (pe_kd cs lo) q))) (pk_C (pe_kd cs lo (q + 1))) (mm_isMarked (tx (q + 1)) fa2 la2 va2 mn2) (mm_isMarked (tx (pk_b (pe_kd cs lo) q)) fa2 la2 va2 mn2) (mm_isMarked (tx (pk_b (pe_kd cs lo) q)) fa3 la3 va3 mn3) (nI (pk_F (pe_kd cs lo) q % 2))))))) := by
  obtain ⟨hn, hK, hC, hT, hM⟩ := hG
  have hb9 := pk_ble (pe_kd cs lo) q
  have hk := hK (q + 1) hq
  have ha : kc (pk_C (pe_kd cs lo (pk_b (pe_kd cs lo) q))) := pk_Ckc (hK _ (by omega))
  have hb : kc (pk_C (pe_kd cs lo (q + 1))) := pk_Ckc hk
  have hs := pk_skq hK (q + 1) (by omega)
  have ho : nI (pk_F (pe_kd cs lo) q % 2) = 0 ∨ nI (pk_F (pe_kd cs lo) q % 2) = 1 := by
    rcases (show pk_F (pe_kd cs lo) q % 2 = 0 ∨ pk_F (pe_kd cs lo) q % 2 = 1 by omega) with h | h
    · rw [h]; exact Or.inl rfl
    · rw [h]; exact Or.inr rfl
  unfold pe_R
  rw [pk_fold hK q (by omega)]
  dsimp only
  rw [fr_R, pk_stands hk, pc_G ha hb, pc_A hs hb, pc_S ha hb, pc_N ha hb, pc_W ha hb, cm_marks, pc_M ha hb pk_isMarked pk_isMarked pk_isMarked ho]
  simp only [pk_ora]
theorem rk_zz {K : Nat → Int32} {q : Nat} (hn : n ≤ 2000) (hC : ∀ i, i < n → mm_mClassOf (nI i) rn fs lt kk il tt = K i) (hq : q < n) : mm_mBaseClass (mm_mBase (nI (pk_b K q) - 1) rn fs lt kk il tt) rn fs lt kk il tt = pk_z K q := by
  have hb := pk_ble K q
  unfold pk_z
  by_cases h : pk_b K q = 0
  · rw [h, pn_0s, rk_base0, rk_bc0, if_pos rfl]
  · obtain ⟨j, hj⟩ : ∃ j, pk_b K q = j + 1 := ⟨pk_b K q - 1, by omega⟩
    rw [hj, nI_pred, rk_base hn hC (by omega), rk_bc hn hC (by have := pk_ble K j; omega), if_neg (by omega)]
    rfl
set_option maxHeartbeats 1000000 in
theorem pl_look {q : Nat} {hd : Int32} (hG : pe_G n tx cs fa2 la2 va2 mn2 fa3 la3 va3 mn3 lo rn fs lt kk mk mf ml ma il tt) (hq : q + 1 < n) : mm_mLook (nI (q + 1)) rn fs lt kk mk mf ml ma il (nI n) tt hd = (pe_R tx cs fa2 la2 va2 mn2 fa3 la3 va3 mn3 lo (q + 1), pk_h (pe_R tx cs fa2 la2 va2 mn2 fa3 la3 va3 mn3 lo (q + 1)) (pe_kd cs lo q) (pe_kd cs lo (q + 1))) := by
  rw [pl_R hG hq]
  obtain ⟨hn, hK, hC, hT, hM⟩ := hG
  have hb9 := pk_ble (pe_kd cs lo) q
  have hF9 := pk_Fle (pe_kd cs lo) q
  have hk := hK (q + 1) hq
  have ha : kc (pk_C (pe_kd cs lo (pk_b (pe_kd cs lo) q))) := pk_Ckc (hK _ (by omega))
  have hb : kc (pk_C (pe_kd cs lo (q + 1))) := pk_Ckc hk
  have hs := pk_skq hK (q + 1) (by omega)
  have ho : nI (pk_F (pe_kd cs lo) q % 2) = 0 ∨ nI (pk_F (pe_kd cs lo) q % 2) = 1 := by
    rcases (show pk_F (pe_kd cs lo) q % 2 = 0 ∨ pk_F (pe_kd cs lo) q % 2 = 1 by omega) with h | h
    · rw [h]; exact Or.inl rfl
    · rw [h]; exact Or.inr rfl
  unfold mm_mLook mm_mLook_61
  rw [rk_E hn hC hK hq, nI_pred, rk_base hn hC (by omega), rk_bc hn hC (i := pk_b (pe_kd cs lo) q) (by omega), rk_bc hn hC (i := q + 1) hq]
  simp only [rm_M (pe_kd cs lo q) (pe_kd cs lo (q + 1)), rl_L (pe_kd cs lo q) (pe_kd cs lo (q + 1)), ra_L (pe_kd cs lo q) (pe_kd cs lo (q + 1))]
  rw [rk_spaces hn hC (by omega), rk_zz hn hC (by omega), rk_flags hn hC (by omega), pn_mod _ (by omega), (hM (q + 1) hq).1, (hM (pk_b (pe_kd cs lo) q) (by omega)).1, (hM (pk_b (pe_kd cs lo) q) (by omega)).2]
  have p0 := pl_pE (hK q (by omega)) hk (pk_s (pe_kd cs lo) (q + 1))
  have p1 := (pp_G ha hb).or ((pp_A hs hb).or (pp_1 ha hb))
  have p2 := (pp_2 (a := pk_C (pe_kd cs lo (pk_b (pe_kd cs lo) q))) (b := pk_C (pe_kd cs lo (q + 1))) (z := pk_z (pe_kd cs lo) q)).or (pp_3 ha hb)
  have p3 : ¬ pk_or (pm_4 (pk_C (pe_kd cs lo (pk_b (pe_kd cs lo) q))) (pk_C (pe_kd cs lo (q + 1)))) (pk_or (pm_5 (pk_C (pe_kd cs lo (pk_b (pe_kd cs lo) q))) (pk_C (pe_kd cs lo (q + 1)))) (pm_6 (pk_C (pe_kd cs lo (pk_b (pe_kd cs lo) q))) (pk_C (pe_kd cs lo (q + 1))) (mm_isMarked (tx (q + 1)) fa2 la2 va2 mn2) (mm_isMarked (tx (pk_b (pe_kd cs lo) q)) fa2 la2 va2 mn2) (mm_isMarked (tx (pk_b (pe_kd cs lo) q)) fa3 la3 va3 mn3) (nI (pk_F (pe_kd cs lo) q % 2)))) = 0 := by
    have h6 := pp_6 ha hb (pk_isMarked (c := tx (q + 1)) (f := fa2) (l := la2) (v := va2) (mn := mn2)) (pk_isMarked (c := tx (pk_b (pe_kd cs lo) q)) (f := fa2) (l := la2) (v := va2) (mn := mn2)) (pk_isMarked (c := tx (pk_b (pe_kd cs lo) q)) (f := fa3) (l := la3) (v := va3) (mn := mn3)) ho
    unfold pk_or
    split
    · split
      · exact h6
      · assumption
    · assumption
  generalize mm_ruleOfSpaces (pe_kd cs lo (q + 1)) (pe_kd cs lo q) (pk_s (pe_kd cs lo) (q + 1)) = e at p0 ⊢
  generalize pk_or (pm_G (pk_C (pe_kd cs lo (pk_b (pe_kd cs lo) q))) (pk_C (pe_kd cs lo (q + 1)))) (pk_or (pm_A (pk_s (pe_kd cs lo) (q + 1)) (pk_C (pe_kd cs lo (q + 1)))) (pm_1 (pk_C (pe_kd cs lo (pk_b (pe_kd cs lo) q))) (pk_C (pe_kd cs lo (q + 1))))) = v1 at p1 ⊢
  generalize pk_or (pm_2 (pk_C (pe_kd cs lo (pk_b (pe_kd cs lo) q))) (pk_C (pe_kd cs lo (q + 1))) (pk_z (pe_kd cs lo) q)) (pm_3 (pk_C (pe_kd cs lo (pk_b (pe_kd cs lo) q))) (pk_C (pe_kd cs lo (q + 1)))) = v2 at p2 ⊢
  generalize pk_or (pm_4 (pk_C (pe_kd cs lo (pk_b (pe_kd cs lo) q))) (pk_C (pe_kd cs lo (q + 1)))) (pk_or (pm_5 (pk_C (pe_kd cs lo (pk_b (pe_kd cs lo) q))) (pk_C (pe_kd cs lo (q + 1)))) (pm_6 (pk_C (pe_kd cs lo (pk_b (pe_kd cs lo) q))) (pk_C (pe_kd cs lo (q + 1))) (mm_isMarked (tx (q + 1)) fa2 la2 va2 mn2) (mm_isMarked (tx (pk_b (pe_kd cs lo) q)) fa2 la2 va2 mn2) (mm_isMarked (tx (pk_b (pe_kd cs lo) q)) fa3 la3 va3 mn3) (nI (pk_F (pe_kd cs lo) q % 2)))) = v3 at p3 ⊢
  have h00 : (0 : Int32) ≤ 0 := by decide
  by_cases he : e = 0
  · subst he
    rw [pk_w0, pk_or0]
    dsimp only
    rw [if_pos h00]
    by_cases h1 : v1 = 0
    · subst h1
      rw [pk_w0, pk_or0]
      dsimp only
      rw [if_pos h00]
      by_cases h2 : v2 = 0
      · subst h2
        rw [pk_w0, pk_or0]
        dsimp only
        rw [if_pos h00, pk_wn p3]
      · rw [pk_wn h2, pk_orn h2]
        dsimp only
        rw [if_neg (p2.le h2)]
    · rw [pk_wn h1, pk_orn h1]
      dsimp only
      rw [if_neg (p1.le h1), if_neg (p1.le h1)]
  · rw [pk_wn he, pk_orn he]
    dsimp only
    rw [if_neg (p0.le he)]
end
