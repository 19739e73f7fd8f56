set_option maxHeartbeats 2000000 in
theorem pe_Property {tx cs rl fa1 la1 va1 : Nat → Int32} {mn1 : Int32} {fa2 la2 va2 : Nat → Int32} {mn2 : Int32} {fa3 la3 va3 : Nat → Int32} {mn3 b1 b2 b3 b4 b5 b6 ln lo kn fl rn : Int32} {fs lt kk mk mf ml ma : Nat → Int32} {il sz : Int32} {tt cs' fa1' la1' va1' : Nat → Int32} {mn1' b1' b2' b3' b4' b5' b6' kn' fl' rn' : Int32} {fs' lt' kk' : Nat → Int32} {x1 x2 x3 k : Int32}
    (hI : lw_I tx cs rl fa1 la1 va1 mn1 fa2 la2 va2 mn2 fa3 la3 va3 mn3 b1 b2 b3 b4 b5 b6 ln lo kn rn fs lt kk mk mf ml ma il sz tt) (hp : (k, cs', fa1', la1', va1', mn1', b1', b2', b3', b4', b5', b6', kn') = mm_hProperty x1 x2 x3 tx cs fa1 la1 va1 mn1 b1 b2 b3 b4 b5 b6 ln kn) (hq : (fl', rn', fs', lt', kk') = mm_mProperty x1 x2 x3 fl rn fs lt kk) :
    mm_mThrown fl' = k ∧ lw_I tx cs' rl fa1' la1' va1' mn1' fa2 la2 va2 mn2 fa3 la3 va3 mn3 b1' b2' b3' b4' b5' b6' ln lo kn' rn' fs' lt' kk' mk mf ml ma il sz tt := by
  have hI0 := hI
  obtain ⟨n, r0, k0, m2, m3, ⟨a1, a2, a3⟩, ⟨c1, c2, c3⟩, ⟨d1, d2⟩, e2, e3, g, h1, h2, h3, h4, h5, h6, h7, h8⟩ := hI0
  subst a1
  subst a2
  subst c1
  subst c2
  rw [pl_mprop] at hq
  by_cases q1 : mm_isRange x1 x2 = 0
  · have hp' : (k, cs', fa1', la1', va1', mn1', b1', b2', b3', b4', b5', b6', kn') = (1, cs, fa1, la1, va1, nI r0, b1, b2, b3, b4, b5, b6, kn) := by
      rw [hp]
      unfold mm_hProperty mm_property
      rw [if_pos q1] <;> rfl
    have hq' : (fl', rn', fs', lt', kk') = (1, nI r0, fs, lt, kk) := by
      rw [hq, if_pos q1]
    cases hp'
    cases hq'
    exact ⟨rfl, hI⟩
  · by_cases q2 : x3 < 0 ∨ 43 < x3
    · have ec : mm_property x1 x2 x3 tx cs fa1 la1 va1 (nI r0) b1 b2 b3 b4 b5 b6 (nI n) kn = (1, cs, fa1, la1, va1, nI r0, b1, b2, b3, b4, b5, b6, kn) := by
        unfold mm_property
        rw [if_neg q1]
        by_cases q3 : x3 < 0
        · rw [if_pos q3]
        · rw [if_neg q3, if_neg (pn_nle (q2.resolve_left q3))]
      have hp' : (k, cs', fa1', la1', va1', mn1', b1', b2', b3', b4', b5', b6', kn') = (1, cs, fa1, la1, va1, nI r0, b1, b2, b3, b4, b5, b6, kn) := by
        rw [hp]
        unfold mm_hProperty
        rw [ec] <;> rfl
      have hq' : (fl', rn', fs', lt', kk') = (1, nI r0, fs, lt, kk) := by
        rw [hq, if_neg q1]
        by_cases q3 : x3 < 0
        · rw [if_pos q3]
        · rw [if_neg q3, if_pos (q2.resolve_left q3)]
      cases hp'
      cases hq'
      exact ⟨rfl, hI⟩
    · have q3 : ¬ x3 < 0 := fun h => q2 (Or.inl h)
      have q4 : ¬ 43 < x3 := fun h => q2 (Or.inr h)
      by_cases q5 : r0 = 100
      · subst q5
        have ec : mm_property x1 x2 x3 tx cs fa1 la1 va1 (nI 100) b1 b2 b3 b4 b5 b6 (nI n) kn = (2, cs, fa1, la1, va1, nI 100, b1, b2, b3, b4, b5, b6, kn) := by
          unfold mm_property
          rw [if_neg q1, if_neg q3, if_pos (pn_le q4), if_neg (by decide)]
        have hp' : (k, cs', fa1', la1', va1', mn1', b1', b2', b3', b4', b5', b6', kn') = (2, cs, fa1, la1, va1, nI 100, b1, b2, b3, b4, b5, b6, kn) := by
          rw [hp]
          unfold mm_hProperty
          rw [ec] <;> rfl
        have hq' : (fl', rn', fs', lt', kk') = (2, nI 100, fs, lt, kk) := by
          rw [hq, if_neg q1, if_neg q3, if_neg q4, if_pos (by decide)]
        cases hp'
        cases hq'
        exact ⟨rfl, hI⟩
      · have q6 : ¬ nI r0 = 100 := fun h => q5 ((nI_eq (b := 100) (by omega) (by omega)).mp h)
        have hf0 : mm_rIsFull 100 (nI r0) = 0 := by
          unfold mm_rIsFull
          exact if_pos (nI_lt (by omega) (by omega))
        have et : mm_rTell x1 x2 x3 100 fa1 la1 va1 (nI r0) = (upd fa1 r0 x1, upd la1 r0 x2, upd va1 r0 x3, nI (r0 + 1)) := by
          unfold mm_rTell
          rw [if_pos hf0, nI_clamp (by omega), nI_1]
        obtain ⟨cs2, e61, -, k2⟩ := pl_61 (x1 := x1) (x2 := x2) (x3 := x3) (tx := tx) (fa1 := upd fa1 r0 x1) (la1 := upd la1 r0 x2) (va1 := upd va1 r0 x3) (mn1 := nI (r0 + 1)) (b1 := b1) (b2 := b2) (b3 := b3) (b4 := b4) (b5 := b5) (b6 := b6) (kn := kn) a3 2001 0 cs (by omega) (by omega)
        rw [nI_0] at e61
        have ec : mm_property x1 x2 x3 tx cs fa1 la1 va1 (nI r0) b1 b2 b3 b4 b5 b6 (nI n) kn = (0, cs2, upd fa1 r0 x1, upd la1 r0 x2, upd va1 r0 x3, nI (r0 + 1), -1, -1, -1, -1, -1, 0, 0) := by
          unfold mm_property
          rw [if_neg q1, if_neg q3, if_pos (pn_le q4), if_pos hf0, et]
          exact e61
        have hp' : (k, cs', fa1', la1', va1', mn1', b1', b2', b3', b4', b5', b6', kn') = (0, cs2, upd fa1 r0 x1, upd la1 r0 x2, upd va1 r0 x3, nI (r0 + 1), -1, -1, -1, -1, -1, 0, 0) := by
          rw [hp]
          unfold mm_hProperty
          rw [ec] <;> rfl
        have hq' : (fl', rn', fs', lt', kk') = (0, nI (r0 + 1), upd fs r0 x1, upd lt r0 x2, upd kk r0 x3) := by
          rw [hq, if_neg q1, if_neg q3, if_neg q4, if_neg q6, nI_clamp (by omega), nI_1]
        cases hp'
        cases hq'
        refine ⟨rfl, n, r0 + 1, 0, m2, m3, ⟨rfl, rfl, a3⟩, ⟨rfl, rfl, by omega⟩, ⟨nI_0.symm, by omega⟩, e2, e3, g, h1, ?_, ?_, h4, h5, h6, rfl, fun q hq => absurd hq (by omega)⟩
        · intro i hi
          by_cases hir : i = r0
          · subst hir
            refine ⟨pk_us.trans pk_us.symm, pk_us.trans pk_us.symm, pk_us.trans pk_us.symm, ?_, ?_⟩
            · rw [pk_us]
              exact gk_nlt (show gk_v x3 x3.toInt from rfl) (show gk_v 0 0 from rfl) q3
            · rw [pk_us]
              exact gk_nlt (show gk_v 43 43 from rfl) (show gk_v x3 x3.toInt from rfl) q4
          · have h := h2 i (by omega)
            refine ⟨(pk_un hir).trans (h.1.trans (pk_un hir).symm), (pk_un hir).trans (h.2.1.trans (pk_un hir).symm), (pk_un hir).trans (h.2.2.1.trans (pk_un hir).symm), ?_, ?_⟩
            · rw [pk_un hir]
              exact h.2.2.2.1
            · rw [pk_un hir]
              exact h.2.2.2.2
        · intro i hi
          have e : pv (tx i) 40 (upd fa1 r0 x1) (upd la1 r0 x2) (upd va1 r0 x3) (r0 + 1) = if tx i < upd fa1 r0 x1 r0 then pv (tx i) 40 (upd fa1 r0 x1) (upd la1 r0 x2) (upd va1 r0 x3) r0 else (if upd la1 r0 x2 r0 < tx i then pv (tx i) 40 (upd fa1 r0 x1) (upd la1 r0 x2) (upd va1 r0 x3) r0 else upd va1 r0 x3 r0) := rfl
          have ec2 : pv (tx i) 40 (upd fa1 r0 x1) (upd la1 r0 x2) (upd va1 r0 x3) r0 = pv (tx i) 40 fa1 la1 va1 r0 := pv_congr r0 (fun j hj => ⟨pk_un (by omega), pk_un (by omega), pk_un (by omega)⟩)
          rw [k2 i (by omega) hi, h3 i hi, pv_value c3, pv_value (by omega), e, ec2, pk_us, pk_us, pk_us]

set_option maxHeartbeats 2000000 in
theorem pe_Mark {tx cs rl fa1 la1 va1 : Nat → Int32} {mn1 : Int32} {fa2 la2 va2 : Nat → Int32} {mn2 : Int32} {fa3 la3 va3 : Nat → Int32} {mn3 b1 b2 b3 b4 b5 b6 ln lo kn fl rn : Int32} {fs lt kk mk mf ml ma : Nat → Int32} {il sz : Int32} {tt fa2' la2' va2' : Nat → Int32} {mn2' : Int32} {fa3' la3' va3' : Nat → Int32} {mn3' b1' b2' b3' b4' b5' b6' kn' fl' : Int32} {mk' mf' ml' ma' : Nat → Int32} {x1 x2 x3 x4 k : Int32} (hx4 : x4 = 0 ∨ x4 = 1)
    (hI : lw_I tx cs rl fa1 la1 va1 mn1 fa2 la2 va2 mn2 fa3 la3 va3 mn3 b1 b2 b3 b4 b5 b6 ln lo kn rn fs lt kk mk mf ml ma il sz tt) (hp : (k, fa2', la2', va2', mn2', fa3', la3', va3', mn3', b1', b2', b3', b4', b5', b6', kn') = mm_hMark x1 x2 x3 x4 fa2 la2 va2 mn2 fa3 la3 va3 mn3 b1 b2 b3 b4 b5 b6 kn) (hq : (fl', mk', mf', ml', ma') = mm_mMark x1 x2 x3 x4 fl mk mf ml ma) :
    mm_mThrown fl' = k ∧ lw_I tx cs rl fa1 la1 va1 mn1 fa2' la2' va2' mn2' fa3' la3' va3' mn3' b1' b2' b3' b4' b5' b6' ln lo kn' rn fs lt kk mk' mf' ml' ma' il sz tt := by
  have hI0 := hI
  obtain ⟨n, r0, k0, m2, m3, a, hr, ⟨d1, d2⟩, ⟨e1, e2, e3⟩, ⟨f1, f2, f3⟩, g, h1, h2, h3, h4, h5, h6, h7, h8⟩ := hI0
  subst e1
  subst f1
  rw [pl_mmark] at hq
  have hnar : vp_nar .boolean x4 = x4 := by rcases hx4 with rfl | rfl <;> rfl
  by_cases q1 : mm_isRange x1 x2 = 0
  · have hp' : (k, fa2', la2', va2', mn2', fa3', la3', va3', mn3', b1', b2', b3', b4', b5', b6', kn') = (1, fa2, la2, va2, nI m2, fa3, la3, va3, nI m3, b1, b2, b3, b4, b5, b6, kn) := by
      rw [hp]
      unfold mm_hMark mm_mark
      rw [if_pos q1] <;> rfl
    have hq' : (fl', mk', mf', ml', ma') = (1, mk, mf, ml, ma) := by
      rw [hq, if_pos q1]
    cases hp'
    cases hq'
    exact ⟨rfl, hI⟩
  · by_cases z0 : x3 = 0
    · subst z0
      by_cases q5 : m2 = 40
      · subst q5
        have ec : mm_mark x1 x2 0 x4 fa2 la2 va2 (nI 40) fa3 la3 va3 (nI m3) b1 b2 b3 b4 b5 b6 kn = (2, fa2, la2, va2, nI 40, fa3, la3, va3, nI m3, b1, b2, b3, b4, b5, b6, kn) := by
          unfold mm_mark
          rw [if_neg q1, if_pos rfl, if_pos rfl, if_neg (by decide)]
        have hp' : (k, fa2', la2', va2', mn2', fa3', la3', va3', mn3', b1', b2', b3', b4', b5', b6', kn') = (2, fa2, la2, va2, nI 40, fa3, la3, va3, nI m3, b1, b2, b3, b4, b5, b6, kn) := by
          rw [hp]
          unfold mm_hMark
          rw [ec] <;> rfl
        have hq' : (fl', mk', mf', ml', ma') = (2, mk, mf, ml, ma) := by
          rw [hq, if_neg q1, if_pos rfl, show (0 : Int32).toNatClampNeg = 0 from rfl, if_pos (show mk 0 = 40 from e2)]
        cases hp'
        cases hq'
        exact ⟨rfl, hI⟩
      · have q6 : ¬ nI m2 = 40 := fun h => q5 ((nI_eq (b := 40) (by omega) (by omega)).mp h)
        have hf0 : mm_rIsFull 40 (nI m2) = 0 := by
          unfold mm_rIsFull
          exact if_pos (nI_lt (by omega) (by omega))
        have et : ∀ v : Int32, mm_rTell x1 x2 v 40 fa2 la2 va2 (nI m2) = (upd fa2 m2 x1, upd la2 m2 x2, upd va2 m2 v, nI (m2 + 1)) := by
          intro v
          unfold mm_rTell
          rw [if_pos hf0, nI_clamp (by omega), nI_1]
        have ec : mm_mark x1 x2 0 x4 fa2 la2 va2 (nI m2) fa3 la3 va3 (nI m3) b1 b2 b3 b4 b5 b6 kn = (0, upd fa2 m2 x1, upd la2 m2 x2, upd va2 m2 x4, nI (m2 + 1), fa3, la3, va3, nI m3, -1, -1, -1, -1, -1, 0, 0) := by
          unfold mm_mark
          rw [if_neg q1, if_pos rfl, if_pos rfl, if_pos hf0]
          rcases hx4 with rfl | rfl
          · rw [if_pos rfl, et] <;> rfl
          · rw [if_neg (by decide), et] <;> rfl
        have hp' : (k, fa2', la2', va2', mn2', fa3', la3', va3', mn3', b1', b2', b3', b4', b5', b6', kn') = (0, upd fa2 m2 x1, upd la2 m2 x2, upd va2 m2 x4, nI (m2 + 1), fa3, la3, va3, nI m3, -1, -1, -1, -1, -1, 0, 0) := by
          rw [hp]
          unfold mm_hMark
          rw [ec] <;> rfl
        have hz : (0 : Int32).toNatClampNeg = 0 := rfl
        have hb : (40 * (0 : Int32)) + nI m2 = nI m2 := by
          have h := nI_add 0 m2
          rw [Nat.zero_add] at h
          exact h
        have hq' : (fl', mk', mf', ml', ma') = (0, upd mk 0 (nI (m2 + 1)), upd mf m2 x1, upd ml m2 x2, upd ma m2 x4) := by
          rw [hq, if_neg q1, if_pos rfl, hz, e2, if_neg q6, hb, nI_clamp (by omega), nI_1, hnar]
        cases hp'
        cases hq'
        refine ⟨rfl, n, r0, 0, m2 + 1, m3, a, hr, ⟨nI_0.symm, by omega⟩, ⟨rfl, pk_us, by omega⟩, ⟨rfl, (pk_un (by decide)).trans f2, f3⟩, g, h1, h2, h3, ?_, ?_, ?_, rfl, fun q hq => absurd hq (by omega)⟩
        · intro i hi
          by_cases him : i = m2
          · subst him
            exact ⟨pk_us.trans pk_us.symm, pk_us.trans pk_us.symm, pk_us.trans pk_us.symm⟩
          · have h := h4 i (by omega)
            exact ⟨(pk_un him).trans (h.1.trans (pk_un (by omega)).symm), (pk_un him).trans (h.2.1.trans (pk_un (by omega)).symm), (pk_un him).trans (h.2.2.trans (pk_un (by omega)).symm)⟩
        · intro i hi
          have h := h5 i hi
          exact ⟨h.1.trans (pk_un (by omega)).symm, h.2.1.trans (pk_un (by omega)).symm, h.2.2.trans (pk_un (by omega)).symm⟩
        · intro i
          by_cases him : i = m2
          · rw [him, pk_us]
            exact hx4
          · rw [pk_un him]
            exact h6 i
    · by_cases z1 : x3 = 1
      · subst z1
        by_cases q5 : m3 = 40
        · subst q5
          have ec : mm_mark x1 x2 1 x4 fa2 la2 va2 (nI m2) fa3 la3 va3 (nI 40) b1 b2 b3 b4 b5 b6 kn = (2, fa2, la2, va2, nI m2, fa3, la3, va3, nI 40, b1, b2, b3, b4, b5, b6, kn) := by
            unfold mm_mark
            rw [if_neg q1, if_neg (by decide), if_pos rfl, if_neg (by decide), if_neg (by decide)]
          have hp' : (k, fa2', la2', va2', mn2', fa3', la3', va3', mn3', b1', b2', b3', b4', b5', b6', kn') = (2, fa2, la2, va2, nI m2, fa3, la3, va3, nI 40, b1, b2, b3, b4, b5, b6, kn) := by
            rw [hp]
            unfold mm_hMark
            rw [ec] <;> rfl
          have hq' : (fl', mk', mf', ml', ma') = (2, mk, mf, ml, ma) := by
            rw [hq, if_neg q1, if_neg (by decide), if_pos rfl, show (1 : Int32).toNatClampNeg = 1 from rfl, if_pos (show mk 1 = 40 from f2)]
          cases hp'
          cases hq'
          exact ⟨rfl, hI⟩
        · have q6 : ¬ nI m3 = 40 := fun h => q5 ((nI_eq (b := 40) (by omega) (by omega)).mp h)
          have hf0 : mm_rIsFull 40 (nI m3) = 0 := by
            unfold mm_rIsFull
            exact if_pos (nI_lt (by omega) (by omega))
          have et : ∀ v : Int32, mm_rTell x1 x2 v 40 fa3 la3 va3 (nI m3) = (upd fa3 m3 x1, upd la3 m3 x2, upd va3 m3 v, nI (m3 + 1)) := by
            intro v
            unfold mm_rTell
            rw [if_pos hf0, nI_clamp (by omega), nI_1]
          have ec : mm_mark x1 x2 1 x4 fa2 la2 va2 (nI m2) fa3 la3 va3 (nI m3) b1 b2 b3 b4 b5 b6 kn = (0, fa2, la2, va2, nI m2, upd fa3 m3 x1, upd la3 m3 x2, upd va3 m3 x4, nI (m3 + 1), -1, -1, -1, -1, -1, 0, 0) := by
            unfold mm_mark
            rw [if_neg q1, if_neg (by decide), if_pos rfl, if_neg (by decide), if_pos hf0]
            rcases hx4 with rfl | rfl
            · rw [if_pos rfl, et] <;> rfl
            · rw [if_neg (by decide), et] <;> rfl
          have hp' : (k, fa2', la2', va2', mn2', fa3', la3', va3', mn3', b1', b2', b3', b4', b5', b6', kn') = (0, fa2, la2, va2, nI m2, upd fa3 m3 x1, upd la3 m3 x2, upd va3 m3 x4, nI (m3 + 1), -1, -1, -1, -1, -1, 0, 0) := by
            rw [hp]
            unfold mm_hMark
            rw [ec] <;> rfl
          have hz : (1 : Int32).toNatClampNeg = 1 := rfl
          have hb : (40 * (1 : Int32)) + nI m3 = nI (40 + m3) := nI_add 40 m3
          have hq' : (fl', mk', mf', ml', ma') = (0, upd mk 1 (nI (m3 + 1)), upd mf (40 + m3) x1, upd ml (40 + m3) x2, upd ma (40 + m3) x4) := by
            rw [hq, if_neg q1, if_neg (by decide), if_pos rfl, hz, f2, if_neg q6, hb, nI_clamp (by omega), nI_1, hnar]
          cases hp'
          cases hq'
          refine ⟨rfl, n, r0, 0, m2, m3 + 1, a, hr, ⟨nI_0.symm, by omega⟩, ⟨rfl, (pk_un (by decide)).trans e2, e3⟩, ⟨rfl, pk_us, by omega⟩, g, h1, h2, h3, ?_, ?_, ?_, rfl, fun q hq => absurd hq (by omega)⟩
          · intro i hi
            have h := h4 i hi
            exact ⟨h.1.trans (pk_un (by omega)).symm, h.2.1.trans (pk_un (by omega)).symm, h.2.2.trans (pk_un (by omega)).symm⟩
          · intro i hi
            by_cases him : i = m3
            · subst him
              exact ⟨pk_us.trans pk_us.symm, pk_us.trans pk_us.symm, pk_us.trans pk_us.symm⟩
            · have h := h5 i (by omega)
              exact ⟨(pk_un him).trans (h.1.trans (pk_un (by omega)).symm), (pk_un him).trans (h.2.1.trans (pk_un (by omega)).symm), (pk_un him).trans (h.2.2.trans (pk_un (by omega)).symm)⟩
          · intro i
            by_cases him : i = 40 + m3
            · rw [him, pk_us]
              exact hx4
            · rw [pk_un him]
              exact h6 i
      · have ec : mm_mark x1 x2 x3 x4 fa2 la2 va2 (nI m2) fa3 la3 va3 (nI m3) b1 b2 b3 b4 b5 b6 kn = (1, fa2, la2, va2, nI m2, fa3, la3, va3, nI m3, b1, b2, b3, b4, b5, b6, kn) := by
          unfold mm_mark
          rw [if_neg q1, if_neg z0, if_neg z1]
        have hp' : (k, fa2', la2', va2', mn2', fa3', la3', va3', mn3', b1', b2', b3', b4', b5', b6', kn') = (1, fa2, la2, va2, nI m2, fa3, la3, va3, nI m3, b1, b2, b3, b4, b5, b6, kn) := by
          rw [hp]
          unfold mm_hMark
          rw [ec] <;> rfl
        have hq' : (fl', mk', mf', ml', ma') = (1, mk, mf, ml, ma) := by
          rw [hq, if_neg q1, if_neg z0, if_neg z1]
        cases hp'
        cases hq'
        exact ⟨rfl, hI⟩

set_option maxHeartbeats 2000000 in
theorem pe_Loose {tx cs rl fa1 la1 va1 : Nat → Int32} {mn1 : Int32} {fa2 la2 va2 : Nat → Int32} {mn2 : Int32} {fa3 la3 va3 : Nat → Int32} {mn3 b1 b2 b3 b4 b5 b6 ln lo kn fl rn : Int32} {fs lt kk mk mf ml ma : Nat → Int32} {il sz : Int32} {tt : Nat → Int32} {b1' b2' b3' b4' b5' b6' lo' kn' fl' il' x1 k r : Int32} (hx1 : x1 = 0 ∨ x1 = 1)
    (hI : lw_I tx cs rl fa1 la1 va1 mn1 fa2 la2 va2 mn2 fa3 la3 va3 mn3 b1 b2 b3 b4 b5 b6 ln lo kn rn fs lt kk mk mf ml ma il sz tt) (hp : (k, b1', b2', b3', b4', b5', b6', lo', kn') = mm_loose x1 b1 b2 b3 b4 b5 b6 lo kn) (hq : (r, fl', il') = mm_mLoose x1 fl il) :
    k = r ∧ lw_I tx cs rl fa1 la1 va1 mn1 fa2 la2 va2 mn2 fa3 la3 va3 mn3 b1' b2' b3' b4' b5' b6' ln lo' kn' rn fs lt kk mk mf ml ma il' sz tt := by
  obtain ⟨n, r0, k0, m2, m3, a, hr, ⟨d1, d2⟩, e2, e3, ⟨g1, g2⟩, h1, h2, h3, h4, h5, h6, h7, h8⟩ := hI
  have hq' : (r, fl', il') = (il, 0, x1) := hq
  by_cases h : lo = x1
  · have hp' : (k, b1', b2', b3', b4', b5', b6', lo', kn') = (lo, b1, b2, b3, b4, b5, b6, x1, kn) := by
      rw [hp]
      unfold mm_loose
      exact if_pos h
    subst h
    cases hp'
    cases hq'
    exact ⟨g1, n, r0, k0, m2, m3, a, hr, ⟨d1, d2⟩, e2, e3, ⟨rfl, g2⟩, h1, h2, h3, h4, h5, h6, h7, h8⟩
  · have hp' : (k, b1', b2', b3', b4', b5', b6', lo', kn') = (lo, -1, -1, -1, -1, -1, 0, x1, 0) := by
      rw [hp]
      unfold mm_loose
      rw [if_neg h] <;> rfl
    cases hp'
    cases hq'
    exact ⟨g1, n, r0, 0, m2, m3, a, hr, ⟨nI_0.symm, by omega⟩, e2, e3, ⟨rfl, hx1⟩, h1, h2, h3, h4, h5, h6, rfl, fun q hq => absurd hq (by omega)⟩

set_option maxHeartbeats 2000000 in
theorem pe_Add {tx cs rl gv fa1 la1 va1 : Nat → Int32} {mn1 : Int32} {fa2 la2 va2 : Nat → Int32} {mn2 : Int32} {fa3 la3 va3 : Nat → Int32} {mn3 b1 b2 b3 b4 b5 b6 ln lo kn fl rn : Int32} {fs lt kk mk mf ml ma : Nat → Int32} {il sz : Int32} {tt fh : Nat → Int32} {ot : Nat → Int64} {tx' cs' gv' : Nat → Int32} {b1' b2' b3' b4' b5' b6' ln' kn' fl' sz' : Int32} {tt' fh' : Nat → Int32} {ot' : Nat → Int64} {x1 x2 x3 x4 x5 k r : Int32}
    (hI : lw_I tx cs rl fa1 la1 va1 mn1 fa2 la2 va2 mn2 fa3 la3 va3 mn3 b1 b2 b3 b4 b5 b6 ln lo kn rn fs lt kk mk mf ml ma il sz tt) (hp : (k, tx', cs', gv', b1', b2', b3', b4', b5', b6', ln', kn', ot') = mm_hAdd x1 x2 x3 x4 x5 tx cs gv fa1 la1 va1 mn1 b1 b2 b3 b4 b5 b6 ln kn ot) (hq : (r, fl', sz', tt', fh') = mm_mAdd x1 x2 x3 x4 x5 fl sz tt fh) :
    mm_mThrown fl' = k ∧ (k = 0 → lg_cmp (ot' (0 : Int32).toNatClampNeg) r.toInt64 = 0) ∧ lw_I tx' cs' rl fa1 la1 va1 mn1 fa2 la2 va2 mn2 fa3 la3 va3 mn3 b1' b2' b3' b4' b5' b6' ln' lo kn' rn fs lt kk mk mf ml ma il sz' tt' := by
  have hI0 := hI
  obtain ⟨n, r0, k0, m2, m3, ⟨a1, a2, a3⟩, -⟩ := hI0
  subst a1
  subst a2
  obtain ⟨m, hm, t1, t2⟩ := pl_take (x1 := x1) (x2 := x2) (x3 := x3) (x4 := x4) (x5 := x5) (L := 5) (gv := pl_5 x1 x2 x3 x4 x5 gv) (fh := pl_5 x1 x2 x3 x4 x5 fh) (by omega) (Or.inl rfl) pl_5e 6 0 (by omega) (by omega)
  have t3 := pl_sound (gv := pl_5 x1 x2 x3 x4 x5 gv) (fh := pl_5 x1 x2 x3 x4 x5 fh) hm pl_5e 6 0 (by omega) (by omega)
  have t1' : mm_take x1 x2 x3 x4 x5 gv = (nI m, pl_5 x1 x2 x3 x4 x5 gv) := t1
  have t2' : mm_mGiven 5 (mm_mKeep x1 x2 x3 x4 x5 fh) = nI m := t2
  have t3' : mm_mIsSound (nI m) (mm_mKeep x1 x2 x3 x4 x5 fh) = mm_areCharacters (nI m) (pl_5 x1 x2 x3 x4 x5 gv) := t3.symm
  by_cases s1 : mm_areCharacters (nI m) (pl_5 x1 x2 x3 x4 x5 gv) = 0
  · have ec : mm_add x1 x2 x3 x4 x5 tx cs gv fa1 la1 va1 mn1 b1 b2 b3 b4 b5 b6 (nI n) kn = (1, 0, tx, cs, pl_5 x1 x2 x3 x4 x5 gv, b1, b2, b3, b4, b5, b6, nI n, kn) := by
      unfold mm_add
      rw [t1']
      dsimp only
      rw [if_pos s1]
    have hp' : (k, tx', cs', gv', b1', b2', b3', b4', b5', b6', ln', kn', ot') = (1, tx, cs, pl_5 x1 x2 x3 x4 x5 gv, b1, b2, b3, b4, b5, b6, nI n, kn, ot) := by
      rw [hp]
      unfold mm_hAdd
      rw [ec] <;> rfl
    have hq' : (r, fl', sz', tt', fh') = (0, 1, nI n, tt, mm_mKeep x1 x2 x3 x4 x5 fh) := by
      rw [hq]
      unfold mm_mAdd
      rw [t2', t3', if_pos s1]
    cases hp'
    cases hq'
    exact ⟨rfl, fun h => absurd h (by decide), hI⟩
  · by_cases s2 : n + m ≤ 2000
    · have s2' : nI n + nI m ≤ 2000 := by
        rw [nI_add]
        exact nI_le (b := 2000) s2 (by omega)
      obtain ⟨tt2, f1, f2, f3⟩ := pl_add61 (x1 := x1) (x2 := x2) (x3 := x3) (x4 := x4) (x5 := x5) (fl := 0) (fh := pl_5 x1 x2 x3 x4 x5 fh) hm s2 6 0 tt (by omega) (by omega)
      obtain ⟨tx2, cs2, c1, c2, c3, c4, c5, c6, kn2, g1, g2⟩ := pe_put (gv := pl_5 x1 x2 x3 x4 x5 gv) (p := n) (t := n) (m := m) (tt' := tt2) hI (Nat.le_refl _) (Nat.le_refl _) hm a3 (by omega) (fun j hj => f3 j (Or.inl (by omega))) (fun j hj => (f2 j (by omega) hj).trans (pl_5e j (by omega))) (fun j h1 h2 => absurd h2 (by omega))
      have en : n + m + (n - n) = n + m := by omega
      rw [en] at g1 g2
      have ec : mm_add x1 x2 x3 x4 x5 tx cs gv fa1 la1 va1 mn1 b1 b2 b3 b4 b5 b6 (nI n) kn = (0, nI (n + m), tx2, cs2, pl_5 x1 x2 x3 x4 x5 gv, c1, c2, c3, c4, c5, c6, nI (n + m), kn2) := by
        unfold mm_add
        rw [t1']
        dsimp only
        rw [if_neg s1, if_pos s2', g1]
      have hp' : (k, tx', cs', gv', b1', b2', b3', b4', b5', b6', ln', kn', ot') = (0, tx2, cs2, pl_5 x1 x2 x3 x4 x5 gv, c1, c2, c3, c4, c5, c6, nI (n + m), kn2, vp_updL ot (0 : Int32).toNatClampNeg (nI (n + m)).toInt64) := by
        rw [hp]
        unfold mm_hAdd
        rw [ec] <;> rfl
      have hq' : (r, fl', sz', tt', fh') = (nI (n + m), 0, nI (n + m), tt2, mm_mKeep x1 x2 x3 x4 x5 fh) := by
        rw [hq]
        unfold mm_mAdd
        rw [t2', t3', if_neg s1, if_pos s2']
        exact f1
      cases hp'
      cases hq'
      exact ⟨rfl, fun _ => pl_out, g2⟩
    · have s2' : ¬ nI n + nI m ≤ 2000 := by
        rw [nI_add]
        exact nI_ge (a := 2000) (b := n + m) (by omega) (by omega)
      have ec : mm_add x1 x2 x3 x4 x5 tx cs gv fa1 la1 va1 mn1 b1 b2 b3 b4 b5 b6 (nI n) kn = (2, 0, tx, cs, pl_5 x1 x2 x3 x4 x5 gv, b1, b2, b3, b4, b5, b6, nI n, kn) := by
        unfold mm_add
        rw [t1']
        dsimp only
        rw [if_neg s1, if_neg s2']
      have hp' : (k, tx', cs', gv', b1', b2', b3', b4', b5', b6', ln', kn', ot') = (2, tx, cs, pl_5 x1 x2 x3 x4 x5 gv, b1, b2, b3, b4, b5, b6, nI n, kn, ot) := by
        rw [hp]
        unfold mm_hAdd
        rw [ec] <;> rfl
      have hq' : (r, fl', sz', tt', fh') = (0, 2, nI n, tt, mm_mKeep x1 x2 x3 x4 x5 fh) := by
        rw [hq]
        unfold mm_mAdd
        rw [t2', t3', if_neg s1, if_neg s2']
      cases hp'
      cases hq'
      exact ⟨rfl, fun h => absurd h (by decide), hI⟩

set_option maxHeartbeats 2000000 in
theorem pe_Replace {tx cs rl gv fa1 la1 va1 : Nat → Int32} {mn1 : Int32} {fa2 la2 va2 : Nat → Int32} {mn2 : Int32} {fa3 la3 va3 : Nat → Int32} {mn3 b1 b2 b3 b4 b5 b6 ln lo kn fl rn : Int32} {fs lt kk mk mf ml ma : Nat → Int32} {il sz : Int32} {tt fh : Nat → Int32} {ot : Nat → Int64} {tx' cs' gv' : Nat → Int32} {b1' b2' b3' b4' b5' b6' ln' kn' fl' sz' : Int32} {tt' fh' : Nat → Int32} {ot' : Nat → Int64} {x1 x2 x3 x4 x5 k r : Int32}
    (hI : lw_I tx cs rl fa1 la1 va1 mn1 fa2 la2 va2 mn2 fa3 la3 va3 mn3 b1 b2 b3 b4 b5 b6 ln lo kn rn fs lt kk mk mf ml ma il sz tt) (hp : (k, tx', cs', gv', b1', b2', b3', b4', b5', b6', ln', kn', ot') = mm_hReplace x1 x2 x3 x4 x5 tx cs gv fa1 la1 va1 mn1 b1 b2 b3 b4 b5 b6 ln kn ot) (hq : (r, fl', sz', tt', fh') = mm_mReplace x1 x2 x3 x4 x5 fl sz tt fh) :
    mm_mThrown fl' = k ∧ (k = 0 → lg_cmp (ot' (0 : Int32).toNatClampNeg) r.toInt64 = 0) ∧ lw_I tx' cs' rl fa1 la1 va1 mn1 fa2 la2 va2 mn2 fa3 la3 va3 mn3 b1' b2' b3' b4' b5' b6' ln' lo kn' rn fs lt kk mk mf ml ma il sz' tt' := by
  have hI0 := hI
  obtain ⟨n, r0, k0, m2, m3, ⟨a1, a2, a3⟩, -⟩ := hI0
  subst a1
  subst a2
  by_cases bad : x1 < 0 ∨ x2 < x1 ∨ nI n < x2
  · have ec : mm_replace x1 x2 x3 x4 x5 tx cs gv fa1 la1 va1 mn1 b1 b2 b3 b4 b5 b6 (nI n) kn = (3, 0, tx, cs, gv, b1, b2, b3, b4, b5, b6, nI n, kn) := by
      unfold mm_replace
      by_cases bn21 : x2 < x1
      · rw [if_pos bn21]
      · rw [if_neg bn21]
        by_cases p1 : mm_isPlace x1 (nI n) = 0
        · rw [if_pos p1]
        · rw [if_neg p1]
          have bn10 : ¬ x1 < 0 := fun h => p1 (by unfold mm_isPlace; exact if_pos h)
          have bn2 : nI n < x2 := (bad.resolve_left bn10).resolve_left bn21
          have p2 : mm_isPlace x2 (nI n) = 0 := by
            unfold mm_isPlace
            rw [if_pos bn2]
            split <;> rfl
          rw [if_pos p2]
    have hp' : (k, tx', cs', gv', b1', b2', b3', b4', b5', b6', ln', kn', ot') = (1, tx, cs, gv, b1, b2, b3, b4, b5, b6, nI n, kn, ot) := by
      rw [hp]
      unfold mm_hReplace
      rw [ec] <;> rfl
    have hq' : (r, fl', sz', tt', fh') = (0, 1, nI n, tt, mm_mKeep x3 x4 x5 (-1) (-1) fh) := by
      rw [hq]
      unfold mm_mReplace
      by_cases bn10 : x1 < 0
      · rw [if_pos bn10]
      · rw [if_neg bn10]
        by_cases bn21 : x2 < x1
        · rw [if_pos bn21]
        · rw [if_neg bn21, if_pos ((bad.resolve_left bn10).resolve_left bn21)]
    cases hp'
    cases hq'
    exact ⟨rfl, fun h => absurd h (by decide), hI⟩
  · have bn10 : ¬ x1 < 0 := fun h => bad (Or.inl h)
    have bn21 : ¬ x2 < x1 := fun h => bad (Or.inr (Or.inl h))
    have bn2 : ¬ nI n < x2 := fun h => bad (Or.inr (Or.inr h))
    have bn20 : ¬ x2 < 0 := fun h => by
      have g1 := gk_nlt (show gk_v x1 x1.toInt from rfl) (show gk_v 0 0 from rfl) bn10
      have g2 := gk_nlt (show gk_v x2 x2.toInt from rfl) (show gk_v x1 x1.toInt from rfl) bn21
      have g3 := gk_lt (show gk_v x2 x2.toInt from rfl) (show gk_v 0 0 from rfl) h
      omega
    obtain ⟨p, hp31, rfl⟩ := nI_of bn10
    obtain ⟨t, ht31, rfl⟩ := nI_of bn20
    have hpt : p ≤ t := Nat.le_of_not_lt (fun h => bn21 (nI_lt h hp31))
    have htn : t ≤ n := Nat.le_of_not_lt (fun h => bn2 (nI_lt h ht31))
    have p1 : ¬ mm_isPlace (nI p) (nI n) = 0 := by
      unfold mm_isPlace
      rw [if_neg bn10, if_neg (nI_nlt (by omega) (by omega))]
      decide
    have p2 : ¬ mm_isPlace (nI t) (nI n) = 0 := by
      unfold mm_isPlace
      rw [if_neg bn20, if_neg bn2]
      decide
    obtain ⟨m, hm, t1, t2⟩ := pl_take (x1 := x3) (x2 := x4) (x3 := x5) (x4 := -1) (x5 := -1) (L := 3) (gv := pl_5 x3 x4 x5 (-1) (-1) gv) (fh := pl_5 x3 x4 x5 (-1) (-1) fh) (by omega) (Or.inr rfl) pl_5e 6 0 (by omega) (by omega)
    have hm5 : m ≤ 5 := by omega
    have t3 := pl_sound (gv := pl_5 x3 x4 x5 (-1) (-1) gv) (fh := pl_5 x3 x4 x5 (-1) (-1) fh) hm5 pl_5e 6 0 (by omega) (by omega)
    have t1' : mm_take x3 x4 x5 (-1) (-1) gv = (nI m, pl_5 x3 x4 x5 (-1) (-1) gv) := t1
    have t2' : mm_mGiven 3 (mm_mKeep x3 x4 x5 (-1) (-1) fh) = nI m := t2
    have t3' : mm_mIsSound (nI m) (mm_mKeep x3 x4 x5 (-1) (-1) fh) = mm_areCharacters (nI m) (pl_5 x3 x4 x5 (-1) (-1) gv) := t3.symm
    by_cases s1 : mm_areCharacters (nI m) (pl_5 x3 x4 x5 (-1) (-1) gv) = 0
    · have ec : mm_replace (nI p) (nI t) x3 x4 x5 tx cs gv fa1 la1 va1 mn1 b1 b2 b3 b4 b5 b6 (nI n) kn = (1, 0, tx, cs, pl_5 x3 x4 x5 (-1) (-1) gv, b1, b2, b3, b4, b5, b6, nI n, kn) := by
        unfold mm_replace
        rw [if_neg bn21, if_neg p1, if_neg p2, t1']
        dsimp only
        rw [if_pos s1]
      have hp' : (k, tx', cs', gv', b1', b2', b3', b4', b5', b6', ln', kn', ot') = (2, tx, cs, pl_5 x3 x4 x5 (-1) (-1) gv, b1, b2, b3, b4, b5, b6, nI n, kn, ot) := by
        rw [hp]
        unfold mm_hReplace
        rw [ec] <;> rfl
      have hq' : (r, fl', sz', tt', fh') = (0, 2, nI n, tt, mm_mKeep x3 x4 x5 (-1) (-1) fh) := by
        rw [hq]
        unfold mm_mReplace
        rw [if_neg bn10, if_neg bn21, if_neg bn2, t2', t3', if_pos s1]
      cases hp'
      cases hq'
      exact ⟨rfl, fun h => absurd h (by decide), hI⟩
    · have es : nI n - (nI t - nI p) + nI m = nI (p + m + (n - t)) := by
        rw [pn_sub hpt (by omega), pn_sub (show t - p ≤ n by omega) (by omega), nI_add]
        congr 1
        omega
      by_cases s2 : p + m + (n - t) ≤ 2000
      · have s2' : nI n - (nI t - nI p) + nI m ≤ 2000 := by
          rw [es]
          exact nI_le (b := 2000) s2 (by omega)
        have hD : ∀ i, t ≤ i → i ≤ n → nI i + (nI m - (nI t - nI p)) = nI (p + m + (i - t)) := fun i h1 h2 => pn_dl hpt h1 (by omega) hm5
        obtain ⟨cur, w0, w1, w2⟩ : ∃ cur : Nat → Int32, mm_mReplace (nI p) (nI t) x3 x4 x5 fl (nI n) tt fh = mm_mReplace_186 (nI p) (nI t) x3 x4 x5 6 (nI m) 1 (nI m - (nI t - nI p)) 0 0 (nI n) cur (pl_5 x3 x4 x5 (-1) (-1) fh) ∧ (∀ j, t ≤ j → j < n → cur (p + m + (j - t)) = tt j) ∧ ∀ j, j < p + m → cur j = tt j := by
          by_cases hT : p + m ≤ t
          · obtain ⟨cur, w0, w1, w2⟩ := pl_151 (x1 := nI p) (x2 := nI t) (x3 := x3) (x4 := x4) (x5 := x5) (x6 := nI m) (x7 := 1) (fl := 0) (fh := pl_5 x3 x4 x5 (-1) (-1) fh) (tt := tt) a3 hT htn hD 2001 t tt (by omega) (Nat.le_refl _) htn (fun j h1 h2 => absurd h2 (by omega)) (fun j _ => rfl) (fun j _ => rfl)
            refine ⟨cur, ?_, w1, w2⟩
            unfold mm_mReplace
            rw [if_neg bn10, if_neg bn21, if_neg bn2, t2', t3', if_neg s1, if_pos s2', if_pos ((pn_D0 hpt (by omega) hm5).mpr hT)]
            exact w0
          · obtain ⟨cur, w0, w1, w2⟩ := pl_116 (x1 := nI p) (x3 := x3) (x4 := x4) (x5 := x5) (x6 := nI m) (x7 := 1) (fl := 0) (fh := pl_5 x3 x4 x5 (-1) (-1) fh) (tt := tt) a3 hm5 hpt (show t < p + m by omega) htn hD 2001 n tt (by omega) htn (Nat.le_refl _) (fun j h1 h2 => absurd h2 (by omega)) (fun j _ => rfl) (fun j _ => rfl)
            refine ⟨cur, ?_, w1, w2⟩
            unfold mm_mReplace
            rw [if_neg bn10, if_neg bn21, if_neg bn2, t2', t3', if_neg s1, if_pos s2', if_neg (mt (pn_D0 hpt (by omega) hm5).mp hT)]
            exact w0
        obtain ⟨tt2, f1, f2, f3⟩ := pl_186 (p := p) (m := m) (x2 := nI t) (x3 := x3) (x4 := x4) (x5 := x5) (x7 := 1) (fl := 0) (sz := nI n) (D := nI m - (nI t - nI p)) (fh := pl_5 x3 x4 x5 (-1) (-1) fh) hm5 (by omega) 6 0 cur (by omega) (by omega)
        rw [hD n htn (Nat.le_refl _)] at f1
        obtain ⟨tx2, cs2, c1, c2, c3, c4, c5, c6, kn2, g1, g2⟩ := pe_put (gv := pl_5 x3 x4 x5 (-1) (-1) gv) (p := p) (t := t) (m := m) (tt' := tt2) hI hpt htn hm5 a3 s2 (fun j hj => (f3 j (Or.inl (by omega))).trans (w2 j (by omega))) (fun j hj => (f2 j (by omega) hj).trans (pl_5e j (by omega))) (fun j h1 h2 => (f3 _ (Or.inr (by omega))).trans (w1 j h1 h2))
        have ec : mm_replace (nI p) (nI t) x3 x4 x5 tx cs gv fa1 la1 va1 mn1 b1 b2 b3 b4 b5 b6 (nI n) kn = (0, nI (p + m + (n - t)), tx2, cs2, pl_5 x3 x4 x5 (-1) (-1) gv, c1, c2, c3, c4, c5, c6, nI (p + m + (n - t)), kn2) := by
          unfold mm_replace
          rw [if_neg bn21, if_neg p1, if_neg p2, t1']
          dsimp only
          rw [if_neg s1, if_pos s2', g1]
        have hp' : (k, tx', cs', gv', b1', b2', b3', b4', b5', b6', ln', kn', ot') = (0, tx2, cs2, pl_5 x3 x4 x5 (-1) (-1) gv, c1, c2, c3, c4, c5, c6, nI (p + m + (n - t)), kn2, vp_updL ot (0 : Int32).toNatClampNeg (nI (p + m + (n - t))).toInt64) := by
          rw [hp]
          unfold mm_hReplace
          rw [ec] <;> rfl
        have hq' : (r, fl', sz', tt', fh') = (nI (p + m + (n - t)), 0, nI (p + m + (n - t)), tt2, pl_5 x3 x4 x5 (-1) (-1) fh) := by
          rw [hq, w0]
          exact f1
        cases hp'
        cases hq'
        exact ⟨rfl, fun _ => pl_out, g2⟩
      · have s2' : ¬ nI n - (nI t - nI p) + nI m ≤ 2000 := by
          rw [es]
          exact nI_ge (a := 2000) (b := p + m + (n - t)) (by omega) (by omega)
        have ec : mm_replace (nI p) (nI t) x3 x4 x5 tx cs gv fa1 la1 va1 mn1 b1 b2 b3 b4 b5 b6 (nI n) kn = (2, 0, tx, cs, pl_5 x3 x4 x5 (-1) (-1) gv, b1, b2, b3, b4, b5, b6, nI n, kn) := by
          unfold mm_replace
          rw [if_neg bn21, if_neg p1, if_neg p2, t1']
          dsimp only
          rw [if_neg s1, if_neg s2']
        have hp' : (k, tx', cs', gv', b1', b2', b3', b4', b5', b6', ln', kn', ot') = (3, tx, cs, pl_5 x3 x4 x5 (-1) (-1) gv, b1, b2, b3, b4, b5, b6, nI n, kn, ot) := by
          rw [hp]
          unfold mm_hReplace
          rw [ec] <;> rfl
        have hq' : (r, fl', sz', tt', fh') = (0, 3, nI n, tt, mm_mKeep x3 x4 x5 (-1) (-1) fh) := by
          rw [hq]
          unfold mm_mReplace
          rw [if_neg bn10, if_neg bn21, if_neg bn2, t2', t3', if_neg s1, if_neg s2']
        cases hp'
        cases hq'
        exact ⟨rfl, fun h => absurd h (by decide), hI⟩

set_option maxHeartbeats 2000000 in
theorem pe_Clear {tx cs rl fa1 la1 va1 : Nat → Int32} {mn1 : Int32} {fa2 la2 va2 : Nat → Int32} {mn2 : Int32} {fa3 la3 va3 : Nat → Int32} {mn3 b1 b2 b3 b4 b5 b6 ln lo kn fl rn : Int32} {fs lt kk mk mf ml ma : Nat → Int32} {il sz : Int32} {tt : Nat → Int32} {b1' b2' b3' b4' b5' b6' ln' kn' fl' sz' k r : Int32}
    (hI : lw_I tx cs rl fa1 la1 va1 mn1 fa2 la2 va2 mn2 fa3 la3 va3 mn3 b1 b2 b3 b4 b5 b6 ln lo kn rn fs lt kk mk mf ml ma il sz tt) (hp : (k, b1', b2', b3', b4', b5', b6', ln', kn') = mm_clear b1 b2 b3 b4 b5 b6 ln kn) (hq : (r, fl', sz') = mm_mClear fl sz) :
    k = r ∧ lw_I tx cs rl fa1 la1 va1 mn1 fa2 la2 va2 mn2 fa3 la3 va3 mn3 b1' b2' b3' b4' b5' b6' ln' lo kn' rn fs lt kk mk mf ml ma il sz' tt := by
  obtain ⟨n, r0, k0, m2, m3, ⟨a1, a2, a3⟩, hr, ⟨d1, d2⟩, e2, e3, g, h1, h2, h3, h4, h5, h6, h7, h8⟩ := hI
  have hp' : (k, b1', b2', b3', b4', b5', b6', ln', kn') = (ln, -1, -1, -1, -1, -1, 0, 0, 0) := hp
  have hq' : (r, fl', sz') = (sz, 0, 0) := hq
  cases hp'
  cases hq'
  exact ⟨a1.trans a2.symm, 0, r0, 0, m2, m3, ⟨nI_0.symm, nI_0.symm, by omega⟩, hr, ⟨nI_0.symm, by omega⟩, e2, e3, g, fun i hi => absurd hi (by omega), h2, fun i hi => absurd hi (by omega), h4, h5, h6, rfl, fun q hq => absurd hq (by omega)⟩

set_option maxHeartbeats 2000000 in
theorem pe_At {tx cs rl fa1 la1 va1 : Nat → Int32} {mn1 : Int32} {fa2 la2 va2 : Nat → Int32} {mn2 : Int32} {fa3 la3 va3 : Nat → Int32} {mn3 b1 b2 b3 b4 b5 b6 ln lo kn fl rn : Int32} {fs lt kk mk mf ml ma : Nat → Int32} {il sz : Int32} {tt : Nat → Int32} {ot : Nat → Int64} {fl' : Int32} {ot' : Nat → Int64} {x1 k r : Int32}
    (hI : lw_I tx cs rl fa1 la1 va1 mn1 fa2 la2 va2 mn2 fa3 la3 va3 mn3 b1 b2 b3 b4 b5 b6 ln lo kn rn fs lt kk mk mf ml ma il sz tt) (hp : (k, ot') = mm_hAt x1 tx ln ot) (hq : (r, fl') = mm_mAt x1 fl sz tt) :
    mm_mThrown fl' = k ∧ (k = 0 → lg_cmp (ot' (0 : Int32).toNatClampNeg) r.toInt64 = 0) ∧ lw_I tx cs rl fa1 la1 va1 mn1 fa2 la2 va2 mn2 fa3 la3 va3 mn3 b1 b2 b3 b4 b5 b6 ln lo kn rn fs lt kk mk mf ml ma il sz tt := by
  obtain ⟨n, rfl, rfl, hG, hJ, hN⟩ := pe_split hI
  have hn := hG.1
  by_cases hpl : mm_isPosition x1 (nI n) = 0
  · have hp' : (k, ot') = (1, ot) := by
      rw [hp]
      unfold mm_hAt mm_at
      rw [if_pos hpl] <;> rfl
    have hq' : (r, fl') = (0, 1) := by
      rw [hq]
      unfold mm_mAt
      exact if_pos hpl
    cases hp'
    cases hq'
    exact ⟨rfl, fun h => absurd h (by decide), hI⟩
  · obtain ⟨i, hi, rfl⟩ := pl_pos hpl
    have hp' : (k, ot') = (0, vp_updL ot (0 : Int32).toNatClampNeg (tt i).toInt64) := by
      rw [hp]
      unfold mm_hAt mm_at
      rw [if_neg hpl, nI_clamp (by omega), hG.2.2.2.1 i hi] <;> rfl
    have hq' : (r, fl') = (tt i, 0) := by
      rw [hq]
      unfold mm_mAt
      rw [if_neg (show ¬ mm_mIsPosition (nI i) (nI n) = 0 from hpl), nI_clamp (by omega)]
    cases hp'
    cases hq'
    exact ⟨rfl, fun _ => pl_out, hI⟩

set_option maxHeartbeats 2000000 in
theorem pe_Kind {tx cs rl fa1 la1 va1 : Nat → Int32} {mn1 : Int32} {fa2 la2 va2 : Nat → Int32} {mn2 : Int32} {fa3 la3 va3 : Nat → Int32} {mn3 b1 b2 b3 b4 b5 b6 ln lo kn fl rn : Int32} {fs lt kk mk mf ml ma : Nat → Int32} {il sz : Int32} {tt : Nat → Int32} {ot : Nat → Int64} {fl' : Int32} {ot' : Nat → Int64} {x1 k r : Int32}
    (hI : lw_I tx cs rl fa1 la1 va1 mn1 fa2 la2 va2 mn2 fa3 la3 va3 mn3 b1 b2 b3 b4 b5 b6 ln lo kn rn fs lt kk mk mf ml ma il sz tt) (hp : (k, ot') = mm_hKind x1 cs ln lo ot) (hq : (r, fl') = mm_mKind x1 fl rn fs lt kk il sz tt) :
    mm_mThrown fl' = k ∧ (k = 0 → lg_cmp (ot' (0 : Int32).toNatClampNeg) r.toInt64 = 0) ∧ lw_I tx cs rl fa1 la1 va1 mn1 fa2 la2 va2 mn2 fa3 la3 va3 mn3 b1 b2 b3 b4 b5 b6 ln lo kn rn fs lt kk mk mf ml ma il sz tt := by
  obtain ⟨n, rfl, rfl, hG, hJ, hN⟩ := pe_split hI
  have hn := hG.1
  by_cases hpl : mm_isPosition x1 (nI n) = 0
  · have hp' : (k, ot') = (1, ot) := by
      rw [hp]
      unfold mm_hKind mm_kind
      rw [if_pos hpl] <;> rfl
    have hq' : (r, fl') = (0, 1) := by
      rw [hq]
      unfold mm_mKind
      exact if_pos hpl
    cases hp'
    cases hq'
    exact ⟨rfl, fun h => absurd h (by decide), hI⟩
  · obtain ⟨i, hi, rfl⟩ := pl_pos hpl
    have hp' : (k, ot') = (0, vp_updL ot (0 : Int32).toNatClampNeg (pe_kd cs lo i).toInt64) := by
      rw [hp]
      unfold mm_hKind mm_kind
      rw [if_neg hpl] <;> rfl
    have hq' : (r, fl') = (pe_kd cs lo i, 0) := by
      rw [hq]
      unfold mm_mKind
      rw [if_neg (show ¬ mm_mIsPosition (nI i) (nI n) = 0 from hpl), hG.2.2.1 i hi]
    cases hp'
    cases hq'
    exact ⟨rfl, fun _ => pl_out, hI⟩

set_option maxHeartbeats 2000000 in
theorem pe_Breaks {tx cs rl fa1 la1 va1 : Nat → Int32} {mn1 : Int32} {fa2 la2 va2 : Nat → Int32} {mn2 : Int32} {fa3 la3 va3 : Nat → Int32} {mn3 b1 b2 b3 b4 b5 b6 ln lo kn fl rn : Int32} {fs lt kk mk mf ml ma : Nat → Int32} {il sz : Int32} {tt : Nat → Int32} {hd : Int32} {ot : Nat → Int64} {rl' : Nat → Int32} {b1' b2' b3' b4' b5' b6' kn' fl' hd' : Int32} {ot' : Nat → Int64} {x1 k r : Int32}
    (hI : lw_I tx cs rl fa1 la1 va1 mn1 fa2 la2 va2 mn2 fa3 la3 va3 mn3 b1 b2 b3 b4 b5 b6 ln lo kn rn fs lt kk mk mf ml ma il sz tt) (hp : (k, rl', b1', b2', b3', b4', b5', b6', kn', ot') = mm_hBreaks x1 tx cs rl fa2 la2 va2 mn2 fa3 la3 va3 mn3 b1 b2 b3 b4 b5 b6 ln lo kn ot) (hq : (r, fl', hd') = mm_mBreaks x1 fl rn fs lt kk mk mf ml ma il sz tt hd) :
    mm_mThrown fl' = k ∧ (k = 0 → lg_cmp (ot' (0 : Int32).toNatClampNeg) r.toInt64 = 0) ∧ lw_I tx cs rl' fa1 la1 va1 mn1 fa2 la2 va2 mn2 fa3 la3 va3 mn3 b1' b2' b3' b4' b5' b6' ln lo kn' rn fs lt kk mk mf ml ma il sz tt := by
  obtain ⟨n, rfl, rfl, hG, hJ, hN⟩ := pe_split hI
  by_cases hpl : mm_isPlace x1 (nI n) = 0
  · have hp' : (k, rl', b1', b2', b3', b4', b5', b6', kn', ot') = (1, rl, b1, b2, b3, b4, b5, b6, kn, ot) := by
      rw [hp]
      unfold mm_hBreaks mm_breaks
      rw [if_pos hpl] <;> rfl
    have hq' : (r, fl', hd') = (0, 1, hd) := by
      rw [hq]
      unfold mm_mBreaks
      exact if_pos hpl
    cases hp'
    cases hq'
    exact ⟨rfl, fun h => absurd h (by decide), hI⟩
  · obtain ⟨p, hple, rfl⟩ := pl_place hpl
    obtain ⟨rl2, c1, c2, c3, c4, c5, c6, kn2, e, hJ2⟩ := pl_breaks hG.1 hple hJ
    have hp' : (k, rl', b1', b2', b3', b4', b5', b6', kn', ot') = (0, rl2, c1, c2, c3, c4, c5, c6, kn2, vp_updL ot (0 : Int32).toNatClampNeg (pl_b n tx cs fa2 la2 va2 mn2 fa3 la3 va3 mn3 lo p).toInt64) := by
      rw [hp]
      unfold mm_hBreaks mm_breaks
      rw [if_neg hpl, e] <;> rfl
    have hq' : (r, fl', hd') = (pl_b n tx cs fa2 la2 va2 mn2 fa3 la3 va3 mn3 lo p, 0, pl_b n tx cs fa2 la2 va2 mn2 fa3 la3 va3 mn3 lo p) := by
      rw [hq]
      unfold mm_mBreaks
      rw [if_neg (show ¬ mm_mIsPlace (nI p) (nI n) = 0 from hpl), pl_lk hG hple] <;> rfl
    cases hp'
    cases hq'
    exact ⟨rfl, fun _ => pl_out, hN _ _ _ _ _ _ _ _ hJ2⟩

set_option maxHeartbeats 2000000 in
theorem pe_Rule {tx cs rl fa1 la1 va1 : Nat → Int32} {mn1 : Int32} {fa2 la2 va2 : Nat → Int32} {mn2 : Int32} {fa3 la3 va3 : Nat → Int32} {mn3 b1 b2 b3 b4 b5 b6 ln lo kn fl rn : Int32} {fs lt kk mk mf ml ma : Nat → Int32} {il sz : Int32} {tt : Nat → Int32} {hd : Int32} {ot : Nat → Int64} {rl' : Nat → Int32} {b1' b2' b3' b4' b5' b6' kn' fl' hd' : Int32} {ot' : Nat → Int64} {x1 k r : Int32}
    (hI : lw_I tx cs rl fa1 la1 va1 mn1 fa2 la2 va2 mn2 fa3 la3 va3 mn3 b1 b2 b3 b4 b5 b6 ln lo kn rn fs lt kk mk mf ml ma il sz tt) (hp : (k, rl', b1', b2', b3', b4', b5', b6', kn', ot') = mm_hRule x1 tx cs rl fa2 la2 va2 mn2 fa3 la3 va3 mn3 b1 b2 b3 b4 b5 b6 ln lo kn ot) (hq : (r, fl', hd') = mm_mRule x1 fl rn fs lt kk mk mf ml ma il sz tt hd) :
    mm_mThrown fl' = k ∧ (k = 0 → lg_cmp (ot' (0 : Int32).toNatClampNeg) r.toInt64 = 0) ∧ lw_I tx cs rl' fa1 la1 va1 mn1 fa2 la2 va2 mn2 fa3 la3 va3 mn3 b1' b2' b3' b4' b5' b6' ln lo kn' rn fs lt kk mk mf ml ma il sz tt := by
  obtain ⟨n, rfl, rfl, hG, hJ, hN⟩ := pe_split hI
  by_cases hpl : mm_isPlace x1 (nI n) = 0
  · have hp' : (k, rl', b1', b2', b3', b4', b5', b6', kn', ot') = (1, rl, b1, b2, b3, b4, b5, b6, kn, ot) := by
      rw [hp]
      unfold mm_hRule mm_rule
      rw [if_pos hpl] <;> rfl
    have hq' : (r, fl', hd') = (0, 1, hd) := by
      rw [hq]
      unfold mm_mRule
      exact if_pos hpl
    cases hp'
    cases hq'
    exact ⟨rfl, fun h => absurd h (by decide), hI⟩
  · obtain ⟨p, hple, rfl⟩ := pl_place hpl
    obtain ⟨rl2, c1, c2, c3, c4, c5, c6, kn2, e, hJ2⟩ := pl_rule hG.1 hple hJ
    have hp' : (k, rl', b1', b2', b3', b4', b5', b6', kn', ot') = (0, rl2, c1, c2, c3, c4, c5, c6, kn2, vp_updL ot (0 : Int32).toNatClampNeg (pl_r n tx cs fa2 la2 va2 mn2 fa3 la3 va3 mn3 lo p).toInt64) := by
      rw [hp]
      unfold mm_hRule mm_rule
      rw [if_neg hpl, e] <;> rfl
    have hq' : (r, fl', hd') = (pl_r n tx cs fa2 la2 va2 mn2 fa3 la3 va3 mn3 lo p, 0, pl_b n tx cs fa2 la2 va2 mn2 fa3 la3 va3 mn3 lo p) := by
      rw [hq]
      unfold mm_mRule
      rw [if_neg (show ¬ mm_mIsPlace (nI p) (nI n) = 0 from hpl), pl_lk hG hple] <;> rfl
    cases hp'
    cases hq'
    exact ⟨rfl, fun _ => pl_out, hN _ _ _ _ _ _ _ _ hJ2⟩

set_option maxHeartbeats 2000000 in
theorem pe_Next {tx cs rl fa1 la1 va1 : Nat → Int32} {mn1 : Int32} {fa2 la2 va2 : Nat → Int32} {mn2 : Int32} {fa3 la3 va3 : Nat → Int32} {mn3 b1 b2 b3 b4 b5 b6 ln lo kn fl rn : Int32} {fs lt kk mk mf ml ma : Nat → Int32} {il sz : Int32} {tt : Nat → Int32} {hd : Int32} {ot : Nat → Int64} {rl' : Nat → Int32} {b1' b2' b3' b4' b5' b6' kn' fl' hd' : Int32} {ot' : Nat → Int64} {x1 k r : Int32}
    (hI : lw_I tx cs rl fa1 la1 va1 mn1 fa2 la2 va2 mn2 fa3 la3 va3 mn3 b1 b2 b3 b4 b5 b6 ln lo kn rn fs lt kk mk mf ml ma il sz tt) (hp : (k, rl', b1', b2', b3', b4', b5', b6', kn', ot') = mm_hNext x1 tx cs rl fa2 la2 va2 mn2 fa3 la3 va3 mn3 b1 b2 b3 b4 b5 b6 ln lo kn ot) (hq : (r, fl', hd') = mm_mNext x1 fl rn fs lt kk mk mf ml ma il sz tt hd) :
    mm_mThrown fl' = k ∧ (k = 0 → lg_cmp (ot' (0 : Int32).toNatClampNeg) r.toInt64 = 0) ∧ lw_I tx cs rl' fa1 la1 va1 mn1 fa2 la2 va2 mn2 fa3 la3 va3 mn3 b1' b2' b3' b4' b5' b6' ln lo kn' rn fs lt kk mk mf ml ma il sz tt := by
  obtain ⟨n, rfl, rfl, hG, hJ, hN⟩ := pe_split hI
  by_cases hpl : mm_isPlace x1 (nI n) = 0
  · have hp' : (k, rl', b1', b2', b3', b4', b5', b6', kn', ot') = (1, rl, b1, b2, b3, b4, b5, b6, kn, ot) := by
      rw [hp]
      unfold mm_hNext mm_next
      rw [if_pos hpl] <;> rfl
    have hq' : (r, fl', hd') = (0, 1, hd) := by
      rw [hq]
      unfold mm_mNext
      exact if_pos hpl
    cases hp'
    cases hq'
    exact ⟨rfl, fun h => absurd h (by decide), hI⟩
  · obtain ⟨p, hple, rfl⟩ := pl_place hpl
    have hn := hG.1
    obtain ⟨v, rl2, c1, c2, c3, c4, c5, c6, kn2, hd2, e, e2, hJ2⟩ := pl_next (x1 := nI p) (fl := 0) hG 2002 (p + 1) rl b1 b2 b3 b4 b5 b6 kn hd (by omega) (by omega) hJ
    have hp' : (k, rl', b1', b2', b3', b4', b5', b6', kn', ot') = (0, rl2, c1, c2, c3, c4, c5, c6, kn2, vp_updL ot (0 : Int32).toNatClampNeg v.toInt64) := by
      rw [hp]
      unfold mm_hNext mm_next
      rw [if_neg hpl, nI_1, e] <;> rfl
    have hq' : (r, fl', hd') = (v, 0, hd2) := by
      rw [hq]
      unfold mm_mNext
      rw [if_neg (show ¬ mm_mIsPlace (nI p) (nI n) = 0 from hpl), nI_1, e2]
    cases hp'
    cases hq'
    exact ⟨rfl, fun _ => pl_out, hN _ _ _ _ _ _ _ _ hJ2⟩

set_option maxHeartbeats 2000000 in
theorem pe_Fit {tx cs rl fa1 la1 va1 : Nat → Int32} {mn1 : Int32} {fa2 la2 va2 : Nat → Int32} {mn2 : Int32} {fa3 la3 va3 : Nat → Int32} {mn3 b1 b2 b3 b4 b5 b6 ln lo kn fl rn : Int32} {fs lt kk mk mf ml ma : Nat → Int32} {il sz : Int32} {tt : Nat → Int32} {hd : Int32} {ot : Nat → Int64} {rl' : Nat → Int32} {b1' b2' b3' b4' b5' b6' kn' fl' hd' : Int32} {ot' : Nat → Int64} {x1 x2 k r : Int32}
    (hI : lw_I tx cs rl fa1 la1 va1 mn1 fa2 la2 va2 mn2 fa3 la3 va3 mn3 b1 b2 b3 b4 b5 b6 ln lo kn rn fs lt kk mk mf ml ma il sz tt) (hp : (k, rl', b1', b2', b3', b4', b5', b6', kn', ot') = mm_hFit x1 x2 tx cs rl fa2 la2 va2 mn2 fa3 la3 va3 mn3 b1 b2 b3 b4 b5 b6 ln lo kn ot) (hq : (r, fl', hd') = mm_mFit x1 x2 fl rn fs lt kk mk mf ml ma il sz tt hd) :
    mm_mThrown fl' = k ∧ (k = 0 → lg_cmp (ot' (0 : Int32).toNatClampNeg) r.toInt64 = 0) ∧ lw_I tx cs rl' fa1 la1 va1 mn1 fa2 la2 va2 mn2 fa3 la3 va3 mn3 b1' b2' b3' b4' b5' b6' ln lo kn' rn fs lt kk mk mf ml ma il sz tt := by
  obtain ⟨n, rfl, rfl, hG, hJ, hN⟩ := pe_split hI
  have hn := hG.1
  by_cases hpl : mm_isPlace x1 (nI n) = 0
  · have hp' : (k, rl', b1', b2', b3', b4', b5', b6', kn', ot') = (1, rl, b1, b2, b3, b4, b5, b6, kn, ot) := by
      rw [hp]
      unfold mm_hFit mm_fit
      rw [if_pos hpl] <;> rfl
    have hq' : (r, fl', hd') = (0, 1, hd) := by
      rw [hq]
      unfold mm_mFit
      exact if_pos hpl
    cases hp'
    cases hq'
    exact ⟨rfl, fun h => absurd h (by decide), hI⟩
  · by_cases hw1 : x2 < 1 ∨ ¬ x2 ≤ 2000
    · have ec : mm_fit x1 x2 tx cs rl fa2 la2 va2 mn2 fa3 la3 va3 mn3 b1 b2 b3 b4 b5 b6 (nI n) lo kn = (1, 0, rl, b1, b2, b3, b4, b5, b6, kn) := by
        unfold mm_fit
        rw [if_neg hpl]
        by_cases hw2 : x2 < 1
        · rw [if_pos hw2]
        · rw [if_neg hw2, if_neg (hw1.resolve_left hw2)]
      have hp' : (k, rl', b1', b2', b3', b4', b5', b6', kn', ot') = (2, rl, b1, b2, b3, b4, b5, b6, kn, ot) := by
        rw [hp]
        unfold mm_hFit
        rw [ec] <;> rfl
      have hq' : (r, fl', hd') = (0, 2, hd) := by
        rw [hq]
        unfold mm_mFit
        rw [if_neg (show ¬ mm_mIsPlace x1 (nI n) = 0 from hpl)]
        by_cases hw2 : x2 < 1
        · rw [if_pos hw2]
        · rw [if_neg hw2, if_neg (hw1.resolve_left hw2)]
      cases hp'
      cases hq'
      exact ⟨rfl, fun h => absurd h (by decide), hI⟩
    · have hw2 : ¬ x2 < 1 := fun h => hw1 (Or.inl h)
      have hw3 : x2 ≤ 2000 := Decidable.of_not_not (fun h => hw1 (Or.inr h))
      have hw4 : ¬ x2 < 0 := fun h => hw2 (gn_lt.mpr (by
        have h2 := gn_lt.mp h
        have e0 : (0 : Int32).toInt = 0 := rfl
        have e1 : (1 : Int32).toInt = 1 := rfl
        omega))
      obtain ⟨w, hw, rfl⟩ := nI_of2 (M := 2000) (n := 2000) rfl hw4 hw3
      obtain ⟨p, hple, rfl⟩ := pl_place hpl
      by_cases hend : nI p = nI n
      · have hpn : p = n := (nI_eq (by omega) (by omega)).mp hend
        have ec : mm_fit (nI p) (nI w) tx cs rl fa2 la2 va2 mn2 fa3 la3 va3 mn3 b1 b2 b3 b4 b5 b6 (nI n) lo kn = (0, 0, rl, b1, b2, b3, b4, b5, b6, kn) := by
          unfold mm_fit
          rw [if_neg hpl, if_neg hw2, if_pos hw3, if_pos hend, nI_1, mm_fit_62, if_pos (nI_lt (by omega) (by omega))]
        have hp' : (k, rl', b1', b2', b3', b4', b5', b6', kn', ot') = (0, rl, b1, b2, b3, b4, b5, b6, kn, vp_updL ot (0 : Int32).toNatClampNeg (0 : Int32).toInt64) := by
          rw [hp]
          unfold mm_hFit
          rw [ec] <;> rfl
        have hq' : (r, fl', hd') = (0, 0, hd) := by
          rw [hq]
          unfold mm_mFit
          rw [if_neg (show ¬ mm_mIsPlace (nI p) (nI n) = 0 from hpl), if_neg hw2, if_pos hw3, if_pos hend]
        cases hp'
        cases hq'
        exact ⟨rfl, fun _ => pl_out, hI⟩
      · obtain ⟨v, rl2, c1, c2, c3, c4, c5, c6, kn2, hd2, e, e2, hJ2⟩ := pl_fit (p := p) (w := w) (fl := 0) hG hw 2002 0 rl b1 b2 b3 b4 b5 b6 kn (nI w) (-1) 0 (by omega) (by omega) (by decide) (if_neg (by decide)).symm hJ
        have ec : mm_fit (nI p) (nI w) tx cs rl fa2 la2 va2 mn2 fa3 la3 va3 mn3 b1 b2 b3 b4 b5 b6 (nI n) lo kn = (0, v, rl2, c1, c2, c3, c4, c5, c6, kn2) := by
          unfold mm_fit
          rw [if_neg hpl, if_neg hw2, if_pos hw3, if_neg hend, nI_1]
          exact e
        have hp' : (k, rl', b1', b2', b3', b4', b5', b6', kn', ot') = (0, rl2, c1, c2, c3, c4, c5, c6, kn2, vp_updL ot (0 : Int32).toNatClampNeg v.toInt64) := by
          rw [hp]
          unfold mm_hFit
          rw [ec] <;> rfl
        have hq' : (r, fl', hd') = (v, 0, hd2) := by
          rw [hq]
          unfold mm_mFit
          rw [if_neg (show ¬ mm_mIsPlace (nI p) (nI n) = 0 from hpl), if_neg hw2, if_pos hw3, if_neg hend, nI_1]
          exact e2
        cases hp'
        cases hq'
        exact ⟨rfl, fun _ => pl_out, hN _ _ _ _ _ _ _ _ hJ2⟩

set_option maxHeartbeats 2000000 in
theorem pe_Count {tx cs rl fa1 la1 va1 : Nat → Int32} {mn1 : Int32} {fa2 la2 va2 : Nat → Int32} {mn2 : Int32} {fa3 la3 va3 : Nat → Int32} {mn3 b1 b2 b3 b4 b5 b6 ln lo kn fl rn : Int32} {fs lt kk mk mf ml ma : Nat → Int32} {il sz : Int32} {tt : Nat → Int32} {hd : Int32} {rl' : Nat → Int32} {b1' b2' b3' b4' b5' b6' kn' fl' hd' x1 k r : Int32}
    (hI : lw_I tx cs rl fa1 la1 va1 mn1 fa2 la2 va2 mn2 fa3 la3 va3 mn3 b1 b2 b3 b4 b5 b6 ln lo kn rn fs lt kk mk mf ml ma il sz tt) (hp : (k, rl', b1', b2', b3', b4', b5', b6', kn') = mm_count x1 tx cs rl fa2 la2 va2 mn2 fa3 la3 va3 mn3 b1 b2 b3 b4 b5 b6 ln lo kn) (hq : (r, fl', hd') = mm_mCount x1 fl rn fs lt kk mk mf ml ma il sz tt hd) :
    k = r ∧ lw_I tx cs rl' fa1 la1 va1 mn1 fa2 la2 va2 mn2 fa3 la3 va3 mn3 b1' b2' b3' b4' b5' b6' ln lo kn' rn fs lt kk mk mf ml ma il sz tt := by
  obtain ⟨n, rfl, rfl, hG, hJ, hN⟩ := pe_split hI
  have hn := hG.1
  by_cases h0 : x1 = 0
  · subst h0
    have hp' : (k, rl', b1', b2', b3', b4', b5', b6', kn') = (nI n, rl, b1, b2, b3, b4, b5, b6, kn) := by
      rw [hp]
      unfold mm_count
      exact if_pos rfl
    have hq' : (r, fl', hd') = (nI n, 0, hd) := by
      rw [hq]
      unfold mm_mCount
      rw [if_neg (by decide), if_pos (by decide), mm_mCount_20, if_neg (nI_pos (by omega)), if_pos (by decide)]
      exact if_pos rfl
    cases hp'
    cases hq'
    exact ⟨rfl, hI⟩
  · by_cases h12 : x1 = 1 ∨ x1 = 2
    · have hle : ¬ x1 ≤ 0 := by rcases h12 with rfl | rfl <;> decide
      obtain ⟨v, rl2, c1, c2, c3, c4, c5, c6, kn2, hd2, e, e2, hJ2⟩ := pl_count (x1 := x1) (fl := 0) hG hle h0 2002 0 rl b1 b2 b3 b4 b5 b6 kn 0 hd (by omega) (by omega) hJ
      rw [nI_0] at e e2
      have hp' : (k, rl', b1', b2', b3', b4', b5', b6', kn') = (v, rl2, c1, c2, c3, c4, c5, c6, kn2) := by
        rw [hp, ← e]
        unfold mm_count
        rw [if_neg h0]
        rcases h12 with h | h
        · rw [if_pos h]
        · by_cases h1 : x1 = 1
          · rw [if_pos h1]
          · rw [if_neg h1, if_pos h]
      have hq' : (r, fl', hd') = (v, 0, hd2) := by
        rw [hq, ← e2]
        unfold mm_mCount
        rw [if_neg (by rcases h12 with rfl | rfl <;> decide), if_pos (by rcases h12 with rfl | rfl <;> decide)]
      cases hp'
      cases hq'
      exact ⟨rfl, hN _ _ _ _ _ _ _ _ hJ2⟩
    · have hp' : (k, rl', b1', b2', b3', b4', b5', b6', kn') = (-1, rl, b1, b2, b3, b4, b5, b6, kn) := by
        rw [hp]
        unfold mm_count
        rw [if_neg h0, if_neg (fun h => h12 (Or.inl h)), if_neg (fun h => h12 (Or.inr h))]
      have hq' : (r, fl', hd') = (-1, 0, hd) := by
        rw [hq]
        unfold mm_mCount
        by_cases hx : x1 < 0
        · rw [if_pos hx]
        · rw [if_neg hx]
          by_cases hx2 : x1 ≤ 2
          · obtain ⟨j, hj, e⟩ := nI_of2 (M := 2) (n := 2) rfl hx hx2
            exfalso
            rcases (show j = 0 ∨ j = 1 ∨ j = 2 by omega) with rfl | rfl | rfl
            · exact h0 (e.trans nI_0)
            · exact h12 (Or.inl e)
            · exact h12 (Or.inr e)
          · rw [if_neg hx2]
      cases hp'
      cases hq'
      exact ⟨rfl, hI⟩
