set_option maxHeartbeats 2000000 in
theorem pe_Property {tx cs rl fa1 la1 va1 : Nat → Int32} {mn1 : Int32} {fa2 la2 va2 : Nat → Int32} {mn2 : Int32} {fa3 la3 va3 : Nat → Int32} {mn3 b1 b2 b3 b4 b5 b6 ln lo kn fl rn : Int32} {fs lt kk mk mf ml ma : Nat → Int32} {il sz : Int32} {tt cs' fa1' la1' va1' : Nat → Int32} {mn1' b1' b2' b3' b4' b5' b6' kn' fl' rn' : Int32} {fs' lt' kk' : Nat → Int32} {x1 x2 x3 k : Int32}
    (hI : lw_I tx cs rl fa1 la1 va1 mn1 fa2 la2 va2 mn2 fa3 la3 va3 mn3 b1 b2 b3 b4 b5 b6 ln lo kn rn fs lt kk mk mf ml ma il sz tt) (hp : (k, cs', fa1', la1', va1', mn1', b1', b2', b3', b4', b5', b6', kn') = mm_hProperty x1 x2 x3 tx cs fa1 la1 va1 mn1 b1 b2 b3 b4 b5 b6 ln kn) (hq : (fl', rn', fs', lt', kk') = mm_mProperty x1 x2 x3 fl rn fs lt kk) :
    mm_mThrown fl' = k ∧ lw_I tx cs' rl fa1' la1' va1' mn1' fa2 la2 va2 mn2 fa3 la3 va3 mn3 b1' b2' b3' b4' b5' b6' ln lo kn' rn' fs' lt' kk' mk mf ml ma il sz tt := by
  sorry

set_option maxHeartbeats 2000000 in
theorem pe_Mark {tx cs rl fa1 la1 va1 : Nat → Int32} {mn1 : Int32} {fa2 la2 va2 : Nat → Int32} {mn2 : Int32} {fa3 la3 va3 : Nat → Int32} {mn3 b1 b2 b3 b4 b5 b6 ln lo kn fl rn : Int32} {fs lt kk mk mf ml ma : Nat → Int32} {il sz : Int32} {tt fa2' la2' va2' : Nat → Int32} {mn2' : Int32} {fa3' la3' va3' : Nat → Int32} {mn3' b1' b2' b3' b4' b5' b6' kn' fl' : Int32} {mk' mf' ml' ma' : Nat → Int32} {x1 x2 x3 x4 k : Int32} (hx4 : x4 = 0 ∨ x4 = 1)
    (hI : lw_I tx cs rl fa1 la1 va1 mn1 fa2 la2 va2 mn2 fa3 la3 va3 mn3 b1 b2 b3 b4 b5 b6 ln lo kn rn fs lt kk mk mf ml ma il sz tt) (hp : (k, fa2', la2', va2', mn2', fa3', la3', va3', mn3', b1', b2', b3', b4', b5', b6', kn') = mm_hMark x1 x2 x3 x4 fa2 la2 va2 mn2 fa3 la3 va3 mn3 b1 b2 b3 b4 b5 b6 kn) (hq : (fl', mk', mf', ml', ma') = mm_mMark x1 x2 x3 x4 fl mk mf ml ma) :
    mm_mThrown fl' = k ∧ lw_I tx cs rl fa1 la1 va1 mn1 fa2' la2' va2' mn2' fa3' la3' va3' mn3' b1' b2' b3' b4' b5' b6' ln lo kn' rn fs lt kk mk' mf' ml' ma' il sz tt := by
  sorry

set_option maxHeartbeats 2000000 in
theorem pe_Loose {tx cs rl fa1 la1 va1 : Nat → Int32} {mn1 : Int32} {fa2 la2 va2 : Nat → Int32} {mn2 : Int32} {fa3 la3 va3 : Nat → Int32} {mn3 b1 b2 b3 b4 b5 b6 ln lo kn fl rn : Int32} {fs lt kk mk mf ml ma : Nat → Int32} {il sz : Int32} {tt : Nat → Int32} {b1' b2' b3' b4' b5' b6' lo' kn' fl' il' x1 k r : Int32} (hx1 : x1 = 0 ∨ x1 = 1)
    (hI : lw_I tx cs rl fa1 la1 va1 mn1 fa2 la2 va2 mn2 fa3 la3 va3 mn3 b1 b2 b3 b4 b5 b6 ln lo kn rn fs lt kk mk mf ml ma il sz tt) (hp : (k, b1', b2', b3', b4', b5', b6', lo', kn') = mm_loose x1 b1 b2 b3 b4 b5 b6 lo kn) (hq : (r, fl', il') = mm_mLoose x1 fl il) :
    k = r ∧ lw_I tx cs rl fa1 la1 va1 mn1 fa2 la2 va2 mn2 fa3 la3 va3 mn3 b1' b2' b3' b4' b5' b6' ln lo' kn' rn fs lt kk mk mf ml ma il' sz tt := by
  sorry

set_option maxHeartbeats 2000000 in
theorem pe_Add {tx cs rl gv fa1 la1 va1 : Nat → Int32} {mn1 : Int32} {fa2 la2 va2 : Nat → Int32} {mn2 : Int32} {fa3 la3 va3 : Nat → Int32} {mn3 b1 b2 b3 b4 b5 b6 ln lo kn fl rn : Int32} {fs lt kk mk mf ml ma : Nat → Int32} {il sz : Int32} {tt fh : Nat → Int32} {ot : Nat → Int64} {tx' cs' gv' : Nat → Int32} {b1' b2' b3' b4' b5' b6' ln' kn' fl' sz' : Int32} {tt' fh' : Nat → Int32} {ot' : Nat → Int64} {x1 x2 x3 x4 x5 k r : Int32}
    (hI : lw_I tx cs rl fa1 la1 va1 mn1 fa2 la2 va2 mn2 fa3 la3 va3 mn3 b1 b2 b3 b4 b5 b6 ln lo kn rn fs lt kk mk mf ml ma il sz tt) (hp : (k, tx', cs', gv', b1', b2', b3', b4', b5', b6', ln', kn', ot') = mm_hAdd x1 x2 x3 x4 x5 tx cs gv fa1 la1 va1 mn1 b1 b2 b3 b4 b5 b6 ln kn ot) (hq : (r, fl', sz', tt', fh') = mm_mAdd x1 x2 x3 x4 x5 fl sz tt fh) :
    mm_mThrown fl' = k ∧ (k = 0 → lg_cmp (ot' (0 : Int32).toNatClampNeg) r.toInt64 = 0) ∧ lw_I tx' cs' rl fa1 la1 va1 mn1 fa2 la2 va2 mn2 fa3 la3 va3 mn3 b1' b2' b3' b4' b5' b6' ln' lo kn' rn fs lt kk mk mf ml ma il sz' tt' := by
  sorry

set_option maxHeartbeats 2000000 in
theorem pe_Replace {tx cs rl gv fa1 la1 va1 : Nat → Int32} {mn1 : Int32} {fa2 la2 va2 : Nat → Int32} {mn2 : Int32} {fa3 la3 va3 : Nat → Int32} {mn3 b1 b2 b3 b4 b5 b6 ln lo kn fl rn : Int32} {fs lt kk mk mf ml ma : Nat → Int32} {il sz : Int32} {tt fh : Nat → Int32} {ot : Nat → Int64} {tx' cs' gv' : Nat → Int32} {b1' b2' b3' b4' b5' b6' ln' kn' fl' sz' : Int32} {tt' fh' : Nat → Int32} {ot' : Nat → Int64} {x1 x2 x3 x4 x5 k r : Int32}
    (hI : lw_I tx cs rl fa1 la1 va1 mn1 fa2 la2 va2 mn2 fa3 la3 va3 mn3 b1 b2 b3 b4 b5 b6 ln lo kn rn fs lt kk mk mf ml ma il sz tt) (hp : (k, tx', cs', gv', b1', b2', b3', b4', b5', b6', ln', kn', ot') = mm_hReplace x1 x2 x3 x4 x5 tx cs gv fa1 la1 va1 mn1 b1 b2 b3 b4 b5 b6 ln kn ot) (hq : (r, fl', sz', tt', fh') = mm_mReplace x1 x2 x3 x4 x5 fl sz tt fh) :
    mm_mThrown fl' = k ∧ (k = 0 → lg_cmp (ot' (0 : Int32).toNatClampNeg) r.toInt64 = 0) ∧ lw_I tx' cs' rl fa1 la1 va1 mn1 fa2 la2 va2 mn2 fa3 la3 va3 mn3 b1' b2' b3' b4' b5' b6' ln' lo kn' rn fs lt kk mk mf ml ma il sz' tt' := by
  sorry

set_option maxHeartbeats 2000000 in
theorem pe_Clear {tx cs rl fa1 la1 va1 : Nat → Int32} {mn1 : Int32} {fa2 la2 va2 : Nat → Int32} {mn2 : Int32} {fa3 la3 va3 : Nat → Int32} {mn3 b1 b2 b3 b4 b5 b6 ln lo kn fl rn : Int32} {fs lt kk mk mf ml ma : Nat → Int32} {il sz : Int32} {tt : Nat → Int32} {b1' b2' b3' b4' b5' b6' ln' kn' fl' sz' k r : Int32}
    (hI : lw_I tx cs rl fa1 la1 va1 mn1 fa2 la2 va2 mn2 fa3 la3 va3 mn3 b1 b2 b3 b4 b5 b6 ln lo kn rn fs lt kk mk mf ml ma il sz tt) (hp : (k, b1', b2', b3', b4', b5', b6', ln', kn') = mm_clear b1 b2 b3 b4 b5 b6 ln kn) (hq : (r, fl', sz') = mm_mClear fl sz) :
    k = r ∧ lw_I tx cs rl fa1 la1 va1 mn1 fa2 la2 va2 mn2 fa3 la3 va3 mn3 b1' b2' b3' b4' b5' b6' ln' lo kn' rn fs lt kk mk mf ml ma il sz' tt := by
  sorry

set_option maxHeartbeats 2000000 in
theorem pe_At {tx cs rl fa1 la1 va1 : Nat → Int32} {mn1 : Int32} {fa2 la2 va2 : Nat → Int32} {mn2 : Int32} {fa3 la3 va3 : Nat → Int32} {mn3 b1 b2 b3 b4 b5 b6 ln lo kn fl rn : Int32} {fs lt kk mk mf ml ma : Nat → Int32} {il sz : Int32} {tt : Nat → Int32} {ot : Nat → Int64} {fl' : Int32} {ot' : Nat → Int64} {x1 k r : Int32}
    (hI : lw_I tx cs rl fa1 la1 va1 mn1 fa2 la2 va2 mn2 fa3 la3 va3 mn3 b1 b2 b3 b4 b5 b6 ln lo kn rn fs lt kk mk mf ml ma il sz tt) (hp : (k, ot') = mm_hAt x1 tx ln ot) (hq : (r, fl') = mm_mAt x1 fl sz tt) :
    mm_mThrown fl' = k ∧ (k = 0 → lg_cmp (ot' (0 : Int32).toNatClampNeg) r.toInt64 = 0) ∧ lw_I tx cs rl fa1 la1 va1 mn1 fa2 la2 va2 mn2 fa3 la3 va3 mn3 b1 b2 b3 b4 b5 b6 ln lo kn rn fs lt kk mk mf ml ma il sz tt := by
  sorry

set_option maxHeartbeats 2000000 in
theorem pe_Kind {tx cs rl fa1 la1 va1 : Nat → Int32} {mn1 : Int32} {fa2 la2 va2 : Nat → Int32} {mn2 : Int32} {fa3 la3 va3 : Nat → Int32} {mn3 b1 b2 b3 b4 b5 b6 ln lo kn fl rn : Int32} {fs lt kk mk mf ml ma : Nat → Int32} {il sz : Int32} {tt : Nat → Int32} {ot : Nat → Int64} {fl' : Int32} {ot' : Nat → Int64} {x1 k r : Int32}
    (hI : lw_I tx cs rl fa1 la1 va1 mn1 fa2 la2 va2 mn2 fa3 la3 va3 mn3 b1 b2 b3 b4 b5 b6 ln lo kn rn fs lt kk mk mf ml ma il sz tt) (hp : (k, ot') = mm_hKind x1 cs ln lo ot) (hq : (r, fl') = mm_mKind x1 fl rn fs lt kk il sz tt) :
    mm_mThrown fl' = k ∧ (k = 0 → lg_cmp (ot' (0 : Int32).toNatClampNeg) r.toInt64 = 0) ∧ lw_I tx cs rl fa1 la1 va1 mn1 fa2 la2 va2 mn2 fa3 la3 va3 mn3 b1 b2 b3 b4 b5 b6 ln lo kn rn fs lt kk mk mf ml ma il sz tt := by
  sorry

set_option maxHeartbeats 2000000 in
theorem pe_Breaks {tx cs rl fa1 la1 va1 : Nat → Int32} {mn1 : Int32} {fa2 la2 va2 : Nat → Int32} {mn2 : Int32} {fa3 la3 va3 : Nat → Int32} {mn3 b1 b2 b3 b4 b5 b6 ln lo kn fl rn : Int32} {fs lt kk mk mf ml ma : Nat → Int32} {il sz : Int32} {tt : Nat → Int32} {hd : Int32} {ot : Nat → Int64} {rl' : Nat → Int32} {b1' b2' b3' b4' b5' b6' kn' fl' hd' : Int32} {ot' : Nat → Int64} {x1 k r : Int32}
    (hI : lw_I tx cs rl fa1 la1 va1 mn1 fa2 la2 va2 mn2 fa3 la3 va3 mn3 b1 b2 b3 b4 b5 b6 ln lo kn rn fs lt kk mk mf ml ma il sz tt) (hp : (k, rl', b1', b2', b3', b4', b5', b6', kn', ot') = mm_hBreaks x1 tx cs rl fa2 la2 va2 mn2 fa3 la3 va3 mn3 b1 b2 b3 b4 b5 b6 ln lo kn ot) (hq : (r, fl', hd') = mm_mBreaks x1 fl rn fs lt kk mk mf ml ma il sz tt hd) :
    mm_mThrown fl' = k ∧ (k = 0 → lg_cmp (ot' (0 : Int32).toNatClampNeg) r.toInt64 = 0) ∧ lw_I tx cs rl' fa1 la1 va1 mn1 fa2 la2 va2 mn2 fa3 la3 va3 mn3 b1' b2' b3' b4' b5' b6' ln lo kn' rn fs lt kk mk mf ml ma il sz tt := by
  sorry

set_option maxHeartbeats 2000000 in
theorem pe_Rule {tx cs rl fa1 la1 va1 : Nat → Int32} {mn1 : Int32} {fa2 la2 va2 : Nat → Int32} {mn2 : Int32} {fa3 la3 va3 : Nat → Int32} {mn3 b1 b2 b3 b4 b5 b6 ln lo kn fl rn : Int32} {fs lt kk mk mf ml ma : Nat → Int32} {il sz : Int32} {tt : Nat → Int32} {hd : Int32} {ot : Nat → Int64} {rl' : Nat → Int32} {b1' b2' b3' b4' b5' b6' kn' fl' hd' : Int32} {ot' : Nat → Int64} {x1 k r : Int32}
    (hI : lw_I tx cs rl fa1 la1 va1 mn1 fa2 la2 va2 mn2 fa3 la3 va3 mn3 b1 b2 b3 b4 b5 b6 ln lo kn rn fs lt kk mk mf ml ma il sz tt) (hp : (k, rl', b1', b2', b3', b4', b5', b6', kn', ot') = mm_hRule x1 tx cs rl fa2 la2 va2 mn2 fa3 la3 va3 mn3 b1 b2 b3 b4 b5 b6 ln lo kn ot) (hq : (r, fl', hd') = mm_mRule x1 fl rn fs lt kk mk mf ml ma il sz tt hd) :
    mm_mThrown fl' = k ∧ (k = 0 → lg_cmp (ot' (0 : Int32).toNatClampNeg) r.toInt64 = 0) ∧ lw_I tx cs rl' fa1 la1 va1 mn1 fa2 la2 va2 mn2 fa3 la3 va3 mn3 b1' b2' b3' b4' b5' b6' ln lo kn' rn fs lt kk mk mf ml ma il sz tt := by
  sorry

set_option maxHeartbeats 2000000 in
theorem pe_Next {tx cs rl fa1 la1 va1 : Nat → Int32} {mn1 : Int32} {fa2 la2 va2 : Nat → Int32} {mn2 : Int32} {fa3 la3 va3 : Nat → Int32} {mn3 b1 b2 b3 b4 b5 b6 ln lo kn fl rn : Int32} {fs lt kk mk mf ml ma : Nat → Int32} {il sz : Int32} {tt : Nat → Int32} {hd : Int32} {ot : Nat → Int64} {rl' : Nat → Int32} {b1' b2' b3' b4' b5' b6' kn' fl' hd' : Int32} {ot' : Nat → Int64} {x1 k r : Int32}
    (hI : lw_I tx cs rl fa1 la1 va1 mn1 fa2 la2 va2 mn2 fa3 la3 va3 mn3 b1 b2 b3 b4 b5 b6 ln lo kn rn fs lt kk mk mf ml ma il sz tt) (hp : (k, rl', b1', b2', b3', b4', b5', b6', kn', ot') = mm_hNext x1 tx cs rl fa2 la2 va2 mn2 fa3 la3 va3 mn3 b1 b2 b3 b4 b5 b6 ln lo kn ot) (hq : (r, fl', hd') = mm_mNext x1 fl rn fs lt kk mk mf ml ma il sz tt hd) :
    mm_mThrown fl' = k ∧ (k = 0 → lg_cmp (ot' (0 : Int32).toNatClampNeg) r.toInt64 = 0) ∧ lw_I tx cs rl' fa1 la1 va1 mn1 fa2 la2 va2 mn2 fa3 la3 va3 mn3 b1' b2' b3' b4' b5' b6' ln lo kn' rn fs lt kk mk mf ml ma il sz tt := by
  sorry

set_option maxHeartbeats 2000000 in
theorem pe_Fit {tx cs rl fa1 la1 va1 : Nat → Int32} {mn1 : Int32} {fa2 la2 va2 : Nat → Int32} {mn2 : Int32} {fa3 la3 va3 : Nat → Int32} {mn3 b1 b2 b3 b4 b5 b6 ln lo kn fl rn : Int32} {fs lt kk mk mf ml ma : Nat → Int32} {il sz : Int32} {tt : Nat → Int32} {hd : Int32} {ot : Nat → Int64} {rl' : Nat → Int32} {b1' b2' b3' b4' b5' b6' kn' fl' hd' : Int32} {ot' : Nat → Int64} {x1 x2 k r : Int32}
    (hI : lw_I tx cs rl fa1 la1 va1 mn1 fa2 la2 va2 mn2 fa3 la3 va3 mn3 b1 b2 b3 b4 b5 b6 ln lo kn rn fs lt kk mk mf ml ma il sz tt) (hp : (k, rl', b1', b2', b3', b4', b5', b6', kn', ot') = mm_hFit x1 x2 tx cs rl fa2 la2 va2 mn2 fa3 la3 va3 mn3 b1 b2 b3 b4 b5 b6 ln lo kn ot) (hq : (r, fl', hd') = mm_mFit x1 x2 fl rn fs lt kk mk mf ml ma il sz tt hd) :
    mm_mThrown fl' = k ∧ (k = 0 → lg_cmp (ot' (0 : Int32).toNatClampNeg) r.toInt64 = 0) ∧ lw_I tx cs rl' fa1 la1 va1 mn1 fa2 la2 va2 mn2 fa3 la3 va3 mn3 b1' b2' b3' b4' b5' b6' ln lo kn' rn fs lt kk mk mf ml ma il sz tt := by
  sorry

set_option maxHeartbeats 2000000 in
theorem pe_Count {tx cs rl fa1 la1 va1 : Nat → Int32} {mn1 : Int32} {fa2 la2 va2 : Nat → Int32} {mn2 : Int32} {fa3 la3 va3 : Nat → Int32} {mn3 b1 b2 b3 b4 b5 b6 ln lo kn fl rn : Int32} {fs lt kk mk mf ml ma : Nat → Int32} {il sz : Int32} {tt : Nat → Int32} {hd : Int32} {rl' : Nat → Int32} {b1' b2' b3' b4' b5' b6' kn' fl' hd' x1 k r : Int32}
    (hI : lw_I tx cs rl fa1 la1 va1 mn1 fa2 la2 va2 mn2 fa3 la3 va3 mn3 b1 b2 b3 b4 b5 b6 ln lo kn rn fs lt kk mk mf ml ma il sz tt) (hp : (k, rl', b1', b2', b3', b4', b5', b6', kn') = mm_count x1 tx cs rl fa2 la2 va2 mn2 fa3 la3 va3 mn3 b1 b2 b3 b4 b5 b6 ln lo kn) (hq : (r, fl', hd') = mm_mCount x1 fl rn fs lt kk mk mf ml ma il sz tt hd) :
    k = r ∧ lw_I tx cs rl' fa1 la1 va1 mn1 fa2 la2 va2 mn2 fa3 la3 va3 mn3 b1' b2' b3' b4' b5' b6' ln lo kn' rn fs lt kk mk mf ml ma il sz tt := by
  sorry
