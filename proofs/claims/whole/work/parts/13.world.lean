-- the worlds: one block of ranges, what stands before a place, the whole object
abbrev gk_T (cI : ClassId) (cL : ClassId × ClassId) : List (ClassId × FieldType) := [(cI, .int), (cL.1, .long), (cL.2, .boolean)]
def wd_R (cI : ClassId) (N a0 a1 a2 a3 : Nat) (fa la va : Nat → Int32) (mn : Int32) : va_W := [(a0, .inr (1, [.ref a1, .ref a2, .ref a3, .int mn])), (a1, .inl (cI, N, .inl fa)), (a2, .inl (cI, N, .inl la)), (a3, .inl (cI, N, .inl va))]
def wd_B (a0 : Nat) (b1 b2 b3 b4 b5 b6 : Int32) : va_W := [(a0, .inr (2, [.int b1, .int b2, .int b3, .int b4, .int b5, .int b6]))]
def wd_P (cI : ClassId) (h : Nat → Nat) (tx cs rl gv fa1 la1 va1 : Nat → Int32) (mn1 : Int32) (fa2 la2 va2 : Nat → Int32) (mn2 : Int32) (fa3 la3 va3 : Nat → Int32) (mn3 b1 b2 b3 b4 b5 b6 ln lo kn : Int32) : va_W :=
  [(h 0, .inr (0, [.ref (h 1), .ref (h 2), .ref (h 3), .ref (h 4), .ref (h 5), .ref (h 9), .ref (h 13), .ref (h 17), .int ln, .int lo, .int kn])),
   (h 1, .inl (cI, 2000, .inl tx)), (h 2, .inl (cI, 2000, .inl cs)), (h 3, .inl (cI, 2000, .inl rl)), (h 4, .inl (cI, 5, .inl gv)),
   (h 5, .inr (1, [.ref (h 6), .ref (h 7), .ref (h 8), .int mn1])), (h 6, .inl (cI, 100, .inl fa1)), (h 7, .inl (cI, 100, .inl la1)), (h 8, .inl (cI, 100, .inl va1)),
   (h 9, .inr (1, [.ref (h 10), .ref (h 11), .ref (h 12), .int mn2])), (h 10, .inl (cI, 40, .inl fa2)), (h 11, .inl (cI, 40, .inl la2)), (h 12, .inl (cI, 40, .inl va2)),
   (h 13, .inr (1, [.ref (h 14), .ref (h 15), .ref (h 16), .int mn3])), (h 14, .inl (cI, 40, .inl fa3)), (h 15, .inl (cI, 40, .inl la3)), (h 16, .inl (cI, 40, .inl va3)),
   (h 17, .inr (2, [.int b1, .int b2, .int b3, .int b4, .int b5, .int b6]))]
def wd_M (cI : ClassId) (cL : ClassId × ClassId) (g : Nat → Nat) (fl rn : Int32) (fs lt kk mk mf ml ma : Nat → Int32) (il sz : Int32) (tt fh : Nat → Int32) (hd : Int32) : va_W :=
  [(g 0, .inr (3, [.int fl, .int rn, .ref (g 1), .ref (g 2), .ref (g 3), .ref (g 4), .ref (g 5), .ref (g 6), .ref (g 7), .int il, .int sz, .ref (g 8), .ref (g 9), .int hd])),
   (g 1, .inl (cI, 100, .inl fs)), (g 2, .inl (cI, 100, .inl lt)), (g 3, .inl (cI, 100, .inl kk)), (g 4, .inl (cI, 2, .inl mk)), (g 5, .inl (cI, 80, .inl mf)), (g 6, .inl (cI, 80, .inl ml)), (g 7, .inl (cL.2, 80, .inl ma)), (g 8, .inl (cI, 2000, .inl tt)), (g 9, .inl (cI, 5, .inl fh))]
