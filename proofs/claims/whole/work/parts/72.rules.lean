-- the rules of a place, both sides as one row of rules: the first that isn't 0
-- the reference's trees
def pm_65 (b : Int32) : Int32 := if b = 15 then 130 else (if b = 16 then 130 else (if b = 17 then 130 else (if b = 22 then 130 else (if b = 26 then 130 else 0))))
def pm_G (a b : Int32) : Int32 := if a = 6 then 110 else (if b = 6 then 110 else (if a = 9 then 120 else (if b = 9 then (if a = 4 then (pm_65 b) else (if a = 11 then (pm_65 b) else (if a = 13 then (pm_65 b) else 121))) else (pm_65 b))))
def pm_178 (f b : Int32) : Int32 := if f = 10 then (if b = 10 then 170 else 0) else 0
def pm_163 (f b : Int32) : Int32 := if b = 19 then 160 else (pm_178 f b)
def pm_149 (f b : Int32) : Int32 := if f = 15 then (pm_163 f b) else (if f = 16 then (pm_163 f b) else (pm_178 f b))
def pm_A (f b : Int32) : Int32 := if f = 20 then 140 else (if f = 21 then (if b = 20 then 150 else (pm_149 f b)) else (pm_149 f b))
def pm_1 (a b : Int32) : Int32 := if a = 4 then 180 else (if a = 21 then 190 else (if b = 21 then 190 else (if a = 14 then 200 else (if b = 14 then 200 else 0))))
def pm_91 (b : Int32) : Int32 := if b = 18 then 220 else 0
def pm_70 (a b : Int32) : Int32 := if a = 26 then (if b = 28 then 212 else (pm_91 b)) else (pm_91 b)
def pm_45 (a b z : Int32) : Int32 := if z = 28 then 211 else (pm_70 a b)
def pm_2 (a b z : Int32) : Int32 := if b = 11 then 210 else (if b = 13 then 210 else (if b = 19 then 210 else (if a = 12 then 210 else (if a = 13 then (pm_45 a b z) else (if a = 11 then (pm_45 a b z) else (pm_70 a b))))))
def pm_253 (a b : Int32) : Int32 := if (mm_mIsLetter a) = 0 then 0 else (if b = 25 then 240 else (if b = 24 then 240 else 0))
def pm_239 (a b y : Int32) : Int32 := if y = 0 then (pm_253 a b) else (if (mm_mIsLetter b) = 0 then (pm_253 a b) else 240)
def pm_222 (a b : Int32) : Int32 := if a = 25 then (pm_239 a b 1) else (if a = 24 then (pm_239 a b 1) else (pm_239 a b 0))
def pm_202 (a b y : Int32) : Int32 := if y = 0 then (pm_222 a b) else (if b = 24 then 231 else (pm_222 a b))
def pm_189 (a b x y : Int32) : Int32 := if a = 25 then (if x = 0 then (pm_202 a b y) else 231) else (pm_202 a b y)
def pm_164 (a b y : Int32) : Int32 := if a = 29 then (pm_189 a b y 1) else (if a = 30 then (pm_189 a b y 1) else (if a = 31 then (pm_189 a b y 1) else (pm_189 a b y 0)))
def pm_141 (a b : Int32) : Int32 := if b = 29 then (pm_164 a b 1) else (if b = 30 then (pm_164 a b 1) else (if b = 31 then (pm_164 a b 1) else (pm_164 a b 0)))
def pm_119 (a b : Int32) : Int32 := if a = 23 then (if (mm_mIsLetter b) = 0 then (pm_141 a b) else 230) else (pm_141 a b)
def pm_3 (a b : Int32) : Int32 := if (mm_mIsLetter a) = 0 then (pm_119 a b) else (if b = 23 then 230 else (pm_119 a b))
def pm_4 (a b : Int32) : Int32 := if (mm_mIsNumeric a b) = 0 then 0 else 250
def pm_97 (a b : Int32) : Int32 := if a = 22 then (if (mm_mIsLetter b) = 0 then 0 else 290) else 0
def pm_73 (a b : Int32) : Int32 := if (mm_mIsLetter a) = 0 then (pm_97 a b) else (if (mm_mIsLetter b) = 0 then (pm_97 a b) else 280)
def pm_50 (a b : Int32) : Int32 := if a = 25 then (if (mm_mIsHangul b) = 0 then (pm_73 a b) else 270) else (pm_73 a b)
def pm_5 (a b : Int32) : Int32 := if (mm_mIsSyllable a b) = 0 then (if (mm_mIsHangul a) = 0 then (pm_50 a b) else (if b = 24 then 270 else (pm_50 a b))) else 260
def pm_245 (a b w3 : Int32) : Int32 := if b = 31 then (if a = 30 then 302 else (if w3 = 0 then 310 else 302)) else 310
def pm_191 (a b x y w3 od : Int32) : Int32 := if x = 0 then (if y = 0 then (if a = 37 then (if b = 37 then (if od = 1 then 301 else (pm_245 a b w3)) else (pm_245 a b w3)) else (pm_245 a b w3)) else 300) else 300
def pm_154 (a b y w2 w3 od : Int32) : Int32 := if a = 16 then (if w2 = 0 then (if (mm_mIsLetter b) = 0 then (if b = 23 then (pm_191 a b y 1 w3 od) else (pm_191 a b y 0 w3 od)) else (pm_191 a b y 1 w3 od)) else (pm_191 a b y 0 w3 od)) else (pm_191 a b y 0 w3 od)
def pm_133 (a b w1 w2 w3 od : Int32) : Int32 := if b = 20 then (if w1 = 0 then (pm_154 a b 1 w2 w3 od) else (pm_154 a b 0 w2 w3 od)) else (pm_154 a b 0 w2 w3 od)
def pm_6 (a b w1 w2 w3 od : Int32) : Int32 := if (mm_mIsLetter a) = 0 then (if a = 23 then (pm_133 a b w1 w2 w3 od) else (pm_154 a b 0 w2 w3 od)) else (pm_133 a b w1 w2 w3 od)
section
variable {x1 x2 a b rn il sz hd : Int32} {fs lt kk mk mf ml ma tt : Nat → Int32} (l k : Int32)
theorem rm_200 {f : Int32} : mm_mMiddle_200 x1 a b rn fs lt kk il tt f hd = pk_w (pm_1 a b) hd l k := by
  unfold mm_mMiddle_200 pm_1
  simp only [pk_wi, pk_w180, pk_w190, pk_w200, pk_w0]
theorem rm_178 {f : Int32} : mm_mMiddle_178 x1 a b rn fs lt kk il tt f hd = pk_w (pk_or (pm_178 f b) (pm_1 a b)) hd l k := by
  unfold mm_mMiddle_178 pm_178
  simp only [pk_ori, pk_or170, pk_or0, pk_wi, pk_w170, rm_200 l k]
theorem rm_163 {f : Int32} : mm_mMiddle_163 x1 a b rn fs lt kk il tt f hd = pk_w (pk_or (pm_163 f b) (pm_1 a b)) hd l k := by
  unfold mm_mMiddle_163 pm_163
  simp only [pk_ori, pk_or160, pk_wi, pk_w160, rm_178 l k]
theorem rm_149 {f : Int32} : mm_mMiddle_149 x1 a b rn fs lt kk il tt f hd = pk_w (pk_or (pm_149 f b) (pm_1 a b)) hd l k := by
  unfold mm_mMiddle_149 pm_149
  simp only [pk_ori, pk_wi, rm_163 l k, rm_178 l k]
theorem rm_65 : mm_mMiddle_65 x1 a b rn fs lt kk il tt hd = pk_w (pk_or (pm_65 b) (pk_or (pm_A (mm_mBeforeSpaces x1 rn fs lt kk il tt) b) (pm_1 a b))) hd l k := by
  unfold mm_mMiddle_65 pm_65 pm_A
  simp only [pk_ori, pk_or130, pk_or140, pk_or150, pk_or0, pk_wi, pk_w130, pk_w140, pk_w150, rm_149 l k]
theorem rm_M : mm_mMiddle x1 a b rn fs lt kk il tt hd = pk_w (pk_or (pm_G a b) (pk_or (pm_A (mm_mBeforeSpaces x1 rn fs lt kk il tt) b) (pm_1 a b))) hd l k := by
  unfold mm_mMiddle pm_G
  simp only [pk_ori, pk_or110, pk_or120, pk_or121, pk_wi, pk_w110, pk_w120, pk_w121, rm_65 l k]
theorem rl_253 {x4 x5 x6 : Int32} : mm_mLate_253 x1 a b rn fs lt kk il tt x4 x5 x6 hd = pk_w (pm_253 a b) hd l k := by
  unfold mm_mLate_253 pm_253
  simp only [pk_wi, pk_w240, pk_w0]
theorem rl_239 {x4 x5 y : Int32} : mm_mLate_239 x1 a b rn fs lt kk il tt x4 x5 y hd = pk_w (pm_239 a b y) hd l k := by
  unfold mm_mLate_239 pm_239
  simp only [pk_wi, pk_w240, rl_253 l k]
theorem rl_222 {x4 x5 : Int32} : mm_mLate_222 x1 a b rn fs lt kk il tt x4 x5 hd = pk_w (pm_222 a b) hd l k := by
  unfold mm_mLate_222 mm_mLate_234 pm_222
  simp only [pk_wi, rl_239 l k]
theorem rl_202 {x4 x5 : Int32} : mm_mLate_202 x1 a b rn fs lt kk il tt x4 x5 hd = pk_w (pm_202 a b x5) hd l k := by
  unfold mm_mLate_202 pm_202
  simp only [pk_wi, pk_w231, rl_222 l k]
theorem rl_189 {x4 y : Int32} : mm_mLate_189 x1 a b rn fs lt kk il tt x4 y hd = pk_w (pm_189 a b x4 y) hd l k := by
  unfold mm_mLate_189 pm_189
  simp only [pk_wi, pk_w231, rl_202 l k]
theorem rl_164 {y : Int32} : mm_mLate_164 x1 a b rn fs lt kk il tt y hd = pk_w (pm_164 a b y) hd l k := by
  unfold mm_mLate_164 mm_mLate_184 pm_164
  simp only [pk_wi, rl_189 l k]
theorem rl_141 : mm_mLate_141 x1 a b rn fs lt kk il tt hd = pk_w (pm_141 a b) hd l k := by
  unfold mm_mLate_141 mm_mLate_159 pm_141
  simp only [pk_wi, rl_164 l k]
theorem rl_119 : mm_mLate_119 x1 a b rn fs lt kk il tt hd = pk_w (pm_119 a b) hd l k := by
  unfold mm_mLate_119 pm_119
  simp only [pk_wi, pk_w230, rl_141 l k]
theorem rl_91 : mm_mLate_91 x1 a b rn fs lt kk il tt hd = pk_w (pk_or (pm_91 b) (pm_3 a b)) hd l k := by
  unfold mm_mLate_91 pm_91 pm_3
  simp only [pk_ori, pk_or220, pk_or0, pk_wi, pk_w220, pk_w230, rl_119 l k]
theorem rl_70 : mm_mLate_70 x1 a b rn fs lt kk il tt hd = pk_w (pk_or (pm_70 a b) (pm_3 a b)) hd l k := by
  unfold mm_mLate_70 pm_70
  simp only [pk_ori, pk_or212, pk_wi, pk_w212, rl_91 l k]
theorem rl_45 : mm_mLate_45 x1 a b rn fs lt kk il tt hd = pk_w (pk_or (pm_45 a b (mm_mBaseClass (mm_mBase (x1 - 1) rn fs lt kk il tt) rn fs lt kk il tt)) (pm_3 a b)) hd l k := by
  unfold mm_mLate_45 pm_45
  simp only [pk_ori, pk_or211, pk_wi, pk_w211, rl_70 l k]
theorem rl_L : mm_mLate x1 a b rn fs lt kk il tt hd = pk_w (pk_or (pm_2 a b (mm_mBaseClass (mm_mBase (x1 - 1) rn fs lt kk il tt) rn fs lt kk il tt)) (pm_3 a b)) hd l k := by
  unfold mm_mLate pm_2
  simp only [pk_ori, pk_or210, pk_wi, pk_w210, rl_45 l k, rl_70 l k]
theorem ra_245 {x5 x6 : Int32} : mm_mLast_245 x1 x2 a b rn fs lt kk mk mf ml ma il tt x5 x6 hd = pk_w (pm_245 a b (mm_mIsMarked x2 1 mk mf ml ma tt)) hd l k := by
  unfold mm_mLast_245 pm_245
  simp only [pk_wi, pk_w302, pk_w310]
theorem ra_191 {x5 y : Int32} : mm_mLast_191 x1 x2 a b rn fs lt kk mk mf ml ma il tt x5 y hd = pk_w (pm_191 a b x5 y (mm_mIsMarked x2 1 mk mf ml ma tt) ((mm_mFlags x2 rn fs lt kk il tt) - (mm_mFlags x2 rn fs lt kk il tt) / 2 * 2)) hd l k := by
  unfold mm_mLast_191 pm_191
  simp only [pk_wi, pk_w300, pk_w301, ra_245 l k]
theorem ra_154 {y : Int32} : mm_mLast_154 x1 x2 a b rn fs lt kk mk mf ml ma il tt y hd = pk_w (pm_154 a b y (mm_mIsMarked x2 0 mk mf ml ma tt) (mm_mIsMarked x2 1 mk mf ml ma tt) ((mm_mFlags x2 rn fs lt kk il tt) - (mm_mFlags x2 rn fs lt kk il tt) / 2 * 2)) hd l k := by
  unfold mm_mLast_154 mm_mLast_186 mm_mLast_190 pm_154
  simp only [pk_wi, ra_191 l k]
theorem ra_133 : mm_mLast_133 x1 x2 a b rn fs lt kk mk mf ml ma il tt hd = pk_w (pm_133 a b (mm_mIsMarked x1 0 mk mf ml ma tt) (mm_mIsMarked x2 0 mk mf ml ma tt) (mm_mIsMarked x2 1 mk mf ml ma tt) ((mm_mFlags x2 rn fs lt kk il tt) - (mm_mFlags x2 rn fs lt kk il tt) / 2 * 2)) hd l k := by
  unfold mm_mLast_133 mm_mLast_153 pm_133
  simp only [pk_wi, ra_154 l k]
theorem ra_120 : mm_mLast_120 x1 x2 a b rn fs lt kk mk mf ml ma il tt hd = pk_w (pm_6 a b (mm_mIsMarked x1 0 mk mf ml ma tt) (mm_mIsMarked x2 0 mk mf ml ma tt) (mm_mIsMarked x2 1 mk mf ml ma tt) ((mm_mFlags x2 rn fs lt kk il tt) - (mm_mFlags x2 rn fs lt kk il tt) / 2 * 2)) hd l k := by
  unfold mm_mLast_120 mm_mLast_153 pm_6
  simp only [pk_wi, ra_133 l k, ra_154 l k]
theorem ra_97 : mm_mLast_97 x1 x2 a b rn fs lt kk mk mf ml ma il tt hd = pk_w (pk_or (pm_97 a b) (pm_6 a b (mm_mIsMarked x1 0 mk mf ml ma tt) (mm_mIsMarked x2 0 mk mf ml ma tt) (mm_mIsMarked x2 1 mk mf ml ma tt) ((mm_mFlags x2 rn fs lt kk il tt) - (mm_mFlags x2 rn fs lt kk il tt) / 2 * 2))) hd l k := by
  unfold mm_mLast_97 pm_97
  simp only [pk_ori, pk_or0, pk_or290, pk_wi, pk_w290, ra_120 l k]
theorem ra_73 : mm_mLast_73 x1 x2 a b rn fs lt kk mk mf ml ma il tt hd = pk_w (pk_or (pm_73 a b) (pm_6 a b (mm_mIsMarked x1 0 mk mf ml ma tt) (mm_mIsMarked x2 0 mk mf ml ma tt) (mm_mIsMarked x2 1 mk mf ml ma tt) ((mm_mFlags x2 rn fs lt kk il tt) - (mm_mFlags x2 rn fs lt kk il tt) / 2 * 2))) hd l k := by
  unfold mm_mLast_73 pm_73
  simp only [pk_ori, pk_or280, pk_wi, pk_w280, ra_97 l k]
theorem ra_50 : mm_mLast_50 x1 x2 a b rn fs lt kk mk mf ml ma il tt hd = pk_w (pk_or (pm_50 a b) (pm_6 a b (mm_mIsMarked x1 0 mk mf ml ma tt) (mm_mIsMarked x2 0 mk mf ml ma tt) (mm_mIsMarked x2 1 mk mf ml ma tt) ((mm_mFlags x2 rn fs lt kk il tt) - (mm_mFlags x2 rn fs lt kk il tt) / 2 * 2))) hd l k := by
  unfold mm_mLast_50 pm_50
  simp only [pk_ori, pk_or270, pk_wi, pk_w270, ra_73 l k]
theorem ra_L : mm_mLast x1 x2 a b rn fs lt kk mk mf ml ma il tt hd = pk_w (pk_or (pm_4 a b) (pk_or (pm_5 a b) (pm_6 a b (mm_mIsMarked x1 0 mk mf ml ma tt) (mm_mIsMarked x2 0 mk mf ml ma tt) (mm_mIsMarked x2 1 mk mf ml ma tt) ((mm_mFlags x2 rn fs lt kk il tt) - (mm_mFlags x2 rn fs lt kk il tt) / 2 * 2)))) hd l k := by
  unfold mm_mLast pm_4 pm_5
  simp only [pk_ori, pk_or0, pk_or250, pk_or260, pk_or270, pk_wi, pk_w250, pk_w260, pk_w270, ra_50 l k]
end
-- the class's rules are those
theorem pc_G {a b : Int32} (ha : kc a) (hb : kc b) : mm_ruleOfGlue a b = pm_G a b := kc2 (P := fun a b => mm_ruleOfGlue a b = pm_G a b) (by decide +kernel) ha hb
theorem pc_A {s b : Int32} (hs : kq s) (hb : kc b) : mm_ruleAcrossSpaces s b = pm_A s b := kqc (P := fun a b => mm_ruleAcrossSpaces a b = pm_A a b) (by decide +kernel) (by decide +kernel) hs hb
theorem pc_N {a b : Int32} (ha : kc a) (hb : kc b) : mm_ruleOfNumbers a b = pk_or (pm_3 a b) (pm_4 a b) := kc2 (P := fun a b => mm_ruleOfNumbers a b = pk_or (pm_3 a b) (pm_4 a b)) (by decide +kernel) ha hb
theorem pc_W {a b : Int32} (ha : kc a) (hb : kc b) : mm_ruleOfWords a b = pm_5 a b := kc2 (P := fun a b => mm_ruleOfWords a b = pm_5 a b) (by decide +kernel) ha hb
theorem pc_S28 {a b : Int32} (ha : kc a) (hb : kc b) : mm_ruleOfSigns a b 28 = pk_or (pm_1 a b) (pm_2 a b 28) := kc2 (P := fun a b => mm_ruleOfSigns a b 28 = pk_or (pm_1 a b) (pm_2 a b 28)) (by decide +kernel) ha hb
theorem pc_S0 {a b : Int32} (ha : kc a) (hb : kc b) : mm_ruleOfSigns a b 0 = pk_or (pm_1 a b) (pm_2 a b 0) := kc2 (P := fun a b => mm_ruleOfSigns a b 0 = pk_or (pm_1 a b) (pm_2 a b 0)) (by decide +kernel) ha hb
theorem pc_S {a b z : Int32} (ha : kc a) (hb : kc b) : mm_ruleOfSigns a b z = pk_or (pm_1 a b) (pm_2 a b z) := by
  by_cases hz : z = 28
  · subst hz; exact pc_S28 ha hb
  · have h0 : ((0 : Int32) = 28) = False := eq_false (by decide)
    have e1 : mm_ruleOfSigns a b z = mm_ruleOfSigns a b 0 := by
      unfold mm_ruleOfSigns mm_ruleOfSigns_93 mm_ruleOfSigns_109
      simp only [hz, h0, if_false]
    have e2 : pm_2 a b z = pm_2 a b 0 := by
      unfold pm_2 pm_45
      simp only [hz, h0, if_false]
    rw [e1, e2]
    exact pc_S0 ha hb
def cm_94 (x1 x2 w3 : Int32) : Int32 := if x2 = 31 then (if x1 = 30 then 302 else (if w3 = 0 then 0 else 302)) else 0
def cm_68 (x1 x2 w3 od : Int32) : Int32 := if x1 = 37 then (if x2 = 37 then (if od = 0 then (cm_94 x1 x2 w3) else 301) else (cm_94 x1 x2 w3)) else (cm_94 x1 x2 w3)
def cm_31 (x1 x2 w2 w3 od : Int32) : Int32 := if x1 = 16 then (if (mm_isIn x2 411041792) = 0 then (cm_68 x1 x2 w3 od) else (if w2 = 0 then 300 else (cm_68 x1 x2 w3 od))) else (cm_68 x1 x2 w3 od)
def cm_6 (x1 x2 w1 w2 w3 od : Int32) : Int32 := if (mm_isIn x1 411041792) = 0 then (cm_31 x1 x2 w2 w3 od) else (if x2 = 20 then (if w1 = 0 then 300 else (cm_31 x1 x2 w2 w3 od)) else (cm_31 x1 x2 w2 w3 od))
theorem cm_marks {x1 x2 x3 : Int32} {fa2 la2 va2 : Nat → Int32} {mn2 : Int32} {fa3 la3 va3 : Nat → Int32} {mn3 b3 b6 : Int32} : mm_ruleOfMarks x1 x2 x3 fa2 la2 va2 mn2 fa3 la3 va3 mn3 b3 b6 = cm_6 x1 x2 (mm_isMarked x3 fa2 la2 va2 mn2) (mm_isMarked b3 fa2 la2 va2 mn2) (mm_isMarked b3 fa3 la3 va3 mn3) b6 := rfl
theorem pc_M {a b w1 w2 w3 od : Int32} (ha : kc a) (hb : kc b) (h1 : w1 = 0 ∨ w1 = 1) (h2 : w2 = 0 ∨ w2 = 1) (h3 : w3 = 0 ∨ w3 = 1) (ho : od = 0 ∨ od = 1) : pk_or (cm_6 a b w1 w2 w3 od) 310 = pm_6 a b w1 w2 w3 od := by
  rcases h1 with rfl | rfl <;> rcases h2 with rfl | rfl <;> rcases h3 with rfl | rfl <;> rcases ho with rfl | rfl
  all_goals
    obtain ⟨i, hi, rfl⟩ := ha
    obtain ⟨j, hj, rfl⟩ := hb
    revert j
    revert i
    decide +kernel
theorem pk_st (x y T : Int32) : (if x = 0 then pk_or y T else pk_or x T) = pk_or x (pk_or y T) := by
  by_cases h : x = 0
  · rw [if_pos h, h]; rfl
  · rw [if_neg h]; unfold pk_or; rw [if_neg h, if_neg h]
section
variable {x1 x2 : Int32} {fa2 la2 va2 : Nat → Int32} {mn2 : Int32} {fa3 la3 va3 : Nat → Int32} {mn3 b1 b2 b3 b4 b5 b6 x3 x4 : Int32}
theorem fr_100 : mm_findRule_100 x1 x2 fa2 la2 va2 mn2 fa3 la3 va3 mn3 b1 b2 b3 b4 b5 b6 x3 x4 = pk_or x3 (pk_or (mm_ruleOfMarks b2 x4 x2 fa2 la2 va2 mn2 fa3 la3 va3 mn3 b3 b6) 310) := pk_st _ _ _
theorem fr_83 : mm_findRule_83 x1 x2 fa2 la2 va2 mn2 fa3 la3 va3 mn3 b1 b2 b3 b4 b5 b6 x3 x4 = pk_or x3 (pk_or (mm_ruleOfWords b2 x4) (pk_or (mm_ruleOfMarks b2 x4 x2 fa2 la2 va2 mn2 fa3 la3 va3 mn3 b3 b6) 310)) := by
  unfold mm_findRule_83
  rw [fr_100, fr_100]
  exact pk_st _ _ _
theorem fr_66 : mm_findRule_66 x1 x2 fa2 la2 va2 mn2 fa3 la3 va3 mn3 b1 b2 b3 b4 b5 b6 x3 x4 = pk_or x3 (pk_or (mm_ruleOfNumbers b2 x4) (pk_or (mm_ruleOfWords b2 x4) (pk_or (mm_ruleOfMarks b2 x4 x2 fa2 la2 va2 mn2 fa3 la3 va3 mn3 b3 b6) 310))) := by
  unfold mm_findRule_66
  rw [fr_83, fr_83]
  exact pk_st _ _ _
theorem fr_48 : mm_findRule_48 x1 x2 fa2 la2 va2 mn2 fa3 la3 va3 mn3 b1 b2 b3 b4 b5 b6 x3 x4 = pk_or x3 (pk_or (mm_ruleOfSigns b2 x4 b4) (pk_or (mm_ruleOfNumbers b2 x4) (pk_or (mm_ruleOfWords b2 x4) (pk_or (mm_ruleOfMarks b2 x4 x2 fa2 la2 va2 mn2 fa3 la3 va3 mn3 b3 b6) 310)))) := by
  unfold mm_findRule_48
  rw [fr_66, fr_66]
  exact pk_st _ _ _
theorem fr_R : mm_findRule x1 x2 fa2 la2 va2 mn2 fa3 la3 va3 mn3 b1 b2 b3 b4 b5 b6 = pk_or (mm_ruleOfSpaces x1 b1 b5) (pk_or (mm_ruleOfGlue b2 (mm_standsFor x1)) (pk_or (mm_ruleAcrossSpaces b5 (mm_standsFor x1)) (pk_or (mm_ruleOfSigns b2 (mm_standsFor x1) b4) (pk_or (mm_ruleOfNumbers b2 (mm_standsFor x1)) (pk_or (mm_ruleOfWords b2 (mm_standsFor x1)) (pk_or (mm_ruleOfMarks b2 (mm_standsFor x1) x2 fa2 la2 va2 mn2 fa3 la3 va3 mn3 b3 b6) 310)))))) := by
  unfold mm_findRule
  rw [fr_48, fr_48, pk_st]
  rfl
end
theorem pk_ora (x y z : Int32) : pk_or (pk_or x y) z = pk_or x (pk_or y z) := by
  by_cases h : x = 0
  · rw [h]; rfl
  · have e : ∀ t, pk_or x t = x := fun t => by unfold pk_or; rw [if_neg h]
    rw [e, e, e]
-- signs of the rules
theorem pp_G {a b : Int32} (ha : kc a) (hb : kc b) : pk_p (pm_G a b) := kc2 (P := fun a b => pk_p (pm_G a b)) (by unfold pk_p; decide +kernel) ha hb
theorem pp_A {a b : Int32} (ha : kq a) (hb : kc b) : pk_p (pm_A a b) := kqc (P := fun a b => pk_p (pm_A a b)) (by unfold pk_p; decide +kernel) (by unfold pk_p; decide +kernel) ha hb
theorem pp_1 {a b : Int32} (ha : kc a) (hb : kc b) : pk_p (pm_1 a b) := kc2 (P := fun a b => pk_p (pm_1 a b)) (by unfold pk_p; decide +kernel) ha hb
theorem pp_2 {a b z : Int32} : pk_p (pm_2 a b z) := by
  unfold pm_2 pm_45 pm_70 pm_91 pk_p
  repeat' split
  all_goals first | exact Or.inl rfl | exact Or.inr (by decide)
theorem pp_3 {a b : Int32} (ha : kc a) (hb : kc b) : pk_p (pm_3 a b) := kc2 (P := fun a b => pk_p (pm_3 a b)) (by unfold pk_p; decide +kernel) ha hb
theorem pp_6 {a b w1 w2 w3 od : Int32} (ha : kc a) (hb : kc b) (h1 : w1 = 0 ∨ w1 = 1) (h2 : w2 = 0 ∨ w2 = 1) (h3 : w3 = 0 ∨ w3 = 1) (ho : od = 0 ∨ od = 1) : ¬ pm_6 a b w1 w2 w3 od = 0 := by
  rcases h1 with rfl | rfl <;> rcases h2 with rfl | rfl <;> rcases h3 with rfl | rfl <;> rcases ho with rfl | rfl
  all_goals
    obtain ⟨i, hi, rfl⟩ := ha
    obtain ⟨j, hj, rfl⟩ := hb
    revert j
    revert i
    decide +kernel
