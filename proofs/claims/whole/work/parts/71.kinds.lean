-- kinds of characters as the rules see them, and the class's sets as lists
def kq (x : Int32) : Prop := x = -1 ∨ ∃ j : Nat, j < 38 ∧ x = nI j
def kc (x : Int32) : Prop := ∃ j : Nat, j < 38 ∧ x = nI j
theorem kc.q {x : Int32} (h : kc x) : kq x := Or.inr h
theorem kc1 {P : Int32 → Prop} (h : ∀ i, i < 38 → P (nI i)) {a : Int32} (ha : kc a) : P a := by
  obtain ⟨i, hi, rfl⟩ := ha
  exact h i hi
theorem kc2 {P : Int32 → Int32 → Prop} (h : ∀ i, i < 38 → ∀ j, j < 38 → P (nI i) (nI j)) {a b : Int32} (ha : kc a) (hb : kc b) : P a b := by
  obtain ⟨i, hi, rfl⟩ := ha
  obtain ⟨j, hj, rfl⟩ := hb
  exact h i hi j hj
theorem kqc {P : Int32 → Int32 → Prop} (h0 : ∀ j, j < 38 → P (-1) (nI j)) (h : ∀ i, i < 38 → ∀ j, j < 38 → P (nI i) (nI j)) {a b : Int32} (ha : kq a) (hb : kc b) : P a b := by
  obtain ⟨j, hj, rfl⟩ := hb
  rcases ha with rfl | ⟨i, hi, rfl⟩
  · exact h0 j hj
  · exact h i hi j hj
/-- the class that stands for a character that isn't left out -/
def pk_C (x : Int32) : Int32 := if x = 8 then 27 else (if x = 7 then 27 else x)
theorem pk_stands {x : Int32} (h : kc x) : mm_standsFor x = pk_C x := kc1 (P := fun x => mm_standsFor x = pk_C x) (by decide +kernel) h
theorem pk_Ckc {x : Int32} (h : kc x) : kc (pk_C x) := kc1 (P := fun x => kc (pk_C x)) (by unfold kc; decide +kernel) h
/-- whether a character is left out: of the kind x, behind one of the kind y -/
def pk_L2 (x y : Int32) : Int32 := if x = 8 ∨ x = 7 then (if y ≤ 5 then 0 else 1) else 0
theorem pk_leaves {x y : Int32} (hx : kc x) (hy : kc y) : mm_bLeavesout x y = pk_L2 x y := kc2 (P := fun x y => mm_bLeavesout x y = pk_L2 x y) (by decide +kernel) hx hy
theorem pk_leaves0 {x : Int32} (hx : kc x) : mm_bLeavesout x (-1) = 0 := kc1 (P := fun x => mm_bLeavesout x (-1) = 0) (by decide +kernel) hx
theorem pk_C4 {x : Int32} (hx : kc x) : pk_C x = 4 ↔ x = 4 := kc1 (P := fun x => pk_C x = 4 ↔ x = 4) (by decide +kernel) hx
theorem pk_C5 {x : Int32} (hx : kc x) : pk_C x = 5 ↔ x = 5 := kc1 (P := fun x => pk_C x = 5 ↔ x = 5) (by decide +kernel) hx
theorem pk_L2_5 {x y : Int32} (hy : y = 5) : pk_L2 x y = 0 := by
  subst hy
  unfold pk_L2
  split
  · rw [if_pos (by decide)]
  · rfl
theorem pk_L2_x5 {x y : Int32} (hx : x = 5) : pk_L2 x y = 0 := by
  subst hx
  unfold pk_L2
  rw [if_neg (by decide)]
theorem pk_L2_4 {x y : Int32} (hy : y = 4) : pk_L2 x y = 0 := by
  subst hy
  unfold pk_L2
  split
  · rw [if_pos (by decide)]
  · rfl
-- the kind out of the class that was told
def pk_V (c lo : Int32) : Int32 := mm_kindAt 0 (fun _ => c) lo
theorem pk_Vk {c lo : Int32} (hc : ∃ j : Nat, j < 44 ∧ c = nI j) (hl : lo = 0 ∨ lo = 1) : kc (pk_V c lo) := by
  obtain ⟨j, hj, rfl⟩ := hc
  unfold kc
  rcases hl with rfl | rfl
  · revert j; decide +kernel
  · revert j; decide +kernel
def pk_W (x3 il : Int32) : Int32 := if x3 = 42 then 8 else (if x3 = 43 then (if il = 0 then 19 else 29) else (if x3 < 38 then x3 else 27))
theorem pk_VW {c lo : Int32} (hc : ∃ j : Nat, j < 44 ∧ c = nI j) (hl : lo = 0 ∨ lo = 1) : pk_W c lo = pk_V c lo := by
  obtain ⟨j, hj, rfl⟩ := hc
  rcases hl with rfl | rfl
  · revert j; decide +kernel
  · revert j; decide +kernel
-- a rule, or the next one
def pk_or (x y : Int32) : Int32 := if x = 0 then y else x
theorem pk_ori {c : Prop} [Decidable c] (x y t : Int32) : pk_or (if c then x else y) t = if c then pk_or x t else pk_or y t := by split <;> rfl
theorem pk_or0 (t : Int32) : pk_or 0 t = t := rfl
def pk_h (r l k : Int32) : Int32 := if r = 30 then 2 else (if r = 40 then 2 else (if r = 50 then (if l = 1 then (if k = 2 then 0 else 2) else 2) else (if r = 80 then 1 else (if r = 180 then 1 else (if r = 200 then 1 else (if r = 310 then 1 else 0))))))
def pk_w (v hd l k : Int32) : Int32 × Int32 := (v, if v = 0 then hd else pk_h v l k)
theorem pk_wi {c : Prop} [Decidable c] (x y hd l k : Int32) : pk_w (if c then x else y) hd l k = if c then pk_w x hd l k else pk_w y hd l k := by split <;> rfl
theorem pk_w0 (hd l k : Int32) : pk_w 0 hd l k = (0, hd) := rfl
def pk_p (x : Int32) : Prop := x = 0 ∨ 0 < x
theorem pk_p.or {x y : Int32} (hx : pk_p x) (hy : pk_p y) : pk_p (pk_or x y) := by
  unfold pk_or
  split
  · exact hy
  · exact hx
theorem pk_p.le {x : Int32} (h : pk_p x) (h0 : ¬ x = 0) : ¬ x ≤ 0 := by
  rcases h with h | h
  · exact absurd h h0
  · intro h1
    exact absurd (gk_lt (show gk_v 0 0 from rfl) (show gk_v x x.toInt from rfl) h) (Int.not_lt.mpr (gk_le (show gk_v x x.toInt from rfl) (show gk_v 0 0 from rfl) h1))

theorem pk_w20 (hd l k : Int32) : pk_w 20 hd l k = (20, 0) := rfl
theorem pk_or20 (t : Int32) : pk_or 20 t = 20 := rfl
theorem pk_w30 (hd l k : Int32) : pk_w 30 hd l k = (30, 2) := rfl
theorem pk_or30 (t : Int32) : pk_or 30 t = 30 := rfl
theorem pk_w40 (hd l k : Int32) : pk_w 40 hd l k = (40, 2) := rfl
theorem pk_or40 (t : Int32) : pk_or 40 t = 40 := rfl
theorem pk_or50 (t : Int32) : pk_or 50 t = 50 := rfl
theorem pk_w60 (hd l k : Int32) : pk_w 60 hd l k = (60, 0) := rfl
theorem pk_or60 (t : Int32) : pk_or 60 t = 60 := rfl
theorem pk_w70 (hd l k : Int32) : pk_w 70 hd l k = (70, 0) := rfl
theorem pk_or70 (t : Int32) : pk_or 70 t = 70 := rfl
theorem pk_w80 (hd l k : Int32) : pk_w 80 hd l k = (80, 1) := rfl
theorem pk_or80 (t : Int32) : pk_or 80 t = 80 := rfl
theorem pk_w81 (hd l k : Int32) : pk_w 81 hd l k = (81, 0) := rfl
theorem pk_or81 (t : Int32) : pk_or 81 t = 81 := rfl
theorem pk_w90 (hd l k : Int32) : pk_w 90 hd l k = (90, 0) := rfl
theorem pk_or90 (t : Int32) : pk_or 90 t = 90 := rfl
theorem pk_w110 (hd l k : Int32) : pk_w 110 hd l k = (110, 0) := rfl
theorem pk_or110 (t : Int32) : pk_or 110 t = 110 := rfl
theorem pk_w120 (hd l k : Int32) : pk_w 120 hd l k = (120, 0) := rfl
theorem pk_or120 (t : Int32) : pk_or 120 t = 120 := rfl
theorem pk_w121 (hd l k : Int32) : pk_w 121 hd l k = (121, 0) := rfl
theorem pk_or121 (t : Int32) : pk_or 121 t = 121 := rfl
theorem pk_w130 (hd l k : Int32) : pk_w 130 hd l k = (130, 0) := rfl
theorem pk_or130 (t : Int32) : pk_or 130 t = 130 := rfl
theorem pk_w140 (hd l k : Int32) : pk_w 140 hd l k = (140, 0) := rfl
theorem pk_or140 (t : Int32) : pk_or 140 t = 140 := rfl
theorem pk_w150 (hd l k : Int32) : pk_w 150 hd l k = (150, 0) := rfl
theorem pk_or150 (t : Int32) : pk_or 150 t = 150 := rfl
theorem pk_w160 (hd l k : Int32) : pk_w 160 hd l k = (160, 0) := rfl
theorem pk_or160 (t : Int32) : pk_or 160 t = 160 := rfl
theorem pk_w170 (hd l k : Int32) : pk_w 170 hd l k = (170, 0) := rfl
theorem pk_or170 (t : Int32) : pk_or 170 t = 170 := rfl
theorem pk_w180 (hd l k : Int32) : pk_w 180 hd l k = (180, 1) := rfl
theorem pk_or180 (t : Int32) : pk_or 180 t = 180 := rfl
theorem pk_w190 (hd l k : Int32) : pk_w 190 hd l k = (190, 0) := rfl
theorem pk_or190 (t : Int32) : pk_or 190 t = 190 := rfl
theorem pk_w200 (hd l k : Int32) : pk_w 200 hd l k = (200, 1) := rfl
theorem pk_or200 (t : Int32) : pk_or 200 t = 200 := rfl
theorem pk_w210 (hd l k : Int32) : pk_w 210 hd l k = (210, 0) := rfl
theorem pk_or210 (t : Int32) : pk_or 210 t = 210 := rfl
theorem pk_w211 (hd l k : Int32) : pk_w 211 hd l k = (211, 0) := rfl
theorem pk_or211 (t : Int32) : pk_or 211 t = 211 := rfl
theorem pk_w212 (hd l k : Int32) : pk_w 212 hd l k = (212, 0) := rfl
theorem pk_or212 (t : Int32) : pk_or 212 t = 212 := rfl
theorem pk_w220 (hd l k : Int32) : pk_w 220 hd l k = (220, 0) := rfl
theorem pk_or220 (t : Int32) : pk_or 220 t = 220 := rfl
theorem pk_w230 (hd l k : Int32) : pk_w 230 hd l k = (230, 0) := rfl
theorem pk_or230 (t : Int32) : pk_or 230 t = 230 := rfl
theorem pk_w231 (hd l k : Int32) : pk_w 231 hd l k = (231, 0) := rfl
theorem pk_or231 (t : Int32) : pk_or 231 t = 231 := rfl
theorem pk_w240 (hd l k : Int32) : pk_w 240 hd l k = (240, 0) := rfl
theorem pk_or240 (t : Int32) : pk_or 240 t = 240 := rfl
theorem pk_w250 (hd l k : Int32) : pk_w 250 hd l k = (250, 0) := rfl
theorem pk_or250 (t : Int32) : pk_or 250 t = 250 := rfl
theorem pk_w260 (hd l k : Int32) : pk_w 260 hd l k = (260, 0) := rfl
theorem pk_or260 (t : Int32) : pk_or 260 t = 260 := rfl
theorem pk_w270 (hd l k : Int32) : pk_w 270 hd l k = (270, 0) := rfl
theorem pk_or270 (t : Int32) : pk_or 270 t = 270 := rfl
theorem pk_w280 (hd l k : Int32) : pk_w 280 hd l k = (280, 0) := rfl
theorem pk_or280 (t : Int32) : pk_or 280 t = 280 := rfl
theorem pk_w290 (hd l k : Int32) : pk_w 290 hd l k = (290, 0) := rfl
theorem pk_or290 (t : Int32) : pk_or 290 t = 290 := rfl
theorem pk_w300 (hd l k : Int32) : pk_w 300 hd l k = (300, 0) := rfl
theorem pk_or300 (t : Int32) : pk_or 300 t = 300 := rfl
theorem pk_w301 (hd l k : Int32) : pk_w 301 hd l k = (301, 0) := rfl
theorem pk_or301 (t : Int32) : pk_or 301 t = 301 := rfl
theorem pk_w302 (hd l k : Int32) : pk_w 302 hd l k = (302, 0) := rfl
theorem pk_or302 (t : Int32) : pk_or 302 t = 302 := rfl
theorem pk_w310 (hd l k : Int32) : pk_w 310 hd l k = (310, 1) := rfl
theorem pk_or310 (t : Int32) : pk_or 310 t = 310 := rfl
