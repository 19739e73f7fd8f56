def mm_mEarly_152 (x1 rn : Int32) (fs lt kk : Nat → Int32) (il sz : Int32) (tt : Nat → Int32) (x2 x3 x4 hd : Int32) : Int32 × Int32 := if (mm_mClassOf x4 rn fs lt kk il tt) = 5 then (80, 1) else (if x2 = 7 then (81, 0) else (if (mm_mIsLeftOut x1 rn fs lt kk il tt) = 0 then (0, hd) else (90, 0)))
def mm_mEarly_131 (x1 rn : Int32) (fs lt kk : Nat → Int32) (il sz : Int32) (tt : Nat → Int32) : Nat → Int32 → Int32 → Int32 → Int32 → Int32 × Int32
  | 0, x2, x3, x4, hd => (0, hd)
  | n + 1, x2, x3, x4, hd => if x4 ≤ 0 then (mm_mEarly_152 x1 rn fs lt kk il sz tt x2 x3 x4 hd) else (if (mm_mClassOf x4 rn fs lt kk il tt) = 4 then (mm_mEarly_131 x1 rn fs lt kk il sz tt n x2 x3 (x4 + (-1)) hd) else (mm_mEarly_152 x1 rn fs lt kk il sz tt x2 x3 x4 hd))
def mm_mEarly_72 (x1 rn : Int32) (fs lt kk : Nat → Int32) (il sz : Int32) (tt : Nat → Int32) (x2 x3 hd : Int32) : Int32 × Int32 := if x2 = 1 then (50, 2) else (if x2 = 2 then (50, 2) else (if x2 = 3 then (50, 2) else (if 3 < x3 then (if x3 = 4 then (70, 0) else (if x3 = 5 then (70, 0) else (mm_mEarly_131 x1 rn fs lt kk il sz tt 2001 x2 x3 (x1 - 1) hd))) else (60, 0))))
def mm_mEarly (x1 rn : Int32) (fs lt kk : Nat → Int32) (il sz : Int32) (tt : Nat → Int32) (hd : Int32) : Int32 × Int32 := if x1 = 0 then (20, 0) else (if x1 = sz then (30, 2) else (if (mm_mClassOf (x1 - 1) rn fs lt kk il tt) = 0 then (40, 2) else (if (mm_mClassOf (x1 - 1) rn fs lt kk il tt) = 1 then (if (mm_mClassOf x1 rn fs lt kk il tt) = 2 then (50, 0) else (mm_mEarly_72 x1 rn fs lt kk il sz tt (mm_mClassOf (x1 - 1) rn fs lt kk il tt) (mm_mClassOf x1 rn fs lt kk il tt) hd)) else (mm_mEarly_72 x1 rn fs lt kk il sz tt (mm_mClassOf (x1 - 1) rn fs lt kk il tt) (mm_mClassOf x1 rn fs lt kk il tt) hd))))
theorem mm_mEarly_in {x1 rn : Int32} {fs lt kk : Nat → Int32} {il sz : Int32} {tt : Nat → Int32} {hd r h : Int32} {z1 zs : Int} (hp : (r, h) = mm_mEarly x1 rn fs lt kk il sz tt hd) (hr : r ≤ 0) (v1 : gk_v x1 z1) (vs : gk_v sz zs) (hb : 0 ≤ z1 ∧ z1 ≤ zs) : 0 < z1 ∧ z1 < zs := by
  rw [mm_mEarly] at hp
  by_cases c1 : x1 = 0
  · rw [if_pos c1] at hp
    have e := (Prod.mk.inj hp).1
    rw [e] at hr
    exact absurd hr (by decide)
  · rw [if_neg c1] at hp
    by_cases c2 : x1 = sz
    · rw [if_pos c2] at hp
      have e := (Prod.mk.inj hp).1
      rw [e] at hr
      exact absurd hr (by decide)
    · have n1 := gk_ne v1 (show gk_v 0 0 from rfl) c1
      have n2 := gk_ne v1 vs c2
      omega
def rm_mEarly : Room := { frames := 3, cells := 0, slots := 0, locals := 68 }
set_option maxHeartbeats 4000000 in
set_option maxRecDepth 100000 in
theorem c_mEarly (l : Launch) (D : va_G) (cI : ClassId) (cL cL : ClassId × ClassId) (g : Nat → Nat) (fl rn : Int32) (fs lt kk mk mf ml ma : Nat → Int32) (il sz : Int32) (tt fh : Nat → Int32) (hd x1 : Int32) (z_rn : Int) (v_rn : gk_v rn z_rn) (z_sz : Int) (v_sz : gk_v sz z_sz) (z_x1 : Int) (v_x1 : gk_v x1 z_x1) (hsz : 0 ≤ z_sz ∧ z_sz ≤ 2000) (hrn : 0 ≤ z_rn ∧ z_rn ≤ 100) (hx1 : 0 ≤ z_x1 ∧ z_x1 ≤ z_sz) : gk_I l y_mEarly (.code y_mEarly b_mEarly 5 (some .int) :: wA) rm_mEarly D vwCl (gk_T cI cL) [.ref (g 0), .int x1] (wd_M cI cL g fl rn fs lt kk mk mf ml ma il sz tt fh hd) (fun (r : Int32) (u : Int32) => (r, u) = mm_mEarly x1 rn fs lt kk il sz tt hd) (fun u => (wd_M cI cL g fl rn fs lt kk mk mf ml ma il sz tt fh u)) 0 0 := by
  refine gk_I.of (by decide) (Nat.le_of_ble_eq_true rfl) ?_
  intro p e s m below meth c A ls Q H locs hx hb hml hown hts hW hl X
  have hl : lv_has ls 5 [(0, .ref (g 0)), (1, .int x1)] := hl
  obtain ⟨tgt, heq⟩ : ∃ t, mm_mEarly x1 rn fs lt kk il sz tt hd = t := ⟨_, rfl⟩
  rw [heq] at X
  rw [mm_mEarly] at heq
  obtain ⟨z_il, v_il⟩ := gk_vex il
  have K152 : ∀ (x2 x3 x4 hd : Int32) (H : Heap) (locs : List Loc) (ls : Array Slot), ∀ (z_x4 : Int), gk_v x4 z_x4 → 0 < z_x1 ∧ z_x1 < z_sz → 0 ≤ z_x4 ∧ z_x4 < z_sz → mm_mEarly_152 x1 rn fs lt kk il sz tt x2 x3 x4 hd = tgt → gk_W D vwCl (gk_T cI cL) s A H locs (wd_M cI cL g fl rn fs lt kk mk mf ml ma il sz tt fh hd) → lv_has ls 5 [(0, .ref (g 0)), (1, .int x1), (2, .int x2), (3, .int x3), (4, .int x4)] → W p l e rm_mEarly s m [.ref (g 0), .int x1].toArray below meth c H locs 0 0 Q (F0 m 152 ls []) := by
    intro x2 x3 x4 hd H locs ls z_x4 v_x4 f152_0 f152_1 heq hW hl
    rw [mm_mEarly_152] at heq
    refine lv_aload_n hx hb d_mEarly_152 rfl (lv_at hl 0 rfl) ?_
    refine lv_iload hx hb d_mEarly_153 (lv_at hl 4 rfl) ?_
    refine gk_goR hW [0, 1, 2, 3, 4, 5, 6, 7, 8, 9] rfl (va_runV (As := [.int x4]) (rest := []) ⟨hx, hb, hml, hown, hts⟩ (c_mClassOf l D cI cL cL g fl rn fs lt kk mk mf ml ma il sz tt fh hd x4 z_rn v_rn z_x4 v_x4 (by omega) (by omega) _) (gk_cwV hts w_138 w_139 w_140 w_116 k_mClassOf rfl e_mClassOf rfl rfl ⟨Nat.le_of_ble_eq_true rfl, Nat.le_of_ble_eq_true rfl⟩) (gk_preV hW [0, 1, 2, 3, 4, 5, 6, 7, 8, 9] rfl rfl rfl rfl) rfl rfl hl.1 rfl (lv_room (Nat.le_of_ble_eq_true rfl)) d_mEarly_155 ⟨Nat.le_of_ble_eq_true rfl, Nat.le_of_ble_eq_true rfl⟩) (fun H locs hW => ?_)
    refine lv_iconst (v := 5) hx hb d_mEarly_158 (by decide) ?_
    refine lv_icmp_ne (tgt := 170) hx hb d_mEarly_159 (by decide) (fun c_1 => ?_) (fun c_1 => ?_)
    · rw [if_neg c_1] at heq
      refine lv_iload_n hx hb d_mEarly_170 rfl (lv_at hl 2 rfl) ?_
      refine lv_bipush (v := 7) hx hb d_mEarly_171 (by decide) ?_
      refine lv_icmp_ne (tgt := 184) hx hb d_mEarly_173 (by decide) (fun c_2 => ?_) (fun c_2 => ?_)
      · rw [if_neg c_2] at heq
        refine lv_aload_n hx hb d_mEarly_184 rfl (lv_at hl 0 rfl) ?_
        refine lv_iload_n hx hb d_mEarly_185 rfl (lv_at hl 1 rfl) ?_
        refine gk_goR hW [0, 1, 2, 3, 4, 5, 6, 7, 8, 9] rfl (va_runV (As := [.int x1]) (rest := []) ⟨hx, hb, hml, hown, hts⟩ (c_mIsLeftOut l D cI cL cL g fl rn fs lt kk mk mf ml ma il sz tt fh hd x1 z_rn v_rn z_x1 v_x1 (by omega) (by omega) _) (gk_cwV hts w_144 w_145 w_146 w_116 k_mIsLeftOut rfl e_mIsLeftOut rfl rfl ⟨Nat.le_of_ble_eq_true rfl, Nat.le_of_ble_eq_true rfl⟩) (gk_preV hW [0, 1, 2, 3, 4, 5, 6, 7, 8, 9] rfl rfl rfl rfl) rfl rfl hl.1 rfl (lv_room (Nat.le_of_ble_eq_true rfl)) d_mEarly_186 ⟨Nat.le_of_ble_eq_true rfl, Nat.le_of_ble_eq_true rfl⟩) (fun H locs hW => ?_)
        refine lv_if_eq (tgt := 202) hx hb d_mEarly_189 (by decide) (fun c_3 => ?_) (fun c_3 => ?_)
        · rw [if_pos c_3] at heq
          refine lv_iconst (v := 0) hx hb d_mEarly_202 (by decide) ?_
          exact X _ hd H locs 0 0 203 ls heq hW d_mEarly_203 rfl (Nat.le_of_ble_eq_true rfl) (Nat.le_of_ble_eq_true rfl)
        · rw [if_neg c_3] at heq
          refine lv_aload_n hx hb d_mEarly_192 rfl (lv_at hl 0 rfl) ?_
          refine lv_bipush (v := 90) hx hb d_mEarly_193 (by decide) ?_
          refine lv_iconst (v := 0) hx hb d_mEarly_195 (by decide) ?_
          refine gk_goI (wr := []) hW [0, 1, 2, 3, 4, 5, 6, 7, 8, 9] [] rfl rfl (by decide) (by decide) (va_runV (As := [.int 90, .int 0]) (rest := []) ⟨hx, hb, hml, hown, hts⟩ (c_mTell l D cI cL cL g fl rn fs lt kk mk mf ml ma il sz tt fh hd 90 0 _) (gk_cwV hts w_147 w_148 w_149 w_116 k_mTell rfl e_mTell rfl rfl ⟨Nat.le_of_ble_eq_true rfl, Nat.le_of_ble_eq_true rfl⟩) (gk_preV hW [0, 1, 2, 3, 4, 5, 6, 7, 8, 9] rfl rfl rfl rfl) rfl rfl hl.1 rfl (lv_room (Nat.le_of_ble_eq_true rfl)) d_mEarly_196 ⟨Nat.le_of_ble_eq_true rfl, Nat.le_of_ble_eq_true rfl⟩) (fun r_4 u H locs p_6 hW => ?_)
          obtain ⟨rfl, rfl⟩ : r_4 = 90 ∧ u = 0 := Prod.mk.inj (p_6.trans (show (mm_mTell 90 0 hd) = (90, 0) from rfl))
          have hW : gk_W D vwCl (gk_T cI cL) s A H locs (wd_M cI cL g fl rn fs lt kk mk mf ml ma il sz tt fh 0) := hW.re [0, 1, 2, 3, 4, 5, 6, 7, 8, 9] (by decide) rfl
          refine lv_goto (tgt := 203) hx hb d_mEarly_199 (by decide) ?_
          exact X _ 0 H locs 0 0 203 ls heq hW d_mEarly_203 rfl (Nat.le_of_ble_eq_true rfl) (Nat.le_of_ble_eq_true rfl)
      · rw [if_pos c_2] at heq
        refine lv_aload_n hx hb d_mEarly_176 rfl (lv_at hl 0 rfl) ?_
        refine lv_bipush (v := 81) hx hb d_mEarly_177 (by decide) ?_
        refine lv_iconst (v := 0) hx hb d_mEarly_179 (by decide) ?_
        refine gk_goI (wr := []) hW [0, 1, 2, 3, 4, 5, 6, 7, 8, 9] [] rfl rfl (by decide) (by decide) (va_runV (As := [.int 81, .int 0]) (rest := []) ⟨hx, hb, hml, hown, hts⟩ (c_mTell l D cI cL cL g fl rn fs lt kk mk mf ml ma il sz tt fh hd 81 0 _) (gk_cwV hts w_147 w_148 w_149 w_116 k_mTell rfl e_mTell rfl rfl ⟨Nat.le_of_ble_eq_true rfl, Nat.le_of_ble_eq_true rfl⟩) (gk_preV hW [0, 1, 2, 3, 4, 5, 6, 7, 8, 9] rfl rfl rfl rfl) rfl rfl hl.1 rfl (lv_room (Nat.le_of_ble_eq_true rfl)) d_mEarly_180 ⟨Nat.le_of_ble_eq_true rfl, Nat.le_of_ble_eq_true rfl⟩) (fun r_7 u H locs p_9 hW => ?_)
        obtain ⟨rfl, rfl⟩ : r_7 = 81 ∧ u = 0 := Prod.mk.inj (p_9.trans (show (mm_mTell 81 0 hd) = (81, 0) from rfl))
        have hW : gk_W D vwCl (gk_T cI cL) s A H locs (wd_M cI cL g fl rn fs lt kk mk mf ml ma il sz tt fh 0) := hW.re [0, 1, 2, 3, 4, 5, 6, 7, 8, 9] (by decide) rfl
        exact X _ 0 H locs 0 0 183 ls heq hW d_mEarly_183 rfl (Nat.le_of_ble_eq_true rfl) (Nat.le_of_ble_eq_true rfl)
    · rw [if_pos c_1] at heq
      refine lv_aload_n hx hb d_mEarly_162 rfl (lv_at hl 0 rfl) ?_
      refine lv_bipush (v := 80) hx hb d_mEarly_163 (by decide) ?_
      refine lv_iconst (v := 1) hx hb d_mEarly_165 (by decide) ?_
      refine gk_goI (wr := []) hW [0, 1, 2, 3, 4, 5, 6, 7, 8, 9] [] rfl rfl (by decide) (by decide) (va_runV (As := [.int 80, .int 1]) (rest := []) ⟨hx, hb, hml, hown, hts⟩ (c_mTell l D cI cL cL g fl rn fs lt kk mk mf ml ma il sz tt fh hd 80 1 _) (gk_cwV hts w_147 w_148 w_149 w_116 k_mTell rfl e_mTell rfl rfl ⟨Nat.le_of_ble_eq_true rfl, Nat.le_of_ble_eq_true rfl⟩) (gk_preV hW [0, 1, 2, 3, 4, 5, 6, 7, 8, 9] rfl rfl rfl rfl) rfl rfl hl.1 rfl (lv_room (Nat.le_of_ble_eq_true rfl)) d_mEarly_166 ⟨Nat.le_of_ble_eq_true rfl, Nat.le_of_ble_eq_true rfl⟩) (fun r_10 u H locs p_12 hW => ?_)
      obtain ⟨rfl, rfl⟩ : r_10 = 80 ∧ u = 1 := Prod.mk.inj (p_12.trans (show (mm_mTell 80 1 hd) = (80, 1) from rfl))
      have hW : gk_W D vwCl (gk_T cI cL) s A H locs (wd_M cI cL g fl rn fs lt kk mk mf ml ma il sz tt fh 1) := hW.re [0, 1, 2, 3, 4, 5, 6, 7, 8, 9] (by decide) rfl
      exact X _ 1 H locs 0 0 169 ls heq hW d_mEarly_169 rfl (Nat.le_of_ble_eq_true rfl) (Nat.le_of_ble_eq_true rfl)
  have L131 : ∀ (n : Nat) (x2 x3 x4 hd : Int32) (H : Heap) (locs : List Loc) (ls : Array Slot), ∀ (z_x4 : Int), gk_v x4 z_x4 → (z_x4) < (n : Int) → 0 < z_x1 ∧ z_x1 < z_sz → 0 ≤ z_x4 ∧ z_x4 < z_sz → mm_mEarly_131 x1 rn fs lt kk il sz tt n x2 x3 x4 hd = tgt → gk_W D vwCl (gk_T cI cL) s A H locs (wd_M cI cL g fl rn fs lt kk mk mf ml ma il sz tt fh hd) → lv_has ls 5 [(0, .ref (g 0)), (1, .int x1), (2, .int x2), (3, .int x3), (4, .int x4)] → W p l e rm_mEarly s m [.ref (g 0), .int x1].toArray below meth c H locs 0 0 Q (F0 m 131 ls []) := by
    intro n
    induction n with
    | zero => intro x2 x3 x4 hd H locs ls z_x4 v_x4 hm f131_0 f131_1 heq hW hl; exfalso; omega
    | succ n ih =>
      intro x2 x3 x4 hd H locs ls z_x4 v_x4 hm f131_0 f131_1 heq hW hl
      rw [mm_mEarly_131] at heq
      refine lv_iload hx hb d_mEarly_131 (lv_at hl 4 rfl) ?_
      refine lv_if_le (tgt := 152) hx hb d_mEarly_133 (by decide) (fun c_13 => ?_) (fun c_13 => ?_)
      · rw [if_pos c_13] at heq
        have ic_13 := gk_le v_x4 (show gk_v 0 0 from rfl) c_13
        exact K152 x2 x3 x4 hd H locs ls z_x4 v_x4 (by omega) (by omega) heq hW (lv_sub hl [0, 1, 2, 3, 4] rfl)
      · rw [if_neg c_13] at heq
        have ic_13 := gk_nle v_x4 (show gk_v 0 0 from rfl) c_13
        refine lv_aload_n hx hb d_mEarly_136 rfl (lv_at hl 0 rfl) ?_
        refine lv_iload hx hb d_mEarly_137 (lv_at hl 4 rfl) ?_
        refine gk_goR hW [0, 1, 2, 3, 4, 5, 6, 7, 8, 9] rfl (va_runV (As := [.int x4]) (rest := []) ⟨hx, hb, hml, hown, hts⟩ (c_mClassOf l D cI cL cL g fl rn fs lt kk mk mf ml ma il sz tt fh hd x4 z_rn v_rn z_x4 v_x4 (by omega) (by omega) _) (gk_cwV hts w_138 w_139 w_140 w_116 k_mClassOf rfl e_mClassOf rfl rfl ⟨Nat.le_of_ble_eq_true rfl, Nat.le_of_ble_eq_true rfl⟩) (gk_preV hW [0, 1, 2, 3, 4, 5, 6, 7, 8, 9] rfl rfl rfl rfl) rfl rfl hl.1 rfl (lv_room (Nat.le_of_ble_eq_true rfl)) d_mEarly_139 ⟨Nat.le_of_ble_eq_true rfl, Nat.le_of_ble_eq_true rfl⟩) (fun H locs hW => ?_)
        refine lv_iconst (v := 4) hx hb d_mEarly_142 (by decide) ?_
        refine lv_icmp_ne (tgt := 152) hx hb d_mEarly_143 (by decide) (fun c_14 => ?_) (fun c_14 => ?_)
        · rw [if_neg c_14] at heq
          exact K152 x2 x3 x4 hd H locs ls z_x4 v_x4 (by omega) (by omega) heq hW (lv_sub hl [0, 1, 2, 3, 4] rfl)
        · rw [if_pos c_14] at heq
          refine lv_iinc (v := x4 + (-1)) (lv' := [(4, .int (x4 + (-1))), (0, .ref (g 0)), (1, .int x1), (2, .int x2), (3, .int x3)]) hx hb d_mEarly_146 hl (k := 4) rfl rfl (by decide) rfl (fun ls hl => ?_)
          obtain ⟨zt_15, vt_15, et_15⟩ := gk_add v_x4 (show gk_v (-1) (-1) from rfl) (by omega) (by omega)
          refine lv_goto (tgt := 131) hx hb d_mEarly_149 (by decide) ?_
          exact ih x2 x3 (x4 + (-1)) hd H locs ls zt_15 vt_15 (by omega) (by omega) (by omega) heq hW (lv_sub hl [1, 2, 3, 4, 0] rfl)
  have K72 : ∀ (x2 x3 hd : Int32) (H : Heap) (locs : List Loc) (ls : Array Slot), 0 < z_x1 ∧ z_x1 < z_sz → mm_mEarly_72 x1 rn fs lt kk il sz tt x2 x3 hd = tgt → gk_W D vwCl (gk_T cI cL) s A H locs (wd_M cI cL g fl rn fs lt kk mk mf ml ma il sz tt fh hd) → lv_has ls 5 [(0, .ref (g 0)), (1, .int x1), (2, .int x2), (3, .int x3)] → W p l e rm_mEarly s m [.ref (g 0), .int x1].toArray below meth c H locs 0 0 Q (F0 m 72 ls []) := by
    intro x2 x3 hd H locs ls f72_0 heq hW hl
    rw [mm_mEarly_72] at heq
    refine lv_iload_n hx hb d_mEarly_72 rfl (lv_at hl 2 rfl) ?_
    refine lv_iconst (v := 1) hx hb d_mEarly_73 (by decide) ?_
    refine lv_icmp_eq (tgt := 87) hx hb d_mEarly_74 (by decide) (fun c_16 => ?_) (fun c_16 => ?_)
    · rw [if_pos c_16] at heq
      refine lv_aload_n hx hb d_mEarly_87 rfl (lv_at hl 0 rfl) ?_
      refine lv_bipush (v := 50) hx hb d_mEarly_88 (by decide) ?_
      refine lv_iconst (v := 2) hx hb d_mEarly_90 (by decide) ?_
      refine gk_goI (wr := []) hW [0, 1, 2, 3, 4, 5, 6, 7, 8, 9] [] rfl rfl (by decide) (by decide) (va_runV (As := [.int 50, .int 2]) (rest := []) ⟨hx, hb, hml, hown, hts⟩ (c_mTell l D cI cL cL g fl rn fs lt kk mk mf ml ma il sz tt fh hd 50 2 _) (gk_cwV hts w_147 w_148 w_149 w_116 k_mTell rfl e_mTell rfl rfl ⟨Nat.le_of_ble_eq_true rfl, Nat.le_of_ble_eq_true rfl⟩) (gk_preV hW [0, 1, 2, 3, 4, 5, 6, 7, 8, 9] rfl rfl rfl rfl) rfl rfl hl.1 rfl (lv_room (Nat.le_of_ble_eq_true rfl)) d_mEarly_91 ⟨Nat.le_of_ble_eq_true rfl, Nat.le_of_ble_eq_true rfl⟩) (fun r_17 u H locs p_19 hW => ?_)
      obtain ⟨rfl, rfl⟩ : r_17 = 50 ∧ u = 2 := Prod.mk.inj (p_19.trans (show (mm_mTell 50 2 hd) = (50, 2) from rfl))
      have hW : gk_W D vwCl (gk_T cI cL) s A H locs (wd_M cI cL g fl rn fs lt kk mk mf ml ma il sz tt fh 2) := hW.re [0, 1, 2, 3, 4, 5, 6, 7, 8, 9] (by decide) rfl
      exact X _ 2 H locs 0 0 94 ls heq hW d_mEarly_94 rfl (Nat.le_of_ble_eq_true rfl) (Nat.le_of_ble_eq_true rfl)
    · rw [if_neg c_16] at heq
      refine lv_iload_n hx hb d_mEarly_77 rfl (lv_at hl 2 rfl) ?_
      refine lv_iconst (v := 2) hx hb d_mEarly_78 (by decide) ?_
      refine lv_icmp_eq (tgt := 87) hx hb d_mEarly_79 (by decide) (fun c_20 => ?_) (fun c_20 => ?_)
      · rw [if_pos c_20] at heq
        refine lv_aload_n hx hb d_mEarly_87 rfl (lv_at hl 0 rfl) ?_
        refine lv_bipush (v := 50) hx hb d_mEarly_88 (by decide) ?_
        refine lv_iconst (v := 2) hx hb d_mEarly_90 (by decide) ?_
        refine gk_goI (wr := []) hW [0, 1, 2, 3, 4, 5, 6, 7, 8, 9] [] rfl rfl (by decide) (by decide) (va_runV (As := [.int 50, .int 2]) (rest := []) ⟨hx, hb, hml, hown, hts⟩ (c_mTell l D cI cL cL g fl rn fs lt kk mk mf ml ma il sz tt fh hd 50 2 _) (gk_cwV hts w_147 w_148 w_149 w_116 k_mTell rfl e_mTell rfl rfl ⟨Nat.le_of_ble_eq_true rfl, Nat.le_of_ble_eq_true rfl⟩) (gk_preV hW [0, 1, 2, 3, 4, 5, 6, 7, 8, 9] rfl rfl rfl rfl) rfl rfl hl.1 rfl (lv_room (Nat.le_of_ble_eq_true rfl)) d_mEarly_91 ⟨Nat.le_of_ble_eq_true rfl, Nat.le_of_ble_eq_true rfl⟩) (fun r_21 u H locs p_23 hW => ?_)
        obtain ⟨rfl, rfl⟩ : r_21 = 50 ∧ u = 2 := Prod.mk.inj (p_23.trans (show (mm_mTell 50 2 hd) = (50, 2) from rfl))
        have hW : gk_W D vwCl (gk_T cI cL) s A H locs (wd_M cI cL g fl rn fs lt kk mk mf ml ma il sz tt fh 2) := hW.re [0, 1, 2, 3, 4, 5, 6, 7, 8, 9] (by decide) rfl
        exact X _ 2 H locs 0 0 94 ls heq hW d_mEarly_94 rfl (Nat.le_of_ble_eq_true rfl) (Nat.le_of_ble_eq_true rfl)
      · rw [if_neg c_20] at heq
        refine lv_iload_n hx hb d_mEarly_82 rfl (lv_at hl 2 rfl) ?_
        refine lv_iconst (v := 3) hx hb d_mEarly_83 (by decide) ?_
        refine lv_icmp_ne (tgt := 95) hx hb d_mEarly_84 (by decide) (fun c_24 => ?_) (fun c_24 => ?_)
        · rw [if_neg c_24] at heq
          refine lv_iload_n hx hb d_mEarly_95 rfl (lv_at hl 3 rfl) ?_
          refine lv_iconst (v := 3) hx hb d_mEarly_96 (by decide) ?_
          refine lv_icmp_gt (tgt := 108) hx hb d_mEarly_97 (by decide) (fun c_25 => ?_) (fun c_25 => ?_)
          · rw [if_pos c_25] at heq
            refine lv_iload_n hx hb d_mEarly_108 rfl (lv_at hl 3 rfl) ?_
            refine lv_iconst (v := 4) hx hb d_mEarly_109 (by decide) ?_
            refine lv_icmp_eq (tgt := 118) hx hb d_mEarly_110 (by decide) (fun c_26 => ?_) (fun c_26 => ?_)
            · rw [if_pos c_26] at heq
              refine lv_aload_n hx hb d_mEarly_118 rfl (lv_at hl 0 rfl) ?_
              refine lv_bipush (v := 70) hx hb d_mEarly_119 (by decide) ?_
              refine lv_iconst (v := 0) hx hb d_mEarly_121 (by decide) ?_
              refine gk_goI (wr := []) hW [0, 1, 2, 3, 4, 5, 6, 7, 8, 9] [] rfl rfl (by decide) (by decide) (va_runV (As := [.int 70, .int 0]) (rest := []) ⟨hx, hb, hml, hown, hts⟩ (c_mTell l D cI cL cL g fl rn fs lt kk mk mf ml ma il sz tt fh hd 70 0 _) (gk_cwV hts w_147 w_148 w_149 w_116 k_mTell rfl e_mTell rfl rfl ⟨Nat.le_of_ble_eq_true rfl, Nat.le_of_ble_eq_true rfl⟩) (gk_preV hW [0, 1, 2, 3, 4, 5, 6, 7, 8, 9] rfl rfl rfl rfl) rfl rfl hl.1 rfl (lv_room (Nat.le_of_ble_eq_true rfl)) d_mEarly_122 ⟨Nat.le_of_ble_eq_true rfl, Nat.le_of_ble_eq_true rfl⟩) (fun r_27 u H locs p_29 hW => ?_)
              obtain ⟨rfl, rfl⟩ : r_27 = 70 ∧ u = 0 := Prod.mk.inj (p_29.trans (show (mm_mTell 70 0 hd) = (70, 0) from rfl))
              have hW : gk_W D vwCl (gk_T cI cL) s A H locs (wd_M cI cL g fl rn fs lt kk mk mf ml ma il sz tt fh 0) := hW.re [0, 1, 2, 3, 4, 5, 6, 7, 8, 9] (by decide) rfl
              exact X _ 0 H locs 0 0 125 ls heq hW d_mEarly_125 rfl (Nat.le_of_ble_eq_true rfl) (Nat.le_of_ble_eq_true rfl)
            · rw [if_neg c_26] at heq
              refine lv_iload_n hx hb d_mEarly_113 rfl (lv_at hl 3 rfl) ?_
              refine lv_iconst (v := 5) hx hb d_mEarly_114 (by decide) ?_
              refine lv_icmp_ne (tgt := 126) hx hb d_mEarly_115 (by decide) (fun c_30 => ?_) (fun c_30 => ?_)
              · rw [if_neg c_30] at heq
                refine lv_iload_n hx hb d_mEarly_126 rfl (lv_at hl 1 rfl) ?_
                refine lv_iconst (v := 1) hx hb d_mEarly_127 (by decide) ?_
                refine lv_isub hx hb d_mEarly_128 ?_
                obtain ⟨zt_31, vt_31, et_31⟩ := gk_sub v_x1 (show gk_v 1 1 from rfl) (by omega) (by omega)
                refine lv_istore (lv' := [(4, .int (x1 - 1)), (0, .ref (g 0)), (1, .int x1), (2, .int x2), (3, .int x3)]) hx hb d_mEarly_129 hl (by decide) rfl (fun ls hl => ?_)
                exact L131 2001 x2 x3 (x1 - 1) hd H locs ls zt_31 vt_31 (by omega) (by omega) (by omega) heq hW (lv_sub hl [1, 2, 3, 4, 0] rfl)
              · rw [if_pos c_30] at heq
                refine lv_aload_n hx hb d_mEarly_118 rfl (lv_at hl 0 rfl) ?_
                refine lv_bipush (v := 70) hx hb d_mEarly_119 (by decide) ?_
                refine lv_iconst (v := 0) hx hb d_mEarly_121 (by decide) ?_
                refine gk_goI (wr := []) hW [0, 1, 2, 3, 4, 5, 6, 7, 8, 9] [] rfl rfl (by decide) (by decide) (va_runV (As := [.int 70, .int 0]) (rest := []) ⟨hx, hb, hml, hown, hts⟩ (c_mTell l D cI cL cL g fl rn fs lt kk mk mf ml ma il sz tt fh hd 70 0 _) (gk_cwV hts w_147 w_148 w_149 w_116 k_mTell rfl e_mTell rfl rfl ⟨Nat.le_of_ble_eq_true rfl, Nat.le_of_ble_eq_true rfl⟩) (gk_preV hW [0, 1, 2, 3, 4, 5, 6, 7, 8, 9] rfl rfl rfl rfl) rfl rfl hl.1 rfl (lv_room (Nat.le_of_ble_eq_true rfl)) d_mEarly_122 ⟨Nat.le_of_ble_eq_true rfl, Nat.le_of_ble_eq_true rfl⟩) (fun r_32 u H locs p_34 hW => ?_)
                obtain ⟨rfl, rfl⟩ : r_32 = 70 ∧ u = 0 := Prod.mk.inj (p_34.trans (show (mm_mTell 70 0 hd) = (70, 0) from rfl))
                have hW : gk_W D vwCl (gk_T cI cL) s A H locs (wd_M cI cL g fl rn fs lt kk mk mf ml ma il sz tt fh 0) := hW.re [0, 1, 2, 3, 4, 5, 6, 7, 8, 9] (by decide) rfl
                exact X _ 0 H locs 0 0 125 ls heq hW d_mEarly_125 rfl (Nat.le_of_ble_eq_true rfl) (Nat.le_of_ble_eq_true rfl)
          · rw [if_neg c_25] at heq
            refine lv_aload_n hx hb d_mEarly_100 rfl (lv_at hl 0 rfl) ?_
            refine lv_bipush (v := 60) hx hb d_mEarly_101 (by decide) ?_
            refine lv_iconst (v := 0) hx hb d_mEarly_103 (by decide) ?_
            refine gk_goI (wr := []) hW [0, 1, 2, 3, 4, 5, 6, 7, 8, 9] [] rfl rfl (by decide) (by decide) (va_runV (As := [.int 60, .int 0]) (rest := []) ⟨hx, hb, hml, hown, hts⟩ (c_mTell l D cI cL cL g fl rn fs lt kk mk mf ml ma il sz tt fh hd 60 0 _) (gk_cwV hts w_147 w_148 w_149 w_116 k_mTell rfl e_mTell rfl rfl ⟨Nat.le_of_ble_eq_true rfl, Nat.le_of_ble_eq_true rfl⟩) (gk_preV hW [0, 1, 2, 3, 4, 5, 6, 7, 8, 9] rfl rfl rfl rfl) rfl rfl hl.1 rfl (lv_room (Nat.le_of_ble_eq_true rfl)) d_mEarly_104 ⟨Nat.le_of_ble_eq_true rfl, Nat.le_of_ble_eq_true rfl⟩) (fun r_35 u H locs p_37 hW => ?_)
            obtain ⟨rfl, rfl⟩ : r_35 = 60 ∧ u = 0 := Prod.mk.inj (p_37.trans (show (mm_mTell 60 0 hd) = (60, 0) from rfl))
            have hW : gk_W D vwCl (gk_T cI cL) s A H locs (wd_M cI cL g fl rn fs lt kk mk mf ml ma il sz tt fh 0) := hW.re [0, 1, 2, 3, 4, 5, 6, 7, 8, 9] (by decide) rfl
            exact X _ 0 H locs 0 0 107 ls heq hW d_mEarly_107 rfl (Nat.le_of_ble_eq_true rfl) (Nat.le_of_ble_eq_true rfl)
        · rw [if_pos c_24] at heq
          refine lv_aload_n hx hb d_mEarly_87 rfl (lv_at hl 0 rfl) ?_
          refine lv_bipush (v := 50) hx hb d_mEarly_88 (by decide) ?_
          refine lv_iconst (v := 2) hx hb d_mEarly_90 (by decide) ?_
          refine gk_goI (wr := []) hW [0, 1, 2, 3, 4, 5, 6, 7, 8, 9] [] rfl rfl (by decide) (by decide) (va_runV (As := [.int 50, .int 2]) (rest := []) ⟨hx, hb, hml, hown, hts⟩ (c_mTell l D cI cL cL g fl rn fs lt kk mk mf ml ma il sz tt fh hd 50 2 _) (gk_cwV hts w_147 w_148 w_149 w_116 k_mTell rfl e_mTell rfl rfl ⟨Nat.le_of_ble_eq_true rfl, Nat.le_of_ble_eq_true rfl⟩) (gk_preV hW [0, 1, 2, 3, 4, 5, 6, 7, 8, 9] rfl rfl rfl rfl) rfl rfl hl.1 rfl (lv_room (Nat.le_of_ble_eq_true rfl)) d_mEarly_91 ⟨Nat.le_of_ble_eq_true rfl, Nat.le_of_ble_eq_true rfl⟩) (fun r_38 u H locs p_40 hW => ?_)
          obtain ⟨rfl, rfl⟩ : r_38 = 50 ∧ u = 2 := Prod.mk.inj (p_40.trans (show (mm_mTell 50 2 hd) = (50, 2) from rfl))
          have hW : gk_W D vwCl (gk_T cI cL) s A H locs (wd_M cI cL g fl rn fs lt kk mk mf ml ma il sz tt fh 2) := hW.re [0, 1, 2, 3, 4, 5, 6, 7, 8, 9] (by decide) rfl
          exact X _ 2 H locs 0 0 94 ls heq hW d_mEarly_94 rfl (Nat.le_of_ble_eq_true rfl) (Nat.le_of_ble_eq_true rfl)
  refine lv_iload_n hx hb d_mEarly_0 rfl (lv_at hl 1 rfl) ?_
  refine lv_if_ne (tgt := 12) hx hb d_mEarly_1 (by decide) (fun c_41 => ?_) (fun c_41 => ?_)
  · rw [if_neg c_41] at heq
    have ic_41 := gk_ne v_x1 (show gk_v 0 0 from rfl) c_41
    refine lv_iload_n hx hb d_mEarly_12 rfl (lv_at hl 1 rfl) ?_
    refine lv_aload_n hx hb d_mEarly_13 rfl (lv_at hl 0 rfl) ?_
    refine va_get (D := D) (C := R_M) (T := F_M) (N := 14) hx hb hts i_M hown hW.1 hW.2.1 0 rfl rfl 10 (by decide) (hts _ w_111) (fun _ h9 => h9) rfl d_mEarly_14 ?_
    refine lv_icmp_ne (tgt := 28) hx hb d_mEarly_17 (by decide) (fun c_42 => ?_) (fun c_42 => ?_)
    · rw [if_neg c_42] at heq
      have ic_42 := gk_ne v_x1 v_sz c_42
      refine lv_aload_n hx hb d_mEarly_28 rfl (lv_at hl 0 rfl) ?_
      refine lv_iload_n hx hb d_mEarly_29 rfl (lv_at hl 1 rfl) ?_
      refine lv_iconst (v := 1) hx hb d_mEarly_30 (by decide) ?_
      refine lv_isub hx hb d_mEarly_31 ?_
      obtain ⟨zt_43, vt_43, et_43⟩ := gk_sub v_x1 (show gk_v 1 1 from rfl) (by omega) (by omega)
      refine gk_goR hW [0, 1, 2, 3, 4, 5, 6, 7, 8, 9] rfl (va_runV (As := [.int (x1 - 1)]) (rest := []) ⟨hx, hb, hml, hown, hts⟩ (c_mClassOf l D cI cL cL g fl rn fs lt kk mk mf ml ma il sz tt fh hd (x1 - 1) z_rn v_rn zt_43 vt_43 (by omega) (by omega) _) (gk_cwV hts w_138 w_139 w_140 w_116 k_mClassOf rfl e_mClassOf rfl rfl ⟨Nat.le_of_ble_eq_true rfl, Nat.le_of_ble_eq_true rfl⟩) (gk_preV hW [0, 1, 2, 3, 4, 5, 6, 7, 8, 9] rfl rfl rfl rfl) rfl rfl hl.1 rfl (lv_room (Nat.le_of_ble_eq_true rfl)) d_mEarly_32 ⟨Nat.le_of_ble_eq_true rfl, Nat.le_of_ble_eq_true rfl⟩) (fun H locs hW => ?_)
      refine lv_istore_n (lv' := [(2, .int (mm_mClassOf (x1 - 1) rn fs lt kk il tt)), (0, .ref (g 0)), (1, .int x1)]) hx hb d_mEarly_35 rfl hl (by decide) rfl (fun ls hl => ?_)
      refine lv_aload_n hx hb d_mEarly_36 rfl (lv_at hl 1 rfl) ?_
      refine lv_iload_n hx hb d_mEarly_37 rfl (lv_at hl 2 rfl) ?_
      refine gk_goR hW [0, 1, 2, 3, 4, 5, 6, 7, 8, 9] rfl (va_runV (As := [.int x1]) (rest := []) ⟨hx, hb, hml, hown, hts⟩ (c_mClassOf l D cI cL cL g fl rn fs lt kk mk mf ml ma il sz tt fh hd x1 z_rn v_rn z_x1 v_x1 (by omega) (by omega) _) (gk_cwV hts w_138 w_139 w_140 w_116 k_mClassOf rfl e_mClassOf rfl rfl ⟨Nat.le_of_ble_eq_true rfl, Nat.le_of_ble_eq_true rfl⟩) (gk_preV hW [0, 1, 2, 3, 4, 5, 6, 7, 8, 9] rfl rfl rfl rfl) rfl rfl hl.1 rfl (lv_room (Nat.le_of_ble_eq_true rfl)) d_mEarly_38 ⟨Nat.le_of_ble_eq_true rfl, Nat.le_of_ble_eq_true rfl⟩) (fun H locs hW => ?_)
      refine lv_istore_n (lv' := [(3, .int (mm_mClassOf x1 rn fs lt kk il tt)), (2, .int (mm_mClassOf (x1 - 1) rn fs lt kk il tt)), (0, .ref (g 0)), (1, .int x1)]) hx hb d_mEarly_41 rfl hl (by decide) rfl (fun ls hl => ?_)
      refine lv_iload_n hx hb d_mEarly_42 rfl (lv_at hl 1 rfl) ?_
      refine lv_if_ne (tgt := 54) hx hb d_mEarly_43 (by decide) (fun c_44 => ?_) (fun c_44 => ?_)
      · rw [if_neg c_44] at heq
        refine lv_iload_n hx hb d_mEarly_54 rfl (lv_at hl 1 rfl) ?_
        refine lv_iconst (v := 1) hx hb d_mEarly_55 (by decide) ?_
        refine lv_icmp_ne (tgt := 72) hx hb d_mEarly_56 (by decide) (fun c_45 => ?_) (fun c_45 => ?_)
        · rw [if_neg c_45] at heq
          exact K72 (mm_mClassOf (x1 - 1) rn fs lt kk il tt) (mm_mClassOf x1 rn fs lt kk il tt) hd H locs ls (by omega) heq hW (lv_sub hl [2, 3, 1, 0] rfl)
        · rw [if_pos c_45] at heq
          refine lv_iload_n hx hb d_mEarly_59 rfl (lv_at hl 0 rfl) ?_
          refine lv_iconst (v := 2) hx hb d_mEarly_60 (by decide) ?_
          refine lv_icmp_ne (tgt := 72) hx hb d_mEarly_61 (by decide) (fun c_46 => ?_) (fun c_46 => ?_)
          · rw [if_neg c_46] at heq
            exact K72 (mm_mClassOf (x1 - 1) rn fs lt kk il tt) (mm_mClassOf x1 rn fs lt kk il tt) hd H locs ls (by omega) heq hW (lv_sub hl [2, 3, 1, 0] rfl)
          · rw [if_pos c_46] at heq
            refine lv_aload_n hx hb d_mEarly_64 rfl (lv_at hl 2 rfl) ?_
            refine lv_bipush (v := 50) hx hb d_mEarly_65 (by decide) ?_
            refine lv_iconst (v := 0) hx hb d_mEarly_67 (by decide) ?_
            refine gk_goI (wr := []) hW [0, 1, 2, 3, 4, 5, 6, 7, 8, 9] [] rfl rfl (by decide) (by decide) (va_runV (As := [.int 50, .int 0]) (rest := []) ⟨hx, hb, hml, hown, hts⟩ (c_mTell l D cI cL cL g fl rn fs lt kk mk mf ml ma il sz tt fh hd 50 0 _) (gk_cwV hts w_147 w_148 w_149 w_116 k_mTell rfl e_mTell rfl rfl ⟨Nat.le_of_ble_eq_true rfl, Nat.le_of_ble_eq_true rfl⟩) (gk_preV hW [0, 1, 2, 3, 4, 5, 6, 7, 8, 9] rfl rfl rfl rfl) rfl rfl hl.1 rfl (lv_room (Nat.le_of_ble_eq_true rfl)) d_mEarly_68 ⟨Nat.le_of_ble_eq_true rfl, Nat.le_of_ble_eq_true rfl⟩) (fun r_47 u H locs p_49 hW => ?_)
            obtain ⟨rfl, rfl⟩ : r_47 = 50 ∧ u = 0 := Prod.mk.inj (p_49.trans (show (mm_mTell 50 0 hd) = (50, 0) from rfl))
            have hW : gk_W D vwCl (gk_T cI cL) s A H locs (wd_M cI cL g fl rn fs lt kk mk mf ml ma il sz tt fh 0) := hW.re [0, 1, 2, 3, 4, 5, 6, 7, 8, 9] (by decide) rfl
            exact X _ 0 H locs 0 0 71 ls heq hW d_mEarly_71 rfl (Nat.le_of_ble_eq_true rfl) (Nat.le_of_ble_eq_true rfl)
      · rw [if_pos c_44] at heq
        refine lv_aload_n hx hb d_mEarly_46 rfl (lv_at hl 2 rfl) ?_
        refine lv_bipush (v := 40) hx hb d_mEarly_47 (by decide) ?_
        refine lv_iconst (v := 2) hx hb d_mEarly_49 (by decide) ?_
        refine gk_goI (wr := []) hW [0, 1, 2, 3, 4, 5, 6, 7, 8, 9] [] rfl rfl (by decide) (by decide) (va_runV (As := [.int 40, .int 2]) (rest := []) ⟨hx, hb, hml, hown, hts⟩ (c_mTell l D cI cL cL g fl rn fs lt kk mk mf ml ma il sz tt fh hd 40 2 _) (gk_cwV hts w_147 w_148 w_149 w_116 k_mTell rfl e_mTell rfl rfl ⟨Nat.le_of_ble_eq_true rfl, Nat.le_of_ble_eq_true rfl⟩) (gk_preV hW [0, 1, 2, 3, 4, 5, 6, 7, 8, 9] rfl rfl rfl rfl) rfl rfl hl.1 rfl (lv_room (Nat.le_of_ble_eq_true rfl)) d_mEarly_50 ⟨Nat.le_of_ble_eq_true rfl, Nat.le_of_ble_eq_true rfl⟩) (fun r_50 u H locs p_52 hW => ?_)
        obtain ⟨rfl, rfl⟩ : r_50 = 40 ∧ u = 2 := Prod.mk.inj (p_52.trans (show (mm_mTell 40 2 hd) = (40, 2) from rfl))
        have hW : gk_W D vwCl (gk_T cI cL) s A H locs (wd_M cI cL g fl rn fs lt kk mk mf ml ma il sz tt fh 2) := hW.re [0, 1, 2, 3, 4, 5, 6, 7, 8, 9] (by decide) rfl
        exact X _ 2 H locs 0 0 53 ls heq hW d_mEarly_53 rfl (Nat.le_of_ble_eq_true rfl) (Nat.le_of_ble_eq_true rfl)
    · rw [if_pos c_42] at heq
      have ic_42 := gk_eq v_x1 v_sz c_42
      refine lv_aload_n hx hb d_mEarly_20 rfl (lv_at hl 0 rfl) ?_
      refine lv_bipush (v := 30) hx hb d_mEarly_21 (by decide) ?_
      refine lv_iconst (v := 2) hx hb d_mEarly_23 (by decide) ?_
      refine gk_goI (wr := []) hW [0, 1, 2, 3, 4, 5, 6, 7, 8, 9] [] rfl rfl (by decide) (by decide) (va_runV (As := [.int 30, .int 2]) (rest := []) ⟨hx, hb, hml, hown, hts⟩ (c_mTell l D cI cL cL g fl rn fs lt kk mk mf ml ma il sz tt fh hd 30 2 _) (gk_cwV hts w_147 w_148 w_149 w_116 k_mTell rfl e_mTell rfl rfl ⟨Nat.le_of_ble_eq_true rfl, Nat.le_of_ble_eq_true rfl⟩) (gk_preV hW [0, 1, 2, 3, 4, 5, 6, 7, 8, 9] rfl rfl rfl rfl) rfl rfl hl.1 rfl (lv_room (Nat.le_of_ble_eq_true rfl)) d_mEarly_24 ⟨Nat.le_of_ble_eq_true rfl, Nat.le_of_ble_eq_true rfl⟩) (fun r_53 u H locs p_55 hW => ?_)
      obtain ⟨rfl, rfl⟩ : r_53 = 30 ∧ u = 2 := Prod.mk.inj (p_55.trans (show (mm_mTell 30 2 hd) = (30, 2) from rfl))
      have hW : gk_W D vwCl (gk_T cI cL) s A H locs (wd_M cI cL g fl rn fs lt kk mk mf ml ma il sz tt fh 2) := hW.re [0, 1, 2, 3, 4, 5, 6, 7, 8, 9] (by decide) rfl
      exact X _ 2 H locs 0 0 27 ls heq hW d_mEarly_27 rfl (Nat.le_of_ble_eq_true rfl) (Nat.le_of_ble_eq_true rfl)
  · rw [if_pos c_41] at heq
    have ic_41 := gk_eq v_x1 (show gk_v 0 0 from rfl) c_41
    refine lv_aload_n hx hb d_mEarly_4 rfl (lv_at hl 0 rfl) ?_
    refine lv_bipush (v := 20) hx hb d_mEarly_5 (by decide) ?_
    refine lv_iconst (v := 0) hx hb d_mEarly_7 (by decide) ?_
    refine gk_goI (wr := []) hW [0, 1, 2, 3, 4, 5, 6, 7, 8, 9] [] rfl rfl (by decide) (by decide) (va_runV (As := [.int 20, .int 0]) (rest := []) ⟨hx, hb, hml, hown, hts⟩ (c_mTell l D cI cL cL g fl rn fs lt kk mk mf ml ma il sz tt fh hd 20 0 _) (gk_cwV hts w_147 w_148 w_149 w_116 k_mTell rfl e_mTell rfl rfl ⟨Nat.le_of_ble_eq_true rfl, Nat.le_of_ble_eq_true rfl⟩) (gk_preV hW [0, 1, 2, 3, 4, 5, 6, 7, 8, 9] rfl rfl rfl rfl) rfl rfl hl.1 rfl (lv_room (Nat.le_of_ble_eq_true rfl)) d_mEarly_8 ⟨Nat.le_of_ble_eq_true rfl, Nat.le_of_ble_eq_true rfl⟩) (fun r_56 u H locs p_58 hW => ?_)
    obtain ⟨rfl, rfl⟩ : r_56 = 20 ∧ u = 0 := Prod.mk.inj (p_58.trans (show (mm_mTell 20 0 hd) = (20, 0) from rfl))
    have hW : gk_W D vwCl (gk_T cI cL) s A H locs (wd_M cI cL g fl rn fs lt kk mk mf ml ma il sz tt fh 0) := hW.re [0, 1, 2, 3, 4, 5, 6, 7, 8, 9] (by decide) rfl
    exact X _ 0 H locs 0 0 11 ls heq hW d_mEarly_11 rfl (Nat.le_of_ble_eq_true rfl) (Nat.le_of_ble_eq_true rfl)
def mm_mBeforeSpaces_23 (x1 rn : Int32) (fs lt kk : Nat → Int32) (il : Int32) (tt : Nat → Int32) (x2 : Int32) : Int32 := (mm_mBaseClass (mm_mBase x2 rn fs lt kk il tt) rn fs lt kk il tt)
def mm_mBeforeSpaces_4 (x1 rn : Int32) (fs lt kk : Nat → Int32) (il : Int32) (tt : Nat → Int32) : Nat → Int32 → Int32
  | 0, x2 => 0
  | n + 1, x2 => if x2 < 0 then (mm_mBeforeSpaces_23 x1 rn fs lt kk il tt x2) else (if (mm_mClassOf x2 rn fs lt kk il tt) = 4 then (mm_mBeforeSpaces_4 x1 rn fs lt kk il tt n (x2 + (-1))) else (mm_mBeforeSpaces_23 x1 rn fs lt kk il tt x2))
def mm_mBeforeSpaces (x1 rn : Int32) (fs lt kk : Nat → Int32) (il : Int32) (tt : Nat → Int32) : Int32 := mm_mBeforeSpaces_4 x1 rn fs lt kk il tt 2100 (x1 - 1)
def rm_mBeforeSpaces : Room := { frames := 4, cells := 0, slots := 0, locals := 90 }
set_option maxHeartbeats 4000000 in
set_option maxRecDepth 100000 in
theorem c_mBeforeSpaces (l : Launch) (D : va_G) (cI : ClassId) (cL cL : ClassId × ClassId) (g : Nat → Nat) (fl rn : Int32) (fs lt kk mk mf ml ma : Nat → Int32) (il sz : Int32) (tt fh : Nat → Int32) (hd x1 : Int32) (z_rn : Int) (v_rn : gk_v rn z_rn) (z_x1 : Int) (v_x1 : gk_v x1 z_x1) (hrn : 0 ≤ z_rn ∧ z_rn ≤ 100) (hx1 : 1 ≤ z_x1 ∧ z_x1 ≤ 2000) : gk_I l y_mBeforeSpaces (.code y_mBeforeSpaces b_mBeforeSpaces 3 (some .int) :: wA) rm_mBeforeSpaces D vwCl (gk_T cI cL) [.ref (g 0), .int x1] (wd_M cI cL g fl rn fs lt kk mk mf ml ma il sz tt fh hd) (fun (r : Int32) (_ : Unit) => r = mm_mBeforeSpaces x1 rn fs lt kk il tt) (fun (_ : Unit) => (wd_M cI cL g fl rn fs lt kk mk mf ml ma il sz tt fh hd)) 0 0 := by
  refine gk_I.of (by decide) (Nat.le_of_ble_eq_true rfl) ?_
  intro p e s m below meth c A ls Q H locs hx hb hml hown hts hW hl X
  have hl : lv_has ls 3 [(0, .ref (g 0)), (1, .int x1)] := hl
  obtain ⟨tgt, heq⟩ : ∃ t, mm_mBeforeSpaces x1 rn fs lt kk il tt = t := ⟨_, rfl⟩
  rw [heq] at X
  rw [mm_mBeforeSpaces] at heq
  obtain ⟨z_il, v_il⟩ := gk_vex il
  have K23 : ∀ (x2 : Int32) (H : Heap) (locs : List Loc) (ls : Array Slot), ∀ (z_x2 : Int), gk_v x2 z_x2 → -1 ≤ z_x2 ∧ z_x2 < 2000 → mm_mBeforeSpaces_23 x1 rn fs lt kk il tt x2 = tgt → gk_W D vwCl (gk_T cI cL) s A H locs (wd_M cI cL g fl rn fs lt kk mk mf ml ma il sz tt fh hd) → lv_has ls 3 [(0, .ref (g 0)), (1, .int x1), (2, .int x2)] → W p l e rm_mBeforeSpaces s m [.ref (g 0), .int x1].toArray below meth c H locs 0 0 Q (F0 m 23 ls []) := by
    intro x2 H locs ls z_x2 v_x2 f23_0 heq hW hl
    rw [mm_mBeforeSpaces_23] at heq
    refine lv_aload_n hx hb d_mBeforeSpaces_23 rfl (lv_at hl 0 rfl) ?_
    refine lv_aload_n hx hb d_mBeforeSpaces_24 rfl (lv_at hl 0 rfl) ?_
    refine lv_iload_n hx hb d_mBeforeSpaces_25 rfl (lv_at hl 2 rfl) ?_
    refine gk_goR hW [0, 1, 2, 3, 4, 5, 6, 7, 8, 9] rfl (va_runV (As := [.int x2]) (rest := [.ref (g 0)]) ⟨hx, hb, hml, hown, hts⟩ (c_mBase l D cI cL cL g fl rn fs lt kk mk mf ml ma il sz tt fh hd x2 z_rn v_rn z_x2 v_x2 (by omega) (by omega) _) (gk_cwV hts w_150 w_151 w_152 w_116 k_mBase rfl e_mBase rfl rfl ⟨Nat.le_of_ble_eq_true rfl, Nat.le_of_ble_eq_true rfl⟩) (gk_preV hW [0, 1, 2, 3, 4, 5, 6, 7, 8, 9] rfl rfl rfl rfl) rfl rfl hl.1 rfl (lv_room (Nat.le_of_ble_eq_true rfl)) d_mBeforeSpaces_26 ⟨Nat.le_of_ble_eq_true rfl, Nat.le_of_ble_eq_true rfl⟩) (fun H locs hW => ?_)
    obtain ⟨zb_1, vb_1, hb_1⟩ := mm_mBase_bd x2 rn fs lt kk il tt z_x2 v_x2 (by omega)
    refine gk_goR hW [0, 1, 2, 3, 4, 5, 6, 7, 8, 9] rfl (va_runV (As := [.int (mm_mBase x2 rn fs lt kk il tt)]) (rest := []) ⟨hx, hb, hml, hown, hts⟩ (c_mBaseClass l D cI cL cL g fl rn fs lt kk mk mf ml ma il sz tt fh hd (mm_mBase x2 rn fs lt kk il tt) z_rn v_rn zb_1 vb_1 (by omega) (by omega) _) (gk_cwV hts w_153 w_154 w_155 w_116 k_mBaseClass rfl e_mBaseClass rfl rfl ⟨Nat.le_of_ble_eq_true rfl, Nat.le_of_ble_eq_true rfl⟩) (gk_preV hW [0, 1, 2, 3, 4, 5, 6, 7, 8, 9] rfl rfl rfl rfl) rfl rfl hl.1 rfl (lv_room (Nat.le_of_ble_eq_true rfl)) d_mBeforeSpaces_29 ⟨Nat.le_of_ble_eq_true rfl, Nat.le_of_ble_eq_true rfl⟩) (fun H locs hW => ?_)
    exact X _ () H locs 0 0 32 ls heq hW d_mBeforeSpaces_32 rfl (Nat.le_of_ble_eq_true rfl) (Nat.le_of_ble_eq_true rfl)
  have L4 : ∀ (n : Nat) (x2 : Int32) (H : Heap) (locs : List Loc) (ls : Array Slot), ∀ (z_x2 : Int), gk_v x2 z_x2 → (z_x2 + 2) < (n : Int) → -1 ≤ z_x2 ∧ z_x2 < 2000 → mm_mBeforeSpaces_4 x1 rn fs lt kk il tt n x2 = tgt → gk_W D vwCl (gk_T cI cL) s A H locs (wd_M cI cL g fl rn fs lt kk mk mf ml ma il sz tt fh hd) → lv_has ls 3 [(0, .ref (g 0)), (1, .int x1), (2, .int x2)] → W p l e rm_mBeforeSpaces s m [.ref (g 0), .int x1].toArray below meth c H locs 0 0 Q (F0 m 4 ls []) := by
    intro n
    induction n with
    | zero => intro x2 H locs ls z_x2 v_x2 hm f4_0 heq hW hl; exfalso; omega
    | succ n ih =>
      intro x2 H locs ls z_x2 v_x2 hm f4_0 heq hW hl
      rw [mm_mBeforeSpaces_4] at heq
      refine lv_iload_n hx hb d_mBeforeSpaces_4 rfl (lv_at hl 2 rfl) ?_
      refine lv_if_lt (tgt := 23) hx hb d_mBeforeSpaces_5 (by decide) (fun c_2 => ?_) (fun c_2 => ?_)
      · rw [if_pos c_2] at heq
        have ic_2 := gk_lt v_x2 (show gk_v 0 0 from rfl) c_2
        exact K23 x2 H locs ls z_x2 v_x2 (by omega) heq hW (lv_sub hl [0, 1, 2] rfl)
      · rw [if_neg c_2] at heq
        have ic_2 := gk_nlt v_x2 (show gk_v 0 0 from rfl) c_2
        refine lv_aload_n hx hb d_mBeforeSpaces_8 rfl (lv_at hl 0 rfl) ?_
        refine lv_iload_n hx hb d_mBeforeSpaces_9 rfl (lv_at hl 2 rfl) ?_
        refine gk_goR hW [0, 1, 2, 3, 4, 5, 6, 7, 8, 9] rfl (va_runV (As := [.int x2]) (rest := []) ⟨hx, hb, hml, hown, hts⟩ (c_mClassOf l D cI cL cL g fl rn fs lt kk mk mf ml ma il sz tt fh hd x2 z_rn v_rn z_x2 v_x2 (by omega) (by omega) _) (gk_cwV hts w_138 w_139 w_140 w_116 k_mClassOf rfl e_mClassOf rfl rfl ⟨Nat.le_of_ble_eq_true rfl, Nat.le_of_ble_eq_true rfl⟩) (gk_preV hW [0, 1, 2, 3, 4, 5, 6, 7, 8, 9] rfl rfl rfl rfl) rfl rfl hl.1 rfl (lv_room (Nat.le_of_ble_eq_true rfl)) d_mBeforeSpaces_10 ⟨Nat.le_of_ble_eq_true rfl, Nat.le_of_ble_eq_true rfl⟩) (fun H locs hW => ?_)
        refine lv_iconst (v := 4) hx hb d_mBeforeSpaces_13 (by decide) ?_
        refine lv_icmp_ne (tgt := 23) hx hb d_mBeforeSpaces_14 (by decide) (fun c_3 => ?_) (fun c_3 => ?_)
        · rw [if_neg c_3] at heq
          exact K23 x2 H locs ls z_x2 v_x2 (by omega) heq hW (lv_sub hl [0, 1, 2] rfl)
        · rw [if_pos c_3] at heq
          refine lv_iinc (v := x2 + (-1)) (lv' := [(2, .int (x2 + (-1))), (0, .ref (g 0)), (1, .int x1)]) hx hb d_mBeforeSpaces_17 hl (k := 2) rfl rfl (by decide) rfl (fun ls hl => ?_)
          obtain ⟨zt_4, vt_4, et_4⟩ := gk_add v_x2 (show gk_v (-1) (-1) from rfl) (by omega) (by omega)
          refine lv_goto (tgt := 4) hx hb d_mBeforeSpaces_20 (by decide) ?_
          exact ih (x2 + (-1)) H locs ls zt_4 vt_4 (by omega) (by omega) heq hW (lv_sub hl [1, 2, 0] rfl)
  refine lv_iload_n hx hb d_mBeforeSpaces_0 rfl (lv_at hl 1 rfl) ?_
  refine lv_iconst (v := 1) hx hb d_mBeforeSpaces_1 (by decide) ?_
  refine lv_isub hx hb d_mBeforeSpaces_2 ?_
  obtain ⟨zt_5, vt_5, et_5⟩ := gk_sub v_x1 (show gk_v 1 1 from rfl) (by omega) (by omega)
  refine lv_istore_n (lv' := [(2, .int (x1 - 1)), (0, .ref (g 0)), (1, .int x1)]) hx hb d_mBeforeSpaces_3 rfl hl (by decide) rfl (fun ls hl => ?_)
  exact L4 2100 (x1 - 1) H locs ls zt_5 vt_5 (by omega) (by omega) heq hW (lv_sub hl [1, 2, 0] rfl)
def mm_mMiddle_200 (x1 x2 x3 rn : Int32) (fs lt kk : Nat → Int32) (il : Int32) (tt : Nat → Int32) (x4 hd : Int32) : Int32 × Int32 := if x2 = 4 then (180, 1) else (if x2 = 21 then (190, 0) else (if x3 = 21 then (190, 0) else (if x2 = 14 then (200, 1) else (if x3 = 14 then (200, 1) else (0, hd)))))
def mm_mMiddle_178 (x1 x2 x3 rn : Int32) (fs lt kk : Nat → Int32) (il : Int32) (tt : Nat → Int32) (x4 hd : Int32) : Int32 × Int32 := if x4 = 10 then (if x3 = 10 then (170, 0) else (mm_mMiddle_200 x1 x2 x3 rn fs lt kk il tt x4 hd)) else (mm_mMiddle_200 x1 x2 x3 rn fs lt kk il tt x4 hd)
def mm_mMiddle_163 (x1 x2 x3 rn : Int32) (fs lt kk : Nat → Int32) (il : Int32) (tt : Nat → Int32) (x4 hd : Int32) : Int32 × Int32 := if x3 = 19 then (160, 0) else (mm_mMiddle_178 x1 x2 x3 rn fs lt kk il tt x4 hd)
def mm_mMiddle_149 (x1 x2 x3 rn : Int32) (fs lt kk : Nat → Int32) (il : Int32) (tt : Nat → Int32) (x4 hd : Int32) : Int32 × Int32 := if x4 = 15 then (mm_mMiddle_163 x1 x2 x3 rn fs lt kk il tt x4 hd) else (if x4 = 16 then (mm_mMiddle_163 x1 x2 x3 rn fs lt kk il tt x4 hd) else (mm_mMiddle_178 x1 x2 x3 rn fs lt kk il tt x4 hd))
def mm_mMiddle_65 (x1 x2 x3 rn : Int32) (fs lt kk : Nat → Int32) (il : Int32) (tt : Nat → Int32) (hd : Int32) : Int32 × Int32 := if x3 = 15 then (130, 0) else (if x3 = 16 then (130, 0) else (if x3 = 17 then (130, 0) else (if x3 = 22 then (130, 0) else (if x3 = 26 then (130, 0) else (if (mm_mBeforeSpaces x1 rn fs lt kk il tt) = 20 then (140, 0) else (if (mm_mBeforeSpaces x1 rn fs lt kk il tt) = 21 then (if x3 = 20 then (150, 0) else (mm_mMiddle_149 x1 x2 x3 rn fs lt kk il tt (mm_mBeforeSpaces x1 rn fs lt kk il tt) hd)) else (mm_mMiddle_149 x1 x2 x3 rn fs lt kk il tt (mm_mBeforeSpaces x1 rn fs lt kk il tt) hd)))))))
def mm_mMiddle (x1 x2 x3 rn : Int32) (fs lt kk : Nat → Int32) (il : Int32) (tt : Nat → Int32) (hd : Int32) : Int32 × Int32 := if x2 = 6 then (110, 0) else (if x3 = 6 then (110, 0) else (if x2 = 9 then (120, 0) else (if x3 = 9 then (if x2 = 4 then (mm_mMiddle_65 x1 x2 x3 rn fs lt kk il tt hd) else (if x2 = 11 then (mm_mMiddle_65 x1 x2 x3 rn fs lt kk il tt hd) else (if x2 = 13 then (mm_mMiddle_65 x1 x2 x3 rn fs lt kk il tt hd) else (121, 0)))) else (mm_mMiddle_65 x1 x2 x3 rn fs lt kk il tt hd))))
def rm_mMiddle : Room := { frames := 5, cells := 0, slots := 0, locals := 112 }
set_option maxHeartbeats 4000000 in
set_option maxRecDepth 100000 in
theorem c_mMiddle (l : Launch) (D : va_G) (cI : ClassId) (cL cL : ClassId × ClassId) (g : Nat → Nat) (fl rn : Int32) (fs lt kk mk mf ml ma : Nat → Int32) (il sz : Int32) (tt fh : Nat → Int32) (hd x1 x2 x3 : Int32) (z_rn : Int) (v_rn : gk_v rn z_rn) (z_x1 : Int) (v_x1 : gk_v x1 z_x1) (hrn : 0 ≤ z_rn ∧ z_rn ≤ 100) (hx1 : 1 ≤ z_x1 ∧ z_x1 ≤ 2000) : gk_I l y_mMiddle (.code y_mMiddle b_mMiddle 5 (some .int) :: wA) rm_mMiddle D vwCl (gk_T cI cL) [.ref (g 0), .int x1, .int x2, .int x3] (wd_M cI cL g fl rn fs lt kk mk mf ml ma il sz tt fh hd) (fun (r : Int32) (u : Int32) => (r, u) = mm_mMiddle x1 x2 x3 rn fs lt kk il tt hd) (fun u => (wd_M cI cL g fl rn fs lt kk mk mf ml ma il sz tt fh u)) 0 0 := by
  refine gk_I.of (by decide) (Nat.le_of_ble_eq_true rfl) ?_
  intro p e s m below meth c A ls Q H locs hx hb hml hown hts hW hl X
  have hl : lv_has ls 5 [(0, .ref (g 0)), (1, .int x1), (2, .int x2), (3, .int x3)] := hl
  obtain ⟨tgt, heq⟩ : ∃ t, mm_mMiddle x1 x2 x3 rn fs lt kk il tt hd = t := ⟨_, rfl⟩
  rw [heq] at X
  rw [mm_mMiddle] at heq
  obtain ⟨z_x2, v_x2⟩ := gk_vex x2
  obtain ⟨z_x3, v_x3⟩ := gk_vex x3
  obtain ⟨z_il, v_il⟩ := gk_vex il
  have K200 : ∀ (x4 hd : Int32) (H : Heap) (locs : List Loc) (ls : Array Slot), mm_mMiddle_200 x1 x2 x3 rn fs lt kk il tt x4 hd = tgt → gk_W D vwCl (gk_T cI cL) s A H locs (wd_M cI cL g fl rn fs lt kk mk mf ml ma il sz tt fh hd) → lv_has ls 5 [(0, .ref (g 0)), (1, .int x1), (2, .int x2), (3, .int x3), (4, .int x4)] → W p l e rm_mMiddle s m [.ref (g 0), .int x1, .int x2, .int x3].toArray below meth c H locs 0 0 Q (F0 m 200 ls []) := by
    intro x4 hd H locs ls heq hW hl
    rw [mm_mMiddle_200] at heq
    refine lv_iload_n hx hb d_mMiddle_200 rfl (lv_at hl 2 rfl) ?_
    refine lv_iconst (v := 4) hx hb d_mMiddle_201 (by decide) ?_
    refine lv_icmp_ne (tgt := 214) hx hb d_mMiddle_202 (by decide) (fun c_1 => ?_) (fun c_1 => ?_)
    · rw [if_neg c_1] at heq
      refine lv_iload_n hx hb d_mMiddle_214 rfl (lv_at hl 2 rfl) ?_
      refine lv_bipush (v := 21) hx hb d_mMiddle_215 (by decide) ?_
      refine lv_icmp_eq (tgt := 226) hx hb d_mMiddle_217 (by decide) (fun c_2 => ?_) (fun c_2 => ?_)
      · rw [if_pos c_2] at heq
        refine lv_aload_n hx hb d_mMiddle_226 rfl (lv_at hl 0 rfl) ?_
        refine lv_sipush (v := 190) hx hb d_mMiddle_227 (by decide) ?_
        refine lv_iconst (v := 0) hx hb d_mMiddle_230 (by decide) ?_
        refine gk_goI (wr := []) hW [0, 1, 2, 3, 4, 5, 6, 7, 8, 9] [] rfl rfl (by decide) (by decide) (va_runV (As := [.int 190, .int 0]) (rest := []) ⟨hx, hb, hml, hown, hts⟩ (c_mTell l D cI cL cL g fl rn fs lt kk mk mf ml ma il sz tt fh hd 190 0 _) (gk_cwV hts w_147 w_148 w_149 w_116 k_mTell rfl e_mTell rfl rfl ⟨Nat.le_of_ble_eq_true rfl, Nat.le_of_ble_eq_true rfl⟩) (gk_preV hW [0, 1, 2, 3, 4, 5, 6, 7, 8, 9] rfl rfl rfl rfl) rfl rfl hl.1 rfl (lv_room (Nat.le_of_ble_eq_true rfl)) d_mMiddle_231 ⟨Nat.le_of_ble_eq_true rfl, Nat.le_of_ble_eq_true rfl⟩) (fun r_3 u H locs p_5 hW => ?_)
        obtain ⟨rfl, rfl⟩ : r_3 = 190 ∧ u = 0 := Prod.mk.inj (p_5.trans (show (mm_mTell 190 0 hd) = (190, 0) from rfl))
        have hW : gk_W D vwCl (gk_T cI cL) s A H locs (wd_M cI cL g fl rn fs lt kk mk mf ml ma il sz tt fh 0) := hW.re [0, 1, 2, 3, 4, 5, 6, 7, 8, 9] (by decide) rfl
        exact X _ 0 H locs 0 0 234 ls heq hW d_mMiddle_234 rfl (Nat.le_of_ble_eq_true rfl) (Nat.le_of_ble_eq_true rfl)
      · rw [if_neg c_2] at heq
        refine lv_iload_n hx hb d_mMiddle_220 rfl (lv_at hl 3 rfl) ?_
        refine lv_bipush (v := 21) hx hb d_mMiddle_221 (by decide) ?_
        refine lv_icmp_ne (tgt := 235) hx hb d_mMiddle_223 (by decide) (fun c_6 => ?_) (fun c_6 => ?_)
        · rw [if_neg c_6] at heq
          refine lv_iload_n hx hb d_mMiddle_235 rfl (lv_at hl 2 rfl) ?_
          refine lv_bipush (v := 14) hx hb d_mMiddle_236 (by decide) ?_
          refine lv_icmp_eq (tgt := 247) hx hb d_mMiddle_238 (by decide) (fun c_7 => ?_) (fun c_7 => ?_)
          · rw [if_pos c_7] at heq
            refine lv_aload_n hx hb d_mMiddle_247 rfl (lv_at hl 0 rfl) ?_
            refine lv_sipush (v := 200) hx hb d_mMiddle_248 (by decide) ?_
            refine lv_iconst (v := 1) hx hb d_mMiddle_251 (by decide) ?_
            refine gk_goI (wr := []) hW [0, 1, 2, 3, 4, 5, 6, 7, 8, 9] [] rfl rfl (by decide) (by decide) (va_runV (As := [.int 200, .int 1]) (rest := []) ⟨hx, hb, hml, hown, hts⟩ (c_mTell l D cI cL cL g fl rn fs lt kk mk mf ml ma il sz tt fh hd 200 1 _) (gk_cwV hts w_147 w_148 w_149 w_116 k_mTell rfl e_mTell rfl rfl ⟨Nat.le_of_ble_eq_true rfl, Nat.le_of_ble_eq_true rfl⟩) (gk_preV hW [0, 1, 2, 3, 4, 5, 6, 7, 8, 9] rfl rfl rfl rfl) rfl rfl hl.1 rfl (lv_room (Nat.le_of_ble_eq_true rfl)) d_mMiddle_252 ⟨Nat.le_of_ble_eq_true rfl, Nat.le_of_ble_eq_true rfl⟩) (fun r_8 u H locs p_10 hW => ?_)
            obtain ⟨rfl, rfl⟩ : r_8 = 200 ∧ u = 1 := Prod.mk.inj (p_10.trans (show (mm_mTell 200 1 hd) = (200, 1) from rfl))
            have hW : gk_W D vwCl (gk_T cI cL) s A H locs (wd_M cI cL g fl rn fs lt kk mk mf ml ma il sz tt fh 1) := hW.re [0, 1, 2, 3, 4, 5, 6, 7, 8, 9] (by decide) rfl
            refine lv_goto (tgt := 259) hx hb d_mMiddle_255 (by decide) ?_
            exact X _ 1 H locs 0 0 259 ls heq hW d_mMiddle_259 rfl (Nat.le_of_ble_eq_true rfl) (Nat.le_of_ble_eq_true rfl)
          · rw [if_neg c_7] at heq
            refine lv_iload_n hx hb d_mMiddle_241 rfl (lv_at hl 3 rfl) ?_
            refine lv_bipush (v := 14) hx hb d_mMiddle_242 (by decide) ?_
            refine lv_icmp_ne (tgt := 258) hx hb d_mMiddle_244 (by decide) (fun c_11 => ?_) (fun c_11 => ?_)
            · rw [if_neg c_11] at heq
              refine lv_iconst (v := 0) hx hb d_mMiddle_258 (by decide) ?_
              exact X _ hd H locs 0 0 259 ls heq hW d_mMiddle_259 rfl (Nat.le_of_ble_eq_true rfl) (Nat.le_of_ble_eq_true rfl)
            · rw [if_pos c_11] at heq
              refine lv_aload_n hx hb d_mMiddle_247 rfl (lv_at hl 0 rfl) ?_
              refine lv_sipush (v := 200) hx hb d_mMiddle_248 (by decide) ?_
              refine lv_iconst (v := 1) hx hb d_mMiddle_251 (by decide) ?_
              refine gk_goI (wr := []) hW [0, 1, 2, 3, 4, 5, 6, 7, 8, 9] [] rfl rfl (by decide) (by decide) (va_runV (As := [.int 200, .int 1]) (rest := []) ⟨hx, hb, hml, hown, hts⟩ (c_mTell l D cI cL cL g fl rn fs lt kk mk mf ml ma il sz tt fh hd 200 1 _) (gk_cwV hts w_147 w_148 w_149 w_116 k_mTell rfl e_mTell rfl rfl ⟨Nat.le_of_ble_eq_true rfl, Nat.le_of_ble_eq_true rfl⟩) (gk_preV hW [0, 1, 2, 3, 4, 5, 6, 7, 8, 9] rfl rfl rfl rfl) rfl rfl hl.1 rfl (lv_room (Nat.le_of_ble_eq_true rfl)) d_mMiddle_252 ⟨Nat.le_of_ble_eq_true rfl, Nat.le_of_ble_eq_true rfl⟩) (fun r_12 u H locs p_14 hW => ?_)
              obtain ⟨rfl, rfl⟩ : r_12 = 200 ∧ u = 1 := Prod.mk.inj (p_14.trans (show (mm_mTell 200 1 hd) = (200, 1) from rfl))
              have hW : gk_W D vwCl (gk_T cI cL) s A H locs (wd_M cI cL g fl rn fs lt kk mk mf ml ma il sz tt fh 1) := hW.re [0, 1, 2, 3, 4, 5, 6, 7, 8, 9] (by decide) rfl
              refine lv_goto (tgt := 259) hx hb d_mMiddle_255 (by decide) ?_
              exact X _ 1 H locs 0 0 259 ls heq hW d_mMiddle_259 rfl (Nat.le_of_ble_eq_true rfl) (Nat.le_of_ble_eq_true rfl)
        · rw [if_pos c_6] at heq
          refine lv_aload_n hx hb d_mMiddle_226 rfl (lv_at hl 0 rfl) ?_
          refine lv_sipush (v := 190) hx hb d_mMiddle_227 (by decide) ?_
          refine lv_iconst (v := 0) hx hb d_mMiddle_230 (by decide) ?_
          refine gk_goI (wr := []) hW [0, 1, 2, 3, 4, 5, 6, 7, 8, 9] [] rfl rfl (by decide) (by decide) (va_runV (As := [.int 190, .int 0]) (rest := []) ⟨hx, hb, hml, hown, hts⟩ (c_mTell l D cI cL cL g fl rn fs lt kk mk mf ml ma il sz tt fh hd 190 0 _) (gk_cwV hts w_147 w_148 w_149 w_116 k_mTell rfl e_mTell rfl rfl ⟨Nat.le_of_ble_eq_true rfl, Nat.le_of_ble_eq_true rfl⟩) (gk_preV hW [0, 1, 2, 3, 4, 5, 6, 7, 8, 9] rfl rfl rfl rfl) rfl rfl hl.1 rfl (lv_room (Nat.le_of_ble_eq_true rfl)) d_mMiddle_231 ⟨Nat.le_of_ble_eq_true rfl, Nat.le_of_ble_eq_true rfl⟩) (fun r_15 u H locs p_17 hW => ?_)
          obtain ⟨rfl, rfl⟩ : r_15 = 190 ∧ u = 0 := Prod.mk.inj (p_17.trans (show (mm_mTell 190 0 hd) = (190, 0) from rfl))
          have hW : gk_W D vwCl (gk_T cI cL) s A H locs (wd_M cI cL g fl rn fs lt kk mk mf ml ma il sz tt fh 0) := hW.re [0, 1, 2, 3, 4, 5, 6, 7, 8, 9] (by decide) rfl
          exact X _ 0 H locs 0 0 234 ls heq hW d_mMiddle_234 rfl (Nat.le_of_ble_eq_true rfl) (Nat.le_of_ble_eq_true rfl)
    · rw [if_pos c_1] at heq
      refine lv_aload_n hx hb d_mMiddle_205 rfl (lv_at hl 0 rfl) ?_
      refine lv_sipush (v := 180) hx hb d_mMiddle_206 (by decide) ?_
      refine lv_iconst (v := 1) hx hb d_mMiddle_209 (by decide) ?_
      refine gk_goI (wr := []) hW [0, 1, 2, 3, 4, 5, 6, 7, 8, 9] [] rfl rfl (by decide) (by decide) (va_runV (As := [.int 180, .int 1]) (rest := []) ⟨hx, hb, hml, hown, hts⟩ (c_mTell l D cI cL cL g fl rn fs lt kk mk mf ml ma il sz tt fh hd 180 1 _) (gk_cwV hts w_147 w_148 w_149 w_116 k_mTell rfl e_mTell rfl rfl ⟨Nat.le_of_ble_eq_true rfl, Nat.le_of_ble_eq_true rfl⟩) (gk_preV hW [0, 1, 2, 3, 4, 5, 6, 7, 8, 9] rfl rfl rfl rfl) rfl rfl hl.1 rfl (lv_room (Nat.le_of_ble_eq_true rfl)) d_mMiddle_210 ⟨Nat.le_of_ble_eq_true rfl, Nat.le_of_ble_eq_true rfl⟩) (fun r_18 u H locs p_20 hW => ?_)
      obtain ⟨rfl, rfl⟩ : r_18 = 180 ∧ u = 1 := Prod.mk.inj (p_20.trans (show (mm_mTell 180 1 hd) = (180, 1) from rfl))
      have hW : gk_W D vwCl (gk_T cI cL) s A H locs (wd_M cI cL g fl rn fs lt kk mk mf ml ma il sz tt fh 1) := hW.re [0, 1, 2, 3, 4, 5, 6, 7, 8, 9] (by decide) rfl
      exact X _ 1 H locs 0 0 213 ls heq hW d_mMiddle_213 rfl (Nat.le_of_ble_eq_true rfl) (Nat.le_of_ble_eq_true rfl)
  have K178 : ∀ (x4 hd : Int32) (H : Heap) (locs : List Loc) (ls : Array Slot), mm_mMiddle_178 x1 x2 x3 rn fs lt kk il tt x4 hd = tgt → gk_W D vwCl (gk_T cI cL) s A H locs (wd_M cI cL g fl rn fs lt kk mk mf ml ma il sz tt fh hd) → lv_has ls 5 [(0, .ref (g 0)), (1, .int x1), (2, .int x2), (3, .int x3), (4, .int x4)] → W p l e rm_mMiddle s m [.ref (g 0), .int x1, .int x2, .int x3].toArray below meth c H locs 0 0 Q (F0 m 178 ls []) := by
    intro x4 hd H locs ls heq hW hl
    rw [mm_mMiddle_178] at heq
    refine lv_iload hx hb d_mMiddle_178 (lv_at hl 4 rfl) ?_
    refine lv_bipush (v := 10) hx hb d_mMiddle_180 (by decide) ?_
    refine lv_icmp_ne (tgt := 200) hx hb d_mMiddle_182 (by decide) (fun c_21 => ?_) (fun c_21 => ?_)
    · rw [if_neg c_21] at heq
      exact K200 x4 hd H locs ls heq hW (lv_sub hl [0, 1, 2, 3, 4] rfl)
    · rw [if_pos c_21] at heq
      refine lv_iload_n hx hb d_mMiddle_185 rfl (lv_at hl 3 rfl) ?_
      refine lv_bipush (v := 10) hx hb d_mMiddle_186 (by decide) ?_
      refine lv_icmp_ne (tgt := 200) hx hb d_mMiddle_188 (by decide) (fun c_22 => ?_) (fun c_22 => ?_)
      · rw [if_neg c_22] at heq
        exact K200 x4 hd H locs ls heq hW (lv_sub hl [0, 1, 2, 3, 4] rfl)
      · rw [if_pos c_22] at heq
        refine lv_aload_n hx hb d_mMiddle_191 rfl (lv_at hl 0 rfl) ?_
        refine lv_sipush (v := 170) hx hb d_mMiddle_192 (by decide) ?_
        refine lv_iconst (v := 0) hx hb d_mMiddle_195 (by decide) ?_
        refine gk_goI (wr := []) hW [0, 1, 2, 3, 4, 5, 6, 7, 8, 9] [] rfl rfl (by decide) (by decide) (va_runV (As := [.int 170, .int 0]) (rest := []) ⟨hx, hb, hml, hown, hts⟩ (c_mTell l D cI cL cL g fl rn fs lt kk mk mf ml ma il sz tt fh hd 170 0 _) (gk_cwV hts w_147 w_148 w_149 w_116 k_mTell rfl e_mTell rfl rfl ⟨Nat.le_of_ble_eq_true rfl, Nat.le_of_ble_eq_true rfl⟩) (gk_preV hW [0, 1, 2, 3, 4, 5, 6, 7, 8, 9] rfl rfl rfl rfl) rfl rfl hl.1 rfl (lv_room (Nat.le_of_ble_eq_true rfl)) d_mMiddle_196 ⟨Nat.le_of_ble_eq_true rfl, Nat.le_of_ble_eq_true rfl⟩) (fun r_23 u H locs p_25 hW => ?_)
        obtain ⟨rfl, rfl⟩ : r_23 = 170 ∧ u = 0 := Prod.mk.inj (p_25.trans (show (mm_mTell 170 0 hd) = (170, 0) from rfl))
        have hW : gk_W D vwCl (gk_T cI cL) s A H locs (wd_M cI cL g fl rn fs lt kk mk mf ml ma il sz tt fh 0) := hW.re [0, 1, 2, 3, 4, 5, 6, 7, 8, 9] (by decide) rfl
        exact X _ 0 H locs 0 0 199 ls heq hW d_mMiddle_199 rfl (Nat.le_of_ble_eq_true rfl) (Nat.le_of_ble_eq_true rfl)
  have K163 : ∀ (x4 hd : Int32) (H : Heap) (locs : List Loc) (ls : Array Slot), mm_mMiddle_163 x1 x2 x3 rn fs lt kk il tt x4 hd = tgt → gk_W D vwCl (gk_T cI cL) s A H locs (wd_M cI cL g fl rn fs lt kk mk mf ml ma il sz tt fh hd) → lv_has ls 5 [(0, .ref (g 0)), (1, .int x1), (2, .int x2), (3, .int x3), (4, .int x4)] → W p l e rm_mMiddle s m [.ref (g 0), .int x1, .int x2, .int x3].toArray below meth c H locs 0 0 Q (F0 m 163 ls []) := by
    intro x4 hd H locs ls heq hW hl
    rw [mm_mMiddle_163] at heq
    refine lv_iload_n hx hb d_mMiddle_163 rfl (lv_at hl 3 rfl) ?_
    refine lv_bipush (v := 19) hx hb d_mMiddle_164 (by decide) ?_
    refine lv_icmp_ne (tgt := 178) hx hb d_mMiddle_166 (by decide) (fun c_26 => ?_) (fun c_26 => ?_)
    · rw [if_neg c_26] at heq
      exact K178 x4 hd H locs ls heq hW (lv_sub hl [0, 1, 2, 3, 4] rfl)
    · rw [if_pos c_26] at heq
      refine lv_aload_n hx hb d_mMiddle_169 rfl (lv_at hl 0 rfl) ?_
      refine lv_sipush (v := 160) hx hb d_mMiddle_170 (by decide) ?_
      refine lv_iconst (v := 0) hx hb d_mMiddle_173 (by decide) ?_
      refine gk_goI (wr := []) hW [0, 1, 2, 3, 4, 5, 6, 7, 8, 9] [] rfl rfl (by decide) (by decide) (va_runV (As := [.int 160, .int 0]) (rest := []) ⟨hx, hb, hml, hown, hts⟩ (c_mTell l D cI cL cL g fl rn fs lt kk mk mf ml ma il sz tt fh hd 160 0 _) (gk_cwV hts w_147 w_148 w_149 w_116 k_mTell rfl e_mTell rfl rfl ⟨Nat.le_of_ble_eq_true rfl, Nat.le_of_ble_eq_true rfl⟩) (gk_preV hW [0, 1, 2, 3, 4, 5, 6, 7, 8, 9] rfl rfl rfl rfl) rfl rfl hl.1 rfl (lv_room (Nat.le_of_ble_eq_true rfl)) d_mMiddle_174 ⟨Nat.le_of_ble_eq_true rfl, Nat.le_of_ble_eq_true rfl⟩) (fun r_27 u H locs p_29 hW => ?_)
      obtain ⟨rfl, rfl⟩ : r_27 = 160 ∧ u = 0 := Prod.mk.inj (p_29.trans (show (mm_mTell 160 0 hd) = (160, 0) from rfl))
      have hW : gk_W D vwCl (gk_T cI cL) s A H locs (wd_M cI cL g fl rn fs lt kk mk mf ml ma il sz tt fh 0) := hW.re [0, 1, 2, 3, 4, 5, 6, 7, 8, 9] (by decide) rfl
      exact X _ 0 H locs 0 0 177 ls heq hW d_mMiddle_177 rfl (Nat.le_of_ble_eq_true rfl) (Nat.le_of_ble_eq_true rfl)
  have K149 : ∀ (x4 hd : Int32) (H : Heap) (locs : List Loc) (ls : Array Slot), mm_mMiddle_149 x1 x2 x3 rn fs lt kk il tt x4 hd = tgt → gk_W D vwCl (gk_T cI cL) s A H locs (wd_M cI cL g fl rn fs lt kk mk mf ml ma il sz tt fh hd) → lv_has ls 5 [(0, .ref (g 0)), (1, .int x1), (2, .int x2), (3, .int x3), (4, .int x4)] → W p l e rm_mMiddle s m [.ref (g 0), .int x1, .int x2, .int x3].toArray below meth c H locs 0 0 Q (F0 m 149 ls []) := by
    intro x4 hd H locs ls heq hW hl
    rw [mm_mMiddle_149] at heq
    refine lv_iload hx hb d_mMiddle_149 (lv_at hl 4 rfl) ?_
    refine lv_bipush (v := 15) hx hb d_mMiddle_151 (by decide) ?_
    refine lv_icmp_eq (tgt := 163) hx hb d_mMiddle_153 (by decide) (fun c_30 => ?_) (fun c_30 => ?_)
    · rw [if_pos c_30] at heq
      exact K163 x4 hd H locs ls heq hW (lv_sub hl [0, 1, 2, 3, 4] rfl)
    · rw [if_neg c_30] at heq
      refine lv_iload hx hb d_mMiddle_156 (lv_at hl 4 rfl) ?_
      refine lv_bipush (v := 16) hx hb d_mMiddle_158 (by decide) ?_
      refine lv_icmp_ne (tgt := 178) hx hb d_mMiddle_160 (by decide) (fun c_31 => ?_) (fun c_31 => ?_)
      · rw [if_neg c_31] at heq
        exact K178 x4 hd H locs ls heq hW (lv_sub hl [0, 1, 2, 3, 4] rfl)
      · rw [if_pos c_31] at heq
        exact K163 x4 hd H locs ls heq hW (lv_sub hl [0, 1, 2, 3, 4] rfl)
  have K65 : ∀ (hd : Int32) (H : Heap) (locs : List Loc) (ls : Array Slot), mm_mMiddle_65 x1 x2 x3 rn fs lt kk il tt hd = tgt → gk_W D vwCl (gk_T cI cL) s A H locs (wd_M cI cL g fl rn fs lt kk mk mf ml ma il sz tt fh hd) → lv_has ls 5 [(0, .ref (g 0)), (1, .int x1), (2, .int x2), (3, .int x3)] → W p l e rm_mMiddle s m [.ref (g 0), .int x1, .int x2, .int x3].toArray below meth c H locs 0 0 Q (F0 m 65 ls []) := by
    intro hd H locs ls heq hW hl
    rw [mm_mMiddle_65] at heq
    refine lv_iload_n hx hb d_mMiddle_65 rfl (lv_at hl 3 rfl) ?_
    refine lv_bipush (v := 15) hx hb d_mMiddle_66 (by decide) ?_
    refine lv_icmp_eq (tgt := 95) hx hb d_mMiddle_68 (by decide) (fun c_32 => ?_) (fun c_32 => ?_)
    · rw [if_pos c_32] at heq
      refine lv_aload_n hx hb d_mMiddle_95 rfl (lv_at hl 0 rfl) ?_
      refine lv_sipush (v := 130) hx hb d_mMiddle_96 (by decide) ?_
      refine lv_iconst (v := 0) hx hb d_mMiddle_99 (by decide) ?_
      refine gk_goI (wr := []) hW [0, 1, 2, 3, 4, 5, 6, 7, 8, 9] [] rfl rfl (by decide) (by decide) (va_runV (As := [.int 130, .int 0]) (rest := []) ⟨hx, hb, hml, hown, hts⟩ (c_mTell l D cI cL cL g fl rn fs lt kk mk mf ml ma il sz tt fh hd 130 0 _) (gk_cwV hts w_147 w_148 w_149 w_116 k_mTell rfl e_mTell rfl rfl ⟨Nat.le_of_ble_eq_true rfl, Nat.le_of_ble_eq_true rfl⟩) (gk_preV hW [0, 1, 2, 3, 4, 5, 6, 7, 8, 9] rfl rfl rfl rfl) rfl rfl hl.1 rfl (lv_room (Nat.le_of_ble_eq_true rfl)) d_mMiddle_100 ⟨Nat.le_of_ble_eq_true rfl, Nat.le_of_ble_eq_true rfl⟩) (fun r_33 u H locs p_35 hW => ?_)
      obtain ⟨rfl, rfl⟩ : r_33 = 130 ∧ u = 0 := Prod.mk.inj (p_35.trans (show (mm_mTell 130 0 hd) = (130, 0) from rfl))
      have hW : gk_W D vwCl (gk_T cI cL) s A H locs (wd_M cI cL g fl rn fs lt kk mk mf ml ma il sz tt fh 0) := hW.re [0, 1, 2, 3, 4, 5, 6, 7, 8, 9] (by decide) rfl
      exact X _ 0 H locs 0 0 103 ls heq hW d_mMiddle_103 rfl (Nat.le_of_ble_eq_true rfl) (Nat.le_of_ble_eq_true rfl)
    · rw [if_neg c_32] at heq
      refine lv_iload_n hx hb d_mMiddle_71 rfl (lv_at hl 3 rfl) ?_
      refine lv_bipush (v := 16) hx hb d_mMiddle_72 (by decide) ?_
      refine lv_icmp_eq (tgt := 95) hx hb d_mMiddle_74 (by decide) (fun c_36 => ?_) (fun c_36 => ?_)
      · rw [if_pos c_36] at heq
        refine lv_aload_n hx hb d_mMiddle_95 rfl (lv_at hl 0 rfl) ?_
        refine lv_sipush (v := 130) hx hb d_mMiddle_96 (by decide) ?_
        refine lv_iconst (v := 0) hx hb d_mMiddle_99 (by decide) ?_
        refine gk_goI (wr := []) hW [0, 1, 2, 3, 4, 5, 6, 7, 8, 9] [] rfl rfl (by decide) (by decide) (va_runV (As := [.int 130, .int 0]) (rest := []) ⟨hx, hb, hml, hown, hts⟩ (c_mTell l D cI cL cL g fl rn fs lt kk mk mf ml ma il sz tt fh hd 130 0 _) (gk_cwV hts w_147 w_148 w_149 w_116 k_mTell rfl e_mTell rfl rfl ⟨Nat.le_of_ble_eq_true rfl, Nat.le_of_ble_eq_true rfl⟩) (gk_preV hW [0, 1, 2, 3, 4, 5, 6, 7, 8, 9] rfl rfl rfl rfl) rfl rfl hl.1 rfl (lv_room (Nat.le_of_ble_eq_true rfl)) d_mMiddle_100 ⟨Nat.le_of_ble_eq_true rfl, Nat.le_of_ble_eq_true rfl⟩) (fun r_37 u H locs p_39 hW => ?_)
        obtain ⟨rfl, rfl⟩ : r_37 = 130 ∧ u = 0 := Prod.mk.inj (p_39.trans (show (mm_mTell 130 0 hd) = (130, 0) from rfl))
        have hW : gk_W D vwCl (gk_T cI cL) s A H locs (wd_M cI cL g fl rn fs lt kk mk mf ml ma il sz tt fh 0) := hW.re [0, 1, 2, 3, 4, 5, 6, 7, 8, 9] (by decide) rfl
        exact X _ 0 H locs 0 0 103 ls heq hW d_mMiddle_103 rfl (Nat.le_of_ble_eq_true rfl) (Nat.le_of_ble_eq_true rfl)
      · rw [if_neg c_36] at heq
        refine lv_iload_n hx hb d_mMiddle_77 rfl (lv_at hl 3 rfl) ?_
        refine lv_bipush (v := 17) hx hb d_mMiddle_78 (by decide) ?_
        refine lv_icmp_eq (tgt := 95) hx hb d_mMiddle_80 (by decide) (fun c_40 => ?_) (fun c_40 => ?_)
        · rw [if_pos c_40] at heq
          refine lv_aload_n hx hb d_mMiddle_95 rfl (lv_at hl 0 rfl) ?_
          refine lv_sipush (v := 130) hx hb d_mMiddle_96 (by decide) ?_
          refine lv_iconst (v := 0) hx hb d_mMiddle_99 (by decide) ?_
          refine gk_goI (wr := []) hW [0, 1, 2, 3, 4, 5, 6, 7, 8, 9] [] rfl rfl (by decide) (by decide) (va_runV (As := [.int 130, .int 0]) (rest := []) ⟨hx, hb, hml, hown, hts⟩ (c_mTell l D cI cL cL g fl rn fs lt kk mk mf ml ma il sz tt fh hd 130 0 _) (gk_cwV hts w_147 w_148 w_149 w_116 k_mTell rfl e_mTell rfl rfl ⟨Nat.le_of_ble_eq_true rfl, Nat.le_of_ble_eq_true rfl⟩) (gk_preV hW [0, 1, 2, 3, 4, 5, 6, 7, 8, 9] rfl rfl rfl rfl) rfl rfl hl.1 rfl (lv_room (Nat.le_of_ble_eq_true rfl)) d_mMiddle_100 ⟨Nat.le_of_ble_eq_true rfl, Nat.le_of_ble_eq_true rfl⟩) (fun r_41 u H locs p_43 hW => ?_)
          obtain ⟨rfl, rfl⟩ : r_41 = 130 ∧ u = 0 := Prod.mk.inj (p_43.trans (show (mm_mTell 130 0 hd) = (130, 0) from rfl))
          have hW : gk_W D vwCl (gk_T cI cL) s A H locs (wd_M cI cL g fl rn fs lt kk mk mf ml ma il sz tt fh 0) := hW.re [0, 1, 2, 3, 4, 5, 6, 7, 8, 9] (by decide) rfl
          exact X _ 0 H locs 0 0 103 ls heq hW d_mMiddle_103 rfl (Nat.le_of_ble_eq_true rfl) (Nat.le_of_ble_eq_true rfl)
        · rw [if_neg c_40] at heq
          refine lv_iload_n hx hb d_mMiddle_83 rfl (lv_at hl 3 rfl) ?_
          refine lv_bipush (v := 22) hx hb d_mMiddle_84 (by decide) ?_
          refine lv_icmp_eq (tgt := 95) hx hb d_mMiddle_86 (by decide) (fun c_44 => ?_) (fun c_44 => ?_)
          · rw [if_pos c_44] at heq
            refine lv_aload_n hx hb d_mMiddle_95 rfl (lv_at hl 0 rfl) ?_
            refine lv_sipush (v := 130) hx hb d_mMiddle_96 (by decide) ?_
            refine lv_iconst (v := 0) hx hb d_mMiddle_99 (by decide) ?_
            refine gk_goI (wr := []) hW [0, 1, 2, 3, 4, 5, 6, 7, 8, 9] [] rfl rfl (by decide) (by decide) (va_runV (As := [.int 130, .int 0]) (rest := []) ⟨hx, hb, hml, hown, hts⟩ (c_mTell l D cI cL cL g fl rn fs lt kk mk mf ml ma il sz tt fh hd 130 0 _) (gk_cwV hts w_147 w_148 w_149 w_116 k_mTell rfl e_mTell rfl rfl ⟨Nat.le_of_ble_eq_true rfl, Nat.le_of_ble_eq_true rfl⟩) (gk_preV hW [0, 1, 2, 3, 4, 5, 6, 7, 8, 9] rfl rfl rfl rfl) rfl rfl hl.1 rfl (lv_room (Nat.le_of_ble_eq_true rfl)) d_mMiddle_100 ⟨Nat.le_of_ble_eq_true rfl, Nat.le_of_ble_eq_true rfl⟩) (fun r_45 u H locs p_47 hW => ?_)
            obtain ⟨rfl, rfl⟩ : r_45 = 130 ∧ u = 0 := Prod.mk.inj (p_47.trans (show (mm_mTell 130 0 hd) = (130, 0) from rfl))
            have hW : gk_W D vwCl (gk_T cI cL) s A H locs (wd_M cI cL g fl rn fs lt kk mk mf ml ma il sz tt fh 0) := hW.re [0, 1, 2, 3, 4, 5, 6, 7, 8, 9] (by decide) rfl
            exact X _ 0 H locs 0 0 103 ls heq hW d_mMiddle_103 rfl (Nat.le_of_ble_eq_true rfl) (Nat.le_of_ble_eq_true rfl)
          · rw [if_neg c_44] at heq
            refine lv_iload_n hx hb d_mMiddle_89 rfl (lv_at hl 3 rfl) ?_
            refine lv_bipush (v := 26) hx hb d_mMiddle_90 (by decide) ?_
            refine lv_icmp_ne (tgt := 104) hx hb d_mMiddle_92 (by decide) (fun c_48 => ?_) (fun c_48 => ?_)
            · rw [if_neg c_48] at heq
              refine lv_aload_n hx hb d_mMiddle_104 rfl (lv_at hl 0 rfl) ?_
              refine lv_iload_n hx hb d_mMiddle_105 rfl (lv_at hl 1 rfl) ?_
              refine gk_goR hW [0, 1, 2, 3, 4, 5, 6, 7, 8, 9] rfl (va_runV (As := [.int x1]) (rest := []) ⟨hx, hb, hml, hown, hts⟩ (c_mBeforeSpaces l D cI cL cL g fl rn fs lt kk mk mf ml ma il sz tt fh hd x1 z_rn v_rn z_x1 v_x1 (by omega) (by omega) _) (gk_cwV hts w_156 w_157 w_158 w_116 k_mBeforeSpaces rfl e_mBeforeSpaces rfl rfl ⟨Nat.le_of_ble_eq_true rfl, Nat.le_of_ble_eq_true rfl⟩) (gk_preV hW [0, 1, 2, 3, 4, 5, 6, 7, 8, 9] rfl rfl rfl rfl) rfl rfl hl.1 rfl (lv_room (Nat.le_of_ble_eq_true rfl)) d_mMiddle_106 ⟨Nat.le_of_ble_eq_true rfl, Nat.le_of_ble_eq_true rfl⟩) (fun H locs hW => ?_)
              refine lv_istore (lv' := [(4, .int (mm_mBeforeSpaces x1 rn fs lt kk il tt)), (0, .ref (g 0)), (1, .int x1), (2, .int x2), (3, .int x3)]) hx hb d_mMiddle_109 hl (by decide) rfl (fun ls hl => ?_)
              refine lv_iload hx hb d_mMiddle_111 (lv_at hl 0 rfl) ?_
              refine lv_bipush (v := 20) hx hb d_mMiddle_113 (by decide) ?_
              refine lv_icmp_ne (tgt := 127) hx hb d_mMiddle_115 (by decide) (fun c_49 => ?_) (fun c_49 => ?_)
              · rw [if_neg c_49] at heq
                refine lv_iload hx hb d_mMiddle_127 (lv_at hl 0 rfl) ?_
                refine lv_bipush (v := 21) hx hb d_mMiddle_129 (by decide) ?_
                refine lv_icmp_ne (tgt := 149) hx hb d_mMiddle_131 (by decide) (fun c_50 => ?_) (fun c_50 => ?_)
                · rw [if_neg c_50] at heq
                  exact K149 (mm_mBeforeSpaces x1 rn fs lt kk il tt) hd H locs ls heq hW (lv_sub hl [1, 2, 3, 4, 0] rfl)
                · rw [if_pos c_50] at heq
                  refine lv_iload_n hx hb d_mMiddle_134 rfl (lv_at hl 4 rfl) ?_
                  refine lv_bipush (v := 20) hx hb d_mMiddle_135 (by decide) ?_
                  refine lv_icmp_ne (tgt := 149) hx hb d_mMiddle_137 (by decide) (fun c_51 => ?_) (fun c_51 => ?_)
                  · rw [if_neg c_51] at heq
                    exact K149 (mm_mBeforeSpaces x1 rn fs lt kk il tt) hd H locs ls heq hW (lv_sub hl [1, 2, 3, 4, 0] rfl)
                  · rw [if_pos c_51] at heq
                    refine lv_aload_n hx hb d_mMiddle_140 rfl (lv_at hl 1 rfl) ?_
                    refine lv_sipush (v := 150) hx hb d_mMiddle_141 (by decide) ?_
                    refine lv_iconst (v := 0) hx hb d_mMiddle_144 (by decide) ?_
                    refine gk_goI (wr := []) hW [0, 1, 2, 3, 4, 5, 6, 7, 8, 9] [] rfl rfl (by decide) (by decide) (va_runV (As := [.int 150, .int 0]) (rest := []) ⟨hx, hb, hml, hown, hts⟩ (c_mTell l D cI cL cL g fl rn fs lt kk mk mf ml ma il sz tt fh hd 150 0 _) (gk_cwV hts w_147 w_148 w_149 w_116 k_mTell rfl e_mTell rfl rfl ⟨Nat.le_of_ble_eq_true rfl, Nat.le_of_ble_eq_true rfl⟩) (gk_preV hW [0, 1, 2, 3, 4, 5, 6, 7, 8, 9] rfl rfl rfl rfl) rfl rfl hl.1 rfl (lv_room (Nat.le_of_ble_eq_true rfl)) d_mMiddle_145 ⟨Nat.le_of_ble_eq_true rfl, Nat.le_of_ble_eq_true rfl⟩) (fun r_52 u H locs p_54 hW => ?_)
                    obtain ⟨rfl, rfl⟩ : r_52 = 150 ∧ u = 0 := Prod.mk.inj (p_54.trans (show (mm_mTell 150 0 hd) = (150, 0) from rfl))
                    have hW : gk_W D vwCl (gk_T cI cL) s A H locs (wd_M cI cL g fl rn fs lt kk mk mf ml ma il sz tt fh 0) := hW.re [0, 1, 2, 3, 4, 5, 6, 7, 8, 9] (by decide) rfl
                    exact X _ 0 H locs 0 0 148 ls heq hW d_mMiddle_148 rfl (Nat.le_of_ble_eq_true rfl) (Nat.le_of_ble_eq_true rfl)
              · rw [if_pos c_49] at heq
                refine lv_aload_n hx hb d_mMiddle_118 rfl (lv_at hl 1 rfl) ?_
                refine lv_sipush (v := 140) hx hb d_mMiddle_119 (by decide) ?_
                refine lv_iconst (v := 0) hx hb d_mMiddle_122 (by decide) ?_
                refine gk_goI (wr := []) hW [0, 1, 2, 3, 4, 5, 6, 7, 8, 9] [] rfl rfl (by decide) (by decide) (va_runV (As := [.int 140, .int 0]) (rest := []) ⟨hx, hb, hml, hown, hts⟩ (c_mTell l D cI cL cL g fl rn fs lt kk mk mf ml ma il sz tt fh hd 140 0 _) (gk_cwV hts w_147 w_148 w_149 w_116 k_mTell rfl e_mTell rfl rfl ⟨Nat.le_of_ble_eq_true rfl, Nat.le_of_ble_eq_true rfl⟩) (gk_preV hW [0, 1, 2, 3, 4, 5, 6, 7, 8, 9] rfl rfl rfl rfl) rfl rfl hl.1 rfl (lv_room (Nat.le_of_ble_eq_true rfl)) d_mMiddle_123 ⟨Nat.le_of_ble_eq_true rfl, Nat.le_of_ble_eq_true rfl⟩) (fun r_55 u H locs p_57 hW => ?_)
                obtain ⟨rfl, rfl⟩ : r_55 = 140 ∧ u = 0 := Prod.mk.inj (p_57.trans (show (mm_mTell 140 0 hd) = (140, 0) from rfl))
                have hW : gk_W D vwCl (gk_T cI cL) s A H locs (wd_M cI cL g fl rn fs lt kk mk mf ml ma il sz tt fh 0) := hW.re [0, 1, 2, 3, 4, 5, 6, 7, 8, 9] (by decide) rfl
                exact X _ 0 H locs 0 0 126 ls heq hW d_mMiddle_126 rfl (Nat.le_of_ble_eq_true rfl) (Nat.le_of_ble_eq_true rfl)
            · rw [if_pos c_48] at heq
              refine lv_aload_n hx hb d_mMiddle_95 rfl (lv_at hl 0 rfl) ?_
              refine lv_sipush (v := 130) hx hb d_mMiddle_96 (by decide) ?_
              refine lv_iconst (v := 0) hx hb d_mMiddle_99 (by decide) ?_
              refine gk_goI (wr := []) hW [0, 1, 2, 3, 4, 5, 6, 7, 8, 9] [] rfl rfl (by decide) (by decide) (va_runV (As := [.int 130, .int 0]) (rest := []) ⟨hx, hb, hml, hown, hts⟩ (c_mTell l D cI cL cL g fl rn fs lt kk mk mf ml ma il sz tt fh hd 130 0 _) (gk_cwV hts w_147 w_148 w_149 w_116 k_mTell rfl e_mTell rfl rfl ⟨Nat.le_of_ble_eq_true rfl, Nat.le_of_ble_eq_true rfl⟩) (gk_preV hW [0, 1, 2, 3, 4, 5, 6, 7, 8, 9] rfl rfl rfl rfl) rfl rfl hl.1 rfl (lv_room (Nat.le_of_ble_eq_true rfl)) d_mMiddle_100 ⟨Nat.le_of_ble_eq_true rfl, Nat.le_of_ble_eq_true rfl⟩) (fun r_58 u H locs p_60 hW => ?_)
              obtain ⟨rfl, rfl⟩ : r_58 = 130 ∧ u = 0 := Prod.mk.inj (p_60.trans (show (mm_mTell 130 0 hd) = (130, 0) from rfl))
              have hW : gk_W D vwCl (gk_T cI cL) s A H locs (wd_M cI cL g fl rn fs lt kk mk mf ml ma il sz tt fh 0) := hW.re [0, 1, 2, 3, 4, 5, 6, 7, 8, 9] (by decide) rfl
              exact X _ 0 H locs 0 0 103 ls heq hW d_mMiddle_103 rfl (Nat.le_of_ble_eq_true rfl) (Nat.le_of_ble_eq_true rfl)
  refine lv_iload_n hx hb d_mMiddle_0 rfl (lv_at hl 2 rfl) ?_
  refine lv_bipush (v := 6) hx hb d_mMiddle_1 (by decide) ?_
  refine lv_icmp_eq (tgt := 12) hx hb d_mMiddle_3 (by decide) (fun c_61 => ?_) (fun c_61 => ?_)
  · rw [if_pos c_61] at heq
    refine lv_aload_n hx hb d_mMiddle_12 rfl (lv_at hl 0 rfl) ?_
    refine lv_bipush (v := 110) hx hb d_mMiddle_13 (by decide) ?_
    refine lv_iconst (v := 0) hx hb d_mMiddle_15 (by decide) ?_
    refine gk_goI (wr := []) hW [0, 1, 2, 3, 4, 5, 6, 7, 8, 9] [] rfl rfl (by decide) (by decide) (va_runV (As := [.int 110, .int 0]) (rest := []) ⟨hx, hb, hml, hown, hts⟩ (c_mTell l D cI cL cL g fl rn fs lt kk mk mf ml ma il sz tt fh hd 110 0 _) (gk_cwV hts w_147 w_148 w_149 w_116 k_mTell rfl e_mTell rfl rfl ⟨Nat.le_of_ble_eq_true rfl, Nat.le_of_ble_eq_true rfl⟩) (gk_preV hW [0, 1, 2, 3, 4, 5, 6, 7, 8, 9] rfl rfl rfl rfl) rfl rfl hl.1 rfl (lv_room (Nat.le_of_ble_eq_true rfl)) d_mMiddle_16 ⟨Nat.le_of_ble_eq_true rfl, Nat.le_of_ble_eq_true rfl⟩) (fun r_62 u H locs p_64 hW => ?_)
    obtain ⟨rfl, rfl⟩ : r_62 = 110 ∧ u = 0 := Prod.mk.inj (p_64.trans (show (mm_mTell 110 0 hd) = (110, 0) from rfl))
    have hW : gk_W D vwCl (gk_T cI cL) s A H locs (wd_M cI cL g fl rn fs lt kk mk mf ml ma il sz tt fh 0) := hW.re [0, 1, 2, 3, 4, 5, 6, 7, 8, 9] (by decide) rfl
    exact X _ 0 H locs 0 0 19 ls heq hW d_mMiddle_19 rfl (Nat.le_of_ble_eq_true rfl) (Nat.le_of_ble_eq_true rfl)
  · rw [if_neg c_61] at heq
    refine lv_iload_n hx hb d_mMiddle_6 rfl (lv_at hl 3 rfl) ?_
    refine lv_bipush (v := 6) hx hb d_mMiddle_7 (by decide) ?_
    refine lv_icmp_ne (tgt := 20) hx hb d_mMiddle_9 (by decide) (fun c_65 => ?_) (fun c_65 => ?_)
    · rw [if_neg c_65] at heq
      refine lv_iload_n hx hb d_mMiddle_20 rfl (lv_at hl 2 rfl) ?_
      refine lv_bipush (v := 9) hx hb d_mMiddle_21 (by decide) ?_
      refine lv_icmp_ne (tgt := 34) hx hb d_mMiddle_23 (by decide) (fun c_66 => ?_) (fun c_66 => ?_)
      · rw [if_neg c_66] at heq
        refine lv_iload_n hx hb d_mMiddle_34 rfl (lv_at hl 3 rfl) ?_
        refine lv_bipush (v := 9) hx hb d_mMiddle_35 (by decide) ?_
        refine lv_icmp_ne (tgt := 65) hx hb d_mMiddle_37 (by decide) (fun c_67 => ?_) (fun c_67 => ?_)
        · rw [if_neg c_67] at heq
          exact K65 hd H locs ls heq hW (lv_sub hl [0, 1, 2, 3] rfl)
        · rw [if_pos c_67] at heq
          refine lv_iload_n hx hb d_mMiddle_40 rfl (lv_at hl 2 rfl) ?_
          refine lv_iconst (v := 4) hx hb d_mMiddle_41 (by decide) ?_
          refine lv_icmp_eq (tgt := 65) hx hb d_mMiddle_42 (by decide) (fun c_68 => ?_) (fun c_68 => ?_)
          · rw [if_pos c_68] at heq
            exact K65 hd H locs ls heq hW (lv_sub hl [0, 1, 2, 3] rfl)
          · rw [if_neg c_68] at heq
            refine lv_iload_n hx hb d_mMiddle_45 rfl (lv_at hl 2 rfl) ?_
            refine lv_bipush (v := 11) hx hb d_mMiddle_46 (by decide) ?_
            refine lv_icmp_eq (tgt := 65) hx hb d_mMiddle_48 (by decide) (fun c_69 => ?_) (fun c_69 => ?_)
            · rw [if_pos c_69] at heq
              exact K65 hd H locs ls heq hW (lv_sub hl [0, 1, 2, 3] rfl)
            · rw [if_neg c_69] at heq
              refine lv_iload_n hx hb d_mMiddle_51 rfl (lv_at hl 2 rfl) ?_
              refine lv_bipush (v := 13) hx hb d_mMiddle_52 (by decide) ?_
              refine lv_icmp_eq (tgt := 65) hx hb d_mMiddle_54 (by decide) (fun c_70 => ?_) (fun c_70 => ?_)
              · rw [if_pos c_70] at heq
                exact K65 hd H locs ls heq hW (lv_sub hl [0, 1, 2, 3] rfl)
              · rw [if_neg c_70] at heq
                refine lv_aload_n hx hb d_mMiddle_57 rfl (lv_at hl 0 rfl) ?_
                refine lv_bipush (v := 121) hx hb d_mMiddle_58 (by decide) ?_
                refine lv_iconst (v := 0) hx hb d_mMiddle_60 (by decide) ?_
                refine gk_goI (wr := []) hW [0, 1, 2, 3, 4, 5, 6, 7, 8, 9] [] rfl rfl (by decide) (by decide) (va_runV (As := [.int 121, .int 0]) (rest := []) ⟨hx, hb, hml, hown, hts⟩ (c_mTell l D cI cL cL g fl rn fs lt kk mk mf ml ma il sz tt fh hd 121 0 _) (gk_cwV hts w_147 w_148 w_149 w_116 k_mTell rfl e_mTell rfl rfl ⟨Nat.le_of_ble_eq_true rfl, Nat.le_of_ble_eq_true rfl⟩) (gk_preV hW [0, 1, 2, 3, 4, 5, 6, 7, 8, 9] rfl rfl rfl rfl) rfl rfl hl.1 rfl (lv_room (Nat.le_of_ble_eq_true rfl)) d_mMiddle_61 ⟨Nat.le_of_ble_eq_true rfl, Nat.le_of_ble_eq_true rfl⟩) (fun r_71 u H locs p_73 hW => ?_)
                obtain ⟨rfl, rfl⟩ : r_71 = 121 ∧ u = 0 := Prod.mk.inj (p_73.trans (show (mm_mTell 121 0 hd) = (121, 0) from rfl))
                have hW : gk_W D vwCl (gk_T cI cL) s A H locs (wd_M cI cL g fl rn fs lt kk mk mf ml ma il sz tt fh 0) := hW.re [0, 1, 2, 3, 4, 5, 6, 7, 8, 9] (by decide) rfl
                exact X _ 0 H locs 0 0 64 ls heq hW d_mMiddle_64 rfl (Nat.le_of_ble_eq_true rfl) (Nat.le_of_ble_eq_true rfl)
      · rw [if_pos c_66] at heq
        refine lv_aload_n hx hb d_mMiddle_26 rfl (lv_at hl 0 rfl) ?_
        refine lv_bipush (v := 120) hx hb d_mMiddle_27 (by decide) ?_
        refine lv_iconst (v := 0) hx hb d_mMiddle_29 (by decide) ?_
        refine gk_goI (wr := []) hW [0, 1, 2, 3, 4, 5, 6, 7, 8, 9] [] rfl rfl (by decide) (by decide) (va_runV (As := [.int 120, .int 0]) (rest := []) ⟨hx, hb, hml, hown, hts⟩ (c_mTell l D cI cL cL g fl rn fs lt kk mk mf ml ma il sz tt fh hd 120 0 _) (gk_cwV hts w_147 w_148 w_149 w_116 k_mTell rfl e_mTell rfl rfl ⟨Nat.le_of_ble_eq_true rfl, Nat.le_of_ble_eq_true rfl⟩) (gk_preV hW [0, 1, 2, 3, 4, 5, 6, 7, 8, 9] rfl rfl rfl rfl) rfl rfl hl.1 rfl (lv_room (Nat.le_of_ble_eq_true rfl)) d_mMiddle_30 ⟨Nat.le_of_ble_eq_true rfl, Nat.le_of_ble_eq_true rfl⟩) (fun r_74 u H locs p_76 hW => ?_)
        obtain ⟨rfl, rfl⟩ : r_74 = 120 ∧ u = 0 := Prod.mk.inj (p_76.trans (show (mm_mTell 120 0 hd) = (120, 0) from rfl))
        have hW : gk_W D vwCl (gk_T cI cL) s A H locs (wd_M cI cL g fl rn fs lt kk mk mf ml ma il sz tt fh 0) := hW.re [0, 1, 2, 3, 4, 5, 6, 7, 8, 9] (by decide) rfl
        exact X _ 0 H locs 0 0 33 ls heq hW d_mMiddle_33 rfl (Nat.le_of_ble_eq_true rfl) (Nat.le_of_ble_eq_true rfl)
    · rw [if_pos c_65] at heq
      refine lv_aload_n hx hb d_mMiddle_12 rfl (lv_at hl 0 rfl) ?_
      refine lv_bipush (v := 110) hx hb d_mMiddle_13 (by decide) ?_
      refine lv_iconst (v := 0) hx hb d_mMiddle_15 (by decide) ?_
      refine gk_goI (wr := []) hW [0, 1, 2, 3, 4, 5, 6, 7, 8, 9] [] rfl rfl (by decide) (by decide) (va_runV (As := [.int 110, .int 0]) (rest := []) ⟨hx, hb, hml, hown, hts⟩ (c_mTell l D cI cL cL g fl rn fs lt kk mk mf ml ma il sz tt fh hd 110 0 _) (gk_cwV hts w_147 w_148 w_149 w_116 k_mTell rfl e_mTell rfl rfl ⟨Nat.le_of_ble_eq_true rfl, Nat.le_of_ble_eq_true rfl⟩) (gk_preV hW [0, 1, 2, 3, 4, 5, 6, 7, 8, 9] rfl rfl rfl rfl) rfl rfl hl.1 rfl (lv_room (Nat.le_of_ble_eq_true rfl)) d_mMiddle_16 ⟨Nat.le_of_ble_eq_true rfl, Nat.le_of_ble_eq_true rfl⟩) (fun r_77 u H locs p_79 hW => ?_)
      obtain ⟨rfl, rfl⟩ : r_77 = 110 ∧ u = 0 := Prod.mk.inj (p_79.trans (show (mm_mTell 110 0 hd) = (110, 0) from rfl))
      have hW : gk_W D vwCl (gk_T cI cL) s A H locs (wd_M cI cL g fl rn fs lt kk mk mf ml ma il sz tt fh 0) := hW.re [0, 1, 2, 3, 4, 5, 6, 7, 8, 9] (by decide) rfl
      exact X _ 0 H locs 0 0 19 ls heq hW d_mMiddle_19 rfl (Nat.le_of_ble_eq_true rfl) (Nat.le_of_ble_eq_true rfl)
def mm_mLate_253 (x1 x2 x3 rn : Int32) (fs lt kk : Nat → Int32) (il : Int32) (tt : Nat → Int32) (x4 x5 x6 hd : Int32) : Int32 × Int32 := if (mm_mIsLetter x2) = 0 then (0, hd) else (if x3 = 25 then (240, 0) else (if x3 = 24 then (240, 0) else (0, hd)))
def mm_mLate_239 (x1 x2 x3 rn : Int32) (fs lt kk : Nat → Int32) (il : Int32) (tt : Nat → Int32) (x4 x5 y0 hd : Int32) : Int32 × Int32 := if y0 = 0 then (mm_mLate_253 x1 x2 x3 rn fs lt kk il tt x4 x5 y0 hd) else (if (mm_mIsLetter x3) = 0 then (mm_mLate_253 x1 x2 x3 rn fs lt kk il tt x4 x5 y0 hd) else (240, 0))
def mm_mLate_234 (x1 x2 x3 rn : Int32) (fs lt kk : Nat → Int32) (il : Int32) (tt : Nat → Int32) (x4 x5 hd : Int32) : Int32 × Int32 := mm_mLate_239 x1 x2 x3 rn fs lt kk il tt x4 x5 1 hd
def mm_mLate_222 (x1 x2 x3 rn : Int32) (fs lt kk : Nat → Int32) (il : Int32) (tt : Nat → Int32) (x4 x5 hd : Int32) : Int32 × Int32 := if x2 = 25 then (mm_mLate_234 x1 x2 x3 rn fs lt kk il tt x4 x5 hd) else (if x2 = 24 then (mm_mLate_234 x1 x2 x3 rn fs lt kk il tt x4 x5 hd) else (mm_mLate_239 x1 x2 x3 rn fs lt kk il tt x4 x5 0 hd))
def mm_mLate_202 (x1 x2 x3 rn : Int32) (fs lt kk : Nat → Int32) (il : Int32) (tt : Nat → Int32) (x4 x5 hd : Int32) : Int32 × Int32 := if x5 = 0 then (mm_mLate_222 x1 x2 x3 rn fs lt kk il tt x4 x5 hd) else (if x3 = 24 then (231, 0) else (mm_mLate_222 x1 x2 x3 rn fs lt kk il tt x4 x5 hd))
def mm_mLate_189 (x1 x2 x3 rn : Int32) (fs lt kk : Nat → Int32) (il : Int32) (tt : Nat → Int32) (x4 y0 hd : Int32) : Int32 × Int32 := if x2 = 25 then (if x4 = 0 then (mm_mLate_202 x1 x2 x3 rn fs lt kk il tt x4 y0 hd) else (231, 0)) else (mm_mLate_202 x1 x2 x3 rn fs lt kk il tt x4 y0 hd)
def mm_mLate_184 (x1 x2 x3 rn : Int32) (fs lt kk : Nat → Int32) (il : Int32) (tt : Nat → Int32) (x4 hd : Int32) : Int32 × Int32 := mm_mLate_189 x1 x2 x3 rn fs lt kk il tt x4 1 hd
def mm_mLate_164 (x1 x2 x3 rn : Int32) (fs lt kk : Nat → Int32) (il : Int32) (tt : Nat → Int32) (y0 hd : Int32) : Int32 × Int32 := if x2 = 29 then (mm_mLate_184 x1 x2 x3 rn fs lt kk il tt y0 hd) else (if x2 = 30 then (mm_mLate_184 x1 x2 x3 rn fs lt kk il tt y0 hd) else (if x2 = 31 then (mm_mLate_184 x1 x2 x3 rn fs lt kk il tt y0 hd) else (mm_mLate_189 x1 x2 x3 rn fs lt kk il tt y0 0 hd)))
def mm_mLate_159 (x1 x2 x3 rn : Int32) (fs lt kk : Nat → Int32) (il : Int32) (tt : Nat → Int32) (hd : Int32) : Int32 × Int32 := mm_mLate_164 x1 x2 x3 rn fs lt kk il tt 1 hd
def mm_mLate_141 (x1 x2 x3 rn : Int32) (fs lt kk : Nat → Int32) (il : Int32) (tt : Nat → Int32) (hd : Int32) : Int32 × Int32 := if x3 = 29 then (mm_mLate_159 x1 x2 x3 rn fs lt kk il tt hd) else (if x3 = 30 then (mm_mLate_159 x1 x2 x3 rn fs lt kk il tt hd) else (if x3 = 31 then (mm_mLate_159 x1 x2 x3 rn fs lt kk il tt hd) else (mm_mLate_164 x1 x2 x3 rn fs lt kk il tt 0 hd)))
def mm_mLate_119 (x1 x2 x3 rn : Int32) (fs lt kk : Nat → Int32) (il : Int32) (tt : Nat → Int32) (hd : Int32) : Int32 × Int32 := if x2 = 23 then (if (mm_mIsLetter x3) = 0 then (mm_mLate_141 x1 x2 x3 rn fs lt kk il tt hd) else (230, 0)) else (mm_mLate_141 x1 x2 x3 rn fs lt kk il tt hd)
def mm_mLate_91 (x1 x2 x3 rn : Int32) (fs lt kk : Nat → Int32) (il : Int32) (tt : Nat → Int32) (hd : Int32) : Int32 × Int32 := if x3 = 18 then (220, 0) else (if (mm_mIsLetter x2) = 0 then (mm_mLate_119 x1 x2 x3 rn fs lt kk il tt hd) else (if x3 = 23 then (230, 0) else (mm_mLate_119 x1 x2 x3 rn fs lt kk il tt hd)))
def mm_mLate_70 (x1 x2 x3 rn : Int32) (fs lt kk : Nat → Int32) (il : Int32) (tt : Nat → Int32) (hd : Int32) : Int32 × Int32 := if x2 = 26 then (if x3 = 28 then (212, 0) else (mm_mLate_91 x1 x2 x3 rn fs lt kk il tt hd)) else (mm_mLate_91 x1 x2 x3 rn fs lt kk il tt hd)
def mm_mLate_45 (x1 x2 x3 rn : Int32) (fs lt kk : Nat → Int32) (il : Int32) (tt : Nat → Int32) (hd : Int32) : Int32 × Int32 := if (mm_mBaseClass (mm_mBase (x1 - 1) rn fs lt kk il tt) rn fs lt kk il tt) = 28 then (211, 0) else (mm_mLate_70 x1 x2 x3 rn fs lt kk il tt hd)
def mm_mLate (x1 x2 x3 rn : Int32) (fs lt kk : Nat → Int32) (il : Int32) (tt : Nat → Int32) (hd : Int32) : Int32 × Int32 := if x3 = 11 then (210, 0) else (if x3 = 13 then (210, 0) else (if x3 = 19 then (210, 0) else (if x2 = 12 then (210, 0) else (if x2 = 13 then (mm_mLate_45 x1 x2 x3 rn fs lt kk il tt hd) else (if x2 = 11 then (mm_mLate_45 x1 x2 x3 rn fs lt kk il tt hd) else (mm_mLate_70 x1 x2 x3 rn fs lt kk il tt hd))))))
def rm_mLate : Room := { frames := 4, cells := 0, slots := 0, locals := 90 }
set_option maxHeartbeats 4000000 in
set_option maxRecDepth 100000 in
theorem c_mLate (l : Launch) (D : va_G) (cI : ClassId) (cL cL : ClassId × ClassId) (g : Nat → Nat) (fl rn : Int32) (fs lt kk mk mf ml ma : Nat → Int32) (il sz : Int32) (tt fh : Nat → Int32) (hd x1 x2 x3 : Int32) (z_rn : Int) (v_rn : gk_v rn z_rn) (z_x1 : Int) (v_x1 : gk_v x1 z_x1) (hrn : 0 ≤ z_rn ∧ z_rn ≤ 100) (hx1 : 0 ≤ z_x1 ∧ z_x1 < 2000) : gk_I l y_mLate (.code y_mLate b_mLate 7 (some .int) :: wA) rm_mLate D vwCl (gk_T cI cL) [.ref (g 0), .int x1, .int x2, .int x3] (wd_M cI cL g fl rn fs lt kk mk mf ml ma il sz tt fh hd) (fun (r : Int32) (u : Int32) => (r, u) = mm_mLate x1 x2 x3 rn fs lt kk il tt hd) (fun u => (wd_M cI cL g fl rn fs lt kk mk mf ml ma il sz tt fh u)) 0 0 := by
  refine gk_I.of (by decide) (Nat.le_of_ble_eq_true rfl) ?_
  intro p e s m below meth c A ls Q H locs hx hb hml hown hts hW hl X
  have hl : lv_has ls 7 [(0, .ref (g 0)), (1, .int x1), (2, .int x2), (3, .int x3)] := hl
  obtain ⟨tgt, heq⟩ : ∃ t, mm_mLate x1 x2 x3 rn fs lt kk il tt hd = t := ⟨_, rfl⟩
  rw [heq] at X
  rw [mm_mLate] at heq
  obtain ⟨z_x2, v_x2⟩ := gk_vex x2
  obtain ⟨z_x3, v_x3⟩ := gk_vex x3
  obtain ⟨z_il, v_il⟩ := gk_vex il
  have K253 : ∀ (x4 x5 x6 hd : Int32) (H : Heap) (locs : List Loc) (ls : Array Slot), mm_mLate_253 x1 x2 x3 rn fs lt kk il tt x4 x5 x6 hd = tgt → gk_W D vwCl (gk_T cI cL) s A H locs (wd_M cI cL g fl rn fs lt kk mk mf ml ma il sz tt fh hd) → lv_has ls 7 [(0, .ref (g 0)), (1, .int x1), (2, .int x2), (3, .int x3), (4, .int x4), (5, .int x5), (6, .int x6)] → W p l e rm_mLate s m [.ref (g 0), .int x1, .int x2, .int x3].toArray below meth c H locs 0 0 Q (F0 m 253 ls []) := by
    intro x4 x5 x6 hd H locs ls heq hW hl
    rw [mm_mLate_253] at heq
    refine lv_iload_n hx hb d_mLate_253 rfl (lv_at hl 2 rfl) ?_
    refine gk_goR hW [] rfl (va_runS (As := [.int x2]) (rest := []) ⟨hx, hb, hml, hown, hts⟩ (c_mIsLetter l D cI cL x2 _) (gk_cwS hts w_159 w_160 w_116 k_mIsLetter rfl e_mIsLetter rfl rfl ⟨Nat.le_of_ble_eq_true rfl, Nat.le_of_ble_eq_true rfl⟩) (gk_pre hW [] rfl rfl) rfl rfl hl.1 rfl (lv_room (Nat.le_of_ble_eq_true rfl)) d_mLate_254 ⟨Nat.le_of_ble_eq_true rfl, Nat.le_of_ble_eq_true rfl⟩) (fun H locs hW => ?_)
    refine lv_if_eq (tgt := 283) hx hb d_mLate_257 (by decide) (fun c_1 => ?_) (fun c_1 => ?_)
    · rw [if_pos c_1] at heq
      refine lv_iconst (v := 0) hx hb d_mLate_283 (by decide) ?_
      exact X _ hd H locs 0 0 284 ls heq hW d_mLate_284 rfl (Nat.le_of_ble_eq_true rfl) (Nat.le_of_ble_eq_true rfl)
    · rw [if_neg c_1] at heq
      refine lv_iload_n hx hb d_mLate_260 rfl (lv_at hl 3 rfl) ?_
      refine lv_bipush (v := 25) hx hb d_mLate_261 (by decide) ?_
      refine lv_icmp_eq (tgt := 272) hx hb d_mLate_263 (by decide) (fun c_2 => ?_) (fun c_2 => ?_)
      · rw [if_pos c_2] at heq
        refine lv_aload_n hx hb d_mLate_272 rfl (lv_at hl 0 rfl) ?_
        refine lv_sipush (v := 240) hx hb d_mLate_273 (by decide) ?_
        refine lv_iconst (v := 0) hx hb d_mLate_276 (by decide) ?_
        refine gk_goI (wr := []) hW [0, 1, 2, 3, 4, 5, 6, 7, 8, 9] [] rfl rfl (by decide) (by decide) (va_runV (As := [.int 240, .int 0]) (rest := []) ⟨hx, hb, hml, hown, hts⟩ (c_mTell l D cI cL cL g fl rn fs lt kk mk mf ml ma il sz tt fh hd 240 0 _) (gk_cwV hts w_147 w_148 w_149 w_116 k_mTell rfl e_mTell rfl rfl ⟨Nat.le_of_ble_eq_true rfl, Nat.le_of_ble_eq_true rfl⟩) (gk_preV hW [0, 1, 2, 3, 4, 5, 6, 7, 8, 9] rfl rfl rfl rfl) rfl rfl hl.1 rfl (lv_room (Nat.le_of_ble_eq_true rfl)) d_mLate_277 ⟨Nat.le_of_ble_eq_true rfl, Nat.le_of_ble_eq_true rfl⟩) (fun r_3 u H locs p_5 hW => ?_)
        obtain ⟨rfl, rfl⟩ : r_3 = 240 ∧ u = 0 := Prod.mk.inj (p_5.trans (show (mm_mTell 240 0 hd) = (240, 0) from rfl))
        have hW : gk_W D vwCl (gk_T cI cL) s A H locs (wd_M cI cL g fl rn fs lt kk mk mf ml ma il sz tt fh 0) := hW.re [0, 1, 2, 3, 4, 5, 6, 7, 8, 9] (by decide) rfl
        refine lv_goto (tgt := 284) hx hb d_mLate_280 (by decide) ?_
        exact X _ 0 H locs 0 0 284 ls heq hW d_mLate_284 rfl (Nat.le_of_ble_eq_true rfl) (Nat.le_of_ble_eq_true rfl)
      · rw [if_neg c_2] at heq
        refine lv_iload_n hx hb d_mLate_266 rfl (lv_at hl 3 rfl) ?_
        refine lv_bipush (v := 24) hx hb d_mLate_267 (by decide) ?_
        refine lv_icmp_ne (tgt := 283) hx hb d_mLate_269 (by decide) (fun c_6 => ?_) (fun c_6 => ?_)
        · rw [if_neg c_6] at heq
          refine lv_iconst (v := 0) hx hb d_mLate_283 (by decide) ?_
          exact X _ hd H locs 0 0 284 ls heq hW d_mLate_284 rfl (Nat.le_of_ble_eq_true rfl) (Nat.le_of_ble_eq_true rfl)
        · rw [if_pos c_6] at heq
          refine lv_aload_n hx hb d_mLate_272 rfl (lv_at hl 0 rfl) ?_
          refine lv_sipush (v := 240) hx hb d_mLate_273 (by decide) ?_
          refine lv_iconst (v := 0) hx hb d_mLate_276 (by decide) ?_
          refine gk_goI (wr := []) hW [0, 1, 2, 3, 4, 5, 6, 7, 8, 9] [] rfl rfl (by decide) (by decide) (va_runV (As := [.int 240, .int 0]) (rest := []) ⟨hx, hb, hml, hown, hts⟩ (c_mTell l D cI cL cL g fl rn fs lt kk mk mf ml ma il sz tt fh hd 240 0 _) (gk_cwV hts w_147 w_148 w_149 w_116 k_mTell rfl e_mTell rfl rfl ⟨Nat.le_of_ble_eq_true rfl, Nat.le_of_ble_eq_true rfl⟩) (gk_preV hW [0, 1, 2, 3, 4, 5, 6, 7, 8, 9] rfl rfl rfl rfl) rfl rfl hl.1 rfl (lv_room (Nat.le_of_ble_eq_true rfl)) d_mLate_277 ⟨Nat.le_of_ble_eq_true rfl, Nat.le_of_ble_eq_true rfl⟩) (fun r_7 u H locs p_9 hW => ?_)
          obtain ⟨rfl, rfl⟩ : r_7 = 240 ∧ u = 0 := Prod.mk.inj (p_9.trans (show (mm_mTell 240 0 hd) = (240, 0) from rfl))
          have hW : gk_W D vwCl (gk_T cI cL) s A H locs (wd_M cI cL g fl rn fs lt kk mk mf ml ma il sz tt fh 0) := hW.re [0, 1, 2, 3, 4, 5, 6, 7, 8, 9] (by decide) rfl
          refine lv_goto (tgt := 284) hx hb d_mLate_280 (by decide) ?_
          exact X _ 0 H locs 0 0 284 ls heq hW d_mLate_284 rfl (Nat.le_of_ble_eq_true rfl) (Nat.le_of_ble_eq_true rfl)
  have K239 : ∀ (x4 x5 y0 hd : Int32) (H : Heap) (locs : List Loc) (ls : Array Slot), mm_mLate_239 x1 x2 x3 rn fs lt kk il tt x4 x5 y0 hd = tgt → gk_W D vwCl (gk_T cI cL) s A H locs (wd_M cI cL g fl rn fs lt kk mk mf ml ma il sz tt fh hd) → lv_has ls 7 [(0, .ref (g 0)), (1, .int x1), (2, .int x2), (3, .int x3), (4, .int x4), (5, .int x5)] → W p l e rm_mLate s m [.ref (g 0), .int x1, .int x2, .int x3].toArray below meth c H locs 0 0 Q (F0 m 239 ls [.int y0]) := by
    intro x4 x5 y0 hd H locs ls heq hW hl
    rw [mm_mLate_239] at heq
    refine lv_istore (lv' := [(6, .int y0), (0, .ref (g 0)), (1, .int x1), (2, .int x2), (3, .int x3), (4, .int x4), (5, .int x5)]) hx hb d_mLate_239 hl (by decide) rfl (fun ls hl => ?_)
    refine lv_iload hx hb d_mLate_241 (lv_at hl 0 rfl) ?_
    refine lv_if_eq (tgt := 253) hx hb d_mLate_243 (by decide) (fun c_10 => ?_) (fun c_10 => ?_)
    · rw [if_pos c_10] at heq
      exact K253 x4 x5 y0 hd H locs ls heq hW (lv_sub hl [1, 2, 3, 4, 5, 6, 0] rfl)
    · rw [if_neg c_10] at heq
      refine lv_iload_n hx hb d_mLate_246 rfl (lv_at hl 4 rfl) ?_
      refine gk_goR hW [] rfl (va_runS (As := [.int x3]) (rest := []) ⟨hx, hb, hml, hown, hts⟩ (c_mIsLetter l D cI cL x3 _) (gk_cwS hts w_159 w_160 w_116 k_mIsLetter rfl e_mIsLetter rfl rfl ⟨Nat.le_of_ble_eq_true rfl, Nat.le_of_ble_eq_true rfl⟩) (gk_pre hW [] rfl rfl) rfl rfl hl.1 rfl (lv_room (Nat.le_of_ble_eq_true rfl)) d_mLate_247 ⟨Nat.le_of_ble_eq_true rfl, Nat.le_of_ble_eq_true rfl⟩) (fun H locs hW => ?_)
      refine lv_if_ne (tgt := 272) hx hb d_mLate_250 (by decide) (fun c_11 => ?_) (fun c_11 => ?_)
      · rw [if_neg c_11] at heq
        refine lv_aload_n hx hb d_mLate_272 rfl (lv_at hl 1 rfl) ?_
        refine lv_sipush (v := 240) hx hb d_mLate_273 (by decide) ?_
        refine lv_iconst (v := 0) hx hb d_mLate_276 (by decide) ?_
        refine gk_goI (wr := []) hW [0, 1, 2, 3, 4, 5, 6, 7, 8, 9] [] rfl rfl (by decide) (by decide) (va_runV (As := [.int 240, .int 0]) (rest := []) ⟨hx, hb, hml, hown, hts⟩ (c_mTell l D cI cL cL g fl rn fs lt kk mk mf ml ma il sz tt fh hd 240 0 _) (gk_cwV hts w_147 w_148 w_149 w_116 k_mTell rfl e_mTell rfl rfl ⟨Nat.le_of_ble_eq_true rfl, Nat.le_of_ble_eq_true rfl⟩) (gk_preV hW [0, 1, 2, 3, 4, 5, 6, 7, 8, 9] rfl rfl rfl rfl) rfl rfl hl.1 rfl (lv_room (Nat.le_of_ble_eq_true rfl)) d_mLate_277 ⟨Nat.le_of_ble_eq_true rfl, Nat.le_of_ble_eq_true rfl⟩) (fun r_12 u H locs p_14 hW => ?_)
        obtain ⟨rfl, rfl⟩ : r_12 = 240 ∧ u = 0 := Prod.mk.inj (p_14.trans (show (mm_mTell 240 0 hd) = (240, 0) from rfl))
        have hW : gk_W D vwCl (gk_T cI cL) s A H locs (wd_M cI cL g fl rn fs lt kk mk mf ml ma il sz tt fh 0) := hW.re [0, 1, 2, 3, 4, 5, 6, 7, 8, 9] (by decide) rfl
        refine lv_goto (tgt := 284) hx hb d_mLate_280 (by decide) ?_
        exact X _ 0 H locs 0 0 284 ls heq hW d_mLate_284 rfl (Nat.le_of_ble_eq_true rfl) (Nat.le_of_ble_eq_true rfl)
      · rw [if_pos c_11] at heq
        exact K253 x4 x5 y0 hd H locs ls heq hW (lv_sub hl [1, 2, 3, 4, 5, 6, 0] rfl)
  have K234 : ∀ (x4 x5 hd : Int32) (H : Heap) (locs : List Loc) (ls : Array Slot), mm_mLate_234 x1 x2 x3 rn fs lt kk il tt x4 x5 hd = tgt → gk_W D vwCl (gk_T cI cL) s A H locs (wd_M cI cL g fl rn fs lt kk mk mf ml ma il sz tt fh hd) → lv_has ls 7 [(0, .ref (g 0)), (1, .int x1), (2, .int x2), (3, .int x3), (4, .int x4), (5, .int x5)] → W p l e rm_mLate s m [.ref (g 0), .int x1, .int x2, .int x3].toArray below meth c H locs 0 0 Q (F0 m 234 ls []) := by
    intro x4 x5 hd H locs ls heq hW hl
    rw [mm_mLate_234] at heq
    refine lv_iconst (v := 1) hx hb d_mLate_234 (by decide) ?_
    refine lv_goto (tgt := 239) hx hb d_mLate_235 (by decide) ?_
    exact K239 x4 x5 1 hd H locs ls heq hW (lv_sub hl [0, 1, 2, 3, 4, 5] rfl)
  have K222 : ∀ (x4 x5 hd : Int32) (H : Heap) (locs : List Loc) (ls : Array Slot), mm_mLate_222 x1 x2 x3 rn fs lt kk il tt x4 x5 hd = tgt → gk_W D vwCl (gk_T cI cL) s A H locs (wd_M cI cL g fl rn fs lt kk mk mf ml ma il sz tt fh hd) → lv_has ls 7 [(0, .ref (g 0)), (1, .int x1), (2, .int x2), (3, .int x3), (4, .int x4), (5, .int x5)] → W p l e rm_mLate s m [.ref (g 0), .int x1, .int x2, .int x3].toArray below meth c H locs 0 0 Q (F0 m 222 ls []) := by
    intro x4 x5 hd H locs ls heq hW hl
    rw [mm_mLate_222] at heq
    refine lv_iload_n hx hb d_mLate_222 rfl (lv_at hl 2 rfl) ?_
    refine lv_bipush (v := 25) hx hb d_mLate_223 (by decide) ?_
    refine lv_icmp_eq (tgt := 234) hx hb d_mLate_225 (by decide) (fun c_15 => ?_) (fun c_15 => ?_)
    · rw [if_pos c_15] at heq
      exact K234 x4 x5 hd H locs ls heq hW (lv_sub hl [0, 1, 2, 3, 4, 5] rfl)
    · rw [if_neg c_15] at heq
      refine lv_iload_n hx hb d_mLate_228 rfl (lv_at hl 2 rfl) ?_
      refine lv_bipush (v := 24) hx hb d_mLate_229 (by decide) ?_
      refine lv_icmp_ne (tgt := 238) hx hb d_mLate_231 (by decide) (fun c_16 => ?_) (fun c_16 => ?_)
      · rw [if_neg c_16] at heq
        refine lv_iconst (v := 0) hx hb d_mLate_238 (by decide) ?_
        exact K239 x4 x5 0 hd H locs ls heq hW (lv_sub hl [0, 1, 2, 3, 4, 5] rfl)
      · rw [if_pos c_16] at heq
        exact K234 x4 x5 hd H locs ls heq hW (lv_sub hl [0, 1, 2, 3, 4, 5] rfl)
  have K202 : ∀ (x4 x5 hd : Int32) (H : Heap) (locs : List Loc) (ls : Array Slot), mm_mLate_202 x1 x2 x3 rn fs lt kk il tt x4 x5 hd = tgt → gk_W D vwCl (gk_T cI cL) s A H locs (wd_M cI cL g fl rn fs lt kk mk mf ml ma il sz tt fh hd) → lv_has ls 7 [(0, .ref (g 0)), (1, .int x1), (2, .int x2), (3, .int x3), (4, .int x4), (5, .int x5)] → W p l e rm_mLate s m [.ref (g 0), .int x1, .int x2, .int x3].toArray below meth c H locs 0 0 Q (F0 m 202 ls []) := by
    intro x4 x5 hd H locs ls heq hW hl
    rw [mm_mLate_202] at heq
    refine lv_iload hx hb d_mLate_202 (lv_at hl 5 rfl) ?_
    refine lv_if_eq (tgt := 222) hx hb d_mLate_204 (by decide) (fun c_17 => ?_) (fun c_17 => ?_)
    · rw [if_pos c_17] at heq
      exact K222 x4 x5 hd H locs ls heq hW (lv_sub hl [0, 1, 2, 3, 4, 5] rfl)
    · rw [if_neg c_17] at heq
      refine lv_iload_n hx hb d_mLate_207 rfl (lv_at hl 3 rfl) ?_
      refine lv_bipush (v := 24) hx hb d_mLate_208 (by decide) ?_
      refine lv_icmp_ne (tgt := 222) hx hb d_mLate_210 (by decide) (fun c_18 => ?_) (fun c_18 => ?_)
      · rw [if_neg c_18] at heq
        exact K222 x4 x5 hd H locs ls heq hW (lv_sub hl [0, 1, 2, 3, 4, 5] rfl)
      · rw [if_pos c_18] at heq
        refine lv_aload_n hx hb d_mLate_213 rfl (lv_at hl 0 rfl) ?_
        refine lv_sipush (v := 231) hx hb d_mLate_214 (by decide) ?_
        refine lv_iconst (v := 0) hx hb d_mLate_217 (by decide) ?_
        refine gk_goI (wr := []) hW [0, 1, 2, 3, 4, 5, 6, 7, 8, 9] [] rfl rfl (by decide) (by decide) (va_runV (As := [.int 231, .int 0]) (rest := []) ⟨hx, hb, hml, hown, hts⟩ (c_mTell l D cI cL cL g fl rn fs lt kk mk mf ml ma il sz tt fh hd 231 0 _) (gk_cwV hts w_147 w_148 w_149 w_116 k_mTell rfl e_mTell rfl rfl ⟨Nat.le_of_ble_eq_true rfl, Nat.le_of_ble_eq_true rfl⟩) (gk_preV hW [0, 1, 2, 3, 4, 5, 6, 7, 8, 9] rfl rfl rfl rfl) rfl rfl hl.1 rfl (lv_room (Nat.le_of_ble_eq_true rfl)) d_mLate_218 ⟨Nat.le_of_ble_eq_true rfl, Nat.le_of_ble_eq_true rfl⟩) (fun r_19 u H locs p_21 hW => ?_)
        obtain ⟨rfl, rfl⟩ : r_19 = 231 ∧ u = 0 := Prod.mk.inj (p_21.trans (show (mm_mTell 231 0 hd) = (231, 0) from rfl))
        have hW : gk_W D vwCl (gk_T cI cL) s A H locs (wd_M cI cL g fl rn fs lt kk mk mf ml ma il sz tt fh 0) := hW.re [0, 1, 2, 3, 4, 5, 6, 7, 8, 9] (by decide) rfl
        exact X _ 0 H locs 0 0 221 ls heq hW d_mLate_221 rfl (Nat.le_of_ble_eq_true rfl) (Nat.le_of_ble_eq_true rfl)
  have K189 : ∀ (x4 y0 hd : Int32) (H : Heap) (locs : List Loc) (ls : Array Slot), mm_mLate_189 x1 x2 x3 rn fs lt kk il tt x4 y0 hd = tgt → gk_W D vwCl (gk_T cI cL) s A H locs (wd_M cI cL g fl rn fs lt kk mk mf ml ma il sz tt fh hd) → lv_has ls 7 [(0, .ref (g 0)), (1, .int x1), (2, .int x2), (3, .int x3), (4, .int x4)] → W p l e rm_mLate s m [.ref (g 0), .int x1, .int x2, .int x3].toArray below meth c H locs 0 0 Q (F0 m 189 ls [.int y0]) := by
    intro x4 y0 hd H locs ls heq hW hl
    rw [mm_mLate_189] at heq
    refine lv_istore (lv' := [(5, .int y0), (0, .ref (g 0)), (1, .int x1), (2, .int x2), (3, .int x3), (4, .int x4)]) hx hb d_mLate_189 hl (by decide) rfl (fun ls hl => ?_)
    refine lv_iload_n hx hb d_mLate_191 rfl (lv_at hl 3 rfl) ?_
    refine lv_bipush (v := 25) hx hb d_mLate_192 (by decide) ?_
    refine lv_icmp_ne (tgt := 202) hx hb d_mLate_194 (by decide) (fun c_22 => ?_) (fun c_22 => ?_)
    · rw [if_neg c_22] at heq
      exact K202 x4 y0 hd H locs ls heq hW (lv_sub hl [1, 2, 3, 4, 5, 0] rfl)
    · rw [if_pos c_22] at heq
      refine lv_iload hx hb d_mLate_197 (lv_at hl 5 rfl) ?_
      refine lv_if_ne (tgt := 213) hx hb d_mLate_199 (by decide) (fun c_23 => ?_) (fun c_23 => ?_)
      · rw [if_neg c_23] at heq
        refine lv_aload_n hx hb d_mLate_213 rfl (lv_at hl 1 rfl) ?_
        refine lv_sipush (v := 231) hx hb d_mLate_214 (by decide) ?_
        refine lv_iconst (v := 0) hx hb d_mLate_217 (by decide) ?_
        refine gk_goI (wr := []) hW [0, 1, 2, 3, 4, 5, 6, 7, 8, 9] [] rfl rfl (by decide) (by decide) (va_runV (As := [.int 231, .int 0]) (rest := []) ⟨hx, hb, hml, hown, hts⟩ (c_mTell l D cI cL cL g fl rn fs lt kk mk mf ml ma il sz tt fh hd 231 0 _) (gk_cwV hts w_147 w_148 w_149 w_116 k_mTell rfl e_mTell rfl rfl ⟨Nat.le_of_ble_eq_true rfl, Nat.le_of_ble_eq_true rfl⟩) (gk_preV hW [0, 1, 2, 3, 4, 5, 6, 7, 8, 9] rfl rfl rfl rfl) rfl rfl hl.1 rfl (lv_room (Nat.le_of_ble_eq_true rfl)) d_mLate_218 ⟨Nat.le_of_ble_eq_true rfl, Nat.le_of_ble_eq_true rfl⟩) (fun r_24 u H locs p_26 hW => ?_)
        obtain ⟨rfl, rfl⟩ : r_24 = 231 ∧ u = 0 := Prod.mk.inj (p_26.trans (show (mm_mTell 231 0 hd) = (231, 0) from rfl))
        have hW : gk_W D vwCl (gk_T cI cL) s A H locs (wd_M cI cL g fl rn fs lt kk mk mf ml ma il sz tt fh 0) := hW.re [0, 1, 2, 3, 4, 5, 6, 7, 8, 9] (by decide) rfl
        exact X _ 0 H locs 0 0 221 ls heq hW d_mLate_221 rfl (Nat.le_of_ble_eq_true rfl) (Nat.le_of_ble_eq_true rfl)
      · rw [if_pos c_23] at heq
        exact K202 x4 y0 hd H locs ls heq hW (lv_sub hl [1, 2, 3, 4, 5, 0] rfl)
  have K184 : ∀ (x4 hd : Int32) (H : Heap) (locs : List Loc) (ls : Array Slot), mm_mLate_184 x1 x2 x3 rn fs lt kk il tt x4 hd = tgt → gk_W D vwCl (gk_T cI cL) s A H locs (wd_M cI cL g fl rn fs lt kk mk mf ml ma il sz tt fh hd) → lv_has ls 7 [(0, .ref (g 0)), (1, .int x1), (2, .int x2), (3, .int x3), (4, .int x4)] → W p l e rm_mLate s m [.ref (g 0), .int x1, .int x2, .int x3].toArray below meth c H locs 0 0 Q (F0 m 184 ls []) := by
    intro x4 hd H locs ls heq hW hl
    rw [mm_mLate_184] at heq
    refine lv_iconst (v := 1) hx hb d_mLate_184 (by decide) ?_
    refine lv_goto (tgt := 189) hx hb d_mLate_185 (by decide) ?_
    exact K189 x4 1 hd H locs ls heq hW (lv_sub hl [0, 1, 2, 3, 4] rfl)
  have K164 : ∀ (y0 hd : Int32) (H : Heap) (locs : List Loc) (ls : Array Slot), mm_mLate_164 x1 x2 x3 rn fs lt kk il tt y0 hd = tgt → gk_W D vwCl (gk_T cI cL) s A H locs (wd_M cI cL g fl rn fs lt kk mk mf ml ma il sz tt fh hd) → lv_has ls 7 [(0, .ref (g 0)), (1, .int x1), (2, .int x2), (3, .int x3)] → W p l e rm_mLate s m [.ref (g 0), .int x1, .int x2, .int x3].toArray below meth c H locs 0 0 Q (F0 m 164 ls [.int y0]) := by
    intro y0 hd H locs ls heq hW hl
    rw [mm_mLate_164] at heq
    refine lv_istore (lv' := [(4, .int y0), (0, .ref (g 0)), (1, .int x1), (2, .int x2), (3, .int x3)]) hx hb d_mLate_164 hl (by decide) rfl (fun ls hl => ?_)
    refine lv_iload_n hx hb d_mLate_166 rfl (lv_at hl 3 rfl) ?_
    refine lv_bipush (v := 29) hx hb d_mLate_167 (by decide) ?_
    refine lv_icmp_eq (tgt := 184) hx hb d_mLate_169 (by decide) (fun c_27 => ?_) (fun c_27 => ?_)
    · rw [if_pos c_27] at heq
      exact K184 y0 hd H locs ls heq hW (lv_sub hl [1, 2, 3, 4, 0] rfl)
    · rw [if_neg c_27] at heq
      refine lv_iload_n hx hb d_mLate_172 rfl (lv_at hl 3 rfl) ?_
      refine lv_bipush (v := 30) hx hb d_mLate_173 (by decide) ?_
      refine lv_icmp_eq (tgt := 184) hx hb d_mLate_175 (by decide) (fun c_28 => ?_) (fun c_28 => ?_)
      · rw [if_pos c_28] at heq
        exact K184 y0 hd H locs ls heq hW (lv_sub hl [1, 2, 3, 4, 0] rfl)
      · rw [if_neg c_28] at heq
        refine lv_iload_n hx hb d_mLate_178 rfl (lv_at hl 3 rfl) ?_
        refine lv_bipush (v := 31) hx hb d_mLate_179 (by decide) ?_
        refine lv_icmp_ne (tgt := 188) hx hb d_mLate_181 (by decide) (fun c_29 => ?_) (fun c_29 => ?_)
        · rw [if_neg c_29] at heq
          refine lv_iconst (v := 0) hx hb d_mLate_188 (by decide) ?_
          exact K189 y0 0 hd H locs ls heq hW (lv_sub hl [1, 2, 3, 4, 0] rfl)
        · rw [if_pos c_29] at heq
          exact K184 y0 hd H locs ls heq hW (lv_sub hl [1, 2, 3, 4, 0] rfl)
  have K159 : ∀ (hd : Int32) (H : Heap) (locs : List Loc) (ls : Array Slot), mm_mLate_159 x1 x2 x3 rn fs lt kk il tt hd = tgt → gk_W D vwCl (gk_T cI cL) s A H locs (wd_M cI cL g fl rn fs lt kk mk mf ml ma il sz tt fh hd) → lv_has ls 7 [(0, .ref (g 0)), (1, .int x1), (2, .int x2), (3, .int x3)] → W p l e rm_mLate s m [.ref (g 0), .int x1, .int x2, .int x3].toArray below meth c H locs 0 0 Q (F0 m 159 ls []) := by
    intro hd H locs ls heq hW hl
    rw [mm_mLate_159] at heq
    refine lv_iconst (v := 1) hx hb d_mLate_159 (by decide) ?_
    refine lv_goto (tgt := 164) hx hb d_mLate_160 (by decide) ?_
    exact K164 1 hd H locs ls heq hW (lv_sub hl [0, 1, 2, 3] rfl)
  have K141 : ∀ (hd : Int32) (H : Heap) (locs : List Loc) (ls : Array Slot), mm_mLate_141 x1 x2 x3 rn fs lt kk il tt hd = tgt → gk_W D vwCl (gk_T cI cL) s A H locs (wd_M cI cL g fl rn fs lt kk mk mf ml ma il sz tt fh hd) → lv_has ls 7 [(0, .ref (g 0)), (1, .int x1), (2, .int x2), (3, .int x3)] → W p l e rm_mLate s m [.ref (g 0), .int x1, .int x2, .int x3].toArray below meth c H locs 0 0 Q (F0 m 141 ls []) := by
    intro hd H locs ls heq hW hl
    rw [mm_mLate_141] at heq
    refine lv_iload_n hx hb d_mLate_141 rfl (lv_at hl 3 rfl) ?_
    refine lv_bipush (v := 29) hx hb d_mLate_142 (by decide) ?_
    refine lv_icmp_eq (tgt := 159) hx hb d_mLate_144 (by decide) (fun c_30 => ?_) (fun c_30 => ?_)
    · rw [if_pos c_30] at heq
      exact K159 hd H locs ls heq hW (lv_sub hl [0, 1, 2, 3] rfl)
    · rw [if_neg c_30] at heq
      refine lv_iload_n hx hb d_mLate_147 rfl (lv_at hl 3 rfl) ?_
      refine lv_bipush (v := 30) hx hb d_mLate_148 (by decide) ?_
      refine lv_icmp_eq (tgt := 159) hx hb d_mLate_150 (by decide) (fun c_31 => ?_) (fun c_31 => ?_)
      · rw [if_pos c_31] at heq
        exact K159 hd H locs ls heq hW (lv_sub hl [0, 1, 2, 3] rfl)
      · rw [if_neg c_31] at heq
        refine lv_iload_n hx hb d_mLate_153 rfl (lv_at hl 3 rfl) ?_
        refine lv_bipush (v := 31) hx hb d_mLate_154 (by decide) ?_
        refine lv_icmp_ne (tgt := 163) hx hb d_mLate_156 (by decide) (fun c_32 => ?_) (fun c_32 => ?_)
        · rw [if_neg c_32] at heq
          refine lv_iconst (v := 0) hx hb d_mLate_163 (by decide) ?_
          exact K164 0 hd H locs ls heq hW (lv_sub hl [0, 1, 2, 3] rfl)
        · rw [if_pos c_32] at heq
          exact K159 hd H locs ls heq hW (lv_sub hl [0, 1, 2, 3] rfl)
  have K119 : ∀ (hd : Int32) (H : Heap) (locs : List Loc) (ls : Array Slot), mm_mLate_119 x1 x2 x3 rn fs lt kk il tt hd = tgt → gk_W D vwCl (gk_T cI cL) s A H locs (wd_M cI cL g fl rn fs lt kk mk mf ml ma il sz tt fh hd) → lv_has ls 7 [(0, .ref (g 0)), (1, .int x1), (2, .int x2), (3, .int x3)] → W p l e rm_mLate s m [.ref (g 0), .int x1, .int x2, .int x3].toArray below meth c H locs 0 0 Q (F0 m 119 ls []) := by
    intro hd H locs ls heq hW hl
    rw [mm_mLate_119] at heq
    refine lv_iload_n hx hb d_mLate_119 rfl (lv_at hl 2 rfl) ?_
    refine lv_bipush (v := 23) hx hb d_mLate_120 (by decide) ?_
    refine lv_icmp_ne (tgt := 141) hx hb d_mLate_122 (by decide) (fun c_33 => ?_) (fun c_33 => ?_)
    · rw [if_neg c_33] at heq
      exact K141 hd H locs ls heq hW (lv_sub hl [0, 1, 2, 3] rfl)
    · rw [if_pos c_33] at heq
      refine lv_iload_n hx hb d_mLate_125 rfl (lv_at hl 3 rfl) ?_
      refine gk_goR hW [] rfl (va_runS (As := [.int x3]) (rest := []) ⟨hx, hb, hml, hown, hts⟩ (c_mIsLetter l D cI cL x3 _) (gk_cwS hts w_159 w_160 w_116 k_mIsLetter rfl e_mIsLetter rfl rfl ⟨Nat.le_of_ble_eq_true rfl, Nat.le_of_ble_eq_true rfl⟩) (gk_pre hW [] rfl rfl) rfl rfl hl.1 rfl (lv_room (Nat.le_of_ble_eq_true rfl)) d_mLate_126 ⟨Nat.le_of_ble_eq_true rfl, Nat.le_of_ble_eq_true rfl⟩) (fun H locs hW => ?_)
      refine lv_if_eq (tgt := 141) hx hb d_mLate_129 (by decide) (fun c_34 => ?_) (fun c_34 => ?_)
      · rw [if_pos c_34] at heq
        exact K141 hd H locs ls heq hW (lv_sub hl [0, 1, 2, 3] rfl)
      · rw [if_neg c_34] at heq
        refine lv_aload_n hx hb d_mLate_132 rfl (lv_at hl 0 rfl) ?_
        refine lv_sipush (v := 230) hx hb d_mLate_133 (by decide) ?_
        refine lv_iconst (v := 0) hx hb d_mLate_136 (by decide) ?_
        refine gk_goI (wr := []) hW [0, 1, 2, 3, 4, 5, 6, 7, 8, 9] [] rfl rfl (by decide) (by decide) (va_runV (As := [.int 230, .int 0]) (rest := []) ⟨hx, hb, hml, hown, hts⟩ (c_mTell l D cI cL cL g fl rn fs lt kk mk mf ml ma il sz tt fh hd 230 0 _) (gk_cwV hts w_147 w_148 w_149 w_116 k_mTell rfl e_mTell rfl rfl ⟨Nat.le_of_ble_eq_true rfl, Nat.le_of_ble_eq_true rfl⟩) (gk_preV hW [0, 1, 2, 3, 4, 5, 6, 7, 8, 9] rfl rfl rfl rfl) rfl rfl hl.1 rfl (lv_room (Nat.le_of_ble_eq_true rfl)) d_mLate_137 ⟨Nat.le_of_ble_eq_true rfl, Nat.le_of_ble_eq_true rfl⟩) (fun r_35 u H locs p_37 hW => ?_)
        obtain ⟨rfl, rfl⟩ : r_35 = 230 ∧ u = 0 := Prod.mk.inj (p_37.trans (show (mm_mTell 230 0 hd) = (230, 0) from rfl))
        have hW : gk_W D vwCl (gk_T cI cL) s A H locs (wd_M cI cL g fl rn fs lt kk mk mf ml ma il sz tt fh 0) := hW.re [0, 1, 2, 3, 4, 5, 6, 7, 8, 9] (by decide) rfl
        exact X _ 0 H locs 0 0 140 ls heq hW d_mLate_140 rfl (Nat.le_of_ble_eq_true rfl) (Nat.le_of_ble_eq_true rfl)
  have K91 : ∀ (hd : Int32) (H : Heap) (locs : List Loc) (ls : Array Slot), mm_mLate_91 x1 x2 x3 rn fs lt kk il tt hd = tgt → gk_W D vwCl (gk_T cI cL) s A H locs (wd_M cI cL g fl rn fs lt kk mk mf ml ma il sz tt fh hd) → lv_has ls 7 [(0, .ref (g 0)), (1, .int x1), (2, .int x2), (3, .int x3)] → W p l e rm_mLate s m [.ref (g 0), .int x1, .int x2, .int x3].toArray below meth c H locs 0 0 Q (F0 m 91 ls []) := by
    intro hd H locs ls heq hW hl
    rw [mm_mLate_91] at heq
    refine lv_iload_n hx hb d_mLate_91 rfl (lv_at hl 3 rfl) ?_
    refine lv_bipush (v := 18) hx hb d_mLate_92 (by decide) ?_
    refine lv_icmp_ne (tgt := 106) hx hb d_mLate_94 (by decide) (fun c_38 => ?_) (fun c_38 => ?_)
    · rw [if_neg c_38] at heq
      refine lv_iload_n hx hb d_mLate_106 rfl (lv_at hl 2 rfl) ?_
      refine gk_goR hW [] rfl (va_runS (As := [.int x2]) (rest := []) ⟨hx, hb, hml, hown, hts⟩ (c_mIsLetter l D cI cL x2 _) (gk_cwS hts w_159 w_160 w_116 k_mIsLetter rfl e_mIsLetter rfl rfl ⟨Nat.le_of_ble_eq_true rfl, Nat.le_of_ble_eq_true rfl⟩) (gk_pre hW [] rfl rfl) rfl rfl hl.1 rfl (lv_room (Nat.le_of_ble_eq_true rfl)) d_mLate_107 ⟨Nat.le_of_ble_eq_true rfl, Nat.le_of_ble_eq_true rfl⟩) (fun H locs hW => ?_)
      refine lv_if_eq (tgt := 119) hx hb d_mLate_110 (by decide) (fun c_39 => ?_) (fun c_39 => ?_)
      · rw [if_pos c_39] at heq
        exact K119 hd H locs ls heq hW (lv_sub hl [0, 1, 2, 3] rfl)
      · rw [if_neg c_39] at heq
        refine lv_iload_n hx hb d_mLate_113 rfl (lv_at hl 3 rfl) ?_
        refine lv_bipush (v := 23) hx hb d_mLate_114 (by decide) ?_
        refine lv_icmp_eq (tgt := 132) hx hb d_mLate_116 (by decide) (fun c_40 => ?_) (fun c_40 => ?_)
        · rw [if_pos c_40] at heq
          refine lv_aload_n hx hb d_mLate_132 rfl (lv_at hl 0 rfl) ?_
          refine lv_sipush (v := 230) hx hb d_mLate_133 (by decide) ?_
          refine lv_iconst (v := 0) hx hb d_mLate_136 (by decide) ?_
          refine gk_goI (wr := []) hW [0, 1, 2, 3, 4, 5, 6, 7, 8, 9] [] rfl rfl (by decide) (by decide) (va_runV (As := [.int 230, .int 0]) (rest := []) ⟨hx, hb, hml, hown, hts⟩ (c_mTell l D cI cL cL g fl rn fs lt kk mk mf ml ma il sz tt fh hd 230 0 _) (gk_cwV hts w_147 w_148 w_149 w_116 k_mTell rfl e_mTell rfl rfl ⟨Nat.le_of_ble_eq_true rfl, Nat.le_of_ble_eq_true rfl⟩) (gk_preV hW [0, 1, 2, 3, 4, 5, 6, 7, 8, 9] rfl rfl rfl rfl) rfl rfl hl.1 rfl (lv_room (Nat.le_of_ble_eq_true rfl)) d_mLate_137 ⟨Nat.le_of_ble_eq_true rfl, Nat.le_of_ble_eq_true rfl⟩) (fun r_41 u H locs p_43 hW => ?_)
          obtain ⟨rfl, rfl⟩ : r_41 = 230 ∧ u = 0 := Prod.mk.inj (p_43.trans (show (mm_mTell 230 0 hd) = (230, 0) from rfl))
          have hW : gk_W D vwCl (gk_T cI cL) s A H locs (wd_M cI cL g fl rn fs lt kk mk mf ml ma il sz tt fh 0) := hW.re [0, 1, 2, 3, 4, 5, 6, 7, 8, 9] (by decide) rfl
          exact X _ 0 H locs 0 0 140 ls heq hW d_mLate_140 rfl (Nat.le_of_ble_eq_true rfl) (Nat.le_of_ble_eq_true rfl)
        · rw [if_neg c_40] at heq
          exact K119 hd H locs ls heq hW (lv_sub hl [0, 1, 2, 3] rfl)
    · rw [if_pos c_38] at heq
      refine lv_aload_n hx hb d_mLate_97 rfl (lv_at hl 0 rfl) ?_
      refine lv_sipush (v := 220) hx hb d_mLate_98 (by decide) ?_
      refine lv_iconst (v := 0) hx hb d_mLate_101 (by decide) ?_
      refine gk_goI (wr := []) hW [0, 1, 2, 3, 4, 5, 6, 7, 8, 9] [] rfl rfl (by decide) (by decide) (va_runV (As := [.int 220, .int 0]) (rest := []) ⟨hx, hb, hml, hown, hts⟩ (c_mTell l D cI cL cL g fl rn fs lt kk mk mf ml ma il sz tt fh hd 220 0 _) (gk_cwV hts w_147 w_148 w_149 w_116 k_mTell rfl e_mTell rfl rfl ⟨Nat.le_of_ble_eq_true rfl, Nat.le_of_ble_eq_true rfl⟩) (gk_preV hW [0, 1, 2, 3, 4, 5, 6, 7, 8, 9] rfl rfl rfl rfl) rfl rfl hl.1 rfl (lv_room (Nat.le_of_ble_eq_true rfl)) d_mLate_102 ⟨Nat.le_of_ble_eq_true rfl, Nat.le_of_ble_eq_true rfl⟩) (fun r_44 u H locs p_46 hW => ?_)
      obtain ⟨rfl, rfl⟩ : r_44 = 220 ∧ u = 0 := Prod.mk.inj (p_46.trans (show (mm_mTell 220 0 hd) = (220, 0) from rfl))
      have hW : gk_W D vwCl (gk_T cI cL) s A H locs (wd_M cI cL g fl rn fs lt kk mk mf ml ma il sz tt fh 0) := hW.re [0, 1, 2, 3, 4, 5, 6, 7, 8, 9] (by decide) rfl
      exact X _ 0 H locs 0 0 105 ls heq hW d_mLate_105 rfl (Nat.le_of_ble_eq_true rfl) (Nat.le_of_ble_eq_true rfl)
  have K70 : ∀ (hd : Int32) (H : Heap) (locs : List Loc) (ls : Array Slot), mm_mLate_70 x1 x2 x3 rn fs lt kk il tt hd = tgt → gk_W D vwCl (gk_T cI cL) s A H locs (wd_M cI cL g fl rn fs lt kk mk mf ml ma il sz tt fh hd) → lv_has ls 7 [(0, .ref (g 0)), (1, .int x1), (2, .int x2), (3, .int x3)] → W p l e rm_mLate s m [.ref (g 0), .int x1, .int x2, .int x3].toArray below meth c H locs 0 0 Q (F0 m 70 ls []) := by
    intro hd H locs ls heq hW hl
    rw [mm_mLate_70] at heq
    refine lv_iload_n hx hb d_mLate_70 rfl (lv_at hl 2 rfl) ?_
    refine lv_bipush (v := 26) hx hb d_mLate_71 (by decide) ?_
    refine lv_icmp_ne (tgt := 91) hx hb d_mLate_73 (by decide) (fun c_47 => ?_) (fun c_47 => ?_)
    · rw [if_neg c_47] at heq
      exact K91 hd H locs ls heq hW (lv_sub hl [0, 1, 2, 3] rfl)
    · rw [if_pos c_47] at heq
      refine lv_iload_n hx hb d_mLate_76 rfl (lv_at hl 3 rfl) ?_
      refine lv_bipush (v := 28) hx hb d_mLate_77 (by decide) ?_
      refine lv_icmp_ne (tgt := 91) hx hb d_mLate_79 (by decide) (fun c_48 => ?_) (fun c_48 => ?_)
      · rw [if_neg c_48] at heq
        exact K91 hd H locs ls heq hW (lv_sub hl [0, 1, 2, 3] rfl)
      · rw [if_pos c_48] at heq
        refine lv_aload_n hx hb d_mLate_82 rfl (lv_at hl 0 rfl) ?_
        refine lv_sipush (v := 212) hx hb d_mLate_83 (by decide) ?_
        refine lv_iconst (v := 0) hx hb d_mLate_86 (by decide) ?_
        refine gk_goI (wr := []) hW [0, 1, 2, 3, 4, 5, 6, 7, 8, 9] [] rfl rfl (by decide) (by decide) (va_runV (As := [.int 212, .int 0]) (rest := []) ⟨hx, hb, hml, hown, hts⟩ (c_mTell l D cI cL cL g fl rn fs lt kk mk mf ml ma il sz tt fh hd 212 0 _) (gk_cwV hts w_147 w_148 w_149 w_116 k_mTell rfl e_mTell rfl rfl ⟨Nat.le_of_ble_eq_true rfl, Nat.le_of_ble_eq_true rfl⟩) (gk_preV hW [0, 1, 2, 3, 4, 5, 6, 7, 8, 9] rfl rfl rfl rfl) rfl rfl hl.1 rfl (lv_room (Nat.le_of_ble_eq_true rfl)) d_mLate_87 ⟨Nat.le_of_ble_eq_true rfl, Nat.le_of_ble_eq_true rfl⟩) (fun r_49 u H locs p_51 hW => ?_)
        obtain ⟨rfl, rfl⟩ : r_49 = 212 ∧ u = 0 := Prod.mk.inj (p_51.trans (show (mm_mTell 212 0 hd) = (212, 0) from rfl))
        have hW : gk_W D vwCl (gk_T cI cL) s A H locs (wd_M cI cL g fl rn fs lt kk mk mf ml ma il sz tt fh 0) := hW.re [0, 1, 2, 3, 4, 5, 6, 7, 8, 9] (by decide) rfl
        exact X _ 0 H locs 0 0 90 ls heq hW d_mLate_90 rfl (Nat.le_of_ble_eq_true rfl) (Nat.le_of_ble_eq_true rfl)
  have K45 : ∀ (hd : Int32) (H : Heap) (locs : List Loc) (ls : Array Slot), mm_mLate_45 x1 x2 x3 rn fs lt kk il tt hd = tgt → gk_W D vwCl (gk_T cI cL) s A H locs (wd_M cI cL g fl rn fs lt kk mk mf ml ma il sz tt fh hd) → lv_has ls 7 [(0, .ref (g 0)), (1, .int x1), (2, .int x2), (3, .int x3)] → W p l e rm_mLate s m [.ref (g 0), .int x1, .int x2, .int x3].toArray below meth c H locs 0 0 Q (F0 m 45 ls []) := by
    intro hd H locs ls heq hW hl
    rw [mm_mLate_45] at heq
    refine lv_aload_n hx hb d_mLate_45 rfl (lv_at hl 0 rfl) ?_
    refine lv_aload_n hx hb d_mLate_46 rfl (lv_at hl 0 rfl) ?_
    refine lv_iload_n hx hb d_mLate_47 rfl (lv_at hl 1 rfl) ?_
    refine lv_iconst (v := 1) hx hb d_mLate_48 (by decide) ?_
    refine lv_isub hx hb d_mLate_49 ?_
    obtain ⟨zt_52, vt_52, et_52⟩ := gk_sub v_x1 (show gk_v 1 1 from rfl) (by omega) (by omega)
    refine gk_goR hW [0, 1, 2, 3, 4, 5, 6, 7, 8, 9] rfl (va_runV (As := [.int (x1 - 1)]) (rest := [.ref (g 0)]) ⟨hx, hb, hml, hown, hts⟩ (c_mBase l D cI cL cL g fl rn fs lt kk mk mf ml ma il sz tt fh hd (x1 - 1) z_rn v_rn zt_52 vt_52 (by omega) (by omega) _) (gk_cwV hts w_150 w_151 w_152 w_116 k_mBase rfl e_mBase rfl rfl ⟨Nat.le_of_ble_eq_true rfl, Nat.le_of_ble_eq_true rfl⟩) (gk_preV hW [0, 1, 2, 3, 4, 5, 6, 7, 8, 9] rfl rfl rfl rfl) rfl rfl hl.1 rfl (lv_room (Nat.le_of_ble_eq_true rfl)) d_mLate_50 ⟨Nat.le_of_ble_eq_true rfl, Nat.le_of_ble_eq_true rfl⟩) (fun H locs hW => ?_)
    obtain ⟨zb_53, vb_53, hb_53⟩ := mm_mBase_bd (x1 - 1) rn fs lt kk il tt zt_52 vt_52 (by omega)
    refine gk_goR hW [0, 1, 2, 3, 4, 5, 6, 7, 8, 9] rfl (va_runV (As := [.int (mm_mBase (x1 - 1) rn fs lt kk il tt)]) (rest := []) ⟨hx, hb, hml, hown, hts⟩ (c_mBaseClass l D cI cL cL g fl rn fs lt kk mk mf ml ma il sz tt fh hd (mm_mBase (x1 - 1) rn fs lt kk il tt) z_rn v_rn zb_53 vb_53 (by omega) (by omega) _) (gk_cwV hts w_153 w_154 w_155 w_116 k_mBaseClass rfl e_mBaseClass rfl rfl ⟨Nat.le_of_ble_eq_true rfl, Nat.le_of_ble_eq_true rfl⟩) (gk_preV hW [0, 1, 2, 3, 4, 5, 6, 7, 8, 9] rfl rfl rfl rfl) rfl rfl hl.1 rfl (lv_room (Nat.le_of_ble_eq_true rfl)) d_mLate_53 ⟨Nat.le_of_ble_eq_true rfl, Nat.le_of_ble_eq_true rfl⟩) (fun H locs hW => ?_)
    refine lv_bipush (v := 28) hx hb d_mLate_56 (by decide) ?_
    refine lv_icmp_ne (tgt := 70) hx hb d_mLate_58 (by decide) (fun c_54 => ?_) (fun c_54 => ?_)
    · rw [if_neg c_54] at heq
      exact K70 hd H locs ls heq hW (lv_sub hl [0, 1, 2, 3] rfl)
    · rw [if_pos c_54] at heq
      refine lv_aload_n hx hb d_mLate_61 rfl (lv_at hl 0 rfl) ?_
      refine lv_sipush (v := 211) hx hb d_mLate_62 (by decide) ?_
      refine lv_iconst (v := 0) hx hb d_mLate_65 (by decide) ?_
      refine gk_goI (wr := []) hW [0, 1, 2, 3, 4, 5, 6, 7, 8, 9] [] rfl rfl (by decide) (by decide) (va_runV (As := [.int 211, .int 0]) (rest := []) ⟨hx, hb, hml, hown, hts⟩ (c_mTell l D cI cL cL g fl rn fs lt kk mk mf ml ma il sz tt fh hd 211 0 _) (gk_cwV hts w_147 w_148 w_149 w_116 k_mTell rfl e_mTell rfl rfl ⟨Nat.le_of_ble_eq_true rfl, Nat.le_of_ble_eq_true rfl⟩) (gk_preV hW [0, 1, 2, 3, 4, 5, 6, 7, 8, 9] rfl rfl rfl rfl) rfl rfl hl.1 rfl (lv_room (Nat.le_of_ble_eq_true rfl)) d_mLate_66 ⟨Nat.le_of_ble_eq_true rfl, Nat.le_of_ble_eq_true rfl⟩) (fun r_55 u H locs p_57 hW => ?_)
      obtain ⟨rfl, rfl⟩ : r_55 = 211 ∧ u = 0 := Prod.mk.inj (p_57.trans (show (mm_mTell 211 0 hd) = (211, 0) from rfl))
      have hW : gk_W D vwCl (gk_T cI cL) s A H locs (wd_M cI cL g fl rn fs lt kk mk mf ml ma il sz tt fh 0) := hW.re [0, 1, 2, 3, 4, 5, 6, 7, 8, 9] (by decide) rfl
      exact X _ 0 H locs 0 0 69 ls heq hW d_mLate_69 rfl (Nat.le_of_ble_eq_true rfl) (Nat.le_of_ble_eq_true rfl)
  refine lv_iload_n hx hb d_mLate_0 rfl (lv_at hl 3 rfl) ?_
  refine lv_bipush (v := 11) hx hb d_mLate_1 (by decide) ?_
  refine lv_icmp_eq (tgt := 24) hx hb d_mLate_3 (by decide) (fun c_58 => ?_) (fun c_58 => ?_)
  · rw [if_pos c_58] at heq
    refine lv_aload_n hx hb d_mLate_24 rfl (lv_at hl 0 rfl) ?_
    refine lv_sipush (v := 210) hx hb d_mLate_25 (by decide) ?_
    refine lv_iconst (v := 0) hx hb d_mLate_28 (by decide) ?_
    refine gk_goI (wr := []) hW [0, 1, 2, 3, 4, 5, 6, 7, 8, 9] [] rfl rfl (by decide) (by decide) (va_runV (As := [.int 210, .int 0]) (rest := []) ⟨hx, hb, hml, hown, hts⟩ (c_mTell l D cI cL cL g fl rn fs lt kk mk mf ml ma il sz tt fh hd 210 0 _) (gk_cwV hts w_147 w_148 w_149 w_116 k_mTell rfl e_mTell rfl rfl ⟨Nat.le_of_ble_eq_true rfl, Nat.le_of_ble_eq_true rfl⟩) (gk_preV hW [0, 1, 2, 3, 4, 5, 6, 7, 8, 9] rfl rfl rfl rfl) rfl rfl hl.1 rfl (lv_room (Nat.le_of_ble_eq_true rfl)) d_mLate_29 ⟨Nat.le_of_ble_eq_true rfl, Nat.le_of_ble_eq_true rfl⟩) (fun r_59 u H locs p_61 hW => ?_)
    obtain ⟨rfl, rfl⟩ : r_59 = 210 ∧ u = 0 := Prod.mk.inj (p_61.trans (show (mm_mTell 210 0 hd) = (210, 0) from rfl))
    have hW : gk_W D vwCl (gk_T cI cL) s A H locs (wd_M cI cL g fl rn fs lt kk mk mf ml ma il sz tt fh 0) := hW.re [0, 1, 2, 3, 4, 5, 6, 7, 8, 9] (by decide) rfl
    exact X _ 0 H locs 0 0 32 ls heq hW d_mLate_32 rfl (Nat.le_of_ble_eq_true rfl) (Nat.le_of_ble_eq_true rfl)
  · rw [if_neg c_58] at heq
    refine lv_iload_n hx hb d_mLate_6 rfl (lv_at hl 3 rfl) ?_
    refine lv_bipush (v := 13) hx hb d_mLate_7 (by decide) ?_
    refine lv_icmp_eq (tgt := 24) hx hb d_mLate_9 (by decide) (fun c_62 => ?_) (fun c_62 => ?_)
    · rw [if_pos c_62] at heq
      refine lv_aload_n hx hb d_mLate_24 rfl (lv_at hl 0 rfl) ?_
      refine lv_sipush (v := 210) hx hb d_mLate_25 (by decide) ?_
      refine lv_iconst (v := 0) hx hb d_mLate_28 (by decide) ?_
      refine gk_goI (wr := []) hW [0, 1, 2, 3, 4, 5, 6, 7, 8, 9] [] rfl rfl (by decide) (by decide) (va_runV (As := [.int 210, .int 0]) (rest := []) ⟨hx, hb, hml, hown, hts⟩ (c_mTell l D cI cL cL g fl rn fs lt kk mk mf ml ma il sz tt fh hd 210 0 _) (gk_cwV hts w_147 w_148 w_149 w_116 k_mTell rfl e_mTell rfl rfl ⟨Nat.le_of_ble_eq_true rfl, Nat.le_of_ble_eq_true rfl⟩) (gk_preV hW [0, 1, 2, 3, 4, 5, 6, 7, 8, 9] rfl rfl rfl rfl) rfl rfl hl.1 rfl (lv_room (Nat.le_of_ble_eq_true rfl)) d_mLate_29 ⟨Nat.le_of_ble_eq_true rfl, Nat.le_of_ble_eq_true rfl⟩) (fun r_63 u H locs p_65 hW => ?_)
      obtain ⟨rfl, rfl⟩ : r_63 = 210 ∧ u = 0 := Prod.mk.inj (p_65.trans (show (mm_mTell 210 0 hd) = (210, 0) from rfl))
      have hW : gk_W D vwCl (gk_T cI cL) s A H locs (wd_M cI cL g fl rn fs lt kk mk mf ml ma il sz tt fh 0) := hW.re [0, 1, 2, 3, 4, 5, 6, 7, 8, 9] (by decide) rfl
      exact X _ 0 H locs 0 0 32 ls heq hW d_mLate_32 rfl (Nat.le_of_ble_eq_true rfl) (Nat.le_of_ble_eq_true rfl)
    · rw [if_neg c_62] at heq
      refine lv_iload_n hx hb d_mLate_12 rfl (lv_at hl 3 rfl) ?_
      refine lv_bipush (v := 19) hx hb d_mLate_13 (by decide) ?_
      refine lv_icmp_eq (tgt := 24) hx hb d_mLate_15 (by decide) (fun c_66 => ?_) (fun c_66 => ?_)
      · rw [if_pos c_66] at heq
        refine lv_aload_n hx hb d_mLate_24 rfl (lv_at hl 0 rfl) ?_
        refine lv_sipush (v := 210) hx hb d_mLate_25 (by decide) ?_
        refine lv_iconst (v := 0) hx hb d_mLate_28 (by decide) ?_
        refine gk_goI (wr := []) hW [0, 1, 2, 3, 4, 5, 6, 7, 8, 9] [] rfl rfl (by decide) (by decide) (va_runV (As := [.int 210, .int 0]) (rest := []) ⟨hx, hb, hml, hown, hts⟩ (c_mTell l D cI cL cL g fl rn fs lt kk mk mf ml ma il sz tt fh hd 210 0 _) (gk_cwV hts w_147 w_148 w_149 w_116 k_mTell rfl e_mTell rfl rfl ⟨Nat.le_of_ble_eq_true rfl, Nat.le_of_ble_eq_true rfl⟩) (gk_preV hW [0, 1, 2, 3, 4, 5, 6, 7, 8, 9] rfl rfl rfl rfl) rfl rfl hl.1 rfl (lv_room (Nat.le_of_ble_eq_true rfl)) d_mLate_29 ⟨Nat.le_of_ble_eq_true rfl, Nat.le_of_ble_eq_true rfl⟩) (fun r_67 u H locs p_69 hW => ?_)
        obtain ⟨rfl, rfl⟩ : r_67 = 210 ∧ u = 0 := Prod.mk.inj (p_69.trans (show (mm_mTell 210 0 hd) = (210, 0) from rfl))
        have hW : gk_W D vwCl (gk_T cI cL) s A H locs (wd_M cI cL g fl rn fs lt kk mk mf ml ma il sz tt fh 0) := hW.re [0, 1, 2, 3, 4, 5, 6, 7, 8, 9] (by decide) rfl
        exact X _ 0 H locs 0 0 32 ls heq hW d_mLate_32 rfl (Nat.le_of_ble_eq_true rfl) (Nat.le_of_ble_eq_true rfl)
      · rw [if_neg c_66] at heq
        refine lv_iload_n hx hb d_mLate_18 rfl (lv_at hl 2 rfl) ?_
        refine lv_bipush (v := 12) hx hb d_mLate_19 (by decide) ?_
        refine lv_icmp_ne (tgt := 33) hx hb d_mLate_21 (by decide) (fun c_70 => ?_) (fun c_70 => ?_)
        · rw [if_neg c_70] at heq
          refine lv_iload_n hx hb d_mLate_33 rfl (lv_at hl 2 rfl) ?_
          refine lv_bipush (v := 13) hx hb d_mLate_34 (by decide) ?_
          refine lv_icmp_eq (tgt := 45) hx hb d_mLate_36 (by decide) (fun c_71 => ?_) (fun c_71 => ?_)
          · rw [if_pos c_71] at heq
            exact K45 hd H locs ls heq hW (lv_sub hl [0, 1, 2, 3] rfl)
          · rw [if_neg c_71] at heq
            refine lv_iload_n hx hb d_mLate_39 rfl (lv_at hl 2 rfl) ?_
            refine lv_bipush (v := 11) hx hb d_mLate_40 (by decide) ?_
            refine lv_icmp_ne (tgt := 70) hx hb d_mLate_42 (by decide) (fun c_72 => ?_) (fun c_72 => ?_)
            · rw [if_neg c_72] at heq
              exact K70 hd H locs ls heq hW (lv_sub hl [0, 1, 2, 3] rfl)
            · rw [if_pos c_72] at heq
              exact K45 hd H locs ls heq hW (lv_sub hl [0, 1, 2, 3] rfl)
        · rw [if_pos c_70] at heq
          refine lv_aload_n hx hb d_mLate_24 rfl (lv_at hl 0 rfl) ?_
          refine lv_sipush (v := 210) hx hb d_mLate_25 (by decide) ?_
          refine lv_iconst (v := 0) hx hb d_mLate_28 (by decide) ?_
          refine gk_goI (wr := []) hW [0, 1, 2, 3, 4, 5, 6, 7, 8, 9] [] rfl rfl (by decide) (by decide) (va_runV (As := [.int 210, .int 0]) (rest := []) ⟨hx, hb, hml, hown, hts⟩ (c_mTell l D cI cL cL g fl rn fs lt kk mk mf ml ma il sz tt fh hd 210 0 _) (gk_cwV hts w_147 w_148 w_149 w_116 k_mTell rfl e_mTell rfl rfl ⟨Nat.le_of_ble_eq_true rfl, Nat.le_of_ble_eq_true rfl⟩) (gk_preV hW [0, 1, 2, 3, 4, 5, 6, 7, 8, 9] rfl rfl rfl rfl) rfl rfl hl.1 rfl (lv_room (Nat.le_of_ble_eq_true rfl)) d_mLate_29 ⟨Nat.le_of_ble_eq_true rfl, Nat.le_of_ble_eq_true rfl⟩) (fun r_73 u H locs p_75 hW => ?_)
          obtain ⟨rfl, rfl⟩ : r_73 = 210 ∧ u = 0 := Prod.mk.inj (p_75.trans (show (mm_mTell 210 0 hd) = (210, 0) from rfl))
          have hW : gk_W D vwCl (gk_T cI cL) s A H locs (wd_M cI cL g fl rn fs lt kk mk mf ml ma il sz tt fh 0) := hW.re [0, 1, 2, 3, 4, 5, 6, 7, 8, 9] (by decide) rfl
          exact X _ 0 H locs 0 0 32 ls heq hW d_mLate_32 rfl (Nat.le_of_ble_eq_true rfl) (Nat.le_of_ble_eq_true rfl)
def mm_mFlags_4 (x1 rn : Int32) (fs lt kk : Nat → Int32) (il : Int32) (tt : Nat → Int32) : Nat → Int32 → Int32 → Int32
  | 0, x2, x3 => 0
  | n + 1, x2, x3 => if x3 < 0 then x2 else (if (mm_mBaseClass x3 rn fs lt kk il tt) = 37 then (mm_mFlags_4 x1 rn fs lt kk il tt n (x2 + 1) (mm_mBase (x3 - 1) rn fs lt kk il tt)) else x2)
def mm_mFlags (x1 rn : Int32) (fs lt kk : Nat → Int32) (il : Int32) (tt : Nat → Int32) : Int32 := mm_mFlags_4 x1 rn fs lt kk il tt 2100 0 x1
def rm_mFlags : Room := { frames := 4, cells := 0, slots := 0, locals := 90 }
set_option maxHeartbeats 4000000 in
set_option maxRecDepth 100000 in
theorem c_mFlags (l : Launch) (D : va_G) (cI : ClassId) (cL cL : ClassId × ClassId) (g : Nat → Nat) (fl rn : Int32) (fs lt kk mk mf ml ma : Nat → Int32) (il sz : Int32) (tt fh : Nat → Int32) (hd x1 : Int32) (z_rn : Int) (v_rn : gk_v rn z_rn) (z_x1 : Int) (v_x1 : gk_v x1 z_x1) (hrn : 0 ≤ z_rn ∧ z_rn ≤ 100) (hx1 : 0 ≤ z_x1 ∧ z_x1 < 2000) : gk_I l y_mFlags (.code y_mFlags b_mFlags 4 (some .int) :: wA) rm_mFlags D vwCl (gk_T cI cL) [.ref (g 0), .int x1] (wd_M cI cL g fl rn fs lt kk mk mf ml ma il sz tt fh hd) (fun (r : Int32) (_ : Unit) => r = mm_mFlags x1 rn fs lt kk il tt) (fun (_ : Unit) => (wd_M cI cL g fl rn fs lt kk mk mf ml ma il sz tt fh hd)) 0 0 := by
  refine gk_I.of (by decide) (Nat.le_of_ble_eq_true rfl) ?_
  intro p e s m below meth c A ls Q H locs hx hb hml hown hts hW hl X
  have hl : lv_has ls 4 [(0, .ref (g 0)), (1, .int x1)] := hl
  obtain ⟨tgt, heq⟩ : ∃ t, mm_mFlags x1 rn fs lt kk il tt = t := ⟨_, rfl⟩
  rw [heq] at X
  rw [mm_mFlags] at heq
  obtain ⟨z_il, v_il⟩ := gk_vex il
  have L4 : ∀ (n : Nat) (x2 x3 : Int32) (H : Heap) (locs : List Loc) (ls : Array Slot), ∀ (z_x3 : Int), gk_v x3 z_x3 → (z_x3 + 11) < (n : Int) → -10 ≤ z_x3 ∧ z_x3 < 2000 → mm_mFlags_4 x1 rn fs lt kk il tt n x2 x3 = tgt → gk_W D vwCl (gk_T cI cL) s A H locs (wd_M cI cL g fl rn fs lt kk mk mf ml ma il sz tt fh hd) → lv_has ls 4 [(0, .ref (g 0)), (1, .int x1), (2, .int x2), (3, .int x3)] → W p l e rm_mFlags s m [.ref (g 0), .int x1].toArray below meth c H locs 0 0 Q (F0 m 4 ls []) := by
    intro n
    induction n with
    | zero => intro x2 x3 H locs ls z_x3 v_x3 hm f4_0 heq hW hl; exfalso; omega
    | succ n ih =>
      intro x2 x3 H locs ls z_x3 v_x3 hm f4_0 heq hW hl
      rw [mm_mFlags_4] at heq
      refine lv_iload_n hx hb d_mFlags_4 rfl (lv_at hl 3 rfl) ?_
      refine lv_if_lt (tgt := 32) hx hb d_mFlags_5 (by decide) (fun c_1 => ?_) (fun c_1 => ?_)
      · rw [if_pos c_1] at heq
        have ic_1 := gk_lt v_x3 (show gk_v 0 0 from rfl) c_1
        refine lv_iload_n hx hb d_mFlags_32 rfl (lv_at hl 2 rfl) ?_
        exact X _ () H locs 0 0 33 ls heq hW d_mFlags_33 rfl (Nat.le_of_ble_eq_true rfl) (Nat.le_of_ble_eq_true rfl)
      · rw [if_neg c_1] at heq
        have ic_1 := gk_nlt v_x3 (show gk_v 0 0 from rfl) c_1
        refine lv_aload_n hx hb d_mFlags_8 rfl (lv_at hl 0 rfl) ?_
        refine lv_iload_n hx hb d_mFlags_9 rfl (lv_at hl 3 rfl) ?_
        refine gk_goR hW [0, 1, 2, 3, 4, 5, 6, 7, 8, 9] rfl (va_runV (As := [.int x3]) (rest := []) ⟨hx, hb, hml, hown, hts⟩ (c_mBaseClass l D cI cL cL g fl rn fs lt kk mk mf ml ma il sz tt fh hd x3 z_rn v_rn z_x3 v_x3 (by omega) (by omega) _) (gk_cwV hts w_153 w_154 w_155 w_116 k_mBaseClass rfl e_mBaseClass rfl rfl ⟨Nat.le_of_ble_eq_true rfl, Nat.le_of_ble_eq_true rfl⟩) (gk_preV hW [0, 1, 2, 3, 4, 5, 6, 7, 8, 9] rfl rfl rfl rfl) rfl rfl hl.1 rfl (lv_room (Nat.le_of_ble_eq_true rfl)) d_mFlags_10 ⟨Nat.le_of_ble_eq_true rfl, Nat.le_of_ble_eq_true rfl⟩) (fun H locs hW => ?_)
        refine lv_bipush (v := 37) hx hb d_mFlags_13 (by decide) ?_
        refine lv_icmp_ne (tgt := 32) hx hb d_mFlags_15 (by decide) (fun c_2 => ?_) (fun c_2 => ?_)
        · rw [if_neg c_2] at heq
          refine lv_iload_n hx hb d_mFlags_32 rfl (lv_at hl 2 rfl) ?_
          exact X _ () H locs 0 0 33 ls heq hW d_mFlags_33 rfl (Nat.le_of_ble_eq_true rfl) (Nat.le_of_ble_eq_true rfl)
        · rw [if_pos c_2] at heq
          refine lv_iinc (v := x2 + 1) (lv' := [(2, .int (x2 + 1)), (0, .ref (g 0)), (1, .int x1), (3, .int x3)]) hx hb d_mFlags_18 hl (k := 2) rfl rfl (by decide) rfl (fun ls hl => ?_)
          refine lv_aload_n hx hb d_mFlags_21 rfl (lv_at hl 1 rfl) ?_
          refine lv_iload_n hx hb d_mFlags_22 rfl (lv_at hl 3 rfl) ?_
          refine lv_iconst (v := 1) hx hb d_mFlags_23 (by decide) ?_
          refine lv_isub hx hb d_mFlags_24 ?_
          obtain ⟨zt_3, vt_3, et_3⟩ := gk_sub v_x3 (show gk_v 1 1 from rfl) (by omega) (by omega)
          refine gk_goR hW [0, 1, 2, 3, 4, 5, 6, 7, 8, 9] rfl (va_runV (As := [.int (x3 - 1)]) (rest := []) ⟨hx, hb, hml, hown, hts⟩ (c_mBase l D cI cL cL g fl rn fs lt kk mk mf ml ma il sz tt fh hd (x3 - 1) z_rn v_rn zt_3 vt_3 (by omega) (by omega) _) (gk_cwV hts w_150 w_151 w_152 w_116 k_mBase rfl e_mBase rfl rfl ⟨Nat.le_of_ble_eq_true rfl, Nat.le_of_ble_eq_true rfl⟩) (gk_preV hW [0, 1, 2, 3, 4, 5, 6, 7, 8, 9] rfl rfl rfl rfl) rfl rfl hl.1 rfl (lv_room (Nat.le_of_ble_eq_true rfl)) d_mFlags_25 ⟨Nat.le_of_ble_eq_true rfl, Nat.le_of_ble_eq_true rfl⟩) (fun H locs hW => ?_)
          obtain ⟨zb_4, vb_4, hb_4⟩ := mm_mBase_bd (x3 - 1) rn fs lt kk il tt zt_3 vt_3 (by omega)
          refine lv_istore_n (lv' := [(3, .int (mm_mBase (x3 - 1) rn fs lt kk il tt)), (2, .int (x2 + 1)), (0, .ref (g 0)), (1, .int x1)]) hx hb d_mFlags_28 rfl hl (by decide) rfl (fun ls hl => ?_)
          refine lv_goto (tgt := 4) hx hb d_mFlags_29 (by decide) ?_
          exact ih (x2 + 1) (mm_mBase (x3 - 1) rn fs lt kk il tt) H locs ls zb_4 vb_4 (by omega) (by omega) heq hW (lv_sub hl [2, 3, 1, 0] rfl)
  refine lv_iconst (v := 0) hx hb d_mFlags_0 (by decide) ?_
  refine lv_istore_n (lv' := [(2, .int 0), (0, .ref (g 0)), (1, .int x1)]) hx hb d_mFlags_1 rfl hl (by decide) rfl (fun ls hl => ?_)
  refine lv_iload_n hx hb d_mFlags_2 rfl (lv_at hl 2 rfl) ?_
  refine lv_istore_n (lv' := [(3, .int x1), (2, .int 0), (0, .ref (g 0)), (1, .int x1)]) hx hb d_mFlags_3 rfl hl (by decide) rfl (fun ls hl => ?_)
  exact L4 2100 0 x1 H locs ls z_x1 v_x1 (by omega) (by omega) heq hW (lv_sub hl [2, 3, 1, 0] rfl)
def mm_mLast_245 (x1 x2 x3 x4 rn : Int32) (fs lt kk mk mf ml ma : Nat → Int32) (il : Int32) (tt : Nat → Int32) (x5 x6 hd : Int32) : Int32 × Int32 := if x4 = 31 then (if x3 = 30 then (302, 0) else (if (mm_mIsMarked x2 1 mk mf ml ma tt) = 0 then (310, 1) else (302, 0))) else (310, 1)
def mm_mLast_191 (x1 x2 x3 x4 rn : Int32) (fs lt kk mk mf ml ma : Nat → Int32) (il : Int32) (tt : Nat → Int32) (x5 y0 hd : Int32) : Int32 × Int32 := if x5 = 0 then (if y0 = 0 then (if x3 = 37 then (if x4 = 37 then (if ((mm_mFlags x2 rn fs lt kk il tt) - (mm_mFlags x2 rn fs lt kk il tt) / 2 * 2) = 1 then (301, 0) else (mm_mLast_245 x1 x2 x3 x4 rn fs lt kk mk mf ml ma il tt x5 y0 hd)) else (mm_mLast_245 x1 x2 x3 x4 rn fs lt kk mk mf ml ma il tt x5 y0 hd)) else (mm_mLast_245 x1 x2 x3 x4 rn fs lt kk mk mf ml ma il tt x5 y0 hd)) else (300, 0)) else (300, 0)
def mm_mLast_190 (x1 x2 x3 x4 rn : Int32) (fs lt kk mk mf ml ma : Nat → Int32) (il : Int32) (tt : Nat → Int32) (x5 hd : Int32) : Int32 × Int32 := mm_mLast_191 x1 x2 x3 x4 rn fs lt kk mk mf ml ma il tt x5 0 hd
def mm_mLast_186 (x1 x2 x3 x4 rn : Int32) (fs lt kk mk mf ml ma : Nat → Int32) (il : Int32) (tt : Nat → Int32) (x5 hd : Int32) : Int32 × Int32 := mm_mLast_191 x1 x2 x3 x4 rn fs lt kk mk mf ml ma il tt x5 1 hd
def mm_mLast_154 (x1 x2 x3 x4 rn : Int32) (fs lt kk mk mf ml ma : Nat → Int32) (il : Int32) (tt : Nat → Int32) (y0 hd : Int32) : Int32 × Int32 := if x3 = 16 then (if (mm_mIsMarked x2 0 mk mf ml ma tt) = 0 then (if (mm_mIsLetter x4) = 0 then (if x4 = 23 then (mm_mLast_186 x1 x2 x3 x4 rn fs lt kk mk mf ml ma il tt y0 hd) else (mm_mLast_190 x1 x2 x3 x4 rn fs lt kk mk mf ml ma il tt y0 hd)) else (mm_mLast_186 x1 x2 x3 x4 rn fs lt kk mk mf ml ma il tt y0 hd)) else (mm_mLast_190 x1 x2 x3 x4 rn fs lt kk mk mf ml ma il tt y0 hd)) else (mm_mLast_190 x1 x2 x3 x4 rn fs lt kk mk mf ml ma il tt y0 hd)
def mm_mLast_153 (x1 x2 x3 x4 rn : Int32) (fs lt kk mk mf ml ma : Nat → Int32) (il : Int32) (tt : Nat → Int32) (hd : Int32) : Int32 × Int32 := mm_mLast_154 x1 x2 x3 x4 rn fs lt kk mk mf ml ma il tt 0 hd
def mm_mLast_133 (x1 x2 x3 x4 rn : Int32) (fs lt kk mk mf ml ma : Nat → Int32) (il : Int32) (tt : Nat → Int32) (hd : Int32) : Int32 × Int32 := if x4 = 20 then (if (mm_mIsMarked x1 0 mk mf ml ma tt) = 0 then (mm_mLast_154 x1 x2 x3 x4 rn fs lt kk mk mf ml ma il tt 1 hd) else (mm_mLast_153 x1 x2 x3 x4 rn fs lt kk mk mf ml ma il tt hd)) else (mm_mLast_153 x1 x2 x3 x4 rn fs lt kk mk mf ml ma il tt hd)
def mm_mLast_120 (x1 x2 x3 x4 rn : Int32) (fs lt kk mk mf ml ma : Nat → Int32) (il : Int32) (tt : Nat → Int32) (hd : Int32) : Int32 × Int32 := if (mm_mIsLetter x3) = 0 then (if x3 = 23 then (mm_mLast_133 x1 x2 x3 x4 rn fs lt kk mk mf ml ma il tt hd) else (mm_mLast_153 x1 x2 x3 x4 rn fs lt kk mk mf ml ma il tt hd)) else (mm_mLast_133 x1 x2 x3 x4 rn fs lt kk mk mf ml ma il tt hd)
def mm_mLast_97 (x1 x2 x3 x4 rn : Int32) (fs lt kk mk mf ml ma : Nat → Int32) (il : Int32) (tt : Nat → Int32) (hd : Int32) : Int32 × Int32 := if x3 = 22 then (if (mm_mIsLetter x4) = 0 then (mm_mLast_120 x1 x2 x3 x4 rn fs lt kk mk mf ml ma il tt hd) else (290, 0)) else (mm_mLast_120 x1 x2 x3 x4 rn fs lt kk mk mf ml ma il tt hd)
def mm_mLast_73 (x1 x2 x3 x4 rn : Int32) (fs lt kk mk mf ml ma : Nat → Int32) (il : Int32) (tt : Nat → Int32) (hd : Int32) : Int32 × Int32 := if (mm_mIsLetter x3) = 0 then (mm_mLast_97 x1 x2 x3 x4 rn fs lt kk mk mf ml ma il tt hd) else (if (mm_mIsLetter x4) = 0 then (mm_mLast_97 x1 x2 x3 x4 rn fs lt kk mk mf ml ma il tt hd) else (280, 0))
def mm_mLast_50 (x1 x2 x3 x4 rn : Int32) (fs lt kk mk mf ml ma : Nat → Int32) (il : Int32) (tt : Nat → Int32) (hd : Int32) : Int32 × Int32 := if x3 = 25 then (if (mm_mIsHangul x4) = 0 then (mm_mLast_73 x1 x2 x3 x4 rn fs lt kk mk mf ml ma il tt hd) else (270, 0)) else (mm_mLast_73 x1 x2 x3 x4 rn fs lt kk mk mf ml ma il tt hd)
def mm_mLast (x1 x2 x3 x4 rn : Int32) (fs lt kk mk mf ml ma : Nat → Int32) (il : Int32) (tt : Nat → Int32) (hd : Int32) : Int32 × Int32 := if (mm_mIsNumeric x3 x4) = 0 then (if (mm_mIsSyllable x3 x4) = 0 then (if (mm_mIsHangul x3) = 0 then (mm_mLast_50 x1 x2 x3 x4 rn fs lt kk mk mf ml ma il tt hd) else (if x4 = 24 then (270, 0) else (mm_mLast_50 x1 x2 x3 x4 rn fs lt kk mk mf ml ma il tt hd))) else (260, 0)) else (250, 0)
def rm_mLast : Room := { frames := 5, cells := 0, slots := 0, locals := 113 }
set_option maxHeartbeats 4000000 in
set_option maxRecDepth 100000 in
theorem c_mLast (l : Launch) (D : va_G) (cI : ClassId) (cL cL : ClassId × ClassId) (g : Nat → Nat) (fl rn : Int32) (fs lt kk mk mf ml ma : Nat → Int32) (il sz : Int32) (tt fh : Nat → Int32) (hd x1 x2 x3 x4 : Int32) (z_rn : Int) (v_rn : gk_v rn z_rn) (z_x1 : Int) (v_x1 : gk_v x1 z_x1) (z_x2 : Int) (v_x2 : gk_v x2 z_x2) (hrn : 0 ≤ z_rn ∧ z_rn ≤ 100) (hx1 : 0 ≤ z_x1 ∧ z_x1 < 2000) (hx2 : 0 ≤ z_x2 ∧ z_x2 < 2000) (hmk : ∀ i : Nat, i < 2 → ∃ z : Int, gk_v (mk i) z ∧ 0 ≤ z ∧ z ≤ 40) (hma : ∀ i : Nat, ma i = 0 ∨ ma i = 1) : gk_I l y_mLast (.code y_mLast b_mLast 7 (some .int) :: wA) rm_mLast D vwCl (gk_T cI cL) [.ref (g 0), .int x1, .int x2, .int x3, .int x4] (wd_M cI cL g fl rn fs lt kk mk mf ml ma il sz tt fh hd) (fun (r : Int32) (u : Int32) => (r, u) = mm_mLast x1 x2 x3 x4 rn fs lt kk mk mf ml ma il tt hd) (fun u => (wd_M cI cL g fl rn fs lt kk mk mf ml ma il sz tt fh u)) 0 0 := by
  refine gk_I.of (by decide) (Nat.le_of_ble_eq_true rfl) ?_
  intro p e s m below meth c A ls Q H locs hx hb hml hown hts hW hl X
  have hl : lv_has ls 7 [(0, .ref (g 0)), (1, .int x1), (2, .int x2), (3, .int x3), (4, .int x4)] := hl
  obtain ⟨tgt, heq⟩ : ∃ t, mm_mLast x1 x2 x3 x4 rn fs lt kk mk mf ml ma il tt hd = t := ⟨_, rfl⟩
  rw [heq] at X
  rw [mm_mLast] at heq
  obtain ⟨z_x3, v_x3⟩ := gk_vex x3
  obtain ⟨z_x4, v_x4⟩ := gk_vex x4
  obtain ⟨z_il, v_il⟩ := gk_vex il
  have K245 : ∀ (x5 x6 hd : Int32) (H : Heap) (locs : List Loc) (ls : Array Slot), mm_mLast_245 x1 x2 x3 x4 rn fs lt kk mk mf ml ma il tt x5 x6 hd = tgt → gk_W D vwCl (gk_T cI cL) s A H locs (wd_M cI cL g fl rn fs lt kk mk mf ml ma il sz tt fh hd) → lv_has ls 7 [(0, .ref (g 0)), (1, .int x1), (2, .int x2), (3, .int x3), (4, .int x4), (5, .int x5), (6, .int x6)] → W p l e rm_mLast s m [.ref (g 0), .int x1, .int x2, .int x3, .int x4].toArray below meth c H locs 0 0 Q (F0 m 245 ls []) := by
    intro x5 x6 hd H locs ls heq hW hl
    rw [mm_mLast_245] at heq
    refine lv_iload hx hb d_mLast_245 (lv_at hl 4 rfl) ?_
    refine lv_bipush (v := 31) hx hb d_mLast_247 (by decide) ?_
    refine lv_icmp_ne (tgt := 276) hx hb d_mLast_249 (by decide) (fun c_1 => ?_) (fun c_1 => ?_)
    · rw [if_neg c_1] at heq
      refine lv_aload_n hx hb d_mLast_276 rfl (lv_at hl 0 rfl) ?_
      refine lv_sipush (v := 310) hx hb d_mLast_277 (by decide) ?_
      refine lv_iconst (v := 1) hx hb d_mLast_280 (by decide) ?_
      refine gk_goI (wr := []) hW [0, 1, 2, 3, 4, 5, 6, 7, 8, 9] [] rfl rfl (by decide) (by decide) (va_runV (As := [.int 310, .int 1]) (rest := []) ⟨hx, hb, hml, hown, hts⟩ (c_mTell l D cI cL cL g fl rn fs lt kk mk mf ml ma il sz tt fh hd 310 1 _) (gk_cwV hts w_147 w_148 w_149 w_116 k_mTell rfl e_mTell rfl rfl ⟨Nat.le_of_ble_eq_true rfl, Nat.le_of_ble_eq_true rfl⟩) (gk_preV hW [0, 1, 2, 3, 4, 5, 6, 7, 8, 9] rfl rfl rfl rfl) rfl rfl hl.1 rfl (lv_room (Nat.le_of_ble_eq_true rfl)) d_mLast_281 ⟨Nat.le_of_ble_eq_true rfl, Nat.le_of_ble_eq_true rfl⟩) (fun r_2 u H locs p_4 hW => ?_)
      obtain ⟨rfl, rfl⟩ : r_2 = 310 ∧ u = 1 := Prod.mk.inj (p_4.trans (show (mm_mTell 310 1 hd) = (310, 1) from rfl))
      have hW : gk_W D vwCl (gk_T cI cL) s A H locs (wd_M cI cL g fl rn fs lt kk mk mf ml ma il sz tt fh 1) := hW.re [0, 1, 2, 3, 4, 5, 6, 7, 8, 9] (by decide) rfl
      exact X _ 1 H locs 0 0 284 ls heq hW d_mLast_284 rfl (Nat.le_of_ble_eq_true rfl) (Nat.le_of_ble_eq_true rfl)
    · rw [if_pos c_1] at heq
      refine lv_iload_n hx hb d_mLast_252 rfl (lv_at hl 3 rfl) ?_
      refine lv_bipush (v := 30) hx hb d_mLast_253 (by decide) ?_
      refine lv_icmp_eq (tgt := 267) hx hb d_mLast_255 (by decide) (fun c_5 => ?_) (fun c_5 => ?_)
      · rw [if_pos c_5] at heq
        refine lv_aload_n hx hb d_mLast_267 rfl (lv_at hl 0 rfl) ?_
        refine lv_sipush (v := 302) hx hb d_mLast_268 (by decide) ?_
        refine lv_iconst (v := 0) hx hb d_mLast_271 (by decide) ?_
        refine gk_goI (wr := []) hW [0, 1, 2, 3, 4, 5, 6, 7, 8, 9] [] rfl rfl (by decide) (by decide) (va_runV (As := [.int 302, .int 0]) (rest := []) ⟨hx, hb, hml, hown, hts⟩ (c_mTell l D cI cL cL g fl rn fs lt kk mk mf ml ma il sz tt fh hd 302 0 _) (gk_cwV hts w_147 w_148 w_149 w_116 k_mTell rfl e_mTell rfl rfl ⟨Nat.le_of_ble_eq_true rfl, Nat.le_of_ble_eq_true rfl⟩) (gk_preV hW [0, 1, 2, 3, 4, 5, 6, 7, 8, 9] rfl rfl rfl rfl) rfl rfl hl.1 rfl (lv_room (Nat.le_of_ble_eq_true rfl)) d_mLast_272 ⟨Nat.le_of_ble_eq_true rfl, Nat.le_of_ble_eq_true rfl⟩) (fun r_6 u H locs p_8 hW => ?_)
        obtain ⟨rfl, rfl⟩ : r_6 = 302 ∧ u = 0 := Prod.mk.inj (p_8.trans (show (mm_mTell 302 0 hd) = (302, 0) from rfl))
        have hW : gk_W D vwCl (gk_T cI cL) s A H locs (wd_M cI cL g fl rn fs lt kk mk mf ml ma il sz tt fh 0) := hW.re [0, 1, 2, 3, 4, 5, 6, 7, 8, 9] (by decide) rfl
        exact X _ 0 H locs 0 0 275 ls heq hW d_mLast_275 rfl (Nat.le_of_ble_eq_true rfl) (Nat.le_of_ble_eq_true rfl)
      · rw [if_neg c_5] at heq
        refine lv_aload_n hx hb d_mLast_258 rfl (lv_at hl 0 rfl) ?_
        refine lv_iload_n hx hb d_mLast_259 rfl (lv_at hl 2 rfl) ?_
        refine lv_iconst (v := 1) hx hb d_mLast_260 (by decide) ?_
        refine gk_goR hW [0, 1, 2, 3, 4, 5, 6, 7, 8, 9] rfl (va_runV (As := [.int x2, .int 1]) (rest := []) ⟨hx, hb, hml, hown, hts⟩ (c_mIsMarked l D cI cL cL g fl rn fs lt kk mk mf ml ma il sz tt fh hd x2 1 z_x2 v_x2 1 (show gk_v 1 1 from rfl) (by omega) (by omega) hmk hma _) (gk_cwV hts w_167 w_168 w_169 w_116 k_mIsMarked rfl e_mIsMarked rfl rfl ⟨Nat.le_of_ble_eq_true rfl, Nat.le_of_ble_eq_true rfl⟩) (gk_preV hW [0, 1, 2, 3, 4, 5, 6, 7, 8, 9] rfl rfl rfl rfl) rfl rfl hl.1 rfl (lv_room (Nat.le_of_ble_eq_true rfl)) d_mLast_261 ⟨Nat.le_of_ble_eq_true rfl, Nat.le_of_ble_eq_true rfl⟩) (fun H locs hW => ?_)
        refine lv_if_eq (tgt := 276) hx hb d_mLast_264 (by decide) (fun c_9 => ?_) (fun c_9 => ?_)
        · rw [if_pos c_9] at heq
          refine lv_aload_n hx hb d_mLast_276 rfl (lv_at hl 0 rfl) ?_
          refine lv_sipush (v := 310) hx hb d_mLast_277 (by decide) ?_
          refine lv_iconst (v := 1) hx hb d_mLast_280 (by decide) ?_
          refine gk_goI (wr := []) hW [0, 1, 2, 3, 4, 5, 6, 7, 8, 9] [] rfl rfl (by decide) (by decide) (va_runV (As := [.int 310, .int 1]) (rest := []) ⟨hx, hb, hml, hown, hts⟩ (c_mTell l D cI cL cL g fl rn fs lt kk mk mf ml ma il sz tt fh hd 310 1 _) (gk_cwV hts w_147 w_148 w_149 w_116 k_mTell rfl e_mTell rfl rfl ⟨Nat.le_of_ble_eq_true rfl, Nat.le_of_ble_eq_true rfl⟩) (gk_preV hW [0, 1, 2, 3, 4, 5, 6, 7, 8, 9] rfl rfl rfl rfl) rfl rfl hl.1 rfl (lv_room (Nat.le_of_ble_eq_true rfl)) d_mLast_281 ⟨Nat.le_of_ble_eq_true rfl, Nat.le_of_ble_eq_true rfl⟩) (fun r_10 u H locs p_12 hW => ?_)
          obtain ⟨rfl, rfl⟩ : r_10 = 310 ∧ u = 1 := Prod.mk.inj (p_12.trans (show (mm_mTell 310 1 hd) = (310, 1) from rfl))
          have hW : gk_W D vwCl (gk_T cI cL) s A H locs (wd_M cI cL g fl rn fs lt kk mk mf ml ma il sz tt fh 1) := hW.re [0, 1, 2, 3, 4, 5, 6, 7, 8, 9] (by decide) rfl
          exact X _ 1 H locs 0 0 284 ls heq hW d_mLast_284 rfl (Nat.le_of_ble_eq_true rfl) (Nat.le_of_ble_eq_true rfl)
        · rw [if_neg c_9] at heq
          refine lv_aload_n hx hb d_mLast_267 rfl (lv_at hl 0 rfl) ?_
          refine lv_sipush (v := 302) hx hb d_mLast_268 (by decide) ?_
          refine lv_iconst (v := 0) hx hb d_mLast_271 (by decide) ?_
          refine gk_goI (wr := []) hW [0, 1, 2, 3, 4, 5, 6, 7, 8, 9] [] rfl rfl (by decide) (by decide) (va_runV (As := [.int 302, .int 0]) (rest := []) ⟨hx, hb, hml, hown, hts⟩ (c_mTell l D cI cL cL g fl rn fs lt kk mk mf ml ma il sz tt fh hd 302 0 _) (gk_cwV hts w_147 w_148 w_149 w_116 k_mTell rfl e_mTell rfl rfl ⟨Nat.le_of_ble_eq_true rfl, Nat.le_of_ble_eq_true rfl⟩) (gk_preV hW [0, 1, 2, 3, 4, 5, 6, 7, 8, 9] rfl rfl rfl rfl) rfl rfl hl.1 rfl (lv_room (Nat.le_of_ble_eq_true rfl)) d_mLast_272 ⟨Nat.le_of_ble_eq_true rfl, Nat.le_of_ble_eq_true rfl⟩) (fun r_13 u H locs p_15 hW => ?_)
          obtain ⟨rfl, rfl⟩ : r_13 = 302 ∧ u = 0 := Prod.mk.inj (p_15.trans (show (mm_mTell 302 0 hd) = (302, 0) from rfl))
          have hW : gk_W D vwCl (gk_T cI cL) s A H locs (wd_M cI cL g fl rn fs lt kk mk mf ml ma il sz tt fh 0) := hW.re [0, 1, 2, 3, 4, 5, 6, 7, 8, 9] (by decide) rfl
          exact X _ 0 H locs 0 0 275 ls heq hW d_mLast_275 rfl (Nat.le_of_ble_eq_true rfl) (Nat.le_of_ble_eq_true rfl)
  have K191 : ∀ (x5 y0 hd : Int32) (H : Heap) (locs : List Loc) (ls : Array Slot), mm_mLast_191 x1 x2 x3 x4 rn fs lt kk mk mf ml ma il tt x5 y0 hd = tgt → gk_W D vwCl (gk_T cI cL) s A H locs (wd_M cI cL g fl rn fs lt kk mk mf ml ma il sz tt fh hd) → lv_has ls 7 [(0, .ref (g 0)), (1, .int x1), (2, .int x2), (3, .int x3), (4, .int x4), (5, .int x5)] → W p l e rm_mLast s m [.ref (g 0), .int x1, .int x2, .int x3, .int x4].toArray below meth c H locs 0 0 Q (F0 m 191 ls [.int y0]) := by
    intro x5 y0 hd H locs ls heq hW hl
    rw [mm_mLast_191] at heq
    refine lv_istore (lv' := [(6, .int y0), (0, .ref (g 0)), (1, .int x1), (2, .int x2), (3, .int x3), (4, .int x4), (5, .int x5)]) hx hb d_mLast_191 hl (by decide) rfl (fun ls hl => ?_)
    refine lv_iload hx hb d_mLast_193 (lv_at hl 6 rfl) ?_
    refine lv_if_ne (tgt := 203) hx hb d_mLast_195 (by decide) (fun c_16 => ?_) (fun c_16 => ?_)
    · rw [if_neg c_16] at heq
      refine lv_aload_n hx hb d_mLast_203 rfl (lv_at hl 1 rfl) ?_
      refine lv_sipush (v := 300) hx hb d_mLast_204 (by decide) ?_
      refine lv_iconst (v := 0) hx hb d_mLast_207 (by decide) ?_
      refine gk_goI (wr := []) hW [0, 1, 2, 3, 4, 5, 6, 7, 8, 9] [] rfl rfl (by decide) (by decide) (va_runV (As := [.int 300, .int 0]) (rest := []) ⟨hx, hb, hml, hown, hts⟩ (c_mTell l D cI cL cL g fl rn fs lt kk mk mf ml ma il sz tt fh hd 300 0 _) (gk_cwV hts w_147 w_148 w_149 w_116 k_mTell rfl e_mTell rfl rfl ⟨Nat.le_of_ble_eq_true rfl, Nat.le_of_ble_eq_true rfl⟩) (gk_preV hW [0, 1, 2, 3, 4, 5, 6, 7, 8, 9] rfl rfl rfl rfl) rfl rfl hl.1 rfl (lv_room (Nat.le_of_ble_eq_true rfl)) d_mLast_208 ⟨Nat.le_of_ble_eq_true rfl, Nat.le_of_ble_eq_true rfl⟩) (fun r_17 u H locs p_19 hW => ?_)
      obtain ⟨rfl, rfl⟩ : r_17 = 300 ∧ u = 0 := Prod.mk.inj (p_19.trans (show (mm_mTell 300 0 hd) = (300, 0) from rfl))
      have hW : gk_W D vwCl (gk_T cI cL) s A H locs (wd_M cI cL g fl rn fs lt kk mk mf ml ma il sz tt fh 0) := hW.re [0, 1, 2, 3, 4, 5, 6, 7, 8, 9] (by decide) rfl
      exact X _ 0 H locs 0 0 211 ls heq hW d_mLast_211 rfl (Nat.le_of_ble_eq_true rfl) (Nat.le_of_ble_eq_true rfl)
    · rw [if_pos c_16] at heq
      refine lv_iload hx hb d_mLast_198 (lv_at hl 0 rfl) ?_
      refine lv_if_eq (tgt := 212) hx hb d_mLast_200 (by decide) (fun c_20 => ?_) (fun c_20 => ?_)
      · rw [if_pos c_20] at heq
        refine lv_iload_n hx hb d_mLast_212 rfl (lv_at hl 4 rfl) ?_
        refine lv_bipush (v := 37) hx hb d_mLast_213 (by decide) ?_
        refine lv_icmp_ne (tgt := 245) hx hb d_mLast_215 (by decide) (fun c_21 => ?_) (fun c_21 => ?_)
        · rw [if_neg c_21] at heq
          exact K245 x5 y0 hd H locs ls heq hW (lv_sub hl [1, 2, 3, 4, 5, 6, 0] rfl)
        · rw [if_pos c_21] at heq
          refine lv_iload hx hb d_mLast_218 (lv_at hl 5 rfl) ?_
          refine lv_bipush (v := 37) hx hb d_mLast_220 (by decide) ?_
          refine lv_icmp_ne (tgt := 245) hx hb d_mLast_222 (by decide) (fun c_22 => ?_) (fun c_22 => ?_)
          · rw [if_neg c_22] at heq
            exact K245 x5 y0 hd H locs ls heq hW (lv_sub hl [1, 2, 3, 4, 5, 6, 0] rfl)
          · rw [if_pos c_22] at heq
            refine lv_aload_n hx hb d_mLast_225 rfl (lv_at hl 1 rfl) ?_
            refine lv_iload_n hx hb d_mLast_226 rfl (lv_at hl 3 rfl) ?_
            refine gk_goR hW [0, 1, 2, 3, 4, 5, 6, 7, 8, 9] rfl (va_runV (As := [.int x2]) (rest := []) ⟨hx, hb, hml, hown, hts⟩ (c_mFlags l D cI cL cL g fl rn fs lt kk mk mf ml ma il sz tt fh hd x2 z_rn v_rn z_x2 v_x2 (by omega) (by omega) _) (gk_cwV hts w_170 w_171 w_172 w_116 k_mFlags rfl e_mFlags rfl rfl ⟨Nat.le_of_ble_eq_true rfl, Nat.le_of_ble_eq_true rfl⟩) (gk_preV hW [0, 1, 2, 3, 4, 5, 6, 7, 8, 9] rfl rfl rfl rfl) rfl rfl hl.1 rfl (lv_room (Nat.le_of_ble_eq_true rfl)) d_mLast_227 ⟨Nat.le_of_ble_eq_true rfl, Nat.le_of_ble_eq_true rfl⟩) (fun H locs hW => ?_)
            refine lv_iconst (v := 2) hx hb d_mLast_230 (by decide) ?_
            refine lv_irem hx hb d_mLast_231 (by decide) ?_
            refine lv_iconst (v := 1) hx hb d_mLast_232 (by decide) ?_
            refine lv_icmp_ne (tgt := 245) hx hb d_mLast_233 (by decide) (fun c_23 => ?_) (fun c_23 => ?_)
            · rw [if_neg c_23] at heq
              exact K245 x5 y0 hd H locs ls heq hW (lv_sub hl [1, 2, 3, 4, 5, 6, 0] rfl)
            · rw [if_pos c_23] at heq
              refine lv_aload_n hx hb d_mLast_236 rfl (lv_at hl 1 rfl) ?_
              refine lv_sipush (v := 301) hx hb d_mLast_237 (by decide) ?_
              refine lv_iconst (v := 0) hx hb d_mLast_240 (by decide) ?_
              refine gk_goI (wr := []) hW [0, 1, 2, 3, 4, 5, 6, 7, 8, 9] [] rfl rfl (by decide) (by decide) (va_runV (As := [.int 301, .int 0]) (rest := []) ⟨hx, hb, hml, hown, hts⟩ (c_mTell l D cI cL cL g fl rn fs lt kk mk mf ml ma il sz tt fh hd 301 0 _) (gk_cwV hts w_147 w_148 w_149 w_116 k_mTell rfl e_mTell rfl rfl ⟨Nat.le_of_ble_eq_true rfl, Nat.le_of_ble_eq_true rfl⟩) (gk_preV hW [0, 1, 2, 3, 4, 5, 6, 7, 8, 9] rfl rfl rfl rfl) rfl rfl hl.1 rfl (lv_room (Nat.le_of_ble_eq_true rfl)) d_mLast_241 ⟨Nat.le_of_ble_eq_true rfl, Nat.le_of_ble_eq_true rfl⟩) (fun r_24 u H locs p_26 hW => ?_)
              obtain ⟨rfl, rfl⟩ : r_24 = 301 ∧ u = 0 := Prod.mk.inj (p_26.trans (show (mm_mTell 301 0 hd) = (301, 0) from rfl))
              have hW : gk_W D vwCl (gk_T cI cL) s A H locs (wd_M cI cL g fl rn fs lt kk mk mf ml ma il sz tt fh 0) := hW.re [0, 1, 2, 3, 4, 5, 6, 7, 8, 9] (by decide) rfl
              exact X _ 0 H locs 0 0 244 ls heq hW d_mLast_244 rfl (Nat.le_of_ble_eq_true rfl) (Nat.le_of_ble_eq_true rfl)
      · rw [if_neg c_20] at heq
        refine lv_aload_n hx hb d_mLast_203 rfl (lv_at hl 1 rfl) ?_
        refine lv_sipush (v := 300) hx hb d_mLast_204 (by decide) ?_
        refine lv_iconst (v := 0) hx hb d_mLast_207 (by decide) ?_
        refine gk_goI (wr := []) hW [0, 1, 2, 3, 4, 5, 6, 7, 8, 9] [] rfl rfl (by decide) (by decide) (va_runV (As := [.int 300, .int 0]) (rest := []) ⟨hx, hb, hml, hown, hts⟩ (c_mTell l D cI cL cL g fl rn fs lt kk mk mf ml ma il sz tt fh hd 300 0 _) (gk_cwV hts w_147 w_148 w_149 w_116 k_mTell rfl e_mTell rfl rfl ⟨Nat.le_of_ble_eq_true rfl, Nat.le_of_ble_eq_true rfl⟩) (gk_preV hW [0, 1, 2, 3, 4, 5, 6, 7, 8, 9] rfl rfl rfl rfl) rfl rfl hl.1 rfl (lv_room (Nat.le_of_ble_eq_true rfl)) d_mLast_208 ⟨Nat.le_of_ble_eq_true rfl, Nat.le_of_ble_eq_true rfl⟩) (fun r_27 u H locs p_29 hW => ?_)
        obtain ⟨rfl, rfl⟩ : r_27 = 300 ∧ u = 0 := Prod.mk.inj (p_29.trans (show (mm_mTell 300 0 hd) = (300, 0) from rfl))
        have hW : gk_W D vwCl (gk_T cI cL) s A H locs (wd_M cI cL g fl rn fs lt kk mk mf ml ma il sz tt fh 0) := hW.re [0, 1, 2, 3, 4, 5, 6, 7, 8, 9] (by decide) rfl
        exact X _ 0 H locs 0 0 211 ls heq hW d_mLast_211 rfl (Nat.le_of_ble_eq_true rfl) (Nat.le_of_ble_eq_true rfl)
  have K190 : ∀ (x5 hd : Int32) (H : Heap) (locs : List Loc) (ls : Array Slot), mm_mLast_190 x1 x2 x3 x4 rn fs lt kk mk mf ml ma il tt x5 hd = tgt → gk_W D vwCl (gk_T cI cL) s A H locs (wd_M cI cL g fl rn fs lt kk mk mf ml ma il sz tt fh hd) → lv_has ls 7 [(0, .ref (g 0)), (1, .int x1), (2, .int x2), (3, .int x3), (4, .int x4), (5, .int x5)] → W p l e rm_mLast s m [.ref (g 0), .int x1, .int x2, .int x3, .int x4].toArray below meth c H locs 0 0 Q (F0 m 190 ls []) := by
    intro x5 hd H locs ls heq hW hl
    rw [mm_mLast_190] at heq
    refine lv_iconst (v := 0) hx hb d_mLast_190 (by decide) ?_
    exact K191 x5 0 hd H locs ls heq hW (lv_sub hl [0, 1, 2, 3, 4, 5] rfl)
  have K186 : ∀ (x5 hd : Int32) (H : Heap) (locs : List Loc) (ls : Array Slot), mm_mLast_186 x1 x2 x3 x4 rn fs lt kk mk mf ml ma il tt x5 hd = tgt → gk_W D vwCl (gk_T cI cL) s A H locs (wd_M cI cL g fl rn fs lt kk mk mf ml ma il sz tt fh hd) → lv_has ls 7 [(0, .ref (g 0)), (1, .int x1), (2, .int x2), (3, .int x3), (4, .int x4), (5, .int x5)] → W p l e rm_mLast s m [.ref (g 0), .int x1, .int x2, .int x3, .int x4].toArray below meth c H locs 0 0 Q (F0 m 186 ls []) := by
    intro x5 hd H locs ls heq hW hl
    rw [mm_mLast_186] at heq
    refine lv_iconst (v := 1) hx hb d_mLast_186 (by decide) ?_
    refine lv_goto (tgt := 191) hx hb d_mLast_187 (by decide) ?_
    exact K191 x5 1 hd H locs ls heq hW (lv_sub hl [0, 1, 2, 3, 4, 5] rfl)
  have K154 : ∀ (y0 hd : Int32) (H : Heap) (locs : List Loc) (ls : Array Slot), mm_mLast_154 x1 x2 x3 x4 rn fs lt kk mk mf ml ma il tt y0 hd = tgt → gk_W D vwCl (gk_T cI cL) s A H locs (wd_M cI cL g fl rn fs lt kk mk mf ml ma il sz tt fh hd) → lv_has ls 7 [(0, .ref (g 0)), (1, .int x1), (2, .int x2), (3, .int x3), (4, .int x4)] → W p l e rm_mLast s m [.ref (g 0), .int x1, .int x2, .int x3, .int x4].toArray below meth c H locs 0 0 Q (F0 m 154 ls [.int y0]) := by
    intro y0 hd H locs ls heq hW hl
    rw [mm_mLast_154] at heq
    refine lv_istore (lv' := [(5, .int y0), (0, .ref (g 0)), (1, .int x1), (2, .int x2), (3, .int x3), (4, .int x4)]) hx hb d_mLast_154 hl (by decide) rfl (fun ls hl => ?_)
    refine lv_iload_n hx hb d_mLast_156 rfl (lv_at hl 4 rfl) ?_
    refine lv_bipush (v := 16) hx hb d_mLast_157 (by decide) ?_
    refine lv_icmp_ne (tgt := 190) hx hb d_mLast_159 (by decide) (fun c_30 => ?_) (fun c_30 => ?_)
    · rw [if_neg c_30] at heq
      exact K190 y0 hd H locs ls heq hW (lv_sub hl [1, 2, 3, 4, 5, 0] rfl)
    · rw [if_pos c_30] at heq
      refine lv_aload_n hx hb d_mLast_162 rfl (lv_at hl 1 rfl) ?_
      refine lv_iload_n hx hb d_mLast_163 rfl (lv_at hl 3 rfl) ?_
      refine lv_iconst (v := 0) hx hb d_mLast_164 (by decide) ?_
      refine gk_goR hW [0, 1, 2, 3, 4, 5, 6, 7, 8, 9] rfl (va_runV (As := [.int x2, .int 0]) (rest := []) ⟨hx, hb, hml, hown, hts⟩ (c_mIsMarked l D cI cL cL g fl rn fs lt kk mk mf ml ma il sz tt fh hd x2 0 z_x2 v_x2 0 (show gk_v 0 0 from rfl) (by omega) (by omega) hmk hma _) (gk_cwV hts w_167 w_168 w_169 w_116 k_mIsMarked rfl e_mIsMarked rfl rfl ⟨Nat.le_of_ble_eq_true rfl, Nat.le_of_ble_eq_true rfl⟩) (gk_preV hW [0, 1, 2, 3, 4, 5, 6, 7, 8, 9] rfl rfl rfl rfl) rfl rfl hl.1 rfl (lv_room (Nat.le_of_ble_eq_true rfl)) d_mLast_165 ⟨Nat.le_of_ble_eq_true rfl, Nat.le_of_ble_eq_true rfl⟩) (fun H locs hW => ?_)
      refine lv_if_ne (tgt := 190) hx hb d_mLast_168 (by decide) (fun c_31 => ?_) (fun c_31 => ?_)
      · rw [if_neg c_31] at heq
        exact K190 y0 hd H locs ls heq hW (lv_sub hl [1, 2, 3, 4, 5, 0] rfl)
      · rw [if_pos c_31] at heq
        refine lv_iload hx hb d_mLast_171 (lv_at hl 5 rfl) ?_
        refine gk_goR hW [] rfl (va_runS (As := [.int x4]) (rest := []) ⟨hx, hb, hml, hown, hts⟩ (c_mIsLetter l D cI cL x4 _) (gk_cwS hts w_159 w_160 w_116 k_mIsLetter rfl e_mIsLetter rfl rfl ⟨Nat.le_of_ble_eq_true rfl, Nat.le_of_ble_eq_true rfl⟩) (gk_pre hW [] rfl rfl) rfl rfl hl.1 rfl (lv_room (Nat.le_of_ble_eq_true rfl)) d_mLast_173 ⟨Nat.le_of_ble_eq_true rfl, Nat.le_of_ble_eq_true rfl⟩) (fun H locs hW => ?_)
        refine lv_if_ne (tgt := 186) hx hb d_mLast_176 (by decide) (fun c_32 => ?_) (fun c_32 => ?_)
        · rw [if_neg c_32] at heq
          exact K186 y0 hd H locs ls heq hW (lv_sub hl [1, 2, 3, 4, 5, 0] rfl)
        · rw [if_pos c_32] at heq
          refine lv_iload hx hb d_mLast_179 (lv_at hl 5 rfl) ?_
          refine lv_bipush (v := 23) hx hb d_mLast_181 (by decide) ?_
          refine lv_icmp_ne (tgt := 190) hx hb d_mLast_183 (by decide) (fun c_33 => ?_) (fun c_33 => ?_)
          · rw [if_neg c_33] at heq
            exact K190 y0 hd H locs ls heq hW (lv_sub hl [1, 2, 3, 4, 5, 0] rfl)
          · rw [if_pos c_33] at heq
            exact K186 y0 hd H locs ls heq hW (lv_sub hl [1, 2, 3, 4, 5, 0] rfl)
  have K153 : ∀ (hd : Int32) (H : Heap) (locs : List Loc) (ls : Array Slot), mm_mLast_153 x1 x2 x3 x4 rn fs lt kk mk mf ml ma il tt hd = tgt → gk_W D vwCl (gk_T cI cL) s A H locs (wd_M cI cL g fl rn fs lt kk mk mf ml ma il sz tt fh hd) → lv_has ls 7 [(0, .ref (g 0)), (1, .int x1), (2, .int x2), (3, .int x3), (4, .int x4)] → W p l e rm_mLast s m [.ref (g 0), .int x1, .int x2, .int x3, .int x4].toArray below meth c H locs 0 0 Q (F0 m 153 ls []) := by
    intro hd H locs ls heq hW hl
    rw [mm_mLast_153] at heq
    refine lv_iconst (v := 0) hx hb d_mLast_153 (by decide) ?_
    exact K154 0 hd H locs ls heq hW (lv_sub hl [0, 1, 2, 3, 4] rfl)
  have K133 : ∀ (hd : Int32) (H : Heap) (locs : List Loc) (ls : Array Slot), mm_mLast_133 x1 x2 x3 x4 rn fs lt kk mk mf ml ma il tt hd = tgt → gk_W D vwCl (gk_T cI cL) s A H locs (wd_M cI cL g fl rn fs lt kk mk mf ml ma il sz tt fh hd) → lv_has ls 7 [(0, .ref (g 0)), (1, .int x1), (2, .int x2), (3, .int x3), (4, .int x4)] → W p l e rm_mLast s m [.ref (g 0), .int x1, .int x2, .int x3, .int x4].toArray below meth c H locs 0 0 Q (F0 m 133 ls []) := by
    intro hd H locs ls heq hW hl
    rw [mm_mLast_133] at heq
    refine lv_iload hx hb d_mLast_133 (lv_at hl 4 rfl) ?_
    refine lv_bipush (v := 20) hx hb d_mLast_135 (by decide) ?_
    refine lv_icmp_ne (tgt := 153) hx hb d_mLast_137 (by decide) (fun c_34 => ?_) (fun c_34 => ?_)
    · rw [if_neg c_34] at heq
      exact K153 hd H locs ls heq hW (lv_sub hl [0, 1, 2, 3, 4] rfl)
    · rw [if_pos c_34] at heq
      refine lv_aload_n hx hb d_mLast_140 rfl (lv_at hl 0 rfl) ?_
      refine lv_iload_n hx hb d_mLast_141 rfl (lv_at hl 1 rfl) ?_
      refine lv_iconst (v := 0) hx hb d_mLast_142 (by decide) ?_
      refine gk_goR hW [0, 1, 2, 3, 4, 5, 6, 7, 8, 9] rfl (va_runV (As := [.int x1, .int 0]) (rest := []) ⟨hx, hb, hml, hown, hts⟩ (c_mIsMarked l D cI cL cL g fl rn fs lt kk mk mf ml ma il sz tt fh hd x1 0 z_x1 v_x1 0 (show gk_v 0 0 from rfl) (by omega) (by omega) hmk hma _) (gk_cwV hts w_167 w_168 w_169 w_116 k_mIsMarked rfl e_mIsMarked rfl rfl ⟨Nat.le_of_ble_eq_true rfl, Nat.le_of_ble_eq_true rfl⟩) (gk_preV hW [0, 1, 2, 3, 4, 5, 6, 7, 8, 9] rfl rfl rfl rfl) rfl rfl hl.1 rfl (lv_room (Nat.le_of_ble_eq_true rfl)) d_mLast_143 ⟨Nat.le_of_ble_eq_true rfl, Nat.le_of_ble_eq_true rfl⟩) (fun H locs hW => ?_)
      refine lv_if_ne (tgt := 153) hx hb d_mLast_146 (by decide) (fun c_35 => ?_) (fun c_35 => ?_)
      · rw [if_neg c_35] at heq
        exact K153 hd H locs ls heq hW (lv_sub hl [0, 1, 2, 3, 4] rfl)
      · rw [if_pos c_35] at heq
        refine lv_iconst (v := 1) hx hb d_mLast_149 (by decide) ?_
        refine lv_goto (tgt := 154) hx hb d_mLast_150 (by decide) ?_
        exact K154 1 hd H locs ls heq hW (lv_sub hl [0, 1, 2, 3, 4] rfl)
  have K120 : ∀ (hd : Int32) (H : Heap) (locs : List Loc) (ls : Array Slot), mm_mLast_120 x1 x2 x3 x4 rn fs lt kk mk mf ml ma il tt hd = tgt → gk_W D vwCl (gk_T cI cL) s A H locs (wd_M cI cL g fl rn fs lt kk mk mf ml ma il sz tt fh hd) → lv_has ls 7 [(0, .ref (g 0)), (1, .int x1), (2, .int x2), (3, .int x3), (4, .int x4)] → W p l e rm_mLast s m [.ref (g 0), .int x1, .int x2, .int x3, .int x4].toArray below meth c H locs 0 0 Q (F0 m 120 ls []) := by
    intro hd H locs ls heq hW hl
    rw [mm_mLast_120] at heq
    refine lv_iload_n hx hb d_mLast_120 rfl (lv_at hl 3 rfl) ?_
    refine gk_goR hW [] rfl (va_runS (As := [.int x3]) (rest := []) ⟨hx, hb, hml, hown, hts⟩ (c_mIsLetter l D cI cL x3 _) (gk_cwS hts w_159 w_160 w_116 k_mIsLetter rfl e_mIsLetter rfl rfl ⟨Nat.le_of_ble_eq_true rfl, Nat.le_of_ble_eq_true rfl⟩) (gk_pre hW [] rfl rfl) rfl rfl hl.1 rfl (lv_room (Nat.le_of_ble_eq_true rfl)) d_mLast_121 ⟨Nat.le_of_ble_eq_true rfl, Nat.le_of_ble_eq_true rfl⟩) (fun H locs hW => ?_)
    refine lv_if_ne (tgt := 133) hx hb d_mLast_124 (by decide) (fun c_36 => ?_) (fun c_36 => ?_)
    · rw [if_neg c_36] at heq
      exact K133 hd H locs ls heq hW (lv_sub hl [0, 1, 2, 3, 4] rfl)
    · rw [if_pos c_36] at heq
      refine lv_iload_n hx hb d_mLast_127 rfl (lv_at hl 3 rfl) ?_
      refine lv_bipush (v := 23) hx hb d_mLast_128 (by decide) ?_
      refine lv_icmp_ne (tgt := 153) hx hb d_mLast_130 (by decide) (fun c_37 => ?_) (fun c_37 => ?_)
      · rw [if_neg c_37] at heq
        exact K153 hd H locs ls heq hW (lv_sub hl [0, 1, 2, 3, 4] rfl)
      · rw [if_pos c_37] at heq
        exact K133 hd H locs ls heq hW (lv_sub hl [0, 1, 2, 3, 4] rfl)
  have K97 : ∀ (hd : Int32) (H : Heap) (locs : List Loc) (ls : Array Slot), mm_mLast_97 x1 x2 x3 x4 rn fs lt kk mk mf ml ma il tt hd = tgt → gk_W D vwCl (gk_T cI cL) s A H locs (wd_M cI cL g fl rn fs lt kk mk mf ml ma il sz tt fh hd) → lv_has ls 7 [(0, .ref (g 0)), (1, .int x1), (2, .int x2), (3, .int x3), (4, .int x4)] → W p l e rm_mLast s m [.ref (g 0), .int x1, .int x2, .int x3, .int x4].toArray below meth c H locs 0 0 Q (F0 m 97 ls []) := by
    intro hd H locs ls heq hW hl
    rw [mm_mLast_97] at heq
    refine lv_iload_n hx hb d_mLast_97 rfl (lv_at hl 3 rfl) ?_
    refine lv_bipush (v := 22) hx hb d_mLast_98 (by decide) ?_
    refine lv_icmp_ne (tgt := 120) hx hb d_mLast_100 (by decide) (fun c_38 => ?_) (fun c_38 => ?_)
    · rw [if_neg c_38] at heq
      exact K120 hd H locs ls heq hW (lv_sub hl [0, 1, 2, 3, 4] rfl)
    · rw [if_pos c_38] at heq
      refine lv_iload hx hb d_mLast_103 (lv_at hl 4 rfl) ?_
      refine gk_goR hW [] rfl (va_runS (As := [.int x4]) (rest := []) ⟨hx, hb, hml, hown, hts⟩ (c_mIsLetter l D cI cL x4 _) (gk_cwS hts w_159 w_160 w_116 k_mIsLetter rfl e_mIsLetter rfl rfl ⟨Nat.le_of_ble_eq_true rfl, Nat.le_of_ble_eq_true rfl⟩) (gk_pre hW [] rfl rfl) rfl rfl hl.1 rfl (lv_room (Nat.le_of_ble_eq_true rfl)) d_mLast_105 ⟨Nat.le_of_ble_eq_true rfl, Nat.le_of_ble_eq_true rfl⟩) (fun H locs hW => ?_)
      refine lv_if_eq (tgt := 120) hx hb d_mLast_108 (by decide) (fun c_39 => ?_) (fun c_39 => ?_)
      · rw [if_pos c_39] at heq
        exact K120 hd H locs ls heq hW (lv_sub hl [0, 1, 2, 3, 4] rfl)
      · rw [if_neg c_39] at heq
        refine lv_aload_n hx hb d_mLast_111 rfl (lv_at hl 0 rfl) ?_
        refine lv_sipush (v := 290) hx hb d_mLast_112 (by decide) ?_
        refine lv_iconst (v := 0) hx hb d_mLast_115 (by decide) ?_
        refine gk_goI (wr := []) hW [0, 1, 2, 3, 4, 5, 6, 7, 8, 9] [] rfl rfl (by decide) (by decide) (va_runV (As := [.int 290, .int 0]) (rest := []) ⟨hx, hb, hml, hown, hts⟩ (c_mTell l D cI cL cL g fl rn fs lt kk mk mf ml ma il sz tt fh hd 290 0 _) (gk_cwV hts w_147 w_148 w_149 w_116 k_mTell rfl e_mTell rfl rfl ⟨Nat.le_of_ble_eq_true rfl, Nat.le_of_ble_eq_true rfl⟩) (gk_preV hW [0, 1, 2, 3, 4, 5, 6, 7, 8, 9] rfl rfl rfl rfl) rfl rfl hl.1 rfl (lv_room (Nat.le_of_ble_eq_true rfl)) d_mLast_116 ⟨Nat.le_of_ble_eq_true rfl, Nat.le_of_ble_eq_true rfl⟩) (fun r_40 u H locs p_42 hW => ?_)
        obtain ⟨rfl, rfl⟩ : r_40 = 290 ∧ u = 0 := Prod.mk.inj (p_42.trans (show (mm_mTell 290 0 hd) = (290, 0) from rfl))
        have hW : gk_W D vwCl (gk_T cI cL) s A H locs (wd_M cI cL g fl rn fs lt kk mk mf ml ma il sz tt fh 0) := hW.re [0, 1, 2, 3, 4, 5, 6, 7, 8, 9] (by decide) rfl
        exact X _ 0 H locs 0 0 119 ls heq hW d_mLast_119 rfl (Nat.le_of_ble_eq_true rfl) (Nat.le_of_ble_eq_true rfl)
  have K73 : ∀ (hd : Int32) (H : Heap) (locs : List Loc) (ls : Array Slot), mm_mLast_73 x1 x2 x3 x4 rn fs lt kk mk mf ml ma il tt hd = tgt → gk_W D vwCl (gk_T cI cL) s A H locs (wd_M cI cL g fl rn fs lt kk mk mf ml ma il sz tt fh hd) → lv_has ls 7 [(0, .ref (g 0)), (1, .int x1), (2, .int x2), (3, .int x3), (4, .int x4)] → W p l e rm_mLast s m [.ref (g 0), .int x1, .int x2, .int x3, .int x4].toArray below meth c H locs 0 0 Q (F0 m 73 ls []) := by
    intro hd H locs ls heq hW hl
    rw [mm_mLast_73] at heq
    refine lv_iload_n hx hb d_mLast_73 rfl (lv_at hl 3 rfl) ?_
    refine gk_goR hW [] rfl (va_runS (As := [.int x3]) (rest := []) ⟨hx, hb, hml, hown, hts⟩ (c_mIsLetter l D cI cL x3 _) (gk_cwS hts w_159 w_160 w_116 k_mIsLetter rfl e_mIsLetter rfl rfl ⟨Nat.le_of_ble_eq_true rfl, Nat.le_of_ble_eq_true rfl⟩) (gk_pre hW [] rfl rfl) rfl rfl hl.1 rfl (lv_room (Nat.le_of_ble_eq_true rfl)) d_mLast_74 ⟨Nat.le_of_ble_eq_true rfl, Nat.le_of_ble_eq_true rfl⟩) (fun H locs hW => ?_)
    refine lv_if_eq (tgt := 97) hx hb d_mLast_77 (by decide) (fun c_43 => ?_) (fun c_43 => ?_)
    · rw [if_pos c_43] at heq
      exact K97 hd H locs ls heq hW (lv_sub hl [0, 1, 2, 3, 4] rfl)
    · rw [if_neg c_43] at heq
      refine lv_iload hx hb d_mLast_80 (lv_at hl 4 rfl) ?_
      refine gk_goR hW [] rfl (va_runS (As := [.int x4]) (rest := []) ⟨hx, hb, hml, hown, hts⟩ (c_mIsLetter l D cI cL x4 _) (gk_cwS hts w_159 w_160 w_116 k_mIsLetter rfl e_mIsLetter rfl rfl ⟨Nat.le_of_ble_eq_true rfl, Nat.le_of_ble_eq_true rfl⟩) (gk_pre hW [] rfl rfl) rfl rfl hl.1 rfl (lv_room (Nat.le_of_ble_eq_true rfl)) d_mLast_82 ⟨Nat.le_of_ble_eq_true rfl, Nat.le_of_ble_eq_true rfl⟩) (fun H locs hW => ?_)
      refine lv_if_eq (tgt := 97) hx hb d_mLast_85 (by decide) (fun c_44 => ?_) (fun c_44 => ?_)
      · rw [if_pos c_44] at heq
        exact K97 hd H locs ls heq hW (lv_sub hl [0, 1, 2, 3, 4] rfl)
      · rw [if_neg c_44] at heq
        refine lv_aload_n hx hb d_mLast_88 rfl (lv_at hl 0 rfl) ?_
        refine lv_sipush (v := 280) hx hb d_mLast_89 (by decide) ?_
        refine lv_iconst (v := 0) hx hb d_mLast_92 (by decide) ?_
        refine gk_goI (wr := []) hW [0, 1, 2, 3, 4, 5, 6, 7, 8, 9] [] rfl rfl (by decide) (by decide) (va_runV (As := [.int 280, .int 0]) (rest := []) ⟨hx, hb, hml, hown, hts⟩ (c_mTell l D cI cL cL g fl rn fs lt kk mk mf ml ma il sz tt fh hd 280 0 _) (gk_cwV hts w_147 w_148 w_149 w_116 k_mTell rfl e_mTell rfl rfl ⟨Nat.le_of_ble_eq_true rfl, Nat.le_of_ble_eq_true rfl⟩) (gk_preV hW [0, 1, 2, 3, 4, 5, 6, 7, 8, 9] rfl rfl rfl rfl) rfl rfl hl.1 rfl (lv_room (Nat.le_of_ble_eq_true rfl)) d_mLast_93 ⟨Nat.le_of_ble_eq_true rfl, Nat.le_of_ble_eq_true rfl⟩) (fun r_45 u H locs p_47 hW => ?_)
        obtain ⟨rfl, rfl⟩ : r_45 = 280 ∧ u = 0 := Prod.mk.inj (p_47.trans (show (mm_mTell 280 0 hd) = (280, 0) from rfl))
        have hW : gk_W D vwCl (gk_T cI cL) s A H locs (wd_M cI cL g fl rn fs lt kk mk mf ml ma il sz tt fh 0) := hW.re [0, 1, 2, 3, 4, 5, 6, 7, 8, 9] (by decide) rfl
        exact X _ 0 H locs 0 0 96 ls heq hW d_mLast_96 rfl (Nat.le_of_ble_eq_true rfl) (Nat.le_of_ble_eq_true rfl)
  have K50 : ∀ (hd : Int32) (H : Heap) (locs : List Loc) (ls : Array Slot), mm_mLast_50 x1 x2 x3 x4 rn fs lt kk mk mf ml ma il tt hd = tgt → gk_W D vwCl (gk_T cI cL) s A H locs (wd_M cI cL g fl rn fs lt kk mk mf ml ma il sz tt fh hd) → lv_has ls 7 [(0, .ref (g 0)), (1, .int x1), (2, .int x2), (3, .int x3), (4, .int x4)] → W p l e rm_mLast s m [.ref (g 0), .int x1, .int x2, .int x3, .int x4].toArray below meth c H locs 0 0 Q (F0 m 50 ls []) := by
    intro hd H locs ls heq hW hl
    rw [mm_mLast_50] at heq
    refine lv_iload_n hx hb d_mLast_50 rfl (lv_at hl 3 rfl) ?_
    refine lv_bipush (v := 25) hx hb d_mLast_51 (by decide) ?_
    refine lv_icmp_ne (tgt := 73) hx hb d_mLast_53 (by decide) (fun c_48 => ?_) (fun c_48 => ?_)
    · rw [if_neg c_48] at heq
      exact K73 hd H locs ls heq hW (lv_sub hl [0, 1, 2, 3, 4] rfl)
    · rw [if_pos c_48] at heq
      refine lv_iload hx hb d_mLast_56 (lv_at hl 4 rfl) ?_
      refine gk_goR hW [] rfl (va_runS (As := [.int x4]) (rest := []) ⟨hx, hb, hml, hown, hts⟩ (c_mIsHangul l D cI cL x4 _) (gk_cwS hts w_165 w_166 w_116 k_mIsHangul rfl e_mIsHangul rfl rfl ⟨Nat.le_of_ble_eq_true rfl, Nat.le_of_ble_eq_true rfl⟩) (gk_pre hW [] rfl rfl) rfl rfl hl.1 rfl (lv_room (Nat.le_of_ble_eq_true rfl)) d_mLast_58 ⟨Nat.le_of_ble_eq_true rfl, Nat.le_of_ble_eq_true rfl⟩) (fun H locs hW => ?_)
      refine lv_if_eq (tgt := 73) hx hb d_mLast_61 (by decide) (fun c_49 => ?_) (fun c_49 => ?_)
      · rw [if_pos c_49] at heq
        exact K73 hd H locs ls heq hW (lv_sub hl [0, 1, 2, 3, 4] rfl)
      · rw [if_neg c_49] at heq
        refine lv_aload_n hx hb d_mLast_64 rfl (lv_at hl 0 rfl) ?_
        refine lv_sipush (v := 270) hx hb d_mLast_65 (by decide) ?_
        refine lv_iconst (v := 0) hx hb d_mLast_68 (by decide) ?_
        refine gk_goI (wr := []) hW [0, 1, 2, 3, 4, 5, 6, 7, 8, 9] [] rfl rfl (by decide) (by decide) (va_runV (As := [.int 270, .int 0]) (rest := []) ⟨hx, hb, hml, hown, hts⟩ (c_mTell l D cI cL cL g fl rn fs lt kk mk mf ml ma il sz tt fh hd 270 0 _) (gk_cwV hts w_147 w_148 w_149 w_116 k_mTell rfl e_mTell rfl rfl ⟨Nat.le_of_ble_eq_true rfl, Nat.le_of_ble_eq_true rfl⟩) (gk_preV hW [0, 1, 2, 3, 4, 5, 6, 7, 8, 9] rfl rfl rfl rfl) rfl rfl hl.1 rfl (lv_room (Nat.le_of_ble_eq_true rfl)) d_mLast_69 ⟨Nat.le_of_ble_eq_true rfl, Nat.le_of_ble_eq_true rfl⟩) (fun r_50 u H locs p_52 hW => ?_)
        obtain ⟨rfl, rfl⟩ : r_50 = 270 ∧ u = 0 := Prod.mk.inj (p_52.trans (show (mm_mTell 270 0 hd) = (270, 0) from rfl))
        have hW : gk_W D vwCl (gk_T cI cL) s A H locs (wd_M cI cL g fl rn fs lt kk mk mf ml ma il sz tt fh 0) := hW.re [0, 1, 2, 3, 4, 5, 6, 7, 8, 9] (by decide) rfl
        exact X _ 0 H locs 0 0 72 ls heq hW d_mLast_72 rfl (Nat.le_of_ble_eq_true rfl) (Nat.le_of_ble_eq_true rfl)
  refine lv_iload_n hx hb d_mLast_0 rfl (lv_at hl 3 rfl) ?_
  refine lv_iload hx hb d_mLast_1 (lv_at hl 4 rfl) ?_
  refine gk_goR hW [] rfl (va_runS (As := [.int x3, .int x4]) (rest := []) ⟨hx, hb, hml, hown, hts⟩ (c_mIsNumeric l D cI cL x3 x4 _) (gk_cwS hts w_161 w_162 w_116 k_mIsNumeric rfl e_mIsNumeric rfl rfl ⟨Nat.le_of_ble_eq_true rfl, Nat.le_of_ble_eq_true rfl⟩) (gk_pre hW [] rfl rfl) rfl rfl hl.1 rfl (lv_room (Nat.le_of_ble_eq_true rfl)) d_mLast_3 ⟨Nat.le_of_ble_eq_true rfl, Nat.le_of_ble_eq_true rfl⟩) (fun H locs hW => ?_)
  refine lv_if_eq (tgt := 18) hx hb d_mLast_6 (by decide) (fun c_53 => ?_) (fun c_53 => ?_)
  · rw [if_pos c_53] at heq
    refine lv_iload_n hx hb d_mLast_18 rfl (lv_at hl 3 rfl) ?_
    refine lv_iload hx hb d_mLast_19 (lv_at hl 4 rfl) ?_
    refine gk_goR hW [] rfl (va_runS (As := [.int x3, .int x4]) (rest := []) ⟨hx, hb, hml, hown, hts⟩ (c_mIsSyllable l D cI cL x3 x4 _) (gk_cwS hts w_163 w_164 w_116 k_mIsSyllable rfl e_mIsSyllable rfl rfl ⟨Nat.le_of_ble_eq_true rfl, Nat.le_of_ble_eq_true rfl⟩) (gk_pre hW [] rfl rfl) rfl rfl hl.1 rfl (lv_room (Nat.le_of_ble_eq_true rfl)) d_mLast_21 ⟨Nat.le_of_ble_eq_true rfl, Nat.le_of_ble_eq_true rfl⟩) (fun H locs hW => ?_)
    refine lv_if_eq (tgt := 36) hx hb d_mLast_24 (by decide) (fun c_54 => ?_) (fun c_54 => ?_)
    · rw [if_pos c_54] at heq
      refine lv_iload_n hx hb d_mLast_36 rfl (lv_at hl 3 rfl) ?_
      refine gk_goR hW [] rfl (va_runS (As := [.int x3]) (rest := []) ⟨hx, hb, hml, hown, hts⟩ (c_mIsHangul l D cI cL x3 _) (gk_cwS hts w_165 w_166 w_116 k_mIsHangul rfl e_mIsHangul rfl rfl ⟨Nat.le_of_ble_eq_true rfl, Nat.le_of_ble_eq_true rfl⟩) (gk_pre hW [] rfl rfl) rfl rfl hl.1 rfl (lv_room (Nat.le_of_ble_eq_true rfl)) d_mLast_37 ⟨Nat.le_of_ble_eq_true rfl, Nat.le_of_ble_eq_true rfl⟩) (fun H locs hW => ?_)
      refine lv_if_eq (tgt := 50) hx hb d_mLast_40 (by decide) (fun c_55 => ?_) (fun c_55 => ?_)
      · rw [if_pos c_55] at heq
        exact K50 hd H locs ls heq hW (lv_sub hl [0, 1, 2, 3, 4] rfl)
      · rw [if_neg c_55] at heq
        refine lv_iload hx hb d_mLast_43 (lv_at hl 4 rfl) ?_
        refine lv_bipush (v := 24) hx hb d_mLast_45 (by decide) ?_
        refine lv_icmp_eq (tgt := 64) hx hb d_mLast_47 (by decide) (fun c_56 => ?_) (fun c_56 => ?_)
        · rw [if_pos c_56] at heq
          refine lv_aload_n hx hb d_mLast_64 rfl (lv_at hl 0 rfl) ?_
          refine lv_sipush (v := 270) hx hb d_mLast_65 (by decide) ?_
          refine lv_iconst (v := 0) hx hb d_mLast_68 (by decide) ?_
          refine gk_goI (wr := []) hW [0, 1, 2, 3, 4, 5, 6, 7, 8, 9] [] rfl rfl (by decide) (by decide) (va_runV (As := [.int 270, .int 0]) (rest := []) ⟨hx, hb, hml, hown, hts⟩ (c_mTell l D cI cL cL g fl rn fs lt kk mk mf ml ma il sz tt fh hd 270 0 _) (gk_cwV hts w_147 w_148 w_149 w_116 k_mTell rfl e_mTell rfl rfl ⟨Nat.le_of_ble_eq_true rfl, Nat.le_of_ble_eq_true rfl⟩) (gk_preV hW [0, 1, 2, 3, 4, 5, 6, 7, 8, 9] rfl rfl rfl rfl) rfl rfl hl.1 rfl (lv_room (Nat.le_of_ble_eq_true rfl)) d_mLast_69 ⟨Nat.le_of_ble_eq_true rfl, Nat.le_of_ble_eq_true rfl⟩) (fun r_57 u H locs p_59 hW => ?_)
          obtain ⟨rfl, rfl⟩ : r_57 = 270 ∧ u = 0 := Prod.mk.inj (p_59.trans (show (mm_mTell 270 0 hd) = (270, 0) from rfl))
          have hW : gk_W D vwCl (gk_T cI cL) s A H locs (wd_M cI cL g fl rn fs lt kk mk mf ml ma il sz tt fh 0) := hW.re [0, 1, 2, 3, 4, 5, 6, 7, 8, 9] (by decide) rfl
          exact X _ 0 H locs 0 0 72 ls heq hW d_mLast_72 rfl (Nat.le_of_ble_eq_true rfl) (Nat.le_of_ble_eq_true rfl)
        · rw [if_neg c_56] at heq
          exact K50 hd H locs ls heq hW (lv_sub hl [0, 1, 2, 3, 4] rfl)
    · rw [if_neg c_54] at heq
      refine lv_aload_n hx hb d_mLast_27 rfl (lv_at hl 0 rfl) ?_
      refine lv_sipush (v := 260) hx hb d_mLast_28 (by decide) ?_
      refine lv_iconst (v := 0) hx hb d_mLast_31 (by decide) ?_
      refine gk_goI (wr := []) hW [0, 1, 2, 3, 4, 5, 6, 7, 8, 9] [] rfl rfl (by decide) (by decide) (va_runV (As := [.int 260, .int 0]) (rest := []) ⟨hx, hb, hml, hown, hts⟩ (c_mTell l D cI cL cL g fl rn fs lt kk mk mf ml ma il sz tt fh hd 260 0 _) (gk_cwV hts w_147 w_148 w_149 w_116 k_mTell rfl e_mTell rfl rfl ⟨Nat.le_of_ble_eq_true rfl, Nat.le_of_ble_eq_true rfl⟩) (gk_preV hW [0, 1, 2, 3, 4, 5, 6, 7, 8, 9] rfl rfl rfl rfl) rfl rfl hl.1 rfl (lv_room (Nat.le_of_ble_eq_true rfl)) d_mLast_32 ⟨Nat.le_of_ble_eq_true rfl, Nat.le_of_ble_eq_true rfl⟩) (fun r_60 u H locs p_62 hW => ?_)
      obtain ⟨rfl, rfl⟩ : r_60 = 260 ∧ u = 0 := Prod.mk.inj (p_62.trans (show (mm_mTell 260 0 hd) = (260, 0) from rfl))
      have hW : gk_W D vwCl (gk_T cI cL) s A H locs (wd_M cI cL g fl rn fs lt kk mk mf ml ma il sz tt fh 0) := hW.re [0, 1, 2, 3, 4, 5, 6, 7, 8, 9] (by decide) rfl
      exact X _ 0 H locs 0 0 35 ls heq hW d_mLast_35 rfl (Nat.le_of_ble_eq_true rfl) (Nat.le_of_ble_eq_true rfl)
  · rw [if_neg c_53] at heq
    refine lv_aload_n hx hb d_mLast_9 rfl (lv_at hl 0 rfl) ?_
    refine lv_sipush (v := 250) hx hb d_mLast_10 (by decide) ?_
    refine lv_iconst (v := 0) hx hb d_mLast_13 (by decide) ?_
    refine gk_goI (wr := []) hW [0, 1, 2, 3, 4, 5, 6, 7, 8, 9] [] rfl rfl (by decide) (by decide) (va_runV (As := [.int 250, .int 0]) (rest := []) ⟨hx, hb, hml, hown, hts⟩ (c_mTell l D cI cL cL g fl rn fs lt kk mk mf ml ma il sz tt fh hd 250 0 _) (gk_cwV hts w_147 w_148 w_149 w_116 k_mTell rfl e_mTell rfl rfl ⟨Nat.le_of_ble_eq_true rfl, Nat.le_of_ble_eq_true rfl⟩) (gk_preV hW [0, 1, 2, 3, 4, 5, 6, 7, 8, 9] rfl rfl rfl rfl) rfl rfl hl.1 rfl (lv_room (Nat.le_of_ble_eq_true rfl)) d_mLast_14 ⟨Nat.le_of_ble_eq_true rfl, Nat.le_of_ble_eq_true rfl⟩) (fun r_63 u H locs p_65 hW => ?_)
    obtain ⟨rfl, rfl⟩ : r_63 = 250 ∧ u = 0 := Prod.mk.inj (p_65.trans (show (mm_mTell 250 0 hd) = (250, 0) from rfl))
    have hW : gk_W D vwCl (gk_T cI cL) s A H locs (wd_M cI cL g fl rn fs lt kk mk mf ml ma il sz tt fh 0) := hW.re [0, 1, 2, 3, 4, 5, 6, 7, 8, 9] (by decide) rfl
    exact X _ 0 H locs 0 0 17 ls heq hW d_mLast_17 rfl (Nat.le_of_ble_eq_true rfl) (Nat.le_of_ble_eq_true rfl)
