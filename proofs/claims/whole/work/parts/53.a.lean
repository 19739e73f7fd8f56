def mm_mEarly_152 (x1 rn : Int32) (fs lt kk : Nat → Int32) (il sz : Int32) (tt : Nat → Int32) (x2 x3 x4 hd : Int32) : Int32 × Int32 := if (mm_mClassOf x4 rn fs lt kk il tt) = 5 then (80, 1) else (if x2 = 7 then (81, 0) else (if (mm_mIsLeftOut x1 rn fs lt kk il tt) = 0 then (0, hd) else (90, 0)))
def mm_mEarly_131 (x1 rn : Int32) (fs lt kk : Nat → Int32) (il sz : Int32) (tt : Nat → Int32) : Nat → Int32 → Int32 → Int32 → Int32 → Int32 × Int32
  | 0, x2, x3, x4, hd => (0, hd)
  | n + 1, x2, x3, x4, hd => if x4 ≤ 0 then (mm_mEarly_152 x1 rn fs lt kk il sz tt x2 x3 x4 hd) else (if (mm_mClassOf x4 rn fs lt kk il tt) = 4 then (mm_mEarly_131 x1 rn fs lt kk il sz tt n x2 x3 (x4 + (-1)) hd) else (mm_mEarly_152 x1 rn fs lt kk il sz tt x2 x3 x4 hd))
def mm_mEarly_72 (x1 rn : Int32) (fs lt kk : Nat → Int32) (il sz : Int32) (tt : Nat → Int32) (x2 x3 hd : Int32) : Int32 × Int32 := if x2 = 1 then (50, 2) else (if x2 = 2 then (50, 2) else (if x2 = 3 then (50, 2) else (if 3 < x3 then (if x3 = 4 then (70, 0) else (if x3 = 5 then (70, 0) else (mm_mEarly_131 x1 rn fs lt kk il sz tt 2001 x2 x3 (x1 - 1) hd))) else (60, 0))))
def mm_mEarly (x1 rn : Int32) (fs lt kk : Nat → Int32) (il sz : Int32) (tt : Nat → Int32) (hd : Int32) : Int32 × Int32 := if x1 = 0 then (20, 0) else (if x1 = sz then (30, 2) else (if (mm_mClassOf (x1 - 1) rn fs lt kk il tt) = 0 then (40, 2) else (if (mm_mClassOf (x1 - 1) rn fs lt kk il tt) = 1 then (if (mm_mClassOf x1 rn fs lt kk il tt) = 2 then (50, 0) else (mm_mEarly_72 x1 rn fs lt kk il sz tt (mm_mClassOf (x1 - 1) rn fs lt kk il tt) (mm_mClassOf x1 rn fs lt kk il tt) hd)) else (mm_mEarly_72 x1 rn fs lt kk il sz tt (mm_mClassOf (x1 - 1) rn fs lt kk il tt) (mm_mClassOf x1 rn fs lt kk il tt) hd))))
theorem mm_mEarly_in {x1 rn : Int32} {fs lt kk : Nat → Int32} {il sz : Int32} {tt : Nat → Int32} {hd r h : Int32} {z1 zs : Int} (hp : (r, h) = mm_mEarly x1 rn fs lt kk il sz tt hd) (hr : r ≤ 0) (v1 : gk_v x1 z1) (vs : gk_v sz zs) (hb : 0 ≤ z1 ∧ z1 ≤ zs) : 0 < z1 ∧ z1 < zs := by
  rw [mm_mEarly] at hp
  by_cases c1 : x1 = 0
  · rw [if_pos c1] at hp
    have e := (Prod.mk.inj hp).1
    rw [e] at hr
    exact absurd hr (by decide)
  · rw [if_neg c1] at hp
    by_cases c2 : x1 = sz
    · rw [if_pos c2] at hp
      have e := (Prod.mk.inj hp).1
      rw [e] at hr
      exact absurd hr (by decide)
    · have n1 := gk_ne v1 (show gk_v 0 0 from rfl) c1
      have n2 := gk_ne v1 vs c2
      omega
def rm_mEarly : Room := { frames := 3, cells := 0, slots := 0, locals := 68 }
set_option maxHeartbeats 4000000 in
set_option maxRecDepth 100000 in
theorem c_mEarly (l : Launch) (D : va_G) (cI : ClassId) (cL cL : ClassId × ClassId) (g : Nat → Nat) (fl rn : Int32) (fs lt kk mk mf ml ma : Nat → Int32) (il sz : Int32) (tt fh : Nat → Int32) (hd x1 : Int32) (z_rn : Int) (v_rn : gk_v rn z_rn) (z_sz : Int) (v_sz : gk_v sz z_sz) (z_x1 : Int) (v_x1 : gk_v x1 z_x1) (hsz : 0 ≤ z_sz ∧ z_sz ≤ 2000) (hrn : 0 ≤ z_rn ∧ z_rn ≤ 100) (hx1 : 0 ≤ z_x1 ∧ z_x1 ≤ z_sz) : gk_I l y_mEarly (.code y_mEarly b_mEarly 5 (some .int) :: wA) rm_mEarly D vwCl (gk_T cI cL) [.ref (g 0), .int x1] (wd_M cI cL g fl rn fs lt kk mk mf ml ma il sz tt fh hd) (fun (r : Int32) (u : Int32) => (r, u) = mm_mEarly x1 rn fs lt kk il sz tt hd) (fun u => (wd_M cI cL g fl rn fs lt kk mk mf ml ma il sz tt fh u)) 0 0 := by
  refine gk_I.of (by decide) (Nat.le_of_ble_eq_true rfl) ?_
  intro p e s m below meth c A ls Q H locs hx hb hml hown hts hW hl X
  have hl : lv_has ls 5 [(0, .ref (g 0)), (1, .int x1)] := hl
  obtain ⟨tgt, heq⟩ : ∃ t, mm_mEarly x1 rn fs lt kk il sz tt hd = t := ⟨_, rfl⟩
  rw [heq] at X
  rw [mm_mEarly] at heq
  obtain ⟨z_il, v_il⟩ := gk_vex il
  have K152 : ∀ (x2 x3 x4 hd : Int32) (H : Heap) (locs : List Loc) (ls : Array Slot), ∀ (z_x4 : Int), gk_v x4 z_x4 → 0 < z_x1 ∧ z_x1 < z_sz → 0 ≤ z_x4 ∧ z_x4 < z_sz → mm_mEarly_152 x1 rn fs lt kk il sz tt x2 x3 x4 hd = tgt → gk_W D vwCl (gk_T cI cL) s A H locs (wd_M cI cL g fl rn fs lt kk mk mf ml ma il sz tt fh hd) → lv_has ls 5 [(0, .ref (g 0)), (1, .int x1), (2, .int x2), (3, .int x3), (4, .int x4)] → W p l e rm_mEarly s m [.ref (g 0), .int x1].toArray below meth c H locs 0 0 Q (F0 m 152 ls []) := by
    intro x2 x3 x4 hd H locs ls z_x4 v_x4 f152_0 f152_1 heq hW hl
    rw [mm_mEarly_152] at heq
    refine lv_aload_n hx hb d_mEarly_152 rfl (lv_at hl 0 rfl) ?_
    refine lv_iload hx hb d_mEarly_153 (lv_at hl 4 rfl) ?_
    refine gk_goR hW [0, 1, 2, 3, 4, 5, 6, 7, 8, 9] rfl (va_runV (As := [.int x4]) (rest := []) ⟨hx, hb, hml, hown, hts⟩ (c_mClassOf l D cI cL cL g fl rn fs lt kk mk mf ml ma il sz tt fh hd x4 z_rn v_rn z_x4 v_x4 (by omega) (by omega) _) (gk_cwV hts w_167 w_168 w_169 w_145 k_mClassOf rfl e_mClassOf rfl rfl ⟨Nat.le_of_ble_eq_true rfl, Nat.le_of_ble_eq_true rfl⟩) (gk_preV hW [0, 1, 2, 3, 4, 5, 6, 7, 8, 9] rfl rfl rfl rfl) rfl rfl hl.1 rfl (lv_room (Nat.le_of_ble_eq_true rfl)) d_mEarly_155 ⟨Nat.le_of_ble_eq_true rfl, Nat.le_of_ble_eq_true rfl⟩) (fun H locs hW => ?_)
    refine lv_iconst (v := 5) hx hb d_mEarly_158 (by decide) ?_
    refine lv_icmp_ne (tgt := 170) hx hb d_mEarly_159 (by decide) (fun c_1 => ?_) (fun c_1 => ?_)
    · replace heq := (if_neg c_1).symm.trans heq
      refine lv_iload_n hx hb d_mEarly_170 rfl (lv_at hl 2 rfl) ?_
      refine lv_bipush (v := 7) hx hb d_mEarly_171 (by decide) ?_
      refine lv_icmp_ne (tgt := 184) hx hb d_mEarly_173 (by decide) (fun c_2 => ?_) (fun c_2 => ?_)
      · replace heq := (if_neg c_2).symm.trans heq
        refine lv_aload_n hx hb d_mEarly_184 rfl (lv_at hl 0 rfl) ?_
        refine lv_iload_n hx hb d_mEarly_185 rfl (lv_at hl 1 rfl) ?_
        refine gk_goR hW [0, 1, 2, 3, 4, 5, 6, 7, 8, 9] rfl (va_runV (As := [.int x1]) (rest := []) ⟨hx, hb, hml, hown, hts⟩ (c_mIsLeftOut l D cI cL cL g fl rn fs lt kk mk mf ml ma il sz tt fh hd x1 z_rn v_rn z_x1 v_x1 (by omega) (by omega) _) (gk_cwV hts w_173 w_174 w_175 w_145 k_mIsLeftOut rfl e_mIsLeftOut rfl rfl ⟨Nat.le_of_ble_eq_true rfl, Nat.le_of_ble_eq_true rfl⟩) (gk_preV hW [0, 1, 2, 3, 4, 5, 6, 7, 8, 9] rfl rfl rfl rfl) rfl rfl hl.1 rfl (lv_room (Nat.le_of_ble_eq_true rfl)) d_mEarly_186 ⟨Nat.le_of_ble_eq_true rfl, Nat.le_of_ble_eq_true rfl⟩) (fun H locs hW => ?_)
        refine lv_if_eq (tgt := 202) hx hb d_mEarly_189 (by decide) (fun c_3 => ?_) (fun c_3 => ?_)
        · replace heq := (if_pos c_3).symm.trans heq
          refine lv_iconst (v := 0) hx hb d_mEarly_202 (by decide) ?_
          exact X _ hd H locs 0 0 203 ls heq hW d_mEarly_203 rfl (Nat.le_of_ble_eq_true rfl) (Nat.le_of_ble_eq_true rfl)
        · replace heq := (if_neg c_3).symm.trans heq
          refine lv_aload_n hx hb d_mEarly_192 rfl (lv_at hl 0 rfl) ?_
          refine lv_bipush (v := 90) hx hb d_mEarly_193 (by decide) ?_
          refine lv_iconst (v := 0) hx hb d_mEarly_195 (by decide) ?_
          refine gk_goI (wr := []) hW [0, 1, 2, 3, 4, 5, 6, 7, 8, 9] [] rfl rfl (by decide) (by decide) (va_runV (As := [.int 90, .int 0]) (rest := []) ⟨hx, hb, hml, hown, hts⟩ (c_mTell l D cI cL cL g fl rn fs lt kk mk mf ml ma il sz tt fh hd 90 0 _) (gk_cwV hts w_176 w_177 w_178 w_145 k_mTell rfl e_mTell rfl rfl ⟨Nat.le_of_ble_eq_true rfl, Nat.le_of_ble_eq_true rfl⟩) (gk_preV hW [0, 1, 2, 3, 4, 5, 6, 7, 8, 9] rfl rfl rfl rfl) rfl rfl hl.1 rfl (lv_room (Nat.le_of_ble_eq_true rfl)) d_mEarly_196 ⟨Nat.le_of_ble_eq_true rfl, Nat.le_of_ble_eq_true rfl⟩) (fun r_4 u H locs p_6 hW => ?_)
          obtain ⟨rfl, rfl⟩ : r_4 = 90 ∧ u = 0 := Prod.mk.inj (p_6.trans (show (mm_mTell 90 0 hd) = (90, 0) from rfl))
          have hW : gk_W D vwCl (gk_T cI cL) s A H locs (wd_M cI cL g fl rn fs lt kk mk mf ml ma il sz tt fh 0) := hW.re [0, 1, 2, 3, 4, 5, 6, 7, 8, 9] (by decide) rfl
          refine lv_goto (tgt := 203) hx hb d_mEarly_199 (by decide) ?_
          exact X _ 0 H locs 0 0 203 ls heq hW d_mEarly_203 rfl (Nat.le_of_ble_eq_true rfl) (Nat.le_of_ble_eq_true rfl)
      · replace heq := (if_pos c_2).symm.trans heq
        refine lv_aload_n hx hb d_mEarly_176 rfl (lv_at hl 0 rfl) ?_
        refine lv_bipush (v := 81) hx hb d_mEarly_177 (by decide) ?_
        refine lv_iconst (v := 0) hx hb d_mEarly_179 (by decide) ?_
        refine gk_goI (wr := []) hW [0, 1, 2, 3, 4, 5, 6, 7, 8, 9] [] rfl rfl (by decide) (by decide) (va_runV (As := [.int 81, .int 0]) (rest := []) ⟨hx, hb, hml, hown, hts⟩ (c_mTell l D cI cL cL g fl rn fs lt kk mk mf ml ma il sz tt fh hd 81 0 _) (gk_cwV hts w_176 w_177 w_178 w_145 k_mTell rfl e_mTell rfl rfl ⟨Nat.le_of_ble_eq_true rfl, Nat.le_of_ble_eq_true rfl⟩) (gk_preV hW [0, 1, 2, 3, 4, 5, 6, 7, 8, 9] rfl rfl rfl rfl) rfl rfl hl.1 rfl (lv_room (Nat.le_of_ble_eq_true rfl)) d_mEarly_180 ⟨Nat.le_of_ble_eq_true rfl, Nat.le_of_ble_eq_true rfl⟩) (fun r_7 u H locs p_9 hW => ?_)
        obtain ⟨rfl, rfl⟩ : r_7 = 81 ∧ u = 0 := Prod.mk.inj (p_9.trans (show (mm_mTell 81 0 hd) = (81, 0) from rfl))
        have hW : gk_W D vwCl (gk_T cI cL) s A H locs (wd_M cI cL g fl rn fs lt kk mk mf ml ma il sz tt fh 0) := hW.re [0, 1, 2, 3, 4, 5, 6, 7, 8, 9] (by decide) rfl
        exact X _ 0 H locs 0 0 183 ls heq hW d_mEarly_183 rfl (Nat.le_of_ble_eq_true rfl) (Nat.le_of_ble_eq_true rfl)
    · replace heq := (if_pos c_1).symm.trans heq
      refine lv_aload_n hx hb d_mEarly_162 rfl (lv_at hl 0 rfl) ?_
      refine lv_bipush (v := 80) hx hb d_mEarly_163 (by decide) ?_
      refine lv_iconst (v := 1) hx hb d_mEarly_165 (by decide) ?_
      refine gk_goI (wr := []) hW [0, 1, 2, 3, 4, 5, 6, 7, 8, 9] [] rfl rfl (by decide) (by decide) (va_runV (As := [.int 80, .int 1]) (rest := []) ⟨hx, hb, hml, hown, hts⟩ (c_mTell l D cI cL cL g fl rn fs lt kk mk mf ml ma il sz tt fh hd 80 1 _) (gk_cwV hts w_176 w_177 w_178 w_145 k_mTell rfl e_mTell rfl rfl ⟨Nat.le_of_ble_eq_true rfl, Nat.le_of_ble_eq_true rfl⟩) (gk_preV hW [0, 1, 2, 3, 4, 5, 6, 7, 8, 9] rfl rfl rfl rfl) rfl rfl hl.1 rfl (lv_room (Nat.le_of_ble_eq_true rfl)) d_mEarly_166 ⟨Nat.le_of_ble_eq_true rfl, Nat.le_of_ble_eq_true rfl⟩) (fun r_10 u H locs p_12 hW => ?_)
      obtain ⟨rfl, rfl⟩ : r_10 = 80 ∧ u = 1 := Prod.mk.inj (p_12.trans (show (mm_mTell 80 1 hd) = (80, 1) from rfl))
      have hW : gk_W D vwCl (gk_T cI cL) s A H locs (wd_M cI cL g fl rn fs lt kk mk mf ml ma il sz tt fh 1) := hW.re [0, 1, 2, 3, 4, 5, 6, 7, 8, 9] (by decide) rfl
      exact X _ 1 H locs 0 0 169 ls heq hW d_mEarly_169 rfl (Nat.le_of_ble_eq_true rfl) (Nat.le_of_ble_eq_true rfl)
  have L131 : ∀ (n : Nat) (x2 x3 x4 hd : Int32) (H : Heap) (locs : List Loc) (ls : Array Slot), ∀ (z_x4 : Int), gk_v x4 z_x4 → (z_x4) < (n : Int) → 0 < z_x1 ∧ z_x1 < z_sz → 0 ≤ z_x4 ∧ z_x4 < z_sz → mm_mEarly_131 x1 rn fs lt kk il sz tt n x2 x3 x4 hd = tgt → gk_W D vwCl (gk_T cI cL) s A H locs (wd_M cI cL g fl rn fs lt kk mk mf ml ma il sz tt fh hd) → lv_has ls 5 [(0, .ref (g 0)), (1, .int x1), (2, .int x2), (3, .int x3), (4, .int x4)] → W p l e rm_mEarly s m [.ref (g 0), .int x1].toArray below meth c H locs 0 0 Q (F0 m 131 ls []) := by
    intro n
    induction n with
    | zero => intro x2 x3 x4 hd H locs ls z_x4 v_x4 hm f131_0 f131_1 heq hW hl; exfalso; omega
    | succ n ih =>
      intro x2 x3 x4 hd H locs ls z_x4 v_x4 hm f131_0 f131_1 heq hW hl
      rw [mm_mEarly_131] at heq
      refine lv_iload hx hb d_mEarly_131 (lv_at hl 4 rfl) ?_
      refine lv_if_le (tgt := 152) hx hb d_mEarly_133 (by decide) (fun c_13 => ?_) (fun c_13 => ?_)
      · replace heq := (if_pos c_13).symm.trans heq
        have ic_13 := gk_le v_x4 (show gk_v 0 0 from rfl) c_13
        exact K152 x2 x3 x4 hd H locs ls z_x4 v_x4 (by omega) (by omega) heq hW (lv_sub hl [0, 1, 2, 3, 4] rfl)
      · replace heq := (if_neg c_13).symm.trans heq
        have ic_13 := gk_nle v_x4 (show gk_v 0 0 from rfl) c_13
        refine lv_aload_n hx hb d_mEarly_136 rfl (lv_at hl 0 rfl) ?_
        refine lv_iload hx hb d_mEarly_137 (lv_at hl 4 rfl) ?_
        refine gk_goR hW [0, 1, 2, 3, 4, 5, 6, 7, 8, 9] rfl (va_runV (As := [.int x4]) (rest := []) ⟨hx, hb, hml, hown, hts⟩ (c_mClassOf l D cI cL cL g fl rn fs lt kk mk mf ml ma il sz tt fh hd x4 z_rn v_rn z_x4 v_x4 (by omega) (by omega) _) (gk_cwV hts w_167 w_168 w_169 w_145 k_mClassOf rfl e_mClassOf rfl rfl ⟨Nat.le_of_ble_eq_true rfl, Nat.le_of_ble_eq_true rfl⟩) (gk_preV hW [0, 1, 2, 3, 4, 5, 6, 7, 8, 9] rfl rfl rfl rfl) rfl rfl hl.1 rfl (lv_room (Nat.le_of_ble_eq_true rfl)) d_mEarly_139 ⟨Nat.le_of_ble_eq_true rfl, Nat.le_of_ble_eq_true rfl⟩) (fun H locs hW => ?_)
        refine lv_iconst (v := 4) hx hb d_mEarly_142 (by decide) ?_
        refine lv_icmp_ne (tgt := 152) hx hb d_mEarly_143 (by decide) (fun c_14 => ?_) (fun c_14 => ?_)
        · replace heq := (if_neg c_14).symm.trans heq
          exact K152 x2 x3 x4 hd H locs ls z_x4 v_x4 (by omega) (by omega) heq hW (lv_sub hl [0, 1, 2, 3, 4] rfl)
        · replace heq := (if_pos c_14).symm.trans heq
          refine lv_iinc (v := x4 + (-1)) (lv' := [(4, .int (x4 + (-1))), (0, .ref (g 0)), (1, .int x1), (2, .int x2), (3, .int x3)]) hx hb d_mEarly_146 hl (k := 4) rfl rfl (by decide) rfl (fun ls hl => ?_)
          obtain ⟨zt_15, vt_15, et_15⟩ := gk_add v_x4 (show gk_v (-1) (-1) from rfl) (by omega) (by omega)
          refine lv_goto (tgt := 131) hx hb d_mEarly_149 (by decide) ?_
          exact ih x2 x3 (x4 + (-1)) hd H locs ls zt_15 vt_15 (by omega) (by omega) (by omega) heq hW (lv_sub hl [1, 2, 3, 4, 0] rfl)
  have K72 : ∀ (x2 x3 hd : Int32) (H : Heap) (locs : List Loc) (ls : Array Slot), 0 < z_x1 ∧ z_x1 < z_sz → mm_mEarly_72 x1 rn fs lt kk il sz tt x2 x3 hd = tgt → gk_W D vwCl (gk_T cI cL) s A H locs (wd_M cI cL g fl rn fs lt kk mk mf ml ma il sz tt fh hd) → lv_has ls 5 [(0, .ref (g 0)), (1, .int x1), (2, .int x2), (3, .int x3)] → W p l e rm_mEarly s m [.ref (g 0), .int x1].toArray below meth c H locs 0 0 Q (F0 m 72 ls []) := by
    intro x2 x3 hd H locs ls f72_0 heq hW hl
    rw [mm_mEarly_72] at heq
    refine lv_iload_n hx hb d_mEarly_72 rfl (lv_at hl 2 rfl) ?_
    refine lv_iconst (v := 1) hx hb d_mEarly_73 (by decide) ?_
    refine lv_icmp_eq (tgt := 87) hx hb d_mEarly_74 (by decide) (fun c_16 => ?_) (fun c_16 => ?_)
    · replace heq := (if_pos c_16).symm.trans heq
      refine lv_aload_n hx hb d_mEarly_87 rfl (lv_at hl 0 rfl) ?_
      refine lv_bipush (v := 50) hx hb d_mEarly_88 (by decide) ?_
      refine lv_iconst (v := 2) hx hb d_mEarly_90 (by decide) ?_
      refine gk_goI (wr := []) hW [0, 1, 2, 3, 4, 5, 6, 7, 8, 9] [] rfl rfl (by decide) (by decide) (va_runV (As := [.int 50, .int 2]) (rest := []) ⟨hx, hb, hml, hown, hts⟩ (c_mTell l D cI cL cL g fl rn fs lt kk mk mf ml ma il sz tt fh hd 50 2 _) (gk_cwV hts w_176 w_177 w_178 w_145 k_mTell rfl e_mTell rfl rfl ⟨Nat.le_of_ble_eq_true rfl, Nat.le_of_ble_eq_true rfl⟩) (gk_preV hW [0, 1, 2, 3, 4, 5, 6, 7, 8, 9] rfl rfl rfl rfl) rfl rfl hl.1 rfl (lv_room (Nat.le_of_ble_eq_true rfl)) d_mEarly_91 ⟨Nat.le_of_ble_eq_true rfl, Nat.le_of_ble_eq_true rfl⟩) (fun r_17 u H locs p_19 hW => ?_)
      obtain ⟨rfl, rfl⟩ : r_17 = 50 ∧ u = 2 := Prod.mk.inj (p_19.trans (show (mm_mTell 50 2 hd) = (50, 2) from rfl))
      have hW : gk_W D vwCl (gk_T cI cL) s A H locs (wd_M cI cL g fl rn fs lt kk mk mf ml ma il sz tt fh 2) := hW.re [0, 1, 2, 3, 4, 5, 6, 7, 8, 9] (by decide) rfl
      exact X _ 2 H locs 0 0 94 ls heq hW d_mEarly_94 rfl (Nat.le_of_ble_eq_true rfl) (Nat.le_of_ble_eq_true rfl)
    · replace heq := (if_neg c_16).symm.trans heq
      refine lv_iload_n hx hb d_mEarly_77 rfl (lv_at hl 2 rfl) ?_
      refine lv_iconst (v := 2) hx hb d_mEarly_78 (by decide) ?_
      refine lv_icmp_eq (tgt := 87) hx hb d_mEarly_79 (by decide) (fun c_20 => ?_) (fun c_20 => ?_)
      · replace heq := (if_pos c_20).symm.trans heq
        refine lv_aload_n hx hb d_mEarly_87 rfl (lv_at hl 0 rfl) ?_
        refine lv_bipush (v := 50) hx hb d_mEarly_88 (by decide) ?_
        refine lv_iconst (v := 2) hx hb d_mEarly_90 (by decide) ?_
        refine gk_goI (wr := []) hW [0, 1, 2, 3, 4, 5, 6, 7, 8, 9] [] rfl rfl (by decide) (by decide) (va_runV (As := [.int 50, .int 2]) (rest := []) ⟨hx, hb, hml, hown, hts⟩ (c_mTell l D cI cL cL g fl rn fs lt kk mk mf ml ma il sz tt fh hd 50 2 _) (gk_cwV hts w_176 w_177 w_178 w_145 k_mTell rfl e_mTell rfl rfl ⟨Nat.le_of_ble_eq_true rfl, Nat.le_of_ble_eq_true rfl⟩) (gk_preV hW [0, 1, 2, 3, 4, 5, 6, 7, 8, 9] rfl rfl rfl rfl) rfl rfl hl.1 rfl (lv_room (Nat.le_of_ble_eq_true rfl)) d_mEarly_91 ⟨Nat.le_of_ble_eq_true rfl, Nat.le_of_ble_eq_true rfl⟩) (fun r_21 u H locs p_23 hW => ?_)
        obtain ⟨rfl, rfl⟩ : r_21 = 50 ∧ u = 2 := Prod.mk.inj (p_23.trans (show (mm_mTell 50 2 hd) = (50, 2) from rfl))
        have hW : gk_W D vwCl (gk_T cI cL) s A H locs (wd_M cI cL g fl rn fs lt kk mk mf ml ma il sz tt fh 2) := hW.re [0, 1, 2, 3, 4, 5, 6, 7, 8, 9] (by decide) rfl
        exact X _ 2 H locs 0 0 94 ls heq hW d_mEarly_94 rfl (Nat.le_of_ble_eq_true rfl) (Nat.le_of_ble_eq_true rfl)
      · replace heq := (if_neg c_20).symm.trans heq
        refine lv_iload_n hx hb d_mEarly_82 rfl (lv_at hl 2 rfl) ?_
        refine lv_iconst (v := 3) hx hb d_mEarly_83 (by decide) ?_
        refine lv_icmp_ne (tgt := 95) hx hb d_mEarly_84 (by decide) (fun c_24 => ?_) (fun c_24 => ?_)
        · replace heq := (if_neg c_24).symm.trans heq
          refine lv_iload_n hx hb d_mEarly_95 rfl (lv_at hl 3 rfl) ?_
          refine lv_iconst (v := 3) hx hb d_mEarly_96 (by decide) ?_
          refine lv_icmp_gt (tgt := 108) hx hb d_mEarly_97 (by decide) (fun c_25 => ?_) (fun c_25 => ?_)
          · replace heq := (if_pos c_25).symm.trans heq
            refine lv_iload_n hx hb d_mEarly_108 rfl (lv_at hl 3 rfl) ?_
            refine lv_iconst (v := 4) hx hb d_mEarly_109 (by decide) ?_
            refine lv_icmp_eq (tgt := 118) hx hb d_mEarly_110 (by decide) (fun c_26 => ?_) (fun c_26 => ?_)
            · replace heq := (if_pos c_26).symm.trans heq
              refine lv_aload_n hx hb d_mEarly_118 rfl (lv_at hl 0 rfl) ?_
              refine lv_bipush (v := 70) hx hb d_mEarly_119 (by decide) ?_
              refine lv_iconst (v := 0) hx hb d_mEarly_121 (by decide) ?_
              refine gk_goI (wr := []) hW [0, 1, 2, 3, 4, 5, 6, 7, 8, 9] [] rfl rfl (by decide) (by decide) (va_runV (As := [.int 70, .int 0]) (rest := []) ⟨hx, hb, hml, hown, hts⟩ (c_mTell l D cI cL cL g fl rn fs lt kk mk mf ml ma il sz tt fh hd 70 0 _) (gk_cwV hts w_176 w_177 w_178 w_145 k_mTell rfl e_mTell rfl rfl ⟨Nat.le_of_ble_eq_true rfl, Nat.le_of_ble_eq_true rfl⟩) (gk_preV hW [0, 1, 2, 3, 4, 5, 6, 7, 8, 9] rfl rfl rfl rfl) rfl rfl hl.1 rfl (lv_room (Nat.le_of_ble_eq_true rfl)) d_mEarly_122 ⟨Nat.le_of_ble_eq_true rfl, Nat.le_of_ble_eq_true rfl⟩) (fun r_27 u H locs p_29 hW => ?_)
              obtain ⟨rfl, rfl⟩ : r_27 = 70 ∧ u = 0 := Prod.mk.inj (p_29.trans (show (mm_mTell 70 0 hd) = (70, 0) from rfl))
              have hW : gk_W D vwCl (gk_T cI cL) s A H locs (wd_M cI cL g fl rn fs lt kk mk mf ml ma il sz tt fh 0) := hW.re [0, 1, 2, 3, 4, 5, 6, 7, 8, 9] (by decide) rfl
              exact X _ 0 H locs 0 0 125 ls heq hW d_mEarly_125 rfl (Nat.le_of_ble_eq_true rfl) (Nat.le_of_ble_eq_true rfl)
            · replace heq := (if_neg c_26).symm.trans heq
              refine lv_iload_n hx hb d_mEarly_113 rfl (lv_at hl 3 rfl) ?_
              refine lv_iconst (v := 5) hx hb d_mEarly_114 (by decide) ?_
              refine lv_icmp_ne (tgt := 126) hx hb d_mEarly_115 (by decide) (fun c_30 => ?_) (fun c_30 => ?_)
              · replace heq := (if_neg c_30).symm.trans heq
                refine lv_iload_n hx hb d_mEarly_126 rfl (lv_at hl 1 rfl) ?_
                refine lv_iconst (v := 1) hx hb d_mEarly_127 (by decide) ?_
                refine lv_isub hx hb d_mEarly_128 ?_
                obtain ⟨zt_31, vt_31, et_31⟩ := gk_sub v_x1 (show gk_v 1 1 from rfl) (by omega) (by omega)
                refine lv_istore (lv' := [(4, .int (x1 - 1)), (0, .ref (g 0)), (1, .int x1), (2, .int x2), (3, .int x3)]) hx hb d_mEarly_129 hl (by decide) rfl (fun ls hl => ?_)
                exact L131 2001 x2 x3 (x1 - 1) hd H locs ls zt_31 vt_31 (by omega) (by omega) (by omega) heq hW (lv_sub hl [1, 2, 3, 4, 0] rfl)
              · replace heq := (if_pos c_30).symm.trans heq
                refine lv_aload_n hx hb d_mEarly_118 rfl (lv_at hl 0 rfl) ?_
                refine lv_bipush (v := 70) hx hb d_mEarly_119 (by decide) ?_
                refine lv_iconst (v := 0) hx hb d_mEarly_121 (by decide) ?_
                refine gk_goI (wr := []) hW [0, 1, 2, 3, 4, 5, 6, 7, 8, 9] [] rfl rfl (by decide) (by decide) (va_runV (As := [.int 70, .int 0]) (rest := []) ⟨hx, hb, hml, hown, hts⟩ (c_mTell l D cI cL cL g fl rn fs lt kk mk mf ml ma il sz tt fh hd 70 0 _) (gk_cwV hts w_176 w_177 w_178 w_145 k_mTell rfl e_mTell rfl rfl ⟨Nat.le_of_ble_eq_true rfl, Nat.le_of_ble_eq_true rfl⟩) (gk_preV hW [0, 1, 2, 3, 4, 5, 6, 7, 8, 9] rfl rfl rfl rfl) rfl rfl hl.1 rfl (lv_room (Nat.le_of_ble_eq_true rfl)) d_mEarly_122 ⟨Nat.le_of_ble_eq_true rfl, Nat.le_of_ble_eq_true rfl⟩) (fun r_32 u H locs p_34 hW => ?_)
                obtain ⟨rfl, rfl⟩ : r_32 = 70 ∧ u = 0 := Prod.mk.inj (p_34.trans (show (mm_mTell 70 0 hd) = (70, 0) from rfl))
                have hW : gk_W D vwCl (gk_T cI cL) s A H locs (wd_M cI cL g fl rn fs lt kk mk mf ml ma il sz tt fh 0) := hW.re [0, 1, 2, 3, 4, 5, 6, 7, 8, 9] (by decide) rfl
                exact X _ 0 H locs 0 0 125 ls heq hW d_mEarly_125 rfl (Nat.le_of_ble_eq_true rfl) (Nat.le_of_ble_eq_true rfl)
          · replace heq := (if_neg c_25).symm.trans heq
            refine lv_aload_n hx hb d_mEarly_100 rfl (lv_at hl 0 rfl) ?_
            refine lv_bipush (v := 60) hx hb d_mEarly_101 (by decide) ?_
            refine lv_iconst (v := 0) hx hb d_mEarly_103 (by decide) ?_
            refine gk_goI (wr := []) hW [0, 1, 2, 3, 4, 5, 6, 7, 8, 9] [] rfl rfl (by decide) (by decide) (va_runV (As := [.int 60, .int 0]) (rest := []) ⟨hx, hb, hml, hown, hts⟩ (c_mTell l D cI cL cL g fl rn fs lt kk mk mf ml ma il sz tt fh hd 60 0 _) (gk_cwV hts w_176 w_177 w_178 w_145 k_mTell rfl e_mTell rfl rfl ⟨Nat.le_of_ble_eq_true rfl, Nat.le_of_ble_eq_true rfl⟩) (gk_preV hW [0, 1, 2, 3, 4, 5, 6, 7, 8, 9] rfl rfl rfl rfl) rfl rfl hl.1 rfl (lv_room (Nat.le_of_ble_eq_true rfl)) d_mEarly_104 ⟨Nat.le_of_ble_eq_true rfl, Nat.le_of_ble_eq_true rfl⟩) (fun r_35 u H locs p_37 hW => ?_)
            obtain ⟨rfl, rfl⟩ : r_35 = 60 ∧ u = 0 := Prod.mk.inj (p_37.trans (show (mm_mTell 60 0 hd) = (60, 0) from rfl))
            have hW : gk_W D vwCl (gk_T cI cL) s A H locs (wd_M cI cL g fl rn fs lt kk mk mf ml ma il sz tt fh 0) := hW.re [0, 1, 2, 3, 4, 5, 6, 7, 8, 9] (by decide) rfl
            exact X _ 0 H locs 0 0 107 ls heq hW d_mEarly_107 rfl (Nat.le_of_ble_eq_true rfl) (Nat.le_of_ble_eq_true rfl)
        · replace heq := (if_pos c_24).symm.trans heq
          refine lv_aload_n hx hb d_mEarly_87 rfl (lv_at hl 0 rfl) ?_
          refine lv_bipush (v := 50) hx hb d_mEarly_88 (by decide) ?_
          refine lv_iconst (v := 2) hx hb d_mEarly_90 (by decide) ?_
          refine gk_goI (wr := []) hW [0, 1, 2, 3, 4, 5, 6, 7, 8, 9] [] rfl rfl (by decide) (by decide) (va_runV (As := [.int 50, .int 2]) (rest := []) ⟨hx, hb, hml, hown, hts⟩ (c_mTell l D cI cL cL g fl rn fs lt kk mk mf ml ma il sz tt fh hd 50 2 _) (gk_cwV hts w_176 w_177 w_178 w_145 k_mTell rfl e_mTell rfl rfl ⟨Nat.le_of_ble_eq_true rfl, Nat.le_of_ble_eq_true rfl⟩) (gk_preV hW [0, 1, 2, 3, 4, 5, 6, 7, 8, 9] rfl rfl rfl rfl) rfl rfl hl.1 rfl (lv_room (Nat.le_of_ble_eq_true rfl)) d_mEarly_91 ⟨Nat.le_of_ble_eq_true rfl, Nat.le_of_ble_eq_true rfl⟩) (fun r_38 u H locs p_40 hW => ?_)
          obtain ⟨rfl, rfl⟩ : r_38 = 50 ∧ u = 2 := Prod.mk.inj (p_40.trans (show (mm_mTell 50 2 hd) = (50, 2) from rfl))
          have hW : gk_W D vwCl (gk_T cI cL) s A H locs (wd_M cI cL g fl rn fs lt kk mk mf ml ma il sz tt fh 2) := hW.re [0, 1, 2, 3, 4, 5, 6, 7, 8, 9] (by decide) rfl
          exact X _ 2 H locs 0 0 94 ls heq hW d_mEarly_94 rfl (Nat.le_of_ble_eq_true rfl) (Nat.le_of_ble_eq_true rfl)
  refine lv_iload_n hx hb d_mEarly_0 rfl (lv_at hl 1 rfl) ?_
  refine lv_if_ne (tgt := 12) hx hb d_mEarly_1 (by decide) (fun c_41 => ?_) (fun c_41 => ?_)
  · replace heq := (if_neg c_41).symm.trans heq
    have ic_41 := gk_ne v_x1 (show gk_v 0 0 from rfl) c_41
    refine lv_iload_n hx hb d_mEarly_12 rfl (lv_at hl 1 rfl) ?_
    refine lv_aload_n hx hb d_mEarly_13 rfl (lv_at hl 0 rfl) ?_
    refine va_get (D := D) (C := R_M) (T := F_M) (N := 14) hx hb hts i_M hown hW.1 hW.2.1 0 rfl rfl 10 (by decide) (hts _ w_140) (fun _ h9 => h9) rfl d_mEarly_14 ?_
    refine lv_icmp_ne (tgt := 28) hx hb d_mEarly_17 (by decide) (fun c_42 => ?_) (fun c_42 => ?_)
    · replace heq := (if_neg c_42).symm.trans heq
      have ic_42 := gk_ne v_x1 v_sz c_42
      refine lv_aload_n hx hb d_mEarly_28 rfl (lv_at hl 0 rfl) ?_
      refine lv_iload_n hx hb d_mEarly_29 rfl (lv_at hl 1 rfl) ?_
      refine lv_iconst (v := 1) hx hb d_mEarly_30 (by decide) ?_
      refine lv_isub hx hb d_mEarly_31 ?_
      obtain ⟨zt_43, vt_43, et_43⟩ := gk_sub v_x1 (show gk_v 1 1 from rfl) (by omega) (by omega)
      refine gk_goR hW [0, 1, 2, 3, 4, 5, 6, 7, 8, 9] rfl (va_runV (As := [.int (x1 - 1)]) (rest := []) ⟨hx, hb, hml, hown, hts⟩ (c_mClassOf l D cI cL cL g fl rn fs lt kk mk mf ml ma il sz tt fh hd (x1 - 1) z_rn v_rn zt_43 vt_43 (by omega) (by omega) _) (gk_cwV hts w_167 w_168 w_169 w_145 k_mClassOf rfl e_mClassOf rfl rfl ⟨Nat.le_of_ble_eq_true rfl, Nat.le_of_ble_eq_true rfl⟩) (gk_preV hW [0, 1, 2, 3, 4, 5, 6, 7, 8, 9] rfl rfl rfl rfl) rfl rfl hl.1 rfl (lv_room (Nat.le_of_ble_eq_true rfl)) d_mEarly_32 ⟨Nat.le_of_ble_eq_true rfl, Nat.le_of_ble_eq_true rfl⟩) (fun H locs hW => ?_)
      refine lv_istore_n (lv' := [(2, .int (mm_mClassOf (x1 - 1) rn fs lt kk il tt)), (0, .ref (g 0)), (1, .int x1)]) hx hb d_mEarly_35 rfl hl (by decide) rfl (fun ls hl => ?_)
      refine lv_aload_n hx hb d_mEarly_36 rfl (lv_at hl 1 rfl) ?_
      refine lv_iload_n hx hb d_mEarly_37 rfl (lv_at hl 2 rfl) ?_
      refine gk_goR hW [0, 1, 2, 3, 4, 5, 6, 7, 8, 9] rfl (va_runV (As := [.int x1]) (rest := []) ⟨hx, hb, hml, hown, hts⟩ (c_mClassOf l D cI cL cL g fl rn fs lt kk mk mf ml ma il sz tt fh hd x1 z_rn v_rn z_x1 v_x1 (by omega) (by omega) _) (gk_cwV hts w_167 w_168 w_169 w_145 k_mClassOf rfl e_mClassOf rfl rfl ⟨Nat.le_of_ble_eq_true rfl, Nat.le_of_ble_eq_true rfl⟩) (gk_preV hW [0, 1, 2, 3, 4, 5, 6, 7, 8, 9] rfl rfl rfl rfl) rfl rfl hl.1 rfl (lv_room (Nat.le_of_ble_eq_true rfl)) d_mEarly_38 ⟨Nat.le_of_ble_eq_true rfl, Nat.le_of_ble_eq_true rfl⟩) (fun H locs hW => ?_)
      refine lv_istore_n (lv' := [(3, .int (mm_mClassOf x1 rn fs lt kk il tt)), (2, .int (mm_mClassOf (x1 - 1) rn fs lt kk il tt)), (0, .ref (g 0)), (1, .int x1)]) hx hb d_mEarly_41 rfl hl (by decide) rfl (fun ls hl => ?_)
      refine lv_iload_n hx hb d_mEarly_42 rfl (lv_at hl 1 rfl) ?_
      refine lv_if_ne (tgt := 54) hx hb d_mEarly_43 (by decide) (fun c_44 => ?_) (fun c_44 => ?_)
      · replace heq := (if_neg c_44).symm.trans heq
        refine lv_iload_n hx hb d_mEarly_54 rfl (lv_at hl 1 rfl) ?_
        refine lv_iconst (v := 1) hx hb d_mEarly_55 (by decide) ?_
        refine lv_icmp_ne (tgt := 72) hx hb d_mEarly_56 (by decide) (fun c_45 => ?_) (fun c_45 => ?_)
        · replace heq := (if_neg c_45).symm.trans heq
          exact K72 (mm_mClassOf (x1 - 1) rn fs lt kk il tt) (mm_mClassOf x1 rn fs lt kk il tt) hd H locs ls (by omega) heq hW (lv_sub hl [2, 3, 1, 0] rfl)
        · replace heq := (if_pos c_45).symm.trans heq
          refine lv_iload_n hx hb d_mEarly_59 rfl (lv_at hl 0 rfl) ?_
          refine lv_iconst (v := 2) hx hb d_mEarly_60 (by decide) ?_
          refine lv_icmp_ne (tgt := 72) hx hb d_mEarly_61 (by decide) (fun c_46 => ?_) (fun c_46 => ?_)
          · replace heq := (if_neg c_46).symm.trans heq
            exact K72 (mm_mClassOf (x1 - 1) rn fs lt kk il tt) (mm_mClassOf x1 rn fs lt kk il tt) hd H locs ls (by omega) heq hW (lv_sub hl [2, 3, 1, 0] rfl)
          · replace heq := (if_pos c_46).symm.trans heq
            refine lv_aload_n hx hb d_mEarly_64 rfl (lv_at hl 2 rfl) ?_
            refine lv_bipush (v := 50) hx hb d_mEarly_65 (by decide) ?_
            refine lv_iconst (v := 0) hx hb d_mEarly_67 (by decide) ?_
            refine gk_goI (wr := []) hW [0, 1, 2, 3, 4, 5, 6, 7, 8, 9] [] rfl rfl (by decide) (by decide) (va_runV (As := [.int 50, .int 0]) (rest := []) ⟨hx, hb, hml, hown, hts⟩ (c_mTell l D cI cL cL g fl rn fs lt kk mk mf ml ma il sz tt fh hd 50 0 _) (gk_cwV hts w_176 w_177 w_178 w_145 k_mTell rfl e_mTell rfl rfl ⟨Nat.le_of_ble_eq_true rfl, Nat.le_of_ble_eq_true rfl⟩) (gk_preV hW [0, 1, 2, 3, 4, 5, 6, 7, 8, 9] rfl rfl rfl rfl) rfl rfl hl.1 rfl (lv_room (Nat.le_of_ble_eq_true rfl)) d_mEarly_68 ⟨Nat.le_of_ble_eq_true rfl, Nat.le_of_ble_eq_true rfl⟩) (fun r_47 u H locs p_49 hW => ?_)
            obtain ⟨rfl, rfl⟩ : r_47 = 50 ∧ u = 0 := Prod.mk.inj (p_49.trans (show (mm_mTell 50 0 hd) = (50, 0) from rfl))
            have hW : gk_W D vwCl (gk_T cI cL) s A H locs (wd_M cI cL g fl rn fs lt kk mk mf ml ma il sz tt fh 0) := hW.re [0, 1, 2, 3, 4, 5, 6, 7, 8, 9] (by decide) rfl
            exact X _ 0 H locs 0 0 71 ls heq hW d_mEarly_71 rfl (Nat.le_of_ble_eq_true rfl) (Nat.le_of_ble_eq_true rfl)
      · replace heq := (if_pos c_44).symm.trans heq
        refine lv_aload_n hx hb d_mEarly_46 rfl (lv_at hl 2 rfl) ?_
        refine lv_bipush (v := 40) hx hb d_mEarly_47 (by decide) ?_
        refine lv_iconst (v := 2) hx hb d_mEarly_49 (by decide) ?_
        refine gk_goI (wr := []) hW [0, 1, 2, 3, 4, 5, 6, 7, 8, 9] [] rfl rfl (by decide) (by decide) (va_runV (As := [.int 40, .int 2]) (rest := []) ⟨hx, hb, hml, hown, hts⟩ (c_mTell l D cI cL cL g fl rn fs lt kk mk mf ml ma il sz tt fh hd 40 2 _) (gk_cwV hts w_176 w_177 w_178 w_145 k_mTell rfl e_mTell rfl rfl ⟨Nat.le_of_ble_eq_true rfl, Nat.le_of_ble_eq_true rfl⟩) (gk_preV hW [0, 1, 2, 3, 4, 5, 6, 7, 8, 9] rfl rfl rfl rfl) rfl rfl hl.1 rfl (lv_room (Nat.le_of_ble_eq_true rfl)) d_mEarly_50 ⟨Nat.le_of_ble_eq_true rfl, Nat.le_of_ble_eq_true rfl⟩) (fun r_50 u H locs p_52 hW => ?_)
        obtain ⟨rfl, rfl⟩ : r_50 = 40 ∧ u = 2 := Prod.mk.inj (p_52.trans (show (mm_mTell 40 2 hd) = (40, 2) from rfl))
        have hW : gk_W D vwCl (gk_T cI cL) s A H locs (wd_M cI cL g fl rn fs lt kk mk mf ml ma il sz tt fh 2) := hW.re [0, 1, 2, 3, 4, 5, 6, 7, 8, 9] (by decide) rfl
        exact X _ 2 H locs 0 0 53 ls heq hW d_mEarly_53 rfl (Nat.le_of_ble_eq_true rfl) (Nat.le_of_ble_eq_true rfl)
    · replace heq := (if_pos c_42).symm.trans heq
      have ic_42 := gk_eq v_x1 v_sz c_42
      refine lv_aload_n hx hb d_mEarly_20 rfl (lv_at hl 0 rfl) ?_
      refine lv_bipush (v := 30) hx hb d_mEarly_21 (by decide) ?_
      refine lv_iconst (v := 2) hx hb d_mEarly_23 (by decide) ?_
      refine gk_goI (wr := []) hW [0, 1, 2, 3, 4, 5, 6, 7, 8, 9] [] rfl rfl (by decide) (by decide) (va_runV (As := [.int 30, .int 2]) (rest := []) ⟨hx, hb, hml, hown, hts⟩ (c_mTell l D cI cL cL g fl rn fs lt kk mk mf ml ma il sz tt fh hd 30 2 _) (gk_cwV hts w_176 w_177 w_178 w_145 k_mTell rfl e_mTell rfl rfl ⟨Nat.le_of_ble_eq_true rfl, Nat.le_of_ble_eq_true rfl⟩) (gk_preV hW [0, 1, 2, 3, 4, 5, 6, 7, 8, 9] rfl rfl rfl rfl) rfl rfl hl.1 rfl (lv_room (Nat.le_of_ble_eq_true rfl)) d_mEarly_24 ⟨Nat.le_of_ble_eq_true rfl, Nat.le_of_ble_eq_true rfl⟩) (fun r_53 u H locs p_55 hW => ?_)
      obtain ⟨rfl, rfl⟩ : r_53 = 30 ∧ u = 2 := Prod.mk.inj (p_55.trans (show (mm_mTell 30 2 hd) = (30, 2) from rfl))
      have hW : gk_W D vwCl (gk_T cI cL) s A H locs (wd_M cI cL g fl rn fs lt kk mk mf ml ma il sz tt fh 2) := hW.re [0, 1, 2, 3, 4, 5, 6, 7, 8, 9] (by decide) rfl
      exact X _ 2 H locs 0 0 27 ls heq hW d_mEarly_27 rfl (Nat.le_of_ble_eq_true rfl) (Nat.le_of_ble_eq_true rfl)
  · replace heq := (if_pos c_41).symm.trans heq
    have ic_41 := gk_eq v_x1 (show gk_v 0 0 from rfl) c_41
    refine lv_aload_n hx hb d_mEarly_4 rfl (lv_at hl 0 rfl) ?_
    refine lv_bipush (v := 20) hx hb d_mEarly_5 (by decide) ?_
    refine lv_iconst (v := 0) hx hb d_mEarly_7 (by decide) ?_
    refine gk_goI (wr := []) hW [0, 1, 2, 3, 4, 5, 6, 7, 8, 9] [] rfl rfl (by decide) (by decide) (va_runV (As := [.int 20, .int 0]) (rest := []) ⟨hx, hb, hml, hown, hts⟩ (c_mTell l D cI cL cL g fl rn fs lt kk mk mf ml ma il sz tt fh hd 20 0 _) (gk_cwV hts w_176 w_177 w_178 w_145 k_mTell rfl e_mTell rfl rfl ⟨Nat.le_of_ble_eq_true rfl, Nat.le_of_ble_eq_true rfl⟩) (gk_preV hW [0, 1, 2, 3, 4, 5, 6, 7, 8, 9] rfl rfl rfl rfl) rfl rfl hl.1 rfl (lv_room (Nat.le_of_ble_eq_true rfl)) d_mEarly_8 ⟨Nat.le_of_ble_eq_true rfl, Nat.le_of_ble_eq_true rfl⟩) (fun r_56 u H locs p_58 hW => ?_)
    obtain ⟨rfl, rfl⟩ : r_56 = 20 ∧ u = 0 := Prod.mk.inj (p_58.trans (show (mm_mTell 20 0 hd) = (20, 0) from rfl))
    have hW : gk_W D vwCl (gk_T cI cL) s A H locs (wd_M cI cL g fl rn fs lt kk mk mf ml ma il sz tt fh 0) := hW.re [0, 1, 2, 3, 4, 5, 6, 7, 8, 9] (by decide) rfl
    exact X _ 0 H locs 0 0 11 ls heq hW d_mEarly_11 rfl (Nat.le_of_ble_eq_true rfl) (Nat.le_of_ble_eq_true rfl)
