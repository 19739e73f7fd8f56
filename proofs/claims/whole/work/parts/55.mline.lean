def mm_mNext_26 (x1 rn : Int32) (fs lt kk mk mf ml ma : Nat → Int32) (il sz : Int32) (tt : Nat → Int32) : Nat → Int32 → Int32 → Int32 → Int32 × Int32 × Int32
  | 0, x2, fl, hd => (0, fl, hd)
  | n + 1, x2, fl, hd => if sz < x2 then ((-1), fl, hd) else (match (mm_mLook x2 rn fs lt kk mk mf ml ma il sz tt hd) with | (r_2, u_3) => if u_3 = 0 then (mm_mNext_26 x1 rn fs lt kk mk mf ml ma il sz tt n (x2 + 1) fl u_3) else (x2, fl, u_3))
def mm_mNext (x1 fl rn : Int32) (fs lt kk mk mf ml ma : Nat → Int32) (il sz : Int32) (tt : Nat → Int32) (hd : Int32) : Int32 × Int32 × Int32 := if (mm_mIsPlace x1 sz) = 0 then (0, 1, hd) else (mm_mNext_26 x1 rn fs lt kk mk mf ml ma il sz tt 2002 (x1 + 1) 0 hd)
def rm_mNext : Room := { frames := 7, cells := 0, slots := 0, locals := 164 }
set_option maxHeartbeats 4000000 in
set_option maxRecDepth 100000 in
theorem c_mNext (l : Launch) (D : va_G) (cI : ClassId) (cL cL : ClassId × ClassId) (g : Nat → Nat) (fl rn : Int32) (fs lt kk mk mf ml ma : Nat → Int32) (il sz : Int32) (tt fh : Nat → Int32) (hd x1 : Int32) (z_rn : Int) (v_rn : gk_v rn z_rn) (z_sz : Int) (v_sz : gk_v sz z_sz) (hsz : 0 ≤ z_sz ∧ z_sz ≤ 2000) (hrn : 0 ≤ z_rn ∧ z_rn ≤ 100) (hmk : ∀ i : Nat, i < 2 → ∃ z : Int, gk_v (mk i) z ∧ 0 ≤ z ∧ z ≤ 40) (hma : ∀ i : Nat, ma i = 0 ∨ ma i = 1) : gk_I l y_mNext (.code y_mNext b_mNext 3 (some .int) :: wA) rm_mNext D vwCl (gk_T cI cL) [.ref (g 0), .int x1] (wd_M cI cL g fl rn fs lt kk mk mf ml ma il sz tt fh hd) (fun (r : Int32) (u : Int32 × Int32) => (r, u) = mm_mNext x1 fl rn fs lt kk mk mf ml ma il sz tt hd) (fun u => (wd_M cI cL g u.1 rn fs lt kk mk mf ml ma il sz tt fh u.2)) 0 0 := by
  refine gk_I.of (by decide) (Nat.le_of_ble_eq_true rfl) ?_
  intro p e s m below meth c A ls Q H locs hx hb hml hown hts hW hl X
  have hl : lv_has ls 3 [(0, .ref (g 0)), (1, .int x1)] := hl
  obtain ⟨tgt, heq⟩ : ∃ t, mm_mNext x1 fl rn fs lt kk mk mf ml ma il sz tt hd = t := ⟨_, rfl⟩
  rw [heq] at X
  rw [mm_mNext] at heq
  obtain ⟨z_x1, v_x1⟩ := gk_vex x1
  obtain ⟨z_il, v_il⟩ := gk_vex il
  obtain ⟨z_hd, v_hd⟩ := gk_vex hd
  have L26 : ∀ (n : Nat) (x2 fl hd : Int32) (H : Heap) (locs : List Loc) (ls : Array Slot), ∀ (z_x2 : Int), gk_v x2 z_x2 → (z_sz + 1 - z_x2) < (n : Int) → 0 ≤ z_x2 ∧ z_x2 ≤ z_sz + 1 → mm_mNext_26 x1 rn fs lt kk mk mf ml ma il sz tt n x2 fl hd = tgt → gk_W D vwCl (gk_T cI cL) s A H locs (wd_M cI cL g fl rn fs lt kk mk mf ml ma il sz tt fh hd) → lv_has ls 3 [(0, .ref (g 0)), (1, .int x1), (2, .int x2)] → W p l e rm_mNext s m [.ref (g 0), .int x1].toArray below meth c H locs 0 0 Q (F0 m 26 ls []) := by
    intro n
    induction n with
    | zero => intro x2 fl hd H locs ls z_x2 v_x2 hm f26_0 heq hW hl; exfalso; omega
    | succ n ih =>
      intro x2 fl hd H locs ls z_x2 v_x2 hm f26_0 heq hW hl
      rw [mm_mNext_26] at heq
      refine lv_iload_n hx hb d_mNext_26 rfl (lv_at hl 2 rfl) ?_
      refine lv_aload_n hx hb d_mNext_27 rfl (lv_at hl 0 rfl) ?_
      refine va_get (D := D) (C := R_M) (T := F_M) (N := 14) hx hb hts i_M hown hW.1 hW.2.1 0 rfl rfl 10 (by decide) (hts _ w_140) (fun _ h9 => h9) rfl d_mNext_28 ?_
      refine lv_icmp_gt (tgt := 55) hx hb d_mNext_31 (by decide) (fun c_1 => ?_) (fun c_1 => ?_)
      · replace heq := (if_pos c_1).symm.trans heq
        have ic_1 := gk_lt v_sz v_x2 c_1
        refine lv_iconst (v := (-1)) hx hb d_mNext_55 (by decide) ?_
        exact X _ (fl, hd) H locs 0 0 56 ls heq hW d_mNext_56 rfl (Nat.le_of_ble_eq_true rfl) (Nat.le_of_ble_eq_true rfl)
      · replace heq := (if_neg c_1).symm.trans heq
        have ic_1 := gk_nlt v_sz v_x2 c_1
        refine lv_aload_n hx hb d_mNext_34 rfl (lv_at hl 0 rfl) ?_
        refine lv_iload_n hx hb d_mNext_35 rfl (lv_at hl 2 rfl) ?_
        refine gk_goI (wr := []) hW [0, 1, 2, 3, 4, 5, 6, 7, 8, 9] [] rfl rfl (by decide) (by decide) (va_runV (As := [.int x2]) (rest := []) ⟨hx, hb, hml, hown, hts⟩ (c_mLook l D cI cL cL g fl rn fs lt kk mk mf ml ma il sz tt fh hd x2 z_rn v_rn z_sz v_sz z_x2 v_x2 (by omega) (by omega) (by omega) hmk hma _) (gk_cwV hts w_220 w_221 w_222 w_145 k_mLook rfl e_mLook rfl rfl ⟨Nat.le_of_ble_eq_true rfl, Nat.le_of_ble_eq_true rfl⟩) (gk_preV hW [0, 1, 2, 3, 4, 5, 6, 7, 8, 9] rfl rfl rfl rfl) rfl rfl hl.1 rfl (lv_room (Nat.le_of_ble_eq_true rfl)) d_mNext_36 ⟨Nat.le_of_ble_eq_true rfl, Nat.le_of_ble_eq_true rfl⟩) (fun r_2 u H locs p_4 hW => ?_)
        obtain ⟨u_3, rfl⟩ : ∃ z, z = u := ⟨u, rfl⟩
        have hW : gk_W D vwCl (gk_T cI cL) s A H locs (wd_M cI cL g fl rn fs lt kk mk mf ml ma il sz tt fh u_3) := hW.re [0, 1, 2, 3, 4, 5, 6, 7, 8, 9] (by decide) rfl
        rw [← p_4] at heq
        dsimp only at heq
        refine lv_pop hx hb d_mNext_39 rfl ?_
        refine lv_aload_n hx hb d_mNext_40 rfl (lv_at hl 0 rfl) ?_
        refine va_get (D := D) (C := R_M) (T := F_M) (N := 14) hx hb hts i_M hown hW.1 hW.2.1 0 rfl rfl 13 (by decide) (hts _ w_139) (fun _ h9 => h9) rfl d_mNext_41 ?_
        refine lv_if_eq (tgt := 49) hx hb d_mNext_44 (by decide) (fun c_5 => ?_) (fun c_5 => ?_)
        · replace heq := (if_pos c_5).symm.trans heq
          refine lv_iinc (v := x2 + 1) (lv' := [(2, .int (x2 + 1)), (0, .ref (g 0)), (1, .int x1)]) hx hb d_mNext_49 hl (k := 2) rfl rfl (by decide) rfl (fun ls hl => ?_)
          obtain ⟨zt_6, vt_6, et_6⟩ := gk_add v_x2 (show gk_v 1 1 from rfl) (by omega) (by omega)
          refine lv_goto (tgt := 26) hx hb d_mNext_52 (by decide) ?_
          exact ih (x2 + 1) fl u_3 H locs ls zt_6 vt_6 (by omega) (by omega) heq hW (lv_sub hl [1, 2, 0] rfl)
        · replace heq := (if_neg c_5).symm.trans heq
          refine lv_iload_n hx hb d_mNext_47 rfl (lv_at hl 2 rfl) ?_
          exact X _ (fl, u_3) H locs 0 0 48 ls heq hW d_mNext_48 rfl (Nat.le_of_ble_eq_true rfl) (Nat.le_of_ble_eq_true rfl)
  refine lv_aload_n hx hb d_mNext_0 rfl (lv_at hl 0 rfl) ?_
  refine lv_aload_n hx hb d_mNext_1 rfl (lv_at hl 0 rfl) ?_
  refine lv_iload_n hx hb d_mNext_2 rfl (lv_at hl 1 rfl) ?_
  refine gk_goR hW [0, 1, 2, 3, 4, 5, 6, 7, 8, 9] rfl (va_runV (As := [.int x1]) (rest := [.ref (g 0)]) ⟨hx, hb, hml, hown, hts⟩ (c_mIsPlace l D cI cL cL g fl rn fs lt kk mk mf ml ma il sz tt fh hd x1 _) (gk_cwV hts w_217 w_218 w_219 w_145 k_mIsPlace rfl e_mIsPlace rfl rfl ⟨Nat.le_of_ble_eq_true rfl, Nat.le_of_ble_eq_true rfl⟩) (gk_preV hW [0, 1, 2, 3, 4, 5, 6, 7, 8, 9] rfl rfl rfl rfl) rfl rfl hl.1 rfl (lv_room (Nat.le_of_ble_eq_true rfl)) d_mNext_3 ⟨Nat.le_of_ble_eq_true rfl, Nat.le_of_ble_eq_true rfl⟩) (fun H locs hW => ?_)
  refine lv_if_eq (tgt := 13) hx hb d_mNext_6 (by decide) (fun c_7 => ?_) (fun c_7 => ?_)
  · replace heq := (if_pos c_7).symm.trans heq
    refine lv_iconst (v := 1) hx hb d_mNext_13 (by decide) ?_
    refine gk_goI (wr := []) hW [0, 1, 2, 3, 4, 5, 6, 7, 8, 9] [] rfl rfl (by decide) (by decide) (va_runV (As := [.int 1]) (rest := []) ⟨hx, hb, hml, hown, hts⟩ (c_mRefused l D cI cL cL g fl rn fs lt kk mk mf ml ma il sz tt fh hd 1 _) (gk_cwV hts w_146 w_147 w_148 w_145 k_mRefused rfl e_mRefused rfl rfl ⟨Nat.le_of_ble_eq_true rfl, Nat.le_of_ble_eq_true rfl⟩) (gk_preV hW [0, 1, 2, 3, 4, 5, 6, 7, 8, 9] rfl rfl rfl rfl) rfl rfl hl.1 rfl (lv_room (Nat.le_of_ble_eq_true rfl)) d_mNext_14 ⟨Nat.le_of_ble_eq_true rfl, Nat.le_of_ble_eq_true rfl⟩) (fun r_8 u H locs p_10 hW => ?_)
    obtain ⟨rfl, rfl⟩ : r_8 = 1 ∧ u = 1 := Prod.mk.inj (p_10.trans (show (mm_mRefused 1 fl) = (1, 1) from rfl))
    have hW : gk_W D vwCl (gk_T cI cL) s A H locs (wd_M cI cL g 1 rn fs lt kk mk mf ml ma il sz tt fh hd) := hW.re [0, 1, 2, 3, 4, 5, 6, 7, 8, 9] (by decide) rfl
    refine lv_if_eq (tgt := 22) hx hb d_mNext_17 (by decide) (fun c_11 => absurd c_11 (by decide)) (fun _ => ?_)
    refine lv_iconst (v := 0) hx hb d_mNext_20 (by decide) ?_
    exact X _ (1, hd) H locs 0 0 21 ls heq hW d_mNext_21 rfl (Nat.le_of_ble_eq_true rfl) (Nat.le_of_ble_eq_true rfl)
  · replace heq := (if_neg c_7).symm.trans heq
    have hin := mm_mIsPlace_in c_7 v_x1 v_sz
    refine lv_iconst (v := 0) hx hb d_mNext_9 (by decide) ?_
    refine lv_goto (tgt := 14) hx hb d_mNext_10 (by decide) ?_
    refine gk_goI (wr := []) hW [0, 1, 2, 3, 4, 5, 6, 7, 8, 9] [] rfl rfl (by decide) (by decide) (va_runV (As := [.int 0]) (rest := []) ⟨hx, hb, hml, hown, hts⟩ (c_mRefused l D cI cL cL g fl rn fs lt kk mk mf ml ma il sz tt fh hd 0 _) (gk_cwV hts w_146 w_147 w_148 w_145 k_mRefused rfl e_mRefused rfl rfl ⟨Nat.le_of_ble_eq_true rfl, Nat.le_of_ble_eq_true rfl⟩) (gk_preV hW [0, 1, 2, 3, 4, 5, 6, 7, 8, 9] rfl rfl rfl rfl) rfl rfl hl.1 rfl (lv_room (Nat.le_of_ble_eq_true rfl)) d_mNext_14 ⟨Nat.le_of_ble_eq_true rfl, Nat.le_of_ble_eq_true rfl⟩) (fun r_12 u H locs p_14 hW => ?_)
    obtain ⟨rfl, rfl⟩ : r_12 = 0 ∧ u = 0 := Prod.mk.inj (p_14.trans (show (mm_mRefused 0 fl) = (0, 0) from rfl))
    have hW : gk_W D vwCl (gk_T cI cL) s A H locs (wd_M cI cL g 0 rn fs lt kk mk mf ml ma il sz tt fh hd) := hW.re [0, 1, 2, 3, 4, 5, 6, 7, 8, 9] (by decide) rfl
    refine lv_if_eq (tgt := 22) hx hb d_mNext_17 (by decide) (fun _ => ?_) (fun c_15 => absurd c_15 (by decide))
    refine lv_iload_n hx hb d_mNext_22 rfl (lv_at hl 1 rfl) ?_
    refine lv_iconst (v := 1) hx hb d_mNext_23 (by decide) ?_
    refine lv_iadd hx hb d_mNext_24 ?_
    obtain ⟨zt_16, vt_16, et_16⟩ := gk_add v_x1 (show gk_v 1 1 from rfl) (by omega) (by omega)
    refine lv_istore_n (lv' := [(2, .int (x1 + 1)), (0, .ref (g 0)), (1, .int x1)]) hx hb d_mNext_25 rfl hl (by decide) rfl (fun ls hl => ?_)
    exact L26 2002 (x1 + 1) 0 hd H locs ls zt_16 vt_16 (by omega) (by omega) heq hW (lv_sub hl [1, 2, 0] rfl)
def mm_mFit_142 (x1 x2 rn : Int32) (fs lt kk mk mf ml ma : Nat → Int32) (il sz : Int32) (tt : Nat → Int32) (x3 x4 fl hd : Int32) : Int32 × Int32 × Int32 := if 0 ≤ x3 then (x3 - x1, fl, hd) else (x2, fl, hd)
def mm_mFit_81 (x1 rn : Int32) (fs lt kk : Nat → Int32) (il : Int32) (tt : Nat → Int32) : Nat → Int32 → Int32
  | 0, x5 => x5
  | n + 1, x5 => if x5 ≤ x1 then x5 else (if (mm_mIsBlank (mm_mClassOf (x5 - 1) rn fs lt kk il tt)) = 0 then x5 else (mm_mFit_81 x1 rn fs lt kk il tt n (x5 + (-1))))
def mm_mFit_60 (x1 x2 rn : Int32) (fs lt kk mk mf ml ma : Nat → Int32) (il sz : Int32) (tt : Nat → Int32) : Nat → Int32 → Int32 → Int32 → Int32 → Int32 × Int32 × Int32
  | 0, x3, x4, fl, hd => (0, fl, hd)
  | n + 1, x3, x4, fl, hd => if sz < x4 then (mm_mFit_142 x1 x2 rn fs lt kk mk mf ml ma il sz tt x3 x4 fl hd) else (if hd = 2 then (mm_mFit_142 x1 x2 rn fs lt kk mk mf ml ma il sz tt x3 x4 fl hd) else (match (mm_mLook x4 rn fs lt kk mk mf ml ma il sz tt hd) with | (r_8, u_9) => if u_9 = 0 then (mm_mFit_60 x1 x2 rn fs lt kk mk mf ml ma il sz tt n x3 (x4 + 1) fl u_9) else (if x2 < ((mm_mFit_81 x1 rn fs lt kk il tt 2001 x4) - x1) then (mm_mFit_60 x1 x2 rn fs lt kk mk mf ml ma il sz tt n x3 (x4 + 1) fl u_9) else (mm_mFit_60 x1 x2 rn fs lt kk mk mf ml ma il sz tt n x4 (x4 + 1) fl u_9))))
def mm_mFit (x1 x2 fl rn : Int32) (fs lt kk mk mf ml ma : Nat → Int32) (il sz : Int32) (tt : Nat → Int32) (hd : Int32) : Int32 × Int32 × Int32 := if (mm_mIsPlace x1 sz) = 0 then (0, 1, hd) else (if x2 < 1 then (0, 2, hd) else (if x2 ≤ 2000 then (if x1 = sz then (0, 0, hd) else (mm_mFit_60 x1 x2 rn fs lt kk mk mf ml ma il sz tt 2002 (-1) (x1 + 1) 0 0)) else (0, 2, hd)))
def rm_mFit : Room := { frames := 7, cells := 0, slots := 0, locals := 164 }
set_option maxHeartbeats 4000000 in
set_option maxRecDepth 100000 in
theorem c_mFit (l : Launch) (D : va_G) (cI : ClassId) (cL cL : ClassId × ClassId) (g : Nat → Nat) (fl rn : Int32) (fs lt kk mk mf ml ma : Nat → Int32) (il sz : Int32) (tt fh : Nat → Int32) (hd x1 x2 : Int32) (z_rn : Int) (v_rn : gk_v rn z_rn) (z_sz : Int) (v_sz : gk_v sz z_sz) (hsz : 0 ≤ z_sz ∧ z_sz ≤ 2000) (hrn : 0 ≤ z_rn ∧ z_rn ≤ 100) (hmk : ∀ i : Nat, i < 2 → ∃ z : Int, gk_v (mk i) z ∧ 0 ≤ z ∧ z ≤ 40) (hma : ∀ i : Nat, ma i = 0 ∨ ma i = 1) : gk_I l y_mFit (.code y_mFit b_mFit 6 (some .int) :: wA) rm_mFit D vwCl (gk_T cI cL) [.ref (g 0), .int x1, .int x2] (wd_M cI cL g fl rn fs lt kk mk mf ml ma il sz tt fh hd) (fun (r : Int32) (u : Int32 × Int32) => (r, u) = mm_mFit x1 x2 fl rn fs lt kk mk mf ml ma il sz tt hd) (fun u => (wd_M cI cL g u.1 rn fs lt kk mk mf ml ma il sz tt fh u.2)) 0 0 := by
  refine gk_I.of (by decide) (Nat.le_of_ble_eq_true rfl) ?_
  intro p e s m below meth c A ls Q H locs hx hb hml hown hts hW hl X
  have hl : lv_has ls 6 [(0, .ref (g 0)), (1, .int x1), (2, .int x2)] := hl
  obtain ⟨tgt, heq⟩ : ∃ t, mm_mFit x1 x2 fl rn fs lt kk mk mf ml ma il sz tt hd = t := ⟨_, rfl⟩
  rw [heq] at X
  rw [mm_mFit] at heq
  obtain ⟨z_x1, v_x1⟩ := gk_vex x1
  obtain ⟨z_x2, v_x2⟩ := gk_vex x2
  obtain ⟨z_il, v_il⟩ := gk_vex il
  obtain ⟨z_hd, v_hd⟩ := gk_vex hd
  have K142 : ∀ (x3 x4 fl hd : Int32) (H : Heap) (locs : List Loc) (ls : Array Slot), mm_mFit_142 x1 x2 rn fs lt kk mk mf ml ma il sz tt x3 x4 fl hd = tgt → gk_W D vwCl (gk_T cI cL) s A H locs (wd_M cI cL g fl rn fs lt kk mk mf ml ma il sz tt fh hd) → lv_has ls 6 [(0, .ref (g 0)), (1, .int x1), (2, .int x2), (3, .int x3), (4, .int x4)] → W p l e rm_mFit s m [.ref (g 0), .int x1, .int x2].toArray below meth c H locs 0 0 Q (F0 m 142 ls []) := by
    intro x3 x4 fl hd H locs ls heq hW hl
    rw [mm_mFit_142] at heq
    refine lv_iload_n hx hb d_mFit_142 rfl (lv_at hl 3 rfl) ?_
    refine lv_if_ge (tgt := 150) hx hb d_mFit_143 (by decide) (fun c_1 => ?_) (fun c_1 => ?_)
    · replace heq := (if_pos c_1).symm.trans heq
      refine lv_iload_n hx hb d_mFit_150 rfl (lv_at hl 3 rfl) ?_
      refine lv_iload_n hx hb d_mFit_151 rfl (lv_at hl 1 rfl) ?_
      refine lv_isub hx hb d_mFit_152 ?_
      exact X _ (fl, hd) H locs 0 0 153 ls heq hW d_mFit_153 rfl (Nat.le_of_ble_eq_true rfl) (Nat.le_of_ble_eq_true rfl)
    · replace heq := (if_neg c_1).symm.trans heq
      refine lv_iload_n hx hb d_mFit_146 rfl (lv_at hl 2 rfl) ?_
      refine lv_goto (tgt := 153) hx hb d_mFit_147 (by decide) ?_
      exact X _ (fl, hd) H locs 0 0 153 ls heq hW d_mFit_153 rfl (Nat.le_of_ble_eq_true rfl) (Nat.le_of_ble_eq_true rfl)
  have L81 : ∀ (x3 x4 fl hd : Int32) (n : Nat) (x5 : Int32), ∀ (tg : Int32) (H : Heap) (locs : List Loc) (ls : Array Slot) (z_x5 : Int), gk_v x5 z_x5 → (z_x5 - z_x1) < (n : Int) → 0 ≤ z_x1 ∧ z_x1 ≤ z_x5 ∧ z_x5 ≤ 2000 → mm_mFit_81 x1 rn fs lt kk il tt n x5 = tg → gk_W D vwCl (gk_T cI cL) s A H locs (wd_M cI cL g fl rn fs lt kk mk mf ml ma il sz tt fh hd) → lv_has ls 6 [(0, .ref (g 0)), (1, .int x1), (2, .int x2), (3, .int x3), (4, .int x4), (5, .int x5)] → (∀ (H : Heap) (locs : List Loc) (ls : Array Slot), gk_W D vwCl (gk_T cI cL) s A H locs (wd_M cI cL g fl rn fs lt kk mk mf ml ma il sz tt fh hd) → lv_has ls 6 [(0, .ref (g 0)), (1, .int x1), (2, .int x2), (3, .int x3), (4, .int x4), (5, .int tg)] → W p l e rm_mFit s m [.ref (g 0), .int x1, .int x2].toArray below meth c H locs 0 0 Q (F0 m 107 ls [])) → W p l e rm_mFit s m [.ref (g 0), .int x1, .int x2].toArray below meth c H locs 0 0 Q (F0 m 81 ls []) := by
    intro x3 x4 fl hd n
    induction n with
    | zero => intro x5 tg H locs ls z_x5 v_x5 hm f81_0 hq hW hl KK; exfalso; omega
    | succ n ih =>
      intro x5 tg H locs ls z_x5 v_x5 hm f81_0 hq hW hl KK
      rw [mm_mFit_81] at hq
      refine lv_iload hx hb d_mFit_81 (lv_at hl 5 rfl) ?_
      refine lv_iload_n hx hb d_mFit_83 rfl (lv_at hl 1 rfl) ?_
      refine lv_icmp_le (tgt := 107) hx hb d_mFit_84 (by decide) (fun c_2 => ?_) (fun c_2 => ?_)
      · replace hq := (if_pos c_2).symm.trans hq
        have ic_2 := gk_le v_x5 v_x1 c_2
        subst hq
        exact KK H locs ls hW (lv_sub hl [0, 1, 2, 3, 4, 5] rfl)
      · replace hq := (if_neg c_2).symm.trans hq
        have ic_2 := gk_nle v_x5 v_x1 c_2
        refine lv_aload_n hx hb d_mFit_87 rfl (lv_at hl 0 rfl) ?_
        refine lv_iload hx hb d_mFit_88 (lv_at hl 5 rfl) ?_
        refine lv_iconst (v := 1) hx hb d_mFit_90 (by decide) ?_
        refine lv_isub hx hb d_mFit_91 ?_
        obtain ⟨zt_3, vt_3, et_3⟩ := gk_sub v_x5 (show gk_v 1 1 from rfl) (by omega) (by omega)
        refine gk_goR hW [0, 1, 2, 3, 4, 5, 6, 7, 8, 9] rfl (va_runV (As := [.int (x5 - 1)]) (rest := []) ⟨hx, hb, hml, hown, hts⟩ (c_mClassOf l D cI cL cL g fl rn fs lt kk mk mf ml ma il sz tt fh hd (x5 - 1) z_rn v_rn zt_3 vt_3 (by omega) (by omega) _) (gk_cwV hts w_167 w_168 w_169 w_145 k_mClassOf rfl e_mClassOf rfl rfl ⟨Nat.le_of_ble_eq_true rfl, Nat.le_of_ble_eq_true rfl⟩) (gk_preV hW [0, 1, 2, 3, 4, 5, 6, 7, 8, 9] rfl rfl rfl rfl) rfl rfl hl.1 rfl (lv_room (Nat.le_of_ble_eq_true rfl)) d_mFit_92 ⟨Nat.le_of_ble_eq_true rfl, Nat.le_of_ble_eq_true rfl⟩) (fun H locs hW => ?_)
        refine gk_goR hW [] rfl (va_runS (As := [.int (mm_mClassOf (x5 - 1) rn fs lt kk il tt)]) (rest := []) ⟨hx, hb, hml, hown, hts⟩ (c_mIsBlank l D cI cL (mm_mClassOf (x5 - 1) rn fs lt kk il tt) _) (gk_cwS hts w_223 w_224 w_145 k_mIsBlank rfl e_mIsBlank rfl rfl ⟨Nat.le_of_ble_eq_true rfl, Nat.le_of_ble_eq_true rfl⟩) (gk_pre hW [] rfl rfl) rfl rfl hl.1 rfl (lv_room (Nat.le_of_ble_eq_true rfl)) d_mFit_95 ⟨Nat.le_of_ble_eq_true rfl, Nat.le_of_ble_eq_true rfl⟩) (fun H locs hW => ?_)
        refine lv_if_eq (tgt := 107) hx hb d_mFit_98 (by decide) (fun c_4 => ?_) (fun c_4 => ?_)
        · replace hq := (if_pos c_4).symm.trans hq
          subst hq
          exact KK H locs ls hW (lv_sub hl [0, 1, 2, 3, 4, 5] rfl)
        · replace hq := (if_neg c_4).symm.trans hq
          refine lv_iinc (v := x5 + (-1)) (lv' := [(5, .int (x5 + (-1))), (0, .ref (g 0)), (1, .int x1), (2, .int x2), (3, .int x3), (4, .int x4)]) hx hb d_mFit_101 hl (k := 5) rfl rfl (by decide) rfl (fun ls hl => ?_)
          obtain ⟨zt_5, vt_5, et_5⟩ := gk_add v_x5 (show gk_v (-1) (-1) from rfl) (by omega) (by omega)
          refine lv_goto (tgt := 81) hx hb d_mFit_104 (by decide) ?_
          exact ih (x5 + (-1)) tg H locs ls zt_5 vt_5 (by omega) (by omega) hq hW (lv_sub hl [1, 2, 3, 4, 5, 0] rfl) KK
  have L60 : ∀ (n : Nat) (x3 x4 fl hd : Int32) (H : Heap) (locs : List Loc) (ls : Array Slot), ∀ (z_x4 : Int), gk_v x4 z_x4 → (z_sz + 1 - z_x4) < (n : Int) → 0 ≤ z_x1 ∧ z_x1 < z_x4 ∧ z_x4 ≤ z_sz + 1 → mm_mFit_60 x1 x2 rn fs lt kk mk mf ml ma il sz tt n x3 x4 fl hd = tgt → gk_W D vwCl (gk_T cI cL) s A H locs (wd_M cI cL g fl rn fs lt kk mk mf ml ma il sz tt fh hd) → lv_has ls 6 [(0, .ref (g 0)), (1, .int x1), (2, .int x2), (3, .int x3), (4, .int x4)] → W p l e rm_mFit s m [.ref (g 0), .int x1, .int x2].toArray below meth c H locs 0 0 Q (F0 m 60 ls []) := by
    intro n
    induction n with
    | zero => intro x3 x4 fl hd H locs ls z_x4 v_x4 hm f60_0 heq hW hl; exfalso; omega
    | succ n ih =>
      intro x3 x4 fl hd H locs ls z_x4 v_x4 hm f60_0 heq hW hl
      rw [mm_mFit_60] at heq
      refine lv_iload hx hb d_mFit_60 (lv_at hl 4 rfl) ?_
      refine lv_aload_n hx hb d_mFit_62 rfl (lv_at hl 0 rfl) ?_
      refine va_get (D := D) (C := R_M) (T := F_M) (N := 14) hx hb hts i_M hown hW.1 hW.2.1 0 rfl rfl 10 (by decide) (hts _ w_140) (fun _ h9 => h9) rfl d_mFit_63 ?_
      refine lv_icmp_gt (tgt := 142) hx hb d_mFit_66 (by decide) (fun c_6 => ?_) (fun c_6 => ?_)
      · replace heq := (if_pos c_6).symm.trans heq
        have ic_6 := gk_lt v_sz v_x4 c_6
        exact K142 x3 x4 fl hd H locs ls heq hW (lv_sub hl [0, 1, 2, 3, 4] rfl)
      · replace heq := (if_neg c_6).symm.trans heq
        have ic_6 := gk_nlt v_sz v_x4 c_6
        refine lv_aload_n hx hb d_mFit_69 rfl (lv_at hl 0 rfl) ?_
        refine va_get (D := D) (C := R_M) (T := F_M) (N := 14) hx hb hts i_M hown hW.1 hW.2.1 0 rfl rfl 13 (by decide) (hts _ w_139) (fun _ h9 => h9) rfl d_mFit_70 ?_
        refine lv_iconst (v := 2) hx hb d_mFit_73 (by decide) ?_
        refine lv_icmp_eq (tgt := 142) hx hb d_mFit_74 (by decide) (fun c_7 => ?_) (fun c_7 => ?_)
        · replace heq := (if_pos c_7).symm.trans heq
          exact K142 x3 x4 fl hd H locs ls heq hW (lv_sub hl [0, 1, 2, 3, 4] rfl)
        · replace heq := (if_neg c_7).symm.trans heq
          refine lv_iload hx hb d_mFit_77 (lv_at hl 4 rfl) ?_
          refine lv_istore (lv' := [(5, .int x4), (0, .ref (g 0)), (1, .int x1), (2, .int x2), (3, .int x3), (4, .int x4)]) hx hb d_mFit_79 hl (by decide) rfl (fun ls hl => ?_)
          refine L81 x3 x4 fl hd 2001 x4 (mm_mFit_81 x1 rn fs lt kk il tt 2001 x4) H locs ls z_x4 v_x4 (by omega) (by omega) rfl hW (lv_sub hl [1, 2, 3, 4, 5, 0] rfl) (fun H locs ls hW hl => ?_)
          refine lv_aload_n hx hb d_mFit_107 rfl (lv_at hl 0 rfl) ?_
          refine lv_iload hx hb d_mFit_108 (lv_at hl 4 rfl) ?_
          refine gk_goI (wr := []) hW [0, 1, 2, 3, 4, 5, 6, 7, 8, 9] [] rfl rfl (by decide) (by decide) (va_runV (As := [.int x4]) (rest := []) ⟨hx, hb, hml, hown, hts⟩ (c_mLook l D cI cL cL g fl rn fs lt kk mk mf ml ma il sz tt fh hd x4 z_rn v_rn z_sz v_sz z_x4 v_x4 (by omega) (by omega) (by omega) hmk hma _) (gk_cwV hts w_220 w_221 w_222 w_145 k_mLook rfl e_mLook rfl rfl ⟨Nat.le_of_ble_eq_true rfl, Nat.le_of_ble_eq_true rfl⟩) (gk_preV hW [0, 1, 2, 3, 4, 5, 6, 7, 8, 9] rfl rfl rfl rfl) rfl rfl hl.1 rfl (lv_room (Nat.le_of_ble_eq_true rfl)) d_mFit_110 ⟨Nat.le_of_ble_eq_true rfl, Nat.le_of_ble_eq_true rfl⟩) (fun r_8 u H locs p_10 hW => ?_)
          obtain ⟨u_9, rfl⟩ : ∃ z, z = u := ⟨u, rfl⟩
          have hW : gk_W D vwCl (gk_T cI cL) s A H locs (wd_M cI cL g fl rn fs lt kk mk mf ml ma il sz tt fh u_9) := hW.re [0, 1, 2, 3, 4, 5, 6, 7, 8, 9] (by decide) rfl
          rw [← p_10] at heq
          dsimp only at heq
          refine lv_pop hx hb d_mFit_113 rfl ?_
          refine lv_aload_n hx hb d_mFit_114 rfl (lv_at hl 0 rfl) ?_
          refine va_get (D := D) (C := R_M) (T := F_M) (N := 14) hx hb hts i_M hown hW.1 hW.2.1 0 rfl rfl 13 (by decide) (hts _ w_139) (fun _ h9 => h9) rfl d_mFit_115 ?_
          refine lv_if_eq (tgt := 134) hx hb d_mFit_118 (by decide) (fun c_11 => ?_) (fun c_11 => ?_)
          · replace heq := (if_pos c_11).symm.trans heq
            refine lv_iload_n hx hb d_mFit_134 rfl (lv_at hl 3 rfl) ?_
            refine lv_istore_n (lv' := [(3, .int x3), (0, .ref (g 0)), (1, .int x1), (2, .int x2), (4, .int x4), (5, .int (mm_mFit_81 x1 rn fs lt kk il tt 2001 x4))]) hx hb d_mFit_135 rfl hl (by decide) rfl (fun ls hl => ?_)
            refine lv_iinc (v := x4 + 1) (lv' := [(4, .int (x4 + 1)), (3, .int x3), (0, .ref (g 0)), (1, .int x1), (2, .int x2), (5, .int (mm_mFit_81 x1 rn fs lt kk il tt 2001 x4))]) hx hb d_mFit_136 hl (k := 4) rfl rfl (by decide) rfl (fun ls hl => ?_)
            obtain ⟨zt_12, vt_12, et_12⟩ := gk_add v_x4 (show gk_v 1 1 from rfl) (by omega) (by omega)
            refine lv_goto (tgt := 60) hx hb d_mFit_139 (by decide) ?_
            exact ih x3 (x4 + 1) fl u_9 H locs ls zt_12 vt_12 (by omega) (by omega) heq hW (lv_sub hl [2, 3, 4, 1, 0] rfl)
          · replace heq := (if_neg c_11).symm.trans heq
            refine lv_iload hx hb d_mFit_121 (lv_at hl 5 rfl) ?_
            refine lv_iload_n hx hb d_mFit_123 rfl (lv_at hl 1 rfl) ?_
            refine lv_isub hx hb d_mFit_124 ?_
            refine lv_iload_n hx hb d_mFit_125 rfl (lv_at hl 2 rfl) ?_
            refine lv_icmp_gt (tgt := 134) hx hb d_mFit_126 (by decide) (fun c_13 => ?_) (fun c_13 => ?_)
            · replace heq := (if_pos c_13).symm.trans heq
              refine lv_iload_n hx hb d_mFit_134 rfl (lv_at hl 3 rfl) ?_
              refine lv_istore_n (lv' := [(3, .int x3), (0, .ref (g 0)), (1, .int x1), (2, .int x2), (4, .int x4), (5, .int (mm_mFit_81 x1 rn fs lt kk il tt 2001 x4))]) hx hb d_mFit_135 rfl hl (by decide) rfl (fun ls hl => ?_)
              refine lv_iinc (v := x4 + 1) (lv' := [(4, .int (x4 + 1)), (3, .int x3), (0, .ref (g 0)), (1, .int x1), (2, .int x2), (5, .int (mm_mFit_81 x1 rn fs lt kk il tt 2001 x4))]) hx hb d_mFit_136 hl (k := 4) rfl rfl (by decide) rfl (fun ls hl => ?_)
              obtain ⟨zt_14, vt_14, et_14⟩ := gk_add v_x4 (show gk_v 1 1 from rfl) (by omega) (by omega)
              refine lv_goto (tgt := 60) hx hb d_mFit_139 (by decide) ?_
              exact ih x3 (x4 + 1) fl u_9 H locs ls zt_14 vt_14 (by omega) (by omega) heq hW (lv_sub hl [2, 3, 4, 1, 0] rfl)
            · replace heq := (if_neg c_13).symm.trans heq
              refine lv_iload hx hb d_mFit_129 (lv_at hl 4 rfl) ?_
              refine lv_goto (tgt := 135) hx hb d_mFit_131 (by decide) ?_
              refine lv_istore_n (lv' := [(3, .int x4), (0, .ref (g 0)), (1, .int x1), (2, .int x2), (4, .int x4), (5, .int (mm_mFit_81 x1 rn fs lt kk il tt 2001 x4))]) hx hb d_mFit_135 rfl hl (by decide) rfl (fun ls hl => ?_)
              refine lv_iinc (v := x4 + 1) (lv' := [(4, .int (x4 + 1)), (3, .int x4), (0, .ref (g 0)), (1, .int x1), (2, .int x2), (5, .int (mm_mFit_81 x1 rn fs lt kk il tt 2001 x4))]) hx hb d_mFit_136 hl (k := 4) rfl rfl (by decide) rfl (fun ls hl => ?_)
              obtain ⟨zt_15, vt_15, et_15⟩ := gk_add v_x4 (show gk_v 1 1 from rfl) (by omega) (by omega)
              refine lv_goto (tgt := 60) hx hb d_mFit_139 (by decide) ?_
              exact ih x4 (x4 + 1) fl u_9 H locs ls zt_15 vt_15 (by omega) (by omega) heq hW (lv_sub hl [2, 3, 4, 1, 0] rfl)
  refine lv_aload_n hx hb d_mFit_0 rfl (lv_at hl 0 rfl) ?_
  refine lv_aload_n hx hb d_mFit_1 rfl (lv_at hl 0 rfl) ?_
  refine lv_iload_n hx hb d_mFit_2 rfl (lv_at hl 1 rfl) ?_
  refine gk_goR hW [0, 1, 2, 3, 4, 5, 6, 7, 8, 9] rfl (va_runV (As := [.int x1]) (rest := [.ref (g 0)]) ⟨hx, hb, hml, hown, hts⟩ (c_mIsPlace l D cI cL cL g fl rn fs lt kk mk mf ml ma il sz tt fh hd x1 _) (gk_cwV hts w_217 w_218 w_219 w_145 k_mIsPlace rfl e_mIsPlace rfl rfl ⟨Nat.le_of_ble_eq_true rfl, Nat.le_of_ble_eq_true rfl⟩) (gk_preV hW [0, 1, 2, 3, 4, 5, 6, 7, 8, 9] rfl rfl rfl rfl) rfl rfl hl.1 rfl (lv_room (Nat.le_of_ble_eq_true rfl)) d_mFit_3 ⟨Nat.le_of_ble_eq_true rfl, Nat.le_of_ble_eq_true rfl⟩) (fun H locs hW => ?_)
  refine lv_if_ne (tgt := 13) hx hb d_mFit_6 (by decide) (fun c_16 => ?_) (fun c_16 => ?_)
  · replace heq := (if_neg c_16).symm.trans heq
    have hin := mm_mIsPlace_in c_16 v_x1 v_sz
    refine lv_iload_n hx hb d_mFit_13 rfl (lv_at hl 2 rfl) ?_
    refine lv_iconst (v := 1) hx hb d_mFit_14 (by decide) ?_
    refine lv_icmp_lt (tgt := 25) hx hb d_mFit_15 (by decide) (fun c_17 => ?_) (fun c_17 => ?_)
    · replace heq := (if_pos c_17).symm.trans heq
      have ic_17 := gk_lt v_x2 (show gk_v 1 1 from rfl) c_17
      refine lv_iconst (v := 2) hx hb d_mFit_25 (by decide) ?_
      refine lv_goto (tgt := 30) hx hb d_mFit_26 (by decide) ?_
      refine gk_goI (wr := []) hW [0, 1, 2, 3, 4, 5, 6, 7, 8, 9] [] rfl rfl (by decide) (by decide) (va_runV (As := [.int 2]) (rest := []) ⟨hx, hb, hml, hown, hts⟩ (c_mRefused l D cI cL cL g fl rn fs lt kk mk mf ml ma il sz tt fh hd 2 _) (gk_cwV hts w_146 w_147 w_148 w_145 k_mRefused rfl e_mRefused rfl rfl ⟨Nat.le_of_ble_eq_true rfl, Nat.le_of_ble_eq_true rfl⟩) (gk_preV hW [0, 1, 2, 3, 4, 5, 6, 7, 8, 9] rfl rfl rfl rfl) rfl rfl hl.1 rfl (lv_room (Nat.le_of_ble_eq_true rfl)) d_mFit_30 ⟨Nat.le_of_ble_eq_true rfl, Nat.le_of_ble_eq_true rfl⟩) (fun r_18 u H locs p_20 hW => ?_)
      obtain ⟨rfl, rfl⟩ : r_18 = 1 ∧ u = 2 := Prod.mk.inj (p_20.trans (show (mm_mRefused 2 fl) = (1, 2) from rfl))
      have hW : gk_W D vwCl (gk_T cI cL) s A H locs (wd_M cI cL g 2 rn fs lt kk mk mf ml ma il sz tt fh hd) := hW.re [0, 1, 2, 3, 4, 5, 6, 7, 8, 9] (by decide) rfl
      refine lv_if_eq (tgt := 38) hx hb d_mFit_33 (by decide) (fun c_21 => absurd c_21 (by decide)) (fun _ => ?_)
      refine lv_iconst (v := 0) hx hb d_mFit_36 (by decide) ?_
      exact X _ (2, hd) H locs 0 0 37 ls heq hW d_mFit_37 rfl (Nat.le_of_ble_eq_true rfl) (Nat.le_of_ble_eq_true rfl)
    · replace heq := (if_neg c_17).symm.trans heq
      have ic_17 := gk_nlt v_x2 (show gk_v 1 1 from rfl) c_17
      refine lv_iload_n hx hb d_mFit_18 rfl (lv_at hl 2 rfl) ?_
      refine lv_sipush (v := 2000) hx hb d_mFit_19 (by decide) ?_
      refine lv_icmp_le (tgt := 29) hx hb d_mFit_22 (by decide) (fun c_22 => ?_) (fun c_22 => ?_)
      · replace heq := (if_pos c_22).symm.trans heq
        have ic_22 := gk_le v_x2 (show gk_v 2000 2000 from rfl) c_22
        refine lv_iconst (v := 0) hx hb d_mFit_29 (by decide) ?_
        refine gk_goI (wr := []) hW [0, 1, 2, 3, 4, 5, 6, 7, 8, 9] [] rfl rfl (by decide) (by decide) (va_runV (As := [.int 0]) (rest := []) ⟨hx, hb, hml, hown, hts⟩ (c_mRefused l D cI cL cL g fl rn fs lt kk mk mf ml ma il sz tt fh hd 0 _) (gk_cwV hts w_146 w_147 w_148 w_145 k_mRefused rfl e_mRefused rfl rfl ⟨Nat.le_of_ble_eq_true rfl, Nat.le_of_ble_eq_true rfl⟩) (gk_preV hW [0, 1, 2, 3, 4, 5, 6, 7, 8, 9] rfl rfl rfl rfl) rfl rfl hl.1 rfl (lv_room (Nat.le_of_ble_eq_true rfl)) d_mFit_30 ⟨Nat.le_of_ble_eq_true rfl, Nat.le_of_ble_eq_true rfl⟩) (fun r_23 u H locs p_25 hW => ?_)
        obtain ⟨rfl, rfl⟩ : r_23 = 0 ∧ u = 0 := Prod.mk.inj (p_25.trans (show (mm_mRefused 0 fl) = (0, 0) from rfl))
        have hW : gk_W D vwCl (gk_T cI cL) s A H locs (wd_M cI cL g 0 rn fs lt kk mk mf ml ma il sz tt fh hd) := hW.re [0, 1, 2, 3, 4, 5, 6, 7, 8, 9] (by decide) rfl
        refine lv_if_eq (tgt := 38) hx hb d_mFit_33 (by decide) (fun _ => ?_) (fun c_26 => absurd c_26 (by decide))
        refine lv_iload_n hx hb d_mFit_38 rfl (lv_at hl 1 rfl) ?_
        refine lv_aload_n hx hb d_mFit_39 rfl (lv_at hl 0 rfl) ?_
        refine va_get (D := D) (C := R_M) (T := F_M) (N := 14) hx hb hts i_M hown hW.1 hW.2.1 0 rfl rfl 10 (by decide) (hts _ w_140) (fun _ h9 => h9) rfl d_mFit_40 ?_
        refine lv_icmp_ne (tgt := 48) hx hb d_mFit_43 (by decide) (fun c_27 => ?_) (fun c_27 => ?_)
        · replace heq := (if_neg c_27).symm.trans heq
          refine lv_iconst (v := (-1)) hx hb d_mFit_48 (by decide) ?_
          refine lv_istore_n (lv' := [(3, .int (-1)), (0, .ref (g 0)), (1, .int x1), (2, .int x2)]) hx hb d_mFit_49 rfl hl (by decide) rfl (fun ls hl => ?_)
          refine lv_aload_n hx hb d_mFit_50 rfl (lv_at hl 1 rfl) ?_
          refine lv_iconst (v := 0) hx hb d_mFit_51 (by decide) ?_
          refine va_put (D := D) (ci := 3) (v := .int 0) (ty := .int) (C := R_M) (T := F_M) (N := 14) hx hb hts i_M t_M t_M_ok n_M hown hW.1 hW.2.1 hW.2.2.1 hW.2.2.2.1 0 rfl rfl 13 (by decide) (hts _ w_139) (fun _ h9 => h9) rfl (by decide +kernel) rfl rfl (Nat.le_of_ble_eq_true rfl) d_mFit_52 (fun H locs hP hD hS => ?_)
          have hW : gk_W D vwCl (gk_T cI cL) s A H locs (wd_M cI cL g 0 rn fs lt kk mk mf ml ma il sz tt fh 0) := ⟨hW.1, hP, hD, hS, hW.2.2.2.2⟩
          refine lv_iload_n hx hb d_mFit_55 rfl (lv_at hl 2 rfl) ?_
          refine lv_iconst (v := 1) hx hb d_mFit_56 (by decide) ?_
          refine lv_iadd hx hb d_mFit_57 ?_
          obtain ⟨zt_28, vt_28, et_28⟩ := gk_add v_x1 (show gk_v 1 1 from rfl) (by omega) (by omega)
          refine lv_istore (lv' := [(4, .int (x1 + 1)), (3, .int (-1)), (0, .ref (g 0)), (1, .int x1), (2, .int x2)]) hx hb d_mFit_58 hl (by decide) rfl (fun ls hl => ?_)
          exact L60 2002 (-1) (x1 + 1) 0 0 H locs ls zt_28 vt_28 (by omega) (by omega) heq hW (lv_sub hl [2, 3, 4, 1, 0] rfl)
        · replace heq := (if_pos c_27).symm.trans heq
          refine lv_iconst (v := 0) hx hb d_mFit_46 (by decide) ?_
          exact X _ (0, hd) H locs 0 0 47 ls heq hW d_mFit_47 rfl (Nat.le_of_ble_eq_true rfl) (Nat.le_of_ble_eq_true rfl)
      · replace heq := (if_neg c_22).symm.trans heq
        have ic_22 := gk_nle v_x2 (show gk_v 2000 2000 from rfl) c_22
        refine lv_iconst (v := 2) hx hb d_mFit_25 (by decide) ?_
        refine lv_goto (tgt := 30) hx hb d_mFit_26 (by decide) ?_
        refine gk_goI (wr := []) hW [0, 1, 2, 3, 4, 5, 6, 7, 8, 9] [] rfl rfl (by decide) (by decide) (va_runV (As := [.int 2]) (rest := []) ⟨hx, hb, hml, hown, hts⟩ (c_mRefused l D cI cL cL g fl rn fs lt kk mk mf ml ma il sz tt fh hd 2 _) (gk_cwV hts w_146 w_147 w_148 w_145 k_mRefused rfl e_mRefused rfl rfl ⟨Nat.le_of_ble_eq_true rfl, Nat.le_of_ble_eq_true rfl⟩) (gk_preV hW [0, 1, 2, 3, 4, 5, 6, 7, 8, 9] rfl rfl rfl rfl) rfl rfl hl.1 rfl (lv_room (Nat.le_of_ble_eq_true rfl)) d_mFit_30 ⟨Nat.le_of_ble_eq_true rfl, Nat.le_of_ble_eq_true rfl⟩) (fun r_29 u H locs p_31 hW => ?_)
        obtain ⟨rfl, rfl⟩ : r_29 = 1 ∧ u = 2 := Prod.mk.inj (p_31.trans (show (mm_mRefused 2 fl) = (1, 2) from rfl))
        have hW : gk_W D vwCl (gk_T cI cL) s A H locs (wd_M cI cL g 2 rn fs lt kk mk mf ml ma il sz tt fh hd) := hW.re [0, 1, 2, 3, 4, 5, 6, 7, 8, 9] (by decide) rfl
        refine lv_if_eq (tgt := 38) hx hb d_mFit_33 (by decide) (fun c_32 => absurd c_32 (by decide)) (fun _ => ?_)
        refine lv_iconst (v := 0) hx hb d_mFit_36 (by decide) ?_
        exact X _ (2, hd) H locs 0 0 37 ls heq hW d_mFit_37 rfl (Nat.le_of_ble_eq_true rfl) (Nat.le_of_ble_eq_true rfl)
  · replace heq := (if_pos c_16).symm.trans heq
    refine lv_iconst (v := 1) hx hb d_mFit_9 (by decide) ?_
    refine lv_goto (tgt := 30) hx hb d_mFit_10 (by decide) ?_
    refine gk_goI (wr := []) hW [0, 1, 2, 3, 4, 5, 6, 7, 8, 9] [] rfl rfl (by decide) (by decide) (va_runV (As := [.int 1]) (rest := []) ⟨hx, hb, hml, hown, hts⟩ (c_mRefused l D cI cL cL g fl rn fs lt kk mk mf ml ma il sz tt fh hd 1 _) (gk_cwV hts w_146 w_147 w_148 w_145 k_mRefused rfl e_mRefused rfl rfl ⟨Nat.le_of_ble_eq_true rfl, Nat.le_of_ble_eq_true rfl⟩) (gk_preV hW [0, 1, 2, 3, 4, 5, 6, 7, 8, 9] rfl rfl rfl rfl) rfl rfl hl.1 rfl (lv_room (Nat.le_of_ble_eq_true rfl)) d_mFit_30 ⟨Nat.le_of_ble_eq_true rfl, Nat.le_of_ble_eq_true rfl⟩) (fun r_33 u H locs p_35 hW => ?_)
    obtain ⟨rfl, rfl⟩ : r_33 = 1 ∧ u = 1 := Prod.mk.inj (p_35.trans (show (mm_mRefused 1 fl) = (1, 1) from rfl))
    have hW : gk_W D vwCl (gk_T cI cL) s A H locs (wd_M cI cL g 1 rn fs lt kk mk mf ml ma il sz tt fh hd) := hW.re [0, 1, 2, 3, 4, 5, 6, 7, 8, 9] (by decide) rfl
    refine lv_if_eq (tgt := 38) hx hb d_mFit_33 (by decide) (fun c_36 => absurd c_36 (by decide)) (fun _ => ?_)
    refine lv_iconst (v := 0) hx hb d_mFit_36 (by decide) ?_
    exact X _ (1, hd) H locs 0 0 37 ls heq hW d_mFit_37 rfl (Nat.le_of_ble_eq_true rfl) (Nat.le_of_ble_eq_true rfl)
def mm_mCount_60 (x1 rn : Int32) (fs lt kk mk mf ml ma : Nat → Int32) (il sz : Int32) (tt : Nat → Int32) (x2 x3 fl hd : Int32) : Int32 × Int32 × Int32 := if x1 = 0 then (sz, fl, hd) else (x2, fl, hd)
def mm_mCount_20 (x1 rn : Int32) (fs lt kk mk mf ml ma : Nat → Int32) (il sz : Int32) (tt : Nat → Int32) : Nat → Int32 → Int32 → Int32 → Int32 → Int32 × Int32 × Int32
  | 0, x2, x3, fl, hd => (0, fl, hd)
  | n + 1, x2, x3, fl, hd => if sz < x3 then (mm_mCount_60 x1 rn fs lt kk mk mf ml ma il sz tt x2 x3 fl hd) else (if x1 ≤ 0 then (mm_mCount_60 x1 rn fs lt kk mk mf ml ma il sz tt x2 x3 fl hd) else (match (mm_mLook x3 rn fs lt kk mk mf ml ma il sz tt hd) with | (r_4, u_5) => if u_5 = x1 then (mm_mCount_20 x1 rn fs lt kk mk mf ml ma il sz tt n (x2 + 1) (x3 + 1) fl u_5) else (mm_mCount_20 x1 rn fs lt kk mk mf ml ma il sz tt n x2 (x3 + 1) fl u_5)))
def mm_mCount (x1 fl rn : Int32) (fs lt kk mk mf ml ma : Nat → Int32) (il sz : Int32) (tt : Nat → Int32) (hd : Int32) : Int32 × Int32 × Int32 := if x1 < 0 then ((-1), 0, hd) else (if x1 ≤ 2 then (mm_mCount_20 x1 rn fs lt kk mk mf ml ma il sz tt 2002 0 0 0 hd) else ((-1), 0, hd))
def rm_mCount : Room := { frames := 7, cells := 0, slots := 0, locals := 164 }
set_option maxHeartbeats 4000000 in
set_option maxRecDepth 100000 in
theorem c_mCount (l : Launch) (D : va_G) (cI : ClassId) (cL cL : ClassId × ClassId) (g : Nat → Nat) (fl rn : Int32) (fs lt kk mk mf ml ma : Nat → Int32) (il sz : Int32) (tt fh : Nat → Int32) (hd x1 : Int32) (z_rn : Int) (v_rn : gk_v rn z_rn) (z_sz : Int) (v_sz : gk_v sz z_sz) (hsz : 0 ≤ z_sz ∧ z_sz ≤ 2000) (hrn : 0 ≤ z_rn ∧ z_rn ≤ 100) (hmk : ∀ i : Nat, i < 2 → ∃ z : Int, gk_v (mk i) z ∧ 0 ≤ z ∧ z ≤ 40) (hma : ∀ i : Nat, ma i = 0 ∨ ma i = 1) : gk_I l y_mCount (.code y_mCount b_mCount 4 (some .int) :: wA) rm_mCount D vwCl (gk_T cI cL) [.ref (g 0), .int x1] (wd_M cI cL g fl rn fs lt kk mk mf ml ma il sz tt fh hd) (fun (r : Int32) (u : Int32 × Int32) => (r, u) = mm_mCount x1 fl rn fs lt kk mk mf ml ma il sz tt hd) (fun u => (wd_M cI cL g u.1 rn fs lt kk mk mf ml ma il sz tt fh u.2)) 0 0 := by
  refine gk_I.of (by decide) (Nat.le_of_ble_eq_true rfl) ?_
  intro p e s m below meth c A ls Q H locs hx hb hml hown hts hW hl X
  have hl : lv_has ls 4 [(0, .ref (g 0)), (1, .int x1)] := hl
  obtain ⟨tgt, heq⟩ : ∃ t, mm_mCount x1 fl rn fs lt kk mk mf ml ma il sz tt hd = t := ⟨_, rfl⟩
  rw [heq] at X
  rw [mm_mCount] at heq
  obtain ⟨z_x1, v_x1⟩ := gk_vex x1
  obtain ⟨z_il, v_il⟩ := gk_vex il
  obtain ⟨z_hd, v_hd⟩ := gk_vex hd
  have K60 : ∀ (x2 x3 fl hd : Int32) (H : Heap) (locs : List Loc) (ls : Array Slot), mm_mCount_60 x1 rn fs lt kk mk mf ml ma il sz tt x2 x3 fl hd = tgt → gk_W D vwCl (gk_T cI cL) s A H locs (wd_M cI cL g fl rn fs lt kk mk mf ml ma il sz tt fh hd) → lv_has ls 4 [(0, .ref (g 0)), (1, .int x1), (2, .int x2), (3, .int x3)] → W p l e rm_mCount s m [.ref (g 0), .int x1].toArray below meth c H locs 0 0 Q (F0 m 60 ls []) := by
    intro x2 x3 fl hd H locs ls heq hW hl
    rw [mm_mCount_60] at heq
    refine lv_iload_n hx hb d_mCount_60 rfl (lv_at hl 1 rfl) ?_
    refine lv_if_ne (tgt := 71) hx hb d_mCount_61 (by decide) (fun c_1 => ?_) (fun c_1 => ?_)
    · replace heq := (if_neg c_1).symm.trans heq
      refine lv_iload_n hx hb d_mCount_71 rfl (lv_at hl 2 rfl) ?_
      exact X _ (fl, hd) H locs 0 0 72 ls heq hW d_mCount_72 rfl (Nat.le_of_ble_eq_true rfl) (Nat.le_of_ble_eq_true rfl)
    · replace heq := (if_pos c_1).symm.trans heq
      refine lv_aload_n hx hb d_mCount_64 rfl (lv_at hl 0 rfl) ?_
      refine va_get (D := D) (C := R_M) (T := F_M) (N := 14) hx hb hts i_M hown hW.1 hW.2.1 0 rfl rfl 10 (by decide) (hts _ w_140) (fun _ h9 => h9) rfl d_mCount_65 ?_
      refine lv_goto (tgt := 72) hx hb d_mCount_68 (by decide) ?_
      exact X _ (fl, hd) H locs 0 0 72 ls heq hW d_mCount_72 rfl (Nat.le_of_ble_eq_true rfl) (Nat.le_of_ble_eq_true rfl)
  have L20 : ∀ (n : Nat) (x2 x3 fl hd : Int32) (H : Heap) (locs : List Loc) (ls : Array Slot), ∀ (z_x3 : Int), gk_v x3 z_x3 → (z_sz + 1 - z_x3) < (n : Int) → 0 ≤ z_x3 ∧ z_x3 ≤ z_sz + 1 → mm_mCount_20 x1 rn fs lt kk mk mf ml ma il sz tt n x2 x3 fl hd = tgt → gk_W D vwCl (gk_T cI cL) s A H locs (wd_M cI cL g fl rn fs lt kk mk mf ml ma il sz tt fh hd) → lv_has ls 4 [(0, .ref (g 0)), (1, .int x1), (2, .int x2), (3, .int x3)] → W p l e rm_mCount s m [.ref (g 0), .int x1].toArray below meth c H locs 0 0 Q (F0 m 20 ls []) := by
    intro n
    induction n with
    | zero => intro x2 x3 fl hd H locs ls z_x3 v_x3 hm f20_0 heq hW hl; exfalso; omega
    | succ n ih =>
      intro x2 x3 fl hd H locs ls z_x3 v_x3 hm f20_0 heq hW hl
      rw [mm_mCount_20] at heq
      refine lv_iload_n hx hb d_mCount_20 rfl (lv_at hl 3 rfl) ?_
      refine lv_aload_n hx hb d_mCount_21 rfl (lv_at hl 0 rfl) ?_
      refine va_get (D := D) (C := R_M) (T := F_M) (N := 14) hx hb hts i_M hown hW.1 hW.2.1 0 rfl rfl 10 (by decide) (hts _ w_140) (fun _ h9 => h9) rfl d_mCount_22 ?_
      refine lv_icmp_gt (tgt := 60) hx hb d_mCount_25 (by decide) (fun c_2 => ?_) (fun c_2 => ?_)
      · replace heq := (if_pos c_2).symm.trans heq
        have ic_2 := gk_lt v_sz v_x3 c_2
        exact K60 x2 x3 fl hd H locs ls heq hW (lv_sub hl [0, 1, 2, 3] rfl)
      · replace heq := (if_neg c_2).symm.trans heq
        have ic_2 := gk_nlt v_sz v_x3 c_2
        refine lv_iload_n hx hb d_mCount_28 rfl (lv_at hl 1 rfl) ?_
        refine lv_if_le (tgt := 60) hx hb d_mCount_29 (by decide) (fun c_3 => ?_) (fun c_3 => ?_)
        · replace heq := (if_pos c_3).symm.trans heq
          have ic_3 := gk_le v_x1 (show gk_v 0 0 from rfl) c_3
          exact K60 x2 x3 fl hd H locs ls heq hW (lv_sub hl [0, 1, 2, 3] rfl)
        · replace heq := (if_neg c_3).symm.trans heq
          have ic_3 := gk_nle v_x1 (show gk_v 0 0 from rfl) c_3
          refine lv_aload_n hx hb d_mCount_32 rfl (lv_at hl 0 rfl) ?_
          refine lv_iload_n hx hb d_mCount_33 rfl (lv_at hl 3 rfl) ?_
          refine gk_goI (wr := []) hW [0, 1, 2, 3, 4, 5, 6, 7, 8, 9] [] rfl rfl (by decide) (by decide) (va_runV (As := [.int x3]) (rest := []) ⟨hx, hb, hml, hown, hts⟩ (c_mLook l D cI cL cL g fl rn fs lt kk mk mf ml ma il sz tt fh hd x3 z_rn v_rn z_sz v_sz z_x3 v_x3 (by omega) (by omega) (by omega) hmk hma _) (gk_cwV hts w_220 w_221 w_222 w_145 k_mLook rfl e_mLook rfl rfl ⟨Nat.le_of_ble_eq_true rfl, Nat.le_of_ble_eq_true rfl⟩) (gk_preV hW [0, 1, 2, 3, 4, 5, 6, 7, 8, 9] rfl rfl rfl rfl) rfl rfl hl.1 rfl (lv_room (Nat.le_of_ble_eq_true rfl)) d_mCount_34 ⟨Nat.le_of_ble_eq_true rfl, Nat.le_of_ble_eq_true rfl⟩) (fun r_4 u H locs p_6 hW => ?_)
          obtain ⟨u_5, rfl⟩ : ∃ z, z = u := ⟨u, rfl⟩
          have hW : gk_W D vwCl (gk_T cI cL) s A H locs (wd_M cI cL g fl rn fs lt kk mk mf ml ma il sz tt fh u_5) := hW.re [0, 1, 2, 3, 4, 5, 6, 7, 8, 9] (by decide) rfl
          rw [← p_6] at heq
          dsimp only at heq
          refine lv_pop hx hb d_mCount_37 rfl ?_
          refine lv_aload_n hx hb d_mCount_38 rfl (lv_at hl 0 rfl) ?_
          refine va_get (D := D) (C := R_M) (T := F_M) (N := 14) hx hb hts i_M hown hW.1 hW.2.1 0 rfl rfl 13 (by decide) (hts _ w_139) (fun _ h9 => h9) rfl d_mCount_39 ?_
          refine lv_iload_n hx hb d_mCount_42 rfl (lv_at hl 1 rfl) ?_
          refine lv_icmp_ne (tgt := 52) hx hb d_mCount_43 (by decide) (fun c_7 => ?_) (fun c_7 => ?_)
          · replace heq := (if_neg c_7).symm.trans heq
            refine lv_iload_n hx hb d_mCount_52 rfl (lv_at hl 2 rfl) ?_
            refine lv_istore_n (lv' := [(2, .int x2), (0, .ref (g 0)), (1, .int x1), (3, .int x3)]) hx hb d_mCount_53 rfl hl (by decide) rfl (fun ls hl => ?_)
            refine lv_iinc (v := x3 + 1) (lv' := [(3, .int (x3 + 1)), (2, .int x2), (0, .ref (g 0)), (1, .int x1)]) hx hb d_mCount_54 hl (k := 3) rfl rfl (by decide) rfl (fun ls hl => ?_)
            obtain ⟨zt_8, vt_8, et_8⟩ := gk_add v_x3 (show gk_v 1 1 from rfl) (by omega) (by omega)
            refine lv_goto (tgt := 20) hx hb d_mCount_57 (by decide) ?_
            exact ih x2 (x3 + 1) fl u_5 H locs ls zt_8 vt_8 (by omega) (by omega) heq hW (lv_sub hl [2, 3, 1, 0] rfl)
          · replace heq := (if_pos c_7).symm.trans heq
            refine lv_iload_n hx hb d_mCount_46 rfl (lv_at hl 2 rfl) ?_
            refine lv_iconst (v := 1) hx hb d_mCount_47 (by decide) ?_
            refine lv_iadd hx hb d_mCount_48 ?_
            refine lv_goto (tgt := 53) hx hb d_mCount_49 (by decide) ?_
            refine lv_istore_n (lv' := [(2, .int (x2 + 1)), (0, .ref (g 0)), (1, .int x1), (3, .int x3)]) hx hb d_mCount_53 rfl hl (by decide) rfl (fun ls hl => ?_)
            refine lv_iinc (v := x3 + 1) (lv' := [(3, .int (x3 + 1)), (2, .int (x2 + 1)), (0, .ref (g 0)), (1, .int x1)]) hx hb d_mCount_54 hl (k := 3) rfl rfl (by decide) rfl (fun ls hl => ?_)
            obtain ⟨zt_9, vt_9, et_9⟩ := gk_add v_x3 (show gk_v 1 1 from rfl) (by omega) (by omega)
            refine lv_goto (tgt := 20) hx hb d_mCount_57 (by decide) ?_
            exact ih (x2 + 1) (x3 + 1) fl u_5 H locs ls zt_9 vt_9 (by omega) (by omega) heq hW (lv_sub hl [2, 3, 1, 0] rfl)
  refine lv_aload_n hx hb d_mCount_0 rfl (lv_at hl 0 rfl) ?_
  refine lv_iconst (v := 0) hx hb d_mCount_1 (by decide) ?_
  refine va_put (D := D) (ci := 3) (v := .int 0) (ty := .int) (C := R_M) (T := F_M) (N := 14) hx hb hts i_M t_M t_M_ok n_M hown hW.1 hW.2.1 hW.2.2.1 hW.2.2.2.1 0 rfl rfl 0 (by decide) (hts _ w_138) (fun _ h9 => h9) rfl (by decide +kernel) rfl rfl (Nat.le_of_ble_eq_true rfl) d_mCount_2 (fun H locs hP hD hS => ?_)
  have hW : gk_W D vwCl (gk_T cI cL) s A H locs (wd_M cI cL g 0 rn fs lt kk mk mf ml ma il sz tt fh hd) := ⟨hW.1, hP, hD, hS, hW.2.2.2.2⟩
  refine lv_iload_n hx hb d_mCount_5 rfl (lv_at hl 1 rfl) ?_
  refine lv_if_lt (tgt := 14) hx hb d_mCount_6 (by decide) (fun c_10 => ?_) (fun c_10 => ?_)
  · replace heq := (if_pos c_10).symm.trans heq
    have ic_10 := gk_lt v_x1 (show gk_v 0 0 from rfl) c_10
    refine lv_iconst (v := (-1)) hx hb d_mCount_14 (by decide) ?_
    exact X _ (0, hd) H locs 0 0 15 ls heq hW d_mCount_15 rfl (Nat.le_of_ble_eq_true rfl) (Nat.le_of_ble_eq_true rfl)
  · replace heq := (if_neg c_10).symm.trans heq
    have ic_10 := gk_nlt v_x1 (show gk_v 0 0 from rfl) c_10
    refine lv_iload_n hx hb d_mCount_9 rfl (lv_at hl 1 rfl) ?_
    refine lv_iconst (v := 2) hx hb d_mCount_10 (by decide) ?_
    refine lv_icmp_le (tgt := 16) hx hb d_mCount_11 (by decide) (fun c_11 => ?_) (fun c_11 => ?_)
    · replace heq := (if_pos c_11).symm.trans heq
      have ic_11 := gk_le v_x1 (show gk_v 2 2 from rfl) c_11
      refine lv_iconst (v := 0) hx hb d_mCount_16 (by decide) ?_
      refine lv_istore_n (lv' := [(2, .int 0), (0, .ref (g 0)), (1, .int x1)]) hx hb d_mCount_17 rfl hl (by decide) rfl (fun ls hl => ?_)
      refine lv_iconst (v := 0) hx hb d_mCount_18 (by decide) ?_
      refine lv_istore_n (lv' := [(3, .int 0), (2, .int 0), (0, .ref (g 0)), (1, .int x1)]) hx hb d_mCount_19 rfl hl (by decide) rfl (fun ls hl => ?_)
      exact L20 2002 0 0 0 hd H locs ls 0 (show gk_v 0 0 from rfl) (by omega) (by omega) heq hW (lv_sub hl [2, 3, 1, 0] rfl)
    · replace heq := (if_neg c_11).symm.trans heq
      have ic_11 := gk_nle v_x1 (show gk_v 2 2 from rfl) c_11
      refine lv_iconst (v := (-1)) hx hb d_mCount_14 (by decide) ?_
      exact X _ (0, hd) H locs 0 0 15 ls heq hW d_mCount_15 rfl (Nat.le_of_ble_eq_true rfl) (Nat.le_of_ble_eq_true rfl)
