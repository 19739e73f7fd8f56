def mm_mLook_61 (x1 rn : Int32) (fs lt kk mk mf ml ma : Nat → Int32) (il sz : Int32) (tt : Nat → Int32) (x2 x3 x4 x5 y0 hd : Int32) : Int32 × Int32 := if y0 ≤ 0 then (match (mm_mLast x1 x3 x4 x5 rn fs lt kk mk mf ml ma il tt hd) with | (r_2, u_3) => (r_2, u_3)) else (y0, hd)
def mm_mLook (x1 rn : Int32) (fs lt kk mk mf ml ma : Nat → Int32) (il sz : Int32) (tt : Nat → Int32) (hd : Int32) : Int32 × Int32 := match (mm_mEarly x1 rn fs lt kk il sz tt hd) with | (r_5, u_6) => if r_5 ≤ 0 then (match (mm_mMiddle x1 (mm_mBaseClass (mm_mBase (x1 - 1) rn fs lt kk il tt) rn fs lt kk il tt) (mm_mBaseClass x1 rn fs lt kk il tt) rn fs lt kk il tt u_6) with | (r_11, u_12) => if r_11 ≤ 0 then (match (mm_mLate (mm_mBase (x1 - 1) rn fs lt kk il tt) (mm_mBaseClass (mm_mBase (x1 - 1) rn fs lt kk il tt) rn fs lt kk il tt) (mm_mBaseClass x1 rn fs lt kk il tt) rn fs lt kk il tt u_12) with | (r_15, u_16) => mm_mLook_61 x1 rn fs lt kk mk mf ml ma il sz tt r_11 (mm_mBase (x1 - 1) rn fs lt kk il tt) (mm_mBaseClass (mm_mBase (x1 - 1) rn fs lt kk il tt) rn fs lt kk il tt) (mm_mBaseClass x1 rn fs lt kk il tt) r_15 u_16) else (mm_mLook_61 x1 rn fs lt kk mk mf ml ma il sz tt r_11 (mm_mBase (x1 - 1) rn fs lt kk il tt) (mm_mBaseClass (mm_mBase (x1 - 1) rn fs lt kk il tt) rn fs lt kk il tt) (mm_mBaseClass x1 rn fs lt kk il tt) r_11 u_12)) else (r_5, u_6)
def rm_mLook : Room := { frames := 6, cells := 0, slots := 0, locals := 139 }
set_option maxHeartbeats 4000000 in
set_option maxRecDepth 100000 in
theorem c_mLook (l : Launch) (D : va_G) (cI : ClassId) (cL cL : ClassId × ClassId) (g : Nat → Nat) (fl rn : Int32) (fs lt kk mk mf ml ma : Nat → Int32) (il sz : Int32) (tt fh : Nat → Int32) (hd x1 : Int32) (z_rn : Int) (v_rn : gk_v rn z_rn) (z_sz : Int) (v_sz : gk_v sz z_sz) (z_x1 : Int) (v_x1 : gk_v x1 z_x1) (hsz : 0 ≤ z_sz ∧ z_sz ≤ 2000) (hrn : 0 ≤ z_rn ∧ z_rn ≤ 100) (hx1 : 0 ≤ z_x1 ∧ z_x1 ≤ z_sz) (hmk : ∀ i : Nat, i < 2 → ∃ z : Int, gk_v (mk i) z ∧ 0 ≤ z ∧ z ≤ 40) (hma : ∀ i : Nat, ma i = 0 ∨ ma i = 1) : gk_I l y_mLook (.code y_mLook b_mLook 6 (some .int) :: wA) rm_mLook D vwCl (gk_T cI cL) [.ref (g 0), .int x1] (wd_M cI cL g fl rn fs lt kk mk mf ml ma il sz tt fh hd) (fun (r : Int32) (u : Int32) => (r, u) = mm_mLook x1 rn fs lt kk mk mf ml ma il sz tt hd) (fun u => (wd_M cI cL g fl rn fs lt kk mk mf ml ma il sz tt fh u)) 0 0 := by
  refine gk_I.of (by decide) (Nat.le_of_ble_eq_true rfl) ?_
  intro p e s m below meth c A ls Q H locs hx hb hml hown hts hW hl X
  have hl : lv_has ls 6 [(0, .ref (g 0)), (1, .int x1)] := hl
  obtain ⟨tgt, heq⟩ : ∃ t, mm_mLook x1 rn fs lt kk mk mf ml ma il sz tt hd = t := ⟨_, rfl⟩
  rw [heq] at X
  rw [mm_mLook] at heq
  obtain ⟨z_il, v_il⟩ := gk_vex il
  have K61 : ∀ (x2 x3 x4 x5 y0 hd : Int32) (H : Heap) (locs : List Loc) (ls : Array Slot), ∀ (z_x3 : Int), gk_v x3 z_x3 → 0 < z_x1 ∧ z_x1 < z_sz ∧ 0 ≤ z_x3 ∧ z_x3 < 2000 → mm_mLook_61 x1 rn fs lt kk mk mf ml ma il sz tt x2 x3 x4 x5 y0 hd = tgt → gk_W D vwCl (gk_T cI cL) s A H locs (wd_M cI cL g fl rn fs lt kk mk mf ml ma il sz tt fh hd) → lv_has ls 6 [(0, .ref (g 0)), (1, .int x1), (2, .int x2), (3, .int x3), (4, .int x4), (5, .int x5)] → W p l e rm_mLook s m [.ref (g 0), .int x1].toArray below meth c H locs 0 0 Q (F0 m 61 ls [.int y0]) := by
    intro x2 x3 x4 x5 y0 hd H locs ls z_x3 v_x3 f61_0 heq hW hl
    rw [mm_mLook_61] at heq
    refine lv_istore_n (lv' := [(2, .int y0), (0, .ref (g 0)), (1, .int x1), (3, .int x3), (4, .int x4), (5, .int x5)]) hx hb d_mLook_61 rfl hl (by decide) rfl (fun ls hl => ?_)
    refine lv_iload_n hx hb d_mLook_62 rfl (lv_at hl 0 rfl) ?_
    refine lv_if_le (tgt := 70) hx hb d_mLook_63 (by decide) (fun c_1 => ?_) (fun c_1 => ?_)
    · replace heq := (if_pos c_1).symm.trans heq
      refine lv_aload_n hx hb d_mLook_70 rfl (lv_at hl 1 rfl) ?_
      refine lv_iload_n hx hb d_mLook_71 rfl (lv_at hl 2 rfl) ?_
      refine lv_iload_n hx hb d_mLook_72 rfl (lv_at hl 3 rfl) ?_
      refine lv_iload hx hb d_mLook_73 (lv_at hl 4 rfl) ?_
      refine lv_iload hx hb d_mLook_75 (lv_at hl 5 rfl) ?_
      refine gk_goI (wr := []) hW [0, 1, 2, 3, 4, 5, 6, 7, 8, 9] [] rfl rfl (by decide) (by decide) (va_runV (As := [.int x1, .int x3, .int x4, .int x5]) (rest := []) ⟨hx, hb, hml, hown, hts⟩ (c_mLast l D cI cL cL g fl rn fs lt kk mk mf ml ma il sz tt fh hd x1 x3 x4 x5 z_rn v_rn z_x1 v_x1 z_x3 v_x3 (by omega) (by omega) (by omega) hmk hma _) (gk_cwV hts w_211 w_212 w_213 w_145 k_mLast rfl e_mLast rfl rfl ⟨Nat.le_of_ble_eq_true rfl, Nat.le_of_ble_eq_true rfl⟩) (gk_preV hW [0, 1, 2, 3, 4, 5, 6, 7, 8, 9] rfl rfl rfl rfl) rfl rfl hl.1 rfl (lv_room (Nat.le_of_ble_eq_true rfl)) d_mLook_77 ⟨Nat.le_of_ble_eq_true rfl, Nat.le_of_ble_eq_true rfl⟩) (fun r_2 u H locs p_4 hW => ?_)
      obtain ⟨u_3, rfl⟩ : ∃ z, z = u := ⟨u, rfl⟩
      have hW : gk_W D vwCl (gk_T cI cL) s A H locs (wd_M cI cL g fl rn fs lt kk mk mf ml ma il sz tt fh u_3) := hW.re [0, 1, 2, 3, 4, 5, 6, 7, 8, 9] (by decide) rfl
      rw [← p_4] at heq
      dsimp only at heq
      exact X _ u_3 H locs 0 0 80 ls heq hW d_mLook_80 rfl (Nat.le_of_ble_eq_true rfl) (Nat.le_of_ble_eq_true rfl)
    · replace heq := (if_neg c_1).symm.trans heq
      refine lv_iload_n hx hb d_mLook_66 rfl (lv_at hl 0 rfl) ?_
      refine lv_goto (tgt := 80) hx hb d_mLook_67 (by decide) ?_
      exact X _ hd H locs 0 0 80 ls heq hW d_mLook_80 rfl (Nat.le_of_ble_eq_true rfl) (Nat.le_of_ble_eq_true rfl)
  refine lv_aload_n hx hb d_mLook_0 rfl (lv_at hl 0 rfl) ?_
  refine lv_iload_n hx hb d_mLook_1 rfl (lv_at hl 1 rfl) ?_
  refine gk_goI (wr := []) hW [0, 1, 2, 3, 4, 5, 6, 7, 8, 9] [] rfl rfl (by decide) (by decide) (va_runV (As := [.int x1]) (rest := []) ⟨hx, hb, hml, hown, hts⟩ (c_mEarly l D cI cL cL g fl rn fs lt kk mk mf ml ma il sz tt fh hd x1 z_rn v_rn z_sz v_sz z_x1 v_x1 (by omega) (by omega) (by omega) _) (gk_cwV hts w_202 w_203 w_204 w_145 k_mEarly rfl e_mEarly rfl rfl ⟨Nat.le_of_ble_eq_true rfl, Nat.le_of_ble_eq_true rfl⟩) (gk_preV hW [0, 1, 2, 3, 4, 5, 6, 7, 8, 9] rfl rfl rfl rfl) rfl rfl hl.1 rfl (lv_room (Nat.le_of_ble_eq_true rfl)) d_mLook_2 ⟨Nat.le_of_ble_eq_true rfl, Nat.le_of_ble_eq_true rfl⟩) (fun r_5 u H locs p_7 hW => ?_)
  obtain ⟨u_6, rfl⟩ : ∃ z, z = u := ⟨u, rfl⟩
  have hW : gk_W D vwCl (gk_T cI cL) s A H locs (wd_M cI cL g fl rn fs lt kk mk mf ml ma il sz tt fh u_6) := hW.re [0, 1, 2, 3, 4, 5, 6, 7, 8, 9] (by decide) rfl
  rw [← p_7] at heq
  dsimp only at heq
  refine lv_istore_n (lv' := [(2, .int r_5), (0, .ref (g 0)), (1, .int x1)]) hx hb d_mLook_5 rfl hl (by decide) rfl (fun ls hl => ?_)
  refine lv_iload_n hx hb d_mLook_6 rfl (lv_at hl 0 rfl) ?_
  refine lv_if_le (tgt := 12) hx hb d_mLook_7 (by decide) (fun c_8 => ?_) (fun c_8 => ?_)
  · replace heq := (if_pos c_8).symm.trans heq
    have hin := mm_mEarly_in p_7 c_8 v_x1 v_sz hx1
    refine lv_aload_n hx hb d_mLook_12 rfl (lv_at hl 1 rfl) ?_
    refine lv_iload_n hx hb d_mLook_13 rfl (lv_at hl 2 rfl) ?_
    refine lv_iconst (v := 1) hx hb d_mLook_14 (by decide) ?_
    refine lv_isub hx hb d_mLook_15 ?_
    obtain ⟨zt_9, vt_9, et_9⟩ := gk_sub v_x1 (show gk_v 1 1 from rfl) (by omega) (by omega)
    refine gk_goR hW [0, 1, 2, 3, 4, 5, 6, 7, 8, 9] rfl (va_runV (As := [.int (x1 - 1)]) (rest := []) ⟨hx, hb, hml, hown, hts⟩ (c_mBase l D cI cL cL g fl rn fs lt kk mk mf ml ma il sz tt fh u_6 (x1 - 1) z_rn v_rn zt_9 vt_9 (by omega) (by omega) _) (gk_cwV hts w_179 w_180 w_181 w_145 k_mBase rfl e_mBase rfl rfl ⟨Nat.le_of_ble_eq_true rfl, Nat.le_of_ble_eq_true rfl⟩) (gk_preV hW [0, 1, 2, 3, 4, 5, 6, 7, 8, 9] rfl rfl rfl rfl) rfl rfl hl.1 rfl (lv_room (Nat.le_of_ble_eq_true rfl)) d_mLook_16 ⟨Nat.le_of_ble_eq_true rfl, Nat.le_of_ble_eq_true rfl⟩) (fun H locs hW => ?_)
    obtain ⟨zb_10, vb_10, hb_10⟩ := mm_mBase_bd (x1 - 1) rn fs lt kk il tt zt_9 vt_9 (by omega)
    refine lv_istore_n (lv' := [(3, .int (mm_mBase (x1 - 1) rn fs lt kk il tt)), (2, .int r_5), (0, .ref (g 0)), (1, .int x1)]) hx hb d_mLook_19 rfl hl (by decide) rfl (fun ls hl => ?_)
    refine lv_aload_n hx hb d_mLook_20 rfl (lv_at hl 2 rfl) ?_
    refine lv_iload_n hx hb d_mLook_21 rfl (lv_at hl 0 rfl) ?_
    refine gk_goR hW [0, 1, 2, 3, 4, 5, 6, 7, 8, 9] rfl (va_runV (As := [.int (mm_mBase (x1 - 1) rn fs lt kk il tt)]) (rest := []) ⟨hx, hb, hml, hown, hts⟩ (c_mBaseClass l D cI cL cL g fl rn fs lt kk mk mf ml ma il sz tt fh u_6 (mm_mBase (x1 - 1) rn fs lt kk il tt) z_rn v_rn zb_10 vb_10 (by omega) (by omega) _) (gk_cwV hts w_182 w_183 w_184 w_145 k_mBaseClass rfl e_mBaseClass rfl rfl ⟨Nat.le_of_ble_eq_true rfl, Nat.le_of_ble_eq_true rfl⟩) (gk_preV hW [0, 1, 2, 3, 4, 5, 6, 7, 8, 9] rfl rfl rfl rfl) rfl rfl hl.1 rfl (lv_room (Nat.le_of_ble_eq_true rfl)) d_mLook_22 ⟨Nat.le_of_ble_eq_true rfl, Nat.le_of_ble_eq_true rfl⟩) (fun H locs hW => ?_)
    refine lv_istore (lv' := [(4, .int (mm_mBaseClass (mm_mBase (x1 - 1) rn fs lt kk il tt) rn fs lt kk il tt)), (3, .int (mm_mBase (x1 - 1) rn fs lt kk il tt)), (2, .int r_5), (0, .ref (g 0)), (1, .int x1)]) hx hb d_mLook_25 hl (by decide) rfl (fun ls hl => ?_)
    refine lv_aload_n hx hb d_mLook_27 rfl (lv_at hl 3 rfl) ?_
    refine lv_iload_n hx hb d_mLook_28 rfl (lv_at hl 4 rfl) ?_
    refine gk_goR hW [0, 1, 2, 3, 4, 5, 6, 7, 8, 9] rfl (va_runV (As := [.int x1]) (rest := []) ⟨hx, hb, hml, hown, hts⟩ (c_mBaseClass l D cI cL cL g fl rn fs lt kk mk mf ml ma il sz tt fh u_6 x1 z_rn v_rn z_x1 v_x1 (by omega) (by omega) _) (gk_cwV hts w_182 w_183 w_184 w_145 k_mBaseClass rfl e_mBaseClass rfl rfl ⟨Nat.le_of_ble_eq_true rfl, Nat.le_of_ble_eq_true rfl⟩) (gk_preV hW [0, 1, 2, 3, 4, 5, 6, 7, 8, 9] rfl rfl rfl rfl) rfl rfl hl.1 rfl (lv_room (Nat.le_of_ble_eq_true rfl)) d_mLook_29 ⟨Nat.le_of_ble_eq_true rfl, Nat.le_of_ble_eq_true rfl⟩) (fun H locs hW => ?_)
    refine lv_istore (lv' := [(5, .int (mm_mBaseClass x1 rn fs lt kk il tt)), (4, .int (mm_mBaseClass (mm_mBase (x1 - 1) rn fs lt kk il tt) rn fs lt kk il tt)), (3, .int (mm_mBase (x1 - 1) rn fs lt kk il tt)), (2, .int r_5), (0, .ref (g 0)), (1, .int x1)]) hx hb d_mLook_32 hl (by decide) rfl (fun ls hl => ?_)
    refine lv_aload_n hx hb d_mLook_34 rfl (lv_at hl 4 rfl) ?_
    refine lv_iload_n hx hb d_mLook_35 rfl (lv_at hl 5 rfl) ?_
    refine lv_iload hx hb d_mLook_36 (lv_at hl 1 rfl) ?_
    refine lv_iload hx hb d_mLook_38 (lv_at hl 0 rfl) ?_
    refine gk_goI (wr := []) hW [0, 1, 2, 3, 4, 5, 6, 7, 8, 9] [] rfl rfl (by decide) (by decide) (va_runV (As := [.int x1, .int (mm_mBaseClass (mm_mBase (x1 - 1) rn fs lt kk il tt) rn fs lt kk il tt), .int (mm_mBaseClass x1 rn fs lt kk il tt)]) (rest := []) ⟨hx, hb, hml, hown, hts⟩ (c_mMiddle l D cI cL cL g fl rn fs lt kk mk mf ml ma il sz tt fh u_6 x1 (mm_mBaseClass (mm_mBase (x1 - 1) rn fs lt kk il tt) rn fs lt kk il tt) (mm_mBaseClass x1 rn fs lt kk il tt) z_rn v_rn z_x1 v_x1 (by omega) (by omega) _) (gk_cwV hts w_205 w_206 w_207 w_145 k_mMiddle rfl e_mMiddle rfl rfl ⟨Nat.le_of_ble_eq_true rfl, Nat.le_of_ble_eq_true rfl⟩) (gk_preV hW [0, 1, 2, 3, 4, 5, 6, 7, 8, 9] rfl rfl rfl rfl) rfl rfl hl.1 rfl (lv_room (Nat.le_of_ble_eq_true rfl)) d_mLook_40 ⟨Nat.le_of_ble_eq_true rfl, Nat.le_of_ble_eq_true rfl⟩) (fun r_11 u H locs p_13 hW => ?_)
    obtain ⟨u_12, rfl⟩ : ∃ z, z = u := ⟨u, rfl⟩
    have hW : gk_W D vwCl (gk_T cI cL) s A H locs (wd_M cI cL g fl rn fs lt kk mk mf ml ma il sz tt fh u_12) := hW.re [0, 1, 2, 3, 4, 5, 6, 7, 8, 9] (by decide) rfl
    rw [← p_13] at heq
    dsimp only at heq
    refine lv_istore_n (lv' := [(2, .int r_11), (5, .int (mm_mBaseClass x1 rn fs lt kk il tt)), (4, .int (mm_mBaseClass (mm_mBase (x1 - 1) rn fs lt kk il tt) rn fs lt kk il tt)), (3, .int (mm_mBase (x1 - 1) rn fs lt kk il tt)), (0, .ref (g 0)), (1, .int x1)]) hx hb d_mLook_43 rfl hl (by decide) rfl (fun ls hl => ?_)
    refine lv_iload_n hx hb d_mLook_44 rfl (lv_at hl 0 rfl) ?_
    refine lv_if_le (tgt := 52) hx hb d_mLook_45 (by decide) (fun c_14 => ?_) (fun c_14 => ?_)
    · replace heq := (if_pos c_14).symm.trans heq
      refine lv_aload_n hx hb d_mLook_52 rfl (lv_at hl 4 rfl) ?_
      refine lv_iload_n hx hb d_mLook_53 rfl (lv_at hl 3 rfl) ?_
      refine lv_iload hx hb d_mLook_54 (lv_at hl 2 rfl) ?_
      refine lv_iload hx hb d_mLook_56 (lv_at hl 1 rfl) ?_
      refine gk_goI (wr := []) hW [0, 1, 2, 3, 4, 5, 6, 7, 8, 9] [] rfl rfl (by decide) (by decide) (va_runV (As := [.int (mm_mBase (x1 - 1) rn fs lt kk il tt), .int (mm_mBaseClass (mm_mBase (x1 - 1) rn fs lt kk il tt) rn fs lt kk il tt), .int (mm_mBaseClass x1 rn fs lt kk il tt)]) (rest := []) ⟨hx, hb, hml, hown, hts⟩ (c_mLate l D cI cL cL g fl rn fs lt kk mk mf ml ma il sz tt fh u_12 (mm_mBase (x1 - 1) rn fs lt kk il tt) (mm_mBaseClass (mm_mBase (x1 - 1) rn fs lt kk il tt) rn fs lt kk il tt) (mm_mBaseClass x1 rn fs lt kk il tt) z_rn v_rn zb_10 vb_10 (by omega) (by omega) _) (gk_cwV hts w_208 w_209 w_210 w_145 k_mLate rfl e_mLate rfl rfl ⟨Nat.le_of_ble_eq_true rfl, Nat.le_of_ble_eq_true rfl⟩) (gk_preV hW [0, 1, 2, 3, 4, 5, 6, 7, 8, 9] rfl rfl rfl rfl) rfl rfl hl.1 rfl (lv_room (Nat.le_of_ble_eq_true rfl)) d_mLook_58 ⟨Nat.le_of_ble_eq_true rfl, Nat.le_of_ble_eq_true rfl⟩) (fun r_15 u H locs p_17 hW => ?_)
      obtain ⟨u_16, rfl⟩ : ∃ z, z = u := ⟨u, rfl⟩
      have hW : gk_W D vwCl (gk_T cI cL) s A H locs (wd_M cI cL g fl rn fs lt kk mk mf ml ma il sz tt fh u_16) := hW.re [0, 1, 2, 3, 4, 5, 6, 7, 8, 9] (by decide) rfl
      rw [← p_17] at heq
      dsimp only at heq
      exact K61 r_11 (mm_mBase (x1 - 1) rn fs lt kk il tt) (mm_mBaseClass (mm_mBase (x1 - 1) rn fs lt kk il tt) rn fs lt kk il tt) (mm_mBaseClass x1 rn fs lt kk il tt) r_15 u_16 H locs ls zb_10 vb_10 (by omega) heq hW (lv_sub hl [4, 5, 0, 3, 2, 1] rfl)
    · replace heq := (if_neg c_14).symm.trans heq
      refine lv_iload_n hx hb d_mLook_48 rfl (lv_at hl 0 rfl) ?_
      refine lv_goto (tgt := 61) hx hb d_mLook_49 (by decide) ?_
      exact K61 r_11 (mm_mBase (x1 - 1) rn fs lt kk il tt) (mm_mBaseClass (mm_mBase (x1 - 1) rn fs lt kk il tt) rn fs lt kk il tt) (mm_mBaseClass x1 rn fs lt kk il tt) r_11 u_12 H locs ls zb_10 vb_10 (by omega) heq hW (lv_sub hl [4, 5, 0, 3, 2, 1] rfl)
  · replace heq := (if_neg c_8).symm.trans heq
    refine lv_iload_n hx hb d_mLook_10 rfl (lv_at hl 0 rfl) ?_
    exact X _ u_6 H locs 0 0 11 ls heq hW d_mLook_11 rfl (Nat.le_of_ble_eq_true rfl) (Nat.le_of_ble_eq_true rfl)
def mm_mIsPosition (x1 sz : Int32) : Int32 := if x1 < 0 then 0 else (if sz ≤ x1 then 0 else 1)
theorem mm_mIsPosition_in {x1 sz : Int32} {z1 zs : Int} (h : ¬ mm_mIsPosition x1 sz = 0) (v1 : gk_v x1 z1) (vs : gk_v sz zs) : 0 ≤ z1 ∧ z1 < zs := by
  rw [mm_mIsPosition] at h
  by_cases c1 : x1 < 0
  · rw [if_pos c1] at h; exact absurd rfl h
  · rw [if_neg c1] at h
    have h1 := gk_nlt v1 (show gk_v 0 0 from rfl) c1
    by_cases c2 : sz ≤ x1
    · rw [if_pos c2] at h; exact absurd rfl h
    · have h2 := gk_nle vs v1 c2
      omega
def rm_mIsPosition : Room := { frames := 0, cells := 0, slots := 0, locals := 0 }
set_option maxHeartbeats 4000000 in
set_option maxRecDepth 100000 in
theorem c_mIsPosition (l : Launch) (D : va_G) (cI : ClassId) (cL cL : ClassId × ClassId) (g : Nat → Nat) (fl rn : Int32) (fs lt kk mk mf ml ma : Nat → Int32) (il sz : Int32) (tt fh : Nat → Int32) (hd x1 : Int32) : gk_I l y_mIsPosition (.code y_mIsPosition b_mIsPosition 2 (some .boolean) :: wA) rm_mIsPosition D vwCl (gk_T cI cL) [.ref (g 0), .int x1] (wd_M cI cL g fl rn fs lt kk mk mf ml ma il sz tt fh hd) (fun (r : Int32) (_ : Unit) => r = mm_mIsPosition x1 sz) (fun (_ : Unit) => (wd_M cI cL g fl rn fs lt kk mk mf ml ma il sz tt fh hd)) 0 0 := by
  refine gk_I.of (by decide) (Nat.le_of_ble_eq_true rfl) ?_
  intro p e s m below meth c A ls Q H locs hx hb hml hown hts hW hl X
  have hl : lv_has ls 2 [(0, .ref (g 0)), (1, .int x1)] := hl
  obtain ⟨tgt, heq⟩ : ∃ t, mm_mIsPosition x1 sz = t := ⟨_, rfl⟩
  rw [heq] at X
  rw [mm_mIsPosition] at heq
  refine lv_iload_n hx hb d_mIsPosition_0 rfl (lv_at hl 1 rfl) ?_
  refine lv_if_lt (tgt := 16) hx hb d_mIsPosition_1 (by decide) (fun c_1 => ?_) (fun c_1 => ?_)
  · replace heq := (if_pos c_1).symm.trans heq
    refine lv_iconst (v := 0) hx hb d_mIsPosition_16 (by decide) ?_
    exact X _ () H locs 0 0 17 ls heq hW d_mIsPosition_17 rfl (Nat.le_of_ble_eq_true rfl) (Nat.le_of_ble_eq_true rfl)
  · replace heq := (if_neg c_1).symm.trans heq
    refine lv_iload_n hx hb d_mIsPosition_4 rfl (lv_at hl 1 rfl) ?_
    refine lv_aload_n hx hb d_mIsPosition_5 rfl (lv_at hl 0 rfl) ?_
    refine va_get (D := D) (C := R_M) (T := F_M) (N := 14) hx hb hts i_M hown hW.1 hW.2.1 0 rfl rfl 10 (by decide) (hts _ w_140) (fun _ h9 => h9) rfl d_mIsPosition_6 ?_
    refine lv_icmp_ge (tgt := 16) hx hb d_mIsPosition_9 (by decide) (fun c_2 => ?_) (fun c_2 => ?_)
    · replace heq := (if_pos c_2).symm.trans heq
      refine lv_iconst (v := 0) hx hb d_mIsPosition_16 (by decide) ?_
      exact X _ () H locs 0 0 17 ls heq hW d_mIsPosition_17 rfl (Nat.le_of_ble_eq_true rfl) (Nat.le_of_ble_eq_true rfl)
    · replace heq := (if_neg c_2).symm.trans heq
      refine lv_iconst (v := 1) hx hb d_mIsPosition_12 (by decide) ?_
      refine lv_goto (tgt := 17) hx hb d_mIsPosition_13 (by decide) ?_
      exact X _ () H locs 0 0 17 ls heq hW d_mIsPosition_17 rfl (Nat.le_of_ble_eq_true rfl) (Nat.le_of_ble_eq_true rfl)
def mm_mIsPlace (x1 sz : Int32) : Int32 := if x1 < 0 then 0 else (if sz < x1 then 0 else 1)
theorem mm_mIsPlace_in {x1 sz : Int32} {z1 zs : Int} (h : ¬ mm_mIsPlace x1 sz = 0) (v1 : gk_v x1 z1) (vs : gk_v sz zs) : 0 ≤ z1 ∧ z1 ≤ zs := by
  rw [mm_mIsPlace] at h
  by_cases c1 : x1 < 0
  · rw [if_pos c1] at h; exact absurd rfl h
  · rw [if_neg c1] at h
    have h1 := gk_nlt v1 (show gk_v 0 0 from rfl) c1
    by_cases c2 : sz < x1
    · rw [if_pos c2] at h; exact absurd rfl h
    · have h2 := gk_nlt vs v1 c2
      omega
def rm_mIsPlace : Room := { frames := 0, cells := 0, slots := 0, locals := 0 }
set_option maxHeartbeats 4000000 in
set_option maxRecDepth 100000 in
theorem c_mIsPlace (l : Launch) (D : va_G) (cI : ClassId) (cL cL : ClassId × ClassId) (g : Nat → Nat) (fl rn : Int32) (fs lt kk mk mf ml ma : Nat → Int32) (il sz : Int32) (tt fh : Nat → Int32) (hd x1 : Int32) : gk_I l y_mIsPlace (.code y_mIsPlace b_mIsPlace 2 (some .boolean) :: wA) rm_mIsPlace D vwCl (gk_T cI cL) [.ref (g 0), .int x1] (wd_M cI cL g fl rn fs lt kk mk mf ml ma il sz tt fh hd) (fun (r : Int32) (_ : Unit) => r = mm_mIsPlace x1 sz) (fun (_ : Unit) => (wd_M cI cL g fl rn fs lt kk mk mf ml ma il sz tt fh hd)) 0 0 := by
  refine gk_I.of (by decide) (Nat.le_of_ble_eq_true rfl) ?_
  intro p e s m below meth c A ls Q H locs hx hb hml hown hts hW hl X
  have hl : lv_has ls 2 [(0, .ref (g 0)), (1, .int x1)] := hl
  obtain ⟨tgt, heq⟩ : ∃ t, mm_mIsPlace x1 sz = t := ⟨_, rfl⟩
  rw [heq] at X
  rw [mm_mIsPlace] at heq
  refine lv_iload_n hx hb d_mIsPlace_0 rfl (lv_at hl 1 rfl) ?_
  refine lv_if_lt (tgt := 16) hx hb d_mIsPlace_1 (by decide) (fun c_1 => ?_) (fun c_1 => ?_)
  · replace heq := (if_pos c_1).symm.trans heq
    refine lv_iconst (v := 0) hx hb d_mIsPlace_16 (by decide) ?_
    exact X _ () H locs 0 0 17 ls heq hW d_mIsPlace_17 rfl (Nat.le_of_ble_eq_true rfl) (Nat.le_of_ble_eq_true rfl)
  · replace heq := (if_neg c_1).symm.trans heq
    refine lv_iload_n hx hb d_mIsPlace_4 rfl (lv_at hl 1 rfl) ?_
    refine lv_aload_n hx hb d_mIsPlace_5 rfl (lv_at hl 0 rfl) ?_
    refine va_get (D := D) (C := R_M) (T := F_M) (N := 14) hx hb hts i_M hown hW.1 hW.2.1 0 rfl rfl 10 (by decide) (hts _ w_140) (fun _ h9 => h9) rfl d_mIsPlace_6 ?_
    refine lv_icmp_gt (tgt := 16) hx hb d_mIsPlace_9 (by decide) (fun c_2 => ?_) (fun c_2 => ?_)
    · replace heq := (if_pos c_2).symm.trans heq
      refine lv_iconst (v := 0) hx hb d_mIsPlace_16 (by decide) ?_
      exact X _ () H locs 0 0 17 ls heq hW d_mIsPlace_17 rfl (Nat.le_of_ble_eq_true rfl) (Nat.le_of_ble_eq_true rfl)
    · replace heq := (if_neg c_2).symm.trans heq
      refine lv_iconst (v := 1) hx hb d_mIsPlace_12 (by decide) ?_
      refine lv_goto (tgt := 17) hx hb d_mIsPlace_13 (by decide) ?_
      exact X _ () H locs 0 0 17 ls heq hW d_mIsPlace_17 rfl (Nat.le_of_ble_eq_true rfl) (Nat.le_of_ble_eq_true rfl)
def mm_mAt (x1 fl sz : Int32) (tt : Nat → Int32) : Int32 × Int32 := if (mm_mIsPosition x1 sz) = 0 then (0, 1) else (tt x1.toNatClampNeg, 0)
def rm_mAt : Room := { frames := 1, cells := 0, slots := 0, locals := 21 }
set_option maxHeartbeats 4000000 in
set_option maxRecDepth 100000 in
theorem c_mAt (l : Launch) (D : va_G) (cI : ClassId) (cL cL : ClassId × ClassId) (g : Nat → Nat) (fl rn : Int32) (fs lt kk mk mf ml ma : Nat → Int32) (il sz : Int32) (tt fh : Nat → Int32) (hd x1 : Int32) (z_sz : Int) (v_sz : gk_v sz z_sz) (hsz : 0 ≤ z_sz ∧ z_sz ≤ 2000) : gk_I l y_mAt (.code y_mAt b_mAt 2 (some .int) :: wA) rm_mAt D vwCl (gk_T cI cL) [.ref (g 0), .int x1] (wd_M cI cL g fl rn fs lt kk mk mf ml ma il sz tt fh hd) (fun (r : Int32) (u : Int32) => (r, u) = mm_mAt x1 fl sz tt) (fun u => (wd_M cI cL g u rn fs lt kk mk mf ml ma il sz tt fh hd)) 0 0 := by
  refine gk_I.of (by decide) (Nat.le_of_ble_eq_true rfl) ?_
  intro p e s m below meth c A ls Q H locs hx hb hml hown hts hW hl X
  have hl : lv_has ls 2 [(0, .ref (g 0)), (1, .int x1)] := hl
  obtain ⟨tgt, heq⟩ : ∃ t, mm_mAt x1 fl sz tt = t := ⟨_, rfl⟩
  rw [heq] at X
  rw [mm_mAt] at heq
  obtain ⟨z_x1, v_x1⟩ := gk_vex x1
  refine lv_aload_n hx hb d_mAt_0 rfl (lv_at hl 0 rfl) ?_
  refine lv_aload_n hx hb d_mAt_1 rfl (lv_at hl 0 rfl) ?_
  refine lv_iload_n hx hb d_mAt_2 rfl (lv_at hl 1 rfl) ?_
  refine gk_goR hW [0, 1, 2, 3, 4, 5, 6, 7, 8, 9] rfl (va_runV (As := [.int x1]) (rest := [.ref (g 0)]) ⟨hx, hb, hml, hown, hts⟩ (c_mIsPosition l D cI cL cL g fl rn fs lt kk mk mf ml ma il sz tt fh hd x1 _) (gk_cwV hts w_214 w_215 w_216 w_145 k_mIsPosition rfl e_mIsPosition rfl rfl ⟨Nat.le_of_ble_eq_true rfl, Nat.le_of_ble_eq_true rfl⟩) (gk_preV hW [0, 1, 2, 3, 4, 5, 6, 7, 8, 9] rfl rfl rfl rfl) rfl rfl hl.1 rfl (lv_room (Nat.le_of_ble_eq_true rfl)) d_mAt_3 ⟨Nat.le_of_ble_eq_true rfl, Nat.le_of_ble_eq_true rfl⟩) (fun H locs hW => ?_)
  refine lv_if_eq (tgt := 13) hx hb d_mAt_6 (by decide) (fun c_1 => ?_) (fun c_1 => ?_)
  · replace heq := (if_pos c_1).symm.trans heq
    refine lv_iconst (v := 1) hx hb d_mAt_13 (by decide) ?_
    refine gk_goI (wr := []) hW [0, 1, 2, 3, 4, 5, 6, 7, 8, 9] [] rfl rfl (by decide) (by decide) (va_runV (As := [.int 1]) (rest := []) ⟨hx, hb, hml, hown, hts⟩ (c_mRefused l D cI cL cL g fl rn fs lt kk mk mf ml ma il sz tt fh hd 1 _) (gk_cwV hts w_146 w_147 w_148 w_145 k_mRefused rfl e_mRefused rfl rfl ⟨Nat.le_of_ble_eq_true rfl, Nat.le_of_ble_eq_true rfl⟩) (gk_preV hW [0, 1, 2, 3, 4, 5, 6, 7, 8, 9] rfl rfl rfl rfl) rfl rfl hl.1 rfl (lv_room (Nat.le_of_ble_eq_true rfl)) d_mAt_14 ⟨Nat.le_of_ble_eq_true rfl, Nat.le_of_ble_eq_true rfl⟩) (fun r_2 u H locs p_4 hW => ?_)
    obtain ⟨rfl, rfl⟩ : r_2 = 1 ∧ u = 1 := Prod.mk.inj (p_4.trans (show (mm_mRefused 1 fl) = (1, 1) from rfl))
    have hW : gk_W D vwCl (gk_T cI cL) s A H locs (wd_M cI cL g 1 rn fs lt kk mk mf ml ma il sz tt fh hd) := hW.re [0, 1, 2, 3, 4, 5, 6, 7, 8, 9] (by decide) rfl
    refine lv_if_eq (tgt := 24) hx hb d_mAt_17 (by decide) (fun c_5 => absurd c_5 (by decide)) (fun _ => ?_)
    refine lv_iconst (v := 0) hx hb d_mAt_20 (by decide) ?_
    refine lv_goto (tgt := 30) hx hb d_mAt_21 (by decide) ?_
    exact X _ 1 H locs 0 0 30 ls heq hW d_mAt_30 rfl (Nat.le_of_ble_eq_true rfl) (Nat.le_of_ble_eq_true rfl)
  · replace heq := (if_neg c_1).symm.trans heq
    have hin := mm_mIsPosition_in c_1 v_x1 v_sz
    refine lv_iconst (v := 0) hx hb d_mAt_9 (by decide) ?_
    refine lv_goto (tgt := 14) hx hb d_mAt_10 (by decide) ?_
    refine gk_goI (wr := []) hW [0, 1, 2, 3, 4, 5, 6, 7, 8, 9] [] rfl rfl (by decide) (by decide) (va_runV (As := [.int 0]) (rest := []) ⟨hx, hb, hml, hown, hts⟩ (c_mRefused l D cI cL cL g fl rn fs lt kk mk mf ml ma il sz tt fh hd 0 _) (gk_cwV hts w_146 w_147 w_148 w_145 k_mRefused rfl e_mRefused rfl rfl ⟨Nat.le_of_ble_eq_true rfl, Nat.le_of_ble_eq_true rfl⟩) (gk_preV hW [0, 1, 2, 3, 4, 5, 6, 7, 8, 9] rfl rfl rfl rfl) rfl rfl hl.1 rfl (lv_room (Nat.le_of_ble_eq_true rfl)) d_mAt_14 ⟨Nat.le_of_ble_eq_true rfl, Nat.le_of_ble_eq_true rfl⟩) (fun r_6 u H locs p_8 hW => ?_)
    obtain ⟨rfl, rfl⟩ : r_6 = 0 ∧ u = 0 := Prod.mk.inj (p_8.trans (show (mm_mRefused 0 fl) = (0, 0) from rfl))
    have hW : gk_W D vwCl (gk_T cI cL) s A H locs (wd_M cI cL g 0 rn fs lt kk mk mf ml ma il sz tt fh hd) := hW.re [0, 1, 2, 3, 4, 5, 6, 7, 8, 9] (by decide) rfl
    refine lv_if_eq (tgt := 24) hx hb d_mAt_17 (by decide) (fun _ => ?_) (fun c_9 => absurd c_9 (by decide))
    refine lv_aload_n hx hb d_mAt_24 rfl (lv_at hl 0 rfl) ?_
    refine va_get (D := D) (C := R_M) (T := F_M) (N := 14) hx hb hts i_M hown hW.1 hW.2.1 0 rfl rfl 11 (by decide) (hts _ w_162) (fun _ h9 => h9) rfl d_mAt_25 ?_
    refine lv_iload_n hx hb d_mAt_28 rfl (lv_at hl 1 rfl) ?_
    refine va_iald hx hb hW.1 hW.2.1 8 0 rfl rfl (i := x1) (gk_in v_x1 (by omega) (by omega)) d_mAt_29 ?_
    exact X _ 0 H locs 0 0 30 ls heq hW d_mAt_30 rfl (Nat.le_of_ble_eq_true rfl) (Nat.le_of_ble_eq_true rfl)
def mm_mKind (x1 fl rn : Int32) (fs lt kk : Nat → Int32) (il sz : Int32) (tt : Nat → Int32) : Int32 × Int32 := if (mm_mIsPosition x1 sz) = 0 then (0, 1) else ((mm_mClassOf x1 rn fs lt kk il tt), 0)
def rm_mKind : Room := { frames := 1, cells := 0, slots := 0, locals := 24 }
set_option maxHeartbeats 4000000 in
set_option maxRecDepth 100000 in
theorem c_mKind (l : Launch) (D : va_G) (cI : ClassId) (cL cL : ClassId × ClassId) (g : Nat → Nat) (fl rn : Int32) (fs lt kk mk mf ml ma : Nat → Int32) (il sz : Int32) (tt fh : Nat → Int32) (hd x1 : Int32) (z_rn : Int) (v_rn : gk_v rn z_rn) (z_sz : Int) (v_sz : gk_v sz z_sz) (hsz : 0 ≤ z_sz ∧ z_sz ≤ 2000) (hrn : 0 ≤ z_rn ∧ z_rn ≤ 100) : gk_I l y_mKind (.code y_mKind b_mKind 2 (some .int) :: wA) rm_mKind D vwCl (gk_T cI cL) [.ref (g 0), .int x1] (wd_M cI cL g fl rn fs lt kk mk mf ml ma il sz tt fh hd) (fun (r : Int32) (u : Int32) => (r, u) = mm_mKind x1 fl rn fs lt kk il sz tt) (fun u => (wd_M cI cL g u rn fs lt kk mk mf ml ma il sz tt fh hd)) 0 0 := by
  refine gk_I.of (by decide) (Nat.le_of_ble_eq_true rfl) ?_
  intro p e s m below meth c A ls Q H locs hx hb hml hown hts hW hl X
  have hl : lv_has ls 2 [(0, .ref (g 0)), (1, .int x1)] := hl
  obtain ⟨tgt, heq⟩ : ∃ t, mm_mKind x1 fl rn fs lt kk il sz tt = t := ⟨_, rfl⟩
  rw [heq] at X
  rw [mm_mKind] at heq
  obtain ⟨z_x1, v_x1⟩ := gk_vex x1
  obtain ⟨z_il, v_il⟩ := gk_vex il
  refine lv_aload_n hx hb d_mKind_0 rfl (lv_at hl 0 rfl) ?_
  refine lv_aload_n hx hb d_mKind_1 rfl (lv_at hl 0 rfl) ?_
  refine lv_iload_n hx hb d_mKind_2 rfl (lv_at hl 1 rfl) ?_
  refine gk_goR hW [0, 1, 2, 3, 4, 5, 6, 7, 8, 9] rfl (va_runV (As := [.int x1]) (rest := [.ref (g 0)]) ⟨hx, hb, hml, hown, hts⟩ (c_mIsPosition l D cI cL cL g fl rn fs lt kk mk mf ml ma il sz tt fh hd x1 _) (gk_cwV hts w_214 w_215 w_216 w_145 k_mIsPosition rfl e_mIsPosition rfl rfl ⟨Nat.le_of_ble_eq_true rfl, Nat.le_of_ble_eq_true rfl⟩) (gk_preV hW [0, 1, 2, 3, 4, 5, 6, 7, 8, 9] rfl rfl rfl rfl) rfl rfl hl.1 rfl (lv_room (Nat.le_of_ble_eq_true rfl)) d_mKind_3 ⟨Nat.le_of_ble_eq_true rfl, Nat.le_of_ble_eq_true rfl⟩) (fun H locs hW => ?_)
  refine lv_if_eq (tgt := 13) hx hb d_mKind_6 (by decide) (fun c_1 => ?_) (fun c_1 => ?_)
  · replace heq := (if_pos c_1).symm.trans heq
    refine lv_iconst (v := 1) hx hb d_mKind_13 (by decide) ?_
    refine gk_goI (wr := []) hW [0, 1, 2, 3, 4, 5, 6, 7, 8, 9] [] rfl rfl (by decide) (by decide) (va_runV (As := [.int 1]) (rest := []) ⟨hx, hb, hml, hown, hts⟩ (c_mRefused l D cI cL cL g fl rn fs lt kk mk mf ml ma il sz tt fh hd 1 _) (gk_cwV hts w_146 w_147 w_148 w_145 k_mRefused rfl e_mRefused rfl rfl ⟨Nat.le_of_ble_eq_true rfl, Nat.le_of_ble_eq_true rfl⟩) (gk_preV hW [0, 1, 2, 3, 4, 5, 6, 7, 8, 9] rfl rfl rfl rfl) rfl rfl hl.1 rfl (lv_room (Nat.le_of_ble_eq_true rfl)) d_mKind_14 ⟨Nat.le_of_ble_eq_true rfl, Nat.le_of_ble_eq_true rfl⟩) (fun r_2 u H locs p_4 hW => ?_)
    obtain ⟨rfl, rfl⟩ : r_2 = 1 ∧ u = 1 := Prod.mk.inj (p_4.trans (show (mm_mRefused 1 fl) = (1, 1) from rfl))
    have hW : gk_W D vwCl (gk_T cI cL) s A H locs (wd_M cI cL g 1 rn fs lt kk mk mf ml ma il sz tt fh hd) := hW.re [0, 1, 2, 3, 4, 5, 6, 7, 8, 9] (by decide) rfl
    refine lv_if_eq (tgt := 24) hx hb d_mKind_17 (by decide) (fun c_5 => absurd c_5 (by decide)) (fun _ => ?_)
    refine lv_iconst (v := 0) hx hb d_mKind_20 (by decide) ?_
    refine lv_goto (tgt := 29) hx hb d_mKind_21 (by decide) ?_
    exact X _ 1 H locs 0 0 29 ls heq hW d_mKind_29 rfl (Nat.le_of_ble_eq_true rfl) (Nat.le_of_ble_eq_true rfl)
  · replace heq := (if_neg c_1).symm.trans heq
    have hin := mm_mIsPosition_in c_1 v_x1 v_sz
    refine lv_iconst (v := 0) hx hb d_mKind_9 (by decide) ?_
    refine lv_goto (tgt := 14) hx hb d_mKind_10 (by decide) ?_
    refine gk_goI (wr := []) hW [0, 1, 2, 3, 4, 5, 6, 7, 8, 9] [] rfl rfl (by decide) (by decide) (va_runV (As := [.int 0]) (rest := []) ⟨hx, hb, hml, hown, hts⟩ (c_mRefused l D cI cL cL g fl rn fs lt kk mk mf ml ma il sz tt fh hd 0 _) (gk_cwV hts w_146 w_147 w_148 w_145 k_mRefused rfl e_mRefused rfl rfl ⟨Nat.le_of_ble_eq_true rfl, Nat.le_of_ble_eq_true rfl⟩) (gk_preV hW [0, 1, 2, 3, 4, 5, 6, 7, 8, 9] rfl rfl rfl rfl) rfl rfl hl.1 rfl (lv_room (Nat.le_of_ble_eq_true rfl)) d_mKind_14 ⟨Nat.le_of_ble_eq_true rfl, Nat.le_of_ble_eq_true rfl⟩) (fun r_6 u H locs p_8 hW => ?_)
    obtain ⟨rfl, rfl⟩ : r_6 = 0 ∧ u = 0 := Prod.mk.inj (p_8.trans (show (mm_mRefused 0 fl) = (0, 0) from rfl))
    have hW : gk_W D vwCl (gk_T cI cL) s A H locs (wd_M cI cL g 0 rn fs lt kk mk mf ml ma il sz tt fh hd) := hW.re [0, 1, 2, 3, 4, 5, 6, 7, 8, 9] (by decide) rfl
    refine lv_if_eq (tgt := 24) hx hb d_mKind_17 (by decide) (fun _ => ?_) (fun c_9 => absurd c_9 (by decide))
    refine lv_aload_n hx hb d_mKind_24 rfl (lv_at hl 0 rfl) ?_
    refine lv_iload_n hx hb d_mKind_25 rfl (lv_at hl 1 rfl) ?_
    refine gk_goR hW [0, 1, 2, 3, 4, 5, 6, 7, 8, 9] rfl (va_runV (As := [.int x1]) (rest := []) ⟨hx, hb, hml, hown, hts⟩ (c_mClassOf l D cI cL cL g 0 rn fs lt kk mk mf ml ma il sz tt fh hd x1 z_rn v_rn z_x1 v_x1 (by omega) (by omega) _) (gk_cwV hts w_167 w_168 w_169 w_145 k_mClassOf rfl e_mClassOf rfl rfl ⟨Nat.le_of_ble_eq_true rfl, Nat.le_of_ble_eq_true rfl⟩) (gk_preV hW [0, 1, 2, 3, 4, 5, 6, 7, 8, 9] rfl rfl rfl rfl) rfl rfl hl.1 rfl (lv_room (Nat.le_of_ble_eq_true rfl)) d_mKind_26 ⟨Nat.le_of_ble_eq_true rfl, Nat.le_of_ble_eq_true rfl⟩) (fun H locs hW => ?_)
    exact X _ 0 H locs 0 0 29 ls heq hW d_mKind_29 rfl (Nat.le_of_ble_eq_true rfl) (Nat.le_of_ble_eq_true rfl)
def mm_mBreaks (x1 fl rn : Int32) (fs lt kk mk mf ml ma : Nat → Int32) (il sz : Int32) (tt : Nat → Int32) (hd : Int32) : Int32 × Int32 × Int32 := if (mm_mIsPlace x1 sz) = 0 then (0, 1, hd) else (match (mm_mLook x1 rn fs lt kk mk mf ml ma il sz tt hd) with | (r_10, u_11) => (u_11, 0, u_11))
def rm_mBreaks : Room := { frames := 7, cells := 0, slots := 0, locals := 164 }
set_option maxHeartbeats 4000000 in
set_option maxRecDepth 100000 in
theorem c_mBreaks (l : Launch) (D : va_G) (cI : ClassId) (cL cL : ClassId × ClassId) (g : Nat → Nat) (fl rn : Int32) (fs lt kk mk mf ml ma : Nat → Int32) (il sz : Int32) (tt fh : Nat → Int32) (hd x1 : Int32) (z_rn : Int) (v_rn : gk_v rn z_rn) (z_sz : Int) (v_sz : gk_v sz z_sz) (hsz : 0 ≤ z_sz ∧ z_sz ≤ 2000) (hrn : 0 ≤ z_rn ∧ z_rn ≤ 100) (hmk : ∀ i : Nat, i < 2 → ∃ z : Int, gk_v (mk i) z ∧ 0 ≤ z ∧ z ≤ 40) (hma : ∀ i : Nat, ma i = 0 ∨ ma i = 1) : gk_I l y_mBreaks (.code y_mBreaks b_mBreaks 2 (some .int) :: wA) rm_mBreaks D vwCl (gk_T cI cL) [.ref (g 0), .int x1] (wd_M cI cL g fl rn fs lt kk mk mf ml ma il sz tt fh hd) (fun (r : Int32) (u : Int32 × Int32) => (r, u) = mm_mBreaks x1 fl rn fs lt kk mk mf ml ma il sz tt hd) (fun u => (wd_M cI cL g u.1 rn fs lt kk mk mf ml ma il sz tt fh u.2)) 0 0 := by
  refine gk_I.of (by decide) (Nat.le_of_ble_eq_true rfl) ?_
  intro p e s m below meth c A ls Q H locs hx hb hml hown hts hW hl X
  have hl : lv_has ls 2 [(0, .ref (g 0)), (1, .int x1)] := hl
  obtain ⟨tgt, heq⟩ : ∃ t, mm_mBreaks x1 fl rn fs lt kk mk mf ml ma il sz tt hd = t := ⟨_, rfl⟩
  rw [heq] at X
  rw [mm_mBreaks] at heq
  obtain ⟨z_x1, v_x1⟩ := gk_vex x1
  obtain ⟨z_il, v_il⟩ := gk_vex il
  obtain ⟨z_hd, v_hd⟩ := gk_vex hd
  refine lv_aload_n hx hb d_mBreaks_0 rfl (lv_at hl 0 rfl) ?_
  refine lv_aload_n hx hb d_mBreaks_1 rfl (lv_at hl 0 rfl) ?_
  refine lv_iload_n hx hb d_mBreaks_2 rfl (lv_at hl 1 rfl) ?_
  refine gk_goR hW [0, 1, 2, 3, 4, 5, 6, 7, 8, 9] rfl (va_runV (As := [.int x1]) (rest := [.ref (g 0)]) ⟨hx, hb, hml, hown, hts⟩ (c_mIsPlace l D cI cL cL g fl rn fs lt kk mk mf ml ma il sz tt fh hd x1 _) (gk_cwV hts w_217 w_218 w_219 w_145 k_mIsPlace rfl e_mIsPlace rfl rfl ⟨Nat.le_of_ble_eq_true rfl, Nat.le_of_ble_eq_true rfl⟩) (gk_preV hW [0, 1, 2, 3, 4, 5, 6, 7, 8, 9] rfl rfl rfl rfl) rfl rfl hl.1 rfl (lv_room (Nat.le_of_ble_eq_true rfl)) d_mBreaks_3 ⟨Nat.le_of_ble_eq_true rfl, Nat.le_of_ble_eq_true rfl⟩) (fun H locs hW => ?_)
  refine lv_if_eq (tgt := 13) hx hb d_mBreaks_6 (by decide) (fun c_1 => ?_) (fun c_1 => ?_)
  · replace heq := (if_pos c_1).symm.trans heq
    refine lv_iconst (v := 1) hx hb d_mBreaks_13 (by decide) ?_
    refine gk_goI (wr := []) hW [0, 1, 2, 3, 4, 5, 6, 7, 8, 9] [] rfl rfl (by decide) (by decide) (va_runV (As := [.int 1]) (rest := []) ⟨hx, hb, hml, hown, hts⟩ (c_mRefused l D cI cL cL g fl rn fs lt kk mk mf ml ma il sz tt fh hd 1 _) (gk_cwV hts w_146 w_147 w_148 w_145 k_mRefused rfl e_mRefused rfl rfl ⟨Nat.le_of_ble_eq_true rfl, Nat.le_of_ble_eq_true rfl⟩) (gk_preV hW [0, 1, 2, 3, 4, 5, 6, 7, 8, 9] rfl rfl rfl rfl) rfl rfl hl.1 rfl (lv_room (Nat.le_of_ble_eq_true rfl)) d_mBreaks_14 ⟨Nat.le_of_ble_eq_true rfl, Nat.le_of_ble_eq_true rfl⟩) (fun r_2 u H locs p_4 hW => ?_)
    obtain ⟨rfl, rfl⟩ : r_2 = 1 ∧ u = 1 := Prod.mk.inj (p_4.trans (show (mm_mRefused 1 fl) = (1, 1) from rfl))
    have hW : gk_W D vwCl (gk_T cI cL) s A H locs (wd_M cI cL g 1 rn fs lt kk mk mf ml ma il sz tt fh hd) := hW.re [0, 1, 2, 3, 4, 5, 6, 7, 8, 9] (by decide) rfl
    refine lv_if_eq (tgt := 22) hx hb d_mBreaks_17 (by decide) (fun c_5 => absurd c_5 (by decide)) (fun _ => ?_)
    refine lv_iconst (v := 0) hx hb d_mBreaks_20 (by decide) ?_
    exact X _ (1, hd) H locs 0 0 21 ls heq hW d_mBreaks_21 rfl (Nat.le_of_ble_eq_true rfl) (Nat.le_of_ble_eq_true rfl)
  · replace heq := (if_neg c_1).symm.trans heq
    have hin := mm_mIsPlace_in c_1 v_x1 v_sz
    refine lv_iconst (v := 0) hx hb d_mBreaks_9 (by decide) ?_
    refine lv_goto (tgt := 14) hx hb d_mBreaks_10 (by decide) ?_
    refine gk_goI (wr := []) hW [0, 1, 2, 3, 4, 5, 6, 7, 8, 9] [] rfl rfl (by decide) (by decide) (va_runV (As := [.int 0]) (rest := []) ⟨hx, hb, hml, hown, hts⟩ (c_mRefused l D cI cL cL g fl rn fs lt kk mk mf ml ma il sz tt fh hd 0 _) (gk_cwV hts w_146 w_147 w_148 w_145 k_mRefused rfl e_mRefused rfl rfl ⟨Nat.le_of_ble_eq_true rfl, Nat.le_of_ble_eq_true rfl⟩) (gk_preV hW [0, 1, 2, 3, 4, 5, 6, 7, 8, 9] rfl rfl rfl rfl) rfl rfl hl.1 rfl (lv_room (Nat.le_of_ble_eq_true rfl)) d_mBreaks_14 ⟨Nat.le_of_ble_eq_true rfl, Nat.le_of_ble_eq_true rfl⟩) (fun r_6 u H locs p_8 hW => ?_)
    obtain ⟨rfl, rfl⟩ : r_6 = 0 ∧ u = 0 := Prod.mk.inj (p_8.trans (show (mm_mRefused 0 fl) = (0, 0) from rfl))
    have hW : gk_W D vwCl (gk_T cI cL) s A H locs (wd_M cI cL g 0 rn fs lt kk mk mf ml ma il sz tt fh hd) := hW.re [0, 1, 2, 3, 4, 5, 6, 7, 8, 9] (by decide) rfl
    refine lv_if_eq (tgt := 22) hx hb d_mBreaks_17 (by decide) (fun _ => ?_) (fun c_9 => absurd c_9 (by decide))
    refine lv_aload_n hx hb d_mBreaks_22 rfl (lv_at hl 0 rfl) ?_
    refine lv_iload_n hx hb d_mBreaks_23 rfl (lv_at hl 1 rfl) ?_
    refine gk_goI (wr := []) hW [0, 1, 2, 3, 4, 5, 6, 7, 8, 9] [] rfl rfl (by decide) (by decide) (va_runV (As := [.int x1]) (rest := []) ⟨hx, hb, hml, hown, hts⟩ (c_mLook l D cI cL cL g 0 rn fs lt kk mk mf ml ma il sz tt fh hd x1 z_rn v_rn z_sz v_sz z_x1 v_x1 (by omega) (by omega) (by omega) hmk hma _) (gk_cwV hts w_220 w_221 w_222 w_145 k_mLook rfl e_mLook rfl rfl ⟨Nat.le_of_ble_eq_true rfl, Nat.le_of_ble_eq_true rfl⟩) (gk_preV hW [0, 1, 2, 3, 4, 5, 6, 7, 8, 9] rfl rfl rfl rfl) rfl rfl hl.1 rfl (lv_room (Nat.le_of_ble_eq_true rfl)) d_mBreaks_24 ⟨Nat.le_of_ble_eq_true rfl, Nat.le_of_ble_eq_true rfl⟩) (fun r_10 u H locs p_12 hW => ?_)
    obtain ⟨u_11, rfl⟩ : ∃ z, z = u := ⟨u, rfl⟩
    have hW : gk_W D vwCl (gk_T cI cL) s A H locs (wd_M cI cL g 0 rn fs lt kk mk mf ml ma il sz tt fh u_11) := hW.re [0, 1, 2, 3, 4, 5, 6, 7, 8, 9] (by decide) rfl
    rw [← p_12] at heq
    dsimp only at heq
    refine lv_pop hx hb d_mBreaks_27 rfl ?_
    refine lv_aload_n hx hb d_mBreaks_28 rfl (lv_at hl 0 rfl) ?_
    refine va_get (D := D) (C := R_M) (T := F_M) (N := 14) hx hb hts i_M hown hW.1 hW.2.1 0 rfl rfl 13 (by decide) (hts _ w_139) (fun _ h9 => h9) rfl d_mBreaks_29 ?_
    exact X _ (0, u_11) H locs 0 0 32 ls heq hW d_mBreaks_32 rfl (Nat.le_of_ble_eq_true rfl) (Nat.le_of_ble_eq_true rfl)
def mm_mRule (x1 fl rn : Int32) (fs lt kk mk mf ml ma : Nat → Int32) (il sz : Int32) (tt : Nat → Int32) (hd : Int32) : Int32 × Int32 × Int32 := if (mm_mIsPlace x1 sz) = 0 then (0, 1, hd) else (match (mm_mLook x1 rn fs lt kk mk mf ml ma il sz tt hd) with | (r_10, u_11) => (r_10, 0, u_11))
def rm_mRule : Room := { frames := 7, cells := 0, slots := 0, locals := 164 }
set_option maxHeartbeats 4000000 in
set_option maxRecDepth 100000 in
theorem c_mRule (l : Launch) (D : va_G) (cI : ClassId) (cL cL : ClassId × ClassId) (g : Nat → Nat) (fl rn : Int32) (fs lt kk mk mf ml ma : Nat → Int32) (il sz : Int32) (tt fh : Nat → Int32) (hd x1 : Int32) (z_rn : Int) (v_rn : gk_v rn z_rn) (z_sz : Int) (v_sz : gk_v sz z_sz) (hsz : 0 ≤ z_sz ∧ z_sz ≤ 2000) (hrn : 0 ≤ z_rn ∧ z_rn ≤ 100) (hmk : ∀ i : Nat, i < 2 → ∃ z : Int, gk_v (mk i) z ∧ 0 ≤ z ∧ z ≤ 40) (hma : ∀ i : Nat, ma i = 0 ∨ ma i = 1) : gk_I l y_mRule (.code y_mRule b_mRule 2 (some .int) :: wA) rm_mRule D vwCl (gk_T cI cL) [.ref (g 0), .int x1] (wd_M cI cL g fl rn fs lt kk mk mf ml ma il sz tt fh hd) (fun (r : Int32) (u : Int32 × Int32) => (r, u) = mm_mRule x1 fl rn fs lt kk mk mf ml ma il sz tt hd) (fun u => (wd_M cI cL g u.1 rn fs lt kk mk mf ml ma il sz tt fh u.2)) 0 0 := by
  refine gk_I.of (by decide) (Nat.le_of_ble_eq_true rfl) ?_
  intro p e s m below meth c A ls Q H locs hx hb hml hown hts hW hl X
  have hl : lv_has ls 2 [(0, .ref (g 0)), (1, .int x1)] := hl
  obtain ⟨tgt, heq⟩ : ∃ t, mm_mRule x1 fl rn fs lt kk mk mf ml ma il sz tt hd = t := ⟨_, rfl⟩
  rw [heq] at X
  rw [mm_mRule] at heq
  obtain ⟨z_x1, v_x1⟩ := gk_vex x1
  obtain ⟨z_il, v_il⟩ := gk_vex il
  refine lv_aload_n hx hb d_mRule_0 rfl (lv_at hl 0 rfl) ?_
  refine lv_aload_n hx hb d_mRule_1 rfl (lv_at hl 0 rfl) ?_
  refine lv_iload_n hx hb d_mRule_2 rfl (lv_at hl 1 rfl) ?_
  refine gk_goR hW [0, 1, 2, 3, 4, 5, 6, 7, 8, 9] rfl (va_runV (As := [.int x1]) (rest := [.ref (g 0)]) ⟨hx, hb, hml, hown, hts⟩ (c_mIsPlace l D cI cL cL g fl rn fs lt kk mk mf ml ma il sz tt fh hd x1 _) (gk_cwV hts w_217 w_218 w_219 w_145 k_mIsPlace rfl e_mIsPlace rfl rfl ⟨Nat.le_of_ble_eq_true rfl, Nat.le_of_ble_eq_true rfl⟩) (gk_preV hW [0, 1, 2, 3, 4, 5, 6, 7, 8, 9] rfl rfl rfl rfl) rfl rfl hl.1 rfl (lv_room (Nat.le_of_ble_eq_true rfl)) d_mRule_3 ⟨Nat.le_of_ble_eq_true rfl, Nat.le_of_ble_eq_true rfl⟩) (fun H locs hW => ?_)
  refine lv_if_eq (tgt := 13) hx hb d_mRule_6 (by decide) (fun c_1 => ?_) (fun c_1 => ?_)
  · replace heq := (if_pos c_1).symm.trans heq
    refine lv_iconst (v := 1) hx hb d_mRule_13 (by decide) ?_
    refine gk_goI (wr := []) hW [0, 1, 2, 3, 4, 5, 6, 7, 8, 9] [] rfl rfl (by decide) (by decide) (va_runV (As := [.int 1]) (rest := []) ⟨hx, hb, hml, hown, hts⟩ (c_mRefused l D cI cL cL g fl rn fs lt kk mk mf ml ma il sz tt fh hd 1 _) (gk_cwV hts w_146 w_147 w_148 w_145 k_mRefused rfl e_mRefused rfl rfl ⟨Nat.le_of_ble_eq_true rfl, Nat.le_of_ble_eq_true rfl⟩) (gk_preV hW [0, 1, 2, 3, 4, 5, 6, 7, 8, 9] rfl rfl rfl rfl) rfl rfl hl.1 rfl (lv_room (Nat.le_of_ble_eq_true rfl)) d_mRule_14 ⟨Nat.le_of_ble_eq_true rfl, Nat.le_of_ble_eq_true rfl⟩) (fun r_2 u H locs p_4 hW => ?_)
    obtain ⟨rfl, rfl⟩ : r_2 = 1 ∧ u = 1 := Prod.mk.inj (p_4.trans (show (mm_mRefused 1 fl) = (1, 1) from rfl))
    have hW : gk_W D vwCl (gk_T cI cL) s A H locs (wd_M cI cL g 1 rn fs lt kk mk mf ml ma il sz tt fh hd) := hW.re [0, 1, 2, 3, 4, 5, 6, 7, 8, 9] (by decide) rfl
    refine lv_if_eq (tgt := 24) hx hb d_mRule_17 (by decide) (fun c_5 => absurd c_5 (by decide)) (fun _ => ?_)
    refine lv_iconst (v := 0) hx hb d_mRule_20 (by decide) ?_
    refine lv_goto (tgt := 29) hx hb d_mRule_21 (by decide) ?_
    exact X _ (1, hd) H locs 0 0 29 ls heq hW d_mRule_29 rfl (Nat.le_of_ble_eq_true rfl) (Nat.le_of_ble_eq_true rfl)
  · replace heq := (if_neg c_1).symm.trans heq
    have hin := mm_mIsPlace_in c_1 v_x1 v_sz
    refine lv_iconst (v := 0) hx hb d_mRule_9 (by decide) ?_
    refine lv_goto (tgt := 14) hx hb d_mRule_10 (by decide) ?_
    refine gk_goI (wr := []) hW [0, 1, 2, 3, 4, 5, 6, 7, 8, 9] [] rfl rfl (by decide) (by decide) (va_runV (As := [.int 0]) (rest := []) ⟨hx, hb, hml, hown, hts⟩ (c_mRefused l D cI cL cL g fl rn fs lt kk mk mf ml ma il sz tt fh hd 0 _) (gk_cwV hts w_146 w_147 w_148 w_145 k_mRefused rfl e_mRefused rfl rfl ⟨Nat.le_of_ble_eq_true rfl, Nat.le_of_ble_eq_true rfl⟩) (gk_preV hW [0, 1, 2, 3, 4, 5, 6, 7, 8, 9] rfl rfl rfl rfl) rfl rfl hl.1 rfl (lv_room (Nat.le_of_ble_eq_true rfl)) d_mRule_14 ⟨Nat.le_of_ble_eq_true rfl, Nat.le_of_ble_eq_true rfl⟩) (fun r_6 u H locs p_8 hW => ?_)
    obtain ⟨rfl, rfl⟩ : r_6 = 0 ∧ u = 0 := Prod.mk.inj (p_8.trans (show (mm_mRefused 0 fl) = (0, 0) from rfl))
    have hW : gk_W D vwCl (gk_T cI cL) s A H locs (wd_M cI cL g 0 rn fs lt kk mk mf ml ma il sz tt fh hd) := hW.re [0, 1, 2, 3, 4, 5, 6, 7, 8, 9] (by decide) rfl
    refine lv_if_eq (tgt := 24) hx hb d_mRule_17 (by decide) (fun _ => ?_) (fun c_9 => absurd c_9 (by decide))
    refine lv_aload_n hx hb d_mRule_24 rfl (lv_at hl 0 rfl) ?_
    refine lv_iload_n hx hb d_mRule_25 rfl (lv_at hl 1 rfl) ?_
    refine gk_goI (wr := []) hW [0, 1, 2, 3, 4, 5, 6, 7, 8, 9] [] rfl rfl (by decide) (by decide) (va_runV (As := [.int x1]) (rest := []) ⟨hx, hb, hml, hown, hts⟩ (c_mLook l D cI cL cL g 0 rn fs lt kk mk mf ml ma il sz tt fh hd x1 z_rn v_rn z_sz v_sz z_x1 v_x1 (by omega) (by omega) (by omega) hmk hma _) (gk_cwV hts w_220 w_221 w_222 w_145 k_mLook rfl e_mLook rfl rfl ⟨Nat.le_of_ble_eq_true rfl, Nat.le_of_ble_eq_true rfl⟩) (gk_preV hW [0, 1, 2, 3, 4, 5, 6, 7, 8, 9] rfl rfl rfl rfl) rfl rfl hl.1 rfl (lv_room (Nat.le_of_ble_eq_true rfl)) d_mRule_26 ⟨Nat.le_of_ble_eq_true rfl, Nat.le_of_ble_eq_true rfl⟩) (fun r_10 u H locs p_12 hW => ?_)
    obtain ⟨u_11, rfl⟩ : ∃ z, z = u := ⟨u, rfl⟩
    have hW : gk_W D vwCl (gk_T cI cL) s A H locs (wd_M cI cL g 0 rn fs lt kk mk mf ml ma il sz tt fh u_11) := hW.re [0, 1, 2, 3, 4, 5, 6, 7, 8, 9] (by decide) rfl
    rw [← p_12] at heq
    dsimp only at heq
    exact X _ (0, u_11) H locs 0 0 29 ls heq hW d_mRule_29 rfl (Nat.le_of_ble_eq_true rfl) (Nat.le_of_ble_eq_true rfl)
