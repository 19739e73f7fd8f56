-- whole numbers of 32 bits, as integers
theorem gn_lt {x y : Int32} : x < y ↔ x.toInt < y.toInt := Int32.lt_iff_toInt_lt
theorem gn_le {x y : Int32} : x ≤ y ↔ x.toInt ≤ y.toInt := Int32.le_iff_toInt_le
theorem gn_add {x y : Int32} (h1 : -2147483648 ≤ x.toInt + y.toInt) (h2 : x.toInt + y.toInt ≤ 2147483647) : (x + y).toInt = x.toInt + y.toInt := by
  rw [Int32.toInt_add]
  exact Int.bmod_eq_of_le (by omega) (by omega)
theorem gn_sub {x y : Int32} (h1 : -2147483648 ≤ x.toInt - y.toInt) (h2 : x.toInt - y.toInt ≤ 2147483647) : (x - y).toInt = x.toInt - y.toInt := by
  rw [Int32.toInt_sub]
  exact Int.bmod_eq_of_le (by omega) (by omega)
theorem gn_in {x : Int32} {n : Nat} (h1 : 0 ≤ x.toInt) (h2 : x.toInt < (n : Int)) : vp_in x n := vp_in_iff.mpr ⟨h1, h2⟩
theorem gn_cl {x : Int32} (h : 0 ≤ x.toInt) : (x.toNatClampNeg : Int) = x.toInt := by
  show ((x.toInt.toNat : Nat) : Int) = x.toInt
  omega
theorem gn_0 : (0 : Int32).toInt = 0 := rfl
theorem gn_nn {x : Int32} (h : 0 ≤ x.toInt) : ¬ x < 0 := fun q => by
  have h1 := gn_lt.mp q
  have h0 : (0 : Int32).toInt = 0 := rfl
  omega
theorem gn_le2 {x y : Int32} {n : Nat} (h1 : 0 ≤ x.toInt) (h2 : 0 ≤ y.toInt) (h3 : x.toInt + y.toInt ≤ (n : Int)) : x.toNatClampNeg + y.toNatClampNeg ≤ n := by
  have e1 := gn_cl h1
  have e2 := gn_cl h2
  omega
theorem gn_b1 : (0 : Int32) ≤ 1 := by decide
-- a whole number of 32 bits and its integer: hidden from omega, which sees the integers alone
def gk_v (x : Int32) (z : Int) : Prop := x.toInt = z
theorem gk_vex (x : Int32) : ∃ z : Int, gk_v x z := ⟨_, rfl⟩
theorem gk_lt {x y : Int32} {a b : Int} (va : gk_v x a) (vb : gk_v y b) (h : x < y) : a < b := by
  have h1 := gn_lt.mp h
  rw [show x.toInt = a from va, show y.toInt = b from vb] at h1
  exact h1
theorem gk_le {x y : Int32} {a b : Int} (va : gk_v x a) (vb : gk_v y b) (h : x ≤ y) : a ≤ b := by
  have h1 := gn_le.mp h
  rw [show x.toInt = a from va, show y.toInt = b from vb] at h1
  exact h1
theorem gk_nlt {x y : Int32} {a b : Int} (va : gk_v x a) (vb : gk_v y b) (h : ¬ x < y) : b ≤ a := by
  have h1 := mt gn_lt.mpr h
  rw [show x.toInt = a from va, show y.toInt = b from vb] at h1
  exact Int.not_lt.mp h1
theorem gk_nle {x y : Int32} {a b : Int} (va : gk_v x a) (vb : gk_v y b) (h : ¬ x ≤ y) : b < a := by
  have h1 := mt gn_le.mpr h
  rw [show x.toInt = a from va, show y.toInt = b from vb] at h1
  exact Int.not_le.mp h1
theorem gk_eq {x y : Int32} {a b : Int} (va : gk_v x a) (vb : gk_v y b) (h : x = y) : a = b := by
  rw [← show x.toInt = a from va, ← show y.toInt = b from vb, h]
theorem gk_ne {x y : Int32} {a b : Int} (va : gk_v x a) (vb : gk_v y b) (h : ¬ x = y) : ¬ a = b := by
  rw [← show x.toInt = a from va, ← show y.toInt = b from vb]
  exact mt Int32.toInt_inj.mp h
theorem gk_inj {x y : Int32} {a : Int} (va : gk_v x a) (vb : gk_v y a) : x = y := Int32.toInt_inj.mp (va.trans vb.symm)
theorem gk_add {x y : Int32} {a b : Int} (va : gk_v x a) (vb : gk_v y b) (h1 : -2147483648 ≤ a + b) (h2 : a + b ≤ 2147483647) : ∃ z : Int, gk_v (x + y) z ∧ z = a + b := by
  refine ⟨a + b, ?_, rfl⟩
  have ea : x.toInt = a := va
  have eb : y.toInt = b := vb
  show (x + y).toInt = a + b
  rw [gn_add (by rw [ea, eb]; exact h1) (by rw [ea, eb]; exact h2), ea, eb]
theorem gk_sub {x y : Int32} {a b : Int} (va : gk_v x a) (vb : gk_v y b) (h1 : -2147483648 ≤ a - b) (h2 : a - b ≤ 2147483647) : ∃ z : Int, gk_v (x - y) z ∧ z = a - b := by
  refine ⟨a - b, ?_, rfl⟩
  have ea : x.toInt = a := va
  have eb : y.toInt = b := vb
  show (x - y).toInt = a - b
  rw [gn_sub (by rw [ea, eb]; exact h1) (by rw [ea, eb]; exact h2), ea, eb]
theorem gk_in {x : Int32} {a : Int} {n : Nat} (va : gk_v x a) (h1 : 0 ≤ a) (h2 : a < (n : Int)) : vp_in x n := gn_in (by rw [show x.toInt = a from va]; exact h1) (by rw [show x.toInt = a from va]; exact h2)
theorem gk_nn {x : Int32} {a : Int} (va : gk_v x a) (h : 0 ≤ a) : ¬ x < 0 := gn_nn (by rw [show x.toInt = a from va]; exact h)
theorem gk_le2 {x y : Int32} {a b : Int} {n : Nat} (va : gk_v x a) (vb : gk_v y b) (h1 : 0 ≤ a) (h2 : 0 ≤ b) (h3 : a + b ≤ (n : Int)) : x.toNatClampNeg + y.toNatClampNeg ≤ n := by
  have ea : x.toInt = a := va
  have eb : y.toInt = b := vb
  exact gn_le2 (by rw [ea]; exact h1) (by rw [eb]; exact h2) (by rw [ea, eb]; exact h3)
theorem gk_vn {n : Nat} (h : (n : Int) ≤ 2147483647) : gk_v (nI n) (n : Int) := nI_toInt (by omega)
theorem gk_bd {x : Int32} {a : Int} (va : gk_v x a) : -2147483648 ≤ a ∧ a ≤ 2147483647 := by
  have h1 := Int32.le_toInt x
  have h2 := Int32.toInt_lt x
  rw [show x.toInt = a from va] at h1 h2
  omega
theorem gz_n {x : Int32} (h : x = 0 ∨ x = 1) : narrow .boolean (.int x) = .int x := by rcases h with rfl | rfl <;> rfl
theorem gz_f {x : Int32} (h : x = 0 ∨ x = 1) : fits .boolean (.int x) = true := by rcases h with rfl | rfl <;> rfl
theorem gk_mul {x y : Int32} {a b : Int} (va : gk_v x a) (vb : gk_v y b) (h1 : -2147483648 ≤ a * b) (h2 : a * b ≤ 2147483647) : ∃ z : Int, gk_v (x * y) z ∧ z = a * b := by
  refine ⟨a * b, ?_, rfl⟩
  have ea : x.toInt = a := va
  have eb : y.toInt = b := vb
  show (x * y).toInt = a * b
  rw [Int32.toInt_mul, ea, eb]
  exact Int.bmod_eq_of_le (by omega) (by omega)
