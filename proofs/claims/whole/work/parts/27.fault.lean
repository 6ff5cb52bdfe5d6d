theorem fb_rng (x : Int32) : -2147483648 ≤ x.toInt ∧ x.toInt < 2147483648 := by
  have h1 := Int32.le_toInt x
  have h2 := Int32.toInt_lt x
  omega
theorem fb_bmod {z : Int} (h1 : -2147483648 ≤ z) (h2 : z < 2147483648) : z.bmod (2 ^ 32) = z := by
  rw [Int.bmod_eq_of_le (by omega) (by omega)]
theorem fb_addI {x y : Int32} (h1 : -2147483648 ≤ x.toInt + y.toInt) (h2 : x.toInt + y.toInt < 2147483648) : (x + y).toInt = x.toInt + y.toInt := by
  rw [Int32.toInt_add, fb_bmod h1 h2]
theorem fb_subI {x y : Int32} (h1 : -2147483648 ≤ x.toInt - y.toInt) (h2 : x.toInt - y.toInt < 2147483648) : (x - y).toInt = x.toInt - y.toInt := by
  rw [Int32.toInt_sub, fb_bmod h1 h2]
theorem fb_mulI {x y : Int32} (h1 : -2147483648 ≤ x.toInt * y.toInt) (h2 : x.toInt * y.toInt < 2147483648) : (x * y).toInt = x.toInt * y.toInt := by
  rw [Int32.toInt_mul, fb_bmod h1 h2]
theorem fb_negI {x : Int32} (h : x.toInt ≠ -2147483648) : (-x).toInt = -x.toInt := by
  have := fb_rng x
  rw [Int32.toInt_neg, fb_bmod (by omega) (by omega)]
/-! ===== faults; tapes ===== -/
def zfc (o : Option Nat) : Int32 := match o with
  | none => -1
  | some e => nI e
theorem zco_t {len : Nat} {tx : Nat → Nat} {a : Nat} (h : (zce len tx a).1 = true) : zco (zce len tx a) = nI (zce len tx a).2 := if_pos h
theorem zco_f {len : Nat} {tx : Nat → Nat} {a : Nat} (h : ¬ (zce len tx a).1 = true) : zco (zce len tx a) = -1 - nI (zce len tx a).2 := if_neg h
theorem zneg : ∀ n : Nat, n < 2147483647 → (-1 - nI n) < 0 := by
  intro n h
  rw [Int32.lt_iff_toInt_lt]
  have h1 := nI_toInt (n := n) (by omega)
  have h2 : (-1 - nI n : Int32).toInt = -1 - (n : Int) := by
    rw [fb_subI] <;> rw [h1] <;> simp <;> omega
  rw [h2]
  simp
  omega
theorem zneg2 (n : Nat) : (-1 : Int32) - (-1 - nI n) = nI n := by
  have : ∀ x : Int32, (-1 : Int32) - (-1 - x) = x := by
    intro x
    apply Int32.toBitVec_inj.mp
    simp only [Int32.toBitVec_sub]
    bv_omega
  exact this _
