theorem tshr4 {x z : Int32} (ez : z = x >>> (4 &&& 31)) (hx : 0 ≤ x.toInt) : 0 ≤ z.toInt ∧ z.toInt ≤ 134217727 := by
  have h1 : z.toInt = x.toInt >>> 4 := by rw [ez]; exact pk_shr x (4 &&& 31) 4 (by decide)
  have h2 := i32_rng x
  rw [Int.shiftRight_eq_div_pow] at h1
  have h3 : ((2 ^ 4 : Nat) : Int) = 16 := by decide
  rw [h3] at h1
  omega
theorem nz64 {x : Int32} {z : Int64} (ez : z = x.toInt64) {a : Int} (ha : x.toInt = a) (h : ¬ a = 0) : ¬ z = 0 := by
  intro q
  apply h
  rw [← ha, ← Int32.toInt_toInt64, ← ez, q]
  rfl

