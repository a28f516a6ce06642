theorem nnbv (x : Int32) : 0 ≤ x.toInt ↔ x.toBitVec.toNat < 2147483648 := by
  have h : x.toInt = x.toBitVec.toInt := rfl
  rw [h, BitVec.toInt_eq_toNat_cond]
  have := x.toBitVec.isLt
  split <;> omega
theorem nnbvE (x : Int32) (h : 0 ≤ x.toInt) : x.toInt = (x.toBitVec.toNat : Int) := by
  have h1 := (nnbv x).mp h
  have h2 : x.toInt = x.toBitVec.toInt := rfl
  rw [h2, BitVec.toInt_eq_toNat_cond, if_pos (by omega)]
theorem tor {x y z : Int32} (ez : z = x ||| y) (hx : 0 ≤ x.toInt) (hy : 0 ≤ y.toInt) : 0 ≤ z.toInt := by
  rw [nnbv] at *
  rw [ez, Int32.toBitVec_or, BitVec.toNat_or]
  exact Nat.or_lt_two_pow (n := 31) hx hy
theorem tand {x y z : Int32} (ez : z = x &&& y) (hy : 0 ≤ y.toInt) : 0 ≤ z.toInt ∧ z.toInt ≤ y.toInt := by
  have h1 := (nnbv y).mp hy
  have h2 : z.toBitVec.toNat ≤ y.toBitVec.toNat := by
    rw [ez, Int32.toBitVec_and, BitVec.toNat_and]
    exact Nat.and_le_right
  have h3 : 0 ≤ z.toInt := (nnbv z).mpr (by omega)
  refine ⟨h3, ?_⟩
  rw [nnbvE z h3, nnbvE y hy]
  omega
theorem tshl4 {x z : Int32} (ez : z = x <<< (4 &&& 31)) (hx : 0 ≤ x.toInt ∧ x.toInt ≤ 134217727) : 0 ≤ z.toInt := by
  have h1 : z.toBitVec.toNat = x.toBitVec.toNat * 2 ^ 4 % 2 ^ 32 := by rw [ez]; exact pk_shl x (4 &&& 31) 4 (by decide)
  have h2 := nnbvE x hx.1
  rw [nnbv]
  omega
def atX (v : Nat → Int32) (F : Nat → Nat → Int32) (q : Int32) : Int32 := if 0 ≤ q.toInt ∧ q.toInt < (v 100).toInt then F 39 q.toNatClampNeg else -1
theorem dg_step {v : Nat → Int32} {F : Nat → Nat → Int32} {p x y z : Int32} (hy : y.toInt = x.toInt + 1) (hz : z = p + x) (h : ∀ k : Int32, 0 ≤ k.toInt → k.toInt < x.toInt → 48 ≤ (atX v F (p + k)).toInt ∧ (atX v F (p + k)).toInt ≤ 57) (hd : 48 ≤ (atX v F z).toInt ∧ (atX v F z).toInt ≤ 57) : ∀ k : Int32, 0 ≤ k.toInt → k.toInt < y.toInt → 48 ≤ (atX v F (p + k)).toInt ∧ (atX v F (p + k)).toInt ≤ 57 := by
  intro k h0 h1
  by_cases hk : k.toInt < x.toInt
  · exact h k h0 hk
  · obtain rfl : k = x := Int32.toInt_inj.mp (by omega)
    rw [← hz]; exact hd

