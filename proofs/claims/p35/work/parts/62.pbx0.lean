def exL (Q : Nat → Int32 → Prop) : Prop := ∃ (j : Nat) (x : Int32), Q j x
def lrF (Lk Rn : Nat → Int32) (p i : Int32) : Int32 := if 0 ≤ i.toInt ∧ i.toInt < (Lk p.toNatClampNeg).toInt then Rn (4 * p.toInt + i.toInt).toNat else 0
theorem lr_in {Lk Rn : Nat → Int32} {p i z y : Int32} (h : 0 ≤ i.toInt ∧ i.toInt < (Lk p.toNatClampNeg).toInt) (hz : z = Rn y.toNatClampNeg) (hy : y.toInt = 4 * p.toInt + i.toInt) : lrF Lk Rn p i = z := by
  unfold lrF
  rw [if_pos h, hz, ← hy]
  rfl
theorem lr_out {Lk Rn : Nat → Int32} {p i : Int32} (h : ¬ (0 ≤ i.toInt ∧ i.toInt < (Lk p.toNatClampNeg).toInt)) : lrF Lk Rn p i = 0 := by
  unfold lrF
  rw [if_neg h]
def netF (Lk Rn : Nat → Int32) (n p i d : Int32) : Int32 := if (0 ≤ p.toInt ∧ p.toInt < n.toInt) ∧ (1 ≤ d.toInt ∧ d.toInt ≤ 999) ∧ (0 ≤ i.toInt ∧ i.toInt < (Lk p.toNatClampNeg).toInt) then (lrF Lk Rn p i - lrF Lk Rn p (i + 1)) * d else -2000000000
