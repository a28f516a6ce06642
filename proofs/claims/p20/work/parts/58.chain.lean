set_option maxHeartbeats 8000000 in
set_option maxRecDepth 100000 in
theorem c_X9_chain (l : Launch) (dC : Nat → ClassId) (dI : Nat → Nat → Nat) (g : Nat → Nat) (c : Nat → ClassId) (adK adV : Nat → Nat) (v : Nat → Int32) (F : Nat → Nat → Int32) (rc sz : Nat) (p0 : Int32) (p1 : Int32) (hg : injX g) (hI : IX v F) (h0 : 0 ≤ p0.toInt ∧ p0.toInt ≤ 99) (h1 : 0 ≤ p1.toInt ∧ p1.toInt ≤ 499) : Met l yX9_chain (Cond.code yX9_chain cX9_chain 6 none :: wA) ({ frames := 1, cells := 0, slots := 0, locals := 40 }) (va_Pc [.ref (g 4), .int p0, .int p1] (PX dC dI g c adK adV v F rc sz)) (va_Qv (fun (u : StX) => IX u.1 u.2.1 ∧ alX u.1 u.2.1 = alX v F ∧ u.2.2 = rc ∧ (∀ k, k ∉ ([] : List Nat) → u.1 k = v k) ∧ True) (BX dC dI g c) (AX g sz)) 0 0 (AX g sz) := by
  sorry
set_option maxHeartbeats 8000000 in
set_option maxRecDepth 100000 in
theorem c_X9_add (l : Launch) (dC : Nat → ClassId) (dI : Nat → Nat → Nat) (g : Nat → Nat) (c : Nat → ClassId) (adK adV : Nat → Nat) (v : Nat → Int32) (F : Nat → Nat → Int32) (rc sz : Nat) (p0 : Int32) (p1 : Int32) (p2 : Int32) (p3 : Int32) (p4 : Int32) (hg : injX g) (hI : IX v F) (h0 : 0 ≤ p0.toInt ∧ p0.toInt ≤ 99) : Met l yX9_add (Cond.code yX9_add cX9_add 6 (some .int) :: wA) ({ frames := 2, cells := 0, slots := 0, locals := 80 }) (va_Pc [.ref (g 4), .int p0, .int p1, .int p2, .int p3, .int p4] (PX dC dI g c adK adV v F rc sz)) (va_Qi (fun (r : Int32) (u : StX) => IX u.1 u.2.1 ∧ alX u.1 u.2.1 = alX v F ∧ u.2.2 = rc ∧ (∀ k, k ∉ ([80] : List Nat) → u.1 k = v k) ∧ -1 ≤ r.toInt ∧ r.toInt ≤ 499) (BX dC dI g c) (AX g sz)) 0 0 (AX g sz) := by
  sorry
