set_option maxHeartbeats 8000000 in
set_option maxRecDepth 100000 in
theorem c_X6_finish (l : Launch) (dC : Nat → ClassId) (dI : Nat → Nat → Nat) (g : Nat → Nat) (c : Nat → ClassId) (adK adV : Nat → Nat) (v : Nat → Int32) (F : Nat → Nat → Int32) (rc sz : Nat) (p0 : Int32) (p1 : Int32) (hg : injX g) (hI : IX v F) (h0 : 0 ≤ p0.toInt ∧ p0.toInt ≤ 19) (h1 : 0 ≤ p1.toInt ∧ p1.toInt ≤ 9) : Met l yX6_finish (Cond.code yX6_finish cX6_finish 3 none :: wA) ({ frames := 1, cells := 0, slots := 0, locals := 40 }) (va_Pc [.ref (g 8), .int p0, .int p1] (PX dC dI g c adK adV v F rc sz)) (va_Qv (fun (u : StX) => IX u.1 u.2.1 ∧ alX u.1 u.2.1 = alX v F ∧ u.2.2 = rc ∧ (∀ k, k ∉ ([] : List Nat) → u.1 k = v k) ∧ True) (BX dC dI g c) (AX g sz)) 0 0 (AX g sz) := by
  sorry
set_option maxHeartbeats 8000000 in
set_option maxRecDepth 100000 in
theorem c_X6_isDue (l : Launch) (dC : Nat → ClassId) (dI : Nat → Nat → Nat) (g : Nat → Nat) (c : Nat → ClassId) (adK adV : Nat → Nat) (v : Nat → Int32) (F : Nat → Nat → Int32) (rc sz : Nat) (p0 : Int32) (p1 : Int32) (hg : injX g) (hI : IX v F) (h0 : 0 ≤ p0.toInt ∧ p0.toInt ≤ 19) (h1 : 0 ≤ p1.toInt ∧ p1.toInt ≤ 9) : Met l yX6_isDue (Cond.code yX6_isDue cX6_isDue 3 (some .boolean) :: wA) ({ frames := 2, cells := 0, slots := 0, locals := 80 }) (va_Pc [.ref (g 8), .int p0, .int p1] (PX dC dI g c adK adV v F rc sz)) (va_Qi (fun (r : Int32) (u : Unit) => 0 ≤ r.toInt ∧ r.toInt ≤ 1) (fun (_ : Unit) => BX dC dI g c (v, F, rc)) (AX g sz)) 0 0 (AX g sz) := by
  sorry
set_option maxHeartbeats 8000000 in
set_option maxRecDepth 100000 in
theorem c_X6_countDue (l : Launch) (dC : Nat → ClassId) (dI : Nat → Nat → Nat) (g : Nat → Nat) (c : Nat → ClassId) (adK adV : Nat → Nat) (v : Nat → Int32) (F : Nat → Nat → Int32) (rc sz : Nat) (p0 : Int32) (hg : injX g) (hI : IX v F) (h0 : 0 ≤ p0.toInt ∧ p0.toInt ≤ 9) : Met l yX6_countDue (Cond.code yX6_countDue cX6_countDue 4 (some .int) :: wA) ({ frames := 3, cells := 0, slots := 0, locals := 120 }) (va_Pc [.ref (g 8), .int p0] (PX dC dI g c adK adV v F rc sz)) (va_Qi (fun (r : Int32) (u : Unit) => True) (fun (_ : Unit) => BX dC dI g c (v, F, rc)) (AX g sz)) 0 0 (AX g sz) := by
  sorry
set_option maxHeartbeats 8000000 in
set_option maxRecDepth 100000 in
theorem c_X6_anyLate (l : Launch) (dC : Nat → ClassId) (dI : Nat → Nat → Nat) (g : Nat → Nat) (c : Nat → ClassId) (adK adV : Nat → Nat) (v : Nat → Int32) (F : Nat → Nat → Int32) (rc sz : Nat) (p0 : Int32) (p1 : Int32) (hg : injX g) (hI : IX v F) (h0 : 0 ≤ p0.toInt ∧ p0.toInt ≤ 9) : Met l yX6_anyLate (Cond.code yX6_anyLate cX6_anyLate 4 (some .boolean) :: wA) ({ frames := 3, cells := 0, slots := 0, locals := 120 }) (va_Pc [.ref (g 8), .int p0, .int p1] (PX dC dI g c adK adV v F rc sz)) (va_Qi (fun (r : Int32) (u : Unit) => 0 ≤ r.toInt ∧ r.toInt ≤ 1) (fun (_ : Unit) => BX dC dI g c (v, F, rc)) (AX g sz)) 0 0 (AX g sz) := by
  sorry
