/-! a contract's text -/
def nnL (x : Int) : Nat := if x = 104 ∨ x = 108 ∨ x = 100 then 3 else if x = 116 then 2 else if x = 103 ∨ x = 111 ∨ x = 109 then 1 else 0
theorem nnL_of {x : Int} {k : Int} (h : (k = 3 ∧ (x = 104 ∨ x = 108 ∨ x = 100)) ∨ (k = 2 ∧ x = 116) ∨ (k = 1 ∧ (x = 103 ∨ x = 111 ∨ x = 109)) ∨ (k = 0 ∧ ¬ (x = 104 ∨ x = 108 ∨ x = 100) ∧ ¬ x = 116 ∧ ¬ (x = 103 ∨ x = 111 ∨ x = 109))) : (nnL x : Int) = k := by
  unfold nnL
  rcases h with ⟨h1, h2⟩ | ⟨h1, h2⟩ | ⟨h1, h2⟩ | ⟨h1, h2, h3, h4⟩
  · rw [if_pos h2, h1]; rfl
  · rw [if_neg (by omega), if_pos h2, h1]; rfl
  · rw [if_neg (by omega), if_neg (by omega), if_pos h2, h1]; rfl
  · rw [if_neg h2, if_neg h3, if_neg h4, h1]; rfl
theorem nnL_T {n : Int32} {B : Nat → Int32} {h : Int} (h0 : 0 ≤ h) : nnL (TX n B h.toNat) = nnL (sg n B h) := by
  have t := TX_or (n := n) (B := B) h0
  rcases t with ⟨t1, -, -⟩ | ⟨t1, t2⟩
  · rw [t1]
  · have e1 : nnL (TX n B h.toNat) = 0 := by rw [t1]; rfl
    have e2 : (nnL (sg n B h) : Int) = 0 := nnL_of (Or.inr (Or.inr (Or.inr (by omega))))
    omega
/-- a blank, and a number -/
def bn (c : Bool) (T : Nat → Int) (p : Nat) : PRes := if T p = 32 then prN c T (p + 1) else .inr p
def nmR (c : Bool) (T : Nat → Int) : Nat → Nat → PRes
  | 0, p => .inl p
  | k + 1, p => match bn c T p with
    | .inl q => nmR c T k q
    | .inr q => .inr q
def lnR (c : Bool) (T : Nat → Int) (p : Nat) : PRes := if nnL (T p) = 0 then .inr p else match nmR c T (nnL (T p)) (p + 1) with
  | .inl q => if T q = 59 then .inl (q + 1) else .inr q
  | .inr q => .inr q
theorem nmR_O {c : Bool} {T : Nat → Int} {k p q : Nat} (h : bn c T p = .inl q) : nmR c T (k + 1) p = nmR c T k q := by
  show (match bn c T p with | .inl q => nmR c T k q | .inr q => .inr q) = _
  rw [h]
theorem nmR_B {c : Bool} {T : Nat → Int} {k p q : Nat} (h : bn c T p = .inr q) : nmR c T (k + 1) p = .inr q := by
  show (match bn c T p with | .inl q => nmR c T k q | .inr q => .inr q) = _
  rw [h]
theorem bn_rel (T : Nat → Int) (p : Nat) : rl T (bn true T p) (bn false T p) := by
  unfold bn
  by_cases h : T p = 32
  · rw [if_pos h, if_pos h]; exact prN_rel T (p + 1)
  · rw [if_neg h, if_neg h]; exact Or.inl rfl
theorem nmR_dg {c : Bool} {T : Nat → Int} {k p : Nat} (h : isDg (T p)) : nmR c T k p = .inl p ∨ nmR c T k p = .inr p := by
  cases k with
  | zero => exact Or.inl rfl
  | succ k =>
    have h1 : 48 ≤ T p ∧ T p ≤ 57 := h
    exact Or.inr (nmR_B (by unfold bn; rw [if_neg (by omega)]))
theorem nmR_rel (T : Nat → Int) : ∀ (k p : Nat), rl T (nmR true T k p) (nmR false T k p)
  | 0, p => Or.inl rfl
  | k + 1, p => by
    have h := bn_rel T p
    cases e : bn true T p with
    | inr q =>
      rw [e] at h
      rcases h with h | ⟨q', h1, -, -⟩
      · rw [nmR_B e, nmR_B h.symm]; exact Or.inl rfl
      · cases h1
    | inl q =>
      rw [e] at h
      rcases h with h | ⟨q', h1, h2, h3⟩
      · rw [nmR_O e, nmR_O h.symm]; exact nmR_rel T k q
      · cases h1
        rw [nmR_O e, nmR_B h2]
        rcases nmR_dg (c := true) (k := k) h3 with h4 | h4
        · rw [h4]; exact Or.inr ⟨q, rfl, rfl, h3⟩
        · rw [h4]; exact Or.inl rfl
theorem lnR_c (T : Nat → Int) (p : Nat) : lnR true T p = lnR false T p := by
  unfold lnR
  by_cases h : nnL (T p) = 0
  · rw [if_pos h, if_pos h]
  · rw [if_neg h, if_neg h]
    rcases nmR_rel T (nnL (T p)) (p + 1) with h1 | ⟨q, h1, h2, h3⟩
    · rw [h1]
    · rw [h1, h2]
      have h3 : 48 ≤ T q ∧ T q ≤ 57 := h3
      show (if T q = 59 then _ else _) = _
      rw [if_neg (by omega)]
/-- a blank and a number, from h on -/
def nb (c : Bool) (n : Int32) (B : Nat → Int32) (h f g : Int) : Prop := out (bn c (TX n B) h.toNat) f g
theorem nb.cast {c : Bool} {n : Int32} {B : Nat → Int32} {h f g h' f' g' : Int} (r : nb c n B h f g) (e2 : h' = h) (e3 : f' = f) (e4 : g' = g) : nb c n B h' f' g' := by
  subst e2; subst e3; subst e4; exact r
theorem nb.no {c : Bool} {n : Int32} {B : Nat → Int32} {h f g : Int} (h0 : 0 ≤ h) (e : ¬ sg n B h = 32) (hf : f = h) (hg : g = h) : nb c n B h f g := by
  have t := TX_or (n := n) (B := B) h0
  unfold nb bn
  rw [if_neg (by omega)]
  show f = _ ∧ g = _
  omega
theorem nb.yes {c : Bool} {n : Int32} {B : Nat → Int32} {h h1 f g : Int} (h0 : 0 ≤ h) (e : sg n B h = 32) (eh : h1 = h + 1) (r : dg c n B h1 f g) : nb c n B h f g := by
  have t := TX_or (n := n) (B := B) h0
  unfold nb bn
  rw [if_pos (by omega)]
  unfold dg at r
  rw [toN1 h0 eh] at r
  exact r
/-- k numbers were wanted from h on; i are read, at place g; or a fault -/
def nz (c : Bool) (n : Int32) (B : Nat → Int32) (k h i f g : Int) : Prop := (f < 0 → 0 ≤ g ∧ nmR c (TX n B) k.toNat h.toNat = nmR c (TX n B) (k - i).toNat g.toNat) ∧ (0 ≤ f → g = f ∧ nmR c (TX n B) k.toNat h.toNat = .inr f.toNat)
theorem nz.cast {c : Bool} {n : Int32} {B : Nat → Int32} {k h i f g i' f' g' : Int} (r : nz c n B k h i f g) (e2 : i' = i) (e3 : f' = f) (e4 : g' = g) : nz c n B k h i' f' g' := by
  subst e2; subst e3; subst e4; exact r
theorem nz.start {c : Bool} {n : Int32} {B : Nat → Int32} {k h i f g : Int} (h0 : 0 ≤ h) (hi : i = 0) (hf : f < 0) (hg : g = h) : nz c n B k h i f g := by
  subst hi; subst hg
  refine ⟨fun _ => ⟨h0, ?_⟩, fun q => by omega⟩
  rw [Int.sub_zero]
theorem nz.step {c : Bool} {n : Int32} {B : Nat → Int32} {k h i f g h1 i1 f1 g1 : Int} (w : nz c n B k h i f g) (hf : f < 0) (hi : 0 ≤ i ∧ i < k) (eh : h1 = g) (r : nb c n B h1 f1 g1) (ei : i1 = i + 1) : nz c n B k h i1 f1 g1 := by
  subst eh; subst ei
  obtain ⟨h0, hw⟩ := w.1 hf
  have e : (k - i).toNat = (k - (i + 1)).toNat + 1 := by omega
  rw [e] at hw
  unfold nb at r
  cases q : bn c (TX n B) h1.toNat with
  | inl x =>
    rw [q] at r
    have r : f1 < 0 ∧ g1 = (x : Int) := r
    refine ⟨fun _ => ⟨by omega, ?_⟩, fun z => by omega⟩
    rw [hw, nmR_O q]
    have e2 : g1.toNat = x := by omega
    rw [e2]
  | inr x =>
    rw [q] at r
    have r : f1 = (x : Int) ∧ g1 = (x : Int) := r
    refine ⟨fun z => by omega, fun _ => ⟨by omega, ?_⟩⟩
    rw [hw, nmR_B q]
    have e2 : f1.toNat = x := by omega
    rw [e2]
/-- a line, from h on -/
def ln (c : Bool) (n : Int32) (B : Nat → Int32) (h f g : Int) : Prop := out (lnR c (TX n B) h.toNat) f g
theorem ln.cast {c : Bool} {n : Int32} {B : Nat → Int32} {h f g h' f' g' : Int} (r : ln c n B h f g) (e2 : h' = h) (e3 : f' = f) (e4 : g' = g) : ln c n B h' f' g' := by
  subst e2; subst e3; subst e4; exact r
theorem ln.no {c : Bool} {n : Int32} {B : Nat → Int32} {h f g : Int} (h0 : 0 ≤ h) (e : (nnL (sg n B h) : Int) = 0) (hf : f = h) (hg : g = h) : ln c n B h f g := by
  unfold ln lnR
  rw [nnL_T h0, if_pos (by omega)]
  show f = _ ∧ g = _
  omega
theorem ln.of {c : Bool} {n : Int32} {B : Nat → Int32} {h k h1 i f g f1 g1 : Int} (h0 : 0 ≤ h) (ek : (nnL (sg n B h) : Int) = k) (hk : k ≠ 0) (eh : h1 = h + 1) (w : nz c n B k h1 i f g) (hi : f < 0 → i = k) (ht : (0 ≤ f ∧ f1 = f ∧ g1 = g) ∨ (f < 0 ∧ sg n B g = 59 ∧ f1 < 0 ∧ g1 = g + 1) ∨ (f < 0 ∧ ¬ sg n B g = 59 ∧ f1 = g ∧ g1 = g)) : ln c n B h f1 g1 := by
  unfold ln lnR
  rw [nnL_T h0, if_neg (by omega)]
  have e1 : nnL (sg n B h) = k.toNat := by omega
  rw [e1, ← toN1 h0 eh]
  by_cases hf : 0 ≤ f
  · obtain ⟨h3, h4⟩ := w.2 hf
    rw [h4]
    show f1 = _ ∧ g1 = _
    omega
  · obtain ⟨h3, h4⟩ := w.1 (by omega)
    have h5 : (k - i).toNat = 0 := by have := hi (by omega); omega
    rw [h5] at h4
    have h6 : nmR c (TX n B) k.toNat h1.toNat = .inl g.toNat := h4
    rw [h6]
    have t := TX_or (n := n) (B := B) h3
    by_cases z : sg n B g = 59
    · show out (if TX n B g.toNat = 59 then _ else _) f1 g1
      rw [if_pos (by omega)]
      show f1 < 0 ∧ g1 = _
      omega
    · show out (if TX n B g.toNat = 59 then _ else _) f1 g1
      rw [if_neg (by omega)]
      show f1 = _ ∧ g1 = _
      omega
/-- lines from p on, c were read -/
def txR (T : Nat → Int) (n : Nat) : Nat → Nat → Nat → Option (PRes × Nat)
  | 0, _, _ => none
  | f + 1, p, c => match lnR false T p with
    | .inr q => some (.inr q, c)
    | .inl q => if q < n then txR T n f q (c + 1) else some (.inl q, c + 1)
theorem txR_up (T : Nat → Int) (n : Nat) : ∀ (f p c : Nat) (r : PRes × Nat), txR T n f p c = some r → txR T n (f + 1) p c = some r
  | 0, _, _, _, h => by cases h
  | f + 1, p, c, r, h => by
    have h1 : (match lnR false T p with | .inr q => some (.inr q, c) | .inl q => if q < n then txR T n f q (c + 1) else some (.inl q, c + 1)) = some r := h
    show (match lnR false T p with | .inr q => some (.inr q, c) | .inl q => if q < n then txR T n (f + 1) q (c + 1) else some (.inl q, c + 1)) = some r
    cases e : lnR false T p with
    | inr q => rw [e] at h1; exact h1
    | inl q =>
      rw [e] at h1
      dsimp only at h1 ⊢
      by_cases z : q < n
      · rw [if_pos z] at h1 ⊢
        exact txR_up T n f q (c + 1) r h1
      · rw [if_neg z] at h1 ⊢
        exact h1
theorem txR_le (T : Nat → Int) (n : Nat) {f p c : Nat} {r : PRes × Nat} (h : txR T n f p c = some r) : ∀ k : Nat, txR T n (f + k) p c = some r
  | 0 => h
  | k + 1 => txR_up T n (f + k) p c r (txR_le T n h k)
def TXT (T : Nat → Int) (n p c : Nat) (r : PRes × Nat) : Prop := ∃ f, txR T n f p c = some r
theorem TXT.one {T : Nat → Int} {n p c : Nat} {r r' : PRes × Nat} (h : TXT T n p c r) (h' : TXT T n p c r') : r = r' := by
  obtain ⟨f, hf⟩ := h
  obtain ⟨f', hf'⟩ := h'
  have h1 := txR_le T n hf f'
  have h2 := txR_le T n hf' f
  rw [Nat.add_comm f' f] at h2
  rw [h1] at h2
  exact Option.some.inj h2
theorem TXT.bad {T : Nat → Int} {n p c q : Nat} (h : lnR false T p = .inr q) : TXT T n p c (.inr q, c) := ⟨1, by show ((match lnR false T p with | .inr q => some (.inr q, c) | .inl q => if q < n then txR T n 0 q (c + 1) else some (.inl q, c + 1)) : Option (PRes × Nat)) = _; rw [h]⟩
theorem TXT.fin {T : Nat → Int} {n p c q : Nat} (h : lnR false T p = .inl q) (hq : ¬ q < n) : TXT T n p c (.inl q, c + 1) := ⟨1, by show ((match lnR false T p with | .inr q => some (.inr q, c) | .inl q => if q < n then txR T n 0 q (c + 1) else some (.inl q, c + 1)) : Option (PRes × Nat)) = _; rw [h]; dsimp only; rw [if_neg hq]⟩
theorem TXT.next {T : Nat → Int} {n p c q : Nat} {r : PRes × Nat} (h : lnR false T p = .inl q) (hq : q < n) (h1 : TXT T n q (c + 1) r) : TXT T n p c r := by
  obtain ⟨f, hf⟩ := h1
  refine ⟨f + 1, ?_⟩
  show ((match lnR false T p with | .inr q => some (.inr q, c) | .inl q => if q < n then txR T n f q (c + 1) else some (.inl q, c + 1)) : Option (PRes × Nat)) = _
  rw [h]
  dsimp only
  rw [if_pos hq]
  exact hf
/-- lines so far: f the fault, h the place, k lines -/
def txG (T : Nat → Int) (n h k : Nat) (r : PRes × Nat) : Prop := (h < n → TXT T n h k r) ∧ (¬ h < n → r = (.inl h, k))
def tx (n : Int32) (B : Nat → Int32) (f h k : Int) : Prop := (f < 0 → 0 ≤ h ∧ 0 ≤ k ∧ ∀ r, txG (TX n B) n.toInt.toNat h.toNat k.toNat r → TXT (TX n B) n.toInt.toNat 0 0 r) ∧ (0 ≤ f → ∃ j, TXT (TX n B) n.toInt.toNat 0 0 (.inr f.toNat, j))
theorem tx.cast {n : Int32} {B : Nat → Int32} {f h k f' h' k' : Int} (r : tx n B f h k) (e2 : f' = f) (e3 : h' = h) (e4 : f < 0 → k' = k) : tx n B f' h' k' := by
  subst e2; subst e3
  refine ⟨fun q => ?_, r.2⟩
  rw [e4 q]
  exact r.1 q
theorem ln.f {c : Bool} {n : Int32} {B : Nat → Int32} {h f g : Int} (w : ln c n B h f g) : (f < 0 ∧ 0 ≤ g ∧ lnR false (TX n B) h.toNat = .inl g.toNat) ∨ (0 ≤ f ∧ lnR false (TX n B) h.toNat = .inr f.toNat) := by
  have w : out (lnR c (TX n B) h.toNat) f g := w
  have e : lnR c (TX n B) h.toNat = lnR false (TX n B) h.toNat := by
    cases c with
    | true => exact lnR_c _ _
    | false => rfl
  rw [e] at w
  cases q : lnR false (TX n B) h.toNat with
  | inl x =>
    rw [q] at w
    have w : f < 0 ∧ g = (x : Int) := w
    have e2 : g.toNat = x := by omega
    rw [e2]
    exact Or.inl ⟨w.1, by omega, rfl⟩
  | inr x =>
    rw [q] at w
    have w : f = (x : Int) ∧ g = (x : Int) := w
    have e2 : f.toNat = x := by omega
    rw [e2]
    exact Or.inr ⟨by omega, rfl⟩
theorem tx.first {c : Bool} {n : Int32} {B : Nat → Int32} {h0 f h k : Int} (w : ln c n B h0 f h) (e : h0 = 0) (hk : f < 0 → k = 1) : tx n B f h k := by
  subst e
  rcases w.f with ⟨h1, h2, h3⟩ | ⟨h1, h3⟩
  · refine ⟨fun _ => ⟨h2, by have := hk h1; omega, fun r hr => ?_⟩, fun z => by omega⟩
    rw [hk h1] at hr
    by_cases z : h.toNat < n.toInt.toNat
    · exact TXT.next h3 z (hr.1 z)
    · rw [hr.2 z]
      exact TXT.fin h3 z
  · exact ⟨fun z => by omega, fun _ => ⟨0, TXT.bad h3⟩⟩
theorem tx.step {c : Bool} {n : Int32} {B : Nat → Int32} {f h k h1 f1 g1 k1 : Int} (w : tx n B f h k) (hf : f < 0) (hn : h < n.toInt) (eh : h1 = h) (l : ln c n B h1 f1 g1) (hk : f1 < 0 → k1 = k + 1) : tx n B f1 g1 k1 := by
  subst eh
  obtain ⟨h0, h2, hw⟩ := w.1 hf
  have hlt : h1.toNat < n.toInt.toNat := by omega
  rcases l.f with ⟨l1, l2, l3⟩ | ⟨l1, l3⟩
  · refine ⟨fun _ => ⟨l2, by have := hk l1; omega, fun r hr => ?_⟩, fun z => by omega⟩
    have ek : k1.toNat = k.toNat + 1 := by have := hk l1; omega
    rw [ek] at hr
    refine hw r ⟨fun _ => ?_, fun z => absurd hlt z⟩
    by_cases z : g1.toNat < n.toInt.toNat
    · exact TXT.next l3 z (hr.1 z)
    · rw [hr.2 z]
      exact TXT.fin l3 z
  · exact ⟨fun z => by omega, fun _ => ⟨k.toNat, hw _ ⟨fun _ => TXT.bad l3, fun z => absurd hlt z⟩⟩⟩
/-- what a contract answers -/
def cans (n : Int32) (B : Nat → Int32) (r : Int) : Prop := (1 ≤ r ∧ ∃ q, TXT (TX n B) n.toInt.toNat 0 0 (.inl q, r.toNat)) ∨ (r ≤ -100 ∧ ∃ j, TXT (TX n B) n.toInt.toNat 0 0 (.inr (-100 - r).toNat, j))
theorem cans.mk {n : Int32} {B : Nat → Int32} {f h k r : Int} (w : tx n B f h k) (e : f < 0 → n.toInt ≤ h) (ha : (f < 0 ∧ r = k ∧ 1 ≤ k) ∨ (0 ≤ f ∧ r = -100 - f)) : cans n B r := by
  rcases ha with ⟨h1, h2, h3⟩ | ⟨h1, h2⟩
  · obtain ⟨h4, h5, h6⟩ := w.1 h1
    have := e h1
    refine Or.inl ⟨by omega, h.toNat, ?_⟩
    rw [h2]
    exact h6 _ ⟨fun z => by omega, fun _ => rfl⟩
  · obtain ⟨j, hj⟩ := w.2 h1
    have e2 : (-100 - r).toNat = f.toNat := by omega
    exact Or.inr ⟨by omega, j, by rw [e2]; exact hj⟩
theorem cans.one {n : Int32} {B A : Nat → Int32} {r r' : Int} (ht : TX n B = TX n A) (h : cans n B r) (h' : cans n A r') : r = r' := by
  unfold cans at h
  rw [ht] at h
  rcases h with ⟨h1, q, h2⟩ | ⟨h1, j, h2⟩
  · rcases h' with ⟨h3, q', h4⟩ | ⟨h3, j', h4⟩
    · have e := TXT.one h2 h4
      have e2 : r.toNat = r'.toNat := congrArg Prod.snd e
      omega
    · have e := congrArg Prod.fst (TXT.one h2 h4)
      cases e
  · rcases h' with ⟨h3, q', h4⟩ | ⟨h3, j', h4⟩
    · have e := congrArg Prod.fst (TXT.one h2 h4)
      cases e
    · have e : (Sum.inr (-100 - r).toNat : PRes) = Sum.inr (-100 - r').toNat := congrArg Prod.fst (TXT.one h2 h4)
      have e2 : (-100 - r).toNat = (-100 - r').toNat := Sum.inr.inj e
      omega
