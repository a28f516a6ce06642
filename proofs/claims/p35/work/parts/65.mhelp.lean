theorem mu_at (f : Nat → Int32) (j : Nat) (x : Int32) : upd f j x j = x := by simp [upd]
theorem mu_ne (f : Nat → Int32) {j k : Nat} (x : Int32) (h : k ≠ j) : upd f j x k = f k := by simp [upd, h]
theorem all_step {P : Nat → Prop} {x z : Int32} (hz : z.toInt = x.toInt + 1) (h : ∀ j : Nat, (j : Int) < x.toInt → P j) (hx : P x.toNatClampNeg) : ∀ j : Nat, (j : Int) < z.toInt → P j := by
  intro j hj
  by_cases hk : (j : Int) < x.toInt
  · exact h j hk
  · have e : j = x.toNatClampNeg := by
      show j = x.toInt.toNat
      omega
    rw [e]; exact hx
/-! open STAYS -/
def hasO (n : Int32) (P T : Nat → Int32) (j : Int) : Prop := ∃ s : Nat, (s : Int) < n.toInt ∧ (P s).toInt = j ∧ (T s).toInt = 1000000
theorem no_hasO {n : Int32} {P T : Nat → Int32} {j : Int} (h : ∀ s : Nat, (s : Int) < n.toInt → ¬ ((P s).toInt = j ∧ (T s).toInt = 1000000)) : ¬ hasO n P T j := fun ⟨s, h1, h2, h3⟩ => h s h1 ⟨h2, h3⟩
theorem begin_has {n n' : Int32} {P T P' T' : Nat → Int32} {i : Int32} (hn : n'.toInt = n.toInt + 1) (h0 : 0 ≤ n.toInt) (hP : P' = upd P n.toNatClampNeg i) (hT : T' = upd T n.toNatClampNeg 1000000) : ∀ j : Int, (j = i.toInt ∨ hasO n P T j) → hasO n' P' T' j := by
  have e : n.toNatClampNeg = n.toInt.toNat := rfl
  rintro j (rfl | ⟨s, h1, h2, h3⟩)
  · exact ⟨n.toNatClampNeg, by omega, by rw [hP, mu_at], by rw [hT, mu_at]; decide⟩
  · refine ⟨s, by omega, ?_, ?_⟩
    · rw [hP, mu_ne _ _ (by omega)]; exact h2
    · rw [hT, mu_ne _ _ (by omega)]; exact h3
theorem past_has {n n' : Int32} {P T P' T' : Nat → Int32} {i x : Int32} (hn : n'.toInt = n.toInt + 1) (h0 : 0 ≤ n.toInt) (hP : P' = upd P n.toNatClampNeg i) (hT : T' = upd T n.toNatClampNeg x) : ∀ j : Int, hasO n P T j → hasO n' P' T' j := by
  have e : n.toNatClampNeg = n.toInt.toNat := rfl
  rintro j ⟨s, h1, h2, h3⟩
  refine ⟨s, by omega, ?_, ?_⟩
  · rw [hP, mu_ne _ _ (by omega)]; exact h2
  · rw [hT, mu_ne _ _ (by omega)]; exact h3
theorem end_has {n : Int32} {P T P' T' : Nat → Int32} {i : Int} {s : Nat} {x : Int32} (hs : (P s).toInt = i) (hP : P' = P) (hT : T' = upd T s x) : ∀ j : Int, j ≠ i → hasO n P T j → hasO n P' T' j := by
  rintro j hj ⟨q, h1, h2, h3⟩
  refine ⟨q, h1, by rw [hP]; exact h2, ?_⟩
  rw [hT, mu_ne _ _ (fun e => hj (by rw [← h2, e, hs]))]
  exact h3
def JO (a n : Int32) (Q P T : Nat → Int32) : Prop := ∀ i : Nat, (i : Int) < a.toInt → (Q i).toInt ≠ 12 → hasO n P T (i : Int)
theorem JO.to {a n a' n' : Int32} {Q P T Q' P' T' : Nat → Int32} (h : JO a n Q P T) (ha : a' = a) (hn : n' = n) (hQ : Q' = Q) (hP : P' = P) (hT : T' = T) : JO a' n' Q' P' T' := by
  subst ha; subst hn; subst hQ; subst hP; subst hT; exact h
theorem JO.at' {a n : Int32} {Q P T : Nat → Int32} (h : JO a n Q P T) {i : Int32} (h0 : 0 ≤ i.toInt) (h1 : i.toInt < a.toInt) (h2 : (Q i.toNatClampNeg).toInt ≠ 12) : hasO n P T i.toInt := by
  have e : ((i.toNatClampNeg : Nat) : Int) = i.toInt := by
    show ((i.toInt.toNat : Nat) : Int) = _
    omega
  have := h i.toNatClampNeg (by omega) h2
  rw [e] at this
  exact this
theorem JO.go {a n n' : Int32} {Q P T P1 T1 Q2 P2 T2 : Nat → Int32} {i x : Int32} (hJ : JO a n Q P T) (hE : ∀ j : Int, j ≠ i.toInt → hasO n P T j → hasO n P1 T1 j) (hB : ∀ j : Int, (j = i.toInt ∨ hasO n P1 T1 j) → hasO n' P2 T2 j) (hQ : Q2 = upd Q i.toNatClampNeg x) (h0 : 0 ≤ i.toInt) : JO a n' Q2 P2 T2 := by
  intro k hk hq
  by_cases e : (k : Int) = i.toInt
  · exact hB _ (Or.inl e)
  · rw [hQ, mu_ne _ _ (fun h => e (by rw [h]; show ((i.toInt.toNat : Nat) : Int) = _; omega))] at hq
    exact hB _ (Or.inr (hE _ e (hJ k hk hq)))
theorem JO.gone {a n : Int32} {Q P T P1 T1 Q2 : Nat → Int32} {i x : Int32} (hJ : JO a n Q P T) (hE : ∀ j : Int, j ≠ i.toInt → hasO n P T j → hasO n P1 T1 j) (hQ : Q2 = upd Q i.toNatClampNeg x) (hx : x.toInt = 12) (h0 : 0 ≤ i.toInt) : JO a n Q2 P1 T1 := by
  intro k hk hq
  by_cases e : k = i.toNatClampNeg
  · rw [hQ, e, mu_at] at hq
    exact absurd hx hq
  · rw [hQ, mu_ne _ _ e] at hq
    refine hE _ (fun h => e ?_) (hJ k hk hq)
    show k = i.toInt.toNat
    omega
theorem JO.new {a a' n n' : Int32} {Q P T Q2 P2 T2 : Nat → Int32} {i x : Int32} (hJ : JO a n Q P T) (ha : a'.toInt = a.toInt + 1) (hi : i.toInt = a.toInt) (h0 : 0 ≤ i.toInt) (hB : ∀ j : Int, (j = i.toInt ∨ hasO n P T j) → hasO n' P2 T2 j) (hQ : Q2 = upd Q i.toNatClampNeg x) : JO a' n' Q2 P2 T2 := by
  intro k hk hq
  by_cases e : (k : Int) = i.toInt
  · exact hB _ (Or.inl e)
  · rw [hQ, mu_ne _ _ (fun h => e (by rw [h]; show ((i.toInt.toNat : Nat) : Int) = _; omega))] at hq
    exact hB _ (Or.inr (hJ k (by omega) hq))
theorem JO.past {a n n' : Int32} {Q P T P2 T2 : Nat → Int32} (hJ : JO a n Q P T) (hB : ∀ j : Int, hasO n P T j → hasO n' P2 T2 j) : JO a n' Q P2 T2 := fun i h1 h2 => hB _ (hJ i h1 h2)
theorem bd_step {f f' Q : Nat → Int32} {x z y : Int32} {p : Int} (hz : z.toInt = x.toInt + 1) (hf : f' = upd f x.toNatClampNeg y) (h : ∀ j : Nat, (j : Int) < x.toInt → (f j).toInt ≠ 0 → (Q j).toInt = p) (hy : y.toInt ≠ 0 → (Q x.toNatClampNeg).toInt = p) : ∀ j : Nat, (j : Int) < z.toInt → (f' j).toInt ≠ 0 → (Q j).toInt = p := by
  intro j hj hq
  by_cases e : j = x.toNatClampNeg
  · rw [e] at hq ⊢
    rw [hf, mu_at] at hq
    exact hy hq
  · rw [hf, mu_ne _ _ e] at hq
    have e2 : x.toNatClampNeg = x.toInt.toNat := rfl
    exact h j (by omega) hq
/-! laws as steps -/
def dpS (o : Option Nat) (a w : Int32) : Option Nat := match o with
  | none => none
  | some n => if a.toInt = 1 then some (n + 1) else if a.toInt = 2 then (if 0 ≤ w.toInt ∧ w.toInt ≤ 5 then some (n + 1) else none) else if a.toInt = 3 then (if 1 ≤ n then some n else none) else if a.toInt = 4 then (if 3 ≤ n then some (n - 2) else none) else (if 2 ≤ n then some (n - 1) else none)
def dp (A W : Nat → Int32) (b : Nat) : Nat → Option Nat
  | 0 => some 0
  | k + 1 => dpS (dp A W b k) (A (b + k)) (W (b + k))
theorem dp_congr {A W A' W' : Nat → Int32} {b : Nat} : ∀ {k : Nat}, (∀ i, i < b + k → A' i = A i ∧ W' i = W i) → dp A' W' b k = dp A W b k
  | 0, _ => rfl
  | k + 1, h => by
    show dpS (dp A' W' b k) (A' (b + k)) (W' (b + k)) = dpS (dp A W b k) (A (b + k)) (W (b + k))
    rw [dp_congr (fun i hi => h i (by omega)), (h (b + k) (by omega)).1, (h (b + k) (by omega)).2]
theorem lay_dp {A W A' W' : Nat → Int32} {b k j j' : Nat} {x y : Int32} (hA : A' = upd A j x) (hW : W' = upd W j' y) (hj : j = b + k) (hj' : j' = b + k) : dp A' W' b (k + 1) = dpS (dp A W b k) x y := by
  show dpS (dp A' W' b k) (A' (b + k)) (W' (b + k)) = dpS (dp A W b k) x y
  rw [dp_congr (A := A) (W := W) (fun i hi => ⟨by rw [hA, mu_ne _ _ (by omega)], by rw [hW, mu_ne _ _ (by omega)]⟩), hA, hW, hj, hj', mu_at, mu_at]
theorem dpS_1 {n : Nat} {a w : Int32} (h : a.toInt = 1) : dpS (some n) a w = some (n + 1) := by simp [dpS, h]
theorem dpS_2 {n : Nat} {a w : Int32} (h : a.toInt = 2) (hw : 0 ≤ w.toInt ∧ w.toInt ≤ 5) : dpS (some n) a w = some (n + 1) := by simp [dpS, h, hw]
theorem dpS_3 {n : Nat} {a w : Int32} (h : a.toInt = 3) (hn : 1 ≤ n) : dpS (some n) a w = some n := by simp [dpS, h, hn]
theorem dpS_4 {n : Nat} {a w : Int32} (h : a.toInt = 4) (hn : 3 ≤ n) : dpS (some n) a w = some (n - 2) := by simp [dpS, h, hn]
theorem dpS_5 {n : Nat} {a w : Int32} (h1 : a.toInt ≠ 1) (h2 : a.toInt ≠ 2) (h3 : a.toInt ≠ 3) (h4 : a.toInt ≠ 4) (hn : 2 ≤ n) : dpS (some n) a w = some (n - 1) := by simp [dpS, h1, h2, h3, h4, hn]
theorem dp_pred {A W : Nat → Int32} {b k D : Nat} (h : dp A W b (k + 1) = some D) : ∃ n, dp A W b k = some n := by
  cases e : dp A W b k with
  | none =>
    have h1 : dpS (dp A W b k) (A (b + k)) (W (b + k)) = some D := h
    rw [e] at h1
    cases h1
  | some n => exact ⟨n, rfl⟩
theorem dp_pre {A W : Nat → Int32} {b : Nat} : ∀ {m k : Nat}, (∃ D, dp A W b m = some D) → k ≤ m → ∃ n, dp A W b k = some n
  | 0, k, h, hk => by
    obtain rfl : k = 0 := by omega
    exact h
  | m + 1, k, ⟨D, h⟩, hk => by
    by_cases e : k = m + 1
    · rw [e]; exact ⟨D, h⟩
    · exact dp_pre (dp_pred h) (by omega)
theorem dpS_le {n n' : Nat} {a w : Int32} (h : dpS (some n) a w = some n') : n' ≤ n + 1 := by
  unfold dpS at h
  dsimp only at h
  repeat' split at h
  all_goals first | (cases h; done) | (have := Option.some.inj h; omega)
theorem dp_le {A W : Nat → Int32} {b : Nat} : ∀ {k n : Nat}, dp A W b k = some n → n ≤ k
  | 0, n, h => by cases h; exact Nat.le_refl 0
  | k + 1, n, h => by
    obtain ⟨q, hq⟩ := dp_pred h
    have h1 : dpS (dp A W b k) (A (b + k)) (W (b + k)) = some n := h
    rw [hq] at h1
    have := dpS_le h1
    have := dp_le hq
    omega
def dpI (A W : Nat → Int32) (b k n : Int) : Prop := 0 ≤ n ∧ b ≤ k ∧ 0 ≤ b ∧ dp A W b.toNat (k - b).toNat = some n.toNat
theorem dpI.to {A W : Nat → Int32} {b k n k' n' : Int} (h : dpI A W b k n) (hk : k' = k) (hn : n' = n) : dpI A W b k' n' := by rw [hk, hn]; exact h
theorem dpI.le {A W : Nat → Int32} {b k n : Int} (h : dpI A W b k n) : n ≤ k - b ∧ 0 ≤ n ∧ b ≤ k := by
  have := dp_le h.2.2.2
  have := h.1
  have := h.2.1
  omega
theorem dpI.next {A W : Nat → Int32} {b n m : Int} {x : Int32} (h : dpI A W b x.toInt n) (hm : x.toInt < b + m) (hD : ∃ D, dp A W b.toNat m.toNat = some D) : ∃ q : Nat, dpS (some n.toNat) (A x.toNatClampNeg) (W x.toNatClampNeg) = some q ∧ dpI A W b (x.toInt + 1) q := by
  obtain ⟨h0, h1, h2, h3⟩ := h
  obtain ⟨q, hq⟩ := dp_pre (k := (x.toInt - b).toNat + 1) hD (by omega)
  have e1 : b.toNat + (x.toInt - b).toNat = x.toNatClampNeg := by
    show _ = x.toInt.toNat
    omega
  have h4 : dpS (dp A W b.toNat (x.toInt - b).toNat) (A (b.toNat + (x.toInt - b).toNat)) (W (b.toNat + (x.toInt - b).toNat)) = some q := hq
  rw [h3, e1] at h4
  refine ⟨q, h4, by omega, by omega, h2, ?_⟩
  have e2 : (x.toInt + 1 - b).toNat = (x.toInt - b).toNat + 1 := by omega
  have e3 : ((q : Int)).toNat = q := by omega
  rw [e2, e3]
  exact hq
theorem dpS_need {n q : Nat} {a w : Int32} (h : dpS (some n) a w = some q) : (a.toInt = 1 → q = n + 1) ∧ (a.toInt = 2 → q = n + 1 ∧ 0 ≤ w.toInt ∧ w.toInt ≤ 5) ∧ (a.toInt = 3 → q = n ∧ 1 ≤ n) ∧ (a.toInt = 4 → q + 2 = n ∧ 3 ≤ n) ∧ (a.toInt ≠ 1 → a.toInt ≠ 2 → a.toInt ≠ 3 → a.toInt ≠ 4 → q + 1 = n ∧ 2 ≤ n) := by
  unfold dpS at h
  dsimp only at h
  repeat' split at h
  all_goals first | (cases h; done) | (have := Option.some.inj h; omega)
def bI (a : Int32) : Nat := (130 * a.toInt).toNat
def JL (a : Int32) (A W S : Nat → Int32) : Prop := ∀ l : Nat, (l : Int) < a.toInt → ∃ D, dp A W (130 * l) (S l).toInt.toNat = some D
theorem JL.to {a a' : Int32} {A W S A' W' S' : Nat → Int32} (h : JL a A W S) (ha : a' = a) (hA : A' = A) (hW : W' = W) (hS : S' = S) : JL a' A' W' S' := by
  subst ha; subst hA; subst hW; subst hS; exact h
theorem JL.at' {a : Int32} {A W S : Nat → Int32} (h : JL a A W S) {i : Int32} (h0 : 0 ≤ i.toInt) (h1 : i.toInt < a.toInt) : ∃ D, dp A W (bI i) (S i.toNatClampNeg).toInt.toNat = some D := by
  have e : i.toNatClampNeg = i.toInt.toNat := rfl
  have := h i.toNatClampNeg (by omega)
  have e2 : bI i = 130 * i.toNatClampNeg := by
    show (130 * i.toInt).toNat = 130 * i.toInt.toNat
    omega
  rw [e2]; exact this
def keepL (a : Int32) (A W A' W' : Nat → Int32) : Prop := ∀ i : Nat, (i : Int) < 130 * a.toInt → A' i = A i ∧ W' i = W i
theorem keepL.rf {a : Int32} {A W : Nat → Int32} : keepL a A W A W := fun _ _ => ⟨rfl, rfl⟩
theorem keepL.tr {a : Int32} {A W A1 W1 A2 W2 : Nat → Int32} (h : keepL a A W A1 W1) (h2 : keepL a A1 W1 A2 W2) : keepL a A W A2 W2 := fun i hi => ⟨(h2 i hi).1.trans (h i hi).1, (h2 i hi).2.trans (h i hi).2⟩
theorem keepL.lay {a : Int32} {A W A' W' : Nat → Int32} {j j' : Nat} {x y : Int32} (hA : A' = upd A j x) (hW : W' = upd W j' y) (hj : 130 * a.toInt ≤ (j : Int)) (hj' : 130 * a.toInt ≤ (j' : Int)) : keepL a A W A' W' := fun i hi => ⟨by rw [hA, mu_ne _ _ (by omega)], by rw [hW, mu_ne _ _ (by omega)]⟩
theorem JL.add {a a' : Int32} {A W S A' W' S' : Nat → Int32} {x : Int32} {D : Nat} (h : JL a A W S) (ha : a'.toInt = a.toInt + 1) (h0 : 0 ≤ a.toInt) (hk : keepL a A W A' W') (hs : ∀ l : Nat, (l : Int) < a.toInt → 0 ≤ (S l).toInt ∧ (S l).toInt ≤ 120) (hS : S' = upd S a.toNatClampNeg x) (hD : dp A' W' (bI a) x.toInt.toNat = some D) : JL a' A' W' S' := by
  intro l hl
  have e : a.toNatClampNeg = a.toInt.toNat := rfl
  have e2 : bI a = 130 * a.toNatClampNeg := by
    show (130 * a.toInt).toNat = 130 * a.toInt.toNat
    omega
  by_cases q : l = a.toNatClampNeg
  · rw [hS, q, mu_at]
    rw [e2] at hD
    exact ⟨D, hD⟩
  · rw [hS, mu_ne _ _ q]
    obtain ⟨D1, h1⟩ := h l (by omega)
    refine ⟨D1, ?_⟩
    rw [dp_congr (A := A) (W := W) (fun i hi => hk i (by have := hs l (by omega); omega))]
    exact h1
theorem JL.keep {a : Int32} {A W S A' W' S' : Nat → Int32} (h : JL a A W S) (hk : keepL a A W A' W') (hs : ∀ l : Nat, (l : Int) < a.toInt → 0 ≤ (S l).toInt ∧ (S l).toInt ≤ 120) (hS : S' = S) : JL a A' W' S' := by
  intro l hl
  obtain ⟨D1, h1⟩ := h l hl
  refine ⟨D1, ?_⟩
  rw [hS, dp_congr (A := A) (W := W) (fun i hi => hk i (by have := hs l hl; omega))]
  exact h1
/-! what is read -/
def lkM (h t : Int32) (T : Nat → Int32) : Int := if h.toInt < t.toInt then (T h.toNatClampNeg).toInt else -1
def nmM (b : Int32) : Int := if b.toInt = 100 then 0 else if b.toInt = 104 then 1 else if b.toInt = 108 then 2 else if b.toInt = 119 then 3 else if b.toInt = 107 then 4 else if b.toInt = 110 then 5 else -1
theorem nmM_rng (b : Int32) : -1 ≤ nmM b ∧ nmM b ≤ 5 := by
  unfold nmM
  repeat' split
  all_goals omega
theorem band {x y z : Int32} (ez : z = x &&& y) (ey : y = x - 1) (h : ¬ x.toInt = 0) : (z.toBitVec.toNat : Int) < x.toBitVec.toNat := by
  have h1 : z.toBitVec.toNat ≤ y.toBitVec.toNat := by
    rw [ez, Int32.toBitVec_and, BitVec.toNat_and]
    exact Nat.and_le_right
  have h2 : x.toBitVec.toNat ≠ 0 := fun q => h (by
    have : x.toBitVec = 0#32 := BitVec.eq_of_toNat_eq (by rw [q]; rfl)
    show x.toBitVec.toInt = 0
    rw [this]; rfl)
  have h3 : y.toBitVec.toNat = x.toBitVec.toNat - 1 := by
    have hlt := x.toBitVec.isLt
    rw [ey, Int32.toBitVec_sub, BitVec.toNat_sub]
    have e1 : (1 : Int32).toBitVec.toNat = 1 := by decide
    rw [e1]
    omega
  omega
/-! counting, and the order of STAYS -/
def cnt (P : Nat → Bool) : Nat → Nat
  | 0 => 0
  | k + 1 => cnt P k + (if P k = true then 1 else 0)
theorem cnt_le (P : Nat → Bool) : ∀ k, cnt P k ≤ k
  | 0 => Nat.le_refl 0
  | k + 1 => by
    have := cnt_le P k
    show cnt P k + (if P k = true then 1 else 0) ≤ k + 1
    split <;> omega
theorem cnt_mono {P Q : Nat → Bool} : ∀ {k}, (∀ i, i < k → P i = true → Q i = true) → cnt P k ≤ cnt Q k
  | 0, _ => Nat.le_refl 0
  | k + 1, h => by
    have h1 := cnt_mono (P := P) (Q := Q) (k := k) (fun i hi => h i (by omega))
    show cnt P k + (if P k = true then 1 else 0) ≤ cnt Q k + (if Q k = true then 1 else 0)
    by_cases e : P k = true
    · rw [if_pos e, if_pos (h k (by omega) e)]; omega
    · rw [if_neg e]; omega
theorem cnt_lt {P Q : Nat → Bool} {s : Nat} : ∀ {k}, (∀ i, i < k → P i = true → Q i = true) → s < k → Q s = true → ¬ P s = true → cnt P k + 1 ≤ cnt Q k
  | 0, _, hs, _, _ => absurd hs (Nat.not_lt_zero _)
  | k + 1, h, hs, hq, hp => by
    show cnt P k + (if P k = true then 1 else 0) + 1 ≤ cnt Q k + (if Q k = true then 1 else 0)
    by_cases e : s = k
    · subst e
      have h1 := cnt_mono (P := P) (Q := Q) (k := s) (fun i hi => h i (by omega))
      rw [if_neg hp, if_pos hq]; omega
    · have h1 := cnt_lt (P := P) (Q := Q) (k := k) (fun i hi => h i (by omega)) (by omega) hq hp
      by_cases e2 : P k = true
      · rw [if_pos e2, if_pos (h k (by omega) e2)]; omega
      · rw [if_neg e2]; omega
def stP (P : Nat → Int32) (i : Int) : Nat → Bool := fun o => decide ((P o).toInt = i)
def ahP (P T : Nat → Int32) (i : Int) (s : Nat) : Nat → Bool := fun o => decide ((P o).toInt = i ∧ ((T o).toInt < (T s).toInt ∨ ((T o).toInt = (T s).toInt ∧ o < s)))
theorem rank_surj (P T : Nat → Int32) (i : Int) : ∀ (N k : Nat), k < cnt (stP P i) N → ∃ s, s < N ∧ (P s).toInt = i ∧ cnt (ahP P T i s) N = k
  | 0, k, h => absurd h (Nat.not_lt_zero _)
  | N + 1, k, h => by
    have hN : ∀ s, cnt (ahP P T i s) (N + 1) = cnt (ahP P T i s) N + (if ahP P T i s N = true then 1 else 0) := fun s => rfl
    have hc : cnt (stP P i) (N + 1) = cnt (stP P i) N + (if stP P i N = true then 1 else 0) := rfl
    by_cases e : (P N).toInt = i
    · have e1 : stP P i N = true := decide_eq_true e
      rw [hc, if_pos e1] at h
      have hself : ¬ ahP P T i N N = true := fun q => by
        have := of_decide_eq_true q
        omega
      have hr : cnt (ahP P T i N) N ≤ cnt (stP P i) N := cnt_mono (fun o _ q => decide_eq_true (of_decide_eq_true q).1)
      rcases Nat.lt_trichotomy k (cnt (ahP P T i N) N) with hk | hk | hk
      · obtain ⟨s, h1, h2, h3⟩ := rank_surj P T i N k (by omega)
        refine ⟨s, by omega, h2, ?_⟩
        rw [hN, if_neg, h3]; · rfl
        intro q
        have q := of_decide_eq_true q
        have hm : cnt (ahP P T i N) N ≤ cnt (ahP P T i s) N := cnt_mono (fun o ho z => by
          have z := of_decide_eq_true z
          exact decide_eq_true (by omega))
        omega
      · refine ⟨N, by omega, e, ?_⟩
        rw [hN, if_neg hself]; omega
      · obtain ⟨s, h1, h2, h3⟩ := rank_surj P T i N (k - 1) (by omega)
        refine ⟨s, by omega, h2, ?_⟩
        have hq : ahP P T i s N = true := by
          apply decide_eq_true
          refine ⟨e, ?_⟩
          by_cases z : (T N).toInt < (T s).toInt
          · exact Or.inl z
          · exfalso
            have hm := cnt_lt (P := ahP P T i s) (Q := ahP P T i N) (s := s) (k := N) (fun o ho z1 => by
              have z1 := of_decide_eq_true z1
              exact decide_eq_true (by omega)) h1 (decide_eq_true (by omega)) (fun z1 => by
              have z1 := of_decide_eq_true z1
              omega)
            omega
        rw [hN, if_pos hq]; omega
    · have e1 : ¬ stP P i N = true := fun q => e (of_decide_eq_true q)
      rw [hc, if_neg e1] at h
      obtain ⟨s, h1, h2, h3⟩ := rank_surj P T i N k (by omega)
      refine ⟨s, by omega, h2, ?_⟩
      rw [hN, if_neg (fun q => e (of_decide_eq_true q).1)]; omega
theorem cnt_s1 {P : Nat → Bool} {x z : Int32} {n n' : Int} (hz : z.toInt = x.toInt + 1) (h0 : 0 ≤ x.toInt) (h : n = (cnt P x.toNatClampNeg : Int)) (c : P x.toNatClampNeg = true) (hn : n' = n + 1) : n' = (cnt P z.toNatClampNeg : Int) := by
  have e : z.toNatClampNeg = x.toNatClampNeg + 1 := by
    show z.toInt.toNat = x.toInt.toNat + 1
    omega
  rw [e]
  show n' = ((cnt P x.toNatClampNeg + (if P x.toNatClampNeg = true then 1 else 0) : Nat) : Int)
  rw [if_pos c]; omega
theorem cnt_s0 {P : Nat → Bool} {x z : Int32} {n n' : Int} (hz : z.toInt = x.toInt + 1) (h0 : 0 ≤ x.toInt) (h : n = (cnt P x.toNatClampNeg : Int)) (c : ¬ P x.toNatClampNeg = true) (hn : n' = n) : n' = (cnt P z.toNatClampNeg : Int) := by
  have e : z.toNatClampNeg = x.toNatClampNeg + 1 := by
    show z.toInt.toNat = x.toInt.toNat + 1
    omega
  rw [e]
  show n' = ((cnt P x.toNatClampNeg + (if P x.toNatClampNeg = true then 1 else 0) : Nat) : Int)
  rw [if_neg c]; omega
theorem ncl_eq {x y : Int32} (h : x.toInt = y.toInt) : x.toNatClampNeg = y.toNatClampNeg := by rw [Int32.toInt_inj.mp h]
theorem ncl_i {x : Int32} (h : 0 ≤ x.toInt) : ((x.toNatClampNeg : Nat) : Int) = x.toInt := by
  show ((x.toInt.toNat : Nat) : Int) = _
  omega

