theorem nnbv (x : Int32) : 0 ≤ x.toInt ↔ x.toBitVec.toNat < 2147483648 := by
  have h : x.toInt = x.toBitVec.toInt := rfl
  rw [h, BitVec.toInt_eq_toNat_cond]
  have := x.toBitVec.isLt
  split <;> omega
theorem nnbvE (x : Int32) (h : 0 ≤ x.toInt) : x.toInt = (x.toBitVec.toNat : Int) := by
  have h1 := (nnbv x).mp h
  have h2 : x.toInt = x.toBitVec.toInt := rfl
  rw [h2, BitVec.toInt_eq_toNat_cond, if_pos (by omega)]
theorem tor {x y z : Int32} (ez : z = x ||| y) (hx : 0 ≤ x.toInt) (hy : 0 ≤ y.toInt) : 0 ≤ z.toInt := by
  rw [nnbv] at *
  rw [ez, Int32.toBitVec_or, BitVec.toNat_or]
  exact Nat.or_lt_two_pow (n := 31) hx hy
theorem tand {x y z : Int32} (ez : z = x &&& y) (hy : 0 ≤ y.toInt) : 0 ≤ z.toInt ∧ z.toInt ≤ y.toInt := by
  have h1 := (nnbv y).mp hy
  have h2 : z.toBitVec.toNat ≤ y.toBitVec.toNat := by
    rw [ez, Int32.toBitVec_and, BitVec.toNat_and]
    exact Nat.and_le_right
  have h3 : 0 ≤ z.toInt := (nnbv z).mpr (by omega)
  refine ⟨h3, ?_⟩
  rw [nnbvE z h3, nnbvE y hy]
  omega
theorem tshl4 {x z : Int32} (ez : z = x <<< (4 &&& 31)) (hx : 0 ≤ x.toInt ∧ x.toInt ≤ 134217727) : 0 ≤ z.toInt := by
  have h1 : z.toBitVec.toNat = x.toBitVec.toNat * 2 ^ 4 % 2 ^ 32 := by rw [ez]; exact pk_shl x (4 &&& 31) 4 (by decide)
  have h2 := nnbvE x hx.1
  rw [nnbv]
  omega

theorem tchar {x z : Int32} (ez : z = (x.toUInt32 % 65536).toInt32) (h : 0 ≤ x.toInt ∧ x.toInt ≤ 65535) : z.toInt = x.toInt := by
  have h1 : z.toBitVec.toNat = x.toBitVec.toNat % 65536 := by
    rw [ez]
    show (x.toUInt32 % 65536).toBitVec.toNat = _
    rw [UInt32.toBitVec_mod, BitVec.toNat_umod]
    rfl
  have h2 := nnbvE x h.1
  have h3 : z.toBitVec.toNat = x.toBitVec.toNat := by omega
  have h4 := nnbvE z ((nnbv z).mpr (by have := (nnbv x).mp h.1; omega))
  rw [h4, h3, h2]
theorem byteI (x : Int32) : x.toInt8.toInt32.toInt = Int.bmod x.toInt 256 := by
  rw [Int8.toInt_toInt32, Int32.toInt_toInt8]
theorem tbyte {x z : Int32} (ez : z = x.toInt8.toInt32) (h : 0 ≤ x.toInt ∧ x.toInt ≤ 255) : (x.toInt ≤ 127 ∧ z.toInt = x.toInt) ∨ (128 ≤ x.toInt ∧ z.toInt = x.toInt - 256) := by
  have h1 : z.toInt = Int.bmod x.toInt 256 := by rw [ez]; exact byteI x
  rw [Int.bmod_def] at h1
  split at h1 <;> omega
theorem and255 (z : Int32) : (z &&& 255).toInt = z.toInt % 256 := by
  have h2 : (z &&& 255).toBitVec.toNat = z.toBitVec.toNat % 256 := by
    rw [Int32.toBitVec_and, BitVec.toNat_and]
    have e : (255 : Int32).toBitVec.toNat = 2 ^ 8 - 1 := by decide
    rw [e, Nat.and_two_pow_sub_one_eq_mod]
  have h3 := nnbvE (z &&& 255) ((nnbv _).mpr (by rw [h2]; omega))
  have h4 : z.toInt = (z.toBitVec.toNat : Int) ∨ z.toInt = (z.toBitVec.toNat : Int) - 4294967296 := by
    have h : z.toInt = z.toBitVec.toInt := rfl
    rw [h, BitVec.toInt_eq_toNat_cond]
    split <;> omega
  rw [h3, h2]
  omega
theorem nrm_b (z : Int32) : nrm (z &&& 255).toInt = nrm (vp_nar .byte z.toInt8.toInt32).toInt := by
  have h1 := byteI z
  have h2 := byteI z.toInt8.toInt32
  rw [vp_nar_byte, h2, h1, and255]
  rw [Int.bmod_def, Int.bmod_def]
  unfold nrm
  repeat' split
  all_goals omega
theorem nms_at {z i : Int32} (ez : z = ([100, 104, 108, 119, 107, 110] : List Int32).getD i.toNatClampNeg 0) (h : 0 ≤ i.toInt ∧ i.toInt ≤ 5) : (i.toInt = 0 ∧ z.toInt = 100) ∨ (i.toInt = 1 ∧ z.toInt = 104) ∨ (i.toInt = 2 ∧ z.toInt = 108) ∨ (i.toInt = 3 ∧ z.toInt = 119) ∨ (i.toInt = 4 ∧ z.toInt = 107) ∨ (i.toInt = 5 ∧ z.toInt = 110) := by
  have e : i.toNatClampNeg = i.toInt.toNat := rfl
  rw [e] at ez
  rcases (show i.toInt = 0 ∨ i.toInt = 1 ∨ i.toInt = 2 ∨ i.toInt = 3 ∨ i.toInt = 4 ∨ i.toInt = 5 by omega) with q | q | q | q | q | q
  · have w : z.toInt = 100 := by rw [ez, q]; decide
    omega
  · have w : z.toInt = 104 := by rw [ez, q]; decide
    omega
  · have w : z.toInt = 108 := by rw [ez, q]; decide
    omega
  · have w : z.toInt = 119 := by rw [ez, q]; decide
    omega
  · have w : z.toInt = 107 := by rw [ez, q]; decide
    omega
  · have w : z.toInt = 110 := by rw [ez, q]; decide
    omega
def exF (Q : (Nat → Int32) → Prop) : Prop := ∃ x, Q x
def rdX (n : Int32) (B : Nat → Int32) (k : Nat) (d f h f' h' : Int) : Prop := f < 0 → rd true n B k d h f' h'
def goX (n : Int32) (B : Nat → Int32) (k k2 : Nat) (d f0 h f' h' : Int) : Prop := f0 < 0 → go true n B k k2 d h f' h'
def nmx (n : Int32) (B : Nat → Int32) (x f h f' h' : Int) : Prop := f < 0 → ¬ x = 45 → ¬ x = 40 → ∀ d, rd true n B 0 d h f' h'
def dgX (n : Int32) (B : Nat → Int32) (f h f' h' : Int) : Prop := f < 0 → dg true n B h f' h'
theorem sg_end {n : Int32} {B : Nat → Int32} {h : Int} (e : n.toInt ≤ h) : sg n B h = -1 := by
  unfold sg
  rw [if_neg (by omega)]
def dgA (n : Int32) (B : Nat → Int32) (h m : Int) : Prop := ∀ i : Nat, (i : Int) < m → 48 ≤ sg n B (h + i) ∧ sg n B (h + i) ≤ 57
theorem dgA.zero {n : Int32} {B : Nat → Int32} {h m : Int} (e : m = 0) : dgA n B h m := fun i hi => by omega
theorem dgA.step {n : Int32} {B : Nat → Int32} {h m m' q : Int} (w : dgA n B h m) (h0 : 0 ≤ m) (e : m' = m + 1) (eq : q = h + m) (hd : 48 ≤ sg n B q ∧ sg n B q ≤ 57) : dgA n B h m' := fun i hi => by
  by_cases z : (i : Int) < m
  · exact w i z
  · have e2 : h + (i : Int) = q := by omega
    rw [e2]; exact hd
theorem dgA.at' {n : Int32} {B : Nat → Int32} {h m q x : Int} (w : dgA n B h m) (h0 : 0 ≤ x) (h1 : x < m) (eq : q = h + x) : 48 ≤ sg n B q ∧ sg n B q ≤ 57 := by
  have := w x.toNat (by omega)
  have e2 : h + ((x.toNat : Nat) : Int) = q := by omega
  rw [e2] at this; exact this
theorem dg.none {c : Bool} {n : Int32} {B : Nat → Int32} {h f g : Int} (h0 : 0 ≤ h) (e : ¬ (48 ≤ sg n B h ∧ sg n B h ≤ 57)) (hf : f = h) (hg : g = h) : dg c n B h f g :=
  dg.of (m := 0) h0 ⟨by omega, by omega⟩ (fun i hi => by omega) (Or.inr (by rw [Int.add_zero]; exact e)) (Or.inl ⟨rfl, hf, hg⟩)
/-- the fault of a whole text -/
def top (c : Bool) (n : Int32) (B : Nat → Int32) (f : Int) : Prop := ∃ f1 g, rd c n B 6 0 0 f1 g ∧ ((0 ≤ f1 ∧ f = f1) ∨ (f1 < 0 ∧ g < n.toInt ∧ f = g) ∨ (f1 < 0 ∧ n.toInt ≤ g ∧ f < 0))
theorem top.mk {c : Bool} {n : Int32} {B : Nat → Int32} {d h f1 g f : Int} (w : rd c n B 6 d h f1 g) (hd : d = 0) (hh : h = 0) (e : (0 ≤ f1 ∧ f = f1) ∨ (f1 < 0 ∧ g < n.toInt ∧ f = g) ∨ (f1 < 0 ∧ n.toInt ≤ g ∧ f < 0)) : top c n B f := by
  subst hd; subst hh; exact ⟨f1, g, w, e⟩
theorem lans.top {c : Bool} {n : Int32} {B : Nat → Int32} {f L r L' : Int} (w : top c n B f) (ha : (f < 0 ∧ r = L ∧ L' = L + 1) ∨ (0 ≤ f ∧ r = -100 - f ∧ L' = L)) : lans c n B L r L' := by
  obtain ⟨f1, g, h1, h2⟩ := w
  exact lans.mk h1 rfl rfl h2 ha
/-- what feed does: m bytes are behind the n that there were -/
def fc (t : Int32 → Int32) (B B' : Nat → Int32) (n m : Int) (p : Int32) : Prop := (∀ j : Nat, (j : Int) < n → B' j = B j) ∧ (∀ i : Int32, 0 ≤ i.toInt → i.toInt < m → B' (n + i.toInt).toNat = t (p >>> (8 * i &&& 31)))
theorem fc.zero {t : Int32 → Int32} {B B' : Nat → Int32} {n m : Int} {p : Int32} (e : m = 0) (h : B' = B) : fc t B B' n m p := ⟨fun j _ => by rw [h], fun i h0 h1 => by omega⟩
theorem fc.step {t : Int32 → Int32} {B B1 B2 : Nat → Int32} {n m' : Int} {p x y : Int32} {j : Nat} (w : fc t B B1 n x.toInt p) (h0 : 0 ≤ n ∧ 0 ≤ x.toInt) (e : m' = x.toInt + 1) (ej : (j : Int) = n + x.toInt) (ey : y = t (p >>> (8 * x &&& 31))) (h : B2 = upd B1 j y) : fc t B B2 n m' p := by
  refine ⟨fun i hi => ?_, fun i hi h2 => ?_⟩
  · rw [h]
    have : i ≠ j := by omega
    simp only [upd, if_neg this]
    exact w.1 i hi
  · rw [h]
    by_cases z : i.toInt = x.toInt
    · have e1 : (n + i.toInt).toNat = j := by omega
      rw [e1]
      simp only [upd, if_true]
      rw [ey, Int32.toInt_inj.mp z]
    · have : (n + i.toInt).toNat ≠ j := by omega
      simp only [upd, if_neg this]
      exact w.2 i hi (by omega)

