section MYROWS
variable {p : Program} {l : Launch} {e : Env} {R : Room} {s : State} {m : MethodId} {args : Array Value} {below : List Frame} {meth : Method} {c : Code} {H : Heap} {locs : List Loc} {cells slots : Nat} {Q : State → Prop}
variable {cc : ByteArray} {pc : Nat} {ls : Array Slot} {rest : List Value} {D : va_G} {cl : List vw_C} {A : Nat → Prop} {a : Nat} {tys : List (ClassId × FieldType)} {ws : va_W} {H0 : Heap}
theorem my_top {x v : Int32} (h : x = v) (k : W p l e R s m args below meth c H locs cells slots Q (F0 m pc ls (.int v :: rest))) : W p l e R s m args below meth c H locs cells slots Q (F0 m pc ls (.int x :: rest)) := by
  subst h; exact k
theorem my_any {x v : Value} (h : x = v) (k : W p l e R s m args below meth c H locs cells slots Q (F0 m pc ls (v :: rest))) : W p l e R s m args below meth c H locs cells slots Q (F0 m pc ls (x :: rest)) := by
  subst h; exact k
theorem my_heap {H' : Heap} {g : JFrame} (h : H = H') (k : W p l e R s m args below meth c H locs cells slots Q g) : W p l e R s m args below meth c H' locs cells slots Q g := by
  subst h; exact k
theorem my_aald (hexec : p.tables.exec = Jvm.exec) (hb : c.code = cc) (hK : va_K D cl tys s) (hP : va_P D cl ws H) (q0 t0 : Nat) {cA : ClassId} {t : FieldType} {n : Nat} {f : Nat → Option Nat} (ha : ws[q0]? = some (a, .inl (cA, n, .inr (.inr (.inr (.inr f)))))) (ht : tys[t0]? = some (cA, .array t)) {i : Int32} (hin : vp_in i n) (hdg : decode cc pc = .ok (.aaload, 1))
    (kk : W p l e R s m args below meth c H locs cells slots Q (F0 m (pc + 1) ls (va_rf (f i.toNatClampNeg) :: rest))) : W p l e R s m args below meth c H locs cells slots Q (F0 m pc ls (.int i :: .ref a :: rest)) := by
  have hlt : i.toNatClampNeg < n := Nat.not_le.mp fun q => hin (Or.inr q)
  exact W.aald (v := va_rf (f i.toNatClampNeg)) (ty := .array t) hexec hb (hP q0 _ ha) ((hK.2 t0 _ ht).1 n (fun j => va_rf (f j))) rfl (fun q => by cases q) (by show ¬ (i < 0 ∨ (arrV _ _ _).slots.size ≤ _); rw [arrV_size]; exact hin) (by show (arrV _ _ _).slots[_]? = _; rw [arrV_read _ _ hlt]) rfl rfl hdg kk
end MYROWS

theorem va_P_eq {D : va_G} {cl : List vw_C} {w1 w2 : va_W} {H : Heap} (h : w1 = w2) (hP : va_P D cl w1 H) : va_P D cl w2 H := h ▸ hP
theorem i32_rng (x : Int32) : -2147483648 ≤ x.toInt ∧ x.toInt ≤ 2147483647 := ⟨Int32.minValue_le_toInt x, Int32.toInt_le x⟩
theorem cv_lt {x y : Int32} {a b : Int} (ha : x.toInt = a) (hb : y.toInt = b) (h : x < y) : a < b := by rw [← ha, ← hb]; exact Int32.lt_iff_toInt_lt.mp h
theorem cv_nlt {x y : Int32} {a b : Int} (ha : x.toInt = a) (hb : y.toInt = b) (h : ¬ x < y) : ¬ a < b := by rw [← ha, ← hb]; exact fun q => h (Int32.lt_iff_toInt_lt.mpr q)
theorem cv_le {x y : Int32} {a b : Int} (ha : x.toInt = a) (hb : y.toInt = b) (h : x ≤ y) : a ≤ b := by rw [← ha, ← hb]; exact Int32.le_iff_toInt_le.mp h
theorem cv_nle {x y : Int32} {a b : Int} (ha : x.toInt = a) (hb : y.toInt = b) (h : ¬ x ≤ y) : ¬ a ≤ b := by rw [← ha, ← hb]; exact fun q => h (Int32.le_iff_toInt_le.mpr q)
theorem cv_eq {x y : Int32} {a b : Int} (ha : x.toInt = a) (hb : y.toInt = b) (h : x = y) : a = b := by rw [← ha, ← hb, h]
theorem cv_ne {x y : Int32} {a b : Int} (ha : x.toInt = a) (hb : y.toInt = b) (h : ¬ x = y) : ¬ a = b := by rw [← ha, ← hb]; exact fun q => h (Int32.toInt_inj.mp q)
theorem tadd {x y z : Int32} {a b : Int} (ez : z = x + y) (ha : x.toInt = a) (hb : y.toInt = b) (h : -2147483648 ≤ a + b ∧ a + b ≤ 2147483647) : z.toInt = a + b := by
  rw [ez, Int32.toInt_add, ha, hb]; exact Int.bmod_eq_of_le (by omega) (by omega)
theorem tsub {x y z : Int32} {a b : Int} (ez : z = x - y) (ha : x.toInt = a) (hb : y.toInt = b) (h : -2147483648 ≤ a - b ∧ a - b ≤ 2147483647) : z.toInt = a - b := by
  rw [ez, Int32.toInt_sub, ha, hb]; exact Int.bmod_eq_of_le (by omega) (by omega)
theorem tmul {x y z : Int32} {a b : Int} (ez : z = x * y) (ha : x.toInt = a) (hb : y.toInt = b) (h : -2147483648 ≤ a * b ∧ a * b ≤ 2147483647) : z.toInt = a * b := by
  rw [ez, Int32.toInt_mul, ha, hb]; exact Int.bmod_eq_of_le (by omega) (by omega)
theorem frU {W : List Nat} {v1 v : Nat → Int32} {fid : Nat} {x : Int32} (h : fid ∈ W) (hf : ∀ k, k ∉ W → v1 k = v k) : ∀ k, k ∉ W → va_up v1 fid x k = v k := fun k hk => by
  have hne : k ≠ fid := fun e => hk (by rw [e]; exact h)
  rw [va_up_ne _ _ hne]
  exact hf k hk
theorem frC {W W' : List Nat} {v2 v1 v : Nat → Int32} (hs : ∀ k ∈ W', k ∈ W) (h9 : ∀ k, k ∉ W' → v2 k = v1 k) (hf : ∀ k, k ∉ W → v1 k = v k) : ∀ k, k ∉ W → v2 k = v k := fun k hk => (h9 k (fun h => hk (hs k h))).trans (hf k hk)
theorem ncl {x : Int32} {a : Int} (ha : x.toInt = a) : x.toNatClampNeg = a.toNat := by rw [← ha]; rfl
theorem vin {x : Int32} {n : Nat} {a : Int} (ha : x.toInt = a) (h : 0 ≤ a ∧ a < n) : vp_in x n := vp_in_iff.mpr (by rw [ha]; exact h)

theorem narB {x : Int32} (h : x.toInt = 0 ∨ x.toInt = 1) : narrow .boolean (.int x) = .int x := by
  rcases h with h | h
  · obtain rfl : x = 0 := Int32.toInt_inj.mp (h.trans (by decide)); rfl
  · obtain rfl : x = 1 := Int32.toInt_inj.mp (h.trans (by decide)); rfl
theorem nclt {x : Int32} {a : Int} {n : Nat} (ha : x.toInt = a) (h : 0 ≤ a ∧ a < n) : x.toNatClampNeg < n := by
  show x.toInt.toNat < n
  omega
theorem tmax {x y z : Int32} {a b : Int} (ez : z = if x < y then y else x) (ha : x.toInt = a) (hb : y.toInt = b) : (z.toInt = a ∨ z.toInt = b) ∧ a ≤ z.toInt ∧ b ≤ z.toInt := by
  rw [ez]
  by_cases h : x < y
  · have := cv_lt ha hb h
    rw [if_pos h, hb]; omega
  · have := cv_nlt ha hb h
    rw [if_neg h, ha]; omega
theorem tmin {x y z : Int32} {a b : Int} (ez : z = if y < x then y else x) (ha : x.toInt = a) (hb : y.toInt = b) : (z.toInt = a ∨ z.toInt = b) ∧ z.toInt ≤ a ∧ z.toInt ≤ b := by
  rw [ez]
  by_cases h : y < x
  · have := cv_lt hb ha h
    rw [if_pos h, hb]; omega
  · have := cv_nlt hb ha h
    rw [if_neg h, ha]; omega
def fsX_0 (g : Nat → Nat) (v : Nat → Int32) (rc : Nat) : List Value := [.ref (g 1), .ref (g 2), .ref (g 3), .ref (g 4), .ref (g 5), .ref (g 6), .ref (g 7), .ref (g 8), .ref (g 9), .ref (g 10), .ref (g 11), .int (v 11), .int (v 12), .int (v 13)]
def fsX_1 (g : Nat → Nat) (v : Nat → Int32) (rc : Nat) : List Value := [.int (v 20), .ref (g 12), .ref (g 13), .ref (g 14)]
def fsX_2 (g : Nat → Nat) (v : Nat → Int32) (rc : Nat) : List Value := [.int (v 40), .ref (g 15), .ref (g 16), .ref (g 17), .ref (g 18), .ref (g 19), .ref (g 20), .ref (g 21), .ref (g 22), .ref (g 23)]
def fsX_3 (g : Nat → Nat) (v : Nat → Int32) (rc : Nat) : List Value := [.ref (g 4), .int (v 61), .ref (g 24), .ref (g 25), .ref (g 26), .ref (g 27), .ref (g 28)]
def fsX_4 (g : Nat → Nat) (v : Nat → Int32) (rc : Nat) : List Value := [.int (v 80), .ref (g 29), .ref (g 30), .ref (g 31), .ref (g 32), .ref (g 33), .ref (g 34), .ref (g 35), .ref (g 36), .ref (g 37), .ref (g 38)]
def fsX_5 (g : Nat → Nat) (v : Nat → Int32) (rc : Nat) : List Value := [.int (v 100), .ref (g 39)]
def fsX_6 (g : Nat → Nat) (v : Nat → Int32) (rc : Nat) : List Value := [.int (v 120), .ref (g 40), .ref (g 41), .ref (g 42), .ref (g 43), .ref (g 54), .int (v 126)]
def fsX_7 (g : Nat → Nat) (v : Nat → Int32) (rc : Nat) : List Value := [.ref (g 5), .ref rc, .int (v 142), .int (v 143), .int (v 144)]
def fsX_8 (g : Nat → Nat) (v : Nat → Int32) (rc : Nat) : List Value := [.ref (g 2), .int (v 161), .ref (g 55), .ref (g 56), .ref (g 57)]
def fsX_9 (g : Nat → Nat) (v : Nat → Int32) (rc : Nat) : List Value := [.ref (g 5), .ref (g 58), .ref (g 59), .ref (g 60), .ref (g 61), .ref (g 72), .int (v 186), .int (v 187), .int (v 188)]
def fsX_10 (g : Nat → Nat) (v : Nat → Int32) (rc : Nat) : List Value := [.ref (g 1), .ref (g 3), .ref (g 4), .ref (g 6), .ref (g 73), .ref (g 74)]
def fsX_11 (g : Nat → Nat) (v : Nat → Int32) (rc : Nat) : List Value := [.ref (g 2), .ref (g 10), .ref (g 1), .ref (g 3), .ref (g 8), .ref (g 9), .ref (g 75), .ref (g 76), .ref (g 77), .int (v 229), .ref (g 78), .int (v 231), .int (v 232)]
def wX (g : Nat → Nat) (c : Nat → ClassId) (v : Nat → Int32) (F : Nat → Nat → Int32) (rc : Nat) : va_W := [(g 0, .inr (11, fsX_0 g v rc)), (g 1, .inr (2, fsX_1 g v rc)), (g 2, .inr (8, fsX_2 g v rc)), (g 3, .inr (7, fsX_3 g v rc)), (g 4, .inr (9, fsX_4 g v rc)), (g 5, .inr (10, fsX_5 g v rc)), (g 6, .inr (4, fsX_6 g v rc)), (g 7, .inr (3, fsX_7 g v rc)), (g 8, .inr (6, fsX_8 g v rc)), (g 9, .inr (0, fsX_9 g v rc)), (g 10, .inr (5, fsX_10 g v rc)), (g 11, .inr (1, fsX_11 g v rc)), (g 12, .inl (c 12, 30, .inl (F 12))), (g 13, .inl (c 13, 10, .inl (F 13))), (g 14, .inl (c 14, 10, .inl (F 14))), (g 15, .inl (c 15, 10, .inl (F 15))), (g 16, .inl (c 16, 10, .inl (F 16))), (g 17, .inl (c 17, 10, .inl (F 17))), (g 18, .inl (c 18, 10, .inl (F 18))), (g 19, .inl (c 19, 10, .inl (F 19))), (g 20, .inl (c 20, 10, .inl (F 20))), (g 21, .inl (c 21, 40, .inl (F 21))), (g 22, .inl (c 22, 100, .inl (F 22))), (g 23, .inl (c 23, 100, .inl (F 23))), (g 24, .inl (c 24, 100, .inl (F 24))), (g 25, .inl (c 25, 100, .inl (F 25))), (g 26, .inl (c 26, 100, .inl (F 26))), (g 27, .inl (c 27, 300, .inl (F 27))), (g 28, .inl (c 28, 100, .inl (F 28))), (g 29, .inl (c 29, 500, .inl (F 29))), (g 30, .inl (c 30, 500, .inl (F 30))), (g 31, .inl (c 31, 500, .inl (F 31))), (g 32, .inl (c 32, 500, .inl (F 32))), (g 33, .inl (c 33, 500, .inl (F 33))), (g 34, .inl (c 34, 500, .inl (F 34))), (g 35, .inl (c 35, 500, .inl (F 35))), (g 36, .inl (c 36, 500, .inl (F 36))), (g 37, .inl (c 37, 500, .inl (F 37))), (g 38, .inl (c 38, 100, .inl (F 38))), (g 39, .inl (c 39, 120, .inl (F 39))), (g 40, .inl (c 40, 10, .inl (F 40))), (g 41, .inl (c 41, 10, .inl (F 41))), (g 42, .inl (c 42, 10, .inl (F 42))), (g 43, .inl (c 43, 10, .inr (.inr (.inr (.inr (fun i => if i < 10 then some (g (44 + i)) else none)))))), (g 44, .inl (c 44, 120, .inl (F 44))), (g 45, .inl (c 45, 120, .inl (F 45))), (g 46, .inl (c 46, 120, .inl (F 46))), (g 47, .inl (c 47, 120, .inl (F 47))), (g 48, .inl (c 48, 120, .inl (F 48))), (g 49, .inl (c 49, 120, .inl (F 49))), (g 50, .inl (c 50, 120, .inl (F 50))), (g 51, .inl (c 51, 120, .inl (F 51))), (g 52, .inl (c 52, 120, .inl (F 52))), (g 53, .inl (c 53, 120, .inl (F 53))), (g 54, .inl (c 54, 120, .inl (F 54))), (g 55, .inl (c 55, 20, .inl (F 55))), (g 56, .inl (c 56, 20, .inl (F 56))), (g 57, .inl (c 57, 200, .inl (F 57))), (g 58, .inl (c 58, 10, .inl (F 58))), (g 59, .inl (c 59, 10, .inl (F 59))), (g 60, .inl (c 60, 10, .inl (F 60))), (g 61, .inl (c 61, 10, .inr (.inr (.inr (.inr (fun i => if i < 10 then some (g (62 + i)) else none)))))), (g 62, .inl (c 62, 120, .inl (F 62))), (g 63, .inl (c 63, 120, .inl (F 63))), (g 64, .inl (c 64, 120, .inl (F 64))), (g 65, .inl (c 65, 120, .inl (F 65))), (g 66, .inl (c 66, 120, .inl (F 66))), (g 67, .inl (c 67, 120, .inl (F 67))), (g 68, .inl (c 68, 120, .inl (F 68))), (g 69, .inl (c 69, 120, .inl (F 69))), (g 70, .inl (c 70, 120, .inl (F 70))), (g 71, .inl (c 71, 120, .inl (F 71))), (g 72, .inl (c 72, 120, .inl (F 72))), (g 73, .inl (c 73, 6, .inl (F 73))), (g 74, .inl (c 74, 3, .inl (F 74))), (g 75, .inl (c 75, 300, .inl (F 75))), (g 76, .inl (c 76, 100, .inl (F 76))), (g 77, .inl (c 77, 100, .inl (F 77))), (g 78, .inl (c 78, 8, .inl (F 78)))]
def tyX (c : Nat → ClassId) : List (ClassId × FieldType) := [(c 12, .int), (c 13, .int), (c 14, .int), (c 15, .int), (c 16, .int), (c 17, .int), (c 18, .int), (c 19, .int), (c 20, .int), (c 21, .int), (c 22, .int), (c 23, .int), (c 24, .int), (c 25, .int), (c 26, .int), (c 27, .int), (c 28, .int), (c 29, .int), (c 30, .int), (c 31, .int), (c 32, .int), (c 33, .int), (c 34, .int), (c 35, .int), (c 36, .boolean), (c 37, .int), (c 38, .int), (c 39, .int), (c 40, .int), (c 41, .int), (c 42, .int), (c 43, .array .int), (c 44, .int), (c 45, .int), (c 46, .int), (c 47, .int), (c 48, .int), (c 49, .int), (c 50, .int), (c 51, .int), (c 52, .int), (c 53, .int), (c 54, .int), (c 55, .int), (c 56, .int), (c 57, .boolean), (c 58, .int), (c 59, .int), (c 60, .int), (c 61, .array .int), (c 62, .int), (c 63, .int), (c 64, .int), (c 65, .int), (c 66, .int), (c 67, .int), (c 68, .int), (c 69, .int), (c 70, .int), (c 71, .int), (c 72, .int), (c 73, .int), (c 74, .int), (c 75, .int), (c 76, .int), (c 77, .int), (c 78, .int)]
def AX (g : Nat → Nat) (sz : Nat) : Nat → Prop := fun q => (∃ k : Nat, k < 79 ∧ q = g k) ∨ sz ≤ q
def injX (g : Nat → Nat) : Prop := ∀ i j : Nat, i < 79 → j < 79 → g i = g j → i = j
theorem wX_fst (g c v F rc) : (wX g c v F rc).map (·.1) = (List.range 79).map g := rfl
theorem wX_at {g : Nat → Nat} {c : Nat → ClassId} {v : Nat → Int32} {F : Nat → Nat → Int32} {rc : Nat} {k : Nat} {q : Nat × va_E} (h : (wX g c v F rc)[k]? = some q) : k < 79 ∧ q.1 = g k := by
  have h1 : ((wX g c v F rc).map (·.1))[k]? = some q.1 := by rw [List.getElem?_map, h]; rfl
  rw [wX_fst, List.getElem?_map] at h1
  by_cases hk : k < 79
  · rw [List.getElem?_range hk] at h1
    exact ⟨hk, (Option.some.inj h1).symm⟩
  · rw [List.getElem?_eq_none (by rw [List.length_range]; omega)] at h1
    cases h1
theorem DX {g : Nat → Nat} (hg : injX g) {sz : Nat} {c : Nat → ClassId} {v : Nat → Int32} {F : Nat → Nat → Int32} {rc : Nat} : va_D (AX g sz) (wX g c v F rc) :=
  ⟨fun i j p q h1 h2 e => hg i j (wX_at h1).1 (wX_at h2).1 (by rw [← (wX_at h1).2, ← (wX_at h2).2]; exact e), fun k q h => Or.inl ⟨k, (wX_at h).1, (wX_at h).2⟩⟩
theorem freeX {g : Nat → Nat} {s : State} {H : Heap} {locs : List Loc} (hS : va_S (AX g s.heap.size) s.heap H locs) : ∀ q, AX g H.size q → AX g s.heap.size q := fun q h => h.elim Or.inl (fun h => Or.inr (Nat.le_trans hS.1 h))
theorem pX_11 (g c v F rc) (x : Int32) : (wX g c v F rc).set 0 (g 0, .inr (11, (fsX_0 g v rc).set 11 (.int x))) = wX g c (va_up v 11 x) F rc := rfl
theorem pX_12 (g c v F rc) (x : Int32) : (wX g c v F rc).set 0 (g 0, .inr (11, (fsX_0 g v rc).set 12 (.int x))) = wX g c (va_up v 12 x) F rc := rfl
theorem pX_13 (g c v F rc) (x : Int32) : (wX g c v F rc).set 0 (g 0, .inr (11, (fsX_0 g v rc).set 13 (.int x))) = wX g c (va_up v 13 x) F rc := rfl
theorem pX_20 (g c v F rc) (x : Int32) : (wX g c v F rc).set 1 (g 1, .inr (2, (fsX_1 g v rc).set 0 (.int x))) = wX g c (va_up v 20 x) F rc := rfl
theorem pX_40 (g c v F rc) (x : Int32) : (wX g c v F rc).set 2 (g 2, .inr (8, (fsX_2 g v rc).set 0 (.int x))) = wX g c (va_up v 40 x) F rc := rfl
theorem pX_61 (g c v F rc) (x : Int32) : (wX g c v F rc).set 3 (g 3, .inr (7, (fsX_3 g v rc).set 1 (.int x))) = wX g c (va_up v 61 x) F rc := rfl
theorem pX_80 (g c v F rc) (x : Int32) : (wX g c v F rc).set 4 (g 4, .inr (9, (fsX_4 g v rc).set 0 (.int x))) = wX g c (va_up v 80 x) F rc := rfl
theorem pX_100 (g c v F rc) (x : Int32) : (wX g c v F rc).set 5 (g 5, .inr (10, (fsX_5 g v rc).set 0 (.int x))) = wX g c (va_up v 100 x) F rc := rfl
theorem pX_120 (g c v F rc) (x : Int32) : (wX g c v F rc).set 6 (g 6, .inr (4, (fsX_6 g v rc).set 0 (.int x))) = wX g c (va_up v 120 x) F rc := rfl
theorem pX_126 (g c v F rc) (x : Int32) : (wX g c v F rc).set 6 (g 6, .inr (4, (fsX_6 g v rc).set 6 (.int x))) = wX g c (va_up v 126 x) F rc := rfl
theorem pX_rc (g c v F rc) (x : Nat) : (wX g c v F rc).set 7 (g 7, .inr (3, (fsX_7 g v rc).set 1 (.ref x))) = wX g c v F x := rfl
theorem pX_142 (g c v F rc) (x : Int32) : (wX g c v F rc).set 7 (g 7, .inr (3, (fsX_7 g v rc).set 2 (.int x))) = wX g c (va_up v 142 x) F rc := rfl
theorem pX_143 (g c v F rc) (x : Int32) : (wX g c v F rc).set 7 (g 7, .inr (3, (fsX_7 g v rc).set 3 (.int x))) = wX g c (va_up v 143 x) F rc := rfl
theorem pX_144 (g c v F rc) (x : Int32) : (wX g c v F rc).set 7 (g 7, .inr (3, (fsX_7 g v rc).set 4 (.int x))) = wX g c (va_up v 144 x) F rc := rfl
theorem pX_161 (g c v F rc) (x : Int32) : (wX g c v F rc).set 8 (g 8, .inr (6, (fsX_8 g v rc).set 1 (.int x))) = wX g c (va_up v 161 x) F rc := rfl
theorem pX_186 (g c v F rc) (x : Int32) : (wX g c v F rc).set 9 (g 9, .inr (0, (fsX_9 g v rc).set 6 (.int x))) = wX g c (va_up v 186 x) F rc := rfl
theorem pX_187 (g c v F rc) (x : Int32) : (wX g c v F rc).set 9 (g 9, .inr (0, (fsX_9 g v rc).set 7 (.int x))) = wX g c (va_up v 187 x) F rc := rfl
theorem pX_188 (g c v F rc) (x : Int32) : (wX g c v F rc).set 9 (g 9, .inr (0, (fsX_9 g v rc).set 8 (.int x))) = wX g c (va_up v 188 x) F rc := rfl
theorem pX_229 (g c v F rc) (x : Int32) : (wX g c v F rc).set 11 (g 11, .inr (1, (fsX_11 g v rc).set 9 (.int x))) = wX g c (va_up v 229 x) F rc := rfl
theorem pX_231 (g c v F rc) (x : Int32) : (wX g c v F rc).set 11 (g 11, .inr (1, (fsX_11 g v rc).set 11 (.int x))) = wX g c (va_up v 231 x) F rc := rfl
theorem pX_232 (g c v F rc) (x : Int32) : (wX g c v F rc).set 11 (g 11, .inr (1, (fsX_11 g v rc).set 12 (.int x))) = wX g c (va_up v 232 x) F rc := rfl
theorem sX_12 (g c v F rc) (f : Nat → Int32) : (wX g c v F rc).set 12 (g 12, .inl (c 12, 30, .inl f)) = wX g c v (va_up F 12 f) rc := rfl
theorem sX_13 (g c v F rc) (f : Nat → Int32) : (wX g c v F rc).set 13 (g 13, .inl (c 13, 10, .inl f)) = wX g c v (va_up F 13 f) rc := rfl
theorem sX_14 (g c v F rc) (f : Nat → Int32) : (wX g c v F rc).set 14 (g 14, .inl (c 14, 10, .inl f)) = wX g c v (va_up F 14 f) rc := rfl
theorem sX_15 (g c v F rc) (f : Nat → Int32) : (wX g c v F rc).set 15 (g 15, .inl (c 15, 10, .inl f)) = wX g c v (va_up F 15 f) rc := rfl
theorem sX_16 (g c v F rc) (f : Nat → Int32) : (wX g c v F rc).set 16 (g 16, .inl (c 16, 10, .inl f)) = wX g c v (va_up F 16 f) rc := rfl
theorem sX_17 (g c v F rc) (f : Nat → Int32) : (wX g c v F rc).set 17 (g 17, .inl (c 17, 10, .inl f)) = wX g c v (va_up F 17 f) rc := rfl
theorem sX_18 (g c v F rc) (f : Nat → Int32) : (wX g c v F rc).set 18 (g 18, .inl (c 18, 10, .inl f)) = wX g c v (va_up F 18 f) rc := rfl
theorem sX_19 (g c v F rc) (f : Nat → Int32) : (wX g c v F rc).set 19 (g 19, .inl (c 19, 10, .inl f)) = wX g c v (va_up F 19 f) rc := rfl
theorem sX_20 (g c v F rc) (f : Nat → Int32) : (wX g c v F rc).set 20 (g 20, .inl (c 20, 10, .inl f)) = wX g c v (va_up F 20 f) rc := rfl
theorem sX_21 (g c v F rc) (f : Nat → Int32) : (wX g c v F rc).set 21 (g 21, .inl (c 21, 40, .inl f)) = wX g c v (va_up F 21 f) rc := rfl
theorem sX_22 (g c v F rc) (f : Nat → Int32) : (wX g c v F rc).set 22 (g 22, .inl (c 22, 100, .inl f)) = wX g c v (va_up F 22 f) rc := rfl
theorem sX_23 (g c v F rc) (f : Nat → Int32) : (wX g c v F rc).set 23 (g 23, .inl (c 23, 100, .inl f)) = wX g c v (va_up F 23 f) rc := rfl
theorem sX_24 (g c v F rc) (f : Nat → Int32) : (wX g c v F rc).set 24 (g 24, .inl (c 24, 100, .inl f)) = wX g c v (va_up F 24 f) rc := rfl
theorem sX_25 (g c v F rc) (f : Nat → Int32) : (wX g c v F rc).set 25 (g 25, .inl (c 25, 100, .inl f)) = wX g c v (va_up F 25 f) rc := rfl
theorem sX_26 (g c v F rc) (f : Nat → Int32) : (wX g c v F rc).set 26 (g 26, .inl (c 26, 100, .inl f)) = wX g c v (va_up F 26 f) rc := rfl
theorem sX_27 (g c v F rc) (f : Nat → Int32) : (wX g c v F rc).set 27 (g 27, .inl (c 27, 300, .inl f)) = wX g c v (va_up F 27 f) rc := rfl
theorem sX_28 (g c v F rc) (f : Nat → Int32) : (wX g c v F rc).set 28 (g 28, .inl (c 28, 100, .inl f)) = wX g c v (va_up F 28 f) rc := rfl
theorem sX_29 (g c v F rc) (f : Nat → Int32) : (wX g c v F rc).set 29 (g 29, .inl (c 29, 500, .inl f)) = wX g c v (va_up F 29 f) rc := rfl
theorem sX_30 (g c v F rc) (f : Nat → Int32) : (wX g c v F rc).set 30 (g 30, .inl (c 30, 500, .inl f)) = wX g c v (va_up F 30 f) rc := rfl
theorem sX_31 (g c v F rc) (f : Nat → Int32) : (wX g c v F rc).set 31 (g 31, .inl (c 31, 500, .inl f)) = wX g c v (va_up F 31 f) rc := rfl
theorem sX_32 (g c v F rc) (f : Nat → Int32) : (wX g c v F rc).set 32 (g 32, .inl (c 32, 500, .inl f)) = wX g c v (va_up F 32 f) rc := rfl
theorem sX_33 (g c v F rc) (f : Nat → Int32) : (wX g c v F rc).set 33 (g 33, .inl (c 33, 500, .inl f)) = wX g c v (va_up F 33 f) rc := rfl
theorem sX_34 (g c v F rc) (f : Nat → Int32) : (wX g c v F rc).set 34 (g 34, .inl (c 34, 500, .inl f)) = wX g c v (va_up F 34 f) rc := rfl
theorem sX_35 (g c v F rc) (f : Nat → Int32) : (wX g c v F rc).set 35 (g 35, .inl (c 35, 500, .inl f)) = wX g c v (va_up F 35 f) rc := rfl
theorem sX_36 (g c v F rc) (f : Nat → Int32) : (wX g c v F rc).set 36 (g 36, .inl (c 36, 500, .inl f)) = wX g c v (va_up F 36 f) rc := rfl
theorem sX_37 (g c v F rc) (f : Nat → Int32) : (wX g c v F rc).set 37 (g 37, .inl (c 37, 500, .inl f)) = wX g c v (va_up F 37 f) rc := rfl
theorem sX_38 (g c v F rc) (f : Nat → Int32) : (wX g c v F rc).set 38 (g 38, .inl (c 38, 100, .inl f)) = wX g c v (va_up F 38 f) rc := rfl
theorem sX_39 (g c v F rc) (f : Nat → Int32) : (wX g c v F rc).set 39 (g 39, .inl (c 39, 120, .inl f)) = wX g c v (va_up F 39 f) rc := rfl
theorem sX_40 (g c v F rc) (f : Nat → Int32) : (wX g c v F rc).set 40 (g 40, .inl (c 40, 10, .inl f)) = wX g c v (va_up F 40 f) rc := rfl
theorem sX_41 (g c v F rc) (f : Nat → Int32) : (wX g c v F rc).set 41 (g 41, .inl (c 41, 10, .inl f)) = wX g c v (va_up F 41 f) rc := rfl
theorem sX_42 (g c v F rc) (f : Nat → Int32) : (wX g c v F rc).set 42 (g 42, .inl (c 42, 10, .inl f)) = wX g c v (va_up F 42 f) rc := rfl
theorem sX_44 (g c v F rc) (f : Nat → Int32) : (wX g c v F rc).set 44 (g 44, .inl (c 44, 120, .inl f)) = wX g c v (va_up F 44 f) rc := rfl
theorem sX_45 (g c v F rc) (f : Nat → Int32) : (wX g c v F rc).set 45 (g 45, .inl (c 45, 120, .inl f)) = wX g c v (va_up F 45 f) rc := rfl
theorem sX_46 (g c v F rc) (f : Nat → Int32) : (wX g c v F rc).set 46 (g 46, .inl (c 46, 120, .inl f)) = wX g c v (va_up F 46 f) rc := rfl
theorem sX_47 (g c v F rc) (f : Nat → Int32) : (wX g c v F rc).set 47 (g 47, .inl (c 47, 120, .inl f)) = wX g c v (va_up F 47 f) rc := rfl
theorem sX_48 (g c v F rc) (f : Nat → Int32) : (wX g c v F rc).set 48 (g 48, .inl (c 48, 120, .inl f)) = wX g c v (va_up F 48 f) rc := rfl
theorem sX_49 (g c v F rc) (f : Nat → Int32) : (wX g c v F rc).set 49 (g 49, .inl (c 49, 120, .inl f)) = wX g c v (va_up F 49 f) rc := rfl
theorem sX_50 (g c v F rc) (f : Nat → Int32) : (wX g c v F rc).set 50 (g 50, .inl (c 50, 120, .inl f)) = wX g c v (va_up F 50 f) rc := rfl
theorem sX_51 (g c v F rc) (f : Nat → Int32) : (wX g c v F rc).set 51 (g 51, .inl (c 51, 120, .inl f)) = wX g c v (va_up F 51 f) rc := rfl
theorem sX_52 (g c v F rc) (f : Nat → Int32) : (wX g c v F rc).set 52 (g 52, .inl (c 52, 120, .inl f)) = wX g c v (va_up F 52 f) rc := rfl
theorem sX_53 (g c v F rc) (f : Nat → Int32) : (wX g c v F rc).set 53 (g 53, .inl (c 53, 120, .inl f)) = wX g c v (va_up F 53 f) rc := rfl
theorem sX_54 (g c v F rc) (f : Nat → Int32) : (wX g c v F rc).set 54 (g 54, .inl (c 54, 120, .inl f)) = wX g c v (va_up F 54 f) rc := rfl
theorem sX_55 (g c v F rc) (f : Nat → Int32) : (wX g c v F rc).set 55 (g 55, .inl (c 55, 20, .inl f)) = wX g c v (va_up F 55 f) rc := rfl
theorem sX_56 (g c v F rc) (f : Nat → Int32) : (wX g c v F rc).set 56 (g 56, .inl (c 56, 20, .inl f)) = wX g c v (va_up F 56 f) rc := rfl
theorem sX_57 (g c v F rc) (f : Nat → Int32) : (wX g c v F rc).set 57 (g 57, .inl (c 57, 200, .inl f)) = wX g c v (va_up F 57 f) rc := rfl
theorem sX_58 (g c v F rc) (f : Nat → Int32) : (wX g c v F rc).set 58 (g 58, .inl (c 58, 10, .inl f)) = wX g c v (va_up F 58 f) rc := rfl
theorem sX_59 (g c v F rc) (f : Nat → Int32) : (wX g c v F rc).set 59 (g 59, .inl (c 59, 10, .inl f)) = wX g c v (va_up F 59 f) rc := rfl
theorem sX_60 (g c v F rc) (f : Nat → Int32) : (wX g c v F rc).set 60 (g 60, .inl (c 60, 10, .inl f)) = wX g c v (va_up F 60 f) rc := rfl
theorem sX_62 (g c v F rc) (f : Nat → Int32) : (wX g c v F rc).set 62 (g 62, .inl (c 62, 120, .inl f)) = wX g c v (va_up F 62 f) rc := rfl
theorem sX_63 (g c v F rc) (f : Nat → Int32) : (wX g c v F rc).set 63 (g 63, .inl (c 63, 120, .inl f)) = wX g c v (va_up F 63 f) rc := rfl
theorem sX_64 (g c v F rc) (f : Nat → Int32) : (wX g c v F rc).set 64 (g 64, .inl (c 64, 120, .inl f)) = wX g c v (va_up F 64 f) rc := rfl
theorem sX_65 (g c v F rc) (f : Nat → Int32) : (wX g c v F rc).set 65 (g 65, .inl (c 65, 120, .inl f)) = wX g c v (va_up F 65 f) rc := rfl
theorem sX_66 (g c v F rc) (f : Nat → Int32) : (wX g c v F rc).set 66 (g 66, .inl (c 66, 120, .inl f)) = wX g c v (va_up F 66 f) rc := rfl
theorem sX_67 (g c v F rc) (f : Nat → Int32) : (wX g c v F rc).set 67 (g 67, .inl (c 67, 120, .inl f)) = wX g c v (va_up F 67 f) rc := rfl
theorem sX_68 (g c v F rc) (f : Nat → Int32) : (wX g c v F rc).set 68 (g 68, .inl (c 68, 120, .inl f)) = wX g c v (va_up F 68 f) rc := rfl
theorem sX_69 (g c v F rc) (f : Nat → Int32) : (wX g c v F rc).set 69 (g 69, .inl (c 69, 120, .inl f)) = wX g c v (va_up F 69 f) rc := rfl
theorem sX_70 (g c v F rc) (f : Nat → Int32) : (wX g c v F rc).set 70 (g 70, .inl (c 70, 120, .inl f)) = wX g c v (va_up F 70 f) rc := rfl
theorem sX_71 (g c v F rc) (f : Nat → Int32) : (wX g c v F rc).set 71 (g 71, .inl (c 71, 120, .inl f)) = wX g c v (va_up F 71 f) rc := rfl
theorem sX_72 (g c v F rc) (f : Nat → Int32) : (wX g c v F rc).set 72 (g 72, .inl (c 72, 120, .inl f)) = wX g c v (va_up F 72 f) rc := rfl
theorem sX_73 (g c v F rc) (f : Nat → Int32) : (wX g c v F rc).set 73 (g 73, .inl (c 73, 6, .inl f)) = wX g c v (va_up F 73 f) rc := rfl
theorem sX_74 (g c v F rc) (f : Nat → Int32) : (wX g c v F rc).set 74 (g 74, .inl (c 74, 3, .inl f)) = wX g c v (va_up F 74 f) rc := rfl
theorem sX_75 (g c v F rc) (f : Nat → Int32) : (wX g c v F rc).set 75 (g 75, .inl (c 75, 300, .inl f)) = wX g c v (va_up F 75 f) rc := rfl
theorem sX_76 (g c v F rc) (f : Nat → Int32) : (wX g c v F rc).set 76 (g 76, .inl (c 76, 100, .inl f)) = wX g c v (va_up F 76 f) rc := rfl
theorem sX_77 (g c v F rc) (f : Nat → Int32) : (wX g c v F rc).set 77 (g 77, .inl (c 77, 100, .inl f)) = wX g c v (va_up F 77 f) rc := rfl
theorem sX_78 (g c v F rc) (f : Nat → Int32) : (wX g c v F rc).set 78 (g 78, .inl (c 78, 8, .inl f)) = wX g c v (va_up F 78 f) rc := rfl
def bX (k : Nat) : Option (Int × Int) := match k with | 11 => some (0, 9999) | 20 => some (0, 10) | 40 => some (0, 10) | 61 => some (0, 100) | 80 => some (0, 500) | 100 => some (0, 120) | 120 => some (0, 10) | 126 => some (0, 120) | 142 => some (0, 120) | 161 => some (0, 20) | 186 => some (0, 30) | 229 => some (0, 100) | 231 => some (0, 8) | _ => none
def aX (k : Nat) : Option (Int × Int) := match k with | 20 => some (0, 4) | 24 => some (0, 9) | 37 => some (-1, 499) | 38 => some (-1, 499) | 42 => some (0, 120) | 44 => some (0, 2147483647) | 45 => some (0, 2147483647) | 46 => some (0, 2147483647) | 47 => some (0, 2147483647) | 48 => some (0, 2147483647) | 49 => some (0, 2147483647) | 50 => some (0, 2147483647) | 51 => some (0, 2147483647) | 52 => some (0, 2147483647) | 53 => some (0, 2147483647) | 55 => some (0, 9) | 58 => some (0, 30) | 77 => some (0, 99) | 78 => some (0, 99) | _ => none
def IX (v : Nat → Int32) (F : Nat → Nat → Int32) : Prop := (∀ (k : Nat) (lo hi : Int), bX k = some (lo, hi) → lo ≤ (v k).toInt ∧ (v k).toInt ≤ hi) ∧ (∀ (k : Nat) (lo hi : Int), aX k = some (lo, hi) → ∀ j : Nat, lo ≤ (F k j).toInt ∧ (F k j).toInt ≤ hi)
theorem IX.put {v F} (h : IX v F) (k : Nat) (x : Int32) {lo hi : Int} (hb : bX k = some (lo, hi)) (hx : lo ≤ x.toInt ∧ x.toInt ≤ hi) : IX (va_up v k x) F := by
  refine ⟨fun k' lo' hi' hk => ?_, h.2⟩
  by_cases e : k' = k
  · subst e
    rw [va_up_self]
    rw [hb] at hk
    cases hk
    exact hx
  · rw [va_up_ne _ _ e]
    exact h.1 k' lo' hi' hk
theorem IX.put0 {v F} (h : IX v F) (k : Nat) (x : Int32) (hb : bX k = none) : IX (va_up v k x) F := by
  refine ⟨fun k' lo' hi' hk => ?_, h.2⟩
  by_cases e : k' = k
  · subst e
    rw [hb] at hk
    cases hk
  · rw [va_up_ne _ _ e]
    exact h.1 k' lo' hi' hk
theorem IX.fill {v F} (h : IX v F) (k : Nat) (f : Nat → Int32) (hf : ∀ lo hi : Int, aX k = some (lo, hi) → ∀ j : Nat, lo ≤ (f j).toInt ∧ (f j).toInt ≤ hi) : IX v (va_up F k f) := by
  refine ⟨h.1, fun k' lo' hi' hk j => ?_⟩
  by_cases e : k' = k
  · subst e
    rw [va_up_self]
    exact hf lo' hi' hk j
  · rw [va_up_ne _ _ e]
    exact h.2 k' lo' hi' hk j
theorem IX.store {v F} (h : IX v F) (k j : Nat) (x : Int32) {lo hi : Int} (hb : aX k = some (lo, hi)) (hx : lo ≤ x.toInt ∧ x.toInt ≤ hi) : IX v (va_up F k (upd (F k) j x)) :=
  h.fill k _ (fun lo' hi' hk i => by
    rw [hb] at hk
    cases hk
    by_cases e : i = j
    · subst e; simp only [upd, if_true]; exact hx
    · simp only [upd, if_neg e]; exact h.2 k lo hi hb i)
theorem IX.store0 {v F} (h : IX v F) (k j : Nat) (x : Int32) (hb : aX k = none) : IX v (va_up F k (upd (F k) j x)) := h.fill k _ (fun lo hi hk => by rw [hb] at hk; cases hk)
theorem IX.fill0 {v F} (h : IX v F) (k : Nat) (f : Nat → Int32) (hb : aX k = none) : IX v (va_up F k f) := h.fill k f (fun lo hi hk => by rw [hb] at hk; cases hk)
theorem rowW44 {g c v F rc} {j : Nat} (h : j < 10) : (wX g c v F rc)[44 + j]? = some (g (44 + j), .inl (c (44 + j), 120, .inl (F (44 + j)))) := match j, h with | 0, _ => rfl | 1, _ => rfl | 2, _ => rfl | 3, _ => rfl | 4, _ => rfl | 5, _ => rfl | 6, _ => rfl | 7, _ => rfl | 8, _ => rfl | 9, _ => rfl | j + 10, h => absurd h (by omega)
theorem rowT44 {c : Nat → ClassId} {j : Nat} (h : j < 10) : (tyX c)[32 + j]? = some (c (44 + j), .int) := match j, h with | 0, _ => rfl | 1, _ => rfl | 2, _ => rfl | 3, _ => rfl | 4, _ => rfl | 5, _ => rfl | 6, _ => rfl | 7, _ => rfl | 8, _ => rfl | 9, _ => rfl | j + 10, h => absurd h (by omega)
theorem sX_row44 (g c v F rc) {j : Nat} (h : j < 10) (f : Nat → Int32) : (wX g c v F rc).set (44 + j) (g (44 + j), .inl (c (44 + j), 120, .inl f)) = wX g c v (va_up F (44 + j) f) rc := match j, h with | 0, _ => rfl | 1, _ => rfl | 2, _ => rfl | 3, _ => rfl | 4, _ => rfl | 5, _ => rfl | 6, _ => rfl | 7, _ => rfl | 8, _ => rfl | 9, _ => rfl | j + 10, h => absurd h (by omega)
theorem rowA44 {j : Nat} (h : j < 10) : aX (44 + j) = some (0, 2147483647) := match j, h with | 0, _ => rfl | 1, _ => rfl | 2, _ => rfl | 3, _ => rfl | 4, _ => rfl | 5, _ => rfl | 6, _ => rfl | 7, _ => rfl | 8, _ => rfl | 9, _ => rfl | j + 10, h => absurd h (by omega)
theorem rowW62 {g c v F rc} {j : Nat} (h : j < 10) : (wX g c v F rc)[62 + j]? = some (g (62 + j), .inl (c (62 + j), 120, .inl (F (62 + j)))) := match j, h with | 0, _ => rfl | 1, _ => rfl | 2, _ => rfl | 3, _ => rfl | 4, _ => rfl | 5, _ => rfl | 6, _ => rfl | 7, _ => rfl | 8, _ => rfl | 9, _ => rfl | j + 10, h => absurd h (by omega)
theorem rowT62 {c : Nat → ClassId} {j : Nat} (h : j < 10) : (tyX c)[50 + j]? = some (c (62 + j), .int) := match j, h with | 0, _ => rfl | 1, _ => rfl | 2, _ => rfl | 3, _ => rfl | 4, _ => rfl | 5, _ => rfl | 6, _ => rfl | 7, _ => rfl | 8, _ => rfl | 9, _ => rfl | j + 10, h => absurd h (by omega)
theorem sX_row62 (g c v F rc) {j : Nat} (h : j < 10) (f : Nat → Int32) : (wX g c v F rc).set (62 + j) (g (62 + j), .inl (c (62 + j), 120, .inl f)) = wX g c v (va_up F (62 + j) f) rc := match j, h with | 0, _ => rfl | 1, _ => rfl | 2, _ => rfl | 3, _ => rfl | 4, _ => rfl | 5, _ => rfl | 6, _ => rfl | 7, _ => rfl | 8, _ => rfl | 9, _ => rfl | j + 10, h => absurd h (by omega)
theorem rowN62 {j : Nat} (h : j < 10) : aX (62 + j) = none := match j, h with | 0, _ => rfl | 1, _ => rfl | 2, _ => rfl | 3, _ => rfl | 4, _ => rfl | 5, _ => rfl | 6, _ => rfl | 7, _ => rfl | 8, _ => rfl | 9, _ => rfl | j + 10, h => absurd h (by omega)
def alX (v : Nat → Int32) (F : Nat → Nat → Int32) : Int32 × Int32 × Int32 × Int32 × (Nat → Int32) × (Nat → Int32) := (v 20, v 40, v 11, v 161, F 20, F 21)
theorem alX_v (v : Nat → Int32) (F : Nat → Nat → Int32) (k : Nat) (x : Int32) (h0 : k ≠ 20) (h1 : k ≠ 40) (h2 : k ≠ 11) (h3 : k ≠ 161) : alX (va_up v k x) F = alX v F := by unfold alX; rw [va_up_ne v x (Ne.symm h0), va_up_ne v x (Ne.symm h1), va_up_ne v x (Ne.symm h2), va_up_ne v x (Ne.symm h3)]
theorem alX_F (v : Nat → Int32) (F : Nat → Nat → Int32) (k : Nat) (f : Nat → Int32) (h0 : k ≠ 20) (h1 : k ≠ 21) : alX v (va_up F k f) = alX v F := by unfold alX; rw [va_up_ne F f (Ne.symm h0), va_up_ne F f (Ne.symm h1)]

def EX (adK adV : Nat → Nat) (A : Nat → Prop) (U : State) : Prop := va_Nw (.methodLinkNest RX8 55 yX11_held "PlanesBack") U ∧ va_Nw (.methodLinkNest RX1 123 yX11_held "PlanesBack") U ∧ vk_R RX3 79 "dhlwkn" (adK 0) U ∧ vk_S 1 [6] [[100, 104, 108, 119, 107, 110]] adK adV A U U.heap ∧ va_Z "java/lang/String" "COMPACT_STRINGS" "Z" (.int 1) A U U.heap
theorem EX.call {adK adV : Nat → Nat} {A : Nat → Prop} {U : State} (h : EX adK adV A U) (g : JFrame) (mk : MethodId) (a : Array Value) : EX adK adV A (U.calling g mk a) :=
  ⟨va_Nw.same rfl (u := U) (U := U.calling g mk a) rfl h.1, va_Nw.same rfl (u := U) (U := U.calling g mk a) rfl h.2.1, vk_R.same (u := U) (U := U.calling g mk a) rfl h.2.2.1, vk_S.moved (u := U) (U := U.calling g mk a) (Vm.Alike.refl U.vm) h.2.2.2.1, va_Z.moved (u := U) (U := U.calling g mk a) (Vm.Alike.refl U.vm) h.2.2.2.2⟩
theorem EX.at {adK adV : Nat → Nat} {A B : Nat → Prop} {s U : State} {H : Heap} {locs : List Loc} (h : EX adK adV A s) (hS : va_S A s.heap H locs) (hF : ∀ q, B q → A q) (hU : U.heap = H) (hW : s.WarmedH U.vm) : EX adK adV B U :=
  ⟨va_Nw.warmM hW h.1, va_Nw.warmM hW h.2.1, vk_R.warm hW h.2.2.1, by rw [hU]; exact ((h.2.2.2.1.kept hS.2.1).narrow hF).moved hW.alike, by rw [hU]; exact ((h.2.2.2.2.kept hS.2.1).narrow hF).moved hW.alike⟩
def PX (dC : Nat → ClassId) (dI : Nat → Nat → Nat) (g : Nat → Nat) (c : Nat → ClassId) (adK adV : Nat → Nat) (v : Nat → Int32) (F : Nat → Nat → Int32) (rc sz : Nat) (U : State) : Prop := U.heap.size = sz ∧ va_P (dC, dI) classes (wX g c v F rc) U.heap ∧ va_K (dC, dI) classes (tyX c) U ∧ EX adK adV (AX g sz) U
theorem PX.blind {dC dI g c adK adV v F rc sz} {av : List Value} : FrameBlind (va_Pc av (PX dC dI g c adK adV v F rc sz)) := fun a U gf mk q => by
  obtain ⟨q0, q1, q2, q3, q4⟩ := q
  exact ⟨q0, q1, q2, va_K.moved (u := U) (U := U.calling gf mk a) (Vm.Alike.refl U.vm) q3, q4.call gf mk a⟩
theorem PX.at {dC dI g c adK adV v F rc} {s U : State} {H : Heap} {locs : List Loc} (hK : va_K (dC, dI) classes (tyX c) s) (hE : EX adK adV (AX g s.heap.size) s) (hP : va_P (dC, dI) classes (wX g c v F rc) H) (hS : va_S (AX g s.heap.size) s.heap H locs) (hU : U.heap = H) (hW : s.WarmedH U.vm) : PX dC dI g c adK adV v F rc H.size U :=
  ⟨by rw [hU], by rw [hU]; exact hP, va_K.moved hW.alike hK, hE.at hS (freeX hS) hU hW⟩
abbrev StX : Type := (Nat → Int32) × (Nat → Nat → Int32) × Nat
def BX (dC : Nat → ClassId) (dI : Nat → Nat → Nat) (g : Nat → Nat) (c : Nat → ClassId) (u : StX) (t : State) : Prop := va_P (dC, dI) classes (wX g c u.1 u.2.1 u.2.2) t.heap
