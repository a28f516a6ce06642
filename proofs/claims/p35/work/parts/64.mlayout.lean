def fsM_0 (g : Nat → Nat) (v : Nat → Int32) (rc : Nat) : List Value := [.int (v 0), .int (v 1), .int (v 2), .ref (g 1), .ref (g 2), .ref (g 3), .int (v 6), .ref (g 4), .ref (g 5), .ref (g 6), .ref (g 7), .ref (g 8), .ref (g 9), .ref (g 10), .int (v 14), .ref (g 11), .ref (g 12), .ref (g 13), .ref (g 14), .int (v 19), .ref (g 15), .ref (g 16), .ref (g 17), .ref (g 18), .ref (g 19), .ref (g 20), .ref (g 21), .ref (g 22), .ref (g 23), .ref (g 24), .int (v 30), .int (v 31), .ref (g 25), .ref (g 26), .ref (g 27), .ref (g 28), .ref (g 29), .int (v 37), .int (v 38), .int (v 39), .int (v 40), .int (v 41), .int (v 42), .ref (g 30), .ref (g 31), .int (v 45), .ref (g 32), .ref (g 33), .ref (g 34), .ref (g 35), .ref (g 36), .ref (g 37), .ref (g 38), .ref (g 39), .ref (g 40), .ref (g 41), .ref (g 42), .int (v 57), .int (v 58), .ref (g 43), .int (v 60), .ref (g 44), .ref (g 45)]
def wM (g : Nat → Nat) (c : Nat → ClassId) (v : Nat → Int32) (F : Nat → Nat → Int32) (rc : Nat) : va_W := [(g 0, .inr (12, fsM_0 g v rc)), (g 1, .inl (c 1, 30, .inl (F 1))), (g 2, .inl (c 2, 10, .inl (F 2))), (g 3, .inl (c 3, 10, .inl (F 3))), (g 4, .inl (c 4, 10, .inl (F 4))), (g 5, .inl (c 5, 10, .inl (F 5))), (g 6, .inl (c 6, 10, .inl (F 6))), (g 7, .inl (c 7, 10, .inl (F 7))), (g 8, .inl (c 8, 10, .inl (F 8))), (g 9, .inl (c 9, 100, .inl (F 9))), (g 10, .inl (c 10, 100, .inl (F 10))), (g 11, .inl (c 11, 100, .inl (F 11))), (g 12, .inl (c 12, 100, .inl (F 12))), (g 13, .inl (c 13, 100, .inl (F 13))), (g 14, .inl (c 14, 300, .inl (F 14))), (g 15, .inl (c 15, 500, .inl (F 15))), (g 16, .inl (c 16, 500, .inl (F 16))), (g 17, .inl (c 17, 500, .inl (F 17))), (g 18, .inl (c 18, 500, .inl (F 18))), (g 19, .inl (c 19, 500, .inl (F 19))), (g 20, .inl (c 20, 500, .inl (F 20))), (g 21, .inl (c 21, 500, .inl (F 21))), (g 22, .inl (c 22, 500, .inl (F 22))), (g 23, .inl (c 23, 500, .inl (F 23))), (g 24, .inl (c 24, 120, .inl (F 24))), (g 25, .inl (c 25, 10, .inl (F 25))), (g 26, .inl (c 26, 10, .inl (F 26))), (g 27, .inl (c 27, 11, .inl (F 27))), (g 28, .inl (c 28, 1430, .inl (F 28))), (g 29, .inl (c 29, 1430, .inl (F 29))), (g 30, .inl (c 30, 130, .inl (F 30))), (g 31, .inl (c 31, 6, .inl (F 31))), (g 32, .inl (c 32, 20, .inl (F 32))), (g 33, .inl (c 33, 20, .inl (F 33))), (g 34, .inl (c 34, 200, .inl (F 34))), (g 35, .inl (c 35, 10, .inl (F 35))), (g 36, .inl (c 36, 10, .inl (F 36))), (g 37, .inl (c 37, 11, .inl (F 37))), (g 38, .inl (c 38, 352, .inl (F 38))), (g 39, .inl (c 39, 352, .inl (F 39))), (g 40, .inl (c 40, 352, .inl (F 40))), (g 41, .inl (c 41, 352, .inl (F 41))), (g 42, .inl (c 42, 100, .inl (F 42))), (g 43, .inl (c 43, 8, .inl (F 43))), (g 44, .inl (c 44, 10, .inl (F 44))), (g 45, .inl (c 45, 40, .inl (F 45)))]
def tyM (c : Nat → ClassId) : List (ClassId × FieldType) := [(c 1, .int), (c 2, .int), (c 3, .int), (c 4, .int), (c 5, .int), (c 6, .int), (c 7, .int), (c 8, .int), (c 9, .int), (c 10, .int), (c 11, .int), (c 12, .int), (c 13, .int), (c 14, .int), (c 15, .int), (c 16, .int), (c 17, .int), (c 18, .int), (c 19, .int), (c 20, .int), (c 21, .int), (c 22, .int), (c 23, .boolean), (c 24, .byte), (c 25, .int), (c 26, .int), (c 27, .int), (c 28, .int), (c 29, .int), (c 30, .int), (c 31, .int), (c 32, .int), (c 33, .int), (c 34, .boolean), (c 35, .int), (c 36, .int), (c 37, .int), (c 38, .int), (c 39, .int), (c 40, .int), (c 41, .int), (c 42, .boolean), (c 43, .int), (c 44, .int), (c 45, .int)]
def AM (g : Nat → Nat) (sz : Nat) : Nat → Prop := fun q => (∃ k : Nat, k < 46 ∧ q = g k) ∨ sz ≤ q
def injM (g : Nat → Nat) : Prop := ∀ i j : Nat, i < 46 → j < 46 → g i = g j → i = j
theorem wM_fst (g c v F rc) : (wM g c v F rc).map (·.1) = (List.range 46).map g := rfl
theorem wM_at {g : Nat → Nat} {c : Nat → ClassId} {v : Nat → Int32} {F : Nat → Nat → Int32} {rc : Nat} {k : Nat} {q : Nat × va_E} (h : (wM g c v F rc)[k]? = some q) : k < 46 ∧ q.1 = g k := by
  have h1 : ((wM g c v F rc).map (·.1))[k]? = some q.1 := by rw [List.getElem?_map, h]; rfl
  rw [wM_fst, List.getElem?_map] at h1
  by_cases hk : k < 46
  · rw [List.getElem?_range hk] at h1
    exact ⟨hk, (Option.some.inj h1).symm⟩
  · rw [List.getElem?_eq_none (by rw [List.length_range]; omega)] at h1
    cases h1
theorem DM {g : Nat → Nat} (hg : injM g) {sz : Nat} {c : Nat → ClassId} {v : Nat → Int32} {F : Nat → Nat → Int32} {rc : Nat} : va_D (AM g sz) (wM g c v F rc) :=
  ⟨fun i j p q h1 h2 e => hg i j (wM_at h1).1 (wM_at h2).1 (by rw [← (wM_at h1).2, ← (wM_at h2).2]; exact e), fun k q h => Or.inl ⟨k, (wM_at h).1, (wM_at h).2⟩⟩
theorem freeM {g : Nat → Nat} {s : State} {H : Heap} {locs : List Loc} (hS : va_S (AM g s.heap.size) s.heap H locs) : ∀ q, AM g H.size q → AM g s.heap.size q := fun q h => h.elim Or.inl (fun h => Or.inr (Nat.le_trans hS.1 h))
theorem pM_0 (g c v F rc) (x : Int32) : (wM g c v F rc).set 0 (g 0, .inr (12, (fsM_0 g v rc).set 0 (.int x))) = wM g c (va_up v 0 x) F rc := rfl
theorem pM_1 (g c v F rc) (x : Int32) : (wM g c v F rc).set 0 (g 0, .inr (12, (fsM_0 g v rc).set 1 (.int x))) = wM g c (va_up v 1 x) F rc := rfl
theorem pM_2 (g c v F rc) (x : Int32) : (wM g c v F rc).set 0 (g 0, .inr (12, (fsM_0 g v rc).set 2 (.int x))) = wM g c (va_up v 2 x) F rc := rfl
theorem pM_6 (g c v F rc) (x : Int32) : (wM g c v F rc).set 0 (g 0, .inr (12, (fsM_0 g v rc).set 6 (.int x))) = wM g c (va_up v 6 x) F rc := rfl
theorem pM_14 (g c v F rc) (x : Int32) : (wM g c v F rc).set 0 (g 0, .inr (12, (fsM_0 g v rc).set 14 (.int x))) = wM g c (va_up v 14 x) F rc := rfl
theorem pM_19 (g c v F rc) (x : Int32) : (wM g c v F rc).set 0 (g 0, .inr (12, (fsM_0 g v rc).set 19 (.int x))) = wM g c (va_up v 19 x) F rc := rfl
theorem pM_30 (g c v F rc) (x : Int32) : (wM g c v F rc).set 0 (g 0, .inr (12, (fsM_0 g v rc).set 30 (.int x))) = wM g c (va_up v 30 x) F rc := rfl
theorem pM_31 (g c v F rc) (x : Int32) : (wM g c v F rc).set 0 (g 0, .inr (12, (fsM_0 g v rc).set 31 (.int x))) = wM g c (va_up v 31 x) F rc := rfl
theorem pM_37 (g c v F rc) (x : Int32) : (wM g c v F rc).set 0 (g 0, .inr (12, (fsM_0 g v rc).set 37 (.int x))) = wM g c (va_up v 37 x) F rc := rfl
theorem pM_38 (g c v F rc) (x : Int32) : (wM g c v F rc).set 0 (g 0, .inr (12, (fsM_0 g v rc).set 38 (.int x))) = wM g c (va_up v 38 x) F rc := rfl
theorem pM_39 (g c v F rc) (x : Int32) : (wM g c v F rc).set 0 (g 0, .inr (12, (fsM_0 g v rc).set 39 (.int x))) = wM g c (va_up v 39 x) F rc := rfl
theorem pM_40 (g c v F rc) (x : Int32) : (wM g c v F rc).set 0 (g 0, .inr (12, (fsM_0 g v rc).set 40 (.int x))) = wM g c (va_up v 40 x) F rc := rfl
theorem pM_41 (g c v F rc) (x : Int32) : (wM g c v F rc).set 0 (g 0, .inr (12, (fsM_0 g v rc).set 41 (.int x))) = wM g c (va_up v 41 x) F rc := rfl
theorem pM_42 (g c v F rc) (x : Int32) : (wM g c v F rc).set 0 (g 0, .inr (12, (fsM_0 g v rc).set 42 (.int x))) = wM g c (va_up v 42 x) F rc := rfl
theorem pM_45 (g c v F rc) (x : Int32) : (wM g c v F rc).set 0 (g 0, .inr (12, (fsM_0 g v rc).set 45 (.int x))) = wM g c (va_up v 45 x) F rc := rfl
theorem pM_57 (g c v F rc) (x : Int32) : (wM g c v F rc).set 0 (g 0, .inr (12, (fsM_0 g v rc).set 57 (.int x))) = wM g c (va_up v 57 x) F rc := rfl
theorem pM_58 (g c v F rc) (x : Int32) : (wM g c v F rc).set 0 (g 0, .inr (12, (fsM_0 g v rc).set 58 (.int x))) = wM g c (va_up v 58 x) F rc := rfl
theorem pM_60 (g c v F rc) (x : Int32) : (wM g c v F rc).set 0 (g 0, .inr (12, (fsM_0 g v rc).set 60 (.int x))) = wM g c (va_up v 60 x) F rc := rfl
theorem sM_1 (g c v F rc) (f : Nat → Int32) : (wM g c v F rc).set 1 (g 1, .inl (c 1, 30, .inl f)) = wM g c v (va_up F 1 f) rc := rfl
theorem sM_2 (g c v F rc) (f : Nat → Int32) : (wM g c v F rc).set 2 (g 2, .inl (c 2, 10, .inl f)) = wM g c v (va_up F 2 f) rc := rfl
theorem sM_3 (g c v F rc) (f : Nat → Int32) : (wM g c v F rc).set 3 (g 3, .inl (c 3, 10, .inl f)) = wM g c v (va_up F 3 f) rc := rfl
theorem sM_4 (g c v F rc) (f : Nat → Int32) : (wM g c v F rc).set 4 (g 4, .inl (c 4, 10, .inl f)) = wM g c v (va_up F 4 f) rc := rfl
theorem sM_5 (g c v F rc) (f : Nat → Int32) : (wM g c v F rc).set 5 (g 5, .inl (c 5, 10, .inl f)) = wM g c v (va_up F 5 f) rc := rfl
theorem sM_6 (g c v F rc) (f : Nat → Int32) : (wM g c v F rc).set 6 (g 6, .inl (c 6, 10, .inl f)) = wM g c v (va_up F 6 f) rc := rfl
theorem sM_7 (g c v F rc) (f : Nat → Int32) : (wM g c v F rc).set 7 (g 7, .inl (c 7, 10, .inl f)) = wM g c v (va_up F 7 f) rc := rfl
theorem sM_8 (g c v F rc) (f : Nat → Int32) : (wM g c v F rc).set 8 (g 8, .inl (c 8, 10, .inl f)) = wM g c v (va_up F 8 f) rc := rfl
theorem sM_9 (g c v F rc) (f : Nat → Int32) : (wM g c v F rc).set 9 (g 9, .inl (c 9, 100, .inl f)) = wM g c v (va_up F 9 f) rc := rfl
theorem sM_10 (g c v F rc) (f : Nat → Int32) : (wM g c v F rc).set 10 (g 10, .inl (c 10, 100, .inl f)) = wM g c v (va_up F 10 f) rc := rfl
theorem sM_11 (g c v F rc) (f : Nat → Int32) : (wM g c v F rc).set 11 (g 11, .inl (c 11, 100, .inl f)) = wM g c v (va_up F 11 f) rc := rfl
theorem sM_12 (g c v F rc) (f : Nat → Int32) : (wM g c v F rc).set 12 (g 12, .inl (c 12, 100, .inl f)) = wM g c v (va_up F 12 f) rc := rfl
theorem sM_13 (g c v F rc) (f : Nat → Int32) : (wM g c v F rc).set 13 (g 13, .inl (c 13, 100, .inl f)) = wM g c v (va_up F 13 f) rc := rfl
theorem sM_14 (g c v F rc) (f : Nat → Int32) : (wM g c v F rc).set 14 (g 14, .inl (c 14, 300, .inl f)) = wM g c v (va_up F 14 f) rc := rfl
theorem sM_15 (g c v F rc) (f : Nat → Int32) : (wM g c v F rc).set 15 (g 15, .inl (c 15, 500, .inl f)) = wM g c v (va_up F 15 f) rc := rfl
theorem sM_16 (g c v F rc) (f : Nat → Int32) : (wM g c v F rc).set 16 (g 16, .inl (c 16, 500, .inl f)) = wM g c v (va_up F 16 f) rc := rfl
theorem sM_17 (g c v F rc) (f : Nat → Int32) : (wM g c v F rc).set 17 (g 17, .inl (c 17, 500, .inl f)) = wM g c v (va_up F 17 f) rc := rfl
theorem sM_18 (g c v F rc) (f : Nat → Int32) : (wM g c v F rc).set 18 (g 18, .inl (c 18, 500, .inl f)) = wM g c v (va_up F 18 f) rc := rfl
theorem sM_19 (g c v F rc) (f : Nat → Int32) : (wM g c v F rc).set 19 (g 19, .inl (c 19, 500, .inl f)) = wM g c v (va_up F 19 f) rc := rfl
theorem sM_20 (g c v F rc) (f : Nat → Int32) : (wM g c v F rc).set 20 (g 20, .inl (c 20, 500, .inl f)) = wM g c v (va_up F 20 f) rc := rfl
theorem sM_21 (g c v F rc) (f : Nat → Int32) : (wM g c v F rc).set 21 (g 21, .inl (c 21, 500, .inl f)) = wM g c v (va_up F 21 f) rc := rfl
theorem sM_22 (g c v F rc) (f : Nat → Int32) : (wM g c v F rc).set 22 (g 22, .inl (c 22, 500, .inl f)) = wM g c v (va_up F 22 f) rc := rfl
theorem sM_23 (g c v F rc) (f : Nat → Int32) : (wM g c v F rc).set 23 (g 23, .inl (c 23, 500, .inl f)) = wM g c v (va_up F 23 f) rc := rfl
theorem sM_24 (g c v F rc) (f : Nat → Int32) : (wM g c v F rc).set 24 (g 24, .inl (c 24, 120, .inl f)) = wM g c v (va_up F 24 f) rc := rfl
theorem sM_25 (g c v F rc) (f : Nat → Int32) : (wM g c v F rc).set 25 (g 25, .inl (c 25, 10, .inl f)) = wM g c v (va_up F 25 f) rc := rfl
theorem sM_26 (g c v F rc) (f : Nat → Int32) : (wM g c v F rc).set 26 (g 26, .inl (c 26, 10, .inl f)) = wM g c v (va_up F 26 f) rc := rfl
theorem sM_27 (g c v F rc) (f : Nat → Int32) : (wM g c v F rc).set 27 (g 27, .inl (c 27, 11, .inl f)) = wM g c v (va_up F 27 f) rc := rfl
theorem sM_28 (g c v F rc) (f : Nat → Int32) : (wM g c v F rc).set 28 (g 28, .inl (c 28, 1430, .inl f)) = wM g c v (va_up F 28 f) rc := rfl
theorem sM_29 (g c v F rc) (f : Nat → Int32) : (wM g c v F rc).set 29 (g 29, .inl (c 29, 1430, .inl f)) = wM g c v (va_up F 29 f) rc := rfl
theorem sM_30 (g c v F rc) (f : Nat → Int32) : (wM g c v F rc).set 30 (g 30, .inl (c 30, 130, .inl f)) = wM g c v (va_up F 30 f) rc := rfl
theorem sM_31 (g c v F rc) (f : Nat → Int32) : (wM g c v F rc).set 31 (g 31, .inl (c 31, 6, .inl f)) = wM g c v (va_up F 31 f) rc := rfl
theorem sM_32 (g c v F rc) (f : Nat → Int32) : (wM g c v F rc).set 32 (g 32, .inl (c 32, 20, .inl f)) = wM g c v (va_up F 32 f) rc := rfl
theorem sM_33 (g c v F rc) (f : Nat → Int32) : (wM g c v F rc).set 33 (g 33, .inl (c 33, 20, .inl f)) = wM g c v (va_up F 33 f) rc := rfl
theorem sM_34 (g c v F rc) (f : Nat → Int32) : (wM g c v F rc).set 34 (g 34, .inl (c 34, 200, .inl f)) = wM g c v (va_up F 34 f) rc := rfl
theorem sM_35 (g c v F rc) (f : Nat → Int32) : (wM g c v F rc).set 35 (g 35, .inl (c 35, 10, .inl f)) = wM g c v (va_up F 35 f) rc := rfl
theorem sM_36 (g c v F rc) (f : Nat → Int32) : (wM g c v F rc).set 36 (g 36, .inl (c 36, 10, .inl f)) = wM g c v (va_up F 36 f) rc := rfl
theorem sM_37 (g c v F rc) (f : Nat → Int32) : (wM g c v F rc).set 37 (g 37, .inl (c 37, 11, .inl f)) = wM g c v (va_up F 37 f) rc := rfl
theorem sM_38 (g c v F rc) (f : Nat → Int32) : (wM g c v F rc).set 38 (g 38, .inl (c 38, 352, .inl f)) = wM g c v (va_up F 38 f) rc := rfl
theorem sM_39 (g c v F rc) (f : Nat → Int32) : (wM g c v F rc).set 39 (g 39, .inl (c 39, 352, .inl f)) = wM g c v (va_up F 39 f) rc := rfl
theorem sM_40 (g c v F rc) (f : Nat → Int32) : (wM g c v F rc).set 40 (g 40, .inl (c 40, 352, .inl f)) = wM g c v (va_up F 40 f) rc := rfl
theorem sM_41 (g c v F rc) (f : Nat → Int32) : (wM g c v F rc).set 41 (g 41, .inl (c 41, 352, .inl f)) = wM g c v (va_up F 41 f) rc := rfl
theorem sM_42 (g c v F rc) (f : Nat → Int32) : (wM g c v F rc).set 42 (g 42, .inl (c 42, 100, .inl f)) = wM g c v (va_up F 42 f) rc := rfl
theorem sM_43 (g c v F rc) (f : Nat → Int32) : (wM g c v F rc).set 43 (g 43, .inl (c 43, 8, .inl f)) = wM g c v (va_up F 43 f) rc := rfl
theorem sM_44 (g c v F rc) (f : Nat → Int32) : (wM g c v F rc).set 44 (g 44, .inl (c 44, 10, .inl f)) = wM g c v (va_up F 44 f) rc := rfl
theorem sM_45 (g c v F rc) (f : Nat → Int32) : (wM g c v F rc).set 45 (g 45, .inl (c 45, 40, .inl f)) = wM g c v (va_up F 45 f) rc := rfl
def bM (k : Nat) : Option (Int × Int) := match k with | 1 => some (0, 9999) | 2 => some (0, 10) | 6 => some (0, 10) | 14 => some (0, 100) | 19 => some (0, 500) | 30 => some (0, 120) | 31 => some (0, 10) | 37 => some (0, 9) | 38 => some (0, 120) | 39 => some (0, 120) | 41 => some (0, 8) | 45 => some (0, 20) | _ => none
def aM (k : Nat) : Option (Int × Int) := match k with | 11 => some (0, 9) | 13 => some (0, 12) | 15 => some (0, 99) | 16 => some (0, 11) | 27 => some (0, 120) | 32 => some (0, 9) | 37 => some (0, 31) | 43 => some (0, 99) | 44 => some (0, 4) | _ => none
def IM (v : Nat → Int32) (F : Nat → Nat → Int32) : Prop := (∀ (k : Nat) (lo hi : Int), bM k = some (lo, hi) → lo ≤ (v k).toInt ∧ (v k).toInt ≤ hi) ∧ (∀ (k : Nat) (lo hi : Int), aM k = some (lo, hi) → ∀ j : Nat, lo ≤ (F k j).toInt ∧ (F k j).toInt ≤ hi)
theorem IM.put {v F} (h : IM v F) (k : Nat) (x : Int32) {lo hi : Int} (hb : bM k = some (lo, hi)) (hx : lo ≤ x.toInt ∧ x.toInt ≤ hi) : IM (va_up v k x) F := by
  refine ⟨fun k' lo' hi' hk => ?_, h.2⟩
  by_cases e : k' = k
  · subst e
    rw [va_up_self]
    rw [hb] at hk
    cases hk
    exact hx
  · rw [va_up_ne _ _ e]
    exact h.1 k' lo' hi' hk
theorem IM.put0 {v F} (h : IM v F) (k : Nat) (x : Int32) (hb : bM k = none) : IM (va_up v k x) F := by
  refine ⟨fun k' lo' hi' hk => ?_, h.2⟩
  by_cases e : k' = k
  · subst e
    rw [hb] at hk
    cases hk
  · rw [va_up_ne _ _ e]
    exact h.1 k' lo' hi' hk
theorem IM.fill {v F} (h : IM v F) (k : Nat) (f : Nat → Int32) (hf : ∀ lo hi : Int, aM k = some (lo, hi) → ∀ j : Nat, lo ≤ (f j).toInt ∧ (f j).toInt ≤ hi) : IM v (va_up F k f) := by
  refine ⟨h.1, fun k' lo' hi' hk j => ?_⟩
  by_cases e : k' = k
  · subst e
    rw [va_up_self]
    exact hf lo' hi' hk j
  · rw [va_up_ne _ _ e]
    exact h.2 k' lo' hi' hk j
theorem IM.store {v F} (h : IM v F) (k j : Nat) (x : Int32) {lo hi : Int} (hb : aM k = some (lo, hi)) (hx : lo ≤ x.toInt ∧ x.toInt ≤ hi) : IM v (va_up F k (upd (F k) j x)) :=
  h.fill k _ (fun lo' hi' hk i => by
    rw [hb] at hk
    cases hk
    by_cases e : i = j
    · subst e; simp only [upd, if_true]; exact hx
    · simp only [upd, if_neg e]; exact h.2 k lo hi hb i)
theorem IM.store0 {v F} (h : IM v F) (k j : Nat) (x : Int32) (hb : aM k = none) : IM v (va_up F k (upd (F k) j x)) := h.fill k _ (fun lo hi hk => by rw [hb] at hk; cases hk)
theorem IM.fill0 {v F} (h : IM v F) (k : Nat) (f : Nat → Int32) (hb : aM k = none) : IM v (va_up F k f) := h.fill k f (fun lo hi hk => by rw [hb] at hk; cases hk)
def alM (v : Nat → Int32) (F : Nat → Nat → Int32) : Int32 × Int32 × Int32 × Int32 × (Nat → Int32) × (Nat → Int32) := (v 2, v 6, v 1, v 45, F 44, F 45)
theorem alM_v (v : Nat → Int32) (F : Nat → Nat → Int32) (k : Nat) (x : Int32) (h0 : k ≠ 2) (h1 : k ≠ 6) (h2 : k ≠ 1) (h3 : k ≠ 45) : alM (va_up v k x) F = alM v F := by unfold alM; rw [va_up_ne v x (Ne.symm h0), va_up_ne v x (Ne.symm h1), va_up_ne v x (Ne.symm h2), va_up_ne v x (Ne.symm h3)]
theorem alM_F (v : Nat → Int32) (F : Nat → Nat → Int32) (k : Nat) (f : Nat → Int32) (h0 : k ≠ 44) (h1 : k ≠ 45) : alM v (va_up F k f) = alM v F := by unfold alM; rw [va_up_ne F f (Ne.symm h0), va_up_ne F f (Ne.symm h1)]

def EM (adK adV : Nat → Nat) (A : Nat → Prop) (U : State) : Prop := True
theorem EM.call {adK adV : Nat → Nat} {A : Nat → Prop} {U : State} (h : EM adK adV A U) (g : JFrame) (mk : MethodId) (a : Array Value) : EM adK adV A (U.calling g mk a) := trivial
theorem EM.at {adK adV : Nat → Nat} {A B : Nat → Prop} {s U : State} {H : Heap} {locs : List Loc} (h : EM adK adV A s) (hS : va_S A s.heap H locs) (hF : ∀ q, B q → A q) (hU : U.heap = H) (hW : s.WarmedH U.vm) : EM adK adV B U := trivial
theorem frUF {W : List Nat} {F1 F : Nat → Nat → Int32} {k : Nat} {f : Nat → Int32} (h : k ∈ W) (hF : ∀ j, j ∉ W → F1 j = F j) : ∀ j, j ∉ W → va_up F1 k f j = F j := fun j hj => by
  have hne : j ≠ k := fun e => hj (by rw [e]; exact h)
  rw [va_up_ne _ _ hne]
  exact hF j hj
theorem frCF {W W' : List Nat} {F2 F1 F : Nat → Nat → Int32} (hs : ∀ k ∈ W', k ∈ W) (h9 : ∀ k, k ∉ W' → F2 k = F1 k) (hf : ∀ k, k ∉ W → F1 k = F k) : ∀ k, k ∉ W → F2 k = F k := fun k hk => (h9 k (fun h => hk (hs k h))).trans (hf k hk)
def PM (dC : Nat → ClassId) (dI : Nat → Nat → Nat) (g : Nat → Nat) (c : Nat → ClassId) (adK adV : Nat → Nat) (v : Nat → Int32) (F : Nat → Nat → Int32) (rc sz : Nat) (U : State) : Prop := U.heap.size = sz ∧ va_P (dC, dI) classes (wM g c v F rc) U.heap ∧ va_K (dC, dI) classes (tyM c) U ∧ EM adK adV (AM g sz) U
theorem PM.blind {dC dI g c adK adV v F rc sz} {av : List Value} : FrameBlind (va_Pc av (PM dC dI g c adK adV v F rc sz)) := fun a U gf mk q => by
  obtain ⟨q0, q1, q2, q3, q4⟩ := q
  exact ⟨q0, q1, q2, va_K.moved (u := U) (U := U.calling gf mk a) (Vm.Alike.refl U.vm) q3, q4.call gf mk a⟩
theorem PM.at {dC dI g c adK adV v F rc} {s U : State} {H : Heap} {locs : List Loc} (hK : va_K (dC, dI) classes (tyM c) s) (hE : EM adK adV (AM g s.heap.size) s) (hP : va_P (dC, dI) classes (wM g c v F rc) H) (hS : va_S (AM g s.heap.size) s.heap H locs) (hU : U.heap = H) (hW : s.WarmedH U.vm) : PM dC dI g c adK adV v F rc H.size U :=
  ⟨by rw [hU], by rw [hU]; exact hP, va_K.moved hW.alike hK, hE.at hS (freeM hS) hU hW⟩
abbrev StM : Type := (Nat → Int32) × (Nat → Nat → Int32) × Nat
def BM (dC : Nat → ClassId) (dI : Nat → Nat → Nat) (g : Nat → Nat) (c : Nat → ClassId) (u : StM) (t : State) : Prop := va_P (dC, dI) classes (wM g c u.1 u.2.1 u.2.2) t.heap

