set_option maxHeartbeats 4000000 in
set_option maxRecDepth 100000 in
theorem c_X2_init (l : Launch) (dC : Nat → ClassId) (dI : Nat → Nat → Nat) (h0 : Nat) (sz : Nat) : Met l yX2_init (Cond.code yX2_init cX2_init 1 none :: wA) ({ frames := 1, cells := 3, slots := 50, locals := 40 }) (va_Pc [.ref h0] (fun U => U.heap.size = sz ∧ va_P (dC, dI) classes [(h0, .inr (2, [.int 0, .null, .null, .null]))] U.heap ∧ va_K (dC, dI) classes [] U ∧ va_D (fun _ => True) [(h0, .inr (2, [.int 0, .null, .null, .null]))])) (va_Qv (fun _ : Unit => True) (fun (_ : Unit) (t : State) => ∃ (gz : Nat → Nat), ∃ (c1 : ClassId), ∃ (c2 : ClassId), ∃ (c3 : ClassId), va_P (dC, dI) classes [(h0, .inr (2, o2 gz)), (gz 1, .inl (c1, 30, .inl (fun _ => 0))), (gz 2, .inl (c2, 10, .inl (fun _ => 0))), (gz 3, .inl (c3, 10, .inl (fun _ => 0)))] t.heap ∧ va_K (dC, dI) classes [(c1, .int), (c2, .int), (c3, .int)] t ∧ va_D (va_A [(h0, .inr (2, [.int 0, .null, .null, .null]))] sz) [(h0, .inr (2, o2 gz)), (gz 1, .inl (c1, 30, .inl (fun _ => 0))), (gz 2, .inl (c2, 10, .inl (fun _ => 0))), (gz 3, .inl (c3, 10, .inl (fun _ => 0)))]) (va_A [(h0, .inr (2, [.int 0, .null, .null, .null]))] sz)) 3 50 (va_A [(h0, .inr (2, [.int 0, .null, .null, .null]))] sz) := by
  refine Met.ofW (cc := cX2_init) (maxL := 1) (ret := none) (by decide) rfl ?_
  intro p e s m args below meth c s₁ B hml hv
  obtain ⟨rfl, hsz, hP, hK, hD0⟩ := hv
  have hx := B.exec
  have hb := B.bytes
  have hr := B.returns
  have hts := atoms_spec (ws := Cond.code yX2_init cX2_init 1 none :: wA) B.pre
  have hwd : ∀ w ∈ wA, w.before _ s = true := fun w h => hts w (List.mem_cons_of_mem _ h)
  have hown : s.vm.findClass RX2 = some m.cls := findClass_of_methodNamed B.named
  have hlocks := B.notSynchronized
  have hin : meth.name = "<init>" := (name_of_methodNamed B.named B.method).1
  subst hsz
  have hD := hD0.self (sz := s.heap.size)
  generalize hAe : va_A [(h0, .inr (2, [.int 0, .null, .null, .null]))] s.heap.size = A at hD ⊢
  have hA : ∀ q : Nat, s.heap.size ≤ q → A q := fun q h => by rw [← hAe]; exact Or.inr h
  have hS : va_S A s.heap s.heap [] := va_S.rf
  have hP : va_P (dC, dI) classes [(h0, .inr (2, [.int 0, .null, .null, .null]))] s.heap := hP
  have hl := lv_entry ([.ref h0]) (n := 1) (Nat.le_of_ble_eq_true rfl)
  rw [lg_entry_eq]
  generalize (lg_sl ([.ref h0]) ++ List.replicate (1 - (lg_sl ([.ref h0])).length) Slot.unset).toArray = ls at hl ⊢
  have hl : lv_has ls 1 [(0, .ref h0)] := hl
  obtain ⟨H, eH⟩ : ∃ z, z = s.heap := ⟨_, rfl⟩
  have hP : va_P (dC, dI) classes [(h0, .inr (2, [.int 0, .null, .null, .null]))] H := by rw [eH]; exact hP
  have hS : va_S A s.heap H [] := by rw [eH]; exact va_S.rf
  refine my_heap eH ?_
  refine lv_aload_n hx hb dX2_init_0 rfl (lv_at hl 0 rfl) ?_
  refine W.objInit hx hb hown (hwd _ wk_221) (hwd _ wk_222) (hwd _ wk_223) rfl (by rw [hml]; exact hl.1) rfl dX2_init_1 (Nat.le_of_ble_eq_true rfl) (Nat.le_of_ble_eq_true rfl) ?_
  refine W.eq (g2 := F0 m 4 ls []) rfl ?_
  refine lv_aload_n hx hb dX2_init_4 rfl (lv_at hl 0 rfl) ?_
  refine lv_bipush (v := 30) hx hb dX2_init_5 (by decide) ?_
  refine va_newa (atype := .int) (a0 := (30, .inl (fun _ => 0))) (ty := .int) (N' := 30) hx hb (hwd _ wk_224) rfl hK hP hD hS hA (fun _ => rfl) (by decide) (by decide) (by decide) (Nat.le_of_ble_eq_true rfl) (Nat.le_of_ble_eq_true rfl) dX2_init_7 (fun q_275 ca_276 H hK hP hD hS => ?_)
  have hK : va_K (dC, dI) classes [(ca_276, .int)] s := hK
  have hP : va_P (dC, dI) classes [(h0, .inr (2, [.int 0, .null, .null, .null])), (q_275, .inl (ca_276, 30, .inl (fun _ => 0)))] H := hP
  have hD : va_D A [(h0, .inr (2, [.int 0, .null, .null, .null])), (q_275, .inl (ca_276, 30, .inl (fun _ => 0)))] := hD
  refine W.widen (k := 1) (n := 30) (Nat.le_of_ble_eq_true rfl) (Nat.le_of_ble_eq_true rfl) ?_
  refine va_putF (D := (dC, dI)) (ci := 2) (v := .ref q_275) (ty := .array .int) (C := RX2) (T := TX2) (N := 4) hx hb hwd inA_X2 tyX2 tyX2_ok nmX2 hown hK hP hD hS 0 rfl rfl 1 (by decide) (hwd _ wk_61) (fun _ h9 => h9) rfl hin rfl (by decide +kernel) rfl rfl (Nat.le_of_ble_eq_true rfl) dX2_init_9 (fun H locs hP hD hS => ?_)
  have hP : va_P (dC, dI) classes [(h0, .inr (2, [.int 0, .ref q_275, .null, .null])), (q_275, .inl (ca_276, 30, .inl (fun _ => 0)))] H := hP
  have hD : va_D A [(h0, .inr (2, [.int 0, .ref q_275, .null, .null])), (q_275, .inl (ca_276, 30, .inl (fun _ => 0)))] := hD
  refine lv_aload_n hx hb dX2_init_12 rfl (lv_at hl 0 rfl) ?_
  refine lv_bipush (v := 10) hx hb dX2_init_13 (by decide) ?_
  refine va_newa (atype := .int) (a0 := (10, .inl (fun _ => 0))) (ty := .int) (N' := 10) hx hb (hwd _ wk_224) rfl hK hP hD hS hA (fun _ => rfl) (by decide) (by decide) (by decide) (Nat.le_of_ble_eq_true rfl) (Nat.le_of_ble_eq_true rfl) dX2_init_15 (fun q_277 ca_278 H hK hP hD hS => ?_)
  have hK : va_K (dC, dI) classes [(ca_276, .int), (ca_278, .int)] s := hK
  have hP : va_P (dC, dI) classes [(h0, .inr (2, [.int 0, .ref q_275, .null, .null])), (q_275, .inl (ca_276, 30, .inl (fun _ => 0))), (q_277, .inl (ca_278, 10, .inl (fun _ => 0)))] H := hP
  have hD : va_D A [(h0, .inr (2, [.int 0, .ref q_275, .null, .null])), (q_275, .inl (ca_276, 30, .inl (fun _ => 0))), (q_277, .inl (ca_278, 10, .inl (fun _ => 0)))] := hD
  refine W.widen (k := 2) (n := 40) (Nat.le_of_ble_eq_true rfl) (Nat.le_of_ble_eq_true rfl) ?_
  refine va_putF (D := (dC, dI)) (ci := 2) (v := .ref q_277) (ty := .array .int) (C := RX2) (T := TX2) (N := 4) hx hb hwd inA_X2 tyX2 tyX2_ok nmX2 hown hK hP hD hS 0 rfl rfl 2 (by decide) (hwd _ wk_62) (fun _ h9 => h9) rfl hin rfl (by decide +kernel) rfl rfl (Nat.le_of_ble_eq_true rfl) dX2_init_17 (fun H locs hP hD hS => ?_)
  have hP : va_P (dC, dI) classes [(h0, .inr (2, [.int 0, .ref q_275, .ref q_277, .null])), (q_275, .inl (ca_276, 30, .inl (fun _ => 0))), (q_277, .inl (ca_278, 10, .inl (fun _ => 0)))] H := hP
  have hD : va_D A [(h0, .inr (2, [.int 0, .ref q_275, .ref q_277, .null])), (q_275, .inl (ca_276, 30, .inl (fun _ => 0))), (q_277, .inl (ca_278, 10, .inl (fun _ => 0)))] := hD
  refine lv_aload_n hx hb dX2_init_20 rfl (lv_at hl 0 rfl) ?_
  refine lv_bipush (v := 10) hx hb dX2_init_21 (by decide) ?_
  refine va_newa (atype := .int) (a0 := (10, .inl (fun _ => 0))) (ty := .int) (N' := 10) hx hb (hwd _ wk_224) rfl hK hP hD hS hA (fun _ => rfl) (by decide) (by decide) (by decide) (Nat.le_of_ble_eq_true rfl) (Nat.le_of_ble_eq_true rfl) dX2_init_23 (fun q_279 ca_280 H hK hP hD hS => ?_)
  have hK : va_K (dC, dI) classes [(ca_276, .int), (ca_278, .int), (ca_280, .int)] s := hK
  have hP : va_P (dC, dI) classes [(h0, .inr (2, [.int 0, .ref q_275, .ref q_277, .null])), (q_275, .inl (ca_276, 30, .inl (fun _ => 0))), (q_277, .inl (ca_278, 10, .inl (fun _ => 0))), (q_279, .inl (ca_280, 10, .inl (fun _ => 0)))] H := hP
  have hD : va_D A [(h0, .inr (2, [.int 0, .ref q_275, .ref q_277, .null])), (q_275, .inl (ca_276, 30, .inl (fun _ => 0))), (q_277, .inl (ca_278, 10, .inl (fun _ => 0))), (q_279, .inl (ca_280, 10, .inl (fun _ => 0)))] := hD
  refine W.widen (k := 3) (n := 50) (Nat.le_of_ble_eq_true rfl) (Nat.le_of_ble_eq_true rfl) ?_
  refine va_putF (D := (dC, dI)) (ci := 2) (v := .ref q_279) (ty := .array .int) (C := RX2) (T := TX2) (N := 4) hx hb hwd inA_X2 tyX2 tyX2_ok nmX2 hown hK hP hD hS 0 rfl rfl 3 (by decide) (hwd _ wk_63) (fun _ h9 => h9) rfl hin rfl (by decide +kernel) rfl rfl (Nat.le_of_ble_eq_true rfl) dX2_init_25 (fun H locs hP hD hS => ?_)
  have hP : va_P (dC, dI) classes [(h0, .inr (2, [.int 0, .ref q_275, .ref q_277, .ref q_279])), (q_275, .inl (ca_276, 30, .inl (fun _ => 0))), (q_277, .inl (ca_278, 10, .inl (fun _ => 0))), (q_279, .inl (ca_280, 10, .inl (fun _ => 0)))] H := hP
  have hD : va_D A [(h0, .inr (2, [.int 0, .ref q_275, .ref q_277, .ref q_279])), (q_275, .inl (ca_276, 30, .inl (fun _ => 0))), (q_277, .inl (ca_278, 10, .inl (fun _ => 0))), (q_279, .inl (ca_280, 10, .inl (fun _ => 0)))] := hD
  have hP9 : va_P (dC, dI) classes [(h0, .inr (2, o2 (fun k => [0, q_275, q_277, q_279].getD k 0))), ((fun k => [0, q_275, q_277, q_279].getD k 0) 1, .inl (ca_276, 30, .inl (fun _ => 0))), ((fun k => [0, q_275, q_277, q_279].getD k 0) 2, .inl (ca_278, 10, .inl (fun _ => 0))), ((fun k => [0, q_275, q_277, q_279].getD k 0) 3, .inl (ca_280, 10, .inl (fun _ => 0)))] H := hP.sub [0, 1, 2, 3] rfl
  have hD9 : va_D A [(h0, .inr (2, o2 (fun k => [0, q_275, q_277, q_279].getD k 0))), ((fun k => [0, q_275, q_277, q_279].getD k 0) 1, .inl (ca_276, 30, .inl (fun _ => 0))), ((fun k => [0, q_275, q_277, q_279].getD k 0) 2, .inl (ca_278, 10, .inl (fun _ => 0))), ((fun k => [0, q_275, q_277, q_279].getD k 0) 3, .inl (ca_280, 10, .inl (fun _ => 0)))] := hD.sub [0, 1, 2, 3] (by decide) rfl
  have hK9 : va_K (dC, dI) classes [(ca_276, .int), (ca_278, .int), (ca_280, .int)] s := hK.sub [0, 1, 2] rfl
  exact W.vret hx hb hr (fun t ht hW => ⟨⟨(), rfl, trivial, (fun k => [0, q_275, q_277, q_279].getD k 0), ca_276, ca_278, ca_280, by rw [ht]; exact hP9, va_K.moved hW.alike hK9, hD9⟩, hS.F ht⟩) hS.2.2 dX2_init_28
set_option maxHeartbeats 4000000 in
set_option maxRecDepth 100000 in
theorem c_X8_init (l : Launch) (dC : Nat → ClassId) (dI : Nat → Nat → Nat) (h0 : Nat) (sz : Nat) : Met l yX8_init (Cond.code yX8_init cX8_init 1 none :: wA) ({ frames := 1, cells := 9, slots := 300, locals := 40 }) (va_Pc [.ref h0] (fun U => U.heap.size = sz ∧ va_P (dC, dI) classes [(h0, .inr (8, [.int 0, .null, .null, .null, .null, .null, .null, .null, .null, .null]))] U.heap ∧ va_K (dC, dI) classes [] U ∧ va_D (fun _ => True) [(h0, .inr (8, [.int 0, .null, .null, .null, .null, .null, .null, .null, .null, .null]))])) (va_Qv (fun _ : Unit => True) (fun (_ : Unit) (t : State) => ∃ (gz : Nat → Nat), ∃ (c1 : ClassId), ∃ (c4 : ClassId), ∃ (c5 : ClassId), va_P (dC, dI) classes [(h0, .inr (8, o8 gz)), (gz 1, .inl (c1, 10, .inl (fun _ => 0))), (gz 4, .inl (c4, 10, .inl (fun _ => 0))), (gz 5, .inl (c5, 10, .inl (fun _ => 0)))] t.heap ∧ va_K (dC, dI) classes [(c1, .int), (c4, .int), (c5, .int)] t ∧ va_D (va_A [(h0, .inr (8, [.int 0, .null, .null, .null, .null, .null, .null, .null, .null, .null]))] sz) [(h0, .inr (8, o8 gz)), (gz 1, .inl (c1, 10, .inl (fun _ => 0))), (gz 4, .inl (c4, 10, .inl (fun _ => 0))), (gz 5, .inl (c5, 10, .inl (fun _ => 0)))]) (va_A [(h0, .inr (8, [.int 0, .null, .null, .null, .null, .null, .null, .null, .null, .null]))] sz)) 9 300 (va_A [(h0, .inr (8, [.int 0, .null, .null, .null, .null, .null, .null, .null, .null, .null]))] sz) := by
  refine Met.ofW (cc := cX8_init) (maxL := 1) (ret := none) (by decide) rfl ?_
  intro p e s m args below meth c s₁ B hml hv
  obtain ⟨rfl, hsz, hP, hK, hD0⟩ := hv
  have hx := B.exec
  have hb := B.bytes
  have hr := B.returns
  have hts := atoms_spec (ws := Cond.code yX8_init cX8_init 1 none :: wA) B.pre
  have hwd : ∀ w ∈ wA, w.before _ s = true := fun w h => hts w (List.mem_cons_of_mem _ h)
  have hown : s.vm.findClass RX8 = some m.cls := findClass_of_methodNamed B.named
  have hlocks := B.notSynchronized
  have hin : meth.name = "<init>" := (name_of_methodNamed B.named B.method).1
  subst hsz
  have hD := hD0.self (sz := s.heap.size)
  generalize hAe : va_A [(h0, .inr (8, [.int 0, .null, .null, .null, .null, .null, .null, .null, .null, .null]))] s.heap.size = A at hD ⊢
  have hA : ∀ q : Nat, s.heap.size ≤ q → A q := fun q h => by rw [← hAe]; exact Or.inr h
  have hS : va_S A s.heap s.heap [] := va_S.rf
  have hP : va_P (dC, dI) classes [(h0, .inr (8, [.int 0, .null, .null, .null, .null, .null, .null, .null, .null, .null]))] s.heap := hP
  have hl := lv_entry ([.ref h0]) (n := 1) (Nat.le_of_ble_eq_true rfl)
  rw [lg_entry_eq]
  generalize (lg_sl ([.ref h0]) ++ List.replicate (1 - (lg_sl ([.ref h0])).length) Slot.unset).toArray = ls at hl ⊢
  have hl : lv_has ls 1 [(0, .ref h0)] := hl
  obtain ⟨H, eH⟩ : ∃ z, z = s.heap := ⟨_, rfl⟩
  have hP : va_P (dC, dI) classes [(h0, .inr (8, [.int 0, .null, .null, .null, .null, .null, .null, .null, .null, .null]))] H := by rw [eH]; exact hP
  have hS : va_S A s.heap H [] := by rw [eH]; exact va_S.rf
  refine my_heap eH ?_
  refine lv_aload_n hx hb dX8_init_0 rfl (lv_at hl 0 rfl) ?_
  refine W.objInit hx hb hown (hwd _ wk_225) (hwd _ wk_222) (hwd _ wk_223) rfl (by rw [hml]; exact hl.1) rfl dX8_init_1 (Nat.le_of_ble_eq_true rfl) (Nat.le_of_ble_eq_true rfl) ?_
  refine W.eq (g2 := F0 m 4 ls []) rfl ?_
  refine lv_aload_n hx hb dX8_init_4 rfl (lv_at hl 0 rfl) ?_
  refine lv_bipush (v := 10) hx hb dX8_init_5 (by decide) ?_
  refine va_newa (atype := .int) (a0 := (10, .inl (fun _ => 0))) (ty := .int) (N' := 10) hx hb (hwd _ wk_224) rfl hK hP hD hS hA (fun _ => rfl) (by decide) (by decide) (by decide) (Nat.le_of_ble_eq_true rfl) (Nat.le_of_ble_eq_true rfl) dX8_init_7 (fun q_281 ca_282 H hK hP hD hS => ?_)
  have hK : va_K (dC, dI) classes [(ca_282, .int)] s := hK
  have hP : va_P (dC, dI) classes [(h0, .inr (8, [.int 0, .null, .null, .null, .null, .null, .null, .null, .null, .null])), (q_281, .inl (ca_282, 10, .inl (fun _ => 0)))] H := hP
  have hD : va_D A [(h0, .inr (8, [.int 0, .null, .null, .null, .null, .null, .null, .null, .null, .null])), (q_281, .inl (ca_282, 10, .inl (fun _ => 0)))] := hD
  refine W.widen (k := 1) (n := 10) (Nat.le_of_ble_eq_true rfl) (Nat.le_of_ble_eq_true rfl) ?_
  refine va_putF (D := (dC, dI)) (ci := 8) (v := .ref q_281) (ty := .array .int) (C := RX8) (T := TX8) (N := 10) hx hb hwd inA_X8 tyX8 tyX8_ok nmX8 hown hK hP hD hS 0 rfl rfl 1 (by decide) (hwd _ wk_77) (fun _ h9 => h9) rfl hin rfl (by decide +kernel) rfl rfl (Nat.le_of_ble_eq_true rfl) dX8_init_9 (fun H locs hP hD hS => ?_)
  have hP : va_P (dC, dI) classes [(h0, .inr (8, [.int 0, .ref q_281, .null, .null, .null, .null, .null, .null, .null, .null])), (q_281, .inl (ca_282, 10, .inl (fun _ => 0)))] H := hP
  have hD : va_D A [(h0, .inr (8, [.int 0, .ref q_281, .null, .null, .null, .null, .null, .null, .null, .null])), (q_281, .inl (ca_282, 10, .inl (fun _ => 0)))] := hD
  refine lv_aload_n hx hb dX8_init_12 rfl (lv_at hl 0 rfl) ?_
  refine lv_bipush (v := 10) hx hb dX8_init_13 (by decide) ?_
  refine va_newa (atype := .int) (a0 := (10, .inl (fun _ => 0))) (ty := .int) (N' := 10) hx hb (hwd _ wk_224) rfl hK hP hD hS hA (fun _ => rfl) (by decide) (by decide) (by decide) (Nat.le_of_ble_eq_true rfl) (Nat.le_of_ble_eq_true rfl) dX8_init_15 (fun q_283 ca_284 H hK hP hD hS => ?_)
  have hK : va_K (dC, dI) classes [(ca_282, .int), (ca_284, .int)] s := hK
  have hP : va_P (dC, dI) classes [(h0, .inr (8, [.int 0, .ref q_281, .null, .null, .null, .null, .null, .null, .null, .null])), (q_281, .inl (ca_282, 10, .inl (fun _ => 0))), (q_283, .inl (ca_284, 10, .inl (fun _ => 0)))] H := hP
  have hD : va_D A [(h0, .inr (8, [.int 0, .ref q_281, .null, .null, .null, .null, .null, .null, .null, .null])), (q_281, .inl (ca_282, 10, .inl (fun _ => 0))), (q_283, .inl (ca_284, 10, .inl (fun _ => 0)))] := hD
  refine W.widen (k := 2) (n := 20) (Nat.le_of_ble_eq_true rfl) (Nat.le_of_ble_eq_true rfl) ?_
  have hP : va_P (dC, dI) classes [(h0, .inr (8, [.int 0, .ref q_281, .null, .null, .null, .null, .null, .null, .null, .null])), (q_281, .inl (ca_282, 10, .inl (fun _ => 0)))] H := hP.sub [0, 1] rfl
  have hD : va_D A [(h0, .inr (8, [.int 0, .ref q_281, .null, .null, .null, .null, .null, .null, .null, .null])), (q_281, .inl (ca_282, 10, .inl (fun _ => 0)))] := hD.sub [0, 1] (by decide) rfl
  refine va_putF (D := (dC, dI)) (ci := 8) (v := .ref q_283) (ty := .array .int) (C := RX8) (T := TX8) (N := 10) hx hb hwd inA_X8 tyX8 tyX8_ok nmX8 hown hK hP hD hS 0 rfl rfl 2 (by decide) (hwd _ wk_226) (fun _ h9 => h9) rfl hin rfl (by decide +kernel) rfl rfl (Nat.le_of_ble_eq_true rfl) dX8_init_17 (fun H locs hP hD hS => ?_)
  have hP : va_P (dC, dI) classes [(h0, .inr (8, [.int 0, .ref q_281, .ref q_283, .null, .null, .null, .null, .null, .null, .null])), (q_281, .inl (ca_282, 10, .inl (fun _ => 0)))] H := hP
  have hD : va_D A [(h0, .inr (8, [.int 0, .ref q_281, .ref q_283, .null, .null, .null, .null, .null, .null, .null])), (q_281, .inl (ca_282, 10, .inl (fun _ => 0)))] := hD
  refine lv_aload_n hx hb dX8_init_20 rfl (lv_at hl 0 rfl) ?_
  refine lv_bipush (v := 10) hx hb dX8_init_21 (by decide) ?_
  refine va_newa (atype := .int) (a0 := (10, .inl (fun _ => 0))) (ty := .int) (N' := 10) hx hb (hwd _ wk_224) rfl hK hP hD hS hA (fun _ => rfl) (by decide) (by decide) (by decide) (Nat.le_of_ble_eq_true rfl) (Nat.le_of_ble_eq_true rfl) dX8_init_23 (fun q_285 ca_286 H hK hP hD hS => ?_)
  have hK : va_K (dC, dI) classes [(ca_282, .int), (ca_284, .int), (ca_286, .int)] s := hK
  have hP : va_P (dC, dI) classes [(h0, .inr (8, [.int 0, .ref q_281, .ref q_283, .null, .null, .null, .null, .null, .null, .null])), (q_281, .inl (ca_282, 10, .inl (fun _ => 0))), (q_285, .inl (ca_286, 10, .inl (fun _ => 0)))] H := hP
  have hD : va_D A [(h0, .inr (8, [.int 0, .ref q_281, .ref q_283, .null, .null, .null, .null, .null, .null, .null])), (q_281, .inl (ca_282, 10, .inl (fun _ => 0))), (q_285, .inl (ca_286, 10, .inl (fun _ => 0)))] := hD
  refine W.widen (k := 3) (n := 30) (Nat.le_of_ble_eq_true rfl) (Nat.le_of_ble_eq_true rfl) ?_
  have hP : va_P (dC, dI) classes [(h0, .inr (8, [.int 0, .ref q_281, .ref q_283, .null, .null, .null, .null, .null, .null, .null])), (q_281, .inl (ca_282, 10, .inl (fun _ => 0)))] H := hP.sub [0, 1] rfl
  have hD : va_D A [(h0, .inr (8, [.int 0, .ref q_281, .ref q_283, .null, .null, .null, .null, .null, .null, .null])), (q_281, .inl (ca_282, 10, .inl (fun _ => 0)))] := hD.sub [0, 1] (by decide) rfl
  refine va_putF (D := (dC, dI)) (ci := 8) (v := .ref q_285) (ty := .array .int) (C := RX8) (T := TX8) (N := 10) hx hb hwd inA_X8 tyX8 tyX8_ok nmX8 hown hK hP hD hS 0 rfl rfl 3 (by decide) (hwd _ wk_227) (fun _ h9 => h9) rfl hin rfl (by decide +kernel) rfl rfl (Nat.le_of_ble_eq_true rfl) dX8_init_25 (fun H locs hP hD hS => ?_)
  have hP : va_P (dC, dI) classes [(h0, .inr (8, [.int 0, .ref q_281, .ref q_283, .ref q_285, .null, .null, .null, .null, .null, .null])), (q_281, .inl (ca_282, 10, .inl (fun _ => 0)))] H := hP
  have hD : va_D A [(h0, .inr (8, [.int 0, .ref q_281, .ref q_283, .ref q_285, .null, .null, .null, .null, .null, .null])), (q_281, .inl (ca_282, 10, .inl (fun _ => 0)))] := hD
  refine lv_aload_n hx hb dX8_init_28 rfl (lv_at hl 0 rfl) ?_
  refine lv_bipush (v := 10) hx hb dX8_init_29 (by decide) ?_
  refine va_newa (atype := .int) (a0 := (10, .inl (fun _ => 0))) (ty := .int) (N' := 10) hx hb (hwd _ wk_224) rfl hK hP hD hS hA (fun _ => rfl) (by decide) (by decide) (by decide) (Nat.le_of_ble_eq_true rfl) (Nat.le_of_ble_eq_true rfl) dX8_init_31 (fun q_287 ca_288 H hK hP hD hS => ?_)
  have hK : va_K (dC, dI) classes [(ca_282, .int), (ca_284, .int), (ca_286, .int), (ca_288, .int)] s := hK
  have hP : va_P (dC, dI) classes [(h0, .inr (8, [.int 0, .ref q_281, .ref q_283, .ref q_285, .null, .null, .null, .null, .null, .null])), (q_281, .inl (ca_282, 10, .inl (fun _ => 0))), (q_287, .inl (ca_288, 10, .inl (fun _ => 0)))] H := hP
  have hD : va_D A [(h0, .inr (8, [.int 0, .ref q_281, .ref q_283, .ref q_285, .null, .null, .null, .null, .null, .null])), (q_281, .inl (ca_282, 10, .inl (fun _ => 0))), (q_287, .inl (ca_288, 10, .inl (fun _ => 0)))] := hD
  refine W.widen (k := 4) (n := 40) (Nat.le_of_ble_eq_true rfl) (Nat.le_of_ble_eq_true rfl) ?_
  refine va_putF (D := (dC, dI)) (ci := 8) (v := .ref q_287) (ty := .array .int) (C := RX8) (T := TX8) (N := 10) hx hb hwd inA_X8 tyX8 tyX8_ok nmX8 hown hK hP hD hS 0 rfl rfl 4 (by decide) (hwd _ wk_78) (fun _ h9 => h9) rfl hin rfl (by decide +kernel) rfl rfl (Nat.le_of_ble_eq_true rfl) dX8_init_33 (fun H locs hP hD hS => ?_)
  have hP : va_P (dC, dI) classes [(h0, .inr (8, [.int 0, .ref q_281, .ref q_283, .ref q_285, .ref q_287, .null, .null, .null, .null, .null])), (q_281, .inl (ca_282, 10, .inl (fun _ => 0))), (q_287, .inl (ca_288, 10, .inl (fun _ => 0)))] H := hP
  have hD : va_D A [(h0, .inr (8, [.int 0, .ref q_281, .ref q_283, .ref q_285, .ref q_287, .null, .null, .null, .null, .null])), (q_281, .inl (ca_282, 10, .inl (fun _ => 0))), (q_287, .inl (ca_288, 10, .inl (fun _ => 0)))] := hD
  refine lv_aload_n hx hb dX8_init_36 rfl (lv_at hl 0 rfl) ?_
  refine lv_bipush (v := 10) hx hb dX8_init_37 (by decide) ?_
  refine va_newa (atype := .int) (a0 := (10, .inl (fun _ => 0))) (ty := .int) (N' := 10) hx hb (hwd _ wk_224) rfl hK hP hD hS hA (fun _ => rfl) (by decide) (by decide) (by decide) (Nat.le_of_ble_eq_true rfl) (Nat.le_of_ble_eq_true rfl) dX8_init_39 (fun q_289 ca_290 H hK hP hD hS => ?_)
  have hK : va_K (dC, dI) classes [(ca_282, .int), (ca_284, .int), (ca_286, .int), (ca_288, .int), (ca_290, .int)] s := hK
  have hP : va_P (dC, dI) classes [(h0, .inr (8, [.int 0, .ref q_281, .ref q_283, .ref q_285, .ref q_287, .null, .null, .null, .null, .null])), (q_281, .inl (ca_282, 10, .inl (fun _ => 0))), (q_287, .inl (ca_288, 10, .inl (fun _ => 0))), (q_289, .inl (ca_290, 10, .inl (fun _ => 0)))] H := hP
  have hD : va_D A [(h0, .inr (8, [.int 0, .ref q_281, .ref q_283, .ref q_285, .ref q_287, .null, .null, .null, .null, .null])), (q_281, .inl (ca_282, 10, .inl (fun _ => 0))), (q_287, .inl (ca_288, 10, .inl (fun _ => 0))), (q_289, .inl (ca_290, 10, .inl (fun _ => 0)))] := hD
  refine W.widen (k := 5) (n := 50) (Nat.le_of_ble_eq_true rfl) (Nat.le_of_ble_eq_true rfl) ?_
  refine va_putF (D := (dC, dI)) (ci := 8) (v := .ref q_289) (ty := .array .int) (C := RX8) (T := TX8) (N := 10) hx hb hwd inA_X8 tyX8 tyX8_ok nmX8 hown hK hP hD hS 0 rfl rfl 5 (by decide) (hwd _ wk_79) (fun _ h9 => h9) rfl hin rfl (by decide +kernel) rfl rfl (Nat.le_of_ble_eq_true rfl) dX8_init_41 (fun H locs hP hD hS => ?_)
  have hP : va_P (dC, dI) classes [(h0, .inr (8, [.int 0, .ref q_281, .ref q_283, .ref q_285, .ref q_287, .ref q_289, .null, .null, .null, .null])), (q_281, .inl (ca_282, 10, .inl (fun _ => 0))), (q_287, .inl (ca_288, 10, .inl (fun _ => 0))), (q_289, .inl (ca_290, 10, .inl (fun _ => 0)))] H := hP
  have hD : va_D A [(h0, .inr (8, [.int 0, .ref q_281, .ref q_283, .ref q_285, .ref q_287, .ref q_289, .null, .null, .null, .null])), (q_281, .inl (ca_282, 10, .inl (fun _ => 0))), (q_287, .inl (ca_288, 10, .inl (fun _ => 0))), (q_289, .inl (ca_290, 10, .inl (fun _ => 0)))] := hD
  refine lv_aload_n hx hb dX8_init_44 rfl (lv_at hl 0 rfl) ?_
  refine lv_bipush (v := 10) hx hb dX8_init_45 (by decide) ?_
  refine va_newa (atype := .int) (a0 := (10, .inl (fun _ => 0))) (ty := .int) (N' := 10) hx hb (hwd _ wk_224) rfl hK hP hD hS hA (fun _ => rfl) (by decide) (by decide) (by decide) (Nat.le_of_ble_eq_true rfl) (Nat.le_of_ble_eq_true rfl) dX8_init_47 (fun q_291 ca_292 H hK hP hD hS => ?_)
  have hK : va_K (dC, dI) classes [(ca_282, .int), (ca_284, .int), (ca_286, .int), (ca_288, .int), (ca_290, .int), (ca_292, .int)] s := hK
  have hP : va_P (dC, dI) classes [(h0, .inr (8, [.int 0, .ref q_281, .ref q_283, .ref q_285, .ref q_287, .ref q_289, .null, .null, .null, .null])), (q_281, .inl (ca_282, 10, .inl (fun _ => 0))), (q_287, .inl (ca_288, 10, .inl (fun _ => 0))), (q_289, .inl (ca_290, 10, .inl (fun _ => 0))), (q_291, .inl (ca_292, 10, .inl (fun _ => 0)))] H := hP
  have hD : va_D A [(h0, .inr (8, [.int 0, .ref q_281, .ref q_283, .ref q_285, .ref q_287, .ref q_289, .null, .null, .null, .null])), (q_281, .inl (ca_282, 10, .inl (fun _ => 0))), (q_287, .inl (ca_288, 10, .inl (fun _ => 0))), (q_289, .inl (ca_290, 10, .inl (fun _ => 0))), (q_291, .inl (ca_292, 10, .inl (fun _ => 0)))] := hD
  refine W.widen (k := 6) (n := 60) (Nat.le_of_ble_eq_true rfl) (Nat.le_of_ble_eq_true rfl) ?_
  have hP : va_P (dC, dI) classes [(h0, .inr (8, [.int 0, .ref q_281, .ref q_283, .ref q_285, .ref q_287, .ref q_289, .null, .null, .null, .null])), (q_281, .inl (ca_282, 10, .inl (fun _ => 0))), (q_287, .inl (ca_288, 10, .inl (fun _ => 0))), (q_289, .inl (ca_290, 10, .inl (fun _ => 0)))] H := hP.sub [0, 1, 2, 3] rfl
  have hD : va_D A [(h0, .inr (8, [.int 0, .ref q_281, .ref q_283, .ref q_285, .ref q_287, .ref q_289, .null, .null, .null, .null])), (q_281, .inl (ca_282, 10, .inl (fun _ => 0))), (q_287, .inl (ca_288, 10, .inl (fun _ => 0))), (q_289, .inl (ca_290, 10, .inl (fun _ => 0)))] := hD.sub [0, 1, 2, 3] (by decide) rfl
  refine va_putF (D := (dC, dI)) (ci := 8) (v := .ref q_291) (ty := .array .int) (C := RX8) (T := TX8) (N := 10) hx hb hwd inA_X8 tyX8 tyX8_ok nmX8 hown hK hP hD hS 0 rfl rfl 6 (by decide) (hwd _ wk_228) (fun _ h9 => h9) rfl hin rfl (by decide +kernel) rfl rfl (Nat.le_of_ble_eq_true rfl) dX8_init_49 (fun H locs hP hD hS => ?_)
  have hP : va_P (dC, dI) classes [(h0, .inr (8, [.int 0, .ref q_281, .ref q_283, .ref q_285, .ref q_287, .ref q_289, .ref q_291, .null, .null, .null])), (q_281, .inl (ca_282, 10, .inl (fun _ => 0))), (q_287, .inl (ca_288, 10, .inl (fun _ => 0))), (q_289, .inl (ca_290, 10, .inl (fun _ => 0)))] H := hP
  have hD : va_D A [(h0, .inr (8, [.int 0, .ref q_281, .ref q_283, .ref q_285, .ref q_287, .ref q_289, .ref q_291, .null, .null, .null])), (q_281, .inl (ca_282, 10, .inl (fun _ => 0))), (q_287, .inl (ca_288, 10, .inl (fun _ => 0))), (q_289, .inl (ca_290, 10, .inl (fun _ => 0)))] := hD
  refine lv_aload_n hx hb dX8_init_52 rfl (lv_at hl 0 rfl) ?_
  refine lv_bipush (v := 40) hx hb dX8_init_53 (by decide) ?_
  refine va_newa (atype := .int) (a0 := (40, .inl (fun _ => 0))) (ty := .int) (N' := 40) hx hb (hwd _ wk_224) rfl hK hP hD hS hA (fun _ => rfl) (by decide) (by decide) (by decide) (Nat.le_of_ble_eq_true rfl) (Nat.le_of_ble_eq_true rfl) dX8_init_55 (fun q_293 ca_294 H hK hP hD hS => ?_)
  have hK : va_K (dC, dI) classes [(ca_282, .int), (ca_284, .int), (ca_286, .int), (ca_288, .int), (ca_290, .int), (ca_292, .int), (ca_294, .int)] s := hK
  have hP : va_P (dC, dI) classes [(h0, .inr (8, [.int 0, .ref q_281, .ref q_283, .ref q_285, .ref q_287, .ref q_289, .ref q_291, .null, .null, .null])), (q_281, .inl (ca_282, 10, .inl (fun _ => 0))), (q_287, .inl (ca_288, 10, .inl (fun _ => 0))), (q_289, .inl (ca_290, 10, .inl (fun _ => 0))), (q_293, .inl (ca_294, 40, .inl (fun _ => 0)))] H := hP
  have hD : va_D A [(h0, .inr (8, [.int 0, .ref q_281, .ref q_283, .ref q_285, .ref q_287, .ref q_289, .ref q_291, .null, .null, .null])), (q_281, .inl (ca_282, 10, .inl (fun _ => 0))), (q_287, .inl (ca_288, 10, .inl (fun _ => 0))), (q_289, .inl (ca_290, 10, .inl (fun _ => 0))), (q_293, .inl (ca_294, 40, .inl (fun _ => 0)))] := hD
  refine W.widen (k := 7) (n := 100) (Nat.le_of_ble_eq_true rfl) (Nat.le_of_ble_eq_true rfl) ?_
  have hP : va_P (dC, dI) classes [(h0, .inr (8, [.int 0, .ref q_281, .ref q_283, .ref q_285, .ref q_287, .ref q_289, .ref q_291, .null, .null, .null])), (q_281, .inl (ca_282, 10, .inl (fun _ => 0))), (q_287, .inl (ca_288, 10, .inl (fun _ => 0))), (q_289, .inl (ca_290, 10, .inl (fun _ => 0)))] H := hP.sub [0, 1, 2, 3] rfl
  have hD : va_D A [(h0, .inr (8, [.int 0, .ref q_281, .ref q_283, .ref q_285, .ref q_287, .ref q_289, .ref q_291, .null, .null, .null])), (q_281, .inl (ca_282, 10, .inl (fun _ => 0))), (q_287, .inl (ca_288, 10, .inl (fun _ => 0))), (q_289, .inl (ca_290, 10, .inl (fun _ => 0)))] := hD.sub [0, 1, 2, 3] (by decide) rfl
  refine va_putF (D := (dC, dI)) (ci := 8) (v := .ref q_293) (ty := .array .int) (C := RX8) (T := TX8) (N := 10) hx hb hwd inA_X8 tyX8 tyX8_ok nmX8 hown hK hP hD hS 0 rfl rfl 7 (by decide) (hwd _ wk_229) (fun _ h9 => h9) rfl hin rfl (by decide +kernel) rfl rfl (Nat.le_of_ble_eq_true rfl) dX8_init_57 (fun H locs hP hD hS => ?_)
  have hP : va_P (dC, dI) classes [(h0, .inr (8, [.int 0, .ref q_281, .ref q_283, .ref q_285, .ref q_287, .ref q_289, .ref q_291, .ref q_293, .null, .null])), (q_281, .inl (ca_282, 10, .inl (fun _ => 0))), (q_287, .inl (ca_288, 10, .inl (fun _ => 0))), (q_289, .inl (ca_290, 10, .inl (fun _ => 0)))] H := hP
  have hD : va_D A [(h0, .inr (8, [.int 0, .ref q_281, .ref q_283, .ref q_285, .ref q_287, .ref q_289, .ref q_291, .ref q_293, .null, .null])), (q_281, .inl (ca_282, 10, .inl (fun _ => 0))), (q_287, .inl (ca_288, 10, .inl (fun _ => 0))), (q_289, .inl (ca_290, 10, .inl (fun _ => 0)))] := hD
  refine lv_aload_n hx hb dX8_init_60 rfl (lv_at hl 0 rfl) ?_
  refine lv_bipush (v := 100) hx hb dX8_init_61 (by decide) ?_
  refine va_newa (atype := .int) (a0 := (100, .inl (fun _ => 0))) (ty := .int) (N' := 100) hx hb (hwd _ wk_224) rfl hK hP hD hS hA (fun _ => rfl) (by decide) (by decide) (by decide) (Nat.le_of_ble_eq_true rfl) (Nat.le_of_ble_eq_true rfl) dX8_init_63 (fun q_295 ca_296 H hK hP hD hS => ?_)
  have hK : va_K (dC, dI) classes [(ca_282, .int), (ca_284, .int), (ca_286, .int), (ca_288, .int), (ca_290, .int), (ca_292, .int), (ca_294, .int), (ca_296, .int)] s := hK
  have hP : va_P (dC, dI) classes [(h0, .inr (8, [.int 0, .ref q_281, .ref q_283, .ref q_285, .ref q_287, .ref q_289, .ref q_291, .ref q_293, .null, .null])), (q_281, .inl (ca_282, 10, .inl (fun _ => 0))), (q_287, .inl (ca_288, 10, .inl (fun _ => 0))), (q_289, .inl (ca_290, 10, .inl (fun _ => 0))), (q_295, .inl (ca_296, 100, .inl (fun _ => 0)))] H := hP
  have hD : va_D A [(h0, .inr (8, [.int 0, .ref q_281, .ref q_283, .ref q_285, .ref q_287, .ref q_289, .ref q_291, .ref q_293, .null, .null])), (q_281, .inl (ca_282, 10, .inl (fun _ => 0))), (q_287, .inl (ca_288, 10, .inl (fun _ => 0))), (q_289, .inl (ca_290, 10, .inl (fun _ => 0))), (q_295, .inl (ca_296, 100, .inl (fun _ => 0)))] := hD
  refine W.widen (k := 8) (n := 200) (Nat.le_of_ble_eq_true rfl) (Nat.le_of_ble_eq_true rfl) ?_
  have hP : va_P (dC, dI) classes [(h0, .inr (8, [.int 0, .ref q_281, .ref q_283, .ref q_285, .ref q_287, .ref q_289, .ref q_291, .ref q_293, .null, .null])), (q_281, .inl (ca_282, 10, .inl (fun _ => 0))), (q_287, .inl (ca_288, 10, .inl (fun _ => 0))), (q_289, .inl (ca_290, 10, .inl (fun _ => 0)))] H := hP.sub [0, 1, 2, 3] rfl
  have hD : va_D A [(h0, .inr (8, [.int 0, .ref q_281, .ref q_283, .ref q_285, .ref q_287, .ref q_289, .ref q_291, .ref q_293, .null, .null])), (q_281, .inl (ca_282, 10, .inl (fun _ => 0))), (q_287, .inl (ca_288, 10, .inl (fun _ => 0))), (q_289, .inl (ca_290, 10, .inl (fun _ => 0)))] := hD.sub [0, 1, 2, 3] (by decide) rfl
  refine va_putF (D := (dC, dI)) (ci := 8) (v := .ref q_295) (ty := .array .int) (C := RX8) (T := TX8) (N := 10) hx hb hwd inA_X8 tyX8 tyX8_ok nmX8 hown hK hP hD hS 0 rfl rfl 8 (by decide) (hwd _ wk_230) (fun _ h9 => h9) rfl hin rfl (by decide +kernel) rfl rfl (Nat.le_of_ble_eq_true rfl) dX8_init_65 (fun H locs hP hD hS => ?_)
  have hP : va_P (dC, dI) classes [(h0, .inr (8, [.int 0, .ref q_281, .ref q_283, .ref q_285, .ref q_287, .ref q_289, .ref q_291, .ref q_293, .ref q_295, .null])), (q_281, .inl (ca_282, 10, .inl (fun _ => 0))), (q_287, .inl (ca_288, 10, .inl (fun _ => 0))), (q_289, .inl (ca_290, 10, .inl (fun _ => 0)))] H := hP
  have hD : va_D A [(h0, .inr (8, [.int 0, .ref q_281, .ref q_283, .ref q_285, .ref q_287, .ref q_289, .ref q_291, .ref q_293, .ref q_295, .null])), (q_281, .inl (ca_282, 10, .inl (fun _ => 0))), (q_287, .inl (ca_288, 10, .inl (fun _ => 0))), (q_289, .inl (ca_290, 10, .inl (fun _ => 0)))] := hD
  refine lv_aload_n hx hb dX8_init_68 rfl (lv_at hl 0 rfl) ?_
  refine lv_bipush (v := 100) hx hb dX8_init_69 (by decide) ?_
  refine va_newa (atype := .int) (a0 := (100, .inl (fun _ => 0))) (ty := .int) (N' := 100) hx hb (hwd _ wk_224) rfl hK hP hD hS hA (fun _ => rfl) (by decide) (by decide) (by decide) (Nat.le_of_ble_eq_true rfl) (Nat.le_of_ble_eq_true rfl) dX8_init_71 (fun q_297 ca_298 H hK hP hD hS => ?_)
  have hK : va_K (dC, dI) classes [(ca_282, .int), (ca_284, .int), (ca_286, .int), (ca_288, .int), (ca_290, .int), (ca_292, .int), (ca_294, .int), (ca_296, .int), (ca_298, .int)] s := hK
  have hP : va_P (dC, dI) classes [(h0, .inr (8, [.int 0, .ref q_281, .ref q_283, .ref q_285, .ref q_287, .ref q_289, .ref q_291, .ref q_293, .ref q_295, .null])), (q_281, .inl (ca_282, 10, .inl (fun _ => 0))), (q_287, .inl (ca_288, 10, .inl (fun _ => 0))), (q_289, .inl (ca_290, 10, .inl (fun _ => 0))), (q_297, .inl (ca_298, 100, .inl (fun _ => 0)))] H := hP
  have hD : va_D A [(h0, .inr (8, [.int 0, .ref q_281, .ref q_283, .ref q_285, .ref q_287, .ref q_289, .ref q_291, .ref q_293, .ref q_295, .null])), (q_281, .inl (ca_282, 10, .inl (fun _ => 0))), (q_287, .inl (ca_288, 10, .inl (fun _ => 0))), (q_289, .inl (ca_290, 10, .inl (fun _ => 0))), (q_297, .inl (ca_298, 100, .inl (fun _ => 0)))] := hD
  refine W.widen (k := 9) (n := 300) (Nat.le_of_ble_eq_true rfl) (Nat.le_of_ble_eq_true rfl) ?_
  have hP : va_P (dC, dI) classes [(h0, .inr (8, [.int 0, .ref q_281, .ref q_283, .ref q_285, .ref q_287, .ref q_289, .ref q_291, .ref q_293, .ref q_295, .null])), (q_281, .inl (ca_282, 10, .inl (fun _ => 0))), (q_287, .inl (ca_288, 10, .inl (fun _ => 0))), (q_289, .inl (ca_290, 10, .inl (fun _ => 0)))] H := hP.sub [0, 1, 2, 3] rfl
  have hD : va_D A [(h0, .inr (8, [.int 0, .ref q_281, .ref q_283, .ref q_285, .ref q_287, .ref q_289, .ref q_291, .ref q_293, .ref q_295, .null])), (q_281, .inl (ca_282, 10, .inl (fun _ => 0))), (q_287, .inl (ca_288, 10, .inl (fun _ => 0))), (q_289, .inl (ca_290, 10, .inl (fun _ => 0)))] := hD.sub [0, 1, 2, 3] (by decide) rfl
  refine va_putF (D := (dC, dI)) (ci := 8) (v := .ref q_297) (ty := .array .int) (C := RX8) (T := TX8) (N := 10) hx hb hwd inA_X8 tyX8 tyX8_ok nmX8 hown hK hP hD hS 0 rfl rfl 9 (by decide) (hwd _ wk_231) (fun _ h9 => h9) rfl hin rfl (by decide +kernel) rfl rfl (Nat.le_of_ble_eq_true rfl) dX8_init_73 (fun H locs hP hD hS => ?_)
  have hP : va_P (dC, dI) classes [(h0, .inr (8, [.int 0, .ref q_281, .ref q_283, .ref q_285, .ref q_287, .ref q_289, .ref q_291, .ref q_293, .ref q_295, .ref q_297])), (q_281, .inl (ca_282, 10, .inl (fun _ => 0))), (q_287, .inl (ca_288, 10, .inl (fun _ => 0))), (q_289, .inl (ca_290, 10, .inl (fun _ => 0)))] H := hP
  have hD : va_D A [(h0, .inr (8, [.int 0, .ref q_281, .ref q_283, .ref q_285, .ref q_287, .ref q_289, .ref q_291, .ref q_293, .ref q_295, .ref q_297])), (q_281, .inl (ca_282, 10, .inl (fun _ => 0))), (q_287, .inl (ca_288, 10, .inl (fun _ => 0))), (q_289, .inl (ca_290, 10, .inl (fun _ => 0)))] := hD
  have hP9 : va_P (dC, dI) classes [(h0, .inr (8, o8 (fun k => [0, q_281, q_283, q_285, q_287, q_289, q_291, q_293, q_295, q_297].getD k 0))), ((fun k => [0, q_281, q_283, q_285, q_287, q_289, q_291, q_293, q_295, q_297].getD k 0) 1, .inl (ca_282, 10, .inl (fun _ => 0))), ((fun k => [0, q_281, q_283, q_285, q_287, q_289, q_291, q_293, q_295, q_297].getD k 0) 4, .inl (ca_288, 10, .inl (fun _ => 0))), ((fun k => [0, q_281, q_283, q_285, q_287, q_289, q_291, q_293, q_295, q_297].getD k 0) 5, .inl (ca_290, 10, .inl (fun _ => 0)))] H := hP.sub [0, 1, 2, 3] rfl
  have hD9 : va_D A [(h0, .inr (8, o8 (fun k => [0, q_281, q_283, q_285, q_287, q_289, q_291, q_293, q_295, q_297].getD k 0))), ((fun k => [0, q_281, q_283, q_285, q_287, q_289, q_291, q_293, q_295, q_297].getD k 0) 1, .inl (ca_282, 10, .inl (fun _ => 0))), ((fun k => [0, q_281, q_283, q_285, q_287, q_289, q_291, q_293, q_295, q_297].getD k 0) 4, .inl (ca_288, 10, .inl (fun _ => 0))), ((fun k => [0, q_281, q_283, q_285, q_287, q_289, q_291, q_293, q_295, q_297].getD k 0) 5, .inl (ca_290, 10, .inl (fun _ => 0)))] := hD.sub [0, 1, 2, 3] (by decide) rfl
  have hK9 : va_K (dC, dI) classes [(ca_282, .int), (ca_288, .int), (ca_290, .int)] s := hK.sub [0, 3, 4] rfl
  exact W.vret hx hb hr (fun t ht hW => ⟨⟨(), rfl, trivial, (fun k => [0, q_281, q_283, q_285, q_287, q_289, q_291, q_293, q_295, q_297].getD k 0), ca_282, ca_288, ca_290, by rw [ht]; exact hP9, va_K.moved hW.alike hK9, hD9⟩, hS.F ht⟩) hS.2.2 dX8_init_76
set_option maxHeartbeats 4000000 in
set_option maxRecDepth 100000 in
theorem c_X9_init (l : Launch) (dC : Nat → ClassId) (dI : Nat → Nat → Nat) (h0 : Nat) (sz : Nat) : Met l yX9_init (Cond.code yX9_init cX9_init 1 none :: wA) ({ frames := 1, cells := 10, slots := 4600, locals := 40 }) (va_Pc [.ref h0] (fun U => U.heap.size = sz ∧ va_P (dC, dI) classes [(h0, .inr (9, [.int 0, .null, .null, .null, .null, .null, .null, .null, .null, .null, .null]))] U.heap ∧ va_K (dC, dI) classes [] U ∧ va_D (fun _ => True) [(h0, .inr (9, [.int 0, .null, .null, .null, .null, .null, .null, .null, .null, .null, .null]))])) (va_Qv (fun _ : Unit => True) (fun (_ : Unit) (t : State) => ∃ (gz : Nat → Nat), va_P (dC, dI) classes [(h0, .inr (9, o9 gz))] t.heap ∧ va_K (dC, dI) classes [] t ∧ va_D (va_A [(h0, .inr (9, [.int 0, .null, .null, .null, .null, .null, .null, .null, .null, .null, .null]))] sz) [(h0, .inr (9, o9 gz))]) (va_A [(h0, .inr (9, [.int 0, .null, .null, .null, .null, .null, .null, .null, .null, .null, .null]))] sz)) 10 4600 (va_A [(h0, .inr (9, [.int 0, .null, .null, .null, .null, .null, .null, .null, .null, .null, .null]))] sz) := by
  refine Met.ofW (cc := cX9_init) (maxL := 1) (ret := none) (by decide) rfl ?_
  intro p e s m args below meth c s₁ B hml hv
  obtain ⟨rfl, hsz, hP, hK, hD0⟩ := hv
  have hx := B.exec
  have hb := B.bytes
  have hr := B.returns
  have hts := atoms_spec (ws := Cond.code yX9_init cX9_init 1 none :: wA) B.pre
  have hwd : ∀ w ∈ wA, w.before _ s = true := fun w h => hts w (List.mem_cons_of_mem _ h)
  have hown : s.vm.findClass RX9 = some m.cls := findClass_of_methodNamed B.named
  have hlocks := B.notSynchronized
  have hin : meth.name = "<init>" := (name_of_methodNamed B.named B.method).1
  subst hsz
  have hD := hD0.self (sz := s.heap.size)
  generalize hAe : va_A [(h0, .inr (9, [.int 0, .null, .null, .null, .null, .null, .null, .null, .null, .null, .null]))] s.heap.size = A at hD ⊢
  have hA : ∀ q : Nat, s.heap.size ≤ q → A q := fun q h => by rw [← hAe]; exact Or.inr h
  have hS : va_S A s.heap s.heap [] := va_S.rf
  have hP : va_P (dC, dI) classes [(h0, .inr (9, [.int 0, .null, .null, .null, .null, .null, .null, .null, .null, .null, .null]))] s.heap := hP
  have hl := lv_entry ([.ref h0]) (n := 1) (Nat.le_of_ble_eq_true rfl)
  rw [lg_entry_eq]
  generalize (lg_sl ([.ref h0]) ++ List.replicate (1 - (lg_sl ([.ref h0])).length) Slot.unset).toArray = ls at hl ⊢
  have hl : lv_has ls 1 [(0, .ref h0)] := hl
  obtain ⟨H, eH⟩ : ∃ z, z = s.heap := ⟨_, rfl⟩
  have hP : va_P (dC, dI) classes [(h0, .inr (9, [.int 0, .null, .null, .null, .null, .null, .null, .null, .null, .null, .null]))] H := by rw [eH]; exact hP
  have hS : va_S A s.heap H [] := by rw [eH]; exact va_S.rf
  refine my_heap eH ?_
  refine lv_aload_n hx hb dX9_init_0 rfl (lv_at hl 0 rfl) ?_
  refine W.objInit hx hb hown (hwd _ wk_232) (hwd _ wk_222) (hwd _ wk_223) rfl (by rw [hml]; exact hl.1) rfl dX9_init_1 (Nat.le_of_ble_eq_true rfl) (Nat.le_of_ble_eq_true rfl) ?_
  refine W.eq (g2 := F0 m 4 ls []) rfl ?_
  refine lv_aload_n hx hb dX9_init_4 rfl (lv_at hl 0 rfl) ?_
  refine lv_sipush (v := 500) hx hb dX9_init_5 (by decide) ?_
  refine va_newa (atype := .int) (a0 := (500, .inl (fun _ => 0))) (ty := .int) (N' := 500) hx hb (hwd _ wk_224) rfl hK hP hD hS hA (fun _ => rfl) (by decide) (by decide) (by decide) (Nat.le_of_ble_eq_true rfl) (Nat.le_of_ble_eq_true rfl) dX9_init_8 (fun q_299 ca_300 H hK hP hD hS => ?_)
  have hK : va_K (dC, dI) classes [(ca_300, .int)] s := hK
  have hP : va_P (dC, dI) classes [(h0, .inr (9, [.int 0, .null, .null, .null, .null, .null, .null, .null, .null, .null, .null])), (q_299, .inl (ca_300, 500, .inl (fun _ => 0)))] H := hP
  have hD : va_D A [(h0, .inr (9, [.int 0, .null, .null, .null, .null, .null, .null, .null, .null, .null, .null])), (q_299, .inl (ca_300, 500, .inl (fun _ => 0)))] := hD
  refine W.widen (k := 1) (n := 500) (Nat.le_of_ble_eq_true rfl) (Nat.le_of_ble_eq_true rfl) ?_
  have hP : va_P (dC, dI) classes [(h0, .inr (9, [.int 0, .null, .null, .null, .null, .null, .null, .null, .null, .null, .null]))] H := hP.sub [0] rfl
  have hD : va_D A [(h0, .inr (9, [.int 0, .null, .null, .null, .null, .null, .null, .null, .null, .null, .null]))] := hD.sub [0] (by decide) rfl
  refine va_putF (D := (dC, dI)) (ci := 9) (v := .ref q_299) (ty := .array .int) (C := RX9) (T := TX9) (N := 11) hx hb hwd inA_X9 tyX9 tyX9_ok nmX9 hown hK hP hD hS 0 rfl rfl 1 (by decide) (hwd _ wk_233) (fun _ h9 => h9) rfl hin rfl (by decide +kernel) rfl rfl (Nat.le_of_ble_eq_true rfl) dX9_init_10 (fun H locs hP hD hS => ?_)
  have hP : va_P (dC, dI) classes [(h0, .inr (9, [.int 0, .ref q_299, .null, .null, .null, .null, .null, .null, .null, .null, .null]))] H := hP
  have hD : va_D A [(h0, .inr (9, [.int 0, .ref q_299, .null, .null, .null, .null, .null, .null, .null, .null, .null]))] := hD
  refine lv_aload_n hx hb dX9_init_13 rfl (lv_at hl 0 rfl) ?_
  refine lv_sipush (v := 500) hx hb dX9_init_14 (by decide) ?_
  refine va_newa (atype := .int) (a0 := (500, .inl (fun _ => 0))) (ty := .int) (N' := 500) hx hb (hwd _ wk_224) rfl hK hP hD hS hA (fun _ => rfl) (by decide) (by decide) (by decide) (Nat.le_of_ble_eq_true rfl) (Nat.le_of_ble_eq_true rfl) dX9_init_17 (fun q_301 ca_302 H hK hP hD hS => ?_)
  have hK : va_K (dC, dI) classes [(ca_300, .int), (ca_302, .int)] s := hK
  have hP : va_P (dC, dI) classes [(h0, .inr (9, [.int 0, .ref q_299, .null, .null, .null, .null, .null, .null, .null, .null, .null])), (q_301, .inl (ca_302, 500, .inl (fun _ => 0)))] H := hP
  have hD : va_D A [(h0, .inr (9, [.int 0, .ref q_299, .null, .null, .null, .null, .null, .null, .null, .null, .null])), (q_301, .inl (ca_302, 500, .inl (fun _ => 0)))] := hD
  refine W.widen (k := 2) (n := 1000) (Nat.le_of_ble_eq_true rfl) (Nat.le_of_ble_eq_true rfl) ?_
  have hP : va_P (dC, dI) classes [(h0, .inr (9, [.int 0, .ref q_299, .null, .null, .null, .null, .null, .null, .null, .null, .null]))] H := hP.sub [0] rfl
  have hD : va_D A [(h0, .inr (9, [.int 0, .ref q_299, .null, .null, .null, .null, .null, .null, .null, .null, .null]))] := hD.sub [0] (by decide) rfl
  refine va_putF (D := (dC, dI)) (ci := 9) (v := .ref q_301) (ty := .array .int) (C := RX9) (T := TX9) (N := 11) hx hb hwd inA_X9 tyX9 tyX9_ok nmX9 hown hK hP hD hS 0 rfl rfl 2 (by decide) (hwd _ wk_234) (fun _ h9 => h9) rfl hin rfl (by decide +kernel) rfl rfl (Nat.le_of_ble_eq_true rfl) dX9_init_19 (fun H locs hP hD hS => ?_)
  have hP : va_P (dC, dI) classes [(h0, .inr (9, [.int 0, .ref q_299, .ref q_301, .null, .null, .null, .null, .null, .null, .null, .null]))] H := hP
  have hD : va_D A [(h0, .inr (9, [.int 0, .ref q_299, .ref q_301, .null, .null, .null, .null, .null, .null, .null, .null]))] := hD
  refine lv_aload_n hx hb dX9_init_22 rfl (lv_at hl 0 rfl) ?_
  refine lv_sipush (v := 500) hx hb dX9_init_23 (by decide) ?_
  refine va_newa (atype := .int) (a0 := (500, .inl (fun _ => 0))) (ty := .int) (N' := 500) hx hb (hwd _ wk_224) rfl hK hP hD hS hA (fun _ => rfl) (by decide) (by decide) (by decide) (Nat.le_of_ble_eq_true rfl) (Nat.le_of_ble_eq_true rfl) dX9_init_26 (fun q_303 ca_304 H hK hP hD hS => ?_)
  have hK : va_K (dC, dI) classes [(ca_300, .int), (ca_302, .int), (ca_304, .int)] s := hK
  have hP : va_P (dC, dI) classes [(h0, .inr (9, [.int 0, .ref q_299, .ref q_301, .null, .null, .null, .null, .null, .null, .null, .null])), (q_303, .inl (ca_304, 500, .inl (fun _ => 0)))] H := hP
  have hD : va_D A [(h0, .inr (9, [.int 0, .ref q_299, .ref q_301, .null, .null, .null, .null, .null, .null, .null, .null])), (q_303, .inl (ca_304, 500, .inl (fun _ => 0)))] := hD
  refine W.widen (k := 3) (n := 1500) (Nat.le_of_ble_eq_true rfl) (Nat.le_of_ble_eq_true rfl) ?_
  have hP : va_P (dC, dI) classes [(h0, .inr (9, [.int 0, .ref q_299, .ref q_301, .null, .null, .null, .null, .null, .null, .null, .null]))] H := hP.sub [0] rfl
  have hD : va_D A [(h0, .inr (9, [.int 0, .ref q_299, .ref q_301, .null, .null, .null, .null, .null, .null, .null, .null]))] := hD.sub [0] (by decide) rfl
  refine va_putF (D := (dC, dI)) (ci := 9) (v := .ref q_303) (ty := .array .int) (C := RX9) (T := TX9) (N := 11) hx hb hwd inA_X9 tyX9 tyX9_ok nmX9 hown hK hP hD hS 0 rfl rfl 3 (by decide) (hwd _ wk_235) (fun _ h9 => h9) rfl hin rfl (by decide +kernel) rfl rfl (Nat.le_of_ble_eq_true rfl) dX9_init_28 (fun H locs hP hD hS => ?_)
  have hP : va_P (dC, dI) classes [(h0, .inr (9, [.int 0, .ref q_299, .ref q_301, .ref q_303, .null, .null, .null, .null, .null, .null, .null]))] H := hP
  have hD : va_D A [(h0, .inr (9, [.int 0, .ref q_299, .ref q_301, .ref q_303, .null, .null, .null, .null, .null, .null, .null]))] := hD
  refine lv_aload_n hx hb dX9_init_31 rfl (lv_at hl 0 rfl) ?_
  refine lv_sipush (v := 500) hx hb dX9_init_32 (by decide) ?_
  refine va_newa (atype := .int) (a0 := (500, .inl (fun _ => 0))) (ty := .int) (N' := 500) hx hb (hwd _ wk_224) rfl hK hP hD hS hA (fun _ => rfl) (by decide) (by decide) (by decide) (Nat.le_of_ble_eq_true rfl) (Nat.le_of_ble_eq_true rfl) dX9_init_35 (fun q_305 ca_306 H hK hP hD hS => ?_)
  have hK : va_K (dC, dI) classes [(ca_300, .int), (ca_302, .int), (ca_304, .int), (ca_306, .int)] s := hK
  have hP : va_P (dC, dI) classes [(h0, .inr (9, [.int 0, .ref q_299, .ref q_301, .ref q_303, .null, .null, .null, .null, .null, .null, .null])), (q_305, .inl (ca_306, 500, .inl (fun _ => 0)))] H := hP
  have hD : va_D A [(h0, .inr (9, [.int 0, .ref q_299, .ref q_301, .ref q_303, .null, .null, .null, .null, .null, .null, .null])), (q_305, .inl (ca_306, 500, .inl (fun _ => 0)))] := hD
  refine W.widen (k := 4) (n := 2000) (Nat.le_of_ble_eq_true rfl) (Nat.le_of_ble_eq_true rfl) ?_
  have hP : va_P (dC, dI) classes [(h0, .inr (9, [.int 0, .ref q_299, .ref q_301, .ref q_303, .null, .null, .null, .null, .null, .null, .null]))] H := hP.sub [0] rfl
  have hD : va_D A [(h0, .inr (9, [.int 0, .ref q_299, .ref q_301, .ref q_303, .null, .null, .null, .null, .null, .null, .null]))] := hD.sub [0] (by decide) rfl
  refine va_putF (D := (dC, dI)) (ci := 9) (v := .ref q_305) (ty := .array .int) (C := RX9) (T := TX9) (N := 11) hx hb hwd inA_X9 tyX9 tyX9_ok nmX9 hown hK hP hD hS 0 rfl rfl 4 (by decide) (hwd _ wk_236) (fun _ h9 => h9) rfl hin rfl (by decide +kernel) rfl rfl (Nat.le_of_ble_eq_true rfl) dX9_init_37 (fun H locs hP hD hS => ?_)
  have hP : va_P (dC, dI) classes [(h0, .inr (9, [.int 0, .ref q_299, .ref q_301, .ref q_303, .ref q_305, .null, .null, .null, .null, .null, .null]))] H := hP
  have hD : va_D A [(h0, .inr (9, [.int 0, .ref q_299, .ref q_301, .ref q_303, .ref q_305, .null, .null, .null, .null, .null, .null]))] := hD
  refine lv_aload_n hx hb dX9_init_40 rfl (lv_at hl 0 rfl) ?_
  refine lv_sipush (v := 500) hx hb dX9_init_41 (by decide) ?_
  refine va_newa (atype := .int) (a0 := (500, .inl (fun _ => 0))) (ty := .int) (N' := 500) hx hb (hwd _ wk_224) rfl hK hP hD hS hA (fun _ => rfl) (by decide) (by decide) (by decide) (Nat.le_of_ble_eq_true rfl) (Nat.le_of_ble_eq_true rfl) dX9_init_44 (fun q_307 ca_308 H hK hP hD hS => ?_)
  have hK : va_K (dC, dI) classes [(ca_300, .int), (ca_302, .int), (ca_304, .int), (ca_306, .int), (ca_308, .int)] s := hK
  have hP : va_P (dC, dI) classes [(h0, .inr (9, [.int 0, .ref q_299, .ref q_301, .ref q_303, .ref q_305, .null, .null, .null, .null, .null, .null])), (q_307, .inl (ca_308, 500, .inl (fun _ => 0)))] H := hP
  have hD : va_D A [(h0, .inr (9, [.int 0, .ref q_299, .ref q_301, .ref q_303, .ref q_305, .null, .null, .null, .null, .null, .null])), (q_307, .inl (ca_308, 500, .inl (fun _ => 0)))] := hD
  refine W.widen (k := 5) (n := 2500) (Nat.le_of_ble_eq_true rfl) (Nat.le_of_ble_eq_true rfl) ?_
  have hP : va_P (dC, dI) classes [(h0, .inr (9, [.int 0, .ref q_299, .ref q_301, .ref q_303, .ref q_305, .null, .null, .null, .null, .null, .null]))] H := hP.sub [0] rfl
  have hD : va_D A [(h0, .inr (9, [.int 0, .ref q_299, .ref q_301, .ref q_303, .ref q_305, .null, .null, .null, .null, .null, .null]))] := hD.sub [0] (by decide) rfl
  refine va_putF (D := (dC, dI)) (ci := 9) (v := .ref q_307) (ty := .array .int) (C := RX9) (T := TX9) (N := 11) hx hb hwd inA_X9 tyX9 tyX9_ok nmX9 hown hK hP hD hS 0 rfl rfl 5 (by decide) (hwd _ wk_237) (fun _ h9 => h9) rfl hin rfl (by decide +kernel) rfl rfl (Nat.le_of_ble_eq_true rfl) dX9_init_46 (fun H locs hP hD hS => ?_)
  have hP : va_P (dC, dI) classes [(h0, .inr (9, [.int 0, .ref q_299, .ref q_301, .ref q_303, .ref q_305, .ref q_307, .null, .null, .null, .null, .null]))] H := hP
  have hD : va_D A [(h0, .inr (9, [.int 0, .ref q_299, .ref q_301, .ref q_303, .ref q_305, .ref q_307, .null, .null, .null, .null, .null]))] := hD
  refine lv_aload_n hx hb dX9_init_49 rfl (lv_at hl 0 rfl) ?_
  refine lv_sipush (v := 500) hx hb dX9_init_50 (by decide) ?_
  refine va_newa (atype := .int) (a0 := (500, .inl (fun _ => 0))) (ty := .int) (N' := 500) hx hb (hwd _ wk_224) rfl hK hP hD hS hA (fun _ => rfl) (by decide) (by decide) (by decide) (Nat.le_of_ble_eq_true rfl) (Nat.le_of_ble_eq_true rfl) dX9_init_53 (fun q_309 ca_310 H hK hP hD hS => ?_)
  have hK : va_K (dC, dI) classes [(ca_300, .int), (ca_302, .int), (ca_304, .int), (ca_306, .int), (ca_308, .int), (ca_310, .int)] s := hK
  have hP : va_P (dC, dI) classes [(h0, .inr (9, [.int 0, .ref q_299, .ref q_301, .ref q_303, .ref q_305, .ref q_307, .null, .null, .null, .null, .null])), (q_309, .inl (ca_310, 500, .inl (fun _ => 0)))] H := hP
  have hD : va_D A [(h0, .inr (9, [.int 0, .ref q_299, .ref q_301, .ref q_303, .ref q_305, .ref q_307, .null, .null, .null, .null, .null])), (q_309, .inl (ca_310, 500, .inl (fun _ => 0)))] := hD
  refine W.widen (k := 6) (n := 3000) (Nat.le_of_ble_eq_true rfl) (Nat.le_of_ble_eq_true rfl) ?_
  have hP : va_P (dC, dI) classes [(h0, .inr (9, [.int 0, .ref q_299, .ref q_301, .ref q_303, .ref q_305, .ref q_307, .null, .null, .null, .null, .null]))] H := hP.sub [0] rfl
  have hD : va_D A [(h0, .inr (9, [.int 0, .ref q_299, .ref q_301, .ref q_303, .ref q_305, .ref q_307, .null, .null, .null, .null, .null]))] := hD.sub [0] (by decide) rfl
  refine va_putF (D := (dC, dI)) (ci := 9) (v := .ref q_309) (ty := .array .int) (C := RX9) (T := TX9) (N := 11) hx hb hwd inA_X9 tyX9 tyX9_ok nmX9 hown hK hP hD hS 0 rfl rfl 6 (by decide) (hwd _ wk_238) (fun _ h9 => h9) rfl hin rfl (by decide +kernel) rfl rfl (Nat.le_of_ble_eq_true rfl) dX9_init_55 (fun H locs hP hD hS => ?_)
  have hP : va_P (dC, dI) classes [(h0, .inr (9, [.int 0, .ref q_299, .ref q_301, .ref q_303, .ref q_305, .ref q_307, .ref q_309, .null, .null, .null, .null]))] H := hP
  have hD : va_D A [(h0, .inr (9, [.int 0, .ref q_299, .ref q_301, .ref q_303, .ref q_305, .ref q_307, .ref q_309, .null, .null, .null, .null]))] := hD
  refine lv_aload_n hx hb dX9_init_58 rfl (lv_at hl 0 rfl) ?_
  refine lv_sipush (v := 500) hx hb dX9_init_59 (by decide) ?_
  refine va_newa (atype := .int) (a0 := (500, .inl (fun _ => 0))) (ty := .int) (N' := 500) hx hb (hwd _ wk_224) rfl hK hP hD hS hA (fun _ => rfl) (by decide) (by decide) (by decide) (Nat.le_of_ble_eq_true rfl) (Nat.le_of_ble_eq_true rfl) dX9_init_62 (fun q_311 ca_312 H hK hP hD hS => ?_)
  have hK : va_K (dC, dI) classes [(ca_300, .int), (ca_302, .int), (ca_304, .int), (ca_306, .int), (ca_308, .int), (ca_310, .int), (ca_312, .int)] s := hK
  have hP : va_P (dC, dI) classes [(h0, .inr (9, [.int 0, .ref q_299, .ref q_301, .ref q_303, .ref q_305, .ref q_307, .ref q_309, .null, .null, .null, .null])), (q_311, .inl (ca_312, 500, .inl (fun _ => 0)))] H := hP
  have hD : va_D A [(h0, .inr (9, [.int 0, .ref q_299, .ref q_301, .ref q_303, .ref q_305, .ref q_307, .ref q_309, .null, .null, .null, .null])), (q_311, .inl (ca_312, 500, .inl (fun _ => 0)))] := hD
  refine W.widen (k := 7) (n := 3500) (Nat.le_of_ble_eq_true rfl) (Nat.le_of_ble_eq_true rfl) ?_
  have hP : va_P (dC, dI) classes [(h0, .inr (9, [.int 0, .ref q_299, .ref q_301, .ref q_303, .ref q_305, .ref q_307, .ref q_309, .null, .null, .null, .null]))] H := hP.sub [0] rfl
  have hD : va_D A [(h0, .inr (9, [.int 0, .ref q_299, .ref q_301, .ref q_303, .ref q_305, .ref q_307, .ref q_309, .null, .null, .null, .null]))] := hD.sub [0] (by decide) rfl
  refine va_putF (D := (dC, dI)) (ci := 9) (v := .ref q_311) (ty := .array .int) (C := RX9) (T := TX9) (N := 11) hx hb hwd inA_X9 tyX9 tyX9_ok nmX9 hown hK hP hD hS 0 rfl rfl 7 (by decide) (hwd _ wk_239) (fun _ h9 => h9) rfl hin rfl (by decide +kernel) rfl rfl (Nat.le_of_ble_eq_true rfl) dX9_init_64 (fun H locs hP hD hS => ?_)
  have hP : va_P (dC, dI) classes [(h0, .inr (9, [.int 0, .ref q_299, .ref q_301, .ref q_303, .ref q_305, .ref q_307, .ref q_309, .ref q_311, .null, .null, .null]))] H := hP
  have hD : va_D A [(h0, .inr (9, [.int 0, .ref q_299, .ref q_301, .ref q_303, .ref q_305, .ref q_307, .ref q_309, .ref q_311, .null, .null, .null]))] := hD
  refine lv_aload_n hx hb dX9_init_67 rfl (lv_at hl 0 rfl) ?_
  refine lv_sipush (v := 500) hx hb dX9_init_68 (by decide) ?_
  refine va_newa (atype := .boolean) (a0 := (500, .inl (fun _ => 0))) (ty := .boolean) (N' := 500) hx hb (hwd _ wk_240) rfl hK hP hD hS hA (fun _ => rfl) (by decide) (by decide) (by decide) (Nat.le_of_ble_eq_true rfl) (Nat.le_of_ble_eq_true rfl) dX9_init_71 (fun q_313 ca_314 H hK hP hD hS => ?_)
  have hK : va_K (dC, dI) classes [(ca_300, .int), (ca_302, .int), (ca_304, .int), (ca_306, .int), (ca_308, .int), (ca_310, .int), (ca_312, .int), (ca_314, .boolean)] s := hK
  have hP : va_P (dC, dI) classes [(h0, .inr (9, [.int 0, .ref q_299, .ref q_301, .ref q_303, .ref q_305, .ref q_307, .ref q_309, .ref q_311, .null, .null, .null])), (q_313, .inl (ca_314, 500, .inl (fun _ => 0)))] H := hP
  have hD : va_D A [(h0, .inr (9, [.int 0, .ref q_299, .ref q_301, .ref q_303, .ref q_305, .ref q_307, .ref q_309, .ref q_311, .null, .null, .null])), (q_313, .inl (ca_314, 500, .inl (fun _ => 0)))] := hD
  refine W.widen (k := 8) (n := 4000) (Nat.le_of_ble_eq_true rfl) (Nat.le_of_ble_eq_true rfl) ?_
  have hP : va_P (dC, dI) classes [(h0, .inr (9, [.int 0, .ref q_299, .ref q_301, .ref q_303, .ref q_305, .ref q_307, .ref q_309, .ref q_311, .null, .null, .null]))] H := hP.sub [0] rfl
  have hD : va_D A [(h0, .inr (9, [.int 0, .ref q_299, .ref q_301, .ref q_303, .ref q_305, .ref q_307, .ref q_309, .ref q_311, .null, .null, .null]))] := hD.sub [0] (by decide) rfl
  refine va_putF (D := (dC, dI)) (ci := 9) (v := .ref q_313) (ty := .array .boolean) (C := RX9) (T := TX9) (N := 11) hx hb hwd inA_X9 tyX9 tyX9_ok nmX9 hown hK hP hD hS 0 rfl rfl 8 (by decide) (hwd _ wk_241) (fun _ h9 => h9) rfl hin rfl (by decide +kernel) rfl rfl (Nat.le_of_ble_eq_true rfl) dX9_init_73 (fun H locs hP hD hS => ?_)
  have hP : va_P (dC, dI) classes [(h0, .inr (9, [.int 0, .ref q_299, .ref q_301, .ref q_303, .ref q_305, .ref q_307, .ref q_309, .ref q_311, .ref q_313, .null, .null]))] H := hP
  have hD : va_D A [(h0, .inr (9, [.int 0, .ref q_299, .ref q_301, .ref q_303, .ref q_305, .ref q_307, .ref q_309, .ref q_311, .ref q_313, .null, .null]))] := hD
  refine lv_aload_n hx hb dX9_init_76 rfl (lv_at hl 0 rfl) ?_
  refine lv_sipush (v := 500) hx hb dX9_init_77 (by decide) ?_
  refine va_newa (atype := .int) (a0 := (500, .inl (fun _ => 0))) (ty := .int) (N' := 500) hx hb (hwd _ wk_224) rfl hK hP hD hS hA (fun _ => rfl) (by decide) (by decide) (by decide) (Nat.le_of_ble_eq_true rfl) (Nat.le_of_ble_eq_true rfl) dX9_init_80 (fun q_315 ca_316 H hK hP hD hS => ?_)
  have hK : va_K (dC, dI) classes [(ca_300, .int), (ca_302, .int), (ca_304, .int), (ca_306, .int), (ca_308, .int), (ca_310, .int), (ca_312, .int), (ca_314, .boolean), (ca_316, .int)] s := hK
  have hP : va_P (dC, dI) classes [(h0, .inr (9, [.int 0, .ref q_299, .ref q_301, .ref q_303, .ref q_305, .ref q_307, .ref q_309, .ref q_311, .ref q_313, .null, .null])), (q_315, .inl (ca_316, 500, .inl (fun _ => 0)))] H := hP
  have hD : va_D A [(h0, .inr (9, [.int 0, .ref q_299, .ref q_301, .ref q_303, .ref q_305, .ref q_307, .ref q_309, .ref q_311, .ref q_313, .null, .null])), (q_315, .inl (ca_316, 500, .inl (fun _ => 0)))] := hD
  refine W.widen (k := 9) (n := 4500) (Nat.le_of_ble_eq_true rfl) (Nat.le_of_ble_eq_true rfl) ?_
  have hP : va_P (dC, dI) classes [(h0, .inr (9, [.int 0, .ref q_299, .ref q_301, .ref q_303, .ref q_305, .ref q_307, .ref q_309, .ref q_311, .ref q_313, .null, .null]))] H := hP.sub [0] rfl
  have hD : va_D A [(h0, .inr (9, [.int 0, .ref q_299, .ref q_301, .ref q_303, .ref q_305, .ref q_307, .ref q_309, .ref q_311, .ref q_313, .null, .null]))] := hD.sub [0] (by decide) rfl
  refine va_putF (D := (dC, dI)) (ci := 9) (v := .ref q_315) (ty := .array .int) (C := RX9) (T := TX9) (N := 11) hx hb hwd inA_X9 tyX9 tyX9_ok nmX9 hown hK hP hD hS 0 rfl rfl 9 (by decide) (hwd _ wk_242) (fun _ h9 => h9) rfl hin rfl (by decide +kernel) rfl rfl (Nat.le_of_ble_eq_true rfl) dX9_init_82 (fun H locs hP hD hS => ?_)
  have hP : va_P (dC, dI) classes [(h0, .inr (9, [.int 0, .ref q_299, .ref q_301, .ref q_303, .ref q_305, .ref q_307, .ref q_309, .ref q_311, .ref q_313, .ref q_315, .null]))] H := hP
  have hD : va_D A [(h0, .inr (9, [.int 0, .ref q_299, .ref q_301, .ref q_303, .ref q_305, .ref q_307, .ref q_309, .ref q_311, .ref q_313, .ref q_315, .null]))] := hD
  refine lv_aload_n hx hb dX9_init_85 rfl (lv_at hl 0 rfl) ?_
  refine lv_bipush (v := 100) hx hb dX9_init_86 (by decide) ?_
  refine va_newa (atype := .int) (a0 := (100, .inl (fun _ => 0))) (ty := .int) (N' := 100) hx hb (hwd _ wk_224) rfl hK hP hD hS hA (fun _ => rfl) (by decide) (by decide) (by decide) (Nat.le_of_ble_eq_true rfl) (Nat.le_of_ble_eq_true rfl) dX9_init_88 (fun q_317 ca_318 H hK hP hD hS => ?_)
  have hK : va_K (dC, dI) classes [(ca_300, .int), (ca_302, .int), (ca_304, .int), (ca_306, .int), (ca_308, .int), (ca_310, .int), (ca_312, .int), (ca_314, .boolean), (ca_316, .int), (ca_318, .int)] s := hK
  have hP : va_P (dC, dI) classes [(h0, .inr (9, [.int 0, .ref q_299, .ref q_301, .ref q_303, .ref q_305, .ref q_307, .ref q_309, .ref q_311, .ref q_313, .ref q_315, .null])), (q_317, .inl (ca_318, 100, .inl (fun _ => 0)))] H := hP
  have hD : va_D A [(h0, .inr (9, [.int 0, .ref q_299, .ref q_301, .ref q_303, .ref q_305, .ref q_307, .ref q_309, .ref q_311, .ref q_313, .ref q_315, .null])), (q_317, .inl (ca_318, 100, .inl (fun _ => 0)))] := hD
  refine W.widen (k := 10) (n := 4600) (Nat.le_of_ble_eq_true rfl) (Nat.le_of_ble_eq_true rfl) ?_
  have hP : va_P (dC, dI) classes [(h0, .inr (9, [.int 0, .ref q_299, .ref q_301, .ref q_303, .ref q_305, .ref q_307, .ref q_309, .ref q_311, .ref q_313, .ref q_315, .null]))] H := hP.sub [0] rfl
  have hD : va_D A [(h0, .inr (9, [.int 0, .ref q_299, .ref q_301, .ref q_303, .ref q_305, .ref q_307, .ref q_309, .ref q_311, .ref q_313, .ref q_315, .null]))] := hD.sub [0] (by decide) rfl
  refine va_putF (D := (dC, dI)) (ci := 9) (v := .ref q_317) (ty := .array .int) (C := RX9) (T := TX9) (N := 11) hx hb hwd inA_X9 tyX9 tyX9_ok nmX9 hown hK hP hD hS 0 rfl rfl 10 (by decide) (hwd _ wk_243) (fun _ h9 => h9) rfl hin rfl (by decide +kernel) rfl rfl (Nat.le_of_ble_eq_true rfl) dX9_init_90 (fun H locs hP hD hS => ?_)
  have hP : va_P (dC, dI) classes [(h0, .inr (9, [.int 0, .ref q_299, .ref q_301, .ref q_303, .ref q_305, .ref q_307, .ref q_309, .ref q_311, .ref q_313, .ref q_315, .ref q_317]))] H := hP
  have hD : va_D A [(h0, .inr (9, [.int 0, .ref q_299, .ref q_301, .ref q_303, .ref q_305, .ref q_307, .ref q_309, .ref q_311, .ref q_313, .ref q_315, .ref q_317]))] := hD
  have hP9 : va_P (dC, dI) classes [(h0, .inr (9, o9 (fun k => [0, q_299, q_301, q_303, q_305, q_307, q_309, q_311, q_313, q_315, q_317].getD k 0)))] H := hP.sub [0] rfl
  have hD9 : va_D A [(h0, .inr (9, o9 (fun k => [0, q_299, q_301, q_303, q_305, q_307, q_309, q_311, q_313, q_315, q_317].getD k 0)))] := hD.sub [0] (by decide) rfl
  have hK9 : va_K (dC, dI) classes [] s := hK.sub [] rfl
  exact W.vret hx hb hr (fun t ht hW => ⟨⟨(), rfl, trivial, (fun k => [0, q_299, q_301, q_303, q_305, q_307, q_309, q_311, q_313, q_315, q_317].getD k 0), by rw [ht]; exact hP9, va_K.moved hW.alike hK9, hD9⟩, hS.F ht⟩) hS.2.2 dX9_init_93
set_option maxHeartbeats 4000000 in
set_option maxRecDepth 100000 in
theorem c_X7_init (l : Launch) (dC : Nat → ClassId) (dI : Nat → Nat → Nat) (h0 : Nat) (st : Nat) (sz : Nat) : Met l yX7_init (Cond.code yX7_init cX7_init 2 none :: wA) ({ frames := 1, cells := 5, slots := 700, locals := 40 }) (va_Pc [.ref h0, .ref st] (fun U => U.heap.size = sz ∧ va_P (dC, dI) classes [(h0, .inr (7, [.null, .int 0, .null, .null, .null, .null, .null]))] U.heap ∧ va_K (dC, dI) classes [] U ∧ va_D (fun _ => True) [(h0, .inr (7, [.null, .int 0, .null, .null, .null, .null, .null]))])) (va_Qv (fun _ : Unit => True) (fun (_ : Unit) (t : State) => ∃ (gz : Nat → Nat), va_P (dC, dI) classes [(h0, .inr (7, o7 gz))] t.heap ∧ va_K (dC, dI) classes [] t ∧ va_D (va_A [(h0, .inr (7, [.null, .int 0, .null, .null, .null, .null, .null]))] sz) [(h0, .inr (7, o7 gz))]) (va_A [(h0, .inr (7, [.null, .int 0, .null, .null, .null, .null, .null]))] sz)) 5 700 (va_A [(h0, .inr (7, [.null, .int 0, .null, .null, .null, .null, .null]))] sz) := by
  refine Met.ofW (cc := cX7_init) (maxL := 2) (ret := none) (by decide) rfl ?_
  intro p e s m args below meth c s₁ B hml hv
  obtain ⟨rfl, hsz, hP, hK, hD0⟩ := hv
  have hx := B.exec
  have hb := B.bytes
  have hr := B.returns
  have hts := atoms_spec (ws := Cond.code yX7_init cX7_init 2 none :: wA) B.pre
  have hwd : ∀ w ∈ wA, w.before _ s = true := fun w h => hts w (List.mem_cons_of_mem _ h)
  have hown : s.vm.findClass RX7 = some m.cls := findClass_of_methodNamed B.named
  have hlocks := B.notSynchronized
  have hin : meth.name = "<init>" := (name_of_methodNamed B.named B.method).1
  subst hsz
  have hD := hD0.self (sz := s.heap.size)
  generalize hAe : va_A [(h0, .inr (7, [.null, .int 0, .null, .null, .null, .null, .null]))] s.heap.size = A at hD ⊢
  have hA : ∀ q : Nat, s.heap.size ≤ q → A q := fun q h => by rw [← hAe]; exact Or.inr h
  have hS : va_S A s.heap s.heap [] := va_S.rf
  have hP : va_P (dC, dI) classes [(h0, .inr (7, [.null, .int 0, .null, .null, .null, .null, .null]))] s.heap := hP
  have hl := lv_entry ([.ref h0, .ref st]) (n := 2) (Nat.le_of_ble_eq_true rfl)
  rw [lg_entry_eq]
  generalize (lg_sl ([.ref h0, .ref st]) ++ List.replicate (2 - (lg_sl ([.ref h0, .ref st])).length) Slot.unset).toArray = ls at hl ⊢
  have hl : lv_has ls 2 [(0, .ref h0), (1, .ref st)] := hl
  obtain ⟨H, eH⟩ : ∃ z, z = s.heap := ⟨_, rfl⟩
  have hP : va_P (dC, dI) classes [(h0, .inr (7, [.null, .int 0, .null, .null, .null, .null, .null]))] H := by rw [eH]; exact hP
  have hS : va_S A s.heap H [] := by rw [eH]; exact va_S.rf
  refine my_heap eH ?_
  refine lv_aload_n hx hb dX7_init_0 rfl (lv_at hl 0 rfl) ?_
  refine W.objInit hx hb hown (hwd _ wk_244) (hwd _ wk_222) (hwd _ wk_223) rfl (by rw [hml]; exact hl.1) rfl dX7_init_1 (Nat.le_of_ble_eq_true rfl) (Nat.le_of_ble_eq_true rfl) ?_
  refine W.eq (g2 := F0 m 4 ls []) rfl ?_
  refine lv_aload_n hx hb dX7_init_4 rfl (lv_at hl 0 rfl) ?_
  refine lv_bipush (v := 100) hx hb dX7_init_5 (by decide) ?_
  refine va_newa (atype := .int) (a0 := (100, .inl (fun _ => 0))) (ty := .int) (N' := 100) hx hb (hwd _ wk_224) rfl hK hP hD hS hA (fun _ => rfl) (by decide) (by decide) (by decide) (Nat.le_of_ble_eq_true rfl) (Nat.le_of_ble_eq_true rfl) dX7_init_7 (fun q_319 ca_320 H hK hP hD hS => ?_)
  have hK : va_K (dC, dI) classes [(ca_320, .int)] s := hK
  have hP : va_P (dC, dI) classes [(h0, .inr (7, [.null, .int 0, .null, .null, .null, .null, .null])), (q_319, .inl (ca_320, 100, .inl (fun _ => 0)))] H := hP
  have hD : va_D A [(h0, .inr (7, [.null, .int 0, .null, .null, .null, .null, .null])), (q_319, .inl (ca_320, 100, .inl (fun _ => 0)))] := hD
  refine W.widen (k := 1) (n := 100) (Nat.le_of_ble_eq_true rfl) (Nat.le_of_ble_eq_true rfl) ?_
  have hP : va_P (dC, dI) classes [(h0, .inr (7, [.null, .int 0, .null, .null, .null, .null, .null]))] H := hP.sub [0] rfl
  have hD : va_D A [(h0, .inr (7, [.null, .int 0, .null, .null, .null, .null, .null]))] := hD.sub [0] (by decide) rfl
  refine va_putF (D := (dC, dI)) (ci := 7) (v := .ref q_319) (ty := .array .int) (C := RX7) (T := TX7) (N := 7) hx hb hwd inA_X7 tyX7 tyX7_ok nmX7 hown hK hP hD hS 0 rfl rfl 2 (by decide) (hwd _ wk_245) (fun _ h9 => h9) rfl hin rfl (by decide +kernel) rfl rfl (Nat.le_of_ble_eq_true rfl) dX7_init_9 (fun H locs hP hD hS => ?_)
  have hP : va_P (dC, dI) classes [(h0, .inr (7, [.null, .int 0, .ref q_319, .null, .null, .null, .null]))] H := hP
  have hD : va_D A [(h0, .inr (7, [.null, .int 0, .ref q_319, .null, .null, .null, .null]))] := hD
  refine lv_aload_n hx hb dX7_init_12 rfl (lv_at hl 0 rfl) ?_
  refine lv_bipush (v := 100) hx hb dX7_init_13 (by decide) ?_
  refine va_newa (atype := .int) (a0 := (100, .inl (fun _ => 0))) (ty := .int) (N' := 100) hx hb (hwd _ wk_224) rfl hK hP hD hS hA (fun _ => rfl) (by decide) (by decide) (by decide) (Nat.le_of_ble_eq_true rfl) (Nat.le_of_ble_eq_true rfl) dX7_init_15 (fun q_321 ca_322 H hK hP hD hS => ?_)
  have hK : va_K (dC, dI) classes [(ca_320, .int), (ca_322, .int)] s := hK
  have hP : va_P (dC, dI) classes [(h0, .inr (7, [.null, .int 0, .ref q_319, .null, .null, .null, .null])), (q_321, .inl (ca_322, 100, .inl (fun _ => 0)))] H := hP
  have hD : va_D A [(h0, .inr (7, [.null, .int 0, .ref q_319, .null, .null, .null, .null])), (q_321, .inl (ca_322, 100, .inl (fun _ => 0)))] := hD
  refine W.widen (k := 2) (n := 200) (Nat.le_of_ble_eq_true rfl) (Nat.le_of_ble_eq_true rfl) ?_
  have hP : va_P (dC, dI) classes [(h0, .inr (7, [.null, .int 0, .ref q_319, .null, .null, .null, .null]))] H := hP.sub [0] rfl
  have hD : va_D A [(h0, .inr (7, [.null, .int 0, .ref q_319, .null, .null, .null, .null]))] := hD.sub [0] (by decide) rfl
  refine va_putF (D := (dC, dI)) (ci := 7) (v := .ref q_321) (ty := .array .int) (C := RX7) (T := TX7) (N := 7) hx hb hwd inA_X7 tyX7 tyX7_ok nmX7 hown hK hP hD hS 0 rfl rfl 3 (by decide) (hwd _ wk_246) (fun _ h9 => h9) rfl hin rfl (by decide +kernel) rfl rfl (Nat.le_of_ble_eq_true rfl) dX7_init_17 (fun H locs hP hD hS => ?_)
  have hP : va_P (dC, dI) classes [(h0, .inr (7, [.null, .int 0, .ref q_319, .ref q_321, .null, .null, .null]))] H := hP
  have hD : va_D A [(h0, .inr (7, [.null, .int 0, .ref q_319, .ref q_321, .null, .null, .null]))] := hD
  refine lv_aload_n hx hb dX7_init_20 rfl (lv_at hl 0 rfl) ?_
  refine lv_bipush (v := 100) hx hb dX7_init_21 (by decide) ?_
  refine va_newa (atype := .int) (a0 := (100, .inl (fun _ => 0))) (ty := .int) (N' := 100) hx hb (hwd _ wk_224) rfl hK hP hD hS hA (fun _ => rfl) (by decide) (by decide) (by decide) (Nat.le_of_ble_eq_true rfl) (Nat.le_of_ble_eq_true rfl) dX7_init_23 (fun q_323 ca_324 H hK hP hD hS => ?_)
  have hK : va_K (dC, dI) classes [(ca_320, .int), (ca_322, .int), (ca_324, .int)] s := hK
  have hP : va_P (dC, dI) classes [(h0, .inr (7, [.null, .int 0, .ref q_319, .ref q_321, .null, .null, .null])), (q_323, .inl (ca_324, 100, .inl (fun _ => 0)))] H := hP
  have hD : va_D A [(h0, .inr (7, [.null, .int 0, .ref q_319, .ref q_321, .null, .null, .null])), (q_323, .inl (ca_324, 100, .inl (fun _ => 0)))] := hD
  refine W.widen (k := 3) (n := 300) (Nat.le_of_ble_eq_true rfl) (Nat.le_of_ble_eq_true rfl) ?_
  have hP : va_P (dC, dI) classes [(h0, .inr (7, [.null, .int 0, .ref q_319, .ref q_321, .null, .null, .null]))] H := hP.sub [0] rfl
  have hD : va_D A [(h0, .inr (7, [.null, .int 0, .ref q_319, .ref q_321, .null, .null, .null]))] := hD.sub [0] (by decide) rfl
  refine va_putF (D := (dC, dI)) (ci := 7) (v := .ref q_323) (ty := .array .int) (C := RX7) (T := TX7) (N := 7) hx hb hwd inA_X7 tyX7 tyX7_ok nmX7 hown hK hP hD hS 0 rfl rfl 4 (by decide) (hwd _ wk_247) (fun _ h9 => h9) rfl hin rfl (by decide +kernel) rfl rfl (Nat.le_of_ble_eq_true rfl) dX7_init_25 (fun H locs hP hD hS => ?_)
  have hP : va_P (dC, dI) classes [(h0, .inr (7, [.null, .int 0, .ref q_319, .ref q_321, .ref q_323, .null, .null]))] H := hP
  have hD : va_D A [(h0, .inr (7, [.null, .int 0, .ref q_319, .ref q_321, .ref q_323, .null, .null]))] := hD
  refine lv_aload_n hx hb dX7_init_28 rfl (lv_at hl 0 rfl) ?_
  refine lv_sipush (v := 300) hx hb dX7_init_29 (by decide) ?_
  refine va_newa (atype := .int) (a0 := (300, .inl (fun _ => 0))) (ty := .int) (N' := 300) hx hb (hwd _ wk_224) rfl hK hP hD hS hA (fun _ => rfl) (by decide) (by decide) (by decide) (Nat.le_of_ble_eq_true rfl) (Nat.le_of_ble_eq_true rfl) dX7_init_32 (fun q_325 ca_326 H hK hP hD hS => ?_)
  have hK : va_K (dC, dI) classes [(ca_320, .int), (ca_322, .int), (ca_324, .int), (ca_326, .int)] s := hK
  have hP : va_P (dC, dI) classes [(h0, .inr (7, [.null, .int 0, .ref q_319, .ref q_321, .ref q_323, .null, .null])), (q_325, .inl (ca_326, 300, .inl (fun _ => 0)))] H := hP
  have hD : va_D A [(h0, .inr (7, [.null, .int 0, .ref q_319, .ref q_321, .ref q_323, .null, .null])), (q_325, .inl (ca_326, 300, .inl (fun _ => 0)))] := hD
  refine W.widen (k := 4) (n := 600) (Nat.le_of_ble_eq_true rfl) (Nat.le_of_ble_eq_true rfl) ?_
  have hP : va_P (dC, dI) classes [(h0, .inr (7, [.null, .int 0, .ref q_319, .ref q_321, .ref q_323, .null, .null]))] H := hP.sub [0] rfl
  have hD : va_D A [(h0, .inr (7, [.null, .int 0, .ref q_319, .ref q_321, .ref q_323, .null, .null]))] := hD.sub [0] (by decide) rfl
  refine va_putF (D := (dC, dI)) (ci := 7) (v := .ref q_325) (ty := .array .int) (C := RX7) (T := TX7) (N := 7) hx hb hwd inA_X7 tyX7 tyX7_ok nmX7 hown hK hP hD hS 0 rfl rfl 5 (by decide) (hwd _ wk_248) (fun _ h9 => h9) rfl hin rfl (by decide +kernel) rfl rfl (Nat.le_of_ble_eq_true rfl) dX7_init_34 (fun H locs hP hD hS => ?_)
  have hP : va_P (dC, dI) classes [(h0, .inr (7, [.null, .int 0, .ref q_319, .ref q_321, .ref q_323, .ref q_325, .null]))] H := hP
  have hD : va_D A [(h0, .inr (7, [.null, .int 0, .ref q_319, .ref q_321, .ref q_323, .ref q_325, .null]))] := hD
  refine lv_aload_n hx hb dX7_init_37 rfl (lv_at hl 0 rfl) ?_
  refine lv_bipush (v := 100) hx hb dX7_init_38 (by decide) ?_
  refine va_newa (atype := .int) (a0 := (100, .inl (fun _ => 0))) (ty := .int) (N' := 100) hx hb (hwd _ wk_224) rfl hK hP hD hS hA (fun _ => rfl) (by decide) (by decide) (by decide) (Nat.le_of_ble_eq_true rfl) (Nat.le_of_ble_eq_true rfl) dX7_init_40 (fun q_327 ca_328 H hK hP hD hS => ?_)
  have hK : va_K (dC, dI) classes [(ca_320, .int), (ca_322, .int), (ca_324, .int), (ca_326, .int), (ca_328, .int)] s := hK
  have hP : va_P (dC, dI) classes [(h0, .inr (7, [.null, .int 0, .ref q_319, .ref q_321, .ref q_323, .ref q_325, .null])), (q_327, .inl (ca_328, 100, .inl (fun _ => 0)))] H := hP
  have hD : va_D A [(h0, .inr (7, [.null, .int 0, .ref q_319, .ref q_321, .ref q_323, .ref q_325, .null])), (q_327, .inl (ca_328, 100, .inl (fun _ => 0)))] := hD
  refine W.widen (k := 5) (n := 700) (Nat.le_of_ble_eq_true rfl) (Nat.le_of_ble_eq_true rfl) ?_
  have hP : va_P (dC, dI) classes [(h0, .inr (7, [.null, .int 0, .ref q_319, .ref q_321, .ref q_323, .ref q_325, .null]))] H := hP.sub [0] rfl
  have hD : va_D A [(h0, .inr (7, [.null, .int 0, .ref q_319, .ref q_321, .ref q_323, .ref q_325, .null]))] := hD.sub [0] (by decide) rfl
  refine va_putF (D := (dC, dI)) (ci := 7) (v := .ref q_327) (ty := .array .int) (C := RX7) (T := TX7) (N := 7) hx hb hwd inA_X7 tyX7 tyX7_ok nmX7 hown hK hP hD hS 0 rfl rfl 6 (by decide) (hwd _ wk_249) (fun _ h9 => h9) rfl hin rfl (by decide +kernel) rfl rfl (Nat.le_of_ble_eq_true rfl) dX7_init_42 (fun H locs hP hD hS => ?_)
  have hP : va_P (dC, dI) classes [(h0, .inr (7, [.null, .int 0, .ref q_319, .ref q_321, .ref q_323, .ref q_325, .ref q_327]))] H := hP
  have hD : va_D A [(h0, .inr (7, [.null, .int 0, .ref q_319, .ref q_321, .ref q_323, .ref q_325, .ref q_327]))] := hD
  refine lv_aload_n hx hb dX7_init_45 rfl (lv_at hl 0 rfl) ?_
  refine lv_aload_n hx hb dX7_init_46 rfl (lv_at hl 1 rfl) ?_
  refine va_putF (D := (dC, dI)) (ci := 7) (v := .ref st) (ty := .object "PlanesBack$Stays") (C := RX7) (T := TX7) (N := 7) hx hb hwd inA_X7 tyX7 tyX7_ok nmX7 hown hK hP hD hS 0 rfl rfl 0 (by decide) (hwd _ wk_250) (fun _ h9 => h9) rfl hin rfl (by decide +kernel) rfl rfl (Nat.le_of_ble_eq_true rfl) dX7_init_47 (fun H locs hP hD hS => ?_)
  have hP : va_P (dC, dI) classes [(h0, .inr (7, [.ref st, .int 0, .ref q_319, .ref q_321, .ref q_323, .ref q_325, .ref q_327]))] H := hP
  have hD : va_D A [(h0, .inr (7, [.ref st, .int 0, .ref q_319, .ref q_321, .ref q_323, .ref q_325, .ref q_327]))] := hD
  have hP9 : va_P (dC, dI) classes [(h0, .inr (7, o7 (fun k => [st, 0, q_319, q_321, q_323, q_325, q_327].getD k 0)))] H := hP.sub [0] rfl
  have hD9 : va_D A [(h0, .inr (7, o7 (fun k => [st, 0, q_319, q_321, q_323, q_325, q_327].getD k 0)))] := hD.sub [0] (by decide) rfl
  have hK9 : va_K (dC, dI) classes [] s := hK.sub [] rfl
  exact W.vret hx hb hr (fun t ht hW => ⟨⟨(), rfl, trivial, (fun k => [st, 0, q_319, q_321, q_323, q_325, q_327].getD k 0), by rw [ht]; exact hP9, va_K.moved hW.alike hK9, hD9⟩, hS.F ht⟩) hS.2.2 dX7_init_50
set_option maxHeartbeats 4000000 in
set_option maxRecDepth 100000 in
theorem c_X10_init (l : Launch) (dC : Nat → ClassId) (dI : Nat → Nat → Nat) (h0 : Nat) (sz : Nat) : Met l yX10_init (Cond.code yX10_init cX10_init 1 none :: wA) ({ frames := 1, cells := 1, slots := 120, locals := 40 }) (va_Pc [.ref h0] (fun U => U.heap.size = sz ∧ va_P (dC, dI) classes [(h0, .inr (10, [.int 0, .null]))] U.heap ∧ va_K (dC, dI) classes [] U ∧ va_D (fun _ => True) [(h0, .inr (10, [.int 0, .null]))])) (va_Qv (fun _ : Unit => True) (fun (_ : Unit) (t : State) => ∃ (gz : Nat → Nat), ∃ (c1 : ClassId), va_P (dC, dI) classes [(h0, .inr (10, o10 gz)), (gz 1, .inl (c1, 120, .inl (fun _ => 0)))] t.heap ∧ va_K (dC, dI) classes [(c1, .int)] t ∧ va_D (va_A [(h0, .inr (10, [.int 0, .null]))] sz) [(h0, .inr (10, o10 gz)), (gz 1, .inl (c1, 120, .inl (fun _ => 0)))]) (va_A [(h0, .inr (10, [.int 0, .null]))] sz)) 1 120 (va_A [(h0, .inr (10, [.int 0, .null]))] sz) := by
  refine Met.ofW (cc := cX10_init) (maxL := 1) (ret := none) (by decide) rfl ?_
  intro p e s m args below meth c s₁ B hml hv
  obtain ⟨rfl, hsz, hP, hK, hD0⟩ := hv
  have hx := B.exec
  have hb := B.bytes
  have hr := B.returns
  have hts := atoms_spec (ws := Cond.code yX10_init cX10_init 1 none :: wA) B.pre
  have hwd : ∀ w ∈ wA, w.before _ s = true := fun w h => hts w (List.mem_cons_of_mem _ h)
  have hown : s.vm.findClass RX10 = some m.cls := findClass_of_methodNamed B.named
  have hlocks := B.notSynchronized
  have hin : meth.name = "<init>" := (name_of_methodNamed B.named B.method).1
  subst hsz
  have hD := hD0.self (sz := s.heap.size)
  generalize hAe : va_A [(h0, .inr (10, [.int 0, .null]))] s.heap.size = A at hD ⊢
  have hA : ∀ q : Nat, s.heap.size ≤ q → A q := fun q h => by rw [← hAe]; exact Or.inr h
  have hS : va_S A s.heap s.heap [] := va_S.rf
  have hP : va_P (dC, dI) classes [(h0, .inr (10, [.int 0, .null]))] s.heap := hP
  have hl := lv_entry ([.ref h0]) (n := 1) (Nat.le_of_ble_eq_true rfl)
  rw [lg_entry_eq]
  generalize (lg_sl ([.ref h0]) ++ List.replicate (1 - (lg_sl ([.ref h0])).length) Slot.unset).toArray = ls at hl ⊢
  have hl : lv_has ls 1 [(0, .ref h0)] := hl
  obtain ⟨H, eH⟩ : ∃ z, z = s.heap := ⟨_, rfl⟩
  have hP : va_P (dC, dI) classes [(h0, .inr (10, [.int 0, .null]))] H := by rw [eH]; exact hP
  have hS : va_S A s.heap H [] := by rw [eH]; exact va_S.rf
  refine my_heap eH ?_
  refine lv_aload_n hx hb dX10_init_0 rfl (lv_at hl 0 rfl) ?_
  refine W.objInit hx hb hown (hwd _ wk_251) (hwd _ wk_222) (hwd _ wk_223) rfl (by rw [hml]; exact hl.1) rfl dX10_init_1 (Nat.le_of_ble_eq_true rfl) (Nat.le_of_ble_eq_true rfl) ?_
  refine W.eq (g2 := F0 m 4 ls []) rfl ?_
  refine lv_aload_n hx hb dX10_init_4 rfl (lv_at hl 0 rfl) ?_
  refine lv_bipush (v := 120) hx hb dX10_init_5 (by decide) ?_
  refine va_newa (atype := .int) (a0 := (120, .inl (fun _ => 0))) (ty := .int) (N' := 120) hx hb (hwd _ wk_224) rfl hK hP hD hS hA (fun _ => rfl) (by decide) (by decide) (by decide) (Nat.le_of_ble_eq_true rfl) (Nat.le_of_ble_eq_true rfl) dX10_init_7 (fun q_329 ca_330 H hK hP hD hS => ?_)
  have hK : va_K (dC, dI) classes [(ca_330, .int)] s := hK
  have hP : va_P (dC, dI) classes [(h0, .inr (10, [.int 0, .null])), (q_329, .inl (ca_330, 120, .inl (fun _ => 0)))] H := hP
  have hD : va_D A [(h0, .inr (10, [.int 0, .null])), (q_329, .inl (ca_330, 120, .inl (fun _ => 0)))] := hD
  refine W.widen (k := 1) (n := 120) (Nat.le_of_ble_eq_true rfl) (Nat.le_of_ble_eq_true rfl) ?_
  refine va_putF (D := (dC, dI)) (ci := 10) (v := .ref q_329) (ty := .array .int) (C := RX10) (T := TX10) (N := 2) hx hb hwd inA_X10 tyX10 tyX10_ok nmX10 hown hK hP hD hS 0 rfl rfl 1 (by decide) (hwd _ wk_95) (fun _ h9 => h9) rfl hin rfl (by decide +kernel) rfl rfl (Nat.le_of_ble_eq_true rfl) dX10_init_9 (fun H locs hP hD hS => ?_)
  have hP : va_P (dC, dI) classes [(h0, .inr (10, [.int 0, .ref q_329])), (q_329, .inl (ca_330, 120, .inl (fun _ => 0)))] H := hP
  have hD : va_D A [(h0, .inr (10, [.int 0, .ref q_329])), (q_329, .inl (ca_330, 120, .inl (fun _ => 0)))] := hD
  have hP9 : va_P (dC, dI) classes [(h0, .inr (10, o10 (fun k => [0, q_329].getD k 0))), ((fun k => [0, q_329].getD k 0) 1, .inl (ca_330, 120, .inl (fun _ => 0)))] H := hP.sub [0, 1] rfl
  have hD9 : va_D A [(h0, .inr (10, o10 (fun k => [0, q_329].getD k 0))), ((fun k => [0, q_329].getD k 0) 1, .inl (ca_330, 120, .inl (fun _ => 0)))] := hD.sub [0, 1] (by decide) rfl
  have hK9 : va_K (dC, dI) classes [(ca_330, .int)] s := hK.sub [0] rfl
  exact W.vret hx hb hr (fun t ht hW => ⟨⟨(), rfl, trivial, (fun k => [0, q_329].getD k 0), ca_330, by rw [ht]; exact hP9, va_K.moved hW.alike hK9, hD9⟩, hS.F ht⟩) hS.2.2 dX10_init_12
set_option maxHeartbeats 4000000 in
set_option maxRecDepth 100000 in
theorem c_X4_init (l : Launch) (dC : Nat → ClassId) (dI : Nat → Nat → Nat) (h0 : Nat) (sz : Nat) : Met l yX4_init (Cond.code yX4_init cX4_init 1 none :: wA) ({ frames := 1, cells := 15, slots := 1360, locals := 40 }) (va_Pc [.ref h0] (fun U => U.heap.size = sz ∧ va_P (dC, dI) classes [(h0, .inr (4, [.int 0, .null, .null, .null, .null, .null, .int 0]))] U.heap ∧ va_K (dC, dI) classes [] U ∧ va_D (fun _ => True) [(h0, .inr (4, [.int 0, .null, .null, .null, .null, .null, .int 0]))] ∧ (Cond.arrayOver (.array .int)).before #[] U = true)) (va_Qv (fun _ : Unit => True) (fun (_ : Unit) (t : State) => ∃ (gz : Nat → Nat), ∃ (c4 : ClassId), ∃ (r : Nat → Nat), va_P (dC, dI) classes [(h0, .inr (4, o4 gz)), (gz 4, .inl (c4, 10, .inr (.inr (.inr (.inr (fun i => if i < 10 then some (r i) else none))))))] t.heap ∧ va_K (dC, dI) classes [(c4, (.array .int))] t ∧ va_D (va_A [(h0, .inr (4, [.int 0, .null, .null, .null, .null, .null, .int 0]))] sz) [(h0, .inr (4, o4 gz)), (gz 4, .inl (c4, 10, .inr (.inr (.inr (.inr (fun i => if i < 10 then some (r i) else none))))))]) (va_A [(h0, .inr (4, [.int 0, .null, .null, .null, .null, .null, .int 0]))] sz)) 15 1360 (va_A [(h0, .inr (4, [.int 0, .null, .null, .null, .null, .null, .int 0]))] sz) := by
  refine Met.ofW (cc := cX4_init) (maxL := 1) (ret := none) (by decide) rfl ?_
  intro p e s m args below meth c s₁ B hml hv
  obtain ⟨rfl, hsz, hP, hK, hD0, hAOA⟩ := hv
  have hx := B.exec
  have hb := B.bytes
  have hr := B.returns
  have hts := atoms_spec (ws := Cond.code yX4_init cX4_init 1 none :: wA) B.pre
  have hwd : ∀ w ∈ wA, w.before _ s = true := fun w h => hts w (List.mem_cons_of_mem _ h)
  have hown : s.vm.findClass RX4 = some m.cls := findClass_of_methodNamed B.named
  have hlocks := B.notSynchronized
  have hin : meth.name = "<init>" := (name_of_methodNamed B.named B.method).1
  subst hsz
  have hD := hD0.self (sz := s.heap.size)
  generalize hAe : va_A [(h0, .inr (4, [.int 0, .null, .null, .null, .null, .null, .int 0]))] s.heap.size = A at hD ⊢
  have hA : ∀ q : Nat, s.heap.size ≤ q → A q := fun q h => by rw [← hAe]; exact Or.inr h
  have hS : va_S A s.heap s.heap [] := va_S.rf
  have hP : va_P (dC, dI) classes [(h0, .inr (4, [.int 0, .null, .null, .null, .null, .null, .int 0]))] s.heap := hP
  have hl := lv_entry ([.ref h0]) (n := 1) (Nat.le_of_ble_eq_true rfl)
  rw [lg_entry_eq]
  generalize (lg_sl ([.ref h0]) ++ List.replicate (1 - (lg_sl ([.ref h0])).length) Slot.unset).toArray = ls at hl ⊢
  have hl : lv_has ls 1 [(0, .ref h0)] := hl
  obtain ⟨H, eH⟩ : ∃ z, z = s.heap := ⟨_, rfl⟩
  have hP : va_P (dC, dI) classes [(h0, .inr (4, [.int 0, .null, .null, .null, .null, .null, .int 0]))] H := by rw [eH]; exact hP
  have hS : va_S A s.heap H [] := by rw [eH]; exact va_S.rf
  refine my_heap eH ?_
  refine lv_aload_n hx hb dX4_init_0 rfl (lv_at hl 0 rfl) ?_
  refine W.objInit hx hb hown (hwd _ wk_252) (hwd _ wk_222) (hwd _ wk_223) rfl (by rw [hml]; exact hl.1) rfl dX4_init_1 (Nat.le_of_ble_eq_true rfl) (Nat.le_of_ble_eq_true rfl) ?_
  refine W.eq (g2 := F0 m 4 ls []) rfl ?_
  refine lv_aload_n hx hb dX4_init_4 rfl (lv_at hl 0 rfl) ?_
  refine lv_bipush (v := 10) hx hb dX4_init_5 (by decide) ?_
  refine va_newa (atype := .int) (a0 := (10, .inl (fun _ => 0))) (ty := .int) (N' := 10) hx hb (hwd _ wk_224) rfl hK hP hD hS hA (fun _ => rfl) (by decide) (by decide) (by decide) (Nat.le_of_ble_eq_true rfl) (Nat.le_of_ble_eq_true rfl) dX4_init_7 (fun q_331 ca_332 H hK hP hD hS => ?_)
  have hK : va_K (dC, dI) classes [(ca_332, .int)] s := hK
  have hP : va_P (dC, dI) classes [(h0, .inr (4, [.int 0, .null, .null, .null, .null, .null, .int 0])), (q_331, .inl (ca_332, 10, .inl (fun _ => 0)))] H := hP
  have hD : va_D A [(h0, .inr (4, [.int 0, .null, .null, .null, .null, .null, .int 0])), (q_331, .inl (ca_332, 10, .inl (fun _ => 0)))] := hD
  refine W.widen (k := 1) (n := 10) (Nat.le_of_ble_eq_true rfl) (Nat.le_of_ble_eq_true rfl) ?_
  have hP : va_P (dC, dI) classes [(h0, .inr (4, [.int 0, .null, .null, .null, .null, .null, .int 0]))] H := hP.sub [0] rfl
  have hD : va_D A [(h0, .inr (4, [.int 0, .null, .null, .null, .null, .null, .int 0]))] := hD.sub [0] (by decide) rfl
  refine va_putF (D := (dC, dI)) (ci := 4) (v := .ref q_331) (ty := .array .int) (C := RX4) (T := TX4) (N := 7) hx hb hwd inA_X4 tyX4 tyX4_ok nmX4 hown hK hP hD hS 0 rfl rfl 1 (by decide) (hwd _ wk_253) (fun _ h9 => h9) rfl hin rfl (by decide +kernel) rfl rfl (Nat.le_of_ble_eq_true rfl) dX4_init_9 (fun H locs hP hD hS => ?_)
  have hP : va_P (dC, dI) classes [(h0, .inr (4, [.int 0, .ref q_331, .null, .null, .null, .null, .int 0]))] H := hP
  have hD : va_D A [(h0, .inr (4, [.int 0, .ref q_331, .null, .null, .null, .null, .int 0]))] := hD
  refine lv_aload_n hx hb dX4_init_12 rfl (lv_at hl 0 rfl) ?_
  refine lv_bipush (v := 10) hx hb dX4_init_13 (by decide) ?_
  refine va_newa (atype := .int) (a0 := (10, .inl (fun _ => 0))) (ty := .int) (N' := 10) hx hb (hwd _ wk_224) rfl hK hP hD hS hA (fun _ => rfl) (by decide) (by decide) (by decide) (Nat.le_of_ble_eq_true rfl) (Nat.le_of_ble_eq_true rfl) dX4_init_15 (fun q_333 ca_334 H hK hP hD hS => ?_)
  have hK : va_K (dC, dI) classes [(ca_332, .int), (ca_334, .int)] s := hK
  have hP : va_P (dC, dI) classes [(h0, .inr (4, [.int 0, .ref q_331, .null, .null, .null, .null, .int 0])), (q_333, .inl (ca_334, 10, .inl (fun _ => 0)))] H := hP
  have hD : va_D A [(h0, .inr (4, [.int 0, .ref q_331, .null, .null, .null, .null, .int 0])), (q_333, .inl (ca_334, 10, .inl (fun _ => 0)))] := hD
  refine W.widen (k := 2) (n := 20) (Nat.le_of_ble_eq_true rfl) (Nat.le_of_ble_eq_true rfl) ?_
  have hP : va_P (dC, dI) classes [(h0, .inr (4, [.int 0, .ref q_331, .null, .null, .null, .null, .int 0]))] H := hP.sub [0] rfl
  have hD : va_D A [(h0, .inr (4, [.int 0, .ref q_331, .null, .null, .null, .null, .int 0]))] := hD.sub [0] (by decide) rfl
  refine va_putF (D := (dC, dI)) (ci := 4) (v := .ref q_333) (ty := .array .int) (C := RX4) (T := TX4) (N := 7) hx hb hwd inA_X4 tyX4 tyX4_ok nmX4 hown hK hP hD hS 0 rfl rfl 2 (by decide) (hwd _ wk_254) (fun _ h9 => h9) rfl hin rfl (by decide +kernel) rfl rfl (Nat.le_of_ble_eq_true rfl) dX4_init_17 (fun H locs hP hD hS => ?_)
  have hP : va_P (dC, dI) classes [(h0, .inr (4, [.int 0, .ref q_331, .ref q_333, .null, .null, .null, .int 0]))] H := hP
  have hD : va_D A [(h0, .inr (4, [.int 0, .ref q_331, .ref q_333, .null, .null, .null, .int 0]))] := hD
  refine lv_aload_n hx hb dX4_init_20 rfl (lv_at hl 0 rfl) ?_
  refine lv_bipush (v := 10) hx hb dX4_init_21 (by decide) ?_
  refine va_newa (atype := .int) (a0 := (10, .inl (fun _ => 0))) (ty := .int) (N' := 10) hx hb (hwd _ wk_224) rfl hK hP hD hS hA (fun _ => rfl) (by decide) (by decide) (by decide) (Nat.le_of_ble_eq_true rfl) (Nat.le_of_ble_eq_true rfl) dX4_init_23 (fun q_335 ca_336 H hK hP hD hS => ?_)
  have hK : va_K (dC, dI) classes [(ca_332, .int), (ca_334, .int), (ca_336, .int)] s := hK
  have hP : va_P (dC, dI) classes [(h0, .inr (4, [.int 0, .ref q_331, .ref q_333, .null, .null, .null, .int 0])), (q_335, .inl (ca_336, 10, .inl (fun _ => 0)))] H := hP
  have hD : va_D A [(h0, .inr (4, [.int 0, .ref q_331, .ref q_333, .null, .null, .null, .int 0])), (q_335, .inl (ca_336, 10, .inl (fun _ => 0)))] := hD
  refine W.widen (k := 3) (n := 30) (Nat.le_of_ble_eq_true rfl) (Nat.le_of_ble_eq_true rfl) ?_
  have hP : va_P (dC, dI) classes [(h0, .inr (4, [.int 0, .ref q_331, .ref q_333, .null, .null, .null, .int 0]))] H := hP.sub [0] rfl
  have hD : va_D A [(h0, .inr (4, [.int 0, .ref q_331, .ref q_333, .null, .null, .null, .int 0]))] := hD.sub [0] (by decide) rfl
  refine va_putF (D := (dC, dI)) (ci := 4) (v := .ref q_335) (ty := .array .int) (C := RX4) (T := TX4) (N := 7) hx hb hwd inA_X4 tyX4 tyX4_ok nmX4 hown hK hP hD hS 0 rfl rfl 3 (by decide) (hwd _ wk_255) (fun _ h9 => h9) rfl hin rfl (by decide +kernel) rfl rfl (Nat.le_of_ble_eq_true rfl) dX4_init_25 (fun H locs hP hD hS => ?_)
  have hP : va_P (dC, dI) classes [(h0, .inr (4, [.int 0, .ref q_331, .ref q_333, .ref q_335, .null, .null, .int 0]))] H := hP
  have hD : va_D A [(h0, .inr (4, [.int 0, .ref q_331, .ref q_333, .ref q_335, .null, .null, .int 0]))] := hD
  refine lv_aload_n hx hb dX4_init_28 rfl (lv_at hl 0 rfl) ?_
  refine lv_bipush (v := 10) hx hb dX4_init_29 (by decide) ?_
  refine lv_bipush (v := 120) hx hb dX4_init_31 (by decide) ?_
  have hP : va_P (dC, dI) classes ([(h0, .inr (4, [.int 0, .ref q_331, .ref q_333, .ref q_335, .null, .null, .int 0]))] ++ va_pl [] (fun _ => .inr (0, []))) H := hP
  have hD : va_D A ([(h0, .inr (4, [.int 0, .ref q_331, .ref q_333, .ref q_335, .null, .null, .int 0]))] ++ va_pl [] (fun _ => .inr (0, []))) := hD
  refine va_mna (ty := .int) (cy := ca_332) (z := (120, .inl (fun _ => 0))) (N' := 10) (K' := 120) hx hb hown (hwd _ wk_256) hAOA (hwd _ wk_224) ((hK.2 0 _ rfl).2) hK hP hD hS hA (by decide) (by decide) (by decide) (by decide) (by decide) (by decide) (by decide) (by decide) (by decide) (Nat.le_of_ble_eq_true rfl) (Nat.le_of_ble_eq_true rfl) (fun _ => rfl) dX4_init_33 (fun q_337 r_338 ca_339 H hin1 hin2 hK hP hD hS => ?_)
  have hK : va_K (dC, dI) classes [(ca_332, .int), (ca_334, .int), (ca_336, .int), (ca_339, .array .int)] s := hK
  have hP : va_P (dC, dI) classes [(h0, .inr (4, [.int 0, .ref q_331, .ref q_333, .ref q_335, .null, .null, .int 0])), (q_337, .inl (ca_339, 10, .inr (.inr (.inr (.inr (fun i => if i < 10 then some (r_338 i) else none))))))] H := hP.sub [0, 1] rfl
  have hD : va_D A [(h0, .inr (4, [.int 0, .ref q_331, .ref q_333, .ref q_335, .null, .null, .int 0])), (q_337, .inl (ca_339, 10, .inr (.inr (.inr (.inr (fun i => if i < 10 then some (r_338 i) else none))))))] := hD.sub [0, 1] (by decide) rfl
  refine W.widen (k := 14) (n := 1240) (Nat.le_of_ble_eq_true rfl) (Nat.le_of_ble_eq_true rfl) ?_
  refine va_putF (D := (dC, dI)) (ci := 4) (v := .ref q_337) (ty := .array (.array .int)) (C := RX4) (T := TX4) (N := 7) hx hb hwd inA_X4 tyX4 tyX4_ok nmX4 hown hK hP hD hS 0 rfl rfl 4 (by decide) (hwd _ wk_257) (fun _ h9 => h9) rfl hin rfl (by decide +kernel) rfl rfl (Nat.le_of_ble_eq_true rfl) dX4_init_37 (fun H locs hP hD hS => ?_)
  have hP : va_P (dC, dI) classes [(h0, .inr (4, [.int 0, .ref q_331, .ref q_333, .ref q_335, .ref q_337, .null, .int 0])), (q_337, .inl (ca_339, 10, .inr (.inr (.inr (.inr (fun i => if i < 10 then some (r_338 i) else none))))))] H := hP
  have hD : va_D A [(h0, .inr (4, [.int 0, .ref q_331, .ref q_333, .ref q_335, .ref q_337, .null, .int 0])), (q_337, .inl (ca_339, 10, .inr (.inr (.inr (.inr (fun i => if i < 10 then some (r_338 i) else none))))))] := hD
  refine lv_aload_n hx hb dX4_init_40 rfl (lv_at hl 0 rfl) ?_
  refine lv_bipush (v := 120) hx hb dX4_init_41 (by decide) ?_
  refine va_newa (atype := .int) (a0 := (120, .inl (fun _ => 0))) (ty := .int) (N' := 120) hx hb (hwd _ wk_224) rfl hK hP hD hS hA (fun _ => rfl) (by decide) (by decide) (by decide) (Nat.le_of_ble_eq_true rfl) (Nat.le_of_ble_eq_true rfl) dX4_init_43 (fun q_340 ca_341 H hK hP hD hS => ?_)
  have hK : va_K (dC, dI) classes [(ca_332, .int), (ca_334, .int), (ca_336, .int), (ca_339, .array .int), (ca_341, .int)] s := hK
  have hP : va_P (dC, dI) classes [(h0, .inr (4, [.int 0, .ref q_331, .ref q_333, .ref q_335, .ref q_337, .null, .int 0])), (q_337, .inl (ca_339, 10, .inr (.inr (.inr (.inr (fun i => if i < 10 then some (r_338 i) else none)))))), (q_340, .inl (ca_341, 120, .inl (fun _ => 0)))] H := hP
  have hD : va_D A [(h0, .inr (4, [.int 0, .ref q_331, .ref q_333, .ref q_335, .ref q_337, .null, .int 0])), (q_337, .inl (ca_339, 10, .inr (.inr (.inr (.inr (fun i => if i < 10 then some (r_338 i) else none)))))), (q_340, .inl (ca_341, 120, .inl (fun _ => 0)))] := hD
  refine W.widen (k := 15) (n := 1360) (Nat.le_of_ble_eq_true rfl) (Nat.le_of_ble_eq_true rfl) ?_
  have hP : va_P (dC, dI) classes [(h0, .inr (4, [.int 0, .ref q_331, .ref q_333, .ref q_335, .ref q_337, .null, .int 0])), (q_337, .inl (ca_339, 10, .inr (.inr (.inr (.inr (fun i => if i < 10 then some (r_338 i) else none))))))] H := hP.sub [0, 1] rfl
  have hD : va_D A [(h0, .inr (4, [.int 0, .ref q_331, .ref q_333, .ref q_335, .ref q_337, .null, .int 0])), (q_337, .inl (ca_339, 10, .inr (.inr (.inr (.inr (fun i => if i < 10 then some (r_338 i) else none))))))] := hD.sub [0, 1] (by decide) rfl
  refine va_putF (D := (dC, dI)) (ci := 4) (v := .ref q_340) (ty := .array .int) (C := RX4) (T := TX4) (N := 7) hx hb hwd inA_X4 tyX4 tyX4_ok nmX4 hown hK hP hD hS 0 rfl rfl 5 (by decide) (hwd _ wk_258) (fun _ h9 => h9) rfl hin rfl (by decide +kernel) rfl rfl (Nat.le_of_ble_eq_true rfl) dX4_init_45 (fun H locs hP hD hS => ?_)
  have hP : va_P (dC, dI) classes [(h0, .inr (4, [.int 0, .ref q_331, .ref q_333, .ref q_335, .ref q_337, .ref q_340, .int 0])), (q_337, .inl (ca_339, 10, .inr (.inr (.inr (.inr (fun i => if i < 10 then some (r_338 i) else none))))))] H := hP
  have hD : va_D A [(h0, .inr (4, [.int 0, .ref q_331, .ref q_333, .ref q_335, .ref q_337, .ref q_340, .int 0])), (q_337, .inl (ca_339, 10, .inr (.inr (.inr (.inr (fun i => if i < 10 then some (r_338 i) else none))))))] := hD
  have hP9 : va_P (dC, dI) classes [(h0, .inr (4, o4 (fun k => [0, q_331, q_333, q_335, q_337, q_340, 0].getD k 0))), ((fun k => [0, q_331, q_333, q_335, q_337, q_340, 0].getD k 0) 4, .inl (ca_339, 10, .inr (.inr (.inr (.inr (fun i => if i < 10 then some (r_338 i) else none))))))] H := hP.sub [0, 1] rfl
  have hD9 : va_D A [(h0, .inr (4, o4 (fun k => [0, q_331, q_333, q_335, q_337, q_340, 0].getD k 0))), ((fun k => [0, q_331, q_333, q_335, q_337, q_340, 0].getD k 0) 4, .inl (ca_339, 10, .inr (.inr (.inr (.inr (fun i => if i < 10 then some (r_338 i) else none))))))] := hD.sub [0, 1] (by decide) rfl
  have hK9 : va_K (dC, dI) classes [(ca_339, (.array .int))] s := hK.sub [3] rfl
  exact W.vret hx hb hr (fun t ht hW => ⟨⟨(), rfl, trivial, (fun k => [0, q_331, q_333, q_335, q_337, q_340, 0].getD k 0), ca_339, r_338, by rw [ht]; exact hP9, va_K.moved hW.alike hK9, hD9⟩, hS.F ht⟩) hS.2.2 dX4_init_48
set_option maxHeartbeats 4000000 in
set_option maxRecDepth 100000 in
theorem c_X3_init (l : Launch) (dC : Nat → ClassId) (dI : Nat → Nat → Nat) (h0 : Nat) (tp : Nat) (sz : Nat) : Met l yX3_init (Cond.code yX3_init cX3_init 2 none :: wA) ({ frames := 1, cells := 1, slots := 0, locals := 40 }) (va_Pc [.ref h0, .ref tp] (fun U => U.heap.size = sz ∧ va_P (dC, dI) classes [(h0, .inr (3, [.null, .null, .int 0, .int 0, .int 0]))] U.heap ∧ va_K (dC, dI) classes [] U ∧ va_D (fun _ => True) [(h0, .inr (3, [.null, .null, .int 0, .int 0, .int 0]))])) (va_Qv (fun _ : Unit => True) (fun (_ : Unit) (t : State) => ∃ (cd : Nat), va_P (dC, dI) classes [(h0, .inr (3, [.ref tp, .ref cd, .int 0, .int 0, .int 0]))] t.heap ∧ va_K (dC, dI) classes [] t ∧ va_D (va_A [(h0, .inr (3, [.null, .null, .int 0, .int 0, .int 0]))] sz) [(h0, .inr (3, [.ref tp, .ref cd, .int 0, .int 0, .int 0]))]) (va_A [(h0, .inr (3, [.null, .null, .int 0, .int 0, .int 0]))] sz)) 1 0 (va_A [(h0, .inr (3, [.null, .null, .int 0, .int 0, .int 0]))] sz) := by
  refine Met.ofW (cc := cX3_init) (maxL := 2) (ret := none) (by decide) rfl ?_
  intro p e s m args below meth c s₁ B hml hv
  obtain ⟨rfl, hsz, hP, hK, hD0⟩ := hv
  have hx := B.exec
  have hb := B.bytes
  have hr := B.returns
  have hts := atoms_spec (ws := Cond.code yX3_init cX3_init 2 none :: wA) B.pre
  have hwd : ∀ w ∈ wA, w.before _ s = true := fun w h => hts w (List.mem_cons_of_mem _ h)
  have hown : s.vm.findClass RX3 = some m.cls := findClass_of_methodNamed B.named
  have hlocks := B.notSynchronized
  have hin : meth.name = "<init>" := (name_of_methodNamed B.named B.method).1
  subst hsz
  have hD := hD0.self (sz := s.heap.size)
  generalize hAe : va_A [(h0, .inr (3, [.null, .null, .int 0, .int 0, .int 0]))] s.heap.size = A at hD ⊢
  have hA : ∀ q : Nat, s.heap.size ≤ q → A q := fun q h => by rw [← hAe]; exact Or.inr h
  have hS : va_S A s.heap s.heap [] := va_S.rf
  have hP : va_P (dC, dI) classes [(h0, .inr (3, [.null, .null, .int 0, .int 0, .int 0]))] s.heap := hP
  have hl := lv_entry ([.ref h0, .ref tp]) (n := 2) (Nat.le_of_ble_eq_true rfl)
  rw [lg_entry_eq]
  generalize (lg_sl ([.ref h0, .ref tp]) ++ List.replicate (2 - (lg_sl ([.ref h0, .ref tp])).length) Slot.unset).toArray = ls at hl ⊢
  have hl : lv_has ls 2 [(0, .ref h0), (1, .ref tp)] := hl
  obtain ⟨H, eH⟩ : ∃ z, z = s.heap := ⟨_, rfl⟩
  have hP : va_P (dC, dI) classes [(h0, .inr (3, [.null, .null, .int 0, .int 0, .int 0]))] H := by rw [eH]; exact hP
  have hS : va_S A s.heap H [] := by rw [eH]; exact va_S.rf
  refine my_heap eH ?_
  refine lv_aload_n hx hb dX3_init_0 rfl (lv_at hl 0 rfl) ?_
  refine W.objInit hx hb hown (hwd _ wk_259) (hwd _ wk_222) (hwd _ wk_223) rfl (by rw [hml]; exact hl.1) rfl dX3_init_1 (Nat.le_of_ble_eq_true rfl) (Nat.le_of_ble_eq_true rfl) ?_
  refine W.eq (g2 := F0 m 4 ls []) rfl ?_
  refine lv_aload_n hx hb dX3_init_4 rfl (lv_at hl 0 rfl) ?_
  refine lv_aload_n hx hb dX3_init_5 rfl (lv_at hl 1 rfl) ?_
  refine va_putF (D := (dC, dI)) (ci := 3) (v := .ref tp) (ty := .object "PlanesBack$Tape") (C := RX3) (T := TX3) (N := 5) hx hb hwd inA_X3 tyX3 tyX3_ok nmX3 hown hK hP hD hS 0 rfl rfl 0 (by decide) (hwd _ wk_105) (fun _ h9 => h9) rfl hin rfl (by decide +kernel) rfl rfl (Nat.le_of_ble_eq_true rfl) dX3_init_6 (fun H locs hP hD hS => ?_)
  have hP : va_P (dC, dI) classes [(h0, .inr (3, [.ref tp, .null, .int 0, .int 0, .int 0]))] H := hP
  have hD : va_D A [(h0, .inr (3, [.ref tp, .null, .int 0, .int 0, .int 0]))] := hD
  refine lv_aload_n hx hb dX3_init_9 rfl (lv_at hl 0 rfl) ?_
  refine lv_iconst (v := 0) hx hb dX3_init_10 (by decide) ?_
  refine va_newa (atype := .int) (a0 := (0, .inl (fun _ => 0))) (ty := .int) (N' := 0) hx hb (hwd _ wk_224) rfl hK hP hD hS hA (fun _ => rfl) (by decide) (by decide) (by decide) (Nat.le_of_ble_eq_true rfl) (Nat.le_of_ble_eq_true rfl) dX3_init_11 (fun q_342 ca_343 H hK hP hD hS => ?_)
  have hK : va_K (dC, dI) classes [(ca_343, .int)] s := hK
  have hP : va_P (dC, dI) classes [(h0, .inr (3, [.ref tp, .null, .int 0, .int 0, .int 0])), (q_342, .inl (ca_343, 0, .inl (fun _ => 0)))] H := hP
  have hD : va_D A [(h0, .inr (3, [.ref tp, .null, .int 0, .int 0, .int 0])), (q_342, .inl (ca_343, 0, .inl (fun _ => 0)))] := hD
  refine W.widen (k := 1) (n := 0) (Nat.le_of_ble_eq_true rfl) (Nat.le_of_ble_eq_true rfl) ?_
  have hP : va_P (dC, dI) classes [(h0, .inr (3, [.ref tp, .null, .int 0, .int 0, .int 0]))] H := hP.sub [0] rfl
  have hD : va_D A [(h0, .inr (3, [.ref tp, .null, .int 0, .int 0, .int 0]))] := hD.sub [0] (by decide) rfl
  refine va_put (D := (dC, dI)) (ci := 3) (v := .ref q_342) (ty := .array .int) (C := RX3) (T := TX3) (N := 5) hx hb hwd inA_X3 tyX3 tyX3_ok nmX3 hown hK hP hD hS 0 rfl rfl 1 (by decide) (hwd _ wk_140) (fun _ h9 => h9) rfl (by decide +kernel) rfl rfl (Nat.le_of_ble_eq_true rfl) dX3_init_13 (fun H locs hP hD hS => ?_)
  have hP : va_P (dC, dI) classes [(h0, .inr (3, [.ref tp, .ref q_342, .int 0, .int 0, .int 0]))] H := hP
  have hD : va_D A [(h0, .inr (3, [.ref tp, .ref q_342, .int 0, .int 0, .int 0]))] := hD
  have hP9 : va_P (dC, dI) classes [(h0, .inr (3, [.ref tp, .ref q_342, .int 0, .int 0, .int 0]))] H := hP.sub [0] rfl
  have hD9 : va_D A [(h0, .inr (3, [.ref tp, .ref q_342, .int 0, .int 0, .int 0]))] := hD.sub [0] (by decide) rfl
  have hK9 : va_K (dC, dI) classes [] s := hK.sub [] rfl
  exact W.vret hx hb hr (fun t ht hW => ⟨⟨(), rfl, trivial, q_342, by rw [ht]; exact hP9, va_K.moved hW.alike hK9, hD9⟩, hS.F ht⟩) hS.2.2 dX3_init_16
set_option maxHeartbeats 4000000 in
set_option maxRecDepth 100000 in
theorem c_X6_init (l : Launch) (dC : Nat → ClassId) (dI : Nat → Nat → Nat) (h0 : Nat) (sz : Nat) (pl : Nat) : Met l yX6_init (Cond.code yX6_init cX6_init 2 none :: wA) ({ frames := 1, cells := 3, slots := 240, locals := 40 }) (va_Pc [.ref h0, .ref pl] (fun U => U.heap.size = sz ∧ va_P (dC, dI) classes [(h0, .inr (6, [.null, .int 0, .null, .null, .null]))] U.heap ∧ va_K (dC, dI) classes [] U ∧ va_D (fun _ => True) [(h0, .inr (6, [.null, .int 0, .null, .null, .null]))])) (va_Qv (fun _ : Unit => True) (fun (_ : Unit) (t : State) => ∃ (gz : Nat → Nat), va_P (dC, dI) classes [(h0, .inr (6, o6 gz))] t.heap ∧ va_K (dC, dI) classes [] t ∧ va_D (va_A [(h0, .inr (6, [.null, .int 0, .null, .null, .null]))] sz) [(h0, .inr (6, o6 gz))]) (va_A [(h0, .inr (6, [.null, .int 0, .null, .null, .null]))] sz)) 3 240 (va_A [(h0, .inr (6, [.null, .int 0, .null, .null, .null]))] sz) := by
  refine Met.ofW (cc := cX6_init) (maxL := 2) (ret := none) (by decide) rfl ?_
  intro p e s m args below meth c s₁ B hml hv
  obtain ⟨rfl, hsz, hP, hK, hD0⟩ := hv
  have hx := B.exec
  have hb := B.bytes
  have hr := B.returns
  have hts := atoms_spec (ws := Cond.code yX6_init cX6_init 2 none :: wA) B.pre
  have hwd : ∀ w ∈ wA, w.before _ s = true := fun w h => hts w (List.mem_cons_of_mem _ h)
  have hown : s.vm.findClass RX6 = some m.cls := findClass_of_methodNamed B.named
  have hlocks := B.notSynchronized
  have hin : meth.name = "<init>" := (name_of_methodNamed B.named B.method).1
  subst hsz
  have hD := hD0.self (sz := s.heap.size)
  generalize hAe : va_A [(h0, .inr (6, [.null, .int 0, .null, .null, .null]))] s.heap.size = A at hD ⊢
  have hA : ∀ q : Nat, s.heap.size ≤ q → A q := fun q h => by rw [← hAe]; exact Or.inr h
  have hS : va_S A s.heap s.heap [] := va_S.rf
  have hP : va_P (dC, dI) classes [(h0, .inr (6, [.null, .int 0, .null, .null, .null]))] s.heap := hP
  have hl := lv_entry ([.ref h0, .ref pl]) (n := 2) (Nat.le_of_ble_eq_true rfl)
  rw [lg_entry_eq]
  generalize (lg_sl ([.ref h0, .ref pl]) ++ List.replicate (2 - (lg_sl ([.ref h0, .ref pl])).length) Slot.unset).toArray = ls at hl ⊢
  have hl : lv_has ls 2 [(0, .ref h0), (1, .ref pl)] := hl
  obtain ⟨H, eH⟩ : ∃ z, z = s.heap := ⟨_, rfl⟩
  have hP : va_P (dC, dI) classes [(h0, .inr (6, [.null, .int 0, .null, .null, .null]))] H := by rw [eH]; exact hP
  have hS : va_S A s.heap H [] := by rw [eH]; exact va_S.rf
  refine my_heap eH ?_
  refine lv_aload_n hx hb dX6_init_0 rfl (lv_at hl 0 rfl) ?_
  refine W.objInit hx hb hown (hwd _ wk_260) (hwd _ wk_222) (hwd _ wk_223) rfl (by rw [hml]; exact hl.1) rfl dX6_init_1 (Nat.le_of_ble_eq_true rfl) (Nat.le_of_ble_eq_true rfl) ?_
  refine W.eq (g2 := F0 m 4 ls []) rfl ?_
  refine lv_aload_n hx hb dX6_init_4 rfl (lv_at hl 0 rfl) ?_
  refine lv_bipush (v := 20) hx hb dX6_init_5 (by decide) ?_
  refine va_newa (atype := .int) (a0 := (20, .inl (fun _ => 0))) (ty := .int) (N' := 20) hx hb (hwd _ wk_224) rfl hK hP hD hS hA (fun _ => rfl) (by decide) (by decide) (by decide) (Nat.le_of_ble_eq_true rfl) (Nat.le_of_ble_eq_true rfl) dX6_init_7 (fun q_344 ca_345 H hK hP hD hS => ?_)
  have hK : va_K (dC, dI) classes [(ca_345, .int)] s := hK
  have hP : va_P (dC, dI) classes [(h0, .inr (6, [.null, .int 0, .null, .null, .null])), (q_344, .inl (ca_345, 20, .inl (fun _ => 0)))] H := hP
  have hD : va_D A [(h0, .inr (6, [.null, .int 0, .null, .null, .null])), (q_344, .inl (ca_345, 20, .inl (fun _ => 0)))] := hD
  refine W.widen (k := 1) (n := 20) (Nat.le_of_ble_eq_true rfl) (Nat.le_of_ble_eq_true rfl) ?_
  have hP : va_P (dC, dI) classes [(h0, .inr (6, [.null, .int 0, .null, .null, .null]))] H := hP.sub [0] rfl
  have hD : va_D A [(h0, .inr (6, [.null, .int 0, .null, .null, .null]))] := hD.sub [0] (by decide) rfl
  refine va_putF (D := (dC, dI)) (ci := 6) (v := .ref q_344) (ty := .array .int) (C := RX6) (T := TX6) (N := 5) hx hb hwd inA_X6 tyX6 tyX6_ok nmX6 hown hK hP hD hS 0 rfl rfl 2 (by decide) (hwd _ wk_261) (fun _ h9 => h9) rfl hin rfl (by decide +kernel) rfl rfl (Nat.le_of_ble_eq_true rfl) dX6_init_9 (fun H locs hP hD hS => ?_)
  have hP : va_P (dC, dI) classes [(h0, .inr (6, [.null, .int 0, .ref q_344, .null, .null]))] H := hP
  have hD : va_D A [(h0, .inr (6, [.null, .int 0, .ref q_344, .null, .null]))] := hD
  refine lv_aload_n hx hb dX6_init_12 rfl (lv_at hl 0 rfl) ?_
  refine lv_bipush (v := 20) hx hb dX6_init_13 (by decide) ?_
  refine va_newa (atype := .int) (a0 := (20, .inl (fun _ => 0))) (ty := .int) (N' := 20) hx hb (hwd _ wk_224) rfl hK hP hD hS hA (fun _ => rfl) (by decide) (by decide) (by decide) (Nat.le_of_ble_eq_true rfl) (Nat.le_of_ble_eq_true rfl) dX6_init_15 (fun q_346 ca_347 H hK hP hD hS => ?_)
  have hK : va_K (dC, dI) classes [(ca_345, .int), (ca_347, .int)] s := hK
  have hP : va_P (dC, dI) classes [(h0, .inr (6, [.null, .int 0, .ref q_344, .null, .null])), (q_346, .inl (ca_347, 20, .inl (fun _ => 0)))] H := hP
  have hD : va_D A [(h0, .inr (6, [.null, .int 0, .ref q_344, .null, .null])), (q_346, .inl (ca_347, 20, .inl (fun _ => 0)))] := hD
  refine W.widen (k := 2) (n := 40) (Nat.le_of_ble_eq_true rfl) (Nat.le_of_ble_eq_true rfl) ?_
  have hP : va_P (dC, dI) classes [(h0, .inr (6, [.null, .int 0, .ref q_344, .null, .null]))] H := hP.sub [0] rfl
  have hD : va_D A [(h0, .inr (6, [.null, .int 0, .ref q_344, .null, .null]))] := hD.sub [0] (by decide) rfl
  refine va_putF (D := (dC, dI)) (ci := 6) (v := .ref q_346) (ty := .array .int) (C := RX6) (T := TX6) (N := 5) hx hb hwd inA_X6 tyX6 tyX6_ok nmX6 hown hK hP hD hS 0 rfl rfl 3 (by decide) (hwd _ wk_262) (fun _ h9 => h9) rfl hin rfl (by decide +kernel) rfl rfl (Nat.le_of_ble_eq_true rfl) dX6_init_17 (fun H locs hP hD hS => ?_)
  have hP : va_P (dC, dI) classes [(h0, .inr (6, [.null, .int 0, .ref q_344, .ref q_346, .null]))] H := hP
  have hD : va_D A [(h0, .inr (6, [.null, .int 0, .ref q_344, .ref q_346, .null]))] := hD
  refine lv_aload_n hx hb dX6_init_20 rfl (lv_at hl 0 rfl) ?_
  refine lv_sipush (v := 200) hx hb dX6_init_21 (by decide) ?_
  refine va_newa (atype := .boolean) (a0 := (200, .inl (fun _ => 0))) (ty := .boolean) (N' := 200) hx hb (hwd _ wk_240) rfl hK hP hD hS hA (fun _ => rfl) (by decide) (by decide) (by decide) (Nat.le_of_ble_eq_true rfl) (Nat.le_of_ble_eq_true rfl) dX6_init_24 (fun q_348 ca_349 H hK hP hD hS => ?_)
  have hK : va_K (dC, dI) classes [(ca_345, .int), (ca_347, .int), (ca_349, .boolean)] s := hK
  have hP : va_P (dC, dI) classes [(h0, .inr (6, [.null, .int 0, .ref q_344, .ref q_346, .null])), (q_348, .inl (ca_349, 200, .inl (fun _ => 0)))] H := hP
  have hD : va_D A [(h0, .inr (6, [.null, .int 0, .ref q_344, .ref q_346, .null])), (q_348, .inl (ca_349, 200, .inl (fun _ => 0)))] := hD
  refine W.widen (k := 3) (n := 240) (Nat.le_of_ble_eq_true rfl) (Nat.le_of_ble_eq_true rfl) ?_
  have hP : va_P (dC, dI) classes [(h0, .inr (6, [.null, .int 0, .ref q_344, .ref q_346, .null]))] H := hP.sub [0] rfl
  have hD : va_D A [(h0, .inr (6, [.null, .int 0, .ref q_344, .ref q_346, .null]))] := hD.sub [0] (by decide) rfl
  refine va_putF (D := (dC, dI)) (ci := 6) (v := .ref q_348) (ty := .array .boolean) (C := RX6) (T := TX6) (N := 5) hx hb hwd inA_X6 tyX6 tyX6_ok nmX6 hown hK hP hD hS 0 rfl rfl 4 (by decide) (hwd _ wk_263) (fun _ h9 => h9) rfl hin rfl (by decide +kernel) rfl rfl (Nat.le_of_ble_eq_true rfl) dX6_init_26 (fun H locs hP hD hS => ?_)
  have hP : va_P (dC, dI) classes [(h0, .inr (6, [.null, .int 0, .ref q_344, .ref q_346, .ref q_348]))] H := hP
  have hD : va_D A [(h0, .inr (6, [.null, .int 0, .ref q_344, .ref q_346, .ref q_348]))] := hD
  refine lv_aload_n hx hb dX6_init_29 rfl (lv_at hl 0 rfl) ?_
  refine lv_aload_n hx hb dX6_init_30 rfl (lv_at hl 1 rfl) ?_
  refine va_putF (D := (dC, dI)) (ci := 6) (v := .ref pl) (ty := .object "PlanesBack$Planes") (C := RX6) (T := TX6) (N := 5) hx hb hwd inA_X6 tyX6 tyX6_ok nmX6 hown hK hP hD hS 0 rfl rfl 0 (by decide) (hwd _ wk_264) (fun _ h9 => h9) rfl hin rfl (by decide +kernel) rfl rfl (Nat.le_of_ble_eq_true rfl) dX6_init_31 (fun H locs hP hD hS => ?_)
  have hP : va_P (dC, dI) classes [(h0, .inr (6, [.ref pl, .int 0, .ref q_344, .ref q_346, .ref q_348]))] H := hP
  have hD : va_D A [(h0, .inr (6, [.ref pl, .int 0, .ref q_344, .ref q_346, .ref q_348]))] := hD
  have hP9 : va_P (dC, dI) classes [(h0, .inr (6, o6 (fun k => [pl, 0, q_344, q_346, q_348].getD k 0)))] H := hP.sub [0] rfl
  have hD9 : va_D A [(h0, .inr (6, o6 (fun k => [pl, 0, q_344, q_346, q_348].getD k 0)))] := hD.sub [0] (by decide) rfl
  have hK9 : va_K (dC, dI) classes [] s := hK.sub [] rfl
  exact W.vret hx hb hr (fun t ht hW => ⟨⟨(), rfl, trivial, (fun k => [pl, 0, q_344, q_346, q_348].getD k 0), by rw [ht]; exact hP9, va_K.moved hW.alike hK9, hD9⟩, hS.F ht⟩) hS.2.2 dX6_init_34
set_option maxHeartbeats 4000000 in
set_option maxRecDepth 100000 in
theorem c_X0_init (l : Launch) (dC : Nat → ClassId) (dI : Nat → Nat → Nat) (h0 : Nat) (tp : Nat) (sz : Nat) : Met l yX0_init (Cond.code yX0_init cX0_init 3 none :: wA) ({ frames := 1, cells := 15, slots := 1360, locals := 40 }) (va_Pc [.ref h0, .ref tp] (fun U => U.heap.size = sz ∧ va_P (dC, dI) classes [(h0, .inr (0, [.null, .null, .null, .null, .null, .null, .int 0, .int 0, .int 0]))] U.heap ∧ va_K (dC, dI) classes [] U ∧ va_D (fun _ => True) [(h0, .inr (0, [.null, .null, .null, .null, .null, .null, .int 0, .int 0, .int 0]))] ∧ (Cond.arrayOver (.array .int)).before #[] U = true)) (va_Qv (fun _ : Unit => True) (fun (_ : Unit) (_ : State) => True) (va_A [(h0, .inr (0, [.null, .null, .null, .null, .null, .null, .int 0, .int 0, .int 0]))] sz)) 15 1360 (va_A [(h0, .inr (0, [.null, .null, .null, .null, .null, .null, .int 0, .int 0, .int 0]))] sz) := by
  refine Met.ofW (cc := cX0_init) (maxL := 3) (ret := none) (by decide) rfl ?_
  intro p e s m args below meth c s₁ B hml hv
  obtain ⟨rfl, hsz, hP, hK, hD0, hAOA⟩ := hv
  have hx := B.exec
  have hb := B.bytes
  have hr := B.returns
  have hts := atoms_spec (ws := Cond.code yX0_init cX0_init 3 none :: wA) B.pre
  have hwd : ∀ w ∈ wA, w.before _ s = true := fun w h => hts w (List.mem_cons_of_mem _ h)
  have hown : s.vm.findClass RX0 = some m.cls := findClass_of_methodNamed B.named
  have hlocks := B.notSynchronized
  have hin : meth.name = "<init>" := (name_of_methodNamed B.named B.method).1
  subst hsz
  have hD := hD0.self (sz := s.heap.size)
  generalize hAe : va_A [(h0, .inr (0, [.null, .null, .null, .null, .null, .null, .int 0, .int 0, .int 0]))] s.heap.size = A at hD ⊢
  have hA : ∀ q : Nat, s.heap.size ≤ q → A q := fun q h => by rw [← hAe]; exact Or.inr h
  have hS : va_S A s.heap s.heap [] := va_S.rf
  have hP : va_P (dC, dI) classes [(h0, .inr (0, [.null, .null, .null, .null, .null, .null, .int 0, .int 0, .int 0]))] s.heap := hP
  have hl := lv_entry ([.ref h0, .ref tp]) (n := 3) (Nat.le_of_ble_eq_true rfl)
  rw [lg_entry_eq]
  generalize (lg_sl ([.ref h0, .ref tp]) ++ List.replicate (3 - (lg_sl ([.ref h0, .ref tp])).length) Slot.unset).toArray = ls at hl ⊢
  have hl : lv_has ls 3 [(0, .ref h0), (1, .ref tp)] := hl
  obtain ⟨H, eH⟩ : ∃ z, z = s.heap := ⟨_, rfl⟩
  have hP : va_P (dC, dI) classes [(h0, .inr (0, [.null, .null, .null, .null, .null, .null, .int 0, .int 0, .int 0]))] H := by rw [eH]; exact hP
  have hS : va_S A s.heap H [] := by rw [eH]; exact va_S.rf
  refine my_heap eH ?_
  refine lv_aload_n hx hb dX0_init_0 rfl (lv_at hl 0 rfl) ?_
  refine W.objInit hx hb hown (hwd _ wk_265) (hwd _ wk_222) (hwd _ wk_223) rfl (by rw [hml]; exact hl.1) rfl dX0_init_1 (Nat.le_of_ble_eq_true rfl) (Nat.le_of_ble_eq_true rfl) ?_
  refine W.eq (g2 := F0 m 4 ls []) rfl ?_
  refine lv_aload_n hx hb dX0_init_4 rfl (lv_at hl 0 rfl) ?_
  refine lv_bipush (v := 10) hx hb dX0_init_5 (by decide) ?_
  refine va_newa (atype := .int) (a0 := (10, .inl (fun _ => 0))) (ty := .int) (N' := 10) hx hb (hwd _ wk_224) rfl hK hP hD hS hA (fun _ => rfl) (by decide) (by decide) (by decide) (Nat.le_of_ble_eq_true rfl) (Nat.le_of_ble_eq_true rfl) dX0_init_7 (fun q_350 ca_351 H hK hP hD hS => ?_)
  have hK : va_K (dC, dI) classes [(ca_351, .int)] s := hK
  have hP : va_P (dC, dI) classes [(h0, .inr (0, [.null, .null, .null, .null, .null, .null, .int 0, .int 0, .int 0])), (q_350, .inl (ca_351, 10, .inl (fun _ => 0)))] H := hP
  have hD : va_D A [(h0, .inr (0, [.null, .null, .null, .null, .null, .null, .int 0, .int 0, .int 0])), (q_350, .inl (ca_351, 10, .inl (fun _ => 0)))] := hD
  refine W.widen (k := 1) (n := 10) (Nat.le_of_ble_eq_true rfl) (Nat.le_of_ble_eq_true rfl) ?_
  refine va_putF (D := (dC, dI)) (ci := 0) (v := .ref q_350) (ty := .array .int) (C := RX0) (T := TX0) (N := 9) hx hb hwd inA_X0 tyX0 tyX0_ok nmX0 hown hK hP hD hS 0 rfl rfl 1 (by decide) (hwd _ wk_266) (fun _ h9 => h9) rfl hin rfl (by decide +kernel) rfl rfl (Nat.le_of_ble_eq_true rfl) dX0_init_9 (fun H locs hP hD hS => ?_)
  have hP : va_P (dC, dI) classes [(h0, .inr (0, [.null, .ref q_350, .null, .null, .null, .null, .int 0, .int 0, .int 0])), (q_350, .inl (ca_351, 10, .inl (fun _ => 0)))] H := hP
  have hD : va_D A [(h0, .inr (0, [.null, .ref q_350, .null, .null, .null, .null, .int 0, .int 0, .int 0])), (q_350, .inl (ca_351, 10, .inl (fun _ => 0)))] := hD
  refine lv_aload_n hx hb dX0_init_12 rfl (lv_at hl 0 rfl) ?_
  refine lv_bipush (v := 10) hx hb dX0_init_13 (by decide) ?_
  refine va_newa (atype := .int) (a0 := (10, .inl (fun _ => 0))) (ty := .int) (N' := 10) hx hb (hwd _ wk_224) rfl hK hP hD hS hA (fun _ => rfl) (by decide) (by decide) (by decide) (Nat.le_of_ble_eq_true rfl) (Nat.le_of_ble_eq_true rfl) dX0_init_15 (fun q_352 ca_353 H hK hP hD hS => ?_)
  have hK : va_K (dC, dI) classes [(ca_351, .int), (ca_353, .int)] s := hK
  have hP : va_P (dC, dI) classes [(h0, .inr (0, [.null, .ref q_350, .null, .null, .null, .null, .int 0, .int 0, .int 0])), (q_350, .inl (ca_351, 10, .inl (fun _ => 0))), (q_352, .inl (ca_353, 10, .inl (fun _ => 0)))] H := hP
  have hD : va_D A [(h0, .inr (0, [.null, .ref q_350, .null, .null, .null, .null, .int 0, .int 0, .int 0])), (q_350, .inl (ca_351, 10, .inl (fun _ => 0))), (q_352, .inl (ca_353, 10, .inl (fun _ => 0)))] := hD
  refine W.widen (k := 2) (n := 20) (Nat.le_of_ble_eq_true rfl) (Nat.le_of_ble_eq_true rfl) ?_
  refine va_putF (D := (dC, dI)) (ci := 0) (v := .ref q_352) (ty := .array .int) (C := RX0) (T := TX0) (N := 9) hx hb hwd inA_X0 tyX0 tyX0_ok nmX0 hown hK hP hD hS 0 rfl rfl 2 (by decide) (hwd _ wk_267) (fun _ h9 => h9) rfl hin rfl (by decide +kernel) rfl rfl (Nat.le_of_ble_eq_true rfl) dX0_init_17 (fun H locs hP hD hS => ?_)
  have hP : va_P (dC, dI) classes [(h0, .inr (0, [.null, .ref q_350, .ref q_352, .null, .null, .null, .int 0, .int 0, .int 0])), (q_350, .inl (ca_351, 10, .inl (fun _ => 0))), (q_352, .inl (ca_353, 10, .inl (fun _ => 0)))] H := hP
  have hD : va_D A [(h0, .inr (0, [.null, .ref q_350, .ref q_352, .null, .null, .null, .int 0, .int 0, .int 0])), (q_350, .inl (ca_351, 10, .inl (fun _ => 0))), (q_352, .inl (ca_353, 10, .inl (fun _ => 0)))] := hD
  refine lv_aload_n hx hb dX0_init_20 rfl (lv_at hl 0 rfl) ?_
  refine lv_bipush (v := 10) hx hb dX0_init_21 (by decide) ?_
  refine va_newa (atype := .int) (a0 := (10, .inl (fun _ => 0))) (ty := .int) (N' := 10) hx hb (hwd _ wk_224) rfl hK hP hD hS hA (fun _ => rfl) (by decide) (by decide) (by decide) (Nat.le_of_ble_eq_true rfl) (Nat.le_of_ble_eq_true rfl) dX0_init_23 (fun q_354 ca_355 H hK hP hD hS => ?_)
  have hK : va_K (dC, dI) classes [(ca_351, .int), (ca_353, .int), (ca_355, .int)] s := hK
  have hP : va_P (dC, dI) classes [(h0, .inr (0, [.null, .ref q_350, .ref q_352, .null, .null, .null, .int 0, .int 0, .int 0])), (q_350, .inl (ca_351, 10, .inl (fun _ => 0))), (q_352, .inl (ca_353, 10, .inl (fun _ => 0))), (q_354, .inl (ca_355, 10, .inl (fun _ => 0)))] H := hP
  have hD : va_D A [(h0, .inr (0, [.null, .ref q_350, .ref q_352, .null, .null, .null, .int 0, .int 0, .int 0])), (q_350, .inl (ca_351, 10, .inl (fun _ => 0))), (q_352, .inl (ca_353, 10, .inl (fun _ => 0))), (q_354, .inl (ca_355, 10, .inl (fun _ => 0)))] := hD
  refine W.widen (k := 3) (n := 30) (Nat.le_of_ble_eq_true rfl) (Nat.le_of_ble_eq_true rfl) ?_
  have hP : va_P (dC, dI) classes [(h0, .inr (0, [.null, .ref q_350, .ref q_352, .null, .null, .null, .int 0, .int 0, .int 0])), (q_350, .inl (ca_351, 10, .inl (fun _ => 0))), (q_352, .inl (ca_353, 10, .inl (fun _ => 0)))] H := hP.sub [0, 1, 2] rfl
  have hD : va_D A [(h0, .inr (0, [.null, .ref q_350, .ref q_352, .null, .null, .null, .int 0, .int 0, .int 0])), (q_350, .inl (ca_351, 10, .inl (fun _ => 0))), (q_352, .inl (ca_353, 10, .inl (fun _ => 0)))] := hD.sub [0, 1, 2] (by decide) rfl
  refine va_putF (D := (dC, dI)) (ci := 0) (v := .ref q_354) (ty := .array .int) (C := RX0) (T := TX0) (N := 9) hx hb hwd inA_X0 tyX0 tyX0_ok nmX0 hown hK hP hD hS 0 rfl rfl 3 (by decide) (hwd _ wk_268) (fun _ h9 => h9) rfl hin rfl (by decide +kernel) rfl rfl (Nat.le_of_ble_eq_true rfl) dX0_init_25 (fun H locs hP hD hS => ?_)
  have hP : va_P (dC, dI) classes [(h0, .inr (0, [.null, .ref q_350, .ref q_352, .ref q_354, .null, .null, .int 0, .int 0, .int 0])), (q_350, .inl (ca_351, 10, .inl (fun _ => 0))), (q_352, .inl (ca_353, 10, .inl (fun _ => 0)))] H := hP
  have hD : va_D A [(h0, .inr (0, [.null, .ref q_350, .ref q_352, .ref q_354, .null, .null, .int 0, .int 0, .int 0])), (q_350, .inl (ca_351, 10, .inl (fun _ => 0))), (q_352, .inl (ca_353, 10, .inl (fun _ => 0)))] := hD
  refine lv_aload_n hx hb dX0_init_28 rfl (lv_at hl 0 rfl) ?_
  refine lv_bipush (v := 10) hx hb dX0_init_29 (by decide) ?_
  refine lv_bipush (v := 120) hx hb dX0_init_31 (by decide) ?_
  have hP : va_P (dC, dI) classes ([(h0, .inr (0, [.null, .ref q_350, .ref q_352, .ref q_354, .null, .null, .int 0, .int 0, .int 0])), (q_350, .inl (ca_351, 10, .inl (fun _ => 0))), (q_352, .inl (ca_353, 10, .inl (fun _ => 0)))] ++ va_pl [] (fun _ => .inr (0, []))) H := hP
  have hD : va_D A ([(h0, .inr (0, [.null, .ref q_350, .ref q_352, .ref q_354, .null, .null, .int 0, .int 0, .int 0])), (q_350, .inl (ca_351, 10, .inl (fun _ => 0))), (q_352, .inl (ca_353, 10, .inl (fun _ => 0)))] ++ va_pl [] (fun _ => .inr (0, []))) := hD
  refine va_mna (ty := .int) (cy := ca_351) (z := (120, .inl (fun _ => 0))) (N' := 10) (K' := 120) hx hb hown (hwd _ wk_269) hAOA (hwd _ wk_224) ((hK.2 0 _ rfl).2) hK hP hD hS hA (by decide) (by decide) (by decide) (by decide) (by decide) (by decide) (by decide) (by decide) (by decide) (Nat.le_of_ble_eq_true rfl) (Nat.le_of_ble_eq_true rfl) (fun _ => rfl) dX0_init_33 (fun q_356 r_357 ca_358 H hin1 hin2 hK hP hD hS => ?_)
  have hK : va_K (dC, dI) classes [(ca_351, .int), (ca_353, .int), (ca_355, .int), (ca_358, .array .int)] s := hK
  have hP : va_P (dC, dI) classes [(h0, .inr (0, [.null, .ref q_350, .ref q_352, .ref q_354, .null, .null, .int 0, .int 0, .int 0])), (q_350, .inl (ca_351, 10, .inl (fun _ => 0))), (q_352, .inl (ca_353, 10, .inl (fun _ => 0))), (q_356, .inl (ca_358, 10, .inr (.inr (.inr (.inr (fun i => if i < 10 then some (r_357 i) else none))))))] H := hP.sub [0, 1, 2, 3] rfl
  have hD : va_D A [(h0, .inr (0, [.null, .ref q_350, .ref q_352, .ref q_354, .null, .null, .int 0, .int 0, .int 0])), (q_350, .inl (ca_351, 10, .inl (fun _ => 0))), (q_352, .inl (ca_353, 10, .inl (fun _ => 0))), (q_356, .inl (ca_358, 10, .inr (.inr (.inr (.inr (fun i => if i < 10 then some (r_357 i) else none))))))] := hD.sub [0, 1, 2, 3] (by decide) rfl
  refine W.widen (k := 14) (n := 1240) (Nat.le_of_ble_eq_true rfl) (Nat.le_of_ble_eq_true rfl) ?_
  have hP : va_P (dC, dI) classes [(h0, .inr (0, [.null, .ref q_350, .ref q_352, .ref q_354, .null, .null, .int 0, .int 0, .int 0])), (q_350, .inl (ca_351, 10, .inl (fun _ => 0))), (q_352, .inl (ca_353, 10, .inl (fun _ => 0)))] H := hP.sub [0, 1, 2] rfl
  have hD : va_D A [(h0, .inr (0, [.null, .ref q_350, .ref q_352, .ref q_354, .null, .null, .int 0, .int 0, .int 0])), (q_350, .inl (ca_351, 10, .inl (fun _ => 0))), (q_352, .inl (ca_353, 10, .inl (fun _ => 0)))] := hD.sub [0, 1, 2] (by decide) rfl
  refine va_putF (D := (dC, dI)) (ci := 0) (v := .ref q_356) (ty := .array (.array .int)) (C := RX0) (T := TX0) (N := 9) hx hb hwd inA_X0 tyX0 tyX0_ok nmX0 hown hK hP hD hS 0 rfl rfl 4 (by decide) (hwd _ wk_270) (fun _ h9 => h9) rfl hin rfl (by decide +kernel) rfl rfl (Nat.le_of_ble_eq_true rfl) dX0_init_37 (fun H locs hP hD hS => ?_)
  have hP : va_P (dC, dI) classes [(h0, .inr (0, [.null, .ref q_350, .ref q_352, .ref q_354, .ref q_356, .null, .int 0, .int 0, .int 0])), (q_350, .inl (ca_351, 10, .inl (fun _ => 0))), (q_352, .inl (ca_353, 10, .inl (fun _ => 0)))] H := hP
  have hD : va_D A [(h0, .inr (0, [.null, .ref q_350, .ref q_352, .ref q_354, .ref q_356, .null, .int 0, .int 0, .int 0])), (q_350, .inl (ca_351, 10, .inl (fun _ => 0))), (q_352, .inl (ca_353, 10, .inl (fun _ => 0)))] := hD
  refine lv_aload_n hx hb dX0_init_40 rfl (lv_at hl 0 rfl) ?_
  refine lv_bipush (v := 120) hx hb dX0_init_41 (by decide) ?_
  refine va_newa (atype := .int) (a0 := (120, .inl (fun _ => 0))) (ty := .int) (N' := 120) hx hb (hwd _ wk_224) rfl hK hP hD hS hA (fun _ => rfl) (by decide) (by decide) (by decide) (Nat.le_of_ble_eq_true rfl) (Nat.le_of_ble_eq_true rfl) dX0_init_43 (fun q_359 ca_360 H hK hP hD hS => ?_)
  have hK : va_K (dC, dI) classes [(ca_351, .int), (ca_353, .int), (ca_355, .int), (ca_358, .array .int), (ca_360, .int)] s := hK
  have hP : va_P (dC, dI) classes [(h0, .inr (0, [.null, .ref q_350, .ref q_352, .ref q_354, .ref q_356, .null, .int 0, .int 0, .int 0])), (q_350, .inl (ca_351, 10, .inl (fun _ => 0))), (q_352, .inl (ca_353, 10, .inl (fun _ => 0))), (q_359, .inl (ca_360, 120, .inl (fun _ => 0)))] H := hP
  have hD : va_D A [(h0, .inr (0, [.null, .ref q_350, .ref q_352, .ref q_354, .ref q_356, .null, .int 0, .int 0, .int 0])), (q_350, .inl (ca_351, 10, .inl (fun _ => 0))), (q_352, .inl (ca_353, 10, .inl (fun _ => 0))), (q_359, .inl (ca_360, 120, .inl (fun _ => 0)))] := hD
  refine W.widen (k := 15) (n := 1360) (Nat.le_of_ble_eq_true rfl) (Nat.le_of_ble_eq_true rfl) ?_
  have hP : va_P (dC, dI) classes [(h0, .inr (0, [.null, .ref q_350, .ref q_352, .ref q_354, .ref q_356, .null, .int 0, .int 0, .int 0])), (q_350, .inl (ca_351, 10, .inl (fun _ => 0))), (q_352, .inl (ca_353, 10, .inl (fun _ => 0)))] H := hP.sub [0, 1, 2] rfl
  have hD : va_D A [(h0, .inr (0, [.null, .ref q_350, .ref q_352, .ref q_354, .ref q_356, .null, .int 0, .int 0, .int 0])), (q_350, .inl (ca_351, 10, .inl (fun _ => 0))), (q_352, .inl (ca_353, 10, .inl (fun _ => 0)))] := hD.sub [0, 1, 2] (by decide) rfl
  refine va_putF (D := (dC, dI)) (ci := 0) (v := .ref q_359) (ty := .array .int) (C := RX0) (T := TX0) (N := 9) hx hb hwd inA_X0 tyX0 tyX0_ok nmX0 hown hK hP hD hS 0 rfl rfl 5 (by decide) (hwd _ wk_271) (fun _ h9 => h9) rfl hin rfl (by decide +kernel) rfl rfl (Nat.le_of_ble_eq_true rfl) dX0_init_45 (fun H locs hP hD hS => ?_)
  have hP : va_P (dC, dI) classes [(h0, .inr (0, [.null, .ref q_350, .ref q_352, .ref q_354, .ref q_356, .ref q_359, .int 0, .int 0, .int 0])), (q_350, .inl (ca_351, 10, .inl (fun _ => 0))), (q_352, .inl (ca_353, 10, .inl (fun _ => 0)))] H := hP
  have hD : va_D A [(h0, .inr (0, [.null, .ref q_350, .ref q_352, .ref q_354, .ref q_356, .ref q_359, .int 0, .int 0, .int 0])), (q_350, .inl (ca_351, 10, .inl (fun _ => 0))), (q_352, .inl (ca_353, 10, .inl (fun _ => 0)))] := hD
  refine lv_aload_n hx hb dX0_init_48 rfl (lv_at hl 0 rfl) ?_
  refine lv_aload_n hx hb dX0_init_49 rfl (lv_at hl 1 rfl) ?_
  refine va_putF (D := (dC, dI)) (ci := 0) (v := .ref tp) (ty := .object "PlanesBack$Tape") (C := RX0) (T := TX0) (N := 9) hx hb hwd inA_X0 tyX0 tyX0_ok nmX0 hown hK hP hD hS 0 rfl rfl 0 (by decide) (hwd _ wk_272) (fun _ h9 => h9) rfl hin rfl (by decide +kernel) rfl rfl (Nat.le_of_ble_eq_true rfl) dX0_init_50 (fun H locs hP hD hS => ?_)
  have hP : va_P (dC, dI) classes [(h0, .inr (0, [.ref tp, .ref q_350, .ref q_352, .ref q_354, .ref q_356, .ref q_359, .int 0, .int 0, .int 0])), (q_350, .inl (ca_351, 10, .inl (fun _ => 0))), (q_352, .inl (ca_353, 10, .inl (fun _ => 0)))] H := hP
  have hD : va_D A [(h0, .inr (0, [.ref tp, .ref q_350, .ref q_352, .ref q_354, .ref q_356, .ref q_359, .int 0, .int 0, .int 0])), (q_350, .inl (ca_351, 10, .inl (fun _ => 0))), (q_352, .inl (ca_353, 10, .inl (fun _ => 0)))] := hD
  refine lv_iconst (v := 0) hx hb dX0_init_53 (by decide) ?_
  refine lv_istore_n (lv' := [(2, .int 0), (0, .ref h0), (1, .ref tp)]) hx hb dX0_init_54 rfl hl (by decide) rfl (fun ls hl => ?_)
  refine lv_iload_n hx hb dX0_init_55 rfl (lv_at hl 0 rfl) ?_
  refine lv_bipush (v := 10) hx hb dX0_init_56 (by decide) ?_
  refine lv_icmp_ge (tgt := 74) hx hb dX0_init_58 (by decide) (fun c_361 => ?_) (fun c_361 => ?_)
  · exact absurd c_361 (by decide)
  · skip
    refine lv_aload_n hx hb dX0_init_61 rfl (lv_at hl 1 rfl) ?_
    refine va_get (D := (dC, dI)) (ci := 0) (v := .ref q_352) (C := RX0) (T := TX0) (N := 9) hx hb hwd inA_X0 hown hK hP 0 rfl rfl 2 (by decide) (hwd _ wk_267) (fun _ h9 => h9) rfl dX0_init_62 ?_
    refine lv_iload_n hx hb dX0_init_65 rfl (lv_at hl 0 rfl) ?_
    refine lv_iconst (v := (-1)) hx hb dX0_init_66 (by decide) ?_
    refine va_iast hx hb hK hP hD hS 2 1 rfl rfl (i := 0) (x := (-1)) (vpc (by decide)) dX0_init_67 (fun H locs hP hD hS => ?_)
    have hP : va_P (dC, dI) classes [(h0, .inr (0, [.ref tp, .ref q_350, .ref q_352, .ref q_354, .ref q_356, .ref q_359, .int 0, .int 0, .int 0])), (q_350, .inl (ca_351, 10, .inl (fun _ => 0))), (q_352, .inl (ca_353, 10, .inl (upd (fun _ => 0) (Int32.toNatClampNeg 0) (-1))))] H := hP
    have hD : va_D A [(h0, .inr (0, [.ref tp, .ref q_350, .ref q_352, .ref q_354, .ref q_356, .ref q_359, .int 0, .int 0, .int 0])), (q_350, .inl (ca_351, 10, .inl (fun _ => 0))), (q_352, .inl (ca_353, 10, .inl (upd (fun _ => 0) (Int32.toNatClampNeg 0) (-1))))] := hD
    refine lv_iinc (v := 1) (lv' := [(2, .int 1), (0, .ref h0), (1, .ref tp)]) hx hb dX0_init_68 hl (k := 0) rfl (by decide) (by decide) rfl (fun ls hl => ?_)
    refine lv_goto (tgt := 55) hx hb dX0_init_71 (by decide) ?_
    refine lv_iload_n hx hb dX0_init_55 rfl (lv_at hl 0 rfl) ?_
    refine lv_bipush (v := 10) hx hb dX0_init_56 (by decide) ?_
    refine lv_icmp_ge (tgt := 74) hx hb dX0_init_58 (by decide) (fun c_362 => ?_) (fun c_362 => ?_)
    · exact absurd c_362 (by decide)
    · skip
      refine lv_aload_n hx hb dX0_init_61 rfl (lv_at hl 1 rfl) ?_
      refine va_get (D := (dC, dI)) (ci := 0) (v := .ref q_352) (C := RX0) (T := TX0) (N := 9) hx hb hwd inA_X0 hown hK hP 0 rfl rfl 2 (by decide) (hwd _ wk_267) (fun _ h9 => h9) rfl dX0_init_62 ?_
      refine lv_iload_n hx hb dX0_init_65 rfl (lv_at hl 0 rfl) ?_
      refine lv_iconst (v := (-1)) hx hb dX0_init_66 (by decide) ?_
      refine va_iast hx hb hK hP hD hS 2 1 rfl rfl (i := 1) (x := (-1)) (vpc (by decide)) dX0_init_67 (fun H locs hP hD hS => ?_)
      have hP : va_P (dC, dI) classes [(h0, .inr (0, [.ref tp, .ref q_350, .ref q_352, .ref q_354, .ref q_356, .ref q_359, .int 0, .int 0, .int 0])), (q_350, .inl (ca_351, 10, .inl (fun _ => 0))), (q_352, .inl (ca_353, 10, .inl (upd (upd (fun _ => 0) (Int32.toNatClampNeg 0) (-1)) (Int32.toNatClampNeg 1) (-1))))] H := hP
      have hD : va_D A [(h0, .inr (0, [.ref tp, .ref q_350, .ref q_352, .ref q_354, .ref q_356, .ref q_359, .int 0, .int 0, .int 0])), (q_350, .inl (ca_351, 10, .inl (fun _ => 0))), (q_352, .inl (ca_353, 10, .inl (upd (upd (fun _ => 0) (Int32.toNatClampNeg 0) (-1)) (Int32.toNatClampNeg 1) (-1))))] := hD
      refine lv_iinc (v := 2) (lv' := [(2, .int 2), (0, .ref h0), (1, .ref tp)]) hx hb dX0_init_68 hl (k := 0) rfl (by decide) (by decide) rfl (fun ls hl => ?_)
      refine lv_goto (tgt := 55) hx hb dX0_init_71 (by decide) ?_
      refine lv_iload_n hx hb dX0_init_55 rfl (lv_at hl 0 rfl) ?_
      refine lv_bipush (v := 10) hx hb dX0_init_56 (by decide) ?_
      refine lv_icmp_ge (tgt := 74) hx hb dX0_init_58 (by decide) (fun c_363 => ?_) (fun c_363 => ?_)
      · exact absurd c_363 (by decide)
      · skip
        refine lv_aload_n hx hb dX0_init_61 rfl (lv_at hl 1 rfl) ?_
        refine va_get (D := (dC, dI)) (ci := 0) (v := .ref q_352) (C := RX0) (T := TX0) (N := 9) hx hb hwd inA_X0 hown hK hP 0 rfl rfl 2 (by decide) (hwd _ wk_267) (fun _ h9 => h9) rfl dX0_init_62 ?_
        refine lv_iload_n hx hb dX0_init_65 rfl (lv_at hl 0 rfl) ?_
        refine lv_iconst (v := (-1)) hx hb dX0_init_66 (by decide) ?_
        refine va_iast hx hb hK hP hD hS 2 1 rfl rfl (i := 2) (x := (-1)) (vpc (by decide)) dX0_init_67 (fun H locs hP hD hS => ?_)
        have hP : va_P (dC, dI) classes [(h0, .inr (0, [.ref tp, .ref q_350, .ref q_352, .ref q_354, .ref q_356, .ref q_359, .int 0, .int 0, .int 0])), (q_350, .inl (ca_351, 10, .inl (fun _ => 0))), (q_352, .inl (ca_353, 10, .inl (upd (upd (upd (fun _ => 0) (Int32.toNatClampNeg 0) (-1)) (Int32.toNatClampNeg 1) (-1)) (Int32.toNatClampNeg 2) (-1))))] H := hP
        have hD : va_D A [(h0, .inr (0, [.ref tp, .ref q_350, .ref q_352, .ref q_354, .ref q_356, .ref q_359, .int 0, .int 0, .int 0])), (q_350, .inl (ca_351, 10, .inl (fun _ => 0))), (q_352, .inl (ca_353, 10, .inl (upd (upd (upd (fun _ => 0) (Int32.toNatClampNeg 0) (-1)) (Int32.toNatClampNeg 1) (-1)) (Int32.toNatClampNeg 2) (-1))))] := hD
        refine lv_iinc (v := 3) (lv' := [(2, .int 3), (0, .ref h0), (1, .ref tp)]) hx hb dX0_init_68 hl (k := 0) rfl (by decide) (by decide) rfl (fun ls hl => ?_)
        refine lv_goto (tgt := 55) hx hb dX0_init_71 (by decide) ?_
        refine lv_iload_n hx hb dX0_init_55 rfl (lv_at hl 0 rfl) ?_
        refine lv_bipush (v := 10) hx hb dX0_init_56 (by decide) ?_
        refine lv_icmp_ge (tgt := 74) hx hb dX0_init_58 (by decide) (fun c_364 => ?_) (fun c_364 => ?_)
        · exact absurd c_364 (by decide)
        · skip
          refine lv_aload_n hx hb dX0_init_61 rfl (lv_at hl 1 rfl) ?_
          refine va_get (D := (dC, dI)) (ci := 0) (v := .ref q_352) (C := RX0) (T := TX0) (N := 9) hx hb hwd inA_X0 hown hK hP 0 rfl rfl 2 (by decide) (hwd _ wk_267) (fun _ h9 => h9) rfl dX0_init_62 ?_
          refine lv_iload_n hx hb dX0_init_65 rfl (lv_at hl 0 rfl) ?_
          refine lv_iconst (v := (-1)) hx hb dX0_init_66 (by decide) ?_
          refine va_iast hx hb hK hP hD hS 2 1 rfl rfl (i := 3) (x := (-1)) (vpc (by decide)) dX0_init_67 (fun H locs hP hD hS => ?_)
          have hP : va_P (dC, dI) classes [(h0, .inr (0, [.ref tp, .ref q_350, .ref q_352, .ref q_354, .ref q_356, .ref q_359, .int 0, .int 0, .int 0])), (q_350, .inl (ca_351, 10, .inl (fun _ => 0))), (q_352, .inl (ca_353, 10, .inl (upd (upd (upd (upd (fun _ => 0) (Int32.toNatClampNeg 0) (-1)) (Int32.toNatClampNeg 1) (-1)) (Int32.toNatClampNeg 2) (-1)) (Int32.toNatClampNeg 3) (-1))))] H := hP
          have hD : va_D A [(h0, .inr (0, [.ref tp, .ref q_350, .ref q_352, .ref q_354, .ref q_356, .ref q_359, .int 0, .int 0, .int 0])), (q_350, .inl (ca_351, 10, .inl (fun _ => 0))), (q_352, .inl (ca_353, 10, .inl (upd (upd (upd (upd (fun _ => 0) (Int32.toNatClampNeg 0) (-1)) (Int32.toNatClampNeg 1) (-1)) (Int32.toNatClampNeg 2) (-1)) (Int32.toNatClampNeg 3) (-1))))] := hD
          refine lv_iinc (v := 4) (lv' := [(2, .int 4), (0, .ref h0), (1, .ref tp)]) hx hb dX0_init_68 hl (k := 0) rfl (by decide) (by decide) rfl (fun ls hl => ?_)
          refine lv_goto (tgt := 55) hx hb dX0_init_71 (by decide) ?_
          refine lv_iload_n hx hb dX0_init_55 rfl (lv_at hl 0 rfl) ?_
          refine lv_bipush (v := 10) hx hb dX0_init_56 (by decide) ?_
          refine lv_icmp_ge (tgt := 74) hx hb dX0_init_58 (by decide) (fun c_365 => ?_) (fun c_365 => ?_)
          · exact absurd c_365 (by decide)
          · skip
            refine lv_aload_n hx hb dX0_init_61 rfl (lv_at hl 1 rfl) ?_
            refine va_get (D := (dC, dI)) (ci := 0) (v := .ref q_352) (C := RX0) (T := TX0) (N := 9) hx hb hwd inA_X0 hown hK hP 0 rfl rfl 2 (by decide) (hwd _ wk_267) (fun _ h9 => h9) rfl dX0_init_62 ?_
            refine lv_iload_n hx hb dX0_init_65 rfl (lv_at hl 0 rfl) ?_
            refine lv_iconst (v := (-1)) hx hb dX0_init_66 (by decide) ?_
            refine va_iast hx hb hK hP hD hS 2 1 rfl rfl (i := 4) (x := (-1)) (vpc (by decide)) dX0_init_67 (fun H locs hP hD hS => ?_)
            have hP : va_P (dC, dI) classes [(h0, .inr (0, [.ref tp, .ref q_350, .ref q_352, .ref q_354, .ref q_356, .ref q_359, .int 0, .int 0, .int 0])), (q_350, .inl (ca_351, 10, .inl (fun _ => 0))), (q_352, .inl (ca_353, 10, .inl (upd (upd (upd (upd (upd (fun _ => 0) (Int32.toNatClampNeg 0) (-1)) (Int32.toNatClampNeg 1) (-1)) (Int32.toNatClampNeg 2) (-1)) (Int32.toNatClampNeg 3) (-1)) (Int32.toNatClampNeg 4) (-1))))] H := hP
            have hD : va_D A [(h0, .inr (0, [.ref tp, .ref q_350, .ref q_352, .ref q_354, .ref q_356, .ref q_359, .int 0, .int 0, .int 0])), (q_350, .inl (ca_351, 10, .inl (fun _ => 0))), (q_352, .inl (ca_353, 10, .inl (upd (upd (upd (upd (upd (fun _ => 0) (Int32.toNatClampNeg 0) (-1)) (Int32.toNatClampNeg 1) (-1)) (Int32.toNatClampNeg 2) (-1)) (Int32.toNatClampNeg 3) (-1)) (Int32.toNatClampNeg 4) (-1))))] := hD
            refine lv_iinc (v := 5) (lv' := [(2, .int 5), (0, .ref h0), (1, .ref tp)]) hx hb dX0_init_68 hl (k := 0) rfl (by decide) (by decide) rfl (fun ls hl => ?_)
            refine lv_goto (tgt := 55) hx hb dX0_init_71 (by decide) ?_
            refine lv_iload_n hx hb dX0_init_55 rfl (lv_at hl 0 rfl) ?_
            refine lv_bipush (v := 10) hx hb dX0_init_56 (by decide) ?_
            refine lv_icmp_ge (tgt := 74) hx hb dX0_init_58 (by decide) (fun c_366 => ?_) (fun c_366 => ?_)
            · exact absurd c_366 (by decide)
            · skip
              refine lv_aload_n hx hb dX0_init_61 rfl (lv_at hl 1 rfl) ?_
              refine va_get (D := (dC, dI)) (ci := 0) (v := .ref q_352) (C := RX0) (T := TX0) (N := 9) hx hb hwd inA_X0 hown hK hP 0 rfl rfl 2 (by decide) (hwd _ wk_267) (fun _ h9 => h9) rfl dX0_init_62 ?_
              refine lv_iload_n hx hb dX0_init_65 rfl (lv_at hl 0 rfl) ?_
              refine lv_iconst (v := (-1)) hx hb dX0_init_66 (by decide) ?_
              refine va_iast hx hb hK hP hD hS 2 1 rfl rfl (i := 5) (x := (-1)) (vpc (by decide)) dX0_init_67 (fun H locs hP hD hS => ?_)
              have hP : va_P (dC, dI) classes [(h0, .inr (0, [.ref tp, .ref q_350, .ref q_352, .ref q_354, .ref q_356, .ref q_359, .int 0, .int 0, .int 0])), (q_350, .inl (ca_351, 10, .inl (fun _ => 0))), (q_352, .inl (ca_353, 10, .inl (upd (upd (upd (upd (upd (upd (fun _ => 0) (Int32.toNatClampNeg 0) (-1)) (Int32.toNatClampNeg 1) (-1)) (Int32.toNatClampNeg 2) (-1)) (Int32.toNatClampNeg 3) (-1)) (Int32.toNatClampNeg 4) (-1)) (Int32.toNatClampNeg 5) (-1))))] H := hP
              have hD : va_D A [(h0, .inr (0, [.ref tp, .ref q_350, .ref q_352, .ref q_354, .ref q_356, .ref q_359, .int 0, .int 0, .int 0])), (q_350, .inl (ca_351, 10, .inl (fun _ => 0))), (q_352, .inl (ca_353, 10, .inl (upd (upd (upd (upd (upd (upd (fun _ => 0) (Int32.toNatClampNeg 0) (-1)) (Int32.toNatClampNeg 1) (-1)) (Int32.toNatClampNeg 2) (-1)) (Int32.toNatClampNeg 3) (-1)) (Int32.toNatClampNeg 4) (-1)) (Int32.toNatClampNeg 5) (-1))))] := hD
              refine lv_iinc (v := 6) (lv' := [(2, .int 6), (0, .ref h0), (1, .ref tp)]) hx hb dX0_init_68 hl (k := 0) rfl (by decide) (by decide) rfl (fun ls hl => ?_)
              refine lv_goto (tgt := 55) hx hb dX0_init_71 (by decide) ?_
              refine lv_iload_n hx hb dX0_init_55 rfl (lv_at hl 0 rfl) ?_
              refine lv_bipush (v := 10) hx hb dX0_init_56 (by decide) ?_
              refine lv_icmp_ge (tgt := 74) hx hb dX0_init_58 (by decide) (fun c_367 => ?_) (fun c_367 => ?_)
              · exact absurd c_367 (by decide)
              · skip
                refine lv_aload_n hx hb dX0_init_61 rfl (lv_at hl 1 rfl) ?_
                refine va_get (D := (dC, dI)) (ci := 0) (v := .ref q_352) (C := RX0) (T := TX0) (N := 9) hx hb hwd inA_X0 hown hK hP 0 rfl rfl 2 (by decide) (hwd _ wk_267) (fun _ h9 => h9) rfl dX0_init_62 ?_
                refine lv_iload_n hx hb dX0_init_65 rfl (lv_at hl 0 rfl) ?_
                refine lv_iconst (v := (-1)) hx hb dX0_init_66 (by decide) ?_
                refine va_iast hx hb hK hP hD hS 2 1 rfl rfl (i := 6) (x := (-1)) (vpc (by decide)) dX0_init_67 (fun H locs hP hD hS => ?_)
                have hP : va_P (dC, dI) classes [(h0, .inr (0, [.ref tp, .ref q_350, .ref q_352, .ref q_354, .ref q_356, .ref q_359, .int 0, .int 0, .int 0])), (q_350, .inl (ca_351, 10, .inl (fun _ => 0))), (q_352, .inl (ca_353, 10, .inl (upd (upd (upd (upd (upd (upd (upd (fun _ => 0) (Int32.toNatClampNeg 0) (-1)) (Int32.toNatClampNeg 1) (-1)) (Int32.toNatClampNeg 2) (-1)) (Int32.toNatClampNeg 3) (-1)) (Int32.toNatClampNeg 4) (-1)) (Int32.toNatClampNeg 5) (-1)) (Int32.toNatClampNeg 6) (-1))))] H := hP
                have hD : va_D A [(h0, .inr (0, [.ref tp, .ref q_350, .ref q_352, .ref q_354, .ref q_356, .ref q_359, .int 0, .int 0, .int 0])), (q_350, .inl (ca_351, 10, .inl (fun _ => 0))), (q_352, .inl (ca_353, 10, .inl (upd (upd (upd (upd (upd (upd (upd (fun _ => 0) (Int32.toNatClampNeg 0) (-1)) (Int32.toNatClampNeg 1) (-1)) (Int32.toNatClampNeg 2) (-1)) (Int32.toNatClampNeg 3) (-1)) (Int32.toNatClampNeg 4) (-1)) (Int32.toNatClampNeg 5) (-1)) (Int32.toNatClampNeg 6) (-1))))] := hD
                refine lv_iinc (v := 7) (lv' := [(2, .int 7), (0, .ref h0), (1, .ref tp)]) hx hb dX0_init_68 hl (k := 0) rfl (by decide) (by decide) rfl (fun ls hl => ?_)
                refine lv_goto (tgt := 55) hx hb dX0_init_71 (by decide) ?_
                refine lv_iload_n hx hb dX0_init_55 rfl (lv_at hl 0 rfl) ?_
                refine lv_bipush (v := 10) hx hb dX0_init_56 (by decide) ?_
                refine lv_icmp_ge (tgt := 74) hx hb dX0_init_58 (by decide) (fun c_368 => ?_) (fun c_368 => ?_)
                · exact absurd c_368 (by decide)
                · skip
                  refine lv_aload_n hx hb dX0_init_61 rfl (lv_at hl 1 rfl) ?_
                  refine va_get (D := (dC, dI)) (ci := 0) (v := .ref q_352) (C := RX0) (T := TX0) (N := 9) hx hb hwd inA_X0 hown hK hP 0 rfl rfl 2 (by decide) (hwd _ wk_267) (fun _ h9 => h9) rfl dX0_init_62 ?_
                  refine lv_iload_n hx hb dX0_init_65 rfl (lv_at hl 0 rfl) ?_
                  refine lv_iconst (v := (-1)) hx hb dX0_init_66 (by decide) ?_
                  refine va_iast hx hb hK hP hD hS 2 1 rfl rfl (i := 7) (x := (-1)) (vpc (by decide)) dX0_init_67 (fun H locs hP hD hS => ?_)
                  have hP : va_P (dC, dI) classes [(h0, .inr (0, [.ref tp, .ref q_350, .ref q_352, .ref q_354, .ref q_356, .ref q_359, .int 0, .int 0, .int 0])), (q_350, .inl (ca_351, 10, .inl (fun _ => 0))), (q_352, .inl (ca_353, 10, .inl (upd (upd (upd (upd (upd (upd (upd (upd (fun _ => 0) (Int32.toNatClampNeg 0) (-1)) (Int32.toNatClampNeg 1) (-1)) (Int32.toNatClampNeg 2) (-1)) (Int32.toNatClampNeg 3) (-1)) (Int32.toNatClampNeg 4) (-1)) (Int32.toNatClampNeg 5) (-1)) (Int32.toNatClampNeg 6) (-1)) (Int32.toNatClampNeg 7) (-1))))] H := hP
                  have hD : va_D A [(h0, .inr (0, [.ref tp, .ref q_350, .ref q_352, .ref q_354, .ref q_356, .ref q_359, .int 0, .int 0, .int 0])), (q_350, .inl (ca_351, 10, .inl (fun _ => 0))), (q_352, .inl (ca_353, 10, .inl (upd (upd (upd (upd (upd (upd (upd (upd (fun _ => 0) (Int32.toNatClampNeg 0) (-1)) (Int32.toNatClampNeg 1) (-1)) (Int32.toNatClampNeg 2) (-1)) (Int32.toNatClampNeg 3) (-1)) (Int32.toNatClampNeg 4) (-1)) (Int32.toNatClampNeg 5) (-1)) (Int32.toNatClampNeg 6) (-1)) (Int32.toNatClampNeg 7) (-1))))] := hD
                  refine lv_iinc (v := 8) (lv' := [(2, .int 8), (0, .ref h0), (1, .ref tp)]) hx hb dX0_init_68 hl (k := 0) rfl (by decide) (by decide) rfl (fun ls hl => ?_)
                  refine lv_goto (tgt := 55) hx hb dX0_init_71 (by decide) ?_
                  refine lv_iload_n hx hb dX0_init_55 rfl (lv_at hl 0 rfl) ?_
                  refine lv_bipush (v := 10) hx hb dX0_init_56 (by decide) ?_
                  refine lv_icmp_ge (tgt := 74) hx hb dX0_init_58 (by decide) (fun c_369 => ?_) (fun c_369 => ?_)
                  · exact absurd c_369 (by decide)
                  · skip
                    refine lv_aload_n hx hb dX0_init_61 rfl (lv_at hl 1 rfl) ?_
                    refine va_get (D := (dC, dI)) (ci := 0) (v := .ref q_352) (C := RX0) (T := TX0) (N := 9) hx hb hwd inA_X0 hown hK hP 0 rfl rfl 2 (by decide) (hwd _ wk_267) (fun _ h9 => h9) rfl dX0_init_62 ?_
                    refine lv_iload_n hx hb dX0_init_65 rfl (lv_at hl 0 rfl) ?_
                    refine lv_iconst (v := (-1)) hx hb dX0_init_66 (by decide) ?_
                    refine va_iast hx hb hK hP hD hS 2 1 rfl rfl (i := 8) (x := (-1)) (vpc (by decide)) dX0_init_67 (fun H locs hP hD hS => ?_)
                    have hP : va_P (dC, dI) classes [(h0, .inr (0, [.ref tp, .ref q_350, .ref q_352, .ref q_354, .ref q_356, .ref q_359, .int 0, .int 0, .int 0])), (q_350, .inl (ca_351, 10, .inl (fun _ => 0))), (q_352, .inl (ca_353, 10, .inl (upd (upd (upd (upd (upd (upd (upd (upd (upd (fun _ => 0) (Int32.toNatClampNeg 0) (-1)) (Int32.toNatClampNeg 1) (-1)) (Int32.toNatClampNeg 2) (-1)) (Int32.toNatClampNeg 3) (-1)) (Int32.toNatClampNeg 4) (-1)) (Int32.toNatClampNeg 5) (-1)) (Int32.toNatClampNeg 6) (-1)) (Int32.toNatClampNeg 7) (-1)) (Int32.toNatClampNeg 8) (-1))))] H := hP
                    have hD : va_D A [(h0, .inr (0, [.ref tp, .ref q_350, .ref q_352, .ref q_354, .ref q_356, .ref q_359, .int 0, .int 0, .int 0])), (q_350, .inl (ca_351, 10, .inl (fun _ => 0))), (q_352, .inl (ca_353, 10, .inl (upd (upd (upd (upd (upd (upd (upd (upd (upd (fun _ => 0) (Int32.toNatClampNeg 0) (-1)) (Int32.toNatClampNeg 1) (-1)) (Int32.toNatClampNeg 2) (-1)) (Int32.toNatClampNeg 3) (-1)) (Int32.toNatClampNeg 4) (-1)) (Int32.toNatClampNeg 5) (-1)) (Int32.toNatClampNeg 6) (-1)) (Int32.toNatClampNeg 7) (-1)) (Int32.toNatClampNeg 8) (-1))))] := hD
                    refine lv_iinc (v := 9) (lv' := [(2, .int 9), (0, .ref h0), (1, .ref tp)]) hx hb dX0_init_68 hl (k := 0) rfl (by decide) (by decide) rfl (fun ls hl => ?_)
                    refine lv_goto (tgt := 55) hx hb dX0_init_71 (by decide) ?_
                    refine lv_iload_n hx hb dX0_init_55 rfl (lv_at hl 0 rfl) ?_
                    refine lv_bipush (v := 10) hx hb dX0_init_56 (by decide) ?_
                    refine lv_icmp_ge (tgt := 74) hx hb dX0_init_58 (by decide) (fun c_370 => ?_) (fun c_370 => ?_)
                    · exact absurd c_370 (by decide)
                    · skip
                      refine lv_aload_n hx hb dX0_init_61 rfl (lv_at hl 1 rfl) ?_
                      refine va_get (D := (dC, dI)) (ci := 0) (v := .ref q_352) (C := RX0) (T := TX0) (N := 9) hx hb hwd inA_X0 hown hK hP 0 rfl rfl 2 (by decide) (hwd _ wk_267) (fun _ h9 => h9) rfl dX0_init_62 ?_
                      refine lv_iload_n hx hb dX0_init_65 rfl (lv_at hl 0 rfl) ?_
                      refine lv_iconst (v := (-1)) hx hb dX0_init_66 (by decide) ?_
                      refine va_iast hx hb hK hP hD hS 2 1 rfl rfl (i := 9) (x := (-1)) (vpc (by decide)) dX0_init_67 (fun H locs hP hD hS => ?_)
                      have hP : va_P (dC, dI) classes [(h0, .inr (0, [.ref tp, .ref q_350, .ref q_352, .ref q_354, .ref q_356, .ref q_359, .int 0, .int 0, .int 0])), (q_350, .inl (ca_351, 10, .inl (fun _ => 0))), (q_352, .inl (ca_353, 10, .inl (upd (upd (upd (upd (upd (upd (upd (upd (upd (upd (fun _ => 0) (Int32.toNatClampNeg 0) (-1)) (Int32.toNatClampNeg 1) (-1)) (Int32.toNatClampNeg 2) (-1)) (Int32.toNatClampNeg 3) (-1)) (Int32.toNatClampNeg 4) (-1)) (Int32.toNatClampNeg 5) (-1)) (Int32.toNatClampNeg 6) (-1)) (Int32.toNatClampNeg 7) (-1)) (Int32.toNatClampNeg 8) (-1)) (Int32.toNatClampNeg 9) (-1))))] H := hP
                      have hD : va_D A [(h0, .inr (0, [.ref tp, .ref q_350, .ref q_352, .ref q_354, .ref q_356, .ref q_359, .int 0, .int 0, .int 0])), (q_350, .inl (ca_351, 10, .inl (fun _ => 0))), (q_352, .inl (ca_353, 10, .inl (upd (upd (upd (upd (upd (upd (upd (upd (upd (upd (fun _ => 0) (Int32.toNatClampNeg 0) (-1)) (Int32.toNatClampNeg 1) (-1)) (Int32.toNatClampNeg 2) (-1)) (Int32.toNatClampNeg 3) (-1)) (Int32.toNatClampNeg 4) (-1)) (Int32.toNatClampNeg 5) (-1)) (Int32.toNatClampNeg 6) (-1)) (Int32.toNatClampNeg 7) (-1)) (Int32.toNatClampNeg 8) (-1)) (Int32.toNatClampNeg 9) (-1))))] := hD
                      refine lv_iinc (v := 10) (lv' := [(2, .int 10), (0, .ref h0), (1, .ref tp)]) hx hb dX0_init_68 hl (k := 0) rfl (by decide) (by decide) rfl (fun ls hl => ?_)
                      refine lv_goto (tgt := 55) hx hb dX0_init_71 (by decide) ?_
                      refine lv_iload_n hx hb dX0_init_55 rfl (lv_at hl 0 rfl) ?_
                      refine lv_bipush (v := 10) hx hb dX0_init_56 (by decide) ?_
                      refine lv_icmp_ge (tgt := 74) hx hb dX0_init_58 (by decide) (fun c_371 => ?_) (fun c_371 => ?_)
                      · skip
                        exact W.vret hx hb hr (fun t ht hW => ⟨⟨(), rfl, trivial, trivial⟩, hS.F ht⟩) hS.2.2 dX0_init_74
                      · exact absurd c_371 (by decide)
set_option maxHeartbeats 4000000 in
set_option maxRecDepth 100000 in
theorem c_J0_coder_7d493 (l : Launch) (dC : Nat → ClassId) (dI : Nat → Nat → Nat) (adK : Nat → Nat) (adV : Nat → Nat) (sz : Nat) : Met l yJ0_coder_7d493 (Cond.code yJ0_coder_7d493 cJ0_coder_7d493 1 (some .byte) :: wA) ({ frames := 1, cells := 0, slots := 0, locals := 40 }) (va_Pc [.ref (adK 0)] (fun U => U.heap.size = sz ∧ va_P (dC, dI) classes [] U.heap ∧ va_K (dC, dI) classes [] U ∧ va_D (fun _ => True) [] ∧ vk_S 1 [6] [[100, 104, 108, 119, 107, 110]] adK adV (va_A [] sz) U U.heap ∧ va_Z "java/lang/String" "COMPACT_STRINGS" "Z" (.int 1) (va_A [] sz) U U.heap)) (va_Qi (fun (r : Int32) (_ : Unit) => r = 0) (fun (_ : Unit) (t : State) => va_P (dC, dI) classes [] t.heap ∧ va_K (dC, dI) classes [] t ∧ va_D (va_A [] sz) []) (va_A [] sz)) 0 0 (va_A [] sz) := by
  refine Met.ofW (cc := cJ0_coder_7d493) (maxL := 1) (ret := (some .byte)) (by decide) rfl ?_
  intro p e s m args below meth c s₁ B hml hv
  obtain ⟨rfl, hsz, hP, hK, hD0, hSS, hSZ⟩ := hv
  have hx := B.exec
  have hb := B.bytes
  have hr := B.returns
  have hts := atoms_spec (ws := Cond.code yJ0_coder_7d493 cJ0_coder_7d493 1 (some .byte) :: wA) B.pre
  have hwd : ∀ w ∈ wA, w.before _ s = true := fun w h => hts w (List.mem_cons_of_mem _ h)
  have hown : s.vm.findClass RJ0 = some m.cls := findClass_of_methodNamed B.named
  have hlocks := B.notSynchronized
  subst hsz
  have hD := hD0.self (sz := s.heap.size)
  generalize hAe : va_A [] s.heap.size = A at hD hSS hSZ ⊢
  have hA : ∀ q : Nat, s.heap.size ≤ q → A q := fun q h => by rw [← hAe]; exact Or.inr h
  have hS : va_S A s.heap s.heap [] := va_S.rf
  have hP : va_P (dC, dI) classes [] s.heap := hP
  have hl := lv_entry ([.ref (adK 0)]) (n := 1) (Nat.le_of_ble_eq_true rfl)
  rw [lg_entry_eq]
  generalize (lg_sl ([.ref (adK 0)]) ++ List.replicate (1 - (lg_sl ([.ref (adK 0)])).length) Slot.unset).toArray = ls at hl ⊢
  have hl : lv_has ls 1 [(0, .ref (adK 0))] := hl
  obtain ⟨H, eH⟩ : ∃ z, z = s.heap := ⟨_, rfl⟩
  have hP : va_P (dC, dI) classes [] H := by rw [eH]; exact hP
  have hS : va_S A s.heap H [] := by rw [eH]; exact va_S.rf
  refine my_heap eH ?_
  refine va_gets hx hb hSZ hS hown (hwd _ wk_273) (fun _ h9 => h9) dJ0_coder_7d493_0 ?_
  refine lv_if_eq (tgt := 13) hx hb dJ0_coder_7d493_3 (by decide) (fun c_372 => ?_) (fun c_372 => ?_)
  · exact absurd c_372 (by decide)
  · skip
    refine lv_aload_n hx hb dJ0_coder_7d493_6 rfl (lv_at hl 0 rfl) ?_
    refine vk_getf hx hb (hSS.1 0 (by decide)).2.1 hS hown (hwd _ wk_274) (fun _ h9 => h9) dJ0_coder_7d493_7 ?_
    refine lv_goto (tgt := 14) hx hb dJ0_coder_7d493_10 (by decide) ?_
    have hP9 : va_P (dC, dI) classes [] H := hP.sub [] rfl
    have hD9 : va_D A [] := hD.sub [] (by decide) rfl
    have hK9 : va_K (dC, dI) classes [] s := hK.sub [] rfl
    exact W.zret (v := 0) hx hb hr (by decide) (fun t ht hW => ⟨⟨0, (), rfl, rfl, by rw [ht]; exact hP9, va_K.moved hW.alike hK9, hD9⟩, hS.F ht⟩) hS.2.2 dJ0_coder_7d493_14
set_option maxHeartbeats 4000000 in
set_option maxRecDepth 100000 in
theorem c_J0_length_8abf5 (l : Launch) (dC : Nat → ClassId) (dI : Nat → Nat → Nat) (adK : Nat → Nat) (adV : Nat → Nat) (sz : Nat) : Met l yJ0_length_8abf5 (Cond.code yJ0_length_8abf5 cJ0_length_8abf5 1 (some .int) :: wA) ({ frames := 2, cells := 0, slots := 0, locals := 80 }) (va_Pc [.ref (adK 0)] (fun U => U.heap.size = sz ∧ va_P (dC, dI) classes [] U.heap ∧ va_K (dC, dI) classes [] U ∧ va_D (fun _ => True) [] ∧ vk_S 1 [6] [[100, 104, 108, 119, 107, 110]] adK adV (va_A [] sz) U U.heap ∧ va_Z "java/lang/String" "COMPACT_STRINGS" "Z" (.int 1) (va_A [] sz) U U.heap)) (va_Qi (fun (r : Int32) (_ : Unit) => r = 6) (fun (_ : Unit) (t : State) => va_P (dC, dI) classes [] t.heap ∧ va_K (dC, dI) classes [] t ∧ va_D (va_A [] sz) []) (va_A [] sz)) 0 0 (va_A [] sz) := by
  refine Met.ofW (cc := cJ0_length_8abf5) (maxL := 1) (ret := (some .int)) (by decide) rfl ?_
  intro p e s m args below meth c s₁ B hml hv
  obtain ⟨rfl, hsz, hP, hK, hD0, hSS, hSZ⟩ := hv
  have hx := B.exec
  have hb := B.bytes
  have hr := B.returns
  have hts := atoms_spec (ws := Cond.code yJ0_length_8abf5 cJ0_length_8abf5 1 (some .int) :: wA) B.pre
  have hwd : ∀ w ∈ wA, w.before _ s = true := fun w h => hts w (List.mem_cons_of_mem _ h)
  have hown : s.vm.findClass RJ0 = some m.cls := findClass_of_methodNamed B.named
  have hlocks := B.notSynchronized
  subst hsz
  have hD := hD0.self (sz := s.heap.size)
  generalize hAe : va_A [] s.heap.size = A at hD hSS hSZ ⊢
  have hA : ∀ q : Nat, s.heap.size ≤ q → A q := fun q h => by rw [← hAe]; exact Or.inr h
  have hS : va_S A s.heap s.heap [] := va_S.rf
  have hP : va_P (dC, dI) classes [] s.heap := hP
  have hl := lv_entry ([.ref (adK 0)]) (n := 1) (Nat.le_of_ble_eq_true rfl)
  rw [lg_entry_eq]
  generalize (lg_sl ([.ref (adK 0)]) ++ List.replicate (1 - (lg_sl ([.ref (adK 0)])).length) Slot.unset).toArray = ls at hl ⊢
  have hl : lv_has ls 1 [(0, .ref (adK 0))] := hl
  obtain ⟨H, eH⟩ : ∃ z, z = s.heap := ⟨_, rfl⟩
  have hP : va_P (dC, dI) classes [] H := by rw [eH]; exact hP
  have hS : va_S A s.heap H [] := by rw [eH]; exact va_S.rf
  refine my_heap eH ?_
  refine lv_aload_n hx hb dJ0_length_8abf5_0 rfl (lv_at hl 0 rfl) ?_
  refine vk_getf hx hb (hSS.1 0 (by decide)).2.2.1 hS hown (hwd _ wk_275) (fun _ h9 => h9) dJ0_length_8abf5_1 ?_
  refine va_tlen (v := 6) hx hb (hSS.1 0 (by decide)).2.2.2 hS (by decide) dJ0_length_8abf5_4 ?_
  refine lv_aload_n hx hb dJ0_length_8abf5_5 rfl (lv_at hl 0 rfl) ?_
  have hPc := hP.sub (ws' := []) [] rfl
  have hDc := hD.sub (ws' := []) [] (by decide) rfl
  have hKc := hK.sub (tys' := []) [] rfl
  have hFc := va_free (wc := []) hD hS hA [] rfl
  refine va_calli (va_runV (As := []) (rest := [.int 6]) ⟨hx, hb, hml, hown, hwd⟩ (c_J0_coder_7d493 l dC dI adK adV H.size) (cwV 0 hwd (gV wk_276 wk_277 wk_278 wk_279 wk_280) rfl rfl rfl (by decide +kernel) ⟨Nat.le_of_ble_eq_true rfl, Nat.le_of_ble_eq_true rfl⟩) ⟨fun a U g mk q => by obtain ⟨q0, q1, qP, qK, qD, qx0, qx1⟩ := q; exact ⟨q0, q1, qP, va_K.moved (u := U) (U := U.calling g mk a) (Vm.Alike.refl U.vm) qK, qD, vk_S.moved (u := U) (U := U.calling g mk a) (Vm.Alike.refl U.vm) qx0, va_Z.moved (u := U) (U := U.calling g mk a) (Vm.Alike.refl U.vm) qx1⟩, vk_recv hSS (i := 0) (by decide) hS, fun U hU hW => ⟨rfl, by rw [hU], by rw [hU]; exact hPc, va_K.moved hW.alike hKc, hDc.weaken (fun _ _ _ _ => trivial), by rw [hU]; exact ((hSS.kept hS.2.1).narrow hFc).moved hW.alike, by rw [hU]; exact ((hSZ.kept hS.2.1).narrow hFc).moved hW.alike⟩⟩ rfl rfl hl.1 rfl (lv_room (Nat.le_of_ble_eq_true rfl)) dJ0_length_8abf5_6 ⟨Nat.le_of_ble_eq_true rfl, Nat.le_of_ble_eq_true rfl⟩) hS (fun q _ h => hFc q h) hFc (fun r_373 u t H1 locs ht hvm hw hB hz1 hk1 hS => ?_)
  obtain ⟨hP1, hK1, hD1⟩ := hB
  rw [ht] at hP1
  obtain ⟨hP, hD⟩ := va_join (wr := []) (w1 := []) hP hD [] [] rfl rfl (by decide) (by decide) hk1 hFc hP1 hD1
  generalize H1 = H at hP hS ⊢
  have hP : va_P (dC, dI) classes [] H := hP
  have hD : va_D A [] := hD
  try dsimp only at hw
  subst hw
  refine lv_ishr hx hb dJ0_length_8abf5_9 ?_
  refine my_top (v := 6) (by decide) ?_
  have hP9 : va_P (dC, dI) classes [] H := hP.sub [] rfl
  have hD9 : va_D A [] := hD.sub [] (by decide) rfl
  have hK9 : va_K (dC, dI) classes [] s := hK.sub [] rfl
  exact W.iret (v := 6) hx hb hr (fun t ht hW => ⟨⟨6, (), rfl, rfl, by rw [ht]; exact hP9, va_K.moved hW.alike hK9, hD9⟩, hS.F ht⟩) hS.2.2 dJ0_length_8abf5_10
set_option maxHeartbeats 4000000 in
set_option maxRecDepth 100000 in
theorem c_X5_init (l : Launch) (dC : Nat → ClassId) (dI : Nat → Nat → Nat) (h0 : Nat) (kd : Nat) (lw : Nat) (gp : Nat → Nat) (adK : Nat → Nat) (adV : Nat → Nat) (sz : Nat) (pt : Nat) : Met l yX5_init (Cond.code yX5_init cX5_init 4 none :: wA) ({ frames := 3, cells := 2, slots := 9, locals := 120 }) (va_Pc [.ref h0, .ref kd, .ref pt, .ref lw] (fun U => U.heap.size = sz ∧ va_P (dC, dI) classes [(h0, .inr (5, [.null, .null, .null, .null, .null, .null])), (pt, .inr (7, o7 gp))] U.heap ∧ va_K (dC, dI) classes [] U ∧ va_D (fun _ => True) [(h0, .inr (5, [.null, .null, .null, .null, .null, .null])), (pt, .inr (7, o7 gp))] ∧ vk_R RX5 11 "dhlwkn" (adK 0) U ∧ vk_S 1 [6] [[100, 104, 108, 119, 107, 110]] adK adV (va_A [(h0, .inr (5, [.null, .null, .null, .null, .null, .null])), (pt, .inr (7, o7 gp))] sz) U U.heap ∧ va_Z "java/lang/String" "COMPACT_STRINGS" "Z" (.int 1) (va_A [(h0, .inr (5, [.null, .null, .null, .null, .null, .null])), (pt, .inr (7, o7 gp))] sz) U U.heap)) (va_Qv (fun _ : Unit => True) (fun (_ : Unit) (t : State) => ∃ (gz : Nat → Nat), va_P (dC, dI) classes [(h0, .inr (5, o5 gz)), (pt, .inr (7, o7 gp))] t.heap ∧ va_K (dC, dI) classes [] t ∧ va_D (va_A [(h0, .inr (5, [.null, .null, .null, .null, .null, .null])), (pt, .inr (7, o7 gp))] sz) [(h0, .inr (5, o5 gz)), (pt, .inr (7, o7 gp))]) (va_A [(h0, .inr (5, [.null, .null, .null, .null, .null, .null])), (pt, .inr (7, o7 gp))] sz)) 2 9 (va_A [(h0, .inr (5, [.null, .null, .null, .null, .null, .null])), (pt, .inr (7, o7 gp))] sz) := by
  refine Met.ofW (cc := cX5_init) (maxL := 4) (ret := none) (by decide) rfl ?_
  intro p e s m args below meth c s₁ B hml hv
  obtain ⟨rfl, hsz, hP, hK, hD0, hSR, hSS, hSZ⟩ := hv
  have hx := B.exec
  have hb := B.bytes
  have hr := B.returns
  have hts := atoms_spec (ws := Cond.code yX5_init cX5_init 4 none :: wA) B.pre
  have hwd : ∀ w ∈ wA, w.before _ s = true := fun w h => hts w (List.mem_cons_of_mem _ h)
  have hown : s.vm.findClass RX5 = some m.cls := findClass_of_methodNamed B.named
  have hlocks := B.notSynchronized
  have hin : meth.name = "<init>" := (name_of_methodNamed B.named B.method).1
  subst hsz
  have hD := hD0.self (sz := s.heap.size)
  generalize hAe : va_A [(h0, .inr (5, [.null, .null, .null, .null, .null, .null])), (pt, .inr (7, o7 gp))] s.heap.size = A at hD hSS hSZ ⊢
  have hA : ∀ q : Nat, s.heap.size ≤ q → A q := fun q h => by rw [← hAe]; exact Or.inr h
  have hS : va_S A s.heap s.heap [] := va_S.rf
  have hP : va_P (dC, dI) classes [(h0, .inr (5, [.null, .null, .null, .null, .null, .null])), (pt, .inr (7, o7 gp))] s.heap := hP
  have hl := lv_entry ([.ref h0, .ref kd, .ref pt, .ref lw]) (n := 4) (Nat.le_of_ble_eq_true rfl)
  rw [lg_entry_eq]
  generalize (lg_sl ([.ref h0, .ref kd, .ref pt, .ref lw]) ++ List.replicate (4 - (lg_sl ([.ref h0, .ref kd, .ref pt, .ref lw])).length) Slot.unset).toArray = ls at hl ⊢
  have hl : lv_has ls 4 [(0, .ref h0), (1, .ref kd), (2, .ref pt), (3, .ref lw)] := hl
  obtain ⟨H, eH⟩ : ∃ z, z = s.heap := ⟨_, rfl⟩
  have hP : va_P (dC, dI) classes [(h0, .inr (5, [.null, .null, .null, .null, .null, .null])), (pt, .inr (7, o7 gp))] H := by rw [eH]; exact hP
  have hS : va_S A s.heap H [] := by rw [eH]; exact va_S.rf
  refine my_heap eH ?_
  refine lv_aload_n hx hb dX5_init_0 rfl (lv_at hl 0 rfl) ?_
  refine W.objInit hx hb hown (hwd _ wk_281) (hwd _ wk_222) (hwd _ wk_223) rfl (by rw [hml]; exact hl.1) rfl dX5_init_1 (Nat.le_of_ble_eq_true rfl) (Nat.le_of_ble_eq_true rfl) ?_
  refine W.eq (g2 := F0 m 4 ls []) rfl ?_
  refine lv_aload_n hx hb dX5_init_4 rfl (lv_at hl 0 rfl) ?_
  refine va_ldcS hx hb hown hSR dX5_init_5 ?_
  have hPc := hP.sub (ws' := []) [] rfl
  have hDc := hD.sub (ws' := []) [] (by decide) rfl
  have hKc := hK.sub (tys' := []) [] rfl
  have hFc := va_free (wc := []) hD hS hA [] rfl
  refine va_calli (va_runV (As := []) (rest := [.ref h0]) ⟨hx, hb, hml, hown, hwd⟩ (c_J0_length_8abf5 l dC dI adK adV H.size) (cwV 0 hwd (gV wk_282 wk_283 wk_284 wk_285 wk_280) rfl rfl rfl (by decide +kernel) ⟨Nat.le_of_ble_eq_true rfl, Nat.le_of_ble_eq_true rfl⟩) ⟨fun a U g mk q => by obtain ⟨q0, q1, qP, qK, qD, qx0, qx1⟩ := q; exact ⟨q0, q1, qP, va_K.moved (u := U) (U := U.calling g mk a) (Vm.Alike.refl U.vm) qK, qD, vk_S.moved (u := U) (U := U.calling g mk a) (Vm.Alike.refl U.vm) qx0, va_Z.moved (u := U) (U := U.calling g mk a) (Vm.Alike.refl U.vm) qx1⟩, vk_recv hSS (i := 0) (by decide) hS, fun U hU hW => ⟨rfl, by rw [hU], by rw [hU]; exact hPc, va_K.moved hW.alike hKc, hDc.weaken (fun _ _ _ _ => trivial), by rw [hU]; exact ((hSS.kept hS.2.1).narrow hFc).moved hW.alike, by rw [hU]; exact ((hSZ.kept hS.2.1).narrow hFc).moved hW.alike⟩⟩ rfl rfl hl.1 rfl (lv_room (Nat.le_of_ble_eq_true rfl)) dX5_init_7 ⟨Nat.le_of_ble_eq_true rfl, Nat.le_of_ble_eq_true rfl⟩) hS (fun q _ h => hFc q h) hFc (fun r_374 u t H1 locs ht hvm hw hB hz1 hk1 hS => ?_)
  obtain ⟨hP1, hK1, hD1⟩ := hB
  rw [ht] at hP1
  obtain ⟨hP, hD⟩ := va_join (wr := [(h0, .inr (5, [.null, .null, .null, .null, .null, .null])), (pt, .inr (7, o7 gp))]) (w1 := []) hP hD [] [0, 1] rfl rfl (by decide) (by decide) hk1 hFc hP1 hD1
  generalize H1 = H at hP hS ⊢
  have hP : va_P (dC, dI) classes [(h0, .inr (5, [.null, .null, .null, .null, .null, .null])), (pt, .inr (7, o7 gp))] H := hP
  have hD : va_D A [(h0, .inr (5, [.null, .null, .null, .null, .null, .null])), (pt, .inr (7, o7 gp))] := hD
  try dsimp only at hw
  subst hw
  refine va_newa (atype := .int) (a0 := (6, .inl (fun _ => 0))) (ty := .int) (N' := 6) hx hb (hwd _ wk_224) rfl hK hP hD hS hA (fun _ => rfl) (by decide) (by decide) (by decide) (Nat.le_of_ble_eq_true rfl) (Nat.le_of_ble_eq_true rfl) dX5_init_10 (fun q_375 ca_376 H hK hP hD hS => ?_)
  have hK : va_K (dC, dI) classes [(ca_376, .int)] s := hK
  have hP : va_P (dC, dI) classes [(h0, .inr (5, [.null, .null, .null, .null, .null, .null])), (pt, .inr (7, o7 gp)), (q_375, .inl (ca_376, 6, .inl (fun _ => 0)))] H := hP
  have hD : va_D A [(h0, .inr (5, [.null, .null, .null, .null, .null, .null])), (pt, .inr (7, o7 gp)), (q_375, .inl (ca_376, 6, .inl (fun _ => 0)))] := hD
  refine W.widen (k := 1) (n := 6) (Nat.le_of_ble_eq_true rfl) (Nat.le_of_ble_eq_true rfl) ?_
  have hP : va_P (dC, dI) classes [(h0, .inr (5, [.null, .null, .null, .null, .null, .null])), (pt, .inr (7, o7 gp))] H := hP.sub [0, 1] rfl
  have hD : va_D A [(h0, .inr (5, [.null, .null, .null, .null, .null, .null])), (pt, .inr (7, o7 gp))] := hD.sub [0, 1] (by decide) rfl
  refine va_putF (D := (dC, dI)) (ci := 5) (v := .ref q_375) (ty := .array .int) (C := RX5) (T := TX5) (N := 6) hx hb hwd inA_X5 tyX5 tyX5_ok nmX5 hown hK hP hD hS 0 rfl rfl 4 (by decide) (hwd _ wk_286) (fun _ h9 => h9) rfl hin rfl (by decide +kernel) rfl rfl (Nat.le_of_ble_eq_true rfl) dX5_init_12 (fun H locs hP hD hS => ?_)
  have hP : va_P (dC, dI) classes [(h0, .inr (5, [.null, .null, .null, .null, .ref q_375, .null])), (pt, .inr (7, o7 gp))] H := hP
  have hD : va_D A [(h0, .inr (5, [.null, .null, .null, .null, .ref q_375, .null])), (pt, .inr (7, o7 gp))] := hD
  refine lv_aload_n hx hb dX5_init_15 rfl (lv_at hl 0 rfl) ?_
  refine lv_iconst (v := 3) hx hb dX5_init_16 (by decide) ?_
  refine va_newa (atype := .int) (a0 := (3, .inl (fun _ => 0))) (ty := .int) (N' := 3) hx hb (hwd _ wk_224) rfl hK hP hD hS hA (fun _ => rfl) (by decide) (by decide) (by decide) (Nat.le_of_ble_eq_true rfl) (Nat.le_of_ble_eq_true rfl) dX5_init_17 (fun q_377 ca_378 H hK hP hD hS => ?_)
  have hK : va_K (dC, dI) classes [(ca_376, .int), (ca_378, .int)] s := hK
  have hP : va_P (dC, dI) classes [(h0, .inr (5, [.null, .null, .null, .null, .ref q_375, .null])), (pt, .inr (7, o7 gp)), (q_377, .inl (ca_378, 3, .inl (fun _ => 0)))] H := hP
  have hD : va_D A [(h0, .inr (5, [.null, .null, .null, .null, .ref q_375, .null])), (pt, .inr (7, o7 gp)), (q_377, .inl (ca_378, 3, .inl (fun _ => 0)))] := hD
  refine W.widen (k := 2) (n := 9) (Nat.le_of_ble_eq_true rfl) (Nat.le_of_ble_eq_true rfl) ?_
  have hP : va_P (dC, dI) classes [(h0, .inr (5, [.null, .null, .null, .null, .ref q_375, .null])), (pt, .inr (7, o7 gp))] H := hP.sub [0, 1] rfl
  have hD : va_D A [(h0, .inr (5, [.null, .null, .null, .null, .ref q_375, .null])), (pt, .inr (7, o7 gp))] := hD.sub [0, 1] (by decide) rfl
  refine va_putF (D := (dC, dI)) (ci := 5) (v := .ref q_377) (ty := .array .int) (C := RX5) (T := TX5) (N := 6) hx hb hwd inA_X5 tyX5 tyX5_ok nmX5 hown hK hP hD hS 0 rfl rfl 5 (by decide) (hwd _ wk_287) (fun _ h9 => h9) rfl hin rfl (by decide +kernel) rfl rfl (Nat.le_of_ble_eq_true rfl) dX5_init_19 (fun H locs hP hD hS => ?_)
  have hP : va_P (dC, dI) classes [(h0, .inr (5, [.null, .null, .null, .null, .ref q_375, .ref q_377])), (pt, .inr (7, o7 gp))] H := hP
  have hD : va_D A [(h0, .inr (5, [.null, .null, .null, .null, .ref q_375, .ref q_377])), (pt, .inr (7, o7 gp))] := hD
  refine lv_aload_n hx hb dX5_init_22 rfl (lv_at hl 0 rfl) ?_
  refine lv_aload_n hx hb dX5_init_23 rfl (lv_at hl 1 rfl) ?_
  refine va_putF (D := (dC, dI)) (ci := 5) (v := .ref kd) (ty := .object "PlanesBack$Kinds") (C := RX5) (T := TX5) (N := 6) hx hb hwd inA_X5 tyX5 tyX5_ok nmX5 hown hK hP hD hS 0 rfl rfl 0 (by decide) (hwd _ wk_288) (fun _ h9 => h9) rfl hin rfl (by decide +kernel) rfl rfl (Nat.le_of_ble_eq_true rfl) dX5_init_24 (fun H locs hP hD hS => ?_)
  have hP : va_P (dC, dI) classes [(h0, .inr (5, [.ref kd, .null, .null, .null, .ref q_375, .ref q_377])), (pt, .inr (7, o7 gp))] H := hP
  have hD : va_D A [(h0, .inr (5, [.ref kd, .null, .null, .null, .ref q_375, .ref q_377])), (pt, .inr (7, o7 gp))] := hD
  refine lv_aload_n hx hb dX5_init_27 rfl (lv_at hl 0 rfl) ?_
  refine lv_aload_n hx hb dX5_init_28 rfl (lv_at hl 2 rfl) ?_
  refine va_putF (D := (dC, dI)) (ci := 5) (v := .ref pt) (ty := .object "PlanesBack$Parts") (C := RX5) (T := TX5) (N := 6) hx hb hwd inA_X5 tyX5 tyX5_ok nmX5 hown hK hP hD hS 0 rfl rfl 1 (by decide) (hwd _ wk_289) (fun _ h9 => h9) rfl hin rfl (by decide +kernel) rfl rfl (Nat.le_of_ble_eq_true rfl) dX5_init_29 (fun H locs hP hD hS => ?_)
  have hP : va_P (dC, dI) classes [(h0, .inr (5, [.ref kd, .ref pt, .null, .null, .ref q_375, .ref q_377])), (pt, .inr (7, o7 gp))] H := hP
  have hD : va_D A [(h0, .inr (5, [.ref kd, .ref pt, .null, .null, .ref q_375, .ref q_377])), (pt, .inr (7, o7 gp))] := hD
  refine lv_aload_n hx hb dX5_init_32 rfl (lv_at hl 0 rfl) ?_
  refine lv_aload_n hx hb dX5_init_33 rfl (lv_at hl 2 rfl) ?_
  refine va_get (D := (dC, dI)) (ci := 7) (v := .ref (gp 0)) (C := RX7) (T := TX7) (N := 7) hx hb hwd inA_X7 hown hK hP 1 rfl rfl 0 (by decide) (hwd _ wk_290) (fun _ h9 => h9) rfl dX5_init_34 ?_
  refine va_putF (D := (dC, dI)) (ci := 5) (v := .ref (gp 0)) (ty := .object "PlanesBack$Stays") (C := RX5) (T := TX5) (N := 6) hx hb hwd inA_X5 tyX5 tyX5_ok nmX5 hown hK hP hD hS 0 rfl rfl 2 (by decide) (hwd _ wk_291) (fun _ h9 => h9) rfl hin rfl (by decide +kernel) rfl rfl (Nat.le_of_ble_eq_true rfl) dX5_init_37 (fun H locs hP hD hS => ?_)
  have hP : va_P (dC, dI) classes [(h0, .inr (5, [.ref kd, .ref pt, .ref (gp 0), .null, .ref q_375, .ref q_377])), (pt, .inr (7, o7 gp))] H := hP
  have hD : va_D A [(h0, .inr (5, [.ref kd, .ref pt, .ref (gp 0), .null, .ref q_375, .ref q_377])), (pt, .inr (7, o7 gp))] := hD
  refine lv_aload_n hx hb dX5_init_40 rfl (lv_at hl 0 rfl) ?_
  refine lv_aload_n hx hb dX5_init_41 rfl (lv_at hl 3 rfl) ?_
  refine va_putF (D := (dC, dI)) (ci := 5) (v := .ref lw) (ty := .object "PlanesBack$Laws") (C := RX5) (T := TX5) (N := 6) hx hb hwd inA_X5 tyX5 tyX5_ok nmX5 hown hK hP hD hS 0 rfl rfl 3 (by decide) (hwd _ wk_292) (fun _ h9 => h9) rfl hin rfl (by decide +kernel) rfl rfl (Nat.le_of_ble_eq_true rfl) dX5_init_42 (fun H locs hP hD hS => ?_)
  have hP : va_P (dC, dI) classes [(h0, .inr (5, [.ref kd, .ref pt, .ref (gp 0), .ref lw, .ref q_375, .ref q_377])), (pt, .inr (7, o7 gp))] H := hP
  have hD : va_D A [(h0, .inr (5, [.ref kd, .ref pt, .ref (gp 0), .ref lw, .ref q_375, .ref q_377])), (pt, .inr (7, o7 gp))] := hD
  have hP9 : va_P (dC, dI) classes [(h0, .inr (5, o5 (fun k => [kd, pt, gp 0, lw, q_375, q_377].getD k 0))), (pt, .inr (7, o7 gp))] H := hP.sub [0, 1] rfl
  have hD9 : va_D A [(h0, .inr (5, o5 (fun k => [kd, pt, gp 0, lw, q_375, q_377].getD k 0))), (pt, .inr (7, o7 gp))] := hD.sub [0, 1] (by decide) rfl
  have hK9 : va_K (dC, dI) classes [] s := hK.sub [] rfl
  exact W.vret hx hb hr (fun t ht hW => ⟨⟨(), rfl, trivial, (fun k => [kd, pt, gp 0, lw, q_375, q_377].getD k 0), by rw [ht]; exact hP9, va_K.moved hW.alike hK9, hD9⟩, hS.F ht⟩) hS.2.2 dX5_init_45
set_option maxHeartbeats 4000000 in
set_option maxRecDepth 100000 in
theorem c_X1_init (l : Launch) (dC : Nat → ClassId) (dI : Nat → Nat → Nat) (h0 : Nat) (lv : Nat) (od : Nat) (ct : Nat) (gv : Nat → Nat) (sz : Nat) (pl : Nat) : Met l yX1_init (Cond.code yX1_init cX1_init 5 none :: wA) ({ frames := 1, cells := 4, slots := 508, locals := 40 }) (va_Pc [.ref h0, .ref pl, .ref lv, .ref od, .ref ct] (fun U => U.heap.size = sz ∧ va_P (dC, dI) classes [(h0, .inr (1, [.null, .null, .null, .null, .null, .null, .null, .null, .null, .int 0, .null, .int 0, .int 0])), (lv, .inr (5, o5 gv))] U.heap ∧ va_K (dC, dI) classes [] U ∧ va_D (fun _ => True) [(h0, .inr (1, [.null, .null, .null, .null, .null, .null, .null, .null, .null, .int 0, .null, .int 0, .int 0])), (lv, .inr (5, o5 gv))])) (va_Qv (fun _ : Unit => True) (fun (_ : Unit) (_ : State) => True) (va_A [(h0, .inr (1, [.null, .null, .null, .null, .null, .null, .null, .null, .null, .int 0, .null, .int 0, .int 0])), (lv, .inr (5, o5 gv))] sz)) 4 508 (va_A [(h0, .inr (1, [.null, .null, .null, .null, .null, .null, .null, .null, .null, .int 0, .null, .int 0, .int 0])), (lv, .inr (5, o5 gv))] sz) := by
  refine Met.ofW (cc := cX1_init) (maxL := 5) (ret := none) (by decide) rfl ?_
  intro p e s m args below meth c s₁ B hml hv
  obtain ⟨rfl, hsz, hP, hK, hD0⟩ := hv
  have hx := B.exec
  have hb := B.bytes
  have hr := B.returns
  have hts := atoms_spec (ws := Cond.code yX1_init cX1_init 5 none :: wA) B.pre
  have hwd : ∀ w ∈ wA, w.before _ s = true := fun w h => hts w (List.mem_cons_of_mem _ h)
  have hown : s.vm.findClass RX1 = some m.cls := findClass_of_methodNamed B.named
  have hlocks := B.notSynchronized
  have hin : meth.name = "<init>" := (name_of_methodNamed B.named B.method).1
  subst hsz
  have hD := hD0.self (sz := s.heap.size)
  generalize hAe : va_A [(h0, .inr (1, [.null, .null, .null, .null, .null, .null, .null, .null, .null, .int 0, .null, .int 0, .int 0])), (lv, .inr (5, o5 gv))] s.heap.size = A at hD ⊢
  have hA : ∀ q : Nat, s.heap.size ≤ q → A q := fun q h => by rw [← hAe]; exact Or.inr h
  have hS : va_S A s.heap s.heap [] := va_S.rf
  have hP : va_P (dC, dI) classes [(h0, .inr (1, [.null, .null, .null, .null, .null, .null, .null, .null, .null, .int 0, .null, .int 0, .int 0])), (lv, .inr (5, o5 gv))] s.heap := hP
  have hl := lv_entry ([.ref h0, .ref pl, .ref lv, .ref od, .ref ct]) (n := 5) (Nat.le_of_ble_eq_true rfl)
  rw [lg_entry_eq]
  generalize (lg_sl ([.ref h0, .ref pl, .ref lv, .ref od, .ref ct]) ++ List.replicate (5 - (lg_sl ([.ref h0, .ref pl, .ref lv, .ref od, .ref ct])).length) Slot.unset).toArray = ls at hl ⊢
  have hl : lv_has ls 5 [(0, .ref h0), (1, .ref pl), (2, .ref lv), (3, .ref od), (4, .ref ct)] := hl
  obtain ⟨H, eH⟩ : ∃ z, z = s.heap := ⟨_, rfl⟩
  have hP : va_P (dC, dI) classes [(h0, .inr (1, [.null, .null, .null, .null, .null, .null, .null, .null, .null, .int 0, .null, .int 0, .int 0])), (lv, .inr (5, o5 gv))] H := by rw [eH]; exact hP
  have hS : va_S A s.heap H [] := by rw [eH]; exact va_S.rf
  refine my_heap eH ?_
  refine lv_aload_n hx hb dX1_init_0 rfl (lv_at hl 0 rfl) ?_
  refine W.objInit hx hb hown (hwd _ wk_293) (hwd _ wk_222) (hwd _ wk_223) rfl (by rw [hml]; exact hl.1) rfl dX1_init_1 (Nat.le_of_ble_eq_true rfl) (Nat.le_of_ble_eq_true rfl) ?_
  refine W.eq (g2 := F0 m 4 ls []) rfl ?_
  refine lv_aload_n hx hb dX1_init_4 rfl (lv_at hl 0 rfl) ?_
  refine lv_sipush (v := 300) hx hb dX1_init_5 (by decide) ?_
  refine va_newa (atype := .int) (a0 := (300, .inl (fun _ => 0))) (ty := .int) (N' := 300) hx hb (hwd _ wk_224) rfl hK hP hD hS hA (fun _ => rfl) (by decide) (by decide) (by decide) (Nat.le_of_ble_eq_true rfl) (Nat.le_of_ble_eq_true rfl) dX1_init_8 (fun q_379 ca_380 H hK hP hD hS => ?_)
  have hK : va_K (dC, dI) classes [(ca_380, .int)] s := hK
  have hP : va_P (dC, dI) classes [(h0, .inr (1, [.null, .null, .null, .null, .null, .null, .null, .null, .null, .int 0, .null, .int 0, .int 0])), (lv, .inr (5, o5 gv)), (q_379, .inl (ca_380, 300, .inl (fun _ => 0)))] H := hP
  have hD : va_D A [(h0, .inr (1, [.null, .null, .null, .null, .null, .null, .null, .null, .null, .int 0, .null, .int 0, .int 0])), (lv, .inr (5, o5 gv)), (q_379, .inl (ca_380, 300, .inl (fun _ => 0)))] := hD
  refine W.widen (k := 1) (n := 300) (Nat.le_of_ble_eq_true rfl) (Nat.le_of_ble_eq_true rfl) ?_
  have hP : va_P (dC, dI) classes [(h0, .inr (1, [.null, .null, .null, .null, .null, .null, .null, .null, .null, .int 0, .null, .int 0, .int 0])), (lv, .inr (5, o5 gv))] H := hP.sub [0, 1] rfl
  have hD : va_D A [(h0, .inr (1, [.null, .null, .null, .null, .null, .null, .null, .null, .null, .int 0, .null, .int 0, .int 0])), (lv, .inr (5, o5 gv))] := hD.sub [0, 1] (by decide) rfl
  refine va_putF (D := (dC, dI)) (ci := 1) (v := .ref q_379) (ty := .array .int) (C := RX1) (T := TX1) (N := 13) hx hb hwd inA_X1 tyX1 tyX1_ok nmX1 hown hK hP hD hS 0 rfl rfl 6 (by decide) (hwd _ wk_294) (fun _ h9 => h9) rfl hin rfl (by decide +kernel) rfl rfl (Nat.le_of_ble_eq_true rfl) dX1_init_10 (fun H locs hP hD hS => ?_)
  have hP : va_P (dC, dI) classes [(h0, .inr (1, [.null, .null, .null, .null, .null, .null, .ref q_379, .null, .null, .int 0, .null, .int 0, .int 0])), (lv, .inr (5, o5 gv))] H := hP
  have hD : va_D A [(h0, .inr (1, [.null, .null, .null, .null, .null, .null, .ref q_379, .null, .null, .int 0, .null, .int 0, .int 0])), (lv, .inr (5, o5 gv))] := hD
  refine lv_aload_n hx hb dX1_init_13 rfl (lv_at hl 0 rfl) ?_
  refine lv_bipush (v := 100) hx hb dX1_init_14 (by decide) ?_
  refine va_newa (atype := .int) (a0 := (100, .inl (fun _ => 0))) (ty := .int) (N' := 100) hx hb (hwd _ wk_224) rfl hK hP hD hS hA (fun _ => rfl) (by decide) (by decide) (by decide) (Nat.le_of_ble_eq_true rfl) (Nat.le_of_ble_eq_true rfl) dX1_init_16 (fun q_381 ca_382 H hK hP hD hS => ?_)
  have hK : va_K (dC, dI) classes [(ca_380, .int), (ca_382, .int)] s := hK
  have hP : va_P (dC, dI) classes [(h0, .inr (1, [.null, .null, .null, .null, .null, .null, .ref q_379, .null, .null, .int 0, .null, .int 0, .int 0])), (lv, .inr (5, o5 gv)), (q_381, .inl (ca_382, 100, .inl (fun _ => 0)))] H := hP
  have hD : va_D A [(h0, .inr (1, [.null, .null, .null, .null, .null, .null, .ref q_379, .null, .null, .int 0, .null, .int 0, .int 0])), (lv, .inr (5, o5 gv)), (q_381, .inl (ca_382, 100, .inl (fun _ => 0)))] := hD
  refine W.widen (k := 2) (n := 400) (Nat.le_of_ble_eq_true rfl) (Nat.le_of_ble_eq_true rfl) ?_
  have hP : va_P (dC, dI) classes [(h0, .inr (1, [.null, .null, .null, .null, .null, .null, .ref q_379, .null, .null, .int 0, .null, .int 0, .int 0])), (lv, .inr (5, o5 gv))] H := hP.sub [0, 1] rfl
  have hD : va_D A [(h0, .inr (1, [.null, .null, .null, .null, .null, .null, .ref q_379, .null, .null, .int 0, .null, .int 0, .int 0])), (lv, .inr (5, o5 gv))] := hD.sub [0, 1] (by decide) rfl
  refine va_putF (D := (dC, dI)) (ci := 1) (v := .ref q_381) (ty := .array .int) (C := RX1) (T := TX1) (N := 13) hx hb hwd inA_X1 tyX1 tyX1_ok nmX1 hown hK hP hD hS 0 rfl rfl 7 (by decide) (hwd _ wk_295) (fun _ h9 => h9) rfl hin rfl (by decide +kernel) rfl rfl (Nat.le_of_ble_eq_true rfl) dX1_init_18 (fun H locs hP hD hS => ?_)
  have hP : va_P (dC, dI) classes [(h0, .inr (1, [.null, .null, .null, .null, .null, .null, .ref q_379, .ref q_381, .null, .int 0, .null, .int 0, .int 0])), (lv, .inr (5, o5 gv))] H := hP
  have hD : va_D A [(h0, .inr (1, [.null, .null, .null, .null, .null, .null, .ref q_379, .ref q_381, .null, .int 0, .null, .int 0, .int 0])), (lv, .inr (5, o5 gv))] := hD
  refine lv_aload_n hx hb dX1_init_21 rfl (lv_at hl 0 rfl) ?_
  refine lv_bipush (v := 100) hx hb dX1_init_22 (by decide) ?_
  refine va_newa (atype := .int) (a0 := (100, .inl (fun _ => 0))) (ty := .int) (N' := 100) hx hb (hwd _ wk_224) rfl hK hP hD hS hA (fun _ => rfl) (by decide) (by decide) (by decide) (Nat.le_of_ble_eq_true rfl) (Nat.le_of_ble_eq_true rfl) dX1_init_24 (fun q_383 ca_384 H hK hP hD hS => ?_)
  have hK : va_K (dC, dI) classes [(ca_380, .int), (ca_382, .int), (ca_384, .int)] s := hK
  have hP : va_P (dC, dI) classes [(h0, .inr (1, [.null, .null, .null, .null, .null, .null, .ref q_379, .ref q_381, .null, .int 0, .null, .int 0, .int 0])), (lv, .inr (5, o5 gv)), (q_383, .inl (ca_384, 100, .inl (fun _ => 0)))] H := hP
  have hD : va_D A [(h0, .inr (1, [.null, .null, .null, .null, .null, .null, .ref q_379, .ref q_381, .null, .int 0, .null, .int 0, .int 0])), (lv, .inr (5, o5 gv)), (q_383, .inl (ca_384, 100, .inl (fun _ => 0)))] := hD
  refine W.widen (k := 3) (n := 500) (Nat.le_of_ble_eq_true rfl) (Nat.le_of_ble_eq_true rfl) ?_
  have hP : va_P (dC, dI) classes [(h0, .inr (1, [.null, .null, .null, .null, .null, .null, .ref q_379, .ref q_381, .null, .int 0, .null, .int 0, .int 0])), (lv, .inr (5, o5 gv))] H := hP.sub [0, 1] rfl
  have hD : va_D A [(h0, .inr (1, [.null, .null, .null, .null, .null, .null, .ref q_379, .ref q_381, .null, .int 0, .null, .int 0, .int 0])), (lv, .inr (5, o5 gv))] := hD.sub [0, 1] (by decide) rfl
  refine va_putF (D := (dC, dI)) (ci := 1) (v := .ref q_383) (ty := .array .int) (C := RX1) (T := TX1) (N := 13) hx hb hwd inA_X1 tyX1 tyX1_ok nmX1 hown hK hP hD hS 0 rfl rfl 8 (by decide) (hwd _ wk_296) (fun _ h9 => h9) rfl hin rfl (by decide +kernel) rfl rfl (Nat.le_of_ble_eq_true rfl) dX1_init_26 (fun H locs hP hD hS => ?_)
  have hP : va_P (dC, dI) classes [(h0, .inr (1, [.null, .null, .null, .null, .null, .null, .ref q_379, .ref q_381, .ref q_383, .int 0, .null, .int 0, .int 0])), (lv, .inr (5, o5 gv))] H := hP
  have hD : va_D A [(h0, .inr (1, [.null, .null, .null, .null, .null, .null, .ref q_379, .ref q_381, .ref q_383, .int 0, .null, .int 0, .int 0])), (lv, .inr (5, o5 gv))] := hD
  refine lv_aload_n hx hb dX1_init_29 rfl (lv_at hl 0 rfl) ?_
  refine lv_bipush (v := 8) hx hb dX1_init_30 (by decide) ?_
  refine va_newa (atype := .int) (a0 := (8, .inl (fun _ => 0))) (ty := .int) (N' := 8) hx hb (hwd _ wk_224) rfl hK hP hD hS hA (fun _ => rfl) (by decide) (by decide) (by decide) (Nat.le_of_ble_eq_true rfl) (Nat.le_of_ble_eq_true rfl) dX1_init_32 (fun q_385 ca_386 H hK hP hD hS => ?_)
  have hK : va_K (dC, dI) classes [(ca_380, .int), (ca_382, .int), (ca_384, .int), (ca_386, .int)] s := hK
  have hP : va_P (dC, dI) classes [(h0, .inr (1, [.null, .null, .null, .null, .null, .null, .ref q_379, .ref q_381, .ref q_383, .int 0, .null, .int 0, .int 0])), (lv, .inr (5, o5 gv)), (q_385, .inl (ca_386, 8, .inl (fun _ => 0)))] H := hP
  have hD : va_D A [(h0, .inr (1, [.null, .null, .null, .null, .null, .null, .ref q_379, .ref q_381, .ref q_383, .int 0, .null, .int 0, .int 0])), (lv, .inr (5, o5 gv)), (q_385, .inl (ca_386, 8, .inl (fun _ => 0)))] := hD
  refine W.widen (k := 4) (n := 508) (Nat.le_of_ble_eq_true rfl) (Nat.le_of_ble_eq_true rfl) ?_
  have hP : va_P (dC, dI) classes [(h0, .inr (1, [.null, .null, .null, .null, .null, .null, .ref q_379, .ref q_381, .ref q_383, .int 0, .null, .int 0, .int 0])), (lv, .inr (5, o5 gv))] H := hP.sub [0, 1] rfl
  have hD : va_D A [(h0, .inr (1, [.null, .null, .null, .null, .null, .null, .ref q_379, .ref q_381, .ref q_383, .int 0, .null, .int 0, .int 0])), (lv, .inr (5, o5 gv))] := hD.sub [0, 1] (by decide) rfl
  refine va_putF (D := (dC, dI)) (ci := 1) (v := .ref q_385) (ty := .array .int) (C := RX1) (T := TX1) (N := 13) hx hb hwd inA_X1 tyX1 tyX1_ok nmX1 hown hK hP hD hS 0 rfl rfl 10 (by decide) (hwd _ wk_297) (fun _ h9 => h9) rfl hin rfl (by decide +kernel) rfl rfl (Nat.le_of_ble_eq_true rfl) dX1_init_34 (fun H locs hP hD hS => ?_)
  have hP : va_P (dC, dI) classes [(h0, .inr (1, [.null, .null, .null, .null, .null, .null, .ref q_379, .ref q_381, .ref q_383, .int 0, .ref q_385, .int 0, .int 0])), (lv, .inr (5, o5 gv))] H := hP
  have hD : va_D A [(h0, .inr (1, [.null, .null, .null, .null, .null, .null, .ref q_379, .ref q_381, .ref q_383, .int 0, .ref q_385, .int 0, .int 0])), (lv, .inr (5, o5 gv))] := hD
  refine lv_aload_n hx hb dX1_init_37 rfl (lv_at hl 0 rfl) ?_
  refine lv_aload_n hx hb dX1_init_38 rfl (lv_at hl 1 rfl) ?_
  refine va_putF (D := (dC, dI)) (ci := 1) (v := .ref pl) (ty := .object "PlanesBack$Planes") (C := RX1) (T := TX1) (N := 13) hx hb hwd inA_X1 tyX1 tyX1_ok nmX1 hown hK hP hD hS 0 rfl rfl 0 (by decide) (hwd _ wk_298) (fun _ h9 => h9) rfl hin rfl (by decide +kernel) rfl rfl (Nat.le_of_ble_eq_true rfl) dX1_init_39 (fun H locs hP hD hS => ?_)
  have hP : va_P (dC, dI) classes [(h0, .inr (1, [.ref pl, .null, .null, .null, .null, .null, .ref q_379, .ref q_381, .ref q_383, .int 0, .ref q_385, .int 0, .int 0])), (lv, .inr (5, o5 gv))] H := hP
  have hD : va_D A [(h0, .inr (1, [.ref pl, .null, .null, .null, .null, .null, .ref q_379, .ref q_381, .ref q_383, .int 0, .ref q_385, .int 0, .int 0])), (lv, .inr (5, o5 gv))] := hD
  refine lv_aload_n hx hb dX1_init_42 rfl (lv_at hl 0 rfl) ?_
  refine lv_aload_n hx hb dX1_init_43 rfl (lv_at hl 2 rfl) ?_
  refine va_putF (D := (dC, dI)) (ci := 1) (v := .ref lv) (ty := .object "PlanesBack$Lives") (C := RX1) (T := TX1) (N := 13) hx hb hwd inA_X1 tyX1 tyX1_ok nmX1 hown hK hP hD hS 0 rfl rfl 1 (by decide) (hwd _ wk_299) (fun _ h9 => h9) rfl hin rfl (by decide +kernel) rfl rfl (Nat.le_of_ble_eq_true rfl) dX1_init_44 (fun H locs hP hD hS => ?_)
  have hP : va_P (dC, dI) classes [(h0, .inr (1, [.ref pl, .ref lv, .null, .null, .null, .null, .ref q_379, .ref q_381, .ref q_383, .int 0, .ref q_385, .int 0, .int 0])), (lv, .inr (5, o5 gv))] H := hP
  have hD : va_D A [(h0, .inr (1, [.ref pl, .ref lv, .null, .null, .null, .null, .ref q_379, .ref q_381, .ref q_383, .int 0, .ref q_385, .int 0, .int 0])), (lv, .inr (5, o5 gv))] := hD
  refine lv_aload_n hx hb dX1_init_47 rfl (lv_at hl 0 rfl) ?_
  refine lv_aload_n hx hb dX1_init_48 rfl (lv_at hl 2 rfl) ?_
  refine va_get (D := (dC, dI)) (ci := 5) (v := .ref (gv 0)) (C := RX5) (T := TX5) (N := 6) hx hb hwd inA_X5 hown hK hP 1 rfl rfl 0 (by decide) (hwd _ wk_300) (fun _ h9 => h9) rfl dX1_init_49 ?_
  refine va_putF (D := (dC, dI)) (ci := 1) (v := .ref (gv 0)) (ty := .object "PlanesBack$Kinds") (C := RX1) (T := TX1) (N := 13) hx hb hwd inA_X1 tyX1 tyX1_ok nmX1 hown hK hP hD hS 0 rfl rfl 2 (by decide) (hwd _ wk_301) (fun _ h9 => h9) rfl hin rfl (by decide +kernel) rfl rfl (Nat.le_of_ble_eq_true rfl) dX1_init_52 (fun H locs hP hD hS => ?_)
  have hP : va_P (dC, dI) classes [(h0, .inr (1, [.ref pl, .ref lv, .ref (gv 0), .null, .null, .null, .ref q_379, .ref q_381, .ref q_383, .int 0, .ref q_385, .int 0, .int 0])), (lv, .inr (5, o5 gv))] H := hP
  have hD : va_D A [(h0, .inr (1, [.ref pl, .ref lv, .ref (gv 0), .null, .null, .null, .ref q_379, .ref q_381, .ref q_383, .int 0, .ref q_385, .int 0, .int 0])), (lv, .inr (5, o5 gv))] := hD
  refine lv_aload_n hx hb dX1_init_55 rfl (lv_at hl 0 rfl) ?_
  refine lv_aload_n hx hb dX1_init_56 rfl (lv_at hl 2 rfl) ?_
  refine va_get (D := (dC, dI)) (ci := 5) (v := .ref (gv 1)) (C := RX5) (T := TX5) (N := 6) hx hb hwd inA_X5 hown hK hP 1 rfl rfl 1 (by decide) (hwd _ wk_302) (fun _ h9 => h9) rfl dX1_init_57 ?_
  refine va_putF (D := (dC, dI)) (ci := 1) (v := .ref (gv 1)) (ty := .object "PlanesBack$Parts") (C := RX1) (T := TX1) (N := 13) hx hb hwd inA_X1 tyX1 tyX1_ok nmX1 hown hK hP hD hS 0 rfl rfl 3 (by decide) (hwd _ wk_303) (fun _ h9 => h9) rfl hin rfl (by decide +kernel) rfl rfl (Nat.le_of_ble_eq_true rfl) dX1_init_60 (fun H locs hP hD hS => ?_)
  have hP : va_P (dC, dI) classes [(h0, .inr (1, [.ref pl, .ref lv, .ref (gv 0), .ref (gv 1), .null, .null, .ref q_379, .ref q_381, .ref q_383, .int 0, .ref q_385, .int 0, .int 0])), (lv, .inr (5, o5 gv))] H := hP
  have hD : va_D A [(h0, .inr (1, [.ref pl, .ref lv, .ref (gv 0), .ref (gv 1), .null, .null, .ref q_379, .ref q_381, .ref q_383, .int 0, .ref q_385, .int 0, .int 0])), (lv, .inr (5, o5 gv))] := hD
  refine lv_aload_n hx hb dX1_init_63 rfl (lv_at hl 0 rfl) ?_
  refine lv_aload_n hx hb dX1_init_64 rfl (lv_at hl 3 rfl) ?_
  refine va_putF (D := (dC, dI)) (ci := 1) (v := .ref od) (ty := .object "PlanesBack$Orders") (C := RX1) (T := TX1) (N := 13) hx hb hwd inA_X1 tyX1 tyX1_ok nmX1 hown hK hP hD hS 0 rfl rfl 4 (by decide) (hwd _ wk_304) (fun _ h9 => h9) rfl hin rfl (by decide +kernel) rfl rfl (Nat.le_of_ble_eq_true rfl) dX1_init_65 (fun H locs hP hD hS => ?_)
  have hP : va_P (dC, dI) classes [(h0, .inr (1, [.ref pl, .ref lv, .ref (gv 0), .ref (gv 1), .ref od, .null, .ref q_379, .ref q_381, .ref q_383, .int 0, .ref q_385, .int 0, .int 0])), (lv, .inr (5, o5 gv))] H := hP
  have hD : va_D A [(h0, .inr (1, [.ref pl, .ref lv, .ref (gv 0), .ref (gv 1), .ref od, .null, .ref q_379, .ref q_381, .ref q_383, .int 0, .ref q_385, .int 0, .int 0])), (lv, .inr (5, o5 gv))] := hD
  refine lv_aload_n hx hb dX1_init_68 rfl (lv_at hl 0 rfl) ?_
  refine lv_aload hx hb dX1_init_69 (lv_at hl 4 rfl) ?_
  refine va_putF (D := (dC, dI)) (ci := 1) (v := .ref ct) (ty := .object "PlanesBack$Contracts") (C := RX1) (T := TX1) (N := 13) hx hb hwd inA_X1 tyX1 tyX1_ok nmX1 hown hK hP hD hS 0 rfl rfl 5 (by decide) (hwd _ wk_305) (fun _ h9 => h9) rfl hin rfl (by decide +kernel) rfl rfl (Nat.le_of_ble_eq_true rfl) dX1_init_71 (fun H locs hP hD hS => ?_)
  have hP : va_P (dC, dI) classes [(h0, .inr (1, [.ref pl, .ref lv, .ref (gv 0), .ref (gv 1), .ref od, .ref ct, .ref q_379, .ref q_381, .ref q_383, .int 0, .ref q_385, .int 0, .int 0])), (lv, .inr (5, o5 gv))] H := hP
  have hD : va_D A [(h0, .inr (1, [.ref pl, .ref lv, .ref (gv 0), .ref (gv 1), .ref od, .ref ct, .ref q_379, .ref q_381, .ref q_383, .int 0, .ref q_385, .int 0, .int 0])), (lv, .inr (5, o5 gv))] := hD
  exact W.vret hx hb hr (fun t ht hW => ⟨⟨(), rfl, trivial, trivial⟩, hS.F ht⟩) hS.2.2 dX1_init_74
set_option maxHeartbeats 4000000 in
set_option maxRecDepth 100000 in
theorem c_X11_init (l : Launch) (dC : Nat → ClassId) (dI : Nat → Nat → Nat) (h0 : Nat) (adK : Nat → Nat) (adV : Nat → Nat) (sz : Nat) : Met l yX11_init (Cond.code yX11_init cX11_init 1 none :: wA) ({ frames := 4, cells := 79, slots := 9326, locals := 160 }) (va_Pc [.ref h0] (fun U => U.heap.size = sz ∧ va_P (dC, dI) classes [(h0, .inr (11, [.null, .null, .null, .null, .null, .null, .null, .null, .null, .null, .null, .int 0, .int 0, .int 0]))] U.heap ∧ va_K (dC, dI) classes [] U ∧ va_D (fun _ => True) [(h0, .inr (11, [.null, .null, .null, .null, .null, .null, .null, .null, .null, .null, .null, .int 0, .int 0, .int 0]))] ∧ va_Nw (.methodLinkNest RX11 9 yX2_init "PlanesBack") U ∧ va_Nw (.methodLinkNest RX11 18 yX8_init "PlanesBack") U ∧ va_Nw (.methodLinkNest RX11 25 yX9_init "PlanesBack") U ∧ va_Nw (.methodLinkNest RX11 41 yX10_init "PlanesBack") U ∧ va_Nw (.methodLinkNest RX11 48 yX4_init "PlanesBack") U ∧ (Cond.arrayOver (.array .int)).before #[] U = true ∧ vk_R RX5 11 "dhlwkn" (adK 0) U ∧ vk_S 1 [6] [[100, 104, 108, 119, 107, 110]] adK adV (va_A [(h0, .inr (11, [.null, .null, .null, .null, .null, .null, .null, .null, .null, .null, .null, .int 0, .int 0, .int 0]))] sz) U U.heap ∧ va_Z "java/lang/String" "COMPACT_STRINGS" "Z" (.int 1) (va_A [(h0, .inr (11, [.null, .null, .null, .null, .null, .null, .null, .null, .null, .null, .null, .int 0, .int 0, .int 0]))] sz) U U.heap)) (va_Qv (fun _ : Unit => True) (fun (_ : Unit) (t : State) => ∃ (g : Nat → Nat), ∃ (gk : Nat → Nat), ∃ (ga : Nat → Nat), ∃ (gp : Nat → Nat), ∃ (gs : Nat → Nat), ∃ (gt : Nat → Nat), ∃ (gl : Nat → Nat), ∃ (go : Nat → Nat), ∃ (cd : Nat), ∃ (r : Nat → Nat), ∃ (ck1 : ClassId), ∃ (ck2 : ClassId), ∃ (ck3 : ClassId), ∃ (ca1 : ClassId), ∃ (ca4 : ClassId), ∃ (ca5 : ClassId), ∃ (ct1 : ClassId), ∃ (cl4 : ClassId), va_P (dC, dI) classes [(h0, .inr (11, o11 g)), (g 0, .inr (2, o2 gk)), (gk 1, .inl (ck1, 30, .inl (fun _ => 0))), (gk 2, .inl (ck2, 10, .inl (fun _ => 0))), (gk 3, .inl (ck3, 10, .inl (fun _ => 0))), (g 1, .inr (8, o8 ga)), (ga 1, .inl (ca1, 10, .inl (fun _ => 0))), (ga 4, .inl (ca4, 10, .inl (fun _ => 0))), (ga 5, .inl (ca5, 10, .inl (fun _ => 0))), (g 2, .inr (7, o7 gp)), (g 3, .inr (9, o9 gs)), (g 4, .inr (10, o10 gt)), (gt 1, .inl (ct1, 120, .inl (fun _ => 0))), (g 5, .inr (4, o4 gl)), (gl 4, .inl (cl4, 10, .inr (.inr (.inr (.inr (fun i => if i < 10 then some (r i) else none)))))), (g 6, .inr (3, [.ref (g 4), .ref cd, .int 0, .int 0, .int 0])), (g 7, .inr (6, o6 go))] t.heap ∧ va_K (dC, dI) classes [(ck1, .int), (ck2, .int), (ck3, .int), (ca1, .int), (ca4, .int), (ca5, .int), (ct1, .int), (cl4, (.array .int))] t ∧ va_D (va_A [(h0, .inr (11, [.null, .null, .null, .null, .null, .null, .null, .null, .null, .null, .null, .int 0, .int 0, .int 0]))] sz) [(h0, .inr (11, o11 g)), (g 0, .inr (2, o2 gk)), (gk 1, .inl (ck1, 30, .inl (fun _ => 0))), (gk 2, .inl (ck2, 10, .inl (fun _ => 0))), (gk 3, .inl (ck3, 10, .inl (fun _ => 0))), (g 1, .inr (8, o8 ga)), (ga 1, .inl (ca1, 10, .inl (fun _ => 0))), (ga 4, .inl (ca4, 10, .inl (fun _ => 0))), (ga 5, .inl (ca5, 10, .inl (fun _ => 0))), (g 2, .inr (7, o7 gp)), (g 3, .inr (9, o9 gs)), (g 4, .inr (10, o10 gt)), (gt 1, .inl (ct1, 120, .inl (fun _ => 0))), (g 5, .inr (4, o4 gl)), (gl 4, .inl (cl4, 10, .inr (.inr (.inr (.inr (fun i => if i < 10 then some (r i) else none)))))), (g 6, .inr (3, [.ref (g 4), .ref cd, .int 0, .int 0, .int 0])), (g 7, .inr (6, o6 go))]) (va_A [(h0, .inr (11, [.null, .null, .null, .null, .null, .null, .null, .null, .null, .null, .null, .int 0, .int 0, .int 0]))] sz)) 79 9326 (va_A [(h0, .inr (11, [.null, .null, .null, .null, .null, .null, .null, .null, .null, .null, .null, .int 0, .int 0, .int 0]))] sz) := by
  refine Met.ofW (cc := cX11_init) (maxL := 1) (ret := none) (by decide) rfl ?_
  intro p e s m args below meth c s₁ B hml hv
  obtain ⟨rfl, hsz, hP, hK, hD0, hNw9, hNw18, hNw25, hNw41, hNw48, hAOA, hSR, hSS, hSZ⟩ := hv
  have hx := B.exec
  have hb := B.bytes
  have hr := B.returns
  have hts := atoms_spec (ws := Cond.code yX11_init cX11_init 1 none :: wA) B.pre
  have hwd : ∀ w ∈ wA, w.before _ s = true := fun w h => hts w (List.mem_cons_of_mem _ h)
  have hown : s.vm.findClass RX11 = some m.cls := findClass_of_methodNamed B.named
  have hlocks := B.notSynchronized
  have hin : meth.name = "<init>" := (name_of_methodNamed B.named B.method).1
  subst hsz
  have hD := hD0.self (sz := s.heap.size)
  generalize hAe : va_A [(h0, .inr (11, [.null, .null, .null, .null, .null, .null, .null, .null, .null, .null, .null, .int 0, .int 0, .int 0]))] s.heap.size = A at hD hSS hSZ ⊢
  have hA : ∀ q : Nat, s.heap.size ≤ q → A q := fun q h => by rw [← hAe]; exact Or.inr h
  have hS : va_S A s.heap s.heap [] := va_S.rf
  have hP : va_P (dC, dI) classes [(h0, .inr (11, [.null, .null, .null, .null, .null, .null, .null, .null, .null, .null, .null, .int 0, .int 0, .int 0]))] s.heap := hP
  have hl := lv_entry ([.ref h0]) (n := 1) (Nat.le_of_ble_eq_true rfl)
  rw [lg_entry_eq]
  generalize (lg_sl ([.ref h0]) ++ List.replicate (1 - (lg_sl ([.ref h0])).length) Slot.unset).toArray = ls at hl ⊢
  have hl : lv_has ls 1 [(0, .ref h0)] := hl
  obtain ⟨H, eH⟩ : ∃ z, z = s.heap := ⟨_, rfl⟩
  have hP : va_P (dC, dI) classes [(h0, .inr (11, [.null, .null, .null, .null, .null, .null, .null, .null, .null, .null, .null, .int 0, .int 0, .int 0]))] H := by rw [eH]; exact hP
  have hS : va_S A s.heap H [] := by rw [eH]; exact va_S.rf
  refine my_heap eH ?_
  refine lv_aload_n hx hb dX11_init_0 rfl (lv_at hl 0 rfl) ?_
  refine W.objInit hx hb hown (hwd _ wk_306) (hwd _ wk_222) (hwd _ wk_223) rfl (by rw [hml]; exact hl.1) rfl dX11_init_1 (Nat.le_of_ble_eq_true rfl) (Nat.le_of_ble_eq_true rfl) ?_
  refine W.eq (g2 := F0 m 4 ls []) rfl ?_
  refine lv_aload_n hx hb dX11_init_4 rfl (lv_at hl 0 rfl) ?_
  refine va_new (ci := 2) (fs := [.int 0, .null, .null, .null]) (C := RX2) (T := TX2) (N := 4) hx hb hwd inA_X2 tyX2 tyX2_ok hown (hwd _ wk_307) (hwd _ wk_308) (hwd _ wk_34) hK hP hD hS hA rfl dvX2 (Nat.le_of_ble_eq_true rfl) (Nat.le_of_ble_eq_true rfl) dX11_init_5 (fun q_387 H hP hD hS => ?_)
  have hP : va_P (dC, dI) classes [(h0, .inr (11, [.null, .null, .null, .null, .null, .null, .null, .null, .null, .null, .null, .int 0, .int 0, .int 0])), (q_387, .inr (2, [.int 0, .null, .null, .null]))] H := hP
  have hD : va_D A [(h0, .inr (11, [.null, .null, .null, .null, .null, .null, .null, .null, .null, .null, .null, .int 0, .int 0, .int 0])), (q_387, .inr (2, [.int 0, .null, .null, .null]))] := hD
  refine W.widen (k := 1) (n := 4) (Nat.le_of_ble_eq_true rfl) (Nat.le_of_ble_eq_true rfl) ?_
  refine lv_dup hx hb dX11_init_8 rfl ?_
  have hPc := hP.sub (ws' := [(q_387, .inr (2, [.int 0, .null, .null, .null]))]) [1] rfl
  have hDc := hD.sub (ws' := [(q_387, .inr (2, [.int 0, .null, .null, .null]))]) [1] (by decide) rfl
  have hKc := hK.sub (tys' := []) [] rfl
  have hFc := va_free (wc := [(q_387, .inr (2, [.int 0, .null, .null, .null]))]) hD hS hA [1] rfl
  refine va_callv (va_runIN (As := []) (rest := [.ref q_387, .ref h0]) ⟨hx, hb, hml, hown, hwd⟩ (c_X2_init l dC dI q_387 H.size) ⟨va_cnB 0 hwd (gS wk_309) rfl rfl rfl hNw9 (hwd _ wk_34) (by decide +kernel) ⟨Nat.le_of_ble_eq_true rfl, Nat.le_of_ble_eq_true rfl⟩, rfl, hwd _ wk_310⟩ ⟨fun a U g mk q => by obtain ⟨q0, q1, qP, qK, qD⟩ := q; exact ⟨q0, q1, qP, va_K.moved (u := U) (U := U.calling g mk a) (Vm.Alike.refl U.vm) qK, qD⟩, fun U hU hW => ⟨rfl, by rw [hU], by rw [hU]; exact hPc, va_K.moved hW.alike hKc, hDc.weaken (fun _ _ _ _ => trivial)⟩⟩ rfl rfl hl.1 rfl (lv_room (Nat.le_of_ble_eq_true rfl)) dX11_init_9 ⟨Nat.le_of_ble_eq_true rfl, Nat.le_of_ble_eq_true rfl⟩) hS (fun q _ h => hFc q h) hFc (fun u t H1 locs ht hvm hw hB hz1 hk1 hS => ?_)
  obtain ⟨gz_388, c1_389, c2_390, c3_391, hP1, hK1, hD1⟩ := hB
  rw [ht] at hP1
  have hK1 := va_K.moved hvm.symm hK1
  have hK : va_K (dC, dI) classes [(c1_389, .int), (c2_390, .int), (c3_391, .int)] s := hK.app hK1
  obtain ⟨hP, hD⟩ := va_join (wr := [(h0, .inr (11, [.null, .null, .null, .null, .null, .null, .null, .null, .null, .null, .null, .int 0, .int 0, .int 0]))]) (w1 := [(q_387, .inr (2, o2 gz_388)), (gz_388 1, .inl (c1_389, 30, .inl (fun _ => 0))), (gz_388 2, .inl (c2_390, 10, .inl (fun _ => 0))), (gz_388 3, .inl (c3_391, 10, .inl (fun _ => 0)))]) hP hD [1] [0] rfl rfl (by decide) (by decide) hk1 hFc hP1 hD1
  generalize H1 = H at hP hS ⊢
  have hP : va_P (dC, dI) classes [(h0, .inr (11, [.null, .null, .null, .null, .null, .null, .null, .null, .null, .null, .null, .int 0, .int 0, .int 0])), (q_387, .inr (2, o2 gz_388)), (gz_388 1, .inl (c1_389, 30, .inl (fun _ => 0))), (gz_388 2, .inl (c2_390, 10, .inl (fun _ => 0))), (gz_388 3, .inl (c3_391, 10, .inl (fun _ => 0)))] H := hP
  have hD : va_D A [(h0, .inr (11, [.null, .null, .null, .null, .null, .null, .null, .null, .null, .null, .null, .int 0, .int 0, .int 0])), (q_387, .inr (2, o2 gz_388)), (gz_388 1, .inl (c1_389, 30, .inl (fun _ => 0))), (gz_388 2, .inl (c2_390, 10, .inl (fun _ => 0))), (gz_388 3, .inl (c3_391, 10, .inl (fun _ => 0)))] := hD
  refine W.widen (k := 4) (n := 54) (Nat.le_of_ble_eq_true rfl) (Nat.le_of_ble_eq_true rfl) ?_
  refine va_putF (D := (dC, dI)) (ci := 11) (v := .ref q_387) (ty := .object "PlanesBack$Kinds") (C := RX11) (T := TX11) (N := 14) hx hb hwd inA_X11 tyX11 tyX11_ok nmX11 hown hK hP hD hS 0 rfl rfl 0 (by decide) (hwd _ wk_29) (fun _ h9 => h9) rfl hin rfl (by decide +kernel) rfl rfl (Nat.le_of_ble_eq_true rfl) dX11_init_12 (fun H locs hP hD hS => ?_)
  have hP : va_P (dC, dI) classes [(h0, .inr (11, [.ref q_387, .null, .null, .null, .null, .null, .null, .null, .null, .null, .null, .int 0, .int 0, .int 0])), (q_387, .inr (2, o2 gz_388)), (gz_388 1, .inl (c1_389, 30, .inl (fun _ => 0))), (gz_388 2, .inl (c2_390, 10, .inl (fun _ => 0))), (gz_388 3, .inl (c3_391, 10, .inl (fun _ => 0)))] H := hP
  have hD : va_D A [(h0, .inr (11, [.ref q_387, .null, .null, .null, .null, .null, .null, .null, .null, .null, .null, .int 0, .int 0, .int 0])), (q_387, .inr (2, o2 gz_388)), (gz_388 1, .inl (c1_389, 30, .inl (fun _ => 0))), (gz_388 2, .inl (c2_390, 10, .inl (fun _ => 0))), (gz_388 3, .inl (c3_391, 10, .inl (fun _ => 0)))] := hD
  refine lv_aload_n hx hb dX11_init_15 rfl (lv_at hl 0 rfl) ?_
  refine va_new (ci := 8) (fs := [.int 0, .null, .null, .null, .null, .null, .null, .null, .null, .null]) (C := RX8) (T := TX8) (N := 10) hx hb hwd inA_X8 tyX8 tyX8_ok hown (hwd _ wk_311) (hwd _ wk_312) (hwd _ wk_27) hK hP hD hS hA rfl dvX8 (Nat.le_of_ble_eq_true rfl) (Nat.le_of_ble_eq_true rfl) dX11_init_16 (fun q_393 H hP hD hS => ?_)
  have hP : va_P (dC, dI) classes [(h0, .inr (11, [.ref q_387, .null, .null, .null, .null, .null, .null, .null, .null, .null, .null, .int 0, .int 0, .int 0])), (q_387, .inr (2, o2 gz_388)), (gz_388 1, .inl (c1_389, 30, .inl (fun _ => 0))), (gz_388 2, .inl (c2_390, 10, .inl (fun _ => 0))), (gz_388 3, .inl (c3_391, 10, .inl (fun _ => 0))), (q_393, .inr (8, [.int 0, .null, .null, .null, .null, .null, .null, .null, .null, .null]))] H := hP
  have hD : va_D A [(h0, .inr (11, [.ref q_387, .null, .null, .null, .null, .null, .null, .null, .null, .null, .null, .int 0, .int 0, .int 0])), (q_387, .inr (2, o2 gz_388)), (gz_388 1, .inl (c1_389, 30, .inl (fun _ => 0))), (gz_388 2, .inl (c2_390, 10, .inl (fun _ => 0))), (gz_388 3, .inl (c3_391, 10, .inl (fun _ => 0))), (q_393, .inr (8, [.int 0, .null, .null, .null, .null, .null, .null, .null, .null, .null]))] := hD
  refine W.widen (k := 5) (n := 64) (Nat.le_of_ble_eq_true rfl) (Nat.le_of_ble_eq_true rfl) ?_
  refine lv_dup hx hb dX11_init_19 rfl ?_
  have hPc := hP.sub (ws' := [(q_393, .inr (8, [.int 0, .null, .null, .null, .null, .null, .null, .null, .null, .null]))]) [5] rfl
  have hDc := hD.sub (ws' := [(q_393, .inr (8, [.int 0, .null, .null, .null, .null, .null, .null, .null, .null, .null]))]) [5] (by decide) rfl
  have hKc := hK.sub (tys' := []) [] rfl
  have hFc := va_free (wc := [(q_393, .inr (8, [.int 0, .null, .null, .null, .null, .null, .null, .null, .null, .null]))]) hD hS hA [5] rfl
  refine va_callv (va_runIN (As := []) (rest := [.ref q_393, .ref h0]) ⟨hx, hb, hml, hown, hwd⟩ (c_X8_init l dC dI q_393 H.size) ⟨va_cnB 0 hwd (gS wk_313) rfl rfl rfl hNw18 (hwd _ wk_27) (by decide +kernel) ⟨Nat.le_of_ble_eq_true rfl, Nat.le_of_ble_eq_true rfl⟩, rfl, hwd _ wk_314⟩ ⟨fun a U g mk q => by obtain ⟨q0, q1, qP, qK, qD⟩ := q; exact ⟨q0, q1, qP, va_K.moved (u := U) (U := U.calling g mk a) (Vm.Alike.refl U.vm) qK, qD⟩, fun U hU hW => ⟨rfl, by rw [hU], by rw [hU]; exact hPc, va_K.moved hW.alike hKc, hDc.weaken (fun _ _ _ _ => trivial)⟩⟩ rfl rfl hl.1 rfl (lv_room (Nat.le_of_ble_eq_true rfl)) dX11_init_20 ⟨Nat.le_of_ble_eq_true rfl, Nat.le_of_ble_eq_true rfl⟩) hS (fun q _ h => hFc q h) hFc (fun u t H1 locs ht hvm hw hB hz1 hk1 hS => ?_)
  obtain ⟨gz_394, c1_395, c4_396, c5_397, hP1, hK1, hD1⟩ := hB
  rw [ht] at hP1
  have hK1 := va_K.moved hvm.symm hK1
  have hK : va_K (dC, dI) classes [(c1_389, .int), (c2_390, .int), (c3_391, .int), (c1_395, .int), (c4_396, .int), (c5_397, .int)] s := hK.app hK1
  obtain ⟨hP, hD⟩ := va_join (wr := [(h0, .inr (11, [.ref q_387, .null, .null, .null, .null, .null, .null, .null, .null, .null, .null, .int 0, .int 0, .int 0])), (q_387, .inr (2, o2 gz_388)), (gz_388 1, .inl (c1_389, 30, .inl (fun _ => 0))), (gz_388 2, .inl (c2_390, 10, .inl (fun _ => 0))), (gz_388 3, .inl (c3_391, 10, .inl (fun _ => 0)))]) (w1 := [(q_393, .inr (8, o8 gz_394)), (gz_394 1, .inl (c1_395, 10, .inl (fun _ => 0))), (gz_394 4, .inl (c4_396, 10, .inl (fun _ => 0))), (gz_394 5, .inl (c5_397, 10, .inl (fun _ => 0)))]) hP hD [5] [0, 1, 2, 3, 4] rfl rfl (by decide) (by decide) hk1 hFc hP1 hD1
  generalize H1 = H at hP hS ⊢
  have hP : va_P (dC, dI) classes [(h0, .inr (11, [.ref q_387, .null, .null, .null, .null, .null, .null, .null, .null, .null, .null, .int 0, .int 0, .int 0])), (q_387, .inr (2, o2 gz_388)), (gz_388 1, .inl (c1_389, 30, .inl (fun _ => 0))), (gz_388 2, .inl (c2_390, 10, .inl (fun _ => 0))), (gz_388 3, .inl (c3_391, 10, .inl (fun _ => 0))), (q_393, .inr (8, o8 gz_394)), (gz_394 1, .inl (c1_395, 10, .inl (fun _ => 0))), (gz_394 4, .inl (c4_396, 10, .inl (fun _ => 0))), (gz_394 5, .inl (c5_397, 10, .inl (fun _ => 0)))] H := hP
  have hD : va_D A [(h0, .inr (11, [.ref q_387, .null, .null, .null, .null, .null, .null, .null, .null, .null, .null, .int 0, .int 0, .int 0])), (q_387, .inr (2, o2 gz_388)), (gz_388 1, .inl (c1_389, 30, .inl (fun _ => 0))), (gz_388 2, .inl (c2_390, 10, .inl (fun _ => 0))), (gz_388 3, .inl (c3_391, 10, .inl (fun _ => 0))), (q_393, .inr (8, o8 gz_394)), (gz_394 1, .inl (c1_395, 10, .inl (fun _ => 0))), (gz_394 4, .inl (c4_396, 10, .inl (fun _ => 0))), (gz_394 5, .inl (c5_397, 10, .inl (fun _ => 0)))] := hD
  refine W.widen (k := 14) (n := 364) (Nat.le_of_ble_eq_true rfl) (Nat.le_of_ble_eq_true rfl) ?_
  refine va_putF (D := (dC, dI)) (ci := 11) (v := .ref q_393) (ty := .object "PlanesBack$Planes") (C := RX11) (T := TX11) (N := 14) hx hb hwd inA_X11 tyX11 tyX11_ok nmX11 hown hK hP hD hS 0 rfl rfl 1 (by decide) (hwd _ wk_22) (fun _ h9 => h9) rfl hin rfl (by decide +kernel) rfl rfl (Nat.le_of_ble_eq_true rfl) dX11_init_23 (fun H locs hP hD hS => ?_)
  have hP : va_P (dC, dI) classes [(h0, .inr (11, [.ref q_387, .ref q_393, .null, .null, .null, .null, .null, .null, .null, .null, .null, .int 0, .int 0, .int 0])), (q_387, .inr (2, o2 gz_388)), (gz_388 1, .inl (c1_389, 30, .inl (fun _ => 0))), (gz_388 2, .inl (c2_390, 10, .inl (fun _ => 0))), (gz_388 3, .inl (c3_391, 10, .inl (fun _ => 0))), (q_393, .inr (8, o8 gz_394)), (gz_394 1, .inl (c1_395, 10, .inl (fun _ => 0))), (gz_394 4, .inl (c4_396, 10, .inl (fun _ => 0))), (gz_394 5, .inl (c5_397, 10, .inl (fun _ => 0)))] H := hP
  have hD : va_D A [(h0, .inr (11, [.ref q_387, .ref q_393, .null, .null, .null, .null, .null, .null, .null, .null, .null, .int 0, .int 0, .int 0])), (q_387, .inr (2, o2 gz_388)), (gz_388 1, .inl (c1_389, 30, .inl (fun _ => 0))), (gz_388 2, .inl (c2_390, 10, .inl (fun _ => 0))), (gz_388 3, .inl (c3_391, 10, .inl (fun _ => 0))), (q_393, .inr (8, o8 gz_394)), (gz_394 1, .inl (c1_395, 10, .inl (fun _ => 0))), (gz_394 4, .inl (c4_396, 10, .inl (fun _ => 0))), (gz_394 5, .inl (c5_397, 10, .inl (fun _ => 0)))] := hD
  refine lv_aload_n hx hb dX11_init_26 rfl (lv_at hl 0 rfl) ?_
  refine va_new (ci := 9) (fs := [.int 0, .null, .null, .null, .null, .null, .null, .null, .null, .null, .null]) (C := RX9) (T := TX9) (N := 11) hx hb hwd inA_X9 tyX9 tyX9_ok hown (hwd _ wk_315) (hwd _ wk_316) (hwd _ wk_317) hK hP hD hS hA rfl dvX9 (Nat.le_of_ble_eq_true rfl) (Nat.le_of_ble_eq_true rfl) dX11_init_27 (fun q_399 H hP hD hS => ?_)
  have hP : va_P (dC, dI) classes [(h0, .inr (11, [.ref q_387, .ref q_393, .null, .null, .null, .null, .null, .null, .null, .null, .null, .int 0, .int 0, .int 0])), (q_387, .inr (2, o2 gz_388)), (gz_388 1, .inl (c1_389, 30, .inl (fun _ => 0))), (gz_388 2, .inl (c2_390, 10, .inl (fun _ => 0))), (gz_388 3, .inl (c3_391, 10, .inl (fun _ => 0))), (q_393, .inr (8, o8 gz_394)), (gz_394 1, .inl (c1_395, 10, .inl (fun _ => 0))), (gz_394 4, .inl (c4_396, 10, .inl (fun _ => 0))), (gz_394 5, .inl (c5_397, 10, .inl (fun _ => 0))), (q_399, .inr (9, [.int 0, .null, .null, .null, .null, .null, .null, .null, .null, .null, .null]))] H := hP
  have hD : va_D A [(h0, .inr (11, [.ref q_387, .ref q_393, .null, .null, .null, .null, .null, .null, .null, .null, .null, .int 0, .int 0, .int 0])), (q_387, .inr (2, o2 gz_388)), (gz_388 1, .inl (c1_389, 30, .inl (fun _ => 0))), (gz_388 2, .inl (c2_390, 10, .inl (fun _ => 0))), (gz_388 3, .inl (c3_391, 10, .inl (fun _ => 0))), (q_393, .inr (8, o8 gz_394)), (gz_394 1, .inl (c1_395, 10, .inl (fun _ => 0))), (gz_394 4, .inl (c4_396, 10, .inl (fun _ => 0))), (gz_394 5, .inl (c5_397, 10, .inl (fun _ => 0))), (q_399, .inr (9, [.int 0, .null, .null, .null, .null, .null, .null, .null, .null, .null, .null]))] := hD
  refine W.widen (k := 15) (n := 375) (Nat.le_of_ble_eq_true rfl) (Nat.le_of_ble_eq_true rfl) ?_
  refine lv_dup hx hb dX11_init_30 rfl ?_
  have hPc := hP.sub (ws' := [(q_399, .inr (9, [.int 0, .null, .null, .null, .null, .null, .null, .null, .null, .null, .null]))]) [9] rfl
  have hDc := hD.sub (ws' := [(q_399, .inr (9, [.int 0, .null, .null, .null, .null, .null, .null, .null, .null, .null, .null]))]) [9] (by decide) rfl
  have hKc := hK.sub (tys' := []) [] rfl
  have hFc := va_free (wc := [(q_399, .inr (9, [.int 0, .null, .null, .null, .null, .null, .null, .null, .null, .null, .null]))]) hD hS hA [9] rfl
  refine va_callv (va_runIN (As := []) (rest := [.ref q_399, .ref h0]) ⟨hx, hb, hml, hown, hwd⟩ (c_X9_init l dC dI q_399 H.size) ⟨va_cnB 0 hwd (gS wk_318) rfl rfl rfl hNw25 (hwd _ wk_317) (by decide +kernel) ⟨Nat.le_of_ble_eq_true rfl, Nat.le_of_ble_eq_true rfl⟩, rfl, hwd _ wk_319⟩ ⟨fun a U g mk q => by obtain ⟨q0, q1, qP, qK, qD⟩ := q; exact ⟨q0, q1, qP, va_K.moved (u := U) (U := U.calling g mk a) (Vm.Alike.refl U.vm) qK, qD⟩, fun U hU hW => ⟨rfl, by rw [hU], by rw [hU]; exact hPc, va_K.moved hW.alike hKc, hDc.weaken (fun _ _ _ _ => trivial)⟩⟩ rfl rfl hl.1 rfl (lv_room (Nat.le_of_ble_eq_true rfl)) dX11_init_31 ⟨Nat.le_of_ble_eq_true rfl, Nat.le_of_ble_eq_true rfl⟩) hS (fun q _ h => hFc q h) hFc (fun u t H1 locs ht hvm hw hB hz1 hk1 hS => ?_)
  obtain ⟨gz_400, hP1, hK1, hD1⟩ := hB
  rw [ht] at hP1
  obtain ⟨hP, hD⟩ := va_join (wr := [(h0, .inr (11, [.ref q_387, .ref q_393, .null, .null, .null, .null, .null, .null, .null, .null, .null, .int 0, .int 0, .int 0])), (q_387, .inr (2, o2 gz_388)), (gz_388 1, .inl (c1_389, 30, .inl (fun _ => 0))), (gz_388 2, .inl (c2_390, 10, .inl (fun _ => 0))), (gz_388 3, .inl (c3_391, 10, .inl (fun _ => 0))), (q_393, .inr (8, o8 gz_394)), (gz_394 1, .inl (c1_395, 10, .inl (fun _ => 0))), (gz_394 4, .inl (c4_396, 10, .inl (fun _ => 0))), (gz_394 5, .inl (c5_397, 10, .inl (fun _ => 0)))]) (w1 := [(q_399, .inr (9, o9 gz_400))]) hP hD [9] [0, 1, 2, 3, 4, 5, 6, 7, 8] rfl rfl (by decide) (by decide) hk1 hFc hP1 hD1
  generalize H1 = H at hP hS ⊢
  have hP : va_P (dC, dI) classes [(h0, .inr (11, [.ref q_387, .ref q_393, .null, .null, .null, .null, .null, .null, .null, .null, .null, .int 0, .int 0, .int 0])), (q_387, .inr (2, o2 gz_388)), (gz_388 1, .inl (c1_389, 30, .inl (fun _ => 0))), (gz_388 2, .inl (c2_390, 10, .inl (fun _ => 0))), (gz_388 3, .inl (c3_391, 10, .inl (fun _ => 0))), (q_393, .inr (8, o8 gz_394)), (gz_394 1, .inl (c1_395, 10, .inl (fun _ => 0))), (gz_394 4, .inl (c4_396, 10, .inl (fun _ => 0))), (gz_394 5, .inl (c5_397, 10, .inl (fun _ => 0))), (q_399, .inr (9, o9 gz_400))] H := hP
  have hD : va_D A [(h0, .inr (11, [.ref q_387, .ref q_393, .null, .null, .null, .null, .null, .null, .null, .null, .null, .int 0, .int 0, .int 0])), (q_387, .inr (2, o2 gz_388)), (gz_388 1, .inl (c1_389, 30, .inl (fun _ => 0))), (gz_388 2, .inl (c2_390, 10, .inl (fun _ => 0))), (gz_388 3, .inl (c3_391, 10, .inl (fun _ => 0))), (q_393, .inr (8, o8 gz_394)), (gz_394 1, .inl (c1_395, 10, .inl (fun _ => 0))), (gz_394 4, .inl (c4_396, 10, .inl (fun _ => 0))), (gz_394 5, .inl (c5_397, 10, .inl (fun _ => 0))), (q_399, .inr (9, o9 gz_400))] := hD
  refine W.widen (k := 25) (n := 4975) (Nat.le_of_ble_eq_true rfl) (Nat.le_of_ble_eq_true rfl) ?_
  refine va_putF (D := (dC, dI)) (ci := 11) (v := .ref q_399) (ty := .object "PlanesBack$Stays") (C := RX11) (T := TX11) (N := 14) hx hb hwd inA_X11 tyX11 tyX11_ok nmX11 hown hK hP hD hS 0 rfl rfl 3 (by decide) (hwd _ wk_204) (fun _ h9 => h9) rfl hin rfl (by decide +kernel) rfl rfl (Nat.le_of_ble_eq_true rfl) dX11_init_34 (fun H locs hP hD hS => ?_)
  have hP : va_P (dC, dI) classes [(h0, .inr (11, [.ref q_387, .ref q_393, .null, .ref q_399, .null, .null, .null, .null, .null, .null, .null, .int 0, .int 0, .int 0])), (q_387, .inr (2, o2 gz_388)), (gz_388 1, .inl (c1_389, 30, .inl (fun _ => 0))), (gz_388 2, .inl (c2_390, 10, .inl (fun _ => 0))), (gz_388 3, .inl (c3_391, 10, .inl (fun _ => 0))), (q_393, .inr (8, o8 gz_394)), (gz_394 1, .inl (c1_395, 10, .inl (fun _ => 0))), (gz_394 4, .inl (c4_396, 10, .inl (fun _ => 0))), (gz_394 5, .inl (c5_397, 10, .inl (fun _ => 0))), (q_399, .inr (9, o9 gz_400))] H := hP
  have hD : va_D A [(h0, .inr (11, [.ref q_387, .ref q_393, .null, .ref q_399, .null, .null, .null, .null, .null, .null, .null, .int 0, .int 0, .int 0])), (q_387, .inr (2, o2 gz_388)), (gz_388 1, .inl (c1_389, 30, .inl (fun _ => 0))), (gz_388 2, .inl (c2_390, 10, .inl (fun _ => 0))), (gz_388 3, .inl (c3_391, 10, .inl (fun _ => 0))), (q_393, .inr (8, o8 gz_394)), (gz_394 1, .inl (c1_395, 10, .inl (fun _ => 0))), (gz_394 4, .inl (c4_396, 10, .inl (fun _ => 0))), (gz_394 5, .inl (c5_397, 10, .inl (fun _ => 0))), (q_399, .inr (9, o9 gz_400))] := hD
  refine lv_aload_n hx hb dX11_init_37 rfl (lv_at hl 0 rfl) ?_
  refine va_new (ci := 7) (fs := [.null, .int 0, .null, .null, .null, .null, .null]) (C := RX7) (T := TX7) (N := 7) hx hb hwd inA_X7 tyX7 tyX7_ok hown (hwd _ wk_320) (hwd _ wk_321) (hwd _ wk_21) hK hP hD hS hA rfl dvX7 (Nat.le_of_ble_eq_true rfl) (Nat.le_of_ble_eq_true rfl) dX11_init_38 (fun q_402 H hP hD hS => ?_)
  have hP : va_P (dC, dI) classes [(h0, .inr (11, [.ref q_387, .ref q_393, .null, .ref q_399, .null, .null, .null, .null, .null, .null, .null, .int 0, .int 0, .int 0])), (q_387, .inr (2, o2 gz_388)), (gz_388 1, .inl (c1_389, 30, .inl (fun _ => 0))), (gz_388 2, .inl (c2_390, 10, .inl (fun _ => 0))), (gz_388 3, .inl (c3_391, 10, .inl (fun _ => 0))), (q_393, .inr (8, o8 gz_394)), (gz_394 1, .inl (c1_395, 10, .inl (fun _ => 0))), (gz_394 4, .inl (c4_396, 10, .inl (fun _ => 0))), (gz_394 5, .inl (c5_397, 10, .inl (fun _ => 0))), (q_399, .inr (9, o9 gz_400)), (q_402, .inr (7, [.null, .int 0, .null, .null, .null, .null, .null]))] H := hP
  have hD : va_D A [(h0, .inr (11, [.ref q_387, .ref q_393, .null, .ref q_399, .null, .null, .null, .null, .null, .null, .null, .int 0, .int 0, .int 0])), (q_387, .inr (2, o2 gz_388)), (gz_388 1, .inl (c1_389, 30, .inl (fun _ => 0))), (gz_388 2, .inl (c2_390, 10, .inl (fun _ => 0))), (gz_388 3, .inl (c3_391, 10, .inl (fun _ => 0))), (q_393, .inr (8, o8 gz_394)), (gz_394 1, .inl (c1_395, 10, .inl (fun _ => 0))), (gz_394 4, .inl (c4_396, 10, .inl (fun _ => 0))), (gz_394 5, .inl (c5_397, 10, .inl (fun _ => 0))), (q_399, .inr (9, o9 gz_400)), (q_402, .inr (7, [.null, .int 0, .null, .null, .null, .null, .null]))] := hD
  refine W.widen (k := 26) (n := 4982) (Nat.le_of_ble_eq_true rfl) (Nat.le_of_ble_eq_true rfl) ?_
  refine lv_dup hx hb dX11_init_41 rfl ?_
  refine lv_aload_n hx hb dX11_init_42 rfl (lv_at hl 0 rfl) ?_
  refine va_get (D := (dC, dI)) (ci := 11) (v := .ref q_399) (C := RX11) (T := TX11) (N := 14) hx hb hwd inA_X11 hown hK hP 0 rfl rfl 3 (by decide) (hwd _ wk_204) (fun _ h9 => h9) rfl dX11_init_43 ?_
  have hPc := hP.sub (ws' := [(q_402, .inr (7, [.null, .int 0, .null, .null, .null, .null, .null]))]) [10] rfl
  have hDc := hD.sub (ws' := [(q_402, .inr (7, [.null, .int 0, .null, .null, .null, .null, .null]))]) [10] (by decide) rfl
  have hKc := hK.sub (tys' := []) [] rfl
  have hFc := va_free (wc := [(q_402, .inr (7, [.null, .int 0, .null, .null, .null, .null, .null]))]) hD hS hA [10] rfl
  refine va_callv (va_runI (As := [.ref q_399]) (rest := [.ref q_402, .ref h0]) ⟨hx, hb, hml, hown, hwd⟩ (c_X7_init l dC dI q_402 q_399 H.size) (cwI 1 hwd (gS wk_322) rfl rfl rfl (hwd _ wk_21) (hwd _ wk_323) (hwd _ wk_324) rfl (by decide +kernel) ⟨Nat.le_of_ble_eq_true rfl, Nat.le_of_ble_eq_true rfl⟩) ⟨fun a U g mk q => by obtain ⟨q0, q1, qP, qK, qD⟩ := q; exact ⟨q0, q1, qP, va_K.moved (u := U) (U := U.calling g mk a) (Vm.Alike.refl U.vm) qK, qD⟩, fun U hU hW => ⟨rfl, by rw [hU], by rw [hU]; exact hPc, va_K.moved hW.alike hKc, hDc.weaken (fun _ _ _ _ => trivial)⟩⟩ rfl rfl hl.1 rfl (lv_room (Nat.le_of_ble_eq_true rfl)) dX11_init_46 ⟨Nat.le_of_ble_eq_true rfl, Nat.le_of_ble_eq_true rfl⟩) hS (fun q _ h => hFc q h) hFc (fun u t H1 locs ht hvm hw hB hz1 hk1 hS => ?_)
  obtain ⟨gz_403, hP1, hK1, hD1⟩ := hB
  rw [ht] at hP1
  obtain ⟨hP, hD⟩ := va_join (wr := [(h0, .inr (11, [.ref q_387, .ref q_393, .null, .ref q_399, .null, .null, .null, .null, .null, .null, .null, .int 0, .int 0, .int 0])), (q_387, .inr (2, o2 gz_388)), (gz_388 1, .inl (c1_389, 30, .inl (fun _ => 0))), (gz_388 2, .inl (c2_390, 10, .inl (fun _ => 0))), (gz_388 3, .inl (c3_391, 10, .inl (fun _ => 0))), (q_393, .inr (8, o8 gz_394)), (gz_394 1, .inl (c1_395, 10, .inl (fun _ => 0))), (gz_394 4, .inl (c4_396, 10, .inl (fun _ => 0))), (gz_394 5, .inl (c5_397, 10, .inl (fun _ => 0))), (q_399, .inr (9, o9 gz_400))]) (w1 := [(q_402, .inr (7, o7 gz_403))]) hP hD [10] [0, 1, 2, 3, 4, 5, 6, 7, 8, 9] rfl rfl (by decide) (by decide) hk1 hFc hP1 hD1
  generalize H1 = H at hP hS ⊢
  have hP : va_P (dC, dI) classes [(h0, .inr (11, [.ref q_387, .ref q_393, .null, .ref q_399, .null, .null, .null, .null, .null, .null, .null, .int 0, .int 0, .int 0])), (q_387, .inr (2, o2 gz_388)), (gz_388 1, .inl (c1_389, 30, .inl (fun _ => 0))), (gz_388 2, .inl (c2_390, 10, .inl (fun _ => 0))), (gz_388 3, .inl (c3_391, 10, .inl (fun _ => 0))), (q_393, .inr (8, o8 gz_394)), (gz_394 1, .inl (c1_395, 10, .inl (fun _ => 0))), (gz_394 4, .inl (c4_396, 10, .inl (fun _ => 0))), (gz_394 5, .inl (c5_397, 10, .inl (fun _ => 0))), (q_399, .inr (9, o9 gz_400)), (q_402, .inr (7, o7 gz_403))] H := hP
  have hD : va_D A [(h0, .inr (11, [.ref q_387, .ref q_393, .null, .ref q_399, .null, .null, .null, .null, .null, .null, .null, .int 0, .int 0, .int 0])), (q_387, .inr (2, o2 gz_388)), (gz_388 1, .inl (c1_389, 30, .inl (fun _ => 0))), (gz_388 2, .inl (c2_390, 10, .inl (fun _ => 0))), (gz_388 3, .inl (c3_391, 10, .inl (fun _ => 0))), (q_393, .inr (8, o8 gz_394)), (gz_394 1, .inl (c1_395, 10, .inl (fun _ => 0))), (gz_394 4, .inl (c4_396, 10, .inl (fun _ => 0))), (gz_394 5, .inl (c5_397, 10, .inl (fun _ => 0))), (q_399, .inr (9, o9 gz_400)), (q_402, .inr (7, o7 gz_403))] := hD
  refine W.widen (k := 31) (n := 5682) (Nat.le_of_ble_eq_true rfl) (Nat.le_of_ble_eq_true rfl) ?_
  refine va_putF (D := (dC, dI)) (ci := 11) (v := .ref q_402) (ty := .object "PlanesBack$Parts") (C := RX11) (T := TX11) (N := 14) hx hb hwd inA_X11 tyX11 tyX11_ok nmX11 hown hK hP hD hS 0 rfl rfl 2 (by decide) (hwd _ wk_16) (fun _ h9 => h9) rfl hin rfl (by decide +kernel) rfl rfl (Nat.le_of_ble_eq_true rfl) dX11_init_49 (fun H locs hP hD hS => ?_)
  have hP : va_P (dC, dI) classes [(h0, .inr (11, [.ref q_387, .ref q_393, .ref q_402, .ref q_399, .null, .null, .null, .null, .null, .null, .null, .int 0, .int 0, .int 0])), (q_387, .inr (2, o2 gz_388)), (gz_388 1, .inl (c1_389, 30, .inl (fun _ => 0))), (gz_388 2, .inl (c2_390, 10, .inl (fun _ => 0))), (gz_388 3, .inl (c3_391, 10, .inl (fun _ => 0))), (q_393, .inr (8, o8 gz_394)), (gz_394 1, .inl (c1_395, 10, .inl (fun _ => 0))), (gz_394 4, .inl (c4_396, 10, .inl (fun _ => 0))), (gz_394 5, .inl (c5_397, 10, .inl (fun _ => 0))), (q_399, .inr (9, o9 gz_400)), (q_402, .inr (7, o7 gz_403))] H := hP
  have hD : va_D A [(h0, .inr (11, [.ref q_387, .ref q_393, .ref q_402, .ref q_399, .null, .null, .null, .null, .null, .null, .null, .int 0, .int 0, .int 0])), (q_387, .inr (2, o2 gz_388)), (gz_388 1, .inl (c1_389, 30, .inl (fun _ => 0))), (gz_388 2, .inl (c2_390, 10, .inl (fun _ => 0))), (gz_388 3, .inl (c3_391, 10, .inl (fun _ => 0))), (q_393, .inr (8, o8 gz_394)), (gz_394 1, .inl (c1_395, 10, .inl (fun _ => 0))), (gz_394 4, .inl (c4_396, 10, .inl (fun _ => 0))), (gz_394 5, .inl (c5_397, 10, .inl (fun _ => 0))), (q_399, .inr (9, o9 gz_400)), (q_402, .inr (7, o7 gz_403))] := hD
  refine lv_aload_n hx hb dX11_init_52 rfl (lv_at hl 0 rfl) ?_
  refine va_new (ci := 10) (fs := [.int 0, .null]) (C := RX10) (T := TX10) (N := 2) hx hb hwd inA_X10 tyX10 tyX10_ok hown (hwd _ wk_325) (hwd _ wk_326) (hwd _ wk_101) hK hP hD hS hA rfl dvX10 (Nat.le_of_ble_eq_true rfl) (Nat.le_of_ble_eq_true rfl) dX11_init_53 (fun q_405 H hP hD hS => ?_)
  have hP : va_P (dC, dI) classes [(h0, .inr (11, [.ref q_387, .ref q_393, .ref q_402, .ref q_399, .null, .null, .null, .null, .null, .null, .null, .int 0, .int 0, .int 0])), (q_387, .inr (2, o2 gz_388)), (gz_388 1, .inl (c1_389, 30, .inl (fun _ => 0))), (gz_388 2, .inl (c2_390, 10, .inl (fun _ => 0))), (gz_388 3, .inl (c3_391, 10, .inl (fun _ => 0))), (q_393, .inr (8, o8 gz_394)), (gz_394 1, .inl (c1_395, 10, .inl (fun _ => 0))), (gz_394 4, .inl (c4_396, 10, .inl (fun _ => 0))), (gz_394 5, .inl (c5_397, 10, .inl (fun _ => 0))), (q_399, .inr (9, o9 gz_400)), (q_402, .inr (7, o7 gz_403)), (q_405, .inr (10, [.int 0, .null]))] H := hP
  have hD : va_D A [(h0, .inr (11, [.ref q_387, .ref q_393, .ref q_402, .ref q_399, .null, .null, .null, .null, .null, .null, .null, .int 0, .int 0, .int 0])), (q_387, .inr (2, o2 gz_388)), (gz_388 1, .inl (c1_389, 30, .inl (fun _ => 0))), (gz_388 2, .inl (c2_390, 10, .inl (fun _ => 0))), (gz_388 3, .inl (c3_391, 10, .inl (fun _ => 0))), (q_393, .inr (8, o8 gz_394)), (gz_394 1, .inl (c1_395, 10, .inl (fun _ => 0))), (gz_394 4, .inl (c4_396, 10, .inl (fun _ => 0))), (gz_394 5, .inl (c5_397, 10, .inl (fun _ => 0))), (q_399, .inr (9, o9 gz_400)), (q_402, .inr (7, o7 gz_403)), (q_405, .inr (10, [.int 0, .null]))] := hD
  refine W.widen (k := 32) (n := 5684) (Nat.le_of_ble_eq_true rfl) (Nat.le_of_ble_eq_true rfl) ?_
  refine lv_dup hx hb dX11_init_56 rfl ?_
  have hPc := hP.sub (ws' := [(q_405, .inr (10, [.int 0, .null]))]) [11] rfl
  have hDc := hD.sub (ws' := [(q_405, .inr (10, [.int 0, .null]))]) [11] (by decide) rfl
  have hKc := hK.sub (tys' := []) [] rfl
  have hFc := va_free (wc := [(q_405, .inr (10, [.int 0, .null]))]) hD hS hA [11] rfl
  refine va_callv (va_runIN (As := []) (rest := [.ref q_405, .ref h0]) ⟨hx, hb, hml, hown, hwd⟩ (c_X10_init l dC dI q_405 H.size) ⟨va_cnB 0 hwd (gS wk_327) rfl rfl rfl hNw41 (hwd _ wk_101) (by decide +kernel) ⟨Nat.le_of_ble_eq_true rfl, Nat.le_of_ble_eq_true rfl⟩, rfl, hwd _ wk_328⟩ ⟨fun a U g mk q => by obtain ⟨q0, q1, qP, qK, qD⟩ := q; exact ⟨q0, q1, qP, va_K.moved (u := U) (U := U.calling g mk a) (Vm.Alike.refl U.vm) qK, qD⟩, fun U hU hW => ⟨rfl, by rw [hU], by rw [hU]; exact hPc, va_K.moved hW.alike hKc, hDc.weaken (fun _ _ _ _ => trivial)⟩⟩ rfl rfl hl.1 rfl (lv_room (Nat.le_of_ble_eq_true rfl)) dX11_init_57 ⟨Nat.le_of_ble_eq_true rfl, Nat.le_of_ble_eq_true rfl⟩) hS (fun q _ h => hFc q h) hFc (fun u t H1 locs ht hvm hw hB hz1 hk1 hS => ?_)
  obtain ⟨gz_406, c1_407, hP1, hK1, hD1⟩ := hB
  rw [ht] at hP1
  have hK1 := va_K.moved hvm.symm hK1
  have hK : va_K (dC, dI) classes [(c1_389, .int), (c2_390, .int), (c3_391, .int), (c1_395, .int), (c4_396, .int), (c5_397, .int), (c1_407, .int)] s := hK.app hK1
  obtain ⟨hP, hD⟩ := va_join (wr := [(h0, .inr (11, [.ref q_387, .ref q_393, .ref q_402, .ref q_399, .null, .null, .null, .null, .null, .null, .null, .int 0, .int 0, .int 0])), (q_387, .inr (2, o2 gz_388)), (gz_388 1, .inl (c1_389, 30, .inl (fun _ => 0))), (gz_388 2, .inl (c2_390, 10, .inl (fun _ => 0))), (gz_388 3, .inl (c3_391, 10, .inl (fun _ => 0))), (q_393, .inr (8, o8 gz_394)), (gz_394 1, .inl (c1_395, 10, .inl (fun _ => 0))), (gz_394 4, .inl (c4_396, 10, .inl (fun _ => 0))), (gz_394 5, .inl (c5_397, 10, .inl (fun _ => 0))), (q_399, .inr (9, o9 gz_400)), (q_402, .inr (7, o7 gz_403))]) (w1 := [(q_405, .inr (10, o10 gz_406)), (gz_406 1, .inl (c1_407, 120, .inl (fun _ => 0)))]) hP hD [11] [0, 1, 2, 3, 4, 5, 6, 7, 8, 9, 10] rfl rfl (by decide) (by decide) hk1 hFc hP1 hD1
  generalize H1 = H at hP hS ⊢
  have hP : va_P (dC, dI) classes [(h0, .inr (11, [.ref q_387, .ref q_393, .ref q_402, .ref q_399, .null, .null, .null, .null, .null, .null, .null, .int 0, .int 0, .int 0])), (q_387, .inr (2, o2 gz_388)), (gz_388 1, .inl (c1_389, 30, .inl (fun _ => 0))), (gz_388 2, .inl (c2_390, 10, .inl (fun _ => 0))), (gz_388 3, .inl (c3_391, 10, .inl (fun _ => 0))), (q_393, .inr (8, o8 gz_394)), (gz_394 1, .inl (c1_395, 10, .inl (fun _ => 0))), (gz_394 4, .inl (c4_396, 10, .inl (fun _ => 0))), (gz_394 5, .inl (c5_397, 10, .inl (fun _ => 0))), (q_399, .inr (9, o9 gz_400)), (q_402, .inr (7, o7 gz_403)), (q_405, .inr (10, o10 gz_406)), (gz_406 1, .inl (c1_407, 120, .inl (fun _ => 0)))] H := hP
  have hD : va_D A [(h0, .inr (11, [.ref q_387, .ref q_393, .ref q_402, .ref q_399, .null, .null, .null, .null, .null, .null, .null, .int 0, .int 0, .int 0])), (q_387, .inr (2, o2 gz_388)), (gz_388 1, .inl (c1_389, 30, .inl (fun _ => 0))), (gz_388 2, .inl (c2_390, 10, .inl (fun _ => 0))), (gz_388 3, .inl (c3_391, 10, .inl (fun _ => 0))), (q_393, .inr (8, o8 gz_394)), (gz_394 1, .inl (c1_395, 10, .inl (fun _ => 0))), (gz_394 4, .inl (c4_396, 10, .inl (fun _ => 0))), (gz_394 5, .inl (c5_397, 10, .inl (fun _ => 0))), (q_399, .inr (9, o9 gz_400)), (q_402, .inr (7, o7 gz_403)), (q_405, .inr (10, o10 gz_406)), (gz_406 1, .inl (c1_407, 120, .inl (fun _ => 0)))] := hD
  refine W.widen (k := 33) (n := 5804) (Nat.le_of_ble_eq_true rfl) (Nat.le_of_ble_eq_true rfl) ?_
  refine va_putF (D := (dC, dI)) (ci := 11) (v := .ref q_405) (ty := .object "PlanesBack$Tape") (C := RX11) (T := TX11) (N := 14) hx hb hwd inA_X11 tyX11 tyX11_ok nmX11 hown hK hP hD hS 0 rfl rfl 4 (by decide) (hwd _ wk_96) (fun _ h9 => h9) rfl hin rfl (by decide +kernel) rfl rfl (Nat.le_of_ble_eq_true rfl) dX11_init_60 (fun H locs hP hD hS => ?_)
  have hP : va_P (dC, dI) classes [(h0, .inr (11, [.ref q_387, .ref q_393, .ref q_402, .ref q_399, .ref q_405, .null, .null, .null, .null, .null, .null, .int 0, .int 0, .int 0])), (q_387, .inr (2, o2 gz_388)), (gz_388 1, .inl (c1_389, 30, .inl (fun _ => 0))), (gz_388 2, .inl (c2_390, 10, .inl (fun _ => 0))), (gz_388 3, .inl (c3_391, 10, .inl (fun _ => 0))), (q_393, .inr (8, o8 gz_394)), (gz_394 1, .inl (c1_395, 10, .inl (fun _ => 0))), (gz_394 4, .inl (c4_396, 10, .inl (fun _ => 0))), (gz_394 5, .inl (c5_397, 10, .inl (fun _ => 0))), (q_399, .inr (9, o9 gz_400)), (q_402, .inr (7, o7 gz_403)), (q_405, .inr (10, o10 gz_406)), (gz_406 1, .inl (c1_407, 120, .inl (fun _ => 0)))] H := hP
  have hD : va_D A [(h0, .inr (11, [.ref q_387, .ref q_393, .ref q_402, .ref q_399, .ref q_405, .null, .null, .null, .null, .null, .null, .int 0, .int 0, .int 0])), (q_387, .inr (2, o2 gz_388)), (gz_388 1, .inl (c1_389, 30, .inl (fun _ => 0))), (gz_388 2, .inl (c2_390, 10, .inl (fun _ => 0))), (gz_388 3, .inl (c3_391, 10, .inl (fun _ => 0))), (q_393, .inr (8, o8 gz_394)), (gz_394 1, .inl (c1_395, 10, .inl (fun _ => 0))), (gz_394 4, .inl (c4_396, 10, .inl (fun _ => 0))), (gz_394 5, .inl (c5_397, 10, .inl (fun _ => 0))), (q_399, .inr (9, o9 gz_400)), (q_402, .inr (7, o7 gz_403)), (q_405, .inr (10, o10 gz_406)), (gz_406 1, .inl (c1_407, 120, .inl (fun _ => 0)))] := hD
  refine lv_aload_n hx hb dX11_init_63 rfl (lv_at hl 0 rfl) ?_
  refine va_new (ci := 4) (fs := [.int 0, .null, .null, .null, .null, .null, .int 0]) (C := RX4) (T := TX4) (N := 7) hx hb hwd inA_X4 tyX4 tyX4_ok hown (hwd _ wk_329) (hwd _ wk_330) (hwd _ wk_331) hK hP hD hS hA rfl dvX4 (Nat.le_of_ble_eq_true rfl) (Nat.le_of_ble_eq_true rfl) dX11_init_64 (fun q_409 H hP hD hS => ?_)
  have hP : va_P (dC, dI) classes [(h0, .inr (11, [.ref q_387, .ref q_393, .ref q_402, .ref q_399, .ref q_405, .null, .null, .null, .null, .null, .null, .int 0, .int 0, .int 0])), (q_387, .inr (2, o2 gz_388)), (gz_388 1, .inl (c1_389, 30, .inl (fun _ => 0))), (gz_388 2, .inl (c2_390, 10, .inl (fun _ => 0))), (gz_388 3, .inl (c3_391, 10, .inl (fun _ => 0))), (q_393, .inr (8, o8 gz_394)), (gz_394 1, .inl (c1_395, 10, .inl (fun _ => 0))), (gz_394 4, .inl (c4_396, 10, .inl (fun _ => 0))), (gz_394 5, .inl (c5_397, 10, .inl (fun _ => 0))), (q_399, .inr (9, o9 gz_400)), (q_402, .inr (7, o7 gz_403)), (q_405, .inr (10, o10 gz_406)), (gz_406 1, .inl (c1_407, 120, .inl (fun _ => 0))), (q_409, .inr (4, [.int 0, .null, .null, .null, .null, .null, .int 0]))] H := hP
  have hD : va_D A [(h0, .inr (11, [.ref q_387, .ref q_393, .ref q_402, .ref q_399, .ref q_405, .null, .null, .null, .null, .null, .null, .int 0, .int 0, .int 0])), (q_387, .inr (2, o2 gz_388)), (gz_388 1, .inl (c1_389, 30, .inl (fun _ => 0))), (gz_388 2, .inl (c2_390, 10, .inl (fun _ => 0))), (gz_388 3, .inl (c3_391, 10, .inl (fun _ => 0))), (q_393, .inr (8, o8 gz_394)), (gz_394 1, .inl (c1_395, 10, .inl (fun _ => 0))), (gz_394 4, .inl (c4_396, 10, .inl (fun _ => 0))), (gz_394 5, .inl (c5_397, 10, .inl (fun _ => 0))), (q_399, .inr (9, o9 gz_400)), (q_402, .inr (7, o7 gz_403)), (q_405, .inr (10, o10 gz_406)), (gz_406 1, .inl (c1_407, 120, .inl (fun _ => 0))), (q_409, .inr (4, [.int 0, .null, .null, .null, .null, .null, .int 0]))] := hD
  refine W.widen (k := 34) (n := 5811) (Nat.le_of_ble_eq_true rfl) (Nat.le_of_ble_eq_true rfl) ?_
  refine lv_dup hx hb dX11_init_67 rfl ?_
  have hPc := hP.sub (ws' := [(q_409, .inr (4, [.int 0, .null, .null, .null, .null, .null, .int 0]))]) [13] rfl
  have hDc := hD.sub (ws' := [(q_409, .inr (4, [.int 0, .null, .null, .null, .null, .null, .int 0]))]) [13] (by decide) rfl
  have hKc := hK.sub (tys' := []) [] rfl
  have hFc := va_free (wc := [(q_409, .inr (4, [.int 0, .null, .null, .null, .null, .null, .int 0]))]) hD hS hA [13] rfl
  refine va_callv (va_runIN (As := []) (rest := [.ref q_409, .ref h0]) ⟨hx, hb, hml, hown, hwd⟩ (c_X4_init l dC dI q_409 H.size) ⟨va_cnB 0 hwd (gS wk_332) rfl rfl rfl hNw48 (hwd _ wk_331) (by decide +kernel) ⟨Nat.le_of_ble_eq_true rfl, Nat.le_of_ble_eq_true rfl⟩, rfl, hwd _ wk_333⟩ ⟨fun a U g mk q => by obtain ⟨q0, q1, qP, qK, qD, qx0⟩ := q; exact ⟨q0, q1, qP, va_K.moved (u := U) (U := U.calling g mk a) (Vm.Alike.refl U.vm) qK, qD, my_AO.moved (s := U) (U := U.calling g mk a) (Vm.Alike.refl U.vm) qx0⟩, fun U hU hW => ⟨rfl, by rw [hU], by rw [hU]; exact hPc, va_K.moved hW.alike hKc, hDc.weaken (fun _ _ _ _ => trivial), my_AO.moved hW.alike hAOA⟩⟩ rfl rfl hl.1 rfl (lv_room (Nat.le_of_ble_eq_true rfl)) dX11_init_68 ⟨Nat.le_of_ble_eq_true rfl, Nat.le_of_ble_eq_true rfl⟩) hS (fun q _ h => hFc q h) hFc (fun u t H1 locs ht hvm hw hB hz1 hk1 hS => ?_)
  obtain ⟨gz_410, c4_411, r_412, hP1, hK1, hD1⟩ := hB
  rw [ht] at hP1
  have hK1 := va_K.moved hvm.symm hK1
  have hK : va_K (dC, dI) classes [(c1_389, .int), (c2_390, .int), (c3_391, .int), (c1_395, .int), (c4_396, .int), (c5_397, .int), (c1_407, .int), (c4_411, (.array .int))] s := hK.app hK1
  obtain ⟨hP, hD⟩ := va_join (wr := [(h0, .inr (11, [.ref q_387, .ref q_393, .ref q_402, .ref q_399, .ref q_405, .null, .null, .null, .null, .null, .null, .int 0, .int 0, .int 0])), (q_387, .inr (2, o2 gz_388)), (gz_388 1, .inl (c1_389, 30, .inl (fun _ => 0))), (gz_388 2, .inl (c2_390, 10, .inl (fun _ => 0))), (gz_388 3, .inl (c3_391, 10, .inl (fun _ => 0))), (q_393, .inr (8, o8 gz_394)), (gz_394 1, .inl (c1_395, 10, .inl (fun _ => 0))), (gz_394 4, .inl (c4_396, 10, .inl (fun _ => 0))), (gz_394 5, .inl (c5_397, 10, .inl (fun _ => 0))), (q_399, .inr (9, o9 gz_400)), (q_402, .inr (7, o7 gz_403)), (q_405, .inr (10, o10 gz_406)), (gz_406 1, .inl (c1_407, 120, .inl (fun _ => 0)))]) (w1 := [(q_409, .inr (4, o4 gz_410)), (gz_410 4, .inl (c4_411, 10, .inr (.inr (.inr (.inr (fun i => if i < 10 then some (r_412 i) else none))))))]) hP hD [13] [0, 1, 2, 3, 4, 5, 6, 7, 8, 9, 10, 11, 12] rfl rfl (by decide) (by decide) hk1 hFc hP1 hD1
  generalize H1 = H at hP hS ⊢
  have hP : va_P (dC, dI) classes [(h0, .inr (11, [.ref q_387, .ref q_393, .ref q_402, .ref q_399, .ref q_405, .null, .null, .null, .null, .null, .null, .int 0, .int 0, .int 0])), (q_387, .inr (2, o2 gz_388)), (gz_388 1, .inl (c1_389, 30, .inl (fun _ => 0))), (gz_388 2, .inl (c2_390, 10, .inl (fun _ => 0))), (gz_388 3, .inl (c3_391, 10, .inl (fun _ => 0))), (q_393, .inr (8, o8 gz_394)), (gz_394 1, .inl (c1_395, 10, .inl (fun _ => 0))), (gz_394 4, .inl (c4_396, 10, .inl (fun _ => 0))), (gz_394 5, .inl (c5_397, 10, .inl (fun _ => 0))), (q_399, .inr (9, o9 gz_400)), (q_402, .inr (7, o7 gz_403)), (q_405, .inr (10, o10 gz_406)), (gz_406 1, .inl (c1_407, 120, .inl (fun _ => 0))), (q_409, .inr (4, o4 gz_410)), (gz_410 4, .inl (c4_411, 10, .inr (.inr (.inr (.inr (fun i => if i < 10 then some (r_412 i) else none))))))] H := hP
  have hD : va_D A [(h0, .inr (11, [.ref q_387, .ref q_393, .ref q_402, .ref q_399, .ref q_405, .null, .null, .null, .null, .null, .null, .int 0, .int 0, .int 0])), (q_387, .inr (2, o2 gz_388)), (gz_388 1, .inl (c1_389, 30, .inl (fun _ => 0))), (gz_388 2, .inl (c2_390, 10, .inl (fun _ => 0))), (gz_388 3, .inl (c3_391, 10, .inl (fun _ => 0))), (q_393, .inr (8, o8 gz_394)), (gz_394 1, .inl (c1_395, 10, .inl (fun _ => 0))), (gz_394 4, .inl (c4_396, 10, .inl (fun _ => 0))), (gz_394 5, .inl (c5_397, 10, .inl (fun _ => 0))), (q_399, .inr (9, o9 gz_400)), (q_402, .inr (7, o7 gz_403)), (q_405, .inr (10, o10 gz_406)), (gz_406 1, .inl (c1_407, 120, .inl (fun _ => 0))), (q_409, .inr (4, o4 gz_410)), (gz_410 4, .inl (c4_411, 10, .inr (.inr (.inr (.inr (fun i => if i < 10 then some (r_412 i) else none))))))] := hD
  refine W.widen (k := 49) (n := 7171) (Nat.le_of_ble_eq_true rfl) (Nat.le_of_ble_eq_true rfl) ?_
  refine va_putF (D := (dC, dI)) (ci := 11) (v := .ref q_409) (ty := .object "PlanesBack$Laws") (C := RX11) (T := TX11) (N := 14) hx hb hwd inA_X11 tyX11 tyX11_ok nmX11 hown hK hP hD hS 0 rfl rfl 5 (by decide) (hwd _ wk_150) (fun _ h9 => h9) rfl hin rfl (by decide +kernel) rfl rfl (Nat.le_of_ble_eq_true rfl) dX11_init_71 (fun H locs hP hD hS => ?_)
  have hP : va_P (dC, dI) classes [(h0, .inr (11, [.ref q_387, .ref q_393, .ref q_402, .ref q_399, .ref q_405, .ref q_409, .null, .null, .null, .null, .null, .int 0, .int 0, .int 0])), (q_387, .inr (2, o2 gz_388)), (gz_388 1, .inl (c1_389, 30, .inl (fun _ => 0))), (gz_388 2, .inl (c2_390, 10, .inl (fun _ => 0))), (gz_388 3, .inl (c3_391, 10, .inl (fun _ => 0))), (q_393, .inr (8, o8 gz_394)), (gz_394 1, .inl (c1_395, 10, .inl (fun _ => 0))), (gz_394 4, .inl (c4_396, 10, .inl (fun _ => 0))), (gz_394 5, .inl (c5_397, 10, .inl (fun _ => 0))), (q_399, .inr (9, o9 gz_400)), (q_402, .inr (7, o7 gz_403)), (q_405, .inr (10, o10 gz_406)), (gz_406 1, .inl (c1_407, 120, .inl (fun _ => 0))), (q_409, .inr (4, o4 gz_410)), (gz_410 4, .inl (c4_411, 10, .inr (.inr (.inr (.inr (fun i => if i < 10 then some (r_412 i) else none))))))] H := hP
  have hD : va_D A [(h0, .inr (11, [.ref q_387, .ref q_393, .ref q_402, .ref q_399, .ref q_405, .ref q_409, .null, .null, .null, .null, .null, .int 0, .int 0, .int 0])), (q_387, .inr (2, o2 gz_388)), (gz_388 1, .inl (c1_389, 30, .inl (fun _ => 0))), (gz_388 2, .inl (c2_390, 10, .inl (fun _ => 0))), (gz_388 3, .inl (c3_391, 10, .inl (fun _ => 0))), (q_393, .inr (8, o8 gz_394)), (gz_394 1, .inl (c1_395, 10, .inl (fun _ => 0))), (gz_394 4, .inl (c4_396, 10, .inl (fun _ => 0))), (gz_394 5, .inl (c5_397, 10, .inl (fun _ => 0))), (q_399, .inr (9, o9 gz_400)), (q_402, .inr (7, o7 gz_403)), (q_405, .inr (10, o10 gz_406)), (gz_406 1, .inl (c1_407, 120, .inl (fun _ => 0))), (q_409, .inr (4, o4 gz_410)), (gz_410 4, .inl (c4_411, 10, .inr (.inr (.inr (.inr (fun i => if i < 10 then some (r_412 i) else none))))))] := hD
  refine lv_aload_n hx hb dX11_init_74 rfl (lv_at hl 0 rfl) ?_
  refine va_new (ci := 3) (fs := [.null, .null, .int 0, .int 0, .int 0]) (C := RX3) (T := TX3) (N := 5) hx hb hwd inA_X3 tyX3 tyX3_ok hown (hwd _ wk_334) (hwd _ wk_335) (hwd _ wk_115) hK hP hD hS hA rfl dvX3 (Nat.le_of_ble_eq_true rfl) (Nat.le_of_ble_eq_true rfl) dX11_init_75 (fun q_414 H hP hD hS => ?_)
  have hP : va_P (dC, dI) classes [(h0, .inr (11, [.ref q_387, .ref q_393, .ref q_402, .ref q_399, .ref q_405, .ref q_409, .null, .null, .null, .null, .null, .int 0, .int 0, .int 0])), (q_387, .inr (2, o2 gz_388)), (gz_388 1, .inl (c1_389, 30, .inl (fun _ => 0))), (gz_388 2, .inl (c2_390, 10, .inl (fun _ => 0))), (gz_388 3, .inl (c3_391, 10, .inl (fun _ => 0))), (q_393, .inr (8, o8 gz_394)), (gz_394 1, .inl (c1_395, 10, .inl (fun _ => 0))), (gz_394 4, .inl (c4_396, 10, .inl (fun _ => 0))), (gz_394 5, .inl (c5_397, 10, .inl (fun _ => 0))), (q_399, .inr (9, o9 gz_400)), (q_402, .inr (7, o7 gz_403)), (q_405, .inr (10, o10 gz_406)), (gz_406 1, .inl (c1_407, 120, .inl (fun _ => 0))), (q_409, .inr (4, o4 gz_410)), (gz_410 4, .inl (c4_411, 10, .inr (.inr (.inr (.inr (fun i => if i < 10 then some (r_412 i) else none)))))), (q_414, .inr (3, [.null, .null, .int 0, .int 0, .int 0]))] H := hP
  have hD : va_D A [(h0, .inr (11, [.ref q_387, .ref q_393, .ref q_402, .ref q_399, .ref q_405, .ref q_409, .null, .null, .null, .null, .null, .int 0, .int 0, .int 0])), (q_387, .inr (2, o2 gz_388)), (gz_388 1, .inl (c1_389, 30, .inl (fun _ => 0))), (gz_388 2, .inl (c2_390, 10, .inl (fun _ => 0))), (gz_388 3, .inl (c3_391, 10, .inl (fun _ => 0))), (q_393, .inr (8, o8 gz_394)), (gz_394 1, .inl (c1_395, 10, .inl (fun _ => 0))), (gz_394 4, .inl (c4_396, 10, .inl (fun _ => 0))), (gz_394 5, .inl (c5_397, 10, .inl (fun _ => 0))), (q_399, .inr (9, o9 gz_400)), (q_402, .inr (7, o7 gz_403)), (q_405, .inr (10, o10 gz_406)), (gz_406 1, .inl (c1_407, 120, .inl (fun _ => 0))), (q_409, .inr (4, o4 gz_410)), (gz_410 4, .inl (c4_411, 10, .inr (.inr (.inr (.inr (fun i => if i < 10 then some (r_412 i) else none)))))), (q_414, .inr (3, [.null, .null, .int 0, .int 0, .int 0]))] := hD
  refine W.widen (k := 50) (n := 7176) (Nat.le_of_ble_eq_true rfl) (Nat.le_of_ble_eq_true rfl) ?_
  refine lv_dup hx hb dX11_init_78 rfl ?_
  refine lv_aload_n hx hb dX11_init_79 rfl (lv_at hl 0 rfl) ?_
  refine va_get (D := (dC, dI)) (ci := 11) (v := .ref q_405) (C := RX11) (T := TX11) (N := 14) hx hb hwd inA_X11 hown hK hP 0 rfl rfl 4 (by decide) (hwd _ wk_96) (fun _ h9 => h9) rfl dX11_init_80 ?_
  have hPc := hP.sub (ws' := [(q_414, .inr (3, [.null, .null, .int 0, .int 0, .int 0]))]) [15] rfl
  have hDc := hD.sub (ws' := [(q_414, .inr (3, [.null, .null, .int 0, .int 0, .int 0]))]) [15] (by decide) rfl
  have hKc := hK.sub (tys' := []) [] rfl
  have hFc := va_free (wc := [(q_414, .inr (3, [.null, .null, .int 0, .int 0, .int 0]))]) hD hS hA [15] rfl
  refine va_callv (va_runI (As := [.ref q_405]) (rest := [.ref q_414, .ref h0]) ⟨hx, hb, hml, hown, hwd⟩ (c_X3_init l dC dI q_414 q_405 H.size) (cwI 1 hwd (gS wk_336) rfl rfl rfl (hwd _ wk_115) (hwd _ wk_337) (hwd _ wk_338) rfl (by decide +kernel) ⟨Nat.le_of_ble_eq_true rfl, Nat.le_of_ble_eq_true rfl⟩) ⟨fun a U g mk q => by obtain ⟨q0, q1, qP, qK, qD⟩ := q; exact ⟨q0, q1, qP, va_K.moved (u := U) (U := U.calling g mk a) (Vm.Alike.refl U.vm) qK, qD⟩, fun U hU hW => ⟨rfl, by rw [hU], by rw [hU]; exact hPc, va_K.moved hW.alike hKc, hDc.weaken (fun _ _ _ _ => trivial)⟩⟩ rfl rfl hl.1 rfl (lv_room (Nat.le_of_ble_eq_true rfl)) dX11_init_83 ⟨Nat.le_of_ble_eq_true rfl, Nat.le_of_ble_eq_true rfl⟩) hS (fun q _ h => hFc q h) hFc (fun u t H1 locs ht hvm hw hB hz1 hk1 hS => ?_)
  obtain ⟨cd_415, hP1, hK1, hD1⟩ := hB
  rw [ht] at hP1
  obtain ⟨hP, hD⟩ := va_join (wr := [(h0, .inr (11, [.ref q_387, .ref q_393, .ref q_402, .ref q_399, .ref q_405, .ref q_409, .null, .null, .null, .null, .null, .int 0, .int 0, .int 0])), (q_387, .inr (2, o2 gz_388)), (gz_388 1, .inl (c1_389, 30, .inl (fun _ => 0))), (gz_388 2, .inl (c2_390, 10, .inl (fun _ => 0))), (gz_388 3, .inl (c3_391, 10, .inl (fun _ => 0))), (q_393, .inr (8, o8 gz_394)), (gz_394 1, .inl (c1_395, 10, .inl (fun _ => 0))), (gz_394 4, .inl (c4_396, 10, .inl (fun _ => 0))), (gz_394 5, .inl (c5_397, 10, .inl (fun _ => 0))), (q_399, .inr (9, o9 gz_400)), (q_402, .inr (7, o7 gz_403)), (q_405, .inr (10, o10 gz_406)), (gz_406 1, .inl (c1_407, 120, .inl (fun _ => 0))), (q_409, .inr (4, o4 gz_410)), (gz_410 4, .inl (c4_411, 10, .inr (.inr (.inr (.inr (fun i => if i < 10 then some (r_412 i) else none))))))]) (w1 := [(q_414, .inr (3, [.ref q_405, .ref cd_415, .int 0, .int 0, .int 0]))]) hP hD [15] [0, 1, 2, 3, 4, 5, 6, 7, 8, 9, 10, 11, 12, 13, 14] rfl rfl (by decide) (by decide) hk1 hFc hP1 hD1
  generalize H1 = H at hP hS ⊢
  have hP : va_P (dC, dI) classes [(h0, .inr (11, [.ref q_387, .ref q_393, .ref q_402, .ref q_399, .ref q_405, .ref q_409, .null, .null, .null, .null, .null, .int 0, .int 0, .int 0])), (q_387, .inr (2, o2 gz_388)), (gz_388 1, .inl (c1_389, 30, .inl (fun _ => 0))), (gz_388 2, .inl (c2_390, 10, .inl (fun _ => 0))), (gz_388 3, .inl (c3_391, 10, .inl (fun _ => 0))), (q_393, .inr (8, o8 gz_394)), (gz_394 1, .inl (c1_395, 10, .inl (fun _ => 0))), (gz_394 4, .inl (c4_396, 10, .inl (fun _ => 0))), (gz_394 5, .inl (c5_397, 10, .inl (fun _ => 0))), (q_399, .inr (9, o9 gz_400)), (q_402, .inr (7, o7 gz_403)), (q_405, .inr (10, o10 gz_406)), (gz_406 1, .inl (c1_407, 120, .inl (fun _ => 0))), (q_409, .inr (4, o4 gz_410)), (gz_410 4, .inl (c4_411, 10, .inr (.inr (.inr (.inr (fun i => if i < 10 then some (r_412 i) else none)))))), (q_414, .inr (3, [.ref q_405, .ref cd_415, .int 0, .int 0, .int 0]))] H := hP
  have hD : va_D A [(h0, .inr (11, [.ref q_387, .ref q_393, .ref q_402, .ref q_399, .ref q_405, .ref q_409, .null, .null, .null, .null, .null, .int 0, .int 0, .int 0])), (q_387, .inr (2, o2 gz_388)), (gz_388 1, .inl (c1_389, 30, .inl (fun _ => 0))), (gz_388 2, .inl (c2_390, 10, .inl (fun _ => 0))), (gz_388 3, .inl (c3_391, 10, .inl (fun _ => 0))), (q_393, .inr (8, o8 gz_394)), (gz_394 1, .inl (c1_395, 10, .inl (fun _ => 0))), (gz_394 4, .inl (c4_396, 10, .inl (fun _ => 0))), (gz_394 5, .inl (c5_397, 10, .inl (fun _ => 0))), (q_399, .inr (9, o9 gz_400)), (q_402, .inr (7, o7 gz_403)), (q_405, .inr (10, o10 gz_406)), (gz_406 1, .inl (c1_407, 120, .inl (fun _ => 0))), (q_409, .inr (4, o4 gz_410)), (gz_410 4, .inl (c4_411, 10, .inr (.inr (.inr (.inr (fun i => if i < 10 then some (r_412 i) else none)))))), (q_414, .inr (3, [.ref q_405, .ref cd_415, .int 0, .int 0, .int 0]))] := hD
  refine W.widen (k := 51) (n := 7176) (Nat.le_of_ble_eq_true rfl) (Nat.le_of_ble_eq_true rfl) ?_
  refine va_putF (D := (dC, dI)) (ci := 11) (v := .ref q_414) (ty := .object "PlanesBack$LawReader") (C := RX11) (T := TX11) (N := 14) hx hb hwd inA_X11 tyX11 tyX11_ok nmX11 hown hK hP hD hS 0 rfl rfl 6 (by decide) (hwd _ wk_152) (fun _ h9 => h9) rfl hin rfl (by decide +kernel) rfl rfl (Nat.le_of_ble_eq_true rfl) dX11_init_86 (fun H locs hP hD hS => ?_)
  have hP : va_P (dC, dI) classes [(h0, .inr (11, [.ref q_387, .ref q_393, .ref q_402, .ref q_399, .ref q_405, .ref q_409, .ref q_414, .null, .null, .null, .null, .int 0, .int 0, .int 0])), (q_387, .inr (2, o2 gz_388)), (gz_388 1, .inl (c1_389, 30, .inl (fun _ => 0))), (gz_388 2, .inl (c2_390, 10, .inl (fun _ => 0))), (gz_388 3, .inl (c3_391, 10, .inl (fun _ => 0))), (q_393, .inr (8, o8 gz_394)), (gz_394 1, .inl (c1_395, 10, .inl (fun _ => 0))), (gz_394 4, .inl (c4_396, 10, .inl (fun _ => 0))), (gz_394 5, .inl (c5_397, 10, .inl (fun _ => 0))), (q_399, .inr (9, o9 gz_400)), (q_402, .inr (7, o7 gz_403)), (q_405, .inr (10, o10 gz_406)), (gz_406 1, .inl (c1_407, 120, .inl (fun _ => 0))), (q_409, .inr (4, o4 gz_410)), (gz_410 4, .inl (c4_411, 10, .inr (.inr (.inr (.inr (fun i => if i < 10 then some (r_412 i) else none)))))), (q_414, .inr (3, [.ref q_405, .ref cd_415, .int 0, .int 0, .int 0]))] H := hP
  have hD : va_D A [(h0, .inr (11, [.ref q_387, .ref q_393, .ref q_402, .ref q_399, .ref q_405, .ref q_409, .ref q_414, .null, .null, .null, .null, .int 0, .int 0, .int 0])), (q_387, .inr (2, o2 gz_388)), (gz_388 1, .inl (c1_389, 30, .inl (fun _ => 0))), (gz_388 2, .inl (c2_390, 10, .inl (fun _ => 0))), (gz_388 3, .inl (c3_391, 10, .inl (fun _ => 0))), (q_393, .inr (8, o8 gz_394)), (gz_394 1, .inl (c1_395, 10, .inl (fun _ => 0))), (gz_394 4, .inl (c4_396, 10, .inl (fun _ => 0))), (gz_394 5, .inl (c5_397, 10, .inl (fun _ => 0))), (q_399, .inr (9, o9 gz_400)), (q_402, .inr (7, o7 gz_403)), (q_405, .inr (10, o10 gz_406)), (gz_406 1, .inl (c1_407, 120, .inl (fun _ => 0))), (q_409, .inr (4, o4 gz_410)), (gz_410 4, .inl (c4_411, 10, .inr (.inr (.inr (.inr (fun i => if i < 10 then some (r_412 i) else none)))))), (q_414, .inr (3, [.ref q_405, .ref cd_415, .int 0, .int 0, .int 0]))] := hD
  refine lv_aload_n hx hb dX11_init_89 rfl (lv_at hl 0 rfl) ?_
  refine va_new (ci := 6) (fs := [.null, .int 0, .null, .null, .null]) (C := RX6) (T := TX6) (N := 5) hx hb hwd inA_X6 tyX6 tyX6_ok hown (hwd _ wk_339) (hwd _ wk_340) (hwd _ wk_44) hK hP hD hS hA rfl dvX6 (Nat.le_of_ble_eq_true rfl) (Nat.le_of_ble_eq_true rfl) dX11_init_90 (fun q_417 H hP hD hS => ?_)
  have hP : va_P (dC, dI) classes [(h0, .inr (11, [.ref q_387, .ref q_393, .ref q_402, .ref q_399, .ref q_405, .ref q_409, .ref q_414, .null, .null, .null, .null, .int 0, .int 0, .int 0])), (q_387, .inr (2, o2 gz_388)), (gz_388 1, .inl (c1_389, 30, .inl (fun _ => 0))), (gz_388 2, .inl (c2_390, 10, .inl (fun _ => 0))), (gz_388 3, .inl (c3_391, 10, .inl (fun _ => 0))), (q_393, .inr (8, o8 gz_394)), (gz_394 1, .inl (c1_395, 10, .inl (fun _ => 0))), (gz_394 4, .inl (c4_396, 10, .inl (fun _ => 0))), (gz_394 5, .inl (c5_397, 10, .inl (fun _ => 0))), (q_399, .inr (9, o9 gz_400)), (q_402, .inr (7, o7 gz_403)), (q_405, .inr (10, o10 gz_406)), (gz_406 1, .inl (c1_407, 120, .inl (fun _ => 0))), (q_409, .inr (4, o4 gz_410)), (gz_410 4, .inl (c4_411, 10, .inr (.inr (.inr (.inr (fun i => if i < 10 then some (r_412 i) else none)))))), (q_414, .inr (3, [.ref q_405, .ref cd_415, .int 0, .int 0, .int 0])), (q_417, .inr (6, [.null, .int 0, .null, .null, .null]))] H := hP
  have hD : va_D A [(h0, .inr (11, [.ref q_387, .ref q_393, .ref q_402, .ref q_399, .ref q_405, .ref q_409, .ref q_414, .null, .null, .null, .null, .int 0, .int 0, .int 0])), (q_387, .inr (2, o2 gz_388)), (gz_388 1, .inl (c1_389, 30, .inl (fun _ => 0))), (gz_388 2, .inl (c2_390, 10, .inl (fun _ => 0))), (gz_388 3, .inl (c3_391, 10, .inl (fun _ => 0))), (q_393, .inr (8, o8 gz_394)), (gz_394 1, .inl (c1_395, 10, .inl (fun _ => 0))), (gz_394 4, .inl (c4_396, 10, .inl (fun _ => 0))), (gz_394 5, .inl (c5_397, 10, .inl (fun _ => 0))), (q_399, .inr (9, o9 gz_400)), (q_402, .inr (7, o7 gz_403)), (q_405, .inr (10, o10 gz_406)), (gz_406 1, .inl (c1_407, 120, .inl (fun _ => 0))), (q_409, .inr (4, o4 gz_410)), (gz_410 4, .inl (c4_411, 10, .inr (.inr (.inr (.inr (fun i => if i < 10 then some (r_412 i) else none)))))), (q_414, .inr (3, [.ref q_405, .ref cd_415, .int 0, .int 0, .int 0])), (q_417, .inr (6, [.null, .int 0, .null, .null, .null]))] := hD
  refine W.widen (k := 52) (n := 7181) (Nat.le_of_ble_eq_true rfl) (Nat.le_of_ble_eq_true rfl) ?_
  refine lv_dup hx hb dX11_init_93 rfl ?_
  refine lv_aload_n hx hb dX11_init_94 rfl (lv_at hl 0 rfl) ?_
  refine va_get (D := (dC, dI)) (ci := 11) (v := .ref q_393) (C := RX11) (T := TX11) (N := 14) hx hb hwd inA_X11 hown hK hP 0 rfl rfl 1 (by decide) (hwd _ wk_22) (fun _ h9 => h9) rfl dX11_init_95 ?_
  have hPc := hP.sub (ws' := [(q_417, .inr (6, [.null, .int 0, .null, .null, .null]))]) [16] rfl
  have hDc := hD.sub (ws' := [(q_417, .inr (6, [.null, .int 0, .null, .null, .null]))]) [16] (by decide) rfl
  have hKc := hK.sub (tys' := []) [] rfl
  have hFc := va_free (wc := [(q_417, .inr (6, [.null, .int 0, .null, .null, .null]))]) hD hS hA [16] rfl
  refine va_callv (va_runI (As := [.ref q_393]) (rest := [.ref q_417, .ref h0]) ⟨hx, hb, hml, hown, hwd⟩ (c_X6_init l dC dI q_417 H.size q_393) (cwI 1 hwd (gS wk_341) rfl rfl rfl (hwd _ wk_44) (hwd _ wk_342) (hwd _ wk_343) rfl (by decide +kernel) ⟨Nat.le_of_ble_eq_true rfl, Nat.le_of_ble_eq_true rfl⟩) ⟨fun a U g mk q => by obtain ⟨q0, q1, qP, qK, qD⟩ := q; exact ⟨q0, q1, qP, va_K.moved (u := U) (U := U.calling g mk a) (Vm.Alike.refl U.vm) qK, qD⟩, fun U hU hW => ⟨rfl, by rw [hU], by rw [hU]; exact hPc, va_K.moved hW.alike hKc, hDc.weaken (fun _ _ _ _ => trivial)⟩⟩ rfl rfl hl.1 rfl (lv_room (Nat.le_of_ble_eq_true rfl)) dX11_init_98 ⟨Nat.le_of_ble_eq_true rfl, Nat.le_of_ble_eq_true rfl⟩) hS (fun q _ h => hFc q h) hFc (fun u t H1 locs ht hvm hw hB hz1 hk1 hS => ?_)
  obtain ⟨gz_418, hP1, hK1, hD1⟩ := hB
  rw [ht] at hP1
  obtain ⟨hP, hD⟩ := va_join (wr := [(h0, .inr (11, [.ref q_387, .ref q_393, .ref q_402, .ref q_399, .ref q_405, .ref q_409, .ref q_414, .null, .null, .null, .null, .int 0, .int 0, .int 0])), (q_387, .inr (2, o2 gz_388)), (gz_388 1, .inl (c1_389, 30, .inl (fun _ => 0))), (gz_388 2, .inl (c2_390, 10, .inl (fun _ => 0))), (gz_388 3, .inl (c3_391, 10, .inl (fun _ => 0))), (q_393, .inr (8, o8 gz_394)), (gz_394 1, .inl (c1_395, 10, .inl (fun _ => 0))), (gz_394 4, .inl (c4_396, 10, .inl (fun _ => 0))), (gz_394 5, .inl (c5_397, 10, .inl (fun _ => 0))), (q_399, .inr (9, o9 gz_400)), (q_402, .inr (7, o7 gz_403)), (q_405, .inr (10, o10 gz_406)), (gz_406 1, .inl (c1_407, 120, .inl (fun _ => 0))), (q_409, .inr (4, o4 gz_410)), (gz_410 4, .inl (c4_411, 10, .inr (.inr (.inr (.inr (fun i => if i < 10 then some (r_412 i) else none)))))), (q_414, .inr (3, [.ref q_405, .ref cd_415, .int 0, .int 0, .int 0]))]) (w1 := [(q_417, .inr (6, o6 gz_418))]) hP hD [16] [0, 1, 2, 3, 4, 5, 6, 7, 8, 9, 10, 11, 12, 13, 14, 15] rfl rfl (by decide) (by decide) hk1 hFc hP1 hD1
  generalize H1 = H at hP hS ⊢
  have hP : va_P (dC, dI) classes [(h0, .inr (11, [.ref q_387, .ref q_393, .ref q_402, .ref q_399, .ref q_405, .ref q_409, .ref q_414, .null, .null, .null, .null, .int 0, .int 0, .int 0])), (q_387, .inr (2, o2 gz_388)), (gz_388 1, .inl (c1_389, 30, .inl (fun _ => 0))), (gz_388 2, .inl (c2_390, 10, .inl (fun _ => 0))), (gz_388 3, .inl (c3_391, 10, .inl (fun _ => 0))), (q_393, .inr (8, o8 gz_394)), (gz_394 1, .inl (c1_395, 10, .inl (fun _ => 0))), (gz_394 4, .inl (c4_396, 10, .inl (fun _ => 0))), (gz_394 5, .inl (c5_397, 10, .inl (fun _ => 0))), (q_399, .inr (9, o9 gz_400)), (q_402, .inr (7, o7 gz_403)), (q_405, .inr (10, o10 gz_406)), (gz_406 1, .inl (c1_407, 120, .inl (fun _ => 0))), (q_409, .inr (4, o4 gz_410)), (gz_410 4, .inl (c4_411, 10, .inr (.inr (.inr (.inr (fun i => if i < 10 then some (r_412 i) else none)))))), (q_414, .inr (3, [.ref q_405, .ref cd_415, .int 0, .int 0, .int 0])), (q_417, .inr (6, o6 gz_418))] H := hP
  have hD : va_D A [(h0, .inr (11, [.ref q_387, .ref q_393, .ref q_402, .ref q_399, .ref q_405, .ref q_409, .ref q_414, .null, .null, .null, .null, .int 0, .int 0, .int 0])), (q_387, .inr (2, o2 gz_388)), (gz_388 1, .inl (c1_389, 30, .inl (fun _ => 0))), (gz_388 2, .inl (c2_390, 10, .inl (fun _ => 0))), (gz_388 3, .inl (c3_391, 10, .inl (fun _ => 0))), (q_393, .inr (8, o8 gz_394)), (gz_394 1, .inl (c1_395, 10, .inl (fun _ => 0))), (gz_394 4, .inl (c4_396, 10, .inl (fun _ => 0))), (gz_394 5, .inl (c5_397, 10, .inl (fun _ => 0))), (q_399, .inr (9, o9 gz_400)), (q_402, .inr (7, o7 gz_403)), (q_405, .inr (10, o10 gz_406)), (gz_406 1, .inl (c1_407, 120, .inl (fun _ => 0))), (q_409, .inr (4, o4 gz_410)), (gz_410 4, .inl (c4_411, 10, .inr (.inr (.inr (.inr (fun i => if i < 10 then some (r_412 i) else none)))))), (q_414, .inr (3, [.ref q_405, .ref cd_415, .int 0, .int 0, .int 0])), (q_417, .inr (6, o6 gz_418))] := hD
  refine W.widen (k := 55) (n := 7421) (Nat.le_of_ble_eq_true rfl) (Nat.le_of_ble_eq_true rfl) ?_
  refine va_putF (D := (dC, dI)) (ci := 11) (v := .ref q_417) (ty := .object "PlanesBack$Orders") (C := RX11) (T := TX11) (N := 14) hx hb hwd inA_X11 tyX11 tyX11_ok nmX11 hown hK hP hD hS 0 rfl rfl 7 (by decide) (hwd _ wk_39) (fun _ h9 => h9) rfl hin rfl (by decide +kernel) rfl rfl (Nat.le_of_ble_eq_true rfl) dX11_init_101 (fun H locs hP hD hS => ?_)
  have hP : va_P (dC, dI) classes [(h0, .inr (11, [.ref q_387, .ref q_393, .ref q_402, .ref q_399, .ref q_405, .ref q_409, .ref q_414, .ref q_417, .null, .null, .null, .int 0, .int 0, .int 0])), (q_387, .inr (2, o2 gz_388)), (gz_388 1, .inl (c1_389, 30, .inl (fun _ => 0))), (gz_388 2, .inl (c2_390, 10, .inl (fun _ => 0))), (gz_388 3, .inl (c3_391, 10, .inl (fun _ => 0))), (q_393, .inr (8, o8 gz_394)), (gz_394 1, .inl (c1_395, 10, .inl (fun _ => 0))), (gz_394 4, .inl (c4_396, 10, .inl (fun _ => 0))), (gz_394 5, .inl (c5_397, 10, .inl (fun _ => 0))), (q_399, .inr (9, o9 gz_400)), (q_402, .inr (7, o7 gz_403)), (q_405, .inr (10, o10 gz_406)), (gz_406 1, .inl (c1_407, 120, .inl (fun _ => 0))), (q_409, .inr (4, o4 gz_410)), (gz_410 4, .inl (c4_411, 10, .inr (.inr (.inr (.inr (fun i => if i < 10 then some (r_412 i) else none)))))), (q_414, .inr (3, [.ref q_405, .ref cd_415, .int 0, .int 0, .int 0])), (q_417, .inr (6, o6 gz_418))] H := hP
  have hD : va_D A [(h0, .inr (11, [.ref q_387, .ref q_393, .ref q_402, .ref q_399, .ref q_405, .ref q_409, .ref q_414, .ref q_417, .null, .null, .null, .int 0, .int 0, .int 0])), (q_387, .inr (2, o2 gz_388)), (gz_388 1, .inl (c1_389, 30, .inl (fun _ => 0))), (gz_388 2, .inl (c2_390, 10, .inl (fun _ => 0))), (gz_388 3, .inl (c3_391, 10, .inl (fun _ => 0))), (q_393, .inr (8, o8 gz_394)), (gz_394 1, .inl (c1_395, 10, .inl (fun _ => 0))), (gz_394 4, .inl (c4_396, 10, .inl (fun _ => 0))), (gz_394 5, .inl (c5_397, 10, .inl (fun _ => 0))), (q_399, .inr (9, o9 gz_400)), (q_402, .inr (7, o7 gz_403)), (q_405, .inr (10, o10 gz_406)), (gz_406 1, .inl (c1_407, 120, .inl (fun _ => 0))), (q_409, .inr (4, o4 gz_410)), (gz_410 4, .inl (c4_411, 10, .inr (.inr (.inr (.inr (fun i => if i < 10 then some (r_412 i) else none)))))), (q_414, .inr (3, [.ref q_405, .ref cd_415, .int 0, .int 0, .int 0])), (q_417, .inr (6, o6 gz_418))] := hD
  refine lv_aload_n hx hb dX11_init_104 rfl (lv_at hl 0 rfl) ?_
  refine va_new (ci := 0) (fs := [.null, .null, .null, .null, .null, .null, .int 0, .int 0, .int 0]) (C := RX0) (T := TX0) (N := 9) hx hb hwd inA_X0 tyX0 tyX0_ok hown (hwd _ wk_344) (hwd _ wk_345) (hwd _ wk_346) hK hP hD hS hA rfl dvX0 (Nat.le_of_ble_eq_true rfl) (Nat.le_of_ble_eq_true rfl) dX11_init_105 (fun q_420 H hP hD hS => ?_)
  have hP : va_P (dC, dI) classes [(h0, .inr (11, [.ref q_387, .ref q_393, .ref q_402, .ref q_399, .ref q_405, .ref q_409, .ref q_414, .ref q_417, .null, .null, .null, .int 0, .int 0, .int 0])), (q_387, .inr (2, o2 gz_388)), (gz_388 1, .inl (c1_389, 30, .inl (fun _ => 0))), (gz_388 2, .inl (c2_390, 10, .inl (fun _ => 0))), (gz_388 3, .inl (c3_391, 10, .inl (fun _ => 0))), (q_393, .inr (8, o8 gz_394)), (gz_394 1, .inl (c1_395, 10, .inl (fun _ => 0))), (gz_394 4, .inl (c4_396, 10, .inl (fun _ => 0))), (gz_394 5, .inl (c5_397, 10, .inl (fun _ => 0))), (q_399, .inr (9, o9 gz_400)), (q_402, .inr (7, o7 gz_403)), (q_405, .inr (10, o10 gz_406)), (gz_406 1, .inl (c1_407, 120, .inl (fun _ => 0))), (q_409, .inr (4, o4 gz_410)), (gz_410 4, .inl (c4_411, 10, .inr (.inr (.inr (.inr (fun i => if i < 10 then some (r_412 i) else none)))))), (q_414, .inr (3, [.ref q_405, .ref cd_415, .int 0, .int 0, .int 0])), (q_417, .inr (6, o6 gz_418)), (q_420, .inr (0, [.null, .null, .null, .null, .null, .null, .int 0, .int 0, .int 0]))] H := hP
  have hD : va_D A [(h0, .inr (11, [.ref q_387, .ref q_393, .ref q_402, .ref q_399, .ref q_405, .ref q_409, .ref q_414, .ref q_417, .null, .null, .null, .int 0, .int 0, .int 0])), (q_387, .inr (2, o2 gz_388)), (gz_388 1, .inl (c1_389, 30, .inl (fun _ => 0))), (gz_388 2, .inl (c2_390, 10, .inl (fun _ => 0))), (gz_388 3, .inl (c3_391, 10, .inl (fun _ => 0))), (q_393, .inr (8, o8 gz_394)), (gz_394 1, .inl (c1_395, 10, .inl (fun _ => 0))), (gz_394 4, .inl (c4_396, 10, .inl (fun _ => 0))), (gz_394 5, .inl (c5_397, 10, .inl (fun _ => 0))), (q_399, .inr (9, o9 gz_400)), (q_402, .inr (7, o7 gz_403)), (q_405, .inr (10, o10 gz_406)), (gz_406 1, .inl (c1_407, 120, .inl (fun _ => 0))), (q_409, .inr (4, o4 gz_410)), (gz_410 4, .inl (c4_411, 10, .inr (.inr (.inr (.inr (fun i => if i < 10 then some (r_412 i) else none)))))), (q_414, .inr (3, [.ref q_405, .ref cd_415, .int 0, .int 0, .int 0])), (q_417, .inr (6, o6 gz_418)), (q_420, .inr (0, [.null, .null, .null, .null, .null, .null, .int 0, .int 0, .int 0]))] := hD
  refine W.widen (k := 56) (n := 7430) (Nat.le_of_ble_eq_true rfl) (Nat.le_of_ble_eq_true rfl) ?_
  refine lv_dup hx hb dX11_init_108 rfl ?_
  refine lv_aload_n hx hb dX11_init_109 rfl (lv_at hl 0 rfl) ?_
  refine va_get (D := (dC, dI)) (ci := 11) (v := .ref q_405) (C := RX11) (T := TX11) (N := 14) hx hb hwd inA_X11 hown hK hP 0 rfl rfl 4 (by decide) (hwd _ wk_96) (fun _ h9 => h9) rfl dX11_init_110 ?_
  have hPc := hP.sub (ws' := [(q_420, .inr (0, [.null, .null, .null, .null, .null, .null, .int 0, .int 0, .int 0]))]) [17] rfl
  have hDc := hD.sub (ws' := [(q_420, .inr (0, [.null, .null, .null, .null, .null, .null, .int 0, .int 0, .int 0]))]) [17] (by decide) rfl
  have hKc := hK.sub (tys' := []) [] rfl
  have hFc := va_free (wc := [(q_420, .inr (0, [.null, .null, .null, .null, .null, .null, .int 0, .int 0, .int 0]))]) hD hS hA [17] rfl
  refine va_callv (va_runI (As := [.ref q_405]) (rest := [.ref q_420, .ref h0]) ⟨hx, hb, hml, hown, hwd⟩ (c_X0_init l dC dI q_420 q_405 H.size) (cwI 1 hwd (gS wk_347) rfl rfl rfl (hwd _ wk_346) (hwd _ wk_348) (hwd _ wk_349) rfl (by decide +kernel) ⟨Nat.le_of_ble_eq_true rfl, Nat.le_of_ble_eq_true rfl⟩) ⟨fun a U g mk q => by obtain ⟨q0, q1, qP, qK, qD, qx0⟩ := q; exact ⟨q0, q1, qP, va_K.moved (u := U) (U := U.calling g mk a) (Vm.Alike.refl U.vm) qK, qD, my_AO.moved (s := U) (U := U.calling g mk a) (Vm.Alike.refl U.vm) qx0⟩, fun U hU hW => ⟨rfl, by rw [hU], by rw [hU]; exact hPc, va_K.moved hW.alike hKc, hDc.weaken (fun _ _ _ _ => trivial), my_AO.moved hW.alike hAOA⟩⟩ rfl rfl hl.1 rfl (lv_room (Nat.le_of_ble_eq_true rfl)) dX11_init_113 ⟨Nat.le_of_ble_eq_true rfl, Nat.le_of_ble_eq_true rfl⟩) hS (fun q _ h => hFc q h) hFc (fun u t H1 locs ht hvm hw hB hz1 hk1 hS => ?_)
  have hP1 : va_P (dC, dI) classes [] H1 := fun k q h => by simp at h
  have hD1 : va_D (va_A [(q_420, .inr (0, [.null, .null, .null, .null, .null, .null, .int 0, .int 0, .int 0]))] H.size) [] := ⟨fun i j p q h => by simp at h, fun k q h => by simp at h⟩
  obtain ⟨hP, hD⟩ := va_join (wr := [(h0, .inr (11, [.ref q_387, .ref q_393, .ref q_402, .ref q_399, .ref q_405, .ref q_409, .ref q_414, .ref q_417, .null, .null, .null, .int 0, .int 0, .int 0])), (q_387, .inr (2, o2 gz_388)), (gz_388 1, .inl (c1_389, 30, .inl (fun _ => 0))), (gz_388 2, .inl (c2_390, 10, .inl (fun _ => 0))), (gz_388 3, .inl (c3_391, 10, .inl (fun _ => 0))), (q_393, .inr (8, o8 gz_394)), (gz_394 1, .inl (c1_395, 10, .inl (fun _ => 0))), (gz_394 4, .inl (c4_396, 10, .inl (fun _ => 0))), (gz_394 5, .inl (c5_397, 10, .inl (fun _ => 0))), (q_399, .inr (9, o9 gz_400)), (q_402, .inr (7, o7 gz_403)), (q_405, .inr (10, o10 gz_406)), (gz_406 1, .inl (c1_407, 120, .inl (fun _ => 0))), (q_409, .inr (4, o4 gz_410)), (gz_410 4, .inl (c4_411, 10, .inr (.inr (.inr (.inr (fun i => if i < 10 then some (r_412 i) else none)))))), (q_414, .inr (3, [.ref q_405, .ref cd_415, .int 0, .int 0, .int 0])), (q_417, .inr (6, o6 gz_418))]) (w1 := []) hP hD [17] [0, 1, 2, 3, 4, 5, 6, 7, 8, 9, 10, 11, 12, 13, 14, 15, 16] rfl rfl (by decide) (by decide) hk1 hFc hP1 hD1
  generalize H1 = H at hP hS ⊢
  have hP : va_P (dC, dI) classes [(h0, .inr (11, [.ref q_387, .ref q_393, .ref q_402, .ref q_399, .ref q_405, .ref q_409, .ref q_414, .ref q_417, .null, .null, .null, .int 0, .int 0, .int 0])), (q_387, .inr (2, o2 gz_388)), (gz_388 1, .inl (c1_389, 30, .inl (fun _ => 0))), (gz_388 2, .inl (c2_390, 10, .inl (fun _ => 0))), (gz_388 3, .inl (c3_391, 10, .inl (fun _ => 0))), (q_393, .inr (8, o8 gz_394)), (gz_394 1, .inl (c1_395, 10, .inl (fun _ => 0))), (gz_394 4, .inl (c4_396, 10, .inl (fun _ => 0))), (gz_394 5, .inl (c5_397, 10, .inl (fun _ => 0))), (q_399, .inr (9, o9 gz_400)), (q_402, .inr (7, o7 gz_403)), (q_405, .inr (10, o10 gz_406)), (gz_406 1, .inl (c1_407, 120, .inl (fun _ => 0))), (q_409, .inr (4, o4 gz_410)), (gz_410 4, .inl (c4_411, 10, .inr (.inr (.inr (.inr (fun i => if i < 10 then some (r_412 i) else none)))))), (q_414, .inr (3, [.ref q_405, .ref cd_415, .int 0, .int 0, .int 0])), (q_417, .inr (6, o6 gz_418))] H := hP
  have hD : va_D A [(h0, .inr (11, [.ref q_387, .ref q_393, .ref q_402, .ref q_399, .ref q_405, .ref q_409, .ref q_414, .ref q_417, .null, .null, .null, .int 0, .int 0, .int 0])), (q_387, .inr (2, o2 gz_388)), (gz_388 1, .inl (c1_389, 30, .inl (fun _ => 0))), (gz_388 2, .inl (c2_390, 10, .inl (fun _ => 0))), (gz_388 3, .inl (c3_391, 10, .inl (fun _ => 0))), (q_393, .inr (8, o8 gz_394)), (gz_394 1, .inl (c1_395, 10, .inl (fun _ => 0))), (gz_394 4, .inl (c4_396, 10, .inl (fun _ => 0))), (gz_394 5, .inl (c5_397, 10, .inl (fun _ => 0))), (q_399, .inr (9, o9 gz_400)), (q_402, .inr (7, o7 gz_403)), (q_405, .inr (10, o10 gz_406)), (gz_406 1, .inl (c1_407, 120, .inl (fun _ => 0))), (q_409, .inr (4, o4 gz_410)), (gz_410 4, .inl (c4_411, 10, .inr (.inr (.inr (.inr (fun i => if i < 10 then some (r_412 i) else none)))))), (q_414, .inr (3, [.ref q_405, .ref cd_415, .int 0, .int 0, .int 0])), (q_417, .inr (6, o6 gz_418))] := hD
  refine W.widen (k := 71) (n := 8790) (Nat.le_of_ble_eq_true rfl) (Nat.le_of_ble_eq_true rfl) ?_
  refine va_putF (D := (dC, dI)) (ci := 11) (v := .ref q_420) (ty := .object "PlanesBack$Contracts") (C := RX11) (T := TX11) (N := 14) hx hb hwd inA_X11 tyX11 tyX11_ok nmX11 hown hK hP hD hS 0 rfl rfl 8 (by decide) (hwd _ wk_350) (fun _ h9 => h9) rfl hin rfl (by decide +kernel) rfl rfl (Nat.le_of_ble_eq_true rfl) dX11_init_116 (fun H locs hP hD hS => ?_)
  have hP : va_P (dC, dI) classes [(h0, .inr (11, [.ref q_387, .ref q_393, .ref q_402, .ref q_399, .ref q_405, .ref q_409, .ref q_414, .ref q_417, .ref q_420, .null, .null, .int 0, .int 0, .int 0])), (q_387, .inr (2, o2 gz_388)), (gz_388 1, .inl (c1_389, 30, .inl (fun _ => 0))), (gz_388 2, .inl (c2_390, 10, .inl (fun _ => 0))), (gz_388 3, .inl (c3_391, 10, .inl (fun _ => 0))), (q_393, .inr (8, o8 gz_394)), (gz_394 1, .inl (c1_395, 10, .inl (fun _ => 0))), (gz_394 4, .inl (c4_396, 10, .inl (fun _ => 0))), (gz_394 5, .inl (c5_397, 10, .inl (fun _ => 0))), (q_399, .inr (9, o9 gz_400)), (q_402, .inr (7, o7 gz_403)), (q_405, .inr (10, o10 gz_406)), (gz_406 1, .inl (c1_407, 120, .inl (fun _ => 0))), (q_409, .inr (4, o4 gz_410)), (gz_410 4, .inl (c4_411, 10, .inr (.inr (.inr (.inr (fun i => if i < 10 then some (r_412 i) else none)))))), (q_414, .inr (3, [.ref q_405, .ref cd_415, .int 0, .int 0, .int 0])), (q_417, .inr (6, o6 gz_418))] H := hP
  have hD : va_D A [(h0, .inr (11, [.ref q_387, .ref q_393, .ref q_402, .ref q_399, .ref q_405, .ref q_409, .ref q_414, .ref q_417, .ref q_420, .null, .null, .int 0, .int 0, .int 0])), (q_387, .inr (2, o2 gz_388)), (gz_388 1, .inl (c1_389, 30, .inl (fun _ => 0))), (gz_388 2, .inl (c2_390, 10, .inl (fun _ => 0))), (gz_388 3, .inl (c3_391, 10, .inl (fun _ => 0))), (q_393, .inr (8, o8 gz_394)), (gz_394 1, .inl (c1_395, 10, .inl (fun _ => 0))), (gz_394 4, .inl (c4_396, 10, .inl (fun _ => 0))), (gz_394 5, .inl (c5_397, 10, .inl (fun _ => 0))), (q_399, .inr (9, o9 gz_400)), (q_402, .inr (7, o7 gz_403)), (q_405, .inr (10, o10 gz_406)), (gz_406 1, .inl (c1_407, 120, .inl (fun _ => 0))), (q_409, .inr (4, o4 gz_410)), (gz_410 4, .inl (c4_411, 10, .inr (.inr (.inr (.inr (fun i => if i < 10 then some (r_412 i) else none)))))), (q_414, .inr (3, [.ref q_405, .ref cd_415, .int 0, .int 0, .int 0])), (q_417, .inr (6, o6 gz_418))] := hD
  refine lv_aload_n hx hb dX11_init_119 rfl (lv_at hl 0 rfl) ?_
  refine va_new (ci := 5) (fs := [.null, .null, .null, .null, .null, .null]) (C := RX5) (T := TX5) (N := 6) hx hb hwd inA_X5 tyX5 tyX5_ok hown (hwd _ wk_351) (hwd _ wk_352) (hwd _ wk_353) hK hP hD hS hA rfl dvX5 (Nat.le_of_ble_eq_true rfl) (Nat.le_of_ble_eq_true rfl) dX11_init_120 (fun q_422 H hP hD hS => ?_)
  have hP : va_P (dC, dI) classes [(h0, .inr (11, [.ref q_387, .ref q_393, .ref q_402, .ref q_399, .ref q_405, .ref q_409, .ref q_414, .ref q_417, .ref q_420, .null, .null, .int 0, .int 0, .int 0])), (q_387, .inr (2, o2 gz_388)), (gz_388 1, .inl (c1_389, 30, .inl (fun _ => 0))), (gz_388 2, .inl (c2_390, 10, .inl (fun _ => 0))), (gz_388 3, .inl (c3_391, 10, .inl (fun _ => 0))), (q_393, .inr (8, o8 gz_394)), (gz_394 1, .inl (c1_395, 10, .inl (fun _ => 0))), (gz_394 4, .inl (c4_396, 10, .inl (fun _ => 0))), (gz_394 5, .inl (c5_397, 10, .inl (fun _ => 0))), (q_399, .inr (9, o9 gz_400)), (q_402, .inr (7, o7 gz_403)), (q_405, .inr (10, o10 gz_406)), (gz_406 1, .inl (c1_407, 120, .inl (fun _ => 0))), (q_409, .inr (4, o4 gz_410)), (gz_410 4, .inl (c4_411, 10, .inr (.inr (.inr (.inr (fun i => if i < 10 then some (r_412 i) else none)))))), (q_414, .inr (3, [.ref q_405, .ref cd_415, .int 0, .int 0, .int 0])), (q_417, .inr (6, o6 gz_418)), (q_422, .inr (5, [.null, .null, .null, .null, .null, .null]))] H := hP
  have hD : va_D A [(h0, .inr (11, [.ref q_387, .ref q_393, .ref q_402, .ref q_399, .ref q_405, .ref q_409, .ref q_414, .ref q_417, .ref q_420, .null, .null, .int 0, .int 0, .int 0])), (q_387, .inr (2, o2 gz_388)), (gz_388 1, .inl (c1_389, 30, .inl (fun _ => 0))), (gz_388 2, .inl (c2_390, 10, .inl (fun _ => 0))), (gz_388 3, .inl (c3_391, 10, .inl (fun _ => 0))), (q_393, .inr (8, o8 gz_394)), (gz_394 1, .inl (c1_395, 10, .inl (fun _ => 0))), (gz_394 4, .inl (c4_396, 10, .inl (fun _ => 0))), (gz_394 5, .inl (c5_397, 10, .inl (fun _ => 0))), (q_399, .inr (9, o9 gz_400)), (q_402, .inr (7, o7 gz_403)), (q_405, .inr (10, o10 gz_406)), (gz_406 1, .inl (c1_407, 120, .inl (fun _ => 0))), (q_409, .inr (4, o4 gz_410)), (gz_410 4, .inl (c4_411, 10, .inr (.inr (.inr (.inr (fun i => if i < 10 then some (r_412 i) else none)))))), (q_414, .inr (3, [.ref q_405, .ref cd_415, .int 0, .int 0, .int 0])), (q_417, .inr (6, o6 gz_418)), (q_422, .inr (5, [.null, .null, .null, .null, .null, .null]))] := hD
  refine W.widen (k := 72) (n := 8796) (Nat.le_of_ble_eq_true rfl) (Nat.le_of_ble_eq_true rfl) ?_
  refine lv_dup hx hb dX11_init_123 rfl ?_
  refine lv_aload_n hx hb dX11_init_124 rfl (lv_at hl 0 rfl) ?_
  refine va_get (D := (dC, dI)) (ci := 11) (v := .ref q_387) (C := RX11) (T := TX11) (N := 14) hx hb hwd inA_X11 hown hK hP 0 rfl rfl 0 (by decide) (hwd _ wk_29) (fun _ h9 => h9) rfl dX11_init_125 ?_
  refine lv_aload_n hx hb dX11_init_128 rfl (lv_at hl 0 rfl) ?_
  refine va_get (D := (dC, dI)) (ci := 11) (v := .ref q_402) (C := RX11) (T := TX11) (N := 14) hx hb hwd inA_X11 hown hK hP 0 rfl rfl 2 (by decide) (hwd _ wk_16) (fun _ h9 => h9) rfl dX11_init_129 ?_
  refine lv_aload_n hx hb dX11_init_132 rfl (lv_at hl 0 rfl) ?_
  refine va_get (D := (dC, dI)) (ci := 11) (v := .ref q_409) (C := RX11) (T := TX11) (N := 14) hx hb hwd inA_X11 hown hK hP 0 rfl rfl 5 (by decide) (hwd _ wk_150) (fun _ h9 => h9) rfl dX11_init_133 ?_
  have hPc := hP.sub (ws' := [(q_422, .inr (5, [.null, .null, .null, .null, .null, .null])), (q_402, .inr (7, o7 gz_403))]) [17, 10] rfl
  have hDc := hD.sub (ws' := [(q_422, .inr (5, [.null, .null, .null, .null, .null, .null])), (q_402, .inr (7, o7 gz_403))]) [17, 10] (by decide) rfl
  have hKc := hK.sub (tys' := []) [] rfl
  have hFc := va_free (wc := [(q_422, .inr (5, [.null, .null, .null, .null, .null, .null])), (q_402, .inr (7, o7 gz_403))]) hD hS hA [17, 10] rfl
  refine va_callv (va_runI (As := [.ref q_387, .ref q_402, .ref q_409]) (rest := [.ref q_422, .ref h0]) ⟨hx, hb, hml, hown, hwd⟩ (c_X5_init l dC dI q_422 q_387 q_409 gz_403 adK adV H.size q_402) (cwI 3 hwd (gS wk_354) rfl rfl rfl (hwd _ wk_353) (hwd _ wk_355) (hwd _ wk_356) rfl (by decide +kernel) ⟨Nat.le_of_ble_eq_true rfl, Nat.le_of_ble_eq_true rfl⟩) ⟨fun a U g mk q => by obtain ⟨q0, q1, qP, qK, qD, qx0, qx1, qx2⟩ := q; exact ⟨q0, q1, qP, va_K.moved (u := U) (U := U.calling g mk a) (Vm.Alike.refl U.vm) qK, qD, vk_R.same (u := U) (U := U.calling g mk a) rfl qx0, vk_S.moved (u := U) (U := U.calling g mk a) (Vm.Alike.refl U.vm) qx1, va_Z.moved (u := U) (U := U.calling g mk a) (Vm.Alike.refl U.vm) qx2⟩, fun U hU hW => ⟨rfl, by rw [hU], by rw [hU]; exact hPc, va_K.moved hW.alike hKc, hDc.weaken (fun _ _ _ _ => trivial), vk_R.warm hW hSR, by rw [hU]; exact ((hSS.kept hS.2.1).narrow hFc).moved hW.alike, by rw [hU]; exact ((hSZ.kept hS.2.1).narrow hFc).moved hW.alike⟩⟩ rfl rfl hl.1 rfl (lv_room (Nat.le_of_ble_eq_true rfl)) dX11_init_136 ⟨Nat.le_of_ble_eq_true rfl, Nat.le_of_ble_eq_true rfl⟩) hS (fun q _ h => hFc q h) hFc (fun u t H1 locs ht hvm hw hB hz1 hk1 hS => ?_)
  obtain ⟨gz_423, hP1, hK1, hD1⟩ := hB
  rw [ht] at hP1
  obtain ⟨hP, hD⟩ := va_join (wr := [(h0, .inr (11, [.ref q_387, .ref q_393, .ref q_402, .ref q_399, .ref q_405, .ref q_409, .ref q_414, .ref q_417, .ref q_420, .null, .null, .int 0, .int 0, .int 0])), (q_387, .inr (2, o2 gz_388)), (gz_388 1, .inl (c1_389, 30, .inl (fun _ => 0))), (gz_388 2, .inl (c2_390, 10, .inl (fun _ => 0))), (gz_388 3, .inl (c3_391, 10, .inl (fun _ => 0))), (q_393, .inr (8, o8 gz_394)), (gz_394 1, .inl (c1_395, 10, .inl (fun _ => 0))), (gz_394 4, .inl (c4_396, 10, .inl (fun _ => 0))), (gz_394 5, .inl (c5_397, 10, .inl (fun _ => 0))), (q_399, .inr (9, o9 gz_400)), (q_405, .inr (10, o10 gz_406)), (gz_406 1, .inl (c1_407, 120, .inl (fun _ => 0))), (q_409, .inr (4, o4 gz_410)), (gz_410 4, .inl (c4_411, 10, .inr (.inr (.inr (.inr (fun i => if i < 10 then some (r_412 i) else none)))))), (q_414, .inr (3, [.ref q_405, .ref cd_415, .int 0, .int 0, .int 0])), (q_417, .inr (6, o6 gz_418))]) (w1 := [(q_422, .inr (5, o5 gz_423)), (q_402, .inr (7, o7 gz_403))]) hP hD [17, 10] [0, 1, 2, 3, 4, 5, 6, 7, 8, 9, 11, 12, 13, 14, 15, 16] rfl rfl (by decide) (by decide) hk1 hFc hP1 hD1
  generalize H1 = H at hP hS ⊢
  have hP : va_P (dC, dI) classes [(h0, .inr (11, [.ref q_387, .ref q_393, .ref q_402, .ref q_399, .ref q_405, .ref q_409, .ref q_414, .ref q_417, .ref q_420, .null, .null, .int 0, .int 0, .int 0])), (q_387, .inr (2, o2 gz_388)), (gz_388 1, .inl (c1_389, 30, .inl (fun _ => 0))), (gz_388 2, .inl (c2_390, 10, .inl (fun _ => 0))), (gz_388 3, .inl (c3_391, 10, .inl (fun _ => 0))), (q_393, .inr (8, o8 gz_394)), (gz_394 1, .inl (c1_395, 10, .inl (fun _ => 0))), (gz_394 4, .inl (c4_396, 10, .inl (fun _ => 0))), (gz_394 5, .inl (c5_397, 10, .inl (fun _ => 0))), (q_399, .inr (9, o9 gz_400)), (q_405, .inr (10, o10 gz_406)), (gz_406 1, .inl (c1_407, 120, .inl (fun _ => 0))), (q_409, .inr (4, o4 gz_410)), (gz_410 4, .inl (c4_411, 10, .inr (.inr (.inr (.inr (fun i => if i < 10 then some (r_412 i) else none)))))), (q_414, .inr (3, [.ref q_405, .ref cd_415, .int 0, .int 0, .int 0])), (q_417, .inr (6, o6 gz_418)), (q_422, .inr (5, o5 gz_423)), (q_402, .inr (7, o7 gz_403))] H := hP
  have hD : va_D A [(h0, .inr (11, [.ref q_387, .ref q_393, .ref q_402, .ref q_399, .ref q_405, .ref q_409, .ref q_414, .ref q_417, .ref q_420, .null, .null, .int 0, .int 0, .int 0])), (q_387, .inr (2, o2 gz_388)), (gz_388 1, .inl (c1_389, 30, .inl (fun _ => 0))), (gz_388 2, .inl (c2_390, 10, .inl (fun _ => 0))), (gz_388 3, .inl (c3_391, 10, .inl (fun _ => 0))), (q_393, .inr (8, o8 gz_394)), (gz_394 1, .inl (c1_395, 10, .inl (fun _ => 0))), (gz_394 4, .inl (c4_396, 10, .inl (fun _ => 0))), (gz_394 5, .inl (c5_397, 10, .inl (fun _ => 0))), (q_399, .inr (9, o9 gz_400)), (q_405, .inr (10, o10 gz_406)), (gz_406 1, .inl (c1_407, 120, .inl (fun _ => 0))), (q_409, .inr (4, o4 gz_410)), (gz_410 4, .inl (c4_411, 10, .inr (.inr (.inr (.inr (fun i => if i < 10 then some (r_412 i) else none)))))), (q_414, .inr (3, [.ref q_405, .ref cd_415, .int 0, .int 0, .int 0])), (q_417, .inr (6, o6 gz_418)), (q_422, .inr (5, o5 gz_423)), (q_402, .inr (7, o7 gz_403))] := hD
  refine W.widen (k := 74) (n := 8805) (Nat.le_of_ble_eq_true rfl) (Nat.le_of_ble_eq_true rfl) ?_
  refine va_putF (D := (dC, dI)) (ci := 11) (v := .ref q_422) (ty := .object "PlanesBack$Lives") (C := RX11) (T := TX11) (N := 14) hx hb hwd inA_X11 tyX11 tyX11_ok nmX11 hown hK hP hD hS 0 rfl rfl 9 (by decide) (hwd _ wk_357) (fun _ h9 => h9) rfl hin rfl (by decide +kernel) rfl rfl (Nat.le_of_ble_eq_true rfl) dX11_init_139 (fun H locs hP hD hS => ?_)
  have hP : va_P (dC, dI) classes [(h0, .inr (11, [.ref q_387, .ref q_393, .ref q_402, .ref q_399, .ref q_405, .ref q_409, .ref q_414, .ref q_417, .ref q_420, .ref q_422, .null, .int 0, .int 0, .int 0])), (q_387, .inr (2, o2 gz_388)), (gz_388 1, .inl (c1_389, 30, .inl (fun _ => 0))), (gz_388 2, .inl (c2_390, 10, .inl (fun _ => 0))), (gz_388 3, .inl (c3_391, 10, .inl (fun _ => 0))), (q_393, .inr (8, o8 gz_394)), (gz_394 1, .inl (c1_395, 10, .inl (fun _ => 0))), (gz_394 4, .inl (c4_396, 10, .inl (fun _ => 0))), (gz_394 5, .inl (c5_397, 10, .inl (fun _ => 0))), (q_399, .inr (9, o9 gz_400)), (q_405, .inr (10, o10 gz_406)), (gz_406 1, .inl (c1_407, 120, .inl (fun _ => 0))), (q_409, .inr (4, o4 gz_410)), (gz_410 4, .inl (c4_411, 10, .inr (.inr (.inr (.inr (fun i => if i < 10 then some (r_412 i) else none)))))), (q_414, .inr (3, [.ref q_405, .ref cd_415, .int 0, .int 0, .int 0])), (q_417, .inr (6, o6 gz_418)), (q_422, .inr (5, o5 gz_423)), (q_402, .inr (7, o7 gz_403))] H := hP
  have hD : va_D A [(h0, .inr (11, [.ref q_387, .ref q_393, .ref q_402, .ref q_399, .ref q_405, .ref q_409, .ref q_414, .ref q_417, .ref q_420, .ref q_422, .null, .int 0, .int 0, .int 0])), (q_387, .inr (2, o2 gz_388)), (gz_388 1, .inl (c1_389, 30, .inl (fun _ => 0))), (gz_388 2, .inl (c2_390, 10, .inl (fun _ => 0))), (gz_388 3, .inl (c3_391, 10, .inl (fun _ => 0))), (q_393, .inr (8, o8 gz_394)), (gz_394 1, .inl (c1_395, 10, .inl (fun _ => 0))), (gz_394 4, .inl (c4_396, 10, .inl (fun _ => 0))), (gz_394 5, .inl (c5_397, 10, .inl (fun _ => 0))), (q_399, .inr (9, o9 gz_400)), (q_405, .inr (10, o10 gz_406)), (gz_406 1, .inl (c1_407, 120, .inl (fun _ => 0))), (q_409, .inr (4, o4 gz_410)), (gz_410 4, .inl (c4_411, 10, .inr (.inr (.inr (.inr (fun i => if i < 10 then some (r_412 i) else none)))))), (q_414, .inr (3, [.ref q_405, .ref cd_415, .int 0, .int 0, .int 0])), (q_417, .inr (6, o6 gz_418)), (q_422, .inr (5, o5 gz_423)), (q_402, .inr (7, o7 gz_403))] := hD
  refine lv_aload_n hx hb dX11_init_142 rfl (lv_at hl 0 rfl) ?_
  refine va_new (ci := 1) (fs := [.null, .null, .null, .null, .null, .null, .null, .null, .null, .int 0, .null, .int 0, .int 0]) (C := RX1) (T := TX1) (N := 13) hx hb hwd inA_X1 tyX1 tyX1_ok hown (hwd _ wk_358) (hwd _ wk_359) (hwd _ wk_360) hK hP hD hS hA rfl dvX1 (Nat.le_of_ble_eq_true rfl) (Nat.le_of_ble_eq_true rfl) dX11_init_143 (fun q_425 H hP hD hS => ?_)
  have hP : va_P (dC, dI) classes [(h0, .inr (11, [.ref q_387, .ref q_393, .ref q_402, .ref q_399, .ref q_405, .ref q_409, .ref q_414, .ref q_417, .ref q_420, .ref q_422, .null, .int 0, .int 0, .int 0])), (q_387, .inr (2, o2 gz_388)), (gz_388 1, .inl (c1_389, 30, .inl (fun _ => 0))), (gz_388 2, .inl (c2_390, 10, .inl (fun _ => 0))), (gz_388 3, .inl (c3_391, 10, .inl (fun _ => 0))), (q_393, .inr (8, o8 gz_394)), (gz_394 1, .inl (c1_395, 10, .inl (fun _ => 0))), (gz_394 4, .inl (c4_396, 10, .inl (fun _ => 0))), (gz_394 5, .inl (c5_397, 10, .inl (fun _ => 0))), (q_399, .inr (9, o9 gz_400)), (q_405, .inr (10, o10 gz_406)), (gz_406 1, .inl (c1_407, 120, .inl (fun _ => 0))), (q_409, .inr (4, o4 gz_410)), (gz_410 4, .inl (c4_411, 10, .inr (.inr (.inr (.inr (fun i => if i < 10 then some (r_412 i) else none)))))), (q_414, .inr (3, [.ref q_405, .ref cd_415, .int 0, .int 0, .int 0])), (q_417, .inr (6, o6 gz_418)), (q_422, .inr (5, o5 gz_423)), (q_402, .inr (7, o7 gz_403)), (q_425, .inr (1, [.null, .null, .null, .null, .null, .null, .null, .null, .null, .int 0, .null, .int 0, .int 0]))] H := hP
  have hD : va_D A [(h0, .inr (11, [.ref q_387, .ref q_393, .ref q_402, .ref q_399, .ref q_405, .ref q_409, .ref q_414, .ref q_417, .ref q_420, .ref q_422, .null, .int 0, .int 0, .int 0])), (q_387, .inr (2, o2 gz_388)), (gz_388 1, .inl (c1_389, 30, .inl (fun _ => 0))), (gz_388 2, .inl (c2_390, 10, .inl (fun _ => 0))), (gz_388 3, .inl (c3_391, 10, .inl (fun _ => 0))), (q_393, .inr (8, o8 gz_394)), (gz_394 1, .inl (c1_395, 10, .inl (fun _ => 0))), (gz_394 4, .inl (c4_396, 10, .inl (fun _ => 0))), (gz_394 5, .inl (c5_397, 10, .inl (fun _ => 0))), (q_399, .inr (9, o9 gz_400)), (q_405, .inr (10, o10 gz_406)), (gz_406 1, .inl (c1_407, 120, .inl (fun _ => 0))), (q_409, .inr (4, o4 gz_410)), (gz_410 4, .inl (c4_411, 10, .inr (.inr (.inr (.inr (fun i => if i < 10 then some (r_412 i) else none)))))), (q_414, .inr (3, [.ref q_405, .ref cd_415, .int 0, .int 0, .int 0])), (q_417, .inr (6, o6 gz_418)), (q_422, .inr (5, o5 gz_423)), (q_402, .inr (7, o7 gz_403)), (q_425, .inr (1, [.null, .null, .null, .null, .null, .null, .null, .null, .null, .int 0, .null, .int 0, .int 0]))] := hD
  refine W.widen (k := 75) (n := 8818) (Nat.le_of_ble_eq_true rfl) (Nat.le_of_ble_eq_true rfl) ?_
  refine lv_dup hx hb dX11_init_146 rfl ?_
  refine lv_aload_n hx hb dX11_init_147 rfl (lv_at hl 0 rfl) ?_
  refine va_get (D := (dC, dI)) (ci := 11) (v := .ref q_393) (C := RX11) (T := TX11) (N := 14) hx hb hwd inA_X11 hown hK hP 0 rfl rfl 1 (by decide) (hwd _ wk_22) (fun _ h9 => h9) rfl dX11_init_148 ?_
  refine lv_aload_n hx hb dX11_init_151 rfl (lv_at hl 0 rfl) ?_
  refine va_get (D := (dC, dI)) (ci := 11) (v := .ref q_422) (C := RX11) (T := TX11) (N := 14) hx hb hwd inA_X11 hown hK hP 0 rfl rfl 9 (by decide) (hwd _ wk_357) (fun _ h9 => h9) rfl dX11_init_152 ?_
  refine lv_aload_n hx hb dX11_init_155 rfl (lv_at hl 0 rfl) ?_
  refine va_get (D := (dC, dI)) (ci := 11) (v := .ref q_417) (C := RX11) (T := TX11) (N := 14) hx hb hwd inA_X11 hown hK hP 0 rfl rfl 7 (by decide) (hwd _ wk_39) (fun _ h9 => h9) rfl dX11_init_156 ?_
  refine lv_aload_n hx hb dX11_init_159 rfl (lv_at hl 0 rfl) ?_
  refine va_get (D := (dC, dI)) (ci := 11) (v := .ref q_420) (C := RX11) (T := TX11) (N := 14) hx hb hwd inA_X11 hown hK hP 0 rfl rfl 8 (by decide) (hwd _ wk_350) (fun _ h9 => h9) rfl dX11_init_160 ?_
  have hPc := hP.sub (ws' := [(q_425, .inr (1, [.null, .null, .null, .null, .null, .null, .null, .null, .null, .int 0, .null, .int 0, .int 0])), (q_422, .inr (5, o5 gz_423))]) [18, 16] rfl
  have hDc := hD.sub (ws' := [(q_425, .inr (1, [.null, .null, .null, .null, .null, .null, .null, .null, .null, .int 0, .null, .int 0, .int 0])), (q_422, .inr (5, o5 gz_423))]) [18, 16] (by decide) rfl
  have hKc := hK.sub (tys' := []) [] rfl
  have hFc := va_free (wc := [(q_425, .inr (1, [.null, .null, .null, .null, .null, .null, .null, .null, .null, .int 0, .null, .int 0, .int 0])), (q_422, .inr (5, o5 gz_423))]) hD hS hA [18, 16] rfl
  refine va_callv (va_runI (As := [.ref q_393, .ref q_422, .ref q_417, .ref q_420]) (rest := [.ref q_425, .ref h0]) ⟨hx, hb, hml, hown, hwd⟩ (c_X1_init l dC dI q_425 q_422 q_417 q_420 gz_423 H.size q_393) (cwI 4 hwd (gS wk_361) rfl rfl rfl (hwd _ wk_360) (hwd _ wk_362) (hwd _ wk_363) rfl (by decide +kernel) ⟨Nat.le_of_ble_eq_true rfl, Nat.le_of_ble_eq_true rfl⟩) ⟨fun a U g mk q => by obtain ⟨q0, q1, qP, qK, qD⟩ := q; exact ⟨q0, q1, qP, va_K.moved (u := U) (U := U.calling g mk a) (Vm.Alike.refl U.vm) qK, qD⟩, fun U hU hW => ⟨rfl, by rw [hU], by rw [hU]; exact hPc, va_K.moved hW.alike hKc, hDc.weaken (fun _ _ _ _ => trivial)⟩⟩ rfl rfl hl.1 rfl (lv_room (Nat.le_of_ble_eq_true rfl)) dX11_init_163 ⟨Nat.le_of_ble_eq_true rfl, Nat.le_of_ble_eq_true rfl⟩) hS (fun q _ h => hFc q h) hFc (fun u t H1 locs ht hvm hw hB hz1 hk1 hS => ?_)
  have hP1 : va_P (dC, dI) classes [] H1 := fun k q h => by simp at h
  have hD1 : va_D (va_A [(q_425, .inr (1, [.null, .null, .null, .null, .null, .null, .null, .null, .null, .int 0, .null, .int 0, .int 0])), (q_422, .inr (5, o5 gz_423))] H.size) [] := ⟨fun i j p q h => by simp at h, fun k q h => by simp at h⟩
  obtain ⟨hP, hD⟩ := va_join (wr := [(h0, .inr (11, [.ref q_387, .ref q_393, .ref q_402, .ref q_399, .ref q_405, .ref q_409, .ref q_414, .ref q_417, .ref q_420, .ref q_422, .null, .int 0, .int 0, .int 0])), (q_387, .inr (2, o2 gz_388)), (gz_388 1, .inl (c1_389, 30, .inl (fun _ => 0))), (gz_388 2, .inl (c2_390, 10, .inl (fun _ => 0))), (gz_388 3, .inl (c3_391, 10, .inl (fun _ => 0))), (q_393, .inr (8, o8 gz_394)), (gz_394 1, .inl (c1_395, 10, .inl (fun _ => 0))), (gz_394 4, .inl (c4_396, 10, .inl (fun _ => 0))), (gz_394 5, .inl (c5_397, 10, .inl (fun _ => 0))), (q_399, .inr (9, o9 gz_400)), (q_405, .inr (10, o10 gz_406)), (gz_406 1, .inl (c1_407, 120, .inl (fun _ => 0))), (q_409, .inr (4, o4 gz_410)), (gz_410 4, .inl (c4_411, 10, .inr (.inr (.inr (.inr (fun i => if i < 10 then some (r_412 i) else none)))))), (q_414, .inr (3, [.ref q_405, .ref cd_415, .int 0, .int 0, .int 0])), (q_417, .inr (6, o6 gz_418)), (q_402, .inr (7, o7 gz_403))]) (w1 := []) hP hD [18, 16] [0, 1, 2, 3, 4, 5, 6, 7, 8, 9, 10, 11, 12, 13, 14, 15, 17] rfl rfl (by decide) (by decide) hk1 hFc hP1 hD1
  generalize H1 = H at hP hS ⊢
  have hP : va_P (dC, dI) classes [(h0, .inr (11, [.ref q_387, .ref q_393, .ref q_402, .ref q_399, .ref q_405, .ref q_409, .ref q_414, .ref q_417, .ref q_420, .ref q_422, .null, .int 0, .int 0, .int 0])), (q_387, .inr (2, o2 gz_388)), (gz_388 1, .inl (c1_389, 30, .inl (fun _ => 0))), (gz_388 2, .inl (c2_390, 10, .inl (fun _ => 0))), (gz_388 3, .inl (c3_391, 10, .inl (fun _ => 0))), (q_393, .inr (8, o8 gz_394)), (gz_394 1, .inl (c1_395, 10, .inl (fun _ => 0))), (gz_394 4, .inl (c4_396, 10, .inl (fun _ => 0))), (gz_394 5, .inl (c5_397, 10, .inl (fun _ => 0))), (q_399, .inr (9, o9 gz_400)), (q_405, .inr (10, o10 gz_406)), (gz_406 1, .inl (c1_407, 120, .inl (fun _ => 0))), (q_409, .inr (4, o4 gz_410)), (gz_410 4, .inl (c4_411, 10, .inr (.inr (.inr (.inr (fun i => if i < 10 then some (r_412 i) else none)))))), (q_414, .inr (3, [.ref q_405, .ref cd_415, .int 0, .int 0, .int 0])), (q_417, .inr (6, o6 gz_418)), (q_402, .inr (7, o7 gz_403))] H := hP
  have hD : va_D A [(h0, .inr (11, [.ref q_387, .ref q_393, .ref q_402, .ref q_399, .ref q_405, .ref q_409, .ref q_414, .ref q_417, .ref q_420, .ref q_422, .null, .int 0, .int 0, .int 0])), (q_387, .inr (2, o2 gz_388)), (gz_388 1, .inl (c1_389, 30, .inl (fun _ => 0))), (gz_388 2, .inl (c2_390, 10, .inl (fun _ => 0))), (gz_388 3, .inl (c3_391, 10, .inl (fun _ => 0))), (q_393, .inr (8, o8 gz_394)), (gz_394 1, .inl (c1_395, 10, .inl (fun _ => 0))), (gz_394 4, .inl (c4_396, 10, .inl (fun _ => 0))), (gz_394 5, .inl (c5_397, 10, .inl (fun _ => 0))), (q_399, .inr (9, o9 gz_400)), (q_405, .inr (10, o10 gz_406)), (gz_406 1, .inl (c1_407, 120, .inl (fun _ => 0))), (q_409, .inr (4, o4 gz_410)), (gz_410 4, .inl (c4_411, 10, .inr (.inr (.inr (.inr (fun i => if i < 10 then some (r_412 i) else none)))))), (q_414, .inr (3, [.ref q_405, .ref cd_415, .int 0, .int 0, .int 0])), (q_417, .inr (6, o6 gz_418)), (q_402, .inr (7, o7 gz_403))] := hD
  refine W.widen (k := 79) (n := 9326) (Nat.le_of_ble_eq_true rfl) (Nat.le_of_ble_eq_true rfl) ?_
  refine va_putF (D := (dC, dI)) (ci := 11) (v := .ref q_425) (ty := .object "PlanesBack$Judge") (C := RX11) (T := TX11) (N := 14) hx hb hwd inA_X11 tyX11 tyX11_ok nmX11 hown hK hP hD hS 0 rfl rfl 10 (by decide) (hwd _ wk_364) (fun _ h9 => h9) rfl hin rfl (by decide +kernel) rfl rfl (Nat.le_of_ble_eq_true rfl) dX11_init_166 (fun H locs hP hD hS => ?_)
  have hP : va_P (dC, dI) classes [(h0, .inr (11, [.ref q_387, .ref q_393, .ref q_402, .ref q_399, .ref q_405, .ref q_409, .ref q_414, .ref q_417, .ref q_420, .ref q_422, .ref q_425, .int 0, .int 0, .int 0])), (q_387, .inr (2, o2 gz_388)), (gz_388 1, .inl (c1_389, 30, .inl (fun _ => 0))), (gz_388 2, .inl (c2_390, 10, .inl (fun _ => 0))), (gz_388 3, .inl (c3_391, 10, .inl (fun _ => 0))), (q_393, .inr (8, o8 gz_394)), (gz_394 1, .inl (c1_395, 10, .inl (fun _ => 0))), (gz_394 4, .inl (c4_396, 10, .inl (fun _ => 0))), (gz_394 5, .inl (c5_397, 10, .inl (fun _ => 0))), (q_399, .inr (9, o9 gz_400)), (q_405, .inr (10, o10 gz_406)), (gz_406 1, .inl (c1_407, 120, .inl (fun _ => 0))), (q_409, .inr (4, o4 gz_410)), (gz_410 4, .inl (c4_411, 10, .inr (.inr (.inr (.inr (fun i => if i < 10 then some (r_412 i) else none)))))), (q_414, .inr (3, [.ref q_405, .ref cd_415, .int 0, .int 0, .int 0])), (q_417, .inr (6, o6 gz_418)), (q_402, .inr (7, o7 gz_403))] H := hP
  have hD : va_D A [(h0, .inr (11, [.ref q_387, .ref q_393, .ref q_402, .ref q_399, .ref q_405, .ref q_409, .ref q_414, .ref q_417, .ref q_420, .ref q_422, .ref q_425, .int 0, .int 0, .int 0])), (q_387, .inr (2, o2 gz_388)), (gz_388 1, .inl (c1_389, 30, .inl (fun _ => 0))), (gz_388 2, .inl (c2_390, 10, .inl (fun _ => 0))), (gz_388 3, .inl (c3_391, 10, .inl (fun _ => 0))), (q_393, .inr (8, o8 gz_394)), (gz_394 1, .inl (c1_395, 10, .inl (fun _ => 0))), (gz_394 4, .inl (c4_396, 10, .inl (fun _ => 0))), (gz_394 5, .inl (c5_397, 10, .inl (fun _ => 0))), (q_399, .inr (9, o9 gz_400)), (q_405, .inr (10, o10 gz_406)), (gz_406 1, .inl (c1_407, 120, .inl (fun _ => 0))), (q_409, .inr (4, o4 gz_410)), (gz_410 4, .inl (c4_411, 10, .inr (.inr (.inr (.inr (fun i => if i < 10 then some (r_412 i) else none)))))), (q_414, .inr (3, [.ref q_405, .ref cd_415, .int 0, .int 0, .int 0])), (q_417, .inr (6, o6 gz_418)), (q_402, .inr (7, o7 gz_403))] := hD
  refine lv_aload_n hx hb dX11_init_169 rfl (lv_at hl 0 rfl) ?_
  refine lv_ldc (v := (-2000000000)) hx hb hown (hwd _ wk_28) dX11_init_170 ?_
  refine va_put (D := (dC, dI)) (ci := 11) (v := .int (-2000000000)) (ty := .int) (C := RX11) (T := TX11) (N := 14) hx hb hwd inA_X11 tyX11 tyX11_ok nmX11 hown hK hP hD hS 0 rfl rfl 13 (by decide) (hwd _ wk_59) (fun _ h9 => h9) rfl (by decide +kernel) rfl rfl (Nat.le_of_ble_eq_true rfl) dX11_init_172 (fun H locs hP hD hS => ?_)
  have hP : va_P (dC, dI) classes [(h0, .inr (11, [.ref q_387, .ref q_393, .ref q_402, .ref q_399, .ref q_405, .ref q_409, .ref q_414, .ref q_417, .ref q_420, .ref q_422, .ref q_425, .int 0, .int 0, .int (-2000000000)])), (q_387, .inr (2, o2 gz_388)), (gz_388 1, .inl (c1_389, 30, .inl (fun _ => 0))), (gz_388 2, .inl (c2_390, 10, .inl (fun _ => 0))), (gz_388 3, .inl (c3_391, 10, .inl (fun _ => 0))), (q_393, .inr (8, o8 gz_394)), (gz_394 1, .inl (c1_395, 10, .inl (fun _ => 0))), (gz_394 4, .inl (c4_396, 10, .inl (fun _ => 0))), (gz_394 5, .inl (c5_397, 10, .inl (fun _ => 0))), (q_399, .inr (9, o9 gz_400)), (q_405, .inr (10, o10 gz_406)), (gz_406 1, .inl (c1_407, 120, .inl (fun _ => 0))), (q_409, .inr (4, o4 gz_410)), (gz_410 4, .inl (c4_411, 10, .inr (.inr (.inr (.inr (fun i => if i < 10 then some (r_412 i) else none)))))), (q_414, .inr (3, [.ref q_405, .ref cd_415, .int 0, .int 0, .int 0])), (q_417, .inr (6, o6 gz_418)), (q_402, .inr (7, o7 gz_403))] H := hP
  have hD : va_D A [(h0, .inr (11, [.ref q_387, .ref q_393, .ref q_402, .ref q_399, .ref q_405, .ref q_409, .ref q_414, .ref q_417, .ref q_420, .ref q_422, .ref q_425, .int 0, .int 0, .int (-2000000000)])), (q_387, .inr (2, o2 gz_388)), (gz_388 1, .inl (c1_389, 30, .inl (fun _ => 0))), (gz_388 2, .inl (c2_390, 10, .inl (fun _ => 0))), (gz_388 3, .inl (c3_391, 10, .inl (fun _ => 0))), (q_393, .inr (8, o8 gz_394)), (gz_394 1, .inl (c1_395, 10, .inl (fun _ => 0))), (gz_394 4, .inl (c4_396, 10, .inl (fun _ => 0))), (gz_394 5, .inl (c5_397, 10, .inl (fun _ => 0))), (q_399, .inr (9, o9 gz_400)), (q_405, .inr (10, o10 gz_406)), (gz_406 1, .inl (c1_407, 120, .inl (fun _ => 0))), (q_409, .inr (4, o4 gz_410)), (gz_410 4, .inl (c4_411, 10, .inr (.inr (.inr (.inr (fun i => if i < 10 then some (r_412 i) else none)))))), (q_414, .inr (3, [.ref q_405, .ref cd_415, .int 0, .int 0, .int 0])), (q_417, .inr (6, o6 gz_418)), (q_402, .inr (7, o7 gz_403))] := hD
  have hP9 : va_P (dC, dI) classes [(h0, .inr (11, o11 (fun k => [q_387, q_393, q_402, q_399, q_405, q_409, q_414, q_417, q_420, q_422, q_425, 0, 0, 0].getD k 0))), ((fun k => [q_387, q_393, q_402, q_399, q_405, q_409, q_414, q_417, q_420, q_422, q_425, 0, 0, 0].getD k 0) 0, .inr (2, o2 gz_388)), (gz_388 1, .inl (c1_389, 30, .inl (fun _ => 0))), (gz_388 2, .inl (c2_390, 10, .inl (fun _ => 0))), (gz_388 3, .inl (c3_391, 10, .inl (fun _ => 0))), ((fun k => [q_387, q_393, q_402, q_399, q_405, q_409, q_414, q_417, q_420, q_422, q_425, 0, 0, 0].getD k 0) 1, .inr (8, o8 gz_394)), (gz_394 1, .inl (c1_395, 10, .inl (fun _ => 0))), (gz_394 4, .inl (c4_396, 10, .inl (fun _ => 0))), (gz_394 5, .inl (c5_397, 10, .inl (fun _ => 0))), ((fun k => [q_387, q_393, q_402, q_399, q_405, q_409, q_414, q_417, q_420, q_422, q_425, 0, 0, 0].getD k 0) 2, .inr (7, o7 gz_403)), ((fun k => [q_387, q_393, q_402, q_399, q_405, q_409, q_414, q_417, q_420, q_422, q_425, 0, 0, 0].getD k 0) 3, .inr (9, o9 gz_400)), ((fun k => [q_387, q_393, q_402, q_399, q_405, q_409, q_414, q_417, q_420, q_422, q_425, 0, 0, 0].getD k 0) 4, .inr (10, o10 gz_406)), (gz_406 1, .inl (c1_407, 120, .inl (fun _ => 0))), ((fun k => [q_387, q_393, q_402, q_399, q_405, q_409, q_414, q_417, q_420, q_422, q_425, 0, 0, 0].getD k 0) 5, .inr (4, o4 gz_410)), (gz_410 4, .inl (c4_411, 10, .inr (.inr (.inr (.inr (fun i => if i < 10 then some (r_412 i) else none)))))), ((fun k => [q_387, q_393, q_402, q_399, q_405, q_409, q_414, q_417, q_420, q_422, q_425, 0, 0, 0].getD k 0) 6, .inr (3, [.ref ((fun k => [q_387, q_393, q_402, q_399, q_405, q_409, q_414, q_417, q_420, q_422, q_425, 0, 0, 0].getD k 0) 4), .ref cd_415, .int 0, .int 0, .int 0])), ((fun k => [q_387, q_393, q_402, q_399, q_405, q_409, q_414, q_417, q_420, q_422, q_425, 0, 0, 0].getD k 0) 7, .inr (6, o6 gz_418))] H := hP.sub [0, 1, 2, 3, 4, 5, 6, 7, 8, 16, 9, 10, 11, 12, 13, 14, 15] rfl
  have hD9 : va_D A [(h0, .inr (11, o11 (fun k => [q_387, q_393, q_402, q_399, q_405, q_409, q_414, q_417, q_420, q_422, q_425, 0, 0, 0].getD k 0))), ((fun k => [q_387, q_393, q_402, q_399, q_405, q_409, q_414, q_417, q_420, q_422, q_425, 0, 0, 0].getD k 0) 0, .inr (2, o2 gz_388)), (gz_388 1, .inl (c1_389, 30, .inl (fun _ => 0))), (gz_388 2, .inl (c2_390, 10, .inl (fun _ => 0))), (gz_388 3, .inl (c3_391, 10, .inl (fun _ => 0))), ((fun k => [q_387, q_393, q_402, q_399, q_405, q_409, q_414, q_417, q_420, q_422, q_425, 0, 0, 0].getD k 0) 1, .inr (8, o8 gz_394)), (gz_394 1, .inl (c1_395, 10, .inl (fun _ => 0))), (gz_394 4, .inl (c4_396, 10, .inl (fun _ => 0))), (gz_394 5, .inl (c5_397, 10, .inl (fun _ => 0))), ((fun k => [q_387, q_393, q_402, q_399, q_405, q_409, q_414, q_417, q_420, q_422, q_425, 0, 0, 0].getD k 0) 2, .inr (7, o7 gz_403)), ((fun k => [q_387, q_393, q_402, q_399, q_405, q_409, q_414, q_417, q_420, q_422, q_425, 0, 0, 0].getD k 0) 3, .inr (9, o9 gz_400)), ((fun k => [q_387, q_393, q_402, q_399, q_405, q_409, q_414, q_417, q_420, q_422, q_425, 0, 0, 0].getD k 0) 4, .inr (10, o10 gz_406)), (gz_406 1, .inl (c1_407, 120, .inl (fun _ => 0))), ((fun k => [q_387, q_393, q_402, q_399, q_405, q_409, q_414, q_417, q_420, q_422, q_425, 0, 0, 0].getD k 0) 5, .inr (4, o4 gz_410)), (gz_410 4, .inl (c4_411, 10, .inr (.inr (.inr (.inr (fun i => if i < 10 then some (r_412 i) else none)))))), ((fun k => [q_387, q_393, q_402, q_399, q_405, q_409, q_414, q_417, q_420, q_422, q_425, 0, 0, 0].getD k 0) 6, .inr (3, [.ref ((fun k => [q_387, q_393, q_402, q_399, q_405, q_409, q_414, q_417, q_420, q_422, q_425, 0, 0, 0].getD k 0) 4), .ref cd_415, .int 0, .int 0, .int 0])), ((fun k => [q_387, q_393, q_402, q_399, q_405, q_409, q_414, q_417, q_420, q_422, q_425, 0, 0, 0].getD k 0) 7, .inr (6, o6 gz_418))] := hD.sub [0, 1, 2, 3, 4, 5, 6, 7, 8, 16, 9, 10, 11, 12, 13, 14, 15] (by decide) rfl
  have hK9 : va_K (dC, dI) classes [(c1_389, .int), (c2_390, .int), (c3_391, .int), (c1_395, .int), (c4_396, .int), (c5_397, .int), (c1_407, .int), (c4_411, (.array .int))] s := hK.sub [0, 1, 2, 3, 4, 5, 6, 7] rfl
  exact W.vret hx hb hr (fun t ht hW => ⟨⟨(), rfl, trivial, (fun k => [q_387, q_393, q_402, q_399, q_405, q_409, q_414, q_417, q_420, q_422, q_425, 0, 0, 0].getD k 0), gz_388, gz_394, gz_403, gz_400, gz_406, gz_410, gz_418, cd_415, r_412, c1_389, c2_390, c3_391, c1_395, c4_396, c5_397, c1_407, c4_411, by rw [ht]; exact hP9, va_K.moved hW.alike hK9, hD9⟩, hS.F ht⟩) hS.2.2 dX11_init_175
