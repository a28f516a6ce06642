set_option maxHeartbeats 8000000 in
set_option maxRecDepth 100000 in
theorem c_X7_add (l : Launch) (dC : Nat → ClassId) (dI : Nat → Nat → Nat) (g : Nat → Nat) (c : Nat → ClassId) (adK adV : Nat → Nat) (v : Nat → Int32) (F : Nat → Nat → Int32) (rc sz : Nat) (p0 : Int32) (p1 : Int32) (hg : injX g) (hI : IX v F) (h0 : 0 ≤ p0.toInt ∧ p0.toInt ≤ 9) (hq0 : (v 61).toInt ≤ 99) : Met l yX7_add (Cond.code yX7_add cX7_add 3 (some .int) :: wA) ({ frames := 1, cells := 0, slots := 0, locals := 40 }) (va_Pc [.ref (g 3), .int p0, .int p1] (PX dC dI g c adK adV v F rc sz)) (va_Qi (fun (r : Int32) (u : StX) => IX u.1 u.2.1 ∧ alX u.1 u.2.1 = alX v F ∧ u.2.2 = rc ∧ (∀ k, k ∉ ([61] : List Nat) → u.1 k = v k) ∧ 0 ≤ r.toInt ∧ r.toInt ≤ 99) (BX dC dI g c) (AX g sz)) 0 0 (AX g sz) := by
  refine Met.ofW (cc := cX7_add) (maxL := 3) (ret := (some .int)) (by decide) rfl ?_
  intro p e s m args below meth c0 s₁ B hml hv
  obtain ⟨rfl, hsz, hP, hK, hE⟩ := hv
  have hx := B.exec
  have hb := B.bytes
  have hr := B.returns
  have hts := atoms_spec (ws := Cond.code yX7_add cX7_add 3 (some .int) :: wA) B.pre
  have hwd : ∀ w ∈ wA, w.before _ s = true := fun w h => hts w (List.mem_cons_of_mem _ h)
  have hown : s.vm.findClass RX7 = some m.cls := findClass_of_methodNamed B.named
  have hlocks := B.notSynchronized
  subst hsz
  have hl := lv_entry ([.ref (g 3), .int p0, .int p1]) (n := 3) (Nat.le_of_ble_eq_true rfl)
  rw [lg_entry_eq]
  generalize (lg_sl ([.ref (g 3), .int p0, .int p1]) ++ List.replicate (3 - (lg_sl ([.ref (g 3), .int p0, .int p1])).length) Slot.unset).toArray = ls at hl ⊢
  have hl : lv_has ls 3 [(0, .ref (g 3)), (1, .int p0), (2, .int p1)] := hl
  obtain ⟨H, eH⟩ : ∃ z, z = s.heap := ⟨_, rfl⟩
  have hP : va_P (dC, dI) classes (wX g c v F rc) H := by rw [eH]; exact hP
  have hS : va_S (AX g s.heap.size) s.heap H [] := by rw [eH]; exact va_S.rf
  refine my_heap eH ?_
  have hal : alX v F = alX v F := rfl
  have rp0 := i32_rng p0
  have rp1 := i32_rng p1
  refine lv_aload_n hx hb dX7_add_0 rfl (lv_at hl 0 rfl) ?_
  refine va_get (D := (dC, dI)) (ci := 7) (v := .ref (g 24)) (C := RX7) (T := TX7) (N := 7) hx hb hwd inA_X7 hown hK hP 3 rfl rfl 2 (by decide) (hwd _ wk_95) (fun _ h9 => h9) rfl dX7_add_1 ?_
  refine lv_aload_n hx hb dX7_add_4 rfl (lv_at hl 0 rfl) ?_
  refine va_get (D := (dC, dI)) (ci := 7) (v := .int (v 61)) (C := RX7) (T := TX7) (N := 7) hx hb hwd inA_X7 hown hK hP 3 rfl rfl 1 (by decide) (hwd _ wk_289) (fun _ h9 => h9) rfl dX7_add_5 ?_
  have t572 : 0 ≤ (v 61).toInt ∧ (v 61).toInt ≤ 100 := hI.1 61 _ _ rfl
  refine lv_iload_n hx hb dX7_add_8 rfl (lv_at hl 1 rfl) ?_
  refine va_iast hx hb hK hP (DX hg) hS 24 12 rfl rfl (i := (v 61)) (x := p0) (vin (a := (v 61).toInt) rfl (by omega)) dX7_add_9 (fun H locs hP _ hS => ?_)
  have hP := va_P_eq (sX_24 g c _ _ _ _) hP
  have hI := IX.store hI 24 (v 61 : Int32).toNatClampNeg p0 rfl (by omega)
  have hal := (alX_F _ _ 24 (upd (F 24) (v 61 : Int32).toNatClampNeg p0) (by decide) (by decide) (by decide) (by decide) (by decide)).trans hal
  have hP : va_P (dC, dI) classes (wX g c v (va_up F 24 (upd (F 24) (v 61 : Int32).toNatClampNeg p0)) rc) H := hP
  generalize (va_up F 24 (upd (F 24) (v 61 : Int32).toNatClampNeg p0)) = F573 at hP hI hal
  refine lv_aload_n hx hb dX7_add_10 rfl (lv_at hl 0 rfl) ?_
  refine va_get (D := (dC, dI)) (ci := 7) (v := .ref (g 25)) (C := RX7) (T := TX7) (N := 7) hx hb hwd inA_X7 hown hK hP 3 rfl rfl 3 (by decide) (hwd _ wk_96) (fun _ h9 => h9) rfl dX7_add_11 ?_
  refine lv_aload_n hx hb dX7_add_14 rfl (lv_at hl 0 rfl) ?_
  refine va_get (D := (dC, dI)) (ci := 7) (v := .int (v 61)) (C := RX7) (T := TX7) (N := 7) hx hb hwd inA_X7 hown hK hP 3 rfl rfl 1 (by decide) (hwd _ wk_289) (fun _ h9 => h9) rfl dX7_add_15 ?_
  have t574 : 0 ≤ (v 61).toInt ∧ (v 61).toInt ≤ 100 := hI.1 61 _ _ rfl
  refine lv_iload_n hx hb dX7_add_18 rfl (lv_at hl 2 rfl) ?_
  refine va_iast hx hb hK hP (DX hg) hS 25 13 rfl rfl (i := (v 61)) (x := p1) (vin (a := (v 61).toInt) rfl (by omega)) dX7_add_19 (fun H locs hP _ hS => ?_)
  have hP := va_P_eq (sX_25 g c _ _ _ _) hP
  have hI := IX.store0 hI 25 (v 61 : Int32).toNatClampNeg p1 rfl
  have hal := (alX_F _ _ 25 (upd (F573 25) (v 61 : Int32).toNatClampNeg p1) (by decide) (by decide) (by decide) (by decide) (by decide)).trans hal
  have hP : va_P (dC, dI) classes (wX g c v (va_up F573 25 (upd (F573 25) (v 61 : Int32).toNatClampNeg p1)) rc) H := hP
  generalize (va_up F573 25 (upd (F573 25) (v 61 : Int32).toNatClampNeg p1)) = F575 at hP hI hal
  refine lv_aload_n hx hb dX7_add_20 rfl (lv_at hl 0 rfl) ?_
  refine va_get (D := (dC, dI)) (ci := 7) (v := .ref (g 4)) (C := RX7) (T := TX7) (N := 7) hx hb hwd inA_X7 hown hK hP 3 rfl rfl 0 (by decide) (hwd _ wk_100) (fun _ h9 => h9) rfl dX7_add_21 ?_
  refine va_get (D := (dC, dI)) (ci := 9) (v := .ref (g 38)) (C := RX9) (T := TX9) (N := 11) hx hb hwd inA_X9 hown hK hP 4 rfl rfl 10 (by decide) (hwd _ wk_571) (fun _ h9 => h9) rfl dX7_add_24 ?_
  refine lv_aload_n hx hb dX7_add_27 rfl (lv_at hl 0 rfl) ?_
  refine va_get (D := (dC, dI)) (ci := 7) (v := .int (v 61)) (C := RX7) (T := TX7) (N := 7) hx hb hwd inA_X7 hown hK hP 3 rfl rfl 1 (by decide) (hwd _ wk_289) (fun _ h9 => h9) rfl dX7_add_28 ?_
  have t576 : 0 ≤ (v 61).toInt ∧ (v 61).toInt ≤ 100 := hI.1 61 _ _ rfl
  refine lv_iconst (v := (-1)) hx hb dX7_add_31 (by decide) ?_
  refine va_iast hx hb hK hP (DX hg) hS 38 26 rfl rfl (i := (v 61)) (x := (-1)) (vin (a := (v 61).toInt) rfl (by omega)) dX7_add_32 (fun H locs hP _ hS => ?_)
  have hP := va_P_eq (sX_38 g c _ _ _ _) hP
  have hI := IX.store hI 38 (v 61 : Int32).toNatClampNeg (-1) rfl (by have : ((-1) : Int32).toInt = (-1) := (by decide); omega)
  have hal := (alX_F _ _ 38 (upd (F575 38) (v 61 : Int32).toNatClampNeg (-1)) (by decide) (by decide) (by decide) (by decide) (by decide)).trans hal
  have hP : va_P (dC, dI) classes (wX g c v (va_up F575 38 (upd (F575 38) (v 61 : Int32).toNatClampNeg (-1))) rc) H := hP
  generalize (va_up F575 38 (upd (F575 38) (v 61 : Int32).toNatClampNeg (-1))) = F577 at hP hI hal
  refine lv_aload_n hx hb dX7_add_33 rfl (lv_at hl 0 rfl) ?_
  refine lv_dup hx hb dX7_add_34 rfl ?_
  refine va_get (D := (dC, dI)) (ci := 7) (v := .int (v 61)) (C := RX7) (T := TX7) (N := 7) hx hb hwd inA_X7 hown hK hP 3 rfl rfl 1 (by decide) (hwd _ wk_289) (fun _ h9 => h9) rfl dX7_add_35 ?_
  have t578 : 0 ≤ (v 61).toInt ∧ (v 61).toInt ≤ 100 := hI.1 61 _ _ rfl
  refine lv_dup_x1 hx hb dX7_add_38 rfl rfl ?_
  refine lv_iconst (v := 1) hx hb dX7_add_39 (by decide) ?_
  refine lv_iadd hx hb dX7_add_40 ?_
  refine lv_topi (fun z579 e580 => ?_)
  try (have t581 := tadd e580 (a := (v 61).toInt) rfl (b := 1) (by decide) (by omega))
  refine va_put (D := (dC, dI)) (ci := 7) (v := .int z579) (ty := .int) (C := RX7) (T := TX7) (N := 7) (fs := fsX_3 g v rc) hx hb hwd inA_X7 tyX7 tyX7_ok nmX7 hown hK hP (DX hg) hS 3 rfl rfl 1 (by decide) (hwd _ wk_289) (fun _ h9 => h9) rfl (by decide +kernel) rfl rfl (Nat.le_of_ble_eq_true rfl) dX7_add_41 (fun H locs hP _ hS => ?_)
  have hP := va_P_eq (pX_61 g c _ _ _ _) hP
  have hI := IX.put hI 61 z579 rfl (by omega)
  have hal := (alX_v _ _ 61 z579 (by decide) (by decide) (by decide) (by decide)).trans hal
  have hP9 : va_P (dC, dI) classes (wX g c (va_up v 61 z579) F577 rc) H := hP
  exact W.iret (v := v 61) hx hb hr (fun t ht hW => ⟨⟨(v 61), ((va_up v 61 z579), F577, rc), rfl, ⟨hI, hal, rfl, (frU (by decide) (fun _ _ => rfl)), by omega⟩, (by show va_P _ _ _ t.heap; rw [ht]; exact hP9)⟩, hS.F ht⟩) hS.2.2 dX7_add_44
set_option maxHeartbeats 8000000 in
set_option maxRecDepth 100000 in
theorem c_X7_usedOf (l : Launch) (dC : Nat → ClassId) (dI : Nat → Nat → Nat) (g : Nat → Nat) (c : Nat → ClassId) (adK adV : Nat → Nat) (v : Nat → Int32) (F : Nat → Nat → Int32) (rc sz : Nat) (p0 : Int32) (p1 : Int32) (hg : injX g) (hI : IX v F) (h0 : 0 ≤ p0.toInt ∧ p0.toInt ≤ 99) (h1 : 0 ≤ p1.toInt ∧ p1.toInt ≤ 2) : Met l yX7_usedOf (Cond.code yX7_usedOf cX7_usedOf 3 (some .int) :: wA) ({ frames := 1, cells := 0, slots := 0, locals := 40 }) (va_Pc [.ref (g 3), .int p0, .int p1] (PX dC dI g c adK adV v F rc sz)) (va_Qi (fun (r : Int32) (u : Unit) => True) (fun (_ : Unit) => BX dC dI g c (v, F, rc)) (AX g sz)) 0 0 (AX g sz) := by
  refine Met.ofW (cc := cX7_usedOf) (maxL := 3) (ret := (some .int)) (by decide) rfl ?_
  intro p e s m args below meth c0 s₁ B hml hv
  obtain ⟨rfl, hsz, hP, hK, hE⟩ := hv
  have hx := B.exec
  have hb := B.bytes
  have hr := B.returns
  have hts := atoms_spec (ws := Cond.code yX7_usedOf cX7_usedOf 3 (some .int) :: wA) B.pre
  have hwd : ∀ w ∈ wA, w.before _ s = true := fun w h => hts w (List.mem_cons_of_mem _ h)
  have hown : s.vm.findClass RX7 = some m.cls := findClass_of_methodNamed B.named
  have hlocks := B.notSynchronized
  subst hsz
  have hl := lv_entry ([.ref (g 3), .int p0, .int p1]) (n := 3) (Nat.le_of_ble_eq_true rfl)
  rw [lg_entry_eq]
  generalize (lg_sl ([.ref (g 3), .int p0, .int p1]) ++ List.replicate (3 - (lg_sl ([.ref (g 3), .int p0, .int p1])).length) Slot.unset).toArray = ls at hl ⊢
  have hl : lv_has ls 3 [(0, .ref (g 3)), (1, .int p0), (2, .int p1)] := hl
  obtain ⟨H, eH⟩ : ∃ z, z = s.heap := ⟨_, rfl⟩
  have hP : va_P (dC, dI) classes (wX g c v F rc) H := by rw [eH]; exact hP
  have hS : va_S (AX g s.heap.size) s.heap H [] := by rw [eH]; exact va_S.rf
  refine my_heap eH ?_
  have rp0 := i32_rng p0
  have rp1 := i32_rng p1
  refine lv_aload_n hx hb dX7_usedOf_0 rfl (lv_at hl 0 rfl) ?_
  refine va_get (D := (dC, dI)) (ci := 7) (v := .ref (g 27)) (C := RX7) (T := TX7) (N := 7) hx hb hwd inA_X7 hown hK hP 3 rfl rfl 5 (by decide) (hwd _ wk_98) (fun _ h9 => h9) rfl dX7_usedOf_1 ?_
  refine lv_iload_n hx hb dX7_usedOf_4 rfl (lv_at hl 1 rfl) ?_
  refine lv_iconst (v := 3) hx hb dX7_usedOf_5 (by decide) ?_
  refine lv_imul hx hb dX7_usedOf_6 ?_
  refine lv_topi (fun z582 e583 => ?_)
  try (have t584 := tmul e583 (a := p0.toInt) rfl (b := 3) (by decide) (by omega))
  refine lv_iload_n hx hb dX7_usedOf_7 rfl (lv_at hl 2 rfl) ?_
  refine lv_iadd hx hb dX7_usedOf_8 ?_
  refine lv_topi (fun z585 e586 => ?_)
  try (have t587 := tadd e586 (a := z582.toInt) rfl (b := p1.toInt) rfl (by omega))
  refine va_iald hx hb hK hP 27 15 rfl rfl (i := z585) (vin (a := z585.toInt) rfl (by omega)) dX7_usedOf_9 ?_
  refine lv_topi (fun z588 e589 => ?_)
  have hP9 : va_P (dC, dI) classes (wX g c v F rc) H := hP
  exact W.iret (v := z588) hx hb hr (fun t ht hW => ⟨⟨z588, (), rfl, trivial, (by show va_P _ _ _ t.heap; rw [ht]; exact hP9)⟩, hS.F ht⟩) hS.2.2 dX7_usedOf_10
set_option maxHeartbeats 8000000 in
set_option maxRecDepth 100000 in
theorem c_X7_setUsed (l : Launch) (dC : Nat → ClassId) (dI : Nat → Nat → Nat) (g : Nat → Nat) (c : Nat → ClassId) (adK adV : Nat → Nat) (v : Nat → Int32) (F : Nat → Nat → Int32) (rc sz : Nat) (p0 : Int32) (p1 : Int32) (p2 : Int32) (p3 : Int32) (hg : injX g) (hI : IX v F) (h0 : 0 ≤ p0.toInt ∧ p0.toInt ≤ 99) : Met l yX7_setUsed (Cond.code yX7_setUsed cX7_setUsed 5 none :: wA) ({ frames := 1, cells := 0, slots := 0, locals := 40 }) (va_Pc [.ref (g 3), .int p0, .int p1, .int p2, .int p3] (PX dC dI g c adK adV v F rc sz)) (va_Qv (fun (u : StX) => IX u.1 u.2.1 ∧ alX u.1 u.2.1 = alX v F ∧ u.2.2 = rc ∧ (∀ k, k ∉ ([] : List Nat) → u.1 k = v k) ∧ True) (BX dC dI g c) (AX g sz)) 0 0 (AX g sz) := by
  refine Met.ofW (cc := cX7_setUsed) (maxL := 5) (ret := none) (by decide) rfl ?_
  intro p e s m args below meth c0 s₁ B hml hv
  obtain ⟨rfl, hsz, hP, hK, hE⟩ := hv
  have hx := B.exec
  have hb := B.bytes
  have hr := B.returns
  have hts := atoms_spec (ws := Cond.code yX7_setUsed cX7_setUsed 5 none :: wA) B.pre
  have hwd : ∀ w ∈ wA, w.before _ s = true := fun w h => hts w (List.mem_cons_of_mem _ h)
  have hown : s.vm.findClass RX7 = some m.cls := findClass_of_methodNamed B.named
  have hlocks := B.notSynchronized
  subst hsz
  have hl := lv_entry ([.ref (g 3), .int p0, .int p1, .int p2, .int p3]) (n := 5) (Nat.le_of_ble_eq_true rfl)
  rw [lg_entry_eq]
  generalize (lg_sl ([.ref (g 3), .int p0, .int p1, .int p2, .int p3]) ++ List.replicate (5 - (lg_sl ([.ref (g 3), .int p0, .int p1, .int p2, .int p3])).length) Slot.unset).toArray = ls at hl ⊢
  have hl : lv_has ls 5 [(0, .ref (g 3)), (1, .int p0), (2, .int p1), (3, .int p2), (4, .int p3)] := hl
  obtain ⟨H, eH⟩ : ∃ z, z = s.heap := ⟨_, rfl⟩
  have hP : va_P (dC, dI) classes (wX g c v F rc) H := by rw [eH]; exact hP
  have hS : va_S (AX g s.heap.size) s.heap H [] := by rw [eH]; exact va_S.rf
  refine my_heap eH ?_
  have hal : alX v F = alX v F := rfl
  have rp0 := i32_rng p0
  have rp1 := i32_rng p1
  have rp2 := i32_rng p2
  have rp3 := i32_rng p3
  refine lv_aload_n hx hb dX7_setUsed_0 rfl (lv_at hl 0 rfl) ?_
  refine va_get (D := (dC, dI)) (ci := 7) (v := .ref (g 27)) (C := RX7) (T := TX7) (N := 7) hx hb hwd inA_X7 hown hK hP 3 rfl rfl 5 (by decide) (hwd _ wk_98) (fun _ h9 => h9) rfl dX7_setUsed_1 ?_
  refine lv_iload_n hx hb dX7_setUsed_4 rfl (lv_at hl 1 rfl) ?_
  refine lv_iconst (v := 3) hx hb dX7_setUsed_5 (by decide) ?_
  refine lv_imul hx hb dX7_setUsed_6 ?_
  refine lv_topi (fun z590 e591 => ?_)
  try (have t592 := tmul e591 (a := p0.toInt) rfl (b := 3) (by decide) (by omega))
  refine lv_iconst (v := 0) hx hb dX7_setUsed_7 (by decide) ?_
  refine lv_iadd hx hb dX7_setUsed_8 ?_
  refine lv_topi (fun z593 e594 => ?_)
  try (have t595 := tadd e594 (a := z590.toInt) rfl (b := 0) (by decide) (by omega))
  refine lv_iload_n hx hb dX7_setUsed_9 rfl (lv_at hl 2 rfl) ?_
  refine va_iast hx hb hK hP (DX hg) hS 27 15 rfl rfl (i := z593) (x := p1) (vin (a := z593.toInt) rfl (by omega)) dX7_setUsed_10 (fun H locs hP _ hS => ?_)
  have hP := va_P_eq (sX_27 g c _ _ _ _) hP
  have hI := IX.store0 hI 27 (z593 : Int32).toNatClampNeg p1 rfl
  have hal := (alX_F _ _ 27 (upd (F 27) (z593 : Int32).toNatClampNeg p1) (by decide) (by decide) (by decide) (by decide) (by decide)).trans hal
  have hP : va_P (dC, dI) classes (wX g c v (va_up F 27 (upd (F 27) (z593 : Int32).toNatClampNeg p1)) rc) H := hP
  generalize (va_up F 27 (upd (F 27) (z593 : Int32).toNatClampNeg p1)) = F596 at hP hI hal
  refine lv_aload_n hx hb dX7_setUsed_11 rfl (lv_at hl 0 rfl) ?_
  refine va_get (D := (dC, dI)) (ci := 7) (v := .ref (g 27)) (C := RX7) (T := TX7) (N := 7) hx hb hwd inA_X7 hown hK hP 3 rfl rfl 5 (by decide) (hwd _ wk_98) (fun _ h9 => h9) rfl dX7_setUsed_12 ?_
  refine lv_iload_n hx hb dX7_setUsed_15 rfl (lv_at hl 1 rfl) ?_
  refine lv_iconst (v := 3) hx hb dX7_setUsed_16 (by decide) ?_
  refine lv_imul hx hb dX7_setUsed_17 ?_
  refine lv_topi (fun z597 e598 => ?_)
  try (have t599 := tmul e598 (a := p0.toInt) rfl (b := 3) (by decide) (by omega))
  refine lv_iconst (v := 1) hx hb dX7_setUsed_18 (by decide) ?_
  refine lv_iadd hx hb dX7_setUsed_19 ?_
  refine lv_topi (fun z600 e601 => ?_)
  try (have t602 := tadd e601 (a := z597.toInt) rfl (b := 1) (by decide) (by omega))
  refine lv_iload_n hx hb dX7_setUsed_20 rfl (lv_at hl 3 rfl) ?_
  refine va_iast hx hb hK hP (DX hg) hS 27 15 rfl rfl (i := z600) (x := p2) (vin (a := z600.toInt) rfl (by omega)) dX7_setUsed_21 (fun H locs hP _ hS => ?_)
  have hP := va_P_eq (sX_27 g c _ _ _ _) hP
  have hI := IX.store0 hI 27 (z600 : Int32).toNatClampNeg p2 rfl
  have hal := (alX_F _ _ 27 (upd (F596 27) (z600 : Int32).toNatClampNeg p2) (by decide) (by decide) (by decide) (by decide) (by decide)).trans hal
  have hP : va_P (dC, dI) classes (wX g c v (va_up F596 27 (upd (F596 27) (z600 : Int32).toNatClampNeg p2)) rc) H := hP
  generalize (va_up F596 27 (upd (F596 27) (z600 : Int32).toNatClampNeg p2)) = F603 at hP hI hal
  refine lv_aload_n hx hb dX7_setUsed_22 rfl (lv_at hl 0 rfl) ?_
  refine va_get (D := (dC, dI)) (ci := 7) (v := .ref (g 27)) (C := RX7) (T := TX7) (N := 7) hx hb hwd inA_X7 hown hK hP 3 rfl rfl 5 (by decide) (hwd _ wk_98) (fun _ h9 => h9) rfl dX7_setUsed_23 ?_
  refine lv_iload_n hx hb dX7_setUsed_26 rfl (lv_at hl 1 rfl) ?_
  refine lv_iconst (v := 3) hx hb dX7_setUsed_27 (by decide) ?_
  refine lv_imul hx hb dX7_setUsed_28 ?_
  refine lv_topi (fun z604 e605 => ?_)
  try (have t606 := tmul e605 (a := p0.toInt) rfl (b := 3) (by decide) (by omega))
  refine lv_iconst (v := 2) hx hb dX7_setUsed_29 (by decide) ?_
  refine lv_iadd hx hb dX7_setUsed_30 ?_
  refine lv_topi (fun z607 e608 => ?_)
  try (have t609 := tadd e608 (a := z604.toInt) rfl (b := 2) (by decide) (by omega))
  refine lv_iload hx hb dX7_setUsed_31 (lv_at hl 4 rfl) ?_
  refine va_iast hx hb hK hP (DX hg) hS 27 15 rfl rfl (i := z607) (x := p3) (vin (a := z607.toInt) rfl (by omega)) dX7_setUsed_33 (fun H locs hP _ hS => ?_)
  have hP := va_P_eq (sX_27 g c _ _ _ _) hP
  have hI := IX.store0 hI 27 (z607 : Int32).toNatClampNeg p3 rfl
  have hal := (alX_F _ _ 27 (upd (F603 27) (z607 : Int32).toNatClampNeg p3) (by decide) (by decide) (by decide) (by decide) (by decide)).trans hal
  have hP : va_P (dC, dI) classes (wX g c v (va_up F603 27 (upd (F603 27) (z607 : Int32).toNatClampNeg p3)) rc) H := hP
  generalize (va_up F603 27 (upd (F603 27) (z607 : Int32).toNatClampNeg p3)) = F610 at hP hI hal
  have hP9 : va_P (dC, dI) classes (wX g c v F610 rc) H := hP
  exact W.vret hx hb hr (fun t ht hW => ⟨⟨(v, F610, rc), rfl, ⟨hI, hal, rfl, (fun _ _ => rfl), trivial⟩, (by show va_P _ _ _ t.heap; rw [ht]; exact hP9)⟩, hS.F ht⟩) hS.2.2 dX7_setUsed_34
set_option maxHeartbeats 8000000 in
set_option maxRecDepth 100000 in
theorem c_X7_begin (l : Launch) (dC : Nat → ClassId) (dI : Nat → Nat → Nat) (g : Nat → Nat) (c : Nat → ClassId) (adK adV : Nat → Nat) (v : Nat → Int32) (F : Nat → Nat → Int32) (rc sz : Nat) (p0 : Int32) (p1 : Int32) (p2 : Int32) (hg : injX g) (hI : IX v F) (h0 : 0 ≤ p0.toInt ∧ p0.toInt ≤ 99) : Met l yX7_begin (Cond.code yX7_begin cX7_begin 4 none :: wA) ({ frames := 3, cells := 0, slots := 0, locals := 120 }) (va_Pc [.ref (g 3), .int p0, .int p1, .int p2] (PX dC dI g c adK adV v F rc sz)) (va_Qv (fun (u : StX) => IX u.1 u.2.1 ∧ alX u.1 u.2.1 = alX v F ∧ u.2.2 = rc ∧ (∀ k, k ∉ ([80] : List Nat) → u.1 k = v k) ∧ True) (BX dC dI g c) (AX g sz)) 0 0 (AX g sz) := by
  refine Met.ofW (cc := cX7_begin) (maxL := 4) (ret := none) (by decide) rfl ?_
  intro p e s m args below meth c0 s₁ B hml hv
  obtain ⟨rfl, hsz, hP, hK, hE⟩ := hv
  have hx := B.exec
  have hb := B.bytes
  have hr := B.returns
  have hts := atoms_spec (ws := Cond.code yX7_begin cX7_begin 4 none :: wA) B.pre
  have hwd : ∀ w ∈ wA, w.before _ s = true := fun w h => hts w (List.mem_cons_of_mem _ h)
  have hown : s.vm.findClass RX7 = some m.cls := findClass_of_methodNamed B.named
  have hlocks := B.notSynchronized
  subst hsz
  have hl := lv_entry ([.ref (g 3), .int p0, .int p1, .int p2]) (n := 4) (Nat.le_of_ble_eq_true rfl)
  rw [lg_entry_eq]
  generalize (lg_sl ([.ref (g 3), .int p0, .int p1, .int p2]) ++ List.replicate (4 - (lg_sl ([.ref (g 3), .int p0, .int p1, .int p2])).length) Slot.unset).toArray = ls at hl ⊢
  have hl : lv_has ls 4 [(0, .ref (g 3)), (1, .int p0), (2, .int p1), (3, .int p2)] := hl
  obtain ⟨H, eH⟩ : ∃ z, z = s.heap := ⟨_, rfl⟩
  have hP : va_P (dC, dI) classes (wX g c v F rc) H := by rw [eH]; exact hP
  have hS : va_S (AX g s.heap.size) s.heap H [] := by rw [eH]; exact va_S.rf
  refine my_heap eH ?_
  have hal : alX v F = alX v F := rfl
  have rp0 := i32_rng p0
  have rp1 := i32_rng p1
  have rp2 := i32_rng p2
  refine lv_aload_n hx hb dX7_begin_0 rfl (lv_at hl 0 rfl) ?_
  refine va_get (D := (dC, dI)) (ci := 7) (v := .ref (g 26)) (C := RX7) (T := TX7) (N := 7) hx hb hwd inA_X7 hown hK hP 3 rfl rfl 4 (by decide) (hwd _ wk_97) (fun _ h9 => h9) rfl dX7_begin_1 ?_
  refine lv_iload_n hx hb dX7_begin_4 rfl (lv_at hl 1 rfl) ?_
  refine lv_iload_n hx hb dX7_begin_5 rfl (lv_at hl 2 rfl) ?_
  refine va_iast hx hb hK hP (DX hg) hS 26 14 rfl rfl (i := p0) (x := p1) (vin (a := p0.toInt) rfl (by omega)) dX7_begin_6 (fun H locs hP _ hS => ?_)
  have hP := va_P_eq (sX_26 g c _ _ _ _) hP
  have hI := IX.store0 hI 26 (p0 : Int32).toNatClampNeg p1 rfl
  have hal := (alX_F _ _ 26 (upd (F 26) (p0 : Int32).toNatClampNeg p1) (by decide) (by decide) (by decide) (by decide) (by decide)).trans hal
  have hP : va_P (dC, dI) classes (wX g c v (va_up F 26 (upd (F 26) (p0 : Int32).toNatClampNeg p1)) rc) H := hP
  generalize (va_up F 26 (upd (F 26) (p0 : Int32).toNatClampNeg p1)) = F611 at hP hI hal
  refine lv_aload_n hx hb dX7_begin_7 rfl (lv_at hl 0 rfl) ?_
  refine va_get (D := (dC, dI)) (ci := 7) (v := .ref (g 28)) (C := RX7) (T := TX7) (N := 7) hx hb hwd inA_X7 hown hK hP 3 rfl rfl 6 (by decide) (hwd _ wk_99) (fun _ h9 => h9) rfl dX7_begin_8 ?_
  refine lv_iload_n hx hb dX7_begin_11 rfl (lv_at hl 1 rfl) ?_
  refine lv_aload_n hx hb dX7_begin_12 rfl (lv_at hl 0 rfl) ?_
  refine va_get (D := (dC, dI)) (ci := 7) (v := .ref (g 4)) (C := RX7) (T := TX7) (N := 7) hx hb hwd inA_X7 hown hK hP 3 rfl rfl 0 (by decide) (hwd _ wk_100) (fun _ h9 => h9) rfl dX7_begin_13 ?_
  refine lv_iload_n hx hb dX7_begin_16 rfl (lv_at hl 1 rfl) ?_
  refine lv_iload_n hx hb dX7_begin_17 rfl (lv_at hl 2 rfl) ?_
  refine lv_iload_n hx hb dX7_begin_18 rfl (lv_at hl 3 rfl) ?_
  refine lv_aload_n hx hb dX7_begin_19 rfl (lv_at hl 0 rfl) ?_
  refine lv_iload_n hx hb dX7_begin_20 rfl (lv_at hl 1 rfl) ?_
  refine lv_iconst (v := 0) hx hb dX7_begin_21 (by decide) ?_
  refine va_calli (va_runV (As := [.int p0, .int 0]) (rest := [.int p2, .int p1, .int p0, .ref (g 4), .int p0, .ref (g 28)]) ⟨hx, hb, hml, hown, hwd⟩ (c_X7_usedOf l dC dI g c adK adV v F611 rc H.size p0 0 hg hI (by omega) (by have : (0 : Int32).toInt = 0 := (by decide); omega)) (cwV 2 hwd (gV wk_369 wk_448 wk_367 wk_368 wk_26) rfl rfl rfl (by decide +kernel) ⟨Nat.le_of_ble_eq_true rfl, Nat.le_of_ble_eq_true rfl⟩) ⟨PX.blind, va_recv hK hP (ci := 7) (q0 := 3) rfl rfl, fun U hU hW => ⟨rfl, PX.at hK hE hP hS hU hW⟩⟩ rfl rfl hl.1 rfl (lv_room (Nat.le_of_ble_eq_true rfl)) dX7_begin_22 ⟨Nat.le_of_ble_eq_true rfl, Nat.le_of_ble_eq_true rfl⟩) hS (fun q _ h => (freeX hS) q h) (freeX hS) (fun r612 u t H1 locs ht hvm hw hB hz1 hk1 hS => ?_)
  unfold BX at hB
  rw [ht] at hB
  have hP : va_P (dC, dI) classes (wX g c v F611 rc) H1 := hB
  generalize H1 = H at hP hS ⊢
  have rr_r612 := i32_rng r612
  refine lv_aload_n hx hb dX7_begin_25 rfl (lv_at hl 0 rfl) ?_
  refine lv_iload_n hx hb dX7_begin_26 rfl (lv_at hl 1 rfl) ?_
  refine lv_iconst (v := 1) hx hb dX7_begin_27 (by decide) ?_
  refine va_calli (va_runV (As := [.int p0, .int 1]) (rest := [.int r612, .int p2, .int p1, .int p0, .ref (g 4), .int p0, .ref (g 28)]) ⟨hx, hb, hml, hown, hwd⟩ (c_X7_usedOf l dC dI g c adK adV v F611 rc H.size p0 1 hg hI (by omega) (by have : (1 : Int32).toInt = 1 := (by decide); omega)) (cwV 2 hwd (gV wk_369 wk_448 wk_367 wk_368 wk_26) rfl rfl rfl (by decide +kernel) ⟨Nat.le_of_ble_eq_true rfl, Nat.le_of_ble_eq_true rfl⟩) ⟨PX.blind, va_recv hK hP (ci := 7) (q0 := 3) rfl rfl, fun U hU hW => ⟨rfl, PX.at hK hE hP hS hU hW⟩⟩ rfl rfl hl.1 rfl (lv_room (Nat.le_of_ble_eq_true rfl)) dX7_begin_28 ⟨Nat.le_of_ble_eq_true rfl, Nat.le_of_ble_eq_true rfl⟩) hS (fun q _ h => (freeX hS) q h) (freeX hS) (fun r613 u t H1 locs ht hvm hw hB hz1 hk1 hS => ?_)
  unfold BX at hB
  rw [ht] at hB
  have hP : va_P (dC, dI) classes (wX g c v F611 rc) H1 := hB
  generalize H1 = H at hP hS ⊢
  have rr_r613 := i32_rng r613
  refine va_calli (va_runV (As := [.int p0, .int p1, .int p2, .int r612, .int r613]) (rest := [.int p0, .ref (g 28)]) ⟨hx, hb, hml, hown, hwd⟩ (c_X9_add l dC dI g c adK adV v F611 rc H.size p0 p1 p2 r612 r613 hg hI (by omega)) (cwV 5 hwd (gV wk_583 wk_580 wk_581 wk_582 wk_22) rfl rfl rfl (by decide +kernel) ⟨Nat.le_of_ble_eq_true rfl, Nat.le_of_ble_eq_true rfl⟩) ⟨PX.blind, va_recv hK hP (ci := 9) (q0 := 4) rfl rfl, fun U hU hW => ⟨rfl, PX.at hK hE hP hS hU hW⟩⟩ rfl rfl hl.1 rfl (lv_room (Nat.le_of_ble_eq_true rfl)) dX7_begin_31 ⟨Nat.le_of_ble_eq_true rfl, Nat.le_of_ble_eq_true rfl⟩) hS (fun q _ h => (freeX hS) q h) (freeX hS) (fun r614 u t H1 locs ht hvm hw hB hz1 hk1 hS => ?_)
  unfold BX at hB
  rw [ht] at hB
  obtain ⟨v615, F616, rc9⟩ := u
  obtain ⟨hI, hal9, hrc, hf617, hw⟩ := hw
  dsimp only at hI hal9 hrc hB hf617 hw
  rw [hrc] at hB
  have hal := hal9.trans hal
  have hP : va_P (dC, dI) classes (wX g c v615 F616 rc) H1 := hB
  have hw : -1 ≤ r614.toInt ∧ r614.toInt ≤ 499 := hw
  generalize H1 = H at hP hS ⊢
  have hw_r614 := hw
  refine va_iast hx hb hK hP (DX hg) hS 28 16 rfl rfl (i := p0) (x := r614) (vin (a := p0.toInt) rfl (by omega)) dX7_begin_34 (fun H locs hP _ hS => ?_)
  have hP := va_P_eq (sX_28 g c _ _ _ _) hP
  have hI := IX.store0 hI 28 (p0 : Int32).toNatClampNeg r614 rfl
  have hal := (alX_F _ _ 28 (upd (F616 28) (p0 : Int32).toNatClampNeg r614) (by decide) (by decide) (by decide) (by decide) (by decide)).trans hal
  have hP : va_P (dC, dI) classes (wX g c v615 (va_up F616 28 (upd (F616 28) (p0 : Int32).toNatClampNeg r614)) rc) H := hP
  generalize (va_up F616 28 (upd (F616 28) (p0 : Int32).toNatClampNeg r614)) = F618 at hP hI hal
  have hP9 : va_P (dC, dI) classes (wX g c v615 F618 rc) H := hP
  exact W.vret hx hb hr (fun t ht hW => ⟨⟨(v615, F618, rc), rfl, ⟨hI, hal, rfl, (frC (by decide) hf617 (fun _ _ => rfl)), trivial⟩, (by show va_P _ _ _ t.heap; rw [ht]; exact hP9)⟩, hS.F ht⟩) hS.2.2 dX7_begin_35
set_option maxHeartbeats 8000000 in
set_option maxRecDepth 100000 in
theorem c_X7_go (l : Launch) (dC : Nat → ClassId) (dI : Nat → Nat → Nat) (g : Nat → Nat) (c : Nat → ClassId) (adK adV : Nat → Nat) (v : Nat → Int32) (F : Nat → Nat → Int32) (rc sz : Nat) (p0 : Int32) (p1 : Int32) (p2 : Int32) (hg : injX g) (hI : IX v F) (h0 : 0 ≤ p0.toInt ∧ p0.toInt ≤ 99) : Met l yX7_go (Cond.code yX7_go cX7_go 4 none :: wA) ({ frames := 4, cells := 0, slots := 0, locals := 160 }) (va_Pc [.ref (g 3), .int p0, .int p1, .int p2] (PX dC dI g c adK adV v F rc sz)) (va_Qv (fun (u : StX) => IX u.1 u.2.1 ∧ alX u.1 u.2.1 = alX v F ∧ u.2.2 = rc ∧ (∀ k, k ∉ ([80] : List Nat) → u.1 k = v k) ∧ True) (BX dC dI g c) (AX g sz)) 0 0 (AX g sz) := by
  refine Met.ofW (cc := cX7_go) (maxL := 4) (ret := none) (by decide) rfl ?_
  intro p e s m args below meth c0 s₁ B hml hv
  obtain ⟨rfl, hsz, hP, hK, hE⟩ := hv
  have hx := B.exec
  have hb := B.bytes
  have hr := B.returns
  have hts := atoms_spec (ws := Cond.code yX7_go cX7_go 4 none :: wA) B.pre
  have hwd : ∀ w ∈ wA, w.before _ s = true := fun w h => hts w (List.mem_cons_of_mem _ h)
  have hown : s.vm.findClass RX7 = some m.cls := findClass_of_methodNamed B.named
  have hlocks := B.notSynchronized
  subst hsz
  have hl := lv_entry ([.ref (g 3), .int p0, .int p1, .int p2]) (n := 4) (Nat.le_of_ble_eq_true rfl)
  rw [lg_entry_eq]
  generalize (lg_sl ([.ref (g 3), .int p0, .int p1, .int p2]) ++ List.replicate (4 - (lg_sl ([.ref (g 3), .int p0, .int p1, .int p2])).length) Slot.unset).toArray = ls at hl ⊢
  have hl : lv_has ls 4 [(0, .ref (g 3)), (1, .int p0), (2, .int p1), (3, .int p2)] := hl
  obtain ⟨H, eH⟩ : ∃ z, z = s.heap := ⟨_, rfl⟩
  have hP : va_P (dC, dI) classes (wX g c v F rc) H := by rw [eH]; exact hP
  have hS : va_S (AX g s.heap.size) s.heap H [] := by rw [eH]; exact va_S.rf
  refine my_heap eH ?_
  have hal : alX v F = alX v F := rfl
  have rp0 := i32_rng p0
  have rp1 := i32_rng p1
  have rp2 := i32_rng p2
  refine lv_aload_n hx hb dX7_go_0 rfl (lv_at hl 0 rfl) ?_
  refine va_get (D := (dC, dI)) (ci := 7) (v := .ref (g 4)) (C := RX7) (T := TX7) (N := 7) hx hb hwd inA_X7 hown hK hP 3 rfl rfl 0 (by decide) (hwd _ wk_100) (fun _ h9 => h9) rfl dX7_go_1 ?_
  refine lv_aload_n hx hb dX7_go_4 rfl (lv_at hl 0 rfl) ?_
  refine va_get (D := (dC, dI)) (ci := 7) (v := .ref (g 28)) (C := RX7) (T := TX7) (N := 7) hx hb hwd inA_X7 hown hK hP 3 rfl rfl 6 (by decide) (hwd _ wk_99) (fun _ h9 => h9) rfl dX7_go_5 ?_
  refine lv_iload_n hx hb dX7_go_8 rfl (lv_at hl 1 rfl) ?_
  refine va_iald hx hb hK hP 28 16 rfl rfl (i := p0) (vin (a := p0.toInt) rfl (by omega)) dX7_go_9 ?_
  refine lv_topi (fun z619 e620 => ?_)
  refine lv_iload_n hx hb dX7_go_10 rfl (lv_at hl 3 rfl) ?_
  refine lv_aload_n hx hb dX7_go_11 rfl (lv_at hl 0 rfl) ?_
  refine lv_iload_n hx hb dX7_go_12 rfl (lv_at hl 1 rfl) ?_
  refine lv_iconst (v := 0) hx hb dX7_go_13 (by decide) ?_
  refine va_calli (va_runV (As := [.int p0, .int 0]) (rest := [.int p2, .int z619, .ref (g 4)]) ⟨hx, hb, hml, hown, hwd⟩ (c_X7_usedOf l dC dI g c adK adV v F rc H.size p0 0 hg hI (by omega) (by have : (0 : Int32).toInt = 0 := (by decide); omega)) (cwV 2 hwd (gV wk_369 wk_448 wk_367 wk_368 wk_26) rfl rfl rfl (by decide +kernel) ⟨Nat.le_of_ble_eq_true rfl, Nat.le_of_ble_eq_true rfl⟩) ⟨PX.blind, va_recv hK hP (ci := 7) (q0 := 3) rfl rfl, fun U hU hW => ⟨rfl, PX.at hK hE hP hS hU hW⟩⟩ rfl rfl hl.1 rfl (lv_room (Nat.le_of_ble_eq_true rfl)) dX7_go_14 ⟨Nat.le_of_ble_eq_true rfl, Nat.le_of_ble_eq_true rfl⟩) hS (fun q _ h => (freeX hS) q h) (freeX hS) (fun r621 u t H1 locs ht hvm hw hB hz1 hk1 hS => ?_)
  unfold BX at hB
  rw [ht] at hB
  have hP : va_P (dC, dI) classes (wX g c v F rc) H1 := hB
  generalize H1 = H at hP hS ⊢
  have rr_r621 := i32_rng r621
  refine lv_aload_n hx hb dX7_go_17 rfl (lv_at hl 0 rfl) ?_
  refine lv_iload_n hx hb dX7_go_18 rfl (lv_at hl 1 rfl) ?_
  refine lv_iconst (v := 1) hx hb dX7_go_19 (by decide) ?_
  refine va_calli (va_runV (As := [.int p0, .int 1]) (rest := [.int r621, .int p2, .int z619, .ref (g 4)]) ⟨hx, hb, hml, hown, hwd⟩ (c_X7_usedOf l dC dI g c adK adV v F rc H.size p0 1 hg hI (by omega) (by have : (1 : Int32).toInt = 1 := (by decide); omega)) (cwV 2 hwd (gV wk_369 wk_448 wk_367 wk_368 wk_26) rfl rfl rfl (by decide +kernel) ⟨Nat.le_of_ble_eq_true rfl, Nat.le_of_ble_eq_true rfl⟩) ⟨PX.blind, va_recv hK hP (ci := 7) (q0 := 3) rfl rfl, fun U hU hW => ⟨rfl, PX.at hK hE hP hS hU hW⟩⟩ rfl rfl hl.1 rfl (lv_room (Nat.le_of_ble_eq_true rfl)) dX7_go_20 ⟨Nat.le_of_ble_eq_true rfl, Nat.le_of_ble_eq_true rfl⟩) hS (fun q _ h => (freeX hS) q h) (freeX hS) (fun r622 u t H1 locs ht hvm hw hB hz1 hk1 hS => ?_)
  unfold BX at hB
  rw [ht] at hB
  have hP : va_P (dC, dI) classes (wX g c v F rc) H1 := hB
  generalize H1 = H at hP hS ⊢
  have rr_r622 := i32_rng r622
  refine va_callv (va_runV (As := [.int z619, .int p2, .int r621, .int r622]) (rest := []) ⟨hx, hb, hml, hown, hwd⟩ (c_X9_end l dC dI g c adK adV v F rc H.size z619 p2 r621 r622 hg hI ) (cwV 4 hwd (gV wk_622 wk_619 wk_620 wk_621 wk_22) rfl rfl rfl (by decide +kernel) ⟨Nat.le_of_ble_eq_true rfl, Nat.le_of_ble_eq_true rfl⟩) ⟨PX.blind, va_recv hK hP (ci := 9) (q0 := 4) rfl rfl, fun U hU hW => ⟨rfl, PX.at hK hE hP hS hU hW⟩⟩ rfl rfl hl.1 rfl (lv_room (Nat.le_of_ble_eq_true rfl)) dX7_go_23 ⟨Nat.le_of_ble_eq_true rfl, Nat.le_of_ble_eq_true rfl⟩) hS (fun q _ h => (freeX hS) q h) (freeX hS) (fun u t H1 locs ht hvm hw hB hz1 hk1 hS => ?_)
  unfold BX at hB
  rw [ht] at hB
  obtain ⟨v624, F625, rc9⟩ := u
  obtain ⟨hI, hal9, hrc, hf626, hw⟩ := hw
  dsimp only at hI hal9 hrc hB hf626 hw
  rw [hrc] at hB
  have hal := hal9.trans hal
  have hP : va_P (dC, dI) classes (wX g c v624 F625 rc) H1 := hB
  generalize H1 = H at hP hS ⊢
  refine lv_aload_n hx hb dX7_go_26 rfl (lv_at hl 0 rfl) ?_
  refine lv_iload_n hx hb dX7_go_27 rfl (lv_at hl 1 rfl) ?_
  refine lv_iload_n hx hb dX7_go_28 rfl (lv_at hl 2 rfl) ?_
  refine lv_iload_n hx hb dX7_go_29 rfl (lv_at hl 3 rfl) ?_
  refine va_callv (va_runV (As := [.int p0, .int p1, .int p2]) (rest := []) ⟨hx, hb, hml, hown, hwd⟩ (c_X7_begin l dC dI g c adK adV v624 F625 rc H.size p0 p1 p2 hg hI (by omega)) (cwV 3 hwd (gV wk_579 wk_623 wk_577 wk_578 wk_26) rfl rfl rfl (by decide +kernel) ⟨Nat.le_of_ble_eq_true rfl, Nat.le_of_ble_eq_true rfl⟩) ⟨PX.blind, va_recv hK hP (ci := 7) (q0 := 3) rfl rfl, fun U hU hW => ⟨rfl, PX.at hK hE hP hS hU hW⟩⟩ rfl rfl hl.1 rfl (lv_room (Nat.le_of_ble_eq_true rfl)) dX7_go_30 ⟨Nat.le_of_ble_eq_true rfl, Nat.le_of_ble_eq_true rfl⟩) hS (fun q _ h => (freeX hS) q h) (freeX hS) (fun u t H1 locs ht hvm hw hB hz1 hk1 hS => ?_)
  unfold BX at hB
  rw [ht] at hB
  obtain ⟨v628, F629, rc9⟩ := u
  obtain ⟨hI, hal9, hrc, hf630, hw⟩ := hw
  dsimp only at hI hal9 hrc hB hf630 hw
  rw [hrc] at hB
  have hal := hal9.trans hal
  have hP : va_P (dC, dI) classes (wX g c v628 F629 rc) H1 := hB
  generalize H1 = H at hP hS ⊢
  have hP9 : va_P (dC, dI) classes (wX g c v628 F629 rc) H := hP
  exact W.vret hx hb hr (fun t ht hW => ⟨⟨(v628, F629, rc), rfl, ⟨hI, hal, rfl, (frC (by decide) hf630 (frC (by decide) hf626 (fun _ _ => rfl))), trivial⟩, (by show va_P _ _ _ t.heap; rw [ht]; exact hP9)⟩, hS.F ht⟩) hS.2.2 dX7_go_33
set_option maxHeartbeats 8000000 in
set_option maxRecDepth 100000 in
theorem c_X7_leaveWith (l : Launch) (dC : Nat → ClassId) (dI : Nat → Nat → Nat) (g : Nat → Nat) (c : Nat → ClassId) (adK adV : Nat → Nat) (v : Nat → Int32) (F : Nat → Nat → Int32) (rc sz : Nat) (p0 : Int32) (p1 : Int32) (hg : injX g) (hI : IX v F) : Met l yX7_leaveWith (Cond.code yX7_leaveWith cX7_leaveWith 4 none :: wA) ({ frames := 2, cells := 0, slots := 0, locals := 80 }) (va_Pc [.ref (g 3), .int p0, .int p1] (PX dC dI g c adK adV v F rc sz)) (va_Qv (fun (u : StX) => IX u.1 u.2.1 ∧ alX u.1 u.2.1 = alX v F ∧ u.2.2 = rc ∧ (∀ k, k ∉ ([] : List Nat) → u.1 k = v k) ∧ True) (BX dC dI g c) (AX g sz)) 0 0 (AX g sz) := by
  refine Met.ofW (cc := cX7_leaveWith) (maxL := 4) (ret := none) (by decide) rfl ?_
  intro p e s m args below meth c0 s₁ B hml hv
  obtain ⟨rfl, hsz, hP, hK, hE⟩ := hv
  have hx := B.exec
  have hb := B.bytes
  have hr := B.returns
  have hts := atoms_spec (ws := Cond.code yX7_leaveWith cX7_leaveWith 4 none :: wA) B.pre
  have hwd : ∀ w ∈ wA, w.before _ s = true := fun w h => hts w (List.mem_cons_of_mem _ h)
  have hown : s.vm.findClass RX7 = some m.cls := findClass_of_methodNamed B.named
  have hlocks := B.notSynchronized
  subst hsz
  have hl := lv_entry ([.ref (g 3), .int p0, .int p1]) (n := 4) (Nat.le_of_ble_eq_true rfl)
  rw [lg_entry_eq]
  generalize (lg_sl ([.ref (g 3), .int p0, .int p1]) ++ List.replicate (4 - (lg_sl ([.ref (g 3), .int p0, .int p1])).length) Slot.unset).toArray = ls at hl ⊢
  have hl : lv_has ls 4 [(0, .ref (g 3)), (1, .int p0), (2, .int p1)] := hl
  obtain ⟨H, eH⟩ : ∃ z, z = s.heap := ⟨_, rfl⟩
  have hP : va_P (dC, dI) classes (wX g c v F rc) H := by rw [eH]; exact hP
  have hS : va_S (AX g s.heap.size) s.heap H [] := by rw [eH]; exact va_S.rf
  refine my_heap eH ?_
  have hal : alX v F = alX v F := rfl
  have rp0 := i32_rng p0
  have rp1 := i32_rng p1
  refine lv_iconst (v := 0) hx hb dX7_leaveWith_0 (by decide) ?_
  refine lv_istore_n (lv' := [(3, .int 0), (0, .ref (g 3)), (1, .int p0), (2, .int p1)]) hx hb dX7_leaveWith_1 rfl hl (by decide) rfl (fun ls hl => ?_)
  have lp631 : ∀ (n : Nat) (x3_lp631 : Int32) (v_lp631 : Nat → Int32) (F_lp631 : Nat → Nat → Int32) (H : Heap) (locs : List Loc) (ls : Array Slot), (0 ≤ x3_lp631.toInt) → (2147483648 - x3_lp631.toInt ≤ (n : Int)) → (∀ k, k ∉ ([] : List Nat) → v_lp631 k = v k) → IX v_lp631 F_lp631 → alX v_lp631 F_lp631 = alX v F → va_P (dC, dI) classes (wX g c v_lp631 F_lp631 rc) H → va_S (AX g s.heap.size) s.heap H locs → lv_has ls 4 [(3, .int x3_lp631), (0, .ref (g 3)), (1, .int p0), (2, .int p1)] → W p l e (headSpec (Cond.code yX7_leaveWith cX7_leaveWith 4 none :: wA) ({ frames := 2, cells := 0, slots := 0, locals := 80 })).room s m ([.ref (g 3), .int p0, .int p1] : List Value).toArray below meth c0 H locs 0 0 (MQ below (va_Qv (fun (u : StX) => IX u.1 u.2.1 ∧ alX u.1 u.2.1 = alX v F ∧ u.2.2 = rc ∧ (∀ k, k ∉ ([] : List Nat) → u.1 k = v k) ∧ True) (BX dC dI g c) (AX g s.heap.size)) ([.ref (g 3), .int p0, .int p1] : List Value).toArray s 0 0 (AX g s.heap.size)) (F0 m 2 ls []) := by
    intro n
    induction n with
    | zero =>
      intro x3_lp631 v_lp631 F_lp631 H locs ls t632 hm hf_lp631 hI hal hP hS hl
      exfalso
      have := i32_rng x3_lp631
      have hI1 := hI.1
      omega
    | succ n ih_lp631 =>
      intro x3_lp631 v_lp631 F_lp631 H locs ls t632 hm hf_lp631 hI hal hP hS hl
      have rx3_lp631 := i32_rng x3_lp631
      refine lv_iload_n hx hb dX7_leaveWith_2 rfl (lv_at hl 0 rfl) ?_
      refine lv_aload_n hx hb dX7_leaveWith_3 rfl (lv_at hl 1 rfl) ?_
      refine va_get (D := (dC, dI)) (ci := 7) (v := .int (v_lp631 61)) (C := RX7) (T := TX7) (N := 7) hx hb hwd inA_X7 hown hK hP 3 rfl rfl 1 (by decide) (hwd _ wk_289) (fun _ h9 => h9) rfl dX7_leaveWith_4 ?_
      refine my_top (v := v 61) (hf_lp631 61 (by decide)) ?_
      have t633 : 0 ≤ (v 61).toInt ∧ (v 61).toInt ≤ 100 := by have h9 := hI.1 61 _ _ rfl; rw [show v_lp631 61 = v 61 from hf_lp631 61 (by decide)] at h9; exact h9
      refine lv_icmp_ge (tgt := 67) hx hb dX7_leaveWith_7 (by decide) (fun c634 => ?_) (fun c634 => ?_)
      · skip
        have t635 := cv_le (a := (v 61).toInt) rfl (b := x3_lp631.toInt) rfl c634
        have hP9 : va_P (dC, dI) classes (wX g c v_lp631 F_lp631 rc) H := hP
        exact W.vret hx hb hr (fun t ht hW => ⟨⟨(v_lp631, F_lp631, rc), rfl, ⟨hI, hal, rfl, (frC (by decide) hf_lp631 (fun _ _ => rfl)), trivial⟩, (by show va_P _ _ _ t.heap; rw [ht]; exact hP9)⟩, hS.F ht⟩) hS.2.2 dX7_leaveWith_67
      · skip
        have t636 := cv_nle (a := (v 61).toInt) rfl (b := x3_lp631.toInt) rfl c634
        refine lv_aload_n hx hb dX7_leaveWith_10 rfl (lv_at hl 1 rfl) ?_
        refine va_get (D := (dC, dI)) (ci := 7) (v := .ref (g 26)) (C := RX7) (T := TX7) (N := 7) hx hb hwd inA_X7 hown hK hP 3 rfl rfl 4 (by decide) (hwd _ wk_97) (fun _ h9 => h9) rfl dX7_leaveWith_11 ?_
        refine lv_iload_n hx hb dX7_leaveWith_14 rfl (lv_at hl 0 rfl) ?_
        refine va_iald hx hb hK hP 26 14 rfl rfl (i := x3_lp631) (vin (a := x3_lp631.toInt) rfl (by omega)) dX7_leaveWith_15 ?_
        refine lv_topi (fun z637 e638 => ?_)
        refine lv_iload_n hx hb dX7_leaveWith_16 rfl (lv_at hl 2 rfl) ?_
        refine lv_icmp_ne (tgt := 61) hx hb dX7_leaveWith_17 (by decide) (fun c639 => ?_) (fun c639 => ?_)
        · skip
          have t640 := cv_ne (a := z637.toInt) rfl (b := p0.toInt) rfl c639
          obtain ⟨z641, e642⟩ : ∃ y : Int32, y = x3_lp631 + 1 := ⟨_, rfl⟩
          try (have t643 := tadd e642 rfl (b := 1) (by decide) (by omega))
          refine lv_iinc (v := z641) (lv' := [(3, .int z641), (0, .ref (g 3)), (1, .int p0), (2, .int p1)]) hx hb dX7_leaveWith_61 hl (k := 0) rfl (by rw [e642]; rfl) (by decide) rfl (fun ls hl => ?_)
          refine lv_goto (tgt := 2) hx hb dX7_leaveWith_64 (by decide) ?_
          exact ih_lp631 z641 v_lp631 F_lp631 _ _ _ (by omega) (by omega) hf_lp631 hI hal hP hS (lv_sub hl [0, 1, 2, 3] rfl)
        · skip
          have t644 := cv_eq (a := z637.toInt) rfl (b := p0.toInt) rfl c639
          refine lv_aload_n hx hb dX7_leaveWith_20 rfl (lv_at hl 1 rfl) ?_
          refine va_get (D := (dC, dI)) (ci := 7) (v := .ref (g 4)) (C := RX7) (T := TX7) (N := 7) hx hb hwd inA_X7 hown hK hP 3 rfl rfl 0 (by decide) (hwd _ wk_100) (fun _ h9 => h9) rfl dX7_leaveWith_21 ?_
          refine lv_aload_n hx hb dX7_leaveWith_24 rfl (lv_at hl 1 rfl) ?_
          refine va_get (D := (dC, dI)) (ci := 7) (v := .ref (g 28)) (C := RX7) (T := TX7) (N := 7) hx hb hwd inA_X7 hown hK hP 3 rfl rfl 6 (by decide) (hwd _ wk_99) (fun _ h9 => h9) rfl dX7_leaveWith_25 ?_
          refine lv_iload_n hx hb dX7_leaveWith_28 rfl (lv_at hl 0 rfl) ?_
          refine va_iald hx hb hK hP 28 16 rfl rfl (i := x3_lp631) (vin (a := x3_lp631.toInt) rfl (by omega)) dX7_leaveWith_29 ?_
          refine lv_topi (fun z645 e646 => ?_)
          refine lv_iload_n hx hb dX7_leaveWith_30 rfl (lv_at hl 3 rfl) ?_
          refine lv_aload_n hx hb dX7_leaveWith_31 rfl (lv_at hl 1 rfl) ?_
          refine lv_iload_n hx hb dX7_leaveWith_32 rfl (lv_at hl 0 rfl) ?_
          refine lv_iconst (v := 0) hx hb dX7_leaveWith_33 (by decide) ?_
          refine va_calli (va_runV (As := [.int x3_lp631, .int 0]) (rest := [.int p1, .int z645, .ref (g 4)]) ⟨hx, hb, hml, hown, hwd⟩ (c_X7_usedOf l dC dI g c adK adV v_lp631 F_lp631 rc H.size x3_lp631 0 hg hI (by omega) (by have : (0 : Int32).toInt = 0 := (by decide); omega)) (cwV 2 hwd (gV wk_369 wk_448 wk_367 wk_368 wk_26) rfl rfl rfl (by decide +kernel) ⟨Nat.le_of_ble_eq_true rfl, Nat.le_of_ble_eq_true rfl⟩) ⟨PX.blind, va_recv hK hP (ci := 7) (q0 := 3) rfl rfl, fun U hU hW => ⟨rfl, PX.at hK hE hP hS hU hW⟩⟩ rfl rfl hl.1 rfl (lv_room (Nat.le_of_ble_eq_true rfl)) dX7_leaveWith_34 ⟨Nat.le_of_ble_eq_true rfl, Nat.le_of_ble_eq_true rfl⟩) hS (fun q _ h => (freeX hS) q h) (freeX hS) (fun r647 u t H1 locs ht hvm hw hB hz1 hk1 hS => ?_)
          unfold BX at hB
          rw [ht] at hB
          have hP : va_P (dC, dI) classes (wX g c v_lp631 F_lp631 rc) H1 := hB
          generalize H1 = H at hP hS ⊢
          have rr_r647 := i32_rng r647
          refine lv_aload_n hx hb dX7_leaveWith_37 rfl (lv_at hl 1 rfl) ?_
          refine lv_iload_n hx hb dX7_leaveWith_38 rfl (lv_at hl 0 rfl) ?_
          refine lv_iconst (v := 1) hx hb dX7_leaveWith_39 (by decide) ?_
          refine va_calli (va_runV (As := [.int x3_lp631, .int 1]) (rest := [.int r647, .int p1, .int z645, .ref (g 4)]) ⟨hx, hb, hml, hown, hwd⟩ (c_X7_usedOf l dC dI g c adK adV v_lp631 F_lp631 rc H.size x3_lp631 1 hg hI (by omega) (by have : (1 : Int32).toInt = 1 := (by decide); omega)) (cwV 2 hwd (gV wk_369 wk_448 wk_367 wk_368 wk_26) rfl rfl rfl (by decide +kernel) ⟨Nat.le_of_ble_eq_true rfl, Nat.le_of_ble_eq_true rfl⟩) ⟨PX.blind, va_recv hK hP (ci := 7) (q0 := 3) rfl rfl, fun U hU hW => ⟨rfl, PX.at hK hE hP hS hU hW⟩⟩ rfl rfl hl.1 rfl (lv_room (Nat.le_of_ble_eq_true rfl)) dX7_leaveWith_40 ⟨Nat.le_of_ble_eq_true rfl, Nat.le_of_ble_eq_true rfl⟩) hS (fun q _ h => (freeX hS) q h) (freeX hS) (fun r648 u t H1 locs ht hvm hw hB hz1 hk1 hS => ?_)
          unfold BX at hB
          rw [ht] at hB
          have hP : va_P (dC, dI) classes (wX g c v_lp631 F_lp631 rc) H1 := hB
          generalize H1 = H at hP hS ⊢
          have rr_r648 := i32_rng r648
          refine va_callv (va_runV (As := [.int z645, .int p1, .int r647, .int r648]) (rest := []) ⟨hx, hb, hml, hown, hwd⟩ (c_X9_end l dC dI g c adK adV v_lp631 F_lp631 rc H.size z645 p1 r647 r648 hg hI ) (cwV 4 hwd (gV wk_622 wk_619 wk_620 wk_621 wk_22) rfl rfl rfl (by decide +kernel) ⟨Nat.le_of_ble_eq_true rfl, Nat.le_of_ble_eq_true rfl⟩) ⟨PX.blind, va_recv hK hP (ci := 9) (q0 := 4) rfl rfl, fun U hU hW => ⟨rfl, PX.at hK hE hP hS hU hW⟩⟩ rfl rfl hl.1 rfl (lv_room (Nat.le_of_ble_eq_true rfl)) dX7_leaveWith_43 ⟨Nat.le_of_ble_eq_true rfl, Nat.le_of_ble_eq_true rfl⟩) hS (fun q _ h => (freeX hS) q h) (freeX hS) (fun u t H1 locs ht hvm hw hB hz1 hk1 hS => ?_)
          unfold BX at hB
          rw [ht] at hB
          obtain ⟨v650, F651, rc9⟩ := u
          obtain ⟨hI, hal9, hrc, hf652, hw⟩ := hw
          dsimp only at hI hal9 hrc hB hf652 hw
          rw [hrc] at hB
          have hal := hal9.trans hal
          have hP : va_P (dC, dI) classes (wX g c v650 F651 rc) H1 := hB
          generalize H1 = H at hP hS ⊢
          refine lv_aload_n hx hb dX7_leaveWith_46 rfl (lv_at hl 1 rfl) ?_
          refine va_get (D := (dC, dI)) (ci := 7) (v := .ref (g 28)) (C := RX7) (T := TX7) (N := 7) hx hb hwd inA_X7 hown hK hP 3 rfl rfl 6 (by decide) (hwd _ wk_99) (fun _ h9 => h9) rfl dX7_leaveWith_47 ?_
          refine lv_iload_n hx hb dX7_leaveWith_50 rfl (lv_at hl 0 rfl) ?_
          refine lv_iconst (v := (-1)) hx hb dX7_leaveWith_51 (by decide) ?_
          refine va_iast hx hb hK hP (DX hg) hS 28 16 rfl rfl (i := x3_lp631) (x := (-1)) (vin (a := x3_lp631.toInt) rfl (by omega)) dX7_leaveWith_52 (fun H locs hP _ hS => ?_)
          have hP := va_P_eq (sX_28 g c _ _ _ _) hP
          have hI := IX.store0 hI 28 (x3_lp631 : Int32).toNatClampNeg (-1) rfl
          have hal := (alX_F _ _ 28 (upd (F651 28) (x3_lp631 : Int32).toNatClampNeg (-1)) (by decide) (by decide) (by decide) (by decide) (by decide)).trans hal
          have hP : va_P (dC, dI) classes (wX g c v650 (va_up F651 28 (upd (F651 28) (x3_lp631 : Int32).toNatClampNeg (-1))) rc) H := hP
          generalize (va_up F651 28 (upd (F651 28) (x3_lp631 : Int32).toNatClampNeg (-1))) = F653 at hP hI hal
          refine lv_aload_n hx hb dX7_leaveWith_53 rfl (lv_at hl 1 rfl) ?_
          refine va_get (D := (dC, dI)) (ci := 7) (v := .ref (g 26)) (C := RX7) (T := TX7) (N := 7) hx hb hwd inA_X7 hown hK hP 3 rfl rfl 4 (by decide) (hwd _ wk_97) (fun _ h9 => h9) rfl dX7_leaveWith_54 ?_
          refine lv_iload_n hx hb dX7_leaveWith_57 rfl (lv_at hl 0 rfl) ?_
          refine lv_bipush (v := 12) hx hb dX7_leaveWith_58 (by decide) ?_
          refine va_iast hx hb hK hP (DX hg) hS 26 14 rfl rfl (i := x3_lp631) (x := 12) (vin (a := x3_lp631.toInt) rfl (by omega)) dX7_leaveWith_60 (fun H locs hP _ hS => ?_)
          have hP := va_P_eq (sX_26 g c _ _ _ _) hP
          have hI := IX.store0 hI 26 (x3_lp631 : Int32).toNatClampNeg 12 rfl
          have hal := (alX_F _ _ 26 (upd (F653 26) (x3_lp631 : Int32).toNatClampNeg 12) (by decide) (by decide) (by decide) (by decide) (by decide)).trans hal
          have hP : va_P (dC, dI) classes (wX g c v650 (va_up F653 26 (upd (F653 26) (x3_lp631 : Int32).toNatClampNeg 12)) rc) H := hP
          generalize (va_up F653 26 (upd (F653 26) (x3_lp631 : Int32).toNatClampNeg 12)) = F654 at hP hI hal
          obtain ⟨z655, e656⟩ : ∃ y : Int32, y = x3_lp631 + 1 := ⟨_, rfl⟩
          try (have t657 := tadd e656 rfl (b := 1) (by decide) (by omega))
          refine lv_iinc (v := z655) (lv' := [(3, .int z655), (0, .ref (g 3)), (1, .int p0), (2, .int p1)]) hx hb dX7_leaveWith_61 hl (k := 0) rfl (by rw [e656]; rfl) (by decide) rfl (fun ls hl => ?_)
          refine lv_goto (tgt := 2) hx hb dX7_leaveWith_64 (by decide) ?_
          exact ih_lp631 z655 v650 F654 _ _ _ (by omega) (by omega) (frC (by decide) hf652 hf_lp631) hI hal hP hS (lv_sub hl [0, 1, 2, 3] rfl)
  obtain ⟨n9, hn9⟩ : ∃ n : Nat, 2147483648 - 0 ≤ (n : Int) := ⟨((2147483648 - 0 : Int)).toNat, by omega⟩
  exact lp631 n9 0 v F H _ ls (by have : (0 : Int32).toInt = 0 := (by decide); omega) (by have : (0 : Int32).toInt = 0 := (by decide); omega) (fun _ _ => rfl) hI hal hP hS hl
set_option maxHeartbeats 8000000 in
set_option maxRecDepth 100000 in
theorem c_X7_countAt (l : Launch) (dC : Nat → ClassId) (dI : Nat → Nat → Nat) (g : Nat → Nat) (c : Nat → ClassId) (adK adV : Nat → Nat) (v : Nat → Int32) (F : Nat → Nat → Int32) (rc sz : Nat) (p0 : Int32) (hg : injX g) (hI : IX v F) : Met l yX7_countAt (Cond.code yX7_countAt cX7_countAt 4 (some .int) :: wA) ({ frames := 1, cells := 0, slots := 0, locals := 40 }) (va_Pc [.ref (g 3), .int p0] (PX dC dI g c adK adV v F rc sz)) (va_Qi (fun (r : Int32) (u : Unit) => True) (fun (_ : Unit) => BX dC dI g c (v, F, rc)) (AX g sz)) 0 0 (AX g sz) := by
  refine Met.ofW (cc := cX7_countAt) (maxL := 4) (ret := (some .int)) (by decide) rfl ?_
  intro p e s m args below meth c0 s₁ B hml hv
  obtain ⟨rfl, hsz, hP, hK, hE⟩ := hv
  have hx := B.exec
  have hb := B.bytes
  have hr := B.returns
  have hts := atoms_spec (ws := Cond.code yX7_countAt cX7_countAt 4 (some .int) :: wA) B.pre
  have hwd : ∀ w ∈ wA, w.before _ s = true := fun w h => hts w (List.mem_cons_of_mem _ h)
  have hown : s.vm.findClass RX7 = some m.cls := findClass_of_methodNamed B.named
  have hlocks := B.notSynchronized
  subst hsz
  have hl := lv_entry ([.ref (g 3), .int p0]) (n := 4) (Nat.le_of_ble_eq_true rfl)
  rw [lg_entry_eq]
  generalize (lg_sl ([.ref (g 3), .int p0]) ++ List.replicate (4 - (lg_sl ([.ref (g 3), .int p0])).length) Slot.unset).toArray = ls at hl ⊢
  have hl : lv_has ls 4 [(0, .ref (g 3)), (1, .int p0)] := hl
  obtain ⟨H, eH⟩ : ∃ z, z = s.heap := ⟨_, rfl⟩
  have hP : va_P (dC, dI) classes (wX g c v F rc) H := by rw [eH]; exact hP
  have hS : va_S (AX g s.heap.size) s.heap H [] := by rw [eH]; exact va_S.rf
  refine my_heap eH ?_
  have rp0 := i32_rng p0
  refine lv_iconst (v := 0) hx hb dX7_countAt_0 (by decide) ?_
  refine lv_istore_n (lv' := [(2, .int 0), (0, .ref (g 3)), (1, .int p0)]) hx hb dX7_countAt_1 rfl hl (by decide) rfl (fun ls hl => ?_)
  refine lv_iconst (v := 0) hx hb dX7_countAt_2 (by decide) ?_
  refine lv_istore_n (lv' := [(3, .int 0), (2, .int 0), (0, .ref (g 3)), (1, .int p0)]) hx hb dX7_countAt_3 rfl hl (by decide) rfl (fun ls hl => ?_)
  have lp658 : ∀ (n : Nat) (x3_lp658 : Int32) (x2_lp658 : Int32) (H : Heap) (locs : List Loc) (ls : Array Slot), (0 ≤ x3_lp658.toInt) → (2147483648 - x3_lp658.toInt ≤ (n : Int)) → va_P (dC, dI) classes (wX g c v F rc) H → va_S (AX g s.heap.size) s.heap H locs → lv_has ls 4 [(3, .int x3_lp658), (2, .int x2_lp658), (0, .ref (g 3)), (1, .int p0)] → W p l e (headSpec (Cond.code yX7_countAt cX7_countAt 4 (some .int) :: wA) ({ frames := 1, cells := 0, slots := 0, locals := 40 })).room s m ([.ref (g 3), .int p0] : List Value).toArray below meth c0 H locs 0 0 (MQ below (va_Qi (fun (r : Int32) (u : Unit) => True) (fun (_ : Unit) => BX dC dI g c (v, F, rc)) (AX g s.heap.size)) ([.ref (g 3), .int p0] : List Value).toArray s 0 0 (AX g s.heap.size)) (F0 m 4 ls []) := by
    intro n
    induction n with
    | zero =>
      intro x3_lp658 x2_lp658 H locs ls t659 hm hP hS hl
      exfalso
      have := i32_rng x3_lp658
      have := i32_rng x2_lp658
      omega
    | succ n ih_lp658 =>
      intro x3_lp658 x2_lp658 H locs ls t659 hm hP hS hl
      have rx3_lp658 := i32_rng x3_lp658
      have rx2_lp658 := i32_rng x2_lp658
      refine lv_iload_n hx hb dX7_countAt_4 rfl (lv_at hl 0 rfl) ?_
      refine lv_aload_n hx hb dX7_countAt_5 rfl (lv_at hl 2 rfl) ?_
      refine va_get (D := (dC, dI)) (ci := 7) (v := .int (v 61)) (C := RX7) (T := TX7) (N := 7) hx hb hwd inA_X7 hown hK hP 3 rfl rfl 1 (by decide) (hwd _ wk_289) (fun _ h9 => h9) rfl dX7_countAt_6 ?_
      have t660 : 0 ≤ (v 61).toInt ∧ (v 61).toInt ≤ 100 := hI.1 61 _ _ rfl
      refine lv_icmp_ge (tgt := 36) hx hb dX7_countAt_9 (by decide) (fun c661 => ?_) (fun c661 => ?_)
      · skip
        have t662 := cv_le (a := (v 61).toInt) rfl (b := x3_lp658.toInt) rfl c661
        refine lv_iload_n hx hb dX7_countAt_36 rfl (lv_at hl 1 rfl) ?_
        have hP9 : va_P (dC, dI) classes (wX g c v F rc) H := hP
        exact W.iret (v := x2_lp658) hx hb hr (fun t ht hW => ⟨⟨x2_lp658, (), rfl, trivial, (by show va_P _ _ _ t.heap; rw [ht]; exact hP9)⟩, hS.F ht⟩) hS.2.2 dX7_countAt_37
      · skip
        have t663 := cv_nle (a := (v 61).toInt) rfl (b := x3_lp658.toInt) rfl c661
        refine lv_iload_n hx hb dX7_countAt_12 rfl (lv_at hl 1 rfl) ?_
        refine lv_aload_n hx hb dX7_countAt_13 rfl (lv_at hl 2 rfl) ?_
        refine va_get (D := (dC, dI)) (ci := 7) (v := .ref (g 26)) (C := RX7) (T := TX7) (N := 7) hx hb hwd inA_X7 hown hK hP 3 rfl rfl 4 (by decide) (hwd _ wk_97) (fun _ h9 => h9) rfl dX7_countAt_14 ?_
        refine lv_iload_n hx hb dX7_countAt_17 rfl (lv_at hl 0 rfl) ?_
        refine va_iald hx hb hK hP 26 14 rfl rfl (i := x3_lp658) (vin (a := x3_lp658.toInt) rfl (by omega)) dX7_countAt_18 ?_
        refine lv_topi (fun z664 e665 => ?_)
        refine lv_iload_n hx hb dX7_countAt_19 rfl (lv_at hl 3 rfl) ?_
        refine lv_icmp_ne (tgt := 27) hx hb dX7_countAt_20 (by decide) (fun c666 => ?_) (fun c666 => ?_)
        · skip
          have t667 := cv_ne (a := z664.toInt) rfl (b := p0.toInt) rfl c666
          refine lv_iconst (v := 0) hx hb dX7_countAt_27 (by decide) ?_
          refine lv_iadd hx hb dX7_countAt_28 ?_
          refine lv_topi (fun z668 e669 => ?_)
          try (have t670 := tadd e669 (a := x2_lp658.toInt) rfl (b := 0) (by decide) (by omega))
          refine lv_istore_n (lv' := [(2, .int z668), (3, .int x3_lp658), (0, .ref (g 3)), (1, .int p0)]) hx hb dX7_countAt_29 rfl hl (by decide) rfl (fun ls hl => ?_)
          obtain ⟨z671, e672⟩ : ∃ y : Int32, y = x3_lp658 + 1 := ⟨_, rfl⟩
          try (have t673 := tadd e672 rfl (b := 1) (by decide) (by omega))
          refine lv_iinc (v := z671) (lv' := [(3, .int z671), (2, .int z668), (0, .ref (g 3)), (1, .int p0)]) hx hb dX7_countAt_30 hl (k := 1) rfl (by rw [e672]; rfl) (by decide) rfl (fun ls hl => ?_)
          refine lv_goto (tgt := 4) hx hb dX7_countAt_33 (by decide) ?_
          exact ih_lp658 z671 z668  _ _ _ (by omega) (by omega) hP hS (lv_sub hl [0, 1, 2, 3] rfl)
        · skip
          have t674 := cv_eq (a := z664.toInt) rfl (b := p0.toInt) rfl c666
          refine lv_iconst (v := 1) hx hb dX7_countAt_23 (by decide) ?_
          refine lv_goto (tgt := 28) hx hb dX7_countAt_24 (by decide) ?_
          refine lv_iadd hx hb dX7_countAt_28 ?_
          refine lv_topi (fun z675 e676 => ?_)
          try (have t677 := tadd e676 (a := x2_lp658.toInt) rfl (b := 1) (by decide) (by omega))
          refine lv_istore_n (lv' := [(2, .int z675), (3, .int x3_lp658), (0, .ref (g 3)), (1, .int p0)]) hx hb dX7_countAt_29 rfl hl (by decide) rfl (fun ls hl => ?_)
          obtain ⟨z678, e679⟩ : ∃ y : Int32, y = x3_lp658 + 1 := ⟨_, rfl⟩
          try (have t680 := tadd e679 rfl (b := 1) (by decide) (by omega))
          refine lv_iinc (v := z678) (lv' := [(3, .int z678), (2, .int z675), (0, .ref (g 3)), (1, .int p0)]) hx hb dX7_countAt_30 hl (k := 1) rfl (by rw [e679]; rfl) (by decide) rfl (fun ls hl => ?_)
          refine lv_goto (tgt := 4) hx hb dX7_countAt_33 (by decide) ?_
          exact ih_lp658 z678 z675  _ _ _ (by omega) (by omega) hP hS (lv_sub hl [0, 1, 2, 3] rfl)
  obtain ⟨n9, hn9⟩ : ∃ n : Nat, 2147483648 - 0 ≤ (n : Int) := ⟨((2147483648 - 0 : Int)).toNat, by omega⟩
  exact lp658 n9 0 0  H _ ls (by have : (0 : Int32).toInt = 0 := (by decide); have : (0 : Int32).toInt = 0 := (by decide); omega) (by have : (0 : Int32).toInt = 0 := (by decide); have : (0 : Int32).toInt = 0 := (by decide); omega) hP hS hl
set_option maxHeartbeats 8000000 in
set_option maxRecDepth 100000 in
theorem c_X7_ofKindAt (l : Launch) (dC : Nat → ClassId) (dI : Nat → Nat → Nat) (g : Nat → Nat) (c : Nat → ClassId) (adK adV : Nat → Nat) (v : Nat → Int32) (F : Nat → Nat → Int32) (rc sz : Nat) (p0 : Int32) (p1 : Int32) (hg : injX g) (hI : IX v F) : Met l yX7_ofKindAt (Cond.code yX7_ofKindAt cX7_ofKindAt 5 (some .int) :: wA) ({ frames := 1, cells := 0, slots := 0, locals := 40 }) (va_Pc [.ref (g 3), .int p0, .int p1] (PX dC dI g c adK adV v F rc sz)) (va_Qi (fun (r : Int32) (u : Unit) => True) (fun (_ : Unit) => BX dC dI g c (v, F, rc)) (AX g sz)) 0 0 (AX g sz) := by
  refine Met.ofW (cc := cX7_ofKindAt) (maxL := 5) (ret := (some .int)) (by decide) rfl ?_
  intro p e s m args below meth c0 s₁ B hml hv
  obtain ⟨rfl, hsz, hP, hK, hE⟩ := hv
  have hx := B.exec
  have hb := B.bytes
  have hr := B.returns
  have hts := atoms_spec (ws := Cond.code yX7_ofKindAt cX7_ofKindAt 5 (some .int) :: wA) B.pre
  have hwd : ∀ w ∈ wA, w.before _ s = true := fun w h => hts w (List.mem_cons_of_mem _ h)
  have hown : s.vm.findClass RX7 = some m.cls := findClass_of_methodNamed B.named
  have hlocks := B.notSynchronized
  subst hsz
  have hl := lv_entry ([.ref (g 3), .int p0, .int p1]) (n := 5) (Nat.le_of_ble_eq_true rfl)
  rw [lg_entry_eq]
  generalize (lg_sl ([.ref (g 3), .int p0, .int p1]) ++ List.replicate (5 - (lg_sl ([.ref (g 3), .int p0, .int p1])).length) Slot.unset).toArray = ls at hl ⊢
  have hl : lv_has ls 5 [(0, .ref (g 3)), (1, .int p0), (2, .int p1)] := hl
  obtain ⟨H, eH⟩ : ∃ z, z = s.heap := ⟨_, rfl⟩
  have hP : va_P (dC, dI) classes (wX g c v F rc) H := by rw [eH]; exact hP
  have hS : va_S (AX g s.heap.size) s.heap H [] := by rw [eH]; exact va_S.rf
  refine my_heap eH ?_
  have rp0 := i32_rng p0
  have rp1 := i32_rng p1
  refine lv_iconst (v := 0) hx hb dX7_ofKindAt_0 (by decide) ?_
  refine lv_istore_n (lv' := [(3, .int 0), (0, .ref (g 3)), (1, .int p0), (2, .int p1)]) hx hb dX7_ofKindAt_1 rfl hl (by decide) rfl (fun ls hl => ?_)
  refine lv_iconst (v := 0) hx hb dX7_ofKindAt_2 (by decide) ?_
  refine lv_istore (lv' := [(4, .int 0), (3, .int 0), (0, .ref (g 3)), (1, .int p0), (2, .int p1)]) hx hb dX7_ofKindAt_3 hl (by decide) rfl (fun ls hl => ?_)
  have lp681 : ∀ (n : Nat) (x4_lp681 : Int32) (x3_lp681 : Int32) (H : Heap) (locs : List Loc) (ls : Array Slot), (0 ≤ x4_lp681.toInt) → (2147483648 - x4_lp681.toInt ≤ (n : Int)) → va_P (dC, dI) classes (wX g c v F rc) H → va_S (AX g s.heap.size) s.heap H locs → lv_has ls 5 [(4, .int x4_lp681), (3, .int x3_lp681), (0, .ref (g 3)), (1, .int p0), (2, .int p1)] → W p l e (headSpec (Cond.code yX7_ofKindAt cX7_ofKindAt 5 (some .int) :: wA) ({ frames := 1, cells := 0, slots := 0, locals := 40 })).room s m ([.ref (g 3), .int p0, .int p1] : List Value).toArray below meth c0 H locs 0 0 (MQ below (va_Qi (fun (r : Int32) (u : Unit) => True) (fun (_ : Unit) => BX dC dI g c (v, F, rc)) (AX g s.heap.size)) ([.ref (g 3), .int p0, .int p1] : List Value).toArray s 0 0 (AX g s.heap.size)) (F0 m 5 ls []) := by
    intro n
    induction n with
    | zero =>
      intro x4_lp681 x3_lp681 H locs ls t682 hm hP hS hl
      exfalso
      have := i32_rng x4_lp681
      have := i32_rng x3_lp681
      omega
    | succ n ih_lp681 =>
      intro x4_lp681 x3_lp681 H locs ls t682 hm hP hS hl
      have rx4_lp681 := i32_rng x4_lp681
      have rx3_lp681 := i32_rng x3_lp681
      refine lv_iload hx hb dX7_ofKindAt_5 (lv_at hl 0 rfl) ?_
      refine lv_aload_n hx hb dX7_ofKindAt_7 rfl (lv_at hl 2 rfl) ?_
      refine va_get (D := (dC, dI)) (ci := 7) (v := .int (v 61)) (C := RX7) (T := TX7) (N := 7) hx hb hwd inA_X7 hown hK hP 3 rfl rfl 1 (by decide) (hwd _ wk_289) (fun _ h9 => h9) rfl dX7_ofKindAt_8 ?_
      have t683 : 0 ≤ (v 61).toInt ∧ (v 61).toInt ≤ 100 := hI.1 61 _ _ rfl
      refine lv_icmp_ge (tgt := 50) hx hb dX7_ofKindAt_11 (by decide) (fun c684 => ?_) (fun c684 => ?_)
      · skip
        have t685 := cv_le (a := (v 61).toInt) rfl (b := x4_lp681.toInt) rfl c684
        refine lv_iload_n hx hb dX7_ofKindAt_50 rfl (lv_at hl 1 rfl) ?_
        have hP9 : va_P (dC, dI) classes (wX g c v F rc) H := hP
        exact W.iret (v := x3_lp681) hx hb hr (fun t ht hW => ⟨⟨x3_lp681, (), rfl, trivial, (by show va_P _ _ _ t.heap; rw [ht]; exact hP9)⟩, hS.F ht⟩) hS.2.2 dX7_ofKindAt_51
      · skip
        have t686 := cv_nle (a := (v 61).toInt) rfl (b := x4_lp681.toInt) rfl c684
        refine lv_iload_n hx hb dX7_ofKindAt_14 rfl (lv_at hl 1 rfl) ?_
        refine lv_aload_n hx hb dX7_ofKindAt_15 rfl (lv_at hl 2 rfl) ?_
        refine va_get (D := (dC, dI)) (ci := 7) (v := .ref (g 24)) (C := RX7) (T := TX7) (N := 7) hx hb hwd inA_X7 hown hK hP 3 rfl rfl 2 (by decide) (hwd _ wk_95) (fun _ h9 => h9) rfl dX7_ofKindAt_16 ?_
        refine lv_iload hx hb dX7_ofKindAt_19 (lv_at hl 0 rfl) ?_
        refine va_iald hx hb hK hP 24 12 rfl rfl (i := x4_lp681) (vin (a := x4_lp681.toInt) rfl (by omega)) dX7_ofKindAt_21 ?_
        refine lv_topi (fun z687 e688 => ?_)
        have t689 : 0 ≤ z687.toInt ∧ z687.toInt ≤ 9 := by rw [e688]; exact hI.2 24 _ _ rfl _
        refine lv_iload_n hx hb dX7_ofKindAt_22 rfl (lv_at hl 3 rfl) ?_
        refine lv_icmp_ne (tgt := 41) hx hb dX7_ofKindAt_23 (by decide) (fun c690 => ?_) (fun c690 => ?_)
        · skip
          have t691 := cv_ne (a := z687.toInt) rfl (b := p0.toInt) rfl c690
          refine lv_iconst (v := 0) hx hb dX7_ofKindAt_41 (by decide) ?_
          refine lv_iadd hx hb dX7_ofKindAt_42 ?_
          refine lv_topi (fun z692 e693 => ?_)
          try (have t694 := tadd e693 (a := x3_lp681.toInt) rfl (b := 0) (by decide) (by omega))
          refine lv_istore_n (lv' := [(3, .int z692), (4, .int x4_lp681), (0, .ref (g 3)), (1, .int p0), (2, .int p1)]) hx hb dX7_ofKindAt_43 rfl hl (by decide) rfl (fun ls hl => ?_)
          obtain ⟨z695, e696⟩ : ∃ y : Int32, y = x4_lp681 + 1 := ⟨_, rfl⟩
          try (have t697 := tadd e696 rfl (b := 1) (by decide) (by omega))
          refine lv_iinc (v := z695) (lv' := [(4, .int z695), (3, .int z692), (0, .ref (g 3)), (1, .int p0), (2, .int p1)]) hx hb dX7_ofKindAt_44 hl (k := 1) rfl (by rw [e696]; rfl) (by decide) rfl (fun ls hl => ?_)
          refine lv_goto (tgt := 5) hx hb dX7_ofKindAt_47 (by decide) ?_
          exact ih_lp681 z695 z692  _ _ _ (by omega) (by omega) hP hS (lv_sub hl [0, 1, 2, 3, 4] rfl)
        · skip
          have t698 := cv_eq (a := z687.toInt) rfl (b := p0.toInt) rfl c690
          refine lv_aload_n hx hb dX7_ofKindAt_26 rfl (lv_at hl 2 rfl) ?_
          refine va_get (D := (dC, dI)) (ci := 7) (v := .ref (g 26)) (C := RX7) (T := TX7) (N := 7) hx hb hwd inA_X7 hown hK hP 3 rfl rfl 4 (by decide) (hwd _ wk_97) (fun _ h9 => h9) rfl dX7_ofKindAt_27 ?_
          refine lv_iload hx hb dX7_ofKindAt_30 (lv_at hl 0 rfl) ?_
          refine va_iald hx hb hK hP 26 14 rfl rfl (i := x4_lp681) (vin (a := x4_lp681.toInt) rfl (by omega)) dX7_ofKindAt_32 ?_
          refine lv_topi (fun z699 e700 => ?_)
          refine lv_iload_n hx hb dX7_ofKindAt_33 rfl (lv_at hl 4 rfl) ?_
          refine lv_icmp_ne (tgt := 41) hx hb dX7_ofKindAt_34 (by decide) (fun c701 => ?_) (fun c701 => ?_)
          · skip
            have t702 := cv_ne (a := z699.toInt) rfl (b := p1.toInt) rfl c701
            refine lv_iconst (v := 0) hx hb dX7_ofKindAt_41 (by decide) ?_
            refine lv_iadd hx hb dX7_ofKindAt_42 ?_
            refine lv_topi (fun z703 e704 => ?_)
            try (have t705 := tadd e704 (a := x3_lp681.toInt) rfl (b := 0) (by decide) (by omega))
            refine lv_istore_n (lv' := [(3, .int z703), (4, .int x4_lp681), (0, .ref (g 3)), (1, .int p0), (2, .int p1)]) hx hb dX7_ofKindAt_43 rfl hl (by decide) rfl (fun ls hl => ?_)
            obtain ⟨z706, e707⟩ : ∃ y : Int32, y = x4_lp681 + 1 := ⟨_, rfl⟩
            try (have t708 := tadd e707 rfl (b := 1) (by decide) (by omega))
            refine lv_iinc (v := z706) (lv' := [(4, .int z706), (3, .int z703), (0, .ref (g 3)), (1, .int p0), (2, .int p1)]) hx hb dX7_ofKindAt_44 hl (k := 1) rfl (by rw [e707]; rfl) (by decide) rfl (fun ls hl => ?_)
            refine lv_goto (tgt := 5) hx hb dX7_ofKindAt_47 (by decide) ?_
            exact ih_lp681 z706 z703  _ _ _ (by omega) (by omega) hP hS (lv_sub hl [0, 1, 2, 3, 4] rfl)
          · skip
            have t709 := cv_eq (a := z699.toInt) rfl (b := p1.toInt) rfl c701
            refine lv_iconst (v := 1) hx hb dX7_ofKindAt_37 (by decide) ?_
            refine lv_goto (tgt := 42) hx hb dX7_ofKindAt_38 (by decide) ?_
            refine lv_iadd hx hb dX7_ofKindAt_42 ?_
            refine lv_topi (fun z710 e711 => ?_)
            try (have t712 := tadd e711 (a := x3_lp681.toInt) rfl (b := 1) (by decide) (by omega))
            refine lv_istore_n (lv' := [(3, .int z710), (4, .int x4_lp681), (0, .ref (g 3)), (1, .int p0), (2, .int p1)]) hx hb dX7_ofKindAt_43 rfl hl (by decide) rfl (fun ls hl => ?_)
            obtain ⟨z713, e714⟩ : ∃ y : Int32, y = x4_lp681 + 1 := ⟨_, rfl⟩
            try (have t715 := tadd e714 rfl (b := 1) (by decide) (by omega))
            refine lv_iinc (v := z713) (lv' := [(4, .int z713), (3, .int z710), (0, .ref (g 3)), (1, .int p0), (2, .int p1)]) hx hb dX7_ofKindAt_44 hl (k := 1) rfl (by rw [e714]; rfl) (by decide) rfl (fun ls hl => ?_)
            refine lv_goto (tgt := 5) hx hb dX7_ofKindAt_47 (by decide) ?_
            exact ih_lp681 z713 z710  _ _ _ (by omega) (by omega) hP hS (lv_sub hl [0, 1, 2, 3, 4] rfl)
  obtain ⟨n9, hn9⟩ : ∃ n : Nat, 2147483648 - 0 ≤ (n : Int) := ⟨((2147483648 - 0 : Int)).toNat, by omega⟩
  exact lp681 n9 0 0  H _ ls (by have : (0 : Int32).toInt = 0 := (by decide); have : (0 : Int32).toInt = 0 := (by decide); omega) (by have : (0 : Int32).toInt = 0 := (by decide); have : (0 : Int32).toInt = 0 := (by decide); omega) hP hS hl
set_option maxHeartbeats 8000000 in
set_option maxRecDepth 100000 in
theorem c_X7_age (l : Launch) (dC : Nat → ClassId) (dI : Nat → Nat → Nat) (g : Nat → Nat) (c : Nat → ClassId) (adK adV : Nat → Nat) (v : Nat → Int32) (F : Nat → Nat → Int32) (rc sz : Nat) (p0 : Int32) (hg : injX g) (hI : IX v F) : Met l yX7_age (Cond.code yX7_age cX7_age 3 none :: wA) ({ frames := 1, cells := 0, slots := 0, locals := 40 }) (va_Pc [.ref (g 3), .int p0] (PX dC dI g c adK adV v F rc sz)) (va_Qv (fun (u : StX) => IX u.1 u.2.1 ∧ alX u.1 u.2.1 = alX v F ∧ u.2.2 = rc ∧ (∀ k, k ∉ ([] : List Nat) → u.1 k = v k) ∧ True) (BX dC dI g c) (AX g sz)) 0 0 (AX g sz) := by
  refine Met.ofW (cc := cX7_age) (maxL := 3) (ret := none) (by decide) rfl ?_
  intro p e s m args below meth c0 s₁ B hml hv
  obtain ⟨rfl, hsz, hP, hK, hE⟩ := hv
  have hx := B.exec
  have hb := B.bytes
  have hr := B.returns
  have hts := atoms_spec (ws := Cond.code yX7_age cX7_age 3 none :: wA) B.pre
  have hwd : ∀ w ∈ wA, w.before _ s = true := fun w h => hts w (List.mem_cons_of_mem _ h)
  have hown : s.vm.findClass RX7 = some m.cls := findClass_of_methodNamed B.named
  have hlocks := B.notSynchronized
  subst hsz
  have hl := lv_entry ([.ref (g 3), .int p0]) (n := 3) (Nat.le_of_ble_eq_true rfl)
  rw [lg_entry_eq]
  generalize (lg_sl ([.ref (g 3), .int p0]) ++ List.replicate (3 - (lg_sl ([.ref (g 3), .int p0])).length) Slot.unset).toArray = ls at hl ⊢
  have hl : lv_has ls 3 [(0, .ref (g 3)), (1, .int p0)] := hl
  obtain ⟨H, eH⟩ : ∃ z, z = s.heap := ⟨_, rfl⟩
  have hP : va_P (dC, dI) classes (wX g c v F rc) H := by rw [eH]; exact hP
  have hS : va_S (AX g s.heap.size) s.heap H [] := by rw [eH]; exact va_S.rf
  refine my_heap eH ?_
  have hal : alX v F = alX v F := rfl
  have rp0 := i32_rng p0
  refine lv_iconst (v := 0) hx hb dX7_age_0 (by decide) ?_
  refine lv_istore_n (lv' := [(2, .int 0), (0, .ref (g 3)), (1, .int p0)]) hx hb dX7_age_1 rfl hl (by decide) rfl (fun ls hl => ?_)
  have lp716 : ∀ (n : Nat) (x2_lp716 : Int32) (v_lp716 : Nat → Int32) (F_lp716 : Nat → Nat → Int32) (H : Heap) (locs : List Loc) (ls : Array Slot), (0 ≤ x2_lp716.toInt) → (2147483648 - x2_lp716.toInt ≤ (n : Int)) → (∀ k, k ∉ ([] : List Nat) → v_lp716 k = v k) → IX v_lp716 F_lp716 → alX v_lp716 F_lp716 = alX v F → va_P (dC, dI) classes (wX g c v_lp716 F_lp716 rc) H → va_S (AX g s.heap.size) s.heap H locs → lv_has ls 3 [(2, .int x2_lp716), (0, .ref (g 3)), (1, .int p0)] → W p l e (headSpec (Cond.code yX7_age cX7_age 3 none :: wA) ({ frames := 1, cells := 0, slots := 0, locals := 40 })).room s m ([.ref (g 3), .int p0] : List Value).toArray below meth c0 H locs 0 0 (MQ below (va_Qv (fun (u : StX) => IX u.1 u.2.1 ∧ alX u.1 u.2.1 = alX v F ∧ u.2.2 = rc ∧ (∀ k, k ∉ ([] : List Nat) → u.1 k = v k) ∧ True) (BX dC dI g c) (AX g s.heap.size)) ([.ref (g 3), .int p0] : List Value).toArray s 0 0 (AX g s.heap.size)) (F0 m 2 ls []) := by
    intro n
    induction n with
    | zero =>
      intro x2_lp716 v_lp716 F_lp716 H locs ls t717 hm hf_lp716 hI hal hP hS hl
      exfalso
      have := i32_rng x2_lp716
      have hI1 := hI.1
      omega
    | succ n ih_lp716 =>
      intro x2_lp716 v_lp716 F_lp716 H locs ls t717 hm hf_lp716 hI hal hP hS hl
      have rx2_lp716 := i32_rng x2_lp716
      refine lv_iload_n hx hb dX7_age_2 rfl (lv_at hl 0 rfl) ?_
      refine lv_aload_n hx hb dX7_age_3 rfl (lv_at hl 1 rfl) ?_
      refine va_get (D := (dC, dI)) (ci := 7) (v := .int (v_lp716 61)) (C := RX7) (T := TX7) (N := 7) hx hb hwd inA_X7 hown hK hP 3 rfl rfl 1 (by decide) (hwd _ wk_289) (fun _ h9 => h9) rfl dX7_age_4 ?_
      refine my_top (v := v 61) (hf_lp716 61 (by decide)) ?_
      have t718 : 0 ≤ (v 61).toInt ∧ (v 61).toInt ≤ 100 := by have h9 := hI.1 61 _ _ rfl; rw [show v_lp716 61 = v 61 from hf_lp716 61 (by decide)] at h9; exact h9
      refine lv_icmp_ge (tgt := 41) hx hb dX7_age_7 (by decide) (fun c719 => ?_) (fun c719 => ?_)
      · skip
        have t720 := cv_le (a := (v 61).toInt) rfl (b := x2_lp716.toInt) rfl c719
        have hP9 : va_P (dC, dI) classes (wX g c v_lp716 F_lp716 rc) H := hP
        exact W.vret hx hb hr (fun t ht hW => ⟨⟨(v_lp716, F_lp716, rc), rfl, ⟨hI, hal, rfl, (frC (by decide) hf_lp716 (fun _ _ => rfl)), trivial⟩, (by show va_P _ _ _ t.heap; rw [ht]; exact hP9)⟩, hS.F ht⟩) hS.2.2 dX7_age_41
      · skip
        have t721 := cv_nle (a := (v 61).toInt) rfl (b := x2_lp716.toInt) rfl c719
        refine lv_aload_n hx hb dX7_age_10 rfl (lv_at hl 1 rfl) ?_
        refine va_get (D := (dC, dI)) (ci := 7) (v := .ref (g 26)) (C := RX7) (T := TX7) (N := 7) hx hb hwd inA_X7 hown hK hP 3 rfl rfl 4 (by decide) (hwd _ wk_97) (fun _ h9 => h9) rfl dX7_age_11 ?_
        refine lv_iload_n hx hb dX7_age_14 rfl (lv_at hl 0 rfl) ?_
        refine va_iald hx hb hK hP 26 14 rfl rfl (i := x2_lp716) (vin (a := x2_lp716.toInt) rfl (by omega)) dX7_age_15 ?_
        refine lv_topi (fun z722 e723 => ?_)
        refine lv_bipush (v := 12) hx hb dX7_age_16 (by decide) ?_
        refine lv_icmp_eq (tgt := 35) hx hb dX7_age_18 (by decide) (fun c724 => ?_) (fun c724 => ?_)
        · skip
          have t725 := cv_eq (a := z722.toInt) rfl (b := 12) (by decide) c724
          obtain ⟨z726, e727⟩ : ∃ y : Int32, y = x2_lp716 + 1 := ⟨_, rfl⟩
          try (have t728 := tadd e727 rfl (b := 1) (by decide) (by omega))
          refine lv_iinc (v := z726) (lv' := [(2, .int z726), (0, .ref (g 3)), (1, .int p0)]) hx hb dX7_age_35 hl (k := 0) rfl (by rw [e727]; rfl) (by decide) rfl (fun ls hl => ?_)
          refine lv_goto (tgt := 2) hx hb dX7_age_38 (by decide) ?_
          exact ih_lp716 z726 v_lp716 F_lp716 _ _ _ (by omega) (by omega) hf_lp716 hI hal hP hS (lv_sub hl [0, 1, 2] rfl)
        · skip
          have t729 := cv_ne (a := z722.toInt) rfl (b := 12) (by decide) c724
          refine lv_aload_n hx hb dX7_age_21 rfl (lv_at hl 1 rfl) ?_
          refine va_get (D := (dC, dI)) (ci := 7) (v := .ref (g 27)) (C := RX7) (T := TX7) (N := 7) hx hb hwd inA_X7 hown hK hP 3 rfl rfl 5 (by decide) (hwd _ wk_98) (fun _ h9 => h9) rfl dX7_age_22 ?_
          refine lv_iload_n hx hb dX7_age_25 rfl (lv_at hl 0 rfl) ?_
          refine lv_iconst (v := 3) hx hb dX7_age_26 (by decide) ?_
          refine lv_imul hx hb dX7_age_27 ?_
          refine lv_topi (fun z730 e731 => ?_)
          try (have t732 := tmul e731 (a := x2_lp716.toInt) rfl (b := 3) (by decide) (by omega))
          refine lv_iconst (v := 2) hx hb dX7_age_28 (by decide) ?_
          refine lv_iadd hx hb dX7_age_29 ?_
          refine lv_topi (fun z733 e734 => ?_)
          try (have t735 := tadd e734 (a := z730.toInt) rfl (b := 2) (by decide) (by omega))
          refine lv_dup2_11 hx hb dX7_age_30 rfl rfl ?_
          refine va_iald hx hb hK hP 27 15 rfl rfl (i := z733) (vin (a := z733.toInt) rfl (by omega)) dX7_age_31 ?_
          refine lv_topi (fun z736 e737 => ?_)
          refine lv_iload_n hx hb dX7_age_32 rfl (lv_at hl 2 rfl) ?_
          refine lv_iadd hx hb dX7_age_33 ?_
          refine lv_topi (fun z738 e739 => ?_)
          try (have t740 := tadd e739 (a := z736.toInt) rfl (b := p0.toInt) rfl (by omega))
          refine va_iast hx hb hK hP (DX hg) hS 27 15 rfl rfl (i := z733) (x := z738) (vin (a := z733.toInt) rfl (by omega)) dX7_age_34 (fun H locs hP _ hS => ?_)
          have hP := va_P_eq (sX_27 g c _ _ _ _) hP
          have hI := IX.store0 hI 27 (z733 : Int32).toNatClampNeg z738 rfl
          have hal := (alX_F _ _ 27 (upd (F_lp716 27) (z733 : Int32).toNatClampNeg z738) (by decide) (by decide) (by decide) (by decide) (by decide)).trans hal
          have hP : va_P (dC, dI) classes (wX g c v_lp716 (va_up F_lp716 27 (upd (F_lp716 27) (z733 : Int32).toNatClampNeg z738)) rc) H := hP
          generalize (va_up F_lp716 27 (upd (F_lp716 27) (z733 : Int32).toNatClampNeg z738)) = F741 at hP hI hal
          obtain ⟨z742, e743⟩ : ∃ y : Int32, y = x2_lp716 + 1 := ⟨_, rfl⟩
          try (have t744 := tadd e743 rfl (b := 1) (by decide) (by omega))
          refine lv_iinc (v := z742) (lv' := [(2, .int z742), (0, .ref (g 3)), (1, .int p0)]) hx hb dX7_age_35 hl (k := 0) rfl (by rw [e743]; rfl) (by decide) rfl (fun ls hl => ?_)
          refine lv_goto (tgt := 2) hx hb dX7_age_38 (by decide) ?_
          exact ih_lp716 z742 v_lp716 F741 _ _ _ (by omega) (by omega) hf_lp716 hI hal hP hS (lv_sub hl [0, 1, 2] rfl)
  obtain ⟨n9, hn9⟩ : ∃ n : Nat, 2147483648 - 0 ≤ (n : Int) := ⟨((2147483648 - 0 : Int)).toNat, by omega⟩
  exact lp716 n9 0 v F H _ ls (by have : (0 : Int32).toInt = 0 := (by decide); omega) (by have : (0 : Int32).toInt = 0 := (by decide); omega) (fun _ _ => rfl) hI hal hP hS hl
set_option maxHeartbeats 8000000 in
set_option maxRecDepth 100000 in
theorem c_X7_canFly (l : Launch) (dC : Nat → ClassId) (dI : Nat → Nat → Nat) (g : Nat → Nat) (c : Nat → ClassId) (adK adV : Nat → Nat) (v : Nat → Int32) (F : Nat → Nat → Int32) (rc sz : Nat) (p0 : Int32) (p1 : Int32) (p2 : Int32) (hg : injX g) (hI : IX v F) : Met l yX7_canFly (Cond.code yX7_canFly cX7_canFly 5 (some .boolean) :: wA) ({ frames := 2, cells := 0, slots := 0, locals := 80 }) (va_Pc [.ref (g 3), .int p0, .int p1, .int p2] (PX dC dI g c adK adV v F rc sz)) (va_Qi (fun (r : Int32) (u : Unit) => 0 ≤ r.toInt ∧ r.toInt ≤ 1) (fun (_ : Unit) => BX dC dI g c (v, F, rc)) (AX g sz)) 0 0 (AX g sz) := by
  refine Met.ofW (cc := cX7_canFly) (maxL := 5) (ret := (some .boolean)) (by decide) rfl ?_
  intro p e s m args below meth c0 s₁ B hml hv
  obtain ⟨rfl, hsz, hP, hK, hE⟩ := hv
  have hx := B.exec
  have hb := B.bytes
  have hr := B.returns
  have hts := atoms_spec (ws := Cond.code yX7_canFly cX7_canFly 5 (some .boolean) :: wA) B.pre
  have hwd : ∀ w ∈ wA, w.before _ s = true := fun w h => hts w (List.mem_cons_of_mem _ h)
  have hown : s.vm.findClass RX7 = some m.cls := findClass_of_methodNamed B.named
  have hlocks := B.notSynchronized
  subst hsz
  have hl := lv_entry ([.ref (g 3), .int p0, .int p1, .int p2]) (n := 5) (Nat.le_of_ble_eq_true rfl)
  rw [lg_entry_eq]
  generalize (lg_sl ([.ref (g 3), .int p0, .int p1, .int p2]) ++ List.replicate (5 - (lg_sl ([.ref (g 3), .int p0, .int p1, .int p2])).length) Slot.unset).toArray = ls at hl ⊢
  have hl : lv_has ls 5 [(0, .ref (g 3)), (1, .int p0), (2, .int p1), (3, .int p2)] := hl
  obtain ⟨H, eH⟩ : ∃ z, z = s.heap := ⟨_, rfl⟩
  have hP : va_P (dC, dI) classes (wX g c v F rc) H := by rw [eH]; exact hP
  have hS : va_S (AX g s.heap.size) s.heap H [] := by rw [eH]; exact va_S.rf
  refine my_heap eH ?_
  have rp0 := i32_rng p0
  have rp1 := i32_rng p1
  have rp2 := i32_rng p2
  refine lv_iconst (v := 0) hx hb dX7_canFly_0 (by decide) ?_
  refine lv_istore (lv' := [(4, .int 0), (0, .ref (g 3)), (1, .int p0), (2, .int p1), (3, .int p2)]) hx hb dX7_canFly_1 hl (by decide) rfl (fun ls hl => ?_)
  have lp745 : ∀ (n : Nat) (x4_lp745 : Int32) (H : Heap) (locs : List Loc) (ls : Array Slot), (0 ≤ x4_lp745.toInt) → (2147483648 - x4_lp745.toInt ≤ (n : Int)) → va_P (dC, dI) classes (wX g c v F rc) H → va_S (AX g s.heap.size) s.heap H locs → lv_has ls 5 [(4, .int x4_lp745), (0, .ref (g 3)), (1, .int p0), (2, .int p1), (3, .int p2)] → W p l e (headSpec (Cond.code yX7_canFly cX7_canFly 5 (some .boolean) :: wA) ({ frames := 2, cells := 0, slots := 0, locals := 80 })).room s m ([.ref (g 3), .int p0, .int p1, .int p2] : List Value).toArray below meth c0 H locs 0 0 (MQ below (va_Qi (fun (r : Int32) (u : Unit) => 0 ≤ r.toInt ∧ r.toInt ≤ 1) (fun (_ : Unit) => BX dC dI g c (v, F, rc)) (AX g s.heap.size)) ([.ref (g 3), .int p0, .int p1, .int p2] : List Value).toArray s 0 0 (AX g s.heap.size)) (F0 m 3 ls []) := by
    intro n
    induction n with
    | zero =>
      intro x4_lp745 H locs ls t746 hm hP hS hl
      exfalso
      have := i32_rng x4_lp745
      omega
    | succ n ih_lp745 =>
      intro x4_lp745 H locs ls t746 hm hP hS hl
      have rx4_lp745 := i32_rng x4_lp745
      refine lv_iload hx hb dX7_canFly_3 (lv_at hl 0 rfl) ?_
      refine lv_aload_n hx hb dX7_canFly_5 rfl (lv_at hl 1 rfl) ?_
      refine va_get (D := (dC, dI)) (ci := 7) (v := .int (v 61)) (C := RX7) (T := TX7) (N := 7) hx hb hwd inA_X7 hown hK hP 3 rfl rfl 1 (by decide) (hwd _ wk_289) (fun _ h9 => h9) rfl dX7_canFly_6 ?_
      have t747 : 0 ≤ (v 61).toInt ∧ (v 61).toInt ≤ 100 := hI.1 61 _ _ rfl
      refine lv_icmp_ge (tgt := 59) hx hb dX7_canFly_9 (by decide) (fun c748 => ?_) (fun c748 => ?_)
      · skip
        have t749 := cv_le (a := (v 61).toInt) rfl (b := x4_lp745.toInt) rfl c748
        refine lv_iconst (v := 1) hx hb dX7_canFly_59 (by decide) ?_
        have hP9 : va_P (dC, dI) classes (wX g c v F rc) H := hP
        exact W.zret (v := 1) hx hb hr (rfl) (fun t ht hW => ⟨⟨1, (), rfl, by have : (1 : Int32).toInt = 1 := (by decide); omega, (by show va_P _ _ _ t.heap; rw [ht]; exact hP9)⟩, hS.F ht⟩) hS.2.2 dX7_canFly_60
      · skip
        have t750 := cv_nle (a := (v 61).toInt) rfl (b := x4_lp745.toInt) rfl c748
        refine lv_aload_n hx hb dX7_canFly_12 rfl (lv_at hl 1 rfl) ?_
        refine va_get (D := (dC, dI)) (ci := 7) (v := .ref (g 26)) (C := RX7) (T := TX7) (N := 7) hx hb hwd inA_X7 hown hK hP 3 rfl rfl 4 (by decide) (hwd _ wk_97) (fun _ h9 => h9) rfl dX7_canFly_13 ?_
        refine lv_iload hx hb dX7_canFly_16 (lv_at hl 0 rfl) ?_
        refine va_iald hx hb hK hP 26 14 rfl rfl (i := x4_lp745) (vin (a := x4_lp745.toInt) rfl (by omega)) dX7_canFly_18 ?_
        refine lv_topi (fun z751 e752 => ?_)
        refine lv_iload_n hx hb dX7_canFly_19 rfl (lv_at hl 2 rfl) ?_
        refine lv_icmp_ne (tgt := 53) hx hb dX7_canFly_20 (by decide) (fun c753 => ?_) (fun c753 => ?_)
        · skip
          have t754 := cv_ne (a := z751.toInt) rfl (b := p0.toInt) rfl c753
          obtain ⟨z755, e756⟩ : ∃ y : Int32, y = x4_lp745 + 1 := ⟨_, rfl⟩
          try (have t757 := tadd e756 rfl (b := 1) (by decide) (by omega))
          refine lv_iinc (v := z755) (lv' := [(4, .int z755), (0, .ref (g 3)), (1, .int p0), (2, .int p1), (3, .int p2)]) hx hb dX7_canFly_53 hl (k := 0) rfl (by rw [e756]; rfl) (by decide) rfl (fun ls hl => ?_)
          refine lv_goto (tgt := 3) hx hb dX7_canFly_56 (by decide) ?_
          exact ih_lp745 z755  _ _ _ (by omega) (by omega) hP hS (lv_sub hl [0, 1, 2, 3, 4] rfl)
        · skip
          have t758 := cv_eq (a := z751.toInt) rfl (b := p0.toInt) rfl c753
          refine lv_aload_n hx hb dX7_canFly_23 rfl (lv_at hl 1 rfl) ?_
          refine lv_iload hx hb dX7_canFly_24 (lv_at hl 0 rfl) ?_
          refine lv_iconst (v := 0) hx hb dX7_canFly_26 (by decide) ?_
          refine va_calli (va_runV (As := [.int x4_lp745, .int 0]) (rest := []) ⟨hx, hb, hml, hown, hwd⟩ (c_X7_usedOf l dC dI g c adK adV v F rc H.size x4_lp745 0 hg hI (by omega) (by have : (0 : Int32).toInt = 0 := (by decide); omega)) (cwV 2 hwd (gV wk_369 wk_448 wk_367 wk_368 wk_26) rfl rfl rfl (by decide +kernel) ⟨Nat.le_of_ble_eq_true rfl, Nat.le_of_ble_eq_true rfl⟩) ⟨PX.blind, va_recv hK hP (ci := 7) (q0 := 3) rfl rfl, fun U hU hW => ⟨rfl, PX.at hK hE hP hS hU hW⟩⟩ rfl rfl hl.1 rfl (lv_room (Nat.le_of_ble_eq_true rfl)) dX7_canFly_27 ⟨Nat.le_of_ble_eq_true rfl, Nat.le_of_ble_eq_true rfl⟩) hS (fun q _ h => (freeX hS) q h) (freeX hS) (fun r759 u t H1 locs ht hvm hw hB hz1 hk1 hS => ?_)
          unfold BX at hB
          rw [ht] at hB
          have hP : va_P (dC, dI) classes (wX g c v F rc) H1 := hB
          generalize H1 = H at hP hS ⊢
          have rr_r759 := i32_rng r759
          refine lv_iload_n hx hb dX7_canFly_30 rfl (lv_at hl 3 rfl) ?_
          refine lv_iadd hx hb dX7_canFly_31 ?_
          refine lv_topi (fun z760 e761 => ?_)
          try (have t762 := tadd e761 (a := r759.toInt) rfl (b := p1.toInt) rfl (by omega))
          refine lv_ldc (v := 999999) hx hb hown (hwd _ wk_447) dX7_canFly_32 ?_
          refine lv_icmp_gt (tgt := 51) hx hb dX7_canFly_34 (by decide) (fun c763 => ?_) (fun c763 => ?_)
          · skip
            have t764 := cv_lt (a := 999999) (by decide) (b := z760.toInt) rfl c763
            refine lv_iconst (v := 0) hx hb dX7_canFly_51 (by decide) ?_
            have hP9 : va_P (dC, dI) classes (wX g c v F rc) H := hP
            exact W.zret (v := 0) hx hb hr (rfl) (fun t ht hW => ⟨⟨0, (), rfl, by have : (0 : Int32).toInt = 0 := (by decide); omega, (by show va_P _ _ _ t.heap; rw [ht]; exact hP9)⟩, hS.F ht⟩) hS.2.2 dX7_canFly_52
          · skip
            have t765 := cv_nlt (a := 999999) (by decide) (b := z760.toInt) rfl c763
            refine lv_aload_n hx hb dX7_canFly_37 rfl (lv_at hl 1 rfl) ?_
            refine lv_iload hx hb dX7_canFly_38 (lv_at hl 0 rfl) ?_
            refine lv_iconst (v := 1) hx hb dX7_canFly_40 (by decide) ?_
            refine va_calli (va_runV (As := [.int x4_lp745, .int 1]) (rest := []) ⟨hx, hb, hml, hown, hwd⟩ (c_X7_usedOf l dC dI g c adK adV v F rc H.size x4_lp745 1 hg hI (by omega) (by have : (1 : Int32).toInt = 1 := (by decide); omega)) (cwV 2 hwd (gV wk_369 wk_448 wk_367 wk_368 wk_26) rfl rfl rfl (by decide +kernel) ⟨Nat.le_of_ble_eq_true rfl, Nat.le_of_ble_eq_true rfl⟩) ⟨PX.blind, va_recv hK hP (ci := 7) (q0 := 3) rfl rfl, fun U hU hW => ⟨rfl, PX.at hK hE hP hS hU hW⟩⟩ rfl rfl hl.1 rfl (lv_room (Nat.le_of_ble_eq_true rfl)) dX7_canFly_41 ⟨Nat.le_of_ble_eq_true rfl, Nat.le_of_ble_eq_true rfl⟩) hS (fun q _ h => (freeX hS) q h) (freeX hS) (fun r766 u t H1 locs ht hvm hw hB hz1 hk1 hS => ?_)
            unfold BX at hB
            rw [ht] at hB
            have hP : va_P (dC, dI) classes (wX g c v F rc) H1 := hB
            generalize H1 = H at hP hS ⊢
            have rr_r766 := i32_rng r766
            refine lv_iload_n hx hb dX7_canFly_44 rfl (lv_at hl 4 rfl) ?_
            refine lv_iadd hx hb dX7_canFly_45 ?_
            refine lv_topi (fun z767 e768 => ?_)
            try (have t769 := tadd e768 (a := r766.toInt) rfl (b := p2.toInt) rfl (by omega))
            refine lv_ldc (v := 999999) hx hb hown (hwd _ wk_447) dX7_canFly_46 ?_
            refine lv_icmp_le (tgt := 53) hx hb dX7_canFly_48 (by decide) (fun c770 => ?_) (fun c770 => ?_)
            · skip
              have t771 := cv_le (a := z767.toInt) rfl (b := 999999) (by decide) c770
              obtain ⟨z772, e773⟩ : ∃ y : Int32, y = x4_lp745 + 1 := ⟨_, rfl⟩
              try (have t774 := tadd e773 rfl (b := 1) (by decide) (by omega))
              refine lv_iinc (v := z772) (lv' := [(4, .int z772), (0, .ref (g 3)), (1, .int p0), (2, .int p1), (3, .int p2)]) hx hb dX7_canFly_53 hl (k := 0) rfl (by rw [e773]; rfl) (by decide) rfl (fun ls hl => ?_)
              refine lv_goto (tgt := 3) hx hb dX7_canFly_56 (by decide) ?_
              exact ih_lp745 z772  _ _ _ (by omega) (by omega) hP hS (lv_sub hl [0, 1, 2, 3, 4] rfl)
            · skip
              have t775 := cv_nle (a := z767.toInt) rfl (b := 999999) (by decide) c770
              refine lv_iconst (v := 0) hx hb dX7_canFly_51 (by decide) ?_
              have hP9 : va_P (dC, dI) classes (wX g c v F rc) H := hP
              exact W.zret (v := 0) hx hb hr (rfl) (fun t ht hW => ⟨⟨0, (), rfl, by have : (0 : Int32).toInt = 0 := (by decide); omega, (by show va_P _ _ _ t.heap; rw [ht]; exact hP9)⟩, hS.F ht⟩) hS.2.2 dX7_canFly_52
  obtain ⟨n9, hn9⟩ : ∃ n : Nat, 2147483648 - 0 ≤ (n : Int) := ⟨((2147483648 - 0 : Int)).toNat, by omega⟩
  exact lp745 n9 0  H _ ls (by have : (0 : Int32).toInt = 0 := (by decide); omega) (by have : (0 : Int32).toInt = 0 := (by decide); omega) hP hS hl
set_option maxHeartbeats 8000000 in
set_option maxRecDepth 100000 in
theorem c_X7_wear (l : Launch) (dC : Nat → ClassId) (dI : Nat → Nat → Nat) (g : Nat → Nat) (c : Nat → ClassId) (adK adV : Nat → Nat) (v : Nat → Int32) (F : Nat → Nat → Int32) (rc sz : Nat) (p0 : Int32) (p1 : Int32) (p2 : Int32) (hg : injX g) (hI : IX v F) : Met l yX7_wear (Cond.code yX7_wear cX7_wear 5 none :: wA) ({ frames := 1, cells := 0, slots := 0, locals := 40 }) (va_Pc [.ref (g 3), .int p0, .int p1, .int p2] (PX dC dI g c adK adV v F rc sz)) (va_Qv (fun (u : StX) => IX u.1 u.2.1 ∧ alX u.1 u.2.1 = alX v F ∧ u.2.2 = rc ∧ (∀ k, k ∉ ([] : List Nat) → u.1 k = v k) ∧ True) (BX dC dI g c) (AX g sz)) 0 0 (AX g sz) := by
  refine Met.ofW (cc := cX7_wear) (maxL := 5) (ret := none) (by decide) rfl ?_
  intro p e s m args below meth c0 s₁ B hml hv
  obtain ⟨rfl, hsz, hP, hK, hE⟩ := hv
  have hx := B.exec
  have hb := B.bytes
  have hr := B.returns
  have hts := atoms_spec (ws := Cond.code yX7_wear cX7_wear 5 none :: wA) B.pre
  have hwd : ∀ w ∈ wA, w.before _ s = true := fun w h => hts w (List.mem_cons_of_mem _ h)
  have hown : s.vm.findClass RX7 = some m.cls := findClass_of_methodNamed B.named
  have hlocks := B.notSynchronized
  subst hsz
  have hl := lv_entry ([.ref (g 3), .int p0, .int p1, .int p2]) (n := 5) (Nat.le_of_ble_eq_true rfl)
  rw [lg_entry_eq]
  generalize (lg_sl ([.ref (g 3), .int p0, .int p1, .int p2]) ++ List.replicate (5 - (lg_sl ([.ref (g 3), .int p0, .int p1, .int p2])).length) Slot.unset).toArray = ls at hl ⊢
  have hl : lv_has ls 5 [(0, .ref (g 3)), (1, .int p0), (2, .int p1), (3, .int p2)] := hl
  obtain ⟨H, eH⟩ : ∃ z, z = s.heap := ⟨_, rfl⟩
  have hP : va_P (dC, dI) classes (wX g c v F rc) H := by rw [eH]; exact hP
  have hS : va_S (AX g s.heap.size) s.heap H [] := by rw [eH]; exact va_S.rf
  refine my_heap eH ?_
  have hal : alX v F = alX v F := rfl
  have rp0 := i32_rng p0
  have rp1 := i32_rng p1
  have rp2 := i32_rng p2
  refine lv_iconst (v := 0) hx hb dX7_wear_0 (by decide) ?_
  refine lv_istore (lv' := [(4, .int 0), (0, .ref (g 3)), (1, .int p0), (2, .int p1), (3, .int p2)]) hx hb dX7_wear_1 hl (by decide) rfl (fun ls hl => ?_)
  have lp776 : ∀ (n : Nat) (x4_lp776 : Int32) (v_lp776 : Nat → Int32) (F_lp776 : Nat → Nat → Int32) (H : Heap) (locs : List Loc) (ls : Array Slot), (0 ≤ x4_lp776.toInt) → (2147483648 - x4_lp776.toInt ≤ (n : Int)) → (∀ k, k ∉ ([] : List Nat) → v_lp776 k = v k) → IX v_lp776 F_lp776 → alX v_lp776 F_lp776 = alX v F → va_P (dC, dI) classes (wX g c v_lp776 F_lp776 rc) H → va_S (AX g s.heap.size) s.heap H locs → lv_has ls 5 [(4, .int x4_lp776), (0, .ref (g 3)), (1, .int p0), (2, .int p1), (3, .int p2)] → W p l e (headSpec (Cond.code yX7_wear cX7_wear 5 none :: wA) ({ frames := 1, cells := 0, slots := 0, locals := 40 })).room s m ([.ref (g 3), .int p0, .int p1, .int p2] : List Value).toArray below meth c0 H locs 0 0 (MQ below (va_Qv (fun (u : StX) => IX u.1 u.2.1 ∧ alX u.1 u.2.1 = alX v F ∧ u.2.2 = rc ∧ (∀ k, k ∉ ([] : List Nat) → u.1 k = v k) ∧ True) (BX dC dI g c) (AX g s.heap.size)) ([.ref (g 3), .int p0, .int p1, .int p2] : List Value).toArray s 0 0 (AX g s.heap.size)) (F0 m 3 ls []) := by
    intro n
    induction n with
    | zero =>
      intro x4_lp776 v_lp776 F_lp776 H locs ls t777 hm hf_lp776 hI hal hP hS hl
      exfalso
      have := i32_rng x4_lp776
      have hI1 := hI.1
      omega
    | succ n ih_lp776 =>
      intro x4_lp776 v_lp776 F_lp776 H locs ls t777 hm hf_lp776 hI hal hP hS hl
      have rx4_lp776 := i32_rng x4_lp776
      refine lv_iload hx hb dX7_wear_3 (lv_at hl 0 rfl) ?_
      refine lv_aload_n hx hb dX7_wear_5 rfl (lv_at hl 1 rfl) ?_
      refine va_get (D := (dC, dI)) (ci := 7) (v := .int (v_lp776 61)) (C := RX7) (T := TX7) (N := 7) hx hb hwd inA_X7 hown hK hP 3 rfl rfl 1 (by decide) (hwd _ wk_289) (fun _ h9 => h9) rfl dX7_wear_6 ?_
      refine my_top (v := v 61) (hf_lp776 61 (by decide)) ?_
      have t778 : 0 ≤ (v 61).toInt ∧ (v 61).toInt ≤ 100 := by have h9 := hI.1 61 _ _ rfl; rw [show v_lp776 61 = v 61 from hf_lp776 61 (by decide)] at h9; exact h9
      refine lv_icmp_ge (tgt := 59) hx hb dX7_wear_9 (by decide) (fun c779 => ?_) (fun c779 => ?_)
      · skip
        have t780 := cv_le (a := (v 61).toInt) rfl (b := x4_lp776.toInt) rfl c779
        have hP9 : va_P (dC, dI) classes (wX g c v_lp776 F_lp776 rc) H := hP
        exact W.vret hx hb hr (fun t ht hW => ⟨⟨(v_lp776, F_lp776, rc), rfl, ⟨hI, hal, rfl, (frC (by decide) hf_lp776 (fun _ _ => rfl)), trivial⟩, (by show va_P _ _ _ t.heap; rw [ht]; exact hP9)⟩, hS.F ht⟩) hS.2.2 dX7_wear_59
      · skip
        have t781 := cv_nle (a := (v 61).toInt) rfl (b := x4_lp776.toInt) rfl c779
        refine lv_aload_n hx hb dX7_wear_12 rfl (lv_at hl 1 rfl) ?_
        refine va_get (D := (dC, dI)) (ci := 7) (v := .ref (g 26)) (C := RX7) (T := TX7) (N := 7) hx hb hwd inA_X7 hown hK hP 3 rfl rfl 4 (by decide) (hwd _ wk_97) (fun _ h9 => h9) rfl dX7_wear_13 ?_
        refine lv_iload hx hb dX7_wear_16 (lv_at hl 0 rfl) ?_
        refine va_iald hx hb hK hP 26 14 rfl rfl (i := x4_lp776) (vin (a := x4_lp776.toInt) rfl (by omega)) dX7_wear_18 ?_
        refine lv_topi (fun z782 e783 => ?_)
        refine lv_iload_n hx hb dX7_wear_19 rfl (lv_at hl 2 rfl) ?_
        refine lv_icmp_ne (tgt := 53) hx hb dX7_wear_20 (by decide) (fun c784 => ?_) (fun c784 => ?_)
        · skip
          have t785 := cv_ne (a := z782.toInt) rfl (b := p0.toInt) rfl c784
          obtain ⟨z786, e787⟩ : ∃ y : Int32, y = x4_lp776 + 1 := ⟨_, rfl⟩
          try (have t788 := tadd e787 rfl (b := 1) (by decide) (by omega))
          refine lv_iinc (v := z786) (lv' := [(4, .int z786), (0, .ref (g 3)), (1, .int p0), (2, .int p1), (3, .int p2)]) hx hb dX7_wear_53 hl (k := 0) rfl (by rw [e787]; rfl) (by decide) rfl (fun ls hl => ?_)
          refine lv_goto (tgt := 3) hx hb dX7_wear_56 (by decide) ?_
          exact ih_lp776 z786 v_lp776 F_lp776 _ _ _ (by omega) (by omega) hf_lp776 hI hal hP hS (lv_sub hl [0, 1, 2, 3, 4] rfl)
        · skip
          have t789 := cv_eq (a := z782.toInt) rfl (b := p0.toInt) rfl c784
          refine lv_aload_n hx hb dX7_wear_23 rfl (lv_at hl 1 rfl) ?_
          refine va_get (D := (dC, dI)) (ci := 7) (v := .ref (g 27)) (C := RX7) (T := TX7) (N := 7) hx hb hwd inA_X7 hown hK hP 3 rfl rfl 5 (by decide) (hwd _ wk_98) (fun _ h9 => h9) rfl dX7_wear_24 ?_
          refine lv_iload hx hb dX7_wear_27 (lv_at hl 0 rfl) ?_
          refine lv_iconst (v := 3) hx hb dX7_wear_29 (by decide) ?_
          refine lv_imul hx hb dX7_wear_30 ?_
          refine lv_topi (fun z790 e791 => ?_)
          try (have t792 := tmul e791 (a := x4_lp776.toInt) rfl (b := 3) (by decide) (by omega))
          refine lv_iconst (v := 0) hx hb dX7_wear_31 (by decide) ?_
          refine lv_iadd hx hb dX7_wear_32 ?_
          refine lv_topi (fun z793 e794 => ?_)
          try (have t795 := tadd e794 (a := z790.toInt) rfl (b := 0) (by decide) (by omega))
          refine lv_dup2_11 hx hb dX7_wear_33 rfl rfl ?_
          refine va_iald hx hb hK hP 27 15 rfl rfl (i := z793) (vin (a := z793.toInt) rfl (by omega)) dX7_wear_34 ?_
          refine lv_topi (fun z796 e797 => ?_)
          refine lv_iload_n hx hb dX7_wear_35 rfl (lv_at hl 3 rfl) ?_
          refine lv_iadd hx hb dX7_wear_36 ?_
          refine lv_topi (fun z798 e799 => ?_)
          try (have t800 := tadd e799 (a := z796.toInt) rfl (b := p1.toInt) rfl (by omega))
          refine va_iast hx hb hK hP (DX hg) hS 27 15 rfl rfl (i := z793) (x := z798) (vin (a := z793.toInt) rfl (by omega)) dX7_wear_37 (fun H locs hP _ hS => ?_)
          have hP := va_P_eq (sX_27 g c _ _ _ _) hP
          have hI := IX.store0 hI 27 (z793 : Int32).toNatClampNeg z798 rfl
          have hal := (alX_F _ _ 27 (upd (F_lp776 27) (z793 : Int32).toNatClampNeg z798) (by decide) (by decide) (by decide) (by decide) (by decide)).trans hal
          have hP : va_P (dC, dI) classes (wX g c v_lp776 (va_up F_lp776 27 (upd (F_lp776 27) (z793 : Int32).toNatClampNeg z798)) rc) H := hP
          generalize (va_up F_lp776 27 (upd (F_lp776 27) (z793 : Int32).toNatClampNeg z798)) = F801 at hP hI hal
          refine lv_aload_n hx hb dX7_wear_38 rfl (lv_at hl 1 rfl) ?_
          refine va_get (D := (dC, dI)) (ci := 7) (v := .ref (g 27)) (C := RX7) (T := TX7) (N := 7) hx hb hwd inA_X7 hown hK hP 3 rfl rfl 5 (by decide) (hwd _ wk_98) (fun _ h9 => h9) rfl dX7_wear_39 ?_
          refine lv_iload hx hb dX7_wear_42 (lv_at hl 0 rfl) ?_
          refine lv_iconst (v := 3) hx hb dX7_wear_44 (by decide) ?_
          refine lv_imul hx hb dX7_wear_45 ?_
          refine lv_topi (fun z802 e803 => ?_)
          try (have t804 := tmul e803 (a := x4_lp776.toInt) rfl (b := 3) (by decide) (by omega))
          refine lv_iconst (v := 1) hx hb dX7_wear_46 (by decide) ?_
          refine lv_iadd hx hb dX7_wear_47 ?_
          refine lv_topi (fun z805 e806 => ?_)
          try (have t807 := tadd e806 (a := z802.toInt) rfl (b := 1) (by decide) (by omega))
          refine lv_dup2_11 hx hb dX7_wear_48 rfl rfl ?_
          refine va_iald hx hb hK hP 27 15 rfl rfl (i := z805) (vin (a := z805.toInt) rfl (by omega)) dX7_wear_49 ?_
          refine lv_topi (fun z808 e809 => ?_)
          refine lv_iload_n hx hb dX7_wear_50 rfl (lv_at hl 4 rfl) ?_
          refine lv_iadd hx hb dX7_wear_51 ?_
          refine lv_topi (fun z810 e811 => ?_)
          try (have t812 := tadd e811 (a := z808.toInt) rfl (b := p2.toInt) rfl (by omega))
          refine va_iast hx hb hK hP (DX hg) hS 27 15 rfl rfl (i := z805) (x := z810) (vin (a := z805.toInt) rfl (by omega)) dX7_wear_52 (fun H locs hP _ hS => ?_)
          have hP := va_P_eq (sX_27 g c _ _ _ _) hP
          have hI := IX.store0 hI 27 (z805 : Int32).toNatClampNeg z810 rfl
          have hal := (alX_F _ _ 27 (upd (F801 27) (z805 : Int32).toNatClampNeg z810) (by decide) (by decide) (by decide) (by decide) (by decide)).trans hal
          have hP : va_P (dC, dI) classes (wX g c v_lp776 (va_up F801 27 (upd (F801 27) (z805 : Int32).toNatClampNeg z810)) rc) H := hP
          generalize (va_up F801 27 (upd (F801 27) (z805 : Int32).toNatClampNeg z810)) = F813 at hP hI hal
          obtain ⟨z814, e815⟩ : ∃ y : Int32, y = x4_lp776 + 1 := ⟨_, rfl⟩
          try (have t816 := tadd e815 rfl (b := 1) (by decide) (by omega))
          refine lv_iinc (v := z814) (lv' := [(4, .int z814), (0, .ref (g 3)), (1, .int p0), (2, .int p1), (3, .int p2)]) hx hb dX7_wear_53 hl (k := 0) rfl (by rw [e815]; rfl) (by decide) rfl (fun ls hl => ?_)
          refine lv_goto (tgt := 3) hx hb dX7_wear_56 (by decide) ?_
          exact ih_lp776 z814 v_lp776 F813 _ _ _ (by omega) (by omega) hf_lp776 hI hal hP hS (lv_sub hl [0, 1, 2, 3, 4] rfl)
  obtain ⟨n9, hn9⟩ : ∃ n : Nat, 2147483648 - 0 ≤ (n : Int) := ⟨((2147483648 - 0 : Int)).toNat, by omega⟩
  exact lp776 n9 0 v F H _ ls (by have : (0 : Int32).toInt = 0 := (by decide); omega) (by have : (0 : Int32).toInt = 0 := (by decide); omega) (fun _ _ => rfl) hI hal hP hS hl
set_option maxHeartbeats 8000000 in
set_option maxRecDepth 100000 in
theorem c_X7_renew (l : Launch) (dC : Nat → ClassId) (dI : Nat → Nat → Nat) (g : Nat → Nat) (c : Nat → ClassId) (adK adV : Nat → Nat) (v : Nat → Int32) (F : Nat → Nat → Int32) (rc sz : Nat) (p0 : Int32) (p1 : Int32) (hg : injX g) (hI : IX v F) (h0 : 0 ≤ p0.toInt ∧ p0.toInt ≤ 99) : Met l yX7_renew (Cond.code yX7_renew cX7_renew 4 none :: wA) ({ frames := 1, cells := 0, slots := 0, locals := 40 }) (va_Pc [.ref (g 3), .int p0, .int p1] (PX dC dI g c adK adV v F rc sz)) (va_Qv (fun (u : StX) => IX u.1 u.2.1 ∧ alX u.1 u.2.1 = alX v F ∧ u.2.2 = rc ∧ (∀ k, k ∉ ([] : List Nat) → u.1 k = v k) ∧ True) (BX dC dI g c) (AX g sz)) 0 0 (AX g sz) := by
  refine Met.ofW (cc := cX7_renew) (maxL := 4) (ret := none) (by decide) rfl ?_
  intro p e s m args below meth c0 s₁ B hml hv
  obtain ⟨rfl, hsz, hP, hK, hE⟩ := hv
  have hx := B.exec
  have hb := B.bytes
  have hr := B.returns
  have hts := atoms_spec (ws := Cond.code yX7_renew cX7_renew 4 none :: wA) B.pre
  have hwd : ∀ w ∈ wA, w.before _ s = true := fun w h => hts w (List.mem_cons_of_mem _ h)
  have hown : s.vm.findClass RX7 = some m.cls := findClass_of_methodNamed B.named
  have hlocks := B.notSynchronized
  subst hsz
  have hl := lv_entry ([.ref (g 3), .int p0, .int p1]) (n := 4) (Nat.le_of_ble_eq_true rfl)
  rw [lg_entry_eq]
  generalize (lg_sl ([.ref (g 3), .int p0, .int p1]) ++ List.replicate (4 - (lg_sl ([.ref (g 3), .int p0, .int p1])).length) Slot.unset).toArray = ls at hl ⊢
  have hl : lv_has ls 4 [(0, .ref (g 3)), (1, .int p0), (2, .int p1)] := hl
  obtain ⟨H, eH⟩ : ∃ z, z = s.heap := ⟨_, rfl⟩
  have hP : va_P (dC, dI) classes (wX g c v F rc) H := by rw [eH]; exact hP
  have hS : va_S (AX g s.heap.size) s.heap H [] := by rw [eH]; exact va_S.rf
  refine my_heap eH ?_
  have hal : alX v F = alX v F := rfl
  have rp0 := i32_rng p0
  have rp1 := i32_rng p1
  refine lv_iconst (v := 0) hx hb dX7_renew_0 (by decide) ?_
  refine lv_istore_n (lv' := [(3, .int 0), (0, .ref (g 3)), (1, .int p0), (2, .int p1)]) hx hb dX7_renew_1 rfl hl (by decide) rfl (fun ls hl => ?_)
  have lp817 : ∀ (n : Nat) (x3_lp817 : Int32) (v_lp817 : Nat → Int32) (F_lp817 : Nat → Nat → Int32) (H : Heap) (locs : List Loc) (ls : Array Slot), (0 ≤ x3_lp817.toInt) → (2147483648 - x3_lp817.toInt ≤ (n : Int)) → (∀ k, k ∉ ([] : List Nat) → v_lp817 k = v k) → IX v_lp817 F_lp817 → alX v_lp817 F_lp817 = alX v F → va_P (dC, dI) classes (wX g c v_lp817 F_lp817 rc) H → va_S (AX g s.heap.size) s.heap H locs → lv_has ls 4 [(3, .int x3_lp817), (0, .ref (g 3)), (1, .int p0), (2, .int p1)] → W p l e (headSpec (Cond.code yX7_renew cX7_renew 4 none :: wA) ({ frames := 1, cells := 0, slots := 0, locals := 40 })).room s m ([.ref (g 3), .int p0, .int p1] : List Value).toArray below meth c0 H locs 0 0 (MQ below (va_Qv (fun (u : StX) => IX u.1 u.2.1 ∧ alX u.1 u.2.1 = alX v F ∧ u.2.2 = rc ∧ (∀ k, k ∉ ([] : List Nat) → u.1 k = v k) ∧ True) (BX dC dI g c) (AX g s.heap.size)) ([.ref (g 3), .int p0, .int p1] : List Value).toArray s 0 0 (AX g s.heap.size)) (F0 m 2 ls []) := by
    intro n
    induction n with
    | zero =>
      intro x3_lp817 v_lp817 F_lp817 H locs ls t818 hm hf_lp817 hI hal hP hS hl
      exfalso
      have := i32_rng x3_lp817
      have hI1 := hI.1
      omega
    | succ n ih_lp817 =>
      intro x3_lp817 v_lp817 F_lp817 H locs ls t818 hm hf_lp817 hI hal hP hS hl
      have rx3_lp817 := i32_rng x3_lp817
      refine lv_iload_n hx hb dX7_renew_2 rfl (lv_at hl 0 rfl) ?_
      refine lv_iconst (v := 3) hx hb dX7_renew_3 (by decide) ?_
      refine lv_icmp_ge (tgt := 33) hx hb dX7_renew_4 (by decide) (fun c819 => ?_) (fun c819 => ?_)
      · skip
        have t820 := cv_le (a := 3) (by decide) (b := x3_lp817.toInt) rfl c819
        have hP9 : va_P (dC, dI) classes (wX g c v_lp817 F_lp817 rc) H := hP
        exact W.vret hx hb hr (fun t ht hW => ⟨⟨(v_lp817, F_lp817, rc), rfl, ⟨hI, hal, rfl, (frC (by decide) hf_lp817 (fun _ _ => rfl)), trivial⟩, (by show va_P _ _ _ t.heap; rw [ht]; exact hP9)⟩, hS.F ht⟩) hS.2.2 dX7_renew_33
      · skip
        have t821 := cv_nle (a := 3) (by decide) (b := x3_lp817.toInt) rfl c819
        refine lv_iload_n hx hb dX7_renew_7 rfl (lv_at hl 3 rfl) ?_
        refine lv_iload_n hx hb dX7_renew_8 rfl (lv_at hl 0 rfl) ?_
        refine lv_ishr hx hb dX7_renew_9 ?_
        refine lv_topi (fun z822 e823 => ?_)
        refine lv_iconst (v := 1) hx hb dX7_renew_10 (by decide) ?_
        refine lv_iand hx hb dX7_renew_11 ?_
        refine lv_topi (fun z825 e826 => ?_)
        refine lv_iconst (v := 1) hx hb dX7_renew_12 (by decide) ?_
        refine lv_icmp_ne (tgt := 27) hx hb dX7_renew_13 (by decide) (fun c828 => ?_) (fun c828 => ?_)
        · skip
          have t829 := cv_ne (a := z825.toInt) rfl (b := 1) (by decide) c828
          obtain ⟨z830, e831⟩ : ∃ y : Int32, y = x3_lp817 + 1 := ⟨_, rfl⟩
          try (have t832 := tadd e831 rfl (b := 1) (by decide) (by omega))
          refine lv_iinc (v := z830) (lv' := [(3, .int z830), (0, .ref (g 3)), (1, .int p0), (2, .int p1)]) hx hb dX7_renew_27 hl (k := 0) rfl (by rw [e831]; rfl) (by decide) rfl (fun ls hl => ?_)
          refine lv_goto (tgt := 2) hx hb dX7_renew_30 (by decide) ?_
          exact ih_lp817 z830 v_lp817 F_lp817 _ _ _ (by omega) (by omega) hf_lp817 hI hal hP hS (lv_sub hl [0, 1, 2, 3] rfl)
        · skip
          have t833 := cv_eq (a := z825.toInt) rfl (b := 1) (by decide) c828
          refine lv_aload_n hx hb dX7_renew_16 rfl (lv_at hl 1 rfl) ?_
          refine va_get (D := (dC, dI)) (ci := 7) (v := .ref (g 27)) (C := RX7) (T := TX7) (N := 7) hx hb hwd inA_X7 hown hK hP 3 rfl rfl 5 (by decide) (hwd _ wk_98) (fun _ h9 => h9) rfl dX7_renew_17 ?_
          refine lv_iload_n hx hb dX7_renew_20 rfl (lv_at hl 2 rfl) ?_
          refine lv_iconst (v := 3) hx hb dX7_renew_21 (by decide) ?_
          refine lv_imul hx hb dX7_renew_22 ?_
          refine lv_topi (fun z834 e835 => ?_)
          try (have t836 := tmul e835 (a := p0.toInt) rfl (b := 3) (by decide) (by omega))
          refine lv_iload_n hx hb dX7_renew_23 rfl (lv_at hl 0 rfl) ?_
          refine lv_iadd hx hb dX7_renew_24 ?_
          refine lv_topi (fun z837 e838 => ?_)
          try (have t839 := tadd e838 (a := z834.toInt) rfl (b := x3_lp817.toInt) rfl (by omega))
          refine lv_iconst (v := 0) hx hb dX7_renew_25 (by decide) ?_
          refine va_iast hx hb hK hP (DX hg) hS 27 15 rfl rfl (i := z837) (x := 0) (vin (a := z837.toInt) rfl (by omega)) dX7_renew_26 (fun H locs hP _ hS => ?_)
          have hP := va_P_eq (sX_27 g c _ _ _ _) hP
          have hI := IX.store0 hI 27 (z837 : Int32).toNatClampNeg 0 rfl
          have hal := (alX_F _ _ 27 (upd (F_lp817 27) (z837 : Int32).toNatClampNeg 0) (by decide) (by decide) (by decide) (by decide) (by decide)).trans hal
          have hP : va_P (dC, dI) classes (wX g c v_lp817 (va_up F_lp817 27 (upd (F_lp817 27) (z837 : Int32).toNatClampNeg 0)) rc) H := hP
          generalize (va_up F_lp817 27 (upd (F_lp817 27) (z837 : Int32).toNatClampNeg 0)) = F840 at hP hI hal
          obtain ⟨z841, e842⟩ : ∃ y : Int32, y = x3_lp817 + 1 := ⟨_, rfl⟩
          try (have t843 := tadd e842 rfl (b := 1) (by decide) (by omega))
          refine lv_iinc (v := z841) (lv' := [(3, .int z841), (0, .ref (g 3)), (1, .int p0), (2, .int p1)]) hx hb dX7_renew_27 hl (k := 0) rfl (by rw [e842]; rfl) (by decide) rfl (fun ls hl => ?_)
          refine lv_goto (tgt := 2) hx hb dX7_renew_30 (by decide) ?_
          exact ih_lp817 z841 v_lp817 F840 _ _ _ (by omega) (by omega) hf_lp817 hI hal hP hS (lv_sub hl [0, 1, 2, 3] rfl)
  obtain ⟨n9, hn9⟩ : ∃ n : Nat, 2147483648 - 0 ≤ (n : Int) := ⟨((2147483648 - 0 : Int)).toNat, by omega⟩
  exact lp817 n9 0 v F H _ ls (by have : (0 : Int32).toInt = 0 := (by decide); omega) (by have : (0 : Int32).toInt = 0 := (by decide); omega) (fun _ _ => rfl) hI hal hP hS hl
set_option maxHeartbeats 8000000 in
set_option maxRecDepth 100000 in
theorem c_X7_usedAtEnd (l : Launch) (dC : Nat → ClassId) (dI : Nat → Nat → Nat) (g : Nat → Nat) (c : Nat → ClassId) (adK adV : Nat → Nat) (v : Nat → Int32) (F : Nat → Nat → Int32) (rc sz : Nat) (p0 : Int32) (p1 : Int32) (p2 : Int32) (hg : injX g) (hI : IX v F) (h0 : 0 ≤ p0.toInt ∧ p0.toInt ≤ 99) (h1 : 0 ≤ p1.toInt ∧ p1.toInt ≤ 499) (h2 : 0 ≤ p2.toInt ∧ p2.toInt ≤ 2) : Met l yX7_usedAtEnd (Cond.code yX7_usedAtEnd cX7_usedAtEnd 4 (some .int) :: wA) ({ frames := 2, cells := 0, slots := 0, locals := 80 }) (va_Pc [.ref (g 3), .int p0, .int p1, .int p2] (PX dC dI g c adK adV v F rc sz)) (va_Qi (fun (r : Int32) (u : Unit) => True) (fun (_ : Unit) => BX dC dI g c (v, F, rc)) (AX g sz)) 0 0 (AX g sz) := by
  refine Met.ofW (cc := cX7_usedAtEnd) (maxL := 4) (ret := (some .int)) (by decide) rfl ?_
  intro p e s m args below meth c0 s₁ B hml hv
  obtain ⟨rfl, hsz, hP, hK, hE⟩ := hv
  have hx := B.exec
  have hb := B.bytes
  have hr := B.returns
  have hts := atoms_spec (ws := Cond.code yX7_usedAtEnd cX7_usedAtEnd 4 (some .int) :: wA) B.pre
  have hwd : ∀ w ∈ wA, w.before _ s = true := fun w h => hts w (List.mem_cons_of_mem _ h)
  have hown : s.vm.findClass RX7 = some m.cls := findClass_of_methodNamed B.named
  have hlocks := B.notSynchronized
  subst hsz
  have hl := lv_entry ([.ref (g 3), .int p0, .int p1, .int p2]) (n := 4) (Nat.le_of_ble_eq_true rfl)
  rw [lg_entry_eq]
  generalize (lg_sl ([.ref (g 3), .int p0, .int p1, .int p2]) ++ List.replicate (4 - (lg_sl ([.ref (g 3), .int p0, .int p1, .int p2])).length) Slot.unset).toArray = ls at hl ⊢
  have hl : lv_has ls 4 [(0, .ref (g 3)), (1, .int p0), (2, .int p1), (3, .int p2)] := hl
  obtain ⟨H, eH⟩ : ∃ z, z = s.heap := ⟨_, rfl⟩
  have hP : va_P (dC, dI) classes (wX g c v F rc) H := by rw [eH]; exact hP
  have hS : va_S (AX g s.heap.size) s.heap H [] := by rw [eH]; exact va_S.rf
  refine my_heap eH ?_
  have rp0 := i32_rng p0
  have rp1 := i32_rng p1
  have rp2 := i32_rng p2
  refine lv_aload_n hx hb dX7_usedAtEnd_0 rfl (lv_at hl 0 rfl) ?_
  refine va_get (D := (dC, dI)) (ci := 7) (v := .ref (g 4)) (C := RX7) (T := TX7) (N := 7) hx hb hwd inA_X7 hown hK hP 3 rfl rfl 0 (by decide) (hwd _ wk_100) (fun _ h9 => h9) rfl dX7_usedAtEnd_1 ?_
  refine lv_iload_n hx hb dX7_usedAtEnd_4 rfl (lv_at hl 2 rfl) ?_
  refine va_calli (va_runV (As := [.int p1]) (rest := []) ⟨hx, hb, hml, hown, hwd⟩ (c_X9_goesOn l dC dI g c adK adV v F rc H.size p1 hg hI (by omega)) (cwV 1 hwd (gV wk_377 wk_700 wk_375 wk_376 wk_22) rfl rfl rfl (by decide +kernel) ⟨Nat.le_of_ble_eq_true rfl, Nat.le_of_ble_eq_true rfl⟩) ⟨PX.blind, va_recv hK hP (ci := 9) (q0 := 4) rfl rfl, fun U hU hW => ⟨rfl, PX.at hK hE hP hS hU hW⟩⟩ rfl rfl hl.1 rfl (lv_room (Nat.le_of_ble_eq_true rfl)) dX7_usedAtEnd_5 ⟨Nat.le_of_ble_eq_true rfl, Nat.le_of_ble_eq_true rfl⟩) hS (fun q _ h => (freeX hS) q h) (freeX hS) (fun r844 u t H1 locs ht hvm hw hB hz1 hk1 hS => ?_)
  unfold BX at hB
  rw [ht] at hB
  have hP : va_P (dC, dI) classes (wX g c v F rc) H1 := hB
  have hw : 0 ≤ r844.toInt ∧ r844.toInt ≤ 1 := hw
  generalize H1 = H at hP hS ⊢
  have hw_r844 := hw
  refine lv_if_eq (tgt := 20) hx hb dX7_usedAtEnd_8 (by decide) (fun c845 => ?_) (fun c845 => ?_)
  · skip
    have t846 := cv_eq (a := r844.toInt) rfl (b := 0) (by decide) c845
    refine lv_aload_n hx hb dX7_usedAtEnd_20 rfl (lv_at hl 0 rfl) ?_
    refine va_get (D := (dC, dI)) (ci := 7) (v := .ref (g 4)) (C := RX7) (T := TX7) (N := 7) hx hb hwd inA_X7 hown hK hP 3 rfl rfl 0 (by decide) (hwd _ wk_100) (fun _ h9 => h9) rfl dX7_usedAtEnd_21 ?_
    refine lv_iload_n hx hb dX7_usedAtEnd_24 rfl (lv_at hl 2 rfl) ?_
    refine lv_iload_n hx hb dX7_usedAtEnd_25 rfl (lv_at hl 3 rfl) ?_
    refine va_calli (va_runV (As := [.int p1, .int p2]) (rest := []) ⟨hx, hb, hml, hown, hwd⟩ (c_X9_usedAtEnd l dC dI g c adK adV v F rc H.size p1 p2 hg hI (by omega)) (cwV 2 hwd (gV wk_704 wk_701 wk_702 wk_703 wk_22) rfl rfl rfl (by decide +kernel) ⟨Nat.le_of_ble_eq_true rfl, Nat.le_of_ble_eq_true rfl⟩) ⟨PX.blind, va_recv hK hP (ci := 9) (q0 := 4) rfl rfl, fun U hU hW => ⟨rfl, PX.at hK hE hP hS hU hW⟩⟩ rfl rfl hl.1 rfl (lv_room (Nat.le_of_ble_eq_true rfl)) dX7_usedAtEnd_26 ⟨Nat.le_of_ble_eq_true rfl, Nat.le_of_ble_eq_true rfl⟩) hS (fun q _ h => (freeX hS) q h) (freeX hS) (fun r847 u t H1 locs ht hvm hw hB hz1 hk1 hS => ?_)
    unfold BX at hB
    rw [ht] at hB
    have hP : va_P (dC, dI) classes (wX g c v F rc) H1 := hB
    generalize H1 = H at hP hS ⊢
    have rr_r847 := i32_rng r847
    have hP9 : va_P (dC, dI) classes (wX g c v F rc) H := hP
    exact W.iret (v := r847) hx hb hr (fun t ht hW => ⟨⟨r847, (), rfl, trivial, (by show va_P _ _ _ t.heap; rw [ht]; exact hP9)⟩, hS.F ht⟩) hS.2.2 dX7_usedAtEnd_29
  · skip
    have t848 := cv_ne (a := r844.toInt) rfl (b := 0) (by decide) c845
    refine lv_aload_n hx hb dX7_usedAtEnd_11 rfl (lv_at hl 0 rfl) ?_
    refine lv_iload_n hx hb dX7_usedAtEnd_12 rfl (lv_at hl 1 rfl) ?_
    refine lv_iload_n hx hb dX7_usedAtEnd_13 rfl (lv_at hl 3 rfl) ?_
    refine va_calli (va_runV (As := [.int p0, .int p2]) (rest := []) ⟨hx, hb, hml, hown, hwd⟩ (c_X7_usedOf l dC dI g c adK adV v F rc H.size p0 p2 hg hI (by omega) (by omega)) (cwV 2 hwd (gV wk_369 wk_448 wk_367 wk_368 wk_26) rfl rfl rfl (by decide +kernel) ⟨Nat.le_of_ble_eq_true rfl, Nat.le_of_ble_eq_true rfl⟩) ⟨PX.blind, va_recv hK hP (ci := 7) (q0 := 3) rfl rfl, fun U hU hW => ⟨rfl, PX.at hK hE hP hS hU hW⟩⟩ rfl rfl hl.1 rfl (lv_room (Nat.le_of_ble_eq_true rfl)) dX7_usedAtEnd_14 ⟨Nat.le_of_ble_eq_true rfl, Nat.le_of_ble_eq_true rfl⟩) hS (fun q _ h => (freeX hS) q h) (freeX hS) (fun r849 u t H1 locs ht hvm hw hB hz1 hk1 hS => ?_)
    unfold BX at hB
    rw [ht] at hB
    have hP : va_P (dC, dI) classes (wX g c v F rc) H1 := hB
    generalize H1 = H at hP hS ⊢
    have rr_r849 := i32_rng r849
    refine lv_goto (tgt := 29) hx hb dX7_usedAtEnd_17 (by decide) ?_
    have hP9 : va_P (dC, dI) classes (wX g c v F rc) H := hP
    exact W.iret (v := r849) hx hb hr (fun t ht hW => ⟨⟨r849, (), rfl, trivial, (by show va_P _ _ _ t.heap; rw [ht]; exact hP9)⟩, hS.F ht⟩) hS.2.2 dX7_usedAtEnd_29
set_option maxHeartbeats 8000000 in
set_option maxRecDepth 100000 in
theorem c_X7_placeAhead (l : Launch) (dC : Nat → ClassId) (dI : Nat → Nat → Nat) (g : Nat → Nat) (c : Nat → ClassId) (adK adV : Nat → Nat) (v : Nat → Int32) (F : Nat → Nat → Int32) (rc sz : Nat) (p0 : Int32) (hg : injX g) (hI : IX v F) (h0 : 0 ≤ p0.toInt ∧ p0.toInt ≤ 99) : Met l yX7_placeAhead (Cond.code yX7_placeAhead cX7_placeAhead 3 (some .int) :: wA) ({ frames := 2, cells := 0, slots := 0, locals := 80 }) (va_Pc [.ref (g 3), .int p0] (PX dC dI g c adK adV v F rc sz)) (va_Qi (fun (r : Int32) (u : Unit) => True) (fun (_ : Unit) => BX dC dI g c (v, F, rc)) (AX g sz)) 0 0 (AX g sz) := by
  refine Met.ofW (cc := cX7_placeAhead) (maxL := 3) (ret := (some .int)) (by decide) rfl ?_
  intro p e s m args below meth c0 s₁ B hml hv
  obtain ⟨rfl, hsz, hP, hK, hE⟩ := hv
  have hx := B.exec
  have hb := B.bytes
  have hr := B.returns
  have hts := atoms_spec (ws := Cond.code yX7_placeAhead cX7_placeAhead 3 (some .int) :: wA) B.pre
  have hwd : ∀ w ∈ wA, w.before _ s = true := fun w h => hts w (List.mem_cons_of_mem _ h)
  have hown : s.vm.findClass RX7 = some m.cls := findClass_of_methodNamed B.named
  have hlocks := B.notSynchronized
  subst hsz
  have hl := lv_entry ([.ref (g 3), .int p0]) (n := 3) (Nat.le_of_ble_eq_true rfl)
  rw [lg_entry_eq]
  generalize (lg_sl ([.ref (g 3), .int p0]) ++ List.replicate (3 - (lg_sl ([.ref (g 3), .int p0])).length) Slot.unset).toArray = ls at hl ⊢
  have hl : lv_has ls 3 [(0, .ref (g 3)), (1, .int p0)] := hl
  obtain ⟨H, eH⟩ : ∃ z, z = s.heap := ⟨_, rfl⟩
  have hP : va_P (dC, dI) classes (wX g c v F rc) H := by rw [eH]; exact hP
  have hS : va_S (AX g s.heap.size) s.heap H [] := by rw [eH]; exact va_S.rf
  refine my_heap eH ?_
  have rp0 := i32_rng p0
  refine lv_aload_n hx hb dX7_placeAhead_0 rfl (lv_at hl 0 rfl) ?_
  refine va_get (D := (dC, dI)) (ci := 7) (v := .ref (g 4)) (C := RX7) (T := TX7) (N := 7) hx hb hwd inA_X7 hown hK hP 3 rfl rfl 0 (by decide) (hwd _ wk_100) (fun _ h9 => h9) rfl dX7_placeAhead_1 ?_
  refine lv_iload_n hx hb dX7_placeAhead_4 rfl (lv_at hl 1 rfl) ?_
  refine lv_aload_n hx hb dX7_placeAhead_5 rfl (lv_at hl 0 rfl) ?_
  refine va_get (D := (dC, dI)) (ci := 7) (v := .ref (g 28)) (C := RX7) (T := TX7) (N := 7) hx hb hwd inA_X7 hown hK hP 3 rfl rfl 6 (by decide) (hwd _ wk_99) (fun _ h9 => h9) rfl dX7_placeAhead_6 ?_
  refine lv_iload_n hx hb dX7_placeAhead_9 rfl (lv_at hl 1 rfl) ?_
  refine va_iald hx hb hK hP 28 16 rfl rfl (i := p0) (vin (a := p0.toInt) rfl (by omega)) dX7_placeAhead_10 ?_
  refine lv_topi (fun z850 e851 => ?_)
  refine va_calli (va_runV (As := [.int p0, .int z850]) (rest := []) ⟨hx, hb, hml, hown, hwd⟩ (c_X9_aheadOf l dC dI g c adK adV v F rc H.size p0 z850 hg hI (by omega)) (cwV 2 hwd (gV wk_1338 wk_1335 wk_1336 wk_1337 wk_22) rfl rfl rfl (by decide +kernel) ⟨Nat.le_of_ble_eq_true rfl, Nat.le_of_ble_eq_true rfl⟩) ⟨PX.blind, va_recv hK hP (ci := 9) (q0 := 4) rfl rfl, fun U hU hW => ⟨rfl, PX.at hK hE hP hS hU hW⟩⟩ rfl rfl hl.1 rfl (lv_room (Nat.le_of_ble_eq_true rfl)) dX7_placeAhead_11 ⟨Nat.le_of_ble_eq_true rfl, Nat.le_of_ble_eq_true rfl⟩) hS (fun q _ h => (freeX hS) q h) (freeX hS) (fun r852 u t H1 locs ht hvm hw hB hz1 hk1 hS => ?_)
  unfold BX at hB
  rw [ht] at hB
  have hP : va_P (dC, dI) classes (wX g c v F rc) H1 := hB
  have hw : -1 ≤ r852.toInt ∧ r852.toInt ≤ 499 := hw
  generalize H1 = H at hP hS ⊢
  have hw_r852 := hw
  refine lv_istore_n (lv' := [(2, .int r852), (0, .ref (g 3)), (1, .int p0)]) hx hb dX7_placeAhead_14 rfl hl (by decide) rfl (fun ls hl => ?_)
  refine lv_iload_n hx hb dX7_placeAhead_15 rfl (lv_at hl 0 rfl) ?_
  refine lv_iconst (v := (-1)) hx hb dX7_placeAhead_16 (by decide) ?_
  refine lv_icmp_ne (tgt := 24) hx hb dX7_placeAhead_17 (by decide) (fun c853 => ?_) (fun c853 => ?_)
  · skip
    have t854 := cv_ne (a := r852.toInt) rfl (b := (-1)) (by decide) c853
    refine lv_aload_n hx hb dX7_placeAhead_24 rfl (lv_at hl 1 rfl) ?_
    refine va_get (D := (dC, dI)) (ci := 7) (v := .ref (g 4)) (C := RX7) (T := TX7) (N := 7) hx hb hwd inA_X7 hown hK hP 3 rfl rfl 0 (by decide) (hwd _ wk_100) (fun _ h9 => h9) rfl dX7_placeAhead_25 ?_
    refine va_get (D := (dC, dI)) (ci := 9) (v := .ref (g 29)) (C := RX9) (T := TX9) (N := 11) hx hb hwd inA_X9 hown hK hP 4 rfl rfl 1 (by decide) (hwd _ wk_690) (fun _ h9 => h9) rfl dX7_placeAhead_28 ?_
    refine lv_iload_n hx hb dX7_placeAhead_31 rfl (lv_at hl 0 rfl) ?_
    refine va_iald hx hb hK hP 29 17 rfl rfl (i := r852) (vin (a := r852.toInt) rfl (by omega)) dX7_placeAhead_32 ?_
    refine lv_topi (fun z855 e856 => ?_)
    have hP9 : va_P (dC, dI) classes (wX g c v F rc) H := hP
    exact W.iret (v := z855) hx hb hr (fun t ht hW => ⟨⟨z855, (), rfl, trivial, (by show va_P _ _ _ t.heap; rw [ht]; exact hP9)⟩, hS.F ht⟩) hS.2.2 dX7_placeAhead_33
  · skip
    have t857 := cv_eq (a := r852.toInt) rfl (b := (-1)) (by decide) c853
    refine lv_iconst (v := (-1)) hx hb dX7_placeAhead_20 (by decide) ?_
    refine lv_goto (tgt := 33) hx hb dX7_placeAhead_21 (by decide) ?_
    have hP9 : va_P (dC, dI) classes (wX g c v F rc) H := hP
    exact W.iret (v := (-1)) hx hb hr (fun t ht hW => ⟨⟨(-1), (), rfl, trivial, (by show va_P _ _ _ t.heap; rw [ht]; exact hP9)⟩, hS.F ht⟩) hS.2.2 dX7_placeAhead_33
set_option maxHeartbeats 8000000 in
set_option maxRecDepth 100000 in
theorem c_X7_isLess (l : Launch) (dC : Nat → ClassId) (dI : Nat → Nat → Nat) (g : Nat → Nat) (c : Nat → ClassId) (adK adV : Nat → Nat) (v : Nat → Int32) (F : Nat → Nat → Int32) (rc sz : Nat) (p0 : Int32) (p1 : Int32) (p2 : Int32) (hg : injX g) (hI : IX v F) (h0 : 0 ≤ p0.toInt ∧ p0.toInt ≤ 99) (h1 : 0 ≤ p1.toInt ∧ p1.toInt ≤ 499) (h2 : 0 ≤ p2.toInt ∧ p2.toInt ≤ 499) : Met l yX7_isLess (Cond.code yX7_isLess cX7_isLess 7 (some .boolean) :: wA) ({ frames := 3, cells := 0, slots := 0, locals := 120 }) (va_Pc [.ref (g 3), .int p0, .int p1, .int p2] (PX dC dI g c adK adV v F rc sz)) (va_Qi (fun (r : Int32) (u : Unit) => 0 ≤ r.toInt ∧ r.toInt ≤ 1) (fun (_ : Unit) => BX dC dI g c (v, F, rc)) (AX g sz)) 0 0 (AX g sz) := by
  refine Met.ofW (cc := cX7_isLess) (maxL := 7) (ret := (some .boolean)) (by decide) rfl ?_
  intro p e s m args below meth c0 s₁ B hml hv
  obtain ⟨rfl, hsz, hP, hK, hE⟩ := hv
  have hx := B.exec
  have hb := B.bytes
  have hr := B.returns
  have hts := atoms_spec (ws := Cond.code yX7_isLess cX7_isLess 7 (some .boolean) :: wA) B.pre
  have hwd : ∀ w ∈ wA, w.before _ s = true := fun w h => hts w (List.mem_cons_of_mem _ h)
  have hown : s.vm.findClass RX7 = some m.cls := findClass_of_methodNamed B.named
  have hlocks := B.notSynchronized
  subst hsz
  have hl := lv_entry ([.ref (g 3), .int p0, .int p1, .int p2]) (n := 7) (Nat.le_of_ble_eq_true rfl)
  rw [lg_entry_eq]
  generalize (lg_sl ([.ref (g 3), .int p0, .int p1, .int p2]) ++ List.replicate (7 - (lg_sl ([.ref (g 3), .int p0, .int p1, .int p2])).length) Slot.unset).toArray = ls at hl ⊢
  have hl : lv_has ls 7 [(0, .ref (g 3)), (1, .int p0), (2, .int p1), (3, .int p2)] := hl
  obtain ⟨H, eH⟩ : ∃ z, z = s.heap := ⟨_, rfl⟩
  have hP : va_P (dC, dI) classes (wX g c v F rc) H := by rw [eH]; exact hP
  have hS : va_S (AX g s.heap.size) s.heap H [] := by rw [eH]; exact va_S.rf
  refine my_heap eH ?_
  have rp0 := i32_rng p0
  have rp1 := i32_rng p1
  have rp2 := i32_rng p2
  refine lv_iconst (v := 0) hx hb dX7_isLess_0 (by decide) ?_
  refine lv_istore (lv' := [(4, .int 0), (0, .ref (g 3)), (1, .int p0), (2, .int p1), (3, .int p2)]) hx hb dX7_isLess_1 hl (by decide) rfl (fun ls hl => ?_)
  have lp858 : ∀ (n : Nat) (x4_lp858 : Int32) (H : Heap) (locs : List Loc) (ls : Array Slot), (0 ≤ x4_lp858.toInt) → (2147483648 - x4_lp858.toInt ≤ (n : Int)) → va_P (dC, dI) classes (wX g c v F rc) H → va_S (AX g s.heap.size) s.heap H locs → lv_has ls 7 [(4, .int x4_lp858), (0, .ref (g 3)), (1, .int p0), (2, .int p1), (3, .int p2)] → W p l e (headSpec (Cond.code yX7_isLess cX7_isLess 7 (some .boolean) :: wA) ({ frames := 3, cells := 0, slots := 0, locals := 120 })).room s m ([.ref (g 3), .int p0, .int p1, .int p2] : List Value).toArray below meth c0 H locs 0 0 (MQ below (va_Qi (fun (r : Int32) (u : Unit) => 0 ≤ r.toInt ∧ r.toInt ≤ 1) (fun (_ : Unit) => BX dC dI g c (v, F, rc)) (AX g s.heap.size)) ([.ref (g 3), .int p0, .int p1, .int p2] : List Value).toArray s 0 0 (AX g s.heap.size)) (F0 m 3 ls []) := by
    intro n
    induction n with
    | zero =>
      intro x4_lp858 H locs ls t859 hm hP hS hl
      exfalso
      have := i32_rng x4_lp858
      omega
    | succ n ih_lp858 =>
      intro x4_lp858 H locs ls t859 hm hP hS hl
      have rx4_lp858 := i32_rng x4_lp858
      refine lv_iload hx hb dX7_isLess_3 (lv_at hl 0 rfl) ?_
      refine lv_iconst (v := 1) hx hb dX7_isLess_5 (by decide) ?_
      refine lv_icmp_gt (tgt := 61) hx hb dX7_isLess_6 (by decide) (fun c860 => ?_) (fun c860 => ?_)
      · skip
        have t861 := cv_lt (a := 1) (by decide) (b := x4_lp858.toInt) rfl c860
        refine lv_iconst (v := 0) hx hb dX7_isLess_61 (by decide) ?_
        have hP9 : va_P (dC, dI) classes (wX g c v F rc) H := hP
        exact W.zret (v := 0) hx hb hr (rfl) (fun t ht hW => ⟨⟨0, (), rfl, by have : (0 : Int32).toInt = 0 := (by decide); omega, (by show va_P _ _ _ t.heap; rw [ht]; exact hP9)⟩, hS.F ht⟩) hS.2.2 dX7_isLess_62
      · skip
        have t862 := cv_nlt (a := 1) (by decide) (b := x4_lp858.toInt) rfl c860
        refine lv_aload_n hx hb dX7_isLess_9 rfl (lv_at hl 1 rfl) ?_
        refine lv_iload_n hx hb dX7_isLess_10 rfl (lv_at hl 2 rfl) ?_
        refine lv_iload_n hx hb dX7_isLess_11 rfl (lv_at hl 3 rfl) ?_
        refine lv_iload hx hb dX7_isLess_12 (lv_at hl 0 rfl) ?_
        refine va_calli (va_runV (As := [.int p0, .int p1, .int x4_lp858]) (rest := []) ⟨hx, hb, hml, hown, hwd⟩ (c_X7_usedAtEnd l dC dI g c adK adV v F rc H.size p0 p1 x4_lp858 hg hI (by omega) (by omega) (by omega)) (cwV 3 hwd (gV wk_699 wk_696 wk_697 wk_698 wk_26) rfl rfl rfl (by decide +kernel) ⟨Nat.le_of_ble_eq_true rfl, Nat.le_of_ble_eq_true rfl⟩) ⟨PX.blind, va_recv hK hP (ci := 7) (q0 := 3) rfl rfl, fun U hU hW => ⟨rfl, PX.at hK hE hP hS hU hW⟩⟩ rfl rfl hl.1 rfl (lv_room (Nat.le_of_ble_eq_true rfl)) dX7_isLess_14 ⟨Nat.le_of_ble_eq_true rfl, Nat.le_of_ble_eq_true rfl⟩) hS (fun q _ h => (freeX hS) q h) (freeX hS) (fun r863 u t H1 locs ht hvm hw hB hz1 hk1 hS => ?_)
        unfold BX at hB
        rw [ht] at hB
        have hP : va_P (dC, dI) classes (wX g c v F rc) H1 := hB
        generalize H1 = H at hP hS ⊢
        have rr_r863 := i32_rng r863
        refine lv_istore (lv' := [(5, .int r863), (4, .int x4_lp858), (0, .ref (g 3)), (1, .int p0), (2, .int p1), (3, .int p2)]) hx hb dX7_isLess_17 hl (by decide) rfl (fun ls hl => ?_)
        refine lv_aload_n hx hb dX7_isLess_19 rfl (lv_at hl 2 rfl) ?_
        refine va_get (D := (dC, dI)) (ci := 7) (v := .ref (g 4)) (C := RX7) (T := TX7) (N := 7) hx hb hwd inA_X7 hown hK hP 3 rfl rfl 0 (by decide) (hwd _ wk_100) (fun _ h9 => h9) rfl dX7_isLess_20 ?_
        refine lv_iload_n hx hb dX7_isLess_23 rfl (lv_at hl 5 rfl) ?_
        refine lv_iload hx hb dX7_isLess_24 (lv_at hl 1 rfl) ?_
        refine va_calli (va_runV (As := [.int p2, .int x4_lp858]) (rest := []) ⟨hx, hb, hml, hown, hwd⟩ (c_X9_usedAtStart l dC dI g c adK adV v F rc H.size p2 x4_lp858 hg hI (by omega)) (cwV 2 hwd (gV wk_708 wk_705 wk_706 wk_707 wk_22) rfl rfl rfl (by decide +kernel) ⟨Nat.le_of_ble_eq_true rfl, Nat.le_of_ble_eq_true rfl⟩) ⟨PX.blind, va_recv hK hP (ci := 9) (q0 := 4) rfl rfl, fun U hU hW => ⟨rfl, PX.at hK hE hP hS hU hW⟩⟩ rfl rfl hl.1 rfl (lv_room (Nat.le_of_ble_eq_true rfl)) dX7_isLess_26 ⟨Nat.le_of_ble_eq_true rfl, Nat.le_of_ble_eq_true rfl⟩) hS (fun q _ h => (freeX hS) q h) (freeX hS) (fun r864 u t H1 locs ht hvm hw hB hz1 hk1 hS => ?_)
        unfold BX at hB
        rw [ht] at hB
        have hP : va_P (dC, dI) classes (wX g c v F rc) H1 := hB
        generalize H1 = H at hP hS ⊢
        have rr_r864 := i32_rng r864
        refine lv_istore (lv' := [(6, .int r864), (5, .int r863), (4, .int x4_lp858), (0, .ref (g 3)), (1, .int p0), (2, .int p1), (3, .int p2)]) hx hb dX7_isLess_29 hl (by decide) rfl (fun ls hl => ?_)
        refine lv_iload_n hx hb dX7_isLess_31 rfl (lv_at hl 5 rfl) ?_
        refine lv_iload_n hx hb dX7_isLess_32 rfl (lv_at hl 6 rfl) ?_
        refine lv_icmp_ne (tgt := 46) hx hb dX7_isLess_33 (by decide) (fun c865 => ?_) (fun c865 => ?_)
        · skip
          have t866 := cv_ne (a := p1.toInt) rfl (b := p2.toInt) rfl c865
          refine lv_iload hx hb dX7_isLess_46 (lv_at hl 0 rfl) ?_
          refine lv_iload hx hb dX7_isLess_48 (lv_at hl 1 rfl) ?_
          refine lv_icmp_ge (tgt := 55) hx hb dX7_isLess_50 (by decide) (fun c867 => ?_) (fun c867 => ?_)
          · skip
            have t868 := cv_le (a := r863.toInt) rfl (b := r864.toInt) rfl c867
            obtain ⟨z869, e870⟩ : ∃ y : Int32, y = x4_lp858 + 1 := ⟨_, rfl⟩
            try (have t871 := tadd e870 rfl (b := 1) (by decide) (by omega))
            refine lv_iinc (v := z869) (lv' := [(4, .int z869), (6, .int r864), (5, .int r863), (0, .ref (g 3)), (1, .int p0), (2, .int p1), (3, .int p2)]) hx hb dX7_isLess_55 hl (k := 2) rfl (by rw [e870]; rfl) (by decide) rfl (fun ls hl => ?_)
            refine lv_goto (tgt := 3) hx hb dX7_isLess_58 (by decide) ?_
            exact ih_lp858 z869  _ _ _ (by omega) (by omega) hP hS (lv_sub hl [0, 3, 4, 5, 6] rfl)
          · skip
            have t872 := cv_nle (a := r863.toInt) rfl (b := r864.toInt) rfl c867
            refine lv_iconst (v := 1) hx hb dX7_isLess_53 (by decide) ?_
            have hP9 : va_P (dC, dI) classes (wX g c v F rc) H := hP
            exact W.zret (v := 1) hx hb hr (rfl) (fun t ht hW => ⟨⟨1, (), rfl, by have : (1 : Int32).toInt = 1 := (by decide); omega, (by show va_P _ _ _ t.heap; rw [ht]; exact hP9)⟩, hS.F ht⟩) hS.2.2 dX7_isLess_54
        · skip
          have t873 := cv_eq (a := p1.toInt) rfl (b := p2.toInt) rfl c865
          refine lv_iload hx hb dX7_isLess_36 (lv_at hl 1 rfl) ?_
          refine lv_iload hx hb dX7_isLess_38 (lv_at hl 0 rfl) ?_
          refine lv_icmp_ge (tgt := 55) hx hb dX7_isLess_40 (by decide) (fun c874 => ?_) (fun c874 => ?_)
          · skip
            have t875 := cv_le (a := r864.toInt) rfl (b := r863.toInt) rfl c874
            obtain ⟨z876, e877⟩ : ∃ y : Int32, y = x4_lp858 + 1 := ⟨_, rfl⟩
            try (have t878 := tadd e877 rfl (b := 1) (by decide) (by omega))
            refine lv_iinc (v := z876) (lv' := [(4, .int z876), (6, .int r864), (5, .int r863), (0, .ref (g 3)), (1, .int p0), (2, .int p1), (3, .int p2)]) hx hb dX7_isLess_55 hl (k := 2) rfl (by rw [e877]; rfl) (by decide) rfl (fun ls hl => ?_)
            refine lv_goto (tgt := 3) hx hb dX7_isLess_58 (by decide) ?_
            exact ih_lp858 z876  _ _ _ (by omega) (by omega) hP hS (lv_sub hl [0, 3, 4, 5, 6] rfl)
          · skip
            have t879 := cv_nle (a := r864.toInt) rfl (b := r863.toInt) rfl c874
            refine lv_goto (tgt := 53) hx hb dX7_isLess_43 (by decide) ?_
            refine lv_iconst (v := 1) hx hb dX7_isLess_53 (by decide) ?_
            have hP9 : va_P (dC, dI) classes (wX g c v F rc) H := hP
            exact W.zret (v := 1) hx hb hr (rfl) (fun t ht hW => ⟨⟨1, (), rfl, by have : (1 : Int32).toInt = 1 := (by decide); omega, (by show va_P _ _ _ t.heap; rw [ht]; exact hP9)⟩, hS.F ht⟩) hS.2.2 dX7_isLess_54
  obtain ⟨n9, hn9⟩ : ∃ n : Nat, 2147483648 - 0 ≤ (n : Int) := ⟨((2147483648 - 0 : Int)).toNat, by omega⟩
  exact lp858 n9 0  H _ ls (by have : (0 : Int32).toInt = 0 := (by decide); omega) (by have : (0 : Int32).toInt = 0 := (by decide); omega) hP hS hl
set_option maxHeartbeats 8000000 in
set_option maxRecDepth 100000 in
theorem c_X7_growsLess (l : Launch) (dC : Nat → ClassId) (dI : Nat → Nat → Nat) (g : Nat → Nat) (c : Nat → ClassId) (adK adV : Nat → Nat) (v : Nat → Int32) (F : Nat → Nat → Int32) (rc sz : Nat) (p0 : Int32) (hg : injX g) (hI : IX v F) (h0 : 0 ≤ p0.toInt ∧ p0.toInt ≤ 99) : Met l yX7_growsLess (Cond.code yX7_growsLess cX7_growsLess 5 (some .boolean) :: wA) ({ frames := 4, cells := 0, slots := 0, locals := 160 }) (va_Pc [.ref (g 3), .int p0] (PX dC dI g c adK adV v F rc sz)) (va_Qi (fun (r : Int32) (u : Unit) => 0 ≤ r.toInt ∧ r.toInt ≤ 1) (fun (_ : Unit) => BX dC dI g c (v, F, rc)) (AX g sz)) 0 0 (AX g sz) := by
  refine Met.ofW (cc := cX7_growsLess) (maxL := 5) (ret := (some .boolean)) (by decide) rfl ?_
  intro p e s m args below meth c0 s₁ B hml hv
  obtain ⟨rfl, hsz, hP, hK, hE⟩ := hv
  have hx := B.exec
  have hb := B.bytes
  have hr := B.returns
  have hts := atoms_spec (ws := Cond.code yX7_growsLess cX7_growsLess 5 (some .boolean) :: wA) B.pre
  have hwd : ∀ w ∈ wA, w.before _ s = true := fun w h => hts w (List.mem_cons_of_mem _ h)
  have hown : s.vm.findClass RX7 = some m.cls := findClass_of_methodNamed B.named
  have hlocks := B.notSynchronized
  subst hsz
  have hl := lv_entry ([.ref (g 3), .int p0]) (n := 5) (Nat.le_of_ble_eq_true rfl)
  rw [lg_entry_eq]
  generalize (lg_sl ([.ref (g 3), .int p0]) ++ List.replicate (5 - (lg_sl ([.ref (g 3), .int p0])).length) Slot.unset).toArray = ls at hl ⊢
  have hl : lv_has ls 5 [(0, .ref (g 3)), (1, .int p0)] := hl
  obtain ⟨H, eH⟩ : ∃ z, z = s.heap := ⟨_, rfl⟩
  have hP : va_P (dC, dI) classes (wX g c v F rc) H := by rw [eH]; exact hP
  have hS : va_S (AX g s.heap.size) s.heap H [] := by rw [eH]; exact va_S.rf
  refine my_heap eH ?_
  have rp0 := i32_rng p0
  refine lv_iconst (v := (-1)) hx hb dX7_growsLess_0 (by decide) ?_
  refine lv_istore_n (lv' := [(2, .int (-1)), (0, .ref (g 3)), (1, .int p0)]) hx hb dX7_growsLess_1 rfl hl (by decide) rfl (fun ls hl => ?_)
  refine lv_aload_n hx hb dX7_growsLess_2 rfl (lv_at hl 1 rfl) ?_
  refine va_get (D := (dC, dI)) (ci := 7) (v := .ref (g 4)) (C := RX7) (T := TX7) (N := 7) hx hb hwd inA_X7 hown hK hP 3 rfl rfl 0 (by decide) (hwd _ wk_100) (fun _ h9 => h9) rfl dX7_growsLess_3 ?_
  refine va_get (D := (dC, dI)) (ci := 9) (v := .ref (g 38)) (C := RX9) (T := TX9) (N := 11) hx hb hwd inA_X9 hown hK hP 4 rfl rfl 10 (by decide) (hwd _ wk_571) (fun _ h9 => h9) rfl dX7_growsLess_6 ?_
  refine lv_iload_n hx hb dX7_growsLess_9 rfl (lv_at hl 2 rfl) ?_
  refine va_iald hx hb hK hP 38 26 rfl rfl (i := p0) (vin (a := p0.toInt) rfl (by omega)) dX7_growsLess_10 ?_
  refine lv_topi (fun z880 e881 => ?_)
  have t882 : -1 ≤ z880.toInt ∧ z880.toInt ≤ 499 := by rw [e881]; exact hI.2 38 _ _ rfl _
  refine lv_istore_n (lv' := [(3, .int z880), (2, .int (-1)), (0, .ref (g 3)), (1, .int p0)]) hx hb dX7_growsLess_11 rfl hl (by decide) rfl (fun ls hl => ?_)
  refine lv_iconst (v := 0) hx hb dX7_growsLess_12 (by decide) ?_
  refine lv_istore (lv' := [(4, .int 0), (3, .int z880), (2, .int (-1)), (0, .ref (g 3)), (1, .int p0)]) hx hb dX7_growsLess_13 hl (by decide) rfl (fun ls hl => ?_)
  have lp883 : ∀ (n : Nat) (x4_lp883 : Int32) (x3_lp883 : Int32) (x2_lp883 : Int32) (H : Heap) (locs : List Loc) (ls : Array Slot), (0 ≤ x4_lp883.toInt) → (-1 ≤ x3_lp883.toInt) → (x3_lp883.toInt ≤ 499) → (-1 ≤ x2_lp883.toInt) → (x2_lp883.toInt ≤ 499) → (2147483648 - x4_lp883.toInt ≤ (n : Int)) → va_P (dC, dI) classes (wX g c v F rc) H → va_S (AX g s.heap.size) s.heap H locs → lv_has ls 5 [(4, .int x4_lp883), (3, .int x3_lp883), (2, .int x2_lp883), (0, .ref (g 3)), (1, .int p0)] → W p l e (headSpec (Cond.code yX7_growsLess cX7_growsLess 5 (some .boolean) :: wA) ({ frames := 4, cells := 0, slots := 0, locals := 160 })).room s m ([.ref (g 3), .int p0] : List Value).toArray below meth c0 H locs 0 0 (MQ below (va_Qi (fun (r : Int32) (u : Unit) => 0 ≤ r.toInt ∧ r.toInt ≤ 1) (fun (_ : Unit) => BX dC dI g c (v, F, rc)) (AX g s.heap.size)) ([.ref (g 3), .int p0] : List Value).toArray s 0 0 (AX g s.heap.size)) (F0 m 15 ls []) := by
    intro n
    induction n with
    | zero =>
      intro x4_lp883 x3_lp883 x2_lp883 H locs ls t884 t885 t886 t887 t888 hm hP hS hl
      exfalso
      have := i32_rng x4_lp883
      have := i32_rng x3_lp883
      have := i32_rng x2_lp883
      omega
    | succ n ih_lp883 =>
      intro x4_lp883 x3_lp883 x2_lp883 H locs ls t884 t885 t886 t887 t888 hm hP hS hl
      have rx4_lp883 := i32_rng x4_lp883
      have rx3_lp883 := i32_rng x3_lp883
      have rx2_lp883 := i32_rng x2_lp883
      refine lv_iload hx hb dX7_growsLess_15 (lv_at hl 0 rfl) ?_
      refine lv_sipush (v := 500) hx hb dX7_growsLess_17 (by decide) ?_
      refine lv_icmp_ge (tgt := 92) hx hb dX7_growsLess_20 (by decide) (fun c889 => ?_) (fun c889 => ?_)
      · skip
        have t890 := cv_le (a := 500) (by decide) (b := x4_lp883.toInt) rfl c889
        refine lv_iconst (v := 0) hx hb dX7_growsLess_92 (by decide) ?_
        have hP9 : va_P (dC, dI) classes (wX g c v F rc) H := hP
        exact W.zret (v := 0) hx hb hr (rfl) (fun t ht hW => ⟨⟨0, (), rfl, by have : (0 : Int32).toInt = 0 := (by decide); omega, (by show va_P _ _ _ t.heap; rw [ht]; exact hP9)⟩, hS.F ht⟩) hS.2.2 dX7_growsLess_93
      · skip
        have t891 := cv_nle (a := 500) (by decide) (b := x4_lp883.toInt) rfl c889
        refine lv_iload_n hx hb dX7_growsLess_23 rfl (lv_at hl 1 rfl) ?_
        refine lv_iconst (v := (-1)) hx hb dX7_growsLess_24 (by decide) ?_
        refine lv_icmp_eq (tgt := 92) hx hb dX7_growsLess_25 (by decide) (fun c892 => ?_) (fun c892 => ?_)
        · skip
          have t893 := cv_eq (a := x3_lp883.toInt) rfl (b := (-1)) (by decide) c892
          refine lv_iconst (v := 0) hx hb dX7_growsLess_92 (by decide) ?_
          have hP9 : va_P (dC, dI) classes (wX g c v F rc) H := hP
          exact W.zret (v := 0) hx hb hr (rfl) (fun t ht hW => ⟨⟨0, (), rfl, by have : (0 : Int32).toInt = 0 := (by decide); omega, (by show va_P _ _ _ t.heap; rw [ht]; exact hP9)⟩, hS.F ht⟩) hS.2.2 dX7_growsLess_93
        · skip
          have t894 := cv_ne (a := x3_lp883.toInt) rfl (b := (-1)) (by decide) c892
          refine lv_aload_n hx hb dX7_growsLess_28 rfl (lv_at hl 3 rfl) ?_
          refine va_get (D := (dC, dI)) (ci := 7) (v := .ref (g 4)) (C := RX7) (T := TX7) (N := 7) hx hb hwd inA_X7 hown hK hP 3 rfl rfl 0 (by decide) (hwd _ wk_100) (fun _ h9 => h9) rfl dX7_growsLess_29 ?_
          refine va_get (D := (dC, dI)) (ci := 9) (v := .ref (g 29)) (C := RX9) (T := TX9) (N := 11) hx hb hwd inA_X9 hown hK hP 4 rfl rfl 1 (by decide) (hwd _ wk_690) (fun _ h9 => h9) rfl dX7_growsLess_32 ?_
          refine lv_iload_n hx hb dX7_growsLess_35 rfl (lv_at hl 1 rfl) ?_
          refine va_iald hx hb hK hP 29 17 rfl rfl (i := x3_lp883) (vin (a := x3_lp883.toInt) rfl (by omega)) dX7_growsLess_36 ?_
          refine lv_topi (fun z895 e896 => ?_)
          refine lv_bipush (v := 10) hx hb dX7_growsLess_37 (by decide) ?_
          refine lv_icmp_ne (tgt := 47) hx hb dX7_growsLess_39 (by decide) (fun c897 => ?_) (fun c897 => ?_)
          · skip
            have t898 := cv_ne (a := z895.toInt) rfl (b := 10) (by decide) c897
            refine lv_aload_n hx hb dX7_growsLess_47 rfl (lv_at hl 3 rfl) ?_
            refine lv_iload_n hx hb dX7_growsLess_48 rfl (lv_at hl 4 rfl) ?_
            refine lv_iload_n hx hb dX7_growsLess_49 rfl (lv_at hl 1 rfl) ?_
            refine lv_iload_n hx hb dX7_growsLess_50 rfl (lv_at hl 1 rfl) ?_
            refine va_calli (va_runV (As := [.int p0, .int x3_lp883, .int x3_lp883]) (rest := []) ⟨hx, hb, hml, hown, hwd⟩ (c_X7_isLess l dC dI g c adK adV v F rc H.size p0 x3_lp883 x3_lp883 hg hI (by omega) (by omega) (by omega)) (cwV 3 hwd (gV wk_695 wk_692 wk_693 wk_694 wk_26) rfl rfl rfl (by decide +kernel) ⟨Nat.le_of_ble_eq_true rfl, Nat.le_of_ble_eq_true rfl⟩) ⟨PX.blind, va_recv hK hP (ci := 7) (q0 := 3) rfl rfl, fun U hU hW => ⟨rfl, PX.at hK hE hP hS hU hW⟩⟩ rfl rfl hl.1 rfl (lv_room (Nat.le_of_ble_eq_true rfl)) dX7_growsLess_51 ⟨Nat.le_of_ble_eq_true rfl, Nat.le_of_ble_eq_true rfl⟩) hS (fun q _ h => (freeX hS) q h) (freeX hS) (fun r899 u t H1 locs ht hvm hw hB hz1 hk1 hS => ?_)
            unfold BX at hB
            rw [ht] at hB
            have hP : va_P (dC, dI) classes (wX g c v F rc) H1 := hB
            have hw : 0 ≤ r899.toInt ∧ r899.toInt ≤ 1 := hw
            generalize H1 = H at hP hS ⊢
            have hw_r899 := hw
            refine lv_if_ne (tgt := 72) hx hb dX7_growsLess_54 (by decide) (fun c900 => ?_) (fun c900 => ?_)
            · skip
              have t901 := cv_ne (a := r899.toInt) rfl (b := 0) (by decide) c900
              refine lv_iconst (v := 1) hx hb dX7_growsLess_72 (by decide) ?_
              have hP9 : va_P (dC, dI) classes (wX g c v F rc) H := hP
              exact W.zret (v := 1) hx hb hr (rfl) (fun t ht hW => ⟨⟨1, (), rfl, by have : (1 : Int32).toInt = 1 := (by decide); omega, (by show va_P _ _ _ t.heap; rw [ht]; exact hP9)⟩, hS.F ht⟩) hS.2.2 dX7_growsLess_73
            · skip
              have t902 := cv_eq (a := r899.toInt) rfl (b := 0) (by decide) c900
              refine lv_iload_n hx hb dX7_growsLess_57 rfl (lv_at hl 2 rfl) ?_
              refine lv_iconst (v := (-1)) hx hb dX7_growsLess_58 (by decide) ?_
              refine lv_icmp_eq (tgt := 74) hx hb dX7_growsLess_59 (by decide) (fun c903 => ?_) (fun c903 => ?_)
              · skip
                have t904 := cv_eq (a := x2_lp883.toInt) rfl (b := (-1)) (by decide) c903
                refine lv_iload_n hx hb dX7_growsLess_74 rfl (lv_at hl 1 rfl) ?_
                refine lv_istore_n (lv' := [(2, .int x3_lp883), (4, .int x4_lp883), (3, .int x3_lp883), (0, .ref (g 3)), (1, .int p0)]) hx hb dX7_growsLess_75 rfl hl (by decide) rfl (fun ls hl => ?_)
                refine lv_aload_n hx hb dX7_growsLess_76 rfl (lv_at hl 3 rfl) ?_
                refine va_get (D := (dC, dI)) (ci := 7) (v := .ref (g 4)) (C := RX7) (T := TX7) (N := 7) hx hb hwd inA_X7 hown hK hP 3 rfl rfl 0 (by decide) (hwd _ wk_100) (fun _ h9 => h9) rfl dX7_growsLess_77 ?_
                refine va_get (D := (dC, dI)) (ci := 9) (v := .ref (g 37)) (C := RX9) (T := TX9) (N := 11) hx hb hwd inA_X9 hown hK hP 4 rfl rfl 9 (by decide) (hwd _ wk_691) (fun _ h9 => h9) rfl dX7_growsLess_80 ?_
                refine lv_iload_n hx hb dX7_growsLess_83 rfl (lv_at hl 2 rfl) ?_
                refine va_iald hx hb hK hP 37 25 rfl rfl (i := x3_lp883) (vin (a := x3_lp883.toInt) rfl (by omega)) dX7_growsLess_84 ?_
                refine lv_topi (fun z905 e906 => ?_)
                have t907 : -1 ≤ z905.toInt ∧ z905.toInt ≤ 499 := by rw [e906]; exact hI.2 37 _ _ rfl _
                refine lv_istore_n (lv' := [(3, .int z905), (2, .int x3_lp883), (4, .int x4_lp883), (0, .ref (g 3)), (1, .int p0)]) hx hb dX7_growsLess_85 rfl hl (by decide) rfl (fun ls hl => ?_)
                obtain ⟨z908, e909⟩ : ∃ y : Int32, y = x4_lp883 + 1 := ⟨_, rfl⟩
                try (have t910 := tadd e909 rfl (b := 1) (by decide) (by omega))
                refine lv_iinc (v := z908) (lv' := [(4, .int z908), (3, .int z905), (2, .int x3_lp883), (0, .ref (g 3)), (1, .int p0)]) hx hb dX7_growsLess_86 hl (k := 2) rfl (by rw [e909]; rfl) (by decide) rfl (fun ls hl => ?_)
                refine lv_goto (tgt := 15) hx hb dX7_growsLess_89 (by decide) ?_
                exact ih_lp883 z908 z905 x3_lp883  _ _ _ (by omega) (by omega) (by omega) (by omega) (by omega) (by omega) hP hS (lv_sub hl [0, 1, 2, 3, 4] rfl)
              · skip
                have t911 := cv_ne (a := x2_lp883.toInt) rfl (b := (-1)) (by decide) c903
                refine lv_aload_n hx hb dX7_growsLess_62 rfl (lv_at hl 3 rfl) ?_
                refine lv_iload_n hx hb dX7_growsLess_63 rfl (lv_at hl 4 rfl) ?_
                refine lv_iload_n hx hb dX7_growsLess_64 rfl (lv_at hl 2 rfl) ?_
                refine lv_iload_n hx hb dX7_growsLess_65 rfl (lv_at hl 1 rfl) ?_
                refine va_calli (va_runV (As := [.int p0, .int x2_lp883, .int x3_lp883]) (rest := []) ⟨hx, hb, hml, hown, hwd⟩ (c_X7_isLess l dC dI g c adK adV v F rc H.size p0 x2_lp883 x3_lp883 hg hI (by omega) (by omega) (by omega)) (cwV 3 hwd (gV wk_695 wk_692 wk_693 wk_694 wk_26) rfl rfl rfl (by decide +kernel) ⟨Nat.le_of_ble_eq_true rfl, Nat.le_of_ble_eq_true rfl⟩) ⟨PX.blind, va_recv hK hP (ci := 7) (q0 := 3) rfl rfl, fun U hU hW => ⟨rfl, PX.at hK hE hP hS hU hW⟩⟩ rfl rfl hl.1 rfl (lv_room (Nat.le_of_ble_eq_true rfl)) dX7_growsLess_66 ⟨Nat.le_of_ble_eq_true rfl, Nat.le_of_ble_eq_true rfl⟩) hS (fun q _ h => (freeX hS) q h) (freeX hS) (fun r912 u t H1 locs ht hvm hw hB hz1 hk1 hS => ?_)
                unfold BX at hB
                rw [ht] at hB
                have hP : va_P (dC, dI) classes (wX g c v F rc) H1 := hB
                have hw : 0 ≤ r912.toInt ∧ r912.toInt ≤ 1 := hw
                generalize H1 = H at hP hS ⊢
                have hw_r912 := hw
                refine lv_if_eq (tgt := 74) hx hb dX7_growsLess_69 (by decide) (fun c913 => ?_) (fun c913 => ?_)
                · skip
                  have t914 := cv_eq (a := r912.toInt) rfl (b := 0) (by decide) c913
                  refine lv_iload_n hx hb dX7_growsLess_74 rfl (lv_at hl 1 rfl) ?_
                  refine lv_istore_n (lv' := [(2, .int x3_lp883), (4, .int x4_lp883), (3, .int x3_lp883), (0, .ref (g 3)), (1, .int p0)]) hx hb dX7_growsLess_75 rfl hl (by decide) rfl (fun ls hl => ?_)
                  refine lv_aload_n hx hb dX7_growsLess_76 rfl (lv_at hl 3 rfl) ?_
                  refine va_get (D := (dC, dI)) (ci := 7) (v := .ref (g 4)) (C := RX7) (T := TX7) (N := 7) hx hb hwd inA_X7 hown hK hP 3 rfl rfl 0 (by decide) (hwd _ wk_100) (fun _ h9 => h9) rfl dX7_growsLess_77 ?_
                  refine va_get (D := (dC, dI)) (ci := 9) (v := .ref (g 37)) (C := RX9) (T := TX9) (N := 11) hx hb hwd inA_X9 hown hK hP 4 rfl rfl 9 (by decide) (hwd _ wk_691) (fun _ h9 => h9) rfl dX7_growsLess_80 ?_
                  refine lv_iload_n hx hb dX7_growsLess_83 rfl (lv_at hl 2 rfl) ?_
                  refine va_iald hx hb hK hP 37 25 rfl rfl (i := x3_lp883) (vin (a := x3_lp883.toInt) rfl (by omega)) dX7_growsLess_84 ?_
                  refine lv_topi (fun z915 e916 => ?_)
                  have t917 : -1 ≤ z915.toInt ∧ z915.toInt ≤ 499 := by rw [e916]; exact hI.2 37 _ _ rfl _
                  refine lv_istore_n (lv' := [(3, .int z915), (2, .int x3_lp883), (4, .int x4_lp883), (0, .ref (g 3)), (1, .int p0)]) hx hb dX7_growsLess_85 rfl hl (by decide) rfl (fun ls hl => ?_)
                  obtain ⟨z918, e919⟩ : ∃ y : Int32, y = x4_lp883 + 1 := ⟨_, rfl⟩
                  try (have t920 := tadd e919 rfl (b := 1) (by decide) (by omega))
                  refine lv_iinc (v := z918) (lv' := [(4, .int z918), (3, .int z915), (2, .int x3_lp883), (0, .ref (g 3)), (1, .int p0)]) hx hb dX7_growsLess_86 hl (k := 2) rfl (by rw [e919]; rfl) (by decide) rfl (fun ls hl => ?_)
                  refine lv_goto (tgt := 15) hx hb dX7_growsLess_89 (by decide) ?_
                  exact ih_lp883 z918 z915 x3_lp883  _ _ _ (by omega) (by omega) (by omega) (by omega) (by omega) (by omega) hP hS (lv_sub hl [0, 1, 2, 3, 4] rfl)
                · skip
                  have t921 := cv_ne (a := r912.toInt) rfl (b := 0) (by decide) c913
                  refine lv_iconst (v := 1) hx hb dX7_growsLess_72 (by decide) ?_
                  have hP9 : va_P (dC, dI) classes (wX g c v F rc) H := hP
                  exact W.zret (v := 1) hx hb hr (rfl) (fun t ht hW => ⟨⟨1, (), rfl, by have : (1 : Int32).toInt = 1 := (by decide); omega, (by show va_P _ _ _ t.heap; rw [ht]; exact hP9)⟩, hS.F ht⟩) hS.2.2 dX7_growsLess_73
          · skip
            have t922 := cv_eq (a := z895.toInt) rfl (b := 10) (by decide) c897
            refine lv_iconst (v := (-1)) hx hb dX7_growsLess_42 (by decide) ?_
            refine lv_istore_n (lv' := [(2, .int (-1)), (4, .int x4_lp883), (3, .int x3_lp883), (0, .ref (g 3)), (1, .int p0)]) hx hb dX7_growsLess_43 rfl hl (by decide) rfl (fun ls hl => ?_)
            refine lv_goto (tgt := 76) hx hb dX7_growsLess_44 (by decide) ?_
            refine lv_aload_n hx hb dX7_growsLess_76 rfl (lv_at hl 3 rfl) ?_
            refine va_get (D := (dC, dI)) (ci := 7) (v := .ref (g 4)) (C := RX7) (T := TX7) (N := 7) hx hb hwd inA_X7 hown hK hP 3 rfl rfl 0 (by decide) (hwd _ wk_100) (fun _ h9 => h9) rfl dX7_growsLess_77 ?_
            refine va_get (D := (dC, dI)) (ci := 9) (v := .ref (g 37)) (C := RX9) (T := TX9) (N := 11) hx hb hwd inA_X9 hown hK hP 4 rfl rfl 9 (by decide) (hwd _ wk_691) (fun _ h9 => h9) rfl dX7_growsLess_80 ?_
            refine lv_iload_n hx hb dX7_growsLess_83 rfl (lv_at hl 2 rfl) ?_
            refine va_iald hx hb hK hP 37 25 rfl rfl (i := x3_lp883) (vin (a := x3_lp883.toInt) rfl (by omega)) dX7_growsLess_84 ?_
            refine lv_topi (fun z923 e924 => ?_)
            have t925 : -1 ≤ z923.toInt ∧ z923.toInt ≤ 499 := by rw [e924]; exact hI.2 37 _ _ rfl _
            refine lv_istore_n (lv' := [(3, .int z923), (2, .int (-1)), (4, .int x4_lp883), (0, .ref (g 3)), (1, .int p0)]) hx hb dX7_growsLess_85 rfl hl (by decide) rfl (fun ls hl => ?_)
            obtain ⟨z926, e927⟩ : ∃ y : Int32, y = x4_lp883 + 1 := ⟨_, rfl⟩
            try (have t928 := tadd e927 rfl (b := 1) (by decide) (by omega))
            refine lv_iinc (v := z926) (lv' := [(4, .int z926), (3, .int z923), (2, .int (-1)), (0, .ref (g 3)), (1, .int p0)]) hx hb dX7_growsLess_86 hl (k := 2) rfl (by rw [e927]; rfl) (by decide) rfl (fun ls hl => ?_)
            refine lv_goto (tgt := 15) hx hb dX7_growsLess_89 (by decide) ?_
            exact ih_lp883 z926 z923 (-1)  _ _ _ (by have : ((-1) : Int32).toInt = (-1) := (by decide); omega) (by have : ((-1) : Int32).toInt = (-1) := (by decide); omega) (by have : ((-1) : Int32).toInt = (-1) := (by decide); omega) (by have : ((-1) : Int32).toInt = (-1) := (by decide); omega) (by have : ((-1) : Int32).toInt = (-1) := (by decide); omega) (by have : ((-1) : Int32).toInt = (-1) := (by decide); omega) hP hS (lv_sub hl [0, 1, 2, 3, 4] rfl)
  obtain ⟨n9, hn9⟩ : ∃ n : Nat, 2147483648 - 0 ≤ (n : Int) := ⟨((2147483648 - 0 : Int)).toNat, by omega⟩
  exact lp883 n9 0 z880 (-1)  H _ ls (by have : (0 : Int32).toInt = 0 := (by decide); have : ((-1) : Int32).toInt = (-1) := (by decide); omega) (by have : (0 : Int32).toInt = 0 := (by decide); have : ((-1) : Int32).toInt = (-1) := (by decide); omega) (by have : (0 : Int32).toInt = 0 := (by decide); have : ((-1) : Int32).toInt = (-1) := (by decide); omega) (by have : (0 : Int32).toInt = 0 := (by decide); have : ((-1) : Int32).toInt = (-1) := (by decide); omega) (by have : (0 : Int32).toInt = 0 := (by decide); have : ((-1) : Int32).toInt = (-1) := (by decide); omega) (by have : (0 : Int32).toInt = 0 := (by decide); have : ((-1) : Int32).toInt = (-1) := (by decide); omega) hP hS hl
set_option maxHeartbeats 8000000 in
set_option maxRecDepth 100000 in
theorem c_X7_hasTwin (l : Launch) (dC : Nat → ClassId) (dI : Nat → Nat → Nat) (g : Nat → Nat) (c : Nat → ClassId) (adK adV : Nat → Nat) (v : Nat → Int32) (F : Nat → Nat → Int32) (rc sz : Nat) (p0 : Int32) (hg : injX g) (hI : IX v F) (h0 : 0 ≤ p0.toInt ∧ p0.toInt ≤ 99) : Met l yX7_hasTwin (Cond.code yX7_hasTwin cX7_hasTwin 3 (some .boolean) :: wA) ({ frames := 1, cells := 0, slots := 0, locals := 40 }) (va_Pc [.ref (g 3), .int p0] (PX dC dI g c adK adV v F rc sz)) (va_Qi (fun (r : Int32) (u : Unit) => 0 ≤ r.toInt ∧ r.toInt ≤ 1) (fun (_ : Unit) => BX dC dI g c (v, F, rc)) (AX g sz)) 0 0 (AX g sz) := by
  refine Met.ofW (cc := cX7_hasTwin) (maxL := 3) (ret := (some .boolean)) (by decide) rfl ?_
  intro p e s m args below meth c0 s₁ B hml hv
  obtain ⟨rfl, hsz, hP, hK, hE⟩ := hv
  have hx := B.exec
  have hb := B.bytes
  have hr := B.returns
  have hts := atoms_spec (ws := Cond.code yX7_hasTwin cX7_hasTwin 3 (some .boolean) :: wA) B.pre
  have hwd : ∀ w ∈ wA, w.before _ s = true := fun w h => hts w (List.mem_cons_of_mem _ h)
  have hown : s.vm.findClass RX7 = some m.cls := findClass_of_methodNamed B.named
  have hlocks := B.notSynchronized
  subst hsz
  have hl := lv_entry ([.ref (g 3), .int p0]) (n := 3) (Nat.le_of_ble_eq_true rfl)
  rw [lg_entry_eq]
  generalize (lg_sl ([.ref (g 3), .int p0]) ++ List.replicate (3 - (lg_sl ([.ref (g 3), .int p0])).length) Slot.unset).toArray = ls at hl ⊢
  have hl : lv_has ls 3 [(0, .ref (g 3)), (1, .int p0)] := hl
  obtain ⟨H, eH⟩ : ∃ z, z = s.heap := ⟨_, rfl⟩
  have hP : va_P (dC, dI) classes (wX g c v F rc) H := by rw [eH]; exact hP
  have hS : va_S (AX g s.heap.size) s.heap H [] := by rw [eH]; exact va_S.rf
  refine my_heap eH ?_
  have rp0 := i32_rng p0
  refine lv_iconst (v := 0) hx hb dX7_hasTwin_0 (by decide) ?_
  refine lv_istore_n (lv' := [(2, .int 0), (0, .ref (g 3)), (1, .int p0)]) hx hb dX7_hasTwin_1 rfl hl (by decide) rfl (fun ls hl => ?_)
  have lp929 : ∀ (n : Nat) (x2_lp929 : Int32) (H : Heap) (locs : List Loc) (ls : Array Slot), (0 ≤ x2_lp929.toInt) → (2147483648 - x2_lp929.toInt ≤ (n : Int)) → va_P (dC, dI) classes (wX g c v F rc) H → va_S (AX g s.heap.size) s.heap H locs → lv_has ls 3 [(2, .int x2_lp929), (0, .ref (g 3)), (1, .int p0)] → W p l e (headSpec (Cond.code yX7_hasTwin cX7_hasTwin 3 (some .boolean) :: wA) ({ frames := 1, cells := 0, slots := 0, locals := 40 })).room s m ([.ref (g 3), .int p0] : List Value).toArray below meth c0 H locs 0 0 (MQ below (va_Qi (fun (r : Int32) (u : Unit) => 0 ≤ r.toInt ∧ r.toInt ≤ 1) (fun (_ : Unit) => BX dC dI g c (v, F, rc)) (AX g s.heap.size)) ([.ref (g 3), .int p0] : List Value).toArray s 0 0 (AX g s.heap.size)) (F0 m 2 ls []) := by
    intro n
    induction n with
    | zero =>
      intro x2_lp929 H locs ls t930 hm hP hS hl
      exfalso
      have := i32_rng x2_lp929
      omega
    | succ n ih_lp929 =>
      intro x2_lp929 H locs ls t930 hm hP hS hl
      have rx2_lp929 := i32_rng x2_lp929
      refine lv_iload_n hx hb dX7_hasTwin_2 rfl (lv_at hl 0 rfl) ?_
      refine lv_aload_n hx hb dX7_hasTwin_3 rfl (lv_at hl 1 rfl) ?_
      refine va_get (D := (dC, dI)) (ci := 7) (v := .int (v 61)) (C := RX7) (T := TX7) (N := 7) hx hb hwd inA_X7 hown hK hP 3 rfl rfl 1 (by decide) (hwd _ wk_289) (fun _ h9 => h9) rfl dX7_hasTwin_4 ?_
      have t931 : 0 ≤ (v 61).toInt ∧ (v 61).toInt ≤ 100 := hI.1 61 _ _ rfl
      refine lv_icmp_ge (tgt := 64) hx hb dX7_hasTwin_7 (by decide) (fun c932 => ?_) (fun c932 => ?_)
      · skip
        have t933 := cv_le (a := (v 61).toInt) rfl (b := x2_lp929.toInt) rfl c932
        refine lv_iconst (v := 0) hx hb dX7_hasTwin_64 (by decide) ?_
        have hP9 : va_P (dC, dI) classes (wX g c v F rc) H := hP
        exact W.zret (v := 0) hx hb hr (rfl) (fun t ht hW => ⟨⟨0, (), rfl, by have : (0 : Int32).toInt = 0 := (by decide); omega, (by show va_P _ _ _ t.heap; rw [ht]; exact hP9)⟩, hS.F ht⟩) hS.2.2 dX7_hasTwin_65
      · skip
        have t934 := cv_nle (a := (v 61).toInt) rfl (b := x2_lp929.toInt) rfl c932
        refine lv_iload_n hx hb dX7_hasTwin_10 rfl (lv_at hl 0 rfl) ?_
        refine lv_iload_n hx hb dX7_hasTwin_11 rfl (lv_at hl 2 rfl) ?_
        refine lv_icmp_eq (tgt := 58) hx hb dX7_hasTwin_12 (by decide) (fun c935 => ?_) (fun c935 => ?_)
        · skip
          have t936 := cv_eq (a := x2_lp929.toInt) rfl (b := p0.toInt) rfl c935
          obtain ⟨z937, e938⟩ : ∃ y : Int32, y = x2_lp929 + 1 := ⟨_, rfl⟩
          try (have t939 := tadd e938 rfl (b := 1) (by decide) (by omega))
          refine lv_iinc (v := z937) (lv' := [(2, .int z937), (0, .ref (g 3)), (1, .int p0)]) hx hb dX7_hasTwin_58 hl (k := 0) rfl (by rw [e938]; rfl) (by decide) rfl (fun ls hl => ?_)
          refine lv_goto (tgt := 2) hx hb dX7_hasTwin_61 (by decide) ?_
          exact ih_lp929 z937  _ _ _ (by omega) (by omega) hP hS (lv_sub hl [0, 1, 2] rfl)
        · skip
          have t940 := cv_ne (a := x2_lp929.toInt) rfl (b := p0.toInt) rfl c935
          refine lv_aload_n hx hb dX7_hasTwin_15 rfl (lv_at hl 1 rfl) ?_
          refine va_get (D := (dC, dI)) (ci := 7) (v := .ref (g 26)) (C := RX7) (T := TX7) (N := 7) hx hb hwd inA_X7 hown hK hP 3 rfl rfl 4 (by decide) (hwd _ wk_97) (fun _ h9 => h9) rfl dX7_hasTwin_16 ?_
          refine lv_iload_n hx hb dX7_hasTwin_19 rfl (lv_at hl 0 rfl) ?_
          refine va_iald hx hb hK hP 26 14 rfl rfl (i := x2_lp929) (vin (a := x2_lp929.toInt) rfl (by omega)) dX7_hasTwin_20 ?_
          refine lv_topi (fun z941 e942 => ?_)
          refine lv_bipush (v := 12) hx hb dX7_hasTwin_21 (by decide) ?_
          refine lv_icmp_eq (tgt := 58) hx hb dX7_hasTwin_23 (by decide) (fun c943 => ?_) (fun c943 => ?_)
          · skip
            have t944 := cv_eq (a := z941.toInt) rfl (b := 12) (by decide) c943
            obtain ⟨z945, e946⟩ : ∃ y : Int32, y = x2_lp929 + 1 := ⟨_, rfl⟩
            try (have t947 := tadd e946 rfl (b := 1) (by decide) (by omega))
            refine lv_iinc (v := z945) (lv' := [(2, .int z945), (0, .ref (g 3)), (1, .int p0)]) hx hb dX7_hasTwin_58 hl (k := 0) rfl (by rw [e946]; rfl) (by decide) rfl (fun ls hl => ?_)
            refine lv_goto (tgt := 2) hx hb dX7_hasTwin_61 (by decide) ?_
            exact ih_lp929 z945  _ _ _ (by omega) (by omega) hP hS (lv_sub hl [0, 1, 2] rfl)
          · skip
            have t948 := cv_ne (a := z941.toInt) rfl (b := 12) (by decide) c943
            refine lv_aload_n hx hb dX7_hasTwin_26 rfl (lv_at hl 1 rfl) ?_
            refine va_get (D := (dC, dI)) (ci := 7) (v := .ref (g 24)) (C := RX7) (T := TX7) (N := 7) hx hb hwd inA_X7 hown hK hP 3 rfl rfl 2 (by decide) (hwd _ wk_95) (fun _ h9 => h9) rfl dX7_hasTwin_27 ?_
            refine lv_iload_n hx hb dX7_hasTwin_30 rfl (lv_at hl 0 rfl) ?_
            refine va_iald hx hb hK hP 24 12 rfl rfl (i := x2_lp929) (vin (a := x2_lp929.toInt) rfl (by omega)) dX7_hasTwin_31 ?_
            refine lv_topi (fun z949 e950 => ?_)
            have t951 : 0 ≤ z949.toInt ∧ z949.toInt ≤ 9 := by rw [e950]; exact hI.2 24 _ _ rfl _
            refine lv_aload_n hx hb dX7_hasTwin_32 rfl (lv_at hl 1 rfl) ?_
            refine va_get (D := (dC, dI)) (ci := 7) (v := .ref (g 24)) (C := RX7) (T := TX7) (N := 7) hx hb hwd inA_X7 hown hK hP 3 rfl rfl 2 (by decide) (hwd _ wk_95) (fun _ h9 => h9) rfl dX7_hasTwin_33 ?_
            refine lv_iload_n hx hb dX7_hasTwin_36 rfl (lv_at hl 2 rfl) ?_
            refine va_iald hx hb hK hP 24 12 rfl rfl (i := p0) (vin (a := p0.toInt) rfl (by omega)) dX7_hasTwin_37 ?_
            refine lv_topi (fun z952 e953 => ?_)
            have t954 : 0 ≤ z952.toInt ∧ z952.toInt ≤ 9 := by rw [e953]; exact hI.2 24 _ _ rfl _
            refine lv_icmp_ne (tgt := 58) hx hb dX7_hasTwin_38 (by decide) (fun c955 => ?_) (fun c955 => ?_)
            · skip
              have t956 := cv_ne (a := z949.toInt) rfl (b := z952.toInt) rfl c955
              obtain ⟨z957, e958⟩ : ∃ y : Int32, y = x2_lp929 + 1 := ⟨_, rfl⟩
              try (have t959 := tadd e958 rfl (b := 1) (by decide) (by omega))
              refine lv_iinc (v := z957) (lv' := [(2, .int z957), (0, .ref (g 3)), (1, .int p0)]) hx hb dX7_hasTwin_58 hl (k := 0) rfl (by rw [e958]; rfl) (by decide) rfl (fun ls hl => ?_)
              refine lv_goto (tgt := 2) hx hb dX7_hasTwin_61 (by decide) ?_
              exact ih_lp929 z957  _ _ _ (by omega) (by omega) hP hS (lv_sub hl [0, 1, 2] rfl)
            · skip
              have t960 := cv_eq (a := z949.toInt) rfl (b := z952.toInt) rfl c955
              refine lv_aload_n hx hb dX7_hasTwin_41 rfl (lv_at hl 1 rfl) ?_
              refine va_get (D := (dC, dI)) (ci := 7) (v := .ref (g 25)) (C := RX7) (T := TX7) (N := 7) hx hb hwd inA_X7 hown hK hP 3 rfl rfl 3 (by decide) (hwd _ wk_96) (fun _ h9 => h9) rfl dX7_hasTwin_42 ?_
              refine lv_iload_n hx hb dX7_hasTwin_45 rfl (lv_at hl 0 rfl) ?_
              refine va_iald hx hb hK hP 25 13 rfl rfl (i := x2_lp929) (vin (a := x2_lp929.toInt) rfl (by omega)) dX7_hasTwin_46 ?_
              refine lv_topi (fun z961 e962 => ?_)
              refine lv_aload_n hx hb dX7_hasTwin_47 rfl (lv_at hl 1 rfl) ?_
              refine va_get (D := (dC, dI)) (ci := 7) (v := .ref (g 25)) (C := RX7) (T := TX7) (N := 7) hx hb hwd inA_X7 hown hK hP 3 rfl rfl 3 (by decide) (hwd _ wk_96) (fun _ h9 => h9) rfl dX7_hasTwin_48 ?_
              refine lv_iload_n hx hb dX7_hasTwin_51 rfl (lv_at hl 2 rfl) ?_
              refine va_iald hx hb hK hP 25 13 rfl rfl (i := p0) (vin (a := p0.toInt) rfl (by omega)) dX7_hasTwin_52 ?_
              refine lv_topi (fun z963 e964 => ?_)
              refine lv_icmp_ne (tgt := 58) hx hb dX7_hasTwin_53 (by decide) (fun c965 => ?_) (fun c965 => ?_)
              · skip
                have t966 := cv_ne (a := z961.toInt) rfl (b := z963.toInt) rfl c965
                obtain ⟨z967, e968⟩ : ∃ y : Int32, y = x2_lp929 + 1 := ⟨_, rfl⟩
                try (have t969 := tadd e968 rfl (b := 1) (by decide) (by omega))
                refine lv_iinc (v := z967) (lv' := [(2, .int z967), (0, .ref (g 3)), (1, .int p0)]) hx hb dX7_hasTwin_58 hl (k := 0) rfl (by rw [e968]; rfl) (by decide) rfl (fun ls hl => ?_)
                refine lv_goto (tgt := 2) hx hb dX7_hasTwin_61 (by decide) ?_
                exact ih_lp929 z967  _ _ _ (by omega) (by omega) hP hS (lv_sub hl [0, 1, 2] rfl)
              · skip
                have t970 := cv_eq (a := z961.toInt) rfl (b := z963.toInt) rfl c965
                refine lv_iconst (v := 1) hx hb dX7_hasTwin_56 (by decide) ?_
                have hP9 : va_P (dC, dI) classes (wX g c v F rc) H := hP
                exact W.zret (v := 1) hx hb hr (rfl) (fun t ht hW => ⟨⟨1, (), rfl, by have : (1 : Int32).toInt = 1 := (by decide); omega, (by show va_P _ _ _ t.heap; rw [ht]; exact hP9)⟩, hS.F ht⟩) hS.2.2 dX7_hasTwin_57
  obtain ⟨n9, hn9⟩ : ∃ n : Nat, 2147483648 - 0 ≤ (n : Int) := ⟨((2147483648 - 0 : Int)).toNat, by omega⟩
  exact lp929 n9 0  H _ ls (by have : (0 : Int32).toInt = 0 := (by decide); omega) (by have : (0 : Int32).toInt = 0 := (by decide); omega) hP hS hl
set_option maxHeartbeats 8000000 in
set_option maxRecDepth 100000 in
theorem c_X7_whyCantBe (l : Launch) (dC : Nat → ClassId) (dI : Nat → Nat → Nat) (g : Nat → Nat) (c : Nat → ClassId) (adK adV : Nat → Nat) (v : Nat → Int32) (F : Nat → Nat → Int32) (rc sz : Nat) (p0 : Int32) (p1 : Int32) (hg : injX g) (hI : IX v F) (h0 : 0 ≤ p0.toInt ∧ p0.toInt ≤ 99) : Met l yX7_whyCantBe (Cond.code yX7_whyCantBe cX7_whyCantBe 3 (some .int) :: wA) ({ frames := 5, cells := 0, slots := 0, locals := 200 }) (va_Pc [.ref (g 3), .int p0, .int p1] (PX dC dI g c adK adV v F rc sz)) (va_Qi (fun (r : Int32) (u : Unit) => True) (fun (_ : Unit) => BX dC dI g c (v, F, rc)) (AX g sz)) 0 0 (AX g sz) := by
  refine Met.ofW (cc := cX7_whyCantBe) (maxL := 3) (ret := (some .int)) (by decide) rfl ?_
  intro p e s m args below meth c0 s₁ B hml hv
  obtain ⟨rfl, hsz, hP, hK, hE⟩ := hv
  have hx := B.exec
  have hb := B.bytes
  have hr := B.returns
  have hts := atoms_spec (ws := Cond.code yX7_whyCantBe cX7_whyCantBe 3 (some .int) :: wA) B.pre
  have hwd : ∀ w ∈ wA, w.before _ s = true := fun w h => hts w (List.mem_cons_of_mem _ h)
  have hown : s.vm.findClass RX7 = some m.cls := findClass_of_methodNamed B.named
  have hlocks := B.notSynchronized
  subst hsz
  have hl := lv_entry ([.ref (g 3), .int p0, .int p1]) (n := 3) (Nat.le_of_ble_eq_true rfl)
  rw [lg_entry_eq]
  generalize (lg_sl ([.ref (g 3), .int p0, .int p1]) ++ List.replicate (3 - (lg_sl ([.ref (g 3), .int p0, .int p1])).length) Slot.unset).toArray = ls at hl ⊢
  have hl : lv_has ls 3 [(0, .ref (g 3)), (1, .int p0), (2, .int p1)] := hl
  obtain ⟨H, eH⟩ : ∃ z, z = s.heap := ⟨_, rfl⟩
  have hP : va_P (dC, dI) classes (wX g c v F rc) H := by rw [eH]; exact hP
  have hS : va_S (AX g s.heap.size) s.heap H [] := by rw [eH]; exact va_S.rf
  refine my_heap eH ?_
  have rp0 := i32_rng p0
  have rp1 := i32_rng p1
  refine lv_aload_n hx hb dX7_whyCantBe_0 rfl (lv_at hl 0 rfl) ?_
  refine va_get (D := (dC, dI)) (ci := 7) (v := .ref (g 4)) (C := RX7) (T := TX7) (N := 7) hx hb hwd inA_X7 hown hK hP 3 rfl rfl 0 (by decide) (hwd _ wk_100) (fun _ h9 => h9) rfl dX7_whyCantBe_1 ?_
  refine lv_iload_n hx hb dX7_whyCantBe_4 rfl (lv_at hl 1 rfl) ?_
  refine lv_iload_n hx hb dX7_whyCantBe_5 rfl (lv_at hl 2 rfl) ?_
  refine va_calli (va_runV (As := [.int p0, .int p1]) (rest := []) ⟨hx, hb, hml, hown, hwd⟩ (c_X9_overlap l dC dI g c adK adV v F rc H.size p0 p1 hg hI (by omega)) (cwV 2 hwd (gV wk_681 wk_678 wk_679 wk_680 wk_22) rfl rfl rfl (by decide +kernel) ⟨Nat.le_of_ble_eq_true rfl, Nat.le_of_ble_eq_true rfl⟩) ⟨PX.blind, va_recv hK hP (ci := 9) (q0 := 4) rfl rfl, fun U hU hW => ⟨rfl, PX.at hK hE hP hS hU hW⟩⟩ rfl rfl hl.1 rfl (lv_room (Nat.le_of_ble_eq_true rfl)) dX7_whyCantBe_6 ⟨Nat.le_of_ble_eq_true rfl, Nat.le_of_ble_eq_true rfl⟩) hS (fun q _ h => (freeX hS) q h) (freeX hS) (fun r971 u t H1 locs ht hvm hw hB hz1 hk1 hS => ?_)
  unfold BX at hB
  rw [ht] at hB
  have hP : va_P (dC, dI) classes (wX g c v F rc) H1 := hB
  have hw : 0 ≤ r971.toInt ∧ r971.toInt ≤ 1 := hw
  generalize H1 = H at hP hS ⊢
  have hw_r971 := hw
  refine lv_if_eq (tgt := 14) hx hb dX7_whyCantBe_9 (by decide) (fun c972 => ?_) (fun c972 => ?_)
  · skip
    have t973 := cv_eq (a := r971.toInt) rfl (b := 0) (by decide) c972
    refine lv_aload_n hx hb dX7_whyCantBe_14 rfl (lv_at hl 0 rfl) ?_
    refine lv_iload_n hx hb dX7_whyCantBe_15 rfl (lv_at hl 1 rfl) ?_
    refine va_calli (va_runV (As := [.int p0]) (rest := []) ⟨hx, hb, hml, hown, hwd⟩ (c_X7_growsLess l dC dI g c adK adV v F rc H.size p0 hg hI (by omega)) (cwV 1 hwd (gV wk_689 wk_686 wk_687 wk_688 wk_26) rfl rfl rfl (by decide +kernel) ⟨Nat.le_of_ble_eq_true rfl, Nat.le_of_ble_eq_true rfl⟩) ⟨PX.blind, va_recv hK hP (ci := 7) (q0 := 3) rfl rfl, fun U hU hW => ⟨rfl, PX.at hK hE hP hS hU hW⟩⟩ rfl rfl hl.1 rfl (lv_room (Nat.le_of_ble_eq_true rfl)) dX7_whyCantBe_16 ⟨Nat.le_of_ble_eq_true rfl, Nat.le_of_ble_eq_true rfl⟩) hS (fun q _ h => (freeX hS) q h) (freeX hS) (fun r974 u t H1 locs ht hvm hw hB hz1 hk1 hS => ?_)
    unfold BX at hB
    rw [ht] at hB
    have hP : va_P (dC, dI) classes (wX g c v F rc) H1 := hB
    have hw : 0 ≤ r974.toInt ∧ r974.toInt ≤ 1 := hw
    generalize H1 = H at hP hS ⊢
    have hw_r974 := hw
    refine lv_if_eq (tgt := 24) hx hb dX7_whyCantBe_19 (by decide) (fun c975 => ?_) (fun c975 => ?_)
    · skip
      have t976 := cv_eq (a := r974.toInt) rfl (b := 0) (by decide) c975
      refine lv_aload_n hx hb dX7_whyCantBe_24 rfl (lv_at hl 0 rfl) ?_
      refine lv_iload_n hx hb dX7_whyCantBe_25 rfl (lv_at hl 1 rfl) ?_
      refine va_calli (va_runV (As := [.int p0]) (rest := []) ⟨hx, hb, hml, hown, hwd⟩ (c_X7_hasTwin l dC dI g c adK adV v F rc H.size p0 hg hI (by omega)) (cwV 1 hwd (gV wk_712 wk_709 wk_710 wk_711 wk_26) rfl rfl rfl (by decide +kernel) ⟨Nat.le_of_ble_eq_true rfl, Nat.le_of_ble_eq_true rfl⟩) ⟨PX.blind, va_recv hK hP (ci := 7) (q0 := 3) rfl rfl, fun U hU hW => ⟨rfl, PX.at hK hE hP hS hU hW⟩⟩ rfl rfl hl.1 rfl (lv_room (Nat.le_of_ble_eq_true rfl)) dX7_whyCantBe_26 ⟨Nat.le_of_ble_eq_true rfl, Nat.le_of_ble_eq_true rfl⟩) hS (fun q _ h => (freeX hS) q h) (freeX hS) (fun r977 u t H1 locs ht hvm hw hB hz1 hk1 hS => ?_)
      unfold BX at hB
      rw [ht] at hB
      have hP : va_P (dC, dI) classes (wX g c v F rc) H1 := hB
      have hw : 0 ≤ r977.toInt ∧ r977.toInt ≤ 1 := hw
      generalize H1 = H at hP hS ⊢
      have hw_r977 := hw
      refine lv_if_eq (tgt := 36) hx hb dX7_whyCantBe_29 (by decide) (fun c978 => ?_) (fun c978 => ?_)
      · skip
        have t979 := cv_eq (a := r977.toInt) rfl (b := 0) (by decide) c978
        refine lv_iconst (v := 0) hx hb dX7_whyCantBe_36 (by decide) ?_
        have hP9 : va_P (dC, dI) classes (wX g c v F rc) H := hP
        exact W.iret (v := 0) hx hb hr (fun t ht hW => ⟨⟨0, (), rfl, trivial, (by show va_P _ _ _ t.heap; rw [ht]; exact hP9)⟩, hS.F ht⟩) hS.2.2 dX7_whyCantBe_37
      · skip
        have t980 := cv_ne (a := r977.toInt) rfl (b := 0) (by decide) c978
        refine lv_iconst (v := 3) hx hb dX7_whyCantBe_32 (by decide) ?_
        refine lv_goto (tgt := 37) hx hb dX7_whyCantBe_33 (by decide) ?_
        have hP9 : va_P (dC, dI) classes (wX g c v F rc) H := hP
        exact W.iret (v := 3) hx hb hr (fun t ht hW => ⟨⟨3, (), rfl, trivial, (by show va_P _ _ _ t.heap; rw [ht]; exact hP9)⟩, hS.F ht⟩) hS.2.2 dX7_whyCantBe_37
    · skip
      have t981 := cv_ne (a := r974.toInt) rfl (b := 0) (by decide) c975
      refine lv_iconst (v := 2) hx hb dX7_whyCantBe_22 (by decide) ?_
      have hP9 : va_P (dC, dI) classes (wX g c v F rc) H := hP
      exact W.iret (v := 2) hx hb hr (fun t ht hW => ⟨⟨2, (), rfl, trivial, (by show va_P _ _ _ t.heap; rw [ht]; exact hP9)⟩, hS.F ht⟩) hS.2.2 dX7_whyCantBe_23
  · skip
    have t982 := cv_ne (a := r971.toInt) rfl (b := 0) (by decide) c972
    refine lv_iconst (v := 1) hx hb dX7_whyCantBe_12 (by decide) ?_
    have hP9 : va_P (dC, dI) classes (wX g c v F rc) H := hP
    exact W.iret (v := 1) hx hb hr (fun t ht hW => ⟨⟨1, (), rfl, trivial, (by show va_P _ _ _ t.heap; rw [ht]; exact hP9)⟩, hS.F ht⟩) hS.2.2 dX7_whyCantBe_13
