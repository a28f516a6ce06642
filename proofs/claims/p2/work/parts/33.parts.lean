set_option maxHeartbeats 8000000 in
set_option maxRecDepth 100000 in
theorem c_X7_add (l : Launch) (dC : Nat → ClassId) (dI : Nat → Nat → Nat) (g : Nat → Nat) (c : Nat → ClassId) (adK adV : Nat → Nat) (v : Nat → Int32) (F : Nat → Nat → Int32) (rc sz : Nat) (p0 : Int32) (p1 : Int32) (hg : injX g) (hI : IX v F) (h0 : 0 ≤ p0.toInt ∧ p0.toInt ≤ 9) (hq0 : (v 61).toInt ≤ 99) : Met l yX7_add (Cond.code yX7_add cX7_add 3 (some .int) :: wA) ({ frames := 1, cells := 0, slots := 0, locals := 40 }) (va_Pc [.ref (g 3), .int p0, .int p1] (PX dC dI g c adK adV v F rc sz)) (va_Qi (fun (r : Int32) (u : StX) => IX u.1 u.2.1 ∧ alX u.1 u.2.1 = alX v F ∧ u.2.2 = rc ∧ (∀ k, k ∉ ([61] : List Nat) → u.1 k = v k) ∧ 0 ≤ r.toInt ∧ r.toInt ≤ 99) (BX dC dI g c) (AX g sz)) 0 0 (AX g sz) := by
  refine Met.ofW (cc := cX7_add) (maxL := 3) (ret := (some .int)) (by decide) rfl ?_
  intro p e s m args below meth c0 s₁ B hml hv
  obtain ⟨rfl, hsz, hP, hK, hE⟩ := hv
  have hx := B.exec
  have hb := B.bytes
  have hr := B.returns
  have hts := atoms_spec (ws := Cond.code yX7_add cX7_add 3 (some .int) :: wA) B.pre
  have hwd : ∀ w ∈ wA, w.before _ s = true := fun w h => hts w (List.mem_cons_of_mem _ h)
  have hown : s.vm.findClass RX7 = some m.cls := findClass_of_methodNamed B.named
  have hlocks := B.notSynchronized
  subst hsz
  have hl := lv_entry ([.ref (g 3), .int p0, .int p1]) (n := 3) (Nat.le_of_ble_eq_true rfl)
  rw [lg_entry_eq]
  generalize (lg_sl ([.ref (g 3), .int p0, .int p1]) ++ List.replicate (3 - (lg_sl ([.ref (g 3), .int p0, .int p1])).length) Slot.unset).toArray = ls at hl ⊢
  have hl : lv_has ls 3 [(0, .ref (g 3)), (1, .int p0), (2, .int p1)] := hl
  obtain ⟨H, eH⟩ : ∃ z, z = s.heap := ⟨_, rfl⟩
  have hP : va_P (dC, dI) classes (wX g c v F rc) H := by rw [eH]; exact hP
  have hS : va_S (AX g s.heap.size) s.heap H [] := by rw [eH]; exact va_S.rf
  refine my_heap eH ?_
  have hal : alX v F = alX v F := rfl
  have rp0 := i32_rng p0
  have rp1 := i32_rng p1
  refine lv_aload_n hx hb dX7_add_0 rfl (lv_at hl 0 rfl) ?_
  refine va_get (D := (dC, dI)) (ci := 7) (v := .ref (g 24)) (C := RX7) (T := TX7) (N := 7) hx hb hwd inA_X7 hown hK hP 3 rfl rfl 2 (by decide) (hwd _ wk_95) (fun _ h9 => h9) rfl dX7_add_1 ?_
  refine lv_aload_n hx hb dX7_add_4 rfl (lv_at hl 0 rfl) ?_
  refine va_get (D := (dC, dI)) (ci := 7) (v := .int (v 61)) (C := RX7) (T := TX7) (N := 7) hx hb hwd inA_X7 hown hK hP 3 rfl rfl 1 (by decide) (hwd _ wk_289) (fun _ h9 => h9) rfl dX7_add_5 ?_
  have t637 : 0 ≤ (v 61).toInt ∧ (v 61).toInt ≤ 100 := hI.1 61 _ _ rfl
  refine lv_iload_n hx hb dX7_add_8 rfl (lv_at hl 1 rfl) ?_
  refine va_iast hx hb hK hP (DX hg) hS 24 12 rfl rfl (i := (v 61)) (x := p0) (vin (a := (v 61).toInt) rfl (by omega)) dX7_add_9 (fun H locs hP _ hS => ?_)
  have hP := va_P_eq (sX_24 g c _ _ _ _) hP
  have hI := IX.store hI 24 ((v 61)).toNatClampNeg p0 rfl (by omega)
  have hal := (alX_F _ _ 24 (upd (F 24) ((v 61)).toNatClampNeg p0) (by decide) (by decide)).trans hal
  refine lv_aload_n hx hb dX7_add_10 rfl (lv_at hl 0 rfl) ?_
  refine va_get (D := (dC, dI)) (ci := 7) (v := .ref (g 25)) (C := RX7) (T := TX7) (N := 7) hx hb hwd inA_X7 hown hK hP 3 rfl rfl 3 (by decide) (hwd _ wk_96) (fun _ h9 => h9) rfl dX7_add_11 ?_
  refine lv_aload_n hx hb dX7_add_14 rfl (lv_at hl 0 rfl) ?_
  refine va_get (D := (dC, dI)) (ci := 7) (v := .int (v 61)) (C := RX7) (T := TX7) (N := 7) hx hb hwd inA_X7 hown hK hP 3 rfl rfl 1 (by decide) (hwd _ wk_289) (fun _ h9 => h9) rfl dX7_add_15 ?_
  have t638 : 0 ≤ (v 61).toInt ∧ (v 61).toInt ≤ 100 := hI.1 61 _ _ rfl
  refine lv_iload_n hx hb dX7_add_18 rfl (lv_at hl 2 rfl) ?_
  refine va_iast hx hb hK hP (DX hg) hS 25 13 rfl rfl (i := (v 61)) (x := p1) (vin (a := (v 61).toInt) rfl (by omega)) dX7_add_19 (fun H locs hP _ hS => ?_)
  have hP := va_P_eq (sX_25 g c _ _ _ _) hP
  have hI := IX.store0 hI 25 ((v 61)).toNatClampNeg p1 rfl
  have hal := (alX_F _ _ 25 (upd ((va_up F 24 (upd (F 24) ((v 61)).toNatClampNeg p0)) 25) ((v 61)).toNatClampNeg p1) (by decide) (by decide)).trans hal
  refine lv_aload_n hx hb dX7_add_20 rfl (lv_at hl 0 rfl) ?_
  refine va_get (D := (dC, dI)) (ci := 7) (v := .ref (g 4)) (C := RX7) (T := TX7) (N := 7) hx hb hwd inA_X7 hown hK hP 3 rfl rfl 0 (by decide) (hwd _ wk_100) (fun _ h9 => h9) rfl dX7_add_21 ?_
  refine va_get (D := (dC, dI)) (ci := 9) (v := .ref (g 38)) (C := RX9) (T := TX9) (N := 11) hx hb hwd inA_X9 hown hK hP 4 rfl rfl 10 (by decide) (hwd _ wk_571) (fun _ h9 => h9) rfl dX7_add_24 ?_
  refine lv_aload_n hx hb dX7_add_27 rfl (lv_at hl 0 rfl) ?_
  refine va_get (D := (dC, dI)) (ci := 7) (v := .int (v 61)) (C := RX7) (T := TX7) (N := 7) hx hb hwd inA_X7 hown hK hP 3 rfl rfl 1 (by decide) (hwd _ wk_289) (fun _ h9 => h9) rfl dX7_add_28 ?_
  have t639 : 0 ≤ (v 61).toInt ∧ (v 61).toInt ≤ 100 := hI.1 61 _ _ rfl
  refine lv_iconst (v := (-1)) hx hb dX7_add_31 (by decide) ?_
  refine va_iast hx hb hK hP (DX hg) hS 38 26 rfl rfl (i := (v 61)) (x := (-1)) (vin (a := (v 61).toInt) rfl (by omega)) dX7_add_32 (fun H locs hP _ hS => ?_)
  have hP := va_P_eq (sX_38 g c _ _ _ _) hP
  have hI := IX.store hI 38 ((v 61)).toNatClampNeg (-1) rfl (by have : ((-1) : Int32).toInt = (-1) := (by decide); omega)
  have hal := (alX_F _ _ 38 (upd ((va_up (va_up F 24 (upd (F 24) ((v 61)).toNatClampNeg p0)) 25 (upd ((va_up F 24 (upd (F 24) ((v 61)).toNatClampNeg p0)) 25) ((v 61)).toNatClampNeg p1)) 38) ((v 61)).toNatClampNeg (-1)) (by decide) (by decide)).trans hal
  refine lv_aload_n hx hb dX7_add_33 rfl (lv_at hl 0 rfl) ?_
  refine lv_dup hx hb dX7_add_34 rfl ?_
  refine va_get (D := (dC, dI)) (ci := 7) (v := .int (v 61)) (C := RX7) (T := TX7) (N := 7) hx hb hwd inA_X7 hown hK hP 3 rfl rfl 1 (by decide) (hwd _ wk_289) (fun _ h9 => h9) rfl dX7_add_35 ?_
  have t640 : 0 ≤ (v 61).toInt ∧ (v 61).toInt ≤ 100 := hI.1 61 _ _ rfl
  refine lv_dup_x1 hx hb dX7_add_38 rfl rfl ?_
  refine lv_iconst (v := 1) hx hb dX7_add_39 (by decide) ?_
  refine lv_iadd hx hb dX7_add_40 ?_
  refine lv_topi (fun z641 e642 => ?_)
  try (have t643 := tadd e642 (a := (v 61).toInt) rfl (b := 1) (by decide) (by omega))
  refine va_put (D := (dC, dI)) (ci := 7) (v := .int z641) (ty := .int) (C := RX7) (T := TX7) (N := 7) (fs := fsX_3 g v rc) hx hb hwd inA_X7 tyX7 tyX7_ok nmX7 hown hK hP (DX hg) hS 3 rfl rfl 1 (by decide) (hwd _ wk_289) (fun _ h9 => h9) rfl (by decide +kernel) rfl rfl (Nat.le_of_ble_eq_true rfl) dX7_add_41 (fun H locs hP _ hS => ?_)
  have hP := va_P_eq (pX_61 g c _ _ _ _) hP
  have hI := IX.put hI 61 z641 rfl (by omega)
  have hal := (alX_v _ _ 61 z641 (by decide) (by decide) (by decide) (by decide)).trans hal
  have hP9 : va_P (dC, dI) classes (wX g c (va_up v 61 z641) (va_up (va_up (va_up F 24 (upd (F 24) ((v 61)).toNatClampNeg p0)) 25 (upd ((va_up F 24 (upd (F 24) ((v 61)).toNatClampNeg p0)) 25) ((v 61)).toNatClampNeg p1)) 38 (upd ((va_up (va_up F 24 (upd (F 24) ((v 61)).toNatClampNeg p0)) 25 (upd ((va_up F 24 (upd (F 24) ((v 61)).toNatClampNeg p0)) 25) ((v 61)).toNatClampNeg p1)) 38) ((v 61)).toNatClampNeg (-1))) rc) H := hP
  exact W.iret (v := v 61) hx hb hr (fun t ht hW => ⟨⟨(v 61), ((va_up v 61 z641), (va_up (va_up (va_up F 24 (upd (F 24) ((v 61)).toNatClampNeg p0)) 25 (upd ((va_up F 24 (upd (F 24) ((v 61)).toNatClampNeg p0)) 25) ((v 61)).toNatClampNeg p1)) 38 (upd ((va_up (va_up F 24 (upd (F 24) ((v 61)).toNatClampNeg p0)) 25 (upd ((va_up F 24 (upd (F 24) ((v 61)).toNatClampNeg p0)) 25) ((v 61)).toNatClampNeg p1)) 38) ((v 61)).toNatClampNeg (-1))), rc), rfl, ⟨hI, hal, rfl, (frU (by decide) (fun _ _ => rfl)), by omega⟩, (by show va_P _ _ _ t.heap; rw [ht]; exact hP9)⟩, hS.F ht⟩) hS.2.2 dX7_add_44
set_option maxHeartbeats 8000000 in
set_option maxRecDepth 100000 in
theorem c_X7_usedOf (l : Launch) (dC : Nat → ClassId) (dI : Nat → Nat → Nat) (g : Nat → Nat) (c : Nat → ClassId) (adK adV : Nat → Nat) (v : Nat → Int32) (F : Nat → Nat → Int32) (rc sz : Nat) (p0 : Int32) (p1 : Int32) (hg : injX g) (hI : IX v F) (h0 : 0 ≤ p0.toInt ∧ p0.toInt ≤ 99) (h1 : 0 ≤ p1.toInt ∧ p1.toInt ≤ 2) : Met l yX7_usedOf (Cond.code yX7_usedOf cX7_usedOf 3 (some .int) :: wA) ({ frames := 1, cells := 0, slots := 0, locals := 40 }) (va_Pc [.ref (g 3), .int p0, .int p1] (PX dC dI g c adK adV v F rc sz)) (va_Qi (fun (r : Int32) (u : Unit) => True) (fun (_ : Unit) => BX dC dI g c (v, F, rc)) (AX g sz)) 0 0 (AX g sz) := by
  refine Met.ofW (cc := cX7_usedOf) (maxL := 3) (ret := (some .int)) (by decide) rfl ?_
  intro p e s m args below meth c0 s₁ B hml hv
  obtain ⟨rfl, hsz, hP, hK, hE⟩ := hv
  have hx := B.exec
  have hb := B.bytes
  have hr := B.returns
  have hts := atoms_spec (ws := Cond.code yX7_usedOf cX7_usedOf 3 (some .int) :: wA) B.pre
  have hwd : ∀ w ∈ wA, w.before _ s = true := fun w h => hts w (List.mem_cons_of_mem _ h)
  have hown : s.vm.findClass RX7 = some m.cls := findClass_of_methodNamed B.named
  have hlocks := B.notSynchronized
  subst hsz
  have hl := lv_entry ([.ref (g 3), .int p0, .int p1]) (n := 3) (Nat.le_of_ble_eq_true rfl)
  rw [lg_entry_eq]
  generalize (lg_sl ([.ref (g 3), .int p0, .int p1]) ++ List.replicate (3 - (lg_sl ([.ref (g 3), .int p0, .int p1])).length) Slot.unset).toArray = ls at hl ⊢
  have hl : lv_has ls 3 [(0, .ref (g 3)), (1, .int p0), (2, .int p1)] := hl
  obtain ⟨H, eH⟩ : ∃ z, z = s.heap := ⟨_, rfl⟩
  have hP : va_P (dC, dI) classes (wX g c v F rc) H := by rw [eH]; exact hP
  have hS : va_S (AX g s.heap.size) s.heap H [] := by rw [eH]; exact va_S.rf
  refine my_heap eH ?_
  have rp0 := i32_rng p0
  have rp1 := i32_rng p1
  refine lv_aload_n hx hb dX7_usedOf_0 rfl (lv_at hl 0 rfl) ?_
  refine va_get (D := (dC, dI)) (ci := 7) (v := .ref (g 27)) (C := RX7) (T := TX7) (N := 7) hx hb hwd inA_X7 hown hK hP 3 rfl rfl 5 (by decide) (hwd _ wk_98) (fun _ h9 => h9) rfl dX7_usedOf_1 ?_
  refine lv_iload_n hx hb dX7_usedOf_4 rfl (lv_at hl 1 rfl) ?_
  refine lv_iconst (v := 3) hx hb dX7_usedOf_5 (by decide) ?_
  refine lv_imul hx hb dX7_usedOf_6 ?_
  refine lv_topi (fun z644 e645 => ?_)
  try (have t646 := tmul e645 (a := p0.toInt) rfl (b := 3) (by decide) (by omega))
  refine lv_iload_n hx hb dX7_usedOf_7 rfl (lv_at hl 2 rfl) ?_
  refine lv_iadd hx hb dX7_usedOf_8 ?_
  refine lv_topi (fun z647 e648 => ?_)
  try (have t649 := tadd e648 (a := z644.toInt) rfl (b := p1.toInt) rfl (by omega))
  refine va_iald hx hb hK hP 27 15 rfl rfl (i := z647) (vin (a := z647.toInt) rfl (by omega)) dX7_usedOf_9 ?_
  refine lv_topi (fun z650 e651 => ?_)
  have hP9 : va_P (dC, dI) classes (wX g c v F rc) H := hP
  exact W.iret (v := z650) hx hb hr (fun t ht hW => ⟨⟨z650, (), rfl, trivial, (by show va_P _ _ _ t.heap; rw [ht]; exact hP9)⟩, hS.F ht⟩) hS.2.2 dX7_usedOf_10
set_option maxHeartbeats 8000000 in
set_option maxRecDepth 100000 in
theorem c_X7_setUsed (l : Launch) (dC : Nat → ClassId) (dI : Nat → Nat → Nat) (g : Nat → Nat) (c : Nat → ClassId) (adK adV : Nat → Nat) (v : Nat → Int32) (F : Nat → Nat → Int32) (rc sz : Nat) (p0 : Int32) (p1 : Int32) (p2 : Int32) (p3 : Int32) (hg : injX g) (hI : IX v F) (h0 : 0 ≤ p0.toInt ∧ p0.toInt ≤ 99) : Met l yX7_setUsed (Cond.code yX7_setUsed cX7_setUsed 5 none :: wA) ({ frames := 1, cells := 0, slots := 0, locals := 40 }) (va_Pc [.ref (g 3), .int p0, .int p1, .int p2, .int p3] (PX dC dI g c adK adV v F rc sz)) (va_Qv (fun (u : StX) => IX u.1 u.2.1 ∧ alX u.1 u.2.1 = alX v F ∧ u.2.2 = rc ∧ (∀ k, k ∉ ([] : List Nat) → u.1 k = v k) ∧ True) (BX dC dI g c) (AX g sz)) 0 0 (AX g sz) := by
  refine Met.ofW (cc := cX7_setUsed) (maxL := 5) (ret := none) (by decide) rfl ?_
  intro p e s m args below meth c0 s₁ B hml hv
  obtain ⟨rfl, hsz, hP, hK, hE⟩ := hv
  have hx := B.exec
  have hb := B.bytes
  have hr := B.returns
  have hts := atoms_spec (ws := Cond.code yX7_setUsed cX7_setUsed 5 none :: wA) B.pre
  have hwd : ∀ w ∈ wA, w.before _ s = true := fun w h => hts w (List.mem_cons_of_mem _ h)
  have hown : s.vm.findClass RX7 = some m.cls := findClass_of_methodNamed B.named
  have hlocks := B.notSynchronized
  subst hsz
  have hl := lv_entry ([.ref (g 3), .int p0, .int p1, .int p2, .int p3]) (n := 5) (Nat.le_of_ble_eq_true rfl)
  rw [lg_entry_eq]
  generalize (lg_sl ([.ref (g 3), .int p0, .int p1, .int p2, .int p3]) ++ List.replicate (5 - (lg_sl ([.ref (g 3), .int p0, .int p1, .int p2, .int p3])).length) Slot.unset).toArray = ls at hl ⊢
  have hl : lv_has ls 5 [(0, .ref (g 3)), (1, .int p0), (2, .int p1), (3, .int p2), (4, .int p3)] := hl
  obtain ⟨H, eH⟩ : ∃ z, z = s.heap := ⟨_, rfl⟩
  have hP : va_P (dC, dI) classes (wX g c v F rc) H := by rw [eH]; exact hP
  have hS : va_S (AX g s.heap.size) s.heap H [] := by rw [eH]; exact va_S.rf
  refine my_heap eH ?_
  have hal : alX v F = alX v F := rfl
  have rp0 := i32_rng p0
  have rp1 := i32_rng p1
  have rp2 := i32_rng p2
  have rp3 := i32_rng p3
  refine lv_aload_n hx hb dX7_setUsed_0 rfl (lv_at hl 0 rfl) ?_
  refine va_get (D := (dC, dI)) (ci := 7) (v := .ref (g 27)) (C := RX7) (T := TX7) (N := 7) hx hb hwd inA_X7 hown hK hP 3 rfl rfl 5 (by decide) (hwd _ wk_98) (fun _ h9 => h9) rfl dX7_setUsed_1 ?_
  refine lv_iload_n hx hb dX7_setUsed_4 rfl (lv_at hl 1 rfl) ?_
  refine lv_iconst (v := 3) hx hb dX7_setUsed_5 (by decide) ?_
  refine lv_imul hx hb dX7_setUsed_6 ?_
  refine lv_topi (fun z652 e653 => ?_)
  try (have t654 := tmul e653 (a := p0.toInt) rfl (b := 3) (by decide) (by omega))
  refine lv_iconst (v := 0) hx hb dX7_setUsed_7 (by decide) ?_
  refine lv_iadd hx hb dX7_setUsed_8 ?_
  refine lv_topi (fun z655 e656 => ?_)
  try (have t657 := tadd e656 (a := z652.toInt) rfl (b := 0) (by decide) (by omega))
  refine lv_iload_n hx hb dX7_setUsed_9 rfl (lv_at hl 2 rfl) ?_
  refine va_iast hx hb hK hP (DX hg) hS 27 15 rfl rfl (i := z655) (x := p1) (vin (a := z655.toInt) rfl (by omega)) dX7_setUsed_10 (fun H locs hP _ hS => ?_)
  have hP := va_P_eq (sX_27 g c _ _ _ _) hP
  have hI := IX.store0 hI 27 (z655).toNatClampNeg p1 rfl
  have hal := (alX_F _ _ 27 (upd (F 27) (z655).toNatClampNeg p1) (by decide) (by decide)).trans hal
  refine lv_aload_n hx hb dX7_setUsed_11 rfl (lv_at hl 0 rfl) ?_
  refine va_get (D := (dC, dI)) (ci := 7) (v := .ref (g 27)) (C := RX7) (T := TX7) (N := 7) hx hb hwd inA_X7 hown hK hP 3 rfl rfl 5 (by decide) (hwd _ wk_98) (fun _ h9 => h9) rfl dX7_setUsed_12 ?_
  refine lv_iload_n hx hb dX7_setUsed_15 rfl (lv_at hl 1 rfl) ?_
  refine lv_iconst (v := 3) hx hb dX7_setUsed_16 (by decide) ?_
  refine lv_imul hx hb dX7_setUsed_17 ?_
  refine lv_topi (fun z658 e659 => ?_)
  try (have t660 := tmul e659 (a := p0.toInt) rfl (b := 3) (by decide) (by omega))
  refine lv_iconst (v := 1) hx hb dX7_setUsed_18 (by decide) ?_
  refine lv_iadd hx hb dX7_setUsed_19 ?_
  refine lv_topi (fun z661 e662 => ?_)
  try (have t663 := tadd e662 (a := z658.toInt) rfl (b := 1) (by decide) (by omega))
  refine lv_iload_n hx hb dX7_setUsed_20 rfl (lv_at hl 3 rfl) ?_
  refine va_iast hx hb hK hP (DX hg) hS 27 15 rfl rfl (i := z661) (x := p2) (vin (a := z661.toInt) rfl (by omega)) dX7_setUsed_21 (fun H locs hP _ hS => ?_)
  have hP := va_P_eq (sX_27 g c _ _ _ _) hP
  have hI := IX.store0 hI 27 (z661).toNatClampNeg p2 rfl
  have hal := (alX_F _ _ 27 (upd ((va_up F 27 (upd (F 27) (z655).toNatClampNeg p1)) 27) (z661).toNatClampNeg p2) (by decide) (by decide)).trans hal
  refine lv_aload_n hx hb dX7_setUsed_22 rfl (lv_at hl 0 rfl) ?_
  refine va_get (D := (dC, dI)) (ci := 7) (v := .ref (g 27)) (C := RX7) (T := TX7) (N := 7) hx hb hwd inA_X7 hown hK hP 3 rfl rfl 5 (by decide) (hwd _ wk_98) (fun _ h9 => h9) rfl dX7_setUsed_23 ?_
  refine lv_iload_n hx hb dX7_setUsed_26 rfl (lv_at hl 1 rfl) ?_
  refine lv_iconst (v := 3) hx hb dX7_setUsed_27 (by decide) ?_
  refine lv_imul hx hb dX7_setUsed_28 ?_
  refine lv_topi (fun z664 e665 => ?_)
  try (have t666 := tmul e665 (a := p0.toInt) rfl (b := 3) (by decide) (by omega))
  refine lv_iconst (v := 2) hx hb dX7_setUsed_29 (by decide) ?_
  refine lv_iadd hx hb dX7_setUsed_30 ?_
  refine lv_topi (fun z667 e668 => ?_)
  try (have t669 := tadd e668 (a := z664.toInt) rfl (b := 2) (by decide) (by omega))
  refine lv_iload hx hb dX7_setUsed_31 (lv_at hl 4 rfl) ?_
  refine va_iast hx hb hK hP (DX hg) hS 27 15 rfl rfl (i := z667) (x := p3) (vin (a := z667.toInt) rfl (by omega)) dX7_setUsed_33 (fun H locs hP _ hS => ?_)
  have hP := va_P_eq (sX_27 g c _ _ _ _) hP
  have hI := IX.store0 hI 27 (z667).toNatClampNeg p3 rfl
  have hal := (alX_F _ _ 27 (upd ((va_up (va_up F 27 (upd (F 27) (z655).toNatClampNeg p1)) 27 (upd ((va_up F 27 (upd (F 27) (z655).toNatClampNeg p1)) 27) (z661).toNatClampNeg p2)) 27) (z667).toNatClampNeg p3) (by decide) (by decide)).trans hal
  have hP9 : va_P (dC, dI) classes (wX g c v (va_up (va_up (va_up F 27 (upd (F 27) (z655).toNatClampNeg p1)) 27 (upd ((va_up F 27 (upd (F 27) (z655).toNatClampNeg p1)) 27) (z661).toNatClampNeg p2)) 27 (upd ((va_up (va_up F 27 (upd (F 27) (z655).toNatClampNeg p1)) 27 (upd ((va_up F 27 (upd (F 27) (z655).toNatClampNeg p1)) 27) (z661).toNatClampNeg p2)) 27) (z667).toNatClampNeg p3)) rc) H := hP
  exact W.vret hx hb hr (fun t ht hW => ⟨⟨(v, (va_up (va_up (va_up F 27 (upd (F 27) (z655).toNatClampNeg p1)) 27 (upd ((va_up F 27 (upd (F 27) (z655).toNatClampNeg p1)) 27) (z661).toNatClampNeg p2)) 27 (upd ((va_up (va_up F 27 (upd (F 27) (z655).toNatClampNeg p1)) 27 (upd ((va_up F 27 (upd (F 27) (z655).toNatClampNeg p1)) 27) (z661).toNatClampNeg p2)) 27) (z667).toNatClampNeg p3)), rc), rfl, ⟨hI, hal, rfl, (fun _ _ => rfl), trivial⟩, (by show va_P _ _ _ t.heap; rw [ht]; exact hP9)⟩, hS.F ht⟩) hS.2.2 dX7_setUsed_34
set_option maxHeartbeats 8000000 in
set_option maxRecDepth 100000 in
theorem c_X7_begin (l : Launch) (dC : Nat → ClassId) (dI : Nat → Nat → Nat) (g : Nat → Nat) (c : Nat → ClassId) (adK adV : Nat → Nat) (v : Nat → Int32) (F : Nat → Nat → Int32) (rc sz : Nat) (p0 : Int32) (p1 : Int32) (p2 : Int32) (hg : injX g) (hI : IX v F) (h0 : 0 ≤ p0.toInt ∧ p0.toInt ≤ 99) : Met l yX7_begin (Cond.code yX7_begin cX7_begin 4 none :: wA) ({ frames := 3, cells := 0, slots := 0, locals := 120 }) (va_Pc [.ref (g 3), .int p0, .int p1, .int p2] (PX dC dI g c adK adV v F rc sz)) (va_Qv (fun (u : StX) => IX u.1 u.2.1 ∧ alX u.1 u.2.1 = alX v F ∧ u.2.2 = rc ∧ (∀ k, k ∉ ([80] : List Nat) → u.1 k = v k) ∧ True) (BX dC dI g c) (AX g sz)) 0 0 (AX g sz) := by
  refine Met.ofW (cc := cX7_begin) (maxL := 4) (ret := none) (by decide) rfl ?_
  intro p e s m args below meth c0 s₁ B hml hv
  obtain ⟨rfl, hsz, hP, hK, hE⟩ := hv
  have hx := B.exec
  have hb := B.bytes
  have hr := B.returns
  have hts := atoms_spec (ws := Cond.code yX7_begin cX7_begin 4 none :: wA) B.pre
  have hwd : ∀ w ∈ wA, w.before _ s = true := fun w h => hts w (List.mem_cons_of_mem _ h)
  have hown : s.vm.findClass RX7 = some m.cls := findClass_of_methodNamed B.named
  have hlocks := B.notSynchronized
  subst hsz
  have hl := lv_entry ([.ref (g 3), .int p0, .int p1, .int p2]) (n := 4) (Nat.le_of_ble_eq_true rfl)
  rw [lg_entry_eq]
  generalize (lg_sl ([.ref (g 3), .int p0, .int p1, .int p2]) ++ List.replicate (4 - (lg_sl ([.ref (g 3), .int p0, .int p1, .int p2])).length) Slot.unset).toArray = ls at hl ⊢
  have hl : lv_has ls 4 [(0, .ref (g 3)), (1, .int p0), (2, .int p1), (3, .int p2)] := hl
  obtain ⟨H, eH⟩ : ∃ z, z = s.heap := ⟨_, rfl⟩
  have hP : va_P (dC, dI) classes (wX g c v F rc) H := by rw [eH]; exact hP
  have hS : va_S (AX g s.heap.size) s.heap H [] := by rw [eH]; exact va_S.rf
  refine my_heap eH ?_
  have hal : alX v F = alX v F := rfl
  have rp0 := i32_rng p0
  have rp1 := i32_rng p1
  have rp2 := i32_rng p2
  refine lv_aload_n hx hb dX7_begin_0 rfl (lv_at hl 0 rfl) ?_
  refine va_get (D := (dC, dI)) (ci := 7) (v := .ref (g 26)) (C := RX7) (T := TX7) (N := 7) hx hb hwd inA_X7 hown hK hP 3 rfl rfl 4 (by decide) (hwd _ wk_97) (fun _ h9 => h9) rfl dX7_begin_1 ?_
  refine lv_iload_n hx hb dX7_begin_4 rfl (lv_at hl 1 rfl) ?_
  refine lv_iload_n hx hb dX7_begin_5 rfl (lv_at hl 2 rfl) ?_
  refine va_iast hx hb hK hP (DX hg) hS 26 14 rfl rfl (i := p0) (x := p1) (vin (a := p0.toInt) rfl (by omega)) dX7_begin_6 (fun H locs hP _ hS => ?_)
  have hP := va_P_eq (sX_26 g c _ _ _ _) hP
  have hI := IX.store0 hI 26 (p0).toNatClampNeg p1 rfl
  have hal := (alX_F _ _ 26 (upd (F 26) (p0).toNatClampNeg p1) (by decide) (by decide)).trans hal
  refine lv_aload_n hx hb dX7_begin_7 rfl (lv_at hl 0 rfl) ?_
  refine va_get (D := (dC, dI)) (ci := 7) (v := .ref (g 28)) (C := RX7) (T := TX7) (N := 7) hx hb hwd inA_X7 hown hK hP 3 rfl rfl 6 (by decide) (hwd _ wk_99) (fun _ h9 => h9) rfl dX7_begin_8 ?_
  refine lv_iload_n hx hb dX7_begin_11 rfl (lv_at hl 1 rfl) ?_
  refine lv_aload_n hx hb dX7_begin_12 rfl (lv_at hl 0 rfl) ?_
  refine va_get (D := (dC, dI)) (ci := 7) (v := .ref (g 4)) (C := RX7) (T := TX7) (N := 7) hx hb hwd inA_X7 hown hK hP 3 rfl rfl 0 (by decide) (hwd _ wk_100) (fun _ h9 => h9) rfl dX7_begin_13 ?_
  refine lv_iload_n hx hb dX7_begin_16 rfl (lv_at hl 1 rfl) ?_
  refine lv_iload_n hx hb dX7_begin_17 rfl (lv_at hl 2 rfl) ?_
  refine lv_iload_n hx hb dX7_begin_18 rfl (lv_at hl 3 rfl) ?_
  refine lv_aload_n hx hb dX7_begin_19 rfl (lv_at hl 0 rfl) ?_
  refine lv_iload_n hx hb dX7_begin_20 rfl (lv_at hl 1 rfl) ?_
  refine lv_iconst (v := 0) hx hb dX7_begin_21 (by decide) ?_
  refine va_calli (va_runV (As := [.int p0, .int 0]) (rest := [.int p2, .int p1, .int p0, .ref (g 4), .int p0, .ref (g 28)]) ⟨hx, hb, hml, hown, hwd⟩ (c_X7_usedOf l dC dI g c adK adV v (va_up F 26 (upd (F 26) (p0).toNatClampNeg p1)) rc H.size p0 0 hg hI (by omega) (by have : (0 : Int32).toInt = 0 := (by decide); omega)) (cwV 2 hwd (gV wk_369 wk_448 wk_367 wk_368 wk_26) rfl rfl rfl (by decide +kernel) ⟨Nat.le_of_ble_eq_true rfl, Nat.le_of_ble_eq_true rfl⟩) ⟨PX.blind, va_recv hK hP (ci := 7) (q0 := 3) rfl rfl, fun U hU hW => ⟨rfl, PX.at hK hE hP hS hU hW⟩⟩ rfl rfl hl.1 rfl (lv_room (Nat.le_of_ble_eq_true rfl)) dX7_begin_22 ⟨Nat.le_of_ble_eq_true rfl, Nat.le_of_ble_eq_true rfl⟩) hS (fun q _ h => (freeX hS) q h) (freeX hS) (fun r670 u t H1 locs ht hvm hw hB hz1 hk1 hS => ?_)
  unfold BX at hB
  rw [ht] at hB
  have hP : va_P (dC, dI) classes (wX g c v (va_up F 26 (upd (F 26) (p0).toNatClampNeg p1)) rc) H1 := hB
  generalize H1 = H at hP hS ⊢
  have rr_r670 := i32_rng r670
  refine lv_aload_n hx hb dX7_begin_25 rfl (lv_at hl 0 rfl) ?_
  refine lv_iload_n hx hb dX7_begin_26 rfl (lv_at hl 1 rfl) ?_
  refine lv_iconst (v := 1) hx hb dX7_begin_27 (by decide) ?_
  refine va_calli (va_runV (As := [.int p0, .int 1]) (rest := [.int r670, .int p2, .int p1, .int p0, .ref (g 4), .int p0, .ref (g 28)]) ⟨hx, hb, hml, hown, hwd⟩ (c_X7_usedOf l dC dI g c adK adV v (va_up F 26 (upd (F 26) (p0).toNatClampNeg p1)) rc H.size p0 1 hg hI (by omega) (by have : (1 : Int32).toInt = 1 := (by decide); omega)) (cwV 2 hwd (gV wk_369 wk_448 wk_367 wk_368 wk_26) rfl rfl rfl (by decide +kernel) ⟨Nat.le_of_ble_eq_true rfl, Nat.le_of_ble_eq_true rfl⟩) ⟨PX.blind, va_recv hK hP (ci := 7) (q0 := 3) rfl rfl, fun U hU hW => ⟨rfl, PX.at hK hE hP hS hU hW⟩⟩ rfl rfl hl.1 rfl (lv_room (Nat.le_of_ble_eq_true rfl)) dX7_begin_28 ⟨Nat.le_of_ble_eq_true rfl, Nat.le_of_ble_eq_true rfl⟩) hS (fun q _ h => (freeX hS) q h) (freeX hS) (fun r671 u t H1 locs ht hvm hw hB hz1 hk1 hS => ?_)
  unfold BX at hB
  rw [ht] at hB
  have hP : va_P (dC, dI) classes (wX g c v (va_up F 26 (upd (F 26) (p0).toNatClampNeg p1)) rc) H1 := hB
  generalize H1 = H at hP hS ⊢
  have rr_r671 := i32_rng r671
  refine va_calli (va_runV (As := [.int p0, .int p1, .int p2, .int r670, .int r671]) (rest := [.int p0, .ref (g 28)]) ⟨hx, hb, hml, hown, hwd⟩ (c_X9_add l dC dI g c adK adV v (va_up F 26 (upd (F 26) (p0).toNatClampNeg p1)) rc H.size p0 p1 p2 r670 r671 hg hI (by omega)) (cwV 5 hwd (gV wk_583 wk_580 wk_581 wk_582 wk_22) rfl rfl rfl (by decide +kernel) ⟨Nat.le_of_ble_eq_true rfl, Nat.le_of_ble_eq_true rfl⟩) ⟨PX.blind, va_recv hK hP (ci := 9) (q0 := 4) rfl rfl, fun U hU hW => ⟨rfl, PX.at hK hE hP hS hU hW⟩⟩ rfl rfl hl.1 rfl (lv_room (Nat.le_of_ble_eq_true rfl)) dX7_begin_31 ⟨Nat.le_of_ble_eq_true rfl, Nat.le_of_ble_eq_true rfl⟩) hS (fun q _ h => (freeX hS) q h) (freeX hS) (fun r672 u t H1 locs ht hvm hw hB hz1 hk1 hS => ?_)
  unfold BX at hB
  rw [ht] at hB
  obtain ⟨v673, F674, rc9⟩ := u
  obtain ⟨hI, hal9, hrc, hf675, hw⟩ := hw
  dsimp only at hI hal9 hrc hB hf675 hw
  rw [hrc] at hB
  have hal : alX v673 F674 = alX v F := hal9.trans hal
  have hP : va_P (dC, dI) classes (wX g c v673 F674 rc) H1 := hB
  have hw : -1 ≤ r672.toInt ∧ r672.toInt ≤ 499 := hw
  generalize H1 = H at hP hS ⊢
  have hw_r672 := hw
  refine va_iast hx hb hK hP (DX hg) hS 28 16 rfl rfl (i := p0) (x := r672) (vin (a := p0.toInt) rfl (by omega)) dX7_begin_34 (fun H locs hP _ hS => ?_)
  have hP := va_P_eq (sX_28 g c _ _ _ _) hP
  have hI := IX.store0 hI 28 (p0).toNatClampNeg r672 rfl
  have hal := (alX_F _ _ 28 (upd (F674 28) (p0).toNatClampNeg r672) (by decide) (by decide)).trans hal
  have hP9 : va_P (dC, dI) classes (wX g c v673 (va_up F674 28 (upd (F674 28) (p0).toNatClampNeg r672)) rc) H := hP
  exact W.vret hx hb hr (fun t ht hW => ⟨⟨(v673, (va_up F674 28 (upd (F674 28) (p0).toNatClampNeg r672)), rc), rfl, ⟨hI, hal, rfl, (frC (by decide) hf675 (fun _ _ => rfl)), trivial⟩, (by show va_P _ _ _ t.heap; rw [ht]; exact hP9)⟩, hS.F ht⟩) hS.2.2 dX7_begin_35
set_option maxHeartbeats 8000000 in
set_option maxRecDepth 100000 in
theorem c_X7_go (l : Launch) (dC : Nat → ClassId) (dI : Nat → Nat → Nat) (g : Nat → Nat) (c : Nat → ClassId) (adK adV : Nat → Nat) (v : Nat → Int32) (F : Nat → Nat → Int32) (rc sz : Nat) (p0 : Int32) (p1 : Int32) (p2 : Int32) (hg : injX g) (hI : IX v F) (h0 : 0 ≤ p0.toInt ∧ p0.toInt ≤ 99) : Met l yX7_go (Cond.code yX7_go cX7_go 4 none :: wA) ({ frames := 4, cells := 0, slots := 0, locals := 160 }) (va_Pc [.ref (g 3), .int p0, .int p1, .int p2] (PX dC dI g c adK adV v F rc sz)) (va_Qv (fun (u : StX) => IX u.1 u.2.1 ∧ alX u.1 u.2.1 = alX v F ∧ u.2.2 = rc ∧ (∀ k, k ∉ ([80] : List Nat) → u.1 k = v k) ∧ True) (BX dC dI g c) (AX g sz)) 0 0 (AX g sz) := by
  refine Met.ofW (cc := cX7_go) (maxL := 4) (ret := none) (by decide) rfl ?_
  intro p e s m args below meth c0 s₁ B hml hv
  obtain ⟨rfl, hsz, hP, hK, hE⟩ := hv
  have hx := B.exec
  have hb := B.bytes
  have hr := B.returns
  have hts := atoms_spec (ws := Cond.code yX7_go cX7_go 4 none :: wA) B.pre
  have hwd : ∀ w ∈ wA, w.before _ s = true := fun w h => hts w (List.mem_cons_of_mem _ h)
  have hown : s.vm.findClass RX7 = some m.cls := findClass_of_methodNamed B.named
  have hlocks := B.notSynchronized
  subst hsz
  have hl := lv_entry ([.ref (g 3), .int p0, .int p1, .int p2]) (n := 4) (Nat.le_of_ble_eq_true rfl)
  rw [lg_entry_eq]
  generalize (lg_sl ([.ref (g 3), .int p0, .int p1, .int p2]) ++ List.replicate (4 - (lg_sl ([.ref (g 3), .int p0, .int p1, .int p2])).length) Slot.unset).toArray = ls at hl ⊢
  have hl : lv_has ls 4 [(0, .ref (g 3)), (1, .int p0), (2, .int p1), (3, .int p2)] := hl
  obtain ⟨H, eH⟩ : ∃ z, z = s.heap := ⟨_, rfl⟩
  have hP : va_P (dC, dI) classes (wX g c v F rc) H := by rw [eH]; exact hP
  have hS : va_S (AX g s.heap.size) s.heap H [] := by rw [eH]; exact va_S.rf
  refine my_heap eH ?_
  have hal : alX v F = alX v F := rfl
  have rp0 := i32_rng p0
  have rp1 := i32_rng p1
  have rp2 := i32_rng p2
  refine lv_aload_n hx hb dX7_go_0 rfl (lv_at hl 0 rfl) ?_
  refine va_get (D := (dC, dI)) (ci := 7) (v := .ref (g 4)) (C := RX7) (T := TX7) (N := 7) hx hb hwd inA_X7 hown hK hP 3 rfl rfl 0 (by decide) (hwd _ wk_100) (fun _ h9 => h9) rfl dX7_go_1 ?_
  refine lv_aload_n hx hb dX7_go_4 rfl (lv_at hl 0 rfl) ?_
  refine va_get (D := (dC, dI)) (ci := 7) (v := .ref (g 28)) (C := RX7) (T := TX7) (N := 7) hx hb hwd inA_X7 hown hK hP 3 rfl rfl 6 (by decide) (hwd _ wk_99) (fun _ h9 => h9) rfl dX7_go_5 ?_
  refine lv_iload_n hx hb dX7_go_8 rfl (lv_at hl 1 rfl) ?_
  refine va_iald hx hb hK hP 28 16 rfl rfl (i := p0) (vin (a := p0.toInt) rfl (by omega)) dX7_go_9 ?_
  refine lv_topi (fun z676 e677 => ?_)
  refine lv_iload_n hx hb dX7_go_10 rfl (lv_at hl 3 rfl) ?_
  refine lv_aload_n hx hb dX7_go_11 rfl (lv_at hl 0 rfl) ?_
  refine lv_iload_n hx hb dX7_go_12 rfl (lv_at hl 1 rfl) ?_
  refine lv_iconst (v := 0) hx hb dX7_go_13 (by decide) ?_
  refine va_calli (va_runV (As := [.int p0, .int 0]) (rest := [.int p2, .int z676, .ref (g 4)]) ⟨hx, hb, hml, hown, hwd⟩ (c_X7_usedOf l dC dI g c adK adV v F rc H.size p0 0 hg hI (by omega) (by have : (0 : Int32).toInt = 0 := (by decide); omega)) (cwV 2 hwd (gV wk_369 wk_448 wk_367 wk_368 wk_26) rfl rfl rfl (by decide +kernel) ⟨Nat.le_of_ble_eq_true rfl, Nat.le_of_ble_eq_true rfl⟩) ⟨PX.blind, va_recv hK hP (ci := 7) (q0 := 3) rfl rfl, fun U hU hW => ⟨rfl, PX.at hK hE hP hS hU hW⟩⟩ rfl rfl hl.1 rfl (lv_room (Nat.le_of_ble_eq_true rfl)) dX7_go_14 ⟨Nat.le_of_ble_eq_true rfl, Nat.le_of_ble_eq_true rfl⟩) hS (fun q _ h => (freeX hS) q h) (freeX hS) (fun r678 u t H1 locs ht hvm hw hB hz1 hk1 hS => ?_)
  unfold BX at hB
  rw [ht] at hB
  have hP : va_P (dC, dI) classes (wX g c v F rc) H1 := hB
  generalize H1 = H at hP hS ⊢
  have rr_r678 := i32_rng r678
  refine lv_aload_n hx hb dX7_go_17 rfl (lv_at hl 0 rfl) ?_
  refine lv_iload_n hx hb dX7_go_18 rfl (lv_at hl 1 rfl) ?_
  refine lv_iconst (v := 1) hx hb dX7_go_19 (by decide) ?_
  refine va_calli (va_runV (As := [.int p0, .int 1]) (rest := [.int r678, .int p2, .int z676, .ref (g 4)]) ⟨hx, hb, hml, hown, hwd⟩ (c_X7_usedOf l dC dI g c adK adV v F rc H.size p0 1 hg hI (by omega) (by have : (1 : Int32).toInt = 1 := (by decide); omega)) (cwV 2 hwd (gV wk_369 wk_448 wk_367 wk_368 wk_26) rfl rfl rfl (by decide +kernel) ⟨Nat.le_of_ble_eq_true rfl, Nat.le_of_ble_eq_true rfl⟩) ⟨PX.blind, va_recv hK hP (ci := 7) (q0 := 3) rfl rfl, fun U hU hW => ⟨rfl, PX.at hK hE hP hS hU hW⟩⟩ rfl rfl hl.1 rfl (lv_room (Nat.le_of_ble_eq_true rfl)) dX7_go_20 ⟨Nat.le_of_ble_eq_true rfl, Nat.le_of_ble_eq_true rfl⟩) hS (fun q _ h => (freeX hS) q h) (freeX hS) (fun r679 u t H1 locs ht hvm hw hB hz1 hk1 hS => ?_)
  unfold BX at hB
  rw [ht] at hB
  have hP : va_P (dC, dI) classes (wX g c v F rc) H1 := hB
  generalize H1 = H at hP hS ⊢
  have rr_r679 := i32_rng r679
  refine va_callv (va_runV (As := [.int z676, .int p2, .int r678, .int r679]) (rest := []) ⟨hx, hb, hml, hown, hwd⟩ (c_X9_end l dC dI g c adK adV v F rc H.size z676 p2 r678 r679 hg hI ) (cwV 4 hwd (gV wk_622 wk_619 wk_620 wk_621 wk_22) rfl rfl rfl (by decide +kernel) ⟨Nat.le_of_ble_eq_true rfl, Nat.le_of_ble_eq_true rfl⟩) ⟨PX.blind, va_recv hK hP (ci := 9) (q0 := 4) rfl rfl, fun U hU hW => ⟨rfl, PX.at hK hE hP hS hU hW⟩⟩ rfl rfl hl.1 rfl (lv_room (Nat.le_of_ble_eq_true rfl)) dX7_go_23 ⟨Nat.le_of_ble_eq_true rfl, Nat.le_of_ble_eq_true rfl⟩) hS (fun q _ h => (freeX hS) q h) (freeX hS) (fun u t H1 locs ht hvm hw hB hz1 hk1 hS => ?_)
  unfold BX at hB
  rw [ht] at hB
  obtain ⟨v681, F682, rc9⟩ := u
  obtain ⟨hI, hal9, hrc, hf683, hw⟩ := hw
  dsimp only at hI hal9 hrc hB hf683 hw
  rw [hrc] at hB
  have hal : alX v681 F682 = alX v F := hal9.trans hal
  have hP : va_P (dC, dI) classes (wX g c v681 F682 rc) H1 := hB
  generalize H1 = H at hP hS ⊢
  refine lv_aload_n hx hb dX7_go_26 rfl (lv_at hl 0 rfl) ?_
  refine lv_iload_n hx hb dX7_go_27 rfl (lv_at hl 1 rfl) ?_
  refine lv_iload_n hx hb dX7_go_28 rfl (lv_at hl 2 rfl) ?_
  refine lv_iload_n hx hb dX7_go_29 rfl (lv_at hl 3 rfl) ?_
  refine va_callv (va_runV (As := [.int p0, .int p1, .int p2]) (rest := []) ⟨hx, hb, hml, hown, hwd⟩ (c_X7_begin l dC dI g c adK adV v681 F682 rc H.size p0 p1 p2 hg hI (by omega)) (cwV 3 hwd (gV wk_579 wk_623 wk_577 wk_578 wk_26) rfl rfl rfl (by decide +kernel) ⟨Nat.le_of_ble_eq_true rfl, Nat.le_of_ble_eq_true rfl⟩) ⟨PX.blind, va_recv hK hP (ci := 7) (q0 := 3) rfl rfl, fun U hU hW => ⟨rfl, PX.at hK hE hP hS hU hW⟩⟩ rfl rfl hl.1 rfl (lv_room (Nat.le_of_ble_eq_true rfl)) dX7_go_30 ⟨Nat.le_of_ble_eq_true rfl, Nat.le_of_ble_eq_true rfl⟩) hS (fun q _ h => (freeX hS) q h) (freeX hS) (fun u t H1 locs ht hvm hw hB hz1 hk1 hS => ?_)
  unfold BX at hB
  rw [ht] at hB
  obtain ⟨v685, F686, rc9⟩ := u
  obtain ⟨hI, hal9, hrc, hf687, hw⟩ := hw
  dsimp only at hI hal9 hrc hB hf687 hw
  rw [hrc] at hB
  have hal : alX v685 F686 = alX v F := hal9.trans hal
  have hP : va_P (dC, dI) classes (wX g c v685 F686 rc) H1 := hB
  generalize H1 = H at hP hS ⊢
  have hP9 : va_P (dC, dI) classes (wX g c v685 F686 rc) H := hP
  exact W.vret hx hb hr (fun t ht hW => ⟨⟨(v685, F686, rc), rfl, ⟨hI, hal, rfl, (frC (by decide) hf687 (frC (by decide) hf683 (fun _ _ => rfl))), trivial⟩, (by show va_P _ _ _ t.heap; rw [ht]; exact hP9)⟩, hS.F ht⟩) hS.2.2 dX7_go_33
set_option maxHeartbeats 8000000 in
set_option maxRecDepth 100000 in
theorem c_X7_leaveWith (l : Launch) (dC : Nat → ClassId) (dI : Nat → Nat → Nat) (g : Nat → Nat) (c : Nat → ClassId) (adK adV : Nat → Nat) (v : Nat → Int32) (F : Nat → Nat → Int32) (rc sz : Nat) (p0 : Int32) (p1 : Int32) (hg : injX g) (hI : IX v F) : Met l yX7_leaveWith (Cond.code yX7_leaveWith cX7_leaveWith 4 none :: wA) ({ frames := 2, cells := 0, slots := 0, locals := 80 }) (va_Pc [.ref (g 3), .int p0, .int p1] (PX dC dI g c adK adV v F rc sz)) (va_Qv (fun (u : StX) => IX u.1 u.2.1 ∧ alX u.1 u.2.1 = alX v F ∧ u.2.2 = rc ∧ (∀ k, k ∉ ([] : List Nat) → u.1 k = v k) ∧ True) (BX dC dI g c) (AX g sz)) 0 0 (AX g sz) := by
  refine Met.ofW (cc := cX7_leaveWith) (maxL := 4) (ret := none) (by decide) rfl ?_
  intro p e s m args below meth c0 s₁ B hml hv
  obtain ⟨rfl, hsz, hP, hK, hE⟩ := hv
  have hx := B.exec
  have hb := B.bytes
  have hr := B.returns
  have hts := atoms_spec (ws := Cond.code yX7_leaveWith cX7_leaveWith 4 none :: wA) B.pre
  have hwd : ∀ w ∈ wA, w.before _ s = true := fun w h => hts w (List.mem_cons_of_mem _ h)
  have hown : s.vm.findClass RX7 = some m.cls := findClass_of_methodNamed B.named
  have hlocks := B.notSynchronized
  subst hsz
  have hl := lv_entry ([.ref (g 3), .int p0, .int p1]) (n := 4) (Nat.le_of_ble_eq_true rfl)
  rw [lg_entry_eq]
  generalize (lg_sl ([.ref (g 3), .int p0, .int p1]) ++ List.replicate (4 - (lg_sl ([.ref (g 3), .int p0, .int p1])).length) Slot.unset).toArray = ls at hl ⊢
  have hl : lv_has ls 4 [(0, .ref (g 3)), (1, .int p0), (2, .int p1)] := hl
  obtain ⟨H, eH⟩ : ∃ z, z = s.heap := ⟨_, rfl⟩
  have hP : va_P (dC, dI) classes (wX g c v F rc) H := by rw [eH]; exact hP
  have hS : va_S (AX g s.heap.size) s.heap H [] := by rw [eH]; exact va_S.rf
  refine my_heap eH ?_
  have hal : alX v F = alX v F := rfl
  have rp0 := i32_rng p0
  have rp1 := i32_rng p1
  refine lv_iconst (v := 0) hx hb dX7_leaveWith_0 (by decide) ?_
  refine lv_istore_n (lv' := [(3, .int 0), (0, .ref (g 3)), (1, .int p0), (2, .int p1)]) hx hb dX7_leaveWith_1 rfl hl (by decide) rfl (fun ls hl => ?_)
  have lp688 : ∀ (n : Nat) (x3_lp688 : Int32) (v_lp688 : Nat → Int32) (F_lp688 : Nat → Nat → Int32) (H : Heap) (locs : List Loc) (ls : Array Slot), (0 ≤ x3_lp688.toInt) → (2147483648 - x3_lp688.toInt ≤ (n : Int)) → (∀ k, k ∉ ([] : List Nat) → v_lp688 k = v k) → IX v_lp688 F_lp688 → alX v_lp688 F_lp688 = alX v F → va_P (dC, dI) classes (wX g c v_lp688 F_lp688 rc) H → va_S (AX g s.heap.size) s.heap H locs → lv_has ls 4 [(3, .int x3_lp688), (0, .ref (g 3)), (1, .int p0), (2, .int p1)] → W p l e (headSpec (Cond.code yX7_leaveWith cX7_leaveWith 4 none :: wA) ({ frames := 2, cells := 0, slots := 0, locals := 80 })).room s m ([.ref (g 3), .int p0, .int p1] : List Value).toArray below meth c0 H locs 0 0 (MQ below (va_Qv (fun (u : StX) => IX u.1 u.2.1 ∧ alX u.1 u.2.1 = alX v F ∧ u.2.2 = rc ∧ (∀ k, k ∉ ([] : List Nat) → u.1 k = v k) ∧ True) (BX dC dI g c) (AX g s.heap.size)) ([.ref (g 3), .int p0, .int p1] : List Value).toArray s 0 0 (AX g s.heap.size)) (F0 m 2 ls []) := by
    intro n
    induction n with
    | zero =>
      intro x3_lp688 v_lp688 F_lp688 H locs ls t689 hm hf_lp688 hI hal hP hS hl
      exfalso
      have := i32_rng x3_lp688
      have hI1 := hI.1
      omega
    | succ n ih_lp688 =>
      intro x3_lp688 v_lp688 F_lp688 H locs ls t689 hm hf_lp688 hI hal hP hS hl
      have rx3_lp688 := i32_rng x3_lp688
      refine lv_iload_n hx hb dX7_leaveWith_2 rfl (lv_at hl 0 rfl) ?_
      refine lv_aload_n hx hb dX7_leaveWith_3 rfl (lv_at hl 1 rfl) ?_
      refine va_get (D := (dC, dI)) (ci := 7) (v := .int (v_lp688 61)) (C := RX7) (T := TX7) (N := 7) hx hb hwd inA_X7 hown hK hP 3 rfl rfl 1 (by decide) (hwd _ wk_289) (fun _ h9 => h9) rfl dX7_leaveWith_4 ?_
      refine my_top (v := v 61) (hf_lp688 61 (by decide)) ?_
      have t690 : 0 ≤ (v 61).toInt ∧ (v 61).toInt ≤ 100 := by have h9 := hI.1 61 _ _ rfl; rw [show v_lp688 61 = v 61 from hf_lp688 61 (by decide)] at h9; exact h9
      refine lv_icmp_ge (tgt := 67) hx hb dX7_leaveWith_7 (by decide) (fun c691 => ?_) (fun c691 => ?_)
      · skip
        have t692 := cv_le (a := (v 61).toInt) rfl (b := x3_lp688.toInt) rfl c691
        have hP9 : va_P (dC, dI) classes (wX g c v_lp688 F_lp688 rc) H := hP
        exact W.vret hx hb hr (fun t ht hW => ⟨⟨(v_lp688, F_lp688, rc), rfl, ⟨hI, hal, rfl, (frC (by decide) hf_lp688 (fun _ _ => rfl)), trivial⟩, (by show va_P _ _ _ t.heap; rw [ht]; exact hP9)⟩, hS.F ht⟩) hS.2.2 dX7_leaveWith_67
      · skip
        have t693 := cv_nle (a := (v 61).toInt) rfl (b := x3_lp688.toInt) rfl c691
        refine lv_aload_n hx hb dX7_leaveWith_10 rfl (lv_at hl 1 rfl) ?_
        refine va_get (D := (dC, dI)) (ci := 7) (v := .ref (g 26)) (C := RX7) (T := TX7) (N := 7) hx hb hwd inA_X7 hown hK hP 3 rfl rfl 4 (by decide) (hwd _ wk_97) (fun _ h9 => h9) rfl dX7_leaveWith_11 ?_
        refine lv_iload_n hx hb dX7_leaveWith_14 rfl (lv_at hl 0 rfl) ?_
        refine va_iald hx hb hK hP 26 14 rfl rfl (i := x3_lp688) (vin (a := x3_lp688.toInt) rfl (by omega)) dX7_leaveWith_15 ?_
        refine lv_topi (fun z694 e695 => ?_)
        refine lv_iload_n hx hb dX7_leaveWith_16 rfl (lv_at hl 2 rfl) ?_
        refine lv_icmp_ne (tgt := 61) hx hb dX7_leaveWith_17 (by decide) (fun c696 => ?_) (fun c696 => ?_)
        · skip
          have t697 := cv_ne (a := z694.toInt) rfl (b := p0.toInt) rfl c696
          obtain ⟨z698, e699⟩ : ∃ y : Int32, y = x3_lp688 + 1 := ⟨_, rfl⟩
          try (have t700 := tadd e699 rfl (b := 1) (by decide) (by omega))
          refine lv_iinc (v := z698) (lv' := [(3, .int z698), (0, .ref (g 3)), (1, .int p0), (2, .int p1)]) hx hb dX7_leaveWith_61 hl (k := 0) rfl (by rw [e699]; rfl) (by decide) rfl (fun ls hl => ?_)
          refine lv_goto (tgt := 2) hx hb dX7_leaveWith_64 (by decide) ?_
          exact ih_lp688 z698 v_lp688 F_lp688 _ _ _ (by omega) (by omega) hf_lp688 hI hal hP hS (lv_sub hl [0, 1, 2, 3] rfl)
        · skip
          have t701 := cv_eq (a := z694.toInt) rfl (b := p0.toInt) rfl c696
          refine lv_aload_n hx hb dX7_leaveWith_20 rfl (lv_at hl 1 rfl) ?_
          refine va_get (D := (dC, dI)) (ci := 7) (v := .ref (g 4)) (C := RX7) (T := TX7) (N := 7) hx hb hwd inA_X7 hown hK hP 3 rfl rfl 0 (by decide) (hwd _ wk_100) (fun _ h9 => h9) rfl dX7_leaveWith_21 ?_
          refine lv_aload_n hx hb dX7_leaveWith_24 rfl (lv_at hl 1 rfl) ?_
          refine va_get (D := (dC, dI)) (ci := 7) (v := .ref (g 28)) (C := RX7) (T := TX7) (N := 7) hx hb hwd inA_X7 hown hK hP 3 rfl rfl 6 (by decide) (hwd _ wk_99) (fun _ h9 => h9) rfl dX7_leaveWith_25 ?_
          refine lv_iload_n hx hb dX7_leaveWith_28 rfl (lv_at hl 0 rfl) ?_
          refine va_iald hx hb hK hP 28 16 rfl rfl (i := x3_lp688) (vin (a := x3_lp688.toInt) rfl (by omega)) dX7_leaveWith_29 ?_
          refine lv_topi (fun z702 e703 => ?_)
          refine lv_iload_n hx hb dX7_leaveWith_30 rfl (lv_at hl 3 rfl) ?_
          refine lv_aload_n hx hb dX7_leaveWith_31 rfl (lv_at hl 1 rfl) ?_
          refine lv_iload_n hx hb dX7_leaveWith_32 rfl (lv_at hl 0 rfl) ?_
          refine lv_iconst (v := 0) hx hb dX7_leaveWith_33 (by decide) ?_
          refine va_calli (va_runV (As := [.int x3_lp688, .int 0]) (rest := [.int p1, .int z702, .ref (g 4)]) ⟨hx, hb, hml, hown, hwd⟩ (c_X7_usedOf l dC dI g c adK adV v_lp688 F_lp688 rc H.size x3_lp688 0 hg hI (by omega) (by have : (0 : Int32).toInt = 0 := (by decide); omega)) (cwV 2 hwd (gV wk_369 wk_448 wk_367 wk_368 wk_26) rfl rfl rfl (by decide +kernel) ⟨Nat.le_of_ble_eq_true rfl, Nat.le_of_ble_eq_true rfl⟩) ⟨PX.blind, va_recv hK hP (ci := 7) (q0 := 3) rfl rfl, fun U hU hW => ⟨rfl, PX.at hK hE hP hS hU hW⟩⟩ rfl rfl hl.1 rfl (lv_room (Nat.le_of_ble_eq_true rfl)) dX7_leaveWith_34 ⟨Nat.le_of_ble_eq_true rfl, Nat.le_of_ble_eq_true rfl⟩) hS (fun q _ h => (freeX hS) q h) (freeX hS) (fun r704 u t H1 locs ht hvm hw hB hz1 hk1 hS => ?_)
          unfold BX at hB
          rw [ht] at hB
          have hP : va_P (dC, dI) classes (wX g c v_lp688 F_lp688 rc) H1 := hB
          generalize H1 = H at hP hS ⊢
          have rr_r704 := i32_rng r704
          refine lv_aload_n hx hb dX7_leaveWith_37 rfl (lv_at hl 1 rfl) ?_
          refine lv_iload_n hx hb dX7_leaveWith_38 rfl (lv_at hl 0 rfl) ?_
          refine lv_iconst (v := 1) hx hb dX7_leaveWith_39 (by decide) ?_
          refine va_calli (va_runV (As := [.int x3_lp688, .int 1]) (rest := [.int r704, .int p1, .int z702, .ref (g 4)]) ⟨hx, hb, hml, hown, hwd⟩ (c_X7_usedOf l dC dI g c adK adV v_lp688 F_lp688 rc H.size x3_lp688 1 hg hI (by omega) (by have : (1 : Int32).toInt = 1 := (by decide); omega)) (cwV 2 hwd (gV wk_369 wk_448 wk_367 wk_368 wk_26) rfl rfl rfl (by decide +kernel) ⟨Nat.le_of_ble_eq_true rfl, Nat.le_of_ble_eq_true rfl⟩) ⟨PX.blind, va_recv hK hP (ci := 7) (q0 := 3) rfl rfl, fun U hU hW => ⟨rfl, PX.at hK hE hP hS hU hW⟩⟩ rfl rfl hl.1 rfl (lv_room (Nat.le_of_ble_eq_true rfl)) dX7_leaveWith_40 ⟨Nat.le_of_ble_eq_true rfl, Nat.le_of_ble_eq_true rfl⟩) hS (fun q _ h => (freeX hS) q h) (freeX hS) (fun r705 u t H1 locs ht hvm hw hB hz1 hk1 hS => ?_)
          unfold BX at hB
          rw [ht] at hB
          have hP : va_P (dC, dI) classes (wX g c v_lp688 F_lp688 rc) H1 := hB
          generalize H1 = H at hP hS ⊢
          have rr_r705 := i32_rng r705
          refine va_callv (va_runV (As := [.int z702, .int p1, .int r704, .int r705]) (rest := []) ⟨hx, hb, hml, hown, hwd⟩ (c_X9_end l dC dI g c adK adV v_lp688 F_lp688 rc H.size z702 p1 r704 r705 hg hI ) (cwV 4 hwd (gV wk_622 wk_619 wk_620 wk_621 wk_22) rfl rfl rfl (by decide +kernel) ⟨Nat.le_of_ble_eq_true rfl, Nat.le_of_ble_eq_true rfl⟩) ⟨PX.blind, va_recv hK hP (ci := 9) (q0 := 4) rfl rfl, fun U hU hW => ⟨rfl, PX.at hK hE hP hS hU hW⟩⟩ rfl rfl hl.1 rfl (lv_room (Nat.le_of_ble_eq_true rfl)) dX7_leaveWith_43 ⟨Nat.le_of_ble_eq_true rfl, Nat.le_of_ble_eq_true rfl⟩) hS (fun q _ h => (freeX hS) q h) (freeX hS) (fun u t H1 locs ht hvm hw hB hz1 hk1 hS => ?_)
          unfold BX at hB
          rw [ht] at hB
          obtain ⟨v707, F708, rc9⟩ := u
          obtain ⟨hI, hal9, hrc, hf709, hw⟩ := hw
          dsimp only at hI hal9 hrc hB hf709 hw
          rw [hrc] at hB
          have hal : alX v707 F708 = alX v F := hal9.trans hal
          have hP : va_P (dC, dI) classes (wX g c v707 F708 rc) H1 := hB
          generalize H1 = H at hP hS ⊢
          refine lv_aload_n hx hb dX7_leaveWith_46 rfl (lv_at hl 1 rfl) ?_
          refine va_get (D := (dC, dI)) (ci := 7) (v := .ref (g 28)) (C := RX7) (T := TX7) (N := 7) hx hb hwd inA_X7 hown hK hP 3 rfl rfl 6 (by decide) (hwd _ wk_99) (fun _ h9 => h9) rfl dX7_leaveWith_47 ?_
          refine lv_iload_n hx hb dX7_leaveWith_50 rfl (lv_at hl 0 rfl) ?_
          refine lv_iconst (v := (-1)) hx hb dX7_leaveWith_51 (by decide) ?_
          refine va_iast hx hb hK hP (DX hg) hS 28 16 rfl rfl (i := x3_lp688) (x := (-1)) (vin (a := x3_lp688.toInt) rfl (by omega)) dX7_leaveWith_52 (fun H locs hP _ hS => ?_)
          have hP := va_P_eq (sX_28 g c _ _ _ _) hP
          have hI := IX.store0 hI 28 (x3_lp688).toNatClampNeg (-1) rfl
          have hal := (alX_F _ _ 28 (upd (F708 28) (x3_lp688).toNatClampNeg (-1)) (by decide) (by decide)).trans hal
          refine lv_aload_n hx hb dX7_leaveWith_53 rfl (lv_at hl 1 rfl) ?_
          refine va_get (D := (dC, dI)) (ci := 7) (v := .ref (g 26)) (C := RX7) (T := TX7) (N := 7) hx hb hwd inA_X7 hown hK hP 3 rfl rfl 4 (by decide) (hwd _ wk_97) (fun _ h9 => h9) rfl dX7_leaveWith_54 ?_
          refine lv_iload_n hx hb dX7_leaveWith_57 rfl (lv_at hl 0 rfl) ?_
          refine lv_bipush (v := 12) hx hb dX7_leaveWith_58 (by decide) ?_
          refine va_iast hx hb hK hP (DX hg) hS 26 14 rfl rfl (i := x3_lp688) (x := 12) (vin (a := x3_lp688.toInt) rfl (by omega)) dX7_leaveWith_60 (fun H locs hP _ hS => ?_)
          have hP := va_P_eq (sX_26 g c _ _ _ _) hP
          have hI := IX.store0 hI 26 (x3_lp688).toNatClampNeg 12 rfl
          have hal := (alX_F _ _ 26 (upd ((va_up F708 28 (upd (F708 28) (x3_lp688).toNatClampNeg (-1))) 26) (x3_lp688).toNatClampNeg 12) (by decide) (by decide)).trans hal
          obtain ⟨z710, e711⟩ : ∃ y : Int32, y = x3_lp688 + 1 := ⟨_, rfl⟩
          try (have t712 := tadd e711 rfl (b := 1) (by decide) (by omega))
          refine lv_iinc (v := z710) (lv' := [(3, .int z710), (0, .ref (g 3)), (1, .int p0), (2, .int p1)]) hx hb dX7_leaveWith_61 hl (k := 0) rfl (by rw [e711]; rfl) (by decide) rfl (fun ls hl => ?_)
          refine lv_goto (tgt := 2) hx hb dX7_leaveWith_64 (by decide) ?_
          exact ih_lp688 z710 v707 (va_up (va_up F708 28 (upd (F708 28) (x3_lp688).toNatClampNeg (-1))) 26 (upd ((va_up F708 28 (upd (F708 28) (x3_lp688).toNatClampNeg (-1))) 26) (x3_lp688).toNatClampNeg 12)) _ _ _ (by omega) (by omega) (frC (by decide) hf709 hf_lp688) hI hal hP hS (lv_sub hl [0, 1, 2, 3] rfl)
  obtain ⟨n9, hn9⟩ : ∃ n : Nat, 2147483648 - 0 ≤ (n : Int) := ⟨((2147483648 - 0 : Int)).toNat, by omega⟩
  exact lp688 n9 0 v F H _ ls (by have : (0 : Int32).toInt = 0 := (by decide); omega) (by have : (0 : Int32).toInt = 0 := (by decide); omega) (fun _ _ => rfl) hI hal hP hS hl
set_option maxHeartbeats 8000000 in
set_option maxRecDepth 100000 in
theorem c_X7_countAt (l : Launch) (dC : Nat → ClassId) (dI : Nat → Nat → Nat) (g : Nat → Nat) (c : Nat → ClassId) (adK adV : Nat → Nat) (v : Nat → Int32) (F : Nat → Nat → Int32) (rc sz : Nat) (p0 : Int32) (hg : injX g) (hI : IX v F) : Met l yX7_countAt (Cond.code yX7_countAt cX7_countAt 4 (some .int) :: wA) ({ frames := 1, cells := 0, slots := 0, locals := 40 }) (va_Pc [.ref (g 3), .int p0] (PX dC dI g c adK adV v F rc sz)) (va_Qi (fun (r : Int32) (u : Unit) => True) (fun (_ : Unit) => BX dC dI g c (v, F, rc)) (AX g sz)) 0 0 (AX g sz) := by
  refine Met.ofW (cc := cX7_countAt) (maxL := 4) (ret := (some .int)) (by decide) rfl ?_
  intro p e s m args below meth c0 s₁ B hml hv
  obtain ⟨rfl, hsz, hP, hK, hE⟩ := hv
  have hx := B.exec
  have hb := B.bytes
  have hr := B.returns
  have hts := atoms_spec (ws := Cond.code yX7_countAt cX7_countAt 4 (some .int) :: wA) B.pre
  have hwd : ∀ w ∈ wA, w.before _ s = true := fun w h => hts w (List.mem_cons_of_mem _ h)
  have hown : s.vm.findClass RX7 = some m.cls := findClass_of_methodNamed B.named
  have hlocks := B.notSynchronized
  subst hsz
  have hl := lv_entry ([.ref (g 3), .int p0]) (n := 4) (Nat.le_of_ble_eq_true rfl)
  rw [lg_entry_eq]
  generalize (lg_sl ([.ref (g 3), .int p0]) ++ List.replicate (4 - (lg_sl ([.ref (g 3), .int p0])).length) Slot.unset).toArray = ls at hl ⊢
  have hl : lv_has ls 4 [(0, .ref (g 3)), (1, .int p0)] := hl
  obtain ⟨H, eH⟩ : ∃ z, z = s.heap := ⟨_, rfl⟩
  have hP : va_P (dC, dI) classes (wX g c v F rc) H := by rw [eH]; exact hP
  have hS : va_S (AX g s.heap.size) s.heap H [] := by rw [eH]; exact va_S.rf
  refine my_heap eH ?_
  have rp0 := i32_rng p0
  refine lv_iconst (v := 0) hx hb dX7_countAt_0 (by decide) ?_
  refine lv_istore_n (lv' := [(2, .int 0), (0, .ref (g 3)), (1, .int p0)]) hx hb dX7_countAt_1 rfl hl (by decide) rfl (fun ls hl => ?_)
  refine lv_iconst (v := 0) hx hb dX7_countAt_2 (by decide) ?_
  refine lv_istore_n (lv' := [(3, .int 0), (2, .int 0), (0, .ref (g 3)), (1, .int p0)]) hx hb dX7_countAt_3 rfl hl (by decide) rfl (fun ls hl => ?_)
  have lp713 : ∀ (n : Nat) (x3_lp713 : Int32) (x2_lp713 : Int32) (H : Heap) (locs : List Loc) (ls : Array Slot), (0 ≤ x3_lp713.toInt) → (2147483648 - x3_lp713.toInt ≤ (n : Int)) → va_P (dC, dI) classes (wX g c v F rc) H → va_S (AX g s.heap.size) s.heap H locs → lv_has ls 4 [(3, .int x3_lp713), (2, .int x2_lp713), (0, .ref (g 3)), (1, .int p0)] → W p l e (headSpec (Cond.code yX7_countAt cX7_countAt 4 (some .int) :: wA) ({ frames := 1, cells := 0, slots := 0, locals := 40 })).room s m ([.ref (g 3), .int p0] : List Value).toArray below meth c0 H locs 0 0 (MQ below (va_Qi (fun (r : Int32) (u : Unit) => True) (fun (_ : Unit) => BX dC dI g c (v, F, rc)) (AX g s.heap.size)) ([.ref (g 3), .int p0] : List Value).toArray s 0 0 (AX g s.heap.size)) (F0 m 4 ls []) := by
    intro n
    induction n with
    | zero =>
      intro x3_lp713 x2_lp713 H locs ls t714 hm hP hS hl
      exfalso
      have := i32_rng x3_lp713
      have := i32_rng x2_lp713
      omega
    | succ n ih_lp713 =>
      intro x3_lp713 x2_lp713 H locs ls t714 hm hP hS hl
      have rx3_lp713 := i32_rng x3_lp713
      have rx2_lp713 := i32_rng x2_lp713
      refine lv_iload_n hx hb dX7_countAt_4 rfl (lv_at hl 0 rfl) ?_
      refine lv_aload_n hx hb dX7_countAt_5 rfl (lv_at hl 2 rfl) ?_
      refine va_get (D := (dC, dI)) (ci := 7) (v := .int (v 61)) (C := RX7) (T := TX7) (N := 7) hx hb hwd inA_X7 hown hK hP 3 rfl rfl 1 (by decide) (hwd _ wk_289) (fun _ h9 => h9) rfl dX7_countAt_6 ?_
      have t715 : 0 ≤ (v 61).toInt ∧ (v 61).toInt ≤ 100 := hI.1 61 _ _ rfl
      refine lv_icmp_ge (tgt := 36) hx hb dX7_countAt_9 (by decide) (fun c716 => ?_) (fun c716 => ?_)
      · skip
        have t717 := cv_le (a := (v 61).toInt) rfl (b := x3_lp713.toInt) rfl c716
        refine lv_iload_n hx hb dX7_countAt_36 rfl (lv_at hl 1 rfl) ?_
        have hP9 : va_P (dC, dI) classes (wX g c v F rc) H := hP
        exact W.iret (v := x2_lp713) hx hb hr (fun t ht hW => ⟨⟨x2_lp713, (), rfl, trivial, (by show va_P _ _ _ t.heap; rw [ht]; exact hP9)⟩, hS.F ht⟩) hS.2.2 dX7_countAt_37
      · skip
        have t718 := cv_nle (a := (v 61).toInt) rfl (b := x3_lp713.toInt) rfl c716
        refine lv_iload_n hx hb dX7_countAt_12 rfl (lv_at hl 1 rfl) ?_
        refine lv_aload_n hx hb dX7_countAt_13 rfl (lv_at hl 2 rfl) ?_
        refine va_get (D := (dC, dI)) (ci := 7) (v := .ref (g 26)) (C := RX7) (T := TX7) (N := 7) hx hb hwd inA_X7 hown hK hP 3 rfl rfl 4 (by decide) (hwd _ wk_97) (fun _ h9 => h9) rfl dX7_countAt_14 ?_
        refine lv_iload_n hx hb dX7_countAt_17 rfl (lv_at hl 0 rfl) ?_
        refine va_iald hx hb hK hP 26 14 rfl rfl (i := x3_lp713) (vin (a := x3_lp713.toInt) rfl (by omega)) dX7_countAt_18 ?_
        refine lv_topi (fun z719 e720 => ?_)
        refine lv_iload_n hx hb dX7_countAt_19 rfl (lv_at hl 3 rfl) ?_
        refine lv_icmp_ne (tgt := 27) hx hb dX7_countAt_20 (by decide) (fun c721 => ?_) (fun c721 => ?_)
        · skip
          have t722 := cv_ne (a := z719.toInt) rfl (b := p0.toInt) rfl c721
          refine lv_iconst (v := 0) hx hb dX7_countAt_27 (by decide) ?_
          refine lv_iadd hx hb dX7_countAt_28 ?_
          refine lv_topi (fun z723 e724 => ?_)
          try (have t725 := tadd e724 (a := x2_lp713.toInt) rfl (b := 0) (by decide) (by omega))
          refine lv_istore_n (lv' := [(2, .int z723), (3, .int x3_lp713), (0, .ref (g 3)), (1, .int p0)]) hx hb dX7_countAt_29 rfl hl (by decide) rfl (fun ls hl => ?_)
          obtain ⟨z726, e727⟩ : ∃ y : Int32, y = x3_lp713 + 1 := ⟨_, rfl⟩
          try (have t728 := tadd e727 rfl (b := 1) (by decide) (by omega))
          refine lv_iinc (v := z726) (lv' := [(3, .int z726), (2, .int z723), (0, .ref (g 3)), (1, .int p0)]) hx hb dX7_countAt_30 hl (k := 1) rfl (by rw [e727]; rfl) (by decide) rfl (fun ls hl => ?_)
          refine lv_goto (tgt := 4) hx hb dX7_countAt_33 (by decide) ?_
          exact ih_lp713 z726 z723  _ _ _ (by omega) (by omega) hP hS (lv_sub hl [0, 1, 2, 3] rfl)
        · skip
          have t729 := cv_eq (a := z719.toInt) rfl (b := p0.toInt) rfl c721
          refine lv_iconst (v := 1) hx hb dX7_countAt_23 (by decide) ?_
          refine lv_goto (tgt := 28) hx hb dX7_countAt_24 (by decide) ?_
          refine lv_iadd hx hb dX7_countAt_28 ?_
          refine lv_topi (fun z730 e731 => ?_)
          try (have t732 := tadd e731 (a := x2_lp713.toInt) rfl (b := 1) (by decide) (by omega))
          refine lv_istore_n (lv' := [(2, .int z730), (3, .int x3_lp713), (0, .ref (g 3)), (1, .int p0)]) hx hb dX7_countAt_29 rfl hl (by decide) rfl (fun ls hl => ?_)
          obtain ⟨z733, e734⟩ : ∃ y : Int32, y = x3_lp713 + 1 := ⟨_, rfl⟩
          try (have t735 := tadd e734 rfl (b := 1) (by decide) (by omega))
          refine lv_iinc (v := z733) (lv' := [(3, .int z733), (2, .int z730), (0, .ref (g 3)), (1, .int p0)]) hx hb dX7_countAt_30 hl (k := 1) rfl (by rw [e734]; rfl) (by decide) rfl (fun ls hl => ?_)
          refine lv_goto (tgt := 4) hx hb dX7_countAt_33 (by decide) ?_
          exact ih_lp713 z733 z730  _ _ _ (by omega) (by omega) hP hS (lv_sub hl [0, 1, 2, 3] rfl)
  obtain ⟨n9, hn9⟩ : ∃ n : Nat, 2147483648 - 0 ≤ (n : Int) := ⟨((2147483648 - 0 : Int)).toNat, by omega⟩
  exact lp713 n9 0 0  H _ ls (by have : (0 : Int32).toInt = 0 := (by decide); have : (0 : Int32).toInt = 0 := (by decide); omega) (by have : (0 : Int32).toInt = 0 := (by decide); have : (0 : Int32).toInt = 0 := (by decide); omega) hP hS hl
set_option maxHeartbeats 8000000 in
set_option maxRecDepth 100000 in
theorem c_X7_ofKindAt (l : Launch) (dC : Nat → ClassId) (dI : Nat → Nat → Nat) (g : Nat → Nat) (c : Nat → ClassId) (adK adV : Nat → Nat) (v : Nat → Int32) (F : Nat → Nat → Int32) (rc sz : Nat) (p0 : Int32) (p1 : Int32) (hg : injX g) (hI : IX v F) : Met l yX7_ofKindAt (Cond.code yX7_ofKindAt cX7_ofKindAt 5 (some .int) :: wA) ({ frames := 1, cells := 0, slots := 0, locals := 40 }) (va_Pc [.ref (g 3), .int p0, .int p1] (PX dC dI g c adK adV v F rc sz)) (va_Qi (fun (r : Int32) (u : Unit) => True) (fun (_ : Unit) => BX dC dI g c (v, F, rc)) (AX g sz)) 0 0 (AX g sz) := by
  refine Met.ofW (cc := cX7_ofKindAt) (maxL := 5) (ret := (some .int)) (by decide) rfl ?_
  intro p e s m args below meth c0 s₁ B hml hv
  obtain ⟨rfl, hsz, hP, hK, hE⟩ := hv
  have hx := B.exec
  have hb := B.bytes
  have hr := B.returns
  have hts := atoms_spec (ws := Cond.code yX7_ofKindAt cX7_ofKindAt 5 (some .int) :: wA) B.pre
  have hwd : ∀ w ∈ wA, w.before _ s = true := fun w h => hts w (List.mem_cons_of_mem _ h)
  have hown : s.vm.findClass RX7 = some m.cls := findClass_of_methodNamed B.named
  have hlocks := B.notSynchronized
  subst hsz
  have hl := lv_entry ([.ref (g 3), .int p0, .int p1]) (n := 5) (Nat.le_of_ble_eq_true rfl)
  rw [lg_entry_eq]
  generalize (lg_sl ([.ref (g 3), .int p0, .int p1]) ++ List.replicate (5 - (lg_sl ([.ref (g 3), .int p0, .int p1])).length) Slot.unset).toArray = ls at hl ⊢
  have hl : lv_has ls 5 [(0, .ref (g 3)), (1, .int p0), (2, .int p1)] := hl
  obtain ⟨H, eH⟩ : ∃ z, z = s.heap := ⟨_, rfl⟩
  have hP : va_P (dC, dI) classes (wX g c v F rc) H := by rw [eH]; exact hP
  have hS : va_S (AX g s.heap.size) s.heap H [] := by rw [eH]; exact va_S.rf
  refine my_heap eH ?_
  have rp0 := i32_rng p0
  have rp1 := i32_rng p1
  refine lv_iconst (v := 0) hx hb dX7_ofKindAt_0 (by decide) ?_
  refine lv_istore_n (lv' := [(3, .int 0), (0, .ref (g 3)), (1, .int p0), (2, .int p1)]) hx hb dX7_ofKindAt_1 rfl hl (by decide) rfl (fun ls hl => ?_)
  refine lv_iconst (v := 0) hx hb dX7_ofKindAt_2 (by decide) ?_
  refine lv_istore (lv' := [(4, .int 0), (3, .int 0), (0, .ref (g 3)), (1, .int p0), (2, .int p1)]) hx hb dX7_ofKindAt_3 hl (by decide) rfl (fun ls hl => ?_)
  have lp736 : ∀ (n : Nat) (x4_lp736 : Int32) (x3_lp736 : Int32) (H : Heap) (locs : List Loc) (ls : Array Slot), (0 ≤ x4_lp736.toInt) → (2147483648 - x4_lp736.toInt ≤ (n : Int)) → va_P (dC, dI) classes (wX g c v F rc) H → va_S (AX g s.heap.size) s.heap H locs → lv_has ls 5 [(4, .int x4_lp736), (3, .int x3_lp736), (0, .ref (g 3)), (1, .int p0), (2, .int p1)] → W p l e (headSpec (Cond.code yX7_ofKindAt cX7_ofKindAt 5 (some .int) :: wA) ({ frames := 1, cells := 0, slots := 0, locals := 40 })).room s m ([.ref (g 3), .int p0, .int p1] : List Value).toArray below meth c0 H locs 0 0 (MQ below (va_Qi (fun (r : Int32) (u : Unit) => True) (fun (_ : Unit) => BX dC dI g c (v, F, rc)) (AX g s.heap.size)) ([.ref (g 3), .int p0, .int p1] : List Value).toArray s 0 0 (AX g s.heap.size)) (F0 m 5 ls []) := by
    intro n
    induction n with
    | zero =>
      intro x4_lp736 x3_lp736 H locs ls t737 hm hP hS hl
      exfalso
      have := i32_rng x4_lp736
      have := i32_rng x3_lp736
      omega
    | succ n ih_lp736 =>
      intro x4_lp736 x3_lp736 H locs ls t737 hm hP hS hl
      have rx4_lp736 := i32_rng x4_lp736
      have rx3_lp736 := i32_rng x3_lp736
      refine lv_iload hx hb dX7_ofKindAt_5 (lv_at hl 0 rfl) ?_
      refine lv_aload_n hx hb dX7_ofKindAt_7 rfl (lv_at hl 2 rfl) ?_
      refine va_get (D := (dC, dI)) (ci := 7) (v := .int (v 61)) (C := RX7) (T := TX7) (N := 7) hx hb hwd inA_X7 hown hK hP 3 rfl rfl 1 (by decide) (hwd _ wk_289) (fun _ h9 => h9) rfl dX7_ofKindAt_8 ?_
      have t738 : 0 ≤ (v 61).toInt ∧ (v 61).toInt ≤ 100 := hI.1 61 _ _ rfl
      refine lv_icmp_ge (tgt := 50) hx hb dX7_ofKindAt_11 (by decide) (fun c739 => ?_) (fun c739 => ?_)
      · skip
        have t740 := cv_le (a := (v 61).toInt) rfl (b := x4_lp736.toInt) rfl c739
        refine lv_iload_n hx hb dX7_ofKindAt_50 rfl (lv_at hl 1 rfl) ?_
        have hP9 : va_P (dC, dI) classes (wX g c v F rc) H := hP
        exact W.iret (v := x3_lp736) hx hb hr (fun t ht hW => ⟨⟨x3_lp736, (), rfl, trivial, (by show va_P _ _ _ t.heap; rw [ht]; exact hP9)⟩, hS.F ht⟩) hS.2.2 dX7_ofKindAt_51
      · skip
        have t741 := cv_nle (a := (v 61).toInt) rfl (b := x4_lp736.toInt) rfl c739
        refine lv_iload_n hx hb dX7_ofKindAt_14 rfl (lv_at hl 1 rfl) ?_
        refine lv_aload_n hx hb dX7_ofKindAt_15 rfl (lv_at hl 2 rfl) ?_
        refine va_get (D := (dC, dI)) (ci := 7) (v := .ref (g 24)) (C := RX7) (T := TX7) (N := 7) hx hb hwd inA_X7 hown hK hP 3 rfl rfl 2 (by decide) (hwd _ wk_95) (fun _ h9 => h9) rfl dX7_ofKindAt_16 ?_
        refine lv_iload hx hb dX7_ofKindAt_19 (lv_at hl 0 rfl) ?_
        refine va_iald hx hb hK hP 24 12 rfl rfl (i := x4_lp736) (vin (a := x4_lp736.toInt) rfl (by omega)) dX7_ofKindAt_21 ?_
        refine lv_topi (fun z742 e743 => ?_)
        have t744 : 0 ≤ z742.toInt ∧ z742.toInt ≤ 9 := by rw [e743]; exact hI.2 24 _ _ rfl _
        refine lv_iload_n hx hb dX7_ofKindAt_22 rfl (lv_at hl 3 rfl) ?_
        refine lv_icmp_ne (tgt := 41) hx hb dX7_ofKindAt_23 (by decide) (fun c745 => ?_) (fun c745 => ?_)
        · skip
          have t746 := cv_ne (a := z742.toInt) rfl (b := p0.toInt) rfl c745
          refine lv_iconst (v := 0) hx hb dX7_ofKindAt_41 (by decide) ?_
          refine lv_iadd hx hb dX7_ofKindAt_42 ?_
          refine lv_topi (fun z747 e748 => ?_)
          try (have t749 := tadd e748 (a := x3_lp736.toInt) rfl (b := 0) (by decide) (by omega))
          refine lv_istore_n (lv' := [(3, .int z747), (4, .int x4_lp736), (0, .ref (g 3)), (1, .int p0), (2, .int p1)]) hx hb dX7_ofKindAt_43 rfl hl (by decide) rfl (fun ls hl => ?_)
          obtain ⟨z750, e751⟩ : ∃ y : Int32, y = x4_lp736 + 1 := ⟨_, rfl⟩
          try (have t752 := tadd e751 rfl (b := 1) (by decide) (by omega))
          refine lv_iinc (v := z750) (lv' := [(4, .int z750), (3, .int z747), (0, .ref (g 3)), (1, .int p0), (2, .int p1)]) hx hb dX7_ofKindAt_44 hl (k := 1) rfl (by rw [e751]; rfl) (by decide) rfl (fun ls hl => ?_)
          refine lv_goto (tgt := 5) hx hb dX7_ofKindAt_47 (by decide) ?_
          exact ih_lp736 z750 z747  _ _ _ (by omega) (by omega) hP hS (lv_sub hl [0, 1, 2, 3, 4] rfl)
        · skip
          have t753 := cv_eq (a := z742.toInt) rfl (b := p0.toInt) rfl c745
          refine lv_aload_n hx hb dX7_ofKindAt_26 rfl (lv_at hl 2 rfl) ?_
          refine va_get (D := (dC, dI)) (ci := 7) (v := .ref (g 26)) (C := RX7) (T := TX7) (N := 7) hx hb hwd inA_X7 hown hK hP 3 rfl rfl 4 (by decide) (hwd _ wk_97) (fun _ h9 => h9) rfl dX7_ofKindAt_27 ?_
          refine lv_iload hx hb dX7_ofKindAt_30 (lv_at hl 0 rfl) ?_
          refine va_iald hx hb hK hP 26 14 rfl rfl (i := x4_lp736) (vin (a := x4_lp736.toInt) rfl (by omega)) dX7_ofKindAt_32 ?_
          refine lv_topi (fun z754 e755 => ?_)
          refine lv_iload_n hx hb dX7_ofKindAt_33 rfl (lv_at hl 4 rfl) ?_
          refine lv_icmp_ne (tgt := 41) hx hb dX7_ofKindAt_34 (by decide) (fun c756 => ?_) (fun c756 => ?_)
          · skip
            have t757 := cv_ne (a := z754.toInt) rfl (b := p1.toInt) rfl c756
            refine lv_iconst (v := 0) hx hb dX7_ofKindAt_41 (by decide) ?_
            refine lv_iadd hx hb dX7_ofKindAt_42 ?_
            refine lv_topi (fun z758 e759 => ?_)
            try (have t760 := tadd e759 (a := x3_lp736.toInt) rfl (b := 0) (by decide) (by omega))
            refine lv_istore_n (lv' := [(3, .int z758), (4, .int x4_lp736), (0, .ref (g 3)), (1, .int p0), (2, .int p1)]) hx hb dX7_ofKindAt_43 rfl hl (by decide) rfl (fun ls hl => ?_)
            obtain ⟨z761, e762⟩ : ∃ y : Int32, y = x4_lp736 + 1 := ⟨_, rfl⟩
            try (have t763 := tadd e762 rfl (b := 1) (by decide) (by omega))
            refine lv_iinc (v := z761) (lv' := [(4, .int z761), (3, .int z758), (0, .ref (g 3)), (1, .int p0), (2, .int p1)]) hx hb dX7_ofKindAt_44 hl (k := 1) rfl (by rw [e762]; rfl) (by decide) rfl (fun ls hl => ?_)
            refine lv_goto (tgt := 5) hx hb dX7_ofKindAt_47 (by decide) ?_
            exact ih_lp736 z761 z758  _ _ _ (by omega) (by omega) hP hS (lv_sub hl [0, 1, 2, 3, 4] rfl)
          · skip
            have t764 := cv_eq (a := z754.toInt) rfl (b := p1.toInt) rfl c756
            refine lv_iconst (v := 1) hx hb dX7_ofKindAt_37 (by decide) ?_
            refine lv_goto (tgt := 42) hx hb dX7_ofKindAt_38 (by decide) ?_
            refine lv_iadd hx hb dX7_ofKindAt_42 ?_
            refine lv_topi (fun z765 e766 => ?_)
            try (have t767 := tadd e766 (a := x3_lp736.toInt) rfl (b := 1) (by decide) (by omega))
            refine lv_istore_n (lv' := [(3, .int z765), (4, .int x4_lp736), (0, .ref (g 3)), (1, .int p0), (2, .int p1)]) hx hb dX7_ofKindAt_43 rfl hl (by decide) rfl (fun ls hl => ?_)
            obtain ⟨z768, e769⟩ : ∃ y : Int32, y = x4_lp736 + 1 := ⟨_, rfl⟩
            try (have t770 := tadd e769 rfl (b := 1) (by decide) (by omega))
            refine lv_iinc (v := z768) (lv' := [(4, .int z768), (3, .int z765), (0, .ref (g 3)), (1, .int p0), (2, .int p1)]) hx hb dX7_ofKindAt_44 hl (k := 1) rfl (by rw [e769]; rfl) (by decide) rfl (fun ls hl => ?_)
            refine lv_goto (tgt := 5) hx hb dX7_ofKindAt_47 (by decide) ?_
            exact ih_lp736 z768 z765  _ _ _ (by omega) (by omega) hP hS (lv_sub hl [0, 1, 2, 3, 4] rfl)
  obtain ⟨n9, hn9⟩ : ∃ n : Nat, 2147483648 - 0 ≤ (n : Int) := ⟨((2147483648 - 0 : Int)).toNat, by omega⟩
  exact lp736 n9 0 0  H _ ls (by have : (0 : Int32).toInt = 0 := (by decide); have : (0 : Int32).toInt = 0 := (by decide); omega) (by have : (0 : Int32).toInt = 0 := (by decide); have : (0 : Int32).toInt = 0 := (by decide); omega) hP hS hl
set_option maxHeartbeats 8000000 in
set_option maxRecDepth 100000 in
theorem c_X7_age (l : Launch) (dC : Nat → ClassId) (dI : Nat → Nat → Nat) (g : Nat → Nat) (c : Nat → ClassId) (adK adV : Nat → Nat) (v : Nat → Int32) (F : Nat → Nat → Int32) (rc sz : Nat) (p0 : Int32) (hg : injX g) (hI : IX v F) : Met l yX7_age (Cond.code yX7_age cX7_age 3 none :: wA) ({ frames := 1, cells := 0, slots := 0, locals := 40 }) (va_Pc [.ref (g 3), .int p0] (PX dC dI g c adK adV v F rc sz)) (va_Qv (fun (u : StX) => IX u.1 u.2.1 ∧ alX u.1 u.2.1 = alX v F ∧ u.2.2 = rc ∧ (∀ k, k ∉ ([] : List Nat) → u.1 k = v k) ∧ True) (BX dC dI g c) (AX g sz)) 0 0 (AX g sz) := by
  refine Met.ofW (cc := cX7_age) (maxL := 3) (ret := none) (by decide) rfl ?_
  intro p e s m args below meth c0 s₁ B hml hv
  obtain ⟨rfl, hsz, hP, hK, hE⟩ := hv
  have hx := B.exec
  have hb := B.bytes
  have hr := B.returns
  have hts := atoms_spec (ws := Cond.code yX7_age cX7_age 3 none :: wA) B.pre
  have hwd : ∀ w ∈ wA, w.before _ s = true := fun w h => hts w (List.mem_cons_of_mem _ h)
  have hown : s.vm.findClass RX7 = some m.cls := findClass_of_methodNamed B.named
  have hlocks := B.notSynchronized
  subst hsz
  have hl := lv_entry ([.ref (g 3), .int p0]) (n := 3) (Nat.le_of_ble_eq_true rfl)
  rw [lg_entry_eq]
  generalize (lg_sl ([.ref (g 3), .int p0]) ++ List.replicate (3 - (lg_sl ([.ref (g 3), .int p0])).length) Slot.unset).toArray = ls at hl ⊢
  have hl : lv_has ls 3 [(0, .ref (g 3)), (1, .int p0)] := hl
  obtain ⟨H, eH⟩ : ∃ z, z = s.heap := ⟨_, rfl⟩
  have hP : va_P (dC, dI) classes (wX g c v F rc) H := by rw [eH]; exact hP
  have hS : va_S (AX g s.heap.size) s.heap H [] := by rw [eH]; exact va_S.rf
  refine my_heap eH ?_
  have hal : alX v F = alX v F := rfl
  have rp0 := i32_rng p0
  refine lv_iconst (v := 0) hx hb dX7_age_0 (by decide) ?_
  refine lv_istore_n (lv' := [(2, .int 0), (0, .ref (g 3)), (1, .int p0)]) hx hb dX7_age_1 rfl hl (by decide) rfl (fun ls hl => ?_)
  have lp771 : ∀ (n : Nat) (x2_lp771 : Int32) (v_lp771 : Nat → Int32) (F_lp771 : Nat → Nat → Int32) (H : Heap) (locs : List Loc) (ls : Array Slot), (0 ≤ x2_lp771.toInt) → (2147483648 - x2_lp771.toInt ≤ (n : Int)) → (∀ k, k ∉ ([] : List Nat) → v_lp771 k = v k) → IX v_lp771 F_lp771 → alX v_lp771 F_lp771 = alX v F → va_P (dC, dI) classes (wX g c v_lp771 F_lp771 rc) H → va_S (AX g s.heap.size) s.heap H locs → lv_has ls 3 [(2, .int x2_lp771), (0, .ref (g 3)), (1, .int p0)] → W p l e (headSpec (Cond.code yX7_age cX7_age 3 none :: wA) ({ frames := 1, cells := 0, slots := 0, locals := 40 })).room s m ([.ref (g 3), .int p0] : List Value).toArray below meth c0 H locs 0 0 (MQ below (va_Qv (fun (u : StX) => IX u.1 u.2.1 ∧ alX u.1 u.2.1 = alX v F ∧ u.2.2 = rc ∧ (∀ k, k ∉ ([] : List Nat) → u.1 k = v k) ∧ True) (BX dC dI g c) (AX g s.heap.size)) ([.ref (g 3), .int p0] : List Value).toArray s 0 0 (AX g s.heap.size)) (F0 m 2 ls []) := by
    intro n
    induction n with
    | zero =>
      intro x2_lp771 v_lp771 F_lp771 H locs ls t772 hm hf_lp771 hI hal hP hS hl
      exfalso
      have := i32_rng x2_lp771
      have hI1 := hI.1
      omega
    | succ n ih_lp771 =>
      intro x2_lp771 v_lp771 F_lp771 H locs ls t772 hm hf_lp771 hI hal hP hS hl
      have rx2_lp771 := i32_rng x2_lp771
      refine lv_iload_n hx hb dX7_age_2 rfl (lv_at hl 0 rfl) ?_
      refine lv_aload_n hx hb dX7_age_3 rfl (lv_at hl 1 rfl) ?_
      refine va_get (D := (dC, dI)) (ci := 7) (v := .int (v_lp771 61)) (C := RX7) (T := TX7) (N := 7) hx hb hwd inA_X7 hown hK hP 3 rfl rfl 1 (by decide) (hwd _ wk_289) (fun _ h9 => h9) rfl dX7_age_4 ?_
      refine my_top (v := v 61) (hf_lp771 61 (by decide)) ?_
      have t773 : 0 ≤ (v 61).toInt ∧ (v 61).toInt ≤ 100 := by have h9 := hI.1 61 _ _ rfl; rw [show v_lp771 61 = v 61 from hf_lp771 61 (by decide)] at h9; exact h9
      refine lv_icmp_ge (tgt := 41) hx hb dX7_age_7 (by decide) (fun c774 => ?_) (fun c774 => ?_)
      · skip
        have t775 := cv_le (a := (v 61).toInt) rfl (b := x2_lp771.toInt) rfl c774
        have hP9 : va_P (dC, dI) classes (wX g c v_lp771 F_lp771 rc) H := hP
        exact W.vret hx hb hr (fun t ht hW => ⟨⟨(v_lp771, F_lp771, rc), rfl, ⟨hI, hal, rfl, (frC (by decide) hf_lp771 (fun _ _ => rfl)), trivial⟩, (by show va_P _ _ _ t.heap; rw [ht]; exact hP9)⟩, hS.F ht⟩) hS.2.2 dX7_age_41
      · skip
        have t776 := cv_nle (a := (v 61).toInt) rfl (b := x2_lp771.toInt) rfl c774
        refine lv_aload_n hx hb dX7_age_10 rfl (lv_at hl 1 rfl) ?_
        refine va_get (D := (dC, dI)) (ci := 7) (v := .ref (g 26)) (C := RX7) (T := TX7) (N := 7) hx hb hwd inA_X7 hown hK hP 3 rfl rfl 4 (by decide) (hwd _ wk_97) (fun _ h9 => h9) rfl dX7_age_11 ?_
        refine lv_iload_n hx hb dX7_age_14 rfl (lv_at hl 0 rfl) ?_
        refine va_iald hx hb hK hP 26 14 rfl rfl (i := x2_lp771) (vin (a := x2_lp771.toInt) rfl (by omega)) dX7_age_15 ?_
        refine lv_topi (fun z777 e778 => ?_)
        refine lv_bipush (v := 12) hx hb dX7_age_16 (by decide) ?_
        refine lv_icmp_eq (tgt := 35) hx hb dX7_age_18 (by decide) (fun c779 => ?_) (fun c779 => ?_)
        · skip
          have t780 := cv_eq (a := z777.toInt) rfl (b := 12) (by decide) c779
          obtain ⟨z781, e782⟩ : ∃ y : Int32, y = x2_lp771 + 1 := ⟨_, rfl⟩
          try (have t783 := tadd e782 rfl (b := 1) (by decide) (by omega))
          refine lv_iinc (v := z781) (lv' := [(2, .int z781), (0, .ref (g 3)), (1, .int p0)]) hx hb dX7_age_35 hl (k := 0) rfl (by rw [e782]; rfl) (by decide) rfl (fun ls hl => ?_)
          refine lv_goto (tgt := 2) hx hb dX7_age_38 (by decide) ?_
          exact ih_lp771 z781 v_lp771 F_lp771 _ _ _ (by omega) (by omega) hf_lp771 hI hal hP hS (lv_sub hl [0, 1, 2] rfl)
        · skip
          have t784 := cv_ne (a := z777.toInt) rfl (b := 12) (by decide) c779
          refine lv_aload_n hx hb dX7_age_21 rfl (lv_at hl 1 rfl) ?_
          refine va_get (D := (dC, dI)) (ci := 7) (v := .ref (g 27)) (C := RX7) (T := TX7) (N := 7) hx hb hwd inA_X7 hown hK hP 3 rfl rfl 5 (by decide) (hwd _ wk_98) (fun _ h9 => h9) rfl dX7_age_22 ?_
          refine lv_iload_n hx hb dX7_age_25 rfl (lv_at hl 0 rfl) ?_
          refine lv_iconst (v := 3) hx hb dX7_age_26 (by decide) ?_
          refine lv_imul hx hb dX7_age_27 ?_
          refine lv_topi (fun z785 e786 => ?_)
          try (have t787 := tmul e786 (a := x2_lp771.toInt) rfl (b := 3) (by decide) (by omega))
          refine lv_iconst (v := 2) hx hb dX7_age_28 (by decide) ?_
          refine lv_iadd hx hb dX7_age_29 ?_
          refine lv_topi (fun z788 e789 => ?_)
          try (have t790 := tadd e789 (a := z785.toInt) rfl (b := 2) (by decide) (by omega))
          refine lv_dup2_11 hx hb dX7_age_30 rfl rfl ?_
          refine va_iald hx hb hK hP 27 15 rfl rfl (i := z788) (vin (a := z788.toInt) rfl (by omega)) dX7_age_31 ?_
          refine lv_topi (fun z791 e792 => ?_)
          refine lv_iload_n hx hb dX7_age_32 rfl (lv_at hl 2 rfl) ?_
          refine lv_iadd hx hb dX7_age_33 ?_
          refine lv_topi (fun z793 e794 => ?_)
          try (have t795 := tadd e794 (a := z791.toInt) rfl (b := p0.toInt) rfl (by omega))
          refine va_iast hx hb hK hP (DX hg) hS 27 15 rfl rfl (i := z788) (x := z793) (vin (a := z788.toInt) rfl (by omega)) dX7_age_34 (fun H locs hP _ hS => ?_)
          have hP := va_P_eq (sX_27 g c _ _ _ _) hP
          have hI := IX.store0 hI 27 (z788).toNatClampNeg z793 rfl
          have hal := (alX_F _ _ 27 (upd (F_lp771 27) (z788).toNatClampNeg z793) (by decide) (by decide)).trans hal
          obtain ⟨z796, e797⟩ : ∃ y : Int32, y = x2_lp771 + 1 := ⟨_, rfl⟩
          try (have t798 := tadd e797 rfl (b := 1) (by decide) (by omega))
          refine lv_iinc (v := z796) (lv' := [(2, .int z796), (0, .ref (g 3)), (1, .int p0)]) hx hb dX7_age_35 hl (k := 0) rfl (by rw [e797]; rfl) (by decide) rfl (fun ls hl => ?_)
          refine lv_goto (tgt := 2) hx hb dX7_age_38 (by decide) ?_
          exact ih_lp771 z796 v_lp771 (va_up F_lp771 27 (upd (F_lp771 27) (z788).toNatClampNeg z793)) _ _ _ (by omega) (by omega) hf_lp771 hI hal hP hS (lv_sub hl [0, 1, 2] rfl)
  obtain ⟨n9, hn9⟩ : ∃ n : Nat, 2147483648 - 0 ≤ (n : Int) := ⟨((2147483648 - 0 : Int)).toNat, by omega⟩
  exact lp771 n9 0 v F H _ ls (by have : (0 : Int32).toInt = 0 := (by decide); omega) (by have : (0 : Int32).toInt = 0 := (by decide); omega) (fun _ _ => rfl) hI hal hP hS hl
set_option maxHeartbeats 8000000 in
set_option maxRecDepth 100000 in
theorem c_X7_canFly (l : Launch) (dC : Nat → ClassId) (dI : Nat → Nat → Nat) (g : Nat → Nat) (c : Nat → ClassId) (adK adV : Nat → Nat) (v : Nat → Int32) (F : Nat → Nat → Int32) (rc sz : Nat) (p0 : Int32) (p1 : Int32) (p2 : Int32) (hg : injX g) (hI : IX v F) : Met l yX7_canFly (Cond.code yX7_canFly cX7_canFly 5 (some .boolean) :: wA) ({ frames := 2, cells := 0, slots := 0, locals := 80 }) (va_Pc [.ref (g 3), .int p0, .int p1, .int p2] (PX dC dI g c adK adV v F rc sz)) (va_Qi (fun (r : Int32) (u : Unit) => 0 ≤ r.toInt ∧ r.toInt ≤ 1) (fun (_ : Unit) => BX dC dI g c (v, F, rc)) (AX g sz)) 0 0 (AX g sz) := by
  refine Met.ofW (cc := cX7_canFly) (maxL := 5) (ret := (some .boolean)) (by decide) rfl ?_
  intro p e s m args below meth c0 s₁ B hml hv
  obtain ⟨rfl, hsz, hP, hK, hE⟩ := hv
  have hx := B.exec
  have hb := B.bytes
  have hr := B.returns
  have hts := atoms_spec (ws := Cond.code yX7_canFly cX7_canFly 5 (some .boolean) :: wA) B.pre
  have hwd : ∀ w ∈ wA, w.before _ s = true := fun w h => hts w (List.mem_cons_of_mem _ h)
  have hown : s.vm.findClass RX7 = some m.cls := findClass_of_methodNamed B.named
  have hlocks := B.notSynchronized
  subst hsz
  have hl := lv_entry ([.ref (g 3), .int p0, .int p1, .int p2]) (n := 5) (Nat.le_of_ble_eq_true rfl)
  rw [lg_entry_eq]
  generalize (lg_sl ([.ref (g 3), .int p0, .int p1, .int p2]) ++ List.replicate (5 - (lg_sl ([.ref (g 3), .int p0, .int p1, .int p2])).length) Slot.unset).toArray = ls at hl ⊢
  have hl : lv_has ls 5 [(0, .ref (g 3)), (1, .int p0), (2, .int p1), (3, .int p2)] := hl
  obtain ⟨H, eH⟩ : ∃ z, z = s.heap := ⟨_, rfl⟩
  have hP : va_P (dC, dI) classes (wX g c v F rc) H := by rw [eH]; exact hP
  have hS : va_S (AX g s.heap.size) s.heap H [] := by rw [eH]; exact va_S.rf
  refine my_heap eH ?_
  have rp0 := i32_rng p0
  have rp1 := i32_rng p1
  have rp2 := i32_rng p2
  refine lv_iconst (v := 0) hx hb dX7_canFly_0 (by decide) ?_
  refine lv_istore (lv' := [(4, .int 0), (0, .ref (g 3)), (1, .int p0), (2, .int p1), (3, .int p2)]) hx hb dX7_canFly_1 hl (by decide) rfl (fun ls hl => ?_)
  have lp799 : ∀ (n : Nat) (x4_lp799 : Int32) (H : Heap) (locs : List Loc) (ls : Array Slot), (0 ≤ x4_lp799.toInt) → (2147483648 - x4_lp799.toInt ≤ (n : Int)) → va_P (dC, dI) classes (wX g c v F rc) H → va_S (AX g s.heap.size) s.heap H locs → lv_has ls 5 [(4, .int x4_lp799), (0, .ref (g 3)), (1, .int p0), (2, .int p1), (3, .int p2)] → W p l e (headSpec (Cond.code yX7_canFly cX7_canFly 5 (some .boolean) :: wA) ({ frames := 2, cells := 0, slots := 0, locals := 80 })).room s m ([.ref (g 3), .int p0, .int p1, .int p2] : List Value).toArray below meth c0 H locs 0 0 (MQ below (va_Qi (fun (r : Int32) (u : Unit) => 0 ≤ r.toInt ∧ r.toInt ≤ 1) (fun (_ : Unit) => BX dC dI g c (v, F, rc)) (AX g s.heap.size)) ([.ref (g 3), .int p0, .int p1, .int p2] : List Value).toArray s 0 0 (AX g s.heap.size)) (F0 m 3 ls []) := by
    intro n
    induction n with
    | zero =>
      intro x4_lp799 H locs ls t800 hm hP hS hl
      exfalso
      have := i32_rng x4_lp799
      omega
    | succ n ih_lp799 =>
      intro x4_lp799 H locs ls t800 hm hP hS hl
      have rx4_lp799 := i32_rng x4_lp799
      refine lv_iload hx hb dX7_canFly_3 (lv_at hl 0 rfl) ?_
      refine lv_aload_n hx hb dX7_canFly_5 rfl (lv_at hl 1 rfl) ?_
      refine va_get (D := (dC, dI)) (ci := 7) (v := .int (v 61)) (C := RX7) (T := TX7) (N := 7) hx hb hwd inA_X7 hown hK hP 3 rfl rfl 1 (by decide) (hwd _ wk_289) (fun _ h9 => h9) rfl dX7_canFly_6 ?_
      have t801 : 0 ≤ (v 61).toInt ∧ (v 61).toInt ≤ 100 := hI.1 61 _ _ rfl
      refine lv_icmp_ge (tgt := 59) hx hb dX7_canFly_9 (by decide) (fun c802 => ?_) (fun c802 => ?_)
      · skip
        have t803 := cv_le (a := (v 61).toInt) rfl (b := x4_lp799.toInt) rfl c802
        refine lv_iconst (v := 1) hx hb dX7_canFly_59 (by decide) ?_
        have hP9 : va_P (dC, dI) classes (wX g c v F rc) H := hP
        exact W.zret (v := 1) hx hb hr (rfl) (fun t ht hW => ⟨⟨1, (), rfl, by have : (1 : Int32).toInt = 1 := (by decide); omega, (by show va_P _ _ _ t.heap; rw [ht]; exact hP9)⟩, hS.F ht⟩) hS.2.2 dX7_canFly_60
      · skip
        have t804 := cv_nle (a := (v 61).toInt) rfl (b := x4_lp799.toInt) rfl c802
        refine lv_aload_n hx hb dX7_canFly_12 rfl (lv_at hl 1 rfl) ?_
        refine va_get (D := (dC, dI)) (ci := 7) (v := .ref (g 26)) (C := RX7) (T := TX7) (N := 7) hx hb hwd inA_X7 hown hK hP 3 rfl rfl 4 (by decide) (hwd _ wk_97) (fun _ h9 => h9) rfl dX7_canFly_13 ?_
        refine lv_iload hx hb dX7_canFly_16 (lv_at hl 0 rfl) ?_
        refine va_iald hx hb hK hP 26 14 rfl rfl (i := x4_lp799) (vin (a := x4_lp799.toInt) rfl (by omega)) dX7_canFly_18 ?_
        refine lv_topi (fun z805 e806 => ?_)
        refine lv_iload_n hx hb dX7_canFly_19 rfl (lv_at hl 2 rfl) ?_
        refine lv_icmp_ne (tgt := 53) hx hb dX7_canFly_20 (by decide) (fun c807 => ?_) (fun c807 => ?_)
        · skip
          have t808 := cv_ne (a := z805.toInt) rfl (b := p0.toInt) rfl c807
          obtain ⟨z809, e810⟩ : ∃ y : Int32, y = x4_lp799 + 1 := ⟨_, rfl⟩
          try (have t811 := tadd e810 rfl (b := 1) (by decide) (by omega))
          refine lv_iinc (v := z809) (lv' := [(4, .int z809), (0, .ref (g 3)), (1, .int p0), (2, .int p1), (3, .int p2)]) hx hb dX7_canFly_53 hl (k := 0) rfl (by rw [e810]; rfl) (by decide) rfl (fun ls hl => ?_)
          refine lv_goto (tgt := 3) hx hb dX7_canFly_56 (by decide) ?_
          exact ih_lp799 z809  _ _ _ (by omega) (by omega) hP hS (lv_sub hl [0, 1, 2, 3, 4] rfl)
        · skip
          have t812 := cv_eq (a := z805.toInt) rfl (b := p0.toInt) rfl c807
          refine lv_aload_n hx hb dX7_canFly_23 rfl (lv_at hl 1 rfl) ?_
          refine lv_iload hx hb dX7_canFly_24 (lv_at hl 0 rfl) ?_
          refine lv_iconst (v := 0) hx hb dX7_canFly_26 (by decide) ?_
          refine va_calli (va_runV (As := [.int x4_lp799, .int 0]) (rest := []) ⟨hx, hb, hml, hown, hwd⟩ (c_X7_usedOf l dC dI g c adK adV v F rc H.size x4_lp799 0 hg hI (by omega) (by have : (0 : Int32).toInt = 0 := (by decide); omega)) (cwV 2 hwd (gV wk_369 wk_448 wk_367 wk_368 wk_26) rfl rfl rfl (by decide +kernel) ⟨Nat.le_of_ble_eq_true rfl, Nat.le_of_ble_eq_true rfl⟩) ⟨PX.blind, va_recv hK hP (ci := 7) (q0 := 3) rfl rfl, fun U hU hW => ⟨rfl, PX.at hK hE hP hS hU hW⟩⟩ rfl rfl hl.1 rfl (lv_room (Nat.le_of_ble_eq_true rfl)) dX7_canFly_27 ⟨Nat.le_of_ble_eq_true rfl, Nat.le_of_ble_eq_true rfl⟩) hS (fun q _ h => (freeX hS) q h) (freeX hS) (fun r813 u t H1 locs ht hvm hw hB hz1 hk1 hS => ?_)
          unfold BX at hB
          rw [ht] at hB
          have hP : va_P (dC, dI) classes (wX g c v F rc) H1 := hB
          generalize H1 = H at hP hS ⊢
          have rr_r813 := i32_rng r813
          refine lv_iload_n hx hb dX7_canFly_30 rfl (lv_at hl 3 rfl) ?_
          refine lv_iadd hx hb dX7_canFly_31 ?_
          refine lv_topi (fun z814 e815 => ?_)
          try (have t816 := tadd e815 (a := r813.toInt) rfl (b := p1.toInt) rfl (by omega))
          refine lv_ldc (v := 999999) hx hb hown (hwd _ wk_447) dX7_canFly_32 ?_
          refine lv_icmp_gt (tgt := 51) hx hb dX7_canFly_34 (by decide) (fun c817 => ?_) (fun c817 => ?_)
          · skip
            have t818 := cv_lt (a := 999999) (by decide) (b := z814.toInt) rfl c817
            refine lv_iconst (v := 0) hx hb dX7_canFly_51 (by decide) ?_
            have hP9 : va_P (dC, dI) classes (wX g c v F rc) H := hP
            exact W.zret (v := 0) hx hb hr (rfl) (fun t ht hW => ⟨⟨0, (), rfl, by have : (0 : Int32).toInt = 0 := (by decide); omega, (by show va_P _ _ _ t.heap; rw [ht]; exact hP9)⟩, hS.F ht⟩) hS.2.2 dX7_canFly_52
          · skip
            have t819 := cv_nlt (a := 999999) (by decide) (b := z814.toInt) rfl c817
            refine lv_aload_n hx hb dX7_canFly_37 rfl (lv_at hl 1 rfl) ?_
            refine lv_iload hx hb dX7_canFly_38 (lv_at hl 0 rfl) ?_
            refine lv_iconst (v := 1) hx hb dX7_canFly_40 (by decide) ?_
            refine va_calli (va_runV (As := [.int x4_lp799, .int 1]) (rest := []) ⟨hx, hb, hml, hown, hwd⟩ (c_X7_usedOf l dC dI g c adK adV v F rc H.size x4_lp799 1 hg hI (by omega) (by have : (1 : Int32).toInt = 1 := (by decide); omega)) (cwV 2 hwd (gV wk_369 wk_448 wk_367 wk_368 wk_26) rfl rfl rfl (by decide +kernel) ⟨Nat.le_of_ble_eq_true rfl, Nat.le_of_ble_eq_true rfl⟩) ⟨PX.blind, va_recv hK hP (ci := 7) (q0 := 3) rfl rfl, fun U hU hW => ⟨rfl, PX.at hK hE hP hS hU hW⟩⟩ rfl rfl hl.1 rfl (lv_room (Nat.le_of_ble_eq_true rfl)) dX7_canFly_41 ⟨Nat.le_of_ble_eq_true rfl, Nat.le_of_ble_eq_true rfl⟩) hS (fun q _ h => (freeX hS) q h) (freeX hS) (fun r820 u t H1 locs ht hvm hw hB hz1 hk1 hS => ?_)
            unfold BX at hB
            rw [ht] at hB
            have hP : va_P (dC, dI) classes (wX g c v F rc) H1 := hB
            generalize H1 = H at hP hS ⊢
            have rr_r820 := i32_rng r820
            refine lv_iload_n hx hb dX7_canFly_44 rfl (lv_at hl 4 rfl) ?_
            refine lv_iadd hx hb dX7_canFly_45 ?_
            refine lv_topi (fun z821 e822 => ?_)
            try (have t823 := tadd e822 (a := r820.toInt) rfl (b := p2.toInt) rfl (by omega))
            refine lv_ldc (v := 999999) hx hb hown (hwd _ wk_447) dX7_canFly_46 ?_
            refine lv_icmp_le (tgt := 53) hx hb dX7_canFly_48 (by decide) (fun c824 => ?_) (fun c824 => ?_)
            · skip
              have t825 := cv_le (a := z821.toInt) rfl (b := 999999) (by decide) c824
              obtain ⟨z826, e827⟩ : ∃ y : Int32, y = x4_lp799 + 1 := ⟨_, rfl⟩
              try (have t828 := tadd e827 rfl (b := 1) (by decide) (by omega))
              refine lv_iinc (v := z826) (lv' := [(4, .int z826), (0, .ref (g 3)), (1, .int p0), (2, .int p1), (3, .int p2)]) hx hb dX7_canFly_53 hl (k := 0) rfl (by rw [e827]; rfl) (by decide) rfl (fun ls hl => ?_)
              refine lv_goto (tgt := 3) hx hb dX7_canFly_56 (by decide) ?_
              exact ih_lp799 z826  _ _ _ (by omega) (by omega) hP hS (lv_sub hl [0, 1, 2, 3, 4] rfl)
            · skip
              have t829 := cv_nle (a := z821.toInt) rfl (b := 999999) (by decide) c824
              refine lv_iconst (v := 0) hx hb dX7_canFly_51 (by decide) ?_
              have hP9 : va_P (dC, dI) classes (wX g c v F rc) H := hP
              exact W.zret (v := 0) hx hb hr (rfl) (fun t ht hW => ⟨⟨0, (), rfl, by have : (0 : Int32).toInt = 0 := (by decide); omega, (by show va_P _ _ _ t.heap; rw [ht]; exact hP9)⟩, hS.F ht⟩) hS.2.2 dX7_canFly_52
  obtain ⟨n9, hn9⟩ : ∃ n : Nat, 2147483648 - 0 ≤ (n : Int) := ⟨((2147483648 - 0 : Int)).toNat, by omega⟩
  exact lp799 n9 0  H _ ls (by have : (0 : Int32).toInt = 0 := (by decide); omega) (by have : (0 : Int32).toInt = 0 := (by decide); omega) hP hS hl
set_option maxHeartbeats 8000000 in
set_option maxRecDepth 100000 in
theorem c_X7_wear (l : Launch) (dC : Nat → ClassId) (dI : Nat → Nat → Nat) (g : Nat → Nat) (c : Nat → ClassId) (adK adV : Nat → Nat) (v : Nat → Int32) (F : Nat → Nat → Int32) (rc sz : Nat) (p0 : Int32) (p1 : Int32) (p2 : Int32) (hg : injX g) (hI : IX v F) : Met l yX7_wear (Cond.code yX7_wear cX7_wear 5 none :: wA) ({ frames := 1, cells := 0, slots := 0, locals := 40 }) (va_Pc [.ref (g 3), .int p0, .int p1, .int p2] (PX dC dI g c adK adV v F rc sz)) (va_Qv (fun (u : StX) => IX u.1 u.2.1 ∧ alX u.1 u.2.1 = alX v F ∧ u.2.2 = rc ∧ (∀ k, k ∉ ([] : List Nat) → u.1 k = v k) ∧ True) (BX dC dI g c) (AX g sz)) 0 0 (AX g sz) := by
  refine Met.ofW (cc := cX7_wear) (maxL := 5) (ret := none) (by decide) rfl ?_
  intro p e s m args below meth c0 s₁ B hml hv
  obtain ⟨rfl, hsz, hP, hK, hE⟩ := hv
  have hx := B.exec
  have hb := B.bytes
  have hr := B.returns
  have hts := atoms_spec (ws := Cond.code yX7_wear cX7_wear 5 none :: wA) B.pre
  have hwd : ∀ w ∈ wA, w.before _ s = true := fun w h => hts w (List.mem_cons_of_mem _ h)
  have hown : s.vm.findClass RX7 = some m.cls := findClass_of_methodNamed B.named
  have hlocks := B.notSynchronized
  subst hsz
  have hl := lv_entry ([.ref (g 3), .int p0, .int p1, .int p2]) (n := 5) (Nat.le_of_ble_eq_true rfl)
  rw [lg_entry_eq]
  generalize (lg_sl ([.ref (g 3), .int p0, .int p1, .int p2]) ++ List.replicate (5 - (lg_sl ([.ref (g 3), .int p0, .int p1, .int p2])).length) Slot.unset).toArray = ls at hl ⊢
  have hl : lv_has ls 5 [(0, .ref (g 3)), (1, .int p0), (2, .int p1), (3, .int p2)] := hl
  obtain ⟨H, eH⟩ : ∃ z, z = s.heap := ⟨_, rfl⟩
  have hP : va_P (dC, dI) classes (wX g c v F rc) H := by rw [eH]; exact hP
  have hS : va_S (AX g s.heap.size) s.heap H [] := by rw [eH]; exact va_S.rf
  refine my_heap eH ?_
  have hal : alX v F = alX v F := rfl
  have rp0 := i32_rng p0
  have rp1 := i32_rng p1
  have rp2 := i32_rng p2
  refine lv_iconst (v := 0) hx hb dX7_wear_0 (by decide) ?_
  refine lv_istore (lv' := [(4, .int 0), (0, .ref (g 3)), (1, .int p0), (2, .int p1), (3, .int p2)]) hx hb dX7_wear_1 hl (by decide) rfl (fun ls hl => ?_)
  have lp830 : ∀ (n : Nat) (x4_lp830 : Int32) (v_lp830 : Nat → Int32) (F_lp830 : Nat → Nat → Int32) (H : Heap) (locs : List Loc) (ls : Array Slot), (0 ≤ x4_lp830.toInt) → (2147483648 - x4_lp830.toInt ≤ (n : Int)) → (∀ k, k ∉ ([] : List Nat) → v_lp830 k = v k) → IX v_lp830 F_lp830 → alX v_lp830 F_lp830 = alX v F → va_P (dC, dI) classes (wX g c v_lp830 F_lp830 rc) H → va_S (AX g s.heap.size) s.heap H locs → lv_has ls 5 [(4, .int x4_lp830), (0, .ref (g 3)), (1, .int p0), (2, .int p1), (3, .int p2)] → W p l e (headSpec (Cond.code yX7_wear cX7_wear 5 none :: wA) ({ frames := 1, cells := 0, slots := 0, locals := 40 })).room s m ([.ref (g 3), .int p0, .int p1, .int p2] : List Value).toArray below meth c0 H locs 0 0 (MQ below (va_Qv (fun (u : StX) => IX u.1 u.2.1 ∧ alX u.1 u.2.1 = alX v F ∧ u.2.2 = rc ∧ (∀ k, k ∉ ([] : List Nat) → u.1 k = v k) ∧ True) (BX dC dI g c) (AX g s.heap.size)) ([.ref (g 3), .int p0, .int p1, .int p2] : List Value).toArray s 0 0 (AX g s.heap.size)) (F0 m 3 ls []) := by
    intro n
    induction n with
    | zero =>
      intro x4_lp830 v_lp830 F_lp830 H locs ls t831 hm hf_lp830 hI hal hP hS hl
      exfalso
      have := i32_rng x4_lp830
      have hI1 := hI.1
      omega
    | succ n ih_lp830 =>
      intro x4_lp830 v_lp830 F_lp830 H locs ls t831 hm hf_lp830 hI hal hP hS hl
      have rx4_lp830 := i32_rng x4_lp830
      refine lv_iload hx hb dX7_wear_3 (lv_at hl 0 rfl) ?_
      refine lv_aload_n hx hb dX7_wear_5 rfl (lv_at hl 1 rfl) ?_
      refine va_get (D := (dC, dI)) (ci := 7) (v := .int (v_lp830 61)) (C := RX7) (T := TX7) (N := 7) hx hb hwd inA_X7 hown hK hP 3 rfl rfl 1 (by decide) (hwd _ wk_289) (fun _ h9 => h9) rfl dX7_wear_6 ?_
      refine my_top (v := v 61) (hf_lp830 61 (by decide)) ?_
      have t832 : 0 ≤ (v 61).toInt ∧ (v 61).toInt ≤ 100 := by have h9 := hI.1 61 _ _ rfl; rw [show v_lp830 61 = v 61 from hf_lp830 61 (by decide)] at h9; exact h9
      refine lv_icmp_ge (tgt := 59) hx hb dX7_wear_9 (by decide) (fun c833 => ?_) (fun c833 => ?_)
      · skip
        have t834 := cv_le (a := (v 61).toInt) rfl (b := x4_lp830.toInt) rfl c833
        have hP9 : va_P (dC, dI) classes (wX g c v_lp830 F_lp830 rc) H := hP
        exact W.vret hx hb hr (fun t ht hW => ⟨⟨(v_lp830, F_lp830, rc), rfl, ⟨hI, hal, rfl, (frC (by decide) hf_lp830 (fun _ _ => rfl)), trivial⟩, (by show va_P _ _ _ t.heap; rw [ht]; exact hP9)⟩, hS.F ht⟩) hS.2.2 dX7_wear_59
      · skip
        have t835 := cv_nle (a := (v 61).toInt) rfl (b := x4_lp830.toInt) rfl c833
        refine lv_aload_n hx hb dX7_wear_12 rfl (lv_at hl 1 rfl) ?_
        refine va_get (D := (dC, dI)) (ci := 7) (v := .ref (g 26)) (C := RX7) (T := TX7) (N := 7) hx hb hwd inA_X7 hown hK hP 3 rfl rfl 4 (by decide) (hwd _ wk_97) (fun _ h9 => h9) rfl dX7_wear_13 ?_
        refine lv_iload hx hb dX7_wear_16 (lv_at hl 0 rfl) ?_
        refine va_iald hx hb hK hP 26 14 rfl rfl (i := x4_lp830) (vin (a := x4_lp830.toInt) rfl (by omega)) dX7_wear_18 ?_
        refine lv_topi (fun z836 e837 => ?_)
        refine lv_iload_n hx hb dX7_wear_19 rfl (lv_at hl 2 rfl) ?_
        refine lv_icmp_ne (tgt := 53) hx hb dX7_wear_20 (by decide) (fun c838 => ?_) (fun c838 => ?_)
        · skip
          have t839 := cv_ne (a := z836.toInt) rfl (b := p0.toInt) rfl c838
          obtain ⟨z840, e841⟩ : ∃ y : Int32, y = x4_lp830 + 1 := ⟨_, rfl⟩
          try (have t842 := tadd e841 rfl (b := 1) (by decide) (by omega))
          refine lv_iinc (v := z840) (lv' := [(4, .int z840), (0, .ref (g 3)), (1, .int p0), (2, .int p1), (3, .int p2)]) hx hb dX7_wear_53 hl (k := 0) rfl (by rw [e841]; rfl) (by decide) rfl (fun ls hl => ?_)
          refine lv_goto (tgt := 3) hx hb dX7_wear_56 (by decide) ?_
          exact ih_lp830 z840 v_lp830 F_lp830 _ _ _ (by omega) (by omega) hf_lp830 hI hal hP hS (lv_sub hl [0, 1, 2, 3, 4] rfl)
        · skip
          have t843 := cv_eq (a := z836.toInt) rfl (b := p0.toInt) rfl c838
          refine lv_aload_n hx hb dX7_wear_23 rfl (lv_at hl 1 rfl) ?_
          refine va_get (D := (dC, dI)) (ci := 7) (v := .ref (g 27)) (C := RX7) (T := TX7) (N := 7) hx hb hwd inA_X7 hown hK hP 3 rfl rfl 5 (by decide) (hwd _ wk_98) (fun _ h9 => h9) rfl dX7_wear_24 ?_
          refine lv_iload hx hb dX7_wear_27 (lv_at hl 0 rfl) ?_
          refine lv_iconst (v := 3) hx hb dX7_wear_29 (by decide) ?_
          refine lv_imul hx hb dX7_wear_30 ?_
          refine lv_topi (fun z844 e845 => ?_)
          try (have t846 := tmul e845 (a := x4_lp830.toInt) rfl (b := 3) (by decide) (by omega))
          refine lv_iconst (v := 0) hx hb dX7_wear_31 (by decide) ?_
          refine lv_iadd hx hb dX7_wear_32 ?_
          refine lv_topi (fun z847 e848 => ?_)
          try (have t849 := tadd e848 (a := z844.toInt) rfl (b := 0) (by decide) (by omega))
          refine lv_dup2_11 hx hb dX7_wear_33 rfl rfl ?_
          refine va_iald hx hb hK hP 27 15 rfl rfl (i := z847) (vin (a := z847.toInt) rfl (by omega)) dX7_wear_34 ?_
          refine lv_topi (fun z850 e851 => ?_)
          refine lv_iload_n hx hb dX7_wear_35 rfl (lv_at hl 3 rfl) ?_
          refine lv_iadd hx hb dX7_wear_36 ?_
          refine lv_topi (fun z852 e853 => ?_)
          try (have t854 := tadd e853 (a := z850.toInt) rfl (b := p1.toInt) rfl (by omega))
          refine va_iast hx hb hK hP (DX hg) hS 27 15 rfl rfl (i := z847) (x := z852) (vin (a := z847.toInt) rfl (by omega)) dX7_wear_37 (fun H locs hP _ hS => ?_)
          have hP := va_P_eq (sX_27 g c _ _ _ _) hP
          have hI := IX.store0 hI 27 (z847).toNatClampNeg z852 rfl
          have hal := (alX_F _ _ 27 (upd (F_lp830 27) (z847).toNatClampNeg z852) (by decide) (by decide)).trans hal
          refine lv_aload_n hx hb dX7_wear_38 rfl (lv_at hl 1 rfl) ?_
          refine va_get (D := (dC, dI)) (ci := 7) (v := .ref (g 27)) (C := RX7) (T := TX7) (N := 7) hx hb hwd inA_X7 hown hK hP 3 rfl rfl 5 (by decide) (hwd _ wk_98) (fun _ h9 => h9) rfl dX7_wear_39 ?_
          refine lv_iload hx hb dX7_wear_42 (lv_at hl 0 rfl) ?_
          refine lv_iconst (v := 3) hx hb dX7_wear_44 (by decide) ?_
          refine lv_imul hx hb dX7_wear_45 ?_
          refine lv_topi (fun z855 e856 => ?_)
          try (have t857 := tmul e856 (a := x4_lp830.toInt) rfl (b := 3) (by decide) (by omega))
          refine lv_iconst (v := 1) hx hb dX7_wear_46 (by decide) ?_
          refine lv_iadd hx hb dX7_wear_47 ?_
          refine lv_topi (fun z858 e859 => ?_)
          try (have t860 := tadd e859 (a := z855.toInt) rfl (b := 1) (by decide) (by omega))
          refine lv_dup2_11 hx hb dX7_wear_48 rfl rfl ?_
          refine va_iald hx hb hK hP 27 15 rfl rfl (i := z858) (vin (a := z858.toInt) rfl (by omega)) dX7_wear_49 ?_
          refine lv_topi (fun z861 e862 => ?_)
          refine lv_iload_n hx hb dX7_wear_50 rfl (lv_at hl 4 rfl) ?_
          refine lv_iadd hx hb dX7_wear_51 ?_
          refine lv_topi (fun z863 e864 => ?_)
          try (have t865 := tadd e864 (a := z861.toInt) rfl (b := p2.toInt) rfl (by omega))
          refine va_iast hx hb hK hP (DX hg) hS 27 15 rfl rfl (i := z858) (x := z863) (vin (a := z858.toInt) rfl (by omega)) dX7_wear_52 (fun H locs hP _ hS => ?_)
          have hP := va_P_eq (sX_27 g c _ _ _ _) hP
          have hI := IX.store0 hI 27 (z858).toNatClampNeg z863 rfl
          have hal := (alX_F _ _ 27 (upd ((va_up F_lp830 27 (upd (F_lp830 27) (z847).toNatClampNeg z852)) 27) (z858).toNatClampNeg z863) (by decide) (by decide)).trans hal
          obtain ⟨z866, e867⟩ : ∃ y : Int32, y = x4_lp830 + 1 := ⟨_, rfl⟩
          try (have t868 := tadd e867 rfl (b := 1) (by decide) (by omega))
          refine lv_iinc (v := z866) (lv' := [(4, .int z866), (0, .ref (g 3)), (1, .int p0), (2, .int p1), (3, .int p2)]) hx hb dX7_wear_53 hl (k := 0) rfl (by rw [e867]; rfl) (by decide) rfl (fun ls hl => ?_)
          refine lv_goto (tgt := 3) hx hb dX7_wear_56 (by decide) ?_
          exact ih_lp830 z866 v_lp830 (va_up (va_up F_lp830 27 (upd (F_lp830 27) (z847).toNatClampNeg z852)) 27 (upd ((va_up F_lp830 27 (upd (F_lp830 27) (z847).toNatClampNeg z852)) 27) (z858).toNatClampNeg z863)) _ _ _ (by omega) (by omega) hf_lp830 hI hal hP hS (lv_sub hl [0, 1, 2, 3, 4] rfl)
  obtain ⟨n9, hn9⟩ : ∃ n : Nat, 2147483648 - 0 ≤ (n : Int) := ⟨((2147483648 - 0 : Int)).toNat, by omega⟩
  exact lp830 n9 0 v F H _ ls (by have : (0 : Int32).toInt = 0 := (by decide); omega) (by have : (0 : Int32).toInt = 0 := (by decide); omega) (fun _ _ => rfl) hI hal hP hS hl
set_option maxHeartbeats 8000000 in
set_option maxRecDepth 100000 in
theorem c_X7_renew (l : Launch) (dC : Nat → ClassId) (dI : Nat → Nat → Nat) (g : Nat → Nat) (c : Nat → ClassId) (adK adV : Nat → Nat) (v : Nat → Int32) (F : Nat → Nat → Int32) (rc sz : Nat) (p0 : Int32) (p1 : Int32) (hg : injX g) (hI : IX v F) (h0 : 0 ≤ p0.toInt ∧ p0.toInt ≤ 99) : Met l yX7_renew (Cond.code yX7_renew cX7_renew 4 none :: wA) ({ frames := 1, cells := 0, slots := 0, locals := 40 }) (va_Pc [.ref (g 3), .int p0, .int p1] (PX dC dI g c adK adV v F rc sz)) (va_Qv (fun (u : StX) => IX u.1 u.2.1 ∧ alX u.1 u.2.1 = alX v F ∧ u.2.2 = rc ∧ (∀ k, k ∉ ([] : List Nat) → u.1 k = v k) ∧ True) (BX dC dI g c) (AX g sz)) 0 0 (AX g sz) := by
  refine Met.ofW (cc := cX7_renew) (maxL := 4) (ret := none) (by decide) rfl ?_
  intro p e s m args below meth c0 s₁ B hml hv
  obtain ⟨rfl, hsz, hP, hK, hE⟩ := hv
  have hx := B.exec
  have hb := B.bytes
  have hr := B.returns
  have hts := atoms_spec (ws := Cond.code yX7_renew cX7_renew 4 none :: wA) B.pre
  have hwd : ∀ w ∈ wA, w.before _ s = true := fun w h => hts w (List.mem_cons_of_mem _ h)
  have hown : s.vm.findClass RX7 = some m.cls := findClass_of_methodNamed B.named
  have hlocks := B.notSynchronized
  subst hsz
  have hl := lv_entry ([.ref (g 3), .int p0, .int p1]) (n := 4) (Nat.le_of_ble_eq_true rfl)
  rw [lg_entry_eq]
  generalize (lg_sl ([.ref (g 3), .int p0, .int p1]) ++ List.replicate (4 - (lg_sl ([.ref (g 3), .int p0, .int p1])).length) Slot.unset).toArray = ls at hl ⊢
  have hl : lv_has ls 4 [(0, .ref (g 3)), (1, .int p0), (2, .int p1)] := hl
  obtain ⟨H, eH⟩ : ∃ z, z = s.heap := ⟨_, rfl⟩
  have hP : va_P (dC, dI) classes (wX g c v F rc) H := by rw [eH]; exact hP
  have hS : va_S (AX g s.heap.size) s.heap H [] := by rw [eH]; exact va_S.rf
  refine my_heap eH ?_
  have hal : alX v F = alX v F := rfl
  have rp0 := i32_rng p0
  have rp1 := i32_rng p1
  refine lv_iconst (v := 0) hx hb dX7_renew_0 (by decide) ?_
  refine lv_istore_n (lv' := [(3, .int 0), (0, .ref (g 3)), (1, .int p0), (2, .int p1)]) hx hb dX7_renew_1 rfl hl (by decide) rfl (fun ls hl => ?_)
  have lp869 : ∀ (n : Nat) (x3_lp869 : Int32) (v_lp869 : Nat → Int32) (F_lp869 : Nat → Nat → Int32) (H : Heap) (locs : List Loc) (ls : Array Slot), (0 ≤ x3_lp869.toInt) → (2147483648 - x3_lp869.toInt ≤ (n : Int)) → (∀ k, k ∉ ([] : List Nat) → v_lp869 k = v k) → IX v_lp869 F_lp869 → alX v_lp869 F_lp869 = alX v F → va_P (dC, dI) classes (wX g c v_lp869 F_lp869 rc) H → va_S (AX g s.heap.size) s.heap H locs → lv_has ls 4 [(3, .int x3_lp869), (0, .ref (g 3)), (1, .int p0), (2, .int p1)] → W p l e (headSpec (Cond.code yX7_renew cX7_renew 4 none :: wA) ({ frames := 1, cells := 0, slots := 0, locals := 40 })).room s m ([.ref (g 3), .int p0, .int p1] : List Value).toArray below meth c0 H locs 0 0 (MQ below (va_Qv (fun (u : StX) => IX u.1 u.2.1 ∧ alX u.1 u.2.1 = alX v F ∧ u.2.2 = rc ∧ (∀ k, k ∉ ([] : List Nat) → u.1 k = v k) ∧ True) (BX dC dI g c) (AX g s.heap.size)) ([.ref (g 3), .int p0, .int p1] : List Value).toArray s 0 0 (AX g s.heap.size)) (F0 m 2 ls []) := by
    intro n
    induction n with
    | zero =>
      intro x3_lp869 v_lp869 F_lp869 H locs ls t870 hm hf_lp869 hI hal hP hS hl
      exfalso
      have := i32_rng x3_lp869
      have hI1 := hI.1
      omega
    | succ n ih_lp869 =>
      intro x3_lp869 v_lp869 F_lp869 H locs ls t870 hm hf_lp869 hI hal hP hS hl
      have rx3_lp869 := i32_rng x3_lp869
      refine lv_iload_n hx hb dX7_renew_2 rfl (lv_at hl 0 rfl) ?_
      refine lv_iconst (v := 3) hx hb dX7_renew_3 (by decide) ?_
      refine lv_icmp_ge (tgt := 33) hx hb dX7_renew_4 (by decide) (fun c871 => ?_) (fun c871 => ?_)
      · skip
        have t872 := cv_le (a := 3) (by decide) (b := x3_lp869.toInt) rfl c871
        have hP9 : va_P (dC, dI) classes (wX g c v_lp869 F_lp869 rc) H := hP
        exact W.vret hx hb hr (fun t ht hW => ⟨⟨(v_lp869, F_lp869, rc), rfl, ⟨hI, hal, rfl, (frC (by decide) hf_lp869 (fun _ _ => rfl)), trivial⟩, (by show va_P _ _ _ t.heap; rw [ht]; exact hP9)⟩, hS.F ht⟩) hS.2.2 dX7_renew_33
      · skip
        have t873 := cv_nle (a := 3) (by decide) (b := x3_lp869.toInt) rfl c871
        refine lv_iload_n hx hb dX7_renew_7 rfl (lv_at hl 3 rfl) ?_
        refine lv_iload_n hx hb dX7_renew_8 rfl (lv_at hl 0 rfl) ?_
        refine lv_ishr hx hb dX7_renew_9 ?_
        refine lv_topi (fun z874 e875 => ?_)
        refine lv_iconst (v := 1) hx hb dX7_renew_10 (by decide) ?_
        refine lv_iand hx hb dX7_renew_11 ?_
        refine lv_topi (fun z877 e878 => ?_)
        refine lv_iconst (v := 1) hx hb dX7_renew_12 (by decide) ?_
        refine lv_icmp_ne (tgt := 27) hx hb dX7_renew_13 (by decide) (fun c880 => ?_) (fun c880 => ?_)
        · skip
          have t881 := cv_ne (a := z877.toInt) rfl (b := 1) (by decide) c880
          obtain ⟨z882, e883⟩ : ∃ y : Int32, y = x3_lp869 + 1 := ⟨_, rfl⟩
          try (have t884 := tadd e883 rfl (b := 1) (by decide) (by omega))
          refine lv_iinc (v := z882) (lv' := [(3, .int z882), (0, .ref (g 3)), (1, .int p0), (2, .int p1)]) hx hb dX7_renew_27 hl (k := 0) rfl (by rw [e883]; rfl) (by decide) rfl (fun ls hl => ?_)
          refine lv_goto (tgt := 2) hx hb dX7_renew_30 (by decide) ?_
          exact ih_lp869 z882 v_lp869 F_lp869 _ _ _ (by omega) (by omega) hf_lp869 hI hal hP hS (lv_sub hl [0, 1, 2, 3] rfl)
        · skip
          have t885 := cv_eq (a := z877.toInt) rfl (b := 1) (by decide) c880
          refine lv_aload_n hx hb dX7_renew_16 rfl (lv_at hl 1 rfl) ?_
          refine va_get (D := (dC, dI)) (ci := 7) (v := .ref (g 27)) (C := RX7) (T := TX7) (N := 7) hx hb hwd inA_X7 hown hK hP 3 rfl rfl 5 (by decide) (hwd _ wk_98) (fun _ h9 => h9) rfl dX7_renew_17 ?_
          refine lv_iload_n hx hb dX7_renew_20 rfl (lv_at hl 2 rfl) ?_
          refine lv_iconst (v := 3) hx hb dX7_renew_21 (by decide) ?_
          refine lv_imul hx hb dX7_renew_22 ?_
          refine lv_topi (fun z886 e887 => ?_)
          try (have t888 := tmul e887 (a := p0.toInt) rfl (b := 3) (by decide) (by omega))
          refine lv_iload_n hx hb dX7_renew_23 rfl (lv_at hl 0 rfl) ?_
          refine lv_iadd hx hb dX7_renew_24 ?_
          refine lv_topi (fun z889 e890 => ?_)
          try (have t891 := tadd e890 (a := z886.toInt) rfl (b := x3_lp869.toInt) rfl (by omega))
          refine lv_iconst (v := 0) hx hb dX7_renew_25 (by decide) ?_
          refine va_iast hx hb hK hP (DX hg) hS 27 15 rfl rfl (i := z889) (x := 0) (vin (a := z889.toInt) rfl (by omega)) dX7_renew_26 (fun H locs hP _ hS => ?_)
          have hP := va_P_eq (sX_27 g c _ _ _ _) hP
          have hI := IX.store0 hI 27 (z889).toNatClampNeg 0 rfl
          have hal := (alX_F _ _ 27 (upd (F_lp869 27) (z889).toNatClampNeg 0) (by decide) (by decide)).trans hal
          obtain ⟨z892, e893⟩ : ∃ y : Int32, y = x3_lp869 + 1 := ⟨_, rfl⟩
          try (have t894 := tadd e893 rfl (b := 1) (by decide) (by omega))
          refine lv_iinc (v := z892) (lv' := [(3, .int z892), (0, .ref (g 3)), (1, .int p0), (2, .int p1)]) hx hb dX7_renew_27 hl (k := 0) rfl (by rw [e893]; rfl) (by decide) rfl (fun ls hl => ?_)
          refine lv_goto (tgt := 2) hx hb dX7_renew_30 (by decide) ?_
          exact ih_lp869 z892 v_lp869 (va_up F_lp869 27 (upd (F_lp869 27) (z889).toNatClampNeg 0)) _ _ _ (by omega) (by omega) hf_lp869 hI hal hP hS (lv_sub hl [0, 1, 2, 3] rfl)
  obtain ⟨n9, hn9⟩ : ∃ n : Nat, 2147483648 - 0 ≤ (n : Int) := ⟨((2147483648 - 0 : Int)).toNat, by omega⟩
  exact lp869 n9 0 v F H _ ls (by have : (0 : Int32).toInt = 0 := (by decide); omega) (by have : (0 : Int32).toInt = 0 := (by decide); omega) (fun _ _ => rfl) hI hal hP hS hl
set_option maxHeartbeats 8000000 in
set_option maxRecDepth 100000 in
theorem c_X7_usedAtEnd (l : Launch) (dC : Nat → ClassId) (dI : Nat → Nat → Nat) (g : Nat → Nat) (c : Nat → ClassId) (adK adV : Nat → Nat) (v : Nat → Int32) (F : Nat → Nat → Int32) (rc sz : Nat) (p0 : Int32) (p1 : Int32) (p2 : Int32) (hg : injX g) (hI : IX v F) (h0 : 0 ≤ p0.toInt ∧ p0.toInt ≤ 99) (h1 : 0 ≤ p1.toInt ∧ p1.toInt ≤ 499) (h2 : 0 ≤ p2.toInt ∧ p2.toInt ≤ 2) : Met l yX7_usedAtEnd (Cond.code yX7_usedAtEnd cX7_usedAtEnd 4 (some .int) :: wA) ({ frames := 2, cells := 0, slots := 0, locals := 80 }) (va_Pc [.ref (g 3), .int p0, .int p1, .int p2] (PX dC dI g c adK adV v F rc sz)) (va_Qi (fun (r : Int32) (u : Unit) => True) (fun (_ : Unit) => BX dC dI g c (v, F, rc)) (AX g sz)) 0 0 (AX g sz) := by
  refine Met.ofW (cc := cX7_usedAtEnd) (maxL := 4) (ret := (some .int)) (by decide) rfl ?_
  intro p e s m args below meth c0 s₁ B hml hv
  obtain ⟨rfl, hsz, hP, hK, hE⟩ := hv
  have hx := B.exec
  have hb := B.bytes
  have hr := B.returns
  have hts := atoms_spec (ws := Cond.code yX7_usedAtEnd cX7_usedAtEnd 4 (some .int) :: wA) B.pre
  have hwd : ∀ w ∈ wA, w.before _ s = true := fun w h => hts w (List.mem_cons_of_mem _ h)
  have hown : s.vm.findClass RX7 = some m.cls := findClass_of_methodNamed B.named
  have hlocks := B.notSynchronized
  subst hsz
  have hl := lv_entry ([.ref (g 3), .int p0, .int p1, .int p2]) (n := 4) (Nat.le_of_ble_eq_true rfl)
  rw [lg_entry_eq]
  generalize (lg_sl ([.ref (g 3), .int p0, .int p1, .int p2]) ++ List.replicate (4 - (lg_sl ([.ref (g 3), .int p0, .int p1, .int p2])).length) Slot.unset).toArray = ls at hl ⊢
  have hl : lv_has ls 4 [(0, .ref (g 3)), (1, .int p0), (2, .int p1), (3, .int p2)] := hl
  obtain ⟨H, eH⟩ : ∃ z, z = s.heap := ⟨_, rfl⟩
  have hP : va_P (dC, dI) classes (wX g c v F rc) H := by rw [eH]; exact hP
  have hS : va_S (AX g s.heap.size) s.heap H [] := by rw [eH]; exact va_S.rf
  refine my_heap eH ?_
  have rp0 := i32_rng p0
  have rp1 := i32_rng p1
  have rp2 := i32_rng p2
  refine lv_aload_n hx hb dX7_usedAtEnd_0 rfl (lv_at hl 0 rfl) ?_
  refine va_get (D := (dC, dI)) (ci := 7) (v := .ref (g 4)) (C := RX7) (T := TX7) (N := 7) hx hb hwd inA_X7 hown hK hP 3 rfl rfl 0 (by decide) (hwd _ wk_100) (fun _ h9 => h9) rfl dX7_usedAtEnd_1 ?_
  refine lv_iload_n hx hb dX7_usedAtEnd_4 rfl (lv_at hl 2 rfl) ?_
  refine va_calli (va_runV (As := [.int p1]) (rest := []) ⟨hx, hb, hml, hown, hwd⟩ (c_X9_goesOn l dC dI g c adK adV v F rc H.size p1 hg hI (by omega)) (cwV 1 hwd (gV wk_377 wk_700 wk_375 wk_376 wk_22) rfl rfl rfl (by decide +kernel) ⟨Nat.le_of_ble_eq_true rfl, Nat.le_of_ble_eq_true rfl⟩) ⟨PX.blind, va_recv hK hP (ci := 9) (q0 := 4) rfl rfl, fun U hU hW => ⟨rfl, PX.at hK hE hP hS hU hW⟩⟩ rfl rfl hl.1 rfl (lv_room (Nat.le_of_ble_eq_true rfl)) dX7_usedAtEnd_5 ⟨Nat.le_of_ble_eq_true rfl, Nat.le_of_ble_eq_true rfl⟩) hS (fun q _ h => (freeX hS) q h) (freeX hS) (fun r895 u t H1 locs ht hvm hw hB hz1 hk1 hS => ?_)
  unfold BX at hB
  rw [ht] at hB
  have hP : va_P (dC, dI) classes (wX g c v F rc) H1 := hB
  have hw : 0 ≤ r895.toInt ∧ r895.toInt ≤ 1 := hw
  generalize H1 = H at hP hS ⊢
  have hw_r895 := hw
  refine lv_if_eq (tgt := 20) hx hb dX7_usedAtEnd_8 (by decide) (fun c896 => ?_) (fun c896 => ?_)
  · skip
    have t897 := cv_eq (a := r895.toInt) rfl (b := 0) (by decide) c896
    refine lv_aload_n hx hb dX7_usedAtEnd_20 rfl (lv_at hl 0 rfl) ?_
    refine va_get (D := (dC, dI)) (ci := 7) (v := .ref (g 4)) (C := RX7) (T := TX7) (N := 7) hx hb hwd inA_X7 hown hK hP 3 rfl rfl 0 (by decide) (hwd _ wk_100) (fun _ h9 => h9) rfl dX7_usedAtEnd_21 ?_
    refine lv_iload_n hx hb dX7_usedAtEnd_24 rfl (lv_at hl 2 rfl) ?_
    refine lv_iload_n hx hb dX7_usedAtEnd_25 rfl (lv_at hl 3 rfl) ?_
    refine va_calli (va_runV (As := [.int p1, .int p2]) (rest := []) ⟨hx, hb, hml, hown, hwd⟩ (c_X9_usedAtEnd l dC dI g c adK adV v F rc H.size p1 p2 hg hI (by omega)) (cwV 2 hwd (gV wk_704 wk_701 wk_702 wk_703 wk_22) rfl rfl rfl (by decide +kernel) ⟨Nat.le_of_ble_eq_true rfl, Nat.le_of_ble_eq_true rfl⟩) ⟨PX.blind, va_recv hK hP (ci := 9) (q0 := 4) rfl rfl, fun U hU hW => ⟨rfl, PX.at hK hE hP hS hU hW⟩⟩ rfl rfl hl.1 rfl (lv_room (Nat.le_of_ble_eq_true rfl)) dX7_usedAtEnd_26 ⟨Nat.le_of_ble_eq_true rfl, Nat.le_of_ble_eq_true rfl⟩) hS (fun q _ h => (freeX hS) q h) (freeX hS) (fun r898 u t H1 locs ht hvm hw hB hz1 hk1 hS => ?_)
    unfold BX at hB
    rw [ht] at hB
    have hP : va_P (dC, dI) classes (wX g c v F rc) H1 := hB
    generalize H1 = H at hP hS ⊢
    have rr_r898 := i32_rng r898
    have hP9 : va_P (dC, dI) classes (wX g c v F rc) H := hP
    exact W.iret (v := r898) hx hb hr (fun t ht hW => ⟨⟨r898, (), rfl, trivial, (by show va_P _ _ _ t.heap; rw [ht]; exact hP9)⟩, hS.F ht⟩) hS.2.2 dX7_usedAtEnd_29
  · skip
    have t899 := cv_ne (a := r895.toInt) rfl (b := 0) (by decide) c896
    refine lv_aload_n hx hb dX7_usedAtEnd_11 rfl (lv_at hl 0 rfl) ?_
    refine lv_iload_n hx hb dX7_usedAtEnd_12 rfl (lv_at hl 1 rfl) ?_
    refine lv_iload_n hx hb dX7_usedAtEnd_13 rfl (lv_at hl 3 rfl) ?_
    refine va_calli (va_runV (As := [.int p0, .int p2]) (rest := []) ⟨hx, hb, hml, hown, hwd⟩ (c_X7_usedOf l dC dI g c adK adV v F rc H.size p0 p2 hg hI (by omega) (by omega)) (cwV 2 hwd (gV wk_369 wk_448 wk_367 wk_368 wk_26) rfl rfl rfl (by decide +kernel) ⟨Nat.le_of_ble_eq_true rfl, Nat.le_of_ble_eq_true rfl⟩) ⟨PX.blind, va_recv hK hP (ci := 7) (q0 := 3) rfl rfl, fun U hU hW => ⟨rfl, PX.at hK hE hP hS hU hW⟩⟩ rfl rfl hl.1 rfl (lv_room (Nat.le_of_ble_eq_true rfl)) dX7_usedAtEnd_14 ⟨Nat.le_of_ble_eq_true rfl, Nat.le_of_ble_eq_true rfl⟩) hS (fun q _ h => (freeX hS) q h) (freeX hS) (fun r900 u t H1 locs ht hvm hw hB hz1 hk1 hS => ?_)
    unfold BX at hB
    rw [ht] at hB
    have hP : va_P (dC, dI) classes (wX g c v F rc) H1 := hB
    generalize H1 = H at hP hS ⊢
    have rr_r900 := i32_rng r900
    refine lv_goto (tgt := 29) hx hb dX7_usedAtEnd_17 (by decide) ?_
    have hP9 : va_P (dC, dI) classes (wX g c v F rc) H := hP
    exact W.iret (v := r900) hx hb hr (fun t ht hW => ⟨⟨r900, (), rfl, trivial, (by show va_P _ _ _ t.heap; rw [ht]; exact hP9)⟩, hS.F ht⟩) hS.2.2 dX7_usedAtEnd_29
set_option maxHeartbeats 8000000 in
set_option maxRecDepth 100000 in
theorem c_X7_placeAhead (l : Launch) (dC : Nat → ClassId) (dI : Nat → Nat → Nat) (g : Nat → Nat) (c : Nat → ClassId) (adK adV : Nat → Nat) (v : Nat → Int32) (F : Nat → Nat → Int32) (rc sz : Nat) (p0 : Int32) (hg : injX g) (hI : IX v F) (h0 : 0 ≤ p0.toInt ∧ p0.toInt ≤ 99) : Met l yX7_placeAhead (Cond.code yX7_placeAhead cX7_placeAhead 3 (some .int) :: wA) ({ frames := 2, cells := 0, slots := 0, locals := 80 }) (va_Pc [.ref (g 3), .int p0] (PX dC dI g c adK adV v F rc sz)) (va_Qi (fun (r : Int32) (u : Unit) => True) (fun (_ : Unit) => BX dC dI g c (v, F, rc)) (AX g sz)) 0 0 (AX g sz) := by
  refine Met.ofW (cc := cX7_placeAhead) (maxL := 3) (ret := (some .int)) (by decide) rfl ?_
  intro p e s m args below meth c0 s₁ B hml hv
  obtain ⟨rfl, hsz, hP, hK, hE⟩ := hv
  have hx := B.exec
  have hb := B.bytes
  have hr := B.returns
  have hts := atoms_spec (ws := Cond.code yX7_placeAhead cX7_placeAhead 3 (some .int) :: wA) B.pre
  have hwd : ∀ w ∈ wA, w.before _ s = true := fun w h => hts w (List.mem_cons_of_mem _ h)
  have hown : s.vm.findClass RX7 = some m.cls := findClass_of_methodNamed B.named
  have hlocks := B.notSynchronized
  subst hsz
  have hl := lv_entry ([.ref (g 3), .int p0]) (n := 3) (Nat.le_of_ble_eq_true rfl)
  rw [lg_entry_eq]
  generalize (lg_sl ([.ref (g 3), .int p0]) ++ List.replicate (3 - (lg_sl ([.ref (g 3), .int p0])).length) Slot.unset).toArray = ls at hl ⊢
  have hl : lv_has ls 3 [(0, .ref (g 3)), (1, .int p0)] := hl
  obtain ⟨H, eH⟩ : ∃ z, z = s.heap := ⟨_, rfl⟩
  have hP : va_P (dC, dI) classes (wX g c v F rc) H := by rw [eH]; exact hP
  have hS : va_S (AX g s.heap.size) s.heap H [] := by rw [eH]; exact va_S.rf
  refine my_heap eH ?_
  have rp0 := i32_rng p0
  refine lv_aload_n hx hb dX7_placeAhead_0 rfl (lv_at hl 0 rfl) ?_
  refine va_get (D := (dC, dI)) (ci := 7) (v := .ref (g 4)) (C := RX7) (T := TX7) (N := 7) hx hb hwd inA_X7 hown hK hP 3 rfl rfl 0 (by decide) (hwd _ wk_100) (fun _ h9 => h9) rfl dX7_placeAhead_1 ?_
  refine lv_iload_n hx hb dX7_placeAhead_4 rfl (lv_at hl 1 rfl) ?_
  refine lv_aload_n hx hb dX7_placeAhead_5 rfl (lv_at hl 0 rfl) ?_
  refine va_get (D := (dC, dI)) (ci := 7) (v := .ref (g 28)) (C := RX7) (T := TX7) (N := 7) hx hb hwd inA_X7 hown hK hP 3 rfl rfl 6 (by decide) (hwd _ wk_99) (fun _ h9 => h9) rfl dX7_placeAhead_6 ?_
  refine lv_iload_n hx hb dX7_placeAhead_9 rfl (lv_at hl 1 rfl) ?_
  refine va_iald hx hb hK hP 28 16 rfl rfl (i := p0) (vin (a := p0.toInt) rfl (by omega)) dX7_placeAhead_10 ?_
  refine lv_topi (fun z901 e902 => ?_)
  refine va_calli (va_runV (As := [.int p0, .int z901]) (rest := []) ⟨hx, hb, hml, hown, hwd⟩ (c_X9_aheadOf l dC dI g c adK adV v F rc H.size p0 z901 hg hI (by omega)) (cwV 2 hwd (gV wk_1338 wk_1335 wk_1336 wk_1337 wk_22) rfl rfl rfl (by decide +kernel) ⟨Nat.le_of_ble_eq_true rfl, Nat.le_of_ble_eq_true rfl⟩) ⟨PX.blind, va_recv hK hP (ci := 9) (q0 := 4) rfl rfl, fun U hU hW => ⟨rfl, PX.at hK hE hP hS hU hW⟩⟩ rfl rfl hl.1 rfl (lv_room (Nat.le_of_ble_eq_true rfl)) dX7_placeAhead_11 ⟨Nat.le_of_ble_eq_true rfl, Nat.le_of_ble_eq_true rfl⟩) hS (fun q _ h => (freeX hS) q h) (freeX hS) (fun r903 u t H1 locs ht hvm hw hB hz1 hk1 hS => ?_)
  unfold BX at hB
  rw [ht] at hB
  have hP : va_P (dC, dI) classes (wX g c v F rc) H1 := hB
  have hw : -1 ≤ r903.toInt ∧ r903.toInt ≤ 499 := hw
  generalize H1 = H at hP hS ⊢
  have hw_r903 := hw
  refine lv_istore_n (lv' := [(2, .int r903), (0, .ref (g 3)), (1, .int p0)]) hx hb dX7_placeAhead_14 rfl hl (by decide) rfl (fun ls hl => ?_)
  refine lv_iload_n hx hb dX7_placeAhead_15 rfl (lv_at hl 0 rfl) ?_
  refine lv_iconst (v := (-1)) hx hb dX7_placeAhead_16 (by decide) ?_
  refine lv_icmp_ne (tgt := 24) hx hb dX7_placeAhead_17 (by decide) (fun c904 => ?_) (fun c904 => ?_)
  · skip
    have t905 := cv_ne (a := r903.toInt) rfl (b := (-1)) (by decide) c904
    refine lv_aload_n hx hb dX7_placeAhead_24 rfl (lv_at hl 1 rfl) ?_
    refine va_get (D := (dC, dI)) (ci := 7) (v := .ref (g 4)) (C := RX7) (T := TX7) (N := 7) hx hb hwd inA_X7 hown hK hP 3 rfl rfl 0 (by decide) (hwd _ wk_100) (fun _ h9 => h9) rfl dX7_placeAhead_25 ?_
    refine va_get (D := (dC, dI)) (ci := 9) (v := .ref (g 29)) (C := RX9) (T := TX9) (N := 11) hx hb hwd inA_X9 hown hK hP 4 rfl rfl 1 (by decide) (hwd _ wk_690) (fun _ h9 => h9) rfl dX7_placeAhead_28 ?_
    refine lv_iload_n hx hb dX7_placeAhead_31 rfl (lv_at hl 0 rfl) ?_
    refine va_iald hx hb hK hP 29 17 rfl rfl (i := r903) (vin (a := r903.toInt) rfl (by omega)) dX7_placeAhead_32 ?_
    refine lv_topi (fun z906 e907 => ?_)
    have hP9 : va_P (dC, dI) classes (wX g c v F rc) H := hP
    exact W.iret (v := z906) hx hb hr (fun t ht hW => ⟨⟨z906, (), rfl, trivial, (by show va_P _ _ _ t.heap; rw [ht]; exact hP9)⟩, hS.F ht⟩) hS.2.2 dX7_placeAhead_33
  · skip
    have t908 := cv_eq (a := r903.toInt) rfl (b := (-1)) (by decide) c904
    refine lv_iconst (v := (-1)) hx hb dX7_placeAhead_20 (by decide) ?_
    refine lv_goto (tgt := 33) hx hb dX7_placeAhead_21 (by decide) ?_
    have hP9 : va_P (dC, dI) classes (wX g c v F rc) H := hP
    exact W.iret (v := (-1)) hx hb hr (fun t ht hW => ⟨⟨(-1), (), rfl, trivial, (by show va_P _ _ _ t.heap; rw [ht]; exact hP9)⟩, hS.F ht⟩) hS.2.2 dX7_placeAhead_33
set_option maxHeartbeats 8000000 in
set_option maxRecDepth 100000 in
theorem c_X7_isLess (l : Launch) (dC : Nat → ClassId) (dI : Nat → Nat → Nat) (g : Nat → Nat) (c : Nat → ClassId) (adK adV : Nat → Nat) (v : Nat → Int32) (F : Nat → Nat → Int32) (rc sz : Nat) (p0 : Int32) (p1 : Int32) (p2 : Int32) (hg : injX g) (hI : IX v F) (h0 : 0 ≤ p0.toInt ∧ p0.toInt ≤ 99) (h1 : 0 ≤ p1.toInt ∧ p1.toInt ≤ 499) (h2 : 0 ≤ p2.toInt ∧ p2.toInt ≤ 499) : Met l yX7_isLess (Cond.code yX7_isLess cX7_isLess 7 (some .boolean) :: wA) ({ frames := 3, cells := 0, slots := 0, locals := 120 }) (va_Pc [.ref (g 3), .int p0, .int p1, .int p2] (PX dC dI g c adK adV v F rc sz)) (va_Qi (fun (r : Int32) (u : Unit) => 0 ≤ r.toInt ∧ r.toInt ≤ 1) (fun (_ : Unit) => BX dC dI g c (v, F, rc)) (AX g sz)) 0 0 (AX g sz) := by
  refine Met.ofW (cc := cX7_isLess) (maxL := 7) (ret := (some .boolean)) (by decide) rfl ?_
  intro p e s m args below meth c0 s₁ B hml hv
  obtain ⟨rfl, hsz, hP, hK, hE⟩ := hv
  have hx := B.exec
  have hb := B.bytes
  have hr := B.returns
  have hts := atoms_spec (ws := Cond.code yX7_isLess cX7_isLess 7 (some .boolean) :: wA) B.pre
  have hwd : ∀ w ∈ wA, w.before _ s = true := fun w h => hts w (List.mem_cons_of_mem _ h)
  have hown : s.vm.findClass RX7 = some m.cls := findClass_of_methodNamed B.named
  have hlocks := B.notSynchronized
  subst hsz
  have hl := lv_entry ([.ref (g 3), .int p0, .int p1, .int p2]) (n := 7) (Nat.le_of_ble_eq_true rfl)
  rw [lg_entry_eq]
  generalize (lg_sl ([.ref (g 3), .int p0, .int p1, .int p2]) ++ List.replicate (7 - (lg_sl ([.ref (g 3), .int p0, .int p1, .int p2])).length) Slot.unset).toArray = ls at hl ⊢
  have hl : lv_has ls 7 [(0, .ref (g 3)), (1, .int p0), (2, .int p1), (3, .int p2)] := hl
  obtain ⟨H, eH⟩ : ∃ z, z = s.heap := ⟨_, rfl⟩
  have hP : va_P (dC, dI) classes (wX g c v F rc) H := by rw [eH]; exact hP
  have hS : va_S (AX g s.heap.size) s.heap H [] := by rw [eH]; exact va_S.rf
  refine my_heap eH ?_
  have rp0 := i32_rng p0
  have rp1 := i32_rng p1
  have rp2 := i32_rng p2
  refine lv_iconst (v := 0) hx hb dX7_isLess_0 (by decide) ?_
  refine lv_istore (lv' := [(4, .int 0), (0, .ref (g 3)), (1, .int p0), (2, .int p1), (3, .int p2)]) hx hb dX7_isLess_1 hl (by decide) rfl (fun ls hl => ?_)
  have lp909 : ∀ (n : Nat) (x4_lp909 : Int32) (H : Heap) (locs : List Loc) (ls : Array Slot), (0 ≤ x4_lp909.toInt) → (2147483648 - x4_lp909.toInt ≤ (n : Int)) → va_P (dC, dI) classes (wX g c v F rc) H → va_S (AX g s.heap.size) s.heap H locs → lv_has ls 7 [(4, .int x4_lp909), (0, .ref (g 3)), (1, .int p0), (2, .int p1), (3, .int p2)] → W p l e (headSpec (Cond.code yX7_isLess cX7_isLess 7 (some .boolean) :: wA) ({ frames := 3, cells := 0, slots := 0, locals := 120 })).room s m ([.ref (g 3), .int p0, .int p1, .int p2] : List Value).toArray below meth c0 H locs 0 0 (MQ below (va_Qi (fun (r : Int32) (u : Unit) => 0 ≤ r.toInt ∧ r.toInt ≤ 1) (fun (_ : Unit) => BX dC dI g c (v, F, rc)) (AX g s.heap.size)) ([.ref (g 3), .int p0, .int p1, .int p2] : List Value).toArray s 0 0 (AX g s.heap.size)) (F0 m 3 ls []) := by
    intro n
    induction n with
    | zero =>
      intro x4_lp909 H locs ls t910 hm hP hS hl
      exfalso
      have := i32_rng x4_lp909
      omega
    | succ n ih_lp909 =>
      intro x4_lp909 H locs ls t910 hm hP hS hl
      have rx4_lp909 := i32_rng x4_lp909
      refine lv_iload hx hb dX7_isLess_3 (lv_at hl 0 rfl) ?_
      refine lv_iconst (v := 1) hx hb dX7_isLess_5 (by decide) ?_
      refine lv_icmp_gt (tgt := 61) hx hb dX7_isLess_6 (by decide) (fun c911 => ?_) (fun c911 => ?_)
      · skip
        have t912 := cv_lt (a := 1) (by decide) (b := x4_lp909.toInt) rfl c911
        refine lv_iconst (v := 0) hx hb dX7_isLess_61 (by decide) ?_
        have hP9 : va_P (dC, dI) classes (wX g c v F rc) H := hP
        exact W.zret (v := 0) hx hb hr (rfl) (fun t ht hW => ⟨⟨0, (), rfl, by have : (0 : Int32).toInt = 0 := (by decide); omega, (by show va_P _ _ _ t.heap; rw [ht]; exact hP9)⟩, hS.F ht⟩) hS.2.2 dX7_isLess_62
      · skip
        have t913 := cv_nlt (a := 1) (by decide) (b := x4_lp909.toInt) rfl c911
        refine lv_aload_n hx hb dX7_isLess_9 rfl (lv_at hl 1 rfl) ?_
        refine lv_iload_n hx hb dX7_isLess_10 rfl (lv_at hl 2 rfl) ?_
        refine lv_iload_n hx hb dX7_isLess_11 rfl (lv_at hl 3 rfl) ?_
        refine lv_iload hx hb dX7_isLess_12 (lv_at hl 0 rfl) ?_
        refine va_calli (va_runV (As := [.int p0, .int p1, .int x4_lp909]) (rest := []) ⟨hx, hb, hml, hown, hwd⟩ (c_X7_usedAtEnd l dC dI g c adK adV v F rc H.size p0 p1 x4_lp909 hg hI (by omega) (by omega) (by omega)) (cwV 3 hwd (gV wk_699 wk_696 wk_697 wk_698 wk_26) rfl rfl rfl (by decide +kernel) ⟨Nat.le_of_ble_eq_true rfl, Nat.le_of_ble_eq_true rfl⟩) ⟨PX.blind, va_recv hK hP (ci := 7) (q0 := 3) rfl rfl, fun U hU hW => ⟨rfl, PX.at hK hE hP hS hU hW⟩⟩ rfl rfl hl.1 rfl (lv_room (Nat.le_of_ble_eq_true rfl)) dX7_isLess_14 ⟨Nat.le_of_ble_eq_true rfl, Nat.le_of_ble_eq_true rfl⟩) hS (fun q _ h => (freeX hS) q h) (freeX hS) (fun r914 u t H1 locs ht hvm hw hB hz1 hk1 hS => ?_)
        unfold BX at hB
        rw [ht] at hB
        have hP : va_P (dC, dI) classes (wX g c v F rc) H1 := hB
        generalize H1 = H at hP hS ⊢
        have rr_r914 := i32_rng r914
        refine lv_istore (lv' := [(5, .int r914), (4, .int x4_lp909), (0, .ref (g 3)), (1, .int p0), (2, .int p1), (3, .int p2)]) hx hb dX7_isLess_17 hl (by decide) rfl (fun ls hl => ?_)
        refine lv_aload_n hx hb dX7_isLess_19 rfl (lv_at hl 2 rfl) ?_
        refine va_get (D := (dC, dI)) (ci := 7) (v := .ref (g 4)) (C := RX7) (T := TX7) (N := 7) hx hb hwd inA_X7 hown hK hP 3 rfl rfl 0 (by decide) (hwd _ wk_100) (fun _ h9 => h9) rfl dX7_isLess_20 ?_
        refine lv_iload_n hx hb dX7_isLess_23 rfl (lv_at hl 5 rfl) ?_
        refine lv_iload hx hb dX7_isLess_24 (lv_at hl 1 rfl) ?_
        refine va_calli (va_runV (As := [.int p2, .int x4_lp909]) (rest := []) ⟨hx, hb, hml, hown, hwd⟩ (c_X9_usedAtStart l dC dI g c adK adV v F rc H.size p2 x4_lp909 hg hI (by omega)) (cwV 2 hwd (gV wk_708 wk_705 wk_706 wk_707 wk_22) rfl rfl rfl (by decide +kernel) ⟨Nat.le_of_ble_eq_true rfl, Nat.le_of_ble_eq_true rfl⟩) ⟨PX.blind, va_recv hK hP (ci := 9) (q0 := 4) rfl rfl, fun U hU hW => ⟨rfl, PX.at hK hE hP hS hU hW⟩⟩ rfl rfl hl.1 rfl (lv_room (Nat.le_of_ble_eq_true rfl)) dX7_isLess_26 ⟨Nat.le_of_ble_eq_true rfl, Nat.le_of_ble_eq_true rfl⟩) hS (fun q _ h => (freeX hS) q h) (freeX hS) (fun r915 u t H1 locs ht hvm hw hB hz1 hk1 hS => ?_)
        unfold BX at hB
        rw [ht] at hB
        have hP : va_P (dC, dI) classes (wX g c v F rc) H1 := hB
        generalize H1 = H at hP hS ⊢
        have rr_r915 := i32_rng r915
        refine lv_istore (lv' := [(6, .int r915), (5, .int r914), (4, .int x4_lp909), (0, .ref (g 3)), (1, .int p0), (2, .int p1), (3, .int p2)]) hx hb dX7_isLess_29 hl (by decide) rfl (fun ls hl => ?_)
        refine lv_iload_n hx hb dX7_isLess_31 rfl (lv_at hl 5 rfl) ?_
        refine lv_iload_n hx hb dX7_isLess_32 rfl (lv_at hl 6 rfl) ?_
        refine lv_icmp_ne (tgt := 46) hx hb dX7_isLess_33 (by decide) (fun c916 => ?_) (fun c916 => ?_)
        · skip
          have t917 := cv_ne (a := p1.toInt) rfl (b := p2.toInt) rfl c916
          refine lv_iload hx hb dX7_isLess_46 (lv_at hl 0 rfl) ?_
          refine lv_iload hx hb dX7_isLess_48 (lv_at hl 1 rfl) ?_
          refine lv_icmp_ge (tgt := 55) hx hb dX7_isLess_50 (by decide) (fun c918 => ?_) (fun c918 => ?_)
          · skip
            have t919 := cv_le (a := r914.toInt) rfl (b := r915.toInt) rfl c918
            obtain ⟨z920, e921⟩ : ∃ y : Int32, y = x4_lp909 + 1 := ⟨_, rfl⟩
            try (have t922 := tadd e921 rfl (b := 1) (by decide) (by omega))
            refine lv_iinc (v := z920) (lv' := [(4, .int z920), (6, .int r915), (5, .int r914), (0, .ref (g 3)), (1, .int p0), (2, .int p1), (3, .int p2)]) hx hb dX7_isLess_55 hl (k := 2) rfl (by rw [e921]; rfl) (by decide) rfl (fun ls hl => ?_)
            refine lv_goto (tgt := 3) hx hb dX7_isLess_58 (by decide) ?_
            exact ih_lp909 z920  _ _ _ (by omega) (by omega) hP hS (lv_sub hl [0, 3, 4, 5, 6] rfl)
          · skip
            have t923 := cv_nle (a := r914.toInt) rfl (b := r915.toInt) rfl c918
            refine lv_iconst (v := 1) hx hb dX7_isLess_53 (by decide) ?_
            have hP9 : va_P (dC, dI) classes (wX g c v F rc) H := hP
            exact W.zret (v := 1) hx hb hr (rfl) (fun t ht hW => ⟨⟨1, (), rfl, by have : (1 : Int32).toInt = 1 := (by decide); omega, (by show va_P _ _ _ t.heap; rw [ht]; exact hP9)⟩, hS.F ht⟩) hS.2.2 dX7_isLess_54
        · skip
          have t924 := cv_eq (a := p1.toInt) rfl (b := p2.toInt) rfl c916
          refine lv_iload hx hb dX7_isLess_36 (lv_at hl 1 rfl) ?_
          refine lv_iload hx hb dX7_isLess_38 (lv_at hl 0 rfl) ?_
          refine lv_icmp_ge (tgt := 55) hx hb dX7_isLess_40 (by decide) (fun c925 => ?_) (fun c925 => ?_)
          · skip
            have t926 := cv_le (a := r915.toInt) rfl (b := r914.toInt) rfl c925
            obtain ⟨z927, e928⟩ : ∃ y : Int32, y = x4_lp909 + 1 := ⟨_, rfl⟩
            try (have t929 := tadd e928 rfl (b := 1) (by decide) (by omega))
            refine lv_iinc (v := z927) (lv' := [(4, .int z927), (6, .int r915), (5, .int r914), (0, .ref (g 3)), (1, .int p0), (2, .int p1), (3, .int p2)]) hx hb dX7_isLess_55 hl (k := 2) rfl (by rw [e928]; rfl) (by decide) rfl (fun ls hl => ?_)
            refine lv_goto (tgt := 3) hx hb dX7_isLess_58 (by decide) ?_
            exact ih_lp909 z927  _ _ _ (by omega) (by omega) hP hS (lv_sub hl [0, 3, 4, 5, 6] rfl)
          · skip
            have t930 := cv_nle (a := r915.toInt) rfl (b := r914.toInt) rfl c925
            refine lv_goto (tgt := 53) hx hb dX7_isLess_43 (by decide) ?_
            refine lv_iconst (v := 1) hx hb dX7_isLess_53 (by decide) ?_
            have hP9 : va_P (dC, dI) classes (wX g c v F rc) H := hP
            exact W.zret (v := 1) hx hb hr (rfl) (fun t ht hW => ⟨⟨1, (), rfl, by have : (1 : Int32).toInt = 1 := (by decide); omega, (by show va_P _ _ _ t.heap; rw [ht]; exact hP9)⟩, hS.F ht⟩) hS.2.2 dX7_isLess_54
  obtain ⟨n9, hn9⟩ : ∃ n : Nat, 2147483648 - 0 ≤ (n : Int) := ⟨((2147483648 - 0 : Int)).toNat, by omega⟩
  exact lp909 n9 0  H _ ls (by have : (0 : Int32).toInt = 0 := (by decide); omega) (by have : (0 : Int32).toInt = 0 := (by decide); omega) hP hS hl
set_option maxHeartbeats 8000000 in
set_option maxRecDepth 100000 in
theorem c_X7_growsLess (l : Launch) (dC : Nat → ClassId) (dI : Nat → Nat → Nat) (g : Nat → Nat) (c : Nat → ClassId) (adK adV : Nat → Nat) (v : Nat → Int32) (F : Nat → Nat → Int32) (rc sz : Nat) (p0 : Int32) (hg : injX g) (hI : IX v F) (h0 : 0 ≤ p0.toInt ∧ p0.toInt ≤ 99) : Met l yX7_growsLess (Cond.code yX7_growsLess cX7_growsLess 5 (some .boolean) :: wA) ({ frames := 4, cells := 0, slots := 0, locals := 160 }) (va_Pc [.ref (g 3), .int p0] (PX dC dI g c adK adV v F rc sz)) (va_Qi (fun (r : Int32) (u : Unit) => 0 ≤ r.toInt ∧ r.toInt ≤ 1) (fun (_ : Unit) => BX dC dI g c (v, F, rc)) (AX g sz)) 0 0 (AX g sz) := by
  refine Met.ofW (cc := cX7_growsLess) (maxL := 5) (ret := (some .boolean)) (by decide) rfl ?_
  intro p e s m args below meth c0 s₁ B hml hv
  obtain ⟨rfl, hsz, hP, hK, hE⟩ := hv
  have hx := B.exec
  have hb := B.bytes
  have hr := B.returns
  have hts := atoms_spec (ws := Cond.code yX7_growsLess cX7_growsLess 5 (some .boolean) :: wA) B.pre
  have hwd : ∀ w ∈ wA, w.before _ s = true := fun w h => hts w (List.mem_cons_of_mem _ h)
  have hown : s.vm.findClass RX7 = some m.cls := findClass_of_methodNamed B.named
  have hlocks := B.notSynchronized
  subst hsz
  have hl := lv_entry ([.ref (g 3), .int p0]) (n := 5) (Nat.le_of_ble_eq_true rfl)
  rw [lg_entry_eq]
  generalize (lg_sl ([.ref (g 3), .int p0]) ++ List.replicate (5 - (lg_sl ([.ref (g 3), .int p0])).length) Slot.unset).toArray = ls at hl ⊢
  have hl : lv_has ls 5 [(0, .ref (g 3)), (1, .int p0)] := hl
  obtain ⟨H, eH⟩ : ∃ z, z = s.heap := ⟨_, rfl⟩
  have hP : va_P (dC, dI) classes (wX g c v F rc) H := by rw [eH]; exact hP
  have hS : va_S (AX g s.heap.size) s.heap H [] := by rw [eH]; exact va_S.rf
  refine my_heap eH ?_
  have rp0 := i32_rng p0
  refine lv_iconst (v := (-1)) hx hb dX7_growsLess_0 (by decide) ?_
  refine lv_istore_n (lv' := [(2, .int (-1)), (0, .ref (g 3)), (1, .int p0)]) hx hb dX7_growsLess_1 rfl hl (by decide) rfl (fun ls hl => ?_)
  refine lv_aload_n hx hb dX7_growsLess_2 rfl (lv_at hl 1 rfl) ?_
  refine va_get (D := (dC, dI)) (ci := 7) (v := .ref (g 4)) (C := RX7) (T := TX7) (N := 7) hx hb hwd inA_X7 hown hK hP 3 rfl rfl 0 (by decide) (hwd _ wk_100) (fun _ h9 => h9) rfl dX7_growsLess_3 ?_
  refine va_get (D := (dC, dI)) (ci := 9) (v := .ref (g 38)) (C := RX9) (T := TX9) (N := 11) hx hb hwd inA_X9 hown hK hP 4 rfl rfl 10 (by decide) (hwd _ wk_571) (fun _ h9 => h9) rfl dX7_growsLess_6 ?_
  refine lv_iload_n hx hb dX7_growsLess_9 rfl (lv_at hl 2 rfl) ?_
  refine va_iald hx hb hK hP 38 26 rfl rfl (i := p0) (vin (a := p0.toInt) rfl (by omega)) dX7_growsLess_10 ?_
  refine lv_topi (fun z931 e932 => ?_)
  have t933 : -1 ≤ z931.toInt ∧ z931.toInt ≤ 499 := by rw [e932]; exact hI.2 38 _ _ rfl _
  refine lv_istore_n (lv' := [(3, .int z931), (2, .int (-1)), (0, .ref (g 3)), (1, .int p0)]) hx hb dX7_growsLess_11 rfl hl (by decide) rfl (fun ls hl => ?_)
  refine lv_iconst (v := 0) hx hb dX7_growsLess_12 (by decide) ?_
  refine lv_istore (lv' := [(4, .int 0), (3, .int z931), (2, .int (-1)), (0, .ref (g 3)), (1, .int p0)]) hx hb dX7_growsLess_13 hl (by decide) rfl (fun ls hl => ?_)
  have lp934 : ∀ (n : Nat) (x4_lp934 : Int32) (x3_lp934 : Int32) (x2_lp934 : Int32) (H : Heap) (locs : List Loc) (ls : Array Slot), (0 ≤ x4_lp934.toInt) → (-1 ≤ x3_lp934.toInt) → (x3_lp934.toInt ≤ 499) → (-1 ≤ x2_lp934.toInt) → (x2_lp934.toInt ≤ 499) → (2147483648 - x4_lp934.toInt ≤ (n : Int)) → va_P (dC, dI) classes (wX g c v F rc) H → va_S (AX g s.heap.size) s.heap H locs → lv_has ls 5 [(4, .int x4_lp934), (3, .int x3_lp934), (2, .int x2_lp934), (0, .ref (g 3)), (1, .int p0)] → W p l e (headSpec (Cond.code yX7_growsLess cX7_growsLess 5 (some .boolean) :: wA) ({ frames := 4, cells := 0, slots := 0, locals := 160 })).room s m ([.ref (g 3), .int p0] : List Value).toArray below meth c0 H locs 0 0 (MQ below (va_Qi (fun (r : Int32) (u : Unit) => 0 ≤ r.toInt ∧ r.toInt ≤ 1) (fun (_ : Unit) => BX dC dI g c (v, F, rc)) (AX g s.heap.size)) ([.ref (g 3), .int p0] : List Value).toArray s 0 0 (AX g s.heap.size)) (F0 m 15 ls []) := by
    intro n
    induction n with
    | zero =>
      intro x4_lp934 x3_lp934 x2_lp934 H locs ls t935 t936 t937 t938 t939 hm hP hS hl
      exfalso
      have := i32_rng x4_lp934
      have := i32_rng x3_lp934
      have := i32_rng x2_lp934
      omega
    | succ n ih_lp934 =>
      intro x4_lp934 x3_lp934 x2_lp934 H locs ls t935 t936 t937 t938 t939 hm hP hS hl
      have rx4_lp934 := i32_rng x4_lp934
      have rx3_lp934 := i32_rng x3_lp934
      have rx2_lp934 := i32_rng x2_lp934
      refine lv_iload hx hb dX7_growsLess_15 (lv_at hl 0 rfl) ?_
      refine lv_sipush (v := 500) hx hb dX7_growsLess_17 (by decide) ?_
      refine lv_icmp_ge (tgt := 92) hx hb dX7_growsLess_20 (by decide) (fun c940 => ?_) (fun c940 => ?_)
      · skip
        have t941 := cv_le (a := 500) (by decide) (b := x4_lp934.toInt) rfl c940
        refine lv_iconst (v := 0) hx hb dX7_growsLess_92 (by decide) ?_
        have hP9 : va_P (dC, dI) classes (wX g c v F rc) H := hP
        exact W.zret (v := 0) hx hb hr (rfl) (fun t ht hW => ⟨⟨0, (), rfl, by have : (0 : Int32).toInt = 0 := (by decide); omega, (by show va_P _ _ _ t.heap; rw [ht]; exact hP9)⟩, hS.F ht⟩) hS.2.2 dX7_growsLess_93
      · skip
        have t942 := cv_nle (a := 500) (by decide) (b := x4_lp934.toInt) rfl c940
        refine lv_iload_n hx hb dX7_growsLess_23 rfl (lv_at hl 1 rfl) ?_
        refine lv_iconst (v := (-1)) hx hb dX7_growsLess_24 (by decide) ?_
        refine lv_icmp_eq (tgt := 92) hx hb dX7_growsLess_25 (by decide) (fun c943 => ?_) (fun c943 => ?_)
        · skip
          have t944 := cv_eq (a := x3_lp934.toInt) rfl (b := (-1)) (by decide) c943
          refine lv_iconst (v := 0) hx hb dX7_growsLess_92 (by decide) ?_
          have hP9 : va_P (dC, dI) classes (wX g c v F rc) H := hP
          exact W.zret (v := 0) hx hb hr (rfl) (fun t ht hW => ⟨⟨0, (), rfl, by have : (0 : Int32).toInt = 0 := (by decide); omega, (by show va_P _ _ _ t.heap; rw [ht]; exact hP9)⟩, hS.F ht⟩) hS.2.2 dX7_growsLess_93
        · skip
          have t945 := cv_ne (a := x3_lp934.toInt) rfl (b := (-1)) (by decide) c943
          refine lv_aload_n hx hb dX7_growsLess_28 rfl (lv_at hl 3 rfl) ?_
          refine va_get (D := (dC, dI)) (ci := 7) (v := .ref (g 4)) (C := RX7) (T := TX7) (N := 7) hx hb hwd inA_X7 hown hK hP 3 rfl rfl 0 (by decide) (hwd _ wk_100) (fun _ h9 => h9) rfl dX7_growsLess_29 ?_
          refine va_get (D := (dC, dI)) (ci := 9) (v := .ref (g 29)) (C := RX9) (T := TX9) (N := 11) hx hb hwd inA_X9 hown hK hP 4 rfl rfl 1 (by decide) (hwd _ wk_690) (fun _ h9 => h9) rfl dX7_growsLess_32 ?_
          refine lv_iload_n hx hb dX7_growsLess_35 rfl (lv_at hl 1 rfl) ?_
          refine va_iald hx hb hK hP 29 17 rfl rfl (i := x3_lp934) (vin (a := x3_lp934.toInt) rfl (by omega)) dX7_growsLess_36 ?_
          refine lv_topi (fun z946 e947 => ?_)
          refine lv_bipush (v := 10) hx hb dX7_growsLess_37 (by decide) ?_
          refine lv_icmp_ne (tgt := 47) hx hb dX7_growsLess_39 (by decide) (fun c948 => ?_) (fun c948 => ?_)
          · skip
            have t949 := cv_ne (a := z946.toInt) rfl (b := 10) (by decide) c948
            refine lv_aload_n hx hb dX7_growsLess_47 rfl (lv_at hl 3 rfl) ?_
            refine lv_iload_n hx hb dX7_growsLess_48 rfl (lv_at hl 4 rfl) ?_
            refine lv_iload_n hx hb dX7_growsLess_49 rfl (lv_at hl 1 rfl) ?_
            refine lv_iload_n hx hb dX7_growsLess_50 rfl (lv_at hl 1 rfl) ?_
            refine va_calli (va_runV (As := [.int p0, .int x3_lp934, .int x3_lp934]) (rest := []) ⟨hx, hb, hml, hown, hwd⟩ (c_X7_isLess l dC dI g c adK adV v F rc H.size p0 x3_lp934 x3_lp934 hg hI (by omega) (by omega) (by omega)) (cwV 3 hwd (gV wk_695 wk_692 wk_693 wk_694 wk_26) rfl rfl rfl (by decide +kernel) ⟨Nat.le_of_ble_eq_true rfl, Nat.le_of_ble_eq_true rfl⟩) ⟨PX.blind, va_recv hK hP (ci := 7) (q0 := 3) rfl rfl, fun U hU hW => ⟨rfl, PX.at hK hE hP hS hU hW⟩⟩ rfl rfl hl.1 rfl (lv_room (Nat.le_of_ble_eq_true rfl)) dX7_growsLess_51 ⟨Nat.le_of_ble_eq_true rfl, Nat.le_of_ble_eq_true rfl⟩) hS (fun q _ h => (freeX hS) q h) (freeX hS) (fun r950 u t H1 locs ht hvm hw hB hz1 hk1 hS => ?_)
            unfold BX at hB
            rw [ht] at hB
            have hP : va_P (dC, dI) classes (wX g c v F rc) H1 := hB
            have hw : 0 ≤ r950.toInt ∧ r950.toInt ≤ 1 := hw
            generalize H1 = H at hP hS ⊢
            have hw_r950 := hw
            refine lv_if_ne (tgt := 72) hx hb dX7_growsLess_54 (by decide) (fun c951 => ?_) (fun c951 => ?_)
            · skip
              have t952 := cv_ne (a := r950.toInt) rfl (b := 0) (by decide) c951
              refine lv_iconst (v := 1) hx hb dX7_growsLess_72 (by decide) ?_
              have hP9 : va_P (dC, dI) classes (wX g c v F rc) H := hP
              exact W.zret (v := 1) hx hb hr (rfl) (fun t ht hW => ⟨⟨1, (), rfl, by have : (1 : Int32).toInt = 1 := (by decide); omega, (by show va_P _ _ _ t.heap; rw [ht]; exact hP9)⟩, hS.F ht⟩) hS.2.2 dX7_growsLess_73
            · skip
              have t953 := cv_eq (a := r950.toInt) rfl (b := 0) (by decide) c951
              refine lv_iload_n hx hb dX7_growsLess_57 rfl (lv_at hl 2 rfl) ?_
              refine lv_iconst (v := (-1)) hx hb dX7_growsLess_58 (by decide) ?_
              refine lv_icmp_eq (tgt := 74) hx hb dX7_growsLess_59 (by decide) (fun c954 => ?_) (fun c954 => ?_)
              · skip
                have t955 := cv_eq (a := x2_lp934.toInt) rfl (b := (-1)) (by decide) c954
                refine lv_iload_n hx hb dX7_growsLess_74 rfl (lv_at hl 1 rfl) ?_
                refine lv_istore_n (lv' := [(2, .int x3_lp934), (4, .int x4_lp934), (3, .int x3_lp934), (0, .ref (g 3)), (1, .int p0)]) hx hb dX7_growsLess_75 rfl hl (by decide) rfl (fun ls hl => ?_)
                refine lv_aload_n hx hb dX7_growsLess_76 rfl (lv_at hl 3 rfl) ?_
                refine va_get (D := (dC, dI)) (ci := 7) (v := .ref (g 4)) (C := RX7) (T := TX7) (N := 7) hx hb hwd inA_X7 hown hK hP 3 rfl rfl 0 (by decide) (hwd _ wk_100) (fun _ h9 => h9) rfl dX7_growsLess_77 ?_
                refine va_get (D := (dC, dI)) (ci := 9) (v := .ref (g 37)) (C := RX9) (T := TX9) (N := 11) hx hb hwd inA_X9 hown hK hP 4 rfl rfl 9 (by decide) (hwd _ wk_691) (fun _ h9 => h9) rfl dX7_growsLess_80 ?_
                refine lv_iload_n hx hb dX7_growsLess_83 rfl (lv_at hl 2 rfl) ?_
                refine va_iald hx hb hK hP 37 25 rfl rfl (i := x3_lp934) (vin (a := x3_lp934.toInt) rfl (by omega)) dX7_growsLess_84 ?_
                refine lv_topi (fun z956 e957 => ?_)
                have t958 : -1 ≤ z956.toInt ∧ z956.toInt ≤ 499 := by rw [e957]; exact hI.2 37 _ _ rfl _
                refine lv_istore_n (lv' := [(3, .int z956), (2, .int x3_lp934), (4, .int x4_lp934), (0, .ref (g 3)), (1, .int p0)]) hx hb dX7_growsLess_85 rfl hl (by decide) rfl (fun ls hl => ?_)
                obtain ⟨z959, e960⟩ : ∃ y : Int32, y = x4_lp934 + 1 := ⟨_, rfl⟩
                try (have t961 := tadd e960 rfl (b := 1) (by decide) (by omega))
                refine lv_iinc (v := z959) (lv' := [(4, .int z959), (3, .int z956), (2, .int x3_lp934), (0, .ref (g 3)), (1, .int p0)]) hx hb dX7_growsLess_86 hl (k := 2) rfl (by rw [e960]; rfl) (by decide) rfl (fun ls hl => ?_)
                refine lv_goto (tgt := 15) hx hb dX7_growsLess_89 (by decide) ?_
                exact ih_lp934 z959 z956 x3_lp934  _ _ _ (by omega) (by omega) (by omega) (by omega) (by omega) (by omega) hP hS (lv_sub hl [0, 1, 2, 3, 4] rfl)
              · skip
                have t962 := cv_ne (a := x2_lp934.toInt) rfl (b := (-1)) (by decide) c954
                refine lv_aload_n hx hb dX7_growsLess_62 rfl (lv_at hl 3 rfl) ?_
                refine lv_iload_n hx hb dX7_growsLess_63 rfl (lv_at hl 4 rfl) ?_
                refine lv_iload_n hx hb dX7_growsLess_64 rfl (lv_at hl 2 rfl) ?_
                refine lv_iload_n hx hb dX7_growsLess_65 rfl (lv_at hl 1 rfl) ?_
                refine va_calli (va_runV (As := [.int p0, .int x2_lp934, .int x3_lp934]) (rest := []) ⟨hx, hb, hml, hown, hwd⟩ (c_X7_isLess l dC dI g c adK adV v F rc H.size p0 x2_lp934 x3_lp934 hg hI (by omega) (by omega) (by omega)) (cwV 3 hwd (gV wk_695 wk_692 wk_693 wk_694 wk_26) rfl rfl rfl (by decide +kernel) ⟨Nat.le_of_ble_eq_true rfl, Nat.le_of_ble_eq_true rfl⟩) ⟨PX.blind, va_recv hK hP (ci := 7) (q0 := 3) rfl rfl, fun U hU hW => ⟨rfl, PX.at hK hE hP hS hU hW⟩⟩ rfl rfl hl.1 rfl (lv_room (Nat.le_of_ble_eq_true rfl)) dX7_growsLess_66 ⟨Nat.le_of_ble_eq_true rfl, Nat.le_of_ble_eq_true rfl⟩) hS (fun q _ h => (freeX hS) q h) (freeX hS) (fun r963 u t H1 locs ht hvm hw hB hz1 hk1 hS => ?_)
                unfold BX at hB
                rw [ht] at hB
                have hP : va_P (dC, dI) classes (wX g c v F rc) H1 := hB
                have hw : 0 ≤ r963.toInt ∧ r963.toInt ≤ 1 := hw
                generalize H1 = H at hP hS ⊢
                have hw_r963 := hw
                refine lv_if_eq (tgt := 74) hx hb dX7_growsLess_69 (by decide) (fun c964 => ?_) (fun c964 => ?_)
                · skip
                  have t965 := cv_eq (a := r963.toInt) rfl (b := 0) (by decide) c964
                  refine lv_iload_n hx hb dX7_growsLess_74 rfl (lv_at hl 1 rfl) ?_
                  refine lv_istore_n (lv' := [(2, .int x3_lp934), (4, .int x4_lp934), (3, .int x3_lp934), (0, .ref (g 3)), (1, .int p0)]) hx hb dX7_growsLess_75 rfl hl (by decide) rfl (fun ls hl => ?_)
                  refine lv_aload_n hx hb dX7_growsLess_76 rfl (lv_at hl 3 rfl) ?_
                  refine va_get (D := (dC, dI)) (ci := 7) (v := .ref (g 4)) (C := RX7) (T := TX7) (N := 7) hx hb hwd inA_X7 hown hK hP 3 rfl rfl 0 (by decide) (hwd _ wk_100) (fun _ h9 => h9) rfl dX7_growsLess_77 ?_
                  refine va_get (D := (dC, dI)) (ci := 9) (v := .ref (g 37)) (C := RX9) (T := TX9) (N := 11) hx hb hwd inA_X9 hown hK hP 4 rfl rfl 9 (by decide) (hwd _ wk_691) (fun _ h9 => h9) rfl dX7_growsLess_80 ?_
                  refine lv_iload_n hx hb dX7_growsLess_83 rfl (lv_at hl 2 rfl) ?_
                  refine va_iald hx hb hK hP 37 25 rfl rfl (i := x3_lp934) (vin (a := x3_lp934.toInt) rfl (by omega)) dX7_growsLess_84 ?_
                  refine lv_topi (fun z966 e967 => ?_)
                  have t968 : -1 ≤ z966.toInt ∧ z966.toInt ≤ 499 := by rw [e967]; exact hI.2 37 _ _ rfl _
                  refine lv_istore_n (lv' := [(3, .int z966), (2, .int x3_lp934), (4, .int x4_lp934), (0, .ref (g 3)), (1, .int p0)]) hx hb dX7_growsLess_85 rfl hl (by decide) rfl (fun ls hl => ?_)
                  obtain ⟨z969, e970⟩ : ∃ y : Int32, y = x4_lp934 + 1 := ⟨_, rfl⟩
                  try (have t971 := tadd e970 rfl (b := 1) (by decide) (by omega))
                  refine lv_iinc (v := z969) (lv' := [(4, .int z969), (3, .int z966), (2, .int x3_lp934), (0, .ref (g 3)), (1, .int p0)]) hx hb dX7_growsLess_86 hl (k := 2) rfl (by rw [e970]; rfl) (by decide) rfl (fun ls hl => ?_)
                  refine lv_goto (tgt := 15) hx hb dX7_growsLess_89 (by decide) ?_
                  exact ih_lp934 z969 z966 x3_lp934  _ _ _ (by omega) (by omega) (by omega) (by omega) (by omega) (by omega) hP hS (lv_sub hl [0, 1, 2, 3, 4] rfl)
                · skip
                  have t972 := cv_ne (a := r963.toInt) rfl (b := 0) (by decide) c964
                  refine lv_iconst (v := 1) hx hb dX7_growsLess_72 (by decide) ?_
                  have hP9 : va_P (dC, dI) classes (wX g c v F rc) H := hP
                  exact W.zret (v := 1) hx hb hr (rfl) (fun t ht hW => ⟨⟨1, (), rfl, by have : (1 : Int32).toInt = 1 := (by decide); omega, (by show va_P _ _ _ t.heap; rw [ht]; exact hP9)⟩, hS.F ht⟩) hS.2.2 dX7_growsLess_73
          · skip
            have t973 := cv_eq (a := z946.toInt) rfl (b := 10) (by decide) c948
            refine lv_iconst (v := (-1)) hx hb dX7_growsLess_42 (by decide) ?_
            refine lv_istore_n (lv' := [(2, .int (-1)), (4, .int x4_lp934), (3, .int x3_lp934), (0, .ref (g 3)), (1, .int p0)]) hx hb dX7_growsLess_43 rfl hl (by decide) rfl (fun ls hl => ?_)
            refine lv_goto (tgt := 76) hx hb dX7_growsLess_44 (by decide) ?_
            refine lv_aload_n hx hb dX7_growsLess_76 rfl (lv_at hl 3 rfl) ?_
            refine va_get (D := (dC, dI)) (ci := 7) (v := .ref (g 4)) (C := RX7) (T := TX7) (N := 7) hx hb hwd inA_X7 hown hK hP 3 rfl rfl 0 (by decide) (hwd _ wk_100) (fun _ h9 => h9) rfl dX7_growsLess_77 ?_
            refine va_get (D := (dC, dI)) (ci := 9) (v := .ref (g 37)) (C := RX9) (T := TX9) (N := 11) hx hb hwd inA_X9 hown hK hP 4 rfl rfl 9 (by decide) (hwd _ wk_691) (fun _ h9 => h9) rfl dX7_growsLess_80 ?_
            refine lv_iload_n hx hb dX7_growsLess_83 rfl (lv_at hl 2 rfl) ?_
            refine va_iald hx hb hK hP 37 25 rfl rfl (i := x3_lp934) (vin (a := x3_lp934.toInt) rfl (by omega)) dX7_growsLess_84 ?_
            refine lv_topi (fun z974 e975 => ?_)
            have t976 : -1 ≤ z974.toInt ∧ z974.toInt ≤ 499 := by rw [e975]; exact hI.2 37 _ _ rfl _
            refine lv_istore_n (lv' := [(3, .int z974), (2, .int (-1)), (4, .int x4_lp934), (0, .ref (g 3)), (1, .int p0)]) hx hb dX7_growsLess_85 rfl hl (by decide) rfl (fun ls hl => ?_)
            obtain ⟨z977, e978⟩ : ∃ y : Int32, y = x4_lp934 + 1 := ⟨_, rfl⟩
            try (have t979 := tadd e978 rfl (b := 1) (by decide) (by omega))
            refine lv_iinc (v := z977) (lv' := [(4, .int z977), (3, .int z974), (2, .int (-1)), (0, .ref (g 3)), (1, .int p0)]) hx hb dX7_growsLess_86 hl (k := 2) rfl (by rw [e978]; rfl) (by decide) rfl (fun ls hl => ?_)
            refine lv_goto (tgt := 15) hx hb dX7_growsLess_89 (by decide) ?_
            exact ih_lp934 z977 z974 (-1)  _ _ _ (by have : ((-1) : Int32).toInt = (-1) := (by decide); omega) (by have : ((-1) : Int32).toInt = (-1) := (by decide); omega) (by have : ((-1) : Int32).toInt = (-1) := (by decide); omega) (by have : ((-1) : Int32).toInt = (-1) := (by decide); omega) (by have : ((-1) : Int32).toInt = (-1) := (by decide); omega) (by have : ((-1) : Int32).toInt = (-1) := (by decide); omega) hP hS (lv_sub hl [0, 1, 2, 3, 4] rfl)
  obtain ⟨n9, hn9⟩ : ∃ n : Nat, 2147483648 - 0 ≤ (n : Int) := ⟨((2147483648 - 0 : Int)).toNat, by omega⟩
  exact lp934 n9 0 z931 (-1)  H _ ls (by have : (0 : Int32).toInt = 0 := (by decide); have : ((-1) : Int32).toInt = (-1) := (by decide); omega) (by have : (0 : Int32).toInt = 0 := (by decide); have : ((-1) : Int32).toInt = (-1) := (by decide); omega) (by have : (0 : Int32).toInt = 0 := (by decide); have : ((-1) : Int32).toInt = (-1) := (by decide); omega) (by have : (0 : Int32).toInt = 0 := (by decide); have : ((-1) : Int32).toInt = (-1) := (by decide); omega) (by have : (0 : Int32).toInt = 0 := (by decide); have : ((-1) : Int32).toInt = (-1) := (by decide); omega) (by have : (0 : Int32).toInt = 0 := (by decide); have : ((-1) : Int32).toInt = (-1) := (by decide); omega) hP hS hl
set_option maxHeartbeats 8000000 in
set_option maxRecDepth 100000 in
theorem c_X7_hasTwin (l : Launch) (dC : Nat → ClassId) (dI : Nat → Nat → Nat) (g : Nat → Nat) (c : Nat → ClassId) (adK adV : Nat → Nat) (v : Nat → Int32) (F : Nat → Nat → Int32) (rc sz : Nat) (p0 : Int32) (hg : injX g) (hI : IX v F) (h0 : 0 ≤ p0.toInt ∧ p0.toInt ≤ 99) : Met l yX7_hasTwin (Cond.code yX7_hasTwin cX7_hasTwin 3 (some .boolean) :: wA) ({ frames := 1, cells := 0, slots := 0, locals := 40 }) (va_Pc [.ref (g 3), .int p0] (PX dC dI g c adK adV v F rc sz)) (va_Qi (fun (r : Int32) (u : Unit) => 0 ≤ r.toInt ∧ r.toInt ≤ 1) (fun (_ : Unit) => BX dC dI g c (v, F, rc)) (AX g sz)) 0 0 (AX g sz) := by
  refine Met.ofW (cc := cX7_hasTwin) (maxL := 3) (ret := (some .boolean)) (by decide) rfl ?_
  intro p e s m args below meth c0 s₁ B hml hv
  obtain ⟨rfl, hsz, hP, hK, hE⟩ := hv
  have hx := B.exec
  have hb := B.bytes
  have hr := B.returns
  have hts := atoms_spec (ws := Cond.code yX7_hasTwin cX7_hasTwin 3 (some .boolean) :: wA) B.pre
  have hwd : ∀ w ∈ wA, w.before _ s = true := fun w h => hts w (List.mem_cons_of_mem _ h)
  have hown : s.vm.findClass RX7 = some m.cls := findClass_of_methodNamed B.named
  have hlocks := B.notSynchronized
  subst hsz
  have hl := lv_entry ([.ref (g 3), .int p0]) (n := 3) (Nat.le_of_ble_eq_true rfl)
  rw [lg_entry_eq]
  generalize (lg_sl ([.ref (g 3), .int p0]) ++ List.replicate (3 - (lg_sl ([.ref (g 3), .int p0])).length) Slot.unset).toArray = ls at hl ⊢
  have hl : lv_has ls 3 [(0, .ref (g 3)), (1, .int p0)] := hl
  obtain ⟨H, eH⟩ : ∃ z, z = s.heap := ⟨_, rfl⟩
  have hP : va_P (dC, dI) classes (wX g c v F rc) H := by rw [eH]; exact hP
  have hS : va_S (AX g s.heap.size) s.heap H [] := by rw [eH]; exact va_S.rf
  refine my_heap eH ?_
  have rp0 := i32_rng p0
  refine lv_iconst (v := 0) hx hb dX7_hasTwin_0 (by decide) ?_
  refine lv_istore_n (lv' := [(2, .int 0), (0, .ref (g 3)), (1, .int p0)]) hx hb dX7_hasTwin_1 rfl hl (by decide) rfl (fun ls hl => ?_)
  have lp980 : ∀ (n : Nat) (x2_lp980 : Int32) (H : Heap) (locs : List Loc) (ls : Array Slot), (0 ≤ x2_lp980.toInt) → (2147483648 - x2_lp980.toInt ≤ (n : Int)) → va_P (dC, dI) classes (wX g c v F rc) H → va_S (AX g s.heap.size) s.heap H locs → lv_has ls 3 [(2, .int x2_lp980), (0, .ref (g 3)), (1, .int p0)] → W p l e (headSpec (Cond.code yX7_hasTwin cX7_hasTwin 3 (some .boolean) :: wA) ({ frames := 1, cells := 0, slots := 0, locals := 40 })).room s m ([.ref (g 3), .int p0] : List Value).toArray below meth c0 H locs 0 0 (MQ below (va_Qi (fun (r : Int32) (u : Unit) => 0 ≤ r.toInt ∧ r.toInt ≤ 1) (fun (_ : Unit) => BX dC dI g c (v, F, rc)) (AX g s.heap.size)) ([.ref (g 3), .int p0] : List Value).toArray s 0 0 (AX g s.heap.size)) (F0 m 2 ls []) := by
    intro n
    induction n with
    | zero =>
      intro x2_lp980 H locs ls t981 hm hP hS hl
      exfalso
      have := i32_rng x2_lp980
      omega
    | succ n ih_lp980 =>
      intro x2_lp980 H locs ls t981 hm hP hS hl
      have rx2_lp980 := i32_rng x2_lp980
      refine lv_iload_n hx hb dX7_hasTwin_2 rfl (lv_at hl 0 rfl) ?_
      refine lv_aload_n hx hb dX7_hasTwin_3 rfl (lv_at hl 1 rfl) ?_
      refine va_get (D := (dC, dI)) (ci := 7) (v := .int (v 61)) (C := RX7) (T := TX7) (N := 7) hx hb hwd inA_X7 hown hK hP 3 rfl rfl 1 (by decide) (hwd _ wk_289) (fun _ h9 => h9) rfl dX7_hasTwin_4 ?_
      have t982 : 0 ≤ (v 61).toInt ∧ (v 61).toInt ≤ 100 := hI.1 61 _ _ rfl
      refine lv_icmp_ge (tgt := 64) hx hb dX7_hasTwin_7 (by decide) (fun c983 => ?_) (fun c983 => ?_)
      · skip
        have t984 := cv_le (a := (v 61).toInt) rfl (b := x2_lp980.toInt) rfl c983
        refine lv_iconst (v := 0) hx hb dX7_hasTwin_64 (by decide) ?_
        have hP9 : va_P (dC, dI) classes (wX g c v F rc) H := hP
        exact W.zret (v := 0) hx hb hr (rfl) (fun t ht hW => ⟨⟨0, (), rfl, by have : (0 : Int32).toInt = 0 := (by decide); omega, (by show va_P _ _ _ t.heap; rw [ht]; exact hP9)⟩, hS.F ht⟩) hS.2.2 dX7_hasTwin_65
      · skip
        have t985 := cv_nle (a := (v 61).toInt) rfl (b := x2_lp980.toInt) rfl c983
        refine lv_iload_n hx hb dX7_hasTwin_10 rfl (lv_at hl 0 rfl) ?_
        refine lv_iload_n hx hb dX7_hasTwin_11 rfl (lv_at hl 2 rfl) ?_
        refine lv_icmp_eq (tgt := 58) hx hb dX7_hasTwin_12 (by decide) (fun c986 => ?_) (fun c986 => ?_)
        · skip
          have t987 := cv_eq (a := x2_lp980.toInt) rfl (b := p0.toInt) rfl c986
          obtain ⟨z988, e989⟩ : ∃ y : Int32, y = x2_lp980 + 1 := ⟨_, rfl⟩
          try (have t990 := tadd e989 rfl (b := 1) (by decide) (by omega))
          refine lv_iinc (v := z988) (lv' := [(2, .int z988), (0, .ref (g 3)), (1, .int p0)]) hx hb dX7_hasTwin_58 hl (k := 0) rfl (by rw [e989]; rfl) (by decide) rfl (fun ls hl => ?_)
          refine lv_goto (tgt := 2) hx hb dX7_hasTwin_61 (by decide) ?_
          exact ih_lp980 z988  _ _ _ (by omega) (by omega) hP hS (lv_sub hl [0, 1, 2] rfl)
        · skip
          have t991 := cv_ne (a := x2_lp980.toInt) rfl (b := p0.toInt) rfl c986
          refine lv_aload_n hx hb dX7_hasTwin_15 rfl (lv_at hl 1 rfl) ?_
          refine va_get (D := (dC, dI)) (ci := 7) (v := .ref (g 26)) (C := RX7) (T := TX7) (N := 7) hx hb hwd inA_X7 hown hK hP 3 rfl rfl 4 (by decide) (hwd _ wk_97) (fun _ h9 => h9) rfl dX7_hasTwin_16 ?_
          refine lv_iload_n hx hb dX7_hasTwin_19 rfl (lv_at hl 0 rfl) ?_
          refine va_iald hx hb hK hP 26 14 rfl rfl (i := x2_lp980) (vin (a := x2_lp980.toInt) rfl (by omega)) dX7_hasTwin_20 ?_
          refine lv_topi (fun z992 e993 => ?_)
          refine lv_bipush (v := 12) hx hb dX7_hasTwin_21 (by decide) ?_
          refine lv_icmp_eq (tgt := 58) hx hb dX7_hasTwin_23 (by decide) (fun c994 => ?_) (fun c994 => ?_)
          · skip
            have t995 := cv_eq (a := z992.toInt) rfl (b := 12) (by decide) c994
            obtain ⟨z996, e997⟩ : ∃ y : Int32, y = x2_lp980 + 1 := ⟨_, rfl⟩
            try (have t998 := tadd e997 rfl (b := 1) (by decide) (by omega))
            refine lv_iinc (v := z996) (lv' := [(2, .int z996), (0, .ref (g 3)), (1, .int p0)]) hx hb dX7_hasTwin_58 hl (k := 0) rfl (by rw [e997]; rfl) (by decide) rfl (fun ls hl => ?_)
            refine lv_goto (tgt := 2) hx hb dX7_hasTwin_61 (by decide) ?_
            exact ih_lp980 z996  _ _ _ (by omega) (by omega) hP hS (lv_sub hl [0, 1, 2] rfl)
          · skip
            have t999 := cv_ne (a := z992.toInt) rfl (b := 12) (by decide) c994
            refine lv_aload_n hx hb dX7_hasTwin_26 rfl (lv_at hl 1 rfl) ?_
            refine va_get (D := (dC, dI)) (ci := 7) (v := .ref (g 24)) (C := RX7) (T := TX7) (N := 7) hx hb hwd inA_X7 hown hK hP 3 rfl rfl 2 (by decide) (hwd _ wk_95) (fun _ h9 => h9) rfl dX7_hasTwin_27 ?_
            refine lv_iload_n hx hb dX7_hasTwin_30 rfl (lv_at hl 0 rfl) ?_
            refine va_iald hx hb hK hP 24 12 rfl rfl (i := x2_lp980) (vin (a := x2_lp980.toInt) rfl (by omega)) dX7_hasTwin_31 ?_
            refine lv_topi (fun z1000 e1001 => ?_)
            have t1002 : 0 ≤ z1000.toInt ∧ z1000.toInt ≤ 9 := by rw [e1001]; exact hI.2 24 _ _ rfl _
            refine lv_aload_n hx hb dX7_hasTwin_32 rfl (lv_at hl 1 rfl) ?_
            refine va_get (D := (dC, dI)) (ci := 7) (v := .ref (g 24)) (C := RX7) (T := TX7) (N := 7) hx hb hwd inA_X7 hown hK hP 3 rfl rfl 2 (by decide) (hwd _ wk_95) (fun _ h9 => h9) rfl dX7_hasTwin_33 ?_
            refine lv_iload_n hx hb dX7_hasTwin_36 rfl (lv_at hl 2 rfl) ?_
            refine va_iald hx hb hK hP 24 12 rfl rfl (i := p0) (vin (a := p0.toInt) rfl (by omega)) dX7_hasTwin_37 ?_
            refine lv_topi (fun z1003 e1004 => ?_)
            have t1005 : 0 ≤ z1003.toInt ∧ z1003.toInt ≤ 9 := by rw [e1004]; exact hI.2 24 _ _ rfl _
            refine lv_icmp_ne (tgt := 58) hx hb dX7_hasTwin_38 (by decide) (fun c1006 => ?_) (fun c1006 => ?_)
            · skip
              have t1007 := cv_ne (a := z1000.toInt) rfl (b := z1003.toInt) rfl c1006
              obtain ⟨z1008, e1009⟩ : ∃ y : Int32, y = x2_lp980 + 1 := ⟨_, rfl⟩
              try (have t1010 := tadd e1009 rfl (b := 1) (by decide) (by omega))
              refine lv_iinc (v := z1008) (lv' := [(2, .int z1008), (0, .ref (g 3)), (1, .int p0)]) hx hb dX7_hasTwin_58 hl (k := 0) rfl (by rw [e1009]; rfl) (by decide) rfl (fun ls hl => ?_)
              refine lv_goto (tgt := 2) hx hb dX7_hasTwin_61 (by decide) ?_
              exact ih_lp980 z1008  _ _ _ (by omega) (by omega) hP hS (lv_sub hl [0, 1, 2] rfl)
            · skip
              have t1011 := cv_eq (a := z1000.toInt) rfl (b := z1003.toInt) rfl c1006
              refine lv_aload_n hx hb dX7_hasTwin_41 rfl (lv_at hl 1 rfl) ?_
              refine va_get (D := (dC, dI)) (ci := 7) (v := .ref (g 25)) (C := RX7) (T := TX7) (N := 7) hx hb hwd inA_X7 hown hK hP 3 rfl rfl 3 (by decide) (hwd _ wk_96) (fun _ h9 => h9) rfl dX7_hasTwin_42 ?_
              refine lv_iload_n hx hb dX7_hasTwin_45 rfl (lv_at hl 0 rfl) ?_
              refine va_iald hx hb hK hP 25 13 rfl rfl (i := x2_lp980) (vin (a := x2_lp980.toInt) rfl (by omega)) dX7_hasTwin_46 ?_
              refine lv_topi (fun z1012 e1013 => ?_)
              refine lv_aload_n hx hb dX7_hasTwin_47 rfl (lv_at hl 1 rfl) ?_
              refine va_get (D := (dC, dI)) (ci := 7) (v := .ref (g 25)) (C := RX7) (T := TX7) (N := 7) hx hb hwd inA_X7 hown hK hP 3 rfl rfl 3 (by decide) (hwd _ wk_96) (fun _ h9 => h9) rfl dX7_hasTwin_48 ?_
              refine lv_iload_n hx hb dX7_hasTwin_51 rfl (lv_at hl 2 rfl) ?_
              refine va_iald hx hb hK hP 25 13 rfl rfl (i := p0) (vin (a := p0.toInt) rfl (by omega)) dX7_hasTwin_52 ?_
              refine lv_topi (fun z1014 e1015 => ?_)
              refine lv_icmp_ne (tgt := 58) hx hb dX7_hasTwin_53 (by decide) (fun c1016 => ?_) (fun c1016 => ?_)
              · skip
                have t1017 := cv_ne (a := z1012.toInt) rfl (b := z1014.toInt) rfl c1016
                obtain ⟨z1018, e1019⟩ : ∃ y : Int32, y = x2_lp980 + 1 := ⟨_, rfl⟩
                try (have t1020 := tadd e1019 rfl (b := 1) (by decide) (by omega))
                refine lv_iinc (v := z1018) (lv' := [(2, .int z1018), (0, .ref (g 3)), (1, .int p0)]) hx hb dX7_hasTwin_58 hl (k := 0) rfl (by rw [e1019]; rfl) (by decide) rfl (fun ls hl => ?_)
                refine lv_goto (tgt := 2) hx hb dX7_hasTwin_61 (by decide) ?_
                exact ih_lp980 z1018  _ _ _ (by omega) (by omega) hP hS (lv_sub hl [0, 1, 2] rfl)
              · skip
                have t1021 := cv_eq (a := z1012.toInt) rfl (b := z1014.toInt) rfl c1016
                refine lv_iconst (v := 1) hx hb dX7_hasTwin_56 (by decide) ?_
                have hP9 : va_P (dC, dI) classes (wX g c v F rc) H := hP
                exact W.zret (v := 1) hx hb hr (rfl) (fun t ht hW => ⟨⟨1, (), rfl, by have : (1 : Int32).toInt = 1 := (by decide); omega, (by show va_P _ _ _ t.heap; rw [ht]; exact hP9)⟩, hS.F ht⟩) hS.2.2 dX7_hasTwin_57
  obtain ⟨n9, hn9⟩ : ∃ n : Nat, 2147483648 - 0 ≤ (n : Int) := ⟨((2147483648 - 0 : Int)).toNat, by omega⟩
  exact lp980 n9 0  H _ ls (by have : (0 : Int32).toInt = 0 := (by decide); omega) (by have : (0 : Int32).toInt = 0 := (by decide); omega) hP hS hl
set_option maxHeartbeats 8000000 in
set_option maxRecDepth 100000 in
theorem c_X7_whyCantBe (l : Launch) (dC : Nat → ClassId) (dI : Nat → Nat → Nat) (g : Nat → Nat) (c : Nat → ClassId) (adK adV : Nat → Nat) (v : Nat → Int32) (F : Nat → Nat → Int32) (rc sz : Nat) (p0 : Int32) (p1 : Int32) (hg : injX g) (hI : IX v F) (h0 : 0 ≤ p0.toInt ∧ p0.toInt ≤ 99) : Met l yX7_whyCantBe (Cond.code yX7_whyCantBe cX7_whyCantBe 3 (some .int) :: wA) ({ frames := 5, cells := 0, slots := 0, locals := 200 }) (va_Pc [.ref (g 3), .int p0, .int p1] (PX dC dI g c adK adV v F rc sz)) (va_Qi (fun (r : Int32) (u : Unit) => True) (fun (_ : Unit) => BX dC dI g c (v, F, rc)) (AX g sz)) 0 0 (AX g sz) := by
  refine Met.ofW (cc := cX7_whyCantBe) (maxL := 3) (ret := (some .int)) (by decide) rfl ?_
  intro p e s m args below meth c0 s₁ B hml hv
  obtain ⟨rfl, hsz, hP, hK, hE⟩ := hv
  have hx := B.exec
  have hb := B.bytes
  have hr := B.returns
  have hts := atoms_spec (ws := Cond.code yX7_whyCantBe cX7_whyCantBe 3 (some .int) :: wA) B.pre
  have hwd : ∀ w ∈ wA, w.before _ s = true := fun w h => hts w (List.mem_cons_of_mem _ h)
  have hown : s.vm.findClass RX7 = some m.cls := findClass_of_methodNamed B.named
  have hlocks := B.notSynchronized
  subst hsz
  have hl := lv_entry ([.ref (g 3), .int p0, .int p1]) (n := 3) (Nat.le_of_ble_eq_true rfl)
  rw [lg_entry_eq]
  generalize (lg_sl ([.ref (g 3), .int p0, .int p1]) ++ List.replicate (3 - (lg_sl ([.ref (g 3), .int p0, .int p1])).length) Slot.unset).toArray = ls at hl ⊢
  have hl : lv_has ls 3 [(0, .ref (g 3)), (1, .int p0), (2, .int p1)] := hl
  obtain ⟨H, eH⟩ : ∃ z, z = s.heap := ⟨_, rfl⟩
  have hP : va_P (dC, dI) classes (wX g c v F rc) H := by rw [eH]; exact hP
  have hS : va_S (AX g s.heap.size) s.heap H [] := by rw [eH]; exact va_S.rf
  refine my_heap eH ?_
  have rp0 := i32_rng p0
  have rp1 := i32_rng p1
  refine lv_aload_n hx hb dX7_whyCantBe_0 rfl (lv_at hl 0 rfl) ?_
  refine va_get (D := (dC, dI)) (ci := 7) (v := .ref (g 4)) (C := RX7) (T := TX7) (N := 7) hx hb hwd inA_X7 hown hK hP 3 rfl rfl 0 (by decide) (hwd _ wk_100) (fun _ h9 => h9) rfl dX7_whyCantBe_1 ?_
  refine lv_iload_n hx hb dX7_whyCantBe_4 rfl (lv_at hl 1 rfl) ?_
  refine lv_iload_n hx hb dX7_whyCantBe_5 rfl (lv_at hl 2 rfl) ?_
  refine va_calli (va_runV (As := [.int p0, .int p1]) (rest := []) ⟨hx, hb, hml, hown, hwd⟩ (c_X9_overlap l dC dI g c adK adV v F rc H.size p0 p1 hg hI (by omega)) (cwV 2 hwd (gV wk_681 wk_678 wk_679 wk_680 wk_22) rfl rfl rfl (by decide +kernel) ⟨Nat.le_of_ble_eq_true rfl, Nat.le_of_ble_eq_true rfl⟩) ⟨PX.blind, va_recv hK hP (ci := 9) (q0 := 4) rfl rfl, fun U hU hW => ⟨rfl, PX.at hK hE hP hS hU hW⟩⟩ rfl rfl hl.1 rfl (lv_room (Nat.le_of_ble_eq_true rfl)) dX7_whyCantBe_6 ⟨Nat.le_of_ble_eq_true rfl, Nat.le_of_ble_eq_true rfl⟩) hS (fun q _ h => (freeX hS) q h) (freeX hS) (fun r1022 u t H1 locs ht hvm hw hB hz1 hk1 hS => ?_)
  unfold BX at hB
  rw [ht] at hB
  have hP : va_P (dC, dI) classes (wX g c v F rc) H1 := hB
  have hw : 0 ≤ r1022.toInt ∧ r1022.toInt ≤ 1 := hw
  generalize H1 = H at hP hS ⊢
  have hw_r1022 := hw
  refine lv_if_eq (tgt := 14) hx hb dX7_whyCantBe_9 (by decide) (fun c1023 => ?_) (fun c1023 => ?_)
  · skip
    have t1024 := cv_eq (a := r1022.toInt) rfl (b := 0) (by decide) c1023
    refine lv_aload_n hx hb dX7_whyCantBe_14 rfl (lv_at hl 0 rfl) ?_
    refine lv_iload_n hx hb dX7_whyCantBe_15 rfl (lv_at hl 1 rfl) ?_
    refine va_calli (va_runV (As := [.int p0]) (rest := []) ⟨hx, hb, hml, hown, hwd⟩ (c_X7_growsLess l dC dI g c adK adV v F rc H.size p0 hg hI (by omega)) (cwV 1 hwd (gV wk_689 wk_686 wk_687 wk_688 wk_26) rfl rfl rfl (by decide +kernel) ⟨Nat.le_of_ble_eq_true rfl, Nat.le_of_ble_eq_true rfl⟩) ⟨PX.blind, va_recv hK hP (ci := 7) (q0 := 3) rfl rfl, fun U hU hW => ⟨rfl, PX.at hK hE hP hS hU hW⟩⟩ rfl rfl hl.1 rfl (lv_room (Nat.le_of_ble_eq_true rfl)) dX7_whyCantBe_16 ⟨Nat.le_of_ble_eq_true rfl, Nat.le_of_ble_eq_true rfl⟩) hS (fun q _ h => (freeX hS) q h) (freeX hS) (fun r1025 u t H1 locs ht hvm hw hB hz1 hk1 hS => ?_)
    unfold BX at hB
    rw [ht] at hB
    have hP : va_P (dC, dI) classes (wX g c v F rc) H1 := hB
    have hw : 0 ≤ r1025.toInt ∧ r1025.toInt ≤ 1 := hw
    generalize H1 = H at hP hS ⊢
    have hw_r1025 := hw
    refine lv_if_eq (tgt := 24) hx hb dX7_whyCantBe_19 (by decide) (fun c1026 => ?_) (fun c1026 => ?_)
    · skip
      have t1027 := cv_eq (a := r1025.toInt) rfl (b := 0) (by decide) c1026
      refine lv_aload_n hx hb dX7_whyCantBe_24 rfl (lv_at hl 0 rfl) ?_
      refine lv_iload_n hx hb dX7_whyCantBe_25 rfl (lv_at hl 1 rfl) ?_
      refine va_calli (va_runV (As := [.int p0]) (rest := []) ⟨hx, hb, hml, hown, hwd⟩ (c_X7_hasTwin l dC dI g c adK adV v F rc H.size p0 hg hI (by omega)) (cwV 1 hwd (gV wk_712 wk_709 wk_710 wk_711 wk_26) rfl rfl rfl (by decide +kernel) ⟨Nat.le_of_ble_eq_true rfl, Nat.le_of_ble_eq_true rfl⟩) ⟨PX.blind, va_recv hK hP (ci := 7) (q0 := 3) rfl rfl, fun U hU hW => ⟨rfl, PX.at hK hE hP hS hU hW⟩⟩ rfl rfl hl.1 rfl (lv_room (Nat.le_of_ble_eq_true rfl)) dX7_whyCantBe_26 ⟨Nat.le_of_ble_eq_true rfl, Nat.le_of_ble_eq_true rfl⟩) hS (fun q _ h => (freeX hS) q h) (freeX hS) (fun r1028 u t H1 locs ht hvm hw hB hz1 hk1 hS => ?_)
      unfold BX at hB
      rw [ht] at hB
      have hP : va_P (dC, dI) classes (wX g c v F rc) H1 := hB
      have hw : 0 ≤ r1028.toInt ∧ r1028.toInt ≤ 1 := hw
      generalize H1 = H at hP hS ⊢
      have hw_r1028 := hw
      refine lv_if_eq (tgt := 36) hx hb dX7_whyCantBe_29 (by decide) (fun c1029 => ?_) (fun c1029 => ?_)
      · skip
        have t1030 := cv_eq (a := r1028.toInt) rfl (b := 0) (by decide) c1029
        refine lv_iconst (v := 0) hx hb dX7_whyCantBe_36 (by decide) ?_
        have hP9 : va_P (dC, dI) classes (wX g c v F rc) H := hP
        exact W.iret (v := 0) hx hb hr (fun t ht hW => ⟨⟨0, (), rfl, trivial, (by show va_P _ _ _ t.heap; rw [ht]; exact hP9)⟩, hS.F ht⟩) hS.2.2 dX7_whyCantBe_37
      · skip
        have t1031 := cv_ne (a := r1028.toInt) rfl (b := 0) (by decide) c1029
        refine lv_iconst (v := 3) hx hb dX7_whyCantBe_32 (by decide) ?_
        refine lv_goto (tgt := 37) hx hb dX7_whyCantBe_33 (by decide) ?_
        have hP9 : va_P (dC, dI) classes (wX g c v F rc) H := hP
        exact W.iret (v := 3) hx hb hr (fun t ht hW => ⟨⟨3, (), rfl, trivial, (by show va_P _ _ _ t.heap; rw [ht]; exact hP9)⟩, hS.F ht⟩) hS.2.2 dX7_whyCantBe_37
    · skip
      have t1032 := cv_ne (a := r1025.toInt) rfl (b := 0) (by decide) c1026
      refine lv_iconst (v := 2) hx hb dX7_whyCantBe_22 (by decide) ?_
      have hP9 : va_P (dC, dI) classes (wX g c v F rc) H := hP
      exact W.iret (v := 2) hx hb hr (fun t ht hW => ⟨⟨2, (), rfl, trivial, (by show va_P _ _ _ t.heap; rw [ht]; exact hP9)⟩, hS.F ht⟩) hS.2.2 dX7_whyCantBe_23
  · skip
    have t1033 := cv_ne (a := r1022.toInt) rfl (b := 0) (by decide) c1023
    refine lv_iconst (v := 1) hx hb dX7_whyCantBe_12 (by decide) ?_
    have hP9 : va_P (dC, dI) classes (wX g c v F rc) H := hP
    exact W.iret (v := 1) hx hb hr (fun t ht hW => ⟨⟨1, (), rfl, trivial, (by show va_P _ _ _ t.heap; rw [ht]; exact hP9)⟩, hS.F ht⟩) hS.2.2 dX7_whyCantBe_13
