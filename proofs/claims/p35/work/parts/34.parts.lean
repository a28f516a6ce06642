set_option maxHeartbeats 8000000 in
set_option maxRecDepth 100000 in
theorem c_X7_add (l : Launch) (dC : Nat → ClassId) (dI : Nat → Nat → Nat) (g : Nat → Nat) (c : Nat → ClassId) (adK adV : Nat → Nat) (v : Nat → Int32) (F : Nat → Nat → Int32) (rc sz : Nat) (p0 : Int32) (p1 : Int32) (hg : injX g) (hI : IX v F) (h0 : 0 ≤ p0.toInt ∧ p0.toInt ≤ 9) (hq0 : (v 61).toInt ≤ 99) : Met l yX7_add (Cond.code yX7_add cX7_add 3 (some .int) :: wA) ({ frames := 1, cells := 0, slots := 0, locals := 40 }) (va_Pc [.ref (g 3), .int p0, .int p1] (PX dC dI g c adK adV v F rc sz)) (va_Qi (fun (r : Int32) (u : StX) => IX u.1 u.2.1 ∧ alX u.1 u.2.1 = alX v F ∧ u.2.2 = rc ∧ (∀ k, k ∉ ([61] : List Nat) → u.1 k = v k) ∧ 0 ≤ r.toInt ∧ r.toInt ≤ 99) (BX dC dI g c) (AX g sz)) 0 0 (AX g sz) := by
  refine Met.ofW (cc := cX7_add) (maxL := 3) (ret := (some .int)) (by decide) rfl ?_
  intro p e s m args below meth c0 s₁ B hml hv
  obtain ⟨rfl, hsz, hP, hK, hE⟩ := hv
  have hx := B.exec
  have hb := B.bytes
  have hr := B.returns
  have hts := atoms_spec (ws := Cond.code yX7_add cX7_add 3 (some .int) :: wA) B.pre
  have hwd : ∀ w ∈ wA, w.before _ s = true := fun w h => hts w (List.mem_cons_of_mem _ h)
  have hown : s.vm.findClass RX7 = some m.cls := findClass_of_methodNamed B.named
  have hlocks := B.notSynchronized
  subst hsz
  have hl := lv_entry ([.ref (g 3), .int p0, .int p1]) (n := 3) (Nat.le_of_ble_eq_true rfl)
  rw [lg_entry_eq]
  generalize (lg_sl ([.ref (g 3), .int p0, .int p1]) ++ List.replicate (3 - (lg_sl ([.ref (g 3), .int p0, .int p1])).length) Slot.unset).toArray = ls at hl ⊢
  have hl : lv_has ls 3 [(0, .ref (g 3)), (1, .int p0), (2, .int p1)] := hl
  obtain ⟨H, eH⟩ : ∃ z, z = s.heap := ⟨_, rfl⟩
  have hP : va_P (dC, dI) classes (wX g c v F rc) H := by rw [eH]; exact hP
  have hS : va_S (AX g s.heap.size) s.heap H [] := by rw [eH]; exact va_S.rf
  refine my_heap eH ?_
  have hal : alX v F = alX v F := rfl
  have rp0 := i32_rng p0
  have rp1 := i32_rng p1
  refine lv_aload_n hx hb dX7_add_0 rfl (lv_at hl 0 rfl) ?_
  refine va_get (D := (dC, dI)) (ci := 7) (v := .ref (g 24)) (C := RX7) (T := TX7) (N := 7) hx hb hwd inA_X7 hown hK hP 3 rfl rfl 2 (by decide) (hwd _ wk_95) (fun _ h9 => h9) rfl dX7_add_1 ?_
  refine lv_aload_n hx hb dX7_add_4 rfl (lv_at hl 0 rfl) ?_
  refine va_get (D := (dC, dI)) (ci := 7) (v := .int (v 61)) (C := RX7) (T := TX7) (N := 7) hx hb hwd inA_X7 hown hK hP 3 rfl rfl 1 (by decide) (hwd _ wk_289) (fun _ h9 => h9) rfl dX7_add_5 ?_
  have t660 : 0 ≤ (v 61).toInt ∧ (v 61).toInt ≤ 100 := hI.1 61 _ _ rfl
  refine lv_iload_n hx hb dX7_add_8 rfl (lv_at hl 1 rfl) ?_
  refine va_iast hx hb hK hP (DX hg) hS 24 12 rfl rfl (i := (v 61)) (x := p0) (vin (a := (v 61).toInt) rfl (by omega)) dX7_add_9 (fun H locs hP _ hS => ?_)
  have hP := va_P_eq (sX_24 g c _ _ _ _) hP
  have hI := IX.store hI 24 (v 61 : Int32).toNatClampNeg p0 rfl (by omega)
  have hal := (alX_F _ _ 24 (upd (F 24) (v 61 : Int32).toNatClampNeg p0) (by decide) (by decide)).trans hal
  have hP : va_P (dC, dI) classes (wX g c v (va_up F 24 (upd (F 24) (v 61 : Int32).toNatClampNeg p0)) rc) H := hP
  generalize (va_up F 24 (upd (F 24) (v 61 : Int32).toNatClampNeg p0)) = F661 at hP hI hal
  refine lv_aload_n hx hb dX7_add_10 rfl (lv_at hl 0 rfl) ?_
  refine va_get (D := (dC, dI)) (ci := 7) (v := .ref (g 25)) (C := RX7) (T := TX7) (N := 7) hx hb hwd inA_X7 hown hK hP 3 rfl rfl 3 (by decide) (hwd _ wk_96) (fun _ h9 => h9) rfl dX7_add_11 ?_
  refine lv_aload_n hx hb dX7_add_14 rfl (lv_at hl 0 rfl) ?_
  refine va_get (D := (dC, dI)) (ci := 7) (v := .int (v 61)) (C := RX7) (T := TX7) (N := 7) hx hb hwd inA_X7 hown hK hP 3 rfl rfl 1 (by decide) (hwd _ wk_289) (fun _ h9 => h9) rfl dX7_add_15 ?_
  have t662 : 0 ≤ (v 61).toInt ∧ (v 61).toInt ≤ 100 := hI.1 61 _ _ rfl
  refine lv_iload_n hx hb dX7_add_18 rfl (lv_at hl 2 rfl) ?_
  refine va_iast hx hb hK hP (DX hg) hS 25 13 rfl rfl (i := (v 61)) (x := p1) (vin (a := (v 61).toInt) rfl (by omega)) dX7_add_19 (fun H locs hP _ hS => ?_)
  have hP := va_P_eq (sX_25 g c _ _ _ _) hP
  have hI := IX.store0 hI 25 (v 61 : Int32).toNatClampNeg p1 rfl
  have hal := (alX_F _ _ 25 (upd (F661 25) (v 61 : Int32).toNatClampNeg p1) (by decide) (by decide)).trans hal
  have hP : va_P (dC, dI) classes (wX g c v (va_up F661 25 (upd (F661 25) (v 61 : Int32).toNatClampNeg p1)) rc) H := hP
  generalize (va_up F661 25 (upd (F661 25) (v 61 : Int32).toNatClampNeg p1)) = F663 at hP hI hal
  refine lv_aload_n hx hb dX7_add_20 rfl (lv_at hl 0 rfl) ?_
  refine va_get (D := (dC, dI)) (ci := 7) (v := .ref (g 4)) (C := RX7) (T := TX7) (N := 7) hx hb hwd inA_X7 hown hK hP 3 rfl rfl 0 (by decide) (hwd _ wk_100) (fun _ h9 => h9) rfl dX7_add_21 ?_
  refine va_get (D := (dC, dI)) (ci := 9) (v := .ref (g 38)) (C := RX9) (T := TX9) (N := 11) hx hb hwd inA_X9 hown hK hP 4 rfl rfl 10 (by decide) (hwd _ wk_571) (fun _ h9 => h9) rfl dX7_add_24 ?_
  refine lv_aload_n hx hb dX7_add_27 rfl (lv_at hl 0 rfl) ?_
  refine va_get (D := (dC, dI)) (ci := 7) (v := .int (v 61)) (C := RX7) (T := TX7) (N := 7) hx hb hwd inA_X7 hown hK hP 3 rfl rfl 1 (by decide) (hwd _ wk_289) (fun _ h9 => h9) rfl dX7_add_28 ?_
  have t664 : 0 ≤ (v 61).toInt ∧ (v 61).toInt ≤ 100 := hI.1 61 _ _ rfl
  refine lv_iconst (v := (-1)) hx hb dX7_add_31 (by decide) ?_
  refine va_iast hx hb hK hP (DX hg) hS 38 26 rfl rfl (i := (v 61)) (x := (-1)) (vin (a := (v 61).toInt) rfl (by omega)) dX7_add_32 (fun H locs hP _ hS => ?_)
  have hP := va_P_eq (sX_38 g c _ _ _ _) hP
  have hI := IX.store hI 38 (v 61 : Int32).toNatClampNeg (-1) rfl (by have : ((-1) : Int32).toInt = (-1) := (by decide); omega)
  have hal := (alX_F _ _ 38 (upd (F663 38) (v 61 : Int32).toNatClampNeg (-1)) (by decide) (by decide)).trans hal
  have hP : va_P (dC, dI) classes (wX g c v (va_up F663 38 (upd (F663 38) (v 61 : Int32).toNatClampNeg (-1))) rc) H := hP
  generalize (va_up F663 38 (upd (F663 38) (v 61 : Int32).toNatClampNeg (-1))) = F665 at hP hI hal
  refine lv_aload_n hx hb dX7_add_33 rfl (lv_at hl 0 rfl) ?_
  refine lv_dup hx hb dX7_add_34 rfl ?_
  refine va_get (D := (dC, dI)) (ci := 7) (v := .int (v 61)) (C := RX7) (T := TX7) (N := 7) hx hb hwd inA_X7 hown hK hP 3 rfl rfl 1 (by decide) (hwd _ wk_289) (fun _ h9 => h9) rfl dX7_add_35 ?_
  have t666 : 0 ≤ (v 61).toInt ∧ (v 61).toInt ≤ 100 := hI.1 61 _ _ rfl
  refine lv_dup_x1 hx hb dX7_add_38 rfl rfl ?_
  refine lv_iconst (v := 1) hx hb dX7_add_39 (by decide) ?_
  refine lv_iadd hx hb dX7_add_40 ?_
  refine lv_topi (fun z667 e668 => ?_)
  try (have t669 := tadd e668 (a := (v 61).toInt) rfl (b := 1) (by decide) (by omega))
  refine va_put (D := (dC, dI)) (ci := 7) (v := .int z667) (ty := .int) (C := RX7) (T := TX7) (N := 7) (fs := fsX_3 g v rc) hx hb hwd inA_X7 tyX7 tyX7_ok nmX7 hown hK hP (DX hg) hS 3 rfl rfl 1 (by decide) (hwd _ wk_289) (fun _ h9 => h9) rfl (by decide +kernel) rfl rfl (Nat.le_of_ble_eq_true rfl) dX7_add_41 (fun H locs hP _ hS => ?_)
  have hP := va_P_eq (pX_61 g c _ _ _ _) hP
  have hI := IX.put hI 61 z667 rfl (by omega)
  have hal := (alX_v _ _ 61 z667 (by decide) (by decide) (by decide) (by decide)).trans hal
  have hP9 : va_P (dC, dI) classes (wX g c (va_up v 61 z667) F665 rc) H := hP
  exact W.iret (v := v 61) hx hb hr (fun t ht hW => ⟨⟨(v 61), ((va_up v 61 z667), F665, rc), rfl, ⟨hI, hal, rfl, (frU (by decide) (fun _ _ => rfl)), by omega⟩, (by show va_P _ _ _ t.heap; rw [ht]; exact hP9)⟩, hS.F ht⟩) hS.2.2 dX7_add_44
set_option maxHeartbeats 8000000 in
set_option maxRecDepth 100000 in
theorem c_X7_usedOf (l : Launch) (dC : Nat → ClassId) (dI : Nat → Nat → Nat) (g : Nat → Nat) (c : Nat → ClassId) (adK adV : Nat → Nat) (v : Nat → Int32) (F : Nat → Nat → Int32) (rc sz : Nat) (p0 : Int32) (p1 : Int32) (hg : injX g) (hI : IX v F) (h0 : 0 ≤ p0.toInt ∧ p0.toInt ≤ 99) (h1 : 0 ≤ p1.toInt ∧ p1.toInt ≤ 2) : Met l yX7_usedOf (Cond.code yX7_usedOf cX7_usedOf 3 (some .int) :: wA) ({ frames := 1, cells := 0, slots := 0, locals := 40 }) (va_Pc [.ref (g 3), .int p0, .int p1] (PX dC dI g c adK adV v F rc sz)) (va_Qi (fun (r : Int32) (u : Unit) => True) (fun (_ : Unit) => BX dC dI g c (v, F, rc)) (AX g sz)) 0 0 (AX g sz) := by
  refine Met.ofW (cc := cX7_usedOf) (maxL := 3) (ret := (some .int)) (by decide) rfl ?_
  intro p e s m args below meth c0 s₁ B hml hv
  obtain ⟨rfl, hsz, hP, hK, hE⟩ := hv
  have hx := B.exec
  have hb := B.bytes
  have hr := B.returns
  have hts := atoms_spec (ws := Cond.code yX7_usedOf cX7_usedOf 3 (some .int) :: wA) B.pre
  have hwd : ∀ w ∈ wA, w.before _ s = true := fun w h => hts w (List.mem_cons_of_mem _ h)
  have hown : s.vm.findClass RX7 = some m.cls := findClass_of_methodNamed B.named
  have hlocks := B.notSynchronized
  subst hsz
  have hl := lv_entry ([.ref (g 3), .int p0, .int p1]) (n := 3) (Nat.le_of_ble_eq_true rfl)
  rw [lg_entry_eq]
  generalize (lg_sl ([.ref (g 3), .int p0, .int p1]) ++ List.replicate (3 - (lg_sl ([.ref (g 3), .int p0, .int p1])).length) Slot.unset).toArray = ls at hl ⊢
  have hl : lv_has ls 3 [(0, .ref (g 3)), (1, .int p0), (2, .int p1)] := hl
  obtain ⟨H, eH⟩ : ∃ z, z = s.heap := ⟨_, rfl⟩
  have hP : va_P (dC, dI) classes (wX g c v F rc) H := by rw [eH]; exact hP
  have hS : va_S (AX g s.heap.size) s.heap H [] := by rw [eH]; exact va_S.rf
  refine my_heap eH ?_
  have rp0 := i32_rng p0
  have rp1 := i32_rng p1
  refine lv_aload_n hx hb dX7_usedOf_0 rfl (lv_at hl 0 rfl) ?_
  refine va_get (D := (dC, dI)) (ci := 7) (v := .ref (g 27)) (C := RX7) (T := TX7) (N := 7) hx hb hwd inA_X7 hown hK hP 3 rfl rfl 5 (by decide) (hwd _ wk_98) (fun _ h9 => h9) rfl dX7_usedOf_1 ?_
  refine lv_iload_n hx hb dX7_usedOf_4 rfl (lv_at hl 1 rfl) ?_
  refine lv_iconst (v := 3) hx hb dX7_usedOf_5 (by decide) ?_
  refine lv_imul hx hb dX7_usedOf_6 ?_
  refine lv_topi (fun z670 e671 => ?_)
  try (have t672 := tmul e671 (a := p0.toInt) rfl (b := 3) (by decide) (by omega))
  refine lv_iload_n hx hb dX7_usedOf_7 rfl (lv_at hl 2 rfl) ?_
  refine lv_iadd hx hb dX7_usedOf_8 ?_
  refine lv_topi (fun z673 e674 => ?_)
  try (have t675 := tadd e674 (a := z670.toInt) rfl (b := p1.toInt) rfl (by omega))
  refine va_iald hx hb hK hP 27 15 rfl rfl (i := z673) (vin (a := z673.toInt) rfl (by omega)) dX7_usedOf_9 ?_
  refine lv_topi (fun z676 e677 => ?_)
  have hP9 : va_P (dC, dI) classes (wX g c v F rc) H := hP
  exact W.iret (v := z676) hx hb hr (fun t ht hW => ⟨⟨z676, (), rfl, trivial, (by show va_P _ _ _ t.heap; rw [ht]; exact hP9)⟩, hS.F ht⟩) hS.2.2 dX7_usedOf_10
set_option maxHeartbeats 8000000 in
set_option maxRecDepth 100000 in
theorem c_X7_setUsed (l : Launch) (dC : Nat → ClassId) (dI : Nat → Nat → Nat) (g : Nat → Nat) (c : Nat → ClassId) (adK adV : Nat → Nat) (v : Nat → Int32) (F : Nat → Nat → Int32) (rc sz : Nat) (p0 : Int32) (p1 : Int32) (p2 : Int32) (p3 : Int32) (hg : injX g) (hI : IX v F) (h0 : 0 ≤ p0.toInt ∧ p0.toInt ≤ 99) : Met l yX7_setUsed (Cond.code yX7_setUsed cX7_setUsed 5 none :: wA) ({ frames := 1, cells := 0, slots := 0, locals := 40 }) (va_Pc [.ref (g 3), .int p0, .int p1, .int p2, .int p3] (PX dC dI g c adK adV v F rc sz)) (va_Qv (fun (u : StX) => IX u.1 u.2.1 ∧ alX u.1 u.2.1 = alX v F ∧ u.2.2 = rc ∧ (∀ k, k ∉ ([] : List Nat) → u.1 k = v k) ∧ True) (BX dC dI g c) (AX g sz)) 0 0 (AX g sz) := by
  refine Met.ofW (cc := cX7_setUsed) (maxL := 5) (ret := none) (by decide) rfl ?_
  intro p e s m args below meth c0 s₁ B hml hv
  obtain ⟨rfl, hsz, hP, hK, hE⟩ := hv
  have hx := B.exec
  have hb := B.bytes
  have hr := B.returns
  have hts := atoms_spec (ws := Cond.code yX7_setUsed cX7_setUsed 5 none :: wA) B.pre
  have hwd : ∀ w ∈ wA, w.before _ s = true := fun w h => hts w (List.mem_cons_of_mem _ h)
  have hown : s.vm.findClass RX7 = some m.cls := findClass_of_methodNamed B.named
  have hlocks := B.notSynchronized
  subst hsz
  have hl := lv_entry ([.ref (g 3), .int p0, .int p1, .int p2, .int p3]) (n := 5) (Nat.le_of_ble_eq_true rfl)
  rw [lg_entry_eq]
  generalize (lg_sl ([.ref (g 3), .int p0, .int p1, .int p2, .int p3]) ++ List.replicate (5 - (lg_sl ([.ref (g 3), .int p0, .int p1, .int p2, .int p3])).length) Slot.unset).toArray = ls at hl ⊢
  have hl : lv_has ls 5 [(0, .ref (g 3)), (1, .int p0), (2, .int p1), (3, .int p2), (4, .int p3)] := hl
  obtain ⟨H, eH⟩ : ∃ z, z = s.heap := ⟨_, rfl⟩
  have hP : va_P (dC, dI) classes (wX g c v F rc) H := by rw [eH]; exact hP
  have hS : va_S (AX g s.heap.size) s.heap H [] := by rw [eH]; exact va_S.rf
  refine my_heap eH ?_
  have hal : alX v F = alX v F := rfl
  have rp0 := i32_rng p0
  have rp1 := i32_rng p1
  have rp2 := i32_rng p2
  have rp3 := i32_rng p3
  refine lv_aload_n hx hb dX7_setUsed_0 rfl (lv_at hl 0 rfl) ?_
  refine va_get (D := (dC, dI)) (ci := 7) (v := .ref (g 27)) (C := RX7) (T := TX7) (N := 7) hx hb hwd inA_X7 hown hK hP 3 rfl rfl 5 (by decide) (hwd _ wk_98) (fun _ h9 => h9) rfl dX7_setUsed_1 ?_
  refine lv_iload_n hx hb dX7_setUsed_4 rfl (lv_at hl 1 rfl) ?_
  refine lv_iconst (v := 3) hx hb dX7_setUsed_5 (by decide) ?_
  refine lv_imul hx hb dX7_setUsed_6 ?_
  refine lv_topi (fun z678 e679 => ?_)
  try (have t680 := tmul e679 (a := p0.toInt) rfl (b := 3) (by decide) (by omega))
  refine lv_iconst (v := 0) hx hb dX7_setUsed_7 (by decide) ?_
  refine lv_iadd hx hb dX7_setUsed_8 ?_
  refine lv_topi (fun z681 e682 => ?_)
  try (have t683 := tadd e682 (a := z678.toInt) rfl (b := 0) (by decide) (by omega))
  refine lv_iload_n hx hb dX7_setUsed_9 rfl (lv_at hl 2 rfl) ?_
  refine va_iast hx hb hK hP (DX hg) hS 27 15 rfl rfl (i := z681) (x := p1) (vin (a := z681.toInt) rfl (by omega)) dX7_setUsed_10 (fun H locs hP _ hS => ?_)
  have hP := va_P_eq (sX_27 g c _ _ _ _) hP
  have hI := IX.store0 hI 27 (z681 : Int32).toNatClampNeg p1 rfl
  have hal := (alX_F _ _ 27 (upd (F 27) (z681 : Int32).toNatClampNeg p1) (by decide) (by decide)).trans hal
  have hP : va_P (dC, dI) classes (wX g c v (va_up F 27 (upd (F 27) (z681 : Int32).toNatClampNeg p1)) rc) H := hP
  generalize (va_up F 27 (upd (F 27) (z681 : Int32).toNatClampNeg p1)) = F684 at hP hI hal
  refine lv_aload_n hx hb dX7_setUsed_11 rfl (lv_at hl 0 rfl) ?_
  refine va_get (D := (dC, dI)) (ci := 7) (v := .ref (g 27)) (C := RX7) (T := TX7) (N := 7) hx hb hwd inA_X7 hown hK hP 3 rfl rfl 5 (by decide) (hwd _ wk_98) (fun _ h9 => h9) rfl dX7_setUsed_12 ?_
  refine lv_iload_n hx hb dX7_setUsed_15 rfl (lv_at hl 1 rfl) ?_
  refine lv_iconst (v := 3) hx hb dX7_setUsed_16 (by decide) ?_
  refine lv_imul hx hb dX7_setUsed_17 ?_
  refine lv_topi (fun z685 e686 => ?_)
  try (have t687 := tmul e686 (a := p0.toInt) rfl (b := 3) (by decide) (by omega))
  refine lv_iconst (v := 1) hx hb dX7_setUsed_18 (by decide) ?_
  refine lv_iadd hx hb dX7_setUsed_19 ?_
  refine lv_topi (fun z688 e689 => ?_)
  try (have t690 := tadd e689 (a := z685.toInt) rfl (b := 1) (by decide) (by omega))
  refine lv_iload_n hx hb dX7_setUsed_20 rfl (lv_at hl 3 rfl) ?_
  refine va_iast hx hb hK hP (DX hg) hS 27 15 rfl rfl (i := z688) (x := p2) (vin (a := z688.toInt) rfl (by omega)) dX7_setUsed_21 (fun H locs hP _ hS => ?_)
  have hP := va_P_eq (sX_27 g c _ _ _ _) hP
  have hI := IX.store0 hI 27 (z688 : Int32).toNatClampNeg p2 rfl
  have hal := (alX_F _ _ 27 (upd (F684 27) (z688 : Int32).toNatClampNeg p2) (by decide) (by decide)).trans hal
  have hP : va_P (dC, dI) classes (wX g c v (va_up F684 27 (upd (F684 27) (z688 : Int32).toNatClampNeg p2)) rc) H := hP
  generalize (va_up F684 27 (upd (F684 27) (z688 : Int32).toNatClampNeg p2)) = F691 at hP hI hal
  refine lv_aload_n hx hb dX7_setUsed_22 rfl (lv_at hl 0 rfl) ?_
  refine va_get (D := (dC, dI)) (ci := 7) (v := .ref (g 27)) (C := RX7) (T := TX7) (N := 7) hx hb hwd inA_X7 hown hK hP 3 rfl rfl 5 (by decide) (hwd _ wk_98) (fun _ h9 => h9) rfl dX7_setUsed_23 ?_
  refine lv_iload_n hx hb dX7_setUsed_26 rfl (lv_at hl 1 rfl) ?_
  refine lv_iconst (v := 3) hx hb dX7_setUsed_27 (by decide) ?_
  refine lv_imul hx hb dX7_setUsed_28 ?_
  refine lv_topi (fun z692 e693 => ?_)
  try (have t694 := tmul e693 (a := p0.toInt) rfl (b := 3) (by decide) (by omega))
  refine lv_iconst (v := 2) hx hb dX7_setUsed_29 (by decide) ?_
  refine lv_iadd hx hb dX7_setUsed_30 ?_
  refine lv_topi (fun z695 e696 => ?_)
  try (have t697 := tadd e696 (a := z692.toInt) rfl (b := 2) (by decide) (by omega))
  refine lv_iload hx hb dX7_setUsed_31 (lv_at hl 4 rfl) ?_
  refine va_iast hx hb hK hP (DX hg) hS 27 15 rfl rfl (i := z695) (x := p3) (vin (a := z695.toInt) rfl (by omega)) dX7_setUsed_33 (fun H locs hP _ hS => ?_)
  have hP := va_P_eq (sX_27 g c _ _ _ _) hP
  have hI := IX.store0 hI 27 (z695 : Int32).toNatClampNeg p3 rfl
  have hal := (alX_F _ _ 27 (upd (F691 27) (z695 : Int32).toNatClampNeg p3) (by decide) (by decide)).trans hal
  have hP : va_P (dC, dI) classes (wX g c v (va_up F691 27 (upd (F691 27) (z695 : Int32).toNatClampNeg p3)) rc) H := hP
  generalize (va_up F691 27 (upd (F691 27) (z695 : Int32).toNatClampNeg p3)) = F698 at hP hI hal
  have hP9 : va_P (dC, dI) classes (wX g c v F698 rc) H := hP
  exact W.vret hx hb hr (fun t ht hW => ⟨⟨(v, F698, rc), rfl, ⟨hI, hal, rfl, (fun _ _ => rfl), trivial⟩, (by show va_P _ _ _ t.heap; rw [ht]; exact hP9)⟩, hS.F ht⟩) hS.2.2 dX7_setUsed_34
set_option maxHeartbeats 8000000 in
set_option maxRecDepth 100000 in
theorem c_X7_begin (l : Launch) (dC : Nat → ClassId) (dI : Nat → Nat → Nat) (g : Nat → Nat) (c : Nat → ClassId) (adK adV : Nat → Nat) (v : Nat → Int32) (F : Nat → Nat → Int32) (rc sz : Nat) (p0 : Int32) (p1 : Int32) (p2 : Int32) (hg : injX g) (hI : IX v F) (h0 : 0 ≤ p0.toInt ∧ p0.toInt ≤ 99) : Met l yX7_begin (Cond.code yX7_begin cX7_begin 4 none :: wA) ({ frames := 3, cells := 0, slots := 0, locals := 120 }) (va_Pc [.ref (g 3), .int p0, .int p1, .int p2] (PX dC dI g c adK adV v F rc sz)) (va_Qv (fun (u : StX) => IX u.1 u.2.1 ∧ alX u.1 u.2.1 = alX v F ∧ u.2.2 = rc ∧ (∀ k, k ∉ ([80] : List Nat) → u.1 k = v k) ∧ True) (BX dC dI g c) (AX g sz)) 0 0 (AX g sz) := by
  refine Met.ofW (cc := cX7_begin) (maxL := 4) (ret := none) (by decide) rfl ?_
  intro p e s m args below meth c0 s₁ B hml hv
  obtain ⟨rfl, hsz, hP, hK, hE⟩ := hv
  have hx := B.exec
  have hb := B.bytes
  have hr := B.returns
  have hts := atoms_spec (ws := Cond.code yX7_begin cX7_begin 4 none :: wA) B.pre
  have hwd : ∀ w ∈ wA, w.before _ s = true := fun w h => hts w (List.mem_cons_of_mem _ h)
  have hown : s.vm.findClass RX7 = some m.cls := findClass_of_methodNamed B.named
  have hlocks := B.notSynchronized
  subst hsz
  have hl := lv_entry ([.ref (g 3), .int p0, .int p1, .int p2]) (n := 4) (Nat.le_of_ble_eq_true rfl)
  rw [lg_entry_eq]
  generalize (lg_sl ([.ref (g 3), .int p0, .int p1, .int p2]) ++ List.replicate (4 - (lg_sl ([.ref (g 3), .int p0, .int p1, .int p2])).length) Slot.unset).toArray = ls at hl ⊢
  have hl : lv_has ls 4 [(0, .ref (g 3)), (1, .int p0), (2, .int p1), (3, .int p2)] := hl
  obtain ⟨H, eH⟩ : ∃ z, z = s.heap := ⟨_, rfl⟩
  have hP : va_P (dC, dI) classes (wX g c v F rc) H := by rw [eH]; exact hP
  have hS : va_S (AX g s.heap.size) s.heap H [] := by rw [eH]; exact va_S.rf
  refine my_heap eH ?_
  have hal : alX v F = alX v F := rfl
  have rp0 := i32_rng p0
  have rp1 := i32_rng p1
  have rp2 := i32_rng p2
  refine lv_aload_n hx hb dX7_begin_0 rfl (lv_at hl 0 rfl) ?_
  refine va_get (D := (dC, dI)) (ci := 7) (v := .ref (g 26)) (C := RX7) (T := TX7) (N := 7) hx hb hwd inA_X7 hown hK hP 3 rfl rfl 4 (by decide) (hwd _ wk_97) (fun _ h9 => h9) rfl dX7_begin_1 ?_
  refine lv_iload_n hx hb dX7_begin_4 rfl (lv_at hl 1 rfl) ?_
  refine lv_iload_n hx hb dX7_begin_5 rfl (lv_at hl 2 rfl) ?_
  refine va_iast hx hb hK hP (DX hg) hS 26 14 rfl rfl (i := p0) (x := p1) (vin (a := p0.toInt) rfl (by omega)) dX7_begin_6 (fun H locs hP _ hS => ?_)
  have hP := va_P_eq (sX_26 g c _ _ _ _) hP
  have hI := IX.store0 hI 26 (p0 : Int32).toNatClampNeg p1 rfl
  have hal := (alX_F _ _ 26 (upd (F 26) (p0 : Int32).toNatClampNeg p1) (by decide) (by decide)).trans hal
  have hP : va_P (dC, dI) classes (wX g c v (va_up F 26 (upd (F 26) (p0 : Int32).toNatClampNeg p1)) rc) H := hP
  generalize (va_up F 26 (upd (F 26) (p0 : Int32).toNatClampNeg p1)) = F699 at hP hI hal
  refine lv_aload_n hx hb dX7_begin_7 rfl (lv_at hl 0 rfl) ?_
  refine va_get (D := (dC, dI)) (ci := 7) (v := .ref (g 28)) (C := RX7) (T := TX7) (N := 7) hx hb hwd inA_X7 hown hK hP 3 rfl rfl 6 (by decide) (hwd _ wk_99) (fun _ h9 => h9) rfl dX7_begin_8 ?_
  refine lv_iload_n hx hb dX7_begin_11 rfl (lv_at hl 1 rfl) ?_
  refine lv_aload_n hx hb dX7_begin_12 rfl (lv_at hl 0 rfl) ?_
  refine va_get (D := (dC, dI)) (ci := 7) (v := .ref (g 4)) (C := RX7) (T := TX7) (N := 7) hx hb hwd inA_X7 hown hK hP 3 rfl rfl 0 (by decide) (hwd _ wk_100) (fun _ h9 => h9) rfl dX7_begin_13 ?_
  refine lv_iload_n hx hb dX7_begin_16 rfl (lv_at hl 1 rfl) ?_
  refine lv_iload_n hx hb dX7_begin_17 rfl (lv_at hl 2 rfl) ?_
  refine lv_iload_n hx hb dX7_begin_18 rfl (lv_at hl 3 rfl) ?_
  refine lv_aload_n hx hb dX7_begin_19 rfl (lv_at hl 0 rfl) ?_
  refine lv_iload_n hx hb dX7_begin_20 rfl (lv_at hl 1 rfl) ?_
  refine lv_iconst (v := 0) hx hb dX7_begin_21 (by decide) ?_
  refine va_calli (va_runV (As := [.int p0, .int 0]) (rest := [.int p2, .int p1, .int p0, .ref (g 4), .int p0, .ref (g 28)]) ⟨hx, hb, hml, hown, hwd⟩ (c_X7_usedOf l dC dI g c adK adV v F699 rc H.size p0 0 hg hI (by omega) (by have : (0 : Int32).toInt = 0 := (by decide); omega)) (cwV 2 hwd (gV wk_369 wk_448 wk_367 wk_368 wk_26) rfl rfl rfl (by decide +kernel) ⟨Nat.le_of_ble_eq_true rfl, Nat.le_of_ble_eq_true rfl⟩) ⟨PX.blind, va_recv hK hP (ci := 7) (q0 := 3) rfl rfl, fun U hU hW => ⟨rfl, PX.at hK hE hP hS hU hW⟩⟩ rfl rfl hl.1 rfl (lv_room (Nat.le_of_ble_eq_true rfl)) dX7_begin_22 ⟨Nat.le_of_ble_eq_true rfl, Nat.le_of_ble_eq_true rfl⟩) hS (fun q _ h => (freeX hS) q h) (freeX hS) (fun r700 u t H1 locs ht hvm hw hB hz1 hk1 hS => ?_)
  unfold BX at hB
  rw [ht] at hB
  have hP : va_P (dC, dI) classes (wX g c v F699 rc) H1 := hB
  generalize H1 = H at hP hS ⊢
  have rr_r700 := i32_rng r700
  refine lv_aload_n hx hb dX7_begin_25 rfl (lv_at hl 0 rfl) ?_
  refine lv_iload_n hx hb dX7_begin_26 rfl (lv_at hl 1 rfl) ?_
  refine lv_iconst (v := 1) hx hb dX7_begin_27 (by decide) ?_
  refine va_calli (va_runV (As := [.int p0, .int 1]) (rest := [.int r700, .int p2, .int p1, .int p0, .ref (g 4), .int p0, .ref (g 28)]) ⟨hx, hb, hml, hown, hwd⟩ (c_X7_usedOf l dC dI g c adK adV v F699 rc H.size p0 1 hg hI (by omega) (by have : (1 : Int32).toInt = 1 := (by decide); omega)) (cwV 2 hwd (gV wk_369 wk_448 wk_367 wk_368 wk_26) rfl rfl rfl (by decide +kernel) ⟨Nat.le_of_ble_eq_true rfl, Nat.le_of_ble_eq_true rfl⟩) ⟨PX.blind, va_recv hK hP (ci := 7) (q0 := 3) rfl rfl, fun U hU hW => ⟨rfl, PX.at hK hE hP hS hU hW⟩⟩ rfl rfl hl.1 rfl (lv_room (Nat.le_of_ble_eq_true rfl)) dX7_begin_28 ⟨Nat.le_of_ble_eq_true rfl, Nat.le_of_ble_eq_true rfl⟩) hS (fun q _ h => (freeX hS) q h) (freeX hS) (fun r701 u t H1 locs ht hvm hw hB hz1 hk1 hS => ?_)
  unfold BX at hB
  rw [ht] at hB
  have hP : va_P (dC, dI) classes (wX g c v F699 rc) H1 := hB
  generalize H1 = H at hP hS ⊢
  have rr_r701 := i32_rng r701
  refine va_calli (va_runV (As := [.int p0, .int p1, .int p2, .int r700, .int r701]) (rest := [.int p0, .ref (g 28)]) ⟨hx, hb, hml, hown, hwd⟩ (c_X9_add l dC dI g c adK adV v F699 rc H.size p0 p1 p2 r700 r701 hg hI (by omega)) (cwV 5 hwd (gV wk_583 wk_580 wk_581 wk_582 wk_22) rfl rfl rfl (by decide +kernel) ⟨Nat.le_of_ble_eq_true rfl, Nat.le_of_ble_eq_true rfl⟩) ⟨PX.blind, va_recv hK hP (ci := 9) (q0 := 4) rfl rfl, fun U hU hW => ⟨rfl, PX.at hK hE hP hS hU hW⟩⟩ rfl rfl hl.1 rfl (lv_room (Nat.le_of_ble_eq_true rfl)) dX7_begin_31 ⟨Nat.le_of_ble_eq_true rfl, Nat.le_of_ble_eq_true rfl⟩) hS (fun q _ h => (freeX hS) q h) (freeX hS) (fun r702 u t H1 locs ht hvm hw hB hz1 hk1 hS => ?_)
  unfold BX at hB
  rw [ht] at hB
  obtain ⟨v703, F704, rc9⟩ := u
  obtain ⟨hI, hal9, hrc, hf705, hw⟩ := hw
  dsimp only at hI hal9 hrc hB hf705 hw
  rw [hrc] at hB
  have hal := hal9.trans hal
  have hP : va_P (dC, dI) classes (wX g c v703 F704 rc) H1 := hB
  have hw : -1 ≤ r702.toInt ∧ r702.toInt ≤ 499 := hw
  generalize H1 = H at hP hS ⊢
  have hw_r702 := hw
  refine va_iast hx hb hK hP (DX hg) hS 28 16 rfl rfl (i := p0) (x := r702) (vin (a := p0.toInt) rfl (by omega)) dX7_begin_34 (fun H locs hP _ hS => ?_)
  have hP := va_P_eq (sX_28 g c _ _ _ _) hP
  have hI := IX.store0 hI 28 (p0 : Int32).toNatClampNeg r702 rfl
  have hal := (alX_F _ _ 28 (upd (F704 28) (p0 : Int32).toNatClampNeg r702) (by decide) (by decide)).trans hal
  have hP : va_P (dC, dI) classes (wX g c v703 (va_up F704 28 (upd (F704 28) (p0 : Int32).toNatClampNeg r702)) rc) H := hP
  generalize (va_up F704 28 (upd (F704 28) (p0 : Int32).toNatClampNeg r702)) = F706 at hP hI hal
  have hP9 : va_P (dC, dI) classes (wX g c v703 F706 rc) H := hP
  exact W.vret hx hb hr (fun t ht hW => ⟨⟨(v703, F706, rc), rfl, ⟨hI, hal, rfl, (frC (by decide) hf705 (fun _ _ => rfl)), trivial⟩, (by show va_P _ _ _ t.heap; rw [ht]; exact hP9)⟩, hS.F ht⟩) hS.2.2 dX7_begin_35
set_option maxHeartbeats 8000000 in
set_option maxRecDepth 100000 in
theorem c_X7_go (l : Launch) (dC : Nat → ClassId) (dI : Nat → Nat → Nat) (g : Nat → Nat) (c : Nat → ClassId) (adK adV : Nat → Nat) (v : Nat → Int32) (F : Nat → Nat → Int32) (rc sz : Nat) (p0 : Int32) (p1 : Int32) (p2 : Int32) (hg : injX g) (hI : IX v F) (h0 : 0 ≤ p0.toInt ∧ p0.toInt ≤ 99) : Met l yX7_go (Cond.code yX7_go cX7_go 4 none :: wA) ({ frames := 4, cells := 0, slots := 0, locals := 160 }) (va_Pc [.ref (g 3), .int p0, .int p1, .int p2] (PX dC dI g c adK adV v F rc sz)) (va_Qv (fun (u : StX) => IX u.1 u.2.1 ∧ alX u.1 u.2.1 = alX v F ∧ u.2.2 = rc ∧ (∀ k, k ∉ ([80] : List Nat) → u.1 k = v k) ∧ True) (BX dC dI g c) (AX g sz)) 0 0 (AX g sz) := by
  refine Met.ofW (cc := cX7_go) (maxL := 4) (ret := none) (by decide) rfl ?_
  intro p e s m args below meth c0 s₁ B hml hv
  obtain ⟨rfl, hsz, hP, hK, hE⟩ := hv
  have hx := B.exec
  have hb := B.bytes
  have hr := B.returns
  have hts := atoms_spec (ws := Cond.code yX7_go cX7_go 4 none :: wA) B.pre
  have hwd : ∀ w ∈ wA, w.before _ s = true := fun w h => hts w (List.mem_cons_of_mem _ h)
  have hown : s.vm.findClass RX7 = some m.cls := findClass_of_methodNamed B.named
  have hlocks := B.notSynchronized
  subst hsz
  have hl := lv_entry ([.ref (g 3), .int p0, .int p1, .int p2]) (n := 4) (Nat.le_of_ble_eq_true rfl)
  rw [lg_entry_eq]
  generalize (lg_sl ([.ref (g 3), .int p0, .int p1, .int p2]) ++ List.replicate (4 - (lg_sl ([.ref (g 3), .int p0, .int p1, .int p2])).length) Slot.unset).toArray = ls at hl ⊢
  have hl : lv_has ls 4 [(0, .ref (g 3)), (1, .int p0), (2, .int p1), (3, .int p2)] := hl
  obtain ⟨H, eH⟩ : ∃ z, z = s.heap := ⟨_, rfl⟩
  have hP : va_P (dC, dI) classes (wX g c v F rc) H := by rw [eH]; exact hP
  have hS : va_S (AX g s.heap.size) s.heap H [] := by rw [eH]; exact va_S.rf
  refine my_heap eH ?_
  have hal : alX v F = alX v F := rfl
  have rp0 := i32_rng p0
  have rp1 := i32_rng p1
  have rp2 := i32_rng p2
  refine lv_aload_n hx hb dX7_go_0 rfl (lv_at hl 0 rfl) ?_
  refine va_get (D := (dC, dI)) (ci := 7) (v := .ref (g 4)) (C := RX7) (T := TX7) (N := 7) hx hb hwd inA_X7 hown hK hP 3 rfl rfl 0 (by decide) (hwd _ wk_100) (fun _ h9 => h9) rfl dX7_go_1 ?_
  refine lv_aload_n hx hb dX7_go_4 rfl (lv_at hl 0 rfl) ?_
  refine va_get (D := (dC, dI)) (ci := 7) (v := .ref (g 28)) (C := RX7) (T := TX7) (N := 7) hx hb hwd inA_X7 hown hK hP 3 rfl rfl 6 (by decide) (hwd _ wk_99) (fun _ h9 => h9) rfl dX7_go_5 ?_
  refine lv_iload_n hx hb dX7_go_8 rfl (lv_at hl 1 rfl) ?_
  refine va_iald hx hb hK hP 28 16 rfl rfl (i := p0) (vin (a := p0.toInt) rfl (by omega)) dX7_go_9 ?_
  refine lv_topi (fun z707 e708 => ?_)
  refine lv_iload_n hx hb dX7_go_10 rfl (lv_at hl 3 rfl) ?_
  refine lv_aload_n hx hb dX7_go_11 rfl (lv_at hl 0 rfl) ?_
  refine lv_iload_n hx hb dX7_go_12 rfl (lv_at hl 1 rfl) ?_
  refine lv_iconst (v := 0) hx hb dX7_go_13 (by decide) ?_
  refine va_calli (va_runV (As := [.int p0, .int 0]) (rest := [.int p2, .int z707, .ref (g 4)]) ⟨hx, hb, hml, hown, hwd⟩ (c_X7_usedOf l dC dI g c adK adV v F rc H.size p0 0 hg hI (by omega) (by have : (0 : Int32).toInt = 0 := (by decide); omega)) (cwV 2 hwd (gV wk_369 wk_448 wk_367 wk_368 wk_26) rfl rfl rfl (by decide +kernel) ⟨Nat.le_of_ble_eq_true rfl, Nat.le_of_ble_eq_true rfl⟩) ⟨PX.blind, va_recv hK hP (ci := 7) (q0 := 3) rfl rfl, fun U hU hW => ⟨rfl, PX.at hK hE hP hS hU hW⟩⟩ rfl rfl hl.1 rfl (lv_room (Nat.le_of_ble_eq_true rfl)) dX7_go_14 ⟨Nat.le_of_ble_eq_true rfl, Nat.le_of_ble_eq_true rfl⟩) hS (fun q _ h => (freeX hS) q h) (freeX hS) (fun r709 u t H1 locs ht hvm hw hB hz1 hk1 hS => ?_)
  unfold BX at hB
  rw [ht] at hB
  have hP : va_P (dC, dI) classes (wX g c v F rc) H1 := hB
  generalize H1 = H at hP hS ⊢
  have rr_r709 := i32_rng r709
  refine lv_aload_n hx hb dX7_go_17 rfl (lv_at hl 0 rfl) ?_
  refine lv_iload_n hx hb dX7_go_18 rfl (lv_at hl 1 rfl) ?_
  refine lv_iconst (v := 1) hx hb dX7_go_19 (by decide) ?_
  refine va_calli (va_runV (As := [.int p0, .int 1]) (rest := [.int r709, .int p2, .int z707, .ref (g 4)]) ⟨hx, hb, hml, hown, hwd⟩ (c_X7_usedOf l dC dI g c adK adV v F rc H.size p0 1 hg hI (by omega) (by have : (1 : Int32).toInt = 1 := (by decide); omega)) (cwV 2 hwd (gV wk_369 wk_448 wk_367 wk_368 wk_26) rfl rfl rfl (by decide +kernel) ⟨Nat.le_of_ble_eq_true rfl, Nat.le_of_ble_eq_true rfl⟩) ⟨PX.blind, va_recv hK hP (ci := 7) (q0 := 3) rfl rfl, fun U hU hW => ⟨rfl, PX.at hK hE hP hS hU hW⟩⟩ rfl rfl hl.1 rfl (lv_room (Nat.le_of_ble_eq_true rfl)) dX7_go_20 ⟨Nat.le_of_ble_eq_true rfl, Nat.le_of_ble_eq_true rfl⟩) hS (fun q _ h => (freeX hS) q h) (freeX hS) (fun r710 u t H1 locs ht hvm hw hB hz1 hk1 hS => ?_)
  unfold BX at hB
  rw [ht] at hB
  have hP : va_P (dC, dI) classes (wX g c v F rc) H1 := hB
  generalize H1 = H at hP hS ⊢
  have rr_r710 := i32_rng r710
  refine va_callv (va_runV (As := [.int z707, .int p2, .int r709, .int r710]) (rest := []) ⟨hx, hb, hml, hown, hwd⟩ (c_X9_end l dC dI g c adK adV v F rc H.size z707 p2 r709 r710 hg hI ) (cwV 4 hwd (gV wk_622 wk_619 wk_620 wk_621 wk_22) rfl rfl rfl (by decide +kernel) ⟨Nat.le_of_ble_eq_true rfl, Nat.le_of_ble_eq_true rfl⟩) ⟨PX.blind, va_recv hK hP (ci := 9) (q0 := 4) rfl rfl, fun U hU hW => ⟨rfl, PX.at hK hE hP hS hU hW⟩⟩ rfl rfl hl.1 rfl (lv_room (Nat.le_of_ble_eq_true rfl)) dX7_go_23 ⟨Nat.le_of_ble_eq_true rfl, Nat.le_of_ble_eq_true rfl⟩) hS (fun q _ h => (freeX hS) q h) (freeX hS) (fun u t H1 locs ht hvm hw hB hz1 hk1 hS => ?_)
  unfold BX at hB
  rw [ht] at hB
  obtain ⟨v712, F713, rc9⟩ := u
  obtain ⟨hI, hal9, hrc, hf714, hw⟩ := hw
  dsimp only at hI hal9 hrc hB hf714 hw
  rw [hrc] at hB
  have hal := hal9.trans hal
  have hP : va_P (dC, dI) classes (wX g c v712 F713 rc) H1 := hB
  generalize H1 = H at hP hS ⊢
  refine lv_aload_n hx hb dX7_go_26 rfl (lv_at hl 0 rfl) ?_
  refine lv_iload_n hx hb dX7_go_27 rfl (lv_at hl 1 rfl) ?_
  refine lv_iload_n hx hb dX7_go_28 rfl (lv_at hl 2 rfl) ?_
  refine lv_iload_n hx hb dX7_go_29 rfl (lv_at hl 3 rfl) ?_
  refine va_callv (va_runV (As := [.int p0, .int p1, .int p2]) (rest := []) ⟨hx, hb, hml, hown, hwd⟩ (c_X7_begin l dC dI g c adK adV v712 F713 rc H.size p0 p1 p2 hg hI (by omega)) (cwV 3 hwd (gV wk_579 wk_623 wk_577 wk_578 wk_26) rfl rfl rfl (by decide +kernel) ⟨Nat.le_of_ble_eq_true rfl, Nat.le_of_ble_eq_true rfl⟩) ⟨PX.blind, va_recv hK hP (ci := 7) (q0 := 3) rfl rfl, fun U hU hW => ⟨rfl, PX.at hK hE hP hS hU hW⟩⟩ rfl rfl hl.1 rfl (lv_room (Nat.le_of_ble_eq_true rfl)) dX7_go_30 ⟨Nat.le_of_ble_eq_true rfl, Nat.le_of_ble_eq_true rfl⟩) hS (fun q _ h => (freeX hS) q h) (freeX hS) (fun u t H1 locs ht hvm hw hB hz1 hk1 hS => ?_)
  unfold BX at hB
  rw [ht] at hB
  obtain ⟨v716, F717, rc9⟩ := u
  obtain ⟨hI, hal9, hrc, hf718, hw⟩ := hw
  dsimp only at hI hal9 hrc hB hf718 hw
  rw [hrc] at hB
  have hal := hal9.trans hal
  have hP : va_P (dC, dI) classes (wX g c v716 F717 rc) H1 := hB
  generalize H1 = H at hP hS ⊢
  have hP9 : va_P (dC, dI) classes (wX g c v716 F717 rc) H := hP
  exact W.vret hx hb hr (fun t ht hW => ⟨⟨(v716, F717, rc), rfl, ⟨hI, hal, rfl, (frC (by decide) hf718 (frC (by decide) hf714 (fun _ _ => rfl))), trivial⟩, (by show va_P _ _ _ t.heap; rw [ht]; exact hP9)⟩, hS.F ht⟩) hS.2.2 dX7_go_33
set_option maxHeartbeats 8000000 in
set_option maxRecDepth 100000 in
theorem c_X7_leaveWith (l : Launch) (dC : Nat → ClassId) (dI : Nat → Nat → Nat) (g : Nat → Nat) (c : Nat → ClassId) (adK adV : Nat → Nat) (v : Nat → Int32) (F : Nat → Nat → Int32) (rc sz : Nat) (p0 : Int32) (p1 : Int32) (hg : injX g) (hI : IX v F) : Met l yX7_leaveWith (Cond.code yX7_leaveWith cX7_leaveWith 4 none :: wA) ({ frames := 2, cells := 0, slots := 0, locals := 80 }) (va_Pc [.ref (g 3), .int p0, .int p1] (PX dC dI g c adK adV v F rc sz)) (va_Qv (fun (u : StX) => IX u.1 u.2.1 ∧ alX u.1 u.2.1 = alX v F ∧ u.2.2 = rc ∧ (∀ k, k ∉ ([] : List Nat) → u.1 k = v k) ∧ True) (BX dC dI g c) (AX g sz)) 0 0 (AX g sz) := by
  refine Met.ofW (cc := cX7_leaveWith) (maxL := 4) (ret := none) (by decide) rfl ?_
  intro p e s m args below meth c0 s₁ B hml hv
  obtain ⟨rfl, hsz, hP, hK, hE⟩ := hv
  have hx := B.exec
  have hb := B.bytes
  have hr := B.returns
  have hts := atoms_spec (ws := Cond.code yX7_leaveWith cX7_leaveWith 4 none :: wA) B.pre
  have hwd : ∀ w ∈ wA, w.before _ s = true := fun w h => hts w (List.mem_cons_of_mem _ h)
  have hown : s.vm.findClass RX7 = some m.cls := findClass_of_methodNamed B.named
  have hlocks := B.notSynchronized
  subst hsz
  have hl := lv_entry ([.ref (g 3), .int p0, .int p1]) (n := 4) (Nat.le_of_ble_eq_true rfl)
  rw [lg_entry_eq]
  generalize (lg_sl ([.ref (g 3), .int p0, .int p1]) ++ List.replicate (4 - (lg_sl ([.ref (g 3), .int p0, .int p1])).length) Slot.unset).toArray = ls at hl ⊢
  have hl : lv_has ls 4 [(0, .ref (g 3)), (1, .int p0), (2, .int p1)] := hl
  obtain ⟨H, eH⟩ : ∃ z, z = s.heap := ⟨_, rfl⟩
  have hP : va_P (dC, dI) classes (wX g c v F rc) H := by rw [eH]; exact hP
  have hS : va_S (AX g s.heap.size) s.heap H [] := by rw [eH]; exact va_S.rf
  refine my_heap eH ?_
  have hal : alX v F = alX v F := rfl
  have rp0 := i32_rng p0
  have rp1 := i32_rng p1
  refine lv_iconst (v := 0) hx hb dX7_leaveWith_0 (by decide) ?_
  refine lv_istore_n (lv' := [(3, .int 0), (0, .ref (g 3)), (1, .int p0), (2, .int p1)]) hx hb dX7_leaveWith_1 rfl hl (by decide) rfl (fun ls hl => ?_)
  have lp719 : ∀ (n : Nat) (x3_lp719 : Int32) (v_lp719 : Nat → Int32) (F_lp719 : Nat → Nat → Int32) (H : Heap) (locs : List Loc) (ls : Array Slot), (0 ≤ x3_lp719.toInt) → (2147483648 - x3_lp719.toInt ≤ (n : Int)) → (∀ k, k ∉ ([] : List Nat) → v_lp719 k = v k) → IX v_lp719 F_lp719 → alX v_lp719 F_lp719 = alX v F → va_P (dC, dI) classes (wX g c v_lp719 F_lp719 rc) H → va_S (AX g s.heap.size) s.heap H locs → lv_has ls 4 [(3, .int x3_lp719), (0, .ref (g 3)), (1, .int p0), (2, .int p1)] → W p l e (headSpec (Cond.code yX7_leaveWith cX7_leaveWith 4 none :: wA) ({ frames := 2, cells := 0, slots := 0, locals := 80 })).room s m ([.ref (g 3), .int p0, .int p1] : List Value).toArray below meth c0 H locs 0 0 (MQ below (va_Qv (fun (u : StX) => IX u.1 u.2.1 ∧ alX u.1 u.2.1 = alX v F ∧ u.2.2 = rc ∧ (∀ k, k ∉ ([] : List Nat) → u.1 k = v k) ∧ True) (BX dC dI g c) (AX g s.heap.size)) ([.ref (g 3), .int p0, .int p1] : List Value).toArray s 0 0 (AX g s.heap.size)) (F0 m 2 ls []) := by
    intro n
    induction n with
    | zero =>
      intro x3_lp719 v_lp719 F_lp719 H locs ls t720 hm hf_lp719 hI hal hP hS hl
      exfalso
      have := i32_rng x3_lp719
      have hI1 := hI.1
      omega
    | succ n ih_lp719 =>
      intro x3_lp719 v_lp719 F_lp719 H locs ls t720 hm hf_lp719 hI hal hP hS hl
      have rx3_lp719 := i32_rng x3_lp719
      refine lv_iload_n hx hb dX7_leaveWith_2 rfl (lv_at hl 0 rfl) ?_
      refine lv_aload_n hx hb dX7_leaveWith_3 rfl (lv_at hl 1 rfl) ?_
      refine va_get (D := (dC, dI)) (ci := 7) (v := .int (v_lp719 61)) (C := RX7) (T := TX7) (N := 7) hx hb hwd inA_X7 hown hK hP 3 rfl rfl 1 (by decide) (hwd _ wk_289) (fun _ h9 => h9) rfl dX7_leaveWith_4 ?_
      refine my_top (v := v 61) (hf_lp719 61 (by decide)) ?_
      have t721 : 0 ≤ (v 61).toInt ∧ (v 61).toInt ≤ 100 := by have h9 := hI.1 61 _ _ rfl; rw [show v_lp719 61 = v 61 from hf_lp719 61 (by decide)] at h9; exact h9
      refine lv_icmp_ge (tgt := 67) hx hb dX7_leaveWith_7 (by decide) (fun c722 => ?_) (fun c722 => ?_)
      · skip
        have t723 := cv_le (a := (v 61).toInt) rfl (b := x3_lp719.toInt) rfl c722
        have hP9 : va_P (dC, dI) classes (wX g c v_lp719 F_lp719 rc) H := hP
        exact W.vret hx hb hr (fun t ht hW => ⟨⟨(v_lp719, F_lp719, rc), rfl, ⟨hI, hal, rfl, (frC (by decide) hf_lp719 (fun _ _ => rfl)), trivial⟩, (by show va_P _ _ _ t.heap; rw [ht]; exact hP9)⟩, hS.F ht⟩) hS.2.2 dX7_leaveWith_67
      · skip
        have t724 := cv_nle (a := (v 61).toInt) rfl (b := x3_lp719.toInt) rfl c722
        refine lv_aload_n hx hb dX7_leaveWith_10 rfl (lv_at hl 1 rfl) ?_
        refine va_get (D := (dC, dI)) (ci := 7) (v := .ref (g 26)) (C := RX7) (T := TX7) (N := 7) hx hb hwd inA_X7 hown hK hP 3 rfl rfl 4 (by decide) (hwd _ wk_97) (fun _ h9 => h9) rfl dX7_leaveWith_11 ?_
        refine lv_iload_n hx hb dX7_leaveWith_14 rfl (lv_at hl 0 rfl) ?_
        refine va_iald hx hb hK hP 26 14 rfl rfl (i := x3_lp719) (vin (a := x3_lp719.toInt) rfl (by omega)) dX7_leaveWith_15 ?_
        refine lv_topi (fun z725 e726 => ?_)
        refine lv_iload_n hx hb dX7_leaveWith_16 rfl (lv_at hl 2 rfl) ?_
        refine lv_icmp_ne (tgt := 61) hx hb dX7_leaveWith_17 (by decide) (fun c727 => ?_) (fun c727 => ?_)
        · skip
          have t728 := cv_ne (a := z725.toInt) rfl (b := p0.toInt) rfl c727
          obtain ⟨z729, e730⟩ : ∃ y : Int32, y = x3_lp719 + 1 := ⟨_, rfl⟩
          try (have t731 := tadd e730 rfl (b := 1) (by decide) (by omega))
          refine lv_iinc (v := z729) (lv' := [(3, .int z729), (0, .ref (g 3)), (1, .int p0), (2, .int p1)]) hx hb dX7_leaveWith_61 hl (k := 0) rfl (by rw [e730]; rfl) (by decide) rfl (fun ls hl => ?_)
          refine lv_goto (tgt := 2) hx hb dX7_leaveWith_64 (by decide) ?_
          exact ih_lp719 z729 v_lp719 F_lp719 _ _ _ (by omega) (by omega) hf_lp719 hI hal hP hS (lv_sub hl [0, 1, 2, 3] rfl)
        · skip
          have t732 := cv_eq (a := z725.toInt) rfl (b := p0.toInt) rfl c727
          refine lv_aload_n hx hb dX7_leaveWith_20 rfl (lv_at hl 1 rfl) ?_
          refine va_get (D := (dC, dI)) (ci := 7) (v := .ref (g 4)) (C := RX7) (T := TX7) (N := 7) hx hb hwd inA_X7 hown hK hP 3 rfl rfl 0 (by decide) (hwd _ wk_100) (fun _ h9 => h9) rfl dX7_leaveWith_21 ?_
          refine lv_aload_n hx hb dX7_leaveWith_24 rfl (lv_at hl 1 rfl) ?_
          refine va_get (D := (dC, dI)) (ci := 7) (v := .ref (g 28)) (C := RX7) (T := TX7) (N := 7) hx hb hwd inA_X7 hown hK hP 3 rfl rfl 6 (by decide) (hwd _ wk_99) (fun _ h9 => h9) rfl dX7_leaveWith_25 ?_
          refine lv_iload_n hx hb dX7_leaveWith_28 rfl (lv_at hl 0 rfl) ?_
          refine va_iald hx hb hK hP 28 16 rfl rfl (i := x3_lp719) (vin (a := x3_lp719.toInt) rfl (by omega)) dX7_leaveWith_29 ?_
          refine lv_topi (fun z733 e734 => ?_)
          refine lv_iload_n hx hb dX7_leaveWith_30 rfl (lv_at hl 3 rfl) ?_
          refine lv_aload_n hx hb dX7_leaveWith_31 rfl (lv_at hl 1 rfl) ?_
          refine lv_iload_n hx hb dX7_leaveWith_32 rfl (lv_at hl 0 rfl) ?_
          refine lv_iconst (v := 0) hx hb dX7_leaveWith_33 (by decide) ?_
          refine va_calli (va_runV (As := [.int x3_lp719, .int 0]) (rest := [.int p1, .int z733, .ref (g 4)]) ⟨hx, hb, hml, hown, hwd⟩ (c_X7_usedOf l dC dI g c adK adV v_lp719 F_lp719 rc H.size x3_lp719 0 hg hI (by omega) (by have : (0 : Int32).toInt = 0 := (by decide); omega)) (cwV 2 hwd (gV wk_369 wk_448 wk_367 wk_368 wk_26) rfl rfl rfl (by decide +kernel) ⟨Nat.le_of_ble_eq_true rfl, Nat.le_of_ble_eq_true rfl⟩) ⟨PX.blind, va_recv hK hP (ci := 7) (q0 := 3) rfl rfl, fun U hU hW => ⟨rfl, PX.at hK hE hP hS hU hW⟩⟩ rfl rfl hl.1 rfl (lv_room (Nat.le_of_ble_eq_true rfl)) dX7_leaveWith_34 ⟨Nat.le_of_ble_eq_true rfl, Nat.le_of_ble_eq_true rfl⟩) hS (fun q _ h => (freeX hS) q h) (freeX hS) (fun r735 u t H1 locs ht hvm hw hB hz1 hk1 hS => ?_)
          unfold BX at hB
          rw [ht] at hB
          have hP : va_P (dC, dI) classes (wX g c v_lp719 F_lp719 rc) H1 := hB
          generalize H1 = H at hP hS ⊢
          have rr_r735 := i32_rng r735
          refine lv_aload_n hx hb dX7_leaveWith_37 rfl (lv_at hl 1 rfl) ?_
          refine lv_iload_n hx hb dX7_leaveWith_38 rfl (lv_at hl 0 rfl) ?_
          refine lv_iconst (v := 1) hx hb dX7_leaveWith_39 (by decide) ?_
          refine va_calli (va_runV (As := [.int x3_lp719, .int 1]) (rest := [.int r735, .int p1, .int z733, .ref (g 4)]) ⟨hx, hb, hml, hown, hwd⟩ (c_X7_usedOf l dC dI g c adK adV v_lp719 F_lp719 rc H.size x3_lp719 1 hg hI (by omega) (by have : (1 : Int32).toInt = 1 := (by decide); omega)) (cwV 2 hwd (gV wk_369 wk_448 wk_367 wk_368 wk_26) rfl rfl rfl (by decide +kernel) ⟨Nat.le_of_ble_eq_true rfl, Nat.le_of_ble_eq_true rfl⟩) ⟨PX.blind, va_recv hK hP (ci := 7) (q0 := 3) rfl rfl, fun U hU hW => ⟨rfl, PX.at hK hE hP hS hU hW⟩⟩ rfl rfl hl.1 rfl (lv_room (Nat.le_of_ble_eq_true rfl)) dX7_leaveWith_40 ⟨Nat.le_of_ble_eq_true rfl, Nat.le_of_ble_eq_true rfl⟩) hS (fun q _ h => (freeX hS) q h) (freeX hS) (fun r736 u t H1 locs ht hvm hw hB hz1 hk1 hS => ?_)
          unfold BX at hB
          rw [ht] at hB
          have hP : va_P (dC, dI) classes (wX g c v_lp719 F_lp719 rc) H1 := hB
          generalize H1 = H at hP hS ⊢
          have rr_r736 := i32_rng r736
          refine va_callv (va_runV (As := [.int z733, .int p1, .int r735, .int r736]) (rest := []) ⟨hx, hb, hml, hown, hwd⟩ (c_X9_end l dC dI g c adK adV v_lp719 F_lp719 rc H.size z733 p1 r735 r736 hg hI ) (cwV 4 hwd (gV wk_622 wk_619 wk_620 wk_621 wk_22) rfl rfl rfl (by decide +kernel) ⟨Nat.le_of_ble_eq_true rfl, Nat.le_of_ble_eq_true rfl⟩) ⟨PX.blind, va_recv hK hP (ci := 9) (q0 := 4) rfl rfl, fun U hU hW => ⟨rfl, PX.at hK hE hP hS hU hW⟩⟩ rfl rfl hl.1 rfl (lv_room (Nat.le_of_ble_eq_true rfl)) dX7_leaveWith_43 ⟨Nat.le_of_ble_eq_true rfl, Nat.le_of_ble_eq_true rfl⟩) hS (fun q _ h => (freeX hS) q h) (freeX hS) (fun u t H1 locs ht hvm hw hB hz1 hk1 hS => ?_)
          unfold BX at hB
          rw [ht] at hB
          obtain ⟨v738, F739, rc9⟩ := u
          obtain ⟨hI, hal9, hrc, hf740, hw⟩ := hw
          dsimp only at hI hal9 hrc hB hf740 hw
          rw [hrc] at hB
          have hal := hal9.trans hal
          have hP : va_P (dC, dI) classes (wX g c v738 F739 rc) H1 := hB
          generalize H1 = H at hP hS ⊢
          refine lv_aload_n hx hb dX7_leaveWith_46 rfl (lv_at hl 1 rfl) ?_
          refine va_get (D := (dC, dI)) (ci := 7) (v := .ref (g 28)) (C := RX7) (T := TX7) (N := 7) hx hb hwd inA_X7 hown hK hP 3 rfl rfl 6 (by decide) (hwd _ wk_99) (fun _ h9 => h9) rfl dX7_leaveWith_47 ?_
          refine lv_iload_n hx hb dX7_leaveWith_50 rfl (lv_at hl 0 rfl) ?_
          refine lv_iconst (v := (-1)) hx hb dX7_leaveWith_51 (by decide) ?_
          refine va_iast hx hb hK hP (DX hg) hS 28 16 rfl rfl (i := x3_lp719) (x := (-1)) (vin (a := x3_lp719.toInt) rfl (by omega)) dX7_leaveWith_52 (fun H locs hP _ hS => ?_)
          have hP := va_P_eq (sX_28 g c _ _ _ _) hP
          have hI := IX.store0 hI 28 (x3_lp719 : Int32).toNatClampNeg (-1) rfl
          have hal := (alX_F _ _ 28 (upd (F739 28) (x3_lp719 : Int32).toNatClampNeg (-1)) (by decide) (by decide)).trans hal
          have hP : va_P (dC, dI) classes (wX g c v738 (va_up F739 28 (upd (F739 28) (x3_lp719 : Int32).toNatClampNeg (-1))) rc) H := hP
          generalize (va_up F739 28 (upd (F739 28) (x3_lp719 : Int32).toNatClampNeg (-1))) = F741 at hP hI hal
          refine lv_aload_n hx hb dX7_leaveWith_53 rfl (lv_at hl 1 rfl) ?_
          refine va_get (D := (dC, dI)) (ci := 7) (v := .ref (g 26)) (C := RX7) (T := TX7) (N := 7) hx hb hwd inA_X7 hown hK hP 3 rfl rfl 4 (by decide) (hwd _ wk_97) (fun _ h9 => h9) rfl dX7_leaveWith_54 ?_
          refine lv_iload_n hx hb dX7_leaveWith_57 rfl (lv_at hl 0 rfl) ?_
          refine lv_bipush (v := 12) hx hb dX7_leaveWith_58 (by decide) ?_
          refine va_iast hx hb hK hP (DX hg) hS 26 14 rfl rfl (i := x3_lp719) (x := 12) (vin (a := x3_lp719.toInt) rfl (by omega)) dX7_leaveWith_60 (fun H locs hP _ hS => ?_)
          have hP := va_P_eq (sX_26 g c _ _ _ _) hP
          have hI := IX.store0 hI 26 (x3_lp719 : Int32).toNatClampNeg 12 rfl
          have hal := (alX_F _ _ 26 (upd (F741 26) (x3_lp719 : Int32).toNatClampNeg 12) (by decide) (by decide)).trans hal
          have hP : va_P (dC, dI) classes (wX g c v738 (va_up F741 26 (upd (F741 26) (x3_lp719 : Int32).toNatClampNeg 12)) rc) H := hP
          generalize (va_up F741 26 (upd (F741 26) (x3_lp719 : Int32).toNatClampNeg 12)) = F742 at hP hI hal
          obtain ⟨z743, e744⟩ : ∃ y : Int32, y = x3_lp719 + 1 := ⟨_, rfl⟩
          try (have t745 := tadd e744 rfl (b := 1) (by decide) (by omega))
          refine lv_iinc (v := z743) (lv' := [(3, .int z743), (0, .ref (g 3)), (1, .int p0), (2, .int p1)]) hx hb dX7_leaveWith_61 hl (k := 0) rfl (by rw [e744]; rfl) (by decide) rfl (fun ls hl => ?_)
          refine lv_goto (tgt := 2) hx hb dX7_leaveWith_64 (by decide) ?_
          exact ih_lp719 z743 v738 F742 _ _ _ (by omega) (by omega) (frC (by decide) hf740 hf_lp719) hI hal hP hS (lv_sub hl [0, 1, 2, 3] rfl)
  obtain ⟨n9, hn9⟩ : ∃ n : Nat, 2147483648 - 0 ≤ (n : Int) := ⟨((2147483648 - 0 : Int)).toNat, by omega⟩
  exact lp719 n9 0 v F H _ ls (by have : (0 : Int32).toInt = 0 := (by decide); omega) (by have : (0 : Int32).toInt = 0 := (by decide); omega) (fun _ _ => rfl) hI hal hP hS hl
set_option maxHeartbeats 8000000 in
set_option maxRecDepth 100000 in
theorem c_X7_countAt (l : Launch) (dC : Nat → ClassId) (dI : Nat → Nat → Nat) (g : Nat → Nat) (c : Nat → ClassId) (adK adV : Nat → Nat) (v : Nat → Int32) (F : Nat → Nat → Int32) (rc sz : Nat) (p0 : Int32) (hg : injX g) (hI : IX v F) : Met l yX7_countAt (Cond.code yX7_countAt cX7_countAt 4 (some .int) :: wA) ({ frames := 1, cells := 0, slots := 0, locals := 40 }) (va_Pc [.ref (g 3), .int p0] (PX dC dI g c adK adV v F rc sz)) (va_Qi (fun (r : Int32) (u : Unit) => True) (fun (_ : Unit) => BX dC dI g c (v, F, rc)) (AX g sz)) 0 0 (AX g sz) := by
  refine Met.ofW (cc := cX7_countAt) (maxL := 4) (ret := (some .int)) (by decide) rfl ?_
  intro p e s m args below meth c0 s₁ B hml hv
  obtain ⟨rfl, hsz, hP, hK, hE⟩ := hv
  have hx := B.exec
  have hb := B.bytes
  have hr := B.returns
  have hts := atoms_spec (ws := Cond.code yX7_countAt cX7_countAt 4 (some .int) :: wA) B.pre
  have hwd : ∀ w ∈ wA, w.before _ s = true := fun w h => hts w (List.mem_cons_of_mem _ h)
  have hown : s.vm.findClass RX7 = some m.cls := findClass_of_methodNamed B.named
  have hlocks := B.notSynchronized
  subst hsz
  have hl := lv_entry ([.ref (g 3), .int p0]) (n := 4) (Nat.le_of_ble_eq_true rfl)
  rw [lg_entry_eq]
  generalize (lg_sl ([.ref (g 3), .int p0]) ++ List.replicate (4 - (lg_sl ([.ref (g 3), .int p0])).length) Slot.unset).toArray = ls at hl ⊢
  have hl : lv_has ls 4 [(0, .ref (g 3)), (1, .int p0)] := hl
  obtain ⟨H, eH⟩ : ∃ z, z = s.heap := ⟨_, rfl⟩
  have hP : va_P (dC, dI) classes (wX g c v F rc) H := by rw [eH]; exact hP
  have hS : va_S (AX g s.heap.size) s.heap H [] := by rw [eH]; exact va_S.rf
  refine my_heap eH ?_
  have rp0 := i32_rng p0
  refine lv_iconst (v := 0) hx hb dX7_countAt_0 (by decide) ?_
  refine lv_istore_n (lv' := [(2, .int 0), (0, .ref (g 3)), (1, .int p0)]) hx hb dX7_countAt_1 rfl hl (by decide) rfl (fun ls hl => ?_)
  refine lv_iconst (v := 0) hx hb dX7_countAt_2 (by decide) ?_
  refine lv_istore_n (lv' := [(3, .int 0), (2, .int 0), (0, .ref (g 3)), (1, .int p0)]) hx hb dX7_countAt_3 rfl hl (by decide) rfl (fun ls hl => ?_)
  have lp746 : ∀ (n : Nat) (x3_lp746 : Int32) (x2_lp746 : Int32) (H : Heap) (locs : List Loc) (ls : Array Slot), (0 ≤ x3_lp746.toInt) → (2147483648 - x3_lp746.toInt ≤ (n : Int)) → va_P (dC, dI) classes (wX g c v F rc) H → va_S (AX g s.heap.size) s.heap H locs → lv_has ls 4 [(3, .int x3_lp746), (2, .int x2_lp746), (0, .ref (g 3)), (1, .int p0)] → W p l e (headSpec (Cond.code yX7_countAt cX7_countAt 4 (some .int) :: wA) ({ frames := 1, cells := 0, slots := 0, locals := 40 })).room s m ([.ref (g 3), .int p0] : List Value).toArray below meth c0 H locs 0 0 (MQ below (va_Qi (fun (r : Int32) (u : Unit) => True) (fun (_ : Unit) => BX dC dI g c (v, F, rc)) (AX g s.heap.size)) ([.ref (g 3), .int p0] : List Value).toArray s 0 0 (AX g s.heap.size)) (F0 m 4 ls []) := by
    intro n
    induction n with
    | zero =>
      intro x3_lp746 x2_lp746 H locs ls t747 hm hP hS hl
      exfalso
      have := i32_rng x3_lp746
      have := i32_rng x2_lp746
      omega
    | succ n ih_lp746 =>
      intro x3_lp746 x2_lp746 H locs ls t747 hm hP hS hl
      have rx3_lp746 := i32_rng x3_lp746
      have rx2_lp746 := i32_rng x2_lp746
      refine lv_iload_n hx hb dX7_countAt_4 rfl (lv_at hl 0 rfl) ?_
      refine lv_aload_n hx hb dX7_countAt_5 rfl (lv_at hl 2 rfl) ?_
      refine va_get (D := (dC, dI)) (ci := 7) (v := .int (v 61)) (C := RX7) (T := TX7) (N := 7) hx hb hwd inA_X7 hown hK hP 3 rfl rfl 1 (by decide) (hwd _ wk_289) (fun _ h9 => h9) rfl dX7_countAt_6 ?_
      have t748 : 0 ≤ (v 61).toInt ∧ (v 61).toInt ≤ 100 := hI.1 61 _ _ rfl
      refine lv_icmp_ge (tgt := 36) hx hb dX7_countAt_9 (by decide) (fun c749 => ?_) (fun c749 => ?_)
      · skip
        have t750 := cv_le (a := (v 61).toInt) rfl (b := x3_lp746.toInt) rfl c749
        refine lv_iload_n hx hb dX7_countAt_36 rfl (lv_at hl 1 rfl) ?_
        have hP9 : va_P (dC, dI) classes (wX g c v F rc) H := hP
        exact W.iret (v := x2_lp746) hx hb hr (fun t ht hW => ⟨⟨x2_lp746, (), rfl, trivial, (by show va_P _ _ _ t.heap; rw [ht]; exact hP9)⟩, hS.F ht⟩) hS.2.2 dX7_countAt_37
      · skip
        have t751 := cv_nle (a := (v 61).toInt) rfl (b := x3_lp746.toInt) rfl c749
        refine lv_iload_n hx hb dX7_countAt_12 rfl (lv_at hl 1 rfl) ?_
        refine lv_aload_n hx hb dX7_countAt_13 rfl (lv_at hl 2 rfl) ?_
        refine va_get (D := (dC, dI)) (ci := 7) (v := .ref (g 26)) (C := RX7) (T := TX7) (N := 7) hx hb hwd inA_X7 hown hK hP 3 rfl rfl 4 (by decide) (hwd _ wk_97) (fun _ h9 => h9) rfl dX7_countAt_14 ?_
        refine lv_iload_n hx hb dX7_countAt_17 rfl (lv_at hl 0 rfl) ?_
        refine va_iald hx hb hK hP 26 14 rfl rfl (i := x3_lp746) (vin (a := x3_lp746.toInt) rfl (by omega)) dX7_countAt_18 ?_
        refine lv_topi (fun z752 e753 => ?_)
        refine lv_iload_n hx hb dX7_countAt_19 rfl (lv_at hl 3 rfl) ?_
        refine lv_icmp_ne (tgt := 27) hx hb dX7_countAt_20 (by decide) (fun c754 => ?_) (fun c754 => ?_)
        · skip
          have t755 := cv_ne (a := z752.toInt) rfl (b := p0.toInt) rfl c754
          refine lv_iconst (v := 0) hx hb dX7_countAt_27 (by decide) ?_
          refine lv_iadd hx hb dX7_countAt_28 ?_
          refine lv_topi (fun z756 e757 => ?_)
          try (have t758 := tadd e757 (a := x2_lp746.toInt) rfl (b := 0) (by decide) (by omega))
          refine lv_istore_n (lv' := [(2, .int z756), (3, .int x3_lp746), (0, .ref (g 3)), (1, .int p0)]) hx hb dX7_countAt_29 rfl hl (by decide) rfl (fun ls hl => ?_)
          obtain ⟨z759, e760⟩ : ∃ y : Int32, y = x3_lp746 + 1 := ⟨_, rfl⟩
          try (have t761 := tadd e760 rfl (b := 1) (by decide) (by omega))
          refine lv_iinc (v := z759) (lv' := [(3, .int z759), (2, .int z756), (0, .ref (g 3)), (1, .int p0)]) hx hb dX7_countAt_30 hl (k := 1) rfl (by rw [e760]; rfl) (by decide) rfl (fun ls hl => ?_)
          refine lv_goto (tgt := 4) hx hb dX7_countAt_33 (by decide) ?_
          exact ih_lp746 z759 z756  _ _ _ (by omega) (by omega) hP hS (lv_sub hl [0, 1, 2, 3] rfl)
        · skip
          have t762 := cv_eq (a := z752.toInt) rfl (b := p0.toInt) rfl c754
          refine lv_iconst (v := 1) hx hb dX7_countAt_23 (by decide) ?_
          refine lv_goto (tgt := 28) hx hb dX7_countAt_24 (by decide) ?_
          refine lv_iadd hx hb dX7_countAt_28 ?_
          refine lv_topi (fun z763 e764 => ?_)
          try (have t765 := tadd e764 (a := x2_lp746.toInt) rfl (b := 1) (by decide) (by omega))
          refine lv_istore_n (lv' := [(2, .int z763), (3, .int x3_lp746), (0, .ref (g 3)), (1, .int p0)]) hx hb dX7_countAt_29 rfl hl (by decide) rfl (fun ls hl => ?_)
          obtain ⟨z766, e767⟩ : ∃ y : Int32, y = x3_lp746 + 1 := ⟨_, rfl⟩
          try (have t768 := tadd e767 rfl (b := 1) (by decide) (by omega))
          refine lv_iinc (v := z766) (lv' := [(3, .int z766), (2, .int z763), (0, .ref (g 3)), (1, .int p0)]) hx hb dX7_countAt_30 hl (k := 1) rfl (by rw [e767]; rfl) (by decide) rfl (fun ls hl => ?_)
          refine lv_goto (tgt := 4) hx hb dX7_countAt_33 (by decide) ?_
          exact ih_lp746 z766 z763  _ _ _ (by omega) (by omega) hP hS (lv_sub hl [0, 1, 2, 3] rfl)
  obtain ⟨n9, hn9⟩ : ∃ n : Nat, 2147483648 - 0 ≤ (n : Int) := ⟨((2147483648 - 0 : Int)).toNat, by omega⟩
  exact lp746 n9 0 0  H _ ls (by have : (0 : Int32).toInt = 0 := (by decide); have : (0 : Int32).toInt = 0 := (by decide); omega) (by have : (0 : Int32).toInt = 0 := (by decide); have : (0 : Int32).toInt = 0 := (by decide); omega) hP hS hl
set_option maxHeartbeats 8000000 in
set_option maxRecDepth 100000 in
theorem c_X7_ofKindAt (l : Launch) (dC : Nat → ClassId) (dI : Nat → Nat → Nat) (g : Nat → Nat) (c : Nat → ClassId) (adK adV : Nat → Nat) (v : Nat → Int32) (F : Nat → Nat → Int32) (rc sz : Nat) (p0 : Int32) (p1 : Int32) (hg : injX g) (hI : IX v F) : Met l yX7_ofKindAt (Cond.code yX7_ofKindAt cX7_ofKindAt 5 (some .int) :: wA) ({ frames := 1, cells := 0, slots := 0, locals := 40 }) (va_Pc [.ref (g 3), .int p0, .int p1] (PX dC dI g c adK adV v F rc sz)) (va_Qi (fun (r : Int32) (u : Unit) => True) (fun (_ : Unit) => BX dC dI g c (v, F, rc)) (AX g sz)) 0 0 (AX g sz) := by
  refine Met.ofW (cc := cX7_ofKindAt) (maxL := 5) (ret := (some .int)) (by decide) rfl ?_
  intro p e s m args below meth c0 s₁ B hml hv
  obtain ⟨rfl, hsz, hP, hK, hE⟩ := hv
  have hx := B.exec
  have hb := B.bytes
  have hr := B.returns
  have hts := atoms_spec (ws := Cond.code yX7_ofKindAt cX7_ofKindAt 5 (some .int) :: wA) B.pre
  have hwd : ∀ w ∈ wA, w.before _ s = true := fun w h => hts w (List.mem_cons_of_mem _ h)
  have hown : s.vm.findClass RX7 = some m.cls := findClass_of_methodNamed B.named
  have hlocks := B.notSynchronized
  subst hsz
  have hl := lv_entry ([.ref (g 3), .int p0, .int p1]) (n := 5) (Nat.le_of_ble_eq_true rfl)
  rw [lg_entry_eq]
  generalize (lg_sl ([.ref (g 3), .int p0, .int p1]) ++ List.replicate (5 - (lg_sl ([.ref (g 3), .int p0, .int p1])).length) Slot.unset).toArray = ls at hl ⊢
  have hl : lv_has ls 5 [(0, .ref (g 3)), (1, .int p0), (2, .int p1)] := hl
  obtain ⟨H, eH⟩ : ∃ z, z = s.heap := ⟨_, rfl⟩
  have hP : va_P (dC, dI) classes (wX g c v F rc) H := by rw [eH]; exact hP
  have hS : va_S (AX g s.heap.size) s.heap H [] := by rw [eH]; exact va_S.rf
  refine my_heap eH ?_
  have rp0 := i32_rng p0
  have rp1 := i32_rng p1
  refine lv_iconst (v := 0) hx hb dX7_ofKindAt_0 (by decide) ?_
  refine lv_istore_n (lv' := [(3, .int 0), (0, .ref (g 3)), (1, .int p0), (2, .int p1)]) hx hb dX7_ofKindAt_1 rfl hl (by decide) rfl (fun ls hl => ?_)
  refine lv_iconst (v := 0) hx hb dX7_ofKindAt_2 (by decide) ?_
  refine lv_istore (lv' := [(4, .int 0), (3, .int 0), (0, .ref (g 3)), (1, .int p0), (2, .int p1)]) hx hb dX7_ofKindAt_3 hl (by decide) rfl (fun ls hl => ?_)
  have lp769 : ∀ (n : Nat) (x4_lp769 : Int32) (x3_lp769 : Int32) (H : Heap) (locs : List Loc) (ls : Array Slot), (0 ≤ x4_lp769.toInt) → (2147483648 - x4_lp769.toInt ≤ (n : Int)) → va_P (dC, dI) classes (wX g c v F rc) H → va_S (AX g s.heap.size) s.heap H locs → lv_has ls 5 [(4, .int x4_lp769), (3, .int x3_lp769), (0, .ref (g 3)), (1, .int p0), (2, .int p1)] → W p l e (headSpec (Cond.code yX7_ofKindAt cX7_ofKindAt 5 (some .int) :: wA) ({ frames := 1, cells := 0, slots := 0, locals := 40 })).room s m ([.ref (g 3), .int p0, .int p1] : List Value).toArray below meth c0 H locs 0 0 (MQ below (va_Qi (fun (r : Int32) (u : Unit) => True) (fun (_ : Unit) => BX dC dI g c (v, F, rc)) (AX g s.heap.size)) ([.ref (g 3), .int p0, .int p1] : List Value).toArray s 0 0 (AX g s.heap.size)) (F0 m 5 ls []) := by
    intro n
    induction n with
    | zero =>
      intro x4_lp769 x3_lp769 H locs ls t770 hm hP hS hl
      exfalso
      have := i32_rng x4_lp769
      have := i32_rng x3_lp769
      omega
    | succ n ih_lp769 =>
      intro x4_lp769 x3_lp769 H locs ls t770 hm hP hS hl
      have rx4_lp769 := i32_rng x4_lp769
      have rx3_lp769 := i32_rng x3_lp769
      refine lv_iload hx hb dX7_ofKindAt_5 (lv_at hl 0 rfl) ?_
      refine lv_aload_n hx hb dX7_ofKindAt_7 rfl (lv_at hl 2 rfl) ?_
      refine va_get (D := (dC, dI)) (ci := 7) (v := .int (v 61)) (C := RX7) (T := TX7) (N := 7) hx hb hwd inA_X7 hown hK hP 3 rfl rfl 1 (by decide) (hwd _ wk_289) (fun _ h9 => h9) rfl dX7_ofKindAt_8 ?_
      have t771 : 0 ≤ (v 61).toInt ∧ (v 61).toInt ≤ 100 := hI.1 61 _ _ rfl
      refine lv_icmp_ge (tgt := 50) hx hb dX7_ofKindAt_11 (by decide) (fun c772 => ?_) (fun c772 => ?_)
      · skip
        have t773 := cv_le (a := (v 61).toInt) rfl (b := x4_lp769.toInt) rfl c772
        refine lv_iload_n hx hb dX7_ofKindAt_50 rfl (lv_at hl 1 rfl) ?_
        have hP9 : va_P (dC, dI) classes (wX g c v F rc) H := hP
        exact W.iret (v := x3_lp769) hx hb hr (fun t ht hW => ⟨⟨x3_lp769, (), rfl, trivial, (by show va_P _ _ _ t.heap; rw [ht]; exact hP9)⟩, hS.F ht⟩) hS.2.2 dX7_ofKindAt_51
      · skip
        have t774 := cv_nle (a := (v 61).toInt) rfl (b := x4_lp769.toInt) rfl c772
        refine lv_iload_n hx hb dX7_ofKindAt_14 rfl (lv_at hl 1 rfl) ?_
        refine lv_aload_n hx hb dX7_ofKindAt_15 rfl (lv_at hl 2 rfl) ?_
        refine va_get (D := (dC, dI)) (ci := 7) (v := .ref (g 24)) (C := RX7) (T := TX7) (N := 7) hx hb hwd inA_X7 hown hK hP 3 rfl rfl 2 (by decide) (hwd _ wk_95) (fun _ h9 => h9) rfl dX7_ofKindAt_16 ?_
        refine lv_iload hx hb dX7_ofKindAt_19 (lv_at hl 0 rfl) ?_
        refine va_iald hx hb hK hP 24 12 rfl rfl (i := x4_lp769) (vin (a := x4_lp769.toInt) rfl (by omega)) dX7_ofKindAt_21 ?_
        refine lv_topi (fun z775 e776 => ?_)
        have t777 : 0 ≤ z775.toInt ∧ z775.toInt ≤ 9 := by rw [e776]; exact hI.2 24 _ _ rfl _
        refine lv_iload_n hx hb dX7_ofKindAt_22 rfl (lv_at hl 3 rfl) ?_
        refine lv_icmp_ne (tgt := 41) hx hb dX7_ofKindAt_23 (by decide) (fun c778 => ?_) (fun c778 => ?_)
        · skip
          have t779 := cv_ne (a := z775.toInt) rfl (b := p0.toInt) rfl c778
          refine lv_iconst (v := 0) hx hb dX7_ofKindAt_41 (by decide) ?_
          refine lv_iadd hx hb dX7_ofKindAt_42 ?_
          refine lv_topi (fun z780 e781 => ?_)
          try (have t782 := tadd e781 (a := x3_lp769.toInt) rfl (b := 0) (by decide) (by omega))
          refine lv_istore_n (lv' := [(3, .int z780), (4, .int x4_lp769), (0, .ref (g 3)), (1, .int p0), (2, .int p1)]) hx hb dX7_ofKindAt_43 rfl hl (by decide) rfl (fun ls hl => ?_)
          obtain ⟨z783, e784⟩ : ∃ y : Int32, y = x4_lp769 + 1 := ⟨_, rfl⟩
          try (have t785 := tadd e784 rfl (b := 1) (by decide) (by omega))
          refine lv_iinc (v := z783) (lv' := [(4, .int z783), (3, .int z780), (0, .ref (g 3)), (1, .int p0), (2, .int p1)]) hx hb dX7_ofKindAt_44 hl (k := 1) rfl (by rw [e784]; rfl) (by decide) rfl (fun ls hl => ?_)
          refine lv_goto (tgt := 5) hx hb dX7_ofKindAt_47 (by decide) ?_
          exact ih_lp769 z783 z780  _ _ _ (by omega) (by omega) hP hS (lv_sub hl [0, 1, 2, 3, 4] rfl)
        · skip
          have t786 := cv_eq (a := z775.toInt) rfl (b := p0.toInt) rfl c778
          refine lv_aload_n hx hb dX7_ofKindAt_26 rfl (lv_at hl 2 rfl) ?_
          refine va_get (D := (dC, dI)) (ci := 7) (v := .ref (g 26)) (C := RX7) (T := TX7) (N := 7) hx hb hwd inA_X7 hown hK hP 3 rfl rfl 4 (by decide) (hwd _ wk_97) (fun _ h9 => h9) rfl dX7_ofKindAt_27 ?_
          refine lv_iload hx hb dX7_ofKindAt_30 (lv_at hl 0 rfl) ?_
          refine va_iald hx hb hK hP 26 14 rfl rfl (i := x4_lp769) (vin (a := x4_lp769.toInt) rfl (by omega)) dX7_ofKindAt_32 ?_
          refine lv_topi (fun z787 e788 => ?_)
          refine lv_iload_n hx hb dX7_ofKindAt_33 rfl (lv_at hl 4 rfl) ?_
          refine lv_icmp_ne (tgt := 41) hx hb dX7_ofKindAt_34 (by decide) (fun c789 => ?_) (fun c789 => ?_)
          · skip
            have t790 := cv_ne (a := z787.toInt) rfl (b := p1.toInt) rfl c789
            refine lv_iconst (v := 0) hx hb dX7_ofKindAt_41 (by decide) ?_
            refine lv_iadd hx hb dX7_ofKindAt_42 ?_
            refine lv_topi (fun z791 e792 => ?_)
            try (have t793 := tadd e792 (a := x3_lp769.toInt) rfl (b := 0) (by decide) (by omega))
            refine lv_istore_n (lv' := [(3, .int z791), (4, .int x4_lp769), (0, .ref (g 3)), (1, .int p0), (2, .int p1)]) hx hb dX7_ofKindAt_43 rfl hl (by decide) rfl (fun ls hl => ?_)
            obtain ⟨z794, e795⟩ : ∃ y : Int32, y = x4_lp769 + 1 := ⟨_, rfl⟩
            try (have t796 := tadd e795 rfl (b := 1) (by decide) (by omega))
            refine lv_iinc (v := z794) (lv' := [(4, .int z794), (3, .int z791), (0, .ref (g 3)), (1, .int p0), (2, .int p1)]) hx hb dX7_ofKindAt_44 hl (k := 1) rfl (by rw [e795]; rfl) (by decide) rfl (fun ls hl => ?_)
            refine lv_goto (tgt := 5) hx hb dX7_ofKindAt_47 (by decide) ?_
            exact ih_lp769 z794 z791  _ _ _ (by omega) (by omega) hP hS (lv_sub hl [0, 1, 2, 3, 4] rfl)
          · skip
            have t797 := cv_eq (a := z787.toInt) rfl (b := p1.toInt) rfl c789
            refine lv_iconst (v := 1) hx hb dX7_ofKindAt_37 (by decide) ?_
            refine lv_goto (tgt := 42) hx hb dX7_ofKindAt_38 (by decide) ?_
            refine lv_iadd hx hb dX7_ofKindAt_42 ?_
            refine lv_topi (fun z798 e799 => ?_)
            try (have t800 := tadd e799 (a := x3_lp769.toInt) rfl (b := 1) (by decide) (by omega))
            refine lv_istore_n (lv' := [(3, .int z798), (4, .int x4_lp769), (0, .ref (g 3)), (1, .int p0), (2, .int p1)]) hx hb dX7_ofKindAt_43 rfl hl (by decide) rfl (fun ls hl => ?_)
            obtain ⟨z801, e802⟩ : ∃ y : Int32, y = x4_lp769 + 1 := ⟨_, rfl⟩
            try (have t803 := tadd e802 rfl (b := 1) (by decide) (by omega))
            refine lv_iinc (v := z801) (lv' := [(4, .int z801), (3, .int z798), (0, .ref (g 3)), (1, .int p0), (2, .int p1)]) hx hb dX7_ofKindAt_44 hl (k := 1) rfl (by rw [e802]; rfl) (by decide) rfl (fun ls hl => ?_)
            refine lv_goto (tgt := 5) hx hb dX7_ofKindAt_47 (by decide) ?_
            exact ih_lp769 z801 z798  _ _ _ (by omega) (by omega) hP hS (lv_sub hl [0, 1, 2, 3, 4] rfl)
  obtain ⟨n9, hn9⟩ : ∃ n : Nat, 2147483648 - 0 ≤ (n : Int) := ⟨((2147483648 - 0 : Int)).toNat, by omega⟩
  exact lp769 n9 0 0  H _ ls (by have : (0 : Int32).toInt = 0 := (by decide); have : (0 : Int32).toInt = 0 := (by decide); omega) (by have : (0 : Int32).toInt = 0 := (by decide); have : (0 : Int32).toInt = 0 := (by decide); omega) hP hS hl
set_option maxHeartbeats 8000000 in
set_option maxRecDepth 100000 in
theorem c_X7_age (l : Launch) (dC : Nat → ClassId) (dI : Nat → Nat → Nat) (g : Nat → Nat) (c : Nat → ClassId) (adK adV : Nat → Nat) (v : Nat → Int32) (F : Nat → Nat → Int32) (rc sz : Nat) (p0 : Int32) (hg : injX g) (hI : IX v F) : Met l yX7_age (Cond.code yX7_age cX7_age 3 none :: wA) ({ frames := 1, cells := 0, slots := 0, locals := 40 }) (va_Pc [.ref (g 3), .int p0] (PX dC dI g c adK adV v F rc sz)) (va_Qv (fun (u : StX) => IX u.1 u.2.1 ∧ alX u.1 u.2.1 = alX v F ∧ u.2.2 = rc ∧ (∀ k, k ∉ ([] : List Nat) → u.1 k = v k) ∧ True) (BX dC dI g c) (AX g sz)) 0 0 (AX g sz) := by
  refine Met.ofW (cc := cX7_age) (maxL := 3) (ret := none) (by decide) rfl ?_
  intro p e s m args below meth c0 s₁ B hml hv
  obtain ⟨rfl, hsz, hP, hK, hE⟩ := hv
  have hx := B.exec
  have hb := B.bytes
  have hr := B.returns
  have hts := atoms_spec (ws := Cond.code yX7_age cX7_age 3 none :: wA) B.pre
  have hwd : ∀ w ∈ wA, w.before _ s = true := fun w h => hts w (List.mem_cons_of_mem _ h)
  have hown : s.vm.findClass RX7 = some m.cls := findClass_of_methodNamed B.named
  have hlocks := B.notSynchronized
  subst hsz
  have hl := lv_entry ([.ref (g 3), .int p0]) (n := 3) (Nat.le_of_ble_eq_true rfl)
  rw [lg_entry_eq]
  generalize (lg_sl ([.ref (g 3), .int p0]) ++ List.replicate (3 - (lg_sl ([.ref (g 3), .int p0])).length) Slot.unset).toArray = ls at hl ⊢
  have hl : lv_has ls 3 [(0, .ref (g 3)), (1, .int p0)] := hl
  obtain ⟨H, eH⟩ : ∃ z, z = s.heap := ⟨_, rfl⟩
  have hP : va_P (dC, dI) classes (wX g c v F rc) H := by rw [eH]; exact hP
  have hS : va_S (AX g s.heap.size) s.heap H [] := by rw [eH]; exact va_S.rf
  refine my_heap eH ?_
  have hal : alX v F = alX v F := rfl
  have rp0 := i32_rng p0
  refine lv_iconst (v := 0) hx hb dX7_age_0 (by decide) ?_
  refine lv_istore_n (lv' := [(2, .int 0), (0, .ref (g 3)), (1, .int p0)]) hx hb dX7_age_1 rfl hl (by decide) rfl (fun ls hl => ?_)
  have lp804 : ∀ (n : Nat) (x2_lp804 : Int32) (v_lp804 : Nat → Int32) (F_lp804 : Nat → Nat → Int32) (H : Heap) (locs : List Loc) (ls : Array Slot), (0 ≤ x2_lp804.toInt) → (2147483648 - x2_lp804.toInt ≤ (n : Int)) → (∀ k, k ∉ ([] : List Nat) → v_lp804 k = v k) → IX v_lp804 F_lp804 → alX v_lp804 F_lp804 = alX v F → va_P (dC, dI) classes (wX g c v_lp804 F_lp804 rc) H → va_S (AX g s.heap.size) s.heap H locs → lv_has ls 3 [(2, .int x2_lp804), (0, .ref (g 3)), (1, .int p0)] → W p l e (headSpec (Cond.code yX7_age cX7_age 3 none :: wA) ({ frames := 1, cells := 0, slots := 0, locals := 40 })).room s m ([.ref (g 3), .int p0] : List Value).toArray below meth c0 H locs 0 0 (MQ below (va_Qv (fun (u : StX) => IX u.1 u.2.1 ∧ alX u.1 u.2.1 = alX v F ∧ u.2.2 = rc ∧ (∀ k, k ∉ ([] : List Nat) → u.1 k = v k) ∧ True) (BX dC dI g c) (AX g s.heap.size)) ([.ref (g 3), .int p0] : List Value).toArray s 0 0 (AX g s.heap.size)) (F0 m 2 ls []) := by
    intro n
    induction n with
    | zero =>
      intro x2_lp804 v_lp804 F_lp804 H locs ls t805 hm hf_lp804 hI hal hP hS hl
      exfalso
      have := i32_rng x2_lp804
      have hI1 := hI.1
      omega
    | succ n ih_lp804 =>
      intro x2_lp804 v_lp804 F_lp804 H locs ls t805 hm hf_lp804 hI hal hP hS hl
      have rx2_lp804 := i32_rng x2_lp804
      refine lv_iload_n hx hb dX7_age_2 rfl (lv_at hl 0 rfl) ?_
      refine lv_aload_n hx hb dX7_age_3 rfl (lv_at hl 1 rfl) ?_
      refine va_get (D := (dC, dI)) (ci := 7) (v := .int (v_lp804 61)) (C := RX7) (T := TX7) (N := 7) hx hb hwd inA_X7 hown hK hP 3 rfl rfl 1 (by decide) (hwd _ wk_289) (fun _ h9 => h9) rfl dX7_age_4 ?_
      refine my_top (v := v 61) (hf_lp804 61 (by decide)) ?_
      have t806 : 0 ≤ (v 61).toInt ∧ (v 61).toInt ≤ 100 := by have h9 := hI.1 61 _ _ rfl; rw [show v_lp804 61 = v 61 from hf_lp804 61 (by decide)] at h9; exact h9
      refine lv_icmp_ge (tgt := 41) hx hb dX7_age_7 (by decide) (fun c807 => ?_) (fun c807 => ?_)
      · skip
        have t808 := cv_le (a := (v 61).toInt) rfl (b := x2_lp804.toInt) rfl c807
        have hP9 : va_P (dC, dI) classes (wX g c v_lp804 F_lp804 rc) H := hP
        exact W.vret hx hb hr (fun t ht hW => ⟨⟨(v_lp804, F_lp804, rc), rfl, ⟨hI, hal, rfl, (frC (by decide) hf_lp804 (fun _ _ => rfl)), trivial⟩, (by show va_P _ _ _ t.heap; rw [ht]; exact hP9)⟩, hS.F ht⟩) hS.2.2 dX7_age_41
      · skip
        have t809 := cv_nle (a := (v 61).toInt) rfl (b := x2_lp804.toInt) rfl c807
        refine lv_aload_n hx hb dX7_age_10 rfl (lv_at hl 1 rfl) ?_
        refine va_get (D := (dC, dI)) (ci := 7) (v := .ref (g 26)) (C := RX7) (T := TX7) (N := 7) hx hb hwd inA_X7 hown hK hP 3 rfl rfl 4 (by decide) (hwd _ wk_97) (fun _ h9 => h9) rfl dX7_age_11 ?_
        refine lv_iload_n hx hb dX7_age_14 rfl (lv_at hl 0 rfl) ?_
        refine va_iald hx hb hK hP 26 14 rfl rfl (i := x2_lp804) (vin (a := x2_lp804.toInt) rfl (by omega)) dX7_age_15 ?_
        refine lv_topi (fun z810 e811 => ?_)
        refine lv_bipush (v := 12) hx hb dX7_age_16 (by decide) ?_
        refine lv_icmp_eq (tgt := 35) hx hb dX7_age_18 (by decide) (fun c812 => ?_) (fun c812 => ?_)
        · skip
          have t813 := cv_eq (a := z810.toInt) rfl (b := 12) (by decide) c812
          obtain ⟨z814, e815⟩ : ∃ y : Int32, y = x2_lp804 + 1 := ⟨_, rfl⟩
          try (have t816 := tadd e815 rfl (b := 1) (by decide) (by omega))
          refine lv_iinc (v := z814) (lv' := [(2, .int z814), (0, .ref (g 3)), (1, .int p0)]) hx hb dX7_age_35 hl (k := 0) rfl (by rw [e815]; rfl) (by decide) rfl (fun ls hl => ?_)
          refine lv_goto (tgt := 2) hx hb dX7_age_38 (by decide) ?_
          exact ih_lp804 z814 v_lp804 F_lp804 _ _ _ (by omega) (by omega) hf_lp804 hI hal hP hS (lv_sub hl [0, 1, 2] rfl)
        · skip
          have t817 := cv_ne (a := z810.toInt) rfl (b := 12) (by decide) c812
          refine lv_aload_n hx hb dX7_age_21 rfl (lv_at hl 1 rfl) ?_
          refine va_get (D := (dC, dI)) (ci := 7) (v := .ref (g 27)) (C := RX7) (T := TX7) (N := 7) hx hb hwd inA_X7 hown hK hP 3 rfl rfl 5 (by decide) (hwd _ wk_98) (fun _ h9 => h9) rfl dX7_age_22 ?_
          refine lv_iload_n hx hb dX7_age_25 rfl (lv_at hl 0 rfl) ?_
          refine lv_iconst (v := 3) hx hb dX7_age_26 (by decide) ?_
          refine lv_imul hx hb dX7_age_27 ?_
          refine lv_topi (fun z818 e819 => ?_)
          try (have t820 := tmul e819 (a := x2_lp804.toInt) rfl (b := 3) (by decide) (by omega))
          refine lv_iconst (v := 2) hx hb dX7_age_28 (by decide) ?_
          refine lv_iadd hx hb dX7_age_29 ?_
          refine lv_topi (fun z821 e822 => ?_)
          try (have t823 := tadd e822 (a := z818.toInt) rfl (b := 2) (by decide) (by omega))
          refine lv_dup2_11 hx hb dX7_age_30 rfl rfl ?_
          refine va_iald hx hb hK hP 27 15 rfl rfl (i := z821) (vin (a := z821.toInt) rfl (by omega)) dX7_age_31 ?_
          refine lv_topi (fun z824 e825 => ?_)
          refine lv_iload_n hx hb dX7_age_32 rfl (lv_at hl 2 rfl) ?_
          refine lv_iadd hx hb dX7_age_33 ?_
          refine lv_topi (fun z826 e827 => ?_)
          try (have t828 := tadd e827 (a := z824.toInt) rfl (b := p0.toInt) rfl (by omega))
          refine va_iast hx hb hK hP (DX hg) hS 27 15 rfl rfl (i := z821) (x := z826) (vin (a := z821.toInt) rfl (by omega)) dX7_age_34 (fun H locs hP _ hS => ?_)
          have hP := va_P_eq (sX_27 g c _ _ _ _) hP
          have hI := IX.store0 hI 27 (z821 : Int32).toNatClampNeg z826 rfl
          have hal := (alX_F _ _ 27 (upd (F_lp804 27) (z821 : Int32).toNatClampNeg z826) (by decide) (by decide)).trans hal
          have hP : va_P (dC, dI) classes (wX g c v_lp804 (va_up F_lp804 27 (upd (F_lp804 27) (z821 : Int32).toNatClampNeg z826)) rc) H := hP
          generalize (va_up F_lp804 27 (upd (F_lp804 27) (z821 : Int32).toNatClampNeg z826)) = F829 at hP hI hal
          obtain ⟨z830, e831⟩ : ∃ y : Int32, y = x2_lp804 + 1 := ⟨_, rfl⟩
          try (have t832 := tadd e831 rfl (b := 1) (by decide) (by omega))
          refine lv_iinc (v := z830) (lv' := [(2, .int z830), (0, .ref (g 3)), (1, .int p0)]) hx hb dX7_age_35 hl (k := 0) rfl (by rw [e831]; rfl) (by decide) rfl (fun ls hl => ?_)
          refine lv_goto (tgt := 2) hx hb dX7_age_38 (by decide) ?_
          exact ih_lp804 z830 v_lp804 F829 _ _ _ (by omega) (by omega) hf_lp804 hI hal hP hS (lv_sub hl [0, 1, 2] rfl)
  obtain ⟨n9, hn9⟩ : ∃ n : Nat, 2147483648 - 0 ≤ (n : Int) := ⟨((2147483648 - 0 : Int)).toNat, by omega⟩
  exact lp804 n9 0 v F H _ ls (by have : (0 : Int32).toInt = 0 := (by decide); omega) (by have : (0 : Int32).toInt = 0 := (by decide); omega) (fun _ _ => rfl) hI hal hP hS hl
set_option maxHeartbeats 8000000 in
set_option maxRecDepth 100000 in
theorem c_X7_canFly (l : Launch) (dC : Nat → ClassId) (dI : Nat → Nat → Nat) (g : Nat → Nat) (c : Nat → ClassId) (adK adV : Nat → Nat) (v : Nat → Int32) (F : Nat → Nat → Int32) (rc sz : Nat) (p0 : Int32) (p1 : Int32) (p2 : Int32) (hg : injX g) (hI : IX v F) : Met l yX7_canFly (Cond.code yX7_canFly cX7_canFly 5 (some .boolean) :: wA) ({ frames := 2, cells := 0, slots := 0, locals := 80 }) (va_Pc [.ref (g 3), .int p0, .int p1, .int p2] (PX dC dI g c adK adV v F rc sz)) (va_Qi (fun (r : Int32) (u : Unit) => 0 ≤ r.toInt ∧ r.toInt ≤ 1) (fun (_ : Unit) => BX dC dI g c (v, F, rc)) (AX g sz)) 0 0 (AX g sz) := by
  refine Met.ofW (cc := cX7_canFly) (maxL := 5) (ret := (some .boolean)) (by decide) rfl ?_
  intro p e s m args below meth c0 s₁ B hml hv
  obtain ⟨rfl, hsz, hP, hK, hE⟩ := hv
  have hx := B.exec
  have hb := B.bytes
  have hr := B.returns
  have hts := atoms_spec (ws := Cond.code yX7_canFly cX7_canFly 5 (some .boolean) :: wA) B.pre
  have hwd : ∀ w ∈ wA, w.before _ s = true := fun w h => hts w (List.mem_cons_of_mem _ h)
  have hown : s.vm.findClass RX7 = some m.cls := findClass_of_methodNamed B.named
  have hlocks := B.notSynchronized
  subst hsz
  have hl := lv_entry ([.ref (g 3), .int p0, .int p1, .int p2]) (n := 5) (Nat.le_of_ble_eq_true rfl)
  rw [lg_entry_eq]
  generalize (lg_sl ([.ref (g 3), .int p0, .int p1, .int p2]) ++ List.replicate (5 - (lg_sl ([.ref (g 3), .int p0, .int p1, .int p2])).length) Slot.unset).toArray = ls at hl ⊢
  have hl : lv_has ls 5 [(0, .ref (g 3)), (1, .int p0), (2, .int p1), (3, .int p2)] := hl
  obtain ⟨H, eH⟩ : ∃ z, z = s.heap := ⟨_, rfl⟩
  have hP : va_P (dC, dI) classes (wX g c v F rc) H := by rw [eH]; exact hP
  have hS : va_S (AX g s.heap.size) s.heap H [] := by rw [eH]; exact va_S.rf
  refine my_heap eH ?_
  have rp0 := i32_rng p0
  have rp1 := i32_rng p1
  have rp2 := i32_rng p2
  refine lv_iconst (v := 0) hx hb dX7_canFly_0 (by decide) ?_
  refine lv_istore (lv' := [(4, .int 0), (0, .ref (g 3)), (1, .int p0), (2, .int p1), (3, .int p2)]) hx hb dX7_canFly_1 hl (by decide) rfl (fun ls hl => ?_)
  have lp833 : ∀ (n : Nat) (x4_lp833 : Int32) (H : Heap) (locs : List Loc) (ls : Array Slot), (0 ≤ x4_lp833.toInt) → (2147483648 - x4_lp833.toInt ≤ (n : Int)) → va_P (dC, dI) classes (wX g c v F rc) H → va_S (AX g s.heap.size) s.heap H locs → lv_has ls 5 [(4, .int x4_lp833), (0, .ref (g 3)), (1, .int p0), (2, .int p1), (3, .int p2)] → W p l e (headSpec (Cond.code yX7_canFly cX7_canFly 5 (some .boolean) :: wA) ({ frames := 2, cells := 0, slots := 0, locals := 80 })).room s m ([.ref (g 3), .int p0, .int p1, .int p2] : List Value).toArray below meth c0 H locs 0 0 (MQ below (va_Qi (fun (r : Int32) (u : Unit) => 0 ≤ r.toInt ∧ r.toInt ≤ 1) (fun (_ : Unit) => BX dC dI g c (v, F, rc)) (AX g s.heap.size)) ([.ref (g 3), .int p0, .int p1, .int p2] : List Value).toArray s 0 0 (AX g s.heap.size)) (F0 m 3 ls []) := by
    intro n
    induction n with
    | zero =>
      intro x4_lp833 H locs ls t834 hm hP hS hl
      exfalso
      have := i32_rng x4_lp833
      omega
    | succ n ih_lp833 =>
      intro x4_lp833 H locs ls t834 hm hP hS hl
      have rx4_lp833 := i32_rng x4_lp833
      refine lv_iload hx hb dX7_canFly_3 (lv_at hl 0 rfl) ?_
      refine lv_aload_n hx hb dX7_canFly_5 rfl (lv_at hl 1 rfl) ?_
      refine va_get (D := (dC, dI)) (ci := 7) (v := .int (v 61)) (C := RX7) (T := TX7) (N := 7) hx hb hwd inA_X7 hown hK hP 3 rfl rfl 1 (by decide) (hwd _ wk_289) (fun _ h9 => h9) rfl dX7_canFly_6 ?_
      have t835 : 0 ≤ (v 61).toInt ∧ (v 61).toInt ≤ 100 := hI.1 61 _ _ rfl
      refine lv_icmp_ge (tgt := 59) hx hb dX7_canFly_9 (by decide) (fun c836 => ?_) (fun c836 => ?_)
      · skip
        have t837 := cv_le (a := (v 61).toInt) rfl (b := x4_lp833.toInt) rfl c836
        refine lv_iconst (v := 1) hx hb dX7_canFly_59 (by decide) ?_
        have hP9 : va_P (dC, dI) classes (wX g c v F rc) H := hP
        exact W.zret (v := 1) hx hb hr (rfl) (fun t ht hW => ⟨⟨1, (), rfl, by have : (1 : Int32).toInt = 1 := (by decide); omega, (by show va_P _ _ _ t.heap; rw [ht]; exact hP9)⟩, hS.F ht⟩) hS.2.2 dX7_canFly_60
      · skip
        have t838 := cv_nle (a := (v 61).toInt) rfl (b := x4_lp833.toInt) rfl c836
        refine lv_aload_n hx hb dX7_canFly_12 rfl (lv_at hl 1 rfl) ?_
        refine va_get (D := (dC, dI)) (ci := 7) (v := .ref (g 26)) (C := RX7) (T := TX7) (N := 7) hx hb hwd inA_X7 hown hK hP 3 rfl rfl 4 (by decide) (hwd _ wk_97) (fun _ h9 => h9) rfl dX7_canFly_13 ?_
        refine lv_iload hx hb dX7_canFly_16 (lv_at hl 0 rfl) ?_
        refine va_iald hx hb hK hP 26 14 rfl rfl (i := x4_lp833) (vin (a := x4_lp833.toInt) rfl (by omega)) dX7_canFly_18 ?_
        refine lv_topi (fun z839 e840 => ?_)
        refine lv_iload_n hx hb dX7_canFly_19 rfl (lv_at hl 2 rfl) ?_
        refine lv_icmp_ne (tgt := 53) hx hb dX7_canFly_20 (by decide) (fun c841 => ?_) (fun c841 => ?_)
        · skip
          have t842 := cv_ne (a := z839.toInt) rfl (b := p0.toInt) rfl c841
          obtain ⟨z843, e844⟩ : ∃ y : Int32, y = x4_lp833 + 1 := ⟨_, rfl⟩
          try (have t845 := tadd e844 rfl (b := 1) (by decide) (by omega))
          refine lv_iinc (v := z843) (lv' := [(4, .int z843), (0, .ref (g 3)), (1, .int p0), (2, .int p1), (3, .int p2)]) hx hb dX7_canFly_53 hl (k := 0) rfl (by rw [e844]; rfl) (by decide) rfl (fun ls hl => ?_)
          refine lv_goto (tgt := 3) hx hb dX7_canFly_56 (by decide) ?_
          exact ih_lp833 z843  _ _ _ (by omega) (by omega) hP hS (lv_sub hl [0, 1, 2, 3, 4] rfl)
        · skip
          have t846 := cv_eq (a := z839.toInt) rfl (b := p0.toInt) rfl c841
          refine lv_aload_n hx hb dX7_canFly_23 rfl (lv_at hl 1 rfl) ?_
          refine lv_iload hx hb dX7_canFly_24 (lv_at hl 0 rfl) ?_
          refine lv_iconst (v := 0) hx hb dX7_canFly_26 (by decide) ?_
          refine va_calli (va_runV (As := [.int x4_lp833, .int 0]) (rest := []) ⟨hx, hb, hml, hown, hwd⟩ (c_X7_usedOf l dC dI g c adK adV v F rc H.size x4_lp833 0 hg hI (by omega) (by have : (0 : Int32).toInt = 0 := (by decide); omega)) (cwV 2 hwd (gV wk_369 wk_448 wk_367 wk_368 wk_26) rfl rfl rfl (by decide +kernel) ⟨Nat.le_of_ble_eq_true rfl, Nat.le_of_ble_eq_true rfl⟩) ⟨PX.blind, va_recv hK hP (ci := 7) (q0 := 3) rfl rfl, fun U hU hW => ⟨rfl, PX.at hK hE hP hS hU hW⟩⟩ rfl rfl hl.1 rfl (lv_room (Nat.le_of_ble_eq_true rfl)) dX7_canFly_27 ⟨Nat.le_of_ble_eq_true rfl, Nat.le_of_ble_eq_true rfl⟩) hS (fun q _ h => (freeX hS) q h) (freeX hS) (fun r847 u t H1 locs ht hvm hw hB hz1 hk1 hS => ?_)
          unfold BX at hB
          rw [ht] at hB
          have hP : va_P (dC, dI) classes (wX g c v F rc) H1 := hB
          generalize H1 = H at hP hS ⊢
          have rr_r847 := i32_rng r847
          refine lv_iload_n hx hb dX7_canFly_30 rfl (lv_at hl 3 rfl) ?_
          refine lv_iadd hx hb dX7_canFly_31 ?_
          refine lv_topi (fun z848 e849 => ?_)
          try (have t850 := tadd e849 (a := r847.toInt) rfl (b := p1.toInt) rfl (by omega))
          refine lv_ldc (v := 999999) hx hb hown (hwd _ wk_447) dX7_canFly_32 ?_
          refine lv_icmp_gt (tgt := 51) hx hb dX7_canFly_34 (by decide) (fun c851 => ?_) (fun c851 => ?_)
          · skip
            have t852 := cv_lt (a := 999999) (by decide) (b := z848.toInt) rfl c851
            refine lv_iconst (v := 0) hx hb dX7_canFly_51 (by decide) ?_
            have hP9 : va_P (dC, dI) classes (wX g c v F rc) H := hP
            exact W.zret (v := 0) hx hb hr (rfl) (fun t ht hW => ⟨⟨0, (), rfl, by have : (0 : Int32).toInt = 0 := (by decide); omega, (by show va_P _ _ _ t.heap; rw [ht]; exact hP9)⟩, hS.F ht⟩) hS.2.2 dX7_canFly_52
          · skip
            have t853 := cv_nlt (a := 999999) (by decide) (b := z848.toInt) rfl c851
            refine lv_aload_n hx hb dX7_canFly_37 rfl (lv_at hl 1 rfl) ?_
            refine lv_iload hx hb dX7_canFly_38 (lv_at hl 0 rfl) ?_
            refine lv_iconst (v := 1) hx hb dX7_canFly_40 (by decide) ?_
            refine va_calli (va_runV (As := [.int x4_lp833, .int 1]) (rest := []) ⟨hx, hb, hml, hown, hwd⟩ (c_X7_usedOf l dC dI g c adK adV v F rc H.size x4_lp833 1 hg hI (by omega) (by have : (1 : Int32).toInt = 1 := (by decide); omega)) (cwV 2 hwd (gV wk_369 wk_448 wk_367 wk_368 wk_26) rfl rfl rfl (by decide +kernel) ⟨Nat.le_of_ble_eq_true rfl, Nat.le_of_ble_eq_true rfl⟩) ⟨PX.blind, va_recv hK hP (ci := 7) (q0 := 3) rfl rfl, fun U hU hW => ⟨rfl, PX.at hK hE hP hS hU hW⟩⟩ rfl rfl hl.1 rfl (lv_room (Nat.le_of_ble_eq_true rfl)) dX7_canFly_41 ⟨Nat.le_of_ble_eq_true rfl, Nat.le_of_ble_eq_true rfl⟩) hS (fun q _ h => (freeX hS) q h) (freeX hS) (fun r854 u t H1 locs ht hvm hw hB hz1 hk1 hS => ?_)
            unfold BX at hB
            rw [ht] at hB
            have hP : va_P (dC, dI) classes (wX g c v F rc) H1 := hB
            generalize H1 = H at hP hS ⊢
            have rr_r854 := i32_rng r854
            refine lv_iload_n hx hb dX7_canFly_44 rfl (lv_at hl 4 rfl) ?_
            refine lv_iadd hx hb dX7_canFly_45 ?_
            refine lv_topi (fun z855 e856 => ?_)
            try (have t857 := tadd e856 (a := r854.toInt) rfl (b := p2.toInt) rfl (by omega))
            refine lv_ldc (v := 999999) hx hb hown (hwd _ wk_447) dX7_canFly_46 ?_
            refine lv_icmp_le (tgt := 53) hx hb dX7_canFly_48 (by decide) (fun c858 => ?_) (fun c858 => ?_)
            · skip
              have t859 := cv_le (a := z855.toInt) rfl (b := 999999) (by decide) c858
              obtain ⟨z860, e861⟩ : ∃ y : Int32, y = x4_lp833 + 1 := ⟨_, rfl⟩
              try (have t862 := tadd e861 rfl (b := 1) (by decide) (by omega))
              refine lv_iinc (v := z860) (lv' := [(4, .int z860), (0, .ref (g 3)), (1, .int p0), (2, .int p1), (3, .int p2)]) hx hb dX7_canFly_53 hl (k := 0) rfl (by rw [e861]; rfl) (by decide) rfl (fun ls hl => ?_)
              refine lv_goto (tgt := 3) hx hb dX7_canFly_56 (by decide) ?_
              exact ih_lp833 z860  _ _ _ (by omega) (by omega) hP hS (lv_sub hl [0, 1, 2, 3, 4] rfl)
            · skip
              have t863 := cv_nle (a := z855.toInt) rfl (b := 999999) (by decide) c858
              refine lv_iconst (v := 0) hx hb dX7_canFly_51 (by decide) ?_
              have hP9 : va_P (dC, dI) classes (wX g c v F rc) H := hP
              exact W.zret (v := 0) hx hb hr (rfl) (fun t ht hW => ⟨⟨0, (), rfl, by have : (0 : Int32).toInt = 0 := (by decide); omega, (by show va_P _ _ _ t.heap; rw [ht]; exact hP9)⟩, hS.F ht⟩) hS.2.2 dX7_canFly_52
  obtain ⟨n9, hn9⟩ : ∃ n : Nat, 2147483648 - 0 ≤ (n : Int) := ⟨((2147483648 - 0 : Int)).toNat, by omega⟩
  exact lp833 n9 0  H _ ls (by have : (0 : Int32).toInt = 0 := (by decide); omega) (by have : (0 : Int32).toInt = 0 := (by decide); omega) hP hS hl
set_option maxHeartbeats 8000000 in
set_option maxRecDepth 100000 in
theorem c_X7_wear (l : Launch) (dC : Nat → ClassId) (dI : Nat → Nat → Nat) (g : Nat → Nat) (c : Nat → ClassId) (adK adV : Nat → Nat) (v : Nat → Int32) (F : Nat → Nat → Int32) (rc sz : Nat) (p0 : Int32) (p1 : Int32) (p2 : Int32) (hg : injX g) (hI : IX v F) : Met l yX7_wear (Cond.code yX7_wear cX7_wear 5 none :: wA) ({ frames := 1, cells := 0, slots := 0, locals := 40 }) (va_Pc [.ref (g 3), .int p0, .int p1, .int p2] (PX dC dI g c adK adV v F rc sz)) (va_Qv (fun (u : StX) => IX u.1 u.2.1 ∧ alX u.1 u.2.1 = alX v F ∧ u.2.2 = rc ∧ (∀ k, k ∉ ([] : List Nat) → u.1 k = v k) ∧ True) (BX dC dI g c) (AX g sz)) 0 0 (AX g sz) := by
  refine Met.ofW (cc := cX7_wear) (maxL := 5) (ret := none) (by decide) rfl ?_
  intro p e s m args below meth c0 s₁ B hml hv
  obtain ⟨rfl, hsz, hP, hK, hE⟩ := hv
  have hx := B.exec
  have hb := B.bytes
  have hr := B.returns
  have hts := atoms_spec (ws := Cond.code yX7_wear cX7_wear 5 none :: wA) B.pre
  have hwd : ∀ w ∈ wA, w.before _ s = true := fun w h => hts w (List.mem_cons_of_mem _ h)
  have hown : s.vm.findClass RX7 = some m.cls := findClass_of_methodNamed B.named
  have hlocks := B.notSynchronized
  subst hsz
  have hl := lv_entry ([.ref (g 3), .int p0, .int p1, .int p2]) (n := 5) (Nat.le_of_ble_eq_true rfl)
  rw [lg_entry_eq]
  generalize (lg_sl ([.ref (g 3), .int p0, .int p1, .int p2]) ++ List.replicate (5 - (lg_sl ([.ref (g 3), .int p0, .int p1, .int p2])).length) Slot.unset).toArray = ls at hl ⊢
  have hl : lv_has ls 5 [(0, .ref (g 3)), (1, .int p0), (2, .int p1), (3, .int p2)] := hl
  obtain ⟨H, eH⟩ : ∃ z, z = s.heap := ⟨_, rfl⟩
  have hP : va_P (dC, dI) classes (wX g c v F rc) H := by rw [eH]; exact hP
  have hS : va_S (AX g s.heap.size) s.heap H [] := by rw [eH]; exact va_S.rf
  refine my_heap eH ?_
  have hal : alX v F = alX v F := rfl
  have rp0 := i32_rng p0
  have rp1 := i32_rng p1
  have rp2 := i32_rng p2
  refine lv_iconst (v := 0) hx hb dX7_wear_0 (by decide) ?_
  refine lv_istore (lv' := [(4, .int 0), (0, .ref (g 3)), (1, .int p0), (2, .int p1), (3, .int p2)]) hx hb dX7_wear_1 hl (by decide) rfl (fun ls hl => ?_)
  have lp864 : ∀ (n : Nat) (x4_lp864 : Int32) (v_lp864 : Nat → Int32) (F_lp864 : Nat → Nat → Int32) (H : Heap) (locs : List Loc) (ls : Array Slot), (0 ≤ x4_lp864.toInt) → (2147483648 - x4_lp864.toInt ≤ (n : Int)) → (∀ k, k ∉ ([] : List Nat) → v_lp864 k = v k) → IX v_lp864 F_lp864 → alX v_lp864 F_lp864 = alX v F → va_P (dC, dI) classes (wX g c v_lp864 F_lp864 rc) H → va_S (AX g s.heap.size) s.heap H locs → lv_has ls 5 [(4, .int x4_lp864), (0, .ref (g 3)), (1, .int p0), (2, .int p1), (3, .int p2)] → W p l e (headSpec (Cond.code yX7_wear cX7_wear 5 none :: wA) ({ frames := 1, cells := 0, slots := 0, locals := 40 })).room s m ([.ref (g 3), .int p0, .int p1, .int p2] : List Value).toArray below meth c0 H locs 0 0 (MQ below (va_Qv (fun (u : StX) => IX u.1 u.2.1 ∧ alX u.1 u.2.1 = alX v F ∧ u.2.2 = rc ∧ (∀ k, k ∉ ([] : List Nat) → u.1 k = v k) ∧ True) (BX dC dI g c) (AX g s.heap.size)) ([.ref (g 3), .int p0, .int p1, .int p2] : List Value).toArray s 0 0 (AX g s.heap.size)) (F0 m 3 ls []) := by
    intro n
    induction n with
    | zero =>
      intro x4_lp864 v_lp864 F_lp864 H locs ls t865 hm hf_lp864 hI hal hP hS hl
      exfalso
      have := i32_rng x4_lp864
      have hI1 := hI.1
      omega
    | succ n ih_lp864 =>
      intro x4_lp864 v_lp864 F_lp864 H locs ls t865 hm hf_lp864 hI hal hP hS hl
      have rx4_lp864 := i32_rng x4_lp864
      refine lv_iload hx hb dX7_wear_3 (lv_at hl 0 rfl) ?_
      refine lv_aload_n hx hb dX7_wear_5 rfl (lv_at hl 1 rfl) ?_
      refine va_get (D := (dC, dI)) (ci := 7) (v := .int (v_lp864 61)) (C := RX7) (T := TX7) (N := 7) hx hb hwd inA_X7 hown hK hP 3 rfl rfl 1 (by decide) (hwd _ wk_289) (fun _ h9 => h9) rfl dX7_wear_6 ?_
      refine my_top (v := v 61) (hf_lp864 61 (by decide)) ?_
      have t866 : 0 ≤ (v 61).toInt ∧ (v 61).toInt ≤ 100 := by have h9 := hI.1 61 _ _ rfl; rw [show v_lp864 61 = v 61 from hf_lp864 61 (by decide)] at h9; exact h9
      refine lv_icmp_ge (tgt := 59) hx hb dX7_wear_9 (by decide) (fun c867 => ?_) (fun c867 => ?_)
      · skip
        have t868 := cv_le (a := (v 61).toInt) rfl (b := x4_lp864.toInt) rfl c867
        have hP9 : va_P (dC, dI) classes (wX g c v_lp864 F_lp864 rc) H := hP
        exact W.vret hx hb hr (fun t ht hW => ⟨⟨(v_lp864, F_lp864, rc), rfl, ⟨hI, hal, rfl, (frC (by decide) hf_lp864 (fun _ _ => rfl)), trivial⟩, (by show va_P _ _ _ t.heap; rw [ht]; exact hP9)⟩, hS.F ht⟩) hS.2.2 dX7_wear_59
      · skip
        have t869 := cv_nle (a := (v 61).toInt) rfl (b := x4_lp864.toInt) rfl c867
        refine lv_aload_n hx hb dX7_wear_12 rfl (lv_at hl 1 rfl) ?_
        refine va_get (D := (dC, dI)) (ci := 7) (v := .ref (g 26)) (C := RX7) (T := TX7) (N := 7) hx hb hwd inA_X7 hown hK hP 3 rfl rfl 4 (by decide) (hwd _ wk_97) (fun _ h9 => h9) rfl dX7_wear_13 ?_
        refine lv_iload hx hb dX7_wear_16 (lv_at hl 0 rfl) ?_
        refine va_iald hx hb hK hP 26 14 rfl rfl (i := x4_lp864) (vin (a := x4_lp864.toInt) rfl (by omega)) dX7_wear_18 ?_
        refine lv_topi (fun z870 e871 => ?_)
        refine lv_iload_n hx hb dX7_wear_19 rfl (lv_at hl 2 rfl) ?_
        refine lv_icmp_ne (tgt := 53) hx hb dX7_wear_20 (by decide) (fun c872 => ?_) (fun c872 => ?_)
        · skip
          have t873 := cv_ne (a := z870.toInt) rfl (b := p0.toInt) rfl c872
          obtain ⟨z874, e875⟩ : ∃ y : Int32, y = x4_lp864 + 1 := ⟨_, rfl⟩
          try (have t876 := tadd e875 rfl (b := 1) (by decide) (by omega))
          refine lv_iinc (v := z874) (lv' := [(4, .int z874), (0, .ref (g 3)), (1, .int p0), (2, .int p1), (3, .int p2)]) hx hb dX7_wear_53 hl (k := 0) rfl (by rw [e875]; rfl) (by decide) rfl (fun ls hl => ?_)
          refine lv_goto (tgt := 3) hx hb dX7_wear_56 (by decide) ?_
          exact ih_lp864 z874 v_lp864 F_lp864 _ _ _ (by omega) (by omega) hf_lp864 hI hal hP hS (lv_sub hl [0, 1, 2, 3, 4] rfl)
        · skip
          have t877 := cv_eq (a := z870.toInt) rfl (b := p0.toInt) rfl c872
          refine lv_aload_n hx hb dX7_wear_23 rfl (lv_at hl 1 rfl) ?_
          refine va_get (D := (dC, dI)) (ci := 7) (v := .ref (g 27)) (C := RX7) (T := TX7) (N := 7) hx hb hwd inA_X7 hown hK hP 3 rfl rfl 5 (by decide) (hwd _ wk_98) (fun _ h9 => h9) rfl dX7_wear_24 ?_
          refine lv_iload hx hb dX7_wear_27 (lv_at hl 0 rfl) ?_
          refine lv_iconst (v := 3) hx hb dX7_wear_29 (by decide) ?_
          refine lv_imul hx hb dX7_wear_30 ?_
          refine lv_topi (fun z878 e879 => ?_)
          try (have t880 := tmul e879 (a := x4_lp864.toInt) rfl (b := 3) (by decide) (by omega))
          refine lv_iconst (v := 0) hx hb dX7_wear_31 (by decide) ?_
          refine lv_iadd hx hb dX7_wear_32 ?_
          refine lv_topi (fun z881 e882 => ?_)
          try (have t883 := tadd e882 (a := z878.toInt) rfl (b := 0) (by decide) (by omega))
          refine lv_dup2_11 hx hb dX7_wear_33 rfl rfl ?_
          refine va_iald hx hb hK hP 27 15 rfl rfl (i := z881) (vin (a := z881.toInt) rfl (by omega)) dX7_wear_34 ?_
          refine lv_topi (fun z884 e885 => ?_)
          refine lv_iload_n hx hb dX7_wear_35 rfl (lv_at hl 3 rfl) ?_
          refine lv_iadd hx hb dX7_wear_36 ?_
          refine lv_topi (fun z886 e887 => ?_)
          try (have t888 := tadd e887 (a := z884.toInt) rfl (b := p1.toInt) rfl (by omega))
          refine va_iast hx hb hK hP (DX hg) hS 27 15 rfl rfl (i := z881) (x := z886) (vin (a := z881.toInt) rfl (by omega)) dX7_wear_37 (fun H locs hP _ hS => ?_)
          have hP := va_P_eq (sX_27 g c _ _ _ _) hP
          have hI := IX.store0 hI 27 (z881 : Int32).toNatClampNeg z886 rfl
          have hal := (alX_F _ _ 27 (upd (F_lp864 27) (z881 : Int32).toNatClampNeg z886) (by decide) (by decide)).trans hal
          have hP : va_P (dC, dI) classes (wX g c v_lp864 (va_up F_lp864 27 (upd (F_lp864 27) (z881 : Int32).toNatClampNeg z886)) rc) H := hP
          generalize (va_up F_lp864 27 (upd (F_lp864 27) (z881 : Int32).toNatClampNeg z886)) = F889 at hP hI hal
          refine lv_aload_n hx hb dX7_wear_38 rfl (lv_at hl 1 rfl) ?_
          refine va_get (D := (dC, dI)) (ci := 7) (v := .ref (g 27)) (C := RX7) (T := TX7) (N := 7) hx hb hwd inA_X7 hown hK hP 3 rfl rfl 5 (by decide) (hwd _ wk_98) (fun _ h9 => h9) rfl dX7_wear_39 ?_
          refine lv_iload hx hb dX7_wear_42 (lv_at hl 0 rfl) ?_
          refine lv_iconst (v := 3) hx hb dX7_wear_44 (by decide) ?_
          refine lv_imul hx hb dX7_wear_45 ?_
          refine lv_topi (fun z890 e891 => ?_)
          try (have t892 := tmul e891 (a := x4_lp864.toInt) rfl (b := 3) (by decide) (by omega))
          refine lv_iconst (v := 1) hx hb dX7_wear_46 (by decide) ?_
          refine lv_iadd hx hb dX7_wear_47 ?_
          refine lv_topi (fun z893 e894 => ?_)
          try (have t895 := tadd e894 (a := z890.toInt) rfl (b := 1) (by decide) (by omega))
          refine lv_dup2_11 hx hb dX7_wear_48 rfl rfl ?_
          refine va_iald hx hb hK hP 27 15 rfl rfl (i := z893) (vin (a := z893.toInt) rfl (by omega)) dX7_wear_49 ?_
          refine lv_topi (fun z896 e897 => ?_)
          refine lv_iload_n hx hb dX7_wear_50 rfl (lv_at hl 4 rfl) ?_
          refine lv_iadd hx hb dX7_wear_51 ?_
          refine lv_topi (fun z898 e899 => ?_)
          try (have t900 := tadd e899 (a := z896.toInt) rfl (b := p2.toInt) rfl (by omega))
          refine va_iast hx hb hK hP (DX hg) hS 27 15 rfl rfl (i := z893) (x := z898) (vin (a := z893.toInt) rfl (by omega)) dX7_wear_52 (fun H locs hP _ hS => ?_)
          have hP := va_P_eq (sX_27 g c _ _ _ _) hP
          have hI := IX.store0 hI 27 (z893 : Int32).toNatClampNeg z898 rfl
          have hal := (alX_F _ _ 27 (upd (F889 27) (z893 : Int32).toNatClampNeg z898) (by decide) (by decide)).trans hal
          have hP : va_P (dC, dI) classes (wX g c v_lp864 (va_up F889 27 (upd (F889 27) (z893 : Int32).toNatClampNeg z898)) rc) H := hP
          generalize (va_up F889 27 (upd (F889 27) (z893 : Int32).toNatClampNeg z898)) = F901 at hP hI hal
          obtain ⟨z902, e903⟩ : ∃ y : Int32, y = x4_lp864 + 1 := ⟨_, rfl⟩
          try (have t904 := tadd e903 rfl (b := 1) (by decide) (by omega))
          refine lv_iinc (v := z902) (lv' := [(4, .int z902), (0, .ref (g 3)), (1, .int p0), (2, .int p1), (3, .int p2)]) hx hb dX7_wear_53 hl (k := 0) rfl (by rw [e903]; rfl) (by decide) rfl (fun ls hl => ?_)
          refine lv_goto (tgt := 3) hx hb dX7_wear_56 (by decide) ?_
          exact ih_lp864 z902 v_lp864 F901 _ _ _ (by omega) (by omega) hf_lp864 hI hal hP hS (lv_sub hl [0, 1, 2, 3, 4] rfl)
  obtain ⟨n9, hn9⟩ : ∃ n : Nat, 2147483648 - 0 ≤ (n : Int) := ⟨((2147483648 - 0 : Int)).toNat, by omega⟩
  exact lp864 n9 0 v F H _ ls (by have : (0 : Int32).toInt = 0 := (by decide); omega) (by have : (0 : Int32).toInt = 0 := (by decide); omega) (fun _ _ => rfl) hI hal hP hS hl
set_option maxHeartbeats 8000000 in
set_option maxRecDepth 100000 in
theorem c_X7_renew (l : Launch) (dC : Nat → ClassId) (dI : Nat → Nat → Nat) (g : Nat → Nat) (c : Nat → ClassId) (adK adV : Nat → Nat) (v : Nat → Int32) (F : Nat → Nat → Int32) (rc sz : Nat) (p0 : Int32) (p1 : Int32) (hg : injX g) (hI : IX v F) (h0 : 0 ≤ p0.toInt ∧ p0.toInt ≤ 99) : Met l yX7_renew (Cond.code yX7_renew cX7_renew 4 none :: wA) ({ frames := 1, cells := 0, slots := 0, locals := 40 }) (va_Pc [.ref (g 3), .int p0, .int p1] (PX dC dI g c adK adV v F rc sz)) (va_Qv (fun (u : StX) => IX u.1 u.2.1 ∧ alX u.1 u.2.1 = alX v F ∧ u.2.2 = rc ∧ (∀ k, k ∉ ([] : List Nat) → u.1 k = v k) ∧ True) (BX dC dI g c) (AX g sz)) 0 0 (AX g sz) := by
  refine Met.ofW (cc := cX7_renew) (maxL := 4) (ret := none) (by decide) rfl ?_
  intro p e s m args below meth c0 s₁ B hml hv
  obtain ⟨rfl, hsz, hP, hK, hE⟩ := hv
  have hx := B.exec
  have hb := B.bytes
  have hr := B.returns
  have hts := atoms_spec (ws := Cond.code yX7_renew cX7_renew 4 none :: wA) B.pre
  have hwd : ∀ w ∈ wA, w.before _ s = true := fun w h => hts w (List.mem_cons_of_mem _ h)
  have hown : s.vm.findClass RX7 = some m.cls := findClass_of_methodNamed B.named
  have hlocks := B.notSynchronized
  subst hsz
  have hl := lv_entry ([.ref (g 3), .int p0, .int p1]) (n := 4) (Nat.le_of_ble_eq_true rfl)
  rw [lg_entry_eq]
  generalize (lg_sl ([.ref (g 3), .int p0, .int p1]) ++ List.replicate (4 - (lg_sl ([.ref (g 3), .int p0, .int p1])).length) Slot.unset).toArray = ls at hl ⊢
  have hl : lv_has ls 4 [(0, .ref (g 3)), (1, .int p0), (2, .int p1)] := hl
  obtain ⟨H, eH⟩ : ∃ z, z = s.heap := ⟨_, rfl⟩
  have hP : va_P (dC, dI) classes (wX g c v F rc) H := by rw [eH]; exact hP
  have hS : va_S (AX g s.heap.size) s.heap H [] := by rw [eH]; exact va_S.rf
  refine my_heap eH ?_
  have hal : alX v F = alX v F := rfl
  have rp0 := i32_rng p0
  have rp1 := i32_rng p1
  refine lv_iconst (v := 0) hx hb dX7_renew_0 (by decide) ?_
  refine lv_istore_n (lv' := [(3, .int 0), (0, .ref (g 3)), (1, .int p0), (2, .int p1)]) hx hb dX7_renew_1 rfl hl (by decide) rfl (fun ls hl => ?_)
  have lp905 : ∀ (n : Nat) (x3_lp905 : Int32) (v_lp905 : Nat → Int32) (F_lp905 : Nat → Nat → Int32) (H : Heap) (locs : List Loc) (ls : Array Slot), (0 ≤ x3_lp905.toInt) → (2147483648 - x3_lp905.toInt ≤ (n : Int)) → (∀ k, k ∉ ([] : List Nat) → v_lp905 k = v k) → IX v_lp905 F_lp905 → alX v_lp905 F_lp905 = alX v F → va_P (dC, dI) classes (wX g c v_lp905 F_lp905 rc) H → va_S (AX g s.heap.size) s.heap H locs → lv_has ls 4 [(3, .int x3_lp905), (0, .ref (g 3)), (1, .int p0), (2, .int p1)] → W p l e (headSpec (Cond.code yX7_renew cX7_renew 4 none :: wA) ({ frames := 1, cells := 0, slots := 0, locals := 40 })).room s m ([.ref (g 3), .int p0, .int p1] : List Value).toArray below meth c0 H locs 0 0 (MQ below (va_Qv (fun (u : StX) => IX u.1 u.2.1 ∧ alX u.1 u.2.1 = alX v F ∧ u.2.2 = rc ∧ (∀ k, k ∉ ([] : List Nat) → u.1 k = v k) ∧ True) (BX dC dI g c) (AX g s.heap.size)) ([.ref (g 3), .int p0, .int p1] : List Value).toArray s 0 0 (AX g s.heap.size)) (F0 m 2 ls []) := by
    intro n
    induction n with
    | zero =>
      intro x3_lp905 v_lp905 F_lp905 H locs ls t906 hm hf_lp905 hI hal hP hS hl
      exfalso
      have := i32_rng x3_lp905
      have hI1 := hI.1
      omega
    | succ n ih_lp905 =>
      intro x3_lp905 v_lp905 F_lp905 H locs ls t906 hm hf_lp905 hI hal hP hS hl
      have rx3_lp905 := i32_rng x3_lp905
      refine lv_iload_n hx hb dX7_renew_2 rfl (lv_at hl 0 rfl) ?_
      refine lv_iconst (v := 3) hx hb dX7_renew_3 (by decide) ?_
      refine lv_icmp_ge (tgt := 33) hx hb dX7_renew_4 (by decide) (fun c907 => ?_) (fun c907 => ?_)
      · skip
        have t908 := cv_le (a := 3) (by decide) (b := x3_lp905.toInt) rfl c907
        have hP9 : va_P (dC, dI) classes (wX g c v_lp905 F_lp905 rc) H := hP
        exact W.vret hx hb hr (fun t ht hW => ⟨⟨(v_lp905, F_lp905, rc), rfl, ⟨hI, hal, rfl, (frC (by decide) hf_lp905 (fun _ _ => rfl)), trivial⟩, (by show va_P _ _ _ t.heap; rw [ht]; exact hP9)⟩, hS.F ht⟩) hS.2.2 dX7_renew_33
      · skip
        have t909 := cv_nle (a := 3) (by decide) (b := x3_lp905.toInt) rfl c907
        refine lv_iload_n hx hb dX7_renew_7 rfl (lv_at hl 3 rfl) ?_
        refine lv_iload_n hx hb dX7_renew_8 rfl (lv_at hl 0 rfl) ?_
        refine lv_ishr hx hb dX7_renew_9 ?_
        refine lv_topi (fun z910 e911 => ?_)
        refine lv_iconst (v := 1) hx hb dX7_renew_10 (by decide) ?_
        refine lv_iand hx hb dX7_renew_11 ?_
        refine lv_topi (fun z913 e914 => ?_)
        refine lv_iconst (v := 1) hx hb dX7_renew_12 (by decide) ?_
        refine lv_icmp_ne (tgt := 27) hx hb dX7_renew_13 (by decide) (fun c916 => ?_) (fun c916 => ?_)
        · skip
          have t917 := cv_ne (a := z913.toInt) rfl (b := 1) (by decide) c916
          obtain ⟨z918, e919⟩ : ∃ y : Int32, y = x3_lp905 + 1 := ⟨_, rfl⟩
          try (have t920 := tadd e919 rfl (b := 1) (by decide) (by omega))
          refine lv_iinc (v := z918) (lv' := [(3, .int z918), (0, .ref (g 3)), (1, .int p0), (2, .int p1)]) hx hb dX7_renew_27 hl (k := 0) rfl (by rw [e919]; rfl) (by decide) rfl (fun ls hl => ?_)
          refine lv_goto (tgt := 2) hx hb dX7_renew_30 (by decide) ?_
          exact ih_lp905 z918 v_lp905 F_lp905 _ _ _ (by omega) (by omega) hf_lp905 hI hal hP hS (lv_sub hl [0, 1, 2, 3] rfl)
        · skip
          have t921 := cv_eq (a := z913.toInt) rfl (b := 1) (by decide) c916
          refine lv_aload_n hx hb dX7_renew_16 rfl (lv_at hl 1 rfl) ?_
          refine va_get (D := (dC, dI)) (ci := 7) (v := .ref (g 27)) (C := RX7) (T := TX7) (N := 7) hx hb hwd inA_X7 hown hK hP 3 rfl rfl 5 (by decide) (hwd _ wk_98) (fun _ h9 => h9) rfl dX7_renew_17 ?_
          refine lv_iload_n hx hb dX7_renew_20 rfl (lv_at hl 2 rfl) ?_
          refine lv_iconst (v := 3) hx hb dX7_renew_21 (by decide) ?_
          refine lv_imul hx hb dX7_renew_22 ?_
          refine lv_topi (fun z922 e923 => ?_)
          try (have t924 := tmul e923 (a := p0.toInt) rfl (b := 3) (by decide) (by omega))
          refine lv_iload_n hx hb dX7_renew_23 rfl (lv_at hl 0 rfl) ?_
          refine lv_iadd hx hb dX7_renew_24 ?_
          refine lv_topi (fun z925 e926 => ?_)
          try (have t927 := tadd e926 (a := z922.toInt) rfl (b := x3_lp905.toInt) rfl (by omega))
          refine lv_iconst (v := 0) hx hb dX7_renew_25 (by decide) ?_
          refine va_iast hx hb hK hP (DX hg) hS 27 15 rfl rfl (i := z925) (x := 0) (vin (a := z925.toInt) rfl (by omega)) dX7_renew_26 (fun H locs hP _ hS => ?_)
          have hP := va_P_eq (sX_27 g c _ _ _ _) hP
          have hI := IX.store0 hI 27 (z925 : Int32).toNatClampNeg 0 rfl
          have hal := (alX_F _ _ 27 (upd (F_lp905 27) (z925 : Int32).toNatClampNeg 0) (by decide) (by decide)).trans hal
          have hP : va_P (dC, dI) classes (wX g c v_lp905 (va_up F_lp905 27 (upd (F_lp905 27) (z925 : Int32).toNatClampNeg 0)) rc) H := hP
          generalize (va_up F_lp905 27 (upd (F_lp905 27) (z925 : Int32).toNatClampNeg 0)) = F928 at hP hI hal
          obtain ⟨z929, e930⟩ : ∃ y : Int32, y = x3_lp905 + 1 := ⟨_, rfl⟩
          try (have t931 := tadd e930 rfl (b := 1) (by decide) (by omega))
          refine lv_iinc (v := z929) (lv' := [(3, .int z929), (0, .ref (g 3)), (1, .int p0), (2, .int p1)]) hx hb dX7_renew_27 hl (k := 0) rfl (by rw [e930]; rfl) (by decide) rfl (fun ls hl => ?_)
          refine lv_goto (tgt := 2) hx hb dX7_renew_30 (by decide) ?_
          exact ih_lp905 z929 v_lp905 F928 _ _ _ (by omega) (by omega) hf_lp905 hI hal hP hS (lv_sub hl [0, 1, 2, 3] rfl)
  obtain ⟨n9, hn9⟩ : ∃ n : Nat, 2147483648 - 0 ≤ (n : Int) := ⟨((2147483648 - 0 : Int)).toNat, by omega⟩
  exact lp905 n9 0 v F H _ ls (by have : (0 : Int32).toInt = 0 := (by decide); omega) (by have : (0 : Int32).toInt = 0 := (by decide); omega) (fun _ _ => rfl) hI hal hP hS hl
set_option maxHeartbeats 8000000 in
set_option maxRecDepth 100000 in
theorem c_X7_usedAtEnd (l : Launch) (dC : Nat → ClassId) (dI : Nat → Nat → Nat) (g : Nat → Nat) (c : Nat → ClassId) (adK adV : Nat → Nat) (v : Nat → Int32) (F : Nat → Nat → Int32) (rc sz : Nat) (p0 : Int32) (p1 : Int32) (p2 : Int32) (hg : injX g) (hI : IX v F) (h0 : 0 ≤ p0.toInt ∧ p0.toInt ≤ 99) (h1 : 0 ≤ p1.toInt ∧ p1.toInt ≤ 499) (h2 : 0 ≤ p2.toInt ∧ p2.toInt ≤ 2) : Met l yX7_usedAtEnd (Cond.code yX7_usedAtEnd cX7_usedAtEnd 4 (some .int) :: wA) ({ frames := 2, cells := 0, slots := 0, locals := 80 }) (va_Pc [.ref (g 3), .int p0, .int p1, .int p2] (PX dC dI g c adK adV v F rc sz)) (va_Qi (fun (r : Int32) (u : Unit) => True) (fun (_ : Unit) => BX dC dI g c (v, F, rc)) (AX g sz)) 0 0 (AX g sz) := by
  refine Met.ofW (cc := cX7_usedAtEnd) (maxL := 4) (ret := (some .int)) (by decide) rfl ?_
  intro p e s m args below meth c0 s₁ B hml hv
  obtain ⟨rfl, hsz, hP, hK, hE⟩ := hv
  have hx := B.exec
  have hb := B.bytes
  have hr := B.returns
  have hts := atoms_spec (ws := Cond.code yX7_usedAtEnd cX7_usedAtEnd 4 (some .int) :: wA) B.pre
  have hwd : ∀ w ∈ wA, w.before _ s = true := fun w h => hts w (List.mem_cons_of_mem _ h)
  have hown : s.vm.findClass RX7 = some m.cls := findClass_of_methodNamed B.named
  have hlocks := B.notSynchronized
  subst hsz
  have hl := lv_entry ([.ref (g 3), .int p0, .int p1, .int p2]) (n := 4) (Nat.le_of_ble_eq_true rfl)
  rw [lg_entry_eq]
  generalize (lg_sl ([.ref (g 3), .int p0, .int p1, .int p2]) ++ List.replicate (4 - (lg_sl ([.ref (g 3), .int p0, .int p1, .int p2])).length) Slot.unset).toArray = ls at hl ⊢
  have hl : lv_has ls 4 [(0, .ref (g 3)), (1, .int p0), (2, .int p1), (3, .int p2)] := hl
  obtain ⟨H, eH⟩ : ∃ z, z = s.heap := ⟨_, rfl⟩
  have hP : va_P (dC, dI) classes (wX g c v F rc) H := by rw [eH]; exact hP
  have hS : va_S (AX g s.heap.size) s.heap H [] := by rw [eH]; exact va_S.rf
  refine my_heap eH ?_
  have rp0 := i32_rng p0
  have rp1 := i32_rng p1
  have rp2 := i32_rng p2
  refine lv_aload_n hx hb dX7_usedAtEnd_0 rfl (lv_at hl 0 rfl) ?_
  refine va_get (D := (dC, dI)) (ci := 7) (v := .ref (g 4)) (C := RX7) (T := TX7) (N := 7) hx hb hwd inA_X7 hown hK hP 3 rfl rfl 0 (by decide) (hwd _ wk_100) (fun _ h9 => h9) rfl dX7_usedAtEnd_1 ?_
  refine lv_iload_n hx hb dX7_usedAtEnd_4 rfl (lv_at hl 2 rfl) ?_
  refine va_calli (va_runV (As := [.int p1]) (rest := []) ⟨hx, hb, hml, hown, hwd⟩ (c_X9_goesOn l dC dI g c adK adV v F rc H.size p1 hg hI (by omega)) (cwV 1 hwd (gV wk_377 wk_700 wk_375 wk_376 wk_22) rfl rfl rfl (by decide +kernel) ⟨Nat.le_of_ble_eq_true rfl, Nat.le_of_ble_eq_true rfl⟩) ⟨PX.blind, va_recv hK hP (ci := 9) (q0 := 4) rfl rfl, fun U hU hW => ⟨rfl, PX.at hK hE hP hS hU hW⟩⟩ rfl rfl hl.1 rfl (lv_room (Nat.le_of_ble_eq_true rfl)) dX7_usedAtEnd_5 ⟨Nat.le_of_ble_eq_true rfl, Nat.le_of_ble_eq_true rfl⟩) hS (fun q _ h => (freeX hS) q h) (freeX hS) (fun r932 u t H1 locs ht hvm hw hB hz1 hk1 hS => ?_)
  unfold BX at hB
  rw [ht] at hB
  have hP : va_P (dC, dI) classes (wX g c v F rc) H1 := hB
  have hw : 0 ≤ r932.toInt ∧ r932.toInt ≤ 1 := hw
  generalize H1 = H at hP hS ⊢
  have hw_r932 := hw
  refine lv_if_eq (tgt := 20) hx hb dX7_usedAtEnd_8 (by decide) (fun c933 => ?_) (fun c933 => ?_)
  · skip
    have t934 := cv_eq (a := r932.toInt) rfl (b := 0) (by decide) c933
    refine lv_aload_n hx hb dX7_usedAtEnd_20 rfl (lv_at hl 0 rfl) ?_
    refine va_get (D := (dC, dI)) (ci := 7) (v := .ref (g 4)) (C := RX7) (T := TX7) (N := 7) hx hb hwd inA_X7 hown hK hP 3 rfl rfl 0 (by decide) (hwd _ wk_100) (fun _ h9 => h9) rfl dX7_usedAtEnd_21 ?_
    refine lv_iload_n hx hb dX7_usedAtEnd_24 rfl (lv_at hl 2 rfl) ?_
    refine lv_iload_n hx hb dX7_usedAtEnd_25 rfl (lv_at hl 3 rfl) ?_
    refine va_calli (va_runV (As := [.int p1, .int p2]) (rest := []) ⟨hx, hb, hml, hown, hwd⟩ (c_X9_usedAtEnd l dC dI g c adK adV v F rc H.size p1 p2 hg hI (by omega)) (cwV 2 hwd (gV wk_704 wk_701 wk_702 wk_703 wk_22) rfl rfl rfl (by decide +kernel) ⟨Nat.le_of_ble_eq_true rfl, Nat.le_of_ble_eq_true rfl⟩) ⟨PX.blind, va_recv hK hP (ci := 9) (q0 := 4) rfl rfl, fun U hU hW => ⟨rfl, PX.at hK hE hP hS hU hW⟩⟩ rfl rfl hl.1 rfl (lv_room (Nat.le_of_ble_eq_true rfl)) dX7_usedAtEnd_26 ⟨Nat.le_of_ble_eq_true rfl, Nat.le_of_ble_eq_true rfl⟩) hS (fun q _ h => (freeX hS) q h) (freeX hS) (fun r935 u t H1 locs ht hvm hw hB hz1 hk1 hS => ?_)
    unfold BX at hB
    rw [ht] at hB
    have hP : va_P (dC, dI) classes (wX g c v F rc) H1 := hB
    generalize H1 = H at hP hS ⊢
    have rr_r935 := i32_rng r935
    have hP9 : va_P (dC, dI) classes (wX g c v F rc) H := hP
    exact W.iret (v := r935) hx hb hr (fun t ht hW => ⟨⟨r935, (), rfl, trivial, (by show va_P _ _ _ t.heap; rw [ht]; exact hP9)⟩, hS.F ht⟩) hS.2.2 dX7_usedAtEnd_29
  · skip
    have t936 := cv_ne (a := r932.toInt) rfl (b := 0) (by decide) c933
    refine lv_aload_n hx hb dX7_usedAtEnd_11 rfl (lv_at hl 0 rfl) ?_
    refine lv_iload_n hx hb dX7_usedAtEnd_12 rfl (lv_at hl 1 rfl) ?_
    refine lv_iload_n hx hb dX7_usedAtEnd_13 rfl (lv_at hl 3 rfl) ?_
    refine va_calli (va_runV (As := [.int p0, .int p2]) (rest := []) ⟨hx, hb, hml, hown, hwd⟩ (c_X7_usedOf l dC dI g c adK adV v F rc H.size p0 p2 hg hI (by omega) (by omega)) (cwV 2 hwd (gV wk_369 wk_448 wk_367 wk_368 wk_26) rfl rfl rfl (by decide +kernel) ⟨Nat.le_of_ble_eq_true rfl, Nat.le_of_ble_eq_true rfl⟩) ⟨PX.blind, va_recv hK hP (ci := 7) (q0 := 3) rfl rfl, fun U hU hW => ⟨rfl, PX.at hK hE hP hS hU hW⟩⟩ rfl rfl hl.1 rfl (lv_room (Nat.le_of_ble_eq_true rfl)) dX7_usedAtEnd_14 ⟨Nat.le_of_ble_eq_true rfl, Nat.le_of_ble_eq_true rfl⟩) hS (fun q _ h => (freeX hS) q h) (freeX hS) (fun r937 u t H1 locs ht hvm hw hB hz1 hk1 hS => ?_)
    unfold BX at hB
    rw [ht] at hB
    have hP : va_P (dC, dI) classes (wX g c v F rc) H1 := hB
    generalize H1 = H at hP hS ⊢
    have rr_r937 := i32_rng r937
    refine lv_goto (tgt := 29) hx hb dX7_usedAtEnd_17 (by decide) ?_
    have hP9 : va_P (dC, dI) classes (wX g c v F rc) H := hP
    exact W.iret (v := r937) hx hb hr (fun t ht hW => ⟨⟨r937, (), rfl, trivial, (by show va_P _ _ _ t.heap; rw [ht]; exact hP9)⟩, hS.F ht⟩) hS.2.2 dX7_usedAtEnd_29
set_option maxHeartbeats 8000000 in
set_option maxRecDepth 100000 in
theorem c_X7_placeAhead (l : Launch) (dC : Nat → ClassId) (dI : Nat → Nat → Nat) (g : Nat → Nat) (c : Nat → ClassId) (adK adV : Nat → Nat) (v : Nat → Int32) (F : Nat → Nat → Int32) (rc sz : Nat) (p0 : Int32) (hg : injX g) (hI : IX v F) (h0 : 0 ≤ p0.toInt ∧ p0.toInt ≤ 99) : Met l yX7_placeAhead (Cond.code yX7_placeAhead cX7_placeAhead 3 (some .int) :: wA) ({ frames := 2, cells := 0, slots := 0, locals := 80 }) (va_Pc [.ref (g 3), .int p0] (PX dC dI g c adK adV v F rc sz)) (va_Qi (fun (r : Int32) (u : Unit) => True) (fun (_ : Unit) => BX dC dI g c (v, F, rc)) (AX g sz)) 0 0 (AX g sz) := by
  refine Met.ofW (cc := cX7_placeAhead) (maxL := 3) (ret := (some .int)) (by decide) rfl ?_
  intro p e s m args below meth c0 s₁ B hml hv
  obtain ⟨rfl, hsz, hP, hK, hE⟩ := hv
  have hx := B.exec
  have hb := B.bytes
  have hr := B.returns
  have hts := atoms_spec (ws := Cond.code yX7_placeAhead cX7_placeAhead 3 (some .int) :: wA) B.pre
  have hwd : ∀ w ∈ wA, w.before _ s = true := fun w h => hts w (List.mem_cons_of_mem _ h)
  have hown : s.vm.findClass RX7 = some m.cls := findClass_of_methodNamed B.named
  have hlocks := B.notSynchronized
  subst hsz
  have hl := lv_entry ([.ref (g 3), .int p0]) (n := 3) (Nat.le_of_ble_eq_true rfl)
  rw [lg_entry_eq]
  generalize (lg_sl ([.ref (g 3), .int p0]) ++ List.replicate (3 - (lg_sl ([.ref (g 3), .int p0])).length) Slot.unset).toArray = ls at hl ⊢
  have hl : lv_has ls 3 [(0, .ref (g 3)), (1, .int p0)] := hl
  obtain ⟨H, eH⟩ : ∃ z, z = s.heap := ⟨_, rfl⟩
  have hP : va_P (dC, dI) classes (wX g c v F rc) H := by rw [eH]; exact hP
  have hS : va_S (AX g s.heap.size) s.heap H [] := by rw [eH]; exact va_S.rf
  refine my_heap eH ?_
  have rp0 := i32_rng p0
  refine lv_aload_n hx hb dX7_placeAhead_0 rfl (lv_at hl 0 rfl) ?_
  refine va_get (D := (dC, dI)) (ci := 7) (v := .ref (g 4)) (C := RX7) (T := TX7) (N := 7) hx hb hwd inA_X7 hown hK hP 3 rfl rfl 0 (by decide) (hwd _ wk_100) (fun _ h9 => h9) rfl dX7_placeAhead_1 ?_
  refine lv_iload_n hx hb dX7_placeAhead_4 rfl (lv_at hl 1 rfl) ?_
  refine lv_aload_n hx hb dX7_placeAhead_5 rfl (lv_at hl 0 rfl) ?_
  refine va_get (D := (dC, dI)) (ci := 7) (v := .ref (g 28)) (C := RX7) (T := TX7) (N := 7) hx hb hwd inA_X7 hown hK hP 3 rfl rfl 6 (by decide) (hwd _ wk_99) (fun _ h9 => h9) rfl dX7_placeAhead_6 ?_
  refine lv_iload_n hx hb dX7_placeAhead_9 rfl (lv_at hl 1 rfl) ?_
  refine va_iald hx hb hK hP 28 16 rfl rfl (i := p0) (vin (a := p0.toInt) rfl (by omega)) dX7_placeAhead_10 ?_
  refine lv_topi (fun z938 e939 => ?_)
  refine va_calli (va_runV (As := [.int p0, .int z938]) (rest := []) ⟨hx, hb, hml, hown, hwd⟩ (c_X9_aheadOf l dC dI g c adK adV v F rc H.size p0 z938 hg hI (by omega)) (cwV 2 hwd (gV wk_1338 wk_1335 wk_1336 wk_1337 wk_22) rfl rfl rfl (by decide +kernel) ⟨Nat.le_of_ble_eq_true rfl, Nat.le_of_ble_eq_true rfl⟩) ⟨PX.blind, va_recv hK hP (ci := 9) (q0 := 4) rfl rfl, fun U hU hW => ⟨rfl, PX.at hK hE hP hS hU hW⟩⟩ rfl rfl hl.1 rfl (lv_room (Nat.le_of_ble_eq_true rfl)) dX7_placeAhead_11 ⟨Nat.le_of_ble_eq_true rfl, Nat.le_of_ble_eq_true rfl⟩) hS (fun q _ h => (freeX hS) q h) (freeX hS) (fun r940 u t H1 locs ht hvm hw hB hz1 hk1 hS => ?_)
  unfold BX at hB
  rw [ht] at hB
  have hP : va_P (dC, dI) classes (wX g c v F rc) H1 := hB
  have hw : -1 ≤ r940.toInt ∧ r940.toInt ≤ 499 := hw
  generalize H1 = H at hP hS ⊢
  have hw_r940 := hw
  refine lv_istore_n (lv' := [(2, .int r940), (0, .ref (g 3)), (1, .int p0)]) hx hb dX7_placeAhead_14 rfl hl (by decide) rfl (fun ls hl => ?_)
  refine lv_iload_n hx hb dX7_placeAhead_15 rfl (lv_at hl 0 rfl) ?_
  refine lv_iconst (v := (-1)) hx hb dX7_placeAhead_16 (by decide) ?_
  refine lv_icmp_ne (tgt := 24) hx hb dX7_placeAhead_17 (by decide) (fun c941 => ?_) (fun c941 => ?_)
  · skip
    have t942 := cv_ne (a := r940.toInt) rfl (b := (-1)) (by decide) c941
    refine lv_aload_n hx hb dX7_placeAhead_24 rfl (lv_at hl 1 rfl) ?_
    refine va_get (D := (dC, dI)) (ci := 7) (v := .ref (g 4)) (C := RX7) (T := TX7) (N := 7) hx hb hwd inA_X7 hown hK hP 3 rfl rfl 0 (by decide) (hwd _ wk_100) (fun _ h9 => h9) rfl dX7_placeAhead_25 ?_
    refine va_get (D := (dC, dI)) (ci := 9) (v := .ref (g 29)) (C := RX9) (T := TX9) (N := 11) hx hb hwd inA_X9 hown hK hP 4 rfl rfl 1 (by decide) (hwd _ wk_690) (fun _ h9 => h9) rfl dX7_placeAhead_28 ?_
    refine lv_iload_n hx hb dX7_placeAhead_31 rfl (lv_at hl 0 rfl) ?_
    refine va_iald hx hb hK hP 29 17 rfl rfl (i := r940) (vin (a := r940.toInt) rfl (by omega)) dX7_placeAhead_32 ?_
    refine lv_topi (fun z943 e944 => ?_)
    have hP9 : va_P (dC, dI) classes (wX g c v F rc) H := hP
    exact W.iret (v := z943) hx hb hr (fun t ht hW => ⟨⟨z943, (), rfl, trivial, (by show va_P _ _ _ t.heap; rw [ht]; exact hP9)⟩, hS.F ht⟩) hS.2.2 dX7_placeAhead_33
  · skip
    have t945 := cv_eq (a := r940.toInt) rfl (b := (-1)) (by decide) c941
    refine lv_iconst (v := (-1)) hx hb dX7_placeAhead_20 (by decide) ?_
    refine lv_goto (tgt := 33) hx hb dX7_placeAhead_21 (by decide) ?_
    have hP9 : va_P (dC, dI) classes (wX g c v F rc) H := hP
    exact W.iret (v := (-1)) hx hb hr (fun t ht hW => ⟨⟨(-1), (), rfl, trivial, (by show va_P _ _ _ t.heap; rw [ht]; exact hP9)⟩, hS.F ht⟩) hS.2.2 dX7_placeAhead_33
set_option maxHeartbeats 8000000 in
set_option maxRecDepth 100000 in
theorem c_X7_isLess (l : Launch) (dC : Nat → ClassId) (dI : Nat → Nat → Nat) (g : Nat → Nat) (c : Nat → ClassId) (adK adV : Nat → Nat) (v : Nat → Int32) (F : Nat → Nat → Int32) (rc sz : Nat) (p0 : Int32) (p1 : Int32) (p2 : Int32) (hg : injX g) (hI : IX v F) (h0 : 0 ≤ p0.toInt ∧ p0.toInt ≤ 99) (h1 : 0 ≤ p1.toInt ∧ p1.toInt ≤ 499) (h2 : 0 ≤ p2.toInt ∧ p2.toInt ≤ 499) : Met l yX7_isLess (Cond.code yX7_isLess cX7_isLess 7 (some .boolean) :: wA) ({ frames := 3, cells := 0, slots := 0, locals := 120 }) (va_Pc [.ref (g 3), .int p0, .int p1, .int p2] (PX dC dI g c adK adV v F rc sz)) (va_Qi (fun (r : Int32) (u : Unit) => 0 ≤ r.toInt ∧ r.toInt ≤ 1) (fun (_ : Unit) => BX dC dI g c (v, F, rc)) (AX g sz)) 0 0 (AX g sz) := by
  refine Met.ofW (cc := cX7_isLess) (maxL := 7) (ret := (some .boolean)) (by decide) rfl ?_
  intro p e s m args below meth c0 s₁ B hml hv
  obtain ⟨rfl, hsz, hP, hK, hE⟩ := hv
  have hx := B.exec
  have hb := B.bytes
  have hr := B.returns
  have hts := atoms_spec (ws := Cond.code yX7_isLess cX7_isLess 7 (some .boolean) :: wA) B.pre
  have hwd : ∀ w ∈ wA, w.before _ s = true := fun w h => hts w (List.mem_cons_of_mem _ h)
  have hown : s.vm.findClass RX7 = some m.cls := findClass_of_methodNamed B.named
  have hlocks := B.notSynchronized
  subst hsz
  have hl := lv_entry ([.ref (g 3), .int p0, .int p1, .int p2]) (n := 7) (Nat.le_of_ble_eq_true rfl)
  rw [lg_entry_eq]
  generalize (lg_sl ([.ref (g 3), .int p0, .int p1, .int p2]) ++ List.replicate (7 - (lg_sl ([.ref (g 3), .int p0, .int p1, .int p2])).length) Slot.unset).toArray = ls at hl ⊢
  have hl : lv_has ls 7 [(0, .ref (g 3)), (1, .int p0), (2, .int p1), (3, .int p2)] := hl
  obtain ⟨H, eH⟩ : ∃ z, z = s.heap := ⟨_, rfl⟩
  have hP : va_P (dC, dI) classes (wX g c v F rc) H := by rw [eH]; exact hP
  have hS : va_S (AX g s.heap.size) s.heap H [] := by rw [eH]; exact va_S.rf
  refine my_heap eH ?_
  have rp0 := i32_rng p0
  have rp1 := i32_rng p1
  have rp2 := i32_rng p2
  refine lv_iconst (v := 0) hx hb dX7_isLess_0 (by decide) ?_
  refine lv_istore (lv' := [(4, .int 0), (0, .ref (g 3)), (1, .int p0), (2, .int p1), (3, .int p2)]) hx hb dX7_isLess_1 hl (by decide) rfl (fun ls hl => ?_)
  have lp946 : ∀ (n : Nat) (x4_lp946 : Int32) (H : Heap) (locs : List Loc) (ls : Array Slot), (0 ≤ x4_lp946.toInt) → (2147483648 - x4_lp946.toInt ≤ (n : Int)) → va_P (dC, dI) classes (wX g c v F rc) H → va_S (AX g s.heap.size) s.heap H locs → lv_has ls 7 [(4, .int x4_lp946), (0, .ref (g 3)), (1, .int p0), (2, .int p1), (3, .int p2)] → W p l e (headSpec (Cond.code yX7_isLess cX7_isLess 7 (some .boolean) :: wA) ({ frames := 3, cells := 0, slots := 0, locals := 120 })).room s m ([.ref (g 3), .int p0, .int p1, .int p2] : List Value).toArray below meth c0 H locs 0 0 (MQ below (va_Qi (fun (r : Int32) (u : Unit) => 0 ≤ r.toInt ∧ r.toInt ≤ 1) (fun (_ : Unit) => BX dC dI g c (v, F, rc)) (AX g s.heap.size)) ([.ref (g 3), .int p0, .int p1, .int p2] : List Value).toArray s 0 0 (AX g s.heap.size)) (F0 m 3 ls []) := by
    intro n
    induction n with
    | zero =>
      intro x4_lp946 H locs ls t947 hm hP hS hl
      exfalso
      have := i32_rng x4_lp946
      omega
    | succ n ih_lp946 =>
      intro x4_lp946 H locs ls t947 hm hP hS hl
      have rx4_lp946 := i32_rng x4_lp946
      refine lv_iload hx hb dX7_isLess_3 (lv_at hl 0 rfl) ?_
      refine lv_iconst (v := 1) hx hb dX7_isLess_5 (by decide) ?_
      refine lv_icmp_gt (tgt := 61) hx hb dX7_isLess_6 (by decide) (fun c948 => ?_) (fun c948 => ?_)
      · skip
        have t949 := cv_lt (a := 1) (by decide) (b := x4_lp946.toInt) rfl c948
        refine lv_iconst (v := 0) hx hb dX7_isLess_61 (by decide) ?_
        have hP9 : va_P (dC, dI) classes (wX g c v F rc) H := hP
        exact W.zret (v := 0) hx hb hr (rfl) (fun t ht hW => ⟨⟨0, (), rfl, by have : (0 : Int32).toInt = 0 := (by decide); omega, (by show va_P _ _ _ t.heap; rw [ht]; exact hP9)⟩, hS.F ht⟩) hS.2.2 dX7_isLess_62
      · skip
        have t950 := cv_nlt (a := 1) (by decide) (b := x4_lp946.toInt) rfl c948
        refine lv_aload_n hx hb dX7_isLess_9 rfl (lv_at hl 1 rfl) ?_
        refine lv_iload_n hx hb dX7_isLess_10 rfl (lv_at hl 2 rfl) ?_
        refine lv_iload_n hx hb dX7_isLess_11 rfl (lv_at hl 3 rfl) ?_
        refine lv_iload hx hb dX7_isLess_12 (lv_at hl 0 rfl) ?_
        refine va_calli (va_runV (As := [.int p0, .int p1, .int x4_lp946]) (rest := []) ⟨hx, hb, hml, hown, hwd⟩ (c_X7_usedAtEnd l dC dI g c adK adV v F rc H.size p0 p1 x4_lp946 hg hI (by omega) (by omega) (by omega)) (cwV 3 hwd (gV wk_699 wk_696 wk_697 wk_698 wk_26) rfl rfl rfl (by decide +kernel) ⟨Nat.le_of_ble_eq_true rfl, Nat.le_of_ble_eq_true rfl⟩) ⟨PX.blind, va_recv hK hP (ci := 7) (q0 := 3) rfl rfl, fun U hU hW => ⟨rfl, PX.at hK hE hP hS hU hW⟩⟩ rfl rfl hl.1 rfl (lv_room (Nat.le_of_ble_eq_true rfl)) dX7_isLess_14 ⟨Nat.le_of_ble_eq_true rfl, Nat.le_of_ble_eq_true rfl⟩) hS (fun q _ h => (freeX hS) q h) (freeX hS) (fun r951 u t H1 locs ht hvm hw hB hz1 hk1 hS => ?_)
        unfold BX at hB
        rw [ht] at hB
        have hP : va_P (dC, dI) classes (wX g c v F rc) H1 := hB
        generalize H1 = H at hP hS ⊢
        have rr_r951 := i32_rng r951
        refine lv_istore (lv' := [(5, .int r951), (4, .int x4_lp946), (0, .ref (g 3)), (1, .int p0), (2, .int p1), (3, .int p2)]) hx hb dX7_isLess_17 hl (by decide) rfl (fun ls hl => ?_)
        refine lv_aload_n hx hb dX7_isLess_19 rfl (lv_at hl 2 rfl) ?_
        refine va_get (D := (dC, dI)) (ci := 7) (v := .ref (g 4)) (C := RX7) (T := TX7) (N := 7) hx hb hwd inA_X7 hown hK hP 3 rfl rfl 0 (by decide) (hwd _ wk_100) (fun _ h9 => h9) rfl dX7_isLess_20 ?_
        refine lv_iload_n hx hb dX7_isLess_23 rfl (lv_at hl 5 rfl) ?_
        refine lv_iload hx hb dX7_isLess_24 (lv_at hl 1 rfl) ?_
        refine va_calli (va_runV (As := [.int p2, .int x4_lp946]) (rest := []) ⟨hx, hb, hml, hown, hwd⟩ (c_X9_usedAtStart l dC dI g c adK adV v F rc H.size p2 x4_lp946 hg hI (by omega)) (cwV 2 hwd (gV wk_708 wk_705 wk_706 wk_707 wk_22) rfl rfl rfl (by decide +kernel) ⟨Nat.le_of_ble_eq_true rfl, Nat.le_of_ble_eq_true rfl⟩) ⟨PX.blind, va_recv hK hP (ci := 9) (q0 := 4) rfl rfl, fun U hU hW => ⟨rfl, PX.at hK hE hP hS hU hW⟩⟩ rfl rfl hl.1 rfl (lv_room (Nat.le_of_ble_eq_true rfl)) dX7_isLess_26 ⟨Nat.le_of_ble_eq_true rfl, Nat.le_of_ble_eq_true rfl⟩) hS (fun q _ h => (freeX hS) q h) (freeX hS) (fun r952 u t H1 locs ht hvm hw hB hz1 hk1 hS => ?_)
        unfold BX at hB
        rw [ht] at hB
        have hP : va_P (dC, dI) classes (wX g c v F rc) H1 := hB
        generalize H1 = H at hP hS ⊢
        have rr_r952 := i32_rng r952
        refine lv_istore (lv' := [(6, .int r952), (5, .int r951), (4, .int x4_lp946), (0, .ref (g 3)), (1, .int p0), (2, .int p1), (3, .int p2)]) hx hb dX7_isLess_29 hl (by decide) rfl (fun ls hl => ?_)
        refine lv_iload_n hx hb dX7_isLess_31 rfl (lv_at hl 5 rfl) ?_
        refine lv_iload_n hx hb dX7_isLess_32 rfl (lv_at hl 6 rfl) ?_
        refine lv_icmp_ne (tgt := 46) hx hb dX7_isLess_33 (by decide) (fun c953 => ?_) (fun c953 => ?_)
        · skip
          have t954 := cv_ne (a := p1.toInt) rfl (b := p2.toInt) rfl c953
          refine lv_iload hx hb dX7_isLess_46 (lv_at hl 0 rfl) ?_
          refine lv_iload hx hb dX7_isLess_48 (lv_at hl 1 rfl) ?_
          refine lv_icmp_ge (tgt := 55) hx hb dX7_isLess_50 (by decide) (fun c955 => ?_) (fun c955 => ?_)
          · skip
            have t956 := cv_le (a := r951.toInt) rfl (b := r952.toInt) rfl c955
            obtain ⟨z957, e958⟩ : ∃ y : Int32, y = x4_lp946 + 1 := ⟨_, rfl⟩
            try (have t959 := tadd e958 rfl (b := 1) (by decide) (by omega))
            refine lv_iinc (v := z957) (lv' := [(4, .int z957), (6, .int r952), (5, .int r951), (0, .ref (g 3)), (1, .int p0), (2, .int p1), (3, .int p2)]) hx hb dX7_isLess_55 hl (k := 2) rfl (by rw [e958]; rfl) (by decide) rfl (fun ls hl => ?_)
            refine lv_goto (tgt := 3) hx hb dX7_isLess_58 (by decide) ?_
            exact ih_lp946 z957  _ _ _ (by omega) (by omega) hP hS (lv_sub hl [0, 3, 4, 5, 6] rfl)
          · skip
            have t960 := cv_nle (a := r951.toInt) rfl (b := r952.toInt) rfl c955
            refine lv_iconst (v := 1) hx hb dX7_isLess_53 (by decide) ?_
            have hP9 : va_P (dC, dI) classes (wX g c v F rc) H := hP
            exact W.zret (v := 1) hx hb hr (rfl) (fun t ht hW => ⟨⟨1, (), rfl, by have : (1 : Int32).toInt = 1 := (by decide); omega, (by show va_P _ _ _ t.heap; rw [ht]; exact hP9)⟩, hS.F ht⟩) hS.2.2 dX7_isLess_54
        · skip
          have t961 := cv_eq (a := p1.toInt) rfl (b := p2.toInt) rfl c953
          refine lv_iload hx hb dX7_isLess_36 (lv_at hl 1 rfl) ?_
          refine lv_iload hx hb dX7_isLess_38 (lv_at hl 0 rfl) ?_
          refine lv_icmp_ge (tgt := 55) hx hb dX7_isLess_40 (by decide) (fun c962 => ?_) (fun c962 => ?_)
          · skip
            have t963 := cv_le (a := r952.toInt) rfl (b := r951.toInt) rfl c962
            obtain ⟨z964, e965⟩ : ∃ y : Int32, y = x4_lp946 + 1 := ⟨_, rfl⟩
            try (have t966 := tadd e965 rfl (b := 1) (by decide) (by omega))
            refine lv_iinc (v := z964) (lv' := [(4, .int z964), (6, .int r952), (5, .int r951), (0, .ref (g 3)), (1, .int p0), (2, .int p1), (3, .int p2)]) hx hb dX7_isLess_55 hl (k := 2) rfl (by rw [e965]; rfl) (by decide) rfl (fun ls hl => ?_)
            refine lv_goto (tgt := 3) hx hb dX7_isLess_58 (by decide) ?_
            exact ih_lp946 z964  _ _ _ (by omega) (by omega) hP hS (lv_sub hl [0, 3, 4, 5, 6] rfl)
          · skip
            have t967 := cv_nle (a := r952.toInt) rfl (b := r951.toInt) rfl c962
            refine lv_goto (tgt := 53) hx hb dX7_isLess_43 (by decide) ?_
            refine lv_iconst (v := 1) hx hb dX7_isLess_53 (by decide) ?_
            have hP9 : va_P (dC, dI) classes (wX g c v F rc) H := hP
            exact W.zret (v := 1) hx hb hr (rfl) (fun t ht hW => ⟨⟨1, (), rfl, by have : (1 : Int32).toInt = 1 := (by decide); omega, (by show va_P _ _ _ t.heap; rw [ht]; exact hP9)⟩, hS.F ht⟩) hS.2.2 dX7_isLess_54
  obtain ⟨n9, hn9⟩ : ∃ n : Nat, 2147483648 - 0 ≤ (n : Int) := ⟨((2147483648 - 0 : Int)).toNat, by omega⟩
  exact lp946 n9 0  H _ ls (by have : (0 : Int32).toInt = 0 := (by decide); omega) (by have : (0 : Int32).toInt = 0 := (by decide); omega) hP hS hl
set_option maxHeartbeats 8000000 in
set_option maxRecDepth 100000 in
theorem c_X7_growsLess (l : Launch) (dC : Nat → ClassId) (dI : Nat → Nat → Nat) (g : Nat → Nat) (c : Nat → ClassId) (adK adV : Nat → Nat) (v : Nat → Int32) (F : Nat → Nat → Int32) (rc sz : Nat) (p0 : Int32) (hg : injX g) (hI : IX v F) (h0 : 0 ≤ p0.toInt ∧ p0.toInt ≤ 99) : Met l yX7_growsLess (Cond.code yX7_growsLess cX7_growsLess 5 (some .boolean) :: wA) ({ frames := 4, cells := 0, slots := 0, locals := 160 }) (va_Pc [.ref (g 3), .int p0] (PX dC dI g c adK adV v F rc sz)) (va_Qi (fun (r : Int32) (u : Unit) => 0 ≤ r.toInt ∧ r.toInt ≤ 1) (fun (_ : Unit) => BX dC dI g c (v, F, rc)) (AX g sz)) 0 0 (AX g sz) := by
  refine Met.ofW (cc := cX7_growsLess) (maxL := 5) (ret := (some .boolean)) (by decide) rfl ?_
  intro p e s m args below meth c0 s₁ B hml hv
  obtain ⟨rfl, hsz, hP, hK, hE⟩ := hv
  have hx := B.exec
  have hb := B.bytes
  have hr := B.returns
  have hts := atoms_spec (ws := Cond.code yX7_growsLess cX7_growsLess 5 (some .boolean) :: wA) B.pre
  have hwd : ∀ w ∈ wA, w.before _ s = true := fun w h => hts w (List.mem_cons_of_mem _ h)
  have hown : s.vm.findClass RX7 = some m.cls := findClass_of_methodNamed B.named
  have hlocks := B.notSynchronized
  subst hsz
  have hl := lv_entry ([.ref (g 3), .int p0]) (n := 5) (Nat.le_of_ble_eq_true rfl)
  rw [lg_entry_eq]
  generalize (lg_sl ([.ref (g 3), .int p0]) ++ List.replicate (5 - (lg_sl ([.ref (g 3), .int p0])).length) Slot.unset).toArray = ls at hl ⊢
  have hl : lv_has ls 5 [(0, .ref (g 3)), (1, .int p0)] := hl
  obtain ⟨H, eH⟩ : ∃ z, z = s.heap := ⟨_, rfl⟩
  have hP : va_P (dC, dI) classes (wX g c v F rc) H := by rw [eH]; exact hP
  have hS : va_S (AX g s.heap.size) s.heap H [] := by rw [eH]; exact va_S.rf
  refine my_heap eH ?_
  have rp0 := i32_rng p0
  refine lv_iconst (v := (-1)) hx hb dX7_growsLess_0 (by decide) ?_
  refine lv_istore_n (lv' := [(2, .int (-1)), (0, .ref (g 3)), (1, .int p0)]) hx hb dX7_growsLess_1 rfl hl (by decide) rfl (fun ls hl => ?_)
  refine lv_aload_n hx hb dX7_growsLess_2 rfl (lv_at hl 1 rfl) ?_
  refine va_get (D := (dC, dI)) (ci := 7) (v := .ref (g 4)) (C := RX7) (T := TX7) (N := 7) hx hb hwd inA_X7 hown hK hP 3 rfl rfl 0 (by decide) (hwd _ wk_100) (fun _ h9 => h9) rfl dX7_growsLess_3 ?_
  refine va_get (D := (dC, dI)) (ci := 9) (v := .ref (g 38)) (C := RX9) (T := TX9) (N := 11) hx hb hwd inA_X9 hown hK hP 4 rfl rfl 10 (by decide) (hwd _ wk_571) (fun _ h9 => h9) rfl dX7_growsLess_6 ?_
  refine lv_iload_n hx hb dX7_growsLess_9 rfl (lv_at hl 2 rfl) ?_
  refine va_iald hx hb hK hP 38 26 rfl rfl (i := p0) (vin (a := p0.toInt) rfl (by omega)) dX7_growsLess_10 ?_
  refine lv_topi (fun z968 e969 => ?_)
  have t970 : -1 ≤ z968.toInt ∧ z968.toInt ≤ 499 := by rw [e969]; exact hI.2 38 _ _ rfl _
  refine lv_istore_n (lv' := [(3, .int z968), (2, .int (-1)), (0, .ref (g 3)), (1, .int p0)]) hx hb dX7_growsLess_11 rfl hl (by decide) rfl (fun ls hl => ?_)
  refine lv_iconst (v := 0) hx hb dX7_growsLess_12 (by decide) ?_
  refine lv_istore (lv' := [(4, .int 0), (3, .int z968), (2, .int (-1)), (0, .ref (g 3)), (1, .int p0)]) hx hb dX7_growsLess_13 hl (by decide) rfl (fun ls hl => ?_)
  have lp971 : ∀ (n : Nat) (x4_lp971 : Int32) (x3_lp971 : Int32) (x2_lp971 : Int32) (H : Heap) (locs : List Loc) (ls : Array Slot), (0 ≤ x4_lp971.toInt) → (-1 ≤ x3_lp971.toInt) → (x3_lp971.toInt ≤ 499) → (-1 ≤ x2_lp971.toInt) → (x2_lp971.toInt ≤ 499) → (2147483648 - x4_lp971.toInt ≤ (n : Int)) → va_P (dC, dI) classes (wX g c v F rc) H → va_S (AX g s.heap.size) s.heap H locs → lv_has ls 5 [(4, .int x4_lp971), (3, .int x3_lp971), (2, .int x2_lp971), (0, .ref (g 3)), (1, .int p0)] → W p l e (headSpec (Cond.code yX7_growsLess cX7_growsLess 5 (some .boolean) :: wA) ({ frames := 4, cells := 0, slots := 0, locals := 160 })).room s m ([.ref (g 3), .int p0] : List Value).toArray below meth c0 H locs 0 0 (MQ below (va_Qi (fun (r : Int32) (u : Unit) => 0 ≤ r.toInt ∧ r.toInt ≤ 1) (fun (_ : Unit) => BX dC dI g c (v, F, rc)) (AX g s.heap.size)) ([.ref (g 3), .int p0] : List Value).toArray s 0 0 (AX g s.heap.size)) (F0 m 15 ls []) := by
    intro n
    induction n with
    | zero =>
      intro x4_lp971 x3_lp971 x2_lp971 H locs ls t972 t973 t974 t975 t976 hm hP hS hl
      exfalso
      have := i32_rng x4_lp971
      have := i32_rng x3_lp971
      have := i32_rng x2_lp971
      omega
    | succ n ih_lp971 =>
      intro x4_lp971 x3_lp971 x2_lp971 H locs ls t972 t973 t974 t975 t976 hm hP hS hl
      have rx4_lp971 := i32_rng x4_lp971
      have rx3_lp971 := i32_rng x3_lp971
      have rx2_lp971 := i32_rng x2_lp971
      refine lv_iload hx hb dX7_growsLess_15 (lv_at hl 0 rfl) ?_
      refine lv_sipush (v := 500) hx hb dX7_growsLess_17 (by decide) ?_
      refine lv_icmp_ge (tgt := 92) hx hb dX7_growsLess_20 (by decide) (fun c977 => ?_) (fun c977 => ?_)
      · skip
        have t978 := cv_le (a := 500) (by decide) (b := x4_lp971.toInt) rfl c977
        refine lv_iconst (v := 0) hx hb dX7_growsLess_92 (by decide) ?_
        have hP9 : va_P (dC, dI) classes (wX g c v F rc) H := hP
        exact W.zret (v := 0) hx hb hr (rfl) (fun t ht hW => ⟨⟨0, (), rfl, by have : (0 : Int32).toInt = 0 := (by decide); omega, (by show va_P _ _ _ t.heap; rw [ht]; exact hP9)⟩, hS.F ht⟩) hS.2.2 dX7_growsLess_93
      · skip
        have t979 := cv_nle (a := 500) (by decide) (b := x4_lp971.toInt) rfl c977
        refine lv_iload_n hx hb dX7_growsLess_23 rfl (lv_at hl 1 rfl) ?_
        refine lv_iconst (v := (-1)) hx hb dX7_growsLess_24 (by decide) ?_
        refine lv_icmp_eq (tgt := 92) hx hb dX7_growsLess_25 (by decide) (fun c980 => ?_) (fun c980 => ?_)
        · skip
          have t981 := cv_eq (a := x3_lp971.toInt) rfl (b := (-1)) (by decide) c980
          refine lv_iconst (v := 0) hx hb dX7_growsLess_92 (by decide) ?_
          have hP9 : va_P (dC, dI) classes (wX g c v F rc) H := hP
          exact W.zret (v := 0) hx hb hr (rfl) (fun t ht hW => ⟨⟨0, (), rfl, by have : (0 : Int32).toInt = 0 := (by decide); omega, (by show va_P _ _ _ t.heap; rw [ht]; exact hP9)⟩, hS.F ht⟩) hS.2.2 dX7_growsLess_93
        · skip
          have t982 := cv_ne (a := x3_lp971.toInt) rfl (b := (-1)) (by decide) c980
          refine lv_aload_n hx hb dX7_growsLess_28 rfl (lv_at hl 3 rfl) ?_
          refine va_get (D := (dC, dI)) (ci := 7) (v := .ref (g 4)) (C := RX7) (T := TX7) (N := 7) hx hb hwd inA_X7 hown hK hP 3 rfl rfl 0 (by decide) (hwd _ wk_100) (fun _ h9 => h9) rfl dX7_growsLess_29 ?_
          refine va_get (D := (dC, dI)) (ci := 9) (v := .ref (g 29)) (C := RX9) (T := TX9) (N := 11) hx hb hwd inA_X9 hown hK hP 4 rfl rfl 1 (by decide) (hwd _ wk_690) (fun _ h9 => h9) rfl dX7_growsLess_32 ?_
          refine lv_iload_n hx hb dX7_growsLess_35 rfl (lv_at hl 1 rfl) ?_
          refine va_iald hx hb hK hP 29 17 rfl rfl (i := x3_lp971) (vin (a := x3_lp971.toInt) rfl (by omega)) dX7_growsLess_36 ?_
          refine lv_topi (fun z983 e984 => ?_)
          refine lv_bipush (v := 10) hx hb dX7_growsLess_37 (by decide) ?_
          refine lv_icmp_ne (tgt := 47) hx hb dX7_growsLess_39 (by decide) (fun c985 => ?_) (fun c985 => ?_)
          · skip
            have t986 := cv_ne (a := z983.toInt) rfl (b := 10) (by decide) c985
            refine lv_aload_n hx hb dX7_growsLess_47 rfl (lv_at hl 3 rfl) ?_
            refine lv_iload_n hx hb dX7_growsLess_48 rfl (lv_at hl 4 rfl) ?_
            refine lv_iload_n hx hb dX7_growsLess_49 rfl (lv_at hl 1 rfl) ?_
            refine lv_iload_n hx hb dX7_growsLess_50 rfl (lv_at hl 1 rfl) ?_
            refine va_calli (va_runV (As := [.int p0, .int x3_lp971, .int x3_lp971]) (rest := []) ⟨hx, hb, hml, hown, hwd⟩ (c_X7_isLess l dC dI g c adK adV v F rc H.size p0 x3_lp971 x3_lp971 hg hI (by omega) (by omega) (by omega)) (cwV 3 hwd (gV wk_695 wk_692 wk_693 wk_694 wk_26) rfl rfl rfl (by decide +kernel) ⟨Nat.le_of_ble_eq_true rfl, Nat.le_of_ble_eq_true rfl⟩) ⟨PX.blind, va_recv hK hP (ci := 7) (q0 := 3) rfl rfl, fun U hU hW => ⟨rfl, PX.at hK hE hP hS hU hW⟩⟩ rfl rfl hl.1 rfl (lv_room (Nat.le_of_ble_eq_true rfl)) dX7_growsLess_51 ⟨Nat.le_of_ble_eq_true rfl, Nat.le_of_ble_eq_true rfl⟩) hS (fun q _ h => (freeX hS) q h) (freeX hS) (fun r987 u t H1 locs ht hvm hw hB hz1 hk1 hS => ?_)
            unfold BX at hB
            rw [ht] at hB
            have hP : va_P (dC, dI) classes (wX g c v F rc) H1 := hB
            have hw : 0 ≤ r987.toInt ∧ r987.toInt ≤ 1 := hw
            generalize H1 = H at hP hS ⊢
            have hw_r987 := hw
            refine lv_if_ne (tgt := 72) hx hb dX7_growsLess_54 (by decide) (fun c988 => ?_) (fun c988 => ?_)
            · skip
              have t989 := cv_ne (a := r987.toInt) rfl (b := 0) (by decide) c988
              refine lv_iconst (v := 1) hx hb dX7_growsLess_72 (by decide) ?_
              have hP9 : va_P (dC, dI) classes (wX g c v F rc) H := hP
              exact W.zret (v := 1) hx hb hr (rfl) (fun t ht hW => ⟨⟨1, (), rfl, by have : (1 : Int32).toInt = 1 := (by decide); omega, (by show va_P _ _ _ t.heap; rw [ht]; exact hP9)⟩, hS.F ht⟩) hS.2.2 dX7_growsLess_73
            · skip
              have t990 := cv_eq (a := r987.toInt) rfl (b := 0) (by decide) c988
              refine lv_iload_n hx hb dX7_growsLess_57 rfl (lv_at hl 2 rfl) ?_
              refine lv_iconst (v := (-1)) hx hb dX7_growsLess_58 (by decide) ?_
              refine lv_icmp_eq (tgt := 74) hx hb dX7_growsLess_59 (by decide) (fun c991 => ?_) (fun c991 => ?_)
              · skip
                have t992 := cv_eq (a := x2_lp971.toInt) rfl (b := (-1)) (by decide) c991
                refine lv_iload_n hx hb dX7_growsLess_74 rfl (lv_at hl 1 rfl) ?_
                refine lv_istore_n (lv' := [(2, .int x3_lp971), (4, .int x4_lp971), (3, .int x3_lp971), (0, .ref (g 3)), (1, .int p0)]) hx hb dX7_growsLess_75 rfl hl (by decide) rfl (fun ls hl => ?_)
                refine lv_aload_n hx hb dX7_growsLess_76 rfl (lv_at hl 3 rfl) ?_
                refine va_get (D := (dC, dI)) (ci := 7) (v := .ref (g 4)) (C := RX7) (T := TX7) (N := 7) hx hb hwd inA_X7 hown hK hP 3 rfl rfl 0 (by decide) (hwd _ wk_100) (fun _ h9 => h9) rfl dX7_growsLess_77 ?_
                refine va_get (D := (dC, dI)) (ci := 9) (v := .ref (g 37)) (C := RX9) (T := TX9) (N := 11) hx hb hwd inA_X9 hown hK hP 4 rfl rfl 9 (by decide) (hwd _ wk_691) (fun _ h9 => h9) rfl dX7_growsLess_80 ?_
                refine lv_iload_n hx hb dX7_growsLess_83 rfl (lv_at hl 2 rfl) ?_
                refine va_iald hx hb hK hP 37 25 rfl rfl (i := x3_lp971) (vin (a := x3_lp971.toInt) rfl (by omega)) dX7_growsLess_84 ?_
                refine lv_topi (fun z993 e994 => ?_)
                have t995 : -1 ≤ z993.toInt ∧ z993.toInt ≤ 499 := by rw [e994]; exact hI.2 37 _ _ rfl _
                refine lv_istore_n (lv' := [(3, .int z993), (2, .int x3_lp971), (4, .int x4_lp971), (0, .ref (g 3)), (1, .int p0)]) hx hb dX7_growsLess_85 rfl hl (by decide) rfl (fun ls hl => ?_)
                obtain ⟨z996, e997⟩ : ∃ y : Int32, y = x4_lp971 + 1 := ⟨_, rfl⟩
                try (have t998 := tadd e997 rfl (b := 1) (by decide) (by omega))
                refine lv_iinc (v := z996) (lv' := [(4, .int z996), (3, .int z993), (2, .int x3_lp971), (0, .ref (g 3)), (1, .int p0)]) hx hb dX7_growsLess_86 hl (k := 2) rfl (by rw [e997]; rfl) (by decide) rfl (fun ls hl => ?_)
                refine lv_goto (tgt := 15) hx hb dX7_growsLess_89 (by decide) ?_
                exact ih_lp971 z996 z993 x3_lp971  _ _ _ (by omega) (by omega) (by omega) (by omega) (by omega) (by omega) hP hS (lv_sub hl [0, 1, 2, 3, 4] rfl)
              · skip
                have t999 := cv_ne (a := x2_lp971.toInt) rfl (b := (-1)) (by decide) c991
                refine lv_aload_n hx hb dX7_growsLess_62 rfl (lv_at hl 3 rfl) ?_
                refine lv_iload_n hx hb dX7_growsLess_63 rfl (lv_at hl 4 rfl) ?_
                refine lv_iload_n hx hb dX7_growsLess_64 rfl (lv_at hl 2 rfl) ?_
                refine lv_iload_n hx hb dX7_growsLess_65 rfl (lv_at hl 1 rfl) ?_
                refine va_calli (va_runV (As := [.int p0, .int x2_lp971, .int x3_lp971]) (rest := []) ⟨hx, hb, hml, hown, hwd⟩ (c_X7_isLess l dC dI g c adK adV v F rc H.size p0 x2_lp971 x3_lp971 hg hI (by omega) (by omega) (by omega)) (cwV 3 hwd (gV wk_695 wk_692 wk_693 wk_694 wk_26) rfl rfl rfl (by decide +kernel) ⟨Nat.le_of_ble_eq_true rfl, Nat.le_of_ble_eq_true rfl⟩) ⟨PX.blind, va_recv hK hP (ci := 7) (q0 := 3) rfl rfl, fun U hU hW => ⟨rfl, PX.at hK hE hP hS hU hW⟩⟩ rfl rfl hl.1 rfl (lv_room (Nat.le_of_ble_eq_true rfl)) dX7_growsLess_66 ⟨Nat.le_of_ble_eq_true rfl, Nat.le_of_ble_eq_true rfl⟩) hS (fun q _ h => (freeX hS) q h) (freeX hS) (fun r1000 u t H1 locs ht hvm hw hB hz1 hk1 hS => ?_)
                unfold BX at hB
                rw [ht] at hB
                have hP : va_P (dC, dI) classes (wX g c v F rc) H1 := hB
                have hw : 0 ≤ r1000.toInt ∧ r1000.toInt ≤ 1 := hw
                generalize H1 = H at hP hS ⊢
                have hw_r1000 := hw
                refine lv_if_eq (tgt := 74) hx hb dX7_growsLess_69 (by decide) (fun c1001 => ?_) (fun c1001 => ?_)
                · skip
                  have t1002 := cv_eq (a := r1000.toInt) rfl (b := 0) (by decide) c1001
                  refine lv_iload_n hx hb dX7_growsLess_74 rfl (lv_at hl 1 rfl) ?_
                  refine lv_istore_n (lv' := [(2, .int x3_lp971), (4, .int x4_lp971), (3, .int x3_lp971), (0, .ref (g 3)), (1, .int p0)]) hx hb dX7_growsLess_75 rfl hl (by decide) rfl (fun ls hl => ?_)
                  refine lv_aload_n hx hb dX7_growsLess_76 rfl (lv_at hl 3 rfl) ?_
                  refine va_get (D := (dC, dI)) (ci := 7) (v := .ref (g 4)) (C := RX7) (T := TX7) (N := 7) hx hb hwd inA_X7 hown hK hP 3 rfl rfl 0 (by decide) (hwd _ wk_100) (fun _ h9 => h9) rfl dX7_growsLess_77 ?_
                  refine va_get (D := (dC, dI)) (ci := 9) (v := .ref (g 37)) (C := RX9) (T := TX9) (N := 11) hx hb hwd inA_X9 hown hK hP 4 rfl rfl 9 (by decide) (hwd _ wk_691) (fun _ h9 => h9) rfl dX7_growsLess_80 ?_
                  refine lv_iload_n hx hb dX7_growsLess_83 rfl (lv_at hl 2 rfl) ?_
                  refine va_iald hx hb hK hP 37 25 rfl rfl (i := x3_lp971) (vin (a := x3_lp971.toInt) rfl (by omega)) dX7_growsLess_84 ?_
                  refine lv_topi (fun z1003 e1004 => ?_)
                  have t1005 : -1 ≤ z1003.toInt ∧ z1003.toInt ≤ 499 := by rw [e1004]; exact hI.2 37 _ _ rfl _
                  refine lv_istore_n (lv' := [(3, .int z1003), (2, .int x3_lp971), (4, .int x4_lp971), (0, .ref (g 3)), (1, .int p0)]) hx hb dX7_growsLess_85 rfl hl (by decide) rfl (fun ls hl => ?_)
                  obtain ⟨z1006, e1007⟩ : ∃ y : Int32, y = x4_lp971 + 1 := ⟨_, rfl⟩
                  try (have t1008 := tadd e1007 rfl (b := 1) (by decide) (by omega))
                  refine lv_iinc (v := z1006) (lv' := [(4, .int z1006), (3, .int z1003), (2, .int x3_lp971), (0, .ref (g 3)), (1, .int p0)]) hx hb dX7_growsLess_86 hl (k := 2) rfl (by rw [e1007]; rfl) (by decide) rfl (fun ls hl => ?_)
                  refine lv_goto (tgt := 15) hx hb dX7_growsLess_89 (by decide) ?_
                  exact ih_lp971 z1006 z1003 x3_lp971  _ _ _ (by omega) (by omega) (by omega) (by omega) (by omega) (by omega) hP hS (lv_sub hl [0, 1, 2, 3, 4] rfl)
                · skip
                  have t1009 := cv_ne (a := r1000.toInt) rfl (b := 0) (by decide) c1001
                  refine lv_iconst (v := 1) hx hb dX7_growsLess_72 (by decide) ?_
                  have hP9 : va_P (dC, dI) classes (wX g c v F rc) H := hP
                  exact W.zret (v := 1) hx hb hr (rfl) (fun t ht hW => ⟨⟨1, (), rfl, by have : (1 : Int32).toInt = 1 := (by decide); omega, (by show va_P _ _ _ t.heap; rw [ht]; exact hP9)⟩, hS.F ht⟩) hS.2.2 dX7_growsLess_73
          · skip
            have t1010 := cv_eq (a := z983.toInt) rfl (b := 10) (by decide) c985
            refine lv_iconst (v := (-1)) hx hb dX7_growsLess_42 (by decide) ?_
            refine lv_istore_n (lv' := [(2, .int (-1)), (4, .int x4_lp971), (3, .int x3_lp971), (0, .ref (g 3)), (1, .int p0)]) hx hb dX7_growsLess_43 rfl hl (by decide) rfl (fun ls hl => ?_)
            refine lv_goto (tgt := 76) hx hb dX7_growsLess_44 (by decide) ?_
            refine lv_aload_n hx hb dX7_growsLess_76 rfl (lv_at hl 3 rfl) ?_
            refine va_get (D := (dC, dI)) (ci := 7) (v := .ref (g 4)) (C := RX7) (T := TX7) (N := 7) hx hb hwd inA_X7 hown hK hP 3 rfl rfl 0 (by decide) (hwd _ wk_100) (fun _ h9 => h9) rfl dX7_growsLess_77 ?_
            refine va_get (D := (dC, dI)) (ci := 9) (v := .ref (g 37)) (C := RX9) (T := TX9) (N := 11) hx hb hwd inA_X9 hown hK hP 4 rfl rfl 9 (by decide) (hwd _ wk_691) (fun _ h9 => h9) rfl dX7_growsLess_80 ?_
            refine lv_iload_n hx hb dX7_growsLess_83 rfl (lv_at hl 2 rfl) ?_
            refine va_iald hx hb hK hP 37 25 rfl rfl (i := x3_lp971) (vin (a := x3_lp971.toInt) rfl (by omega)) dX7_growsLess_84 ?_
            refine lv_topi (fun z1011 e1012 => ?_)
            have t1013 : -1 ≤ z1011.toInt ∧ z1011.toInt ≤ 499 := by rw [e1012]; exact hI.2 37 _ _ rfl _
            refine lv_istore_n (lv' := [(3, .int z1011), (2, .int (-1)), (4, .int x4_lp971), (0, .ref (g 3)), (1, .int p0)]) hx hb dX7_growsLess_85 rfl hl (by decide) rfl (fun ls hl => ?_)
            obtain ⟨z1014, e1015⟩ : ∃ y : Int32, y = x4_lp971 + 1 := ⟨_, rfl⟩
            try (have t1016 := tadd e1015 rfl (b := 1) (by decide) (by omega))
            refine lv_iinc (v := z1014) (lv' := [(4, .int z1014), (3, .int z1011), (2, .int (-1)), (0, .ref (g 3)), (1, .int p0)]) hx hb dX7_growsLess_86 hl (k := 2) rfl (by rw [e1015]; rfl) (by decide) rfl (fun ls hl => ?_)
            refine lv_goto (tgt := 15) hx hb dX7_growsLess_89 (by decide) ?_
            exact ih_lp971 z1014 z1011 (-1)  _ _ _ (by have : ((-1) : Int32).toInt = (-1) := (by decide); omega) (by have : ((-1) : Int32).toInt = (-1) := (by decide); omega) (by have : ((-1) : Int32).toInt = (-1) := (by decide); omega) (by have : ((-1) : Int32).toInt = (-1) := (by decide); omega) (by have : ((-1) : Int32).toInt = (-1) := (by decide); omega) (by have : ((-1) : Int32).toInt = (-1) := (by decide); omega) hP hS (lv_sub hl [0, 1, 2, 3, 4] rfl)
  obtain ⟨n9, hn9⟩ : ∃ n : Nat, 2147483648 - 0 ≤ (n : Int) := ⟨((2147483648 - 0 : Int)).toNat, by omega⟩
  exact lp971 n9 0 z968 (-1)  H _ ls (by have : (0 : Int32).toInt = 0 := (by decide); have : ((-1) : Int32).toInt = (-1) := (by decide); omega) (by have : (0 : Int32).toInt = 0 := (by decide); have : ((-1) : Int32).toInt = (-1) := (by decide); omega) (by have : (0 : Int32).toInt = 0 := (by decide); have : ((-1) : Int32).toInt = (-1) := (by decide); omega) (by have : (0 : Int32).toInt = 0 := (by decide); have : ((-1) : Int32).toInt = (-1) := (by decide); omega) (by have : (0 : Int32).toInt = 0 := (by decide); have : ((-1) : Int32).toInt = (-1) := (by decide); omega) (by have : (0 : Int32).toInt = 0 := (by decide); have : ((-1) : Int32).toInt = (-1) := (by decide); omega) hP hS hl
set_option maxHeartbeats 8000000 in
set_option maxRecDepth 100000 in
theorem c_X7_hasTwin (l : Launch) (dC : Nat → ClassId) (dI : Nat → Nat → Nat) (g : Nat → Nat) (c : Nat → ClassId) (adK adV : Nat → Nat) (v : Nat → Int32) (F : Nat → Nat → Int32) (rc sz : Nat) (p0 : Int32) (hg : injX g) (hI : IX v F) (h0 : 0 ≤ p0.toInt ∧ p0.toInt ≤ 99) : Met l yX7_hasTwin (Cond.code yX7_hasTwin cX7_hasTwin 3 (some .boolean) :: wA) ({ frames := 1, cells := 0, slots := 0, locals := 40 }) (va_Pc [.ref (g 3), .int p0] (PX dC dI g c adK adV v F rc sz)) (va_Qi (fun (r : Int32) (u : Unit) => 0 ≤ r.toInt ∧ r.toInt ≤ 1) (fun (_ : Unit) => BX dC dI g c (v, F, rc)) (AX g sz)) 0 0 (AX g sz) := by
  refine Met.ofW (cc := cX7_hasTwin) (maxL := 3) (ret := (some .boolean)) (by decide) rfl ?_
  intro p e s m args below meth c0 s₁ B hml hv
  obtain ⟨rfl, hsz, hP, hK, hE⟩ := hv
  have hx := B.exec
  have hb := B.bytes
  have hr := B.returns
  have hts := atoms_spec (ws := Cond.code yX7_hasTwin cX7_hasTwin 3 (some .boolean) :: wA) B.pre
  have hwd : ∀ w ∈ wA, w.before _ s = true := fun w h => hts w (List.mem_cons_of_mem _ h)
  have hown : s.vm.findClass RX7 = some m.cls := findClass_of_methodNamed B.named
  have hlocks := B.notSynchronized
  subst hsz
  have hl := lv_entry ([.ref (g 3), .int p0]) (n := 3) (Nat.le_of_ble_eq_true rfl)
  rw [lg_entry_eq]
  generalize (lg_sl ([.ref (g 3), .int p0]) ++ List.replicate (3 - (lg_sl ([.ref (g 3), .int p0])).length) Slot.unset).toArray = ls at hl ⊢
  have hl : lv_has ls 3 [(0, .ref (g 3)), (1, .int p0)] := hl
  obtain ⟨H, eH⟩ : ∃ z, z = s.heap := ⟨_, rfl⟩
  have hP : va_P (dC, dI) classes (wX g c v F rc) H := by rw [eH]; exact hP
  have hS : va_S (AX g s.heap.size) s.heap H [] := by rw [eH]; exact va_S.rf
  refine my_heap eH ?_
  have rp0 := i32_rng p0
  refine lv_iconst (v := 0) hx hb dX7_hasTwin_0 (by decide) ?_
  refine lv_istore_n (lv' := [(2, .int 0), (0, .ref (g 3)), (1, .int p0)]) hx hb dX7_hasTwin_1 rfl hl (by decide) rfl (fun ls hl => ?_)
  have lp1017 : ∀ (n : Nat) (x2_lp1017 : Int32) (H : Heap) (locs : List Loc) (ls : Array Slot), (0 ≤ x2_lp1017.toInt) → (2147483648 - x2_lp1017.toInt ≤ (n : Int)) → va_P (dC, dI) classes (wX g c v F rc) H → va_S (AX g s.heap.size) s.heap H locs → lv_has ls 3 [(2, .int x2_lp1017), (0, .ref (g 3)), (1, .int p0)] → W p l e (headSpec (Cond.code yX7_hasTwin cX7_hasTwin 3 (some .boolean) :: wA) ({ frames := 1, cells := 0, slots := 0, locals := 40 })).room s m ([.ref (g 3), .int p0] : List Value).toArray below meth c0 H locs 0 0 (MQ below (va_Qi (fun (r : Int32) (u : Unit) => 0 ≤ r.toInt ∧ r.toInt ≤ 1) (fun (_ : Unit) => BX dC dI g c (v, F, rc)) (AX g s.heap.size)) ([.ref (g 3), .int p0] : List Value).toArray s 0 0 (AX g s.heap.size)) (F0 m 2 ls []) := by
    intro n
    induction n with
    | zero =>
      intro x2_lp1017 H locs ls t1018 hm hP hS hl
      exfalso
      have := i32_rng x2_lp1017
      omega
    | succ n ih_lp1017 =>
      intro x2_lp1017 H locs ls t1018 hm hP hS hl
      have rx2_lp1017 := i32_rng x2_lp1017
      refine lv_iload_n hx hb dX7_hasTwin_2 rfl (lv_at hl 0 rfl) ?_
      refine lv_aload_n hx hb dX7_hasTwin_3 rfl (lv_at hl 1 rfl) ?_
      refine va_get (D := (dC, dI)) (ci := 7) (v := .int (v 61)) (C := RX7) (T := TX7) (N := 7) hx hb hwd inA_X7 hown hK hP 3 rfl rfl 1 (by decide) (hwd _ wk_289) (fun _ h9 => h9) rfl dX7_hasTwin_4 ?_
      have t1019 : 0 ≤ (v 61).toInt ∧ (v 61).toInt ≤ 100 := hI.1 61 _ _ rfl
      refine lv_icmp_ge (tgt := 64) hx hb dX7_hasTwin_7 (by decide) (fun c1020 => ?_) (fun c1020 => ?_)
      · skip
        have t1021 := cv_le (a := (v 61).toInt) rfl (b := x2_lp1017.toInt) rfl c1020
        refine lv_iconst (v := 0) hx hb dX7_hasTwin_64 (by decide) ?_
        have hP9 : va_P (dC, dI) classes (wX g c v F rc) H := hP
        exact W.zret (v := 0) hx hb hr (rfl) (fun t ht hW => ⟨⟨0, (), rfl, by have : (0 : Int32).toInt = 0 := (by decide); omega, (by show va_P _ _ _ t.heap; rw [ht]; exact hP9)⟩, hS.F ht⟩) hS.2.2 dX7_hasTwin_65
      · skip
        have t1022 := cv_nle (a := (v 61).toInt) rfl (b := x2_lp1017.toInt) rfl c1020
        refine lv_iload_n hx hb dX7_hasTwin_10 rfl (lv_at hl 0 rfl) ?_
        refine lv_iload_n hx hb dX7_hasTwin_11 rfl (lv_at hl 2 rfl) ?_
        refine lv_icmp_eq (tgt := 58) hx hb dX7_hasTwin_12 (by decide) (fun c1023 => ?_) (fun c1023 => ?_)
        · skip
          have t1024 := cv_eq (a := x2_lp1017.toInt) rfl (b := p0.toInt) rfl c1023
          obtain ⟨z1025, e1026⟩ : ∃ y : Int32, y = x2_lp1017 + 1 := ⟨_, rfl⟩
          try (have t1027 := tadd e1026 rfl (b := 1) (by decide) (by omega))
          refine lv_iinc (v := z1025) (lv' := [(2, .int z1025), (0, .ref (g 3)), (1, .int p0)]) hx hb dX7_hasTwin_58 hl (k := 0) rfl (by rw [e1026]; rfl) (by decide) rfl (fun ls hl => ?_)
          refine lv_goto (tgt := 2) hx hb dX7_hasTwin_61 (by decide) ?_
          exact ih_lp1017 z1025  _ _ _ (by omega) (by omega) hP hS (lv_sub hl [0, 1, 2] rfl)
        · skip
          have t1028 := cv_ne (a := x2_lp1017.toInt) rfl (b := p0.toInt) rfl c1023
          refine lv_aload_n hx hb dX7_hasTwin_15 rfl (lv_at hl 1 rfl) ?_
          refine va_get (D := (dC, dI)) (ci := 7) (v := .ref (g 26)) (C := RX7) (T := TX7) (N := 7) hx hb hwd inA_X7 hown hK hP 3 rfl rfl 4 (by decide) (hwd _ wk_97) (fun _ h9 => h9) rfl dX7_hasTwin_16 ?_
          refine lv_iload_n hx hb dX7_hasTwin_19 rfl (lv_at hl 0 rfl) ?_
          refine va_iald hx hb hK hP 26 14 rfl rfl (i := x2_lp1017) (vin (a := x2_lp1017.toInt) rfl (by omega)) dX7_hasTwin_20 ?_
          refine lv_topi (fun z1029 e1030 => ?_)
          refine lv_bipush (v := 12) hx hb dX7_hasTwin_21 (by decide) ?_
          refine lv_icmp_eq (tgt := 58) hx hb dX7_hasTwin_23 (by decide) (fun c1031 => ?_) (fun c1031 => ?_)
          · skip
            have t1032 := cv_eq (a := z1029.toInt) rfl (b := 12) (by decide) c1031
            obtain ⟨z1033, e1034⟩ : ∃ y : Int32, y = x2_lp1017 + 1 := ⟨_, rfl⟩
            try (have t1035 := tadd e1034 rfl (b := 1) (by decide) (by omega))
            refine lv_iinc (v := z1033) (lv' := [(2, .int z1033), (0, .ref (g 3)), (1, .int p0)]) hx hb dX7_hasTwin_58 hl (k := 0) rfl (by rw [e1034]; rfl) (by decide) rfl (fun ls hl => ?_)
            refine lv_goto (tgt := 2) hx hb dX7_hasTwin_61 (by decide) ?_
            exact ih_lp1017 z1033  _ _ _ (by omega) (by omega) hP hS (lv_sub hl [0, 1, 2] rfl)
          · skip
            have t1036 := cv_ne (a := z1029.toInt) rfl (b := 12) (by decide) c1031
            refine lv_aload_n hx hb dX7_hasTwin_26 rfl (lv_at hl 1 rfl) ?_
            refine va_get (D := (dC, dI)) (ci := 7) (v := .ref (g 24)) (C := RX7) (T := TX7) (N := 7) hx hb hwd inA_X7 hown hK hP 3 rfl rfl 2 (by decide) (hwd _ wk_95) (fun _ h9 => h9) rfl dX7_hasTwin_27 ?_
            refine lv_iload_n hx hb dX7_hasTwin_30 rfl (lv_at hl 0 rfl) ?_
            refine va_iald hx hb hK hP 24 12 rfl rfl (i := x2_lp1017) (vin (a := x2_lp1017.toInt) rfl (by omega)) dX7_hasTwin_31 ?_
            refine lv_topi (fun z1037 e1038 => ?_)
            have t1039 : 0 ≤ z1037.toInt ∧ z1037.toInt ≤ 9 := by rw [e1038]; exact hI.2 24 _ _ rfl _
            refine lv_aload_n hx hb dX7_hasTwin_32 rfl (lv_at hl 1 rfl) ?_
            refine va_get (D := (dC, dI)) (ci := 7) (v := .ref (g 24)) (C := RX7) (T := TX7) (N := 7) hx hb hwd inA_X7 hown hK hP 3 rfl rfl 2 (by decide) (hwd _ wk_95) (fun _ h9 => h9) rfl dX7_hasTwin_33 ?_
            refine lv_iload_n hx hb dX7_hasTwin_36 rfl (lv_at hl 2 rfl) ?_
            refine va_iald hx hb hK hP 24 12 rfl rfl (i := p0) (vin (a := p0.toInt) rfl (by omega)) dX7_hasTwin_37 ?_
            refine lv_topi (fun z1040 e1041 => ?_)
            have t1042 : 0 ≤ z1040.toInt ∧ z1040.toInt ≤ 9 := by rw [e1041]; exact hI.2 24 _ _ rfl _
            refine lv_icmp_ne (tgt := 58) hx hb dX7_hasTwin_38 (by decide) (fun c1043 => ?_) (fun c1043 => ?_)
            · skip
              have t1044 := cv_ne (a := z1037.toInt) rfl (b := z1040.toInt) rfl c1043
              obtain ⟨z1045, e1046⟩ : ∃ y : Int32, y = x2_lp1017 + 1 := ⟨_, rfl⟩
              try (have t1047 := tadd e1046 rfl (b := 1) (by decide) (by omega))
              refine lv_iinc (v := z1045) (lv' := [(2, .int z1045), (0, .ref (g 3)), (1, .int p0)]) hx hb dX7_hasTwin_58 hl (k := 0) rfl (by rw [e1046]; rfl) (by decide) rfl (fun ls hl => ?_)
              refine lv_goto (tgt := 2) hx hb dX7_hasTwin_61 (by decide) ?_
              exact ih_lp1017 z1045  _ _ _ (by omega) (by omega) hP hS (lv_sub hl [0, 1, 2] rfl)
            · skip
              have t1048 := cv_eq (a := z1037.toInt) rfl (b := z1040.toInt) rfl c1043
              refine lv_aload_n hx hb dX7_hasTwin_41 rfl (lv_at hl 1 rfl) ?_
              refine va_get (D := (dC, dI)) (ci := 7) (v := .ref (g 25)) (C := RX7) (T := TX7) (N := 7) hx hb hwd inA_X7 hown hK hP 3 rfl rfl 3 (by decide) (hwd _ wk_96) (fun _ h9 => h9) rfl dX7_hasTwin_42 ?_
              refine lv_iload_n hx hb dX7_hasTwin_45 rfl (lv_at hl 0 rfl) ?_
              refine va_iald hx hb hK hP 25 13 rfl rfl (i := x2_lp1017) (vin (a := x2_lp1017.toInt) rfl (by omega)) dX7_hasTwin_46 ?_
              refine lv_topi (fun z1049 e1050 => ?_)
              refine lv_aload_n hx hb dX7_hasTwin_47 rfl (lv_at hl 1 rfl) ?_
              refine va_get (D := (dC, dI)) (ci := 7) (v := .ref (g 25)) (C := RX7) (T := TX7) (N := 7) hx hb hwd inA_X7 hown hK hP 3 rfl rfl 3 (by decide) (hwd _ wk_96) (fun _ h9 => h9) rfl dX7_hasTwin_48 ?_
              refine lv_iload_n hx hb dX7_hasTwin_51 rfl (lv_at hl 2 rfl) ?_
              refine va_iald hx hb hK hP 25 13 rfl rfl (i := p0) (vin (a := p0.toInt) rfl (by omega)) dX7_hasTwin_52 ?_
              refine lv_topi (fun z1051 e1052 => ?_)
              refine lv_icmp_ne (tgt := 58) hx hb dX7_hasTwin_53 (by decide) (fun c1053 => ?_) (fun c1053 => ?_)
              · skip
                have t1054 := cv_ne (a := z1049.toInt) rfl (b := z1051.toInt) rfl c1053
                obtain ⟨z1055, e1056⟩ : ∃ y : Int32, y = x2_lp1017 + 1 := ⟨_, rfl⟩
                try (have t1057 := tadd e1056 rfl (b := 1) (by decide) (by omega))
                refine lv_iinc (v := z1055) (lv' := [(2, .int z1055), (0, .ref (g 3)), (1, .int p0)]) hx hb dX7_hasTwin_58 hl (k := 0) rfl (by rw [e1056]; rfl) (by decide) rfl (fun ls hl => ?_)
                refine lv_goto (tgt := 2) hx hb dX7_hasTwin_61 (by decide) ?_
                exact ih_lp1017 z1055  _ _ _ (by omega) (by omega) hP hS (lv_sub hl [0, 1, 2] rfl)
              · skip
                have t1058 := cv_eq (a := z1049.toInt) rfl (b := z1051.toInt) rfl c1053
                refine lv_iconst (v := 1) hx hb dX7_hasTwin_56 (by decide) ?_
                have hP9 : va_P (dC, dI) classes (wX g c v F rc) H := hP
                exact W.zret (v := 1) hx hb hr (rfl) (fun t ht hW => ⟨⟨1, (), rfl, by have : (1 : Int32).toInt = 1 := (by decide); omega, (by show va_P _ _ _ t.heap; rw [ht]; exact hP9)⟩, hS.F ht⟩) hS.2.2 dX7_hasTwin_57
  obtain ⟨n9, hn9⟩ : ∃ n : Nat, 2147483648 - 0 ≤ (n : Int) := ⟨((2147483648 - 0 : Int)).toNat, by omega⟩
  exact lp1017 n9 0  H _ ls (by have : (0 : Int32).toInt = 0 := (by decide); omega) (by have : (0 : Int32).toInt = 0 := (by decide); omega) hP hS hl
set_option maxHeartbeats 8000000 in
set_option maxRecDepth 100000 in
theorem c_X7_whyCantBe (l : Launch) (dC : Nat → ClassId) (dI : Nat → Nat → Nat) (g : Nat → Nat) (c : Nat → ClassId) (adK adV : Nat → Nat) (v : Nat → Int32) (F : Nat → Nat → Int32) (rc sz : Nat) (p0 : Int32) (p1 : Int32) (hg : injX g) (hI : IX v F) (h0 : 0 ≤ p0.toInt ∧ p0.toInt ≤ 99) : Met l yX7_whyCantBe (Cond.code yX7_whyCantBe cX7_whyCantBe 3 (some .int) :: wA) ({ frames := 5, cells := 0, slots := 0, locals := 200 }) (va_Pc [.ref (g 3), .int p0, .int p1] (PX dC dI g c adK adV v F rc sz)) (va_Qi (fun (r : Int32) (u : Unit) => True) (fun (_ : Unit) => BX dC dI g c (v, F, rc)) (AX g sz)) 0 0 (AX g sz) := by
  refine Met.ofW (cc := cX7_whyCantBe) (maxL := 3) (ret := (some .int)) (by decide) rfl ?_
  intro p e s m args below meth c0 s₁ B hml hv
  obtain ⟨rfl, hsz, hP, hK, hE⟩ := hv
  have hx := B.exec
  have hb := B.bytes
  have hr := B.returns
  have hts := atoms_spec (ws := Cond.code yX7_whyCantBe cX7_whyCantBe 3 (some .int) :: wA) B.pre
  have hwd : ∀ w ∈ wA, w.before _ s = true := fun w h => hts w (List.mem_cons_of_mem _ h)
  have hown : s.vm.findClass RX7 = some m.cls := findClass_of_methodNamed B.named
  have hlocks := B.notSynchronized
  subst hsz
  have hl := lv_entry ([.ref (g 3), .int p0, .int p1]) (n := 3) (Nat.le_of_ble_eq_true rfl)
  rw [lg_entry_eq]
  generalize (lg_sl ([.ref (g 3), .int p0, .int p1]) ++ List.replicate (3 - (lg_sl ([.ref (g 3), .int p0, .int p1])).length) Slot.unset).toArray = ls at hl ⊢
  have hl : lv_has ls 3 [(0, .ref (g 3)), (1, .int p0), (2, .int p1)] := hl
  obtain ⟨H, eH⟩ : ∃ z, z = s.heap := ⟨_, rfl⟩
  have hP : va_P (dC, dI) classes (wX g c v F rc) H := by rw [eH]; exact hP
  have hS : va_S (AX g s.heap.size) s.heap H [] := by rw [eH]; exact va_S.rf
  refine my_heap eH ?_
  have rp0 := i32_rng p0
  have rp1 := i32_rng p1
  refine lv_aload_n hx hb dX7_whyCantBe_0 rfl (lv_at hl 0 rfl) ?_
  refine va_get (D := (dC, dI)) (ci := 7) (v := .ref (g 4)) (C := RX7) (T := TX7) (N := 7) hx hb hwd inA_X7 hown hK hP 3 rfl rfl 0 (by decide) (hwd _ wk_100) (fun _ h9 => h9) rfl dX7_whyCantBe_1 ?_
  refine lv_iload_n hx hb dX7_whyCantBe_4 rfl (lv_at hl 1 rfl) ?_
  refine lv_iload_n hx hb dX7_whyCantBe_5 rfl (lv_at hl 2 rfl) ?_
  refine va_calli (va_runV (As := [.int p0, .int p1]) (rest := []) ⟨hx, hb, hml, hown, hwd⟩ (c_X9_overlap l dC dI g c adK adV v F rc H.size p0 p1 hg hI (by omega)) (cwV 2 hwd (gV wk_681 wk_678 wk_679 wk_680 wk_22) rfl rfl rfl (by decide +kernel) ⟨Nat.le_of_ble_eq_true rfl, Nat.le_of_ble_eq_true rfl⟩) ⟨PX.blind, va_recv hK hP (ci := 9) (q0 := 4) rfl rfl, fun U hU hW => ⟨rfl, PX.at hK hE hP hS hU hW⟩⟩ rfl rfl hl.1 rfl (lv_room (Nat.le_of_ble_eq_true rfl)) dX7_whyCantBe_6 ⟨Nat.le_of_ble_eq_true rfl, Nat.le_of_ble_eq_true rfl⟩) hS (fun q _ h => (freeX hS) q h) (freeX hS) (fun r1059 u t H1 locs ht hvm hw hB hz1 hk1 hS => ?_)
  unfold BX at hB
  rw [ht] at hB
  have hP : va_P (dC, dI) classes (wX g c v F rc) H1 := hB
  have hw : 0 ≤ r1059.toInt ∧ r1059.toInt ≤ 1 := hw
  generalize H1 = H at hP hS ⊢
  have hw_r1059 := hw
  refine lv_if_eq (tgt := 14) hx hb dX7_whyCantBe_9 (by decide) (fun c1060 => ?_) (fun c1060 => ?_)
  · skip
    have t1061 := cv_eq (a := r1059.toInt) rfl (b := 0) (by decide) c1060
    refine lv_aload_n hx hb dX7_whyCantBe_14 rfl (lv_at hl 0 rfl) ?_
    refine lv_iload_n hx hb dX7_whyCantBe_15 rfl (lv_at hl 1 rfl) ?_
    refine va_calli (va_runV (As := [.int p0]) (rest := []) ⟨hx, hb, hml, hown, hwd⟩ (c_X7_growsLess l dC dI g c adK adV v F rc H.size p0 hg hI (by omega)) (cwV 1 hwd (gV wk_689 wk_686 wk_687 wk_688 wk_26) rfl rfl rfl (by decide +kernel) ⟨Nat.le_of_ble_eq_true rfl, Nat.le_of_ble_eq_true rfl⟩) ⟨PX.blind, va_recv hK hP (ci := 7) (q0 := 3) rfl rfl, fun U hU hW => ⟨rfl, PX.at hK hE hP hS hU hW⟩⟩ rfl rfl hl.1 rfl (lv_room (Nat.le_of_ble_eq_true rfl)) dX7_whyCantBe_16 ⟨Nat.le_of_ble_eq_true rfl, Nat.le_of_ble_eq_true rfl⟩) hS (fun q _ h => (freeX hS) q h) (freeX hS) (fun r1062 u t H1 locs ht hvm hw hB hz1 hk1 hS => ?_)
    unfold BX at hB
    rw [ht] at hB
    have hP : va_P (dC, dI) classes (wX g c v F rc) H1 := hB
    have hw : 0 ≤ r1062.toInt ∧ r1062.toInt ≤ 1 := hw
    generalize H1 = H at hP hS ⊢
    have hw_r1062 := hw
    refine lv_if_eq (tgt := 24) hx hb dX7_whyCantBe_19 (by decide) (fun c1063 => ?_) (fun c1063 => ?_)
    · skip
      have t1064 := cv_eq (a := r1062.toInt) rfl (b := 0) (by decide) c1063
      refine lv_aload_n hx hb dX7_whyCantBe_24 rfl (lv_at hl 0 rfl) ?_
      refine lv_iload_n hx hb dX7_whyCantBe_25 rfl (lv_at hl 1 rfl) ?_
      refine va_calli (va_runV (As := [.int p0]) (rest := []) ⟨hx, hb, hml, hown, hwd⟩ (c_X7_hasTwin l dC dI g c adK adV v F rc H.size p0 hg hI (by omega)) (cwV 1 hwd (gV wk_712 wk_709 wk_710 wk_711 wk_26) rfl rfl rfl (by decide +kernel) ⟨Nat.le_of_ble_eq_true rfl, Nat.le_of_ble_eq_true rfl⟩) ⟨PX.blind, va_recv hK hP (ci := 7) (q0 := 3) rfl rfl, fun U hU hW => ⟨rfl, PX.at hK hE hP hS hU hW⟩⟩ rfl rfl hl.1 rfl (lv_room (Nat.le_of_ble_eq_true rfl)) dX7_whyCantBe_26 ⟨Nat.le_of_ble_eq_true rfl, Nat.le_of_ble_eq_true rfl⟩) hS (fun q _ h => (freeX hS) q h) (freeX hS) (fun r1065 u t H1 locs ht hvm hw hB hz1 hk1 hS => ?_)
      unfold BX at hB
      rw [ht] at hB
      have hP : va_P (dC, dI) classes (wX g c v F rc) H1 := hB
      have hw : 0 ≤ r1065.toInt ∧ r1065.toInt ≤ 1 := hw
      generalize H1 = H at hP hS ⊢
      have hw_r1065 := hw
      refine lv_if_eq (tgt := 36) hx hb dX7_whyCantBe_29 (by decide) (fun c1066 => ?_) (fun c1066 => ?_)
      · skip
        have t1067 := cv_eq (a := r1065.toInt) rfl (b := 0) (by decide) c1066
        refine lv_iconst (v := 0) hx hb dX7_whyCantBe_36 (by decide) ?_
        have hP9 : va_P (dC, dI) classes (wX g c v F rc) H := hP
        exact W.iret (v := 0) hx hb hr (fun t ht hW => ⟨⟨0, (), rfl, trivial, (by show va_P _ _ _ t.heap; rw [ht]; exact hP9)⟩, hS.F ht⟩) hS.2.2 dX7_whyCantBe_37
      · skip
        have t1068 := cv_ne (a := r1065.toInt) rfl (b := 0) (by decide) c1066
        refine lv_iconst (v := 3) hx hb dX7_whyCantBe_32 (by decide) ?_
        refine lv_goto (tgt := 37) hx hb dX7_whyCantBe_33 (by decide) ?_
        have hP9 : va_P (dC, dI) classes (wX g c v F rc) H := hP
        exact W.iret (v := 3) hx hb hr (fun t ht hW => ⟨⟨3, (), rfl, trivial, (by show va_P _ _ _ t.heap; rw [ht]; exact hP9)⟩, hS.F ht⟩) hS.2.2 dX7_whyCantBe_37
    · skip
      have t1069 := cv_ne (a := r1062.toInt) rfl (b := 0) (by decide) c1063
      refine lv_iconst (v := 2) hx hb dX7_whyCantBe_22 (by decide) ?_
      have hP9 : va_P (dC, dI) classes (wX g c v F rc) H := hP
      exact W.iret (v := 2) hx hb hr (fun t ht hW => ⟨⟨2, (), rfl, trivial, (by show va_P _ _ _ t.heap; rw [ht]; exact hP9)⟩, hS.F ht⟩) hS.2.2 dX7_whyCantBe_23
  · skip
    have t1070 := cv_ne (a := r1059.toInt) rfl (b := 0) (by decide) c1060
    refine lv_iconst (v := 1) hx hb dX7_whyCantBe_12 (by decide) ?_
    have hP9 : va_P (dC, dI) classes (wX g c v F rc) H := hP
    exact W.iret (v := 1) hx hb hr (fun t ht hW => ⟨⟨1, (), rfl, trivial, (by show va_P _ _ _ t.heap; rw [ht]; exact hP9)⟩, hS.F ht⟩) hS.2.2 dX7_whyCantBe_13
