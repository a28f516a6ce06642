set_option maxHeartbeats 8000000 in
set_option maxRecDepth 100000 in
theorem c_X4_push (l : Launch) (dC : Nat → ClassId) (dI : Nat → Nat → Nat) (g : Nat → Nat) (c : Nat → ClassId) (adK adV : Nat → Nat) (v : Nat → Int32) (F : Nat → Nat → Int32) (rc sz : Nat) (p0 : Int32) (hg : injX g) (hI : IX v F) : Met l yX4_push (Cond.code yX4_push cX4_push 2 none :: wA) ({ frames := 1, cells := 0, slots := 0, locals := 40 }) (va_Pc [.ref (g 6), .int p0] (PX dC dI g c adK adV v F rc sz)) (va_Qv (fun (u : StX) => IX u.1 u.2.1 ∧ alX u.1 u.2.1 = alX v F ∧ u.2.2 = rc ∧ (∀ k, k ∉ ([126] : List Nat) → u.1 k = v k) ∧ True) (BX dC dI g c) (AX g sz)) 0 0 (AX g sz) := by
  refine Met.ofW (cc := cX4_push) (maxL := 2) (ret := none) (by decide) rfl ?_
  intro p e s m args below meth c0 s₁ B hml hv
  obtain ⟨rfl, hsz, hP, hK, hE⟩ := hv
  have hx := B.exec
  have hb := B.bytes
  have hr := B.returns
  have hts := atoms_spec (ws := Cond.code yX4_push cX4_push 2 none :: wA) B.pre
  have hwd : ∀ w ∈ wA, w.before _ s = true := fun w h => hts w (List.mem_cons_of_mem _ h)
  have hown : s.vm.findClass RX4 = some m.cls := findClass_of_methodNamed B.named
  have hlocks := B.notSynchronized
  subst hsz
  have hl := lv_entry ([.ref (g 6), .int p0]) (n := 2) (Nat.le_of_ble_eq_true rfl)
  rw [lg_entry_eq]
  generalize (lg_sl ([.ref (g 6), .int p0]) ++ List.replicate (2 - (lg_sl ([.ref (g 6), .int p0])).length) Slot.unset).toArray = ls at hl ⊢
  have hl : lv_has ls 2 [(0, .ref (g 6)), (1, .int p0)] := hl
  obtain ⟨H, eH⟩ : ∃ z, z = s.heap := ⟨_, rfl⟩
  have hP : va_P (dC, dI) classes (wX g c v F rc) H := by rw [eH]; exact hP
  have hS : va_S (AX g s.heap.size) s.heap H [] := by rw [eH]; exact va_S.rf
  refine my_heap eH ?_
  have hal : alX v F = alX v F := rfl
  have rp0 := i32_rng p0
  refine lv_aload_n hx hb dX4_push_0 rfl (lv_at hl 0 rfl) ?_
  refine va_get (D := (dC, dI)) (ci := 4) (v := .int (v 126)) (C := RX4) (T := TX4) (N := 7) hx hb hwd inA_X4 hown hK hP 6 rfl rfl 6 (by decide) (hwd _ wk_411) (fun _ h9 => h9) rfl dX4_push_1 ?_
  have t1051 : 0 ≤ (v 126).toInt ∧ (v 126).toInt ≤ 120 := hI.1 126 _ _ rfl
  refine lv_aload_n hx hb dX4_push_4 rfl (lv_at hl 0 rfl) ?_
  refine va_get (D := (dC, dI)) (ci := 4) (v := .ref (g 54)) (C := RX4) (T := TX4) (N := 7) hx hb hwd inA_X4 hown hK hP 6 rfl rfl 5 (by decide) (hwd _ wk_113) (fun _ h9 => h9) rfl dX4_push_5 ?_
  refine va_alen (v := 120) hx hb hK hP 54 42 rfl rfl rfl dX4_push_8 ?_
  refine lv_icmp_ge (tgt := 32) hx hb dX4_push_9 (by decide) (fun c1052 => ?_) (fun c1052 => ?_)
  · skip
    have t1053 := cv_le (a := 120) (by decide) (b := (v 126).toInt) rfl c1052
    have hP9 : va_P (dC, dI) classes (wX g c v F rc) H := hP
    exact W.vret hx hb hr (fun t ht hW => ⟨⟨(v, F, rc), rfl, ⟨hI, hal, rfl, (fun _ _ => rfl), trivial⟩, (by show va_P _ _ _ t.heap; rw [ht]; exact hP9)⟩, hS.F ht⟩) hS.2.2 dX4_push_32
  · skip
    have t1054 := cv_nle (a := 120) (by decide) (b := (v 126).toInt) rfl c1052
    refine lv_aload_n hx hb dX4_push_12 rfl (lv_at hl 0 rfl) ?_
    refine va_get (D := (dC, dI)) (ci := 4) (v := .ref (g 54)) (C := RX4) (T := TX4) (N := 7) hx hb hwd inA_X4 hown hK hP 6 rfl rfl 5 (by decide) (hwd _ wk_113) (fun _ h9 => h9) rfl dX4_push_13 ?_
    refine lv_aload_n hx hb dX4_push_16 rfl (lv_at hl 0 rfl) ?_
    refine va_get (D := (dC, dI)) (ci := 4) (v := .int (v 126)) (C := RX4) (T := TX4) (N := 7) hx hb hwd inA_X4 hown hK hP 6 rfl rfl 6 (by decide) (hwd _ wk_411) (fun _ h9 => h9) rfl dX4_push_17 ?_
    have t1055 : 0 ≤ (v 126).toInt ∧ (v 126).toInt ≤ 120 := hI.1 126 _ _ rfl
    refine lv_iload_n hx hb dX4_push_20 rfl (lv_at hl 1 rfl) ?_
    refine va_iast hx hb hK hP (DX hg) hS 54 42 rfl rfl (i := (v 126)) (x := p0) (vin (a := (v 126).toInt) rfl (by omega)) dX4_push_21 (fun H locs hP _ hS => ?_)
    have hP := va_P_eq (sX_54 g c _ _ _ _) hP
    have hI := IX.store0 hI 54 (v 126 : Int32).toNatClampNeg p0 rfl
    have hal := (alX_F _ _ 54 (upd (F 54) (v 126 : Int32).toNatClampNeg p0) (by decide) (by decide) (by decide) (by decide) (by decide)).trans hal
    have hP : va_P (dC, dI) classes (wX g c v (va_up F 54 (upd (F 54) (v 126 : Int32).toNatClampNeg p0)) rc) H := hP
    generalize (va_up F 54 (upd (F 54) (v 126 : Int32).toNatClampNeg p0)) = F1056 at hP hI hal
    refine lv_aload_n hx hb dX4_push_22 rfl (lv_at hl 0 rfl) ?_
    refine lv_dup hx hb dX4_push_23 rfl ?_
    refine va_get (D := (dC, dI)) (ci := 4) (v := .int (v 126)) (C := RX4) (T := TX4) (N := 7) hx hb hwd inA_X4 hown hK hP 6 rfl rfl 6 (by decide) (hwd _ wk_411) (fun _ h9 => h9) rfl dX4_push_24 ?_
    have t1057 : 0 ≤ (v 126).toInt ∧ (v 126).toInt ≤ 120 := hI.1 126 _ _ rfl
    refine lv_iconst (v := 1) hx hb dX4_push_27 (by decide) ?_
    refine lv_iadd hx hb dX4_push_28 ?_
    refine lv_topi (fun z1058 e1059 => ?_)
    try (have t1060 := tadd e1059 (a := (v 126).toInt) rfl (b := 1) (by decide) (by omega))
    refine va_put (D := (dC, dI)) (ci := 4) (v := .int z1058) (ty := .int) (C := RX4) (T := TX4) (N := 7) (fs := fsX_6 g v rc) hx hb hwd inA_X4 tyX4 tyX4_ok nmX4 hown hK hP (DX hg) hS 6 rfl rfl 6 (by decide) (hwd _ wk_411) (fun _ h9 => h9) rfl (by decide +kernel) rfl rfl (Nat.le_of_ble_eq_true rfl) dX4_push_29 (fun H locs hP _ hS => ?_)
    have hP := va_P_eq (pX_126 g c _ _ _ _) hP
    have hI := IX.put hI 126 z1058 rfl (by omega)
    have hal := (alX_v _ _ 126 z1058 (by decide) (by decide) (by decide) (by decide)).trans hal
    have hP9 : va_P (dC, dI) classes (wX g c (va_up v 126 z1058) F1056 rc) H := hP
    exact W.vret hx hb hr (fun t ht hW => ⟨⟨((va_up v 126 z1058), F1056, rc), rfl, ⟨hI, hal, rfl, (frU (by decide) (fun _ _ => rfl)), trivial⟩, (by show va_P _ _ _ t.heap; rw [ht]; exact hP9)⟩, hS.F ht⟩) hS.2.2 dX4_push_32
set_option maxHeartbeats 8000000 in
set_option maxRecDepth 100000 in
theorem c_X4_pop (l : Launch) (dC : Nat → ClassId) (dI : Nat → Nat → Nat) (g : Nat → Nat) (c : Nat → ClassId) (adK adV : Nat → Nat) (v : Nat → Int32) (F : Nat → Nat → Int32) (rc sz : Nat) (hg : injX g) (hI : IX v F) : Met l yX4_pop (Cond.code yX4_pop cX4_pop 1 (some .int) :: wA) ({ frames := 1, cells := 0, slots := 0, locals := 40 }) (va_Pc [.ref (g 6)] (PX dC dI g c adK adV v F rc sz)) (va_Qi (fun (r : Int32) (u : StX) => IX u.1 u.2.1 ∧ alX u.1 u.2.1 = alX v F ∧ u.2.2 = rc ∧ (∀ k, k ∉ ([126] : List Nat) → u.1 k = v k) ∧ True) (BX dC dI g c) (AX g sz)) 0 0 (AX g sz) := by
  refine Met.ofW (cc := cX4_pop) (maxL := 1) (ret := (some .int)) (by decide) rfl ?_
  intro p e s m args below meth c0 s₁ B hml hv
  obtain ⟨rfl, hsz, hP, hK, hE⟩ := hv
  have hx := B.exec
  have hb := B.bytes
  have hr := B.returns
  have hts := atoms_spec (ws := Cond.code yX4_pop cX4_pop 1 (some .int) :: wA) B.pre
  have hwd : ∀ w ∈ wA, w.before _ s = true := fun w h => hts w (List.mem_cons_of_mem _ h)
  have hown : s.vm.findClass RX4 = some m.cls := findClass_of_methodNamed B.named
  have hlocks := B.notSynchronized
  subst hsz
  have hl := lv_entry ([.ref (g 6)]) (n := 1) (Nat.le_of_ble_eq_true rfl)
  rw [lg_entry_eq]
  generalize (lg_sl ([.ref (g 6)]) ++ List.replicate (1 - (lg_sl ([.ref (g 6)])).length) Slot.unset).toArray = ls at hl ⊢
  have hl : lv_has ls 1 [(0, .ref (g 6))] := hl
  obtain ⟨H, eH⟩ : ∃ z, z = s.heap := ⟨_, rfl⟩
  have hP : va_P (dC, dI) classes (wX g c v F rc) H := by rw [eH]; exact hP
  have hS : va_S (AX g s.heap.size) s.heap H [] := by rw [eH]; exact va_S.rf
  refine my_heap eH ?_
  have hal : alX v F = alX v F := rfl
  refine lv_aload_n hx hb dX4_pop_0 rfl (lv_at hl 0 rfl) ?_
  refine va_get (D := (dC, dI)) (ci := 4) (v := .int (v 126)) (C := RX4) (T := TX4) (N := 7) hx hb hwd inA_X4 hown hK hP 6 rfl rfl 6 (by decide) (hwd _ wk_411) (fun _ h9 => h9) rfl dX4_pop_1 ?_
  have t1061 : 0 ≤ (v 126).toInt ∧ (v 126).toInt ≤ 120 := hI.1 126 _ _ rfl
  refine lv_if_gt (tgt := 9) hx hb dX4_pop_4 (by decide) (fun c1062 => ?_) (fun c1062 => ?_)
  · skip
    have t1063 := cv_lt (a := 0) (by decide) (b := (v 126).toInt) rfl c1062
    refine lv_aload_n hx hb dX4_pop_9 rfl (lv_at hl 0 rfl) ?_
    refine lv_dup hx hb dX4_pop_10 rfl ?_
    refine va_get (D := (dC, dI)) (ci := 4) (v := .int (v 126)) (C := RX4) (T := TX4) (N := 7) hx hb hwd inA_X4 hown hK hP 6 rfl rfl 6 (by decide) (hwd _ wk_411) (fun _ h9 => h9) rfl dX4_pop_11 ?_
    have t1064 : 0 ≤ (v 126).toInt ∧ (v 126).toInt ≤ 120 := hI.1 126 _ _ rfl
    refine lv_iconst (v := 1) hx hb dX4_pop_14 (by decide) ?_
    refine lv_isub hx hb dX4_pop_15 ?_
    refine lv_topi (fun z1065 e1066 => ?_)
    try (have t1067 := tsub e1066 (a := (v 126).toInt) rfl (b := 1) (by decide) (by omega))
    refine va_put (D := (dC, dI)) (ci := 4) (v := .int z1065) (ty := .int) (C := RX4) (T := TX4) (N := 7) (fs := fsX_6 g v rc) hx hb hwd inA_X4 tyX4 tyX4_ok nmX4 hown hK hP (DX hg) hS 6 rfl rfl 6 (by decide) (hwd _ wk_411) (fun _ h9 => h9) rfl (by decide +kernel) rfl rfl (Nat.le_of_ble_eq_true rfl) dX4_pop_16 (fun H locs hP _ hS => ?_)
    have hP := va_P_eq (pX_126 g c _ _ _ _) hP
    have hI := IX.put hI 126 z1065 rfl (by omega)
    have hal := (alX_v _ _ 126 z1065 (by decide) (by decide) (by decide) (by decide)).trans hal
    refine lv_aload_n hx hb dX4_pop_19 rfl (lv_at hl 0 rfl) ?_
    refine va_get (D := (dC, dI)) (ci := 4) (v := .ref (g 54)) (C := RX4) (T := TX4) (N := 7) hx hb hwd inA_X4 hown hK hP 6 rfl rfl 5 (by decide) (hwd _ wk_113) (fun _ h9 => h9) rfl dX4_pop_20 ?_
    refine lv_aload_n hx hb dX4_pop_23 rfl (lv_at hl 0 rfl) ?_
    refine va_get (D := (dC, dI)) (ci := 4) (v := .int z1065) (C := RX4) (T := TX4) (N := 7) hx hb hwd inA_X4 hown hK hP 6 rfl rfl 6 (by decide) (hwd _ wk_411) (fun _ h9 => h9) rfl dX4_pop_24 ?_
    have t1068 : 0 ≤ z1065.toInt ∧ z1065.toInt ≤ 120 := hI.1 126 _ _ rfl
    refine va_iald hx hb hK hP 54 42 rfl rfl (i := z1065) (vin (a := z1065.toInt) rfl (by omega)) dX4_pop_27 ?_
    refine lv_topi (fun z1069 e1070 => ?_)
    have hP9 : va_P (dC, dI) classes (wX g c (va_up v 126 z1065) F rc) H := hP
    exact W.iret (v := z1069) hx hb hr (fun t ht hW => ⟨⟨z1069, ((va_up v 126 z1065), F, rc), rfl, ⟨hI, hal, rfl, (frU (by decide) (fun _ _ => rfl)), trivial⟩, (by show va_P _ _ _ t.heap; rw [ht]; exact hP9)⟩, hS.F ht⟩) hS.2.2 dX4_pop_28
  · skip
    have t1071 := cv_nlt (a := 0) (by decide) (b := (v 126).toInt) rfl c1062
    refine lv_iconst (v := 0) hx hb dX4_pop_7 (by decide) ?_
    have hP9 : va_P (dC, dI) classes (wX g c v F rc) H := hP
    exact W.iret (v := 0) hx hb hr (fun t ht hW => ⟨⟨0, (v, F, rc), rfl, ⟨hI, hal, rfl, (fun _ _ => rfl), trivial⟩, (by show va_P _ _ _ t.heap; rw [ht]; exact hP9)⟩, hS.F ht⟩) hS.2.2 dX4_pop_8
set_option maxHeartbeats 8000000 in
set_option maxRecDepth 100000 in
theorem c_X4_add (l : Launch) (dC : Nat → ClassId) (dI : Nat → Nat → Nat) (g : Nat → Nat) (c : Nat → ClassId) (adK adV : Nat → Nat) (v : Nat → Int32) (F : Nat → Nat → Int32) (rc sz : Nat) (p0 : Int32) (p1 : Int32) (p2 : Int32) (hg : injX g) (hI : IX v F) (h2 : 0 ≤ p2.toInt ∧ p2.toInt ≤ 120) : Met l yX4_add (Cond.code yX4_add cX4_add 4 (some .int) :: wA) ({ frames := 1, cells := 0, slots := 0, locals := 40 }) (va_Pc [.ref (g 6), .int p0, .int p1, .int p2] (PX dC dI g c adK adV v F rc sz)) (va_Qi (fun (r : Int32) (u : StX) => IX u.1 u.2.1 ∧ alX u.1 u.2.1 = alX v F ∧ u.2.2 = rc ∧ (∀ k, k ∉ ([120] : List Nat) → u.1 k = v k) ∧ True) (BX dC dI g c) (AX g sz)) 0 0 (AX g sz) := by
  refine Met.ofW (cc := cX4_add) (maxL := 4) (ret := (some .int)) (by decide) rfl ?_
  intro p e s m args below meth c0 s₁ B hml hv
  obtain ⟨rfl, hsz, hP, hK, hE⟩ := hv
  have hx := B.exec
  have hb := B.bytes
  have hr := B.returns
  have hts := atoms_spec (ws := Cond.code yX4_add cX4_add 4 (some .int) :: wA) B.pre
  have hwd : ∀ w ∈ wA, w.before _ s = true := fun w h => hts w (List.mem_cons_of_mem _ h)
  have hown : s.vm.findClass RX4 = some m.cls := findClass_of_methodNamed B.named
  have hlocks := B.notSynchronized
  subst hsz
  have hl := lv_entry ([.ref (g 6), .int p0, .int p1, .int p2]) (n := 4) (Nat.le_of_ble_eq_true rfl)
  rw [lg_entry_eq]
  generalize (lg_sl ([.ref (g 6), .int p0, .int p1, .int p2]) ++ List.replicate (4 - (lg_sl ([.ref (g 6), .int p0, .int p1, .int p2])).length) Slot.unset).toArray = ls at hl ⊢
  have hl : lv_has ls 4 [(0, .ref (g 6)), (1, .int p0), (2, .int p1), (3, .int p2)] := hl
  obtain ⟨H, eH⟩ : ∃ z, z = s.heap := ⟨_, rfl⟩
  have hP : va_P (dC, dI) classes (wX g c v F rc) H := by rw [eH]; exact hP
  have hS : va_S (AX g s.heap.size) s.heap H [] := by rw [eH]; exact va_S.rf
  refine my_heap eH ?_
  have hal : alX v F = alX v F := rfl
  have rp0 := i32_rng p0
  have rp1 := i32_rng p1
  have rp2 := i32_rng p2
  refine lv_aload_n hx hb dX4_add_0 rfl (lv_at hl 0 rfl) ?_
  refine va_get (D := (dC, dI)) (ci := 4) (v := .int (v 120)) (C := RX4) (T := TX4) (N := 7) hx hb hwd inA_X4 hown hK hP 6 rfl rfl 0 (by decide) (hwd _ wk_401) (fun _ h9 => h9) rfl dX4_add_1 ?_
  have t1072 : 0 ≤ (v 120).toInt ∧ (v 120).toInt ≤ 10 := hI.1 120 _ _ rfl
  refine lv_bipush (v := 10) hx hb dX4_add_4 (by decide) ?_
  refine lv_icmp_lt (tgt := 12) hx hb dX4_add_6 (by decide) (fun c1073 => ?_) (fun c1073 => ?_)
  · skip
    have t1074 := cv_lt (a := (v 120).toInt) rfl (b := 10) (by decide) c1073
    refine lv_aload_n hx hb dX4_add_12 rfl (lv_at hl 0 rfl) ?_
    refine va_get (D := (dC, dI)) (ci := 4) (v := .ref (g 40)) (C := RX4) (T := TX4) (N := 7) hx hb hwd inA_X4 hown hK hP 6 rfl rfl 1 (by decide) (hwd _ wk_108) (fun _ h9 => h9) rfl dX4_add_13 ?_
    refine lv_aload_n hx hb dX4_add_16 rfl (lv_at hl 0 rfl) ?_
    refine va_get (D := (dC, dI)) (ci := 4) (v := .int (v 120)) (C := RX4) (T := TX4) (N := 7) hx hb hwd inA_X4 hown hK hP 6 rfl rfl 0 (by decide) (hwd _ wk_401) (fun _ h9 => h9) rfl dX4_add_17 ?_
    have t1075 : 0 ≤ (v 120).toInt ∧ (v 120).toInt ≤ 10 := hI.1 120 _ _ rfl
    refine lv_iload_n hx hb dX4_add_20 rfl (lv_at hl 1 rfl) ?_
    refine va_iast hx hb hK hP (DX hg) hS 40 28 rfl rfl (i := (v 120)) (x := p0) (vin (a := (v 120).toInt) rfl (by omega)) dX4_add_21 (fun H locs hP _ hS => ?_)
    have hP := va_P_eq (sX_40 g c _ _ _ _) hP
    have hI := IX.store0 hI 40 (v 120 : Int32).toNatClampNeg p0 rfl
    have hal := (alX_F _ _ 40 (upd (F 40) (v 120 : Int32).toNatClampNeg p0) (by decide) (by decide) (by decide) (by decide) (by decide)).trans hal
    have hP : va_P (dC, dI) classes (wX g c v (va_up F 40 (upd (F 40) (v 120 : Int32).toNatClampNeg p0)) rc) H := hP
    generalize (va_up F 40 (upd (F 40) (v 120 : Int32).toNatClampNeg p0)) = F1076 at hP hI hal
    refine lv_aload_n hx hb dX4_add_22 rfl (lv_at hl 0 rfl) ?_
    refine va_get (D := (dC, dI)) (ci := 4) (v := .ref (g 41)) (C := RX4) (T := TX4) (N := 7) hx hb hwd inA_X4 hown hK hP 6 rfl rfl 2 (by decide) (hwd _ wk_109) (fun _ h9 => h9) rfl dX4_add_23 ?_
    refine lv_aload_n hx hb dX4_add_26 rfl (lv_at hl 0 rfl) ?_
    refine va_get (D := (dC, dI)) (ci := 4) (v := .int (v 120)) (C := RX4) (T := TX4) (N := 7) hx hb hwd inA_X4 hown hK hP 6 rfl rfl 0 (by decide) (hwd _ wk_401) (fun _ h9 => h9) rfl dX4_add_27 ?_
    have t1077 : 0 ≤ (v 120).toInt ∧ (v 120).toInt ≤ 10 := hI.1 120 _ _ rfl
    refine lv_iload_n hx hb dX4_add_30 rfl (lv_at hl 2 rfl) ?_
    refine va_iast hx hb hK hP (DX hg) hS 41 29 rfl rfl (i := (v 120)) (x := p1) (vin (a := (v 120).toInt) rfl (by omega)) dX4_add_31 (fun H locs hP _ hS => ?_)
    have hP := va_P_eq (sX_41 g c _ _ _ _) hP
    have hI := IX.store0 hI 41 (v 120 : Int32).toNatClampNeg p1 rfl
    have hal := (alX_F _ _ 41 (upd (F1076 41) (v 120 : Int32).toNatClampNeg p1) (by decide) (by decide) (by decide) (by decide) (by decide)).trans hal
    have hP : va_P (dC, dI) classes (wX g c v (va_up F1076 41 (upd (F1076 41) (v 120 : Int32).toNatClampNeg p1)) rc) H := hP
    generalize (va_up F1076 41 (upd (F1076 41) (v 120 : Int32).toNatClampNeg p1)) = F1078 at hP hI hal
    refine lv_aload_n hx hb dX4_add_32 rfl (lv_at hl 0 rfl) ?_
    refine va_get (D := (dC, dI)) (ci := 4) (v := .ref (g 42)) (C := RX4) (T := TX4) (N := 7) hx hb hwd inA_X4 hown hK hP 6 rfl rfl 3 (by decide) (hwd _ wk_110) (fun _ h9 => h9) rfl dX4_add_33 ?_
    refine lv_aload_n hx hb dX4_add_36 rfl (lv_at hl 0 rfl) ?_
    refine va_get (D := (dC, dI)) (ci := 4) (v := .int (v 120)) (C := RX4) (T := TX4) (N := 7) hx hb hwd inA_X4 hown hK hP 6 rfl rfl 0 (by decide) (hwd _ wk_401) (fun _ h9 => h9) rfl dX4_add_37 ?_
    have t1079 : 0 ≤ (v 120).toInt ∧ (v 120).toInt ≤ 10 := hI.1 120 _ _ rfl
    refine lv_iload_n hx hb dX4_add_40 rfl (lv_at hl 3 rfl) ?_
    refine va_iast hx hb hK hP (DX hg) hS 42 30 rfl rfl (i := (v 120)) (x := p2) (vin (a := (v 120).toInt) rfl (by omega)) dX4_add_41 (fun H locs hP _ hS => ?_)
    have hP := va_P_eq (sX_42 g c _ _ _ _) hP
    have hI := IX.store hI 42 (v 120 : Int32).toNatClampNeg p2 rfl (by omega)
    have hal := (alX_F _ _ 42 (upd (F1078 42) (v 120 : Int32).toNatClampNeg p2) (by decide) (by decide) (by decide) (by decide) (by decide)).trans hal
    have hP : va_P (dC, dI) classes (wX g c v (va_up F1078 42 (upd (F1078 42) (v 120 : Int32).toNatClampNeg p2)) rc) H := hP
    generalize (va_up F1078 42 (upd (F1078 42) (v 120 : Int32).toNatClampNeg p2)) = F1080 at hP hI hal
    refine lv_aload_n hx hb dX4_add_42 rfl (lv_at hl 0 rfl) ?_
    refine lv_dup hx hb dX4_add_43 rfl ?_
    refine va_get (D := (dC, dI)) (ci := 4) (v := .int (v 120)) (C := RX4) (T := TX4) (N := 7) hx hb hwd inA_X4 hown hK hP 6 rfl rfl 0 (by decide) (hwd _ wk_401) (fun _ h9 => h9) rfl dX4_add_44 ?_
    have t1081 : 0 ≤ (v 120).toInt ∧ (v 120).toInt ≤ 10 := hI.1 120 _ _ rfl
    refine lv_dup_x1 hx hb dX4_add_47 rfl rfl ?_
    refine lv_iconst (v := 1) hx hb dX4_add_48 (by decide) ?_
    refine lv_iadd hx hb dX4_add_49 ?_
    refine lv_topi (fun z1082 e1083 => ?_)
    try (have t1084 := tadd e1083 (a := (v 120).toInt) rfl (b := 1) (by decide) (by omega))
    refine va_put (D := (dC, dI)) (ci := 4) (v := .int z1082) (ty := .int) (C := RX4) (T := TX4) (N := 7) (fs := fsX_6 g v rc) hx hb hwd inA_X4 tyX4 tyX4_ok nmX4 hown hK hP (DX hg) hS 6 rfl rfl 0 (by decide) (hwd _ wk_401) (fun _ h9 => h9) rfl (by decide +kernel) rfl rfl (Nat.le_of_ble_eq_true rfl) dX4_add_50 (fun H locs hP _ hS => ?_)
    have hP := va_P_eq (pX_120 g c _ _ _ _) hP
    have hI := IX.put hI 120 z1082 rfl (by omega)
    have hal := (alX_v _ _ 120 z1082 (by decide) (by decide) (by decide) (by decide)).trans hal
    have hP9 : va_P (dC, dI) classes (wX g c (va_up v 120 z1082) F1080 rc) H := hP
    exact W.iret (v := v 120) hx hb hr (fun t ht hW => ⟨⟨(v 120), ((va_up v 120 z1082), F1080, rc), rfl, ⟨hI, hal, rfl, (frU (by decide) (fun _ _ => rfl)), trivial⟩, (by show va_P _ _ _ t.heap; rw [ht]; exact hP9)⟩, hS.F ht⟩) hS.2.2 dX4_add_53
  · skip
    have t1085 := cv_nlt (a := (v 120).toInt) rfl (b := 10) (by decide) c1073
    refine lv_bipush (v := (-3)) hx hb dX4_add_9 (by decide) ?_
    have hP9 : va_P (dC, dI) classes (wX g c v F rc) H := hP
    exact W.iret (v := (-3)) hx hb hr (fun t ht hW => ⟨⟨(-3), (v, F, rc), rfl, ⟨hI, hal, rfl, (fun _ _ => rfl), trivial⟩, (by show va_P _ _ _ t.heap; rw [ht]; exact hP9)⟩, hS.F ht⟩) hS.2.2 dX4_add_11
set_option maxHeartbeats 8000000 in
set_option maxRecDepth 100000 in
theorem c_X4_inForce (l : Launch) (dC : Nat → ClassId) (dI : Nat → Nat → Nat) (g : Nat → Nat) (c : Nat → ClassId) (adK adV : Nat → Nat) (v : Nat → Int32) (F : Nat → Nat → Int32) (rc sz : Nat) (p0 : Int32) (p1 : Int32) (hg : injX g) (hI : IX v F) : Met l yX4_inForce (Cond.code yX4_inForce cX4_inForce 4 (some .int) :: wA) ({ frames := 1, cells := 0, slots := 0, locals := 40 }) (va_Pc [.ref (g 6), .int p0, .int p1] (PX dC dI g c adK adV v F rc sz)) (va_Qi (fun (r : Int32) (u : Unit) => -1 ≤ r.toInt ∧ r.toInt ≤ 9) (fun (_ : Unit) => BX dC dI g c (v, F, rc)) (AX g sz)) 0 0 (AX g sz) := by
  refine Met.ofW (cc := cX4_inForce) (maxL := 4) (ret := (some .int)) (by decide) rfl ?_
  intro p e s m args below meth c0 s₁ B hml hv
  obtain ⟨rfl, hsz, hP, hK, hE⟩ := hv
  have hx := B.exec
  have hb := B.bytes
  have hr := B.returns
  have hts := atoms_spec (ws := Cond.code yX4_inForce cX4_inForce 4 (some .int) :: wA) B.pre
  have hwd : ∀ w ∈ wA, w.before _ s = true := fun w h => hts w (List.mem_cons_of_mem _ h)
  have hown : s.vm.findClass RX4 = some m.cls := findClass_of_methodNamed B.named
  have hlocks := B.notSynchronized
  subst hsz
  have hl := lv_entry ([.ref (g 6), .int p0, .int p1]) (n := 4) (Nat.le_of_ble_eq_true rfl)
  rw [lg_entry_eq]
  generalize (lg_sl ([.ref (g 6), .int p0, .int p1]) ++ List.replicate (4 - (lg_sl ([.ref (g 6), .int p0, .int p1])).length) Slot.unset).toArray = ls at hl ⊢
  have hl : lv_has ls 4 [(0, .ref (g 6)), (1, .int p0), (2, .int p1)] := hl
  obtain ⟨H, eH⟩ : ∃ z, z = s.heap := ⟨_, rfl⟩
  have hP : va_P (dC, dI) classes (wX g c v F rc) H := by rw [eH]; exact hP
  have hS : va_S (AX g s.heap.size) s.heap H [] := by rw [eH]; exact va_S.rf
  refine my_heap eH ?_
  have rp0 := i32_rng p0
  have rp1 := i32_rng p1
  refine lv_aload_n hx hb dX4_inForce_0 rfl (lv_at hl 0 rfl) ?_
  refine va_get (D := (dC, dI)) (ci := 4) (v := .int (v 120)) (C := RX4) (T := TX4) (N := 7) hx hb hwd inA_X4 hown hK hP 6 rfl rfl 0 (by decide) (hwd _ wk_401) (fun _ h9 => h9) rfl dX4_inForce_1 ?_
  have t1086 : 0 ≤ (v 120).toInt ∧ (v 120).toInt ≤ 10 := hI.1 120 _ _ rfl
  refine lv_iconst (v := 1) hx hb dX4_inForce_4 (by decide) ?_
  refine lv_isub hx hb dX4_inForce_5 ?_
  refine lv_topi (fun z1087 e1088 => ?_)
  try (have t1089 := tsub e1088 (a := (v 120).toInt) rfl (b := 1) (by decide) (by omega))
  refine lv_istore_n (lv' := [(3, .int z1087), (0, .ref (g 6)), (1, .int p0), (2, .int p1)]) hx hb dX4_inForce_6 rfl hl (by decide) rfl (fun ls hl => ?_)
  have lp1090 : ∀ (n : Nat) (x3_lp1090 : Int32) (H : Heap) (locs : List Loc) (ls : Array Slot), (-1 ≤ x3_lp1090.toInt) → (x3_lp1090.toInt ≤ 9) → (x3_lp1090.toInt + 2 ≤ (n : Int)) → va_P (dC, dI) classes (wX g c v F rc) H → va_S (AX g s.heap.size) s.heap H locs → lv_has ls 4 [(3, .int x3_lp1090), (0, .ref (g 6)), (1, .int p0), (2, .int p1)] → W p l e (headSpec (Cond.code yX4_inForce cX4_inForce 4 (some .int) :: wA) ({ frames := 1, cells := 0, slots := 0, locals := 40 })).room s m ([.ref (g 6), .int p0, .int p1] : List Value).toArray below meth c0 H locs 0 0 (MQ below (va_Qi (fun (r : Int32) (u : Unit) => -1 ≤ r.toInt ∧ r.toInt ≤ 9) (fun (_ : Unit) => BX dC dI g c (v, F, rc)) (AX g s.heap.size)) ([.ref (g 6), .int p0, .int p1] : List Value).toArray s 0 0 (AX g s.heap.size)) (F0 m 7 ls []) := by
    intro n
    induction n with
    | zero =>
      intro x3_lp1090 H locs ls t1091 t1092 hm hP hS hl
      exfalso
      have := i32_rng x3_lp1090
      omega
    | succ n ih_lp1090 =>
      intro x3_lp1090 H locs ls t1091 t1092 hm hP hS hl
      have rx3_lp1090 := i32_rng x3_lp1090
      refine lv_iload_n hx hb dX4_inForce_7 rfl (lv_at hl 0 rfl) ?_
      refine lv_if_lt (tgt := 39) hx hb dX4_inForce_8 (by decide) (fun c1093 => ?_) (fun c1093 => ?_)
      · skip
        have t1094 := cv_lt (a := x3_lp1090.toInt) rfl (b := 0) (by decide) c1093
        refine lv_iconst (v := (-1)) hx hb dX4_inForce_39 (by decide) ?_
        have hP9 : va_P (dC, dI) classes (wX g c v F rc) H := hP
        exact W.iret (v := (-1)) hx hb hr (fun t ht hW => ⟨⟨(-1), (), rfl, by have : ((-1) : Int32).toInt = (-1) := (by decide); omega, (by show va_P _ _ _ t.heap; rw [ht]; exact hP9)⟩, hS.F ht⟩) hS.2.2 dX4_inForce_40
      · skip
        have t1095 := cv_nlt (a := x3_lp1090.toInt) rfl (b := 0) (by decide) c1093
        refine lv_aload_n hx hb dX4_inForce_11 rfl (lv_at hl 1 rfl) ?_
        refine va_get (D := (dC, dI)) (ci := 4) (v := .ref (g 40)) (C := RX4) (T := TX4) (N := 7) hx hb hwd inA_X4 hown hK hP 6 rfl rfl 1 (by decide) (hwd _ wk_108) (fun _ h9 => h9) rfl dX4_inForce_12 ?_
        refine lv_iload_n hx hb dX4_inForce_15 rfl (lv_at hl 0 rfl) ?_
        refine va_iald hx hb hK hP 40 28 rfl rfl (i := x3_lp1090) (vin (a := x3_lp1090.toInt) rfl (by omega)) dX4_inForce_16 ?_
        refine lv_topi (fun z1096 e1097 => ?_)
        refine lv_iload_n hx hb dX4_inForce_17 rfl (lv_at hl 3 rfl) ?_
        refine lv_icmp_gt (tgt := 33) hx hb dX4_inForce_18 (by decide) (fun c1098 => ?_) (fun c1098 => ?_)
        · skip
          have t1099 := cv_lt (a := p1.toInt) rfl (b := z1096.toInt) rfl c1098
          obtain ⟨z1100, e1101⟩ : ∃ y : Int32, y = x3_lp1090 + (-1) := ⟨_, rfl⟩
          try (have t1102 := tadd e1101 rfl (b := (-1)) (by decide) (by omega))
          refine lv_iinc (v := z1100) (lv' := [(3, .int z1100), (0, .ref (g 6)), (1, .int p0), (2, .int p1)]) hx hb dX4_inForce_33 hl (k := 0) rfl (by rw [e1101]; rfl) (by decide) rfl (fun ls hl => ?_)
          refine lv_goto (tgt := 7) hx hb dX4_inForce_36 (by decide) ?_
          exact ih_lp1090 z1100  _ _ _ (by omega) (by omega) (by omega) hP hS (lv_sub hl [0, 1, 2, 3] rfl)
        · skip
          have t1103 := cv_nlt (a := p1.toInt) rfl (b := z1096.toInt) rfl c1098
          refine lv_aload_n hx hb dX4_inForce_21 rfl (lv_at hl 1 rfl) ?_
          refine va_get (D := (dC, dI)) (ci := 4) (v := .ref (g 41)) (C := RX4) (T := TX4) (N := 7) hx hb hwd inA_X4 hown hK hP 6 rfl rfl 2 (by decide) (hwd _ wk_109) (fun _ h9 => h9) rfl dX4_inForce_22 ?_
          refine lv_iload_n hx hb dX4_inForce_25 rfl (lv_at hl 0 rfl) ?_
          refine va_iald hx hb hK hP 41 29 rfl rfl (i := x3_lp1090) (vin (a := x3_lp1090.toInt) rfl (by omega)) dX4_inForce_26 ?_
          refine lv_topi (fun z1104 e1105 => ?_)
          refine lv_iload_n hx hb dX4_inForce_27 rfl (lv_at hl 2 rfl) ?_
          refine lv_icmp_gt (tgt := 33) hx hb dX4_inForce_28 (by decide) (fun c1106 => ?_) (fun c1106 => ?_)
          · skip
            have t1107 := cv_lt (a := p0.toInt) rfl (b := z1104.toInt) rfl c1106
            obtain ⟨z1108, e1109⟩ : ∃ y : Int32, y = x3_lp1090 + (-1) := ⟨_, rfl⟩
            try (have t1110 := tadd e1109 rfl (b := (-1)) (by decide) (by omega))
            refine lv_iinc (v := z1108) (lv' := [(3, .int z1108), (0, .ref (g 6)), (1, .int p0), (2, .int p1)]) hx hb dX4_inForce_33 hl (k := 0) rfl (by rw [e1109]; rfl) (by decide) rfl (fun ls hl => ?_)
            refine lv_goto (tgt := 7) hx hb dX4_inForce_36 (by decide) ?_
            exact ih_lp1090 z1108  _ _ _ (by omega) (by omega) (by omega) hP hS (lv_sub hl [0, 1, 2, 3] rfl)
          · skip
            have t1111 := cv_nlt (a := p0.toInt) rfl (b := z1104.toInt) rfl c1106
            refine lv_iload_n hx hb dX4_inForce_31 rfl (lv_at hl 0 rfl) ?_
            have hP9 : va_P (dC, dI) classes (wX g c v F rc) H := hP
            exact W.iret (v := x3_lp1090) hx hb hr (fun t ht hW => ⟨⟨x3_lp1090, (), rfl, by omega, (by show va_P _ _ _ t.heap; rw [ht]; exact hP9)⟩, hS.F ht⟩) hS.2.2 dX4_inForce_32
  obtain ⟨n9, hn9⟩ : ∃ n : Nat, z1087.toInt + 2 ≤ (n : Int) := ⟨((z1087.toInt + 2 : Int)).toNat, by omega⟩
  exact lp1090 n9 z1087  H _ ls (by omega) (by omega) (by omega) hP hS hl
