set_option maxHeartbeats 8000000 in
set_option maxRecDepth 100000 in
theorem c_X4_push (l : Launch) (dC : Nat → ClassId) (dI : Nat → Nat → Nat) (g : Nat → Nat) (c : Nat → ClassId) (adK adV : Nat → Nat) (v : Nat → Int32) (F : Nat → Nat → Int32) (rc sz : Nat) (p0 : Int32) (hg : injX g) (hI : IX v F) : Met l yX4_push (Cond.code yX4_push cX4_push 2 none :: wA) ({ frames := 1, cells := 0, slots := 0, locals := 40 }) (va_Pc [.ref (g 6), .int p0] (PX dC dI g c adK adV v F rc sz)) (va_Qv (fun (u : StX) => IX u.1 u.2.1 ∧ alX u.1 u.2.1 = alX v F ∧ u.2.2 = rc ∧ (∀ k, k ∉ ([126] : List Nat) → u.1 k = v k) ∧ True) (BX dC dI g c) (AX g sz)) 0 0 (AX g sz) := by
  refine Met.ofW (cc := cX4_push) (maxL := 2) (ret := none) (by decide) rfl ?_
  intro p e s m args below meth c0 s₁ B hml hv
  obtain ⟨rfl, hsz, hP, hK, hE⟩ := hv
  have hx := B.exec
  have hb := B.bytes
  have hr := B.returns
  have hts := atoms_spec (ws := Cond.code yX4_push cX4_push 2 none :: wA) B.pre
  have hwd : ∀ w ∈ wA, w.before _ s = true := fun w h => hts w (List.mem_cons_of_mem _ h)
  have hown : s.vm.findClass RX4 = some m.cls := findClass_of_methodNamed B.named
  have hlocks := B.notSynchronized
  subst hsz
  have hl := lv_entry ([.ref (g 6), .int p0]) (n := 2) (Nat.le_of_ble_eq_true rfl)
  rw [lg_entry_eq]
  generalize (lg_sl ([.ref (g 6), .int p0]) ++ List.replicate (2 - (lg_sl ([.ref (g 6), .int p0])).length) Slot.unset).toArray = ls at hl ⊢
  have hl : lv_has ls 2 [(0, .ref (g 6)), (1, .int p0)] := hl
  obtain ⟨H, eH⟩ : ∃ z, z = s.heap := ⟨_, rfl⟩
  have hP : va_P (dC, dI) classes (wX g c v F rc) H := by rw [eH]; exact hP
  have hS : va_S (AX g s.heap.size) s.heap H [] := by rw [eH]; exact va_S.rf
  refine my_heap eH ?_
  have hal : alX v F = alX v F := rfl
  have rp0 := i32_rng p0
  refine lv_aload_n hx hb dX4_push_0 rfl (lv_at hl 0 rfl) ?_
  refine va_get (D := (dC, dI)) (ci := 4) (v := .int (v 126)) (C := RX4) (T := TX4) (N := 7) hx hb hwd inA_X4 hown hK hP 6 rfl rfl 6 (by decide) (hwd _ wk_411) (fun _ h9 => h9) rfl dX4_push_1 ?_
  have t1139 : 0 ≤ (v 126).toInt ∧ (v 126).toInt ≤ 120 := hI.1 126 _ _ rfl
  refine lv_aload_n hx hb dX4_push_4 rfl (lv_at hl 0 rfl) ?_
  refine va_get (D := (dC, dI)) (ci := 4) (v := .ref (g 54)) (C := RX4) (T := TX4) (N := 7) hx hb hwd inA_X4 hown hK hP 6 rfl rfl 5 (by decide) (hwd _ wk_113) (fun _ h9 => h9) rfl dX4_push_5 ?_
  refine va_alen (v := 120) hx hb hK hP 54 42 rfl rfl rfl dX4_push_8 ?_
  refine lv_icmp_ge (tgt := 32) hx hb dX4_push_9 (by decide) (fun c1140 => ?_) (fun c1140 => ?_)
  · skip
    have t1141 := cv_le (a := 120) (by decide) (b := (v 126).toInt) rfl c1140
    have hP9 : va_P (dC, dI) classes (wX g c v F rc) H := hP
    exact W.vret hx hb hr (fun t ht hW => ⟨⟨(v, F, rc), rfl, ⟨hI, hal, rfl, (fun _ _ => rfl), trivial⟩, (by show va_P _ _ _ t.heap; rw [ht]; exact hP9)⟩, hS.F ht⟩) hS.2.2 dX4_push_32
  · skip
    have t1142 := cv_nle (a := 120) (by decide) (b := (v 126).toInt) rfl c1140
    refine lv_aload_n hx hb dX4_push_12 rfl (lv_at hl 0 rfl) ?_
    refine va_get (D := (dC, dI)) (ci := 4) (v := .ref (g 54)) (C := RX4) (T := TX4) (N := 7) hx hb hwd inA_X4 hown hK hP 6 rfl rfl 5 (by decide) (hwd _ wk_113) (fun _ h9 => h9) rfl dX4_push_13 ?_
    refine lv_aload_n hx hb dX4_push_16 rfl (lv_at hl 0 rfl) ?_
    refine va_get (D := (dC, dI)) (ci := 4) (v := .int (v 126)) (C := RX4) (T := TX4) (N := 7) hx hb hwd inA_X4 hown hK hP 6 rfl rfl 6 (by decide) (hwd _ wk_411) (fun _ h9 => h9) rfl dX4_push_17 ?_
    have t1143 : 0 ≤ (v 126).toInt ∧ (v 126).toInt ≤ 120 := hI.1 126 _ _ rfl
    refine lv_iload_n hx hb dX4_push_20 rfl (lv_at hl 1 rfl) ?_
    refine va_iast hx hb hK hP (DX hg) hS 54 42 rfl rfl (i := (v 126)) (x := p0) (vin (a := (v 126).toInt) rfl (by omega)) dX4_push_21 (fun H locs hP _ hS => ?_)
    have hP := va_P_eq (sX_54 g c _ _ _ _) hP
    have hI := IX.store0 hI 54 (v 126 : Int32).toNatClampNeg p0 rfl
    have hal := (alX_F _ _ 54 (upd (F 54) (v 126 : Int32).toNatClampNeg p0) (by decide) (by decide)).trans hal
    have hP : va_P (dC, dI) classes (wX g c v (va_up F 54 (upd (F 54) (v 126 : Int32).toNatClampNeg p0)) rc) H := hP
    generalize (va_up F 54 (upd (F 54) (v 126 : Int32).toNatClampNeg p0)) = F1144 at hP hI hal
    refine lv_aload_n hx hb dX4_push_22 rfl (lv_at hl 0 rfl) ?_
    refine lv_dup hx hb dX4_push_23 rfl ?_
    refine va_get (D := (dC, dI)) (ci := 4) (v := .int (v 126)) (C := RX4) (T := TX4) (N := 7) hx hb hwd inA_X4 hown hK hP 6 rfl rfl 6 (by decide) (hwd _ wk_411) (fun _ h9 => h9) rfl dX4_push_24 ?_
    have t1145 : 0 ≤ (v 126).toInt ∧ (v 126).toInt ≤ 120 := hI.1 126 _ _ rfl
    refine lv_iconst (v := 1) hx hb dX4_push_27 (by decide) ?_
    refine lv_iadd hx hb dX4_push_28 ?_
    refine lv_topi (fun z1146 e1147 => ?_)
    try (have t1148 := tadd e1147 (a := (v 126).toInt) rfl (b := 1) (by decide) (by omega))
    refine va_put (D := (dC, dI)) (ci := 4) (v := .int z1146) (ty := .int) (C := RX4) (T := TX4) (N := 7) (fs := fsX_6 g v rc) hx hb hwd inA_X4 tyX4 tyX4_ok nmX4 hown hK hP (DX hg) hS 6 rfl rfl 6 (by decide) (hwd _ wk_411) (fun _ h9 => h9) rfl (by decide +kernel) rfl rfl (Nat.le_of_ble_eq_true rfl) dX4_push_29 (fun H locs hP _ hS => ?_)
    have hP := va_P_eq (pX_126 g c _ _ _ _) hP
    have hI := IX.put hI 126 z1146 rfl (by omega)
    have hal := (alX_v _ _ 126 z1146 (by decide) (by decide) (by decide) (by decide)).trans hal
    have hP9 : va_P (dC, dI) classes (wX g c (va_up v 126 z1146) F1144 rc) H := hP
    exact W.vret hx hb hr (fun t ht hW => ⟨⟨((va_up v 126 z1146), F1144, rc), rfl, ⟨hI, hal, rfl, (frU (by decide) (fun _ _ => rfl)), trivial⟩, (by show va_P _ _ _ t.heap; rw [ht]; exact hP9)⟩, hS.F ht⟩) hS.2.2 dX4_push_32
set_option maxHeartbeats 8000000 in
set_option maxRecDepth 100000 in
theorem c_X4_pop (l : Launch) (dC : Nat → ClassId) (dI : Nat → Nat → Nat) (g : Nat → Nat) (c : Nat → ClassId) (adK adV : Nat → Nat) (v : Nat → Int32) (F : Nat → Nat → Int32) (rc sz : Nat) (hg : injX g) (hI : IX v F) : Met l yX4_pop (Cond.code yX4_pop cX4_pop 1 (some .int) :: wA) ({ frames := 1, cells := 0, slots := 0, locals := 40 }) (va_Pc [.ref (g 6)] (PX dC dI g c adK adV v F rc sz)) (va_Qi (fun (r : Int32) (u : StX) => IX u.1 u.2.1 ∧ alX u.1 u.2.1 = alX v F ∧ u.2.2 = rc ∧ (∀ k, k ∉ ([126] : List Nat) → u.1 k = v k) ∧ True) (BX dC dI g c) (AX g sz)) 0 0 (AX g sz) := by
  refine Met.ofW (cc := cX4_pop) (maxL := 1) (ret := (some .int)) (by decide) rfl ?_
  intro p e s m args below meth c0 s₁ B hml hv
  obtain ⟨rfl, hsz, hP, hK, hE⟩ := hv
  have hx := B.exec
  have hb := B.bytes
  have hr := B.returns
  have hts := atoms_spec (ws := Cond.code yX4_pop cX4_pop 1 (some .int) :: wA) B.pre
  have hwd : ∀ w ∈ wA, w.before _ s = true := fun w h => hts w (List.mem_cons_of_mem _ h)
  have hown : s.vm.findClass RX4 = some m.cls := findClass_of_methodNamed B.named
  have hlocks := B.notSynchronized
  subst hsz
  have hl := lv_entry ([.ref (g 6)]) (n := 1) (Nat.le_of_ble_eq_true rfl)
  rw [lg_entry_eq]
  generalize (lg_sl ([.ref (g 6)]) ++ List.replicate (1 - (lg_sl ([.ref (g 6)])).length) Slot.unset).toArray = ls at hl ⊢
  have hl : lv_has ls 1 [(0, .ref (g 6))] := hl
  obtain ⟨H, eH⟩ : ∃ z, z = s.heap := ⟨_, rfl⟩
  have hP : va_P (dC, dI) classes (wX g c v F rc) H := by rw [eH]; exact hP
  have hS : va_S (AX g s.heap.size) s.heap H [] := by rw [eH]; exact va_S.rf
  refine my_heap eH ?_
  have hal : alX v F = alX v F := rfl
  refine lv_aload_n hx hb dX4_pop_0 rfl (lv_at hl 0 rfl) ?_
  refine va_get (D := (dC, dI)) (ci := 4) (v := .int (v 126)) (C := RX4) (T := TX4) (N := 7) hx hb hwd inA_X4 hown hK hP 6 rfl rfl 6 (by decide) (hwd _ wk_411) (fun _ h9 => h9) rfl dX4_pop_1 ?_
  have t1149 : 0 ≤ (v 126).toInt ∧ (v 126).toInt ≤ 120 := hI.1 126 _ _ rfl
  refine lv_if_gt (tgt := 9) hx hb dX4_pop_4 (by decide) (fun c1150 => ?_) (fun c1150 => ?_)
  · skip
    have t1151 := cv_lt (a := 0) (by decide) (b := (v 126).toInt) rfl c1150
    refine lv_aload_n hx hb dX4_pop_9 rfl (lv_at hl 0 rfl) ?_
    refine lv_dup hx hb dX4_pop_10 rfl ?_
    refine va_get (D := (dC, dI)) (ci := 4) (v := .int (v 126)) (C := RX4) (T := TX4) (N := 7) hx hb hwd inA_X4 hown hK hP 6 rfl rfl 6 (by decide) (hwd _ wk_411) (fun _ h9 => h9) rfl dX4_pop_11 ?_
    have t1152 : 0 ≤ (v 126).toInt ∧ (v 126).toInt ≤ 120 := hI.1 126 _ _ rfl
    refine lv_iconst (v := 1) hx hb dX4_pop_14 (by decide) ?_
    refine lv_isub hx hb dX4_pop_15 ?_
    refine lv_topi (fun z1153 e1154 => ?_)
    try (have t1155 := tsub e1154 (a := (v 126).toInt) rfl (b := 1) (by decide) (by omega))
    refine va_put (D := (dC, dI)) (ci := 4) (v := .int z1153) (ty := .int) (C := RX4) (T := TX4) (N := 7) (fs := fsX_6 g v rc) hx hb hwd inA_X4 tyX4 tyX4_ok nmX4 hown hK hP (DX hg) hS 6 rfl rfl 6 (by decide) (hwd _ wk_411) (fun _ h9 => h9) rfl (by decide +kernel) rfl rfl (Nat.le_of_ble_eq_true rfl) dX4_pop_16 (fun H locs hP _ hS => ?_)
    have hP := va_P_eq (pX_126 g c _ _ _ _) hP
    have hI := IX.put hI 126 z1153 rfl (by omega)
    have hal := (alX_v _ _ 126 z1153 (by decide) (by decide) (by decide) (by decide)).trans hal
    refine lv_aload_n hx hb dX4_pop_19 rfl (lv_at hl 0 rfl) ?_
    refine va_get (D := (dC, dI)) (ci := 4) (v := .ref (g 54)) (C := RX4) (T := TX4) (N := 7) hx hb hwd inA_X4 hown hK hP 6 rfl rfl 5 (by decide) (hwd _ wk_113) (fun _ h9 => h9) rfl dX4_pop_20 ?_
    refine lv_aload_n hx hb dX4_pop_23 rfl (lv_at hl 0 rfl) ?_
    refine va_get (D := (dC, dI)) (ci := 4) (v := .int z1153) (C := RX4) (T := TX4) (N := 7) hx hb hwd inA_X4 hown hK hP 6 rfl rfl 6 (by decide) (hwd _ wk_411) (fun _ h9 => h9) rfl dX4_pop_24 ?_
    have t1156 : 0 ≤ z1153.toInt ∧ z1153.toInt ≤ 120 := hI.1 126 _ _ rfl
    refine va_iald hx hb hK hP 54 42 rfl rfl (i := z1153) (vin (a := z1153.toInt) rfl (by omega)) dX4_pop_27 ?_
    refine lv_topi (fun z1157 e1158 => ?_)
    have hP9 : va_P (dC, dI) classes (wX g c (va_up v 126 z1153) F rc) H := hP
    exact W.iret (v := z1157) hx hb hr (fun t ht hW => ⟨⟨z1157, ((va_up v 126 z1153), F, rc), rfl, ⟨hI, hal, rfl, (frU (by decide) (fun _ _ => rfl)), trivial⟩, (by show va_P _ _ _ t.heap; rw [ht]; exact hP9)⟩, hS.F ht⟩) hS.2.2 dX4_pop_28
  · skip
    have t1159 := cv_nlt (a := 0) (by decide) (b := (v 126).toInt) rfl c1150
    refine lv_iconst (v := 0) hx hb dX4_pop_7 (by decide) ?_
    have hP9 : va_P (dC, dI) classes (wX g c v F rc) H := hP
    exact W.iret (v := 0) hx hb hr (fun t ht hW => ⟨⟨0, (v, F, rc), rfl, ⟨hI, hal, rfl, (fun _ _ => rfl), trivial⟩, (by show va_P _ _ _ t.heap; rw [ht]; exact hP9)⟩, hS.F ht⟩) hS.2.2 dX4_pop_8
set_option maxHeartbeats 8000000 in
set_option maxRecDepth 100000 in
theorem c_X4_add (l : Launch) (dC : Nat → ClassId) (dI : Nat → Nat → Nat) (g : Nat → Nat) (c : Nat → ClassId) (adK adV : Nat → Nat) (v : Nat → Int32) (F : Nat → Nat → Int32) (rc sz : Nat) (p0 : Int32) (p1 : Int32) (p2 : Int32) (hg : injX g) (hI : IX v F) (h2 : 0 ≤ p2.toInt ∧ p2.toInt ≤ 120) : Met l yX4_add (Cond.code yX4_add cX4_add 4 (some .int) :: wA) ({ frames := 1, cells := 0, slots := 0, locals := 40 }) (va_Pc [.ref (g 6), .int p0, .int p1, .int p2] (PX dC dI g c adK adV v F rc sz)) (va_Qi (fun (r : Int32) (u : StX) => IX u.1 u.2.1 ∧ alX u.1 u.2.1 = alX v F ∧ u.2.2 = rc ∧ (∀ k, k ∉ ([120] : List Nat) → u.1 k = v k) ∧ True) (BX dC dI g c) (AX g sz)) 0 0 (AX g sz) := by
  refine Met.ofW (cc := cX4_add) (maxL := 4) (ret := (some .int)) (by decide) rfl ?_
  intro p e s m args below meth c0 s₁ B hml hv
  obtain ⟨rfl, hsz, hP, hK, hE⟩ := hv
  have hx := B.exec
  have hb := B.bytes
  have hr := B.returns
  have hts := atoms_spec (ws := Cond.code yX4_add cX4_add 4 (some .int) :: wA) B.pre
  have hwd : ∀ w ∈ wA, w.before _ s = true := fun w h => hts w (List.mem_cons_of_mem _ h)
  have hown : s.vm.findClass RX4 = some m.cls := findClass_of_methodNamed B.named
  have hlocks := B.notSynchronized
  subst hsz
  have hl := lv_entry ([.ref (g 6), .int p0, .int p1, .int p2]) (n := 4) (Nat.le_of_ble_eq_true rfl)
  rw [lg_entry_eq]
  generalize (lg_sl ([.ref (g 6), .int p0, .int p1, .int p2]) ++ List.replicate (4 - (lg_sl ([.ref (g 6), .int p0, .int p1, .int p2])).length) Slot.unset).toArray = ls at hl ⊢
  have hl : lv_has ls 4 [(0, .ref (g 6)), (1, .int p0), (2, .int p1), (3, .int p2)] := hl
  obtain ⟨H, eH⟩ : ∃ z, z = s.heap := ⟨_, rfl⟩
  have hP : va_P (dC, dI) classes (wX g c v F rc) H := by rw [eH]; exact hP
  have hS : va_S (AX g s.heap.size) s.heap H [] := by rw [eH]; exact va_S.rf
  refine my_heap eH ?_
  have hal : alX v F = alX v F := rfl
  have rp0 := i32_rng p0
  have rp1 := i32_rng p1
  have rp2 := i32_rng p2
  refine lv_aload_n hx hb dX4_add_0 rfl (lv_at hl 0 rfl) ?_
  refine va_get (D := (dC, dI)) (ci := 4) (v := .int (v 120)) (C := RX4) (T := TX4) (N := 7) hx hb hwd inA_X4 hown hK hP 6 rfl rfl 0 (by decide) (hwd _ wk_401) (fun _ h9 => h9) rfl dX4_add_1 ?_
  have t1160 : 0 ≤ (v 120).toInt ∧ (v 120).toInt ≤ 10 := hI.1 120 _ _ rfl
  refine lv_bipush (v := 10) hx hb dX4_add_4 (by decide) ?_
  refine lv_icmp_lt (tgt := 12) hx hb dX4_add_6 (by decide) (fun c1161 => ?_) (fun c1161 => ?_)
  · skip
    have t1162 := cv_lt (a := (v 120).toInt) rfl (b := 10) (by decide) c1161
    refine lv_aload_n hx hb dX4_add_12 rfl (lv_at hl 0 rfl) ?_
    refine va_get (D := (dC, dI)) (ci := 4) (v := .ref (g 40)) (C := RX4) (T := TX4) (N := 7) hx hb hwd inA_X4 hown hK hP 6 rfl rfl 1 (by decide) (hwd _ wk_108) (fun _ h9 => h9) rfl dX4_add_13 ?_
    refine lv_aload_n hx hb dX4_add_16 rfl (lv_at hl 0 rfl) ?_
    refine va_get (D := (dC, dI)) (ci := 4) (v := .int (v 120)) (C := RX4) (T := TX4) (N := 7) hx hb hwd inA_X4 hown hK hP 6 rfl rfl 0 (by decide) (hwd _ wk_401) (fun _ h9 => h9) rfl dX4_add_17 ?_
    have t1163 : 0 ≤ (v 120).toInt ∧ (v 120).toInt ≤ 10 := hI.1 120 _ _ rfl
    refine lv_iload_n hx hb dX4_add_20 rfl (lv_at hl 1 rfl) ?_
    refine va_iast hx hb hK hP (DX hg) hS 40 28 rfl rfl (i := (v 120)) (x := p0) (vin (a := (v 120).toInt) rfl (by omega)) dX4_add_21 (fun H locs hP _ hS => ?_)
    have hP := va_P_eq (sX_40 g c _ _ _ _) hP
    have hI := IX.store0 hI 40 (v 120 : Int32).toNatClampNeg p0 rfl
    have hal := (alX_F _ _ 40 (upd (F 40) (v 120 : Int32).toNatClampNeg p0) (by decide) (by decide)).trans hal
    have hP : va_P (dC, dI) classes (wX g c v (va_up F 40 (upd (F 40) (v 120 : Int32).toNatClampNeg p0)) rc) H := hP
    generalize (va_up F 40 (upd (F 40) (v 120 : Int32).toNatClampNeg p0)) = F1164 at hP hI hal
    refine lv_aload_n hx hb dX4_add_22 rfl (lv_at hl 0 rfl) ?_
    refine va_get (D := (dC, dI)) (ci := 4) (v := .ref (g 41)) (C := RX4) (T := TX4) (N := 7) hx hb hwd inA_X4 hown hK hP 6 rfl rfl 2 (by decide) (hwd _ wk_109) (fun _ h9 => h9) rfl dX4_add_23 ?_
    refine lv_aload_n hx hb dX4_add_26 rfl (lv_at hl 0 rfl) ?_
    refine va_get (D := (dC, dI)) (ci := 4) (v := .int (v 120)) (C := RX4) (T := TX4) (N := 7) hx hb hwd inA_X4 hown hK hP 6 rfl rfl 0 (by decide) (hwd _ wk_401) (fun _ h9 => h9) rfl dX4_add_27 ?_
    have t1165 : 0 ≤ (v 120).toInt ∧ (v 120).toInt ≤ 10 := hI.1 120 _ _ rfl
    refine lv_iload_n hx hb dX4_add_30 rfl (lv_at hl 2 rfl) ?_
    refine va_iast hx hb hK hP (DX hg) hS 41 29 rfl rfl (i := (v 120)) (x := p1) (vin (a := (v 120).toInt) rfl (by omega)) dX4_add_31 (fun H locs hP _ hS => ?_)
    have hP := va_P_eq (sX_41 g c _ _ _ _) hP
    have hI := IX.store0 hI 41 (v 120 : Int32).toNatClampNeg p1 rfl
    have hal := (alX_F _ _ 41 (upd (F1164 41) (v 120 : Int32).toNatClampNeg p1) (by decide) (by decide)).trans hal
    have hP : va_P (dC, dI) classes (wX g c v (va_up F1164 41 (upd (F1164 41) (v 120 : Int32).toNatClampNeg p1)) rc) H := hP
    generalize (va_up F1164 41 (upd (F1164 41) (v 120 : Int32).toNatClampNeg p1)) = F1166 at hP hI hal
    refine lv_aload_n hx hb dX4_add_32 rfl (lv_at hl 0 rfl) ?_
    refine va_get (D := (dC, dI)) (ci := 4) (v := .ref (g 42)) (C := RX4) (T := TX4) (N := 7) hx hb hwd inA_X4 hown hK hP 6 rfl rfl 3 (by decide) (hwd _ wk_110) (fun _ h9 => h9) rfl dX4_add_33 ?_
    refine lv_aload_n hx hb dX4_add_36 rfl (lv_at hl 0 rfl) ?_
    refine va_get (D := (dC, dI)) (ci := 4) (v := .int (v 120)) (C := RX4) (T := TX4) (N := 7) hx hb hwd inA_X4 hown hK hP 6 rfl rfl 0 (by decide) (hwd _ wk_401) (fun _ h9 => h9) rfl dX4_add_37 ?_
    have t1167 : 0 ≤ (v 120).toInt ∧ (v 120).toInt ≤ 10 := hI.1 120 _ _ rfl
    refine lv_iload_n hx hb dX4_add_40 rfl (lv_at hl 3 rfl) ?_
    refine va_iast hx hb hK hP (DX hg) hS 42 30 rfl rfl (i := (v 120)) (x := p2) (vin (a := (v 120).toInt) rfl (by omega)) dX4_add_41 (fun H locs hP _ hS => ?_)
    have hP := va_P_eq (sX_42 g c _ _ _ _) hP
    have hI := IX.store hI 42 (v 120 : Int32).toNatClampNeg p2 rfl (by omega)
    have hal := (alX_F _ _ 42 (upd (F1166 42) (v 120 : Int32).toNatClampNeg p2) (by decide) (by decide)).trans hal
    have hP : va_P (dC, dI) classes (wX g c v (va_up F1166 42 (upd (F1166 42) (v 120 : Int32).toNatClampNeg p2)) rc) H := hP
    generalize (va_up F1166 42 (upd (F1166 42) (v 120 : Int32).toNatClampNeg p2)) = F1168 at hP hI hal
    refine lv_aload_n hx hb dX4_add_42 rfl (lv_at hl 0 rfl) ?_
    refine lv_dup hx hb dX4_add_43 rfl ?_
    refine va_get (D := (dC, dI)) (ci := 4) (v := .int (v 120)) (C := RX4) (T := TX4) (N := 7) hx hb hwd inA_X4 hown hK hP 6 rfl rfl 0 (by decide) (hwd _ wk_401) (fun _ h9 => h9) rfl dX4_add_44 ?_
    have t1169 : 0 ≤ (v 120).toInt ∧ (v 120).toInt ≤ 10 := hI.1 120 _ _ rfl
    refine lv_dup_x1 hx hb dX4_add_47 rfl rfl ?_
    refine lv_iconst (v := 1) hx hb dX4_add_48 (by decide) ?_
    refine lv_iadd hx hb dX4_add_49 ?_
    refine lv_topi (fun z1170 e1171 => ?_)
    try (have t1172 := tadd e1171 (a := (v 120).toInt) rfl (b := 1) (by decide) (by omega))
    refine va_put (D := (dC, dI)) (ci := 4) (v := .int z1170) (ty := .int) (C := RX4) (T := TX4) (N := 7) (fs := fsX_6 g v rc) hx hb hwd inA_X4 tyX4 tyX4_ok nmX4 hown hK hP (DX hg) hS 6 rfl rfl 0 (by decide) (hwd _ wk_401) (fun _ h9 => h9) rfl (by decide +kernel) rfl rfl (Nat.le_of_ble_eq_true rfl) dX4_add_50 (fun H locs hP _ hS => ?_)
    have hP := va_P_eq (pX_120 g c _ _ _ _) hP
    have hI := IX.put hI 120 z1170 rfl (by omega)
    have hal := (alX_v _ _ 120 z1170 (by decide) (by decide) (by decide) (by decide)).trans hal
    have hP9 : va_P (dC, dI) classes (wX g c (va_up v 120 z1170) F1168 rc) H := hP
    exact W.iret (v := v 120) hx hb hr (fun t ht hW => ⟨⟨(v 120), ((va_up v 120 z1170), F1168, rc), rfl, ⟨hI, hal, rfl, (frU (by decide) (fun _ _ => rfl)), trivial⟩, (by show va_P _ _ _ t.heap; rw [ht]; exact hP9)⟩, hS.F ht⟩) hS.2.2 dX4_add_53
  · skip
    have t1173 := cv_nlt (a := (v 120).toInt) rfl (b := 10) (by decide) c1161
    refine lv_bipush (v := (-3)) hx hb dX4_add_9 (by decide) ?_
    have hP9 : va_P (dC, dI) classes (wX g c v F rc) H := hP
    exact W.iret (v := (-3)) hx hb hr (fun t ht hW => ⟨⟨(-3), (v, F, rc), rfl, ⟨hI, hal, rfl, (fun _ _ => rfl), trivial⟩, (by show va_P _ _ _ t.heap; rw [ht]; exact hP9)⟩, hS.F ht⟩) hS.2.2 dX4_add_11
set_option maxHeartbeats 8000000 in
set_option maxRecDepth 100000 in
theorem c_X4_inForce (l : Launch) (dC : Nat → ClassId) (dI : Nat → Nat → Nat) (g : Nat → Nat) (c : Nat → ClassId) (adK adV : Nat → Nat) (v : Nat → Int32) (F : Nat → Nat → Int32) (rc sz : Nat) (p0 : Int32) (p1 : Int32) (hg : injX g) (hI : IX v F) : Met l yX4_inForce (Cond.code yX4_inForce cX4_inForce 4 (some .int) :: wA) ({ frames := 1, cells := 0, slots := 0, locals := 40 }) (va_Pc [.ref (g 6), .int p0, .int p1] (PX dC dI g c adK adV v F rc sz)) (va_Qi (fun (r : Int32) (u : Unit) => -1 ≤ r.toInt ∧ r.toInt ≤ 9) (fun (_ : Unit) => BX dC dI g c (v, F, rc)) (AX g sz)) 0 0 (AX g sz) := by
  refine Met.ofW (cc := cX4_inForce) (maxL := 4) (ret := (some .int)) (by decide) rfl ?_
  intro p e s m args below meth c0 s₁ B hml hv
  obtain ⟨rfl, hsz, hP, hK, hE⟩ := hv
  have hx := B.exec
  have hb := B.bytes
  have hr := B.returns
  have hts := atoms_spec (ws := Cond.code yX4_inForce cX4_inForce 4 (some .int) :: wA) B.pre
  have hwd : ∀ w ∈ wA, w.before _ s = true := fun w h => hts w (List.mem_cons_of_mem _ h)
  have hown : s.vm.findClass RX4 = some m.cls := findClass_of_methodNamed B.named
  have hlocks := B.notSynchronized
  subst hsz
  have hl := lv_entry ([.ref (g 6), .int p0, .int p1]) (n := 4) (Nat.le_of_ble_eq_true rfl)
  rw [lg_entry_eq]
  generalize (lg_sl ([.ref (g 6), .int p0, .int p1]) ++ List.replicate (4 - (lg_sl ([.ref (g 6), .int p0, .int p1])).length) Slot.unset).toArray = ls at hl ⊢
  have hl : lv_has ls 4 [(0, .ref (g 6)), (1, .int p0), (2, .int p1)] := hl
  obtain ⟨H, eH⟩ : ∃ z, z = s.heap := ⟨_, rfl⟩
  have hP : va_P (dC, dI) classes (wX g c v F rc) H := by rw [eH]; exact hP
  have hS : va_S (AX g s.heap.size) s.heap H [] := by rw [eH]; exact va_S.rf
  refine my_heap eH ?_
  have rp0 := i32_rng p0
  have rp1 := i32_rng p1
  refine lv_aload_n hx hb dX4_inForce_0 rfl (lv_at hl 0 rfl) ?_
  refine va_get (D := (dC, dI)) (ci := 4) (v := .int (v 120)) (C := RX4) (T := TX4) (N := 7) hx hb hwd inA_X4 hown hK hP 6 rfl rfl 0 (by decide) (hwd _ wk_401) (fun _ h9 => h9) rfl dX4_inForce_1 ?_
  have t1174 : 0 ≤ (v 120).toInt ∧ (v 120).toInt ≤ 10 := hI.1 120 _ _ rfl
  refine lv_iconst (v := 1) hx hb dX4_inForce_4 (by decide) ?_
  refine lv_isub hx hb dX4_inForce_5 ?_
  refine lv_topi (fun z1175 e1176 => ?_)
  try (have t1177 := tsub e1176 (a := (v 120).toInt) rfl (b := 1) (by decide) (by omega))
  refine lv_istore_n (lv' := [(3, .int z1175), (0, .ref (g 6)), (1, .int p0), (2, .int p1)]) hx hb dX4_inForce_6 rfl hl (by decide) rfl (fun ls hl => ?_)
  have lp1178 : ∀ (n : Nat) (x3_lp1178 : Int32) (H : Heap) (locs : List Loc) (ls : Array Slot), (-1 ≤ x3_lp1178.toInt) → (x3_lp1178.toInt ≤ 9) → (x3_lp1178.toInt + 2 ≤ (n : Int)) → va_P (dC, dI) classes (wX g c v F rc) H → va_S (AX g s.heap.size) s.heap H locs → lv_has ls 4 [(3, .int x3_lp1178), (0, .ref (g 6)), (1, .int p0), (2, .int p1)] → W p l e (headSpec (Cond.code yX4_inForce cX4_inForce 4 (some .int) :: wA) ({ frames := 1, cells := 0, slots := 0, locals := 40 })).room s m ([.ref (g 6), .int p0, .int p1] : List Value).toArray below meth c0 H locs 0 0 (MQ below (va_Qi (fun (r : Int32) (u : Unit) => -1 ≤ r.toInt ∧ r.toInt ≤ 9) (fun (_ : Unit) => BX dC dI g c (v, F, rc)) (AX g s.heap.size)) ([.ref (g 6), .int p0, .int p1] : List Value).toArray s 0 0 (AX g s.heap.size)) (F0 m 7 ls []) := by
    intro n
    induction n with
    | zero =>
      intro x3_lp1178 H locs ls t1179 t1180 hm hP hS hl
      exfalso
      have := i32_rng x3_lp1178
      omega
    | succ n ih_lp1178 =>
      intro x3_lp1178 H locs ls t1179 t1180 hm hP hS hl
      have rx3_lp1178 := i32_rng x3_lp1178
      refine lv_iload_n hx hb dX4_inForce_7 rfl (lv_at hl 0 rfl) ?_
      refine lv_if_lt (tgt := 39) hx hb dX4_inForce_8 (by decide) (fun c1181 => ?_) (fun c1181 => ?_)
      · skip
        have t1182 := cv_lt (a := x3_lp1178.toInt) rfl (b := 0) (by decide) c1181
        refine lv_iconst (v := (-1)) hx hb dX4_inForce_39 (by decide) ?_
        have hP9 : va_P (dC, dI) classes (wX g c v F rc) H := hP
        exact W.iret (v := (-1)) hx hb hr (fun t ht hW => ⟨⟨(-1), (), rfl, by have : ((-1) : Int32).toInt = (-1) := (by decide); omega, (by show va_P _ _ _ t.heap; rw [ht]; exact hP9)⟩, hS.F ht⟩) hS.2.2 dX4_inForce_40
      · skip
        have t1183 := cv_nlt (a := x3_lp1178.toInt) rfl (b := 0) (by decide) c1181
        refine lv_aload_n hx hb dX4_inForce_11 rfl (lv_at hl 1 rfl) ?_
        refine va_get (D := (dC, dI)) (ci := 4) (v := .ref (g 40)) (C := RX4) (T := TX4) (N := 7) hx hb hwd inA_X4 hown hK hP 6 rfl rfl 1 (by decide) (hwd _ wk_108) (fun _ h9 => h9) rfl dX4_inForce_12 ?_
        refine lv_iload_n hx hb dX4_inForce_15 rfl (lv_at hl 0 rfl) ?_
        refine va_iald hx hb hK hP 40 28 rfl rfl (i := x3_lp1178) (vin (a := x3_lp1178.toInt) rfl (by omega)) dX4_inForce_16 ?_
        refine lv_topi (fun z1184 e1185 => ?_)
        refine lv_iload_n hx hb dX4_inForce_17 rfl (lv_at hl 3 rfl) ?_
        refine lv_icmp_gt (tgt := 33) hx hb dX4_inForce_18 (by decide) (fun c1186 => ?_) (fun c1186 => ?_)
        · skip
          have t1187 := cv_lt (a := p1.toInt) rfl (b := z1184.toInt) rfl c1186
          obtain ⟨z1188, e1189⟩ : ∃ y : Int32, y = x3_lp1178 + (-1) := ⟨_, rfl⟩
          try (have t1190 := tadd e1189 rfl (b := (-1)) (by decide) (by omega))
          refine lv_iinc (v := z1188) (lv' := [(3, .int z1188), (0, .ref (g 6)), (1, .int p0), (2, .int p1)]) hx hb dX4_inForce_33 hl (k := 0) rfl (by rw [e1189]; rfl) (by decide) rfl (fun ls hl => ?_)
          refine lv_goto (tgt := 7) hx hb dX4_inForce_36 (by decide) ?_
          exact ih_lp1178 z1188  _ _ _ (by omega) (by omega) (by omega) hP hS (lv_sub hl [0, 1, 2, 3] rfl)
        · skip
          have t1191 := cv_nlt (a := p1.toInt) rfl (b := z1184.toInt) rfl c1186
          refine lv_aload_n hx hb dX4_inForce_21 rfl (lv_at hl 1 rfl) ?_
          refine va_get (D := (dC, dI)) (ci := 4) (v := .ref (g 41)) (C := RX4) (T := TX4) (N := 7) hx hb hwd inA_X4 hown hK hP 6 rfl rfl 2 (by decide) (hwd _ wk_109) (fun _ h9 => h9) rfl dX4_inForce_22 ?_
          refine lv_iload_n hx hb dX4_inForce_25 rfl (lv_at hl 0 rfl) ?_
          refine va_iald hx hb hK hP 41 29 rfl rfl (i := x3_lp1178) (vin (a := x3_lp1178.toInt) rfl (by omega)) dX4_inForce_26 ?_
          refine lv_topi (fun z1192 e1193 => ?_)
          refine lv_iload_n hx hb dX4_inForce_27 rfl (lv_at hl 2 rfl) ?_
          refine lv_icmp_gt (tgt := 33) hx hb dX4_inForce_28 (by decide) (fun c1194 => ?_) (fun c1194 => ?_)
          · skip
            have t1195 := cv_lt (a := p0.toInt) rfl (b := z1192.toInt) rfl c1194
            obtain ⟨z1196, e1197⟩ : ∃ y : Int32, y = x3_lp1178 + (-1) := ⟨_, rfl⟩
            try (have t1198 := tadd e1197 rfl (b := (-1)) (by decide) (by omega))
            refine lv_iinc (v := z1196) (lv' := [(3, .int z1196), (0, .ref (g 6)), (1, .int p0), (2, .int p1)]) hx hb dX4_inForce_33 hl (k := 0) rfl (by rw [e1197]; rfl) (by decide) rfl (fun ls hl => ?_)
            refine lv_goto (tgt := 7) hx hb dX4_inForce_36 (by decide) ?_
            exact ih_lp1178 z1196  _ _ _ (by omega) (by omega) (by omega) hP hS (lv_sub hl [0, 1, 2, 3] rfl)
          · skip
            have t1199 := cv_nlt (a := p0.toInt) rfl (b := z1192.toInt) rfl c1194
            refine lv_iload_n hx hb dX4_inForce_31 rfl (lv_at hl 0 rfl) ?_
            have hP9 : va_P (dC, dI) classes (wX g c v F rc) H := hP
            exact W.iret (v := x3_lp1178) hx hb hr (fun t ht hW => ⟨⟨x3_lp1178, (), rfl, by omega, (by show va_P _ _ _ t.heap; rw [ht]; exact hP9)⟩, hS.F ht⟩) hS.2.2 dX4_inForce_32
  obtain ⟨n9, hn9⟩ : ∃ n : Nat, z1175.toInt + 2 ≤ (n : Int) := ⟨((z1175.toInt + 2 : Int)).toNat, by omega⟩
  exact lp1178 n9 z1175  H _ ls (by omega) (by omega) (by omega) hP hS hl
