set_option maxHeartbeats 8000000 in
set_option maxRecDepth 100000 in
theorem c_X0_isSigned (l : Launch) (dC : Nat → ClassId) (dI : Nat → Nat → Nat) (g : Nat → Nat) (c : Nat → ClassId) (adK adV : Nat → Nat) (v : Nat → Int32) (F : Nat → Nat → Int32) (rc sz : Nat) (p0 : Int32) (hg : injX g) (hI : IX v F) (h0 : 0 ≤ p0.toInt ∧ p0.toInt ≤ 9) : Met l yX0_isSigned (Cond.code yX0_isSigned cX0_isSigned 2 (some .boolean) :: wA) ({ frames := 1, cells := 0, slots := 0, locals := 40 }) (va_Pc [.ref (g 9), .int p0] (PX dC dI g c adK adV v F rc sz)) (va_Qi (fun (r : Int32) (u : Unit) => 0 ≤ r.toInt ∧ r.toInt ≤ 1) (fun (_ : Unit) => BX dC dI g c (v, F, rc)) (AX g sz)) 0 0 (AX g sz) := by
  refine Met.ofW (cc := cX0_isSigned) (maxL := 2) (ret := (some .boolean)) (by decide) rfl ?_
  intro p e s m args below meth c0 s₁ B hml hv
  obtain ⟨rfl, hsz, hP, hK, hE⟩ := hv
  have hx := B.exec
  have hb := B.bytes
  have hr := B.returns
  have hts := atoms_spec (ws := Cond.code yX0_isSigned cX0_isSigned 2 (some .boolean) :: wA) B.pre
  have hwd : ∀ w ∈ wA, w.before _ s = true := fun w h => hts w (List.mem_cons_of_mem _ h)
  have hown : s.vm.findClass RX0 = some m.cls := findClass_of_methodNamed B.named
  have hlocks := B.notSynchronized
  subst hsz
  have hl := lv_entry ([.ref (g 9), .int p0]) (n := 2) (Nat.le_of_ble_eq_true rfl)
  rw [lg_entry_eq]
  generalize (lg_sl ([.ref (g 9), .int p0]) ++ List.replicate (2 - (lg_sl ([.ref (g 9), .int p0])).length) Slot.unset).toArray = ls at hl ⊢
  have hl : lv_has ls 2 [(0, .ref (g 9)), (1, .int p0)] := hl
  obtain ⟨H, eH⟩ : ∃ z, z = s.heap := ⟨_, rfl⟩
  have hP : va_P (dC, dI) classes (wX g c v F rc) H := by rw [eH]; exact hP
  have hS : va_S (AX g s.heap.size) s.heap H [] := by rw [eH]; exact va_S.rf
  refine my_heap eH ?_
  have rp0 := i32_rng p0
  refine lv_aload_n hx hb dX0_isSigned_0 rfl (lv_at hl 0 rfl) ?_
  refine va_get (D := (dC, dI)) (ci := 0) (v := .ref (g 58)) (C := RX0) (T := TX0) (N := 9) hx hb hwd inA_X0 hown hK hP 9 rfl rfl 1 (by decide) (hwd _ wk_132) (fun _ h9 => h9) rfl dX0_isSigned_1 ?_
  refine lv_iload_n hx hb dX0_isSigned_4 rfl (lv_at hl 1 rfl) ?_
  refine va_iald hx hb hK hP 58 46 rfl rfl (i := p0) (vin (a := p0.toInt) rfl (by omega)) dX0_isSigned_5 ?_
  refine lv_topi (fun z1112 e1113 => ?_)
  have t1114 : 0 ≤ z1112.toInt ∧ z1112.toInt ≤ 30 := by rw [e1113]; exact hI.2 58 _ _ rfl _
  refine lv_if_le (tgt := 13) hx hb dX0_isSigned_6 (by decide) (fun c1115 => ?_) (fun c1115 => ?_)
  · skip
    have t1116 := cv_le (a := z1112.toInt) rfl (b := 0) (by decide) c1115
    refine lv_iconst (v := 0) hx hb dX0_isSigned_13 (by decide) ?_
    have hP9 : va_P (dC, dI) classes (wX g c v F rc) H := hP
    exact W.zret (v := 0) hx hb hr (rfl) (fun t ht hW => ⟨⟨0, (), rfl, by have : (0 : Int32).toInt = 0 := (by decide); omega, (by show va_P _ _ _ t.heap; rw [ht]; exact hP9)⟩, hS.F ht⟩) hS.2.2 dX0_isSigned_14
  · skip
    have t1117 := cv_nle (a := z1112.toInt) rfl (b := 0) (by decide) c1115
    refine lv_iconst (v := 1) hx hb dX0_isSigned_9 (by decide) ?_
    refine lv_goto (tgt := 14) hx hb dX0_isSigned_10 (by decide) ?_
    have hP9 : va_P (dC, dI) classes (wX g c v F rc) H := hP
    exact W.zret (v := 1) hx hb hr (rfl) (fun t ht hW => ⟨⟨1, (), rfl, by have : (1 : Int32).toInt = 1 := (by decide); omega, (by show va_P _ _ _ t.heap; rw [ht]; exact hP9)⟩, hS.F ht⟩) hS.2.2 dX0_isSigned_14
set_option maxHeartbeats 8000000 in
set_option maxRecDepth 100000 in
theorem c_X0_hasLine (l : Launch) (dC : Nat → ClassId) (dI : Nat → Nat → Nat) (g : Nat → Nat) (c : Nat → ClassId) (adK adV : Nat → Nat) (v : Nat → Int32) (F : Nat → Nat → Int32) (rc sz : Nat) (p0 : Int32) (p1 : Int32) (hg : injX g) (hI : IX v F) (h0 : 0 ≤ p0.toInt ∧ p0.toInt ≤ 9) : Met l yX0_hasLine (Cond.code yX0_hasLine cX0_hasLine 3 (some .boolean) :: wA) ({ frames := 1, cells := 0, slots := 0, locals := 40 }) (va_Pc [.ref (g 9), .int p0, .int p1] (PX dC dI g c adK adV v F rc sz)) (va_Qi (fun (r : Int32) (u : Unit) => (0 ≤ r.toInt ∧ r.toInt ≤ 1) ∧ (r.toInt = 1 → 0 ≤ p1.toInt ∧ p1.toInt ≤ 29)) (fun (_ : Unit) => BX dC dI g c (v, F, rc)) (AX g sz)) 0 0 (AX g sz) := by
  refine Met.ofW (cc := cX0_hasLine) (maxL := 3) (ret := (some .boolean)) (by decide) rfl ?_
  intro p e s m args below meth c0 s₁ B hml hv
  obtain ⟨rfl, hsz, hP, hK, hE⟩ := hv
  have hx := B.exec
  have hb := B.bytes
  have hr := B.returns
  have hts := atoms_spec (ws := Cond.code yX0_hasLine cX0_hasLine 3 (some .boolean) :: wA) B.pre
  have hwd : ∀ w ∈ wA, w.before _ s = true := fun w h => hts w (List.mem_cons_of_mem _ h)
  have hown : s.vm.findClass RX0 = some m.cls := findClass_of_methodNamed B.named
  have hlocks := B.notSynchronized
  subst hsz
  have hl := lv_entry ([.ref (g 9), .int p0, .int p1]) (n := 3) (Nat.le_of_ble_eq_true rfl)
  rw [lg_entry_eq]
  generalize (lg_sl ([.ref (g 9), .int p0, .int p1]) ++ List.replicate (3 - (lg_sl ([.ref (g 9), .int p0, .int p1])).length) Slot.unset).toArray = ls at hl ⊢
  have hl : lv_has ls 3 [(0, .ref (g 9)), (1, .int p0), (2, .int p1)] := hl
  obtain ⟨H, eH⟩ : ∃ z, z = s.heap := ⟨_, rfl⟩
  have hP : va_P (dC, dI) classes (wX g c v F rc) H := by rw [eH]; exact hP
  have hS : va_S (AX g s.heap.size) s.heap H [] := by rw [eH]; exact va_S.rf
  refine my_heap eH ?_
  have rp0 := i32_rng p0
  have rp1 := i32_rng p1
  refine lv_iload_n hx hb dX0_hasLine_0 rfl (lv_at hl 2 rfl) ?_
  refine lv_if_lt (tgt := 18) hx hb dX0_hasLine_1 (by decide) (fun c1118 => ?_) (fun c1118 => ?_)
  · skip
    have t1119 := cv_lt (a := p1.toInt) rfl (b := 0) (by decide) c1118
    refine lv_iconst (v := 0) hx hb dX0_hasLine_18 (by decide) ?_
    have hP9 : va_P (dC, dI) classes (wX g c v F rc) H := hP
    exact W.zret (v := 0) hx hb hr (rfl) (fun t ht hW => ⟨⟨0, (), rfl, by have : (0 : Int32).toInt = 0 := (by decide); omega, (by show va_P _ _ _ t.heap; rw [ht]; exact hP9)⟩, hS.F ht⟩) hS.2.2 dX0_hasLine_19
  · skip
    have t1120 := cv_nlt (a := p1.toInt) rfl (b := 0) (by decide) c1118
    refine lv_iload_n hx hb dX0_hasLine_4 rfl (lv_at hl 2 rfl) ?_
    refine lv_aload_n hx hb dX0_hasLine_5 rfl (lv_at hl 0 rfl) ?_
    refine va_get (D := (dC, dI)) (ci := 0) (v := .ref (g 58)) (C := RX0) (T := TX0) (N := 9) hx hb hwd inA_X0 hown hK hP 9 rfl rfl 1 (by decide) (hwd _ wk_132) (fun _ h9 => h9) rfl dX0_hasLine_6 ?_
    refine lv_iload_n hx hb dX0_hasLine_9 rfl (lv_at hl 1 rfl) ?_
    refine va_iald hx hb hK hP 58 46 rfl rfl (i := p0) (vin (a := p0.toInt) rfl (by omega)) dX0_hasLine_10 ?_
    refine lv_topi (fun z1121 e1122 => ?_)
    have t1123 : 0 ≤ z1121.toInt ∧ z1121.toInt ≤ 30 := by rw [e1122]; exact hI.2 58 _ _ rfl _
    refine lv_icmp_ge (tgt := 18) hx hb dX0_hasLine_11 (by decide) (fun c1124 => ?_) (fun c1124 => ?_)
    · skip
      have t1125 := cv_le (a := z1121.toInt) rfl (b := p1.toInt) rfl c1124
      refine lv_iconst (v := 0) hx hb dX0_hasLine_18 (by decide) ?_
      have hP9 : va_P (dC, dI) classes (wX g c v F rc) H := hP
      exact W.zret (v := 0) hx hb hr (rfl) (fun t ht hW => ⟨⟨0, (), rfl, by have : (0 : Int32).toInt = 0 := (by decide); omega, (by show va_P _ _ _ t.heap; rw [ht]; exact hP9)⟩, hS.F ht⟩) hS.2.2 dX0_hasLine_19
    · skip
      have t1126 := cv_nle (a := z1121.toInt) rfl (b := p1.toInt) rfl c1124
      refine lv_iconst (v := 1) hx hb dX0_hasLine_14 (by decide) ?_
      refine lv_goto (tgt := 19) hx hb dX0_hasLine_15 (by decide) ?_
      have hP9 : va_P (dC, dI) classes (wX g c v F rc) H := hP
      exact W.zret (v := 1) hx hb hr (rfl) (fun t ht hW => ⟨⟨1, (), rfl, by have : (1 : Int32).toInt = 1 := (by decide); omega, (by show va_P _ _ _ t.heap; rw [ht]; exact hP9)⟩, hS.F ht⟩) hS.2.2 dX0_hasLine_19
set_option maxHeartbeats 8000000 in
set_option maxRecDepth 100000 in
theorem c_X0_letterOf (l : Launch) (dC : Nat → ClassId) (dI : Nat → Nat → Nat) (g : Nat → Nat) (c : Nat → ClassId) (adK adV : Nat → Nat) (v : Nat → Int32) (F : Nat → Nat → Int32) (rc sz : Nat) (p0 : Int32) (p1 : Int32) (hg : injX g) (hI : IX v F) (h0 : 0 ≤ p0.toInt ∧ p0.toInt ≤ 9) (h1 : 0 ≤ p1.toInt ∧ p1.toInt ≤ 29) : Met l yX0_letterOf (Cond.code yX0_letterOf cX0_letterOf 3 (some .int) :: wA) ({ frames := 1, cells := 0, slots := 0, locals := 40 }) (va_Pc [.ref (g 9), .int p0, .int p1] (PX dC dI g c adK adV v F rc sz)) (va_Qi (fun (r : Int32) (u : Unit) => True) (fun (_ : Unit) => BX dC dI g c (v, F, rc)) (AX g sz)) 0 0 (AX g sz) := by
  refine Met.ofW (cc := cX0_letterOf) (maxL := 3) (ret := (some .int)) (by decide) rfl ?_
  intro p e s m args below meth c0 s₁ B hml hv
  obtain ⟨rfl, hsz, hP, hK, hE⟩ := hv
  have hx := B.exec
  have hb := B.bytes
  have hr := B.returns
  have hts := atoms_spec (ws := Cond.code yX0_letterOf cX0_letterOf 3 (some .int) :: wA) B.pre
  have hwd : ∀ w ∈ wA, w.before _ s = true := fun w h => hts w (List.mem_cons_of_mem _ h)
  have hown : s.vm.findClass RX0 = some m.cls := findClass_of_methodNamed B.named
  have hlocks := B.notSynchronized
  subst hsz
  have hl := lv_entry ([.ref (g 9), .int p0, .int p1]) (n := 3) (Nat.le_of_ble_eq_true rfl)
  rw [lg_entry_eq]
  generalize (lg_sl ([.ref (g 9), .int p0, .int p1]) ++ List.replicate (3 - (lg_sl ([.ref (g 9), .int p0, .int p1])).length) Slot.unset).toArray = ls at hl ⊢
  have hl : lv_has ls 3 [(0, .ref (g 9)), (1, .int p0), (2, .int p1)] := hl
  obtain ⟨H, eH⟩ : ∃ z, z = s.heap := ⟨_, rfl⟩
  have hP : va_P (dC, dI) classes (wX g c v F rc) H := by rw [eH]; exact hP
  have hS : va_S (AX g s.heap.size) s.heap H [] := by rw [eH]; exact va_S.rf
  refine my_heap eH ?_
  have rp0 := i32_rng p0
  have rp1 := i32_rng p1
  refine lv_aload_n hx hb dX0_letterOf_0 rfl (lv_at hl 0 rfl) ?_
  refine va_get (D := (dC, dI)) (ci := 0) (v := .ref (g 61)) (C := RX0) (T := TX0) (N := 9) hx hb hwd inA_X0 hown hK hP 9 rfl rfl 4 (by decide) (hwd _ wk_136) (fun _ h9 => h9) rfl dX0_letterOf_1 ?_
  refine lv_iload_n hx hb dX0_letterOf_4 rfl (lv_at hl 1 rfl) ?_
  refine my_aald hx hb hK hP 61 49 rfl rfl (i := p0) (vin (a := p0.toInt) rfl (by omega)) dX0_letterOf_5 ?_
  have t1127 : (p0).toNatClampNeg < 10 := nclt (a := p0.toInt) rfl (by omega)
  refine my_any (v := .ref (g (62 + (p0).toNatClampNeg))) (by show va_rf (if _ < 10 then _ else _) = _; rw [if_pos t1127]; rfl) ?_
  refine lv_iload_n hx hb dX0_letterOf_6 rfl (lv_at hl 2 rfl) ?_
  refine lv_iconst (v := 4) hx hb dX0_letterOf_7 (by decide) ?_
  refine lv_imul hx hb dX0_letterOf_8 ?_
  refine lv_topi (fun z1128 e1129 => ?_)
  try (have t1130 := tmul e1129 (a := p1.toInt) rfl (b := 4) (by decide) (by omega))
  refine va_iald hx hb hK hP (62 + (p0).toNatClampNeg) (50 + (p0).toNatClampNeg) (rowW62 t1127) (rowT62 t1127) (i := z1128) (vin (a := z1128.toInt) rfl (by omega)) dX0_letterOf_9 ?_
  refine lv_topi (fun z1131 e1132 => ?_)
  have hP9 : va_P (dC, dI) classes (wX g c v F rc) H := hP
  exact W.iret (v := z1131) hx hb hr (fun t ht hW => ⟨⟨z1131, (), rfl, trivial, (by show va_P _ _ _ t.heap; rw [ht]; exact hP9)⟩, hS.F ht⟩) hS.2.2 dX0_letterOf_10
set_option maxHeartbeats 8000000 in
set_option maxRecDepth 100000 in
theorem c_X0_numberOf (l : Launch) (dC : Nat → ClassId) (dI : Nat → Nat → Nat) (g : Nat → Nat) (c : Nat → ClassId) (adK adV : Nat → Nat) (v : Nat → Int32) (F : Nat → Nat → Int32) (rc sz : Nat) (p0 : Int32) (p1 : Int32) (p2 : Int32) (hg : injX g) (hI : IX v F) (h0 : 0 ≤ p0.toInt ∧ p0.toInt ≤ 9) (h1 : 0 ≤ p1.toInt ∧ p1.toInt ≤ 29) (h2 : 0 ≤ p2.toInt ∧ p2.toInt ≤ 3) : Met l yX0_numberOf (Cond.code yX0_numberOf cX0_numberOf 4 (some .int) :: wA) ({ frames := 1, cells := 0, slots := 0, locals := 40 }) (va_Pc [.ref (g 9), .int p0, .int p1, .int p2] (PX dC dI g c adK adV v F rc sz)) (va_Qi (fun (r : Int32) (u : Unit) => True) (fun (_ : Unit) => BX dC dI g c (v, F, rc)) (AX g sz)) 0 0 (AX g sz) := by
  refine Met.ofW (cc := cX0_numberOf) (maxL := 4) (ret := (some .int)) (by decide) rfl ?_
  intro p e s m args below meth c0 s₁ B hml hv
  obtain ⟨rfl, hsz, hP, hK, hE⟩ := hv
  have hx := B.exec
  have hb := B.bytes
  have hr := B.returns
  have hts := atoms_spec (ws := Cond.code yX0_numberOf cX0_numberOf 4 (some .int) :: wA) B.pre
  have hwd : ∀ w ∈ wA, w.before _ s = true := fun w h => hts w (List.mem_cons_of_mem _ h)
  have hown : s.vm.findClass RX0 = some m.cls := findClass_of_methodNamed B.named
  have hlocks := B.notSynchronized
  subst hsz
  have hl := lv_entry ([.ref (g 9), .int p0, .int p1, .int p2]) (n := 4) (Nat.le_of_ble_eq_true rfl)
  rw [lg_entry_eq]
  generalize (lg_sl ([.ref (g 9), .int p0, .int p1, .int p2]) ++ List.replicate (4 - (lg_sl ([.ref (g 9), .int p0, .int p1, .int p2])).length) Slot.unset).toArray = ls at hl ⊢
  have hl : lv_has ls 4 [(0, .ref (g 9)), (1, .int p0), (2, .int p1), (3, .int p2)] := hl
  obtain ⟨H, eH⟩ : ∃ z, z = s.heap := ⟨_, rfl⟩
  have hP : va_P (dC, dI) classes (wX g c v F rc) H := by rw [eH]; exact hP
  have hS : va_S (AX g s.heap.size) s.heap H [] := by rw [eH]; exact va_S.rf
  refine my_heap eH ?_
  have rp0 := i32_rng p0
  have rp1 := i32_rng p1
  have rp2 := i32_rng p2
  refine lv_aload_n hx hb dX0_numberOf_0 rfl (lv_at hl 0 rfl) ?_
  refine va_get (D := (dC, dI)) (ci := 0) (v := .ref (g 61)) (C := RX0) (T := TX0) (N := 9) hx hb hwd inA_X0 hown hK hP 9 rfl rfl 4 (by decide) (hwd _ wk_136) (fun _ h9 => h9) rfl dX0_numberOf_1 ?_
  refine lv_iload_n hx hb dX0_numberOf_4 rfl (lv_at hl 1 rfl) ?_
  refine my_aald hx hb hK hP 61 49 rfl rfl (i := p0) (vin (a := p0.toInt) rfl (by omega)) dX0_numberOf_5 ?_
  have t1133 : (p0).toNatClampNeg < 10 := nclt (a := p0.toInt) rfl (by omega)
  refine my_any (v := .ref (g (62 + (p0).toNatClampNeg))) (by show va_rf (if _ < 10 then _ else _) = _; rw [if_pos t1133]; rfl) ?_
  refine lv_iload_n hx hb dX0_numberOf_6 rfl (lv_at hl 2 rfl) ?_
  refine lv_iconst (v := 4) hx hb dX0_numberOf_7 (by decide) ?_
  refine lv_imul hx hb dX0_numberOf_8 ?_
  refine lv_topi (fun z1134 e1135 => ?_)
  try (have t1136 := tmul e1135 (a := p1.toInt) rfl (b := 4) (by decide) (by omega))
  refine lv_iload_n hx hb dX0_numberOf_9 rfl (lv_at hl 3 rfl) ?_
  refine lv_iadd hx hb dX0_numberOf_10 ?_
  refine lv_topi (fun z1137 e1138 => ?_)
  try (have t1139 := tadd e1138 (a := z1134.toInt) rfl (b := p2.toInt) rfl (by omega))
  refine va_iald hx hb hK hP (62 + (p0).toNatClampNeg) (50 + (p0).toNatClampNeg) (rowW62 t1133) (rowT62 t1133) (i := z1137) (vin (a := z1137.toInt) rfl (by omega)) dX0_numberOf_11 ?_
  refine lv_topi (fun z1140 e1141 => ?_)
  have hP9 : va_P (dC, dI) classes (wX g c v F rc) H := hP
  exact W.iret (v := z1140) hx hb hr (fun t ht hW => ⟨⟨z1140, (), rfl, trivial, (by show va_P _ _ _ t.heap; rw [ht]; exact hP9)⟩, hS.F ht⟩) hS.2.2 dX0_numberOf_12
set_option maxHeartbeats 8000000 in
set_option maxRecDepth 100000 in
theorem c_X0_sign (l : Launch) (dC : Nat → ClassId) (dI : Nat → Nat → Nat) (g : Nat → Nat) (c : Nat → ClassId) (adK adV : Nat → Nat) (v : Nat → Int32) (F : Nat → Nat → Int32) (rc sz : Nat) (p0 : Int32) (p1 : Int32) (p2 : Int32) (hg : injX g) (hI : IX v F) (h0 : 0 ≤ p0.toInt ∧ p0.toInt ≤ 9) : Met l yX0_sign (Cond.code yX0_sign cX0_sign 4 (some .int) :: wA) ({ frames := 2, cells := 0, slots := 0, locals := 80 }) (va_Pc [.ref (g 9), .int p0, .int p1, .int p2] (PX dC dI g c adK adV v F rc sz)) (va_Qi (fun (r : Int32) (u : StX) => IX u.1 u.2.1 ∧ (r = v 186 ∧ alX u.1 u.2.1 = alXS7 (alX v F) (upd (F 58) p0.toNatClampNeg (v 186))) ∧ u.2.2 = rc ∧ (∀ k, k ∉ ([] : List Nat) → u.1 k = v k) ∧ True) (BX dC dI g c) (AX g sz)) 0 0 (AX g sz) := by
  refine Met.ofW (cc := cX0_sign) (maxL := 4) (ret := (some .int)) (by decide) rfl ?_
  intro p e s m args below meth c0 s₁ B hml hv
  obtain ⟨rfl, hsz, hP, hK, hE⟩ := hv
  have hx := B.exec
  have hb := B.bytes
  have hr := B.returns
  have hts := atoms_spec (ws := Cond.code yX0_sign cX0_sign 4 (some .int) :: wA) B.pre
  have hwd : ∀ w ∈ wA, w.before _ s = true := fun w h => hts w (List.mem_cons_of_mem _ h)
  have hown : s.vm.findClass RX0 = some m.cls := findClass_of_methodNamed B.named
  have hlocks := B.notSynchronized
  subst hsz
  have hl := lv_entry ([.ref (g 9), .int p0, .int p1, .int p2]) (n := 4) (Nat.le_of_ble_eq_true rfl)
  rw [lg_entry_eq]
  generalize (lg_sl ([.ref (g 9), .int p0, .int p1, .int p2]) ++ List.replicate (4 - (lg_sl ([.ref (g 9), .int p0, .int p1, .int p2])).length) Slot.unset).toArray = ls at hl ⊢
  have hl : lv_has ls 4 [(0, .ref (g 9)), (1, .int p0), (2, .int p1), (3, .int p2)] := hl
  obtain ⟨H, eH⟩ : ∃ z, z = s.heap := ⟨_, rfl⟩
  have hP : va_P (dC, dI) classes (wX g c v F rc) H := by rw [eH]; exact hP
  have hS : va_S (AX g s.heap.size) s.heap H [] := by rw [eH]; exact va_S.rf
  refine my_heap eH ?_
  have hal : alX v F = alX v F := rfl
  have rp0 := i32_rng p0
  have rp1 := i32_rng p1
  have rp2 := i32_rng p2
  refine lv_aload_n hx hb dX0_sign_0 rfl (lv_at hl 0 rfl) ?_
  refine va_get (D := (dC, dI)) (ci := 0) (v := .ref (g 72)) (C := RX0) (T := TX0) (N := 9) hx hb hwd inA_X0 hown hK hP 9 rfl rfl 5 (by decide) (hwd _ wk_137) (fun _ h9 => h9) rfl dX0_sign_1 ?_
  refine lv_iconst (v := 0) hx hb dX0_sign_4 (by decide) ?_
  refine lv_aload_n hx hb dX0_sign_5 rfl (lv_at hl 0 rfl) ?_
  refine va_get (D := (dC, dI)) (ci := 0) (v := .ref (g 61)) (C := RX0) (T := TX0) (N := 9) hx hb hwd inA_X0 hown hK hP 9 rfl rfl 4 (by decide) (hwd _ wk_136) (fun _ h9 => h9) rfl dX0_sign_6 ?_
  refine lv_iload_n hx hb dX0_sign_9 rfl (lv_at hl 1 rfl) ?_
  refine my_aald hx hb hK hP 61 49 rfl rfl (i := p0) (vin (a := p0.toInt) rfl (by omega)) dX0_sign_10 ?_
  have t1142 : (p0).toNatClampNeg < 10 := nclt (a := p0.toInt) rfl (by omega)
  refine my_any (v := .ref (g (62 + (p0).toNatClampNeg))) (by show va_rf (if _ < 10 then _ else _) = _; rw [if_pos t1142]; rfl) ?_
  refine lv_iconst (v := 0) hx hb dX0_sign_11 (by decide) ?_
  refine lv_aload_n hx hb dX0_sign_12 rfl (lv_at hl 0 rfl) ?_
  refine va_get (D := (dC, dI)) (ci := 0) (v := .int (v 186)) (C := RX0) (T := TX0) (N := 9) hx hb hwd inA_X0 hown hK hP 9 rfl rfl 6 (by decide) (hwd _ wk_1094) (fun _ h9 => h9) rfl dX0_sign_13 ?_
  have t1143 : 0 ≤ (v 186).toInt ∧ (v 186).toInt ≤ 30 := hI.1 186 _ _ rfl
  refine lv_iconst (v := 4) hx hb dX0_sign_16 (by decide) ?_
  refine lv_imul hx hb dX0_sign_17 ?_
  refine lv_topi (fun z1144 e1145 => ?_)
  try (have t1146 := tmul e1145 (a := (v 186).toInt) rfl (b := 4) (by decide) (by omega))
  refine va_copyi (ty := .int) hx hb (by rw [hml]; exact hl.1.symm) hown (hwd _ wk_1120) (hwd _ wk_1121) (hwd _ wk_1122) (hwd _ wk_1123) hK hP (DX hg) hS 72 (62 + (p0).toNatClampNeg) 60 (50 + (p0).toNatClampNeg) rfl (rowW62 t1142) rfl (rowT62 t1142) rfl (by decide) (by decide) (fun q => by have := cv_lt rfl (b := 0) (by decide) q; omega) (by rw [ncl (a := 0) (by decide), ncl (a := z1144.toInt) rfl]; omega) (by rw [ncl (a := 0) (by decide), ncl (a := z1144.toInt) rfl]; omega) (fun _ _ => rfl) (Nat.le_of_ble_eq_true rfl) (Nat.le_of_ble_eq_true rfl) dX0_sign_18 (fun H locs hP _ hS => ?_)
  have hP := va_P_eq (sX_row62 g c _ _ _ t1142 _) hP
  have hI := IX.fill0 hI (62 + (p0).toNatClampNeg) (va_cpy (F 72) (F (62 + (p0).toNatClampNeg)) (0 : Int32).toNatClampNeg (0 : Int32).toNatClampNeg (z1144 : Int32).toNatClampNeg) (rowN62 t1142)
  have hal := (alX_F _ _ (62 + (p0).toNatClampNeg) (va_cpy (F 72) (F (62 + (p0).toNatClampNeg)) (0 : Int32).toNatClampNeg (0 : Int32).toNatClampNeg (z1144 : Int32).toNatClampNeg) (by omega) (by omega) (by omega) (by omega) (by omega)).trans hal
  have hP : va_P (dC, dI) classes (wX g c v (va_up F (62 + (p0).toNatClampNeg) (va_cpy (F 72) (F (62 + (p0).toNatClampNeg)) (0 : Int32).toNatClampNeg (0 : Int32).toNatClampNeg (z1144 : Int32).toNatClampNeg)) rc) H := hP
  generalize (va_up F (62 + (p0).toNatClampNeg) (va_cpy (F 72) (F (62 + (p0).toNatClampNeg)) (0 : Int32).toNatClampNeg (0 : Int32).toNatClampNeg (z1144 : Int32).toNatClampNeg)) = F1147 at hP hI hal
  refine lv_aload_n hx hb dX0_sign_21 rfl (lv_at hl 0 rfl) ?_
  refine va_get (D := (dC, dI)) (ci := 0) (v := .ref (g 58)) (C := RX0) (T := TX0) (N := 9) hx hb hwd inA_X0 hown hK hP 9 rfl rfl 1 (by decide) (hwd _ wk_132) (fun _ h9 => h9) rfl dX0_sign_22 ?_
  refine lv_iload_n hx hb dX0_sign_25 rfl (lv_at hl 1 rfl) ?_
  refine lv_aload_n hx hb dX0_sign_26 rfl (lv_at hl 0 rfl) ?_
  refine va_get (D := (dC, dI)) (ci := 0) (v := .int (v 186)) (C := RX0) (T := TX0) (N := 9) hx hb hwd inA_X0 hown hK hP 9 rfl rfl 6 (by decide) (hwd _ wk_1094) (fun _ h9 => h9) rfl dX0_sign_27 ?_
  have t1148 : 0 ≤ (v 186).toInt ∧ (v 186).toInt ≤ 30 := hI.1 186 _ _ rfl
  refine va_iast hx hb hK hP (DX hg) hS 58 46 rfl rfl (i := p0) (x := (v 186)) (vin (a := p0.toInt) rfl (by omega)) dX0_sign_30 (fun H locs hP _ hS => ?_)
  have hP := va_P_eq (sX_58 g c _ _ _ _) hP
  have hI := IX.store hI 58 (p0 : Int32).toNatClampNeg (v 186) rfl (by omega)
  have hq58 : F1147 58 = F 58 := congrArg (fun t : ALX => t.2.2.2.2.2.2.2.1) hal
  have hal := (alX_s7 _ _ (upd (F1147 58) (p0 : Int32).toNatClampNeg (v 186))).trans (congrArg (fun t => alXS7 t (upd (F1147 58) (p0 : Int32).toNatClampNeg (v 186))) hal)
  have hP : va_P (dC, dI) classes (wX g c v (va_up F1147 58 (upd (F1147 58) (p0 : Int32).toNatClampNeg (v 186))) rc) H := hP
  have hstF1149 : (va_up F1147 58 (upd (F1147 58) (p0 : Int32).toNatClampNeg (v 186))) 58 = (upd (F1147 58) (p0 : Int32).toNatClampNeg (v 186)) := va_up_self _ _ _
  generalize (va_up F1147 58 (upd (F1147 58) (p0 : Int32).toNatClampNeg (v 186))) = F1149 at hP hI hal hstF1149
  rw [hq58] at hal
  refine lv_aload_n hx hb dX0_sign_31 rfl (lv_at hl 0 rfl) ?_
  refine va_get (D := (dC, dI)) (ci := 0) (v := .ref (g 59)) (C := RX0) (T := TX0) (N := 9) hx hb hwd inA_X0 hown hK hP 9 rfl rfl 2 (by decide) (hwd _ wk_133) (fun _ h9 => h9) rfl dX0_sign_32 ?_
  refine lv_iload_n hx hb dX0_sign_35 rfl (lv_at hl 1 rfl) ?_
  refine lv_iload_n hx hb dX0_sign_36 rfl (lv_at hl 2 rfl) ?_
  refine va_iast hx hb hK hP (DX hg) hS 59 47 rfl rfl (i := p0) (x := p1) (vin (a := p0.toInt) rfl (by omega)) dX0_sign_37 (fun H locs hP _ hS => ?_)
  have hP := va_P_eq (sX_59 g c _ _ _ _) hP
  have hI := IX.store0 hI 59 (p0 : Int32).toNatClampNeg p1 rfl
  have hal := (alX_F _ _ 59 (upd (F1149 59) (p0 : Int32).toNatClampNeg p1) (by decide) (by decide) (by decide) (by decide) (by decide)).trans hal
  have hP : va_P (dC, dI) classes (wX g c v (va_up F1149 59 (upd (F1149 59) (p0 : Int32).toNatClampNeg p1)) rc) H := hP
  generalize (va_up F1149 59 (upd (F1149 59) (p0 : Int32).toNatClampNeg p1)) = F1150 at hP hI hal
  refine lv_aload_n hx hb dX0_sign_38 rfl (lv_at hl 0 rfl) ?_
  refine va_get (D := (dC, dI)) (ci := 0) (v := .ref (g 60)) (C := RX0) (T := TX0) (N := 9) hx hb hwd inA_X0 hown hK hP 9 rfl rfl 3 (by decide) (hwd _ wk_134) (fun _ h9 => h9) rfl dX0_sign_39 ?_
  refine lv_iload_n hx hb dX0_sign_42 rfl (lv_at hl 1 rfl) ?_
  refine lv_iload_n hx hb dX0_sign_43 rfl (lv_at hl 3 rfl) ?_
  refine va_iast hx hb hK hP (DX hg) hS 60 48 rfl rfl (i := p0) (x := p2) (vin (a := p0.toInt) rfl (by omega)) dX0_sign_44 (fun H locs hP _ hS => ?_)
  have hP := va_P_eq (sX_60 g c _ _ _ _) hP
  have hI := IX.store0 hI 60 (p0 : Int32).toNatClampNeg p2 rfl
  have hal := (alX_F _ _ 60 (upd (F1150 60) (p0 : Int32).toNatClampNeg p2) (by decide) (by decide) (by decide) (by decide) (by decide)).trans hal
  have hP : va_P (dC, dI) classes (wX g c v (va_up F1150 60 (upd (F1150 60) (p0 : Int32).toNatClampNeg p2)) rc) H := hP
  generalize (va_up F1150 60 (upd (F1150 60) (p0 : Int32).toNatClampNeg p2)) = F1151 at hP hI hal
  refine lv_aload_n hx hb dX0_sign_45 rfl (lv_at hl 0 rfl) ?_
  refine va_get (D := (dC, dI)) (ci := 0) (v := .int (v 186)) (C := RX0) (T := TX0) (N := 9) hx hb hwd inA_X0 hown hK hP 9 rfl rfl 6 (by decide) (hwd _ wk_1094) (fun _ h9 => h9) rfl dX0_sign_46 ?_
  have t1152 : 0 ≤ (v 186).toInt ∧ (v 186).toInt ≤ 30 := hI.1 186 _ _ rfl
  have hP9 : va_P (dC, dI) classes (wX g c v F1151 rc) H := hP
  exact W.iret (v := v 186) hx hb hr (fun t ht hW => ⟨⟨(v 186), (v, F1151, rc), rfl, ⟨hI, ⟨rfl, hal⟩, rfl, (fun _ _ => rfl), trivial⟩, (by show va_P _ _ _ t.heap; rw [ht]; exact hP9)⟩, hS.F ht⟩) hS.2.2 dX0_sign_49
