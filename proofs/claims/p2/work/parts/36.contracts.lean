set_option maxHeartbeats 8000000 in
set_option maxRecDepth 100000 in
theorem c_X0_isSigned (l : Launch) (dC : Nat → ClassId) (dI : Nat → Nat → Nat) (g : Nat → Nat) (c : Nat → ClassId) (adK adV : Nat → Nat) (v : Nat → Int32) (F : Nat → Nat → Int32) (rc sz : Nat) (p0 : Int32) (hg : injX g) (hI : IX v F) (h0 : 0 ≤ p0.toInt ∧ p0.toInt ≤ 9) : Met l yX0_isSigned (Cond.code yX0_isSigned cX0_isSigned 2 (some .boolean) :: wA) ({ frames := 1, cells := 0, slots := 0, locals := 40 }) (va_Pc [.ref (g 9), .int p0] (PX dC dI g c adK adV v F rc sz)) (va_Qi (fun (r : Int32) (u : Unit) => 0 ≤ r.toInt ∧ r.toInt ≤ 1) (fun (_ : Unit) => BX dC dI g c (v, F, rc)) (AX g sz)) 0 0 (AX g sz) := by
  refine Met.ofW (cc := cX0_isSigned) (maxL := 2) (ret := (some .boolean)) (by decide) rfl ?_
  intro p e s m args below meth c0 s₁ B hml hv
  obtain ⟨rfl, hsz, hP, hK, hE⟩ := hv
  have hx := B.exec
  have hb := B.bytes
  have hr := B.returns
  have hts := atoms_spec (ws := Cond.code yX0_isSigned cX0_isSigned 2 (some .boolean) :: wA) B.pre
  have hwd : ∀ w ∈ wA, w.before _ s = true := fun w h => hts w (List.mem_cons_of_mem _ h)
  have hown : s.vm.findClass RX0 = some m.cls := findClass_of_methodNamed B.named
  have hlocks := B.notSynchronized
  subst hsz
  have hl := lv_entry ([.ref (g 9), .int p0]) (n := 2) (Nat.le_of_ble_eq_true rfl)
  rw [lg_entry_eq]
  generalize (lg_sl ([.ref (g 9), .int p0]) ++ List.replicate (2 - (lg_sl ([.ref (g 9), .int p0])).length) Slot.unset).toArray = ls at hl ⊢
  have hl : lv_has ls 2 [(0, .ref (g 9)), (1, .int p0)] := hl
  obtain ⟨H, eH⟩ : ∃ z, z = s.heap := ⟨_, rfl⟩
  have hP : va_P (dC, dI) classes (wX g c v F rc) H := by rw [eH]; exact hP
  have hS : va_S (AX g s.heap.size) s.heap H [] := by rw [eH]; exact va_S.rf
  refine my_heap eH ?_
  have rp0 := i32_rng p0
  refine lv_aload_n hx hb dX0_isSigned_0 rfl (lv_at hl 0 rfl) ?_
  refine va_get (D := (dC, dI)) (ci := 0) (v := .ref (g 58)) (C := RX0) (T := TX0) (N := 9) hx hb hwd inA_X0 hown hK hP 9 rfl rfl 1 (by decide) (hwd _ wk_132) (fun _ h9 => h9) rfl dX0_isSigned_1 ?_
  refine lv_iload_n hx hb dX0_isSigned_4 rfl (lv_at hl 1 rfl) ?_
  refine va_iald hx hb hK hP 58 46 rfl rfl (i := p0) (vin (a := p0.toInt) rfl (by omega)) dX0_isSigned_5 ?_
  refine lv_topi (fun z1158 e1159 => ?_)
  have t1160 : 0 ≤ z1158.toInt ∧ z1158.toInt ≤ 30 := by rw [e1159]; exact hI.2 58 _ _ rfl _
  refine lv_if_le (tgt := 13) hx hb dX0_isSigned_6 (by decide) (fun c1161 => ?_) (fun c1161 => ?_)
  · skip
    have t1162 := cv_le (a := z1158.toInt) rfl (b := 0) (by decide) c1161
    refine lv_iconst (v := 0) hx hb dX0_isSigned_13 (by decide) ?_
    have hP9 : va_P (dC, dI) classes (wX g c v F rc) H := hP
    exact W.zret (v := 0) hx hb hr (rfl) (fun t ht hW => ⟨⟨0, (), rfl, by have : (0 : Int32).toInt = 0 := (by decide); omega, (by show va_P _ _ _ t.heap; rw [ht]; exact hP9)⟩, hS.F ht⟩) hS.2.2 dX0_isSigned_14
  · skip
    have t1163 := cv_nle (a := z1158.toInt) rfl (b := 0) (by decide) c1161
    refine lv_iconst (v := 1) hx hb dX0_isSigned_9 (by decide) ?_
    refine lv_goto (tgt := 14) hx hb dX0_isSigned_10 (by decide) ?_
    have hP9 : va_P (dC, dI) classes (wX g c v F rc) H := hP
    exact W.zret (v := 1) hx hb hr (rfl) (fun t ht hW => ⟨⟨1, (), rfl, by have : (1 : Int32).toInt = 1 := (by decide); omega, (by show va_P _ _ _ t.heap; rw [ht]; exact hP9)⟩, hS.F ht⟩) hS.2.2 dX0_isSigned_14
set_option maxHeartbeats 8000000 in
set_option maxRecDepth 100000 in
theorem c_X0_hasLine (l : Launch) (dC : Nat → ClassId) (dI : Nat → Nat → Nat) (g : Nat → Nat) (c : Nat → ClassId) (adK adV : Nat → Nat) (v : Nat → Int32) (F : Nat → Nat → Int32) (rc sz : Nat) (p0 : Int32) (p1 : Int32) (hg : injX g) (hI : IX v F) (h0 : 0 ≤ p0.toInt ∧ p0.toInt ≤ 9) : Met l yX0_hasLine (Cond.code yX0_hasLine cX0_hasLine 3 (some .boolean) :: wA) ({ frames := 1, cells := 0, slots := 0, locals := 40 }) (va_Pc [.ref (g 9), .int p0, .int p1] (PX dC dI g c adK adV v F rc sz)) (va_Qi (fun (r : Int32) (u : Unit) => (0 ≤ r.toInt ∧ r.toInt ≤ 1) ∧ (r.toInt = 1 → 0 ≤ p1.toInt ∧ p1.toInt ≤ 29)) (fun (_ : Unit) => BX dC dI g c (v, F, rc)) (AX g sz)) 0 0 (AX g sz) := by
  refine Met.ofW (cc := cX0_hasLine) (maxL := 3) (ret := (some .boolean)) (by decide) rfl ?_
  intro p e s m args below meth c0 s₁ B hml hv
  obtain ⟨rfl, hsz, hP, hK, hE⟩ := hv
  have hx := B.exec
  have hb := B.bytes
  have hr := B.returns
  have hts := atoms_spec (ws := Cond.code yX0_hasLine cX0_hasLine 3 (some .boolean) :: wA) B.pre
  have hwd : ∀ w ∈ wA, w.before _ s = true := fun w h => hts w (List.mem_cons_of_mem _ h)
  have hown : s.vm.findClass RX0 = some m.cls := findClass_of_methodNamed B.named
  have hlocks := B.notSynchronized
  subst hsz
  have hl := lv_entry ([.ref (g 9), .int p0, .int p1]) (n := 3) (Nat.le_of_ble_eq_true rfl)
  rw [lg_entry_eq]
  generalize (lg_sl ([.ref (g 9), .int p0, .int p1]) ++ List.replicate (3 - (lg_sl ([.ref (g 9), .int p0, .int p1])).length) Slot.unset).toArray = ls at hl ⊢
  have hl : lv_has ls 3 [(0, .ref (g 9)), (1, .int p0), (2, .int p1)] := hl
  obtain ⟨H, eH⟩ : ∃ z, z = s.heap := ⟨_, rfl⟩
  have hP : va_P (dC, dI) classes (wX g c v F rc) H := by rw [eH]; exact hP
  have hS : va_S (AX g s.heap.size) s.heap H [] := by rw [eH]; exact va_S.rf
  refine my_heap eH ?_
  have rp0 := i32_rng p0
  have rp1 := i32_rng p1
  refine lv_iload_n hx hb dX0_hasLine_0 rfl (lv_at hl 2 rfl) ?_
  refine lv_if_lt (tgt := 18) hx hb dX0_hasLine_1 (by decide) (fun c1164 => ?_) (fun c1164 => ?_)
  · skip
    have t1165 := cv_lt (a := p1.toInt) rfl (b := 0) (by decide) c1164
    refine lv_iconst (v := 0) hx hb dX0_hasLine_18 (by decide) ?_
    have hP9 : va_P (dC, dI) classes (wX g c v F rc) H := hP
    exact W.zret (v := 0) hx hb hr (rfl) (fun t ht hW => ⟨⟨0, (), rfl, by have : (0 : Int32).toInt = 0 := (by decide); omega, (by show va_P _ _ _ t.heap; rw [ht]; exact hP9)⟩, hS.F ht⟩) hS.2.2 dX0_hasLine_19
  · skip
    have t1166 := cv_nlt (a := p1.toInt) rfl (b := 0) (by decide) c1164
    refine lv_iload_n hx hb dX0_hasLine_4 rfl (lv_at hl 2 rfl) ?_
    refine lv_aload_n hx hb dX0_hasLine_5 rfl (lv_at hl 0 rfl) ?_
    refine va_get (D := (dC, dI)) (ci := 0) (v := .ref (g 58)) (C := RX0) (T := TX0) (N := 9) hx hb hwd inA_X0 hown hK hP 9 rfl rfl 1 (by decide) (hwd _ wk_132) (fun _ h9 => h9) rfl dX0_hasLine_6 ?_
    refine lv_iload_n hx hb dX0_hasLine_9 rfl (lv_at hl 1 rfl) ?_
    refine va_iald hx hb hK hP 58 46 rfl rfl (i := p0) (vin (a := p0.toInt) rfl (by omega)) dX0_hasLine_10 ?_
    refine lv_topi (fun z1167 e1168 => ?_)
    have t1169 : 0 ≤ z1167.toInt ∧ z1167.toInt ≤ 30 := by rw [e1168]; exact hI.2 58 _ _ rfl _
    refine lv_icmp_ge (tgt := 18) hx hb dX0_hasLine_11 (by decide) (fun c1170 => ?_) (fun c1170 => ?_)
    · skip
      have t1171 := cv_le (a := z1167.toInt) rfl (b := p1.toInt) rfl c1170
      refine lv_iconst (v := 0) hx hb dX0_hasLine_18 (by decide) ?_
      have hP9 : va_P (dC, dI) classes (wX g c v F rc) H := hP
      exact W.zret (v := 0) hx hb hr (rfl) (fun t ht hW => ⟨⟨0, (), rfl, by have : (0 : Int32).toInt = 0 := (by decide); omega, (by show va_P _ _ _ t.heap; rw [ht]; exact hP9)⟩, hS.F ht⟩) hS.2.2 dX0_hasLine_19
    · skip
      have t1172 := cv_nle (a := z1167.toInt) rfl (b := p1.toInt) rfl c1170
      refine lv_iconst (v := 1) hx hb dX0_hasLine_14 (by decide) ?_
      refine lv_goto (tgt := 19) hx hb dX0_hasLine_15 (by decide) ?_
      have hP9 : va_P (dC, dI) classes (wX g c v F rc) H := hP
      exact W.zret (v := 1) hx hb hr (rfl) (fun t ht hW => ⟨⟨1, (), rfl, by have : (1 : Int32).toInt = 1 := (by decide); omega, (by show va_P _ _ _ t.heap; rw [ht]; exact hP9)⟩, hS.F ht⟩) hS.2.2 dX0_hasLine_19
set_option maxHeartbeats 8000000 in
set_option maxRecDepth 100000 in
theorem c_X0_letterOf (l : Launch) (dC : Nat → ClassId) (dI : Nat → Nat → Nat) (g : Nat → Nat) (c : Nat → ClassId) (adK adV : Nat → Nat) (v : Nat → Int32) (F : Nat → Nat → Int32) (rc sz : Nat) (p0 : Int32) (p1 : Int32) (hg : injX g) (hI : IX v F) (h0 : 0 ≤ p0.toInt ∧ p0.toInt ≤ 9) (h1 : 0 ≤ p1.toInt ∧ p1.toInt ≤ 29) : Met l yX0_letterOf (Cond.code yX0_letterOf cX0_letterOf 3 (some .int) :: wA) ({ frames := 1, cells := 0, slots := 0, locals := 40 }) (va_Pc [.ref (g 9), .int p0, .int p1] (PX dC dI g c adK adV v F rc sz)) (va_Qi (fun (r : Int32) (u : Unit) => True) (fun (_ : Unit) => BX dC dI g c (v, F, rc)) (AX g sz)) 0 0 (AX g sz) := by
  refine Met.ofW (cc := cX0_letterOf) (maxL := 3) (ret := (some .int)) (by decide) rfl ?_
  intro p e s m args below meth c0 s₁ B hml hv
  obtain ⟨rfl, hsz, hP, hK, hE⟩ := hv
  have hx := B.exec
  have hb := B.bytes
  have hr := B.returns
  have hts := atoms_spec (ws := Cond.code yX0_letterOf cX0_letterOf 3 (some .int) :: wA) B.pre
  have hwd : ∀ w ∈ wA, w.before _ s = true := fun w h => hts w (List.mem_cons_of_mem _ h)
  have hown : s.vm.findClass RX0 = some m.cls := findClass_of_methodNamed B.named
  have hlocks := B.notSynchronized
  subst hsz
  have hl := lv_entry ([.ref (g 9), .int p0, .int p1]) (n := 3) (Nat.le_of_ble_eq_true rfl)
  rw [lg_entry_eq]
  generalize (lg_sl ([.ref (g 9), .int p0, .int p1]) ++ List.replicate (3 - (lg_sl ([.ref (g 9), .int p0, .int p1])).length) Slot.unset).toArray = ls at hl ⊢
  have hl : lv_has ls 3 [(0, .ref (g 9)), (1, .int p0), (2, .int p1)] := hl
  obtain ⟨H, eH⟩ : ∃ z, z = s.heap := ⟨_, rfl⟩
  have hP : va_P (dC, dI) classes (wX g c v F rc) H := by rw [eH]; exact hP
  have hS : va_S (AX g s.heap.size) s.heap H [] := by rw [eH]; exact va_S.rf
  refine my_heap eH ?_
  have rp0 := i32_rng p0
  have rp1 := i32_rng p1
  refine lv_aload_n hx hb dX0_letterOf_0 rfl (lv_at hl 0 rfl) ?_
  refine va_get (D := (dC, dI)) (ci := 0) (v := .ref (g 61)) (C := RX0) (T := TX0) (N := 9) hx hb hwd inA_X0 hown hK hP 9 rfl rfl 4 (by decide) (hwd _ wk_136) (fun _ h9 => h9) rfl dX0_letterOf_1 ?_
  refine lv_iload_n hx hb dX0_letterOf_4 rfl (lv_at hl 1 rfl) ?_
  refine my_aald hx hb hK hP 61 49 rfl rfl (i := p0) (vin (a := p0.toInt) rfl (by omega)) dX0_letterOf_5 ?_
  have t1173 : (p0).toNatClampNeg < 10 := nclt (a := p0.toInt) rfl (by omega)
  refine my_any (v := .ref (g (62 + (p0).toNatClampNeg))) (by show va_rf (if _ < 10 then _ else _) = _; rw [if_pos t1173]; rfl) ?_
  refine lv_iload_n hx hb dX0_letterOf_6 rfl (lv_at hl 2 rfl) ?_
  refine lv_iconst (v := 4) hx hb dX0_letterOf_7 (by decide) ?_
  refine lv_imul hx hb dX0_letterOf_8 ?_
  refine lv_topi (fun z1174 e1175 => ?_)
  try (have t1176 := tmul e1175 (a := p1.toInt) rfl (b := 4) (by decide) (by omega))
  refine va_iald hx hb hK hP (62 + (p0).toNatClampNeg) (50 + (p0).toNatClampNeg) (rowW62 t1173) (rowT62 t1173) (i := z1174) (vin (a := z1174.toInt) rfl (by omega)) dX0_letterOf_9 ?_
  refine lv_topi (fun z1177 e1178 => ?_)
  have hP9 : va_P (dC, dI) classes (wX g c v F rc) H := hP
  exact W.iret (v := z1177) hx hb hr (fun t ht hW => ⟨⟨z1177, (), rfl, trivial, (by show va_P _ _ _ t.heap; rw [ht]; exact hP9)⟩, hS.F ht⟩) hS.2.2 dX0_letterOf_10
set_option maxHeartbeats 8000000 in
set_option maxRecDepth 100000 in
theorem c_X0_numberOf (l : Launch) (dC : Nat → ClassId) (dI : Nat → Nat → Nat) (g : Nat → Nat) (c : Nat → ClassId) (adK adV : Nat → Nat) (v : Nat → Int32) (F : Nat → Nat → Int32) (rc sz : Nat) (p0 : Int32) (p1 : Int32) (p2 : Int32) (hg : injX g) (hI : IX v F) (h0 : 0 ≤ p0.toInt ∧ p0.toInt ≤ 9) (h1 : 0 ≤ p1.toInt ∧ p1.toInt ≤ 29) (h2 : 0 ≤ p2.toInt ∧ p2.toInt ≤ 3) : Met l yX0_numberOf (Cond.code yX0_numberOf cX0_numberOf 4 (some .int) :: wA) ({ frames := 1, cells := 0, slots := 0, locals := 40 }) (va_Pc [.ref (g 9), .int p0, .int p1, .int p2] (PX dC dI g c adK adV v F rc sz)) (va_Qi (fun (r : Int32) (u : Unit) => True) (fun (_ : Unit) => BX dC dI g c (v, F, rc)) (AX g sz)) 0 0 (AX g sz) := by
  refine Met.ofW (cc := cX0_numberOf) (maxL := 4) (ret := (some .int)) (by decide) rfl ?_
  intro p e s m args below meth c0 s₁ B hml hv
  obtain ⟨rfl, hsz, hP, hK, hE⟩ := hv
  have hx := B.exec
  have hb := B.bytes
  have hr := B.returns
  have hts := atoms_spec (ws := Cond.code yX0_numberOf cX0_numberOf 4 (some .int) :: wA) B.pre
  have hwd : ∀ w ∈ wA, w.before _ s = true := fun w h => hts w (List.mem_cons_of_mem _ h)
  have hown : s.vm.findClass RX0 = some m.cls := findClass_of_methodNamed B.named
  have hlocks := B.notSynchronized
  subst hsz
  have hl := lv_entry ([.ref (g 9), .int p0, .int p1, .int p2]) (n := 4) (Nat.le_of_ble_eq_true rfl)
  rw [lg_entry_eq]
  generalize (lg_sl ([.ref (g 9), .int p0, .int p1, .int p2]) ++ List.replicate (4 - (lg_sl ([.ref (g 9), .int p0, .int p1, .int p2])).length) Slot.unset).toArray = ls at hl ⊢
  have hl : lv_has ls 4 [(0, .ref (g 9)), (1, .int p0), (2, .int p1), (3, .int p2)] := hl
  obtain ⟨H, eH⟩ : ∃ z, z = s.heap := ⟨_, rfl⟩
  have hP : va_P (dC, dI) classes (wX g c v F rc) H := by rw [eH]; exact hP
  have hS : va_S (AX g s.heap.size) s.heap H [] := by rw [eH]; exact va_S.rf
  refine my_heap eH ?_
  have rp0 := i32_rng p0
  have rp1 := i32_rng p1
  have rp2 := i32_rng p2
  refine lv_aload_n hx hb dX0_numberOf_0 rfl (lv_at hl 0 rfl) ?_
  refine va_get (D := (dC, dI)) (ci := 0) (v := .ref (g 61)) (C := RX0) (T := TX0) (N := 9) hx hb hwd inA_X0 hown hK hP 9 rfl rfl 4 (by decide) (hwd _ wk_136) (fun _ h9 => h9) rfl dX0_numberOf_1 ?_
  refine lv_iload_n hx hb dX0_numberOf_4 rfl (lv_at hl 1 rfl) ?_
  refine my_aald hx hb hK hP 61 49 rfl rfl (i := p0) (vin (a := p0.toInt) rfl (by omega)) dX0_numberOf_5 ?_
  have t1179 : (p0).toNatClampNeg < 10 := nclt (a := p0.toInt) rfl (by omega)
  refine my_any (v := .ref (g (62 + (p0).toNatClampNeg))) (by show va_rf (if _ < 10 then _ else _) = _; rw [if_pos t1179]; rfl) ?_
  refine lv_iload_n hx hb dX0_numberOf_6 rfl (lv_at hl 2 rfl) ?_
  refine lv_iconst (v := 4) hx hb dX0_numberOf_7 (by decide) ?_
  refine lv_imul hx hb dX0_numberOf_8 ?_
  refine lv_topi (fun z1180 e1181 => ?_)
  try (have t1182 := tmul e1181 (a := p1.toInt) rfl (b := 4) (by decide) (by omega))
  refine lv_iload_n hx hb dX0_numberOf_9 rfl (lv_at hl 3 rfl) ?_
  refine lv_iadd hx hb dX0_numberOf_10 ?_
  refine lv_topi (fun z1183 e1184 => ?_)
  try (have t1185 := tadd e1184 (a := z1180.toInt) rfl (b := p2.toInt) rfl (by omega))
  refine va_iald hx hb hK hP (62 + (p0).toNatClampNeg) (50 + (p0).toNatClampNeg) (rowW62 t1179) (rowT62 t1179) (i := z1183) (vin (a := z1183.toInt) rfl (by omega)) dX0_numberOf_11 ?_
  refine lv_topi (fun z1186 e1187 => ?_)
  have hP9 : va_P (dC, dI) classes (wX g c v F rc) H := hP
  exact W.iret (v := z1186) hx hb hr (fun t ht hW => ⟨⟨z1186, (), rfl, trivial, (by show va_P _ _ _ t.heap; rw [ht]; exact hP9)⟩, hS.F ht⟩) hS.2.2 dX0_numberOf_12
set_option maxHeartbeats 8000000 in
set_option maxRecDepth 100000 in
theorem c_X0_sign (l : Launch) (dC : Nat → ClassId) (dI : Nat → Nat → Nat) (g : Nat → Nat) (c : Nat → ClassId) (adK adV : Nat → Nat) (v : Nat → Int32) (F : Nat → Nat → Int32) (rc sz : Nat) (p0 : Int32) (p1 : Int32) (p2 : Int32) (hg : injX g) (hI : IX v F) (h0 : 0 ≤ p0.toInt ∧ p0.toInt ≤ 9) : Met l yX0_sign (Cond.code yX0_sign cX0_sign 4 (some .int) :: wA) ({ frames := 2, cells := 0, slots := 0, locals := 80 }) (va_Pc [.ref (g 9), .int p0, .int p1, .int p2] (PX dC dI g c adK adV v F rc sz)) (va_Qi (fun (r : Int32) (u : StX) => IX u.1 u.2.1 ∧ alX u.1 u.2.1 = alX v F ∧ u.2.2 = rc ∧ (∀ k, k ∉ ([] : List Nat) → u.1 k = v k) ∧ True) (BX dC dI g c) (AX g sz)) 0 0 (AX g sz) := by
  refine Met.ofW (cc := cX0_sign) (maxL := 4) (ret := (some .int)) (by decide) rfl ?_
  intro p e s m args below meth c0 s₁ B hml hv
  obtain ⟨rfl, hsz, hP, hK, hE⟩ := hv
  have hx := B.exec
  have hb := B.bytes
  have hr := B.returns
  have hts := atoms_spec (ws := Cond.code yX0_sign cX0_sign 4 (some .int) :: wA) B.pre
  have hwd : ∀ w ∈ wA, w.before _ s = true := fun w h => hts w (List.mem_cons_of_mem _ h)
  have hown : s.vm.findClass RX0 = some m.cls := findClass_of_methodNamed B.named
  have hlocks := B.notSynchronized
  subst hsz
  have hl := lv_entry ([.ref (g 9), .int p0, .int p1, .int p2]) (n := 4) (Nat.le_of_ble_eq_true rfl)
  rw [lg_entry_eq]
  generalize (lg_sl ([.ref (g 9), .int p0, .int p1, .int p2]) ++ List.replicate (4 - (lg_sl ([.ref (g 9), .int p0, .int p1, .int p2])).length) Slot.unset).toArray = ls at hl ⊢
  have hl : lv_has ls 4 [(0, .ref (g 9)), (1, .int p0), (2, .int p1), (3, .int p2)] := hl
  obtain ⟨H, eH⟩ : ∃ z, z = s.heap := ⟨_, rfl⟩
  have hP : va_P (dC, dI) classes (wX g c v F rc) H := by rw [eH]; exact hP
  have hS : va_S (AX g s.heap.size) s.heap H [] := by rw [eH]; exact va_S.rf
  refine my_heap eH ?_
  have hal : alX v F = alX v F := rfl
  have rp0 := i32_rng p0
  have rp1 := i32_rng p1
  have rp2 := i32_rng p2
  refine lv_aload_n hx hb dX0_sign_0 rfl (lv_at hl 0 rfl) ?_
  refine va_get (D := (dC, dI)) (ci := 0) (v := .ref (g 72)) (C := RX0) (T := TX0) (N := 9) hx hb hwd inA_X0 hown hK hP 9 rfl rfl 5 (by decide) (hwd _ wk_137) (fun _ h9 => h9) rfl dX0_sign_1 ?_
  refine lv_iconst (v := 0) hx hb dX0_sign_4 (by decide) ?_
  refine lv_aload_n hx hb dX0_sign_5 rfl (lv_at hl 0 rfl) ?_
  refine va_get (D := (dC, dI)) (ci := 0) (v := .ref (g 61)) (C := RX0) (T := TX0) (N := 9) hx hb hwd inA_X0 hown hK hP 9 rfl rfl 4 (by decide) (hwd _ wk_136) (fun _ h9 => h9) rfl dX0_sign_6 ?_
  refine lv_iload_n hx hb dX0_sign_9 rfl (lv_at hl 1 rfl) ?_
  refine my_aald hx hb hK hP 61 49 rfl rfl (i := p0) (vin (a := p0.toInt) rfl (by omega)) dX0_sign_10 ?_
  have t1188 : (p0).toNatClampNeg < 10 := nclt (a := p0.toInt) rfl (by omega)
  refine my_any (v := .ref (g (62 + (p0).toNatClampNeg))) (by show va_rf (if _ < 10 then _ else _) = _; rw [if_pos t1188]; rfl) ?_
  refine lv_iconst (v := 0) hx hb dX0_sign_11 (by decide) ?_
  refine lv_aload_n hx hb dX0_sign_12 rfl (lv_at hl 0 rfl) ?_
  refine va_get (D := (dC, dI)) (ci := 0) (v := .int (v 186)) (C := RX0) (T := TX0) (N := 9) hx hb hwd inA_X0 hown hK hP 9 rfl rfl 6 (by decide) (hwd _ wk_1094) (fun _ h9 => h9) rfl dX0_sign_13 ?_
  have t1189 : 0 ≤ (v 186).toInt ∧ (v 186).toInt ≤ 30 := hI.1 186 _ _ rfl
  refine lv_iconst (v := 4) hx hb dX0_sign_16 (by decide) ?_
  refine lv_imul hx hb dX0_sign_17 ?_
  refine lv_topi (fun z1190 e1191 => ?_)
  try (have t1192 := tmul e1191 (a := (v 186).toInt) rfl (b := 4) (by decide) (by omega))
  refine va_copyi (ty := .int) hx hb (by rw [hml]; exact hl.1.symm) hown (hwd _ wk_1120) (hwd _ wk_1121) (hwd _ wk_1122) (hwd _ wk_1123) hK hP (DX hg) hS 72 (62 + (p0).toNatClampNeg) 60 (50 + (p0).toNatClampNeg) rfl (rowW62 t1188) rfl (rowT62 t1188) rfl (by decide) (by decide) (fun q => by have := cv_lt rfl (b := 0) (by decide) q; omega) (by rw [ncl (a := 0) (by decide), ncl (a := z1190.toInt) rfl]; omega) (by rw [ncl (a := 0) (by decide), ncl (a := z1190.toInt) rfl]; omega) (fun _ _ => rfl) (Nat.le_of_ble_eq_true rfl) (Nat.le_of_ble_eq_true rfl) dX0_sign_18 (fun H locs hP _ hS => ?_)
  have hP := va_P_eq (sX_row62 g c _ _ _ t1188 _) hP
  have hI := IX.fill0 hI (62 + (p0).toNatClampNeg) (va_cpy (F 72) (F (62 + (p0).toNatClampNeg)) (0 : Int32).toNatClampNeg (0 : Int32).toNatClampNeg (z1190 : Int32).toNatClampNeg) (rowN62 t1188)
  have hal := (alX_F _ _ (62 + (p0).toNatClampNeg) (va_cpy (F 72) (F (62 + (p0).toNatClampNeg)) (0 : Int32).toNatClampNeg (0 : Int32).toNatClampNeg (z1190 : Int32).toNatClampNeg) (by omega) (by omega)).trans hal
  refine lv_aload_n hx hb dX0_sign_21 rfl (lv_at hl 0 rfl) ?_
  refine va_get (D := (dC, dI)) (ci := 0) (v := .ref (g 58)) (C := RX0) (T := TX0) (N := 9) hx hb hwd inA_X0 hown hK hP 9 rfl rfl 1 (by decide) (hwd _ wk_132) (fun _ h9 => h9) rfl dX0_sign_22 ?_
  refine lv_iload_n hx hb dX0_sign_25 rfl (lv_at hl 1 rfl) ?_
  refine lv_aload_n hx hb dX0_sign_26 rfl (lv_at hl 0 rfl) ?_
  refine va_get (D := (dC, dI)) (ci := 0) (v := .int (v 186)) (C := RX0) (T := TX0) (N := 9) hx hb hwd inA_X0 hown hK hP 9 rfl rfl 6 (by decide) (hwd _ wk_1094) (fun _ h9 => h9) rfl dX0_sign_27 ?_
  have t1193 : 0 ≤ (v 186).toInt ∧ (v 186).toInt ≤ 30 := hI.1 186 _ _ rfl
  refine va_iast hx hb hK hP (DX hg) hS 58 46 rfl rfl (i := p0) (x := (v 186)) (vin (a := p0.toInt) rfl (by omega)) dX0_sign_30 (fun H locs hP _ hS => ?_)
  have hP := va_P_eq (sX_58 g c _ _ _ _) hP
  have hI := IX.store hI 58 (p0).toNatClampNeg (v 186) rfl (by omega)
  have hal := (alX_F _ _ 58 (upd ((va_up F (62 + (p0).toNatClampNeg) (va_cpy (F 72) (F (62 + (p0).toNatClampNeg)) (0 : Int32).toNatClampNeg (0 : Int32).toNatClampNeg (z1190 : Int32).toNatClampNeg)) 58) (p0).toNatClampNeg (v 186)) (by decide) (by decide)).trans hal
  refine lv_aload_n hx hb dX0_sign_31 rfl (lv_at hl 0 rfl) ?_
  refine va_get (D := (dC, dI)) (ci := 0) (v := .ref (g 59)) (C := RX0) (T := TX0) (N := 9) hx hb hwd inA_X0 hown hK hP 9 rfl rfl 2 (by decide) (hwd _ wk_133) (fun _ h9 => h9) rfl dX0_sign_32 ?_
  refine lv_iload_n hx hb dX0_sign_35 rfl (lv_at hl 1 rfl) ?_
  refine lv_iload_n hx hb dX0_sign_36 rfl (lv_at hl 2 rfl) ?_
  refine va_iast hx hb hK hP (DX hg) hS 59 47 rfl rfl (i := p0) (x := p1) (vin (a := p0.toInt) rfl (by omega)) dX0_sign_37 (fun H locs hP _ hS => ?_)
  have hP := va_P_eq (sX_59 g c _ _ _ _) hP
  have hI := IX.store0 hI 59 (p0).toNatClampNeg p1 rfl
  have hal := (alX_F _ _ 59 (upd ((va_up (va_up F (62 + (p0).toNatClampNeg) (va_cpy (F 72) (F (62 + (p0).toNatClampNeg)) (0 : Int32).toNatClampNeg (0 : Int32).toNatClampNeg (z1190 : Int32).toNatClampNeg)) 58 (upd ((va_up F (62 + (p0).toNatClampNeg) (va_cpy (F 72) (F (62 + (p0).toNatClampNeg)) (0 : Int32).toNatClampNeg (0 : Int32).toNatClampNeg (z1190 : Int32).toNatClampNeg)) 58) (p0).toNatClampNeg (v 186))) 59) (p0).toNatClampNeg p1) (by decide) (by decide)).trans hal
  refine lv_aload_n hx hb dX0_sign_38 rfl (lv_at hl 0 rfl) ?_
  refine va_get (D := (dC, dI)) (ci := 0) (v := .ref (g 60)) (C := RX0) (T := TX0) (N := 9) hx hb hwd inA_X0 hown hK hP 9 rfl rfl 3 (by decide) (hwd _ wk_134) (fun _ h9 => h9) rfl dX0_sign_39 ?_
  refine lv_iload_n hx hb dX0_sign_42 rfl (lv_at hl 1 rfl) ?_
  refine lv_iload_n hx hb dX0_sign_43 rfl (lv_at hl 3 rfl) ?_
  refine va_iast hx hb hK hP (DX hg) hS 60 48 rfl rfl (i := p0) (x := p2) (vin (a := p0.toInt) rfl (by omega)) dX0_sign_44 (fun H locs hP _ hS => ?_)
  have hP := va_P_eq (sX_60 g c _ _ _ _) hP
  have hI := IX.store0 hI 60 (p0).toNatClampNeg p2 rfl
  have hal := (alX_F _ _ 60 (upd ((va_up (va_up (va_up F (62 + (p0).toNatClampNeg) (va_cpy (F 72) (F (62 + (p0).toNatClampNeg)) (0 : Int32).toNatClampNeg (0 : Int32).toNatClampNeg (z1190 : Int32).toNatClampNeg)) 58 (upd ((va_up F (62 + (p0).toNatClampNeg) (va_cpy (F 72) (F (62 + (p0).toNatClampNeg)) (0 : Int32).toNatClampNeg (0 : Int32).toNatClampNeg (z1190 : Int32).toNatClampNeg)) 58) (p0).toNatClampNeg (v 186))) 59 (upd ((va_up (va_up F (62 + (p0).toNatClampNeg) (va_cpy (F 72) (F (62 + (p0).toNatClampNeg)) (0 : Int32).toNatClampNeg (0 : Int32).toNatClampNeg (z1190 : Int32).toNatClampNeg)) 58 (upd ((va_up F (62 + (p0).toNatClampNeg) (va_cpy (F 72) (F (62 + (p0).toNatClampNeg)) (0 : Int32).toNatClampNeg (0 : Int32).toNatClampNeg (z1190 : Int32).toNatClampNeg)) 58) (p0).toNatClampNeg (v 186))) 59) (p0).toNatClampNeg p1)) 60) (p0).toNatClampNeg p2) (by decide) (by decide)).trans hal
  refine lv_aload_n hx hb dX0_sign_45 rfl (lv_at hl 0 rfl) ?_
  refine va_get (D := (dC, dI)) (ci := 0) (v := .int (v 186)) (C := RX0) (T := TX0) (N := 9) hx hb hwd inA_X0 hown hK hP 9 rfl rfl 6 (by decide) (hwd _ wk_1094) (fun _ h9 => h9) rfl dX0_sign_46 ?_
  have t1194 : 0 ≤ (v 186).toInt ∧ (v 186).toInt ≤ 30 := hI.1 186 _ _ rfl
  have hP9 : va_P (dC, dI) classes (wX g c v (va_up (va_up (va_up (va_up F (62 + (p0).toNatClampNeg) (va_cpy (F 72) (F (62 + (p0).toNatClampNeg)) (0 : Int32).toNatClampNeg (0 : Int32).toNatClampNeg (z1190 : Int32).toNatClampNeg)) 58 (upd ((va_up F (62 + (p0).toNatClampNeg) (va_cpy (F 72) (F (62 + (p0).toNatClampNeg)) (0 : Int32).toNatClampNeg (0 : Int32).toNatClampNeg (z1190 : Int32).toNatClampNeg)) 58) (p0).toNatClampNeg (v 186))) 59 (upd ((va_up (va_up F (62 + (p0).toNatClampNeg) (va_cpy (F 72) (F (62 + (p0).toNatClampNeg)) (0 : Int32).toNatClampNeg (0 : Int32).toNatClampNeg (z1190 : Int32).toNatClampNeg)) 58 (upd ((va_up F (62 + (p0).toNatClampNeg) (va_cpy (F 72) (F (62 + (p0).toNatClampNeg)) (0 : Int32).toNatClampNeg (0 : Int32).toNatClampNeg (z1190 : Int32).toNatClampNeg)) 58) (p0).toNatClampNeg (v 186))) 59) (p0).toNatClampNeg p1)) 60 (upd ((va_up (va_up (va_up F (62 + (p0).toNatClampNeg) (va_cpy (F 72) (F (62 + (p0).toNatClampNeg)) (0 : Int32).toNatClampNeg (0 : Int32).toNatClampNeg (z1190 : Int32).toNatClampNeg)) 58 (upd ((va_up F (62 + (p0).toNatClampNeg) (va_cpy (F 72) (F (62 + (p0).toNatClampNeg)) (0 : Int32).toNatClampNeg (0 : Int32).toNatClampNeg (z1190 : Int32).toNatClampNeg)) 58) (p0).toNatClampNeg (v 186))) 59 (upd ((va_up (va_up F (62 + (p0).toNatClampNeg) (va_cpy (F 72) (F (62 + (p0).toNatClampNeg)) (0 : Int32).toNatClampNeg (0 : Int32).toNatClampNeg (z1190 : Int32).toNatClampNeg)) 58 (upd ((va_up F (62 + (p0).toNatClampNeg) (va_cpy (F 72) (F (62 + (p0).toNatClampNeg)) (0 : Int32).toNatClampNeg (0 : Int32).toNatClampNeg (z1190 : Int32).toNatClampNeg)) 58) (p0).toNatClampNeg (v 186))) 59) (p0).toNatClampNeg p1)) 60) (p0).toNatClampNeg p2)) rc) H := hP
  exact W.iret (v := v 186) hx hb hr (fun t ht hW => ⟨⟨(v 186), (v, (va_up (va_up (va_up (va_up F (62 + (p0).toNatClampNeg) (va_cpy (F 72) (F (62 + (p0).toNatClampNeg)) (0 : Int32).toNatClampNeg (0 : Int32).toNatClampNeg (z1190 : Int32).toNatClampNeg)) 58 (upd ((va_up F (62 + (p0).toNatClampNeg) (va_cpy (F 72) (F (62 + (p0).toNatClampNeg)) (0 : Int32).toNatClampNeg (0 : Int32).toNatClampNeg (z1190 : Int32).toNatClampNeg)) 58) (p0).toNatClampNeg (v 186))) 59 (upd ((va_up (va_up F (62 + (p0).toNatClampNeg) (va_cpy (F 72) (F (62 + (p0).toNatClampNeg)) (0 : Int32).toNatClampNeg (0 : Int32).toNatClampNeg (z1190 : Int32).toNatClampNeg)) 58 (upd ((va_up F (62 + (p0).toNatClampNeg) (va_cpy (F 72) (F (62 + (p0).toNatClampNeg)) (0 : Int32).toNatClampNeg (0 : Int32).toNatClampNeg (z1190 : Int32).toNatClampNeg)) 58) (p0).toNatClampNeg (v 186))) 59) (p0).toNatClampNeg p1)) 60 (upd ((va_up (va_up (va_up F (62 + (p0).toNatClampNeg) (va_cpy (F 72) (F (62 + (p0).toNatClampNeg)) (0 : Int32).toNatClampNeg (0 : Int32).toNatClampNeg (z1190 : Int32).toNatClampNeg)) 58 (upd ((va_up F (62 + (p0).toNatClampNeg) (va_cpy (F 72) (F (62 + (p0).toNatClampNeg)) (0 : Int32).toNatClampNeg (0 : Int32).toNatClampNeg (z1190 : Int32).toNatClampNeg)) 58) (p0).toNatClampNeg (v 186))) 59 (upd ((va_up (va_up F (62 + (p0).toNatClampNeg) (va_cpy (F 72) (F (62 + (p0).toNatClampNeg)) (0 : Int32).toNatClampNeg (0 : Int32).toNatClampNeg (z1190 : Int32).toNatClampNeg)) 58 (upd ((va_up F (62 + (p0).toNatClampNeg) (va_cpy (F 72) (F (62 + (p0).toNatClampNeg)) (0 : Int32).toNatClampNeg (0 : Int32).toNatClampNeg (z1190 : Int32).toNatClampNeg)) 58) (p0).toNatClampNeg (v 186))) 59) (p0).toNatClampNeg p1)) 60) (p0).toNatClampNeg p2)), rc), rfl, ⟨hI, hal, rfl, (fun _ _ => rfl), trivial⟩, (by show va_P _ _ _ t.heap; rw [ht]; exact hP9)⟩, hS.F ht⟩) hS.2.2 dX0_sign_49
set_option maxHeartbeats 8000000 in
set_option maxRecDepth 100000 in
theorem c_X0_take (l : Launch) (dC : Nat → ClassId) (dI : Nat → Nat → Nat) (g : Nat → Nat) (c : Nat → ClassId) (adK adV : Nat → Nat) (v : Nat → Int32) (F : Nat → Nat → Int32) (rc sz : Nat) (p0 : Int32) (hg : injX g) (hI : IX v F) : Met l yX0_take (Cond.code yX0_take cX0_take 2 none :: wA) ({ frames := 2, cells := 0, slots := 0, locals := 80 }) (va_Pc [.ref (g 9), .int p0] (PX dC dI g c adK adV v F rc sz)) (va_Qv (fun (u : StX) => IX u.1 u.2.1 ∧ alX u.1 u.2.1 = alX v F ∧ u.2.2 = rc ∧ (∀ k, k ∉ ([187, 188] : List Nat) → u.1 k = v k) ∧ True) (BX dC dI g c) (AX g sz)) 0 0 (AX g sz) := by
  refine Met.ofW (cc := cX0_take) (maxL := 2) (ret := none) (by decide) rfl ?_
  intro p e s m args below meth c0 s₁ B hml hv
  obtain ⟨rfl, hsz, hP, hK, hE⟩ := hv
  have hx := B.exec
  have hb := B.bytes
  have hr := B.returns
  have hts := atoms_spec (ws := Cond.code yX0_take cX0_take 2 none :: wA) B.pre
  have hwd : ∀ w ∈ wA, w.before _ s = true := fun w h => hts w (List.mem_cons_of_mem _ h)
  have hown : s.vm.findClass RX0 = some m.cls := findClass_of_methodNamed B.named
  have hlocks := B.notSynchronized
  subst hsz
  have hl := lv_entry ([.ref (g 9), .int p0]) (n := 2) (Nat.le_of_ble_eq_true rfl)
  rw [lg_entry_eq]
  generalize (lg_sl ([.ref (g 9), .int p0]) ++ List.replicate (2 - (lg_sl ([.ref (g 9), .int p0])).length) Slot.unset).toArray = ls at hl ⊢
  have hl : lv_has ls 2 [(0, .ref (g 9)), (1, .int p0)] := hl
  obtain ⟨H, eH⟩ : ∃ z, z = s.heap := ⟨_, rfl⟩
  have hP : va_P (dC, dI) classes (wX g c v F rc) H := by rw [eH]; exact hP
  have hS : va_S (AX g s.heap.size) s.heap H [] := by rw [eH]; exact va_S.rf
  refine my_heap eH ?_
  have hal : alX v F = alX v F := rfl
  have rp0 := i32_rng p0
  refine lv_aload_n hx hb dX0_take_0 rfl (lv_at hl 0 rfl) ?_
  refine va_get (D := (dC, dI)) (ci := 0) (v := .int (v 188)) (C := RX0) (T := TX0) (N := 9) hx hb hwd inA_X0 hown hK hP 9 rfl rfl 8 (by decide) (hwd _ wk_1096) (fun _ h9 => h9) rfl dX0_take_1 ?_
  refine lv_iconst (v := (-1)) hx hb dX0_take_4 (by decide) ?_
  refine lv_icmp_eq (tgt := 9) hx hb dX0_take_5 (by decide) (fun c1195 => ?_) (fun c1195 => ?_)
  · skip
    have t1196 := cv_eq (a := (v 188).toInt) rfl (b := (-1)) (by decide) c1195
    refine lv_aload_n hx hb dX0_take_9 rfl (lv_at hl 0 rfl) ?_
    refine va_get (D := (dC, dI)) (ci := 0) (v := .ref (g 5)) (C := RX0) (T := TX0) (N := 9) hx hb hwd inA_X0 hown hK hP 9 rfl rfl 0 (by decide) (hwd _ wk_138) (fun _ h9 => h9) rfl dX0_take_10 ?_
    refine lv_aload_n hx hb dX0_take_13 rfl (lv_at hl 0 rfl) ?_
    refine va_get (D := (dC, dI)) (ci := 0) (v := .int (v 187)) (C := RX0) (T := TX0) (N := 9) hx hb hwd inA_X0 hown hK hP 9 rfl rfl 7 (by decide) (hwd _ wk_1095) (fun _ h9 => h9) rfl dX0_take_14 ?_
    refine va_calli (va_runV (As := [.int (v 187)]) (rest := []) ⟨hx, hb, hml, hown, hwd⟩ (c_X10_at l dC dI g c adK adV v F rc H.size (v 187) hg hI ) (cwV 1 hwd (gV wk_870 wk_1102 wk_868 wk_869 wk_30) rfl rfl rfl (by decide +kernel) ⟨Nat.le_of_ble_eq_true rfl, Nat.le_of_ble_eq_true rfl⟩) ⟨PX.blind, va_recv hK hP (ci := 10) (q0 := 5) rfl rfl, fun U hU hW => ⟨rfl, PX.at hK hE hP hS hU hW⟩⟩ rfl rfl hl.1 rfl (lv_room (Nat.le_of_ble_eq_true rfl)) dX0_take_17 ⟨Nat.le_of_ble_eq_true rfl, Nat.le_of_ble_eq_true rfl⟩) hS (fun q _ h => (freeX hS) q h) (freeX hS) (fun r1197 u t H1 locs ht hvm hw hB hz1 hk1 hS => ?_)
    unfold BX at hB
    rw [ht] at hB
    have hP : va_P (dC, dI) classes (wX g c v F rc) H1 := hB
    generalize H1 = H at hP hS ⊢
    have rr_r1197 := i32_rng r1197
    refine lv_iload_n hx hb dX0_take_20 rfl (lv_at hl 1 rfl) ?_
    refine lv_icmp_ne (tgt := 37) hx hb dX0_take_21 (by decide) (fun c1198 => ?_) (fun c1198 => ?_)
    · skip
      have t1199 := cv_ne (a := r1197.toInt) rfl (b := p0.toInt) rfl c1198
      refine lv_aload_n hx hb dX0_take_37 rfl (lv_at hl 0 rfl) ?_
      refine lv_aload_n hx hb dX0_take_38 rfl (lv_at hl 0 rfl) ?_
      refine va_get (D := (dC, dI)) (ci := 0) (v := .int (v 187)) (C := RX0) (T := TX0) (N := 9) hx hb hwd inA_X0 hown hK hP 9 rfl rfl 7 (by decide) (hwd _ wk_1095) (fun _ h9 => h9) rfl dX0_take_39 ?_
      refine va_put (D := (dC, dI)) (ci := 0) (v := .int (v 187)) (ty := .int) (C := RX0) (T := TX0) (N := 9) (fs := fsX_9 g v rc) hx hb hwd inA_X0 tyX0 tyX0_ok nmX0 hown hK hP (DX hg) hS 9 rfl rfl 8 (by decide) (hwd _ wk_1096) (fun _ h9 => h9) rfl (by decide +kernel) rfl rfl (Nat.le_of_ble_eq_true rfl) dX0_take_42 (fun H locs hP _ hS => ?_)
      have hP := va_P_eq (pX_188 g c _ _ _ _) hP
      have hI := IX.put0 hI 188 (v 187) rfl
      have hal := (alX_v _ _ 188 (v 187) (by decide) (by decide) (by decide) (by decide)).trans hal
      have hP9 : va_P (dC, dI) classes (wX g c (va_up v 188 (v 187)) F rc) H := hP
      exact W.vret hx hb hr (fun t ht hW => ⟨⟨((va_up v 188 (v 187)), F, rc), rfl, ⟨hI, hal, rfl, (frU (by decide) (fun _ _ => rfl)), trivial⟩, (by show va_P _ _ _ t.heap; rw [ht]; exact hP9)⟩, hS.F ht⟩) hS.2.2 dX0_take_45
    · skip
      have t1200 := cv_eq (a := r1197.toInt) rfl (b := p0.toInt) rfl c1198
      refine lv_aload_n hx hb dX0_take_24 rfl (lv_at hl 0 rfl) ?_
      refine lv_dup hx hb dX0_take_25 rfl ?_
      refine va_get (D := (dC, dI)) (ci := 0) (v := .int (v 187)) (C := RX0) (T := TX0) (N := 9) hx hb hwd inA_X0 hown hK hP 9 rfl rfl 7 (by decide) (hwd _ wk_1095) (fun _ h9 => h9) rfl dX0_take_26 ?_
      refine lv_iconst (v := 1) hx hb dX0_take_29 (by decide) ?_
      refine lv_iadd hx hb dX0_take_30 ?_
      refine lv_topi (fun z1201 e1202 => ?_)
      try (have t1203 := tadd e1202 (a := (v 187).toInt) rfl (b := 1) (by decide) (by omega))
      refine va_put (D := (dC, dI)) (ci := 0) (v := .int z1201) (ty := .int) (C := RX0) (T := TX0) (N := 9) (fs := fsX_9 g v rc) hx hb hwd inA_X0 tyX0 tyX0_ok nmX0 hown hK hP (DX hg) hS 9 rfl rfl 7 (by decide) (hwd _ wk_1095) (fun _ h9 => h9) rfl (by decide +kernel) rfl rfl (Nat.le_of_ble_eq_true rfl) dX0_take_31 (fun H locs hP _ hS => ?_)
      have hP := va_P_eq (pX_187 g c _ _ _ _) hP
      have hI := IX.put0 hI 187 z1201 rfl
      have hal := (alX_v _ _ 187 z1201 (by decide) (by decide) (by decide) (by decide)).trans hal
      refine lv_goto (tgt := 45) hx hb dX0_take_34 (by decide) ?_
      have hP9 : va_P (dC, dI) classes (wX g c (va_up v 187 z1201) F rc) H := hP
      exact W.vret hx hb hr (fun t ht hW => ⟨⟨((va_up v 187 z1201), F, rc), rfl, ⟨hI, hal, rfl, (frU (by decide) (fun _ _ => rfl)), trivial⟩, (by show va_P _ _ _ t.heap; rw [ht]; exact hP9)⟩, hS.F ht⟩) hS.2.2 dX0_take_45
  · skip
    have t1204 := cv_ne (a := (v 188).toInt) rfl (b := (-1)) (by decide) c1195
    have hP9 : va_P (dC, dI) classes (wX g c v F rc) H := hP
    exact W.vret hx hb hr (fun t ht hW => ⟨⟨(v, F, rc), rfl, ⟨hI, hal, rfl, (fun _ _ => rfl), trivial⟩, (by show va_P _ _ _ t.heap; rw [ht]; exact hP9)⟩, hS.F ht⟩) hS.2.2 dX0_take_8
set_option maxHeartbeats 8000000 in
set_option maxRecDepth 100000 in
theorem c_X0_readNumber (l : Launch) (dC : Nat → ClassId) (dI : Nat → Nat → Nat) (g : Nat → Nat) (c : Nat → ClassId) (adK adV : Nat → Nat) (v : Nat → Int32) (F : Nat → Nat → Int32) (rc sz : Nat) (p0 : Int32) (hg : injX g) (hI : IX v F) (h0 : 0 ≤ p0.toInt ∧ p0.toInt ≤ 119) : Met l yX0_readNumber (Cond.code yX0_readNumber cX0_readNumber 3 none :: wA) ({ frames := 4, cells := 0, slots := 0, locals := 160 }) (va_Pc [.ref (g 9), .int p0] (PX dC dI g c adK adV v F rc sz)) (va_Qv (fun (u : StX) => IX u.1 u.2.1 ∧ alX u.1 u.2.1 = alX v F ∧ u.2.2 = rc ∧ (∀ k, k ∉ ([187, 188] : List Nat) → u.1 k = v k) ∧ True) (BX dC dI g c) (AX g sz)) 0 0 (AX g sz) := by
  refine Met.ofW (cc := cX0_readNumber) (maxL := 3) (ret := none) (by decide) rfl ?_
  intro p e s m args below meth c0 s₁ B hml hv
  obtain ⟨rfl, hsz, hP, hK, hE⟩ := hv
  have hx := B.exec
  have hb := B.bytes
  have hr := B.returns
  have hts := atoms_spec (ws := Cond.code yX0_readNumber cX0_readNumber 3 none :: wA) B.pre
  have hwd : ∀ w ∈ wA, w.before _ s = true := fun w h => hts w (List.mem_cons_of_mem _ h)
  have hown : s.vm.findClass RX0 = some m.cls := findClass_of_methodNamed B.named
  have hlocks := B.notSynchronized
  subst hsz
  have hl := lv_entry ([.ref (g 9), .int p0]) (n := 3) (Nat.le_of_ble_eq_true rfl)
  rw [lg_entry_eq]
  generalize (lg_sl ([.ref (g 9), .int p0]) ++ List.replicate (3 - (lg_sl ([.ref (g 9), .int p0])).length) Slot.unset).toArray = ls at hl ⊢
  have hl : lv_has ls 3 [(0, .ref (g 9)), (1, .int p0)] := hl
  obtain ⟨H, eH⟩ : ∃ z, z = s.heap := ⟨_, rfl⟩
  have hP : va_P (dC, dI) classes (wX g c v F rc) H := by rw [eH]; exact hP
  have hS : va_S (AX g s.heap.size) s.heap H [] := by rw [eH]; exact va_S.rf
  refine my_heap eH ?_
  have hal : alX v F = alX v F := rfl
  have rp0 := i32_rng p0
  refine lv_aload_n hx hb dX0_readNumber_0 rfl (lv_at hl 0 rfl) ?_
  refine va_get (D := (dC, dI)) (ci := 0) (v := .int (v 188)) (C := RX0) (T := TX0) (N := 9) hx hb hwd inA_X0 hown hK hP 9 rfl rfl 8 (by decide) (hwd _ wk_1096) (fun _ h9 => h9) rfl dX0_readNumber_1 ?_
  refine lv_iconst (v := (-1)) hx hb dX0_readNumber_4 (by decide) ?_
  refine lv_icmp_eq (tgt := 9) hx hb dX0_readNumber_5 (by decide) (fun c1205 => ?_) (fun c1205 => ?_)
  · skip
    have t1206 := cv_eq (a := (v 188).toInt) rfl (b := (-1)) (by decide) c1205
    refine lv_aload_n hx hb dX0_readNumber_9 rfl (lv_at hl 0 rfl) ?_
    refine va_get (D := (dC, dI)) (ci := 0) (v := .ref (g 5)) (C := RX0) (T := TX0) (N := 9) hx hb hwd inA_X0 hown hK hP 9 rfl rfl 0 (by decide) (hwd _ wk_138) (fun _ h9 => h9) rfl dX0_readNumber_10 ?_
    refine lv_aload_n hx hb dX0_readNumber_13 rfl (lv_at hl 0 rfl) ?_
    refine va_get (D := (dC, dI)) (ci := 0) (v := .int (v 187)) (C := RX0) (T := TX0) (N := 9) hx hb hwd inA_X0 hown hK hP 9 rfl rfl 7 (by decide) (hwd _ wk_1095) (fun _ h9 => h9) rfl dX0_readNumber_14 ?_
    refine va_calli (va_runV (As := [.int (v 187)]) (rest := []) ⟨hx, hb, hml, hown, hwd⟩ (c_X10_digitsAt l dC dI g c adK adV v F rc H.size (v 187) hg hI ) (cwV 1 hwd (gV wk_979 wk_1114 wk_977 wk_978 wk_30) rfl rfl rfl (by decide +kernel) ⟨Nat.le_of_ble_eq_true rfl, Nat.le_of_ble_eq_true rfl⟩) ⟨PX.blind, va_recv hK hP (ci := 10) (q0 := 5) rfl rfl, fun U hU hW => ⟨rfl, PX.at hK hE hP hS hU hW⟩⟩ rfl rfl hl.1 rfl (lv_room (Nat.le_of_ble_eq_true rfl)) dX0_readNumber_17 ⟨Nat.le_of_ble_eq_true rfl, Nat.le_of_ble_eq_true rfl⟩) hS (fun q _ h => (freeX hS) q h) (freeX hS) (fun r1207 u t H1 locs ht hvm hw hB hz1 hk1 hS => ?_)
    unfold BX at hB
    rw [ht] at hB
    have hP : va_P (dC, dI) classes (wX g c v F rc) H1 := hB
    have hw : 0 ≤ r1207.toInt ∧ r1207.toInt ≤ 5 := hw
    generalize H1 = H at hP hS ⊢
    have hw_r1207 := hw
    refine lv_istore_n (lv' := [(2, .int r1207), (0, .ref (g 9)), (1, .int p0)]) hx hb dX0_readNumber_20 rfl hl (by decide) rfl (fun ls hl => ?_)
    refine lv_iload_n hx hb dX0_readNumber_21 rfl (lv_at hl 0 rfl) ?_
    refine lv_if_ne (tgt := 34) hx hb dX0_readNumber_22 (by decide) (fun c1208 => ?_) (fun c1208 => ?_)
    · skip
      have t1209 := cv_ne (a := r1207.toInt) rfl (b := 0) (by decide) c1208
      refine lv_aload_n hx hb dX0_readNumber_34 rfl (lv_at hl 1 rfl) ?_
      refine va_get (D := (dC, dI)) (ci := 0) (v := .ref (g 72)) (C := RX0) (T := TX0) (N := 9) hx hb hwd inA_X0 hown hK hP 9 rfl rfl 5 (by decide) (hwd _ wk_137) (fun _ h9 => h9) rfl dX0_readNumber_35 ?_
      refine lv_iload_n hx hb dX0_readNumber_38 rfl (lv_at hl 2 rfl) ?_
      refine lv_aload_n hx hb dX0_readNumber_39 rfl (lv_at hl 1 rfl) ?_
      refine va_get (D := (dC, dI)) (ci := 0) (v := .ref (g 5)) (C := RX0) (T := TX0) (N := 9) hx hb hwd inA_X0 hown hK hP 9 rfl rfl 0 (by decide) (hwd _ wk_138) (fun _ h9 => h9) rfl dX0_readNumber_40 ?_
      refine lv_aload_n hx hb dX0_readNumber_43 rfl (lv_at hl 1 rfl) ?_
      refine va_get (D := (dC, dI)) (ci := 0) (v := .int (v 187)) (C := RX0) (T := TX0) (N := 9) hx hb hwd inA_X0 hown hK hP 9 rfl rfl 7 (by decide) (hwd _ wk_1095) (fun _ h9 => h9) rfl dX0_readNumber_44 ?_
      refine lv_iload_n hx hb dX0_readNumber_47 rfl (lv_at hl 0 rfl) ?_
      refine va_calli (va_runV (As := [.int (v 187), .int r1207]) (rest := [.int p0, .ref (g 72)]) ⟨hx, hb, hml, hown, hwd⟩ (c_X10_numberAt l dC dI g c adK adV v F rc H.size (v 187) r1207 hg hI (by omega)) (cwV 2 hwd (gV wk_988 wk_1115 wk_986 wk_987 wk_30) rfl rfl rfl (by decide +kernel) ⟨Nat.le_of_ble_eq_true rfl, Nat.le_of_ble_eq_true rfl⟩) ⟨PX.blind, va_recv hK hP (ci := 10) (q0 := 5) rfl rfl, fun U hU hW => ⟨rfl, PX.at hK hE hP hS hU hW⟩⟩ rfl rfl hl.1 rfl (lv_room (Nat.le_of_ble_eq_true rfl)) dX0_readNumber_48 ⟨Nat.le_of_ble_eq_true rfl, Nat.le_of_ble_eq_true rfl⟩) hS (fun q _ h => (freeX hS) q h) (freeX hS) (fun r1210 u t H1 locs ht hvm hw hB hz1 hk1 hS => ?_)
      unfold BX at hB
      rw [ht] at hB
      have hP : va_P (dC, dI) classes (wX g c v F rc) H1 := hB
      generalize H1 = H at hP hS ⊢
      have rr_r1210 := i32_rng r1210
      refine va_iast hx hb hK hP (DX hg) hS 72 60 rfl rfl (i := p0) (x := r1210) (vin (a := p0.toInt) rfl (by omega)) dX0_readNumber_51 (fun H locs hP _ hS => ?_)
      have hP := va_P_eq (sX_72 g c _ _ _ _) hP
      have hI := IX.store0 hI 72 (p0).toNatClampNeg r1210 rfl
      have hal := (alX_F _ _ 72 (upd (F 72) (p0).toNatClampNeg r1210) (by decide) (by decide)).trans hal
      refine lv_aload_n hx hb dX0_readNumber_52 rfl (lv_at hl 1 rfl) ?_
      refine lv_dup hx hb dX0_readNumber_53 rfl ?_
      refine va_get (D := (dC, dI)) (ci := 0) (v := .int (v 187)) (C := RX0) (T := TX0) (N := 9) hx hb hwd inA_X0 hown hK hP 9 rfl rfl 7 (by decide) (hwd _ wk_1095) (fun _ h9 => h9) rfl dX0_readNumber_54 ?_
      refine lv_iload_n hx hb dX0_readNumber_57 rfl (lv_at hl 0 rfl) ?_
      refine lv_iadd hx hb dX0_readNumber_58 ?_
      refine lv_topi (fun z1211 e1212 => ?_)
      try (have t1213 := tadd e1212 (a := (v 187).toInt) rfl (b := r1207.toInt) rfl (by omega))
      refine va_put (D := (dC, dI)) (ci := 0) (v := .int z1211) (ty := .int) (C := RX0) (T := TX0) (N := 9) (fs := fsX_9 g v rc) hx hb hwd inA_X0 tyX0 tyX0_ok nmX0 hown hK hP (DX hg) hS 9 rfl rfl 7 (by decide) (hwd _ wk_1095) (fun _ h9 => h9) rfl (by decide +kernel) rfl rfl (Nat.le_of_ble_eq_true rfl) dX0_readNumber_59 (fun H locs hP _ hS => ?_)
      have hP := va_P_eq (pX_187 g c _ _ _ _) hP
      have hI := IX.put0 hI 187 z1211 rfl
      have hal := (alX_v _ _ 187 z1211 (by decide) (by decide) (by decide) (by decide)).trans hal
      have hP9 : va_P (dC, dI) classes (wX g c (va_up v 187 z1211) (va_up F 72 (upd (F 72) (p0).toNatClampNeg r1210)) rc) H := hP
      exact W.vret hx hb hr (fun t ht hW => ⟨⟨((va_up v 187 z1211), (va_up F 72 (upd (F 72) (p0).toNatClampNeg r1210)), rc), rfl, ⟨hI, hal, rfl, (frU (by decide) (fun _ _ => rfl)), trivial⟩, (by show va_P _ _ _ t.heap; rw [ht]; exact hP9)⟩, hS.F ht⟩) hS.2.2 dX0_readNumber_62
    · skip
      have t1214 := cv_eq (a := r1207.toInt) rfl (b := 0) (by decide) c1208
      refine lv_aload_n hx hb dX0_readNumber_25 rfl (lv_at hl 1 rfl) ?_
      refine lv_aload_n hx hb dX0_readNumber_26 rfl (lv_at hl 1 rfl) ?_
      refine va_get (D := (dC, dI)) (ci := 0) (v := .int (v 187)) (C := RX0) (T := TX0) (N := 9) hx hb hwd inA_X0 hown hK hP 9 rfl rfl 7 (by decide) (hwd _ wk_1095) (fun _ h9 => h9) rfl dX0_readNumber_27 ?_
      refine va_put (D := (dC, dI)) (ci := 0) (v := .int (v 187)) (ty := .int) (C := RX0) (T := TX0) (N := 9) (fs := fsX_9 g v rc) hx hb hwd inA_X0 tyX0 tyX0_ok nmX0 hown hK hP (DX hg) hS 9 rfl rfl 8 (by decide) (hwd _ wk_1096) (fun _ h9 => h9) rfl (by decide +kernel) rfl rfl (Nat.le_of_ble_eq_true rfl) dX0_readNumber_30 (fun H locs hP _ hS => ?_)
      have hP := va_P_eq (pX_188 g c _ _ _ _) hP
      have hI := IX.put0 hI 188 (v 187) rfl
      have hal := (alX_v _ _ 188 (v 187) (by decide) (by decide) (by decide) (by decide)).trans hal
      have hP9 : va_P (dC, dI) classes (wX g c (va_up v 188 (v 187)) F rc) H := hP
      exact W.vret hx hb hr (fun t ht hW => ⟨⟨((va_up v 188 (v 187)), F, rc), rfl, ⟨hI, hal, rfl, (frU (by decide) (fun _ _ => rfl)), trivial⟩, (by show va_P _ _ _ t.heap; rw [ht]; exact hP9)⟩, hS.F ht⟩) hS.2.2 dX0_readNumber_33
  · skip
    have t1215 := cv_ne (a := (v 188).toInt) rfl (b := (-1)) (by decide) c1205
    have hP9 : va_P (dC, dI) classes (wX g c v F rc) H := hP
    exact W.vret hx hb hr (fun t ht hW => ⟨⟨(v, F, rc), rfl, ⟨hI, hal, rfl, (fun _ _ => rfl), trivial⟩, (by show va_P _ _ _ t.heap; rw [ht]; exact hP9)⟩, hS.F ht⟩) hS.2.2 dX0_readNumber_8
set_option maxHeartbeats 8000000 in
set_option maxRecDepth 100000 in
theorem c_X0_readLine (l : Launch) (dC : Nat → ClassId) (dI : Nat → Nat → Nat) (g : Nat → Nat) (c : Nat → ClassId) (adK adV : Nat → Nat) (v : Nat → Int32) (F : Nat → Nat → Int32) (rc sz : Nat) (hg : injX g) (hI : IX v F) (hq0 : (v 186).toInt ≤ 29) : Met l yX0_readLine (Cond.code yX0_readLine cX0_readLine 4 none :: wA) ({ frames := 5, cells := 0, slots := 0, locals := 200 }) (va_Pc [.ref (g 9)] (PX dC dI g c adK adV v F rc sz)) (va_Qv (fun (u : StX) => IX u.1 u.2.1 ∧ alX u.1 u.2.1 = alX v F ∧ u.2.2 = rc ∧ (∀ k, k ∉ ([187, 188] : List Nat) → u.1 k = v k) ∧ True) (BX dC dI g c) (AX g sz)) 0 0 (AX g sz) := by
  refine Met.ofW (cc := cX0_readLine) (maxL := 4) (ret := none) (by decide) rfl ?_
  intro p e s m args below meth c0 s₁ B hml hv
  obtain ⟨rfl, hsz, hP, hK, hE⟩ := hv
  have hx := B.exec
  have hb := B.bytes
  have hr := B.returns
  have hts := atoms_spec (ws := Cond.code yX0_readLine cX0_readLine 4 none :: wA) B.pre
  have hwd : ∀ w ∈ wA, w.before _ s = true := fun w h => hts w (List.mem_cons_of_mem _ h)
  have hown : s.vm.findClass RX0 = some m.cls := findClass_of_methodNamed B.named
  have hlocks := B.notSynchronized
  subst hsz
  have hl := lv_entry ([.ref (g 9)]) (n := 4) (Nat.le_of_ble_eq_true rfl)
  rw [lg_entry_eq]
  generalize (lg_sl ([.ref (g 9)]) ++ List.replicate (4 - (lg_sl ([.ref (g 9)])).length) Slot.unset).toArray = ls at hl ⊢
  have hl : lv_has ls 4 [(0, .ref (g 9))] := hl
  obtain ⟨H, eH⟩ : ∃ z, z = s.heap := ⟨_, rfl⟩
  have hP : va_P (dC, dI) classes (wX g c v F rc) H := by rw [eH]; exact hP
  have hS : va_S (AX g s.heap.size) s.heap H [] := by rw [eH]; exact va_S.rf
  refine my_heap eH ?_
  have hal : alX v F = alX v F := rfl
  refine lv_aload_n hx hb dX0_readLine_0 rfl (lv_at hl 0 rfl) ?_
  refine va_get (D := (dC, dI)) (ci := 0) (v := .ref (g 5)) (C := RX0) (T := TX0) (N := 9) hx hb hwd inA_X0 hown hK hP 9 rfl rfl 0 (by decide) (hwd _ wk_138) (fun _ h9 => h9) rfl dX0_readLine_1 ?_
  refine lv_aload_n hx hb dX0_readLine_4 rfl (lv_at hl 0 rfl) ?_
  refine va_get (D := (dC, dI)) (ci := 0) (v := .int (v 187)) (C := RX0) (T := TX0) (N := 9) hx hb hwd inA_X0 hown hK hP 9 rfl rfl 7 (by decide) (hwd _ wk_1095) (fun _ h9 => h9) rfl dX0_readLine_5 ?_
  refine va_calli (va_runV (As := [.int (v 187)]) (rest := []) ⟨hx, hb, hml, hown, hwd⟩ (c_X10_at l dC dI g c adK adV v F rc H.size (v 187) hg hI ) (cwV 1 hwd (gV wk_870 wk_1102 wk_868 wk_869 wk_30) rfl rfl rfl (by decide +kernel) ⟨Nat.le_of_ble_eq_true rfl, Nat.le_of_ble_eq_true rfl⟩) ⟨PX.blind, va_recv hK hP (ci := 10) (q0 := 5) rfl rfl, fun U hU hW => ⟨rfl, PX.at hK hE hP hS hU hW⟩⟩ rfl rfl hl.1 rfl (lv_room (Nat.le_of_ble_eq_true rfl)) dX0_readLine_8 ⟨Nat.le_of_ble_eq_true rfl, Nat.le_of_ble_eq_true rfl⟩) hS (fun q _ h => (freeX hS) q h) (freeX hS) (fun r1216 u t H1 locs ht hvm hw hB hz1 hk1 hS => ?_)
  unfold BX at hB
  rw [ht] at hB
  have hP : va_P (dC, dI) classes (wX g c v F rc) H1 := hB
  generalize H1 = H at hP hS ⊢
  have rr_r1216 := i32_rng r1216
  refine lv_istore_n (lv' := [(1, .int r1216), (0, .ref (g 9))]) hx hb dX0_readLine_11 rfl hl (by decide) rfl (fun ls hl => ?_)
  refine lv_iload_n hx hb dX0_readLine_12 rfl (lv_at hl 0 rfl) ?_
  refine va_calli (va_runS (As := [.int r1216]) (rest := []) ⟨hx, hb, hml, hown, hwd⟩ (c_X0_numbersBehind l dC dI g c adK adV v F rc H.size r1216 hg hI ) (va_cwS 1 hwd (gT wk_1105 wk_1103 wk_1104 wk_46) rfl rfl rfl (by decide +kernel) ⟨Nat.le_of_ble_eq_true rfl, Nat.le_of_ble_eq_true rfl⟩) ⟨PX.blind, fun U hU hW => ⟨rfl, PX.at hK hE hP hS hU hW⟩⟩ rfl rfl hl.1 rfl (lv_room (Nat.le_of_ble_eq_true rfl)) dX0_readLine_13 ⟨Nat.le_of_ble_eq_true rfl, Nat.le_of_ble_eq_true rfl⟩) hS (fun q _ h => (freeX hS) q h) (freeX hS) (fun r1217 u t H1 locs ht hvm hw hB hz1 hk1 hS => ?_)
  unfold BX at hB
  rw [ht] at hB
  have hP : va_P (dC, dI) classes (wX g c v F rc) H1 := hB
  have hw : 0 ≤ r1217.toInt ∧ r1217.toInt ≤ 3 := hw
  generalize H1 = H at hP hS ⊢
  have hw_r1217 := hw
  refine lv_istore_n (lv' := [(2, .int r1217), (1, .int r1216), (0, .ref (g 9))]) hx hb dX0_readLine_16 rfl hl (by decide) rfl (fun ls hl => ?_)
  refine lv_iload_n hx hb dX0_readLine_17 rfl (lv_at hl 0 rfl) ?_
  refine lv_if_ne (tgt := 30) hx hb dX0_readLine_18 (by decide) (fun c1218 => ?_) (fun c1218 => ?_)
  · skip
    have t1219 := cv_ne (a := r1217.toInt) rfl (b := 0) (by decide) c1218
    refine lv_aload_n hx hb dX0_readLine_30 rfl (lv_at hl 2 rfl) ?_
    refine lv_dup hx hb dX0_readLine_31 rfl ?_
    refine va_get (D := (dC, dI)) (ci := 0) (v := .int (v 187)) (C := RX0) (T := TX0) (N := 9) hx hb hwd inA_X0 hown hK hP 9 rfl rfl 7 (by decide) (hwd _ wk_1095) (fun _ h9 => h9) rfl dX0_readLine_32 ?_
    refine lv_iconst (v := 1) hx hb dX0_readLine_35 (by decide) ?_
    refine lv_iadd hx hb dX0_readLine_36 ?_
    refine lv_topi (fun z1220 e1221 => ?_)
    try (have t1222 := tadd e1221 (a := (v 187).toInt) rfl (b := 1) (by decide) (by omega))
    refine va_put (D := (dC, dI)) (ci := 0) (v := .int z1220) (ty := .int) (C := RX0) (T := TX0) (N := 9) (fs := fsX_9 g v rc) hx hb hwd inA_X0 tyX0 tyX0_ok nmX0 hown hK hP (DX hg) hS 9 rfl rfl 7 (by decide) (hwd _ wk_1095) (fun _ h9 => h9) rfl (by decide +kernel) rfl rfl (Nat.le_of_ble_eq_true rfl) dX0_readLine_37 (fun H locs hP _ hS => ?_)
    have hP := va_P_eq (pX_187 g c _ _ _ _) hP
    have hI := IX.put0 hI 187 z1220 rfl
    have hal := (alX_v _ _ 187 z1220 (by decide) (by decide) (by decide) (by decide)).trans hal
    refine lv_aload_n hx hb dX0_readLine_40 rfl (lv_at hl 2 rfl) ?_
    refine va_get (D := (dC, dI)) (ci := 0) (v := .ref (g 72)) (C := RX0) (T := TX0) (N := 9) hx hb hwd inA_X0 hown hK hP 9 rfl rfl 5 (by decide) (hwd _ wk_137) (fun _ h9 => h9) rfl dX0_readLine_41 ?_
    refine lv_aload_n hx hb dX0_readLine_44 rfl (lv_at hl 2 rfl) ?_
    refine va_get (D := (dC, dI)) (ci := 0) (v := .int (v 186)) (C := RX0) (T := TX0) (N := 9) hx hb hwd inA_X0 hown hK hP 9 rfl rfl 6 (by decide) (hwd _ wk_1094) (fun _ h9 => h9) rfl dX0_readLine_45 ?_
    have t1223 : 0 ≤ (v 186).toInt ∧ (v 186).toInt ≤ 30 := hI.1 186 _ _ rfl
    refine lv_iconst (v := 4) hx hb dX0_readLine_48 (by decide) ?_
    refine lv_imul hx hb dX0_readLine_49 ?_
    refine lv_topi (fun z1224 e1225 => ?_)
    try (have t1226 := tmul e1225 (a := (v 186).toInt) rfl (b := 4) (by decide) (by omega))
    refine lv_iload_n hx hb dX0_readLine_50 rfl (lv_at hl 1 rfl) ?_
    refine va_iast hx hb hK hP (DX hg) hS 72 60 rfl rfl (i := z1224) (x := r1216) (vin (a := z1224.toInt) rfl (by omega)) dX0_readLine_51 (fun H locs hP _ hS => ?_)
    have hP := va_P_eq (sX_72 g c _ _ _ _) hP
    have hI := IX.store0 hI 72 (z1224).toNatClampNeg r1216 rfl
    have hal := (alX_F _ _ 72 (upd (F 72) (z1224).toNatClampNeg r1216) (by decide) (by decide)).trans hal
    refine lv_iconst (v := 1) hx hb dX0_readLine_52 (by decide) ?_
    refine lv_istore_n (lv' := [(3, .int 1), (2, .int r1217), (1, .int r1216), (0, .ref (g 9))]) hx hb dX0_readLine_53 rfl hl (by decide) rfl (fun ls hl => ?_)
    have lp1227 : ∀ (n : Nat) (x3_lp1227 : Int32) (v_lp1227 : Nat → Int32) (F_lp1227 : Nat → Nat → Int32) (H : Heap) (locs : List Loc) (ls : Array Slot), (1 ≤ x3_lp1227.toInt) → (x3_lp1227.toInt ≤ 4) → (2147483648 - x3_lp1227.toInt ≤ (n : Int)) → (∀ k, k ∉ ([187, 188] : List Nat) → v_lp1227 k = (va_up v 187 z1220) k) → IX v_lp1227 F_lp1227 → alX v_lp1227 F_lp1227 = alX v F → va_P (dC, dI) classes (wX g c v_lp1227 F_lp1227 rc) H → va_S (AX g s.heap.size) s.heap H locs → lv_has ls 4 [(3, .int x3_lp1227), (2, .int r1217), (1, .int r1216), (0, .ref (g 9))] → W p l e (headSpec (Cond.code yX0_readLine cX0_readLine 4 none :: wA) ({ frames := 5, cells := 0, slots := 0, locals := 200 })).room s m ([.ref (g 9)] : List Value).toArray below meth c0 H locs 0 0 (MQ below (va_Qv (fun (u : StX) => IX u.1 u.2.1 ∧ alX u.1 u.2.1 = alX v F ∧ u.2.2 = rc ∧ (∀ k, k ∉ ([187, 188] : List Nat) → u.1 k = v k) ∧ True) (BX dC dI g c) (AX g s.heap.size)) ([.ref (g 9)] : List Value).toArray s 0 0 (AX g s.heap.size)) (F0 m 54 ls []) := by
      intro n
      induction n with
      | zero =>
        intro x3_lp1227 v_lp1227 F_lp1227 H locs ls t1228 t1229 hm hf_lp1227 hI hal hP hS hl
        exfalso
        have := i32_rng x3_lp1227
        have hI1 := hI.1
        omega
      | succ n ih_lp1227 =>
        intro x3_lp1227 v_lp1227 F_lp1227 H locs ls t1228 t1229 hm hf_lp1227 hI hal hP hS hl
        have rx3_lp1227 := i32_rng x3_lp1227
        refine lv_iload_n hx hb dX0_readLine_54 rfl (lv_at hl 0 rfl) ?_
        refine lv_iload_n hx hb dX0_readLine_55 rfl (lv_at hl 1 rfl) ?_
        refine lv_icmp_gt (tgt := 91) hx hb dX0_readLine_56 (by decide) (fun c1230 => ?_) (fun c1230 => ?_)
        · skip
          have t1231 := cv_lt (a := r1217.toInt) rfl (b := x3_lp1227.toInt) rfl c1230
          refine lv_aload_n hx hb dX0_readLine_91 rfl (lv_at hl 3 rfl) ?_
          refine lv_bipush (v := 59) hx hb dX0_readLine_92 (by decide) ?_
          refine va_callv (va_runV (As := [.int 59]) (rest := []) ⟨hx, hb, hml, hown, hwd⟩ (c_X0_take l dC dI g c adK adV v_lp1227 F_lp1227 rc H.size 59 hg hI ) (cwV 1 hwd (gV wk_1109 wk_1106 wk_1107 wk_1108 wk_46) rfl rfl rfl (by decide +kernel) ⟨Nat.le_of_ble_eq_true rfl, Nat.le_of_ble_eq_true rfl⟩) ⟨PX.blind, va_recv hK hP (ci := 0) (q0 := 9) rfl rfl, fun U hU hW => ⟨rfl, PX.at hK hE hP hS hU hW⟩⟩ rfl rfl hl.1 rfl (lv_room (Nat.le_of_ble_eq_true rfl)) dX0_readLine_94 ⟨Nat.le_of_ble_eq_true rfl, Nat.le_of_ble_eq_true rfl⟩) hS (fun q _ h => (freeX hS) q h) (freeX hS) (fun u t H1 locs ht hvm hw hB hz1 hk1 hS => ?_)
          unfold BX at hB
          rw [ht] at hB
          obtain ⟨v1233, F1234, rc9⟩ := u
          obtain ⟨hI, hal9, hrc, hf1235, hw⟩ := hw
          dsimp only at hI hal9 hrc hB hf1235 hw
          rw [hrc] at hB
          have hal : alX v1233 F1234 = alX v F := hal9.trans hal
          have hP : va_P (dC, dI) classes (wX g c v1233 F1234 rc) H1 := hB
          generalize H1 = H at hP hS ⊢
          have hP9 : va_P (dC, dI) classes (wX g c v1233 F1234 rc) H := hP
          exact W.vret hx hb hr (fun t ht hW => ⟨⟨(v1233, F1234, rc), rfl, ⟨hI, hal, rfl, (frC (by decide) hf1235 (frC (by decide) hf_lp1227 (frU (by decide) (fun _ _ => rfl)))), trivial⟩, (by show va_P _ _ _ t.heap; rw [ht]; exact hP9)⟩, hS.F ht⟩) hS.2.2 dX0_readLine_97
        · skip
          have t1236 := cv_nlt (a := r1217.toInt) rfl (b := x3_lp1227.toInt) rfl c1230
          refine lv_aload_n hx hb dX0_readLine_59 rfl (lv_at hl 3 rfl) ?_
          refine va_get (D := (dC, dI)) (ci := 0) (v := .int (v_lp1227 188)) (C := RX0) (T := TX0) (N := 9) hx hb hwd inA_X0 hown hK hP 9 rfl rfl 8 (by decide) (hwd _ wk_1096) (fun _ h9 => h9) rfl dX0_readLine_60 ?_
          refine lv_iconst (v := (-1)) hx hb dX0_readLine_63 (by decide) ?_
          refine lv_icmp_ne (tgt := 91) hx hb dX0_readLine_64 (by decide) (fun c1237 => ?_) (fun c1237 => ?_)
          · skip
            have t1238 := cv_ne (a := (v_lp1227 188).toInt) rfl (b := (-1)) (by decide) c1237
            refine lv_aload_n hx hb dX0_readLine_91 rfl (lv_at hl 3 rfl) ?_
            refine lv_bipush (v := 59) hx hb dX0_readLine_92 (by decide) ?_
            refine va_callv (va_runV (As := [.int 59]) (rest := []) ⟨hx, hb, hml, hown, hwd⟩ (c_X0_take l dC dI g c adK adV v_lp1227 F_lp1227 rc H.size 59 hg hI ) (cwV 1 hwd (gV wk_1109 wk_1106 wk_1107 wk_1108 wk_46) rfl rfl rfl (by decide +kernel) ⟨Nat.le_of_ble_eq_true rfl, Nat.le_of_ble_eq_true rfl⟩) ⟨PX.blind, va_recv hK hP (ci := 0) (q0 := 9) rfl rfl, fun U hU hW => ⟨rfl, PX.at hK hE hP hS hU hW⟩⟩ rfl rfl hl.1 rfl (lv_room (Nat.le_of_ble_eq_true rfl)) dX0_readLine_94 ⟨Nat.le_of_ble_eq_true rfl, Nat.le_of_ble_eq_true rfl⟩) hS (fun q _ h => (freeX hS) q h) (freeX hS) (fun u t H1 locs ht hvm hw hB hz1 hk1 hS => ?_)
            unfold BX at hB
            rw [ht] at hB
            obtain ⟨v1240, F1241, rc9⟩ := u
            obtain ⟨hI, hal9, hrc, hf1242, hw⟩ := hw
            dsimp only at hI hal9 hrc hB hf1242 hw
            rw [hrc] at hB
            have hal : alX v1240 F1241 = alX v F := hal9.trans hal
            have hP : va_P (dC, dI) classes (wX g c v1240 F1241 rc) H1 := hB
            generalize H1 = H at hP hS ⊢
            have hP9 : va_P (dC, dI) classes (wX g c v1240 F1241 rc) H := hP
            exact W.vret hx hb hr (fun t ht hW => ⟨⟨(v1240, F1241, rc), rfl, ⟨hI, hal, rfl, (frC (by decide) hf1242 (frC (by decide) hf_lp1227 (frU (by decide) (fun _ _ => rfl)))), trivial⟩, (by show va_P _ _ _ t.heap; rw [ht]; exact hP9)⟩, hS.F ht⟩) hS.2.2 dX0_readLine_97
          · skip
            have t1243 := cv_eq (a := (v_lp1227 188).toInt) rfl (b := (-1)) (by decide) c1237
            refine lv_aload_n hx hb dX0_readLine_67 rfl (lv_at hl 3 rfl) ?_
            refine lv_bipush (v := 32) hx hb dX0_readLine_68 (by decide) ?_
            refine va_callv (va_runV (As := [.int 32]) (rest := []) ⟨hx, hb, hml, hown, hwd⟩ (c_X0_take l dC dI g c adK adV v_lp1227 F_lp1227 rc H.size 32 hg hI ) (cwV 1 hwd (gV wk_1109 wk_1106 wk_1107 wk_1108 wk_46) rfl rfl rfl (by decide +kernel) ⟨Nat.le_of_ble_eq_true rfl, Nat.le_of_ble_eq_true rfl⟩) ⟨PX.blind, va_recv hK hP (ci := 0) (q0 := 9) rfl rfl, fun U hU hW => ⟨rfl, PX.at hK hE hP hS hU hW⟩⟩ rfl rfl hl.1 rfl (lv_room (Nat.le_of_ble_eq_true rfl)) dX0_readLine_70 ⟨Nat.le_of_ble_eq_true rfl, Nat.le_of_ble_eq_true rfl⟩) hS (fun q _ h => (freeX hS) q h) (freeX hS) (fun u t H1 locs ht hvm hw hB hz1 hk1 hS => ?_)
            unfold BX at hB
            rw [ht] at hB
            obtain ⟨v1245, F1246, rc9⟩ := u
            obtain ⟨hI, hal9, hrc, hf1247, hw⟩ := hw
            dsimp only at hI hal9 hrc hB hf1247 hw
            rw [hrc] at hB
            have hal : alX v1245 F1246 = alX v F := hal9.trans hal
            have hP : va_P (dC, dI) classes (wX g c v1245 F1246 rc) H1 := hB
            generalize H1 = H at hP hS ⊢
            refine lv_aload_n hx hb dX0_readLine_73 rfl (lv_at hl 3 rfl) ?_
            refine lv_aload_n hx hb dX0_readLine_74 rfl (lv_at hl 3 rfl) ?_
            refine va_get (D := (dC, dI)) (ci := 0) (v := .int (v1245 186)) (C := RX0) (T := TX0) (N := 9) hx hb hwd inA_X0 hown hK hP 9 rfl rfl 6 (by decide) (hwd _ wk_1094) (fun _ h9 => h9) rfl dX0_readLine_75 ?_
            refine my_top (v := v 186) ((hf1247 186 (by decide)).trans (hf_lp1227 186 (by decide))) ?_
            have t1248 : 0 ≤ (v 186).toInt ∧ (v 186).toInt ≤ 30 := by have h9 := hI.1 186 _ _ rfl; rw [show v1245 186 = v 186 from (hf1247 186 (by decide)).trans (hf_lp1227 186 (by decide))] at h9; exact h9
            refine lv_iconst (v := 4) hx hb dX0_readLine_78 (by decide) ?_
            refine lv_imul hx hb dX0_readLine_79 ?_
            refine lv_topi (fun z1249 e1250 => ?_)
            try (have t1251 := tmul e1250 (a := (v 186).toInt) rfl (b := 4) (by decide) (by omega))
            refine lv_iload_n hx hb dX0_readLine_80 rfl (lv_at hl 0 rfl) ?_
            refine lv_iadd hx hb dX0_readLine_81 ?_
            refine lv_topi (fun z1252 e1253 => ?_)
            try (have t1254 := tadd e1253 (a := z1249.toInt) rfl (b := x3_lp1227.toInt) rfl (by omega))
            refine va_callv (va_runV (As := [.int z1252]) (rest := []) ⟨hx, hb, hml, hown, hwd⟩ (c_X0_readNumber l dC dI g c adK adV v1245 F1246 rc H.size z1252 hg hI (by omega)) (cwV 1 hwd (gV wk_1113 wk_1110 wk_1111 wk_1112 wk_46) rfl rfl rfl (by decide +kernel) ⟨Nat.le_of_ble_eq_true rfl, Nat.le_of_ble_eq_true rfl⟩) ⟨PX.blind, va_recv hK hP (ci := 0) (q0 := 9) rfl rfl, fun U hU hW => ⟨rfl, PX.at hK hE hP hS hU hW⟩⟩ rfl rfl hl.1 rfl (lv_room (Nat.le_of_ble_eq_true rfl)) dX0_readLine_82 ⟨Nat.le_of_ble_eq_true rfl, Nat.le_of_ble_eq_true rfl⟩) hS (fun q _ h => (freeX hS) q h) (freeX hS) (fun u t H1 locs ht hvm hw hB hz1 hk1 hS => ?_)
            unfold BX at hB
            rw [ht] at hB
            obtain ⟨v1256, F1257, rc9⟩ := u
            obtain ⟨hI, hal9, hrc, hf1258, hw⟩ := hw
            dsimp only at hI hal9 hrc hB hf1258 hw
            rw [hrc] at hB
            have hal : alX v1256 F1257 = alX v F := hal9.trans hal
            have hP : va_P (dC, dI) classes (wX g c v1256 F1257 rc) H1 := hB
            generalize H1 = H at hP hS ⊢
            obtain ⟨z1259, e1260⟩ : ∃ y : Int32, y = x3_lp1227 + 1 := ⟨_, rfl⟩
            try (have t1261 := tadd e1260 rfl (b := 1) (by decide) (by omega))
            refine lv_iinc (v := z1259) (lv' := [(3, .int z1259), (2, .int r1217), (1, .int r1216), (0, .ref (g 9))]) hx hb dX0_readLine_85 hl (k := 0) rfl (by rw [e1260]; rfl) (by decide) rfl (fun ls hl => ?_)
            refine lv_goto (tgt := 54) hx hb dX0_readLine_88 (by decide) ?_
            exact ih_lp1227 z1259 v1256 F1257 _ _ _ (by omega) (by omega) (by omega) (frC (by decide) hf1258 (frC (by decide) hf1247 hf_lp1227)) hI hal hP hS (lv_sub hl [0, 1, 2, 3] rfl)
    obtain ⟨n9, hn9⟩ : ∃ n : Nat, 2147483648 - 1 ≤ (n : Int) := ⟨((2147483648 - 1 : Int)).toNat, by omega⟩
    exact lp1227 n9 1 (va_up v 187 z1220) (va_up F 72 (upd (F 72) (z1224).toNatClampNeg r1216)) H _ ls (by have : (1 : Int32).toInt = 1 := (by decide); omega) (by have : (1 : Int32).toInt = 1 := (by decide); omega) (by have : (1 : Int32).toInt = 1 := (by decide); omega) (fun _ _ => rfl) hI hal hP hS hl
  · skip
    have t1262 := cv_eq (a := r1217.toInt) rfl (b := 0) (by decide) c1218
    refine lv_aload_n hx hb dX0_readLine_21 rfl (lv_at hl 2 rfl) ?_
    refine lv_aload_n hx hb dX0_readLine_22 rfl (lv_at hl 2 rfl) ?_
    refine va_get (D := (dC, dI)) (ci := 0) (v := .int (v 187)) (C := RX0) (T := TX0) (N := 9) hx hb hwd inA_X0 hown hK hP 9 rfl rfl 7 (by decide) (hwd _ wk_1095) (fun _ h9 => h9) rfl dX0_readLine_23 ?_
    refine va_put (D := (dC, dI)) (ci := 0) (v := .int (v 187)) (ty := .int) (C := RX0) (T := TX0) (N := 9) (fs := fsX_9 g v rc) hx hb hwd inA_X0 tyX0 tyX0_ok nmX0 hown hK hP (DX hg) hS 9 rfl rfl 8 (by decide) (hwd _ wk_1096) (fun _ h9 => h9) rfl (by decide +kernel) rfl rfl (Nat.le_of_ble_eq_true rfl) dX0_readLine_26 (fun H locs hP _ hS => ?_)
    have hP := va_P_eq (pX_188 g c _ _ _ _) hP
    have hI := IX.put0 hI 188 (v 187) rfl
    have hal := (alX_v _ _ 188 (v 187) (by decide) (by decide) (by decide) (by decide)).trans hal
    have hP9 : va_P (dC, dI) classes (wX g c (va_up v 188 (v 187)) F rc) H := hP
    exact W.vret hx hb hr (fun t ht hW => ⟨⟨((va_up v 188 (v 187)), F, rc), rfl, ⟨hI, hal, rfl, (frU (by decide) (fun _ _ => rfl)), trivial⟩, (by show va_P _ _ _ t.heap; rw [ht]; exact hP9)⟩, hS.F ht⟩) hS.2.2 dX0_readLine_29
set_option maxHeartbeats 8000000 in
set_option maxRecDepth 100000 in
theorem c_X0_read (l : Launch) (dC : Nat → ClassId) (dI : Nat → Nat → Nat) (g : Nat → Nat) (c : Nat → ClassId) (adK adV : Nat → Nat) (v : Nat → Int32) (F : Nat → Nat → Int32) (rc sz : Nat) (hg : injX g) (hI : IX v F) : Met l yX0_read (Cond.code yX0_read cX0_read 1 (some .int) :: wA) ({ frames := 6, cells := 0, slots := 0, locals := 240 }) (va_Pc [.ref (g 9)] (PX dC dI g c adK adV v F rc sz)) (va_Qi (fun (r : Int32) (u : StX) => IX u.1 u.2.1 ∧ alX u.1 u.2.1 = alX v F ∧ u.2.2 = rc ∧ (∀ k, k ∉ ([186, 187, 188] : List Nat) → u.1 k = v k) ∧ True) (BX dC dI g c) (AX g sz)) 0 0 (AX g sz) := by
  refine Met.ofW (cc := cX0_read) (maxL := 1) (ret := (some .int)) (by decide) rfl ?_
  intro p e s m args below meth c0 s₁ B hml hv
  obtain ⟨rfl, hsz, hP, hK, hE⟩ := hv
  have hx := B.exec
  have hb := B.bytes
  have hr := B.returns
  have hts := atoms_spec (ws := Cond.code yX0_read cX0_read 1 (some .int) :: wA) B.pre
  have hwd : ∀ w ∈ wA, w.before _ s = true := fun w h => hts w (List.mem_cons_of_mem _ h)
  have hown : s.vm.findClass RX0 = some m.cls := findClass_of_methodNamed B.named
  have hlocks := B.notSynchronized
  subst hsz
  have hl := lv_entry ([.ref (g 9)]) (n := 1) (Nat.le_of_ble_eq_true rfl)
  rw [lg_entry_eq]
  generalize (lg_sl ([.ref (g 9)]) ++ List.replicate (1 - (lg_sl ([.ref (g 9)])).length) Slot.unset).toArray = ls at hl ⊢
  have hl : lv_has ls 1 [(0, .ref (g 9))] := hl
  obtain ⟨H, eH⟩ : ∃ z, z = s.heap := ⟨_, rfl⟩
  have hP : va_P (dC, dI) classes (wX g c v F rc) H := by rw [eH]; exact hP
  have hS : va_S (AX g s.heap.size) s.heap H [] := by rw [eH]; exact va_S.rf
  refine my_heap eH ?_
  have hal : alX v F = alX v F := rfl
  refine lv_aload_n hx hb dX0_read_0 rfl (lv_at hl 0 rfl) ?_
  refine lv_iconst (v := 0) hx hb dX0_read_1 (by decide) ?_
  refine va_put (D := (dC, dI)) (ci := 0) (v := .int 0) (ty := .int) (C := RX0) (T := TX0) (N := 9) (fs := fsX_9 g v rc) hx hb hwd inA_X0 tyX0 tyX0_ok nmX0 hown hK hP (DX hg) hS 9 rfl rfl 6 (by decide) (hwd _ wk_1094) (fun _ h9 => h9) rfl (by decide +kernel) rfl rfl (Nat.le_of_ble_eq_true rfl) dX0_read_2 (fun H locs hP _ hS => ?_)
  have hP := va_P_eq (pX_186 g c _ _ _ _) hP
  have hI := IX.put hI 186 0 rfl (by have : (0 : Int32).toInt = 0 := (by decide); omega)
  have hal := (alX_v _ _ 186 0 (by decide) (by decide) (by decide) (by decide)).trans hal
  refine lv_aload_n hx hb dX0_read_5 rfl (lv_at hl 0 rfl) ?_
  refine lv_iconst (v := 0) hx hb dX0_read_6 (by decide) ?_
  refine va_put (D := (dC, dI)) (ci := 0) (v := .int 0) (ty := .int) (C := RX0) (T := TX0) (N := 9) (fs := fsX_9 g (va_up v 186 0) rc) hx hb hwd inA_X0 tyX0 tyX0_ok nmX0 hown hK hP (DX hg) hS 9 rfl rfl 7 (by decide) (hwd _ wk_1095) (fun _ h9 => h9) rfl (by decide +kernel) rfl rfl (Nat.le_of_ble_eq_true rfl) dX0_read_7 (fun H locs hP _ hS => ?_)
  have hP := va_P_eq (pX_187 g c _ _ _ _) hP
  have hI := IX.put0 hI 187 0 rfl
  have hal := (alX_v _ _ 187 0 (by decide) (by decide) (by decide) (by decide)).trans hal
  refine lv_aload_n hx hb dX0_read_10 rfl (lv_at hl 0 rfl) ?_
  refine lv_iconst (v := (-1)) hx hb dX0_read_11 (by decide) ?_
  refine va_put (D := (dC, dI)) (ci := 0) (v := .int (-1)) (ty := .int) (C := RX0) (T := TX0) (N := 9) (fs := fsX_9 g (va_up (va_up v 186 0) 187 0) rc) hx hb hwd inA_X0 tyX0 tyX0_ok nmX0 hown hK hP (DX hg) hS 9 rfl rfl 8 (by decide) (hwd _ wk_1096) (fun _ h9 => h9) rfl (by decide +kernel) rfl rfl (Nat.le_of_ble_eq_true rfl) dX0_read_12 (fun H locs hP _ hS => ?_)
  have hP := va_P_eq (pX_188 g c _ _ _ _) hP
  have hI := IX.put0 hI 188 (-1) rfl
  have hal := (alX_v _ _ 188 (-1) (by decide) (by decide) (by decide) (by decide)).trans hal
  have lp1263 : ∀ (n : Nat) (v_lp1263 : Nat → Int32) (F_lp1263 : Nat → Nat → Int32) (H : Heap) (locs : List Loc) (ls : Array Slot), ((v_lp1263 186).toInt ≤ 29) → (30 - (v_lp1263 186).toInt ≤ (n : Int)) → (∀ k, k ∉ ([186, 187, 188] : List Nat) → v_lp1263 k = (va_up (va_up (va_up v 186 0) 187 0) 188 (-1)) k) → IX v_lp1263 F_lp1263 → alX v_lp1263 F_lp1263 = alX v F → va_P (dC, dI) classes (wX g c v_lp1263 F_lp1263 rc) H → va_S (AX g s.heap.size) s.heap H locs → lv_has ls 1 [(0, .ref (g 9))] → W p l e (headSpec (Cond.code yX0_read cX0_read 1 (some .int) :: wA) ({ frames := 6, cells := 0, slots := 0, locals := 240 })).room s m ([.ref (g 9)] : List Value).toArray below meth c0 H locs 0 0 (MQ below (va_Qi (fun (r : Int32) (u : StX) => IX u.1 u.2.1 ∧ alX u.1 u.2.1 = alX v F ∧ u.2.2 = rc ∧ (∀ k, k ∉ ([186, 187, 188] : List Nat) → u.1 k = v k) ∧ True) (BX dC dI g c) (AX g s.heap.size)) ([.ref (g 9)] : List Value).toArray s 0 0 (AX g s.heap.size)) (F0 m 15 ls []) := by
    intro n
    induction n with
    | zero =>
      intro v_lp1263 F_lp1263 H locs ls t1264 hm hf_lp1263 hI hal hP hS hl
      exfalso
      have hI1 := hI.1
      omega
    | succ n ih_lp1263 =>
      intro v_lp1263 F_lp1263 H locs ls t1264 hm hf_lp1263 hI hal hP hS hl
      refine lv_aload_n hx hb dX0_read_15 rfl (lv_at hl 0 rfl) ?_
      refine va_callv (va_runV (As := []) (rest := []) ⟨hx, hb, hml, hown, hwd⟩ (c_X0_readLine l dC dI g c adK adV v_lp1263 F_lp1263 rc H.size  hg hI (by have h9 : v_lp1263 186 = v_lp1263 186 := rfl; rw [h9]; omega)) (cwV 0 hwd (gV wk_1101 wk_1098 wk_1099 wk_1100 wk_46) rfl rfl rfl (by decide +kernel) ⟨Nat.le_of_ble_eq_true rfl, Nat.le_of_ble_eq_true rfl⟩) ⟨PX.blind, va_recv hK hP (ci := 0) (q0 := 9) rfl rfl, fun U hU hW => ⟨rfl, PX.at hK hE hP hS hU hW⟩⟩ rfl rfl hl.1 rfl (lv_room (Nat.le_of_ble_eq_true rfl)) dX0_read_16 ⟨Nat.le_of_ble_eq_true rfl, Nat.le_of_ble_eq_true rfl⟩) hS (fun q _ h => (freeX hS) q h) (freeX hS) (fun u t H1 locs ht hvm hw hB hz1 hk1 hS => ?_)
      unfold BX at hB
      rw [ht] at hB
      obtain ⟨v1266, F1267, rc9⟩ := u
      obtain ⟨hI, hal9, hrc, hf1268, hw⟩ := hw
      dsimp only at hI hal9 hrc hB hf1268 hw
      rw [hrc] at hB
      have hal : alX v1266 F1267 = alX v F := hal9.trans hal
      have hP : va_P (dC, dI) classes (wX g c v1266 F1267 rc) H1 := hB
      generalize H1 = H at hP hS ⊢
      refine lv_aload_n hx hb dX0_read_19 rfl (lv_at hl 0 rfl) ?_
      refine lv_dup hx hb dX0_read_20 rfl ?_
      refine va_get (D := (dC, dI)) (ci := 0) (v := .int (v1266 186)) (C := RX0) (T := TX0) (N := 9) hx hb hwd inA_X0 hown hK hP 9 rfl rfl 6 (by decide) (hwd _ wk_1094) (fun _ h9 => h9) rfl dX0_read_21 ?_
      refine my_top (v := v_lp1263 186) (hf1268 186 (by decide)) ?_
      have t1269 : 0 ≤ (v_lp1263 186).toInt ∧ (v_lp1263 186).toInt ≤ 30 := by have h9 := hI.1 186 _ _ rfl; rw [show v1266 186 = v_lp1263 186 from hf1268 186 (by decide)] at h9; exact h9
      refine lv_iconst (v := 1) hx hb dX0_read_24 (by decide) ?_
      refine lv_iadd hx hb dX0_read_25 ?_
      refine lv_topi (fun z1270 e1271 => ?_)
      try (have t1272 := tadd e1271 (a := (v_lp1263 186).toInt) rfl (b := 1) (by decide) (by omega))
      refine va_put (D := (dC, dI)) (ci := 0) (v := .int z1270) (ty := .int) (C := RX0) (T := TX0) (N := 9) (fs := fsX_9 g v1266 rc) hx hb hwd inA_X0 tyX0 tyX0_ok nmX0 hown hK hP (DX hg) hS 9 rfl rfl 6 (by decide) (hwd _ wk_1094) (fun _ h9 => h9) rfl (by decide +kernel) rfl rfl (Nat.le_of_ble_eq_true rfl) dX0_read_26 (fun H locs hP _ hS => ?_)
      have hP := va_P_eq (pX_186 g c _ _ _ _) hP
      have hI := IX.put hI 186 z1270 rfl (by omega)
      have hal := (alX_v _ _ 186 z1270 (by decide) (by decide) (by decide) (by decide)).trans hal
      refine lv_aload_n hx hb dX0_read_29 rfl (lv_at hl 0 rfl) ?_
      refine va_get (D := (dC, dI)) (ci := 0) (v := .int z1270) (C := RX0) (T := TX0) (N := 9) hx hb hwd inA_X0 hown hK hP 9 rfl rfl 6 (by decide) (hwd _ wk_1094) (fun _ h9 => h9) rfl dX0_read_30 ?_
      have t1273 : 0 ≤ z1270.toInt ∧ z1270.toInt ≤ 30 := hI.1 186 _ _ rfl
      refine lv_bipush (v := 30) hx hb dX0_read_33 (by decide) ?_
      refine lv_icmp_ge (tgt := 60) hx hb dX0_read_35 (by decide) (fun c1274 => ?_) (fun c1274 => ?_)
      · skip
        have t1275 := cv_le (a := 30) (by decide) (b := z1270.toInt) rfl c1274
        refine lv_aload_n hx hb dX0_read_60 rfl (lv_at hl 0 rfl) ?_
        refine va_get (D := (dC, dI)) (ci := 0) (v := .int (v1266 188)) (C := RX0) (T := TX0) (N := 9) hx hb hwd inA_X0 hown hK hP 9 rfl rfl 8 (by decide) (hwd _ wk_1096) (fun _ h9 => h9) rfl dX0_read_61 ?_
        have hP9 : va_P (dC, dI) classes (wX g c (va_up v1266 186 z1270) F1267 rc) H := hP
        exact W.iret (v := v1266 188) hx hb hr (fun t ht hW => ⟨⟨(v1266 188), ((va_up v1266 186 z1270), F1267, rc), rfl, ⟨hI, hal, rfl, (frU (by decide) (frC (by decide) hf1268 (frC (by decide) hf_lp1263 (frU (by decide) (frU (by decide) (frU (by decide) (fun _ _ => rfl))))))), trivial⟩, (by show va_P _ _ _ t.heap; rw [ht]; exact hP9)⟩, hS.F ht⟩) hS.2.2 dX0_read_64
      · skip
        have t1276 := cv_nle (a := 30) (by decide) (b := z1270.toInt) rfl c1274
        refine lv_aload_n hx hb dX0_read_38 rfl (lv_at hl 0 rfl) ?_
        refine va_get (D := (dC, dI)) (ci := 0) (v := .int (v1266 188)) (C := RX0) (T := TX0) (N := 9) hx hb hwd inA_X0 hown hK hP 9 rfl rfl 8 (by decide) (hwd _ wk_1096) (fun _ h9 => h9) rfl dX0_read_39 ?_
        refine lv_iconst (v := (-1)) hx hb dX0_read_42 (by decide) ?_
        refine lv_icmp_ne (tgt := 60) hx hb dX0_read_43 (by decide) (fun c1277 => ?_) (fun c1277 => ?_)
        · skip
          have t1278 := cv_ne (a := (v1266 188).toInt) rfl (b := (-1)) (by decide) c1277
          refine lv_aload_n hx hb dX0_read_60 rfl (lv_at hl 0 rfl) ?_
          refine va_get (D := (dC, dI)) (ci := 0) (v := .int (v1266 188)) (C := RX0) (T := TX0) (N := 9) hx hb hwd inA_X0 hown hK hP 9 rfl rfl 8 (by decide) (hwd _ wk_1096) (fun _ h9 => h9) rfl dX0_read_61 ?_
          have hP9 : va_P (dC, dI) classes (wX g c (va_up v1266 186 z1270) F1267 rc) H := hP
          exact W.iret (v := v1266 188) hx hb hr (fun t ht hW => ⟨⟨(v1266 188), ((va_up v1266 186 z1270), F1267, rc), rfl, ⟨hI, hal, rfl, (frU (by decide) (frC (by decide) hf1268 (frC (by decide) hf_lp1263 (frU (by decide) (frU (by decide) (frU (by decide) (fun _ _ => rfl))))))), trivial⟩, (by show va_P _ _ _ t.heap; rw [ht]; exact hP9)⟩, hS.F ht⟩) hS.2.2 dX0_read_64
        · skip
          have t1279 := cv_eq (a := (v1266 188).toInt) rfl (b := (-1)) (by decide) c1277
          refine lv_aload_n hx hb dX0_read_46 rfl (lv_at hl 0 rfl) ?_
          refine va_get (D := (dC, dI)) (ci := 0) (v := .int (v1266 187)) (C := RX0) (T := TX0) (N := 9) hx hb hwd inA_X0 hown hK hP 9 rfl rfl 7 (by decide) (hwd _ wk_1095) (fun _ h9 => h9) rfl dX0_read_47 ?_
          refine lv_aload_n hx hb dX0_read_50 rfl (lv_at hl 0 rfl) ?_
          refine va_get (D := (dC, dI)) (ci := 0) (v := .ref (g 5)) (C := RX0) (T := TX0) (N := 9) hx hb hwd inA_X0 hown hK hP 9 rfl rfl 0 (by decide) (hwd _ wk_138) (fun _ h9 => h9) rfl dX0_read_51 ?_
          refine va_get (D := (dC, dI)) (ci := 10) (v := .int (v1266 100)) (C := RX10) (T := TX10) (N := 2) hx hb hwd inA_X10 hown hK hP 5 rfl rfl 0 (by decide) (hwd _ wk_1097) (fun _ h9 => h9) rfl dX0_read_54 ?_
          refine my_top (v := v 100) ((hf1268 100 (by decide)).trans (hf_lp1263 100 (by decide))) ?_
          have t1280 : 0 ≤ (v 100).toInt ∧ (v 100).toInt ≤ 120 := by have h9 := hI.1 100 _ _ rfl; rw [show (va_up v1266 186 z1270) 100 = v 100 from (hf1268 100 (by decide)).trans (hf_lp1263 100 (by decide))] at h9; exact h9
          refine lv_icmp_lt (tgt := 15) hx hb dX0_read_57 (by decide) (fun c1281 => ?_) (fun c1281 => ?_)
          · skip
            have t1282 := cv_lt (a := (v1266 187).toInt) rfl (b := (v 100).toInt) rfl c1281
            exact ih_lp1263  (va_up v1266 186 z1270) F1267 _ _ _ (by have h9 : (va_up v1266 186 z1270) 186 = z1270 := rfl; rw [h9]; omega) (by have h9 : (va_up v1266 186 z1270) 186 = z1270 := rfl; rw [h9]; omega) (frU (by decide) (frC (by decide) hf1268 hf_lp1263)) hI hal hP hS (lv_sub hl [0] rfl)
          · skip
            have t1283 := cv_nlt (a := (v1266 187).toInt) rfl (b := (v 100).toInt) rfl c1281
            refine lv_aload_n hx hb dX0_read_60 rfl (lv_at hl 0 rfl) ?_
            refine va_get (D := (dC, dI)) (ci := 0) (v := .int (v1266 188)) (C := RX0) (T := TX0) (N := 9) hx hb hwd inA_X0 hown hK hP 9 rfl rfl 8 (by decide) (hwd _ wk_1096) (fun _ h9 => h9) rfl dX0_read_61 ?_
            have hP9 : va_P (dC, dI) classes (wX g c (va_up v1266 186 z1270) F1267 rc) H := hP
            exact W.iret (v := v1266 188) hx hb hr (fun t ht hW => ⟨⟨(v1266 188), ((va_up v1266 186 z1270), F1267, rc), rfl, ⟨hI, hal, rfl, (frU (by decide) (frC (by decide) hf1268 (frC (by decide) hf_lp1263 (frU (by decide) (frU (by decide) (frU (by decide) (fun _ _ => rfl))))))), trivial⟩, (by show va_P _ _ _ t.heap; rw [ht]; exact hP9)⟩, hS.F ht⟩) hS.2.2 dX0_read_64
  obtain ⟨n9, hn9⟩ : ∃ n : Nat, 30 - 0 ≤ (n : Int) := ⟨((30 - 0 : Int)).toNat, by omega⟩
  exact lp1263 n9  (va_up (va_up (va_up v 186 0) 187 0) 188 (-1)) F H _ ls (by have h9 : (va_up (va_up (va_up v 186 0) 187 0) 188 (-1)) 186 = 0 := rfl; rw [h9]; have : (0 : Int32).toInt = 0 := (by decide); omega) (by have h9 : (va_up (va_up (va_up v 186 0) 187 0) 188 (-1)) 186 = 0 := rfl; rw [h9]; have : (0 : Int32).toInt = 0 := (by decide); omega) (fun _ _ => rfl) hI hal hP hS hl
