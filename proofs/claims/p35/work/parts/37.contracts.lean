set_option maxHeartbeats 8000000 in
set_option maxRecDepth 100000 in
theorem c_X0_isSigned (l : Launch) (dC : Nat → ClassId) (dI : Nat → Nat → Nat) (g : Nat → Nat) (c : Nat → ClassId) (adK adV : Nat → Nat) (v : Nat → Int32) (F : Nat → Nat → Int32) (rc sz : Nat) (p0 : Int32) (hg : injX g) (hI : IX v F) (h0 : 0 ≤ p0.toInt ∧ p0.toInt ≤ 9) : Met l yX0_isSigned (Cond.code yX0_isSigned cX0_isSigned 2 (some .boolean) :: wA) ({ frames := 1, cells := 0, slots := 0, locals := 40 }) (va_Pc [.ref (g 9), .int p0] (PX dC dI g c adK adV v F rc sz)) (va_Qi (fun (r : Int32) (u : Unit) => 0 ≤ r.toInt ∧ r.toInt ≤ 1) (fun (_ : Unit) => BX dC dI g c (v, F, rc)) (AX g sz)) 0 0 (AX g sz) := by
  refine Met.ofW (cc := cX0_isSigned) (maxL := 2) (ret := (some .boolean)) (by decide) rfl ?_
  intro p e s m args below meth c0 s₁ B hml hv
  obtain ⟨rfl, hsz, hP, hK, hE⟩ := hv
  have hx := B.exec
  have hb := B.bytes
  have hr := B.returns
  have hts := atoms_spec (ws := Cond.code yX0_isSigned cX0_isSigned 2 (some .boolean) :: wA) B.pre
  have hwd : ∀ w ∈ wA, w.before _ s = true := fun w h => hts w (List.mem_cons_of_mem _ h)
  have hown : s.vm.findClass RX0 = some m.cls := findClass_of_methodNamed B.named
  have hlocks := B.notSynchronized
  subst hsz
  have hl := lv_entry ([.ref (g 9), .int p0]) (n := 2) (Nat.le_of_ble_eq_true rfl)
  rw [lg_entry_eq]
  generalize (lg_sl ([.ref (g 9), .int p0]) ++ List.replicate (2 - (lg_sl ([.ref (g 9), .int p0])).length) Slot.unset).toArray = ls at hl ⊢
  have hl : lv_has ls 2 [(0, .ref (g 9)), (1, .int p0)] := hl
  obtain ⟨H, eH⟩ : ∃ z, z = s.heap := ⟨_, rfl⟩
  have hP : va_P (dC, dI) classes (wX g c v F rc) H := by rw [eH]; exact hP
  have hS : va_S (AX g s.heap.size) s.heap H [] := by rw [eH]; exact va_S.rf
  refine my_heap eH ?_
  have rp0 := i32_rng p0
  refine lv_aload_n hx hb dX0_isSigned_0 rfl (lv_at hl 0 rfl) ?_
  refine va_get (D := (dC, dI)) (ci := 0) (v := .ref (g 58)) (C := RX0) (T := TX0) (N := 9) hx hb hwd inA_X0 hown hK hP 9 rfl rfl 1 (by decide) (hwd _ wk_132) (fun _ h9 => h9) rfl dX0_isSigned_1 ?_
  refine lv_iload_n hx hb dX0_isSigned_4 rfl (lv_at hl 1 rfl) ?_
  refine va_iald hx hb hK hP 58 46 rfl rfl (i := p0) (vin (a := p0.toInt) rfl (by omega)) dX0_isSigned_5 ?_
  refine lv_topi (fun z1200 e1201 => ?_)
  have t1202 : 0 ≤ z1200.toInt ∧ z1200.toInt ≤ 30 := by rw [e1201]; exact hI.2 58 _ _ rfl _
  refine lv_if_le (tgt := 13) hx hb dX0_isSigned_6 (by decide) (fun c1203 => ?_) (fun c1203 => ?_)
  · skip
    have t1204 := cv_le (a := z1200.toInt) rfl (b := 0) (by decide) c1203
    refine lv_iconst (v := 0) hx hb dX0_isSigned_13 (by decide) ?_
    have hP9 : va_P (dC, dI) classes (wX g c v F rc) H := hP
    exact W.zret (v := 0) hx hb hr (rfl) (fun t ht hW => ⟨⟨0, (), rfl, by have : (0 : Int32).toInt = 0 := (by decide); omega, (by show va_P _ _ _ t.heap; rw [ht]; exact hP9)⟩, hS.F ht⟩) hS.2.2 dX0_isSigned_14
  · skip
    have t1205 := cv_nle (a := z1200.toInt) rfl (b := 0) (by decide) c1203
    refine lv_iconst (v := 1) hx hb dX0_isSigned_9 (by decide) ?_
    refine lv_goto (tgt := 14) hx hb dX0_isSigned_10 (by decide) ?_
    have hP9 : va_P (dC, dI) classes (wX g c v F rc) H := hP
    exact W.zret (v := 1) hx hb hr (rfl) (fun t ht hW => ⟨⟨1, (), rfl, by have : (1 : Int32).toInt = 1 := (by decide); omega, (by show va_P _ _ _ t.heap; rw [ht]; exact hP9)⟩, hS.F ht⟩) hS.2.2 dX0_isSigned_14
set_option maxHeartbeats 8000000 in
set_option maxRecDepth 100000 in
theorem c_X0_hasLine (l : Launch) (dC : Nat → ClassId) (dI : Nat → Nat → Nat) (g : Nat → Nat) (c : Nat → ClassId) (adK adV : Nat → Nat) (v : Nat → Int32) (F : Nat → Nat → Int32) (rc sz : Nat) (p0 : Int32) (p1 : Int32) (hg : injX g) (hI : IX v F) (h0 : 0 ≤ p0.toInt ∧ p0.toInt ≤ 9) : Met l yX0_hasLine (Cond.code yX0_hasLine cX0_hasLine 3 (some .boolean) :: wA) ({ frames := 1, cells := 0, slots := 0, locals := 40 }) (va_Pc [.ref (g 9), .int p0, .int p1] (PX dC dI g c adK adV v F rc sz)) (va_Qi (fun (r : Int32) (u : Unit) => (0 ≤ r.toInt ∧ r.toInt ≤ 1) ∧ (r.toInt = 1 → 0 ≤ p1.toInt ∧ p1.toInt ≤ 29)) (fun (_ : Unit) => BX dC dI g c (v, F, rc)) (AX g sz)) 0 0 (AX g sz) := by
  refine Met.ofW (cc := cX0_hasLine) (maxL := 3) (ret := (some .boolean)) (by decide) rfl ?_
  intro p e s m args below meth c0 s₁ B hml hv
  obtain ⟨rfl, hsz, hP, hK, hE⟩ := hv
  have hx := B.exec
  have hb := B.bytes
  have hr := B.returns
  have hts := atoms_spec (ws := Cond.code yX0_hasLine cX0_hasLine 3 (some .boolean) :: wA) B.pre
  have hwd : ∀ w ∈ wA, w.before _ s = true := fun w h => hts w (List.mem_cons_of_mem _ h)
  have hown : s.vm.findClass RX0 = some m.cls := findClass_of_methodNamed B.named
  have hlocks := B.notSynchronized
  subst hsz
  have hl := lv_entry ([.ref (g 9), .int p0, .int p1]) (n := 3) (Nat.le_of_ble_eq_true rfl)
  rw [lg_entry_eq]
  generalize (lg_sl ([.ref (g 9), .int p0, .int p1]) ++ List.replicate (3 - (lg_sl ([.ref (g 9), .int p0, .int p1])).length) Slot.unset).toArray = ls at hl ⊢
  have hl : lv_has ls 3 [(0, .ref (g 9)), (1, .int p0), (2, .int p1)] := hl
  obtain ⟨H, eH⟩ : ∃ z, z = s.heap := ⟨_, rfl⟩
  have hP : va_P (dC, dI) classes (wX g c v F rc) H := by rw [eH]; exact hP
  have hS : va_S (AX g s.heap.size) s.heap H [] := by rw [eH]; exact va_S.rf
  refine my_heap eH ?_
  have rp0 := i32_rng p0
  have rp1 := i32_rng p1
  refine lv_iload_n hx hb dX0_hasLine_0 rfl (lv_at hl 2 rfl) ?_
  refine lv_if_lt (tgt := 18) hx hb dX0_hasLine_1 (by decide) (fun c1206 => ?_) (fun c1206 => ?_)
  · skip
    have t1207 := cv_lt (a := p1.toInt) rfl (b := 0) (by decide) c1206
    refine lv_iconst (v := 0) hx hb dX0_hasLine_18 (by decide) ?_
    have hP9 : va_P (dC, dI) classes (wX g c v F rc) H := hP
    exact W.zret (v := 0) hx hb hr (rfl) (fun t ht hW => ⟨⟨0, (), rfl, by have : (0 : Int32).toInt = 0 := (by decide); omega, (by show va_P _ _ _ t.heap; rw [ht]; exact hP9)⟩, hS.F ht⟩) hS.2.2 dX0_hasLine_19
  · skip
    have t1208 := cv_nlt (a := p1.toInt) rfl (b := 0) (by decide) c1206
    refine lv_iload_n hx hb dX0_hasLine_4 rfl (lv_at hl 2 rfl) ?_
    refine lv_aload_n hx hb dX0_hasLine_5 rfl (lv_at hl 0 rfl) ?_
    refine va_get (D := (dC, dI)) (ci := 0) (v := .ref (g 58)) (C := RX0) (T := TX0) (N := 9) hx hb hwd inA_X0 hown hK hP 9 rfl rfl 1 (by decide) (hwd _ wk_132) (fun _ h9 => h9) rfl dX0_hasLine_6 ?_
    refine lv_iload_n hx hb dX0_hasLine_9 rfl (lv_at hl 1 rfl) ?_
    refine va_iald hx hb hK hP 58 46 rfl rfl (i := p0) (vin (a := p0.toInt) rfl (by omega)) dX0_hasLine_10 ?_
    refine lv_topi (fun z1209 e1210 => ?_)
    have t1211 : 0 ≤ z1209.toInt ∧ z1209.toInt ≤ 30 := by rw [e1210]; exact hI.2 58 _ _ rfl _
    refine lv_icmp_ge (tgt := 18) hx hb dX0_hasLine_11 (by decide) (fun c1212 => ?_) (fun c1212 => ?_)
    · skip
      have t1213 := cv_le (a := z1209.toInt) rfl (b := p1.toInt) rfl c1212
      refine lv_iconst (v := 0) hx hb dX0_hasLine_18 (by decide) ?_
      have hP9 : va_P (dC, dI) classes (wX g c v F rc) H := hP
      exact W.zret (v := 0) hx hb hr (rfl) (fun t ht hW => ⟨⟨0, (), rfl, by have : (0 : Int32).toInt = 0 := (by decide); omega, (by show va_P _ _ _ t.heap; rw [ht]; exact hP9)⟩, hS.F ht⟩) hS.2.2 dX0_hasLine_19
    · skip
      have t1214 := cv_nle (a := z1209.toInt) rfl (b := p1.toInt) rfl c1212
      refine lv_iconst (v := 1) hx hb dX0_hasLine_14 (by decide) ?_
      refine lv_goto (tgt := 19) hx hb dX0_hasLine_15 (by decide) ?_
      have hP9 : va_P (dC, dI) classes (wX g c v F rc) H := hP
      exact W.zret (v := 1) hx hb hr (rfl) (fun t ht hW => ⟨⟨1, (), rfl, by have : (1 : Int32).toInt = 1 := (by decide); omega, (by show va_P _ _ _ t.heap; rw [ht]; exact hP9)⟩, hS.F ht⟩) hS.2.2 dX0_hasLine_19
set_option maxHeartbeats 8000000 in
set_option maxRecDepth 100000 in
theorem c_X0_letterOf (l : Launch) (dC : Nat → ClassId) (dI : Nat → Nat → Nat) (g : Nat → Nat) (c : Nat → ClassId) (adK adV : Nat → Nat) (v : Nat → Int32) (F : Nat → Nat → Int32) (rc sz : Nat) (p0 : Int32) (p1 : Int32) (hg : injX g) (hI : IX v F) (h0 : 0 ≤ p0.toInt ∧ p0.toInt ≤ 9) (h1 : 0 ≤ p1.toInt ∧ p1.toInt ≤ 29) : Met l yX0_letterOf (Cond.code yX0_letterOf cX0_letterOf 3 (some .int) :: wA) ({ frames := 1, cells := 0, slots := 0, locals := 40 }) (va_Pc [.ref (g 9), .int p0, .int p1] (PX dC dI g c adK adV v F rc sz)) (va_Qi (fun (r : Int32) (u : Unit) => True) (fun (_ : Unit) => BX dC dI g c (v, F, rc)) (AX g sz)) 0 0 (AX g sz) := by
  refine Met.ofW (cc := cX0_letterOf) (maxL := 3) (ret := (some .int)) (by decide) rfl ?_
  intro p e s m args below meth c0 s₁ B hml hv
  obtain ⟨rfl, hsz, hP, hK, hE⟩ := hv
  have hx := B.exec
  have hb := B.bytes
  have hr := B.returns
  have hts := atoms_spec (ws := Cond.code yX0_letterOf cX0_letterOf 3 (some .int) :: wA) B.pre
  have hwd : ∀ w ∈ wA, w.before _ s = true := fun w h => hts w (List.mem_cons_of_mem _ h)
  have hown : s.vm.findClass RX0 = some m.cls := findClass_of_methodNamed B.named
  have hlocks := B.notSynchronized
  subst hsz
  have hl := lv_entry ([.ref (g 9), .int p0, .int p1]) (n := 3) (Nat.le_of_ble_eq_true rfl)
  rw [lg_entry_eq]
  generalize (lg_sl ([.ref (g 9), .int p0, .int p1]) ++ List.replicate (3 - (lg_sl ([.ref (g 9), .int p0, .int p1])).length) Slot.unset).toArray = ls at hl ⊢
  have hl : lv_has ls 3 [(0, .ref (g 9)), (1, .int p0), (2, .int p1)] := hl
  obtain ⟨H, eH⟩ : ∃ z, z = s.heap := ⟨_, rfl⟩
  have hP : va_P (dC, dI) classes (wX g c v F rc) H := by rw [eH]; exact hP
  have hS : va_S (AX g s.heap.size) s.heap H [] := by rw [eH]; exact va_S.rf
  refine my_heap eH ?_
  have rp0 := i32_rng p0
  have rp1 := i32_rng p1
  refine lv_aload_n hx hb dX0_letterOf_0 rfl (lv_at hl 0 rfl) ?_
  refine va_get (D := (dC, dI)) (ci := 0) (v := .ref (g 61)) (C := RX0) (T := TX0) (N := 9) hx hb hwd inA_X0 hown hK hP 9 rfl rfl 4 (by decide) (hwd _ wk_136) (fun _ h9 => h9) rfl dX0_letterOf_1 ?_
  refine lv_iload_n hx hb dX0_letterOf_4 rfl (lv_at hl 1 rfl) ?_
  refine my_aald hx hb hK hP 61 49 rfl rfl (i := p0) (vin (a := p0.toInt) rfl (by omega)) dX0_letterOf_5 ?_
  have t1215 : (p0).toNatClampNeg < 10 := nclt (a := p0.toInt) rfl (by omega)
  refine my_any (v := .ref (g (62 + (p0).toNatClampNeg))) (by show va_rf (if _ < 10 then _ else _) = _; rw [if_pos t1215]; rfl) ?_
  refine lv_iload_n hx hb dX0_letterOf_6 rfl (lv_at hl 2 rfl) ?_
  refine lv_iconst (v := 4) hx hb dX0_letterOf_7 (by decide) ?_
  refine lv_imul hx hb dX0_letterOf_8 ?_
  refine lv_topi (fun z1216 e1217 => ?_)
  try (have t1218 := tmul e1217 (a := p1.toInt) rfl (b := 4) (by decide) (by omega))
  refine va_iald hx hb hK hP (62 + (p0).toNatClampNeg) (50 + (p0).toNatClampNeg) (rowW62 t1215) (rowT62 t1215) (i := z1216) (vin (a := z1216.toInt) rfl (by omega)) dX0_letterOf_9 ?_
  refine lv_topi (fun z1219 e1220 => ?_)
  have hP9 : va_P (dC, dI) classes (wX g c v F rc) H := hP
  exact W.iret (v := z1219) hx hb hr (fun t ht hW => ⟨⟨z1219, (), rfl, trivial, (by show va_P _ _ _ t.heap; rw [ht]; exact hP9)⟩, hS.F ht⟩) hS.2.2 dX0_letterOf_10
set_option maxHeartbeats 8000000 in
set_option maxRecDepth 100000 in
theorem c_X0_numberOf (l : Launch) (dC : Nat → ClassId) (dI : Nat → Nat → Nat) (g : Nat → Nat) (c : Nat → ClassId) (adK adV : Nat → Nat) (v : Nat → Int32) (F : Nat → Nat → Int32) (rc sz : Nat) (p0 : Int32) (p1 : Int32) (p2 : Int32) (hg : injX g) (hI : IX v F) (h0 : 0 ≤ p0.toInt ∧ p0.toInt ≤ 9) (h1 : 0 ≤ p1.toInt ∧ p1.toInt ≤ 29) (h2 : 0 ≤ p2.toInt ∧ p2.toInt ≤ 3) : Met l yX0_numberOf (Cond.code yX0_numberOf cX0_numberOf 4 (some .int) :: wA) ({ frames := 1, cells := 0, slots := 0, locals := 40 }) (va_Pc [.ref (g 9), .int p0, .int p1, .int p2] (PX dC dI g c adK adV v F rc sz)) (va_Qi (fun (r : Int32) (u : Unit) => True) (fun (_ : Unit) => BX dC dI g c (v, F, rc)) (AX g sz)) 0 0 (AX g sz) := by
  refine Met.ofW (cc := cX0_numberOf) (maxL := 4) (ret := (some .int)) (by decide) rfl ?_
  intro p e s m args below meth c0 s₁ B hml hv
  obtain ⟨rfl, hsz, hP, hK, hE⟩ := hv
  have hx := B.exec
  have hb := B.bytes
  have hr := B.returns
  have hts := atoms_spec (ws := Cond.code yX0_numberOf cX0_numberOf 4 (some .int) :: wA) B.pre
  have hwd : ∀ w ∈ wA, w.before _ s = true := fun w h => hts w (List.mem_cons_of_mem _ h)
  have hown : s.vm.findClass RX0 = some m.cls := findClass_of_methodNamed B.named
  have hlocks := B.notSynchronized
  subst hsz
  have hl := lv_entry ([.ref (g 9), .int p0, .int p1, .int p2]) (n := 4) (Nat.le_of_ble_eq_true rfl)
  rw [lg_entry_eq]
  generalize (lg_sl ([.ref (g 9), .int p0, .int p1, .int p2]) ++ List.replicate (4 - (lg_sl ([.ref (g 9), .int p0, .int p1, .int p2])).length) Slot.unset).toArray = ls at hl ⊢
  have hl : lv_has ls 4 [(0, .ref (g 9)), (1, .int p0), (2, .int p1), (3, .int p2)] := hl
  obtain ⟨H, eH⟩ : ∃ z, z = s.heap := ⟨_, rfl⟩
  have hP : va_P (dC, dI) classes (wX g c v F rc) H := by rw [eH]; exact hP
  have hS : va_S (AX g s.heap.size) s.heap H [] := by rw [eH]; exact va_S.rf
  refine my_heap eH ?_
  have rp0 := i32_rng p0
  have rp1 := i32_rng p1
  have rp2 := i32_rng p2
  refine lv_aload_n hx hb dX0_numberOf_0 rfl (lv_at hl 0 rfl) ?_
  refine va_get (D := (dC, dI)) (ci := 0) (v := .ref (g 61)) (C := RX0) (T := TX0) (N := 9) hx hb hwd inA_X0 hown hK hP 9 rfl rfl 4 (by decide) (hwd _ wk_136) (fun _ h9 => h9) rfl dX0_numberOf_1 ?_
  refine lv_iload_n hx hb dX0_numberOf_4 rfl (lv_at hl 1 rfl) ?_
  refine my_aald hx hb hK hP 61 49 rfl rfl (i := p0) (vin (a := p0.toInt) rfl (by omega)) dX0_numberOf_5 ?_
  have t1221 : (p0).toNatClampNeg < 10 := nclt (a := p0.toInt) rfl (by omega)
  refine my_any (v := .ref (g (62 + (p0).toNatClampNeg))) (by show va_rf (if _ < 10 then _ else _) = _; rw [if_pos t1221]; rfl) ?_
  refine lv_iload_n hx hb dX0_numberOf_6 rfl (lv_at hl 2 rfl) ?_
  refine lv_iconst (v := 4) hx hb dX0_numberOf_7 (by decide) ?_
  refine lv_imul hx hb dX0_numberOf_8 ?_
  refine lv_topi (fun z1222 e1223 => ?_)
  try (have t1224 := tmul e1223 (a := p1.toInt) rfl (b := 4) (by decide) (by omega))
  refine lv_iload_n hx hb dX0_numberOf_9 rfl (lv_at hl 3 rfl) ?_
  refine lv_iadd hx hb dX0_numberOf_10 ?_
  refine lv_topi (fun z1225 e1226 => ?_)
  try (have t1227 := tadd e1226 (a := z1222.toInt) rfl (b := p2.toInt) rfl (by omega))
  refine va_iald hx hb hK hP (62 + (p0).toNatClampNeg) (50 + (p0).toNatClampNeg) (rowW62 t1221) (rowT62 t1221) (i := z1225) (vin (a := z1225.toInt) rfl (by omega)) dX0_numberOf_11 ?_
  refine lv_topi (fun z1228 e1229 => ?_)
  have hP9 : va_P (dC, dI) classes (wX g c v F rc) H := hP
  exact W.iret (v := z1228) hx hb hr (fun t ht hW => ⟨⟨z1228, (), rfl, trivial, (by show va_P _ _ _ t.heap; rw [ht]; exact hP9)⟩, hS.F ht⟩) hS.2.2 dX0_numberOf_12
set_option maxHeartbeats 8000000 in
set_option maxRecDepth 100000 in
theorem c_X0_sign (l : Launch) (dC : Nat → ClassId) (dI : Nat → Nat → Nat) (g : Nat → Nat) (c : Nat → ClassId) (adK adV : Nat → Nat) (v : Nat → Int32) (F : Nat → Nat → Int32) (rc sz : Nat) (p0 : Int32) (p1 : Int32) (p2 : Int32) (hg : injX g) (hI : IX v F) (h0 : 0 ≤ p0.toInt ∧ p0.toInt ≤ 9) : Met l yX0_sign (Cond.code yX0_sign cX0_sign 4 (some .int) :: wA) ({ frames := 2, cells := 0, slots := 0, locals := 80 }) (va_Pc [.ref (g 9), .int p0, .int p1, .int p2] (PX dC dI g c adK adV v F rc sz)) (va_Qi (fun (r : Int32) (u : StX) => IX u.1 u.2.1 ∧ alX u.1 u.2.1 = alX v F ∧ u.2.2 = rc ∧ (∀ k, k ∉ ([] : List Nat) → u.1 k = v k) ∧ True) (BX dC dI g c) (AX g sz)) 0 0 (AX g sz) := by
  refine Met.ofW (cc := cX0_sign) (maxL := 4) (ret := (some .int)) (by decide) rfl ?_
  intro p e s m args below meth c0 s₁ B hml hv
  obtain ⟨rfl, hsz, hP, hK, hE⟩ := hv
  have hx := B.exec
  have hb := B.bytes
  have hr := B.returns
  have hts := atoms_spec (ws := Cond.code yX0_sign cX0_sign 4 (some .int) :: wA) B.pre
  have hwd : ∀ w ∈ wA, w.before _ s = true := fun w h => hts w (List.mem_cons_of_mem _ h)
  have hown : s.vm.findClass RX0 = some m.cls := findClass_of_methodNamed B.named
  have hlocks := B.notSynchronized
  subst hsz
  have hl := lv_entry ([.ref (g 9), .int p0, .int p1, .int p2]) (n := 4) (Nat.le_of_ble_eq_true rfl)
  rw [lg_entry_eq]
  generalize (lg_sl ([.ref (g 9), .int p0, .int p1, .int p2]) ++ List.replicate (4 - (lg_sl ([.ref (g 9), .int p0, .int p1, .int p2])).length) Slot.unset).toArray = ls at hl ⊢
  have hl : lv_has ls 4 [(0, .ref (g 9)), (1, .int p0), (2, .int p1), (3, .int p2)] := hl
  obtain ⟨H, eH⟩ : ∃ z, z = s.heap := ⟨_, rfl⟩
  have hP : va_P (dC, dI) classes (wX g c v F rc) H := by rw [eH]; exact hP
  have hS : va_S (AX g s.heap.size) s.heap H [] := by rw [eH]; exact va_S.rf
  refine my_heap eH ?_
  have hal : alX v F = alX v F := rfl
  have rp0 := i32_rng p0
  have rp1 := i32_rng p1
  have rp2 := i32_rng p2
  refine lv_aload_n hx hb dX0_sign_0 rfl (lv_at hl 0 rfl) ?_
  refine va_get (D := (dC, dI)) (ci := 0) (v := .ref (g 72)) (C := RX0) (T := TX0) (N := 9) hx hb hwd inA_X0 hown hK hP 9 rfl rfl 5 (by decide) (hwd _ wk_137) (fun _ h9 => h9) rfl dX0_sign_1 ?_
  refine lv_iconst (v := 0) hx hb dX0_sign_4 (by decide) ?_
  refine lv_aload_n hx hb dX0_sign_5 rfl (lv_at hl 0 rfl) ?_
  refine va_get (D := (dC, dI)) (ci := 0) (v := .ref (g 61)) (C := RX0) (T := TX0) (N := 9) hx hb hwd inA_X0 hown hK hP 9 rfl rfl 4 (by decide) (hwd _ wk_136) (fun _ h9 => h9) rfl dX0_sign_6 ?_
  refine lv_iload_n hx hb dX0_sign_9 rfl (lv_at hl 1 rfl) ?_
  refine my_aald hx hb hK hP 61 49 rfl rfl (i := p0) (vin (a := p0.toInt) rfl (by omega)) dX0_sign_10 ?_
  have t1230 : (p0).toNatClampNeg < 10 := nclt (a := p0.toInt) rfl (by omega)
  refine my_any (v := .ref (g (62 + (p0).toNatClampNeg))) (by show va_rf (if _ < 10 then _ else _) = _; rw [if_pos t1230]; rfl) ?_
  refine lv_iconst (v := 0) hx hb dX0_sign_11 (by decide) ?_
  refine lv_aload_n hx hb dX0_sign_12 rfl (lv_at hl 0 rfl) ?_
  refine va_get (D := (dC, dI)) (ci := 0) (v := .int (v 186)) (C := RX0) (T := TX0) (N := 9) hx hb hwd inA_X0 hown hK hP 9 rfl rfl 6 (by decide) (hwd _ wk_1094) (fun _ h9 => h9) rfl dX0_sign_13 ?_
  have t1231 : 0 ≤ (v 186).toInt ∧ (v 186).toInt ≤ 30 := hI.1 186 _ _ rfl
  refine lv_iconst (v := 4) hx hb dX0_sign_16 (by decide) ?_
  refine lv_imul hx hb dX0_sign_17 ?_
  refine lv_topi (fun z1232 e1233 => ?_)
  try (have t1234 := tmul e1233 (a := (v 186).toInt) rfl (b := 4) (by decide) (by omega))
  refine va_copyi (ty := .int) hx hb (by rw [hml]; exact hl.1.symm) hown (hwd _ wk_1120) (hwd _ wk_1121) (hwd _ wk_1122) (hwd _ wk_1123) hK hP (DX hg) hS 72 (62 + (p0).toNatClampNeg) 60 (50 + (p0).toNatClampNeg) rfl (rowW62 t1230) rfl (rowT62 t1230) rfl (by decide) (by decide) (fun q => by have := cv_lt rfl (b := 0) (by decide) q; omega) (by rw [ncl (a := 0) (by decide), ncl (a := z1232.toInt) rfl]; omega) (by rw [ncl (a := 0) (by decide), ncl (a := z1232.toInt) rfl]; omega) (fun _ _ => rfl) (Nat.le_of_ble_eq_true rfl) (Nat.le_of_ble_eq_true rfl) dX0_sign_18 (fun H locs hP _ hS => ?_)
  have hP := va_P_eq (sX_row62 g c _ _ _ t1230 _) hP
  have hI := IX.fill0 hI (62 + (p0).toNatClampNeg) (va_cpy (F 72) (F (62 + (p0).toNatClampNeg)) (0 : Int32).toNatClampNeg (0 : Int32).toNatClampNeg (z1232 : Int32).toNatClampNeg) (rowN62 t1230)
  have hal := (alX_F _ _ (62 + (p0).toNatClampNeg) (va_cpy (F 72) (F (62 + (p0).toNatClampNeg)) (0 : Int32).toNatClampNeg (0 : Int32).toNatClampNeg (z1232 : Int32).toNatClampNeg) (by omega) (by omega)).trans hal
  have hP : va_P (dC, dI) classes (wX g c v (va_up F (62 + (p0).toNatClampNeg) (va_cpy (F 72) (F (62 + (p0).toNatClampNeg)) (0 : Int32).toNatClampNeg (0 : Int32).toNatClampNeg (z1232 : Int32).toNatClampNeg)) rc) H := hP
  generalize (va_up F (62 + (p0).toNatClampNeg) (va_cpy (F 72) (F (62 + (p0).toNatClampNeg)) (0 : Int32).toNatClampNeg (0 : Int32).toNatClampNeg (z1232 : Int32).toNatClampNeg)) = F1235 at hP hI hal
  refine lv_aload_n hx hb dX0_sign_21 rfl (lv_at hl 0 rfl) ?_
  refine va_get (D := (dC, dI)) (ci := 0) (v := .ref (g 58)) (C := RX0) (T := TX0) (N := 9) hx hb hwd inA_X0 hown hK hP 9 rfl rfl 1 (by decide) (hwd _ wk_132) (fun _ h9 => h9) rfl dX0_sign_22 ?_
  refine lv_iload_n hx hb dX0_sign_25 rfl (lv_at hl 1 rfl) ?_
  refine lv_aload_n hx hb dX0_sign_26 rfl (lv_at hl 0 rfl) ?_
  refine va_get (D := (dC, dI)) (ci := 0) (v := .int (v 186)) (C := RX0) (T := TX0) (N := 9) hx hb hwd inA_X0 hown hK hP 9 rfl rfl 6 (by decide) (hwd _ wk_1094) (fun _ h9 => h9) rfl dX0_sign_27 ?_
  have t1236 : 0 ≤ (v 186).toInt ∧ (v 186).toInt ≤ 30 := hI.1 186 _ _ rfl
  refine va_iast hx hb hK hP (DX hg) hS 58 46 rfl rfl (i := p0) (x := (v 186)) (vin (a := p0.toInt) rfl (by omega)) dX0_sign_30 (fun H locs hP _ hS => ?_)
  have hP := va_P_eq (sX_58 g c _ _ _ _) hP
  have hI := IX.store hI 58 (p0 : Int32).toNatClampNeg (v 186) rfl (by omega)
  have hal := (alX_F _ _ 58 (upd (F1235 58) (p0 : Int32).toNatClampNeg (v 186)) (by decide) (by decide)).trans hal
  have hP : va_P (dC, dI) classes (wX g c v (va_up F1235 58 (upd (F1235 58) (p0 : Int32).toNatClampNeg (v 186))) rc) H := hP
  generalize (va_up F1235 58 (upd (F1235 58) (p0 : Int32).toNatClampNeg (v 186))) = F1237 at hP hI hal
  refine lv_aload_n hx hb dX0_sign_31 rfl (lv_at hl 0 rfl) ?_
  refine va_get (D := (dC, dI)) (ci := 0) (v := .ref (g 59)) (C := RX0) (T := TX0) (N := 9) hx hb hwd inA_X0 hown hK hP 9 rfl rfl 2 (by decide) (hwd _ wk_133) (fun _ h9 => h9) rfl dX0_sign_32 ?_
  refine lv_iload_n hx hb dX0_sign_35 rfl (lv_at hl 1 rfl) ?_
  refine lv_iload_n hx hb dX0_sign_36 rfl (lv_at hl 2 rfl) ?_
  refine va_iast hx hb hK hP (DX hg) hS 59 47 rfl rfl (i := p0) (x := p1) (vin (a := p0.toInt) rfl (by omega)) dX0_sign_37 (fun H locs hP _ hS => ?_)
  have hP := va_P_eq (sX_59 g c _ _ _ _) hP
  have hI := IX.store0 hI 59 (p0 : Int32).toNatClampNeg p1 rfl
  have hal := (alX_F _ _ 59 (upd (F1237 59) (p0 : Int32).toNatClampNeg p1) (by decide) (by decide)).trans hal
  have hP : va_P (dC, dI) classes (wX g c v (va_up F1237 59 (upd (F1237 59) (p0 : Int32).toNatClampNeg p1)) rc) H := hP
  generalize (va_up F1237 59 (upd (F1237 59) (p0 : Int32).toNatClampNeg p1)) = F1238 at hP hI hal
  refine lv_aload_n hx hb dX0_sign_38 rfl (lv_at hl 0 rfl) ?_
  refine va_get (D := (dC, dI)) (ci := 0) (v := .ref (g 60)) (C := RX0) (T := TX0) (N := 9) hx hb hwd inA_X0 hown hK hP 9 rfl rfl 3 (by decide) (hwd _ wk_134) (fun _ h9 => h9) rfl dX0_sign_39 ?_
  refine lv_iload_n hx hb dX0_sign_42 rfl (lv_at hl 1 rfl) ?_
  refine lv_iload_n hx hb dX0_sign_43 rfl (lv_at hl 3 rfl) ?_
  refine va_iast hx hb hK hP (DX hg) hS 60 48 rfl rfl (i := p0) (x := p2) (vin (a := p0.toInt) rfl (by omega)) dX0_sign_44 (fun H locs hP _ hS => ?_)
  have hP := va_P_eq (sX_60 g c _ _ _ _) hP
  have hI := IX.store0 hI 60 (p0 : Int32).toNatClampNeg p2 rfl
  have hal := (alX_F _ _ 60 (upd (F1238 60) (p0 : Int32).toNatClampNeg p2) (by decide) (by decide)).trans hal
  have hP : va_P (dC, dI) classes (wX g c v (va_up F1238 60 (upd (F1238 60) (p0 : Int32).toNatClampNeg p2)) rc) H := hP
  generalize (va_up F1238 60 (upd (F1238 60) (p0 : Int32).toNatClampNeg p2)) = F1239 at hP hI hal
  refine lv_aload_n hx hb dX0_sign_45 rfl (lv_at hl 0 rfl) ?_
  refine va_get (D := (dC, dI)) (ci := 0) (v := .int (v 186)) (C := RX0) (T := TX0) (N := 9) hx hb hwd inA_X0 hown hK hP 9 rfl rfl 6 (by decide) (hwd _ wk_1094) (fun _ h9 => h9) rfl dX0_sign_46 ?_
  have t1240 : 0 ≤ (v 186).toInt ∧ (v 186).toInt ≤ 30 := hI.1 186 _ _ rfl
  have hP9 : va_P (dC, dI) classes (wX g c v F1239 rc) H := hP
  exact W.iret (v := v 186) hx hb hr (fun t ht hW => ⟨⟨(v 186), (v, F1239, rc), rfl, ⟨hI, hal, rfl, (fun _ _ => rfl), trivial⟩, (by show va_P _ _ _ t.heap; rw [ht]; exact hP9)⟩, hS.F ht⟩) hS.2.2 dX0_sign_49
set_option maxHeartbeats 8000000 in
set_option maxRecDepth 100000 in
theorem c_X0_take (l : Launch) (dC : Nat → ClassId) (dI : Nat → Nat → Nat) (g : Nat → Nat) (c : Nat → ClassId) (adK adV : Nat → Nat) (v : Nat → Int32) (F : Nat → Nat → Int32) (rc sz : Nat) (p0 : Int32) (hg : injX g) (hI : IX v F) : Met l yX0_take (Cond.code yX0_take cX0_take 2 none :: wA) ({ frames := 2, cells := 0, slots := 0, locals := 80 }) (va_Pc [.ref (g 9), .int p0] (PX dC dI g c adK adV v F rc sz)) (va_Qv (fun (u : StX) => IX u.1 u.2.1 ∧ alX u.1 u.2.1 = alX v F ∧ u.2.2 = rc ∧ (∀ k, k ∉ ([187, 188] : List Nat) → u.1 k = v k) ∧ True) (BX dC dI g c) (AX g sz)) 0 0 (AX g sz) := by
  refine Met.ofW (cc := cX0_take) (maxL := 2) (ret := none) (by decide) rfl ?_
  intro p e s m args below meth c0 s₁ B hml hv
  obtain ⟨rfl, hsz, hP, hK, hE⟩ := hv
  have hx := B.exec
  have hb := B.bytes
  have hr := B.returns
  have hts := atoms_spec (ws := Cond.code yX0_take cX0_take 2 none :: wA) B.pre
  have hwd : ∀ w ∈ wA, w.before _ s = true := fun w h => hts w (List.mem_cons_of_mem _ h)
  have hown : s.vm.findClass RX0 = some m.cls := findClass_of_methodNamed B.named
  have hlocks := B.notSynchronized
  subst hsz
  have hl := lv_entry ([.ref (g 9), .int p0]) (n := 2) (Nat.le_of_ble_eq_true rfl)
  rw [lg_entry_eq]
  generalize (lg_sl ([.ref (g 9), .int p0]) ++ List.replicate (2 - (lg_sl ([.ref (g 9), .int p0])).length) Slot.unset).toArray = ls at hl ⊢
  have hl : lv_has ls 2 [(0, .ref (g 9)), (1, .int p0)] := hl
  obtain ⟨H, eH⟩ : ∃ z, z = s.heap := ⟨_, rfl⟩
  have hP : va_P (dC, dI) classes (wX g c v F rc) H := by rw [eH]; exact hP
  have hS : va_S (AX g s.heap.size) s.heap H [] := by rw [eH]; exact va_S.rf
  refine my_heap eH ?_
  have hal : alX v F = alX v F := rfl
  have rp0 := i32_rng p0
  refine lv_aload_n hx hb dX0_take_0 rfl (lv_at hl 0 rfl) ?_
  refine va_get (D := (dC, dI)) (ci := 0) (v := .int (v 188)) (C := RX0) (T := TX0) (N := 9) hx hb hwd inA_X0 hown hK hP 9 rfl rfl 8 (by decide) (hwd _ wk_1096) (fun _ h9 => h9) rfl dX0_take_1 ?_
  refine lv_iconst (v := (-1)) hx hb dX0_take_4 (by decide) ?_
  refine lv_icmp_eq (tgt := 9) hx hb dX0_take_5 (by decide) (fun c1241 => ?_) (fun c1241 => ?_)
  · skip
    have t1242 := cv_eq (a := (v 188).toInt) rfl (b := (-1)) (by decide) c1241
    refine lv_aload_n hx hb dX0_take_9 rfl (lv_at hl 0 rfl) ?_
    refine va_get (D := (dC, dI)) (ci := 0) (v := .ref (g 5)) (C := RX0) (T := TX0) (N := 9) hx hb hwd inA_X0 hown hK hP 9 rfl rfl 0 (by decide) (hwd _ wk_138) (fun _ h9 => h9) rfl dX0_take_10 ?_
    refine lv_aload_n hx hb dX0_take_13 rfl (lv_at hl 0 rfl) ?_
    refine va_get (D := (dC, dI)) (ci := 0) (v := .int (v 187)) (C := RX0) (T := TX0) (N := 9) hx hb hwd inA_X0 hown hK hP 9 rfl rfl 7 (by decide) (hwd _ wk_1095) (fun _ h9 => h9) rfl dX0_take_14 ?_
    refine va_calli (va_runV (As := [.int (v 187)]) (rest := []) ⟨hx, hb, hml, hown, hwd⟩ (c_X10_at l dC dI g c adK adV v F rc H.size (v 187) hg hI ) (cwV 1 hwd (gV wk_870 wk_1102 wk_868 wk_869 wk_30) rfl rfl rfl (by decide +kernel) ⟨Nat.le_of_ble_eq_true rfl, Nat.le_of_ble_eq_true rfl⟩) ⟨PX.blind, va_recv hK hP (ci := 10) (q0 := 5) rfl rfl, fun U hU hW => ⟨rfl, PX.at hK hE hP hS hU hW⟩⟩ rfl rfl hl.1 rfl (lv_room (Nat.le_of_ble_eq_true rfl)) dX0_take_17 ⟨Nat.le_of_ble_eq_true rfl, Nat.le_of_ble_eq_true rfl⟩) hS (fun q _ h => (freeX hS) q h) (freeX hS) (fun r1243 u t H1 locs ht hvm hw hB hz1 hk1 hS => ?_)
    unfold BX at hB
    rw [ht] at hB
    have hP : va_P (dC, dI) classes (wX g c v F rc) H1 := hB
    generalize H1 = H at hP hS ⊢
    have rr_r1243 := i32_rng r1243
    refine lv_iload_n hx hb dX0_take_20 rfl (lv_at hl 1 rfl) ?_
    refine lv_icmp_ne (tgt := 37) hx hb dX0_take_21 (by decide) (fun c1244 => ?_) (fun c1244 => ?_)
    · skip
      have t1245 := cv_ne (a := r1243.toInt) rfl (b := p0.toInt) rfl c1244
      refine lv_aload_n hx hb dX0_take_37 rfl (lv_at hl 0 rfl) ?_
      refine lv_aload_n hx hb dX0_take_38 rfl (lv_at hl 0 rfl) ?_
      refine va_get (D := (dC, dI)) (ci := 0) (v := .int (v 187)) (C := RX0) (T := TX0) (N := 9) hx hb hwd inA_X0 hown hK hP 9 rfl rfl 7 (by decide) (hwd _ wk_1095) (fun _ h9 => h9) rfl dX0_take_39 ?_
      refine va_put (D := (dC, dI)) (ci := 0) (v := .int (v 187)) (ty := .int) (C := RX0) (T := TX0) (N := 9) (fs := fsX_9 g v rc) hx hb hwd inA_X0 tyX0 tyX0_ok nmX0 hown hK hP (DX hg) hS 9 rfl rfl 8 (by decide) (hwd _ wk_1096) (fun _ h9 => h9) rfl (by decide +kernel) rfl rfl (Nat.le_of_ble_eq_true rfl) dX0_take_42 (fun H locs hP _ hS => ?_)
      have hP := va_P_eq (pX_188 g c _ _ _ _) hP
      have hI := IX.put0 hI 188 (v 187) rfl
      have hal := (alX_v _ _ 188 (v 187) (by decide) (by decide) (by decide) (by decide)).trans hal
      have hP9 : va_P (dC, dI) classes (wX g c (va_up v 188 (v 187)) F rc) H := hP
      exact W.vret hx hb hr (fun t ht hW => ⟨⟨((va_up v 188 (v 187)), F, rc), rfl, ⟨hI, hal, rfl, (frU (by decide) (fun _ _ => rfl)), trivial⟩, (by show va_P _ _ _ t.heap; rw [ht]; exact hP9)⟩, hS.F ht⟩) hS.2.2 dX0_take_45
    · skip
      have t1246 := cv_eq (a := r1243.toInt) rfl (b := p0.toInt) rfl c1244
      refine lv_aload_n hx hb dX0_take_24 rfl (lv_at hl 0 rfl) ?_
      refine lv_dup hx hb dX0_take_25 rfl ?_
      refine va_get (D := (dC, dI)) (ci := 0) (v := .int (v 187)) (C := RX0) (T := TX0) (N := 9) hx hb hwd inA_X0 hown hK hP 9 rfl rfl 7 (by decide) (hwd _ wk_1095) (fun _ h9 => h9) rfl dX0_take_26 ?_
      refine lv_iconst (v := 1) hx hb dX0_take_29 (by decide) ?_
      refine lv_iadd hx hb dX0_take_30 ?_
      refine lv_topi (fun z1247 e1248 => ?_)
      try (have t1249 := tadd e1248 (a := (v 187).toInt) rfl (b := 1) (by decide) (by omega))
      refine va_put (D := (dC, dI)) (ci := 0) (v := .int z1247) (ty := .int) (C := RX0) (T := TX0) (N := 9) (fs := fsX_9 g v rc) hx hb hwd inA_X0 tyX0 tyX0_ok nmX0 hown hK hP (DX hg) hS 9 rfl rfl 7 (by decide) (hwd _ wk_1095) (fun _ h9 => h9) rfl (by decide +kernel) rfl rfl (Nat.le_of_ble_eq_true rfl) dX0_take_31 (fun H locs hP _ hS => ?_)
      have hP := va_P_eq (pX_187 g c _ _ _ _) hP
      have hI := IX.put0 hI 187 z1247 rfl
      have hal := (alX_v _ _ 187 z1247 (by decide) (by decide) (by decide) (by decide)).trans hal
      refine lv_goto (tgt := 45) hx hb dX0_take_34 (by decide) ?_
      have hP9 : va_P (dC, dI) classes (wX g c (va_up v 187 z1247) F rc) H := hP
      exact W.vret hx hb hr (fun t ht hW => ⟨⟨((va_up v 187 z1247), F, rc), rfl, ⟨hI, hal, rfl, (frU (by decide) (fun _ _ => rfl)), trivial⟩, (by show va_P _ _ _ t.heap; rw [ht]; exact hP9)⟩, hS.F ht⟩) hS.2.2 dX0_take_45
  · skip
    have t1250 := cv_ne (a := (v 188).toInt) rfl (b := (-1)) (by decide) c1241
    have hP9 : va_P (dC, dI) classes (wX g c v F rc) H := hP
    exact W.vret hx hb hr (fun t ht hW => ⟨⟨(v, F, rc), rfl, ⟨hI, hal, rfl, (fun _ _ => rfl), trivial⟩, (by show va_P _ _ _ t.heap; rw [ht]; exact hP9)⟩, hS.F ht⟩) hS.2.2 dX0_take_8
set_option maxHeartbeats 8000000 in
set_option maxRecDepth 100000 in
theorem c_X0_readNumber (l : Launch) (dC : Nat → ClassId) (dI : Nat → Nat → Nat) (g : Nat → Nat) (c : Nat → ClassId) (adK adV : Nat → Nat) (v : Nat → Int32) (F : Nat → Nat → Int32) (rc sz : Nat) (p0 : Int32) (hg : injX g) (hI : IX v F) (h0 : 0 ≤ p0.toInt ∧ p0.toInt ≤ 119) : Met l yX0_readNumber (Cond.code yX0_readNumber cX0_readNumber 3 none :: wA) ({ frames := 4, cells := 0, slots := 0, locals := 160 }) (va_Pc [.ref (g 9), .int p0] (PX dC dI g c adK adV v F rc sz)) (va_Qv (fun (u : StX) => IX u.1 u.2.1 ∧ alX u.1 u.2.1 = alX v F ∧ u.2.2 = rc ∧ (∀ k, k ∉ ([187, 188] : List Nat) → u.1 k = v k) ∧ True) (BX dC dI g c) (AX g sz)) 0 0 (AX g sz) := by
  refine Met.ofW (cc := cX0_readNumber) (maxL := 3) (ret := none) (by decide) rfl ?_
  intro p e s m args below meth c0 s₁ B hml hv
  obtain ⟨rfl, hsz, hP, hK, hE⟩ := hv
  have hx := B.exec
  have hb := B.bytes
  have hr := B.returns
  have hts := atoms_spec (ws := Cond.code yX0_readNumber cX0_readNumber 3 none :: wA) B.pre
  have hwd : ∀ w ∈ wA, w.before _ s = true := fun w h => hts w (List.mem_cons_of_mem _ h)
  have hown : s.vm.findClass RX0 = some m.cls := findClass_of_methodNamed B.named
  have hlocks := B.notSynchronized
  subst hsz
  have hl := lv_entry ([.ref (g 9), .int p0]) (n := 3) (Nat.le_of_ble_eq_true rfl)
  rw [lg_entry_eq]
  generalize (lg_sl ([.ref (g 9), .int p0]) ++ List.replicate (3 - (lg_sl ([.ref (g 9), .int p0])).length) Slot.unset).toArray = ls at hl ⊢
  have hl : lv_has ls 3 [(0, .ref (g 9)), (1, .int p0)] := hl
  obtain ⟨H, eH⟩ : ∃ z, z = s.heap := ⟨_, rfl⟩
  have hP : va_P (dC, dI) classes (wX g c v F rc) H := by rw [eH]; exact hP
  have hS : va_S (AX g s.heap.size) s.heap H [] := by rw [eH]; exact va_S.rf
  refine my_heap eH ?_
  have hal : alX v F = alX v F := rfl
  have rp0 := i32_rng p0
  refine lv_aload_n hx hb dX0_readNumber_0 rfl (lv_at hl 0 rfl) ?_
  refine va_get (D := (dC, dI)) (ci := 0) (v := .int (v 188)) (C := RX0) (T := TX0) (N := 9) hx hb hwd inA_X0 hown hK hP 9 rfl rfl 8 (by decide) (hwd _ wk_1096) (fun _ h9 => h9) rfl dX0_readNumber_1 ?_
  refine lv_iconst (v := (-1)) hx hb dX0_readNumber_4 (by decide) ?_
  refine lv_icmp_eq (tgt := 9) hx hb dX0_readNumber_5 (by decide) (fun c1251 => ?_) (fun c1251 => ?_)
  · skip
    have t1252 := cv_eq (a := (v 188).toInt) rfl (b := (-1)) (by decide) c1251
    refine lv_aload_n hx hb dX0_readNumber_9 rfl (lv_at hl 0 rfl) ?_
    refine va_get (D := (dC, dI)) (ci := 0) (v := .ref (g 5)) (C := RX0) (T := TX0) (N := 9) hx hb hwd inA_X0 hown hK hP 9 rfl rfl 0 (by decide) (hwd _ wk_138) (fun _ h9 => h9) rfl dX0_readNumber_10 ?_
    refine lv_aload_n hx hb dX0_readNumber_13 rfl (lv_at hl 0 rfl) ?_
    refine va_get (D := (dC, dI)) (ci := 0) (v := .int (v 187)) (C := RX0) (T := TX0) (N := 9) hx hb hwd inA_X0 hown hK hP 9 rfl rfl 7 (by decide) (hwd _ wk_1095) (fun _ h9 => h9) rfl dX0_readNumber_14 ?_
    refine va_calli (va_runV (As := [.int (v 187)]) (rest := []) ⟨hx, hb, hml, hown, hwd⟩ (c_X10_digitsAt l dC dI g c adK adV v F rc H.size (v 187) hg hI ) (cwV 1 hwd (gV wk_979 wk_1114 wk_977 wk_978 wk_30) rfl rfl rfl (by decide +kernel) ⟨Nat.le_of_ble_eq_true rfl, Nat.le_of_ble_eq_true rfl⟩) ⟨PX.blind, va_recv hK hP (ci := 10) (q0 := 5) rfl rfl, fun U hU hW => ⟨rfl, PX.at hK hE hP hS hU hW⟩⟩ rfl rfl hl.1 rfl (lv_room (Nat.le_of_ble_eq_true rfl)) dX0_readNumber_17 ⟨Nat.le_of_ble_eq_true rfl, Nat.le_of_ble_eq_true rfl⟩) hS (fun q _ h => (freeX hS) q h) (freeX hS) (fun r1253 u t H1 locs ht hvm hw hB hz1 hk1 hS => ?_)
    unfold BX at hB
    rw [ht] at hB
    have hP : va_P (dC, dI) classes (wX g c v F rc) H1 := hB
    have hw : 0 ≤ r1253.toInt ∧ r1253.toInt ≤ 5 := hw
    generalize H1 = H at hP hS ⊢
    have hw_r1253 := hw
    refine lv_istore_n (lv' := [(2, .int r1253), (0, .ref (g 9)), (1, .int p0)]) hx hb dX0_readNumber_20 rfl hl (by decide) rfl (fun ls hl => ?_)
    refine lv_iload_n hx hb dX0_readNumber_21 rfl (lv_at hl 0 rfl) ?_
    refine lv_if_ne (tgt := 34) hx hb dX0_readNumber_22 (by decide) (fun c1254 => ?_) (fun c1254 => ?_)
    · skip
      have t1255 := cv_ne (a := r1253.toInt) rfl (b := 0) (by decide) c1254
      refine lv_aload_n hx hb dX0_readNumber_34 rfl (lv_at hl 1 rfl) ?_
      refine va_get (D := (dC, dI)) (ci := 0) (v := .ref (g 72)) (C := RX0) (T := TX0) (N := 9) hx hb hwd inA_X0 hown hK hP 9 rfl rfl 5 (by decide) (hwd _ wk_137) (fun _ h9 => h9) rfl dX0_readNumber_35 ?_
      refine lv_iload_n hx hb dX0_readNumber_38 rfl (lv_at hl 2 rfl) ?_
      refine lv_aload_n hx hb dX0_readNumber_39 rfl (lv_at hl 1 rfl) ?_
      refine va_get (D := (dC, dI)) (ci := 0) (v := .ref (g 5)) (C := RX0) (T := TX0) (N := 9) hx hb hwd inA_X0 hown hK hP 9 rfl rfl 0 (by decide) (hwd _ wk_138) (fun _ h9 => h9) rfl dX0_readNumber_40 ?_
      refine lv_aload_n hx hb dX0_readNumber_43 rfl (lv_at hl 1 rfl) ?_
      refine va_get (D := (dC, dI)) (ci := 0) (v := .int (v 187)) (C := RX0) (T := TX0) (N := 9) hx hb hwd inA_X0 hown hK hP 9 rfl rfl 7 (by decide) (hwd _ wk_1095) (fun _ h9 => h9) rfl dX0_readNumber_44 ?_
      refine lv_iload_n hx hb dX0_readNumber_47 rfl (lv_at hl 0 rfl) ?_
      refine va_calli (va_runV (As := [.int (v 187), .int r1253]) (rest := [.int p0, .ref (g 72)]) ⟨hx, hb, hml, hown, hwd⟩ (c_X10_numberAt l dC dI g c adK adV v F rc H.size (v 187) r1253 hg hI (by omega)) (cwV 2 hwd (gV wk_988 wk_1115 wk_986 wk_987 wk_30) rfl rfl rfl (by decide +kernel) ⟨Nat.le_of_ble_eq_true rfl, Nat.le_of_ble_eq_true rfl⟩) ⟨PX.blind, va_recv hK hP (ci := 10) (q0 := 5) rfl rfl, fun U hU hW => ⟨rfl, PX.at hK hE hP hS hU hW⟩⟩ rfl rfl hl.1 rfl (lv_room (Nat.le_of_ble_eq_true rfl)) dX0_readNumber_48 ⟨Nat.le_of_ble_eq_true rfl, Nat.le_of_ble_eq_true rfl⟩) hS (fun q _ h => (freeX hS) q h) (freeX hS) (fun r1256 u t H1 locs ht hvm hw hB hz1 hk1 hS => ?_)
      unfold BX at hB
      rw [ht] at hB
      have hP : va_P (dC, dI) classes (wX g c v F rc) H1 := hB
      generalize H1 = H at hP hS ⊢
      have rr_r1256 := i32_rng r1256
      refine va_iast hx hb hK hP (DX hg) hS 72 60 rfl rfl (i := p0) (x := r1256) (vin (a := p0.toInt) rfl (by omega)) dX0_readNumber_51 (fun H locs hP _ hS => ?_)
      have hP := va_P_eq (sX_72 g c _ _ _ _) hP
      have hI := IX.store0 hI 72 (p0 : Int32).toNatClampNeg r1256 rfl
      have hal := (alX_F _ _ 72 (upd (F 72) (p0 : Int32).toNatClampNeg r1256) (by decide) (by decide)).trans hal
      have hP : va_P (dC, dI) classes (wX g c v (va_up F 72 (upd (F 72) (p0 : Int32).toNatClampNeg r1256)) rc) H := hP
      generalize (va_up F 72 (upd (F 72) (p0 : Int32).toNatClampNeg r1256)) = F1257 at hP hI hal
      refine lv_aload_n hx hb dX0_readNumber_52 rfl (lv_at hl 1 rfl) ?_
      refine lv_dup hx hb dX0_readNumber_53 rfl ?_
      refine va_get (D := (dC, dI)) (ci := 0) (v := .int (v 187)) (C := RX0) (T := TX0) (N := 9) hx hb hwd inA_X0 hown hK hP 9 rfl rfl 7 (by decide) (hwd _ wk_1095) (fun _ h9 => h9) rfl dX0_readNumber_54 ?_
      refine lv_iload_n hx hb dX0_readNumber_57 rfl (lv_at hl 0 rfl) ?_
      refine lv_iadd hx hb dX0_readNumber_58 ?_
      refine lv_topi (fun z1258 e1259 => ?_)
      try (have t1260 := tadd e1259 (a := (v 187).toInt) rfl (b := r1253.toInt) rfl (by omega))
      refine va_put (D := (dC, dI)) (ci := 0) (v := .int z1258) (ty := .int) (C := RX0) (T := TX0) (N := 9) (fs := fsX_9 g v rc) hx hb hwd inA_X0 tyX0 tyX0_ok nmX0 hown hK hP (DX hg) hS 9 rfl rfl 7 (by decide) (hwd _ wk_1095) (fun _ h9 => h9) rfl (by decide +kernel) rfl rfl (Nat.le_of_ble_eq_true rfl) dX0_readNumber_59 (fun H locs hP _ hS => ?_)
      have hP := va_P_eq (pX_187 g c _ _ _ _) hP
      have hI := IX.put0 hI 187 z1258 rfl
      have hal := (alX_v _ _ 187 z1258 (by decide) (by decide) (by decide) (by decide)).trans hal
      have hP9 : va_P (dC, dI) classes (wX g c (va_up v 187 z1258) F1257 rc) H := hP
      exact W.vret hx hb hr (fun t ht hW => ⟨⟨((va_up v 187 z1258), F1257, rc), rfl, ⟨hI, hal, rfl, (frU (by decide) (fun _ _ => rfl)), trivial⟩, (by show va_P _ _ _ t.heap; rw [ht]; exact hP9)⟩, hS.F ht⟩) hS.2.2 dX0_readNumber_62
    · skip
      have t1261 := cv_eq (a := r1253.toInt) rfl (b := 0) (by decide) c1254
      refine lv_aload_n hx hb dX0_readNumber_25 rfl (lv_at hl 1 rfl) ?_
      refine lv_aload_n hx hb dX0_readNumber_26 rfl (lv_at hl 1 rfl) ?_
      refine va_get (D := (dC, dI)) (ci := 0) (v := .int (v 187)) (C := RX0) (T := TX0) (N := 9) hx hb hwd inA_X0 hown hK hP 9 rfl rfl 7 (by decide) (hwd _ wk_1095) (fun _ h9 => h9) rfl dX0_readNumber_27 ?_
      refine va_put (D := (dC, dI)) (ci := 0) (v := .int (v 187)) (ty := .int) (C := RX0) (T := TX0) (N := 9) (fs := fsX_9 g v rc) hx hb hwd inA_X0 tyX0 tyX0_ok nmX0 hown hK hP (DX hg) hS 9 rfl rfl 8 (by decide) (hwd _ wk_1096) (fun _ h9 => h9) rfl (by decide +kernel) rfl rfl (Nat.le_of_ble_eq_true rfl) dX0_readNumber_30 (fun H locs hP _ hS => ?_)
      have hP := va_P_eq (pX_188 g c _ _ _ _) hP
      have hI := IX.put0 hI 188 (v 187) rfl
      have hal := (alX_v _ _ 188 (v 187) (by decide) (by decide) (by decide) (by decide)).trans hal
      have hP9 : va_P (dC, dI) classes (wX g c (va_up v 188 (v 187)) F rc) H := hP
      exact W.vret hx hb hr (fun t ht hW => ⟨⟨((va_up v 188 (v 187)), F, rc), rfl, ⟨hI, hal, rfl, (frU (by decide) (fun _ _ => rfl)), trivial⟩, (by show va_P _ _ _ t.heap; rw [ht]; exact hP9)⟩, hS.F ht⟩) hS.2.2 dX0_readNumber_33
  · skip
    have t1262 := cv_ne (a := (v 188).toInt) rfl (b := (-1)) (by decide) c1251
    have hP9 : va_P (dC, dI) classes (wX g c v F rc) H := hP
    exact W.vret hx hb hr (fun t ht hW => ⟨⟨(v, F, rc), rfl, ⟨hI, hal, rfl, (fun _ _ => rfl), trivial⟩, (by show va_P _ _ _ t.heap; rw [ht]; exact hP9)⟩, hS.F ht⟩) hS.2.2 dX0_readNumber_8
set_option maxHeartbeats 8000000 in
set_option maxRecDepth 100000 in
theorem c_X0_readLine (l : Launch) (dC : Nat → ClassId) (dI : Nat → Nat → Nat) (g : Nat → Nat) (c : Nat → ClassId) (adK adV : Nat → Nat) (v : Nat → Int32) (F : Nat → Nat → Int32) (rc sz : Nat) (hg : injX g) (hI : IX v F) (hq0 : (v 186).toInt ≤ 29) : Met l yX0_readLine (Cond.code yX0_readLine cX0_readLine 4 none :: wA) ({ frames := 5, cells := 0, slots := 0, locals := 200 }) (va_Pc [.ref (g 9)] (PX dC dI g c adK adV v F rc sz)) (va_Qv (fun (u : StX) => IX u.1 u.2.1 ∧ alX u.1 u.2.1 = alX v F ∧ u.2.2 = rc ∧ (∀ k, k ∉ ([187, 188] : List Nat) → u.1 k = v k) ∧ True) (BX dC dI g c) (AX g sz)) 0 0 (AX g sz) := by
  refine Met.ofW (cc := cX0_readLine) (maxL := 4) (ret := none) (by decide) rfl ?_
  intro p e s m args below meth c0 s₁ B hml hv
  obtain ⟨rfl, hsz, hP, hK, hE⟩ := hv
  have hx := B.exec
  have hb := B.bytes
  have hr := B.returns
  have hts := atoms_spec (ws := Cond.code yX0_readLine cX0_readLine 4 none :: wA) B.pre
  have hwd : ∀ w ∈ wA, w.before _ s = true := fun w h => hts w (List.mem_cons_of_mem _ h)
  have hown : s.vm.findClass RX0 = some m.cls := findClass_of_methodNamed B.named
  have hlocks := B.notSynchronized
  subst hsz
  have hl := lv_entry ([.ref (g 9)]) (n := 4) (Nat.le_of_ble_eq_true rfl)
  rw [lg_entry_eq]
  generalize (lg_sl ([.ref (g 9)]) ++ List.replicate (4 - (lg_sl ([.ref (g 9)])).length) Slot.unset).toArray = ls at hl ⊢
  have hl : lv_has ls 4 [(0, .ref (g 9))] := hl
  obtain ⟨H, eH⟩ : ∃ z, z = s.heap := ⟨_, rfl⟩
  have hP : va_P (dC, dI) classes (wX g c v F rc) H := by rw [eH]; exact hP
  have hS : va_S (AX g s.heap.size) s.heap H [] := by rw [eH]; exact va_S.rf
  refine my_heap eH ?_
  have hal : alX v F = alX v F := rfl
  refine lv_aload_n hx hb dX0_readLine_0 rfl (lv_at hl 0 rfl) ?_
  refine va_get (D := (dC, dI)) (ci := 0) (v := .ref (g 5)) (C := RX0) (T := TX0) (N := 9) hx hb hwd inA_X0 hown hK hP 9 rfl rfl 0 (by decide) (hwd _ wk_138) (fun _ h9 => h9) rfl dX0_readLine_1 ?_
  refine lv_aload_n hx hb dX0_readLine_4 rfl (lv_at hl 0 rfl) ?_
  refine va_get (D := (dC, dI)) (ci := 0) (v := .int (v 187)) (C := RX0) (T := TX0) (N := 9) hx hb hwd inA_X0 hown hK hP 9 rfl rfl 7 (by decide) (hwd _ wk_1095) (fun _ h9 => h9) rfl dX0_readLine_5 ?_
  refine va_calli (va_runV (As := [.int (v 187)]) (rest := []) ⟨hx, hb, hml, hown, hwd⟩ (c_X10_at l dC dI g c adK adV v F rc H.size (v 187) hg hI ) (cwV 1 hwd (gV wk_870 wk_1102 wk_868 wk_869 wk_30) rfl rfl rfl (by decide +kernel) ⟨Nat.le_of_ble_eq_true rfl, Nat.le_of_ble_eq_true rfl⟩) ⟨PX.blind, va_recv hK hP (ci := 10) (q0 := 5) rfl rfl, fun U hU hW => ⟨rfl, PX.at hK hE hP hS hU hW⟩⟩ rfl rfl hl.1 rfl (lv_room (Nat.le_of_ble_eq_true rfl)) dX0_readLine_8 ⟨Nat.le_of_ble_eq_true rfl, Nat.le_of_ble_eq_true rfl⟩) hS (fun q _ h => (freeX hS) q h) (freeX hS) (fun r1263 u t H1 locs ht hvm hw hB hz1 hk1 hS => ?_)
  unfold BX at hB
  rw [ht] at hB
  have hP : va_P (dC, dI) classes (wX g c v F rc) H1 := hB
  generalize H1 = H at hP hS ⊢
  have rr_r1263 := i32_rng r1263
  refine lv_istore_n (lv' := [(1, .int r1263), (0, .ref (g 9))]) hx hb dX0_readLine_11 rfl hl (by decide) rfl (fun ls hl => ?_)
  refine lv_iload_n hx hb dX0_readLine_12 rfl (lv_at hl 0 rfl) ?_
  refine va_calli (va_runS (As := [.int r1263]) (rest := []) ⟨hx, hb, hml, hown, hwd⟩ (c_X0_numbersBehind l dC dI g c adK adV v F rc H.size r1263 hg hI ) (va_cwS 1 hwd (gT wk_1105 wk_1103 wk_1104 wk_46) rfl rfl rfl (by decide +kernel) ⟨Nat.le_of_ble_eq_true rfl, Nat.le_of_ble_eq_true rfl⟩) ⟨PX.blind, fun U hU hW => ⟨rfl, PX.at hK hE hP hS hU hW⟩⟩ rfl rfl hl.1 rfl (lv_room (Nat.le_of_ble_eq_true rfl)) dX0_readLine_13 ⟨Nat.le_of_ble_eq_true rfl, Nat.le_of_ble_eq_true rfl⟩) hS (fun q _ h => (freeX hS) q h) (freeX hS) (fun r1264 u t H1 locs ht hvm hw hB hz1 hk1 hS => ?_)
  unfold BX at hB
  rw [ht] at hB
  have hP : va_P (dC, dI) classes (wX g c v F rc) H1 := hB
  have hw : 0 ≤ r1264.toInt ∧ r1264.toInt ≤ 3 := hw
  generalize H1 = H at hP hS ⊢
  have hw_r1264 := hw
  refine lv_istore_n (lv' := [(2, .int r1264), (1, .int r1263), (0, .ref (g 9))]) hx hb dX0_readLine_16 rfl hl (by decide) rfl (fun ls hl => ?_)
  refine lv_iload_n hx hb dX0_readLine_17 rfl (lv_at hl 0 rfl) ?_
  refine lv_if_ne (tgt := 30) hx hb dX0_readLine_18 (by decide) (fun c1265 => ?_) (fun c1265 => ?_)
  · skip
    have t1266 := cv_ne (a := r1264.toInt) rfl (b := 0) (by decide) c1265
    refine lv_aload_n hx hb dX0_readLine_30 rfl (lv_at hl 2 rfl) ?_
    refine lv_dup hx hb dX0_readLine_31 rfl ?_
    refine va_get (D := (dC, dI)) (ci := 0) (v := .int (v 187)) (C := RX0) (T := TX0) (N := 9) hx hb hwd inA_X0 hown hK hP 9 rfl rfl 7 (by decide) (hwd _ wk_1095) (fun _ h9 => h9) rfl dX0_readLine_32 ?_
    refine lv_iconst (v := 1) hx hb dX0_readLine_35 (by decide) ?_
    refine lv_iadd hx hb dX0_readLine_36 ?_
    refine lv_topi (fun z1267 e1268 => ?_)
    try (have t1269 := tadd e1268 (a := (v 187).toInt) rfl (b := 1) (by decide) (by omega))
    refine va_put (D := (dC, dI)) (ci := 0) (v := .int z1267) (ty := .int) (C := RX0) (T := TX0) (N := 9) (fs := fsX_9 g v rc) hx hb hwd inA_X0 tyX0 tyX0_ok nmX0 hown hK hP (DX hg) hS 9 rfl rfl 7 (by decide) (hwd _ wk_1095) (fun _ h9 => h9) rfl (by decide +kernel) rfl rfl (Nat.le_of_ble_eq_true rfl) dX0_readLine_37 (fun H locs hP _ hS => ?_)
    have hP := va_P_eq (pX_187 g c _ _ _ _) hP
    have hI := IX.put0 hI 187 z1267 rfl
    have hal := (alX_v _ _ 187 z1267 (by decide) (by decide) (by decide) (by decide)).trans hal
    refine lv_aload_n hx hb dX0_readLine_40 rfl (lv_at hl 2 rfl) ?_
    refine va_get (D := (dC, dI)) (ci := 0) (v := .ref (g 72)) (C := RX0) (T := TX0) (N := 9) hx hb hwd inA_X0 hown hK hP 9 rfl rfl 5 (by decide) (hwd _ wk_137) (fun _ h9 => h9) rfl dX0_readLine_41 ?_
    refine lv_aload_n hx hb dX0_readLine_44 rfl (lv_at hl 2 rfl) ?_
    refine va_get (D := (dC, dI)) (ci := 0) (v := .int (v 186)) (C := RX0) (T := TX0) (N := 9) hx hb hwd inA_X0 hown hK hP 9 rfl rfl 6 (by decide) (hwd _ wk_1094) (fun _ h9 => h9) rfl dX0_readLine_45 ?_
    have t1270 : 0 ≤ (v 186).toInt ∧ (v 186).toInt ≤ 30 := hI.1 186 _ _ rfl
    refine lv_iconst (v := 4) hx hb dX0_readLine_48 (by decide) ?_
    refine lv_imul hx hb dX0_readLine_49 ?_
    refine lv_topi (fun z1271 e1272 => ?_)
    try (have t1273 := tmul e1272 (a := (v 186).toInt) rfl (b := 4) (by decide) (by omega))
    refine lv_iload_n hx hb dX0_readLine_50 rfl (lv_at hl 1 rfl) ?_
    refine va_iast hx hb hK hP (DX hg) hS 72 60 rfl rfl (i := z1271) (x := r1263) (vin (a := z1271.toInt) rfl (by omega)) dX0_readLine_51 (fun H locs hP _ hS => ?_)
    have hP := va_P_eq (sX_72 g c _ _ _ _) hP
    have hI := IX.store0 hI 72 (z1271 : Int32).toNatClampNeg r1263 rfl
    have hal := (alX_F _ _ 72 (upd (F 72) (z1271 : Int32).toNatClampNeg r1263) (by decide) (by decide)).trans hal
    have hP : va_P (dC, dI) classes (wX g c (va_up v 187 z1267) (va_up F 72 (upd (F 72) (z1271 : Int32).toNatClampNeg r1263)) rc) H := hP
    generalize (va_up F 72 (upd (F 72) (z1271 : Int32).toNatClampNeg r1263)) = F1274 at hP hI hal
    refine lv_iconst (v := 1) hx hb dX0_readLine_52 (by decide) ?_
    refine lv_istore_n (lv' := [(3, .int 1), (2, .int r1264), (1, .int r1263), (0, .ref (g 9))]) hx hb dX0_readLine_53 rfl hl (by decide) rfl (fun ls hl => ?_)
    have lp1275 : ∀ (n : Nat) (x3_lp1275 : Int32) (v_lp1275 : Nat → Int32) (F_lp1275 : Nat → Nat → Int32) (H : Heap) (locs : List Loc) (ls : Array Slot), (1 ≤ x3_lp1275.toInt) → (x3_lp1275.toInt ≤ 4) → (2147483648 - x3_lp1275.toInt ≤ (n : Int)) → (∀ k, k ∉ ([187, 188] : List Nat) → v_lp1275 k = (va_up v 187 z1267) k) → IX v_lp1275 F_lp1275 → alX v_lp1275 F_lp1275 = alX v F → va_P (dC, dI) classes (wX g c v_lp1275 F_lp1275 rc) H → va_S (AX g s.heap.size) s.heap H locs → lv_has ls 4 [(3, .int x3_lp1275), (2, .int r1264), (1, .int r1263), (0, .ref (g 9))] → W p l e (headSpec (Cond.code yX0_readLine cX0_readLine 4 none :: wA) ({ frames := 5, cells := 0, slots := 0, locals := 200 })).room s m ([.ref (g 9)] : List Value).toArray below meth c0 H locs 0 0 (MQ below (va_Qv (fun (u : StX) => IX u.1 u.2.1 ∧ alX u.1 u.2.1 = alX v F ∧ u.2.2 = rc ∧ (∀ k, k ∉ ([187, 188] : List Nat) → u.1 k = v k) ∧ True) (BX dC dI g c) (AX g s.heap.size)) ([.ref (g 9)] : List Value).toArray s 0 0 (AX g s.heap.size)) (F0 m 54 ls []) := by
      intro n
      induction n with
      | zero =>
        intro x3_lp1275 v_lp1275 F_lp1275 H locs ls t1276 t1277 hm hf_lp1275 hI hal hP hS hl
        exfalso
        have := i32_rng x3_lp1275
        have hI1 := hI.1
        omega
      | succ n ih_lp1275 =>
        intro x3_lp1275 v_lp1275 F_lp1275 H locs ls t1276 t1277 hm hf_lp1275 hI hal hP hS hl
        have rx3_lp1275 := i32_rng x3_lp1275
        refine lv_iload_n hx hb dX0_readLine_54 rfl (lv_at hl 0 rfl) ?_
        refine lv_iload_n hx hb dX0_readLine_55 rfl (lv_at hl 1 rfl) ?_
        refine lv_icmp_gt (tgt := 91) hx hb dX0_readLine_56 (by decide) (fun c1278 => ?_) (fun c1278 => ?_)
        · skip
          have t1279 := cv_lt (a := r1264.toInt) rfl (b := x3_lp1275.toInt) rfl c1278
          refine lv_aload_n hx hb dX0_readLine_91 rfl (lv_at hl 3 rfl) ?_
          refine lv_bipush (v := 59) hx hb dX0_readLine_92 (by decide) ?_
          refine va_callv (va_runV (As := [.int 59]) (rest := []) ⟨hx, hb, hml, hown, hwd⟩ (c_X0_take l dC dI g c adK adV v_lp1275 F_lp1275 rc H.size 59 hg hI ) (cwV 1 hwd (gV wk_1109 wk_1106 wk_1107 wk_1108 wk_46) rfl rfl rfl (by decide +kernel) ⟨Nat.le_of_ble_eq_true rfl, Nat.le_of_ble_eq_true rfl⟩) ⟨PX.blind, va_recv hK hP (ci := 0) (q0 := 9) rfl rfl, fun U hU hW => ⟨rfl, PX.at hK hE hP hS hU hW⟩⟩ rfl rfl hl.1 rfl (lv_room (Nat.le_of_ble_eq_true rfl)) dX0_readLine_94 ⟨Nat.le_of_ble_eq_true rfl, Nat.le_of_ble_eq_true rfl⟩) hS (fun q _ h => (freeX hS) q h) (freeX hS) (fun u t H1 locs ht hvm hw hB hz1 hk1 hS => ?_)
          unfold BX at hB
          rw [ht] at hB
          obtain ⟨v1281, F1282, rc9⟩ := u
          obtain ⟨hI, hal9, hrc, hf1283, hw⟩ := hw
          dsimp only at hI hal9 hrc hB hf1283 hw
          rw [hrc] at hB
          have hal := hal9.trans hal
          have hP : va_P (dC, dI) classes (wX g c v1281 F1282 rc) H1 := hB
          generalize H1 = H at hP hS ⊢
          have hP9 : va_P (dC, dI) classes (wX g c v1281 F1282 rc) H := hP
          exact W.vret hx hb hr (fun t ht hW => ⟨⟨(v1281, F1282, rc), rfl, ⟨hI, hal, rfl, (frC (by decide) hf1283 (frC (by decide) hf_lp1275 (frU (by decide) (fun _ _ => rfl)))), trivial⟩, (by show va_P _ _ _ t.heap; rw [ht]; exact hP9)⟩, hS.F ht⟩) hS.2.2 dX0_readLine_97
        · skip
          have t1284 := cv_nlt (a := r1264.toInt) rfl (b := x3_lp1275.toInt) rfl c1278
          refine lv_aload_n hx hb dX0_readLine_59 rfl (lv_at hl 3 rfl) ?_
          refine va_get (D := (dC, dI)) (ci := 0) (v := .int (v_lp1275 188)) (C := RX0) (T := TX0) (N := 9) hx hb hwd inA_X0 hown hK hP 9 rfl rfl 8 (by decide) (hwd _ wk_1096) (fun _ h9 => h9) rfl dX0_readLine_60 ?_
          refine lv_iconst (v := (-1)) hx hb dX0_readLine_63 (by decide) ?_
          refine lv_icmp_ne (tgt := 91) hx hb dX0_readLine_64 (by decide) (fun c1285 => ?_) (fun c1285 => ?_)
          · skip
            have t1286 := cv_ne (a := (v_lp1275 188).toInt) rfl (b := (-1)) (by decide) c1285
            refine lv_aload_n hx hb dX0_readLine_91 rfl (lv_at hl 3 rfl) ?_
            refine lv_bipush (v := 59) hx hb dX0_readLine_92 (by decide) ?_
            refine va_callv (va_runV (As := [.int 59]) (rest := []) ⟨hx, hb, hml, hown, hwd⟩ (c_X0_take l dC dI g c adK adV v_lp1275 F_lp1275 rc H.size 59 hg hI ) (cwV 1 hwd (gV wk_1109 wk_1106 wk_1107 wk_1108 wk_46) rfl rfl rfl (by decide +kernel) ⟨Nat.le_of_ble_eq_true rfl, Nat.le_of_ble_eq_true rfl⟩) ⟨PX.blind, va_recv hK hP (ci := 0) (q0 := 9) rfl rfl, fun U hU hW => ⟨rfl, PX.at hK hE hP hS hU hW⟩⟩ rfl rfl hl.1 rfl (lv_room (Nat.le_of_ble_eq_true rfl)) dX0_readLine_94 ⟨Nat.le_of_ble_eq_true rfl, Nat.le_of_ble_eq_true rfl⟩) hS (fun q _ h => (freeX hS) q h) (freeX hS) (fun u t H1 locs ht hvm hw hB hz1 hk1 hS => ?_)
            unfold BX at hB
            rw [ht] at hB
            obtain ⟨v1288, F1289, rc9⟩ := u
            obtain ⟨hI, hal9, hrc, hf1290, hw⟩ := hw
            dsimp only at hI hal9 hrc hB hf1290 hw
            rw [hrc] at hB
            have hal := hal9.trans hal
            have hP : va_P (dC, dI) classes (wX g c v1288 F1289 rc) H1 := hB
            generalize H1 = H at hP hS ⊢
            have hP9 : va_P (dC, dI) classes (wX g c v1288 F1289 rc) H := hP
            exact W.vret hx hb hr (fun t ht hW => ⟨⟨(v1288, F1289, rc), rfl, ⟨hI, hal, rfl, (frC (by decide) hf1290 (frC (by decide) hf_lp1275 (frU (by decide) (fun _ _ => rfl)))), trivial⟩, (by show va_P _ _ _ t.heap; rw [ht]; exact hP9)⟩, hS.F ht⟩) hS.2.2 dX0_readLine_97
          · skip
            have t1291 := cv_eq (a := (v_lp1275 188).toInt) rfl (b := (-1)) (by decide) c1285
            refine lv_aload_n hx hb dX0_readLine_67 rfl (lv_at hl 3 rfl) ?_
            refine lv_bipush (v := 32) hx hb dX0_readLine_68 (by decide) ?_
            refine va_callv (va_runV (As := [.int 32]) (rest := []) ⟨hx, hb, hml, hown, hwd⟩ (c_X0_take l dC dI g c adK adV v_lp1275 F_lp1275 rc H.size 32 hg hI ) (cwV 1 hwd (gV wk_1109 wk_1106 wk_1107 wk_1108 wk_46) rfl rfl rfl (by decide +kernel) ⟨Nat.le_of_ble_eq_true rfl, Nat.le_of_ble_eq_true rfl⟩) ⟨PX.blind, va_recv hK hP (ci := 0) (q0 := 9) rfl rfl, fun U hU hW => ⟨rfl, PX.at hK hE hP hS hU hW⟩⟩ rfl rfl hl.1 rfl (lv_room (Nat.le_of_ble_eq_true rfl)) dX0_readLine_70 ⟨Nat.le_of_ble_eq_true rfl, Nat.le_of_ble_eq_true rfl⟩) hS (fun q _ h => (freeX hS) q h) (freeX hS) (fun u t H1 locs ht hvm hw hB hz1 hk1 hS => ?_)
            unfold BX at hB
            rw [ht] at hB
            obtain ⟨v1293, F1294, rc9⟩ := u
            obtain ⟨hI, hal9, hrc, hf1295, hw⟩ := hw
            dsimp only at hI hal9 hrc hB hf1295 hw
            rw [hrc] at hB
            have hal := hal9.trans hal
            have hP : va_P (dC, dI) classes (wX g c v1293 F1294 rc) H1 := hB
            generalize H1 = H at hP hS ⊢
            refine lv_aload_n hx hb dX0_readLine_73 rfl (lv_at hl 3 rfl) ?_
            refine lv_aload_n hx hb dX0_readLine_74 rfl (lv_at hl 3 rfl) ?_
            refine va_get (D := (dC, dI)) (ci := 0) (v := .int (v1293 186)) (C := RX0) (T := TX0) (N := 9) hx hb hwd inA_X0 hown hK hP 9 rfl rfl 6 (by decide) (hwd _ wk_1094) (fun _ h9 => h9) rfl dX0_readLine_75 ?_
            refine my_top (v := v 186) ((hf1295 186 (by decide)).trans (hf_lp1275 186 (by decide))) ?_
            have t1296 : 0 ≤ (v 186).toInt ∧ (v 186).toInt ≤ 30 := by have h9 := hI.1 186 _ _ rfl; rw [show v1293 186 = v 186 from (hf1295 186 (by decide)).trans (hf_lp1275 186 (by decide))] at h9; exact h9
            refine lv_iconst (v := 4) hx hb dX0_readLine_78 (by decide) ?_
            refine lv_imul hx hb dX0_readLine_79 ?_
            refine lv_topi (fun z1297 e1298 => ?_)
            try (have t1299 := tmul e1298 (a := (v 186).toInt) rfl (b := 4) (by decide) (by omega))
            refine lv_iload_n hx hb dX0_readLine_80 rfl (lv_at hl 0 rfl) ?_
            refine lv_iadd hx hb dX0_readLine_81 ?_
            refine lv_topi (fun z1300 e1301 => ?_)
            try (have t1302 := tadd e1301 (a := z1297.toInt) rfl (b := x3_lp1275.toInt) rfl (by omega))
            refine va_callv (va_runV (As := [.int z1300]) (rest := []) ⟨hx, hb, hml, hown, hwd⟩ (c_X0_readNumber l dC dI g c adK adV v1293 F1294 rc H.size z1300 hg hI (by omega)) (cwV 1 hwd (gV wk_1113 wk_1110 wk_1111 wk_1112 wk_46) rfl rfl rfl (by decide +kernel) ⟨Nat.le_of_ble_eq_true rfl, Nat.le_of_ble_eq_true rfl⟩) ⟨PX.blind, va_recv hK hP (ci := 0) (q0 := 9) rfl rfl, fun U hU hW => ⟨rfl, PX.at hK hE hP hS hU hW⟩⟩ rfl rfl hl.1 rfl (lv_room (Nat.le_of_ble_eq_true rfl)) dX0_readLine_82 ⟨Nat.le_of_ble_eq_true rfl, Nat.le_of_ble_eq_true rfl⟩) hS (fun q _ h => (freeX hS) q h) (freeX hS) (fun u t H1 locs ht hvm hw hB hz1 hk1 hS => ?_)
            unfold BX at hB
            rw [ht] at hB
            obtain ⟨v1304, F1305, rc9⟩ := u
            obtain ⟨hI, hal9, hrc, hf1306, hw⟩ := hw
            dsimp only at hI hal9 hrc hB hf1306 hw
            rw [hrc] at hB
            have hal := hal9.trans hal
            have hP : va_P (dC, dI) classes (wX g c v1304 F1305 rc) H1 := hB
            generalize H1 = H at hP hS ⊢
            obtain ⟨z1307, e1308⟩ : ∃ y : Int32, y = x3_lp1275 + 1 := ⟨_, rfl⟩
            try (have t1309 := tadd e1308 rfl (b := 1) (by decide) (by omega))
            refine lv_iinc (v := z1307) (lv' := [(3, .int z1307), (2, .int r1264), (1, .int r1263), (0, .ref (g 9))]) hx hb dX0_readLine_85 hl (k := 0) rfl (by rw [e1308]; rfl) (by decide) rfl (fun ls hl => ?_)
            refine lv_goto (tgt := 54) hx hb dX0_readLine_88 (by decide) ?_
            exact ih_lp1275 z1307 v1304 F1305 _ _ _ (by omega) (by omega) (by omega) (frC (by decide) hf1306 (frC (by decide) hf1295 hf_lp1275)) hI hal hP hS (lv_sub hl [0, 1, 2, 3] rfl)
    obtain ⟨n9, hn9⟩ : ∃ n : Nat, 2147483648 - 1 ≤ (n : Int) := ⟨((2147483648 - 1 : Int)).toNat, by omega⟩
    exact lp1275 n9 1 (va_up v 187 z1267) F1274 H _ ls (by have : (1 : Int32).toInt = 1 := (by decide); omega) (by have : (1 : Int32).toInt = 1 := (by decide); omega) (by have : (1 : Int32).toInt = 1 := (by decide); omega) (fun _ _ => rfl) hI hal hP hS hl
  · skip
    have t1310 := cv_eq (a := r1264.toInt) rfl (b := 0) (by decide) c1265
    refine lv_aload_n hx hb dX0_readLine_21 rfl (lv_at hl 2 rfl) ?_
    refine lv_aload_n hx hb dX0_readLine_22 rfl (lv_at hl 2 rfl) ?_
    refine va_get (D := (dC, dI)) (ci := 0) (v := .int (v 187)) (C := RX0) (T := TX0) (N := 9) hx hb hwd inA_X0 hown hK hP 9 rfl rfl 7 (by decide) (hwd _ wk_1095) (fun _ h9 => h9) rfl dX0_readLine_23 ?_
    refine va_put (D := (dC, dI)) (ci := 0) (v := .int (v 187)) (ty := .int) (C := RX0) (T := TX0) (N := 9) (fs := fsX_9 g v rc) hx hb hwd inA_X0 tyX0 tyX0_ok nmX0 hown hK hP (DX hg) hS 9 rfl rfl 8 (by decide) (hwd _ wk_1096) (fun _ h9 => h9) rfl (by decide +kernel) rfl rfl (Nat.le_of_ble_eq_true rfl) dX0_readLine_26 (fun H locs hP _ hS => ?_)
    have hP := va_P_eq (pX_188 g c _ _ _ _) hP
    have hI := IX.put0 hI 188 (v 187) rfl
    have hal := (alX_v _ _ 188 (v 187) (by decide) (by decide) (by decide) (by decide)).trans hal
    have hP9 : va_P (dC, dI) classes (wX g c (va_up v 188 (v 187)) F rc) H := hP
    exact W.vret hx hb hr (fun t ht hW => ⟨⟨((va_up v 188 (v 187)), F, rc), rfl, ⟨hI, hal, rfl, (frU (by decide) (fun _ _ => rfl)), trivial⟩, (by show va_P _ _ _ t.heap; rw [ht]; exact hP9)⟩, hS.F ht⟩) hS.2.2 dX0_readLine_29
set_option maxHeartbeats 8000000 in
set_option maxRecDepth 100000 in
theorem c_X0_read (l : Launch) (dC : Nat → ClassId) (dI : Nat → Nat → Nat) (g : Nat → Nat) (c : Nat → ClassId) (adK adV : Nat → Nat) (v : Nat → Int32) (F : Nat → Nat → Int32) (rc sz : Nat) (hg : injX g) (hI : IX v F) : Met l yX0_read (Cond.code yX0_read cX0_read 1 (some .int) :: wA) ({ frames := 6, cells := 0, slots := 0, locals := 240 }) (va_Pc [.ref (g 9)] (PX dC dI g c adK adV v F rc sz)) (va_Qi (fun (r : Int32) (u : StX) => IX u.1 u.2.1 ∧ alX u.1 u.2.1 = alX v F ∧ u.2.2 = rc ∧ (∀ k, k ∉ ([186, 187, 188] : List Nat) → u.1 k = v k) ∧ True) (BX dC dI g c) (AX g sz)) 0 0 (AX g sz) := by
  refine Met.ofW (cc := cX0_read) (maxL := 1) (ret := (some .int)) (by decide) rfl ?_
  intro p e s m args below meth c0 s₁ B hml hv
  obtain ⟨rfl, hsz, hP, hK, hE⟩ := hv
  have hx := B.exec
  have hb := B.bytes
  have hr := B.returns
  have hts := atoms_spec (ws := Cond.code yX0_read cX0_read 1 (some .int) :: wA) B.pre
  have hwd : ∀ w ∈ wA, w.before _ s = true := fun w h => hts w (List.mem_cons_of_mem _ h)
  have hown : s.vm.findClass RX0 = some m.cls := findClass_of_methodNamed B.named
  have hlocks := B.notSynchronized
  subst hsz
  have hl := lv_entry ([.ref (g 9)]) (n := 1) (Nat.le_of_ble_eq_true rfl)
  rw [lg_entry_eq]
  generalize (lg_sl ([.ref (g 9)]) ++ List.replicate (1 - (lg_sl ([.ref (g 9)])).length) Slot.unset).toArray = ls at hl ⊢
  have hl : lv_has ls 1 [(0, .ref (g 9))] := hl
  obtain ⟨H, eH⟩ : ∃ z, z = s.heap := ⟨_, rfl⟩
  have hP : va_P (dC, dI) classes (wX g c v F rc) H := by rw [eH]; exact hP
  have hS : va_S (AX g s.heap.size) s.heap H [] := by rw [eH]; exact va_S.rf
  refine my_heap eH ?_
  have hal : alX v F = alX v F := rfl
  refine lv_aload_n hx hb dX0_read_0 rfl (lv_at hl 0 rfl) ?_
  refine lv_iconst (v := 0) hx hb dX0_read_1 (by decide) ?_
  refine va_put (D := (dC, dI)) (ci := 0) (v := .int 0) (ty := .int) (C := RX0) (T := TX0) (N := 9) (fs := fsX_9 g v rc) hx hb hwd inA_X0 tyX0 tyX0_ok nmX0 hown hK hP (DX hg) hS 9 rfl rfl 6 (by decide) (hwd _ wk_1094) (fun _ h9 => h9) rfl (by decide +kernel) rfl rfl (Nat.le_of_ble_eq_true rfl) dX0_read_2 (fun H locs hP _ hS => ?_)
  have hP := va_P_eq (pX_186 g c _ _ _ _) hP
  have hI := IX.put hI 186 0 rfl (by have : (0 : Int32).toInt = 0 := (by decide); omega)
  have hal := (alX_v _ _ 186 0 (by decide) (by decide) (by decide) (by decide)).trans hal
  refine lv_aload_n hx hb dX0_read_5 rfl (lv_at hl 0 rfl) ?_
  refine lv_iconst (v := 0) hx hb dX0_read_6 (by decide) ?_
  refine va_put (D := (dC, dI)) (ci := 0) (v := .int 0) (ty := .int) (C := RX0) (T := TX0) (N := 9) (fs := fsX_9 g (va_up v 186 0) rc) hx hb hwd inA_X0 tyX0 tyX0_ok nmX0 hown hK hP (DX hg) hS 9 rfl rfl 7 (by decide) (hwd _ wk_1095) (fun _ h9 => h9) rfl (by decide +kernel) rfl rfl (Nat.le_of_ble_eq_true rfl) dX0_read_7 (fun H locs hP _ hS => ?_)
  have hP := va_P_eq (pX_187 g c _ _ _ _) hP
  have hI := IX.put0 hI 187 0 rfl
  have hal := (alX_v _ _ 187 0 (by decide) (by decide) (by decide) (by decide)).trans hal
  refine lv_aload_n hx hb dX0_read_10 rfl (lv_at hl 0 rfl) ?_
  refine lv_iconst (v := (-1)) hx hb dX0_read_11 (by decide) ?_
  refine va_put (D := (dC, dI)) (ci := 0) (v := .int (-1)) (ty := .int) (C := RX0) (T := TX0) (N := 9) (fs := fsX_9 g (va_up (va_up v 186 0) 187 0) rc) hx hb hwd inA_X0 tyX0 tyX0_ok nmX0 hown hK hP (DX hg) hS 9 rfl rfl 8 (by decide) (hwd _ wk_1096) (fun _ h9 => h9) rfl (by decide +kernel) rfl rfl (Nat.le_of_ble_eq_true rfl) dX0_read_12 (fun H locs hP _ hS => ?_)
  have hP := va_P_eq (pX_188 g c _ _ _ _) hP
  have hI := IX.put0 hI 188 (-1) rfl
  have hal := (alX_v _ _ 188 (-1) (by decide) (by decide) (by decide) (by decide)).trans hal
  have lp1311 : ∀ (n : Nat) (v_lp1311 : Nat → Int32) (F_lp1311 : Nat → Nat → Int32) (H : Heap) (locs : List Loc) (ls : Array Slot), ((v_lp1311 186).toInt ≤ 29) → (30 - (v_lp1311 186).toInt ≤ (n : Int)) → (∀ k, k ∉ ([186, 187, 188] : List Nat) → v_lp1311 k = (va_up (va_up (va_up v 186 0) 187 0) 188 (-1)) k) → IX v_lp1311 F_lp1311 → alX v_lp1311 F_lp1311 = alX v F → va_P (dC, dI) classes (wX g c v_lp1311 F_lp1311 rc) H → va_S (AX g s.heap.size) s.heap H locs → lv_has ls 1 [(0, .ref (g 9))] → W p l e (headSpec (Cond.code yX0_read cX0_read 1 (some .int) :: wA) ({ frames := 6, cells := 0, slots := 0, locals := 240 })).room s m ([.ref (g 9)] : List Value).toArray below meth c0 H locs 0 0 (MQ below (va_Qi (fun (r : Int32) (u : StX) => IX u.1 u.2.1 ∧ alX u.1 u.2.1 = alX v F ∧ u.2.2 = rc ∧ (∀ k, k ∉ ([186, 187, 188] : List Nat) → u.1 k = v k) ∧ True) (BX dC dI g c) (AX g s.heap.size)) ([.ref (g 9)] : List Value).toArray s 0 0 (AX g s.heap.size)) (F0 m 15 ls []) := by
    intro n
    induction n with
    | zero =>
      intro v_lp1311 F_lp1311 H locs ls t1312 hm hf_lp1311 hI hal hP hS hl
      exfalso
      have hI1 := hI.1
      omega
    | succ n ih_lp1311 =>
      intro v_lp1311 F_lp1311 H locs ls t1312 hm hf_lp1311 hI hal hP hS hl
      refine lv_aload_n hx hb dX0_read_15 rfl (lv_at hl 0 rfl) ?_
      refine va_callv (va_runV (As := []) (rest := []) ⟨hx, hb, hml, hown, hwd⟩ (c_X0_readLine l dC dI g c adK adV v_lp1311 F_lp1311 rc H.size  hg hI (by have h9 : v_lp1311 186 = v_lp1311 186 := rfl; rw [h9]; omega)) (cwV 0 hwd (gV wk_1101 wk_1098 wk_1099 wk_1100 wk_46) rfl rfl rfl (by decide +kernel) ⟨Nat.le_of_ble_eq_true rfl, Nat.le_of_ble_eq_true rfl⟩) ⟨PX.blind, va_recv hK hP (ci := 0) (q0 := 9) rfl rfl, fun U hU hW => ⟨rfl, PX.at hK hE hP hS hU hW⟩⟩ rfl rfl hl.1 rfl (lv_room (Nat.le_of_ble_eq_true rfl)) dX0_read_16 ⟨Nat.le_of_ble_eq_true rfl, Nat.le_of_ble_eq_true rfl⟩) hS (fun q _ h => (freeX hS) q h) (freeX hS) (fun u t H1 locs ht hvm hw hB hz1 hk1 hS => ?_)
      unfold BX at hB
      rw [ht] at hB
      obtain ⟨v1314, F1315, rc9⟩ := u
      obtain ⟨hI, hal9, hrc, hf1316, hw⟩ := hw
      dsimp only at hI hal9 hrc hB hf1316 hw
      rw [hrc] at hB
      have hal := hal9.trans hal
      have hP : va_P (dC, dI) classes (wX g c v1314 F1315 rc) H1 := hB
      generalize H1 = H at hP hS ⊢
      refine lv_aload_n hx hb dX0_read_19 rfl (lv_at hl 0 rfl) ?_
      refine lv_dup hx hb dX0_read_20 rfl ?_
      refine va_get (D := (dC, dI)) (ci := 0) (v := .int (v1314 186)) (C := RX0) (T := TX0) (N := 9) hx hb hwd inA_X0 hown hK hP 9 rfl rfl 6 (by decide) (hwd _ wk_1094) (fun _ h9 => h9) rfl dX0_read_21 ?_
      refine my_top (v := v_lp1311 186) (hf1316 186 (by decide)) ?_
      have t1317 : 0 ≤ (v_lp1311 186).toInt ∧ (v_lp1311 186).toInt ≤ 30 := by have h9 := hI.1 186 _ _ rfl; rw [show v1314 186 = v_lp1311 186 from hf1316 186 (by decide)] at h9; exact h9
      refine lv_iconst (v := 1) hx hb dX0_read_24 (by decide) ?_
      refine lv_iadd hx hb dX0_read_25 ?_
      refine lv_topi (fun z1318 e1319 => ?_)
      try (have t1320 := tadd e1319 (a := (v_lp1311 186).toInt) rfl (b := 1) (by decide) (by omega))
      refine va_put (D := (dC, dI)) (ci := 0) (v := .int z1318) (ty := .int) (C := RX0) (T := TX0) (N := 9) (fs := fsX_9 g v1314 rc) hx hb hwd inA_X0 tyX0 tyX0_ok nmX0 hown hK hP (DX hg) hS 9 rfl rfl 6 (by decide) (hwd _ wk_1094) (fun _ h9 => h9) rfl (by decide +kernel) rfl rfl (Nat.le_of_ble_eq_true rfl) dX0_read_26 (fun H locs hP _ hS => ?_)
      have hP := va_P_eq (pX_186 g c _ _ _ _) hP
      have hI := IX.put hI 186 z1318 rfl (by omega)
      have hal := (alX_v _ _ 186 z1318 (by decide) (by decide) (by decide) (by decide)).trans hal
      refine lv_aload_n hx hb dX0_read_29 rfl (lv_at hl 0 rfl) ?_
      refine va_get (D := (dC, dI)) (ci := 0) (v := .int z1318) (C := RX0) (T := TX0) (N := 9) hx hb hwd inA_X0 hown hK hP 9 rfl rfl 6 (by decide) (hwd _ wk_1094) (fun _ h9 => h9) rfl dX0_read_30 ?_
      have t1321 : 0 ≤ z1318.toInt ∧ z1318.toInt ≤ 30 := hI.1 186 _ _ rfl
      refine lv_bipush (v := 30) hx hb dX0_read_33 (by decide) ?_
      refine lv_icmp_ge (tgt := 60) hx hb dX0_read_35 (by decide) (fun c1322 => ?_) (fun c1322 => ?_)
      · skip
        have t1323 := cv_le (a := 30) (by decide) (b := z1318.toInt) rfl c1322
        refine lv_aload_n hx hb dX0_read_60 rfl (lv_at hl 0 rfl) ?_
        refine va_get (D := (dC, dI)) (ci := 0) (v := .int (v1314 188)) (C := RX0) (T := TX0) (N := 9) hx hb hwd inA_X0 hown hK hP 9 rfl rfl 8 (by decide) (hwd _ wk_1096) (fun _ h9 => h9) rfl dX0_read_61 ?_
        have hP9 : va_P (dC, dI) classes (wX g c (va_up v1314 186 z1318) F1315 rc) H := hP
        exact W.iret (v := v1314 188) hx hb hr (fun t ht hW => ⟨⟨(v1314 188), ((va_up v1314 186 z1318), F1315, rc), rfl, ⟨hI, hal, rfl, (frU (by decide) (frC (by decide) hf1316 (frC (by decide) hf_lp1311 (frU (by decide) (frU (by decide) (frU (by decide) (fun _ _ => rfl))))))), trivial⟩, (by show va_P _ _ _ t.heap; rw [ht]; exact hP9)⟩, hS.F ht⟩) hS.2.2 dX0_read_64
      · skip
        have t1324 := cv_nle (a := 30) (by decide) (b := z1318.toInt) rfl c1322
        refine lv_aload_n hx hb dX0_read_38 rfl (lv_at hl 0 rfl) ?_
        refine va_get (D := (dC, dI)) (ci := 0) (v := .int (v1314 188)) (C := RX0) (T := TX0) (N := 9) hx hb hwd inA_X0 hown hK hP 9 rfl rfl 8 (by decide) (hwd _ wk_1096) (fun _ h9 => h9) rfl dX0_read_39 ?_
        refine lv_iconst (v := (-1)) hx hb dX0_read_42 (by decide) ?_
        refine lv_icmp_ne (tgt := 60) hx hb dX0_read_43 (by decide) (fun c1325 => ?_) (fun c1325 => ?_)
        · skip
          have t1326 := cv_ne (a := (v1314 188).toInt) rfl (b := (-1)) (by decide) c1325
          refine lv_aload_n hx hb dX0_read_60 rfl (lv_at hl 0 rfl) ?_
          refine va_get (D := (dC, dI)) (ci := 0) (v := .int (v1314 188)) (C := RX0) (T := TX0) (N := 9) hx hb hwd inA_X0 hown hK hP 9 rfl rfl 8 (by decide) (hwd _ wk_1096) (fun _ h9 => h9) rfl dX0_read_61 ?_
          have hP9 : va_P (dC, dI) classes (wX g c (va_up v1314 186 z1318) F1315 rc) H := hP
          exact W.iret (v := v1314 188) hx hb hr (fun t ht hW => ⟨⟨(v1314 188), ((va_up v1314 186 z1318), F1315, rc), rfl, ⟨hI, hal, rfl, (frU (by decide) (frC (by decide) hf1316 (frC (by decide) hf_lp1311 (frU (by decide) (frU (by decide) (frU (by decide) (fun _ _ => rfl))))))), trivial⟩, (by show va_P _ _ _ t.heap; rw [ht]; exact hP9)⟩, hS.F ht⟩) hS.2.2 dX0_read_64
        · skip
          have t1327 := cv_eq (a := (v1314 188).toInt) rfl (b := (-1)) (by decide) c1325
          refine lv_aload_n hx hb dX0_read_46 rfl (lv_at hl 0 rfl) ?_
          refine va_get (D := (dC, dI)) (ci := 0) (v := .int (v1314 187)) (C := RX0) (T := TX0) (N := 9) hx hb hwd inA_X0 hown hK hP 9 rfl rfl 7 (by decide) (hwd _ wk_1095) (fun _ h9 => h9) rfl dX0_read_47 ?_
          refine lv_aload_n hx hb dX0_read_50 rfl (lv_at hl 0 rfl) ?_
          refine va_get (D := (dC, dI)) (ci := 0) (v := .ref (g 5)) (C := RX0) (T := TX0) (N := 9) hx hb hwd inA_X0 hown hK hP 9 rfl rfl 0 (by decide) (hwd _ wk_138) (fun _ h9 => h9) rfl dX0_read_51 ?_
          refine va_get (D := (dC, dI)) (ci := 10) (v := .int (v1314 100)) (C := RX10) (T := TX10) (N := 2) hx hb hwd inA_X10 hown hK hP 5 rfl rfl 0 (by decide) (hwd _ wk_1097) (fun _ h9 => h9) rfl dX0_read_54 ?_
          refine my_top (v := v 100) ((hf1316 100 (by decide)).trans (hf_lp1311 100 (by decide))) ?_
          have t1328 : 0 ≤ (v 100).toInt ∧ (v 100).toInt ≤ 120 := by have h9 := hI.1 100 _ _ rfl; rw [show (va_up v1314 186 z1318) 100 = v 100 from (hf1316 100 (by decide)).trans (hf_lp1311 100 (by decide))] at h9; exact h9
          refine lv_icmp_lt (tgt := 15) hx hb dX0_read_57 (by decide) (fun c1329 => ?_) (fun c1329 => ?_)
          · skip
            have t1330 := cv_lt (a := (v1314 187).toInt) rfl (b := (v 100).toInt) rfl c1329
            exact ih_lp1311  (va_up v1314 186 z1318) F1315 _ _ _ (by have h9 : (va_up v1314 186 z1318) 186 = z1318 := rfl; rw [h9]; omega) (by have h9 : (va_up v1314 186 z1318) 186 = z1318 := rfl; rw [h9]; omega) (frU (by decide) (frC (by decide) hf1316 hf_lp1311)) hI hal hP hS (lv_sub hl [0] rfl)
          · skip
            have t1331 := cv_nlt (a := (v1314 187).toInt) rfl (b := (v 100).toInt) rfl c1329
            refine lv_aload_n hx hb dX0_read_60 rfl (lv_at hl 0 rfl) ?_
            refine va_get (D := (dC, dI)) (ci := 0) (v := .int (v1314 188)) (C := RX0) (T := TX0) (N := 9) hx hb hwd inA_X0 hown hK hP 9 rfl rfl 8 (by decide) (hwd _ wk_1096) (fun _ h9 => h9) rfl dX0_read_61 ?_
            have hP9 : va_P (dC, dI) classes (wX g c (va_up v1314 186 z1318) F1315 rc) H := hP
            exact W.iret (v := v1314 188) hx hb hr (fun t ht hW => ⟨⟨(v1314 188), ((va_up v1314 186 z1318), F1315, rc), rfl, ⟨hI, hal, rfl, (frU (by decide) (frC (by decide) hf1316 (frC (by decide) hf_lp1311 (frU (by decide) (frU (by decide) (frU (by decide) (fun _ _ => rfl))))))), trivial⟩, (by show va_P _ _ _ t.heap; rw [ht]; exact hP9)⟩, hS.F ht⟩) hS.2.2 dX0_read_64
  obtain ⟨n9, hn9⟩ : ∃ n : Nat, 30 - 0 ≤ (n : Int) := ⟨((30 - 0 : Int)).toNat, by omega⟩
  exact lp1311 n9  (va_up (va_up (va_up v 186 0) 187 0) 188 (-1)) F H _ ls (by have h9 : (va_up (va_up (va_up v 186 0) 187 0) 188 (-1)) 186 = 0 := rfl; rw [h9]; have : (0 : Int32).toInt = 0 := (by decide); omega) (by have h9 : (va_up (va_up (va_up v 186 0) 187 0) 188 (-1)) 186 = 0 := rfl; rw [h9]; have : (0 : Int32).toInt = 0 := (by decide); omega) (fun _ _ => rfl) hI hal hP hS hl
