set_option maxHeartbeats 4000000 in
set_option maxRecDepth 100000 in
theorem c_X7_countAt (l : Launch) (dC : Nat → ClassId) (dI : Nat → Nat → Nat) (h0 : Nat) (g : Nat → Nat) (sz : Nat) (p0 : Int32) : Met l yX7_countAt (Cond.code yX7_countAt cX7_countAt 4 (some .int) :: wA) ({ frames := 1, cells := 0, slots := 0, locals := 40 }) (va_Pc [.ref h0, .int p0] (fun U => U.heap.size = sz ∧ va_P (dC, dI) classes [(h0, .inr (7, o7 g))] U.heap ∧ va_K (dC, dI) classes [] U ∧ va_D (fun _ => True) [(h0, .inr (7, o7 g))])) (va_Qi (fun (r : Int32) (_ : Unit) => r = 0) (fun (_ : Unit) (t : State) => va_P (dC, dI) classes [(h0, .inr (7, o7 g))] t.heap ∧ va_K (dC, dI) classes [] t ∧ va_D (va_A [(h0, .inr (7, o7 g))] sz) [(h0, .inr (7, o7 g))]) (va_A [(h0, .inr (7, o7 g))] sz)) 0 0 (va_A [(h0, .inr (7, o7 g))] sz) := by
  refine Met.ofW (cc := cX7_countAt) (maxL := 4) (ret := (some .int)) (by decide) rfl ?_
  intro p e s m args below meth c s₁ B hml hv
  obtain ⟨rfl, hsz, hP, hK, hD0⟩ := hv
  have hx := B.exec
  have hb := B.bytes
  have hr := B.returns
  have hts := atoms_spec (ws := Cond.code yX7_countAt cX7_countAt 4 (some .int) :: wA) B.pre
  have hwd : ∀ w ∈ wA, w.before _ s = true := fun w h => hts w (List.mem_cons_of_mem _ h)
  have hown : s.vm.findClass RX7 = some m.cls := findClass_of_methodNamed B.named
  have hlocks := B.notSynchronized
  subst hsz
  have hD := hD0.self (sz := s.heap.size)
  generalize hAe : va_A [(h0, .inr (7, o7 g))] s.heap.size = A at hD ⊢
  have hA : ∀ q : Nat, s.heap.size ≤ q → A q := fun q h => by rw [← hAe]; exact Or.inr h
  have hS : va_S A s.heap s.heap [] := va_S.rf
  have hP : va_P (dC, dI) classes [(h0, .inr (7, o7 g))] s.heap := hP
  have hl := lv_entry ([.ref h0, .int p0]) (n := 4) (Nat.le_of_ble_eq_true rfl)
  rw [lg_entry_eq]
  generalize (lg_sl ([.ref h0, .int p0]) ++ List.replicate (4 - (lg_sl ([.ref h0, .int p0])).length) Slot.unset).toArray = ls at hl ⊢
  have hl : lv_has ls 4 [(0, .ref h0), (1, .int p0)] := hl
  obtain ⟨H, eH⟩ : ∃ z, z = s.heap := ⟨_, rfl⟩
  have hP : va_P (dC, dI) classes [(h0, .inr (7, o7 g))] H := by rw [eH]; exact hP
  have hS : va_S A s.heap H [] := by rw [eH]; exact va_S.rf
  refine my_heap eH ?_
  refine lv_iconst (v := 0) hx hb dX7_countAt_0 (by decide) ?_
  refine lv_istore_n (lv' := [(2, .int 0), (0, .ref h0), (1, .int p0)]) hx hb dX7_countAt_1 rfl hl (by decide) rfl (fun ls hl => ?_)
  refine lv_iconst (v := 0) hx hb dX7_countAt_2 (by decide) ?_
  refine lv_istore_n (lv' := [(3, .int 0), (2, .int 0), (0, .ref h0), (1, .int p0)]) hx hb dX7_countAt_3 rfl hl (by decide) rfl (fun ls hl => ?_)
  refine lv_iload_n hx hb dX7_countAt_4 rfl (lv_at hl 0 rfl) ?_
  refine lv_aload_n hx hb dX7_countAt_5 rfl (lv_at hl 2 rfl) ?_
  refine va_get (D := (dC, dI)) (ci := 7) (v := .int 0) (C := RX7) (T := TX7) (N := 7) hx hb hwd inA_X7 hown hK hP 0 rfl rfl 1 (by decide) (hwd _ wk_11) (fun _ h9 => h9) rfl dX7_countAt_6 ?_
  refine lv_icmp_ge (tgt := 36) hx hb dX7_countAt_9 (by decide) (fun c_260 => ?_) (fun c_260 => ?_)
  · skip
    refine lv_iload_n hx hb dX7_countAt_36 rfl (lv_at hl 1 rfl) ?_
    have hP9 : va_P (dC, dI) classes [(h0, .inr (7, o7 g))] H := hP.sub [0] rfl
    have hD9 : va_D A [(h0, .inr (7, o7 g))] := hD.sub [0] (by decide) rfl
    have hK9 : va_K (dC, dI) classes [] s := hK.sub [] rfl
    exact W.iret (v := 0) hx hb hr (fun t ht hW => ⟨⟨0, (), rfl, rfl, by rw [ht]; exact hP9, va_K.moved hW.alike hK9, hD9⟩, hS.F ht⟩) hS.2.2 dX7_countAt_37
  · exact absurd c_260 (by decide)
set_option maxHeartbeats 4000000 in
set_option maxRecDepth 100000 in
theorem c_X8_backs (l : Launch) (dC : Nat → ClassId) (dI : Nat → Nat → Nat) (h0 : Nat) (g : Nat → Nat) (sz : Nat) : Met l yX8_backs (Cond.code yX8_backs cX8_backs 3 (some .int) :: wA) ({ frames := 1, cells := 0, slots := 0, locals := 40 }) (va_Pc [.ref h0] (fun U => U.heap.size = sz ∧ va_P (dC, dI) classes [(h0, .inr (8, o8 g))] U.heap ∧ va_K (dC, dI) classes [] U ∧ va_D (fun _ => True) [(h0, .inr (8, o8 g))])) (va_Qi (fun (r : Int32) (_ : Unit) => r = 0) (fun (_ : Unit) (t : State) => va_P (dC, dI) classes [(h0, .inr (8, o8 g))] t.heap ∧ va_K (dC, dI) classes [] t ∧ va_D (va_A [(h0, .inr (8, o8 g))] sz) [(h0, .inr (8, o8 g))]) (va_A [(h0, .inr (8, o8 g))] sz)) 0 0 (va_A [(h0, .inr (8, o8 g))] sz) := by
  refine Met.ofW (cc := cX8_backs) (maxL := 3) (ret := (some .int)) (by decide) rfl ?_
  intro p e s m args below meth c s₁ B hml hv
  obtain ⟨rfl, hsz, hP, hK, hD0⟩ := hv
  have hx := B.exec
  have hb := B.bytes
  have hr := B.returns
  have hts := atoms_spec (ws := Cond.code yX8_backs cX8_backs 3 (some .int) :: wA) B.pre
  have hwd : ∀ w ∈ wA, w.before _ s = true := fun w h => hts w (List.mem_cons_of_mem _ h)
  have hown : s.vm.findClass RX8 = some m.cls := findClass_of_methodNamed B.named
  have hlocks := B.notSynchronized
  subst hsz
  have hD := hD0.self (sz := s.heap.size)
  generalize hAe : va_A [(h0, .inr (8, o8 g))] s.heap.size = A at hD ⊢
  have hA : ∀ q : Nat, s.heap.size ≤ q → A q := fun q h => by rw [← hAe]; exact Or.inr h
  have hS : va_S A s.heap s.heap [] := va_S.rf
  have hP : va_P (dC, dI) classes [(h0, .inr (8, o8 g))] s.heap := hP
  have hl := lv_entry ([.ref h0]) (n := 3) (Nat.le_of_ble_eq_true rfl)
  rw [lg_entry_eq]
  generalize (lg_sl ([.ref h0]) ++ List.replicate (3 - (lg_sl ([.ref h0])).length) Slot.unset).toArray = ls at hl ⊢
  have hl : lv_has ls 3 [(0, .ref h0)] := hl
  obtain ⟨H, eH⟩ : ∃ z, z = s.heap := ⟨_, rfl⟩
  have hP : va_P (dC, dI) classes [(h0, .inr (8, o8 g))] H := by rw [eH]; exact hP
  have hS : va_S A s.heap H [] := by rw [eH]; exact va_S.rf
  refine my_heap eH ?_
  refine lv_iconst (v := 0) hx hb dX8_backs_0 (by decide) ?_
  refine lv_istore_n (lv' := [(1, .int 0), (0, .ref h0)]) hx hb dX8_backs_1 rfl hl (by decide) rfl (fun ls hl => ?_)
  refine lv_iconst (v := 0) hx hb dX8_backs_2 (by decide) ?_
  refine lv_istore_n (lv' := [(2, .int 0), (1, .int 0), (0, .ref h0)]) hx hb dX8_backs_3 rfl hl (by decide) rfl (fun ls hl => ?_)
  refine lv_iload_n hx hb dX8_backs_4 rfl (lv_at hl 0 rfl) ?_
  refine lv_aload_n hx hb dX8_backs_5 rfl (lv_at hl 2 rfl) ?_
  refine va_get (D := (dC, dI)) (ci := 8) (v := .int 0) (C := RX8) (T := TX8) (N := 10) hx hb hwd inA_X8 hown hK hP 0 rfl rfl 0 (by decide) (hwd _ wk_12) (fun _ h9 => h9) rfl dX8_backs_6 ?_
  refine lv_icmp_ge (tgt := 34) hx hb dX8_backs_9 (by decide) (fun c_261 => ?_) (fun c_261 => ?_)
  · skip
    refine lv_iload_n hx hb dX8_backs_34 rfl (lv_at hl 1 rfl) ?_
    have hP9 : va_P (dC, dI) classes [(h0, .inr (8, o8 g))] H := hP.sub [0] rfl
    have hD9 : va_D A [(h0, .inr (8, o8 g))] := hD.sub [0] (by decide) rfl
    have hK9 : va_K (dC, dI) classes [] s := hK.sub [] rfl
    exact W.iret (v := 0) hx hb hr (fun t ht hW => ⟨⟨0, (), rfl, rfl, by rw [ht]; exact hP9, va_K.moved hW.alike hK9, hD9⟩, hS.F ht⟩) hS.2.2 dX8_backs_35
  · exact absurd c_261 (by decide)
set_option maxHeartbeats 4000000 in
set_option maxRecDepth 100000 in
theorem c_X12_partsAt (l : Launch) (dC : Nat → ClassId) (dI : Nat → Nat → Nat) (h0 : Nat) (g : Nat → Nat) (sz : Nat) (p0 : Int32) : Met l yX12_partsAt (Cond.code yX12_partsAt cX12_partsAt 4 (some .int) :: wA) ({ frames := 1, cells := 0, slots := 0, locals := 40 }) (va_Pc [.ref h0, .int p0] (fun U => U.heap.size = sz ∧ va_P (dC, dI) classes [(h0, .inr (12, oM g 0))] U.heap ∧ va_K (dC, dI) classes [] U ∧ va_D (fun _ => True) [(h0, .inr (12, oM g 0))])) (va_Qi (fun (r : Int32) (_ : Unit) => r = 0) (fun (_ : Unit) (t : State) => va_P (dC, dI) classes [(h0, .inr (12, oM g 0))] t.heap ∧ va_K (dC, dI) classes [] t ∧ va_D (va_A [(h0, .inr (12, oM g 0))] sz) [(h0, .inr (12, oM g 0))]) (va_A [(h0, .inr (12, oM g 0))] sz)) 0 0 (va_A [(h0, .inr (12, oM g 0))] sz) := by
  refine Met.ofW (cc := cX12_partsAt) (maxL := 4) (ret := (some .int)) (by decide) rfl ?_
  intro p e s m args below meth c s₁ B hml hv
  obtain ⟨rfl, hsz, hP, hK, hD0⟩ := hv
  have hx := B.exec
  have hb := B.bytes
  have hr := B.returns
  have hts := atoms_spec (ws := Cond.code yX12_partsAt cX12_partsAt 4 (some .int) :: wA) B.pre
  have hwd : ∀ w ∈ wA, w.before _ s = true := fun w h => hts w (List.mem_cons_of_mem _ h)
  have hown : s.vm.findClass RX12 = some m.cls := findClass_of_methodNamed B.named
  have hlocks := B.notSynchronized
  subst hsz
  have hD := hD0.self (sz := s.heap.size)
  generalize hAe : va_A [(h0, .inr (12, oM g 0))] s.heap.size = A at hD ⊢
  have hA : ∀ q : Nat, s.heap.size ≤ q → A q := fun q h => by rw [← hAe]; exact Or.inr h
  have hS : va_S A s.heap s.heap [] := va_S.rf
  have hP : va_P (dC, dI) classes [(h0, .inr (12, oM g 0))] s.heap := hP
  have hl := lv_entry ([.ref h0, .int p0]) (n := 4) (Nat.le_of_ble_eq_true rfl)
  rw [lg_entry_eq]
  generalize (lg_sl ([.ref h0, .int p0]) ++ List.replicate (4 - (lg_sl ([.ref h0, .int p0])).length) Slot.unset).toArray = ls at hl ⊢
  have hl : lv_has ls 4 [(0, .ref h0), (1, .int p0)] := hl
  obtain ⟨H, eH⟩ : ∃ z, z = s.heap := ⟨_, rfl⟩
  have hP : va_P (dC, dI) classes [(h0, .inr (12, oM g 0))] H := by rw [eH]; exact hP
  have hS : va_S A s.heap H [] := by rw [eH]; exact va_S.rf
  refine my_heap eH ?_
  refine lv_iconst (v := 0) hx hb dX12_partsAt_0 (by decide) ?_
  refine lv_istore_n (lv' := [(2, .int 0), (0, .ref h0), (1, .int p0)]) hx hb dX12_partsAt_1 rfl hl (by decide) rfl (fun ls hl => ?_)
  refine lv_iconst (v := 0) hx hb dX12_partsAt_2 (by decide) ?_
  refine lv_istore_n (lv' := [(3, .int 0), (2, .int 0), (0, .ref h0), (1, .int p0)]) hx hb dX12_partsAt_3 rfl hl (by decide) rfl (fun ls hl => ?_)
  refine lv_iload_n hx hb dX12_partsAt_4 rfl (lv_at hl 0 rfl) ?_
  refine lv_aload_n hx hb dX12_partsAt_5 rfl (lv_at hl 2 rfl) ?_
  refine va_get (D := (dC, dI)) (ci := 12) (v := .int 0) (C := RX12) (T := TX12) (N := 63) hx hb hwd inA_X12 hown hK hP 0 rfl rfl 14 (by decide) (hwd _ wk_15) (fun _ h9 => h9) rfl dX12_partsAt_6 ?_
  refine lv_icmp_ge (tgt := 36) hx hb dX12_partsAt_9 (by decide) (fun c_262 => ?_) (fun c_262 => ?_)
  · skip
    refine lv_iload_n hx hb dX12_partsAt_36 rfl (lv_at hl 1 rfl) ?_
    have hP9 : va_P (dC, dI) classes [(h0, .inr (12, oM g 0))] H := hP.sub [0] rfl
    have hD9 : va_D A [(h0, .inr (12, oM g 0))] := hD.sub [0] (by decide) rfl
    have hK9 : va_K (dC, dI) classes [] s := hK.sub [] rfl
    exact W.iret (v := 0) hx hb hr (fun t ht hW => ⟨⟨0, (), rfl, rfl, by rw [ht]; exact hP9, va_K.moved hW.alike hK9, hD9⟩, hS.F ht⟩) hS.2.2 dX12_partsAt_37
  · exact absurd c_262 (by decide)
set_option maxHeartbeats 4000000 in
set_option maxRecDepth 100000 in
theorem c_X11_count (l : Launch) (dC : Nat → ClassId) (dI : Nat → Nat → Nat) (h0 : Nat) (g : Nat → Nat) (gk : Nat → Nat) (ga : Nat → Nat) (gp : Nat → Nat) (gs : Nat → Nat) (gt : Nat → Nat) (gl : Nat → Nat) (go : Nat → Nat) (sz : Nat) (p0 : Int32) : Met l yX11_count (Cond.code yX11_count cX11_count 2 (some .int) :: wA) ({ frames := 2, cells := 0, slots := 0, locals := 80 }) (va_Pc [.ref h0, .int p0] (fun U => U.heap.size = sz ∧ va_P (dC, dI) classes [(h0, .inr (11, o11 g)), (g 0, .inr (2, o2 gk)), (g 1, .inr (8, o8 ga)), (g 2, .inr (7, o7 gp)), (g 3, .inr (9, o9 gs)), (g 4, .inr (10, o10 gt)), (g 5, .inr (4, o4 gl)), (g 7, .inr (6, o6 go))] U.heap ∧ va_K (dC, dI) classes [] U ∧ va_D (fun _ => True) [(h0, .inr (11, o11 g)), (g 0, .inr (2, o2 gk)), (g 1, .inr (8, o8 ga)), (g 2, .inr (7, o7 gp)), (g 3, .inr (9, o9 gs)), (g 4, .inr (10, o10 gt)), (g 5, .inr (4, o4 gl)), (g 7, .inr (6, o6 go))])) (va_Qi (fun (r : Int32) (_ : Unit) => r = f_count p0) (fun (_ : Unit) (_ : State) => True) (va_A [(h0, .inr (11, o11 g)), (g 0, .inr (2, o2 gk)), (g 1, .inr (8, o8 ga)), (g 2, .inr (7, o7 gp)), (g 3, .inr (9, o9 gs)), (g 4, .inr (10, o10 gt)), (g 5, .inr (4, o4 gl)), (g 7, .inr (6, o6 go))] sz)) 0 0 (va_A [(h0, .inr (11, o11 g)), (g 0, .inr (2, o2 gk)), (g 1, .inr (8, o8 ga)), (g 2, .inr (7, o7 gp)), (g 3, .inr (9, o9 gs)), (g 4, .inr (10, o10 gt)), (g 5, .inr (4, o4 gl)), (g 7, .inr (6, o6 go))] sz) := by
  refine Met.ofW (cc := cX11_count) (maxL := 2) (ret := (some .int)) (by decide) rfl ?_
  intro p e s m args below meth c s₁ B hml hv
  obtain ⟨rfl, hsz, hP, hK, hD0⟩ := hv
  have hx := B.exec
  have hb := B.bytes
  have hr := B.returns
  have hts := atoms_spec (ws := Cond.code yX11_count cX11_count 2 (some .int) :: wA) B.pre
  have hwd : ∀ w ∈ wA, w.before _ s = true := fun w h => hts w (List.mem_cons_of_mem _ h)
  have hown : s.vm.findClass RX11 = some m.cls := findClass_of_methodNamed B.named
  have hlocks := B.notSynchronized
  subst hsz
  have hD := hD0.self (sz := s.heap.size)
  generalize hAe : va_A [(h0, .inr (11, o11 g)), (g 0, .inr (2, o2 gk)), (g 1, .inr (8, o8 ga)), (g 2, .inr (7, o7 gp)), (g 3, .inr (9, o9 gs)), (g 4, .inr (10, o10 gt)), (g 5, .inr (4, o4 gl)), (g 7, .inr (6, o6 go))] s.heap.size = A at hD ⊢
  have hA : ∀ q : Nat, s.heap.size ≤ q → A q := fun q h => by rw [← hAe]; exact Or.inr h
  have hS : va_S A s.heap s.heap [] := va_S.rf
  have hP : va_P (dC, dI) classes [(h0, .inr (11, o11 g)), (g 0, .inr (2, o2 gk)), (g 1, .inr (8, o8 ga)), (g 2, .inr (7, o7 gp)), (g 3, .inr (9, o9 gs)), (g 4, .inr (10, o10 gt)), (g 5, .inr (4, o4 gl)), (g 7, .inr (6, o6 go))] s.heap := hP
  have hl := lv_entry ([.ref h0, .int p0]) (n := 2) (Nat.le_of_ble_eq_true rfl)
  rw [lg_entry_eq]
  generalize (lg_sl ([.ref h0, .int p0]) ++ List.replicate (2 - (lg_sl ([.ref h0, .int p0])).length) Slot.unset).toArray = ls at hl ⊢
  have hl : lv_has ls 2 [(0, .ref h0), (1, .int p0)] := hl
  obtain ⟨H, eH⟩ : ∃ z, z = s.heap := ⟨_, rfl⟩
  have hP : va_P (dC, dI) classes [(h0, .inr (11, o11 g)), (g 0, .inr (2, o2 gk)), (g 1, .inr (8, o8 ga)), (g 2, .inr (7, o7 gp)), (g 3, .inr (9, o9 gs)), (g 4, .inr (10, o10 gt)), (g 5, .inr (4, o4 gl)), (g 7, .inr (6, o6 go))] H := by rw [eH]; exact hP
  have hS : va_S A s.heap H [] := by rw [eH]; exact va_S.rf
  refine my_heap eH ?_
  refine lv_iload_n hx hb dX11_count_0 rfl (lv_at hl 1 rfl) ?_
  by_cases hlo_263 : (p0).toInt < 0
  · refine lv_tableOut (tgt := 172) hx hb dX11_count_1 (Or.inl hlo_263) (by decide) ?_
    refine lv_iconst (v := (-1)) hx hb dX11_count_172 (by decide) ?_
    exact W.iret (v := (-1)) hx hb hr (fun t ht hW => ⟨⟨(-1), (), rfl, by unfold f_count; rw [if_pos (wi_lo (by decide) hlo_263)], trivial⟩, hS.F ht⟩) hS.2.2 dX11_count_173
  by_cases hhi_264 : 12 < (p0).toInt
  · refine lv_tableOut (tgt := 172) hx hb dX11_count_1 (Or.inr hhi_264) (by decide) ?_
    refine lv_iconst (v := (-1)) hx hb dX11_count_172 (by decide) ?_
    exact W.iret (v := (-1)) hx hb hr (fun t ht hW => ⟨⟨(-1), (), rfl, by unfold f_count; rw [if_pos (wi_hi (by decide) hhi_264)], trivial⟩, hS.F ht⟩) hS.2.2 dX11_count_173
  rcases (show (p0).toInt = 0 ∨ (p0).toInt = 1 ∨ (p0).toInt = 2 ∨ (p0).toInt = 3 ∨ (p0).toInt = 4 ∨ (p0).toInt = 5 ∨ (p0).toInt = 6 ∨ (p0).toInt = 7 ∨ (p0).toInt = 8 ∨ (p0).toInt = 9 ∨ (p0).toInt = 10 ∨ (p0).toInt = 11 ∨ (p0).toInt = 12 by omega) with hk | hk | hk | hk | hk | hk | hk | hk | hk | hk | hk | hk | hk
  · have e9 : p0 = 0 := Int32.toInt_inj.mp (hk.trans (by decide))
    subst e9
    refine lv_tableIn (off := 67) (tgt := 68) hx hb dX11_count_1 (by decide) (by decide) (by decide) (by decide) ?_
    refine lv_aload_n hx hb dX11_count_68 rfl (lv_at hl 0 rfl) ?_
    refine va_get (D := (dC, dI)) (ci := 11) (v := .ref (g 0)) (C := RX11) (T := TX11) (N := 14) hx hb hwd inA_X11 hown hK hP 0 rfl rfl 0 (by decide) (hwd _ wk_29) (fun _ h9 => h9) rfl dX11_count_69 ?_
    refine va_get (D := (dC, dI)) (ci := 2) (v := .int 0) (C := RX2) (T := TX2) (N := 4) hx hb hwd inA_X2 hown hK hP 1 rfl rfl 0 (by decide) (hwd _ wk_200) (fun _ h9 => h9) rfl dX11_count_72 ?_
    exact W.iret (v := 0) hx hb hr (fun t ht hW => ⟨⟨0, (), rfl, by decide, trivial⟩, hS.F ht⟩) hS.2.2 dX11_count_75
  · have e9 : p0 = 1 := Int32.toInt_inj.mp (hk.trans (by decide))
    subst e9
    refine lv_tableIn (off := 75) (tgt := 76) hx hb dX11_count_1 (by decide) (by decide) (by decide) (by decide) ?_
    refine lv_aload_n hx hb dX11_count_76 rfl (lv_at hl 0 rfl) ?_
    refine va_get (D := (dC, dI)) (ci := 11) (v := .ref (g 1)) (C := RX11) (T := TX11) (N := 14) hx hb hwd inA_X11 hown hK hP 0 rfl rfl 1 (by decide) (hwd _ wk_22) (fun _ h9 => h9) rfl dX11_count_77 ?_
    refine va_get (D := (dC, dI)) (ci := 8) (v := .int 0) (C := RX8) (T := TX8) (N := 10) hx hb hwd inA_X8 hown hK hP 2 rfl rfl 0 (by decide) (hwd _ wk_201) (fun _ h9 => h9) rfl dX11_count_80 ?_
    exact W.iret (v := 0) hx hb hr (fun t ht hW => ⟨⟨0, (), rfl, by decide, trivial⟩, hS.F ht⟩) hS.2.2 dX11_count_83
  · have e9 : p0 = 2 := Int32.toInt_inj.mp (hk.trans (by decide))
    subst e9
    refine lv_tableIn (off := 83) (tgt := 84) hx hb dX11_count_1 (by decide) (by decide) (by decide) (by decide) ?_
    refine lv_aload_n hx hb dX11_count_84 rfl (lv_at hl 0 rfl) ?_
    refine va_get (D := (dC, dI)) (ci := 11) (v := .ref (g 2)) (C := RX11) (T := TX11) (N := 14) hx hb hwd inA_X11 hown hK hP 0 rfl rfl 2 (by decide) (hwd _ wk_16) (fun _ h9 => h9) rfl dX11_count_85 ?_
    refine va_get (D := (dC, dI)) (ci := 7) (v := .int 0) (C := RX7) (T := TX7) (N := 7) hx hb hwd inA_X7 hown hK hP 3 rfl rfl 1 (by decide) (hwd _ wk_202) (fun _ h9 => h9) rfl dX11_count_88 ?_
    exact W.iret (v := 0) hx hb hr (fun t ht hW => ⟨⟨0, (), rfl, by decide, trivial⟩, hS.F ht⟩) hS.2.2 dX11_count_91
  · have e9 : p0 = 3 := Int32.toInt_inj.mp (hk.trans (by decide))
    subst e9
    refine lv_tableIn (off := 91) (tgt := 92) hx hb dX11_count_1 (by decide) (by decide) (by decide) (by decide) ?_
    refine lv_aload_n hx hb dX11_count_92 rfl (lv_at hl 0 rfl) ?_
    refine va_get (D := (dC, dI)) (ci := 11) (v := .int 0) (C := RX11) (T := TX11) (N := 14) hx hb hwd inA_X11 hown hK hP 0 rfl rfl 11 (by decide) (hwd _ wk_88) (fun _ h9 => h9) rfl dX11_count_93 ?_
    exact W.iret (v := 0) hx hb hr (fun t ht hW => ⟨⟨0, (), rfl, by decide, trivial⟩, hS.F ht⟩) hS.2.2 dX11_count_96
  · have e9 : p0 = 4 := Int32.toInt_inj.mp (hk.trans (by decide))
    subst e9
    refine lv_tableIn (off := 96) (tgt := 97) hx hb dX11_count_1 (by decide) (by decide) (by decide) (by decide) ?_
    refine lv_aload_n hx hb dX11_count_97 rfl (lv_at hl 0 rfl) ?_
    refine va_get (D := (dC, dI)) (ci := 11) (v := .ref (g 5)) (C := RX11) (T := TX11) (N := 14) hx hb hwd inA_X11 hown hK hP 0 rfl rfl 5 (by decide) (hwd _ wk_150) (fun _ h9 => h9) rfl dX11_count_98 ?_
    refine va_get (D := (dC, dI)) (ci := 4) (v := .int 0) (C := RX4) (T := TX4) (N := 7) hx hb hwd inA_X4 hown hK hP 6 rfl rfl 0 (by decide) (hwd _ wk_151) (fun _ h9 => h9) rfl dX11_count_101 ?_
    exact W.iret (v := 0) hx hb hr (fun t ht hW => ⟨⟨0, (), rfl, by decide, trivial⟩, hS.F ht⟩) hS.2.2 dX11_count_104
  · have e9 : p0 = 5 := Int32.toInt_inj.mp (hk.trans (by decide))
    subst e9
    refine lv_tableIn (off := 104) (tgt := 105) hx hb dX11_count_1 (by decide) (by decide) (by decide) (by decide) ?_
    refine lv_aload_n hx hb dX11_count_105 rfl (lv_at hl 0 rfl) ?_
    refine va_get (D := (dC, dI)) (ci := 11) (v := .ref (g 7)) (C := RX11) (T := TX11) (N := 14) hx hb hwd inA_X11 hown hK hP 0 rfl rfl 7 (by decide) (hwd _ wk_39) (fun _ h9 => h9) rfl dX11_count_106 ?_
    refine va_get (D := (dC, dI)) (ci := 6) (v := .int 0) (C := RX6) (T := TX6) (N := 5) hx hb hwd inA_X6 hown hK hP 7 rfl rfl 1 (by decide) (hwd _ wk_203) (fun _ h9 => h9) rfl dX11_count_109 ?_
    exact W.iret (v := 0) hx hb hr (fun t ht hW => ⟨⟨0, (), rfl, by decide, trivial⟩, hS.F ht⟩) hS.2.2 dX11_count_112
  · have e9 : p0 = 6 := Int32.toInt_inj.mp (hk.trans (by decide))
    subst e9
    refine lv_tableIn (off := 112) (tgt := 113) hx hb dX11_count_1 (by decide) (by decide) (by decide) (by decide) ?_
    refine lv_aload_n hx hb dX11_count_113 rfl (lv_at hl 0 rfl) ?_
    refine va_get (D := (dC, dI)) (ci := 11) (v := .ref (g 3)) (C := RX11) (T := TX11) (N := 14) hx hb hwd inA_X11 hown hK hP 0 rfl rfl 3 (by decide) (hwd _ wk_204) (fun _ h9 => h9) rfl dX11_count_114 ?_
    refine va_get (D := (dC, dI)) (ci := 9) (v := .int 0) (C := RX9) (T := TX9) (N := 11) hx hb hwd inA_X9 hown hK hP 4 rfl rfl 0 (by decide) (hwd _ wk_205) (fun _ h9 => h9) rfl dX11_count_117 ?_
    exact W.iret (v := 0) hx hb hr (fun t ht hW => ⟨⟨0, (), rfl, by decide, trivial⟩, hS.F ht⟩) hS.2.2 dX11_count_120
  · have e9 : p0 = 7 := Int32.toInt_inj.mp (hk.trans (by decide))
    subst e9
    refine lv_tableIn (off := 120) (tgt := 121) hx hb dX11_count_1 (by decide) (by decide) (by decide) (by decide) ?_
    refine lv_aload_n hx hb dX11_count_121 rfl (lv_at hl 0 rfl) ?_
    refine va_get (D := (dC, dI)) (ci := 11) (v := .ref (g 4)) (C := RX11) (T := TX11) (N := 14) hx hb hwd inA_X11 hown hK hP 0 rfl rfl 4 (by decide) (hwd _ wk_96) (fun _ h9 => h9) rfl dX11_count_122 ?_
    refine va_get (D := (dC, dI)) (ci := 10) (v := .int 0) (C := RX10) (T := TX10) (N := 2) hx hb hwd inA_X10 hown hK hP 5 rfl rfl 0 (by decide) (hwd _ wk_158) (fun _ h9 => h9) rfl dX11_count_125 ?_
    exact W.iret (v := 0) hx hb hr (fun t ht hW => ⟨⟨0, (), rfl, by decide, trivial⟩, hS.F ht⟩) hS.2.2 dX11_count_128
  · have e9 : p0 = 8 := Int32.toInt_inj.mp (hk.trans (by decide))
    subst e9
    refine lv_tableIn (off := 128) (tgt := 129) hx hb dX11_count_1 (by decide) (by decide) (by decide) (by decide) ?_
    refine lv_aload_n hx hb dX11_count_129 rfl (lv_at hl 0 rfl) ?_
    refine va_get (D := (dC, dI)) (ci := 11) (v := .ref (g 2)) (C := RX11) (T := TX11) (N := 14) hx hb hwd inA_X11 hown hK hP 0 rfl rfl 2 (by decide) (hwd _ wk_16) (fun _ h9 => h9) rfl dX11_count_130 ?_
    refine lv_bipush (v := 12) hx hb dX11_count_133 (by decide) ?_
    have hPc := hP.sub (ws' := [(g 2, .inr (7, o7 gp))]) [3] rfl
    have hDc := hD.sub (ws' := [(g 2, .inr (7, o7 gp))]) [3] (by decide) rfl
    have hKc := hK.sub (tys' := []) [] rfl
    have hFc := va_free (wc := [(g 2, .inr (7, o7 gp))]) hD hS hA [3] rfl
    refine va_calli (va_runV (As := [.int 12]) (rest := []) ⟨hx, hb, hml, hown, hwd⟩ (c_X7_countAt l dC dI (g 2) gp H.size 12) (cwV 1 hwd (gV wk_206 wk_207 wk_208 wk_209 wk_21) rfl rfl rfl (by decide +kernel) ⟨Nat.le_of_ble_eq_true rfl, Nat.le_of_ble_eq_true rfl⟩) ⟨fun a U g mk q => by obtain ⟨q0, q1, qP, qK, qD⟩ := q; exact ⟨q0, q1, qP, va_K.moved (u := U) (U := U.calling g mk a) (Vm.Alike.refl U.vm) qK, qD⟩, va_recv hKc hPc (ci := 7) (q0 := 0) rfl rfl, fun U hU hW => ⟨rfl, by rw [hU], by rw [hU]; exact hPc, va_K.moved hW.alike hKc, hDc.weaken (fun _ _ _ _ => trivial)⟩⟩ rfl rfl hl.1 rfl (lv_room (Nat.le_of_ble_eq_true rfl)) dX11_count_135 ⟨Nat.le_of_ble_eq_true rfl, Nat.le_of_ble_eq_true rfl⟩) hS (fun q _ h => hFc q h) hFc (fun r_265 u t H1 locs ht hvm hw hB hz1 hk1 hS => ?_)
    obtain ⟨hP1, hK1, hD1⟩ := hB
    rw [ht] at hP1
    obtain ⟨hP, hD⟩ := va_join (wr := [(h0, .inr (11, o11 g)), (g 0, .inr (2, o2 gk)), (g 1, .inr (8, o8 ga)), (g 3, .inr (9, o9 gs)), (g 4, .inr (10, o10 gt)), (g 5, .inr (4, o4 gl)), (g 7, .inr (6, o6 go))]) (w1 := [(g 2, .inr (7, o7 gp))]) hP hD [3] [0, 1, 2, 4, 5, 6, 7] rfl rfl (by decide) (by decide) hk1 hFc hP1 hD1
    generalize H1 = H at hP hS ⊢
    have hP : va_P (dC, dI) classes [(h0, .inr (11, o11 g)), (g 0, .inr (2, o2 gk)), (g 1, .inr (8, o8 ga)), (g 3, .inr (9, o9 gs)), (g 4, .inr (10, o10 gt)), (g 5, .inr (4, o4 gl)), (g 7, .inr (6, o6 go)), (g 2, .inr (7, o7 gp))] H := hP
    have hD : va_D A [(h0, .inr (11, o11 g)), (g 0, .inr (2, o2 gk)), (g 1, .inr (8, o8 ga)), (g 3, .inr (9, o9 gs)), (g 4, .inr (10, o10 gt)), (g 5, .inr (4, o4 gl)), (g 7, .inr (6, o6 go)), (g 2, .inr (7, o7 gp))] := hD
    try dsimp only at hw
    subst hw
    exact W.iret (v := 0) hx hb hr (fun t ht hW => ⟨⟨0, (), rfl, by decide, trivial⟩, hS.F ht⟩) hS.2.2 dX11_count_138
  · have e9 : p0 = 9 := Int32.toInt_inj.mp (hk.trans (by decide))
    subst e9
    refine lv_tableIn (off := 138) (tgt := 139) hx hb dX11_count_1 (by decide) (by decide) (by decide) (by decide) ?_
    refine lv_aload_n hx hb dX11_count_139 rfl (lv_at hl 0 rfl) ?_
    refine va_get (D := (dC, dI)) (ci := 11) (v := .ref (g 2)) (C := RX11) (T := TX11) (N := 14) hx hb hwd inA_X11 hown hK hP 0 rfl rfl 2 (by decide) (hwd _ wk_16) (fun _ h9 => h9) rfl dX11_count_140 ?_
    refine lv_bipush (v := 11) hx hb dX11_count_143 (by decide) ?_
    have hPc := hP.sub (ws' := [(g 2, .inr (7, o7 gp))]) [3] rfl
    have hDc := hD.sub (ws' := [(g 2, .inr (7, o7 gp))]) [3] (by decide) rfl
    have hKc := hK.sub (tys' := []) [] rfl
    have hFc := va_free (wc := [(g 2, .inr (7, o7 gp))]) hD hS hA [3] rfl
    refine va_calli (va_runV (As := [.int 11]) (rest := []) ⟨hx, hb, hml, hown, hwd⟩ (c_X7_countAt l dC dI (g 2) gp H.size 11) (cwV 1 hwd (gV wk_206 wk_207 wk_208 wk_209 wk_21) rfl rfl rfl (by decide +kernel) ⟨Nat.le_of_ble_eq_true rfl, Nat.le_of_ble_eq_true rfl⟩) ⟨fun a U g mk q => by obtain ⟨q0, q1, qP, qK, qD⟩ := q; exact ⟨q0, q1, qP, va_K.moved (u := U) (U := U.calling g mk a) (Vm.Alike.refl U.vm) qK, qD⟩, va_recv hKc hPc (ci := 7) (q0 := 0) rfl rfl, fun U hU hW => ⟨rfl, by rw [hU], by rw [hU]; exact hPc, va_K.moved hW.alike hKc, hDc.weaken (fun _ _ _ _ => trivial)⟩⟩ rfl rfl hl.1 rfl (lv_room (Nat.le_of_ble_eq_true rfl)) dX11_count_145 ⟨Nat.le_of_ble_eq_true rfl, Nat.le_of_ble_eq_true rfl⟩) hS (fun q _ h => hFc q h) hFc (fun r_266 u t H1 locs ht hvm hw hB hz1 hk1 hS => ?_)
    obtain ⟨hP1, hK1, hD1⟩ := hB
    rw [ht] at hP1
    obtain ⟨hP, hD⟩ := va_join (wr := [(h0, .inr (11, o11 g)), (g 0, .inr (2, o2 gk)), (g 1, .inr (8, o8 ga)), (g 3, .inr (9, o9 gs)), (g 4, .inr (10, o10 gt)), (g 5, .inr (4, o4 gl)), (g 7, .inr (6, o6 go))]) (w1 := [(g 2, .inr (7, o7 gp))]) hP hD [3] [0, 1, 2, 4, 5, 6, 7] rfl rfl (by decide) (by decide) hk1 hFc hP1 hD1
    generalize H1 = H at hP hS ⊢
    have hP : va_P (dC, dI) classes [(h0, .inr (11, o11 g)), (g 0, .inr (2, o2 gk)), (g 1, .inr (8, o8 ga)), (g 3, .inr (9, o9 gs)), (g 4, .inr (10, o10 gt)), (g 5, .inr (4, o4 gl)), (g 7, .inr (6, o6 go)), (g 2, .inr (7, o7 gp))] H := hP
    have hD : va_D A [(h0, .inr (11, o11 g)), (g 0, .inr (2, o2 gk)), (g 1, .inr (8, o8 ga)), (g 3, .inr (9, o9 gs)), (g 4, .inr (10, o10 gt)), (g 5, .inr (4, o4 gl)), (g 7, .inr (6, o6 go)), (g 2, .inr (7, o7 gp))] := hD
    try dsimp only at hw
    subst hw
    exact W.iret (v := 0) hx hb hr (fun t ht hW => ⟨⟨0, (), rfl, by decide, trivial⟩, hS.F ht⟩) hS.2.2 dX11_count_148
  · have e9 : p0 = 10 := Int32.toInt_inj.mp (hk.trans (by decide))
    subst e9
    refine lv_tableIn (off := 148) (tgt := 149) hx hb dX11_count_1 (by decide) (by decide) (by decide) (by decide) ?_
    refine lv_aload_n hx hb dX11_count_149 rfl (lv_at hl 0 rfl) ?_
    refine va_get (D := (dC, dI)) (ci := 11) (v := .ref (g 2)) (C := RX11) (T := TX11) (N := 14) hx hb hwd inA_X11 hown hK hP 0 rfl rfl 2 (by decide) (hwd _ wk_16) (fun _ h9 => h9) rfl dX11_count_150 ?_
    refine lv_bipush (v := 10) hx hb dX11_count_153 (by decide) ?_
    have hPc := hP.sub (ws' := [(g 2, .inr (7, o7 gp))]) [3] rfl
    have hDc := hD.sub (ws' := [(g 2, .inr (7, o7 gp))]) [3] (by decide) rfl
    have hKc := hK.sub (tys' := []) [] rfl
    have hFc := va_free (wc := [(g 2, .inr (7, o7 gp))]) hD hS hA [3] rfl
    refine va_calli (va_runV (As := [.int 10]) (rest := []) ⟨hx, hb, hml, hown, hwd⟩ (c_X7_countAt l dC dI (g 2) gp H.size 10) (cwV 1 hwd (gV wk_206 wk_207 wk_208 wk_209 wk_21) rfl rfl rfl (by decide +kernel) ⟨Nat.le_of_ble_eq_true rfl, Nat.le_of_ble_eq_true rfl⟩) ⟨fun a U g mk q => by obtain ⟨q0, q1, qP, qK, qD⟩ := q; exact ⟨q0, q1, qP, va_K.moved (u := U) (U := U.calling g mk a) (Vm.Alike.refl U.vm) qK, qD⟩, va_recv hKc hPc (ci := 7) (q0 := 0) rfl rfl, fun U hU hW => ⟨rfl, by rw [hU], by rw [hU]; exact hPc, va_K.moved hW.alike hKc, hDc.weaken (fun _ _ _ _ => trivial)⟩⟩ rfl rfl hl.1 rfl (lv_room (Nat.le_of_ble_eq_true rfl)) dX11_count_155 ⟨Nat.le_of_ble_eq_true rfl, Nat.le_of_ble_eq_true rfl⟩) hS (fun q _ h => hFc q h) hFc (fun r_267 u t H1 locs ht hvm hw hB hz1 hk1 hS => ?_)
    obtain ⟨hP1, hK1, hD1⟩ := hB
    rw [ht] at hP1
    obtain ⟨hP, hD⟩ := va_join (wr := [(h0, .inr (11, o11 g)), (g 0, .inr (2, o2 gk)), (g 1, .inr (8, o8 ga)), (g 3, .inr (9, o9 gs)), (g 4, .inr (10, o10 gt)), (g 5, .inr (4, o4 gl)), (g 7, .inr (6, o6 go))]) (w1 := [(g 2, .inr (7, o7 gp))]) hP hD [3] [0, 1, 2, 4, 5, 6, 7] rfl rfl (by decide) (by decide) hk1 hFc hP1 hD1
    generalize H1 = H at hP hS ⊢
    have hP : va_P (dC, dI) classes [(h0, .inr (11, o11 g)), (g 0, .inr (2, o2 gk)), (g 1, .inr (8, o8 ga)), (g 3, .inr (9, o9 gs)), (g 4, .inr (10, o10 gt)), (g 5, .inr (4, o4 gl)), (g 7, .inr (6, o6 go)), (g 2, .inr (7, o7 gp))] H := hP
    have hD : va_D A [(h0, .inr (11, o11 g)), (g 0, .inr (2, o2 gk)), (g 1, .inr (8, o8 ga)), (g 3, .inr (9, o9 gs)), (g 4, .inr (10, o10 gt)), (g 5, .inr (4, o4 gl)), (g 7, .inr (6, o6 go)), (g 2, .inr (7, o7 gp))] := hD
    try dsimp only at hw
    subst hw
    exact W.iret (v := 0) hx hb hr (fun t ht hW => ⟨⟨0, (), rfl, by decide, trivial⟩, hS.F ht⟩) hS.2.2 dX11_count_158
  · have e9 : p0 = 11 := Int32.toInt_inj.mp (hk.trans (by decide))
    subst e9
    refine lv_tableIn (off := 158) (tgt := 159) hx hb dX11_count_1 (by decide) (by decide) (by decide) (by decide) ?_
    refine lv_aload_n hx hb dX11_count_159 rfl (lv_at hl 0 rfl) ?_
    refine va_get (D := (dC, dI)) (ci := 11) (v := .ref (g 1)) (C := RX11) (T := TX11) (N := 14) hx hb hwd inA_X11 hown hK hP 0 rfl rfl 1 (by decide) (hwd _ wk_22) (fun _ h9 => h9) rfl dX11_count_160 ?_
    have hPc := hP.sub (ws' := [(g 1, .inr (8, o8 ga))]) [2] rfl
    have hDc := hD.sub (ws' := [(g 1, .inr (8, o8 ga))]) [2] (by decide) rfl
    have hKc := hK.sub (tys' := []) [] rfl
    have hFc := va_free (wc := [(g 1, .inr (8, o8 ga))]) hD hS hA [2] rfl
    refine va_calli (va_runV (As := []) (rest := []) ⟨hx, hb, hml, hown, hwd⟩ (c_X8_backs l dC dI (g 1) ga H.size) (cwV 0 hwd (gV wk_210 wk_211 wk_212 wk_213 wk_27) rfl rfl rfl (by decide +kernel) ⟨Nat.le_of_ble_eq_true rfl, Nat.le_of_ble_eq_true rfl⟩) ⟨fun a U g mk q => by obtain ⟨q0, q1, qP, qK, qD⟩ := q; exact ⟨q0, q1, qP, va_K.moved (u := U) (U := U.calling g mk a) (Vm.Alike.refl U.vm) qK, qD⟩, va_recv hKc hPc (ci := 8) (q0 := 0) rfl rfl, fun U hU hW => ⟨rfl, by rw [hU], by rw [hU]; exact hPc, va_K.moved hW.alike hKc, hDc.weaken (fun _ _ _ _ => trivial)⟩⟩ rfl rfl hl.1 rfl (lv_room (Nat.le_of_ble_eq_true rfl)) dX11_count_163 ⟨Nat.le_of_ble_eq_true rfl, Nat.le_of_ble_eq_true rfl⟩) hS (fun q _ h => hFc q h) hFc (fun r_268 u t H1 locs ht hvm hw hB hz1 hk1 hS => ?_)
    obtain ⟨hP1, hK1, hD1⟩ := hB
    rw [ht] at hP1
    obtain ⟨hP, hD⟩ := va_join (wr := [(h0, .inr (11, o11 g)), (g 0, .inr (2, o2 gk)), (g 2, .inr (7, o7 gp)), (g 3, .inr (9, o9 gs)), (g 4, .inr (10, o10 gt)), (g 5, .inr (4, o4 gl)), (g 7, .inr (6, o6 go))]) (w1 := [(g 1, .inr (8, o8 ga))]) hP hD [2] [0, 1, 3, 4, 5, 6, 7] rfl rfl (by decide) (by decide) hk1 hFc hP1 hD1
    generalize H1 = H at hP hS ⊢
    have hP : va_P (dC, dI) classes [(h0, .inr (11, o11 g)), (g 0, .inr (2, o2 gk)), (g 2, .inr (7, o7 gp)), (g 3, .inr (9, o9 gs)), (g 4, .inr (10, o10 gt)), (g 5, .inr (4, o4 gl)), (g 7, .inr (6, o6 go)), (g 1, .inr (8, o8 ga))] H := hP
    have hD : va_D A [(h0, .inr (11, o11 g)), (g 0, .inr (2, o2 gk)), (g 2, .inr (7, o7 gp)), (g 3, .inr (9, o9 gs)), (g 4, .inr (10, o10 gt)), (g 5, .inr (4, o4 gl)), (g 7, .inr (6, o6 go)), (g 1, .inr (8, o8 ga))] := hD
    try dsimp only at hw
    subst hw
    exact W.iret (v := 0) hx hb hr (fun t ht hW => ⟨⟨0, (), rfl, by decide, trivial⟩, hS.F ht⟩) hS.2.2 dX11_count_166
  · have e9 : p0 = 12 := Int32.toInt_inj.mp (hk.trans (by decide))
    subst e9
    refine lv_tableIn (off := 166) (tgt := 167) hx hb dX11_count_1 (by decide) (by decide) (by decide) (by decide) ?_
    refine lv_aload_n hx hb dX11_count_167 rfl (lv_at hl 0 rfl) ?_
    refine va_get (D := (dC, dI)) (ci := 11) (v := .int 0) (C := RX11) (T := TX11) (N := 14) hx hb hwd inA_X11 hown hK hP 0 rfl rfl 12 (by decide) (hwd _ wk_214) (fun _ h9 => h9) rfl dX11_count_168 ?_
    exact W.iret (v := 0) hx hb hr (fun t ht hW => ⟨⟨0, (), rfl, by decide, trivial⟩, hS.F ht⟩) hS.2.2 dX11_count_171
set_option maxHeartbeats 4000000 in
set_option maxRecDepth 100000 in
theorem c_X12_count (l : Launch) (dC : Nat → ClassId) (dI : Nat → Nat → Nat) (h0 : Nat) (g : Nat → Nat) (sz : Nat) (p0 : Int32) : Met l yX12_count (Cond.code yX12_count cX12_count 4 (some .int) :: wA) ({ frames := 2, cells := 0, slots := 0, locals := 80 }) (va_Pc [.ref h0, .int p0] (fun U => U.heap.size = sz ∧ va_P (dC, dI) classes [(h0, .inr (12, oM g 0))] U.heap ∧ va_K (dC, dI) classes [] U ∧ va_D (fun _ => True) [(h0, .inr (12, oM g 0))])) (va_Qi (fun (r : Int32) (_ : Unit) => r = f_count p0) (fun (_ : Unit) (_ : State) => True) (va_A [(h0, .inr (12, oM g 0))] sz)) 0 0 (va_A [(h0, .inr (12, oM g 0))] sz) := by
  refine Met.ofW (cc := cX12_count) (maxL := 4) (ret := (some .int)) (by decide) rfl ?_
  intro p e s m args below meth c s₁ B hml hv
  obtain ⟨rfl, hsz, hP, hK, hD0⟩ := hv
  have hx := B.exec
  have hb := B.bytes
  have hr := B.returns
  have hts := atoms_spec (ws := Cond.code yX12_count cX12_count 4 (some .int) :: wA) B.pre
  have hwd : ∀ w ∈ wA, w.before _ s = true := fun w h => hts w (List.mem_cons_of_mem _ h)
  have hown : s.vm.findClass RX12 = some m.cls := findClass_of_methodNamed B.named
  have hlocks := B.notSynchronized
  subst hsz
  have hD := hD0.self (sz := s.heap.size)
  generalize hAe : va_A [(h0, .inr (12, oM g 0))] s.heap.size = A at hD ⊢
  have hA : ∀ q : Nat, s.heap.size ≤ q → A q := fun q h => by rw [← hAe]; exact Or.inr h
  have hS : va_S A s.heap s.heap [] := va_S.rf
  have hP : va_P (dC, dI) classes [(h0, .inr (12, oM g 0))] s.heap := hP
  have hl := lv_entry ([.ref h0, .int p0]) (n := 4) (Nat.le_of_ble_eq_true rfl)
  rw [lg_entry_eq]
  generalize (lg_sl ([.ref h0, .int p0]) ++ List.replicate (4 - (lg_sl ([.ref h0, .int p0])).length) Slot.unset).toArray = ls at hl ⊢
  have hl : lv_has ls 4 [(0, .ref h0), (1, .int p0)] := hl
  obtain ⟨H, eH⟩ : ∃ z, z = s.heap := ⟨_, rfl⟩
  have hP : va_P (dC, dI) classes [(h0, .inr (12, oM g 0))] H := by rw [eH]; exact hP
  have hS : va_S A s.heap H [] := by rw [eH]; exact va_S.rf
  refine my_heap eH ?_
  refine lv_iconst (v := 0) hx hb dX12_count_0 (by decide) ?_
  refine lv_istore_n (lv' := [(2, .int 0), (0, .ref h0), (1, .int p0)]) hx hb dX12_count_1 rfl hl (by decide) rfl (fun ls hl => ?_)
  refine lv_iload_n hx hb dX12_count_2 rfl (lv_at hl 2 rfl) ?_
  by_cases hlo_269 : (p0).toInt < 0
  · refine lv_tableOut (tgt := 168) hx hb dX12_count_3 (Or.inl hlo_269) (by decide) ?_
    refine lv_iconst (v := (-1)) hx hb dX12_count_168 (by decide) ?_
    exact W.iret (v := (-1)) hx hb hr (fun t ht hW => ⟨⟨(-1), (), rfl, by unfold f_count; rw [if_pos (wi_lo (by decide) hlo_269)], trivial⟩, hS.F ht⟩) hS.2.2 dX12_count_169
  by_cases hhi_270 : 12 < (p0).toInt
  · refine lv_tableOut (tgt := 168) hx hb dX12_count_3 (Or.inr hhi_270) (by decide) ?_
    refine lv_iconst (v := (-1)) hx hb dX12_count_168 (by decide) ?_
    exact W.iret (v := (-1)) hx hb hr (fun t ht hW => ⟨⟨(-1), (), rfl, by unfold f_count; rw [if_pos (wi_hi (by decide) hhi_270)], trivial⟩, hS.F ht⟩) hS.2.2 dX12_count_169
  rcases (show (p0).toInt = 0 ∨ (p0).toInt = 1 ∨ (p0).toInt = 2 ∨ (p0).toInt = 3 ∨ (p0).toInt = 4 ∨ (p0).toInt = 5 ∨ (p0).toInt = 6 ∨ (p0).toInt = 7 ∨ (p0).toInt = 8 ∨ (p0).toInt = 9 ∨ (p0).toInt = 10 ∨ (p0).toInt = 11 ∨ (p0).toInt = 12 by omega) with hk | hk | hk | hk | hk | hk | hk | hk | hk | hk | hk | hk | hk
  · have e9 : p0 = 0 := Int32.toInt_inj.mp (hk.trans (by decide))
    subst e9
    refine lv_tableIn (off := 65) (tgt := 68) hx hb dX12_count_3 (by decide) (by decide) (by decide) (by decide) ?_
    refine lv_aload_n hx hb dX12_count_68 rfl (lv_at hl 1 rfl) ?_
    refine va_get (D := (dC, dI)) (ci := 12) (v := .int 0) (C := RX12) (T := TX12) (N := 63) hx hb hwd inA_X12 hown hK hP 0 rfl rfl 2 (by decide) (hwd _ wk_13) (fun _ h9 => h9) rfl dX12_count_69 ?_
    exact W.iret (v := 0) hx hb hr (fun t ht hW => ⟨⟨0, (), rfl, by decide, trivial⟩, hS.F ht⟩) hS.2.2 dX12_count_72
  · have e9 : p0 = 1 := Int32.toInt_inj.mp (hk.trans (by decide))
    subst e9
    refine lv_tableIn (off := 70) (tgt := 73) hx hb dX12_count_3 (by decide) (by decide) (by decide) (by decide) ?_
    refine lv_aload_n hx hb dX12_count_73 rfl (lv_at hl 1 rfl) ?_
    refine va_get (D := (dC, dI)) (ci := 12) (v := .int 0) (C := RX12) (T := TX12) (N := 63) hx hb hwd inA_X12 hown hK hP 0 rfl rfl 6 (by decide) (hwd _ wk_14) (fun _ h9 => h9) rfl dX12_count_74 ?_
    exact W.iret (v := 0) hx hb hr (fun t ht hW => ⟨⟨0, (), rfl, by decide, trivial⟩, hS.F ht⟩) hS.2.2 dX12_count_77
  · have e9 : p0 = 2 := Int32.toInt_inj.mp (hk.trans (by decide))
    subst e9
    refine lv_tableIn (off := 75) (tgt := 78) hx hb dX12_count_3 (by decide) (by decide) (by decide) (by decide) ?_
    refine lv_aload_n hx hb dX12_count_78 rfl (lv_at hl 1 rfl) ?_
    refine va_get (D := (dC, dI)) (ci := 12) (v := .int 0) (C := RX12) (T := TX12) (N := 63) hx hb hwd inA_X12 hown hK hP 0 rfl rfl 14 (by decide) (hwd _ wk_15) (fun _ h9 => h9) rfl dX12_count_79 ?_
    exact W.iret (v := 0) hx hb hr (fun t ht hW => ⟨⟨0, (), rfl, by decide, trivial⟩, hS.F ht⟩) hS.2.2 dX12_count_82
  · have e9 : p0 = 3 := Int32.toInt_inj.mp (hk.trans (by decide))
    subst e9
    refine lv_tableIn (off := 80) (tgt := 83) hx hb dX12_count_3 (by decide) (by decide) (by decide) (by decide) ?_
    refine lv_aload_n hx hb dX12_count_83 rfl (lv_at hl 1 rfl) ?_
    refine va_get (D := (dC, dI)) (ci := 12) (v := .int 0) (C := RX12) (T := TX12) (N := 63) hx hb hwd inA_X12 hown hK hP 0 rfl rfl 1 (by decide) (hwd _ wk_93) (fun _ h9 => h9) rfl dX12_count_84 ?_
    exact W.iret (v := 0) hx hb hr (fun t ht hW => ⟨⟨0, (), rfl, by decide, trivial⟩, hS.F ht⟩) hS.2.2 dX12_count_87
  · have e9 : p0 = 4 := Int32.toInt_inj.mp (hk.trans (by decide))
    subst e9
    refine lv_tableIn (off := 85) (tgt := 88) hx hb dX12_count_3 (by decide) (by decide) (by decide) (by decide) ?_
    refine lv_aload_n hx hb dX12_count_88 rfl (lv_at hl 1 rfl) ?_
    refine va_get (D := (dC, dI)) (ci := 12) (v := .int 0) (C := RX12) (T := TX12) (N := 63) hx hb hwd inA_X12 hown hK hP 0 rfl rfl 31 (by decide) (hwd _ wk_192) (fun _ h9 => h9) rfl dX12_count_89 ?_
    exact W.iret (v := 0) hx hb hr (fun t ht hW => ⟨⟨0, (), rfl, by decide, trivial⟩, hS.F ht⟩) hS.2.2 dX12_count_92
  · have e9 : p0 = 5 := Int32.toInt_inj.mp (hk.trans (by decide))
    subst e9
    refine lv_tableIn (off := 90) (tgt := 93) hx hb dX12_count_3 (by decide) (by decide) (by decide) (by decide) ?_
    refine lv_aload_n hx hb dX12_count_93 rfl (lv_at hl 1 rfl) ?_
    refine va_get (D := (dC, dI)) (ci := 12) (v := .int 0) (C := RX12) (T := TX12) (N := 63) hx hb hwd inA_X12 hown hK hP 0 rfl rfl 45 (by decide) (hwd _ wk_58) (fun _ h9 => h9) rfl dX12_count_94 ?_
    exact W.iret (v := 0) hx hb hr (fun t ht hW => ⟨⟨0, (), rfl, by decide, trivial⟩, hS.F ht⟩) hS.2.2 dX12_count_97
  · have e9 : p0 = 6 := Int32.toInt_inj.mp (hk.trans (by decide))
    subst e9
    refine lv_tableIn (off := 95) (tgt := 98) hx hb dX12_count_3 (by decide) (by decide) (by decide) (by decide) ?_
    refine lv_aload_n hx hb dX12_count_98 rfl (lv_at hl 1 rfl) ?_
    refine va_get (D := (dC, dI)) (ci := 12) (v := .int 0) (C := RX12) (T := TX12) (N := 63) hx hb hwd inA_X12 hown hK hP 0 rfl rfl 19 (by decide) (hwd _ wk_215) (fun _ h9 => h9) rfl dX12_count_99 ?_
    exact W.iret (v := 0) hx hb hr (fun t ht hW => ⟨⟨0, (), rfl, by decide, trivial⟩, hS.F ht⟩) hS.2.2 dX12_count_102
  · have e9 : p0 = 7 := Int32.toInt_inj.mp (hk.trans (by decide))
    subst e9
    refine lv_tableIn (off := 100) (tgt := 103) hx hb dX12_count_3 (by decide) (by decide) (by decide) (by decide) ?_
    refine lv_aload_n hx hb dX12_count_103 rfl (lv_at hl 1 rfl) ?_
    refine va_get (D := (dC, dI)) (ci := 12) (v := .int 0) (C := RX12) (T := TX12) (N := 63) hx hb hwd inA_X12 hown hK hP 0 rfl rfl 30 (by decide) (hwd _ wk_102) (fun _ h9 => h9) rfl dX12_count_104 ?_
    exact W.iret (v := 0) hx hb hr (fun t ht hW => ⟨⟨0, (), rfl, by decide, trivial⟩, hS.F ht⟩) hS.2.2 dX12_count_107
  · have e9 : p0 = 8 := Int32.toInt_inj.mp (hk.trans (by decide))
    subst e9
    refine lv_tableIn (off := 105) (tgt := 108) hx hb dX12_count_3 (by decide) (by decide) (by decide) (by decide) ?_
    refine lv_aload_n hx hb dX12_count_108 rfl (lv_at hl 1 rfl) ?_
    refine lv_bipush (v := 12) hx hb dX12_count_109 (by decide) ?_
    have hPc := hP.sub (ws' := [(h0, .inr (12, oM g 0))]) [0] rfl
    have hDc := hD.sub (ws' := [(h0, .inr (12, oM g 0))]) [0] (by decide) rfl
    have hKc := hK.sub (tys' := []) [] rfl
    have hFc := va_free (wc := [(h0, .inr (12, oM g 0))]) hD hS hA [0] rfl
    refine va_calli (va_runV (As := [.int 12]) (rest := []) ⟨hx, hb, hml, hown, hwd⟩ (c_X12_partsAt l dC dI h0 g H.size 12) (cwV 1 hwd (gV wk_216 wk_217 wk_218 wk_219 wk_8) rfl rfl rfl (by decide +kernel) ⟨Nat.le_of_ble_eq_true rfl, Nat.le_of_ble_eq_true rfl⟩) ⟨fun a U g mk q => by obtain ⟨q0, q1, qP, qK, qD⟩ := q; exact ⟨q0, q1, qP, va_K.moved (u := U) (U := U.calling g mk a) (Vm.Alike.refl U.vm) qK, qD⟩, va_recv hKc hPc (ci := 12) (q0 := 0) rfl rfl, fun U hU hW => ⟨rfl, by rw [hU], by rw [hU]; exact hPc, va_K.moved hW.alike hKc, hDc.weaken (fun _ _ _ _ => trivial)⟩⟩ rfl rfl hl.1 rfl (lv_room (Nat.le_of_ble_eq_true rfl)) dX12_count_111 ⟨Nat.le_of_ble_eq_true rfl, Nat.le_of_ble_eq_true rfl⟩) hS (fun q _ h => hFc q h) hFc (fun r_271 u t H1 locs ht hvm hw hB hz1 hk1 hS => ?_)
    obtain ⟨hP1, hK1, hD1⟩ := hB
    rw [ht] at hP1
    obtain ⟨hP, hD⟩ := va_join (wr := []) (w1 := [(h0, .inr (12, oM g 0))]) hP hD [0] [] rfl rfl (by decide) (by decide) hk1 hFc hP1 hD1
    generalize H1 = H at hP hS ⊢
    have hP : va_P (dC, dI) classes [(h0, .inr (12, oM g 0))] H := hP
    have hD : va_D A [(h0, .inr (12, oM g 0))] := hD
    try dsimp only at hw
    subst hw
    exact W.iret (v := 0) hx hb hr (fun t ht hW => ⟨⟨0, (), rfl, by decide, trivial⟩, hS.F ht⟩) hS.2.2 dX12_count_114
  · have e9 : p0 = 9 := Int32.toInt_inj.mp (hk.trans (by decide))
    subst e9
    refine lv_tableIn (off := 112) (tgt := 115) hx hb dX12_count_3 (by decide) (by decide) (by decide) (by decide) ?_
    refine lv_aload_n hx hb dX12_count_115 rfl (lv_at hl 1 rfl) ?_
    refine lv_bipush (v := 11) hx hb dX12_count_116 (by decide) ?_
    have hPc := hP.sub (ws' := [(h0, .inr (12, oM g 0))]) [0] rfl
    have hDc := hD.sub (ws' := [(h0, .inr (12, oM g 0))]) [0] (by decide) rfl
    have hKc := hK.sub (tys' := []) [] rfl
    have hFc := va_free (wc := [(h0, .inr (12, oM g 0))]) hD hS hA [0] rfl
    refine va_calli (va_runV (As := [.int 11]) (rest := []) ⟨hx, hb, hml, hown, hwd⟩ (c_X12_partsAt l dC dI h0 g H.size 11) (cwV 1 hwd (gV wk_216 wk_217 wk_218 wk_219 wk_8) rfl rfl rfl (by decide +kernel) ⟨Nat.le_of_ble_eq_true rfl, Nat.le_of_ble_eq_true rfl⟩) ⟨fun a U g mk q => by obtain ⟨q0, q1, qP, qK, qD⟩ := q; exact ⟨q0, q1, qP, va_K.moved (u := U) (U := U.calling g mk a) (Vm.Alike.refl U.vm) qK, qD⟩, va_recv hKc hPc (ci := 12) (q0 := 0) rfl rfl, fun U hU hW => ⟨rfl, by rw [hU], by rw [hU]; exact hPc, va_K.moved hW.alike hKc, hDc.weaken (fun _ _ _ _ => trivial)⟩⟩ rfl rfl hl.1 rfl (lv_room (Nat.le_of_ble_eq_true rfl)) dX12_count_118 ⟨Nat.le_of_ble_eq_true rfl, Nat.le_of_ble_eq_true rfl⟩) hS (fun q _ h => hFc q h) hFc (fun r_272 u t H1 locs ht hvm hw hB hz1 hk1 hS => ?_)
    obtain ⟨hP1, hK1, hD1⟩ := hB
    rw [ht] at hP1
    obtain ⟨hP, hD⟩ := va_join (wr := []) (w1 := [(h0, .inr (12, oM g 0))]) hP hD [0] [] rfl rfl (by decide) (by decide) hk1 hFc hP1 hD1
    generalize H1 = H at hP hS ⊢
    have hP : va_P (dC, dI) classes [(h0, .inr (12, oM g 0))] H := hP
    have hD : va_D A [(h0, .inr (12, oM g 0))] := hD
    try dsimp only at hw
    subst hw
    exact W.iret (v := 0) hx hb hr (fun t ht hW => ⟨⟨0, (), rfl, by decide, trivial⟩, hS.F ht⟩) hS.2.2 dX12_count_121
  · have e9 : p0 = 10 := Int32.toInt_inj.mp (hk.trans (by decide))
    subst e9
    refine lv_tableIn (off := 119) (tgt := 122) hx hb dX12_count_3 (by decide) (by decide) (by decide) (by decide) ?_
    refine lv_aload_n hx hb dX12_count_122 rfl (lv_at hl 1 rfl) ?_
    refine lv_bipush (v := 10) hx hb dX12_count_123 (by decide) ?_
    have hPc := hP.sub (ws' := [(h0, .inr (12, oM g 0))]) [0] rfl
    have hDc := hD.sub (ws' := [(h0, .inr (12, oM g 0))]) [0] (by decide) rfl
    have hKc := hK.sub (tys' := []) [] rfl
    have hFc := va_free (wc := [(h0, .inr (12, oM g 0))]) hD hS hA [0] rfl
    refine va_calli (va_runV (As := [.int 10]) (rest := []) ⟨hx, hb, hml, hown, hwd⟩ (c_X12_partsAt l dC dI h0 g H.size 10) (cwV 1 hwd (gV wk_216 wk_217 wk_218 wk_219 wk_8) rfl rfl rfl (by decide +kernel) ⟨Nat.le_of_ble_eq_true rfl, Nat.le_of_ble_eq_true rfl⟩) ⟨fun a U g mk q => by obtain ⟨q0, q1, qP, qK, qD⟩ := q; exact ⟨q0, q1, qP, va_K.moved (u := U) (U := U.calling g mk a) (Vm.Alike.refl U.vm) qK, qD⟩, va_recv hKc hPc (ci := 12) (q0 := 0) rfl rfl, fun U hU hW => ⟨rfl, by rw [hU], by rw [hU]; exact hPc, va_K.moved hW.alike hKc, hDc.weaken (fun _ _ _ _ => trivial)⟩⟩ rfl rfl hl.1 rfl (lv_room (Nat.le_of_ble_eq_true rfl)) dX12_count_125 ⟨Nat.le_of_ble_eq_true rfl, Nat.le_of_ble_eq_true rfl⟩) hS (fun q _ h => hFc q h) hFc (fun r_273 u t H1 locs ht hvm hw hB hz1 hk1 hS => ?_)
    obtain ⟨hP1, hK1, hD1⟩ := hB
    rw [ht] at hP1
    obtain ⟨hP, hD⟩ := va_join (wr := []) (w1 := [(h0, .inr (12, oM g 0))]) hP hD [0] [] rfl rfl (by decide) (by decide) hk1 hFc hP1 hD1
    generalize H1 = H at hP hS ⊢
    have hP : va_P (dC, dI) classes [(h0, .inr (12, oM g 0))] H := hP
    have hD : va_D A [(h0, .inr (12, oM g 0))] := hD
    try dsimp only at hw
    subst hw
    exact W.iret (v := 0) hx hb hr (fun t ht hW => ⟨⟨0, (), rfl, by decide, trivial⟩, hS.F ht⟩) hS.2.2 dX12_count_128
  · have e9 : p0 = 11 := Int32.toInt_inj.mp (hk.trans (by decide))
    subst e9
    refine lv_tableIn (off := 126) (tgt := 129) hx hb dX12_count_3 (by decide) (by decide) (by decide) (by decide) ?_
    refine lv_iconst (v := 0) hx hb dX12_count_129 (by decide) ?_
    refine lv_istore_n (lv' := [(3, .int 0), (2, .int 0), (0, .ref h0), (1, .int 11)]) hx hb dX12_count_130 rfl hl (by decide) rfl (fun ls hl => ?_)
    refine lv_iload_n hx hb dX12_count_131 rfl (lv_at hl 0 rfl) ?_
    refine lv_aload_n hx hb dX12_count_132 rfl (lv_at hl 2 rfl) ?_
    refine va_get (D := (dC, dI)) (ci := 12) (v := .int 0) (C := RX12) (T := TX12) (N := 63) hx hb hwd inA_X12 hown hK hP 0 rfl rfl 6 (by decide) (hwd _ wk_14) (fun _ h9 => h9) rfl dX12_count_133 ?_
    refine lv_icmp_ge (tgt := 161) hx hb dX12_count_136 (by decide) (fun c_274 => ?_) (fun c_274 => ?_)
    · skip
      refine lv_iload_n hx hb dX12_count_161 rfl (lv_at hl 1 rfl) ?_
      exact W.iret (v := 0) hx hb hr (fun t ht hW => ⟨⟨0, (), rfl, by decide, trivial⟩, hS.F ht⟩) hS.2.2 dX12_count_162
    · exact absurd c_274 (by decide)
  · have e9 : p0 = 12 := Int32.toInt_inj.mp (hk.trans (by decide))
    subst e9
    refine lv_tableIn (off := 160) (tgt := 163) hx hb dX12_count_3 (by decide) (by decide) (by decide) (by decide) ?_
    refine lv_aload_n hx hb dX12_count_163 rfl (lv_at hl 1 rfl) ?_
    refine va_get (D := (dC, dI)) (ci := 12) (v := .int 0) (C := RX12) (T := TX12) (N := 63) hx hb hwd inA_X12 hown hK hP 0 rfl rfl 60 (by decide) (hwd _ wk_220) (fun _ h9 => h9) rfl dX12_count_164 ?_
    exact W.iret (v := 0) hx hb hr (fun t ht hW => ⟨⟨0, (), rfl, by decide, trivial⟩, hS.F ht⟩) hS.2.2 dX12_count_167
