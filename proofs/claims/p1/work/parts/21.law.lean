set_option maxHeartbeats 4000000 in
set_option maxRecDepth 100000 in
theorem c_X10_at (l : Launch) (dC : Nat → ClassId) (dI : Nat → Nat → Nat) (h0 : Nat) (g : Nat → Nat) (sz : Nat) : Met l yX10_at (Cond.code yX10_at cX10_at 2 (some .int) :: wA) ({ frames := 1, cells := 0, slots := 0, locals := 40 }) (va_Pc [.ref h0, .int 0] (fun U => U.heap.size = sz ∧ va_P (dC, dI) classes [(h0, .inr (10, o10 g))] U.heap ∧ va_K (dC, dI) classes [] U ∧ va_D (fun _ => True) [(h0, .inr (10, o10 g))])) (va_Qi (fun (r : Int32) (_ : Unit) => r = (-1)) (fun (_ : Unit) (t : State) => va_P (dC, dI) classes [(h0, .inr (10, o10 g))] t.heap ∧ va_K (dC, dI) classes [] t ∧ va_D (va_A [(h0, .inr (10, o10 g))] sz) [(h0, .inr (10, o10 g))]) (va_A [(h0, .inr (10, o10 g))] sz)) 0 0 (va_A [(h0, .inr (10, o10 g))] sz) := by
  refine Met.ofW (cc := cX10_at) (maxL := 2) (ret := (some .int)) (by decide) rfl ?_
  intro p e s m args below meth c s₁ B hml hv
  obtain ⟨rfl, hsz, hP, hK, hD0⟩ := hv
  have hx := B.exec
  have hb := B.bytes
  have hr := B.returns
  have hts := atoms_spec (ws := Cond.code yX10_at cX10_at 2 (some .int) :: wA) B.pre
  have hwd : ∀ w ∈ wA, w.before _ s = true := fun w h => hts w (List.mem_cons_of_mem _ h)
  have hown : s.vm.findClass RX10 = some m.cls := findClass_of_methodNamed B.named
  have hlocks := B.notSynchronized
  subst hsz
  have hD := hD0.self (sz := s.heap.size)
  generalize hAe : va_A [(h0, .inr (10, o10 g))] s.heap.size = A at hD ⊢
  have hA : ∀ q : Nat, s.heap.size ≤ q → A q := fun q h => by rw [← hAe]; exact Or.inr h
  have hS : va_S A s.heap s.heap [] := va_S.rf
  have hP : va_P (dC, dI) classes [(h0, .inr (10, o10 g))] s.heap := hP
  have hl := lv_entry ([.ref h0, .int 0]) (n := 2) (Nat.le_of_ble_eq_true rfl)
  rw [lg_entry_eq]
  generalize (lg_sl ([.ref h0, .int 0]) ++ List.replicate (2 - (lg_sl ([.ref h0, .int 0])).length) Slot.unset).toArray = ls at hl ⊢
  have hl : lv_has ls 2 [(0, .ref h0), (1, .int 0)] := hl
  obtain ⟨H, eH⟩ : ∃ z, z = s.heap := ⟨_, rfl⟩
  have hP : va_P (dC, dI) classes [(h0, .inr (10, o10 g))] H := by rw [eH]; exact hP
  have hS : va_S A s.heap H [] := by rw [eH]; exact va_S.rf
  refine my_heap eH ?_
  refine lv_iload_n hx hb dX10_at_0 rfl (lv_at hl 1 rfl) ?_
  refine lv_if_lt (tgt := 21) hx hb dX10_at_1 (by decide) (fun c_188 => ?_) (fun c_188 => ?_)
  · exact absurd c_188 (by decide)
  · skip
    refine lv_iload_n hx hb dX10_at_4 rfl (lv_at hl 1 rfl) ?_
    refine lv_aload_n hx hb dX10_at_5 rfl (lv_at hl 0 rfl) ?_
    refine va_get (D := (dC, dI)) (ci := 10) (v := .int 0) (C := RX10) (T := TX10) (N := 2) hx hb hwd inA_X10 hown hK hP 0 rfl rfl 0 (by decide) (hwd _ wk_94) (fun _ h9 => h9) rfl dX10_at_6 ?_
    refine lv_icmp_ge (tgt := 21) hx hb dX10_at_9 (by decide) (fun c_189 => ?_) (fun c_189 => ?_)
    · skip
      refine lv_iconst (v := (-1)) hx hb dX10_at_21 (by decide) ?_
      have hP9 : va_P (dC, dI) classes [(h0, .inr (10, o10 g))] H := hP.sub [0] rfl
      have hD9 : va_D A [(h0, .inr (10, o10 g))] := hD.sub [0] (by decide) rfl
      have hK9 : va_K (dC, dI) classes [] s := hK.sub [] rfl
      exact W.iret (v := (-1)) hx hb hr (fun t ht hW => ⟨⟨(-1), (), rfl, rfl, by rw [ht]; exact hP9, va_K.moved hW.alike hK9, hD9⟩, hS.F ht⟩) hS.2.2 dX10_at_22
    · exact absurd c_189 (by decide)
set_option maxHeartbeats 4000000 in
set_option maxRecDepth 100000 in
theorem c_X3_next_a (l : Launch) (dC : Nat → ClassId) (dI : Nat → Nat → Nat) (h0 : Nat) (tp : Nat) (cd : Nat) (gt : Nat → Nat) (sz : Nat) : Met l yX3_next (Cond.code yX3_next cX3_next 1 (some .int) :: wA) ({ frames := 2, cells := 0, slots := 0, locals := 80 }) (va_Pc [.ref h0] (fun U => U.heap.size = sz ∧ va_P (dC, dI) classes [(h0, .inr (3, [.ref tp, .ref cd, .int 0, .int 0, .int (-1)])), (tp, .inr (10, o10 gt))] U.heap ∧ va_K (dC, dI) classes [] U ∧ va_D (fun _ => True) [(h0, .inr (3, [.ref tp, .ref cd, .int 0, .int 0, .int (-1)])), (tp, .inr (10, o10 gt))])) (va_Qi (fun (r : Int32) (_ : Unit) => r = (-1)) (fun (_ : Unit) (t : State) => va_P (dC, dI) classes [(h0, .inr (3, [.ref tp, .ref cd, .int 0, .int 0, .int (-1)])), (tp, .inr (10, o10 gt))] t.heap ∧ va_K (dC, dI) classes [] t ∧ va_D (va_A [(h0, .inr (3, [.ref tp, .ref cd, .int 0, .int 0, .int (-1)])), (tp, .inr (10, o10 gt))] sz) [(h0, .inr (3, [.ref tp, .ref cd, .int 0, .int 0, .int (-1)])), (tp, .inr (10, o10 gt))]) (va_A [(h0, .inr (3, [.ref tp, .ref cd, .int 0, .int 0, .int (-1)])), (tp, .inr (10, o10 gt))] sz)) 0 0 (va_A [(h0, .inr (3, [.ref tp, .ref cd, .int 0, .int 0, .int (-1)])), (tp, .inr (10, o10 gt))] sz) := by
  refine Met.ofW (cc := cX3_next) (maxL := 1) (ret := (some .int)) (by decide) rfl ?_
  intro p e s m args below meth c s₁ B hml hv
  obtain ⟨rfl, hsz, hP, hK, hD0⟩ := hv
  have hx := B.exec
  have hb := B.bytes
  have hr := B.returns
  have hts := atoms_spec (ws := Cond.code yX3_next cX3_next 1 (some .int) :: wA) B.pre
  have hwd : ∀ w ∈ wA, w.before _ s = true := fun w h => hts w (List.mem_cons_of_mem _ h)
  have hown : s.vm.findClass RX3 = some m.cls := findClass_of_methodNamed B.named
  have hlocks := B.notSynchronized
  subst hsz
  have hD := hD0.self (sz := s.heap.size)
  generalize hAe : va_A [(h0, .inr (3, [.ref tp, .ref cd, .int 0, .int 0, .int (-1)])), (tp, .inr (10, o10 gt))] s.heap.size = A at hD ⊢
  have hA : ∀ q : Nat, s.heap.size ≤ q → A q := fun q h => by rw [← hAe]; exact Or.inr h
  have hS : va_S A s.heap s.heap [] := va_S.rf
  have hP : va_P (dC, dI) classes [(h0, .inr (3, [.ref tp, .ref cd, .int 0, .int 0, .int (-1)])), (tp, .inr (10, o10 gt))] s.heap := hP
  have hl := lv_entry ([.ref h0]) (n := 1) (Nat.le_of_ble_eq_true rfl)
  rw [lg_entry_eq]
  generalize (lg_sl ([.ref h0]) ++ List.replicate (1 - (lg_sl ([.ref h0])).length) Slot.unset).toArray = ls at hl ⊢
  have hl : lv_has ls 1 [(0, .ref h0)] := hl
  obtain ⟨H, eH⟩ : ∃ z, z = s.heap := ⟨_, rfl⟩
  have hP : va_P (dC, dI) classes [(h0, .inr (3, [.ref tp, .ref cd, .int 0, .int 0, .int (-1)])), (tp, .inr (10, o10 gt))] H := by rw [eH]; exact hP
  have hS : va_S A s.heap H [] := by rw [eH]; exact va_S.rf
  refine my_heap eH ?_
  refine lv_aload_n hx hb dX3_next_0 rfl (lv_at hl 0 rfl) ?_
  refine va_get (D := (dC, dI)) (ci := 3) (v := .int (-1)) (C := RX3) (T := TX3) (N := 5) hx hb hwd inA_X3 hown hK hP 0 rfl rfl 4 (by decide) (hwd _ wk_104) (fun _ h9 => h9) rfl dX3_next_1 ?_
  refine lv_iconst (v := (-1)) hx hb dX3_next_4 (by decide) ?_
  refine lv_icmp_ne (tgt := 22) hx hb dX3_next_5 (by decide) (fun c_190 => ?_) (fun c_190 => ?_)
  · exact absurd c_190 (by decide)
  · skip
    refine lv_aload_n hx hb dX3_next_8 rfl (lv_at hl 0 rfl) ?_
    refine va_get (D := (dC, dI)) (ci := 3) (v := .ref tp) (C := RX3) (T := TX3) (N := 5) hx hb hwd inA_X3 hown hK hP 0 rfl rfl 0 (by decide) (hwd _ wk_105) (fun _ h9 => h9) rfl dX3_next_9 ?_
    refine lv_aload_n hx hb dX3_next_12 rfl (lv_at hl 0 rfl) ?_
    refine va_get (D := (dC, dI)) (ci := 3) (v := .int 0) (C := RX3) (T := TX3) (N := 5) hx hb hwd inA_X3 hown hK hP 0 rfl rfl 3 (by decide) (hwd _ wk_106) (fun _ h9 => h9) rfl dX3_next_13 ?_
    have hPc := hP.sub (ws' := [(tp, .inr (10, o10 gt))]) [1] rfl
    have hDc := hD.sub (ws' := [(tp, .inr (10, o10 gt))]) [1] (by decide) rfl
    have hKc := hK.sub (tys' := []) [] rfl
    have hFc := va_free (wc := [(tp, .inr (10, o10 gt))]) hD hS hA [1] rfl
    refine va_calli (va_runV (As := [.int 0]) (rest := []) ⟨hx, hb, hml, hown, hwd⟩ (c_X10_at l dC dI tp gt H.size) (cwV 1 hwd (gV wk_107 wk_108 wk_109 wk_110 wk_101) rfl rfl rfl (by decide +kernel) ⟨Nat.le_of_ble_eq_true rfl, Nat.le_of_ble_eq_true rfl⟩) ⟨fun a U g mk q => by obtain ⟨q0, q1, qP, qK, qD⟩ := q; exact ⟨q0, q1, qP, va_K.moved (u := U) (U := U.calling g mk a) (Vm.Alike.refl U.vm) qK, qD⟩, va_recv hKc hPc (ci := 10) (q0 := 0) rfl rfl, fun U hU hW => ⟨rfl, by rw [hU], by rw [hU]; exact hPc, va_K.moved hW.alike hKc, hDc.weaken (fun _ _ _ _ => trivial)⟩⟩ rfl rfl hl.1 rfl (lv_room (Nat.le_of_ble_eq_true rfl)) dX3_next_16 ⟨Nat.le_of_ble_eq_true rfl, Nat.le_of_ble_eq_true rfl⟩) hS (fun q _ h => hFc q h) hFc (fun r_191 u t H1 locs ht hvm hw hB hz1 hk1 hS => ?_)
    obtain ⟨hP1, hK1, hD1⟩ := hB
    rw [ht] at hP1
    obtain ⟨hP, hD⟩ := va_join (wr := [(h0, .inr (3, [.ref tp, .ref cd, .int 0, .int 0, .int (-1)]))]) (w1 := [(tp, .inr (10, o10 gt))]) hP hD [1] [0] rfl rfl (by decide) (by decide) hk1 hFc hP1 hD1
    generalize H1 = H at hP hS ⊢
    have hP : va_P (dC, dI) classes [(h0, .inr (3, [.ref tp, .ref cd, .int 0, .int 0, .int (-1)])), (tp, .inr (10, o10 gt))] H := hP
    have hD : va_D A [(h0, .inr (3, [.ref tp, .ref cd, .int 0, .int 0, .int (-1)])), (tp, .inr (10, o10 gt))] := hD
    try dsimp only at hw
    subst hw
    refine lv_goto (tgt := 23) hx hb dX3_next_19 (by decide) ?_
    have hP9 : va_P (dC, dI) classes [(h0, .inr (3, [.ref tp, .ref cd, .int 0, .int 0, .int (-1)])), (tp, .inr (10, o10 gt))] H := hP.sub [0, 1] rfl
    have hD9 : va_D A [(h0, .inr (3, [.ref tp, .ref cd, .int 0, .int 0, .int (-1)])), (tp, .inr (10, o10 gt))] := hD.sub [0, 1] (by decide) rfl
    have hK9 : va_K (dC, dI) classes [] s := hK.sub [] rfl
    exact W.iret (v := (-1)) hx hb hr (fun t ht hW => ⟨⟨(-1), (), rfl, rfl, by rw [ht]; exact hP9, va_K.moved hW.alike hK9, hD9⟩, hS.F ht⟩) hS.2.2 dX3_next_23
set_option maxHeartbeats 4000000 in
set_option maxRecDepth 100000 in
theorem c_X3_next_b (l : Launch) (dC : Nat → ClassId) (dI : Nat → Nat → Nat) (h0 : Nat) (tp : Nat) (cd : Nat) (gt : Nat → Nat) (sz : Nat) : Met l yX3_next (Cond.code yX3_next cX3_next 1 (some .int) :: wA) ({ frames := 1, cells := 0, slots := 0, locals := 40 }) (va_Pc [.ref h0] (fun U => U.heap.size = sz ∧ va_P (dC, dI) classes [(h0, .inr (3, [.ref tp, .ref cd, .int 0, .int 0, .int 0])), (tp, .inr (10, o10 gt))] U.heap ∧ va_K (dC, dI) classes [] U ∧ va_D (fun _ => True) [(h0, .inr (3, [.ref tp, .ref cd, .int 0, .int 0, .int 0])), (tp, .inr (10, o10 gt))])) (va_Qi (fun (r : Int32) (_ : Unit) => r = (-1)) (fun (_ : Unit) (t : State) => va_P (dC, dI) classes [(h0, .inr (3, [.ref tp, .ref cd, .int 0, .int 0, .int 0])), (tp, .inr (10, o10 gt))] t.heap ∧ va_K (dC, dI) classes [] t ∧ va_D (va_A [(h0, .inr (3, [.ref tp, .ref cd, .int 0, .int 0, .int 0])), (tp, .inr (10, o10 gt))] sz) [(h0, .inr (3, [.ref tp, .ref cd, .int 0, .int 0, .int 0])), (tp, .inr (10, o10 gt))]) (va_A [(h0, .inr (3, [.ref tp, .ref cd, .int 0, .int 0, .int 0])), (tp, .inr (10, o10 gt))] sz)) 0 0 (va_A [(h0, .inr (3, [.ref tp, .ref cd, .int 0, .int 0, .int 0])), (tp, .inr (10, o10 gt))] sz) := by
  refine Met.ofW (cc := cX3_next) (maxL := 1) (ret := (some .int)) (by decide) rfl ?_
  intro p e s m args below meth c s₁ B hml hv
  obtain ⟨rfl, hsz, hP, hK, hD0⟩ := hv
  have hx := B.exec
  have hb := B.bytes
  have hr := B.returns
  have hts := atoms_spec (ws := Cond.code yX3_next cX3_next 1 (some .int) :: wA) B.pre
  have hwd : ∀ w ∈ wA, w.before _ s = true := fun w h => hts w (List.mem_cons_of_mem _ h)
  have hown : s.vm.findClass RX3 = some m.cls := findClass_of_methodNamed B.named
  have hlocks := B.notSynchronized
  subst hsz
  have hD := hD0.self (sz := s.heap.size)
  generalize hAe : va_A [(h0, .inr (3, [.ref tp, .ref cd, .int 0, .int 0, .int 0])), (tp, .inr (10, o10 gt))] s.heap.size = A at hD ⊢
  have hA : ∀ q : Nat, s.heap.size ≤ q → A q := fun q h => by rw [← hAe]; exact Or.inr h
  have hS : va_S A s.heap s.heap [] := va_S.rf
  have hP : va_P (dC, dI) classes [(h0, .inr (3, [.ref tp, .ref cd, .int 0, .int 0, .int 0])), (tp, .inr (10, o10 gt))] s.heap := hP
  have hl := lv_entry ([.ref h0]) (n := 1) (Nat.le_of_ble_eq_true rfl)
  rw [lg_entry_eq]
  generalize (lg_sl ([.ref h0]) ++ List.replicate (1 - (lg_sl ([.ref h0])).length) Slot.unset).toArray = ls at hl ⊢
  have hl : lv_has ls 1 [(0, .ref h0)] := hl
  obtain ⟨H, eH⟩ : ∃ z, z = s.heap := ⟨_, rfl⟩
  have hP : va_P (dC, dI) classes [(h0, .inr (3, [.ref tp, .ref cd, .int 0, .int 0, .int 0])), (tp, .inr (10, o10 gt))] H := by rw [eH]; exact hP
  have hS : va_S A s.heap H [] := by rw [eH]; exact va_S.rf
  refine my_heap eH ?_
  refine lv_aload_n hx hb dX3_next_0 rfl (lv_at hl 0 rfl) ?_
  refine va_get (D := (dC, dI)) (ci := 3) (v := .int 0) (C := RX3) (T := TX3) (N := 5) hx hb hwd inA_X3 hown hK hP 0 rfl rfl 4 (by decide) (hwd _ wk_104) (fun _ h9 => h9) rfl dX3_next_1 ?_
  refine lv_iconst (v := (-1)) hx hb dX3_next_4 (by decide) ?_
  refine lv_icmp_ne (tgt := 22) hx hb dX3_next_5 (by decide) (fun c_192 => ?_) (fun c_192 => ?_)
  · skip
    refine lv_iconst (v := (-1)) hx hb dX3_next_22 (by decide) ?_
    have hP9 : va_P (dC, dI) classes [(h0, .inr (3, [.ref tp, .ref cd, .int 0, .int 0, .int 0])), (tp, .inr (10, o10 gt))] H := hP.sub [0, 1] rfl
    have hD9 : va_D A [(h0, .inr (3, [.ref tp, .ref cd, .int 0, .int 0, .int 0])), (tp, .inr (10, o10 gt))] := hD.sub [0, 1] (by decide) rfl
    have hK9 : va_K (dC, dI) classes [] s := hK.sub [] rfl
    exact W.iret (v := (-1)) hx hb hr (fun t ht hW => ⟨⟨(-1), (), rfl, rfl, by rw [ht]; exact hP9, va_K.moved hW.alike hK9, hD9⟩, hS.F ht⟩) hS.2.2 dX3_next_23
  · exact absurd c_192 (by decide)
set_option maxHeartbeats 4000000 in
set_option maxRecDepth 100000 in
theorem c_X3_fail (l : Launch) (dC : Nat → ClassId) (dI : Nat → Nat → Nat) (h0 : Nat) (tp : Nat) (cd : Nat) (gt : Nat → Nat) (sz : Nat) : Met l yX3_fail (Cond.code yX3_fail cX3_fail 1 none :: wA) ({ frames := 1, cells := 0, slots := 0, locals := 40 }) (va_Pc [.ref h0] (fun U => U.heap.size = sz ∧ va_P (dC, dI) classes [(h0, .inr (3, [.ref tp, .ref cd, .int 0, .int 0, .int (-1)])), (tp, .inr (10, o10 gt))] U.heap ∧ va_K (dC, dI) classes [] U ∧ va_D (fun _ => True) [(h0, .inr (3, [.ref tp, .ref cd, .int 0, .int 0, .int (-1)])), (tp, .inr (10, o10 gt))])) (va_Qv (fun _ : Unit => True) (fun (_ : Unit) (t : State) => va_P (dC, dI) classes [(h0, .inr (3, [.ref tp, .ref cd, .int 0, .int 0, .int 0])), (tp, .inr (10, o10 gt))] t.heap ∧ va_K (dC, dI) classes [] t ∧ va_D (va_A [(h0, .inr (3, [.ref tp, .ref cd, .int 0, .int 0, .int (-1)])), (tp, .inr (10, o10 gt))] sz) [(h0, .inr (3, [.ref tp, .ref cd, .int 0, .int 0, .int 0])), (tp, .inr (10, o10 gt))]) (va_A [(h0, .inr (3, [.ref tp, .ref cd, .int 0, .int 0, .int (-1)])), (tp, .inr (10, o10 gt))] sz)) 0 0 (va_A [(h0, .inr (3, [.ref tp, .ref cd, .int 0, .int 0, .int (-1)])), (tp, .inr (10, o10 gt))] sz) := by
  refine Met.ofW (cc := cX3_fail) (maxL := 1) (ret := none) (by decide) rfl ?_
  intro p e s m args below meth c s₁ B hml hv
  obtain ⟨rfl, hsz, hP, hK, hD0⟩ := hv
  have hx := B.exec
  have hb := B.bytes
  have hr := B.returns
  have hts := atoms_spec (ws := Cond.code yX3_fail cX3_fail 1 none :: wA) B.pre
  have hwd : ∀ w ∈ wA, w.before _ s = true := fun w h => hts w (List.mem_cons_of_mem _ h)
  have hown : s.vm.findClass RX3 = some m.cls := findClass_of_methodNamed B.named
  have hlocks := B.notSynchronized
  subst hsz
  have hD := hD0.self (sz := s.heap.size)
  generalize hAe : va_A [(h0, .inr (3, [.ref tp, .ref cd, .int 0, .int 0, .int (-1)])), (tp, .inr (10, o10 gt))] s.heap.size = A at hD ⊢
  have hA : ∀ q : Nat, s.heap.size ≤ q → A q := fun q h => by rw [← hAe]; exact Or.inr h
  have hS : va_S A s.heap s.heap [] := va_S.rf
  have hP : va_P (dC, dI) classes [(h0, .inr (3, [.ref tp, .ref cd, .int 0, .int 0, .int (-1)])), (tp, .inr (10, o10 gt))] s.heap := hP
  have hl := lv_entry ([.ref h0]) (n := 1) (Nat.le_of_ble_eq_true rfl)
  rw [lg_entry_eq]
  generalize (lg_sl ([.ref h0]) ++ List.replicate (1 - (lg_sl ([.ref h0])).length) Slot.unset).toArray = ls at hl ⊢
  have hl : lv_has ls 1 [(0, .ref h0)] := hl
  obtain ⟨H, eH⟩ : ∃ z, z = s.heap := ⟨_, rfl⟩
  have hP : va_P (dC, dI) classes [(h0, .inr (3, [.ref tp, .ref cd, .int 0, .int 0, .int (-1)])), (tp, .inr (10, o10 gt))] H := by rw [eH]; exact hP
  have hS : va_S A s.heap H [] := by rw [eH]; exact va_S.rf
  refine my_heap eH ?_
  refine lv_aload_n hx hb dX3_fail_0 rfl (lv_at hl 0 rfl) ?_
  refine va_get (D := (dC, dI)) (ci := 3) (v := .int (-1)) (C := RX3) (T := TX3) (N := 5) hx hb hwd inA_X3 hown hK hP 0 rfl rfl 4 (by decide) (hwd _ wk_104) (fun _ h9 => h9) rfl dX3_fail_1 ?_
  refine lv_iconst (v := (-1)) hx hb dX3_fail_4 (by decide) ?_
  refine lv_icmp_ne (tgt := 16) hx hb dX3_fail_5 (by decide) (fun c_193 => ?_) (fun c_193 => ?_)
  · exact absurd c_193 (by decide)
  · skip
    refine lv_aload_n hx hb dX3_fail_8 rfl (lv_at hl 0 rfl) ?_
    refine lv_aload_n hx hb dX3_fail_9 rfl (lv_at hl 0 rfl) ?_
    refine va_get (D := (dC, dI)) (ci := 3) (v := .int 0) (C := RX3) (T := TX3) (N := 5) hx hb hwd inA_X3 hown hK hP 0 rfl rfl 3 (by decide) (hwd _ wk_106) (fun _ h9 => h9) rfl dX3_fail_10 ?_
    refine va_put (D := (dC, dI)) (ci := 3) (v := .int 0) (ty := .int) (C := RX3) (T := TX3) (N := 5) hx hb hwd inA_X3 tyX3 tyX3_ok nmX3 hown hK hP hD hS 0 rfl rfl 4 (by decide) (hwd _ wk_104) (fun _ h9 => h9) rfl (by decide +kernel) rfl rfl (Nat.le_of_ble_eq_true rfl) dX3_fail_13 (fun H locs hP hD hS => ?_)
    have hP : va_P (dC, dI) classes [(h0, .inr (3, [.ref tp, .ref cd, .int 0, .int 0, .int 0])), (tp, .inr (10, o10 gt))] H := hP
    have hD : va_D A [(h0, .inr (3, [.ref tp, .ref cd, .int 0, .int 0, .int 0])), (tp, .inr (10, o10 gt))] := hD
    have hP9 : va_P (dC, dI) classes [(h0, .inr (3, [.ref tp, .ref cd, .int 0, .int 0, .int 0])), (tp, .inr (10, o10 gt))] H := hP.sub [0, 1] rfl
    have hD9 : va_D A [(h0, .inr (3, [.ref tp, .ref cd, .int 0, .int 0, .int 0])), (tp, .inr (10, o10 gt))] := hD.sub [0, 1] (by decide) rfl
    have hK9 : va_K (dC, dI) classes [] s := hK.sub [] rfl
    exact W.vret hx hb hr (fun t ht hW => ⟨⟨(), rfl, trivial, by rw [ht]; exact hP9, va_K.moved hW.alike hK9, hD9⟩, hS.F ht⟩) hS.2.2 dX3_fail_16
set_option maxHeartbeats 4000000 in
set_option maxRecDepth 100000 in
theorem c_X3_readNumberOrName (l : Launch) (dC : Nat → ClassId) (dI : Nat → Nat → Nat) (h0 : Nat) (tp : Nat) (cd : Nat) (gt : Nat → Nat) (sz : Nat) : Met l yX3_readNumberOrName (Cond.code yX3_readNumberOrName cX3_readNumberOrName 4 none :: wA) ({ frames := 2, cells := 0, slots := 0, locals := 80 }) (va_Pc [.ref h0, .int (-1)] (fun U => U.heap.size = sz ∧ va_P (dC, dI) classes [(h0, .inr (3, [.ref tp, .ref cd, .int 0, .int 0, .int (-1)])), (tp, .inr (10, o10 gt))] U.heap ∧ va_K (dC, dI) classes [] U ∧ va_D (fun _ => True) [(h0, .inr (3, [.ref tp, .ref cd, .int 0, .int 0, .int (-1)])), (tp, .inr (10, o10 gt))])) (va_Qv (fun _ : Unit => True) (fun (_ : Unit) (t : State) => va_P (dC, dI) classes [(h0, .inr (3, [.ref tp, .ref cd, .int 0, .int 0, .int 0])), (tp, .inr (10, o10 gt))] t.heap ∧ va_K (dC, dI) classes [] t ∧ va_D (va_A [(h0, .inr (3, [.ref tp, .ref cd, .int 0, .int 0, .int (-1)])), (tp, .inr (10, o10 gt))] sz) [(h0, .inr (3, [.ref tp, .ref cd, .int 0, .int 0, .int 0])), (tp, .inr (10, o10 gt))]) (va_A [(h0, .inr (3, [.ref tp, .ref cd, .int 0, .int 0, .int (-1)])), (tp, .inr (10, o10 gt))] sz)) 0 0 (va_A [(h0, .inr (3, [.ref tp, .ref cd, .int 0, .int 0, .int (-1)])), (tp, .inr (10, o10 gt))] sz) := by
  refine Met.ofW (cc := cX3_readNumberOrName) (maxL := 4) (ret := none) (by decide) rfl ?_
  intro p e s m args below meth c s₁ B hml hv
  obtain ⟨rfl, hsz, hP, hK, hD0⟩ := hv
  have hx := B.exec
  have hb := B.bytes
  have hr := B.returns
  have hts := atoms_spec (ws := Cond.code yX3_readNumberOrName cX3_readNumberOrName 4 none :: wA) B.pre
  have hwd : ∀ w ∈ wA, w.before _ s = true := fun w h => hts w (List.mem_cons_of_mem _ h)
  have hown : s.vm.findClass RX3 = some m.cls := findClass_of_methodNamed B.named
  have hlocks := B.notSynchronized
  subst hsz
  have hD := hD0.self (sz := s.heap.size)
  generalize hAe : va_A [(h0, .inr (3, [.ref tp, .ref cd, .int 0, .int 0, .int (-1)])), (tp, .inr (10, o10 gt))] s.heap.size = A at hD ⊢
  have hA : ∀ q : Nat, s.heap.size ≤ q → A q := fun q h => by rw [← hAe]; exact Or.inr h
  have hS : va_S A s.heap s.heap [] := va_S.rf
  have hP : va_P (dC, dI) classes [(h0, .inr (3, [.ref tp, .ref cd, .int 0, .int 0, .int (-1)])), (tp, .inr (10, o10 gt))] s.heap := hP
  have hl := lv_entry ([.ref h0, .int (-1)]) (n := 4) (Nat.le_of_ble_eq_true rfl)
  rw [lg_entry_eq]
  generalize (lg_sl ([.ref h0, .int (-1)]) ++ List.replicate (4 - (lg_sl ([.ref h0, .int (-1)])).length) Slot.unset).toArray = ls at hl ⊢
  have hl : lv_has ls 4 [(0, .ref h0), (1, .int (-1))] := hl
  obtain ⟨H, eH⟩ : ∃ z, z = s.heap := ⟨_, rfl⟩
  have hP : va_P (dC, dI) classes [(h0, .inr (3, [.ref tp, .ref cd, .int 0, .int 0, .int (-1)])), (tp, .inr (10, o10 gt))] H := by rw [eH]; exact hP
  have hS : va_S A s.heap H [] := by rw [eH]; exact va_S.rf
  refine my_heap eH ?_
  refine lv_iload_n hx hb dX3_readNumberOrName_0 rfl (lv_at hl 1 rfl) ?_
  refine lv_iconst (v := (-1)) hx hb dX3_readNumberOrName_1 (by decide) ?_
  refine lv_icmp_ne (tgt := 9) hx hb dX3_readNumberOrName_2 (by decide) (fun c_194 => ?_) (fun c_194 => ?_)
  · exact absurd c_194 (by decide)
  · skip
    refine lv_iconst (v := (-1)) hx hb dX3_readNumberOrName_5 (by decide) ?_
    refine lv_goto (tgt := 16) hx hb dX3_readNumberOrName_6 (by decide) ?_
    refine lv_istore_n (lv' := [(2, .int (-1)), (0, .ref h0), (1, .int (-1))]) hx hb dX3_readNumberOrName_16 rfl hl (by decide) rfl (fun ls hl => ?_)
    refine lv_iload_n hx hb dX3_readNumberOrName_17 rfl (lv_at hl 2 rfl) ?_
    refine lv_iconst (v := (-1)) hx hb dX3_readNumberOrName_18 (by decide) ?_
    refine lv_icmp_ne (tgt := 26) hx hb dX3_readNumberOrName_19 (by decide) (fun c_195 => ?_) (fun c_195 => ?_)
    · exact absurd c_195 (by decide)
    · skip
      refine lv_iconst (v := 0) hx hb dX3_readNumberOrName_22 (by decide) ?_
      refine lv_goto (tgt := 37) hx hb dX3_readNumberOrName_23 (by decide) ?_
      refine lv_istore_n (lv' := [(3, .int 0), (2, .int (-1)), (0, .ref h0), (1, .int (-1))]) hx hb dX3_readNumberOrName_37 rfl hl (by decide) rfl (fun ls hl => ?_)
      refine lv_iload_n hx hb dX3_readNumberOrName_38 rfl (lv_at hl 1 rfl) ?_
      refine lv_if_lt (tgt := 62) hx hb dX3_readNumberOrName_39 (by decide) (fun c_196 => ?_) (fun c_196 => ?_)
      · skip
        refine lv_iload_n hx hb dX3_readNumberOrName_62 rfl (lv_at hl 0 rfl) ?_
        refine lv_if_le (tgt := 97) hx hb dX3_readNumberOrName_63 (by decide) (fun c_197 => ?_) (fun c_197 => ?_)
        · skip
          refine lv_aload_n hx hb dX3_readNumberOrName_97 rfl (lv_at hl 2 rfl) ?_
          have hPc := hP.sub (ws' := [(h0, .inr (3, [.ref tp, .ref cd, .int 0, .int 0, .int (-1)])), (tp, .inr (10, o10 gt))]) [0, 1] rfl
          have hDc := hD.sub (ws' := [(h0, .inr (3, [.ref tp, .ref cd, .int 0, .int 0, .int (-1)])), (tp, .inr (10, o10 gt))]) [0, 1] (by decide) rfl
          have hKc := hK.sub (tys' := []) [] rfl
          have hFc := va_free (wc := [(h0, .inr (3, [.ref tp, .ref cd, .int 0, .int 0, .int (-1)])), (tp, .inr (10, o10 gt))]) hD hS hA [0, 1] rfl
          refine va_callv (va_runV (As := []) (rest := []) ⟨hx, hb, hml, hown, hwd⟩ (c_X3_fail l dC dI h0 tp cd gt H.size) (cwV 0 hwd (gV wk_111 wk_112 wk_113 wk_114 wk_115) rfl rfl rfl (by decide +kernel) ⟨Nat.le_of_ble_eq_true rfl, Nat.le_of_ble_eq_true rfl⟩) ⟨fun a U g mk q => by obtain ⟨q0, q1, qP, qK, qD⟩ := q; exact ⟨q0, q1, qP, va_K.moved (u := U) (U := U.calling g mk a) (Vm.Alike.refl U.vm) qK, qD⟩, va_recv hKc hPc (ci := 3) (q0 := 0) rfl rfl, fun U hU hW => ⟨rfl, by rw [hU], by rw [hU]; exact hPc, va_K.moved hW.alike hKc, hDc.weaken (fun _ _ _ _ => trivial)⟩⟩ rfl rfl hl.1 rfl (lv_room (Nat.le_of_ble_eq_true rfl)) dX3_readNumberOrName_98 ⟨Nat.le_of_ble_eq_true rfl, Nat.le_of_ble_eq_true rfl⟩) hS (fun q _ h => hFc q h) hFc (fun u t H1 locs ht hvm hw hB hz1 hk1 hS => ?_)
          obtain ⟨hP1, hK1, hD1⟩ := hB
          rw [ht] at hP1
          obtain ⟨hP, hD⟩ := va_join (wr := []) (w1 := [(h0, .inr (3, [.ref tp, .ref cd, .int 0, .int 0, .int 0])), (tp, .inr (10, o10 gt))]) hP hD [0, 1] [] rfl rfl (by decide) (by decide) hk1 hFc hP1 hD1
          generalize H1 = H at hP hS ⊢
          have hP : va_P (dC, dI) classes [(h0, .inr (3, [.ref tp, .ref cd, .int 0, .int 0, .int 0])), (tp, .inr (10, o10 gt))] H := hP
          have hD : va_D A [(h0, .inr (3, [.ref tp, .ref cd, .int 0, .int 0, .int 0])), (tp, .inr (10, o10 gt))] := hD
          have hP9 : va_P (dC, dI) classes [(h0, .inr (3, [.ref tp, .ref cd, .int 0, .int 0, .int 0])), (tp, .inr (10, o10 gt))] H := hP.sub [0, 1] rfl
          have hD9 : va_D A [(h0, .inr (3, [.ref tp, .ref cd, .int 0, .int 0, .int 0])), (tp, .inr (10, o10 gt))] := hD.sub [0, 1] (by decide) rfl
          have hK9 : va_K (dC, dI) classes [] s := hK.sub [] rfl
          exact W.vret hx hb hr (fun t ht hW => ⟨⟨(), rfl, trivial, by rw [ht]; exact hP9, va_K.moved hW.alike hK9, hD9⟩, hS.F ht⟩) hS.2.2 dX3_readNumberOrName_101
        · exact absurd c_197 (by decide)
      · exact absurd c_196 (by decide)
set_option maxHeartbeats 4000000 in
set_option maxRecDepth 100000 in
theorem c_X3_readOperand (l : Launch) (dC : Nat → ClassId) (dI : Nat → Nat → Nat) (h0 : Nat) (tp : Nat) (cd : Nat) (gt : Nat → Nat) (sz : Nat) : Met l yX3_readOperand (Cond.code yX3_readOperand cX3_readOperand 3 none :: wA) ({ frames := 3, cells := 0, slots := 0, locals := 120 }) (va_Pc [.ref h0, .int 0] (fun U => U.heap.size = sz ∧ va_P (dC, dI) classes [(h0, .inr (3, [.ref tp, .ref cd, .int 0, .int 0, .int (-1)])), (tp, .inr (10, o10 gt))] U.heap ∧ va_K (dC, dI) classes [] U ∧ va_D (fun _ => True) [(h0, .inr (3, [.ref tp, .ref cd, .int 0, .int 0, .int (-1)])), (tp, .inr (10, o10 gt))])) (va_Qv (fun _ : Unit => True) (fun (_ : Unit) (t : State) => va_P (dC, dI) classes [(h0, .inr (3, [.ref tp, .ref cd, .int 0, .int 0, .int 0])), (tp, .inr (10, o10 gt))] t.heap ∧ va_K (dC, dI) classes [] t ∧ va_D (va_A [(h0, .inr (3, [.ref tp, .ref cd, .int 0, .int 0, .int (-1)])), (tp, .inr (10, o10 gt))] sz) [(h0, .inr (3, [.ref tp, .ref cd, .int 0, .int 0, .int 0])), (tp, .inr (10, o10 gt))]) (va_A [(h0, .inr (3, [.ref tp, .ref cd, .int 0, .int 0, .int (-1)])), (tp, .inr (10, o10 gt))] sz)) 0 0 (va_A [(h0, .inr (3, [.ref tp, .ref cd, .int 0, .int 0, .int (-1)])), (tp, .inr (10, o10 gt))] sz) := by
  refine Met.ofW (cc := cX3_readOperand) (maxL := 3) (ret := none) (by decide) rfl ?_
  intro p e s m args below meth c s₁ B hml hv
  obtain ⟨rfl, hsz, hP, hK, hD0⟩ := hv
  have hx := B.exec
  have hb := B.bytes
  have hr := B.returns
  have hts := atoms_spec (ws := Cond.code yX3_readOperand cX3_readOperand 3 none :: wA) B.pre
  have hwd : ∀ w ∈ wA, w.before _ s = true := fun w h => hts w (List.mem_cons_of_mem _ h)
  have hown : s.vm.findClass RX3 = some m.cls := findClass_of_methodNamed B.named
  have hlocks := B.notSynchronized
  subst hsz
  have hD := hD0.self (sz := s.heap.size)
  generalize hAe : va_A [(h0, .inr (3, [.ref tp, .ref cd, .int 0, .int 0, .int (-1)])), (tp, .inr (10, o10 gt))] s.heap.size = A at hD ⊢
  have hA : ∀ q : Nat, s.heap.size ≤ q → A q := fun q h => by rw [← hAe]; exact Or.inr h
  have hS : va_S A s.heap s.heap [] := va_S.rf
  have hP : va_P (dC, dI) classes [(h0, .inr (3, [.ref tp, .ref cd, .int 0, .int 0, .int (-1)])), (tp, .inr (10, o10 gt))] s.heap := hP
  have hl := lv_entry ([.ref h0, .int 0]) (n := 3) (Nat.le_of_ble_eq_true rfl)
  rw [lg_entry_eq]
  generalize (lg_sl ([.ref h0, .int 0]) ++ List.replicate (3 - (lg_sl ([.ref h0, .int 0])).length) Slot.unset).toArray = ls at hl ⊢
  have hl : lv_has ls 3 [(0, .ref h0), (1, .int 0)] := hl
  obtain ⟨H, eH⟩ : ∃ z, z = s.heap := ⟨_, rfl⟩
  have hP : va_P (dC, dI) classes [(h0, .inr (3, [.ref tp, .ref cd, .int 0, .int 0, .int (-1)])), (tp, .inr (10, o10 gt))] H := by rw [eH]; exact hP
  have hS : va_S A s.heap H [] := by rw [eH]; exact va_S.rf
  refine my_heap eH ?_
  refine lv_aload_n hx hb dX3_readOperand_0 rfl (lv_at hl 0 rfl) ?_
  have hPc := hP.sub (ws' := [(h0, .inr (3, [.ref tp, .ref cd, .int 0, .int 0, .int (-1)])), (tp, .inr (10, o10 gt))]) [0, 1] rfl
  have hDc := hD.sub (ws' := [(h0, .inr (3, [.ref tp, .ref cd, .int 0, .int 0, .int (-1)])), (tp, .inr (10, o10 gt))]) [0, 1] (by decide) rfl
  have hKc := hK.sub (tys' := []) [] rfl
  have hFc := va_free (wc := [(h0, .inr (3, [.ref tp, .ref cd, .int 0, .int 0, .int (-1)])), (tp, .inr (10, o10 gt))]) hD hS hA [0, 1] rfl
  refine va_calli (va_runV (As := []) (rest := []) ⟨hx, hb, hml, hown, hwd⟩ (c_X3_next_a l dC dI h0 tp cd gt H.size) (cwV 0 hwd (gV wk_116 wk_117 wk_118 wk_119 wk_115) rfl rfl rfl (by decide +kernel) ⟨Nat.le_of_ble_eq_true rfl, Nat.le_of_ble_eq_true rfl⟩) ⟨fun a U g mk q => by obtain ⟨q0, q1, qP, qK, qD⟩ := q; exact ⟨q0, q1, qP, va_K.moved (u := U) (U := U.calling g mk a) (Vm.Alike.refl U.vm) qK, qD⟩, va_recv hKc hPc (ci := 3) (q0 := 0) rfl rfl, fun U hU hW => ⟨rfl, by rw [hU], by rw [hU]; exact hPc, va_K.moved hW.alike hKc, hDc.weaken (fun _ _ _ _ => trivial)⟩⟩ rfl rfl hl.1 rfl (lv_room (Nat.le_of_ble_eq_true rfl)) dX3_readOperand_1 ⟨Nat.le_of_ble_eq_true rfl, Nat.le_of_ble_eq_true rfl⟩) hS (fun q _ h => hFc q h) hFc (fun r_199 u t H1 locs ht hvm hw hB hz1 hk1 hS => ?_)
  obtain ⟨hP1, hK1, hD1⟩ := hB
  rw [ht] at hP1
  obtain ⟨hP, hD⟩ := va_join (wr := []) (w1 := [(h0, .inr (3, [.ref tp, .ref cd, .int 0, .int 0, .int (-1)])), (tp, .inr (10, o10 gt))]) hP hD [0, 1] [] rfl rfl (by decide) (by decide) hk1 hFc hP1 hD1
  generalize H1 = H at hP hS ⊢
  have hP : va_P (dC, dI) classes [(h0, .inr (3, [.ref tp, .ref cd, .int 0, .int 0, .int (-1)])), (tp, .inr (10, o10 gt))] H := hP
  have hD : va_D A [(h0, .inr (3, [.ref tp, .ref cd, .int 0, .int 0, .int (-1)])), (tp, .inr (10, o10 gt))] := hD
  try dsimp only at hw
  subst hw
  refine lv_istore_n (lv' := [(2, .int (-1)), (0, .ref h0), (1, .int 0)]) hx hb dX3_readOperand_4 rfl hl (by decide) rfl (fun ls hl => ?_)
  refine lv_iload_n hx hb dX3_readOperand_5 rfl (lv_at hl 0 rfl) ?_
  refine lv_bipush (v := 45) hx hb dX3_readOperand_6 (by decide) ?_
  refine lv_icmp_ne (tgt := 36) hx hb dX3_readOperand_8 (by decide) (fun c_200 => ?_) (fun c_200 => ?_)
  · skip
    refine lv_iload_n hx hb dX3_readOperand_36 rfl (lv_at hl 0 rfl) ?_
    refine lv_bipush (v := 40) hx hb dX3_readOperand_37 (by decide) ?_
    refine lv_icmp_ne (tgt := 66) hx hb dX3_readOperand_39 (by decide) (fun c_201 => ?_) (fun c_201 => ?_)
    · skip
      refine lv_aload_n hx hb dX3_readOperand_66 rfl (lv_at hl 1 rfl) ?_
      refine lv_iload_n hx hb dX3_readOperand_67 rfl (lv_at hl 0 rfl) ?_
      have hPc := hP.sub (ws' := [(h0, .inr (3, [.ref tp, .ref cd, .int 0, .int 0, .int (-1)])), (tp, .inr (10, o10 gt))]) [0, 1] rfl
      have hDc := hD.sub (ws' := [(h0, .inr (3, [.ref tp, .ref cd, .int 0, .int 0, .int (-1)])), (tp, .inr (10, o10 gt))]) [0, 1] (by decide) rfl
      have hKc := hK.sub (tys' := []) [] rfl
      have hFc := va_free (wc := [(h0, .inr (3, [.ref tp, .ref cd, .int 0, .int 0, .int (-1)])), (tp, .inr (10, o10 gt))]) hD hS hA [0, 1] rfl
      refine va_callv (va_runV (As := [.int (-1)]) (rest := []) ⟨hx, hb, hml, hown, hwd⟩ (c_X3_readNumberOrName l dC dI h0 tp cd gt H.size) (cwV 1 hwd (gV wk_120 wk_121 wk_122 wk_123 wk_115) rfl rfl rfl (by decide +kernel) ⟨Nat.le_of_ble_eq_true rfl, Nat.le_of_ble_eq_true rfl⟩) ⟨fun a U g mk q => by obtain ⟨q0, q1, qP, qK, qD⟩ := q; exact ⟨q0, q1, qP, va_K.moved (u := U) (U := U.calling g mk a) (Vm.Alike.refl U.vm) qK, qD⟩, va_recv hKc hPc (ci := 3) (q0 := 0) rfl rfl, fun U hU hW => ⟨rfl, by rw [hU], by rw [hU]; exact hPc, va_K.moved hW.alike hKc, hDc.weaken (fun _ _ _ _ => trivial)⟩⟩ rfl rfl hl.1 rfl (lv_room (Nat.le_of_ble_eq_true rfl)) dX3_readOperand_68 ⟨Nat.le_of_ble_eq_true rfl, Nat.le_of_ble_eq_true rfl⟩) hS (fun q _ h => hFc q h) hFc (fun u t H1 locs ht hvm hw hB hz1 hk1 hS => ?_)
      obtain ⟨hP1, hK1, hD1⟩ := hB
      rw [ht] at hP1
      obtain ⟨hP, hD⟩ := va_join (wr := []) (w1 := [(h0, .inr (3, [.ref tp, .ref cd, .int 0, .int 0, .int 0])), (tp, .inr (10, o10 gt))]) hP hD [0, 1] [] rfl rfl (by decide) (by decide) hk1 hFc hP1 hD1
      generalize H1 = H at hP hS ⊢
      have hP : va_P (dC, dI) classes [(h0, .inr (3, [.ref tp, .ref cd, .int 0, .int 0, .int 0])), (tp, .inr (10, o10 gt))] H := hP
      have hD : va_D A [(h0, .inr (3, [.ref tp, .ref cd, .int 0, .int 0, .int 0])), (tp, .inr (10, o10 gt))] := hD
      have hP9 : va_P (dC, dI) classes [(h0, .inr (3, [.ref tp, .ref cd, .int 0, .int 0, .int 0])), (tp, .inr (10, o10 gt))] H := hP.sub [0, 1] rfl
      have hD9 : va_D A [(h0, .inr (3, [.ref tp, .ref cd, .int 0, .int 0, .int 0])), (tp, .inr (10, o10 gt))] := hD.sub [0, 1] (by decide) rfl
      have hK9 : va_K (dC, dI) classes [] s := hK.sub [] rfl
      exact W.vret hx hb hr (fun t ht hW => ⟨⟨(), rfl, trivial, by rw [ht]; exact hP9, va_K.moved hW.alike hK9, hD9⟩, hS.F ht⟩) hS.2.2 dX3_readOperand_71
    · exact absurd c_201 (by decide)
  · exact absurd c_200 (by decide)
set_option maxHeartbeats 4000000 in
set_option maxRecDepth 100000 in
theorem c_X3_readProduct (l : Launch) (dC : Nat → ClassId) (dI : Nat → Nat → Nat) (h0 : Nat) (tp : Nat) (cd : Nat) (gt : Nat → Nat) (sz : Nat) : Met l yX3_readProduct (Cond.code yX3_readProduct cX3_readProduct 4 none :: wA) ({ frames := 4, cells := 0, slots := 0, locals := 160 }) (va_Pc [.ref h0, .int 0] (fun U => U.heap.size = sz ∧ va_P (dC, dI) classes [(h0, .inr (3, [.ref tp, .ref cd, .int 0, .int 0, .int (-1)])), (tp, .inr (10, o10 gt))] U.heap ∧ va_K (dC, dI) classes [] U ∧ va_D (fun _ => True) [(h0, .inr (3, [.ref tp, .ref cd, .int 0, .int 0, .int (-1)])), (tp, .inr (10, o10 gt))])) (va_Qv (fun _ : Unit => True) (fun (_ : Unit) (t : State) => va_P (dC, dI) classes [(h0, .inr (3, [.ref tp, .ref cd, .int 0, .int 0, .int 0])), (tp, .inr (10, o10 gt))] t.heap ∧ va_K (dC, dI) classes [] t ∧ va_D (va_A [(h0, .inr (3, [.ref tp, .ref cd, .int 0, .int 0, .int (-1)])), (tp, .inr (10, o10 gt))] sz) [(h0, .inr (3, [.ref tp, .ref cd, .int 0, .int 0, .int 0])), (tp, .inr (10, o10 gt))]) (va_A [(h0, .inr (3, [.ref tp, .ref cd, .int 0, .int 0, .int (-1)])), (tp, .inr (10, o10 gt))] sz)) 0 0 (va_A [(h0, .inr (3, [.ref tp, .ref cd, .int 0, .int 0, .int (-1)])), (tp, .inr (10, o10 gt))] sz) := by
  refine Met.ofW (cc := cX3_readProduct) (maxL := 4) (ret := none) (by decide) rfl ?_
  intro p e s m args below meth c s₁ B hml hv
  obtain ⟨rfl, hsz, hP, hK, hD0⟩ := hv
  have hx := B.exec
  have hb := B.bytes
  have hr := B.returns
  have hts := atoms_spec (ws := Cond.code yX3_readProduct cX3_readProduct 4 none :: wA) B.pre
  have hwd : ∀ w ∈ wA, w.before _ s = true := fun w h => hts w (List.mem_cons_of_mem _ h)
  have hown : s.vm.findClass RX3 = some m.cls := findClass_of_methodNamed B.named
  have hlocks := B.notSynchronized
  subst hsz
  have hD := hD0.self (sz := s.heap.size)
  generalize hAe : va_A [(h0, .inr (3, [.ref tp, .ref cd, .int 0, .int 0, .int (-1)])), (tp, .inr (10, o10 gt))] s.heap.size = A at hD ⊢
  have hA : ∀ q : Nat, s.heap.size ≤ q → A q := fun q h => by rw [← hAe]; exact Or.inr h
  have hS : va_S A s.heap s.heap [] := va_S.rf
  have hP : va_P (dC, dI) classes [(h0, .inr (3, [.ref tp, .ref cd, .int 0, .int 0, .int (-1)])), (tp, .inr (10, o10 gt))] s.heap := hP
  have hl := lv_entry ([.ref h0, .int 0]) (n := 4) (Nat.le_of_ble_eq_true rfl)
  rw [lg_entry_eq]
  generalize (lg_sl ([.ref h0, .int 0]) ++ List.replicate (4 - (lg_sl ([.ref h0, .int 0])).length) Slot.unset).toArray = ls at hl ⊢
  have hl : lv_has ls 4 [(0, .ref h0), (1, .int 0)] := hl
  obtain ⟨H, eH⟩ : ∃ z, z = s.heap := ⟨_, rfl⟩
  have hP : va_P (dC, dI) classes [(h0, .inr (3, [.ref tp, .ref cd, .int 0, .int 0, .int (-1)])), (tp, .inr (10, o10 gt))] H := by rw [eH]; exact hP
  have hS : va_S A s.heap H [] := by rw [eH]; exact va_S.rf
  refine my_heap eH ?_
  refine lv_aload_n hx hb dX3_readProduct_0 rfl (lv_at hl 0 rfl) ?_
  refine lv_iload_n hx hb dX3_readProduct_1 rfl (lv_at hl 1 rfl) ?_
  have hPc := hP.sub (ws' := [(h0, .inr (3, [.ref tp, .ref cd, .int 0, .int 0, .int (-1)])), (tp, .inr (10, o10 gt))]) [0, 1] rfl
  have hDc := hD.sub (ws' := [(h0, .inr (3, [.ref tp, .ref cd, .int 0, .int 0, .int (-1)])), (tp, .inr (10, o10 gt))]) [0, 1] (by decide) rfl
  have hKc := hK.sub (tys' := []) [] rfl
  have hFc := va_free (wc := [(h0, .inr (3, [.ref tp, .ref cd, .int 0, .int 0, .int (-1)])), (tp, .inr (10, o10 gt))]) hD hS hA [0, 1] rfl
  refine va_callv (va_runV (As := [.int 0]) (rest := []) ⟨hx, hb, hml, hown, hwd⟩ (c_X3_readOperand l dC dI h0 tp cd gt H.size) (cwV 1 hwd (gV wk_124 wk_125 wk_126 wk_127 wk_115) rfl rfl rfl (by decide +kernel) ⟨Nat.le_of_ble_eq_true rfl, Nat.le_of_ble_eq_true rfl⟩) ⟨fun a U g mk q => by obtain ⟨q0, q1, qP, qK, qD⟩ := q; exact ⟨q0, q1, qP, va_K.moved (u := U) (U := U.calling g mk a) (Vm.Alike.refl U.vm) qK, qD⟩, va_recv hKc hPc (ci := 3) (q0 := 0) rfl rfl, fun U hU hW => ⟨rfl, by rw [hU], by rw [hU]; exact hPc, va_K.moved hW.alike hKc, hDc.weaken (fun _ _ _ _ => trivial)⟩⟩ rfl rfl hl.1 rfl (lv_room (Nat.le_of_ble_eq_true rfl)) dX3_readProduct_2 ⟨Nat.le_of_ble_eq_true rfl, Nat.le_of_ble_eq_true rfl⟩) hS (fun q _ h => hFc q h) hFc (fun u t H1 locs ht hvm hw hB hz1 hk1 hS => ?_)
  obtain ⟨hP1, hK1, hD1⟩ := hB
  rw [ht] at hP1
  obtain ⟨hP, hD⟩ := va_join (wr := []) (w1 := [(h0, .inr (3, [.ref tp, .ref cd, .int 0, .int 0, .int 0])), (tp, .inr (10, o10 gt))]) hP hD [0, 1] [] rfl rfl (by decide) (by decide) hk1 hFc hP1 hD1
  generalize H1 = H at hP hS ⊢
  have hP : va_P (dC, dI) classes [(h0, .inr (3, [.ref tp, .ref cd, .int 0, .int 0, .int 0])), (tp, .inr (10, o10 gt))] H := hP
  have hD : va_D A [(h0, .inr (3, [.ref tp, .ref cd, .int 0, .int 0, .int 0])), (tp, .inr (10, o10 gt))] := hD
  refine lv_iconst (v := 0) hx hb dX3_readProduct_5 (by decide) ?_
  refine lv_istore_n (lv' := [(2, .int 0), (0, .ref h0), (1, .int 0)]) hx hb dX3_readProduct_6 rfl hl (by decide) rfl (fun ls hl => ?_)
  refine lv_iload_n hx hb dX3_readProduct_7 rfl (lv_at hl 0 rfl) ?_
  refine lv_bipush (v := 120) hx hb dX3_readProduct_8 (by decide) ?_
  refine lv_icmp_ge (tgt := 76) hx hb dX3_readProduct_10 (by decide) (fun c_204 => ?_) (fun c_204 => ?_)
  · exact absurd c_204 (by decide)
  · skip
    refine lv_aload_n hx hb dX3_readProduct_13 rfl (lv_at hl 1 rfl) ?_
    have hPc := hP.sub (ws' := [(h0, .inr (3, [.ref tp, .ref cd, .int 0, .int 0, .int 0])), (tp, .inr (10, o10 gt))]) [0, 1] rfl
    have hDc := hD.sub (ws' := [(h0, .inr (3, [.ref tp, .ref cd, .int 0, .int 0, .int 0])), (tp, .inr (10, o10 gt))]) [0, 1] (by decide) rfl
    have hKc := hK.sub (tys' := []) [] rfl
    have hFc := va_free (wc := [(h0, .inr (3, [.ref tp, .ref cd, .int 0, .int 0, .int 0])), (tp, .inr (10, o10 gt))]) hD hS hA [0, 1] rfl
    refine va_calli (va_runV (As := []) (rest := []) ⟨hx, hb, hml, hown, hwd⟩ (c_X3_next_b l dC dI h0 tp cd gt H.size) (cwV 0 hwd (gV wk_116 wk_117 wk_118 wk_119 wk_115) rfl rfl rfl (by decide +kernel) ⟨Nat.le_of_ble_eq_true rfl, Nat.le_of_ble_eq_true rfl⟩) ⟨fun a U g mk q => by obtain ⟨q0, q1, qP, qK, qD⟩ := q; exact ⟨q0, q1, qP, va_K.moved (u := U) (U := U.calling g mk a) (Vm.Alike.refl U.vm) qK, qD⟩, va_recv hKc hPc (ci := 3) (q0 := 0) rfl rfl, fun U hU hW => ⟨rfl, by rw [hU], by rw [hU]; exact hPc, va_K.moved hW.alike hKc, hDc.weaken (fun _ _ _ _ => trivial)⟩⟩ rfl rfl hl.1 rfl (lv_room (Nat.le_of_ble_eq_true rfl)) dX3_readProduct_14 ⟨Nat.le_of_ble_eq_true rfl, Nat.le_of_ble_eq_true rfl⟩) hS (fun q _ h => hFc q h) hFc (fun r_205 u t H1 locs ht hvm hw hB hz1 hk1 hS => ?_)
    obtain ⟨hP1, hK1, hD1⟩ := hB
    rw [ht] at hP1
    obtain ⟨hP, hD⟩ := va_join (wr := []) (w1 := [(h0, .inr (3, [.ref tp, .ref cd, .int 0, .int 0, .int 0])), (tp, .inr (10, o10 gt))]) hP hD [0, 1] [] rfl rfl (by decide) (by decide) hk1 hFc hP1 hD1
    generalize H1 = H at hP hS ⊢
    have hP : va_P (dC, dI) classes [(h0, .inr (3, [.ref tp, .ref cd, .int 0, .int 0, .int 0])), (tp, .inr (10, o10 gt))] H := hP
    have hD : va_D A [(h0, .inr (3, [.ref tp, .ref cd, .int 0, .int 0, .int 0])), (tp, .inr (10, o10 gt))] := hD
    try dsimp only at hw
    subst hw
    refine lv_bipush (v := 42) hx hb dX3_readProduct_17 (by decide) ?_
    refine lv_icmp_eq (tgt := 31) hx hb dX3_readProduct_19 (by decide) (fun c_206 => ?_) (fun c_206 => ?_)
    · exact absurd c_206 (by decide)
    · skip
      refine lv_aload_n hx hb dX3_readProduct_22 rfl (lv_at hl 1 rfl) ?_
      have hPc := hP.sub (ws' := [(h0, .inr (3, [.ref tp, .ref cd, .int 0, .int 0, .int 0])), (tp, .inr (10, o10 gt))]) [0, 1] rfl
      have hDc := hD.sub (ws' := [(h0, .inr (3, [.ref tp, .ref cd, .int 0, .int 0, .int 0])), (tp, .inr (10, o10 gt))]) [0, 1] (by decide) rfl
      have hKc := hK.sub (tys' := []) [] rfl
      have hFc := va_free (wc := [(h0, .inr (3, [.ref tp, .ref cd, .int 0, .int 0, .int 0])), (tp, .inr (10, o10 gt))]) hD hS hA [0, 1] rfl
      refine va_calli (va_runV (As := []) (rest := []) ⟨hx, hb, hml, hown, hwd⟩ (c_X3_next_b l dC dI h0 tp cd gt H.size) (cwV 0 hwd (gV wk_116 wk_117 wk_118 wk_119 wk_115) rfl rfl rfl (by decide +kernel) ⟨Nat.le_of_ble_eq_true rfl, Nat.le_of_ble_eq_true rfl⟩) ⟨fun a U g mk q => by obtain ⟨q0, q1, qP, qK, qD⟩ := q; exact ⟨q0, q1, qP, va_K.moved (u := U) (U := U.calling g mk a) (Vm.Alike.refl U.vm) qK, qD⟩, va_recv hKc hPc (ci := 3) (q0 := 0) rfl rfl, fun U hU hW => ⟨rfl, by rw [hU], by rw [hU]; exact hPc, va_K.moved hW.alike hKc, hDc.weaken (fun _ _ _ _ => trivial)⟩⟩ rfl rfl hl.1 rfl (lv_room (Nat.le_of_ble_eq_true rfl)) dX3_readProduct_23 ⟨Nat.le_of_ble_eq_true rfl, Nat.le_of_ble_eq_true rfl⟩) hS (fun q _ h => hFc q h) hFc (fun r_207 u t H1 locs ht hvm hw hB hz1 hk1 hS => ?_)
      obtain ⟨hP1, hK1, hD1⟩ := hB
      rw [ht] at hP1
      obtain ⟨hP, hD⟩ := va_join (wr := []) (w1 := [(h0, .inr (3, [.ref tp, .ref cd, .int 0, .int 0, .int 0])), (tp, .inr (10, o10 gt))]) hP hD [0, 1] [] rfl rfl (by decide) (by decide) hk1 hFc hP1 hD1
      generalize H1 = H at hP hS ⊢
      have hP : va_P (dC, dI) classes [(h0, .inr (3, [.ref tp, .ref cd, .int 0, .int 0, .int 0])), (tp, .inr (10, o10 gt))] H := hP
      have hD : va_D A [(h0, .inr (3, [.ref tp, .ref cd, .int 0, .int 0, .int 0])), (tp, .inr (10, o10 gt))] := hD
      try dsimp only at hw
      subst hw
      refine lv_bipush (v := 47) hx hb dX3_readProduct_26 (by decide) ?_
      refine lv_icmp_ne (tgt := 76) hx hb dX3_readProduct_28 (by decide) (fun c_208 => ?_) (fun c_208 => ?_)
      · skip
        have hP9 : va_P (dC, dI) classes [(h0, .inr (3, [.ref tp, .ref cd, .int 0, .int 0, .int 0])), (tp, .inr (10, o10 gt))] H := hP.sub [0, 1] rfl
        have hD9 : va_D A [(h0, .inr (3, [.ref tp, .ref cd, .int 0, .int 0, .int 0])), (tp, .inr (10, o10 gt))] := hD.sub [0, 1] (by decide) rfl
        have hK9 : va_K (dC, dI) classes [] s := hK.sub [] rfl
        exact W.vret hx hb hr (fun t ht hW => ⟨⟨(), rfl, trivial, by rw [ht]; exact hP9, va_K.moved hW.alike hK9, hD9⟩, hS.F ht⟩) hS.2.2 dX3_readProduct_76
      · exact absurd c_208 (by decide)
set_option maxHeartbeats 4000000 in
set_option maxRecDepth 100000 in
theorem c_X3_readSum (l : Launch) (dC : Nat → ClassId) (dI : Nat → Nat → Nat) (h0 : Nat) (tp : Nat) (cd : Nat) (gt : Nat → Nat) (sz : Nat) : Met l yX3_readSum (Cond.code yX3_readSum cX3_readSum 4 none :: wA) ({ frames := 5, cells := 0, slots := 0, locals := 200 }) (va_Pc [.ref h0, .int 0] (fun U => U.heap.size = sz ∧ va_P (dC, dI) classes [(h0, .inr (3, [.ref tp, .ref cd, .int 0, .int 0, .int (-1)])), (tp, .inr (10, o10 gt))] U.heap ∧ va_K (dC, dI) classes [] U ∧ va_D (fun _ => True) [(h0, .inr (3, [.ref tp, .ref cd, .int 0, .int 0, .int (-1)])), (tp, .inr (10, o10 gt))])) (va_Qv (fun _ : Unit => True) (fun (_ : Unit) (t : State) => va_P (dC, dI) classes [(h0, .inr (3, [.ref tp, .ref cd, .int 0, .int 0, .int 0])), (tp, .inr (10, o10 gt))] t.heap ∧ va_K (dC, dI) classes [] t ∧ va_D (va_A [(h0, .inr (3, [.ref tp, .ref cd, .int 0, .int 0, .int (-1)])), (tp, .inr (10, o10 gt))] sz) [(h0, .inr (3, [.ref tp, .ref cd, .int 0, .int 0, .int 0])), (tp, .inr (10, o10 gt))]) (va_A [(h0, .inr (3, [.ref tp, .ref cd, .int 0, .int 0, .int (-1)])), (tp, .inr (10, o10 gt))] sz)) 0 0 (va_A [(h0, .inr (3, [.ref tp, .ref cd, .int 0, .int 0, .int (-1)])), (tp, .inr (10, o10 gt))] sz) := by
  refine Met.ofW (cc := cX3_readSum) (maxL := 4) (ret := none) (by decide) rfl ?_
  intro p e s m args below meth c s₁ B hml hv
  obtain ⟨rfl, hsz, hP, hK, hD0⟩ := hv
  have hx := B.exec
  have hb := B.bytes
  have hr := B.returns
  have hts := atoms_spec (ws := Cond.code yX3_readSum cX3_readSum 4 none :: wA) B.pre
  have hwd : ∀ w ∈ wA, w.before _ s = true := fun w h => hts w (List.mem_cons_of_mem _ h)
  have hown : s.vm.findClass RX3 = some m.cls := findClass_of_methodNamed B.named
  have hlocks := B.notSynchronized
  subst hsz
  have hD := hD0.self (sz := s.heap.size)
  generalize hAe : va_A [(h0, .inr (3, [.ref tp, .ref cd, .int 0, .int 0, .int (-1)])), (tp, .inr (10, o10 gt))] s.heap.size = A at hD ⊢
  have hA : ∀ q : Nat, s.heap.size ≤ q → A q := fun q h => by rw [← hAe]; exact Or.inr h
  have hS : va_S A s.heap s.heap [] := va_S.rf
  have hP : va_P (dC, dI) classes [(h0, .inr (3, [.ref tp, .ref cd, .int 0, .int 0, .int (-1)])), (tp, .inr (10, o10 gt))] s.heap := hP
  have hl := lv_entry ([.ref h0, .int 0]) (n := 4) (Nat.le_of_ble_eq_true rfl)
  rw [lg_entry_eq]
  generalize (lg_sl ([.ref h0, .int 0]) ++ List.replicate (4 - (lg_sl ([.ref h0, .int 0])).length) Slot.unset).toArray = ls at hl ⊢
  have hl : lv_has ls 4 [(0, .ref h0), (1, .int 0)] := hl
  obtain ⟨H, eH⟩ : ∃ z, z = s.heap := ⟨_, rfl⟩
  have hP : va_P (dC, dI) classes [(h0, .inr (3, [.ref tp, .ref cd, .int 0, .int 0, .int (-1)])), (tp, .inr (10, o10 gt))] H := by rw [eH]; exact hP
  have hS : va_S A s.heap H [] := by rw [eH]; exact va_S.rf
  refine my_heap eH ?_
  refine lv_aload_n hx hb dX3_readSum_0 rfl (lv_at hl 0 rfl) ?_
  refine lv_iload_n hx hb dX3_readSum_1 rfl (lv_at hl 1 rfl) ?_
  have hPc := hP.sub (ws' := [(h0, .inr (3, [.ref tp, .ref cd, .int 0, .int 0, .int (-1)])), (tp, .inr (10, o10 gt))]) [0, 1] rfl
  have hDc := hD.sub (ws' := [(h0, .inr (3, [.ref tp, .ref cd, .int 0, .int 0, .int (-1)])), (tp, .inr (10, o10 gt))]) [0, 1] (by decide) rfl
  have hKc := hK.sub (tys' := []) [] rfl
  have hFc := va_free (wc := [(h0, .inr (3, [.ref tp, .ref cd, .int 0, .int 0, .int (-1)])), (tp, .inr (10, o10 gt))]) hD hS hA [0, 1] rfl
  refine va_callv (va_runV (As := [.int 0]) (rest := []) ⟨hx, hb, hml, hown, hwd⟩ (c_X3_readProduct l dC dI h0 tp cd gt H.size) (cwV 1 hwd (gV wk_128 wk_129 wk_130 wk_131 wk_115) rfl rfl rfl (by decide +kernel) ⟨Nat.le_of_ble_eq_true rfl, Nat.le_of_ble_eq_true rfl⟩) ⟨fun a U g mk q => by obtain ⟨q0, q1, qP, qK, qD⟩ := q; exact ⟨q0, q1, qP, va_K.moved (u := U) (U := U.calling g mk a) (Vm.Alike.refl U.vm) qK, qD⟩, va_recv hKc hPc (ci := 3) (q0 := 0) rfl rfl, fun U hU hW => ⟨rfl, by rw [hU], by rw [hU]; exact hPc, va_K.moved hW.alike hKc, hDc.weaken (fun _ _ _ _ => trivial)⟩⟩ rfl rfl hl.1 rfl (lv_room (Nat.le_of_ble_eq_true rfl)) dX3_readSum_2 ⟨Nat.le_of_ble_eq_true rfl, Nat.le_of_ble_eq_true rfl⟩) hS (fun q _ h => hFc q h) hFc (fun u t H1 locs ht hvm hw hB hz1 hk1 hS => ?_)
  obtain ⟨hP1, hK1, hD1⟩ := hB
  rw [ht] at hP1
  obtain ⟨hP, hD⟩ := va_join (wr := []) (w1 := [(h0, .inr (3, [.ref tp, .ref cd, .int 0, .int 0, .int 0])), (tp, .inr (10, o10 gt))]) hP hD [0, 1] [] rfl rfl (by decide) (by decide) hk1 hFc hP1 hD1
  generalize H1 = H at hP hS ⊢
  have hP : va_P (dC, dI) classes [(h0, .inr (3, [.ref tp, .ref cd, .int 0, .int 0, .int 0])), (tp, .inr (10, o10 gt))] H := hP
  have hD : va_D A [(h0, .inr (3, [.ref tp, .ref cd, .int 0, .int 0, .int 0])), (tp, .inr (10, o10 gt))] := hD
  refine lv_iconst (v := 0) hx hb dX3_readSum_5 (by decide) ?_
  refine lv_istore_n (lv' := [(2, .int 0), (0, .ref h0), (1, .int 0)]) hx hb dX3_readSum_6 rfl hl (by decide) rfl (fun ls hl => ?_)
  refine lv_iload_n hx hb dX3_readSum_7 rfl (lv_at hl 0 rfl) ?_
  refine lv_bipush (v := 120) hx hb dX3_readSum_8 (by decide) ?_
  refine lv_icmp_ge (tgt := 75) hx hb dX3_readSum_10 (by decide) (fun c_210 => ?_) (fun c_210 => ?_)
  · exact absurd c_210 (by decide)
  · skip
    refine lv_aload_n hx hb dX3_readSum_13 rfl (lv_at hl 1 rfl) ?_
    have hPc := hP.sub (ws' := [(h0, .inr (3, [.ref tp, .ref cd, .int 0, .int 0, .int 0])), (tp, .inr (10, o10 gt))]) [0, 1] rfl
    have hDc := hD.sub (ws' := [(h0, .inr (3, [.ref tp, .ref cd, .int 0, .int 0, .int 0])), (tp, .inr (10, o10 gt))]) [0, 1] (by decide) rfl
    have hKc := hK.sub (tys' := []) [] rfl
    have hFc := va_free (wc := [(h0, .inr (3, [.ref tp, .ref cd, .int 0, .int 0, .int 0])), (tp, .inr (10, o10 gt))]) hD hS hA [0, 1] rfl
    refine va_calli (va_runV (As := []) (rest := []) ⟨hx, hb, hml, hown, hwd⟩ (c_X3_next_b l dC dI h0 tp cd gt H.size) (cwV 0 hwd (gV wk_116 wk_117 wk_118 wk_119 wk_115) rfl rfl rfl (by decide +kernel) ⟨Nat.le_of_ble_eq_true rfl, Nat.le_of_ble_eq_true rfl⟩) ⟨fun a U g mk q => by obtain ⟨q0, q1, qP, qK, qD⟩ := q; exact ⟨q0, q1, qP, va_K.moved (u := U) (U := U.calling g mk a) (Vm.Alike.refl U.vm) qK, qD⟩, va_recv hKc hPc (ci := 3) (q0 := 0) rfl rfl, fun U hU hW => ⟨rfl, by rw [hU], by rw [hU]; exact hPc, va_K.moved hW.alike hKc, hDc.weaken (fun _ _ _ _ => trivial)⟩⟩ rfl rfl hl.1 rfl (lv_room (Nat.le_of_ble_eq_true rfl)) dX3_readSum_14 ⟨Nat.le_of_ble_eq_true rfl, Nat.le_of_ble_eq_true rfl⟩) hS (fun q _ h => hFc q h) hFc (fun r_211 u t H1 locs ht hvm hw hB hz1 hk1 hS => ?_)
    obtain ⟨hP1, hK1, hD1⟩ := hB
    rw [ht] at hP1
    obtain ⟨hP, hD⟩ := va_join (wr := []) (w1 := [(h0, .inr (3, [.ref tp, .ref cd, .int 0, .int 0, .int 0])), (tp, .inr (10, o10 gt))]) hP hD [0, 1] [] rfl rfl (by decide) (by decide) hk1 hFc hP1 hD1
    generalize H1 = H at hP hS ⊢
    have hP : va_P (dC, dI) classes [(h0, .inr (3, [.ref tp, .ref cd, .int 0, .int 0, .int 0])), (tp, .inr (10, o10 gt))] H := hP
    have hD : va_D A [(h0, .inr (3, [.ref tp, .ref cd, .int 0, .int 0, .int 0])), (tp, .inr (10, o10 gt))] := hD
    try dsimp only at hw
    subst hw
    refine lv_bipush (v := 43) hx hb dX3_readSum_17 (by decide) ?_
    refine lv_icmp_eq (tgt := 31) hx hb dX3_readSum_19 (by decide) (fun c_212 => ?_) (fun c_212 => ?_)
    · exact absurd c_212 (by decide)
    · skip
      refine lv_aload_n hx hb dX3_readSum_22 rfl (lv_at hl 1 rfl) ?_
      have hPc := hP.sub (ws' := [(h0, .inr (3, [.ref tp, .ref cd, .int 0, .int 0, .int 0])), (tp, .inr (10, o10 gt))]) [0, 1] rfl
      have hDc := hD.sub (ws' := [(h0, .inr (3, [.ref tp, .ref cd, .int 0, .int 0, .int 0])), (tp, .inr (10, o10 gt))]) [0, 1] (by decide) rfl
      have hKc := hK.sub (tys' := []) [] rfl
      have hFc := va_free (wc := [(h0, .inr (3, [.ref tp, .ref cd, .int 0, .int 0, .int 0])), (tp, .inr (10, o10 gt))]) hD hS hA [0, 1] rfl
      refine va_calli (va_runV (As := []) (rest := []) ⟨hx, hb, hml, hown, hwd⟩ (c_X3_next_b l dC dI h0 tp cd gt H.size) (cwV 0 hwd (gV wk_116 wk_117 wk_118 wk_119 wk_115) rfl rfl rfl (by decide +kernel) ⟨Nat.le_of_ble_eq_true rfl, Nat.le_of_ble_eq_true rfl⟩) ⟨fun a U g mk q => by obtain ⟨q0, q1, qP, qK, qD⟩ := q; exact ⟨q0, q1, qP, va_K.moved (u := U) (U := U.calling g mk a) (Vm.Alike.refl U.vm) qK, qD⟩, va_recv hKc hPc (ci := 3) (q0 := 0) rfl rfl, fun U hU hW => ⟨rfl, by rw [hU], by rw [hU]; exact hPc, va_K.moved hW.alike hKc, hDc.weaken (fun _ _ _ _ => trivial)⟩⟩ rfl rfl hl.1 rfl (lv_room (Nat.le_of_ble_eq_true rfl)) dX3_readSum_23 ⟨Nat.le_of_ble_eq_true rfl, Nat.le_of_ble_eq_true rfl⟩) hS (fun q _ h => hFc q h) hFc (fun r_213 u t H1 locs ht hvm hw hB hz1 hk1 hS => ?_)
      obtain ⟨hP1, hK1, hD1⟩ := hB
      rw [ht] at hP1
      obtain ⟨hP, hD⟩ := va_join (wr := []) (w1 := [(h0, .inr (3, [.ref tp, .ref cd, .int 0, .int 0, .int 0])), (tp, .inr (10, o10 gt))]) hP hD [0, 1] [] rfl rfl (by decide) (by decide) hk1 hFc hP1 hD1
      generalize H1 = H at hP hS ⊢
      have hP : va_P (dC, dI) classes [(h0, .inr (3, [.ref tp, .ref cd, .int 0, .int 0, .int 0])), (tp, .inr (10, o10 gt))] H := hP
      have hD : va_D A [(h0, .inr (3, [.ref tp, .ref cd, .int 0, .int 0, .int 0])), (tp, .inr (10, o10 gt))] := hD
      try dsimp only at hw
      subst hw
      refine lv_bipush (v := 45) hx hb dX3_readSum_26 (by decide) ?_
      refine lv_icmp_ne (tgt := 75) hx hb dX3_readSum_28 (by decide) (fun c_214 => ?_) (fun c_214 => ?_)
      · skip
        have hP9 : va_P (dC, dI) classes [(h0, .inr (3, [.ref tp, .ref cd, .int 0, .int 0, .int 0])), (tp, .inr (10, o10 gt))] H := hP.sub [0, 1] rfl
        have hD9 : va_D A [(h0, .inr (3, [.ref tp, .ref cd, .int 0, .int 0, .int 0])), (tp, .inr (10, o10 gt))] := hD.sub [0, 1] (by decide) rfl
        have hK9 : va_K (dC, dI) classes [] s := hK.sub [] rfl
        exact W.vret hx hb hr (fun t ht hW => ⟨⟨(), rfl, trivial, by rw [ht]; exact hP9, va_K.moved hW.alike hK9, hD9⟩, hS.F ht⟩) hS.2.2 dX3_readSum_75
      · exact absurd c_214 (by decide)
set_option maxHeartbeats 4000000 in
set_option maxRecDepth 100000 in
theorem c_X3_readComparison (l : Launch) (dC : Nat → ClassId) (dI : Nat → Nat → Nat) (h0 : Nat) (tp : Nat) (cd : Nat) (gt : Nat → Nat) (sz : Nat) : Met l yX3_readComparison (Cond.code yX3_readComparison cX3_readComparison 3 none :: wA) ({ frames := 6, cells := 0, slots := 0, locals := 240 }) (va_Pc [.ref h0, .int 0] (fun U => U.heap.size = sz ∧ va_P (dC, dI) classes [(h0, .inr (3, [.ref tp, .ref cd, .int 0, .int 0, .int (-1)])), (tp, .inr (10, o10 gt))] U.heap ∧ va_K (dC, dI) classes [] U ∧ va_D (fun _ => True) [(h0, .inr (3, [.ref tp, .ref cd, .int 0, .int 0, .int (-1)])), (tp, .inr (10, o10 gt))])) (va_Qv (fun _ : Unit => True) (fun (_ : Unit) (t : State) => va_P (dC, dI) classes [(h0, .inr (3, [.ref tp, .ref cd, .int 0, .int 0, .int 0])), (tp, .inr (10, o10 gt))] t.heap ∧ va_K (dC, dI) classes [] t ∧ va_D (va_A [(h0, .inr (3, [.ref tp, .ref cd, .int 0, .int 0, .int (-1)])), (tp, .inr (10, o10 gt))] sz) [(h0, .inr (3, [.ref tp, .ref cd, .int 0, .int 0, .int 0])), (tp, .inr (10, o10 gt))]) (va_A [(h0, .inr (3, [.ref tp, .ref cd, .int 0, .int 0, .int (-1)])), (tp, .inr (10, o10 gt))] sz)) 0 0 (va_A [(h0, .inr (3, [.ref tp, .ref cd, .int 0, .int 0, .int (-1)])), (tp, .inr (10, o10 gt))] sz) := by
  refine Met.ofW (cc := cX3_readComparison) (maxL := 3) (ret := none) (by decide) rfl ?_
  intro p e s m args below meth c s₁ B hml hv
  obtain ⟨rfl, hsz, hP, hK, hD0⟩ := hv
  have hx := B.exec
  have hb := B.bytes
  have hr := B.returns
  have hts := atoms_spec (ws := Cond.code yX3_readComparison cX3_readComparison 3 none :: wA) B.pre
  have hwd : ∀ w ∈ wA, w.before _ s = true := fun w h => hts w (List.mem_cons_of_mem _ h)
  have hown : s.vm.findClass RX3 = some m.cls := findClass_of_methodNamed B.named
  have hlocks := B.notSynchronized
  subst hsz
  have hD := hD0.self (sz := s.heap.size)
  generalize hAe : va_A [(h0, .inr (3, [.ref tp, .ref cd, .int 0, .int 0, .int (-1)])), (tp, .inr (10, o10 gt))] s.heap.size = A at hD ⊢
  have hA : ∀ q : Nat, s.heap.size ≤ q → A q := fun q h => by rw [← hAe]; exact Or.inr h
  have hS : va_S A s.heap s.heap [] := va_S.rf
  have hP : va_P (dC, dI) classes [(h0, .inr (3, [.ref tp, .ref cd, .int 0, .int 0, .int (-1)])), (tp, .inr (10, o10 gt))] s.heap := hP
  have hl := lv_entry ([.ref h0, .int 0]) (n := 3) (Nat.le_of_ble_eq_true rfl)
  rw [lg_entry_eq]
  generalize (lg_sl ([.ref h0, .int 0]) ++ List.replicate (3 - (lg_sl ([.ref h0, .int 0])).length) Slot.unset).toArray = ls at hl ⊢
  have hl : lv_has ls 3 [(0, .ref h0), (1, .int 0)] := hl
  obtain ⟨H, eH⟩ : ∃ z, z = s.heap := ⟨_, rfl⟩
  have hP : va_P (dC, dI) classes [(h0, .inr (3, [.ref tp, .ref cd, .int 0, .int 0, .int (-1)])), (tp, .inr (10, o10 gt))] H := by rw [eH]; exact hP
  have hS : va_S A s.heap H [] := by rw [eH]; exact va_S.rf
  refine my_heap eH ?_
  refine lv_aload_n hx hb dX3_readComparison_0 rfl (lv_at hl 0 rfl) ?_
  refine lv_iload_n hx hb dX3_readComparison_1 rfl (lv_at hl 1 rfl) ?_
  have hPc := hP.sub (ws' := [(h0, .inr (3, [.ref tp, .ref cd, .int 0, .int 0, .int (-1)])), (tp, .inr (10, o10 gt))]) [0, 1] rfl
  have hDc := hD.sub (ws' := [(h0, .inr (3, [.ref tp, .ref cd, .int 0, .int 0, .int (-1)])), (tp, .inr (10, o10 gt))]) [0, 1] (by decide) rfl
  have hKc := hK.sub (tys' := []) [] rfl
  have hFc := va_free (wc := [(h0, .inr (3, [.ref tp, .ref cd, .int 0, .int 0, .int (-1)])), (tp, .inr (10, o10 gt))]) hD hS hA [0, 1] rfl
  refine va_callv (va_runV (As := [.int 0]) (rest := []) ⟨hx, hb, hml, hown, hwd⟩ (c_X3_readSum l dC dI h0 tp cd gt H.size) (cwV 1 hwd (gV wk_132 wk_133 wk_134 wk_135 wk_115) rfl rfl rfl (by decide +kernel) ⟨Nat.le_of_ble_eq_true rfl, Nat.le_of_ble_eq_true rfl⟩) ⟨fun a U g mk q => by obtain ⟨q0, q1, qP, qK, qD⟩ := q; exact ⟨q0, q1, qP, va_K.moved (u := U) (U := U.calling g mk a) (Vm.Alike.refl U.vm) qK, qD⟩, va_recv hKc hPc (ci := 3) (q0 := 0) rfl rfl, fun U hU hW => ⟨rfl, by rw [hU], by rw [hU]; exact hPc, va_K.moved hW.alike hKc, hDc.weaken (fun _ _ _ _ => trivial)⟩⟩ rfl rfl hl.1 rfl (lv_room (Nat.le_of_ble_eq_true rfl)) dX3_readComparison_2 ⟨Nat.le_of_ble_eq_true rfl, Nat.le_of_ble_eq_true rfl⟩) hS (fun q _ h => hFc q h) hFc (fun u t H1 locs ht hvm hw hB hz1 hk1 hS => ?_)
  obtain ⟨hP1, hK1, hD1⟩ := hB
  rw [ht] at hP1
  obtain ⟨hP, hD⟩ := va_join (wr := []) (w1 := [(h0, .inr (3, [.ref tp, .ref cd, .int 0, .int 0, .int 0])), (tp, .inr (10, o10 gt))]) hP hD [0, 1] [] rfl rfl (by decide) (by decide) hk1 hFc hP1 hD1
  generalize H1 = H at hP hS ⊢
  have hP : va_P (dC, dI) classes [(h0, .inr (3, [.ref tp, .ref cd, .int 0, .int 0, .int 0])), (tp, .inr (10, o10 gt))] H := hP
  have hD : va_D A [(h0, .inr (3, [.ref tp, .ref cd, .int 0, .int 0, .int 0])), (tp, .inr (10, o10 gt))] := hD
  refine lv_aload_n hx hb dX3_readComparison_5 rfl (lv_at hl 0 rfl) ?_
  have hPc := hP.sub (ws' := [(h0, .inr (3, [.ref tp, .ref cd, .int 0, .int 0, .int 0])), (tp, .inr (10, o10 gt))]) [0, 1] rfl
  have hDc := hD.sub (ws' := [(h0, .inr (3, [.ref tp, .ref cd, .int 0, .int 0, .int 0])), (tp, .inr (10, o10 gt))]) [0, 1] (by decide) rfl
  have hKc := hK.sub (tys' := []) [] rfl
  have hFc := va_free (wc := [(h0, .inr (3, [.ref tp, .ref cd, .int 0, .int 0, .int 0])), (tp, .inr (10, o10 gt))]) hD hS hA [0, 1] rfl
  refine va_calli (va_runV (As := []) (rest := []) ⟨hx, hb, hml, hown, hwd⟩ (c_X3_next_b l dC dI h0 tp cd gt H.size) (cwV 0 hwd (gV wk_116 wk_117 wk_118 wk_119 wk_115) rfl rfl rfl (by decide +kernel) ⟨Nat.le_of_ble_eq_true rfl, Nat.le_of_ble_eq_true rfl⟩) ⟨fun a U g mk q => by obtain ⟨q0, q1, qP, qK, qD⟩ := q; exact ⟨q0, q1, qP, va_K.moved (u := U) (U := U.calling g mk a) (Vm.Alike.refl U.vm) qK, qD⟩, va_recv hKc hPc (ci := 3) (q0 := 0) rfl rfl, fun U hU hW => ⟨rfl, by rw [hU], by rw [hU]; exact hPc, va_K.moved hW.alike hKc, hDc.weaken (fun _ _ _ _ => trivial)⟩⟩ rfl rfl hl.1 rfl (lv_room (Nat.le_of_ble_eq_true rfl)) dX3_readComparison_6 ⟨Nat.le_of_ble_eq_true rfl, Nat.le_of_ble_eq_true rfl⟩) hS (fun q _ h => hFc q h) hFc (fun r_216 u t H1 locs ht hvm hw hB hz1 hk1 hS => ?_)
  obtain ⟨hP1, hK1, hD1⟩ := hB
  rw [ht] at hP1
  obtain ⟨hP, hD⟩ := va_join (wr := []) (w1 := [(h0, .inr (3, [.ref tp, .ref cd, .int 0, .int 0, .int 0])), (tp, .inr (10, o10 gt))]) hP hD [0, 1] [] rfl rfl (by decide) (by decide) hk1 hFc hP1 hD1
  generalize H1 = H at hP hS ⊢
  have hP : va_P (dC, dI) classes [(h0, .inr (3, [.ref tp, .ref cd, .int 0, .int 0, .int 0])), (tp, .inr (10, o10 gt))] H := hP
  have hD : va_D A [(h0, .inr (3, [.ref tp, .ref cd, .int 0, .int 0, .int 0])), (tp, .inr (10, o10 gt))] := hD
  try dsimp only at hw
  subst hw
  refine lv_istore_n (lv' := [(2, .int (-1)), (0, .ref h0), (1, .int 0)]) hx hb dX3_readComparison_9 rfl hl (by decide) rfl (fun ls hl => ?_)
  refine lv_iload_n hx hb dX3_readComparison_10 rfl (lv_at hl 0 rfl) ?_
  refine lv_bipush (v := 60) hx hb dX3_readComparison_11 (by decide) ?_
  refine lv_icmp_eq (tgt := 28) hx hb dX3_readComparison_13 (by decide) (fun c_217 => ?_) (fun c_217 => ?_)
  · exact absurd c_217 (by decide)
  · skip
    refine lv_iload_n hx hb dX3_readComparison_16 rfl (lv_at hl 0 rfl) ?_
    refine lv_bipush (v := 61) hx hb dX3_readComparison_17 (by decide) ?_
    refine lv_icmp_eq (tgt := 28) hx hb dX3_readComparison_19 (by decide) (fun c_218 => ?_) (fun c_218 => ?_)
    · exact absurd c_218 (by decide)
    · skip
      refine lv_iload_n hx hb dX3_readComparison_22 rfl (lv_at hl 0 rfl) ?_
      refine lv_bipush (v := 62) hx hb dX3_readComparison_23 (by decide) ?_
      refine lv_icmp_ne (tgt := 73) hx hb dX3_readComparison_25 (by decide) (fun c_219 => ?_) (fun c_219 => ?_)
      · skip
        have hP9 : va_P (dC, dI) classes [(h0, .inr (3, [.ref tp, .ref cd, .int 0, .int 0, .int 0])), (tp, .inr (10, o10 gt))] H := hP.sub [0, 1] rfl
        have hD9 : va_D A [(h0, .inr (3, [.ref tp, .ref cd, .int 0, .int 0, .int 0])), (tp, .inr (10, o10 gt))] := hD.sub [0, 1] (by decide) rfl
        have hK9 : va_K (dC, dI) classes [] s := hK.sub [] rfl
        exact W.vret hx hb hr (fun t ht hW => ⟨⟨(), rfl, trivial, by rw [ht]; exact hP9, va_K.moved hW.alike hK9, hD9⟩, hS.F ht⟩) hS.2.2 dX3_readComparison_73
      · exact absurd c_219 (by decide)
set_option maxHeartbeats 4000000 in
set_option maxRecDepth 100000 in
theorem c_X3_readChoice (l : Launch) (dC : Nat → ClassId) (dI : Nat → Nat → Nat) (h0 : Nat) (tp : Nat) (cd : Nat) (gt : Nat → Nat) (sz : Nat) : Met l yX3_readChoice (Cond.code yX3_readChoice cX3_readChoice 4 none :: wA) ({ frames := 7, cells := 0, slots := 0, locals := 280 }) (va_Pc [.ref h0, .int 0] (fun U => U.heap.size = sz ∧ va_P (dC, dI) classes [(h0, .inr (3, [.ref tp, .ref cd, .int 0, .int 0, .int (-1)])), (tp, .inr (10, o10 gt))] U.heap ∧ va_K (dC, dI) classes [] U ∧ va_D (fun _ => True) [(h0, .inr (3, [.ref tp, .ref cd, .int 0, .int 0, .int (-1)])), (tp, .inr (10, o10 gt))])) (va_Qv (fun _ : Unit => True) (fun (_ : Unit) (t : State) => va_P (dC, dI) classes [(h0, .inr (3, [.ref tp, .ref cd, .int 0, .int 0, .int 0])), (tp, .inr (10, o10 gt))] t.heap ∧ va_K (dC, dI) classes [] t ∧ va_D (va_A [(h0, .inr (3, [.ref tp, .ref cd, .int 0, .int 0, .int (-1)])), (tp, .inr (10, o10 gt))] sz) [(h0, .inr (3, [.ref tp, .ref cd, .int 0, .int 0, .int 0])), (tp, .inr (10, o10 gt))]) (va_A [(h0, .inr (3, [.ref tp, .ref cd, .int 0, .int 0, .int (-1)])), (tp, .inr (10, o10 gt))] sz)) 0 0 (va_A [(h0, .inr (3, [.ref tp, .ref cd, .int 0, .int 0, .int (-1)])), (tp, .inr (10, o10 gt))] sz) := by
  refine Met.ofW (cc := cX3_readChoice) (maxL := 4) (ret := none) (by decide) rfl ?_
  intro p e s m args below meth c s₁ B hml hv
  obtain ⟨rfl, hsz, hP, hK, hD0⟩ := hv
  have hx := B.exec
  have hb := B.bytes
  have hr := B.returns
  have hts := atoms_spec (ws := Cond.code yX3_readChoice cX3_readChoice 4 none :: wA) B.pre
  have hwd : ∀ w ∈ wA, w.before _ s = true := fun w h => hts w (List.mem_cons_of_mem _ h)
  have hown : s.vm.findClass RX3 = some m.cls := findClass_of_methodNamed B.named
  have hlocks := B.notSynchronized
  subst hsz
  have hD := hD0.self (sz := s.heap.size)
  generalize hAe : va_A [(h0, .inr (3, [.ref tp, .ref cd, .int 0, .int 0, .int (-1)])), (tp, .inr (10, o10 gt))] s.heap.size = A at hD ⊢
  have hA : ∀ q : Nat, s.heap.size ≤ q → A q := fun q h => by rw [← hAe]; exact Or.inr h
  have hS : va_S A s.heap s.heap [] := va_S.rf
  have hP : va_P (dC, dI) classes [(h0, .inr (3, [.ref tp, .ref cd, .int 0, .int 0, .int (-1)])), (tp, .inr (10, o10 gt))] s.heap := hP
  have hl := lv_entry ([.ref h0, .int 0]) (n := 4) (Nat.le_of_ble_eq_true rfl)
  rw [lg_entry_eq]
  generalize (lg_sl ([.ref h0, .int 0]) ++ List.replicate (4 - (lg_sl ([.ref h0, .int 0])).length) Slot.unset).toArray = ls at hl ⊢
  have hl : lv_has ls 4 [(0, .ref h0), (1, .int 0)] := hl
  obtain ⟨H, eH⟩ : ∃ z, z = s.heap := ⟨_, rfl⟩
  have hP : va_P (dC, dI) classes [(h0, .inr (3, [.ref tp, .ref cd, .int 0, .int 0, .int (-1)])), (tp, .inr (10, o10 gt))] H := by rw [eH]; exact hP
  have hS : va_S A s.heap H [] := by rw [eH]; exact va_S.rf
  refine my_heap eH ?_
  refine lv_aload_n hx hb dX3_readChoice_0 rfl (lv_at hl 0 rfl) ?_
  refine lv_iload_n hx hb dX3_readChoice_1 rfl (lv_at hl 1 rfl) ?_
  have hPc := hP.sub (ws' := [(h0, .inr (3, [.ref tp, .ref cd, .int 0, .int 0, .int (-1)])), (tp, .inr (10, o10 gt))]) [0, 1] rfl
  have hDc := hD.sub (ws' := [(h0, .inr (3, [.ref tp, .ref cd, .int 0, .int 0, .int (-1)])), (tp, .inr (10, o10 gt))]) [0, 1] (by decide) rfl
  have hKc := hK.sub (tys' := []) [] rfl
  have hFc := va_free (wc := [(h0, .inr (3, [.ref tp, .ref cd, .int 0, .int 0, .int (-1)])), (tp, .inr (10, o10 gt))]) hD hS hA [0, 1] rfl
  refine va_callv (va_runV (As := [.int 0]) (rest := []) ⟨hx, hb, hml, hown, hwd⟩ (c_X3_readComparison l dC dI h0 tp cd gt H.size) (cwV 1 hwd (gV wk_136 wk_137 wk_138 wk_139 wk_115) rfl rfl rfl (by decide +kernel) ⟨Nat.le_of_ble_eq_true rfl, Nat.le_of_ble_eq_true rfl⟩) ⟨fun a U g mk q => by obtain ⟨q0, q1, qP, qK, qD⟩ := q; exact ⟨q0, q1, qP, va_K.moved (u := U) (U := U.calling g mk a) (Vm.Alike.refl U.vm) qK, qD⟩, va_recv hKc hPc (ci := 3) (q0 := 0) rfl rfl, fun U hU hW => ⟨rfl, by rw [hU], by rw [hU]; exact hPc, va_K.moved hW.alike hKc, hDc.weaken (fun _ _ _ _ => trivial)⟩⟩ rfl rfl hl.1 rfl (lv_room (Nat.le_of_ble_eq_true rfl)) dX3_readChoice_2 ⟨Nat.le_of_ble_eq_true rfl, Nat.le_of_ble_eq_true rfl⟩) hS (fun q _ h => hFc q h) hFc (fun u t H1 locs ht hvm hw hB hz1 hk1 hS => ?_)
  obtain ⟨hP1, hK1, hD1⟩ := hB
  rw [ht] at hP1
  obtain ⟨hP, hD⟩ := va_join (wr := []) (w1 := [(h0, .inr (3, [.ref tp, .ref cd, .int 0, .int 0, .int 0])), (tp, .inr (10, o10 gt))]) hP hD [0, 1] [] rfl rfl (by decide) (by decide) hk1 hFc hP1 hD1
  generalize H1 = H at hP hS ⊢
  have hP : va_P (dC, dI) classes [(h0, .inr (3, [.ref tp, .ref cd, .int 0, .int 0, .int 0])), (tp, .inr (10, o10 gt))] H := hP
  have hD : va_D A [(h0, .inr (3, [.ref tp, .ref cd, .int 0, .int 0, .int 0])), (tp, .inr (10, o10 gt))] := hD
  refine lv_aload_n hx hb dX3_readChoice_5 rfl (lv_at hl 0 rfl) ?_
  have hPc := hP.sub (ws' := [(h0, .inr (3, [.ref tp, .ref cd, .int 0, .int 0, .int 0])), (tp, .inr (10, o10 gt))]) [0, 1] rfl
  have hDc := hD.sub (ws' := [(h0, .inr (3, [.ref tp, .ref cd, .int 0, .int 0, .int 0])), (tp, .inr (10, o10 gt))]) [0, 1] (by decide) rfl
  have hKc := hK.sub (tys' := []) [] rfl
  have hFc := va_free (wc := [(h0, .inr (3, [.ref tp, .ref cd, .int 0, .int 0, .int 0])), (tp, .inr (10, o10 gt))]) hD hS hA [0, 1] rfl
  refine va_calli (va_runV (As := []) (rest := []) ⟨hx, hb, hml, hown, hwd⟩ (c_X3_next_b l dC dI h0 tp cd gt H.size) (cwV 0 hwd (gV wk_116 wk_117 wk_118 wk_119 wk_115) rfl rfl rfl (by decide +kernel) ⟨Nat.le_of_ble_eq_true rfl, Nat.le_of_ble_eq_true rfl⟩) ⟨fun a U g mk q => by obtain ⟨q0, q1, qP, qK, qD⟩ := q; exact ⟨q0, q1, qP, va_K.moved (u := U) (U := U.calling g mk a) (Vm.Alike.refl U.vm) qK, qD⟩, va_recv hKc hPc (ci := 3) (q0 := 0) rfl rfl, fun U hU hW => ⟨rfl, by rw [hU], by rw [hU]; exact hPc, va_K.moved hW.alike hKc, hDc.weaken (fun _ _ _ _ => trivial)⟩⟩ rfl rfl hl.1 rfl (lv_room (Nat.le_of_ble_eq_true rfl)) dX3_readChoice_6 ⟨Nat.le_of_ble_eq_true rfl, Nat.le_of_ble_eq_true rfl⟩) hS (fun q _ h => hFc q h) hFc (fun r_221 u t H1 locs ht hvm hw hB hz1 hk1 hS => ?_)
  obtain ⟨hP1, hK1, hD1⟩ := hB
  rw [ht] at hP1
  obtain ⟨hP, hD⟩ := va_join (wr := []) (w1 := [(h0, .inr (3, [.ref tp, .ref cd, .int 0, .int 0, .int 0])), (tp, .inr (10, o10 gt))]) hP hD [0, 1] [] rfl rfl (by decide) (by decide) hk1 hFc hP1 hD1
  generalize H1 = H at hP hS ⊢
  have hP : va_P (dC, dI) classes [(h0, .inr (3, [.ref tp, .ref cd, .int 0, .int 0, .int 0])), (tp, .inr (10, o10 gt))] H := hP
  have hD : va_D A [(h0, .inr (3, [.ref tp, .ref cd, .int 0, .int 0, .int 0])), (tp, .inr (10, o10 gt))] := hD
  try dsimp only at hw
  subst hw
  refine lv_bipush (v := 63) hx hb dX3_readChoice_9 (by decide) ?_
  refine lv_icmp_ne (tgt := 66) hx hb dX3_readChoice_11 (by decide) (fun c_222 => ?_) (fun c_222 => ?_)
  · skip
    have hP9 : va_P (dC, dI) classes [(h0, .inr (3, [.ref tp, .ref cd, .int 0, .int 0, .int 0])), (tp, .inr (10, o10 gt))] H := hP.sub [0, 1] rfl
    have hD9 : va_D A [(h0, .inr (3, [.ref tp, .ref cd, .int 0, .int 0, .int 0])), (tp, .inr (10, o10 gt))] := hD.sub [0, 1] (by decide) rfl
    have hK9 : va_K (dC, dI) classes [] s := hK.sub [] rfl
    exact W.vret hx hb hr (fun t ht hW => ⟨⟨(), rfl, trivial, by rw [ht]; exact hP9, va_K.moved hW.alike hK9, hD9⟩, hS.F ht⟩) hS.2.2 dX3_readChoice_66
  · exact absurd c_222 (by decide)
set_option maxHeartbeats 4000000 in
set_option maxRecDepth 100000 in
theorem c_X3_read (l : Launch) (dC : Nat → ClassId) (dI : Nat → Nat → Nat) (h0 : Nat) (tp : Nat) (cd : Nat) (gt : Nat → Nat) (into : Nat) (sz : Nat) : Met l yX3_read (Cond.code yX3_read cX3_read 2 (some .int) :: wA) ({ frames := 8, cells := 0, slots := 0, locals := 320 }) (va_Pc [.ref h0, .ref into] (fun U => U.heap.size = sz ∧ va_P (dC, dI) classes [(h0, .inr (3, [.ref tp, .ref cd, .int 0, .int 0, .int 0])), (tp, .inr (10, o10 gt))] U.heap ∧ va_K (dC, dI) classes [] U ∧ va_D (fun _ => True) [(h0, .inr (3, [.ref tp, .ref cd, .int 0, .int 0, .int 0])), (tp, .inr (10, o10 gt))])) (va_Qi (fun (r : Int32) (_ : Unit) => r = 0) (fun (_ : Unit) (t : State) => va_P (dC, dI) classes [(h0, .inr (3, [.ref tp, .ref into, .int 0, .int 0, .int 0])), (tp, .inr (10, o10 gt))] t.heap ∧ va_K (dC, dI) classes [] t ∧ va_D (va_A [(h0, .inr (3, [.ref tp, .ref cd, .int 0, .int 0, .int 0])), (tp, .inr (10, o10 gt))] sz) [(h0, .inr (3, [.ref tp, .ref into, .int 0, .int 0, .int 0])), (tp, .inr (10, o10 gt))]) (va_A [(h0, .inr (3, [.ref tp, .ref cd, .int 0, .int 0, .int 0])), (tp, .inr (10, o10 gt))] sz)) 0 0 (va_A [(h0, .inr (3, [.ref tp, .ref cd, .int 0, .int 0, .int 0])), (tp, .inr (10, o10 gt))] sz) := by
  refine Met.ofW (cc := cX3_read) (maxL := 2) (ret := (some .int)) (by decide) rfl ?_
  intro p e s m args below meth c s₁ B hml hv
  obtain ⟨rfl, hsz, hP, hK, hD0⟩ := hv
  have hx := B.exec
  have hb := B.bytes
  have hr := B.returns
  have hts := atoms_spec (ws := Cond.code yX3_read cX3_read 2 (some .int) :: wA) B.pre
  have hwd : ∀ w ∈ wA, w.before _ s = true := fun w h => hts w (List.mem_cons_of_mem _ h)
  have hown : s.vm.findClass RX3 = some m.cls := findClass_of_methodNamed B.named
  have hlocks := B.notSynchronized
  subst hsz
  have hD := hD0.self (sz := s.heap.size)
  generalize hAe : va_A [(h0, .inr (3, [.ref tp, .ref cd, .int 0, .int 0, .int 0])), (tp, .inr (10, o10 gt))] s.heap.size = A at hD ⊢
  have hA : ∀ q : Nat, s.heap.size ≤ q → A q := fun q h => by rw [← hAe]; exact Or.inr h
  have hS : va_S A s.heap s.heap [] := va_S.rf
  have hP : va_P (dC, dI) classes [(h0, .inr (3, [.ref tp, .ref cd, .int 0, .int 0, .int 0])), (tp, .inr (10, o10 gt))] s.heap := hP
  have hl := lv_entry ([.ref h0, .ref into]) (n := 2) (Nat.le_of_ble_eq_true rfl)
  rw [lg_entry_eq]
  generalize (lg_sl ([.ref h0, .ref into]) ++ List.replicate (2 - (lg_sl ([.ref h0, .ref into])).length) Slot.unset).toArray = ls at hl ⊢
  have hl : lv_has ls 2 [(0, .ref h0), (1, .ref into)] := hl
  obtain ⟨H, eH⟩ : ∃ z, z = s.heap := ⟨_, rfl⟩
  have hP : va_P (dC, dI) classes [(h0, .inr (3, [.ref tp, .ref cd, .int 0, .int 0, .int 0])), (tp, .inr (10, o10 gt))] H := by rw [eH]; exact hP
  have hS : va_S A s.heap H [] := by rw [eH]; exact va_S.rf
  refine my_heap eH ?_
  refine lv_aload_n hx hb dX3_read_0 rfl (lv_at hl 0 rfl) ?_
  refine lv_aload_n hx hb dX3_read_1 rfl (lv_at hl 1 rfl) ?_
  refine va_put (D := (dC, dI)) (ci := 3) (v := .ref into) (ty := .array .int) (C := RX3) (T := TX3) (N := 5) hx hb hwd inA_X3 tyX3 tyX3_ok nmX3 hown hK hP hD hS 0 rfl rfl 1 (by decide) (hwd _ wk_140) (fun _ h9 => h9) rfl (by decide +kernel) rfl rfl (Nat.le_of_ble_eq_true rfl) dX3_read_2 (fun H locs hP hD hS => ?_)
  have hP : va_P (dC, dI) classes [(h0, .inr (3, [.ref tp, .ref into, .int 0, .int 0, .int 0])), (tp, .inr (10, o10 gt))] H := hP
  have hD : va_D A [(h0, .inr (3, [.ref tp, .ref into, .int 0, .int 0, .int 0])), (tp, .inr (10, o10 gt))] := hD
  refine lv_aload_n hx hb dX3_read_5 rfl (lv_at hl 0 rfl) ?_
  refine lv_iconst (v := 0) hx hb dX3_read_6 (by decide) ?_
  refine va_put (D := (dC, dI)) (ci := 3) (v := .int 0) (ty := .int) (C := RX3) (T := TX3) (N := 5) hx hb hwd inA_X3 tyX3 tyX3_ok nmX3 hown hK hP hD hS 0 rfl rfl 2 (by decide) (hwd _ wk_141) (fun _ h9 => h9) rfl (by decide +kernel) rfl rfl (Nat.le_of_ble_eq_true rfl) dX3_read_7 (fun H locs hP hD hS => ?_)
  have hP : va_P (dC, dI) classes [(h0, .inr (3, [.ref tp, .ref into, .int 0, .int 0, .int 0])), (tp, .inr (10, o10 gt))] H := hP
  have hD : va_D A [(h0, .inr (3, [.ref tp, .ref into, .int 0, .int 0, .int 0])), (tp, .inr (10, o10 gt))] := hD
  refine lv_aload_n hx hb dX3_read_10 rfl (lv_at hl 0 rfl) ?_
  refine lv_iconst (v := 0) hx hb dX3_read_11 (by decide) ?_
  refine va_put (D := (dC, dI)) (ci := 3) (v := .int 0) (ty := .int) (C := RX3) (T := TX3) (N := 5) hx hb hwd inA_X3 tyX3 tyX3_ok nmX3 hown hK hP hD hS 0 rfl rfl 3 (by decide) (hwd _ wk_106) (fun _ h9 => h9) rfl (by decide +kernel) rfl rfl (Nat.le_of_ble_eq_true rfl) dX3_read_12 (fun H locs hP hD hS => ?_)
  have hP : va_P (dC, dI) classes [(h0, .inr (3, [.ref tp, .ref into, .int 0, .int 0, .int 0])), (tp, .inr (10, o10 gt))] H := hP
  have hD : va_D A [(h0, .inr (3, [.ref tp, .ref into, .int 0, .int 0, .int 0])), (tp, .inr (10, o10 gt))] := hD
  refine lv_aload_n hx hb dX3_read_15 rfl (lv_at hl 0 rfl) ?_
  refine lv_iconst (v := (-1)) hx hb dX3_read_16 (by decide) ?_
  refine va_put (D := (dC, dI)) (ci := 3) (v := .int (-1)) (ty := .int) (C := RX3) (T := TX3) (N := 5) hx hb hwd inA_X3 tyX3 tyX3_ok nmX3 hown hK hP hD hS 0 rfl rfl 4 (by decide) (hwd _ wk_104) (fun _ h9 => h9) rfl (by decide +kernel) rfl rfl (Nat.le_of_ble_eq_true rfl) dX3_read_17 (fun H locs hP hD hS => ?_)
  have hP : va_P (dC, dI) classes [(h0, .inr (3, [.ref tp, .ref into, .int 0, .int 0, .int (-1)])), (tp, .inr (10, o10 gt))] H := hP
  have hD : va_D A [(h0, .inr (3, [.ref tp, .ref into, .int 0, .int 0, .int (-1)])), (tp, .inr (10, o10 gt))] := hD
  refine lv_aload_n hx hb dX3_read_20 rfl (lv_at hl 0 rfl) ?_
  refine lv_iconst (v := 0) hx hb dX3_read_21 (by decide) ?_
  have hPc := hP.sub (ws' := [(h0, .inr (3, [.ref tp, .ref into, .int 0, .int 0, .int (-1)])), (tp, .inr (10, o10 gt))]) [0, 1] rfl
  have hDc := hD.sub (ws' := [(h0, .inr (3, [.ref tp, .ref into, .int 0, .int 0, .int (-1)])), (tp, .inr (10, o10 gt))]) [0, 1] (by decide) rfl
  have hKc := hK.sub (tys' := []) [] rfl
  have hFc := va_free (wc := [(h0, .inr (3, [.ref tp, .ref into, .int 0, .int 0, .int (-1)])), (tp, .inr (10, o10 gt))]) hD hS hA [0, 1] rfl
  refine va_callv (va_runV (As := [.int 0]) (rest := []) ⟨hx, hb, hml, hown, hwd⟩ (c_X3_readChoice l dC dI h0 tp into gt H.size) (cwV 1 hwd (gV wk_142 wk_143 wk_144 wk_145 wk_115) rfl rfl rfl (by decide +kernel) ⟨Nat.le_of_ble_eq_true rfl, Nat.le_of_ble_eq_true rfl⟩) ⟨fun a U g mk q => by obtain ⟨q0, q1, qP, qK, qD⟩ := q; exact ⟨q0, q1, qP, va_K.moved (u := U) (U := U.calling g mk a) (Vm.Alike.refl U.vm) qK, qD⟩, va_recv hKc hPc (ci := 3) (q0 := 0) rfl rfl, fun U hU hW => ⟨rfl, by rw [hU], by rw [hU]; exact hPc, va_K.moved hW.alike hKc, hDc.weaken (fun _ _ _ _ => trivial)⟩⟩ rfl rfl hl.1 rfl (lv_room (Nat.le_of_ble_eq_true rfl)) dX3_read_22 ⟨Nat.le_of_ble_eq_true rfl, Nat.le_of_ble_eq_true rfl⟩) hS (fun q _ h => hFc q h) hFc (fun u t H1 locs ht hvm hw hB hz1 hk1 hS => ?_)
  obtain ⟨hP1, hK1, hD1⟩ := hB
  rw [ht] at hP1
  obtain ⟨hP, hD⟩ := va_join (wr := []) (w1 := [(h0, .inr (3, [.ref tp, .ref into, .int 0, .int 0, .int 0])), (tp, .inr (10, o10 gt))]) hP hD [0, 1] [] rfl rfl (by decide) (by decide) hk1 hFc hP1 hD1
  generalize H1 = H at hP hS ⊢
  have hP : va_P (dC, dI) classes [(h0, .inr (3, [.ref tp, .ref into, .int 0, .int 0, .int 0])), (tp, .inr (10, o10 gt))] H := hP
  have hD : va_D A [(h0, .inr (3, [.ref tp, .ref into, .int 0, .int 0, .int 0])), (tp, .inr (10, o10 gt))] := hD
  refine lv_aload_n hx hb dX3_read_25 rfl (lv_at hl 0 rfl) ?_
  refine va_get (D := (dC, dI)) (ci := 3) (v := .int 0) (C := RX3) (T := TX3) (N := 5) hx hb hwd inA_X3 hown hK hP 0 rfl rfl 3 (by decide) (hwd _ wk_106) (fun _ h9 => h9) rfl dX3_read_26 ?_
  refine lv_aload_n hx hb dX3_read_29 rfl (lv_at hl 0 rfl) ?_
  refine va_get (D := (dC, dI)) (ci := 3) (v := .ref tp) (C := RX3) (T := TX3) (N := 5) hx hb hwd inA_X3 hown hK hP 0 rfl rfl 0 (by decide) (hwd _ wk_105) (fun _ h9 => h9) rfl dX3_read_30 ?_
  refine va_get (D := (dC, dI)) (ci := 10) (v := .int 0) (C := RX10) (T := TX10) (N := 2) hx hb hwd inA_X10 hown hK hP 1 rfl rfl 0 (by decide) (hwd _ wk_146) (fun _ h9 => h9) rfl dX3_read_33 ?_
  refine lv_icmp_ge (tgt := 43) hx hb dX3_read_36 (by decide) (fun c_224 => ?_) (fun c_224 => ?_)
  · skip
    refine lv_aload_n hx hb dX3_read_43 rfl (lv_at hl 0 rfl) ?_
    refine va_get (D := (dC, dI)) (ci := 3) (v := .int 0) (C := RX3) (T := TX3) (N := 5) hx hb hwd inA_X3 hown hK hP 0 rfl rfl 4 (by decide) (hwd _ wk_104) (fun _ h9 => h9) rfl dX3_read_44 ?_
    have hP9 : va_P (dC, dI) classes [(h0, .inr (3, [.ref tp, .ref into, .int 0, .int 0, .int 0])), (tp, .inr (10, o10 gt))] H := hP.sub [0, 1] rfl
    have hD9 : va_D A [(h0, .inr (3, [.ref tp, .ref into, .int 0, .int 0, .int 0])), (tp, .inr (10, o10 gt))] := hD.sub [0, 1] (by decide) rfl
    have hK9 : va_K (dC, dI) classes [] s := hK.sub [] rfl
    exact W.iret (v := 0) hx hb hr (fun t ht hW => ⟨⟨0, (), rfl, rfl, by rw [ht]; exact hP9, va_K.moved hW.alike hK9, hD9⟩, hS.F ht⟩) hS.2.2 dX3_read_47
  · exact absurd c_224 (by decide)
set_option maxHeartbeats 4000000 in
set_option maxRecDepth 100000 in
theorem c_X11_law (l : Launch) (dC : Nat → ClassId) (dI : Nat → Nat → Nat) (h0 : Nat) (g : Nat → Nat) (gl : Nat → Nat) (cl4 : ClassId) (r : Nat → Nat) (cd : Nat) (gt : Nat → Nat) (sz : Nat) (p0 : Int32) : Met l yX11_law (Cond.code yX11_law cX11_law 3 (some .int) :: wA) ({ frames := 9, cells := 0, slots := 0, locals := 360 }) (va_Pc [.ref h0, .int p0] (fun U => U.heap.size = sz ∧ va_P (dC, dI) classes [(h0, .inr (11, o11 g)), (g 5, .inr (4, o4 gl)), (gl 4, .inl (cl4, 10, .inr (.inr (.inr (.inr (fun i => if i < 10 then some (r i) else none)))))), (g 6, .inr (3, [.ref (g 4), .ref cd, .int 0, .int 0, .int 0])), (g 4, .inr (10, o10 gt))] U.heap ∧ va_K (dC, dI) classes [(cl4, (.array .int))] U ∧ va_D (fun _ => True) [(h0, .inr (11, o11 g)), (g 5, .inr (4, o4 gl)), (gl 4, .inl (cl4, 10, .inr (.inr (.inr (.inr (fun i => if i < 10 then some (r i) else none)))))), (g 6, .inr (3, [.ref (g 4), .ref cd, .int 0, .int 0, .int 0])), (g 4, .inr (10, o10 gt))])) (va_Qi (fun (r : Int32) (_ : Unit) => r = f_law p0) (fun (_ : Unit) (_ : State) => True) (va_A [(h0, .inr (11, o11 g)), (g 5, .inr (4, o4 gl)), (gl 4, .inl (cl4, 10, .inr (.inr (.inr (.inr (fun i => if i < 10 then some (r i) else none)))))), (g 6, .inr (3, [.ref (g 4), .ref cd, .int 0, .int 0, .int 0])), (g 4, .inr (10, o10 gt))] sz)) 0 0 (va_A [(h0, .inr (11, o11 g)), (g 5, .inr (4, o4 gl)), (gl 4, .inl (cl4, 10, .inr (.inr (.inr (.inr (fun i => if i < 10 then some (r i) else none)))))), (g 6, .inr (3, [.ref (g 4), .ref cd, .int 0, .int 0, .int 0])), (g 4, .inr (10, o10 gt))] sz) := by
  refine Met.ofW (cc := cX11_law) (maxL := 3) (ret := (some .int)) (by decide) rfl ?_
  intro p e s m args below meth c s₁ B hml hv
  obtain ⟨rfl, hsz, hP, hK, hD0⟩ := hv
  have hx := B.exec
  have hb := B.bytes
  have hr := B.returns
  have hts := atoms_spec (ws := Cond.code yX11_law cX11_law 3 (some .int) :: wA) B.pre
  have hwd : ∀ w ∈ wA, w.before _ s = true := fun w h => hts w (List.mem_cons_of_mem _ h)
  have hown : s.vm.findClass RX11 = some m.cls := findClass_of_methodNamed B.named
  have hlocks := B.notSynchronized
  subst hsz
  have hD := hD0.self (sz := s.heap.size)
  generalize hAe : va_A [(h0, .inr (11, o11 g)), (g 5, .inr (4, o4 gl)), (gl 4, .inl (cl4, 10, .inr (.inr (.inr (.inr (fun i => if i < 10 then some (r i) else none)))))), (g 6, .inr (3, [.ref (g 4), .ref cd, .int 0, .int 0, .int 0])), (g 4, .inr (10, o10 gt))] s.heap.size = A at hD ⊢
  have hA : ∀ q : Nat, s.heap.size ≤ q → A q := fun q h => by rw [← hAe]; exact Or.inr h
  have hS : va_S A s.heap s.heap [] := va_S.rf
  have hP : va_P (dC, dI) classes [(h0, .inr (11, o11 g)), (g 5, .inr (4, o4 gl)), (gl 4, .inl (cl4, 10, .inr (.inr (.inr (.inr (fun i => if i < 10 then some (r i) else none)))))), (g 6, .inr (3, [.ref (g 4), .ref cd, .int 0, .int 0, .int 0])), (g 4, .inr (10, o10 gt))] s.heap := hP
  have hl := lv_entry ([.ref h0, .int p0]) (n := 3) (Nat.le_of_ble_eq_true rfl)
  rw [lg_entry_eq]
  generalize (lg_sl ([.ref h0, .int p0]) ++ List.replicate (3 - (lg_sl ([.ref h0, .int p0])).length) Slot.unset).toArray = ls at hl ⊢
  have hl : lv_has ls 3 [(0, .ref h0), (1, .int p0)] := hl
  obtain ⟨H, eH⟩ : ∃ z, z = s.heap := ⟨_, rfl⟩
  have hP : va_P (dC, dI) classes [(h0, .inr (11, o11 g)), (g 5, .inr (4, o4 gl)), (gl 4, .inl (cl4, 10, .inr (.inr (.inr (.inr (fun i => if i < 10 then some (r i) else none)))))), (g 6, .inr (3, [.ref (g 4), .ref cd, .int 0, .int 0, .int 0])), (g 4, .inr (10, o10 gt))] H := by rw [eH]; exact hP
  have hS : va_S A s.heap H [] := by rw [eH]; exact va_S.rf
  refine my_heap eH ?_
  refine lv_iload_n hx hb dX11_law_0 rfl (lv_at hl 1 rfl) ?_
  have hPc := hP.sub (ws' := []) [] rfl
  have hDc := hD.sub (ws' := []) [] (by decide) rfl
  have hKc := hK.sub (tys' := []) [] rfl
  have hFc := va_free (wc := []) hD hS hA [] rfl
  refine va_calli (va_runS (As := [.int p0]) (rest := []) ⟨hx, hb, hml, hown, hwd⟩ (c_X11_isDay l dC dI  H.size p0) (va_cwS 1 hwd (gT wk_147 wk_148 wk_149 wk_3) rfl rfl rfl (by decide +kernel) ⟨Nat.le_of_ble_eq_true rfl, Nat.le_of_ble_eq_true rfl⟩) ⟨fun a U g mk q => by obtain ⟨q0, q1, qP, qK, qD⟩ := q; exact ⟨q0, q1, qP, va_K.moved (u := U) (U := U.calling g mk a) (Vm.Alike.refl U.vm) qK, qD⟩, fun U hU hW => ⟨rfl, by rw [hU], by rw [hU]; exact hPc, va_K.moved hW.alike hKc, hDc.weaken (fun _ _ _ _ => trivial)⟩⟩ rfl rfl hl.1 rfl (lv_room (Nat.le_of_ble_eq_true rfl)) dX11_law_1 ⟨Nat.le_of_ble_eq_true rfl, Nat.le_of_ble_eq_true rfl⟩) hS (fun q _ h => hFc q h) hFc (fun r_225 u t H1 locs ht hvm hw hB hz1 hk1 hS => ?_)
  obtain ⟨hP1, hK1, hD1⟩ := hB
  rw [ht] at hP1
  obtain ⟨hP, hD⟩ := va_join (wr := [(h0, .inr (11, o11 g)), (g 5, .inr (4, o4 gl)), (gl 4, .inl (cl4, 10, .inr (.inr (.inr (.inr (fun i => if i < 10 then some (r i) else none)))))), (g 6, .inr (3, [.ref (g 4), .ref cd, .int 0, .int 0, .int 0])), (g 4, .inr (10, o10 gt))]) (w1 := []) hP hD [] [0, 1, 2, 3, 4] rfl rfl (by decide) (by decide) hk1 hFc hP1 hD1
  generalize H1 = H at hP hS ⊢
  have hP : va_P (dC, dI) classes [(h0, .inr (11, o11 g)), (g 5, .inr (4, o4 gl)), (gl 4, .inl (cl4, 10, .inr (.inr (.inr (.inr (fun i => if i < 10 then some (r i) else none)))))), (g 6, .inr (3, [.ref (g 4), .ref cd, .int 0, .int 0, .int 0])), (g 4, .inr (10, o10 gt))] H := hP
  have hD : va_D A [(h0, .inr (11, o11 g)), (g 5, .inr (4, o4 gl)), (gl 4, .inl (cl4, 10, .inr (.inr (.inr (.inr (fun i => if i < 10 then some (r i) else none)))))), (g 6, .inr (3, [.ref (g 4), .ref cd, .int 0, .int 0, .int 0])), (g 4, .inr (10, o10 gt))] := hD
  try dsimp only at hw
  subst hw
  refine lv_if_ne (tgt := 9) hx hb dX11_law_4 (by decide) (fun c_226 => ?_) (fun c_226 => ?_)
  · skip
    refine lv_aload_n hx hb dX11_law_9 rfl (lv_at hl 0 rfl) ?_
    refine va_get (D := (dC, dI)) (ci := 11) (v := .ref (g 5)) (C := RX11) (T := TX11) (N := 14) hx hb hwd inA_X11 hown hK hP 0 rfl rfl 5 (by decide) (hwd _ wk_150) (fun _ h9 => h9) rfl dX11_law_10 ?_
    refine va_get (D := (dC, dI)) (ci := 4) (v := .int 0) (C := RX4) (T := TX4) (N := 7) hx hb hwd inA_X4 hown hK hP 1 rfl rfl 0 (by decide) (hwd _ wk_151) (fun _ h9 => h9) rfl dX11_law_13 ?_
    refine lv_bipush (v := 10) hx hb dX11_law_16 (by decide) ?_
    refine lv_icmp_lt (tgt := 24) hx hb dX11_law_18 (by decide) (fun c_227 => ?_) (fun c_227 => ?_)
    · skip
      refine lv_aload_n hx hb dX11_law_24 rfl (lv_at hl 0 rfl) ?_
      refine va_get (D := (dC, dI)) (ci := 11) (v := .ref (g 6)) (C := RX11) (T := TX11) (N := 14) hx hb hwd inA_X11 hown hK hP 0 rfl rfl 6 (by decide) (hwd _ wk_152) (fun _ h9 => h9) rfl dX11_law_25 ?_
      refine lv_aload_n hx hb dX11_law_28 rfl (lv_at hl 0 rfl) ?_
      refine va_get (D := (dC, dI)) (ci := 11) (v := .ref (g 5)) (C := RX11) (T := TX11) (N := 14) hx hb hwd inA_X11 hown hK hP 0 rfl rfl 5 (by decide) (hwd _ wk_150) (fun _ h9 => h9) rfl dX11_law_29 ?_
      refine va_get (D := (dC, dI)) (ci := 4) (v := .ref (gl 4)) (C := RX4) (T := TX4) (N := 7) hx hb hwd inA_X4 hown hK hP 1 rfl rfl 4 (by decide) (hwd _ wk_153) (fun _ h9 => h9) rfl dX11_law_32 ?_
      refine lv_aload_n hx hb dX11_law_35 rfl (lv_at hl 0 rfl) ?_
      refine va_get (D := (dC, dI)) (ci := 11) (v := .ref (g 5)) (C := RX11) (T := TX11) (N := 14) hx hb hwd inA_X11 hown hK hP 0 rfl rfl 5 (by decide) (hwd _ wk_150) (fun _ h9 => h9) rfl dX11_law_36 ?_
      refine va_get (D := (dC, dI)) (ci := 4) (v := .int 0) (C := RX4) (T := TX4) (N := 7) hx hb hwd inA_X4 hown hK hP 1 rfl rfl 0 (by decide) (hwd _ wk_151) (fun _ h9 => h9) rfl dX11_law_39 ?_
      refine my_aald hx hb hK hP 2 0 rfl rfl (i := 0) (vpc (by decide)) dX11_law_42 ?_
      refine my_any (v := .ref (r 0)) rfl ?_
      have hPc := hP.sub (ws' := [(g 6, .inr (3, [.ref (g 4), .ref cd, .int 0, .int 0, .int 0])), (g 4, .inr (10, o10 gt))]) [3, 4] rfl
      have hDc := hD.sub (ws' := [(g 6, .inr (3, [.ref (g 4), .ref cd, .int 0, .int 0, .int 0])), (g 4, .inr (10, o10 gt))]) [3, 4] (by decide) rfl
      have hKc := hK.sub (tys' := []) [] rfl
      have hFc := va_free (wc := [(g 6, .inr (3, [.ref (g 4), .ref cd, .int 0, .int 0, .int 0])), (g 4, .inr (10, o10 gt))]) hD hS hA [3, 4] rfl
      refine va_calli (va_runV (As := [.ref (r 0)]) (rest := []) ⟨hx, hb, hml, hown, hwd⟩ (c_X3_read l dC dI (g 6) (g 4) cd gt (r 0) H.size) (cwV 1 hwd (gV wk_154 wk_155 wk_156 wk_157 wk_115) rfl rfl rfl (by decide +kernel) ⟨Nat.le_of_ble_eq_true rfl, Nat.le_of_ble_eq_true rfl⟩) ⟨fun a U g mk q => by obtain ⟨q0, q1, qP, qK, qD⟩ := q; exact ⟨q0, q1, qP, va_K.moved (u := U) (U := U.calling g mk a) (Vm.Alike.refl U.vm) qK, qD⟩, va_recv hKc hPc (ci := 3) (q0 := 0) rfl rfl, fun U hU hW => ⟨rfl, by rw [hU], by rw [hU]; exact hPc, va_K.moved hW.alike hKc, hDc.weaken (fun _ _ _ _ => trivial)⟩⟩ rfl rfl hl.1 rfl (lv_room (Nat.le_of_ble_eq_true rfl)) dX11_law_43 ⟨Nat.le_of_ble_eq_true rfl, Nat.le_of_ble_eq_true rfl⟩) hS (fun q _ h => hFc q h) hFc (fun r_228 u t H1 locs ht hvm hw hB hz1 hk1 hS => ?_)
      obtain ⟨hP1, hK1, hD1⟩ := hB
      rw [ht] at hP1
      obtain ⟨hP, hD⟩ := va_join (wr := [(h0, .inr (11, o11 g)), (g 5, .inr (4, o4 gl)), (gl 4, .inl (cl4, 10, .inr (.inr (.inr (.inr (fun i => if i < 10 then some (r i) else none))))))]) (w1 := [(g 6, .inr (3, [.ref (g 4), .ref (r 0), .int 0, .int 0, .int 0])), (g 4, .inr (10, o10 gt))]) hP hD [3, 4] [0, 1, 2] rfl rfl (by decide) (by decide) hk1 hFc hP1 hD1
      generalize H1 = H at hP hS ⊢
      have hP : va_P (dC, dI) classes [(h0, .inr (11, o11 g)), (g 5, .inr (4, o4 gl)), (gl 4, .inl (cl4, 10, .inr (.inr (.inr (.inr (fun i => if i < 10 then some (r i) else none)))))), (g 6, .inr (3, [.ref (g 4), .ref (r 0), .int 0, .int 0, .int 0])), (g 4, .inr (10, o10 gt))] H := hP
      have hD : va_D A [(h0, .inr (11, o11 g)), (g 5, .inr (4, o4 gl)), (gl 4, .inl (cl4, 10, .inr (.inr (.inr (.inr (fun i => if i < 10 then some (r i) else none)))))), (g 6, .inr (3, [.ref (g 4), .ref (r 0), .int 0, .int 0, .int 0])), (g 4, .inr (10, o10 gt))] := hD
      try dsimp only at hw
      subst hw
      refine lv_istore_n (lv' := [(2, .int 0), (0, .ref h0), (1, .int p0)]) hx hb dX11_law_46 rfl hl (by decide) rfl (fun ls hl => ?_)
      refine lv_aload_n hx hb dX11_law_47 rfl (lv_at hl 1 rfl) ?_
      refine va_get (D := (dC, dI)) (ci := 11) (v := .ref (g 4)) (C := RX11) (T := TX11) (N := 14) hx hb hwd inA_X11 hown hK hP 0 rfl rfl 4 (by decide) (hwd _ wk_96) (fun _ h9 => h9) rfl dX11_law_48 ?_
      refine lv_iconst (v := 0) hx hb dX11_law_51 (by decide) ?_
      refine va_put (D := (dC, dI)) (ci := 10) (v := .int 0) (ty := .int) (C := RX10) (T := TX10) (N := 2) hx hb hwd inA_X10 tyX10 tyX10_ok nmX10 hown hK hP hD hS 4 rfl rfl 0 (by decide) (hwd _ wk_158) (fun _ h9 => h9) rfl (by decide +kernel) rfl rfl (Nat.le_of_ble_eq_true rfl) dX11_law_52 (fun H locs hP hD hS => ?_)
      have hP : va_P (dC, dI) classes [(h0, .inr (11, o11 g)), (g 5, .inr (4, o4 gl)), (gl 4, .inl (cl4, 10, .inr (.inr (.inr (.inr (fun i => if i < 10 then some (r i) else none)))))), (g 6, .inr (3, [.ref (g 4), .ref (r 0), .int 0, .int 0, .int 0])), (g 4, .inr (10, o10 gt))] H := hP
      have hD : va_D A [(h0, .inr (11, o11 g)), (g 5, .inr (4, o4 gl)), (gl 4, .inl (cl4, 10, .inr (.inr (.inr (.inr (fun i => if i < 10 then some (r i) else none)))))), (g 6, .inr (3, [.ref (g 4), .ref (r 0), .int 0, .int 0, .int 0])), (g 4, .inr (10, o10 gt))] := hD
      refine lv_iload_n hx hb dX11_law_55 rfl (lv_at hl 0 rfl) ?_
      refine lv_iconst (v := (-1)) hx hb dX11_law_56 (by decide) ?_
      refine lv_icmp_eq (tgt := 65) hx hb dX11_law_57 (by decide) (fun c_229 => ?_) (fun c_229 => ?_)
      · exact absurd c_229 (by decide)
      · skip
        refine lv_bipush (v := (-100)) hx hb dX11_law_60 (by decide) ?_
        refine lv_iload_n hx hb dX11_law_62 rfl (lv_at hl 0 rfl) ?_
        refine lv_isub hx hb dX11_law_63 ?_
        refine my_top (v := (-100)) (by decide) ?_
        exact W.iret (v := (-100)) hx hb hr (fun t ht hW => ⟨⟨(-100), (), rfl, by unfold f_law; rw [if_neg c_226], trivial⟩, hS.F ht⟩) hS.2.2 dX11_law_64
    · exact absurd c_227 (by decide)
  · skip
    refine lv_iconst (v := (-1)) hx hb dX11_law_7 (by decide) ?_
    exact W.iret (v := (-1)) hx hb hr (fun t ht hW => ⟨⟨(-1), (), rfl, by unfold f_law; rw [if_pos c_226], trivial⟩, hS.F ht⟩) hS.2.2 dX11_law_8
set_option maxHeartbeats 4000000 in
set_option maxRecDepth 100000 in
theorem c_X12_look_a (l : Launch) (dC : Nat → ClassId) (dI : Nat → Nat → Nat) (h0 : Nat) (g : Nat → Nat) (sz : Nat) : Met l yX12_look (Cond.code yX12_look cX12_look 1 (some .int) :: wA) ({ frames := 1, cells := 0, slots := 0, locals := 40 }) (va_Pc [.ref h0] (fun U => U.heap.size = sz ∧ va_P (dC, dI) classes [(h0, .inr (12, oM g (-1)))] U.heap ∧ va_K (dC, dI) classes [] U ∧ va_D (fun _ => True) [(h0, .inr (12, oM g (-1)))])) (va_Qi (fun (r : Int32) (_ : Unit) => r = (-1)) (fun (_ : Unit) (t : State) => va_P (dC, dI) classes [(h0, .inr (12, oM g (-1)))] t.heap ∧ va_K (dC, dI) classes [] t ∧ va_D (va_A [(h0, .inr (12, oM g (-1)))] sz) [(h0, .inr (12, oM g (-1)))]) (va_A [(h0, .inr (12, oM g (-1)))] sz)) 0 0 (va_A [(h0, .inr (12, oM g (-1)))] sz) := by
  refine Met.ofW (cc := cX12_look) (maxL := 1) (ret := (some .int)) (by decide) rfl ?_
  intro p e s m args below meth c s₁ B hml hv
  obtain ⟨rfl, hsz, hP, hK, hD0⟩ := hv
  have hx := B.exec
  have hb := B.bytes
  have hr := B.returns
  have hts := atoms_spec (ws := Cond.code yX12_look cX12_look 1 (some .int) :: wA) B.pre
  have hwd : ∀ w ∈ wA, w.before _ s = true := fun w h => hts w (List.mem_cons_of_mem _ h)
  have hown : s.vm.findClass RX12 = some m.cls := findClass_of_methodNamed B.named
  have hlocks := B.notSynchronized
  subst hsz
  have hD := hD0.self (sz := s.heap.size)
  generalize hAe : va_A [(h0, .inr (12, oM g (-1)))] s.heap.size = A at hD ⊢
  have hA : ∀ q : Nat, s.heap.size ≤ q → A q := fun q h => by rw [← hAe]; exact Or.inr h
  have hS : va_S A s.heap s.heap [] := va_S.rf
  have hP : va_P (dC, dI) classes [(h0, .inr (12, oM g (-1)))] s.heap := hP
  have hl := lv_entry ([.ref h0]) (n := 1) (Nat.le_of_ble_eq_true rfl)
  rw [lg_entry_eq]
  generalize (lg_sl ([.ref h0]) ++ List.replicate (1 - (lg_sl ([.ref h0])).length) Slot.unset).toArray = ls at hl ⊢
  have hl : lv_has ls 1 [(0, .ref h0)] := hl
  obtain ⟨H, eH⟩ : ∃ z, z = s.heap := ⟨_, rfl⟩
  have hP : va_P (dC, dI) classes [(h0, .inr (12, oM g (-1)))] H := by rw [eH]; exact hP
  have hS : va_S A s.heap H [] := by rw [eH]; exact va_S.rf
  refine my_heap eH ?_
  refine lv_aload_n hx hb dX12_look_0 rfl (lv_at hl 0 rfl) ?_
  refine va_get (D := (dC, dI)) (ci := 12) (v := .int 0) (C := RX12) (T := TX12) (N := 63) hx hb hwd inA_X12 hown hK hP 0 rfl rfl 39 (by decide) (hwd _ wk_159) (fun _ h9 => h9) rfl dX12_look_1 ?_
  refine lv_aload_n hx hb dX12_look_4 rfl (lv_at hl 0 rfl) ?_
  refine va_get (D := (dC, dI)) (ci := 12) (v := .int 0) (C := RX12) (T := TX12) (N := 63) hx hb hwd inA_X12 hown hK hP 0 rfl rfl 30 (by decide) (hwd _ wk_102) (fun _ h9 => h9) rfl dX12_look_5 ?_
  refine lv_icmp_ge (tgt := 23) hx hb dX12_look_8 (by decide) (fun c_230 => ?_) (fun c_230 => ?_)
  · skip
    refine lv_iconst (v := (-1)) hx hb dX12_look_23 (by decide) ?_
    have hP9 : va_P (dC, dI) classes [(h0, .inr (12, oM g (-1)))] H := hP.sub [0] rfl
    have hD9 : va_D A [(h0, .inr (12, oM g (-1)))] := hD.sub [0] (by decide) rfl
    have hK9 : va_K (dC, dI) classes [] s := hK.sub [] rfl
    exact W.iret (v := (-1)) hx hb hr (fun t ht hW => ⟨⟨(-1), (), rfl, rfl, by rw [ht]; exact hP9, va_K.moved hW.alike hK9, hD9⟩, hS.F ht⟩) hS.2.2 dX12_look_24
  · exact absurd c_230 (by decide)
set_option maxHeartbeats 4000000 in
set_option maxRecDepth 100000 in
theorem c_X12_look_b (l : Launch) (dC : Nat → ClassId) (dI : Nat → Nat → Nat) (h0 : Nat) (g : Nat → Nat) (sz : Nat) : Met l yX12_look (Cond.code yX12_look cX12_look 1 (some .int) :: wA) ({ frames := 1, cells := 0, slots := 0, locals := 40 }) (va_Pc [.ref h0] (fun U => U.heap.size = sz ∧ va_P (dC, dI) classes [(h0, .inr (12, oM g 0))] U.heap ∧ va_K (dC, dI) classes [] U ∧ va_D (fun _ => True) [(h0, .inr (12, oM g 0))])) (va_Qi (fun (r : Int32) (_ : Unit) => r = (-1)) (fun (_ : Unit) (t : State) => va_P (dC, dI) classes [(h0, .inr (12, oM g 0))] t.heap ∧ va_K (dC, dI) classes [] t ∧ va_D (va_A [(h0, .inr (12, oM g 0))] sz) [(h0, .inr (12, oM g 0))]) (va_A [(h0, .inr (12, oM g 0))] sz)) 0 0 (va_A [(h0, .inr (12, oM g 0))] sz) := by
  refine Met.ofW (cc := cX12_look) (maxL := 1) (ret := (some .int)) (by decide) rfl ?_
  intro p e s m args below meth c s₁ B hml hv
  obtain ⟨rfl, hsz, hP, hK, hD0⟩ := hv
  have hx := B.exec
  have hb := B.bytes
  have hr := B.returns
  have hts := atoms_spec (ws := Cond.code yX12_look cX12_look 1 (some .int) :: wA) B.pre
  have hwd : ∀ w ∈ wA, w.before _ s = true := fun w h => hts w (List.mem_cons_of_mem _ h)
  have hown : s.vm.findClass RX12 = some m.cls := findClass_of_methodNamed B.named
  have hlocks := B.notSynchronized
  subst hsz
  have hD := hD0.self (sz := s.heap.size)
  generalize hAe : va_A [(h0, .inr (12, oM g 0))] s.heap.size = A at hD ⊢
  have hA : ∀ q : Nat, s.heap.size ≤ q → A q := fun q h => by rw [← hAe]; exact Or.inr h
  have hS : va_S A s.heap s.heap [] := va_S.rf
  have hP : va_P (dC, dI) classes [(h0, .inr (12, oM g 0))] s.heap := hP
  have hl := lv_entry ([.ref h0]) (n := 1) (Nat.le_of_ble_eq_true rfl)
  rw [lg_entry_eq]
  generalize (lg_sl ([.ref h0]) ++ List.replicate (1 - (lg_sl ([.ref h0])).length) Slot.unset).toArray = ls at hl ⊢
  have hl : lv_has ls 1 [(0, .ref h0)] := hl
  obtain ⟨H, eH⟩ : ∃ z, z = s.heap := ⟨_, rfl⟩
  have hP : va_P (dC, dI) classes [(h0, .inr (12, oM g 0))] H := by rw [eH]; exact hP
  have hS : va_S A s.heap H [] := by rw [eH]; exact va_S.rf
  refine my_heap eH ?_
  refine lv_aload_n hx hb dX12_look_0 rfl (lv_at hl 0 rfl) ?_
  refine va_get (D := (dC, dI)) (ci := 12) (v := .int 0) (C := RX12) (T := TX12) (N := 63) hx hb hwd inA_X12 hown hK hP 0 rfl rfl 39 (by decide) (hwd _ wk_159) (fun _ h9 => h9) rfl dX12_look_1 ?_
  refine lv_aload_n hx hb dX12_look_4 rfl (lv_at hl 0 rfl) ?_
  refine va_get (D := (dC, dI)) (ci := 12) (v := .int 0) (C := RX12) (T := TX12) (N := 63) hx hb hwd inA_X12 hown hK hP 0 rfl rfl 30 (by decide) (hwd _ wk_102) (fun _ h9 => h9) rfl dX12_look_5 ?_
  refine lv_icmp_ge (tgt := 23) hx hb dX12_look_8 (by decide) (fun c_231 => ?_) (fun c_231 => ?_)
  · skip
    refine lv_iconst (v := (-1)) hx hb dX12_look_23 (by decide) ?_
    have hP9 : va_P (dC, dI) classes [(h0, .inr (12, oM g 0))] H := hP.sub [0] rfl
    have hD9 : va_D A [(h0, .inr (12, oM g 0))] := hD.sub [0] (by decide) rfl
    have hK9 : va_K (dC, dI) classes [] s := hK.sub [] rfl
    exact W.iret (v := (-1)) hx hb hr (fun t ht hW => ⟨⟨(-1), (), rfl, rfl, by rw [ht]; exact hP9, va_K.moved hW.alike hK9, hD9⟩, hS.F ht⟩) hS.2.2 dX12_look_24
  · exact absurd c_231 (by decide)
set_option maxHeartbeats 4000000 in
set_option maxRecDepth 100000 in
theorem c_X12_wrong (l : Launch) (dC : Nat → ClassId) (dI : Nat → Nat → Nat) (h0 : Nat) (g : Nat → Nat) (sz : Nat) : Met l yX12_wrong (Cond.code yX12_wrong cX12_wrong 1 none :: wA) ({ frames := 1, cells := 0, slots := 0, locals := 40 }) (va_Pc [.ref h0] (fun U => U.heap.size = sz ∧ va_P (dC, dI) classes [(h0, .inr (12, oM g (-1)))] U.heap ∧ va_K (dC, dI) classes [] U ∧ va_D (fun _ => True) [(h0, .inr (12, oM g (-1)))])) (va_Qv (fun _ : Unit => True) (fun (_ : Unit) (t : State) => va_P (dC, dI) classes [(h0, .inr (12, oM g 0))] t.heap ∧ va_K (dC, dI) classes [] t ∧ va_D (va_A [(h0, .inr (12, oM g (-1)))] sz) [(h0, .inr (12, oM g 0))]) (va_A [(h0, .inr (12, oM g (-1)))] sz)) 0 0 (va_A [(h0, .inr (12, oM g (-1)))] sz) := by
  refine Met.ofW (cc := cX12_wrong) (maxL := 1) (ret := none) (by decide) rfl ?_
  intro p e s m args below meth c s₁ B hml hv
  obtain ⟨rfl, hsz, hP, hK, hD0⟩ := hv
  have hx := B.exec
  have hb := B.bytes
  have hr := B.returns
  have hts := atoms_spec (ws := Cond.code yX12_wrong cX12_wrong 1 none :: wA) B.pre
  have hwd : ∀ w ∈ wA, w.before _ s = true := fun w h => hts w (List.mem_cons_of_mem _ h)
  have hown : s.vm.findClass RX12 = some m.cls := findClass_of_methodNamed B.named
  have hlocks := B.notSynchronized
  subst hsz
  have hD := hD0.self (sz := s.heap.size)
  generalize hAe : va_A [(h0, .inr (12, oM g (-1)))] s.heap.size = A at hD ⊢
  have hA : ∀ q : Nat, s.heap.size ≤ q → A q := fun q h => by rw [← hAe]; exact Or.inr h
  have hS : va_S A s.heap s.heap [] := va_S.rf
  have hP : va_P (dC, dI) classes [(h0, .inr (12, oM g (-1)))] s.heap := hP
  have hl := lv_entry ([.ref h0]) (n := 1) (Nat.le_of_ble_eq_true rfl)
  rw [lg_entry_eq]
  generalize (lg_sl ([.ref h0]) ++ List.replicate (1 - (lg_sl ([.ref h0])).length) Slot.unset).toArray = ls at hl ⊢
  have hl : lv_has ls 1 [(0, .ref h0)] := hl
  obtain ⟨H, eH⟩ : ∃ z, z = s.heap := ⟨_, rfl⟩
  have hP : va_P (dC, dI) classes [(h0, .inr (12, oM g (-1)))] H := by rw [eH]; exact hP
  have hS : va_S A s.heap H [] := by rw [eH]; exact va_S.rf
  refine my_heap eH ?_
  refine lv_aload_n hx hb dX12_wrong_0 rfl (lv_at hl 0 rfl) ?_
  refine va_get (D := (dC, dI)) (ci := 12) (v := .int (-1)) (C := RX12) (T := TX12) (N := 63) hx hb hwd inA_X12 hown hK hP 0 rfl rfl 40 (by decide) (hwd _ wk_160) (fun _ h9 => h9) rfl dX12_wrong_1 ?_
  refine lv_if_ge (tgt := 15) hx hb dX12_wrong_4 (by decide) (fun c_232 => ?_) (fun c_232 => ?_)
  · exact absurd c_232 (by decide)
  · skip
    refine lv_aload_n hx hb dX12_wrong_7 rfl (lv_at hl 0 rfl) ?_
    refine lv_aload_n hx hb dX12_wrong_8 rfl (lv_at hl 0 rfl) ?_
    refine va_get (D := (dC, dI)) (ci := 12) (v := .int 0) (C := RX12) (T := TX12) (N := 63) hx hb hwd inA_X12 hown hK hP 0 rfl rfl 39 (by decide) (hwd _ wk_159) (fun _ h9 => h9) rfl dX12_wrong_9 ?_
    refine va_put (D := (dC, dI)) (ci := 12) (v := .int 0) (ty := .int) (C := RX12) (T := TX12) (N := 63) hx hb hwd inA_X12 tyX12 tyX12_ok nmX12 hown hK hP hD hS 0 rfl rfl 40 (by decide) (hwd _ wk_160) (fun _ h9 => h9) rfl (by decide +kernel) rfl rfl (Nat.le_of_ble_eq_true rfl) dX12_wrong_12 (fun H locs hP hD hS => ?_)
    have hP : va_P (dC, dI) classes [(h0, .inr (12, oM g 0))] H := hP
    have hD : va_D A [(h0, .inr (12, oM g 0))] := hD
    have hP9 : va_P (dC, dI) classes [(h0, .inr (12, oM g 0))] H := hP.sub [0] rfl
    have hD9 : va_D A [(h0, .inr (12, oM g 0))] := hD.sub [0] (by decide) rfl
    have hK9 : va_K (dC, dI) classes [] s := hK.sub [] rfl
    exact W.vret hx hb hr (fun t ht hW => ⟨⟨(), rfl, trivial, by rw [ht]; exact hP9, va_K.moved hW.alike hK9, hD9⟩, hS.F ht⟩) hS.2.2 dX12_wrong_15
set_option maxHeartbeats 4000000 in
set_option maxRecDepth 100000 in
theorem c_X12_nameOf (l : Launch) (dC : Nat → ClassId) (dI : Nat → Nat → Nat) (sz : Nat) : Met l yX12_nameOf (Cond.code yX12_nameOf cX12_nameOf 1 (some .int) :: wA) ({ frames := 1, cells := 0, slots := 0, locals := 40 }) (va_Pc [.int (-1)] (fun U => U.heap.size = sz ∧ va_P (dC, dI) classes [] U.heap ∧ va_K (dC, dI) classes [] U ∧ va_D (fun _ => True) [])) (va_Qi (fun (r : Int32) (_ : Unit) => r = (-1)) (fun (_ : Unit) (t : State) => va_P (dC, dI) classes [] t.heap ∧ va_K (dC, dI) classes [] t ∧ va_D (va_A [] sz) []) (va_A [] sz)) 0 0 (va_A [] sz) := by
  refine Met.ofW (cc := cX12_nameOf) (maxL := 1) (ret := (some .int)) (by decide) rfl ?_
  intro p e s m args below meth c s₁ B hml hv
  obtain ⟨rfl, hsz, hP, hK, hD0⟩ := hv
  have hx := B.exec
  have hb := B.bytes
  have hr := B.returns
  have hts := atoms_spec (ws := Cond.code yX12_nameOf cX12_nameOf 1 (some .int) :: wA) B.pre
  have hwd : ∀ w ∈ wA, w.before _ s = true := fun w h => hts w (List.mem_cons_of_mem _ h)
  have hown : s.vm.findClass RX12 = some m.cls := findClass_of_methodNamed B.named
  have hlocks := B.notSynchronized
  subst hsz
  have hD := hD0.self (sz := s.heap.size)
  generalize hAe : va_A [] s.heap.size = A at hD ⊢
  have hA : ∀ q : Nat, s.heap.size ≤ q → A q := fun q h => by rw [← hAe]; exact Or.inr h
  have hS : va_S A s.heap s.heap [] := va_S.rf
  have hP : va_P (dC, dI) classes [] s.heap := hP
  have hl := lv_entry ([.int (-1)]) (n := 1) (Nat.le_of_ble_eq_true rfl)
  rw [lg_entry_eq]
  generalize (lg_sl ([.int (-1)]) ++ List.replicate (1 - (lg_sl ([.int (-1)])).length) Slot.unset).toArray = ls at hl ⊢
  have hl : lv_has ls 1 [(0, .int (-1))] := hl
  obtain ⟨H, eH⟩ : ∃ z, z = s.heap := ⟨_, rfl⟩
  have hP : va_P (dC, dI) classes [] H := by rw [eH]; exact hP
  have hS : va_S A s.heap H [] := by rw [eH]; exact va_S.rf
  refine my_heap eH ?_
  refine lv_iload_n hx hb dX12_nameOf_0 rfl (lv_at hl 0 rfl) ?_
  refine lv_tableOut (tgt := 108) hx hb dX12_nameOf_1 (by decide) (by decide) ?_
  refine lv_iconst (v := (-1)) hx hb dX12_nameOf_108 (by decide) ?_
  have hP9 : va_P (dC, dI) classes [] H := hP.sub [] rfl
  have hD9 : va_D A [] := hD.sub [] (by decide) rfl
  have hK9 : va_K (dC, dI) classes [] s := hK.sub [] rfl
  exact W.iret (v := (-1)) hx hb hr (fun t ht hW => ⟨⟨(-1), (), rfl, rfl, by rw [ht]; exact hP9, va_K.moved hW.alike hK9, hD9⟩, hS.F ht⟩) hS.2.2 dX12_nameOf_109
set_option maxHeartbeats 4000000 in
set_option maxRecDepth 100000 in
theorem c_X12_digits (l : Launch) (dC : Nat → ClassId) (dI : Nat → Nat → Nat) (h0 : Nat) (g : Nat → Nat) (sz : Nat) : Met l yX12_digits (Cond.code yX12_digits cX12_digits 2 (some .boolean) :: wA) ({ frames := 2, cells := 0, slots := 0, locals := 80 }) (va_Pc [.ref h0] (fun U => U.heap.size = sz ∧ va_P (dC, dI) classes [(h0, .inr (12, oM g (-1)))] U.heap ∧ va_K (dC, dI) classes [] U ∧ va_D (fun _ => True) [(h0, .inr (12, oM g (-1)))])) (va_Qi (fun (r : Int32) (_ : Unit) => r = 0) (fun (_ : Unit) (t : State) => va_P (dC, dI) classes [(h0, .inr (12, oM g 0))] t.heap ∧ va_K (dC, dI) classes [] t ∧ va_D (va_A [(h0, .inr (12, oM g (-1)))] sz) [(h0, .inr (12, oM g 0))]) (va_A [(h0, .inr (12, oM g (-1)))] sz)) 0 0 (va_A [(h0, .inr (12, oM g (-1)))] sz) := by
  refine Met.ofW (cc := cX12_digits) (maxL := 2) (ret := (some .boolean)) (by decide) rfl ?_
  intro p e s m args below meth c s₁ B hml hv
  obtain ⟨rfl, hsz, hP, hK, hD0⟩ := hv
  have hx := B.exec
  have hb := B.bytes
  have hr := B.returns
  have hts := atoms_spec (ws := Cond.code yX12_digits cX12_digits 2 (some .boolean) :: wA) B.pre
  have hwd : ∀ w ∈ wA, w.before _ s = true := fun w h => hts w (List.mem_cons_of_mem _ h)
  have hown : s.vm.findClass RX12 = some m.cls := findClass_of_methodNamed B.named
  have hlocks := B.notSynchronized
  subst hsz
  have hD := hD0.self (sz := s.heap.size)
  generalize hAe : va_A [(h0, .inr (12, oM g (-1)))] s.heap.size = A at hD ⊢
  have hA : ∀ q : Nat, s.heap.size ≤ q → A q := fun q h => by rw [← hAe]; exact Or.inr h
  have hS : va_S A s.heap s.heap [] := va_S.rf
  have hP : va_P (dC, dI) classes [(h0, .inr (12, oM g (-1)))] s.heap := hP
  have hl := lv_entry ([.ref h0]) (n := 2) (Nat.le_of_ble_eq_true rfl)
  rw [lg_entry_eq]
  generalize (lg_sl ([.ref h0]) ++ List.replicate (2 - (lg_sl ([.ref h0])).length) Slot.unset).toArray = ls at hl ⊢
  have hl : lv_has ls 2 [(0, .ref h0)] := hl
  obtain ⟨H, eH⟩ : ∃ z, z = s.heap := ⟨_, rfl⟩
  have hP : va_P (dC, dI) classes [(h0, .inr (12, oM g (-1)))] H := by rw [eH]; exact hP
  have hS : va_S A s.heap H [] := by rw [eH]; exact va_S.rf
  refine my_heap eH ?_
  refine lv_iconst (v := 0) hx hb dX12_digits_0 (by decide) ?_
  refine lv_istore_n (lv' := [(1, .int 0), (0, .ref h0)]) hx hb dX12_digits_1 rfl hl (by decide) rfl (fun ls hl => ?_)
  refine lv_aload_n hx hb dX12_digits_2 rfl (lv_at hl 1 rfl) ?_
  refine lv_iconst (v := 0) hx hb dX12_digits_3 (by decide) ?_
  refine va_put (D := (dC, dI)) (ci := 12) (v := .int 0) (ty := .int) (C := RX12) (T := TX12) (N := 63) hx hb hwd inA_X12 tyX12 tyX12_ok nmX12 hown hK hP hD hS 0 rfl rfl 42 (by decide) (hwd _ wk_161) (fun _ h9 => h9) rfl (by decide +kernel) rfl rfl (Nat.le_of_ble_eq_true rfl) dX12_digits_4 (fun H locs hP hD hS => ?_)
  have hP : va_P (dC, dI) classes [(h0, .inr (12, oM g (-1)))] H := hP
  have hD : va_D A [(h0, .inr (12, oM g (-1)))] := hD
  refine lv_iload_n hx hb dX12_digits_7 rfl (lv_at hl 0 rfl) ?_
  refine lv_iconst (v := 5) hx hb dX12_digits_8 (by decide) ?_
  refine lv_icmp_ge (tgt := 61) hx hb dX12_digits_9 (by decide) (fun c_233 => ?_) (fun c_233 => ?_)
  · exact absurd c_233 (by decide)
  · skip
    refine lv_aload_n hx hb dX12_digits_12 rfl (lv_at hl 1 rfl) ?_
    have hPc := hP.sub (ws' := [(h0, .inr (12, oM g (-1)))]) [0] rfl
    have hDc := hD.sub (ws' := [(h0, .inr (12, oM g (-1)))]) [0] (by decide) rfl
    have hKc := hK.sub (tys' := []) [] rfl
    have hFc := va_free (wc := [(h0, .inr (12, oM g (-1)))]) hD hS hA [0] rfl
    refine va_calli (va_runV (As := []) (rest := []) ⟨hx, hb, hml, hown, hwd⟩ (c_X12_look_a l dC dI h0 g H.size) (cwV 0 hwd (gV wk_162 wk_163 wk_164 wk_165 wk_8) rfl rfl rfl (by decide +kernel) ⟨Nat.le_of_ble_eq_true rfl, Nat.le_of_ble_eq_true rfl⟩) ⟨fun a U g mk q => by obtain ⟨q0, q1, qP, qK, qD⟩ := q; exact ⟨q0, q1, qP, va_K.moved (u := U) (U := U.calling g mk a) (Vm.Alike.refl U.vm) qK, qD⟩, va_recv hKc hPc (ci := 12) (q0 := 0) rfl rfl, fun U hU hW => ⟨rfl, by rw [hU], by rw [hU]; exact hPc, va_K.moved hW.alike hKc, hDc.weaken (fun _ _ _ _ => trivial)⟩⟩ rfl rfl hl.1 rfl (lv_room (Nat.le_of_ble_eq_true rfl)) dX12_digits_13 ⟨Nat.le_of_ble_eq_true rfl, Nat.le_of_ble_eq_true rfl⟩) hS (fun q _ h => hFc q h) hFc (fun r_234 u t H1 locs ht hvm hw hB hz1 hk1 hS => ?_)
    obtain ⟨hP1, hK1, hD1⟩ := hB
    rw [ht] at hP1
    obtain ⟨hP, hD⟩ := va_join (wr := []) (w1 := [(h0, .inr (12, oM g (-1)))]) hP hD [0] [] rfl rfl (by decide) (by decide) hk1 hFc hP1 hD1
    generalize H1 = H at hP hS ⊢
    have hP : va_P (dC, dI) classes [(h0, .inr (12, oM g (-1)))] H := hP
    have hD : va_D A [(h0, .inr (12, oM g (-1)))] := hD
    try dsimp only at hw
    subst hw
    refine lv_bipush (v := 48) hx hb dX12_digits_16 (by decide) ?_
    refine lv_bipush (v := 57) hx hb dX12_digits_18 (by decide) ?_
    have hPc := hP.sub (ws' := []) [] rfl
    have hDc := hD.sub (ws' := []) [] (by decide) rfl
    have hKc := hK.sub (tys' := []) [] rfl
    have hFc := va_free (wc := []) hD hS hA [] rfl
    refine va_calli (va_runS (As := [.int (-1), .int 48, .int 57]) (rest := []) ⟨hx, hb, hml, hown, hwd⟩ (c_X12_in l dC dI  H.size (-1) 48 57) (va_cwS 3 hwd (gT wk_5 wk_6 wk_7 wk_8) rfl rfl rfl (by decide +kernel) ⟨Nat.le_of_ble_eq_true rfl, Nat.le_of_ble_eq_true rfl⟩) ⟨fun a U g mk q => by obtain ⟨q0, q1, qP, qK, qD⟩ := q; exact ⟨q0, q1, qP, va_K.moved (u := U) (U := U.calling g mk a) (Vm.Alike.refl U.vm) qK, qD⟩, fun U hU hW => ⟨rfl, by rw [hU], by rw [hU]; exact hPc, va_K.moved hW.alike hKc, hDc.weaken (fun _ _ _ _ => trivial)⟩⟩ rfl rfl hl.1 rfl (lv_room (Nat.le_of_ble_eq_true rfl)) dX12_digits_20 ⟨Nat.le_of_ble_eq_true rfl, Nat.le_of_ble_eq_true rfl⟩) hS (fun q _ h => hFc q h) hFc (fun r_235 u t H1 locs ht hvm hw hB hz1 hk1 hS => ?_)
    obtain ⟨hP1, hK1, hD1⟩ := hB
    rw [ht] at hP1
    obtain ⟨hP, hD⟩ := va_join (wr := [(h0, .inr (12, oM g (-1)))]) (w1 := []) hP hD [] [0] rfl rfl (by decide) (by decide) hk1 hFc hP1 hD1
    generalize H1 = H at hP hS ⊢
    have hP : va_P (dC, dI) classes [(h0, .inr (12, oM g (-1)))] H := hP
    have hD : va_D A [(h0, .inr (12, oM g (-1)))] := hD
    try dsimp only at hw
    subst hw
    refine my_top (v := 0) (by decide) ?_
    refine lv_if_eq (tgt := 61) hx hb dX12_digits_23 (by decide) (fun c_236 => ?_) (fun c_236 => ?_)
    · skip
      refine lv_iload_n hx hb dX12_digits_61 rfl (lv_at hl 0 rfl) ?_
      refine lv_if_le (tgt := 81) hx hb dX12_digits_62 (by decide) (fun c_237 => ?_) (fun c_237 => ?_)
      · skip
        refine lv_aload_n hx hb dX12_digits_81 rfl (lv_at hl 1 rfl) ?_
        have hPc := hP.sub (ws' := [(h0, .inr (12, oM g (-1)))]) [0] rfl
        have hDc := hD.sub (ws' := [(h0, .inr (12, oM g (-1)))]) [0] (by decide) rfl
        have hKc := hK.sub (tys' := []) [] rfl
        have hFc := va_free (wc := [(h0, .inr (12, oM g (-1)))]) hD hS hA [0] rfl
        refine va_callv (va_runV (As := []) (rest := []) ⟨hx, hb, hml, hown, hwd⟩ (c_X12_wrong l dC dI h0 g H.size) (cwV 0 hwd (gV wk_166 wk_167 wk_168 wk_169 wk_8) rfl rfl rfl (by decide +kernel) ⟨Nat.le_of_ble_eq_true rfl, Nat.le_of_ble_eq_true rfl⟩) ⟨fun a U g mk q => by obtain ⟨q0, q1, qP, qK, qD⟩ := q; exact ⟨q0, q1, qP, va_K.moved (u := U) (U := U.calling g mk a) (Vm.Alike.refl U.vm) qK, qD⟩, va_recv hKc hPc (ci := 12) (q0 := 0) rfl rfl, fun U hU hW => ⟨rfl, by rw [hU], by rw [hU]; exact hPc, va_K.moved hW.alike hKc, hDc.weaken (fun _ _ _ _ => trivial)⟩⟩ rfl rfl hl.1 rfl (lv_room (Nat.le_of_ble_eq_true rfl)) dX12_digits_82 ⟨Nat.le_of_ble_eq_true rfl, Nat.le_of_ble_eq_true rfl⟩) hS (fun q _ h => hFc q h) hFc (fun u t H1 locs ht hvm hw hB hz1 hk1 hS => ?_)
        obtain ⟨hP1, hK1, hD1⟩ := hB
        rw [ht] at hP1
        obtain ⟨hP, hD⟩ := va_join (wr := []) (w1 := [(h0, .inr (12, oM g 0))]) hP hD [0] [] rfl rfl (by decide) (by decide) hk1 hFc hP1 hD1
        generalize H1 = H at hP hS ⊢
        have hP : va_P (dC, dI) classes [(h0, .inr (12, oM g 0))] H := hP
        have hD : va_D A [(h0, .inr (12, oM g 0))] := hD
        refine lv_iconst (v := 0) hx hb dX12_digits_85 (by decide) ?_
        have hP9 : va_P (dC, dI) classes [(h0, .inr (12, oM g 0))] H := hP.sub [0] rfl
        have hD9 : va_D A [(h0, .inr (12, oM g 0))] := hD.sub [0] (by decide) rfl
        have hK9 : va_K (dC, dI) classes [] s := hK.sub [] rfl
        exact W.zret (v := 0) hx hb hr (rfl) (fun t ht hW => ⟨⟨0, (), rfl, rfl, by rw [ht]; exact hP9, va_K.moved hW.alike hK9, hD9⟩, hS.F ht⟩) hS.2.2 dX12_digits_86
      · exact absurd c_237 (by decide)
    · exact absurd c_236 (by decide)
set_option maxHeartbeats 4000000 in
set_option maxRecDepth 100000 in
theorem c_X12_operand (l : Launch) (dC : Nat → ClassId) (dI : Nat → Nat → Nat) (h0 : Nat) (g : Nat → Nat) (sz : Nat) : Met l yX12_operand (Cond.code yX12_operand cX12_operand 2 none :: wA) ({ frames := 3, cells := 0, slots := 0, locals := 120 }) (va_Pc [.ref h0] (fun U => U.heap.size = sz ∧ va_P (dC, dI) classes [(h0, .inr (12, oM g (-1)))] U.heap ∧ va_K (dC, dI) classes [] U ∧ va_D (fun _ => True) [(h0, .inr (12, oM g (-1)))])) (va_Qv (fun _ : Unit => True) (fun (_ : Unit) (t : State) => va_P (dC, dI) classes [(h0, .inr (12, oM g 0))] t.heap ∧ va_K (dC, dI) classes [] t ∧ va_D (va_A [(h0, .inr (12, oM g (-1)))] sz) [(h0, .inr (12, oM g 0))]) (va_A [(h0, .inr (12, oM g (-1)))] sz)) 0 0 (va_A [(h0, .inr (12, oM g (-1)))] sz) := by
  refine Met.ofW (cc := cX12_operand) (maxL := 2) (ret := none) (by decide) rfl ?_
  intro p e s m args below meth c s₁ B hml hv
  obtain ⟨rfl, hsz, hP, hK, hD0⟩ := hv
  have hx := B.exec
  have hb := B.bytes
  have hr := B.returns
  have hts := atoms_spec (ws := Cond.code yX12_operand cX12_operand 2 none :: wA) B.pre
  have hwd : ∀ w ∈ wA, w.before _ s = true := fun w h => hts w (List.mem_cons_of_mem _ h)
  have hown : s.vm.findClass RX12 = some m.cls := findClass_of_methodNamed B.named
  have hlocks := B.notSynchronized
  subst hsz
  have hD := hD0.self (sz := s.heap.size)
  generalize hAe : va_A [(h0, .inr (12, oM g (-1)))] s.heap.size = A at hD ⊢
  have hA : ∀ q : Nat, s.heap.size ≤ q → A q := fun q h => by rw [← hAe]; exact Or.inr h
  have hS : va_S A s.heap s.heap [] := va_S.rf
  have hP : va_P (dC, dI) classes [(h0, .inr (12, oM g (-1)))] s.heap := hP
  have hl := lv_entry ([.ref h0]) (n := 2) (Nat.le_of_ble_eq_true rfl)
  rw [lg_entry_eq]
  generalize (lg_sl ([.ref h0]) ++ List.replicate (2 - (lg_sl ([.ref h0])).length) Slot.unset).toArray = ls at hl ⊢
  have hl : lv_has ls 2 [(0, .ref h0)] := hl
  obtain ⟨H, eH⟩ : ∃ z, z = s.heap := ⟨_, rfl⟩
  have hP : va_P (dC, dI) classes [(h0, .inr (12, oM g (-1)))] H := by rw [eH]; exact hP
  have hS : va_S A s.heap H [] := by rw [eH]; exact va_S.rf
  refine my_heap eH ?_
  refine lv_aload_n hx hb dX12_operand_0 rfl (lv_at hl 0 rfl) ?_
  have hPc := hP.sub (ws' := [(h0, .inr (12, oM g (-1)))]) [0] rfl
  have hDc := hD.sub (ws' := [(h0, .inr (12, oM g (-1)))]) [0] (by decide) rfl
  have hKc := hK.sub (tys' := []) [] rfl
  have hFc := va_free (wc := [(h0, .inr (12, oM g (-1)))]) hD hS hA [0] rfl
  refine va_calli (va_runV (As := []) (rest := []) ⟨hx, hb, hml, hown, hwd⟩ (c_X12_look_a l dC dI h0 g H.size) (cwV 0 hwd (gV wk_162 wk_163 wk_164 wk_165 wk_8) rfl rfl rfl (by decide +kernel) ⟨Nat.le_of_ble_eq_true rfl, Nat.le_of_ble_eq_true rfl⟩) ⟨fun a U g mk q => by obtain ⟨q0, q1, qP, qK, qD⟩ := q; exact ⟨q0, q1, qP, va_K.moved (u := U) (U := U.calling g mk a) (Vm.Alike.refl U.vm) qK, qD⟩, va_recv hKc hPc (ci := 12) (q0 := 0) rfl rfl, fun U hU hW => ⟨rfl, by rw [hU], by rw [hU]; exact hPc, va_K.moved hW.alike hKc, hDc.weaken (fun _ _ _ _ => trivial)⟩⟩ rfl rfl hl.1 rfl (lv_room (Nat.le_of_ble_eq_true rfl)) dX12_operand_1 ⟨Nat.le_of_ble_eq_true rfl, Nat.le_of_ble_eq_true rfl⟩) hS (fun q _ h => hFc q h) hFc (fun r_239 u t H1 locs ht hvm hw hB hz1 hk1 hS => ?_)
  obtain ⟨hP1, hK1, hD1⟩ := hB
  rw [ht] at hP1
  obtain ⟨hP, hD⟩ := va_join (wr := []) (w1 := [(h0, .inr (12, oM g (-1)))]) hP hD [0] [] rfl rfl (by decide) (by decide) hk1 hFc hP1 hD1
  generalize H1 = H at hP hS ⊢
  have hP : va_P (dC, dI) classes [(h0, .inr (12, oM g (-1)))] H := hP
  have hD : va_D A [(h0, .inr (12, oM g (-1)))] := hD
  try dsimp only at hw
  subst hw
  refine lv_istore_n (lv' := [(1, .int (-1)), (0, .ref h0)]) hx hb dX12_operand_4 rfl hl (by decide) rfl (fun ls hl => ?_)
  refine lv_iload_n hx hb dX12_operand_5 rfl (lv_at hl 0 rfl) ?_
  have hPc := hP.sub (ws' := []) [] rfl
  have hDc := hD.sub (ws' := []) [] (by decide) rfl
  have hKc := hK.sub (tys' := []) [] rfl
  have hFc := va_free (wc := []) hD hS hA [] rfl
  refine va_calli (va_runS (As := [.int (-1)]) (rest := []) ⟨hx, hb, hml, hown, hwd⟩ (c_X12_nameOf l dC dI  H.size) (va_cwS 1 hwd (gT wk_170 wk_171 wk_172 wk_8) rfl rfl rfl (by decide +kernel) ⟨Nat.le_of_ble_eq_true rfl, Nat.le_of_ble_eq_true rfl⟩) ⟨fun a U g mk q => by obtain ⟨q0, q1, qP, qK, qD⟩ := q; exact ⟨q0, q1, qP, va_K.moved (u := U) (U := U.calling g mk a) (Vm.Alike.refl U.vm) qK, qD⟩, fun U hU hW => ⟨rfl, by rw [hU], by rw [hU]; exact hPc, va_K.moved hW.alike hKc, hDc.weaken (fun _ _ _ _ => trivial)⟩⟩ rfl rfl hl.1 rfl (lv_room (Nat.le_of_ble_eq_true rfl)) dX12_operand_6 ⟨Nat.le_of_ble_eq_true rfl, Nat.le_of_ble_eq_true rfl⟩) hS (fun q _ h => hFc q h) hFc (fun r_240 u t H1 locs ht hvm hw hB hz1 hk1 hS => ?_)
  obtain ⟨hP1, hK1, hD1⟩ := hB
  rw [ht] at hP1
  obtain ⟨hP, hD⟩ := va_join (wr := [(h0, .inr (12, oM g (-1)))]) (w1 := []) hP hD [] [0] rfl rfl (by decide) (by decide) hk1 hFc hP1 hD1
  generalize H1 = H at hP hS ⊢
  have hP : va_P (dC, dI) classes [(h0, .inr (12, oM g (-1)))] H := hP
  have hD : va_D A [(h0, .inr (12, oM g (-1)))] := hD
  try dsimp only at hw
  subst hw
  refine lv_if_lt (tgt := 34) hx hb dX12_operand_9 (by decide) (fun c_241 => ?_) (fun c_241 => ?_)
  · skip
    refine lv_iload_n hx hb dX12_operand_34 rfl (lv_at hl 0 rfl) ?_
    refine lv_bipush (v := 45) hx hb dX12_operand_35 (by decide) ?_
    refine lv_icmp_ne (tgt := 71) hx hb dX12_operand_37 (by decide) (fun c_242 => ?_) (fun c_242 => ?_)
    · skip
      refine lv_iload_n hx hb dX12_operand_71 rfl (lv_at hl 0 rfl) ?_
      refine lv_bipush (v := 40) hx hb dX12_operand_72 (by decide) ?_
      refine lv_icmp_ne (tgt := 134) hx hb dX12_operand_74 (by decide) (fun c_243 => ?_) (fun c_243 => ?_)
      · skip
        refine lv_aload_n hx hb dX12_operand_134 rfl (lv_at hl 1 rfl) ?_
        have hPc := hP.sub (ws' := [(h0, .inr (12, oM g (-1)))]) [0] rfl
        have hDc := hD.sub (ws' := [(h0, .inr (12, oM g (-1)))]) [0] (by decide) rfl
        have hKc := hK.sub (tys' := []) [] rfl
        have hFc := va_free (wc := [(h0, .inr (12, oM g (-1)))]) hD hS hA [0] rfl
        refine va_calli (va_runV (As := []) (rest := []) ⟨hx, hb, hml, hown, hwd⟩ (c_X12_digits l dC dI h0 g H.size) (cwV 0 hwd (gV wk_173 wk_174 wk_175 wk_176 wk_8) rfl rfl rfl (by decide +kernel) ⟨Nat.le_of_ble_eq_true rfl, Nat.le_of_ble_eq_true rfl⟩) ⟨fun a U g mk q => by obtain ⟨q0, q1, qP, qK, qD⟩ := q; exact ⟨q0, q1, qP, va_K.moved (u := U) (U := U.calling g mk a) (Vm.Alike.refl U.vm) qK, qD⟩, va_recv hKc hPc (ci := 12) (q0 := 0) rfl rfl, fun U hU hW => ⟨rfl, by rw [hU], by rw [hU]; exact hPc, va_K.moved hW.alike hKc, hDc.weaken (fun _ _ _ _ => trivial)⟩⟩ rfl rfl hl.1 rfl (lv_room (Nat.le_of_ble_eq_true rfl)) dX12_operand_135 ⟨Nat.le_of_ble_eq_true rfl, Nat.le_of_ble_eq_true rfl⟩) hS (fun q _ h => hFc q h) hFc (fun r_244 u t H1 locs ht hvm hw hB hz1 hk1 hS => ?_)
        obtain ⟨hP1, hK1, hD1⟩ := hB
        rw [ht] at hP1
        obtain ⟨hP, hD⟩ := va_join (wr := []) (w1 := [(h0, .inr (12, oM g 0))]) hP hD [0] [] rfl rfl (by decide) (by decide) hk1 hFc hP1 hD1
        generalize H1 = H at hP hS ⊢
        have hP : va_P (dC, dI) classes [(h0, .inr (12, oM g 0))] H := hP
        have hD : va_D A [(h0, .inr (12, oM g 0))] := hD
        try dsimp only at hw
        subst hw
        refine lv_if_eq (tgt := 150) hx hb dX12_operand_138 (by decide) (fun c_245 => ?_) (fun c_245 => ?_)
        · skip
          have hP9 : va_P (dC, dI) classes [(h0, .inr (12, oM g 0))] H := hP.sub [0] rfl
          have hD9 : va_D A [(h0, .inr (12, oM g 0))] := hD.sub [0] (by decide) rfl
          have hK9 : va_K (dC, dI) classes [] s := hK.sub [] rfl
          exact W.vret hx hb hr (fun t ht hW => ⟨⟨(), rfl, trivial, by rw [ht]; exact hP9, va_K.moved hW.alike hK9, hD9⟩, hS.F ht⟩) hS.2.2 dX12_operand_150
        · exact absurd c_245 (by decide)
      · exact absurd c_243 (by decide)
    · exact absurd c_242 (by decide)
  · exact absurd c_241 (by decide)
set_option maxHeartbeats 4000000 in
set_option maxRecDepth 100000 in
theorem c_X12_product (l : Launch) (dC : Nat → ClassId) (dI : Nat → Nat → Nat) (h0 : Nat) (g : Nat → Nat) (sz : Nat) : Met l yX12_product (Cond.code yX12_product cX12_product 2 none :: wA) ({ frames := 4, cells := 0, slots := 0, locals := 160 }) (va_Pc [.ref h0] (fun U => U.heap.size = sz ∧ va_P (dC, dI) classes [(h0, .inr (12, oM g (-1)))] U.heap ∧ va_K (dC, dI) classes [] U ∧ va_D (fun _ => True) [(h0, .inr (12, oM g (-1)))])) (va_Qv (fun _ : Unit => True) (fun (_ : Unit) (t : State) => va_P (dC, dI) classes [(h0, .inr (12, oM g 0))] t.heap ∧ va_K (dC, dI) classes [] t ∧ va_D (va_A [(h0, .inr (12, oM g (-1)))] sz) [(h0, .inr (12, oM g 0))]) (va_A [(h0, .inr (12, oM g (-1)))] sz)) 0 0 (va_A [(h0, .inr (12, oM g (-1)))] sz) := by
  refine Met.ofW (cc := cX12_product) (maxL := 2) (ret := none) (by decide) rfl ?_
  intro p e s m args below meth c s₁ B hml hv
  obtain ⟨rfl, hsz, hP, hK, hD0⟩ := hv
  have hx := B.exec
  have hb := B.bytes
  have hr := B.returns
  have hts := atoms_spec (ws := Cond.code yX12_product cX12_product 2 none :: wA) B.pre
  have hwd : ∀ w ∈ wA, w.before _ s = true := fun w h => hts w (List.mem_cons_of_mem _ h)
  have hown : s.vm.findClass RX12 = some m.cls := findClass_of_methodNamed B.named
  have hlocks := B.notSynchronized
  subst hsz
  have hD := hD0.self (sz := s.heap.size)
  generalize hAe : va_A [(h0, .inr (12, oM g (-1)))] s.heap.size = A at hD ⊢
  have hA : ∀ q : Nat, s.heap.size ≤ q → A q := fun q h => by rw [← hAe]; exact Or.inr h
  have hS : va_S A s.heap s.heap [] := va_S.rf
  have hP : va_P (dC, dI) classes [(h0, .inr (12, oM g (-1)))] s.heap := hP
  have hl := lv_entry ([.ref h0]) (n := 2) (Nat.le_of_ble_eq_true rfl)
  rw [lg_entry_eq]
  generalize (lg_sl ([.ref h0]) ++ List.replicate (2 - (lg_sl ([.ref h0])).length) Slot.unset).toArray = ls at hl ⊢
  have hl : lv_has ls 2 [(0, .ref h0)] := hl
  obtain ⟨H, eH⟩ : ∃ z, z = s.heap := ⟨_, rfl⟩
  have hP : va_P (dC, dI) classes [(h0, .inr (12, oM g (-1)))] H := by rw [eH]; exact hP
  have hS : va_S A s.heap H [] := by rw [eH]; exact va_S.rf
  refine my_heap eH ?_
  refine lv_aload_n hx hb dX12_product_0 rfl (lv_at hl 0 rfl) ?_
  have hPc := hP.sub (ws' := [(h0, .inr (12, oM g (-1)))]) [0] rfl
  have hDc := hD.sub (ws' := [(h0, .inr (12, oM g (-1)))]) [0] (by decide) rfl
  have hKc := hK.sub (tys' := []) [] rfl
  have hFc := va_free (wc := [(h0, .inr (12, oM g (-1)))]) hD hS hA [0] rfl
  refine va_callv (va_runV (As := []) (rest := []) ⟨hx, hb, hml, hown, hwd⟩ (c_X12_operand l dC dI h0 g H.size) (cwV 0 hwd (gV wk_177 wk_178 wk_179 wk_180 wk_8) rfl rfl rfl (by decide +kernel) ⟨Nat.le_of_ble_eq_true rfl, Nat.le_of_ble_eq_true rfl⟩) ⟨fun a U g mk q => by obtain ⟨q0, q1, qP, qK, qD⟩ := q; exact ⟨q0, q1, qP, va_K.moved (u := U) (U := U.calling g mk a) (Vm.Alike.refl U.vm) qK, qD⟩, va_recv hKc hPc (ci := 12) (q0 := 0) rfl rfl, fun U hU hW => ⟨rfl, by rw [hU], by rw [hU]; exact hPc, va_K.moved hW.alike hKc, hDc.weaken (fun _ _ _ _ => trivial)⟩⟩ rfl rfl hl.1 rfl (lv_room (Nat.le_of_ble_eq_true rfl)) dX12_product_1 ⟨Nat.le_of_ble_eq_true rfl, Nat.le_of_ble_eq_true rfl⟩) hS (fun q _ h => hFc q h) hFc (fun u t H1 locs ht hvm hw hB hz1 hk1 hS => ?_)
  obtain ⟨hP1, hK1, hD1⟩ := hB
  rw [ht] at hP1
  obtain ⟨hP, hD⟩ := va_join (wr := []) (w1 := [(h0, .inr (12, oM g 0))]) hP hD [0] [] rfl rfl (by decide) (by decide) hk1 hFc hP1 hD1
  generalize H1 = H at hP hS ⊢
  have hP : va_P (dC, dI) classes [(h0, .inr (12, oM g 0))] H := hP
  have hD : va_D A [(h0, .inr (12, oM g 0))] := hD
  refine lv_aload_n hx hb dX12_product_4 rfl (lv_at hl 0 rfl) ?_
  refine va_get (D := (dC, dI)) (ci := 12) (v := .int 0) (C := RX12) (T := TX12) (N := 63) hx hb hwd inA_X12 hown hK hP 0 rfl rfl 40 (by decide) (hwd _ wk_160) (fun _ h9 => h9) rfl dX12_product_5 ?_
  refine lv_if_ge (tgt := 57) hx hb dX12_product_8 (by decide) (fun c_247 => ?_) (fun c_247 => ?_)
  · skip
    have hP9 : va_P (dC, dI) classes [(h0, .inr (12, oM g 0))] H := hP.sub [0] rfl
    have hD9 : va_D A [(h0, .inr (12, oM g 0))] := hD.sub [0] (by decide) rfl
    have hK9 : va_K (dC, dI) classes [] s := hK.sub [] rfl
    exact W.vret hx hb hr (fun t ht hW => ⟨⟨(), rfl, trivial, by rw [ht]; exact hP9, va_K.moved hW.alike hK9, hD9⟩, hS.F ht⟩) hS.2.2 dX12_product_57
  · exact absurd c_247 (by decide)
set_option maxHeartbeats 4000000 in
set_option maxRecDepth 100000 in
theorem c_X12_sum (l : Launch) (dC : Nat → ClassId) (dI : Nat → Nat → Nat) (h0 : Nat) (g : Nat → Nat) (sz : Nat) : Met l yX12_sum (Cond.code yX12_sum cX12_sum 2 none :: wA) ({ frames := 5, cells := 0, slots := 0, locals := 200 }) (va_Pc [.ref h0] (fun U => U.heap.size = sz ∧ va_P (dC, dI) classes [(h0, .inr (12, oM g (-1)))] U.heap ∧ va_K (dC, dI) classes [] U ∧ va_D (fun _ => True) [(h0, .inr (12, oM g (-1)))])) (va_Qv (fun _ : Unit => True) (fun (_ : Unit) (t : State) => va_P (dC, dI) classes [(h0, .inr (12, oM g 0))] t.heap ∧ va_K (dC, dI) classes [] t ∧ va_D (va_A [(h0, .inr (12, oM g (-1)))] sz) [(h0, .inr (12, oM g 0))]) (va_A [(h0, .inr (12, oM g (-1)))] sz)) 0 0 (va_A [(h0, .inr (12, oM g (-1)))] sz) := by
  refine Met.ofW (cc := cX12_sum) (maxL := 2) (ret := none) (by decide) rfl ?_
  intro p e s m args below meth c s₁ B hml hv
  obtain ⟨rfl, hsz, hP, hK, hD0⟩ := hv
  have hx := B.exec
  have hb := B.bytes
  have hr := B.returns
  have hts := atoms_spec (ws := Cond.code yX12_sum cX12_sum 2 none :: wA) B.pre
  have hwd : ∀ w ∈ wA, w.before _ s = true := fun w h => hts w (List.mem_cons_of_mem _ h)
  have hown : s.vm.findClass RX12 = some m.cls := findClass_of_methodNamed B.named
  have hlocks := B.notSynchronized
  subst hsz
  have hD := hD0.self (sz := s.heap.size)
  generalize hAe : va_A [(h0, .inr (12, oM g (-1)))] s.heap.size = A at hD ⊢
  have hA : ∀ q : Nat, s.heap.size ≤ q → A q := fun q h => by rw [← hAe]; exact Or.inr h
  have hS : va_S A s.heap s.heap [] := va_S.rf
  have hP : va_P (dC, dI) classes [(h0, .inr (12, oM g (-1)))] s.heap := hP
  have hl := lv_entry ([.ref h0]) (n := 2) (Nat.le_of_ble_eq_true rfl)
  rw [lg_entry_eq]
  generalize (lg_sl ([.ref h0]) ++ List.replicate (2 - (lg_sl ([.ref h0])).length) Slot.unset).toArray = ls at hl ⊢
  have hl : lv_has ls 2 [(0, .ref h0)] := hl
  obtain ⟨H, eH⟩ : ∃ z, z = s.heap := ⟨_, rfl⟩
  have hP : va_P (dC, dI) classes [(h0, .inr (12, oM g (-1)))] H := by rw [eH]; exact hP
  have hS : va_S A s.heap H [] := by rw [eH]; exact va_S.rf
  refine my_heap eH ?_
  refine lv_aload_n hx hb dX12_sum_0 rfl (lv_at hl 0 rfl) ?_
  have hPc := hP.sub (ws' := [(h0, .inr (12, oM g (-1)))]) [0] rfl
  have hDc := hD.sub (ws' := [(h0, .inr (12, oM g (-1)))]) [0] (by decide) rfl
  have hKc := hK.sub (tys' := []) [] rfl
  have hFc := va_free (wc := [(h0, .inr (12, oM g (-1)))]) hD hS hA [0] rfl
  refine va_callv (va_runV (As := []) (rest := []) ⟨hx, hb, hml, hown, hwd⟩ (c_X12_product l dC dI h0 g H.size) (cwV 0 hwd (gV wk_181 wk_182 wk_183 wk_184 wk_8) rfl rfl rfl (by decide +kernel) ⟨Nat.le_of_ble_eq_true rfl, Nat.le_of_ble_eq_true rfl⟩) ⟨fun a U g mk q => by obtain ⟨q0, q1, qP, qK, qD⟩ := q; exact ⟨q0, q1, qP, va_K.moved (u := U) (U := U.calling g mk a) (Vm.Alike.refl U.vm) qK, qD⟩, va_recv hKc hPc (ci := 12) (q0 := 0) rfl rfl, fun U hU hW => ⟨rfl, by rw [hU], by rw [hU]; exact hPc, va_K.moved hW.alike hKc, hDc.weaken (fun _ _ _ _ => trivial)⟩⟩ rfl rfl hl.1 rfl (lv_room (Nat.le_of_ble_eq_true rfl)) dX12_sum_1 ⟨Nat.le_of_ble_eq_true rfl, Nat.le_of_ble_eq_true rfl⟩) hS (fun q _ h => hFc q h) hFc (fun u t H1 locs ht hvm hw hB hz1 hk1 hS => ?_)
  obtain ⟨hP1, hK1, hD1⟩ := hB
  rw [ht] at hP1
  obtain ⟨hP, hD⟩ := va_join (wr := []) (w1 := [(h0, .inr (12, oM g 0))]) hP hD [0] [] rfl rfl (by decide) (by decide) hk1 hFc hP1 hD1
  generalize H1 = H at hP hS ⊢
  have hP : va_P (dC, dI) classes [(h0, .inr (12, oM g 0))] H := hP
  have hD : va_D A [(h0, .inr (12, oM g 0))] := hD
  refine lv_aload_n hx hb dX12_sum_4 rfl (lv_at hl 0 rfl) ?_
  refine va_get (D := (dC, dI)) (ci := 12) (v := .int 0) (C := RX12) (T := TX12) (N := 63) hx hb hwd inA_X12 hown hK hP 0 rfl rfl 40 (by decide) (hwd _ wk_160) (fun _ h9 => h9) rfl dX12_sum_5 ?_
  refine lv_if_ge (tgt := 57) hx hb dX12_sum_8 (by decide) (fun c_249 => ?_) (fun c_249 => ?_)
  · skip
    have hP9 : va_P (dC, dI) classes [(h0, .inr (12, oM g 0))] H := hP.sub [0] rfl
    have hD9 : va_D A [(h0, .inr (12, oM g 0))] := hD.sub [0] (by decide) rfl
    have hK9 : va_K (dC, dI) classes [] s := hK.sub [] rfl
    exact W.vret hx hb hr (fun t ht hW => ⟨⟨(), rfl, trivial, by rw [ht]; exact hP9, va_K.moved hW.alike hK9, hD9⟩, hS.F ht⟩) hS.2.2 dX12_sum_57
  · exact absurd c_249 (by decide)
set_option maxHeartbeats 4000000 in
set_option maxRecDepth 100000 in
theorem c_X12_either (l : Launch) (dC : Nat → ClassId) (dI : Nat → Nat → Nat) (h0 : Nat) (g : Nat → Nat) (sz : Nat) : Met l yX12_either (Cond.code yX12_either cX12_either 2 none :: wA) ({ frames := 6, cells := 0, slots := 0, locals := 240 }) (va_Pc [.ref h0] (fun U => U.heap.size = sz ∧ va_P (dC, dI) classes [(h0, .inr (12, oM g (-1)))] U.heap ∧ va_K (dC, dI) classes [] U ∧ va_D (fun _ => True) [(h0, .inr (12, oM g (-1)))])) (va_Qv (fun _ : Unit => True) (fun (_ : Unit) (t : State) => va_P (dC, dI) classes [(h0, .inr (12, oM g 0))] t.heap ∧ va_K (dC, dI) classes [] t ∧ va_D (va_A [(h0, .inr (12, oM g (-1)))] sz) [(h0, .inr (12, oM g 0))]) (va_A [(h0, .inr (12, oM g (-1)))] sz)) 0 0 (va_A [(h0, .inr (12, oM g (-1)))] sz) := by
  refine Met.ofW (cc := cX12_either) (maxL := 2) (ret := none) (by decide) rfl ?_
  intro p e s m args below meth c s₁ B hml hv
  obtain ⟨rfl, hsz, hP, hK, hD0⟩ := hv
  have hx := B.exec
  have hb := B.bytes
  have hr := B.returns
  have hts := atoms_spec (ws := Cond.code yX12_either cX12_either 2 none :: wA) B.pre
  have hwd : ∀ w ∈ wA, w.before _ s = true := fun w h => hts w (List.mem_cons_of_mem _ h)
  have hown : s.vm.findClass RX12 = some m.cls := findClass_of_methodNamed B.named
  have hlocks := B.notSynchronized
  subst hsz
  have hD := hD0.self (sz := s.heap.size)
  generalize hAe : va_A [(h0, .inr (12, oM g (-1)))] s.heap.size = A at hD ⊢
  have hA : ∀ q : Nat, s.heap.size ≤ q → A q := fun q h => by rw [← hAe]; exact Or.inr h
  have hS : va_S A s.heap s.heap [] := va_S.rf
  have hP : va_P (dC, dI) classes [(h0, .inr (12, oM g (-1)))] s.heap := hP
  have hl := lv_entry ([.ref h0]) (n := 2) (Nat.le_of_ble_eq_true rfl)
  rw [lg_entry_eq]
  generalize (lg_sl ([.ref h0]) ++ List.replicate (2 - (lg_sl ([.ref h0])).length) Slot.unset).toArray = ls at hl ⊢
  have hl : lv_has ls 2 [(0, .ref h0)] := hl
  obtain ⟨H, eH⟩ : ∃ z, z = s.heap := ⟨_, rfl⟩
  have hP : va_P (dC, dI) classes [(h0, .inr (12, oM g (-1)))] H := by rw [eH]; exact hP
  have hS : va_S A s.heap H [] := by rw [eH]; exact va_S.rf
  refine my_heap eH ?_
  refine lv_aload_n hx hb dX12_either_0 rfl (lv_at hl 0 rfl) ?_
  have hPc := hP.sub (ws' := [(h0, .inr (12, oM g (-1)))]) [0] rfl
  have hDc := hD.sub (ws' := [(h0, .inr (12, oM g (-1)))]) [0] (by decide) rfl
  have hKc := hK.sub (tys' := []) [] rfl
  have hFc := va_free (wc := [(h0, .inr (12, oM g (-1)))]) hD hS hA [0] rfl
  refine va_callv (va_runV (As := []) (rest := []) ⟨hx, hb, hml, hown, hwd⟩ (c_X12_sum l dC dI h0 g H.size) (cwV 0 hwd (gV wk_185 wk_186 wk_187 wk_188 wk_8) rfl rfl rfl (by decide +kernel) ⟨Nat.le_of_ble_eq_true rfl, Nat.le_of_ble_eq_true rfl⟩) ⟨fun a U g mk q => by obtain ⟨q0, q1, qP, qK, qD⟩ := q; exact ⟨q0, q1, qP, va_K.moved (u := U) (U := U.calling g mk a) (Vm.Alike.refl U.vm) qK, qD⟩, va_recv hKc hPc (ci := 12) (q0 := 0) rfl rfl, fun U hU hW => ⟨rfl, by rw [hU], by rw [hU]; exact hPc, va_K.moved hW.alike hKc, hDc.weaken (fun _ _ _ _ => trivial)⟩⟩ rfl rfl hl.1 rfl (lv_room (Nat.le_of_ble_eq_true rfl)) dX12_either_1 ⟨Nat.le_of_ble_eq_true rfl, Nat.le_of_ble_eq_true rfl⟩) hS (fun q _ h => hFc q h) hFc (fun u t H1 locs ht hvm hw hB hz1 hk1 hS => ?_)
  obtain ⟨hP1, hK1, hD1⟩ := hB
  rw [ht] at hP1
  obtain ⟨hP, hD⟩ := va_join (wr := []) (w1 := [(h0, .inr (12, oM g 0))]) hP hD [0] [] rfl rfl (by decide) (by decide) hk1 hFc hP1 hD1
  generalize H1 = H at hP hS ⊢
  have hP : va_P (dC, dI) classes [(h0, .inr (12, oM g 0))] H := hP
  have hD : va_D A [(h0, .inr (12, oM g 0))] := hD
  refine lv_aload_n hx hb dX12_either_4 rfl (lv_at hl 0 rfl) ?_
  have hPc := hP.sub (ws' := [(h0, .inr (12, oM g 0))]) [0] rfl
  have hDc := hD.sub (ws' := [(h0, .inr (12, oM g 0))]) [0] (by decide) rfl
  have hKc := hK.sub (tys' := []) [] rfl
  have hFc := va_free (wc := [(h0, .inr (12, oM g 0))]) hD hS hA [0] rfl
  refine va_calli (va_runV (As := []) (rest := []) ⟨hx, hb, hml, hown, hwd⟩ (c_X12_look_b l dC dI h0 g H.size) (cwV 0 hwd (gV wk_162 wk_163 wk_164 wk_165 wk_8) rfl rfl rfl (by decide +kernel) ⟨Nat.le_of_ble_eq_true rfl, Nat.le_of_ble_eq_true rfl⟩) ⟨fun a U g mk q => by obtain ⟨q0, q1, qP, qK, qD⟩ := q; exact ⟨q0, q1, qP, va_K.moved (u := U) (U := U.calling g mk a) (Vm.Alike.refl U.vm) qK, qD⟩, va_recv hKc hPc (ci := 12) (q0 := 0) rfl rfl, fun U hU hW => ⟨rfl, by rw [hU], by rw [hU]; exact hPc, va_K.moved hW.alike hKc, hDc.weaken (fun _ _ _ _ => trivial)⟩⟩ rfl rfl hl.1 rfl (lv_room (Nat.le_of_ble_eq_true rfl)) dX12_either_5 ⟨Nat.le_of_ble_eq_true rfl, Nat.le_of_ble_eq_true rfl⟩) hS (fun q _ h => hFc q h) hFc (fun r_251 u t H1 locs ht hvm hw hB hz1 hk1 hS => ?_)
  obtain ⟨hP1, hK1, hD1⟩ := hB
  rw [ht] at hP1
  obtain ⟨hP, hD⟩ := va_join (wr := []) (w1 := [(h0, .inr (12, oM g 0))]) hP hD [0] [] rfl rfl (by decide) (by decide) hk1 hFc hP1 hD1
  generalize H1 = H at hP hS ⊢
  have hP : va_P (dC, dI) classes [(h0, .inr (12, oM g 0))] H := hP
  have hD : va_D A [(h0, .inr (12, oM g 0))] := hD
  try dsimp only at hw
  subst hw
  refine lv_istore_n (lv' := [(1, .int (-1)), (0, .ref h0)]) hx hb dX12_either_8 rfl hl (by decide) rfl (fun ls hl => ?_)
  refine lv_aload_n hx hb dX12_either_9 rfl (lv_at hl 1 rfl) ?_
  refine va_get (D := (dC, dI)) (ci := 12) (v := .int 0) (C := RX12) (T := TX12) (N := 63) hx hb hwd inA_X12 hown hK hP 0 rfl rfl 40 (by decide) (hwd _ wk_160) (fun _ h9 => h9) rfl dX12_either_10 ?_
  refine lv_if_ge (tgt := 54) hx hb dX12_either_13 (by decide) (fun c_252 => ?_) (fun c_252 => ?_)
  · skip
    refine lv_aload_n hx hb dX12_either_54 rfl (lv_at hl 1 rfl) ?_
    refine va_get (D := (dC, dI)) (ci := 12) (v := .int 0) (C := RX12) (T := TX12) (N := 63) hx hb hwd inA_X12 hown hK hP 0 rfl rfl 40 (by decide) (hwd _ wk_160) (fun _ h9 => h9) rfl dX12_either_55 ?_
    refine lv_if_ge (tgt := 70) hx hb dX12_either_58 (by decide) (fun c_253 => ?_) (fun c_253 => ?_)
    · skip
      have hP9 : va_P (dC, dI) classes [(h0, .inr (12, oM g 0))] H := hP.sub [0] rfl
      have hD9 : va_D A [(h0, .inr (12, oM g 0))] := hD.sub [0] (by decide) rfl
      have hK9 : va_K (dC, dI) classes [] s := hK.sub [] rfl
      exact W.vret hx hb hr (fun t ht hW => ⟨⟨(), rfl, trivial, by rw [ht]; exact hP9, va_K.moved hW.alike hK9, hD9⟩, hS.F ht⟩) hS.2.2 dX12_either_70
    · exact absurd c_253 (by decide)
  · exact absurd c_252 (by decide)
set_option maxHeartbeats 4000000 in
set_option maxRecDepth 100000 in
theorem c_X12_law (l : Launch) (dC : Nat → ClassId) (dI : Nat → Nat → Nat) (h0 : Nat) (g : Nat → Nat) (sz : Nat) (p0 : Int32) : Met l yX12_law (Cond.code yX12_law cX12_law 2 (some .int) :: wA) ({ frames := 7, cells := 0, slots := 0, locals := 280 }) (va_Pc [.ref h0, .int p0] (fun U => U.heap.size = sz ∧ va_P (dC, dI) classes [(h0, .inr (12, oM g 0))] U.heap ∧ va_K (dC, dI) classes [] U ∧ va_D (fun _ => True) [(h0, .inr (12, oM g 0))])) (va_Qi (fun (r : Int32) (_ : Unit) => r = f_law p0) (fun (_ : Unit) (_ : State) => True) (va_A [(h0, .inr (12, oM g 0))] sz)) 0 0 (va_A [(h0, .inr (12, oM g 0))] sz) := by
  refine Met.ofW (cc := cX12_law) (maxL := 2) (ret := (some .int)) (by decide) rfl ?_
  intro p e s m args below meth c s₁ B hml hv
  obtain ⟨rfl, hsz, hP, hK, hD0⟩ := hv
  have hx := B.exec
  have hb := B.bytes
  have hr := B.returns
  have hts := atoms_spec (ws := Cond.code yX12_law cX12_law 2 (some .int) :: wA) B.pre
  have hwd : ∀ w ∈ wA, w.before _ s = true := fun w h => hts w (List.mem_cons_of_mem _ h)
  have hown : s.vm.findClass RX12 = some m.cls := findClass_of_methodNamed B.named
  have hlocks := B.notSynchronized
  subst hsz
  have hD := hD0.self (sz := s.heap.size)
  generalize hAe : va_A [(h0, .inr (12, oM g 0))] s.heap.size = A at hD ⊢
  have hA : ∀ q : Nat, s.heap.size ≤ q → A q := fun q h => by rw [← hAe]; exact Or.inr h
  have hS : va_S A s.heap s.heap [] := va_S.rf
  have hP : va_P (dC, dI) classes [(h0, .inr (12, oM g 0))] s.heap := hP
  have hl := lv_entry ([.ref h0, .int p0]) (n := 2) (Nat.le_of_ble_eq_true rfl)
  rw [lg_entry_eq]
  generalize (lg_sl ([.ref h0, .int p0]) ++ List.replicate (2 - (lg_sl ([.ref h0, .int p0])).length) Slot.unset).toArray = ls at hl ⊢
  have hl : lv_has ls 2 [(0, .ref h0), (1, .int p0)] := hl
  obtain ⟨H, eH⟩ : ∃ z, z = s.heap := ⟨_, rfl⟩
  have hP : va_P (dC, dI) classes [(h0, .inr (12, oM g 0))] H := by rw [eH]; exact hP
  have hS : va_S A s.heap H [] := by rw [eH]; exact va_S.rf
  refine my_heap eH ?_
  refine lv_iload_n hx hb dX12_law_0 rfl (lv_at hl 1 rfl) ?_
  have hPc := hP.sub (ws' := []) [] rfl
  have hDc := hD.sub (ws' := []) [] (by decide) rfl
  have hKc := hK.sub (tys' := []) [] rfl
  have hFc := va_free (wc := []) hD hS hA [] rfl
  refine va_calli (va_runS (As := [.int p0]) (rest := []) ⟨hx, hb, hml, hown, hwd⟩ (c_X12_isDay l dC dI  H.size p0) (va_cwS 1 hwd (gT wk_189 wk_190 wk_191 wk_8) rfl rfl rfl (by decide +kernel) ⟨Nat.le_of_ble_eq_true rfl, Nat.le_of_ble_eq_true rfl⟩) ⟨fun a U g mk q => by obtain ⟨q0, q1, qP, qK, qD⟩ := q; exact ⟨q0, q1, qP, va_K.moved (u := U) (U := U.calling g mk a) (Vm.Alike.refl U.vm) qK, qD⟩, fun U hU hW => ⟨rfl, by rw [hU], by rw [hU]; exact hPc, va_K.moved hW.alike hKc, hDc.weaken (fun _ _ _ _ => trivial)⟩⟩ rfl rfl hl.1 rfl (lv_room (Nat.le_of_ble_eq_true rfl)) dX12_law_1 ⟨Nat.le_of_ble_eq_true rfl, Nat.le_of_ble_eq_true rfl⟩) hS (fun q _ h => hFc q h) hFc (fun r_254 u t H1 locs ht hvm hw hB hz1 hk1 hS => ?_)
  obtain ⟨hP1, hK1, hD1⟩ := hB
  rw [ht] at hP1
  obtain ⟨hP, hD⟩ := va_join (wr := [(h0, .inr (12, oM g 0))]) (w1 := []) hP hD [] [0] rfl rfl (by decide) (by decide) hk1 hFc hP1 hD1
  generalize H1 = H at hP hS ⊢
  have hP : va_P (dC, dI) classes [(h0, .inr (12, oM g 0))] H := hP
  have hD : va_D A [(h0, .inr (12, oM g 0))] := hD
  try dsimp only at hw
  subst hw
  refine lv_if_ne (tgt := 9) hx hb dX12_law_4 (by decide) (fun c_255 => ?_) (fun c_255 => ?_)
  · skip
    refine lv_aload_n hx hb dX12_law_9 rfl (lv_at hl 0 rfl) ?_
    refine va_get (D := (dC, dI)) (ci := 12) (v := .int 0) (C := RX12) (T := TX12) (N := 63) hx hb hwd inA_X12 hown hK hP 0 rfl rfl 31 (by decide) (hwd _ wk_192) (fun _ h9 => h9) rfl dX12_law_10 ?_
    refine lv_bipush (v := 10) hx hb dX12_law_13 (by decide) ?_
    refine lv_icmp_ne (tgt := 21) hx hb dX12_law_15 (by decide) (fun c_256 => ?_) (fun c_256 => ?_)
    · skip
      refine lv_aload_n hx hb dX12_law_21 rfl (lv_at hl 0 rfl) ?_
      refine lv_aload_n hx hb dX12_law_22 rfl (lv_at hl 0 rfl) ?_
      refine va_get (D := (dC, dI)) (ci := 12) (v := .int 0) (C := RX12) (T := TX12) (N := 63) hx hb hwd inA_X12 hown hK hP 0 rfl rfl 31 (by decide) (hwd _ wk_192) (fun _ h9 => h9) rfl dX12_law_23 ?_
      refine va_put (D := (dC, dI)) (ci := 12) (v := .int 0) (ty := .int) (C := RX12) (T := TX12) (N := 63) hx hb hwd inA_X12 tyX12 tyX12_ok nmX12 hown hK hP hD hS 0 rfl rfl 37 (by decide) (hwd _ wk_193) (fun _ h9 => h9) rfl (by decide +kernel) rfl rfl (Nat.le_of_ble_eq_true rfl) dX12_law_26 (fun H locs hP hD hS => ?_)
      have hP : va_P (dC, dI) classes [(h0, .inr (12, oM g 0))] H := hP
      have hD : va_D A [(h0, .inr (12, oM g 0))] := hD
      refine lv_aload_n hx hb dX12_law_29 rfl (lv_at hl 0 rfl) ?_
      refine lv_iconst (v := 0) hx hb dX12_law_30 (by decide) ?_
      refine va_put (D := (dC, dI)) (ci := 12) (v := .int 0) (ty := .int) (C := RX12) (T := TX12) (N := 63) hx hb hwd inA_X12 tyX12 tyX12_ok nmX12 hown hK hP hD hS 0 rfl rfl 38 (by decide) (hwd _ wk_194) (fun _ h9 => h9) rfl (by decide +kernel) rfl rfl (Nat.le_of_ble_eq_true rfl) dX12_law_31 (fun H locs hP hD hS => ?_)
      have hP : va_P (dC, dI) classes [(h0, .inr (12, oM g 0))] H := hP
      have hD : va_D A [(h0, .inr (12, oM g 0))] := hD
      refine lv_aload_n hx hb dX12_law_34 rfl (lv_at hl 0 rfl) ?_
      refine lv_iconst (v := 0) hx hb dX12_law_35 (by decide) ?_
      refine va_put (D := (dC, dI)) (ci := 12) (v := .int 0) (ty := .int) (C := RX12) (T := TX12) (N := 63) hx hb hwd inA_X12 tyX12 tyX12_ok nmX12 hown hK hP hD hS 0 rfl rfl 39 (by decide) (hwd _ wk_159) (fun _ h9 => h9) rfl (by decide +kernel) rfl rfl (Nat.le_of_ble_eq_true rfl) dX12_law_36 (fun H locs hP hD hS => ?_)
      have hP : va_P (dC, dI) classes [(h0, .inr (12, oM g 0))] H := hP
      have hD : va_D A [(h0, .inr (12, oM g 0))] := hD
      refine lv_aload_n hx hb dX12_law_39 rfl (lv_at hl 0 rfl) ?_
      refine lv_iconst (v := (-1)) hx hb dX12_law_40 (by decide) ?_
      refine va_put (D := (dC, dI)) (ci := 12) (v := .int (-1)) (ty := .int) (C := RX12) (T := TX12) (N := 63) hx hb hwd inA_X12 tyX12 tyX12_ok nmX12 hown hK hP hD hS 0 rfl rfl 40 (by decide) (hwd _ wk_160) (fun _ h9 => h9) rfl (by decide +kernel) rfl rfl (Nat.le_of_ble_eq_true rfl) dX12_law_41 (fun H locs hP hD hS => ?_)
      have hP : va_P (dC, dI) classes [(h0, .inr (12, oM g (-1)))] H := hP
      have hD : va_D A [(h0, .inr (12, oM g (-1)))] := hD
      refine lv_aload_n hx hb dX12_law_44 rfl (lv_at hl 0 rfl) ?_
      refine lv_iconst (v := 0) hx hb dX12_law_45 (by decide) ?_
      refine va_put (D := (dC, dI)) (ci := 12) (v := .int 0) (ty := .int) (C := RX12) (T := TX12) (N := 63) hx hb hwd inA_X12 tyX12 tyX12_ok nmX12 hown hK hP hD hS 0 rfl rfl 41 (by decide) (hwd _ wk_195) (fun _ h9 => h9) rfl (by decide +kernel) rfl rfl (Nat.le_of_ble_eq_true rfl) dX12_law_46 (fun H locs hP hD hS => ?_)
      have hP : va_P (dC, dI) classes [(h0, .inr (12, oM g (-1)))] H := hP
      have hD : va_D A [(h0, .inr (12, oM g (-1)))] := hD
      refine lv_aload_n hx hb dX12_law_49 rfl (lv_at hl 0 rfl) ?_
      have hPc := hP.sub (ws' := [(h0, .inr (12, oM g (-1)))]) [0] rfl
      have hDc := hD.sub (ws' := [(h0, .inr (12, oM g (-1)))]) [0] (by decide) rfl
      have hKc := hK.sub (tys' := []) [] rfl
      have hFc := va_free (wc := [(h0, .inr (12, oM g (-1)))]) hD hS hA [0] rfl
      refine va_callv (va_runV (As := []) (rest := []) ⟨hx, hb, hml, hown, hwd⟩ (c_X12_either l dC dI h0 g H.size) (cwV 0 hwd (gV wk_196 wk_197 wk_198 wk_199 wk_8) rfl rfl rfl (by decide +kernel) ⟨Nat.le_of_ble_eq_true rfl, Nat.le_of_ble_eq_true rfl⟩) ⟨fun a U g mk q => by obtain ⟨q0, q1, qP, qK, qD⟩ := q; exact ⟨q0, q1, qP, va_K.moved (u := U) (U := U.calling g mk a) (Vm.Alike.refl U.vm) qK, qD⟩, va_recv hKc hPc (ci := 12) (q0 := 0) rfl rfl, fun U hU hW => ⟨rfl, by rw [hU], by rw [hU]; exact hPc, va_K.moved hW.alike hKc, hDc.weaken (fun _ _ _ _ => trivial)⟩⟩ rfl rfl hl.1 rfl (lv_room (Nat.le_of_ble_eq_true rfl)) dX12_law_50 ⟨Nat.le_of_ble_eq_true rfl, Nat.le_of_ble_eq_true rfl⟩) hS (fun q _ h => hFc q h) hFc (fun u t H1 locs ht hvm hw hB hz1 hk1 hS => ?_)
      obtain ⟨hP1, hK1, hD1⟩ := hB
      rw [ht] at hP1
      obtain ⟨hP, hD⟩ := va_join (wr := []) (w1 := [(h0, .inr (12, oM g 0))]) hP hD [0] [] rfl rfl (by decide) (by decide) hk1 hFc hP1 hD1
      generalize H1 = H at hP hS ⊢
      have hP : va_P (dC, dI) classes [(h0, .inr (12, oM g 0))] H := hP
      have hD : va_D A [(h0, .inr (12, oM g 0))] := hD
      refine lv_aload_n hx hb dX12_law_53 rfl (lv_at hl 0 rfl) ?_
      refine va_get (D := (dC, dI)) (ci := 12) (v := .int 0) (C := RX12) (T := TX12) (N := 63) hx hb hwd inA_X12 hown hK hP 0 rfl rfl 39 (by decide) (hwd _ wk_159) (fun _ h9 => h9) rfl dX12_law_54 ?_
      refine lv_aload_n hx hb dX12_law_57 rfl (lv_at hl 0 rfl) ?_
      refine va_get (D := (dC, dI)) (ci := 12) (v := .int 0) (C := RX12) (T := TX12) (N := 63) hx hb hwd inA_X12 hown hK hP 0 rfl rfl 30 (by decide) (hwd _ wk_102) (fun _ h9 => h9) rfl dX12_law_58 ?_
      refine lv_icmp_ge (tgt := 68) hx hb dX12_law_61 (by decide) (fun c_258 => ?_) (fun c_258 => ?_)
      · skip
        refine lv_aload_n hx hb dX12_law_68 rfl (lv_at hl 0 rfl) ?_
        refine lv_iconst (v := 0) hx hb dX12_law_69 (by decide) ?_
        refine va_put (D := (dC, dI)) (ci := 12) (v := .int 0) (ty := .int) (C := RX12) (T := TX12) (N := 63) hx hb hwd inA_X12 tyX12 tyX12_ok nmX12 hown hK hP hD hS 0 rfl rfl 30 (by decide) (hwd _ wk_102) (fun _ h9 => h9) rfl (by decide +kernel) rfl rfl (Nat.le_of_ble_eq_true rfl) dX12_law_70 (fun H locs hP hD hS => ?_)
        have hP : va_P (dC, dI) classes [(h0, .inr (12, oM g 0))] H := hP
        have hD : va_D A [(h0, .inr (12, oM g 0))] := hD
        refine lv_aload_n hx hb dX12_law_73 rfl (lv_at hl 0 rfl) ?_
        refine va_get (D := (dC, dI)) (ci := 12) (v := .int 0) (C := RX12) (T := TX12) (N := 63) hx hb hwd inA_X12 hown hK hP 0 rfl rfl 40 (by decide) (hwd _ wk_160) (fun _ h9 => h9) rfl dX12_law_74 ?_
        refine lv_if_lt (tgt := 88) hx hb dX12_law_77 (by decide) (fun c_259 => ?_) (fun c_259 => ?_)
        · exact absurd c_259 (by decide)
        · skip
          refine lv_bipush (v := (-100)) hx hb dX12_law_80 (by decide) ?_
          refine lv_aload_n hx hb dX12_law_82 rfl (lv_at hl 0 rfl) ?_
          refine va_get (D := (dC, dI)) (ci := 12) (v := .int 0) (C := RX12) (T := TX12) (N := 63) hx hb hwd inA_X12 hown hK hP 0 rfl rfl 40 (by decide) (hwd _ wk_160) (fun _ h9 => h9) rfl dX12_law_83 ?_
          refine lv_isub hx hb dX12_law_86 ?_
          refine my_top (v := (-100)) (by decide) ?_
          exact W.iret (v := (-100)) hx hb hr (fun t ht hW => ⟨⟨(-100), (), rfl, by unfold f_law; rw [if_neg c_255], trivial⟩, hS.F ht⟩) hS.2.2 dX12_law_87
      · exact absurd c_258 (by decide)
    · exact absurd c_256 (by decide)
  · skip
    refine lv_iconst (v := (-1)) hx hb dX12_law_7 (by decide) ?_
    exact W.iret (v := (-1)) hx hb hr (fun t ht hW => ⟨⟨(-1), (), rfl, by unfold f_law; rw [if_pos c_255], trivial⟩, hS.F ht⟩) hS.2.2 dX12_law_8
