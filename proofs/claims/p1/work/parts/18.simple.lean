set_option maxHeartbeats 4000000 in
set_option maxRecDepth 100000 in
theorem c_X11_stayAt (l : Launch) (dC : Nat → ClassId) (dI : Nat → Nat → Nat) (h0 : Nat) (g : Nat → Nat) (gp : Nat → Nat) (sz : Nat) (p0 : Int32) (p1 : Int32) : Met l yX11_stayAt (Cond.code yX11_stayAt cX11_stayAt 3 (some .int) :: wA) ({ frames := 2, cells := 0, slots := 0, locals := 80 }) (va_Pc [.ref h0, .int p0, .int p1] (fun U => U.heap.size = sz ∧ va_P (dC, dI) classes [(h0, .inr (11, o11 g)), (g 2, .inr (7, o7 gp))] U.heap ∧ va_K (dC, dI) classes [] U ∧ va_D (fun _ => True) [(h0, .inr (11, o11 g)), (g 2, .inr (7, o7 gp))])) (va_Qi (fun (r : Int32) (_ : Unit) => r = (-1)) (fun (_ : Unit) (t : State) => va_P (dC, dI) classes [(h0, .inr (11, o11 g)), (g 2, .inr (7, o7 gp))] t.heap ∧ va_K (dC, dI) classes [] t ∧ va_D (va_A [(h0, .inr (11, o11 g)), (g 2, .inr (7, o7 gp))] sz) [(h0, .inr (11, o11 g)), (g 2, .inr (7, o7 gp))]) (va_A [(h0, .inr (11, o11 g)), (g 2, .inr (7, o7 gp))] sz)) 0 0 (va_A [(h0, .inr (11, o11 g)), (g 2, .inr (7, o7 gp))] sz) := by
  refine Met.ofW (cc := cX11_stayAt) (maxL := 3) (ret := (some .int)) (by decide) rfl ?_
  intro p e s m args below meth c s₁ B hml hv
  obtain ⟨rfl, hsz, hP, hK, hD0⟩ := hv
  have hx := B.exec
  have hb := B.bytes
  have hr := B.returns
  have hts := atoms_spec (ws := Cond.code yX11_stayAt cX11_stayAt 3 (some .int) :: wA) B.pre
  have hwd : ∀ w ∈ wA, w.before _ s = true := fun w h => hts w (List.mem_cons_of_mem _ h)
  have hown : s.vm.findClass RX11 = some m.cls := findClass_of_methodNamed B.named
  have hlocks := B.notSynchronized
  subst hsz
  have hD := hD0.self (sz := s.heap.size)
  generalize hAe : va_A [(h0, .inr (11, o11 g)), (g 2, .inr (7, o7 gp))] s.heap.size = A at hD ⊢
  have hA : ∀ q : Nat, s.heap.size ≤ q → A q := fun q h => by rw [← hAe]; exact Or.inr h
  have hS : va_S A s.heap s.heap [] := va_S.rf
  have hP : va_P (dC, dI) classes [(h0, .inr (11, o11 g)), (g 2, .inr (7, o7 gp))] s.heap := hP
  have hl := lv_entry ([.ref h0, .int p0, .int p1]) (n := 3) (Nat.le_of_ble_eq_true rfl)
  rw [lg_entry_eq]
  generalize (lg_sl ([.ref h0, .int p0, .int p1]) ++ List.replicate (3 - (lg_sl ([.ref h0, .int p0, .int p1])).length) Slot.unset).toArray = ls at hl ⊢
  have hl : lv_has ls 3 [(0, .ref h0), (1, .int p0), (2, .int p1)] := hl
  obtain ⟨H, eH⟩ : ∃ z, z = s.heap := ⟨_, rfl⟩
  have hP : va_P (dC, dI) classes [(h0, .inr (11, o11 g)), (g 2, .inr (7, o7 gp))] H := by rw [eH]; exact hP
  have hS : va_S A s.heap H [] := by rw [eH]; exact va_S.rf
  refine my_heap eH ?_
  refine lv_aload_n hx hb dX11_stayAt_0 rfl (lv_at hl 0 rfl) ?_
  refine va_get (D := (dC, dI)) (ci := 11) (v := .ref (g 2)) (C := RX11) (T := TX11) (N := 14) hx hb hwd inA_X11 hown hK hP 0 rfl rfl 2 (by decide) (hwd _ wk_16) (fun _ h9 => h9) rfl dX11_stayAt_1 ?_
  refine lv_iload_n hx hb dX11_stayAt_4 rfl (lv_at hl 1 rfl) ?_
  have hPc := hP.sub (ws' := [(g 2, .inr (7, o7 gp))]) [1] rfl
  have hDc := hD.sub (ws' := [(g 2, .inr (7, o7 gp))]) [1] (by decide) rfl
  have hKc := hK.sub (tys' := []) [] rfl
  have hFc := va_free (wc := [(g 2, .inr (7, o7 gp))]) hD hS hA [1] rfl
  refine va_calli (va_runV (As := [.int p0]) (rest := []) ⟨hx, hb, hml, hown, hwd⟩ (c_X7_has l dC dI (g 2) gp H.size p0) (cwV 1 hwd (gV wk_17 wk_18 wk_19 wk_20 wk_21) rfl rfl rfl (by decide +kernel) ⟨Nat.le_of_ble_eq_true rfl, Nat.le_of_ble_eq_true rfl⟩) ⟨fun a U g mk q => by obtain ⟨q0, q1, qP, qK, qD⟩ := q; exact ⟨q0, q1, qP, va_K.moved (u := U) (U := U.calling g mk a) (Vm.Alike.refl U.vm) qK, qD⟩, va_recv hKc hPc (ci := 7) (q0 := 0) rfl rfl, fun U hU hW => ⟨rfl, by rw [hU], by rw [hU]; exact hPc, va_K.moved hW.alike hKc, hDc.weaken (fun _ _ _ _ => trivial)⟩⟩ rfl rfl hl.1 rfl (lv_room (Nat.le_of_ble_eq_true rfl)) dX11_stayAt_5 ⟨Nat.le_of_ble_eq_true rfl, Nat.le_of_ble_eq_true rfl⟩) hS (fun q _ h => hFc q h) hFc (fun r_19 u t H1 locs ht hvm hw hB hz1 hk1 hS => ?_)
  obtain ⟨hP1, hK1, hD1⟩ := hB
  rw [ht] at hP1
  obtain ⟨hP, hD⟩ := va_join (wr := [(h0, .inr (11, o11 g))]) (w1 := [(g 2, .inr (7, o7 gp))]) hP hD [1] [0] rfl rfl (by decide) (by decide) hk1 hFc hP1 hD1
  generalize H1 = H at hP hS ⊢
  have hP : va_P (dC, dI) classes [(h0, .inr (11, o11 g)), (g 2, .inr (7, o7 gp))] H := hP
  have hD : va_D A [(h0, .inr (11, o11 g)), (g 2, .inr (7, o7 gp))] := hD
  try dsimp only at hw
  subst hw
  refine lv_if_eq (tgt := 23) hx hb dX11_stayAt_8 (by decide) (fun c_20 => ?_) (fun c_20 => ?_)
  · skip
    refine lv_iconst (v := (-1)) hx hb dX11_stayAt_23 (by decide) ?_
    have hP9 : va_P (dC, dI) classes [(h0, .inr (11, o11 g)), (g 2, .inr (7, o7 gp))] H := hP.sub [0, 1] rfl
    have hD9 : va_D A [(h0, .inr (11, o11 g)), (g 2, .inr (7, o7 gp))] := hD.sub [0, 1] (by decide) rfl
    have hK9 : va_K (dC, dI) classes [] s := hK.sub [] rfl
    exact W.iret (v := (-1)) hx hb hr (fun t ht hW => ⟨⟨(-1), (), rfl, rfl, by rw [ht]; exact hP9, va_K.moved hW.alike hK9, hD9⟩, hS.F ht⟩) hS.2.2 dX11_stayAt_24
  · exact absurd c_20 (by decide)
set_option maxHeartbeats 4000000 in
set_option maxRecDepth 100000 in
theorem c_X11_need (l : Launch) (dC : Nat → ClassId) (dI : Nat → Nat → Nat) (h0 : Nat) (g : Nat → Nat) (ga : Nat → Nat) (sz : Nat) (p0 : Int32) (p1 : Int32) (p2 : Int32) : Met l yX11_need (Cond.code yX11_need cX11_need 4 (some .int) :: wA) ({ frames := 2, cells := 0, slots := 0, locals := 80 }) (va_Pc [.ref h0, .int p0, .int p1, .int p2] (fun U => U.heap.size = sz ∧ va_P (dC, dI) classes [(h0, .inr (11, o11 g)), (g 1, .inr (8, o8 ga))] U.heap ∧ va_K (dC, dI) classes [] U ∧ va_D (fun _ => True) [(h0, .inr (11, o11 g)), (g 1, .inr (8, o8 ga))])) (va_Qi (fun (r : Int32) (_ : Unit) => r = (-1)) (fun (_ : Unit) (_ : State) => True) (va_A [(h0, .inr (11, o11 g)), (g 1, .inr (8, o8 ga))] sz)) 0 0 (va_A [(h0, .inr (11, o11 g)), (g 1, .inr (8, o8 ga))] sz) := by
  refine Met.ofW (cc := cX11_need) (maxL := 4) (ret := (some .int)) (by decide) rfl ?_
  intro p e s m args below meth c s₁ B hml hv
  obtain ⟨rfl, hsz, hP, hK, hD0⟩ := hv
  have hx := B.exec
  have hb := B.bytes
  have hr := B.returns
  have hts := atoms_spec (ws := Cond.code yX11_need cX11_need 4 (some .int) :: wA) B.pre
  have hwd : ∀ w ∈ wA, w.before _ s = true := fun w h => hts w (List.mem_cons_of_mem _ h)
  have hown : s.vm.findClass RX11 = some m.cls := findClass_of_methodNamed B.named
  have hlocks := B.notSynchronized
  subst hsz
  have hD := hD0.self (sz := s.heap.size)
  generalize hAe : va_A [(h0, .inr (11, o11 g)), (g 1, .inr (8, o8 ga))] s.heap.size = A at hD ⊢
  have hA : ∀ q : Nat, s.heap.size ≤ q → A q := fun q h => by rw [← hAe]; exact Or.inr h
  have hS : va_S A s.heap s.heap [] := va_S.rf
  have hP : va_P (dC, dI) classes [(h0, .inr (11, o11 g)), (g 1, .inr (8, o8 ga))] s.heap := hP
  have hl := lv_entry ([.ref h0, .int p0, .int p1, .int p2]) (n := 4) (Nat.le_of_ble_eq_true rfl)
  rw [lg_entry_eq]
  generalize (lg_sl ([.ref h0, .int p0, .int p1, .int p2]) ++ List.replicate (4 - (lg_sl ([.ref h0, .int p0, .int p1, .int p2])).length) Slot.unset).toArray = ls at hl ⊢
  have hl : lv_has ls 4 [(0, .ref h0), (1, .int p0), (2, .int p1), (3, .int p2)] := hl
  obtain ⟨H, eH⟩ : ∃ z, z = s.heap := ⟨_, rfl⟩
  have hP : va_P (dC, dI) classes [(h0, .inr (11, o11 g)), (g 1, .inr (8, o8 ga))] H := by rw [eH]; exact hP
  have hS : va_S A s.heap H [] := by rw [eH]; exact va_S.rf
  refine my_heap eH ?_
  refine lv_aload_n hx hb dX11_need_0 rfl (lv_at hl 0 rfl) ?_
  refine va_get (D := (dC, dI)) (ci := 11) (v := .ref (g 1)) (C := RX11) (T := TX11) (N := 14) hx hb hwd inA_X11 hown hK hP 0 rfl rfl 1 (by decide) (hwd _ wk_22) (fun _ h9 => h9) rfl dX11_need_1 ?_
  refine lv_iload_n hx hb dX11_need_4 rfl (lv_at hl 1 rfl) ?_
  have hPc := hP.sub (ws' := [(g 1, .inr (8, o8 ga))]) [1] rfl
  have hDc := hD.sub (ws' := [(g 1, .inr (8, o8 ga))]) [1] (by decide) rfl
  have hKc := hK.sub (tys' := []) [] rfl
  have hFc := va_free (wc := [(g 1, .inr (8, o8 ga))]) hD hS hA [1] rfl
  refine va_calli (va_runV (As := [.int p0]) (rest := []) ⟨hx, hb, hml, hown, hwd⟩ (c_X8_has l dC dI (g 1) ga H.size p0) (cwV 1 hwd (gV wk_23 wk_24 wk_25 wk_26 wk_27) rfl rfl rfl (by decide +kernel) ⟨Nat.le_of_ble_eq_true rfl, Nat.le_of_ble_eq_true rfl⟩) ⟨fun a U g mk q => by obtain ⟨q0, q1, qP, qK, qD⟩ := q; exact ⟨q0, q1, qP, va_K.moved (u := U) (U := U.calling g mk a) (Vm.Alike.refl U.vm) qK, qD⟩, va_recv hKc hPc (ci := 8) (q0 := 0) rfl rfl, fun U hU hW => ⟨rfl, by rw [hU], by rw [hU]; exact hPc, va_K.moved hW.alike hKc, hDc.weaken (fun _ _ _ _ => trivial)⟩⟩ rfl rfl hl.1 rfl (lv_room (Nat.le_of_ble_eq_true rfl)) dX11_need_5 ⟨Nat.le_of_ble_eq_true rfl, Nat.le_of_ble_eq_true rfl⟩) hS (fun q _ h => hFc q h) hFc (fun r_21 u t H1 locs ht hvm hw hB hz1 hk1 hS => ?_)
  obtain ⟨hP1, hK1, hD1⟩ := hB
  rw [ht] at hP1
  obtain ⟨hP, hD⟩ := va_join (wr := [(h0, .inr (11, o11 g))]) (w1 := [(g 1, .inr (8, o8 ga))]) hP hD [1] [0] rfl rfl (by decide) (by decide) hk1 hFc hP1 hD1
  generalize H1 = H at hP hS ⊢
  have hP : va_P (dC, dI) classes [(h0, .inr (11, o11 g)), (g 1, .inr (8, o8 ga))] H := hP
  have hD : va_D A [(h0, .inr (11, o11 g)), (g 1, .inr (8, o8 ga))] := hD
  try dsimp only at hw
  subst hw
  refine lv_if_eq (tgt := 31) hx hb dX11_need_8 (by decide) (fun c_22 => ?_) (fun c_22 => ?_)
  · skip
    refine lv_iconst (v := (-1)) hx hb dX11_need_31 (by decide) ?_
    exact W.iret (v := (-1)) hx hb hr (fun t ht hW => ⟨⟨(-1), (), rfl, rfl, trivial⟩, hS.F ht⟩) hS.2.2 dX11_need_32
  · exact absurd c_22 (by decide)
set_option maxHeartbeats 4000000 in
set_option maxRecDepth 100000 in
theorem c_X11_fly (l : Launch) (dC : Nat → ClassId) (dI : Nat → Nat → Nat) (h0 : Nat) (g : Nat → Nat) (ga : Nat → Nat) (sz : Nat) (p0 : Int32) (p1 : Int32) (p2 : Int32) : Met l yX11_fly (Cond.code yX11_fly cX11_fly 4 (some .int) :: wA) ({ frames := 2, cells := 0, slots := 0, locals := 80 }) (va_Pc [.ref h0, .int p0, .int p1, .int p2] (fun U => U.heap.size = sz ∧ va_P (dC, dI) classes [(h0, .inr (11, o11 g)), (g 1, .inr (8, o8 ga))] U.heap ∧ va_K (dC, dI) classes [] U ∧ va_D (fun _ => True) [(h0, .inr (11, o11 g)), (g 1, .inr (8, o8 ga))])) (va_Qi (fun (r : Int32) (_ : Unit) => r = (-1)) (fun (_ : Unit) (_ : State) => True) (va_A [(h0, .inr (11, o11 g)), (g 1, .inr (8, o8 ga))] sz)) 0 0 (va_A [(h0, .inr (11, o11 g)), (g 1, .inr (8, o8 ga))] sz) := by
  refine Met.ofW (cc := cX11_fly) (maxL := 4) (ret := (some .int)) (by decide) rfl ?_
  intro p e s m args below meth c s₁ B hml hv
  obtain ⟨rfl, hsz, hP, hK, hD0⟩ := hv
  have hx := B.exec
  have hb := B.bytes
  have hr := B.returns
  have hts := atoms_spec (ws := Cond.code yX11_fly cX11_fly 4 (some .int) :: wA) B.pre
  have hwd : ∀ w ∈ wA, w.before _ s = true := fun w h => hts w (List.mem_cons_of_mem _ h)
  have hown : s.vm.findClass RX11 = some m.cls := findClass_of_methodNamed B.named
  have hlocks := B.notSynchronized
  subst hsz
  have hD := hD0.self (sz := s.heap.size)
  generalize hAe : va_A [(h0, .inr (11, o11 g)), (g 1, .inr (8, o8 ga))] s.heap.size = A at hD ⊢
  have hA : ∀ q : Nat, s.heap.size ≤ q → A q := fun q h => by rw [← hAe]; exact Or.inr h
  have hS : va_S A s.heap s.heap [] := va_S.rf
  have hP : va_P (dC, dI) classes [(h0, .inr (11, o11 g)), (g 1, .inr (8, o8 ga))] s.heap := hP
  have hl := lv_entry ([.ref h0, .int p0, .int p1, .int p2]) (n := 4) (Nat.le_of_ble_eq_true rfl)
  rw [lg_entry_eq]
  generalize (lg_sl ([.ref h0, .int p0, .int p1, .int p2]) ++ List.replicate (4 - (lg_sl ([.ref h0, .int p0, .int p1, .int p2])).length) Slot.unset).toArray = ls at hl ⊢
  have hl : lv_has ls 4 [(0, .ref h0), (1, .int p0), (2, .int p1), (3, .int p2)] := hl
  obtain ⟨H, eH⟩ : ∃ z, z = s.heap := ⟨_, rfl⟩
  have hP : va_P (dC, dI) classes [(h0, .inr (11, o11 g)), (g 1, .inr (8, o8 ga))] H := by rw [eH]; exact hP
  have hS : va_S A s.heap H [] := by rw [eH]; exact va_S.rf
  refine my_heap eH ?_
  refine lv_aload_n hx hb dX11_fly_0 rfl (lv_at hl 0 rfl) ?_
  refine va_get (D := (dC, dI)) (ci := 11) (v := .ref (g 1)) (C := RX11) (T := TX11) (N := 14) hx hb hwd inA_X11 hown hK hP 0 rfl rfl 1 (by decide) (hwd _ wk_22) (fun _ h9 => h9) rfl dX11_fly_1 ?_
  refine lv_iload_n hx hb dX11_fly_4 rfl (lv_at hl 1 rfl) ?_
  have hPc := hP.sub (ws' := [(g 1, .inr (8, o8 ga))]) [1] rfl
  have hDc := hD.sub (ws' := [(g 1, .inr (8, o8 ga))]) [1] (by decide) rfl
  have hKc := hK.sub (tys' := []) [] rfl
  have hFc := va_free (wc := [(g 1, .inr (8, o8 ga))]) hD hS hA [1] rfl
  refine va_calli (va_runV (As := [.int p0]) (rest := []) ⟨hx, hb, hml, hown, hwd⟩ (c_X8_has l dC dI (g 1) ga H.size p0) (cwV 1 hwd (gV wk_23 wk_24 wk_25 wk_26 wk_27) rfl rfl rfl (by decide +kernel) ⟨Nat.le_of_ble_eq_true rfl, Nat.le_of_ble_eq_true rfl⟩) ⟨fun a U g mk q => by obtain ⟨q0, q1, qP, qK, qD⟩ := q; exact ⟨q0, q1, qP, va_K.moved (u := U) (U := U.calling g mk a) (Vm.Alike.refl U.vm) qK, qD⟩, va_recv hKc hPc (ci := 8) (q0 := 0) rfl rfl, fun U hU hW => ⟨rfl, by rw [hU], by rw [hU]; exact hPc, va_K.moved hW.alike hKc, hDc.weaken (fun _ _ _ _ => trivial)⟩⟩ rfl rfl hl.1 rfl (lv_room (Nat.le_of_ble_eq_true rfl)) dX11_fly_5 ⟨Nat.le_of_ble_eq_true rfl, Nat.le_of_ble_eq_true rfl⟩) hS (fun q _ h => hFc q h) hFc (fun r_23 u t H1 locs ht hvm hw hB hz1 hk1 hS => ?_)
  obtain ⟨hP1, hK1, hD1⟩ := hB
  rw [ht] at hP1
  obtain ⟨hP, hD⟩ := va_join (wr := [(h0, .inr (11, o11 g))]) (w1 := [(g 1, .inr (8, o8 ga))]) hP hD [1] [0] rfl rfl (by decide) (by decide) hk1 hFc hP1 hD1
  generalize H1 = H at hP hS ⊢
  have hP : va_P (dC, dI) classes [(h0, .inr (11, o11 g)), (g 1, .inr (8, o8 ga))] H := hP
  have hD : va_D A [(h0, .inr (11, o11 g)), (g 1, .inr (8, o8 ga))] := hD
  try dsimp only at hw
  subst hw
  refine lv_if_eq (tgt := 33) hx hb dX11_fly_8 (by decide) (fun c_24 => ?_) (fun c_24 => ?_)
  · skip
    refine lv_iconst (v := (-1)) hx hb dX11_fly_33 (by decide) ?_
    exact W.iret (v := (-1)) hx hb hr (fun t ht hW => ⟨⟨(-1), (), rfl, rfl, trivial⟩, hS.F ht⟩) hS.2.2 dX11_fly_34
  · exact absurd c_24 (by decide)
set_option maxHeartbeats 4000000 in
set_option maxRecDepth 100000 in
theorem c_X11_ofPlane (l : Launch) (dC : Nat → ClassId) (dI : Nat → Nat → Nat) (h0 : Nat) (g : Nat → Nat) (ga : Nat → Nat) (sz : Nat) (p0 : Int32) (p1 : Int32) : Met l yX11_ofPlane (Cond.code yX11_ofPlane cX11_ofPlane 3 (some .int) :: wA) ({ frames := 2, cells := 0, slots := 0, locals := 80 }) (va_Pc [.ref h0, .int p0, .int p1] (fun U => U.heap.size = sz ∧ va_P (dC, dI) classes [(h0, .inr (11, o11 g)), (g 1, .inr (8, o8 ga))] U.heap ∧ va_K (dC, dI) classes [] U ∧ va_D (fun _ => True) [(h0, .inr (11, o11 g)), (g 1, .inr (8, o8 ga))])) (va_Qi (fun (r : Int32) (_ : Unit) => r = (-2000000000)) (fun (_ : Unit) (_ : State) => True) (va_A [(h0, .inr (11, o11 g)), (g 1, .inr (8, o8 ga))] sz)) 0 0 (va_A [(h0, .inr (11, o11 g)), (g 1, .inr (8, o8 ga))] sz) := by
  refine Met.ofW (cc := cX11_ofPlane) (maxL := 3) (ret := (some .int)) (by decide) rfl ?_
  intro p e s m args below meth c s₁ B hml hv
  obtain ⟨rfl, hsz, hP, hK, hD0⟩ := hv
  have hx := B.exec
  have hb := B.bytes
  have hr := B.returns
  have hts := atoms_spec (ws := Cond.code yX11_ofPlane cX11_ofPlane 3 (some .int) :: wA) B.pre
  have hwd : ∀ w ∈ wA, w.before _ s = true := fun w h => hts w (List.mem_cons_of_mem _ h)
  have hown : s.vm.findClass RX11 = some m.cls := findClass_of_methodNamed B.named
  have hlocks := B.notSynchronized
  subst hsz
  have hD := hD0.self (sz := s.heap.size)
  generalize hAe : va_A [(h0, .inr (11, o11 g)), (g 1, .inr (8, o8 ga))] s.heap.size = A at hD ⊢
  have hA : ∀ q : Nat, s.heap.size ≤ q → A q := fun q h => by rw [← hAe]; exact Or.inr h
  have hS : va_S A s.heap s.heap [] := va_S.rf
  have hP : va_P (dC, dI) classes [(h0, .inr (11, o11 g)), (g 1, .inr (8, o8 ga))] s.heap := hP
  have hl := lv_entry ([.ref h0, .int p0, .int p1]) (n := 3) (Nat.le_of_ble_eq_true rfl)
  rw [lg_entry_eq]
  generalize (lg_sl ([.ref h0, .int p0, .int p1]) ++ List.replicate (3 - (lg_sl ([.ref h0, .int p0, .int p1])).length) Slot.unset).toArray = ls at hl ⊢
  have hl : lv_has ls 3 [(0, .ref h0), (1, .int p0), (2, .int p1)] := hl
  obtain ⟨H, eH⟩ : ∃ z, z = s.heap := ⟨_, rfl⟩
  have hP : va_P (dC, dI) classes [(h0, .inr (11, o11 g)), (g 1, .inr (8, o8 ga))] H := by rw [eH]; exact hP
  have hS : va_S A s.heap H [] := by rw [eH]; exact va_S.rf
  refine my_heap eH ?_
  refine lv_aload_n hx hb dX11_ofPlane_0 rfl (lv_at hl 0 rfl) ?_
  refine va_get (D := (dC, dI)) (ci := 11) (v := .ref (g 1)) (C := RX11) (T := TX11) (N := 14) hx hb hwd inA_X11 hown hK hP 0 rfl rfl 1 (by decide) (hwd _ wk_22) (fun _ h9 => h9) rfl dX11_ofPlane_1 ?_
  refine lv_iload_n hx hb dX11_ofPlane_4 rfl (lv_at hl 1 rfl) ?_
  have hPc := hP.sub (ws' := [(g 1, .inr (8, o8 ga))]) [1] rfl
  have hDc := hD.sub (ws' := [(g 1, .inr (8, o8 ga))]) [1] (by decide) rfl
  have hKc := hK.sub (tys' := []) [] rfl
  have hFc := va_free (wc := [(g 1, .inr (8, o8 ga))]) hD hS hA [1] rfl
  refine va_calli (va_runV (As := [.int p0]) (rest := []) ⟨hx, hb, hml, hown, hwd⟩ (c_X8_has l dC dI (g 1) ga H.size p0) (cwV 1 hwd (gV wk_23 wk_24 wk_25 wk_26 wk_27) rfl rfl rfl (by decide +kernel) ⟨Nat.le_of_ble_eq_true rfl, Nat.le_of_ble_eq_true rfl⟩) ⟨fun a U g mk q => by obtain ⟨q0, q1, qP, qK, qD⟩ := q; exact ⟨q0, q1, qP, va_K.moved (u := U) (U := U.calling g mk a) (Vm.Alike.refl U.vm) qK, qD⟩, va_recv hKc hPc (ci := 8) (q0 := 0) rfl rfl, fun U hU hW => ⟨rfl, by rw [hU], by rw [hU]; exact hPc, va_K.moved hW.alike hKc, hDc.weaken (fun _ _ _ _ => trivial)⟩⟩ rfl rfl hl.1 rfl (lv_room (Nat.le_of_ble_eq_true rfl)) dX11_ofPlane_5 ⟨Nat.le_of_ble_eq_true rfl, Nat.le_of_ble_eq_true rfl⟩) hS (fun q _ h => hFc q h) hFc (fun r_25 u t H1 locs ht hvm hw hB hz1 hk1 hS => ?_)
  obtain ⟨hP1, hK1, hD1⟩ := hB
  rw [ht] at hP1
  obtain ⟨hP, hD⟩ := va_join (wr := [(h0, .inr (11, o11 g))]) (w1 := [(g 1, .inr (8, o8 ga))]) hP hD [1] [0] rfl rfl (by decide) (by decide) hk1 hFc hP1 hD1
  generalize H1 = H at hP hS ⊢
  have hP : va_P (dC, dI) classes [(h0, .inr (11, o11 g)), (g 1, .inr (8, o8 ga))] H := hP
  have hD : va_D A [(h0, .inr (11, o11 g)), (g 1, .inr (8, o8 ga))] := hD
  try dsimp only at hw
  subst hw
  refine lv_if_ne (tgt := 14) hx hb dX11_ofPlane_8 (by decide) (fun c_26 => ?_) (fun c_26 => ?_)
  · exact absurd c_26 (by decide)
  · skip
    refine lv_ldc (v := (-2000000000)) hx hb hown (hwd _ wk_28) dX11_ofPlane_11 ?_
    exact W.iret (v := (-2000000000)) hx hb hr (fun t ht hW => ⟨⟨(-2000000000), (), rfl, rfl, trivial⟩, hS.F ht⟩) hS.2.2 dX11_ofPlane_13
set_option maxHeartbeats 4000000 in
set_option maxRecDepth 100000 in
theorem c_X11_grounded (l : Launch) (dC : Nat → ClassId) (dI : Nat → Nat → Nat) (h0 : Nat) (g : Nat → Nat) (ga : Nat → Nat) (sz : Nat) (p0 : Int32) (p1 : Int32) : Met l yX11_grounded (Cond.code yX11_grounded cX11_grounded 3 (some .int) :: wA) ({ frames := 2, cells := 0, slots := 0, locals := 80 }) (va_Pc [.ref h0, .int p0, .int p1] (fun U => U.heap.size = sz ∧ va_P (dC, dI) classes [(h0, .inr (11, o11 g)), (g 1, .inr (8, o8 ga))] U.heap ∧ va_K (dC, dI) classes [] U ∧ va_D (fun _ => True) [(h0, .inr (11, o11 g)), (g 1, .inr (8, o8 ga))])) (va_Qi (fun (r : Int32) (_ : Unit) => r = (-1)) (fun (_ : Unit) (_ : State) => True) (va_A [(h0, .inr (11, o11 g)), (g 1, .inr (8, o8 ga))] sz)) 0 0 (va_A [(h0, .inr (11, o11 g)), (g 1, .inr (8, o8 ga))] sz) := by
  refine Met.ofW (cc := cX11_grounded) (maxL := 3) (ret := (some .int)) (by decide) rfl ?_
  intro p e s m args below meth c s₁ B hml hv
  obtain ⟨rfl, hsz, hP, hK, hD0⟩ := hv
  have hx := B.exec
  have hb := B.bytes
  have hr := B.returns
  have hts := atoms_spec (ws := Cond.code yX11_grounded cX11_grounded 3 (some .int) :: wA) B.pre
  have hwd : ∀ w ∈ wA, w.before _ s = true := fun w h => hts w (List.mem_cons_of_mem _ h)
  have hown : s.vm.findClass RX11 = some m.cls := findClass_of_methodNamed B.named
  have hlocks := B.notSynchronized
  subst hsz
  have hD := hD0.self (sz := s.heap.size)
  generalize hAe : va_A [(h0, .inr (11, o11 g)), (g 1, .inr (8, o8 ga))] s.heap.size = A at hD ⊢
  have hA : ∀ q : Nat, s.heap.size ≤ q → A q := fun q h => by rw [← hAe]; exact Or.inr h
  have hS : va_S A s.heap s.heap [] := va_S.rf
  have hP : va_P (dC, dI) classes [(h0, .inr (11, o11 g)), (g 1, .inr (8, o8 ga))] s.heap := hP
  have hl := lv_entry ([.ref h0, .int p0, .int p1]) (n := 3) (Nat.le_of_ble_eq_true rfl)
  rw [lg_entry_eq]
  generalize (lg_sl ([.ref h0, .int p0, .int p1]) ++ List.replicate (3 - (lg_sl ([.ref h0, .int p0, .int p1])).length) Slot.unset).toArray = ls at hl ⊢
  have hl : lv_has ls 3 [(0, .ref h0), (1, .int p0), (2, .int p1)] := hl
  obtain ⟨H, eH⟩ : ∃ z, z = s.heap := ⟨_, rfl⟩
  have hP : va_P (dC, dI) classes [(h0, .inr (11, o11 g)), (g 1, .inr (8, o8 ga))] H := by rw [eH]; exact hP
  have hS : va_S A s.heap H [] := by rw [eH]; exact va_S.rf
  refine my_heap eH ?_
  refine lv_aload_n hx hb dX11_grounded_0 rfl (lv_at hl 0 rfl) ?_
  refine va_get (D := (dC, dI)) (ci := 11) (v := .ref (g 1)) (C := RX11) (T := TX11) (N := 14) hx hb hwd inA_X11 hown hK hP 0 rfl rfl 1 (by decide) (hwd _ wk_22) (fun _ h9 => h9) rfl dX11_grounded_1 ?_
  refine lv_iload_n hx hb dX11_grounded_4 rfl (lv_at hl 1 rfl) ?_
  have hPc := hP.sub (ws' := [(g 1, .inr (8, o8 ga))]) [1] rfl
  have hDc := hD.sub (ws' := [(g 1, .inr (8, o8 ga))]) [1] (by decide) rfl
  have hKc := hK.sub (tys' := []) [] rfl
  have hFc := va_free (wc := [(g 1, .inr (8, o8 ga))]) hD hS hA [1] rfl
  refine va_calli (va_runV (As := [.int p0]) (rest := []) ⟨hx, hb, hml, hown, hwd⟩ (c_X8_has l dC dI (g 1) ga H.size p0) (cwV 1 hwd (gV wk_23 wk_24 wk_25 wk_26 wk_27) rfl rfl rfl (by decide +kernel) ⟨Nat.le_of_ble_eq_true rfl, Nat.le_of_ble_eq_true rfl⟩) ⟨fun a U g mk q => by obtain ⟨q0, q1, qP, qK, qD⟩ := q; exact ⟨q0, q1, qP, va_K.moved (u := U) (U := U.calling g mk a) (Vm.Alike.refl U.vm) qK, qD⟩, va_recv hKc hPc (ci := 8) (q0 := 0) rfl rfl, fun U hU hW => ⟨rfl, by rw [hU], by rw [hU]; exact hPc, va_K.moved hW.alike hKc, hDc.weaken (fun _ _ _ _ => trivial)⟩⟩ rfl rfl hl.1 rfl (lv_room (Nat.le_of_ble_eq_true rfl)) dX11_grounded_5 ⟨Nat.le_of_ble_eq_true rfl, Nat.le_of_ble_eq_true rfl⟩) hS (fun q _ h => hFc q h) hFc (fun r_27 u t H1 locs ht hvm hw hB hz1 hk1 hS => ?_)
  obtain ⟨hP1, hK1, hD1⟩ := hB
  rw [ht] at hP1
  obtain ⟨hP, hD⟩ := va_join (wr := [(h0, .inr (11, o11 g))]) (w1 := [(g 1, .inr (8, o8 ga))]) hP hD [1] [0] rfl rfl (by decide) (by decide) hk1 hFc hP1 hD1
  generalize H1 = H at hP hS ⊢
  have hP : va_P (dC, dI) classes [(h0, .inr (11, o11 g)), (g 1, .inr (8, o8 ga))] H := hP
  have hD : va_D A [(h0, .inr (11, o11 g)), (g 1, .inr (8, o8 ga))] := hD
  try dsimp only at hw
  subst hw
  refine lv_if_eq (tgt := 18) hx hb dX11_grounded_8 (by decide) (fun c_28 => ?_) (fun c_28 => ?_)
  · skip
    refine lv_iconst (v := (-1)) hx hb dX11_grounded_18 (by decide) ?_
    exact W.iret (v := (-1)) hx hb hr (fun t ht hW => ⟨⟨(-1), (), rfl, rfl, trivial⟩, hS.F ht⟩) hS.2.2 dX11_grounded_19
  · exact absurd c_28 (by decide)
set_option maxHeartbeats 4000000 in
set_option maxRecDepth 100000 in
theorem c_X11_contract (l : Launch) (dC : Nat → ClassId) (dI : Nat → Nat → Nat) (h0 : Nat) (g : Nat → Nat) (ga : Nat → Nat) (sz : Nat) (p0 : Int32) (p1 : Int32) (p2 : Int32) : Met l yX11_contract (Cond.code yX11_contract cX11_contract 5 (some .int) :: wA) ({ frames := 2, cells := 0, slots := 0, locals := 80 }) (va_Pc [.ref h0, .int p0, .int p1, .int p2] (fun U => U.heap.size = sz ∧ va_P (dC, dI) classes [(h0, .inr (11, o11 g)), (g 1, .inr (8, o8 ga))] U.heap ∧ va_K (dC, dI) classes [] U ∧ va_D (fun _ => True) [(h0, .inr (11, o11 g)), (g 1, .inr (8, o8 ga))])) (va_Qi (fun (r : Int32) (_ : Unit) => r = (-1)) (fun (_ : Unit) (_ : State) => True) (va_A [(h0, .inr (11, o11 g)), (g 1, .inr (8, o8 ga))] sz)) 0 0 (va_A [(h0, .inr (11, o11 g)), (g 1, .inr (8, o8 ga))] sz) := by
  refine Met.ofW (cc := cX11_contract) (maxL := 5) (ret := (some .int)) (by decide) rfl ?_
  intro p e s m args below meth c s₁ B hml hv
  obtain ⟨rfl, hsz, hP, hK, hD0⟩ := hv
  have hx := B.exec
  have hb := B.bytes
  have hr := B.returns
  have hts := atoms_spec (ws := Cond.code yX11_contract cX11_contract 5 (some .int) :: wA) B.pre
  have hwd : ∀ w ∈ wA, w.before _ s = true := fun w h => hts w (List.mem_cons_of_mem _ h)
  have hown : s.vm.findClass RX11 = some m.cls := findClass_of_methodNamed B.named
  have hlocks := B.notSynchronized
  subst hsz
  have hD := hD0.self (sz := s.heap.size)
  generalize hAe : va_A [(h0, .inr (11, o11 g)), (g 1, .inr (8, o8 ga))] s.heap.size = A at hD ⊢
  have hA : ∀ q : Nat, s.heap.size ≤ q → A q := fun q h => by rw [← hAe]; exact Or.inr h
  have hS : va_S A s.heap s.heap [] := va_S.rf
  have hP : va_P (dC, dI) classes [(h0, .inr (11, o11 g)), (g 1, .inr (8, o8 ga))] s.heap := hP
  have hl := lv_entry ([.ref h0, .int p0, .int p1, .int p2]) (n := 5) (Nat.le_of_ble_eq_true rfl)
  rw [lg_entry_eq]
  generalize (lg_sl ([.ref h0, .int p0, .int p1, .int p2]) ++ List.replicate (5 - (lg_sl ([.ref h0, .int p0, .int p1, .int p2])).length) Slot.unset).toArray = ls at hl ⊢
  have hl : lv_has ls 5 [(0, .ref h0), (1, .int p0), (2, .int p1), (3, .int p2)] := hl
  obtain ⟨H, eH⟩ : ∃ z, z = s.heap := ⟨_, rfl⟩
  have hP : va_P (dC, dI) classes [(h0, .inr (11, o11 g)), (g 1, .inr (8, o8 ga))] H := by rw [eH]; exact hP
  have hS : va_S A s.heap H [] := by rw [eH]; exact va_S.rf
  refine my_heap eH ?_
  refine lv_aload_n hx hb dX11_contract_0 rfl (lv_at hl 0 rfl) ?_
  refine va_get (D := (dC, dI)) (ci := 11) (v := .ref (g 1)) (C := RX11) (T := TX11) (N := 14) hx hb hwd inA_X11 hown hK hP 0 rfl rfl 1 (by decide) (hwd _ wk_22) (fun _ h9 => h9) rfl dX11_contract_1 ?_
  refine lv_iload_n hx hb dX11_contract_4 rfl (lv_at hl 1 rfl) ?_
  have hPc := hP.sub (ws' := [(g 1, .inr (8, o8 ga))]) [1] rfl
  have hDc := hD.sub (ws' := [(g 1, .inr (8, o8 ga))]) [1] (by decide) rfl
  have hKc := hK.sub (tys' := []) [] rfl
  have hFc := va_free (wc := [(g 1, .inr (8, o8 ga))]) hD hS hA [1] rfl
  refine va_calli (va_runV (As := [.int p0]) (rest := []) ⟨hx, hb, hml, hown, hwd⟩ (c_X8_has l dC dI (g 1) ga H.size p0) (cwV 1 hwd (gV wk_23 wk_24 wk_25 wk_26 wk_27) rfl rfl rfl (by decide +kernel) ⟨Nat.le_of_ble_eq_true rfl, Nat.le_of_ble_eq_true rfl⟩) ⟨fun a U g mk q => by obtain ⟨q0, q1, qP, qK, qD⟩ := q; exact ⟨q0, q1, qP, va_K.moved (u := U) (U := U.calling g mk a) (Vm.Alike.refl U.vm) qK, qD⟩, va_recv hKc hPc (ci := 8) (q0 := 0) rfl rfl, fun U hU hW => ⟨rfl, by rw [hU], by rw [hU]; exact hPc, va_K.moved hW.alike hKc, hDc.weaken (fun _ _ _ _ => trivial)⟩⟩ rfl rfl hl.1 rfl (lv_room (Nat.le_of_ble_eq_true rfl)) dX11_contract_5 ⟨Nat.le_of_ble_eq_true rfl, Nat.le_of_ble_eq_true rfl⟩) hS (fun q _ h => hFc q h) hFc (fun r_29 u t H1 locs ht hvm hw hB hz1 hk1 hS => ?_)
  obtain ⟨hP1, hK1, hD1⟩ := hB
  rw [ht] at hP1
  obtain ⟨hP, hD⟩ := va_join (wr := [(h0, .inr (11, o11 g))]) (w1 := [(g 1, .inr (8, o8 ga))]) hP hD [1] [0] rfl rfl (by decide) (by decide) hk1 hFc hP1 hD1
  generalize H1 = H at hP hS ⊢
  have hP : va_P (dC, dI) classes [(h0, .inr (11, o11 g)), (g 1, .inr (8, o8 ga))] H := hP
  have hD : va_D A [(h0, .inr (11, o11 g)), (g 1, .inr (8, o8 ga))] := hD
  try dsimp only at hw
  subst hw
  refine lv_if_eq (tgt := 25) hx hb dX11_contract_8 (by decide) (fun c_30 => ?_) (fun c_30 => ?_)
  · skip
    refine lv_iconst (v := (-1)) hx hb dX11_contract_25 (by decide) ?_
    exact W.iret (v := (-1)) hx hb hr (fun t ht hW => ⟨⟨(-1), (), rfl, rfl, trivial⟩, hS.F ht⟩) hS.2.2 dX11_contract_26
  · exact absurd c_30 (by decide)
set_option maxHeartbeats 4000000 in
set_option maxRecDepth 100000 in
theorem c_X11_lacks (l : Launch) (dC : Nat → ClassId) (dI : Nat → Nat → Nat) (h0 : Nat) (g : Nat → Nat) (ga : Nat → Nat) (sz : Nat) (p0 : Int32) (p1 : Int32) (p2 : Int32) (p3 : Int32) : Met l yX11_lacks (Cond.code yX11_lacks cX11_lacks 5 (some .int) :: wA) ({ frames := 2, cells := 0, slots := 0, locals := 80 }) (va_Pc [.ref h0, .int p0, .int p1, .int p2, .int p3] (fun U => U.heap.size = sz ∧ va_P (dC, dI) classes [(h0, .inr (11, o11 g)), (g 1, .inr (8, o8 ga))] U.heap ∧ va_K (dC, dI) classes [] U ∧ va_D (fun _ => True) [(h0, .inr (11, o11 g)), (g 1, .inr (8, o8 ga))])) (va_Qi (fun (r : Int32) (_ : Unit) => r = (-1)) (fun (_ : Unit) (_ : State) => True) (va_A [(h0, .inr (11, o11 g)), (g 1, .inr (8, o8 ga))] sz)) 0 0 (va_A [(h0, .inr (11, o11 g)), (g 1, .inr (8, o8 ga))] sz) := by
  refine Met.ofW (cc := cX11_lacks) (maxL := 5) (ret := (some .int)) (by decide) rfl ?_
  intro p e s m args below meth c s₁ B hml hv
  obtain ⟨rfl, hsz, hP, hK, hD0⟩ := hv
  have hx := B.exec
  have hb := B.bytes
  have hr := B.returns
  have hts := atoms_spec (ws := Cond.code yX11_lacks cX11_lacks 5 (some .int) :: wA) B.pre
  have hwd : ∀ w ∈ wA, w.before _ s = true := fun w h => hts w (List.mem_cons_of_mem _ h)
  have hown : s.vm.findClass RX11 = some m.cls := findClass_of_methodNamed B.named
  have hlocks := B.notSynchronized
  subst hsz
  have hD := hD0.self (sz := s.heap.size)
  generalize hAe : va_A [(h0, .inr (11, o11 g)), (g 1, .inr (8, o8 ga))] s.heap.size = A at hD ⊢
  have hA : ∀ q : Nat, s.heap.size ≤ q → A q := fun q h => by rw [← hAe]; exact Or.inr h
  have hS : va_S A s.heap s.heap [] := va_S.rf
  have hP : va_P (dC, dI) classes [(h0, .inr (11, o11 g)), (g 1, .inr (8, o8 ga))] s.heap := hP
  have hl := lv_entry ([.ref h0, .int p0, .int p1, .int p2, .int p3]) (n := 5) (Nat.le_of_ble_eq_true rfl)
  rw [lg_entry_eq]
  generalize (lg_sl ([.ref h0, .int p0, .int p1, .int p2, .int p3]) ++ List.replicate (5 - (lg_sl ([.ref h0, .int p0, .int p1, .int p2, .int p3])).length) Slot.unset).toArray = ls at hl ⊢
  have hl : lv_has ls 5 [(0, .ref h0), (1, .int p0), (2, .int p1), (3, .int p2), (4, .int p3)] := hl
  obtain ⟨H, eH⟩ : ∃ z, z = s.heap := ⟨_, rfl⟩
  have hP : va_P (dC, dI) classes [(h0, .inr (11, o11 g)), (g 1, .inr (8, o8 ga))] H := by rw [eH]; exact hP
  have hS : va_S A s.heap H [] := by rw [eH]; exact va_S.rf
  refine my_heap eH ?_
  refine lv_aload_n hx hb dX11_lacks_0 rfl (lv_at hl 0 rfl) ?_
  refine va_get (D := (dC, dI)) (ci := 11) (v := .ref (g 1)) (C := RX11) (T := TX11) (N := 14) hx hb hwd inA_X11 hown hK hP 0 rfl rfl 1 (by decide) (hwd _ wk_22) (fun _ h9 => h9) rfl dX11_lacks_1 ?_
  refine lv_iload_n hx hb dX11_lacks_4 rfl (lv_at hl 1 rfl) ?_
  have hPc := hP.sub (ws' := [(g 1, .inr (8, o8 ga))]) [1] rfl
  have hDc := hD.sub (ws' := [(g 1, .inr (8, o8 ga))]) [1] (by decide) rfl
  have hKc := hK.sub (tys' := []) [] rfl
  have hFc := va_free (wc := [(g 1, .inr (8, o8 ga))]) hD hS hA [1] rfl
  refine va_calli (va_runV (As := [.int p0]) (rest := []) ⟨hx, hb, hml, hown, hwd⟩ (c_X8_has l dC dI (g 1) ga H.size p0) (cwV 1 hwd (gV wk_23 wk_24 wk_25 wk_26 wk_27) rfl rfl rfl (by decide +kernel) ⟨Nat.le_of_ble_eq_true rfl, Nat.le_of_ble_eq_true rfl⟩) ⟨fun a U g mk q => by obtain ⟨q0, q1, qP, qK, qD⟩ := q; exact ⟨q0, q1, qP, va_K.moved (u := U) (U := U.calling g mk a) (Vm.Alike.refl U.vm) qK, qD⟩, va_recv hKc hPc (ci := 8) (q0 := 0) rfl rfl, fun U hU hW => ⟨rfl, by rw [hU], by rw [hU]; exact hPc, va_K.moved hW.alike hKc, hDc.weaken (fun _ _ _ _ => trivial)⟩⟩ rfl rfl hl.1 rfl (lv_room (Nat.le_of_ble_eq_true rfl)) dX11_lacks_5 ⟨Nat.le_of_ble_eq_true rfl, Nat.le_of_ble_eq_true rfl⟩) hS (fun q _ h => hFc q h) hFc (fun r_31 u t H1 locs ht hvm hw hB hz1 hk1 hS => ?_)
  obtain ⟨hP1, hK1, hD1⟩ := hB
  rw [ht] at hP1
  obtain ⟨hP, hD⟩ := va_join (wr := [(h0, .inr (11, o11 g))]) (w1 := [(g 1, .inr (8, o8 ga))]) hP hD [1] [0] rfl rfl (by decide) (by decide) hk1 hFc hP1 hD1
  generalize H1 = H at hP hS ⊢
  have hP : va_P (dC, dI) classes [(h0, .inr (11, o11 g)), (g 1, .inr (8, o8 ga))] H := hP
  have hD : va_D A [(h0, .inr (11, o11 g)), (g 1, .inr (8, o8 ga))] := hD
  try dsimp only at hw
  subst hw
  refine lv_if_eq (tgt := 38) hx hb dX11_lacks_8 (by decide) (fun c_32 => ?_) (fun c_32 => ?_)
  · skip
    refine lv_iconst (v := (-1)) hx hb dX11_lacks_38 (by decide) ?_
    exact W.iret (v := (-1)) hx hb hr (fun t ht hW => ⟨⟨(-1), (), rfl, rfl, trivial⟩, hS.F ht⟩) hS.2.2 dX11_lacks_39
  · exact absurd c_32 (by decide)
set_option maxHeartbeats 4000000 in
set_option maxRecDepth 100000 in
theorem c_X11_costs (l : Launch) (dC : Nat → ClassId) (dI : Nat → Nat → Nat) (h0 : Nat) (g : Nat → Nat) (ga : Nat → Nat) (sz : Nat) (p0 : Int32) (p1 : Int32) (p2 : Int32) (p3 : Int32) : Met l yX11_costs (Cond.code yX11_costs cX11_costs 5 (some .int) :: wA) ({ frames := 2, cells := 0, slots := 0, locals := 80 }) (va_Pc [.ref h0, .int p0, .int p1, .int p2, .int p3] (fun U => U.heap.size = sz ∧ va_P (dC, dI) classes [(h0, .inr (11, o11 g)), (g 1, .inr (8, o8 ga))] U.heap ∧ va_K (dC, dI) classes [] U ∧ va_D (fun _ => True) [(h0, .inr (11, o11 g)), (g 1, .inr (8, o8 ga))])) (va_Qi (fun (r : Int32) (_ : Unit) => r = (-2000000000)) (fun (_ : Unit) (_ : State) => True) (va_A [(h0, .inr (11, o11 g)), (g 1, .inr (8, o8 ga))] sz)) 0 0 (va_A [(h0, .inr (11, o11 g)), (g 1, .inr (8, o8 ga))] sz) := by
  refine Met.ofW (cc := cX11_costs) (maxL := 5) (ret := (some .int)) (by decide) rfl ?_
  intro p e s m args below meth c s₁ B hml hv
  obtain ⟨rfl, hsz, hP, hK, hD0⟩ := hv
  have hx := B.exec
  have hb := B.bytes
  have hr := B.returns
  have hts := atoms_spec (ws := Cond.code yX11_costs cX11_costs 5 (some .int) :: wA) B.pre
  have hwd : ∀ w ∈ wA, w.before _ s = true := fun w h => hts w (List.mem_cons_of_mem _ h)
  have hown : s.vm.findClass RX11 = some m.cls := findClass_of_methodNamed B.named
  have hlocks := B.notSynchronized
  subst hsz
  have hD := hD0.self (sz := s.heap.size)
  generalize hAe : va_A [(h0, .inr (11, o11 g)), (g 1, .inr (8, o8 ga))] s.heap.size = A at hD ⊢
  have hA : ∀ q : Nat, s.heap.size ≤ q → A q := fun q h => by rw [← hAe]; exact Or.inr h
  have hS : va_S A s.heap s.heap [] := va_S.rf
  have hP : va_P (dC, dI) classes [(h0, .inr (11, o11 g)), (g 1, .inr (8, o8 ga))] s.heap := hP
  have hl := lv_entry ([.ref h0, .int p0, .int p1, .int p2, .int p3]) (n := 5) (Nat.le_of_ble_eq_true rfl)
  rw [lg_entry_eq]
  generalize (lg_sl ([.ref h0, .int p0, .int p1, .int p2, .int p3]) ++ List.replicate (5 - (lg_sl ([.ref h0, .int p0, .int p1, .int p2, .int p3])).length) Slot.unset).toArray = ls at hl ⊢
  have hl : lv_has ls 5 [(0, .ref h0), (1, .int p0), (2, .int p1), (3, .int p2), (4, .int p3)] := hl
  obtain ⟨H, eH⟩ : ∃ z, z = s.heap := ⟨_, rfl⟩
  have hP : va_P (dC, dI) classes [(h0, .inr (11, o11 g)), (g 1, .inr (8, o8 ga))] H := by rw [eH]; exact hP
  have hS : va_S A s.heap H [] := by rw [eH]; exact va_S.rf
  refine my_heap eH ?_
  refine lv_aload_n hx hb dX11_costs_0 rfl (lv_at hl 0 rfl) ?_
  refine va_get (D := (dC, dI)) (ci := 11) (v := .ref (g 1)) (C := RX11) (T := TX11) (N := 14) hx hb hwd inA_X11 hown hK hP 0 rfl rfl 1 (by decide) (hwd _ wk_22) (fun _ h9 => h9) rfl dX11_costs_1 ?_
  refine lv_iload_n hx hb dX11_costs_4 rfl (lv_at hl 1 rfl) ?_
  have hPc := hP.sub (ws' := [(g 1, .inr (8, o8 ga))]) [1] rfl
  have hDc := hD.sub (ws' := [(g 1, .inr (8, o8 ga))]) [1] (by decide) rfl
  have hKc := hK.sub (tys' := []) [] rfl
  have hFc := va_free (wc := [(g 1, .inr (8, o8 ga))]) hD hS hA [1] rfl
  refine va_calli (va_runV (As := [.int p0]) (rest := []) ⟨hx, hb, hml, hown, hwd⟩ (c_X8_has l dC dI (g 1) ga H.size p0) (cwV 1 hwd (gV wk_23 wk_24 wk_25 wk_26 wk_27) rfl rfl rfl (by decide +kernel) ⟨Nat.le_of_ble_eq_true rfl, Nat.le_of_ble_eq_true rfl⟩) ⟨fun a U g mk q => by obtain ⟨q0, q1, qP, qK, qD⟩ := q; exact ⟨q0, q1, qP, va_K.moved (u := U) (U := U.calling g mk a) (Vm.Alike.refl U.vm) qK, qD⟩, va_recv hKc hPc (ci := 8) (q0 := 0) rfl rfl, fun U hU hW => ⟨rfl, by rw [hU], by rw [hU]; exact hPc, va_K.moved hW.alike hKc, hDc.weaken (fun _ _ _ _ => trivial)⟩⟩ rfl rfl hl.1 rfl (lv_room (Nat.le_of_ble_eq_true rfl)) dX11_costs_5 ⟨Nat.le_of_ble_eq_true rfl, Nat.le_of_ble_eq_true rfl⟩) hS (fun q _ h => hFc q h) hFc (fun r_33 u t H1 locs ht hvm hw hB hz1 hk1 hS => ?_)
  obtain ⟨hP1, hK1, hD1⟩ := hB
  rw [ht] at hP1
  obtain ⟨hP, hD⟩ := va_join (wr := [(h0, .inr (11, o11 g))]) (w1 := [(g 1, .inr (8, o8 ga))]) hP hD [1] [0] rfl rfl (by decide) (by decide) hk1 hFc hP1 hD1
  generalize H1 = H at hP hS ⊢
  have hP : va_P (dC, dI) classes [(h0, .inr (11, o11 g)), (g 1, .inr (8, o8 ga))] H := hP
  have hD : va_D A [(h0, .inr (11, o11 g)), (g 1, .inr (8, o8 ga))] := hD
  try dsimp only at hw
  subst hw
  refine lv_if_eq (tgt := 37) hx hb dX11_costs_8 (by decide) (fun c_34 => ?_) (fun c_34 => ?_)
  · skip
    refine lv_ldc (v := (-2000000000)) hx hb hown (hwd _ wk_28) dX11_costs_37 ?_
    exact W.iret (v := (-2000000000)) hx hb hr (fun t ht hW => ⟨⟨(-2000000000), (), rfl, rfl, trivial⟩, hS.F ht⟩) hS.2.2 dX11_costs_39
  · exact absurd c_34 (by decide)
set_option maxHeartbeats 4000000 in
set_option maxRecDepth 100000 in
theorem c_X11_giveBack (l : Launch) (dC : Nat → ClassId) (dI : Nat → Nat → Nat) (h0 : Nat) (g : Nat → Nat) (ga : Nat → Nat) (sz : Nat) (p0 : Int32) : Met l yX11_giveBack (Cond.code yX11_giveBack cX11_giveBack 3 (some .int) :: wA) ({ frames := 2, cells := 0, slots := 0, locals := 80 }) (va_Pc [.ref h0, .int p0] (fun U => U.heap.size = sz ∧ va_P (dC, dI) classes [(h0, .inr (11, o11 g)), (g 1, .inr (8, o8 ga))] U.heap ∧ va_K (dC, dI) classes [] U ∧ va_D (fun _ => True) [(h0, .inr (11, o11 g)), (g 1, .inr (8, o8 ga))])) (va_Qi (fun (r : Int32) (_ : Unit) => r = (-1)) (fun (_ : Unit) (_ : State) => True) (va_A [(h0, .inr (11, o11 g)), (g 1, .inr (8, o8 ga))] sz)) 0 0 (va_A [(h0, .inr (11, o11 g)), (g 1, .inr (8, o8 ga))] sz) := by
  refine Met.ofW (cc := cX11_giveBack) (maxL := 3) (ret := (some .int)) (by decide) rfl ?_
  intro p e s m args below meth c s₁ B hml hv
  obtain ⟨rfl, hsz, hP, hK, hD0⟩ := hv
  have hx := B.exec
  have hb := B.bytes
  have hr := B.returns
  have hts := atoms_spec (ws := Cond.code yX11_giveBack cX11_giveBack 3 (some .int) :: wA) B.pre
  have hwd : ∀ w ∈ wA, w.before _ s = true := fun w h => hts w (List.mem_cons_of_mem _ h)
  have hown : s.vm.findClass RX11 = some m.cls := findClass_of_methodNamed B.named
  have hlocks := B.notSynchronized
  subst hsz
  have hD := hD0.self (sz := s.heap.size)
  generalize hAe : va_A [(h0, .inr (11, o11 g)), (g 1, .inr (8, o8 ga))] s.heap.size = A at hD ⊢
  have hA : ∀ q : Nat, s.heap.size ≤ q → A q := fun q h => by rw [← hAe]; exact Or.inr h
  have hS : va_S A s.heap s.heap [] := va_S.rf
  have hP : va_P (dC, dI) classes [(h0, .inr (11, o11 g)), (g 1, .inr (8, o8 ga))] s.heap := hP
  have hl := lv_entry ([.ref h0, .int p0]) (n := 3) (Nat.le_of_ble_eq_true rfl)
  rw [lg_entry_eq]
  generalize (lg_sl ([.ref h0, .int p0]) ++ List.replicate (3 - (lg_sl ([.ref h0, .int p0])).length) Slot.unset).toArray = ls at hl ⊢
  have hl : lv_has ls 3 [(0, .ref h0), (1, .int p0)] := hl
  obtain ⟨H, eH⟩ : ∃ z, z = s.heap := ⟨_, rfl⟩
  have hP : va_P (dC, dI) classes [(h0, .inr (11, o11 g)), (g 1, .inr (8, o8 ga))] H := by rw [eH]; exact hP
  have hS : va_S A s.heap H [] := by rw [eH]; exact va_S.rf
  refine my_heap eH ?_
  refine lv_aload_n hx hb dX11_giveBack_0 rfl (lv_at hl 0 rfl) ?_
  refine va_get (D := (dC, dI)) (ci := 11) (v := .ref (g 1)) (C := RX11) (T := TX11) (N := 14) hx hb hwd inA_X11 hown hK hP 0 rfl rfl 1 (by decide) (hwd _ wk_22) (fun _ h9 => h9) rfl dX11_giveBack_1 ?_
  refine lv_iload_n hx hb dX11_giveBack_4 rfl (lv_at hl 1 rfl) ?_
  have hPc := hP.sub (ws' := [(g 1, .inr (8, o8 ga))]) [1] rfl
  have hDc := hD.sub (ws' := [(g 1, .inr (8, o8 ga))]) [1] (by decide) rfl
  have hKc := hK.sub (tys' := []) [] rfl
  have hFc := va_free (wc := [(g 1, .inr (8, o8 ga))]) hD hS hA [1] rfl
  refine va_calli (va_runV (As := [.int p0]) (rest := []) ⟨hx, hb, hml, hown, hwd⟩ (c_X8_has l dC dI (g 1) ga H.size p0) (cwV 1 hwd (gV wk_23 wk_24 wk_25 wk_26 wk_27) rfl rfl rfl (by decide +kernel) ⟨Nat.le_of_ble_eq_true rfl, Nat.le_of_ble_eq_true rfl⟩) ⟨fun a U g mk q => by obtain ⟨q0, q1, qP, qK, qD⟩ := q; exact ⟨q0, q1, qP, va_K.moved (u := U) (U := U.calling g mk a) (Vm.Alike.refl U.vm) qK, qD⟩, va_recv hKc hPc (ci := 8) (q0 := 0) rfl rfl, fun U hU hW => ⟨rfl, by rw [hU], by rw [hU]; exact hPc, va_K.moved hW.alike hKc, hDc.weaken (fun _ _ _ _ => trivial)⟩⟩ rfl rfl hl.1 rfl (lv_room (Nat.le_of_ble_eq_true rfl)) dX11_giveBack_5 ⟨Nat.le_of_ble_eq_true rfl, Nat.le_of_ble_eq_true rfl⟩) hS (fun q _ h => hFc q h) hFc (fun r_35 u t H1 locs ht hvm hw hB hz1 hk1 hS => ?_)
  obtain ⟨hP1, hK1, hD1⟩ := hB
  rw [ht] at hP1
  obtain ⟨hP, hD⟩ := va_join (wr := [(h0, .inr (11, o11 g))]) (w1 := [(g 1, .inr (8, o8 ga))]) hP hD [1] [0] rfl rfl (by decide) (by decide) hk1 hFc hP1 hD1
  generalize H1 = H at hP hS ⊢
  have hP : va_P (dC, dI) classes [(h0, .inr (11, o11 g)), (g 1, .inr (8, o8 ga))] H := hP
  have hD : va_D A [(h0, .inr (11, o11 g)), (g 1, .inr (8, o8 ga))] := hD
  try dsimp only at hw
  subst hw
  refine lv_if_ne (tgt := 13) hx hb dX11_giveBack_8 (by decide) (fun c_36 => ?_) (fun c_36 => ?_)
  · exact absurd c_36 (by decide)
  · skip
    refine lv_iconst (v := (-1)) hx hb dX11_giveBack_11 (by decide) ?_
    exact W.iret (v := (-1)) hx hb hr (fun t ht hW => ⟨⟨(-1), (), rfl, rfl, trivial⟩, hS.F ht⟩) hS.2.2 dX11_giveBack_12
set_option maxHeartbeats 4000000 in
set_option maxRecDepth 100000 in
theorem c_X11_best (l : Launch) (dC : Nat → ClassId) (dI : Nat → Nat → Nat) (h0 : Nat) (g : Nat → Nat) (ga : Nat → Nat) (sz : Nat) (p0 : Int32) (p1 : Int32) : Met l yX11_best (Cond.code yX11_best cX11_best 4 (some .int) :: wA) ({ frames := 2, cells := 0, slots := 0, locals := 80 }) (va_Pc [.ref h0, .int p0, .int p1] (fun U => U.heap.size = sz ∧ va_P (dC, dI) classes [(h0, .inr (11, o11 g)), (g 1, .inr (8, o8 ga))] U.heap ∧ va_K (dC, dI) classes [] U ∧ va_D (fun _ => True) [(h0, .inr (11, o11 g)), (g 1, .inr (8, o8 ga))])) (va_Qi (fun (r : Int32) (_ : Unit) => r = (-1)) (fun (_ : Unit) (_ : State) => True) (va_A [(h0, .inr (11, o11 g)), (g 1, .inr (8, o8 ga))] sz)) 0 0 (va_A [(h0, .inr (11, o11 g)), (g 1, .inr (8, o8 ga))] sz) := by
  refine Met.ofW (cc := cX11_best) (maxL := 4) (ret := (some .int)) (by decide) rfl ?_
  intro p e s m args below meth c s₁ B hml hv
  obtain ⟨rfl, hsz, hP, hK, hD0⟩ := hv
  have hx := B.exec
  have hb := B.bytes
  have hr := B.returns
  have hts := atoms_spec (ws := Cond.code yX11_best cX11_best 4 (some .int) :: wA) B.pre
  have hwd : ∀ w ∈ wA, w.before _ s = true := fun w h => hts w (List.mem_cons_of_mem _ h)
  have hown : s.vm.findClass RX11 = some m.cls := findClass_of_methodNamed B.named
  have hlocks := B.notSynchronized
  subst hsz
  have hD := hD0.self (sz := s.heap.size)
  generalize hAe : va_A [(h0, .inr (11, o11 g)), (g 1, .inr (8, o8 ga))] s.heap.size = A at hD ⊢
  have hA : ∀ q : Nat, s.heap.size ≤ q → A q := fun q h => by rw [← hAe]; exact Or.inr h
  have hS : va_S A s.heap s.heap [] := va_S.rf
  have hP : va_P (dC, dI) classes [(h0, .inr (11, o11 g)), (g 1, .inr (8, o8 ga))] s.heap := hP
  have hl := lv_entry ([.ref h0, .int p0, .int p1]) (n := 4) (Nat.le_of_ble_eq_true rfl)
  rw [lg_entry_eq]
  generalize (lg_sl ([.ref h0, .int p0, .int p1]) ++ List.replicate (4 - (lg_sl ([.ref h0, .int p0, .int p1])).length) Slot.unset).toArray = ls at hl ⊢
  have hl : lv_has ls 4 [(0, .ref h0), (1, .int p0), (2, .int p1)] := hl
  obtain ⟨H, eH⟩ : ∃ z, z = s.heap := ⟨_, rfl⟩
  have hP : va_P (dC, dI) classes [(h0, .inr (11, o11 g)), (g 1, .inr (8, o8 ga))] H := by rw [eH]; exact hP
  have hS : va_S A s.heap H [] := by rw [eH]; exact va_S.rf
  refine my_heap eH ?_
  refine lv_aload_n hx hb dX11_best_0 rfl (lv_at hl 0 rfl) ?_
  refine va_get (D := (dC, dI)) (ci := 11) (v := .ref (g 1)) (C := RX11) (T := TX11) (N := 14) hx hb hwd inA_X11 hown hK hP 0 rfl rfl 1 (by decide) (hwd _ wk_22) (fun _ h9 => h9) rfl dX11_best_1 ?_
  refine lv_iload_n hx hb dX11_best_4 rfl (lv_at hl 1 rfl) ?_
  have hPc := hP.sub (ws' := [(g 1, .inr (8, o8 ga))]) [1] rfl
  have hDc := hD.sub (ws' := [(g 1, .inr (8, o8 ga))]) [1] (by decide) rfl
  have hKc := hK.sub (tys' := []) [] rfl
  have hFc := va_free (wc := [(g 1, .inr (8, o8 ga))]) hD hS hA [1] rfl
  refine va_calli (va_runV (As := [.int p0]) (rest := []) ⟨hx, hb, hml, hown, hwd⟩ (c_X8_has l dC dI (g 1) ga H.size p0) (cwV 1 hwd (gV wk_23 wk_24 wk_25 wk_26 wk_27) rfl rfl rfl (by decide +kernel) ⟨Nat.le_of_ble_eq_true rfl, Nat.le_of_ble_eq_true rfl⟩) ⟨fun a U g mk q => by obtain ⟨q0, q1, qP, qK, qD⟩ := q; exact ⟨q0, q1, qP, va_K.moved (u := U) (U := U.calling g mk a) (Vm.Alike.refl U.vm) qK, qD⟩, va_recv hKc hPc (ci := 8) (q0 := 0) rfl rfl, fun U hU hW => ⟨rfl, by rw [hU], by rw [hU]; exact hPc, va_K.moved hW.alike hKc, hDc.weaken (fun _ _ _ _ => trivial)⟩⟩ rfl rfl hl.1 rfl (lv_room (Nat.le_of_ble_eq_true rfl)) dX11_best_5 ⟨Nat.le_of_ble_eq_true rfl, Nat.le_of_ble_eq_true rfl⟩) hS (fun q _ h => hFc q h) hFc (fun r_37 u t H1 locs ht hvm hw hB hz1 hk1 hS => ?_)
  obtain ⟨hP1, hK1, hD1⟩ := hB
  rw [ht] at hP1
  obtain ⟨hP, hD⟩ := va_join (wr := [(h0, .inr (11, o11 g))]) (w1 := [(g 1, .inr (8, o8 ga))]) hP hD [1] [0] rfl rfl (by decide) (by decide) hk1 hFc hP1 hD1
  generalize H1 = H at hP hS ⊢
  have hP : va_P (dC, dI) classes [(h0, .inr (11, o11 g)), (g 1, .inr (8, o8 ga))] H := hP
  have hD : va_D A [(h0, .inr (11, o11 g)), (g 1, .inr (8, o8 ga))] := hD
  try dsimp only at hw
  subst hw
  refine lv_if_eq (tgt := 22) hx hb dX11_best_8 (by decide) (fun c_38 => ?_) (fun c_38 => ?_)
  · skip
    refine lv_iconst (v := (-1)) hx hb dX11_best_22 (by decide) ?_
    exact W.iret (v := (-1)) hx hb hr (fun t ht hW => ⟨⟨(-1), (), rfl, rfl, trivial⟩, hS.F ht⟩) hS.2.2 dX11_best_23
  · exact absurd c_38 (by decide)
set_option maxHeartbeats 4000000 in
set_option maxRecDepth 100000 in
theorem c_X11_reserve (l : Launch) (dC : Nat → ClassId) (dI : Nat → Nat → Nat) (h0 : Nat) (g : Nat → Nat) (ga : Nat → Nat) (sz : Nat) (p0 : Int32) (p1 : Int32) : Met l yX11_reserve (Cond.code yX11_reserve cX11_reserve 3 (some .int) :: wA) ({ frames := 2, cells := 0, slots := 0, locals := 80 }) (va_Pc [.ref h0, .int p0, .int p1] (fun U => U.heap.size = sz ∧ va_P (dC, dI) classes [(h0, .inr (11, o11 g)), (g 1, .inr (8, o8 ga))] U.heap ∧ va_K (dC, dI) classes [] U ∧ va_D (fun _ => True) [(h0, .inr (11, o11 g)), (g 1, .inr (8, o8 ga))])) (va_Qi (fun (r : Int32) (_ : Unit) => r = (-1)) (fun (_ : Unit) (_ : State) => True) (va_A [(h0, .inr (11, o11 g)), (g 1, .inr (8, o8 ga))] sz)) 0 0 (va_A [(h0, .inr (11, o11 g)), (g 1, .inr (8, o8 ga))] sz) := by
  refine Met.ofW (cc := cX11_reserve) (maxL := 3) (ret := (some .int)) (by decide) rfl ?_
  intro p e s m args below meth c s₁ B hml hv
  obtain ⟨rfl, hsz, hP, hK, hD0⟩ := hv
  have hx := B.exec
  have hb := B.bytes
  have hr := B.returns
  have hts := atoms_spec (ws := Cond.code yX11_reserve cX11_reserve 3 (some .int) :: wA) B.pre
  have hwd : ∀ w ∈ wA, w.before _ s = true := fun w h => hts w (List.mem_cons_of_mem _ h)
  have hown : s.vm.findClass RX11 = some m.cls := findClass_of_methodNamed B.named
  have hlocks := B.notSynchronized
  subst hsz
  have hD := hD0.self (sz := s.heap.size)
  generalize hAe : va_A [(h0, .inr (11, o11 g)), (g 1, .inr (8, o8 ga))] s.heap.size = A at hD ⊢
  have hA : ∀ q : Nat, s.heap.size ≤ q → A q := fun q h => by rw [← hAe]; exact Or.inr h
  have hS : va_S A s.heap s.heap [] := va_S.rf
  have hP : va_P (dC, dI) classes [(h0, .inr (11, o11 g)), (g 1, .inr (8, o8 ga))] s.heap := hP
  have hl := lv_entry ([.ref h0, .int p0, .int p1]) (n := 3) (Nat.le_of_ble_eq_true rfl)
  rw [lg_entry_eq]
  generalize (lg_sl ([.ref h0, .int p0, .int p1]) ++ List.replicate (3 - (lg_sl ([.ref h0, .int p0, .int p1])).length) Slot.unset).toArray = ls at hl ⊢
  have hl : lv_has ls 3 [(0, .ref h0), (1, .int p0), (2, .int p1)] := hl
  obtain ⟨H, eH⟩ : ∃ z, z = s.heap := ⟨_, rfl⟩
  have hP : va_P (dC, dI) classes [(h0, .inr (11, o11 g)), (g 1, .inr (8, o8 ga))] H := by rw [eH]; exact hP
  have hS : va_S A s.heap H [] := by rw [eH]; exact va_S.rf
  refine my_heap eH ?_
  refine lv_aload_n hx hb dX11_reserve_0 rfl (lv_at hl 0 rfl) ?_
  refine va_get (D := (dC, dI)) (ci := 11) (v := .ref (g 1)) (C := RX11) (T := TX11) (N := 14) hx hb hwd inA_X11 hown hK hP 0 rfl rfl 1 (by decide) (hwd _ wk_22) (fun _ h9 => h9) rfl dX11_reserve_1 ?_
  refine lv_iload_n hx hb dX11_reserve_4 rfl (lv_at hl 1 rfl) ?_
  have hPc := hP.sub (ws' := [(g 1, .inr (8, o8 ga))]) [1] rfl
  have hDc := hD.sub (ws' := [(g 1, .inr (8, o8 ga))]) [1] (by decide) rfl
  have hKc := hK.sub (tys' := []) [] rfl
  have hFc := va_free (wc := [(g 1, .inr (8, o8 ga))]) hD hS hA [1] rfl
  refine va_calli (va_runV (As := [.int p0]) (rest := []) ⟨hx, hb, hml, hown, hwd⟩ (c_X8_has l dC dI (g 1) ga H.size p0) (cwV 1 hwd (gV wk_23 wk_24 wk_25 wk_26 wk_27) rfl rfl rfl (by decide +kernel) ⟨Nat.le_of_ble_eq_true rfl, Nat.le_of_ble_eq_true rfl⟩) ⟨fun a U g mk q => by obtain ⟨q0, q1, qP, qK, qD⟩ := q; exact ⟨q0, q1, qP, va_K.moved (u := U) (U := U.calling g mk a) (Vm.Alike.refl U.vm) qK, qD⟩, va_recv hKc hPc (ci := 8) (q0 := 0) rfl rfl, fun U hU hW => ⟨rfl, by rw [hU], by rw [hU]; exact hPc, va_K.moved hW.alike hKc, hDc.weaken (fun _ _ _ _ => trivial)⟩⟩ rfl rfl hl.1 rfl (lv_room (Nat.le_of_ble_eq_true rfl)) dX11_reserve_5 ⟨Nat.le_of_ble_eq_true rfl, Nat.le_of_ble_eq_true rfl⟩) hS (fun q _ h => hFc q h) hFc (fun r_39 u t H1 locs ht hvm hw hB hz1 hk1 hS => ?_)
  obtain ⟨hP1, hK1, hD1⟩ := hB
  rw [ht] at hP1
  obtain ⟨hP, hD⟩ := va_join (wr := [(h0, .inr (11, o11 g))]) (w1 := [(g 1, .inr (8, o8 ga))]) hP hD [1] [0] rfl rfl (by decide) (by decide) hk1 hFc hP1 hD1
  generalize H1 = H at hP hS ⊢
  have hP : va_P (dC, dI) classes [(h0, .inr (11, o11 g)), (g 1, .inr (8, o8 ga))] H := hP
  have hD : va_D A [(h0, .inr (11, o11 g)), (g 1, .inr (8, o8 ga))] := hD
  try dsimp only at hw
  subst hw
  refine lv_if_eq (tgt := 22) hx hb dX11_reserve_8 (by decide) (fun c_40 => ?_) (fun c_40 => ?_)
  · skip
    refine lv_iconst (v := (-1)) hx hb dX11_reserve_22 (by decide) ?_
    exact W.iret (v := (-1)) hx hb hr (fun t ht hW => ⟨⟨(-1), (), rfl, rfl, trivial⟩, hS.F ht⟩) hS.2.2 dX11_reserve_23
  · exact absurd c_40 (by decide)
set_option maxHeartbeats 4000000 in
set_option maxRecDepth 100000 in
theorem c_X11_half (l : Launch) (dC : Nat → ClassId) (dI : Nat → Nat → Nat) (h0 : Nat) (g : Nat → Nat) (ga : Nat → Nat) (sz : Nat) (p0 : Int32) (p1 : Int32) : Met l yX11_half (Cond.code yX11_half cX11_half 3 (some .int) :: wA) ({ frames := 2, cells := 0, slots := 0, locals := 80 }) (va_Pc [.ref h0, .int p0, .int p1] (fun U => U.heap.size = sz ∧ va_P (dC, dI) classes [(h0, .inr (11, o11 g)), (g 1, .inr (8, o8 ga))] U.heap ∧ va_K (dC, dI) classes [] U ∧ va_D (fun _ => True) [(h0, .inr (11, o11 g)), (g 1, .inr (8, o8 ga))])) (va_Qi (fun (r : Int32) (_ : Unit) => r = (-2000000000)) (fun (_ : Unit) (_ : State) => True) (va_A [(h0, .inr (11, o11 g)), (g 1, .inr (8, o8 ga))] sz)) 0 0 (va_A [(h0, .inr (11, o11 g)), (g 1, .inr (8, o8 ga))] sz) := by
  refine Met.ofW (cc := cX11_half) (maxL := 3) (ret := (some .int)) (by decide) rfl ?_
  intro p e s m args below meth c s₁ B hml hv
  obtain ⟨rfl, hsz, hP, hK, hD0⟩ := hv
  have hx := B.exec
  have hb := B.bytes
  have hr := B.returns
  have hts := atoms_spec (ws := Cond.code yX11_half cX11_half 3 (some .int) :: wA) B.pre
  have hwd : ∀ w ∈ wA, w.before _ s = true := fun w h => hts w (List.mem_cons_of_mem _ h)
  have hown : s.vm.findClass RX11 = some m.cls := findClass_of_methodNamed B.named
  have hlocks := B.notSynchronized
  subst hsz
  have hD := hD0.self (sz := s.heap.size)
  generalize hAe : va_A [(h0, .inr (11, o11 g)), (g 1, .inr (8, o8 ga))] s.heap.size = A at hD ⊢
  have hA : ∀ q : Nat, s.heap.size ≤ q → A q := fun q h => by rw [← hAe]; exact Or.inr h
  have hS : va_S A s.heap s.heap [] := va_S.rf
  have hP : va_P (dC, dI) classes [(h0, .inr (11, o11 g)), (g 1, .inr (8, o8 ga))] s.heap := hP
  have hl := lv_entry ([.ref h0, .int p0, .int p1]) (n := 3) (Nat.le_of_ble_eq_true rfl)
  rw [lg_entry_eq]
  generalize (lg_sl ([.ref h0, .int p0, .int p1]) ++ List.replicate (3 - (lg_sl ([.ref h0, .int p0, .int p1])).length) Slot.unset).toArray = ls at hl ⊢
  have hl : lv_has ls 3 [(0, .ref h0), (1, .int p0), (2, .int p1)] := hl
  obtain ⟨H, eH⟩ : ∃ z, z = s.heap := ⟨_, rfl⟩
  have hP : va_P (dC, dI) classes [(h0, .inr (11, o11 g)), (g 1, .inr (8, o8 ga))] H := by rw [eH]; exact hP
  have hS : va_S A s.heap H [] := by rw [eH]; exact va_S.rf
  refine my_heap eH ?_
  refine lv_aload_n hx hb dX11_half_0 rfl (lv_at hl 0 rfl) ?_
  refine va_get (D := (dC, dI)) (ci := 11) (v := .ref (g 1)) (C := RX11) (T := TX11) (N := 14) hx hb hwd inA_X11 hown hK hP 0 rfl rfl 1 (by decide) (hwd _ wk_22) (fun _ h9 => h9) rfl dX11_half_1 ?_
  refine lv_iload_n hx hb dX11_half_4 rfl (lv_at hl 1 rfl) ?_
  have hPc := hP.sub (ws' := [(g 1, .inr (8, o8 ga))]) [1] rfl
  have hDc := hD.sub (ws' := [(g 1, .inr (8, o8 ga))]) [1] (by decide) rfl
  have hKc := hK.sub (tys' := []) [] rfl
  have hFc := va_free (wc := [(g 1, .inr (8, o8 ga))]) hD hS hA [1] rfl
  refine va_calli (va_runV (As := [.int p0]) (rest := []) ⟨hx, hb, hml, hown, hwd⟩ (c_X8_has l dC dI (g 1) ga H.size p0) (cwV 1 hwd (gV wk_23 wk_24 wk_25 wk_26 wk_27) rfl rfl rfl (by decide +kernel) ⟨Nat.le_of_ble_eq_true rfl, Nat.le_of_ble_eq_true rfl⟩) ⟨fun a U g mk q => by obtain ⟨q0, q1, qP, qK, qD⟩ := q; exact ⟨q0, q1, qP, va_K.moved (u := U) (U := U.calling g mk a) (Vm.Alike.refl U.vm) qK, qD⟩, va_recv hKc hPc (ci := 8) (q0 := 0) rfl rfl, fun U hU hW => ⟨rfl, by rw [hU], by rw [hU]; exact hPc, va_K.moved hW.alike hKc, hDc.weaken (fun _ _ _ _ => trivial)⟩⟩ rfl rfl hl.1 rfl (lv_room (Nat.le_of_ble_eq_true rfl)) dX11_half_5 ⟨Nat.le_of_ble_eq_true rfl, Nat.le_of_ble_eq_true rfl⟩) hS (fun q _ h => hFc q h) hFc (fun r_41 u t H1 locs ht hvm hw hB hz1 hk1 hS => ?_)
  obtain ⟨hP1, hK1, hD1⟩ := hB
  rw [ht] at hP1
  obtain ⟨hP, hD⟩ := va_join (wr := [(h0, .inr (11, o11 g))]) (w1 := [(g 1, .inr (8, o8 ga))]) hP hD [1] [0] rfl rfl (by decide) (by decide) hk1 hFc hP1 hD1
  generalize H1 = H at hP hS ⊢
  have hP : va_P (dC, dI) classes [(h0, .inr (11, o11 g)), (g 1, .inr (8, o8 ga))] H := hP
  have hD : va_D A [(h0, .inr (11, o11 g)), (g 1, .inr (8, o8 ga))] := hD
  try dsimp only at hw
  subst hw
  refine lv_if_eq (tgt := 18) hx hb dX11_half_8 (by decide) (fun c_42 => ?_) (fun c_42 => ?_)
  · skip
    refine lv_ldc (v := (-2000000000)) hx hb hown (hwd _ wk_28) dX11_half_18 ?_
    exact W.iret (v := (-2000000000)) hx hb hr (fun t ht hW => ⟨⟨(-2000000000), (), rfl, rfl, trivial⟩, hS.F ht⟩) hS.2.2 dX11_half_20
  · exact absurd c_42 (by decide)
set_option maxHeartbeats 4000000 in
set_option maxRecDepth 100000 in
theorem c_X11_insure (l : Launch) (dC : Nat → ClassId) (dI : Nat → Nat → Nat) (h0 : Nat) (g : Nat → Nat) (ga : Nat → Nat) (sz : Nat) (p0 : Int32) : Met l yX11_insure (Cond.code yX11_insure cX11_insure 3 (some .int) :: wA) ({ frames := 2, cells := 0, slots := 0, locals := 80 }) (va_Pc [.ref h0, .int p0] (fun U => U.heap.size = sz ∧ va_P (dC, dI) classes [(h0, .inr (11, o11 g)), (g 1, .inr (8, o8 ga))] U.heap ∧ va_K (dC, dI) classes [] U ∧ va_D (fun _ => True) [(h0, .inr (11, o11 g)), (g 1, .inr (8, o8 ga))])) (va_Qi (fun (r : Int32) (_ : Unit) => r = (-1)) (fun (_ : Unit) (_ : State) => True) (va_A [(h0, .inr (11, o11 g)), (g 1, .inr (8, o8 ga))] sz)) 0 0 (va_A [(h0, .inr (11, o11 g)), (g 1, .inr (8, o8 ga))] sz) := by
  refine Met.ofW (cc := cX11_insure) (maxL := 3) (ret := (some .int)) (by decide) rfl ?_
  intro p e s m args below meth c s₁ B hml hv
  obtain ⟨rfl, hsz, hP, hK, hD0⟩ := hv
  have hx := B.exec
  have hb := B.bytes
  have hr := B.returns
  have hts := atoms_spec (ws := Cond.code yX11_insure cX11_insure 3 (some .int) :: wA) B.pre
  have hwd : ∀ w ∈ wA, w.before _ s = true := fun w h => hts w (List.mem_cons_of_mem _ h)
  have hown : s.vm.findClass RX11 = some m.cls := findClass_of_methodNamed B.named
  have hlocks := B.notSynchronized
  subst hsz
  have hD := hD0.self (sz := s.heap.size)
  generalize hAe : va_A [(h0, .inr (11, o11 g)), (g 1, .inr (8, o8 ga))] s.heap.size = A at hD ⊢
  have hA : ∀ q : Nat, s.heap.size ≤ q → A q := fun q h => by rw [← hAe]; exact Or.inr h
  have hS : va_S A s.heap s.heap [] := va_S.rf
  have hP : va_P (dC, dI) classes [(h0, .inr (11, o11 g)), (g 1, .inr (8, o8 ga))] s.heap := hP
  have hl := lv_entry ([.ref h0, .int p0]) (n := 3) (Nat.le_of_ble_eq_true rfl)
  rw [lg_entry_eq]
  generalize (lg_sl ([.ref h0, .int p0]) ++ List.replicate (3 - (lg_sl ([.ref h0, .int p0])).length) Slot.unset).toArray = ls at hl ⊢
  have hl : lv_has ls 3 [(0, .ref h0), (1, .int p0)] := hl
  obtain ⟨H, eH⟩ : ∃ z, z = s.heap := ⟨_, rfl⟩
  have hP : va_P (dC, dI) classes [(h0, .inr (11, o11 g)), (g 1, .inr (8, o8 ga))] H := by rw [eH]; exact hP
  have hS : va_S A s.heap H [] := by rw [eH]; exact va_S.rf
  refine my_heap eH ?_
  refine lv_aload_n hx hb dX11_insure_0 rfl (lv_at hl 0 rfl) ?_
  refine va_get (D := (dC, dI)) (ci := 11) (v := .ref (g 1)) (C := RX11) (T := TX11) (N := 14) hx hb hwd inA_X11 hown hK hP 0 rfl rfl 1 (by decide) (hwd _ wk_22) (fun _ h9 => h9) rfl dX11_insure_1 ?_
  refine lv_iload_n hx hb dX11_insure_4 rfl (lv_at hl 1 rfl) ?_
  have hPc := hP.sub (ws' := [(g 1, .inr (8, o8 ga))]) [1] rfl
  have hDc := hD.sub (ws' := [(g 1, .inr (8, o8 ga))]) [1] (by decide) rfl
  have hKc := hK.sub (tys' := []) [] rfl
  have hFc := va_free (wc := [(g 1, .inr (8, o8 ga))]) hD hS hA [1] rfl
  refine va_calli (va_runV (As := [.int p0]) (rest := []) ⟨hx, hb, hml, hown, hwd⟩ (c_X8_has l dC dI (g 1) ga H.size p0) (cwV 1 hwd (gV wk_23 wk_24 wk_25 wk_26 wk_27) rfl rfl rfl (by decide +kernel) ⟨Nat.le_of_ble_eq_true rfl, Nat.le_of_ble_eq_true rfl⟩) ⟨fun a U g mk q => by obtain ⟨q0, q1, qP, qK, qD⟩ := q; exact ⟨q0, q1, qP, va_K.moved (u := U) (U := U.calling g mk a) (Vm.Alike.refl U.vm) qK, qD⟩, va_recv hKc hPc (ci := 8) (q0 := 0) rfl rfl, fun U hU hW => ⟨rfl, by rw [hU], by rw [hU]; exact hPc, va_K.moved hW.alike hKc, hDc.weaken (fun _ _ _ _ => trivial)⟩⟩ rfl rfl hl.1 rfl (lv_room (Nat.le_of_ble_eq_true rfl)) dX11_insure_5 ⟨Nat.le_of_ble_eq_true rfl, Nat.le_of_ble_eq_true rfl⟩) hS (fun q _ h => hFc q h) hFc (fun r_43 u t H1 locs ht hvm hw hB hz1 hk1 hS => ?_)
  obtain ⟨hP1, hK1, hD1⟩ := hB
  rw [ht] at hP1
  obtain ⟨hP, hD⟩ := va_join (wr := [(h0, .inr (11, o11 g))]) (w1 := [(g 1, .inr (8, o8 ga))]) hP hD [1] [0] rfl rfl (by decide) (by decide) hk1 hFc hP1 hD1
  generalize H1 = H at hP hS ⊢
  have hP : va_P (dC, dI) classes [(h0, .inr (11, o11 g)), (g 1, .inr (8, o8 ga))] H := hP
  have hD : va_D A [(h0, .inr (11, o11 g)), (g 1, .inr (8, o8 ga))] := hD
  try dsimp only at hw
  subst hw
  refine lv_if_ne (tgt := 13) hx hb dX11_insure_8 (by decide) (fun c_44 => ?_) (fun c_44 => ?_)
  · exact absurd c_44 (by decide)
  · skip
    refine lv_iconst (v := (-1)) hx hb dX11_insure_11 (by decide) ?_
    exact W.iret (v := (-1)) hx hb hr (fun t ht hW => ⟨⟨(-1), (), rfl, rfl, trivial⟩, hS.F ht⟩) hS.2.2 dX11_insure_12
set_option maxHeartbeats 4000000 in
set_option maxRecDepth 100000 in
theorem c_X11_link (l : Launch) (dC : Nat → ClassId) (dI : Nat → Nat → Nat) (h0 : Nat) (g : Nat → Nat) (ga : Nat → Nat) (sz : Nat) (p0 : Int32) (p1 : Int32) (p2 : Int32) : Met l yX11_link (Cond.code yX11_link cX11_link 4 (some .int) :: wA) ({ frames := 2, cells := 0, slots := 0, locals := 80 }) (va_Pc [.ref h0, .int p0, .int p1, .int p2] (fun U => U.heap.size = sz ∧ va_P (dC, dI) classes [(h0, .inr (11, o11 g)), (g 1, .inr (8, o8 ga))] U.heap ∧ va_K (dC, dI) classes [] U ∧ va_D (fun _ => True) [(h0, .inr (11, o11 g)), (g 1, .inr (8, o8 ga))])) (va_Qi (fun (r : Int32) (_ : Unit) => r = (-1)) (fun (_ : Unit) (_ : State) => True) (va_A [(h0, .inr (11, o11 g)), (g 1, .inr (8, o8 ga))] sz)) 0 0 (va_A [(h0, .inr (11, o11 g)), (g 1, .inr (8, o8 ga))] sz) := by
  refine Met.ofW (cc := cX11_link) (maxL := 4) (ret := (some .int)) (by decide) rfl ?_
  intro p e s m args below meth c s₁ B hml hv
  obtain ⟨rfl, hsz, hP, hK, hD0⟩ := hv
  have hx := B.exec
  have hb := B.bytes
  have hr := B.returns
  have hts := atoms_spec (ws := Cond.code yX11_link cX11_link 4 (some .int) :: wA) B.pre
  have hwd : ∀ w ∈ wA, w.before _ s = true := fun w h => hts w (List.mem_cons_of_mem _ h)
  have hown : s.vm.findClass RX11 = some m.cls := findClass_of_methodNamed B.named
  have hlocks := B.notSynchronized
  subst hsz
  have hD := hD0.self (sz := s.heap.size)
  generalize hAe : va_A [(h0, .inr (11, o11 g)), (g 1, .inr (8, o8 ga))] s.heap.size = A at hD ⊢
  have hA : ∀ q : Nat, s.heap.size ≤ q → A q := fun q h => by rw [← hAe]; exact Or.inr h
  have hS : va_S A s.heap s.heap [] := va_S.rf
  have hP : va_P (dC, dI) classes [(h0, .inr (11, o11 g)), (g 1, .inr (8, o8 ga))] s.heap := hP
  have hl := lv_entry ([.ref h0, .int p0, .int p1, .int p2]) (n := 4) (Nat.le_of_ble_eq_true rfl)
  rw [lg_entry_eq]
  generalize (lg_sl ([.ref h0, .int p0, .int p1, .int p2]) ++ List.replicate (4 - (lg_sl ([.ref h0, .int p0, .int p1, .int p2])).length) Slot.unset).toArray = ls at hl ⊢
  have hl : lv_has ls 4 [(0, .ref h0), (1, .int p0), (2, .int p1), (3, .int p2)] := hl
  obtain ⟨H, eH⟩ : ∃ z, z = s.heap := ⟨_, rfl⟩
  have hP : va_P (dC, dI) classes [(h0, .inr (11, o11 g)), (g 1, .inr (8, o8 ga))] H := by rw [eH]; exact hP
  have hS : va_S A s.heap H [] := by rw [eH]; exact va_S.rf
  refine my_heap eH ?_
  refine lv_aload_n hx hb dX11_link_0 rfl (lv_at hl 0 rfl) ?_
  refine va_get (D := (dC, dI)) (ci := 11) (v := .ref (g 1)) (C := RX11) (T := TX11) (N := 14) hx hb hwd inA_X11 hown hK hP 0 rfl rfl 1 (by decide) (hwd _ wk_22) (fun _ h9 => h9) rfl dX11_link_1 ?_
  refine lv_iload_n hx hb dX11_link_4 rfl (lv_at hl 1 rfl) ?_
  have hPc := hP.sub (ws' := [(g 1, .inr (8, o8 ga))]) [1] rfl
  have hDc := hD.sub (ws' := [(g 1, .inr (8, o8 ga))]) [1] (by decide) rfl
  have hKc := hK.sub (tys' := []) [] rfl
  have hFc := va_free (wc := [(g 1, .inr (8, o8 ga))]) hD hS hA [1] rfl
  refine va_calli (va_runV (As := [.int p0]) (rest := []) ⟨hx, hb, hml, hown, hwd⟩ (c_X8_has l dC dI (g 1) ga H.size p0) (cwV 1 hwd (gV wk_23 wk_24 wk_25 wk_26 wk_27) rfl rfl rfl (by decide +kernel) ⟨Nat.le_of_ble_eq_true rfl, Nat.le_of_ble_eq_true rfl⟩) ⟨fun a U g mk q => by obtain ⟨q0, q1, qP, qK, qD⟩ := q; exact ⟨q0, q1, qP, va_K.moved (u := U) (U := U.calling g mk a) (Vm.Alike.refl U.vm) qK, qD⟩, va_recv hKc hPc (ci := 8) (q0 := 0) rfl rfl, fun U hU hW => ⟨rfl, by rw [hU], by rw [hU]; exact hPc, va_K.moved hW.alike hKc, hDc.weaken (fun _ _ _ _ => trivial)⟩⟩ rfl rfl hl.1 rfl (lv_room (Nat.le_of_ble_eq_true rfl)) dX11_link_5 ⟨Nat.le_of_ble_eq_true rfl, Nat.le_of_ble_eq_true rfl⟩) hS (fun q _ h => hFc q h) hFc (fun r_45 u t H1 locs ht hvm hw hB hz1 hk1 hS => ?_)
  obtain ⟨hP1, hK1, hD1⟩ := hB
  rw [ht] at hP1
  obtain ⟨hP, hD⟩ := va_join (wr := [(h0, .inr (11, o11 g))]) (w1 := [(g 1, .inr (8, o8 ga))]) hP hD [1] [0] rfl rfl (by decide) (by decide) hk1 hFc hP1 hD1
  generalize H1 = H at hP hS ⊢
  have hP : va_P (dC, dI) classes [(h0, .inr (11, o11 g)), (g 1, .inr (8, o8 ga))] H := hP
  have hD : va_D A [(h0, .inr (11, o11 g)), (g 1, .inr (8, o8 ga))] := hD
  try dsimp only at hw
  subst hw
  refine lv_if_eq (tgt := 28) hx hb dX11_link_8 (by decide) (fun c_46 => ?_) (fun c_46 => ?_)
  · skip
    refine lv_iconst (v := (-1)) hx hb dX11_link_28 (by decide) ?_
    exact W.iret (v := (-1)) hx hb hr (fun t ht hW => ⟨⟨(-1), (), rfl, rfl, trivial⟩, hS.F ht⟩) hS.2.2 dX11_link_29
  · exact absurd c_46 (by decide)
set_option maxHeartbeats 4000000 in
set_option maxRecDepth 100000 in
theorem c_X11_net (l : Launch) (dC : Nat → ClassId) (dI : Nat → Nat → Nat) (h0 : Nat) (g : Nat → Nat) (ga : Nat → Nat) (sz : Nat) (p0 : Int32) (p1 : Int32) (p2 : Int32) : Met l yX11_net (Cond.code yX11_net cX11_net 4 (some .int) :: wA) ({ frames := 2, cells := 0, slots := 0, locals := 80 }) (va_Pc [.ref h0, .int p0, .int p1, .int p2] (fun U => U.heap.size = sz ∧ va_P (dC, dI) classes [(h0, .inr (11, o11 g)), (g 1, .inr (8, o8 ga))] U.heap ∧ va_K (dC, dI) classes [] U ∧ va_D (fun _ => True) [(h0, .inr (11, o11 g)), (g 1, .inr (8, o8 ga))])) (va_Qi (fun (r : Int32) (_ : Unit) => r = (-2000000000)) (fun (_ : Unit) (_ : State) => True) (va_A [(h0, .inr (11, o11 g)), (g 1, .inr (8, o8 ga))] sz)) 0 0 (va_A [(h0, .inr (11, o11 g)), (g 1, .inr (8, o8 ga))] sz) := by
  refine Met.ofW (cc := cX11_net) (maxL := 4) (ret := (some .int)) (by decide) rfl ?_
  intro p e s m args below meth c s₁ B hml hv
  obtain ⟨rfl, hsz, hP, hK, hD0⟩ := hv
  have hx := B.exec
  have hb := B.bytes
  have hr := B.returns
  have hts := atoms_spec (ws := Cond.code yX11_net cX11_net 4 (some .int) :: wA) B.pre
  have hwd : ∀ w ∈ wA, w.before _ s = true := fun w h => hts w (List.mem_cons_of_mem _ h)
  have hown : s.vm.findClass RX11 = some m.cls := findClass_of_methodNamed B.named
  have hlocks := B.notSynchronized
  subst hsz
  have hD := hD0.self (sz := s.heap.size)
  generalize hAe : va_A [(h0, .inr (11, o11 g)), (g 1, .inr (8, o8 ga))] s.heap.size = A at hD ⊢
  have hA : ∀ q : Nat, s.heap.size ≤ q → A q := fun q h => by rw [← hAe]; exact Or.inr h
  have hS : va_S A s.heap s.heap [] := va_S.rf
  have hP : va_P (dC, dI) classes [(h0, .inr (11, o11 g)), (g 1, .inr (8, o8 ga))] s.heap := hP
  have hl := lv_entry ([.ref h0, .int p0, .int p1, .int p2]) (n := 4) (Nat.le_of_ble_eq_true rfl)
  rw [lg_entry_eq]
  generalize (lg_sl ([.ref h0, .int p0, .int p1, .int p2]) ++ List.replicate (4 - (lg_sl ([.ref h0, .int p0, .int p1, .int p2])).length) Slot.unset).toArray = ls at hl ⊢
  have hl : lv_has ls 4 [(0, .ref h0), (1, .int p0), (2, .int p1), (3, .int p2)] := hl
  obtain ⟨H, eH⟩ : ∃ z, z = s.heap := ⟨_, rfl⟩
  have hP : va_P (dC, dI) classes [(h0, .inr (11, o11 g)), (g 1, .inr (8, o8 ga))] H := by rw [eH]; exact hP
  have hS : va_S A s.heap H [] := by rw [eH]; exact va_S.rf
  refine my_heap eH ?_
  refine lv_aload_n hx hb dX11_net_0 rfl (lv_at hl 0 rfl) ?_
  refine va_get (D := (dC, dI)) (ci := 11) (v := .ref (g 1)) (C := RX11) (T := TX11) (N := 14) hx hb hwd inA_X11 hown hK hP 0 rfl rfl 1 (by decide) (hwd _ wk_22) (fun _ h9 => h9) rfl dX11_net_1 ?_
  refine lv_iload_n hx hb dX11_net_4 rfl (lv_at hl 1 rfl) ?_
  have hPc := hP.sub (ws' := [(g 1, .inr (8, o8 ga))]) [1] rfl
  have hDc := hD.sub (ws' := [(g 1, .inr (8, o8 ga))]) [1] (by decide) rfl
  have hKc := hK.sub (tys' := []) [] rfl
  have hFc := va_free (wc := [(g 1, .inr (8, o8 ga))]) hD hS hA [1] rfl
  refine va_calli (va_runV (As := [.int p0]) (rest := []) ⟨hx, hb, hml, hown, hwd⟩ (c_X8_has l dC dI (g 1) ga H.size p0) (cwV 1 hwd (gV wk_23 wk_24 wk_25 wk_26 wk_27) rfl rfl rfl (by decide +kernel) ⟨Nat.le_of_ble_eq_true rfl, Nat.le_of_ble_eq_true rfl⟩) ⟨fun a U g mk q => by obtain ⟨q0, q1, qP, qK, qD⟩ := q; exact ⟨q0, q1, qP, va_K.moved (u := U) (U := U.calling g mk a) (Vm.Alike.refl U.vm) qK, qD⟩, va_recv hKc hPc (ci := 8) (q0 := 0) rfl rfl, fun U hU hW => ⟨rfl, by rw [hU], by rw [hU]; exact hPc, va_K.moved hW.alike hKc, hDc.weaken (fun _ _ _ _ => trivial)⟩⟩ rfl rfl hl.1 rfl (lv_room (Nat.le_of_ble_eq_true rfl)) dX11_net_5 ⟨Nat.le_of_ble_eq_true rfl, Nat.le_of_ble_eq_true rfl⟩) hS (fun q _ h => hFc q h) hFc (fun r_47 u t H1 locs ht hvm hw hB hz1 hk1 hS => ?_)
  obtain ⟨hP1, hK1, hD1⟩ := hB
  rw [ht] at hP1
  obtain ⟨hP, hD⟩ := va_join (wr := [(h0, .inr (11, o11 g))]) (w1 := [(g 1, .inr (8, o8 ga))]) hP hD [1] [0] rfl rfl (by decide) (by decide) hk1 hFc hP1 hD1
  generalize H1 = H at hP hS ⊢
  have hP : va_P (dC, dI) classes [(h0, .inr (11, o11 g)), (g 1, .inr (8, o8 ga))] H := hP
  have hD : va_D A [(h0, .inr (11, o11 g)), (g 1, .inr (8, o8 ga))] := hD
  try dsimp only at hw
  subst hw
  refine lv_if_eq (tgt := 41) hx hb dX11_net_8 (by decide) (fun c_48 => ?_) (fun c_48 => ?_)
  · skip
    refine lv_ldc (v := (-2000000000)) hx hb hown (hwd _ wk_28) dX11_net_41 ?_
    exact W.iret (v := (-2000000000)) hx hb hr (fun t ht hW => ⟨⟨(-2000000000), (), rfl, rfl, trivial⟩, hS.F ht⟩) hS.2.2 dX11_net_43
  · exact absurd c_48 (by decide)
set_option maxHeartbeats 4000000 in
set_option maxRecDepth 100000 in
theorem c_X11_part (l : Launch) (dC : Nat → ClassId) (dI : Nat → Nat → Nat) (h0 : Nat) (g : Nat → Nat) (gk : Nat → Nat) (sz : Nat) (p0 : Int32) (p1 : Int32) (p2 : Int32) (p3 : Int32) (p4 : Int32) : Met l yX11_part (Cond.code yX11_part cX11_part 7 (some .int) :: wA) ({ frames := 2, cells := 0, slots := 0, locals := 80 }) (va_Pc [.ref h0, .int p0, .int p1, .int p2, .int p3, .int p4] (fun U => U.heap.size = sz ∧ va_P (dC, dI) classes [(h0, .inr (11, o11 g)), (g 0, .inr (2, o2 gk))] U.heap ∧ va_K (dC, dI) classes [] U ∧ va_D (fun _ => True) [(h0, .inr (11, o11 g)), (g 0, .inr (2, o2 gk))])) (va_Qi (fun (r : Int32) (_ : Unit) => r = (-1)) (fun (_ : Unit) (_ : State) => True) (va_A [(h0, .inr (11, o11 g)), (g 0, .inr (2, o2 gk))] sz)) 0 0 (va_A [(h0, .inr (11, o11 g)), (g 0, .inr (2, o2 gk))] sz) := by
  refine Met.ofW (cc := cX11_part) (maxL := 7) (ret := (some .int)) (by decide) rfl ?_
  intro p e s m args below meth c s₁ B hml hv
  obtain ⟨rfl, hsz, hP, hK, hD0⟩ := hv
  have hx := B.exec
  have hb := B.bytes
  have hr := B.returns
  have hts := atoms_spec (ws := Cond.code yX11_part cX11_part 7 (some .int) :: wA) B.pre
  have hwd : ∀ w ∈ wA, w.before _ s = true := fun w h => hts w (List.mem_cons_of_mem _ h)
  have hown : s.vm.findClass RX11 = some m.cls := findClass_of_methodNamed B.named
  have hlocks := B.notSynchronized
  subst hsz
  have hD := hD0.self (sz := s.heap.size)
  generalize hAe : va_A [(h0, .inr (11, o11 g)), (g 0, .inr (2, o2 gk))] s.heap.size = A at hD ⊢
  have hA : ∀ q : Nat, s.heap.size ≤ q → A q := fun q h => by rw [← hAe]; exact Or.inr h
  have hS : va_S A s.heap s.heap [] := va_S.rf
  have hP : va_P (dC, dI) classes [(h0, .inr (11, o11 g)), (g 0, .inr (2, o2 gk))] s.heap := hP
  have hl := lv_entry ([.ref h0, .int p0, .int p1, .int p2, .int p3, .int p4]) (n := 7) (Nat.le_of_ble_eq_true rfl)
  rw [lg_entry_eq]
  generalize (lg_sl ([.ref h0, .int p0, .int p1, .int p2, .int p3, .int p4]) ++ List.replicate (7 - (lg_sl ([.ref h0, .int p0, .int p1, .int p2, .int p3, .int p4])).length) Slot.unset).toArray = ls at hl ⊢
  have hl : lv_has ls 7 [(0, .ref h0), (1, .int p0), (2, .int p1), (3, .int p2), (4, .int p3), (5, .int p4)] := hl
  obtain ⟨H, eH⟩ : ∃ z, z = s.heap := ⟨_, rfl⟩
  have hP : va_P (dC, dI) classes [(h0, .inr (11, o11 g)), (g 0, .inr (2, o2 gk))] H := by rw [eH]; exact hP
  have hS : va_S A s.heap H [] := by rw [eH]; exact va_S.rf
  refine my_heap eH ?_
  refine lv_aload_n hx hb dX11_part_0 rfl (lv_at hl 0 rfl) ?_
  refine va_get (D := (dC, dI)) (ci := 11) (v := .ref (g 0)) (C := RX11) (T := TX11) (N := 14) hx hb hwd inA_X11 hown hK hP 0 rfl rfl 0 (by decide) (hwd _ wk_29) (fun _ h9 => h9) rfl dX11_part_1 ?_
  refine lv_iload_n hx hb dX11_part_4 rfl (lv_at hl 1 rfl) ?_
  have hPc := hP.sub (ws' := [(g 0, .inr (2, o2 gk))]) [1] rfl
  have hDc := hD.sub (ws' := [(g 0, .inr (2, o2 gk))]) [1] (by decide) rfl
  have hKc := hK.sub (tys' := []) [] rfl
  have hFc := va_free (wc := [(g 0, .inr (2, o2 gk))]) hD hS hA [1] rfl
  refine va_calli (va_runV (As := [.int p0]) (rest := []) ⟨hx, hb, hml, hown, hwd⟩ (c_X2_has l dC dI (g 0) gk H.size p0) (cwV 1 hwd (gV wk_30 wk_31 wk_32 wk_33 wk_34) rfl rfl rfl (by decide +kernel) ⟨Nat.le_of_ble_eq_true rfl, Nat.le_of_ble_eq_true rfl⟩) ⟨fun a U g mk q => by obtain ⟨q0, q1, qP, qK, qD⟩ := q; exact ⟨q0, q1, qP, va_K.moved (u := U) (U := U.calling g mk a) (Vm.Alike.refl U.vm) qK, qD⟩, va_recv hKc hPc (ci := 2) (q0 := 0) rfl rfl, fun U hU hW => ⟨rfl, by rw [hU], by rw [hU]; exact hPc, va_K.moved hW.alike hKc, hDc.weaken (fun _ _ _ _ => trivial)⟩⟩ rfl rfl hl.1 rfl (lv_room (Nat.le_of_ble_eq_true rfl)) dX11_part_5 ⟨Nat.le_of_ble_eq_true rfl, Nat.le_of_ble_eq_true rfl⟩) hS (fun q _ h => hFc q h) hFc (fun r_49 u t H1 locs ht hvm hw hB hz1 hk1 hS => ?_)
  obtain ⟨hP1, hK1, hD1⟩ := hB
  rw [ht] at hP1
  obtain ⟨hP, hD⟩ := va_join (wr := [(h0, .inr (11, o11 g))]) (w1 := [(g 0, .inr (2, o2 gk))]) hP hD [1] [0] rfl rfl (by decide) (by decide) hk1 hFc hP1 hD1
  generalize H1 = H at hP hS ⊢
  have hP : va_P (dC, dI) classes [(h0, .inr (11, o11 g)), (g 0, .inr (2, o2 gk))] H := hP
  have hD : va_D A [(h0, .inr (11, o11 g)), (g 0, .inr (2, o2 gk))] := hD
  try dsimp only at hw
  subst hw
  refine lv_if_eq (tgt := 21) hx hb dX11_part_8 (by decide) (fun c_50 => ?_) (fun c_50 => ?_)
  · skip
    refine lv_iconst (v := (-1)) hx hb dX11_part_21 (by decide) ?_
    exact W.iret (v := (-1)) hx hb hr (fun t ht hW => ⟨⟨(-1), (), rfl, rfl, trivial⟩, hS.F ht⟩) hS.2.2 dX11_part_22
  · exact absurd c_50 (by decide)
set_option maxHeartbeats 4000000 in
set_option maxRecDepth 100000 in
theorem c_X11_order (l : Launch) (dC : Nat → ClassId) (dI : Nat → Nat → Nat) (h0 : Nat) (g : Nat → Nat) (gk : Nat → Nat) (sz : Nat) (p0 : Int32) (p1 : Int32) : Met l yX11_order (Cond.code yX11_order cX11_order 3 (some .int) :: wA) ({ frames := 2, cells := 0, slots := 0, locals := 80 }) (va_Pc [.ref h0, .int p0, .int p1] (fun U => U.heap.size = sz ∧ va_P (dC, dI) classes [(h0, .inr (11, o11 g)), (g 0, .inr (2, o2 gk))] U.heap ∧ va_K (dC, dI) classes [] U ∧ va_D (fun _ => True) [(h0, .inr (11, o11 g)), (g 0, .inr (2, o2 gk))])) (va_Qi (fun (r : Int32) (_ : Unit) => r = (-1)) (fun (_ : Unit) (_ : State) => True) (va_A [(h0, .inr (11, o11 g)), (g 0, .inr (2, o2 gk))] sz)) 0 0 (va_A [(h0, .inr (11, o11 g)), (g 0, .inr (2, o2 gk))] sz) := by
  refine Met.ofW (cc := cX11_order) (maxL := 3) (ret := (some .int)) (by decide) rfl ?_
  intro p e s m args below meth c s₁ B hml hv
  obtain ⟨rfl, hsz, hP, hK, hD0⟩ := hv
  have hx := B.exec
  have hb := B.bytes
  have hr := B.returns
  have hts := atoms_spec (ws := Cond.code yX11_order cX11_order 3 (some .int) :: wA) B.pre
  have hwd : ∀ w ∈ wA, w.before _ s = true := fun w h => hts w (List.mem_cons_of_mem _ h)
  have hown : s.vm.findClass RX11 = some m.cls := findClass_of_methodNamed B.named
  have hlocks := B.notSynchronized
  subst hsz
  have hD := hD0.self (sz := s.heap.size)
  generalize hAe : va_A [(h0, .inr (11, o11 g)), (g 0, .inr (2, o2 gk))] s.heap.size = A at hD ⊢
  have hA : ∀ q : Nat, s.heap.size ≤ q → A q := fun q h => by rw [← hAe]; exact Or.inr h
  have hS : va_S A s.heap s.heap [] := va_S.rf
  have hP : va_P (dC, dI) classes [(h0, .inr (11, o11 g)), (g 0, .inr (2, o2 gk))] s.heap := hP
  have hl := lv_entry ([.ref h0, .int p0, .int p1]) (n := 3) (Nat.le_of_ble_eq_true rfl)
  rw [lg_entry_eq]
  generalize (lg_sl ([.ref h0, .int p0, .int p1]) ++ List.replicate (3 - (lg_sl ([.ref h0, .int p0, .int p1])).length) Slot.unset).toArray = ls at hl ⊢
  have hl : lv_has ls 3 [(0, .ref h0), (1, .int p0), (2, .int p1)] := hl
  obtain ⟨H, eH⟩ : ∃ z, z = s.heap := ⟨_, rfl⟩
  have hP : va_P (dC, dI) classes [(h0, .inr (11, o11 g)), (g 0, .inr (2, o2 gk))] H := by rw [eH]; exact hP
  have hS : va_S A s.heap H [] := by rw [eH]; exact va_S.rf
  refine my_heap eH ?_
  refine lv_aload_n hx hb dX11_order_0 rfl (lv_at hl 0 rfl) ?_
  refine va_get (D := (dC, dI)) (ci := 11) (v := .ref (g 0)) (C := RX11) (T := TX11) (N := 14) hx hb hwd inA_X11 hown hK hP 0 rfl rfl 0 (by decide) (hwd _ wk_29) (fun _ h9 => h9) rfl dX11_order_1 ?_
  refine lv_iload_n hx hb dX11_order_4 rfl (lv_at hl 1 rfl) ?_
  have hPc := hP.sub (ws' := [(g 0, .inr (2, o2 gk))]) [1] rfl
  have hDc := hD.sub (ws' := [(g 0, .inr (2, o2 gk))]) [1] (by decide) rfl
  have hKc := hK.sub (tys' := []) [] rfl
  have hFc := va_free (wc := [(g 0, .inr (2, o2 gk))]) hD hS hA [1] rfl
  refine va_calli (va_runV (As := [.int p0]) (rest := []) ⟨hx, hb, hml, hown, hwd⟩ (c_X2_has l dC dI (g 0) gk H.size p0) (cwV 1 hwd (gV wk_30 wk_31 wk_32 wk_33 wk_34) rfl rfl rfl (by decide +kernel) ⟨Nat.le_of_ble_eq_true rfl, Nat.le_of_ble_eq_true rfl⟩) ⟨fun a U g mk q => by obtain ⟨q0, q1, qP, qK, qD⟩ := q; exact ⟨q0, q1, qP, va_K.moved (u := U) (U := U.calling g mk a) (Vm.Alike.refl U.vm) qK, qD⟩, va_recv hKc hPc (ci := 2) (q0 := 0) rfl rfl, fun U hU hW => ⟨rfl, by rw [hU], by rw [hU]; exact hPc, va_K.moved hW.alike hKc, hDc.weaken (fun _ _ _ _ => trivial)⟩⟩ rfl rfl hl.1 rfl (lv_room (Nat.le_of_ble_eq_true rfl)) dX11_order_5 ⟨Nat.le_of_ble_eq_true rfl, Nat.le_of_ble_eq_true rfl⟩) hS (fun q _ h => hFc q h) hFc (fun r_51 u t H1 locs ht hvm hw hB hz1 hk1 hS => ?_)
  obtain ⟨hP1, hK1, hD1⟩ := hB
  rw [ht] at hP1
  obtain ⟨hP, hD⟩ := va_join (wr := [(h0, .inr (11, o11 g))]) (w1 := [(g 0, .inr (2, o2 gk))]) hP hD [1] [0] rfl rfl (by decide) (by decide) hk1 hFc hP1 hD1
  generalize H1 = H at hP hS ⊢
  have hP : va_P (dC, dI) classes [(h0, .inr (11, o11 g)), (g 0, .inr (2, o2 gk))] H := hP
  have hD : va_D A [(h0, .inr (11, o11 g)), (g 0, .inr (2, o2 gk))] := hD
  try dsimp only at hw
  subst hw
  refine lv_if_eq (tgt := 18) hx hb dX11_order_8 (by decide) (fun c_52 => ?_) (fun c_52 => ?_)
  · skip
    refine lv_iconst (v := (-1)) hx hb dX11_order_18 (by decide) ?_
    exact W.iret (v := (-1)) hx hb hr (fun t ht hW => ⟨⟨(-1), (), rfl, rfl, trivial⟩, hS.F ht⟩) hS.2.2 dX11_order_19
  · exact absurd c_52 (by decide)
set_option maxHeartbeats 4000000 in
set_option maxRecDepth 100000 in
theorem c_X11_move (l : Launch) (dC : Nat → ClassId) (dI : Nat → Nat → Nat) (h0 : Nat) (g : Nat → Nat) (gp : Nat → Nat) (sz : Nat) (p0 : Int32) (p1 : Int32) : Met l yX11_move (Cond.code yX11_move cX11_move 3 (some .int) :: wA) ({ frames := 2, cells := 0, slots := 0, locals := 80 }) (va_Pc [.ref h0, .int p0, .int p1] (fun U => U.heap.size = sz ∧ va_P (dC, dI) classes [(h0, .inr (11, o11 g)), (g 2, .inr (7, o7 gp))] U.heap ∧ va_K (dC, dI) classes [] U ∧ va_D (fun _ => True) [(h0, .inr (11, o11 g)), (g 2, .inr (7, o7 gp))])) (va_Qi (fun (r : Int32) (_ : Unit) => r = (-1)) (fun (_ : Unit) (_ : State) => True) (va_A [(h0, .inr (11, o11 g)), (g 2, .inr (7, o7 gp))] sz)) 0 0 (va_A [(h0, .inr (11, o11 g)), (g 2, .inr (7, o7 gp))] sz) := by
  refine Met.ofW (cc := cX11_move) (maxL := 3) (ret := (some .int)) (by decide) rfl ?_
  intro p e s m args below meth c s₁ B hml hv
  obtain ⟨rfl, hsz, hP, hK, hD0⟩ := hv
  have hx := B.exec
  have hb := B.bytes
  have hr := B.returns
  have hts := atoms_spec (ws := Cond.code yX11_move cX11_move 3 (some .int) :: wA) B.pre
  have hwd : ∀ w ∈ wA, w.before _ s = true := fun w h => hts w (List.mem_cons_of_mem _ h)
  have hown : s.vm.findClass RX11 = some m.cls := findClass_of_methodNamed B.named
  have hlocks := B.notSynchronized
  subst hsz
  have hD := hD0.self (sz := s.heap.size)
  generalize hAe : va_A [(h0, .inr (11, o11 g)), (g 2, .inr (7, o7 gp))] s.heap.size = A at hD ⊢
  have hA : ∀ q : Nat, s.heap.size ≤ q → A q := fun q h => by rw [← hAe]; exact Or.inr h
  have hS : va_S A s.heap s.heap [] := va_S.rf
  have hP : va_P (dC, dI) classes [(h0, .inr (11, o11 g)), (g 2, .inr (7, o7 gp))] s.heap := hP
  have hl := lv_entry ([.ref h0, .int p0, .int p1]) (n := 3) (Nat.le_of_ble_eq_true rfl)
  rw [lg_entry_eq]
  generalize (lg_sl ([.ref h0, .int p0, .int p1]) ++ List.replicate (3 - (lg_sl ([.ref h0, .int p0, .int p1])).length) Slot.unset).toArray = ls at hl ⊢
  have hl : lv_has ls 3 [(0, .ref h0), (1, .int p0), (2, .int p1)] := hl
  obtain ⟨H, eH⟩ : ∃ z, z = s.heap := ⟨_, rfl⟩
  have hP : va_P (dC, dI) classes [(h0, .inr (11, o11 g)), (g 2, .inr (7, o7 gp))] H := by rw [eH]; exact hP
  have hS : va_S A s.heap H [] := by rw [eH]; exact va_S.rf
  refine my_heap eH ?_
  refine lv_aload_n hx hb dX11_move_0 rfl (lv_at hl 0 rfl) ?_
  refine va_get (D := (dC, dI)) (ci := 11) (v := .ref (g 2)) (C := RX11) (T := TX11) (N := 14) hx hb hwd inA_X11 hown hK hP 0 rfl rfl 2 (by decide) (hwd _ wk_16) (fun _ h9 => h9) rfl dX11_move_1 ?_
  refine lv_iload_n hx hb dX11_move_4 rfl (lv_at hl 1 rfl) ?_
  have hPc := hP.sub (ws' := [(g 2, .inr (7, o7 gp))]) [1] rfl
  have hDc := hD.sub (ws' := [(g 2, .inr (7, o7 gp))]) [1] (by decide) rfl
  have hKc := hK.sub (tys' := []) [] rfl
  have hFc := va_free (wc := [(g 2, .inr (7, o7 gp))]) hD hS hA [1] rfl
  refine va_calli (va_runV (As := [.int p0]) (rest := []) ⟨hx, hb, hml, hown, hwd⟩ (c_X7_has l dC dI (g 2) gp H.size p0) (cwV 1 hwd (gV wk_17 wk_18 wk_19 wk_20 wk_21) rfl rfl rfl (by decide +kernel) ⟨Nat.le_of_ble_eq_true rfl, Nat.le_of_ble_eq_true rfl⟩) ⟨fun a U g mk q => by obtain ⟨q0, q1, qP, qK, qD⟩ := q; exact ⟨q0, q1, qP, va_K.moved (u := U) (U := U.calling g mk a) (Vm.Alike.refl U.vm) qK, qD⟩, va_recv hKc hPc (ci := 7) (q0 := 0) rfl rfl, fun U hU hW => ⟨rfl, by rw [hU], by rw [hU]; exact hPc, va_K.moved hW.alike hKc, hDc.weaken (fun _ _ _ _ => trivial)⟩⟩ rfl rfl hl.1 rfl (lv_room (Nat.le_of_ble_eq_true rfl)) dX11_move_5 ⟨Nat.le_of_ble_eq_true rfl, Nat.le_of_ble_eq_true rfl⟩) hS (fun q _ h => hFc q h) hFc (fun r_53 u t H1 locs ht hvm hw hB hz1 hk1 hS => ?_)
  obtain ⟨hP1, hK1, hD1⟩ := hB
  rw [ht] at hP1
  obtain ⟨hP, hD⟩ := va_join (wr := [(h0, .inr (11, o11 g))]) (w1 := [(g 2, .inr (7, o7 gp))]) hP hD [1] [0] rfl rfl (by decide) (by decide) hk1 hFc hP1 hD1
  generalize H1 = H at hP hS ⊢
  have hP : va_P (dC, dI) classes [(h0, .inr (11, o11 g)), (g 2, .inr (7, o7 gp))] H := hP
  have hD : va_D A [(h0, .inr (11, o11 g)), (g 2, .inr (7, o7 gp))] := hD
  try dsimp only at hw
  subst hw
  refine lv_if_eq (tgt := 19) hx hb dX11_move_8 (by decide) (fun c_54 => ?_) (fun c_54 => ?_)
  · skip
    refine lv_iconst (v := (-1)) hx hb dX11_move_19 (by decide) ?_
    exact W.iret (v := (-1)) hx hb hr (fun t ht hW => ⟨⟨(-1), (), rfl, rfl, trivial⟩, hS.F ht⟩) hS.2.2 dX11_move_20
  · exact absurd c_54 (by decide)
set_option maxHeartbeats 4000000 in
set_option maxRecDepth 100000 in
theorem c_X11_swap (l : Launch) (dC : Nat → ClassId) (dI : Nat → Nat → Nat) (h0 : Nat) (g : Nat → Nat) (gp : Nat → Nat) (sz : Nat) (p0 : Int32) (p1 : Int32) : Met l yX11_swap (Cond.code yX11_swap cX11_swap 4 (some .int) :: wA) ({ frames := 2, cells := 0, slots := 0, locals := 80 }) (va_Pc [.ref h0, .int p0, .int p1] (fun U => U.heap.size = sz ∧ va_P (dC, dI) classes [(h0, .inr (11, o11 g)), (g 2, .inr (7, o7 gp))] U.heap ∧ va_K (dC, dI) classes [] U ∧ va_D (fun _ => True) [(h0, .inr (11, o11 g)), (g 2, .inr (7, o7 gp))])) (va_Qi (fun (r : Int32) (_ : Unit) => r = (-1)) (fun (_ : Unit) (_ : State) => True) (va_A [(h0, .inr (11, o11 g)), (g 2, .inr (7, o7 gp))] sz)) 0 0 (va_A [(h0, .inr (11, o11 g)), (g 2, .inr (7, o7 gp))] sz) := by
  refine Met.ofW (cc := cX11_swap) (maxL := 4) (ret := (some .int)) (by decide) rfl ?_
  intro p e s m args below meth c s₁ B hml hv
  obtain ⟨rfl, hsz, hP, hK, hD0⟩ := hv
  have hx := B.exec
  have hb := B.bytes
  have hr := B.returns
  have hts := atoms_spec (ws := Cond.code yX11_swap cX11_swap 4 (some .int) :: wA) B.pre
  have hwd : ∀ w ∈ wA, w.before _ s = true := fun w h => hts w (List.mem_cons_of_mem _ h)
  have hown : s.vm.findClass RX11 = some m.cls := findClass_of_methodNamed B.named
  have hlocks := B.notSynchronized
  subst hsz
  have hD := hD0.self (sz := s.heap.size)
  generalize hAe : va_A [(h0, .inr (11, o11 g)), (g 2, .inr (7, o7 gp))] s.heap.size = A at hD ⊢
  have hA : ∀ q : Nat, s.heap.size ≤ q → A q := fun q h => by rw [← hAe]; exact Or.inr h
  have hS : va_S A s.heap s.heap [] := va_S.rf
  have hP : va_P (dC, dI) classes [(h0, .inr (11, o11 g)), (g 2, .inr (7, o7 gp))] s.heap := hP
  have hl := lv_entry ([.ref h0, .int p0, .int p1]) (n := 4) (Nat.le_of_ble_eq_true rfl)
  rw [lg_entry_eq]
  generalize (lg_sl ([.ref h0, .int p0, .int p1]) ++ List.replicate (4 - (lg_sl ([.ref h0, .int p0, .int p1])).length) Slot.unset).toArray = ls at hl ⊢
  have hl : lv_has ls 4 [(0, .ref h0), (1, .int p0), (2, .int p1)] := hl
  obtain ⟨H, eH⟩ : ∃ z, z = s.heap := ⟨_, rfl⟩
  have hP : va_P (dC, dI) classes [(h0, .inr (11, o11 g)), (g 2, .inr (7, o7 gp))] H := by rw [eH]; exact hP
  have hS : va_S A s.heap H [] := by rw [eH]; exact va_S.rf
  refine my_heap eH ?_
  refine lv_aload_n hx hb dX11_swap_0 rfl (lv_at hl 0 rfl) ?_
  refine va_get (D := (dC, dI)) (ci := 11) (v := .ref (g 2)) (C := RX11) (T := TX11) (N := 14) hx hb hwd inA_X11 hown hK hP 0 rfl rfl 2 (by decide) (hwd _ wk_16) (fun _ h9 => h9) rfl dX11_swap_1 ?_
  refine lv_iload_n hx hb dX11_swap_4 rfl (lv_at hl 1 rfl) ?_
  have hPc := hP.sub (ws' := [(g 2, .inr (7, o7 gp))]) [1] rfl
  have hDc := hD.sub (ws' := [(g 2, .inr (7, o7 gp))]) [1] (by decide) rfl
  have hKc := hK.sub (tys' := []) [] rfl
  have hFc := va_free (wc := [(g 2, .inr (7, o7 gp))]) hD hS hA [1] rfl
  refine va_calli (va_runV (As := [.int p0]) (rest := []) ⟨hx, hb, hml, hown, hwd⟩ (c_X7_has l dC dI (g 2) gp H.size p0) (cwV 1 hwd (gV wk_17 wk_18 wk_19 wk_20 wk_21) rfl rfl rfl (by decide +kernel) ⟨Nat.le_of_ble_eq_true rfl, Nat.le_of_ble_eq_true rfl⟩) ⟨fun a U g mk q => by obtain ⟨q0, q1, qP, qK, qD⟩ := q; exact ⟨q0, q1, qP, va_K.moved (u := U) (U := U.calling g mk a) (Vm.Alike.refl U.vm) qK, qD⟩, va_recv hKc hPc (ci := 7) (q0 := 0) rfl rfl, fun U hU hW => ⟨rfl, by rw [hU], by rw [hU]; exact hPc, va_K.moved hW.alike hKc, hDc.weaken (fun _ _ _ _ => trivial)⟩⟩ rfl rfl hl.1 rfl (lv_room (Nat.le_of_ble_eq_true rfl)) dX11_swap_5 ⟨Nat.le_of_ble_eq_true rfl, Nat.le_of_ble_eq_true rfl⟩) hS (fun q _ h => hFc q h) hFc (fun r_55 u t H1 locs ht hvm hw hB hz1 hk1 hS => ?_)
  obtain ⟨hP1, hK1, hD1⟩ := hB
  rw [ht] at hP1
  obtain ⟨hP, hD⟩ := va_join (wr := [(h0, .inr (11, o11 g))]) (w1 := [(g 2, .inr (7, o7 gp))]) hP hD [1] [0] rfl rfl (by decide) (by decide) hk1 hFc hP1 hD1
  generalize H1 = H at hP hS ⊢
  have hP : va_P (dC, dI) classes [(h0, .inr (11, o11 g)), (g 2, .inr (7, o7 gp))] H := hP
  have hD : va_D A [(h0, .inr (11, o11 g)), (g 2, .inr (7, o7 gp))] := hD
  try dsimp only at hw
  subst hw
  refine lv_if_eq (tgt := 22) hx hb dX11_swap_8 (by decide) (fun c_56 => ?_) (fun c_56 => ?_)
  · skip
    refine lv_iconst (v := (-1)) hx hb dX11_swap_22 (by decide) ?_
    exact W.iret (v := (-1)) hx hb hr (fun t ht hW => ⟨⟨(-1), (), rfl, rfl, trivial⟩, hS.F ht⟩) hS.2.2 dX11_swap_23
  · exact absurd c_56 (by decide)
set_option maxHeartbeats 4000000 in
set_option maxRecDepth 100000 in
theorem c_X11_repair (l : Launch) (dC : Nat → ClassId) (dI : Nat → Nat → Nat) (h0 : Nat) (g : Nat → Nat) (gp : Nat → Nat) (sz : Nat) (p0 : Int32) (p1 : Int32) : Met l yX11_repair (Cond.code yX11_repair cX11_repair 3 (some .int) :: wA) ({ frames := 2, cells := 0, slots := 0, locals := 80 }) (va_Pc [.ref h0, .int p0, .int p1] (fun U => U.heap.size = sz ∧ va_P (dC, dI) classes [(h0, .inr (11, o11 g)), (g 2, .inr (7, o7 gp))] U.heap ∧ va_K (dC, dI) classes [] U ∧ va_D (fun _ => True) [(h0, .inr (11, o11 g)), (g 2, .inr (7, o7 gp))])) (va_Qi (fun (r : Int32) (_ : Unit) => r = (-1)) (fun (_ : Unit) (_ : State) => True) (va_A [(h0, .inr (11, o11 g)), (g 2, .inr (7, o7 gp))] sz)) 0 0 (va_A [(h0, .inr (11, o11 g)), (g 2, .inr (7, o7 gp))] sz) := by
  refine Met.ofW (cc := cX11_repair) (maxL := 3) (ret := (some .int)) (by decide) rfl ?_
  intro p e s m args below meth c s₁ B hml hv
  obtain ⟨rfl, hsz, hP, hK, hD0⟩ := hv
  have hx := B.exec
  have hb := B.bytes
  have hr := B.returns
  have hts := atoms_spec (ws := Cond.code yX11_repair cX11_repair 3 (some .int) :: wA) B.pre
  have hwd : ∀ w ∈ wA, w.before _ s = true := fun w h => hts w (List.mem_cons_of_mem _ h)
  have hown : s.vm.findClass RX11 = some m.cls := findClass_of_methodNamed B.named
  have hlocks := B.notSynchronized
  subst hsz
  have hD := hD0.self (sz := s.heap.size)
  generalize hAe : va_A [(h0, .inr (11, o11 g)), (g 2, .inr (7, o7 gp))] s.heap.size = A at hD ⊢
  have hA : ∀ q : Nat, s.heap.size ≤ q → A q := fun q h => by rw [← hAe]; exact Or.inr h
  have hS : va_S A s.heap s.heap [] := va_S.rf
  have hP : va_P (dC, dI) classes [(h0, .inr (11, o11 g)), (g 2, .inr (7, o7 gp))] s.heap := hP
  have hl := lv_entry ([.ref h0, .int p0, .int p1]) (n := 3) (Nat.le_of_ble_eq_true rfl)
  rw [lg_entry_eq]
  generalize (lg_sl ([.ref h0, .int p0, .int p1]) ++ List.replicate (3 - (lg_sl ([.ref h0, .int p0, .int p1])).length) Slot.unset).toArray = ls at hl ⊢
  have hl : lv_has ls 3 [(0, .ref h0), (1, .int p0), (2, .int p1)] := hl
  obtain ⟨H, eH⟩ : ∃ z, z = s.heap := ⟨_, rfl⟩
  have hP : va_P (dC, dI) classes [(h0, .inr (11, o11 g)), (g 2, .inr (7, o7 gp))] H := by rw [eH]; exact hP
  have hS : va_S A s.heap H [] := by rw [eH]; exact va_S.rf
  refine my_heap eH ?_
  refine lv_aload_n hx hb dX11_repair_0 rfl (lv_at hl 0 rfl) ?_
  refine va_get (D := (dC, dI)) (ci := 11) (v := .ref (g 2)) (C := RX11) (T := TX11) (N := 14) hx hb hwd inA_X11 hown hK hP 0 rfl rfl 2 (by decide) (hwd _ wk_16) (fun _ h9 => h9) rfl dX11_repair_1 ?_
  refine lv_iload_n hx hb dX11_repair_4 rfl (lv_at hl 1 rfl) ?_
  have hPc := hP.sub (ws' := [(g 2, .inr (7, o7 gp))]) [1] rfl
  have hDc := hD.sub (ws' := [(g 2, .inr (7, o7 gp))]) [1] (by decide) rfl
  have hKc := hK.sub (tys' := []) [] rfl
  have hFc := va_free (wc := [(g 2, .inr (7, o7 gp))]) hD hS hA [1] rfl
  refine va_calli (va_runV (As := [.int p0]) (rest := []) ⟨hx, hb, hml, hown, hwd⟩ (c_X7_has l dC dI (g 2) gp H.size p0) (cwV 1 hwd (gV wk_17 wk_18 wk_19 wk_20 wk_21) rfl rfl rfl (by decide +kernel) ⟨Nat.le_of_ble_eq_true rfl, Nat.le_of_ble_eq_true rfl⟩) ⟨fun a U g mk q => by obtain ⟨q0, q1, qP, qK, qD⟩ := q; exact ⟨q0, q1, qP, va_K.moved (u := U) (U := U.calling g mk a) (Vm.Alike.refl U.vm) qK, qD⟩, va_recv hKc hPc (ci := 7) (q0 := 0) rfl rfl, fun U hU hW => ⟨rfl, by rw [hU], by rw [hU]; exact hPc, va_K.moved hW.alike hKc, hDc.weaken (fun _ _ _ _ => trivial)⟩⟩ rfl rfl hl.1 rfl (lv_room (Nat.le_of_ble_eq_true rfl)) dX11_repair_5 ⟨Nat.le_of_ble_eq_true rfl, Nat.le_of_ble_eq_true rfl⟩) hS (fun q _ h => hFc q h) hFc (fun r_57 u t H1 locs ht hvm hw hB hz1 hk1 hS => ?_)
  obtain ⟨hP1, hK1, hD1⟩ := hB
  rw [ht] at hP1
  obtain ⟨hP, hD⟩ := va_join (wr := [(h0, .inr (11, o11 g))]) (w1 := [(g 2, .inr (7, o7 gp))]) hP hD [1] [0] rfl rfl (by decide) (by decide) hk1 hFc hP1 hD1
  generalize H1 = H at hP hS ⊢
  have hP : va_P (dC, dI) classes [(h0, .inr (11, o11 g)), (g 2, .inr (7, o7 gp))] H := hP
  have hD : va_D A [(h0, .inr (11, o11 g)), (g 2, .inr (7, o7 gp))] := hD
  try dsimp only at hw
  subst hw
  refine lv_if_eq (tgt := 21) hx hb dX11_repair_8 (by decide) (fun c_58 => ?_) (fun c_58 => ?_)
  · skip
    refine lv_iconst (v := (-1)) hx hb dX11_repair_21 (by decide) ?_
    exact W.iret (v := (-1)) hx hb hr (fun t ht hW => ⟨⟨(-1), (), rfl, rfl, trivial⟩, hS.F ht⟩) hS.2.2 dX11_repair_22
  · exact absurd c_58 (by decide)
set_option maxHeartbeats 4000000 in
set_option maxRecDepth 100000 in
theorem c_X11_ofPart (l : Launch) (dC : Nat → ClassId) (dI : Nat → Nat → Nat) (h0 : Nat) (g : Nat → Nat) (gp : Nat → Nat) (sz : Nat) (p0 : Int32) (p1 : Int32) : Met l yX11_ofPart (Cond.code yX11_ofPart cX11_ofPart 3 (some .int) :: wA) ({ frames := 2, cells := 0, slots := 0, locals := 80 }) (va_Pc [.ref h0, .int p0, .int p1] (fun U => U.heap.size = sz ∧ va_P (dC, dI) classes [(h0, .inr (11, o11 g)), (g 2, .inr (7, o7 gp))] U.heap ∧ va_K (dC, dI) classes [] U ∧ va_D (fun _ => True) [(h0, .inr (11, o11 g)), (g 2, .inr (7, o7 gp))])) (va_Qi (fun (r : Int32) (_ : Unit) => r = (-2000000000)) (fun (_ : Unit) (_ : State) => True) (va_A [(h0, .inr (11, o11 g)), (g 2, .inr (7, o7 gp))] sz)) 0 0 (va_A [(h0, .inr (11, o11 g)), (g 2, .inr (7, o7 gp))] sz) := by
  refine Met.ofW (cc := cX11_ofPart) (maxL := 3) (ret := (some .int)) (by decide) rfl ?_
  intro p e s m args below meth c s₁ B hml hv
  obtain ⟨rfl, hsz, hP, hK, hD0⟩ := hv
  have hx := B.exec
  have hb := B.bytes
  have hr := B.returns
  have hts := atoms_spec (ws := Cond.code yX11_ofPart cX11_ofPart 3 (some .int) :: wA) B.pre
  have hwd : ∀ w ∈ wA, w.before _ s = true := fun w h => hts w (List.mem_cons_of_mem _ h)
  have hown : s.vm.findClass RX11 = some m.cls := findClass_of_methodNamed B.named
  have hlocks := B.notSynchronized
  subst hsz
  have hD := hD0.self (sz := s.heap.size)
  generalize hAe : va_A [(h0, .inr (11, o11 g)), (g 2, .inr (7, o7 gp))] s.heap.size = A at hD ⊢
  have hA : ∀ q : Nat, s.heap.size ≤ q → A q := fun q h => by rw [← hAe]; exact Or.inr h
  have hS : va_S A s.heap s.heap [] := va_S.rf
  have hP : va_P (dC, dI) classes [(h0, .inr (11, o11 g)), (g 2, .inr (7, o7 gp))] s.heap := hP
  have hl := lv_entry ([.ref h0, .int p0, .int p1]) (n := 3) (Nat.le_of_ble_eq_true rfl)
  rw [lg_entry_eq]
  generalize (lg_sl ([.ref h0, .int p0, .int p1]) ++ List.replicate (3 - (lg_sl ([.ref h0, .int p0, .int p1])).length) Slot.unset).toArray = ls at hl ⊢
  have hl : lv_has ls 3 [(0, .ref h0), (1, .int p0), (2, .int p1)] := hl
  obtain ⟨H, eH⟩ : ∃ z, z = s.heap := ⟨_, rfl⟩
  have hP : va_P (dC, dI) classes [(h0, .inr (11, o11 g)), (g 2, .inr (7, o7 gp))] H := by rw [eH]; exact hP
  have hS : va_S A s.heap H [] := by rw [eH]; exact va_S.rf
  refine my_heap eH ?_
  refine lv_aload_n hx hb dX11_ofPart_0 rfl (lv_at hl 0 rfl) ?_
  refine va_get (D := (dC, dI)) (ci := 11) (v := .ref (g 2)) (C := RX11) (T := TX11) (N := 14) hx hb hwd inA_X11 hown hK hP 0 rfl rfl 2 (by decide) (hwd _ wk_16) (fun _ h9 => h9) rfl dX11_ofPart_1 ?_
  refine lv_iload_n hx hb dX11_ofPart_4 rfl (lv_at hl 1 rfl) ?_
  have hPc := hP.sub (ws' := [(g 2, .inr (7, o7 gp))]) [1] rfl
  have hDc := hD.sub (ws' := [(g 2, .inr (7, o7 gp))]) [1] (by decide) rfl
  have hKc := hK.sub (tys' := []) [] rfl
  have hFc := va_free (wc := [(g 2, .inr (7, o7 gp))]) hD hS hA [1] rfl
  refine va_calli (va_runV (As := [.int p0]) (rest := []) ⟨hx, hb, hml, hown, hwd⟩ (c_X7_has l dC dI (g 2) gp H.size p0) (cwV 1 hwd (gV wk_17 wk_18 wk_19 wk_20 wk_21) rfl rfl rfl (by decide +kernel) ⟨Nat.le_of_ble_eq_true rfl, Nat.le_of_ble_eq_true rfl⟩) ⟨fun a U g mk q => by obtain ⟨q0, q1, qP, qK, qD⟩ := q; exact ⟨q0, q1, qP, va_K.moved (u := U) (U := U.calling g mk a) (Vm.Alike.refl U.vm) qK, qD⟩, va_recv hKc hPc (ci := 7) (q0 := 0) rfl rfl, fun U hU hW => ⟨rfl, by rw [hU], by rw [hU]; exact hPc, va_K.moved hW.alike hKc, hDc.weaken (fun _ _ _ _ => trivial)⟩⟩ rfl rfl hl.1 rfl (lv_room (Nat.le_of_ble_eq_true rfl)) dX11_ofPart_5 ⟨Nat.le_of_ble_eq_true rfl, Nat.le_of_ble_eq_true rfl⟩) hS (fun q _ h => hFc q h) hFc (fun r_59 u t H1 locs ht hvm hw hB hz1 hk1 hS => ?_)
  obtain ⟨hP1, hK1, hD1⟩ := hB
  rw [ht] at hP1
  obtain ⟨hP, hD⟩ := va_join (wr := [(h0, .inr (11, o11 g))]) (w1 := [(g 2, .inr (7, o7 gp))]) hP hD [1] [0] rfl rfl (by decide) (by decide) hk1 hFc hP1 hD1
  generalize H1 = H at hP hS ⊢
  have hP : va_P (dC, dI) classes [(h0, .inr (11, o11 g)), (g 2, .inr (7, o7 gp))] H := hP
  have hD : va_D A [(h0, .inr (11, o11 g)), (g 2, .inr (7, o7 gp))] := hD
  try dsimp only at hw
  subst hw
  refine lv_if_ne (tgt := 14) hx hb dX11_ofPart_8 (by decide) (fun c_60 => ?_) (fun c_60 => ?_)
  · exact absurd c_60 (by decide)
  · skip
    refine lv_ldc (v := (-2000000000)) hx hb hown (hwd _ wk_28) dX11_ofPart_11 ?_
    exact W.iret (v := (-2000000000)) hx hb hr (fun t ht hW => ⟨⟨(-2000000000), (), rfl, rfl, trivial⟩, hS.F ht⟩) hS.2.2 dX11_ofPart_13
set_option maxHeartbeats 4000000 in
set_option maxRecDepth 100000 in
theorem c_X11_left (l : Launch) (dC : Nat → ClassId) (dI : Nat → Nat → Nat) (h0 : Nat) (g : Nat → Nat) (gp : Nat → Nat) (sz : Nat) (p0 : Int32) (p1 : Int32) (p2 : Int32) : Met l yX11_left (Cond.code yX11_left cX11_left 4 (some .int) :: wA) ({ frames := 2, cells := 0, slots := 0, locals := 80 }) (va_Pc [.ref h0, .int p0, .int p1, .int p2] (fun U => U.heap.size = sz ∧ va_P (dC, dI) classes [(h0, .inr (11, o11 g)), (g 2, .inr (7, o7 gp))] U.heap ∧ va_K (dC, dI) classes [] U ∧ va_D (fun _ => True) [(h0, .inr (11, o11 g)), (g 2, .inr (7, o7 gp))])) (va_Qi (fun (r : Int32) (_ : Unit) => r = (-2000000000)) (fun (_ : Unit) (_ : State) => True) (va_A [(h0, .inr (11, o11 g)), (g 2, .inr (7, o7 gp))] sz)) 0 0 (va_A [(h0, .inr (11, o11 g)), (g 2, .inr (7, o7 gp))] sz) := by
  refine Met.ofW (cc := cX11_left) (maxL := 4) (ret := (some .int)) (by decide) rfl ?_
  intro p e s m args below meth c s₁ B hml hv
  obtain ⟨rfl, hsz, hP, hK, hD0⟩ := hv
  have hx := B.exec
  have hb := B.bytes
  have hr := B.returns
  have hts := atoms_spec (ws := Cond.code yX11_left cX11_left 4 (some .int) :: wA) B.pre
  have hwd : ∀ w ∈ wA, w.before _ s = true := fun w h => hts w (List.mem_cons_of_mem _ h)
  have hown : s.vm.findClass RX11 = some m.cls := findClass_of_methodNamed B.named
  have hlocks := B.notSynchronized
  subst hsz
  have hD := hD0.self (sz := s.heap.size)
  generalize hAe : va_A [(h0, .inr (11, o11 g)), (g 2, .inr (7, o7 gp))] s.heap.size = A at hD ⊢
  have hA : ∀ q : Nat, s.heap.size ≤ q → A q := fun q h => by rw [← hAe]; exact Or.inr h
  have hS : va_S A s.heap s.heap [] := va_S.rf
  have hP : va_P (dC, dI) classes [(h0, .inr (11, o11 g)), (g 2, .inr (7, o7 gp))] s.heap := hP
  have hl := lv_entry ([.ref h0, .int p0, .int p1, .int p2]) (n := 4) (Nat.le_of_ble_eq_true rfl)
  rw [lg_entry_eq]
  generalize (lg_sl ([.ref h0, .int p0, .int p1, .int p2]) ++ List.replicate (4 - (lg_sl ([.ref h0, .int p0, .int p1, .int p2])).length) Slot.unset).toArray = ls at hl ⊢
  have hl : lv_has ls 4 [(0, .ref h0), (1, .int p0), (2, .int p1), (3, .int p2)] := hl
  obtain ⟨H, eH⟩ : ∃ z, z = s.heap := ⟨_, rfl⟩
  have hP : va_P (dC, dI) classes [(h0, .inr (11, o11 g)), (g 2, .inr (7, o7 gp))] H := by rw [eH]; exact hP
  have hS : va_S A s.heap H [] := by rw [eH]; exact va_S.rf
  refine my_heap eH ?_
  refine lv_aload_n hx hb dX11_left_0 rfl (lv_at hl 0 rfl) ?_
  refine va_get (D := (dC, dI)) (ci := 11) (v := .ref (g 2)) (C := RX11) (T := TX11) (N := 14) hx hb hwd inA_X11 hown hK hP 0 rfl rfl 2 (by decide) (hwd _ wk_16) (fun _ h9 => h9) rfl dX11_left_1 ?_
  refine lv_iload_n hx hb dX11_left_4 rfl (lv_at hl 1 rfl) ?_
  have hPc := hP.sub (ws' := [(g 2, .inr (7, o7 gp))]) [1] rfl
  have hDc := hD.sub (ws' := [(g 2, .inr (7, o7 gp))]) [1] (by decide) rfl
  have hKc := hK.sub (tys' := []) [] rfl
  have hFc := va_free (wc := [(g 2, .inr (7, o7 gp))]) hD hS hA [1] rfl
  refine va_calli (va_runV (As := [.int p0]) (rest := []) ⟨hx, hb, hml, hown, hwd⟩ (c_X7_has l dC dI (g 2) gp H.size p0) (cwV 1 hwd (gV wk_17 wk_18 wk_19 wk_20 wk_21) rfl rfl rfl (by decide +kernel) ⟨Nat.le_of_ble_eq_true rfl, Nat.le_of_ble_eq_true rfl⟩) ⟨fun a U g mk q => by obtain ⟨q0, q1, qP, qK, qD⟩ := q; exact ⟨q0, q1, qP, va_K.moved (u := U) (U := U.calling g mk a) (Vm.Alike.refl U.vm) qK, qD⟩, va_recv hKc hPc (ci := 7) (q0 := 0) rfl rfl, fun U hU hW => ⟨rfl, by rw [hU], by rw [hU]; exact hPc, va_K.moved hW.alike hKc, hDc.weaken (fun _ _ _ _ => trivial)⟩⟩ rfl rfl hl.1 rfl (lv_room (Nat.le_of_ble_eq_true rfl)) dX11_left_5 ⟨Nat.le_of_ble_eq_true rfl, Nat.le_of_ble_eq_true rfl⟩) hS (fun q _ h => hFc q h) hFc (fun r_61 u t H1 locs ht hvm hw hB hz1 hk1 hS => ?_)
  obtain ⟨hP1, hK1, hD1⟩ := hB
  rw [ht] at hP1
  obtain ⟨hP, hD⟩ := va_join (wr := [(h0, .inr (11, o11 g))]) (w1 := [(g 2, .inr (7, o7 gp))]) hP hD [1] [0] rfl rfl (by decide) (by decide) hk1 hFc hP1 hD1
  generalize H1 = H at hP hS ⊢
  have hP : va_P (dC, dI) classes [(h0, .inr (11, o11 g)), (g 2, .inr (7, o7 gp))] H := hP
  have hD : va_D A [(h0, .inr (11, o11 g)), (g 2, .inr (7, o7 gp))] := hD
  try dsimp only at hw
  subst hw
  refine lv_if_eq (tgt := 27) hx hb dX11_left_8 (by decide) (fun c_62 => ?_) (fun c_62 => ?_)
  · skip
    refine lv_ldc (v := (-2000000000)) hx hb hown (hwd _ wk_28) dX11_left_27 ?_
    exact W.iret (v := (-2000000000)) hx hb hr (fun t ht hW => ⟨⟨(-2000000000), (), rfl, rfl, trivial⟩, hS.F ht⟩) hS.2.2 dX11_left_29
  · exact absurd c_62 (by decide)
set_option maxHeartbeats 4000000 in
set_option maxRecDepth 100000 in
theorem c_X11_least (l : Launch) (dC : Nat → ClassId) (dI : Nat → Nat → Nat) (h0 : Nat) (g : Nat → Nat) (gp : Nat → Nat) (sz : Nat) (p0 : Int32) (p1 : Int32) : Met l yX11_least (Cond.code yX11_least cX11_least 4 (some .int) :: wA) ({ frames := 2, cells := 0, slots := 0, locals := 80 }) (va_Pc [.ref h0, .int p0, .int p1] (fun U => U.heap.size = sz ∧ va_P (dC, dI) classes [(h0, .inr (11, o11 g)), (g 2, .inr (7, o7 gp))] U.heap ∧ va_K (dC, dI) classes [] U ∧ va_D (fun _ => True) [(h0, .inr (11, o11 g)), (g 2, .inr (7, o7 gp))])) (va_Qi (fun (r : Int32) (_ : Unit) => r = (-1)) (fun (_ : Unit) (_ : State) => True) (va_A [(h0, .inr (11, o11 g)), (g 2, .inr (7, o7 gp))] sz)) 0 0 (va_A [(h0, .inr (11, o11 g)), (g 2, .inr (7, o7 gp))] sz) := by
  refine Met.ofW (cc := cX11_least) (maxL := 4) (ret := (some .int)) (by decide) rfl ?_
  intro p e s m args below meth c s₁ B hml hv
  obtain ⟨rfl, hsz, hP, hK, hD0⟩ := hv
  have hx := B.exec
  have hb := B.bytes
  have hr := B.returns
  have hts := atoms_spec (ws := Cond.code yX11_least cX11_least 4 (some .int) :: wA) B.pre
  have hwd : ∀ w ∈ wA, w.before _ s = true := fun w h => hts w (List.mem_cons_of_mem _ h)
  have hown : s.vm.findClass RX11 = some m.cls := findClass_of_methodNamed B.named
  have hlocks := B.notSynchronized
  subst hsz
  have hD := hD0.self (sz := s.heap.size)
  generalize hAe : va_A [(h0, .inr (11, o11 g)), (g 2, .inr (7, o7 gp))] s.heap.size = A at hD ⊢
  have hA : ∀ q : Nat, s.heap.size ≤ q → A q := fun q h => by rw [← hAe]; exact Or.inr h
  have hS : va_S A s.heap s.heap [] := va_S.rf
  have hP : va_P (dC, dI) classes [(h0, .inr (11, o11 g)), (g 2, .inr (7, o7 gp))] s.heap := hP
  have hl := lv_entry ([.ref h0, .int p0, .int p1]) (n := 4) (Nat.le_of_ble_eq_true rfl)
  rw [lg_entry_eq]
  generalize (lg_sl ([.ref h0, .int p0, .int p1]) ++ List.replicate (4 - (lg_sl ([.ref h0, .int p0, .int p1])).length) Slot.unset).toArray = ls at hl ⊢
  have hl : lv_has ls 4 [(0, .ref h0), (1, .int p0), (2, .int p1)] := hl
  obtain ⟨H, eH⟩ : ∃ z, z = s.heap := ⟨_, rfl⟩
  have hP : va_P (dC, dI) classes [(h0, .inr (11, o11 g)), (g 2, .inr (7, o7 gp))] H := by rw [eH]; exact hP
  have hS : va_S A s.heap H [] := by rw [eH]; exact va_S.rf
  refine my_heap eH ?_
  refine lv_aload_n hx hb dX11_least_0 rfl (lv_at hl 0 rfl) ?_
  refine va_get (D := (dC, dI)) (ci := 11) (v := .ref (g 2)) (C := RX11) (T := TX11) (N := 14) hx hb hwd inA_X11 hown hK hP 0 rfl rfl 2 (by decide) (hwd _ wk_16) (fun _ h9 => h9) rfl dX11_least_1 ?_
  refine lv_iload_n hx hb dX11_least_4 rfl (lv_at hl 1 rfl) ?_
  have hPc := hP.sub (ws' := [(g 2, .inr (7, o7 gp))]) [1] rfl
  have hDc := hD.sub (ws' := [(g 2, .inr (7, o7 gp))]) [1] (by decide) rfl
  have hKc := hK.sub (tys' := []) [] rfl
  have hFc := va_free (wc := [(g 2, .inr (7, o7 gp))]) hD hS hA [1] rfl
  refine va_calli (va_runV (As := [.int p0]) (rest := []) ⟨hx, hb, hml, hown, hwd⟩ (c_X7_has l dC dI (g 2) gp H.size p0) (cwV 1 hwd (gV wk_17 wk_18 wk_19 wk_20 wk_21) rfl rfl rfl (by decide +kernel) ⟨Nat.le_of_ble_eq_true rfl, Nat.le_of_ble_eq_true rfl⟩) ⟨fun a U g mk q => by obtain ⟨q0, q1, qP, qK, qD⟩ := q; exact ⟨q0, q1, qP, va_K.moved (u := U) (U := U.calling g mk a) (Vm.Alike.refl U.vm) qK, qD⟩, va_recv hKc hPc (ci := 7) (q0 := 0) rfl rfl, fun U hU hW => ⟨rfl, by rw [hU], by rw [hU]; exact hPc, va_K.moved hW.alike hKc, hDc.weaken (fun _ _ _ _ => trivial)⟩⟩ rfl rfl hl.1 rfl (lv_room (Nat.le_of_ble_eq_true rfl)) dX11_least_5 ⟨Nat.le_of_ble_eq_true rfl, Nat.le_of_ble_eq_true rfl⟩) hS (fun q _ h => hFc q h) hFc (fun r_63 u t H1 locs ht hvm hw hB hz1 hk1 hS => ?_)
  obtain ⟨hP1, hK1, hD1⟩ := hB
  rw [ht] at hP1
  obtain ⟨hP, hD⟩ := va_join (wr := [(h0, .inr (11, o11 g))]) (w1 := [(g 2, .inr (7, o7 gp))]) hP hD [1] [0] rfl rfl (by decide) (by decide) hk1 hFc hP1 hD1
  generalize H1 = H at hP hS ⊢
  have hP : va_P (dC, dI) classes [(h0, .inr (11, o11 g)), (g 2, .inr (7, o7 gp))] H := hP
  have hD : va_D A [(h0, .inr (11, o11 g)), (g 2, .inr (7, o7 gp))] := hD
  try dsimp only at hw
  subst hw
  refine lv_if_eq (tgt := 18) hx hb dX11_least_8 (by decide) (fun c_64 => ?_) (fun c_64 => ?_)
  · skip
    refine lv_iconst (v := (-1)) hx hb dX11_least_18 (by decide) ?_
    exact W.iret (v := (-1)) hx hb hr (fun t ht hW => ⟨⟨(-1), (), rfl, rfl, trivial⟩, hS.F ht⟩) hS.2.2 dX11_least_19
  · exact absurd c_64 (by decide)
set_option maxHeartbeats 4000000 in
set_option maxRecDepth 100000 in
theorem c_X11_past (l : Launch) (dC : Nat → ClassId) (dI : Nat → Nat → Nat) (h0 : Nat) (g : Nat → Nat) (gp : Nat → Nat) (sz : Nat) (p0 : Int32) (p1 : Int32) (p2 : Int32) (p3 : Int32) (p4 : Int32) (p5 : Int32) : Met l yX11_past (Cond.code yX11_past cX11_past 13 (some .int) :: wA) ({ frames := 2, cells := 0, slots := 0, locals := 80 }) (va_Pc [.ref h0, .int p0, .int p1, .int p2, .int p3, .int p4, .int p5] (fun U => U.heap.size = sz ∧ va_P (dC, dI) classes [(h0, .inr (11, o11 g)), (g 2, .inr (7, o7 gp))] U.heap ∧ va_K (dC, dI) classes [] U ∧ va_D (fun _ => True) [(h0, .inr (11, o11 g)), (g 2, .inr (7, o7 gp))])) (va_Qi (fun (r : Int32) (_ : Unit) => r = (-1)) (fun (_ : Unit) (_ : State) => True) (va_A [(h0, .inr (11, o11 g)), (g 2, .inr (7, o7 gp))] sz)) 0 0 (va_A [(h0, .inr (11, o11 g)), (g 2, .inr (7, o7 gp))] sz) := by
  refine Met.ofW (cc := cX11_past) (maxL := 13) (ret := (some .int)) (by decide) rfl ?_
  intro p e s m args below meth c s₁ B hml hv
  obtain ⟨rfl, hsz, hP, hK, hD0⟩ := hv
  have hx := B.exec
  have hb := B.bytes
  have hr := B.returns
  have hts := atoms_spec (ws := Cond.code yX11_past cX11_past 13 (some .int) :: wA) B.pre
  have hwd : ∀ w ∈ wA, w.before _ s = true := fun w h => hts w (List.mem_cons_of_mem _ h)
  have hown : s.vm.findClass RX11 = some m.cls := findClass_of_methodNamed B.named
  have hlocks := B.notSynchronized
  subst hsz
  have hD := hD0.self (sz := s.heap.size)
  generalize hAe : va_A [(h0, .inr (11, o11 g)), (g 2, .inr (7, o7 gp))] s.heap.size = A at hD ⊢
  have hA : ∀ q : Nat, s.heap.size ≤ q → A q := fun q h => by rw [← hAe]; exact Or.inr h
  have hS : va_S A s.heap s.heap [] := va_S.rf
  have hP : va_P (dC, dI) classes [(h0, .inr (11, o11 g)), (g 2, .inr (7, o7 gp))] s.heap := hP
  have hl := lv_entry ([.ref h0, .int p0, .int p1, .int p2, .int p3, .int p4, .int p5]) (n := 13) (Nat.le_of_ble_eq_true rfl)
  rw [lg_entry_eq]
  generalize (lg_sl ([.ref h0, .int p0, .int p1, .int p2, .int p3, .int p4, .int p5]) ++ List.replicate (13 - (lg_sl ([.ref h0, .int p0, .int p1, .int p2, .int p3, .int p4, .int p5])).length) Slot.unset).toArray = ls at hl ⊢
  have hl : lv_has ls 13 [(0, .ref h0), (1, .int p0), (2, .int p1), (3, .int p2), (4, .int p3), (5, .int p4), (6, .int p5)] := hl
  obtain ⟨H, eH⟩ : ∃ z, z = s.heap := ⟨_, rfl⟩
  have hP : va_P (dC, dI) classes [(h0, .inr (11, o11 g)), (g 2, .inr (7, o7 gp))] H := by rw [eH]; exact hP
  have hS : va_S A s.heap H [] := by rw [eH]; exact va_S.rf
  refine my_heap eH ?_
  refine lv_aload_n hx hb dX11_past_0 rfl (lv_at hl 0 rfl) ?_
  refine va_get (D := (dC, dI)) (ci := 11) (v := .ref (g 2)) (C := RX11) (T := TX11) (N := 14) hx hb hwd inA_X11 hown hK hP 0 rfl rfl 2 (by decide) (hwd _ wk_16) (fun _ h9 => h9) rfl dX11_past_1 ?_
  refine lv_iload_n hx hb dX11_past_4 rfl (lv_at hl 1 rfl) ?_
  have hPc := hP.sub (ws' := [(g 2, .inr (7, o7 gp))]) [1] rfl
  have hDc := hD.sub (ws' := [(g 2, .inr (7, o7 gp))]) [1] (by decide) rfl
  have hKc := hK.sub (tys' := []) [] rfl
  have hFc := va_free (wc := [(g 2, .inr (7, o7 gp))]) hD hS hA [1] rfl
  refine va_calli (va_runV (As := [.int p0]) (rest := []) ⟨hx, hb, hml, hown, hwd⟩ (c_X7_has l dC dI (g 2) gp H.size p0) (cwV 1 hwd (gV wk_17 wk_18 wk_19 wk_20 wk_21) rfl rfl rfl (by decide +kernel) ⟨Nat.le_of_ble_eq_true rfl, Nat.le_of_ble_eq_true rfl⟩) ⟨fun a U g mk q => by obtain ⟨q0, q1, qP, qK, qD⟩ := q; exact ⟨q0, q1, qP, va_K.moved (u := U) (U := U.calling g mk a) (Vm.Alike.refl U.vm) qK, qD⟩, va_recv hKc hPc (ci := 7) (q0 := 0) rfl rfl, fun U hU hW => ⟨rfl, by rw [hU], by rw [hU]; exact hPc, va_K.moved hW.alike hKc, hDc.weaken (fun _ _ _ _ => trivial)⟩⟩ rfl rfl hl.1 rfl (lv_room (Nat.le_of_ble_eq_true rfl)) dX11_past_5 ⟨Nat.le_of_ble_eq_true rfl, Nat.le_of_ble_eq_true rfl⟩) hS (fun q _ h => hFc q h) hFc (fun r_65 u t H1 locs ht hvm hw hB hz1 hk1 hS => ?_)
  obtain ⟨hP1, hK1, hD1⟩ := hB
  rw [ht] at hP1
  obtain ⟨hP, hD⟩ := va_join (wr := [(h0, .inr (11, o11 g))]) (w1 := [(g 2, .inr (7, o7 gp))]) hP hD [1] [0] rfl rfl (by decide) (by decide) hk1 hFc hP1 hD1
  generalize H1 = H at hP hS ⊢
  have hP : va_P (dC, dI) classes [(h0, .inr (11, o11 g)), (g 2, .inr (7, o7 gp))] H := hP
  have hD : va_D A [(h0, .inr (11, o11 g)), (g 2, .inr (7, o7 gp))] := hD
  try dsimp only at hw
  subst hw
  refine lv_if_eq (tgt := 35) hx hb dX11_past_8 (by decide) (fun c_66 => ?_) (fun c_66 => ?_)
  · skip
    refine lv_iconst (v := (-1)) hx hb dX11_past_35 (by decide) ?_
    exact W.iret (v := (-1)) hx hb hr (fun t ht hW => ⟨⟨(-1), (), rfl, rfl, trivial⟩, hS.F ht⟩) hS.2.2 dX11_past_36
  · exact absurd c_66 (by decide)
set_option maxHeartbeats 4000000 in
set_option maxRecDepth 100000 in
theorem c_X11_claim (l : Launch) (dC : Nat → ClassId) (dI : Nat → Nat → Nat) (h0 : Nat) (g : Nat → Nat) (gp : Nat → Nat) (sz : Nat) (p0 : Int32) (p1 : Int32) : Met l yX11_claim (Cond.code yX11_claim cX11_claim 5 (some .int) :: wA) ({ frames := 2, cells := 0, slots := 0, locals := 80 }) (va_Pc [.ref h0, .int p0, .int p1] (fun U => U.heap.size = sz ∧ va_P (dC, dI) classes [(h0, .inr (11, o11 g)), (g 2, .inr (7, o7 gp))] U.heap ∧ va_K (dC, dI) classes [] U ∧ va_D (fun _ => True) [(h0, .inr (11, o11 g)), (g 2, .inr (7, o7 gp))])) (va_Qi (fun (r : Int32) (_ : Unit) => r = (-1)) (fun (_ : Unit) (_ : State) => True) (va_A [(h0, .inr (11, o11 g)), (g 2, .inr (7, o7 gp))] sz)) 0 0 (va_A [(h0, .inr (11, o11 g)), (g 2, .inr (7, o7 gp))] sz) := by
  refine Met.ofW (cc := cX11_claim) (maxL := 5) (ret := (some .int)) (by decide) rfl ?_
  intro p e s m args below meth c s₁ B hml hv
  obtain ⟨rfl, hsz, hP, hK, hD0⟩ := hv
  have hx := B.exec
  have hb := B.bytes
  have hr := B.returns
  have hts := atoms_spec (ws := Cond.code yX11_claim cX11_claim 5 (some .int) :: wA) B.pre
  have hwd : ∀ w ∈ wA, w.before _ s = true := fun w h => hts w (List.mem_cons_of_mem _ h)
  have hown : s.vm.findClass RX11 = some m.cls := findClass_of_methodNamed B.named
  have hlocks := B.notSynchronized
  subst hsz
  have hD := hD0.self (sz := s.heap.size)
  generalize hAe : va_A [(h0, .inr (11, o11 g)), (g 2, .inr (7, o7 gp))] s.heap.size = A at hD ⊢
  have hA : ∀ q : Nat, s.heap.size ≤ q → A q := fun q h => by rw [← hAe]; exact Or.inr h
  have hS : va_S A s.heap s.heap [] := va_S.rf
  have hP : va_P (dC, dI) classes [(h0, .inr (11, o11 g)), (g 2, .inr (7, o7 gp))] s.heap := hP
  have hl := lv_entry ([.ref h0, .int p0, .int p1]) (n := 5) (Nat.le_of_ble_eq_true rfl)
  rw [lg_entry_eq]
  generalize (lg_sl ([.ref h0, .int p0, .int p1]) ++ List.replicate (5 - (lg_sl ([.ref h0, .int p0, .int p1])).length) Slot.unset).toArray = ls at hl ⊢
  have hl : lv_has ls 5 [(0, .ref h0), (1, .int p0), (2, .int p1)] := hl
  obtain ⟨H, eH⟩ : ∃ z, z = s.heap := ⟨_, rfl⟩
  have hP : va_P (dC, dI) classes [(h0, .inr (11, o11 g)), (g 2, .inr (7, o7 gp))] H := by rw [eH]; exact hP
  have hS : va_S A s.heap H [] := by rw [eH]; exact va_S.rf
  refine my_heap eH ?_
  refine lv_aload_n hx hb dX11_claim_0 rfl (lv_at hl 0 rfl) ?_
  refine va_get (D := (dC, dI)) (ci := 11) (v := .ref (g 2)) (C := RX11) (T := TX11) (N := 14) hx hb hwd inA_X11 hown hK hP 0 rfl rfl 2 (by decide) (hwd _ wk_16) (fun _ h9 => h9) rfl dX11_claim_1 ?_
  refine lv_iload_n hx hb dX11_claim_4 rfl (lv_at hl 1 rfl) ?_
  have hPc := hP.sub (ws' := [(g 2, .inr (7, o7 gp))]) [1] rfl
  have hDc := hD.sub (ws' := [(g 2, .inr (7, o7 gp))]) [1] (by decide) rfl
  have hKc := hK.sub (tys' := []) [] rfl
  have hFc := va_free (wc := [(g 2, .inr (7, o7 gp))]) hD hS hA [1] rfl
  refine va_calli (va_runV (As := [.int p0]) (rest := []) ⟨hx, hb, hml, hown, hwd⟩ (c_X7_has l dC dI (g 2) gp H.size p0) (cwV 1 hwd (gV wk_17 wk_18 wk_19 wk_20 wk_21) rfl rfl rfl (by decide +kernel) ⟨Nat.le_of_ble_eq_true rfl, Nat.le_of_ble_eq_true rfl⟩) ⟨fun a U g mk q => by obtain ⟨q0, q1, qP, qK, qD⟩ := q; exact ⟨q0, q1, qP, va_K.moved (u := U) (U := U.calling g mk a) (Vm.Alike.refl U.vm) qK, qD⟩, va_recv hKc hPc (ci := 7) (q0 := 0) rfl rfl, fun U hU hW => ⟨rfl, by rw [hU], by rw [hU]; exact hPc, va_K.moved hW.alike hKc, hDc.weaken (fun _ _ _ _ => trivial)⟩⟩ rfl rfl hl.1 rfl (lv_room (Nat.le_of_ble_eq_true rfl)) dX11_claim_5 ⟨Nat.le_of_ble_eq_true rfl, Nat.le_of_ble_eq_true rfl⟩) hS (fun q _ h => hFc q h) hFc (fun r_67 u t H1 locs ht hvm hw hB hz1 hk1 hS => ?_)
  obtain ⟨hP1, hK1, hD1⟩ := hB
  rw [ht] at hP1
  obtain ⟨hP, hD⟩ := va_join (wr := [(h0, .inr (11, o11 g))]) (w1 := [(g 2, .inr (7, o7 gp))]) hP hD [1] [0] rfl rfl (by decide) (by decide) hk1 hFc hP1 hD1
  generalize H1 = H at hP hS ⊢
  have hP : va_P (dC, dI) classes [(h0, .inr (11, o11 g)), (g 2, .inr (7, o7 gp))] H := hP
  have hD : va_D A [(h0, .inr (11, o11 g)), (g 2, .inr (7, o7 gp))] := hD
  try dsimp only at hw
  subst hw
  refine lv_if_eq (tgt := 21) hx hb dX11_claim_8 (by decide) (fun c_68 => ?_) (fun c_68 => ?_)
  · skip
    refine lv_iconst (v := (-1)) hx hb dX11_claim_21 (by decide) ?_
    exact W.iret (v := (-1)) hx hb hr (fun t ht hW => ⟨⟨(-1), (), rfl, rfl, trivial⟩, hS.F ht⟩) hS.2.2 dX11_claim_22
  · exact absurd c_68 (by decide)
set_option maxHeartbeats 4000000 in
set_option maxRecDepth 100000 in
theorem c_X11_stay (l : Launch) (dC : Nat → ClassId) (dI : Nat → Nat → Nat) (h0 : Nat) (g : Nat → Nat) (gp : Nat → Nat) (sz : Nat) (p0 : Int32) (p1 : Int32) (p2 : Int32) : Met l yX11_stay (Cond.code yX11_stay cX11_stay 5 (some .int) :: wA) ({ frames := 3, cells := 0, slots := 0, locals := 120 }) (va_Pc [.ref h0, .int p0, .int p1, .int p2] (fun U => U.heap.size = sz ∧ va_P (dC, dI) classes [(h0, .inr (11, o11 g)), (g 2, .inr (7, o7 gp))] U.heap ∧ va_K (dC, dI) classes [] U ∧ va_D (fun _ => True) [(h0, .inr (11, o11 g)), (g 2, .inr (7, o7 gp))])) (va_Qi (fun (r : Int32) (_ : Unit) => r = (-2000000000)) (fun (_ : Unit) (_ : State) => True) (va_A [(h0, .inr (11, o11 g)), (g 2, .inr (7, o7 gp))] sz)) 0 0 (va_A [(h0, .inr (11, o11 g)), (g 2, .inr (7, o7 gp))] sz) := by
  refine Met.ofW (cc := cX11_stay) (maxL := 5) (ret := (some .int)) (by decide) rfl ?_
  intro p e s m args below meth c s₁ B hml hv
  obtain ⟨rfl, hsz, hP, hK, hD0⟩ := hv
  have hx := B.exec
  have hb := B.bytes
  have hr := B.returns
  have hts := atoms_spec (ws := Cond.code yX11_stay cX11_stay 5 (some .int) :: wA) B.pre
  have hwd : ∀ w ∈ wA, w.before _ s = true := fun w h => hts w (List.mem_cons_of_mem _ h)
  have hown : s.vm.findClass RX11 = some m.cls := findClass_of_methodNamed B.named
  have hlocks := B.notSynchronized
  subst hsz
  have hD := hD0.self (sz := s.heap.size)
  generalize hAe : va_A [(h0, .inr (11, o11 g)), (g 2, .inr (7, o7 gp))] s.heap.size = A at hD ⊢
  have hA : ∀ q : Nat, s.heap.size ≤ q → A q := fun q h => by rw [← hAe]; exact Or.inr h
  have hS : va_S A s.heap s.heap [] := va_S.rf
  have hP : va_P (dC, dI) classes [(h0, .inr (11, o11 g)), (g 2, .inr (7, o7 gp))] s.heap := hP
  have hl := lv_entry ([.ref h0, .int p0, .int p1, .int p2]) (n := 5) (Nat.le_of_ble_eq_true rfl)
  rw [lg_entry_eq]
  generalize (lg_sl ([.ref h0, .int p0, .int p1, .int p2]) ++ List.replicate (5 - (lg_sl ([.ref h0, .int p0, .int p1, .int p2])).length) Slot.unset).toArray = ls at hl ⊢
  have hl : lv_has ls 5 [(0, .ref h0), (1, .int p0), (2, .int p1), (3, .int p2)] := hl
  obtain ⟨H, eH⟩ : ∃ z, z = s.heap := ⟨_, rfl⟩
  have hP : va_P (dC, dI) classes [(h0, .inr (11, o11 g)), (g 2, .inr (7, o7 gp))] H := by rw [eH]; exact hP
  have hS : va_S A s.heap H [] := by rw [eH]; exact va_S.rf
  refine my_heap eH ?_
  refine lv_aload_n hx hb dX11_stay_0 rfl (lv_at hl 0 rfl) ?_
  refine lv_iload_n hx hb dX11_stay_1 rfl (lv_at hl 1 rfl) ?_
  refine lv_iload_n hx hb dX11_stay_2 rfl (lv_at hl 2 rfl) ?_
  have hPc := hP.sub (ws' := [(h0, .inr (11, o11 g)), (g 2, .inr (7, o7 gp))]) [0, 1] rfl
  have hDc := hD.sub (ws' := [(h0, .inr (11, o11 g)), (g 2, .inr (7, o7 gp))]) [0, 1] (by decide) rfl
  have hKc := hK.sub (tys' := []) [] rfl
  have hFc := va_free (wc := [(h0, .inr (11, o11 g)), (g 2, .inr (7, o7 gp))]) hD hS hA [0, 1] rfl
  refine va_calli (va_runV (As := [.int p0, .int p1]) (rest := []) ⟨hx, hb, hml, hown, hwd⟩ (c_X11_stayAt l dC dI h0 g gp H.size p0 p1) (cwV 2 hwd (gV wk_35 wk_36 wk_37 wk_38 wk_3) rfl rfl rfl (by decide +kernel) ⟨Nat.le_of_ble_eq_true rfl, Nat.le_of_ble_eq_true rfl⟩) ⟨fun a U g mk q => by obtain ⟨q0, q1, qP, qK, qD⟩ := q; exact ⟨q0, q1, qP, va_K.moved (u := U) (U := U.calling g mk a) (Vm.Alike.refl U.vm) qK, qD⟩, va_recv hKc hPc (ci := 11) (q0 := 0) rfl rfl, fun U hU hW => ⟨rfl, by rw [hU], by rw [hU]; exact hPc, va_K.moved hW.alike hKc, hDc.weaken (fun _ _ _ _ => trivial)⟩⟩ rfl rfl hl.1 rfl (lv_room (Nat.le_of_ble_eq_true rfl)) dX11_stay_3 ⟨Nat.le_of_ble_eq_true rfl, Nat.le_of_ble_eq_true rfl⟩) hS (fun q _ h => hFc q h) hFc (fun r_69 u t H1 locs ht hvm hw hB hz1 hk1 hS => ?_)
  obtain ⟨hP1, hK1, hD1⟩ := hB
  rw [ht] at hP1
  obtain ⟨hP, hD⟩ := va_join (wr := []) (w1 := [(h0, .inr (11, o11 g)), (g 2, .inr (7, o7 gp))]) hP hD [0, 1] [] rfl rfl (by decide) (by decide) hk1 hFc hP1 hD1
  generalize H1 = H at hP hS ⊢
  have hP : va_P (dC, dI) classes [(h0, .inr (11, o11 g)), (g 2, .inr (7, o7 gp))] H := hP
  have hD : va_D A [(h0, .inr (11, o11 g)), (g 2, .inr (7, o7 gp))] := hD
  try dsimp only at hw
  subst hw
  refine lv_istore (lv' := [(4, .int (-1)), (0, .ref h0), (1, .int p0), (2, .int p1), (3, .int p2)]) hx hb dX11_stay_6 hl (by decide) rfl (fun ls hl => ?_)
  refine lv_iload hx hb dX11_stay_8 (lv_at hl 0 rfl) ?_
  refine lv_iconst (v := (-1)) hx hb dX11_stay_10 (by decide) ?_
  refine lv_icmp_ne (tgt := 17) hx hb dX11_stay_11 (by decide) (fun c_70 => ?_) (fun c_70 => ?_)
  · exact absurd c_70 (by decide)
  · skip
    refine lv_ldc (v := (-2000000000)) hx hb hown (hwd _ wk_28) dX11_stay_14 ?_
    exact W.iret (v := (-2000000000)) hx hb hr (fun t ht hW => ⟨⟨(-2000000000), (), rfl, rfl, trivial⟩, hS.F ht⟩) hS.2.2 dX11_stay_16
set_option maxHeartbeats 4000000 in
set_option maxRecDepth 100000 in
theorem c_X11_paper (l : Launch) (dC : Nat → ClassId) (dI : Nat → Nat → Nat) (h0 : Nat) (g : Nat → Nat) (gp : Nat → Nat) (sz : Nat) (p0 : Int32) (p1 : Int32) (p2 : Int32) : Met l yX11_paper (Cond.code yX11_paper cX11_paper 6 (some .int) :: wA) ({ frames := 3, cells := 0, slots := 0, locals := 120 }) (va_Pc [.ref h0, .int p0, .int p1, .int p2] (fun U => U.heap.size = sz ∧ va_P (dC, dI) classes [(h0, .inr (11, o11 g)), (g 2, .inr (7, o7 gp))] U.heap ∧ va_K (dC, dI) classes [] U ∧ va_D (fun _ => True) [(h0, .inr (11, o11 g)), (g 2, .inr (7, o7 gp))])) (va_Qi (fun (r : Int32) (_ : Unit) => r = (-1)) (fun (_ : Unit) (_ : State) => True) (va_A [(h0, .inr (11, o11 g)), (g 2, .inr (7, o7 gp))] sz)) 0 0 (va_A [(h0, .inr (11, o11 g)), (g 2, .inr (7, o7 gp))] sz) := by
  refine Met.ofW (cc := cX11_paper) (maxL := 6) (ret := (some .int)) (by decide) rfl ?_
  intro p e s m args below meth c s₁ B hml hv
  obtain ⟨rfl, hsz, hP, hK, hD0⟩ := hv
  have hx := B.exec
  have hb := B.bytes
  have hr := B.returns
  have hts := atoms_spec (ws := Cond.code yX11_paper cX11_paper 6 (some .int) :: wA) B.pre
  have hwd : ∀ w ∈ wA, w.before _ s = true := fun w h => hts w (List.mem_cons_of_mem _ h)
  have hown : s.vm.findClass RX11 = some m.cls := findClass_of_methodNamed B.named
  have hlocks := B.notSynchronized
  subst hsz
  have hD := hD0.self (sz := s.heap.size)
  generalize hAe : va_A [(h0, .inr (11, o11 g)), (g 2, .inr (7, o7 gp))] s.heap.size = A at hD ⊢
  have hA : ∀ q : Nat, s.heap.size ≤ q → A q := fun q h => by rw [← hAe]; exact Or.inr h
  have hS : va_S A s.heap s.heap [] := va_S.rf
  have hP : va_P (dC, dI) classes [(h0, .inr (11, o11 g)), (g 2, .inr (7, o7 gp))] s.heap := hP
  have hl := lv_entry ([.ref h0, .int p0, .int p1, .int p2]) (n := 6) (Nat.le_of_ble_eq_true rfl)
  rw [lg_entry_eq]
  generalize (lg_sl ([.ref h0, .int p0, .int p1, .int p2]) ++ List.replicate (6 - (lg_sl ([.ref h0, .int p0, .int p1, .int p2])).length) Slot.unset).toArray = ls at hl ⊢
  have hl : lv_has ls 6 [(0, .ref h0), (1, .int p0), (2, .int p1), (3, .int p2)] := hl
  obtain ⟨H, eH⟩ : ∃ z, z = s.heap := ⟨_, rfl⟩
  have hP : va_P (dC, dI) classes [(h0, .inr (11, o11 g)), (g 2, .inr (7, o7 gp))] H := by rw [eH]; exact hP
  have hS : va_S A s.heap H [] := by rw [eH]; exact va_S.rf
  refine my_heap eH ?_
  refine lv_aload_n hx hb dX11_paper_0 rfl (lv_at hl 0 rfl) ?_
  refine lv_iload_n hx hb dX11_paper_1 rfl (lv_at hl 1 rfl) ?_
  refine lv_iload_n hx hb dX11_paper_2 rfl (lv_at hl 2 rfl) ?_
  have hPc := hP.sub (ws' := [(h0, .inr (11, o11 g)), (g 2, .inr (7, o7 gp))]) [0, 1] rfl
  have hDc := hD.sub (ws' := [(h0, .inr (11, o11 g)), (g 2, .inr (7, o7 gp))]) [0, 1] (by decide) rfl
  have hKc := hK.sub (tys' := []) [] rfl
  have hFc := va_free (wc := [(h0, .inr (11, o11 g)), (g 2, .inr (7, o7 gp))]) hD hS hA [0, 1] rfl
  refine va_calli (va_runV (As := [.int p0, .int p1]) (rest := []) ⟨hx, hb, hml, hown, hwd⟩ (c_X11_stayAt l dC dI h0 g gp H.size p0 p1) (cwV 2 hwd (gV wk_35 wk_36 wk_37 wk_38 wk_3) rfl rfl rfl (by decide +kernel) ⟨Nat.le_of_ble_eq_true rfl, Nat.le_of_ble_eq_true rfl⟩) ⟨fun a U g mk q => by obtain ⟨q0, q1, qP, qK, qD⟩ := q; exact ⟨q0, q1, qP, va_K.moved (u := U) (U := U.calling g mk a) (Vm.Alike.refl U.vm) qK, qD⟩, va_recv hKc hPc (ci := 11) (q0 := 0) rfl rfl, fun U hU hW => ⟨rfl, by rw [hU], by rw [hU]; exact hPc, va_K.moved hW.alike hKc, hDc.weaken (fun _ _ _ _ => trivial)⟩⟩ rfl rfl hl.1 rfl (lv_room (Nat.le_of_ble_eq_true rfl)) dX11_paper_3 ⟨Nat.le_of_ble_eq_true rfl, Nat.le_of_ble_eq_true rfl⟩) hS (fun q _ h => hFc q h) hFc (fun r_71 u t H1 locs ht hvm hw hB hz1 hk1 hS => ?_)
  obtain ⟨hP1, hK1, hD1⟩ := hB
  rw [ht] at hP1
  obtain ⟨hP, hD⟩ := va_join (wr := []) (w1 := [(h0, .inr (11, o11 g)), (g 2, .inr (7, o7 gp))]) hP hD [0, 1] [] rfl rfl (by decide) (by decide) hk1 hFc hP1 hD1
  generalize H1 = H at hP hS ⊢
  have hP : va_P (dC, dI) classes [(h0, .inr (11, o11 g)), (g 2, .inr (7, o7 gp))] H := hP
  have hD : va_D A [(h0, .inr (11, o11 g)), (g 2, .inr (7, o7 gp))] := hD
  try dsimp only at hw
  subst hw
  refine lv_istore (lv' := [(4, .int (-1)), (0, .ref h0), (1, .int p0), (2, .int p1), (3, .int p2)]) hx hb dX11_paper_6 hl (by decide) rfl (fun ls hl => ?_)
  refine lv_iload hx hb dX11_paper_8 (lv_at hl 0 rfl) ?_
  refine lv_iconst (v := (-1)) hx hb dX11_paper_10 (by decide) ?_
  refine lv_icmp_eq (tgt := 23) hx hb dX11_paper_11 (by decide) (fun c_72 => ?_) (fun c_72 => ?_)
  · skip
    refine lv_iconst (v := (-1)) hx hb dX11_paper_23 (by decide) ?_
    exact W.iret (v := (-1)) hx hb hr (fun t ht hW => ⟨⟨(-1), (), rfl, rfl, trivial⟩, hS.F ht⟩) hS.2.2 dX11_paper_24
  · exact absurd c_72 (by decide)
set_option maxHeartbeats 4000000 in
set_option maxRecDepth 100000 in
theorem c_X11_lost (l : Launch) (dC : Nat → ClassId) (dI : Nat → Nat → Nat) (h0 : Nat) (g : Nat → Nat) (gp : Nat → Nat) (sz : Nat) (p0 : Int32) (p1 : Int32) (p2 : Int32) : Met l yX11_lost (Cond.code yX11_lost cX11_lost 5 (some .int) :: wA) ({ frames := 3, cells := 0, slots := 0, locals := 120 }) (va_Pc [.ref h0, .int p0, .int p1, .int p2] (fun U => U.heap.size = sz ∧ va_P (dC, dI) classes [(h0, .inr (11, o11 g)), (g 2, .inr (7, o7 gp))] U.heap ∧ va_K (dC, dI) classes [] U ∧ va_D (fun _ => True) [(h0, .inr (11, o11 g)), (g 2, .inr (7, o7 gp))])) (va_Qi (fun (r : Int32) (_ : Unit) => r = (-1)) (fun (_ : Unit) (_ : State) => True) (va_A [(h0, .inr (11, o11 g)), (g 2, .inr (7, o7 gp))] sz)) 0 0 (va_A [(h0, .inr (11, o11 g)), (g 2, .inr (7, o7 gp))] sz) := by
  refine Met.ofW (cc := cX11_lost) (maxL := 5) (ret := (some .int)) (by decide) rfl ?_
  intro p e s m args below meth c s₁ B hml hv
  obtain ⟨rfl, hsz, hP, hK, hD0⟩ := hv
  have hx := B.exec
  have hb := B.bytes
  have hr := B.returns
  have hts := atoms_spec (ws := Cond.code yX11_lost cX11_lost 5 (some .int) :: wA) B.pre
  have hwd : ∀ w ∈ wA, w.before _ s = true := fun w h => hts w (List.mem_cons_of_mem _ h)
  have hown : s.vm.findClass RX11 = some m.cls := findClass_of_methodNamed B.named
  have hlocks := B.notSynchronized
  subst hsz
  have hD := hD0.self (sz := s.heap.size)
  generalize hAe : va_A [(h0, .inr (11, o11 g)), (g 2, .inr (7, o7 gp))] s.heap.size = A at hD ⊢
  have hA : ∀ q : Nat, s.heap.size ≤ q → A q := fun q h => by rw [← hAe]; exact Or.inr h
  have hS : va_S A s.heap s.heap [] := va_S.rf
  have hP : va_P (dC, dI) classes [(h0, .inr (11, o11 g)), (g 2, .inr (7, o7 gp))] s.heap := hP
  have hl := lv_entry ([.ref h0, .int p0, .int p1, .int p2]) (n := 5) (Nat.le_of_ble_eq_true rfl)
  rw [lg_entry_eq]
  generalize (lg_sl ([.ref h0, .int p0, .int p1, .int p2]) ++ List.replicate (5 - (lg_sl ([.ref h0, .int p0, .int p1, .int p2])).length) Slot.unset).toArray = ls at hl ⊢
  have hl : lv_has ls 5 [(0, .ref h0), (1, .int p0), (2, .int p1), (3, .int p2)] := hl
  obtain ⟨H, eH⟩ : ∃ z, z = s.heap := ⟨_, rfl⟩
  have hP : va_P (dC, dI) classes [(h0, .inr (11, o11 g)), (g 2, .inr (7, o7 gp))] H := by rw [eH]; exact hP
  have hS : va_S A s.heap H [] := by rw [eH]; exact va_S.rf
  refine my_heap eH ?_
  refine lv_aload_n hx hb dX11_lost_0 rfl (lv_at hl 0 rfl) ?_
  refine lv_iload_n hx hb dX11_lost_1 rfl (lv_at hl 1 rfl) ?_
  refine lv_iload_n hx hb dX11_lost_2 rfl (lv_at hl 2 rfl) ?_
  have hPc := hP.sub (ws' := [(h0, .inr (11, o11 g)), (g 2, .inr (7, o7 gp))]) [0, 1] rfl
  have hDc := hD.sub (ws' := [(h0, .inr (11, o11 g)), (g 2, .inr (7, o7 gp))]) [0, 1] (by decide) rfl
  have hKc := hK.sub (tys' := []) [] rfl
  have hFc := va_free (wc := [(h0, .inr (11, o11 g)), (g 2, .inr (7, o7 gp))]) hD hS hA [0, 1] rfl
  refine va_calli (va_runV (As := [.int p0, .int p1]) (rest := []) ⟨hx, hb, hml, hown, hwd⟩ (c_X11_stayAt l dC dI h0 g gp H.size p0 p1) (cwV 2 hwd (gV wk_35 wk_36 wk_37 wk_38 wk_3) rfl rfl rfl (by decide +kernel) ⟨Nat.le_of_ble_eq_true rfl, Nat.le_of_ble_eq_true rfl⟩) ⟨fun a U g mk q => by obtain ⟨q0, q1, qP, qK, qD⟩ := q; exact ⟨q0, q1, qP, va_K.moved (u := U) (U := U.calling g mk a) (Vm.Alike.refl U.vm) qK, qD⟩, va_recv hKc hPc (ci := 11) (q0 := 0) rfl rfl, fun U hU hW => ⟨rfl, by rw [hU], by rw [hU]; exact hPc, va_K.moved hW.alike hKc, hDc.weaken (fun _ _ _ _ => trivial)⟩⟩ rfl rfl hl.1 rfl (lv_room (Nat.le_of_ble_eq_true rfl)) dX11_lost_3 ⟨Nat.le_of_ble_eq_true rfl, Nat.le_of_ble_eq_true rfl⟩) hS (fun q _ h => hFc q h) hFc (fun r_73 u t H1 locs ht hvm hw hB hz1 hk1 hS => ?_)
  obtain ⟨hP1, hK1, hD1⟩ := hB
  rw [ht] at hP1
  obtain ⟨hP, hD⟩ := va_join (wr := []) (w1 := [(h0, .inr (11, o11 g)), (g 2, .inr (7, o7 gp))]) hP hD [0, 1] [] rfl rfl (by decide) (by decide) hk1 hFc hP1 hD1
  generalize H1 = H at hP hS ⊢
  have hP : va_P (dC, dI) classes [(h0, .inr (11, o11 g)), (g 2, .inr (7, o7 gp))] H := hP
  have hD : va_D A [(h0, .inr (11, o11 g)), (g 2, .inr (7, o7 gp))] := hD
  try dsimp only at hw
  subst hw
  refine lv_istore (lv' := [(4, .int (-1)), (0, .ref h0), (1, .int p0), (2, .int p1), (3, .int p2)]) hx hb dX11_lost_6 hl (by decide) rfl (fun ls hl => ?_)
  refine lv_iload hx hb dX11_lost_8 (lv_at hl 0 rfl) ?_
  refine lv_iconst (v := (-1)) hx hb dX11_lost_10 (by decide) ?_
  refine lv_icmp_eq (tgt := 21) hx hb dX11_lost_11 (by decide) (fun c_74 => ?_) (fun c_74 => ?_)
  · skip
    refine lv_iconst (v := (-1)) hx hb dX11_lost_21 (by decide) ?_
    exact W.iret (v := (-1)) hx hb hr (fun t ht hW => ⟨⟨(-1), (), rfl, rfl, trivial⟩, hS.F ht⟩) hS.2.2 dX11_lost_22
  · exact absurd c_74 (by decide)
set_option maxHeartbeats 4000000 in
set_option maxRecDepth 100000 in
theorem c_X11_done (l : Launch) (dC : Nat → ClassId) (dI : Nat → Nat → Nat) (h0 : Nat) (g : Nat → Nat) (go : Nat → Nat) (sz : Nat) (p0 : Int32) (p1 : Int32) : Met l yX11_done (Cond.code yX11_done cX11_done 3 (some .int) :: wA) ({ frames := 2, cells := 0, slots := 0, locals := 80 }) (va_Pc [.ref h0, .int p0, .int p1] (fun U => U.heap.size = sz ∧ va_P (dC, dI) classes [(h0, .inr (11, o11 g)), (g 7, .inr (6, o6 go))] U.heap ∧ va_K (dC, dI) classes [] U ∧ va_D (fun _ => True) [(h0, .inr (11, o11 g)), (g 7, .inr (6, o6 go))])) (va_Qi (fun (r : Int32) (_ : Unit) => r = (-1)) (fun (_ : Unit) (_ : State) => True) (va_A [(h0, .inr (11, o11 g)), (g 7, .inr (6, o6 go))] sz)) 0 0 (va_A [(h0, .inr (11, o11 g)), (g 7, .inr (6, o6 go))] sz) := by
  refine Met.ofW (cc := cX11_done) (maxL := 3) (ret := (some .int)) (by decide) rfl ?_
  intro p e s m args below meth c s₁ B hml hv
  obtain ⟨rfl, hsz, hP, hK, hD0⟩ := hv
  have hx := B.exec
  have hb := B.bytes
  have hr := B.returns
  have hts := atoms_spec (ws := Cond.code yX11_done cX11_done 3 (some .int) :: wA) B.pre
  have hwd : ∀ w ∈ wA, w.before _ s = true := fun w h => hts w (List.mem_cons_of_mem _ h)
  have hown : s.vm.findClass RX11 = some m.cls := findClass_of_methodNamed B.named
  have hlocks := B.notSynchronized
  subst hsz
  have hD := hD0.self (sz := s.heap.size)
  generalize hAe : va_A [(h0, .inr (11, o11 g)), (g 7, .inr (6, o6 go))] s.heap.size = A at hD ⊢
  have hA : ∀ q : Nat, s.heap.size ≤ q → A q := fun q h => by rw [← hAe]; exact Or.inr h
  have hS : va_S A s.heap s.heap [] := va_S.rf
  have hP : va_P (dC, dI) classes [(h0, .inr (11, o11 g)), (g 7, .inr (6, o6 go))] s.heap := hP
  have hl := lv_entry ([.ref h0, .int p0, .int p1]) (n := 3) (Nat.le_of_ble_eq_true rfl)
  rw [lg_entry_eq]
  generalize (lg_sl ([.ref h0, .int p0, .int p1]) ++ List.replicate (3 - (lg_sl ([.ref h0, .int p0, .int p1])).length) Slot.unset).toArray = ls at hl ⊢
  have hl : lv_has ls 3 [(0, .ref h0), (1, .int p0), (2, .int p1)] := hl
  obtain ⟨H, eH⟩ : ∃ z, z = s.heap := ⟨_, rfl⟩
  have hP : va_P (dC, dI) classes [(h0, .inr (11, o11 g)), (g 7, .inr (6, o6 go))] H := by rw [eH]; exact hP
  have hS : va_S A s.heap H [] := by rw [eH]; exact va_S.rf
  refine my_heap eH ?_
  refine lv_aload_n hx hb dX11_done_0 rfl (lv_at hl 0 rfl) ?_
  refine va_get (D := (dC, dI)) (ci := 11) (v := .ref (g 7)) (C := RX11) (T := TX11) (N := 14) hx hb hwd inA_X11 hown hK hP 0 rfl rfl 7 (by decide) (hwd _ wk_39) (fun _ h9 => h9) rfl dX11_done_1 ?_
  refine lv_iload_n hx hb dX11_done_4 rfl (lv_at hl 1 rfl) ?_
  have hPc := hP.sub (ws' := [(g 7, .inr (6, o6 go))]) [1] rfl
  have hDc := hD.sub (ws' := [(g 7, .inr (6, o6 go))]) [1] (by decide) rfl
  have hKc := hK.sub (tys' := []) [] rfl
  have hFc := va_free (wc := [(g 7, .inr (6, o6 go))]) hD hS hA [1] rfl
  refine va_calli (va_runV (As := [.int p0]) (rest := []) ⟨hx, hb, hml, hown, hwd⟩ (c_X6_has l dC dI (g 7) go H.size p0) (cwV 1 hwd (gV wk_40 wk_41 wk_42 wk_43 wk_44) rfl rfl rfl (by decide +kernel) ⟨Nat.le_of_ble_eq_true rfl, Nat.le_of_ble_eq_true rfl⟩) ⟨fun a U g mk q => by obtain ⟨q0, q1, qP, qK, qD⟩ := q; exact ⟨q0, q1, qP, va_K.moved (u := U) (U := U.calling g mk a) (Vm.Alike.refl U.vm) qK, qD⟩, va_recv hKc hPc (ci := 6) (q0 := 0) rfl rfl, fun U hU hW => ⟨rfl, by rw [hU], by rw [hU]; exact hPc, va_K.moved hW.alike hKc, hDc.weaken (fun _ _ _ _ => trivial)⟩⟩ rfl rfl hl.1 rfl (lv_room (Nat.le_of_ble_eq_true rfl)) dX11_done_5 ⟨Nat.le_of_ble_eq_true rfl, Nat.le_of_ble_eq_true rfl⟩) hS (fun q _ h => hFc q h) hFc (fun r_75 u t H1 locs ht hvm hw hB hz1 hk1 hS => ?_)
  obtain ⟨hP1, hK1, hD1⟩ := hB
  rw [ht] at hP1
  obtain ⟨hP, hD⟩ := va_join (wr := [(h0, .inr (11, o11 g))]) (w1 := [(g 7, .inr (6, o6 go))]) hP hD [1] [0] rfl rfl (by decide) (by decide) hk1 hFc hP1 hD1
  generalize H1 = H at hP hS ⊢
  have hP : va_P (dC, dI) classes [(h0, .inr (11, o11 g)), (g 7, .inr (6, o6 go))] H := hP
  have hD : va_D A [(h0, .inr (11, o11 g)), (g 7, .inr (6, o6 go))] := hD
  try dsimp only at hw
  subst hw
  refine lv_if_eq (tgt := 22) hx hb dX11_done_8 (by decide) (fun c_76 => ?_) (fun c_76 => ?_)
  · skip
    refine lv_iconst (v := (-1)) hx hb dX11_done_22 (by decide) ?_
    exact W.iret (v := (-1)) hx hb hr (fun t ht hW => ⟨⟨(-1), (), rfl, rfl, trivial⟩, hS.F ht⟩) hS.2.2 dX11_done_23
  · exact absurd c_76 (by decide)
