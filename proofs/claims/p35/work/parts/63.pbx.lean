set_option maxHeartbeats 8000000 in
set_option maxRecDepth 100000 in
theorem c_X2_has_x (l : Launch) (dC : Nat → ClassId) (dI : Nat → Nat → Nat) (g : Nat → Nat) (c : Nat → ClassId) (adK adV : Nat → Nat) (v : Nat → Int32) (F : Nat → Nat → Int32) (rc sz : Nat) (p0 : Int32) (hg : injX g) (hI : IX v F) : Met l yX2_has (Cond.code yX2_has cX2_has 2 (some .boolean) :: wA) ({ frames := 1, cells := 0, slots := 0, locals := 40 }) (va_Pc [.ref (g 1), .int p0] (PX dC dI g c adK adV v F rc sz)) (va_Qi (fun (r : Int32) (u : Unit) => (r.toInt = 1 ∧ 0 ≤ p0.toInt ∧ p0.toInt < (v 20).toInt) ∨ (r.toInt = 0 ∧ (p0.toInt < 0 ∨ (v 20).toInt ≤ p0.toInt))) (fun (_ : Unit) => BX dC dI g c (v, F, rc)) (AX g sz)) 0 0 (AX g sz) := by
  refine Met.ofW (cc := cX2_has) (maxL := 2) (ret := (some .boolean)) (by decide) rfl ?_
  intro p e s m args below meth c0 s₁ B hml hv
  obtain ⟨rfl, hsz, hP, hK, hE⟩ := hv
  have hx := B.exec
  have hb := B.bytes
  have hr := B.returns
  have hts := atoms_spec (ws := Cond.code yX2_has cX2_has 2 (some .boolean) :: wA) B.pre
  have hwd : ∀ w ∈ wA, w.before _ s = true := fun w h => hts w (List.mem_cons_of_mem _ h)
  have hown : s.vm.findClass RX2 = some m.cls := findClass_of_methodNamed B.named
  have hlocks := B.notSynchronized
  subst hsz
  have hl := lv_entry ([.ref (g 1), .int p0]) (n := 2) (Nat.le_of_ble_eq_true rfl)
  rw [lg_entry_eq]
  generalize (lg_sl ([.ref (g 1), .int p0]) ++ List.replicate (2 - (lg_sl ([.ref (g 1), .int p0])).length) Slot.unset).toArray = ls at hl ⊢
  have hl : lv_has ls 2 [(0, .ref (g 1)), (1, .int p0)] := hl
  obtain ⟨H, eH⟩ : ∃ z, z = s.heap := ⟨_, rfl⟩
  have hP : va_P (dC, dI) classes (wX g c v F rc) H := by rw [eH]; exact hP
  have hS : va_S (AX g s.heap.size) s.heap H [] := by rw [eH]; exact va_S.rf
  refine my_heap eH ?_
  have rp0 := i32_rng p0
  refine lv_iload_n hx hb dX2_has_0 rfl (lv_at hl 1 rfl) ?_
  refine lv_if_lt (tgt := 16) hx hb dX2_has_1 (by decide) (fun c4406 => ?_) (fun c4406 => ?_)
  · skip
    have t4407 := cv_lt (a := p0.toInt) rfl (b := 0) (by decide) c4406
    refine lv_iconst (v := 0) hx hb dX2_has_16 (by decide) ?_
    have hP9 : va_P (dC, dI) classes (wX g c v F rc) H := hP
    exact W.zret (v := 0) hx hb hr (rfl) (fun t ht hW => ⟨⟨0, (), rfl, by have : (0 : Int32).toInt = 0 := (by decide); omega, (by show va_P _ _ _ t.heap; rw [ht]; exact hP9)⟩, hS.F ht⟩) hS.2.2 dX2_has_17
  · skip
    have t4408 := cv_nlt (a := p0.toInt) rfl (b := 0) (by decide) c4406
    refine lv_iload_n hx hb dX2_has_4 rfl (lv_at hl 1 rfl) ?_
    refine lv_aload_n hx hb dX2_has_5 rfl (lv_at hl 0 rfl) ?_
    refine va_get (D := (dC, dI)) (ci := 2) (v := .int (v 20)) (C := RX2) (T := TX2) (N := 4) hx hb hwd inA_X2 hown hK hP 1 rfl rfl 0 (by decide) (hwd _ wk_244) (fun _ h9 => h9) rfl dX2_has_6 ?_
    have t4409 : 0 ≤ (v 20).toInt ∧ (v 20).toInt ≤ 10 := hI.1 20 _ _ rfl
    refine lv_icmp_ge (tgt := 16) hx hb dX2_has_9 (by decide) (fun c4410 => ?_) (fun c4410 => ?_)
    · skip
      have t4411 := cv_le (a := (v 20).toInt) rfl (b := p0.toInt) rfl c4410
      refine lv_iconst (v := 0) hx hb dX2_has_16 (by decide) ?_
      have hP9 : va_P (dC, dI) classes (wX g c v F rc) H := hP
      exact W.zret (v := 0) hx hb hr (rfl) (fun t ht hW => ⟨⟨0, (), rfl, by have : (0 : Int32).toInt = 0 := (by decide); omega, (by show va_P _ _ _ t.heap; rw [ht]; exact hP9)⟩, hS.F ht⟩) hS.2.2 dX2_has_17
    · skip
      have t4412 := cv_nle (a := (v 20).toInt) rfl (b := p0.toInt) rfl c4410
      refine lv_iconst (v := 1) hx hb dX2_has_12 (by decide) ?_
      refine lv_goto (tgt := 17) hx hb dX2_has_13 (by decide) ?_
      have hP9 : va_P (dC, dI) classes (wX g c v F rc) H := hP
      exact W.zret (v := 1) hx hb hr (rfl) (fun t ht hW => ⟨⟨1, (), rfl, by have : (1 : Int32).toInt = 1 := (by decide); omega, (by show va_P _ _ _ t.heap; rw [ht]; exact hP9)⟩, hS.F ht⟩) hS.2.2 dX2_has_17
set_option maxHeartbeats 8000000 in
set_option maxRecDepth 100000 in
theorem c_X8_has_x (l : Launch) (dC : Nat → ClassId) (dI : Nat → Nat → Nat) (g : Nat → Nat) (c : Nat → ClassId) (adK adV : Nat → Nat) (v : Nat → Int32) (F : Nat → Nat → Int32) (rc sz : Nat) (p0 : Int32) (hg : injX g) (hI : IX v F) : Met l yX8_has (Cond.code yX8_has cX8_has 2 (some .boolean) :: wA) ({ frames := 1, cells := 0, slots := 0, locals := 40 }) (va_Pc [.ref (g 2), .int p0] (PX dC dI g c adK adV v F rc sz)) (va_Qi (fun (r : Int32) (u : Unit) => (r.toInt = 1 ∧ 0 ≤ p0.toInt ∧ p0.toInt < (v 40).toInt) ∨ (r.toInt = 0 ∧ (p0.toInt < 0 ∨ (v 40).toInt ≤ p0.toInt))) (fun (_ : Unit) => BX dC dI g c (v, F, rc)) (AX g sz)) 0 0 (AX g sz) := by
  refine Met.ofW (cc := cX8_has) (maxL := 2) (ret := (some .boolean)) (by decide) rfl ?_
  intro p e s m args below meth c0 s₁ B hml hv
  obtain ⟨rfl, hsz, hP, hK, hE⟩ := hv
  have hx := B.exec
  have hb := B.bytes
  have hr := B.returns
  have hts := atoms_spec (ws := Cond.code yX8_has cX8_has 2 (some .boolean) :: wA) B.pre
  have hwd : ∀ w ∈ wA, w.before _ s = true := fun w h => hts w (List.mem_cons_of_mem _ h)
  have hown : s.vm.findClass RX8 = some m.cls := findClass_of_methodNamed B.named
  have hlocks := B.notSynchronized
  subst hsz
  have hl := lv_entry ([.ref (g 2), .int p0]) (n := 2) (Nat.le_of_ble_eq_true rfl)
  rw [lg_entry_eq]
  generalize (lg_sl ([.ref (g 2), .int p0]) ++ List.replicate (2 - (lg_sl ([.ref (g 2), .int p0])).length) Slot.unset).toArray = ls at hl ⊢
  have hl : lv_has ls 2 [(0, .ref (g 2)), (1, .int p0)] := hl
  obtain ⟨H, eH⟩ : ∃ z, z = s.heap := ⟨_, rfl⟩
  have hP : va_P (dC, dI) classes (wX g c v F rc) H := by rw [eH]; exact hP
  have hS : va_S (AX g s.heap.size) s.heap H [] := by rw [eH]; exact va_S.rf
  refine my_heap eH ?_
  have rp0 := i32_rng p0
  refine lv_iload_n hx hb dX8_has_0 rfl (lv_at hl 1 rfl) ?_
  refine lv_if_lt (tgt := 16) hx hb dX8_has_1 (by decide) (fun c4413 => ?_) (fun c4413 => ?_)
  · skip
    have t4414 := cv_lt (a := p0.toInt) rfl (b := 0) (by decide) c4413
    refine lv_iconst (v := 0) hx hb dX8_has_16 (by decide) ?_
    have hP9 : va_P (dC, dI) classes (wX g c v F rc) H := hP
    exact W.zret (v := 0) hx hb hr (rfl) (fun t ht hW => ⟨⟨0, (), rfl, by have : (0 : Int32).toInt = 0 := (by decide); omega, (by show va_P _ _ _ t.heap; rw [ht]; exact hP9)⟩, hS.F ht⟩) hS.2.2 dX8_has_17
  · skip
    have t4415 := cv_nlt (a := p0.toInt) rfl (b := 0) (by decide) c4413
    refine lv_iload_n hx hb dX8_has_4 rfl (lv_at hl 1 rfl) ?_
    refine lv_aload_n hx hb dX8_has_5 rfl (lv_at hl 0 rfl) ?_
    refine va_get (D := (dC, dI)) (ci := 8) (v := .int (v 40)) (C := RX8) (T := TX8) (N := 10) hx hb hwd inA_X8 hown hK hP 2 rfl rfl 0 (by decide) (hwd _ wk_263) (fun _ h9 => h9) rfl dX8_has_6 ?_
    have t4416 : 0 ≤ (v 40).toInt ∧ (v 40).toInt ≤ 10 := hI.1 40 _ _ rfl
    refine lv_icmp_ge (tgt := 16) hx hb dX8_has_9 (by decide) (fun c4417 => ?_) (fun c4417 => ?_)
    · skip
      have t4418 := cv_le (a := (v 40).toInt) rfl (b := p0.toInt) rfl c4417
      refine lv_iconst (v := 0) hx hb dX8_has_16 (by decide) ?_
      have hP9 : va_P (dC, dI) classes (wX g c v F rc) H := hP
      exact W.zret (v := 0) hx hb hr (rfl) (fun t ht hW => ⟨⟨0, (), rfl, by have : (0 : Int32).toInt = 0 := (by decide); omega, (by show va_P _ _ _ t.heap; rw [ht]; exact hP9)⟩, hS.F ht⟩) hS.2.2 dX8_has_17
    · skip
      have t4419 := cv_nle (a := (v 40).toInt) rfl (b := p0.toInt) rfl c4417
      refine lv_iconst (v := 1) hx hb dX8_has_12 (by decide) ?_
      refine lv_goto (tgt := 17) hx hb dX8_has_13 (by decide) ?_
      have hP9 : va_P (dC, dI) classes (wX g c v F rc) H := hP
      exact W.zret (v := 1) hx hb hr (rfl) (fun t ht hW => ⟨⟨1, (), rfl, by have : (1 : Int32).toInt = 1 := (by decide); omega, (by show va_P _ _ _ t.heap; rw [ht]; exact hP9)⟩, hS.F ht⟩) hS.2.2 dX8_has_17
set_option maxHeartbeats 8000000 in
set_option maxRecDepth 100000 in
theorem c_X11_order_x (l : Launch) (dC : Nat → ClassId) (dI : Nat → Nat → Nat) (g : Nat → Nat) (c : Nat → ClassId) (adK adV : Nat → Nat) (v : Nat → Int32) (F : Nat → Nat → Int32) (rc sz : Nat) (p0 : Int32) (p1 : Int32) (hg : injX g) (hI : IX v F) : Met l yX11_order (Cond.code yX11_order cX11_order 3 (some .int) :: wA) ({ frames := 3, cells := 0, slots := 0, locals := 120 }) (va_Pc [.ref (g 0), .int p0, .int p1] (PX dC dI g c adK adV v F rc sz)) (va_Qi (fun (r : Int32) (u : StX) => IX u.1 u.2.1 ∧ ((¬ ((0 ≤ p0.toInt ∧ p0.toInt < (v 20).toInt) ∧ (0 ≤ p1.toInt ∧ p1.toInt ≤ 9999)) ∧ r.toInt = -1 ∧ alX u.1 u.2.1 = alX v F) ∨ (((0 ≤ p0.toInt ∧ p0.toInt < (v 20).toInt) ∧ (0 ≤ p1.toInt ∧ p1.toInt ≤ 9999)) ∧ ((20 ≤ (v 161).toInt ∧ r.toInt = -3 ∧ alX u.1 u.2.1 = alX v F) ∨ ((v 161).toInt < 20 ∧ r = v 161 ∧ alX u.1 u.2.1 = alXS3 (alX v F) (v 161 + 1))))) ∧ u.2.2 = rc ∧ (∀ k, k ∉ ([161] : List Nat) → u.1 k = v k) ∧ True) (BX dC dI g c) (AX g sz)) 0 0 (AX g sz) := by
  refine Met.ofW (cc := cX11_order) (maxL := 3) (ret := (some .int)) (by decide) rfl ?_
  intro p e s m args below meth c0 s₁ B hml hv
  obtain ⟨rfl, hsz, hP, hK, hE⟩ := hv
  have hx := B.exec
  have hb := B.bytes
  have hr := B.returns
  have hts := atoms_spec (ws := Cond.code yX11_order cX11_order 3 (some .int) :: wA) B.pre
  have hwd : ∀ w ∈ wA, w.before _ s = true := fun w h => hts w (List.mem_cons_of_mem _ h)
  have hown : s.vm.findClass RX11 = some m.cls := findClass_of_methodNamed B.named
  have hlocks := B.notSynchronized
  subst hsz
  have hl := lv_entry ([.ref (g 0), .int p0, .int p1]) (n := 3) (Nat.le_of_ble_eq_true rfl)
  rw [lg_entry_eq]
  generalize (lg_sl ([.ref (g 0), .int p0, .int p1]) ++ List.replicate (3 - (lg_sl ([.ref (g 0), .int p0, .int p1])).length) Slot.unset).toArray = ls at hl ⊢
  have hl : lv_has ls 3 [(0, .ref (g 0)), (1, .int p0), (2, .int p1)] := hl
  obtain ⟨H, eH⟩ : ∃ z, z = s.heap := ⟨_, rfl⟩
  have hP : va_P (dC, dI) classes (wX g c v F rc) H := by rw [eH]; exact hP
  have hS : va_S (AX g s.heap.size) s.heap H [] := by rw [eH]; exact va_S.rf
  refine my_heap eH ?_
  have hal : alX v F = alX v F := rfl
  have rp0 := i32_rng p0
  have rp1 := i32_rng p1
  have hbs : 0 ≤ (v 20).toInt ∧ (v 20).toInt ≤ 10 := hI.1 20 _ _ rfl
  refine lv_aload_n hx hb dX11_order_0 rfl (lv_at hl 0 rfl) ?_
  refine va_get (D := (dC, dI)) (ci := 11) (v := .ref (g 1)) (C := RX11) (T := TX11) (N := 14) hx hb hwd inA_X11 hown hK hP 0 rfl rfl 0 (by decide) (hwd _ wk_15) (fun _ h9 => h9) rfl dX11_order_1 ?_
  refine lv_iload_n hx hb dX11_order_4 rfl (lv_at hl 1 rfl) ?_
  refine va_calli (va_runV (As := [.int p0]) (rest := []) ⟨hx, hb, hml, hown, hwd⟩ (c_X2_has_x l dC dI g c adK adV v F rc H.size p0 hg hI ) (cwV 1 hwd (gV wk_280 wk_277 wk_278 wk_279 wk_14) rfl rfl rfl (by decide +kernel) ⟨Nat.le_of_ble_eq_true rfl, Nat.le_of_ble_eq_true rfl⟩) ⟨PX.blind, va_recv hK hP (ci := 2) (q0 := 1) rfl rfl, fun U hU hW => ⟨rfl, PX.at hK hE hP hS hU hW⟩⟩ rfl rfl hl.1 rfl (lv_room (Nat.le_of_ble_eq_true rfl)) dX11_order_5 ⟨Nat.le_of_ble_eq_true rfl, Nat.le_of_ble_eq_true rfl⟩) hS (fun q _ h => (freeX hS) q h) (freeX hS) (fun r4420 u t H1 locs ht hvm hw hB hz1 hk1 hS => ?_)
  unfold BX at hB
  rw [ht] at hB
  have hP : va_P (dC, dI) classes (wX g c v F rc) H1 := hB
  have hw : (r4420.toInt = 1 ∧ 0 ≤ p0.toInt ∧ p0.toInt < (v 20).toInt) ∨ (r4420.toInt = 0 ∧ (p0.toInt < 0 ∨ (v 20).toInt ≤ p0.toInt)) := hw
  generalize H1 = H at hP hS ⊢
  have hw_r4420 := hw
  refine lv_if_eq (tgt := 18) hx hb dX11_order_8 (by decide) (fun c4421 => ?_) (fun c4421 => ?_)
  · skip
    have t4422 := cv_eq (a := r4420.toInt) rfl (b := 0) (by decide) c4421
    refine lv_iconst (v := (-1)) hx hb dX11_order_18 (by decide) ?_
    have hP9 : va_P (dC, dI) classes (wX g c v F rc) H := hP
    exact W.iret (v := (-1)) hx hb hr (fun t ht hW => ⟨⟨(-1), (v, F, rc), rfl, ⟨hI, (Or.inl ⟨by omega, by decide, hal⟩), rfl, (fun _ _ => rfl), trivial⟩, (by show va_P _ _ _ t.heap; rw [ht]; exact hP9)⟩, hS.F ht⟩) hS.2.2 dX11_order_19
  · skip
    have t4423 := cv_ne (a := r4420.toInt) rfl (b := 0) (by decide) c4421
    refine lv_iload_n hx hb dX11_order_11 rfl (lv_at hl 2 rfl) ?_
    refine va_calli (va_runS (As := [.int p1]) (rest := []) ⟨hx, hb, hml, hown, hwd⟩ (c_X11_isDay l dC dI g c adK adV v F rc H.size p1 hg hI ) (va_cwS 1 hwd (gT wk_549 wk_547 wk_548 wk_2) rfl rfl rfl (by decide +kernel) ⟨Nat.le_of_ble_eq_true rfl, Nat.le_of_ble_eq_true rfl⟩) ⟨PX.blind, fun U hU hW => ⟨rfl, PX.at hK hE hP hS hU hW⟩⟩ rfl rfl hl.1 rfl (lv_room (Nat.le_of_ble_eq_true rfl)) dX11_order_12 ⟨Nat.le_of_ble_eq_true rfl, Nat.le_of_ble_eq_true rfl⟩) hS (fun q _ h => (freeX hS) q h) (freeX hS) (fun r4424 u t H1 locs ht hvm hw hB hz1 hk1 hS => ?_)
    unfold BX at hB
    rw [ht] at hB
    have hP : va_P (dC, dI) classes (wX g c v F rc) H1 := hB
    have hw : (r4424.toInt = 1 ∧ 0 ≤ p1.toInt ∧ p1.toInt ≤ 9999) ∨ (r4424.toInt = 0 ∧ (p1.toInt < 0 ∨ 9999 < p1.toInt)) := hw
    generalize H1 = H at hP hS ⊢
    have hw_r4424 := hw
    refine lv_if_ne (tgt := 20) hx hb dX11_order_15 (by decide) (fun c4425 => ?_) (fun c4425 => ?_)
    · skip
      have t4426 := cv_ne (a := r4424.toInt) rfl (b := 0) (by decide) c4425
      refine lv_aload_n hx hb dX11_order_20 rfl (lv_at hl 0 rfl) ?_
      refine va_get (D := (dC, dI)) (ci := 11) (v := .ref (g 8)) (C := RX11) (T := TX11) (N := 14) hx hb hwd inA_X11 hown hK hP 0 rfl rfl 7 (by decide) (hwd _ wk_43) (fun _ h9 => h9) rfl dX11_order_21 ?_
      refine lv_iload_n hx hb dX11_order_24 rfl (lv_at hl 1 rfl) ?_
      refine lv_iload_n hx hb dX11_order_25 rfl (lv_at hl 2 rfl) ?_
      refine va_calli (va_runV (As := [.int p0, .int p1]) (rest := []) ⟨hx, hb, hml, hown, hwd⟩ (c_X6_add l dC dI g c adK adV v F rc H.size p0 p1 hg hI (by omega)) (cwV 2 hwd (gV wk_1064 wk_1061 wk_1062 wk_1063 wk_42) rfl rfl rfl (by decide +kernel) ⟨Nat.le_of_ble_eq_true rfl, Nat.le_of_ble_eq_true rfl⟩) ⟨PX.blind, va_recv hK hP (ci := 6) (q0 := 8) rfl rfl, fun U hU hW => ⟨rfl, PX.at hK hE hP hS hU hW⟩⟩ rfl rfl hl.1 rfl (lv_room (Nat.le_of_ble_eq_true rfl)) dX11_order_26 ⟨Nat.le_of_ble_eq_true rfl, Nat.le_of_ble_eq_true rfl⟩) hS (fun q _ h => (freeX hS) q h) (freeX hS) (fun r4427 u t H1 locs ht hvm hw hB hz1 hk1 hS => ?_)
      unfold BX at hB
      rw [ht] at hB
      obtain ⟨v4428, F4429, rc9⟩ := u
      obtain ⟨hI, hal9, hrc, hf4430, hw⟩ := hw
      dsimp only at hI hal9 hrc hB hf4430 hw
      rw [hrc] at hB
      have hq4431 := hal9
      have hP : va_P (dC, dI) classes (wX g c v4428 F4429 rc) H1 := hB
      generalize H1 = H at hP hS ⊢
      have rr_r4427 := i32_rng r4427
      have hP9 : va_P (dC, dI) classes (wX g c v4428 F4429 rc) H := hP
      exact W.iret (v := r4427) hx hb hr (fun t ht hW => ⟨⟨r4427, (v4428, F4429, rc), rfl, ⟨hI, (Or.inr ⟨by omega, hq4431⟩), rfl, (frC (by decide) hf4430 (fun _ _ => rfl)), trivial⟩, (by show va_P _ _ _ t.heap; rw [ht]; exact hP9)⟩, hS.F ht⟩) hS.2.2 dX11_order_29
    · skip
      have t4432 := cv_eq (a := r4424.toInt) rfl (b := 0) (by decide) c4425
      refine lv_iconst (v := (-1)) hx hb dX11_order_18 (by decide) ?_
      have hP9 : va_P (dC, dI) classes (wX g c v F rc) H := hP
      exact W.iret (v := (-1)) hx hb hr (fun t ht hW => ⟨⟨(-1), (v, F, rc), rfl, ⟨hI, (Or.inl ⟨by omega, by decide, hal⟩), rfl, (fun _ _ => rfl), trivial⟩, (by show va_P _ _ _ t.heap; rw [ht]; exact hP9)⟩, hS.F ht⟩) hS.2.2 dX11_order_19
set_option maxHeartbeats 8000000 in
set_option maxRecDepth 100000 in
theorem c_X8_addLink_x (l : Launch) (dC : Nat → ClassId) (dI : Nat → Nat → Nat) (g : Nat → Nat) (c : Nat → ClassId) (adK adV : Nat → Nat) (v : Nat → Int32) (F : Nat → Nat → Int32) (rc sz : Nat) (p0 : Int32) (p1 : Int32) (hg : injX g) (hI : IX v F) (h0 : 0 ≤ p0.toInt ∧ p0.toInt ≤ 9) : Met l yX8_addLink (Cond.code yX8_addLink cX8_addLink 3 (some .int) :: wA) ({ frames := 1, cells := 0, slots := 0, locals := 40 }) (va_Pc [.ref (g 2), .int p0, .int p1] (PX dC dI g c adK adV v F rc sz)) (va_Qi (fun (r : Int32) (u : StX) => IX u.1 u.2.1 ∧ ((4 ≤ (F 20 p0.toNatClampNeg).toInt ∧ r.toInt = -3 ∧ alX u.1 u.2.1 = alX v F) ∨ ((F 20 p0.toNatClampNeg).toInt < 4 ∧ r.toInt = (F 20 p0.toNatClampNeg).toInt + 1 ∧ exL (fun (j : Nat) (x : Int32) => (j : Int) = 4 * p0.toInt + (F 20 p0.toNatClampNeg).toInt ∧ x.toInt = (F 20 p0.toNatClampNeg).toInt + 1 ∧ alX u.1 u.2.1 = alXS4 (alXS5 (alX v F) (upd (F 21) j p1)) (upd (F 20) p0.toNatClampNeg x)))) ∧ u.2.2 = rc ∧ (∀ k, k ∉ ([] : List Nat) → u.1 k = v k) ∧ True) (BX dC dI g c) (AX g sz)) 0 0 (AX g sz) := by
  refine Met.ofW (cc := cX8_addLink) (maxL := 3) (ret := (some .int)) (by decide) rfl ?_
  intro p e s m args below meth c0 s₁ B hml hv
  obtain ⟨rfl, hsz, hP, hK, hE⟩ := hv
  have hx := B.exec
  have hb := B.bytes
  have hr := B.returns
  have hts := atoms_spec (ws := Cond.code yX8_addLink cX8_addLink 3 (some .int) :: wA) B.pre
  have hwd : ∀ w ∈ wA, w.before _ s = true := fun w h => hts w (List.mem_cons_of_mem _ h)
  have hown : s.vm.findClass RX8 = some m.cls := findClass_of_methodNamed B.named
  have hlocks := B.notSynchronized
  subst hsz
  have hl := lv_entry ([.ref (g 2), .int p0, .int p1]) (n := 3) (Nat.le_of_ble_eq_true rfl)
  rw [lg_entry_eq]
  generalize (lg_sl ([.ref (g 2), .int p0, .int p1]) ++ List.replicate (3 - (lg_sl ([.ref (g 2), .int p0, .int p1])).length) Slot.unset).toArray = ls at hl ⊢
  have hl : lv_has ls 3 [(0, .ref (g 2)), (1, .int p0), (2, .int p1)] := hl
  obtain ⟨H, eH⟩ : ∃ z, z = s.heap := ⟨_, rfl⟩
  have hP : va_P (dC, dI) classes (wX g c v F rc) H := by rw [eH]; exact hP
  have hS : va_S (AX g s.heap.size) s.heap H [] := by rw [eH]; exact va_S.rf
  refine my_heap eH ?_
  have hal : alX v F = alX v F := rfl
  have rp0 := i32_rng p0
  have rp1 := i32_rng p1
  refine lv_aload_n hx hb dX8_addLink_0 rfl (lv_at hl 0 rfl) ?_
  refine va_get (D := (dC, dI)) (ci := 8) (v := .ref (g 20)) (C := RX8) (T := TX8) (N := 10) hx hb hwd inA_X8 hown hK hP 2 rfl rfl 6 (by decide) (hwd _ wk_73) (fun _ h9 => h9) rfl dX8_addLink_1 ?_
  refine lv_iload_n hx hb dX8_addLink_4 rfl (lv_at hl 1 rfl) ?_
  refine va_iald hx hb hK hP 20 8 rfl rfl (i := p0) (vin (a := p0.toInt) rfl (by omega)) dX8_addLink_5 ?_
  refine lv_topi (fun z4433 e4434 => ?_)
  have t4435 : 0 ≤ z4433.toInt ∧ z4433.toInt ≤ 4 := by rw [e4434]; exact hI.2 20 _ _ rfl _
  refine lv_iconst (v := 4) hx hb dX8_addLink_6 (by decide) ?_
  refine lv_icmp_lt (tgt := 13) hx hb dX8_addLink_7 (by decide) (fun c4436 => ?_) (fun c4436 => ?_)
  · skip
    have t4437 := cv_lt (a := z4433.toInt) rfl (b := 4) (by decide) c4436
    refine lv_aload_n hx hb dX8_addLink_13 rfl (lv_at hl 0 rfl) ?_
    refine va_get (D := (dC, dI)) (ci := 8) (v := .ref (g 21)) (C := RX8) (T := TX8) (N := 10) hx hb hwd inA_X8 hown hK hP 2 rfl rfl 7 (by decide) (hwd _ wk_74) (fun _ h9 => h9) rfl dX8_addLink_14 ?_
    refine lv_iload_n hx hb dX8_addLink_17 rfl (lv_at hl 1 rfl) ?_
    refine lv_iconst (v := 4) hx hb dX8_addLink_18 (by decide) ?_
    refine lv_imul hx hb dX8_addLink_19 ?_
    refine lv_topi (fun z4438 e4439 => ?_)
    try (have t4440 := tmul e4439 (a := p0.toInt) rfl (b := 4) (by decide) (by omega))
    refine lv_aload_n hx hb dX8_addLink_20 rfl (lv_at hl 0 rfl) ?_
    refine va_get (D := (dC, dI)) (ci := 8) (v := .ref (g 20)) (C := RX8) (T := TX8) (N := 10) hx hb hwd inA_X8 hown hK hP 2 rfl rfl 6 (by decide) (hwd _ wk_73) (fun _ h9 => h9) rfl dX8_addLink_21 ?_
    refine lv_iload_n hx hb dX8_addLink_24 rfl (lv_at hl 1 rfl) ?_
    refine va_iald hx hb hK hP 20 8 rfl rfl (i := p0) (vin (a := p0.toInt) rfl (by omega)) dX8_addLink_25 ?_
    refine lv_topi (fun z4441 e4442 => ?_)
    have t4443 := congrArg Int32.toInt ((show z4441 = F 20 (p0 : Int32).toNatClampNeg from e4442).trans (show z4433 = F 20 (p0 : Int32).toNatClampNeg from e4434).symm)
    have t4444 : 0 ≤ z4441.toInt ∧ z4441.toInt ≤ 4 := by rw [e4442]; exact hI.2 20 _ _ rfl _
    refine lv_iadd hx hb dX8_addLink_26 ?_
    refine lv_topi (fun z4445 e4446 => ?_)
    try (have t4447 := tadd e4446 (a := z4438.toInt) rfl (b := z4441.toInt) rfl (by omega))
    refine lv_iload_n hx hb dX8_addLink_27 rfl (lv_at hl 2 rfl) ?_
    refine va_iast hx hb hK hP (DX hg) hS 21 9 rfl rfl (i := z4445) (x := p1) (vin (a := z4445.toInt) rfl (by omega)) dX8_addLink_28 (fun H locs hP _ hS => ?_)
    have hP := va_P_eq (sX_21 g c _ _ _ _) hP
    have hI := IX.store0 hI 21 (z4445 : Int32).toNatClampNeg p1 rfl
    have hal := (alX_s5 _ _ (upd (F 21) (z4445 : Int32).toNatClampNeg p1)).trans (congrArg (fun t => alXS5 t (upd (F 21) (z4445 : Int32).toNatClampNeg p1)) hal)
    have hP : va_P (dC, dI) classes (wX g c v (va_up F 21 (upd (F 21) (z4445 : Int32).toNatClampNeg p1)) rc) H := hP
    refine lv_aload_n hx hb dX8_addLink_29 rfl (lv_at hl 0 rfl) ?_
    refine va_get (D := (dC, dI)) (ci := 8) (v := .ref (g 20)) (C := RX8) (T := TX8) (N := 10) hx hb hwd inA_X8 hown hK hP 2 rfl rfl 6 (by decide) (hwd _ wk_73) (fun _ h9 => h9) rfl dX8_addLink_30 ?_
    refine lv_iload_n hx hb dX8_addLink_33 rfl (lv_at hl 1 rfl) ?_
    refine lv_dup2_11 hx hb dX8_addLink_34 rfl rfl ?_
    refine va_iald hx hb hK hP 20 8 rfl rfl (i := p0) (vin (a := p0.toInt) rfl (by omega)) dX8_addLink_35 ?_
    refine lv_topi (fun z4448 e4449 => ?_)
    have t4450 := congrArg Int32.toInt ((show z4448 = F 20 (p0 : Int32).toNatClampNeg from e4449).trans (show z4433 = F 20 (p0 : Int32).toNatClampNeg from e4434).symm)
    have t4451 : 0 ≤ z4448.toInt ∧ z4448.toInt ≤ 4 := by rw [e4449]; exact hI.2 20 _ _ rfl _
    refine lv_iconst (v := 1) hx hb dX8_addLink_36 (by decide) ?_
    refine lv_iadd hx hb dX8_addLink_37 ?_
    refine lv_topi (fun z4452 e4453 => ?_)
    try (have t4454 := tadd e4453 (a := z4448.toInt) rfl (b := 1) (by decide) (by omega))
    refine va_iast hx hb hK hP (DX hg) hS 20 8 rfl rfl (i := p0) (x := z4452) (vin (a := p0.toInt) rfl (by omega)) dX8_addLink_38 (fun H locs hP _ hS => ?_)
    have hP := va_P_eq (sX_20 g c _ _ _ _) hP
    have hI := IX.store hI 20 (p0 : Int32).toNatClampNeg z4452 rfl (by omega)
    have hal := (alX_s4 _ _ (upd ((va_up F 21 (upd (F 21) (z4445 : Int32).toNatClampNeg p1)) 20) (p0 : Int32).toNatClampNeg z4452)).trans (congrArg (fun t => alXS4 t (upd ((va_up F 21 (upd (F 21) (z4445 : Int32).toNatClampNeg p1)) 20) (p0 : Int32).toNatClampNeg z4452)) hal)
    have hP : va_P (dC, dI) classes (wX g c v (va_up (va_up F 21 (upd (F 21) (z4445 : Int32).toNatClampNeg p1)) 20 (upd ((va_up F 21 (upd (F 21) (z4445 : Int32).toNatClampNeg p1)) 20) (p0 : Int32).toNatClampNeg z4452)) rc) H := hP
    refine lv_aload_n hx hb dX8_addLink_39 rfl (lv_at hl 0 rfl) ?_
    refine va_get (D := (dC, dI)) (ci := 8) (v := .ref (g 20)) (C := RX8) (T := TX8) (N := 10) hx hb hwd inA_X8 hown hK hP 2 rfl rfl 6 (by decide) (hwd _ wk_73) (fun _ h9 => h9) rfl dX8_addLink_40 ?_
    refine lv_iload_n hx hb dX8_addLink_43 rfl (lv_at hl 1 rfl) ?_
    refine va_iald hx hb hK hP 20 8 rfl rfl (i := p0) (vin (a := p0.toInt) rfl (by omega)) dX8_addLink_44 ?_
    refine lv_topi (fun z4455 e4456 => ?_)
    have t4457 : 0 ≤ z4455.toInt ∧ z4455.toInt ≤ 4 := by rw [e4456]; exact hI.2 20 _ _ rfl _
    have hP9 : va_P (dC, dI) classes (wX g c v (va_up (va_up F 21 (upd (F 21) (z4445 : Int32).toNatClampNeg p1)) 20 (upd ((va_up F 21 (upd (F 21) (z4445 : Int32).toNatClampNeg p1)) 20) (p0 : Int32).toNatClampNeg z4452)) rc) H := hP
    exact W.iret (v := z4455) hx hb hr (fun t ht hW => ⟨⟨z4455, (v, (va_up (va_up F 21 (upd (F 21) (z4445 : Int32).toNatClampNeg p1)) 20 (upd ((va_up F 21 (upd (F 21) (z4445 : Int32).toNatClampNeg p1)) 20) (p0 : Int32).toNatClampNeg z4452)), rc), rfl, ⟨hI, (Or.inr ⟨by have a1 : z4433.toInt = (F 20 p0.toNatClampNeg).toInt := congrArg Int32.toInt e4434; omega, by have a1 : z4433.toInt = (F 20 p0.toNatClampNeg).toInt := congrArg Int32.toInt e4434; have a3 : z4448.toInt = (F 20 p0.toNatClampNeg).toInt := congrArg Int32.toInt (e4449.trans (show _ = F 20 _ from rfl)); have a4 : z4455 = z4452 := e4456.trans (by simp [va_up, upd]); rw [a4]; omega, z4445.toNatClampNeg, z4452, by have a1 : z4433.toInt = (F 20 p0.toNatClampNeg).toInt := congrArg Int32.toInt e4434; have a2 : z4441.toInt = (F 20 p0.toNatClampNeg).toInt := congrArg Int32.toInt e4442; have a9 : ((z4445.toNatClampNeg : Nat) : Int) = z4445.toInt := (by show ((z4445.toInt.toNat : Nat) : Int) = _; omega); omega, by have a1 : z4433.toInt = (F 20 p0.toNatClampNeg).toInt := congrArg Int32.toInt e4434; have a3 : z4448.toInt = (F 20 p0.toNatClampNeg).toInt := congrArg Int32.toInt (e4449.trans (show _ = F 20 _ from rfl)); omega, hal⟩), rfl, (fun _ _ => rfl), trivial⟩, (by show va_P _ _ _ t.heap; rw [ht]; exact hP9)⟩, hS.F ht⟩) hS.2.2 dX8_addLink_45
  · skip
    have t4458 := cv_nlt (a := z4433.toInt) rfl (b := 4) (by decide) c4436
    refine lv_bipush (v := (-3)) hx hb dX8_addLink_10 (by decide) ?_
    have hP9 : va_P (dC, dI) classes (wX g c v F rc) H := hP
    exact W.iret (v := (-3)) hx hb hr (fun t ht hW => ⟨⟨(-3), (v, F, rc), rfl, ⟨hI, (Or.inl ⟨by have a1 : z4433.toInt = (F 20 p0.toNatClampNeg).toInt := congrArg Int32.toInt e4434; omega, by decide, hal⟩), rfl, (fun _ _ => rfl), trivial⟩, (by show va_P _ _ _ t.heap; rw [ht]; exact hP9)⟩, hS.F ht⟩) hS.2.2 dX8_addLink_12
set_option maxHeartbeats 8000000 in
set_option maxRecDepth 100000 in
theorem c_X11_link_x (l : Launch) (dC : Nat → ClassId) (dI : Nat → Nat → Nat) (g : Nat → Nat) (c : Nat → ClassId) (adK adV : Nat → Nat) (v : Nat → Int32) (F : Nat → Nat → Int32) (rc sz : Nat) (p0 : Int32) (p1 : Int32) (p2 : Int32) (hg : injX g) (hI : IX v F) : Met l yX11_link (Cond.code yX11_link cX11_link 4 (some .int) :: wA) ({ frames := 3, cells := 0, slots := 0, locals := 120 }) (va_Pc [.ref (g 0), .int p0, .int p1, .int p2] (PX dC dI g c adK adV v F rc sz)) (va_Qi (fun (r : Int32) (u : StX) => IX u.1 u.2.1 ∧ ((¬ ((0 ≤ p0.toInt ∧ p0.toInt < (v 40).toInt) ∧ (0 ≤ p1.toInt ∧ p1.toInt ≤ 9) ∧ (0 ≤ p2.toInt ∧ p2.toInt ≤ 99999)) ∧ r.toInt = -1 ∧ alX u.1 u.2.1 = alX v F) ∨ (((0 ≤ p0.toInt ∧ p0.toInt < (v 40).toInt) ∧ (0 ≤ p1.toInt ∧ p1.toInt ≤ 9) ∧ (0 ≤ p2.toInt ∧ p2.toInt ≤ 99999)) ∧ ((4 ≤ (F 20 p0.toNatClampNeg).toInt ∧ r.toInt = -3 ∧ alX u.1 u.2.1 = alX v F) ∨ ((F 20 p0.toNatClampNeg).toInt < 4 ∧ r.toInt = (F 20 p0.toNatClampNeg).toInt + 1 ∧ exL (fun (j : Nat) (x : Int32) => (j : Int) = 4 * p0.toInt + (F 20 p0.toNatClampNeg).toInt ∧ x.toInt = (F 20 p0.toNatClampNeg).toInt + 1 ∧ alX u.1 u.2.1 = alXS4 (alXS5 (alX v F) (upd (F 21) j p2)) (upd (F 20) p0.toNatClampNeg x)))))) ∧ u.2.2 = rc ∧ (∀ k, k ∉ ([] : List Nat) → u.1 k = v k) ∧ True) (BX dC dI g c) (AX g sz)) 0 0 (AX g sz) := by
  refine Met.ofW (cc := cX11_link) (maxL := 4) (ret := (some .int)) (by decide) rfl ?_
  intro p e s m args below meth c0 s₁ B hml hv
  obtain ⟨rfl, hsz, hP, hK, hE⟩ := hv
  have hx := B.exec
  have hb := B.bytes
  have hr := B.returns
  have hts := atoms_spec (ws := Cond.code yX11_link cX11_link 4 (some .int) :: wA) B.pre
  have hwd : ∀ w ∈ wA, w.before _ s = true := fun w h => hts w (List.mem_cons_of_mem _ h)
  have hown : s.vm.findClass RX11 = some m.cls := findClass_of_methodNamed B.named
  have hlocks := B.notSynchronized
  subst hsz
  have hl := lv_entry ([.ref (g 0), .int p0, .int p1, .int p2]) (n := 4) (Nat.le_of_ble_eq_true rfl)
  rw [lg_entry_eq]
  generalize (lg_sl ([.ref (g 0), .int p0, .int p1, .int p2]) ++ List.replicate (4 - (lg_sl ([.ref (g 0), .int p0, .int p1, .int p2])).length) Slot.unset).toArray = ls at hl ⊢
  have hl : lv_has ls 4 [(0, .ref (g 0)), (1, .int p0), (2, .int p1), (3, .int p2)] := hl
  obtain ⟨H, eH⟩ : ∃ z, z = s.heap := ⟨_, rfl⟩
  have hP : va_P (dC, dI) classes (wX g c v F rc) H := by rw [eH]; exact hP
  have hS : va_S (AX g s.heap.size) s.heap H [] := by rw [eH]; exact va_S.rf
  refine my_heap eH ?_
  have hal : alX v F = alX v F := rfl
  have rp0 := i32_rng p0
  have rp1 := i32_rng p1
  have rp2 := i32_rng p2
  have hbs : 0 ≤ (v 40).toInt ∧ (v 40).toInt ≤ 10 := hI.1 40 _ _ rfl
  refine lv_aload_n hx hb dX11_link_0 rfl (lv_at hl 0 rfl) ?_
  refine va_get (D := (dC, dI)) (ci := 11) (v := .ref (g 2)) (C := RX11) (T := TX11) (N := 14) hx hb hwd inA_X11 hown hK hP 0 rfl rfl 1 (by decide) (hwd _ wk_19) (fun _ h9 => h9) rfl dX11_link_1 ?_
  refine lv_iload_n hx hb dX11_link_4 rfl (lv_at hl 1 rfl) ?_
  refine va_calli (va_runV (As := [.int p0]) (rest := []) ⟨hx, hb, hml, hown, hwd⟩ (c_X8_has_x l dC dI g c adK adV v F rc H.size p0 hg hI ) (cwV 1 hwd (gV wk_276 wk_273 wk_274 wk_275 wk_18) rfl rfl rfl (by decide +kernel) ⟨Nat.le_of_ble_eq_true rfl, Nat.le_of_ble_eq_true rfl⟩) ⟨PX.blind, va_recv hK hP (ci := 8) (q0 := 2) rfl rfl, fun U hU hW => ⟨rfl, PX.at hK hE hP hS hU hW⟩⟩ rfl rfl hl.1 rfl (lv_room (Nat.le_of_ble_eq_true rfl)) dX11_link_5 ⟨Nat.le_of_ble_eq_true rfl, Nat.le_of_ble_eq_true rfl⟩) hS (fun q _ h => (freeX hS) q h) (freeX hS) (fun r4459 u t H1 locs ht hvm hw hB hz1 hk1 hS => ?_)
  unfold BX at hB
  rw [ht] at hB
  have hP : va_P (dC, dI) classes (wX g c v F rc) H1 := hB
  have hw : (r4459.toInt = 1 ∧ 0 ≤ p0.toInt ∧ p0.toInt < (v 40).toInt) ∨ (r4459.toInt = 0 ∧ (p0.toInt < 0 ∨ (v 40).toInt ≤ p0.toInt)) := hw
  generalize H1 = H at hP hS ⊢
  have hw_r4459 := hw
  refine lv_if_eq (tgt := 28) hx hb dX11_link_8 (by decide) (fun c4460 => ?_) (fun c4460 => ?_)
  · skip
    have t4461 := cv_eq (a := r4459.toInt) rfl (b := 0) (by decide) c4460
    refine lv_iconst (v := (-1)) hx hb dX11_link_28 (by decide) ?_
    have hP9 : va_P (dC, dI) classes (wX g c v F rc) H := hP
    exact W.iret (v := (-1)) hx hb hr (fun t ht hW => ⟨⟨(-1), (v, F, rc), rfl, ⟨hI, (Or.inl ⟨by omega, by decide, hal⟩), rfl, (fun _ _ => rfl), trivial⟩, (by show va_P _ _ _ t.heap; rw [ht]; exact hP9)⟩, hS.F ht⟩) hS.2.2 dX11_link_29
  · skip
    have t4462 := cv_ne (a := r4459.toInt) rfl (b := 0) (by decide) c4460
    refine lv_iload_n hx hb dX11_link_11 rfl (lv_at hl 2 rfl) ?_
    refine lv_iconst (v := 0) hx hb dX11_link_12 (by decide) ?_
    refine lv_bipush (v := 9) hx hb dX11_link_13 (by decide) ?_
    refine va_calli (va_runS (As := [.int p1, .int 0, .int 9]) (rest := []) ⟨hx, hb, hml, hown, hwd⟩ (c_X11_within l dC dI g c adK adV v F rc H.size p1 0 9 hg hI ) (va_cwS 3 hwd (gT wk_239 wk_237 wk_238 wk_2) rfl rfl rfl (by decide +kernel) ⟨Nat.le_of_ble_eq_true rfl, Nat.le_of_ble_eq_true rfl⟩) ⟨PX.blind, fun U hU hW => ⟨rfl, PX.at hK hE hP hS hU hW⟩⟩ rfl rfl hl.1 rfl (lv_room (Nat.le_of_ble_eq_true rfl)) dX11_link_15 ⟨Nat.le_of_ble_eq_true rfl, Nat.le_of_ble_eq_true rfl⟩) hS (fun q _ h => (freeX hS) q h) (freeX hS) (fun r4463 u t H1 locs ht hvm hw hB hz1 hk1 hS => ?_)
    unfold BX at hB
    rw [ht] at hB
    have hP : va_P (dC, dI) classes (wX g c v F rc) H1 := hB
    have hw : (r4463.toInt = 1 ∧ (0 : Int32).toInt ≤ p1.toInt ∧ p1.toInt ≤ (9 : Int32).toInt) ∨ (r4463.toInt = 0 ∧ (p1.toInt < (0 : Int32).toInt ∨ (9 : Int32).toInt < p1.toInt)) := hw
    have k4464 : (0 : Int32).toInt = 0 := by decide
    have k4465 : (9 : Int32).toInt = 9 := by decide
    generalize H1 = H at hP hS ⊢
    have hw_r4463 := hw
    refine lv_if_eq (tgt := 28) hx hb dX11_link_18 (by decide) (fun c4466 => ?_) (fun c4466 => ?_)
    · skip
      have t4467 := cv_eq (a := r4463.toInt) rfl (b := 0) (by decide) c4466
      refine lv_iconst (v := (-1)) hx hb dX11_link_28 (by decide) ?_
      have hP9 : va_P (dC, dI) classes (wX g c v F rc) H := hP
      exact W.iret (v := (-1)) hx hb hr (fun t ht hW => ⟨⟨(-1), (v, F, rc), rfl, ⟨hI, (Or.inl ⟨by omega, by decide, hal⟩), rfl, (fun _ _ => rfl), trivial⟩, (by show va_P _ _ _ t.heap; rw [ht]; exact hP9)⟩, hS.F ht⟩) hS.2.2 dX11_link_29
    · skip
      have t4468 := cv_ne (a := r4463.toInt) rfl (b := 0) (by decide) c4466
      refine lv_iload_n hx hb dX11_link_21 rfl (lv_at hl 3 rfl) ?_
      refine va_calli (va_runS (As := [.int p2]) (rest := []) ⟨hx, hb, hml, hown, hwd⟩ (c_X11_isTold l dC dI g c adK adV v F rc H.size p2 hg hI ) (va_cwS 1 hwd (gT wk_235 wk_233 wk_234 wk_2) rfl rfl rfl (by decide +kernel) ⟨Nat.le_of_ble_eq_true rfl, Nat.le_of_ble_eq_true rfl⟩) ⟨PX.blind, fun U hU hW => ⟨rfl, PX.at hK hE hP hS hU hW⟩⟩ rfl rfl hl.1 rfl (lv_room (Nat.le_of_ble_eq_true rfl)) dX11_link_22 ⟨Nat.le_of_ble_eq_true rfl, Nat.le_of_ble_eq_true rfl⟩) hS (fun q _ h => (freeX hS) q h) (freeX hS) (fun r4469 u t H1 locs ht hvm hw hB hz1 hk1 hS => ?_)
      unfold BX at hB
      rw [ht] at hB
      have hP : va_P (dC, dI) classes (wX g c v F rc) H1 := hB
      have hw : (r4469.toInt = 1 ∧ 0 ≤ p2.toInt ∧ p2.toInt ≤ 99999) ∨ (r4469.toInt = 0 ∧ (p2.toInt < 0 ∨ 99999 < p2.toInt)) := hw
      generalize H1 = H at hP hS ⊢
      have hw_r4469 := hw
      refine lv_if_ne (tgt := 30) hx hb dX11_link_25 (by decide) (fun c4470 => ?_) (fun c4470 => ?_)
      · skip
        have t4471 := cv_ne (a := r4469.toInt) rfl (b := 0) (by decide) c4470
        refine lv_aload_n hx hb dX11_link_30 rfl (lv_at hl 0 rfl) ?_
        refine va_get (D := (dC, dI)) (ci := 11) (v := .ref (g 2)) (C := RX11) (T := TX11) (N := 14) hx hb hwd inA_X11 hown hK hP 0 rfl rfl 1 (by decide) (hwd _ wk_19) (fun _ h9 => h9) rfl dX11_link_31 ?_
        refine lv_iload_n hx hb dX11_link_34 rfl (lv_at hl 1 rfl) ?_
        refine lv_iload_n hx hb dX11_link_35 rfl (lv_at hl 3 rfl) ?_
        refine va_calli (va_runV (As := [.int p0, .int p2]) (rest := []) ⟨hx, hb, hml, hown, hwd⟩ (c_X8_addLink_x l dC dI g c adK adV v F rc H.size p0 p2 hg hI (by omega)) (cwV 2 hwd (gV wk_1399 wk_1396 wk_1397 wk_1398 wk_18) rfl rfl rfl (by decide +kernel) ⟨Nat.le_of_ble_eq_true rfl, Nat.le_of_ble_eq_true rfl⟩) ⟨PX.blind, va_recv hK hP (ci := 8) (q0 := 2) rfl rfl, fun U hU hW => ⟨rfl, PX.at hK hE hP hS hU hW⟩⟩ rfl rfl hl.1 rfl (lv_room (Nat.le_of_ble_eq_true rfl)) dX11_link_36 ⟨Nat.le_of_ble_eq_true rfl, Nat.le_of_ble_eq_true rfl⟩) hS (fun q _ h => (freeX hS) q h) (freeX hS) (fun r4472 u t H1 locs ht hvm hw hB hz1 hk1 hS => ?_)
        unfold BX at hB
        rw [ht] at hB
        obtain ⟨v4473, F4474, rc9⟩ := u
        obtain ⟨hI, hal9, hrc, hf4475, hw⟩ := hw
        dsimp only at hI hal9 hrc hB hf4475 hw
        rw [hrc] at hB
        have hq4476 := hal9
        have hP : va_P (dC, dI) classes (wX g c v4473 F4474 rc) H1 := hB
        generalize H1 = H at hP hS ⊢
        have rr_r4472 := i32_rng r4472
        have hP9 : va_P (dC, dI) classes (wX g c v4473 F4474 rc) H := hP
        exact W.iret (v := r4472) hx hb hr (fun t ht hW => ⟨⟨r4472, (v4473, F4474, rc), rfl, ⟨hI, (Or.inr ⟨by omega, hq4476⟩), rfl, (frC (by decide) hf4475 (fun _ _ => rfl)), trivial⟩, (by show va_P _ _ _ t.heap; rw [ht]; exact hP9)⟩, hS.F ht⟩) hS.2.2 dX11_link_39
      · skip
        have t4477 := cv_eq (a := r4469.toInt) rfl (b := 0) (by decide) c4470
        refine lv_iconst (v := (-1)) hx hb dX11_link_28 (by decide) ?_
        have hP9 : va_P (dC, dI) classes (wX g c v F rc) H := hP
        exact W.iret (v := (-1)) hx hb hr (fun t ht hW => ⟨⟨(-1), (v, F, rc), rfl, ⟨hI, (Or.inl ⟨by omega, by decide, hal⟩), rfl, (fun _ _ => rfl), trivial⟩, (by show va_P _ _ _ t.heap; rw [ht]; exact hP9)⟩, hS.F ht⟩) hS.2.2 dX11_link_29
set_option maxHeartbeats 8000000 in
set_option maxRecDepth 100000 in
theorem c_X8_linkRent_x (l : Launch) (dC : Nat → ClassId) (dI : Nat → Nat → Nat) (g : Nat → Nat) (c : Nat → ClassId) (adK adV : Nat → Nat) (v : Nat → Int32) (F : Nat → Nat → Int32) (rc sz : Nat) (p0 : Int32) (p1 : Int32) (hg : injX g) (hI : IX v F) (h0 : 0 ≤ p0.toInt ∧ p0.toInt ≤ 9) : Met l yX8_linkRent (Cond.code yX8_linkRent cX8_linkRent 3 (some .int) :: wA) ({ frames := 1, cells := 0, slots := 0, locals := 40 }) (va_Pc [.ref (g 2), .int p0, .int p1] (PX dC dI g c adK adV v F rc sz)) (va_Qi (fun (r : Int32) (u : Unit) => r = lrF (F 20) (F 21) p0 p1) (fun (_ : Unit) => BX dC dI g c (v, F, rc)) (AX g sz)) 0 0 (AX g sz) := by
  refine Met.ofW (cc := cX8_linkRent) (maxL := 3) (ret := (some .int)) (by decide) rfl ?_
  intro p e s m args below meth c0 s₁ B hml hv
  obtain ⟨rfl, hsz, hP, hK, hE⟩ := hv
  have hx := B.exec
  have hb := B.bytes
  have hr := B.returns
  have hts := atoms_spec (ws := Cond.code yX8_linkRent cX8_linkRent 3 (some .int) :: wA) B.pre
  have hwd : ∀ w ∈ wA, w.before _ s = true := fun w h => hts w (List.mem_cons_of_mem _ h)
  have hown : s.vm.findClass RX8 = some m.cls := findClass_of_methodNamed B.named
  have hlocks := B.notSynchronized
  subst hsz
  have hl := lv_entry ([.ref (g 2), .int p0, .int p1]) (n := 3) (Nat.le_of_ble_eq_true rfl)
  rw [lg_entry_eq]
  generalize (lg_sl ([.ref (g 2), .int p0, .int p1]) ++ List.replicate (3 - (lg_sl ([.ref (g 2), .int p0, .int p1])).length) Slot.unset).toArray = ls at hl ⊢
  have hl : lv_has ls 3 [(0, .ref (g 2)), (1, .int p0), (2, .int p1)] := hl
  obtain ⟨H, eH⟩ : ∃ z, z = s.heap := ⟨_, rfl⟩
  have hP : va_P (dC, dI) classes (wX g c v F rc) H := by rw [eH]; exact hP
  have hS : va_S (AX g s.heap.size) s.heap H [] := by rw [eH]; exact va_S.rf
  refine my_heap eH ?_
  have rp0 := i32_rng p0
  have rp1 := i32_rng p1
  refine lv_iload_n hx hb dX8_linkRent_0 rfl (lv_at hl 2 rfl) ?_
  refine lv_if_lt (tgt := 27) hx hb dX8_linkRent_1 (by decide) (fun c4478 => ?_) (fun c4478 => ?_)
  · skip
    have t4479 := cv_lt (a := p1.toInt) rfl (b := 0) (by decide) c4478
    refine lv_iconst (v := 0) hx hb dX8_linkRent_27 (by decide) ?_
    have hP9 : va_P (dC, dI) classes (wX g c v F rc) H := hP
    exact W.iret (v := 0) hx hb hr (fun t ht hW => ⟨⟨0, (), rfl, (by exact (lr_out (by omega)).symm), (by show va_P _ _ _ t.heap; rw [ht]; exact hP9)⟩, hS.F ht⟩) hS.2.2 dX8_linkRent_28
  · skip
    have t4480 := cv_nlt (a := p1.toInt) rfl (b := 0) (by decide) c4478
    refine lv_iload_n hx hb dX8_linkRent_4 rfl (lv_at hl 2 rfl) ?_
    refine lv_aload_n hx hb dX8_linkRent_5 rfl (lv_at hl 0 rfl) ?_
    refine va_get (D := (dC, dI)) (ci := 8) (v := .ref (g 20)) (C := RX8) (T := TX8) (N := 10) hx hb hwd inA_X8 hown hK hP 2 rfl rfl 6 (by decide) (hwd _ wk_73) (fun _ h9 => h9) rfl dX8_linkRent_6 ?_
    refine lv_iload_n hx hb dX8_linkRent_9 rfl (lv_at hl 1 rfl) ?_
    refine va_iald hx hb hK hP 20 8 rfl rfl (i := p0) (vin (a := p0.toInt) rfl (by omega)) dX8_linkRent_10 ?_
    refine lv_topi (fun z4481 e4482 => ?_)
    have t4483 : 0 ≤ z4481.toInt ∧ z4481.toInt ≤ 4 := by rw [e4482]; exact hI.2 20 _ _ rfl _
    refine lv_icmp_ge (tgt := 27) hx hb dX8_linkRent_11 (by decide) (fun c4484 => ?_) (fun c4484 => ?_)
    · skip
      have t4485 := cv_le (a := z4481.toInt) rfl (b := p1.toInt) rfl c4484
      refine lv_iconst (v := 0) hx hb dX8_linkRent_27 (by decide) ?_
      have hP9 : va_P (dC, dI) classes (wX g c v F rc) H := hP
      exact W.iret (v := 0) hx hb hr (fun t ht hW => ⟨⟨0, (), rfl, (by have a_z4481 := congrArg Int32.toInt e4482; exact (lr_out (by omega)).symm), (by show va_P _ _ _ t.heap; rw [ht]; exact hP9)⟩, hS.F ht⟩) hS.2.2 dX8_linkRent_28
    · skip
      have t4486 := cv_nle (a := z4481.toInt) rfl (b := p1.toInt) rfl c4484
      refine lv_aload_n hx hb dX8_linkRent_14 rfl (lv_at hl 0 rfl) ?_
      refine va_get (D := (dC, dI)) (ci := 8) (v := .ref (g 21)) (C := RX8) (T := TX8) (N := 10) hx hb hwd inA_X8 hown hK hP 2 rfl rfl 7 (by decide) (hwd _ wk_74) (fun _ h9 => h9) rfl dX8_linkRent_15 ?_
      refine lv_iload_n hx hb dX8_linkRent_18 rfl (lv_at hl 1 rfl) ?_
      refine lv_iconst (v := 4) hx hb dX8_linkRent_19 (by decide) ?_
      refine lv_imul hx hb dX8_linkRent_20 ?_
      refine lv_topi (fun z4487 e4488 => ?_)
      try (have t4489 := tmul e4488 (a := p0.toInt) rfl (b := 4) (by decide) (by omega))
      refine lv_iload_n hx hb dX8_linkRent_21 rfl (lv_at hl 2 rfl) ?_
      refine lv_iadd hx hb dX8_linkRent_22 ?_
      refine lv_topi (fun z4490 e4491 => ?_)
      try (have t4492 := tadd e4491 (a := z4487.toInt) rfl (b := p1.toInt) rfl (by omega))
      refine va_iald hx hb hK hP 21 9 rfl rfl (i := z4490) (vin (a := z4490.toInt) rfl (by omega)) dX8_linkRent_23 ?_
      refine lv_topi (fun z4493 e4494 => ?_)
      refine lv_goto (tgt := 28) hx hb dX8_linkRent_24 (by decide) ?_
      have hP9 : va_P (dC, dI) classes (wX g c v F rc) H := hP
      exact W.iret (v := z4493) hx hb hr (fun t ht hW => ⟨⟨z4493, (), rfl, (by have a_z4481 := congrArg Int32.toInt e4482; have a_z4493 := congrArg Int32.toInt e4494; exact (lr_in (by omega) e4494 (by omega)).symm), (by show va_P _ _ _ t.heap; rw [ht]; exact hP9)⟩, hS.F ht⟩) hS.2.2 dX8_linkRent_28
set_option maxHeartbeats 8000000 in
set_option maxRecDepth 100000 in
theorem c_X11_net_x (l : Launch) (dC : Nat → ClassId) (dI : Nat → Nat → Nat) (g : Nat → Nat) (c : Nat → ClassId) (adK adV : Nat → Nat) (v : Nat → Int32) (F : Nat → Nat → Int32) (rc sz : Nat) (p0 : Int32) (p1 : Int32) (p2 : Int32) (hg : injX g) (hI : IX v F) : Met l yX11_net (Cond.code yX11_net cX11_net 4 (some .int) :: wA) ({ frames := 2, cells := 0, slots := 0, locals := 80 }) (va_Pc [.ref (g 0), .int p0, .int p1, .int p2] (PX dC dI g c adK adV v F rc sz)) (va_Qi (fun (r : Int32) (u : Unit) => r = netF (F 20) (F 21) (v 40) p0 p1 p2) (fun (_ : Unit) => BX dC dI g c (v, F, rc)) (AX g sz)) 0 0 (AX g sz) := by
  refine Met.ofW (cc := cX11_net) (maxL := 4) (ret := (some .int)) (by decide) rfl ?_
  intro p e s m args below meth c0 s₁ B hml hv
  obtain ⟨rfl, hsz, hP, hK, hE⟩ := hv
  have hx := B.exec
  have hb := B.bytes
  have hr := B.returns
  have hts := atoms_spec (ws := Cond.code yX11_net cX11_net 4 (some .int) :: wA) B.pre
  have hwd : ∀ w ∈ wA, w.before _ s = true := fun w h => hts w (List.mem_cons_of_mem _ h)
  have hown : s.vm.findClass RX11 = some m.cls := findClass_of_methodNamed B.named
  have hlocks := B.notSynchronized
  subst hsz
  have hl := lv_entry ([.ref (g 0), .int p0, .int p1, .int p2]) (n := 4) (Nat.le_of_ble_eq_true rfl)
  rw [lg_entry_eq]
  generalize (lg_sl ([.ref (g 0), .int p0, .int p1, .int p2]) ++ List.replicate (4 - (lg_sl ([.ref (g 0), .int p0, .int p1, .int p2])).length) Slot.unset).toArray = ls at hl ⊢
  have hl : lv_has ls 4 [(0, .ref (g 0)), (1, .int p0), (2, .int p1), (3, .int p2)] := hl
  obtain ⟨H, eH⟩ : ∃ z, z = s.heap := ⟨_, rfl⟩
  have hP : va_P (dC, dI) classes (wX g c v F rc) H := by rw [eH]; exact hP
  have hS : va_S (AX g s.heap.size) s.heap H [] := by rw [eH]; exact va_S.rf
  refine my_heap eH ?_
  have rp0 := i32_rng p0
  have rp1 := i32_rng p1
  have rp2 := i32_rng p2
  have hbs : 0 ≤ (v 40).toInt ∧ (v 40).toInt ≤ 10 := hI.1 40 _ _ rfl
  refine lv_aload_n hx hb dX11_net_0 rfl (lv_at hl 0 rfl) ?_
  refine va_get (D := (dC, dI)) (ci := 11) (v := .ref (g 2)) (C := RX11) (T := TX11) (N := 14) hx hb hwd inA_X11 hown hK hP 0 rfl rfl 1 (by decide) (hwd _ wk_19) (fun _ h9 => h9) rfl dX11_net_1 ?_
  refine lv_iload_n hx hb dX11_net_4 rfl (lv_at hl 1 rfl) ?_
  refine va_calli (va_runV (As := [.int p0]) (rest := []) ⟨hx, hb, hml, hown, hwd⟩ (c_X8_has_x l dC dI g c adK adV v F rc H.size p0 hg hI ) (cwV 1 hwd (gV wk_276 wk_273 wk_274 wk_275 wk_18) rfl rfl rfl (by decide +kernel) ⟨Nat.le_of_ble_eq_true rfl, Nat.le_of_ble_eq_true rfl⟩) ⟨PX.blind, va_recv hK hP (ci := 8) (q0 := 2) rfl rfl, fun U hU hW => ⟨rfl, PX.at hK hE hP hS hU hW⟩⟩ rfl rfl hl.1 rfl (lv_room (Nat.le_of_ble_eq_true rfl)) dX11_net_5 ⟨Nat.le_of_ble_eq_true rfl, Nat.le_of_ble_eq_true rfl⟩) hS (fun q _ h => (freeX hS) q h) (freeX hS) (fun r4495 u t H1 locs ht hvm hw hB hz1 hk1 hS => ?_)
  unfold BX at hB
  rw [ht] at hB
  have hP : va_P (dC, dI) classes (wX g c v F rc) H1 := hB
  have hw : (r4495.toInt = 1 ∧ 0 ≤ p0.toInt ∧ p0.toInt < (v 40).toInt) ∨ (r4495.toInt = 0 ∧ (p0.toInt < 0 ∨ (v 40).toInt ≤ p0.toInt)) := hw
  generalize H1 = H at hP hS ⊢
  have hw_r4495 := hw
  refine lv_if_eq (tgt := 41) hx hb dX11_net_8 (by decide) (fun c4496 => ?_) (fun c4496 => ?_)
  · skip
    have t4497 := cv_eq (a := r4495.toInt) rfl (b := 0) (by decide) c4496
    refine lv_ldc (v := (-2000000000)) hx hb hown (hwd _ wk_56) dX11_net_41 ?_
    have hP9 : va_P (dC, dI) classes (wX g c v F rc) H := hP
    exact W.iret (v := (-2000000000)) hx hb hr (fun t ht hW => ⟨⟨(-2000000000), (), rfl, (by unfold netF; rw [if_neg (by omega)]), (by show va_P _ _ _ t.heap; rw [ht]; exact hP9)⟩, hS.F ht⟩) hS.2.2 dX11_net_43
  · skip
    have t4498 := cv_ne (a := r4495.toInt) rfl (b := 0) (by decide) c4496
    refine lv_iload_n hx hb dX11_net_11 rfl (lv_at hl 3 rfl) ?_
    refine lv_iconst (v := 1) hx hb dX11_net_12 (by decide) ?_
    refine lv_sipush (v := 999) hx hb dX11_net_13 (by decide) ?_
    refine va_calli (va_runS (As := [.int p2, .int 1, .int 999]) (rest := []) ⟨hx, hb, hml, hown, hwd⟩ (c_X11_within l dC dI g c adK adV v F rc H.size p2 1 999 hg hI ) (va_cwS 3 hwd (gT wk_239 wk_237 wk_238 wk_2) rfl rfl rfl (by decide +kernel) ⟨Nat.le_of_ble_eq_true rfl, Nat.le_of_ble_eq_true rfl⟩) ⟨PX.blind, fun U hU hW => ⟨rfl, PX.at hK hE hP hS hU hW⟩⟩ rfl rfl hl.1 rfl (lv_room (Nat.le_of_ble_eq_true rfl)) dX11_net_16 ⟨Nat.le_of_ble_eq_true rfl, Nat.le_of_ble_eq_true rfl⟩) hS (fun q _ h => (freeX hS) q h) (freeX hS) (fun r4499 u t H1 locs ht hvm hw hB hz1 hk1 hS => ?_)
    unfold BX at hB
    rw [ht] at hB
    have hP : va_P (dC, dI) classes (wX g c v F rc) H1 := hB
    have hw : (r4499.toInt = 1 ∧ (1 : Int32).toInt ≤ p2.toInt ∧ p2.toInt ≤ (999 : Int32).toInt) ∨ (r4499.toInt = 0 ∧ (p2.toInt < (1 : Int32).toInt ∨ (999 : Int32).toInt < p2.toInt)) := hw
    have k4500 : (1 : Int32).toInt = 1 := by decide
    have k4501 : (999 : Int32).toInt = 999 := by decide
    generalize H1 = H at hP hS ⊢
    have hw_r4499 := hw
    refine lv_if_eq (tgt := 41) hx hb dX11_net_19 (by decide) (fun c4502 => ?_) (fun c4502 => ?_)
    · skip
      have t4503 := cv_eq (a := r4499.toInt) rfl (b := 0) (by decide) c4502
      refine lv_ldc (v := (-2000000000)) hx hb hown (hwd _ wk_56) dX11_net_41 ?_
      have hP9 : va_P (dC, dI) classes (wX g c v F rc) H := hP
      exact W.iret (v := (-2000000000)) hx hb hr (fun t ht hW => ⟨⟨(-2000000000), (), rfl, (by unfold netF; rw [if_neg (by omega)]), (by show va_P _ _ _ t.heap; rw [ht]; exact hP9)⟩, hS.F ht⟩) hS.2.2 dX11_net_43
    · skip
      have t4504 := cv_ne (a := r4499.toInt) rfl (b := 0) (by decide) c4502
      refine lv_iload_n hx hb dX11_net_22 rfl (lv_at hl 2 rfl) ?_
      refine lv_iconst (v := 0) hx hb dX11_net_23 (by decide) ?_
      refine lv_aload_n hx hb dX11_net_24 rfl (lv_at hl 0 rfl) ?_
      refine va_get (D := (dC, dI)) (ci := 11) (v := .ref (g 2)) (C := RX11) (T := TX11) (N := 14) hx hb hwd inA_X11 hown hK hP 0 rfl rfl 1 (by decide) (hwd _ wk_19) (fun _ h9 => h9) rfl dX11_net_25 ?_
      refine va_get (D := (dC, dI)) (ci := 8) (v := .ref (g 20)) (C := RX8) (T := TX8) (N := 10) hx hb hwd inA_X8 hown hK hP 2 rfl rfl 6 (by decide) (hwd _ wk_1408) (fun _ h9 => h9) rfl dX11_net_28 ?_
      refine lv_iload_n hx hb dX11_net_31 rfl (lv_at hl 1 rfl) ?_
      refine va_iald hx hb hK hP 20 8 rfl rfl (i := p0) (vin (a := p0.toInt) rfl (by omega)) dX11_net_32 ?_
      refine lv_topi (fun z4505 e4506 => ?_)
      have t4507 : 0 ≤ z4505.toInt ∧ z4505.toInt ≤ 4 := by rw [e4506]; exact hI.2 20 _ _ rfl _
      refine lv_iconst (v := 1) hx hb dX11_net_33 (by decide) ?_
      refine lv_isub hx hb dX11_net_34 ?_
      refine lv_topi (fun z4508 e4509 => ?_)
      try (have t4510 := tsub e4509 (a := z4505.toInt) rfl (b := 1) (by decide) (by omega))
      refine va_calli (va_runS (As := [.int p1, .int 0, .int z4508]) (rest := []) ⟨hx, hb, hml, hown, hwd⟩ (c_X11_within l dC dI g c adK adV v F rc H.size p1 0 z4508 hg hI ) (va_cwS 3 hwd (gT wk_239 wk_237 wk_238 wk_2) rfl rfl rfl (by decide +kernel) ⟨Nat.le_of_ble_eq_true rfl, Nat.le_of_ble_eq_true rfl⟩) ⟨PX.blind, fun U hU hW => ⟨rfl, PX.at hK hE hP hS hU hW⟩⟩ rfl rfl hl.1 rfl (lv_room (Nat.le_of_ble_eq_true rfl)) dX11_net_35 ⟨Nat.le_of_ble_eq_true rfl, Nat.le_of_ble_eq_true rfl⟩) hS (fun q _ h => (freeX hS) q h) (freeX hS) (fun r4511 u t H1 locs ht hvm hw hB hz1 hk1 hS => ?_)
      unfold BX at hB
      rw [ht] at hB
      have hP : va_P (dC, dI) classes (wX g c v F rc) H1 := hB
      have hw : (r4511.toInt = 1 ∧ (0 : Int32).toInt ≤ p1.toInt ∧ p1.toInt ≤ z4508.toInt) ∨ (r4511.toInt = 0 ∧ (p1.toInt < (0 : Int32).toInt ∨ z4508.toInt < p1.toInt)) := hw
      have k4512 : (0 : Int32).toInt = 0 := by decide
      generalize H1 = H at hP hS ⊢
      have hw_r4511 := hw
      refine lv_if_ne (tgt := 44) hx hb dX11_net_38 (by decide) (fun c4513 => ?_) (fun c4513 => ?_)
      · skip
        have t4514 := cv_ne (a := r4511.toInt) rfl (b := 0) (by decide) c4513
        refine lv_aload_n hx hb dX11_net_44 rfl (lv_at hl 0 rfl) ?_
        refine va_get (D := (dC, dI)) (ci := 11) (v := .ref (g 2)) (C := RX11) (T := TX11) (N := 14) hx hb hwd inA_X11 hown hK hP 0 rfl rfl 1 (by decide) (hwd _ wk_19) (fun _ h9 => h9) rfl dX11_net_45 ?_
        refine lv_iload_n hx hb dX11_net_48 rfl (lv_at hl 1 rfl) ?_
        refine lv_iload_n hx hb dX11_net_49 rfl (lv_at hl 2 rfl) ?_
        refine va_calli (va_runV (As := [.int p0, .int p1]) (rest := []) ⟨hx, hb, hml, hown, hwd⟩ (c_X8_linkRent_x l dC dI g c adK adV v F rc H.size p0 p1 hg hI (by omega)) (cwV 2 hwd (gV wk_1412 wk_1409 wk_1410 wk_1411 wk_18) rfl rfl rfl (by decide +kernel) ⟨Nat.le_of_ble_eq_true rfl, Nat.le_of_ble_eq_true rfl⟩) ⟨PX.blind, va_recv hK hP (ci := 8) (q0 := 2) rfl rfl, fun U hU hW => ⟨rfl, PX.at hK hE hP hS hU hW⟩⟩ rfl rfl hl.1 rfl (lv_room (Nat.le_of_ble_eq_true rfl)) dX11_net_50 ⟨Nat.le_of_ble_eq_true rfl, Nat.le_of_ble_eq_true rfl⟩) hS (fun q _ h => (freeX hS) q h) (freeX hS) (fun r4515 u t H1 locs ht hvm hw hB hz1 hk1 hS => ?_)
        unfold BX at hB
        rw [ht] at hB
        have hP : va_P (dC, dI) classes (wX g c v F rc) H1 := hB
        have hw : r4515 = lrF (F 20) (F 21) p0 p1 := hw
        generalize H1 = H at hP hS ⊢
        have hw_r4515 := hw
        refine lv_aload_n hx hb dX11_net_53 rfl (lv_at hl 0 rfl) ?_
        refine va_get (D := (dC, dI)) (ci := 11) (v := .ref (g 2)) (C := RX11) (T := TX11) (N := 14) hx hb hwd inA_X11 hown hK hP 0 rfl rfl 1 (by decide) (hwd _ wk_19) (fun _ h9 => h9) rfl dX11_net_54 ?_
        refine lv_iload_n hx hb dX11_net_57 rfl (lv_at hl 1 rfl) ?_
        refine lv_iload_n hx hb dX11_net_58 rfl (lv_at hl 2 rfl) ?_
        refine lv_iconst (v := 1) hx hb dX11_net_59 (by decide) ?_
        refine lv_iadd hx hb dX11_net_60 ?_
        refine lv_topi (fun z4516 e4517 => ?_)
        try (have t4518 := tadd e4517 (a := p1.toInt) rfl (b := 1) (by decide) (by omega))
        refine va_calli (va_runV (As := [.int p0, .int z4516]) (rest := [.int r4515]) ⟨hx, hb, hml, hown, hwd⟩ (c_X8_linkRent_x l dC dI g c adK adV v F rc H.size p0 z4516 hg hI (by omega)) (cwV 2 hwd (gV wk_1412 wk_1409 wk_1410 wk_1411 wk_18) rfl rfl rfl (by decide +kernel) ⟨Nat.le_of_ble_eq_true rfl, Nat.le_of_ble_eq_true rfl⟩) ⟨PX.blind, va_recv hK hP (ci := 8) (q0 := 2) rfl rfl, fun U hU hW => ⟨rfl, PX.at hK hE hP hS hU hW⟩⟩ rfl rfl hl.1 rfl (lv_room (Nat.le_of_ble_eq_true rfl)) dX11_net_61 ⟨Nat.le_of_ble_eq_true rfl, Nat.le_of_ble_eq_true rfl⟩) hS (fun q _ h => (freeX hS) q h) (freeX hS) (fun r4519 u t H1 locs ht hvm hw hB hz1 hk1 hS => ?_)
        unfold BX at hB
        rw [ht] at hB
        have hP : va_P (dC, dI) classes (wX g c v F rc) H1 := hB
        have hw : r4519 = lrF (F 20) (F 21) p0 z4516 := hw
        generalize H1 = H at hP hS ⊢
        have hw_r4519 := hw
        refine lv_isub hx hb dX11_net_64 ?_
        refine lv_topi (fun z4520 e4521 => ?_)
        try (have t4522 := tsub e4521 (a := r4515.toInt) rfl (b := r4519.toInt) rfl (by omega))
        refine lv_iload_n hx hb dX11_net_65 rfl (lv_at hl 3 rfl) ?_
        refine lv_imul hx hb dX11_net_66 ?_
        refine lv_topi (fun z4523 e4524 => ?_)
        try (have t4525 := tmul e4524 (a := z4520.toInt) rfl (b := p2.toInt) rfl (by omega))
        have hP9 : va_P (dC, dI) classes (wX g c v F rc) H := hP
        exact W.iret (v := z4523) hx hb hr (fun t ht hW => ⟨⟨z4523, (), rfl, (by have a_z4505 := congrArg Int32.toInt e4506; unfold netF; rw [if_pos (by omega), e4524, e4521, hw_r4515, hw_r4519, e4517]), (by show va_P _ _ _ t.heap; rw [ht]; exact hP9)⟩, hS.F ht⟩) hS.2.2 dX11_net_67
      · skip
        have t4526 := cv_eq (a := r4511.toInt) rfl (b := 0) (by decide) c4513
        refine lv_ldc (v := (-2000000000)) hx hb hown (hwd _ wk_56) dX11_net_41 ?_
        have hP9 : va_P (dC, dI) classes (wX g c v F rc) H := hP
        exact W.iret (v := (-2000000000)) hx hb hr (fun t ht hW => ⟨⟨(-2000000000), (), rfl, (by have a_z4505 := congrArg Int32.toInt e4506; unfold netF; rw [if_neg (by omega)]), (by show va_P _ _ _ t.heap; rw [ht]; exact hP9)⟩, hS.F ht⟩) hS.2.2 dX11_net_43
