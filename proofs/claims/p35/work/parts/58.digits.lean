set_option maxHeartbeats 8000000 in
set_option maxRecDepth 100000 in
theorem c_X10_at_e (l : Launch) (dC : Nat → ClassId) (dI : Nat → Nat → Nat) (g : Nat → Nat) (c : Nat → ClassId) (adK adV : Nat → Nat) (v : Nat → Int32) (F : Nat → Nat → Int32) (rc sz : Nat) (p0 : Int32) (hg : injX g) (hI : IX v F) : Met l yX10_at (Cond.code yX10_at cX10_at 2 (some .int) :: wA) ({ frames := 1, cells := 0, slots := 0, locals := 40 }) (va_Pc [.ref (g 5), .int p0] (PX dC dI g c adK adV v F rc sz)) (va_Qi (fun (r : Int32) (u : Unit) => r.toInt = (atX v F p0).toInt) (fun (_ : Unit) => BX dC dI g c (v, F, rc)) (AX g sz)) 0 0 (AX g sz) := by
  refine Met.ofW (cc := cX10_at) (maxL := 2) (ret := (some .int)) (by decide) rfl ?_
  intro p e s m args below meth c0 s₁ B hml hv
  obtain ⟨rfl, hsz, hP, hK, hE⟩ := hv
  have hx := B.exec
  have hb := B.bytes
  have hr := B.returns
  have hts := atoms_spec (ws := Cond.code yX10_at cX10_at 2 (some .int) :: wA) B.pre
  have hwd : ∀ w ∈ wA, w.before _ s = true := fun w h => hts w (List.mem_cons_of_mem _ h)
  have hown : s.vm.findClass RX10 = some m.cls := findClass_of_methodNamed B.named
  have hlocks := B.notSynchronized
  subst hsz
  have hl := lv_entry ([.ref (g 5), .int p0]) (n := 2) (Nat.le_of_ble_eq_true rfl)
  rw [lg_entry_eq]
  generalize (lg_sl ([.ref (g 5), .int p0]) ++ List.replicate (2 - (lg_sl ([.ref (g 5), .int p0])).length) Slot.unset).toArray = ls at hl ⊢
  have hl : lv_has ls 2 [(0, .ref (g 5)), (1, .int p0)] := hl
  obtain ⟨H, eH⟩ : ∃ z, z = s.heap := ⟨_, rfl⟩
  have hP : va_P (dC, dI) classes (wX g c v F rc) H := by rw [eH]; exact hP
  have hS : va_S (AX g s.heap.size) s.heap H [] := by rw [eH]; exact va_S.rf
  refine my_heap eH ?_
  have rp0 := i32_rng p0
  refine lv_iload_n hx hb dX10_at_0 rfl (lv_at hl 1 rfl) ?_
  refine lv_if_lt (tgt := 21) hx hb dX10_at_1 (by decide) (fun c3382 => ?_) (fun c3382 => ?_)
  · skip
    have t3383 := cv_lt (a := p0.toInt) rfl (b := 0) (by decide) c3382
    refine lv_iconst (v := (-1)) hx hb dX10_at_21 (by decide) ?_
    have hP9 : va_P (dC, dI) classes (wX g c v F rc) H := hP
    exact W.iret (v := (-1)) hx hb hr (fun t ht hW => ⟨⟨(-1), (), rfl, by unfold atX; rw [if_neg (by omega)]; try rfl, (by show va_P _ _ _ t.heap; rw [ht]; exact hP9)⟩, hS.F ht⟩) hS.2.2 dX10_at_22
  · skip
    have t3384 := cv_nlt (a := p0.toInt) rfl (b := 0) (by decide) c3382
    refine lv_iload_n hx hb dX10_at_4 rfl (lv_at hl 1 rfl) ?_
    refine lv_aload_n hx hb dX10_at_5 rfl (lv_at hl 0 rfl) ?_
    refine va_get (D := (dC, dI)) (ci := 10) (v := .int (v 100)) (C := RX10) (T := TX10) (N := 2) hx hb hwd inA_X10 hown hK hP 5 rfl rfl 0 (by decide) (hwd _ wk_834) (fun _ h9 => h9) rfl dX10_at_6 ?_
    have t3385 : 0 ≤ (v 100).toInt ∧ (v 100).toInt ≤ 120 := hI.1 100 _ _ rfl
    refine lv_icmp_ge (tgt := 21) hx hb dX10_at_9 (by decide) (fun c3386 => ?_) (fun c3386 => ?_)
    · skip
      have t3387 := cv_le (a := (v 100).toInt) rfl (b := p0.toInt) rfl c3386
      refine lv_iconst (v := (-1)) hx hb dX10_at_21 (by decide) ?_
      have hP9 : va_P (dC, dI) classes (wX g c v F rc) H := hP
      exact W.iret (v := (-1)) hx hb hr (fun t ht hW => ⟨⟨(-1), (), rfl, by unfold atX; rw [if_neg (by omega)]; try rfl, (by show va_P _ _ _ t.heap; rw [ht]; exact hP9)⟩, hS.F ht⟩) hS.2.2 dX10_at_22
    · skip
      have t3388 := cv_nle (a := (v 100).toInt) rfl (b := p0.toInt) rfl c3386
      refine lv_aload_n hx hb dX10_at_12 rfl (lv_at hl 0 rfl) ?_
      refine va_get (D := (dC, dI)) (ci := 10) (v := .ref (g 39)) (C := RX10) (T := TX10) (N := 2) hx hb hwd inA_X10 hown hK hP 5 rfl rfl 1 (by decide) (hwd _ wk_104) (fun _ h9 => h9) rfl dX10_at_13 ?_
      refine lv_iload_n hx hb dX10_at_16 rfl (lv_at hl 1 rfl) ?_
      refine va_iald hx hb hK hP 39 27 rfl rfl (i := p0) (vin (a := p0.toInt) rfl (by omega)) dX10_at_17 ?_
      refine lv_topi (fun z3389 e3390 => ?_)
      refine lv_goto (tgt := 22) hx hb dX10_at_18 (by decide) ?_
      have hP9 : va_P (dC, dI) classes (wX g c v F rc) H := hP
      exact W.iret (v := z3389) hx hb hr (fun t ht hW => ⟨⟨z3389, (), rfl, by unfold atX; rw [if_pos (by omega)]; exact congrArg Int32.toInt e3390, (by show va_P _ _ _ t.heap; rw [ht]; exact hP9)⟩, hS.F ht⟩) hS.2.2 dX10_at_22
set_option maxHeartbeats 8000000 in
set_option maxRecDepth 100000 in
theorem c_X10_hasDigitAt_e (l : Launch) (dC : Nat → ClassId) (dI : Nat → Nat → Nat) (g : Nat → Nat) (c : Nat → ClassId) (adK adV : Nat → Nat) (v : Nat → Int32) (F : Nat → Nat → Int32) (rc sz : Nat) (p0 : Int32) (hg : injX g) (hI : IX v F) : Met l yX10_hasDigitAt (Cond.code yX10_hasDigitAt cX10_hasDigitAt 2 (some .boolean) :: wA) ({ frames := 2, cells := 0, slots := 0, locals := 80 }) (va_Pc [.ref (g 5), .int p0] (PX dC dI g c adK adV v F rc sz)) (va_Qi (fun (r : Int32) (u : Unit) => (r.toInt = 1 ∧ 48 ≤ (atX v F p0).toInt ∧ (atX v F p0).toInt ≤ 57) ∨ (r.toInt = 0 ∧ ¬ (48 ≤ (atX v F p0).toInt ∧ (atX v F p0).toInt ≤ 57))) (fun (_ : Unit) => BX dC dI g c (v, F, rc)) (AX g sz)) 0 0 (AX g sz) := by
  refine Met.ofW (cc := cX10_hasDigitAt) (maxL := 2) (ret := (some .boolean)) (by decide) rfl ?_
  intro p e s m args below meth c0 s₁ B hml hv
  obtain ⟨rfl, hsz, hP, hK, hE⟩ := hv
  have hx := B.exec
  have hb := B.bytes
  have hr := B.returns
  have hts := atoms_spec (ws := Cond.code yX10_hasDigitAt cX10_hasDigitAt 2 (some .boolean) :: wA) B.pre
  have hwd : ∀ w ∈ wA, w.before _ s = true := fun w h => hts w (List.mem_cons_of_mem _ h)
  have hown : s.vm.findClass RX10 = some m.cls := findClass_of_methodNamed B.named
  have hlocks := B.notSynchronized
  subst hsz
  have hl := lv_entry ([.ref (g 5), .int p0]) (n := 2) (Nat.le_of_ble_eq_true rfl)
  rw [lg_entry_eq]
  generalize (lg_sl ([.ref (g 5), .int p0]) ++ List.replicate (2 - (lg_sl ([.ref (g 5), .int p0])).length) Slot.unset).toArray = ls at hl ⊢
  have hl : lv_has ls 2 [(0, .ref (g 5)), (1, .int p0)] := hl
  obtain ⟨H, eH⟩ : ∃ z, z = s.heap := ⟨_, rfl⟩
  have hP : va_P (dC, dI) classes (wX g c v F rc) H := by rw [eH]; exact hP
  have hS : va_S (AX g s.heap.size) s.heap H [] := by rw [eH]; exact va_S.rf
  refine my_heap eH ?_
  have rp0 := i32_rng p0
  refine lv_aload_n hx hb dX10_hasDigitAt_0 rfl (lv_at hl 0 rfl) ?_
  refine lv_iload_n hx hb dX10_hasDigitAt_1 rfl (lv_at hl 1 rfl) ?_
  refine va_calli (va_runV (As := [.int p0]) (rest := []) ⟨hx, hb, hml, hown, hwd⟩ (c_X10_at_e l dC dI g c adK adV v F rc H.size p0 hg hI ) (cwV 1 hwd (gV wk_870 wk_984 wk_868 wk_869 wk_30) rfl rfl rfl (by decide +kernel) ⟨Nat.le_of_ble_eq_true rfl, Nat.le_of_ble_eq_true rfl⟩) ⟨PX.blind, va_recv hK hP (ci := 10) (q0 := 5) rfl rfl, fun U hU hW => ⟨rfl, PX.at hK hE hP hS hU hW⟩⟩ rfl rfl hl.1 rfl (lv_room (Nat.le_of_ble_eq_true rfl)) dX10_hasDigitAt_2 ⟨Nat.le_of_ble_eq_true rfl, Nat.le_of_ble_eq_true rfl⟩) hS (fun q _ h => (freeX hS) q h) (freeX hS) (fun r3391 u t H1 locs ht hvm hw hB hz1 hk1 hS => ?_)
  unfold BX at hB
  rw [ht] at hB
  have hP : va_P (dC, dI) classes (wX g c v F rc) H1 := hB
  have hw : r3391.toInt = (atX v F p0).toInt := hw
  generalize H1 = H at hP hS ⊢
  have hw_r3391 := hw
  refine lv_bipush (v := 48) hx hb dX10_hasDigitAt_5 (by decide) ?_
  refine lv_icmp_lt (tgt := 24) hx hb dX10_hasDigitAt_7 (by decide) (fun c3392 => ?_) (fun c3392 => ?_)
  · skip
    have t3393 := cv_lt (a := r3391.toInt) rfl (b := 48) (by decide) c3392
    refine lv_iconst (v := 0) hx hb dX10_hasDigitAt_24 (by decide) ?_
    have hP9 : va_P (dC, dI) classes (wX g c v F rc) H := hP
    exact W.zret (v := 0) hx hb hr (rfl) (fun t ht hW => ⟨⟨0, (), rfl, by have : (0 : Int32).toInt = 0 := (by decide); omega, (by show va_P _ _ _ t.heap; rw [ht]; exact hP9)⟩, hS.F ht⟩) hS.2.2 dX10_hasDigitAt_25
  · skip
    have t3394 := cv_nlt (a := r3391.toInt) rfl (b := 48) (by decide) c3392
    refine lv_aload_n hx hb dX10_hasDigitAt_10 rfl (lv_at hl 0 rfl) ?_
    refine lv_iload_n hx hb dX10_hasDigitAt_11 rfl (lv_at hl 1 rfl) ?_
    refine va_calli (va_runV (As := [.int p0]) (rest := []) ⟨hx, hb, hml, hown, hwd⟩ (c_X10_at_e l dC dI g c adK adV v F rc H.size p0 hg hI ) (cwV 1 hwd (gV wk_870 wk_984 wk_868 wk_869 wk_30) rfl rfl rfl (by decide +kernel) ⟨Nat.le_of_ble_eq_true rfl, Nat.le_of_ble_eq_true rfl⟩) ⟨PX.blind, va_recv hK hP (ci := 10) (q0 := 5) rfl rfl, fun U hU hW => ⟨rfl, PX.at hK hE hP hS hU hW⟩⟩ rfl rfl hl.1 rfl (lv_room (Nat.le_of_ble_eq_true rfl)) dX10_hasDigitAt_12 ⟨Nat.le_of_ble_eq_true rfl, Nat.le_of_ble_eq_true rfl⟩) hS (fun q _ h => (freeX hS) q h) (freeX hS) (fun r3395 u t H1 locs ht hvm hw hB hz1 hk1 hS => ?_)
    unfold BX at hB
    rw [ht] at hB
    have hP : va_P (dC, dI) classes (wX g c v F rc) H1 := hB
    have hw : r3395.toInt = (atX v F p0).toInt := hw
    generalize H1 = H at hP hS ⊢
    have hw_r3395 := hw
    refine lv_bipush (v := 57) hx hb dX10_hasDigitAt_15 (by decide) ?_
    refine lv_icmp_gt (tgt := 24) hx hb dX10_hasDigitAt_17 (by decide) (fun c3396 => ?_) (fun c3396 => ?_)
    · skip
      have t3397 := cv_lt (a := 57) (by decide) (b := r3395.toInt) rfl c3396
      refine lv_iconst (v := 0) hx hb dX10_hasDigitAt_24 (by decide) ?_
      have hP9 : va_P (dC, dI) classes (wX g c v F rc) H := hP
      exact W.zret (v := 0) hx hb hr (rfl) (fun t ht hW => ⟨⟨0, (), rfl, by have : (0 : Int32).toInt = 0 := (by decide); omega, (by show va_P _ _ _ t.heap; rw [ht]; exact hP9)⟩, hS.F ht⟩) hS.2.2 dX10_hasDigitAt_25
    · skip
      have t3398 := cv_nlt (a := 57) (by decide) (b := r3395.toInt) rfl c3396
      refine lv_iconst (v := 1) hx hb dX10_hasDigitAt_20 (by decide) ?_
      refine lv_goto (tgt := 25) hx hb dX10_hasDigitAt_21 (by decide) ?_
      have hP9 : va_P (dC, dI) classes (wX g c v F rc) H := hP
      exact W.zret (v := 1) hx hb hr (rfl) (fun t ht hW => ⟨⟨1, (), rfl, by have : (1 : Int32).toInt = 1 := (by decide); omega, (by show va_P _ _ _ t.heap; rw [ht]; exact hP9)⟩, hS.F ht⟩) hS.2.2 dX10_hasDigitAt_25
set_option maxHeartbeats 8000000 in
set_option maxRecDepth 100000 in
theorem c_X10_digitsAt_e (l : Launch) (dC : Nat → ClassId) (dI : Nat → Nat → Nat) (g : Nat → Nat) (c : Nat → ClassId) (adK adV : Nat → Nat) (v : Nat → Int32) (F : Nat → Nat → Int32) (rc sz : Nat) (p0 : Int32) (hg : injX g) (hI : IX v F) : Met l yX10_digitsAt (Cond.code yX10_digitsAt cX10_digitsAt 3 (some .int) :: wA) ({ frames := 3, cells := 0, slots := 0, locals := 120 }) (va_Pc [.ref (g 5), .int p0] (PX dC dI g c adK adV v F rc sz)) (va_Qi (fun (r : Int32) (u : Unit) => (0 ≤ r.toInt ∧ r.toInt ≤ 5) ∧ (∀ k : Int32, 0 ≤ k.toInt → k.toInt < r.toInt → 48 ≤ (atX v F (p0 + k)).toInt ∧ (atX v F (p0 + k)).toInt ≤ 57)) (fun (_ : Unit) => BX dC dI g c (v, F, rc)) (AX g sz)) 0 0 (AX g sz) := by
  refine Met.ofW (cc := cX10_digitsAt) (maxL := 3) (ret := (some .int)) (by decide) rfl ?_
  intro p e s m args below meth c0 s₁ B hml hv
  obtain ⟨rfl, hsz, hP, hK, hE⟩ := hv
  have hx := B.exec
  have hb := B.bytes
  have hr := B.returns
  have hts := atoms_spec (ws := Cond.code yX10_digitsAt cX10_digitsAt 3 (some .int) :: wA) B.pre
  have hwd : ∀ w ∈ wA, w.before _ s = true := fun w h => hts w (List.mem_cons_of_mem _ h)
  have hown : s.vm.findClass RX10 = some m.cls := findClass_of_methodNamed B.named
  have hlocks := B.notSynchronized
  subst hsz
  have hl := lv_entry ([.ref (g 5), .int p0]) (n := 3) (Nat.le_of_ble_eq_true rfl)
  rw [lg_entry_eq]
  generalize (lg_sl ([.ref (g 5), .int p0]) ++ List.replicate (3 - (lg_sl ([.ref (g 5), .int p0])).length) Slot.unset).toArray = ls at hl ⊢
  have hl : lv_has ls 3 [(0, .ref (g 5)), (1, .int p0)] := hl
  obtain ⟨H, eH⟩ : ∃ z, z = s.heap := ⟨_, rfl⟩
  have hP : va_P (dC, dI) classes (wX g c v F rc) H := by rw [eH]; exact hP
  have hS : va_S (AX g s.heap.size) s.heap H [] := by rw [eH]; exact va_S.rf
  refine my_heap eH ?_
  have rp0 := i32_rng p0
  refine lv_iconst (v := 0) hx hb dX10_digitsAt_0 (by decide) ?_
  refine lv_istore_n (lv' := [(2, .int 0), (0, .ref (g 5)), (1, .int p0)]) hx hb dX10_digitsAt_1 rfl hl (by decide) rfl (fun ls hl => ?_)
  have lp3399 : ∀ (n : Nat) (x2_lp3399 : Int32) (H : Heap) (locs : List Loc) (ls : Array Slot), (0 ≤ x2_lp3399.toInt) → (x2_lp3399.toInt ≤ 5) → (∀ k : Int32, 0 ≤ k.toInt → k.toInt < x2_lp3399.toInt → 48 ≤ (atX v F (p0 + k)).toInt ∧ (atX v F (p0 + k)).toInt ≤ 57) → (2147483648 - x2_lp3399.toInt ≤ (n : Int)) → va_P (dC, dI) classes (wX g c v F rc) H → va_S (AX g s.heap.size) s.heap H locs → lv_has ls 3 [(2, .int x2_lp3399), (0, .ref (g 5)), (1, .int p0)] → W p l e (headSpec (Cond.code yX10_digitsAt cX10_digitsAt 3 (some .int) :: wA) ({ frames := 3, cells := 0, slots := 0, locals := 120 })).room s m ([.ref (g 5), .int p0] : List Value).toArray below meth c0 H locs 0 0 (MQ below (va_Qi (fun (r : Int32) (u : Unit) => (0 ≤ r.toInt ∧ r.toInt ≤ 5) ∧ (∀ k : Int32, 0 ≤ k.toInt → k.toInt < r.toInt → 48 ≤ (atX v F (p0 + k)).toInt ∧ (atX v F (p0 + k)).toInt ≤ 57)) (fun (_ : Unit) => BX dC dI g c (v, F, rc)) (AX g s.heap.size)) ([.ref (g 5), .int p0] : List Value).toArray s 0 0 (AX g s.heap.size)) (F0 m 2 ls []) := by
    intro n
    induction n with
    | zero =>
      intro x2_lp3399 H locs ls t3400 t3401 t3402 hm hP hS hl
      exfalso
      have := i32_rng x2_lp3399
      omega
    | succ n ih_lp3399 =>
      intro x2_lp3399 H locs ls t3400 t3401 t3402 hm hP hS hl
      have rx2_lp3399 := i32_rng x2_lp3399
      refine lv_iload_n hx hb dX10_digitsAt_2 rfl (lv_at hl 0 rfl) ?_
      refine lv_iconst (v := 5) hx hb dX10_digitsAt_3 (by decide) ?_
      refine lv_icmp_ge (tgt := 23) hx hb dX10_digitsAt_4 (by decide) (fun c3403 => ?_) (fun c3403 => ?_)
      · skip
        have t3404 := cv_le (a := 5) (by decide) (b := x2_lp3399.toInt) rfl c3403
        refine lv_iload_n hx hb dX10_digitsAt_23 rfl (lv_at hl 0 rfl) ?_
        have hP9 : va_P (dC, dI) classes (wX g c v F rc) H := hP
        exact W.iret (v := x2_lp3399) hx hb hr (fun t ht hW => ⟨⟨x2_lp3399, (), rfl, ⟨by omega, t3402⟩, (by show va_P _ _ _ t.heap; rw [ht]; exact hP9)⟩, hS.F ht⟩) hS.2.2 dX10_digitsAt_24
      · skip
        have t3405 := cv_nle (a := 5) (by decide) (b := x2_lp3399.toInt) rfl c3403
        refine lv_aload_n hx hb dX10_digitsAt_7 rfl (lv_at hl 1 rfl) ?_
        refine lv_iload_n hx hb dX10_digitsAt_8 rfl (lv_at hl 2 rfl) ?_
        refine lv_iload_n hx hb dX10_digitsAt_9 rfl (lv_at hl 0 rfl) ?_
        refine lv_iadd hx hb dX10_digitsAt_10 ?_
        refine lv_topi (fun z3406 e3407 => ?_)
        try (have t3408 := tadd e3407 (a := p0.toInt) rfl (b := x2_lp3399.toInt) rfl (by omega))
        refine va_calli (va_runV (As := [.int z3406]) (rest := []) ⟨hx, hb, hml, hown, hwd⟩ (c_X10_hasDigitAt_e l dC dI g c adK adV v F rc H.size z3406 hg hI ) (cwV 1 hwd (gV wk_983 wk_980 wk_981 wk_982 wk_30) rfl rfl rfl (by decide +kernel) ⟨Nat.le_of_ble_eq_true rfl, Nat.le_of_ble_eq_true rfl⟩) ⟨PX.blind, va_recv hK hP (ci := 10) (q0 := 5) rfl rfl, fun U hU hW => ⟨rfl, PX.at hK hE hP hS hU hW⟩⟩ rfl rfl hl.1 rfl (lv_room (Nat.le_of_ble_eq_true rfl)) dX10_digitsAt_11 ⟨Nat.le_of_ble_eq_true rfl, Nat.le_of_ble_eq_true rfl⟩) hS (fun q _ h => (freeX hS) q h) (freeX hS) (fun r3409 u t H1 locs ht hvm hw hB hz1 hk1 hS => ?_)
        unfold BX at hB
        rw [ht] at hB
        have hP : va_P (dC, dI) classes (wX g c v F rc) H1 := hB
        have hw : (r3409.toInt = 1 ∧ 48 ≤ (atX v F z3406).toInt ∧ (atX v F z3406).toInt ≤ 57) ∨ (r3409.toInt = 0 ∧ ¬ (48 ≤ (atX v F z3406).toInt ∧ (atX v F z3406).toInt ≤ 57)) := hw
        generalize H1 = H at hP hS ⊢
        have hw_r3409 := hw
        refine lv_if_eq (tgt := 23) hx hb dX10_digitsAt_14 (by decide) (fun c3410 => ?_) (fun c3410 => ?_)
        · skip
          have t3411 := cv_eq (a := r3409.toInt) rfl (b := 0) (by decide) c3410
          refine lv_iload_n hx hb dX10_digitsAt_23 rfl (lv_at hl 0 rfl) ?_
          have hP9 : va_P (dC, dI) classes (wX g c v F rc) H := hP
          exact W.iret (v := x2_lp3399) hx hb hr (fun t ht hW => ⟨⟨x2_lp3399, (), rfl, ⟨by omega, t3402⟩, (by show va_P _ _ _ t.heap; rw [ht]; exact hP9)⟩, hS.F ht⟩) hS.2.2 dX10_digitsAt_24
        · skip
          have t3412 := cv_ne (a := r3409.toInt) rfl (b := 0) (by decide) c3410
          obtain ⟨z3413, e3414⟩ : ∃ y : Int32, y = x2_lp3399 + 1 := ⟨_, rfl⟩
          try (have t3415 := tadd e3414 rfl (b := 1) (by decide) (by omega))
          refine lv_iinc (v := z3413) (lv' := [(2, .int z3413), (0, .ref (g 5)), (1, .int p0)]) hx hb dX10_digitsAt_17 hl (k := 0) rfl (by rw [e3414]; rfl) (by decide) rfl (fun ls hl => ?_)
          refine lv_goto (tgt := 2) hx hb dX10_digitsAt_20 (by decide) ?_
          exact ih_lp3399 z3413  _ _ _ (by omega) (by omega) (dg_step (x := x2_lp3399) (by omega) e3407 t3402 (by omega)) (by omega) hP hS (lv_sub hl [0, 1, 2] rfl)
  obtain ⟨n9, hn9⟩ : ∃ n : Nat, 2147483648 - 0 ≤ (n : Int) := ⟨((2147483648 - 0 : Int)).toNat, by omega⟩
  exact lp3399 n9 0  H _ ls (by have : (0 : Int32).toInt = 0 := (by decide); omega) (by have : (0 : Int32).toInt = 0 := (by decide); omega) (fun k h0 h1 => absurd h1 (by have : (0 : Int32).toInt = 0 := (by decide); omega)) (by have : (0 : Int32).toInt = 0 := (by decide); omega) hP hS hl
set_option maxHeartbeats 8000000 in
set_option maxRecDepth 100000 in
theorem c_X10_numberAt_e (l : Launch) (dC : Nat → ClassId) (dI : Nat → Nat → Nat) (g : Nat → Nat) (c : Nat → ClassId) (adK adV : Nat → Nat) (v : Nat → Int32) (F : Nat → Nat → Int32) (rc sz : Nat) (p0 : Int32) (p1 : Int32) (hg : injX g) (hI : IX v F) (h1 : 0 ≤ p1.toInt ∧ p1.toInt ≤ 5) (hdg : ∀ k : Int32, 0 ≤ k.toInt → k.toInt < p1.toInt → 48 ≤ (atX v F (p0 + k)).toInt ∧ (atX v F (p0 + k)).toInt ≤ 57) : Met l yX10_numberAt (Cond.code yX10_numberAt cX10_numberAt 5 (some .int) :: wA) ({ frames := 2, cells := 0, slots := 0, locals := 80 }) (va_Pc [.ref (g 5), .int p0, .int p1] (PX dC dI g c adK adV v F rc sz)) (va_Qi (fun (r : Int32) (u : Unit) => 0 ≤ r.toInt ∧ r.toInt ≤ 99999) (fun (_ : Unit) => BX dC dI g c (v, F, rc)) (AX g sz)) 0 0 (AX g sz) := by
  refine Met.ofW (cc := cX10_numberAt) (maxL := 5) (ret := (some .int)) (by decide) rfl ?_
  intro p e s m args below meth c0 s₁ B hml hv
  obtain ⟨rfl, hsz, hP, hK, hE⟩ := hv
  have hx := B.exec
  have hb := B.bytes
  have hr := B.returns
  have hts := atoms_spec (ws := Cond.code yX10_numberAt cX10_numberAt 5 (some .int) :: wA) B.pre
  have hwd : ∀ w ∈ wA, w.before _ s = true := fun w h => hts w (List.mem_cons_of_mem _ h)
  have hown : s.vm.findClass RX10 = some m.cls := findClass_of_methodNamed B.named
  have hlocks := B.notSynchronized
  subst hsz
  have hl := lv_entry ([.ref (g 5), .int p0, .int p1]) (n := 5) (Nat.le_of_ble_eq_true rfl)
  rw [lg_entry_eq]
  generalize (lg_sl ([.ref (g 5), .int p0, .int p1]) ++ List.replicate (5 - (lg_sl ([.ref (g 5), .int p0, .int p1])).length) Slot.unset).toArray = ls at hl ⊢
  have hl : lv_has ls 5 [(0, .ref (g 5)), (1, .int p0), (2, .int p1)] := hl
  obtain ⟨H, eH⟩ : ∃ z, z = s.heap := ⟨_, rfl⟩
  have hP : va_P (dC, dI) classes (wX g c v F rc) H := by rw [eH]; exact hP
  have hS : va_S (AX g s.heap.size) s.heap H [] := by rw [eH]; exact va_S.rf
  refine my_heap eH ?_
  have rp0 := i32_rng p0
  have rp1 := i32_rng p1
  refine lv_iconst (v := 0) hx hb dX10_numberAt_0 (by decide) ?_
  refine lv_istore_n (lv' := [(3, .int 0), (0, .ref (g 5)), (1, .int p0), (2, .int p1)]) hx hb dX10_numberAt_1 rfl hl (by decide) rfl (fun ls hl => ?_)
  refine lv_iconst (v := 0) hx hb dX10_numberAt_2 (by decide) ?_
  refine lv_istore (lv' := [(4, .int 0), (3, .int 0), (0, .ref (g 5)), (1, .int p0), (2, .int p1)]) hx hb dX10_numberAt_3 hl (by decide) rfl (fun ls hl => ?_)
  have lp3416 : ∀ (n : Nat) (x4_lp3416 : Int32) (x3_lp3416 : Int32) (H : Heap) (locs : List Loc) (ls : Array Slot), (0 ≤ x4_lp3416.toInt) → (x4_lp3416.toInt ≤ 5) → (0 ≤ x3_lp3416.toInt) → (x3_lp3416.toInt ≤ 99999) → ((x4_lp3416.toInt = 0 → x3_lp3416.toInt ≤ 0) ∧ (x4_lp3416.toInt = 1 → x3_lp3416.toInt ≤ 9) ∧ (x4_lp3416.toInt = 2 → x3_lp3416.toInt ≤ 99) ∧ (x4_lp3416.toInt = 3 → x3_lp3416.toInt ≤ 999) ∧ (x4_lp3416.toInt = 4 → x3_lp3416.toInt ≤ 9999) ∧ (x4_lp3416.toInt = 5 → x3_lp3416.toInt ≤ 99999)) → (2147483648 - x4_lp3416.toInt ≤ (n : Int)) → va_P (dC, dI) classes (wX g c v F rc) H → va_S (AX g s.heap.size) s.heap H locs → lv_has ls 5 [(4, .int x4_lp3416), (3, .int x3_lp3416), (0, .ref (g 5)), (1, .int p0), (2, .int p1)] → W p l e (headSpec (Cond.code yX10_numberAt cX10_numberAt 5 (some .int) :: wA) ({ frames := 2, cells := 0, slots := 0, locals := 80 })).room s m ([.ref (g 5), .int p0, .int p1] : List Value).toArray below meth c0 H locs 0 0 (MQ below (va_Qi (fun (r : Int32) (u : Unit) => 0 ≤ r.toInt ∧ r.toInt ≤ 99999) (fun (_ : Unit) => BX dC dI g c (v, F, rc)) (AX g s.heap.size)) ([.ref (g 5), .int p0, .int p1] : List Value).toArray s 0 0 (AX g s.heap.size)) (F0 m 5 ls []) := by
    intro n
    induction n with
    | zero =>
      intro x4_lp3416 x3_lp3416 H locs ls t3417 t3418 t3419 t3420 t3421 hm hP hS hl
      exfalso
      have := i32_rng x4_lp3416
      have := i32_rng x3_lp3416
      omega
    | succ n ih_lp3416 =>
      intro x4_lp3416 x3_lp3416 H locs ls t3417 t3418 t3419 t3420 t3421 hm hP hS hl
      have rx4_lp3416 := i32_rng x4_lp3416
      have rx3_lp3416 := i32_rng x3_lp3416
      refine lv_iload hx hb dX10_numberAt_5 (lv_at hl 0 rfl) ?_
      refine lv_iload_n hx hb dX10_numberAt_7 rfl (lv_at hl 4 rfl) ?_
      refine lv_icmp_ge (tgt := 34) hx hb dX10_numberAt_8 (by decide) (fun c3422 => ?_) (fun c3422 => ?_)
      · skip
        have t3423 := cv_le (a := p1.toInt) rfl (b := x4_lp3416.toInt) rfl c3422
        refine lv_iload_n hx hb dX10_numberAt_34 rfl (lv_at hl 1 rfl) ?_
        have hP9 : va_P (dC, dI) classes (wX g c v F rc) H := hP
        exact W.iret (v := x3_lp3416) hx hb hr (fun t ht hW => ⟨⟨x3_lp3416, (), rfl, by omega, (by show va_P _ _ _ t.heap; rw [ht]; exact hP9)⟩, hS.F ht⟩) hS.2.2 dX10_numberAt_35
      · skip
        have t3424 := cv_nle (a := p1.toInt) rfl (b := x4_lp3416.toInt) rfl c3422
        refine lv_iload_n hx hb dX10_numberAt_11 rfl (lv_at hl 1 rfl) ?_
        refine lv_bipush (v := 10) hx hb dX10_numberAt_12 (by decide) ?_
        refine lv_imul hx hb dX10_numberAt_14 ?_
        refine lv_topi (fun z3425 e3426 => ?_)
        try (have t3427 := tmul e3426 (a := x3_lp3416.toInt) rfl (b := 10) (by decide) (by omega))
        refine lv_aload_n hx hb dX10_numberAt_15 rfl (lv_at hl 2 rfl) ?_
        refine lv_iload_n hx hb dX10_numberAt_16 rfl (lv_at hl 3 rfl) ?_
        refine lv_iload hx hb dX10_numberAt_17 (lv_at hl 0 rfl) ?_
        refine lv_iadd hx hb dX10_numberAt_19 ?_
        refine lv_topi (fun z3428 e3429 => ?_)
        try (have t3430 := tadd e3429 (a := p0.toInt) rfl (b := x4_lp3416.toInt) rfl (by omega))
        refine va_calli (va_runV (As := [.int z3428]) (rest := [.int z3425]) ⟨hx, hb, hml, hown, hwd⟩ (c_X10_at_e l dC dI g c adK adV v F rc H.size z3428 hg hI ) (cwV 1 hwd (gV wk_870 wk_984 wk_868 wk_869 wk_30) rfl rfl rfl (by decide +kernel) ⟨Nat.le_of_ble_eq_true rfl, Nat.le_of_ble_eq_true rfl⟩) ⟨PX.blind, va_recv hK hP (ci := 10) (q0 := 5) rfl rfl, fun U hU hW => ⟨rfl, PX.at hK hE hP hS hU hW⟩⟩ rfl rfl hl.1 rfl (lv_room (Nat.le_of_ble_eq_true rfl)) dX10_numberAt_20 ⟨Nat.le_of_ble_eq_true rfl, Nat.le_of_ble_eq_true rfl⟩) hS (fun q _ h => (freeX hS) q h) (freeX hS) (fun r3431 u t H1 locs ht hvm hw hB hz1 hk1 hS => ?_)
        unfold BX at hB
        rw [ht] at hB
        have hP : va_P (dC, dI) classes (wX g c v F rc) H1 := hB
        have hw : r3431.toInt = (atX v F z3428).toInt := hw
        generalize H1 = H at hP hS ⊢
        have td_r3431 := hdg x4_lp3416 (by omega) (by omega)
        rw [← e3429] at td_r3431
        have hw_r3431 := hw
        refine lv_iadd hx hb dX10_numberAt_23 ?_
        refine lv_topi (fun z3432 e3433 => ?_)
        try (have t3434 := tadd e3433 (a := z3425.toInt) rfl (b := r3431.toInt) rfl (by omega))
        refine lv_bipush (v := 48) hx hb dX10_numberAt_24 (by decide) ?_
        refine lv_isub hx hb dX10_numberAt_26 ?_
        refine lv_topi (fun z3435 e3436 => ?_)
        try (have t3437 := tsub e3436 (a := z3432.toInt) rfl (b := 48) (by decide) (by omega))
        refine lv_istore_n (lv' := [(3, .int z3435), (4, .int x4_lp3416), (0, .ref (g 5)), (1, .int p0), (2, .int p1)]) hx hb dX10_numberAt_27 rfl hl (by decide) rfl (fun ls hl => ?_)
        obtain ⟨z3438, e3439⟩ : ∃ y : Int32, y = x4_lp3416 + 1 := ⟨_, rfl⟩
        try (have t3440 := tadd e3439 rfl (b := 1) (by decide) (by omega))
        refine lv_iinc (v := z3438) (lv' := [(4, .int z3438), (3, .int z3435), (0, .ref (g 5)), (1, .int p0), (2, .int p1)]) hx hb dX10_numberAt_28 hl (k := 1) rfl (by rw [e3439]; rfl) (by decide) rfl (fun ls hl => ?_)
        refine lv_goto (tgt := 5) hx hb dX10_numberAt_31 (by decide) ?_
        exact ih_lp3416 z3438 z3435  _ _ _ (by omega) (by omega) (by omega) (by omega) (by omega) (by omega) hP hS (lv_sub hl [0, 1, 2, 3, 4] rfl)
  obtain ⟨n9, hn9⟩ : ∃ n : Nat, 2147483648 - 0 ≤ (n : Int) := ⟨((2147483648 - 0 : Int)).toNat, by omega⟩
  exact lp3416 n9 0 0  H _ ls (by have : (0 : Int32).toInt = 0 := (by decide); have : (0 : Int32).toInt = 0 := (by decide); omega) (by have : (0 : Int32).toInt = 0 := (by decide); have : (0 : Int32).toInt = 0 := (by decide); omega) (by have : (0 : Int32).toInt = 0 := (by decide); have : (0 : Int32).toInt = 0 := (by decide); omega) (by have : (0 : Int32).toInt = 0 := (by decide); have : (0 : Int32).toInt = 0 := (by decide); omega) (by have : (0 : Int32).toInt = 0 := (by decide); omega) (by have : (0 : Int32).toInt = 0 := (by decide); have : (0 : Int32).toInt = 0 := (by decide); omega) hP hS hl
