set_option maxHeartbeats 8000000 in
set_option maxRecDepth 100000 in
theorem c_X11_lost (l : Launch) (dC : Nat → ClassId) (dI : Nat → Nat → Nat) (g : Nat → Nat) (c : Nat → ClassId) (adK adV : Nat → Nat) (v : Nat → Int32) (F : Nat → Nat → Int32) (rc sz : Nat) (p0 : Int32) (p1 : Int32) (p2 : Int32) (hg : injX g) (hI : IX v F) : Met l yX11_lost (Cond.code yX11_lost cX11_lost 5 (some .int) :: wA) ({ frames := 5, cells := 0, slots := 0, locals := 200 }) (va_Pc [.ref (g 0), .int p0, .int p1, .int p2] (PX dC dI g c adK adV v F rc sz)) (va_Qi (fun (r : Int32) (u : StX) => IX u.1 u.2.1 ∧ alX u.1 u.2.1 = alX v F ∧ u.2.2 = rc ∧ (∀ k, k ∉ ([126] : List Nat) → u.1 k = v k) ∧ True) (BX dC dI g c) (AX g sz)) 0 0 (AX g sz) := by
  refine Met.ofW (cc := cX11_lost) (maxL := 5) (ret := (some .int)) (by decide) rfl ?_
  intro p e s m args below meth c0 s₁ B hml hv
  obtain ⟨rfl, hsz, hP, hK, hE⟩ := hv
  have hx := B.exec
  have hb := B.bytes
  have hr := B.returns
  have hts := atoms_spec (ws := Cond.code yX11_lost cX11_lost 5 (some .int) :: wA) B.pre
  have hwd : ∀ w ∈ wA, w.before _ s = true := fun w h => hts w (List.mem_cons_of_mem _ h)
  have hown : s.vm.findClass RX11 = some m.cls := findClass_of_methodNamed B.named
  have hlocks := B.notSynchronized
  subst hsz
  have hl := lv_entry ([.ref (g 0), .int p0, .int p1, .int p2]) (n := 5) (Nat.le_of_ble_eq_true rfl)
  rw [lg_entry_eq]
  generalize (lg_sl ([.ref (g 0), .int p0, .int p1, .int p2]) ++ List.replicate (5 - (lg_sl ([.ref (g 0), .int p0, .int p1, .int p2])).length) Slot.unset).toArray = ls at hl ⊢
  have hl : lv_has ls 5 [(0, .ref (g 0)), (1, .int p0), (2, .int p1), (3, .int p2)] := hl
  obtain ⟨H, eH⟩ : ∃ z, z = s.heap := ⟨_, rfl⟩
  have hP : va_P (dC, dI) classes (wX g c v F rc) H := by rw [eH]; exact hP
  have hS : va_S (AX g s.heap.size) s.heap H [] := by rw [eH]; exact va_S.rf
  refine my_heap eH ?_
  have hal : alX v F = alX v F := rfl
  have rp0 := i32_rng p0
  have rp1 := i32_rng p1
  have rp2 := i32_rng p2
  refine lv_aload_n hx hb dX11_lost_0 rfl (lv_at hl 0 rfl) ?_
  refine lv_iload_n hx hb dX11_lost_1 rfl (lv_at hl 1 rfl) ?_
  refine lv_iload_n hx hb dX11_lost_2 rfl (lv_at hl 2 rfl) ?_
  refine va_calli (va_runV (As := [.int p0, .int p1]) (rest := []) ⟨hx, hb, hml, hown, hwd⟩ (c_X11_stayAt l dC dI g c adK adV v F rc H.size p0 p1 hg hI ) (cwV 2 hwd (gV wk_793 wk_790 wk_791 wk_792 wk_2) rfl rfl rfl (by decide +kernel) ⟨Nat.le_of_ble_eq_true rfl, Nat.le_of_ble_eq_true rfl⟩) ⟨PX.blind, va_recv hK hP (ci := 11) (q0 := 0) rfl rfl, fun U hU hW => ⟨rfl, PX.at hK hE hP hS hU hW⟩⟩ rfl rfl hl.1 rfl (lv_room (Nat.le_of_ble_eq_true rfl)) dX11_lost_3 ⟨Nat.le_of_ble_eq_true rfl, Nat.le_of_ble_eq_true rfl⟩) hS (fun q _ h => (freeX hS) q h) (freeX hS) (fun r2522 u t H1 locs ht hvm hw hB hz1 hk1 hS => ?_)
  unfold BX at hB
  rw [ht] at hB
  have hP : va_P (dC, dI) classes (wX g c v F rc) H1 := hB
  have hw : (-1 ≤ r2522.toInt ∧ r2522.toInt ≤ 499) ∧ (r2522.toInt = -1 ∨ (0 ≤ p0.toInt ∧ p0.toInt ≤ 99)) := hw
  generalize H1 = H at hP hS ⊢
  have hw_r2522 := hw
  refine lv_istore (lv' := [(4, .int r2522), (0, .ref (g 0)), (1, .int p0), (2, .int p1), (3, .int p2)]) hx hb dX11_lost_6 hl (by decide) rfl (fun ls hl => ?_)
  refine lv_iload hx hb dX11_lost_8 (lv_at hl 0 rfl) ?_
  refine lv_iconst (v := (-1)) hx hb dX11_lost_10 (by decide) ?_
  refine lv_icmp_eq (tgt := 21) hx hb dX11_lost_11 (by decide) (fun c2523 => ?_) (fun c2523 => ?_)
  · skip
    have t2524 := cv_eq (a := r2522.toInt) rfl (b := (-1)) (by decide) c2523
    refine lv_iconst (v := (-1)) hx hb dX11_lost_21 (by decide) ?_
    have hP9 : va_P (dC, dI) classes (wX g c v F rc) H := hP
    exact W.iret (v := (-1)) hx hb hr (fun t ht hW => ⟨⟨(-1), (v, F, rc), rfl, ⟨hI, hal, rfl, (fun _ _ => rfl), trivial⟩, (by show va_P _ _ _ t.heap; rw [ht]; exact hP9)⟩, hS.F ht⟩) hS.2.2 dX11_lost_22
  · skip
    have t2525 := cv_ne (a := r2522.toInt) rfl (b := (-1)) (by decide) c2523
    refine lv_iload_n hx hb dX11_lost_14 rfl (lv_at hl 4 rfl) ?_
    refine va_calli (va_runS (As := [.int p2]) (rest := []) ⟨hx, hb, hml, hown, hwd⟩ (c_X11_isDay l dC dI g c adK adV v F rc H.size p2 hg hI ) (va_cwS 1 hwd (gT wk_549 wk_547 wk_548 wk_2) rfl rfl rfl (by decide +kernel) ⟨Nat.le_of_ble_eq_true rfl, Nat.le_of_ble_eq_true rfl⟩) ⟨PX.blind, fun U hU hW => ⟨rfl, PX.at hK hE hP hS hU hW⟩⟩ rfl rfl hl.1 rfl (lv_room (Nat.le_of_ble_eq_true rfl)) dX11_lost_15 ⟨Nat.le_of_ble_eq_true rfl, Nat.le_of_ble_eq_true rfl⟩) hS (fun q _ h => (freeX hS) q h) (freeX hS) (fun r2526 u t H1 locs ht hvm hw hB hz1 hk1 hS => ?_)
    unfold BX at hB
    rw [ht] at hB
    have hP : va_P (dC, dI) classes (wX g c v F rc) H1 := hB
    have hw : (r2526.toInt = 1 ∧ 0 ≤ p2.toInt ∧ p2.toInt ≤ 9999) ∨ (r2526.toInt = 0 ∧ (p2.toInt < 0 ∨ 9999 < p2.toInt)) := hw
    generalize H1 = H at hP hS ⊢
    have hw_r2526 := hw
    refine lv_if_ne (tgt := 23) hx hb dX11_lost_18 (by decide) (fun c2527 => ?_) (fun c2527 => ?_)
    · skip
      have t2528 := cv_ne (a := r2526.toInt) rfl (b := 0) (by decide) c2527
      refine lv_aload_n hx hb dX11_lost_23 rfl (lv_at hl 1 rfl) ?_
      refine va_get (D := (dC, dI)) (ci := 11) (v := .ref (g 4)) (C := RX11) (T := TX11) (N := 14) hx hb hwd inA_X11 hown hK hP 0 rfl rfl 3 (by decide) (hwd _ wk_23) (fun _ h9 => h9) rfl dX11_lost_24 ?_
      refine lv_iload hx hb dX11_lost_27 (lv_at hl 0 rfl) ?_
      refine va_calli (va_runV (As := [.int r2522]) (rest := []) ⟨hx, hb, hml, hown, hwd⟩ (c_X9_isGap l dC dI g c adK adV v F rc H.size r2522 hg hI (by omega)) (cwV 1 hwd (gV wk_373 wk_1051 wk_371 wk_372 wk_22) rfl rfl rfl (by decide +kernel) ⟨Nat.le_of_ble_eq_true rfl, Nat.le_of_ble_eq_true rfl⟩) ⟨PX.blind, va_recv hK hP (ci := 9) (q0 := 4) rfl rfl, fun U hU hW => ⟨rfl, PX.at hK hE hP hS hU hW⟩⟩ rfl rfl hl.1 rfl (lv_room (Nat.le_of_ble_eq_true rfl)) dX11_lost_29 ⟨Nat.le_of_ble_eq_true rfl, Nat.le_of_ble_eq_true rfl⟩) hS (fun q _ h => (freeX hS) q h) (freeX hS) (fun r2529 u t H1 locs ht hvm hw hB hz1 hk1 hS => ?_)
      unfold BX at hB
      rw [ht] at hB
      have hP : va_P (dC, dI) classes (wX g c v F rc) H1 := hB
      have hw : 0 ≤ r2529.toInt ∧ r2529.toInt ≤ 1 := hw
      generalize H1 = H at hP hS ⊢
      have hw_r2529 := hw
      refine lv_if_eq (tgt := 49) hx hb dX11_lost_32 (by decide) (fun c2530 => ?_) (fun c2530 => ?_)
      · skip
        have t2531 := cv_eq (a := r2529.toInt) rfl (b := 0) (by decide) c2530
        refine lv_bipush (v := (-2)) hx hb dX11_lost_49 (by decide) ?_
        have hP9 : va_P (dC, dI) classes (wX g c v F rc) H := hP
        exact W.iret (v := (-2)) hx hb hr (fun t ht hW => ⟨⟨(-2), (v, F, rc), rfl, ⟨hI, hal, rfl, (fun _ _ => rfl), trivial⟩, (by show va_P _ _ _ t.heap; rw [ht]; exact hP9)⟩, hS.F ht⟩) hS.2.2 dX11_lost_51
      · skip
        have t2532 := cv_ne (a := r2529.toInt) rfl (b := 0) (by decide) c2530
        refine lv_aload_n hx hb dX11_lost_35 rfl (lv_at hl 1 rfl) ?_
        refine va_get (D := (dC, dI)) (ci := 11) (v := .ref (g 10)) (C := RX11) (T := TX11) (N := 14) hx hb hwd inA_X11 hown hK hP 0 rfl rfl 9 (by decide) (hwd _ wk_51) (fun _ h9 => h9) rfl dX11_lost_36 ?_
        refine lv_iload_n hx hb dX11_lost_39 rfl (lv_at hl 2 rfl) ?_
        refine lv_iload hx hb dX11_lost_40 (lv_at hl 0 rfl) ?_
        refine lv_iload_n hx hb dX11_lost_42 rfl (lv_at hl 4 rfl) ?_
        refine va_calli (va_runV (As := [.int p0, .int r2522, .int p2]) (rest := []) ⟨hx, hb, hml, hown, hwd⟩ (c_X5_hundredths l dC dI g c adK adV v F rc H.size p0 r2522 p2 hg hI (by omega) (by omega)) (cwV 3 hwd (gV wk_382 wk_1052 wk_380 wk_381 wk_50) rfl rfl rfl (by decide +kernel) ⟨Nat.le_of_ble_eq_true rfl, Nat.le_of_ble_eq_true rfl⟩) ⟨PX.blind, va_recv hK hP (ci := 5) (q0 := 10) rfl rfl, fun U hU hW => ⟨rfl, PX.at hK hE hP hS hU hW⟩⟩ rfl rfl hl.1 rfl (lv_room (Nat.le_of_ble_eq_true rfl)) dX11_lost_43 ⟨Nat.le_of_ble_eq_true rfl, Nat.le_of_ble_eq_true rfl⟩) hS (fun q _ h => (freeX hS) q h) (freeX hS) (fun r2533 u t H1 locs ht hvm hw hB hz1 hk1 hS => ?_)
        unfold BX at hB
        rw [ht] at hB
        obtain ⟨v2534, F2535, rc9⟩ := u
        obtain ⟨hI, hal9, hrc, hf2536, hw⟩ := hw
        dsimp only at hI hal9 hrc hB hf2536 hw
        rw [hrc] at hB
        have hal := hal9.trans hal
        have hP : va_P (dC, dI) classes (wX g c v2534 F2535 rc) H1 := hB
        generalize H1 = H at hP hS ⊢
        have rr_r2533 := i32_rng r2533
        refine lv_goto (tgt := 51) hx hb dX11_lost_46 (by decide) ?_
        have hP9 : va_P (dC, dI) classes (wX g c v2534 F2535 rc) H := hP
        exact W.iret (v := r2533) hx hb hr (fun t ht hW => ⟨⟨r2533, (v2534, F2535, rc), rfl, ⟨hI, hal, rfl, (frC (by decide) hf2536 (fun _ _ => rfl)), trivial⟩, (by show va_P _ _ _ t.heap; rw [ht]; exact hP9)⟩, hS.F ht⟩) hS.2.2 dX11_lost_51
    · skip
      have t2537 := cv_eq (a := r2526.toInt) rfl (b := 0) (by decide) c2527
      refine lv_iconst (v := (-1)) hx hb dX11_lost_21 (by decide) ?_
      have hP9 : va_P (dC, dI) classes (wX g c v F rc) H := hP
      exact W.iret (v := (-1)) hx hb hr (fun t ht hW => ⟨⟨(-1), (v, F, rc), rfl, ⟨hI, hal, rfl, (fun _ _ => rfl), trivial⟩, (by show va_P _ _ _ t.heap; rw [ht]; exact hP9)⟩, hS.F ht⟩) hS.2.2 dX11_lost_22
set_option maxHeartbeats 8000000 in
set_option maxRecDepth 100000 in
theorem c_X11_done (l : Launch) (dC : Nat → ClassId) (dI : Nat → Nat → Nat) (g : Nat → Nat) (c : Nat → ClassId) (adK adV : Nat → Nat) (v : Nat → Int32) (F : Nat → Nat → Int32) (rc sz : Nat) (p0 : Int32) (p1 : Int32) (hg : injX g) (hI : IX v F) : Met l yX11_done (Cond.code yX11_done cX11_done 3 (some .int) :: wA) ({ frames := 3, cells := 0, slots := 0, locals := 120 }) (va_Pc [.ref (g 0), .int p0, .int p1] (PX dC dI g c adK adV v F rc sz)) (va_Qi (fun (r : Int32) (u : StX) => IX u.1 u.2.1 ∧ alX u.1 u.2.1 = alX v F ∧ u.2.2 = rc ∧ (∀ k, k ∉ ([] : List Nat) → u.1 k = v k) ∧ True) (BX dC dI g c) (AX g sz)) 0 0 (AX g sz) := by
  refine Met.ofW (cc := cX11_done) (maxL := 3) (ret := (some .int)) (by decide) rfl ?_
  intro p e s m args below meth c0 s₁ B hml hv
  obtain ⟨rfl, hsz, hP, hK, hE⟩ := hv
  have hx := B.exec
  have hb := B.bytes
  have hr := B.returns
  have hts := atoms_spec (ws := Cond.code yX11_done cX11_done 3 (some .int) :: wA) B.pre
  have hwd : ∀ w ∈ wA, w.before _ s = true := fun w h => hts w (List.mem_cons_of_mem _ h)
  have hown : s.vm.findClass RX11 = some m.cls := findClass_of_methodNamed B.named
  have hlocks := B.notSynchronized
  subst hsz
  have hl := lv_entry ([.ref (g 0), .int p0, .int p1]) (n := 3) (Nat.le_of_ble_eq_true rfl)
  rw [lg_entry_eq]
  generalize (lg_sl ([.ref (g 0), .int p0, .int p1]) ++ List.replicate (3 - (lg_sl ([.ref (g 0), .int p0, .int p1])).length) Slot.unset).toArray = ls at hl ⊢
  have hl : lv_has ls 3 [(0, .ref (g 0)), (1, .int p0), (2, .int p1)] := hl
  obtain ⟨H, eH⟩ : ∃ z, z = s.heap := ⟨_, rfl⟩
  have hP : va_P (dC, dI) classes (wX g c v F rc) H := by rw [eH]; exact hP
  have hS : va_S (AX g s.heap.size) s.heap H [] := by rw [eH]; exact va_S.rf
  refine my_heap eH ?_
  have hal : alX v F = alX v F := rfl
  have rp0 := i32_rng p0
  have rp1 := i32_rng p1
  refine lv_aload_n hx hb dX11_done_0 rfl (lv_at hl 0 rfl) ?_
  refine va_get (D := (dC, dI)) (ci := 11) (v := .ref (g 8)) (C := RX11) (T := TX11) (N := 14) hx hb hwd inA_X11 hown hK hP 0 rfl rfl 7 (by decide) (hwd _ wk_43) (fun _ h9 => h9) rfl dX11_done_1 ?_
  refine lv_iload_n hx hb dX11_done_4 rfl (lv_at hl 1 rfl) ?_
  refine va_calli (va_runV (As := [.int p0]) (rest := []) ⟨hx, hb, hml, hown, hwd⟩ (c_X6_has l dC dI g c adK adV v F rc H.size p0 hg hI ) (cwV 1 hwd (gV wk_1076 wk_1073 wk_1074 wk_1075 wk_42) rfl rfl rfl (by decide +kernel) ⟨Nat.le_of_ble_eq_true rfl, Nat.le_of_ble_eq_true rfl⟩) ⟨PX.blind, va_recv hK hP (ci := 6) (q0 := 8) rfl rfl, fun U hU hW => ⟨rfl, PX.at hK hE hP hS hU hW⟩⟩ rfl rfl hl.1 rfl (lv_room (Nat.le_of_ble_eq_true rfl)) dX11_done_5 ⟨Nat.le_of_ble_eq_true rfl, Nat.le_of_ble_eq_true rfl⟩) hS (fun q _ h => (freeX hS) q h) (freeX hS) (fun r2538 u t H1 locs ht hvm hw hB hz1 hk1 hS => ?_)
  unfold BX at hB
  rw [ht] at hB
  have hP : va_P (dC, dI) classes (wX g c v F rc) H1 := hB
  have hw : (0 ≤ r2538.toInt ∧ r2538.toInt ≤ 1) ∧ (r2538.toInt = 1 → 0 ≤ p0.toInt ∧ p0.toInt < 20) := hw
  generalize H1 = H at hP hS ⊢
  have hw_r2538 := hw
  refine lv_if_eq (tgt := 22) hx hb dX11_done_8 (by decide) (fun c2539 => ?_) (fun c2539 => ?_)
  · skip
    have t2540 := cv_eq (a := r2538.toInt) rfl (b := 0) (by decide) c2539
    refine lv_iconst (v := (-1)) hx hb dX11_done_22 (by decide) ?_
    have hP9 : va_P (dC, dI) classes (wX g c v F rc) H := hP
    exact W.iret (v := (-1)) hx hb hr (fun t ht hW => ⟨⟨(-1), (v, F, rc), rfl, ⟨hI, hal, rfl, (fun _ _ => rfl), trivial⟩, (by show va_P _ _ _ t.heap; rw [ht]; exact hP9)⟩, hS.F ht⟩) hS.2.2 dX11_done_23
  · skip
    have t2541 := cv_ne (a := r2538.toInt) rfl (b := 0) (by decide) c2539
    refine lv_aload_n hx hb dX11_done_11 rfl (lv_at hl 0 rfl) ?_
    refine va_get (D := (dC, dI)) (ci := 11) (v := .ref (g 2)) (C := RX11) (T := TX11) (N := 14) hx hb hwd inA_X11 hown hK hP 0 rfl rfl 1 (by decide) (hwd _ wk_19) (fun _ h9 => h9) rfl dX11_done_12 ?_
    refine lv_iload_n hx hb dX11_done_15 rfl (lv_at hl 2 rfl) ?_
    refine va_calli (va_runV (As := [.int p1]) (rest := []) ⟨hx, hb, hml, hown, hwd⟩ (c_X8_has l dC dI g c adK adV v F rc H.size p1 hg hI ) (cwV 1 hwd (gV wk_276 wk_273 wk_274 wk_275 wk_18) rfl rfl rfl (by decide +kernel) ⟨Nat.le_of_ble_eq_true rfl, Nat.le_of_ble_eq_true rfl⟩) ⟨PX.blind, va_recv hK hP (ci := 8) (q0 := 2) rfl rfl, fun U hU hW => ⟨rfl, PX.at hK hE hP hS hU hW⟩⟩ rfl rfl hl.1 rfl (lv_room (Nat.le_of_ble_eq_true rfl)) dX11_done_16 ⟨Nat.le_of_ble_eq_true rfl, Nat.le_of_ble_eq_true rfl⟩) hS (fun q _ h => (freeX hS) q h) (freeX hS) (fun r2542 u t H1 locs ht hvm hw hB hz1 hk1 hS => ?_)
    unfold BX at hB
    rw [ht] at hB
    have hP : va_P (dC, dI) classes (wX g c v F rc) H1 := hB
    have hw : (0 ≤ r2542.toInt ∧ r2542.toInt ≤ 1) ∧ (r2542.toInt = 1 → 0 ≤ p1.toInt ∧ p1.toInt < 10) := hw
    generalize H1 = H at hP hS ⊢
    have hw_r2542 := hw
    refine lv_if_ne (tgt := 24) hx hb dX11_done_19 (by decide) (fun c2543 => ?_) (fun c2543 => ?_)
    · skip
      have t2544 := cv_ne (a := r2542.toInt) rfl (b := 0) (by decide) c2543
      refine lv_aload_n hx hb dX11_done_24 rfl (lv_at hl 0 rfl) ?_
      refine va_get (D := (dC, dI)) (ci := 11) (v := .ref (g 8)) (C := RX11) (T := TX11) (N := 14) hx hb hwd inA_X11 hown hK hP 0 rfl rfl 7 (by decide) (hwd _ wk_43) (fun _ h9 => h9) rfl dX11_done_25 ?_
      refine lv_iload_n hx hb dX11_done_28 rfl (lv_at hl 1 rfl) ?_
      refine lv_iload_n hx hb dX11_done_29 rfl (lv_at hl 2 rfl) ?_
      refine va_calli (va_runV (As := [.int p0, .int p1]) (rest := []) ⟨hx, hb, hml, hown, hwd⟩ (c_X6_isDue l dC dI g c adK adV v F rc H.size p0 p1 hg hI (by omega) (by omega)) (cwV 2 hwd (gV wk_436 wk_1077 wk_434 wk_435 wk_42) rfl rfl rfl (by decide +kernel) ⟨Nat.le_of_ble_eq_true rfl, Nat.le_of_ble_eq_true rfl⟩) ⟨PX.blind, va_recv hK hP (ci := 6) (q0 := 8) rfl rfl, fun U hU hW => ⟨rfl, PX.at hK hE hP hS hU hW⟩⟩ rfl rfl hl.1 rfl (lv_room (Nat.le_of_ble_eq_true rfl)) dX11_done_30 ⟨Nat.le_of_ble_eq_true rfl, Nat.le_of_ble_eq_true rfl⟩) hS (fun q _ h => (freeX hS) q h) (freeX hS) (fun r2545 u t H1 locs ht hvm hw hB hz1 hk1 hS => ?_)
      unfold BX at hB
      rw [ht] at hB
      have hP : va_P (dC, dI) classes (wX g c v F rc) H1 := hB
      have hw : 0 ≤ r2545.toInt ∧ r2545.toInt ≤ 1 := hw
      generalize H1 = H at hP hS ⊢
      have hw_r2545 := hw
      refine lv_if_ne (tgt := 39) hx hb dX11_done_33 (by decide) (fun c2546 => ?_) (fun c2546 => ?_)
      · skip
        have t2547 := cv_ne (a := r2545.toInt) rfl (b := 0) (by decide) c2546
        refine lv_aload_n hx hb dX11_done_39 rfl (lv_at hl 0 rfl) ?_
        refine va_get (D := (dC, dI)) (ci := 11) (v := .ref (g 8)) (C := RX11) (T := TX11) (N := 14) hx hb hwd inA_X11 hown hK hP 0 rfl rfl 7 (by decide) (hwd _ wk_43) (fun _ h9 => h9) rfl dX11_done_40 ?_
        refine lv_iload_n hx hb dX11_done_43 rfl (lv_at hl 1 rfl) ?_
        refine lv_iload_n hx hb dX11_done_44 rfl (lv_at hl 2 rfl) ?_
        refine va_callv (va_runV (As := [.int p0, .int p1]) (rest := []) ⟨hx, hb, hml, hown, hwd⟩ (c_X6_finish l dC dI g c adK adV v F rc H.size p0 p1 hg hI (by omega) (by omega)) (cwV 2 hwd (gV wk_1081 wk_1078 wk_1079 wk_1080 wk_42) rfl rfl rfl (by decide +kernel) ⟨Nat.le_of_ble_eq_true rfl, Nat.le_of_ble_eq_true rfl⟩) ⟨PX.blind, va_recv hK hP (ci := 6) (q0 := 8) rfl rfl, fun U hU hW => ⟨rfl, PX.at hK hE hP hS hU hW⟩⟩ rfl rfl hl.1 rfl (lv_room (Nat.le_of_ble_eq_true rfl)) dX11_done_45 ⟨Nat.le_of_ble_eq_true rfl, Nat.le_of_ble_eq_true rfl⟩) hS (fun q _ h => (freeX hS) q h) (freeX hS) (fun u t H1 locs ht hvm hw hB hz1 hk1 hS => ?_)
        unfold BX at hB
        rw [ht] at hB
        obtain ⟨v2549, F2550, rc9⟩ := u
        obtain ⟨hI, hal9, hrc, hf2551, hw⟩ := hw
        dsimp only at hI hal9 hrc hB hf2551 hw
        rw [hrc] at hB
        have hal := hal9.trans hal
        have hP : va_P (dC, dI) classes (wX g c v2549 F2550 rc) H1 := hB
        generalize H1 = H at hP hS ⊢
        refine lv_iconst (v := 1) hx hb dX11_done_48 (by decide) ?_
        have hP9 : va_P (dC, dI) classes (wX g c v2549 F2550 rc) H := hP
        exact W.iret (v := 1) hx hb hr (fun t ht hW => ⟨⟨1, (v2549, F2550, rc), rfl, ⟨hI, hal, rfl, (frC (by decide) hf2551 (fun _ _ => rfl)), trivial⟩, (by show va_P _ _ _ t.heap; rw [ht]; exact hP9)⟩, hS.F ht⟩) hS.2.2 dX11_done_49
      · skip
        have t2552 := cv_eq (a := r2545.toInt) rfl (b := 0) (by decide) c2546
        refine lv_bipush (v := (-2)) hx hb dX11_done_36 (by decide) ?_
        have hP9 : va_P (dC, dI) classes (wX g c v F rc) H := hP
        exact W.iret (v := (-2)) hx hb hr (fun t ht hW => ⟨⟨(-2), (v, F, rc), rfl, ⟨hI, hal, rfl, (fun _ _ => rfl), trivial⟩, (by show va_P _ _ _ t.heap; rw [ht]; exact hP9)⟩, hS.F ht⟩) hS.2.2 dX11_done_38
    · skip
      have t2553 := cv_eq (a := r2542.toInt) rfl (b := 0) (by decide) c2543
      refine lv_iconst (v := (-1)) hx hb dX11_done_22 (by decide) ?_
      have hP9 : va_P (dC, dI) classes (wX g c v F rc) H := hP
      exact W.iret (v := (-1)) hx hb hr (fun t ht hW => ⟨⟨(-1), (v, F, rc), rfl, ⟨hI, hal, rfl, (fun _ _ => rfl), trivial⟩, (by show va_P _ _ _ t.heap; rw [ht]; exact hP9)⟩, hS.F ht⟩) hS.2.2 dX11_done_23
set_option maxHeartbeats 8000000 in
set_option maxRecDepth 100000 in
theorem c_X11_lacks (l : Launch) (dC : Nat → ClassId) (dI : Nat → Nat → Nat) (g : Nat → Nat) (c : Nat → ClassId) (adK adV : Nat → Nat) (v : Nat → Int32) (F : Nat → Nat → Int32) (rc sz : Nat) (p0 : Int32) (p1 : Int32) (p2 : Int32) (p3 : Int32) (hg : injX g) (hI : IX v F) : Met l yX11_lacks (Cond.code yX11_lacks cX11_lacks 5 (some .int) :: wA) ({ frames := 8, cells := 0, slots := 0, locals := 320 }) (va_Pc [.ref (g 0), .int p0, .int p1, .int p2, .int p3] (PX dC dI g c adK adV v F rc sz)) (va_Qi (fun (r : Int32) (u : StX) => IX u.1 u.2.1 ∧ alX u.1 u.2.1 = alX v F ∧ u.2.2 = rc ∧ (∀ k, k ∉ ([126, 229] : List Nat) → u.1 k = v k) ∧ True) (BX dC dI g c) (AX g sz)) 0 0 (AX g sz) := by
  refine Met.ofW (cc := cX11_lacks) (maxL := 5) (ret := (some .int)) (by decide) rfl ?_
  intro p e s m args below meth c0 s₁ B hml hv
  obtain ⟨rfl, hsz, hP, hK, hE⟩ := hv
  have hx := B.exec
  have hb := B.bytes
  have hr := B.returns
  have hts := atoms_spec (ws := Cond.code yX11_lacks cX11_lacks 5 (some .int) :: wA) B.pre
  have hwd : ∀ w ∈ wA, w.before _ s = true := fun w h => hts w (List.mem_cons_of_mem _ h)
  have hown : s.vm.findClass RX11 = some m.cls := findClass_of_methodNamed B.named
  have hlocks := B.notSynchronized
  subst hsz
  have hl := lv_entry ([.ref (g 0), .int p0, .int p1, .int p2, .int p3]) (n := 5) (Nat.le_of_ble_eq_true rfl)
  rw [lg_entry_eq]
  generalize (lg_sl ([.ref (g 0), .int p0, .int p1, .int p2, .int p3]) ++ List.replicate (5 - (lg_sl ([.ref (g 0), .int p0, .int p1, .int p2, .int p3])).length) Slot.unset).toArray = ls at hl ⊢
  have hl : lv_has ls 5 [(0, .ref (g 0)), (1, .int p0), (2, .int p1), (3, .int p2), (4, .int p3)] := hl
  obtain ⟨H, eH⟩ : ∃ z, z = s.heap := ⟨_, rfl⟩
  have hP : va_P (dC, dI) classes (wX g c v F rc) H := by rw [eH]; exact hP
  have hS : va_S (AX g s.heap.size) s.heap H [] := by rw [eH]; exact va_S.rf
  refine my_heap eH ?_
  have hal : alX v F = alX v F := rfl
  have rp0 := i32_rng p0
  have rp1 := i32_rng p1
  have rp2 := i32_rng p2
  have rp3 := i32_rng p3
  refine lv_aload_n hx hb dX11_lacks_0 rfl (lv_at hl 0 rfl) ?_
  refine va_get (D := (dC, dI)) (ci := 11) (v := .ref (g 2)) (C := RX11) (T := TX11) (N := 14) hx hb hwd inA_X11 hown hK hP 0 rfl rfl 1 (by decide) (hwd _ wk_19) (fun _ h9 => h9) rfl dX11_lacks_1 ?_
  refine lv_iload_n hx hb dX11_lacks_4 rfl (lv_at hl 1 rfl) ?_
  refine va_calli (va_runV (As := [.int p0]) (rest := []) ⟨hx, hb, hml, hown, hwd⟩ (c_X8_has l dC dI g c adK adV v F rc H.size p0 hg hI ) (cwV 1 hwd (gV wk_276 wk_273 wk_274 wk_275 wk_18) rfl rfl rfl (by decide +kernel) ⟨Nat.le_of_ble_eq_true rfl, Nat.le_of_ble_eq_true rfl⟩) ⟨PX.blind, va_recv hK hP (ci := 8) (q0 := 2) rfl rfl, fun U hU hW => ⟨rfl, PX.at hK hE hP hS hU hW⟩⟩ rfl rfl hl.1 rfl (lv_room (Nat.le_of_ble_eq_true rfl)) dX11_lacks_5 ⟨Nat.le_of_ble_eq_true rfl, Nat.le_of_ble_eq_true rfl⟩) hS (fun q _ h => (freeX hS) q h) (freeX hS) (fun r2554 u t H1 locs ht hvm hw hB hz1 hk1 hS => ?_)
  unfold BX at hB
  rw [ht] at hB
  have hP : va_P (dC, dI) classes (wX g c v F rc) H1 := hB
  have hw : (0 ≤ r2554.toInt ∧ r2554.toInt ≤ 1) ∧ (r2554.toInt = 1 → 0 ≤ p0.toInt ∧ p0.toInt < 10) := hw
  generalize H1 = H at hP hS ⊢
  have hw_r2554 := hw
  refine lv_if_eq (tgt := 38) hx hb dX11_lacks_8 (by decide) (fun c2555 => ?_) (fun c2555 => ?_)
  · skip
    have t2556 := cv_eq (a := r2554.toInt) rfl (b := 0) (by decide) c2555
    refine lv_iconst (v := (-1)) hx hb dX11_lacks_38 (by decide) ?_
    have hP9 : va_P (dC, dI) classes (wX g c v F rc) H := hP
    exact W.iret (v := (-1)) hx hb hr (fun t ht hW => ⟨⟨(-1), (v, F, rc), rfl, ⟨hI, hal, rfl, (fun _ _ => rfl), trivial⟩, (by show va_P _ _ _ t.heap; rw [ht]; exact hP9)⟩, hS.F ht⟩) hS.2.2 dX11_lacks_39
  · skip
    have t2557 := cv_ne (a := r2554.toInt) rfl (b := 0) (by decide) c2555
    refine lv_aload_n hx hb dX11_lacks_11 rfl (lv_at hl 0 rfl) ?_
    refine va_get (D := (dC, dI)) (ci := 11) (v := .ref (g 9)) (C := RX11) (T := TX11) (N := 14) hx hb hwd inA_X11 hown hK hP 0 rfl rfl 8 (by decide) (hwd _ wk_47) (fun _ h9 => h9) rfl dX11_lacks_12 ?_
    refine lv_iload_n hx hb dX11_lacks_15 rfl (lv_at hl 1 rfl) ?_
    refine lv_iload_n hx hb dX11_lacks_16 rfl (lv_at hl 2 rfl) ?_
    refine va_calli (va_runV (As := [.int p0, .int p1]) (rest := []) ⟨hx, hb, hml, hown, hwd⟩ (c_X0_hasLine l dC dI g c adK adV v F rc H.size p0 p1 hg hI (by omega)) (cwV 2 hwd (gV wk_1146 wk_1143 wk_1144 wk_1145 wk_46) rfl rfl rfl (by decide +kernel) ⟨Nat.le_of_ble_eq_true rfl, Nat.le_of_ble_eq_true rfl⟩) ⟨PX.blind, va_recv hK hP (ci := 0) (q0 := 9) rfl rfl, fun U hU hW => ⟨rfl, PX.at hK hE hP hS hU hW⟩⟩ rfl rfl hl.1 rfl (lv_room (Nat.le_of_ble_eq_true rfl)) dX11_lacks_17 ⟨Nat.le_of_ble_eq_true rfl, Nat.le_of_ble_eq_true rfl⟩) hS (fun q _ h => (freeX hS) q h) (freeX hS) (fun r2558 u t H1 locs ht hvm hw hB hz1 hk1 hS => ?_)
    unfold BX at hB
    rw [ht] at hB
    have hP : va_P (dC, dI) classes (wX g c v F rc) H1 := hB
    have hw : (0 ≤ r2558.toInt ∧ r2558.toInt ≤ 1) ∧ (r2558.toInt = 1 → 0 ≤ p1.toInt ∧ p1.toInt ≤ 29) := hw
    generalize H1 = H at hP hS ⊢
    have hw_r2558 := hw
    refine lv_if_eq (tgt := 38) hx hb dX11_lacks_20 (by decide) (fun c2559 => ?_) (fun c2559 => ?_)
    · skip
      have t2560 := cv_eq (a := r2558.toInt) rfl (b := 0) (by decide) c2559
      refine lv_iconst (v := (-1)) hx hb dX11_lacks_38 (by decide) ?_
      have hP9 : va_P (dC, dI) classes (wX g c v F rc) H := hP
      exact W.iret (v := (-1)) hx hb hr (fun t ht hW => ⟨⟨(-1), (v, F, rc), rfl, ⟨hI, hal, rfl, (fun _ _ => rfl), trivial⟩, (by show va_P _ _ _ t.heap; rw [ht]; exact hP9)⟩, hS.F ht⟩) hS.2.2 dX11_lacks_39
    · skip
      have t2561 := cv_ne (a := r2558.toInt) rfl (b := 0) (by decide) c2559
      refine lv_iload_n hx hb dX11_lacks_23 rfl (lv_at hl 3 rfl) ?_
      refine va_calli (va_runS (As := [.int p2]) (rest := []) ⟨hx, hb, hml, hown, hwd⟩ (c_X11_isDay l dC dI g c adK adV v F rc H.size p2 hg hI ) (va_cwS 1 hwd (gT wk_549 wk_547 wk_548 wk_2) rfl rfl rfl (by decide +kernel) ⟨Nat.le_of_ble_eq_true rfl, Nat.le_of_ble_eq_true rfl⟩) ⟨PX.blind, fun U hU hW => ⟨rfl, PX.at hK hE hP hS hU hW⟩⟩ rfl rfl hl.1 rfl (lv_room (Nat.le_of_ble_eq_true rfl)) dX11_lacks_24 ⟨Nat.le_of_ble_eq_true rfl, Nat.le_of_ble_eq_true rfl⟩) hS (fun q _ h => (freeX hS) q h) (freeX hS) (fun r2562 u t H1 locs ht hvm hw hB hz1 hk1 hS => ?_)
      unfold BX at hB
      rw [ht] at hB
      have hP : va_P (dC, dI) classes (wX g c v F rc) H1 := hB
      have hw : (r2562.toInt = 1 ∧ 0 ≤ p2.toInt ∧ p2.toInt ≤ 9999) ∨ (r2562.toInt = 0 ∧ (p2.toInt < 0 ∨ 9999 < p2.toInt)) := hw
      generalize H1 = H at hP hS ⊢
      have hw_r2562 := hw
      refine lv_if_eq (tgt := 38) hx hb dX11_lacks_27 (by decide) (fun c2563 => ?_) (fun c2563 => ?_)
      · skip
        have t2564 := cv_eq (a := r2562.toInt) rfl (b := 0) (by decide) c2563
        refine lv_iconst (v := (-1)) hx hb dX11_lacks_38 (by decide) ?_
        have hP9 : va_P (dC, dI) classes (wX g c v F rc) H := hP
        exact W.iret (v := (-1)) hx hb hr (fun t ht hW => ⟨⟨(-1), (v, F, rc), rfl, ⟨hI, hal, rfl, (fun _ _ => rfl), trivial⟩, (by show va_P _ _ _ t.heap; rw [ht]; exact hP9)⟩, hS.F ht⟩) hS.2.2 dX11_lacks_39
      · skip
        have t2565 := cv_ne (a := r2562.toInt) rfl (b := 0) (by decide) c2563
        refine lv_iload hx hb dX11_lacks_30 (lv_at hl 4 rfl) ?_
        refine va_calli (va_runS (As := [.int p3]) (rest := []) ⟨hx, hb, hml, hown, hwd⟩ (c_X11_isDay l dC dI g c adK adV v F rc H.size p3 hg hI ) (va_cwS 1 hwd (gT wk_549 wk_547 wk_548 wk_2) rfl rfl rfl (by decide +kernel) ⟨Nat.le_of_ble_eq_true rfl, Nat.le_of_ble_eq_true rfl⟩) ⟨PX.blind, fun U hU hW => ⟨rfl, PX.at hK hE hP hS hU hW⟩⟩ rfl rfl hl.1 rfl (lv_room (Nat.le_of_ble_eq_true rfl)) dX11_lacks_32 ⟨Nat.le_of_ble_eq_true rfl, Nat.le_of_ble_eq_true rfl⟩) hS (fun q _ h => (freeX hS) q h) (freeX hS) (fun r2566 u t H1 locs ht hvm hw hB hz1 hk1 hS => ?_)
        unfold BX at hB
        rw [ht] at hB
        have hP : va_P (dC, dI) classes (wX g c v F rc) H1 := hB
        have hw : (r2566.toInt = 1 ∧ 0 ≤ p3.toInt ∧ p3.toInt ≤ 9999) ∨ (r2566.toInt = 0 ∧ (p3.toInt < 0 ∨ 9999 < p3.toInt)) := hw
        generalize H1 = H at hP hS ⊢
        have hw_r2566 := hw
        refine lv_if_ne (tgt := 40) hx hb dX11_lacks_35 (by decide) (fun c2567 => ?_) (fun c2567 => ?_)
        · skip
          have t2568 := cv_ne (a := r2566.toInt) rfl (b := 0) (by decide) c2567
          refine lv_aload_n hx hb dX11_lacks_40 rfl (lv_at hl 0 rfl) ?_
          refine va_get (D := (dC, dI)) (ci := 11) (v := .ref (g 11)) (C := RX11) (T := TX11) (N := 14) hx hb hwd inA_X11 hown hK hP 0 rfl rfl 10 (by decide) (hwd _ wk_55) (fun _ h9 => h9) rfl dX11_lacks_41 ?_
          refine lv_iload_n hx hb dX11_lacks_44 rfl (lv_at hl 1 rfl) ?_
          refine lv_iconst (v := (-1)) hx hb dX11_lacks_45 (by decide) ?_
          refine lv_iload hx hb dX11_lacks_46 (lv_at hl 4 rfl) ?_
          refine va_callv (va_runV (As := [.int p0, .int (-1), .int p3]) (rest := []) ⟨hx, hb, hml, hown, hwd⟩ (c_X1_survey l dC dI g c adK adV v F rc H.size p0 (-1) p3 hg hI ) (cwV 3 hwd (gV wk_1150 wk_1147 wk_1148 wk_1149 wk_54) rfl rfl rfl (by decide +kernel) ⟨Nat.le_of_ble_eq_true rfl, Nat.le_of_ble_eq_true rfl⟩) ⟨PX.blind, va_recv hK hP (ci := 1) (q0 := 11) rfl rfl, fun U hU hW => ⟨rfl, PX.at hK hE hP hS hU hW⟩⟩ rfl rfl hl.1 rfl (lv_room (Nat.le_of_ble_eq_true rfl)) dX11_lacks_48 ⟨Nat.le_of_ble_eq_true rfl, Nat.le_of_ble_eq_true rfl⟩) hS (fun q _ h => (freeX hS) q h) (freeX hS) (fun u t H1 locs ht hvm hw hB hz1 hk1 hS => ?_)
          unfold BX at hB
          rw [ht] at hB
          obtain ⟨v2570, F2571, rc9⟩ := u
          obtain ⟨hI, hal9, hrc, hf2572, hw⟩ := hw
          dsimp only at hI hal9 hrc hB hf2572 hw
          rw [hrc] at hB
          have hal := hal9.trans hal
          have hP : va_P (dC, dI) classes (wX g c v2570 F2571 rc) H1 := hB
          generalize H1 = H at hP hS ⊢
          refine lv_aload_n hx hb dX11_lacks_51 rfl (lv_at hl 0 rfl) ?_
          refine va_get (D := (dC, dI)) (ci := 11) (v := .ref (g 11)) (C := RX11) (T := TX11) (N := 14) hx hb hwd inA_X11 hown hK hP 0 rfl rfl 10 (by decide) (hwd _ wk_55) (fun _ h9 => h9) rfl dX11_lacks_52 ?_
          refine lv_iload_n hx hb dX11_lacks_55 rfl (lv_at hl 1 rfl) ?_
          refine lv_iload_n hx hb dX11_lacks_56 rfl (lv_at hl 2 rfl) ?_
          refine lv_iload_n hx hb dX11_lacks_57 rfl (lv_at hl 3 rfl) ?_
          refine va_calli (va_runV (As := [.int p0, .int p1, .int p2]) (rest := []) ⟨hx, hb, hml, hown, hwd⟩ (c_X1_unitsOf l dC dI g c adK adV v2570 F2571 rc H.size p0 p1 p2 hg hI (by omega) (by omega)) (cwV 3 hwd (gV wk_1169 wk_1166 wk_1167 wk_1168 wk_54) rfl rfl rfl (by decide +kernel) ⟨Nat.le_of_ble_eq_true rfl, Nat.le_of_ble_eq_true rfl⟩) ⟨PX.blind, va_recv hK hP (ci := 1) (q0 := 11) rfl rfl, fun U hU hW => ⟨rfl, PX.at hK hE hP hS hU hW⟩⟩ rfl rfl hl.1 rfl (lv_room (Nat.le_of_ble_eq_true rfl)) dX11_lacks_58 ⟨Nat.le_of_ble_eq_true rfl, Nat.le_of_ble_eq_true rfl⟩) hS (fun q _ h => (freeX hS) q h) (freeX hS) (fun r2573 u t H1 locs ht hvm hw hB hz1 hk1 hS => ?_)
          unfold BX at hB
          rw [ht] at hB
          have hP : va_P (dC, dI) classes (wX g c v2570 F2571 rc) H1 := hB
          generalize H1 = H at hP hS ⊢
          have rr_r2573 := i32_rng r2573
          have hP9 : va_P (dC, dI) classes (wX g c v2570 F2571 rc) H := hP
          exact W.iret (v := r2573) hx hb hr (fun t ht hW => ⟨⟨r2573, (v2570, F2571, rc), rfl, ⟨hI, hal, rfl, (frC (by decide) hf2572 (fun _ _ => rfl)), trivial⟩, (by show va_P _ _ _ t.heap; rw [ht]; exact hP9)⟩, hS.F ht⟩) hS.2.2 dX11_lacks_61
        · skip
          have t2574 := cv_eq (a := r2566.toInt) rfl (b := 0) (by decide) c2567
          refine lv_iconst (v := (-1)) hx hb dX11_lacks_38 (by decide) ?_
          have hP9 : va_P (dC, dI) classes (wX g c v F rc) H := hP
          exact W.iret (v := (-1)) hx hb hr (fun t ht hW => ⟨⟨(-1), (v, F, rc), rfl, ⟨hI, hal, rfl, (fun _ _ => rfl), trivial⟩, (by show va_P _ _ _ t.heap; rw [ht]; exact hP9)⟩, hS.F ht⟩) hS.2.2 dX11_lacks_39
set_option maxHeartbeats 8000000 in
set_option maxRecDepth 100000 in
theorem c_X11_costs (l : Launch) (dC : Nat → ClassId) (dI : Nat → Nat → Nat) (g : Nat → Nat) (c : Nat → ClassId) (adK adV : Nat → Nat) (v : Nat → Int32) (F : Nat → Nat → Int32) (rc sz : Nat) (p0 : Int32) (p1 : Int32) (p2 : Int32) (p3 : Int32) (hg : injX g) (hI : IX v F) : Met l yX11_costs (Cond.code yX11_costs cX11_costs 5 (some .int) :: wA) ({ frames := 8, cells := 0, slots := 0, locals := 320 }) (va_Pc [.ref (g 0), .int p0, .int p1, .int p2, .int p3] (PX dC dI g c adK adV v F rc sz)) (va_Qi (fun (r : Int32) (u : StX) => IX u.1 u.2.1 ∧ alX u.1 u.2.1 = alX v F ∧ u.2.2 = rc ∧ (∀ k, k ∉ ([126, 229] : List Nat) → u.1 k = v k) ∧ True) (BX dC dI g c) (AX g sz)) 0 0 (AX g sz) := by
  refine Met.ofW (cc := cX11_costs) (maxL := 5) (ret := (some .int)) (by decide) rfl ?_
  intro p e s m args below meth c0 s₁ B hml hv
  obtain ⟨rfl, hsz, hP, hK, hE⟩ := hv
  have hx := B.exec
  have hb := B.bytes
  have hr := B.returns
  have hts := atoms_spec (ws := Cond.code yX11_costs cX11_costs 5 (some .int) :: wA) B.pre
  have hwd : ∀ w ∈ wA, w.before _ s = true := fun w h => hts w (List.mem_cons_of_mem _ h)
  have hown : s.vm.findClass RX11 = some m.cls := findClass_of_methodNamed B.named
  have hlocks := B.notSynchronized
  subst hsz
  have hl := lv_entry ([.ref (g 0), .int p0, .int p1, .int p2, .int p3]) (n := 5) (Nat.le_of_ble_eq_true rfl)
  rw [lg_entry_eq]
  generalize (lg_sl ([.ref (g 0), .int p0, .int p1, .int p2, .int p3]) ++ List.replicate (5 - (lg_sl ([.ref (g 0), .int p0, .int p1, .int p2, .int p3])).length) Slot.unset).toArray = ls at hl ⊢
  have hl : lv_has ls 5 [(0, .ref (g 0)), (1, .int p0), (2, .int p1), (3, .int p2), (4, .int p3)] := hl
  obtain ⟨H, eH⟩ : ∃ z, z = s.heap := ⟨_, rfl⟩
  have hP : va_P (dC, dI) classes (wX g c v F rc) H := by rw [eH]; exact hP
  have hS : va_S (AX g s.heap.size) s.heap H [] := by rw [eH]; exact va_S.rf
  refine my_heap eH ?_
  have hal : alX v F = alX v F := rfl
  have rp0 := i32_rng p0
  have rp1 := i32_rng p1
  have rp2 := i32_rng p2
  have rp3 := i32_rng p3
  refine lv_aload_n hx hb dX11_costs_0 rfl (lv_at hl 0 rfl) ?_
  refine va_get (D := (dC, dI)) (ci := 11) (v := .ref (g 2)) (C := RX11) (T := TX11) (N := 14) hx hb hwd inA_X11 hown hK hP 0 rfl rfl 1 (by decide) (hwd _ wk_19) (fun _ h9 => h9) rfl dX11_costs_1 ?_
  refine lv_iload_n hx hb dX11_costs_4 rfl (lv_at hl 1 rfl) ?_
  refine va_calli (va_runV (As := [.int p0]) (rest := []) ⟨hx, hb, hml, hown, hwd⟩ (c_X8_has l dC dI g c adK adV v F rc H.size p0 hg hI ) (cwV 1 hwd (gV wk_276 wk_273 wk_274 wk_275 wk_18) rfl rfl rfl (by decide +kernel) ⟨Nat.le_of_ble_eq_true rfl, Nat.le_of_ble_eq_true rfl⟩) ⟨PX.blind, va_recv hK hP (ci := 8) (q0 := 2) rfl rfl, fun U hU hW => ⟨rfl, PX.at hK hE hP hS hU hW⟩⟩ rfl rfl hl.1 rfl (lv_room (Nat.le_of_ble_eq_true rfl)) dX11_costs_5 ⟨Nat.le_of_ble_eq_true rfl, Nat.le_of_ble_eq_true rfl⟩) hS (fun q _ h => (freeX hS) q h) (freeX hS) (fun r2575 u t H1 locs ht hvm hw hB hz1 hk1 hS => ?_)
  unfold BX at hB
  rw [ht] at hB
  have hP : va_P (dC, dI) classes (wX g c v F rc) H1 := hB
  have hw : (0 ≤ r2575.toInt ∧ r2575.toInt ≤ 1) ∧ (r2575.toInt = 1 → 0 ≤ p0.toInt ∧ p0.toInt < 10) := hw
  generalize H1 = H at hP hS ⊢
  have hw_r2575 := hw
  refine lv_if_eq (tgt := 37) hx hb dX11_costs_8 (by decide) (fun c2576 => ?_) (fun c2576 => ?_)
  · skip
    have t2577 := cv_eq (a := r2575.toInt) rfl (b := 0) (by decide) c2576
    refine lv_ldc (v := (-2000000000)) hx hb hown (hwd _ wk_56) dX11_costs_37 ?_
    have hP9 : va_P (dC, dI) classes (wX g c v F rc) H := hP
    exact W.iret (v := (-2000000000)) hx hb hr (fun t ht hW => ⟨⟨(-2000000000), (v, F, rc), rfl, ⟨hI, hal, rfl, (fun _ _ => rfl), trivial⟩, (by show va_P _ _ _ t.heap; rw [ht]; exact hP9)⟩, hS.F ht⟩) hS.2.2 dX11_costs_39
  · skip
    have t2578 := cv_ne (a := r2575.toInt) rfl (b := 0) (by decide) c2576
    refine lv_aload_n hx hb dX11_costs_11 rfl (lv_at hl 0 rfl) ?_
    refine va_get (D := (dC, dI)) (ci := 11) (v := .ref (g 9)) (C := RX11) (T := TX11) (N := 14) hx hb hwd inA_X11 hown hK hP 0 rfl rfl 8 (by decide) (hwd _ wk_47) (fun _ h9 => h9) rfl dX11_costs_12 ?_
    refine lv_iload_n hx hb dX11_costs_15 rfl (lv_at hl 1 rfl) ?_
    refine va_calli (va_runV (As := [.int p0]) (rest := []) ⟨hx, hb, hml, hown, hwd⟩ (c_X0_isSigned l dC dI g c adK adV v F rc H.size p0 hg hI (by omega)) (cwV 1 hwd (gV wk_1221 wk_1218 wk_1219 wk_1220 wk_46) rfl rfl rfl (by decide +kernel) ⟨Nat.le_of_ble_eq_true rfl, Nat.le_of_ble_eq_true rfl⟩) ⟨PX.blind, va_recv hK hP (ci := 0) (q0 := 9) rfl rfl, fun U hU hW => ⟨rfl, PX.at hK hE hP hS hU hW⟩⟩ rfl rfl hl.1 rfl (lv_room (Nat.le_of_ble_eq_true rfl)) dX11_costs_16 ⟨Nat.le_of_ble_eq_true rfl, Nat.le_of_ble_eq_true rfl⟩) hS (fun q _ h => (freeX hS) q h) (freeX hS) (fun r2579 u t H1 locs ht hvm hw hB hz1 hk1 hS => ?_)
    unfold BX at hB
    rw [ht] at hB
    have hP : va_P (dC, dI) classes (wX g c v F rc) H1 := hB
    have hw : 0 ≤ r2579.toInt ∧ r2579.toInt ≤ 1 := hw
    generalize H1 = H at hP hS ⊢
    have hw_r2579 := hw
    refine lv_if_eq (tgt := 37) hx hb dX11_costs_19 (by decide) (fun c2580 => ?_) (fun c2580 => ?_)
    · skip
      have t2581 := cv_eq (a := r2579.toInt) rfl (b := 0) (by decide) c2580
      refine lv_ldc (v := (-2000000000)) hx hb hown (hwd _ wk_56) dX11_costs_37 ?_
      have hP9 : va_P (dC, dI) classes (wX g c v F rc) H := hP
      exact W.iret (v := (-2000000000)) hx hb hr (fun t ht hW => ⟨⟨(-2000000000), (v, F, rc), rfl, ⟨hI, hal, rfl, (fun _ _ => rfl), trivial⟩, (by show va_P _ _ _ t.heap; rw [ht]; exact hP9)⟩, hS.F ht⟩) hS.2.2 dX11_costs_39
    · skip
      have t2582 := cv_ne (a := r2579.toInt) rfl (b := 0) (by decide) c2580
      refine lv_iload_n hx hb dX11_costs_22 rfl (lv_at hl 3 rfl) ?_
      refine va_calli (va_runS (As := [.int p2]) (rest := []) ⟨hx, hb, hml, hown, hwd⟩ (c_X11_isDay l dC dI g c adK adV v F rc H.size p2 hg hI ) (va_cwS 1 hwd (gT wk_549 wk_547 wk_548 wk_2) rfl rfl rfl (by decide +kernel) ⟨Nat.le_of_ble_eq_true rfl, Nat.le_of_ble_eq_true rfl⟩) ⟨PX.blind, fun U hU hW => ⟨rfl, PX.at hK hE hP hS hU hW⟩⟩ rfl rfl hl.1 rfl (lv_room (Nat.le_of_ble_eq_true rfl)) dX11_costs_23 ⟨Nat.le_of_ble_eq_true rfl, Nat.le_of_ble_eq_true rfl⟩) hS (fun q _ h => (freeX hS) q h) (freeX hS) (fun r2583 u t H1 locs ht hvm hw hB hz1 hk1 hS => ?_)
      unfold BX at hB
      rw [ht] at hB
      have hP : va_P (dC, dI) classes (wX g c v F rc) H1 := hB
      have hw : (r2583.toInt = 1 ∧ 0 ≤ p2.toInt ∧ p2.toInt ≤ 9999) ∨ (r2583.toInt = 0 ∧ (p2.toInt < 0 ∨ 9999 < p2.toInt)) := hw
      generalize H1 = H at hP hS ⊢
      have hw_r2583 := hw
      refine lv_if_eq (tgt := 37) hx hb dX11_costs_26 (by decide) (fun c2584 => ?_) (fun c2584 => ?_)
      · skip
        have t2585 := cv_eq (a := r2583.toInt) rfl (b := 0) (by decide) c2584
        refine lv_ldc (v := (-2000000000)) hx hb hown (hwd _ wk_56) dX11_costs_37 ?_
        have hP9 : va_P (dC, dI) classes (wX g c v F rc) H := hP
        exact W.iret (v := (-2000000000)) hx hb hr (fun t ht hW => ⟨⟨(-2000000000), (v, F, rc), rfl, ⟨hI, hal, rfl, (fun _ _ => rfl), trivial⟩, (by show va_P _ _ _ t.heap; rw [ht]; exact hP9)⟩, hS.F ht⟩) hS.2.2 dX11_costs_39
      · skip
        have t2586 := cv_ne (a := r2583.toInt) rfl (b := 0) (by decide) c2584
        refine lv_iload hx hb dX11_costs_29 (lv_at hl 4 rfl) ?_
        refine va_calli (va_runS (As := [.int p3]) (rest := []) ⟨hx, hb, hml, hown, hwd⟩ (c_X11_isDay l dC dI g c adK adV v F rc H.size p3 hg hI ) (va_cwS 1 hwd (gT wk_549 wk_547 wk_548 wk_2) rfl rfl rfl (by decide +kernel) ⟨Nat.le_of_ble_eq_true rfl, Nat.le_of_ble_eq_true rfl⟩) ⟨PX.blind, fun U hU hW => ⟨rfl, PX.at hK hE hP hS hU hW⟩⟩ rfl rfl hl.1 rfl (lv_room (Nat.le_of_ble_eq_true rfl)) dX11_costs_31 ⟨Nat.le_of_ble_eq_true rfl, Nat.le_of_ble_eq_true rfl⟩) hS (fun q _ h => (freeX hS) q h) (freeX hS) (fun r2587 u t H1 locs ht hvm hw hB hz1 hk1 hS => ?_)
        unfold BX at hB
        rw [ht] at hB
        have hP : va_P (dC, dI) classes (wX g c v F rc) H1 := hB
        have hw : (r2587.toInt = 1 ∧ 0 ≤ p3.toInt ∧ p3.toInt ≤ 9999) ∨ (r2587.toInt = 0 ∧ (p3.toInt < 0 ∨ 9999 < p3.toInt)) := hw
        generalize H1 = H at hP hS ⊢
        have hw_r2587 := hw
        refine lv_if_ne (tgt := 40) hx hb dX11_costs_34 (by decide) (fun c2588 => ?_) (fun c2588 => ?_)
        · skip
          have t2589 := cv_ne (a := r2587.toInt) rfl (b := 0) (by decide) c2588
          refine lv_iload_n hx hb dX11_costs_40 rfl (lv_at hl 2 rfl) ?_
          refine lv_iconst (v := (-1)) hx hb dX11_costs_41 (by decide) ?_
          refine lv_icmp_eq (tgt := 60) hx hb dX11_costs_42 (by decide) (fun c2590 => ?_) (fun c2590 => ?_)
          · skip
            have t2591 := cv_eq (a := p1.toInt) rfl (b := (-1)) (by decide) c2590
            refine lv_aload_n hx hb dX11_costs_60 rfl (lv_at hl 0 rfl) ?_
            refine va_get (D := (dC, dI)) (ci := 11) (v := .ref (g 11)) (C := RX11) (T := TX11) (N := 14) hx hb hwd inA_X11 hown hK hP 0 rfl rfl 10 (by decide) (hwd _ wk_55) (fun _ h9 => h9) rfl dX11_costs_61 ?_
            refine lv_iload_n hx hb dX11_costs_64 rfl (lv_at hl 1 rfl) ?_
            refine lv_iconst (v := (-1)) hx hb dX11_costs_65 (by decide) ?_
            refine lv_iload hx hb dX11_costs_66 (lv_at hl 4 rfl) ?_
            refine va_callv (va_runV (As := [.int p0, .int (-1), .int p3]) (rest := []) ⟨hx, hb, hml, hown, hwd⟩ (c_X1_survey l dC dI g c adK adV v F rc H.size p0 (-1) p3 hg hI ) (cwV 3 hwd (gV wk_1150 wk_1147 wk_1148 wk_1149 wk_54) rfl rfl rfl (by decide +kernel) ⟨Nat.le_of_ble_eq_true rfl, Nat.le_of_ble_eq_true rfl⟩) ⟨PX.blind, va_recv hK hP (ci := 1) (q0 := 11) rfl rfl, fun U hU hW => ⟨rfl, PX.at hK hE hP hS hU hW⟩⟩ rfl rfl hl.1 rfl (lv_room (Nat.le_of_ble_eq_true rfl)) dX11_costs_68 ⟨Nat.le_of_ble_eq_true rfl, Nat.le_of_ble_eq_true rfl⟩) hS (fun q _ h => (freeX hS) q h) (freeX hS) (fun u t H1 locs ht hvm hw hB hz1 hk1 hS => ?_)
            unfold BX at hB
            rw [ht] at hB
            obtain ⟨v2593, F2594, rc9⟩ := u
            obtain ⟨hI, hal9, hrc, hf2595, hw⟩ := hw
            dsimp only at hI hal9 hrc hB hf2595 hw
            rw [hrc] at hB
            have hal := hal9.trans hal
            have hP : va_P (dC, dI) classes (wX g c v2593 F2594 rc) H1 := hB
            generalize H1 = H at hP hS ⊢
            refine lv_iload_n hx hb dX11_costs_71 rfl (lv_at hl 2 rfl) ?_
            refine lv_iconst (v := (-1)) hx hb dX11_costs_72 (by decide) ?_
            refine lv_icmp_ne (tgt := 88) hx hb dX11_costs_73 (by decide) (fun c2596 => ?_) (fun c2596 => ?_)
            · skip
              have t2597 := cv_ne (a := p1.toInt) rfl (b := (-1)) (by decide) c2596
              refine lv_aload_n hx hb dX11_costs_88 rfl (lv_at hl 0 rfl) ?_
              refine va_get (D := (dC, dI)) (ci := 11) (v := .ref (g 11)) (C := RX11) (T := TX11) (N := 14) hx hb hwd inA_X11 hown hK hP 0 rfl rfl 10 (by decide) (hwd _ wk_55) (fun _ h9 => h9) rfl dX11_costs_89 ?_
              refine lv_iload_n hx hb dX11_costs_92 rfl (lv_at hl 1 rfl) ?_
              refine lv_iload_n hx hb dX11_costs_93 rfl (lv_at hl 2 rfl) ?_
              refine lv_iload_n hx hb dX11_costs_94 rfl (lv_at hl 3 rfl) ?_
              refine va_calli (va_runV (As := [.int p0, .int p1, .int p2]) (rest := []) ⟨hx, hb, hml, hown, hwd⟩ (c_X1_linePrice l dC dI g c adK adV v2593 F2594 rc H.size p0 p1 p2 hg hI (by omega) (by omega)) (cwV 3 hwd (gV wk_1230 wk_1239 wk_1228 wk_1229 wk_54) rfl rfl rfl (by decide +kernel) ⟨Nat.le_of_ble_eq_true rfl, Nat.le_of_ble_eq_true rfl⟩) ⟨PX.blind, va_recv hK hP (ci := 1) (q0 := 11) rfl rfl, fun U hU hW => ⟨rfl, PX.at hK hE hP hS hU hW⟩⟩ rfl rfl hl.1 rfl (lv_room (Nat.le_of_ble_eq_true rfl)) dX11_costs_95 ⟨Nat.le_of_ble_eq_true rfl, Nat.le_of_ble_eq_true rfl⟩) hS (fun q _ h => (freeX hS) q h) (freeX hS) (fun r2598 u t H1 locs ht hvm hw hB hz1 hk1 hS => ?_)
              unfold BX at hB
              rw [ht] at hB
              have hP : va_P (dC, dI) classes (wX g c v2593 F2594 rc) H1 := hB
              generalize H1 = H at hP hS ⊢
              have rr_r2598 := i32_rng r2598
              have hP9 : va_P (dC, dI) classes (wX g c v2593 F2594 rc) H := hP
              exact W.iret (v := r2598) hx hb hr (fun t ht hW => ⟨⟨r2598, (v2593, F2594, rc), rfl, ⟨hI, hal, rfl, (frC (by decide) hf2595 (fun _ _ => rfl)), trivial⟩, (by show va_P _ _ _ t.heap; rw [ht]; exact hP9)⟩, hS.F ht⟩) hS.2.2 dX11_costs_98
            · skip
              have t2599 := cv_eq (a := p1.toInt) rfl (b := (-1)) (by decide) c2596
              refine lv_aload_n hx hb dX11_costs_76 rfl (lv_at hl 0 rfl) ?_
              refine va_get (D := (dC, dI)) (ci := 11) (v := .ref (g 11)) (C := RX11) (T := TX11) (N := 14) hx hb hwd inA_X11 hown hK hP 0 rfl rfl 10 (by decide) (hwd _ wk_55) (fun _ h9 => h9) rfl dX11_costs_77 ?_
              refine lv_iload_n hx hb dX11_costs_80 rfl (lv_at hl 1 rfl) ?_
              refine lv_iload_n hx hb dX11_costs_81 rfl (lv_at hl 3 rfl) ?_
              refine va_calli (va_runV (As := [.int p0, .int p2]) (rest := []) ⟨hx, hb, hml, hown, hwd⟩ (c_X1_priceOf l dC dI g c adK adV v2593 F2594 rc H.size p0 p2 hg hI (by omega)) (cwV 2 hwd (gV wk_1225 wk_1222 wk_1223 wk_1224 wk_54) rfl rfl rfl (by decide +kernel) ⟨Nat.le_of_ble_eq_true rfl, Nat.le_of_ble_eq_true rfl⟩) ⟨PX.blind, va_recv hK hP (ci := 1) (q0 := 11) rfl rfl, fun U hU hW => ⟨rfl, PX.at hK hE hP hS hU hW⟩⟩ rfl rfl hl.1 rfl (lv_room (Nat.le_of_ble_eq_true rfl)) dX11_costs_82 ⟨Nat.le_of_ble_eq_true rfl, Nat.le_of_ble_eq_true rfl⟩) hS (fun q _ h => (freeX hS) q h) (freeX hS) (fun r2600 u t H1 locs ht hvm hw hB hz1 hk1 hS => ?_)
              unfold BX at hB
              rw [ht] at hB
              have hP : va_P (dC, dI) classes (wX g c v2593 F2594 rc) H1 := hB
              generalize H1 = H at hP hS ⊢
              have rr_r2600 := i32_rng r2600
              refine lv_goto (tgt := 98) hx hb dX11_costs_85 (by decide) ?_
              have hP9 : va_P (dC, dI) classes (wX g c v2593 F2594 rc) H := hP
              exact W.iret (v := r2600) hx hb hr (fun t ht hW => ⟨⟨r2600, (v2593, F2594, rc), rfl, ⟨hI, hal, rfl, (frC (by decide) hf2595 (fun _ _ => rfl)), trivial⟩, (by show va_P _ _ _ t.heap; rw [ht]; exact hP9)⟩, hS.F ht⟩) hS.2.2 dX11_costs_98
          · skip
            have t2601 := cv_ne (a := p1.toInt) rfl (b := (-1)) (by decide) c2590
            refine lv_aload_n hx hb dX11_costs_45 rfl (lv_at hl 0 rfl) ?_
            refine va_get (D := (dC, dI)) (ci := 11) (v := .ref (g 9)) (C := RX11) (T := TX11) (N := 14) hx hb hwd inA_X11 hown hK hP 0 rfl rfl 8 (by decide) (hwd _ wk_47) (fun _ h9 => h9) rfl dX11_costs_46 ?_
            refine lv_iload_n hx hb dX11_costs_49 rfl (lv_at hl 1 rfl) ?_
            refine lv_iload_n hx hb dX11_costs_50 rfl (lv_at hl 2 rfl) ?_
            refine va_calli (va_runV (As := [.int p0, .int p1]) (rest := []) ⟨hx, hb, hml, hown, hwd⟩ (c_X0_hasLine l dC dI g c adK adV v F rc H.size p0 p1 hg hI (by omega)) (cwV 2 hwd (gV wk_1146 wk_1143 wk_1144 wk_1145 wk_46) rfl rfl rfl (by decide +kernel) ⟨Nat.le_of_ble_eq_true rfl, Nat.le_of_ble_eq_true rfl⟩) ⟨PX.blind, va_recv hK hP (ci := 0) (q0 := 9) rfl rfl, fun U hU hW => ⟨rfl, PX.at hK hE hP hS hU hW⟩⟩ rfl rfl hl.1 rfl (lv_room (Nat.le_of_ble_eq_true rfl)) dX11_costs_51 ⟨Nat.le_of_ble_eq_true rfl, Nat.le_of_ble_eq_true rfl⟩) hS (fun q _ h => (freeX hS) q h) (freeX hS) (fun r2602 u t H1 locs ht hvm hw hB hz1 hk1 hS => ?_)
            unfold BX at hB
            rw [ht] at hB
            have hP : va_P (dC, dI) classes (wX g c v F rc) H1 := hB
            have hw : (0 ≤ r2602.toInt ∧ r2602.toInt ≤ 1) ∧ (r2602.toInt = 1 → 0 ≤ p1.toInt ∧ p1.toInt ≤ 29) := hw
            generalize H1 = H at hP hS ⊢
            have hw_r2602 := hw
            refine lv_if_ne (tgt := 60) hx hb dX11_costs_54 (by decide) (fun c2603 => ?_) (fun c2603 => ?_)
            · skip
              have t2604 := cv_ne (a := r2602.toInt) rfl (b := 0) (by decide) c2603
              refine lv_aload_n hx hb dX11_costs_60 rfl (lv_at hl 0 rfl) ?_
              refine va_get (D := (dC, dI)) (ci := 11) (v := .ref (g 11)) (C := RX11) (T := TX11) (N := 14) hx hb hwd inA_X11 hown hK hP 0 rfl rfl 10 (by decide) (hwd _ wk_55) (fun _ h9 => h9) rfl dX11_costs_61 ?_
              refine lv_iload_n hx hb dX11_costs_64 rfl (lv_at hl 1 rfl) ?_
              refine lv_iconst (v := (-1)) hx hb dX11_costs_65 (by decide) ?_
              refine lv_iload hx hb dX11_costs_66 (lv_at hl 4 rfl) ?_
              refine va_callv (va_runV (As := [.int p0, .int (-1), .int p3]) (rest := []) ⟨hx, hb, hml, hown, hwd⟩ (c_X1_survey l dC dI g c adK adV v F rc H.size p0 (-1) p3 hg hI ) (cwV 3 hwd (gV wk_1150 wk_1147 wk_1148 wk_1149 wk_54) rfl rfl rfl (by decide +kernel) ⟨Nat.le_of_ble_eq_true rfl, Nat.le_of_ble_eq_true rfl⟩) ⟨PX.blind, va_recv hK hP (ci := 1) (q0 := 11) rfl rfl, fun U hU hW => ⟨rfl, PX.at hK hE hP hS hU hW⟩⟩ rfl rfl hl.1 rfl (lv_room (Nat.le_of_ble_eq_true rfl)) dX11_costs_68 ⟨Nat.le_of_ble_eq_true rfl, Nat.le_of_ble_eq_true rfl⟩) hS (fun q _ h => (freeX hS) q h) (freeX hS) (fun u t H1 locs ht hvm hw hB hz1 hk1 hS => ?_)
              unfold BX at hB
              rw [ht] at hB
              obtain ⟨v2606, F2607, rc9⟩ := u
              obtain ⟨hI, hal9, hrc, hf2608, hw⟩ := hw
              dsimp only at hI hal9 hrc hB hf2608 hw
              rw [hrc] at hB
              have hal := hal9.trans hal
              have hP : va_P (dC, dI) classes (wX g c v2606 F2607 rc) H1 := hB
              generalize H1 = H at hP hS ⊢
              refine lv_iload_n hx hb dX11_costs_71 rfl (lv_at hl 2 rfl) ?_
              refine lv_iconst (v := (-1)) hx hb dX11_costs_72 (by decide) ?_
              refine lv_icmp_ne (tgt := 88) hx hb dX11_costs_73 (by decide) (fun c2609 => ?_) (fun c2609 => ?_)
              · skip
                have t2610 := cv_ne (a := p1.toInt) rfl (b := (-1)) (by decide) c2609
                refine lv_aload_n hx hb dX11_costs_88 rfl (lv_at hl 0 rfl) ?_
                refine va_get (D := (dC, dI)) (ci := 11) (v := .ref (g 11)) (C := RX11) (T := TX11) (N := 14) hx hb hwd inA_X11 hown hK hP 0 rfl rfl 10 (by decide) (hwd _ wk_55) (fun _ h9 => h9) rfl dX11_costs_89 ?_
                refine lv_iload_n hx hb dX11_costs_92 rfl (lv_at hl 1 rfl) ?_
                refine lv_iload_n hx hb dX11_costs_93 rfl (lv_at hl 2 rfl) ?_
                refine lv_iload_n hx hb dX11_costs_94 rfl (lv_at hl 3 rfl) ?_
                refine va_calli (va_runV (As := [.int p0, .int p1, .int p2]) (rest := []) ⟨hx, hb, hml, hown, hwd⟩ (c_X1_linePrice l dC dI g c adK adV v2606 F2607 rc H.size p0 p1 p2 hg hI (by omega) (by omega)) (cwV 3 hwd (gV wk_1230 wk_1239 wk_1228 wk_1229 wk_54) rfl rfl rfl (by decide +kernel) ⟨Nat.le_of_ble_eq_true rfl, Nat.le_of_ble_eq_true rfl⟩) ⟨PX.blind, va_recv hK hP (ci := 1) (q0 := 11) rfl rfl, fun U hU hW => ⟨rfl, PX.at hK hE hP hS hU hW⟩⟩ rfl rfl hl.1 rfl (lv_room (Nat.le_of_ble_eq_true rfl)) dX11_costs_95 ⟨Nat.le_of_ble_eq_true rfl, Nat.le_of_ble_eq_true rfl⟩) hS (fun q _ h => (freeX hS) q h) (freeX hS) (fun r2611 u t H1 locs ht hvm hw hB hz1 hk1 hS => ?_)
                unfold BX at hB
                rw [ht] at hB
                have hP : va_P (dC, dI) classes (wX g c v2606 F2607 rc) H1 := hB
                generalize H1 = H at hP hS ⊢
                have rr_r2611 := i32_rng r2611
                have hP9 : va_P (dC, dI) classes (wX g c v2606 F2607 rc) H := hP
                exact W.iret (v := r2611) hx hb hr (fun t ht hW => ⟨⟨r2611, (v2606, F2607, rc), rfl, ⟨hI, hal, rfl, (frC (by decide) hf2608 (fun _ _ => rfl)), trivial⟩, (by show va_P _ _ _ t.heap; rw [ht]; exact hP9)⟩, hS.F ht⟩) hS.2.2 dX11_costs_98
              · skip
                have t2612 := cv_eq (a := p1.toInt) rfl (b := (-1)) (by decide) c2609
                refine lv_aload_n hx hb dX11_costs_76 rfl (lv_at hl 0 rfl) ?_
                refine va_get (D := (dC, dI)) (ci := 11) (v := .ref (g 11)) (C := RX11) (T := TX11) (N := 14) hx hb hwd inA_X11 hown hK hP 0 rfl rfl 10 (by decide) (hwd _ wk_55) (fun _ h9 => h9) rfl dX11_costs_77 ?_
                refine lv_iload_n hx hb dX11_costs_80 rfl (lv_at hl 1 rfl) ?_
                refine lv_iload_n hx hb dX11_costs_81 rfl (lv_at hl 3 rfl) ?_
                refine va_calli (va_runV (As := [.int p0, .int p2]) (rest := []) ⟨hx, hb, hml, hown, hwd⟩ (c_X1_priceOf l dC dI g c adK adV v2606 F2607 rc H.size p0 p2 hg hI (by omega)) (cwV 2 hwd (gV wk_1225 wk_1222 wk_1223 wk_1224 wk_54) rfl rfl rfl (by decide +kernel) ⟨Nat.le_of_ble_eq_true rfl, Nat.le_of_ble_eq_true rfl⟩) ⟨PX.blind, va_recv hK hP (ci := 1) (q0 := 11) rfl rfl, fun U hU hW => ⟨rfl, PX.at hK hE hP hS hU hW⟩⟩ rfl rfl hl.1 rfl (lv_room (Nat.le_of_ble_eq_true rfl)) dX11_costs_82 ⟨Nat.le_of_ble_eq_true rfl, Nat.le_of_ble_eq_true rfl⟩) hS (fun q _ h => (freeX hS) q h) (freeX hS) (fun r2613 u t H1 locs ht hvm hw hB hz1 hk1 hS => ?_)
                unfold BX at hB
                rw [ht] at hB
                have hP : va_P (dC, dI) classes (wX g c v2606 F2607 rc) H1 := hB
                generalize H1 = H at hP hS ⊢
                have rr_r2613 := i32_rng r2613
                refine lv_goto (tgt := 98) hx hb dX11_costs_85 (by decide) ?_
                have hP9 : va_P (dC, dI) classes (wX g c v2606 F2607 rc) H := hP
                exact W.iret (v := r2613) hx hb hr (fun t ht hW => ⟨⟨r2613, (v2606, F2607, rc), rfl, ⟨hI, hal, rfl, (frC (by decide) hf2608 (fun _ _ => rfl)), trivial⟩, (by show va_P _ _ _ t.heap; rw [ht]; exact hP9)⟩, hS.F ht⟩) hS.2.2 dX11_costs_98
            · skip
              have t2614 := cv_eq (a := r2602.toInt) rfl (b := 0) (by decide) c2603
              refine lv_ldc (v := (-2000000000)) hx hb hown (hwd _ wk_56) dX11_costs_57 ?_
              have hP9 : va_P (dC, dI) classes (wX g c v F rc) H := hP
              exact W.iret (v := (-2000000000)) hx hb hr (fun t ht hW => ⟨⟨(-2000000000), (v, F, rc), rfl, ⟨hI, hal, rfl, (fun _ _ => rfl), trivial⟩, (by show va_P _ _ _ t.heap; rw [ht]; exact hP9)⟩, hS.F ht⟩) hS.2.2 dX11_costs_59
        · skip
          have t2615 := cv_eq (a := r2587.toInt) rfl (b := 0) (by decide) c2588
          refine lv_ldc (v := (-2000000000)) hx hb hown (hwd _ wk_56) dX11_costs_37 ?_
          have hP9 : va_P (dC, dI) classes (wX g c v F rc) H := hP
          exact W.iret (v := (-2000000000)) hx hb hr (fun t ht hW => ⟨⟨(-2000000000), (v, F, rc), rfl, ⟨hI, hal, rfl, (fun _ _ => rfl), trivial⟩, (by show va_P _ _ _ t.heap; rw [ht]; exact hP9)⟩, hS.F ht⟩) hS.2.2 dX11_costs_39
set_option maxHeartbeats 8000000 in
set_option maxRecDepth 100000 in
theorem c_X11_bestCost (l : Launch) (dC : Nat → ClassId) (dI : Nat → Nat → Nat) (g : Nat → Nat) (c : Nat → ClassId) (adK adV : Nat → Nat) (v : Nat → Int32) (F : Nat → Nat → Int32) (rc sz : Nat) (hg : injX g) (hI : IX v F) : Met l yX11_bestCost (Cond.code yX11_bestCost cX11_bestCost 1 (some .int) :: wA) ({ frames := 1, cells := 0, slots := 0, locals := 40 }) (va_Pc [.ref (g 0)] (PX dC dI g c adK adV v F rc sz)) (va_Qi (fun (r : Int32) (u : Unit) => True) (fun (_ : Unit) => BX dC dI g c (v, F, rc)) (AX g sz)) 0 0 (AX g sz) := by
  refine Met.ofW (cc := cX11_bestCost) (maxL := 1) (ret := (some .int)) (by decide) rfl ?_
  intro p e s m args below meth c0 s₁ B hml hv
  obtain ⟨rfl, hsz, hP, hK, hE⟩ := hv
  have hx := B.exec
  have hb := B.bytes
  have hr := B.returns
  have hts := atoms_spec (ws := Cond.code yX11_bestCost cX11_bestCost 1 (some .int) :: wA) B.pre
  have hwd : ∀ w ∈ wA, w.before _ s = true := fun w h => hts w (List.mem_cons_of_mem _ h)
  have hown : s.vm.findClass RX11 = some m.cls := findClass_of_methodNamed B.named
  have hlocks := B.notSynchronized
  subst hsz
  have hl := lv_entry ([.ref (g 0)]) (n := 1) (Nat.le_of_ble_eq_true rfl)
  rw [lg_entry_eq]
  generalize (lg_sl ([.ref (g 0)]) ++ List.replicate (1 - (lg_sl ([.ref (g 0)])).length) Slot.unset).toArray = ls at hl ⊢
  have hl : lv_has ls 1 [(0, .ref (g 0))] := hl
  obtain ⟨H, eH⟩ : ∃ z, z = s.heap := ⟨_, rfl⟩
  have hP : va_P (dC, dI) classes (wX g c v F rc) H := by rw [eH]; exact hP
  have hS : va_S (AX g s.heap.size) s.heap H [] := by rw [eH]; exact va_S.rf
  refine my_heap eH ?_
  refine lv_aload_n hx hb dX11_bestCost_0 rfl (lv_at hl 0 rfl) ?_
  refine va_get (D := (dC, dI)) (ci := 11) (v := .int (v 13)) (C := RX11) (T := TX11) (N := 14) hx hb hwd inA_X11 hown hK hP 0 rfl rfl 13 (by decide) (hwd _ wk_57) (fun _ h9 => h9) rfl dX11_bestCost_1 ?_
  have hP9 : va_P (dC, dI) classes (wX g c v F rc) H := hP
  exact W.iret (v := v 13) hx hb hr (fun t ht hW => ⟨⟨(v 13), (), rfl, trivial, (by show va_P _ _ _ t.heap; rw [ht]; exact hP9)⟩, hS.F ht⟩) hS.2.2 dX11_bestCost_4
set_option maxHeartbeats 8000000 in
set_option maxRecDepth 100000 in
theorem c_X11_reserve (l : Launch) (dC : Nat → ClassId) (dI : Nat → Nat → Nat) (g : Nat → Nat) (c : Nat → ClassId) (adK adV : Nat → Nat) (v : Nat → Int32) (F : Nat → Nat → Int32) (rc sz : Nat) (p0 : Int32) (p1 : Int32) (hg : injX g) (hI : IX v F) : Met l yX11_reserve (Cond.code yX11_reserve cX11_reserve 3 (some .int) :: wA) ({ frames := 2, cells := 0, slots := 0, locals := 80 }) (va_Pc [.ref (g 0), .int p0, .int p1] (PX dC dI g c adK adV v F rc sz)) (va_Qi (fun (r : Int32) (u : Unit) => True) (fun (_ : Unit) => BX dC dI g c (v, F, rc)) (AX g sz)) 0 0 (AX g sz) := by
  refine Met.ofW (cc := cX11_reserve) (maxL := 3) (ret := (some .int)) (by decide) rfl ?_
  intro p e s m args below meth c0 s₁ B hml hv
  obtain ⟨rfl, hsz, hP, hK, hE⟩ := hv
  have hx := B.exec
  have hb := B.bytes
  have hr := B.returns
  have hts := atoms_spec (ws := Cond.code yX11_reserve cX11_reserve 3 (some .int) :: wA) B.pre
  have hwd : ∀ w ∈ wA, w.before _ s = true := fun w h => hts w (List.mem_cons_of_mem _ h)
  have hown : s.vm.findClass RX11 = some m.cls := findClass_of_methodNamed B.named
  have hlocks := B.notSynchronized
  subst hsz
  have hl := lv_entry ([.ref (g 0), .int p0, .int p1]) (n := 3) (Nat.le_of_ble_eq_true rfl)
  rw [lg_entry_eq]
  generalize (lg_sl ([.ref (g 0), .int p0, .int p1]) ++ List.replicate (3 - (lg_sl ([.ref (g 0), .int p0, .int p1])).length) Slot.unset).toArray = ls at hl ⊢
  have hl : lv_has ls 3 [(0, .ref (g 0)), (1, .int p0), (2, .int p1)] := hl
  obtain ⟨H, eH⟩ : ∃ z, z = s.heap := ⟨_, rfl⟩
  have hP : va_P (dC, dI) classes (wX g c v F rc) H := by rw [eH]; exact hP
  have hS : va_S (AX g s.heap.size) s.heap H [] := by rw [eH]; exact va_S.rf
  refine my_heap eH ?_
  have rp0 := i32_rng p0
  have rp1 := i32_rng p1
  refine lv_aload_n hx hb dX11_reserve_0 rfl (lv_at hl 0 rfl) ?_
  refine va_get (D := (dC, dI)) (ci := 11) (v := .ref (g 2)) (C := RX11) (T := TX11) (N := 14) hx hb hwd inA_X11 hown hK hP 0 rfl rfl 1 (by decide) (hwd _ wk_19) (fun _ h9 => h9) rfl dX11_reserve_1 ?_
  refine lv_iload_n hx hb dX11_reserve_4 rfl (lv_at hl 1 rfl) ?_
  refine va_calli (va_runV (As := [.int p0]) (rest := []) ⟨hx, hb, hml, hown, hwd⟩ (c_X8_has l dC dI g c adK adV v F rc H.size p0 hg hI ) (cwV 1 hwd (gV wk_276 wk_273 wk_274 wk_275 wk_18) rfl rfl rfl (by decide +kernel) ⟨Nat.le_of_ble_eq_true rfl, Nat.le_of_ble_eq_true rfl⟩) ⟨PX.blind, va_recv hK hP (ci := 8) (q0 := 2) rfl rfl, fun U hU hW => ⟨rfl, PX.at hK hE hP hS hU hW⟩⟩ rfl rfl hl.1 rfl (lv_room (Nat.le_of_ble_eq_true rfl)) dX11_reserve_5 ⟨Nat.le_of_ble_eq_true rfl, Nat.le_of_ble_eq_true rfl⟩) hS (fun q _ h => (freeX hS) q h) (freeX hS) (fun r2616 u t H1 locs ht hvm hw hB hz1 hk1 hS => ?_)
  unfold BX at hB
  rw [ht] at hB
  have hP : va_P (dC, dI) classes (wX g c v F rc) H1 := hB
  have hw : (0 ≤ r2616.toInt ∧ r2616.toInt ≤ 1) ∧ (r2616.toInt = 1 → 0 ≤ p0.toInt ∧ p0.toInt < 10) := hw
  generalize H1 = H at hP hS ⊢
  have hw_r2616 := hw
  refine lv_if_eq (tgt := 22) hx hb dX11_reserve_8 (by decide) (fun c2617 => ?_) (fun c2617 => ?_)
  · skip
    have t2618 := cv_eq (a := r2616.toInt) rfl (b := 0) (by decide) c2617
    refine lv_iconst (v := (-1)) hx hb dX11_reserve_22 (by decide) ?_
    have hP9 : va_P (dC, dI) classes (wX g c v F rc) H := hP
    exact W.iret (v := (-1)) hx hb hr (fun t ht hW => ⟨⟨(-1), (), rfl, trivial, (by show va_P _ _ _ t.heap; rw [ht]; exact hP9)⟩, hS.F ht⟩) hS.2.2 dX11_reserve_23
  · skip
    have t2619 := cv_ne (a := r2616.toInt) rfl (b := 0) (by decide) c2617
    refine lv_aload_n hx hb dX11_reserve_11 rfl (lv_at hl 0 rfl) ?_
    refine va_get (D := (dC, dI)) (ci := 11) (v := .ref (g 1)) (C := RX11) (T := TX11) (N := 14) hx hb hwd inA_X11 hown hK hP 0 rfl rfl 0 (by decide) (hwd _ wk_15) (fun _ h9 => h9) rfl dX11_reserve_12 ?_
    refine lv_iload_n hx hb dX11_reserve_15 rfl (lv_at hl 2 rfl) ?_
    refine va_calli (va_runV (As := [.int p1]) (rest := []) ⟨hx, hb, hml, hown, hwd⟩ (c_X2_has l dC dI g c adK adV v F rc H.size p1 hg hI ) (cwV 1 hwd (gV wk_280 wk_277 wk_278 wk_279 wk_14) rfl rfl rfl (by decide +kernel) ⟨Nat.le_of_ble_eq_true rfl, Nat.le_of_ble_eq_true rfl⟩) ⟨PX.blind, va_recv hK hP (ci := 2) (q0 := 1) rfl rfl, fun U hU hW => ⟨rfl, PX.at hK hE hP hS hU hW⟩⟩ rfl rfl hl.1 rfl (lv_room (Nat.le_of_ble_eq_true rfl)) dX11_reserve_16 ⟨Nat.le_of_ble_eq_true rfl, Nat.le_of_ble_eq_true rfl⟩) hS (fun q _ h => (freeX hS) q h) (freeX hS) (fun r2620 u t H1 locs ht hvm hw hB hz1 hk1 hS => ?_)
    unfold BX at hB
    rw [ht] at hB
    have hP : va_P (dC, dI) classes (wX g c v F rc) H1 := hB
    have hw : (0 ≤ r2620.toInt ∧ r2620.toInt ≤ 1) ∧ (r2620.toInt = 1 → 0 ≤ p1.toInt ∧ p1.toInt < 10) := hw
    generalize H1 = H at hP hS ⊢
    have hw_r2620 := hw
    refine lv_if_ne (tgt := 24) hx hb dX11_reserve_19 (by decide) (fun c2621 => ?_) (fun c2621 => ?_)
    · skip
      have t2622 := cv_ne (a := r2620.toInt) rfl (b := 0) (by decide) c2621
      refine lv_aload_n hx hb dX11_reserve_24 rfl (lv_at hl 0 rfl) ?_
      refine va_get (D := (dC, dI)) (ci := 11) (v := .ref (g 2)) (C := RX11) (T := TX11) (N := 14) hx hb hwd inA_X11 hown hK hP 0 rfl rfl 1 (by decide) (hwd _ wk_19) (fun _ h9 => h9) rfl dX11_reserve_25 ?_
      refine lv_iload_n hx hb dX11_reserve_28 rfl (lv_at hl 1 rfl) ?_
      refine lv_iload_n hx hb dX11_reserve_29 rfl (lv_at hl 2 rfl) ?_
      refine va_calli (va_runV (As := [.int p0, .int p1]) (rest := []) ⟨hx, hb, hml, hown, hwd⟩ (c_X8_savedFor l dC dI g c adK adV v F rc H.size p0 p1 hg hI (by omega) (by omega)) (cwV 2 hwd (gV wk_466 wk_1321 wk_464 wk_465 wk_18) rfl rfl rfl (by decide +kernel) ⟨Nat.le_of_ble_eq_true rfl, Nat.le_of_ble_eq_true rfl⟩) ⟨PX.blind, va_recv hK hP (ci := 8) (q0 := 2) rfl rfl, fun U hU hW => ⟨rfl, PX.at hK hE hP hS hU hW⟩⟩ rfl rfl hl.1 rfl (lv_room (Nat.le_of_ble_eq_true rfl)) dX11_reserve_30 ⟨Nat.le_of_ble_eq_true rfl, Nat.le_of_ble_eq_true rfl⟩) hS (fun q _ h => (freeX hS) q h) (freeX hS) (fun r2623 u t H1 locs ht hvm hw hB hz1 hk1 hS => ?_)
      unfold BX at hB
      rw [ht] at hB
      have hP : va_P (dC, dI) classes (wX g c v F rc) H1 := hB
      generalize H1 = H at hP hS ⊢
      have rr_r2623 := i32_rng r2623
      have hP9 : va_P (dC, dI) classes (wX g c v F rc) H := hP
      exact W.iret (v := r2623) hx hb hr (fun t ht hW => ⟨⟨r2623, (), rfl, trivial, (by show va_P _ _ _ t.heap; rw [ht]; exact hP9)⟩, hS.F ht⟩) hS.2.2 dX11_reserve_33
    · skip
      have t2624 := cv_eq (a := r2620.toInt) rfl (b := 0) (by decide) c2621
      refine lv_iconst (v := (-1)) hx hb dX11_reserve_22 (by decide) ?_
      have hP9 : va_P (dC, dI) classes (wX g c v F rc) H := hP
      exact W.iret (v := (-1)) hx hb hr (fun t ht hW => ⟨⟨(-1), (), rfl, trivial, (by show va_P _ _ _ t.heap; rw [ht]; exact hP9)⟩, hS.F ht⟩) hS.2.2 dX11_reserve_23
set_option maxHeartbeats 8000000 in
set_option maxRecDepth 100000 in
theorem c_X11_claim (l : Launch) (dC : Nat → ClassId) (dI : Nat → Nat → Nat) (g : Nat → Nat) (c : Nat → ClassId) (adK adV : Nat → Nat) (v : Nat → Int32) (F : Nat → Nat → Int32) (rc sz : Nat) (p0 : Int32) (p1 : Int32) (hg : injX g) (hI : IX v F) : Met l yX11_claim (Cond.code yX11_claim cX11_claim 5 (some .int) :: wA) ({ frames := 3, cells := 0, slots := 0, locals := 120 }) (va_Pc [.ref (g 0), .int p0, .int p1] (PX dC dI g c adK adV v F rc sz)) (va_Qi (fun (r : Int32) (u : StX) => IX u.1 u.2.1 ∧ alX u.1 u.2.1 = alX v F ∧ u.2.2 = rc ∧ (∀ k, k ∉ ([12] : List Nat) → u.1 k = v k) ∧ True) (BX dC dI g c) (AX g sz)) 0 0 (AX g sz) := by
  refine Met.ofW (cc := cX11_claim) (maxL := 5) (ret := (some .int)) (by decide) rfl ?_
  intro p e s m args below meth c0 s₁ B hml hv
  obtain ⟨rfl, hsz, hP, hK, hE⟩ := hv
  have hx := B.exec
  have hb := B.bytes
  have hr := B.returns
  have hts := atoms_spec (ws := Cond.code yX11_claim cX11_claim 5 (some .int) :: wA) B.pre
  have hwd : ∀ w ∈ wA, w.before _ s = true := fun w h => hts w (List.mem_cons_of_mem _ h)
  have hown : s.vm.findClass RX11 = some m.cls := findClass_of_methodNamed B.named
  have hlocks := B.notSynchronized
  subst hsz
  have hl := lv_entry ([.ref (g 0), .int p0, .int p1]) (n := 5) (Nat.le_of_ble_eq_true rfl)
  rw [lg_entry_eq]
  generalize (lg_sl ([.ref (g 0), .int p0, .int p1]) ++ List.replicate (5 - (lg_sl ([.ref (g 0), .int p0, .int p1])).length) Slot.unset).toArray = ls at hl ⊢
  have hl : lv_has ls 5 [(0, .ref (g 0)), (1, .int p0), (2, .int p1)] := hl
  obtain ⟨H, eH⟩ : ∃ z, z = s.heap := ⟨_, rfl⟩
  have hP : va_P (dC, dI) classes (wX g c v F rc) H := by rw [eH]; exact hP
  have hS : va_S (AX g s.heap.size) s.heap H [] := by rw [eH]; exact va_S.rf
  refine my_heap eH ?_
  have hal : alX v F = alX v F := rfl
  have rp0 := i32_rng p0
  have rp1 := i32_rng p1
  refine lv_aload_n hx hb dX11_claim_0 rfl (lv_at hl 0 rfl) ?_
  refine va_get (D := (dC, dI)) (ci := 11) (v := .ref (g 3)) (C := RX11) (T := TX11) (N := 14) hx hb hwd inA_X11 hown hK hP 0 rfl rfl 2 (by decide) (hwd _ wk_27) (fun _ h9 => h9) rfl dX11_claim_1 ?_
  refine lv_iload_n hx hb dX11_claim_4 rfl (lv_at hl 1 rfl) ?_
  refine va_calli (va_runV (As := [.int p0]) (rest := []) ⟨hx, hb, hml, hown, hwd⟩ (c_X7_has l dC dI g c adK adV v F rc H.size p0 hg hI ) (cwV 1 hwd (gV wk_605 wk_602 wk_603 wk_604 wk_26) rfl rfl rfl (by decide +kernel) ⟨Nat.le_of_ble_eq_true rfl, Nat.le_of_ble_eq_true rfl⟩) ⟨PX.blind, va_recv hK hP (ci := 7) (q0 := 3) rfl rfl, fun U hU hW => ⟨rfl, PX.at hK hE hP hS hU hW⟩⟩ rfl rfl hl.1 rfl (lv_room (Nat.le_of_ble_eq_true rfl)) dX11_claim_5 ⟨Nat.le_of_ble_eq_true rfl, Nat.le_of_ble_eq_true rfl⟩) hS (fun q _ h => (freeX hS) q h) (freeX hS) (fun r2625 u t H1 locs ht hvm hw hB hz1 hk1 hS => ?_)
  unfold BX at hB
  rw [ht] at hB
  have hP : va_P (dC, dI) classes (wX g c v F rc) H1 := hB
  have hw : (0 ≤ r2625.toInt ∧ r2625.toInt ≤ 1) ∧ (r2625.toInt = 1 → 0 ≤ p0.toInt ∧ p0.toInt < 100) := hw
  generalize H1 = H at hP hS ⊢
  have hw_r2625 := hw
  refine lv_if_eq (tgt := 21) hx hb dX11_claim_8 (by decide) (fun c2626 => ?_) (fun c2626 => ?_)
  · skip
    have t2627 := cv_eq (a := r2625.toInt) rfl (b := 0) (by decide) c2626
    refine lv_iconst (v := (-1)) hx hb dX11_claim_21 (by decide) ?_
    have hP9 : va_P (dC, dI) classes (wX g c v F rc) H := hP
    exact W.iret (v := (-1)) hx hb hr (fun t ht hW => ⟨⟨(-1), (v, F, rc), rfl, ⟨hI, hal, rfl, (fun _ _ => rfl), trivial⟩, (by show va_P _ _ _ t.heap; rw [ht]; exact hP9)⟩, hS.F ht⟩) hS.2.2 dX11_claim_22
  · skip
    have t2628 := cv_ne (a := r2625.toInt) rfl (b := 0) (by decide) c2626
    refine lv_iload_n hx hb dX11_claim_11 rfl (lv_at hl 2 rfl) ?_
    refine lv_iconst (v := 1) hx hb dX11_claim_12 (by decide) ?_
    refine lv_ldc (v := 999999) hx hb hown (hwd _ wk_232) dX11_claim_13 ?_
    refine va_calli (va_runS (As := [.int p1, .int 1, .int 999999]) (rest := []) ⟨hx, hb, hml, hown, hwd⟩ (c_X11_within l dC dI g c adK adV v F rc H.size p1 1 999999 hg hI ) (va_cwS 3 hwd (gT wk_239 wk_237 wk_238 wk_2) rfl rfl rfl (by decide +kernel) ⟨Nat.le_of_ble_eq_true rfl, Nat.le_of_ble_eq_true rfl⟩) ⟨PX.blind, fun U hU hW => ⟨rfl, PX.at hK hE hP hS hU hW⟩⟩ rfl rfl hl.1 rfl (lv_room (Nat.le_of_ble_eq_true rfl)) dX11_claim_15 ⟨Nat.le_of_ble_eq_true rfl, Nat.le_of_ble_eq_true rfl⟩) hS (fun q _ h => (freeX hS) q h) (freeX hS) (fun r2629 u t H1 locs ht hvm hw hB hz1 hk1 hS => ?_)
    unfold BX at hB
    rw [ht] at hB
    have hP : va_P (dC, dI) classes (wX g c v F rc) H1 := hB
    have hw : (r2629.toInt = 1 ∧ (1 : Int32).toInt ≤ p1.toInt ∧ p1.toInt ≤ (999999 : Int32).toInt) ∨ (r2629.toInt = 0 ∧ (p1.toInt < (1 : Int32).toInt ∨ (999999 : Int32).toInt < p1.toInt)) := hw
    have k2630 : (1 : Int32).toInt = 1 := by decide
    have k2631 : (999999 : Int32).toInt = 999999 := by decide
    generalize H1 = H at hP hS ⊢
    have hw_r2629 := hw
    refine lv_if_ne (tgt := 23) hx hb dX11_claim_18 (by decide) (fun c2632 => ?_) (fun c2632 => ?_)
    · skip
      have t2633 := cv_ne (a := r2629.toInt) rfl (b := 0) (by decide) c2632
      refine lv_aload_n hx hb dX11_claim_23 rfl (lv_at hl 0 rfl) ?_
      refine va_get (D := (dC, dI)) (ci := 11) (v := .ref (g 3)) (C := RX11) (T := TX11) (N := 14) hx hb hwd inA_X11 hown hK hP 0 rfl rfl 2 (by decide) (hwd _ wk_27) (fun _ h9 => h9) rfl dX11_claim_24 ?_
      refine va_get (D := (dC, dI)) (ci := 7) (v := .ref (g 26)) (C := RX7) (T := TX7) (N := 7) hx hb hwd inA_X7 hown hK hP 3 rfl rfl 4 (by decide) (hwd _ wk_600) (fun _ h9 => h9) rfl dX11_claim_27 ?_
      refine lv_iload_n hx hb dX11_claim_30 rfl (lv_at hl 1 rfl) ?_
      refine va_iald hx hb hK hP 26 14 rfl rfl (i := p0) (vin (a := p0.toInt) rfl (by omega)) dX11_claim_31 ?_
      refine lv_topi (fun z2634 e2635 => ?_)
      refine lv_bipush (v := 10) hx hb dX11_claim_32 (by decide) ?_
      refine lv_icmp_ne (tgt := 48) hx hb dX11_claim_34 (by decide) (fun c2636 => ?_) (fun c2636 => ?_)
      · skip
        have t2637 := cv_ne (a := z2634.toInt) rfl (b := 10) (by decide) c2636
        refine lv_iconst (v := (-1)) hx hb dX11_claim_48 (by decide) ?_
        refine lv_istore_n (lv' := [(3, .int (-1)), (0, .ref (g 0)), (1, .int p0), (2, .int p1)]) hx hb dX11_claim_49 rfl hl (by decide) rfl (fun ls hl => ?_)
        refine lv_aload_n hx hb dX11_claim_50 rfl (lv_at hl 1 rfl) ?_
        refine va_get (D := (dC, dI)) (ci := 11) (v := .ref (g 2)) (C := RX11) (T := TX11) (N := 14) hx hb hwd inA_X11 hown hK hP 0 rfl rfl 1 (by decide) (hwd _ wk_19) (fun _ h9 => h9) rfl dX11_claim_51 ?_
        refine lv_iload_n hx hb dX11_claim_54 rfl (lv_at hl 0 rfl) ?_
        refine va_calli (va_runV (As := [.int (-1)]) (rest := []) ⟨hx, hb, hml, hown, hwd⟩ (c_X8_has l dC dI g c adK adV v F rc H.size (-1) hg hI ) (cwV 1 hwd (gV wk_276 wk_273 wk_274 wk_275 wk_18) rfl rfl rfl (by decide +kernel) ⟨Nat.le_of_ble_eq_true rfl, Nat.le_of_ble_eq_true rfl⟩) ⟨PX.blind, va_recv hK hP (ci := 8) (q0 := 2) rfl rfl, fun U hU hW => ⟨rfl, PX.at hK hE hP hS hU hW⟩⟩ rfl rfl hl.1 rfl (lv_room (Nat.le_of_ble_eq_true rfl)) dX11_claim_55 ⟨Nat.le_of_ble_eq_true rfl, Nat.le_of_ble_eq_true rfl⟩) hS (fun q _ h => (freeX hS) q h) (freeX hS) (fun r2638 u t H1 locs ht hvm hw hB hz1 hk1 hS => ?_)
        unfold BX at hB
        rw [ht] at hB
        have hP : va_P (dC, dI) classes (wX g c v F rc) H1 := hB
        have hw : (0 ≤ r2638.toInt ∧ r2638.toInt ≤ 1) ∧ (r2638.toInt = 1 → 0 ≤ ((-1) : Int32).toInt ∧ ((-1) : Int32).toInt < 10) := hw
        have k2639 : ((-1) : Int32).toInt = (-1) := by decide
        generalize H1 = H at hP hS ⊢
        have hw_r2638 := hw
        refine lv_if_ne (tgt := 64) hx hb dX11_claim_58 (by decide) (fun c2640 => ?_) (fun c2640 => ?_)
        · skip
          have t2641 := cv_ne (a := r2638.toInt) rfl (b := 0) (by decide) c2640
          refine lv_aload_n hx hb dX11_claim_64 rfl (lv_at hl 1 rfl) ?_
          refine va_get (D := (dC, dI)) (ci := 11) (v := .ref (g 2)) (C := RX11) (T := TX11) (N := 14) hx hb hwd inA_X11 hown hK hP 0 rfl rfl 1 (by decide) (hwd _ wk_19) (fun _ h9 => h9) rfl dX11_claim_65 ?_
          refine lv_iload_n hx hb dX11_claim_68 rfl (lv_at hl 0 rfl) ?_
          refine lv_aload_n hx hb dX11_claim_69 rfl (lv_at hl 1 rfl) ?_
          refine va_get (D := (dC, dI)) (ci := 11) (v := .ref (g 3)) (C := RX11) (T := TX11) (N := 14) hx hb hwd inA_X11 hown hK hP 0 rfl rfl 2 (by decide) (hwd _ wk_27) (fun _ h9 => h9) rfl dX11_claim_70 ?_
          refine va_get (D := (dC, dI)) (ci := 7) (v := .ref (g 24)) (C := RX7) (T := TX7) (N := 7) hx hb hwd inA_X7 hown hK hP 3 rfl rfl 2 (by decide) (hwd _ wk_601) (fun _ h9 => h9) rfl dX11_claim_73 ?_
          refine lv_iload_n hx hb dX11_claim_76 rfl (lv_at hl 2 rfl) ?_
          refine va_iald hx hb hK hP 24 12 rfl rfl (i := p0) (vin (a := p0.toInt) rfl (by omega)) dX11_claim_77 ?_
          refine lv_topi (fun z2642 e2643 => ?_)
          have t2644 : 0 ≤ z2642.toInt ∧ z2642.toInt ≤ 9 := by rw [e2643]; exact hI.2 24 _ _ rfl _
          refine lv_iload_n hx hb dX11_claim_78 rfl (lv_at hl 3 rfl) ?_
          refine va_calli (va_runV (As := [.int (-1), .int z2642, .int p1]) (rest := []) ⟨hx, hb, hml, hown, hwd⟩ (c_X8_payOut l dC dI g c adK adV v F rc H.size (-1) z2642 p1 hg hI (by have : ((-1) : Int32).toInt = (-1) := (by decide); omega) (by omega)) (cwV 3 hwd (gV wk_1342 wk_1339 wk_1340 wk_1341 wk_18) rfl rfl rfl (by decide +kernel) ⟨Nat.le_of_ble_eq_true rfl, Nat.le_of_ble_eq_true rfl⟩) ⟨PX.blind, va_recv hK hP (ci := 8) (q0 := 2) rfl rfl, fun U hU hW => ⟨rfl, PX.at hK hE hP hS hU hW⟩⟩ rfl rfl hl.1 rfl (lv_room (Nat.le_of_ble_eq_true rfl)) dX11_claim_79 ⟨Nat.le_of_ble_eq_true rfl, Nat.le_of_ble_eq_true rfl⟩) hS (fun q _ h => (freeX hS) q h) (freeX hS) (fun r2645 u t H1 locs ht hvm hw hB hz1 hk1 hS => ?_)
          unfold BX at hB
          rw [ht] at hB
          obtain ⟨v2646, F2647, rc9⟩ := u
          obtain ⟨hI, hal9, hrc, hf2648, hw⟩ := hw
          dsimp only at hI hal9 hrc hB hf2648 hw
          rw [hrc] at hB
          have hal := hal9.trans hal
          have hP : va_P (dC, dI) classes (wX g c v2646 F2647 rc) H1 := hB
          generalize H1 = H at hP hS ⊢
          have rr_r2645 := i32_rng r2645
          refine lv_istore (lv' := [(4, .int r2645), (3, .int (-1)), (0, .ref (g 0)), (1, .int p0), (2, .int p1)]) hx hb dX11_claim_82 hl (by decide) rfl (fun ls hl => ?_)
          refine lv_aload_n hx hb dX11_claim_84 rfl (lv_at hl 2 rfl) ?_
          refine lv_dup hx hb dX11_claim_85 rfl ?_
          refine va_get (D := (dC, dI)) (ci := 11) (v := .int (v2646 12)) (C := RX11) (T := TX11) (N := 14) hx hb hwd inA_X11 hown hK hP 0 rfl rfl 12 (by decide) (hwd _ wk_1330) (fun _ h9 => h9) rfl dX11_claim_86 ?_
          refine my_top (v := v 12) (hf2648 12 (by decide)) ?_
          refine lv_iload hx hb dX11_claim_89 (lv_at hl 0 rfl) ?_
          refine lv_iadd hx hb dX11_claim_91 ?_
          refine lv_topi (fun z2649 e2650 => ?_)
          try (have t2651 := tadd e2650 (a := (v 12).toInt) rfl (b := r2645.toInt) rfl (by omega))
          refine va_put (D := (dC, dI)) (ci := 11) (v := .int z2649) (ty := .int) (C := RX11) (T := TX11) (N := 14) (fs := fsX_0 g v2646 rc) hx hb hwd inA_X11 tyX11 tyX11_ok nmX11 hown hK hP (DX hg) hS 0 rfl rfl 12 (by decide) (hwd _ wk_1330) (fun _ h9 => h9) rfl (by decide +kernel) rfl rfl (Nat.le_of_ble_eq_true rfl) dX11_claim_92 (fun H locs hP _ hS => ?_)
          have hP := va_P_eq (pX_12 g c _ _ _ _) hP
          have hI := IX.put0 hI 12 z2649 rfl
          have hal := (alX_v _ _ 12 z2649 (by decide) (by decide) (by decide) (by decide)).trans hal
          refine lv_iload hx hb dX11_claim_95 (lv_at hl 0 rfl) ?_
          have hP9 : va_P (dC, dI) classes (wX g c (va_up v2646 12 z2649) F2647 rc) H := hP
          exact W.iret (v := r2645) hx hb hr (fun t ht hW => ⟨⟨r2645, ((va_up v2646 12 z2649), F2647, rc), rfl, ⟨hI, hal, rfl, (frU (by decide) (frC (by decide) hf2648 (fun _ _ => rfl))), trivial⟩, (by show va_P _ _ _ t.heap; rw [ht]; exact hP9)⟩, hS.F ht⟩) hS.2.2 dX11_claim_97
        · skip
          have t2652 := cv_eq (a := r2638.toInt) rfl (b := 0) (by decide) c2640
          refine lv_bipush (v := (-2)) hx hb dX11_claim_61 (by decide) ?_
          have hP9 : va_P (dC, dI) classes (wX g c v F rc) H := hP
          exact W.iret (v := (-2)) hx hb hr (fun t ht hW => ⟨⟨(-2), (v, F, rc), rfl, ⟨hI, hal, rfl, (fun _ _ => rfl), trivial⟩, (by show va_P _ _ _ t.heap; rw [ht]; exact hP9)⟩, hS.F ht⟩) hS.2.2 dX11_claim_63
      · skip
        have t2653 := cv_eq (a := z2634.toInt) rfl (b := 10) (by decide) c2636
        refine lv_aload_n hx hb dX11_claim_37 rfl (lv_at hl 0 rfl) ?_
        refine va_get (D := (dC, dI)) (ci := 11) (v := .ref (g 3)) (C := RX11) (T := TX11) (N := 14) hx hb hwd inA_X11 hown hK hP 0 rfl rfl 2 (by decide) (hwd _ wk_27) (fun _ h9 => h9) rfl dX11_claim_38 ?_
        refine lv_iload_n hx hb dX11_claim_41 rfl (lv_at hl 1 rfl) ?_
        refine va_calli (va_runV (As := [.int p0]) (rest := []) ⟨hx, hb, hml, hown, hwd⟩ (c_X7_placeAhead l dC dI g c adK adV v F rc H.size p0 hg hI (by omega)) (cwV 1 hwd (gV wk_1334 wk_1331 wk_1332 wk_1333 wk_26) rfl rfl rfl (by decide +kernel) ⟨Nat.le_of_ble_eq_true rfl, Nat.le_of_ble_eq_true rfl⟩) ⟨PX.blind, va_recv hK hP (ci := 7) (q0 := 3) rfl rfl, fun U hU hW => ⟨rfl, PX.at hK hE hP hS hU hW⟩⟩ rfl rfl hl.1 rfl (lv_room (Nat.le_of_ble_eq_true rfl)) dX11_claim_42 ⟨Nat.le_of_ble_eq_true rfl, Nat.le_of_ble_eq_true rfl⟩) hS (fun q _ h => (freeX hS) q h) (freeX hS) (fun r2654 u t H1 locs ht hvm hw hB hz1 hk1 hS => ?_)
        unfold BX at hB
        rw [ht] at hB
        have hP : va_P (dC, dI) classes (wX g c v F rc) H1 := hB
        generalize H1 = H at hP hS ⊢
        have rr_r2654 := i32_rng r2654
        refine lv_goto (tgt := 49) hx hb dX11_claim_45 (by decide) ?_
        refine lv_istore_n (lv' := [(3, .int r2654), (0, .ref (g 0)), (1, .int p0), (2, .int p1)]) hx hb dX11_claim_49 rfl hl (by decide) rfl (fun ls hl => ?_)
        refine lv_aload_n hx hb dX11_claim_50 rfl (lv_at hl 1 rfl) ?_
        refine va_get (D := (dC, dI)) (ci := 11) (v := .ref (g 2)) (C := RX11) (T := TX11) (N := 14) hx hb hwd inA_X11 hown hK hP 0 rfl rfl 1 (by decide) (hwd _ wk_19) (fun _ h9 => h9) rfl dX11_claim_51 ?_
        refine lv_iload_n hx hb dX11_claim_54 rfl (lv_at hl 0 rfl) ?_
        refine va_calli (va_runV (As := [.int r2654]) (rest := []) ⟨hx, hb, hml, hown, hwd⟩ (c_X8_has l dC dI g c adK adV v F rc H.size r2654 hg hI ) (cwV 1 hwd (gV wk_276 wk_273 wk_274 wk_275 wk_18) rfl rfl rfl (by decide +kernel) ⟨Nat.le_of_ble_eq_true rfl, Nat.le_of_ble_eq_true rfl⟩) ⟨PX.blind, va_recv hK hP (ci := 8) (q0 := 2) rfl rfl, fun U hU hW => ⟨rfl, PX.at hK hE hP hS hU hW⟩⟩ rfl rfl hl.1 rfl (lv_room (Nat.le_of_ble_eq_true rfl)) dX11_claim_55 ⟨Nat.le_of_ble_eq_true rfl, Nat.le_of_ble_eq_true rfl⟩) hS (fun q _ h => (freeX hS) q h) (freeX hS) (fun r2655 u t H1 locs ht hvm hw hB hz1 hk1 hS => ?_)
        unfold BX at hB
        rw [ht] at hB
        have hP : va_P (dC, dI) classes (wX g c v F rc) H1 := hB
        have hw : (0 ≤ r2655.toInt ∧ r2655.toInt ≤ 1) ∧ (r2655.toInt = 1 → 0 ≤ r2654.toInt ∧ r2654.toInt < 10) := hw
        generalize H1 = H at hP hS ⊢
        have hw_r2655 := hw
        refine lv_if_ne (tgt := 64) hx hb dX11_claim_58 (by decide) (fun c2656 => ?_) (fun c2656 => ?_)
        · skip
          have t2657 := cv_ne (a := r2655.toInt) rfl (b := 0) (by decide) c2656
          refine lv_aload_n hx hb dX11_claim_64 rfl (lv_at hl 1 rfl) ?_
          refine va_get (D := (dC, dI)) (ci := 11) (v := .ref (g 2)) (C := RX11) (T := TX11) (N := 14) hx hb hwd inA_X11 hown hK hP 0 rfl rfl 1 (by decide) (hwd _ wk_19) (fun _ h9 => h9) rfl dX11_claim_65 ?_
          refine lv_iload_n hx hb dX11_claim_68 rfl (lv_at hl 0 rfl) ?_
          refine lv_aload_n hx hb dX11_claim_69 rfl (lv_at hl 1 rfl) ?_
          refine va_get (D := (dC, dI)) (ci := 11) (v := .ref (g 3)) (C := RX11) (T := TX11) (N := 14) hx hb hwd inA_X11 hown hK hP 0 rfl rfl 2 (by decide) (hwd _ wk_27) (fun _ h9 => h9) rfl dX11_claim_70 ?_
          refine va_get (D := (dC, dI)) (ci := 7) (v := .ref (g 24)) (C := RX7) (T := TX7) (N := 7) hx hb hwd inA_X7 hown hK hP 3 rfl rfl 2 (by decide) (hwd _ wk_601) (fun _ h9 => h9) rfl dX11_claim_73 ?_
          refine lv_iload_n hx hb dX11_claim_76 rfl (lv_at hl 2 rfl) ?_
          refine va_iald hx hb hK hP 24 12 rfl rfl (i := p0) (vin (a := p0.toInt) rfl (by omega)) dX11_claim_77 ?_
          refine lv_topi (fun z2658 e2659 => ?_)
          have t2660 : 0 ≤ z2658.toInt ∧ z2658.toInt ≤ 9 := by rw [e2659]; exact hI.2 24 _ _ rfl _
          refine lv_iload_n hx hb dX11_claim_78 rfl (lv_at hl 3 rfl) ?_
          refine va_calli (va_runV (As := [.int r2654, .int z2658, .int p1]) (rest := []) ⟨hx, hb, hml, hown, hwd⟩ (c_X8_payOut l dC dI g c adK adV v F rc H.size r2654 z2658 p1 hg hI (by omega) (by omega)) (cwV 3 hwd (gV wk_1342 wk_1339 wk_1340 wk_1341 wk_18) rfl rfl rfl (by decide +kernel) ⟨Nat.le_of_ble_eq_true rfl, Nat.le_of_ble_eq_true rfl⟩) ⟨PX.blind, va_recv hK hP (ci := 8) (q0 := 2) rfl rfl, fun U hU hW => ⟨rfl, PX.at hK hE hP hS hU hW⟩⟩ rfl rfl hl.1 rfl (lv_room (Nat.le_of_ble_eq_true rfl)) dX11_claim_79 ⟨Nat.le_of_ble_eq_true rfl, Nat.le_of_ble_eq_true rfl⟩) hS (fun q _ h => (freeX hS) q h) (freeX hS) (fun r2661 u t H1 locs ht hvm hw hB hz1 hk1 hS => ?_)
          unfold BX at hB
          rw [ht] at hB
          obtain ⟨v2662, F2663, rc9⟩ := u
          obtain ⟨hI, hal9, hrc, hf2664, hw⟩ := hw
          dsimp only at hI hal9 hrc hB hf2664 hw
          rw [hrc] at hB
          have hal := hal9.trans hal
          have hP : va_P (dC, dI) classes (wX g c v2662 F2663 rc) H1 := hB
          generalize H1 = H at hP hS ⊢
          have rr_r2661 := i32_rng r2661
          refine lv_istore (lv' := [(4, .int r2661), (3, .int r2654), (0, .ref (g 0)), (1, .int p0), (2, .int p1)]) hx hb dX11_claim_82 hl (by decide) rfl (fun ls hl => ?_)
          refine lv_aload_n hx hb dX11_claim_84 rfl (lv_at hl 2 rfl) ?_
          refine lv_dup hx hb dX11_claim_85 rfl ?_
          refine va_get (D := (dC, dI)) (ci := 11) (v := .int (v2662 12)) (C := RX11) (T := TX11) (N := 14) hx hb hwd inA_X11 hown hK hP 0 rfl rfl 12 (by decide) (hwd _ wk_1330) (fun _ h9 => h9) rfl dX11_claim_86 ?_
          refine my_top (v := v 12) (hf2664 12 (by decide)) ?_
          refine lv_iload hx hb dX11_claim_89 (lv_at hl 0 rfl) ?_
          refine lv_iadd hx hb dX11_claim_91 ?_
          refine lv_topi (fun z2665 e2666 => ?_)
          try (have t2667 := tadd e2666 (a := (v 12).toInt) rfl (b := r2661.toInt) rfl (by omega))
          refine va_put (D := (dC, dI)) (ci := 11) (v := .int z2665) (ty := .int) (C := RX11) (T := TX11) (N := 14) (fs := fsX_0 g v2662 rc) hx hb hwd inA_X11 tyX11 tyX11_ok nmX11 hown hK hP (DX hg) hS 0 rfl rfl 12 (by decide) (hwd _ wk_1330) (fun _ h9 => h9) rfl (by decide +kernel) rfl rfl (Nat.le_of_ble_eq_true rfl) dX11_claim_92 (fun H locs hP _ hS => ?_)
          have hP := va_P_eq (pX_12 g c _ _ _ _) hP
          have hI := IX.put0 hI 12 z2665 rfl
          have hal := (alX_v _ _ 12 z2665 (by decide) (by decide) (by decide) (by decide)).trans hal
          refine lv_iload hx hb dX11_claim_95 (lv_at hl 0 rfl) ?_
          have hP9 : va_P (dC, dI) classes (wX g c (va_up v2662 12 z2665) F2663 rc) H := hP
          exact W.iret (v := r2661) hx hb hr (fun t ht hW => ⟨⟨r2661, ((va_up v2662 12 z2665), F2663, rc), rfl, ⟨hI, hal, rfl, (frU (by decide) (frC (by decide) hf2664 (fun _ _ => rfl))), trivial⟩, (by show va_P _ _ _ t.heap; rw [ht]; exact hP9)⟩, hS.F ht⟩) hS.2.2 dX11_claim_97
        · skip
          have t2668 := cv_eq (a := r2655.toInt) rfl (b := 0) (by decide) c2656
          refine lv_bipush (v := (-2)) hx hb dX11_claim_61 (by decide) ?_
          have hP9 : va_P (dC, dI) classes (wX g c v F rc) H := hP
          exact W.iret (v := (-2)) hx hb hr (fun t ht hW => ⟨⟨(-2), (v, F, rc), rfl, ⟨hI, hal, rfl, (fun _ _ => rfl), trivial⟩, (by show va_P _ _ _ t.heap; rw [ht]; exact hP9)⟩, hS.F ht⟩) hS.2.2 dX11_claim_63
    · skip
      have t2669 := cv_eq (a := r2629.toInt) rfl (b := 0) (by decide) c2632
      refine lv_iconst (v := (-1)) hx hb dX11_claim_21 (by decide) ?_
      have hP9 : va_P (dC, dI) classes (wX g c v F rc) H := hP
      exact W.iret (v := (-1)) hx hb hr (fun t ht hW => ⟨⟨(-1), (v, F, rc), rfl, ⟨hI, hal, rfl, (fun _ _ => rfl), trivial⟩, (by show va_P _ _ _ t.heap; rw [ht]; exact hP9)⟩, hS.F ht⟩) hS.2.2 dX11_claim_22
set_option maxHeartbeats 8000000 in
set_option maxRecDepth 100000 in
theorem c_X11_half (l : Launch) (dC : Nat → ClassId) (dI : Nat → Nat → Nat) (g : Nat → Nat) (c : Nat → ClassId) (adK adV : Nat → Nat) (v : Nat → Int32) (F : Nat → Nat → Int32) (rc sz : Nat) (p0 : Int32) (p1 : Int32) (hg : injX g) (hI : IX v F) : Met l yX11_half (Cond.code yX11_half cX11_half 3 (some .int) :: wA) ({ frames := 8, cells := 0, slots := 0, locals := 320 }) (va_Pc [.ref (g 0), .int p0, .int p1] (PX dC dI g c adK adV v F rc sz)) (va_Qi (fun (r : Int32) (u : StX) => IX u.1 u.2.1 ∧ alX u.1 u.2.1 = alX v F ∧ u.2.2 = rc ∧ (∀ k, k ∉ ([126] : List Nat) → u.1 k = v k) ∧ True) (BX dC dI g c) (AX g sz)) 0 0 (AX g sz) := by
  refine Met.ofW (cc := cX11_half) (maxL := 3) (ret := (some .int)) (by decide) rfl ?_
  intro p e s m args below meth c0 s₁ B hml hv
  obtain ⟨rfl, hsz, hP, hK, hE⟩ := hv
  have hx := B.exec
  have hb := B.bytes
  have hr := B.returns
  have hts := atoms_spec (ws := Cond.code yX11_half cX11_half 3 (some .int) :: wA) B.pre
  have hwd : ∀ w ∈ wA, w.before _ s = true := fun w h => hts w (List.mem_cons_of_mem _ h)
  have hown : s.vm.findClass RX11 = some m.cls := findClass_of_methodNamed B.named
  have hlocks := B.notSynchronized
  subst hsz
  have hl := lv_entry ([.ref (g 0), .int p0, .int p1]) (n := 3) (Nat.le_of_ble_eq_true rfl)
  rw [lg_entry_eq]
  generalize (lg_sl ([.ref (g 0), .int p0, .int p1]) ++ List.replicate (3 - (lg_sl ([.ref (g 0), .int p0, .int p1])).length) Slot.unset).toArray = ls at hl ⊢
  have hl : lv_has ls 3 [(0, .ref (g 0)), (1, .int p0), (2, .int p1)] := hl
  obtain ⟨H, eH⟩ : ∃ z, z = s.heap := ⟨_, rfl⟩
  have hP : va_P (dC, dI) classes (wX g c v F rc) H := by rw [eH]; exact hP
  have hS : va_S (AX g s.heap.size) s.heap H [] := by rw [eH]; exact va_S.rf
  refine my_heap eH ?_
  have hal : alX v F = alX v F := rfl
  have rp0 := i32_rng p0
  have rp1 := i32_rng p1
  refine lv_aload_n hx hb dX11_half_0 rfl (lv_at hl 0 rfl) ?_
  refine va_get (D := (dC, dI)) (ci := 11) (v := .ref (g 2)) (C := RX11) (T := TX11) (N := 14) hx hb hwd inA_X11 hown hK hP 0 rfl rfl 1 (by decide) (hwd _ wk_19) (fun _ h9 => h9) rfl dX11_half_1 ?_
  refine lv_iload_n hx hb dX11_half_4 rfl (lv_at hl 1 rfl) ?_
  refine va_calli (va_runV (As := [.int p0]) (rest := []) ⟨hx, hb, hml, hown, hwd⟩ (c_X8_has l dC dI g c adK adV v F rc H.size p0 hg hI ) (cwV 1 hwd (gV wk_276 wk_273 wk_274 wk_275 wk_18) rfl rfl rfl (by decide +kernel) ⟨Nat.le_of_ble_eq_true rfl, Nat.le_of_ble_eq_true rfl⟩) ⟨PX.blind, va_recv hK hP (ci := 8) (q0 := 2) rfl rfl, fun U hU hW => ⟨rfl, PX.at hK hE hP hS hU hW⟩⟩ rfl rfl hl.1 rfl (lv_room (Nat.le_of_ble_eq_true rfl)) dX11_half_5 ⟨Nat.le_of_ble_eq_true rfl, Nat.le_of_ble_eq_true rfl⟩) hS (fun q _ h => (freeX hS) q h) (freeX hS) (fun r2670 u t H1 locs ht hvm hw hB hz1 hk1 hS => ?_)
  unfold BX at hB
  rw [ht] at hB
  have hP : va_P (dC, dI) classes (wX g c v F rc) H1 := hB
  have hw : (0 ≤ r2670.toInt ∧ r2670.toInt ≤ 1) ∧ (r2670.toInt = 1 → 0 ≤ p0.toInt ∧ p0.toInt < 10) := hw
  generalize H1 = H at hP hS ⊢
  have hw_r2670 := hw
  refine lv_if_eq (tgt := 18) hx hb dX11_half_8 (by decide) (fun c2671 => ?_) (fun c2671 => ?_)
  · skip
    have t2672 := cv_eq (a := r2670.toInt) rfl (b := 0) (by decide) c2671
    refine lv_ldc (v := (-2000000000)) hx hb hown (hwd _ wk_56) dX11_half_18 ?_
    have hP9 : va_P (dC, dI) classes (wX g c v F rc) H := hP
    exact W.iret (v := (-2000000000)) hx hb hr (fun t ht hW => ⟨⟨(-2000000000), (v, F, rc), rfl, ⟨hI, hal, rfl, (fun _ _ => rfl), trivial⟩, (by show va_P _ _ _ t.heap; rw [ht]; exact hP9)⟩, hS.F ht⟩) hS.2.2 dX11_half_20
  · skip
    have t2673 := cv_ne (a := r2670.toInt) rfl (b := 0) (by decide) c2671
    refine lv_iload_n hx hb dX11_half_11 rfl (lv_at hl 2 rfl) ?_
    refine va_calli (va_runS (As := [.int p1]) (rest := []) ⟨hx, hb, hml, hown, hwd⟩ (c_X11_isDay l dC dI g c adK adV v F rc H.size p1 hg hI ) (va_cwS 1 hwd (gT wk_549 wk_547 wk_548 wk_2) rfl rfl rfl (by decide +kernel) ⟨Nat.le_of_ble_eq_true rfl, Nat.le_of_ble_eq_true rfl⟩) ⟨PX.blind, fun U hU hW => ⟨rfl, PX.at hK hE hP hS hU hW⟩⟩ rfl rfl hl.1 rfl (lv_room (Nat.le_of_ble_eq_true rfl)) dX11_half_12 ⟨Nat.le_of_ble_eq_true rfl, Nat.le_of_ble_eq_true rfl⟩) hS (fun q _ h => (freeX hS) q h) (freeX hS) (fun r2674 u t H1 locs ht hvm hw hB hz1 hk1 hS => ?_)
    unfold BX at hB
    rw [ht] at hB
    have hP : va_P (dC, dI) classes (wX g c v F rc) H1 := hB
    have hw : (r2674.toInt = 1 ∧ 0 ≤ p1.toInt ∧ p1.toInt ≤ 9999) ∨ (r2674.toInt = 0 ∧ (p1.toInt < 0 ∨ 9999 < p1.toInt)) := hw
    generalize H1 = H at hP hS ⊢
    have hw_r2674 := hw
    refine lv_if_ne (tgt := 21) hx hb dX11_half_15 (by decide) (fun c2675 => ?_) (fun c2675 => ?_)
    · skip
      have t2676 := cv_ne (a := r2674.toInt) rfl (b := 0) (by decide) c2675
      refine lv_aload_n hx hb dX11_half_21 rfl (lv_at hl 0 rfl) ?_
      refine va_get (D := (dC, dI)) (ci := 11) (v := .ref (g 10)) (C := RX11) (T := TX11) (N := 14) hx hb hwd inA_X11 hown hK hP 0 rfl rfl 9 (by decide) (hwd _ wk_51) (fun _ h9 => h9) rfl dX11_half_22 ?_
      refine lv_iload_n hx hb dX11_half_25 rfl (lv_at hl 1 rfl) ?_
      refine lv_iload_n hx hb dX11_half_26 rfl (lv_at hl 2 rfl) ?_
      refine va_calli (va_runV (As := [.int p0, .int p1]) (rest := []) ⟨hx, hb, hml, hown, hwd⟩ (c_X5_halfOf l dC dI g c adK adV v F rc H.size p0 p1 hg hI ) (cwV 2 hwd (gV wk_1356 wk_1353 wk_1354 wk_1355 wk_50) rfl rfl rfl (by decide +kernel) ⟨Nat.le_of_ble_eq_true rfl, Nat.le_of_ble_eq_true rfl⟩) ⟨PX.blind, va_recv hK hP (ci := 5) (q0 := 10) rfl rfl, fun U hU hW => ⟨rfl, PX.at hK hE hP hS hU hW⟩⟩ rfl rfl hl.1 rfl (lv_room (Nat.le_of_ble_eq_true rfl)) dX11_half_27 ⟨Nat.le_of_ble_eq_true rfl, Nat.le_of_ble_eq_true rfl⟩) hS (fun q _ h => (freeX hS) q h) (freeX hS) (fun r2677 u t H1 locs ht hvm hw hB hz1 hk1 hS => ?_)
      unfold BX at hB
      rw [ht] at hB
      obtain ⟨v2678, F2679, rc9⟩ := u
      obtain ⟨hI, hal9, hrc, hf2680, hw⟩ := hw
      dsimp only at hI hal9 hrc hB hf2680 hw
      rw [hrc] at hB
      have hal := hal9.trans hal
      have hP : va_P (dC, dI) classes (wX g c v2678 F2679 rc) H1 := hB
      generalize H1 = H at hP hS ⊢
      have rr_r2677 := i32_rng r2677
      have hP9 : va_P (dC, dI) classes (wX g c v2678 F2679 rc) H := hP
      exact W.iret (v := r2677) hx hb hr (fun t ht hW => ⟨⟨r2677, (v2678, F2679, rc), rfl, ⟨hI, hal, rfl, (frC (by decide) hf2680 (fun _ _ => rfl)), trivial⟩, (by show va_P _ _ _ t.heap; rw [ht]; exact hP9)⟩, hS.F ht⟩) hS.2.2 dX11_half_30
    · skip
      have t2681 := cv_eq (a := r2674.toInt) rfl (b := 0) (by decide) c2675
      refine lv_ldc (v := (-2000000000)) hx hb hown (hwd _ wk_56) dX11_half_18 ?_
      have hP9 : va_P (dC, dI) classes (wX g c v F rc) H := hP
      exact W.iret (v := (-2000000000)) hx hb hr (fun t ht hW => ⟨⟨(-2000000000), (v, F, rc), rfl, ⟨hI, hal, rfl, (fun _ _ => rfl), trivial⟩, (by show va_P _ _ _ t.heap; rw [ht]; exact hP9)⟩, hS.F ht⟩) hS.2.2 dX11_half_20
set_option maxHeartbeats 8000000 in
set_option maxRecDepth 100000 in
theorem c_X11_insure (l : Launch) (dC : Nat → ClassId) (dI : Nat → Nat → Nat) (g : Nat → Nat) (c : Nat → ClassId) (adK adV : Nat → Nat) (v : Nat → Int32) (F : Nat → Nat → Int32) (rc sz : Nat) (p0 : Int32) (hg : injX g) (hI : IX v F) : Met l yX11_insure (Cond.code yX11_insure cX11_insure 3 (some .int) :: wA) ({ frames := 8, cells := 0, slots := 0, locals := 320 }) (va_Pc [.ref (g 0), .int p0] (PX dC dI g c adK adV v F rc sz)) (va_Qi (fun (r : Int32) (u : StX) => IX u.1 u.2.1 ∧ alX u.1 u.2.1 = alX v F ∧ u.2.2 = rc ∧ (∀ k, k ∉ ([126] : List Nat) → u.1 k = v k) ∧ True) (BX dC dI g c) (AX g sz)) 0 0 (AX g sz) := by
  refine Met.ofW (cc := cX11_insure) (maxL := 3) (ret := (some .int)) (by decide) rfl ?_
  intro p e s m args below meth c0 s₁ B hml hv
  obtain ⟨rfl, hsz, hP, hK, hE⟩ := hv
  have hx := B.exec
  have hb := B.bytes
  have hr := B.returns
  have hts := atoms_spec (ws := Cond.code yX11_insure cX11_insure 3 (some .int) :: wA) B.pre
  have hwd : ∀ w ∈ wA, w.before _ s = true := fun w h => hts w (List.mem_cons_of_mem _ h)
  have hown : s.vm.findClass RX11 = some m.cls := findClass_of_methodNamed B.named
  have hlocks := B.notSynchronized
  subst hsz
  have hl := lv_entry ([.ref (g 0), .int p0]) (n := 3) (Nat.le_of_ble_eq_true rfl)
  rw [lg_entry_eq]
  generalize (lg_sl ([.ref (g 0), .int p0]) ++ List.replicate (3 - (lg_sl ([.ref (g 0), .int p0])).length) Slot.unset).toArray = ls at hl ⊢
  have hl : lv_has ls 3 [(0, .ref (g 0)), (1, .int p0)] := hl
  obtain ⟨H, eH⟩ : ∃ z, z = s.heap := ⟨_, rfl⟩
  have hP : va_P (dC, dI) classes (wX g c v F rc) H := by rw [eH]; exact hP
  have hS : va_S (AX g s.heap.size) s.heap H [] := by rw [eH]; exact va_S.rf
  refine my_heap eH ?_
  have hal : alX v F = alX v F := rfl
  have rp0 := i32_rng p0
  refine lv_aload_n hx hb dX11_insure_0 rfl (lv_at hl 0 rfl) ?_
  refine va_get (D := (dC, dI)) (ci := 11) (v := .ref (g 2)) (C := RX11) (T := TX11) (N := 14) hx hb hwd inA_X11 hown hK hP 0 rfl rfl 1 (by decide) (hwd _ wk_19) (fun _ h9 => h9) rfl dX11_insure_1 ?_
  refine lv_iload_n hx hb dX11_insure_4 rfl (lv_at hl 1 rfl) ?_
  refine va_calli (va_runV (As := [.int p0]) (rest := []) ⟨hx, hb, hml, hown, hwd⟩ (c_X8_has l dC dI g c adK adV v F rc H.size p0 hg hI ) (cwV 1 hwd (gV wk_276 wk_273 wk_274 wk_275 wk_18) rfl rfl rfl (by decide +kernel) ⟨Nat.le_of_ble_eq_true rfl, Nat.le_of_ble_eq_true rfl⟩) ⟨PX.blind, va_recv hK hP (ci := 8) (q0 := 2) rfl rfl, fun U hU hW => ⟨rfl, PX.at hK hE hP hS hU hW⟩⟩ rfl rfl hl.1 rfl (lv_room (Nat.le_of_ble_eq_true rfl)) dX11_insure_5 ⟨Nat.le_of_ble_eq_true rfl, Nat.le_of_ble_eq_true rfl⟩) hS (fun q _ h => (freeX hS) q h) (freeX hS) (fun r2682 u t H1 locs ht hvm hw hB hz1 hk1 hS => ?_)
  unfold BX at hB
  rw [ht] at hB
  have hP : va_P (dC, dI) classes (wX g c v F rc) H1 := hB
  have hw : (0 ≤ r2682.toInt ∧ r2682.toInt ≤ 1) ∧ (r2682.toInt = 1 → 0 ≤ p0.toInt ∧ p0.toInt < 10) := hw
  generalize H1 = H at hP hS ⊢
  have hw_r2682 := hw
  refine lv_if_ne (tgt := 13) hx hb dX11_insure_8 (by decide) (fun c2683 => ?_) (fun c2683 => ?_)
  · skip
    have t2684 := cv_ne (a := r2682.toInt) rfl (b := 0) (by decide) c2683
    refine lv_aload_n hx hb dX11_insure_13 rfl (lv_at hl 0 rfl) ?_
    refine va_get (D := (dC, dI)) (ci := 11) (v := .ref (g 11)) (C := RX11) (T := TX11) (N := 14) hx hb hwd inA_X11 hown hK hP 0 rfl rfl 10 (by decide) (hwd _ wk_55) (fun _ h9 => h9) rfl dX11_insure_14 ?_
    refine lv_iload_n hx hb dX11_insure_17 rfl (lv_at hl 1 rfl) ?_
    refine lv_aload_n hx hb dX11_insure_18 rfl (lv_at hl 0 rfl) ?_
    refine va_get (D := (dC, dI)) (ci := 11) (v := .int (v 11)) (C := RX11) (T := TX11) (N := 14) hx hb hwd inA_X11 hown hK hP 0 rfl rfl 11 (by decide) (hwd _ wk_323) (fun _ h9 => h9) rfl dX11_insure_19 ?_
    have t2685 : 0 ≤ (v 11).toInt ∧ (v 11).toInt ≤ 9999 := hI.1 11 _ _ rfl
    refine lv_aload_n hx hb dX11_insure_22 rfl (lv_at hl 0 rfl) ?_
    refine va_get (D := (dC, dI)) (ci := 11) (v := .int (v 11)) (C := RX11) (T := TX11) (N := 14) hx hb hwd inA_X11 hown hK hP 0 rfl rfl 11 (by decide) (hwd _ wk_323) (fun _ h9 => h9) rfl dX11_insure_23 ?_
    have t2686 : 0 ≤ (v 11).toInt ∧ (v 11).toInt ≤ 9999 := hI.1 11 _ _ rfl
    refine va_calli (va_runV (As := [.int p0, .int (v 11), .int (v 11)]) (rest := []) ⟨hx, hb, hml, hown, hwd⟩ (c_X1_groundOf l dC dI g c adK adV v F rc H.size p0 (v 11) (v 11) hg hI (by omega)) (cwV 3 hwd (gV wk_340 wk_337 wk_338 wk_339 wk_54) rfl rfl rfl (by decide +kernel) ⟨Nat.le_of_ble_eq_true rfl, Nat.le_of_ble_eq_true rfl⟩) ⟨PX.blind, va_recv hK hP (ci := 1) (q0 := 11) rfl rfl, fun U hU hW => ⟨rfl, PX.at hK hE hP hS hU hW⟩⟩ rfl rfl hl.1 rfl (lv_room (Nat.le_of_ble_eq_true rfl)) dX11_insure_26 ⟨Nat.le_of_ble_eq_true rfl, Nat.le_of_ble_eq_true rfl⟩) hS (fun q _ h => (freeX hS) q h) (freeX hS) (fun r2687 u t H1 locs ht hvm hw hB hz1 hk1 hS => ?_)
    unfold BX at hB
    rw [ht] at hB
    obtain ⟨v2688, F2689, rc9⟩ := u
    obtain ⟨hI, hal9, hrc, hf2690, hw⟩ := hw
    dsimp only at hI hal9 hrc hB hf2690 hw
    rw [hrc] at hB
    have hal := hal9.trans hal
    have hP : va_P (dC, dI) classes (wX g c v2688 F2689 rc) H1 := hB
    generalize H1 = H at hP hS ⊢
    have rr_r2687 := i32_rng r2687
    refine lv_if_eq (tgt := 34) hx hb dX11_insure_29 (by decide) (fun c2691 => ?_) (fun c2691 => ?_)
    · skip
      have t2692 := cv_eq (a := r2687.toInt) rfl (b := 0) (by decide) c2691
      refine lv_aload_n hx hb dX11_insure_34 rfl (lv_at hl 0 rfl) ?_
      refine va_get (D := (dC, dI)) (ci := 11) (v := .ref (g 2)) (C := RX11) (T := TX11) (N := 14) hx hb hwd inA_X11 hown hK hP 0 rfl rfl 1 (by decide) (hwd _ wk_19) (fun _ h9 => h9) rfl dX11_insure_35 ?_
      refine va_get (D := (dC, dI)) (ci := 8) (v := .ref (g 15)) (C := RX8) (T := TX8) (N := 10) hx hb hwd inA_X8 hown hK hP 2 rfl rfl 1 (by decide) (hwd _ wk_532) (fun _ h9 => h9) rfl dX11_insure_38 ?_
      refine lv_iload_n hx hb dX11_insure_41 rfl (lv_at hl 1 rfl) ?_
      refine va_iald hx hb hK hP 15 3 rfl rfl (i := p0) (vin (a := p0.toInt) rfl (by omega)) dX11_insure_42 ?_
      refine lv_topi (fun z2693 e2694 => ?_)
      refine lv_iconst (v := 0) hx hb dX11_insure_43 (by decide) ?_
      refine lv_aload_n hx hb dX11_insure_44 rfl (lv_at hl 0 rfl) ?_
      refine va_get (D := (dC, dI)) (ci := 11) (v := .ref (g 10)) (C := RX11) (T := TX11) (N := 14) hx hb hwd inA_X11 hown hK hP 0 rfl rfl 9 (by decide) (hwd _ wk_51) (fun _ h9 => h9) rfl dX11_insure_45 ?_
      refine lv_iload_n hx hb dX11_insure_48 rfl (lv_at hl 1 rfl) ?_
      refine lv_aload_n hx hb dX11_insure_49 rfl (lv_at hl 0 rfl) ?_
      refine va_get (D := (dC, dI)) (ci := 11) (v := .int (v2688 11)) (C := RX11) (T := TX11) (N := 14) hx hb hwd inA_X11 hown hK hP 0 rfl rfl 11 (by decide) (hwd _ wk_323) (fun _ h9 => h9) rfl dX11_insure_50 ?_
      refine my_top (v := v 11) (hf2690 11 (by decide)) ?_
      have t2695 : 0 ≤ (v 11).toInt ∧ (v 11).toInt ≤ 9999 := by have h9 := hI.1 11 _ _ rfl; rw [show v2688 11 = v 11 from hf2690 11 (by decide)] at h9; exact h9
      refine va_calli (va_runV (As := [.int p0, .int (v 11)]) (rest := [.int 0, .int z2693]) ⟨hx, hb, hml, hown, hwd⟩ (c_X5_halfOf l dC dI g c adK adV v2688 F2689 rc H.size p0 (v 11) hg hI ) (cwV 2 hwd (gV wk_1356 wk_1353 wk_1354 wk_1355 wk_50) rfl rfl rfl (by decide +kernel) ⟨Nat.le_of_ble_eq_true rfl, Nat.le_of_ble_eq_true rfl⟩) ⟨PX.blind, va_recv hK hP (ci := 5) (q0 := 10) rfl rfl, fun U hU hW => ⟨rfl, PX.at hK hE hP hS hU hW⟩⟩ rfl rfl hl.1 rfl (lv_room (Nat.le_of_ble_eq_true rfl)) dX11_insure_53 ⟨Nat.le_of_ble_eq_true rfl, Nat.le_of_ble_eq_true rfl⟩) hS (fun q _ h => (freeX hS) q h) (freeX hS) (fun r2696 u t H1 locs ht hvm hw hB hz1 hk1 hS => ?_)
      unfold BX at hB
      rw [ht] at hB
      obtain ⟨v2697, F2698, rc9⟩ := u
      obtain ⟨hI, hal9, hrc, hf2699, hw⟩ := hw
      dsimp only at hI hal9 hrc hB hf2699 hw
      rw [hrc] at hB
      have hal := hal9.trans hal
      have hP : va_P (dC, dI) classes (wX g c v2697 F2698 rc) H1 := hB
      generalize H1 = H at hP hS ⊢
      have rr_r2696 := i32_rng r2696
      refine va_mmax hx hb (by rw [hml]; exact hl.1.symm) hown (hwd _ wk_1387) (hwd _ wk_395) (hwd _ wk_392) (hwd _ wk_396) (Nat.le_of_ble_eq_true rfl) (Nat.le_of_ble_eq_true rfl) (Nat.le_of_ble_eq_true rfl) (Nat.le_of_ble_eq_true rfl) dX11_insure_56 ?_
      refine lv_topi (fun z2700 e2701 => ?_)
      have t2702 := tmax e2701 (a := 0) (by decide) (b := r2696.toInt) rfl
      refine lv_iadd hx hb dX11_insure_59 ?_
      refine lv_topi (fun z2703 e2704 => ?_)
      try (have t2705 := tadd e2704 (a := z2693.toInt) rfl (b := z2700.toInt) rfl (by omega))
      refine lv_istore_n (lv' := [(2, .int z2703), (0, .ref (g 0)), (1, .int p0)]) hx hb dX11_insure_60 rfl hl (by decide) rfl (fun ls hl => ?_)
      refine lv_iload_n hx hb dX11_insure_61 rfl (lv_at hl 0 rfl) ?_
      refine lv_sipush (v := 999) hx hb dX11_insure_62 (by decide) ?_
      refine lv_iadd hx hb dX11_insure_65 ?_
      refine lv_topi (fun z2706 e2707 => ?_)
      try (have t2708 := tadd e2707 (a := z2703.toInt) rfl (b := 999) (by decide) (by omega))
      refine lv_sipush (v := 1000) hx hb dX11_insure_66 (by decide) ?_
      refine lv_idiv hx hb dX11_insure_69 (by decide) ?_
      refine lv_topi (fun z2709 e2710 => ?_)
      have hP9 : va_P (dC, dI) classes (wX g c v2697 F2698 rc) H := hP
      exact W.iret (v := z2709) hx hb hr (fun t ht hW => ⟨⟨z2709, (v2697, F2698, rc), rfl, ⟨hI, hal, rfl, (frC (by decide) hf2699 (frC (by decide) hf2690 (fun _ _ => rfl))), trivial⟩, (by show va_P _ _ _ t.heap; rw [ht]; exact hP9)⟩, hS.F ht⟩) hS.2.2 dX11_insure_70
    · skip
      have t2712 := cv_ne (a := r2687.toInt) rfl (b := 0) (by decide) c2691
      refine lv_iconst (v := 0) hx hb dX11_insure_32 (by decide) ?_
      have hP9 : va_P (dC, dI) classes (wX g c v2688 F2689 rc) H := hP
      exact W.iret (v := 0) hx hb hr (fun t ht hW => ⟨⟨0, (v2688, F2689, rc), rfl, ⟨hI, hal, rfl, (frC (by decide) hf2690 (fun _ _ => rfl)), trivial⟩, (by show va_P _ _ _ t.heap; rw [ht]; exact hP9)⟩, hS.F ht⟩) hS.2.2 dX11_insure_33
  · skip
    have t2713 := cv_eq (a := r2682.toInt) rfl (b := 0) (by decide) c2683
    refine lv_iconst (v := (-1)) hx hb dX11_insure_11 (by decide) ?_
    have hP9 : va_P (dC, dI) classes (wX g c v F rc) H := hP
    exact W.iret (v := (-1)) hx hb hr (fun t ht hW => ⟨⟨(-1), (v, F, rc), rfl, ⟨hI, hal, rfl, (fun _ _ => rfl), trivial⟩, (by show va_P _ _ _ t.heap; rw [ht]; exact hP9)⟩, hS.F ht⟩) hS.2.2 dX11_insure_12
set_option maxHeartbeats 8000000 in
set_option maxRecDepth 100000 in
theorem c_X11_net (l : Launch) (dC : Nat → ClassId) (dI : Nat → Nat → Nat) (g : Nat → Nat) (c : Nat → ClassId) (adK adV : Nat → Nat) (v : Nat → Int32) (F : Nat → Nat → Int32) (rc sz : Nat) (p0 : Int32) (p1 : Int32) (p2 : Int32) (hg : injX g) (hI : IX v F) : Met l yX11_net (Cond.code yX11_net cX11_net 4 (some .int) :: wA) ({ frames := 2, cells := 0, slots := 0, locals := 80 }) (va_Pc [.ref (g 0), .int p0, .int p1, .int p2] (PX dC dI g c adK adV v F rc sz)) (va_Qi (fun (r : Int32) (u : Unit) => True) (fun (_ : Unit) => BX dC dI g c (v, F, rc)) (AX g sz)) 0 0 (AX g sz) := by
  refine Met.ofW (cc := cX11_net) (maxL := 4) (ret := (some .int)) (by decide) rfl ?_
  intro p e s m args below meth c0 s₁ B hml hv
  obtain ⟨rfl, hsz, hP, hK, hE⟩ := hv
  have hx := B.exec
  have hb := B.bytes
  have hr := B.returns
  have hts := atoms_spec (ws := Cond.code yX11_net cX11_net 4 (some .int) :: wA) B.pre
  have hwd : ∀ w ∈ wA, w.before _ s = true := fun w h => hts w (List.mem_cons_of_mem _ h)
  have hown : s.vm.findClass RX11 = some m.cls := findClass_of_methodNamed B.named
  have hlocks := B.notSynchronized
  subst hsz
  have hl := lv_entry ([.ref (g 0), .int p0, .int p1, .int p2]) (n := 4) (Nat.le_of_ble_eq_true rfl)
  rw [lg_entry_eq]
  generalize (lg_sl ([.ref (g 0), .int p0, .int p1, .int p2]) ++ List.replicate (4 - (lg_sl ([.ref (g 0), .int p0, .int p1, .int p2])).length) Slot.unset).toArray = ls at hl ⊢
  have hl : lv_has ls 4 [(0, .ref (g 0)), (1, .int p0), (2, .int p1), (3, .int p2)] := hl
  obtain ⟨H, eH⟩ : ∃ z, z = s.heap := ⟨_, rfl⟩
  have hP : va_P (dC, dI) classes (wX g c v F rc) H := by rw [eH]; exact hP
  have hS : va_S (AX g s.heap.size) s.heap H [] := by rw [eH]; exact va_S.rf
  refine my_heap eH ?_
  have rp0 := i32_rng p0
  have rp1 := i32_rng p1
  have rp2 := i32_rng p2
  refine lv_aload_n hx hb dX11_net_0 rfl (lv_at hl 0 rfl) ?_
  refine va_get (D := (dC, dI)) (ci := 11) (v := .ref (g 2)) (C := RX11) (T := TX11) (N := 14) hx hb hwd inA_X11 hown hK hP 0 rfl rfl 1 (by decide) (hwd _ wk_19) (fun _ h9 => h9) rfl dX11_net_1 ?_
  refine lv_iload_n hx hb dX11_net_4 rfl (lv_at hl 1 rfl) ?_
  refine va_calli (va_runV (As := [.int p0]) (rest := []) ⟨hx, hb, hml, hown, hwd⟩ (c_X8_has l dC dI g c adK adV v F rc H.size p0 hg hI ) (cwV 1 hwd (gV wk_276 wk_273 wk_274 wk_275 wk_18) rfl rfl rfl (by decide +kernel) ⟨Nat.le_of_ble_eq_true rfl, Nat.le_of_ble_eq_true rfl⟩) ⟨PX.blind, va_recv hK hP (ci := 8) (q0 := 2) rfl rfl, fun U hU hW => ⟨rfl, PX.at hK hE hP hS hU hW⟩⟩ rfl rfl hl.1 rfl (lv_room (Nat.le_of_ble_eq_true rfl)) dX11_net_5 ⟨Nat.le_of_ble_eq_true rfl, Nat.le_of_ble_eq_true rfl⟩) hS (fun q _ h => (freeX hS) q h) (freeX hS) (fun r2714 u t H1 locs ht hvm hw hB hz1 hk1 hS => ?_)
  unfold BX at hB
  rw [ht] at hB
  have hP : va_P (dC, dI) classes (wX g c v F rc) H1 := hB
  have hw : (0 ≤ r2714.toInt ∧ r2714.toInt ≤ 1) ∧ (r2714.toInt = 1 → 0 ≤ p0.toInt ∧ p0.toInt < 10) := hw
  generalize H1 = H at hP hS ⊢
  have hw_r2714 := hw
  refine lv_if_eq (tgt := 41) hx hb dX11_net_8 (by decide) (fun c2715 => ?_) (fun c2715 => ?_)
  · skip
    have t2716 := cv_eq (a := r2714.toInt) rfl (b := 0) (by decide) c2715
    refine lv_ldc (v := (-2000000000)) hx hb hown (hwd _ wk_56) dX11_net_41 ?_
    have hP9 : va_P (dC, dI) classes (wX g c v F rc) H := hP
    exact W.iret (v := (-2000000000)) hx hb hr (fun t ht hW => ⟨⟨(-2000000000), (), rfl, trivial, (by show va_P _ _ _ t.heap; rw [ht]; exact hP9)⟩, hS.F ht⟩) hS.2.2 dX11_net_43
  · skip
    have t2717 := cv_ne (a := r2714.toInt) rfl (b := 0) (by decide) c2715
    refine lv_iload_n hx hb dX11_net_11 rfl (lv_at hl 3 rfl) ?_
    refine lv_iconst (v := 1) hx hb dX11_net_12 (by decide) ?_
    refine lv_sipush (v := 999) hx hb dX11_net_13 (by decide) ?_
    refine va_calli (va_runS (As := [.int p2, .int 1, .int 999]) (rest := []) ⟨hx, hb, hml, hown, hwd⟩ (c_X11_within l dC dI g c adK adV v F rc H.size p2 1 999 hg hI ) (va_cwS 3 hwd (gT wk_239 wk_237 wk_238 wk_2) rfl rfl rfl (by decide +kernel) ⟨Nat.le_of_ble_eq_true rfl, Nat.le_of_ble_eq_true rfl⟩) ⟨PX.blind, fun U hU hW => ⟨rfl, PX.at hK hE hP hS hU hW⟩⟩ rfl rfl hl.1 rfl (lv_room (Nat.le_of_ble_eq_true rfl)) dX11_net_16 ⟨Nat.le_of_ble_eq_true rfl, Nat.le_of_ble_eq_true rfl⟩) hS (fun q _ h => (freeX hS) q h) (freeX hS) (fun r2718 u t H1 locs ht hvm hw hB hz1 hk1 hS => ?_)
    unfold BX at hB
    rw [ht] at hB
    have hP : va_P (dC, dI) classes (wX g c v F rc) H1 := hB
    have hw : (r2718.toInt = 1 ∧ (1 : Int32).toInt ≤ p2.toInt ∧ p2.toInt ≤ (999 : Int32).toInt) ∨ (r2718.toInt = 0 ∧ (p2.toInt < (1 : Int32).toInt ∨ (999 : Int32).toInt < p2.toInt)) := hw
    have k2719 : (1 : Int32).toInt = 1 := by decide
    have k2720 : (999 : Int32).toInt = 999 := by decide
    generalize H1 = H at hP hS ⊢
    have hw_r2718 := hw
    refine lv_if_eq (tgt := 41) hx hb dX11_net_19 (by decide) (fun c2721 => ?_) (fun c2721 => ?_)
    · skip
      have t2722 := cv_eq (a := r2718.toInt) rfl (b := 0) (by decide) c2721
      refine lv_ldc (v := (-2000000000)) hx hb hown (hwd _ wk_56) dX11_net_41 ?_
      have hP9 : va_P (dC, dI) classes (wX g c v F rc) H := hP
      exact W.iret (v := (-2000000000)) hx hb hr (fun t ht hW => ⟨⟨(-2000000000), (), rfl, trivial, (by show va_P _ _ _ t.heap; rw [ht]; exact hP9)⟩, hS.F ht⟩) hS.2.2 dX11_net_43
    · skip
      have t2723 := cv_ne (a := r2718.toInt) rfl (b := 0) (by decide) c2721
      refine lv_iload_n hx hb dX11_net_22 rfl (lv_at hl 2 rfl) ?_
      refine lv_iconst (v := 0) hx hb dX11_net_23 (by decide) ?_
      refine lv_aload_n hx hb dX11_net_24 rfl (lv_at hl 0 rfl) ?_
      refine va_get (D := (dC, dI)) (ci := 11) (v := .ref (g 2)) (C := RX11) (T := TX11) (N := 14) hx hb hwd inA_X11 hown hK hP 0 rfl rfl 1 (by decide) (hwd _ wk_19) (fun _ h9 => h9) rfl dX11_net_25 ?_
      refine va_get (D := (dC, dI)) (ci := 8) (v := .ref (g 20)) (C := RX8) (T := TX8) (N := 10) hx hb hwd inA_X8 hown hK hP 2 rfl rfl 6 (by decide) (hwd _ wk_1408) (fun _ h9 => h9) rfl dX11_net_28 ?_
      refine lv_iload_n hx hb dX11_net_31 rfl (lv_at hl 1 rfl) ?_
      refine va_iald hx hb hK hP 20 8 rfl rfl (i := p0) (vin (a := p0.toInt) rfl (by omega)) dX11_net_32 ?_
      refine lv_topi (fun z2724 e2725 => ?_)
      have t2726 : 0 ≤ z2724.toInt ∧ z2724.toInt ≤ 4 := by rw [e2725]; exact hI.2 20 _ _ rfl _
      refine lv_iconst (v := 1) hx hb dX11_net_33 (by decide) ?_
      refine lv_isub hx hb dX11_net_34 ?_
      refine lv_topi (fun z2727 e2728 => ?_)
      try (have t2729 := tsub e2728 (a := z2724.toInt) rfl (b := 1) (by decide) (by omega))
      refine va_calli (va_runS (As := [.int p1, .int 0, .int z2727]) (rest := []) ⟨hx, hb, hml, hown, hwd⟩ (c_X11_within l dC dI g c adK adV v F rc H.size p1 0 z2727 hg hI ) (va_cwS 3 hwd (gT wk_239 wk_237 wk_238 wk_2) rfl rfl rfl (by decide +kernel) ⟨Nat.le_of_ble_eq_true rfl, Nat.le_of_ble_eq_true rfl⟩) ⟨PX.blind, fun U hU hW => ⟨rfl, PX.at hK hE hP hS hU hW⟩⟩ rfl rfl hl.1 rfl (lv_room (Nat.le_of_ble_eq_true rfl)) dX11_net_35 ⟨Nat.le_of_ble_eq_true rfl, Nat.le_of_ble_eq_true rfl⟩) hS (fun q _ h => (freeX hS) q h) (freeX hS) (fun r2730 u t H1 locs ht hvm hw hB hz1 hk1 hS => ?_)
      unfold BX at hB
      rw [ht] at hB
      have hP : va_P (dC, dI) classes (wX g c v F rc) H1 := hB
      have hw : (r2730.toInt = 1 ∧ (0 : Int32).toInt ≤ p1.toInt ∧ p1.toInt ≤ z2727.toInt) ∨ (r2730.toInt = 0 ∧ (p1.toInt < (0 : Int32).toInt ∨ z2727.toInt < p1.toInt)) := hw
      have k2731 : (0 : Int32).toInt = 0 := by decide
      generalize H1 = H at hP hS ⊢
      have hw_r2730 := hw
      refine lv_if_ne (tgt := 44) hx hb dX11_net_38 (by decide) (fun c2732 => ?_) (fun c2732 => ?_)
      · skip
        have t2733 := cv_ne (a := r2730.toInt) rfl (b := 0) (by decide) c2732
        refine lv_aload_n hx hb dX11_net_44 rfl (lv_at hl 0 rfl) ?_
        refine va_get (D := (dC, dI)) (ci := 11) (v := .ref (g 2)) (C := RX11) (T := TX11) (N := 14) hx hb hwd inA_X11 hown hK hP 0 rfl rfl 1 (by decide) (hwd _ wk_19) (fun _ h9 => h9) rfl dX11_net_45 ?_
        refine lv_iload_n hx hb dX11_net_48 rfl (lv_at hl 1 rfl) ?_
        refine lv_iload_n hx hb dX11_net_49 rfl (lv_at hl 2 rfl) ?_
        refine va_calli (va_runV (As := [.int p0, .int p1]) (rest := []) ⟨hx, hb, hml, hown, hwd⟩ (c_X8_linkRent l dC dI g c adK adV v F rc H.size p0 p1 hg hI (by omega)) (cwV 2 hwd (gV wk_1412 wk_1409 wk_1410 wk_1411 wk_18) rfl rfl rfl (by decide +kernel) ⟨Nat.le_of_ble_eq_true rfl, Nat.le_of_ble_eq_true rfl⟩) ⟨PX.blind, va_recv hK hP (ci := 8) (q0 := 2) rfl rfl, fun U hU hW => ⟨rfl, PX.at hK hE hP hS hU hW⟩⟩ rfl rfl hl.1 rfl (lv_room (Nat.le_of_ble_eq_true rfl)) dX11_net_50 ⟨Nat.le_of_ble_eq_true rfl, Nat.le_of_ble_eq_true rfl⟩) hS (fun q _ h => (freeX hS) q h) (freeX hS) (fun r2734 u t H1 locs ht hvm hw hB hz1 hk1 hS => ?_)
        unfold BX at hB
        rw [ht] at hB
        have hP : va_P (dC, dI) classes (wX g c v F rc) H1 := hB
        generalize H1 = H at hP hS ⊢
        have rr_r2734 := i32_rng r2734
        refine lv_aload_n hx hb dX11_net_53 rfl (lv_at hl 0 rfl) ?_
        refine va_get (D := (dC, dI)) (ci := 11) (v := .ref (g 2)) (C := RX11) (T := TX11) (N := 14) hx hb hwd inA_X11 hown hK hP 0 rfl rfl 1 (by decide) (hwd _ wk_19) (fun _ h9 => h9) rfl dX11_net_54 ?_
        refine lv_iload_n hx hb dX11_net_57 rfl (lv_at hl 1 rfl) ?_
        refine lv_iload_n hx hb dX11_net_58 rfl (lv_at hl 2 rfl) ?_
        refine lv_iconst (v := 1) hx hb dX11_net_59 (by decide) ?_
        refine lv_iadd hx hb dX11_net_60 ?_
        refine lv_topi (fun z2735 e2736 => ?_)
        try (have t2737 := tadd e2736 (a := p1.toInt) rfl (b := 1) (by decide) (by omega))
        refine va_calli (va_runV (As := [.int p0, .int z2735]) (rest := [.int r2734]) ⟨hx, hb, hml, hown, hwd⟩ (c_X8_linkRent l dC dI g c adK adV v F rc H.size p0 z2735 hg hI (by omega)) (cwV 2 hwd (gV wk_1412 wk_1409 wk_1410 wk_1411 wk_18) rfl rfl rfl (by decide +kernel) ⟨Nat.le_of_ble_eq_true rfl, Nat.le_of_ble_eq_true rfl⟩) ⟨PX.blind, va_recv hK hP (ci := 8) (q0 := 2) rfl rfl, fun U hU hW => ⟨rfl, PX.at hK hE hP hS hU hW⟩⟩ rfl rfl hl.1 rfl (lv_room (Nat.le_of_ble_eq_true rfl)) dX11_net_61 ⟨Nat.le_of_ble_eq_true rfl, Nat.le_of_ble_eq_true rfl⟩) hS (fun q _ h => (freeX hS) q h) (freeX hS) (fun r2738 u t H1 locs ht hvm hw hB hz1 hk1 hS => ?_)
        unfold BX at hB
        rw [ht] at hB
        have hP : va_P (dC, dI) classes (wX g c v F rc) H1 := hB
        generalize H1 = H at hP hS ⊢
        have rr_r2738 := i32_rng r2738
        refine lv_isub hx hb dX11_net_64 ?_
        refine lv_topi (fun z2739 e2740 => ?_)
        try (have t2741 := tsub e2740 (a := r2734.toInt) rfl (b := r2738.toInt) rfl (by omega))
        refine lv_iload_n hx hb dX11_net_65 rfl (lv_at hl 3 rfl) ?_
        refine lv_imul hx hb dX11_net_66 ?_
        refine lv_topi (fun z2742 e2743 => ?_)
        try (have t2744 := tmul e2743 (a := z2739.toInt) rfl (b := p2.toInt) rfl (by omega))
        have hP9 : va_P (dC, dI) classes (wX g c v F rc) H := hP
        exact W.iret (v := z2742) hx hb hr (fun t ht hW => ⟨⟨z2742, (), rfl, trivial, (by show va_P _ _ _ t.heap; rw [ht]; exact hP9)⟩, hS.F ht⟩) hS.2.2 dX11_net_67
      · skip
        have t2745 := cv_eq (a := r2730.toInt) rfl (b := 0) (by decide) c2732
        refine lv_ldc (v := (-2000000000)) hx hb hown (hwd _ wk_56) dX11_net_41 ?_
        have hP9 : va_P (dC, dI) classes (wX g c v F rc) H := hP
        exact W.iret (v := (-2000000000)) hx hb hr (fun t ht hW => ⟨⟨(-2000000000), (), rfl, trivial, (by show va_P _ _ _ t.heap; rw [ht]; exact hP9)⟩, hS.F ht⟩) hS.2.2 dX11_net_43
set_option maxHeartbeats 8000000 in
set_option maxRecDepth 100000 in
theorem c_X11_count (l : Launch) (dC : Nat → ClassId) (dI : Nat → Nat → Nat) (g : Nat → Nat) (c : Nat → ClassId) (adK adV : Nat → Nat) (v : Nat → Int32) (F : Nat → Nat → Int32) (rc sz : Nat) (p0 : Int32) (hg : injX g) (hI : IX v F) : Met l yX11_count (Cond.code yX11_count cX11_count 2 (some .int) :: wA) ({ frames := 3, cells := 0, slots := 0, locals := 120 }) (va_Pc [.ref (g 0), .int p0] (PX dC dI g c adK adV v F rc sz)) (va_Qi (fun (r : Int32) (u : Unit) => True) (fun (_ : Unit) => BX dC dI g c (v, F, rc)) (AX g sz)) 0 0 (AX g sz) := by
  refine Met.ofW (cc := cX11_count) (maxL := 2) (ret := (some .int)) (by decide) rfl ?_
  intro p e s m args below meth c0 s₁ B hml hv
  obtain ⟨rfl, hsz, hP, hK, hE⟩ := hv
  have hx := B.exec
  have hb := B.bytes
  have hr := B.returns
  have hts := atoms_spec (ws := Cond.code yX11_count cX11_count 2 (some .int) :: wA) B.pre
  have hwd : ∀ w ∈ wA, w.before _ s = true := fun w h => hts w (List.mem_cons_of_mem _ h)
  have hown : s.vm.findClass RX11 = some m.cls := findClass_of_methodNamed B.named
  have hlocks := B.notSynchronized
  subst hsz
  have hl := lv_entry ([.ref (g 0), .int p0]) (n := 2) (Nat.le_of_ble_eq_true rfl)
  rw [lg_entry_eq]
  generalize (lg_sl ([.ref (g 0), .int p0]) ++ List.replicate (2 - (lg_sl ([.ref (g 0), .int p0])).length) Slot.unset).toArray = ls at hl ⊢
  have hl : lv_has ls 2 [(0, .ref (g 0)), (1, .int p0)] := hl
  obtain ⟨H, eH⟩ : ∃ z, z = s.heap := ⟨_, rfl⟩
  have hP : va_P (dC, dI) classes (wX g c v F rc) H := by rw [eH]; exact hP
  have hS : va_S (AX g s.heap.size) s.heap H [] := by rw [eH]; exact va_S.rf
  refine my_heap eH ?_
  have rp0 := i32_rng p0
  refine lv_iload_n hx hb dX11_count_0 rfl (lv_at hl 1 rfl) ?_
  by_cases hlo2746 : p0.toInt < 0
  · refine lv_tableOut (tgt := 172) hx hb dX11_count_1 (Or.inl hlo2746) (by decide) ?_
    refine lv_iconst (v := (-1)) hx hb dX11_count_172 (by decide) ?_
    have hP9 : va_P (dC, dI) classes (wX g c v F rc) H := hP
    exact W.iret (v := (-1)) hx hb hr (fun t ht hW => ⟨⟨(-1), (), rfl, trivial, (by show va_P _ _ _ t.heap; rw [ht]; exact hP9)⟩, hS.F ht⟩) hS.2.2 dX11_count_173
  by_cases hhi2747 : 12 < p0.toInt
  · refine lv_tableOut (tgt := 172) hx hb dX11_count_1 (Or.inr hhi2747) (by decide) ?_
    refine lv_iconst (v := (-1)) hx hb dX11_count_172 (by decide) ?_
    have hP9 : va_P (dC, dI) classes (wX g c v F rc) H := hP
    exact W.iret (v := (-1)) hx hb hr (fun t ht hW => ⟨⟨(-1), (), rfl, trivial, (by show va_P _ _ _ t.heap; rw [ht]; exact hP9)⟩, hS.F ht⟩) hS.2.2 dX11_count_173
  rcases (show p0.toInt = 0 ∨ p0.toInt = 1 ∨ p0.toInt = 2 ∨ p0.toInt = 3 ∨ p0.toInt = 4 ∨ p0.toInt = 5 ∨ p0.toInt = 6 ∨ p0.toInt = 7 ∨ p0.toInt = 8 ∨ p0.toInt = 9 ∨ p0.toInt = 10 ∨ p0.toInt = 11 ∨ p0.toInt = 12 by omega) with hk | hk | hk | hk | hk | hk | hk | hk | hk | hk | hk | hk | hk
  · refine lv_tableIn (off := 67) (tgt := 68) hx hb dX11_count_1 hlo2746 hhi2747 (by rw [hk]; decide) (by decide) ?_
    refine lv_aload_n hx hb dX11_count_68 rfl (lv_at hl 0 rfl) ?_
    refine va_get (D := (dC, dI)) (ci := 11) (v := .ref (g 1)) (C := RX11) (T := TX11) (N := 14) hx hb hwd inA_X11 hown hK hP 0 rfl rfl 0 (by decide) (hwd _ wk_15) (fun _ h9 => h9) rfl dX11_count_69 ?_
    refine va_get (D := (dC, dI)) (ci := 2) (v := .int (v 20)) (C := RX2) (T := TX2) (N := 4) hx hb hwd inA_X2 hown hK hP 1 rfl rfl 0 (by decide) (hwd _ wk_457) (fun _ h9 => h9) rfl dX11_count_72 ?_
    have t2748 : 0 ≤ (v 20).toInt ∧ (v 20).toInt ≤ 10 := hI.1 20 _ _ rfl
    have hP9 : va_P (dC, dI) classes (wX g c v F rc) H := hP
    exact W.iret (v := v 20) hx hb hr (fun t ht hW => ⟨⟨(v 20), (), rfl, trivial, (by show va_P _ _ _ t.heap; rw [ht]; exact hP9)⟩, hS.F ht⟩) hS.2.2 dX11_count_75
  · refine lv_tableIn (off := 75) (tgt := 76) hx hb dX11_count_1 hlo2746 hhi2747 (by rw [hk]; decide) (by decide) ?_
    refine lv_aload_n hx hb dX11_count_76 rfl (lv_at hl 0 rfl) ?_
    refine va_get (D := (dC, dI)) (ci := 11) (v := .ref (g 2)) (C := RX11) (T := TX11) (N := 14) hx hb hwd inA_X11 hown hK hP 0 rfl rfl 1 (by decide) (hwd _ wk_19) (fun _ h9 => h9) rfl dX11_count_77 ?_
    refine va_get (D := (dC, dI)) (ci := 8) (v := .int (v 40)) (C := RX8) (T := TX8) (N := 10) hx hb hwd inA_X8 hown hK hP 2 rfl rfl 0 (by decide) (hwd _ wk_1421) (fun _ h9 => h9) rfl dX11_count_80 ?_
    have t2749 : 0 ≤ (v 40).toInt ∧ (v 40).toInt ≤ 10 := hI.1 40 _ _ rfl
    have hP9 : va_P (dC, dI) classes (wX g c v F rc) H := hP
    exact W.iret (v := v 40) hx hb hr (fun t ht hW => ⟨⟨(v 40), (), rfl, trivial, (by show va_P _ _ _ t.heap; rw [ht]; exact hP9)⟩, hS.F ht⟩) hS.2.2 dX11_count_83
  · refine lv_tableIn (off := 83) (tgt := 84) hx hb dX11_count_1 hlo2746 hhi2747 (by rw [hk]; decide) (by decide) ?_
    refine lv_aload_n hx hb dX11_count_84 rfl (lv_at hl 0 rfl) ?_
    refine va_get (D := (dC, dI)) (ci := 11) (v := .ref (g 3)) (C := RX11) (T := TX11) (N := 14) hx hb hwd inA_X11 hown hK hP 0 rfl rfl 2 (by decide) (hwd _ wk_27) (fun _ h9 => h9) rfl dX11_count_85 ?_
    refine va_get (D := (dC, dI)) (ci := 7) (v := .int (v 61)) (C := RX7) (T := TX7) (N := 7) hx hb hwd inA_X7 hown hK hP 3 rfl rfl 1 (by decide) (hwd _ wk_561) (fun _ h9 => h9) rfl dX11_count_88 ?_
    have t2750 : 0 ≤ (v 61).toInt ∧ (v 61).toInt ≤ 100 := hI.1 61 _ _ rfl
    have hP9 : va_P (dC, dI) classes (wX g c v F rc) H := hP
    exact W.iret (v := v 61) hx hb hr (fun t ht hW => ⟨⟨(v 61), (), rfl, trivial, (by show va_P _ _ _ t.heap; rw [ht]; exact hP9)⟩, hS.F ht⟩) hS.2.2 dX11_count_91
  · refine lv_tableIn (off := 91) (tgt := 92) hx hb dX11_count_1 hlo2746 hhi2747 (by rw [hk]; decide) (by decide) ?_
    refine lv_aload_n hx hb dX11_count_92 rfl (lv_at hl 0 rfl) ?_
    refine va_get (D := (dC, dI)) (ci := 11) (v := .int (v 11)) (C := RX11) (T := TX11) (N := 14) hx hb hwd inA_X11 hown hK hP 0 rfl rfl 11 (by decide) (hwd _ wk_323) (fun _ h9 => h9) rfl dX11_count_93 ?_
    have t2751 : 0 ≤ (v 11).toInt ∧ (v 11).toInt ≤ 9999 := hI.1 11 _ _ rfl
    have hP9 : va_P (dC, dI) classes (wX g c v F rc) H := hP
    exact W.iret (v := v 11) hx hb hr (fun t ht hW => ⟨⟨(v 11), (), rfl, trivial, (by show va_P _ _ _ t.heap; rw [ht]; exact hP9)⟩, hS.F ht⟩) hS.2.2 dX11_count_96
  · refine lv_tableIn (off := 96) (tgt := 97) hx hb dX11_count_1 hlo2746 hhi2747 (by rw [hk]; decide) (by decide) ?_
    refine lv_aload_n hx hb dX11_count_97 rfl (lv_at hl 0 rfl) ?_
    refine va_get (D := (dC, dI)) (ci := 11) (v := .ref (g 6)) (C := RX11) (T := TX11) (N := 14) hx hb hwd inA_X11 hown hK hP 0 rfl rfl 5 (by decide) (hwd _ wk_35) (fun _ h9 => h9) rfl dX11_count_98 ?_
    refine va_get (D := (dC, dI)) (ci := 4) (v := .int (v 120)) (C := RX4) (T := TX4) (N := 7) hx hb hwd inA_X4 hown hK hP 6 rfl rfl 0 (by decide) (hwd _ wk_844) (fun _ h9 => h9) rfl dX11_count_101 ?_
    have t2752 : 0 ≤ (v 120).toInt ∧ (v 120).toInt ≤ 10 := hI.1 120 _ _ rfl
    have hP9 : va_P (dC, dI) classes (wX g c v F rc) H := hP
    exact W.iret (v := v 120) hx hb hr (fun t ht hW => ⟨⟨(v 120), (), rfl, trivial, (by show va_P _ _ _ t.heap; rw [ht]; exact hP9)⟩, hS.F ht⟩) hS.2.2 dX11_count_104
  · refine lv_tableIn (off := 104) (tgt := 105) hx hb dX11_count_1 hlo2746 hhi2747 (by rw [hk]; decide) (by decide) ?_
    refine lv_aload_n hx hb dX11_count_105 rfl (lv_at hl 0 rfl) ?_
    refine va_get (D := (dC, dI)) (ci := 11) (v := .ref (g 8)) (C := RX11) (T := TX11) (N := 14) hx hb hwd inA_X11 hown hK hP 0 rfl rfl 7 (by decide) (hwd _ wk_43) (fun _ h9 => h9) rfl dX11_count_106 ?_
    refine va_get (D := (dC, dI)) (ci := 6) (v := .int (v 161)) (C := RX6) (T := TX6) (N := 5) hx hb hwd inA_X6 hown hK hP 8 rfl rfl 1 (by decide) (hwd _ wk_1422) (fun _ h9 => h9) rfl dX11_count_109 ?_
    have t2753 : 0 ≤ (v 161).toInt ∧ (v 161).toInt ≤ 20 := hI.1 161 _ _ rfl
    have hP9 : va_P (dC, dI) classes (wX g c v F rc) H := hP
    exact W.iret (v := v 161) hx hb hr (fun t ht hW => ⟨⟨(v 161), (), rfl, trivial, (by show va_P _ _ _ t.heap; rw [ht]; exact hP9)⟩, hS.F ht⟩) hS.2.2 dX11_count_112
  · refine lv_tableIn (off := 112) (tgt := 113) hx hb dX11_count_1 hlo2746 hhi2747 (by rw [hk]; decide) (by decide) ?_
    refine lv_aload_n hx hb dX11_count_113 rfl (lv_at hl 0 rfl) ?_
    refine va_get (D := (dC, dI)) (ci := 11) (v := .ref (g 4)) (C := RX11) (T := TX11) (N := 14) hx hb hwd inA_X11 hown hK hP 0 rfl rfl 3 (by decide) (hwd _ wk_23) (fun _ h9 => h9) rfl dX11_count_114 ?_
    refine va_get (D := (dC, dI)) (ci := 9) (v := .int (v 80)) (C := RX9) (T := TX9) (N := 11) hx hb hwd inA_X9 hown hK hP 4 rfl rfl 0 (by decide) (hwd _ wk_1423) (fun _ h9 => h9) rfl dX11_count_117 ?_
    have t2754 : 0 ≤ (v 80).toInt ∧ (v 80).toInt ≤ 500 := hI.1 80 _ _ rfl
    have hP9 : va_P (dC, dI) classes (wX g c v F rc) H := hP
    exact W.iret (v := v 80) hx hb hr (fun t ht hW => ⟨⟨(v 80), (), rfl, trivial, (by show va_P _ _ _ t.heap; rw [ht]; exact hP9)⟩, hS.F ht⟩) hS.2.2 dX11_count_120
  · refine lv_tableIn (off := 120) (tgt := 121) hx hb dX11_count_1 hlo2746 hhi2747 (by rw [hk]; decide) (by decide) ?_
    refine lv_aload_n hx hb dX11_count_121 rfl (lv_at hl 0 rfl) ?_
    refine va_get (D := (dC, dI)) (ci := 11) (v := .ref (g 5)) (C := RX11) (T := TX11) (N := 14) hx hb hwd inA_X11 hown hK hP 0 rfl rfl 4 (by decide) (hwd _ wk_31) (fun _ h9 => h9) rfl dX11_count_122 ?_
    refine va_get (D := (dC, dI)) (ci := 10) (v := .int (v 100)) (C := RX10) (T := TX10) (N := 2) hx hb hwd inA_X10 hown hK hP 5 rfl rfl 0 (by decide) (hwd _ wk_846) (fun _ h9 => h9) rfl dX11_count_125 ?_
    have t2755 : 0 ≤ (v 100).toInt ∧ (v 100).toInt ≤ 120 := hI.1 100 _ _ rfl
    have hP9 : va_P (dC, dI) classes (wX g c v F rc) H := hP
    exact W.iret (v := v 100) hx hb hr (fun t ht hW => ⟨⟨(v 100), (), rfl, trivial, (by show va_P _ _ _ t.heap; rw [ht]; exact hP9)⟩, hS.F ht⟩) hS.2.2 dX11_count_128
  · refine lv_tableIn (off := 128) (tgt := 129) hx hb dX11_count_1 hlo2746 hhi2747 (by rw [hk]; decide) (by decide) ?_
    refine lv_aload_n hx hb dX11_count_129 rfl (lv_at hl 0 rfl) ?_
    refine va_get (D := (dC, dI)) (ci := 11) (v := .ref (g 3)) (C := RX11) (T := TX11) (N := 14) hx hb hwd inA_X11 hown hK hP 0 rfl rfl 2 (by decide) (hwd _ wk_27) (fun _ h9 => h9) rfl dX11_count_130 ?_
    refine lv_bipush (v := 12) hx hb dX11_count_133 (by decide) ?_
    refine va_calli (va_runV (As := [.int 12]) (rest := []) ⟨hx, hb, hml, hown, hwd⟩ (c_X7_countAt l dC dI g c adK adV v F rc H.size 12 hg hI ) (cwV 1 hwd (gV wk_346 wk_537 wk_344 wk_345 wk_26) rfl rfl rfl (by decide +kernel) ⟨Nat.le_of_ble_eq_true rfl, Nat.le_of_ble_eq_true rfl⟩) ⟨PX.blind, va_recv hK hP (ci := 7) (q0 := 3) rfl rfl, fun U hU hW => ⟨rfl, PX.at hK hE hP hS hU hW⟩⟩ rfl rfl hl.1 rfl (lv_room (Nat.le_of_ble_eq_true rfl)) dX11_count_135 ⟨Nat.le_of_ble_eq_true rfl, Nat.le_of_ble_eq_true rfl⟩) hS (fun q _ h => (freeX hS) q h) (freeX hS) (fun r2756 u t H1 locs ht hvm hw hB hz1 hk1 hS => ?_)
    unfold BX at hB
    rw [ht] at hB
    have hP : va_P (dC, dI) classes (wX g c v F rc) H1 := hB
    generalize H1 = H at hP hS ⊢
    have rr_r2756 := i32_rng r2756
    have hP9 : va_P (dC, dI) classes (wX g c v F rc) H := hP
    exact W.iret (v := r2756) hx hb hr (fun t ht hW => ⟨⟨r2756, (), rfl, trivial, (by show va_P _ _ _ t.heap; rw [ht]; exact hP9)⟩, hS.F ht⟩) hS.2.2 dX11_count_138
  · refine lv_tableIn (off := 138) (tgt := 139) hx hb dX11_count_1 hlo2746 hhi2747 (by rw [hk]; decide) (by decide) ?_
    refine lv_aload_n hx hb dX11_count_139 rfl (lv_at hl 0 rfl) ?_
    refine va_get (D := (dC, dI)) (ci := 11) (v := .ref (g 3)) (C := RX11) (T := TX11) (N := 14) hx hb hwd inA_X11 hown hK hP 0 rfl rfl 2 (by decide) (hwd _ wk_27) (fun _ h9 => h9) rfl dX11_count_140 ?_
    refine lv_bipush (v := 11) hx hb dX11_count_143 (by decide) ?_
    refine va_calli (va_runV (As := [.int 11]) (rest := []) ⟨hx, hb, hml, hown, hwd⟩ (c_X7_countAt l dC dI g c adK adV v F rc H.size 11 hg hI ) (cwV 1 hwd (gV wk_346 wk_537 wk_344 wk_345 wk_26) rfl rfl rfl (by decide +kernel) ⟨Nat.le_of_ble_eq_true rfl, Nat.le_of_ble_eq_true rfl⟩) ⟨PX.blind, va_recv hK hP (ci := 7) (q0 := 3) rfl rfl, fun U hU hW => ⟨rfl, PX.at hK hE hP hS hU hW⟩⟩ rfl rfl hl.1 rfl (lv_room (Nat.le_of_ble_eq_true rfl)) dX11_count_145 ⟨Nat.le_of_ble_eq_true rfl, Nat.le_of_ble_eq_true rfl⟩) hS (fun q _ h => (freeX hS) q h) (freeX hS) (fun r2757 u t H1 locs ht hvm hw hB hz1 hk1 hS => ?_)
    unfold BX at hB
    rw [ht] at hB
    have hP : va_P (dC, dI) classes (wX g c v F rc) H1 := hB
    generalize H1 = H at hP hS ⊢
    have rr_r2757 := i32_rng r2757
    have hP9 : va_P (dC, dI) classes (wX g c v F rc) H := hP
    exact W.iret (v := r2757) hx hb hr (fun t ht hW => ⟨⟨r2757, (), rfl, trivial, (by show va_P _ _ _ t.heap; rw [ht]; exact hP9)⟩, hS.F ht⟩) hS.2.2 dX11_count_148
  · refine lv_tableIn (off := 148) (tgt := 149) hx hb dX11_count_1 hlo2746 hhi2747 (by rw [hk]; decide) (by decide) ?_
    refine lv_aload_n hx hb dX11_count_149 rfl (lv_at hl 0 rfl) ?_
    refine va_get (D := (dC, dI)) (ci := 11) (v := .ref (g 3)) (C := RX11) (T := TX11) (N := 14) hx hb hwd inA_X11 hown hK hP 0 rfl rfl 2 (by decide) (hwd _ wk_27) (fun _ h9 => h9) rfl dX11_count_150 ?_
    refine lv_bipush (v := 10) hx hb dX11_count_153 (by decide) ?_
    refine va_calli (va_runV (As := [.int 10]) (rest := []) ⟨hx, hb, hml, hown, hwd⟩ (c_X7_countAt l dC dI g c adK adV v F rc H.size 10 hg hI ) (cwV 1 hwd (gV wk_346 wk_537 wk_344 wk_345 wk_26) rfl rfl rfl (by decide +kernel) ⟨Nat.le_of_ble_eq_true rfl, Nat.le_of_ble_eq_true rfl⟩) ⟨PX.blind, va_recv hK hP (ci := 7) (q0 := 3) rfl rfl, fun U hU hW => ⟨rfl, PX.at hK hE hP hS hU hW⟩⟩ rfl rfl hl.1 rfl (lv_room (Nat.le_of_ble_eq_true rfl)) dX11_count_155 ⟨Nat.le_of_ble_eq_true rfl, Nat.le_of_ble_eq_true rfl⟩) hS (fun q _ h => (freeX hS) q h) (freeX hS) (fun r2758 u t H1 locs ht hvm hw hB hz1 hk1 hS => ?_)
    unfold BX at hB
    rw [ht] at hB
    have hP : va_P (dC, dI) classes (wX g c v F rc) H1 := hB
    generalize H1 = H at hP hS ⊢
    have rr_r2758 := i32_rng r2758
    have hP9 : va_P (dC, dI) classes (wX g c v F rc) H := hP
    exact W.iret (v := r2758) hx hb hr (fun t ht hW => ⟨⟨r2758, (), rfl, trivial, (by show va_P _ _ _ t.heap; rw [ht]; exact hP9)⟩, hS.F ht⟩) hS.2.2 dX11_count_158
  · refine lv_tableIn (off := 158) (tgt := 159) hx hb dX11_count_1 hlo2746 hhi2747 (by rw [hk]; decide) (by decide) ?_
    refine lv_aload_n hx hb dX11_count_159 rfl (lv_at hl 0 rfl) ?_
    refine va_get (D := (dC, dI)) (ci := 11) (v := .ref (g 2)) (C := RX11) (T := TX11) (N := 14) hx hb hwd inA_X11 hown hK hP 0 rfl rfl 1 (by decide) (hwd _ wk_19) (fun _ h9 => h9) rfl dX11_count_160 ?_
    refine va_calli (va_runV (As := []) (rest := []) ⟨hx, hb, hml, hown, hwd⟩ (c_X8_backs l dC dI g c adK adV v F rc H.size  hg hI ) (cwV 0 hwd (gV wk_1427 wk_1424 wk_1425 wk_1426 wk_18) rfl rfl rfl (by decide +kernel) ⟨Nat.le_of_ble_eq_true rfl, Nat.le_of_ble_eq_true rfl⟩) ⟨PX.blind, va_recv hK hP (ci := 8) (q0 := 2) rfl rfl, fun U hU hW => ⟨rfl, PX.at hK hE hP hS hU hW⟩⟩ rfl rfl hl.1 rfl (lv_room (Nat.le_of_ble_eq_true rfl)) dX11_count_163 ⟨Nat.le_of_ble_eq_true rfl, Nat.le_of_ble_eq_true rfl⟩) hS (fun q _ h => (freeX hS) q h) (freeX hS) (fun r2759 u t H1 locs ht hvm hw hB hz1 hk1 hS => ?_)
    unfold BX at hB
    rw [ht] at hB
    have hP : va_P (dC, dI) classes (wX g c v F rc) H1 := hB
    generalize H1 = H at hP hS ⊢
    have rr_r2759 := i32_rng r2759
    have hP9 : va_P (dC, dI) classes (wX g c v F rc) H := hP
    exact W.iret (v := r2759) hx hb hr (fun t ht hW => ⟨⟨r2759, (), rfl, trivial, (by show va_P _ _ _ t.heap; rw [ht]; exact hP9)⟩, hS.F ht⟩) hS.2.2 dX11_count_166
  · refine lv_tableIn (off := 166) (tgt := 167) hx hb dX11_count_1 hlo2746 hhi2747 (by rw [hk]; decide) (by decide) ?_
    refine lv_aload_n hx hb dX11_count_167 rfl (lv_at hl 0 rfl) ?_
    refine va_get (D := (dC, dI)) (ci := 11) (v := .int (v 12)) (C := RX11) (T := TX11) (N := 14) hx hb hwd inA_X11 hown hK hP 0 rfl rfl 12 (by decide) (hwd _ wk_1330) (fun _ h9 => h9) rfl dX11_count_168 ?_
    have hP9 : va_P (dC, dI) classes (wX g c v F rc) H := hP
    exact W.iret (v := v 12) hx hb hr (fun t ht hW => ⟨⟨(v 12), (), rfl, trivial, (by show va_P _ _ _ t.heap; rw [ht]; exact hP9)⟩, hS.F ht⟩) hS.2.2 dX11_count_171
