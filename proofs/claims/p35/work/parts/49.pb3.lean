set_option maxHeartbeats 8000000 in
set_option maxRecDepth 100000 in
theorem c_X11_lost (l : Launch) (dC : Nat → ClassId) (dI : Nat → Nat → Nat) (g : Nat → Nat) (c : Nat → ClassId) (adK adV : Nat → Nat) (v : Nat → Int32) (F : Nat → Nat → Int32) (rc sz : Nat) (p0 : Int32) (p1 : Int32) (p2 : Int32) (hg : injX g) (hI : IX v F) : Met l yX11_lost (Cond.code yX11_lost cX11_lost 5 (some .int) :: wA) ({ frames := 5, cells := 0, slots := 0, locals := 200 }) (va_Pc [.ref (g 0), .int p0, .int p1, .int p2] (PX dC dI g c adK adV v F rc sz)) (va_Qi (fun (r : Int32) (u : StX) => IX u.1 u.2.1 ∧ alX u.1 u.2.1 = alX v F ∧ u.2.2 = rc ∧ (∀ k, k ∉ ([126] : List Nat) → u.1 k = v k) ∧ True) (BX dC dI g c) (AX g sz)) 0 0 (AX g sz) := by
  refine Met.ofW (cc := cX11_lost) (maxL := 5) (ret := (some .int)) (by decide) rfl ?_
  intro p e s m args below meth c0 s₁ B hml hv
  obtain ⟨rfl, hsz, hP, hK, hE⟩ := hv
  have hx := B.exec
  have hb := B.bytes
  have hr := B.returns
  have hts := atoms_spec (ws := Cond.code yX11_lost cX11_lost 5 (some .int) :: wA) B.pre
  have hwd : ∀ w ∈ wA, w.before _ s = true := fun w h => hts w (List.mem_cons_of_mem _ h)
  have hown : s.vm.findClass RX11 = some m.cls := findClass_of_methodNamed B.named
  have hlocks := B.notSynchronized
  subst hsz
  have hl := lv_entry ([.ref (g 0), .int p0, .int p1, .int p2]) (n := 5) (Nat.le_of_ble_eq_true rfl)
  rw [lg_entry_eq]
  generalize (lg_sl ([.ref (g 0), .int p0, .int p1, .int p2]) ++ List.replicate (5 - (lg_sl ([.ref (g 0), .int p0, .int p1, .int p2])).length) Slot.unset).toArray = ls at hl ⊢
  have hl : lv_has ls 5 [(0, .ref (g 0)), (1, .int p0), (2, .int p1), (3, .int p2)] := hl
  obtain ⟨H, eH⟩ : ∃ z, z = s.heap := ⟨_, rfl⟩
  have hP : va_P (dC, dI) classes (wX g c v F rc) H := by rw [eH]; exact hP
  have hS : va_S (AX g s.heap.size) s.heap H [] := by rw [eH]; exact va_S.rf
  refine my_heap eH ?_
  have hal : alX v F = alX v F := rfl
  have rp0 := i32_rng p0
  have rp1 := i32_rng p1
  have rp2 := i32_rng p2
  refine lv_aload_n hx hb dX11_lost_0 rfl (lv_at hl 0 rfl) ?_
  refine lv_iload_n hx hb dX11_lost_1 rfl (lv_at hl 1 rfl) ?_
  refine lv_iload_n hx hb dX11_lost_2 rfl (lv_at hl 2 rfl) ?_
  refine va_calli (va_runV (As := [.int p0, .int p1]) (rest := []) ⟨hx, hb, hml, hown, hwd⟩ (c_X11_stayAt l dC dI g c adK adV v F rc H.size p0 p1 hg hI ) (cwV 2 hwd (gV wk_793 wk_790 wk_791 wk_792 wk_2) rfl rfl rfl (by decide +kernel) ⟨Nat.le_of_ble_eq_true rfl, Nat.le_of_ble_eq_true rfl⟩) ⟨PX.blind, va_recv hK hP (ci := 11) (q0 := 0) rfl rfl, fun U hU hW => ⟨rfl, PX.at hK hE hP hS hU hW⟩⟩ rfl rfl hl.1 rfl (lv_room (Nat.le_of_ble_eq_true rfl)) dX11_lost_3 ⟨Nat.le_of_ble_eq_true rfl, Nat.le_of_ble_eq_true rfl⟩) hS (fun q _ h => (freeX hS) q h) (freeX hS) (fun r2701 u t H1 locs ht hvm hw hB hz1 hk1 hS => ?_)
  unfold BX at hB
  rw [ht] at hB
  have hP : va_P (dC, dI) classes (wX g c v F rc) H1 := hB
  have hw : (-1 ≤ r2701.toInt ∧ r2701.toInt ≤ 499) ∧ (r2701.toInt = -1 ∨ (0 ≤ p0.toInt ∧ p0.toInt ≤ 99)) := hw
  generalize H1 = H at hP hS ⊢
  have hw_r2701 := hw
  refine lv_istore (lv' := [(4, .int r2701), (0, .ref (g 0)), (1, .int p0), (2, .int p1), (3, .int p2)]) hx hb dX11_lost_6 hl (by decide) rfl (fun ls hl => ?_)
  refine lv_iload hx hb dX11_lost_8 (lv_at hl 0 rfl) ?_
  refine lv_iconst (v := (-1)) hx hb dX11_lost_10 (by decide) ?_
  refine lv_icmp_eq (tgt := 21) hx hb dX11_lost_11 (by decide) (fun c2702 => ?_) (fun c2702 => ?_)
  · skip
    have t2703 := cv_eq (a := r2701.toInt) rfl (b := (-1)) (by decide) c2702
    refine lv_iconst (v := (-1)) hx hb dX11_lost_21 (by decide) ?_
    have hP9 : va_P (dC, dI) classes (wX g c v F rc) H := hP
    exact W.iret (v := (-1)) hx hb hr (fun t ht hW => ⟨⟨(-1), (v, F, rc), rfl, ⟨hI, hal, rfl, (fun _ _ => rfl), trivial⟩, (by show va_P _ _ _ t.heap; rw [ht]; exact hP9)⟩, hS.F ht⟩) hS.2.2 dX11_lost_22
  · skip
    have t2704 := cv_ne (a := r2701.toInt) rfl (b := (-1)) (by decide) c2702
    refine lv_iload_n hx hb dX11_lost_14 rfl (lv_at hl 4 rfl) ?_
    refine va_calli (va_runS (As := [.int p2]) (rest := []) ⟨hx, hb, hml, hown, hwd⟩ (c_X11_isDay l dC dI g c adK adV v F rc H.size p2 hg hI ) (va_cwS 1 hwd (gT wk_549 wk_547 wk_548 wk_2) rfl rfl rfl (by decide +kernel) ⟨Nat.le_of_ble_eq_true rfl, Nat.le_of_ble_eq_true rfl⟩) ⟨PX.blind, fun U hU hW => ⟨rfl, PX.at hK hE hP hS hU hW⟩⟩ rfl rfl hl.1 rfl (lv_room (Nat.le_of_ble_eq_true rfl)) dX11_lost_15 ⟨Nat.le_of_ble_eq_true rfl, Nat.le_of_ble_eq_true rfl⟩) hS (fun q _ h => (freeX hS) q h) (freeX hS) (fun r2705 u t H1 locs ht hvm hw hB hz1 hk1 hS => ?_)
    unfold BX at hB
    rw [ht] at hB
    have hP : va_P (dC, dI) classes (wX g c v F rc) H1 := hB
    have hw : (r2705.toInt = 1 ∧ 0 ≤ p2.toInt ∧ p2.toInt ≤ 9999) ∨ (r2705.toInt = 0 ∧ (p2.toInt < 0 ∨ 9999 < p2.toInt)) := hw
    generalize H1 = H at hP hS ⊢
    have hw_r2705 := hw
    refine lv_if_ne (tgt := 23) hx hb dX11_lost_18 (by decide) (fun c2706 => ?_) (fun c2706 => ?_)
    · skip
      have t2707 := cv_ne (a := r2705.toInt) rfl (b := 0) (by decide) c2706
      refine lv_aload_n hx hb dX11_lost_23 rfl (lv_at hl 1 rfl) ?_
      refine va_get (D := (dC, dI)) (ci := 11) (v := .ref (g 4)) (C := RX11) (T := TX11) (N := 14) hx hb hwd inA_X11 hown hK hP 0 rfl rfl 3 (by decide) (hwd _ wk_23) (fun _ h9 => h9) rfl dX11_lost_24 ?_
      refine lv_iload hx hb dX11_lost_27 (lv_at hl 0 rfl) ?_
      refine va_calli (va_runV (As := [.int r2701]) (rest := []) ⟨hx, hb, hml, hown, hwd⟩ (c_X9_isGap l dC dI g c adK adV v F rc H.size r2701 hg hI (by omega)) (cwV 1 hwd (gV wk_373 wk_1051 wk_371 wk_372 wk_22) rfl rfl rfl (by decide +kernel) ⟨Nat.le_of_ble_eq_true rfl, Nat.le_of_ble_eq_true rfl⟩) ⟨PX.blind, va_recv hK hP (ci := 9) (q0 := 4) rfl rfl, fun U hU hW => ⟨rfl, PX.at hK hE hP hS hU hW⟩⟩ rfl rfl hl.1 rfl (lv_room (Nat.le_of_ble_eq_true rfl)) dX11_lost_29 ⟨Nat.le_of_ble_eq_true rfl, Nat.le_of_ble_eq_true rfl⟩) hS (fun q _ h => (freeX hS) q h) (freeX hS) (fun r2708 u t H1 locs ht hvm hw hB hz1 hk1 hS => ?_)
      unfold BX at hB
      rw [ht] at hB
      have hP : va_P (dC, dI) classes (wX g c v F rc) H1 := hB
      have hw : 0 ≤ r2708.toInt ∧ r2708.toInt ≤ 1 := hw
      generalize H1 = H at hP hS ⊢
      have hw_r2708 := hw
      refine lv_if_eq (tgt := 49) hx hb dX11_lost_32 (by decide) (fun c2709 => ?_) (fun c2709 => ?_)
      · skip
        have t2710 := cv_eq (a := r2708.toInt) rfl (b := 0) (by decide) c2709
        refine lv_bipush (v := (-2)) hx hb dX11_lost_49 (by decide) ?_
        have hP9 : va_P (dC, dI) classes (wX g c v F rc) H := hP
        exact W.iret (v := (-2)) hx hb hr (fun t ht hW => ⟨⟨(-2), (v, F, rc), rfl, ⟨hI, hal, rfl, (fun _ _ => rfl), trivial⟩, (by show va_P _ _ _ t.heap; rw [ht]; exact hP9)⟩, hS.F ht⟩) hS.2.2 dX11_lost_51
      · skip
        have t2711 := cv_ne (a := r2708.toInt) rfl (b := 0) (by decide) c2709
        refine lv_aload_n hx hb dX11_lost_35 rfl (lv_at hl 1 rfl) ?_
        refine va_get (D := (dC, dI)) (ci := 11) (v := .ref (g 10)) (C := RX11) (T := TX11) (N := 14) hx hb hwd inA_X11 hown hK hP 0 rfl rfl 9 (by decide) (hwd _ wk_51) (fun _ h9 => h9) rfl dX11_lost_36 ?_
        refine lv_iload_n hx hb dX11_lost_39 rfl (lv_at hl 2 rfl) ?_
        refine lv_iload hx hb dX11_lost_40 (lv_at hl 0 rfl) ?_
        refine lv_iload_n hx hb dX11_lost_42 rfl (lv_at hl 4 rfl) ?_
        refine va_calli (va_runV (As := [.int p0, .int r2701, .int p2]) (rest := []) ⟨hx, hb, hml, hown, hwd⟩ (c_X5_hundredths l dC dI g c adK adV v F rc H.size p0 r2701 p2 hg hI (by omega) (by omega)) (cwV 3 hwd (gV wk_382 wk_1052 wk_380 wk_381 wk_50) rfl rfl rfl (by decide +kernel) ⟨Nat.le_of_ble_eq_true rfl, Nat.le_of_ble_eq_true rfl⟩) ⟨PX.blind, va_recv hK hP (ci := 5) (q0 := 10) rfl rfl, fun U hU hW => ⟨rfl, PX.at hK hE hP hS hU hW⟩⟩ rfl rfl hl.1 rfl (lv_room (Nat.le_of_ble_eq_true rfl)) dX11_lost_43 ⟨Nat.le_of_ble_eq_true rfl, Nat.le_of_ble_eq_true rfl⟩) hS (fun q _ h => (freeX hS) q h) (freeX hS) (fun r2712 u t H1 locs ht hvm hw hB hz1 hk1 hS => ?_)
        unfold BX at hB
        rw [ht] at hB
        obtain ⟨v2713, F2714, rc9⟩ := u
        obtain ⟨hI, hal9, hrc, hf2715, hw⟩ := hw
        dsimp only at hI hal9 hrc hB hf2715 hw
        rw [hrc] at hB
        have hal := hal9.trans hal
        have hP : va_P (dC, dI) classes (wX g c v2713 F2714 rc) H1 := hB
        generalize H1 = H at hP hS ⊢
        have rr_r2712 := i32_rng r2712
        refine lv_goto (tgt := 51) hx hb dX11_lost_46 (by decide) ?_
        have hP9 : va_P (dC, dI) classes (wX g c v2713 F2714 rc) H := hP
        exact W.iret (v := r2712) hx hb hr (fun t ht hW => ⟨⟨r2712, (v2713, F2714, rc), rfl, ⟨hI, hal, rfl, (frC (by decide) hf2715 (fun _ _ => rfl)), trivial⟩, (by show va_P _ _ _ t.heap; rw [ht]; exact hP9)⟩, hS.F ht⟩) hS.2.2 dX11_lost_51
    · skip
      have t2716 := cv_eq (a := r2705.toInt) rfl (b := 0) (by decide) c2706
      refine lv_iconst (v := (-1)) hx hb dX11_lost_21 (by decide) ?_
      have hP9 : va_P (dC, dI) classes (wX g c v F rc) H := hP
      exact W.iret (v := (-1)) hx hb hr (fun t ht hW => ⟨⟨(-1), (v, F, rc), rfl, ⟨hI, hal, rfl, (fun _ _ => rfl), trivial⟩, (by show va_P _ _ _ t.heap; rw [ht]; exact hP9)⟩, hS.F ht⟩) hS.2.2 dX11_lost_22
set_option maxHeartbeats 8000000 in
set_option maxRecDepth 100000 in
theorem c_X11_done (l : Launch) (dC : Nat → ClassId) (dI : Nat → Nat → Nat) (g : Nat → Nat) (c : Nat → ClassId) (adK adV : Nat → Nat) (v : Nat → Int32) (F : Nat → Nat → Int32) (rc sz : Nat) (p0 : Int32) (p1 : Int32) (hg : injX g) (hI : IX v F) : Met l yX11_done (Cond.code yX11_done cX11_done 3 (some .int) :: wA) ({ frames := 3, cells := 0, slots := 0, locals := 120 }) (va_Pc [.ref (g 0), .int p0, .int p1] (PX dC dI g c adK adV v F rc sz)) (va_Qi (fun (r : Int32) (u : StX) => IX u.1 u.2.1 ∧ alX u.1 u.2.1 = alX v F ∧ u.2.2 = rc ∧ (∀ k, k ∉ ([] : List Nat) → u.1 k = v k) ∧ True) (BX dC dI g c) (AX g sz)) 0 0 (AX g sz) := by
  refine Met.ofW (cc := cX11_done) (maxL := 3) (ret := (some .int)) (by decide) rfl ?_
  intro p e s m args below meth c0 s₁ B hml hv
  obtain ⟨rfl, hsz, hP, hK, hE⟩ := hv
  have hx := B.exec
  have hb := B.bytes
  have hr := B.returns
  have hts := atoms_spec (ws := Cond.code yX11_done cX11_done 3 (some .int) :: wA) B.pre
  have hwd : ∀ w ∈ wA, w.before _ s = true := fun w h => hts w (List.mem_cons_of_mem _ h)
  have hown : s.vm.findClass RX11 = some m.cls := findClass_of_methodNamed B.named
  have hlocks := B.notSynchronized
  subst hsz
  have hl := lv_entry ([.ref (g 0), .int p0, .int p1]) (n := 3) (Nat.le_of_ble_eq_true rfl)
  rw [lg_entry_eq]
  generalize (lg_sl ([.ref (g 0), .int p0, .int p1]) ++ List.replicate (3 - (lg_sl ([.ref (g 0), .int p0, .int p1])).length) Slot.unset).toArray = ls at hl ⊢
  have hl : lv_has ls 3 [(0, .ref (g 0)), (1, .int p0), (2, .int p1)] := hl
  obtain ⟨H, eH⟩ : ∃ z, z = s.heap := ⟨_, rfl⟩
  have hP : va_P (dC, dI) classes (wX g c v F rc) H := by rw [eH]; exact hP
  have hS : va_S (AX g s.heap.size) s.heap H [] := by rw [eH]; exact va_S.rf
  refine my_heap eH ?_
  have hal : alX v F = alX v F := rfl
  have rp0 := i32_rng p0
  have rp1 := i32_rng p1
  refine lv_aload_n hx hb dX11_done_0 rfl (lv_at hl 0 rfl) ?_
  refine va_get (D := (dC, dI)) (ci := 11) (v := .ref (g 8)) (C := RX11) (T := TX11) (N := 14) hx hb hwd inA_X11 hown hK hP 0 rfl rfl 7 (by decide) (hwd _ wk_43) (fun _ h9 => h9) rfl dX11_done_1 ?_
  refine lv_iload_n hx hb dX11_done_4 rfl (lv_at hl 1 rfl) ?_
  refine va_calli (va_runV (As := [.int p0]) (rest := []) ⟨hx, hb, hml, hown, hwd⟩ (c_X6_has l dC dI g c adK adV v F rc H.size p0 hg hI ) (cwV 1 hwd (gV wk_1076 wk_1073 wk_1074 wk_1075 wk_42) rfl rfl rfl (by decide +kernel) ⟨Nat.le_of_ble_eq_true rfl, Nat.le_of_ble_eq_true rfl⟩) ⟨PX.blind, va_recv hK hP (ci := 6) (q0 := 8) rfl rfl, fun U hU hW => ⟨rfl, PX.at hK hE hP hS hU hW⟩⟩ rfl rfl hl.1 rfl (lv_room (Nat.le_of_ble_eq_true rfl)) dX11_done_5 ⟨Nat.le_of_ble_eq_true rfl, Nat.le_of_ble_eq_true rfl⟩) hS (fun q _ h => (freeX hS) q h) (freeX hS) (fun r2717 u t H1 locs ht hvm hw hB hz1 hk1 hS => ?_)
  unfold BX at hB
  rw [ht] at hB
  have hP : va_P (dC, dI) classes (wX g c v F rc) H1 := hB
  have hw : (0 ≤ r2717.toInt ∧ r2717.toInt ≤ 1) ∧ (r2717.toInt = 1 → 0 ≤ p0.toInt ∧ p0.toInt < 20) := hw
  generalize H1 = H at hP hS ⊢
  have hw_r2717 := hw
  refine lv_if_eq (tgt := 22) hx hb dX11_done_8 (by decide) (fun c2718 => ?_) (fun c2718 => ?_)
  · skip
    have t2719 := cv_eq (a := r2717.toInt) rfl (b := 0) (by decide) c2718
    refine lv_iconst (v := (-1)) hx hb dX11_done_22 (by decide) ?_
    have hP9 : va_P (dC, dI) classes (wX g c v F rc) H := hP
    exact W.iret (v := (-1)) hx hb hr (fun t ht hW => ⟨⟨(-1), (v, F, rc), rfl, ⟨hI, hal, rfl, (fun _ _ => rfl), trivial⟩, (by show va_P _ _ _ t.heap; rw [ht]; exact hP9)⟩, hS.F ht⟩) hS.2.2 dX11_done_23
  · skip
    have t2720 := cv_ne (a := r2717.toInt) rfl (b := 0) (by decide) c2718
    refine lv_aload_n hx hb dX11_done_11 rfl (lv_at hl 0 rfl) ?_
    refine va_get (D := (dC, dI)) (ci := 11) (v := .ref (g 2)) (C := RX11) (T := TX11) (N := 14) hx hb hwd inA_X11 hown hK hP 0 rfl rfl 1 (by decide) (hwd _ wk_19) (fun _ h9 => h9) rfl dX11_done_12 ?_
    refine lv_iload_n hx hb dX11_done_15 rfl (lv_at hl 2 rfl) ?_
    refine va_calli (va_runV (As := [.int p1]) (rest := []) ⟨hx, hb, hml, hown, hwd⟩ (c_X8_has l dC dI g c adK adV v F rc H.size p1 hg hI ) (cwV 1 hwd (gV wk_276 wk_273 wk_274 wk_275 wk_18) rfl rfl rfl (by decide +kernel) ⟨Nat.le_of_ble_eq_true rfl, Nat.le_of_ble_eq_true rfl⟩) ⟨PX.blind, va_recv hK hP (ci := 8) (q0 := 2) rfl rfl, fun U hU hW => ⟨rfl, PX.at hK hE hP hS hU hW⟩⟩ rfl rfl hl.1 rfl (lv_room (Nat.le_of_ble_eq_true rfl)) dX11_done_16 ⟨Nat.le_of_ble_eq_true rfl, Nat.le_of_ble_eq_true rfl⟩) hS (fun q _ h => (freeX hS) q h) (freeX hS) (fun r2721 u t H1 locs ht hvm hw hB hz1 hk1 hS => ?_)
    unfold BX at hB
    rw [ht] at hB
    have hP : va_P (dC, dI) classes (wX g c v F rc) H1 := hB
    have hw : (0 ≤ r2721.toInt ∧ r2721.toInt ≤ 1) ∧ (r2721.toInt = 1 → 0 ≤ p1.toInt ∧ p1.toInt < 10) := hw
    generalize H1 = H at hP hS ⊢
    have hw_r2721 := hw
    refine lv_if_ne (tgt := 24) hx hb dX11_done_19 (by decide) (fun c2722 => ?_) (fun c2722 => ?_)
    · skip
      have t2723 := cv_ne (a := r2721.toInt) rfl (b := 0) (by decide) c2722
      refine lv_aload_n hx hb dX11_done_24 rfl (lv_at hl 0 rfl) ?_
      refine va_get (D := (dC, dI)) (ci := 11) (v := .ref (g 8)) (C := RX11) (T := TX11) (N := 14) hx hb hwd inA_X11 hown hK hP 0 rfl rfl 7 (by decide) (hwd _ wk_43) (fun _ h9 => h9) rfl dX11_done_25 ?_
      refine lv_iload_n hx hb dX11_done_28 rfl (lv_at hl 1 rfl) ?_
      refine lv_iload_n hx hb dX11_done_29 rfl (lv_at hl 2 rfl) ?_
      refine va_calli (va_runV (As := [.int p0, .int p1]) (rest := []) ⟨hx, hb, hml, hown, hwd⟩ (c_X6_isDue l dC dI g c adK adV v F rc H.size p0 p1 hg hI (by omega) (by omega)) (cwV 2 hwd (gV wk_436 wk_1077 wk_434 wk_435 wk_42) rfl rfl rfl (by decide +kernel) ⟨Nat.le_of_ble_eq_true rfl, Nat.le_of_ble_eq_true rfl⟩) ⟨PX.blind, va_recv hK hP (ci := 6) (q0 := 8) rfl rfl, fun U hU hW => ⟨rfl, PX.at hK hE hP hS hU hW⟩⟩ rfl rfl hl.1 rfl (lv_room (Nat.le_of_ble_eq_true rfl)) dX11_done_30 ⟨Nat.le_of_ble_eq_true rfl, Nat.le_of_ble_eq_true rfl⟩) hS (fun q _ h => (freeX hS) q h) (freeX hS) (fun r2724 u t H1 locs ht hvm hw hB hz1 hk1 hS => ?_)
      unfold BX at hB
      rw [ht] at hB
      have hP : va_P (dC, dI) classes (wX g c v F rc) H1 := hB
      have hw : 0 ≤ r2724.toInt ∧ r2724.toInt ≤ 1 := hw
      generalize H1 = H at hP hS ⊢
      have hw_r2724 := hw
      refine lv_if_ne (tgt := 39) hx hb dX11_done_33 (by decide) (fun c2725 => ?_) (fun c2725 => ?_)
      · skip
        have t2726 := cv_ne (a := r2724.toInt) rfl (b := 0) (by decide) c2725
        refine lv_aload_n hx hb dX11_done_39 rfl (lv_at hl 0 rfl) ?_
        refine va_get (D := (dC, dI)) (ci := 11) (v := .ref (g 8)) (C := RX11) (T := TX11) (N := 14) hx hb hwd inA_X11 hown hK hP 0 rfl rfl 7 (by decide) (hwd _ wk_43) (fun _ h9 => h9) rfl dX11_done_40 ?_
        refine lv_iload_n hx hb dX11_done_43 rfl (lv_at hl 1 rfl) ?_
        refine lv_iload_n hx hb dX11_done_44 rfl (lv_at hl 2 rfl) ?_
        refine va_callv (va_runV (As := [.int p0, .int p1]) (rest := []) ⟨hx, hb, hml, hown, hwd⟩ (c_X6_finish l dC dI g c adK adV v F rc H.size p0 p1 hg hI (by omega) (by omega)) (cwV 2 hwd (gV wk_1081 wk_1078 wk_1079 wk_1080 wk_42) rfl rfl rfl (by decide +kernel) ⟨Nat.le_of_ble_eq_true rfl, Nat.le_of_ble_eq_true rfl⟩) ⟨PX.blind, va_recv hK hP (ci := 6) (q0 := 8) rfl rfl, fun U hU hW => ⟨rfl, PX.at hK hE hP hS hU hW⟩⟩ rfl rfl hl.1 rfl (lv_room (Nat.le_of_ble_eq_true rfl)) dX11_done_45 ⟨Nat.le_of_ble_eq_true rfl, Nat.le_of_ble_eq_true rfl⟩) hS (fun q _ h => (freeX hS) q h) (freeX hS) (fun u t H1 locs ht hvm hw hB hz1 hk1 hS => ?_)
        unfold BX at hB
        rw [ht] at hB
        obtain ⟨v2728, F2729, rc9⟩ := u
        obtain ⟨hI, hal9, hrc, hf2730, hw⟩ := hw
        dsimp only at hI hal9 hrc hB hf2730 hw
        rw [hrc] at hB
        have hal := hal9.trans hal
        have hP : va_P (dC, dI) classes (wX g c v2728 F2729 rc) H1 := hB
        generalize H1 = H at hP hS ⊢
        refine lv_iconst (v := 1) hx hb dX11_done_48 (by decide) ?_
        have hP9 : va_P (dC, dI) classes (wX g c v2728 F2729 rc) H := hP
        exact W.iret (v := 1) hx hb hr (fun t ht hW => ⟨⟨1, (v2728, F2729, rc), rfl, ⟨hI, hal, rfl, (frC (by decide) hf2730 (fun _ _ => rfl)), trivial⟩, (by show va_P _ _ _ t.heap; rw [ht]; exact hP9)⟩, hS.F ht⟩) hS.2.2 dX11_done_49
      · skip
        have t2731 := cv_eq (a := r2724.toInt) rfl (b := 0) (by decide) c2725
        refine lv_bipush (v := (-2)) hx hb dX11_done_36 (by decide) ?_
        have hP9 : va_P (dC, dI) classes (wX g c v F rc) H := hP
        exact W.iret (v := (-2)) hx hb hr (fun t ht hW => ⟨⟨(-2), (v, F, rc), rfl, ⟨hI, hal, rfl, (fun _ _ => rfl), trivial⟩, (by show va_P _ _ _ t.heap; rw [ht]; exact hP9)⟩, hS.F ht⟩) hS.2.2 dX11_done_38
    · skip
      have t2732 := cv_eq (a := r2721.toInt) rfl (b := 0) (by decide) c2722
      refine lv_iconst (v := (-1)) hx hb dX11_done_22 (by decide) ?_
      have hP9 : va_P (dC, dI) classes (wX g c v F rc) H := hP
      exact W.iret (v := (-1)) hx hb hr (fun t ht hW => ⟨⟨(-1), (v, F, rc), rfl, ⟨hI, hal, rfl, (fun _ _ => rfl), trivial⟩, (by show va_P _ _ _ t.heap; rw [ht]; exact hP9)⟩, hS.F ht⟩) hS.2.2 dX11_done_23
set_option maxHeartbeats 8000000 in
set_option maxRecDepth 100000 in
theorem c_X11_contract (l : Launch) (dC : Nat → ClassId) (dI : Nat → Nat → Nat) (g : Nat → Nat) (c : Nat → ClassId) (adK adV : Nat → Nat) (v : Nat → Int32) (F : Nat → Nat → Int32) (rc sz : Nat) (p0 : Int32) (p1 : Int32) (p2 : Int32) (hg : injX g) (hI : IX v F) : Met l yX11_contract (Cond.code yX11_contract cX11_contract 5 (some .int) :: wA) ({ frames := 7, cells := 0, slots := 0, locals := 280 }) (va_Pc [.ref (g 0), .int p0, .int p1, .int p2] (PX dC dI g c adK adV v F rc sz)) (va_Qi (fun (r : Int32) (u : StX) => IX u.1 u.2.1 ∧ alX u.1 u.2.1 = alX v F ∧ u.2.2 = rc ∧ (∀ k, k ∉ ([100, 186, 187, 188] : List Nat) → u.1 k = v k) ∧ True) (BX dC dI g c) (AX g sz)) 0 0 (AX g sz) := by
  refine Met.ofW (cc := cX11_contract) (maxL := 5) (ret := (some .int)) (by decide) rfl ?_
  intro p e s m args below meth c0 s₁ B hml hv
  obtain ⟨rfl, hsz, hP, hK, hE⟩ := hv
  have hx := B.exec
  have hb := B.bytes
  have hr := B.returns
  have hts := atoms_spec (ws := Cond.code yX11_contract cX11_contract 5 (some .int) :: wA) B.pre
  have hwd : ∀ w ∈ wA, w.before _ s = true := fun w h => hts w (List.mem_cons_of_mem _ h)
  have hown : s.vm.findClass RX11 = some m.cls := findClass_of_methodNamed B.named
  have hlocks := B.notSynchronized
  subst hsz
  have hl := lv_entry ([.ref (g 0), .int p0, .int p1, .int p2]) (n := 5) (Nat.le_of_ble_eq_true rfl)
  rw [lg_entry_eq]
  generalize (lg_sl ([.ref (g 0), .int p0, .int p1, .int p2]) ++ List.replicate (5 - (lg_sl ([.ref (g 0), .int p0, .int p1, .int p2])).length) Slot.unset).toArray = ls at hl ⊢
  have hl : lv_has ls 5 [(0, .ref (g 0)), (1, .int p0), (2, .int p1), (3, .int p2)] := hl
  obtain ⟨H, eH⟩ : ∃ z, z = s.heap := ⟨_, rfl⟩
  have hP : va_P (dC, dI) classes (wX g c v F rc) H := by rw [eH]; exact hP
  have hS : va_S (AX g s.heap.size) s.heap H [] := by rw [eH]; exact va_S.rf
  refine my_heap eH ?_
  have hal : alX v F = alX v F := rfl
  have rp0 := i32_rng p0
  have rp1 := i32_rng p1
  have rp2 := i32_rng p2
  refine lv_aload_n hx hb dX11_contract_0 rfl (lv_at hl 0 rfl) ?_
  refine va_get (D := (dC, dI)) (ci := 11) (v := .ref (g 2)) (C := RX11) (T := TX11) (N := 14) hx hb hwd inA_X11 hown hK hP 0 rfl rfl 1 (by decide) (hwd _ wk_19) (fun _ h9 => h9) rfl dX11_contract_1 ?_
  refine lv_iload_n hx hb dX11_contract_4 rfl (lv_at hl 1 rfl) ?_
  refine va_calli (va_runV (As := [.int p0]) (rest := []) ⟨hx, hb, hml, hown, hwd⟩ (c_X8_has l dC dI g c adK adV v F rc H.size p0 hg hI ) (cwV 1 hwd (gV wk_276 wk_273 wk_274 wk_275 wk_18) rfl rfl rfl (by decide +kernel) ⟨Nat.le_of_ble_eq_true rfl, Nat.le_of_ble_eq_true rfl⟩) ⟨PX.blind, va_recv hK hP (ci := 8) (q0 := 2) rfl rfl, fun U hU hW => ⟨rfl, PX.at hK hE hP hS hU hW⟩⟩ rfl rfl hl.1 rfl (lv_room (Nat.le_of_ble_eq_true rfl)) dX11_contract_5 ⟨Nat.le_of_ble_eq_true rfl, Nat.le_of_ble_eq_true rfl⟩) hS (fun q _ h => (freeX hS) q h) (freeX hS) (fun r2733 u t H1 locs ht hvm hw hB hz1 hk1 hS => ?_)
  unfold BX at hB
  rw [ht] at hB
  have hP : va_P (dC, dI) classes (wX g c v F rc) H1 := hB
  have hw : (0 ≤ r2733.toInt ∧ r2733.toInt ≤ 1) ∧ (r2733.toInt = 1 → 0 ≤ p0.toInt ∧ p0.toInt < 10) := hw
  generalize H1 = H at hP hS ⊢
  have hw_r2733 := hw
  refine lv_if_eq (tgt := 25) hx hb dX11_contract_8 (by decide) (fun c2734 => ?_) (fun c2734 => ?_)
  · skip
    have t2735 := cv_eq (a := r2733.toInt) rfl (b := 0) (by decide) c2734
    refine lv_iconst (v := (-1)) hx hb dX11_contract_25 (by decide) ?_
    have hP9 : va_P (dC, dI) classes (wX g c v F rc) H := hP
    exact W.iret (v := (-1)) hx hb hr (fun t ht hW => ⟨⟨(-1), (v, F, rc), rfl, ⟨hI, hal, rfl, (fun _ _ => rfl), trivial⟩, (by show va_P _ _ _ t.heap; rw [ht]; exact hP9)⟩, hS.F ht⟩) hS.2.2 dX11_contract_26
  · skip
    have t2736 := cv_ne (a := r2733.toInt) rfl (b := 0) (by decide) c2734
    refine lv_iload_n hx hb dX11_contract_11 rfl (lv_at hl 2 rfl) ?_
    refine va_calli (va_runS (As := [.int p1]) (rest := []) ⟨hx, hb, hml, hown, hwd⟩ (c_X11_isDay l dC dI g c adK adV v F rc H.size p1 hg hI ) (va_cwS 1 hwd (gT wk_549 wk_547 wk_548 wk_2) rfl rfl rfl (by decide +kernel) ⟨Nat.le_of_ble_eq_true rfl, Nat.le_of_ble_eq_true rfl⟩) ⟨PX.blind, fun U hU hW => ⟨rfl, PX.at hK hE hP hS hU hW⟩⟩ rfl rfl hl.1 rfl (lv_room (Nat.le_of_ble_eq_true rfl)) dX11_contract_12 ⟨Nat.le_of_ble_eq_true rfl, Nat.le_of_ble_eq_true rfl⟩) hS (fun q _ h => (freeX hS) q h) (freeX hS) (fun r2737 u t H1 locs ht hvm hw hB hz1 hk1 hS => ?_)
    unfold BX at hB
    rw [ht] at hB
    have hP : va_P (dC, dI) classes (wX g c v F rc) H1 := hB
    have hw : (r2737.toInt = 1 ∧ 0 ≤ p1.toInt ∧ p1.toInt ≤ 9999) ∨ (r2737.toInt = 0 ∧ (p1.toInt < 0 ∨ 9999 < p1.toInt)) := hw
    generalize H1 = H at hP hS ⊢
    have hw_r2737 := hw
    refine lv_if_eq (tgt := 25) hx hb dX11_contract_15 (by decide) (fun c2738 => ?_) (fun c2738 => ?_)
    · skip
      have t2739 := cv_eq (a := r2737.toInt) rfl (b := 0) (by decide) c2738
      refine lv_iconst (v := (-1)) hx hb dX11_contract_25 (by decide) ?_
      have hP9 : va_P (dC, dI) classes (wX g c v F rc) H := hP
      exact W.iret (v := (-1)) hx hb hr (fun t ht hW => ⟨⟨(-1), (v, F, rc), rfl, ⟨hI, hal, rfl, (fun _ _ => rfl), trivial⟩, (by show va_P _ _ _ t.heap; rw [ht]; exact hP9)⟩, hS.F ht⟩) hS.2.2 dX11_contract_26
    · skip
      have t2740 := cv_ne (a := r2737.toInt) rfl (b := 0) (by decide) c2738
      refine lv_iload_n hx hb dX11_contract_18 rfl (lv_at hl 3 rfl) ?_
      refine va_calli (va_runS (As := [.int p2]) (rest := []) ⟨hx, hb, hml, hown, hwd⟩ (c_X11_isTold l dC dI g c adK adV v F rc H.size p2 hg hI ) (va_cwS 1 hwd (gT wk_235 wk_233 wk_234 wk_2) rfl rfl rfl (by decide +kernel) ⟨Nat.le_of_ble_eq_true rfl, Nat.le_of_ble_eq_true rfl⟩) ⟨PX.blind, fun U hU hW => ⟨rfl, PX.at hK hE hP hS hU hW⟩⟩ rfl rfl hl.1 rfl (lv_room (Nat.le_of_ble_eq_true rfl)) dX11_contract_19 ⟨Nat.le_of_ble_eq_true rfl, Nat.le_of_ble_eq_true rfl⟩) hS (fun q _ h => (freeX hS) q h) (freeX hS) (fun r2741 u t H1 locs ht hvm hw hB hz1 hk1 hS => ?_)
      unfold BX at hB
      rw [ht] at hB
      have hP : va_P (dC, dI) classes (wX g c v F rc) H1 := hB
      have hw : (r2741.toInt = 1 ∧ 0 ≤ p2.toInt ∧ p2.toInt ≤ 99999) ∨ (r2741.toInt = 0 ∧ (p2.toInt < 0 ∨ 99999 < p2.toInt)) := hw
      generalize H1 = H at hP hS ⊢
      have hw_r2741 := hw
      refine lv_if_ne (tgt := 27) hx hb dX11_contract_22 (by decide) (fun c2742 => ?_) (fun c2742 => ?_)
      · skip
        have t2743 := cv_ne (a := r2741.toInt) rfl (b := 0) (by decide) c2742
        refine lv_aload_n hx hb dX11_contract_27 rfl (lv_at hl 0 rfl) ?_
        refine va_get (D := (dC, dI)) (ci := 11) (v := .ref (g 2)) (C := RX11) (T := TX11) (N := 14) hx hb hwd inA_X11 hown hK hP 0 rfl rfl 1 (by decide) (hwd _ wk_19) (fun _ h9 => h9) rfl dX11_contract_28 ?_
        refine lv_iload_n hx hb dX11_contract_31 rfl (lv_at hl 1 rfl) ?_
        refine va_calli (va_runV (As := [.int p0]) (rest := []) ⟨hx, hb, hml, hown, hwd⟩ (c_X8_isBack l dC dI g c adK adV v F rc H.size p0 hg hI (by omega)) (cwV 1 hwd (gV wk_284 wk_281 wk_282 wk_283 wk_18) rfl rfl rfl (by decide +kernel) ⟨Nat.le_of_ble_eq_true rfl, Nat.le_of_ble_eq_true rfl⟩) ⟨PX.blind, va_recv hK hP (ci := 8) (q0 := 2) rfl rfl, fun U hU hW => ⟨rfl, PX.at hK hE hP hS hU hW⟩⟩ rfl rfl hl.1 rfl (lv_room (Nat.le_of_ble_eq_true rfl)) dX11_contract_32 ⟨Nat.le_of_ble_eq_true rfl, Nat.le_of_ble_eq_true rfl⟩) hS (fun q _ h => (freeX hS) q h) (freeX hS) (fun r2744 u t H1 locs ht hvm hw hB hz1 hk1 hS => ?_)
        unfold BX at hB
        rw [ht] at hB
        have hP : va_P (dC, dI) classes (wX g c v F rc) H1 := hB
        have hw : 0 ≤ r2744.toInt ∧ r2744.toInt ≤ 1 := hw
        generalize H1 = H at hP hS ⊢
        have hw_r2744 := hw
        refine lv_if_eq (tgt := 41) hx hb dX11_contract_35 (by decide) (fun c2745 => ?_) (fun c2745 => ?_)
        · skip
          have t2746 := cv_eq (a := r2744.toInt) rfl (b := 0) (by decide) c2745
          refine lv_aload_n hx hb dX11_contract_41 rfl (lv_at hl 0 rfl) ?_
          refine va_get (D := (dC, dI)) (ci := 11) (v := .ref (g 9)) (C := RX11) (T := TX11) (N := 14) hx hb hwd inA_X11 hown hK hP 0 rfl rfl 8 (by decide) (hwd _ wk_47) (fun _ h9 => h9) rfl dX11_contract_42 ?_
          refine va_calli (va_runV (As := []) (rest := []) ⟨hx, hb, hml, hown, hwd⟩ (c_X0_read l dC dI g c adK adV v F rc H.size  hg hI ) (cwV 0 hwd (gV wk_1093 wk_1090 wk_1091 wk_1092 wk_46) rfl rfl rfl (by decide +kernel) ⟨Nat.le_of_ble_eq_true rfl, Nat.le_of_ble_eq_true rfl⟩) ⟨PX.blind, va_recv hK hP (ci := 0) (q0 := 9) rfl rfl, fun U hU hW => ⟨rfl, PX.at hK hE hP hS hU hW⟩⟩ rfl rfl hl.1 rfl (lv_room (Nat.le_of_ble_eq_true rfl)) dX11_contract_45 ⟨Nat.le_of_ble_eq_true rfl, Nat.le_of_ble_eq_true rfl⟩) hS (fun q _ h => (freeX hS) q h) (freeX hS) (fun r2747 u t H1 locs ht hvm hw hB hz1 hk1 hS => ?_)
          unfold BX at hB
          rw [ht] at hB
          obtain ⟨v2748, F2749, rc9⟩ := u
          obtain ⟨hI, hal9, hrc, hf2750, hw⟩ := hw
          dsimp only at hI hal9 hrc hB hf2750 hw
          rw [hrc] at hB
          have hal := hal9.trans hal
          have hP : va_P (dC, dI) classes (wX g c v2748 F2749 rc) H1 := hB
          generalize H1 = H at hP hS ⊢
          have rr_r2747 := i32_rng r2747
          refine lv_istore (lv' := [(4, .int r2747), (0, .ref (g 0)), (1, .int p0), (2, .int p1), (3, .int p2)]) hx hb dX11_contract_48 hl (by decide) rfl (fun ls hl => ?_)
          refine lv_aload_n hx hb dX11_contract_50 rfl (lv_at hl 1 rfl) ?_
          refine va_get (D := (dC, dI)) (ci := 11) (v := .ref (g 5)) (C := RX11) (T := TX11) (N := 14) hx hb hwd inA_X11 hown hK hP 0 rfl rfl 4 (by decide) (hwd _ wk_31) (fun _ h9 => h9) rfl dX11_contract_51 ?_
          refine lv_iconst (v := 0) hx hb dX11_contract_54 (by decide) ?_
          refine va_put (D := (dC, dI)) (ci := 10) (v := .int 0) (ty := .int) (C := RX10) (T := TX10) (N := 2) (fs := fsX_5 g v2748 rc) hx hb hwd inA_X10 tyX10 tyX10_ok nmX10 hown hK hP (DX hg) hS 5 rfl rfl 0 (by decide) (hwd _ wk_846) (fun _ h9 => h9) rfl (by decide +kernel) rfl rfl (Nat.le_of_ble_eq_true rfl) dX11_contract_55 (fun H locs hP _ hS => ?_)
          have hP := va_P_eq (pX_100 g c _ _ _ _) hP
          have hI := IX.put hI 100 0 rfl (by have : (0 : Int32).toInt = 0 := (by decide); omega)
          have hal := (alX_v _ _ 100 0 (by decide) (by decide) (by decide) (by decide)).trans hal
          refine lv_iload hx hb dX11_contract_58 (lv_at hl 0 rfl) ?_
          refine lv_iconst (v := (-1)) hx hb dX11_contract_60 (by decide) ?_
          refine lv_icmp_eq (tgt := 70) hx hb dX11_contract_61 (by decide) (fun c2751 => ?_) (fun c2751 => ?_)
          · skip
            have t2752 := cv_eq (a := r2747.toInt) rfl (b := (-1)) (by decide) c2751
            refine lv_aload_n hx hb dX11_contract_70 rfl (lv_at hl 1 rfl) ?_
            refine va_get (D := (dC, dI)) (ci := 11) (v := .ref (g 9)) (C := RX11) (T := TX11) (N := 14) hx hb hwd inA_X11 hown hK hP 0 rfl rfl 8 (by decide) (hwd _ wk_47) (fun _ h9 => h9) rfl dX11_contract_71 ?_
            refine lv_iload_n hx hb dX11_contract_74 rfl (lv_at hl 2 rfl) ?_
            refine lv_iload_n hx hb dX11_contract_75 rfl (lv_at hl 3 rfl) ?_
            refine lv_iload_n hx hb dX11_contract_76 rfl (lv_at hl 4 rfl) ?_
            refine va_calli (va_runV (As := [.int p0, .int p1, .int p2]) (rest := []) ⟨hx, hb, hml, hown, hwd⟩ (c_X0_sign l dC dI g c adK adV (va_up v2748 100 0) F2749 rc H.size p0 p1 p2 hg hI (by omega)) (cwV 3 hwd (gV wk_1119 wk_1116 wk_1117 wk_1118 wk_46) rfl rfl rfl (by decide +kernel) ⟨Nat.le_of_ble_eq_true rfl, Nat.le_of_ble_eq_true rfl⟩) ⟨PX.blind, va_recv hK hP (ci := 0) (q0 := 9) rfl rfl, fun U hU hW => ⟨rfl, PX.at hK hE hP hS hU hW⟩⟩ rfl rfl hl.1 rfl (lv_room (Nat.le_of_ble_eq_true rfl)) dX11_contract_77 ⟨Nat.le_of_ble_eq_true rfl, Nat.le_of_ble_eq_true rfl⟩) hS (fun q _ h => (freeX hS) q h) (freeX hS) (fun r2753 u t H1 locs ht hvm hw hB hz1 hk1 hS => ?_)
            unfold BX at hB
            rw [ht] at hB
            obtain ⟨v2754, F2755, rc9⟩ := u
            obtain ⟨hI, hal9, hrc, hf2756, hw⟩ := hw
            dsimp only at hI hal9 hrc hB hf2756 hw
            rw [hrc] at hB
            have hal := hal9.trans hal
            have hP : va_P (dC, dI) classes (wX g c v2754 F2755 rc) H1 := hB
            generalize H1 = H at hP hS ⊢
            have rr_r2753 := i32_rng r2753
            have hP9 : va_P (dC, dI) classes (wX g c v2754 F2755 rc) H := hP
            exact W.iret (v := r2753) hx hb hr (fun t ht hW => ⟨⟨r2753, (v2754, F2755, rc), rfl, ⟨hI, hal, rfl, (frC (by decide) hf2756 (frU (by decide) (frC (by decide) hf2750 (fun _ _ => rfl)))), trivial⟩, (by show va_P _ _ _ t.heap; rw [ht]; exact hP9)⟩, hS.F ht⟩) hS.2.2 dX11_contract_80
          · skip
            have t2757 := cv_ne (a := r2747.toInt) rfl (b := (-1)) (by decide) c2751
            refine lv_bipush (v := (-100)) hx hb dX11_contract_64 (by decide) ?_
            refine lv_iload hx hb dX11_contract_66 (lv_at hl 0 rfl) ?_
            refine lv_isub hx hb dX11_contract_68 ?_
            refine lv_topi (fun z2758 e2759 => ?_)
            try (have t2760 := tsub e2759 (a := (-100)) (by decide) (b := r2747.toInt) rfl (by omega))
            have hP9 : va_P (dC, dI) classes (wX g c (va_up v2748 100 0) F2749 rc) H := hP
            exact W.iret (v := z2758) hx hb hr (fun t ht hW => ⟨⟨z2758, ((va_up v2748 100 0), F2749, rc), rfl, ⟨hI, hal, rfl, (frU (by decide) (frC (by decide) hf2750 (fun _ _ => rfl))), trivial⟩, (by show va_P _ _ _ t.heap; rw [ht]; exact hP9)⟩, hS.F ht⟩) hS.2.2 dX11_contract_69
        · skip
          have t2761 := cv_ne (a := r2744.toInt) rfl (b := 0) (by decide) c2745
          refine lv_bipush (v := (-2)) hx hb dX11_contract_38 (by decide) ?_
          have hP9 : va_P (dC, dI) classes (wX g c v F rc) H := hP
          exact W.iret (v := (-2)) hx hb hr (fun t ht hW => ⟨⟨(-2), (v, F, rc), rfl, ⟨hI, hal, rfl, (fun _ _ => rfl), trivial⟩, (by show va_P _ _ _ t.heap; rw [ht]; exact hP9)⟩, hS.F ht⟩) hS.2.2 dX11_contract_40
      · skip
        have t2762 := cv_eq (a := r2741.toInt) rfl (b := 0) (by decide) c2742
        refine lv_iconst (v := (-1)) hx hb dX11_contract_25 (by decide) ?_
        have hP9 : va_P (dC, dI) classes (wX g c v F rc) H := hP
        exact W.iret (v := (-1)) hx hb hr (fun t ht hW => ⟨⟨(-1), (v, F, rc), rfl, ⟨hI, hal, rfl, (fun _ _ => rfl), trivial⟩, (by show va_P _ _ _ t.heap; rw [ht]; exact hP9)⟩, hS.F ht⟩) hS.2.2 dX11_contract_26
set_option maxHeartbeats 8000000 in
set_option maxRecDepth 100000 in
theorem c_X11_lacks (l : Launch) (dC : Nat → ClassId) (dI : Nat → Nat → Nat) (g : Nat → Nat) (c : Nat → ClassId) (adK adV : Nat → Nat) (v : Nat → Int32) (F : Nat → Nat → Int32) (rc sz : Nat) (p0 : Int32) (p1 : Int32) (p2 : Int32) (p3 : Int32) (hg : injX g) (hI : IX v F) : Met l yX11_lacks (Cond.code yX11_lacks cX11_lacks 5 (some .int) :: wA) ({ frames := 8, cells := 0, slots := 0, locals := 320 }) (va_Pc [.ref (g 0), .int p0, .int p1, .int p2, .int p3] (PX dC dI g c adK adV v F rc sz)) (va_Qi (fun (r : Int32) (u : StX) => IX u.1 u.2.1 ∧ alX u.1 u.2.1 = alX v F ∧ u.2.2 = rc ∧ (∀ k, k ∉ ([126, 229] : List Nat) → u.1 k = v k) ∧ True) (BX dC dI g c) (AX g sz)) 0 0 (AX g sz) := by
  refine Met.ofW (cc := cX11_lacks) (maxL := 5) (ret := (some .int)) (by decide) rfl ?_
  intro p e s m args below meth c0 s₁ B hml hv
  obtain ⟨rfl, hsz, hP, hK, hE⟩ := hv
  have hx := B.exec
  have hb := B.bytes
  have hr := B.returns
  have hts := atoms_spec (ws := Cond.code yX11_lacks cX11_lacks 5 (some .int) :: wA) B.pre
  have hwd : ∀ w ∈ wA, w.before _ s = true := fun w h => hts w (List.mem_cons_of_mem _ h)
  have hown : s.vm.findClass RX11 = some m.cls := findClass_of_methodNamed B.named
  have hlocks := B.notSynchronized
  subst hsz
  have hl := lv_entry ([.ref (g 0), .int p0, .int p1, .int p2, .int p3]) (n := 5) (Nat.le_of_ble_eq_true rfl)
  rw [lg_entry_eq]
  generalize (lg_sl ([.ref (g 0), .int p0, .int p1, .int p2, .int p3]) ++ List.replicate (5 - (lg_sl ([.ref (g 0), .int p0, .int p1, .int p2, .int p3])).length) Slot.unset).toArray = ls at hl ⊢
  have hl : lv_has ls 5 [(0, .ref (g 0)), (1, .int p0), (2, .int p1), (3, .int p2), (4, .int p3)] := hl
  obtain ⟨H, eH⟩ : ∃ z, z = s.heap := ⟨_, rfl⟩
  have hP : va_P (dC, dI) classes (wX g c v F rc) H := by rw [eH]; exact hP
  have hS : va_S (AX g s.heap.size) s.heap H [] := by rw [eH]; exact va_S.rf
  refine my_heap eH ?_
  have hal : alX v F = alX v F := rfl
  have rp0 := i32_rng p0
  have rp1 := i32_rng p1
  have rp2 := i32_rng p2
  have rp3 := i32_rng p3
  refine lv_aload_n hx hb dX11_lacks_0 rfl (lv_at hl 0 rfl) ?_
  refine va_get (D := (dC, dI)) (ci := 11) (v := .ref (g 2)) (C := RX11) (T := TX11) (N := 14) hx hb hwd inA_X11 hown hK hP 0 rfl rfl 1 (by decide) (hwd _ wk_19) (fun _ h9 => h9) rfl dX11_lacks_1 ?_
  refine lv_iload_n hx hb dX11_lacks_4 rfl (lv_at hl 1 rfl) ?_
  refine va_calli (va_runV (As := [.int p0]) (rest := []) ⟨hx, hb, hml, hown, hwd⟩ (c_X8_has l dC dI g c adK adV v F rc H.size p0 hg hI ) (cwV 1 hwd (gV wk_276 wk_273 wk_274 wk_275 wk_18) rfl rfl rfl (by decide +kernel) ⟨Nat.le_of_ble_eq_true rfl, Nat.le_of_ble_eq_true rfl⟩) ⟨PX.blind, va_recv hK hP (ci := 8) (q0 := 2) rfl rfl, fun U hU hW => ⟨rfl, PX.at hK hE hP hS hU hW⟩⟩ rfl rfl hl.1 rfl (lv_room (Nat.le_of_ble_eq_true rfl)) dX11_lacks_5 ⟨Nat.le_of_ble_eq_true rfl, Nat.le_of_ble_eq_true rfl⟩) hS (fun q _ h => (freeX hS) q h) (freeX hS) (fun r2763 u t H1 locs ht hvm hw hB hz1 hk1 hS => ?_)
  unfold BX at hB
  rw [ht] at hB
  have hP : va_P (dC, dI) classes (wX g c v F rc) H1 := hB
  have hw : (0 ≤ r2763.toInt ∧ r2763.toInt ≤ 1) ∧ (r2763.toInt = 1 → 0 ≤ p0.toInt ∧ p0.toInt < 10) := hw
  generalize H1 = H at hP hS ⊢
  have hw_r2763 := hw
  refine lv_if_eq (tgt := 38) hx hb dX11_lacks_8 (by decide) (fun c2764 => ?_) (fun c2764 => ?_)
  · skip
    have t2765 := cv_eq (a := r2763.toInt) rfl (b := 0) (by decide) c2764
    refine lv_iconst (v := (-1)) hx hb dX11_lacks_38 (by decide) ?_
    have hP9 : va_P (dC, dI) classes (wX g c v F rc) H := hP
    exact W.iret (v := (-1)) hx hb hr (fun t ht hW => ⟨⟨(-1), (v, F, rc), rfl, ⟨hI, hal, rfl, (fun _ _ => rfl), trivial⟩, (by show va_P _ _ _ t.heap; rw [ht]; exact hP9)⟩, hS.F ht⟩) hS.2.2 dX11_lacks_39
  · skip
    have t2766 := cv_ne (a := r2763.toInt) rfl (b := 0) (by decide) c2764
    refine lv_aload_n hx hb dX11_lacks_11 rfl (lv_at hl 0 rfl) ?_
    refine va_get (D := (dC, dI)) (ci := 11) (v := .ref (g 9)) (C := RX11) (T := TX11) (N := 14) hx hb hwd inA_X11 hown hK hP 0 rfl rfl 8 (by decide) (hwd _ wk_47) (fun _ h9 => h9) rfl dX11_lacks_12 ?_
    refine lv_iload_n hx hb dX11_lacks_15 rfl (lv_at hl 1 rfl) ?_
    refine lv_iload_n hx hb dX11_lacks_16 rfl (lv_at hl 2 rfl) ?_
    refine va_calli (va_runV (As := [.int p0, .int p1]) (rest := []) ⟨hx, hb, hml, hown, hwd⟩ (c_X0_hasLine l dC dI g c adK adV v F rc H.size p0 p1 hg hI (by omega)) (cwV 2 hwd (gV wk_1146 wk_1143 wk_1144 wk_1145 wk_46) rfl rfl rfl (by decide +kernel) ⟨Nat.le_of_ble_eq_true rfl, Nat.le_of_ble_eq_true rfl⟩) ⟨PX.blind, va_recv hK hP (ci := 0) (q0 := 9) rfl rfl, fun U hU hW => ⟨rfl, PX.at hK hE hP hS hU hW⟩⟩ rfl rfl hl.1 rfl (lv_room (Nat.le_of_ble_eq_true rfl)) dX11_lacks_17 ⟨Nat.le_of_ble_eq_true rfl, Nat.le_of_ble_eq_true rfl⟩) hS (fun q _ h => (freeX hS) q h) (freeX hS) (fun r2767 u t H1 locs ht hvm hw hB hz1 hk1 hS => ?_)
    unfold BX at hB
    rw [ht] at hB
    have hP : va_P (dC, dI) classes (wX g c v F rc) H1 := hB
    have hw : (0 ≤ r2767.toInt ∧ r2767.toInt ≤ 1) ∧ (r2767.toInt = 1 → 0 ≤ p1.toInt ∧ p1.toInt ≤ 29) := hw
    generalize H1 = H at hP hS ⊢
    have hw_r2767 := hw
    refine lv_if_eq (tgt := 38) hx hb dX11_lacks_20 (by decide) (fun c2768 => ?_) (fun c2768 => ?_)
    · skip
      have t2769 := cv_eq (a := r2767.toInt) rfl (b := 0) (by decide) c2768
      refine lv_iconst (v := (-1)) hx hb dX11_lacks_38 (by decide) ?_
      have hP9 : va_P (dC, dI) classes (wX g c v F rc) H := hP
      exact W.iret (v := (-1)) hx hb hr (fun t ht hW => ⟨⟨(-1), (v, F, rc), rfl, ⟨hI, hal, rfl, (fun _ _ => rfl), trivial⟩, (by show va_P _ _ _ t.heap; rw [ht]; exact hP9)⟩, hS.F ht⟩) hS.2.2 dX11_lacks_39
    · skip
      have t2770 := cv_ne (a := r2767.toInt) rfl (b := 0) (by decide) c2768
      refine lv_iload_n hx hb dX11_lacks_23 rfl (lv_at hl 3 rfl) ?_
      refine va_calli (va_runS (As := [.int p2]) (rest := []) ⟨hx, hb, hml, hown, hwd⟩ (c_X11_isDay l dC dI g c adK adV v F rc H.size p2 hg hI ) (va_cwS 1 hwd (gT wk_549 wk_547 wk_548 wk_2) rfl rfl rfl (by decide +kernel) ⟨Nat.le_of_ble_eq_true rfl, Nat.le_of_ble_eq_true rfl⟩) ⟨PX.blind, fun U hU hW => ⟨rfl, PX.at hK hE hP hS hU hW⟩⟩ rfl rfl hl.1 rfl (lv_room (Nat.le_of_ble_eq_true rfl)) dX11_lacks_24 ⟨Nat.le_of_ble_eq_true rfl, Nat.le_of_ble_eq_true rfl⟩) hS (fun q _ h => (freeX hS) q h) (freeX hS) (fun r2771 u t H1 locs ht hvm hw hB hz1 hk1 hS => ?_)
      unfold BX at hB
      rw [ht] at hB
      have hP : va_P (dC, dI) classes (wX g c v F rc) H1 := hB
      have hw : (r2771.toInt = 1 ∧ 0 ≤ p2.toInt ∧ p2.toInt ≤ 9999) ∨ (r2771.toInt = 0 ∧ (p2.toInt < 0 ∨ 9999 < p2.toInt)) := hw
      generalize H1 = H at hP hS ⊢
      have hw_r2771 := hw
      refine lv_if_eq (tgt := 38) hx hb dX11_lacks_27 (by decide) (fun c2772 => ?_) (fun c2772 => ?_)
      · skip
        have t2773 := cv_eq (a := r2771.toInt) rfl (b := 0) (by decide) c2772
        refine lv_iconst (v := (-1)) hx hb dX11_lacks_38 (by decide) ?_
        have hP9 : va_P (dC, dI) classes (wX g c v F rc) H := hP
        exact W.iret (v := (-1)) hx hb hr (fun t ht hW => ⟨⟨(-1), (v, F, rc), rfl, ⟨hI, hal, rfl, (fun _ _ => rfl), trivial⟩, (by show va_P _ _ _ t.heap; rw [ht]; exact hP9)⟩, hS.F ht⟩) hS.2.2 dX11_lacks_39
      · skip
        have t2774 := cv_ne (a := r2771.toInt) rfl (b := 0) (by decide) c2772
        refine lv_iload hx hb dX11_lacks_30 (lv_at hl 4 rfl) ?_
        refine va_calli (va_runS (As := [.int p3]) (rest := []) ⟨hx, hb, hml, hown, hwd⟩ (c_X11_isDay l dC dI g c adK adV v F rc H.size p3 hg hI ) (va_cwS 1 hwd (gT wk_549 wk_547 wk_548 wk_2) rfl rfl rfl (by decide +kernel) ⟨Nat.le_of_ble_eq_true rfl, Nat.le_of_ble_eq_true rfl⟩) ⟨PX.blind, fun U hU hW => ⟨rfl, PX.at hK hE hP hS hU hW⟩⟩ rfl rfl hl.1 rfl (lv_room (Nat.le_of_ble_eq_true rfl)) dX11_lacks_32 ⟨Nat.le_of_ble_eq_true rfl, Nat.le_of_ble_eq_true rfl⟩) hS (fun q _ h => (freeX hS) q h) (freeX hS) (fun r2775 u t H1 locs ht hvm hw hB hz1 hk1 hS => ?_)
        unfold BX at hB
        rw [ht] at hB
        have hP : va_P (dC, dI) classes (wX g c v F rc) H1 := hB
        have hw : (r2775.toInt = 1 ∧ 0 ≤ p3.toInt ∧ p3.toInt ≤ 9999) ∨ (r2775.toInt = 0 ∧ (p3.toInt < 0 ∨ 9999 < p3.toInt)) := hw
        generalize H1 = H at hP hS ⊢
        have hw_r2775 := hw
        refine lv_if_ne (tgt := 40) hx hb dX11_lacks_35 (by decide) (fun c2776 => ?_) (fun c2776 => ?_)
        · skip
          have t2777 := cv_ne (a := r2775.toInt) rfl (b := 0) (by decide) c2776
          refine lv_aload_n hx hb dX11_lacks_40 rfl (lv_at hl 0 rfl) ?_
          refine va_get (D := (dC, dI)) (ci := 11) (v := .ref (g 11)) (C := RX11) (T := TX11) (N := 14) hx hb hwd inA_X11 hown hK hP 0 rfl rfl 10 (by decide) (hwd _ wk_55) (fun _ h9 => h9) rfl dX11_lacks_41 ?_
          refine lv_iload_n hx hb dX11_lacks_44 rfl (lv_at hl 1 rfl) ?_
          refine lv_iconst (v := (-1)) hx hb dX11_lacks_45 (by decide) ?_
          refine lv_iload hx hb dX11_lacks_46 (lv_at hl 4 rfl) ?_
          refine va_callv (va_runV (As := [.int p0, .int (-1), .int p3]) (rest := []) ⟨hx, hb, hml, hown, hwd⟩ (c_X1_survey l dC dI g c adK adV v F rc H.size p0 (-1) p3 hg hI ) (cwV 3 hwd (gV wk_1150 wk_1147 wk_1148 wk_1149 wk_54) rfl rfl rfl (by decide +kernel) ⟨Nat.le_of_ble_eq_true rfl, Nat.le_of_ble_eq_true rfl⟩) ⟨PX.blind, va_recv hK hP (ci := 1) (q0 := 11) rfl rfl, fun U hU hW => ⟨rfl, PX.at hK hE hP hS hU hW⟩⟩ rfl rfl hl.1 rfl (lv_room (Nat.le_of_ble_eq_true rfl)) dX11_lacks_48 ⟨Nat.le_of_ble_eq_true rfl, Nat.le_of_ble_eq_true rfl⟩) hS (fun q _ h => (freeX hS) q h) (freeX hS) (fun u t H1 locs ht hvm hw hB hz1 hk1 hS => ?_)
          unfold BX at hB
          rw [ht] at hB
          obtain ⟨v2779, F2780, rc9⟩ := u
          obtain ⟨hI, hal9, hrc, hf2781, hw⟩ := hw
          dsimp only at hI hal9 hrc hB hf2781 hw
          rw [hrc] at hB
          have hal := hal9.trans hal
          have hP : va_P (dC, dI) classes (wX g c v2779 F2780 rc) H1 := hB
          generalize H1 = H at hP hS ⊢
          refine lv_aload_n hx hb dX11_lacks_51 rfl (lv_at hl 0 rfl) ?_
          refine va_get (D := (dC, dI)) (ci := 11) (v := .ref (g 11)) (C := RX11) (T := TX11) (N := 14) hx hb hwd inA_X11 hown hK hP 0 rfl rfl 10 (by decide) (hwd _ wk_55) (fun _ h9 => h9) rfl dX11_lacks_52 ?_
          refine lv_iload_n hx hb dX11_lacks_55 rfl (lv_at hl 1 rfl) ?_
          refine lv_iload_n hx hb dX11_lacks_56 rfl (lv_at hl 2 rfl) ?_
          refine lv_iload_n hx hb dX11_lacks_57 rfl (lv_at hl 3 rfl) ?_
          refine va_calli (va_runV (As := [.int p0, .int p1, .int p2]) (rest := []) ⟨hx, hb, hml, hown, hwd⟩ (c_X1_unitsOf l dC dI g c adK adV v2779 F2780 rc H.size p0 p1 p2 hg hI (by omega) (by omega)) (cwV 3 hwd (gV wk_1169 wk_1166 wk_1167 wk_1168 wk_54) rfl rfl rfl (by decide +kernel) ⟨Nat.le_of_ble_eq_true rfl, Nat.le_of_ble_eq_true rfl⟩) ⟨PX.blind, va_recv hK hP (ci := 1) (q0 := 11) rfl rfl, fun U hU hW => ⟨rfl, PX.at hK hE hP hS hU hW⟩⟩ rfl rfl hl.1 rfl (lv_room (Nat.le_of_ble_eq_true rfl)) dX11_lacks_58 ⟨Nat.le_of_ble_eq_true rfl, Nat.le_of_ble_eq_true rfl⟩) hS (fun q _ h => (freeX hS) q h) (freeX hS) (fun r2782 u t H1 locs ht hvm hw hB hz1 hk1 hS => ?_)
          unfold BX at hB
          rw [ht] at hB
          have hP : va_P (dC, dI) classes (wX g c v2779 F2780 rc) H1 := hB
          generalize H1 = H at hP hS ⊢
          have rr_r2782 := i32_rng r2782
          have hP9 : va_P (dC, dI) classes (wX g c v2779 F2780 rc) H := hP
          exact W.iret (v := r2782) hx hb hr (fun t ht hW => ⟨⟨r2782, (v2779, F2780, rc), rfl, ⟨hI, hal, rfl, (frC (by decide) hf2781 (fun _ _ => rfl)), trivial⟩, (by show va_P _ _ _ t.heap; rw [ht]; exact hP9)⟩, hS.F ht⟩) hS.2.2 dX11_lacks_61
        · skip
          have t2783 := cv_eq (a := r2775.toInt) rfl (b := 0) (by decide) c2776
          refine lv_iconst (v := (-1)) hx hb dX11_lacks_38 (by decide) ?_
          have hP9 : va_P (dC, dI) classes (wX g c v F rc) H := hP
          exact W.iret (v := (-1)) hx hb hr (fun t ht hW => ⟨⟨(-1), (v, F, rc), rfl, ⟨hI, hal, rfl, (fun _ _ => rfl), trivial⟩, (by show va_P _ _ _ t.heap; rw [ht]; exact hP9)⟩, hS.F ht⟩) hS.2.2 dX11_lacks_39
set_option maxHeartbeats 8000000 in
set_option maxRecDepth 100000 in
theorem c_X11_costs (l : Launch) (dC : Nat → ClassId) (dI : Nat → Nat → Nat) (g : Nat → Nat) (c : Nat → ClassId) (adK adV : Nat → Nat) (v : Nat → Int32) (F : Nat → Nat → Int32) (rc sz : Nat) (p0 : Int32) (p1 : Int32) (p2 : Int32) (p3 : Int32) (hg : injX g) (hI : IX v F) : Met l yX11_costs (Cond.code yX11_costs cX11_costs 5 (some .int) :: wA) ({ frames := 8, cells := 0, slots := 0, locals := 320 }) (va_Pc [.ref (g 0), .int p0, .int p1, .int p2, .int p3] (PX dC dI g c adK adV v F rc sz)) (va_Qi (fun (r : Int32) (u : StX) => IX u.1 u.2.1 ∧ alX u.1 u.2.1 = alX v F ∧ u.2.2 = rc ∧ (∀ k, k ∉ ([126, 229] : List Nat) → u.1 k = v k) ∧ True) (BX dC dI g c) (AX g sz)) 0 0 (AX g sz) := by
  refine Met.ofW (cc := cX11_costs) (maxL := 5) (ret := (some .int)) (by decide) rfl ?_
  intro p e s m args below meth c0 s₁ B hml hv
  obtain ⟨rfl, hsz, hP, hK, hE⟩ := hv
  have hx := B.exec
  have hb := B.bytes
  have hr := B.returns
  have hts := atoms_spec (ws := Cond.code yX11_costs cX11_costs 5 (some .int) :: wA) B.pre
  have hwd : ∀ w ∈ wA, w.before _ s = true := fun w h => hts w (List.mem_cons_of_mem _ h)
  have hown : s.vm.findClass RX11 = some m.cls := findClass_of_methodNamed B.named
  have hlocks := B.notSynchronized
  subst hsz
  have hl := lv_entry ([.ref (g 0), .int p0, .int p1, .int p2, .int p3]) (n := 5) (Nat.le_of_ble_eq_true rfl)
  rw [lg_entry_eq]
  generalize (lg_sl ([.ref (g 0), .int p0, .int p1, .int p2, .int p3]) ++ List.replicate (5 - (lg_sl ([.ref (g 0), .int p0, .int p1, .int p2, .int p3])).length) Slot.unset).toArray = ls at hl ⊢
  have hl : lv_has ls 5 [(0, .ref (g 0)), (1, .int p0), (2, .int p1), (3, .int p2), (4, .int p3)] := hl
  obtain ⟨H, eH⟩ : ∃ z, z = s.heap := ⟨_, rfl⟩
  have hP : va_P (dC, dI) classes (wX g c v F rc) H := by rw [eH]; exact hP
  have hS : va_S (AX g s.heap.size) s.heap H [] := by rw [eH]; exact va_S.rf
  refine my_heap eH ?_
  have hal : alX v F = alX v F := rfl
  have rp0 := i32_rng p0
  have rp1 := i32_rng p1
  have rp2 := i32_rng p2
  have rp3 := i32_rng p3
  refine lv_aload_n hx hb dX11_costs_0 rfl (lv_at hl 0 rfl) ?_
  refine va_get (D := (dC, dI)) (ci := 11) (v := .ref (g 2)) (C := RX11) (T := TX11) (N := 14) hx hb hwd inA_X11 hown hK hP 0 rfl rfl 1 (by decide) (hwd _ wk_19) (fun _ h9 => h9) rfl dX11_costs_1 ?_
  refine lv_iload_n hx hb dX11_costs_4 rfl (lv_at hl 1 rfl) ?_
  refine va_calli (va_runV (As := [.int p0]) (rest := []) ⟨hx, hb, hml, hown, hwd⟩ (c_X8_has l dC dI g c adK adV v F rc H.size p0 hg hI ) (cwV 1 hwd (gV wk_276 wk_273 wk_274 wk_275 wk_18) rfl rfl rfl (by decide +kernel) ⟨Nat.le_of_ble_eq_true rfl, Nat.le_of_ble_eq_true rfl⟩) ⟨PX.blind, va_recv hK hP (ci := 8) (q0 := 2) rfl rfl, fun U hU hW => ⟨rfl, PX.at hK hE hP hS hU hW⟩⟩ rfl rfl hl.1 rfl (lv_room (Nat.le_of_ble_eq_true rfl)) dX11_costs_5 ⟨Nat.le_of_ble_eq_true rfl, Nat.le_of_ble_eq_true rfl⟩) hS (fun q _ h => (freeX hS) q h) (freeX hS) (fun r2784 u t H1 locs ht hvm hw hB hz1 hk1 hS => ?_)
  unfold BX at hB
  rw [ht] at hB
  have hP : va_P (dC, dI) classes (wX g c v F rc) H1 := hB
  have hw : (0 ≤ r2784.toInt ∧ r2784.toInt ≤ 1) ∧ (r2784.toInt = 1 → 0 ≤ p0.toInt ∧ p0.toInt < 10) := hw
  generalize H1 = H at hP hS ⊢
  have hw_r2784 := hw
  refine lv_if_eq (tgt := 37) hx hb dX11_costs_8 (by decide) (fun c2785 => ?_) (fun c2785 => ?_)
  · skip
    have t2786 := cv_eq (a := r2784.toInt) rfl (b := 0) (by decide) c2785
    refine lv_ldc (v := (-2000000000)) hx hb hown (hwd _ wk_56) dX11_costs_37 ?_
    have hP9 : va_P (dC, dI) classes (wX g c v F rc) H := hP
    exact W.iret (v := (-2000000000)) hx hb hr (fun t ht hW => ⟨⟨(-2000000000), (v, F, rc), rfl, ⟨hI, hal, rfl, (fun _ _ => rfl), trivial⟩, (by show va_P _ _ _ t.heap; rw [ht]; exact hP9)⟩, hS.F ht⟩) hS.2.2 dX11_costs_39
  · skip
    have t2787 := cv_ne (a := r2784.toInt) rfl (b := 0) (by decide) c2785
    refine lv_aload_n hx hb dX11_costs_11 rfl (lv_at hl 0 rfl) ?_
    refine va_get (D := (dC, dI)) (ci := 11) (v := .ref (g 9)) (C := RX11) (T := TX11) (N := 14) hx hb hwd inA_X11 hown hK hP 0 rfl rfl 8 (by decide) (hwd _ wk_47) (fun _ h9 => h9) rfl dX11_costs_12 ?_
    refine lv_iload_n hx hb dX11_costs_15 rfl (lv_at hl 1 rfl) ?_
    refine va_calli (va_runV (As := [.int p0]) (rest := []) ⟨hx, hb, hml, hown, hwd⟩ (c_X0_isSigned l dC dI g c adK adV v F rc H.size p0 hg hI (by omega)) (cwV 1 hwd (gV wk_1221 wk_1218 wk_1219 wk_1220 wk_46) rfl rfl rfl (by decide +kernel) ⟨Nat.le_of_ble_eq_true rfl, Nat.le_of_ble_eq_true rfl⟩) ⟨PX.blind, va_recv hK hP (ci := 0) (q0 := 9) rfl rfl, fun U hU hW => ⟨rfl, PX.at hK hE hP hS hU hW⟩⟩ rfl rfl hl.1 rfl (lv_room (Nat.le_of_ble_eq_true rfl)) dX11_costs_16 ⟨Nat.le_of_ble_eq_true rfl, Nat.le_of_ble_eq_true rfl⟩) hS (fun q _ h => (freeX hS) q h) (freeX hS) (fun r2788 u t H1 locs ht hvm hw hB hz1 hk1 hS => ?_)
    unfold BX at hB
    rw [ht] at hB
    have hP : va_P (dC, dI) classes (wX g c v F rc) H1 := hB
    have hw : 0 ≤ r2788.toInt ∧ r2788.toInt ≤ 1 := hw
    generalize H1 = H at hP hS ⊢
    have hw_r2788 := hw
    refine lv_if_eq (tgt := 37) hx hb dX11_costs_19 (by decide) (fun c2789 => ?_) (fun c2789 => ?_)
    · skip
      have t2790 := cv_eq (a := r2788.toInt) rfl (b := 0) (by decide) c2789
      refine lv_ldc (v := (-2000000000)) hx hb hown (hwd _ wk_56) dX11_costs_37 ?_
      have hP9 : va_P (dC, dI) classes (wX g c v F rc) H := hP
      exact W.iret (v := (-2000000000)) hx hb hr (fun t ht hW => ⟨⟨(-2000000000), (v, F, rc), rfl, ⟨hI, hal, rfl, (fun _ _ => rfl), trivial⟩, (by show va_P _ _ _ t.heap; rw [ht]; exact hP9)⟩, hS.F ht⟩) hS.2.2 dX11_costs_39
    · skip
      have t2791 := cv_ne (a := r2788.toInt) rfl (b := 0) (by decide) c2789
      refine lv_iload_n hx hb dX11_costs_22 rfl (lv_at hl 3 rfl) ?_
      refine va_calli (va_runS (As := [.int p2]) (rest := []) ⟨hx, hb, hml, hown, hwd⟩ (c_X11_isDay l dC dI g c adK adV v F rc H.size p2 hg hI ) (va_cwS 1 hwd (gT wk_549 wk_547 wk_548 wk_2) rfl rfl rfl (by decide +kernel) ⟨Nat.le_of_ble_eq_true rfl, Nat.le_of_ble_eq_true rfl⟩) ⟨PX.blind, fun U hU hW => ⟨rfl, PX.at hK hE hP hS hU hW⟩⟩ rfl rfl hl.1 rfl (lv_room (Nat.le_of_ble_eq_true rfl)) dX11_costs_23 ⟨Nat.le_of_ble_eq_true rfl, Nat.le_of_ble_eq_true rfl⟩) hS (fun q _ h => (freeX hS) q h) (freeX hS) (fun r2792 u t H1 locs ht hvm hw hB hz1 hk1 hS => ?_)
      unfold BX at hB
      rw [ht] at hB
      have hP : va_P (dC, dI) classes (wX g c v F rc) H1 := hB
      have hw : (r2792.toInt = 1 ∧ 0 ≤ p2.toInt ∧ p2.toInt ≤ 9999) ∨ (r2792.toInt = 0 ∧ (p2.toInt < 0 ∨ 9999 < p2.toInt)) := hw
      generalize H1 = H at hP hS ⊢
      have hw_r2792 := hw
      refine lv_if_eq (tgt := 37) hx hb dX11_costs_26 (by decide) (fun c2793 => ?_) (fun c2793 => ?_)
      · skip
        have t2794 := cv_eq (a := r2792.toInt) rfl (b := 0) (by decide) c2793
        refine lv_ldc (v := (-2000000000)) hx hb hown (hwd _ wk_56) dX11_costs_37 ?_
        have hP9 : va_P (dC, dI) classes (wX g c v F rc) H := hP
        exact W.iret (v := (-2000000000)) hx hb hr (fun t ht hW => ⟨⟨(-2000000000), (v, F, rc), rfl, ⟨hI, hal, rfl, (fun _ _ => rfl), trivial⟩, (by show va_P _ _ _ t.heap; rw [ht]; exact hP9)⟩, hS.F ht⟩) hS.2.2 dX11_costs_39
      · skip
        have t2795 := cv_ne (a := r2792.toInt) rfl (b := 0) (by decide) c2793
        refine lv_iload hx hb dX11_costs_29 (lv_at hl 4 rfl) ?_
        refine va_calli (va_runS (As := [.int p3]) (rest := []) ⟨hx, hb, hml, hown, hwd⟩ (c_X11_isDay l dC dI g c adK adV v F rc H.size p3 hg hI ) (va_cwS 1 hwd (gT wk_549 wk_547 wk_548 wk_2) rfl rfl rfl (by decide +kernel) ⟨Nat.le_of_ble_eq_true rfl, Nat.le_of_ble_eq_true rfl⟩) ⟨PX.blind, fun U hU hW => ⟨rfl, PX.at hK hE hP hS hU hW⟩⟩ rfl rfl hl.1 rfl (lv_room (Nat.le_of_ble_eq_true rfl)) dX11_costs_31 ⟨Nat.le_of_ble_eq_true rfl, Nat.le_of_ble_eq_true rfl⟩) hS (fun q _ h => (freeX hS) q h) (freeX hS) (fun r2796 u t H1 locs ht hvm hw hB hz1 hk1 hS => ?_)
        unfold BX at hB
        rw [ht] at hB
        have hP : va_P (dC, dI) classes (wX g c v F rc) H1 := hB
        have hw : (r2796.toInt = 1 ∧ 0 ≤ p3.toInt ∧ p3.toInt ≤ 9999) ∨ (r2796.toInt = 0 ∧ (p3.toInt < 0 ∨ 9999 < p3.toInt)) := hw
        generalize H1 = H at hP hS ⊢
        have hw_r2796 := hw
        refine lv_if_ne (tgt := 40) hx hb dX11_costs_34 (by decide) (fun c2797 => ?_) (fun c2797 => ?_)
        · skip
          have t2798 := cv_ne (a := r2796.toInt) rfl (b := 0) (by decide) c2797
          refine lv_iload_n hx hb dX11_costs_40 rfl (lv_at hl 2 rfl) ?_
          refine lv_iconst (v := (-1)) hx hb dX11_costs_41 (by decide) ?_
          refine lv_icmp_eq (tgt := 60) hx hb dX11_costs_42 (by decide) (fun c2799 => ?_) (fun c2799 => ?_)
          · skip
            have t2800 := cv_eq (a := p1.toInt) rfl (b := (-1)) (by decide) c2799
            refine lv_aload_n hx hb dX11_costs_60 rfl (lv_at hl 0 rfl) ?_
            refine va_get (D := (dC, dI)) (ci := 11) (v := .ref (g 11)) (C := RX11) (T := TX11) (N := 14) hx hb hwd inA_X11 hown hK hP 0 rfl rfl 10 (by decide) (hwd _ wk_55) (fun _ h9 => h9) rfl dX11_costs_61 ?_
            refine lv_iload_n hx hb dX11_costs_64 rfl (lv_at hl 1 rfl) ?_
            refine lv_iconst (v := (-1)) hx hb dX11_costs_65 (by decide) ?_
            refine lv_iload hx hb dX11_costs_66 (lv_at hl 4 rfl) ?_
            refine va_callv (va_runV (As := [.int p0, .int (-1), .int p3]) (rest := []) ⟨hx, hb, hml, hown, hwd⟩ (c_X1_survey l dC dI g c adK adV v F rc H.size p0 (-1) p3 hg hI ) (cwV 3 hwd (gV wk_1150 wk_1147 wk_1148 wk_1149 wk_54) rfl rfl rfl (by decide +kernel) ⟨Nat.le_of_ble_eq_true rfl, Nat.le_of_ble_eq_true rfl⟩) ⟨PX.blind, va_recv hK hP (ci := 1) (q0 := 11) rfl rfl, fun U hU hW => ⟨rfl, PX.at hK hE hP hS hU hW⟩⟩ rfl rfl hl.1 rfl (lv_room (Nat.le_of_ble_eq_true rfl)) dX11_costs_68 ⟨Nat.le_of_ble_eq_true rfl, Nat.le_of_ble_eq_true rfl⟩) hS (fun q _ h => (freeX hS) q h) (freeX hS) (fun u t H1 locs ht hvm hw hB hz1 hk1 hS => ?_)
            unfold BX at hB
            rw [ht] at hB
            obtain ⟨v2802, F2803, rc9⟩ := u
            obtain ⟨hI, hal9, hrc, hf2804, hw⟩ := hw
            dsimp only at hI hal9 hrc hB hf2804 hw
            rw [hrc] at hB
            have hal := hal9.trans hal
            have hP : va_P (dC, dI) classes (wX g c v2802 F2803 rc) H1 := hB
            generalize H1 = H at hP hS ⊢
            refine lv_iload_n hx hb dX11_costs_71 rfl (lv_at hl 2 rfl) ?_
            refine lv_iconst (v := (-1)) hx hb dX11_costs_72 (by decide) ?_
            refine lv_icmp_ne (tgt := 88) hx hb dX11_costs_73 (by decide) (fun c2805 => ?_) (fun c2805 => ?_)
            · skip
              have t2806 := cv_ne (a := p1.toInt) rfl (b := (-1)) (by decide) c2805
              refine lv_aload_n hx hb dX11_costs_88 rfl (lv_at hl 0 rfl) ?_
              refine va_get (D := (dC, dI)) (ci := 11) (v := .ref (g 11)) (C := RX11) (T := TX11) (N := 14) hx hb hwd inA_X11 hown hK hP 0 rfl rfl 10 (by decide) (hwd _ wk_55) (fun _ h9 => h9) rfl dX11_costs_89 ?_
              refine lv_iload_n hx hb dX11_costs_92 rfl (lv_at hl 1 rfl) ?_
              refine lv_iload_n hx hb dX11_costs_93 rfl (lv_at hl 2 rfl) ?_
              refine lv_iload_n hx hb dX11_costs_94 rfl (lv_at hl 3 rfl) ?_
              refine va_calli (va_runV (As := [.int p0, .int p1, .int p2]) (rest := []) ⟨hx, hb, hml, hown, hwd⟩ (c_X1_linePrice l dC dI g c adK adV v2802 F2803 rc H.size p0 p1 p2 hg hI (by omega) (by omega)) (cwV 3 hwd (gV wk_1230 wk_1239 wk_1228 wk_1229 wk_54) rfl rfl rfl (by decide +kernel) ⟨Nat.le_of_ble_eq_true rfl, Nat.le_of_ble_eq_true rfl⟩) ⟨PX.blind, va_recv hK hP (ci := 1) (q0 := 11) rfl rfl, fun U hU hW => ⟨rfl, PX.at hK hE hP hS hU hW⟩⟩ rfl rfl hl.1 rfl (lv_room (Nat.le_of_ble_eq_true rfl)) dX11_costs_95 ⟨Nat.le_of_ble_eq_true rfl, Nat.le_of_ble_eq_true rfl⟩) hS (fun q _ h => (freeX hS) q h) (freeX hS) (fun r2807 u t H1 locs ht hvm hw hB hz1 hk1 hS => ?_)
              unfold BX at hB
              rw [ht] at hB
              have hP : va_P (dC, dI) classes (wX g c v2802 F2803 rc) H1 := hB
              generalize H1 = H at hP hS ⊢
              have rr_r2807 := i32_rng r2807
              have hP9 : va_P (dC, dI) classes (wX g c v2802 F2803 rc) H := hP
              exact W.iret (v := r2807) hx hb hr (fun t ht hW => ⟨⟨r2807, (v2802, F2803, rc), rfl, ⟨hI, hal, rfl, (frC (by decide) hf2804 (fun _ _ => rfl)), trivial⟩, (by show va_P _ _ _ t.heap; rw [ht]; exact hP9)⟩, hS.F ht⟩) hS.2.2 dX11_costs_98
            · skip
              have t2808 := cv_eq (a := p1.toInt) rfl (b := (-1)) (by decide) c2805
              refine lv_aload_n hx hb dX11_costs_76 rfl (lv_at hl 0 rfl) ?_
              refine va_get (D := (dC, dI)) (ci := 11) (v := .ref (g 11)) (C := RX11) (T := TX11) (N := 14) hx hb hwd inA_X11 hown hK hP 0 rfl rfl 10 (by decide) (hwd _ wk_55) (fun _ h9 => h9) rfl dX11_costs_77 ?_
              refine lv_iload_n hx hb dX11_costs_80 rfl (lv_at hl 1 rfl) ?_
              refine lv_iload_n hx hb dX11_costs_81 rfl (lv_at hl 3 rfl) ?_
              refine va_calli (va_runV (As := [.int p0, .int p2]) (rest := []) ⟨hx, hb, hml, hown, hwd⟩ (c_X1_priceOf l dC dI g c adK adV v2802 F2803 rc H.size p0 p2 hg hI (by omega)) (cwV 2 hwd (gV wk_1225 wk_1222 wk_1223 wk_1224 wk_54) rfl rfl rfl (by decide +kernel) ⟨Nat.le_of_ble_eq_true rfl, Nat.le_of_ble_eq_true rfl⟩) ⟨PX.blind, va_recv hK hP (ci := 1) (q0 := 11) rfl rfl, fun U hU hW => ⟨rfl, PX.at hK hE hP hS hU hW⟩⟩ rfl rfl hl.1 rfl (lv_room (Nat.le_of_ble_eq_true rfl)) dX11_costs_82 ⟨Nat.le_of_ble_eq_true rfl, Nat.le_of_ble_eq_true rfl⟩) hS (fun q _ h => (freeX hS) q h) (freeX hS) (fun r2809 u t H1 locs ht hvm hw hB hz1 hk1 hS => ?_)
              unfold BX at hB
              rw [ht] at hB
              have hP : va_P (dC, dI) classes (wX g c v2802 F2803 rc) H1 := hB
              generalize H1 = H at hP hS ⊢
              have rr_r2809 := i32_rng r2809
              refine lv_goto (tgt := 98) hx hb dX11_costs_85 (by decide) ?_
              have hP9 : va_P (dC, dI) classes (wX g c v2802 F2803 rc) H := hP
              exact W.iret (v := r2809) hx hb hr (fun t ht hW => ⟨⟨r2809, (v2802, F2803, rc), rfl, ⟨hI, hal, rfl, (frC (by decide) hf2804 (fun _ _ => rfl)), trivial⟩, (by show va_P _ _ _ t.heap; rw [ht]; exact hP9)⟩, hS.F ht⟩) hS.2.2 dX11_costs_98
          · skip
            have t2810 := cv_ne (a := p1.toInt) rfl (b := (-1)) (by decide) c2799
            refine lv_aload_n hx hb dX11_costs_45 rfl (lv_at hl 0 rfl) ?_
            refine va_get (D := (dC, dI)) (ci := 11) (v := .ref (g 9)) (C := RX11) (T := TX11) (N := 14) hx hb hwd inA_X11 hown hK hP 0 rfl rfl 8 (by decide) (hwd _ wk_47) (fun _ h9 => h9) rfl dX11_costs_46 ?_
            refine lv_iload_n hx hb dX11_costs_49 rfl (lv_at hl 1 rfl) ?_
            refine lv_iload_n hx hb dX11_costs_50 rfl (lv_at hl 2 rfl) ?_
            refine va_calli (va_runV (As := [.int p0, .int p1]) (rest := []) ⟨hx, hb, hml, hown, hwd⟩ (c_X0_hasLine l dC dI g c adK adV v F rc H.size p0 p1 hg hI (by omega)) (cwV 2 hwd (gV wk_1146 wk_1143 wk_1144 wk_1145 wk_46) rfl rfl rfl (by decide +kernel) ⟨Nat.le_of_ble_eq_true rfl, Nat.le_of_ble_eq_true rfl⟩) ⟨PX.blind, va_recv hK hP (ci := 0) (q0 := 9) rfl rfl, fun U hU hW => ⟨rfl, PX.at hK hE hP hS hU hW⟩⟩ rfl rfl hl.1 rfl (lv_room (Nat.le_of_ble_eq_true rfl)) dX11_costs_51 ⟨Nat.le_of_ble_eq_true rfl, Nat.le_of_ble_eq_true rfl⟩) hS (fun q _ h => (freeX hS) q h) (freeX hS) (fun r2811 u t H1 locs ht hvm hw hB hz1 hk1 hS => ?_)
            unfold BX at hB
            rw [ht] at hB
            have hP : va_P (dC, dI) classes (wX g c v F rc) H1 := hB
            have hw : (0 ≤ r2811.toInt ∧ r2811.toInt ≤ 1) ∧ (r2811.toInt = 1 → 0 ≤ p1.toInt ∧ p1.toInt ≤ 29) := hw
            generalize H1 = H at hP hS ⊢
            have hw_r2811 := hw
            refine lv_if_ne (tgt := 60) hx hb dX11_costs_54 (by decide) (fun c2812 => ?_) (fun c2812 => ?_)
            · skip
              have t2813 := cv_ne (a := r2811.toInt) rfl (b := 0) (by decide) c2812
              refine lv_aload_n hx hb dX11_costs_60 rfl (lv_at hl 0 rfl) ?_
              refine va_get (D := (dC, dI)) (ci := 11) (v := .ref (g 11)) (C := RX11) (T := TX11) (N := 14) hx hb hwd inA_X11 hown hK hP 0 rfl rfl 10 (by decide) (hwd _ wk_55) (fun _ h9 => h9) rfl dX11_costs_61 ?_
              refine lv_iload_n hx hb dX11_costs_64 rfl (lv_at hl 1 rfl) ?_
              refine lv_iconst (v := (-1)) hx hb dX11_costs_65 (by decide) ?_
              refine lv_iload hx hb dX11_costs_66 (lv_at hl 4 rfl) ?_
              refine va_callv (va_runV (As := [.int p0, .int (-1), .int p3]) (rest := []) ⟨hx, hb, hml, hown, hwd⟩ (c_X1_survey l dC dI g c adK adV v F rc H.size p0 (-1) p3 hg hI ) (cwV 3 hwd (gV wk_1150 wk_1147 wk_1148 wk_1149 wk_54) rfl rfl rfl (by decide +kernel) ⟨Nat.le_of_ble_eq_true rfl, Nat.le_of_ble_eq_true rfl⟩) ⟨PX.blind, va_recv hK hP (ci := 1) (q0 := 11) rfl rfl, fun U hU hW => ⟨rfl, PX.at hK hE hP hS hU hW⟩⟩ rfl rfl hl.1 rfl (lv_room (Nat.le_of_ble_eq_true rfl)) dX11_costs_68 ⟨Nat.le_of_ble_eq_true rfl, Nat.le_of_ble_eq_true rfl⟩) hS (fun q _ h => (freeX hS) q h) (freeX hS) (fun u t H1 locs ht hvm hw hB hz1 hk1 hS => ?_)
              unfold BX at hB
              rw [ht] at hB
              obtain ⟨v2815, F2816, rc9⟩ := u
              obtain ⟨hI, hal9, hrc, hf2817, hw⟩ := hw
              dsimp only at hI hal9 hrc hB hf2817 hw
              rw [hrc] at hB
              have hal := hal9.trans hal
              have hP : va_P (dC, dI) classes (wX g c v2815 F2816 rc) H1 := hB
              generalize H1 = H at hP hS ⊢
              refine lv_iload_n hx hb dX11_costs_71 rfl (lv_at hl 2 rfl) ?_
              refine lv_iconst (v := (-1)) hx hb dX11_costs_72 (by decide) ?_
              refine lv_icmp_ne (tgt := 88) hx hb dX11_costs_73 (by decide) (fun c2818 => ?_) (fun c2818 => ?_)
              · skip
                have t2819 := cv_ne (a := p1.toInt) rfl (b := (-1)) (by decide) c2818
                refine lv_aload_n hx hb dX11_costs_88 rfl (lv_at hl 0 rfl) ?_
                refine va_get (D := (dC, dI)) (ci := 11) (v := .ref (g 11)) (C := RX11) (T := TX11) (N := 14) hx hb hwd inA_X11 hown hK hP 0 rfl rfl 10 (by decide) (hwd _ wk_55) (fun _ h9 => h9) rfl dX11_costs_89 ?_
                refine lv_iload_n hx hb dX11_costs_92 rfl (lv_at hl 1 rfl) ?_
                refine lv_iload_n hx hb dX11_costs_93 rfl (lv_at hl 2 rfl) ?_
                refine lv_iload_n hx hb dX11_costs_94 rfl (lv_at hl 3 rfl) ?_
                refine va_calli (va_runV (As := [.int p0, .int p1, .int p2]) (rest := []) ⟨hx, hb, hml, hown, hwd⟩ (c_X1_linePrice l dC dI g c adK adV v2815 F2816 rc H.size p0 p1 p2 hg hI (by omega) (by omega)) (cwV 3 hwd (gV wk_1230 wk_1239 wk_1228 wk_1229 wk_54) rfl rfl rfl (by decide +kernel) ⟨Nat.le_of_ble_eq_true rfl, Nat.le_of_ble_eq_true rfl⟩) ⟨PX.blind, va_recv hK hP (ci := 1) (q0 := 11) rfl rfl, fun U hU hW => ⟨rfl, PX.at hK hE hP hS hU hW⟩⟩ rfl rfl hl.1 rfl (lv_room (Nat.le_of_ble_eq_true rfl)) dX11_costs_95 ⟨Nat.le_of_ble_eq_true rfl, Nat.le_of_ble_eq_true rfl⟩) hS (fun q _ h => (freeX hS) q h) (freeX hS) (fun r2820 u t H1 locs ht hvm hw hB hz1 hk1 hS => ?_)
                unfold BX at hB
                rw [ht] at hB
                have hP : va_P (dC, dI) classes (wX g c v2815 F2816 rc) H1 := hB
                generalize H1 = H at hP hS ⊢
                have rr_r2820 := i32_rng r2820
                have hP9 : va_P (dC, dI) classes (wX g c v2815 F2816 rc) H := hP
                exact W.iret (v := r2820) hx hb hr (fun t ht hW => ⟨⟨r2820, (v2815, F2816, rc), rfl, ⟨hI, hal, rfl, (frC (by decide) hf2817 (fun _ _ => rfl)), trivial⟩, (by show va_P _ _ _ t.heap; rw [ht]; exact hP9)⟩, hS.F ht⟩) hS.2.2 dX11_costs_98
              · skip
                have t2821 := cv_eq (a := p1.toInt) rfl (b := (-1)) (by decide) c2818
                refine lv_aload_n hx hb dX11_costs_76 rfl (lv_at hl 0 rfl) ?_
                refine va_get (D := (dC, dI)) (ci := 11) (v := .ref (g 11)) (C := RX11) (T := TX11) (N := 14) hx hb hwd inA_X11 hown hK hP 0 rfl rfl 10 (by decide) (hwd _ wk_55) (fun _ h9 => h9) rfl dX11_costs_77 ?_
                refine lv_iload_n hx hb dX11_costs_80 rfl (lv_at hl 1 rfl) ?_
                refine lv_iload_n hx hb dX11_costs_81 rfl (lv_at hl 3 rfl) ?_
                refine va_calli (va_runV (As := [.int p0, .int p2]) (rest := []) ⟨hx, hb, hml, hown, hwd⟩ (c_X1_priceOf l dC dI g c adK adV v2815 F2816 rc H.size p0 p2 hg hI (by omega)) (cwV 2 hwd (gV wk_1225 wk_1222 wk_1223 wk_1224 wk_54) rfl rfl rfl (by decide +kernel) ⟨Nat.le_of_ble_eq_true rfl, Nat.le_of_ble_eq_true rfl⟩) ⟨PX.blind, va_recv hK hP (ci := 1) (q0 := 11) rfl rfl, fun U hU hW => ⟨rfl, PX.at hK hE hP hS hU hW⟩⟩ rfl rfl hl.1 rfl (lv_room (Nat.le_of_ble_eq_true rfl)) dX11_costs_82 ⟨Nat.le_of_ble_eq_true rfl, Nat.le_of_ble_eq_true rfl⟩) hS (fun q _ h => (freeX hS) q h) (freeX hS) (fun r2822 u t H1 locs ht hvm hw hB hz1 hk1 hS => ?_)
                unfold BX at hB
                rw [ht] at hB
                have hP : va_P (dC, dI) classes (wX g c v2815 F2816 rc) H1 := hB
                generalize H1 = H at hP hS ⊢
                have rr_r2822 := i32_rng r2822
                refine lv_goto (tgt := 98) hx hb dX11_costs_85 (by decide) ?_
                have hP9 : va_P (dC, dI) classes (wX g c v2815 F2816 rc) H := hP
                exact W.iret (v := r2822) hx hb hr (fun t ht hW => ⟨⟨r2822, (v2815, F2816, rc), rfl, ⟨hI, hal, rfl, (frC (by decide) hf2817 (fun _ _ => rfl)), trivial⟩, (by show va_P _ _ _ t.heap; rw [ht]; exact hP9)⟩, hS.F ht⟩) hS.2.2 dX11_costs_98
            · skip
              have t2823 := cv_eq (a := r2811.toInt) rfl (b := 0) (by decide) c2812
              refine lv_ldc (v := (-2000000000)) hx hb hown (hwd _ wk_56) dX11_costs_57 ?_
              have hP9 : va_P (dC, dI) classes (wX g c v F rc) H := hP
              exact W.iret (v := (-2000000000)) hx hb hr (fun t ht hW => ⟨⟨(-2000000000), (v, F, rc), rfl, ⟨hI, hal, rfl, (fun _ _ => rfl), trivial⟩, (by show va_P _ _ _ t.heap; rw [ht]; exact hP9)⟩, hS.F ht⟩) hS.2.2 dX11_costs_59
        · skip
          have t2824 := cv_eq (a := r2796.toInt) rfl (b := 0) (by decide) c2797
          refine lv_ldc (v := (-2000000000)) hx hb hown (hwd _ wk_56) dX11_costs_37 ?_
          have hP9 : va_P (dC, dI) classes (wX g c v F rc) H := hP
          exact W.iret (v := (-2000000000)) hx hb hr (fun t ht hW => ⟨⟨(-2000000000), (v, F, rc), rfl, ⟨hI, hal, rfl, (fun _ _ => rfl), trivial⟩, (by show va_P _ _ _ t.heap; rw [ht]; exact hP9)⟩, hS.F ht⟩) hS.2.2 dX11_costs_39
set_option maxHeartbeats 8000000 in
set_option maxRecDepth 100000 in
theorem c_X11_giveBack (l : Launch) (dC : Nat → ClassId) (dI : Nat → Nat → Nat) (g : Nat → Nat) (c : Nat → ClassId) (adK adV : Nat → Nat) (v : Nat → Int32) (F : Nat → Nat → Int32) (rc sz : Nat) (p0 : Int32) (hg : injX g) (hI : IX v F) : Met l yX11_giveBack (Cond.code yX11_giveBack cX11_giveBack 3 (some .int) :: wA) ({ frames := 8, cells := 0, slots := 0, locals := 320 }) (va_Pc [.ref (g 0), .int p0] (PX dC dI g c adK adV v F rc sz)) (va_Qi (fun (r : Int32) (u : StX) => IX u.1 u.2.1 ∧ alX u.1 u.2.1 = alX v F ∧ u.2.2 = rc ∧ (∀ k, k ∉ ([126, 229] : List Nat) → u.1 k = v k) ∧ True) (BX dC dI g c) (AX g sz)) 0 0 (AX g sz) := by
  refine Met.ofW (cc := cX11_giveBack) (maxL := 3) (ret := (some .int)) (by decide) rfl ?_
  intro p e s m args below meth c0 s₁ B hml hv
  obtain ⟨rfl, hsz, hP, hK, hE⟩ := hv
  have hx := B.exec
  have hb := B.bytes
  have hr := B.returns
  have hts := atoms_spec (ws := Cond.code yX11_giveBack cX11_giveBack 3 (some .int) :: wA) B.pre
  have hwd : ∀ w ∈ wA, w.before _ s = true := fun w h => hts w (List.mem_cons_of_mem _ h)
  have hown : s.vm.findClass RX11 = some m.cls := findClass_of_methodNamed B.named
  have hlocks := B.notSynchronized
  subst hsz
  have hl := lv_entry ([.ref (g 0), .int p0]) (n := 3) (Nat.le_of_ble_eq_true rfl)
  rw [lg_entry_eq]
  generalize (lg_sl ([.ref (g 0), .int p0]) ++ List.replicate (3 - (lg_sl ([.ref (g 0), .int p0])).length) Slot.unset).toArray = ls at hl ⊢
  have hl : lv_has ls 3 [(0, .ref (g 0)), (1, .int p0)] := hl
  obtain ⟨H, eH⟩ : ∃ z, z = s.heap := ⟨_, rfl⟩
  have hP : va_P (dC, dI) classes (wX g c v F rc) H := by rw [eH]; exact hP
  have hS : va_S (AX g s.heap.size) s.heap H [] := by rw [eH]; exact va_S.rf
  refine my_heap eH ?_
  have hal : alX v F = alX v F := rfl
  have rp0 := i32_rng p0
  refine lv_aload_n hx hb dX11_giveBack_0 rfl (lv_at hl 0 rfl) ?_
  refine va_get (D := (dC, dI)) (ci := 11) (v := .ref (g 2)) (C := RX11) (T := TX11) (N := 14) hx hb hwd inA_X11 hown hK hP 0 rfl rfl 1 (by decide) (hwd _ wk_19) (fun _ h9 => h9) rfl dX11_giveBack_1 ?_
  refine lv_iload_n hx hb dX11_giveBack_4 rfl (lv_at hl 1 rfl) ?_
  refine va_calli (va_runV (As := [.int p0]) (rest := []) ⟨hx, hb, hml, hown, hwd⟩ (c_X8_has l dC dI g c adK adV v F rc H.size p0 hg hI ) (cwV 1 hwd (gV wk_276 wk_273 wk_274 wk_275 wk_18) rfl rfl rfl (by decide +kernel) ⟨Nat.le_of_ble_eq_true rfl, Nat.le_of_ble_eq_true rfl⟩) ⟨PX.blind, va_recv hK hP (ci := 8) (q0 := 2) rfl rfl, fun U hU hW => ⟨rfl, PX.at hK hE hP hS hU hW⟩⟩ rfl rfl hl.1 rfl (lv_room (Nat.le_of_ble_eq_true rfl)) dX11_giveBack_5 ⟨Nat.le_of_ble_eq_true rfl, Nat.le_of_ble_eq_true rfl⟩) hS (fun q _ h => (freeX hS) q h) (freeX hS) (fun r2825 u t H1 locs ht hvm hw hB hz1 hk1 hS => ?_)
  unfold BX at hB
  rw [ht] at hB
  have hP : va_P (dC, dI) classes (wX g c v F rc) H1 := hB
  have hw : (0 ≤ r2825.toInt ∧ r2825.toInt ≤ 1) ∧ (r2825.toInt = 1 → 0 ≤ p0.toInt ∧ p0.toInt < 10) := hw
  generalize H1 = H at hP hS ⊢
  have hw_r2825 := hw
  refine lv_if_ne (tgt := 13) hx hb dX11_giveBack_8 (by decide) (fun c2826 => ?_) (fun c2826 => ?_)
  · skip
    have t2827 := cv_ne (a := r2825.toInt) rfl (b := 0) (by decide) c2826
    refine lv_aload_n hx hb dX11_giveBack_13 rfl (lv_at hl 0 rfl) ?_
    refine va_get (D := (dC, dI)) (ci := 11) (v := .ref (g 2)) (C := RX11) (T := TX11) (N := 14) hx hb hwd inA_X11 hown hK hP 0 rfl rfl 1 (by decide) (hwd _ wk_19) (fun _ h9 => h9) rfl dX11_giveBack_14 ?_
    refine lv_iload_n hx hb dX11_giveBack_17 rfl (lv_at hl 1 rfl) ?_
    refine va_calli (va_runV (As := [.int p0]) (rest := []) ⟨hx, hb, hml, hown, hwd⟩ (c_X8_isBack l dC dI g c adK adV v F rc H.size p0 hg hI (by omega)) (cwV 1 hwd (gV wk_284 wk_281 wk_282 wk_283 wk_18) rfl rfl rfl (by decide +kernel) ⟨Nat.le_of_ble_eq_true rfl, Nat.le_of_ble_eq_true rfl⟩) ⟨PX.blind, va_recv hK hP (ci := 8) (q0 := 2) rfl rfl, fun U hU hW => ⟨rfl, PX.at hK hE hP hS hU hW⟩⟩ rfl rfl hl.1 rfl (lv_room (Nat.le_of_ble_eq_true rfl)) dX11_giveBack_18 ⟨Nat.le_of_ble_eq_true rfl, Nat.le_of_ble_eq_true rfl⟩) hS (fun q _ h => (freeX hS) q h) (freeX hS) (fun r2828 u t H1 locs ht hvm hw hB hz1 hk1 hS => ?_)
    unfold BX at hB
    rw [ht] at hB
    have hP : va_P (dC, dI) classes (wX g c v F rc) H1 := hB
    have hw : 0 ≤ r2828.toInt ∧ r2828.toInt ≤ 1 := hw
    generalize H1 = H at hP hS ⊢
    have hw_r2828 := hw
    refine lv_if_ne (tgt := 35) hx hb dX11_giveBack_21 (by decide) (fun c2829 => ?_) (fun c2829 => ?_)
    · skip
      have t2830 := cv_ne (a := r2828.toInt) rfl (b := 0) (by decide) c2829
      refine lv_bipush (v := (-2)) hx hb dX11_giveBack_35 (by decide) ?_
      have hP9 : va_P (dC, dI) classes (wX g c v F rc) H := hP
      exact W.iret (v := (-2)) hx hb hr (fun t ht hW => ⟨⟨(-2), (v, F, rc), rfl, ⟨hI, hal, rfl, (fun _ _ => rfl), trivial⟩, (by show va_P _ _ _ t.heap; rw [ht]; exact hP9)⟩, hS.F ht⟩) hS.2.2 dX11_giveBack_37
    · skip
      have t2831 := cv_eq (a := r2828.toInt) rfl (b := 0) (by decide) c2829
      refine lv_aload_n hx hb dX11_giveBack_24 rfl (lv_at hl 0 rfl) ?_
      refine va_get (D := (dC, dI)) (ci := 11) (v := .ref (g 9)) (C := RX11) (T := TX11) (N := 14) hx hb hwd inA_X11 hown hK hP 0 rfl rfl 8 (by decide) (hwd _ wk_47) (fun _ h9 => h9) rfl dX11_giveBack_25 ?_
      refine lv_iload_n hx hb dX11_giveBack_28 rfl (lv_at hl 1 rfl) ?_
      refine va_calli (va_runV (As := [.int p0]) (rest := []) ⟨hx, hb, hml, hown, hwd⟩ (c_X0_isSigned l dC dI g c adK adV v F rc H.size p0 hg hI (by omega)) (cwV 1 hwd (gV wk_1221 wk_1218 wk_1219 wk_1220 wk_46) rfl rfl rfl (by decide +kernel) ⟨Nat.le_of_ble_eq_true rfl, Nat.le_of_ble_eq_true rfl⟩) ⟨PX.blind, va_recv hK hP (ci := 0) (q0 := 9) rfl rfl, fun U hU hW => ⟨rfl, PX.at hK hE hP hS hU hW⟩⟩ rfl rfl hl.1 rfl (lv_room (Nat.le_of_ble_eq_true rfl)) dX11_giveBack_29 ⟨Nat.le_of_ble_eq_true rfl, Nat.le_of_ble_eq_true rfl⟩) hS (fun q _ h => (freeX hS) q h) (freeX hS) (fun r2832 u t H1 locs ht hvm hw hB hz1 hk1 hS => ?_)
      unfold BX at hB
      rw [ht] at hB
      have hP : va_P (dC, dI) classes (wX g c v F rc) H1 := hB
      have hw : 0 ≤ r2832.toInt ∧ r2832.toInt ≤ 1 := hw
      generalize H1 = H at hP hS ⊢
      have hw_r2832 := hw
      refine lv_if_ne (tgt := 38) hx hb dX11_giveBack_32 (by decide) (fun c2833 => ?_) (fun c2833 => ?_)
      · skip
        have t2834 := cv_ne (a := r2832.toInt) rfl (b := 0) (by decide) c2833
        refine lv_aload_n hx hb dX11_giveBack_38 rfl (lv_at hl 0 rfl) ?_
        refine va_get (D := (dC, dI)) (ci := 11) (v := .ref (g 11)) (C := RX11) (T := TX11) (N := 14) hx hb hwd inA_X11 hown hK hP 0 rfl rfl 10 (by decide) (hwd _ wk_55) (fun _ h9 => h9) rfl dX11_giveBack_39 ?_
        refine lv_iload_n hx hb dX11_giveBack_42 rfl (lv_at hl 1 rfl) ?_
        refine lv_iconst (v := (-1)) hx hb dX11_giveBack_43 (by decide) ?_
        refine lv_aload_n hx hb dX11_giveBack_44 rfl (lv_at hl 0 rfl) ?_
        refine va_get (D := (dC, dI)) (ci := 11) (v := .int (v 11)) (C := RX11) (T := TX11) (N := 14) hx hb hwd inA_X11 hown hK hP 0 rfl rfl 11 (by decide) (hwd _ wk_323) (fun _ h9 => h9) rfl dX11_giveBack_45 ?_
        have t2835 : 0 ≤ (v 11).toInt ∧ (v 11).toInt ≤ 9999 := hI.1 11 _ _ rfl
        refine va_callv (va_runV (As := [.int p0, .int (-1), .int (v 11)]) (rest := []) ⟨hx, hb, hml, hown, hwd⟩ (c_X1_survey l dC dI g c adK adV v F rc H.size p0 (-1) (v 11) hg hI ) (cwV 3 hwd (gV wk_1150 wk_1147 wk_1148 wk_1149 wk_54) rfl rfl rfl (by decide +kernel) ⟨Nat.le_of_ble_eq_true rfl, Nat.le_of_ble_eq_true rfl⟩) ⟨PX.blind, va_recv hK hP (ci := 1) (q0 := 11) rfl rfl, fun U hU hW => ⟨rfl, PX.at hK hE hP hS hU hW⟩⟩ rfl rfl hl.1 rfl (lv_room (Nat.le_of_ble_eq_true rfl)) dX11_giveBack_48 ⟨Nat.le_of_ble_eq_true rfl, Nat.le_of_ble_eq_true rfl⟩) hS (fun q _ h => (freeX hS) q h) (freeX hS) (fun u t H1 locs ht hvm hw hB hz1 hk1 hS => ?_)
        unfold BX at hB
        rw [ht] at hB
        obtain ⟨v2837, F2838, rc9⟩ := u
        obtain ⟨hI, hal9, hrc, hf2839, hw⟩ := hw
        dsimp only at hI hal9 hrc hB hf2839 hw
        rw [hrc] at hB
        have hal := hal9.trans hal
        have hP : va_P (dC, dI) classes (wX g c v2837 F2838 rc) H1 := hB
        generalize H1 = H at hP hS ⊢
        refine lv_aload_n hx hb dX11_giveBack_51 rfl (lv_at hl 0 rfl) ?_
        refine va_get (D := (dC, dI)) (ci := 11) (v := .ref (g 11)) (C := RX11) (T := TX11) (N := 14) hx hb hwd inA_X11 hown hK hP 0 rfl rfl 10 (by decide) (hwd _ wk_55) (fun _ h9 => h9) rfl dX11_giveBack_52 ?_
        refine lv_iload_n hx hb dX11_giveBack_55 rfl (lv_at hl 1 rfl) ?_
        refine lv_aload_n hx hb dX11_giveBack_56 rfl (lv_at hl 0 rfl) ?_
        refine va_get (D := (dC, dI)) (ci := 11) (v := .int (v2837 11)) (C := RX11) (T := TX11) (N := 14) hx hb hwd inA_X11 hown hK hP 0 rfl rfl 11 (by decide) (hwd _ wk_323) (fun _ h9 => h9) rfl dX11_giveBack_57 ?_
        refine my_top (v := v 11) (hf2839 11 (by decide)) ?_
        have t2840 : 0 ≤ (v 11).toInt ∧ (v 11).toInt ≤ 9999 := by have h9 := hI.1 11 _ _ rfl; rw [show v2837 11 = v 11 from hf2839 11 (by decide)] at h9; exact h9
        refine va_calli (va_runV (As := [.int p0, .int (v 11)]) (rest := []) ⟨hx, hb, hml, hown, hwd⟩ (c_X1_priceOf l dC dI g c adK adV v2837 F2838 rc H.size p0 (v 11) hg hI (by omega)) (cwV 2 hwd (gV wk_1225 wk_1222 wk_1223 wk_1224 wk_54) rfl rfl rfl (by decide +kernel) ⟨Nat.le_of_ble_eq_true rfl, Nat.le_of_ble_eq_true rfl⟩) ⟨PX.blind, va_recv hK hP (ci := 1) (q0 := 11) rfl rfl, fun U hU hW => ⟨rfl, PX.at hK hE hP hS hU hW⟩⟩ rfl rfl hl.1 rfl (lv_room (Nat.le_of_ble_eq_true rfl)) dX11_giveBack_60 ⟨Nat.le_of_ble_eq_true rfl, Nat.le_of_ble_eq_true rfl⟩) hS (fun q _ h => (freeX hS) q h) (freeX hS) (fun r2841 u t H1 locs ht hvm hw hB hz1 hk1 hS => ?_)
        unfold BX at hB
        rw [ht] at hB
        have hP : va_P (dC, dI) classes (wX g c v2837 F2838 rc) H1 := hB
        generalize H1 = H at hP hS ⊢
        have rr_r2841 := i32_rng r2841
        refine lv_istore_n (lv' := [(2, .int r2841), (0, .ref (g 0)), (1, .int p0)]) hx hb dX11_giveBack_63 rfl hl (by decide) rfl (fun ls hl => ?_)
        refine lv_aload_n hx hb dX11_giveBack_64 rfl (lv_at hl 1 rfl) ?_
        refine va_get (D := (dC, dI)) (ci := 11) (v := .ref (g 2)) (C := RX11) (T := TX11) (N := 14) hx hb hwd inA_X11 hown hK hP 0 rfl rfl 1 (by decide) (hwd _ wk_19) (fun _ h9 => h9) rfl dX11_giveBack_65 ?_
        refine lv_iload_n hx hb dX11_giveBack_68 rfl (lv_at hl 2 rfl) ?_
        refine lv_iload_n hx hb dX11_giveBack_69 rfl (lv_at hl 0 rfl) ?_
        refine lv_aload_n hx hb dX11_giveBack_70 rfl (lv_at hl 1 rfl) ?_
        refine va_get (D := (dC, dI)) (ci := 11) (v := .int (v2837 11)) (C := RX11) (T := TX11) (N := 14) hx hb hwd inA_X11 hown hK hP 0 rfl rfl 11 (by decide) (hwd _ wk_323) (fun _ h9 => h9) rfl dX11_giveBack_71 ?_
        refine my_top (v := v 11) (hf2839 11 (by decide)) ?_
        have t2842 : 0 ≤ (v 11).toInt ∧ (v 11).toInt ≤ 9999 := by have h9 := hI.1 11 _ _ rfl; rw [show v2837 11 = v 11 from hf2839 11 (by decide)] at h9; exact h9
        refine va_callv (va_runV (As := [.int p0, .int r2841, .int (v 11)]) (rest := []) ⟨hx, hb, hml, hown, hwd⟩ (c_X8_close l dC dI g c adK adV v2837 F2838 rc H.size p0 r2841 (v 11) hg hI (by omega)) (cwV 3 hwd (gV wk_1259 wk_1256 wk_1257 wk_1258 wk_18) rfl rfl rfl (by decide +kernel) ⟨Nat.le_of_ble_eq_true rfl, Nat.le_of_ble_eq_true rfl⟩) ⟨PX.blind, va_recv hK hP (ci := 8) (q0 := 2) rfl rfl, fun U hU hW => ⟨rfl, PX.at hK hE hP hS hU hW⟩⟩ rfl rfl hl.1 rfl (lv_room (Nat.le_of_ble_eq_true rfl)) dX11_giveBack_74 ⟨Nat.le_of_ble_eq_true rfl, Nat.le_of_ble_eq_true rfl⟩) hS (fun q _ h => (freeX hS) q h) (freeX hS) (fun u t H1 locs ht hvm hw hB hz1 hk1 hS => ?_)
        unfold BX at hB
        rw [ht] at hB
        obtain ⟨v2844, F2845, rc9⟩ := u
        obtain ⟨hI, hal9, hrc, hf2846, hw⟩ := hw
        dsimp only at hI hal9 hrc hB hf2846 hw
        rw [hrc] at hB
        have hal := hal9.trans hal
        have hP : va_P (dC, dI) classes (wX g c v2844 F2845 rc) H1 := hB
        generalize H1 = H at hP hS ⊢
        refine lv_aload_n hx hb dX11_giveBack_77 rfl (lv_at hl 1 rfl) ?_
        refine va_get (D := (dC, dI)) (ci := 11) (v := .ref (g 3)) (C := RX11) (T := TX11) (N := 14) hx hb hwd inA_X11 hown hK hP 0 rfl rfl 2 (by decide) (hwd _ wk_27) (fun _ h9 => h9) rfl dX11_giveBack_78 ?_
        refine lv_iload_n hx hb dX11_giveBack_81 rfl (lv_at hl 2 rfl) ?_
        refine lv_aload_n hx hb dX11_giveBack_82 rfl (lv_at hl 1 rfl) ?_
        refine va_get (D := (dC, dI)) (ci := 11) (v := .int (v2844 11)) (C := RX11) (T := TX11) (N := 14) hx hb hwd inA_X11 hown hK hP 0 rfl rfl 11 (by decide) (hwd _ wk_323) (fun _ h9 => h9) rfl dX11_giveBack_83 ?_
        refine my_top (v := v 11) ((hf2846 11 (by decide)).trans (hf2839 11 (by decide))) ?_
        have t2847 : 0 ≤ (v 11).toInt ∧ (v 11).toInt ≤ 9999 := by have h9 := hI.1 11 _ _ rfl; rw [show v2844 11 = v 11 from (hf2846 11 (by decide)).trans (hf2839 11 (by decide))] at h9; exact h9
        refine va_callv (va_runV (As := [.int p0, .int (v 11)]) (rest := []) ⟨hx, hb, hml, hown, hwd⟩ (c_X7_leaveWith l dC dI g c adK adV v2844 F2845 rc H.size p0 (v 11) hg hI ) (cwV 2 hwd (gV wk_1263 wk_1260 wk_1261 wk_1262 wk_26) rfl rfl rfl (by decide +kernel) ⟨Nat.le_of_ble_eq_true rfl, Nat.le_of_ble_eq_true rfl⟩) ⟨PX.blind, va_recv hK hP (ci := 7) (q0 := 3) rfl rfl, fun U hU hW => ⟨rfl, PX.at hK hE hP hS hU hW⟩⟩ rfl rfl hl.1 rfl (lv_room (Nat.le_of_ble_eq_true rfl)) dX11_giveBack_86 ⟨Nat.le_of_ble_eq_true rfl, Nat.le_of_ble_eq_true rfl⟩) hS (fun q _ h => (freeX hS) q h) (freeX hS) (fun u t H1 locs ht hvm hw hB hz1 hk1 hS => ?_)
        unfold BX at hB
        rw [ht] at hB
        obtain ⟨v2849, F2850, rc9⟩ := u
        obtain ⟨hI, hal9, hrc, hf2851, hw⟩ := hw
        dsimp only at hI hal9 hrc hB hf2851 hw
        rw [hrc] at hB
        have hal := hal9.trans hal
        have hP : va_P (dC, dI) classes (wX g c v2849 F2850 rc) H1 := hB
        generalize H1 = H at hP hS ⊢
        refine lv_iload_n hx hb dX11_giveBack_89 rfl (lv_at hl 0 rfl) ?_
        have hP9 : va_P (dC, dI) classes (wX g c v2849 F2850 rc) H := hP
        exact W.iret (v := r2841) hx hb hr (fun t ht hW => ⟨⟨r2841, (v2849, F2850, rc), rfl, ⟨hI, hal, rfl, (frC (by decide) hf2851 (frC (by decide) hf2846 (frC (by decide) hf2839 (fun _ _ => rfl)))), trivial⟩, (by show va_P _ _ _ t.heap; rw [ht]; exact hP9)⟩, hS.F ht⟩) hS.2.2 dX11_giveBack_90
      · skip
        have t2852 := cv_eq (a := r2832.toInt) rfl (b := 0) (by decide) c2833
        refine lv_bipush (v := (-2)) hx hb dX11_giveBack_35 (by decide) ?_
        have hP9 : va_P (dC, dI) classes (wX g c v F rc) H := hP
        exact W.iret (v := (-2)) hx hb hr (fun t ht hW => ⟨⟨(-2), (v, F, rc), rfl, ⟨hI, hal, rfl, (fun _ _ => rfl), trivial⟩, (by show va_P _ _ _ t.heap; rw [ht]; exact hP9)⟩, hS.F ht⟩) hS.2.2 dX11_giveBack_37
  · skip
    have t2853 := cv_eq (a := r2825.toInt) rfl (b := 0) (by decide) c2826
    refine lv_iconst (v := (-1)) hx hb dX11_giveBack_11 (by decide) ?_
    have hP9 : va_P (dC, dI) classes (wX g c v F rc) H := hP
    exact W.iret (v := (-1)) hx hb hr (fun t ht hW => ⟨⟨(-1), (v, F, rc), rfl, ⟨hI, hal, rfl, (fun _ _ => rfl), trivial⟩, (by show va_P _ _ _ t.heap; rw [ht]; exact hP9)⟩, hS.F ht⟩) hS.2.2 dX11_giveBack_12
set_option maxHeartbeats 8000000 in
set_option maxRecDepth 100000 in
theorem c_X11_bestCost (l : Launch) (dC : Nat → ClassId) (dI : Nat → Nat → Nat) (g : Nat → Nat) (c : Nat → ClassId) (adK adV : Nat → Nat) (v : Nat → Int32) (F : Nat → Nat → Int32) (rc sz : Nat) (hg : injX g) (hI : IX v F) : Met l yX11_bestCost (Cond.code yX11_bestCost cX11_bestCost 1 (some .int) :: wA) ({ frames := 1, cells := 0, slots := 0, locals := 40 }) (va_Pc [.ref (g 0)] (PX dC dI g c adK adV v F rc sz)) (va_Qi (fun (r : Int32) (u : Unit) => True) (fun (_ : Unit) => BX dC dI g c (v, F, rc)) (AX g sz)) 0 0 (AX g sz) := by
  refine Met.ofW (cc := cX11_bestCost) (maxL := 1) (ret := (some .int)) (by decide) rfl ?_
  intro p e s m args below meth c0 s₁ B hml hv
  obtain ⟨rfl, hsz, hP, hK, hE⟩ := hv
  have hx := B.exec
  have hb := B.bytes
  have hr := B.returns
  have hts := atoms_spec (ws := Cond.code yX11_bestCost cX11_bestCost 1 (some .int) :: wA) B.pre
  have hwd : ∀ w ∈ wA, w.before _ s = true := fun w h => hts w (List.mem_cons_of_mem _ h)
  have hown : s.vm.findClass RX11 = some m.cls := findClass_of_methodNamed B.named
  have hlocks := B.notSynchronized
  subst hsz
  have hl := lv_entry ([.ref (g 0)]) (n := 1) (Nat.le_of_ble_eq_true rfl)
  rw [lg_entry_eq]
  generalize (lg_sl ([.ref (g 0)]) ++ List.replicate (1 - (lg_sl ([.ref (g 0)])).length) Slot.unset).toArray = ls at hl ⊢
  have hl : lv_has ls 1 [(0, .ref (g 0))] := hl
  obtain ⟨H, eH⟩ : ∃ z, z = s.heap := ⟨_, rfl⟩
  have hP : va_P (dC, dI) classes (wX g c v F rc) H := by rw [eH]; exact hP
  have hS : va_S (AX g s.heap.size) s.heap H [] := by rw [eH]; exact va_S.rf
  refine my_heap eH ?_
  refine lv_aload_n hx hb dX11_bestCost_0 rfl (lv_at hl 0 rfl) ?_
  refine va_get (D := (dC, dI)) (ci := 11) (v := .int (v 13)) (C := RX11) (T := TX11) (N := 14) hx hb hwd inA_X11 hown hK hP 0 rfl rfl 13 (by decide) (hwd _ wk_57) (fun _ h9 => h9) rfl dX11_bestCost_1 ?_
  have hP9 : va_P (dC, dI) classes (wX g c v F rc) H := hP
  exact W.iret (v := v 13) hx hb hr (fun t ht hW => ⟨⟨(v 13), (), rfl, trivial, (by show va_P _ _ _ t.heap; rw [ht]; exact hP9)⟩, hS.F ht⟩) hS.2.2 dX11_bestCost_4
set_option maxHeartbeats 8000000 in
set_option maxRecDepth 100000 in
theorem c_X11_reserve (l : Launch) (dC : Nat → ClassId) (dI : Nat → Nat → Nat) (g : Nat → Nat) (c : Nat → ClassId) (adK adV : Nat → Nat) (v : Nat → Int32) (F : Nat → Nat → Int32) (rc sz : Nat) (p0 : Int32) (p1 : Int32) (hg : injX g) (hI : IX v F) : Met l yX11_reserve (Cond.code yX11_reserve cX11_reserve 3 (some .int) :: wA) ({ frames := 2, cells := 0, slots := 0, locals := 80 }) (va_Pc [.ref (g 0), .int p0, .int p1] (PX dC dI g c adK adV v F rc sz)) (va_Qi (fun (r : Int32) (u : Unit) => True) (fun (_ : Unit) => BX dC dI g c (v, F, rc)) (AX g sz)) 0 0 (AX g sz) := by
  refine Met.ofW (cc := cX11_reserve) (maxL := 3) (ret := (some .int)) (by decide) rfl ?_
  intro p e s m args below meth c0 s₁ B hml hv
  obtain ⟨rfl, hsz, hP, hK, hE⟩ := hv
  have hx := B.exec
  have hb := B.bytes
  have hr := B.returns
  have hts := atoms_spec (ws := Cond.code yX11_reserve cX11_reserve 3 (some .int) :: wA) B.pre
  have hwd : ∀ w ∈ wA, w.before _ s = true := fun w h => hts w (List.mem_cons_of_mem _ h)
  have hown : s.vm.findClass RX11 = some m.cls := findClass_of_methodNamed B.named
  have hlocks := B.notSynchronized
  subst hsz
  have hl := lv_entry ([.ref (g 0), .int p0, .int p1]) (n := 3) (Nat.le_of_ble_eq_true rfl)
  rw [lg_entry_eq]
  generalize (lg_sl ([.ref (g 0), .int p0, .int p1]) ++ List.replicate (3 - (lg_sl ([.ref (g 0), .int p0, .int p1])).length) Slot.unset).toArray = ls at hl ⊢
  have hl : lv_has ls 3 [(0, .ref (g 0)), (1, .int p0), (2, .int p1)] := hl
  obtain ⟨H, eH⟩ : ∃ z, z = s.heap := ⟨_, rfl⟩
  have hP : va_P (dC, dI) classes (wX g c v F rc) H := by rw [eH]; exact hP
  have hS : va_S (AX g s.heap.size) s.heap H [] := by rw [eH]; exact va_S.rf
  refine my_heap eH ?_
  have rp0 := i32_rng p0
  have rp1 := i32_rng p1
  refine lv_aload_n hx hb dX11_reserve_0 rfl (lv_at hl 0 rfl) ?_
  refine va_get (D := (dC, dI)) (ci := 11) (v := .ref (g 2)) (C := RX11) (T := TX11) (N := 14) hx hb hwd inA_X11 hown hK hP 0 rfl rfl 1 (by decide) (hwd _ wk_19) (fun _ h9 => h9) rfl dX11_reserve_1 ?_
  refine lv_iload_n hx hb dX11_reserve_4 rfl (lv_at hl 1 rfl) ?_
  refine va_calli (va_runV (As := [.int p0]) (rest := []) ⟨hx, hb, hml, hown, hwd⟩ (c_X8_has l dC dI g c adK adV v F rc H.size p0 hg hI ) (cwV 1 hwd (gV wk_276 wk_273 wk_274 wk_275 wk_18) rfl rfl rfl (by decide +kernel) ⟨Nat.le_of_ble_eq_true rfl, Nat.le_of_ble_eq_true rfl⟩) ⟨PX.blind, va_recv hK hP (ci := 8) (q0 := 2) rfl rfl, fun U hU hW => ⟨rfl, PX.at hK hE hP hS hU hW⟩⟩ rfl rfl hl.1 rfl (lv_room (Nat.le_of_ble_eq_true rfl)) dX11_reserve_5 ⟨Nat.le_of_ble_eq_true rfl, Nat.le_of_ble_eq_true rfl⟩) hS (fun q _ h => (freeX hS) q h) (freeX hS) (fun r2854 u t H1 locs ht hvm hw hB hz1 hk1 hS => ?_)
  unfold BX at hB
  rw [ht] at hB
  have hP : va_P (dC, dI) classes (wX g c v F rc) H1 := hB
  have hw : (0 ≤ r2854.toInt ∧ r2854.toInt ≤ 1) ∧ (r2854.toInt = 1 → 0 ≤ p0.toInt ∧ p0.toInt < 10) := hw
  generalize H1 = H at hP hS ⊢
  have hw_r2854 := hw
  refine lv_if_eq (tgt := 22) hx hb dX11_reserve_8 (by decide) (fun c2855 => ?_) (fun c2855 => ?_)
  · skip
    have t2856 := cv_eq (a := r2854.toInt) rfl (b := 0) (by decide) c2855
    refine lv_iconst (v := (-1)) hx hb dX11_reserve_22 (by decide) ?_
    have hP9 : va_P (dC, dI) classes (wX g c v F rc) H := hP
    exact W.iret (v := (-1)) hx hb hr (fun t ht hW => ⟨⟨(-1), (), rfl, trivial, (by show va_P _ _ _ t.heap; rw [ht]; exact hP9)⟩, hS.F ht⟩) hS.2.2 dX11_reserve_23
  · skip
    have t2857 := cv_ne (a := r2854.toInt) rfl (b := 0) (by decide) c2855
    refine lv_aload_n hx hb dX11_reserve_11 rfl (lv_at hl 0 rfl) ?_
    refine va_get (D := (dC, dI)) (ci := 11) (v := .ref (g 1)) (C := RX11) (T := TX11) (N := 14) hx hb hwd inA_X11 hown hK hP 0 rfl rfl 0 (by decide) (hwd _ wk_15) (fun _ h9 => h9) rfl dX11_reserve_12 ?_
    refine lv_iload_n hx hb dX11_reserve_15 rfl (lv_at hl 2 rfl) ?_
    refine va_calli (va_runV (As := [.int p1]) (rest := []) ⟨hx, hb, hml, hown, hwd⟩ (c_X2_has l dC dI g c adK adV v F rc H.size p1 hg hI ) (cwV 1 hwd (gV wk_280 wk_277 wk_278 wk_279 wk_14) rfl rfl rfl (by decide +kernel) ⟨Nat.le_of_ble_eq_true rfl, Nat.le_of_ble_eq_true rfl⟩) ⟨PX.blind, va_recv hK hP (ci := 2) (q0 := 1) rfl rfl, fun U hU hW => ⟨rfl, PX.at hK hE hP hS hU hW⟩⟩ rfl rfl hl.1 rfl (lv_room (Nat.le_of_ble_eq_true rfl)) dX11_reserve_16 ⟨Nat.le_of_ble_eq_true rfl, Nat.le_of_ble_eq_true rfl⟩) hS (fun q _ h => (freeX hS) q h) (freeX hS) (fun r2858 u t H1 locs ht hvm hw hB hz1 hk1 hS => ?_)
    unfold BX at hB
    rw [ht] at hB
    have hP : va_P (dC, dI) classes (wX g c v F rc) H1 := hB
    have hw : (0 ≤ r2858.toInt ∧ r2858.toInt ≤ 1) ∧ (r2858.toInt = 1 → 0 ≤ p1.toInt ∧ p1.toInt < 10) := hw
    generalize H1 = H at hP hS ⊢
    have hw_r2858 := hw
    refine lv_if_ne (tgt := 24) hx hb dX11_reserve_19 (by decide) (fun c2859 => ?_) (fun c2859 => ?_)
    · skip
      have t2860 := cv_ne (a := r2858.toInt) rfl (b := 0) (by decide) c2859
      refine lv_aload_n hx hb dX11_reserve_24 rfl (lv_at hl 0 rfl) ?_
      refine va_get (D := (dC, dI)) (ci := 11) (v := .ref (g 2)) (C := RX11) (T := TX11) (N := 14) hx hb hwd inA_X11 hown hK hP 0 rfl rfl 1 (by decide) (hwd _ wk_19) (fun _ h9 => h9) rfl dX11_reserve_25 ?_
      refine lv_iload_n hx hb dX11_reserve_28 rfl (lv_at hl 1 rfl) ?_
      refine lv_iload_n hx hb dX11_reserve_29 rfl (lv_at hl 2 rfl) ?_
      refine va_calli (va_runV (As := [.int p0, .int p1]) (rest := []) ⟨hx, hb, hml, hown, hwd⟩ (c_X8_savedFor l dC dI g c adK adV v F rc H.size p0 p1 hg hI (by omega) (by omega)) (cwV 2 hwd (gV wk_466 wk_1321 wk_464 wk_465 wk_18) rfl rfl rfl (by decide +kernel) ⟨Nat.le_of_ble_eq_true rfl, Nat.le_of_ble_eq_true rfl⟩) ⟨PX.blind, va_recv hK hP (ci := 8) (q0 := 2) rfl rfl, fun U hU hW => ⟨rfl, PX.at hK hE hP hS hU hW⟩⟩ rfl rfl hl.1 rfl (lv_room (Nat.le_of_ble_eq_true rfl)) dX11_reserve_30 ⟨Nat.le_of_ble_eq_true rfl, Nat.le_of_ble_eq_true rfl⟩) hS (fun q _ h => (freeX hS) q h) (freeX hS) (fun r2861 u t H1 locs ht hvm hw hB hz1 hk1 hS => ?_)
      unfold BX at hB
      rw [ht] at hB
      have hP : va_P (dC, dI) classes (wX g c v F rc) H1 := hB
      generalize H1 = H at hP hS ⊢
      have rr_r2861 := i32_rng r2861
      have hP9 : va_P (dC, dI) classes (wX g c v F rc) H := hP
      exact W.iret (v := r2861) hx hb hr (fun t ht hW => ⟨⟨r2861, (), rfl, trivial, (by show va_P _ _ _ t.heap; rw [ht]; exact hP9)⟩, hS.F ht⟩) hS.2.2 dX11_reserve_33
    · skip
      have t2862 := cv_eq (a := r2858.toInt) rfl (b := 0) (by decide) c2859
      refine lv_iconst (v := (-1)) hx hb dX11_reserve_22 (by decide) ?_
      have hP9 : va_P (dC, dI) classes (wX g c v F rc) H := hP
      exact W.iret (v := (-1)) hx hb hr (fun t ht hW => ⟨⟨(-1), (), rfl, trivial, (by show va_P _ _ _ t.heap; rw [ht]; exact hP9)⟩, hS.F ht⟩) hS.2.2 dX11_reserve_23
set_option maxHeartbeats 8000000 in
set_option maxRecDepth 100000 in
theorem c_X11_claim (l : Launch) (dC : Nat → ClassId) (dI : Nat → Nat → Nat) (g : Nat → Nat) (c : Nat → ClassId) (adK adV : Nat → Nat) (v : Nat → Int32) (F : Nat → Nat → Int32) (rc sz : Nat) (p0 : Int32) (p1 : Int32) (hg : injX g) (hI : IX v F) : Met l yX11_claim (Cond.code yX11_claim cX11_claim 5 (some .int) :: wA) ({ frames := 3, cells := 0, slots := 0, locals := 120 }) (va_Pc [.ref (g 0), .int p0, .int p1] (PX dC dI g c adK adV v F rc sz)) (va_Qi (fun (r : Int32) (u : StX) => IX u.1 u.2.1 ∧ alX u.1 u.2.1 = alX v F ∧ u.2.2 = rc ∧ (∀ k, k ∉ ([12] : List Nat) → u.1 k = v k) ∧ True) (BX dC dI g c) (AX g sz)) 0 0 (AX g sz) := by
  refine Met.ofW (cc := cX11_claim) (maxL := 5) (ret := (some .int)) (by decide) rfl ?_
  intro p e s m args below meth c0 s₁ B hml hv
  obtain ⟨rfl, hsz, hP, hK, hE⟩ := hv
  have hx := B.exec
  have hb := B.bytes
  have hr := B.returns
  have hts := atoms_spec (ws := Cond.code yX11_claim cX11_claim 5 (some .int) :: wA) B.pre
  have hwd : ∀ w ∈ wA, w.before _ s = true := fun w h => hts w (List.mem_cons_of_mem _ h)
  have hown : s.vm.findClass RX11 = some m.cls := findClass_of_methodNamed B.named
  have hlocks := B.notSynchronized
  subst hsz
  have hl := lv_entry ([.ref (g 0), .int p0, .int p1]) (n := 5) (Nat.le_of_ble_eq_true rfl)
  rw [lg_entry_eq]
  generalize (lg_sl ([.ref (g 0), .int p0, .int p1]) ++ List.replicate (5 - (lg_sl ([.ref (g 0), .int p0, .int p1])).length) Slot.unset).toArray = ls at hl ⊢
  have hl : lv_has ls 5 [(0, .ref (g 0)), (1, .int p0), (2, .int p1)] := hl
  obtain ⟨H, eH⟩ : ∃ z, z = s.heap := ⟨_, rfl⟩
  have hP : va_P (dC, dI) classes (wX g c v F rc) H := by rw [eH]; exact hP
  have hS : va_S (AX g s.heap.size) s.heap H [] := by rw [eH]; exact va_S.rf
  refine my_heap eH ?_
  have hal : alX v F = alX v F := rfl
  have rp0 := i32_rng p0
  have rp1 := i32_rng p1
  refine lv_aload_n hx hb dX11_claim_0 rfl (lv_at hl 0 rfl) ?_
  refine va_get (D := (dC, dI)) (ci := 11) (v := .ref (g 3)) (C := RX11) (T := TX11) (N := 14) hx hb hwd inA_X11 hown hK hP 0 rfl rfl 2 (by decide) (hwd _ wk_27) (fun _ h9 => h9) rfl dX11_claim_1 ?_
  refine lv_iload_n hx hb dX11_claim_4 rfl (lv_at hl 1 rfl) ?_
  refine va_calli (va_runV (As := [.int p0]) (rest := []) ⟨hx, hb, hml, hown, hwd⟩ (c_X7_has l dC dI g c adK adV v F rc H.size p0 hg hI ) (cwV 1 hwd (gV wk_605 wk_602 wk_603 wk_604 wk_26) rfl rfl rfl (by decide +kernel) ⟨Nat.le_of_ble_eq_true rfl, Nat.le_of_ble_eq_true rfl⟩) ⟨PX.blind, va_recv hK hP (ci := 7) (q0 := 3) rfl rfl, fun U hU hW => ⟨rfl, PX.at hK hE hP hS hU hW⟩⟩ rfl rfl hl.1 rfl (lv_room (Nat.le_of_ble_eq_true rfl)) dX11_claim_5 ⟨Nat.le_of_ble_eq_true rfl, Nat.le_of_ble_eq_true rfl⟩) hS (fun q _ h => (freeX hS) q h) (freeX hS) (fun r2863 u t H1 locs ht hvm hw hB hz1 hk1 hS => ?_)
  unfold BX at hB
  rw [ht] at hB
  have hP : va_P (dC, dI) classes (wX g c v F rc) H1 := hB
  have hw : (0 ≤ r2863.toInt ∧ r2863.toInt ≤ 1) ∧ (r2863.toInt = 1 → 0 ≤ p0.toInt ∧ p0.toInt < 100) := hw
  generalize H1 = H at hP hS ⊢
  have hw_r2863 := hw
  refine lv_if_eq (tgt := 21) hx hb dX11_claim_8 (by decide) (fun c2864 => ?_) (fun c2864 => ?_)
  · skip
    have t2865 := cv_eq (a := r2863.toInt) rfl (b := 0) (by decide) c2864
    refine lv_iconst (v := (-1)) hx hb dX11_claim_21 (by decide) ?_
    have hP9 : va_P (dC, dI) classes (wX g c v F rc) H := hP
    exact W.iret (v := (-1)) hx hb hr (fun t ht hW => ⟨⟨(-1), (v, F, rc), rfl, ⟨hI, hal, rfl, (fun _ _ => rfl), trivial⟩, (by show va_P _ _ _ t.heap; rw [ht]; exact hP9)⟩, hS.F ht⟩) hS.2.2 dX11_claim_22
  · skip
    have t2866 := cv_ne (a := r2863.toInt) rfl (b := 0) (by decide) c2864
    refine lv_iload_n hx hb dX11_claim_11 rfl (lv_at hl 2 rfl) ?_
    refine lv_iconst (v := 1) hx hb dX11_claim_12 (by decide) ?_
    refine lv_ldc (v := 999999) hx hb hown (hwd _ wk_232) dX11_claim_13 ?_
    refine va_calli (va_runS (As := [.int p1, .int 1, .int 999999]) (rest := []) ⟨hx, hb, hml, hown, hwd⟩ (c_X11_within l dC dI g c adK adV v F rc H.size p1 1 999999 hg hI ) (va_cwS 3 hwd (gT wk_239 wk_237 wk_238 wk_2) rfl rfl rfl (by decide +kernel) ⟨Nat.le_of_ble_eq_true rfl, Nat.le_of_ble_eq_true rfl⟩) ⟨PX.blind, fun U hU hW => ⟨rfl, PX.at hK hE hP hS hU hW⟩⟩ rfl rfl hl.1 rfl (lv_room (Nat.le_of_ble_eq_true rfl)) dX11_claim_15 ⟨Nat.le_of_ble_eq_true rfl, Nat.le_of_ble_eq_true rfl⟩) hS (fun q _ h => (freeX hS) q h) (freeX hS) (fun r2867 u t H1 locs ht hvm hw hB hz1 hk1 hS => ?_)
    unfold BX at hB
    rw [ht] at hB
    have hP : va_P (dC, dI) classes (wX g c v F rc) H1 := hB
    have hw : (r2867.toInt = 1 ∧ (1 : Int32).toInt ≤ p1.toInt ∧ p1.toInt ≤ (999999 : Int32).toInt) ∨ (r2867.toInt = 0 ∧ (p1.toInt < (1 : Int32).toInt ∨ (999999 : Int32).toInt < p1.toInt)) := hw
    have k2868 : (1 : Int32).toInt = 1 := by decide
    have k2869 : (999999 : Int32).toInt = 999999 := by decide
    generalize H1 = H at hP hS ⊢
    have hw_r2867 := hw
    refine lv_if_ne (tgt := 23) hx hb dX11_claim_18 (by decide) (fun c2870 => ?_) (fun c2870 => ?_)
    · skip
      have t2871 := cv_ne (a := r2867.toInt) rfl (b := 0) (by decide) c2870
      refine lv_aload_n hx hb dX11_claim_23 rfl (lv_at hl 0 rfl) ?_
      refine va_get (D := (dC, dI)) (ci := 11) (v := .ref (g 3)) (C := RX11) (T := TX11) (N := 14) hx hb hwd inA_X11 hown hK hP 0 rfl rfl 2 (by decide) (hwd _ wk_27) (fun _ h9 => h9) rfl dX11_claim_24 ?_
      refine va_get (D := (dC, dI)) (ci := 7) (v := .ref (g 26)) (C := RX7) (T := TX7) (N := 7) hx hb hwd inA_X7 hown hK hP 3 rfl rfl 4 (by decide) (hwd _ wk_600) (fun _ h9 => h9) rfl dX11_claim_27 ?_
      refine lv_iload_n hx hb dX11_claim_30 rfl (lv_at hl 1 rfl) ?_
      refine va_iald hx hb hK hP 26 14 rfl rfl (i := p0) (vin (a := p0.toInt) rfl (by omega)) dX11_claim_31 ?_
      refine lv_topi (fun z2872 e2873 => ?_)
      refine lv_bipush (v := 10) hx hb dX11_claim_32 (by decide) ?_
      refine lv_icmp_ne (tgt := 48) hx hb dX11_claim_34 (by decide) (fun c2874 => ?_) (fun c2874 => ?_)
      · skip
        have t2875 := cv_ne (a := z2872.toInt) rfl (b := 10) (by decide) c2874
        refine lv_iconst (v := (-1)) hx hb dX11_claim_48 (by decide) ?_
        refine lv_istore_n (lv' := [(3, .int (-1)), (0, .ref (g 0)), (1, .int p0), (2, .int p1)]) hx hb dX11_claim_49 rfl hl (by decide) rfl (fun ls hl => ?_)
        refine lv_aload_n hx hb dX11_claim_50 rfl (lv_at hl 1 rfl) ?_
        refine va_get (D := (dC, dI)) (ci := 11) (v := .ref (g 2)) (C := RX11) (T := TX11) (N := 14) hx hb hwd inA_X11 hown hK hP 0 rfl rfl 1 (by decide) (hwd _ wk_19) (fun _ h9 => h9) rfl dX11_claim_51 ?_
        refine lv_iload_n hx hb dX11_claim_54 rfl (lv_at hl 0 rfl) ?_
        refine va_calli (va_runV (As := [.int (-1)]) (rest := []) ⟨hx, hb, hml, hown, hwd⟩ (c_X8_has l dC dI g c adK adV v F rc H.size (-1) hg hI ) (cwV 1 hwd (gV wk_276 wk_273 wk_274 wk_275 wk_18) rfl rfl rfl (by decide +kernel) ⟨Nat.le_of_ble_eq_true rfl, Nat.le_of_ble_eq_true rfl⟩) ⟨PX.blind, va_recv hK hP (ci := 8) (q0 := 2) rfl rfl, fun U hU hW => ⟨rfl, PX.at hK hE hP hS hU hW⟩⟩ rfl rfl hl.1 rfl (lv_room (Nat.le_of_ble_eq_true rfl)) dX11_claim_55 ⟨Nat.le_of_ble_eq_true rfl, Nat.le_of_ble_eq_true rfl⟩) hS (fun q _ h => (freeX hS) q h) (freeX hS) (fun r2876 u t H1 locs ht hvm hw hB hz1 hk1 hS => ?_)
        unfold BX at hB
        rw [ht] at hB
        have hP : va_P (dC, dI) classes (wX g c v F rc) H1 := hB
        have hw : (0 ≤ r2876.toInt ∧ r2876.toInt ≤ 1) ∧ (r2876.toInt = 1 → 0 ≤ ((-1) : Int32).toInt ∧ ((-1) : Int32).toInt < 10) := hw
        have k2877 : ((-1) : Int32).toInt = (-1) := by decide
        generalize H1 = H at hP hS ⊢
        have hw_r2876 := hw
        refine lv_if_ne (tgt := 64) hx hb dX11_claim_58 (by decide) (fun c2878 => ?_) (fun c2878 => ?_)
        · skip
          have t2879 := cv_ne (a := r2876.toInt) rfl (b := 0) (by decide) c2878
          refine lv_aload_n hx hb dX11_claim_64 rfl (lv_at hl 1 rfl) ?_
          refine va_get (D := (dC, dI)) (ci := 11) (v := .ref (g 2)) (C := RX11) (T := TX11) (N := 14) hx hb hwd inA_X11 hown hK hP 0 rfl rfl 1 (by decide) (hwd _ wk_19) (fun _ h9 => h9) rfl dX11_claim_65 ?_
          refine lv_iload_n hx hb dX11_claim_68 rfl (lv_at hl 0 rfl) ?_
          refine lv_aload_n hx hb dX11_claim_69 rfl (lv_at hl 1 rfl) ?_
          refine va_get (D := (dC, dI)) (ci := 11) (v := .ref (g 3)) (C := RX11) (T := TX11) (N := 14) hx hb hwd inA_X11 hown hK hP 0 rfl rfl 2 (by decide) (hwd _ wk_27) (fun _ h9 => h9) rfl dX11_claim_70 ?_
          refine va_get (D := (dC, dI)) (ci := 7) (v := .ref (g 24)) (C := RX7) (T := TX7) (N := 7) hx hb hwd inA_X7 hown hK hP 3 rfl rfl 2 (by decide) (hwd _ wk_601) (fun _ h9 => h9) rfl dX11_claim_73 ?_
          refine lv_iload_n hx hb dX11_claim_76 rfl (lv_at hl 2 rfl) ?_
          refine va_iald hx hb hK hP 24 12 rfl rfl (i := p0) (vin (a := p0.toInt) rfl (by omega)) dX11_claim_77 ?_
          refine lv_topi (fun z2880 e2881 => ?_)
          have t2882 : 0 ≤ z2880.toInt ∧ z2880.toInt ≤ 9 := by rw [e2881]; exact hI.2 24 _ _ rfl _
          refine lv_iload_n hx hb dX11_claim_78 rfl (lv_at hl 3 rfl) ?_
          refine va_calli (va_runV (As := [.int (-1), .int z2880, .int p1]) (rest := []) ⟨hx, hb, hml, hown, hwd⟩ (c_X8_payOut l dC dI g c adK adV v F rc H.size (-1) z2880 p1 hg hI (by have : ((-1) : Int32).toInt = (-1) := (by decide); omega) (by omega)) (cwV 3 hwd (gV wk_1342 wk_1339 wk_1340 wk_1341 wk_18) rfl rfl rfl (by decide +kernel) ⟨Nat.le_of_ble_eq_true rfl, Nat.le_of_ble_eq_true rfl⟩) ⟨PX.blind, va_recv hK hP (ci := 8) (q0 := 2) rfl rfl, fun U hU hW => ⟨rfl, PX.at hK hE hP hS hU hW⟩⟩ rfl rfl hl.1 rfl (lv_room (Nat.le_of_ble_eq_true rfl)) dX11_claim_79 ⟨Nat.le_of_ble_eq_true rfl, Nat.le_of_ble_eq_true rfl⟩) hS (fun q _ h => (freeX hS) q h) (freeX hS) (fun r2883 u t H1 locs ht hvm hw hB hz1 hk1 hS => ?_)
          unfold BX at hB
          rw [ht] at hB
          obtain ⟨v2884, F2885, rc9⟩ := u
          obtain ⟨hI, hal9, hrc, hf2886, hw⟩ := hw
          dsimp only at hI hal9 hrc hB hf2886 hw
          rw [hrc] at hB
          have hal := hal9.trans hal
          have hP : va_P (dC, dI) classes (wX g c v2884 F2885 rc) H1 := hB
          generalize H1 = H at hP hS ⊢
          have rr_r2883 := i32_rng r2883
          refine lv_istore (lv' := [(4, .int r2883), (3, .int (-1)), (0, .ref (g 0)), (1, .int p0), (2, .int p1)]) hx hb dX11_claim_82 hl (by decide) rfl (fun ls hl => ?_)
          refine lv_aload_n hx hb dX11_claim_84 rfl (lv_at hl 2 rfl) ?_
          refine lv_dup hx hb dX11_claim_85 rfl ?_
          refine va_get (D := (dC, dI)) (ci := 11) (v := .int (v2884 12)) (C := RX11) (T := TX11) (N := 14) hx hb hwd inA_X11 hown hK hP 0 rfl rfl 12 (by decide) (hwd _ wk_1330) (fun _ h9 => h9) rfl dX11_claim_86 ?_
          refine my_top (v := v 12) (hf2886 12 (by decide)) ?_
          refine lv_iload hx hb dX11_claim_89 (lv_at hl 0 rfl) ?_
          refine lv_iadd hx hb dX11_claim_91 ?_
          refine lv_topi (fun z2887 e2888 => ?_)
          try (have t2889 := tadd e2888 (a := (v 12).toInt) rfl (b := r2883.toInt) rfl (by omega))
          refine va_put (D := (dC, dI)) (ci := 11) (v := .int z2887) (ty := .int) (C := RX11) (T := TX11) (N := 14) (fs := fsX_0 g v2884 rc) hx hb hwd inA_X11 tyX11 tyX11_ok nmX11 hown hK hP (DX hg) hS 0 rfl rfl 12 (by decide) (hwd _ wk_1330) (fun _ h9 => h9) rfl (by decide +kernel) rfl rfl (Nat.le_of_ble_eq_true rfl) dX11_claim_92 (fun H locs hP _ hS => ?_)
          have hP := va_P_eq (pX_12 g c _ _ _ _) hP
          have hI := IX.put0 hI 12 z2887 rfl
          have hal := (alX_v _ _ 12 z2887 (by decide) (by decide) (by decide) (by decide)).trans hal
          refine lv_iload hx hb dX11_claim_95 (lv_at hl 0 rfl) ?_
          have hP9 : va_P (dC, dI) classes (wX g c (va_up v2884 12 z2887) F2885 rc) H := hP
          exact W.iret (v := r2883) hx hb hr (fun t ht hW => ⟨⟨r2883, ((va_up v2884 12 z2887), F2885, rc), rfl, ⟨hI, hal, rfl, (frU (by decide) (frC (by decide) hf2886 (fun _ _ => rfl))), trivial⟩, (by show va_P _ _ _ t.heap; rw [ht]; exact hP9)⟩, hS.F ht⟩) hS.2.2 dX11_claim_97
        · skip
          have t2890 := cv_eq (a := r2876.toInt) rfl (b := 0) (by decide) c2878
          refine lv_bipush (v := (-2)) hx hb dX11_claim_61 (by decide) ?_
          have hP9 : va_P (dC, dI) classes (wX g c v F rc) H := hP
          exact W.iret (v := (-2)) hx hb hr (fun t ht hW => ⟨⟨(-2), (v, F, rc), rfl, ⟨hI, hal, rfl, (fun _ _ => rfl), trivial⟩, (by show va_P _ _ _ t.heap; rw [ht]; exact hP9)⟩, hS.F ht⟩) hS.2.2 dX11_claim_63
      · skip
        have t2891 := cv_eq (a := z2872.toInt) rfl (b := 10) (by decide) c2874
        refine lv_aload_n hx hb dX11_claim_37 rfl (lv_at hl 0 rfl) ?_
        refine va_get (D := (dC, dI)) (ci := 11) (v := .ref (g 3)) (C := RX11) (T := TX11) (N := 14) hx hb hwd inA_X11 hown hK hP 0 rfl rfl 2 (by decide) (hwd _ wk_27) (fun _ h9 => h9) rfl dX11_claim_38 ?_
        refine lv_iload_n hx hb dX11_claim_41 rfl (lv_at hl 1 rfl) ?_
        refine va_calli (va_runV (As := [.int p0]) (rest := []) ⟨hx, hb, hml, hown, hwd⟩ (c_X7_placeAhead l dC dI g c adK adV v F rc H.size p0 hg hI (by omega)) (cwV 1 hwd (gV wk_1334 wk_1331 wk_1332 wk_1333 wk_26) rfl rfl rfl (by decide +kernel) ⟨Nat.le_of_ble_eq_true rfl, Nat.le_of_ble_eq_true rfl⟩) ⟨PX.blind, va_recv hK hP (ci := 7) (q0 := 3) rfl rfl, fun U hU hW => ⟨rfl, PX.at hK hE hP hS hU hW⟩⟩ rfl rfl hl.1 rfl (lv_room (Nat.le_of_ble_eq_true rfl)) dX11_claim_42 ⟨Nat.le_of_ble_eq_true rfl, Nat.le_of_ble_eq_true rfl⟩) hS (fun q _ h => (freeX hS) q h) (freeX hS) (fun r2892 u t H1 locs ht hvm hw hB hz1 hk1 hS => ?_)
        unfold BX at hB
        rw [ht] at hB
        have hP : va_P (dC, dI) classes (wX g c v F rc) H1 := hB
        generalize H1 = H at hP hS ⊢
        have rr_r2892 := i32_rng r2892
        refine lv_goto (tgt := 49) hx hb dX11_claim_45 (by decide) ?_
        refine lv_istore_n (lv' := [(3, .int r2892), (0, .ref (g 0)), (1, .int p0), (2, .int p1)]) hx hb dX11_claim_49 rfl hl (by decide) rfl (fun ls hl => ?_)
        refine lv_aload_n hx hb dX11_claim_50 rfl (lv_at hl 1 rfl) ?_
        refine va_get (D := (dC, dI)) (ci := 11) (v := .ref (g 2)) (C := RX11) (T := TX11) (N := 14) hx hb hwd inA_X11 hown hK hP 0 rfl rfl 1 (by decide) (hwd _ wk_19) (fun _ h9 => h9) rfl dX11_claim_51 ?_
        refine lv_iload_n hx hb dX11_claim_54 rfl (lv_at hl 0 rfl) ?_
        refine va_calli (va_runV (As := [.int r2892]) (rest := []) ⟨hx, hb, hml, hown, hwd⟩ (c_X8_has l dC dI g c adK adV v F rc H.size r2892 hg hI ) (cwV 1 hwd (gV wk_276 wk_273 wk_274 wk_275 wk_18) rfl rfl rfl (by decide +kernel) ⟨Nat.le_of_ble_eq_true rfl, Nat.le_of_ble_eq_true rfl⟩) ⟨PX.blind, va_recv hK hP (ci := 8) (q0 := 2) rfl rfl, fun U hU hW => ⟨rfl, PX.at hK hE hP hS hU hW⟩⟩ rfl rfl hl.1 rfl (lv_room (Nat.le_of_ble_eq_true rfl)) dX11_claim_55 ⟨Nat.le_of_ble_eq_true rfl, Nat.le_of_ble_eq_true rfl⟩) hS (fun q _ h => (freeX hS) q h) (freeX hS) (fun r2893 u t H1 locs ht hvm hw hB hz1 hk1 hS => ?_)
        unfold BX at hB
        rw [ht] at hB
        have hP : va_P (dC, dI) classes (wX g c v F rc) H1 := hB
        have hw : (0 ≤ r2893.toInt ∧ r2893.toInt ≤ 1) ∧ (r2893.toInt = 1 → 0 ≤ r2892.toInt ∧ r2892.toInt < 10) := hw
        generalize H1 = H at hP hS ⊢
        have hw_r2893 := hw
        refine lv_if_ne (tgt := 64) hx hb dX11_claim_58 (by decide) (fun c2894 => ?_) (fun c2894 => ?_)
        · skip
          have t2895 := cv_ne (a := r2893.toInt) rfl (b := 0) (by decide) c2894
          refine lv_aload_n hx hb dX11_claim_64 rfl (lv_at hl 1 rfl) ?_
          refine va_get (D := (dC, dI)) (ci := 11) (v := .ref (g 2)) (C := RX11) (T := TX11) (N := 14) hx hb hwd inA_X11 hown hK hP 0 rfl rfl 1 (by decide) (hwd _ wk_19) (fun _ h9 => h9) rfl dX11_claim_65 ?_
          refine lv_iload_n hx hb dX11_claim_68 rfl (lv_at hl 0 rfl) ?_
          refine lv_aload_n hx hb dX11_claim_69 rfl (lv_at hl 1 rfl) ?_
          refine va_get (D := (dC, dI)) (ci := 11) (v := .ref (g 3)) (C := RX11) (T := TX11) (N := 14) hx hb hwd inA_X11 hown hK hP 0 rfl rfl 2 (by decide) (hwd _ wk_27) (fun _ h9 => h9) rfl dX11_claim_70 ?_
          refine va_get (D := (dC, dI)) (ci := 7) (v := .ref (g 24)) (C := RX7) (T := TX7) (N := 7) hx hb hwd inA_X7 hown hK hP 3 rfl rfl 2 (by decide) (hwd _ wk_601) (fun _ h9 => h9) rfl dX11_claim_73 ?_
          refine lv_iload_n hx hb dX11_claim_76 rfl (lv_at hl 2 rfl) ?_
          refine va_iald hx hb hK hP 24 12 rfl rfl (i := p0) (vin (a := p0.toInt) rfl (by omega)) dX11_claim_77 ?_
          refine lv_topi (fun z2896 e2897 => ?_)
          have t2898 : 0 ≤ z2896.toInt ∧ z2896.toInt ≤ 9 := by rw [e2897]; exact hI.2 24 _ _ rfl _
          refine lv_iload_n hx hb dX11_claim_78 rfl (lv_at hl 3 rfl) ?_
          refine va_calli (va_runV (As := [.int r2892, .int z2896, .int p1]) (rest := []) ⟨hx, hb, hml, hown, hwd⟩ (c_X8_payOut l dC dI g c adK adV v F rc H.size r2892 z2896 p1 hg hI (by omega) (by omega)) (cwV 3 hwd (gV wk_1342 wk_1339 wk_1340 wk_1341 wk_18) rfl rfl rfl (by decide +kernel) ⟨Nat.le_of_ble_eq_true rfl, Nat.le_of_ble_eq_true rfl⟩) ⟨PX.blind, va_recv hK hP (ci := 8) (q0 := 2) rfl rfl, fun U hU hW => ⟨rfl, PX.at hK hE hP hS hU hW⟩⟩ rfl rfl hl.1 rfl (lv_room (Nat.le_of_ble_eq_true rfl)) dX11_claim_79 ⟨Nat.le_of_ble_eq_true rfl, Nat.le_of_ble_eq_true rfl⟩) hS (fun q _ h => (freeX hS) q h) (freeX hS) (fun r2899 u t H1 locs ht hvm hw hB hz1 hk1 hS => ?_)
          unfold BX at hB
          rw [ht] at hB
          obtain ⟨v2900, F2901, rc9⟩ := u
          obtain ⟨hI, hal9, hrc, hf2902, hw⟩ := hw
          dsimp only at hI hal9 hrc hB hf2902 hw
          rw [hrc] at hB
          have hal := hal9.trans hal
          have hP : va_P (dC, dI) classes (wX g c v2900 F2901 rc) H1 := hB
          generalize H1 = H at hP hS ⊢
          have rr_r2899 := i32_rng r2899
          refine lv_istore (lv' := [(4, .int r2899), (3, .int r2892), (0, .ref (g 0)), (1, .int p0), (2, .int p1)]) hx hb dX11_claim_82 hl (by decide) rfl (fun ls hl => ?_)
          refine lv_aload_n hx hb dX11_claim_84 rfl (lv_at hl 2 rfl) ?_
          refine lv_dup hx hb dX11_claim_85 rfl ?_
          refine va_get (D := (dC, dI)) (ci := 11) (v := .int (v2900 12)) (C := RX11) (T := TX11) (N := 14) hx hb hwd inA_X11 hown hK hP 0 rfl rfl 12 (by decide) (hwd _ wk_1330) (fun _ h9 => h9) rfl dX11_claim_86 ?_
          refine my_top (v := v 12) (hf2902 12 (by decide)) ?_
          refine lv_iload hx hb dX11_claim_89 (lv_at hl 0 rfl) ?_
          refine lv_iadd hx hb dX11_claim_91 ?_
          refine lv_topi (fun z2903 e2904 => ?_)
          try (have t2905 := tadd e2904 (a := (v 12).toInt) rfl (b := r2899.toInt) rfl (by omega))
          refine va_put (D := (dC, dI)) (ci := 11) (v := .int z2903) (ty := .int) (C := RX11) (T := TX11) (N := 14) (fs := fsX_0 g v2900 rc) hx hb hwd inA_X11 tyX11 tyX11_ok nmX11 hown hK hP (DX hg) hS 0 rfl rfl 12 (by decide) (hwd _ wk_1330) (fun _ h9 => h9) rfl (by decide +kernel) rfl rfl (Nat.le_of_ble_eq_true rfl) dX11_claim_92 (fun H locs hP _ hS => ?_)
          have hP := va_P_eq (pX_12 g c _ _ _ _) hP
          have hI := IX.put0 hI 12 z2903 rfl
          have hal := (alX_v _ _ 12 z2903 (by decide) (by decide) (by decide) (by decide)).trans hal
          refine lv_iload hx hb dX11_claim_95 (lv_at hl 0 rfl) ?_
          have hP9 : va_P (dC, dI) classes (wX g c (va_up v2900 12 z2903) F2901 rc) H := hP
          exact W.iret (v := r2899) hx hb hr (fun t ht hW => ⟨⟨r2899, ((va_up v2900 12 z2903), F2901, rc), rfl, ⟨hI, hal, rfl, (frU (by decide) (frC (by decide) hf2902 (fun _ _ => rfl))), trivial⟩, (by show va_P _ _ _ t.heap; rw [ht]; exact hP9)⟩, hS.F ht⟩) hS.2.2 dX11_claim_97
        · skip
          have t2906 := cv_eq (a := r2893.toInt) rfl (b := 0) (by decide) c2894
          refine lv_bipush (v := (-2)) hx hb dX11_claim_61 (by decide) ?_
          have hP9 : va_P (dC, dI) classes (wX g c v F rc) H := hP
          exact W.iret (v := (-2)) hx hb hr (fun t ht hW => ⟨⟨(-2), (v, F, rc), rfl, ⟨hI, hal, rfl, (fun _ _ => rfl), trivial⟩, (by show va_P _ _ _ t.heap; rw [ht]; exact hP9)⟩, hS.F ht⟩) hS.2.2 dX11_claim_63
    · skip
      have t2907 := cv_eq (a := r2867.toInt) rfl (b := 0) (by decide) c2870
      refine lv_iconst (v := (-1)) hx hb dX11_claim_21 (by decide) ?_
      have hP9 : va_P (dC, dI) classes (wX g c v F rc) H := hP
      exact W.iret (v := (-1)) hx hb hr (fun t ht hW => ⟨⟨(-1), (v, F, rc), rfl, ⟨hI, hal, rfl, (fun _ _ => rfl), trivial⟩, (by show va_P _ _ _ t.heap; rw [ht]; exact hP9)⟩, hS.F ht⟩) hS.2.2 dX11_claim_22
set_option maxHeartbeats 8000000 in
set_option maxRecDepth 100000 in
theorem c_X11_half (l : Launch) (dC : Nat → ClassId) (dI : Nat → Nat → Nat) (g : Nat → Nat) (c : Nat → ClassId) (adK adV : Nat → Nat) (v : Nat → Int32) (F : Nat → Nat → Int32) (rc sz : Nat) (p0 : Int32) (p1 : Int32) (hg : injX g) (hI : IX v F) : Met l yX11_half (Cond.code yX11_half cX11_half 3 (some .int) :: wA) ({ frames := 8, cells := 0, slots := 0, locals := 320 }) (va_Pc [.ref (g 0), .int p0, .int p1] (PX dC dI g c adK adV v F rc sz)) (va_Qi (fun (r : Int32) (u : StX) => IX u.1 u.2.1 ∧ alX u.1 u.2.1 = alX v F ∧ u.2.2 = rc ∧ (∀ k, k ∉ ([126] : List Nat) → u.1 k = v k) ∧ True) (BX dC dI g c) (AX g sz)) 0 0 (AX g sz) := by
  refine Met.ofW (cc := cX11_half) (maxL := 3) (ret := (some .int)) (by decide) rfl ?_
  intro p e s m args below meth c0 s₁ B hml hv
  obtain ⟨rfl, hsz, hP, hK, hE⟩ := hv
  have hx := B.exec
  have hb := B.bytes
  have hr := B.returns
  have hts := atoms_spec (ws := Cond.code yX11_half cX11_half 3 (some .int) :: wA) B.pre
  have hwd : ∀ w ∈ wA, w.before _ s = true := fun w h => hts w (List.mem_cons_of_mem _ h)
  have hown : s.vm.findClass RX11 = some m.cls := findClass_of_methodNamed B.named
  have hlocks := B.notSynchronized
  subst hsz
  have hl := lv_entry ([.ref (g 0), .int p0, .int p1]) (n := 3) (Nat.le_of_ble_eq_true rfl)
  rw [lg_entry_eq]
  generalize (lg_sl ([.ref (g 0), .int p0, .int p1]) ++ List.replicate (3 - (lg_sl ([.ref (g 0), .int p0, .int p1])).length) Slot.unset).toArray = ls at hl ⊢
  have hl : lv_has ls 3 [(0, .ref (g 0)), (1, .int p0), (2, .int p1)] := hl
  obtain ⟨H, eH⟩ : ∃ z, z = s.heap := ⟨_, rfl⟩
  have hP : va_P (dC, dI) classes (wX g c v F rc) H := by rw [eH]; exact hP
  have hS : va_S (AX g s.heap.size) s.heap H [] := by rw [eH]; exact va_S.rf
  refine my_heap eH ?_
  have hal : alX v F = alX v F := rfl
  have rp0 := i32_rng p0
  have rp1 := i32_rng p1
  refine lv_aload_n hx hb dX11_half_0 rfl (lv_at hl 0 rfl) ?_
  refine va_get (D := (dC, dI)) (ci := 11) (v := .ref (g 2)) (C := RX11) (T := TX11) (N := 14) hx hb hwd inA_X11 hown hK hP 0 rfl rfl 1 (by decide) (hwd _ wk_19) (fun _ h9 => h9) rfl dX11_half_1 ?_
  refine lv_iload_n hx hb dX11_half_4 rfl (lv_at hl 1 rfl) ?_
  refine va_calli (va_runV (As := [.int p0]) (rest := []) ⟨hx, hb, hml, hown, hwd⟩ (c_X8_has l dC dI g c adK adV v F rc H.size p0 hg hI ) (cwV 1 hwd (gV wk_276 wk_273 wk_274 wk_275 wk_18) rfl rfl rfl (by decide +kernel) ⟨Nat.le_of_ble_eq_true rfl, Nat.le_of_ble_eq_true rfl⟩) ⟨PX.blind, va_recv hK hP (ci := 8) (q0 := 2) rfl rfl, fun U hU hW => ⟨rfl, PX.at hK hE hP hS hU hW⟩⟩ rfl rfl hl.1 rfl (lv_room (Nat.le_of_ble_eq_true rfl)) dX11_half_5 ⟨Nat.le_of_ble_eq_true rfl, Nat.le_of_ble_eq_true rfl⟩) hS (fun q _ h => (freeX hS) q h) (freeX hS) (fun r2908 u t H1 locs ht hvm hw hB hz1 hk1 hS => ?_)
  unfold BX at hB
  rw [ht] at hB
  have hP : va_P (dC, dI) classes (wX g c v F rc) H1 := hB
  have hw : (0 ≤ r2908.toInt ∧ r2908.toInt ≤ 1) ∧ (r2908.toInt = 1 → 0 ≤ p0.toInt ∧ p0.toInt < 10) := hw
  generalize H1 = H at hP hS ⊢
  have hw_r2908 := hw
  refine lv_if_eq (tgt := 18) hx hb dX11_half_8 (by decide) (fun c2909 => ?_) (fun c2909 => ?_)
  · skip
    have t2910 := cv_eq (a := r2908.toInt) rfl (b := 0) (by decide) c2909
    refine lv_ldc (v := (-2000000000)) hx hb hown (hwd _ wk_56) dX11_half_18 ?_
    have hP9 : va_P (dC, dI) classes (wX g c v F rc) H := hP
    exact W.iret (v := (-2000000000)) hx hb hr (fun t ht hW => ⟨⟨(-2000000000), (v, F, rc), rfl, ⟨hI, hal, rfl, (fun _ _ => rfl), trivial⟩, (by show va_P _ _ _ t.heap; rw [ht]; exact hP9)⟩, hS.F ht⟩) hS.2.2 dX11_half_20
  · skip
    have t2911 := cv_ne (a := r2908.toInt) rfl (b := 0) (by decide) c2909
    refine lv_iload_n hx hb dX11_half_11 rfl (lv_at hl 2 rfl) ?_
    refine va_calli (va_runS (As := [.int p1]) (rest := []) ⟨hx, hb, hml, hown, hwd⟩ (c_X11_isDay l dC dI g c adK adV v F rc H.size p1 hg hI ) (va_cwS 1 hwd (gT wk_549 wk_547 wk_548 wk_2) rfl rfl rfl (by decide +kernel) ⟨Nat.le_of_ble_eq_true rfl, Nat.le_of_ble_eq_true rfl⟩) ⟨PX.blind, fun U hU hW => ⟨rfl, PX.at hK hE hP hS hU hW⟩⟩ rfl rfl hl.1 rfl (lv_room (Nat.le_of_ble_eq_true rfl)) dX11_half_12 ⟨Nat.le_of_ble_eq_true rfl, Nat.le_of_ble_eq_true rfl⟩) hS (fun q _ h => (freeX hS) q h) (freeX hS) (fun r2912 u t H1 locs ht hvm hw hB hz1 hk1 hS => ?_)
    unfold BX at hB
    rw [ht] at hB
    have hP : va_P (dC, dI) classes (wX g c v F rc) H1 := hB
    have hw : (r2912.toInt = 1 ∧ 0 ≤ p1.toInt ∧ p1.toInt ≤ 9999) ∨ (r2912.toInt = 0 ∧ (p1.toInt < 0 ∨ 9999 < p1.toInt)) := hw
    generalize H1 = H at hP hS ⊢
    have hw_r2912 := hw
    refine lv_if_ne (tgt := 21) hx hb dX11_half_15 (by decide) (fun c2913 => ?_) (fun c2913 => ?_)
    · skip
      have t2914 := cv_ne (a := r2912.toInt) rfl (b := 0) (by decide) c2913
      refine lv_aload_n hx hb dX11_half_21 rfl (lv_at hl 0 rfl) ?_
      refine va_get (D := (dC, dI)) (ci := 11) (v := .ref (g 10)) (C := RX11) (T := TX11) (N := 14) hx hb hwd inA_X11 hown hK hP 0 rfl rfl 9 (by decide) (hwd _ wk_51) (fun _ h9 => h9) rfl dX11_half_22 ?_
      refine lv_iload_n hx hb dX11_half_25 rfl (lv_at hl 1 rfl) ?_
      refine lv_iload_n hx hb dX11_half_26 rfl (lv_at hl 2 rfl) ?_
      refine va_calli (va_runV (As := [.int p0, .int p1]) (rest := []) ⟨hx, hb, hml, hown, hwd⟩ (c_X5_halfOf l dC dI g c adK adV v F rc H.size p0 p1 hg hI ) (cwV 2 hwd (gV wk_1356 wk_1353 wk_1354 wk_1355 wk_50) rfl rfl rfl (by decide +kernel) ⟨Nat.le_of_ble_eq_true rfl, Nat.le_of_ble_eq_true rfl⟩) ⟨PX.blind, va_recv hK hP (ci := 5) (q0 := 10) rfl rfl, fun U hU hW => ⟨rfl, PX.at hK hE hP hS hU hW⟩⟩ rfl rfl hl.1 rfl (lv_room (Nat.le_of_ble_eq_true rfl)) dX11_half_27 ⟨Nat.le_of_ble_eq_true rfl, Nat.le_of_ble_eq_true rfl⟩) hS (fun q _ h => (freeX hS) q h) (freeX hS) (fun r2915 u t H1 locs ht hvm hw hB hz1 hk1 hS => ?_)
      unfold BX at hB
      rw [ht] at hB
      obtain ⟨v2916, F2917, rc9⟩ := u
      obtain ⟨hI, hal9, hrc, hf2918, hw⟩ := hw
      dsimp only at hI hal9 hrc hB hf2918 hw
      rw [hrc] at hB
      have hal := hal9.trans hal
      have hP : va_P (dC, dI) classes (wX g c v2916 F2917 rc) H1 := hB
      generalize H1 = H at hP hS ⊢
      have rr_r2915 := i32_rng r2915
      have hP9 : va_P (dC, dI) classes (wX g c v2916 F2917 rc) H := hP
      exact W.iret (v := r2915) hx hb hr (fun t ht hW => ⟨⟨r2915, (v2916, F2917, rc), rfl, ⟨hI, hal, rfl, (frC (by decide) hf2918 (fun _ _ => rfl)), trivial⟩, (by show va_P _ _ _ t.heap; rw [ht]; exact hP9)⟩, hS.F ht⟩) hS.2.2 dX11_half_30
    · skip
      have t2919 := cv_eq (a := r2912.toInt) rfl (b := 0) (by decide) c2913
      refine lv_ldc (v := (-2000000000)) hx hb hown (hwd _ wk_56) dX11_half_18 ?_
      have hP9 : va_P (dC, dI) classes (wX g c v F rc) H := hP
      exact W.iret (v := (-2000000000)) hx hb hr (fun t ht hW => ⟨⟨(-2000000000), (v, F, rc), rfl, ⟨hI, hal, rfl, (fun _ _ => rfl), trivial⟩, (by show va_P _ _ _ t.heap; rw [ht]; exact hP9)⟩, hS.F ht⟩) hS.2.2 dX11_half_20
set_option maxHeartbeats 8000000 in
set_option maxRecDepth 100000 in
theorem c_X11_insure (l : Launch) (dC : Nat → ClassId) (dI : Nat → Nat → Nat) (g : Nat → Nat) (c : Nat → ClassId) (adK adV : Nat → Nat) (v : Nat → Int32) (F : Nat → Nat → Int32) (rc sz : Nat) (p0 : Int32) (hg : injX g) (hI : IX v F) : Met l yX11_insure (Cond.code yX11_insure cX11_insure 3 (some .int) :: wA) ({ frames := 8, cells := 0, slots := 0, locals := 320 }) (va_Pc [.ref (g 0), .int p0] (PX dC dI g c adK adV v F rc sz)) (va_Qi (fun (r : Int32) (u : StX) => IX u.1 u.2.1 ∧ alX u.1 u.2.1 = alX v F ∧ u.2.2 = rc ∧ (∀ k, k ∉ ([126] : List Nat) → u.1 k = v k) ∧ True) (BX dC dI g c) (AX g sz)) 0 0 (AX g sz) := by
  refine Met.ofW (cc := cX11_insure) (maxL := 3) (ret := (some .int)) (by decide) rfl ?_
  intro p e s m args below meth c0 s₁ B hml hv
  obtain ⟨rfl, hsz, hP, hK, hE⟩ := hv
  have hx := B.exec
  have hb := B.bytes
  have hr := B.returns
  have hts := atoms_spec (ws := Cond.code yX11_insure cX11_insure 3 (some .int) :: wA) B.pre
  have hwd : ∀ w ∈ wA, w.before _ s = true := fun w h => hts w (List.mem_cons_of_mem _ h)
  have hown : s.vm.findClass RX11 = some m.cls := findClass_of_methodNamed B.named
  have hlocks := B.notSynchronized
  subst hsz
  have hl := lv_entry ([.ref (g 0), .int p0]) (n := 3) (Nat.le_of_ble_eq_true rfl)
  rw [lg_entry_eq]
  generalize (lg_sl ([.ref (g 0), .int p0]) ++ List.replicate (3 - (lg_sl ([.ref (g 0), .int p0])).length) Slot.unset).toArray = ls at hl ⊢
  have hl : lv_has ls 3 [(0, .ref (g 0)), (1, .int p0)] := hl
  obtain ⟨H, eH⟩ : ∃ z, z = s.heap := ⟨_, rfl⟩
  have hP : va_P (dC, dI) classes (wX g c v F rc) H := by rw [eH]; exact hP
  have hS : va_S (AX g s.heap.size) s.heap H [] := by rw [eH]; exact va_S.rf
  refine my_heap eH ?_
  have hal : alX v F = alX v F := rfl
  have rp0 := i32_rng p0
  refine lv_aload_n hx hb dX11_insure_0 rfl (lv_at hl 0 rfl) ?_
  refine va_get (D := (dC, dI)) (ci := 11) (v := .ref (g 2)) (C := RX11) (T := TX11) (N := 14) hx hb hwd inA_X11 hown hK hP 0 rfl rfl 1 (by decide) (hwd _ wk_19) (fun _ h9 => h9) rfl dX11_insure_1 ?_
  refine lv_iload_n hx hb dX11_insure_4 rfl (lv_at hl 1 rfl) ?_
  refine va_calli (va_runV (As := [.int p0]) (rest := []) ⟨hx, hb, hml, hown, hwd⟩ (c_X8_has l dC dI g c adK adV v F rc H.size p0 hg hI ) (cwV 1 hwd (gV wk_276 wk_273 wk_274 wk_275 wk_18) rfl rfl rfl (by decide +kernel) ⟨Nat.le_of_ble_eq_true rfl, Nat.le_of_ble_eq_true rfl⟩) ⟨PX.blind, va_recv hK hP (ci := 8) (q0 := 2) rfl rfl, fun U hU hW => ⟨rfl, PX.at hK hE hP hS hU hW⟩⟩ rfl rfl hl.1 rfl (lv_room (Nat.le_of_ble_eq_true rfl)) dX11_insure_5 ⟨Nat.le_of_ble_eq_true rfl, Nat.le_of_ble_eq_true rfl⟩) hS (fun q _ h => (freeX hS) q h) (freeX hS) (fun r2920 u t H1 locs ht hvm hw hB hz1 hk1 hS => ?_)
  unfold BX at hB
  rw [ht] at hB
  have hP : va_P (dC, dI) classes (wX g c v F rc) H1 := hB
  have hw : (0 ≤ r2920.toInt ∧ r2920.toInt ≤ 1) ∧ (r2920.toInt = 1 → 0 ≤ p0.toInt ∧ p0.toInt < 10) := hw
  generalize H1 = H at hP hS ⊢
  have hw_r2920 := hw
  refine lv_if_ne (tgt := 13) hx hb dX11_insure_8 (by decide) (fun c2921 => ?_) (fun c2921 => ?_)
  · skip
    have t2922 := cv_ne (a := r2920.toInt) rfl (b := 0) (by decide) c2921
    refine lv_aload_n hx hb dX11_insure_13 rfl (lv_at hl 0 rfl) ?_
    refine va_get (D := (dC, dI)) (ci := 11) (v := .ref (g 11)) (C := RX11) (T := TX11) (N := 14) hx hb hwd inA_X11 hown hK hP 0 rfl rfl 10 (by decide) (hwd _ wk_55) (fun _ h9 => h9) rfl dX11_insure_14 ?_
    refine lv_iload_n hx hb dX11_insure_17 rfl (lv_at hl 1 rfl) ?_
    refine lv_aload_n hx hb dX11_insure_18 rfl (lv_at hl 0 rfl) ?_
    refine va_get (D := (dC, dI)) (ci := 11) (v := .int (v 11)) (C := RX11) (T := TX11) (N := 14) hx hb hwd inA_X11 hown hK hP 0 rfl rfl 11 (by decide) (hwd _ wk_323) (fun _ h9 => h9) rfl dX11_insure_19 ?_
    have t2923 : 0 ≤ (v 11).toInt ∧ (v 11).toInt ≤ 9999 := hI.1 11 _ _ rfl
    refine lv_aload_n hx hb dX11_insure_22 rfl (lv_at hl 0 rfl) ?_
    refine va_get (D := (dC, dI)) (ci := 11) (v := .int (v 11)) (C := RX11) (T := TX11) (N := 14) hx hb hwd inA_X11 hown hK hP 0 rfl rfl 11 (by decide) (hwd _ wk_323) (fun _ h9 => h9) rfl dX11_insure_23 ?_
    have t2924 : 0 ≤ (v 11).toInt ∧ (v 11).toInt ≤ 9999 := hI.1 11 _ _ rfl
    refine va_calli (va_runV (As := [.int p0, .int (v 11), .int (v 11)]) (rest := []) ⟨hx, hb, hml, hown, hwd⟩ (c_X1_groundOf l dC dI g c adK adV v F rc H.size p0 (v 11) (v 11) hg hI (by omega)) (cwV 3 hwd (gV wk_340 wk_337 wk_338 wk_339 wk_54) rfl rfl rfl (by decide +kernel) ⟨Nat.le_of_ble_eq_true rfl, Nat.le_of_ble_eq_true rfl⟩) ⟨PX.blind, va_recv hK hP (ci := 1) (q0 := 11) rfl rfl, fun U hU hW => ⟨rfl, PX.at hK hE hP hS hU hW⟩⟩ rfl rfl hl.1 rfl (lv_room (Nat.le_of_ble_eq_true rfl)) dX11_insure_26 ⟨Nat.le_of_ble_eq_true rfl, Nat.le_of_ble_eq_true rfl⟩) hS (fun q _ h => (freeX hS) q h) (freeX hS) (fun r2925 u t H1 locs ht hvm hw hB hz1 hk1 hS => ?_)
    unfold BX at hB
    rw [ht] at hB
    obtain ⟨v2926, F2927, rc9⟩ := u
    obtain ⟨hI, hal9, hrc, hf2928, hw⟩ := hw
    dsimp only at hI hal9 hrc hB hf2928 hw
    rw [hrc] at hB
    have hal := hal9.trans hal
    have hP : va_P (dC, dI) classes (wX g c v2926 F2927 rc) H1 := hB
    generalize H1 = H at hP hS ⊢
    have rr_r2925 := i32_rng r2925
    refine lv_if_eq (tgt := 34) hx hb dX11_insure_29 (by decide) (fun c2929 => ?_) (fun c2929 => ?_)
    · skip
      have t2930 := cv_eq (a := r2925.toInt) rfl (b := 0) (by decide) c2929
      refine lv_aload_n hx hb dX11_insure_34 rfl (lv_at hl 0 rfl) ?_
      refine va_get (D := (dC, dI)) (ci := 11) (v := .ref (g 2)) (C := RX11) (T := TX11) (N := 14) hx hb hwd inA_X11 hown hK hP 0 rfl rfl 1 (by decide) (hwd _ wk_19) (fun _ h9 => h9) rfl dX11_insure_35 ?_
      refine va_get (D := (dC, dI)) (ci := 8) (v := .ref (g 15)) (C := RX8) (T := TX8) (N := 10) hx hb hwd inA_X8 hown hK hP 2 rfl rfl 1 (by decide) (hwd _ wk_532) (fun _ h9 => h9) rfl dX11_insure_38 ?_
      refine lv_iload_n hx hb dX11_insure_41 rfl (lv_at hl 1 rfl) ?_
      refine va_iald hx hb hK hP 15 3 rfl rfl (i := p0) (vin (a := p0.toInt) rfl (by omega)) dX11_insure_42 ?_
      refine lv_topi (fun z2931 e2932 => ?_)
      refine lv_iconst (v := 0) hx hb dX11_insure_43 (by decide) ?_
      refine lv_aload_n hx hb dX11_insure_44 rfl (lv_at hl 0 rfl) ?_
      refine va_get (D := (dC, dI)) (ci := 11) (v := .ref (g 10)) (C := RX11) (T := TX11) (N := 14) hx hb hwd inA_X11 hown hK hP 0 rfl rfl 9 (by decide) (hwd _ wk_51) (fun _ h9 => h9) rfl dX11_insure_45 ?_
      refine lv_iload_n hx hb dX11_insure_48 rfl (lv_at hl 1 rfl) ?_
      refine lv_aload_n hx hb dX11_insure_49 rfl (lv_at hl 0 rfl) ?_
      refine va_get (D := (dC, dI)) (ci := 11) (v := .int (v2926 11)) (C := RX11) (T := TX11) (N := 14) hx hb hwd inA_X11 hown hK hP 0 rfl rfl 11 (by decide) (hwd _ wk_323) (fun _ h9 => h9) rfl dX11_insure_50 ?_
      refine my_top (v := v 11) (hf2928 11 (by decide)) ?_
      have t2933 : 0 ≤ (v 11).toInt ∧ (v 11).toInt ≤ 9999 := by have h9 := hI.1 11 _ _ rfl; rw [show v2926 11 = v 11 from hf2928 11 (by decide)] at h9; exact h9
      refine va_calli (va_runV (As := [.int p0, .int (v 11)]) (rest := [.int 0, .int z2931]) ⟨hx, hb, hml, hown, hwd⟩ (c_X5_halfOf l dC dI g c adK adV v2926 F2927 rc H.size p0 (v 11) hg hI ) (cwV 2 hwd (gV wk_1356 wk_1353 wk_1354 wk_1355 wk_50) rfl rfl rfl (by decide +kernel) ⟨Nat.le_of_ble_eq_true rfl, Nat.le_of_ble_eq_true rfl⟩) ⟨PX.blind, va_recv hK hP (ci := 5) (q0 := 10) rfl rfl, fun U hU hW => ⟨rfl, PX.at hK hE hP hS hU hW⟩⟩ rfl rfl hl.1 rfl (lv_room (Nat.le_of_ble_eq_true rfl)) dX11_insure_53 ⟨Nat.le_of_ble_eq_true rfl, Nat.le_of_ble_eq_true rfl⟩) hS (fun q _ h => (freeX hS) q h) (freeX hS) (fun r2934 u t H1 locs ht hvm hw hB hz1 hk1 hS => ?_)
      unfold BX at hB
      rw [ht] at hB
      obtain ⟨v2935, F2936, rc9⟩ := u
      obtain ⟨hI, hal9, hrc, hf2937, hw⟩ := hw
      dsimp only at hI hal9 hrc hB hf2937 hw
      rw [hrc] at hB
      have hal := hal9.trans hal
      have hP : va_P (dC, dI) classes (wX g c v2935 F2936 rc) H1 := hB
      generalize H1 = H at hP hS ⊢
      have rr_r2934 := i32_rng r2934
      refine va_mmax hx hb (by rw [hml]; exact hl.1.symm) hown (hwd _ wk_1387) (hwd _ wk_395) (hwd _ wk_392) (hwd _ wk_396) (Nat.le_of_ble_eq_true rfl) (Nat.le_of_ble_eq_true rfl) (Nat.le_of_ble_eq_true rfl) (Nat.le_of_ble_eq_true rfl) dX11_insure_56 ?_
      refine lv_topi (fun z2938 e2939 => ?_)
      have t2940 := tmax e2939 (a := 0) (by decide) (b := r2934.toInt) rfl
      refine lv_iadd hx hb dX11_insure_59 ?_
      refine lv_topi (fun z2941 e2942 => ?_)
      try (have t2943 := tadd e2942 (a := z2931.toInt) rfl (b := z2938.toInt) rfl (by omega))
      refine lv_istore_n (lv' := [(2, .int z2941), (0, .ref (g 0)), (1, .int p0)]) hx hb dX11_insure_60 rfl hl (by decide) rfl (fun ls hl => ?_)
      refine lv_iload_n hx hb dX11_insure_61 rfl (lv_at hl 0 rfl) ?_
      refine lv_sipush (v := 999) hx hb dX11_insure_62 (by decide) ?_
      refine lv_iadd hx hb dX11_insure_65 ?_
      refine lv_topi (fun z2944 e2945 => ?_)
      try (have t2946 := tadd e2945 (a := z2941.toInt) rfl (b := 999) (by decide) (by omega))
      refine lv_sipush (v := 1000) hx hb dX11_insure_66 (by decide) ?_
      refine lv_idiv hx hb dX11_insure_69 (by decide) ?_
      refine lv_topi (fun z2947 e2948 => ?_)
      have hP9 : va_P (dC, dI) classes (wX g c v2935 F2936 rc) H := hP
      exact W.iret (v := z2947) hx hb hr (fun t ht hW => ⟨⟨z2947, (v2935, F2936, rc), rfl, ⟨hI, hal, rfl, (frC (by decide) hf2937 (frC (by decide) hf2928 (fun _ _ => rfl))), trivial⟩, (by show va_P _ _ _ t.heap; rw [ht]; exact hP9)⟩, hS.F ht⟩) hS.2.2 dX11_insure_70
    · skip
      have t2950 := cv_ne (a := r2925.toInt) rfl (b := 0) (by decide) c2929
      refine lv_iconst (v := 0) hx hb dX11_insure_32 (by decide) ?_
      have hP9 : va_P (dC, dI) classes (wX g c v2926 F2927 rc) H := hP
      exact W.iret (v := 0) hx hb hr (fun t ht hW => ⟨⟨0, (v2926, F2927, rc), rfl, ⟨hI, hal, rfl, (frC (by decide) hf2928 (fun _ _ => rfl)), trivial⟩, (by show va_P _ _ _ t.heap; rw [ht]; exact hP9)⟩, hS.F ht⟩) hS.2.2 dX11_insure_33
  · skip
    have t2951 := cv_eq (a := r2920.toInt) rfl (b := 0) (by decide) c2921
    refine lv_iconst (v := (-1)) hx hb dX11_insure_11 (by decide) ?_
    have hP9 : va_P (dC, dI) classes (wX g c v F rc) H := hP
    exact W.iret (v := (-1)) hx hb hr (fun t ht hW => ⟨⟨(-1), (v, F, rc), rfl, ⟨hI, hal, rfl, (fun _ _ => rfl), trivial⟩, (by show va_P _ _ _ t.heap; rw [ht]; exact hP9)⟩, hS.F ht⟩) hS.2.2 dX11_insure_12
set_option maxHeartbeats 8000000 in
set_option maxRecDepth 100000 in
theorem c_X11_net (l : Launch) (dC : Nat → ClassId) (dI : Nat → Nat → Nat) (g : Nat → Nat) (c : Nat → ClassId) (adK adV : Nat → Nat) (v : Nat → Int32) (F : Nat → Nat → Int32) (rc sz : Nat) (p0 : Int32) (p1 : Int32) (p2 : Int32) (hg : injX g) (hI : IX v F) : Met l yX11_net (Cond.code yX11_net cX11_net 4 (some .int) :: wA) ({ frames := 2, cells := 0, slots := 0, locals := 80 }) (va_Pc [.ref (g 0), .int p0, .int p1, .int p2] (PX dC dI g c adK adV v F rc sz)) (va_Qi (fun (r : Int32) (u : Unit) => True) (fun (_ : Unit) => BX dC dI g c (v, F, rc)) (AX g sz)) 0 0 (AX g sz) := by
  refine Met.ofW (cc := cX11_net) (maxL := 4) (ret := (some .int)) (by decide) rfl ?_
  intro p e s m args below meth c0 s₁ B hml hv
  obtain ⟨rfl, hsz, hP, hK, hE⟩ := hv
  have hx := B.exec
  have hb := B.bytes
  have hr := B.returns
  have hts := atoms_spec (ws := Cond.code yX11_net cX11_net 4 (some .int) :: wA) B.pre
  have hwd : ∀ w ∈ wA, w.before _ s = true := fun w h => hts w (List.mem_cons_of_mem _ h)
  have hown : s.vm.findClass RX11 = some m.cls := findClass_of_methodNamed B.named
  have hlocks := B.notSynchronized
  subst hsz
  have hl := lv_entry ([.ref (g 0), .int p0, .int p1, .int p2]) (n := 4) (Nat.le_of_ble_eq_true rfl)
  rw [lg_entry_eq]
  generalize (lg_sl ([.ref (g 0), .int p0, .int p1, .int p2]) ++ List.replicate (4 - (lg_sl ([.ref (g 0), .int p0, .int p1, .int p2])).length) Slot.unset).toArray = ls at hl ⊢
  have hl : lv_has ls 4 [(0, .ref (g 0)), (1, .int p0), (2, .int p1), (3, .int p2)] := hl
  obtain ⟨H, eH⟩ : ∃ z, z = s.heap := ⟨_, rfl⟩
  have hP : va_P (dC, dI) classes (wX g c v F rc) H := by rw [eH]; exact hP
  have hS : va_S (AX g s.heap.size) s.heap H [] := by rw [eH]; exact va_S.rf
  refine my_heap eH ?_
  have rp0 := i32_rng p0
  have rp1 := i32_rng p1
  have rp2 := i32_rng p2
  refine lv_aload_n hx hb dX11_net_0 rfl (lv_at hl 0 rfl) ?_
  refine va_get (D := (dC, dI)) (ci := 11) (v := .ref (g 2)) (C := RX11) (T := TX11) (N := 14) hx hb hwd inA_X11 hown hK hP 0 rfl rfl 1 (by decide) (hwd _ wk_19) (fun _ h9 => h9) rfl dX11_net_1 ?_
  refine lv_iload_n hx hb dX11_net_4 rfl (lv_at hl 1 rfl) ?_
  refine va_calli (va_runV (As := [.int p0]) (rest := []) ⟨hx, hb, hml, hown, hwd⟩ (c_X8_has l dC dI g c adK adV v F rc H.size p0 hg hI ) (cwV 1 hwd (gV wk_276 wk_273 wk_274 wk_275 wk_18) rfl rfl rfl (by decide +kernel) ⟨Nat.le_of_ble_eq_true rfl, Nat.le_of_ble_eq_true rfl⟩) ⟨PX.blind, va_recv hK hP (ci := 8) (q0 := 2) rfl rfl, fun U hU hW => ⟨rfl, PX.at hK hE hP hS hU hW⟩⟩ rfl rfl hl.1 rfl (lv_room (Nat.le_of_ble_eq_true rfl)) dX11_net_5 ⟨Nat.le_of_ble_eq_true rfl, Nat.le_of_ble_eq_true rfl⟩) hS (fun q _ h => (freeX hS) q h) (freeX hS) (fun r2952 u t H1 locs ht hvm hw hB hz1 hk1 hS => ?_)
  unfold BX at hB
  rw [ht] at hB
  have hP : va_P (dC, dI) classes (wX g c v F rc) H1 := hB
  have hw : (0 ≤ r2952.toInt ∧ r2952.toInt ≤ 1) ∧ (r2952.toInt = 1 → 0 ≤ p0.toInt ∧ p0.toInt < 10) := hw
  generalize H1 = H at hP hS ⊢
  have hw_r2952 := hw
  refine lv_if_eq (tgt := 41) hx hb dX11_net_8 (by decide) (fun c2953 => ?_) (fun c2953 => ?_)
  · skip
    have t2954 := cv_eq (a := r2952.toInt) rfl (b := 0) (by decide) c2953
    refine lv_ldc (v := (-2000000000)) hx hb hown (hwd _ wk_56) dX11_net_41 ?_
    have hP9 : va_P (dC, dI) classes (wX g c v F rc) H := hP
    exact W.iret (v := (-2000000000)) hx hb hr (fun t ht hW => ⟨⟨(-2000000000), (), rfl, trivial, (by show va_P _ _ _ t.heap; rw [ht]; exact hP9)⟩, hS.F ht⟩) hS.2.2 dX11_net_43
  · skip
    have t2955 := cv_ne (a := r2952.toInt) rfl (b := 0) (by decide) c2953
    refine lv_iload_n hx hb dX11_net_11 rfl (lv_at hl 3 rfl) ?_
    refine lv_iconst (v := 1) hx hb dX11_net_12 (by decide) ?_
    refine lv_sipush (v := 999) hx hb dX11_net_13 (by decide) ?_
    refine va_calli (va_runS (As := [.int p2, .int 1, .int 999]) (rest := []) ⟨hx, hb, hml, hown, hwd⟩ (c_X11_within l dC dI g c adK adV v F rc H.size p2 1 999 hg hI ) (va_cwS 3 hwd (gT wk_239 wk_237 wk_238 wk_2) rfl rfl rfl (by decide +kernel) ⟨Nat.le_of_ble_eq_true rfl, Nat.le_of_ble_eq_true rfl⟩) ⟨PX.blind, fun U hU hW => ⟨rfl, PX.at hK hE hP hS hU hW⟩⟩ rfl rfl hl.1 rfl (lv_room (Nat.le_of_ble_eq_true rfl)) dX11_net_16 ⟨Nat.le_of_ble_eq_true rfl, Nat.le_of_ble_eq_true rfl⟩) hS (fun q _ h => (freeX hS) q h) (freeX hS) (fun r2956 u t H1 locs ht hvm hw hB hz1 hk1 hS => ?_)
    unfold BX at hB
    rw [ht] at hB
    have hP : va_P (dC, dI) classes (wX g c v F rc) H1 := hB
    have hw : (r2956.toInt = 1 ∧ (1 : Int32).toInt ≤ p2.toInt ∧ p2.toInt ≤ (999 : Int32).toInt) ∨ (r2956.toInt = 0 ∧ (p2.toInt < (1 : Int32).toInt ∨ (999 : Int32).toInt < p2.toInt)) := hw
    have k2957 : (1 : Int32).toInt = 1 := by decide
    have k2958 : (999 : Int32).toInt = 999 := by decide
    generalize H1 = H at hP hS ⊢
    have hw_r2956 := hw
    refine lv_if_eq (tgt := 41) hx hb dX11_net_19 (by decide) (fun c2959 => ?_) (fun c2959 => ?_)
    · skip
      have t2960 := cv_eq (a := r2956.toInt) rfl (b := 0) (by decide) c2959
      refine lv_ldc (v := (-2000000000)) hx hb hown (hwd _ wk_56) dX11_net_41 ?_
      have hP9 : va_P (dC, dI) classes (wX g c v F rc) H := hP
      exact W.iret (v := (-2000000000)) hx hb hr (fun t ht hW => ⟨⟨(-2000000000), (), rfl, trivial, (by show va_P _ _ _ t.heap; rw [ht]; exact hP9)⟩, hS.F ht⟩) hS.2.2 dX11_net_43
    · skip
      have t2961 := cv_ne (a := r2956.toInt) rfl (b := 0) (by decide) c2959
      refine lv_iload_n hx hb dX11_net_22 rfl (lv_at hl 2 rfl) ?_
      refine lv_iconst (v := 0) hx hb dX11_net_23 (by decide) ?_
      refine lv_aload_n hx hb dX11_net_24 rfl (lv_at hl 0 rfl) ?_
      refine va_get (D := (dC, dI)) (ci := 11) (v := .ref (g 2)) (C := RX11) (T := TX11) (N := 14) hx hb hwd inA_X11 hown hK hP 0 rfl rfl 1 (by decide) (hwd _ wk_19) (fun _ h9 => h9) rfl dX11_net_25 ?_
      refine va_get (D := (dC, dI)) (ci := 8) (v := .ref (g 20)) (C := RX8) (T := TX8) (N := 10) hx hb hwd inA_X8 hown hK hP 2 rfl rfl 6 (by decide) (hwd _ wk_1408) (fun _ h9 => h9) rfl dX11_net_28 ?_
      refine lv_iload_n hx hb dX11_net_31 rfl (lv_at hl 1 rfl) ?_
      refine va_iald hx hb hK hP 20 8 rfl rfl (i := p0) (vin (a := p0.toInt) rfl (by omega)) dX11_net_32 ?_
      refine lv_topi (fun z2962 e2963 => ?_)
      have t2964 : 0 ≤ z2962.toInt ∧ z2962.toInt ≤ 4 := by rw [e2963]; exact hI.2 20 _ _ rfl _
      refine lv_iconst (v := 1) hx hb dX11_net_33 (by decide) ?_
      refine lv_isub hx hb dX11_net_34 ?_
      refine lv_topi (fun z2965 e2966 => ?_)
      try (have t2967 := tsub e2966 (a := z2962.toInt) rfl (b := 1) (by decide) (by omega))
      refine va_calli (va_runS (As := [.int p1, .int 0, .int z2965]) (rest := []) ⟨hx, hb, hml, hown, hwd⟩ (c_X11_within l dC dI g c adK adV v F rc H.size p1 0 z2965 hg hI ) (va_cwS 3 hwd (gT wk_239 wk_237 wk_238 wk_2) rfl rfl rfl (by decide +kernel) ⟨Nat.le_of_ble_eq_true rfl, Nat.le_of_ble_eq_true rfl⟩) ⟨PX.blind, fun U hU hW => ⟨rfl, PX.at hK hE hP hS hU hW⟩⟩ rfl rfl hl.1 rfl (lv_room (Nat.le_of_ble_eq_true rfl)) dX11_net_35 ⟨Nat.le_of_ble_eq_true rfl, Nat.le_of_ble_eq_true rfl⟩) hS (fun q _ h => (freeX hS) q h) (freeX hS) (fun r2968 u t H1 locs ht hvm hw hB hz1 hk1 hS => ?_)
      unfold BX at hB
      rw [ht] at hB
      have hP : va_P (dC, dI) classes (wX g c v F rc) H1 := hB
      have hw : (r2968.toInt = 1 ∧ (0 : Int32).toInt ≤ p1.toInt ∧ p1.toInt ≤ z2965.toInt) ∨ (r2968.toInt = 0 ∧ (p1.toInt < (0 : Int32).toInt ∨ z2965.toInt < p1.toInt)) := hw
      have k2969 : (0 : Int32).toInt = 0 := by decide
      generalize H1 = H at hP hS ⊢
      have hw_r2968 := hw
      refine lv_if_ne (tgt := 44) hx hb dX11_net_38 (by decide) (fun c2970 => ?_) (fun c2970 => ?_)
      · skip
        have t2971 := cv_ne (a := r2968.toInt) rfl (b := 0) (by decide) c2970
        refine lv_aload_n hx hb dX11_net_44 rfl (lv_at hl 0 rfl) ?_
        refine va_get (D := (dC, dI)) (ci := 11) (v := .ref (g 2)) (C := RX11) (T := TX11) (N := 14) hx hb hwd inA_X11 hown hK hP 0 rfl rfl 1 (by decide) (hwd _ wk_19) (fun _ h9 => h9) rfl dX11_net_45 ?_
        refine lv_iload_n hx hb dX11_net_48 rfl (lv_at hl 1 rfl) ?_
        refine lv_iload_n hx hb dX11_net_49 rfl (lv_at hl 2 rfl) ?_
        refine va_calli (va_runV (As := [.int p0, .int p1]) (rest := []) ⟨hx, hb, hml, hown, hwd⟩ (c_X8_linkRent l dC dI g c adK adV v F rc H.size p0 p1 hg hI (by omega)) (cwV 2 hwd (gV wk_1412 wk_1409 wk_1410 wk_1411 wk_18) rfl rfl rfl (by decide +kernel) ⟨Nat.le_of_ble_eq_true rfl, Nat.le_of_ble_eq_true rfl⟩) ⟨PX.blind, va_recv hK hP (ci := 8) (q0 := 2) rfl rfl, fun U hU hW => ⟨rfl, PX.at hK hE hP hS hU hW⟩⟩ rfl rfl hl.1 rfl (lv_room (Nat.le_of_ble_eq_true rfl)) dX11_net_50 ⟨Nat.le_of_ble_eq_true rfl, Nat.le_of_ble_eq_true rfl⟩) hS (fun q _ h => (freeX hS) q h) (freeX hS) (fun r2972 u t H1 locs ht hvm hw hB hz1 hk1 hS => ?_)
        unfold BX at hB
        rw [ht] at hB
        have hP : va_P (dC, dI) classes (wX g c v F rc) H1 := hB
        generalize H1 = H at hP hS ⊢
        have rr_r2972 := i32_rng r2972
        refine lv_aload_n hx hb dX11_net_53 rfl (lv_at hl 0 rfl) ?_
        refine va_get (D := (dC, dI)) (ci := 11) (v := .ref (g 2)) (C := RX11) (T := TX11) (N := 14) hx hb hwd inA_X11 hown hK hP 0 rfl rfl 1 (by decide) (hwd _ wk_19) (fun _ h9 => h9) rfl dX11_net_54 ?_
        refine lv_iload_n hx hb dX11_net_57 rfl (lv_at hl 1 rfl) ?_
        refine lv_iload_n hx hb dX11_net_58 rfl (lv_at hl 2 rfl) ?_
        refine lv_iconst (v := 1) hx hb dX11_net_59 (by decide) ?_
        refine lv_iadd hx hb dX11_net_60 ?_
        refine lv_topi (fun z2973 e2974 => ?_)
        try (have t2975 := tadd e2974 (a := p1.toInt) rfl (b := 1) (by decide) (by omega))
        refine va_calli (va_runV (As := [.int p0, .int z2973]) (rest := [.int r2972]) ⟨hx, hb, hml, hown, hwd⟩ (c_X8_linkRent l dC dI g c adK adV v F rc H.size p0 z2973 hg hI (by omega)) (cwV 2 hwd (gV wk_1412 wk_1409 wk_1410 wk_1411 wk_18) rfl rfl rfl (by decide +kernel) ⟨Nat.le_of_ble_eq_true rfl, Nat.le_of_ble_eq_true rfl⟩) ⟨PX.blind, va_recv hK hP (ci := 8) (q0 := 2) rfl rfl, fun U hU hW => ⟨rfl, PX.at hK hE hP hS hU hW⟩⟩ rfl rfl hl.1 rfl (lv_room (Nat.le_of_ble_eq_true rfl)) dX11_net_61 ⟨Nat.le_of_ble_eq_true rfl, Nat.le_of_ble_eq_true rfl⟩) hS (fun q _ h => (freeX hS) q h) (freeX hS) (fun r2976 u t H1 locs ht hvm hw hB hz1 hk1 hS => ?_)
        unfold BX at hB
        rw [ht] at hB
        have hP : va_P (dC, dI) classes (wX g c v F rc) H1 := hB
        generalize H1 = H at hP hS ⊢
        have rr_r2976 := i32_rng r2976
        refine lv_isub hx hb dX11_net_64 ?_
        refine lv_topi (fun z2977 e2978 => ?_)
        try (have t2979 := tsub e2978 (a := r2972.toInt) rfl (b := r2976.toInt) rfl (by omega))
        refine lv_iload_n hx hb dX11_net_65 rfl (lv_at hl 3 rfl) ?_
        refine lv_imul hx hb dX11_net_66 ?_
        refine lv_topi (fun z2980 e2981 => ?_)
        try (have t2982 := tmul e2981 (a := z2977.toInt) rfl (b := p2.toInt) rfl (by omega))
        have hP9 : va_P (dC, dI) classes (wX g c v F rc) H := hP
        exact W.iret (v := z2980) hx hb hr (fun t ht hW => ⟨⟨z2980, (), rfl, trivial, (by show va_P _ _ _ t.heap; rw [ht]; exact hP9)⟩, hS.F ht⟩) hS.2.2 dX11_net_67
      · skip
        have t2983 := cv_eq (a := r2968.toInt) rfl (b := 0) (by decide) c2970
        refine lv_ldc (v := (-2000000000)) hx hb hown (hwd _ wk_56) dX11_net_41 ?_
        have hP9 : va_P (dC, dI) classes (wX g c v F rc) H := hP
        exact W.iret (v := (-2000000000)) hx hb hr (fun t ht hW => ⟨⟨(-2000000000), (), rfl, trivial, (by show va_P _ _ _ t.heap; rw [ht]; exact hP9)⟩, hS.F ht⟩) hS.2.2 dX11_net_43
set_option maxHeartbeats 8000000 in
set_option maxRecDepth 100000 in
theorem c_X11_count (l : Launch) (dC : Nat → ClassId) (dI : Nat → Nat → Nat) (g : Nat → Nat) (c : Nat → ClassId) (adK adV : Nat → Nat) (v : Nat → Int32) (F : Nat → Nat → Int32) (rc sz : Nat) (p0 : Int32) (hg : injX g) (hI : IX v F) : Met l yX11_count (Cond.code yX11_count cX11_count 2 (some .int) :: wA) ({ frames := 3, cells := 0, slots := 0, locals := 120 }) (va_Pc [.ref (g 0), .int p0] (PX dC dI g c adK adV v F rc sz)) (va_Qi (fun (r : Int32) (u : Unit) => True) (fun (_ : Unit) => BX dC dI g c (v, F, rc)) (AX g sz)) 0 0 (AX g sz) := by
  refine Met.ofW (cc := cX11_count) (maxL := 2) (ret := (some .int)) (by decide) rfl ?_
  intro p e s m args below meth c0 s₁ B hml hv
  obtain ⟨rfl, hsz, hP, hK, hE⟩ := hv
  have hx := B.exec
  have hb := B.bytes
  have hr := B.returns
  have hts := atoms_spec (ws := Cond.code yX11_count cX11_count 2 (some .int) :: wA) B.pre
  have hwd : ∀ w ∈ wA, w.before _ s = true := fun w h => hts w (List.mem_cons_of_mem _ h)
  have hown : s.vm.findClass RX11 = some m.cls := findClass_of_methodNamed B.named
  have hlocks := B.notSynchronized
  subst hsz
  have hl := lv_entry ([.ref (g 0), .int p0]) (n := 2) (Nat.le_of_ble_eq_true rfl)
  rw [lg_entry_eq]
  generalize (lg_sl ([.ref (g 0), .int p0]) ++ List.replicate (2 - (lg_sl ([.ref (g 0), .int p0])).length) Slot.unset).toArray = ls at hl ⊢
  have hl : lv_has ls 2 [(0, .ref (g 0)), (1, .int p0)] := hl
  obtain ⟨H, eH⟩ : ∃ z, z = s.heap := ⟨_, rfl⟩
  have hP : va_P (dC, dI) classes (wX g c v F rc) H := by rw [eH]; exact hP
  have hS : va_S (AX g s.heap.size) s.heap H [] := by rw [eH]; exact va_S.rf
  refine my_heap eH ?_
  have rp0 := i32_rng p0
  refine lv_iload_n hx hb dX11_count_0 rfl (lv_at hl 1 rfl) ?_
  by_cases hlo2984 : p0.toInt < 0
  · refine lv_tableOut (tgt := 172) hx hb dX11_count_1 (Or.inl hlo2984) (by decide) ?_
    refine lv_iconst (v := (-1)) hx hb dX11_count_172 (by decide) ?_
    have hP9 : va_P (dC, dI) classes (wX g c v F rc) H := hP
    exact W.iret (v := (-1)) hx hb hr (fun t ht hW => ⟨⟨(-1), (), rfl, trivial, (by show va_P _ _ _ t.heap; rw [ht]; exact hP9)⟩, hS.F ht⟩) hS.2.2 dX11_count_173
  by_cases hhi2985 : 12 < p0.toInt
  · refine lv_tableOut (tgt := 172) hx hb dX11_count_1 (Or.inr hhi2985) (by decide) ?_
    refine lv_iconst (v := (-1)) hx hb dX11_count_172 (by decide) ?_
    have hP9 : va_P (dC, dI) classes (wX g c v F rc) H := hP
    exact W.iret (v := (-1)) hx hb hr (fun t ht hW => ⟨⟨(-1), (), rfl, trivial, (by show va_P _ _ _ t.heap; rw [ht]; exact hP9)⟩, hS.F ht⟩) hS.2.2 dX11_count_173
  rcases (show p0.toInt = 0 ∨ p0.toInt = 1 ∨ p0.toInt = 2 ∨ p0.toInt = 3 ∨ p0.toInt = 4 ∨ p0.toInt = 5 ∨ p0.toInt = 6 ∨ p0.toInt = 7 ∨ p0.toInt = 8 ∨ p0.toInt = 9 ∨ p0.toInt = 10 ∨ p0.toInt = 11 ∨ p0.toInt = 12 by omega) with hk | hk | hk | hk | hk | hk | hk | hk | hk | hk | hk | hk | hk
  · refine lv_tableIn (off := 67) (tgt := 68) hx hb dX11_count_1 hlo2984 hhi2985 (by rw [hk]; decide) (by decide) ?_
    refine lv_aload_n hx hb dX11_count_68 rfl (lv_at hl 0 rfl) ?_
    refine va_get (D := (dC, dI)) (ci := 11) (v := .ref (g 1)) (C := RX11) (T := TX11) (N := 14) hx hb hwd inA_X11 hown hK hP 0 rfl rfl 0 (by decide) (hwd _ wk_15) (fun _ h9 => h9) rfl dX11_count_69 ?_
    refine va_get (D := (dC, dI)) (ci := 2) (v := .int (v 20)) (C := RX2) (T := TX2) (N := 4) hx hb hwd inA_X2 hown hK hP 1 rfl rfl 0 (by decide) (hwd _ wk_457) (fun _ h9 => h9) rfl dX11_count_72 ?_
    have t2986 : 0 ≤ (v 20).toInt ∧ (v 20).toInt ≤ 10 := hI.1 20 _ _ rfl
    have hP9 : va_P (dC, dI) classes (wX g c v F rc) H := hP
    exact W.iret (v := v 20) hx hb hr (fun t ht hW => ⟨⟨(v 20), (), rfl, trivial, (by show va_P _ _ _ t.heap; rw [ht]; exact hP9)⟩, hS.F ht⟩) hS.2.2 dX11_count_75
  · refine lv_tableIn (off := 75) (tgt := 76) hx hb dX11_count_1 hlo2984 hhi2985 (by rw [hk]; decide) (by decide) ?_
    refine lv_aload_n hx hb dX11_count_76 rfl (lv_at hl 0 rfl) ?_
    refine va_get (D := (dC, dI)) (ci := 11) (v := .ref (g 2)) (C := RX11) (T := TX11) (N := 14) hx hb hwd inA_X11 hown hK hP 0 rfl rfl 1 (by decide) (hwd _ wk_19) (fun _ h9 => h9) rfl dX11_count_77 ?_
    refine va_get (D := (dC, dI)) (ci := 8) (v := .int (v 40)) (C := RX8) (T := TX8) (N := 10) hx hb hwd inA_X8 hown hK hP 2 rfl rfl 0 (by decide) (hwd _ wk_1421) (fun _ h9 => h9) rfl dX11_count_80 ?_
    have t2987 : 0 ≤ (v 40).toInt ∧ (v 40).toInt ≤ 10 := hI.1 40 _ _ rfl
    have hP9 : va_P (dC, dI) classes (wX g c v F rc) H := hP
    exact W.iret (v := v 40) hx hb hr (fun t ht hW => ⟨⟨(v 40), (), rfl, trivial, (by show va_P _ _ _ t.heap; rw [ht]; exact hP9)⟩, hS.F ht⟩) hS.2.2 dX11_count_83
  · refine lv_tableIn (off := 83) (tgt := 84) hx hb dX11_count_1 hlo2984 hhi2985 (by rw [hk]; decide) (by decide) ?_
    refine lv_aload_n hx hb dX11_count_84 rfl (lv_at hl 0 rfl) ?_
    refine va_get (D := (dC, dI)) (ci := 11) (v := .ref (g 3)) (C := RX11) (T := TX11) (N := 14) hx hb hwd inA_X11 hown hK hP 0 rfl rfl 2 (by decide) (hwd _ wk_27) (fun _ h9 => h9) rfl dX11_count_85 ?_
    refine va_get (D := (dC, dI)) (ci := 7) (v := .int (v 61)) (C := RX7) (T := TX7) (N := 7) hx hb hwd inA_X7 hown hK hP 3 rfl rfl 1 (by decide) (hwd _ wk_561) (fun _ h9 => h9) rfl dX11_count_88 ?_
    have t2988 : 0 ≤ (v 61).toInt ∧ (v 61).toInt ≤ 100 := hI.1 61 _ _ rfl
    have hP9 : va_P (dC, dI) classes (wX g c v F rc) H := hP
    exact W.iret (v := v 61) hx hb hr (fun t ht hW => ⟨⟨(v 61), (), rfl, trivial, (by show va_P _ _ _ t.heap; rw [ht]; exact hP9)⟩, hS.F ht⟩) hS.2.2 dX11_count_91
  · refine lv_tableIn (off := 91) (tgt := 92) hx hb dX11_count_1 hlo2984 hhi2985 (by rw [hk]; decide) (by decide) ?_
    refine lv_aload_n hx hb dX11_count_92 rfl (lv_at hl 0 rfl) ?_
    refine va_get (D := (dC, dI)) (ci := 11) (v := .int (v 11)) (C := RX11) (T := TX11) (N := 14) hx hb hwd inA_X11 hown hK hP 0 rfl rfl 11 (by decide) (hwd _ wk_323) (fun _ h9 => h9) rfl dX11_count_93 ?_
    have t2989 : 0 ≤ (v 11).toInt ∧ (v 11).toInt ≤ 9999 := hI.1 11 _ _ rfl
    have hP9 : va_P (dC, dI) classes (wX g c v F rc) H := hP
    exact W.iret (v := v 11) hx hb hr (fun t ht hW => ⟨⟨(v 11), (), rfl, trivial, (by show va_P _ _ _ t.heap; rw [ht]; exact hP9)⟩, hS.F ht⟩) hS.2.2 dX11_count_96
  · refine lv_tableIn (off := 96) (tgt := 97) hx hb dX11_count_1 hlo2984 hhi2985 (by rw [hk]; decide) (by decide) ?_
    refine lv_aload_n hx hb dX11_count_97 rfl (lv_at hl 0 rfl) ?_
    refine va_get (D := (dC, dI)) (ci := 11) (v := .ref (g 6)) (C := RX11) (T := TX11) (N := 14) hx hb hwd inA_X11 hown hK hP 0 rfl rfl 5 (by decide) (hwd _ wk_35) (fun _ h9 => h9) rfl dX11_count_98 ?_
    refine va_get (D := (dC, dI)) (ci := 4) (v := .int (v 120)) (C := RX4) (T := TX4) (N := 7) hx hb hwd inA_X4 hown hK hP 6 rfl rfl 0 (by decide) (hwd _ wk_844) (fun _ h9 => h9) rfl dX11_count_101 ?_
    have t2990 : 0 ≤ (v 120).toInt ∧ (v 120).toInt ≤ 10 := hI.1 120 _ _ rfl
    have hP9 : va_P (dC, dI) classes (wX g c v F rc) H := hP
    exact W.iret (v := v 120) hx hb hr (fun t ht hW => ⟨⟨(v 120), (), rfl, trivial, (by show va_P _ _ _ t.heap; rw [ht]; exact hP9)⟩, hS.F ht⟩) hS.2.2 dX11_count_104
  · refine lv_tableIn (off := 104) (tgt := 105) hx hb dX11_count_1 hlo2984 hhi2985 (by rw [hk]; decide) (by decide) ?_
    refine lv_aload_n hx hb dX11_count_105 rfl (lv_at hl 0 rfl) ?_
    refine va_get (D := (dC, dI)) (ci := 11) (v := .ref (g 8)) (C := RX11) (T := TX11) (N := 14) hx hb hwd inA_X11 hown hK hP 0 rfl rfl 7 (by decide) (hwd _ wk_43) (fun _ h9 => h9) rfl dX11_count_106 ?_
    refine va_get (D := (dC, dI)) (ci := 6) (v := .int (v 161)) (C := RX6) (T := TX6) (N := 5) hx hb hwd inA_X6 hown hK hP 8 rfl rfl 1 (by decide) (hwd _ wk_1422) (fun _ h9 => h9) rfl dX11_count_109 ?_
    have t2991 : 0 ≤ (v 161).toInt ∧ (v 161).toInt ≤ 20 := hI.1 161 _ _ rfl
    have hP9 : va_P (dC, dI) classes (wX g c v F rc) H := hP
    exact W.iret (v := v 161) hx hb hr (fun t ht hW => ⟨⟨(v 161), (), rfl, trivial, (by show va_P _ _ _ t.heap; rw [ht]; exact hP9)⟩, hS.F ht⟩) hS.2.2 dX11_count_112
  · refine lv_tableIn (off := 112) (tgt := 113) hx hb dX11_count_1 hlo2984 hhi2985 (by rw [hk]; decide) (by decide) ?_
    refine lv_aload_n hx hb dX11_count_113 rfl (lv_at hl 0 rfl) ?_
    refine va_get (D := (dC, dI)) (ci := 11) (v := .ref (g 4)) (C := RX11) (T := TX11) (N := 14) hx hb hwd inA_X11 hown hK hP 0 rfl rfl 3 (by decide) (hwd _ wk_23) (fun _ h9 => h9) rfl dX11_count_114 ?_
    refine va_get (D := (dC, dI)) (ci := 9) (v := .int (v 80)) (C := RX9) (T := TX9) (N := 11) hx hb hwd inA_X9 hown hK hP 4 rfl rfl 0 (by decide) (hwd _ wk_1423) (fun _ h9 => h9) rfl dX11_count_117 ?_
    have t2992 : 0 ≤ (v 80).toInt ∧ (v 80).toInt ≤ 500 := hI.1 80 _ _ rfl
    have hP9 : va_P (dC, dI) classes (wX g c v F rc) H := hP
    exact W.iret (v := v 80) hx hb hr (fun t ht hW => ⟨⟨(v 80), (), rfl, trivial, (by show va_P _ _ _ t.heap; rw [ht]; exact hP9)⟩, hS.F ht⟩) hS.2.2 dX11_count_120
  · refine lv_tableIn (off := 120) (tgt := 121) hx hb dX11_count_1 hlo2984 hhi2985 (by rw [hk]; decide) (by decide) ?_
    refine lv_aload_n hx hb dX11_count_121 rfl (lv_at hl 0 rfl) ?_
    refine va_get (D := (dC, dI)) (ci := 11) (v := .ref (g 5)) (C := RX11) (T := TX11) (N := 14) hx hb hwd inA_X11 hown hK hP 0 rfl rfl 4 (by decide) (hwd _ wk_31) (fun _ h9 => h9) rfl dX11_count_122 ?_
    refine va_get (D := (dC, dI)) (ci := 10) (v := .int (v 100)) (C := RX10) (T := TX10) (N := 2) hx hb hwd inA_X10 hown hK hP 5 rfl rfl 0 (by decide) (hwd _ wk_846) (fun _ h9 => h9) rfl dX11_count_125 ?_
    have t2993 : 0 ≤ (v 100).toInt ∧ (v 100).toInt ≤ 120 := hI.1 100 _ _ rfl
    have hP9 : va_P (dC, dI) classes (wX g c v F rc) H := hP
    exact W.iret (v := v 100) hx hb hr (fun t ht hW => ⟨⟨(v 100), (), rfl, trivial, (by show va_P _ _ _ t.heap; rw [ht]; exact hP9)⟩, hS.F ht⟩) hS.2.2 dX11_count_128
  · refine lv_tableIn (off := 128) (tgt := 129) hx hb dX11_count_1 hlo2984 hhi2985 (by rw [hk]; decide) (by decide) ?_
    refine lv_aload_n hx hb dX11_count_129 rfl (lv_at hl 0 rfl) ?_
    refine va_get (D := (dC, dI)) (ci := 11) (v := .ref (g 3)) (C := RX11) (T := TX11) (N := 14) hx hb hwd inA_X11 hown hK hP 0 rfl rfl 2 (by decide) (hwd _ wk_27) (fun _ h9 => h9) rfl dX11_count_130 ?_
    refine lv_bipush (v := 12) hx hb dX11_count_133 (by decide) ?_
    refine va_calli (va_runV (As := [.int 12]) (rest := []) ⟨hx, hb, hml, hown, hwd⟩ (c_X7_countAt l dC dI g c adK adV v F rc H.size 12 hg hI ) (cwV 1 hwd (gV wk_346 wk_537 wk_344 wk_345 wk_26) rfl rfl rfl (by decide +kernel) ⟨Nat.le_of_ble_eq_true rfl, Nat.le_of_ble_eq_true rfl⟩) ⟨PX.blind, va_recv hK hP (ci := 7) (q0 := 3) rfl rfl, fun U hU hW => ⟨rfl, PX.at hK hE hP hS hU hW⟩⟩ rfl rfl hl.1 rfl (lv_room (Nat.le_of_ble_eq_true rfl)) dX11_count_135 ⟨Nat.le_of_ble_eq_true rfl, Nat.le_of_ble_eq_true rfl⟩) hS (fun q _ h => (freeX hS) q h) (freeX hS) (fun r2994 u t H1 locs ht hvm hw hB hz1 hk1 hS => ?_)
    unfold BX at hB
    rw [ht] at hB
    have hP : va_P (dC, dI) classes (wX g c v F rc) H1 := hB
    generalize H1 = H at hP hS ⊢
    have rr_r2994 := i32_rng r2994
    have hP9 : va_P (dC, dI) classes (wX g c v F rc) H := hP
    exact W.iret (v := r2994) hx hb hr (fun t ht hW => ⟨⟨r2994, (), rfl, trivial, (by show va_P _ _ _ t.heap; rw [ht]; exact hP9)⟩, hS.F ht⟩) hS.2.2 dX11_count_138
  · refine lv_tableIn (off := 138) (tgt := 139) hx hb dX11_count_1 hlo2984 hhi2985 (by rw [hk]; decide) (by decide) ?_
    refine lv_aload_n hx hb dX11_count_139 rfl (lv_at hl 0 rfl) ?_
    refine va_get (D := (dC, dI)) (ci := 11) (v := .ref (g 3)) (C := RX11) (T := TX11) (N := 14) hx hb hwd inA_X11 hown hK hP 0 rfl rfl 2 (by decide) (hwd _ wk_27) (fun _ h9 => h9) rfl dX11_count_140 ?_
    refine lv_bipush (v := 11) hx hb dX11_count_143 (by decide) ?_
    refine va_calli (va_runV (As := [.int 11]) (rest := []) ⟨hx, hb, hml, hown, hwd⟩ (c_X7_countAt l dC dI g c adK adV v F rc H.size 11 hg hI ) (cwV 1 hwd (gV wk_346 wk_537 wk_344 wk_345 wk_26) rfl rfl rfl (by decide +kernel) ⟨Nat.le_of_ble_eq_true rfl, Nat.le_of_ble_eq_true rfl⟩) ⟨PX.blind, va_recv hK hP (ci := 7) (q0 := 3) rfl rfl, fun U hU hW => ⟨rfl, PX.at hK hE hP hS hU hW⟩⟩ rfl rfl hl.1 rfl (lv_room (Nat.le_of_ble_eq_true rfl)) dX11_count_145 ⟨Nat.le_of_ble_eq_true rfl, Nat.le_of_ble_eq_true rfl⟩) hS (fun q _ h => (freeX hS) q h) (freeX hS) (fun r2995 u t H1 locs ht hvm hw hB hz1 hk1 hS => ?_)
    unfold BX at hB
    rw [ht] at hB
    have hP : va_P (dC, dI) classes (wX g c v F rc) H1 := hB
    generalize H1 = H at hP hS ⊢
    have rr_r2995 := i32_rng r2995
    have hP9 : va_P (dC, dI) classes (wX g c v F rc) H := hP
    exact W.iret (v := r2995) hx hb hr (fun t ht hW => ⟨⟨r2995, (), rfl, trivial, (by show va_P _ _ _ t.heap; rw [ht]; exact hP9)⟩, hS.F ht⟩) hS.2.2 dX11_count_148
  · refine lv_tableIn (off := 148) (tgt := 149) hx hb dX11_count_1 hlo2984 hhi2985 (by rw [hk]; decide) (by decide) ?_
    refine lv_aload_n hx hb dX11_count_149 rfl (lv_at hl 0 rfl) ?_
    refine va_get (D := (dC, dI)) (ci := 11) (v := .ref (g 3)) (C := RX11) (T := TX11) (N := 14) hx hb hwd inA_X11 hown hK hP 0 rfl rfl 2 (by decide) (hwd _ wk_27) (fun _ h9 => h9) rfl dX11_count_150 ?_
    refine lv_bipush (v := 10) hx hb dX11_count_153 (by decide) ?_
    refine va_calli (va_runV (As := [.int 10]) (rest := []) ⟨hx, hb, hml, hown, hwd⟩ (c_X7_countAt l dC dI g c adK adV v F rc H.size 10 hg hI ) (cwV 1 hwd (gV wk_346 wk_537 wk_344 wk_345 wk_26) rfl rfl rfl (by decide +kernel) ⟨Nat.le_of_ble_eq_true rfl, Nat.le_of_ble_eq_true rfl⟩) ⟨PX.blind, va_recv hK hP (ci := 7) (q0 := 3) rfl rfl, fun U hU hW => ⟨rfl, PX.at hK hE hP hS hU hW⟩⟩ rfl rfl hl.1 rfl (lv_room (Nat.le_of_ble_eq_true rfl)) dX11_count_155 ⟨Nat.le_of_ble_eq_true rfl, Nat.le_of_ble_eq_true rfl⟩) hS (fun q _ h => (freeX hS) q h) (freeX hS) (fun r2996 u t H1 locs ht hvm hw hB hz1 hk1 hS => ?_)
    unfold BX at hB
    rw [ht] at hB
    have hP : va_P (dC, dI) classes (wX g c v F rc) H1 := hB
    generalize H1 = H at hP hS ⊢
    have rr_r2996 := i32_rng r2996
    have hP9 : va_P (dC, dI) classes (wX g c v F rc) H := hP
    exact W.iret (v := r2996) hx hb hr (fun t ht hW => ⟨⟨r2996, (), rfl, trivial, (by show va_P _ _ _ t.heap; rw [ht]; exact hP9)⟩, hS.F ht⟩) hS.2.2 dX11_count_158
  · refine lv_tableIn (off := 158) (tgt := 159) hx hb dX11_count_1 hlo2984 hhi2985 (by rw [hk]; decide) (by decide) ?_
    refine lv_aload_n hx hb dX11_count_159 rfl (lv_at hl 0 rfl) ?_
    refine va_get (D := (dC, dI)) (ci := 11) (v := .ref (g 2)) (C := RX11) (T := TX11) (N := 14) hx hb hwd inA_X11 hown hK hP 0 rfl rfl 1 (by decide) (hwd _ wk_19) (fun _ h9 => h9) rfl dX11_count_160 ?_
    refine va_calli (va_runV (As := []) (rest := []) ⟨hx, hb, hml, hown, hwd⟩ (c_X8_backs l dC dI g c adK adV v F rc H.size  hg hI ) (cwV 0 hwd (gV wk_1427 wk_1424 wk_1425 wk_1426 wk_18) rfl rfl rfl (by decide +kernel) ⟨Nat.le_of_ble_eq_true rfl, Nat.le_of_ble_eq_true rfl⟩) ⟨PX.blind, va_recv hK hP (ci := 8) (q0 := 2) rfl rfl, fun U hU hW => ⟨rfl, PX.at hK hE hP hS hU hW⟩⟩ rfl rfl hl.1 rfl (lv_room (Nat.le_of_ble_eq_true rfl)) dX11_count_163 ⟨Nat.le_of_ble_eq_true rfl, Nat.le_of_ble_eq_true rfl⟩) hS (fun q _ h => (freeX hS) q h) (freeX hS) (fun r2997 u t H1 locs ht hvm hw hB hz1 hk1 hS => ?_)
    unfold BX at hB
    rw [ht] at hB
    have hP : va_P (dC, dI) classes (wX g c v F rc) H1 := hB
    generalize H1 = H at hP hS ⊢
    have rr_r2997 := i32_rng r2997
    have hP9 : va_P (dC, dI) classes (wX g c v F rc) H := hP
    exact W.iret (v := r2997) hx hb hr (fun t ht hW => ⟨⟨r2997, (), rfl, trivial, (by show va_P _ _ _ t.heap; rw [ht]; exact hP9)⟩, hS.F ht⟩) hS.2.2 dX11_count_166
  · refine lv_tableIn (off := 166) (tgt := 167) hx hb dX11_count_1 hlo2984 hhi2985 (by rw [hk]; decide) (by decide) ?_
    refine lv_aload_n hx hb dX11_count_167 rfl (lv_at hl 0 rfl) ?_
    refine va_get (D := (dC, dI)) (ci := 11) (v := .int (v 12)) (C := RX11) (T := TX11) (N := 14) hx hb hwd inA_X11 hown hK hP 0 rfl rfl 12 (by decide) (hwd _ wk_1330) (fun _ h9 => h9) rfl dX11_count_168 ?_
    have hP9 : va_P (dC, dI) classes (wX g c v F rc) H := hP
    exact W.iret (v := v 12) hx hb hr (fun t ht hW => ⟨⟨(v 12), (), rfl, trivial, (by show va_P _ _ _ t.heap; rw [ht]; exact hP9)⟩, hS.F ht⟩) hS.2.2 dX11_count_171
set_option maxHeartbeats 8000000 in
set_option maxRecDepth 100000 in
theorem c_X11_feed (l : Launch) (dC : Nat → ClassId) (dI : Nat → Nat → Nat) (g : Nat → Nat) (c : Nat → ClassId) (adK adV : Nat → Nat) (v : Nat → Int32) (F : Nat → Nat → Int32) (rc sz : Nat) (p0 : Int32) (p1 : Int32) (hg : injX g) (hI : IX v F) : Met l yX11_feed (Cond.code yX11_feed cX11_feed 3 (some .int) :: wA) ({ frames := 2, cells := 0, slots := 0, locals := 80 }) (va_Pc [.ref (g 0), .int p0, .int p1] (PX dC dI g c adK adV v F rc sz)) (va_Qi (fun (r : Int32) (u : StX) => IX u.1 u.2.1 ∧ alX u.1 u.2.1 = alX v F ∧ u.2.2 = rc ∧ (∀ k, k ∉ ([100] : List Nat) → u.1 k = v k) ∧ True) (BX dC dI g c) (AX g sz)) 0 0 (AX g sz) := by
  refine Met.ofW (cc := cX11_feed) (maxL := 3) (ret := (some .int)) (by decide) rfl ?_
  intro p e s m args below meth c0 s₁ B hml hv
  obtain ⟨rfl, hsz, hP, hK, hE⟩ := hv
  have hx := B.exec
  have hb := B.bytes
  have hr := B.returns
  have hts := atoms_spec (ws := Cond.code yX11_feed cX11_feed 3 (some .int) :: wA) B.pre
  have hwd : ∀ w ∈ wA, w.before _ s = true := fun w h => hts w (List.mem_cons_of_mem _ h)
  have hown : s.vm.findClass RX11 = some m.cls := findClass_of_methodNamed B.named
  have hlocks := B.notSynchronized
  subst hsz
  have hl := lv_entry ([.ref (g 0), .int p0, .int p1]) (n := 3) (Nat.le_of_ble_eq_true rfl)
  rw [lg_entry_eq]
  generalize (lg_sl ([.ref (g 0), .int p0, .int p1]) ++ List.replicate (3 - (lg_sl ([.ref (g 0), .int p0, .int p1])).length) Slot.unset).toArray = ls at hl ⊢
  have hl : lv_has ls 3 [(0, .ref (g 0)), (1, .int p0), (2, .int p1)] := hl
  obtain ⟨H, eH⟩ : ∃ z, z = s.heap := ⟨_, rfl⟩
  have hP : va_P (dC, dI) classes (wX g c v F rc) H := by rw [eH]; exact hP
  have hS : va_S (AX g s.heap.size) s.heap H [] := by rw [eH]; exact va_S.rf
  refine my_heap eH ?_
  have hal : alX v F = alX v F := rfl
  have rp0 := i32_rng p0
  have rp1 := i32_rng p1
  refine lv_iload_n hx hb dX11_feed_0 rfl (lv_at hl 1 rfl) ?_
  refine lv_iconst (v := 1) hx hb dX11_feed_1 (by decide) ?_
  refine lv_iconst (v := 4) hx hb dX11_feed_2 (by decide) ?_
  refine va_calli (va_runS (As := [.int p0, .int 1, .int 4]) (rest := []) ⟨hx, hb, hml, hown, hwd⟩ (c_X11_within l dC dI g c adK adV v F rc H.size p0 1 4 hg hI ) (va_cwS 3 hwd (gT wk_239 wk_237 wk_238 wk_2) rfl rfl rfl (by decide +kernel) ⟨Nat.le_of_ble_eq_true rfl, Nat.le_of_ble_eq_true rfl⟩) ⟨PX.blind, fun U hU hW => ⟨rfl, PX.at hK hE hP hS hU hW⟩⟩ rfl rfl hl.1 rfl (lv_room (Nat.le_of_ble_eq_true rfl)) dX11_feed_3 ⟨Nat.le_of_ble_eq_true rfl, Nat.le_of_ble_eq_true rfl⟩) hS (fun q _ h => (freeX hS) q h) (freeX hS) (fun r2998 u t H1 locs ht hvm hw hB hz1 hk1 hS => ?_)
  unfold BX at hB
  rw [ht] at hB
  have hP : va_P (dC, dI) classes (wX g c v F rc) H1 := hB
  have hw : (r2998.toInt = 1 ∧ (1 : Int32).toInt ≤ p0.toInt ∧ p0.toInt ≤ (4 : Int32).toInt) ∨ (r2998.toInt = 0 ∧ (p0.toInt < (1 : Int32).toInt ∨ (4 : Int32).toInt < p0.toInt)) := hw
  have k2999 : (1 : Int32).toInt = 1 := by decide
  have k3000 : (4 : Int32).toInt = 4 := by decide
  generalize H1 = H at hP hS ⊢
  have hw_r2998 := hw
  refine lv_if_ne (tgt := 11) hx hb dX11_feed_6 (by decide) (fun c3001 => ?_) (fun c3001 => ?_)
  · skip
    have t3002 := cv_ne (a := r2998.toInt) rfl (b := 0) (by decide) c3001
    refine lv_aload_n hx hb dX11_feed_11 rfl (lv_at hl 0 rfl) ?_
    refine va_get (D := (dC, dI)) (ci := 11) (v := .ref (g 5)) (C := RX11) (T := TX11) (N := 14) hx hb hwd inA_X11 hown hK hP 0 rfl rfl 4 (by decide) (hwd _ wk_31) (fun _ h9 => h9) rfl dX11_feed_12 ?_
    refine lv_iload_n hx hb dX11_feed_15 rfl (lv_at hl 1 rfl) ?_
    refine lv_iload_n hx hb dX11_feed_16 rfl (lv_at hl 2 rfl) ?_
    refine va_calli (va_runV (As := [.int p0, .int p1]) (rest := []) ⟨hx, hb, hml, hown, hwd⟩ (c_X10_take l dC dI g c adK adV v F rc H.size p0 p1 hg hI (by omega)) (cwV 2 hwd (gV wk_833 wk_830 wk_831 wk_832 wk_30) rfl rfl rfl (by decide +kernel) ⟨Nat.le_of_ble_eq_true rfl, Nat.le_of_ble_eq_true rfl⟩) ⟨PX.blind, va_recv hK hP (ci := 10) (q0 := 5) rfl rfl, fun U hU hW => ⟨rfl, PX.at hK hE hP hS hU hW⟩⟩ rfl rfl hl.1 rfl (lv_room (Nat.le_of_ble_eq_true rfl)) dX11_feed_17 ⟨Nat.le_of_ble_eq_true rfl, Nat.le_of_ble_eq_true rfl⟩) hS (fun q _ h => (freeX hS) q h) (freeX hS) (fun r3003 u t H1 locs ht hvm hw hB hz1 hk1 hS => ?_)
    unfold BX at hB
    rw [ht] at hB
    obtain ⟨v3004, F3005, rc9⟩ := u
    obtain ⟨hI, hal9, hrc, hf3006, hw⟩ := hw
    dsimp only at hI hal9 hrc hB hf3006 hw
    rw [hrc] at hB
    have hal := hal9.trans hal
    have hP : va_P (dC, dI) classes (wX g c v3004 F3005 rc) H1 := hB
    generalize H1 = H at hP hS ⊢
    have rr_r3003 := i32_rng r3003
    have hP9 : va_P (dC, dI) classes (wX g c v3004 F3005 rc) H := hP
    exact W.iret (v := r3003) hx hb hr (fun t ht hW => ⟨⟨r3003, (v3004, F3005, rc), rfl, ⟨hI, hal, rfl, (frC (by decide) hf3006 (fun _ _ => rfl)), trivial⟩, (by show va_P _ _ _ t.heap; rw [ht]; exact hP9)⟩, hS.F ht⟩) hS.2.2 dX11_feed_20
  · skip
    have t3007 := cv_eq (a := r2998.toInt) rfl (b := 0) (by decide) c3001
    refine lv_iconst (v := (-1)) hx hb dX11_feed_9 (by decide) ?_
    have hP9 : va_P (dC, dI) classes (wX g c v F rc) H := hP
    exact W.iret (v := (-1)) hx hb hr (fun t ht hW => ⟨⟨(-1), (v, F, rc), rfl, ⟨hI, hal, rfl, (fun _ _ => rfl), trivial⟩, (by show va_P _ _ _ t.heap; rw [ht]; exact hP9)⟩, hS.F ht⟩) hS.2.2 dX11_feed_10
