set_option maxHeartbeats 4000000 in
set_option maxRecDepth 100000 in
theorem law_case_9 {p : Program} {l : Launch} {e : Env} {s : State} {m : MethodId} {below : List Frame} {meth : Method} {c : Code} {dC : Nat → ClassId} {dI : Nat → Nat → Nat} {b L : Nat} {xs : Nat → Int32} {gX gM adK adV : Nat → Nat} {cX cM : Nat → ClassId} (hL : L ≤ 3584) (C0 : lw_At p s m meth c b L xs) (hLS : LSta s dC dI gX cX gM cM adK adV) {i : Int32} (hi : 0 ≤ i.toInt ∧ i.toInt + 7 ≤ (L : Int)) {v : Nat → Int32} {F : Nat → Nat → Int32} {rc : Nat} {v' : Nat → Int32} {F' : Nat → Nat → Int32} {H : Heap} {locs : List Loc} {ls : Array Slot} (hLI : LI v F v' F') (hPX : va_P (dC, dI) classes (wX gX cX v F rc) H) (hPM : va_P (dC, dI) classes (wM gM cM v' F' 0) H) (hS : va_S (fun q : Nat => s.heap.size ≤ q) s.heap H locs) (hl : lv_has ls 4 [(3, .int i), (2, .ref (gM 0)), (1, .ref (gX 0)), (0, .ref b)]) (hK : ∀ (v : Nat → Int32) (F : Nat → Nat → Int32) (rc : Nat) (v' : Nat → Int32) (F' : Nat → Nat → Int32) (H : Heap) (locs : List Loc) (ls : Array Slot), LI v F v' F' → va_P (dC, dI) classes (wX gX cX v F rc) H → va_P (dC, dI) classes (wM gM cM v' F' 0) H → va_S (fun q : Nat => s.heap.size ≤ q) s.heap H locs → lv_has ls 4 [(3, .int i), (2, .ref (gM 0)), (1, .ref (gX 0)), (0, .ref b)] → W p l e room_1 s m #[Value.ref b] below meth c H locs 126 19787 (lw_Z below #[Value.ref b] s) (F0 m 1485 ls [])) : W p l e room_1 s m #[Value.ref b] below meth c H locs 126 19787 (lw_Z below #[Value.ref b] s) (F0 m 535 ls []) := by
  obtain ⟨hx, hb, hr, hml, hown, hts, hX, hbl, hlocks, hgv⟩ := id C0
  have hown : s.vm.findClass RL = some m.cls := hown
  have hwd : ∀ w ∈ wA, w.before #[Value.ref b] s = true := fun w h => hts w (wA_in w h)
  have hbA : ¬ (fun q : Nat => s.heap.size ≤ q) b := Nat.not_le.mpr hbl
  refine lv_aload_n hx hb dL_law_535 rfl (lv_at hl 2 rfl) ?_
  refine lv_aload_n hx hb dL_law_536 rfl (lv_at hl 3 rfl) ?_
  refine lv_iload_n hx hb dL_law_537 rfl (lv_at hl 0 rfl) ?_
  refine lv_iconst (v := 1) hx hb dL_law_538 (by decide) ?_
  refine lv_iadd hx hb dL_law_539 ?_
  refine lv_topi (fun z1 ez1 => ?_)
  have tz1 := tadd ez1 rfl (b := 1) (by decide) (by omega)
  refine va_sld hx hb hX hbl hbA hS (i := z1) (vin rfl (by omega)) dL_law_540 ?_
  refine lv_topi (fun a1 ea1 => ?_)
  refine lv_aload_n hx hb dL_law_541 rfl (lv_at hl 3 rfl) ?_
  refine lv_iload_n hx hb dL_law_542 rfl (lv_at hl 0 rfl) ?_
  refine lv_iconst (v := 2) hx hb dL_law_543 (by decide) ?_
  refine lv_iadd hx hb dL_law_544 ?_
  refine lv_topi (fun z2 ez2 => ?_)
  have tz2 := tadd ez2 rfl (b := 2) (by decide) (by omega)
  refine va_sld hx hb hX hbl hbA hS (i := z2) (vin rfl (by omega)) dL_law_545 ?_
  refine lv_topi (fun a2 ea2 => ?_)
  refine va_calli (va_runV (As := [.int a1, .int a2]) (rest := []) ⟨hx, hb, hml, hown, hwd⟩ (c_X11_swap l dC dI gX cX adK adV v F rc H.size a1 a2 hLS.1 hLI.1) (cwV 2 hwd (gV wk_643 wk_640 wk_641 wk_642 wk_2) rfl rfl rfl (by decide +kernel) ⟨Nat.le_of_ble_eq_true rfl, Nat.le_of_ble_eq_true rfl⟩) ⟨PX.blind, va_recv hLS.2.2.2.2.2.1 hPX (ci := 11) (q0 := 0) rfl rfl, fun U hU hW => ⟨rfl, by rw [hU], by rw [hU]; exact hPX, va_K.moved hW.alike hLS.2.2.2.2.2.1, hLS.2.2.2.2.2.2.2.at hS (hLS.fX hS.1) hU hW⟩⟩ rfl rfl hl.1 rfl (lv_room (Nat.le_of_ble_eq_true rfl)) dL_law_546 ⟨Nat.le_of_ble_eq_true rfl, Nat.le_of_ble_eq_true rfl⟩) hS (fun q _ h => (hLS.fX hS.1) q h) (hLS.fX hS.1) (fun r1 u t H1 locs ht hvm hw hB hz1 hk1 hS => ?_)
  unfold BX at hB
  rw [ht] at hB
  have hPM := hLS.kM hPM hk1
  obtain ⟨v1, F1, rc1⟩ := u
  obtain ⟨hI1, hal1, -, -, -⟩ := hw
  dsimp only at hI1 hal1 hB
  have q1 := alX_c hal1
  have hPX : va_P (dC, dI) classes (wX gX cX v1 F1 rc1) H1 := hB
  generalize H1 = H at hPX hPM hS ⊢
  refine lv_pop hx hb dL_law_549 rfl ?_
  refine lv_aload_n hx hb dL_law_550 rfl (lv_at hl 1 rfl) ?_
  refine lv_aload_n hx hb dL_law_551 rfl (lv_at hl 3 rfl) ?_
  refine lv_iload_n hx hb dL_law_552 rfl (lv_at hl 0 rfl) ?_
  refine lv_iconst (v := 1) hx hb dL_law_553 (by decide) ?_
  refine lv_iadd hx hb dL_law_554 ?_
  refine lv_topi (fun z3 ez3 => ?_)
  have tz3 := tadd ez3 rfl (b := 1) (by decide) (by omega)
  refine va_sld hx hb hX hbl hbA hS (i := z3) (vin rfl (by omega)) dL_law_555 ?_
  refine my_top (v := a1) (by rw [ea1, ez3, ez1]) ?_
  refine lv_aload_n hx hb dL_law_556 rfl (lv_at hl 3 rfl) ?_
  refine lv_iload_n hx hb dL_law_557 rfl (lv_at hl 0 rfl) ?_
  refine lv_iconst (v := 2) hx hb dL_law_558 (by decide) ?_
  refine lv_iadd hx hb dL_law_559 ?_
  refine lv_topi (fun z4 ez4 => ?_)
  have tz4 := tadd ez4 rfl (b := 2) (by decide) (by omega)
  refine va_sld hx hb hX hbl hbA hS (i := z4) (vin rfl (by omega)) dL_law_560 ?_
  refine my_top (v := a2) (by rw [ea2, ez4, ez2]) ?_
  refine va_calli (va_runV (As := [.int a1, .int a2]) (rest := []) ⟨hx, hb, hml, hown, hwd⟩ (c_X12_swap l dC dI gM cM adK adV v' F' 0 H.size a1 a2 hLS.2.1 hLI.2.1 hLI.2.2.1) (cwV 2 hwd (gV wk_647 wk_644 wk_645 wk_646 wk_5) rfl rfl rfl (by decide +kernel) ⟨Nat.le_of_ble_eq_true rfl, Nat.le_of_ble_eq_true rfl⟩) ⟨PM.blind, va_recv hLS.2.2.2.2.2.2.1 hPM (ci := 12) (q0 := 0) rfl rfl, fun U hU hW => ⟨rfl, by rw [hU], by rw [hU]; exact hPM, va_K.moved hW.alike hLS.2.2.2.2.2.2.1, trivial⟩⟩ rfl rfl hl.1 rfl (lv_room (Nat.le_of_ble_eq_true rfl)) dL_law_561 ⟨Nat.le_of_ble_eq_true rfl, Nat.le_of_ble_eq_true rfl⟩) hS (fun q _ h => (hLS.fM hS.1) q h) (hLS.fM hS.1) (fun r2 u t H1 locs ht hvm hw hB hz1 hk1 hS => ?_)
  unfold BM at hB
  rw [ht] at hB
  have hPX := hLS.kX hPX hk1
  obtain ⟨v2, F2, rc2⟩ := u
  obtain ⟨hI2, hrc2, hf2, hG2, hw2⟩ := hw
  dsimp only at hI2 hrc2 hf2 hG2 hw2 hB
  rw [hrc2] at hB
  have hPM : va_P (dC, dI) classes (wM gM cM v2 F2 0) H1 := hB
  have g1 := congrArg Int32.toInt (hf2 1 (by decide))
  have g2 := congrArg Int32.toInt (hf2 2 (by decide))
  have g6 := congrArg Int32.toInt (hf2 6 (by decide))
  have g45 := congrArg Int32.toInt (hf2 45 (by decide))
  generalize H1 = H at hPX hPM hS ⊢
  have tie := hLI.2.2.2.2
  have hLI9 : LI v1 F1 v2 F2 := ⟨hI1, hI2, hw2, (JL.to hLI.2.2.2.1 (hf2 31 (by decide)) (hG2 28 (by decide)) (hG2 29 (by decide)) (hG2 27 (by decide))), by omega, by omega, by omega, by omega, (q1.2.1.trans (hLI.2.2.2.2.2.2.2.2.1.trans (hG2 44 (by decide)).symm)), (q1.2.2.trans (hLI.2.2.2.2.2.2.2.2.2.trans (hG2 45 (by decide)).symm))⟩
  refine lv_pop hx hb dL_law_564 rfl ?_
  refine lv_goto (tgt := 1485) hx hb dL_law_565 (by decide) ?_
  exact hK v1 F1 rc1 v2 F2 H _ ls hLI9 hPX hPM hS hl
set_option maxHeartbeats 4000000 in
set_option maxRecDepth 100000 in
theorem law_case_10 {p : Program} {l : Launch} {e : Env} {s : State} {m : MethodId} {below : List Frame} {meth : Method} {c : Code} {dC : Nat → ClassId} {dI : Nat → Nat → Nat} {b L : Nat} {xs : Nat → Int32} {gX gM adK adV : Nat → Nat} {cX cM : Nat → ClassId} (hL : L ≤ 3584) (C0 : lw_At p s m meth c b L xs) (hLS : LSta s dC dI gX cX gM cM adK adV) {i : Int32} (hi : 0 ≤ i.toInt ∧ i.toInt + 7 ≤ (L : Int)) {v : Nat → Int32} {F : Nat → Nat → Int32} {rc : Nat} {v' : Nat → Int32} {F' : Nat → Nat → Int32} {H : Heap} {locs : List Loc} {ls : Array Slot} (hLI : LI v F v' F') (hPX : va_P (dC, dI) classes (wX gX cX v F rc) H) (hPM : va_P (dC, dI) classes (wM gM cM v' F' 0) H) (hS : va_S (fun q : Nat => s.heap.size ≤ q) s.heap H locs) (hl : lv_has ls 4 [(3, .int i), (2, .ref (gM 0)), (1, .ref (gX 0)), (0, .ref b)]) (hK : ∀ (v : Nat → Int32) (F : Nat → Nat → Int32) (rc : Nat) (v' : Nat → Int32) (F' : Nat → Nat → Int32) (H : Heap) (locs : List Loc) (ls : Array Slot), LI v F v' F' → va_P (dC, dI) classes (wX gX cX v F rc) H → va_P (dC, dI) classes (wM gM cM v' F' 0) H → va_S (fun q : Nat => s.heap.size ≤ q) s.heap H locs → lv_has ls 4 [(3, .int i), (2, .ref (gM 0)), (1, .ref (gX 0)), (0, .ref b)] → W p l e room_1 s m #[Value.ref b] below meth c H locs 126 19787 (lw_Z below #[Value.ref b] s) (F0 m 1485 ls [])) : W p l e room_1 s m #[Value.ref b] below meth c H locs 126 19787 (lw_Z below #[Value.ref b] s) (F0 m 568 ls []) := by
  obtain ⟨hx, hb, hr, hml, hown, hts, hX, hbl, hlocks, hgv⟩ := id C0
  have hown : s.vm.findClass RL = some m.cls := hown
  have hwd : ∀ w ∈ wA, w.before #[Value.ref b] s = true := fun w h => hts w (wA_in w h)
  have hbA : ¬ (fun q : Nat => s.heap.size ≤ q) b := Nat.not_le.mpr hbl
  refine lv_aload_n hx hb dL_law_568 rfl (lv_at hl 2 rfl) ?_
  refine lv_aload_n hx hb dL_law_569 rfl (lv_at hl 3 rfl) ?_
  refine lv_iload_n hx hb dL_law_570 rfl (lv_at hl 0 rfl) ?_
  refine lv_iconst (v := 1) hx hb dL_law_571 (by decide) ?_
  refine lv_iadd hx hb dL_law_572 ?_
  refine lv_topi (fun z1 ez1 => ?_)
  have tz1 := tadd ez1 rfl (b := 1) (by decide) (by omega)
  refine va_sld hx hb hX hbl hbA hS (i := z1) (vin rfl (by omega)) dL_law_573 ?_
  refine lv_topi (fun a1 ea1 => ?_)
  refine lv_aload_n hx hb dL_law_574 rfl (lv_at hl 3 rfl) ?_
  refine lv_iload_n hx hb dL_law_575 rfl (lv_at hl 0 rfl) ?_
  refine lv_iconst (v := 2) hx hb dL_law_576 (by decide) ?_
  refine lv_iadd hx hb dL_law_577 ?_
  refine lv_topi (fun z2 ez2 => ?_)
  have tz2 := tadd ez2 rfl (b := 2) (by decide) (by omega)
  refine va_sld hx hb hX hbl hbA hS (i := z2) (vin rfl (by omega)) dL_law_578 ?_
  refine lv_topi (fun a2 ea2 => ?_)
  refine va_calli (va_runV (As := [.int a1, .int a2]) (rest := []) ⟨hx, hb, hml, hown, hwd⟩ (c_X11_repair l dC dI gX cX adK adV v F rc H.size a1 a2 hLS.1 hLI.1) (cwV 2 hwd (gV wk_651 wk_648 wk_649 wk_650 wk_2) rfl rfl rfl (by decide +kernel) ⟨Nat.le_of_ble_eq_true rfl, Nat.le_of_ble_eq_true rfl⟩) ⟨PX.blind, va_recv hLS.2.2.2.2.2.1 hPX (ci := 11) (q0 := 0) rfl rfl, fun U hU hW => ⟨rfl, by rw [hU], by rw [hU]; exact hPX, va_K.moved hW.alike hLS.2.2.2.2.2.1, hLS.2.2.2.2.2.2.2.at hS (hLS.fX hS.1) hU hW⟩⟩ rfl rfl hl.1 rfl (lv_room (Nat.le_of_ble_eq_true rfl)) dL_law_579 ⟨Nat.le_of_ble_eq_true rfl, Nat.le_of_ble_eq_true rfl⟩) hS (fun q _ h => (hLS.fX hS.1) q h) (hLS.fX hS.1) (fun r1 u t H1 locs ht hvm hw hB hz1 hk1 hS => ?_)
  unfold BX at hB
  rw [ht] at hB
  have hPM := hLS.kM hPM hk1
  obtain ⟨v1, F1, rc1⟩ := u
  obtain ⟨hI1, hal1, -, -, -⟩ := hw
  dsimp only at hI1 hal1 hB
  have q1 := alX_c hal1
  have hPX : va_P (dC, dI) classes (wX gX cX v1 F1 rc1) H1 := hB
  generalize H1 = H at hPX hPM hS ⊢
  refine lv_pop hx hb dL_law_582 rfl ?_
  refine lv_aload_n hx hb dL_law_583 rfl (lv_at hl 1 rfl) ?_
  refine lv_aload_n hx hb dL_law_584 rfl (lv_at hl 3 rfl) ?_
  refine lv_iload_n hx hb dL_law_585 rfl (lv_at hl 0 rfl) ?_
  refine lv_iconst (v := 1) hx hb dL_law_586 (by decide) ?_
  refine lv_iadd hx hb dL_law_587 ?_
  refine lv_topi (fun z3 ez3 => ?_)
  have tz3 := tadd ez3 rfl (b := 1) (by decide) (by omega)
  refine va_sld hx hb hX hbl hbA hS (i := z3) (vin rfl (by omega)) dL_law_588 ?_
  refine my_top (v := a1) (by rw [ea1, ez3, ez1]) ?_
  refine lv_aload_n hx hb dL_law_589 rfl (lv_at hl 3 rfl) ?_
  refine lv_iload_n hx hb dL_law_590 rfl (lv_at hl 0 rfl) ?_
  refine lv_iconst (v := 2) hx hb dL_law_591 (by decide) ?_
  refine lv_iadd hx hb dL_law_592 ?_
  refine lv_topi (fun z4 ez4 => ?_)
  have tz4 := tadd ez4 rfl (b := 2) (by decide) (by omega)
  refine va_sld hx hb hX hbl hbA hS (i := z4) (vin rfl (by omega)) dL_law_593 ?_
  refine my_top (v := a2) (by rw [ea2, ez4, ez2]) ?_
  refine va_calli (va_runV (As := [.int a1, .int a2]) (rest := []) ⟨hx, hb, hml, hown, hwd⟩ (c_X12_repair l dC dI gM cM adK adV v' F' 0 H.size a1 a2 hLS.2.1 hLI.2.1) (cwV 2 hwd (gV wk_659 wk_656 wk_657 wk_658 wk_5) rfl rfl rfl (by decide +kernel) ⟨Nat.le_of_ble_eq_true rfl, Nat.le_of_ble_eq_true rfl⟩) ⟨PM.blind, va_recv hLS.2.2.2.2.2.2.1 hPM (ci := 12) (q0 := 0) rfl rfl, fun U hU hW => ⟨rfl, by rw [hU], by rw [hU]; exact hPM, va_K.moved hW.alike hLS.2.2.2.2.2.2.1, trivial⟩⟩ rfl rfl hl.1 rfl (lv_room (Nat.le_of_ble_eq_true rfl)) dL_law_594 ⟨Nat.le_of_ble_eq_true rfl, Nat.le_of_ble_eq_true rfl⟩) hS (fun q _ h => (hLS.fM hS.1) q h) (hLS.fM hS.1) (fun r2 u t H1 locs ht hvm hw hB hz1 hk1 hS => ?_)
  unfold BM at hB
  rw [ht] at hB
  have hPX := hLS.kX hPX hk1
  obtain ⟨v2, F2, rc2⟩ := u
  obtain ⟨hI2, hrc2, hf2, hG2, hw2⟩ := hw
  dsimp only at hI2 hrc2 hf2 hG2 hw2 hB
  rw [hrc2] at hB
  have hPM : va_P (dC, dI) classes (wM gM cM v2 F2 0) H1 := hB
  have g1 := congrArg Int32.toInt (hf2 1 (by decide))
  have g2 := congrArg Int32.toInt (hf2 2 (by decide))
  have g6 := congrArg Int32.toInt (hf2 6 (by decide))
  have g45 := congrArg Int32.toInt (hf2 45 (by decide))
  generalize H1 = H at hPX hPM hS ⊢
  have tie := hLI.2.2.2.2
  have hLI9 : LI v1 F1 v2 F2 := ⟨hI1, hI2, (JO.to hLI.2.2.1 (hf2 14 (by decide)) (hf2 19 (by decide)) (hG2 13 (by decide)) (hG2 15 (by decide)) (hG2 18 (by decide))), (JL.to hLI.2.2.2.1 (hf2 31 (by decide)) (hG2 28 (by decide)) (hG2 29 (by decide)) (hG2 27 (by decide))), by omega, by omega, by omega, by omega, (q1.2.1.trans (hLI.2.2.2.2.2.2.2.2.1.trans (hG2 44 (by decide)).symm)), (q1.2.2.trans (hLI.2.2.2.2.2.2.2.2.2.trans (hG2 45 (by decide)).symm))⟩
  refine lv_pop hx hb dL_law_597 rfl ?_
  refine lv_goto (tgt := 1485) hx hb dL_law_598 (by decide) ?_
  exact hK v1 F1 rc1 v2 F2 H _ ls hLI9 hPX hPM hS hl
set_option maxHeartbeats 4000000 in
set_option maxRecDepth 100000 in
theorem law_case_11 {p : Program} {l : Launch} {e : Env} {s : State} {m : MethodId} {below : List Frame} {meth : Method} {c : Code} {dC : Nat → ClassId} {dI : Nat → Nat → Nat} {b L : Nat} {xs : Nat → Int32} {gX gM adK adV : Nat → Nat} {cX cM : Nat → ClassId} (hL : L ≤ 3584) (C0 : lw_At p s m meth c b L xs) (hLS : LSta s dC dI gX cX gM cM adK adV) {i : Int32} (hi : 0 ≤ i.toInt ∧ i.toInt + 7 ≤ (L : Int)) {v : Nat → Int32} {F : Nat → Nat → Int32} {rc : Nat} {v' : Nat → Int32} {F' : Nat → Nat → Int32} {H : Heap} {locs : List Loc} {ls : Array Slot} (hLI : LI v F v' F') (hPX : va_P (dC, dI) classes (wX gX cX v F rc) H) (hPM : va_P (dC, dI) classes (wM gM cM v' F' 0) H) (hS : va_S (fun q : Nat => s.heap.size ≤ q) s.heap H locs) (hl : lv_has ls 4 [(3, .int i), (2, .ref (gM 0)), (1, .ref (gX 0)), (0, .ref b)]) (hK : ∀ (v : Nat → Int32) (F : Nat → Nat → Int32) (rc : Nat) (v' : Nat → Int32) (F' : Nat → Nat → Int32) (H : Heap) (locs : List Loc) (ls : Array Slot), LI v F v' F' → va_P (dC, dI) classes (wX gX cX v F rc) H → va_P (dC, dI) classes (wM gM cM v' F' 0) H → va_S (fun q : Nat => s.heap.size ≤ q) s.heap H locs → lv_has ls 4 [(3, .int i), (2, .ref (gM 0)), (1, .ref (gX 0)), (0, .ref b)] → W p l e room_1 s m #[Value.ref b] below meth c H locs 126 19787 (lw_Z below #[Value.ref b] s) (F0 m 1485 ls [])) : W p l e room_1 s m #[Value.ref b] below meth c H locs 126 19787 (lw_Z below #[Value.ref b] s) (F0 m 601 ls []) := by
  obtain ⟨hx, hb, hr, hml, hown, hts, hX, hbl, hlocks, hgv⟩ := id C0
  have hown : s.vm.findClass RL = some m.cls := hown
  have hwd : ∀ w ∈ wA, w.before #[Value.ref b] s = true := fun w h => hts w (wA_in w h)
  have hbA : ¬ (fun q : Nat => s.heap.size ≤ q) b := Nat.not_le.mpr hbl
  refine lv_aload_n hx hb dL_law_601 rfl (lv_at hl 2 rfl) ?_
  refine lv_aload_n hx hb dL_law_602 rfl (lv_at hl 3 rfl) ?_
  refine lv_iload_n hx hb dL_law_603 rfl (lv_at hl 0 rfl) ?_
  refine lv_iconst (v := 1) hx hb dL_law_604 (by decide) ?_
  refine lv_iadd hx hb dL_law_605 ?_
  refine lv_topi (fun z1 ez1 => ?_)
  have tz1 := tadd ez1 rfl (b := 1) (by decide) (by omega)
  refine va_sld hx hb hX hbl hbA hS (i := z1) (vin rfl (by omega)) dL_law_606 ?_
  refine lv_topi (fun a1 ea1 => ?_)
  refine lv_aload_n hx hb dL_law_607 rfl (lv_at hl 3 rfl) ?_
  refine lv_iload_n hx hb dL_law_608 rfl (lv_at hl 0 rfl) ?_
  refine lv_iconst (v := 2) hx hb dL_law_609 (by decide) ?_
  refine lv_iadd hx hb dL_law_610 ?_
  refine lv_topi (fun z2 ez2 => ?_)
  have tz2 := tadd ez2 rfl (b := 2) (by decide) (by omega)
  refine va_sld hx hb hX hbl hbA hS (i := z2) (vin rfl (by omega)) dL_law_611 ?_
  refine lv_topi (fun a2 ea2 => ?_)
  refine va_calli (va_runV (As := [.int a1, .int a2]) (rest := []) ⟨hx, hb, hml, hown, hwd⟩ (c_X11_ofPart l dC dI gX cX adK adV v F rc H.size a1 a2 hLS.1 hLI.1) (cwV 2 hwd (gV wk_663 wk_660 wk_661 wk_662 wk_2) rfl rfl rfl (by decide +kernel) ⟨Nat.le_of_ble_eq_true rfl, Nat.le_of_ble_eq_true rfl⟩) ⟨PX.blind, va_recv hLS.2.2.2.2.2.1 hPX (ci := 11) (q0 := 0) rfl rfl, fun U hU hW => ⟨rfl, by rw [hU], by rw [hU]; exact hPX, va_K.moved hW.alike hLS.2.2.2.2.2.1, hLS.2.2.2.2.2.2.2.at hS (hLS.fX hS.1) hU hW⟩⟩ rfl rfl hl.1 rfl (lv_room (Nat.le_of_ble_eq_true rfl)) dL_law_612 ⟨Nat.le_of_ble_eq_true rfl, Nat.le_of_ble_eq_true rfl⟩) hS (fun q _ h => (hLS.fX hS.1) q h) (hLS.fX hS.1) (fun r1 u t H1 locs ht hvm hw hB hz1 hk1 hS => ?_)
  unfold BX at hB
  rw [ht] at hB
  have hPM := hLS.kM hPM hk1
  have hPX : va_P (dC, dI) classes (wX gX cX v F rc) H1 := hB
  have hI1 := hLI.1
  generalize H1 = H at hPX hPM hS ⊢
  refine lv_pop hx hb dL_law_615 rfl ?_
  refine lv_aload_n hx hb dL_law_616 rfl (lv_at hl 1 rfl) ?_
  refine lv_aload_n hx hb dL_law_617 rfl (lv_at hl 3 rfl) ?_
  refine lv_iload_n hx hb dL_law_618 rfl (lv_at hl 0 rfl) ?_
  refine lv_iconst (v := 1) hx hb dL_law_619 (by decide) ?_
  refine lv_iadd hx hb dL_law_620 ?_
  refine lv_topi (fun z3 ez3 => ?_)
  have tz3 := tadd ez3 rfl (b := 1) (by decide) (by omega)
  refine va_sld hx hb hX hbl hbA hS (i := z3) (vin rfl (by omega)) dL_law_621 ?_
  refine my_top (v := a1) (by rw [ea1, ez3, ez1]) ?_
  refine lv_aload_n hx hb dL_law_622 rfl (lv_at hl 3 rfl) ?_
  refine lv_iload_n hx hb dL_law_623 rfl (lv_at hl 0 rfl) ?_
  refine lv_iconst (v := 2) hx hb dL_law_624 (by decide) ?_
  refine lv_iadd hx hb dL_law_625 ?_
  refine lv_topi (fun z4 ez4 => ?_)
  have tz4 := tadd ez4 rfl (b := 2) (by decide) (by omega)
  refine va_sld hx hb hX hbl hbA hS (i := z4) (vin rfl (by omega)) dL_law_626 ?_
  refine my_top (v := a2) (by rw [ea2, ez4, ez2]) ?_
  refine va_calli (va_runV (As := [.int a1, .int a2]) (rest := []) ⟨hx, hb, hml, hown, hwd⟩ (c_X12_ofPart l dC dI gM cM adK adV v' F' 0 H.size a1 a2 hLS.2.1 hLI.2.1) (cwV 2 hwd (gV wk_716 wk_713 wk_714 wk_715 wk_5) rfl rfl rfl (by decide +kernel) ⟨Nat.le_of_ble_eq_true rfl, Nat.le_of_ble_eq_true rfl⟩) ⟨PM.blind, va_recv hLS.2.2.2.2.2.2.1 hPM (ci := 12) (q0 := 0) rfl rfl, fun U hU hW => ⟨rfl, by rw [hU], by rw [hU]; exact hPM, va_K.moved hW.alike hLS.2.2.2.2.2.2.1, trivial⟩⟩ rfl rfl hl.1 rfl (lv_room (Nat.le_of_ble_eq_true rfl)) dL_law_627 ⟨Nat.le_of_ble_eq_true rfl, Nat.le_of_ble_eq_true rfl⟩) hS (fun q _ h => (hLS.fM hS.1) q h) (hLS.fM hS.1) (fun r2 u t H1 locs ht hvm hw hB hz1 hk1 hS => ?_)
  unfold BM at hB
  rw [ht] at hB
  have hPX := hLS.kX hPX hk1
  have hPM : va_P (dC, dI) classes (wM gM cM v' F' 0) H1 := hB
  have hI2 := hLI.2.1
  generalize H1 = H at hPX hPM hS ⊢
  have tie := hLI.2.2.2.2
  have hLI9 : LI v F v' F' := ⟨hI1, hI2, hLI.2.2.1, hLI.2.2.2.1, by omega, by omega, by omega, by omega, (rfl.trans (hLI.2.2.2.2.2.2.2.2.1.trans rfl)), (rfl.trans (hLI.2.2.2.2.2.2.2.2.2.trans rfl))⟩
  refine lv_pop hx hb dL_law_630 rfl ?_
  refine lv_goto (tgt := 1485) hx hb dL_law_631 (by decide) ?_
  exact hK v F rc v' F' H _ ls hLI9 hPX hPM hS hl
set_option maxHeartbeats 4000000 in
set_option maxRecDepth 100000 in
theorem law_case_12 {p : Program} {l : Launch} {e : Env} {s : State} {m : MethodId} {below : List Frame} {meth : Method} {c : Code} {dC : Nat → ClassId} {dI : Nat → Nat → Nat} {b L : Nat} {xs : Nat → Int32} {gX gM adK adV : Nat → Nat} {cX cM : Nat → ClassId} (hL : L ≤ 3584) (C0 : lw_At p s m meth c b L xs) (hLS : LSta s dC dI gX cX gM cM adK adV) {i : Int32} (hi : 0 ≤ i.toInt ∧ i.toInt + 7 ≤ (L : Int)) {v : Nat → Int32} {F : Nat → Nat → Int32} {rc : Nat} {v' : Nat → Int32} {F' : Nat → Nat → Int32} {H : Heap} {locs : List Loc} {ls : Array Slot} (hLI : LI v F v' F') (hPX : va_P (dC, dI) classes (wX gX cX v F rc) H) (hPM : va_P (dC, dI) classes (wM gM cM v' F' 0) H) (hS : va_S (fun q : Nat => s.heap.size ≤ q) s.heap H locs) (hl : lv_has ls 4 [(3, .int i), (2, .ref (gM 0)), (1, .ref (gX 0)), (0, .ref b)]) (hK : ∀ (v : Nat → Int32) (F : Nat → Nat → Int32) (rc : Nat) (v' : Nat → Int32) (F' : Nat → Nat → Int32) (H : Heap) (locs : List Loc) (ls : Array Slot), LI v F v' F' → va_P (dC, dI) classes (wX gX cX v F rc) H → va_P (dC, dI) classes (wM gM cM v' F' 0) H → va_S (fun q : Nat => s.heap.size ≤ q) s.heap H locs → lv_has ls 4 [(3, .int i), (2, .ref (gM 0)), (1, .ref (gX 0)), (0, .ref b)] → W p l e room_1 s m #[Value.ref b] below meth c H locs 126 19787 (lw_Z below #[Value.ref b] s) (F0 m 1485 ls [])) : W p l e room_1 s m #[Value.ref b] below meth c H locs 126 19787 (lw_Z below #[Value.ref b] s) (F0 m 634 ls []) := by
  obtain ⟨hx, hb, hr, hml, hown, hts, hX, hbl, hlocks, hgv⟩ := id C0
  have hown : s.vm.findClass RL = some m.cls := hown
  have hwd : ∀ w ∈ wA, w.before #[Value.ref b] s = true := fun w h => hts w (wA_in w h)
  have hbA : ¬ (fun q : Nat => s.heap.size ≤ q) b := Nat.not_le.mpr hbl
  refine lv_aload_n hx hb dL_law_634 rfl (lv_at hl 2 rfl) ?_
  refine lv_aload_n hx hb dL_law_635 rfl (lv_at hl 3 rfl) ?_
  refine lv_iload_n hx hb dL_law_636 rfl (lv_at hl 0 rfl) ?_
  refine lv_iconst (v := 1) hx hb dL_law_637 (by decide) ?_
  refine lv_iadd hx hb dL_law_638 ?_
  refine lv_topi (fun z1 ez1 => ?_)
  have tz1 := tadd ez1 rfl (b := 1) (by decide) (by omega)
  refine va_sld hx hb hX hbl hbA hS (i := z1) (vin rfl (by omega)) dL_law_639 ?_
  refine lv_topi (fun a1 ea1 => ?_)
  refine lv_aload_n hx hb dL_law_640 rfl (lv_at hl 3 rfl) ?_
  refine lv_iload_n hx hb dL_law_641 rfl (lv_at hl 0 rfl) ?_
  refine lv_iconst (v := 2) hx hb dL_law_642 (by decide) ?_
  refine lv_iadd hx hb dL_law_643 ?_
  refine lv_topi (fun z2 ez2 => ?_)
  have tz2 := tadd ez2 rfl (b := 2) (by decide) (by omega)
  refine va_sld hx hb hX hbl hbA hS (i := z2) (vin rfl (by omega)) dL_law_644 ?_
  refine lv_topi (fun a2 ea2 => ?_)
  refine lv_aload_n hx hb dL_law_645 rfl (lv_at hl 3 rfl) ?_
  refine lv_iload_n hx hb dL_law_646 rfl (lv_at hl 0 rfl) ?_
  refine lv_iconst (v := 3) hx hb dL_law_647 (by decide) ?_
  refine lv_iadd hx hb dL_law_648 ?_
  refine lv_topi (fun z3 ez3 => ?_)
  have tz3 := tadd ez3 rfl (b := 3) (by decide) (by omega)
  refine va_sld hx hb hX hbl hbA hS (i := z3) (vin rfl (by omega)) dL_law_649 ?_
  refine lv_topi (fun a3 ea3 => ?_)
  refine va_calli (va_runV (As := [.int a1, .int a2, .int a3]) (rest := []) ⟨hx, hb, hml, hown, hwd⟩ (c_X11_left l dC dI gX cX adK adV v F rc H.size a1 a2 a3 hLS.1 hLI.1) (cwV 3 hwd (gV wk_760 wk_757 wk_758 wk_759 wk_2) rfl rfl rfl (by decide +kernel) ⟨Nat.le_of_ble_eq_true rfl, Nat.le_of_ble_eq_true rfl⟩) ⟨PX.blind, va_recv hLS.2.2.2.2.2.1 hPX (ci := 11) (q0 := 0) rfl rfl, fun U hU hW => ⟨rfl, by rw [hU], by rw [hU]; exact hPX, va_K.moved hW.alike hLS.2.2.2.2.2.1, hLS.2.2.2.2.2.2.2.at hS (hLS.fX hS.1) hU hW⟩⟩ rfl rfl hl.1 rfl (lv_room (Nat.le_of_ble_eq_true rfl)) dL_law_650 ⟨Nat.le_of_ble_eq_true rfl, Nat.le_of_ble_eq_true rfl⟩) hS (fun q _ h => (hLS.fX hS.1) q h) (hLS.fX hS.1) (fun r1 u t H1 locs ht hvm hw hB hz1 hk1 hS => ?_)
  unfold BX at hB
  rw [ht] at hB
  have hPM := hLS.kM hPM hk1
  obtain ⟨v1, F1, rc1⟩ := u
  obtain ⟨hI1, hal1, -, -, -⟩ := hw
  dsimp only at hI1 hal1 hB
  have q1 := alX_c hal1
  have hPX : va_P (dC, dI) classes (wX gX cX v1 F1 rc1) H1 := hB
  generalize H1 = H at hPX hPM hS ⊢
  refine lv_pop hx hb dL_law_653 rfl ?_
  refine lv_aload_n hx hb dL_law_654 rfl (lv_at hl 1 rfl) ?_
  refine lv_aload_n hx hb dL_law_655 rfl (lv_at hl 3 rfl) ?_
  refine lv_iload_n hx hb dL_law_656 rfl (lv_at hl 0 rfl) ?_
  refine lv_iconst (v := 1) hx hb dL_law_657 (by decide) ?_
  refine lv_iadd hx hb dL_law_658 ?_
  refine lv_topi (fun z4 ez4 => ?_)
  have tz4 := tadd ez4 rfl (b := 1) (by decide) (by omega)
  refine va_sld hx hb hX hbl hbA hS (i := z4) (vin rfl (by omega)) dL_law_659 ?_
  refine my_top (v := a1) (by rw [ea1, ez4, ez1]) ?_
  refine lv_aload_n hx hb dL_law_660 rfl (lv_at hl 3 rfl) ?_
  refine lv_iload_n hx hb dL_law_661 rfl (lv_at hl 0 rfl) ?_
  refine lv_iconst (v := 2) hx hb dL_law_662 (by decide) ?_
  refine lv_iadd hx hb dL_law_663 ?_
  refine lv_topi (fun z5 ez5 => ?_)
  have tz5 := tadd ez5 rfl (b := 2) (by decide) (by omega)
  refine va_sld hx hb hX hbl hbA hS (i := z5) (vin rfl (by omega)) dL_law_664 ?_
  refine my_top (v := a2) (by rw [ea2, ez5, ez2]) ?_
  refine lv_aload_n hx hb dL_law_665 rfl (lv_at hl 3 rfl) ?_
  refine lv_iload_n hx hb dL_law_666 rfl (lv_at hl 0 rfl) ?_
  refine lv_iconst (v := 3) hx hb dL_law_667 (by decide) ?_
  refine lv_iadd hx hb dL_law_668 ?_
  refine lv_topi (fun z6 ez6 => ?_)
  have tz6 := tadd ez6 rfl (b := 3) (by decide) (by omega)
  refine va_sld hx hb hX hbl hbA hS (i := z6) (vin rfl (by omega)) dL_law_669 ?_
  refine my_top (v := a3) (by rw [ea3, ez6, ez3]) ?_
  refine va_calli (va_runV (As := [.int a1, .int a2, .int a3]) (rest := []) ⟨hx, hb, hml, hown, hwd⟩ (c_X12_left l dC dI gM cM adK adV v' F' 0 H.size a1 a2 a3 hLS.2.1 hLI.2.1 hLI.2.2.2.1) (cwV 3 hwd (gV wk_767 wk_764 wk_765 wk_766 wk_5) rfl rfl rfl (by decide +kernel) ⟨Nat.le_of_ble_eq_true rfl, Nat.le_of_ble_eq_true rfl⟩) ⟨PM.blind, va_recv hLS.2.2.2.2.2.2.1 hPM (ci := 12) (q0 := 0) rfl rfl, fun U hU hW => ⟨rfl, by rw [hU], by rw [hU]; exact hPM, va_K.moved hW.alike hLS.2.2.2.2.2.2.1, trivial⟩⟩ rfl rfl hl.1 rfl (lv_room (Nat.le_of_ble_eq_true rfl)) dL_law_670 ⟨Nat.le_of_ble_eq_true rfl, Nat.le_of_ble_eq_true rfl⟩) hS (fun q _ h => (hLS.fM hS.1) q h) (hLS.fM hS.1) (fun r2 u t H1 locs ht hvm hw hB hz1 hk1 hS => ?_)
  unfold BM at hB
  rw [ht] at hB
  have hPX := hLS.kX hPX hk1
  obtain ⟨v2, F2, rc2⟩ := u
  obtain ⟨hI2, hrc2, hf2, hG2, hw2⟩ := hw
  dsimp only at hI2 hrc2 hf2 hG2 hw2 hB
  rw [hrc2] at hB
  have hPM : va_P (dC, dI) classes (wM gM cM v2 F2 0) H1 := hB
  have g1 := congrArg Int32.toInt (hf2 1 (by decide))
  have g2 := congrArg Int32.toInt (hf2 2 (by decide))
  have g6 := congrArg Int32.toInt (hf2 6 (by decide))
  have g45 := congrArg Int32.toInt (hf2 45 (by decide))
  generalize H1 = H at hPX hPM hS ⊢
  have tie := hLI.2.2.2.2
  have hLI9 : LI v1 F1 v2 F2 := ⟨hI1, hI2, (JO.to hLI.2.2.1 (hf2 14 (by decide)) (hf2 19 (by decide)) (hG2 13 (by decide)) (hG2 15 (by decide)) (hG2 18 (by decide))), (JL.to hLI.2.2.2.1 (hf2 31 (by decide)) (hG2 28 (by decide)) (hG2 29 (by decide)) (hG2 27 (by decide))), by omega, by omega, by omega, by omega, (q1.2.1.trans (hLI.2.2.2.2.2.2.2.2.1.trans (hG2 44 (by decide)).symm)), (q1.2.2.trans (hLI.2.2.2.2.2.2.2.2.2.trans (hG2 45 (by decide)).symm))⟩
  refine lv_pop hx hb dL_law_673 rfl ?_
  refine lv_goto (tgt := 1485) hx hb dL_law_674 (by decide) ?_
  exact hK v1 F1 rc1 v2 F2 H _ ls hLI9 hPX hPM hS hl
set_option maxHeartbeats 4000000 in
set_option maxRecDepth 100000 in
theorem law_case_13 {p : Program} {l : Launch} {e : Env} {s : State} {m : MethodId} {below : List Frame} {meth : Method} {c : Code} {dC : Nat → ClassId} {dI : Nat → Nat → Nat} {b L : Nat} {xs : Nat → Int32} {gX gM adK adV : Nat → Nat} {cX cM : Nat → ClassId} (hL : L ≤ 3584) (C0 : lw_At p s m meth c b L xs) (hLS : LSta s dC dI gX cX gM cM adK adV) {i : Int32} (hi : 0 ≤ i.toInt ∧ i.toInt + 7 ≤ (L : Int)) {v : Nat → Int32} {F : Nat → Nat → Int32} {rc : Nat} {v' : Nat → Int32} {F' : Nat → Nat → Int32} {H : Heap} {locs : List Loc} {ls : Array Slot} (hLI : LI v F v' F') (hPX : va_P (dC, dI) classes (wX gX cX v F rc) H) (hPM : va_P (dC, dI) classes (wM gM cM v' F' 0) H) (hS : va_S (fun q : Nat => s.heap.size ≤ q) s.heap H locs) (hl : lv_has ls 4 [(3, .int i), (2, .ref (gM 0)), (1, .ref (gX 0)), (0, .ref b)]) (hK : ∀ (v : Nat → Int32) (F : Nat → Nat → Int32) (rc : Nat) (v' : Nat → Int32) (F' : Nat → Nat → Int32) (H : Heap) (locs : List Loc) (ls : Array Slot), LI v F v' F' → va_P (dC, dI) classes (wX gX cX v F rc) H → va_P (dC, dI) classes (wM gM cM v' F' 0) H → va_S (fun q : Nat => s.heap.size ≤ q) s.heap H locs → lv_has ls 4 [(3, .int i), (2, .ref (gM 0)), (1, .ref (gX 0)), (0, .ref b)] → W p l e room_1 s m #[Value.ref b] below meth c H locs 126 19787 (lw_Z below #[Value.ref b] s) (F0 m 1485 ls [])) : W p l e room_1 s m #[Value.ref b] below meth c H locs 126 19787 (lw_Z below #[Value.ref b] s) (F0 m 677 ls []) := by
  obtain ⟨hx, hb, hr, hml, hown, hts, hX, hbl, hlocks, hgv⟩ := id C0
  have hown : s.vm.findClass RL = some m.cls := hown
  have hwd : ∀ w ∈ wA, w.before #[Value.ref b] s = true := fun w h => hts w (wA_in w h)
  have hbA : ¬ (fun q : Nat => s.heap.size ≤ q) b := Nat.not_le.mpr hbl
  refine lv_aload_n hx hb dL_law_677 rfl (lv_at hl 2 rfl) ?_
  refine lv_aload_n hx hb dL_law_678 rfl (lv_at hl 3 rfl) ?_
  refine lv_iload_n hx hb dL_law_679 rfl (lv_at hl 0 rfl) ?_
  refine lv_iconst (v := 1) hx hb dL_law_680 (by decide) ?_
  refine lv_iadd hx hb dL_law_681 ?_
  refine lv_topi (fun z1 ez1 => ?_)
  have tz1 := tadd ez1 rfl (b := 1) (by decide) (by omega)
  refine va_sld hx hb hX hbl hbA hS (i := z1) (vin rfl (by omega)) dL_law_682 ?_
  refine lv_topi (fun a1 ea1 => ?_)
  refine lv_aload_n hx hb dL_law_683 rfl (lv_at hl 3 rfl) ?_
  refine lv_iload_n hx hb dL_law_684 rfl (lv_at hl 0 rfl) ?_
  refine lv_iconst (v := 2) hx hb dL_law_685 (by decide) ?_
  refine lv_iadd hx hb dL_law_686 ?_
  refine lv_topi (fun z2 ez2 => ?_)
  have tz2 := tadd ez2 rfl (b := 2) (by decide) (by omega)
  refine va_sld hx hb hX hbl hbA hS (i := z2) (vin rfl (by omega)) dL_law_687 ?_
  refine lv_topi (fun a2 ea2 => ?_)
  refine va_calli (va_runV (As := [.int a1, .int a2]) (rest := []) ⟨hx, hb, hml, hown, hwd⟩ (c_X11_least l dC dI gX cX adK adV v F rc H.size a1 a2 hLS.1 hLI.1) (cwV 2 hwd (gV wk_771 wk_768 wk_769 wk_770 wk_2) rfl rfl rfl (by decide +kernel) ⟨Nat.le_of_ble_eq_true rfl, Nat.le_of_ble_eq_true rfl⟩) ⟨PX.blind, va_recv hLS.2.2.2.2.2.1 hPX (ci := 11) (q0 := 0) rfl rfl, fun U hU hW => ⟨rfl, by rw [hU], by rw [hU]; exact hPX, va_K.moved hW.alike hLS.2.2.2.2.2.1, hLS.2.2.2.2.2.2.2.at hS (hLS.fX hS.1) hU hW⟩⟩ rfl rfl hl.1 rfl (lv_room (Nat.le_of_ble_eq_true rfl)) dL_law_688 ⟨Nat.le_of_ble_eq_true rfl, Nat.le_of_ble_eq_true rfl⟩) hS (fun q _ h => (hLS.fX hS.1) q h) (hLS.fX hS.1) (fun r1 u t H1 locs ht hvm hw hB hz1 hk1 hS => ?_)
  unfold BX at hB
  rw [ht] at hB
  have hPM := hLS.kM hPM hk1
  obtain ⟨v1, F1, rc1⟩ := u
  obtain ⟨hI1, hal1, -, -, -⟩ := hw
  dsimp only at hI1 hal1 hB
  have q1 := alX_c hal1
  have hPX : va_P (dC, dI) classes (wX gX cX v1 F1 rc1) H1 := hB
  generalize H1 = H at hPX hPM hS ⊢
  refine lv_pop hx hb dL_law_691 rfl ?_
  refine lv_aload_n hx hb dL_law_692 rfl (lv_at hl 1 rfl) ?_
  refine lv_aload_n hx hb dL_law_693 rfl (lv_at hl 3 rfl) ?_
  refine lv_iload_n hx hb dL_law_694 rfl (lv_at hl 0 rfl) ?_
  refine lv_iconst (v := 1) hx hb dL_law_695 (by decide) ?_
  refine lv_iadd hx hb dL_law_696 ?_
  refine lv_topi (fun z3 ez3 => ?_)
  have tz3 := tadd ez3 rfl (b := 1) (by decide) (by omega)
  refine va_sld hx hb hX hbl hbA hS (i := z3) (vin rfl (by omega)) dL_law_697 ?_
  refine my_top (v := a1) (by rw [ea1, ez3, ez1]) ?_
  refine lv_aload_n hx hb dL_law_698 rfl (lv_at hl 3 rfl) ?_
  refine lv_iload_n hx hb dL_law_699 rfl (lv_at hl 0 rfl) ?_
  refine lv_iconst (v := 2) hx hb dL_law_700 (by decide) ?_
  refine lv_iadd hx hb dL_law_701 ?_
  refine lv_topi (fun z4 ez4 => ?_)
  have tz4 := tadd ez4 rfl (b := 2) (by decide) (by omega)
  refine va_sld hx hb hX hbl hbA hS (i := z4) (vin rfl (by omega)) dL_law_702 ?_
  refine my_top (v := a2) (by rw [ea2, ez4, ez2]) ?_
  refine va_calli (va_runV (As := [.int a1, .int a2]) (rest := []) ⟨hx, hb, hml, hown, hwd⟩ (c_X12_least l dC dI gM cM adK adV v' F' 0 H.size a1 a2 hLS.2.1 hLI.2.1 hLI.2.2.2.1) (cwV 2 hwd (gV wk_780 wk_777 wk_778 wk_779 wk_5) rfl rfl rfl (by decide +kernel) ⟨Nat.le_of_ble_eq_true rfl, Nat.le_of_ble_eq_true rfl⟩) ⟨PM.blind, va_recv hLS.2.2.2.2.2.2.1 hPM (ci := 12) (q0 := 0) rfl rfl, fun U hU hW => ⟨rfl, by rw [hU], by rw [hU]; exact hPM, va_K.moved hW.alike hLS.2.2.2.2.2.2.1, trivial⟩⟩ rfl rfl hl.1 rfl (lv_room (Nat.le_of_ble_eq_true rfl)) dL_law_703 ⟨Nat.le_of_ble_eq_true rfl, Nat.le_of_ble_eq_true rfl⟩) hS (fun q _ h => (hLS.fM hS.1) q h) (hLS.fM hS.1) (fun r2 u t H1 locs ht hvm hw hB hz1 hk1 hS => ?_)
  unfold BM at hB
  rw [ht] at hB
  have hPX := hLS.kX hPX hk1
  obtain ⟨v2, F2, rc2⟩ := u
  obtain ⟨hI2, hrc2, hf2, hG2, hw2⟩ := hw
  dsimp only at hI2 hrc2 hf2 hG2 hw2 hB
  rw [hrc2] at hB
  have hPM : va_P (dC, dI) classes (wM gM cM v2 F2 0) H1 := hB
  have g1 := congrArg Int32.toInt (hf2 1 (by decide))
  have g2 := congrArg Int32.toInt (hf2 2 (by decide))
  have g6 := congrArg Int32.toInt (hf2 6 (by decide))
  have g45 := congrArg Int32.toInt (hf2 45 (by decide))
  generalize H1 = H at hPX hPM hS ⊢
  have tie := hLI.2.2.2.2
  have hLI9 : LI v1 F1 v2 F2 := ⟨hI1, hI2, (JO.to hLI.2.2.1 (hf2 14 (by decide)) (hf2 19 (by decide)) (hG2 13 (by decide)) (hG2 15 (by decide)) (hG2 18 (by decide))), (JL.to hLI.2.2.2.1 (hf2 31 (by decide)) (hG2 28 (by decide)) (hG2 29 (by decide)) (hG2 27 (by decide))), by omega, by omega, by omega, by omega, (q1.2.1.trans (hLI.2.2.2.2.2.2.2.2.1.trans (hG2 44 (by decide)).symm)), (q1.2.2.trans (hLI.2.2.2.2.2.2.2.2.2.trans (hG2 45 (by decide)).symm))⟩
  refine lv_pop hx hb dL_law_706 rfl ?_
  refine lv_goto (tgt := 1485) hx hb dL_law_707 (by decide) ?_
  exact hK v1 F1 rc1 v2 F2 H _ ls hLI9 hPX hPM hS hl
set_option maxHeartbeats 4000000 in
set_option maxRecDepth 100000 in
theorem law_case_14 {p : Program} {l : Launch} {e : Env} {s : State} {m : MethodId} {below : List Frame} {meth : Method} {c : Code} {dC : Nat → ClassId} {dI : Nat → Nat → Nat} {b L : Nat} {xs : Nat → Int32} {gX gM adK adV : Nat → Nat} {cX cM : Nat → ClassId} (hL : L ≤ 3584) (C0 : lw_At p s m meth c b L xs) (hLS : LSta s dC dI gX cX gM cM adK adV) {i : Int32} (hi : 0 ≤ i.toInt ∧ i.toInt + 7 ≤ (L : Int)) {v : Nat → Int32} {F : Nat → Nat → Int32} {rc : Nat} {v' : Nat → Int32} {F' : Nat → Nat → Int32} {H : Heap} {locs : List Loc} {ls : Array Slot} (hLI : LI v F v' F') (hPX : va_P (dC, dI) classes (wX gX cX v F rc) H) (hPM : va_P (dC, dI) classes (wM gM cM v' F' 0) H) (hS : va_S (fun q : Nat => s.heap.size ≤ q) s.heap H locs) (hl : lv_has ls 4 [(3, .int i), (2, .ref (gM 0)), (1, .ref (gX 0)), (0, .ref b)]) (hK : ∀ (v : Nat → Int32) (F : Nat → Nat → Int32) (rc : Nat) (v' : Nat → Int32) (F' : Nat → Nat → Int32) (H : Heap) (locs : List Loc) (ls : Array Slot), LI v F v' F' → va_P (dC, dI) classes (wX gX cX v F rc) H → va_P (dC, dI) classes (wM gM cM v' F' 0) H → va_S (fun q : Nat => s.heap.size ≤ q) s.heap H locs → lv_has ls 4 [(3, .int i), (2, .ref (gM 0)), (1, .ref (gX 0)), (0, .ref b)] → W p l e room_1 s m #[Value.ref b] below meth c H locs 126 19787 (lw_Z below #[Value.ref b] s) (F0 m 1485 ls [])) : W p l e room_1 s m #[Value.ref b] below meth c H locs 126 19787 (lw_Z below #[Value.ref b] s) (F0 m 710 ls []) := by
  obtain ⟨hx, hb, hr, hml, hown, hts, hX, hbl, hlocks, hgv⟩ := id C0
  have hown : s.vm.findClass RL = some m.cls := hown
  have hwd : ∀ w ∈ wA, w.before #[Value.ref b] s = true := fun w h => hts w (wA_in w h)
  have hbA : ¬ (fun q : Nat => s.heap.size ≤ q) b := Nat.not_le.mpr hbl
  refine lv_aload_n hx hb dL_law_710 rfl (lv_at hl 2 rfl) ?_
  refine lv_aload_n hx hb dL_law_711 rfl (lv_at hl 3 rfl) ?_
  refine lv_iload_n hx hb dL_law_712 rfl (lv_at hl 0 rfl) ?_
  refine lv_iconst (v := 1) hx hb dL_law_713 (by decide) ?_
  refine lv_iadd hx hb dL_law_714 ?_
  refine lv_topi (fun z1 ez1 => ?_)
  have tz1 := tadd ez1 rfl (b := 1) (by decide) (by omega)
  refine va_sld hx hb hX hbl hbA hS (i := z1) (vin rfl (by omega)) dL_law_715 ?_
  refine lv_topi (fun a1 ea1 => ?_)
  refine lv_aload_n hx hb dL_law_716 rfl (lv_at hl 3 rfl) ?_
  refine lv_iload_n hx hb dL_law_717 rfl (lv_at hl 0 rfl) ?_
  refine lv_iconst (v := 2) hx hb dL_law_718 (by decide) ?_
  refine lv_iadd hx hb dL_law_719 ?_
  refine lv_topi (fun z2 ez2 => ?_)
  have tz2 := tadd ez2 rfl (b := 2) (by decide) (by omega)
  refine va_sld hx hb hX hbl hbA hS (i := z2) (vin rfl (by omega)) dL_law_720 ?_
  refine lv_topi (fun a2 ea2 => ?_)
  refine lv_aload_n hx hb dL_law_721 rfl (lv_at hl 3 rfl) ?_
  refine lv_iload_n hx hb dL_law_722 rfl (lv_at hl 0 rfl) ?_
  refine lv_iconst (v := 3) hx hb dL_law_723 (by decide) ?_
  refine lv_iadd hx hb dL_law_724 ?_
  refine lv_topi (fun z3 ez3 => ?_)
  have tz3 := tadd ez3 rfl (b := 3) (by decide) (by omega)
  refine va_sld hx hb hX hbl hbA hS (i := z3) (vin rfl (by omega)) dL_law_725 ?_
  refine lv_topi (fun a3 ea3 => ?_)
  refine va_calli (va_runV (As := [.int a1, .int a2, .int a3]) (rest := []) ⟨hx, hb, hml, hown, hwd⟩ (c_X11_stay l dC dI gX cX adK adV v F rc H.size a1 a2 a3 hLS.1 hLI.1) (cwV 3 hwd (gV wk_785 wk_782 wk_783 wk_784 wk_2) rfl rfl rfl (by decide +kernel) ⟨Nat.le_of_ble_eq_true rfl, Nat.le_of_ble_eq_true rfl⟩) ⟨PX.blind, va_recv hLS.2.2.2.2.2.1 hPX (ci := 11) (q0 := 0) rfl rfl, fun U hU hW => ⟨rfl, by rw [hU], by rw [hU]; exact hPX, va_K.moved hW.alike hLS.2.2.2.2.2.1, hLS.2.2.2.2.2.2.2.at hS (hLS.fX hS.1) hU hW⟩⟩ rfl rfl hl.1 rfl (lv_room (Nat.le_of_ble_eq_true rfl)) dL_law_726 ⟨Nat.le_of_ble_eq_true rfl, Nat.le_of_ble_eq_true rfl⟩) hS (fun q _ h => (hLS.fX hS.1) q h) (hLS.fX hS.1) (fun r1 u t H1 locs ht hvm hw hB hz1 hk1 hS => ?_)
  unfold BX at hB
  rw [ht] at hB
  have hPM := hLS.kM hPM hk1
  have hPX : va_P (dC, dI) classes (wX gX cX v F rc) H1 := hB
  have hI1 := hLI.1
  generalize H1 = H at hPX hPM hS ⊢
  refine lv_pop hx hb dL_law_729 rfl ?_
  refine lv_aload_n hx hb dL_law_730 rfl (lv_at hl 1 rfl) ?_
  refine lv_aload_n hx hb dL_law_731 rfl (lv_at hl 3 rfl) ?_
  refine lv_iload_n hx hb dL_law_732 rfl (lv_at hl 0 rfl) ?_
  refine lv_iconst (v := 1) hx hb dL_law_733 (by decide) ?_
  refine lv_iadd hx hb dL_law_734 ?_
  refine lv_topi (fun z4 ez4 => ?_)
  have tz4 := tadd ez4 rfl (b := 1) (by decide) (by omega)
  refine va_sld hx hb hX hbl hbA hS (i := z4) (vin rfl (by omega)) dL_law_735 ?_
  refine my_top (v := a1) (by rw [ea1, ez4, ez1]) ?_
  refine lv_aload_n hx hb dL_law_736 rfl (lv_at hl 3 rfl) ?_
  refine lv_iload_n hx hb dL_law_737 rfl (lv_at hl 0 rfl) ?_
  refine lv_iconst (v := 2) hx hb dL_law_738 (by decide) ?_
  refine lv_iadd hx hb dL_law_739 ?_
  refine lv_topi (fun z5 ez5 => ?_)
  have tz5 := tadd ez5 rfl (b := 2) (by decide) (by omega)
  refine va_sld hx hb hX hbl hbA hS (i := z5) (vin rfl (by omega)) dL_law_740 ?_
  refine my_top (v := a2) (by rw [ea2, ez5, ez2]) ?_
  refine lv_aload_n hx hb dL_law_741 rfl (lv_at hl 3 rfl) ?_
  refine lv_iload_n hx hb dL_law_742 rfl (lv_at hl 0 rfl) ?_
  refine lv_iconst (v := 3) hx hb dL_law_743 (by decide) ?_
  refine lv_iadd hx hb dL_law_744 ?_
  refine lv_topi (fun z6 ez6 => ?_)
  have tz6 := tadd ez6 rfl (b := 3) (by decide) (by omega)
  refine va_sld hx hb hX hbl hbA hS (i := z6) (vin rfl (by omega)) dL_law_745 ?_
  refine my_top (v := a3) (by rw [ea3, ez6, ez3]) ?_
  refine va_calli (va_runV (As := [.int a1, .int a2, .int a3]) (rest := []) ⟨hx, hb, hml, hown, hwd⟩ (c_X12_stay l dC dI gM cM adK adV v' F' 0 H.size a1 a2 a3 hLS.2.1 hLI.2.1) (cwV 3 hwd (gV wk_803 wk_800 wk_801 wk_802 wk_5) rfl rfl rfl (by decide +kernel) ⟨Nat.le_of_ble_eq_true rfl, Nat.le_of_ble_eq_true rfl⟩) ⟨PM.blind, va_recv hLS.2.2.2.2.2.2.1 hPM (ci := 12) (q0 := 0) rfl rfl, fun U hU hW => ⟨rfl, by rw [hU], by rw [hU]; exact hPM, va_K.moved hW.alike hLS.2.2.2.2.2.2.1, trivial⟩⟩ rfl rfl hl.1 rfl (lv_room (Nat.le_of_ble_eq_true rfl)) dL_law_746 ⟨Nat.le_of_ble_eq_true rfl, Nat.le_of_ble_eq_true rfl⟩) hS (fun q _ h => (hLS.fM hS.1) q h) (hLS.fM hS.1) (fun r2 u t H1 locs ht hvm hw hB hz1 hk1 hS => ?_)
  unfold BM at hB
  rw [ht] at hB
  have hPX := hLS.kX hPX hk1
  have hPM : va_P (dC, dI) classes (wM gM cM v' F' 0) H1 := hB
  have hI2 := hLI.2.1
  generalize H1 = H at hPX hPM hS ⊢
  have tie := hLI.2.2.2.2
  have hLI9 : LI v F v' F' := ⟨hI1, hI2, hLI.2.2.1, hLI.2.2.2.1, by omega, by omega, by omega, by omega, (rfl.trans (hLI.2.2.2.2.2.2.2.2.1.trans rfl)), (rfl.trans (hLI.2.2.2.2.2.2.2.2.2.trans rfl))⟩
  refine lv_pop hx hb dL_law_749 rfl ?_
  refine lv_goto (tgt := 1485) hx hb dL_law_750 (by decide) ?_
  exact hK v F rc v' F' H _ ls hLI9 hPX hPM hS hl
set_option maxHeartbeats 4000000 in
set_option maxRecDepth 100000 in
theorem law_case_15 {p : Program} {l : Launch} {e : Env} {s : State} {m : MethodId} {below : List Frame} {meth : Method} {c : Code} {dC : Nat → ClassId} {dI : Nat → Nat → Nat} {b L : Nat} {xs : Nat → Int32} {gX gM adK adV : Nat → Nat} {cX cM : Nat → ClassId} (hL : L ≤ 3584) (C0 : lw_At p s m meth c b L xs) (hLS : LSta s dC dI gX cX gM cM adK adV) {i : Int32} (hi : 0 ≤ i.toInt ∧ i.toInt + 7 ≤ (L : Int)) {v : Nat → Int32} {F : Nat → Nat → Int32} {rc : Nat} {v' : Nat → Int32} {F' : Nat → Nat → Int32} {H : Heap} {locs : List Loc} {ls : Array Slot} (hLI : LI v F v' F') (hPX : va_P (dC, dI) classes (wX gX cX v F rc) H) (hPM : va_P (dC, dI) classes (wM gM cM v' F' 0) H) (hS : va_S (fun q : Nat => s.heap.size ≤ q) s.heap H locs) (hl : lv_has ls 4 [(3, .int i), (2, .ref (gM 0)), (1, .ref (gX 0)), (0, .ref b)]) (hK : ∀ (v : Nat → Int32) (F : Nat → Nat → Int32) (rc : Nat) (v' : Nat → Int32) (F' : Nat → Nat → Int32) (H : Heap) (locs : List Loc) (ls : Array Slot), LI v F v' F' → va_P (dC, dI) classes (wX gX cX v F rc) H → va_P (dC, dI) classes (wM gM cM v' F' 0) H → va_S (fun q : Nat => s.heap.size ≤ q) s.heap H locs → lv_has ls 4 [(3, .int i), (2, .ref (gM 0)), (1, .ref (gX 0)), (0, .ref b)] → W p l e room_1 s m #[Value.ref b] below meth c H locs 126 19787 (lw_Z below #[Value.ref b] s) (F0 m 1485 ls [])) : W p l e room_1 s m #[Value.ref b] below meth c H locs 126 19787 (lw_Z below #[Value.ref b] s) (F0 m 753 ls []) := by
  obtain ⟨hx, hb, hr, hml, hown, hts, hX, hbl, hlocks, hgv⟩ := id C0
  have hown : s.vm.findClass RL = some m.cls := hown
  have hwd : ∀ w ∈ wA, w.before #[Value.ref b] s = true := fun w h => hts w (wA_in w h)
  have hbA : ¬ (fun q : Nat => s.heap.size ≤ q) b := Nat.not_le.mpr hbl
  refine lv_aload_n hx hb dL_law_753 rfl (lv_at hl 2 rfl) ?_
  refine lv_aload_n hx hb dL_law_754 rfl (lv_at hl 3 rfl) ?_
  refine lv_iload_n hx hb dL_law_755 rfl (lv_at hl 0 rfl) ?_
  refine lv_iconst (v := 1) hx hb dL_law_756 (by decide) ?_
  refine lv_iadd hx hb dL_law_757 ?_
  refine lv_topi (fun z1 ez1 => ?_)
  have tz1 := tadd ez1 rfl (b := 1) (by decide) (by omega)
  refine va_sld hx hb hX hbl hbA hS (i := z1) (vin rfl (by omega)) dL_law_758 ?_
  refine lv_topi (fun a1 ea1 => ?_)
  refine lv_aload_n hx hb dL_law_759 rfl (lv_at hl 3 rfl) ?_
  refine lv_iload_n hx hb dL_law_760 rfl (lv_at hl 0 rfl) ?_
  refine lv_iconst (v := 2) hx hb dL_law_761 (by decide) ?_
  refine lv_iadd hx hb dL_law_762 ?_
  refine lv_topi (fun z2 ez2 => ?_)
  have tz2 := tadd ez2 rfl (b := 2) (by decide) (by omega)
  refine va_sld hx hb hX hbl hbA hS (i := z2) (vin rfl (by omega)) dL_law_763 ?_
  refine lv_topi (fun a2 ea2 => ?_)
  refine lv_aload_n hx hb dL_law_764 rfl (lv_at hl 3 rfl) ?_
  refine lv_iload_n hx hb dL_law_765 rfl (lv_at hl 0 rfl) ?_
  refine lv_iconst (v := 3) hx hb dL_law_766 (by decide) ?_
  refine lv_iadd hx hb dL_law_767 ?_
  refine lv_topi (fun z3 ez3 => ?_)
  have tz3 := tadd ez3 rfl (b := 3) (by decide) (by omega)
  refine va_sld hx hb hX hbl hbA hS (i := z3) (vin rfl (by omega)) dL_law_768 ?_
  refine lv_topi (fun a3 ea3 => ?_)
  refine va_calli (va_runV (As := [.int a1, .int a2, .int a3]) (rest := []) ⟨hx, hb, hml, hown, hwd⟩ (c_X11_paper l dC dI gX cX adK adV v F rc H.size a1 a2 a3 hLS.1 hLI.1) (cwV 3 hwd (gV wk_807 wk_804 wk_805 wk_806 wk_2) rfl rfl rfl (by decide +kernel) ⟨Nat.le_of_ble_eq_true rfl, Nat.le_of_ble_eq_true rfl⟩) ⟨PX.blind, va_recv hLS.2.2.2.2.2.1 hPX (ci := 11) (q0 := 0) rfl rfl, fun U hU hW => ⟨rfl, by rw [hU], by rw [hU]; exact hPX, va_K.moved hW.alike hLS.2.2.2.2.2.1, hLS.2.2.2.2.2.2.2.at hS (hLS.fX hS.1) hU hW⟩⟩ rfl rfl hl.1 rfl (lv_room (Nat.le_of_ble_eq_true rfl)) dL_law_769 ⟨Nat.le_of_ble_eq_true rfl, Nat.le_of_ble_eq_true rfl⟩) hS (fun q _ h => (hLS.fX hS.1) q h) (hLS.fX hS.1) (fun r1 u t H1 locs ht hvm hw hB hz1 hk1 hS => ?_)
  unfold BX at hB
  rw [ht] at hB
  have hPM := hLS.kM hPM hk1
  obtain ⟨v1, F1, rc1⟩ := u
  obtain ⟨hI1, hal1, -, -, -⟩ := hw
  dsimp only at hI1 hal1 hB
  have q1 := alX_c hal1
  have hPX : va_P (dC, dI) classes (wX gX cX v1 F1 rc1) H1 := hB
  generalize H1 = H at hPX hPM hS ⊢
  refine lv_pop hx hb dL_law_772 rfl ?_
  refine lv_aload_n hx hb dL_law_773 rfl (lv_at hl 1 rfl) ?_
  refine lv_aload_n hx hb dL_law_774 rfl (lv_at hl 3 rfl) ?_
  refine lv_iload_n hx hb dL_law_775 rfl (lv_at hl 0 rfl) ?_
  refine lv_iconst (v := 1) hx hb dL_law_776 (by decide) ?_
  refine lv_iadd hx hb dL_law_777 ?_
  refine lv_topi (fun z4 ez4 => ?_)
  have tz4 := tadd ez4 rfl (b := 1) (by decide) (by omega)
  refine va_sld hx hb hX hbl hbA hS (i := z4) (vin rfl (by omega)) dL_law_778 ?_
  refine my_top (v := a1) (by rw [ea1, ez4, ez1]) ?_
  refine lv_aload_n hx hb dL_law_779 rfl (lv_at hl 3 rfl) ?_
  refine lv_iload_n hx hb dL_law_780 rfl (lv_at hl 0 rfl) ?_
  refine lv_iconst (v := 2) hx hb dL_law_781 (by decide) ?_
  refine lv_iadd hx hb dL_law_782 ?_
  refine lv_topi (fun z5 ez5 => ?_)
  have tz5 := tadd ez5 rfl (b := 2) (by decide) (by omega)
  refine va_sld hx hb hX hbl hbA hS (i := z5) (vin rfl (by omega)) dL_law_783 ?_
  refine my_top (v := a2) (by rw [ea2, ez5, ez2]) ?_
  refine lv_aload_n hx hb dL_law_784 rfl (lv_at hl 3 rfl) ?_
  refine lv_iload_n hx hb dL_law_785 rfl (lv_at hl 0 rfl) ?_
  refine lv_iconst (v := 3) hx hb dL_law_786 (by decide) ?_
  refine lv_iadd hx hb dL_law_787 ?_
  refine lv_topi (fun z6 ez6 => ?_)
  have tz6 := tadd ez6 rfl (b := 3) (by decide) (by omega)
  refine va_sld hx hb hX hbl hbA hS (i := z6) (vin rfl (by omega)) dL_law_788 ?_
  refine my_top (v := a3) (by rw [ea3, ez6, ez3]) ?_
  refine va_calli (va_runV (As := [.int a1, .int a2, .int a3]) (rest := []) ⟨hx, hb, hml, hown, hwd⟩ (c_X12_paper l dC dI gM cM adK adV v' F' 0 H.size a1 a2 a3 hLS.2.1 hLI.2.1) (cwV 3 hwd (gV wk_812 wk_809 wk_810 wk_811 wk_5) rfl rfl rfl (by decide +kernel) ⟨Nat.le_of_ble_eq_true rfl, Nat.le_of_ble_eq_true rfl⟩) ⟨PM.blind, va_recv hLS.2.2.2.2.2.2.1 hPM (ci := 12) (q0 := 0) rfl rfl, fun U hU hW => ⟨rfl, by rw [hU], by rw [hU]; exact hPM, va_K.moved hW.alike hLS.2.2.2.2.2.2.1, trivial⟩⟩ rfl rfl hl.1 rfl (lv_room (Nat.le_of_ble_eq_true rfl)) dL_law_789 ⟨Nat.le_of_ble_eq_true rfl, Nat.le_of_ble_eq_true rfl⟩) hS (fun q _ h => (hLS.fM hS.1) q h) (hLS.fM hS.1) (fun r2 u t H1 locs ht hvm hw hB hz1 hk1 hS => ?_)
  unfold BM at hB
  rw [ht] at hB
  have hPX := hLS.kX hPX hk1
  obtain ⟨v2, F2, rc2⟩ := u
  obtain ⟨hI2, hrc2, hf2, hG2, hw2⟩ := hw
  dsimp only at hI2 hrc2 hf2 hG2 hw2 hB
  rw [hrc2] at hB
  have hPM : va_P (dC, dI) classes (wM gM cM v2 F2 0) H1 := hB
  have g1 := congrArg Int32.toInt (hf2 1 (by decide))
  have g2 := congrArg Int32.toInt (hf2 2 (by decide))
  have g6 := congrArg Int32.toInt (hf2 6 (by decide))
  have g45 := congrArg Int32.toInt (hf2 45 (by decide))
  generalize H1 = H at hPX hPM hS ⊢
  have tie := hLI.2.2.2.2
  have hLI9 : LI v1 F1 v2 F2 := ⟨hI1, hI2, (JO.to hLI.2.2.1 (hf2 14 (by decide)) (hf2 19 (by decide)) (hG2 13 (by decide)) (hG2 15 (by decide)) (hG2 18 (by decide))), (JL.to hLI.2.2.2.1 (hf2 31 (by decide)) (hG2 28 (by decide)) (hG2 29 (by decide)) (hG2 27 (by decide))), by omega, by omega, by omega, by omega, (q1.2.1.trans (hLI.2.2.2.2.2.2.2.2.1.trans (hG2 44 (by decide)).symm)), (q1.2.2.trans (hLI.2.2.2.2.2.2.2.2.2.trans (hG2 45 (by decide)).symm))⟩
  refine lv_pop hx hb dL_law_792 rfl ?_
  refine lv_goto (tgt := 1485) hx hb dL_law_793 (by decide) ?_
  exact hK v1 F1 rc1 v2 F2 H _ ls hLI9 hPX hPM hS hl
set_option maxHeartbeats 4000000 in
set_option maxRecDepth 100000 in
theorem law_case_16 {p : Program} {l : Launch} {e : Env} {s : State} {m : MethodId} {below : List Frame} {meth : Method} {c : Code} {dC : Nat → ClassId} {dI : Nat → Nat → Nat} {b L : Nat} {xs : Nat → Int32} {gX gM adK adV : Nat → Nat} {cX cM : Nat → ClassId} (hL : L ≤ 3584) (C0 : lw_At p s m meth c b L xs) (hLS : LSta s dC dI gX cX gM cM adK adV) {i : Int32} (hi : 0 ≤ i.toInt ∧ i.toInt + 7 ≤ (L : Int)) {v : Nat → Int32} {F : Nat → Nat → Int32} {rc : Nat} {v' : Nat → Int32} {F' : Nat → Nat → Int32} {H : Heap} {locs : List Loc} {ls : Array Slot} (hLI : LI v F v' F') (hPX : va_P (dC, dI) classes (wX gX cX v F rc) H) (hPM : va_P (dC, dI) classes (wM gM cM v' F' 0) H) (hS : va_S (fun q : Nat => s.heap.size ≤ q) s.heap H locs) (hl : lv_has ls 4 [(3, .int i), (2, .ref (gM 0)), (1, .ref (gX 0)), (0, .ref b)]) (hK : ∀ (v : Nat → Int32) (F : Nat → Nat → Int32) (rc : Nat) (v' : Nat → Int32) (F' : Nat → Nat → Int32) (H : Heap) (locs : List Loc) (ls : Array Slot), LI v F v' F' → va_P (dC, dI) classes (wX gX cX v F rc) H → va_P (dC, dI) classes (wM gM cM v' F' 0) H → va_S (fun q : Nat => s.heap.size ≤ q) s.heap H locs → lv_has ls 4 [(3, .int i), (2, .ref (gM 0)), (1, .ref (gX 0)), (0, .ref b)] → W p l e room_1 s m #[Value.ref b] below meth c H locs 126 19787 (lw_Z below #[Value.ref b] s) (F0 m 1485 ls [])) : W p l e room_1 s m #[Value.ref b] below meth c H locs 126 19787 (lw_Z below #[Value.ref b] s) (F0 m 796 ls []) := by
  obtain ⟨hx, hb, hr, hml, hown, hts, hX, hbl, hlocks, hgv⟩ := id C0
  have hown : s.vm.findClass RL = some m.cls := hown
  have hwd : ∀ w ∈ wA, w.before #[Value.ref b] s = true := fun w h => hts w (wA_in w h)
  have hbA : ¬ (fun q : Nat => s.heap.size ≤ q) b := Nat.not_le.mpr hbl
  refine lv_aload_n hx hb dL_law_796 rfl (lv_at hl 2 rfl) ?_
  refine lv_aload_n hx hb dL_law_797 rfl (lv_at hl 3 rfl) ?_
  refine lv_iload_n hx hb dL_law_798 rfl (lv_at hl 0 rfl) ?_
  refine lv_iconst (v := 1) hx hb dL_law_799 (by decide) ?_
  refine lv_iadd hx hb dL_law_800 ?_
  refine lv_topi (fun z1 ez1 => ?_)
  have tz1 := tadd ez1 rfl (b := 1) (by decide) (by omega)
  refine va_sld hx hb hX hbl hbA hS (i := z1) (vin rfl (by omega)) dL_law_801 ?_
  refine lv_topi (fun a1 ea1 => ?_)
  refine lv_aload_n hx hb dL_law_802 rfl (lv_at hl 3 rfl) ?_
  refine lv_iload_n hx hb dL_law_803 rfl (lv_at hl 0 rfl) ?_
  refine lv_iconst (v := 2) hx hb dL_law_804 (by decide) ?_
  refine lv_iadd hx hb dL_law_805 ?_
  refine lv_topi (fun z2 ez2 => ?_)
  have tz2 := tadd ez2 rfl (b := 2) (by decide) (by omega)
  refine va_sld hx hb hX hbl hbA hS (i := z2) (vin rfl (by omega)) dL_law_806 ?_
  refine lv_topi (fun a2 ea2 => ?_)
  refine lv_aload_n hx hb dL_law_807 rfl (lv_at hl 3 rfl) ?_
  refine lv_iload_n hx hb dL_law_808 rfl (lv_at hl 0 rfl) ?_
  refine lv_iconst (v := 3) hx hb dL_law_809 (by decide) ?_
  refine lv_iadd hx hb dL_law_810 ?_
  refine lv_topi (fun z3 ez3 => ?_)
  have tz3 := tadd ez3 rfl (b := 3) (by decide) (by omega)
  refine va_sld hx hb hX hbl hbA hS (i := z3) (vin rfl (by omega)) dL_law_811 ?_
  refine lv_topi (fun a3 ea3 => ?_)
  refine lv_aload_n hx hb dL_law_812 rfl (lv_at hl 3 rfl) ?_
  refine lv_iload_n hx hb dL_law_813 rfl (lv_at hl 0 rfl) ?_
  refine lv_iconst (v := 4) hx hb dL_law_814 (by decide) ?_
  refine lv_iadd hx hb dL_law_815 ?_
  refine lv_topi (fun z4 ez4 => ?_)
  have tz4 := tadd ez4 rfl (b := 4) (by decide) (by omega)
  refine va_sld hx hb hX hbl hbA hS (i := z4) (vin rfl (by omega)) dL_law_816 ?_
  refine lv_topi (fun a4 ea4 => ?_)
  refine lv_aload_n hx hb dL_law_817 rfl (lv_at hl 3 rfl) ?_
  refine lv_iload_n hx hb dL_law_818 rfl (lv_at hl 0 rfl) ?_
  refine lv_iconst (v := 5) hx hb dL_law_819 (by decide) ?_
  refine lv_iadd hx hb dL_law_820 ?_
  refine lv_topi (fun z5 ez5 => ?_)
  have tz5 := tadd ez5 rfl (b := 5) (by decide) (by omega)
  refine va_sld hx hb hX hbl hbA hS (i := z5) (vin rfl (by omega)) dL_law_821 ?_
  refine lv_topi (fun a5 ea5 => ?_)
  refine lv_aload_n hx hb dL_law_822 rfl (lv_at hl 3 rfl) ?_
  refine lv_iload_n hx hb dL_law_823 rfl (lv_at hl 0 rfl) ?_
  refine lv_bipush (v := 6) hx hb dL_law_824 (by decide) ?_
  refine lv_iadd hx hb dL_law_826 ?_
  refine lv_topi (fun z6 ez6 => ?_)
  have tz6 := tadd ez6 rfl (b := 6) (by decide) (by omega)
  refine va_sld hx hb hX hbl hbA hS (i := z6) (vin rfl (by omega)) dL_law_827 ?_
  refine lv_topi (fun a6 ea6 => ?_)
  refine va_calli (va_runV (As := [.int a1, .int a2, .int a3, .int a4, .int a5, .int a6]) (rest := []) ⟨hx, hb, hml, hown, hwd⟩ (c_X11_past l dC dI gX cX adK adV v F rc H.size a1 a2 a3 a4 a5 a6 hLS.1 hLI.1) (cwV 6 hwd (gV wk_816 wk_813 wk_814 wk_815 wk_2) rfl rfl rfl (by decide +kernel) ⟨Nat.le_of_ble_eq_true rfl, Nat.le_of_ble_eq_true rfl⟩) ⟨PX.blind, va_recv hLS.2.2.2.2.2.1 hPX (ci := 11) (q0 := 0) rfl rfl, fun U hU hW => ⟨rfl, by rw [hU], by rw [hU]; exact hPX, va_K.moved hW.alike hLS.2.2.2.2.2.1, hLS.2.2.2.2.2.2.2.at hS (hLS.fX hS.1) hU hW⟩⟩ rfl rfl hl.1 rfl (lv_room (Nat.le_of_ble_eq_true rfl)) dL_law_828 ⟨Nat.le_of_ble_eq_true rfl, Nat.le_of_ble_eq_true rfl⟩) hS (fun q _ h => (hLS.fX hS.1) q h) (hLS.fX hS.1) (fun r1 u t H1 locs ht hvm hw hB hz1 hk1 hS => ?_)
  unfold BX at hB
  rw [ht] at hB
  have hPM := hLS.kM hPM hk1
  obtain ⟨v1, F1, rc1⟩ := u
  obtain ⟨hI1, hal1, -, -, -⟩ := hw
  dsimp only at hI1 hal1 hB
  have q1 := alX_c hal1
  have hPX : va_P (dC, dI) classes (wX gX cX v1 F1 rc1) H1 := hB
  generalize H1 = H at hPX hPM hS ⊢
  refine lv_pop hx hb dL_law_831 rfl ?_
  refine lv_aload_n hx hb dL_law_832 rfl (lv_at hl 1 rfl) ?_
  refine lv_aload_n hx hb dL_law_833 rfl (lv_at hl 3 rfl) ?_
  refine lv_iload_n hx hb dL_law_834 rfl (lv_at hl 0 rfl) ?_
  refine lv_iconst (v := 1) hx hb dL_law_835 (by decide) ?_
  refine lv_iadd hx hb dL_law_836 ?_
  refine lv_topi (fun z7 ez7 => ?_)
  have tz7 := tadd ez7 rfl (b := 1) (by decide) (by omega)
  refine va_sld hx hb hX hbl hbA hS (i := z7) (vin rfl (by omega)) dL_law_837 ?_
  refine my_top (v := a1) (by rw [ea1, ez7, ez1]) ?_
  refine lv_aload_n hx hb dL_law_838 rfl (lv_at hl 3 rfl) ?_
  refine lv_iload_n hx hb dL_law_839 rfl (lv_at hl 0 rfl) ?_
  refine lv_iconst (v := 2) hx hb dL_law_840 (by decide) ?_
  refine lv_iadd hx hb dL_law_841 ?_
  refine lv_topi (fun z8 ez8 => ?_)
  have tz8 := tadd ez8 rfl (b := 2) (by decide) (by omega)
  refine va_sld hx hb hX hbl hbA hS (i := z8) (vin rfl (by omega)) dL_law_842 ?_
  refine my_top (v := a2) (by rw [ea2, ez8, ez2]) ?_
  refine lv_aload_n hx hb dL_law_843 rfl (lv_at hl 3 rfl) ?_
  refine lv_iload_n hx hb dL_law_844 rfl (lv_at hl 0 rfl) ?_
  refine lv_iconst (v := 3) hx hb dL_law_845 (by decide) ?_
  refine lv_iadd hx hb dL_law_846 ?_
  refine lv_topi (fun z9 ez9 => ?_)
  have tz9 := tadd ez9 rfl (b := 3) (by decide) (by omega)
  refine va_sld hx hb hX hbl hbA hS (i := z9) (vin rfl (by omega)) dL_law_847 ?_
  refine my_top (v := a3) (by rw [ea3, ez9, ez3]) ?_
  refine lv_aload_n hx hb dL_law_848 rfl (lv_at hl 3 rfl) ?_
  refine lv_iload_n hx hb dL_law_849 rfl (lv_at hl 0 rfl) ?_
  refine lv_iconst (v := 4) hx hb dL_law_850 (by decide) ?_
  refine lv_iadd hx hb dL_law_851 ?_
  refine lv_topi (fun z10 ez10 => ?_)
  have tz10 := tadd ez10 rfl (b := 4) (by decide) (by omega)
  refine va_sld hx hb hX hbl hbA hS (i := z10) (vin rfl (by omega)) dL_law_852 ?_
  refine my_top (v := a4) (by rw [ea4, ez10, ez4]) ?_
  refine lv_aload_n hx hb dL_law_853 rfl (lv_at hl 3 rfl) ?_
  refine lv_iload_n hx hb dL_law_854 rfl (lv_at hl 0 rfl) ?_
  refine lv_iconst (v := 5) hx hb dL_law_855 (by decide) ?_
  refine lv_iadd hx hb dL_law_856 ?_
  refine lv_topi (fun z11 ez11 => ?_)
  have tz11 := tadd ez11 rfl (b := 5) (by decide) (by omega)
  refine va_sld hx hb hX hbl hbA hS (i := z11) (vin rfl (by omega)) dL_law_857 ?_
  refine my_top (v := a5) (by rw [ea5, ez11, ez5]) ?_
  refine lv_aload_n hx hb dL_law_858 rfl (lv_at hl 3 rfl) ?_
  refine lv_iload_n hx hb dL_law_859 rfl (lv_at hl 0 rfl) ?_
  refine lv_bipush (v := 6) hx hb dL_law_860 (by decide) ?_
  refine lv_iadd hx hb dL_law_862 ?_
  refine lv_topi (fun z12 ez12 => ?_)
  have tz12 := tadd ez12 rfl (b := 6) (by decide) (by omega)
  refine va_sld hx hb hX hbl hbA hS (i := z12) (vin rfl (by omega)) dL_law_863 ?_
  refine my_top (v := a6) (by rw [ea6, ez12, ez6]) ?_
  refine va_calli (va_runV (As := [.int a1, .int a2, .int a3, .int a4, .int a5, .int a6]) (rest := []) ⟨hx, hb, hml, hown, hwd⟩ (c_X12_past l dC dI gM cM adK adV v' F' 0 H.size a1 a2 a3 a4 a5 a6 hLS.2.1 hLI.2.1 hLI.2.2.1) (cwV 6 hwd (gV wk_823 wk_820 wk_821 wk_822 wk_5) rfl rfl rfl (by decide +kernel) ⟨Nat.le_of_ble_eq_true rfl, Nat.le_of_ble_eq_true rfl⟩) ⟨PM.blind, va_recv hLS.2.2.2.2.2.2.1 hPM (ci := 12) (q0 := 0) rfl rfl, fun U hU hW => ⟨rfl, by rw [hU], by rw [hU]; exact hPM, va_K.moved hW.alike hLS.2.2.2.2.2.2.1, trivial⟩⟩ rfl rfl hl.1 rfl (lv_room (Nat.le_of_ble_eq_true rfl)) dL_law_864 ⟨Nat.le_of_ble_eq_true rfl, Nat.le_of_ble_eq_true rfl⟩) hS (fun q _ h => (hLS.fM hS.1) q h) (hLS.fM hS.1) (fun r2 u t H1 locs ht hvm hw hB hz1 hk1 hS => ?_)
  unfold BM at hB
  rw [ht] at hB
  have hPX := hLS.kX hPX hk1
  obtain ⟨v2, F2, rc2⟩ := u
  obtain ⟨hI2, hrc2, hf2, hG2, hw2⟩ := hw
  dsimp only at hI2 hrc2 hf2 hG2 hw2 hB
  rw [hrc2] at hB
  have hPM : va_P (dC, dI) classes (wM gM cM v2 F2 0) H1 := hB
  have g1 := congrArg Int32.toInt (hf2 1 (by decide))
  have g2 := congrArg Int32.toInt (hf2 2 (by decide))
  have g6 := congrArg Int32.toInt (hf2 6 (by decide))
  have g45 := congrArg Int32.toInt (hf2 45 (by decide))
  generalize H1 = H at hPX hPM hS ⊢
  have tie := hLI.2.2.2.2
  have hLI9 : LI v1 F1 v2 F2 := ⟨hI1, hI2, hw2, (JL.to hLI.2.2.2.1 (hf2 31 (by decide)) (hG2 28 (by decide)) (hG2 29 (by decide)) (hG2 27 (by decide))), by omega, by omega, by omega, by omega, (q1.2.1.trans (hLI.2.2.2.2.2.2.2.2.1.trans (hG2 44 (by decide)).symm)), (q1.2.2.trans (hLI.2.2.2.2.2.2.2.2.2.trans (hG2 45 (by decide)).symm))⟩
  refine lv_pop hx hb dL_law_867 rfl ?_
  refine lv_goto (tgt := 1485) hx hb dL_law_868 (by decide) ?_
  exact hK v1 F1 rc1 v2 F2 H _ ls hLI9 hPX hPM hS hl
set_option maxHeartbeats 4000000 in
set_option maxRecDepth 100000 in
theorem law_case_17 {p : Program} {l : Launch} {e : Env} {s : State} {m : MethodId} {below : List Frame} {meth : Method} {c : Code} {dC : Nat → ClassId} {dI : Nat → Nat → Nat} {b L : Nat} {xs : Nat → Int32} {gX gM adK adV : Nat → Nat} {cX cM : Nat → ClassId} (hL : L ≤ 3584) (C0 : lw_At p s m meth c b L xs) (hLS : LSta s dC dI gX cX gM cM adK adV) {i : Int32} (hi : 0 ≤ i.toInt ∧ i.toInt + 7 ≤ (L : Int)) {v : Nat → Int32} {F : Nat → Nat → Int32} {rc : Nat} {v' : Nat → Int32} {F' : Nat → Nat → Int32} {H : Heap} {locs : List Loc} {ls : Array Slot} (hLI : LI v F v' F') (hPX : va_P (dC, dI) classes (wX gX cX v F rc) H) (hPM : va_P (dC, dI) classes (wM gM cM v' F' 0) H) (hS : va_S (fun q : Nat => s.heap.size ≤ q) s.heap H locs) (hl : lv_has ls 4 [(3, .int i), (2, .ref (gM 0)), (1, .ref (gX 0)), (0, .ref b)]) (hK : ∀ (v : Nat → Int32) (F : Nat → Nat → Int32) (rc : Nat) (v' : Nat → Int32) (F' : Nat → Nat → Int32) (H : Heap) (locs : List Loc) (ls : Array Slot), LI v F v' F' → va_P (dC, dI) classes (wX gX cX v F rc) H → va_P (dC, dI) classes (wM gM cM v' F' 0) H → va_S (fun q : Nat => s.heap.size ≤ q) s.heap H locs → lv_has ls 4 [(3, .int i), (2, .ref (gM 0)), (1, .ref (gX 0)), (0, .ref b)] → W p l e room_1 s m #[Value.ref b] below meth c H locs 126 19787 (lw_Z below #[Value.ref b] s) (F0 m 1485 ls [])) : W p l e room_1 s m #[Value.ref b] below meth c H locs 126 19787 (lw_Z below #[Value.ref b] s) (F0 m 871 ls []) := by
  obtain ⟨hx, hb, hr, hml, hown, hts, hX, hbl, hlocks, hgv⟩ := id C0
  have hown : s.vm.findClass RL = some m.cls := hown
  have hwd : ∀ w ∈ wA, w.before #[Value.ref b] s = true := fun w h => hts w (wA_in w h)
  have hbA : ¬ (fun q : Nat => s.heap.size ≤ q) b := Nat.not_le.mpr hbl
  refine lv_aload_n hx hb dL_law_871 rfl (lv_at hl 2 rfl) ?_
  refine lv_aload_n hx hb dL_law_872 rfl (lv_at hl 3 rfl) ?_
  refine lv_iload_n hx hb dL_law_873 rfl (lv_at hl 0 rfl) ?_
  refine lv_iconst (v := 1) hx hb dL_law_874 (by decide) ?_
  refine lv_iadd hx hb dL_law_875 ?_
  refine lv_topi (fun z1 ez1 => ?_)
  have tz1 := tadd ez1 rfl (b := 1) (by decide) (by omega)
  refine va_sld hx hb hX hbl hbA hS (i := z1) (vin rfl (by omega)) dL_law_876 ?_
  refine lv_topi (fun a1 ea1 => ?_)
  refine lv_aload_n hx hb dL_law_877 rfl (lv_at hl 3 rfl) ?_
  refine lv_iload_n hx hb dL_law_878 rfl (lv_at hl 0 rfl) ?_
  refine lv_iconst (v := 2) hx hb dL_law_879 (by decide) ?_
  refine lv_iadd hx hb dL_law_880 ?_
  refine lv_topi (fun z2 ez2 => ?_)
  have tz2 := tadd ez2 rfl (b := 2) (by decide) (by omega)
  refine va_sld hx hb hX hbl hbA hS (i := z2) (vin rfl (by omega)) dL_law_881 ?_
  refine lv_topi (fun a2 ea2 => ?_)
  refine va_calli (va_runV (As := [.int a1, .int a2]) (rest := []) ⟨hx, hb, hml, hown, hwd⟩ (c_X11_feed l dC dI gX cX adK adV v F rc H.size a1 a2 hLS.1 hLI.1) (cwV 2 hwd (gV wk_829 wk_826 wk_827 wk_828 wk_2) rfl rfl rfl (by decide +kernel) ⟨Nat.le_of_ble_eq_true rfl, Nat.le_of_ble_eq_true rfl⟩) ⟨PX.blind, va_recv hLS.2.2.2.2.2.1 hPX (ci := 11) (q0 := 0) rfl rfl, fun U hU hW => ⟨rfl, by rw [hU], by rw [hU]; exact hPX, va_K.moved hW.alike hLS.2.2.2.2.2.1, hLS.2.2.2.2.2.2.2.at hS (hLS.fX hS.1) hU hW⟩⟩ rfl rfl hl.1 rfl (lv_room (Nat.le_of_ble_eq_true rfl)) dL_law_882 ⟨Nat.le_of_ble_eq_true rfl, Nat.le_of_ble_eq_true rfl⟩) hS (fun q _ h => (hLS.fX hS.1) q h) (hLS.fX hS.1) (fun r1 u t H1 locs ht hvm hw hB hz1 hk1 hS => ?_)
  unfold BX at hB
  rw [ht] at hB
  have hPM := hLS.kM hPM hk1
  obtain ⟨v1, F1, rc1⟩ := u
  obtain ⟨hI1, hal1, -, -, -⟩ := hw
  dsimp only at hI1 hal1 hB
  have q1 := alX_c hal1
  have hPX : va_P (dC, dI) classes (wX gX cX v1 F1 rc1) H1 := hB
  generalize H1 = H at hPX hPM hS ⊢
  refine lv_pop hx hb dL_law_885 rfl ?_
  refine lv_aload_n hx hb dL_law_886 rfl (lv_at hl 1 rfl) ?_
  refine lv_aload_n hx hb dL_law_887 rfl (lv_at hl 3 rfl) ?_
  refine lv_iload_n hx hb dL_law_888 rfl (lv_at hl 0 rfl) ?_
  refine lv_iconst (v := 1) hx hb dL_law_889 (by decide) ?_
  refine lv_iadd hx hb dL_law_890 ?_
  refine lv_topi (fun z3 ez3 => ?_)
  have tz3 := tadd ez3 rfl (b := 1) (by decide) (by omega)
  refine va_sld hx hb hX hbl hbA hS (i := z3) (vin rfl (by omega)) dL_law_891 ?_
  refine my_top (v := a1) (by rw [ea1, ez3, ez1]) ?_
  refine lv_aload_n hx hb dL_law_892 rfl (lv_at hl 3 rfl) ?_
  refine lv_iload_n hx hb dL_law_893 rfl (lv_at hl 0 rfl) ?_
  refine lv_iconst (v := 2) hx hb dL_law_894 (by decide) ?_
  refine lv_iadd hx hb dL_law_895 ?_
  refine lv_topi (fun z4 ez4 => ?_)
  have tz4 := tadd ez4 rfl (b := 2) (by decide) (by omega)
  refine va_sld hx hb hX hbl hbA hS (i := z4) (vin rfl (by omega)) dL_law_896 ?_
  refine my_top (v := a2) (by rw [ea2, ez4, ez2]) ?_
  refine va_calli (va_runV (As := [.int a1, .int a2]) (rest := []) ⟨hx, hb, hml, hown, hwd⟩ (c_X12_feed l dC dI gM cM adK adV v' F' 0 H.size a1 a2 hLS.2.1 hLI.2.1) (cwV 2 hwd (gV wk_838 wk_835 wk_836 wk_837 wk_5) rfl rfl rfl (by decide +kernel) ⟨Nat.le_of_ble_eq_true rfl, Nat.le_of_ble_eq_true rfl⟩) ⟨PM.blind, va_recv hLS.2.2.2.2.2.2.1 hPM (ci := 12) (q0 := 0) rfl rfl, fun U hU hW => ⟨rfl, by rw [hU], by rw [hU]; exact hPM, va_K.moved hW.alike hLS.2.2.2.2.2.2.1, trivial⟩⟩ rfl rfl hl.1 rfl (lv_room (Nat.le_of_ble_eq_true rfl)) dL_law_897 ⟨Nat.le_of_ble_eq_true rfl, Nat.le_of_ble_eq_true rfl⟩) hS (fun q _ h => (hLS.fM hS.1) q h) (hLS.fM hS.1) (fun r2 u t H1 locs ht hvm hw hB hz1 hk1 hS => ?_)
  unfold BM at hB
  rw [ht] at hB
  have hPX := hLS.kX hPX hk1
  obtain ⟨v2, F2, rc2⟩ := u
  obtain ⟨hI2, hrc2, hf2, hG2, hw2⟩ := hw
  dsimp only at hI2 hrc2 hf2 hG2 hw2 hB
  rw [hrc2] at hB
  have hPM : va_P (dC, dI) classes (wM gM cM v2 F2 0) H1 := hB
  have g1 := congrArg Int32.toInt (hf2 1 (by decide))
  have g2 := congrArg Int32.toInt (hf2 2 (by decide))
  have g6 := congrArg Int32.toInt (hf2 6 (by decide))
  have g45 := congrArg Int32.toInt (hf2 45 (by decide))
  generalize H1 = H at hPX hPM hS ⊢
  have tie := hLI.2.2.2.2
  have hLI9 : LI v1 F1 v2 F2 := ⟨hI1, hI2, (JO.to hLI.2.2.1 (hf2 14 (by decide)) (hf2 19 (by decide)) (hG2 13 (by decide)) (hG2 15 (by decide)) (hG2 18 (by decide))), (JL.to hLI.2.2.2.1 (hf2 31 (by decide)) (hG2 28 (by decide)) (hG2 29 (by decide)) (hG2 27 (by decide))), by omega, by omega, by omega, by omega, (q1.2.1.trans (hLI.2.2.2.2.2.2.2.2.1.trans (hG2 44 (by decide)).symm)), (q1.2.2.trans (hLI.2.2.2.2.2.2.2.2.2.trans (hG2 45 (by decide)).symm))⟩
  refine lv_pop hx hb dL_law_900 rfl ?_
  refine lv_goto (tgt := 1485) hx hb dL_law_901 (by decide) ?_
  exact hK v1 F1 rc1 v2 F2 H _ ls hLI9 hPX hPM hS hl
