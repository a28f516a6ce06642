set_option maxHeartbeats 8000000 in
set_option maxRecDepth 100000 in
theorem c_X5_hundredths (l : Launch) (dC : Nat → ClassId) (dI : Nat → Nat → Nat) (g : Nat → Nat) (c : Nat → ClassId) (adK adV : Nat → Nat) (v : Nat → Int32) (F : Nat → Nat → Int32) (rc sz : Nat) (p0 : Int32) (p1 : Int32) (p2 : Int32) (hg : injX g) (hI : IX v F) (h0 : 0 ≤ p0.toInt ∧ p0.toInt ≤ 99) (h1 : 0 ≤ p1.toInt ∧ p1.toInt ≤ 499) : Met l yX5_hundredths (Cond.code yX5_hundredths cX5_hundredths 5 (some .int) :: wA) ({ frames := 4, cells := 0, slots := 0, locals := 160 }) (va_Pc [.ref (g 10), .int p0, .int p1, .int p2] (PX dC dI g c adK adV v F rc sz)) (va_Qi (fun (r : Int32) (u : StX) => IX u.1 u.2.1 ∧ alX u.1 u.2.1 = alX v F ∧ u.2.2 = rc ∧ (∀ k, k ∉ ([126] : List Nat) → u.1 k = v k) ∧ True) (BX dC dI g c) (AX g sz)) 0 0 (AX g sz) := by
  refine Met.ofW (cc := cX5_hundredths) (maxL := 5) (ret := (some .int)) (by decide) rfl ?_
  intro p e s m args below meth c0 s₁ B hml hv
  obtain ⟨rfl, hsz, hP, hK, hE⟩ := hv
  have hx := B.exec
  have hb := B.bytes
  have hr := B.returns
  have hts := atoms_spec (ws := Cond.code yX5_hundredths cX5_hundredths 5 (some .int) :: wA) B.pre
  have hwd : ∀ w ∈ wA, w.before _ s = true := fun w h => hts w (List.mem_cons_of_mem _ h)
  have hown : s.vm.findClass RX5 = some m.cls := findClass_of_methodNamed B.named
  have hlocks := B.notSynchronized
  subst hsz
  have hl := lv_entry ([.ref (g 10), .int p0, .int p1, .int p2]) (n := 5) (Nat.le_of_ble_eq_true rfl)
  rw [lg_entry_eq]
  generalize (lg_sl ([.ref (g 10), .int p0, .int p1, .int p2]) ++ List.replicate (5 - (lg_sl ([.ref (g 10), .int p0, .int p1, .int p2])).length) Slot.unset).toArray = ls at hl ⊢
  have hl : lv_has ls 5 [(0, .ref (g 10)), (1, .int p0), (2, .int p1), (3, .int p2)] := hl
  obtain ⟨H, eH⟩ : ∃ z, z = s.heap := ⟨_, rfl⟩
  have hP : va_P (dC, dI) classes (wX g c v F rc) H := by rw [eH]; exact hP
  have hS : va_S (AX g s.heap.size) s.heap H [] := by rw [eH]; exact va_S.rf
  refine my_heap eH ?_
  have hal : alX v F = alX v F := rfl
  have rp0 := i32_rng p0
  have rp1 := i32_rng p1
  have rp2 := i32_rng p2
  refine lv_aload_n hx hb dX5_hundredths_0 rfl (lv_at hl 0 rfl) ?_
  refine va_get (D := (dC, dI)) (ci := 5) (v := .ref (g 6)) (C := RX5) (T := TX5) (N := 6) hx hb hwd inA_X5 hown hK hP 10 rfl rfl 3 (by decide) (hwd _ wk_149) (fun _ h9 => h9) rfl dX5_hundredths_1 ?_
  refine lv_aload_n hx hb dX5_hundredths_4 rfl (lv_at hl 0 rfl) ?_
  refine va_get (D := (dC, dI)) (ci := 5) (v := .ref (g 4)) (C := RX5) (T := TX5) (N := 6) hx hb hwd inA_X5 hown hK hP 10 rfl rfl 2 (by decide) (hwd _ wk_148) (fun _ h9 => h9) rfl dX5_hundredths_5 ?_
  refine va_get (D := (dC, dI)) (ci := 9) (v := .ref (g 31)) (C := RX9) (T := TX9) (N := 11) hx hb hwd inA_X9 hown hK hP 4 rfl rfl 3 (by decide) (hwd _ wk_383) (fun _ h9 => h9) rfl dX5_hundredths_8 ?_
  refine lv_iload_n hx hb dX5_hundredths_11 rfl (lv_at hl 2 rfl) ?_
  refine va_iald hx hb hK hP 31 19 rfl rfl (i := p1) (vin (a := p1.toInt) rfl (by omega)) dX5_hundredths_12 ?_
  refine lv_topi (fun z1460 e1461 => ?_)
  refine lv_iload_n hx hb dX5_hundredths_13 rfl (lv_at hl 3 rfl) ?_
  refine va_calli (va_runV (As := [.int z1460, .int p2]) (rest := []) ⟨hx, hb, hml, hown, hwd⟩ (c_X4_inForce l dC dI g c adK adV v F rc H.size z1460 p2 hg hI ) (cwV 2 hwd (gV wk_400 wk_397 wk_398 wk_399 wk_34) rfl rfl rfl (by decide +kernel) ⟨Nat.le_of_ble_eq_true rfl, Nat.le_of_ble_eq_true rfl⟩) ⟨PX.blind, va_recv hK hP (ci := 4) (q0 := 6) rfl rfl, fun U hU hW => ⟨rfl, PX.at hK hE hP hS hU hW⟩⟩ rfl rfl hl.1 rfl (lv_room (Nat.le_of_ble_eq_true rfl)) dX5_hundredths_14 ⟨Nat.le_of_ble_eq_true rfl, Nat.le_of_ble_eq_true rfl⟩) hS (fun q _ h => (freeX hS) q h) (freeX hS) (fun r1462 u t H1 locs ht hvm hw hB hz1 hk1 hS => ?_)
  unfold BX at hB
  rw [ht] at hB
  have hP : va_P (dC, dI) classes (wX g c v F rc) H1 := hB
  have hw : -1 ≤ r1462.toInt ∧ r1462.toInt ≤ 9 := hw
  generalize H1 = H at hP hS ⊢
  have hw_r1462 := hw
  refine lv_istore (lv' := [(4, .int r1462), (0, .ref (g 10)), (1, .int p0), (2, .int p1), (3, .int p2)]) hx hb dX5_hundredths_17 hl (by decide) rfl (fun ls hl => ?_)
  refine lv_iload hx hb dX5_hundredths_19 (lv_at hl 0 rfl) ?_
  refine lv_iconst (v := (-1)) hx hb dX5_hundredths_21 (by decide) ?_
  refine lv_icmp_ne (tgt := 27) hx hb dX5_hundredths_22 (by decide) (fun c1463 => ?_) (fun c1463 => ?_)
  · skip
    have t1464 := cv_ne (a := r1462.toInt) rfl (b := (-1)) (by decide) c1463
    refine lv_aload_n hx hb dX5_hundredths_27 rfl (lv_at hl 1 rfl) ?_
    refine va_get (D := (dC, dI)) (ci := 5) (v := .ref (g 73)) (C := RX5) (T := TX5) (N := 6) hx hb hwd inA_X5 hown hK hP 10 rfl rfl 4 (by decide) (hwd _ wk_143) (fun _ h9 => h9) rfl dX5_hundredths_28 ?_
    refine lv_iconst (v := 0) hx hb dX5_hundredths_31 (by decide) ?_
    refine lv_aload_n hx hb dX5_hundredths_32 rfl (lv_at hl 1 rfl) ?_
    refine va_get (D := (dC, dI)) (ci := 5) (v := .ref (g 4)) (C := RX5) (T := TX5) (N := 6) hx hb hwd inA_X5 hown hK hP 10 rfl rfl 2 (by decide) (hwd _ wk_148) (fun _ h9 => h9) rfl dX5_hundredths_33 ?_
    refine va_get (D := (dC, dI)) (ci := 9) (v := .ref (g 31)) (C := RX9) (T := TX9) (N := 11) hx hb hwd inA_X9 hown hK hP 4 rfl rfl 3 (by decide) (hwd _ wk_383) (fun _ h9 => h9) rfl dX5_hundredths_36 ?_
    refine lv_iload_n hx hb dX5_hundredths_39 rfl (lv_at hl 3 rfl) ?_
    refine va_iald hx hb hK hP 31 19 rfl rfl (i := p1) (vin (a := p1.toInt) rfl (by omega)) dX5_hundredths_40 ?_
    refine lv_topi (fun z1465 e1466 => ?_)
    refine lv_aload_n hx hb dX5_hundredths_41 rfl (lv_at hl 1 rfl) ?_
    refine va_get (D := (dC, dI)) (ci := 5) (v := .ref (g 4)) (C := RX5) (T := TX5) (N := 6) hx hb hwd inA_X5 hown hK hP 10 rfl rfl 2 (by decide) (hwd _ wk_148) (fun _ h9 => h9) rfl dX5_hundredths_42 ?_
    refine va_get (D := (dC, dI)) (ci := 9) (v := .ref (g 30)) (C := RX9) (T := TX9) (N := 11) hx hb hwd inA_X9 hown hK hP 4 rfl rfl 2 (by decide) (hwd _ wk_384) (fun _ h9 => h9) rfl dX5_hundredths_45 ?_
    refine lv_iload_n hx hb dX5_hundredths_48 rfl (lv_at hl 3 rfl) ?_
    refine va_iald hx hb hK hP 30 18 rfl rfl (i := p1) (vin (a := p1.toInt) rfl (by omega)) dX5_hundredths_49 ?_
    refine lv_topi (fun z1467 e1468 => ?_)
    refine lv_isub hx hb dX5_hundredths_50 ?_
    refine lv_topi (fun z1469 e1470 => ?_)
    try (have t1471 := tsub e1470 (a := z1465.toInt) rfl (b := z1467.toInt) rfl (by omega))
    refine va_iast hx hb hK hP (DX hg) hS 73 61 rfl rfl (i := 0) (x := z1469) (vin (a := 0) (by decide) (by omega)) dX5_hundredths_51 (fun H locs hP _ hS => ?_)
    have hP := va_P_eq (sX_73 g c _ _ _ _) hP
    have hI := IX.store0 hI 73 (0 : Int32).toNatClampNeg z1469 rfl
    have hal := (alX_F _ _ 73 (upd (F 73) (0 : Int32).toNatClampNeg z1469) (by decide) (by decide)).trans hal
    have hP : va_P (dC, dI) classes (wX g c v (va_up F 73 (upd (F 73) (0 : Int32).toNatClampNeg z1469)) rc) H := hP
    generalize (va_up F 73 (upd (F 73) (0 : Int32).toNatClampNeg z1469)) = F1472 at hP hI hal
    refine lv_aload_n hx hb dX5_hundredths_52 rfl (lv_at hl 1 rfl) ?_
    refine va_get (D := (dC, dI)) (ci := 5) (v := .ref (g 73)) (C := RX5) (T := TX5) (N := 6) hx hb hwd inA_X5 hown hK hP 10 rfl rfl 4 (by decide) (hwd _ wk_143) (fun _ h9 => h9) rfl dX5_hundredths_53 ?_
    refine lv_iconst (v := 1) hx hb dX5_hundredths_56 (by decide) ?_
    refine lv_aload_n hx hb dX5_hundredths_57 rfl (lv_at hl 1 rfl) ?_
    refine va_get (D := (dC, dI)) (ci := 5) (v := .ref (g 4)) (C := RX5) (T := TX5) (N := 6) hx hb hwd inA_X5 hown hK hP 10 rfl rfl 2 (by decide) (hwd _ wk_148) (fun _ h9 => h9) rfl dX5_hundredths_58 ?_
    refine va_get (D := (dC, dI)) (ci := 9) (v := .ref (g 33)) (C := RX9) (T := TX9) (N := 11) hx hb hwd inA_X9 hown hK hP 4 rfl rfl 5 (by decide) (hwd _ wk_385) (fun _ h9 => h9) rfl dX5_hundredths_61 ?_
    refine lv_iload_n hx hb dX5_hundredths_64 rfl (lv_at hl 3 rfl) ?_
    refine va_iald hx hb hK hP 33 21 rfl rfl (i := p1) (vin (a := p1.toInt) rfl (by omega)) dX5_hundredths_65 ?_
    refine lv_topi (fun z1473 e1474 => ?_)
    refine lv_aload_n hx hb dX5_hundredths_66 rfl (lv_at hl 1 rfl) ?_
    refine va_get (D := (dC, dI)) (ci := 5) (v := .ref (g 4)) (C := RX5) (T := TX5) (N := 6) hx hb hwd inA_X5 hown hK hP 10 rfl rfl 2 (by decide) (hwd _ wk_148) (fun _ h9 => h9) rfl dX5_hundredths_67 ?_
    refine va_get (D := (dC, dI)) (ci := 9) (v := .ref (g 32)) (C := RX9) (T := TX9) (N := 11) hx hb hwd inA_X9 hown hK hP 4 rfl rfl 4 (by decide) (hwd _ wk_386) (fun _ h9 => h9) rfl dX5_hundredths_70 ?_
    refine lv_iload_n hx hb dX5_hundredths_73 rfl (lv_at hl 3 rfl) ?_
    refine va_iald hx hb hK hP 32 20 rfl rfl (i := p1) (vin (a := p1.toInt) rfl (by omega)) dX5_hundredths_74 ?_
    refine lv_topi (fun z1475 e1476 => ?_)
    refine lv_isub hx hb dX5_hundredths_75 ?_
    refine lv_topi (fun z1477 e1478 => ?_)
    try (have t1479 := tsub e1478 (a := z1473.toInt) rfl (b := z1475.toInt) rfl (by omega))
    refine va_iast hx hb hK hP (DX hg) hS 73 61 rfl rfl (i := 1) (x := z1477) (vin (a := 1) (by decide) (by omega)) dX5_hundredths_76 (fun H locs hP _ hS => ?_)
    have hP := va_P_eq (sX_73 g c _ _ _ _) hP
    have hI := IX.store0 hI 73 (1 : Int32).toNatClampNeg z1477 rfl
    have hal := (alX_F _ _ 73 (upd (F1472 73) (1 : Int32).toNatClampNeg z1477) (by decide) (by decide)).trans hal
    have hP : va_P (dC, dI) classes (wX g c v (va_up F1472 73 (upd (F1472 73) (1 : Int32).toNatClampNeg z1477)) rc) H := hP
    generalize (va_up F1472 73 (upd (F1472 73) (1 : Int32).toNatClampNeg z1477)) = F1480 at hP hI hal
    refine lv_aload_n hx hb dX5_hundredths_77 rfl (lv_at hl 1 rfl) ?_
    refine va_get (D := (dC, dI)) (ci := 5) (v := .ref (g 73)) (C := RX5) (T := TX5) (N := 6) hx hb hwd inA_X5 hown hK hP 10 rfl rfl 4 (by decide) (hwd _ wk_143) (fun _ h9 => h9) rfl dX5_hundredths_78 ?_
    refine lv_iconst (v := 2) hx hb dX5_hundredths_81 (by decide) ?_
    refine lv_aload_n hx hb dX5_hundredths_82 rfl (lv_at hl 1 rfl) ?_
    refine va_get (D := (dC, dI)) (ci := 5) (v := .ref (g 4)) (C := RX5) (T := TX5) (N := 6) hx hb hwd inA_X5 hown hK hP 10 rfl rfl 2 (by decide) (hwd _ wk_148) (fun _ h9 => h9) rfl dX5_hundredths_83 ?_
    refine va_get (D := (dC, dI)) (ci := 9) (v := .ref (g 35)) (C := RX9) (T := TX9) (N := 11) hx hb hwd inA_X9 hown hK hP 4 rfl rfl 7 (by decide) (hwd _ wk_387) (fun _ h9 => h9) rfl dX5_hundredths_86 ?_
    refine lv_iload_n hx hb dX5_hundredths_89 rfl (lv_at hl 3 rfl) ?_
    refine va_iald hx hb hK hP 35 23 rfl rfl (i := p1) (vin (a := p1.toInt) rfl (by omega)) dX5_hundredths_90 ?_
    refine lv_topi (fun z1481 e1482 => ?_)
    refine lv_aload_n hx hb dX5_hundredths_91 rfl (lv_at hl 1 rfl) ?_
    refine va_get (D := (dC, dI)) (ci := 5) (v := .ref (g 4)) (C := RX5) (T := TX5) (N := 6) hx hb hwd inA_X5 hown hK hP 10 rfl rfl 2 (by decide) (hwd _ wk_148) (fun _ h9 => h9) rfl dX5_hundredths_92 ?_
    refine va_get (D := (dC, dI)) (ci := 9) (v := .ref (g 34)) (C := RX9) (T := TX9) (N := 11) hx hb hwd inA_X9 hown hK hP 4 rfl rfl 6 (by decide) (hwd _ wk_388) (fun _ h9 => h9) rfl dX5_hundredths_95 ?_
    refine lv_iload_n hx hb dX5_hundredths_98 rfl (lv_at hl 3 rfl) ?_
    refine va_iald hx hb hK hP 34 22 rfl rfl (i := p1) (vin (a := p1.toInt) rfl (by omega)) dX5_hundredths_99 ?_
    refine lv_topi (fun z1483 e1484 => ?_)
    refine lv_isub hx hb dX5_hundredths_100 ?_
    refine lv_topi (fun z1485 e1486 => ?_)
    try (have t1487 := tsub e1486 (a := z1481.toInt) rfl (b := z1483.toInt) rfl (by omega))
    refine va_iast hx hb hK hP (DX hg) hS 73 61 rfl rfl (i := 2) (x := z1485) (vin (a := 2) (by decide) (by omega)) dX5_hundredths_101 (fun H locs hP _ hS => ?_)
    have hP := va_P_eq (sX_73 g c _ _ _ _) hP
    have hI := IX.store0 hI 73 (2 : Int32).toNatClampNeg z1485 rfl
    have hal := (alX_F _ _ 73 (upd (F1480 73) (2 : Int32).toNatClampNeg z1485) (by decide) (by decide)).trans hal
    have hP : va_P (dC, dI) classes (wX g c v (va_up F1480 73 (upd (F1480 73) (2 : Int32).toNatClampNeg z1485)) rc) H := hP
    generalize (va_up F1480 73 (upd (F1480 73) (2 : Int32).toNatClampNeg z1485)) = F1488 at hP hI hal
    refine lv_aload_n hx hb dX5_hundredths_102 rfl (lv_at hl 1 rfl) ?_
    refine va_get (D := (dC, dI)) (ci := 5) (v := .ref (g 73)) (C := RX5) (T := TX5) (N := 6) hx hb hwd inA_X5 hown hK hP 10 rfl rfl 4 (by decide) (hwd _ wk_143) (fun _ h9 => h9) rfl dX5_hundredths_103 ?_
    refine lv_iconst (v := 3) hx hb dX5_hundredths_106 (by decide) ?_
    refine lv_aload_n hx hb dX5_hundredths_107 rfl (lv_at hl 1 rfl) ?_
    refine va_get (D := (dC, dI)) (ci := 5) (v := .ref (g 4)) (C := RX5) (T := TX5) (N := 6) hx hb hwd inA_X5 hown hK hP 10 rfl rfl 2 (by decide) (hwd _ wk_148) (fun _ h9 => h9) rfl dX5_hundredths_108 ?_
    refine va_get (D := (dC, dI)) (ci := 9) (v := .ref (g 29)) (C := RX9) (T := TX9) (N := 11) hx hb hwd inA_X9 hown hK hP 4 rfl rfl 1 (by decide) (hwd _ wk_389) (fun _ h9 => h9) rfl dX5_hundredths_111 ?_
    refine lv_iload_n hx hb dX5_hundredths_114 rfl (lv_at hl 3 rfl) ?_
    refine va_iald hx hb hK hP 29 17 rfl rfl (i := p1) (vin (a := p1.toInt) rfl (by omega)) dX5_hundredths_115 ?_
    refine lv_topi (fun z1489 e1490 => ?_)
    refine va_iast hx hb hK hP (DX hg) hS 73 61 rfl rfl (i := 3) (x := z1489) (vin (a := 3) (by decide) (by omega)) dX5_hundredths_116 (fun H locs hP _ hS => ?_)
    have hP := va_P_eq (sX_73 g c _ _ _ _) hP
    have hI := IX.store0 hI 73 (3 : Int32).toNatClampNeg z1489 rfl
    have hal := (alX_F _ _ 73 (upd (F1488 73) (3 : Int32).toNatClampNeg z1489) (by decide) (by decide)).trans hal
    have hP : va_P (dC, dI) classes (wX g c v (va_up F1488 73 (upd (F1488 73) (3 : Int32).toNatClampNeg z1489)) rc) H := hP
    generalize (va_up F1488 73 (upd (F1488 73) (3 : Int32).toNatClampNeg z1489)) = F1491 at hP hI hal
    refine lv_aload_n hx hb dX5_hundredths_117 rfl (lv_at hl 1 rfl) ?_
    refine va_get (D := (dC, dI)) (ci := 5) (v := .ref (g 73)) (C := RX5) (T := TX5) (N := 6) hx hb hwd inA_X5 hown hK hP 10 rfl rfl 4 (by decide) (hwd _ wk_143) (fun _ h9 => h9) rfl dX5_hundredths_118 ?_
    refine lv_iconst (v := 4) hx hb dX5_hundredths_121 (by decide) ?_
    refine lv_aload_n hx hb dX5_hundredths_122 rfl (lv_at hl 1 rfl) ?_
    refine va_get (D := (dC, dI)) (ci := 5) (v := .ref (g 3)) (C := RX5) (T := TX5) (N := 6) hx hb hwd inA_X5 hown hK hP 10 rfl rfl 1 (by decide) (hwd _ wk_146) (fun _ h9 => h9) rfl dX5_hundredths_123 ?_
    refine va_get (D := (dC, dI)) (ci := 7) (v := .ref (g 24)) (C := RX7) (T := TX7) (N := 7) hx hb hwd inA_X7 hown hK hP 3 rfl rfl 2 (by decide) (hwd _ wk_355) (fun _ h9 => h9) rfl dX5_hundredths_126 ?_
    refine lv_iload_n hx hb dX5_hundredths_129 rfl (lv_at hl 2 rfl) ?_
    refine va_iald hx hb hK hP 24 12 rfl rfl (i := p0) (vin (a := p0.toInt) rfl (by omega)) dX5_hundredths_130 ?_
    refine lv_topi (fun z1492 e1493 => ?_)
    have t1494 : 0 ≤ z1492.toInt ∧ z1492.toInt ≤ 9 := by rw [e1493]; exact hI.2 24 _ _ rfl _
    refine va_iast hx hb hK hP (DX hg) hS 73 61 rfl rfl (i := 4) (x := z1492) (vin (a := 4) (by decide) (by omega)) dX5_hundredths_131 (fun H locs hP _ hS => ?_)
    have hP := va_P_eq (sX_73 g c _ _ _ _) hP
    have hI := IX.store0 hI 73 (4 : Int32).toNatClampNeg z1492 rfl
    have hal := (alX_F _ _ 73 (upd (F1491 73) (4 : Int32).toNatClampNeg z1492) (by decide) (by decide)).trans hal
    have hP : va_P (dC, dI) classes (wX g c v (va_up F1491 73 (upd (F1491 73) (4 : Int32).toNatClampNeg z1492)) rc) H := hP
    generalize (va_up F1491 73 (upd (F1491 73) (4 : Int32).toNatClampNeg z1492)) = F1495 at hP hI hal
    refine lv_aload_n hx hb dX5_hundredths_132 rfl (lv_at hl 1 rfl) ?_
    refine va_get (D := (dC, dI)) (ci := 5) (v := .ref (g 73)) (C := RX5) (T := TX5) (N := 6) hx hb hwd inA_X5 hown hK hP 10 rfl rfl 4 (by decide) (hwd _ wk_143) (fun _ h9 => h9) rfl dX5_hundredths_133 ?_
    refine lv_iconst (v := 5) hx hb dX5_hundredths_136 (by decide) ?_
    refine lv_aload_n hx hb dX5_hundredths_137 rfl (lv_at hl 1 rfl) ?_
    refine va_get (D := (dC, dI)) (ci := 5) (v := .ref (g 4)) (C := RX5) (T := TX5) (N := 6) hx hb hwd inA_X5 hown hK hP 10 rfl rfl 2 (by decide) (hwd _ wk_148) (fun _ h9 => h9) rfl dX5_hundredths_138 ?_
    refine lv_iload_n hx hb dX5_hundredths_141 rfl (lv_at hl 2 rfl) ?_
    refine lv_iload_n hx hb dX5_hundredths_142 rfl (lv_at hl 3 rfl) ?_
    refine va_calli (va_runV (As := [.int p0, .int p1]) (rest := [.int 5, .ref (g 73)]) ⟨hx, hb, hml, hown, hwd⟩ (c_X9_gapsAhead l dC dI g c adK adV v F1495 rc H.size p0 p1 hg hI (by omega) (by omega)) (cwV 2 hwd (gV wk_405 wk_402 wk_403 wk_404 wk_22) rfl rfl rfl (by decide +kernel) ⟨Nat.le_of_ble_eq_true rfl, Nat.le_of_ble_eq_true rfl⟩) ⟨PX.blind, va_recv hK hP (ci := 9) (q0 := 4) rfl rfl, fun U hU hW => ⟨rfl, PX.at hK hE hP hS hU hW⟩⟩ rfl rfl hl.1 rfl (lv_room (Nat.le_of_ble_eq_true rfl)) dX5_hundredths_143 ⟨Nat.le_of_ble_eq_true rfl, Nat.le_of_ble_eq_true rfl⟩) hS (fun q _ h => (freeX hS) q h) (freeX hS) (fun r1496 u t H1 locs ht hvm hw hB hz1 hk1 hS => ?_)
    unfold BX at hB
    rw [ht] at hB
    have hP : va_P (dC, dI) classes (wX g c v F1495 rc) H1 := hB
    generalize H1 = H at hP hS ⊢
    have rr_r1496 := i32_rng r1496
    refine va_iast hx hb hK hP (DX hg) hS 73 61 rfl rfl (i := 5) (x := r1496) (vin (a := 5) (by decide) (by omega)) dX5_hundredths_146 (fun H locs hP _ hS => ?_)
    have hP := va_P_eq (sX_73 g c _ _ _ _) hP
    have hI := IX.store0 hI 73 (5 : Int32).toNatClampNeg r1496 rfl
    have hal := (alX_F _ _ 73 (upd (F1495 73) (5 : Int32).toNatClampNeg r1496) (by decide) (by decide)).trans hal
    have hP : va_P (dC, dI) classes (wX g c v (va_up F1495 73 (upd (F1495 73) (5 : Int32).toNatClampNeg r1496)) rc) H := hP
    generalize (va_up F1495 73 (upd (F1495 73) (5 : Int32).toNatClampNeg r1496)) = F1497 at hP hI hal
    refine lv_iconst (v := 0) hx hb dX5_hundredths_147 (by decide) ?_
    refine lv_bipush (v := 100) hx hb dX5_hundredths_148 (by decide) ?_
    refine lv_aload_n hx hb dX5_hundredths_150 rfl (lv_at hl 1 rfl) ?_
    refine va_get (D := (dC, dI)) (ci := 5) (v := .ref (g 6)) (C := RX5) (T := TX5) (N := 6) hx hb hwd inA_X5 hown hK hP 10 rfl rfl 3 (by decide) (hwd _ wk_149) (fun _ h9 => h9) rfl dX5_hundredths_151 ?_
    refine lv_iload hx hb dX5_hundredths_154 (lv_at hl 0 rfl) ?_
    refine lv_aload_n hx hb dX5_hundredths_156 rfl (lv_at hl 1 rfl) ?_
    refine va_get (D := (dC, dI)) (ci := 5) (v := .ref (g 73)) (C := RX5) (T := TX5) (N := 6) hx hb hwd inA_X5 hown hK hP 10 rfl rfl 4 (by decide) (hwd _ wk_143) (fun _ h9 => h9) rfl dX5_hundredths_157 ?_
    refine va_calli (va_runV (As := [.int r1462, .ref (g 73)]) (rest := [.int 100, .int 0]) ⟨hx, hb, hml, hown, hwd⟩ (c_X4_workOut l dC dI g c adK adV v F1497 rc H.size r1462 hg hI (by omega)) (cwV 2 hwd (gV wk_410 wk_407 wk_408 wk_409 wk_34) rfl rfl rfl (by decide +kernel) ⟨Nat.le_of_ble_eq_true rfl, Nat.le_of_ble_eq_true rfl⟩) ⟨PX.blind, va_recv hK hP (ci := 4) (q0 := 6) rfl rfl, fun U hU hW => ⟨rfl, PX.at hK hE hP hS hU hW⟩⟩ rfl rfl hl.1 rfl (lv_room (Nat.le_of_ble_eq_true rfl)) dX5_hundredths_160 ⟨Nat.le_of_ble_eq_true rfl, Nat.le_of_ble_eq_true rfl⟩) hS (fun q _ h => (freeX hS) q h) (freeX hS) (fun r1498 u t H1 locs ht hvm hw hB hz1 hk1 hS => ?_)
    unfold BX at hB
    rw [ht] at hB
    obtain ⟨v1499, F1500, rc9⟩ := u
    obtain ⟨hI, hal9, hrc, hf1501, hw⟩ := hw
    dsimp only at hI hal9 hrc hB hf1501 hw
    rw [hrc] at hB
    have hal := hal9.trans hal
    have hP : va_P (dC, dI) classes (wX g c v1499 F1500 rc) H1 := hB
    generalize H1 = H at hP hS ⊢
    have rr_r1498 := i32_rng r1498
    refine va_mmin hx hb (by rw [hml]; exact hl.1.symm) hown (hwd _ wk_390) (hwd _ wk_391) (hwd _ wk_392) (hwd _ wk_393) (Nat.le_of_ble_eq_true rfl) (Nat.le_of_ble_eq_true rfl) (Nat.le_of_ble_eq_true rfl) (Nat.le_of_ble_eq_true rfl) dX5_hundredths_163 ?_
    refine lv_topi (fun z1502 e1503 => ?_)
    have t1504 := tmin e1503 (a := 100) (by decide) (b := r1498.toInt) rfl
    refine va_mmax hx hb (by rw [hml]; exact hl.1.symm) hown (hwd _ wk_394) (hwd _ wk_395) (hwd _ wk_392) (hwd _ wk_396) (Nat.le_of_ble_eq_true rfl) (Nat.le_of_ble_eq_true rfl) (Nat.le_of_ble_eq_true rfl) (Nat.le_of_ble_eq_true rfl) dX5_hundredths_166 ?_
    refine lv_topi (fun z1505 e1506 => ?_)
    have t1507 := tmax e1506 (a := 0) (by decide) (b := z1502.toInt) rfl
    have hP9 : va_P (dC, dI) classes (wX g c v1499 F1500 rc) H := hP
    exact W.iret (v := z1505) hx hb hr (fun t ht hW => ⟨⟨z1505, (v1499, F1500, rc), rfl, ⟨hI, hal, rfl, (frC (by decide) hf1501 (fun _ _ => rfl)), trivial⟩, (by show va_P _ _ _ t.heap; rw [ht]; exact hP9)⟩, hS.F ht⟩) hS.2.2 dX5_hundredths_169
  · skip
    have t1508 := cv_eq (a := r1462.toInt) rfl (b := (-1)) (by decide) c1463
    refine lv_iconst (v := 0) hx hb dX5_hundredths_25 (by decide) ?_
    have hP9 : va_P (dC, dI) classes (wX g c v F rc) H := hP
    exact W.iret (v := 0) hx hb hr (fun t ht hW => ⟨⟨0, (v, F, rc), rfl, ⟨hI, hal, rfl, (fun _ _ => rfl), trivial⟩, (by show va_P _ _ _ t.heap; rw [ht]; exact hP9)⟩, hS.F ht⟩) hS.2.2 dX5_hundredths_26
