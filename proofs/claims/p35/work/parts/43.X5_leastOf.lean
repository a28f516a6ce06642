set_option maxHeartbeats 8000000 in
set_option maxRecDepth 100000 in
theorem c_X5_leastOf (l : Launch) (dC : Nat → ClassId) (dI : Nat → Nat → Nat) (g : Nat → Nat) (c : Nat → ClassId) (adK adV : Nat → Nat) (v : Nat → Int32) (F : Nat → Nat → Int32) (rc sz : Nat) (p0 : Int32) (p1 : Int32) (hg : injX g) (hI : IX v F) (h0 : 0 ≤ p0.toInt ∧ p0.toInt ≤ 99) : Met l yX5_leastOf (Cond.code yX5_leastOf cX5_leastOf 10 (some .int) :: wA) ({ frames := 6, cells := 0, slots := 0, locals := 240 }) (va_Pc [.ref (g 10), .int p0, .int p1] (PX dC dI g c adK adV v F rc sz)) (va_Qi (fun (r : Int32) (u : StX) => IX u.1 u.2.1 ∧ alX u.1 u.2.1 = alX v F ∧ u.2.2 = rc ∧ (∀ k, k ∉ ([126] : List Nat) → u.1 k = v k) ∧ -1 ≤ r.toInt ∧ r.toInt ≤ 2) (BX dC dI g c) (AX g sz)) 0 0 (AX g sz) := by
  refine Met.ofW (cc := cX5_leastOf) (maxL := 10) (ret := (some .int)) (by decide) rfl ?_
  intro p e s m args below meth c0 s₁ B hml hv
  obtain ⟨rfl, hsz, hP, hK, hE⟩ := hv
  have hx := B.exec
  have hb := B.bytes
  have hr := B.returns
  have hts := atoms_spec (ws := Cond.code yX5_leastOf cX5_leastOf 10 (some .int) :: wA) B.pre
  have hwd : ∀ w ∈ wA, w.before _ s = true := fun w h => hts w (List.mem_cons_of_mem _ h)
  have hown : s.vm.findClass RX5 = some m.cls := findClass_of_methodNamed B.named
  have hlocks := B.notSynchronized
  subst hsz
  have hl := lv_entry ([.ref (g 10), .int p0, .int p1]) (n := 10) (Nat.le_of_ble_eq_true rfl)
  rw [lg_entry_eq]
  generalize (lg_sl ([.ref (g 10), .int p0, .int p1]) ++ List.replicate (10 - (lg_sl ([.ref (g 10), .int p0, .int p1])).length) Slot.unset).toArray = ls at hl ⊢
  have hl : lv_has ls 10 [(0, .ref (g 10)), (1, .int p0), (2, .int p1)] := hl
  obtain ⟨H, eH⟩ : ∃ z, z = s.heap := ⟨_, rfl⟩
  have hP : va_P (dC, dI) classes (wX g c v F rc) H := by rw [eH]; exact hP
  have hS : va_S (AX g s.heap.size) s.heap H [] := by rw [eH]; exact va_S.rf
  refine my_heap eH ?_
  have hal : alX v F = alX v F := rfl
  have rp0 := i32_rng p0
  have rp1 := i32_rng p1
  refine lv_aload_n hx hb dX5_leastOf_0 rfl (lv_at hl 0 rfl) ?_
  refine lv_iload_n hx hb dX5_leastOf_1 rfl (lv_at hl 1 rfl) ?_
  refine lv_iload_n hx hb dX5_leastOf_2 rfl (lv_at hl 2 rfl) ?_
  refine va_callv (va_runV (As := [.int p0, .int p1]) (rest := []) ⟨hx, hb, hml, hown, hwd⟩ (c_X5_reckon l dC dI g c adK adV v F rc H.size p0 p1 hg hI (by omega)) (cwV 2 hwd (gV wk_359 wk_356 wk_357 wk_358 wk_50) rfl rfl rfl (by decide +kernel) ⟨Nat.le_of_ble_eq_true rfl, Nat.le_of_ble_eq_true rfl⟩) ⟨PX.blind, va_recv hK hP (ci := 5) (q0 := 10) rfl rfl, fun U hU hW => ⟨rfl, PX.at hK hE hP hS hU hW⟩⟩ rfl rfl hl.1 rfl (lv_room (Nat.le_of_ble_eq_true rfl)) dX5_leastOf_3 ⟨Nat.le_of_ble_eq_true rfl, Nat.le_of_ble_eq_true rfl⟩) hS (fun q _ h => (freeX hS) q h) (freeX hS) (fun u t H1 locs ht hvm hw hB hz1 hk1 hS => ?_)
  unfold BX at hB
  rw [ht] at hB
  obtain ⟨v1585, F1586, rc9⟩ := u
  obtain ⟨hI, hal9, hrc, hf1587, hw⟩ := hw
  dsimp only at hI hal9 hrc hB hf1587 hw
  rw [hrc] at hB
  have hal := hal9.trans hal
  have hP : va_P (dC, dI) classes (wX g c v1585 F1586 rc) H1 := hB
  generalize H1 = H at hP hS ⊢
  refine lv_iconst (v := (-1)) hx hb dX5_leastOf_6 (by decide) ?_
  refine lv_istore_n (lv' := [(3, .int (-1)), (0, .ref (g 10)), (1, .int p0), (2, .int p1)]) hx hb dX5_leastOf_7 rfl hl (by decide) rfl (fun ls hl => ?_)
  refine lv_lconst (v := 0) hx hb dX5_leastOf_8 (by decide) ?_
  refine lv_lstore (lv' := [(4, .long 0), (3, .int (-1)), (0, .ref (g 10)), (1, .int p0), (2, .int p1)]) hx hb dX5_leastOf_9 hl (by decide) rfl (fun ls hl => ?_)
  refine lv_iconst (v := 0) hx hb dX5_leastOf_11 (by decide) ?_
  refine lv_istore (lv' := [(6, .int 0), (4, .long 0), (3, .int (-1)), (0, .ref (g 10)), (1, .int p0), (2, .int p1)]) hx hb dX5_leastOf_12 hl (by decide) rfl (fun ls hl => ?_)
  have lp1588 : ∀ (n : Nat) (x6_lp1588 : Int32) (x4_lp1588 : Int64) (x3_lp1588 : Int32) (v_lp1588 : Nat → Int32) (F_lp1588 : Nat → Nat → Int32) (H : Heap) (locs : List Loc) (ls : Array Slot), (0 ≤ x6_lp1588.toInt) → (-1 ≤ x3_lp1588.toInt) → (x3_lp1588.toInt ≤ 2) → (2147483648 - x6_lp1588.toInt ≤ (n : Int)) → (∀ k, k ∉ ([] : List Nat) → v_lp1588 k = v1585 k) → IX v_lp1588 F_lp1588 → alX v_lp1588 F_lp1588 = alX v F → va_P (dC, dI) classes (wX g c v_lp1588 F_lp1588 rc) H → va_S (AX g s.heap.size) s.heap H locs → lv_has ls 10 [(6, .int x6_lp1588), (4, .long x4_lp1588), (3, .int x3_lp1588), (0, .ref (g 10)), (1, .int p0), (2, .int p1)] → W p l e (headSpec (Cond.code yX5_leastOf cX5_leastOf 10 (some .int) :: wA) ({ frames := 6, cells := 0, slots := 0, locals := 240 })).room s m ([.ref (g 10), .int p0, .int p1] : List Value).toArray below meth c0 H locs 0 0 (MQ below (va_Qi (fun (r : Int32) (u : StX) => IX u.1 u.2.1 ∧ alX u.1 u.2.1 = alX v F ∧ u.2.2 = rc ∧ (∀ k, k ∉ ([126] : List Nat) → u.1 k = v k) ∧ -1 ≤ r.toInt ∧ r.toInt ≤ 2) (BX dC dI g c) (AX g s.heap.size)) ([.ref (g 10), .int p0, .int p1] : List Value).toArray s 0 0 (AX g s.heap.size)) (F0 m 14 ls []) := by
    intro n
    induction n with
    | zero =>
      intro x6_lp1588 x4_lp1588 x3_lp1588 v_lp1588 F_lp1588 H locs ls t1589 t1590 t1591 hm hf_lp1588 hI hal hP hS hl
      exfalso
      have := i32_rng x6_lp1588
      have := i32_rng x3_lp1588
      have hI1 := hI.1
      omega
    | succ n ih_lp1588 =>
      intro x6_lp1588 x4_lp1588 x3_lp1588 v_lp1588 F_lp1588 H locs ls t1589 t1590 t1591 hm hf_lp1588 hI hal hP hS hl
      have rx6_lp1588 := i32_rng x6_lp1588
      have rx3_lp1588 := i32_rng x3_lp1588
      refine lv_iload hx hb dX5_leastOf_14 (lv_at hl 0 rfl) ?_
      refine lv_iconst (v := 3) hx hb dX5_leastOf_16 (by decide) ?_
      refine lv_icmp_ge (tgt := 89) hx hb dX5_leastOf_17 (by decide) (fun c1592 => ?_) (fun c1592 => ?_)
      · skip
        have t1593 := cv_le (a := 3) (by decide) (b := x6_lp1588.toInt) rfl c1592
        refine lv_iload_n hx hb dX5_leastOf_89 rfl (lv_at hl 2 rfl) ?_
        have hP9 : va_P (dC, dI) classes (wX g c v_lp1588 F_lp1588 rc) H := hP
        exact W.iret (v := x3_lp1588) hx hb hr (fun t ht hW => ⟨⟨x3_lp1588, (v_lp1588, F_lp1588, rc), rfl, ⟨hI, hal, rfl, (frC (by decide) hf_lp1588 (frC (by decide) hf1587 (fun _ _ => rfl))), by omega⟩, (by show va_P _ _ _ t.heap; rw [ht]; exact hP9)⟩, hS.F ht⟩) hS.2.2 dX5_leastOf_90
      · skip
        have t1594 := cv_nle (a := 3) (by decide) (b := x6_lp1588.toInt) rfl c1592
        refine lv_aload_n hx hb dX5_leastOf_20 rfl (lv_at hl 3 rfl) ?_
        refine va_get (D := (dC, dI)) (ci := 5) (v := .ref (g 1)) (C := RX5) (T := TX5) (N := 6) hx hb hwd inA_X5 hown hK hP 10 rfl rfl 0 (by decide) (hwd _ wk_145) (fun _ h9 => h9) rfl dX5_leastOf_21 ?_
        refine lv_aload_n hx hb dX5_leastOf_24 rfl (lv_at hl 3 rfl) ?_
        refine va_get (D := (dC, dI)) (ci := 5) (v := .ref (g 3)) (C := RX5) (T := TX5) (N := 6) hx hb hwd inA_X5 hown hK hP 10 rfl rfl 1 (by decide) (hwd _ wk_146) (fun _ h9 => h9) rfl dX5_leastOf_25 ?_
        refine va_get (D := (dC, dI)) (ci := 7) (v := .ref (g 24)) (C := RX7) (T := TX7) (N := 7) hx hb hwd inA_X7 hown hK hP 3 rfl rfl 2 (by decide) (hwd _ wk_355) (fun _ h9 => h9) rfl dX5_leastOf_28 ?_
        refine lv_iload_n hx hb dX5_leastOf_31 rfl (lv_at hl 4 rfl) ?_
        refine va_iald hx hb hK hP 24 12 rfl rfl (i := p0) (vin (a := p0.toInt) rfl (by omega)) dX5_leastOf_32 ?_
        refine lv_topi (fun z1595 e1596 => ?_)
        have t1597 : 0 ≤ z1595.toInt ∧ z1595.toInt ≤ 9 := by rw [e1596]; exact hI.2 24 _ _ rfl _
        refine lv_iload hx hb dX5_leastOf_33 (lv_at hl 0 rfl) ?_
        refine va_calli (va_runV (As := [.int z1595, .int x6_lp1588]) (rest := []) ⟨hx, hb, hml, hown, hwd⟩ (c_X2_limitOf l dC dI g c adK adV v_lp1588 F_lp1588 rc H.size z1595 x6_lp1588 hg hI (by omega) (by omega)) (cwV 2 hwd (gV wk_365 wk_362 wk_363 wk_364 wk_14) rfl rfl rfl (by decide +kernel) ⟨Nat.le_of_ble_eq_true rfl, Nat.le_of_ble_eq_true rfl⟩) ⟨PX.blind, va_recv hK hP (ci := 2) (q0 := 1) rfl rfl, fun U hU hW => ⟨rfl, PX.at hK hE hP hS hU hW⟩⟩ rfl rfl hl.1 rfl (lv_room (Nat.le_of_ble_eq_true rfl)) dX5_leastOf_35 ⟨Nat.le_of_ble_eq_true rfl, Nat.le_of_ble_eq_true rfl⟩) hS (fun q _ h => (freeX hS) q h) (freeX hS) (fun r1598 u t H1 locs ht hvm hw hB hz1 hk1 hS => ?_)
        unfold BX at hB
        rw [ht] at hB
        have hP : va_P (dC, dI) classes (wX g c v_lp1588 F_lp1588 rc) H1 := hB
        generalize H1 = H at hP hS ⊢
        have rr_r1598 := i32_rng r1598
        refine lv_istore (lv' := [(7, .int r1598), (6, .int x6_lp1588), (4, .long x4_lp1588), (3, .int x3_lp1588), (0, .ref (g 10)), (1, .int p0), (2, .int p1)]) hx hb dX5_leastOf_38 hl (by decide) rfl (fun ls hl => ?_)
        refine lv_iload hx hb dX5_leastOf_40 (lv_at hl 0 rfl) ?_
        refine lv_if_le (tgt := 83) hx hb dX5_leastOf_42 (by decide) (fun c1599 => ?_) (fun c1599 => ?_)
        · skip
          have t1600 := cv_le (a := r1598.toInt) rfl (b := 0) (by decide) c1599
          obtain ⟨z1601, e1602⟩ : ∃ y : Int32, y = x6_lp1588 + 1 := ⟨_, rfl⟩
          try (have t1603 := tadd e1602 rfl (b := 1) (by decide) (by omega))
          refine lv_iinc (v := z1601) (lv' := [(6, .int z1601), (7, .int r1598), (4, .long x4_lp1588), (3, .int x3_lp1588), (0, .ref (g 10)), (1, .int p0), (2, .int p1)]) hx hb dX5_leastOf_83 hl (k := 1) rfl (by rw [e1602]; rfl) (by decide) rfl (fun ls hl => ?_)
          refine lv_goto (tgt := 14) hx hb dX5_leastOf_86 (by decide) ?_
          exact ih_lp1588 z1601 x4_lp1588 x3_lp1588 v_lp1588 F_lp1588 _ _ _ (by omega) (by omega) (by omega) (by omega) hf_lp1588 hI hal hP hS (lv_sub hl [0, 2, 3, 4, 5, 6] rfl)
        · skip
          have t1604 := cv_nle (a := r1598.toInt) rfl (b := 0) (by decide) c1599
          refine lv_aload_n hx hb dX5_leastOf_45 rfl (lv_at hl 4 rfl) ?_
          refine va_get (D := (dC, dI)) (ci := 5) (v := .ref (g 74)) (C := RX5) (T := TX5) (N := 6) hx hb hwd inA_X5 hown hK hP 10 rfl rfl 5 (by decide) (hwd _ wk_144) (fun _ h9 => h9) rfl dX5_leastOf_46 ?_
          refine lv_iload hx hb dX5_leastOf_49 (lv_at hl 1 rfl) ?_
          refine va_iald hx hb hK hP 74 62 rfl rfl (i := x6_lp1588) (vin (a := x6_lp1588.toInt) rfl (by omega)) dX5_leastOf_51 ?_
          refine lv_topi (fun z1605 e1606 => ?_)
          refine lv_i2l hx hb dX5_leastOf_52 rfl ?_
          refine lv_topl (fun z1607 e1608 => ?_)
          refine lv_ldc2 (v := 10000) hx hb hown (hwd _ wk_776) dX5_leastOf_53 ?_
          refine lv_lmul hx hb dX5_leastOf_56 ?_
          refine lv_topl (fun z1609 e1610 => ?_)
          refine lv_iload hx hb dX5_leastOf_57 (lv_at hl 0 rfl) ?_
          refine lv_i2l hx hb dX5_leastOf_59 rfl ?_
          refine lv_topl (fun z1611 e1612 => ?_)
          refine lv_ldiv hx hb dX5_leastOf_60 (nz64 e1612 (a := r1598.toInt) rfl (by omega)) ?_
          refine lv_topl (fun z1613 e1614 => ?_)
          refine lv_lstore (lv' := [(8, .long z1613), (7, .int r1598), (6, .int x6_lp1588), (4, .long x4_lp1588), (3, .int x3_lp1588), (0, .ref (g 10)), (1, .int p0), (2, .int p1)]) hx hb dX5_leastOf_61 hl (by decide) rfl (fun ls hl => ?_)
          refine lv_iload_n hx hb dX5_leastOf_63 rfl (lv_at hl 4 rfl) ?_
          refine lv_iconst (v := (-1)) hx hb dX5_leastOf_64 (by decide) ?_
          refine lv_icmp_eq (tgt := 76) hx hb dX5_leastOf_65 (by decide) (fun c1615 => ?_) (fun c1615 => ?_)
          · skip
            have t1616 := cv_eq (a := x3_lp1588.toInt) rfl (b := (-1)) (by decide) c1615
            refine lv_iload hx hb dX5_leastOf_76 (lv_at hl 2 rfl) ?_
            refine lv_istore_n (lv' := [(3, .int x6_lp1588), (8, .long z1613), (7, .int r1598), (6, .int x6_lp1588), (4, .long x4_lp1588), (0, .ref (g 10)), (1, .int p0), (2, .int p1)]) hx hb dX5_leastOf_78 rfl hl (by decide) rfl (fun ls hl => ?_)
            refine lv_lload hx hb dX5_leastOf_79 (lv_at hl 1 rfl) ?_
            refine lv_lstore (lv' := [(4, .long z1613), (3, .int x6_lp1588), (8, .long z1613), (7, .int r1598), (6, .int x6_lp1588), (0, .ref (g 10)), (1, .int p0), (2, .int p1)]) hx hb dX5_leastOf_81 hl (by decide) rfl (fun ls hl => ?_)
            obtain ⟨z1617, e1618⟩ : ∃ y : Int32, y = x6_lp1588 + 1 := ⟨_, rfl⟩
            try (have t1619 := tadd e1618 rfl (b := 1) (by decide) (by omega))
            refine lv_iinc (v := z1617) (lv' := [(6, .int z1617), (4, .long z1613), (3, .int x6_lp1588), (8, .long z1613), (7, .int r1598), (0, .ref (g 10)), (1, .int p0), (2, .int p1)]) hx hb dX5_leastOf_83 hl (k := 4) rfl (by rw [e1618]; rfl) (by decide) rfl (fun ls hl => ?_)
            refine lv_goto (tgt := 14) hx hb dX5_leastOf_86 (by decide) ?_
            exact ih_lp1588 z1617 z1613 x6_lp1588 v_lp1588 F_lp1588 _ _ _ (by omega) (by omega) (by omega) (by omega) hf_lp1588 hI hal hP hS (lv_sub hl [0, 1, 2, 5, 6, 7] rfl)
          · skip
            have t1620 := cv_ne (a := x3_lp1588.toInt) rfl (b := (-1)) (by decide) c1615
            refine lv_lload hx hb dX5_leastOf_68 (lv_at hl 0 rfl) ?_
            refine lv_lload hx hb dX5_leastOf_70 (lv_at hl 3 rfl) ?_
            refine W.lcmp hx hb dX5_leastOf_72 ?_
            refine lv_topi (fun z1621 e1622 => ?_)
            refine lv_if_ge (tgt := 83) hx hb dX5_leastOf_73 (by decide) (fun c1623 => ?_) (fun c1623 => ?_)
            · skip
              have t1624 := cv_le (a := 0) (by decide) (b := z1621.toInt) rfl c1623
              obtain ⟨z1625, e1626⟩ : ∃ y : Int32, y = x6_lp1588 + 1 := ⟨_, rfl⟩
              try (have t1627 := tadd e1626 rfl (b := 1) (by decide) (by omega))
              refine lv_iinc (v := z1625) (lv' := [(6, .int z1625), (8, .long z1613), (7, .int r1598), (4, .long x4_lp1588), (3, .int x3_lp1588), (0, .ref (g 10)), (1, .int p0), (2, .int p1)]) hx hb dX5_leastOf_83 hl (k := 2) rfl (by rw [e1626]; rfl) (by decide) rfl (fun ls hl => ?_)
              refine lv_goto (tgt := 14) hx hb dX5_leastOf_86 (by decide) ?_
              exact ih_lp1588 z1625 x4_lp1588 x3_lp1588 v_lp1588 F_lp1588 _ _ _ (by omega) (by omega) (by omega) (by omega) hf_lp1588 hI hal hP hS (lv_sub hl [0, 3, 4, 5, 6, 7] rfl)
            · skip
              have t1628 := cv_nle (a := 0) (by decide) (b := z1621.toInt) rfl c1623
              refine lv_iload hx hb dX5_leastOf_76 (lv_at hl 2 rfl) ?_
              refine lv_istore_n (lv' := [(3, .int x6_lp1588), (8, .long z1613), (7, .int r1598), (6, .int x6_lp1588), (4, .long x4_lp1588), (0, .ref (g 10)), (1, .int p0), (2, .int p1)]) hx hb dX5_leastOf_78 rfl hl (by decide) rfl (fun ls hl => ?_)
              refine lv_lload hx hb dX5_leastOf_79 (lv_at hl 1 rfl) ?_
              refine lv_lstore (lv' := [(4, .long z1613), (3, .int x6_lp1588), (8, .long z1613), (7, .int r1598), (6, .int x6_lp1588), (0, .ref (g 10)), (1, .int p0), (2, .int p1)]) hx hb dX5_leastOf_81 hl (by decide) rfl (fun ls hl => ?_)
              obtain ⟨z1629, e1630⟩ : ∃ y : Int32, y = x6_lp1588 + 1 := ⟨_, rfl⟩
              try (have t1631 := tadd e1630 rfl (b := 1) (by decide) (by omega))
              refine lv_iinc (v := z1629) (lv' := [(6, .int z1629), (4, .long z1613), (3, .int x6_lp1588), (8, .long z1613), (7, .int r1598), (0, .ref (g 10)), (1, .int p0), (2, .int p1)]) hx hb dX5_leastOf_83 hl (k := 4) rfl (by rw [e1630]; rfl) (by decide) rfl (fun ls hl => ?_)
              refine lv_goto (tgt := 14) hx hb dX5_leastOf_86 (by decide) ?_
              exact ih_lp1588 z1629 z1613 x6_lp1588 v_lp1588 F_lp1588 _ _ _ (by omega) (by omega) (by omega) (by omega) hf_lp1588 hI hal hP hS (lv_sub hl [0, 1, 2, 5, 6, 7] rfl)
  obtain ⟨n9, hn9⟩ : ∃ n : Nat, 2147483648 - 0 ≤ (n : Int) := ⟨((2147483648 - 0 : Int)).toNat, by omega⟩
  exact lp1588 n9 0 0 (-1) v1585 F1586 H _ ls (by have : (0 : Int32).toInt = 0 := (by decide); have : ((-1) : Int32).toInt = (-1) := (by decide); omega) (by have : (0 : Int32).toInt = 0 := (by decide); have : ((-1) : Int32).toInt = (-1) := (by decide); omega) (by have : (0 : Int32).toInt = 0 := (by decide); have : ((-1) : Int32).toInt = (-1) := (by decide); omega) (by have : (0 : Int32).toInt = 0 := (by decide); have : ((-1) : Int32).toInt = (-1) := (by decide); omega) (fun _ _ => rfl) hI hal hP hS hl
