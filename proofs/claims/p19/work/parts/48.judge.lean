set_option maxHeartbeats 8000000 in
set_option maxRecDepth 100000 in
theorem c_X1_groundOf (l : Launch) (dC : Nat → ClassId) (dI : Nat → Nat → Nat) (g : Nat → Nat) (c : Nat → ClassId) (adK adV : Nat → Nat) (v : Nat → Int32) (F : Nat → Nat → Int32) (rc sz : Nat) (p0 : Int32) (p1 : Int32) (p2 : Int32) (hg : injX g) (hI : IX v F) (h0 : 0 ≤ p0.toInt ∧ p0.toInt ≤ 9) : Met l yX1_groundOf (Cond.code yX1_groundOf cX1_groundOf 5 (some .int) :: wA) ({ frames := 7, cells := 0, slots := 0, locals := 280 }) (va_Pc [.ref (g 11), .int p0, .int p1, .int p2] (PX dC dI g c adK adV v F rc sz)) (va_Qi (fun (r : Int32) (u : StX) => IX u.1 u.2.1 ∧ alX u.1 u.2.1 = alX v F ∧ u.2.2 = rc ∧ (∀ k, k ∉ ([126] : List Nat) → u.1 k = v k) ∧ True) (BX dC dI g c) (AX g sz)) 0 0 (AX g sz) := by
  refine Met.ofW (cc := cX1_groundOf) (maxL := 5) (ret := (some .int)) (by decide) rfl ?_
  intro p e s m args below meth c0 s₁ B hml hv
  obtain ⟨rfl, hsz, hP, hK, hE⟩ := hv
  have hx := B.exec
  have hb := B.bytes
  have hr := B.returns
  have hts := atoms_spec (ws := Cond.code yX1_groundOf cX1_groundOf 5 (some .int) :: wA) B.pre
  have hwd : ∀ w ∈ wA, w.before _ s = true := fun w h => hts w (List.mem_cons_of_mem _ h)
  have hown : s.vm.findClass RX1 = some m.cls := findClass_of_methodNamed B.named
  have hlocks := B.notSynchronized
  subst hsz
  have hl := lv_entry ([.ref (g 11), .int p0, .int p1, .int p2]) (n := 5) (Nat.le_of_ble_eq_true rfl)
  rw [lg_entry_eq]
  generalize (lg_sl ([.ref (g 11), .int p0, .int p1, .int p2]) ++ List.replicate (5 - (lg_sl ([.ref (g 11), .int p0, .int p1, .int p2])).length) Slot.unset).toArray = ls at hl ⊢
  have hl : lv_has ls 5 [(0, .ref (g 11)), (1, .int p0), (2, .int p1), (3, .int p2)] := hl
  obtain ⟨H, eH⟩ : ∃ z, z = s.heap := ⟨_, rfl⟩
  have hP : va_P (dC, dI) classes (wX g c v F rc) H := by rw [eH]; exact hP
  have hS : va_S (AX g s.heap.size) s.heap H [] := by rw [eH]; exact va_S.rf
  refine my_heap eH ?_
  have hal : alX v F = alX v F := rfl
  have rp0 := i32_rng p0
  have rp1 := i32_rng p1
  have rp2 := i32_rng p2
  refine lv_aload_n hx hb dX1_groundOf_0 rfl (lv_at hl 0 rfl) ?_
  refine va_get (D := (dC, dI)) (ci := 1) (v := .ref (g 3)) (C := RX1) (T := TX1) (N := 13) hx hb hwd inA_X1 hown hK hP 11 rfl rfl 3 (by decide) (hwd _ wk_175) (fun _ h9 => h9) rfl dX1_groundOf_1 ?_
  refine lv_iload_n hx hb dX1_groundOf_4 rfl (lv_at hl 1 rfl) ?_
  refine va_calli (va_runV (As := [.int p0]) (rest := []) ⟨hx, hb, hml, hown, hwd⟩ (c_X7_countAt l dC dI g c adK adV v F rc H.size p0 hg hI ) (cwV 1 hwd (gV wk_346 wk_343 wk_344 wk_345 wk_26) rfl rfl rfl (by decide +kernel) ⟨Nat.le_of_ble_eq_true rfl, Nat.le_of_ble_eq_true rfl⟩) ⟨PX.blind, va_recv hK hP (ci := 7) (q0 := 3) rfl rfl, fun U hU hW => ⟨rfl, PX.at hK hE hP hS hU hW⟩⟩ rfl rfl hl.1 rfl (lv_room (Nat.le_of_ble_eq_true rfl)) dX1_groundOf_5 ⟨Nat.le_of_ble_eq_true rfl, Nat.le_of_ble_eq_true rfl⟩) hS (fun q _ h => (freeX hS) q h) (freeX hS) (fun r1551 u t H1 locs ht hvm hw hB hz1 hk1 hS => ?_)
  unfold BX at hB
  rw [ht] at hB
  have hP : va_P (dC, dI) classes (wX g c v F rc) H1 := hB
  generalize H1 = H at hP hS ⊢
  have rr_r1551 := i32_rng r1551
  refine lv_aload_n hx hb dX1_groundOf_8 rfl (lv_at hl 0 rfl) ?_
  refine va_get (D := (dC, dI)) (ci := 1) (v := .ref (g 2)) (C := RX1) (T := TX1) (N := 13) hx hb hwd inA_X1 hown hK hP 11 rfl rfl 0 (by decide) (hwd _ wk_170) (fun _ h9 => h9) rfl dX1_groundOf_9 ?_
  refine lv_iload_n hx hb dX1_groundOf_12 rfl (lv_at hl 1 rfl) ?_
  refine va_calli (va_runV (As := [.int p0]) (rest := [.int r1551]) ⟨hx, hb, hml, hown, hwd⟩ (c_X8_needOfAll l dC dI g c adK adV v F rc H.size p0 hg hI (by omega)) (cwV 1 hwd (gV wk_350 wk_347 wk_348 wk_349 wk_18) rfl rfl rfl (by decide +kernel) ⟨Nat.le_of_ble_eq_true rfl, Nat.le_of_ble_eq_true rfl⟩) ⟨PX.blind, va_recv hK hP (ci := 8) (q0 := 2) rfl rfl, fun U hU hW => ⟨rfl, PX.at hK hE hP hS hU hW⟩⟩ rfl rfl hl.1 rfl (lv_room (Nat.le_of_ble_eq_true rfl)) dX1_groundOf_13 ⟨Nat.le_of_ble_eq_true rfl, Nat.le_of_ble_eq_true rfl⟩) hS (fun q _ h => (freeX hS) q h) (freeX hS) (fun r1552 u t H1 locs ht hvm hw hB hz1 hk1 hS => ?_)
  unfold BX at hB
  rw [ht] at hB
  have hP : va_P (dC, dI) classes (wX g c v F rc) H1 := hB
  generalize H1 = H at hP hS ⊢
  have rr_r1552 := i32_rng r1552
  refine lv_icmp_ge (tgt := 21) hx hb dX1_groundOf_16 (by decide) (fun c1553 => ?_) (fun c1553 => ?_)
  · skip
    have t1554 := cv_le (a := r1552.toInt) rfl (b := r1551.toInt) rfl c1553
    refine lv_iconst (v := 0) hx hb dX1_groundOf_21 (by decide) ?_
    refine lv_istore (lv' := [(4, .int 0), (0, .ref (g 11)), (1, .int p0), (2, .int p1), (3, .int p2)]) hx hb dX1_groundOf_22 hl (by decide) rfl (fun ls hl => ?_)
    have lp1555 : ∀ (n : Nat) (x4_lp1555 : Int32) (v_lp1555 : Nat → Int32) (F_lp1555 : Nat → Nat → Int32) (H : Heap) (locs : List Loc) (ls : Array Slot), (0 ≤ x4_lp1555.toInt) → (2147483648 - x4_lp1555.toInt ≤ (n : Int)) → (∀ k, k ∉ ([126] : List Nat) → v_lp1555 k = v k) → IX v_lp1555 F_lp1555 → alX v_lp1555 F_lp1555 = alX v F → va_P (dC, dI) classes (wX g c v_lp1555 F_lp1555 rc) H → va_S (AX g s.heap.size) s.heap H locs → lv_has ls 5 [(4, .int x4_lp1555), (0, .ref (g 11)), (1, .int p0), (2, .int p1), (3, .int p2)] → W p l e (headSpec (Cond.code yX1_groundOf cX1_groundOf 5 (some .int) :: wA) ({ frames := 7, cells := 0, slots := 0, locals := 280 })).room s m ([.ref (g 11), .int p0, .int p1, .int p2] : List Value).toArray below meth c0 H locs 0 0 (MQ below (va_Qi (fun (r : Int32) (u : StX) => IX u.1 u.2.1 ∧ alX u.1 u.2.1 = alX v F ∧ u.2.2 = rc ∧ (∀ k, k ∉ ([126] : List Nat) → u.1 k = v k) ∧ True) (BX dC dI g c) (AX g s.heap.size)) ([.ref (g 11), .int p0, .int p1, .int p2] : List Value).toArray s 0 0 (AX g s.heap.size)) (F0 m 24 ls []) := by
      intro n
      induction n with
      | zero =>
        intro x4_lp1555 v_lp1555 F_lp1555 H locs ls t1556 hm hf_lp1555 hI hal hP hS hl
        exfalso
        have := i32_rng x4_lp1555
        have hI1 := hI.1
        omega
      | succ n ih_lp1555 =>
        intro x4_lp1555 v_lp1555 F_lp1555 H locs ls t1556 hm hf_lp1555 hI hal hP hS hl
        have rx4_lp1555 := i32_rng x4_lp1555
        refine lv_iload hx hb dX1_groundOf_24 (lv_at hl 0 rfl) ?_
        refine lv_aload_n hx hb dX1_groundOf_26 rfl (lv_at hl 1 rfl) ?_
        refine va_get (D := (dC, dI)) (ci := 1) (v := .ref (g 3)) (C := RX1) (T := TX1) (N := 13) hx hb hwd inA_X1 hown hK hP 11 rfl rfl 3 (by decide) (hwd _ wk_175) (fun _ h9 => h9) rfl dX1_groundOf_27 ?_
        refine va_get (D := (dC, dI)) (ci := 7) (v := .int (v_lp1555 61)) (C := RX7) (T := TX7) (N := 7) hx hb hwd inA_X7 hown hK hP 3 rfl rfl 1 (by decide) (hwd _ wk_341) (fun _ h9 => h9) rfl dX1_groundOf_30 ?_
        refine my_top (v := v 61) (hf_lp1555 61 (by decide)) ?_
        have t1557 : 0 ≤ (v 61).toInt ∧ (v 61).toInt ≤ 100 := by have h9 := hI.1 61 _ _ rfl; rw [show v_lp1555 61 = v 61 from hf_lp1555 61 (by decide)] at h9; exact h9
        refine lv_icmp_ge (tgt := 71) hx hb dX1_groundOf_33 (by decide) (fun c1558 => ?_) (fun c1558 => ?_)
        · skip
          have t1559 := cv_le (a := (v 61).toInt) rfl (b := x4_lp1555.toInt) rfl c1558
          refine lv_aload_n hx hb dX1_groundOf_71 rfl (lv_at hl 1 rfl) ?_
          refine va_get (D := (dC, dI)) (ci := 1) (v := .ref (g 8)) (C := RX1) (T := TX1) (N := 13) hx hb hwd inA_X1 hown hK hP 11 rfl rfl 4 (by decide) (hwd _ wk_176) (fun _ h9 => h9) rfl dX1_groundOf_72 ?_
          refine lv_iload_n hx hb dX1_groundOf_75 rfl (lv_at hl 2 rfl) ?_
          refine lv_iload_n hx hb dX1_groundOf_76 rfl (lv_at hl 4 rfl) ?_
          refine va_calli (va_runV (As := [.int p0, .int p2]) (rest := []) ⟨hx, hb, hml, hown, hwd⟩ (c_X6_anyLate l dC dI g c adK adV v_lp1555 F_lp1555 rc H.size p0 p2 hg hI (by omega)) (cwV 2 hwd (gV wk_431 wk_428 wk_429 wk_430 wk_42) rfl rfl rfl (by decide +kernel) ⟨Nat.le_of_ble_eq_true rfl, Nat.le_of_ble_eq_true rfl⟩) ⟨PX.blind, va_recv hK hP (ci := 6) (q0 := 8) rfl rfl, fun U hU hW => ⟨rfl, PX.at hK hE hP hS hU hW⟩⟩ rfl rfl hl.1 rfl (lv_room (Nat.le_of_ble_eq_true rfl)) dX1_groundOf_77 ⟨Nat.le_of_ble_eq_true rfl, Nat.le_of_ble_eq_true rfl⟩) hS (fun q _ h => (freeX hS) q h) (freeX hS) (fun r1560 u t H1 locs ht hvm hw hB hz1 hk1 hS => ?_)
          unfold BX at hB
          rw [ht] at hB
          have hP : va_P (dC, dI) classes (wX g c v_lp1555 F_lp1555 rc) H1 := hB
          have hw : 0 ≤ r1560.toInt ∧ r1560.toInt ≤ 1 := hw
          generalize H1 = H at hP hS ⊢
          have hw_r1560 := hw
          refine lv_if_eq (tgt := 87) hx hb dX1_groundOf_80 (by decide) (fun c1561 => ?_) (fun c1561 => ?_)
          · skip
            have t1562 := cv_eq (a := r1560.toInt) rfl (b := 0) (by decide) c1561
            refine lv_iconst (v := 0) hx hb dX1_groundOf_87 (by decide) ?_
            have hP9 : va_P (dC, dI) classes (wX g c v_lp1555 F_lp1555 rc) H := hP
            exact W.iret (v := 0) hx hb hr (fun t ht hW => ⟨⟨0, (v_lp1555, F_lp1555, rc), rfl, ⟨hI, hal, rfl, (frC (by decide) hf_lp1555 (fun _ _ => rfl)), trivial⟩, (by show va_P _ _ _ t.heap; rw [ht]; exact hP9)⟩, hS.F ht⟩) hS.2.2 dX1_groundOf_88
          · skip
            have t1563 := cv_ne (a := r1560.toInt) rfl (b := 0) (by decide) c1561
            refine lv_iconst (v := 3) hx hb dX1_groundOf_83 (by decide) ?_
            refine lv_goto (tgt := 88) hx hb dX1_groundOf_84 (by decide) ?_
            have hP9 : va_P (dC, dI) classes (wX g c v_lp1555 F_lp1555 rc) H := hP
            exact W.iret (v := 3) hx hb hr (fun t ht hW => ⟨⟨3, (v_lp1555, F_lp1555, rc), rfl, ⟨hI, hal, rfl, (frC (by decide) hf_lp1555 (fun _ _ => rfl)), trivial⟩, (by show va_P _ _ _ t.heap; rw [ht]; exact hP9)⟩, hS.F ht⟩) hS.2.2 dX1_groundOf_88
        · skip
          have t1564 := cv_nle (a := (v 61).toInt) rfl (b := x4_lp1555.toInt) rfl c1558
          refine lv_aload_n hx hb dX1_groundOf_36 rfl (lv_at hl 1 rfl) ?_
          refine va_get (D := (dC, dI)) (ci := 1) (v := .ref (g 3)) (C := RX1) (T := TX1) (N := 13) hx hb hwd inA_X1 hown hK hP 11 rfl rfl 3 (by decide) (hwd _ wk_175) (fun _ h9 => h9) rfl dX1_groundOf_37 ?_
          refine va_get (D := (dC, dI)) (ci := 7) (v := .ref (g 26)) (C := RX7) (T := TX7) (N := 7) hx hb hwd inA_X7 hown hK hP 3 rfl rfl 4 (by decide) (hwd _ wk_342) (fun _ h9 => h9) rfl dX1_groundOf_40 ?_
          refine lv_iload hx hb dX1_groundOf_43 (lv_at hl 0 rfl) ?_
          refine va_iald hx hb hK hP 26 14 rfl rfl (i := x4_lp1555) (vin (a := x4_lp1555.toInt) rfl (by omega)) dX1_groundOf_45 ?_
          refine lv_topi (fun z1565 e1566 => ?_)
          refine lv_iload_n hx hb dX1_groundOf_46 rfl (lv_at hl 2 rfl) ?_
          refine lv_icmp_ne (tgt := 65) hx hb dX1_groundOf_47 (by decide) (fun c1567 => ?_) (fun c1567 => ?_)
          · skip
            have t1568 := cv_ne (a := z1565.toInt) rfl (b := p0.toInt) rfl c1567
            obtain ⟨z1569, e1570⟩ : ∃ y : Int32, y = x4_lp1555 + 1 := ⟨_, rfl⟩
            try (have t1571 := tadd e1570 rfl (b := 1) (by decide) (by omega))
            refine lv_iinc (v := z1569) (lv' := [(4, .int z1569), (0, .ref (g 11)), (1, .int p0), (2, .int p1), (3, .int p2)]) hx hb dX1_groundOf_65 hl (k := 0) rfl (by rw [e1570]; rfl) (by decide) rfl (fun ls hl => ?_)
            refine lv_goto (tgt := 24) hx hb dX1_groundOf_68 (by decide) ?_
            exact ih_lp1555 z1569 v_lp1555 F_lp1555 _ _ _ (by omega) (by omega) hf_lp1555 hI hal hP hS (lv_sub hl [0, 1, 2, 3, 4] rfl)
          · skip
            have t1572 := cv_eq (a := z1565.toInt) rfl (b := p0.toInt) rfl c1567
            refine lv_aload_n hx hb dX1_groundOf_50 rfl (lv_at hl 1 rfl) ?_
            refine va_get (D := (dC, dI)) (ci := 1) (v := .ref (g 10)) (C := RX1) (T := TX1) (N := 13) hx hb hwd inA_X1 hown hK hP 11 rfl rfl 1 (by decide) (hwd _ wk_171) (fun _ h9 => h9) rfl dX1_groundOf_51 ?_
            refine lv_iload hx hb dX1_groundOf_54 (lv_at hl 0 rfl) ?_
            refine lv_iload_n hx hb dX1_groundOf_56 rfl (lv_at hl 3 rfl) ?_
            refine va_calli (va_runV (As := [.int x4_lp1555, .int p1]) (rest := []) ⟨hx, hb, hml, hown, hwd⟩ (c_X5_isWornOut l dC dI g c adK adV v_lp1555 F_lp1555 rc H.size x4_lp1555 p1 hg hI (by omega)) (cwV 2 hwd (gV wk_354 wk_351 wk_352 wk_353 wk_50) rfl rfl rfl (by decide +kernel) ⟨Nat.le_of_ble_eq_true rfl, Nat.le_of_ble_eq_true rfl⟩) ⟨PX.blind, va_recv hK hP (ci := 5) (q0 := 10) rfl rfl, fun U hU hW => ⟨rfl, PX.at hK hE hP hS hU hW⟩⟩ rfl rfl hl.1 rfl (lv_room (Nat.le_of_ble_eq_true rfl)) dX1_groundOf_57 ⟨Nat.le_of_ble_eq_true rfl, Nat.le_of_ble_eq_true rfl⟩) hS (fun q _ h => (freeX hS) q h) (freeX hS) (fun r1573 u t H1 locs ht hvm hw hB hz1 hk1 hS => ?_)
            unfold BX at hB
            rw [ht] at hB
            obtain ⟨v1574, F1575, rc9⟩ := u
            obtain ⟨hI, hal9, hrc, hf1576, hw⟩ := hw
            dsimp only at hI hal9 hrc hB hf1576 hw
            rw [hrc] at hB
            have hal := hal9.trans hal
            have hP : va_P (dC, dI) classes (wX g c v1574 F1575 rc) H1 := hB
            have hw : 0 ≤ r1573.toInt ∧ r1573.toInt ≤ 1 := hw
            generalize H1 = H at hP hS ⊢
            have hw_r1573 := hw
            refine lv_if_eq (tgt := 65) hx hb dX1_groundOf_60 (by decide) (fun c1577 => ?_) (fun c1577 => ?_)
            · skip
              have t1578 := cv_eq (a := r1573.toInt) rfl (b := 0) (by decide) c1577
              obtain ⟨z1579, e1580⟩ : ∃ y : Int32, y = x4_lp1555 + 1 := ⟨_, rfl⟩
              try (have t1581 := tadd e1580 rfl (b := 1) (by decide) (by omega))
              refine lv_iinc (v := z1579) (lv' := [(4, .int z1579), (0, .ref (g 11)), (1, .int p0), (2, .int p1), (3, .int p2)]) hx hb dX1_groundOf_65 hl (k := 0) rfl (by rw [e1580]; rfl) (by decide) rfl (fun ls hl => ?_)
              refine lv_goto (tgt := 24) hx hb dX1_groundOf_68 (by decide) ?_
              exact ih_lp1555 z1579 v1574 F1575 _ _ _ (by omega) (by omega) (frC (by decide) hf1576 hf_lp1555) hI hal hP hS (lv_sub hl [0, 1, 2, 3, 4] rfl)
            · skip
              have t1582 := cv_ne (a := r1573.toInt) rfl (b := 0) (by decide) c1577
              refine lv_iconst (v := 2) hx hb dX1_groundOf_63 (by decide) ?_
              have hP9 : va_P (dC, dI) classes (wX g c v1574 F1575 rc) H := hP
              exact W.iret (v := 2) hx hb hr (fun t ht hW => ⟨⟨2, (v1574, F1575, rc), rfl, ⟨hI, hal, rfl, (frC (by decide) hf1576 (frC (by decide) hf_lp1555 (fun _ _ => rfl))), trivial⟩, (by show va_P _ _ _ t.heap; rw [ht]; exact hP9)⟩, hS.F ht⟩) hS.2.2 dX1_groundOf_64
    obtain ⟨n9, hn9⟩ : ∃ n : Nat, 2147483648 - 0 ≤ (n : Int) := ⟨((2147483648 - 0 : Int)).toNat, by omega⟩
    exact lp1555 n9 0 v F H _ ls (by have : (0 : Int32).toInt = 0 := (by decide); omega) (by have : (0 : Int32).toInt = 0 := (by decide); omega) (fun _ _ => rfl) hI hal hP hS hl
  · skip
    have t1583 := cv_nle (a := r1552.toInt) rfl (b := r1551.toInt) rfl c1553
    refine lv_iconst (v := 1) hx hb dX1_groundOf_19 (by decide) ?_
    have hP9 : va_P (dC, dI) classes (wX g c v F rc) H := hP
    exact W.iret (v := 1) hx hb hr (fun t ht hW => ⟨⟨1, (v, F, rc), rfl, ⟨hI, hal, rfl, (fun _ _ => rfl), trivial⟩, (by show va_P _ _ _ t.heap; rw [ht]; exact hP9)⟩, hS.F ht⟩) hS.2.2 dX1_groundOf_20
set_option maxHeartbeats 8000000 in
set_option maxRecDepth 100000 in
theorem c_X1_look (l : Launch) (dC : Nat → ClassId) (dI : Nat → Nat → Nat) (g : Nat → Nat) (c : Nat → ClassId) (adK adV : Nat → Nat) (v : Nat → Int32) (F : Nat → Nat → Int32) (rc sz : Nat) (p0 : Int32) (p1 : Int32) (hg : injX g) (hI : IX v F) (h0 : 0 ≤ p0.toInt ∧ p0.toInt ≤ 99) : Met l yX1_look (Cond.code yX1_look cX1_look 3 none :: wA) ({ frames := 6, cells := 0, slots := 0, locals := 240 }) (va_Pc [.ref (g 11), .int p0, .int p1] (PX dC dI g c adK adV v F rc sz)) (va_Qv (fun (u : StX) => IX u.1 u.2.1 ∧ alX u.1 u.2.1 = alX v F ∧ u.2.2 = rc ∧ (∀ k, k ∉ ([126] : List Nat) → u.1 k = v k) ∧ True) (BX dC dI g c) (AX g sz)) 0 0 (AX g sz) := by
  refine Met.ofW (cc := cX1_look) (maxL := 3) (ret := none) (by decide) rfl ?_
  intro p e s m args below meth c0 s₁ B hml hv
  obtain ⟨rfl, hsz, hP, hK, hE⟩ := hv
  have hx := B.exec
  have hb := B.bytes
  have hr := B.returns
  have hts := atoms_spec (ws := Cond.code yX1_look cX1_look 3 none :: wA) B.pre
  have hwd : ∀ w ∈ wA, w.before _ s = true := fun w h => hts w (List.mem_cons_of_mem _ h)
  have hown : s.vm.findClass RX1 = some m.cls := findClass_of_methodNamed B.named
  have hlocks := B.notSynchronized
  subst hsz
  have hl := lv_entry ([.ref (g 11), .int p0, .int p1]) (n := 3) (Nat.le_of_ble_eq_true rfl)
  rw [lg_entry_eq]
  generalize (lg_sl ([.ref (g 11), .int p0, .int p1]) ++ List.replicate (3 - (lg_sl ([.ref (g 11), .int p0, .int p1])).length) Slot.unset).toArray = ls at hl ⊢
  have hl : lv_has ls 3 [(0, .ref (g 11)), (1, .int p0), (2, .int p1)] := hl
  obtain ⟨H, eH⟩ : ∃ z, z = s.heap := ⟨_, rfl⟩
  have hP : va_P (dC, dI) classes (wX g c v F rc) H := by rw [eH]; exact hP
  have hS : va_S (AX g s.heap.size) s.heap H [] := by rw [eH]; exact va_S.rf
  refine my_heap eH ?_
  have hal : alX v F = alX v F := rfl
  have rp0 := i32_rng p0
  have rp1 := i32_rng p1
  refine lv_aload_n hx hb dX1_look_0 rfl (lv_at hl 0 rfl) ?_
  refine va_get (D := (dC, dI)) (ci := 1) (v := .ref (g 10)) (C := RX1) (T := TX1) (N := 13) hx hb hwd inA_X1 hown hK hP 11 rfl rfl 1 (by decide) (hwd _ wk_171) (fun _ h9 => h9) rfl dX1_look_1 ?_
  refine lv_iload_n hx hb dX1_look_4 rfl (lv_at hl 1 rfl) ?_
  refine lv_iload_n hx hb dX1_look_5 rfl (lv_at hl 2 rfl) ?_
  refine va_callv (va_runV (As := [.int p0, .int p1]) (rest := []) ⟨hx, hb, hml, hown, hwd⟩ (c_X5_reckon l dC dI g c adK adV v F rc H.size p0 p1 hg hI (by omega)) (cwV 2 hwd (gV wk_359 wk_1160 wk_357 wk_358 wk_50) rfl rfl rfl (by decide +kernel) ⟨Nat.le_of_ble_eq_true rfl, Nat.le_of_ble_eq_true rfl⟩) ⟨PX.blind, va_recv hK hP (ci := 5) (q0 := 10) rfl rfl, fun U hU hW => ⟨rfl, PX.at hK hE hP hS hU hW⟩⟩ rfl rfl hl.1 rfl (lv_room (Nat.le_of_ble_eq_true rfl)) dX1_look_6 ⟨Nat.le_of_ble_eq_true rfl, Nat.le_of_ble_eq_true rfl⟩) hS (fun q _ h => (freeX hS) q h) (freeX hS) (fun u t H1 locs ht hvm hw hB hz1 hk1 hS => ?_)
  unfold BX at hB
  rw [ht] at hB
  obtain ⟨v1585, F1586, rc9⟩ := u
  obtain ⟨hI, hal9, hrc, hf1587, hw⟩ := hw
  dsimp only at hI hal9 hrc hB hf1587 hw
  rw [hrc] at hB
  have hal := hal9.trans hal
  have hP : va_P (dC, dI) classes (wX g c v1585 F1586 rc) H1 := hB
  generalize H1 = H at hP hS ⊢
  refine lv_aload_n hx hb dX1_look_9 rfl (lv_at hl 0 rfl) ?_
  refine va_get (D := (dC, dI)) (ci := 1) (v := .ref (g 10)) (C := RX1) (T := TX1) (N := 13) hx hb hwd inA_X1 hown hK hP 11 rfl rfl 1 (by decide) (hwd _ wk_171) (fun _ h9 => h9) rfl dX1_look_10 ?_
  refine va_get (D := (dC, dI)) (ci := 5) (v := .ref (g 74)) (C := RX5) (T := TX5) (N := 6) hx hb hwd inA_X5 hown hK hP 10 rfl rfl 5 (by decide) (hwd _ wk_1157) (fun _ h9 => h9) rfl dX1_look_13 ?_
  refine lv_iconst (v := 0) hx hb dX1_look_16 (by decide) ?_
  refine lv_aload_n hx hb dX1_look_17 rfl (lv_at hl 0 rfl) ?_
  refine va_get (D := (dC, dI)) (ci := 1) (v := .ref (g 75)) (C := RX1) (T := TX1) (N := 13) hx hb hwd inA_X1 hown hK hP 11 rfl rfl 6 (by decide) (hwd _ wk_166) (fun _ h9 => h9) rfl dX1_look_18 ?_
  refine lv_iload_n hx hb dX1_look_21 rfl (lv_at hl 1 rfl) ?_
  refine lv_iconst (v := 3) hx hb dX1_look_22 (by decide) ?_
  refine lv_imul hx hb dX1_look_23 ?_
  refine lv_topi (fun z1588 e1589 => ?_)
  try (have t1590 := tmul e1589 (a := p0.toInt) rfl (b := 3) (by decide) (by omega))
  refine lv_iconst (v := 3) hx hb dX1_look_24 (by decide) ?_
  refine va_copyi (ty := .int) hx hb (by rw [hml]; exact hl.1.symm) hown (hwd _ wk_1158) (hwd _ wk_1121) (hwd _ wk_1122) (hwd _ wk_1123) hK hP (DX hg) hS 74 75 62 63 rfl rfl rfl rfl rfl (by decide) (fun q => by have := cv_lt rfl (b := 0) (by decide) q; omega) (by decide) (by rw [ncl (a := 0) (by decide), ncl (a := 3) (by decide)]; omega) (by rw [ncl (a := z1588.toInt) rfl, ncl (a := 3) (by decide)]; omega) (fun _ _ => rfl) (Nat.le_of_ble_eq_true rfl) (Nat.le_of_ble_eq_true rfl) dX1_look_25 (fun H locs hP _ hS => ?_)
  have hP := va_P_eq (sX_75 g c _ _ _ _) hP
  have hI := IX.fill0 hI 75 (va_cpy (F1586 74) (F1586 75) (0 : Int32).toNatClampNeg (z1588 : Int32).toNatClampNeg (3 : Int32).toNatClampNeg) rfl
  have hal := (alX_F _ _ 75 (va_cpy (F1586 74) (F1586 75) (0 : Int32).toNatClampNeg (z1588 : Int32).toNatClampNeg (3 : Int32).toNatClampNeg) (by decide) (by decide) (by decide) (by decide) (by decide)).trans hal
  have hP : va_P (dC, dI) classes (wX g c v1585 (va_up F1586 75 (va_cpy (F1586 74) (F1586 75) (0 : Int32).toNatClampNeg (z1588 : Int32).toNatClampNeg (3 : Int32).toNatClampNeg)) rc) H := hP
  generalize (va_up F1586 75 (va_cpy (F1586 74) (F1586 75) (0 : Int32).toNatClampNeg (z1588 : Int32).toNatClampNeg (3 : Int32).toNatClampNeg)) = F1591 at hP hI hal
  refine lv_aload_n hx hb dX1_look_28 rfl (lv_at hl 0 rfl) ?_
  refine va_get (D := (dC, dI)) (ci := 1) (v := .ref (g 76)) (C := RX1) (T := TX1) (N := 13) hx hb hwd inA_X1 hown hK hP 11 rfl rfl 7 (by decide) (hwd _ wk_167) (fun _ h9 => h9) rfl dX1_look_29 ?_
  refine lv_iload_n hx hb dX1_look_32 rfl (lv_at hl 1 rfl) ?_
  refine lv_aload_n hx hb dX1_look_33 rfl (lv_at hl 0 rfl) ?_
  refine va_get (D := (dC, dI)) (ci := 1) (v := .ref (g 3)) (C := RX1) (T := TX1) (N := 13) hx hb hwd inA_X1 hown hK hP 11 rfl rfl 3 (by decide) (hwd _ wk_175) (fun _ h9 => h9) rfl dX1_look_34 ?_
  refine va_get (D := (dC, dI)) (ci := 7) (v := .ref (g 4)) (C := RX7) (T := TX7) (N := 7) hx hb hwd inA_X7 hown hK hP 3 rfl rfl 0 (by decide) (hwd _ wk_1159) (fun _ h9 => h9) rfl dX1_look_37 ?_
  refine lv_iload_n hx hb dX1_look_40 rfl (lv_at hl 1 rfl) ?_
  refine va_calli (va_runV (As := [.int p0]) (rest := [.int p0, .ref (g 76)]) ⟨hx, hb, hml, hown, hwd⟩ (c_X9_gapsOf l dC dI g c adK adV v1585 F1591 rc H.size p0 hg hI (by omega)) (cwV 1 hwd (gV wk_673 wk_1161 wk_671 wk_672 wk_22) rfl rfl rfl (by decide +kernel) ⟨Nat.le_of_ble_eq_true rfl, Nat.le_of_ble_eq_true rfl⟩) ⟨PX.blind, va_recv hK hP (ci := 9) (q0 := 4) rfl rfl, fun U hU hW => ⟨rfl, PX.at hK hE hP hS hU hW⟩⟩ rfl rfl hl.1 rfl (lv_room (Nat.le_of_ble_eq_true rfl)) dX1_look_41 ⟨Nat.le_of_ble_eq_true rfl, Nat.le_of_ble_eq_true rfl⟩) hS (fun q _ h => (freeX hS) q h) (freeX hS) (fun r1592 u t H1 locs ht hvm hw hB hz1 hk1 hS => ?_)
  unfold BX at hB
  rw [ht] at hB
  have hP : va_P (dC, dI) classes (wX g c v1585 F1591 rc) H1 := hB
  generalize H1 = H at hP hS ⊢
  have rr_r1592 := i32_rng r1592
  refine va_iast hx hb hK hP (DX hg) hS 76 64 rfl rfl (i := p0) (x := r1592) (vin (a := p0.toInt) rfl (by omega)) dX1_look_44 (fun H locs hP _ hS => ?_)
  have hP := va_P_eq (sX_76 g c _ _ _ _) hP
  have hI := IX.store0 hI 76 (p0 : Int32).toNatClampNeg r1592 rfl
  have hal := (alX_F _ _ 76 (upd (F1591 76) (p0 : Int32).toNatClampNeg r1592) (by decide) (by decide) (by decide) (by decide) (by decide)).trans hal
  have hP : va_P (dC, dI) classes (wX g c v1585 (va_up F1591 76 (upd (F1591 76) (p0 : Int32).toNatClampNeg r1592)) rc) H := hP
  generalize (va_up F1591 76 (upd (F1591 76) (p0 : Int32).toNatClampNeg r1592)) = F1593 at hP hI hal
  have hP9 : va_P (dC, dI) classes (wX g c v1585 F1593 rc) H := hP
  exact W.vret hx hb hr (fun t ht hW => ⟨⟨(v1585, F1593, rc), rfl, ⟨hI, hal, rfl, (frC (by decide) hf1587 (fun _ _ => rfl)), trivial⟩, (by show va_P _ _ _ t.heap; rw [ht]; exact hP9)⟩, hS.F ht⟩) hS.2.2 dX1_look_45
set_option maxHeartbeats 8000000 in
set_option maxRecDepth 100000 in
theorem c_X1_judge (l : Launch) (dC : Nat → ClassId) (dI : Nat → Nat → Nat) (g : Nat → Nat) (c : Nat → ClassId) (adK adV : Nat → Nat) (v : Nat → Int32) (F : Nat → Nat → Int32) (rc sz : Nat) (p0 : Int32) (hg : injX g) (hI : IX v F) (h0 : 0 ≤ p0.toInt ∧ p0.toInt ≤ 99) : Met l yX1_judge (Cond.code yX1_judge cX1_judge 2 none :: wA) ({ frames := 1, cells := 0, slots := 0, locals := 40 }) (va_Pc [.ref (g 11), .int p0] (PX dC dI g c adK adV v F rc sz)) (va_Qv (fun (u : StX) => IX u.1 u.2.1 ∧ alX u.1 u.2.1 = alX v F ∧ u.2.2 = rc ∧ (∀ k, k ∉ ([229] : List Nat) → u.1 k = v k) ∧ True) (BX dC dI g c) (AX g sz)) 0 0 (AX g sz) := by
  refine Met.ofW (cc := cX1_judge) (maxL := 2) (ret := none) (by decide) rfl ?_
  intro p e s m args below meth c0 s₁ B hml hv
  obtain ⟨rfl, hsz, hP, hK, hE⟩ := hv
  have hx := B.exec
  have hb := B.bytes
  have hr := B.returns
  have hts := atoms_spec (ws := Cond.code yX1_judge cX1_judge 2 none :: wA) B.pre
  have hwd : ∀ w ∈ wA, w.before _ s = true := fun w h => hts w (List.mem_cons_of_mem _ h)
  have hown : s.vm.findClass RX1 = some m.cls := findClass_of_methodNamed B.named
  have hlocks := B.notSynchronized
  subst hsz
  have hl := lv_entry ([.ref (g 11), .int p0]) (n := 2) (Nat.le_of_ble_eq_true rfl)
  rw [lg_entry_eq]
  generalize (lg_sl ([.ref (g 11), .int p0]) ++ List.replicate (2 - (lg_sl ([.ref (g 11), .int p0])).length) Slot.unset).toArray = ls at hl ⊢
  have hl : lv_has ls 2 [(0, .ref (g 11)), (1, .int p0)] := hl
  obtain ⟨H, eH⟩ : ∃ z, z = s.heap := ⟨_, rfl⟩
  have hP : va_P (dC, dI) classes (wX g c v F rc) H := by rw [eH]; exact hP
  have hS : va_S (AX g s.heap.size) s.heap H [] := by rw [eH]; exact va_S.rf
  refine my_heap eH ?_
  have hal : alX v F = alX v F := rfl
  have rp0 := i32_rng p0
  refine lv_aload_n hx hb dX1_judge_0 rfl (lv_at hl 0 rfl) ?_
  refine va_get (D := (dC, dI)) (ci := 1) (v := .int (v 229)) (C := RX1) (T := TX1) (N := 13) hx hb hwd inA_X1 hown hK hP 11 rfl rfl 9 (by decide) (hwd _ wk_1151) (fun _ h9 => h9) rfl dX1_judge_1 ?_
  have t1594 : 0 ≤ (v 229).toInt ∧ (v 229).toInt ≤ 100 := hI.1 229 _ _ rfl
  refine lv_aload_n hx hb dX1_judge_4 rfl (lv_at hl 0 rfl) ?_
  refine va_get (D := (dC, dI)) (ci := 1) (v := .ref (g 77)) (C := RX1) (T := TX1) (N := 13) hx hb hwd inA_X1 hown hK hP 11 rfl rfl 8 (by decide) (hwd _ wk_168) (fun _ h9 => h9) rfl dX1_judge_5 ?_
  refine va_alen (v := 100) hx hb hK hP 77 65 rfl rfl rfl dX1_judge_8 ?_
  refine lv_icmp_ge (tgt := 32) hx hb dX1_judge_9 (by decide) (fun c1595 => ?_) (fun c1595 => ?_)
  · skip
    have t1596 := cv_le (a := 100) (by decide) (b := (v 229).toInt) rfl c1595
    have hP9 : va_P (dC, dI) classes (wX g c v F rc) H := hP
    exact W.vret hx hb hr (fun t ht hW => ⟨⟨(v, F, rc), rfl, ⟨hI, hal, rfl, (fun _ _ => rfl), trivial⟩, (by show va_P _ _ _ t.heap; rw [ht]; exact hP9)⟩, hS.F ht⟩) hS.2.2 dX1_judge_32
  · skip
    have t1597 := cv_nle (a := 100) (by decide) (b := (v 229).toInt) rfl c1595
    refine lv_aload_n hx hb dX1_judge_12 rfl (lv_at hl 0 rfl) ?_
    refine va_get (D := (dC, dI)) (ci := 1) (v := .ref (g 77)) (C := RX1) (T := TX1) (N := 13) hx hb hwd inA_X1 hown hK hP 11 rfl rfl 8 (by decide) (hwd _ wk_168) (fun _ h9 => h9) rfl dX1_judge_13 ?_
    refine lv_aload_n hx hb dX1_judge_16 rfl (lv_at hl 0 rfl) ?_
    refine va_get (D := (dC, dI)) (ci := 1) (v := .int (v 229)) (C := RX1) (T := TX1) (N := 13) hx hb hwd inA_X1 hown hK hP 11 rfl rfl 9 (by decide) (hwd _ wk_1151) (fun _ h9 => h9) rfl dX1_judge_17 ?_
    have t1598 : 0 ≤ (v 229).toInt ∧ (v 229).toInt ≤ 100 := hI.1 229 _ _ rfl
    refine lv_iload_n hx hb dX1_judge_20 rfl (lv_at hl 1 rfl) ?_
    refine va_iast hx hb hK hP (DX hg) hS 77 65 rfl rfl (i := (v 229)) (x := p0) (vin (a := (v 229).toInt) rfl (by omega)) dX1_judge_21 (fun H locs hP _ hS => ?_)
    have hP := va_P_eq (sX_77 g c _ _ _ _) hP
    have hI := IX.store hI 77 (v 229 : Int32).toNatClampNeg p0 rfl (by omega)
    have hal := (alX_F _ _ 77 (upd (F 77) (v 229 : Int32).toNatClampNeg p0) (by decide) (by decide) (by decide) (by decide) (by decide)).trans hal
    have hP : va_P (dC, dI) classes (wX g c v (va_up F 77 (upd (F 77) (v 229 : Int32).toNatClampNeg p0)) rc) H := hP
    generalize (va_up F 77 (upd (F 77) (v 229 : Int32).toNatClampNeg p0)) = F1599 at hP hI hal
    refine lv_aload_n hx hb dX1_judge_22 rfl (lv_at hl 0 rfl) ?_
    refine lv_dup hx hb dX1_judge_23 rfl ?_
    refine va_get (D := (dC, dI)) (ci := 1) (v := .int (v 229)) (C := RX1) (T := TX1) (N := 13) hx hb hwd inA_X1 hown hK hP 11 rfl rfl 9 (by decide) (hwd _ wk_1151) (fun _ h9 => h9) rfl dX1_judge_24 ?_
    have t1600 : 0 ≤ (v 229).toInt ∧ (v 229).toInt ≤ 100 := hI.1 229 _ _ rfl
    refine lv_iconst (v := 1) hx hb dX1_judge_27 (by decide) ?_
    refine lv_iadd hx hb dX1_judge_28 ?_
    refine lv_topi (fun z1601 e1602 => ?_)
    try (have t1603 := tadd e1602 (a := (v 229).toInt) rfl (b := 1) (by decide) (by omega))
    refine va_put (D := (dC, dI)) (ci := 1) (v := .int z1601) (ty := .int) (C := RX1) (T := TX1) (N := 13) (fs := fsX_11 g v rc) hx hb hwd inA_X1 tyX1 tyX1_ok nmX1 hown hK hP (DX hg) hS 11 rfl rfl 9 (by decide) (hwd _ wk_1151) (fun _ h9 => h9) rfl (by decide +kernel) rfl rfl (Nat.le_of_ble_eq_true rfl) dX1_judge_29 (fun H locs hP _ hS => ?_)
    have hP := va_P_eq (pX_229 g c _ _ _ _) hP
    have hI := IX.put hI 229 z1601 rfl (by omega)
    have hal := (alX_v _ _ 229 z1601 (by decide) (by decide) (by decide) (by decide)).trans hal
    have hP9 : va_P (dC, dI) classes (wX g c (va_up v 229 z1601) F1599 rc) H := hP
    exact W.vret hx hb hr (fun t ht hW => ⟨⟨((va_up v 229 z1601), F1599, rc), rfl, ⟨hI, hal, rfl, (frU (by decide) (fun _ _ => rfl)), trivial⟩, (by show va_P _ _ _ t.heap; rw [ht]; exact hP9)⟩, hS.F ht⟩) hS.2.2 dX1_judge_32
set_option maxHeartbeats 8000000 in
set_option maxRecDepth 100000 in
theorem c_X1_survey (l : Launch) (dC : Nat → ClassId) (dI : Nat → Nat → Nat) (g : Nat → Nat) (c : Nat → ClassId) (adK adV : Nat → Nat) (v : Nat → Int32) (F : Nat → Nat → Int32) (rc sz : Nat) (p0 : Int32) (p1 : Int32) (p2 : Int32) (hg : injX g) (hI : IX v F) : Met l yX1_survey (Cond.code yX1_survey cX1_survey 5 none :: wA) ({ frames := 7, cells := 0, slots := 0, locals := 280 }) (va_Pc [.ref (g 11), .int p0, .int p1, .int p2] (PX dC dI g c adK adV v F rc sz)) (va_Qv (fun (u : StX) => IX u.1 u.2.1 ∧ alX u.1 u.2.1 = alX v F ∧ u.2.2 = rc ∧ (∀ k, k ∉ ([126, 229] : List Nat) → u.1 k = v k) ∧ True) (BX dC dI g c) (AX g sz)) 0 0 (AX g sz) := by
  refine Met.ofW (cc := cX1_survey) (maxL := 5) (ret := none) (by decide) rfl ?_
  intro p e s m args below meth c0 s₁ B hml hv
  obtain ⟨rfl, hsz, hP, hK, hE⟩ := hv
  have hx := B.exec
  have hb := B.bytes
  have hr := B.returns
  have hts := atoms_spec (ws := Cond.code yX1_survey cX1_survey 5 none :: wA) B.pre
  have hwd : ∀ w ∈ wA, w.before _ s = true := fun w h => hts w (List.mem_cons_of_mem _ h)
  have hown : s.vm.findClass RX1 = some m.cls := findClass_of_methodNamed B.named
  have hlocks := B.notSynchronized
  subst hsz
  have hl := lv_entry ([.ref (g 11), .int p0, .int p1, .int p2]) (n := 5) (Nat.le_of_ble_eq_true rfl)
  rw [lg_entry_eq]
  generalize (lg_sl ([.ref (g 11), .int p0, .int p1, .int p2]) ++ List.replicate (5 - (lg_sl ([.ref (g 11), .int p0, .int p1, .int p2])).length) Slot.unset).toArray = ls at hl ⊢
  have hl : lv_has ls 5 [(0, .ref (g 11)), (1, .int p0), (2, .int p1), (3, .int p2)] := hl
  obtain ⟨H, eH⟩ : ∃ z, z = s.heap := ⟨_, rfl⟩
  have hP : va_P (dC, dI) classes (wX g c v F rc) H := by rw [eH]; exact hP
  have hS : va_S (AX g s.heap.size) s.heap H [] := by rw [eH]; exact va_S.rf
  refine my_heap eH ?_
  have hal : alX v F = alX v F := rfl
  have rp0 := i32_rng p0
  have rp1 := i32_rng p1
  have rp2 := i32_rng p2
  refine lv_aload_n hx hb dX1_survey_0 rfl (lv_at hl 0 rfl) ?_
  refine lv_iconst (v := 0) hx hb dX1_survey_1 (by decide) ?_
  refine va_put (D := (dC, dI)) (ci := 1) (v := .int 0) (ty := .int) (C := RX1) (T := TX1) (N := 13) (fs := fsX_11 g v rc) hx hb hwd inA_X1 tyX1 tyX1_ok nmX1 hown hK hP (DX hg) hS 11 rfl rfl 9 (by decide) (hwd _ wk_1151) (fun _ h9 => h9) rfl (by decide +kernel) rfl rfl (Nat.le_of_ble_eq_true rfl) dX1_survey_2 (fun H locs hP _ hS => ?_)
  have hP := va_P_eq (pX_229 g c _ _ _ _) hP
  have hI := IX.put hI 229 0 rfl (by have : (0 : Int32).toInt = 0 := (by decide); omega)
  have hal := (alX_v _ _ 229 0 (by decide) (by decide) (by decide) (by decide)).trans hal
  refine lv_iconst (v := 0) hx hb dX1_survey_5 (by decide) ?_
  refine lv_istore (lv' := [(4, .int 0), (0, .ref (g 11)), (1, .int p0), (2, .int p1), (3, .int p2)]) hx hb dX1_survey_6 hl (by decide) rfl (fun ls hl => ?_)
  have lp1604 : ∀ (n : Nat) (x4_lp1604 : Int32) (v_lp1604 : Nat → Int32) (F_lp1604 : Nat → Nat → Int32) (H : Heap) (locs : List Loc) (ls : Array Slot), (0 ≤ x4_lp1604.toInt) → (2147483648 - x4_lp1604.toInt ≤ (n : Int)) → (∀ k, k ∉ ([126, 229] : List Nat) → v_lp1604 k = (va_up v 229 0) k) → IX v_lp1604 F_lp1604 → alX v_lp1604 F_lp1604 = alX v F → va_P (dC, dI) classes (wX g c v_lp1604 F_lp1604 rc) H → va_S (AX g s.heap.size) s.heap H locs → lv_has ls 5 [(4, .int x4_lp1604), (0, .ref (g 11)), (1, .int p0), (2, .int p1), (3, .int p2)] → W p l e (headSpec (Cond.code yX1_survey cX1_survey 5 none :: wA) ({ frames := 7, cells := 0, slots := 0, locals := 280 })).room s m ([.ref (g 11), .int p0, .int p1, .int p2] : List Value).toArray below meth c0 H locs 0 0 (MQ below (va_Qv (fun (u : StX) => IX u.1 u.2.1 ∧ alX u.1 u.2.1 = alX v F ∧ u.2.2 = rc ∧ (∀ k, k ∉ ([126, 229] : List Nat) → u.1 k = v k) ∧ True) (BX dC dI g c) (AX g s.heap.size)) ([.ref (g 11), .int p0, .int p1, .int p2] : List Value).toArray s 0 0 (AX g s.heap.size)) (F0 m 8 ls []) := by
    intro n
    induction n with
    | zero =>
      intro x4_lp1604 v_lp1604 F_lp1604 H locs ls t1605 hm hf_lp1604 hI hal hP hS hl
      exfalso
      have := i32_rng x4_lp1604
      have hI1 := hI.1
      omega
    | succ n ih_lp1604 =>
      intro x4_lp1604 v_lp1604 F_lp1604 H locs ls t1605 hm hf_lp1604 hI hal hP hS hl
      have rx4_lp1604 := i32_rng x4_lp1604
      refine lv_iload hx hb dX1_survey_8 (lv_at hl 0 rfl) ?_
      refine lv_aload_n hx hb dX1_survey_10 rfl (lv_at hl 1 rfl) ?_
      refine va_get (D := (dC, dI)) (ci := 1) (v := .ref (g 3)) (C := RX1) (T := TX1) (N := 13) hx hb hwd inA_X1 hown hK hP 11 rfl rfl 3 (by decide) (hwd _ wk_175) (fun _ h9 => h9) rfl dX1_survey_11 ?_
      refine va_get (D := (dC, dI)) (ci := 7) (v := .int (v_lp1604 61)) (C := RX7) (T := TX7) (N := 7) hx hb hwd inA_X7 hown hK hP 3 rfl rfl 1 (by decide) (hwd _ wk_341) (fun _ h9 => h9) rfl dX1_survey_14 ?_
      refine my_top (v := v 61) (hf_lp1604 61 (by decide)) ?_
      have t1606 : 0 ≤ (v 61).toInt ∧ (v 61).toInt ≤ 100 := by have h9 := hI.1 61 _ _ rfl; rw [show v_lp1604 61 = v 61 from hf_lp1604 61 (by decide)] at h9; exact h9
      refine lv_icmp_ge (tgt := 67) hx hb dX1_survey_17 (by decide) (fun c1607 => ?_) (fun c1607 => ?_)
      · skip
        have t1608 := cv_le (a := (v 61).toInt) rfl (b := x4_lp1604.toInt) rfl c1607
        have hP9 : va_P (dC, dI) classes (wX g c v_lp1604 F_lp1604 rc) H := hP
        exact W.vret hx hb hr (fun t ht hW => ⟨⟨(v_lp1604, F_lp1604, rc), rfl, ⟨hI, hal, rfl, (frC (by decide) hf_lp1604 (frU (by decide) (fun _ _ => rfl))), trivial⟩, (by show va_P _ _ _ t.heap; rw [ht]; exact hP9)⟩, hS.F ht⟩) hS.2.2 dX1_survey_67
      · skip
        have t1609 := cv_nle (a := (v 61).toInt) rfl (b := x4_lp1604.toInt) rfl c1607
        refine lv_aload_n hx hb dX1_survey_20 rfl (lv_at hl 1 rfl) ?_
        refine va_get (D := (dC, dI)) (ci := 1) (v := .ref (g 3)) (C := RX1) (T := TX1) (N := 13) hx hb hwd inA_X1 hown hK hP 11 rfl rfl 3 (by decide) (hwd _ wk_175) (fun _ h9 => h9) rfl dX1_survey_21 ?_
        refine va_get (D := (dC, dI)) (ci := 7) (v := .ref (g 26)) (C := RX7) (T := TX7) (N := 7) hx hb hwd inA_X7 hown hK hP 3 rfl rfl 4 (by decide) (hwd _ wk_342) (fun _ h9 => h9) rfl dX1_survey_24 ?_
        refine lv_iload hx hb dX1_survey_27 (lv_at hl 0 rfl) ?_
        refine va_iald hx hb hK hP 26 14 rfl rfl (i := x4_lp1604) (vin (a := x4_lp1604.toInt) rfl (by omega)) dX1_survey_29 ?_
        refine lv_topi (fun z1610 e1611 => ?_)
        refine lv_iload_n hx hb dX1_survey_30 rfl (lv_at hl 2 rfl) ?_
        refine lv_icmp_ne (tgt := 61) hx hb dX1_survey_31 (by decide) (fun c1612 => ?_) (fun c1612 => ?_)
        · skip
          have t1613 := cv_ne (a := z1610.toInt) rfl (b := p0.toInt) rfl c1612
          obtain ⟨z1614, e1615⟩ : ∃ y : Int32, y = x4_lp1604 + 1 := ⟨_, rfl⟩
          try (have t1616 := tadd e1615 rfl (b := 1) (by decide) (by omega))
          refine lv_iinc (v := z1614) (lv' := [(4, .int z1614), (0, .ref (g 11)), (1, .int p0), (2, .int p1), (3, .int p2)]) hx hb dX1_survey_61 hl (k := 0) rfl (by rw [e1615]; rfl) (by decide) rfl (fun ls hl => ?_)
          refine lv_goto (tgt := 8) hx hb dX1_survey_64 (by decide) ?_
          exact ih_lp1604 z1614 v_lp1604 F_lp1604 _ _ _ (by omega) (by omega) hf_lp1604 hI hal hP hS (lv_sub hl [0, 1, 2, 3, 4] rfl)
        · skip
          have t1617 := cv_eq (a := z1610.toInt) rfl (b := p0.toInt) rfl c1612
          refine lv_aload_n hx hb dX1_survey_34 rfl (lv_at hl 1 rfl) ?_
          refine va_get (D := (dC, dI)) (ci := 1) (v := .ref (g 3)) (C := RX1) (T := TX1) (N := 13) hx hb hwd inA_X1 hown hK hP 11 rfl rfl 3 (by decide) (hwd _ wk_175) (fun _ h9 => h9) rfl dX1_survey_35 ?_
          refine va_get (D := (dC, dI)) (ci := 7) (v := .ref (g 24)) (C := RX7) (T := TX7) (N := 7) hx hb hwd inA_X7 hown hK hP 3 rfl rfl 2 (by decide) (hwd _ wk_1152) (fun _ h9 => h9) rfl dX1_survey_38 ?_
          refine lv_iload hx hb dX1_survey_41 (lv_at hl 0 rfl) ?_
          refine va_iald hx hb hK hP 24 12 rfl rfl (i := x4_lp1604) (vin (a := x4_lp1604.toInt) rfl (by omega)) dX1_survey_43 ?_
          refine lv_topi (fun z1618 e1619 => ?_)
          have t1620 : 0 ≤ z1618.toInt ∧ z1618.toInt ≤ 9 := by rw [e1619]; exact hI.2 24 _ _ rfl _
          refine lv_iload_n hx hb dX1_survey_44 rfl (lv_at hl 3 rfl) ?_
          refine lv_icmp_eq (tgt := 61) hx hb dX1_survey_45 (by decide) (fun c1621 => ?_) (fun c1621 => ?_)
          · skip
            have t1622 := cv_eq (a := z1618.toInt) rfl (b := p1.toInt) rfl c1621
            obtain ⟨z1623, e1624⟩ : ∃ y : Int32, y = x4_lp1604 + 1 := ⟨_, rfl⟩
            try (have t1625 := tadd e1624 rfl (b := 1) (by decide) (by omega))
            refine lv_iinc (v := z1623) (lv' := [(4, .int z1623), (0, .ref (g 11)), (1, .int p0), (2, .int p1), (3, .int p2)]) hx hb dX1_survey_61 hl (k := 0) rfl (by rw [e1624]; rfl) (by decide) rfl (fun ls hl => ?_)
            refine lv_goto (tgt := 8) hx hb dX1_survey_64 (by decide) ?_
            exact ih_lp1604 z1623 v_lp1604 F_lp1604 _ _ _ (by omega) (by omega) hf_lp1604 hI hal hP hS (lv_sub hl [0, 1, 2, 3, 4] rfl)
          · skip
            have t1626 := cv_ne (a := z1618.toInt) rfl (b := p1.toInt) rfl c1621
            refine lv_aload_n hx hb dX1_survey_48 rfl (lv_at hl 1 rfl) ?_
            refine lv_iload hx hb dX1_survey_49 (lv_at hl 0 rfl) ?_
            refine lv_iload_n hx hb dX1_survey_51 rfl (lv_at hl 4 rfl) ?_
            refine va_callv (va_runV (As := [.int x4_lp1604, .int p2]) (rest := []) ⟨hx, hb, hml, hown, hwd⟩ (c_X1_look l dC dI g c adK adV v_lp1604 F_lp1604 rc H.size x4_lp1604 p2 hg hI (by omega)) (cwV 2 hwd (gV wk_1156 wk_1153 wk_1154 wk_1155 wk_54) rfl rfl rfl (by decide +kernel) ⟨Nat.le_of_ble_eq_true rfl, Nat.le_of_ble_eq_true rfl⟩) ⟨PX.blind, va_recv hK hP (ci := 1) (q0 := 11) rfl rfl, fun U hU hW => ⟨rfl, PX.at hK hE hP hS hU hW⟩⟩ rfl rfl hl.1 rfl (lv_room (Nat.le_of_ble_eq_true rfl)) dX1_survey_52 ⟨Nat.le_of_ble_eq_true rfl, Nat.le_of_ble_eq_true rfl⟩) hS (fun q _ h => (freeX hS) q h) (freeX hS) (fun u t H1 locs ht hvm hw hB hz1 hk1 hS => ?_)
            unfold BX at hB
            rw [ht] at hB
            obtain ⟨v1628, F1629, rc9⟩ := u
            obtain ⟨hI, hal9, hrc, hf1630, hw⟩ := hw
            dsimp only at hI hal9 hrc hB hf1630 hw
            rw [hrc] at hB
            have hal := hal9.trans hal
            have hP : va_P (dC, dI) classes (wX g c v1628 F1629 rc) H1 := hB
            generalize H1 = H at hP hS ⊢
            refine lv_aload_n hx hb dX1_survey_55 rfl (lv_at hl 1 rfl) ?_
            refine lv_iload hx hb dX1_survey_56 (lv_at hl 0 rfl) ?_
            refine va_callv (va_runV (As := [.int x4_lp1604]) (rest := []) ⟨hx, hb, hml, hown, hwd⟩ (c_X1_judge l dC dI g c adK adV v1628 F1629 rc H.size x4_lp1604 hg hI (by omega)) (cwV 1 hwd (gV wk_1165 wk_1162 wk_1163 wk_1164 wk_54) rfl rfl rfl (by decide +kernel) ⟨Nat.le_of_ble_eq_true rfl, Nat.le_of_ble_eq_true rfl⟩) ⟨PX.blind, va_recv hK hP (ci := 1) (q0 := 11) rfl rfl, fun U hU hW => ⟨rfl, PX.at hK hE hP hS hU hW⟩⟩ rfl rfl hl.1 rfl (lv_room (Nat.le_of_ble_eq_true rfl)) dX1_survey_58 ⟨Nat.le_of_ble_eq_true rfl, Nat.le_of_ble_eq_true rfl⟩) hS (fun q _ h => (freeX hS) q h) (freeX hS) (fun u t H1 locs ht hvm hw hB hz1 hk1 hS => ?_)
            unfold BX at hB
            rw [ht] at hB
            obtain ⟨v1632, F1633, rc9⟩ := u
            obtain ⟨hI, hal9, hrc, hf1634, hw⟩ := hw
            dsimp only at hI hal9 hrc hB hf1634 hw
            rw [hrc] at hB
            have hal := hal9.trans hal
            have hP : va_P (dC, dI) classes (wX g c v1632 F1633 rc) H1 := hB
            generalize H1 = H at hP hS ⊢
            obtain ⟨z1635, e1636⟩ : ∃ y : Int32, y = x4_lp1604 + 1 := ⟨_, rfl⟩
            try (have t1637 := tadd e1636 rfl (b := 1) (by decide) (by omega))
            refine lv_iinc (v := z1635) (lv' := [(4, .int z1635), (0, .ref (g 11)), (1, .int p0), (2, .int p1), (3, .int p2)]) hx hb dX1_survey_61 hl (k := 0) rfl (by rw [e1636]; rfl) (by decide) rfl (fun ls hl => ?_)
            refine lv_goto (tgt := 8) hx hb dX1_survey_64 (by decide) ?_
            exact ih_lp1604 z1635 v1632 F1633 _ _ _ (by omega) (by omega) (frC (by decide) hf1634 (frC (by decide) hf1630 hf_lp1604)) hI hal hP hS (lv_sub hl [0, 1, 2, 3, 4] rfl)
  obtain ⟨n9, hn9⟩ : ∃ n : Nat, 2147483648 - 0 ≤ (n : Int) := ⟨((2147483648 - 0 : Int)).toNat, by omega⟩
  exact lp1604 n9 0 (va_up v 229 0) F H _ ls (by have : (0 : Int32).toInt = 0 := (by decide); omega) (by have : (0 : Int32).toInt = 0 := (by decide); omega) (fun _ _ => rfl) hI hal hP hS hl
set_option maxHeartbeats 8000000 in
set_option maxRecDepth 100000 in
theorem c_X1_shortOf (l : Launch) (dC : Nat → ClassId) (dI : Nat → Nat → Nat) (g : Nat → Nat) (c : Nat → ClassId) (adK adV : Nat → Nat) (v : Nat → Int32) (F : Nat → Nat → Int32) (rc sz : Nat) (p0 : Int32) (p1 : Int32) (p2 : Int32) (hg : injX g) (hI : IX v F) (h0 : 0 ≤ p0.toInt ∧ p0.toInt ≤ 9) (h1 : 0 ≤ p1.toInt ∧ p1.toInt ≤ 29) (h2 : 0 ≤ p2.toInt ∧ p2.toInt ≤ 2) : Met l yX1_shortOf (Cond.code yX1_shortOf cX1_shortOf 8 (some .int) :: wA) ({ frames := 2, cells := 0, slots := 0, locals := 80 }) (va_Pc [.ref (g 11), .int p0, .int p1, .int p2] (PX dC dI g c adK adV v F rc sz)) (va_Qi (fun (r : Int32) (u : Unit) => True) (fun (_ : Unit) => BX dC dI g c (v, F, rc)) (AX g sz)) 0 0 (AX g sz) := by
  refine Met.ofW (cc := cX1_shortOf) (maxL := 8) (ret := (some .int)) (by decide) rfl ?_
  intro p e s m args below meth c0 s₁ B hml hv
  obtain ⟨rfl, hsz, hP, hK, hE⟩ := hv
  have hx := B.exec
  have hb := B.bytes
  have hr := B.returns
  have hts := atoms_spec (ws := Cond.code yX1_shortOf cX1_shortOf 8 (some .int) :: wA) B.pre
  have hwd : ∀ w ∈ wA, w.before _ s = true := fun w h => hts w (List.mem_cons_of_mem _ h)
  have hown : s.vm.findClass RX1 = some m.cls := findClass_of_methodNamed B.named
  have hlocks := B.notSynchronized
  subst hsz
  have hl := lv_entry ([.ref (g 11), .int p0, .int p1, .int p2]) (n := 8) (Nat.le_of_ble_eq_true rfl)
  rw [lg_entry_eq]
  generalize (lg_sl ([.ref (g 11), .int p0, .int p1, .int p2]) ++ List.replicate (8 - (lg_sl ([.ref (g 11), .int p0, .int p1, .int p2])).length) Slot.unset).toArray = ls at hl ⊢
  have hl : lv_has ls 8 [(0, .ref (g 11)), (1, .int p0), (2, .int p1), (3, .int p2)] := hl
  obtain ⟨H, eH⟩ : ∃ z, z = s.heap := ⟨_, rfl⟩
  have hP : va_P (dC, dI) classes (wX g c v F rc) H := by rw [eH]; exact hP
  have hS : va_S (AX g s.heap.size) s.heap H [] := by rw [eH]; exact va_S.rf
  refine my_heap eH ?_
  have rp0 := i32_rng p0
  have rp1 := i32_rng p1
  have rp2 := i32_rng p2
  refine lv_aload_n hx hb dX1_shortOf_0 rfl (lv_at hl 0 rfl) ?_
  refine va_get (D := (dC, dI)) (ci := 1) (v := .ref (g 9)) (C := RX1) (T := TX1) (N := 13) hx hb hwd inA_X1 hown hK hP 11 rfl rfl 5 (by decide) (hwd _ wk_177) (fun _ h9 => h9) rfl dX1_shortOf_1 ?_
  refine lv_iload_n hx hb dX1_shortOf_4 rfl (lv_at hl 1 rfl) ?_
  refine lv_iload_n hx hb dX1_shortOf_5 rfl (lv_at hl 2 rfl) ?_
  refine lv_iconst (v := 1) hx hb dX1_shortOf_6 (by decide) ?_
  refine va_calli (va_runV (As := [.int p0, .int p1, .int 1]) (rest := []) ⟨hx, hb, hml, hown, hwd⟩ (c_X0_numberOf l dC dI g c adK adV v F rc H.size p0 p1 1 hg hI (by omega) (by omega) (by have : (1 : Int32).toInt = 1 := (by decide); omega)) (cwV 3 hwd (gV wk_1183 wk_1180 wk_1181 wk_1182 wk_46) rfl rfl rfl (by decide +kernel) ⟨Nat.le_of_ble_eq_true rfl, Nat.le_of_ble_eq_true rfl⟩) ⟨PX.blind, va_recv hK hP (ci := 0) (q0 := 9) rfl rfl, fun U hU hW => ⟨rfl, PX.at hK hE hP hS hU hW⟩⟩ rfl rfl hl.1 rfl (lv_room (Nat.le_of_ble_eq_true rfl)) dX1_shortOf_7 ⟨Nat.le_of_ble_eq_true rfl, Nat.le_of_ble_eq_true rfl⟩) hS (fun q _ h => (freeX hS) q h) (freeX hS) (fun r1638 u t H1 locs ht hvm hw hB hz1 hk1 hS => ?_)
  unfold BX at hB
  rw [ht] at hB
  have hP : va_P (dC, dI) classes (wX g c v F rc) H1 := hB
  generalize H1 = H at hP hS ⊢
  have rr_r1638 := i32_rng r1638
  refine lv_istore (lv' := [(4, .int r1638), (0, .ref (g 11)), (1, .int p0), (2, .int p1), (3, .int p2)]) hx hb dX1_shortOf_10 hl (by decide) rfl (fun ls hl => ?_)
  refine lv_aload_n hx hb dX1_shortOf_12 rfl (lv_at hl 1 rfl) ?_
  refine va_get (D := (dC, dI)) (ci := 1) (v := .ref (g 9)) (C := RX1) (T := TX1) (N := 13) hx hb hwd inA_X1 hown hK hP 11 rfl rfl 5 (by decide) (hwd _ wk_177) (fun _ h9 => h9) rfl dX1_shortOf_13 ?_
  refine lv_iload_n hx hb dX1_shortOf_16 rfl (lv_at hl 2 rfl) ?_
  refine lv_iload_n hx hb dX1_shortOf_17 rfl (lv_at hl 3 rfl) ?_
  refine lv_iconst (v := 2) hx hb dX1_shortOf_18 (by decide) ?_
  refine va_calli (va_runV (As := [.int p0, .int p1, .int 2]) (rest := []) ⟨hx, hb, hml, hown, hwd⟩ (c_X0_numberOf l dC dI g c adK adV v F rc H.size p0 p1 2 hg hI (by omega) (by omega) (by have : (2 : Int32).toInt = 2 := (by decide); omega)) (cwV 3 hwd (gV wk_1183 wk_1180 wk_1181 wk_1182 wk_46) rfl rfl rfl (by decide +kernel) ⟨Nat.le_of_ble_eq_true rfl, Nat.le_of_ble_eq_true rfl⟩) ⟨PX.blind, va_recv hK hP (ci := 0) (q0 := 9) rfl rfl, fun U hU hW => ⟨rfl, PX.at hK hE hP hS hU hW⟩⟩ rfl rfl hl.1 rfl (lv_room (Nat.le_of_ble_eq_true rfl)) dX1_shortOf_19 ⟨Nat.le_of_ble_eq_true rfl, Nat.le_of_ble_eq_true rfl⟩) hS (fun q _ h => (freeX hS) q h) (freeX hS) (fun r1639 u t H1 locs ht hvm hw hB hz1 hk1 hS => ?_)
  unfold BX at hB
  rw [ht] at hB
  have hP : va_P (dC, dI) classes (wX g c v F rc) H1 := hB
  generalize H1 = H at hP hS ⊢
  have rr_r1639 := i32_rng r1639
  refine lv_istore (lv' := [(5, .int r1639), (4, .int r1638), (0, .ref (g 11)), (1, .int p0), (2, .int p1), (3, .int p2)]) hx hb dX1_shortOf_22 hl (by decide) rfl (fun ls hl => ?_)
  refine lv_aload_n hx hb dX1_shortOf_24 rfl (lv_at hl 2 rfl) ?_
  refine va_get (D := (dC, dI)) (ci := 1) (v := .ref (g 1)) (C := RX1) (T := TX1) (N := 13) hx hb hwd inA_X1 hown hK hP 11 rfl rfl 2 (by decide) (hwd _ wk_173) (fun _ h9 => h9) rfl dX1_shortOf_25 ?_
  refine lv_iload hx hb dX1_shortOf_28 (lv_at hl 1 rfl) ?_
  refine va_calli (va_runV (As := [.int r1638]) (rest := []) ⟨hx, hb, hml, hown, hwd⟩ (c_X2_has l dC dI g c adK adV v F rc H.size r1638 hg hI ) (cwV 1 hwd (gV wk_280 wk_1184 wk_278 wk_279 wk_14) rfl rfl rfl (by decide +kernel) ⟨Nat.le_of_ble_eq_true rfl, Nat.le_of_ble_eq_true rfl⟩) ⟨PX.blind, va_recv hK hP (ci := 2) (q0 := 1) rfl rfl, fun U hU hW => ⟨rfl, PX.at hK hE hP hS hU hW⟩⟩ rfl rfl hl.1 rfl (lv_room (Nat.le_of_ble_eq_true rfl)) dX1_shortOf_30 ⟨Nat.le_of_ble_eq_true rfl, Nat.le_of_ble_eq_true rfl⟩) hS (fun q _ h => (freeX hS) q h) (freeX hS) (fun r1640 u t H1 locs ht hvm hw hB hz1 hk1 hS => ?_)
  unfold BX at hB
  rw [ht] at hB
  have hP : va_P (dC, dI) classes (wX g c v F rc) H1 := hB
  have hw : (0 ≤ r1640.toInt ∧ r1640.toInt ≤ 1) ∧ (r1640.toInt = 1 → 0 ≤ r1638.toInt ∧ r1638.toInt < 10) := hw
  generalize H1 = H at hP hS ⊢
  have hw_r1640 := hw
  refine lv_if_eq (tgt := 49) hx hb dX1_shortOf_33 (by decide) (fun c1641 => ?_) (fun c1641 => ?_)
  · skip
    have t1642 := cv_eq (a := r1640.toInt) rfl (b := 0) (by decide) c1641
    refine lv_iconst (v := 0) hx hb dX1_shortOf_49 (by decide) ?_
    have hP9 : va_P (dC, dI) classes (wX g c v F rc) H := hP
    exact W.iret (v := 0) hx hb hr (fun t ht hW => ⟨⟨0, (), rfl, trivial, (by show va_P _ _ _ t.heap; rw [ht]; exact hP9)⟩, hS.F ht⟩) hS.2.2 dX1_shortOf_50
  · skip
    have t1643 := cv_ne (a := r1640.toInt) rfl (b := 0) (by decide) c1641
    refine lv_aload_n hx hb dX1_shortOf_36 rfl (lv_at hl 2 rfl) ?_
    refine va_get (D := (dC, dI)) (ci := 1) (v := .ref (g 1)) (C := RX1) (T := TX1) (N := 13) hx hb hwd inA_X1 hown hK hP 11 rfl rfl 2 (by decide) (hwd _ wk_173) (fun _ h9 => h9) rfl dX1_shortOf_37 ?_
    refine lv_iload hx hb dX1_shortOf_40 (lv_at hl 1 rfl) ?_
    refine lv_iload_n hx hb dX1_shortOf_42 rfl (lv_at hl 5 rfl) ?_
    refine va_calli (va_runV (As := [.int r1638, .int p2]) (rest := []) ⟨hx, hb, hml, hown, hwd⟩ (c_X2_limitOf l dC dI g c adK adV v F rc H.size r1638 p2 hg hI (by omega) (by omega)) (cwV 2 hwd (gV wk_365 wk_1185 wk_363 wk_364 wk_14) rfl rfl rfl (by decide +kernel) ⟨Nat.le_of_ble_eq_true rfl, Nat.le_of_ble_eq_true rfl⟩) ⟨PX.blind, va_recv hK hP (ci := 2) (q0 := 1) rfl rfl, fun U hU hW => ⟨rfl, PX.at hK hE hP hS hU hW⟩⟩ rfl rfl hl.1 rfl (lv_room (Nat.le_of_ble_eq_true rfl)) dX1_shortOf_43 ⟨Nat.le_of_ble_eq_true rfl, Nat.le_of_ble_eq_true rfl⟩) hS (fun q _ h => (freeX hS) q h) (freeX hS) (fun r1644 u t H1 locs ht hvm hw hB hz1 hk1 hS => ?_)
    unfold BX at hB
    rw [ht] at hB
    have hP : va_P (dC, dI) classes (wX g c v F rc) H1 := hB
    generalize H1 = H at hP hS ⊢
    have rr_r1644 := i32_rng r1644
    refine lv_if_ne (tgt := 51) hx hb dX1_shortOf_46 (by decide) (fun c1645 => ?_) (fun c1645 => ?_)
    · skip
      have t1646 := cv_ne (a := r1644.toInt) rfl (b := 0) (by decide) c1645
      refine lv_iconst (v := 0) hx hb dX1_shortOf_51 (by decide) ?_
      refine lv_istore (lv' := [(6, .int 0), (5, .int r1639), (4, .int r1638), (0, .ref (g 11)), (1, .int p0), (2, .int p1), (3, .int p2)]) hx hb dX1_shortOf_52 hl (by decide) rfl (fun ls hl => ?_)
      refine lv_iconst (v := 0) hx hb dX1_shortOf_54 (by decide) ?_
      refine lv_istore (lv' := [(7, .int 0), (6, .int 0), (5, .int r1639), (4, .int r1638), (0, .ref (g 11)), (1, .int p0), (2, .int p1), (3, .int p2)]) hx hb dX1_shortOf_55 hl (by decide) rfl (fun ls hl => ?_)
      have lp1647 : ∀ (n : Nat) (x7_lp1647 : Int32) (x6_lp1647 : Int32) (H : Heap) (locs : List Loc) (ls : Array Slot), (0 ≤ x7_lp1647.toInt) → (2147483648 - x7_lp1647.toInt ≤ (n : Int)) → va_P (dC, dI) classes (wX g c v F rc) H → va_S (AX g s.heap.size) s.heap H locs → lv_has ls 8 [(7, .int x7_lp1647), (6, .int x6_lp1647), (5, .int r1639), (4, .int r1638), (0, .ref (g 11)), (1, .int p0), (2, .int p1), (3, .int p2)] → W p l e (headSpec (Cond.code yX1_shortOf cX1_shortOf 8 (some .int) :: wA) ({ frames := 2, cells := 0, slots := 0, locals := 80 })).room s m ([.ref (g 11), .int p0, .int p1, .int p2] : List Value).toArray below meth c0 H locs 0 0 (MQ below (va_Qi (fun (r : Int32) (u : Unit) => True) (fun (_ : Unit) => BX dC dI g c (v, F, rc)) (AX g s.heap.size)) ([.ref (g 11), .int p0, .int p1, .int p2] : List Value).toArray s 0 0 (AX g s.heap.size)) (F0 m 57 ls []) := by
        intro n
        induction n with
        | zero =>
          intro x7_lp1647 x6_lp1647 H locs ls t1648 hm hP hS hl
          exfalso
          have := i32_rng x7_lp1647
          have := i32_rng x6_lp1647
          omega
        | succ n ih_lp1647 =>
          intro x7_lp1647 x6_lp1647 H locs ls t1648 hm hP hS hl
          have rx7_lp1647 := i32_rng x7_lp1647
          have rx6_lp1647 := i32_rng x6_lp1647
          refine lv_iload hx hb dX1_shortOf_57 (lv_at hl 0 rfl) ?_
          refine lv_aload_n hx hb dX1_shortOf_59 rfl (lv_at hl 4 rfl) ?_
          refine va_get (D := (dC, dI)) (ci := 1) (v := .int (v 229)) (C := RX1) (T := TX1) (N := 13) hx hb hwd inA_X1 hown hK hP 11 rfl rfl 9 (by decide) (hwd _ wk_1151) (fun _ h9 => h9) rfl dX1_shortOf_60 ?_
          have t1649 : 0 ≤ (v 229).toInt ∧ (v 229).toInt ≤ 100 := hI.1 229 _ _ rfl
          refine lv_icmp_ge (tgt := 120) hx hb dX1_shortOf_63 (by decide) (fun c1650 => ?_) (fun c1650 => ?_)
          · skip
            have t1651 := cv_le (a := (v 229).toInt) rfl (b := x7_lp1647.toInt) rfl c1650
            refine lv_iload hx hb dX1_shortOf_120 (lv_at hl 1 rfl) ?_
            have hP9 : va_P (dC, dI) classes (wX g c v F rc) H := hP
            exact W.iret (v := x6_lp1647) hx hb hr (fun t ht hW => ⟨⟨x6_lp1647, (), rfl, trivial, (by show va_P _ _ _ t.heap; rw [ht]; exact hP9)⟩, hS.F ht⟩) hS.2.2 dX1_shortOf_122
          · skip
            have t1652 := cv_nle (a := (v 229).toInt) rfl (b := x7_lp1647.toInt) rfl c1650
            refine lv_aload_n hx hb dX1_shortOf_66 rfl (lv_at hl 4 rfl) ?_
            refine va_get (D := (dC, dI)) (ci := 1) (v := .ref (g 3)) (C := RX1) (T := TX1) (N := 13) hx hb hwd inA_X1 hown hK hP 11 rfl rfl 3 (by decide) (hwd _ wk_175) (fun _ h9 => h9) rfl dX1_shortOf_67 ?_
            refine va_get (D := (dC, dI)) (ci := 7) (v := .ref (g 24)) (C := RX7) (T := TX7) (N := 7) hx hb hwd inA_X7 hown hK hP 3 rfl rfl 2 (by decide) (hwd _ wk_1152) (fun _ h9 => h9) rfl dX1_shortOf_70 ?_
            refine lv_aload_n hx hb dX1_shortOf_73 rfl (lv_at hl 4 rfl) ?_
            refine va_get (D := (dC, dI)) (ci := 1) (v := .ref (g 77)) (C := RX1) (T := TX1) (N := 13) hx hb hwd inA_X1 hown hK hP 11 rfl rfl 8 (by decide) (hwd _ wk_168) (fun _ h9 => h9) rfl dX1_shortOf_74 ?_
            refine lv_iload hx hb dX1_shortOf_77 (lv_at hl 0 rfl) ?_
            refine va_iald hx hb hK hP 77 65 rfl rfl (i := x7_lp1647) (vin (a := x7_lp1647.toInt) rfl (by omega)) dX1_shortOf_79 ?_
            refine lv_topi (fun z1653 e1654 => ?_)
            have t1655 : 0 ≤ z1653.toInt ∧ z1653.toInt ≤ 99 := by rw [e1654]; exact hI.2 77 _ _ rfl _
            refine va_iald hx hb hK hP 24 12 rfl rfl (i := z1653) (vin (a := z1653.toInt) rfl (by omega)) dX1_shortOf_80 ?_
            refine lv_topi (fun z1656 e1657 => ?_)
            have t1658 : 0 ≤ z1656.toInt ∧ z1656.toInt ≤ 9 := by rw [e1657]; exact hI.2 24 _ _ rfl _
            refine lv_iload hx hb dX1_shortOf_81 (lv_at hl 3 rfl) ?_
            refine lv_icmp_ne (tgt := 114) hx hb dX1_shortOf_83 (by decide) (fun c1659 => ?_) (fun c1659 => ?_)
            · skip
              have t1660 := cv_ne (a := z1656.toInt) rfl (b := r1638.toInt) rfl c1659
              obtain ⟨z1661, e1662⟩ : ∃ y : Int32, y = x7_lp1647 + 1 := ⟨_, rfl⟩
              try (have t1663 := tadd e1662 rfl (b := 1) (by decide) (by omega))
              refine lv_iinc (v := z1661) (lv' := [(7, .int z1661), (6, .int x6_lp1647), (5, .int r1639), (4, .int r1638), (0, .ref (g 11)), (1, .int p0), (2, .int p1), (3, .int p2)]) hx hb dX1_shortOf_114 hl (k := 0) rfl (by rw [e1662]; rfl) (by decide) rfl (fun ls hl => ?_)
              refine lv_goto (tgt := 57) hx hb dX1_shortOf_117 (by decide) ?_
              exact ih_lp1647 z1661 x6_lp1647  _ _ _ (by omega) (by omega) hP hS (lv_sub hl [0, 1, 2, 3, 4, 5, 6, 7] rfl)
            · skip
              have t1664 := cv_eq (a := z1656.toInt) rfl (b := r1638.toInt) rfl c1659
              refine lv_iload hx hb dX1_shortOf_86 (lv_at hl 1 rfl) ?_
              refine lv_iconst (v := 0) hx hb dX1_shortOf_88 (by decide) ?_
              refine lv_iload hx hb dX1_shortOf_89 (lv_at hl 2 rfl) ?_
              refine lv_aload_n hx hb dX1_shortOf_91 rfl (lv_at hl 4 rfl) ?_
              refine va_get (D := (dC, dI)) (ci := 1) (v := .ref (g 75)) (C := RX1) (T := TX1) (N := 13) hx hb hwd inA_X1 hown hK hP 11 rfl rfl 6 (by decide) (hwd _ wk_166) (fun _ h9 => h9) rfl dX1_shortOf_92 ?_
              refine lv_aload_n hx hb dX1_shortOf_95 rfl (lv_at hl 4 rfl) ?_
              refine va_get (D := (dC, dI)) (ci := 1) (v := .ref (g 77)) (C := RX1) (T := TX1) (N := 13) hx hb hwd inA_X1 hown hK hP 11 rfl rfl 8 (by decide) (hwd _ wk_168) (fun _ h9 => h9) rfl dX1_shortOf_96 ?_
              refine lv_iload hx hb dX1_shortOf_99 (lv_at hl 0 rfl) ?_
              refine va_iald hx hb hK hP 77 65 rfl rfl (i := x7_lp1647) (vin (a := x7_lp1647.toInt) rfl (by omega)) dX1_shortOf_101 ?_
              refine lv_topi (fun z1665 e1666 => ?_)
              have t1667 : 0 ≤ z1665.toInt ∧ z1665.toInt ≤ 99 := by rw [e1666]; exact hI.2 77 _ _ rfl _
              refine lv_iconst (v := 3) hx hb dX1_shortOf_102 (by decide) ?_
              refine lv_imul hx hb dX1_shortOf_103 ?_
              refine lv_topi (fun z1668 e1669 => ?_)
              try (have t1670 := tmul e1669 (a := z1665.toInt) rfl (b := 3) (by decide) (by omega))
              refine lv_iload_n hx hb dX1_shortOf_104 rfl (lv_at hl 7 rfl) ?_
              refine lv_iadd hx hb dX1_shortOf_105 ?_
              refine lv_topi (fun z1671 e1672 => ?_)
              try (have t1673 := tadd e1672 (a := z1668.toInt) rfl (b := p2.toInt) rfl (by omega))
              refine va_iald hx hb hK hP 75 63 rfl rfl (i := z1671) (vin (a := z1671.toInt) rfl (by omega)) dX1_shortOf_106 ?_
              refine lv_topi (fun z1674 e1675 => ?_)
              refine lv_isub hx hb dX1_shortOf_107 ?_
              refine lv_topi (fun z1676 e1677 => ?_)
              try (have t1678 := tsub e1677 (a := r1639.toInt) rfl (b := z1674.toInt) rfl (by omega))
              refine va_mmax hx hb (by rw [hml]; exact hl.1.symm) hown (hwd _ wk_1171) (hwd _ wk_395) (hwd _ wk_392) (hwd _ wk_396) (Nat.le_of_ble_eq_true rfl) (Nat.le_of_ble_eq_true rfl) (Nat.le_of_ble_eq_true rfl) (Nat.le_of_ble_eq_true rfl) dX1_shortOf_108 ?_
              refine lv_topi (fun z1679 e1680 => ?_)
              have t1681 := tmax e1680 (a := 0) (by decide) (b := z1676.toInt) rfl
              refine lv_iadd hx hb dX1_shortOf_111 ?_
              refine lv_topi (fun z1682 e1683 => ?_)
              try (have t1684 := tadd e1683 (a := x6_lp1647.toInt) rfl (b := z1679.toInt) rfl (by omega))
              refine lv_istore (lv' := [(6, .int z1682), (7, .int x7_lp1647), (5, .int r1639), (4, .int r1638), (0, .ref (g 11)), (1, .int p0), (2, .int p1), (3, .int p2)]) hx hb dX1_shortOf_112 hl (by decide) rfl (fun ls hl => ?_)
              obtain ⟨z1685, e1686⟩ : ∃ y : Int32, y = x7_lp1647 + 1 := ⟨_, rfl⟩
              try (have t1687 := tadd e1686 rfl (b := 1) (by decide) (by omega))
              refine lv_iinc (v := z1685) (lv' := [(7, .int z1685), (6, .int z1682), (5, .int r1639), (4, .int r1638), (0, .ref (g 11)), (1, .int p0), (2, .int p1), (3, .int p2)]) hx hb dX1_shortOf_114 hl (k := 1) rfl (by rw [e1686]; rfl) (by decide) rfl (fun ls hl => ?_)
              refine lv_goto (tgt := 57) hx hb dX1_shortOf_117 (by decide) ?_
              exact ih_lp1647 z1685 z1682  _ _ _ (by omega) (by omega) hP hS (lv_sub hl [0, 1, 2, 3, 4, 5, 6, 7] rfl)
      obtain ⟨n9, hn9⟩ : ∃ n : Nat, 2147483648 - 0 ≤ (n : Int) := ⟨((2147483648 - 0 : Int)).toNat, by omega⟩
      exact lp1647 n9 0 0  H _ ls (by have : (0 : Int32).toInt = 0 := (by decide); have : (0 : Int32).toInt = 0 := (by decide); omega) (by have : (0 : Int32).toInt = 0 := (by decide); have : (0 : Int32).toInt = 0 := (by decide); omega) hP hS hl
    · skip
      have t1688 := cv_eq (a := r1644.toInt) rfl (b := 0) (by decide) c1645
      refine lv_iconst (v := 0) hx hb dX1_shortOf_49 (by decide) ?_
      have hP9 : va_P (dC, dI) classes (wX g c v F rc) H := hP
      exact W.iret (v := 0) hx hb hr (fun t ht hW => ⟨⟨0, (), rfl, trivial, (by show va_P _ _ _ t.heap; rw [ht]; exact hP9)⟩, hS.F ht⟩) hS.2.2 dX1_shortOf_50
set_option maxHeartbeats 8000000 in
set_option maxRecDepth 100000 in
theorem c_X1_gapsOfAll (l : Launch) (dC : Nat → ClassId) (dI : Nat → Nat → Nat) (g : Nat → Nat) (c : Nat → ClassId) (adK adV : Nat → Nat) (v : Nat → Int32) (F : Nat → Nat → Int32) (rc sz : Nat) (hg : injX g) (hI : IX v F) : Met l yX1_gapsOfAll (Cond.code yX1_gapsOfAll cX1_gapsOfAll 3 (some .int) :: wA) ({ frames := 1, cells := 0, slots := 0, locals := 40 }) (va_Pc [.ref (g 11)] (PX dC dI g c adK adV v F rc sz)) (va_Qi (fun (r : Int32) (u : Unit) => True) (fun (_ : Unit) => BX dC dI g c (v, F, rc)) (AX g sz)) 0 0 (AX g sz) := by
  refine Met.ofW (cc := cX1_gapsOfAll) (maxL := 3) (ret := (some .int)) (by decide) rfl ?_
  intro p e s m args below meth c0 s₁ B hml hv
  obtain ⟨rfl, hsz, hP, hK, hE⟩ := hv
  have hx := B.exec
  have hb := B.bytes
  have hr := B.returns
  have hts := atoms_spec (ws := Cond.code yX1_gapsOfAll cX1_gapsOfAll 3 (some .int) :: wA) B.pre
  have hwd : ∀ w ∈ wA, w.before _ s = true := fun w h => hts w (List.mem_cons_of_mem _ h)
  have hown : s.vm.findClass RX1 = some m.cls := findClass_of_methodNamed B.named
  have hlocks := B.notSynchronized
  subst hsz
  have hl := lv_entry ([.ref (g 11)]) (n := 3) (Nat.le_of_ble_eq_true rfl)
  rw [lg_entry_eq]
  generalize (lg_sl ([.ref (g 11)]) ++ List.replicate (3 - (lg_sl ([.ref (g 11)])).length) Slot.unset).toArray = ls at hl ⊢
  have hl : lv_has ls 3 [(0, .ref (g 11))] := hl
  obtain ⟨H, eH⟩ : ∃ z, z = s.heap := ⟨_, rfl⟩
  have hP : va_P (dC, dI) classes (wX g c v F rc) H := by rw [eH]; exact hP
  have hS : va_S (AX g s.heap.size) s.heap H [] := by rw [eH]; exact va_S.rf
  refine my_heap eH ?_
  refine lv_iconst (v := 0) hx hb dX1_gapsOfAll_0 (by decide) ?_
  refine lv_istore_n (lv' := [(1, .int 0), (0, .ref (g 11))]) hx hb dX1_gapsOfAll_1 rfl hl (by decide) rfl (fun ls hl => ?_)
  refine lv_iconst (v := 0) hx hb dX1_gapsOfAll_2 (by decide) ?_
  refine lv_istore_n (lv' := [(2, .int 0), (1, .int 0), (0, .ref (g 11))]) hx hb dX1_gapsOfAll_3 rfl hl (by decide) rfl (fun ls hl => ?_)
  have lp1689 : ∀ (n : Nat) (x2_lp1689 : Int32) (x1_lp1689 : Int32) (H : Heap) (locs : List Loc) (ls : Array Slot), (0 ≤ x2_lp1689.toInt) → (2147483648 - x2_lp1689.toInt ≤ (n : Int)) → va_P (dC, dI) classes (wX g c v F rc) H → va_S (AX g s.heap.size) s.heap H locs → lv_has ls 3 [(2, .int x2_lp1689), (1, .int x1_lp1689), (0, .ref (g 11))] → W p l e (headSpec (Cond.code yX1_gapsOfAll cX1_gapsOfAll 3 (some .int) :: wA) ({ frames := 1, cells := 0, slots := 0, locals := 40 })).room s m ([.ref (g 11)] : List Value).toArray below meth c0 H locs 0 0 (MQ below (va_Qi (fun (r : Int32) (u : Unit) => True) (fun (_ : Unit) => BX dC dI g c (v, F, rc)) (AX g s.heap.size)) ([.ref (g 11)] : List Value).toArray s 0 0 (AX g s.heap.size)) (F0 m 4 ls []) := by
    intro n
    induction n with
    | zero =>
      intro x2_lp1689 x1_lp1689 H locs ls t1690 hm hP hS hl
      exfalso
      have := i32_rng x2_lp1689
      have := i32_rng x1_lp1689
      omega
    | succ n ih_lp1689 =>
      intro x2_lp1689 x1_lp1689 H locs ls t1690 hm hP hS hl
      have rx2_lp1689 := i32_rng x2_lp1689
      have rx1_lp1689 := i32_rng x1_lp1689
      refine lv_iload_n hx hb dX1_gapsOfAll_4 rfl (lv_at hl 0 rfl) ?_
      refine lv_aload_n hx hb dX1_gapsOfAll_5 rfl (lv_at hl 2 rfl) ?_
      refine va_get (D := (dC, dI)) (ci := 1) (v := .int (v 229)) (C := RX1) (T := TX1) (N := 13) hx hb hwd inA_X1 hown hK hP 11 rfl rfl 9 (by decide) (hwd _ wk_1151) (fun _ h9 => h9) rfl dX1_gapsOfAll_6 ?_
      have t1691 : 0 ≤ (v 229).toInt ∧ (v 229).toInt ≤ 100 := hI.1 229 _ _ rfl
      refine lv_icmp_ge (tgt := 32) hx hb dX1_gapsOfAll_9 (by decide) (fun c1692 => ?_) (fun c1692 => ?_)
      · skip
        have t1693 := cv_le (a := (v 229).toInt) rfl (b := x2_lp1689.toInt) rfl c1692
        refine lv_iload_n hx hb dX1_gapsOfAll_32 rfl (lv_at hl 1 rfl) ?_
        have hP9 : va_P (dC, dI) classes (wX g c v F rc) H := hP
        exact W.iret (v := x1_lp1689) hx hb hr (fun t ht hW => ⟨⟨x1_lp1689, (), rfl, trivial, (by show va_P _ _ _ t.heap; rw [ht]; exact hP9)⟩, hS.F ht⟩) hS.2.2 dX1_gapsOfAll_33
      · skip
        have t1694 := cv_nle (a := (v 229).toInt) rfl (b := x2_lp1689.toInt) rfl c1692
        refine lv_iload_n hx hb dX1_gapsOfAll_12 rfl (lv_at hl 1 rfl) ?_
        refine lv_aload_n hx hb dX1_gapsOfAll_13 rfl (lv_at hl 2 rfl) ?_
        refine va_get (D := (dC, dI)) (ci := 1) (v := .ref (g 76)) (C := RX1) (T := TX1) (N := 13) hx hb hwd inA_X1 hown hK hP 11 rfl rfl 7 (by decide) (hwd _ wk_167) (fun _ h9 => h9) rfl dX1_gapsOfAll_14 ?_
        refine lv_aload_n hx hb dX1_gapsOfAll_17 rfl (lv_at hl 2 rfl) ?_
        refine va_get (D := (dC, dI)) (ci := 1) (v := .ref (g 77)) (C := RX1) (T := TX1) (N := 13) hx hb hwd inA_X1 hown hK hP 11 rfl rfl 8 (by decide) (hwd _ wk_168) (fun _ h9 => h9) rfl dX1_gapsOfAll_18 ?_
        refine lv_iload_n hx hb dX1_gapsOfAll_21 rfl (lv_at hl 0 rfl) ?_
        refine va_iald hx hb hK hP 77 65 rfl rfl (i := x2_lp1689) (vin (a := x2_lp1689.toInt) rfl (by omega)) dX1_gapsOfAll_22 ?_
        refine lv_topi (fun z1695 e1696 => ?_)
        have t1697 : 0 ≤ z1695.toInt ∧ z1695.toInt ≤ 99 := by rw [e1696]; exact hI.2 77 _ _ rfl _
        refine va_iald hx hb hK hP 76 64 rfl rfl (i := z1695) (vin (a := z1695.toInt) rfl (by omega)) dX1_gapsOfAll_23 ?_
        refine lv_topi (fun z1698 e1699 => ?_)
        refine lv_iadd hx hb dX1_gapsOfAll_24 ?_
        refine lv_topi (fun z1700 e1701 => ?_)
        try (have t1702 := tadd e1701 (a := x1_lp1689.toInt) rfl (b := z1698.toInt) rfl (by omega))
        refine lv_istore_n (lv' := [(1, .int z1700), (2, .int x2_lp1689), (0, .ref (g 11))]) hx hb dX1_gapsOfAll_25 rfl hl (by decide) rfl (fun ls hl => ?_)
        obtain ⟨z1703, e1704⟩ : ∃ y : Int32, y = x2_lp1689 + 1 := ⟨_, rfl⟩
        try (have t1705 := tadd e1704 rfl (b := 1) (by decide) (by omega))
        refine lv_iinc (v := z1703) (lv' := [(2, .int z1703), (1, .int z1700), (0, .ref (g 11))]) hx hb dX1_gapsOfAll_26 hl (k := 1) rfl (by rw [e1704]; rfl) (by decide) rfl (fun ls hl => ?_)
        refine lv_goto (tgt := 4) hx hb dX1_gapsOfAll_29 (by decide) ?_
        exact ih_lp1689 z1703 z1700  _ _ _ (by omega) (by omega) hP hS (lv_sub hl [0, 1, 2] rfl)
  obtain ⟨n9, hn9⟩ : ∃ n : Nat, 2147483648 - 0 ≤ (n : Int) := ⟨((2147483648 - 0 : Int)).toNat, by omega⟩
  exact lp1689 n9 0 0  H _ ls (by have : (0 : Int32).toInt = 0 := (by decide); have : (0 : Int32).toInt = 0 := (by decide); omega) (by have : (0 : Int32).toInt = 0 := (by decide); have : (0 : Int32).toInt = 0 := (by decide); omega) hP hS hl
set_option maxHeartbeats 8000000 in
set_option maxRecDepth 100000 in
theorem c_X1_unitsOf (l : Launch) (dC : Nat → ClassId) (dI : Nat → Nat → Nat) (g : Nat → Nat) (c : Nat → ClassId) (adK adV : Nat → Nat) (v : Nat → Int32) (F : Nat → Nat → Int32) (rc sz : Nat) (p0 : Int32) (p1 : Int32) (p2 : Int32) (hg : injX g) (hI : IX v F) (h0 : 0 ≤ p0.toInt ∧ p0.toInt ≤ 9) (h1 : 0 ≤ p1.toInt ∧ p1.toInt ≤ 29) : Met l yX1_unitsOf (Cond.code yX1_unitsOf cX1_unitsOf 4 (some .int) :: wA) ({ frames := 4, cells := 0, slots := 0, locals := 160 }) (va_Pc [.ref (g 11), .int p0, .int p1, .int p2] (PX dC dI g c adK adV v F rc sz)) (va_Qi (fun (r : Int32) (u : Unit) => True) (fun (_ : Unit) => BX dC dI g c (v, F, rc)) (AX g sz)) 0 0 (AX g sz) := by
  refine Met.ofW (cc := cX1_unitsOf) (maxL := 4) (ret := (some .int)) (by decide) rfl ?_
  intro p e s m args below meth c0 s₁ B hml hv
  obtain ⟨rfl, hsz, hP, hK, hE⟩ := hv
  have hx := B.exec
  have hb := B.bytes
  have hr := B.returns
  have hts := atoms_spec (ws := Cond.code yX1_unitsOf cX1_unitsOf 4 (some .int) :: wA) B.pre
  have hwd : ∀ w ∈ wA, w.before _ s = true := fun w h => hts w (List.mem_cons_of_mem _ h)
  have hown : s.vm.findClass RX1 = some m.cls := findClass_of_methodNamed B.named
  have hlocks := B.notSynchronized
  subst hsz
  have hl := lv_entry ([.ref (g 11), .int p0, .int p1, .int p2]) (n := 4) (Nat.le_of_ble_eq_true rfl)
  rw [lg_entry_eq]
  generalize (lg_sl ([.ref (g 11), .int p0, .int p1, .int p2]) ++ List.replicate (4 - (lg_sl ([.ref (g 11), .int p0, .int p1, .int p2])).length) Slot.unset).toArray = ls at hl ⊢
  have hl : lv_has ls 4 [(0, .ref (g 11)), (1, .int p0), (2, .int p1), (3, .int p2)] := hl
  obtain ⟨H, eH⟩ : ∃ z, z = s.heap := ⟨_, rfl⟩
  have hP : va_P (dC, dI) classes (wX g c v F rc) H := by rw [eH]; exact hP
  have hS : va_S (AX g s.heap.size) s.heap H [] := by rw [eH]; exact va_S.rf
  refine my_heap eH ?_
  have rp0 := i32_rng p0
  have rp1 := i32_rng p1
  have rp2 := i32_rng p2
  refine lv_aload_n hx hb dX1_unitsOf_0 rfl (lv_at hl 0 rfl) ?_
  refine va_get (D := (dC, dI)) (ci := 1) (v := .ref (g 9)) (C := RX1) (T := TX1) (N := 13) hx hb hwd inA_X1 hown hK hP 11 rfl rfl 5 (by decide) (hwd _ wk_177) (fun _ h9 => h9) rfl dX1_unitsOf_1 ?_
  refine lv_iload_n hx hb dX1_unitsOf_4 rfl (lv_at hl 1 rfl) ?_
  refine lv_iload_n hx hb dX1_unitsOf_5 rfl (lv_at hl 2 rfl) ?_
  refine va_calli (va_runV (As := [.int p0, .int p1]) (rest := []) ⟨hx, hb, hml, hown, hwd⟩ (c_X0_letterOf l dC dI g c adK adV v F rc H.size p0 p1 hg hI (by omega) (by omega)) (cwV 2 hwd (gV wk_1175 wk_1172 wk_1173 wk_1174 wk_46) rfl rfl rfl (by decide +kernel) ⟨Nat.le_of_ble_eq_true rfl, Nat.le_of_ble_eq_true rfl⟩) ⟨PX.blind, va_recv hK hP (ci := 0) (q0 := 9) rfl rfl, fun U hU hW => ⟨rfl, PX.at hK hE hP hS hU hW⟩⟩ rfl rfl hl.1 rfl (lv_room (Nat.le_of_ble_eq_true rfl)) dX1_unitsOf_6 ⟨Nat.le_of_ble_eq_true rfl, Nat.le_of_ble_eq_true rfl⟩) hS (fun q _ h => (freeX hS) q h) (freeX hS) (fun r1706 u t H1 locs ht hvm hw hB hz1 hk1 hS => ?_)
  unfold BX at hB
  rw [ht] at hB
  have hP : va_P (dC, dI) classes (wX g c v F rc) H1 := hB
  generalize H1 = H at hP hS ⊢
  have rr_r1706 := i32_rng r1706
  by_cases hlo1707 : r1706.toInt < 100
  · refine lv_tableOut (tgt := 124) hx hb dX1_unitsOf_9 (Or.inl hlo1707) (by decide) ?_
    refine lv_iconst (v := 0) hx hb dX1_unitsOf_124 (by decide) ?_
    refine lv_iload_n hx hb dX1_unitsOf_125 rfl (lv_at hl 3 rfl) ?_
    refine lv_aload_n hx hb dX1_unitsOf_126 rfl (lv_at hl 0 rfl) ?_
    refine va_get (D := (dC, dI)) (ci := 1) (v := .ref (g 9)) (C := RX1) (T := TX1) (N := 13) hx hb hwd inA_X1 hown hK hP 11 rfl rfl 5 (by decide) (hwd _ wk_177) (fun _ h9 => h9) rfl dX1_unitsOf_127 ?_
    refine va_get (D := (dC, dI)) (ci := 0) (v := .ref (g 59)) (C := RX0) (T := TX0) (N := 9) hx hb hwd inA_X0 hown hK hP 9 rfl rfl 2 (by decide) (hwd _ wk_1170) (fun _ h9 => h9) rfl dX1_unitsOf_130 ?_
    refine lv_iload_n hx hb dX1_unitsOf_133 rfl (lv_at hl 1 rfl) ?_
    refine va_iald hx hb hK hP 59 47 rfl rfl (i := p0) (vin (a := p0.toInt) rfl (by omega)) dX1_unitsOf_134 ?_
    refine lv_topi (fun z1709 e1710 => ?_)
    refine lv_isub hx hb dX1_unitsOf_135 ?_
    refine lv_topi (fun z1711 e1712 => ?_)
    try (have t1713 := tsub e1712 (a := p2.toInt) rfl (b := z1709.toInt) rfl (by omega))
    refine va_mmax hx hb (by rw [hml]; exact hl.1.symm) hown (hwd _ wk_1171) (hwd _ wk_395) (hwd _ wk_392) (hwd _ wk_396) (Nat.le_of_ble_eq_true rfl) (Nat.le_of_ble_eq_true rfl) (Nat.le_of_ble_eq_true rfl) (Nat.le_of_ble_eq_true rfl) dX1_unitsOf_136 ?_
    refine lv_topi (fun z1714 e1715 => ?_)
    have t1716 := tmax e1715 (a := 0) (by decide) (b := z1711.toInt) rfl
    have hP9 : va_P (dC, dI) classes (wX g c v F rc) H := hP
    exact W.iret (v := z1714) hx hb hr (fun t ht hW => ⟨⟨z1714, (), rfl, trivial, (by show va_P _ _ _ t.heap; rw [ht]; exact hP9)⟩, hS.F ht⟩) hS.2.2 dX1_unitsOf_139
  by_cases hhi1708 : 111 < r1706.toInt
  · refine lv_tableOut (tgt := 124) hx hb dX1_unitsOf_9 (Or.inr hhi1708) (by decide) ?_
    refine lv_iconst (v := 0) hx hb dX1_unitsOf_124 (by decide) ?_
    refine lv_iload_n hx hb dX1_unitsOf_125 rfl (lv_at hl 3 rfl) ?_
    refine lv_aload_n hx hb dX1_unitsOf_126 rfl (lv_at hl 0 rfl) ?_
    refine va_get (D := (dC, dI)) (ci := 1) (v := .ref (g 9)) (C := RX1) (T := TX1) (N := 13) hx hb hwd inA_X1 hown hK hP 11 rfl rfl 5 (by decide) (hwd _ wk_177) (fun _ h9 => h9) rfl dX1_unitsOf_127 ?_
    refine va_get (D := (dC, dI)) (ci := 0) (v := .ref (g 59)) (C := RX0) (T := TX0) (N := 9) hx hb hwd inA_X0 hown hK hP 9 rfl rfl 2 (by decide) (hwd _ wk_1170) (fun _ h9 => h9) rfl dX1_unitsOf_130 ?_
    refine lv_iload_n hx hb dX1_unitsOf_133 rfl (lv_at hl 1 rfl) ?_
    refine va_iald hx hb hK hP 59 47 rfl rfl (i := p0) (vin (a := p0.toInt) rfl (by omega)) dX1_unitsOf_134 ?_
    refine lv_topi (fun z1717 e1718 => ?_)
    refine lv_isub hx hb dX1_unitsOf_135 ?_
    refine lv_topi (fun z1719 e1720 => ?_)
    try (have t1721 := tsub e1720 (a := p2.toInt) rfl (b := z1717.toInt) rfl (by omega))
    refine va_mmax hx hb (by rw [hml]; exact hl.1.symm) hown (hwd _ wk_1171) (hwd _ wk_395) (hwd _ wk_392) (hwd _ wk_396) (Nat.le_of_ble_eq_true rfl) (Nat.le_of_ble_eq_true rfl) (Nat.le_of_ble_eq_true rfl) (Nat.le_of_ble_eq_true rfl) dX1_unitsOf_136 ?_
    refine lv_topi (fun z1722 e1723 => ?_)
    have t1724 := tmax e1723 (a := 0) (by decide) (b := z1719.toInt) rfl
    have hP9 : va_P (dC, dI) classes (wX g c v F rc) H := hP
    exact W.iret (v := z1722) hx hb hr (fun t ht hW => ⟨⟨z1722, (), rfl, trivial, (by show va_P _ _ _ t.heap; rw [ht]; exact hP9)⟩, hS.F ht⟩) hS.2.2 dX1_unitsOf_139
  rcases (show r1706.toInt = 100 ∨ r1706.toInt = 101 ∨ r1706.toInt = 102 ∨ r1706.toInt = 103 ∨ r1706.toInt = 104 ∨ r1706.toInt = 105 ∨ r1706.toInt = 106 ∨ r1706.toInt = 107 ∨ r1706.toInt = 108 ∨ r1706.toInt = 109 ∨ r1706.toInt = 110 ∨ r1706.toInt = 111 by omega) with hk | hk | hk | hk | hk | hk | hk | hk | hk | hk | hk | hk
  · refine lv_tableIn (off := 79) (tgt := 88) hx hb dX1_unitsOf_9 hlo1707 hhi1708 (by rw [hk]; decide) (by decide) ?_
    refine lv_aload_n hx hb dX1_unitsOf_88 rfl (lv_at hl 0 rfl) ?_
    refine lv_iload_n hx hb dX1_unitsOf_89 rfl (lv_at hl 1 rfl) ?_
    refine lv_iload_n hx hb dX1_unitsOf_90 rfl (lv_at hl 2 rfl) ?_
    refine lv_iconst (v := 2) hx hb dX1_unitsOf_91 (by decide) ?_
    refine va_calli (va_runV (As := [.int p0, .int p1, .int 2]) (rest := []) ⟨hx, hb, hml, hown, hwd⟩ (c_X1_shortOf l dC dI g c adK adV v F rc H.size p0 p1 2 hg hI (by omega) (by omega) (by have : (2 : Int32).toInt = 2 := (by decide); omega)) (cwV 3 hwd (gV wk_1179 wk_1176 wk_1177 wk_1178 wk_54) rfl rfl rfl (by decide +kernel) ⟨Nat.le_of_ble_eq_true rfl, Nat.le_of_ble_eq_true rfl⟩) ⟨PX.blind, va_recv hK hP (ci := 1) (q0 := 11) rfl rfl, fun U hU hW => ⟨rfl, PX.at hK hE hP hS hU hW⟩⟩ rfl rfl hl.1 rfl (lv_room (Nat.le_of_ble_eq_true rfl)) dX1_unitsOf_92 ⟨Nat.le_of_ble_eq_true rfl, Nat.le_of_ble_eq_true rfl⟩) hS (fun q _ h => (freeX hS) q h) (freeX hS) (fun r1725 u t H1 locs ht hvm hw hB hz1 hk1 hS => ?_)
    unfold BX at hB
    rw [ht] at hB
    have hP : va_P (dC, dI) classes (wX g c v F rc) H1 := hB
    generalize H1 = H at hP hS ⊢
    have rr_r1725 := i32_rng r1725
    have hP9 : va_P (dC, dI) classes (wX g c v F rc) H := hP
    exact W.iret (v := r1725) hx hb hr (fun t ht hW => ⟨⟨r1725, (), rfl, trivial, (by show va_P _ _ _ t.heap; rw [ht]; exact hP9)⟩, hS.F ht⟩) hS.2.2 dX1_unitsOf_95
  · refine lv_tableIn (off := 115) (tgt := 124) hx hb dX1_unitsOf_9 hlo1707 hhi1708 (by rw [hk]; decide) (by decide) ?_
    refine lv_iconst (v := 0) hx hb dX1_unitsOf_124 (by decide) ?_
    refine lv_iload_n hx hb dX1_unitsOf_125 rfl (lv_at hl 3 rfl) ?_
    refine lv_aload_n hx hb dX1_unitsOf_126 rfl (lv_at hl 0 rfl) ?_
    refine va_get (D := (dC, dI)) (ci := 1) (v := .ref (g 9)) (C := RX1) (T := TX1) (N := 13) hx hb hwd inA_X1 hown hK hP 11 rfl rfl 5 (by decide) (hwd _ wk_177) (fun _ h9 => h9) rfl dX1_unitsOf_127 ?_
    refine va_get (D := (dC, dI)) (ci := 0) (v := .ref (g 59)) (C := RX0) (T := TX0) (N := 9) hx hb hwd inA_X0 hown hK hP 9 rfl rfl 2 (by decide) (hwd _ wk_1170) (fun _ h9 => h9) rfl dX1_unitsOf_130 ?_
    refine lv_iload_n hx hb dX1_unitsOf_133 rfl (lv_at hl 1 rfl) ?_
    refine va_iald hx hb hK hP 59 47 rfl rfl (i := p0) (vin (a := p0.toInt) rfl (by omega)) dX1_unitsOf_134 ?_
    refine lv_topi (fun z1726 e1727 => ?_)
    refine lv_isub hx hb dX1_unitsOf_135 ?_
    refine lv_topi (fun z1728 e1729 => ?_)
    try (have t1730 := tsub e1729 (a := p2.toInt) rfl (b := z1726.toInt) rfl (by omega))
    refine va_mmax hx hb (by rw [hml]; exact hl.1.symm) hown (hwd _ wk_1171) (hwd _ wk_395) (hwd _ wk_392) (hwd _ wk_396) (Nat.le_of_ble_eq_true rfl) (Nat.le_of_ble_eq_true rfl) (Nat.le_of_ble_eq_true rfl) (Nat.le_of_ble_eq_true rfl) dX1_unitsOf_136 ?_
    refine lv_topi (fun z1731 e1732 => ?_)
    have t1733 := tmax e1732 (a := 0) (by decide) (b := z1728.toInt) rfl
    have hP9 : va_P (dC, dI) classes (wX g c v F rc) H := hP
    exact W.iret (v := z1731) hx hb hr (fun t ht hW => ⟨⟨z1731, (), rfl, trivial, (by show va_P _ _ _ t.heap; rw [ht]; exact hP9)⟩, hS.F ht⟩) hS.2.2 dX1_unitsOf_139
  · refine lv_tableIn (off := 115) (tgt := 124) hx hb dX1_unitsOf_9 hlo1707 hhi1708 (by rw [hk]; decide) (by decide) ?_
    refine lv_iconst (v := 0) hx hb dX1_unitsOf_124 (by decide) ?_
    refine lv_iload_n hx hb dX1_unitsOf_125 rfl (lv_at hl 3 rfl) ?_
    refine lv_aload_n hx hb dX1_unitsOf_126 rfl (lv_at hl 0 rfl) ?_
    refine va_get (D := (dC, dI)) (ci := 1) (v := .ref (g 9)) (C := RX1) (T := TX1) (N := 13) hx hb hwd inA_X1 hown hK hP 11 rfl rfl 5 (by decide) (hwd _ wk_177) (fun _ h9 => h9) rfl dX1_unitsOf_127 ?_
    refine va_get (D := (dC, dI)) (ci := 0) (v := .ref (g 59)) (C := RX0) (T := TX0) (N := 9) hx hb hwd inA_X0 hown hK hP 9 rfl rfl 2 (by decide) (hwd _ wk_1170) (fun _ h9 => h9) rfl dX1_unitsOf_130 ?_
    refine lv_iload_n hx hb dX1_unitsOf_133 rfl (lv_at hl 1 rfl) ?_
    refine va_iald hx hb hK hP 59 47 rfl rfl (i := p0) (vin (a := p0.toInt) rfl (by omega)) dX1_unitsOf_134 ?_
    refine lv_topi (fun z1734 e1735 => ?_)
    refine lv_isub hx hb dX1_unitsOf_135 ?_
    refine lv_topi (fun z1736 e1737 => ?_)
    try (have t1738 := tsub e1737 (a := p2.toInt) rfl (b := z1734.toInt) rfl (by omega))
    refine va_mmax hx hb (by rw [hml]; exact hl.1.symm) hown (hwd _ wk_1171) (hwd _ wk_395) (hwd _ wk_392) (hwd _ wk_396) (Nat.le_of_ble_eq_true rfl) (Nat.le_of_ble_eq_true rfl) (Nat.le_of_ble_eq_true rfl) (Nat.le_of_ble_eq_true rfl) dX1_unitsOf_136 ?_
    refine lv_topi (fun z1739 e1740 => ?_)
    have t1741 := tmax e1740 (a := 0) (by decide) (b := z1736.toInt) rfl
    have hP9 : va_P (dC, dI) classes (wX g c v F rc) H := hP
    exact W.iret (v := z1739) hx hb hr (fun t ht hW => ⟨⟨z1739, (), rfl, trivial, (by show va_P _ _ _ t.heap; rw [ht]; exact hP9)⟩, hS.F ht⟩) hS.2.2 dX1_unitsOf_139
  · refine lv_tableIn (off := 87) (tgt := 96) hx hb dX1_unitsOf_9 hlo1707 hhi1708 (by rw [hk]; decide) (by decide) ?_
    refine lv_aload_n hx hb dX1_unitsOf_96 rfl (lv_at hl 0 rfl) ?_
    refine va_calli (va_runV (As := []) (rest := []) ⟨hx, hb, hml, hown, hwd⟩ (c_X1_gapsOfAll l dC dI g c adK adV v F rc H.size  hg hI ) (cwV 0 hwd (gV wk_1189 wk_1186 wk_1187 wk_1188 wk_54) rfl rfl rfl (by decide +kernel) ⟨Nat.le_of_ble_eq_true rfl, Nat.le_of_ble_eq_true rfl⟩) ⟨PX.blind, va_recv hK hP (ci := 1) (q0 := 11) rfl rfl, fun U hU hW => ⟨rfl, PX.at hK hE hP hS hU hW⟩⟩ rfl rfl hl.1 rfl (lv_room (Nat.le_of_ble_eq_true rfl)) dX1_unitsOf_97 ⟨Nat.le_of_ble_eq_true rfl, Nat.le_of_ble_eq_true rfl⟩) hS (fun q _ h => (freeX hS) q h) (freeX hS) (fun r1742 u t H1 locs ht hvm hw hB hz1 hk1 hS => ?_)
    unfold BX at hB
    rw [ht] at hB
    have hP : va_P (dC, dI) classes (wX g c v F rc) H1 := hB
    generalize H1 = H at hP hS ⊢
    have rr_r1742 := i32_rng r1742
    have hP9 : va_P (dC, dI) classes (wX g c v F rc) H := hP
    exact W.iret (v := r1742) hx hb hr (fun t ht hW => ⟨⟨r1742, (), rfl, trivial, (by show va_P _ _ _ t.heap; rw [ht]; exact hP9)⟩, hS.F ht⟩) hS.2.2 dX1_unitsOf_100
  · refine lv_tableIn (off := 63) (tgt := 72) hx hb dX1_unitsOf_9 hlo1707 hhi1708 (by rw [hk]; decide) (by decide) ?_
    refine lv_aload_n hx hb dX1_unitsOf_72 rfl (lv_at hl 0 rfl) ?_
    refine lv_iload_n hx hb dX1_unitsOf_73 rfl (lv_at hl 1 rfl) ?_
    refine lv_iload_n hx hb dX1_unitsOf_74 rfl (lv_at hl 2 rfl) ?_
    refine lv_iconst (v := 0) hx hb dX1_unitsOf_75 (by decide) ?_
    refine va_calli (va_runV (As := [.int p0, .int p1, .int 0]) (rest := []) ⟨hx, hb, hml, hown, hwd⟩ (c_X1_shortOf l dC dI g c adK adV v F rc H.size p0 p1 0 hg hI (by omega) (by omega) (by have : (0 : Int32).toInt = 0 := (by decide); omega)) (cwV 3 hwd (gV wk_1179 wk_1176 wk_1177 wk_1178 wk_54) rfl rfl rfl (by decide +kernel) ⟨Nat.le_of_ble_eq_true rfl, Nat.le_of_ble_eq_true rfl⟩) ⟨PX.blind, va_recv hK hP (ci := 1) (q0 := 11) rfl rfl, fun U hU hW => ⟨rfl, PX.at hK hE hP hS hU hW⟩⟩ rfl rfl hl.1 rfl (lv_room (Nat.le_of_ble_eq_true rfl)) dX1_unitsOf_76 ⟨Nat.le_of_ble_eq_true rfl, Nat.le_of_ble_eq_true rfl⟩) hS (fun q _ h => (freeX hS) q h) (freeX hS) (fun r1743 u t H1 locs ht hvm hw hB hz1 hk1 hS => ?_)
    unfold BX at hB
    rw [ht] at hB
    have hP : va_P (dC, dI) classes (wX g c v F rc) H1 := hB
    generalize H1 = H at hP hS ⊢
    have rr_r1743 := i32_rng r1743
    have hP9 : va_P (dC, dI) classes (wX g c v F rc) H := hP
    exact W.iret (v := r1743) hx hb hr (fun t ht hW => ⟨⟨r1743, (), rfl, trivial, (by show va_P _ _ _ t.heap; rw [ht]; exact hP9)⟩, hS.F ht⟩) hS.2.2 dX1_unitsOf_79
  · refine lv_tableIn (off := 115) (tgt := 124) hx hb dX1_unitsOf_9 hlo1707 hhi1708 (by rw [hk]; decide) (by decide) ?_
    refine lv_iconst (v := 0) hx hb dX1_unitsOf_124 (by decide) ?_
    refine lv_iload_n hx hb dX1_unitsOf_125 rfl (lv_at hl 3 rfl) ?_
    refine lv_aload_n hx hb dX1_unitsOf_126 rfl (lv_at hl 0 rfl) ?_
    refine va_get (D := (dC, dI)) (ci := 1) (v := .ref (g 9)) (C := RX1) (T := TX1) (N := 13) hx hb hwd inA_X1 hown hK hP 11 rfl rfl 5 (by decide) (hwd _ wk_177) (fun _ h9 => h9) rfl dX1_unitsOf_127 ?_
    refine va_get (D := (dC, dI)) (ci := 0) (v := .ref (g 59)) (C := RX0) (T := TX0) (N := 9) hx hb hwd inA_X0 hown hK hP 9 rfl rfl 2 (by decide) (hwd _ wk_1170) (fun _ h9 => h9) rfl dX1_unitsOf_130 ?_
    refine lv_iload_n hx hb dX1_unitsOf_133 rfl (lv_at hl 1 rfl) ?_
    refine va_iald hx hb hK hP 59 47 rfl rfl (i := p0) (vin (a := p0.toInt) rfl (by omega)) dX1_unitsOf_134 ?_
    refine lv_topi (fun z1744 e1745 => ?_)
    refine lv_isub hx hb dX1_unitsOf_135 ?_
    refine lv_topi (fun z1746 e1747 => ?_)
    try (have t1748 := tsub e1747 (a := p2.toInt) rfl (b := z1744.toInt) rfl (by omega))
    refine va_mmax hx hb (by rw [hml]; exact hl.1.symm) hown (hwd _ wk_1171) (hwd _ wk_395) (hwd _ wk_392) (hwd _ wk_396) (Nat.le_of_ble_eq_true rfl) (Nat.le_of_ble_eq_true rfl) (Nat.le_of_ble_eq_true rfl) (Nat.le_of_ble_eq_true rfl) dX1_unitsOf_136 ?_
    refine lv_topi (fun z1749 e1750 => ?_)
    have t1751 := tmax e1750 (a := 0) (by decide) (b := z1746.toInt) rfl
    have hP9 : va_P (dC, dI) classes (wX g c v F rc) H := hP
    exact W.iret (v := z1749) hx hb hr (fun t ht hW => ⟨⟨z1749, (), rfl, trivial, (by show va_P _ _ _ t.heap; rw [ht]; exact hP9)⟩, hS.F ht⟩) hS.2.2 dX1_unitsOf_139
  · refine lv_tableIn (off := 115) (tgt := 124) hx hb dX1_unitsOf_9 hlo1707 hhi1708 (by rw [hk]; decide) (by decide) ?_
    refine lv_iconst (v := 0) hx hb dX1_unitsOf_124 (by decide) ?_
    refine lv_iload_n hx hb dX1_unitsOf_125 rfl (lv_at hl 3 rfl) ?_
    refine lv_aload_n hx hb dX1_unitsOf_126 rfl (lv_at hl 0 rfl) ?_
    refine va_get (D := (dC, dI)) (ci := 1) (v := .ref (g 9)) (C := RX1) (T := TX1) (N := 13) hx hb hwd inA_X1 hown hK hP 11 rfl rfl 5 (by decide) (hwd _ wk_177) (fun _ h9 => h9) rfl dX1_unitsOf_127 ?_
    refine va_get (D := (dC, dI)) (ci := 0) (v := .ref (g 59)) (C := RX0) (T := TX0) (N := 9) hx hb hwd inA_X0 hown hK hP 9 rfl rfl 2 (by decide) (hwd _ wk_1170) (fun _ h9 => h9) rfl dX1_unitsOf_130 ?_
    refine lv_iload_n hx hb dX1_unitsOf_133 rfl (lv_at hl 1 rfl) ?_
    refine va_iald hx hb hK hP 59 47 rfl rfl (i := p0) (vin (a := p0.toInt) rfl (by omega)) dX1_unitsOf_134 ?_
    refine lv_topi (fun z1752 e1753 => ?_)
    refine lv_isub hx hb dX1_unitsOf_135 ?_
    refine lv_topi (fun z1754 e1755 => ?_)
    try (have t1756 := tsub e1755 (a := p2.toInt) rfl (b := z1752.toInt) rfl (by omega))
    refine va_mmax hx hb (by rw [hml]; exact hl.1.symm) hown (hwd _ wk_1171) (hwd _ wk_395) (hwd _ wk_392) (hwd _ wk_396) (Nat.le_of_ble_eq_true rfl) (Nat.le_of_ble_eq_true rfl) (Nat.le_of_ble_eq_true rfl) (Nat.le_of_ble_eq_true rfl) dX1_unitsOf_136 ?_
    refine lv_topi (fun z1757 e1758 => ?_)
    have t1759 := tmax e1758 (a := 0) (by decide) (b := z1754.toInt) rfl
    have hP9 : va_P (dC, dI) classes (wX g c v F rc) H := hP
    exact W.iret (v := z1757) hx hb hr (fun t ht hW => ⟨⟨z1757, (), rfl, trivial, (by show va_P _ _ _ t.heap; rw [ht]; exact hP9)⟩, hS.F ht⟩) hS.2.2 dX1_unitsOf_139
  · refine lv_tableIn (off := 115) (tgt := 124) hx hb dX1_unitsOf_9 hlo1707 hhi1708 (by rw [hk]; decide) (by decide) ?_
    refine lv_iconst (v := 0) hx hb dX1_unitsOf_124 (by decide) ?_
    refine lv_iload_n hx hb dX1_unitsOf_125 rfl (lv_at hl 3 rfl) ?_
    refine lv_aload_n hx hb dX1_unitsOf_126 rfl (lv_at hl 0 rfl) ?_
    refine va_get (D := (dC, dI)) (ci := 1) (v := .ref (g 9)) (C := RX1) (T := TX1) (N := 13) hx hb hwd inA_X1 hown hK hP 11 rfl rfl 5 (by decide) (hwd _ wk_177) (fun _ h9 => h9) rfl dX1_unitsOf_127 ?_
    refine va_get (D := (dC, dI)) (ci := 0) (v := .ref (g 59)) (C := RX0) (T := TX0) (N := 9) hx hb hwd inA_X0 hown hK hP 9 rfl rfl 2 (by decide) (hwd _ wk_1170) (fun _ h9 => h9) rfl dX1_unitsOf_130 ?_
    refine lv_iload_n hx hb dX1_unitsOf_133 rfl (lv_at hl 1 rfl) ?_
    refine va_iald hx hb hK hP 59 47 rfl rfl (i := p0) (vin (a := p0.toInt) rfl (by omega)) dX1_unitsOf_134 ?_
    refine lv_topi (fun z1760 e1761 => ?_)
    refine lv_isub hx hb dX1_unitsOf_135 ?_
    refine lv_topi (fun z1762 e1763 => ?_)
    try (have t1764 := tsub e1763 (a := p2.toInt) rfl (b := z1760.toInt) rfl (by omega))
    refine va_mmax hx hb (by rw [hml]; exact hl.1.symm) hown (hwd _ wk_1171) (hwd _ wk_395) (hwd _ wk_392) (hwd _ wk_396) (Nat.le_of_ble_eq_true rfl) (Nat.le_of_ble_eq_true rfl) (Nat.le_of_ble_eq_true rfl) (Nat.le_of_ble_eq_true rfl) dX1_unitsOf_136 ?_
    refine lv_topi (fun z1765 e1766 => ?_)
    have t1767 := tmax e1766 (a := 0) (by decide) (b := z1762.toInt) rfl
    have hP9 : va_P (dC, dI) classes (wX g c v F rc) H := hP
    exact W.iret (v := z1765) hx hb hr (fun t ht hW => ⟨⟨z1765, (), rfl, trivial, (by show va_P _ _ _ t.heap; rw [ht]; exact hP9)⟩, hS.F ht⟩) hS.2.2 dX1_unitsOf_139
  · refine lv_tableIn (off := 71) (tgt := 80) hx hb dX1_unitsOf_9 hlo1707 hhi1708 (by rw [hk]; decide) (by decide) ?_
    refine lv_aload_n hx hb dX1_unitsOf_80 rfl (lv_at hl 0 rfl) ?_
    refine lv_iload_n hx hb dX1_unitsOf_81 rfl (lv_at hl 1 rfl) ?_
    refine lv_iload_n hx hb dX1_unitsOf_82 rfl (lv_at hl 2 rfl) ?_
    refine lv_iconst (v := 1) hx hb dX1_unitsOf_83 (by decide) ?_
    refine va_calli (va_runV (As := [.int p0, .int p1, .int 1]) (rest := []) ⟨hx, hb, hml, hown, hwd⟩ (c_X1_shortOf l dC dI g c adK adV v F rc H.size p0 p1 1 hg hI (by omega) (by omega) (by have : (1 : Int32).toInt = 1 := (by decide); omega)) (cwV 3 hwd (gV wk_1179 wk_1176 wk_1177 wk_1178 wk_54) rfl rfl rfl (by decide +kernel) ⟨Nat.le_of_ble_eq_true rfl, Nat.le_of_ble_eq_true rfl⟩) ⟨PX.blind, va_recv hK hP (ci := 1) (q0 := 11) rfl rfl, fun U hU hW => ⟨rfl, PX.at hK hE hP hS hU hW⟩⟩ rfl rfl hl.1 rfl (lv_room (Nat.le_of_ble_eq_true rfl)) dX1_unitsOf_84 ⟨Nat.le_of_ble_eq_true rfl, Nat.le_of_ble_eq_true rfl⟩) hS (fun q _ h => (freeX hS) q h) (freeX hS) (fun r1768 u t H1 locs ht hvm hw hB hz1 hk1 hS => ?_)
    unfold BX at hB
    rw [ht] at hB
    have hP : va_P (dC, dI) classes (wX g c v F rc) H1 := hB
    generalize H1 = H at hP hS ⊢
    have rr_r1768 := i32_rng r1768
    have hP9 : va_P (dC, dI) classes (wX g c v F rc) H := hP
    exact W.iret (v := r1768) hx hb hr (fun t ht hW => ⟨⟨r1768, (), rfl, trivial, (by show va_P _ _ _ t.heap; rw [ht]; exact hP9)⟩, hS.F ht⟩) hS.2.2 dX1_unitsOf_87
  · refine lv_tableIn (off := 101) (tgt := 110) hx hb dX1_unitsOf_9 hlo1707 hhi1708 (by rw [hk]; decide) (by decide) ?_
    refine lv_aload_n hx hb dX1_unitsOf_110 rfl (lv_at hl 0 rfl) ?_
    refine va_get (D := (dC, dI)) (ci := 1) (v := .ref (g 2)) (C := RX1) (T := TX1) (N := 13) hx hb hwd inA_X1 hown hK hP 11 rfl rfl 0 (by decide) (hwd _ wk_170) (fun _ h9 => h9) rfl dX1_unitsOf_111 ?_
    refine lv_iload_n hx hb dX1_unitsOf_114 rfl (lv_at hl 1 rfl) ?_
    refine va_calli (va_runV (As := [.int p0]) (rest := []) ⟨hx, hb, hml, hown, hwd⟩ (c_X8_needOfAll l dC dI g c adK adV v F rc H.size p0 hg hI (by omega)) (cwV 1 hwd (gV wk_350 wk_347 wk_348 wk_349 wk_18) rfl rfl rfl (by decide +kernel) ⟨Nat.le_of_ble_eq_true rfl, Nat.le_of_ble_eq_true rfl⟩) ⟨PX.blind, va_recv hK hP (ci := 8) (q0 := 2) rfl rfl, fun U hU hW => ⟨rfl, PX.at hK hE hP hS hU hW⟩⟩ rfl rfl hl.1 rfl (lv_room (Nat.le_of_ble_eq_true rfl)) dX1_unitsOf_115 ⟨Nat.le_of_ble_eq_true rfl, Nat.le_of_ble_eq_true rfl⟩) hS (fun q _ h => (freeX hS) q h) (freeX hS) (fun r1769 u t H1 locs ht hvm hw hB hz1 hk1 hS => ?_)
    unfold BX at hB
    rw [ht] at hB
    have hP : va_P (dC, dI) classes (wX g c v F rc) H1 := hB
    generalize H1 = H at hP hS ⊢
    have rr_r1769 := i32_rng r1769
    refine lv_aload_n hx hb dX1_unitsOf_118 rfl (lv_at hl 0 rfl) ?_
    refine va_get (D := (dC, dI)) (ci := 1) (v := .int (v 229)) (C := RX1) (T := TX1) (N := 13) hx hb hwd inA_X1 hown hK hP 11 rfl rfl 9 (by decide) (hwd _ wk_1151) (fun _ h9 => h9) rfl dX1_unitsOf_119 ?_
    have t1770 : 0 ≤ (v 229).toInt ∧ (v 229).toInt ≤ 100 := hI.1 229 _ _ rfl
    refine lv_isub hx hb dX1_unitsOf_122 ?_
    refine lv_topi (fun z1771 e1772 => ?_)
    try (have t1773 := tsub e1772 (a := r1769.toInt) rfl (b := (v 229).toInt) rfl (by omega))
    have hP9 : va_P (dC, dI) classes (wX g c v F rc) H := hP
    exact W.iret (v := z1771) hx hb hr (fun t ht hW => ⟨⟨z1771, (), rfl, trivial, (by show va_P _ _ _ t.heap; rw [ht]; exact hP9)⟩, hS.F ht⟩) hS.2.2 dX1_unitsOf_123
  · refine lv_tableIn (off := 115) (tgt := 124) hx hb dX1_unitsOf_9 hlo1707 hhi1708 (by rw [hk]; decide) (by decide) ?_
    refine lv_iconst (v := 0) hx hb dX1_unitsOf_124 (by decide) ?_
    refine lv_iload_n hx hb dX1_unitsOf_125 rfl (lv_at hl 3 rfl) ?_
    refine lv_aload_n hx hb dX1_unitsOf_126 rfl (lv_at hl 0 rfl) ?_
    refine va_get (D := (dC, dI)) (ci := 1) (v := .ref (g 9)) (C := RX1) (T := TX1) (N := 13) hx hb hwd inA_X1 hown hK hP 11 rfl rfl 5 (by decide) (hwd _ wk_177) (fun _ h9 => h9) rfl dX1_unitsOf_127 ?_
    refine va_get (D := (dC, dI)) (ci := 0) (v := .ref (g 59)) (C := RX0) (T := TX0) (N := 9) hx hb hwd inA_X0 hown hK hP 9 rfl rfl 2 (by decide) (hwd _ wk_1170) (fun _ h9 => h9) rfl dX1_unitsOf_130 ?_
    refine lv_iload_n hx hb dX1_unitsOf_133 rfl (lv_at hl 1 rfl) ?_
    refine va_iald hx hb hK hP 59 47 rfl rfl (i := p0) (vin (a := p0.toInt) rfl (by omega)) dX1_unitsOf_134 ?_
    refine lv_topi (fun z1774 e1775 => ?_)
    refine lv_isub hx hb dX1_unitsOf_135 ?_
    refine lv_topi (fun z1776 e1777 => ?_)
    try (have t1778 := tsub e1777 (a := p2.toInt) rfl (b := z1774.toInt) rfl (by omega))
    refine va_mmax hx hb (by rw [hml]; exact hl.1.symm) hown (hwd _ wk_1171) (hwd _ wk_395) (hwd _ wk_392) (hwd _ wk_396) (Nat.le_of_ble_eq_true rfl) (Nat.le_of_ble_eq_true rfl) (Nat.le_of_ble_eq_true rfl) (Nat.le_of_ble_eq_true rfl) dX1_unitsOf_136 ?_
    refine lv_topi (fun z1779 e1780 => ?_)
    have t1781 := tmax e1780 (a := 0) (by decide) (b := z1776.toInt) rfl
    have hP9 : va_P (dC, dI) classes (wX g c v F rc) H := hP
    exact W.iret (v := z1779) hx hb hr (fun t ht hW => ⟨⟨z1779, (), rfl, trivial, (by show va_P _ _ _ t.heap; rw [ht]; exact hP9)⟩, hS.F ht⟩) hS.2.2 dX1_unitsOf_139
  · refine lv_tableIn (off := 92) (tgt := 101) hx hb dX1_unitsOf_9 hlo1707 hhi1708 (by rw [hk]; decide) (by decide) ?_
    refine lv_aload_n hx hb dX1_unitsOf_101 rfl (lv_at hl 0 rfl) ?_
    refine va_get (D := (dC, dI)) (ci := 1) (v := .ref (g 8)) (C := RX1) (T := TX1) (N := 13) hx hb hwd inA_X1 hown hK hP 11 rfl rfl 4 (by decide) (hwd _ wk_176) (fun _ h9 => h9) rfl dX1_unitsOf_102 ?_
    refine lv_iload_n hx hb dX1_unitsOf_105 rfl (lv_at hl 1 rfl) ?_
    refine va_calli (va_runV (As := [.int p0]) (rest := []) ⟨hx, hb, hml, hown, hwd⟩ (c_X6_countDue l dC dI g c adK adV v F rc H.size p0 hg hI (by omega)) (cwV 1 hwd (gV wk_1193 wk_1190 wk_1191 wk_1192 wk_42) rfl rfl rfl (by decide +kernel) ⟨Nat.le_of_ble_eq_true rfl, Nat.le_of_ble_eq_true rfl⟩) ⟨PX.blind, va_recv hK hP (ci := 6) (q0 := 8) rfl rfl, fun U hU hW => ⟨rfl, PX.at hK hE hP hS hU hW⟩⟩ rfl rfl hl.1 rfl (lv_room (Nat.le_of_ble_eq_true rfl)) dX1_unitsOf_106 ⟨Nat.le_of_ble_eq_true rfl, Nat.le_of_ble_eq_true rfl⟩) hS (fun q _ h => (freeX hS) q h) (freeX hS) (fun r1782 u t H1 locs ht hvm hw hB hz1 hk1 hS => ?_)
    unfold BX at hB
    rw [ht] at hB
    have hP : va_P (dC, dI) classes (wX g c v F rc) H1 := hB
    generalize H1 = H at hP hS ⊢
    have rr_r1782 := i32_rng r1782
    have hP9 : va_P (dC, dI) classes (wX g c v F rc) H := hP
    exact W.iret (v := r1782) hx hb hr (fun t ht hW => ⟨⟨r1782, (), rfl, trivial, (by show va_P _ _ _ t.heap; rw [ht]; exact hP9)⟩, hS.F ht⟩) hS.2.2 dX1_unitsOf_109
set_option maxHeartbeats 8000000 in
set_option maxRecDepth 100000 in
theorem c_X1_latePrice (l : Launch) (dC : Nat → ClassId) (dI : Nat → Nat → Nat) (g : Nat → Nat) (c : Nat → ClassId) (adK adV : Nat → Nat) (v : Nat → Int32) (F : Nat → Nat → Int32) (rc sz : Nat) (p0 : Int32) (p1 : Int32) (p2 : Int64) (hg : injX g) (hI : IX v F) (h0 : 0 ≤ p0.toInt ∧ p0.toInt ≤ 9) (h1 : 0 ≤ p1.toInt ∧ p1.toInt ≤ 29) : Met l yX1_latePrice (Cond.code yX1_latePrice cX1_latePrice 9 (some .int) :: wA) ({ frames := 3, cells := 0, slots := 0, locals := 120 }) (va_Pc [.ref (g 11), .int p0, .int p1, .long p2] (PX dC dI g c adK adV v F rc sz)) (va_Qi (fun (r : Int32) (u : Unit) => True) (fun (_ : Unit) => BX dC dI g c (v, F, rc)) (AX g sz)) 0 0 (AX g sz) := by
  refine Met.ofW (cc := cX1_latePrice) (maxL := 9) (ret := (some .int)) (by decide) rfl ?_
  intro p e s m args below meth c0 s₁ B hml hv
  obtain ⟨rfl, hsz, hP, hK, hE⟩ := hv
  have hx := B.exec
  have hb := B.bytes
  have hr := B.returns
  have hts := atoms_spec (ws := Cond.code yX1_latePrice cX1_latePrice 9 (some .int) :: wA) B.pre
  have hwd : ∀ w ∈ wA, w.before _ s = true := fun w h => hts w (List.mem_cons_of_mem _ h)
  have hown : s.vm.findClass RX1 = some m.cls := findClass_of_methodNamed B.named
  have hlocks := B.notSynchronized
  subst hsz
  have hl := lv_entry ([.ref (g 11), .int p0, .int p1, .long p2]) (n := 9) (Nat.le_of_ble_eq_true rfl)
  rw [lg_entry_eq]
  generalize (lg_sl ([.ref (g 11), .int p0, .int p1, .long p2]) ++ List.replicate (9 - (lg_sl ([.ref (g 11), .int p0, .int p1, .long p2])).length) Slot.unset).toArray = ls at hl ⊢
  have hl : lv_has ls 9 [(0, .ref (g 11)), (1, .int p0), (2, .int p1), (3, .long p2)] := hl
  obtain ⟨H, eH⟩ : ∃ z, z = s.heap := ⟨_, rfl⟩
  have hP : va_P (dC, dI) classes (wX g c v F rc) H := by rw [eH]; exact hP
  have hS : va_S (AX g s.heap.size) s.heap H [] := by rw [eH]; exact va_S.rf
  refine my_heap eH ?_
  have rp0 := i32_rng p0
  have rp1 := i32_rng p1
  refine lv_aload_n hx hb dX1_latePrice_0 rfl (lv_at hl 0 rfl) ?_
  refine va_get (D := (dC, dI)) (ci := 1) (v := .ref (g 9)) (C := RX1) (T := TX1) (N := 13) hx hb hwd inA_X1 hown hK hP 11 rfl rfl 5 (by decide) (hwd _ wk_177) (fun _ h9 => h9) rfl dX1_latePrice_1 ?_
  refine va_get (D := (dC, dI)) (ci := 0) (v := .ref (g 60)) (C := RX0) (T := TX0) (N := 9) hx hb hwd inA_X0 hown hK hP 9 rfl rfl 3 (by decide) (hwd _ wk_1236) (fun _ h9 => h9) rfl dX1_latePrice_4 ?_
  refine lv_iload_n hx hb dX1_latePrice_7 rfl (lv_at hl 1 rfl) ?_
  refine va_iald hx hb hK hP 60 48 rfl rfl (i := p0) (vin (a := p0.toInt) rfl (by omega)) dX1_latePrice_8 ?_
  refine lv_topi (fun z1783 e1784 => ?_)
  refine lv_i2l hx hb dX1_latePrice_9 rfl ?_
  refine lv_topl (fun z1785 e1786 => ?_)
  refine lv_lstore (lv' := [(5, .long z1785), (0, .ref (g 11)), (1, .int p0), (2, .int p1), (3, .long p2)]) hx hb dX1_latePrice_10 hl (by decide) rfl (fun ls hl => ?_)
  refine lv_lload_n hx hb dX1_latePrice_12 rfl (lv_at hl 4 rfl) ?_
  refine lv_aload_n hx hb dX1_latePrice_13 rfl (lv_at hl 1 rfl) ?_
  refine va_get (D := (dC, dI)) (ci := 1) (v := .ref (g 9)) (C := RX1) (T := TX1) (N := 13) hx hb hwd inA_X1 hown hK hP 11 rfl rfl 5 (by decide) (hwd _ wk_177) (fun _ h9 => h9) rfl dX1_latePrice_14 ?_
  refine lv_iload_n hx hb dX1_latePrice_17 rfl (lv_at hl 2 rfl) ?_
  refine lv_iload_n hx hb dX1_latePrice_18 rfl (lv_at hl 3 rfl) ?_
  refine lv_iconst (v := 1) hx hb dX1_latePrice_19 (by decide) ?_
  refine va_calli (va_runV (As := [.int p0, .int p1, .int 1]) (rest := [.long p2]) ⟨hx, hb, hml, hown, hwd⟩ (c_X0_numberOf l dC dI g c adK adV v F rc H.size p0 p1 1 hg hI (by omega) (by omega) (by have : (1 : Int32).toInt = 1 := (by decide); omega)) (cwV 3 hwd (gV wk_1183 wk_1180 wk_1181 wk_1182 wk_46) rfl rfl rfl (by decide +kernel) ⟨Nat.le_of_ble_eq_true rfl, Nat.le_of_ble_eq_true rfl⟩) ⟨PX.blind, va_recv hK hP (ci := 0) (q0 := 9) rfl rfl, fun U hU hW => ⟨rfl, PX.at hK hE hP hS hU hW⟩⟩ rfl rfl hl.1 rfl (lv_room (Nat.le_of_ble_eq_true rfl)) dX1_latePrice_20 ⟨Nat.le_of_ble_eq_true rfl, Nat.le_of_ble_eq_true rfl⟩) hS (fun q _ h => (freeX hS) q h) (freeX hS) (fun r1787 u t H1 locs ht hvm hw hB hz1 hk1 hS => ?_)
  unfold BX at hB
  rw [ht] at hB
  have hP : va_P (dC, dI) classes (wX g c v F rc) H1 := hB
  generalize H1 = H at hP hS ⊢
  have rr_r1787 := i32_rng r1787
  refine lv_i2l hx hb dX1_latePrice_23 rfl ?_
  refine lv_topl (fun z1788 e1789 => ?_)
  refine va_mmin_long hx hb (by rw [hml]; exact hl.1.symm) hown (hwd _ wk_1237) (hwd _ wk_471) (hwd _ wk_392) (hwd _ wk_472) (Nat.le_of_ble_eq_true rfl) (Nat.le_of_ble_eq_true rfl) (Nat.le_of_ble_eq_true rfl) (Nat.le_of_ble_eq_true rfl) dX1_latePrice_24 ?_
  refine lv_topl (fun z1790 e1791 => ?_)
  refine lv_lstore (lv' := [(7, .long z1790), (5, .long z1785), (0, .ref (g 11)), (1, .int p0), (2, .int p1), (3, .long p2)]) hx hb dX1_latePrice_27 hl (by decide) rfl (fun ls hl => ?_)
  refine lv_lload hx hb dX1_latePrice_29 (lv_at hl 0 rfl) ?_
  refine lv_lload hx hb dX1_latePrice_31 (lv_at hl 1 rfl) ?_
  refine lv_lmul hx hb dX1_latePrice_33 ?_
  refine lv_topl (fun z1792 e1793 => ?_)
  refine lv_lload_n hx hb dX1_latePrice_34 rfl (lv_at hl 5 rfl) ?_
  refine lv_lload hx hb dX1_latePrice_35 (lv_at hl 0 rfl) ?_
  refine lv_lsub hx hb dX1_latePrice_37 ?_
  refine lv_topl (fun z1794 e1795 => ?_)
  refine lv_lload hx hb dX1_latePrice_38 (lv_at hl 1 rfl) ?_
  refine lv_aload_n hx hb dX1_latePrice_40 rfl (lv_at hl 2 rfl) ?_
  refine va_get (D := (dC, dI)) (ci := 1) (v := .ref (g 9)) (C := RX1) (T := TX1) (N := 13) hx hb hwd inA_X1 hown hK hP 11 rfl rfl 5 (by decide) (hwd _ wk_177) (fun _ h9 => h9) rfl dX1_latePrice_41 ?_
  refine lv_iload_n hx hb dX1_latePrice_44 rfl (lv_at hl 3 rfl) ?_
  refine lv_iload_n hx hb dX1_latePrice_45 rfl (lv_at hl 4 rfl) ?_
  refine lv_iconst (v := 2) hx hb dX1_latePrice_46 (by decide) ?_
  refine va_calli (va_runV (As := [.int p0, .int p1, .int 2]) (rest := [.long z1785, .long z1794, .long z1792]) ⟨hx, hb, hml, hown, hwd⟩ (c_X0_numberOf l dC dI g c adK adV v F rc H.size p0 p1 2 hg hI (by omega) (by omega) (by have : (2 : Int32).toInt = 2 := (by decide); omega)) (cwV 3 hwd (gV wk_1183 wk_1180 wk_1181 wk_1182 wk_46) rfl rfl rfl (by decide +kernel) ⟨Nat.le_of_ble_eq_true rfl, Nat.le_of_ble_eq_true rfl⟩) ⟨PX.blind, va_recv hK hP (ci := 0) (q0 := 9) rfl rfl, fun U hU hW => ⟨rfl, PX.at hK hE hP hS hU hW⟩⟩ rfl rfl hl.1 rfl (lv_room (Nat.le_of_ble_eq_true rfl)) dX1_latePrice_47 ⟨Nat.le_of_ble_eq_true rfl, Nat.le_of_ble_eq_true rfl⟩) hS (fun q _ h => (freeX hS) q h) (freeX hS) (fun r1796 u t H1 locs ht hvm hw hB hz1 hk1 hS => ?_)
  unfold BX at hB
  rw [ht] at hB
  have hP : va_P (dC, dI) classes (wX g c v F rc) H1 := hB
  generalize H1 = H at hP hS ⊢
  have rr_r1796 := i32_rng r1796
  refine lv_i2l hx hb dX1_latePrice_50 rfl ?_
  refine lv_topl (fun z1797 e1798 => ?_)
  refine lv_lmul hx hb dX1_latePrice_51 ?_
  refine lv_topl (fun z1799 e1800 => ?_)
  refine lv_ldc2 (v := 100) hx hb hown (hwd _ wk_1238) dX1_latePrice_52 ?_
  refine lv_ldiv hx hb dX1_latePrice_55 (by decide) ?_
  refine lv_topl (fun z1801 e1802 => ?_)
  refine lv_lmul hx hb dX1_latePrice_56 ?_
  refine lv_topl (fun z1803 e1804 => ?_)
  refine lv_ladd hx hb dX1_latePrice_57 ?_
  refine lv_topl (fun z1805 e1806 => ?_)
  refine va_calli (va_runSN (As := [.long z1805]) (rest := []) ⟨hx, hb, hml, hown, hwd⟩ (c_X11_held l dC dI g c adK adV v F rc H.size z1805 hg hI ) ⟨va_cnB 1 hwd (gS wk_468) rfl rfl rfl hE.2.1 (hwd _ wk_2) (by decide +kernel) ⟨Nat.le_of_ble_eq_true rfl, Nat.le_of_ble_eq_true rfl⟩, hwd _ wk_467, trivial⟩ ⟨PX.blind, fun U hU hW => ⟨rfl, PX.at hK hE hP hS hU hW⟩⟩ rfl rfl hl.1 rfl (lv_room (Nat.le_of_ble_eq_true rfl)) dX1_latePrice_58 ⟨Nat.le_of_ble_eq_true rfl, Nat.le_of_ble_eq_true rfl⟩) hS (fun q _ h => (freeX hS) q h) (freeX hS) (fun r1807 u t H1 locs ht hvm hw hB hz1 hk1 hS => ?_)
  unfold BX at hB
  rw [ht] at hB
  have hP : va_P (dC, dI) classes (wX g c v F rc) H1 := hB
  generalize H1 = H at hP hS ⊢
  have rr_r1807 := i32_rng r1807
  have hP9 : va_P (dC, dI) classes (wX g c v F rc) H := hP
  exact W.iret (v := r1807) hx hb hr (fun t ht hW => ⟨⟨r1807, (), rfl, trivial, (by show va_P _ _ _ t.heap; rw [ht]; exact hP9)⟩, hS.F ht⟩) hS.2.2 dX1_latePrice_61
set_option maxHeartbeats 8000000 in
set_option maxRecDepth 100000 in
theorem c_X1_linePrice (l : Launch) (dC : Nat → ClassId) (dI : Nat → Nat → Nat) (g : Nat → Nat) (c : Nat → ClassId) (adK adV : Nat → Nat) (v : Nat → Int32) (F : Nat → Nat → Int32) (rc sz : Nat) (p0 : Int32) (p1 : Int32) (p2 : Int32) (hg : injX g) (hI : IX v F) (h0 : 0 ≤ p0.toInt ∧ p0.toInt ≤ 9) (h1 : 0 ≤ p1.toInt ∧ p1.toInt ≤ 29) : Met l yX1_linePrice (Cond.code yX1_linePrice cX1_linePrice 6 (some .int) :: wA) ({ frames := 5, cells := 0, slots := 0, locals := 200 }) (va_Pc [.ref (g 11), .int p0, .int p1, .int p2] (PX dC dI g c adK adV v F rc sz)) (va_Qi (fun (r : Int32) (u : Unit) => True) (fun (_ : Unit) => BX dC dI g c (v, F, rc)) (AX g sz)) 0 0 (AX g sz) := by
  refine Met.ofW (cc := cX1_linePrice) (maxL := 6) (ret := (some .int)) (by decide) rfl ?_
  intro p e s m args below meth c0 s₁ B hml hv
  obtain ⟨rfl, hsz, hP, hK, hE⟩ := hv
  have hx := B.exec
  have hb := B.bytes
  have hr := B.returns
  have hts := atoms_spec (ws := Cond.code yX1_linePrice cX1_linePrice 6 (some .int) :: wA) B.pre
  have hwd : ∀ w ∈ wA, w.before _ s = true := fun w h => hts w (List.mem_cons_of_mem _ h)
  have hown : s.vm.findClass RX1 = some m.cls := findClass_of_methodNamed B.named
  have hlocks := B.notSynchronized
  subst hsz
  have hl := lv_entry ([.ref (g 11), .int p0, .int p1, .int p2]) (n := 6) (Nat.le_of_ble_eq_true rfl)
  rw [lg_entry_eq]
  generalize (lg_sl ([.ref (g 11), .int p0, .int p1, .int p2]) ++ List.replicate (6 - (lg_sl ([.ref (g 11), .int p0, .int p1, .int p2])).length) Slot.unset).toArray = ls at hl ⊢
  have hl : lv_has ls 6 [(0, .ref (g 11)), (1, .int p0), (2, .int p1), (3, .int p2)] := hl
  obtain ⟨H, eH⟩ : ∃ z, z = s.heap := ⟨_, rfl⟩
  have hP : va_P (dC, dI) classes (wX g c v F rc) H := by rw [eH]; exact hP
  have hS : va_S (AX g s.heap.size) s.heap H [] := by rw [eH]; exact va_S.rf
  refine my_heap eH ?_
  have rp0 := i32_rng p0
  have rp1 := i32_rng p1
  have rp2 := i32_rng p2
  refine lv_aload_n hx hb dX1_linePrice_0 rfl (lv_at hl 0 rfl) ?_
  refine lv_iload_n hx hb dX1_linePrice_1 rfl (lv_at hl 1 rfl) ?_
  refine lv_iload_n hx hb dX1_linePrice_2 rfl (lv_at hl 2 rfl) ?_
  refine lv_iload_n hx hb dX1_linePrice_3 rfl (lv_at hl 3 rfl) ?_
  refine va_calli (va_runV (As := [.int p0, .int p1, .int p2]) (rest := []) ⟨hx, hb, hml, hown, hwd⟩ (c_X1_unitsOf l dC dI g c adK adV v F rc H.size p0 p1 p2 hg hI (by omega) (by omega)) (cwV 3 hwd (gV wk_1169 wk_1231 wk_1167 wk_1168 wk_54) rfl rfl rfl (by decide +kernel) ⟨Nat.le_of_ble_eq_true rfl, Nat.le_of_ble_eq_true rfl⟩) ⟨PX.blind, va_recv hK hP (ci := 1) (q0 := 11) rfl rfl, fun U hU hW => ⟨rfl, PX.at hK hE hP hS hU hW⟩⟩ rfl rfl hl.1 rfl (lv_room (Nat.le_of_ble_eq_true rfl)) dX1_linePrice_4 ⟨Nat.le_of_ble_eq_true rfl, Nat.le_of_ble_eq_true rfl⟩) hS (fun q _ h => (freeX hS) q h) (freeX hS) (fun r1808 u t H1 locs ht hvm hw hB hz1 hk1 hS => ?_)
  unfold BX at hB
  rw [ht] at hB
  have hP : va_P (dC, dI) classes (wX g c v F rc) H1 := hB
  generalize H1 = H at hP hS ⊢
  have rr_r1808 := i32_rng r1808
  refine lv_i2l hx hb dX1_linePrice_7 rfl ?_
  refine lv_topl (fun z1809 e1810 => ?_)
  refine lv_lstore (lv' := [(4, .long z1809), (0, .ref (g 11)), (1, .int p0), (2, .int p1), (3, .int p2)]) hx hb dX1_linePrice_8 hl (by decide) rfl (fun ls hl => ?_)
  refine lv_aload_n hx hb dX1_linePrice_10 rfl (lv_at hl 1 rfl) ?_
  refine va_get (D := (dC, dI)) (ci := 1) (v := .ref (g 9)) (C := RX1) (T := TX1) (N := 13) hx hb hwd inA_X1 hown hK hP 11 rfl rfl 5 (by decide) (hwd _ wk_177) (fun _ h9 => h9) rfl dX1_linePrice_11 ?_
  refine lv_iload_n hx hb dX1_linePrice_14 rfl (lv_at hl 2 rfl) ?_
  refine lv_iload_n hx hb dX1_linePrice_15 rfl (lv_at hl 3 rfl) ?_
  refine va_calli (va_runV (As := [.int p0, .int p1]) (rest := []) ⟨hx, hb, hml, hown, hwd⟩ (c_X0_letterOf l dC dI g c adK adV v F rc H.size p0 p1 hg hI (by omega) (by omega)) (cwV 2 hwd (gV wk_1175 wk_1172 wk_1173 wk_1174 wk_46) rfl rfl rfl (by decide +kernel) ⟨Nat.le_of_ble_eq_true rfl, Nat.le_of_ble_eq_true rfl⟩) ⟨PX.blind, va_recv hK hP (ci := 0) (q0 := 9) rfl rfl, fun U hU hW => ⟨rfl, PX.at hK hE hP hS hU hW⟩⟩ rfl rfl hl.1 rfl (lv_room (Nat.le_of_ble_eq_true rfl)) dX1_linePrice_16 ⟨Nat.le_of_ble_eq_true rfl, Nat.le_of_ble_eq_true rfl⟩) hS (fun q _ h => (freeX hS) q h) (freeX hS) (fun r1811 u t H1 locs ht hvm hw hB hz1 hk1 hS => ?_)
  unfold BX at hB
  rw [ht] at hB
  have hP : va_P (dC, dI) classes (wX g c v F rc) H1 := hB
  generalize H1 = H at hP hS ⊢
  have rr_r1811 := i32_rng r1811
  by_cases hk1812 : r1811.toInt = 100
  · refine lv_lookup (off := 41) (tgt := 60) hx hb dX1_linePrice_19 (by decide) (by rw [hk1812]; decide) (by decide) ?_
    refine lv_lload hx hb dX1_linePrice_60 (lv_at hl 0 rfl) ?_
    refine lv_aload_n hx hb dX1_linePrice_62 rfl (lv_at hl 1 rfl) ?_
    refine va_get (D := (dC, dI)) (ci := 1) (v := .ref (g 9)) (C := RX1) (T := TX1) (N := 13) hx hb hwd inA_X1 hown hK hP 11 rfl rfl 5 (by decide) (hwd _ wk_177) (fun _ h9 => h9) rfl dX1_linePrice_63 ?_
    refine lv_iload_n hx hb dX1_linePrice_66 rfl (lv_at hl 2 rfl) ?_
    refine lv_iload_n hx hb dX1_linePrice_67 rfl (lv_at hl 3 rfl) ?_
    refine lv_iconst (v := 3) hx hb dX1_linePrice_68 (by decide) ?_
    refine va_calli (va_runV (As := [.int p0, .int p1, .int 3]) (rest := [.long z1809]) ⟨hx, hb, hml, hown, hwd⟩ (c_X0_numberOf l dC dI g c adK adV v F rc H.size p0 p1 3 hg hI (by omega) (by omega) (by have : (3 : Int32).toInt = 3 := (by decide); omega)) (cwV 3 hwd (gV wk_1183 wk_1180 wk_1181 wk_1182 wk_46) rfl rfl rfl (by decide +kernel) ⟨Nat.le_of_ble_eq_true rfl, Nat.le_of_ble_eq_true rfl⟩) ⟨PX.blind, va_recv hK hP (ci := 0) (q0 := 9) rfl rfl, fun U hU hW => ⟨rfl, PX.at hK hE hP hS hU hW⟩⟩ rfl rfl hl.1 rfl (lv_room (Nat.le_of_ble_eq_true rfl)) dX1_linePrice_69 ⟨Nat.le_of_ble_eq_true rfl, Nat.le_of_ble_eq_true rfl⟩) hS (fun q _ h => (freeX hS) q h) (freeX hS) (fun r1813 u t H1 locs ht hvm hw hB hz1 hk1 hS => ?_)
    unfold BX at hB
    rw [ht] at hB
    have hP : va_P (dC, dI) classes (wX g c v F rc) H1 := hB
    generalize H1 = H at hP hS ⊢
    have rr_r1813 := i32_rng r1813
    refine lv_i2l hx hb dX1_linePrice_72 rfl ?_
    refine lv_topl (fun z1814 e1815 => ?_)
    refine lv_lmul hx hb dX1_linePrice_73 ?_
    refine lv_topl (fun z1816 e1817 => ?_)
    refine va_calli (va_runSN (As := [.long z1816]) (rest := []) ⟨hx, hb, hml, hown, hwd⟩ (c_X11_held l dC dI g c adK adV v F rc H.size z1816 hg hI ) ⟨va_cnB 1 hwd (gS wk_468) rfl rfl rfl hE.2.1 (hwd _ wk_2) (by decide +kernel) ⟨Nat.le_of_ble_eq_true rfl, Nat.le_of_ble_eq_true rfl⟩, hwd _ wk_467, trivial⟩ ⟨PX.blind, fun U hU hW => ⟨rfl, PX.at hK hE hP hS hU hW⟩⟩ rfl rfl hl.1 rfl (lv_room (Nat.le_of_ble_eq_true rfl)) dX1_linePrice_74 ⟨Nat.le_of_ble_eq_true rfl, Nat.le_of_ble_eq_true rfl⟩) hS (fun q _ h => (freeX hS) q h) (freeX hS) (fun r1818 u t H1 locs ht hvm hw hB hz1 hk1 hS => ?_)
    unfold BX at hB
    rw [ht] at hB
    have hP : va_P (dC, dI) classes (wX g c v F rc) H1 := hB
    generalize H1 = H at hP hS ⊢
    have rr_r1818 := i32_rng r1818
    have hP9 : va_P (dC, dI) classes (wX g c v F rc) H := hP
    exact W.iret (v := r1818) hx hb hr (fun t ht hW => ⟨⟨r1818, (), rfl, trivial, (by show va_P _ _ _ t.heap; rw [ht]; exact hP9)⟩, hS.F ht⟩) hS.2.2 dX1_linePrice_77
  by_cases hk1819 : r1811.toInt = 104
  · refine lv_lookup (off := 41) (tgt := 60) hx hb dX1_linePrice_19 (by decide) (by rw [hk1819]; decide) (by decide) ?_
    refine lv_lload hx hb dX1_linePrice_60 (lv_at hl 0 rfl) ?_
    refine lv_aload_n hx hb dX1_linePrice_62 rfl (lv_at hl 1 rfl) ?_
    refine va_get (D := (dC, dI)) (ci := 1) (v := .ref (g 9)) (C := RX1) (T := TX1) (N := 13) hx hb hwd inA_X1 hown hK hP 11 rfl rfl 5 (by decide) (hwd _ wk_177) (fun _ h9 => h9) rfl dX1_linePrice_63 ?_
    refine lv_iload_n hx hb dX1_linePrice_66 rfl (lv_at hl 2 rfl) ?_
    refine lv_iload_n hx hb dX1_linePrice_67 rfl (lv_at hl 3 rfl) ?_
    refine lv_iconst (v := 3) hx hb dX1_linePrice_68 (by decide) ?_
    refine va_calli (va_runV (As := [.int p0, .int p1, .int 3]) (rest := [.long z1809]) ⟨hx, hb, hml, hown, hwd⟩ (c_X0_numberOf l dC dI g c adK adV v F rc H.size p0 p1 3 hg hI (by omega) (by omega) (by have : (3 : Int32).toInt = 3 := (by decide); omega)) (cwV 3 hwd (gV wk_1183 wk_1180 wk_1181 wk_1182 wk_46) rfl rfl rfl (by decide +kernel) ⟨Nat.le_of_ble_eq_true rfl, Nat.le_of_ble_eq_true rfl⟩) ⟨PX.blind, va_recv hK hP (ci := 0) (q0 := 9) rfl rfl, fun U hU hW => ⟨rfl, PX.at hK hE hP hS hU hW⟩⟩ rfl rfl hl.1 rfl (lv_room (Nat.le_of_ble_eq_true rfl)) dX1_linePrice_69 ⟨Nat.le_of_ble_eq_true rfl, Nat.le_of_ble_eq_true rfl⟩) hS (fun q _ h => (freeX hS) q h) (freeX hS) (fun r1820 u t H1 locs ht hvm hw hB hz1 hk1 hS => ?_)
    unfold BX at hB
    rw [ht] at hB
    have hP : va_P (dC, dI) classes (wX g c v F rc) H1 := hB
    generalize H1 = H at hP hS ⊢
    have rr_r1820 := i32_rng r1820
    refine lv_i2l hx hb dX1_linePrice_72 rfl ?_
    refine lv_topl (fun z1821 e1822 => ?_)
    refine lv_lmul hx hb dX1_linePrice_73 ?_
    refine lv_topl (fun z1823 e1824 => ?_)
    refine va_calli (va_runSN (As := [.long z1823]) (rest := []) ⟨hx, hb, hml, hown, hwd⟩ (c_X11_held l dC dI g c adK adV v F rc H.size z1823 hg hI ) ⟨va_cnB 1 hwd (gS wk_468) rfl rfl rfl hE.2.1 (hwd _ wk_2) (by decide +kernel) ⟨Nat.le_of_ble_eq_true rfl, Nat.le_of_ble_eq_true rfl⟩, hwd _ wk_467, trivial⟩ ⟨PX.blind, fun U hU hW => ⟨rfl, PX.at hK hE hP hS hU hW⟩⟩ rfl rfl hl.1 rfl (lv_room (Nat.le_of_ble_eq_true rfl)) dX1_linePrice_74 ⟨Nat.le_of_ble_eq_true rfl, Nat.le_of_ble_eq_true rfl⟩) hS (fun q _ h => (freeX hS) q h) (freeX hS) (fun r1825 u t H1 locs ht hvm hw hB hz1 hk1 hS => ?_)
    unfold BX at hB
    rw [ht] at hB
    have hP : va_P (dC, dI) classes (wX g c v F rc) H1 := hB
    generalize H1 = H at hP hS ⊢
    have rr_r1825 := i32_rng r1825
    have hP9 : va_P (dC, dI) classes (wX g c v F rc) H := hP
    exact W.iret (v := r1825) hx hb hr (fun t ht hW => ⟨⟨r1825, (), rfl, trivial, (by show va_P _ _ _ t.heap; rw [ht]; exact hP9)⟩, hS.F ht⟩) hS.2.2 dX1_linePrice_77
  by_cases hk1826 : r1811.toInt = 108
  · refine lv_lookup (off := 41) (tgt := 60) hx hb dX1_linePrice_19 (by decide) (by rw [hk1826]; decide) (by decide) ?_
    refine lv_lload hx hb dX1_linePrice_60 (lv_at hl 0 rfl) ?_
    refine lv_aload_n hx hb dX1_linePrice_62 rfl (lv_at hl 1 rfl) ?_
    refine va_get (D := (dC, dI)) (ci := 1) (v := .ref (g 9)) (C := RX1) (T := TX1) (N := 13) hx hb hwd inA_X1 hown hK hP 11 rfl rfl 5 (by decide) (hwd _ wk_177) (fun _ h9 => h9) rfl dX1_linePrice_63 ?_
    refine lv_iload_n hx hb dX1_linePrice_66 rfl (lv_at hl 2 rfl) ?_
    refine lv_iload_n hx hb dX1_linePrice_67 rfl (lv_at hl 3 rfl) ?_
    refine lv_iconst (v := 3) hx hb dX1_linePrice_68 (by decide) ?_
    refine va_calli (va_runV (As := [.int p0, .int p1, .int 3]) (rest := [.long z1809]) ⟨hx, hb, hml, hown, hwd⟩ (c_X0_numberOf l dC dI g c adK adV v F rc H.size p0 p1 3 hg hI (by omega) (by omega) (by have : (3 : Int32).toInt = 3 := (by decide); omega)) (cwV 3 hwd (gV wk_1183 wk_1180 wk_1181 wk_1182 wk_46) rfl rfl rfl (by decide +kernel) ⟨Nat.le_of_ble_eq_true rfl, Nat.le_of_ble_eq_true rfl⟩) ⟨PX.blind, va_recv hK hP (ci := 0) (q0 := 9) rfl rfl, fun U hU hW => ⟨rfl, PX.at hK hE hP hS hU hW⟩⟩ rfl rfl hl.1 rfl (lv_room (Nat.le_of_ble_eq_true rfl)) dX1_linePrice_69 ⟨Nat.le_of_ble_eq_true rfl, Nat.le_of_ble_eq_true rfl⟩) hS (fun q _ h => (freeX hS) q h) (freeX hS) (fun r1827 u t H1 locs ht hvm hw hB hz1 hk1 hS => ?_)
    unfold BX at hB
    rw [ht] at hB
    have hP : va_P (dC, dI) classes (wX g c v F rc) H1 := hB
    generalize H1 = H at hP hS ⊢
    have rr_r1827 := i32_rng r1827
    refine lv_i2l hx hb dX1_linePrice_72 rfl ?_
    refine lv_topl (fun z1828 e1829 => ?_)
    refine lv_lmul hx hb dX1_linePrice_73 ?_
    refine lv_topl (fun z1830 e1831 => ?_)
    refine va_calli (va_runSN (As := [.long z1830]) (rest := []) ⟨hx, hb, hml, hown, hwd⟩ (c_X11_held l dC dI g c adK adV v F rc H.size z1830 hg hI ) ⟨va_cnB 1 hwd (gS wk_468) rfl rfl rfl hE.2.1 (hwd _ wk_2) (by decide +kernel) ⟨Nat.le_of_ble_eq_true rfl, Nat.le_of_ble_eq_true rfl⟩, hwd _ wk_467, trivial⟩ ⟨PX.blind, fun U hU hW => ⟨rfl, PX.at hK hE hP hS hU hW⟩⟩ rfl rfl hl.1 rfl (lv_room (Nat.le_of_ble_eq_true rfl)) dX1_linePrice_74 ⟨Nat.le_of_ble_eq_true rfl, Nat.le_of_ble_eq_true rfl⟩) hS (fun q _ h => (freeX hS) q h) (freeX hS) (fun r1832 u t H1 locs ht hvm hw hB hz1 hk1 hS => ?_)
    unfold BX at hB
    rw [ht] at hB
    have hP : va_P (dC, dI) classes (wX g c v F rc) H1 := hB
    generalize H1 = H at hP hS ⊢
    have rr_r1832 := i32_rng r1832
    have hP9 : va_P (dC, dI) classes (wX g c v F rc) H := hP
    exact W.iret (v := r1832) hx hb hr (fun t ht hW => ⟨⟨r1832, (), rfl, trivial, (by show va_P _ _ _ t.heap; rw [ht]; exact hP9)⟩, hS.F ht⟩) hS.2.2 dX1_linePrice_77
  by_cases hk1833 : r1811.toInt = 116
  · refine lv_lookup (off := 59) (tgt := 78) hx hb dX1_linePrice_19 (by decide) (by rw [hk1833]; decide) (by decide) ?_
    refine lv_aload_n hx hb dX1_linePrice_78 rfl (lv_at hl 1 rfl) ?_
    refine lv_iload_n hx hb dX1_linePrice_79 rfl (lv_at hl 2 rfl) ?_
    refine lv_iload_n hx hb dX1_linePrice_80 rfl (lv_at hl 3 rfl) ?_
    refine lv_lload hx hb dX1_linePrice_81 (lv_at hl 0 rfl) ?_
    refine va_calli (va_runV (As := [.int p0, .int p1, .long z1809]) (rest := []) ⟨hx, hb, hml, hown, hwd⟩ (c_X1_latePrice l dC dI g c adK adV v F rc H.size p0 p1 z1809 hg hI (by omega) (by omega)) (cwV 3 hwd (gV wk_1235 wk_1232 wk_1233 wk_1234 wk_54) rfl rfl rfl (by decide +kernel) ⟨Nat.le_of_ble_eq_true rfl, Nat.le_of_ble_eq_true rfl⟩) ⟨PX.blind, va_recv hK hP (ci := 1) (q0 := 11) rfl rfl, fun U hU hW => ⟨rfl, PX.at hK hE hP hS hU hW⟩⟩ rfl rfl hl.1 rfl (lv_room (Nat.le_of_ble_eq_true rfl)) dX1_linePrice_83 ⟨Nat.le_of_ble_eq_true rfl, Nat.le_of_ble_eq_true rfl⟩) hS (fun q _ h => (freeX hS) q h) (freeX hS) (fun r1834 u t H1 locs ht hvm hw hB hz1 hk1 hS => ?_)
    unfold BX at hB
    rw [ht] at hB
    have hP : va_P (dC, dI) classes (wX g c v F rc) H1 := hB
    generalize H1 = H at hP hS ⊢
    have rr_r1834 := i32_rng r1834
    have hP9 : va_P (dC, dI) classes (wX g c v F rc) H := hP
    exact W.iret (v := r1834) hx hb hr (fun t ht hW => ⟨⟨r1834, (), rfl, trivial, (by show va_P _ _ _ t.heap; rw [ht]; exact hP9)⟩, hS.F ht⟩) hS.2.2 dX1_linePrice_86
  refine lv_lookup (off := 68) (tgt := 87) hx hb dX1_linePrice_19 (by decide) (by simp [Op.lookupswitch.offset, Ne.symm hk1812, Ne.symm hk1819, Ne.symm hk1826, Ne.symm hk1833]) (by decide) ?_
  refine lv_lload hx hb dX1_linePrice_87 (lv_at hl 0 rfl) ?_
  refine lv_aload_n hx hb dX1_linePrice_89 rfl (lv_at hl 1 rfl) ?_
  refine va_get (D := (dC, dI)) (ci := 1) (v := .ref (g 9)) (C := RX1) (T := TX1) (N := 13) hx hb hwd inA_X1 hown hK hP 11 rfl rfl 5 (by decide) (hwd _ wk_177) (fun _ h9 => h9) rfl dX1_linePrice_90 ?_
  refine lv_iload_n hx hb dX1_linePrice_93 rfl (lv_at hl 2 rfl) ?_
  refine lv_iload_n hx hb dX1_linePrice_94 rfl (lv_at hl 3 rfl) ?_
  refine lv_iconst (v := 1) hx hb dX1_linePrice_95 (by decide) ?_
  refine va_calli (va_runV (As := [.int p0, .int p1, .int 1]) (rest := [.long z1809]) ⟨hx, hb, hml, hown, hwd⟩ (c_X0_numberOf l dC dI g c adK adV v F rc H.size p0 p1 1 hg hI (by omega) (by omega) (by have : (1 : Int32).toInt = 1 := (by decide); omega)) (cwV 3 hwd (gV wk_1183 wk_1180 wk_1181 wk_1182 wk_46) rfl rfl rfl (by decide +kernel) ⟨Nat.le_of_ble_eq_true rfl, Nat.le_of_ble_eq_true rfl⟩) ⟨PX.blind, va_recv hK hP (ci := 0) (q0 := 9) rfl rfl, fun U hU hW => ⟨rfl, PX.at hK hE hP hS hU hW⟩⟩ rfl rfl hl.1 rfl (lv_room (Nat.le_of_ble_eq_true rfl)) dX1_linePrice_96 ⟨Nat.le_of_ble_eq_true rfl, Nat.le_of_ble_eq_true rfl⟩) hS (fun q _ h => (freeX hS) q h) (freeX hS) (fun r1835 u t H1 locs ht hvm hw hB hz1 hk1 hS => ?_)
  unfold BX at hB
  rw [ht] at hB
  have hP : va_P (dC, dI) classes (wX g c v F rc) H1 := hB
  generalize H1 = H at hP hS ⊢
  have rr_r1835 := i32_rng r1835
  refine lv_i2l hx hb dX1_linePrice_99 rfl ?_
  refine lv_topl (fun z1836 e1837 => ?_)
  refine lv_lmul hx hb dX1_linePrice_100 ?_
  refine lv_topl (fun z1838 e1839 => ?_)
  refine va_calli (va_runSN (As := [.long z1838]) (rest := []) ⟨hx, hb, hml, hown, hwd⟩ (c_X11_held l dC dI g c adK adV v F rc H.size z1838 hg hI ) ⟨va_cnB 1 hwd (gS wk_468) rfl rfl rfl hE.2.1 (hwd _ wk_2) (by decide +kernel) ⟨Nat.le_of_ble_eq_true rfl, Nat.le_of_ble_eq_true rfl⟩, hwd _ wk_467, trivial⟩ ⟨PX.blind, fun U hU hW => ⟨rfl, PX.at hK hE hP hS hU hW⟩⟩ rfl rfl hl.1 rfl (lv_room (Nat.le_of_ble_eq_true rfl)) dX1_linePrice_101 ⟨Nat.le_of_ble_eq_true rfl, Nat.le_of_ble_eq_true rfl⟩) hS (fun q _ h => (freeX hS) q h) (freeX hS) (fun r1840 u t H1 locs ht hvm hw hB hz1 hk1 hS => ?_)
  unfold BX at hB
  rw [ht] at hB
  have hP : va_P (dC, dI) classes (wX g c v F rc) H1 := hB
  generalize H1 = H at hP hS ⊢
  have rr_r1840 := i32_rng r1840
  have hP9 : va_P (dC, dI) classes (wX g c v F rc) H := hP
  exact W.iret (v := r1840) hx hb hr (fun t ht hW => ⟨⟨r1840, (), rfl, trivial, (by show va_P _ _ _ t.heap; rw [ht]; exact hP9)⟩, hS.F ht⟩) hS.2.2 dX1_linePrice_104
set_option maxHeartbeats 8000000 in
set_option maxRecDepth 100000 in
theorem c_X1_priceOf (l : Launch) (dC : Nat → ClassId) (dI : Nat → Nat → Nat) (g : Nat → Nat) (c : Nat → ClassId) (adK adV : Nat → Nat) (v : Nat → Int32) (F : Nat → Nat → Int32) (rc sz : Nat) (p0 : Int32) (p1 : Int32) (hg : injX g) (hI : IX v F) (h0 : 0 ≤ p0.toInt ∧ p0.toInt ≤ 9) : Met l yX1_priceOf (Cond.code yX1_priceOf cX1_priceOf 6 (some .int) :: wA) ({ frames := 6, cells := 0, slots := 0, locals := 240 }) (va_Pc [.ref (g 11), .int p0, .int p1] (PX dC dI g c adK adV v F rc sz)) (va_Qi (fun (r : Int32) (u : Unit) => True) (fun (_ : Unit) => BX dC dI g c (v, F, rc)) (AX g sz)) 0 0 (AX g sz) := by
  refine Met.ofW (cc := cX1_priceOf) (maxL := 6) (ret := (some .int)) (by decide) rfl ?_
  intro p e s m args below meth c0 s₁ B hml hv
  obtain ⟨rfl, hsz, hP, hK, hE⟩ := hv
  have hx := B.exec
  have hb := B.bytes
  have hr := B.returns
  have hts := atoms_spec (ws := Cond.code yX1_priceOf cX1_priceOf 6 (some .int) :: wA) B.pre
  have hwd : ∀ w ∈ wA, w.before _ s = true := fun w h => hts w (List.mem_cons_of_mem _ h)
  have hown : s.vm.findClass RX1 = some m.cls := findClass_of_methodNamed B.named
  have hlocks := B.notSynchronized
  subst hsz
  have hl := lv_entry ([.ref (g 11), .int p0, .int p1]) (n := 6) (Nat.le_of_ble_eq_true rfl)
  rw [lg_entry_eq]
  generalize (lg_sl ([.ref (g 11), .int p0, .int p1]) ++ List.replicate (6 - (lg_sl ([.ref (g 11), .int p0, .int p1])).length) Slot.unset).toArray = ls at hl ⊢
  have hl : lv_has ls 6 [(0, .ref (g 11)), (1, .int p0), (2, .int p1)] := hl
  obtain ⟨H, eH⟩ : ∃ z, z = s.heap := ⟨_, rfl⟩
  have hP : va_P (dC, dI) classes (wX g c v F rc) H := by rw [eH]; exact hP
  have hS : va_S (AX g s.heap.size) s.heap H [] := by rw [eH]; exact va_S.rf
  refine my_heap eH ?_
  have rp0 := i32_rng p0
  have rp1 := i32_rng p1
  refine lv_lconst (v := 0) hx hb dX1_priceOf_0 (by decide) ?_
  refine lv_lstore_n (lv' := [(3, .long 0), (0, .ref (g 11)), (1, .int p0), (2, .int p1)]) hx hb dX1_priceOf_1 rfl hl (by decide) rfl (fun ls hl => ?_)
  refine lv_iconst (v := 0) hx hb dX1_priceOf_2 (by decide) ?_
  refine lv_istore (lv' := [(5, .int 0), (3, .long 0), (0, .ref (g 11)), (1, .int p0), (2, .int p1)]) hx hb dX1_priceOf_3 hl (by decide) rfl (fun ls hl => ?_)
  have lp1841 : ∀ (n : Nat) (x5_lp1841 : Int32) (x3_lp1841 : Int64) (H : Heap) (locs : List Loc) (ls : Array Slot), (0 ≤ x5_lp1841.toInt) → (2147483648 - x5_lp1841.toInt ≤ (n : Int)) → va_P (dC, dI) classes (wX g c v F rc) H → va_S (AX g s.heap.size) s.heap H locs → lv_has ls 6 [(5, .int x5_lp1841), (3, .long x3_lp1841), (0, .ref (g 11)), (1, .int p0), (2, .int p1)] → W p l e (headSpec (Cond.code yX1_priceOf cX1_priceOf 6 (some .int) :: wA) ({ frames := 6, cells := 0, slots := 0, locals := 240 })).room s m ([.ref (g 11), .int p0, .int p1] : List Value).toArray below meth c0 H locs 0 0 (MQ below (va_Qi (fun (r : Int32) (u : Unit) => True) (fun (_ : Unit) => BX dC dI g c (v, F, rc)) (AX g s.heap.size)) ([.ref (g 11), .int p0, .int p1] : List Value).toArray s 0 0 (AX g s.heap.size)) (F0 m 5 ls []) := by
    intro n
    induction n with
    | zero =>
      intro x5_lp1841 x3_lp1841 H locs ls t1842 hm hP hS hl
      exfalso
      have := i32_rng x5_lp1841
      omega
    | succ n ih_lp1841 =>
      intro x5_lp1841 x3_lp1841 H locs ls t1842 hm hP hS hl
      have rx5_lp1841 := i32_rng x5_lp1841
      refine lv_iload hx hb dX1_priceOf_5 (lv_at hl 0 rfl) ?_
      refine lv_aload_n hx hb dX1_priceOf_7 rfl (lv_at hl 2 rfl) ?_
      refine va_get (D := (dC, dI)) (ci := 1) (v := .ref (g 9)) (C := RX1) (T := TX1) (N := 13) hx hb hwd inA_X1 hown hK hP 11 rfl rfl 5 (by decide) (hwd _ wk_177) (fun _ h9 => h9) rfl dX1_priceOf_8 ?_
      refine va_get (D := (dC, dI)) (ci := 0) (v := .ref (g 58)) (C := RX0) (T := TX0) (N := 9) hx hb hwd inA_X0 hown hK hP 9 rfl rfl 1 (by decide) (hwd _ wk_1226) (fun _ h9 => h9) rfl dX1_priceOf_11 ?_
      refine lv_iload_n hx hb dX1_priceOf_14 rfl (lv_at hl 3 rfl) ?_
      refine va_iald hx hb hK hP 58 46 rfl rfl (i := p0) (vin (a := p0.toInt) rfl (by omega)) dX1_priceOf_15 ?_
      refine lv_topi (fun z1843 e1844 => ?_)
      have t1845 : 0 ≤ z1843.toInt ∧ z1843.toInt ≤ 30 := by rw [e1844]; exact hI.2 58 _ _ rfl _
      refine lv_icmp_ge (tgt := 37) hx hb dX1_priceOf_16 (by decide) (fun c1846 => ?_) (fun c1846 => ?_)
      · skip
        have t1847 := cv_le (a := z1843.toInt) rfl (b := x5_lp1841.toInt) rfl c1846
        refine lv_lload_n hx hb dX1_priceOf_37 rfl (lv_at hl 1 rfl) ?_
        refine va_calli (va_runSN (As := [.long x3_lp1841]) (rest := []) ⟨hx, hb, hml, hown, hwd⟩ (c_X11_held l dC dI g c adK adV v F rc H.size x3_lp1841 hg hI ) ⟨va_cnB 1 hwd (gS wk_468) rfl rfl rfl hE.2.1 (hwd _ wk_2) (by decide +kernel) ⟨Nat.le_of_ble_eq_true rfl, Nat.le_of_ble_eq_true rfl⟩, hwd _ wk_467, trivial⟩ ⟨PX.blind, fun U hU hW => ⟨rfl, PX.at hK hE hP hS hU hW⟩⟩ rfl rfl hl.1 rfl (lv_room (Nat.le_of_ble_eq_true rfl)) dX1_priceOf_38 ⟨Nat.le_of_ble_eq_true rfl, Nat.le_of_ble_eq_true rfl⟩) hS (fun q _ h => (freeX hS) q h) (freeX hS) (fun r1848 u t H1 locs ht hvm hw hB hz1 hk1 hS => ?_)
        unfold BX at hB
        rw [ht] at hB
        have hP : va_P (dC, dI) classes (wX g c v F rc) H1 := hB
        generalize H1 = H at hP hS ⊢
        have rr_r1848 := i32_rng r1848
        have hP9 : va_P (dC, dI) classes (wX g c v F rc) H := hP
        exact W.iret (v := r1848) hx hb hr (fun t ht hW => ⟨⟨r1848, (), rfl, trivial, (by show va_P _ _ _ t.heap; rw [ht]; exact hP9)⟩, hS.F ht⟩) hS.2.2 dX1_priceOf_41
      · skip
        have t1849 := cv_nle (a := z1843.toInt) rfl (b := x5_lp1841.toInt) rfl c1846
        refine lv_lload_n hx hb dX1_priceOf_19 rfl (lv_at hl 1 rfl) ?_
        refine lv_aload_n hx hb dX1_priceOf_20 rfl (lv_at hl 2 rfl) ?_
        refine lv_iload_n hx hb dX1_priceOf_21 rfl (lv_at hl 3 rfl) ?_
        refine lv_iload hx hb dX1_priceOf_22 (lv_at hl 0 rfl) ?_
        refine lv_iload_n hx hb dX1_priceOf_24 rfl (lv_at hl 4 rfl) ?_
        refine va_calli (va_runV (As := [.int p0, .int x5_lp1841, .int p1]) (rest := [.long x3_lp1841]) ⟨hx, hb, hml, hown, hwd⟩ (c_X1_linePrice l dC dI g c adK adV v F rc H.size p0 x5_lp1841 p1 hg hI (by omega) (by omega)) (cwV 3 hwd (gV wk_1230 wk_1227 wk_1228 wk_1229 wk_54) rfl rfl rfl (by decide +kernel) ⟨Nat.le_of_ble_eq_true rfl, Nat.le_of_ble_eq_true rfl⟩) ⟨PX.blind, va_recv hK hP (ci := 1) (q0 := 11) rfl rfl, fun U hU hW => ⟨rfl, PX.at hK hE hP hS hU hW⟩⟩ rfl rfl hl.1 rfl (lv_room (Nat.le_of_ble_eq_true rfl)) dX1_priceOf_25 ⟨Nat.le_of_ble_eq_true rfl, Nat.le_of_ble_eq_true rfl⟩) hS (fun q _ h => (freeX hS) q h) (freeX hS) (fun r1850 u t H1 locs ht hvm hw hB hz1 hk1 hS => ?_)
        unfold BX at hB
        rw [ht] at hB
        have hP : va_P (dC, dI) classes (wX g c v F rc) H1 := hB
        generalize H1 = H at hP hS ⊢
        have rr_r1850 := i32_rng r1850
        refine lv_i2l hx hb dX1_priceOf_28 rfl ?_
        refine lv_topl (fun z1851 e1852 => ?_)
        refine lv_ladd hx hb dX1_priceOf_29 ?_
        refine lv_topl (fun z1853 e1854 => ?_)
        refine lv_lstore_n (lv' := [(3, .long z1853), (5, .int x5_lp1841), (0, .ref (g 11)), (1, .int p0), (2, .int p1)]) hx hb dX1_priceOf_30 rfl hl (by decide) rfl (fun ls hl => ?_)
        obtain ⟨z1855, e1856⟩ : ∃ y : Int32, y = x5_lp1841 + 1 := ⟨_, rfl⟩
        try (have t1857 := tadd e1856 rfl (b := 1) (by decide) (by omega))
        refine lv_iinc (v := z1855) (lv' := [(5, .int z1855), (3, .long z1853), (0, .ref (g 11)), (1, .int p0), (2, .int p1)]) hx hb dX1_priceOf_31 hl (k := 1) rfl (by rw [e1856]; rfl) (by decide) rfl (fun ls hl => ?_)
        refine lv_goto (tgt := 5) hx hb dX1_priceOf_34 (by decide) ?_
        exact ih_lp1841 z1855 z1853  _ _ _ (by omega) (by omega) hP hS (lv_sub hl [0, 1, 2, 3, 4] rfl)
  obtain ⟨n9, hn9⟩ : ∃ n : Nat, 2147483648 - 0 ≤ (n : Int) := ⟨((2147483648 - 0 : Int)).toNat, by omega⟩
  exact lp1841 n9 0 0  H _ ls (by have : (0 : Int32).toInt = 0 := (by decide); omega) (by have : (0 : Int32).toInt = 0 := (by decide); omega) hP hS hl
set_option maxHeartbeats 8000000 in
set_option maxRecDepth 100000 in
theorem c_X1_fillRow (l : Launch) (dC : Nat → ClassId) (dI : Nat → Nat → Nat) (g : Nat → Nat) (c : Nat → ClassId) (adK adV : Nat → Nat) (v : Nat → Int32) (F : Nat → Nat → Int32) (rc sz : Nat) (p0 : Int32) (p1 : Int32) (p2 : Int32) (hg : injX g) (hI : IX v F) (h0 : 0 ≤ p0.toInt ∧ p0.toInt ≤ 9) : Met l yX1_fillRow (Cond.code yX1_fillRow cX1_fillRow 6 none :: wA) ({ frames := 7, cells := 0, slots := 0, locals := 280 }) (va_Pc [.ref (g 11), .int p0, .int p1, .int p2] (PX dC dI g c adK adV v F rc sz)) (va_Qv (fun (u : StX) => IX u.1 u.2.1 ∧ alX u.1 u.2.1 = alX v F ∧ u.2.2 = rc ∧ (∀ k, k ∉ ([126, 231] : List Nat) → u.1 k = v k) ∧ True) (BX dC dI g c) (AX g sz)) 0 0 (AX g sz) := by
  refine Met.ofW (cc := cX1_fillRow) (maxL := 6) (ret := none) (by decide) rfl ?_
  intro p e s m args below meth c0 s₁ B hml hv
  obtain ⟨rfl, hsz, hP, hK, hE⟩ := hv
  have hx := B.exec
  have hb := B.bytes
  have hr := B.returns
  have hts := atoms_spec (ws := Cond.code yX1_fillRow cX1_fillRow 6 none :: wA) B.pre
  have hwd : ∀ w ∈ wA, w.before _ s = true := fun w h => hts w (List.mem_cons_of_mem _ h)
  have hown : s.vm.findClass RX1 = some m.cls := findClass_of_methodNamed B.named
  have hlocks := B.notSynchronized
  subst hsz
  have hl := lv_entry ([.ref (g 11), .int p0, .int p1, .int p2]) (n := 6) (Nat.le_of_ble_eq_true rfl)
  rw [lg_entry_eq]
  generalize (lg_sl ([.ref (g 11), .int p0, .int p1, .int p2]) ++ List.replicate (6 - (lg_sl ([.ref (g 11), .int p0, .int p1, .int p2])).length) Slot.unset).toArray = ls at hl ⊢
  have hl : lv_has ls 6 [(0, .ref (g 11)), (1, .int p0), (2, .int p1), (3, .int p2)] := hl
  obtain ⟨H, eH⟩ : ∃ z, z = s.heap := ⟨_, rfl⟩
  have hP : va_P (dC, dI) classes (wX g c v F rc) H := by rw [eH]; exact hP
  have hS : va_S (AX g s.heap.size) s.heap H [] := by rw [eH]; exact va_S.rf
  refine my_heap eH ?_
  have hal : alX v F = alX v F := rfl
  have rp0 := i32_rng p0
  have rp1 := i32_rng p1
  have rp2 := i32_rng p2
  refine lv_aload_n hx hb dX1_fillRow_0 rfl (lv_at hl 0 rfl) ?_
  refine lv_iconst (v := 0) hx hb dX1_fillRow_1 (by decide) ?_
  refine va_put (D := (dC, dI)) (ci := 1) (v := .int 0) (ty := .int) (C := RX1) (T := TX1) (N := 13) (fs := fsX_11 g v rc) hx hb hwd inA_X1 tyX1 tyX1_ok nmX1 hown hK hP (DX hg) hS 11 rfl rfl 11 (by decide) (hwd _ wk_1277) (fun _ h9 => h9) rfl (by decide +kernel) rfl rfl (Nat.le_of_ble_eq_true rfl) dX1_fillRow_2 (fun H locs hP _ hS => ?_)
  have hP := va_P_eq (pX_231 g c _ _ _ _) hP
  have hI := IX.put hI 231 0 rfl (by have : (0 : Int32).toInt = 0 := (by decide); omega)
  have hal := (alX_v _ _ 231 0 (by decide) (by decide) (by decide) (by decide)).trans hal
  refine lv_iconst (v := 0) hx hb dX1_fillRow_5 (by decide) ?_
  refine lv_istore (lv' := [(4, .int 0), (0, .ref (g 11)), (1, .int p0), (2, .int p1), (3, .int p2)]) hx hb dX1_fillRow_6 hl (by decide) rfl (fun ls hl => ?_)
  have lp1858 : ∀ (n : Nat) (x4_lp1858 : Int32) (v_lp1858 : Nat → Int32) (F_lp1858 : Nat → Nat → Int32) (H : Heap) (locs : List Loc) (ls : Array Slot), (0 ≤ x4_lp1858.toInt) → (2147483648 - x4_lp1858.toInt ≤ (n : Int)) → (∀ k, k ∉ ([126, 231] : List Nat) → v_lp1858 k = (va_up v 231 0) k) → IX v_lp1858 F_lp1858 → alX v_lp1858 F_lp1858 = alX v F → va_P (dC, dI) classes (wX g c v_lp1858 F_lp1858 rc) H → va_S (AX g s.heap.size) s.heap H locs → lv_has ls 6 [(4, .int x4_lp1858), (0, .ref (g 11)), (1, .int p0), (2, .int p1), (3, .int p2)] → W p l e (headSpec (Cond.code yX1_fillRow cX1_fillRow 6 none :: wA) ({ frames := 7, cells := 0, slots := 0, locals := 280 })).room s m ([.ref (g 11), .int p0, .int p1, .int p2] : List Value).toArray below meth c0 H locs 0 0 (MQ below (va_Qv (fun (u : StX) => IX u.1 u.2.1 ∧ alX u.1 u.2.1 = alX v F ∧ u.2.2 = rc ∧ (∀ k, k ∉ ([126, 231] : List Nat) → u.1 k = v k) ∧ True) (BX dC dI g c) (AX g s.heap.size)) ([.ref (g 11), .int p0, .int p1, .int p2] : List Value).toArray s 0 0 (AX g s.heap.size)) (F0 m 8 ls []) := by
    intro n
    induction n with
    | zero =>
      intro x4_lp1858 v_lp1858 F_lp1858 H locs ls t1859 hm hf_lp1858 hI hal hP hS hl
      exfalso
      have := i32_rng x4_lp1858
      have hI1 := hI.1
      omega
    | succ n ih_lp1858 =>
      intro x4_lp1858 v_lp1858 F_lp1858 H locs ls t1859 hm hf_lp1858 hI hal hP hS hl
      have rx4_lp1858 := i32_rng x4_lp1858
      refine lv_iload hx hb dX1_fillRow_8 (lv_at hl 0 rfl) ?_
      refine lv_aload_n hx hb dX1_fillRow_10 rfl (lv_at hl 1 rfl) ?_
      refine va_get (D := (dC, dI)) (ci := 1) (v := .ref (g 3)) (C := RX1) (T := TX1) (N := 13) hx hb hwd inA_X1 hown hK hP 11 rfl rfl 3 (by decide) (hwd _ wk_175) (fun _ h9 => h9) rfl dX1_fillRow_11 ?_
      refine va_get (D := (dC, dI)) (ci := 7) (v := .int (v_lp1858 61)) (C := RX7) (T := TX7) (N := 7) hx hb hwd inA_X7 hown hK hP 3 rfl rfl 1 (by decide) (hwd _ wk_341) (fun _ h9 => h9) rfl dX1_fillRow_14 ?_
      refine my_top (v := v 61) (hf_lp1858 61 (by decide)) ?_
      have t1860 : 0 ≤ (v 61).toInt ∧ (v 61).toInt ≤ 100 := by have h9 := hI.1 61 _ _ rfl; rw [show v_lp1858 61 = v 61 from hf_lp1858 61 (by decide)] at h9; exact h9
      refine lv_icmp_ge (tgt := 105) hx hb dX1_fillRow_17 (by decide) (fun c1861 => ?_) (fun c1861 => ?_)
      · skip
        have t1862 := cv_le (a := (v 61).toInt) rfl (b := x4_lp1858.toInt) rfl c1861
        have hP9 : va_P (dC, dI) classes (wX g c v_lp1858 F_lp1858 rc) H := hP
        exact W.vret hx hb hr (fun t ht hW => ⟨⟨(v_lp1858, F_lp1858, rc), rfl, ⟨hI, hal, rfl, (frC (by decide) hf_lp1858 (frU (by decide) (fun _ _ => rfl))), trivial⟩, (by show va_P _ _ _ t.heap; rw [ht]; exact hP9)⟩, hS.F ht⟩) hS.2.2 dX1_fillRow_105
      · skip
        have t1863 := cv_nle (a := (v 61).toInt) rfl (b := x4_lp1858.toInt) rfl c1861
        refine lv_aload_n hx hb dX1_fillRow_20 rfl (lv_at hl 1 rfl) ?_
        refine va_get (D := (dC, dI)) (ci := 1) (v := .int (v_lp1858 231)) (C := RX1) (T := TX1) (N := 13) hx hb hwd inA_X1 hown hK hP 11 rfl rfl 11 (by decide) (hwd _ wk_1277) (fun _ h9 => h9) rfl dX1_fillRow_21 ?_
        have t1864 : 0 ≤ (v_lp1858 231).toInt ∧ (v_lp1858 231).toInt ≤ 8 := hI.1 231 _ _ rfl
        refine lv_aload_n hx hb dX1_fillRow_24 rfl (lv_at hl 1 rfl) ?_
        refine va_get (D := (dC, dI)) (ci := 1) (v := .ref (g 78)) (C := RX1) (T := TX1) (N := 13) hx hb hwd inA_X1 hown hK hP 11 rfl rfl 10 (by decide) (hwd _ wk_169) (fun _ h9 => h9) rfl dX1_fillRow_25 ?_
        refine va_alen (v := 8) hx hb hK hP 78 66 rfl rfl rfl dX1_fillRow_28 ?_
        refine lv_icmp_ge (tgt := 105) hx hb dX1_fillRow_29 (by decide) (fun c1865 => ?_) (fun c1865 => ?_)
        · skip
          have t1866 := cv_le (a := 8) (by decide) (b := (v_lp1858 231).toInt) rfl c1865
          have hP9 : va_P (dC, dI) classes (wX g c v_lp1858 F_lp1858 rc) H := hP
          exact W.vret hx hb hr (fun t ht hW => ⟨⟨(v_lp1858, F_lp1858, rc), rfl, ⟨hI, hal, rfl, (frC (by decide) hf_lp1858 (frU (by decide) (fun _ _ => rfl))), trivial⟩, (by show va_P _ _ _ t.heap; rw [ht]; exact hP9)⟩, hS.F ht⟩) hS.2.2 dX1_fillRow_105
        · skip
          have t1867 := cv_nle (a := 8) (by decide) (b := (v_lp1858 231).toInt) rfl c1865
          refine lv_aload_n hx hb dX1_fillRow_32 rfl (lv_at hl 1 rfl) ?_
          refine va_get (D := (dC, dI)) (ci := 1) (v := .ref (g 3)) (C := RX1) (T := TX1) (N := 13) hx hb hwd inA_X1 hown hK hP 11 rfl rfl 3 (by decide) (hwd _ wk_175) (fun _ h9 => h9) rfl dX1_fillRow_33 ?_
          refine va_get (D := (dC, dI)) (ci := 7) (v := .ref (g 26)) (C := RX7) (T := TX7) (N := 7) hx hb hwd inA_X7 hown hK hP 3 rfl rfl 4 (by decide) (hwd _ wk_342) (fun _ h9 => h9) rfl dX1_fillRow_36 ?_
          refine lv_iload hx hb dX1_fillRow_39 (lv_at hl 0 rfl) ?_
          refine va_iald hx hb hK hP 26 14 rfl rfl (i := x4_lp1858) (vin (a := x4_lp1858.toInt) rfl (by omega)) dX1_fillRow_41 ?_
          refine lv_topi (fun z1868 e1869 => ?_)
          refine lv_istore (lv' := [(5, .int z1868), (4, .int x4_lp1858), (0, .ref (g 11)), (1, .int p0), (2, .int p1), (3, .int p2)]) hx hb dX1_fillRow_42 hl (by decide) rfl (fun ls hl => ?_)
          refine lv_aload_n hx hb dX1_fillRow_44 rfl (lv_at hl 2 rfl) ?_
          refine va_get (D := (dC, dI)) (ci := 1) (v := .ref (g 3)) (C := RX1) (T := TX1) (N := 13) hx hb hwd inA_X1 hown hK hP 11 rfl rfl 3 (by decide) (hwd _ wk_175) (fun _ h9 => h9) rfl dX1_fillRow_45 ?_
          refine va_get (D := (dC, dI)) (ci := 7) (v := .ref (g 24)) (C := RX7) (T := TX7) (N := 7) hx hb hwd inA_X7 hown hK hP 3 rfl rfl 2 (by decide) (hwd _ wk_1152) (fun _ h9 => h9) rfl dX1_fillRow_48 ?_
          refine lv_iload hx hb dX1_fillRow_51 (lv_at hl 1 rfl) ?_
          refine va_iald hx hb hK hP 24 12 rfl rfl (i := x4_lp1858) (vin (a := x4_lp1858.toInt) rfl (by omega)) dX1_fillRow_53 ?_
          refine lv_topi (fun z1870 e1871 => ?_)
          have t1872 : 0 ≤ z1870.toInt ∧ z1870.toInt ≤ 9 := by rw [e1871]; exact hI.2 24 _ _ rfl _
          refine lv_iload_n hx hb dX1_fillRow_54 rfl (lv_at hl 4 rfl) ?_
          refine lv_icmp_ne (tgt := 99) hx hb dX1_fillRow_55 (by decide) (fun c1873 => ?_) (fun c1873 => ?_)
          · skip
            have t1874 := cv_ne (a := z1870.toInt) rfl (b := p1.toInt) rfl c1873
            obtain ⟨z1875, e1876⟩ : ∃ y : Int32, y = x4_lp1858 + 1 := ⟨_, rfl⟩
            try (have t1877 := tadd e1876 rfl (b := 1) (by decide) (by omega))
            refine lv_iinc (v := z1875) (lv' := [(4, .int z1875), (5, .int z1868), (0, .ref (g 11)), (1, .int p0), (2, .int p1), (3, .int p2)]) hx hb dX1_fillRow_99 hl (k := 1) rfl (by rw [e1876]; rfl) (by decide) rfl (fun ls hl => ?_)
            refine lv_goto (tgt := 8) hx hb dX1_fillRow_102 (by decide) ?_
            exact ih_lp1858 z1875 v_lp1858 F_lp1858 _ _ _ (by omega) (by omega) hf_lp1858 hI hal hP hS (lv_sub hl [0, 2, 3, 4, 5] rfl)
          · skip
            have t1878 := cv_eq (a := z1870.toInt) rfl (b := p1.toInt) rfl c1873
            refine lv_iload hx hb dX1_fillRow_58 (lv_at hl 0 rfl) ?_
            refine lv_iload_n hx hb dX1_fillRow_60 rfl (lv_at hl 3 rfl) ?_
            refine lv_icmp_eq (tgt := 71) hx hb dX1_fillRow_61 (by decide) (fun c1879 => ?_) (fun c1879 => ?_)
            · skip
              have t1880 := cv_eq (a := z1868.toInt) rfl (b := p0.toInt) rfl c1879
              refine lv_aload_n hx hb dX1_fillRow_71 rfl (lv_at hl 2 rfl) ?_
              refine lv_iload hx hb dX1_fillRow_72 (lv_at hl 1 rfl) ?_
              refine lv_iload_n hx hb dX1_fillRow_74 rfl (lv_at hl 5 rfl) ?_
              refine va_callv (va_runV (As := [.int x4_lp1858, .int p2]) (rest := []) ⟨hx, hb, hml, hown, hwd⟩ (c_X1_look l dC dI g c adK adV v_lp1858 F_lp1858 rc H.size x4_lp1858 p2 hg hI (by omega)) (cwV 2 hwd (gV wk_1156 wk_1153 wk_1154 wk_1155 wk_54) rfl rfl rfl (by decide +kernel) ⟨Nat.le_of_ble_eq_true rfl, Nat.le_of_ble_eq_true rfl⟩) ⟨PX.blind, va_recv hK hP (ci := 1) (q0 := 11) rfl rfl, fun U hU hW => ⟨rfl, PX.at hK hE hP hS hU hW⟩⟩ rfl rfl hl.1 rfl (lv_room (Nat.le_of_ble_eq_true rfl)) dX1_fillRow_75 ⟨Nat.le_of_ble_eq_true rfl, Nat.le_of_ble_eq_true rfl⟩) hS (fun q _ h => (freeX hS) q h) (freeX hS) (fun u t H1 locs ht hvm hw hB hz1 hk1 hS => ?_)
              unfold BX at hB
              rw [ht] at hB
              obtain ⟨v1882, F1883, rc9⟩ := u
              obtain ⟨hI, hal9, hrc, hf1884, hw⟩ := hw
              dsimp only at hI hal9 hrc hB hf1884 hw
              rw [hrc] at hB
              have hal := hal9.trans hal
              have hP : va_P (dC, dI) classes (wX g c v1882 F1883 rc) H1 := hB
              generalize H1 = H at hP hS ⊢
              refine lv_aload_n hx hb dX1_fillRow_78 rfl (lv_at hl 2 rfl) ?_
              refine va_get (D := (dC, dI)) (ci := 1) (v := .ref (g 78)) (C := RX1) (T := TX1) (N := 13) hx hb hwd inA_X1 hown hK hP 11 rfl rfl 10 (by decide) (hwd _ wk_169) (fun _ h9 => h9) rfl dX1_fillRow_79 ?_
              refine lv_aload_n hx hb dX1_fillRow_82 rfl (lv_at hl 2 rfl) ?_
              refine va_get (D := (dC, dI)) (ci := 1) (v := .int (v1882 231)) (C := RX1) (T := TX1) (N := 13) hx hb hwd inA_X1 hown hK hP 11 rfl rfl 11 (by decide) (hwd _ wk_1277) (fun _ h9 => h9) rfl dX1_fillRow_83 ?_
              refine my_top (v := v_lp1858 231) (hf1884 231 (by decide)) ?_
              have t1885 : 0 ≤ (v_lp1858 231).toInt ∧ (v_lp1858 231).toInt ≤ 8 := by have h9 := hI.1 231 _ _ rfl; rw [show v1882 231 = v_lp1858 231 from hf1884 231 (by decide)] at h9; exact h9
              refine lv_iload hx hb dX1_fillRow_86 (lv_at hl 1 rfl) ?_
              refine va_iast hx hb hK hP (DX hg) hS 78 66 rfl rfl (i := (v_lp1858 231)) (x := x4_lp1858) (vin (a := (v_lp1858 231).toInt) rfl (by omega)) dX1_fillRow_88 (fun H locs hP _ hS => ?_)
              have hP := va_P_eq (sX_78 g c _ _ _ _) hP
              have hI := IX.store hI 78 (v_lp1858 231 : Int32).toNatClampNeg x4_lp1858 rfl (by omega)
              have hal := (alX_F _ _ 78 (upd (F1883 78) (v_lp1858 231 : Int32).toNatClampNeg x4_lp1858) (by decide) (by decide) (by decide) (by decide) (by decide)).trans hal
              have hP : va_P (dC, dI) classes (wX g c v1882 (va_up F1883 78 (upd (F1883 78) (v_lp1858 231 : Int32).toNatClampNeg x4_lp1858)) rc) H := hP
              generalize (va_up F1883 78 (upd (F1883 78) (v_lp1858 231 : Int32).toNatClampNeg x4_lp1858)) = F1886 at hP hI hal
              refine lv_aload_n hx hb dX1_fillRow_89 rfl (lv_at hl 2 rfl) ?_
              refine lv_dup hx hb dX1_fillRow_90 rfl ?_
              refine va_get (D := (dC, dI)) (ci := 1) (v := .int (v1882 231)) (C := RX1) (T := TX1) (N := 13) hx hb hwd inA_X1 hown hK hP 11 rfl rfl 11 (by decide) (hwd _ wk_1277) (fun _ h9 => h9) rfl dX1_fillRow_91 ?_
              refine my_top (v := v_lp1858 231) (hf1884 231 (by decide)) ?_
              have t1887 : 0 ≤ (v_lp1858 231).toInt ∧ (v_lp1858 231).toInt ≤ 8 := by have h9 := hI.1 231 _ _ rfl; rw [show v1882 231 = v_lp1858 231 from hf1884 231 (by decide)] at h9; exact h9
              refine lv_iconst (v := 1) hx hb dX1_fillRow_94 (by decide) ?_
              refine lv_iadd hx hb dX1_fillRow_95 ?_
              refine lv_topi (fun z1888 e1889 => ?_)
              try (have t1890 := tadd e1889 (a := (v_lp1858 231).toInt) rfl (b := 1) (by decide) (by omega))
              refine va_put (D := (dC, dI)) (ci := 1) (v := .int z1888) (ty := .int) (C := RX1) (T := TX1) (N := 13) (fs := fsX_11 g v1882 rc) hx hb hwd inA_X1 tyX1 tyX1_ok nmX1 hown hK hP (DX hg) hS 11 rfl rfl 11 (by decide) (hwd _ wk_1277) (fun _ h9 => h9) rfl (by decide +kernel) rfl rfl (Nat.le_of_ble_eq_true rfl) dX1_fillRow_96 (fun H locs hP _ hS => ?_)
              have hP := va_P_eq (pX_231 g c _ _ _ _) hP
              have hI := IX.put hI 231 z1888 rfl (by omega)
              have hal := (alX_v _ _ 231 z1888 (by decide) (by decide) (by decide) (by decide)).trans hal
              obtain ⟨z1891, e1892⟩ : ∃ y : Int32, y = x4_lp1858 + 1 := ⟨_, rfl⟩
              try (have t1893 := tadd e1892 rfl (b := 1) (by decide) (by omega))
              refine lv_iinc (v := z1891) (lv' := [(4, .int z1891), (5, .int z1868), (0, .ref (g 11)), (1, .int p0), (2, .int p1), (3, .int p2)]) hx hb dX1_fillRow_99 hl (k := 1) rfl (by rw [e1892]; rfl) (by decide) rfl (fun ls hl => ?_)
              refine lv_goto (tgt := 8) hx hb dX1_fillRow_102 (by decide) ?_
              exact ih_lp1858 z1891 (va_up v1882 231 z1888) F1886 _ _ _ (by omega) (by omega) (frU (by decide) (frC (by decide) hf1884 hf_lp1858)) hI hal hP hS (lv_sub hl [0, 2, 3, 4, 5] rfl)
            · skip
              have t1894 := cv_ne (a := z1868.toInt) rfl (b := p0.toInt) rfl c1879
              refine lv_iload hx hb dX1_fillRow_64 (lv_at hl 0 rfl) ?_
              refine lv_bipush (v := 11) hx hb dX1_fillRow_66 (by decide) ?_
              refine lv_icmp_ne (tgt := 99) hx hb dX1_fillRow_68 (by decide) (fun c1895 => ?_) (fun c1895 => ?_)
              · skip
                have t1896 := cv_ne (a := z1868.toInt) rfl (b := 11) (by decide) c1895
                obtain ⟨z1897, e1898⟩ : ∃ y : Int32, y = x4_lp1858 + 1 := ⟨_, rfl⟩
                try (have t1899 := tadd e1898 rfl (b := 1) (by decide) (by omega))
                refine lv_iinc (v := z1897) (lv' := [(4, .int z1897), (5, .int z1868), (0, .ref (g 11)), (1, .int p0), (2, .int p1), (3, .int p2)]) hx hb dX1_fillRow_99 hl (k := 1) rfl (by rw [e1898]; rfl) (by decide) rfl (fun ls hl => ?_)
                refine lv_goto (tgt := 8) hx hb dX1_fillRow_102 (by decide) ?_
                exact ih_lp1858 z1897 v_lp1858 F_lp1858 _ _ _ (by omega) (by omega) hf_lp1858 hI hal hP hS (lv_sub hl [0, 2, 3, 4, 5] rfl)
              · skip
                have t1900 := cv_eq (a := z1868.toInt) rfl (b := 11) (by decide) c1895
                refine lv_aload_n hx hb dX1_fillRow_71 rfl (lv_at hl 2 rfl) ?_
                refine lv_iload hx hb dX1_fillRow_72 (lv_at hl 1 rfl) ?_
                refine lv_iload_n hx hb dX1_fillRow_74 rfl (lv_at hl 5 rfl) ?_
                refine va_callv (va_runV (As := [.int x4_lp1858, .int p2]) (rest := []) ⟨hx, hb, hml, hown, hwd⟩ (c_X1_look l dC dI g c adK adV v_lp1858 F_lp1858 rc H.size x4_lp1858 p2 hg hI (by omega)) (cwV 2 hwd (gV wk_1156 wk_1153 wk_1154 wk_1155 wk_54) rfl rfl rfl (by decide +kernel) ⟨Nat.le_of_ble_eq_true rfl, Nat.le_of_ble_eq_true rfl⟩) ⟨PX.blind, va_recv hK hP (ci := 1) (q0 := 11) rfl rfl, fun U hU hW => ⟨rfl, PX.at hK hE hP hS hU hW⟩⟩ rfl rfl hl.1 rfl (lv_room (Nat.le_of_ble_eq_true rfl)) dX1_fillRow_75 ⟨Nat.le_of_ble_eq_true rfl, Nat.le_of_ble_eq_true rfl⟩) hS (fun q _ h => (freeX hS) q h) (freeX hS) (fun u t H1 locs ht hvm hw hB hz1 hk1 hS => ?_)
                unfold BX at hB
                rw [ht] at hB
                obtain ⟨v1902, F1903, rc9⟩ := u
                obtain ⟨hI, hal9, hrc, hf1904, hw⟩ := hw
                dsimp only at hI hal9 hrc hB hf1904 hw
                rw [hrc] at hB
                have hal := hal9.trans hal
                have hP : va_P (dC, dI) classes (wX g c v1902 F1903 rc) H1 := hB
                generalize H1 = H at hP hS ⊢
                refine lv_aload_n hx hb dX1_fillRow_78 rfl (lv_at hl 2 rfl) ?_
                refine va_get (D := (dC, dI)) (ci := 1) (v := .ref (g 78)) (C := RX1) (T := TX1) (N := 13) hx hb hwd inA_X1 hown hK hP 11 rfl rfl 10 (by decide) (hwd _ wk_169) (fun _ h9 => h9) rfl dX1_fillRow_79 ?_
                refine lv_aload_n hx hb dX1_fillRow_82 rfl (lv_at hl 2 rfl) ?_
                refine va_get (D := (dC, dI)) (ci := 1) (v := .int (v1902 231)) (C := RX1) (T := TX1) (N := 13) hx hb hwd inA_X1 hown hK hP 11 rfl rfl 11 (by decide) (hwd _ wk_1277) (fun _ h9 => h9) rfl dX1_fillRow_83 ?_
                refine my_top (v := v_lp1858 231) (hf1904 231 (by decide)) ?_
                have t1905 : 0 ≤ (v_lp1858 231).toInt ∧ (v_lp1858 231).toInt ≤ 8 := by have h9 := hI.1 231 _ _ rfl; rw [show v1902 231 = v_lp1858 231 from hf1904 231 (by decide)] at h9; exact h9
                refine lv_iload hx hb dX1_fillRow_86 (lv_at hl 1 rfl) ?_
                refine va_iast hx hb hK hP (DX hg) hS 78 66 rfl rfl (i := (v_lp1858 231)) (x := x4_lp1858) (vin (a := (v_lp1858 231).toInt) rfl (by omega)) dX1_fillRow_88 (fun H locs hP _ hS => ?_)
                have hP := va_P_eq (sX_78 g c _ _ _ _) hP
                have hI := IX.store hI 78 (v_lp1858 231 : Int32).toNatClampNeg x4_lp1858 rfl (by omega)
                have hal := (alX_F _ _ 78 (upd (F1903 78) (v_lp1858 231 : Int32).toNatClampNeg x4_lp1858) (by decide) (by decide) (by decide) (by decide) (by decide)).trans hal
                have hP : va_P (dC, dI) classes (wX g c v1902 (va_up F1903 78 (upd (F1903 78) (v_lp1858 231 : Int32).toNatClampNeg x4_lp1858)) rc) H := hP
                generalize (va_up F1903 78 (upd (F1903 78) (v_lp1858 231 : Int32).toNatClampNeg x4_lp1858)) = F1906 at hP hI hal
                refine lv_aload_n hx hb dX1_fillRow_89 rfl (lv_at hl 2 rfl) ?_
                refine lv_dup hx hb dX1_fillRow_90 rfl ?_
                refine va_get (D := (dC, dI)) (ci := 1) (v := .int (v1902 231)) (C := RX1) (T := TX1) (N := 13) hx hb hwd inA_X1 hown hK hP 11 rfl rfl 11 (by decide) (hwd _ wk_1277) (fun _ h9 => h9) rfl dX1_fillRow_91 ?_
                refine my_top (v := v_lp1858 231) (hf1904 231 (by decide)) ?_
                have t1907 : 0 ≤ (v_lp1858 231).toInt ∧ (v_lp1858 231).toInt ≤ 8 := by have h9 := hI.1 231 _ _ rfl; rw [show v1902 231 = v_lp1858 231 from hf1904 231 (by decide)] at h9; exact h9
                refine lv_iconst (v := 1) hx hb dX1_fillRow_94 (by decide) ?_
                refine lv_iadd hx hb dX1_fillRow_95 ?_
                refine lv_topi (fun z1908 e1909 => ?_)
                try (have t1910 := tadd e1909 (a := (v_lp1858 231).toInt) rfl (b := 1) (by decide) (by omega))
                refine va_put (D := (dC, dI)) (ci := 1) (v := .int z1908) (ty := .int) (C := RX1) (T := TX1) (N := 13) (fs := fsX_11 g v1902 rc) hx hb hwd inA_X1 tyX1 tyX1_ok nmX1 hown hK hP (DX hg) hS 11 rfl rfl 11 (by decide) (hwd _ wk_1277) (fun _ h9 => h9) rfl (by decide +kernel) rfl rfl (Nat.le_of_ble_eq_true rfl) dX1_fillRow_96 (fun H locs hP _ hS => ?_)
                have hP := va_P_eq (pX_231 g c _ _ _ _) hP
                have hI := IX.put hI 231 z1908 rfl (by omega)
                have hal := (alX_v _ _ 231 z1908 (by decide) (by decide) (by decide) (by decide)).trans hal
                obtain ⟨z1911, e1912⟩ : ∃ y : Int32, y = x4_lp1858 + 1 := ⟨_, rfl⟩
                try (have t1913 := tadd e1912 rfl (b := 1) (by decide) (by omega))
                refine lv_iinc (v := z1911) (lv' := [(4, .int z1911), (5, .int z1868), (0, .ref (g 11)), (1, .int p0), (2, .int p1), (3, .int p2)]) hx hb dX1_fillRow_99 hl (k := 1) rfl (by rw [e1912]; rfl) (by decide) rfl (fun ls hl => ?_)
                refine lv_goto (tgt := 8) hx hb dX1_fillRow_102 (by decide) ?_
                exact ih_lp1858 z1911 (va_up v1902 231 z1908) F1906 _ _ _ (by omega) (by omega) (frU (by decide) (frC (by decide) hf1904 hf_lp1858)) hI hal hP hS (lv_sub hl [0, 2, 3, 4, 5] rfl)
  obtain ⟨n9, hn9⟩ : ∃ n : Nat, 2147483648 - 0 ≤ (n : Int) := ⟨((2147483648 - 0 : Int)).toNat, by omega⟩
  exact lp1858 n9 0 (va_up v 231 0) F H _ ls (by have : (0 : Int32).toInt = 0 := (by decide); omega) (by have : (0 : Int32).toInt = 0 := (by decide); omega) (fun _ _ => rfl) hI hal hP hS hl
set_option maxHeartbeats 8000000 in
set_option maxRecDepth 100000 in
theorem c_X1_judgeOfRow (l : Launch) (dC : Nat → ClassId) (dI : Nat → Nat → Nat) (g : Nat → Nat) (c : Nat → ClassId) (adK adV : Nat → Nat) (v : Nat → Int32) (F : Nat → Nat → Int32) (rc sz : Nat) (p0 : Int32) (hg : injX g) (hI : IX v F) : Met l yX1_judgeOfRow (Cond.code yX1_judgeOfRow cX1_judgeOfRow 3 none :: wA) ({ frames := 2, cells := 0, slots := 0, locals := 80 }) (va_Pc [.ref (g 11), .int p0] (PX dC dI g c adK adV v F rc sz)) (va_Qv (fun (u : StX) => IX u.1 u.2.1 ∧ alX u.1 u.2.1 = alX v F ∧ u.2.2 = rc ∧ (∀ k, k ∉ ([229] : List Nat) → u.1 k = v k) ∧ True) (BX dC dI g c) (AX g sz)) 0 0 (AX g sz) := by
  refine Met.ofW (cc := cX1_judgeOfRow) (maxL := 3) (ret := none) (by decide) rfl ?_
  intro p e s m args below meth c0 s₁ B hml hv
  obtain ⟨rfl, hsz, hP, hK, hE⟩ := hv
  have hx := B.exec
  have hb := B.bytes
  have hr := B.returns
  have hts := atoms_spec (ws := Cond.code yX1_judgeOfRow cX1_judgeOfRow 3 none :: wA) B.pre
  have hwd : ∀ w ∈ wA, w.before _ s = true := fun w h => hts w (List.mem_cons_of_mem _ h)
  have hown : s.vm.findClass RX1 = some m.cls := findClass_of_methodNamed B.named
  have hlocks := B.notSynchronized
  subst hsz
  have hl := lv_entry ([.ref (g 11), .int p0]) (n := 3) (Nat.le_of_ble_eq_true rfl)
  rw [lg_entry_eq]
  generalize (lg_sl ([.ref (g 11), .int p0]) ++ List.replicate (3 - (lg_sl ([.ref (g 11), .int p0])).length) Slot.unset).toArray = ls at hl ⊢
  have hl : lv_has ls 3 [(0, .ref (g 11)), (1, .int p0)] := hl
  obtain ⟨H, eH⟩ : ∃ z, z = s.heap := ⟨_, rfl⟩
  have hP : va_P (dC, dI) classes (wX g c v F rc) H := by rw [eH]; exact hP
  have hS : va_S (AX g s.heap.size) s.heap H [] := by rw [eH]; exact va_S.rf
  refine my_heap eH ?_
  have hal : alX v F = alX v F := rfl
  have rp0 := i32_rng p0
  refine lv_iconst (v := 0) hx hb dX1_judgeOfRow_0 (by decide) ?_
  refine lv_istore_n (lv' := [(2, .int 0), (0, .ref (g 11)), (1, .int p0)]) hx hb dX1_judgeOfRow_1 rfl hl (by decide) rfl (fun ls hl => ?_)
  have lp1914 : ∀ (n : Nat) (x2_lp1914 : Int32) (v_lp1914 : Nat → Int32) (F_lp1914 : Nat → Nat → Int32) (H : Heap) (locs : List Loc) (ls : Array Slot), (0 ≤ x2_lp1914.toInt) → (2147483648 - x2_lp1914.toInt ≤ (n : Int)) → (∀ k, k ∉ ([229] : List Nat) → v_lp1914 k = v k) → IX v_lp1914 F_lp1914 → alX v_lp1914 F_lp1914 = alX v F → va_P (dC, dI) classes (wX g c v_lp1914 F_lp1914 rc) H → va_S (AX g s.heap.size) s.heap H locs → lv_has ls 3 [(2, .int x2_lp1914), (0, .ref (g 11)), (1, .int p0)] → W p l e (headSpec (Cond.code yX1_judgeOfRow cX1_judgeOfRow 3 none :: wA) ({ frames := 2, cells := 0, slots := 0, locals := 80 })).room s m ([.ref (g 11), .int p0] : List Value).toArray below meth c0 H locs 0 0 (MQ below (va_Qv (fun (u : StX) => IX u.1 u.2.1 ∧ alX u.1 u.2.1 = alX v F ∧ u.2.2 = rc ∧ (∀ k, k ∉ ([229] : List Nat) → u.1 k = v k) ∧ True) (BX dC dI g c) (AX g s.heap.size)) ([.ref (g 11), .int p0] : List Value).toArray s 0 0 (AX g s.heap.size)) (F0 m 2 ls []) := by
    intro n
    induction n with
    | zero =>
      intro x2_lp1914 v_lp1914 F_lp1914 H locs ls t1915 hm hf_lp1914 hI hal hP hS hl
      exfalso
      have := i32_rng x2_lp1914
      have hI1 := hI.1
      omega
    | succ n ih_lp1914 =>
      intro x2_lp1914 v_lp1914 F_lp1914 H locs ls t1915 hm hf_lp1914 hI hal hP hS hl
      have rx2_lp1914 := i32_rng x2_lp1914
      refine lv_iload_n hx hb dX1_judgeOfRow_2 rfl (lv_at hl 0 rfl) ?_
      refine lv_aload_n hx hb dX1_judgeOfRow_3 rfl (lv_at hl 1 rfl) ?_
      refine va_get (D := (dC, dI)) (ci := 1) (v := .int (v_lp1914 231)) (C := RX1) (T := TX1) (N := 13) hx hb hwd inA_X1 hown hK hP 11 rfl rfl 11 (by decide) (hwd _ wk_1277) (fun _ h9 => h9) rfl dX1_judgeOfRow_4 ?_
      refine my_top (v := v 231) (hf_lp1914 231 (by decide)) ?_
      have t1916 : 0 ≤ (v 231).toInt ∧ (v 231).toInt ≤ 8 := by have h9 := hI.1 231 _ _ rfl; rw [show v_lp1914 231 = v 231 from hf_lp1914 231 (by decide)] at h9; exact h9
      refine lv_icmp_ge (tgt := 35) hx hb dX1_judgeOfRow_7 (by decide) (fun c1917 => ?_) (fun c1917 => ?_)
      · skip
        have t1918 := cv_le (a := (v 231).toInt) rfl (b := x2_lp1914.toInt) rfl c1917
        have hP9 : va_P (dC, dI) classes (wX g c v_lp1914 F_lp1914 rc) H := hP
        exact W.vret hx hb hr (fun t ht hW => ⟨⟨(v_lp1914, F_lp1914, rc), rfl, ⟨hI, hal, rfl, (frC (by decide) hf_lp1914 (fun _ _ => rfl)), trivial⟩, (by show va_P _ _ _ t.heap; rw [ht]; exact hP9)⟩, hS.F ht⟩) hS.2.2 dX1_judgeOfRow_35
      · skip
        have t1919 := cv_nle (a := (v 231).toInt) rfl (b := x2_lp1914.toInt) rfl c1917
        refine lv_iload_n hx hb dX1_judgeOfRow_10 rfl (lv_at hl 2 rfl) ?_
        refine lv_iload_n hx hb dX1_judgeOfRow_11 rfl (lv_at hl 0 rfl) ?_
        refine lv_ishr hx hb dX1_judgeOfRow_12 ?_
        refine lv_topi (fun z1920 e1921 => ?_)
        refine lv_iconst (v := 1) hx hb dX1_judgeOfRow_13 (by decide) ?_
        refine lv_iand hx hb dX1_judgeOfRow_14 ?_
        refine lv_topi (fun z1923 e1924 => ?_)
        refine lv_iconst (v := 1) hx hb dX1_judgeOfRow_15 (by decide) ?_
        refine lv_icmp_ne (tgt := 29) hx hb dX1_judgeOfRow_16 (by decide) (fun c1926 => ?_) (fun c1926 => ?_)
        · skip
          have t1927 := cv_ne (a := z1923.toInt) rfl (b := 1) (by decide) c1926
          obtain ⟨z1928, e1929⟩ : ∃ y : Int32, y = x2_lp1914 + 1 := ⟨_, rfl⟩
          try (have t1930 := tadd e1929 rfl (b := 1) (by decide) (by omega))
          refine lv_iinc (v := z1928) (lv' := [(2, .int z1928), (0, .ref (g 11)), (1, .int p0)]) hx hb dX1_judgeOfRow_29 hl (k := 0) rfl (by rw [e1929]; rfl) (by decide) rfl (fun ls hl => ?_)
          refine lv_goto (tgt := 2) hx hb dX1_judgeOfRow_32 (by decide) ?_
          exact ih_lp1914 z1928 v_lp1914 F_lp1914 _ _ _ (by omega) (by omega) hf_lp1914 hI hal hP hS (lv_sub hl [0, 1, 2] rfl)
        · skip
          have t1931 := cv_eq (a := z1923.toInt) rfl (b := 1) (by decide) c1926
          refine lv_aload_n hx hb dX1_judgeOfRow_19 rfl (lv_at hl 1 rfl) ?_
          refine lv_aload_n hx hb dX1_judgeOfRow_20 rfl (lv_at hl 1 rfl) ?_
          refine va_get (D := (dC, dI)) (ci := 1) (v := .ref (g 78)) (C := RX1) (T := TX1) (N := 13) hx hb hwd inA_X1 hown hK hP 11 rfl rfl 10 (by decide) (hwd _ wk_169) (fun _ h9 => h9) rfl dX1_judgeOfRow_21 ?_
          refine lv_iload_n hx hb dX1_judgeOfRow_24 rfl (lv_at hl 0 rfl) ?_
          refine va_iald hx hb hK hP 78 66 rfl rfl (i := x2_lp1914) (vin (a := x2_lp1914.toInt) rfl (by omega)) dX1_judgeOfRow_25 ?_
          refine lv_topi (fun z1932 e1933 => ?_)
          have t1934 : 0 ≤ z1932.toInt ∧ z1932.toInt ≤ 99 := by rw [e1933]; exact hI.2 78 _ _ rfl _
          refine va_callv (va_runV (As := [.int z1932]) (rest := []) ⟨hx, hb, hml, hown, hwd⟩ (c_X1_judge l dC dI g c adK adV v_lp1914 F_lp1914 rc H.size z1932 hg hI (by omega)) (cwV 1 hwd (gV wk_1165 wk_1162 wk_1163 wk_1164 wk_54) rfl rfl rfl (by decide +kernel) ⟨Nat.le_of_ble_eq_true rfl, Nat.le_of_ble_eq_true rfl⟩) ⟨PX.blind, va_recv hK hP (ci := 1) (q0 := 11) rfl rfl, fun U hU hW => ⟨rfl, PX.at hK hE hP hS hU hW⟩⟩ rfl rfl hl.1 rfl (lv_room (Nat.le_of_ble_eq_true rfl)) dX1_judgeOfRow_26 ⟨Nat.le_of_ble_eq_true rfl, Nat.le_of_ble_eq_true rfl⟩) hS (fun q _ h => (freeX hS) q h) (freeX hS) (fun u t H1 locs ht hvm hw hB hz1 hk1 hS => ?_)
          unfold BX at hB
          rw [ht] at hB
          obtain ⟨v1936, F1937, rc9⟩ := u
          obtain ⟨hI, hal9, hrc, hf1938, hw⟩ := hw
          dsimp only at hI hal9 hrc hB hf1938 hw
          rw [hrc] at hB
          have hal := hal9.trans hal
          have hP : va_P (dC, dI) classes (wX g c v1936 F1937 rc) H1 := hB
          generalize H1 = H at hP hS ⊢
          obtain ⟨z1939, e1940⟩ : ∃ y : Int32, y = x2_lp1914 + 1 := ⟨_, rfl⟩
          try (have t1941 := tadd e1940 rfl (b := 1) (by decide) (by omega))
          refine lv_iinc (v := z1939) (lv' := [(2, .int z1939), (0, .ref (g 11)), (1, .int p0)]) hx hb dX1_judgeOfRow_29 hl (k := 0) rfl (by rw [e1940]; rfl) (by decide) rfl (fun ls hl => ?_)
          refine lv_goto (tgt := 2) hx hb dX1_judgeOfRow_32 (by decide) ?_
          exact ih_lp1914 z1939 v1936 F1937 _ _ _ (by omega) (by omega) (frC (by decide) hf1938 hf_lp1914) hI hal hP hS (lv_sub hl [0, 1, 2] rfl)
  obtain ⟨n9, hn9⟩ : ∃ n : Nat, 2147483648 - 0 ≤ (n : Int) := ⟨((2147483648 - 0 : Int)).toNat, by omega⟩
  exact lp1914 n9 0 v F H _ ls (by have : (0 : Int32).toInt = 0 := (by decide); omega) (by have : (0 : Int32).toInt = 0 := (by decide); omega) (fun _ _ => rfl) hI hal hP hS hl
set_option maxHeartbeats 8000000 in
set_option maxRecDepth 100000 in
theorem c_X1_countNotOn (l : Launch) (dC : Nat → ClassId) (dI : Nat → Nat → Nat) (g : Nat → Nat) (c : Nat → ClassId) (adK adV : Nat → Nat) (v : Nat → Int32) (F : Nat → Nat → Int32) (rc sz : Nat) (p0 : Int32) (p1 : Int32) (hg : injX g) (hI : IX v F) : Met l yX1_countNotOn (Cond.code yX1_countNotOn cX1_countNotOn 5 (some .int) :: wA) ({ frames := 1, cells := 0, slots := 0, locals := 40 }) (va_Pc [.ref (g 11), .int p0, .int p1] (PX dC dI g c adK adV v F rc sz)) (va_Qi (fun (r : Int32) (u : Unit) => True) (fun (_ : Unit) => BX dC dI g c (v, F, rc)) (AX g sz)) 0 0 (AX g sz) := by
  refine Met.ofW (cc := cX1_countNotOn) (maxL := 5) (ret := (some .int)) (by decide) rfl ?_
  intro p e s m args below meth c0 s₁ B hml hv
  obtain ⟨rfl, hsz, hP, hK, hE⟩ := hv
  have hx := B.exec
  have hb := B.bytes
  have hr := B.returns
  have hts := atoms_spec (ws := Cond.code yX1_countNotOn cX1_countNotOn 5 (some .int) :: wA) B.pre
  have hwd : ∀ w ∈ wA, w.before _ s = true := fun w h => hts w (List.mem_cons_of_mem _ h)
  have hown : s.vm.findClass RX1 = some m.cls := findClass_of_methodNamed B.named
  have hlocks := B.notSynchronized
  subst hsz
  have hl := lv_entry ([.ref (g 11), .int p0, .int p1]) (n := 5) (Nat.le_of_ble_eq_true rfl)
  rw [lg_entry_eq]
  generalize (lg_sl ([.ref (g 11), .int p0, .int p1]) ++ List.replicate (5 - (lg_sl ([.ref (g 11), .int p0, .int p1])).length) Slot.unset).toArray = ls at hl ⊢
  have hl : lv_has ls 5 [(0, .ref (g 11)), (1, .int p0), (2, .int p1)] := hl
  obtain ⟨H, eH⟩ : ∃ z, z = s.heap := ⟨_, rfl⟩
  have hP : va_P (dC, dI) classes (wX g c v F rc) H := by rw [eH]; exact hP
  have hS : va_S (AX g s.heap.size) s.heap H [] := by rw [eH]; exact va_S.rf
  refine my_heap eH ?_
  have rp0 := i32_rng p0
  have rp1 := i32_rng p1
  refine lv_iconst (v := 0) hx hb dX1_countNotOn_0 (by decide) ?_
  refine lv_istore_n (lv' := [(3, .int 0), (0, .ref (g 11)), (1, .int p0), (2, .int p1)]) hx hb dX1_countNotOn_1 rfl hl (by decide) rfl (fun ls hl => ?_)
  refine lv_iconst (v := 0) hx hb dX1_countNotOn_2 (by decide) ?_
  refine lv_istore (lv' := [(4, .int 0), (3, .int 0), (0, .ref (g 11)), (1, .int p0), (2, .int p1)]) hx hb dX1_countNotOn_3 hl (by decide) rfl (fun ls hl => ?_)
  have lp1942 : ∀ (n : Nat) (x4_lp1942 : Int32) (x3_lp1942 : Int32) (H : Heap) (locs : List Loc) (ls : Array Slot), (0 ≤ x4_lp1942.toInt) → (2147483648 - x4_lp1942.toInt ≤ (n : Int)) → va_P (dC, dI) classes (wX g c v F rc) H → va_S (AX g s.heap.size) s.heap H locs → lv_has ls 5 [(4, .int x4_lp1942), (3, .int x3_lp1942), (0, .ref (g 11)), (1, .int p0), (2, .int p1)] → W p l e (headSpec (Cond.code yX1_countNotOn cX1_countNotOn 5 (some .int) :: wA) ({ frames := 1, cells := 0, slots := 0, locals := 40 })).room s m ([.ref (g 11), .int p0, .int p1] : List Value).toArray below meth c0 H locs 0 0 (MQ below (va_Qi (fun (r : Int32) (u : Unit) => True) (fun (_ : Unit) => BX dC dI g c (v, F, rc)) (AX g s.heap.size)) ([.ref (g 11), .int p0, .int p1] : List Value).toArray s 0 0 (AX g s.heap.size)) (F0 m 5 ls []) := by
    intro n
    induction n with
    | zero =>
      intro x4_lp1942 x3_lp1942 H locs ls t1943 hm hP hS hl
      exfalso
      have := i32_rng x4_lp1942
      have := i32_rng x3_lp1942
      omega
    | succ n ih_lp1942 =>
      intro x4_lp1942 x3_lp1942 H locs ls t1943 hm hP hS hl
      have rx4_lp1942 := i32_rng x4_lp1942
      have rx3_lp1942 := i32_rng x3_lp1942
      refine lv_iload hx hb dX1_countNotOn_5 (lv_at hl 0 rfl) ?_
      refine lv_aload_n hx hb dX1_countNotOn_7 rfl (lv_at hl 2 rfl) ?_
      refine va_get (D := (dC, dI)) (ci := 1) (v := .int (v 231)) (C := RX1) (T := TX1) (N := 13) hx hb hwd inA_X1 hown hK hP 11 rfl rfl 11 (by decide) (hwd _ wk_1277) (fun _ h9 => h9) rfl dX1_countNotOn_8 ?_
      have t1944 : 0 ≤ (v 231).toInt ∧ (v 231).toInt ≤ 8 := hI.1 231 _ _ rfl
      refine lv_icmp_ge (tgt := 57) hx hb dX1_countNotOn_11 (by decide) (fun c1945 => ?_) (fun c1945 => ?_)
      · skip
        have t1946 := cv_le (a := (v 231).toInt) rfl (b := x4_lp1942.toInt) rfl c1945
        refine lv_iload_n hx hb dX1_countNotOn_57 rfl (lv_at hl 1 rfl) ?_
        have hP9 : va_P (dC, dI) classes (wX g c v F rc) H := hP
        exact W.iret (v := x3_lp1942) hx hb hr (fun t ht hW => ⟨⟨x3_lp1942, (), rfl, trivial, (by show va_P _ _ _ t.heap; rw [ht]; exact hP9)⟩, hS.F ht⟩) hS.2.2 dX1_countNotOn_58
      · skip
        have t1947 := cv_nle (a := (v 231).toInt) rfl (b := x4_lp1942.toInt) rfl c1945
        refine lv_iload_n hx hb dX1_countNotOn_14 rfl (lv_at hl 1 rfl) ?_
        refine lv_iload_n hx hb dX1_countNotOn_15 rfl (lv_at hl 3 rfl) ?_
        refine lv_iload hx hb dX1_countNotOn_16 (lv_at hl 0 rfl) ?_
        refine lv_ishr hx hb dX1_countNotOn_18 ?_
        refine lv_topi (fun z1948 e1949 => ?_)
        refine lv_iconst (v := 1) hx hb dX1_countNotOn_19 (by decide) ?_
        refine lv_iand hx hb dX1_countNotOn_20 ?_
        refine lv_topi (fun z1951 e1952 => ?_)
        refine lv_iconst (v := 1) hx hb dX1_countNotOn_21 (by decide) ?_
        refine lv_icmp_ne (tgt := 48) hx hb dX1_countNotOn_22 (by decide) (fun c1954 => ?_) (fun c1954 => ?_)
        · skip
          have t1955 := cv_ne (a := z1951.toInt) rfl (b := 1) (by decide) c1954
          refine lv_iconst (v := 0) hx hb dX1_countNotOn_48 (by decide) ?_
          refine lv_iadd hx hb dX1_countNotOn_49 ?_
          refine lv_topi (fun z1956 e1957 => ?_)
          try (have t1958 := tadd e1957 (a := x3_lp1942.toInt) rfl (b := 0) (by decide) (by omega))
          refine lv_istore_n (lv' := [(3, .int z1956), (4, .int x4_lp1942), (0, .ref (g 11)), (1, .int p0), (2, .int p1)]) hx hb dX1_countNotOn_50 rfl hl (by decide) rfl (fun ls hl => ?_)
          obtain ⟨z1959, e1960⟩ : ∃ y : Int32, y = x4_lp1942 + 1 := ⟨_, rfl⟩
          try (have t1961 := tadd e1960 rfl (b := 1) (by decide) (by omega))
          refine lv_iinc (v := z1959) (lv' := [(4, .int z1959), (3, .int z1956), (0, .ref (g 11)), (1, .int p0), (2, .int p1)]) hx hb dX1_countNotOn_51 hl (k := 1) rfl (by rw [e1960]; rfl) (by decide) rfl (fun ls hl => ?_)
          refine lv_goto (tgt := 5) hx hb dX1_countNotOn_54 (by decide) ?_
          exact ih_lp1942 z1959 z1956  _ _ _ (by omega) (by omega) hP hS (lv_sub hl [0, 1, 2, 3, 4] rfl)
        · skip
          have t1962 := cv_eq (a := z1951.toInt) rfl (b := 1) (by decide) c1954
          refine lv_aload_n hx hb dX1_countNotOn_25 rfl (lv_at hl 2 rfl) ?_
          refine va_get (D := (dC, dI)) (ci := 1) (v := .ref (g 3)) (C := RX1) (T := TX1) (N := 13) hx hb hwd inA_X1 hown hK hP 11 rfl rfl 3 (by decide) (hwd _ wk_175) (fun _ h9 => h9) rfl dX1_countNotOn_26 ?_
          refine va_get (D := (dC, dI)) (ci := 7) (v := .ref (g 26)) (C := RX7) (T := TX7) (N := 7) hx hb hwd inA_X7 hown hK hP 3 rfl rfl 4 (by decide) (hwd _ wk_342) (fun _ h9 => h9) rfl dX1_countNotOn_29 ?_
          refine lv_aload_n hx hb dX1_countNotOn_32 rfl (lv_at hl 2 rfl) ?_
          refine va_get (D := (dC, dI)) (ci := 1) (v := .ref (g 78)) (C := RX1) (T := TX1) (N := 13) hx hb hwd inA_X1 hown hK hP 11 rfl rfl 10 (by decide) (hwd _ wk_169) (fun _ h9 => h9) rfl dX1_countNotOn_33 ?_
          refine lv_iload hx hb dX1_countNotOn_36 (lv_at hl 0 rfl) ?_
          refine va_iald hx hb hK hP 78 66 rfl rfl (i := x4_lp1942) (vin (a := x4_lp1942.toInt) rfl (by omega)) dX1_countNotOn_38 ?_
          refine lv_topi (fun z1963 e1964 => ?_)
          have t1965 : 0 ≤ z1963.toInt ∧ z1963.toInt ≤ 99 := by rw [e1964]; exact hI.2 78 _ _ rfl _
          refine va_iald hx hb hK hP 26 14 rfl rfl (i := z1963) (vin (a := z1963.toInt) rfl (by omega)) dX1_countNotOn_39 ?_
          refine lv_topi (fun z1966 e1967 => ?_)
          refine lv_iload_n hx hb dX1_countNotOn_40 rfl (lv_at hl 4 rfl) ?_
          refine lv_icmp_eq (tgt := 48) hx hb dX1_countNotOn_41 (by decide) (fun c1968 => ?_) (fun c1968 => ?_)
          · skip
            have t1969 := cv_eq (a := z1966.toInt) rfl (b := p1.toInt) rfl c1968
            refine lv_iconst (v := 0) hx hb dX1_countNotOn_48 (by decide) ?_
            refine lv_iadd hx hb dX1_countNotOn_49 ?_
            refine lv_topi (fun z1970 e1971 => ?_)
            try (have t1972 := tadd e1971 (a := x3_lp1942.toInt) rfl (b := 0) (by decide) (by omega))
            refine lv_istore_n (lv' := [(3, .int z1970), (4, .int x4_lp1942), (0, .ref (g 11)), (1, .int p0), (2, .int p1)]) hx hb dX1_countNotOn_50 rfl hl (by decide) rfl (fun ls hl => ?_)
            obtain ⟨z1973, e1974⟩ : ∃ y : Int32, y = x4_lp1942 + 1 := ⟨_, rfl⟩
            try (have t1975 := tadd e1974 rfl (b := 1) (by decide) (by omega))
            refine lv_iinc (v := z1973) (lv' := [(4, .int z1973), (3, .int z1970), (0, .ref (g 11)), (1, .int p0), (2, .int p1)]) hx hb dX1_countNotOn_51 hl (k := 1) rfl (by rw [e1974]; rfl) (by decide) rfl (fun ls hl => ?_)
            refine lv_goto (tgt := 5) hx hb dX1_countNotOn_54 (by decide) ?_
            exact ih_lp1942 z1973 z1970  _ _ _ (by omega) (by omega) hP hS (lv_sub hl [0, 1, 2, 3, 4] rfl)
          · skip
            have t1976 := cv_ne (a := z1966.toInt) rfl (b := p1.toInt) rfl c1968
            refine lv_iconst (v := 1) hx hb dX1_countNotOn_44 (by decide) ?_
            refine lv_goto (tgt := 49) hx hb dX1_countNotOn_45 (by decide) ?_
            refine lv_iadd hx hb dX1_countNotOn_49 ?_
            refine lv_topi (fun z1977 e1978 => ?_)
            try (have t1979 := tadd e1978 (a := x3_lp1942.toInt) rfl (b := 1) (by decide) (by omega))
            refine lv_istore_n (lv' := [(3, .int z1977), (4, .int x4_lp1942), (0, .ref (g 11)), (1, .int p0), (2, .int p1)]) hx hb dX1_countNotOn_50 rfl hl (by decide) rfl (fun ls hl => ?_)
            obtain ⟨z1980, e1981⟩ : ∃ y : Int32, y = x4_lp1942 + 1 := ⟨_, rfl⟩
            try (have t1982 := tadd e1981 rfl (b := 1) (by decide) (by omega))
            refine lv_iinc (v := z1980) (lv' := [(4, .int z1980), (3, .int z1977), (0, .ref (g 11)), (1, .int p0), (2, .int p1)]) hx hb dX1_countNotOn_51 hl (k := 1) rfl (by rw [e1981]; rfl) (by decide) rfl (fun ls hl => ?_)
            refine lv_goto (tgt := 5) hx hb dX1_countNotOn_54 (by decide) ?_
            exact ih_lp1942 z1980 z1977  _ _ _ (by omega) (by omega) hP hS (lv_sub hl [0, 1, 2, 3, 4] rfl)
  obtain ⟨n9, hn9⟩ : ∃ n : Nat, 2147483648 - 0 ≤ (n : Int) := ⟨((2147483648 - 0 : Int)).toNat, by omega⟩
  exact lp1942 n9 0 0  H _ ls (by have : (0 : Int32).toInt = 0 := (by decide); have : (0 : Int32).toInt = 0 := (by decide); omega) (by have : (0 : Int32).toInt = 0 := (by decide); have : (0 : Int32).toInt = 0 := (by decide); omega) hP hS hl
