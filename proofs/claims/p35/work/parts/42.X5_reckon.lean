set_option maxHeartbeats 8000000 in
set_option maxRecDepth 100000 in
theorem c_X5_reckon (l : Launch) (dC : Nat → ClassId) (dI : Nat → Nat → Nat) (g : Nat → Nat) (c : Nat → ClassId) (adK adV : Nat → Nat) (v : Nat → Int32) (F : Nat → Nat → Int32) (rc sz : Nat) (p0 : Int32) (p1 : Int32) (hg : injX g) (hI : IX v F) (h0 : 0 ≤ p0.toInt ∧ p0.toInt ≤ 99) : Met l yX5_reckon (Cond.code yX5_reckon cX5_reckon 6 none :: wA) ({ frames := 5, cells := 0, slots := 0, locals := 200 }) (va_Pc [.ref (g 10), .int p0, .int p1] (PX dC dI g c adK adV v F rc sz)) (va_Qv (fun (u : StX) => IX u.1 u.2.1 ∧ alX u.1 u.2.1 = alX v F ∧ u.2.2 = rc ∧ (∀ k, k ∉ ([126] : List Nat) → u.1 k = v k) ∧ True) (BX dC dI g c) (AX g sz)) 0 0 (AX g sz) := by
  refine Met.ofW (cc := cX5_reckon) (maxL := 6) (ret := none) (by decide) rfl ?_
  intro p e s m args below meth c0 s₁ B hml hv
  obtain ⟨rfl, hsz, hP, hK, hE⟩ := hv
  have hx := B.exec
  have hb := B.bytes
  have hr := B.returns
  have hts := atoms_spec (ws := Cond.code yX5_reckon cX5_reckon 6 none :: wA) B.pre
  have hwd : ∀ w ∈ wA, w.before _ s = true := fun w h => hts w (List.mem_cons_of_mem _ h)
  have hown : s.vm.findClass RX5 = some m.cls := findClass_of_methodNamed B.named
  have hlocks := B.notSynchronized
  subst hsz
  have hl := lv_entry ([.ref (g 10), .int p0, .int p1]) (n := 6) (Nat.le_of_ble_eq_true rfl)
  rw [lg_entry_eq]
  generalize (lg_sl ([.ref (g 10), .int p0, .int p1]) ++ List.replicate (6 - (lg_sl ([.ref (g 10), .int p0, .int p1])).length) Slot.unset).toArray = ls at hl ⊢
  have hl : lv_has ls 6 [(0, .ref (g 10)), (1, .int p0), (2, .int p1)] := hl
  obtain ⟨H, eH⟩ : ∃ z, z = s.heap := ⟨_, rfl⟩
  have hP : va_P (dC, dI) classes (wX g c v F rc) H := by rw [eH]; exact hP
  have hS : va_S (AX g s.heap.size) s.heap H [] := by rw [eH]; exact va_S.rf
  refine my_heap eH ?_
  have hal : alX v F = alX v F := rfl
  have rp0 := i32_rng p0
  have rp1 := i32_rng p1
  refine lv_aload_n hx hb dX5_reckon_0 rfl (lv_at hl 0 rfl) ?_
  refine va_get (D := (dC, dI)) (ci := 5) (v := .ref (g 3)) (C := RX5) (T := TX5) (N := 6) hx hb hwd inA_X5 hown hK hP 10 rfl rfl 1 (by decide) (hwd _ wk_146) (fun _ h9 => h9) rfl dX5_reckon_1 ?_
  refine va_get (D := (dC, dI)) (ci := 7) (v := .ref (g 24)) (C := RX7) (T := TX7) (N := 7) hx hb hwd inA_X7 hown hK hP 3 rfl rfl 2 (by decide) (hwd _ wk_355) (fun _ h9 => h9) rfl dX5_reckon_4 ?_
  refine lv_iload_n hx hb dX5_reckon_7 rfl (lv_at hl 1 rfl) ?_
  refine va_iald hx hb hK hP 24 12 rfl rfl (i := p0) (vin (a := p0.toInt) rfl (by omega)) dX5_reckon_8 ?_
  refine lv_topi (fun z1530 e1531 => ?_)
  have t1532 : 0 ≤ z1530.toInt ∧ z1530.toInt ≤ 9 := by rw [e1531]; exact hI.2 24 _ _ rfl _
  refine lv_istore_n (lv' := [(3, .int z1530), (0, .ref (g 10)), (1, .int p0), (2, .int p1)]) hx hb dX5_reckon_9 rfl hl (by decide) rfl (fun ls hl => ?_)
  refine lv_iconst (v := 0) hx hb dX5_reckon_10 (by decide) ?_
  refine lv_istore (lv' := [(4, .int 0), (3, .int z1530), (0, .ref (g 10)), (1, .int p0), (2, .int p1)]) hx hb dX5_reckon_11 hl (by decide) rfl (fun ls hl => ?_)
  have lp1533 : ∀ (n : Nat) (x4_lp1533 : Int32) (v_lp1533 : Nat → Int32) (F_lp1533 : Nat → Nat → Int32) (H : Heap) (locs : List Loc) (ls : Array Slot), (0 ≤ x4_lp1533.toInt) → (2147483648 - x4_lp1533.toInt ≤ (n : Int)) → (∀ k, k ∉ ([] : List Nat) → v_lp1533 k = v k) → IX v_lp1533 F_lp1533 → alX v_lp1533 F_lp1533 = alX v F → va_P (dC, dI) classes (wX g c v_lp1533 F_lp1533 rc) H → va_S (AX g s.heap.size) s.heap H locs → lv_has ls 6 [(4, .int x4_lp1533), (3, .int z1530), (0, .ref (g 10)), (1, .int p0), (2, .int p1)] → W p l e (headSpec (Cond.code yX5_reckon cX5_reckon 6 none :: wA) ({ frames := 5, cells := 0, slots := 0, locals := 200 })).room s m ([.ref (g 10), .int p0, .int p1] : List Value).toArray below meth c0 H locs 0 0 (MQ below (va_Qv (fun (u : StX) => IX u.1 u.2.1 ∧ alX u.1 u.2.1 = alX v F ∧ u.2.2 = rc ∧ (∀ k, k ∉ ([126] : List Nat) → u.1 k = v k) ∧ True) (BX dC dI g c) (AX g s.heap.size)) ([.ref (g 10), .int p0, .int p1] : List Value).toArray s 0 0 (AX g s.heap.size)) (F0 m 13 ls []) := by
    intro n
    induction n with
    | zero =>
      intro x4_lp1533 v_lp1533 F_lp1533 H locs ls t1534 hm hf_lp1533 hI hal hP hS hl
      exfalso
      have := i32_rng x4_lp1533
      have hI1 := hI.1
      omega
    | succ n ih_lp1533 =>
      intro x4_lp1533 v_lp1533 F_lp1533 H locs ls t1534 hm hf_lp1533 hI hal hP hS hl
      have rx4_lp1533 := i32_rng x4_lp1533
      refine lv_iload hx hb dX5_reckon_13 (lv_at hl 0 rfl) ?_
      refine lv_iconst (v := 3) hx hb dX5_reckon_15 (by decide) ?_
      refine lv_icmp_ge (tgt := 53) hx hb dX5_reckon_16 (by decide) (fun c1535 => ?_) (fun c1535 => ?_)
      · skip
        have t1536 := cv_le (a := 3) (by decide) (b := x4_lp1533.toInt) rfl c1535
        refine lv_aload_n hx hb dX5_reckon_53 rfl (lv_at hl 2 rfl) ?_
        refine va_get (D := (dC, dI)) (ci := 5) (v := .ref (g 4)) (C := RX5) (T := TX5) (N := 6) hx hb hwd inA_X5 hown hK hP 10 rfl rfl 2 (by decide) (hwd _ wk_148) (fun _ h9 => h9) rfl dX5_reckon_54 ?_
        refine va_get (D := (dC, dI)) (ci := 9) (v := .ref (g 38)) (C := RX9) (T := TX9) (N := 11) hx hb hwd inA_X9 hown hK hP 4 rfl rfl 10 (by decide) (hwd _ wk_360) (fun _ h9 => h9) rfl dX5_reckon_57 ?_
        refine lv_iload_n hx hb dX5_reckon_60 rfl (lv_at hl 3 rfl) ?_
        refine va_iald hx hb hK hP 38 26 rfl rfl (i := p0) (vin (a := p0.toInt) rfl (by omega)) dX5_reckon_61 ?_
        refine lv_topi (fun z1537 e1538 => ?_)
        have t1539 : -1 ≤ z1537.toInt ∧ z1537.toInt ≤ 499 := by rw [e1538]; exact hI.2 38 _ _ rfl _
        refine lv_istore (lv' := [(4, .int z1537), (3, .int z1530), (0, .ref (g 10)), (1, .int p0), (2, .int p1)]) hx hb dX5_reckon_62 hl (by decide) rfl (fun ls hl => ?_)
        refine lv_iconst (v := 0) hx hb dX5_reckon_64 (by decide) ?_
        refine lv_istore (lv' := [(5, .int 0), (4, .int z1537), (3, .int z1530), (0, .ref (g 10)), (1, .int p0), (2, .int p1)]) hx hb dX5_reckon_65 hl (by decide) rfl (fun ls hl => ?_)
        have lp1540 : ∀ (n : Nat) (x5_lp1540 : Int32) (x4_lp1540 : Int32) (v_lp1540 : Nat → Int32) (F_lp1540 : Nat → Nat → Int32) (H : Heap) (locs : List Loc) (ls : Array Slot), (0 ≤ x5_lp1540.toInt) → (-1 ≤ x4_lp1540.toInt) → (x4_lp1540.toInt ≤ 499) → (2147483648 - x5_lp1540.toInt ≤ (n : Int)) → (∀ k, k ∉ ([126] : List Nat) → v_lp1540 k = v_lp1533 k) → IX v_lp1540 F_lp1540 → alX v_lp1540 F_lp1540 = alX v F → va_P (dC, dI) classes (wX g c v_lp1540 F_lp1540 rc) H → va_S (AX g s.heap.size) s.heap H locs → lv_has ls 6 [(5, .int x5_lp1540), (4, .int x4_lp1540), (3, .int z1530), (0, .ref (g 10)), (1, .int p0), (2, .int p1)] → W p l e (headSpec (Cond.code yX5_reckon cX5_reckon 6 none :: wA) ({ frames := 5, cells := 0, slots := 0, locals := 200 })).room s m ([.ref (g 10), .int p0, .int p1] : List Value).toArray below meth c0 H locs 0 0 (MQ below (va_Qv (fun (u : StX) => IX u.1 u.2.1 ∧ alX u.1 u.2.1 = alX v F ∧ u.2.2 = rc ∧ (∀ k, k ∉ ([126] : List Nat) → u.1 k = v k) ∧ True) (BX dC dI g c) (AX g s.heap.size)) ([.ref (g 10), .int p0, .int p1] : List Value).toArray s 0 0 (AX g s.heap.size)) (F0 m 67 ls []) := by
          intro n
          induction n with
          | zero =>
            intro x5_lp1540 x4_lp1540 v_lp1540 F_lp1540 H locs ls t1541 t1542 t1543 hm hf_lp1540 hI hal hP hS hl
            exfalso
            have := i32_rng x5_lp1540
            have := i32_rng x4_lp1540
            have hI1 := hI.1
            omega
          | succ n ih_lp1540 =>
            intro x5_lp1540 x4_lp1540 v_lp1540 F_lp1540 H locs ls t1541 t1542 t1543 hm hf_lp1540 hI hal hP hS hl
            have rx5_lp1540 := i32_rng x5_lp1540
            have rx4_lp1540 := i32_rng x4_lp1540
            refine lv_iload hx hb dX5_reckon_67 (lv_at hl 0 rfl) ?_
            refine lv_sipush (v := 500) hx hb dX5_reckon_69 (by decide) ?_
            refine lv_icmp_ge (tgt := 124) hx hb dX5_reckon_72 (by decide) (fun c1544 => ?_) (fun c1544 => ?_)
            · skip
              have t1545 := cv_le (a := 500) (by decide) (b := x5_lp1540.toInt) rfl c1544
              have hP9 : va_P (dC, dI) classes (wX g c v_lp1540 F_lp1540 rc) H := hP
              exact W.vret hx hb hr (fun t ht hW => ⟨⟨(v_lp1540, F_lp1540, rc), rfl, ⟨hI, hal, rfl, (frC (by decide) hf_lp1540 (frC (by decide) hf_lp1533 (fun _ _ => rfl))), trivial⟩, (by show va_P _ _ _ t.heap; rw [ht]; exact hP9)⟩, hS.F ht⟩) hS.2.2 dX5_reckon_124
            · skip
              have t1546 := cv_nle (a := 500) (by decide) (b := x5_lp1540.toInt) rfl c1544
              refine lv_iload hx hb dX5_reckon_75 (lv_at hl 1 rfl) ?_
              refine lv_iconst (v := (-1)) hx hb dX5_reckon_77 (by decide) ?_
              refine lv_icmp_eq (tgt := 124) hx hb dX5_reckon_78 (by decide) (fun c1547 => ?_) (fun c1547 => ?_)
              · skip
                have t1548 := cv_eq (a := x4_lp1540.toInt) rfl (b := (-1)) (by decide) c1547
                have hP9 : va_P (dC, dI) classes (wX g c v_lp1540 F_lp1540 rc) H := hP
                exact W.vret hx hb hr (fun t ht hW => ⟨⟨(v_lp1540, F_lp1540, rc), rfl, ⟨hI, hal, rfl, (frC (by decide) hf_lp1540 (frC (by decide) hf_lp1533 (fun _ _ => rfl))), trivial⟩, (by show va_P _ _ _ t.heap; rw [ht]; exact hP9)⟩, hS.F ht⟩) hS.2.2 dX5_reckon_124
              · skip
                have t1549 := cv_ne (a := x4_lp1540.toInt) rfl (b := (-1)) (by decide) c1547
                refine lv_aload_n hx hb dX5_reckon_81 rfl (lv_at hl 3 rfl) ?_
                refine va_get (D := (dC, dI)) (ci := 5) (v := .ref (g 4)) (C := RX5) (T := TX5) (N := 6) hx hb hwd inA_X5 hown hK hP 10 rfl rfl 2 (by decide) (hwd _ wk_148) (fun _ h9 => h9) rfl dX5_reckon_82 ?_
                refine lv_iload hx hb dX5_reckon_85 (lv_at hl 1 rfl) ?_
                refine va_calli (va_runV (As := [.int x4_lp1540]) (rest := []) ⟨hx, hb, hml, hown, hwd⟩ (c_X9_isGap l dC dI g c adK adV v_lp1540 F_lp1540 rc H.size x4_lp1540 hg hI (by omega)) (cwV 1 hwd (gV wk_373 wk_370 wk_371 wk_372 wk_22) rfl rfl rfl (by decide +kernel) ⟨Nat.le_of_ble_eq_true rfl, Nat.le_of_ble_eq_true rfl⟩) ⟨PX.blind, va_recv hK hP (ci := 9) (q0 := 4) rfl rfl, fun U hU hW => ⟨rfl, PX.at hK hE hP hS hU hW⟩⟩ rfl rfl hl.1 rfl (lv_room (Nat.le_of_ble_eq_true rfl)) dX5_reckon_87 ⟨Nat.le_of_ble_eq_true rfl, Nat.le_of_ble_eq_true rfl⟩) hS (fun q _ h => (freeX hS) q h) (freeX hS) (fun r1550 u t H1 locs ht hvm hw hB hz1 hk1 hS => ?_)
                unfold BX at hB
                rw [ht] at hB
                have hP : va_P (dC, dI) classes (wX g c v_lp1540 F_lp1540 rc) H1 := hB
                have hw : 0 ≤ r1550.toInt ∧ r1550.toInt ≤ 1 := hw
                generalize H1 = H at hP hS ⊢
                have hw_r1550 := hw
                refine lv_if_eq (tgt := 106) hx hb dX5_reckon_90 (by decide) (fun c1551 => ?_) (fun c1551 => ?_)
                · skip
                  have t1552 := cv_eq (a := r1550.toInt) rfl (b := 0) (by decide) c1551
                  refine lv_aload_n hx hb dX5_reckon_106 rfl (lv_at hl 3 rfl) ?_
                  refine va_get (D := (dC, dI)) (ci := 5) (v := .ref (g 4)) (C := RX5) (T := TX5) (N := 6) hx hb hwd inA_X5 hown hK hP 10 rfl rfl 2 (by decide) (hwd _ wk_148) (fun _ h9 => h9) rfl dX5_reckon_107 ?_
                  refine va_get (D := (dC, dI)) (ci := 9) (v := .ref (g 37)) (C := RX9) (T := TX9) (N := 11) hx hb hwd inA_X9 hown hK hP 4 rfl rfl 9 (by decide) (hwd _ wk_361) (fun _ h9 => h9) rfl dX5_reckon_110 ?_
                  refine lv_iload hx hb dX5_reckon_113 (lv_at hl 1 rfl) ?_
                  refine va_iald hx hb hK hP 37 25 rfl rfl (i := x4_lp1540) (vin (a := x4_lp1540.toInt) rfl (by omega)) dX5_reckon_115 ?_
                  refine lv_topi (fun z1553 e1554 => ?_)
                  have t1555 : -1 ≤ z1553.toInt ∧ z1553.toInt ≤ 499 := by rw [e1554]; exact hI.2 37 _ _ rfl _
                  refine lv_istore (lv' := [(4, .int z1553), (5, .int x5_lp1540), (3, .int z1530), (0, .ref (g 10)), (1, .int p0), (2, .int p1)]) hx hb dX5_reckon_116 hl (by decide) rfl (fun ls hl => ?_)
                  obtain ⟨z1556, e1557⟩ : ∃ y : Int32, y = x5_lp1540 + 1 := ⟨_, rfl⟩
                  try (have t1558 := tadd e1557 rfl (b := 1) (by decide) (by omega))
                  refine lv_iinc (v := z1556) (lv' := [(5, .int z1556), (4, .int z1553), (3, .int z1530), (0, .ref (g 10)), (1, .int p0), (2, .int p1)]) hx hb dX5_reckon_118 hl (k := 1) rfl (by rw [e1557]; rfl) (by decide) rfl (fun ls hl => ?_)
                  refine lv_goto (tgt := 67) hx hb dX5_reckon_121 (by decide) ?_
                  exact ih_lp1540 z1556 z1553 v_lp1540 F_lp1540 _ _ _ (by omega) (by omega) (by omega) (by omega) hf_lp1540 hI hal hP hS (lv_sub hl [0, 1, 2, 3, 4, 5] rfl)
                · skip
                  have t1559 := cv_ne (a := r1550.toInt) rfl (b := 0) (by decide) c1551
                  refine lv_aload_n hx hb dX5_reckon_93 rfl (lv_at hl 3 rfl) ?_
                  refine lv_iload_n hx hb dX5_reckon_94 rfl (lv_at hl 2 rfl) ?_
                  refine lv_aload_n hx hb dX5_reckon_95 rfl (lv_at hl 3 rfl) ?_
                  refine lv_iload_n hx hb dX5_reckon_96 rfl (lv_at hl 4 rfl) ?_
                  refine lv_iload hx hb dX5_reckon_97 (lv_at hl 1 rfl) ?_
                  refine lv_iload_n hx hb dX5_reckon_99 rfl (lv_at hl 5 rfl) ?_
                  refine va_calli (va_runV (As := [.int p0, .int x4_lp1540, .int p1]) (rest := [.int z1530, .ref (g 10)]) ⟨hx, hb, hml, hown, hwd⟩ (c_X5_hundredths l dC dI g c adK adV v_lp1540 F_lp1540 rc H.size p0 x4_lp1540 p1 hg hI (by omega) (by omega)) (cwV 3 hwd (gV wk_382 wk_379 wk_380 wk_381 wk_50) rfl rfl rfl (by decide +kernel) ⟨Nat.le_of_ble_eq_true rfl, Nat.le_of_ble_eq_true rfl⟩) ⟨PX.blind, va_recv hK hP (ci := 5) (q0 := 10) rfl rfl, fun U hU hW => ⟨rfl, PX.at hK hE hP hS hU hW⟩⟩ rfl rfl hl.1 rfl (lv_room (Nat.le_of_ble_eq_true rfl)) dX5_reckon_100 ⟨Nat.le_of_ble_eq_true rfl, Nat.le_of_ble_eq_true rfl⟩) hS (fun q _ h => (freeX hS) q h) (freeX hS) (fun r1560 u t H1 locs ht hvm hw hB hz1 hk1 hS => ?_)
                  unfold BX at hB
                  rw [ht] at hB
                  obtain ⟨v1561, F1562, rc9⟩ := u
                  obtain ⟨hI, hal9, hrc, hf1563, hw⟩ := hw
                  dsimp only at hI hal9 hrc hB hf1563 hw
                  rw [hrc] at hB
                  have hal := hal9.trans hal
                  have hP : va_P (dC, dI) classes (wX g c v1561 F1562 rc) H1 := hB
                  generalize H1 = H at hP hS ⊢
                  have rr_r1560 := i32_rng r1560
                  refine va_callv (va_runV (As := [.int z1530, .int r1560]) (rest := []) ⟨hx, hb, hml, hown, hwd⟩ (c_X5_takeAway l dC dI g c adK adV v1561 F1562 rc H.size z1530 r1560 hg hI (by omega)) (cwV 2 hwd (gV wk_427 wk_424 wk_425 wk_426 wk_50) rfl rfl rfl (by decide +kernel) ⟨Nat.le_of_ble_eq_true rfl, Nat.le_of_ble_eq_true rfl⟩) ⟨PX.blind, va_recv hK hP (ci := 5) (q0 := 10) rfl rfl, fun U hU hW => ⟨rfl, PX.at hK hE hP hS hU hW⟩⟩ rfl rfl hl.1 rfl (lv_room (Nat.le_of_ble_eq_true rfl)) dX5_reckon_103 ⟨Nat.le_of_ble_eq_true rfl, Nat.le_of_ble_eq_true rfl⟩) hS (fun q _ h => (freeX hS) q h) (freeX hS) (fun u t H1 locs ht hvm hw hB hz1 hk1 hS => ?_)
                  unfold BX at hB
                  rw [ht] at hB
                  obtain ⟨v1565, F1566, rc9⟩ := u
                  obtain ⟨hI, hal9, hrc, hf1567, hw⟩ := hw
                  dsimp only at hI hal9 hrc hB hf1567 hw
                  rw [hrc] at hB
                  have hal := hal9.trans hal
                  have hP : va_P (dC, dI) classes (wX g c v1565 F1566 rc) H1 := hB
                  generalize H1 = H at hP hS ⊢
                  refine lv_aload_n hx hb dX5_reckon_106 rfl (lv_at hl 3 rfl) ?_
                  refine va_get (D := (dC, dI)) (ci := 5) (v := .ref (g 4)) (C := RX5) (T := TX5) (N := 6) hx hb hwd inA_X5 hown hK hP 10 rfl rfl 2 (by decide) (hwd _ wk_148) (fun _ h9 => h9) rfl dX5_reckon_107 ?_
                  refine va_get (D := (dC, dI)) (ci := 9) (v := .ref (g 37)) (C := RX9) (T := TX9) (N := 11) hx hb hwd inA_X9 hown hK hP 4 rfl rfl 9 (by decide) (hwd _ wk_361) (fun _ h9 => h9) rfl dX5_reckon_110 ?_
                  refine lv_iload hx hb dX5_reckon_113 (lv_at hl 1 rfl) ?_
                  refine va_iald hx hb hK hP 37 25 rfl rfl (i := x4_lp1540) (vin (a := x4_lp1540.toInt) rfl (by omega)) dX5_reckon_115 ?_
                  refine lv_topi (fun z1568 e1569 => ?_)
                  have t1570 : -1 ≤ z1568.toInt ∧ z1568.toInt ≤ 499 := by rw [e1569]; exact hI.2 37 _ _ rfl _
                  refine lv_istore (lv' := [(4, .int z1568), (5, .int x5_lp1540), (3, .int z1530), (0, .ref (g 10)), (1, .int p0), (2, .int p1)]) hx hb dX5_reckon_116 hl (by decide) rfl (fun ls hl => ?_)
                  obtain ⟨z1571, e1572⟩ : ∃ y : Int32, y = x5_lp1540 + 1 := ⟨_, rfl⟩
                  try (have t1573 := tadd e1572 rfl (b := 1) (by decide) (by omega))
                  refine lv_iinc (v := z1571) (lv' := [(5, .int z1571), (4, .int z1568), (3, .int z1530), (0, .ref (g 10)), (1, .int p0), (2, .int p1)]) hx hb dX5_reckon_118 hl (k := 1) rfl (by rw [e1572]; rfl) (by decide) rfl (fun ls hl => ?_)
                  refine lv_goto (tgt := 67) hx hb dX5_reckon_121 (by decide) ?_
                  exact ih_lp1540 z1571 z1568 v1565 F1566 _ _ _ (by omega) (by omega) (by omega) (by omega) (frC (by decide) hf1567 (frC (by decide) hf1563 hf_lp1540)) hI hal hP hS (lv_sub hl [0, 1, 2, 3, 4, 5] rfl)
        obtain ⟨n9, hn9⟩ : ∃ n : Nat, 2147483648 - 0 ≤ (n : Int) := ⟨((2147483648 - 0 : Int)).toNat, by omega⟩
        exact lp1540 n9 0 z1537 v_lp1533 F_lp1533 H _ ls (by have : (0 : Int32).toInt = 0 := (by decide); omega) (by have : (0 : Int32).toInt = 0 := (by decide); omega) (by have : (0 : Int32).toInt = 0 := (by decide); omega) (by have : (0 : Int32).toInt = 0 := (by decide); omega) (fun _ _ => rfl) hI hal hP hS hl
      · skip
        have t1574 := cv_nle (a := 3) (by decide) (b := x4_lp1533.toInt) rfl c1535
        refine lv_aload_n hx hb dX5_reckon_19 rfl (lv_at hl 2 rfl) ?_
        refine va_get (D := (dC, dI)) (ci := 5) (v := .ref (g 74)) (C := RX5) (T := TX5) (N := 6) hx hb hwd inA_X5 hown hK hP 10 rfl rfl 5 (by decide) (hwd _ wk_144) (fun _ h9 => h9) rfl dX5_reckon_20 ?_
        refine lv_iload hx hb dX5_reckon_23 (lv_at hl 0 rfl) ?_
        refine lv_aload_n hx hb dX5_reckon_25 rfl (lv_at hl 2 rfl) ?_
        refine va_get (D := (dC, dI)) (ci := 5) (v := .ref (g 1)) (C := RX5) (T := TX5) (N := 6) hx hb hwd inA_X5 hown hK hP 10 rfl rfl 0 (by decide) (hwd _ wk_145) (fun _ h9 => h9) rfl dX5_reckon_26 ?_
        refine lv_iload_n hx hb dX5_reckon_29 rfl (lv_at hl 1 rfl) ?_
        refine lv_iload hx hb dX5_reckon_30 (lv_at hl 0 rfl) ?_
        refine va_calli (va_runV (As := [.int z1530, .int x4_lp1533]) (rest := [.int x4_lp1533, .ref (g 74)]) ⟨hx, hb, hml, hown, hwd⟩ (c_X2_limitOf l dC dI g c adK adV v_lp1533 F_lp1533 rc H.size z1530 x4_lp1533 hg hI (by omega) (by omega)) (cwV 2 hwd (gV wk_365 wk_362 wk_363 wk_364 wk_14) rfl rfl rfl (by decide +kernel) ⟨Nat.le_of_ble_eq_true rfl, Nat.le_of_ble_eq_true rfl⟩) ⟨PX.blind, va_recv hK hP (ci := 2) (q0 := 1) rfl rfl, fun U hU hW => ⟨rfl, PX.at hK hE hP hS hU hW⟩⟩ rfl rfl hl.1 rfl (lv_room (Nat.le_of_ble_eq_true rfl)) dX5_reckon_32 ⟨Nat.le_of_ble_eq_true rfl, Nat.le_of_ble_eq_true rfl⟩) hS (fun q _ h => (freeX hS) q h) (freeX hS) (fun r1575 u t H1 locs ht hvm hw hB hz1 hk1 hS => ?_)
        unfold BX at hB
        rw [ht] at hB
        have hP : va_P (dC, dI) classes (wX g c v_lp1533 F_lp1533 rc) H1 := hB
        generalize H1 = H at hP hS ⊢
        have rr_r1575 := i32_rng r1575
        refine lv_aload_n hx hb dX5_reckon_35 rfl (lv_at hl 2 rfl) ?_
        refine va_get (D := (dC, dI)) (ci := 5) (v := .ref (g 3)) (C := RX5) (T := TX5) (N := 6) hx hb hwd inA_X5 hown hK hP 10 rfl rfl 1 (by decide) (hwd _ wk_146) (fun _ h9 => h9) rfl dX5_reckon_36 ?_
        refine lv_iload_n hx hb dX5_reckon_39 rfl (lv_at hl 3 rfl) ?_
        refine lv_iload hx hb dX5_reckon_40 (lv_at hl 0 rfl) ?_
        refine va_calli (va_runV (As := [.int p0, .int x4_lp1533]) (rest := [.int r1575, .int x4_lp1533, .ref (g 74)]) ⟨hx, hb, hml, hown, hwd⟩ (c_X7_usedOf l dC dI g c adK adV v_lp1533 F_lp1533 rc H.size p0 x4_lp1533 hg hI (by omega) (by omega)) (cwV 2 hwd (gV wk_369 wk_366 wk_367 wk_368 wk_26) rfl rfl rfl (by decide +kernel) ⟨Nat.le_of_ble_eq_true rfl, Nat.le_of_ble_eq_true rfl⟩) ⟨PX.blind, va_recv hK hP (ci := 7) (q0 := 3) rfl rfl, fun U hU hW => ⟨rfl, PX.at hK hE hP hS hU hW⟩⟩ rfl rfl hl.1 rfl (lv_room (Nat.le_of_ble_eq_true rfl)) dX5_reckon_42 ⟨Nat.le_of_ble_eq_true rfl, Nat.le_of_ble_eq_true rfl⟩) hS (fun q _ h => (freeX hS) q h) (freeX hS) (fun r1576 u t H1 locs ht hvm hw hB hz1 hk1 hS => ?_)
        unfold BX at hB
        rw [ht] at hB
        have hP : va_P (dC, dI) classes (wX g c v_lp1533 F_lp1533 rc) H1 := hB
        generalize H1 = H at hP hS ⊢
        have rr_r1576 := i32_rng r1576
        refine lv_isub hx hb dX5_reckon_45 ?_
        refine lv_topi (fun z1577 e1578 => ?_)
        try (have t1579 := tsub e1578 (a := r1575.toInt) rfl (b := r1576.toInt) rfl (by omega))
        refine va_iast hx hb hK hP (DX hg) hS 74 62 rfl rfl (i := x4_lp1533) (x := z1577) (vin (a := x4_lp1533.toInt) rfl (by omega)) dX5_reckon_46 (fun H locs hP _ hS => ?_)
        have hP := va_P_eq (sX_74 g c _ _ _ _) hP
        have hI := IX.store0 hI 74 (x4_lp1533 : Int32).toNatClampNeg z1577 rfl
        have hal := (alX_F _ _ 74 (upd (F_lp1533 74) (x4_lp1533 : Int32).toNatClampNeg z1577) (by decide) (by decide)).trans hal
        have hP : va_P (dC, dI) classes (wX g c v_lp1533 (va_up F_lp1533 74 (upd (F_lp1533 74) (x4_lp1533 : Int32).toNatClampNeg z1577)) rc) H := hP
        generalize (va_up F_lp1533 74 (upd (F_lp1533 74) (x4_lp1533 : Int32).toNatClampNeg z1577)) = F1580 at hP hI hal
        obtain ⟨z1581, e1582⟩ : ∃ y : Int32, y = x4_lp1533 + 1 := ⟨_, rfl⟩
        try (have t1583 := tadd e1582 rfl (b := 1) (by decide) (by omega))
        refine lv_iinc (v := z1581) (lv' := [(4, .int z1581), (3, .int z1530), (0, .ref (g 10)), (1, .int p0), (2, .int p1)]) hx hb dX5_reckon_47 hl (k := 0) rfl (by rw [e1582]; rfl) (by decide) rfl (fun ls hl => ?_)
        refine lv_goto (tgt := 13) hx hb dX5_reckon_50 (by decide) ?_
        exact ih_lp1533 z1581 v_lp1533 F1580 _ _ _ (by omega) (by omega) hf_lp1533 hI hal hP hS (lv_sub hl [0, 1, 2, 3, 4] rfl)
  obtain ⟨n9, hn9⟩ : ∃ n : Nat, 2147483648 - 0 ≤ (n : Int) := ⟨((2147483648 - 0 : Int)).toNat, by omega⟩
  exact lp1533 n9 0 v F H _ ls (by have : (0 : Int32).toInt = 0 := (by decide); omega) (by have : (0 : Int32).toInt = 0 := (by decide); omega) (fun _ _ => rfl) hI hal hP hS hl
