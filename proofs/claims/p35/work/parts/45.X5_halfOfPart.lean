set_option maxHeartbeats 8000000 in
set_option maxRecDepth 100000 in
theorem c_X5_halfOfPart (l : Launch) (dC : Nat → ClassId) (dI : Nat → Nat → Nat) (g : Nat → Nat) (c : Nat → ClassId) (adK adV : Nat → Nat) (v : Nat → Int32) (F : Nat → Nat → Int32) (rc sz : Nat) (p0 : Int32) (p1 : Int32) (hg : injX g) (hI : IX v F) (h0 : 0 ≤ p0.toInt ∧ p0.toInt ≤ 99) : Met l yX5_halfOfPart (Cond.code yX5_halfOfPart cX5_halfOfPart 8 (some .long) :: wA) ({ frames := 6, cells := 0, slots := 0, locals := 240 }) (va_Pc [.ref (g 10), .int p0, .int p1] (PX dC dI g c adK adV v F rc sz)) (va_Ql (fun (r : Int64) (u : StX) => IX u.1 u.2.1 ∧ alX u.1 u.2.1 = alX v F ∧ u.2.2 = rc ∧ (∀ k, k ∉ ([126] : List Nat) → u.1 k = v k) ∧ True) (BX dC dI g c) (AX g sz)) 0 0 (AX g sz) := by
  refine Met.ofW (cc := cX5_halfOfPart) (maxL := 8) (ret := (some .long)) (by decide) rfl ?_
  intro p e s m args below meth c0 s₁ B hml hv
  obtain ⟨rfl, hsz, hP, hK, hE⟩ := hv
  have hx := B.exec
  have hb := B.bytes
  have hr := B.returns
  have hts := atoms_spec (ws := Cond.code yX5_halfOfPart cX5_halfOfPart 8 (some .long) :: wA) B.pre
  have hwd : ∀ w ∈ wA, w.before _ s = true := fun w h => hts w (List.mem_cons_of_mem _ h)
  have hown : s.vm.findClass RX5 = some m.cls := findClass_of_methodNamed B.named
  have hlocks := B.notSynchronized
  subst hsz
  have hl := lv_entry ([.ref (g 10), .int p0, .int p1]) (n := 8) (Nat.le_of_ble_eq_true rfl)
  rw [lg_entry_eq]
  generalize (lg_sl ([.ref (g 10), .int p0, .int p1]) ++ List.replicate (8 - (lg_sl ([.ref (g 10), .int p0, .int p1])).length) Slot.unset).toArray = ls at hl ⊢
  have hl : lv_has ls 8 [(0, .ref (g 10)), (1, .int p0), (2, .int p1)] := hl
  obtain ⟨H, eH⟩ : ∃ z, z = s.heap := ⟨_, rfl⟩
  have hP : va_P (dC, dI) classes (wX g c v F rc) H := by rw [eH]; exact hP
  have hS : va_S (AX g s.heap.size) s.heap H [] := by rw [eH]; exact va_S.rf
  refine my_heap eH ?_
  have hal : alX v F = alX v F := rfl
  have rp0 := i32_rng p0
  have rp1 := i32_rng p1
  refine lv_aload_n hx hb dX5_halfOfPart_0 rfl (lv_at hl 0 rfl) ?_
  refine va_get (D := (dC, dI)) (ci := 5) (v := .ref (g 3)) (C := RX5) (T := TX5) (N := 6) hx hb hwd inA_X5 hown hK hP 10 rfl rfl 1 (by decide) (hwd _ wk_146) (fun _ h9 => h9) rfl dX5_halfOfPart_1 ?_
  refine va_get (D := (dC, dI)) (ci := 7) (v := .ref (g 24)) (C := RX7) (T := TX7) (N := 7) hx hb hwd inA_X7 hown hK hP 3 rfl rfl 2 (by decide) (hwd _ wk_355) (fun _ h9 => h9) rfl dX5_halfOfPart_4 ?_
  refine lv_iload_n hx hb dX5_halfOfPart_7 rfl (lv_at hl 1 rfl) ?_
  refine va_iald hx hb hK hP 24 12 rfl rfl (i := p0) (vin (a := p0.toInt) rfl (by omega)) dX5_halfOfPart_8 ?_
  refine lv_topi (fun z1659 e1660 => ?_)
  have t1661 : 0 ≤ z1659.toInt ∧ z1659.toInt ≤ 9 := by rw [e1660]; exact hI.2 24 _ _ rfl _
  refine lv_istore_n (lv' := [(3, .int z1659), (0, .ref (g 10)), (1, .int p0), (2, .int p1)]) hx hb dX5_halfOfPart_9 rfl hl (by decide) rfl (fun ls hl => ?_)
  refine lv_lconst (v := 0) hx hb dX5_halfOfPart_10 (by decide) ?_
  refine lv_lstore (lv' := [(4, .long 0), (3, .int z1659), (0, .ref (g 10)), (1, .int p0), (2, .int p1)]) hx hb dX5_halfOfPart_11 hl (by decide) rfl (fun ls hl => ?_)
  refine lv_aload_n hx hb dX5_halfOfPart_13 rfl (lv_at hl 2 rfl) ?_
  refine lv_iload_n hx hb dX5_halfOfPart_14 rfl (lv_at hl 3 rfl) ?_
  refine lv_iload_n hx hb dX5_halfOfPart_15 rfl (lv_at hl 4 rfl) ?_
  refine va_callv (va_runV (As := [.int p0, .int p1]) (rest := []) ⟨hx, hb, hml, hown, hwd⟩ (c_X5_reckon l dC dI g c adK adV v F rc H.size p0 p1 hg hI (by omega)) (cwV 2 hwd (gV wk_359 wk_356 wk_357 wk_358 wk_50) rfl rfl rfl (by decide +kernel) ⟨Nat.le_of_ble_eq_true rfl, Nat.le_of_ble_eq_true rfl⟩) ⟨PX.blind, va_recv hK hP (ci := 5) (q0 := 10) rfl rfl, fun U hU hW => ⟨rfl, PX.at hK hE hP hS hU hW⟩⟩ rfl rfl hl.1 rfl (lv_room (Nat.le_of_ble_eq_true rfl)) dX5_halfOfPart_16 ⟨Nat.le_of_ble_eq_true rfl, Nat.le_of_ble_eq_true rfl⟩) hS (fun q _ h => (freeX hS) q h) (freeX hS) (fun u t H1 locs ht hvm hw hB hz1 hk1 hS => ?_)
  unfold BX at hB
  rw [ht] at hB
  obtain ⟨v1663, F1664, rc9⟩ := u
  obtain ⟨hI, hal9, hrc, hf1665, hw⟩ := hw
  dsimp only at hI hal9 hrc hB hf1665 hw
  rw [hrc] at hB
  have hal := hal9.trans hal
  have hP : va_P (dC, dI) classes (wX g c v1663 F1664 rc) H1 := hB
  generalize H1 = H at hP hS ⊢
  refine lv_iconst (v := 0) hx hb dX5_halfOfPart_19 (by decide) ?_
  refine lv_istore (lv' := [(6, .int 0), (4, .long 0), (3, .int z1659), (0, .ref (g 10)), (1, .int p0), (2, .int p1)]) hx hb dX5_halfOfPart_20 hl (by decide) rfl (fun ls hl => ?_)
  have lp1666 : ∀ (n : Nat) (x6_lp1666 : Int32) (x4_lp1666 : Int64) (v_lp1666 : Nat → Int32) (F_lp1666 : Nat → Nat → Int32) (H : Heap) (locs : List Loc) (ls : Array Slot), (0 ≤ x6_lp1666.toInt) → (2147483648 - x6_lp1666.toInt ≤ (n : Int)) → (∀ k, k ∉ ([] : List Nat) → v_lp1666 k = v1663 k) → IX v_lp1666 F_lp1666 → alX v_lp1666 F_lp1666 = alX v F → va_P (dC, dI) classes (wX g c v_lp1666 F_lp1666 rc) H → va_S (AX g s.heap.size) s.heap H locs → lv_has ls 8 [(6, .int x6_lp1666), (4, .long x4_lp1666), (3, .int z1659), (0, .ref (g 10)), (1, .int p0), (2, .int p1)] → W p l e (headSpec (Cond.code yX5_halfOfPart cX5_halfOfPart 8 (some .long) :: wA) ({ frames := 6, cells := 0, slots := 0, locals := 240 })).room s m ([.ref (g 10), .int p0, .int p1] : List Value).toArray below meth c0 H locs 0 0 (MQ below (va_Ql (fun (r : Int64) (u : StX) => IX u.1 u.2.1 ∧ alX u.1 u.2.1 = alX v F ∧ u.2.2 = rc ∧ (∀ k, k ∉ ([126] : List Nat) → u.1 k = v k) ∧ True) (BX dC dI g c) (AX g s.heap.size)) ([.ref (g 10), .int p0, .int p1] : List Value).toArray s 0 0 (AX g s.heap.size)) (F0 m 22 ls []) := by
    intro n
    induction n with
    | zero =>
      intro x6_lp1666 x4_lp1666 v_lp1666 F_lp1666 H locs ls t1667 hm hf_lp1666 hI hal hP hS hl
      exfalso
      have := i32_rng x6_lp1666
      have hI1 := hI.1
      omega
    | succ n ih_lp1666 =>
      intro x6_lp1666 x4_lp1666 v_lp1666 F_lp1666 H locs ls t1667 hm hf_lp1666 hI hal hP hS hl
      have rx6_lp1666 := i32_rng x6_lp1666
      refine lv_iload hx hb dX5_halfOfPart_22 (lv_at hl 0 rfl) ?_
      refine lv_iconst (v := 3) hx hb dX5_halfOfPart_24 (by decide) ?_
      refine lv_icmp_ge (tgt := 84) hx hb dX5_halfOfPart_25 (by decide) (fun c1668 => ?_) (fun c1668 => ?_)
      · skip
        have t1669 := cv_le (a := 3) (by decide) (b := x6_lp1666.toInt) rfl c1668
        refine lv_lload hx hb dX5_halfOfPart_84 (lv_at hl 1 rfl) ?_
        have hP9 : va_P (dC, dI) classes (wX g c v_lp1666 F_lp1666 rc) H := hP
        exact W.lret (v := x4_lp1666) hx hb hr (fun t ht hW => ⟨⟨x4_lp1666, (v_lp1666, F_lp1666, rc), rfl, ⟨hI, hal, rfl, (frC (by decide) hf_lp1666 (frC (by decide) hf1665 (fun _ _ => rfl))), trivial⟩, (by show va_P _ _ _ t.heap; rw [ht]; exact hP9)⟩, hS.F ht⟩) hS.2.2 dX5_halfOfPart_86
      · skip
        have t1670 := cv_nle (a := 3) (by decide) (b := x6_lp1666.toInt) rfl c1668
        refine lv_aload_n hx hb dX5_halfOfPart_28 rfl (lv_at hl 3 rfl) ?_
        refine va_get (D := (dC, dI)) (ci := 5) (v := .ref (g 1)) (C := RX5) (T := TX5) (N := 6) hx hb hwd inA_X5 hown hK hP 10 rfl rfl 0 (by decide) (hwd _ wk_145) (fun _ h9 => h9) rfl dX5_halfOfPart_29 ?_
        refine lv_iload_n hx hb dX5_halfOfPart_32 rfl (lv_at hl 2 rfl) ?_
        refine lv_iload hx hb dX5_halfOfPart_33 (lv_at hl 0 rfl) ?_
        refine va_calli (va_runV (As := [.int z1659, .int x6_lp1666]) (rest := []) ⟨hx, hb, hml, hown, hwd⟩ (c_X2_limitOf l dC dI g c adK adV v_lp1666 F_lp1666 rc H.size z1659 x6_lp1666 hg hI (by omega) (by omega)) (cwV 2 hwd (gV wk_365 wk_362 wk_363 wk_364 wk_14) rfl rfl rfl (by decide +kernel) ⟨Nat.le_of_ble_eq_true rfl, Nat.le_of_ble_eq_true rfl⟩) ⟨PX.blind, va_recv hK hP (ci := 2) (q0 := 1) rfl rfl, fun U hU hW => ⟨rfl, PX.at hK hE hP hS hU hW⟩⟩ rfl rfl hl.1 rfl (lv_room (Nat.le_of_ble_eq_true rfl)) dX5_halfOfPart_35 ⟨Nat.le_of_ble_eq_true rfl, Nat.le_of_ble_eq_true rfl⟩) hS (fun q _ h => (freeX hS) q h) (freeX hS) (fun r1671 u t H1 locs ht hvm hw hB hz1 hk1 hS => ?_)
        unfold BX at hB
        rw [ht] at hB
        have hP : va_P (dC, dI) classes (wX g c v_lp1666 F_lp1666 rc) H1 := hB
        generalize H1 = H at hP hS ⊢
        have rr_r1671 := i32_rng r1671
        refine lv_istore (lv' := [(7, .int r1671), (6, .int x6_lp1666), (4, .long x4_lp1666), (3, .int z1659), (0, .ref (g 10)), (1, .int p0), (2, .int p1)]) hx hb dX5_halfOfPart_38 hl (by decide) rfl (fun ls hl => ?_)
        refine lv_iload hx hb dX5_halfOfPart_40 (lv_at hl 0 rfl) ?_
        refine lv_if_le (tgt := 78) hx hb dX5_halfOfPart_42 (by decide) (fun c1672 => ?_) (fun c1672 => ?_)
        · skip
          have t1673 := cv_le (a := r1671.toInt) rfl (b := 0) (by decide) c1672
          obtain ⟨z1674, e1675⟩ : ∃ y : Int32, y = x6_lp1666 + 1 := ⟨_, rfl⟩
          try (have t1676 := tadd e1675 rfl (b := 1) (by decide) (by omega))
          refine lv_iinc (v := z1674) (lv' := [(6, .int z1674), (7, .int r1671), (4, .long x4_lp1666), (3, .int z1659), (0, .ref (g 10)), (1, .int p0), (2, .int p1)]) hx hb dX5_halfOfPart_78 hl (k := 1) rfl (by rw [e1675]; rfl) (by decide) rfl (fun ls hl => ?_)
          refine lv_goto (tgt := 22) hx hb dX5_halfOfPart_81 (by decide) ?_
          exact ih_lp1666 z1674 x4_lp1666 v_lp1666 F_lp1666 _ _ _ (by omega) (by omega) hf_lp1666 hI hal hP hS (lv_sub hl [0, 2, 3, 4, 5, 6] rfl)
        · skip
          have t1677 := cv_nle (a := r1671.toInt) rfl (b := 0) (by decide) c1672
          refine lv_lload hx hb dX5_halfOfPart_45 (lv_at hl 2 rfl) ?_
          refine lv_aload_n hx hb dX5_halfOfPart_47 rfl (lv_at hl 4 rfl) ?_
          refine va_get (D := (dC, dI)) (ci := 5) (v := .ref (g 74)) (C := RX5) (T := TX5) (N := 6) hx hb hwd inA_X5 hown hK hP 10 rfl rfl 5 (by decide) (hwd _ wk_144) (fun _ h9 => h9) rfl dX5_halfOfPart_48 ?_
          refine lv_iload hx hb dX5_halfOfPart_51 (lv_at hl 1 rfl) ?_
          refine va_iald hx hb hK hP 74 62 rfl rfl (i := x6_lp1666) (vin (a := x6_lp1666.toInt) rfl (by omega)) dX5_halfOfPart_53 ?_
          refine lv_topi (fun z1678 e1679 => ?_)
          refine lv_iload hx hb dX5_halfOfPart_54 (lv_at hl 0 rfl) ?_
          refine lv_iconst (v := 2) hx hb dX5_halfOfPart_56 (by decide) ?_
          refine lv_idiv hx hb dX5_halfOfPart_57 (by decide) ?_
          refine lv_topi (fun z1680 e1681 => ?_)
          refine lv_isub hx hb dX5_halfOfPart_58 ?_
          refine lv_topi (fun z1683 e1684 => ?_)
          try (have t1685 := tsub e1684 (a := z1678.toInt) rfl (b := z1680.toInt) rfl (by omega))
          refine lv_i2l hx hb dX5_halfOfPart_59 rfl ?_
          refine lv_topl (fun z1686 e1687 => ?_)
          refine lv_aload_n hx hb dX5_halfOfPart_60 rfl (lv_at hl 4 rfl) ?_
          refine va_get (D := (dC, dI)) (ci := 5) (v := .ref (g 1)) (C := RX5) (T := TX5) (N := 6) hx hb hwd inA_X5 hown hK hP 10 rfl rfl 0 (by decide) (hwd _ wk_145) (fun _ h9 => h9) rfl dX5_halfOfPart_61 ?_
          refine va_get (D := (dC, dI)) (ci := 2) (v := .ref (g 13)) (C := RX2) (T := TX2) (N := 4) hx hb hwd inA_X2 hown hK hP 1 rfl rfl 2 (by decide) (hwd _ wk_1369) (fun _ h9 => h9) rfl dX5_halfOfPart_64 ?_
          refine lv_iload_n hx hb dX5_halfOfPart_67 rfl (lv_at hl 3 rfl) ?_
          refine va_iald hx hb hK hP 13 1 rfl rfl (i := z1659) (vin (a := z1659.toInt) rfl (by omega)) dX5_halfOfPart_68 ?_
          refine lv_topi (fun z1688 e1689 => ?_)
          refine lv_i2l hx hb dX5_halfOfPart_69 rfl ?_
          refine lv_topl (fun z1690 e1691 => ?_)
          refine lv_lmul hx hb dX5_halfOfPart_70 ?_
          refine lv_topl (fun z1692 e1693 => ?_)
          refine lv_ldc2 (v := 100) hx hb hown (hwd _ wk_1370) dX5_halfOfPart_71 ?_
          refine lv_ldiv hx hb dX5_halfOfPart_74 (by decide) ?_
          refine lv_topl (fun z1694 e1695 => ?_)
          refine lv_ladd hx hb dX5_halfOfPart_75 ?_
          refine lv_topl (fun z1696 e1697 => ?_)
          refine lv_lstore (lv' := [(4, .long z1696), (7, .int r1671), (6, .int x6_lp1666), (3, .int z1659), (0, .ref (g 10)), (1, .int p0), (2, .int p1)]) hx hb dX5_halfOfPart_76 hl (by decide) rfl (fun ls hl => ?_)
          obtain ⟨z1698, e1699⟩ : ∃ y : Int32, y = x6_lp1666 + 1 := ⟨_, rfl⟩
          try (have t1700 := tadd e1699 rfl (b := 1) (by decide) (by omega))
          refine lv_iinc (v := z1698) (lv' := [(6, .int z1698), (4, .long z1696), (7, .int r1671), (3, .int z1659), (0, .ref (g 10)), (1, .int p0), (2, .int p1)]) hx hb dX5_halfOfPart_78 hl (k := 2) rfl (by rw [e1699]; rfl) (by decide) rfl (fun ls hl => ?_)
          refine lv_goto (tgt := 22) hx hb dX5_halfOfPart_81 (by decide) ?_
          exact ih_lp1666 z1698 z1696 v_lp1666 F_lp1666 _ _ _ (by omega) (by omega) hf_lp1666 hI hal hP hS (lv_sub hl [0, 1, 3, 4, 5, 6] rfl)
  obtain ⟨n9, hn9⟩ : ∃ n : Nat, 2147483648 - 0 ≤ (n : Int) := ⟨((2147483648 - 0 : Int)).toNat, by omega⟩
  exact lp1666 n9 0 0 v1663 F1664 H _ ls (by have : (0 : Int32).toInt = 0 := (by decide); omega) (by have : (0 : Int32).toInt = 0 := (by decide); omega) (fun _ _ => rfl) hI hal hP hS hl
set_option maxHeartbeats 8000000 in
set_option maxRecDepth 100000 in
theorem c_X5_halfOf (l : Launch) (dC : Nat → ClassId) (dI : Nat → Nat → Nat) (g : Nat → Nat) (c : Nat → ClassId) (adK adV : Nat → Nat) (v : Nat → Int32) (F : Nat → Nat → Int32) (rc sz : Nat) (p0 : Int32) (p1 : Int32) (hg : injX g) (hI : IX v F) : Met l yX5_halfOf (Cond.code yX5_halfOf cX5_halfOf 6 (some .int) :: wA) ({ frames := 7, cells := 0, slots := 0, locals := 280 }) (va_Pc [.ref (g 10), .int p0, .int p1] (PX dC dI g c adK adV v F rc sz)) (va_Qi (fun (r : Int32) (u : StX) => IX u.1 u.2.1 ∧ alX u.1 u.2.1 = alX v F ∧ u.2.2 = rc ∧ (∀ k, k ∉ ([126] : List Nat) → u.1 k = v k) ∧ True) (BX dC dI g c) (AX g sz)) 0 0 (AX g sz) := by
  refine Met.ofW (cc := cX5_halfOf) (maxL := 6) (ret := (some .int)) (by decide) rfl ?_
  intro p e s m args below meth c0 s₁ B hml hv
  obtain ⟨rfl, hsz, hP, hK, hE⟩ := hv
  have hx := B.exec
  have hb := B.bytes
  have hr := B.returns
  have hts := atoms_spec (ws := Cond.code yX5_halfOf cX5_halfOf 6 (some .int) :: wA) B.pre
  have hwd : ∀ w ∈ wA, w.before _ s = true := fun w h => hts w (List.mem_cons_of_mem _ h)
  have hown : s.vm.findClass RX5 = some m.cls := findClass_of_methodNamed B.named
  have hlocks := B.notSynchronized
  subst hsz
  have hl := lv_entry ([.ref (g 10), .int p0, .int p1]) (n := 6) (Nat.le_of_ble_eq_true rfl)
  rw [lg_entry_eq]
  generalize (lg_sl ([.ref (g 10), .int p0, .int p1]) ++ List.replicate (6 - (lg_sl ([.ref (g 10), .int p0, .int p1])).length) Slot.unset).toArray = ls at hl ⊢
  have hl : lv_has ls 6 [(0, .ref (g 10)), (1, .int p0), (2, .int p1)] := hl
  obtain ⟨H, eH⟩ : ∃ z, z = s.heap := ⟨_, rfl⟩
  have hP : va_P (dC, dI) classes (wX g c v F rc) H := by rw [eH]; exact hP
  have hS : va_S (AX g s.heap.size) s.heap H [] := by rw [eH]; exact va_S.rf
  refine my_heap eH ?_
  have hal : alX v F = alX v F := rfl
  have rp0 := i32_rng p0
  have rp1 := i32_rng p1
  refine lv_lconst (v := 0) hx hb dX5_halfOf_0 (by decide) ?_
  refine lv_lstore_n (lv' := [(3, .long 0), (0, .ref (g 10)), (1, .int p0), (2, .int p1)]) hx hb dX5_halfOf_1 rfl hl (by decide) rfl (fun ls hl => ?_)
  refine lv_iconst (v := 0) hx hb dX5_halfOf_2 (by decide) ?_
  refine lv_istore (lv' := [(5, .int 0), (3, .long 0), (0, .ref (g 10)), (1, .int p0), (2, .int p1)]) hx hb dX5_halfOf_3 hl (by decide) rfl (fun ls hl => ?_)
  have lp1701 : ∀ (n : Nat) (x5_lp1701 : Int32) (x3_lp1701 : Int64) (v_lp1701 : Nat → Int32) (F_lp1701 : Nat → Nat → Int32) (H : Heap) (locs : List Loc) (ls : Array Slot), (0 ≤ x5_lp1701.toInt) → (2147483648 - x5_lp1701.toInt ≤ (n : Int)) → (∀ k, k ∉ ([126] : List Nat) → v_lp1701 k = v k) → IX v_lp1701 F_lp1701 → alX v_lp1701 F_lp1701 = alX v F → va_P (dC, dI) classes (wX g c v_lp1701 F_lp1701 rc) H → va_S (AX g s.heap.size) s.heap H locs → lv_has ls 6 [(5, .int x5_lp1701), (3, .long x3_lp1701), (0, .ref (g 10)), (1, .int p0), (2, .int p1)] → W p l e (headSpec (Cond.code yX5_halfOf cX5_halfOf 6 (some .int) :: wA) ({ frames := 7, cells := 0, slots := 0, locals := 280 })).room s m ([.ref (g 10), .int p0, .int p1] : List Value).toArray below meth c0 H locs 0 0 (MQ below (va_Qi (fun (r : Int32) (u : StX) => IX u.1 u.2.1 ∧ alX u.1 u.2.1 = alX v F ∧ u.2.2 = rc ∧ (∀ k, k ∉ ([126] : List Nat) → u.1 k = v k) ∧ True) (BX dC dI g c) (AX g s.heap.size)) ([.ref (g 10), .int p0, .int p1] : List Value).toArray s 0 0 (AX g s.heap.size)) (F0 m 5 ls []) := by
    intro n
    induction n with
    | zero =>
      intro x5_lp1701 x3_lp1701 v_lp1701 F_lp1701 H locs ls t1702 hm hf_lp1701 hI hal hP hS hl
      exfalso
      have := i32_rng x5_lp1701
      have hI1 := hI.1
      omega
    | succ n ih_lp1701 =>
      intro x5_lp1701 x3_lp1701 v_lp1701 F_lp1701 H locs ls t1702 hm hf_lp1701 hI hal hP hS hl
      have rx5_lp1701 := i32_rng x5_lp1701
      refine lv_iload hx hb dX5_halfOf_5 (lv_at hl 0 rfl) ?_
      refine lv_aload_n hx hb dX5_halfOf_7 rfl (lv_at hl 2 rfl) ?_
      refine va_get (D := (dC, dI)) (ci := 5) (v := .ref (g 3)) (C := RX5) (T := TX5) (N := 6) hx hb hwd inA_X5 hown hK hP 10 rfl rfl 1 (by decide) (hwd _ wk_146) (fun _ h9 => h9) rfl dX5_halfOf_8 ?_
      refine va_get (D := (dC, dI)) (ci := 7) (v := .int (v_lp1701 61)) (C := RX7) (T := TX7) (N := 7) hx hb hwd inA_X7 hown hK hP 3 rfl rfl 1 (by decide) (hwd _ wk_1357) (fun _ h9 => h9) rfl dX5_halfOf_11 ?_
      refine my_top (v := v 61) (hf_lp1701 61 (by decide)) ?_
      have t1703 : 0 ≤ (v 61).toInt ∧ (v 61).toInt ≤ 100 := by have h9 := hI.1 61 _ _ rfl; rw [show v_lp1701 61 = v 61 from hf_lp1701 61 (by decide)] at h9; exact h9
      refine lv_icmp_ge (tgt := 47) hx hb dX5_halfOf_14 (by decide) (fun c1704 => ?_) (fun c1704 => ?_)
      · skip
        have t1705 := cv_le (a := (v 61).toInt) rfl (b := x5_lp1701.toInt) rfl c1704
        refine lv_ldc2 (v := (-1999999999)) hx hb hown (hwd _ wk_1359) dX5_halfOf_47 ?_
        refine lv_ldc2 (v := 1999999999) hx hb hown (hwd _ wk_1360) dX5_halfOf_50 ?_
        refine lv_lload_n hx hb dX5_halfOf_53 rfl (lv_at hl 1 rfl) ?_
        refine va_mmin_long hx hb (by rw [hml]; exact hl.1.symm) hown (hwd _ wk_1361) (hwd _ wk_471) (hwd _ wk_392) (hwd _ wk_472) (Nat.le_of_ble_eq_true rfl) (Nat.le_of_ble_eq_true rfl) (Nat.le_of_ble_eq_true rfl) (Nat.le_of_ble_eq_true rfl) dX5_halfOf_54 ?_
        refine lv_topl (fun z1706 e1707 => ?_)
        refine va_mmax_long hx hb (by rw [hml]; exact hl.1.symm) hown (hwd _ wk_1362) (hwd _ wk_1363) (hwd _ wk_392) (hwd _ wk_1364) (Nat.le_of_ble_eq_true rfl) (Nat.le_of_ble_eq_true rfl) (Nat.le_of_ble_eq_true rfl) (Nat.le_of_ble_eq_true rfl) dX5_halfOf_57 ?_
        refine lv_topl (fun z1708 e1709 => ?_)
        refine lv_l2i hx hb dX5_halfOf_60 rfl ?_
        refine lv_topi (fun z1710 e1711 => ?_)
        have hP9 : va_P (dC, dI) classes (wX g c v_lp1701 F_lp1701 rc) H := hP
        exact W.iret (v := z1710) hx hb hr (fun t ht hW => ⟨⟨z1710, (v_lp1701, F_lp1701, rc), rfl, ⟨hI, hal, rfl, (frC (by decide) hf_lp1701 (fun _ _ => rfl)), trivial⟩, (by show va_P _ _ _ t.heap; rw [ht]; exact hP9)⟩, hS.F ht⟩) hS.2.2 dX5_halfOf_61
      · skip
        have t1712 := cv_nle (a := (v 61).toInt) rfl (b := x5_lp1701.toInt) rfl c1704
        refine lv_aload_n hx hb dX5_halfOf_17 rfl (lv_at hl 2 rfl) ?_
        refine va_get (D := (dC, dI)) (ci := 5) (v := .ref (g 3)) (C := RX5) (T := TX5) (N := 6) hx hb hwd inA_X5 hown hK hP 10 rfl rfl 1 (by decide) (hwd _ wk_146) (fun _ h9 => h9) rfl dX5_halfOf_18 ?_
        refine va_get (D := (dC, dI)) (ci := 7) (v := .ref (g 26)) (C := RX7) (T := TX7) (N := 7) hx hb hwd inA_X7 hown hK hP 3 rfl rfl 4 (by decide) (hwd _ wk_1358) (fun _ h9 => h9) rfl dX5_halfOf_21 ?_
        refine lv_iload hx hb dX5_halfOf_24 (lv_at hl 0 rfl) ?_
        refine va_iald hx hb hK hP 26 14 rfl rfl (i := x5_lp1701) (vin (a := x5_lp1701.toInt) rfl (by omega)) dX5_halfOf_26 ?_
        refine lv_topi (fun z1713 e1714 => ?_)
        refine lv_iload_n hx hb dX5_halfOf_27 rfl (lv_at hl 3 rfl) ?_
        refine lv_icmp_ne (tgt := 41) hx hb dX5_halfOf_28 (by decide) (fun c1715 => ?_) (fun c1715 => ?_)
        · skip
          have t1716 := cv_ne (a := z1713.toInt) rfl (b := p0.toInt) rfl c1715
          obtain ⟨z1717, e1718⟩ : ∃ y : Int32, y = x5_lp1701 + 1 := ⟨_, rfl⟩
          try (have t1719 := tadd e1718 rfl (b := 1) (by decide) (by omega))
          refine lv_iinc (v := z1717) (lv' := [(5, .int z1717), (3, .long x3_lp1701), (0, .ref (g 10)), (1, .int p0), (2, .int p1)]) hx hb dX5_halfOf_41 hl (k := 0) rfl (by rw [e1718]; rfl) (by decide) rfl (fun ls hl => ?_)
          refine lv_goto (tgt := 5) hx hb dX5_halfOf_44 (by decide) ?_
          exact ih_lp1701 z1717 x3_lp1701 v_lp1701 F_lp1701 _ _ _ (by omega) (by omega) hf_lp1701 hI hal hP hS (lv_sub hl [0, 1, 2, 3, 4] rfl)
        · skip
          have t1720 := cv_eq (a := z1713.toInt) rfl (b := p0.toInt) rfl c1715
          refine lv_lload_n hx hb dX5_halfOf_31 rfl (lv_at hl 1 rfl) ?_
          refine lv_aload_n hx hb dX5_halfOf_32 rfl (lv_at hl 2 rfl) ?_
          refine lv_iload hx hb dX5_halfOf_33 (lv_at hl 0 rfl) ?_
          refine lv_iload_n hx hb dX5_halfOf_35 rfl (lv_at hl 4 rfl) ?_
          refine va_calll (va_runV (As := [.int x5_lp1701, .int p1]) (rest := [.long x3_lp1701]) ⟨hx, hb, hml, hown, hwd⟩ (c_X5_halfOfPart l dC dI g c adK adV v_lp1701 F_lp1701 rc H.size x5_lp1701 p1 hg hI (by omega)) (cwV 2 hwd (gV wk_1368 wk_1365 wk_1366 wk_1367 wk_50) rfl rfl rfl (by decide +kernel) ⟨Nat.le_of_ble_eq_true rfl, Nat.le_of_ble_eq_true rfl⟩) ⟨PX.blind, va_recv hK hP (ci := 5) (q0 := 10) rfl rfl, fun U hU hW => ⟨rfl, PX.at hK hE hP hS hU hW⟩⟩ rfl rfl hl.1 rfl (lv_room (Nat.le_of_ble_eq_true rfl)) dX5_halfOf_36 ⟨Nat.le_of_ble_eq_true rfl, Nat.le_of_ble_eq_true rfl⟩) hS (fun q _ h => (freeX hS) q h) (freeX hS) (fun r1721 u t H1 locs ht hvm hw hB hz1 hk1 hS => ?_)
          unfold BX at hB
          rw [ht] at hB
          obtain ⟨v1722, F1723, rc9⟩ := u
          obtain ⟨hI, hal9, hrc, hf1724, hw⟩ := hw
          dsimp only at hI hal9 hrc hB hf1724 hw
          rw [hrc] at hB
          have hal := hal9.trans hal
          have hP : va_P (dC, dI) classes (wX g c v1722 F1723 rc) H1 := hB
          generalize H1 = H at hP hS ⊢
          refine lv_ladd hx hb dX5_halfOf_39 ?_
          refine lv_topl (fun z1725 e1726 => ?_)
          refine lv_lstore_n (lv' := [(3, .long z1725), (5, .int x5_lp1701), (0, .ref (g 10)), (1, .int p0), (2, .int p1)]) hx hb dX5_halfOf_40 rfl hl (by decide) rfl (fun ls hl => ?_)
          obtain ⟨z1727, e1728⟩ : ∃ y : Int32, y = x5_lp1701 + 1 := ⟨_, rfl⟩
          try (have t1729 := tadd e1728 rfl (b := 1) (by decide) (by omega))
          refine lv_iinc (v := z1727) (lv' := [(5, .int z1727), (3, .long z1725), (0, .ref (g 10)), (1, .int p0), (2, .int p1)]) hx hb dX5_halfOf_41 hl (k := 1) rfl (by rw [e1728]; rfl) (by decide) rfl (fun ls hl => ?_)
          refine lv_goto (tgt := 5) hx hb dX5_halfOf_44 (by decide) ?_
          exact ih_lp1701 z1727 z1725 v1722 F1723 _ _ _ (by omega) (by omega) (frC (by decide) hf1724 hf_lp1701) hI hal hP hS (lv_sub hl [0, 1, 2, 3, 4] rfl)
  obtain ⟨n9, hn9⟩ : ∃ n : Nat, 2147483648 - 0 ≤ (n : Int) := ⟨((2147483648 - 0 : Int)).toNat, by omega⟩
  exact lp1701 n9 0 0 v F H _ ls (by have : (0 : Int32).toInt = 0 := (by decide); omega) (by have : (0 : Int32).toInt = 0 := (by decide); omega) (fun _ _ => rfl) hI hal hP hS hl
