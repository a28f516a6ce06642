set_option maxHeartbeats 8000000 in
set_option maxRecDepth 100000 in
theorem c_X5_isWornOut (l : Launch) (dC : Nat → ClassId) (dI : Nat → Nat → Nat) (g : Nat → Nat) (c : Nat → ClassId) (adK adV : Nat → Nat) (v : Nat → Int32) (F : Nat → Nat → Int32) (rc sz : Nat) (p0 : Int32) (p1 : Int32) (hg : injX g) (hI : IX v F) (h0 : 0 ≤ p0.toInt ∧ p0.toInt ≤ 99) : Met l yX5_isWornOut (Cond.code yX5_isWornOut cX5_isWornOut 4 (some .boolean) :: wA) ({ frames := 6, cells := 0, slots := 0, locals := 240 }) (va_Pc [.ref (g 10), .int p0, .int p1] (PX dC dI g c adK adV v F rc sz)) (va_Qi (fun (r : Int32) (u : StX) => IX u.1 u.2.1 ∧ alX u.1 u.2.1 = alX v F ∧ u.2.2 = rc ∧ (∀ k, k ∉ ([126] : List Nat) → u.1 k = v k) ∧ 0 ≤ r.toInt ∧ r.toInt ≤ 1) (BX dC dI g c) (AX g sz)) 0 0 (AX g sz) := by
  refine Met.ofW (cc := cX5_isWornOut) (maxL := 4) (ret := (some .boolean)) (by decide) rfl ?_
  intro p e s m args below meth c0 s₁ B hml hv
  obtain ⟨rfl, hsz, hP, hK, hE⟩ := hv
  have hx := B.exec
  have hb := B.bytes
  have hr := B.returns
  have hts := atoms_spec (ws := Cond.code yX5_isWornOut cX5_isWornOut 4 (some .boolean) :: wA) B.pre
  have hwd : ∀ w ∈ wA, w.before _ s = true := fun w h => hts w (List.mem_cons_of_mem _ h)
  have hown : s.vm.findClass RX5 = some m.cls := findClass_of_methodNamed B.named
  have hlocks := B.notSynchronized
  subst hsz
  have hl := lv_entry ([.ref (g 10), .int p0, .int p1]) (n := 4) (Nat.le_of_ble_eq_true rfl)
  rw [lg_entry_eq]
  generalize (lg_sl ([.ref (g 10), .int p0, .int p1]) ++ List.replicate (4 - (lg_sl ([.ref (g 10), .int p0, .int p1])).length) Slot.unset).toArray = ls at hl ⊢
  have hl : lv_has ls 4 [(0, .ref (g 10)), (1, .int p0), (2, .int p1)] := hl
  obtain ⟨H, eH⟩ : ∃ z, z = s.heap := ⟨_, rfl⟩
  have hP : va_P (dC, dI) classes (wX g c v F rc) H := by rw [eH]; exact hP
  have hS : va_S (AX g s.heap.size) s.heap H [] := by rw [eH]; exact va_S.rf
  refine my_heap eH ?_
  have hal : alX v F = alX v F := rfl
  have rp0 := i32_rng p0
  have rp1 := i32_rng p1
  refine lv_aload_n hx hb dX5_isWornOut_0 rfl (lv_at hl 0 rfl) ?_
  refine lv_iload_n hx hb dX5_isWornOut_1 rfl (lv_at hl 1 rfl) ?_
  refine lv_iload_n hx hb dX5_isWornOut_2 rfl (lv_at hl 2 rfl) ?_
  refine va_callv (va_runV (As := [.int p0, .int p1]) (rest := []) ⟨hx, hb, hml, hown, hwd⟩ (c_X5_reckon l dC dI g c adK adV v F rc H.size p0 p1 hg hI (by omega)) (cwV 2 hwd (gV wk_359 wk_356 wk_357 wk_358 wk_50) rfl rfl rfl (by decide +kernel) ⟨Nat.le_of_ble_eq_true rfl, Nat.le_of_ble_eq_true rfl⟩) ⟨PX.blind, va_recv hK hP (ci := 5) (q0 := 10) rfl rfl, fun U hU hW => ⟨rfl, PX.at hK hE hP hS hU hW⟩⟩ rfl rfl hl.1 rfl (lv_room (Nat.le_of_ble_eq_true rfl)) dX5_isWornOut_3 ⟨Nat.le_of_ble_eq_true rfl, Nat.le_of_ble_eq_true rfl⟩) hS (fun q _ h => (freeX hS) q h) (freeX hS) (fun u t H1 locs ht hvm hw hB hz1 hk1 hS => ?_)
  unfold BX at hB
  rw [ht] at hB
  obtain ⟨v1633, F1634, rc9⟩ := u
  obtain ⟨hI, hal9, hrc, hf1635, hw⟩ := hw
  dsimp only at hI hal9 hrc hB hf1635 hw
  rw [hrc] at hB
  have hal := hal9.trans hal
  have hP : va_P (dC, dI) classes (wX g c v1633 F1634 rc) H1 := hB
  generalize H1 = H at hP hS ⊢
  refine lv_iconst (v := 0) hx hb dX5_isWornOut_6 (by decide) ?_
  refine lv_istore_n (lv' := [(3, .int 0), (0, .ref (g 10)), (1, .int p0), (2, .int p1)]) hx hb dX5_isWornOut_7 rfl hl (by decide) rfl (fun ls hl => ?_)
  have lp1636 : ∀ (n : Nat) (x3_lp1636 : Int32) (v_lp1636 : Nat → Int32) (F_lp1636 : Nat → Nat → Int32) (H : Heap) (locs : List Loc) (ls : Array Slot), (0 ≤ x3_lp1636.toInt) → (2147483648 - x3_lp1636.toInt ≤ (n : Int)) → (∀ k, k ∉ ([] : List Nat) → v_lp1636 k = v1633 k) → IX v_lp1636 F_lp1636 → alX v_lp1636 F_lp1636 = alX v F → va_P (dC, dI) classes (wX g c v_lp1636 F_lp1636 rc) H → va_S (AX g s.heap.size) s.heap H locs → lv_has ls 4 [(3, .int x3_lp1636), (0, .ref (g 10)), (1, .int p0), (2, .int p1)] → W p l e (headSpec (Cond.code yX5_isWornOut cX5_isWornOut 4 (some .boolean) :: wA) ({ frames := 6, cells := 0, slots := 0, locals := 240 })).room s m ([.ref (g 10), .int p0, .int p1] : List Value).toArray below meth c0 H locs 0 0 (MQ below (va_Qi (fun (r : Int32) (u : StX) => IX u.1 u.2.1 ∧ alX u.1 u.2.1 = alX v F ∧ u.2.2 = rc ∧ (∀ k, k ∉ ([126] : List Nat) → u.1 k = v k) ∧ 0 ≤ r.toInt ∧ r.toInt ≤ 1) (BX dC dI g c) (AX g s.heap.size)) ([.ref (g 10), .int p0, .int p1] : List Value).toArray s 0 0 (AX g s.heap.size)) (F0 m 8 ls []) := by
    intro n
    induction n with
    | zero =>
      intro x3_lp1636 v_lp1636 F_lp1636 H locs ls t1637 hm hf_lp1636 hI hal hP hS hl
      exfalso
      have := i32_rng x3_lp1636
      have hI1 := hI.1
      omega
    | succ n ih_lp1636 =>
      intro x3_lp1636 v_lp1636 F_lp1636 H locs ls t1637 hm hf_lp1636 hI hal hP hS hl
      have rx3_lp1636 := i32_rng x3_lp1636
      refine lv_iload_n hx hb dX5_isWornOut_8 rfl (lv_at hl 0 rfl) ?_
      refine lv_iconst (v := 3) hx hb dX5_isWornOut_9 (by decide) ?_
      refine lv_icmp_ge (tgt := 50) hx hb dX5_isWornOut_10 (by decide) (fun c1638 => ?_) (fun c1638 => ?_)
      · skip
        have t1639 := cv_le (a := 3) (by decide) (b := x3_lp1636.toInt) rfl c1638
        refine lv_iconst (v := 0) hx hb dX5_isWornOut_50 (by decide) ?_
        have hP9 : va_P (dC, dI) classes (wX g c v_lp1636 F_lp1636 rc) H := hP
        exact W.zret (v := 0) hx hb hr (rfl) (fun t ht hW => ⟨⟨0, (v_lp1636, F_lp1636, rc), rfl, ⟨hI, hal, rfl, (frC (by decide) hf_lp1636 (frC (by decide) hf1635 (fun _ _ => rfl))), by have : (0 : Int32).toInt = 0 := (by decide); omega⟩, (by show va_P _ _ _ t.heap; rw [ht]; exact hP9)⟩, hS.F ht⟩) hS.2.2 dX5_isWornOut_51
      · skip
        have t1640 := cv_nle (a := 3) (by decide) (b := x3_lp1636.toInt) rfl c1638
        refine lv_aload_n hx hb dX5_isWornOut_13 rfl (lv_at hl 1 rfl) ?_
        refine va_get (D := (dC, dI)) (ci := 5) (v := .ref (g 1)) (C := RX5) (T := TX5) (N := 6) hx hb hwd inA_X5 hown hK hP 10 rfl rfl 0 (by decide) (hwd _ wk_145) (fun _ h9 => h9) rfl dX5_isWornOut_14 ?_
        refine lv_aload_n hx hb dX5_isWornOut_17 rfl (lv_at hl 1 rfl) ?_
        refine va_get (D := (dC, dI)) (ci := 5) (v := .ref (g 3)) (C := RX5) (T := TX5) (N := 6) hx hb hwd inA_X5 hown hK hP 10 rfl rfl 1 (by decide) (hwd _ wk_146) (fun _ h9 => h9) rfl dX5_isWornOut_18 ?_
        refine va_get (D := (dC, dI)) (ci := 7) (v := .ref (g 24)) (C := RX7) (T := TX7) (N := 7) hx hb hwd inA_X7 hown hK hP 3 rfl rfl 2 (by decide) (hwd _ wk_355) (fun _ h9 => h9) rfl dX5_isWornOut_21 ?_
        refine lv_iload_n hx hb dX5_isWornOut_24 rfl (lv_at hl 2 rfl) ?_
        refine va_iald hx hb hK hP 24 12 rfl rfl (i := p0) (vin (a := p0.toInt) rfl (by omega)) dX5_isWornOut_25 ?_
        refine lv_topi (fun z1641 e1642 => ?_)
        have t1643 : 0 ≤ z1641.toInt ∧ z1641.toInt ≤ 9 := by rw [e1642]; exact hI.2 24 _ _ rfl _
        refine lv_iload_n hx hb dX5_isWornOut_26 rfl (lv_at hl 0 rfl) ?_
        refine va_calli (va_runV (As := [.int z1641, .int x3_lp1636]) (rest := []) ⟨hx, hb, hml, hown, hwd⟩ (c_X2_limitOf l dC dI g c adK adV v_lp1636 F_lp1636 rc H.size z1641 x3_lp1636 hg hI (by omega) (by omega)) (cwV 2 hwd (gV wk_365 wk_362 wk_363 wk_364 wk_14) rfl rfl rfl (by decide +kernel) ⟨Nat.le_of_ble_eq_true rfl, Nat.le_of_ble_eq_true rfl⟩) ⟨PX.blind, va_recv hK hP (ci := 2) (q0 := 1) rfl rfl, fun U hU hW => ⟨rfl, PX.at hK hE hP hS hU hW⟩⟩ rfl rfl hl.1 rfl (lv_room (Nat.le_of_ble_eq_true rfl)) dX5_isWornOut_27 ⟨Nat.le_of_ble_eq_true rfl, Nat.le_of_ble_eq_true rfl⟩) hS (fun q _ h => (freeX hS) q h) (freeX hS) (fun r1644 u t H1 locs ht hvm hw hB hz1 hk1 hS => ?_)
        unfold BX at hB
        rw [ht] at hB
        have hP : va_P (dC, dI) classes (wX g c v_lp1636 F_lp1636 rc) H1 := hB
        generalize H1 = H at hP hS ⊢
        have rr_r1644 := i32_rng r1644
        refine lv_if_le (tgt := 44) hx hb dX5_isWornOut_30 (by decide) (fun c1645 => ?_) (fun c1645 => ?_)
        · skip
          have t1646 := cv_le (a := r1644.toInt) rfl (b := 0) (by decide) c1645
          obtain ⟨z1647, e1648⟩ : ∃ y : Int32, y = x3_lp1636 + 1 := ⟨_, rfl⟩
          try (have t1649 := tadd e1648 rfl (b := 1) (by decide) (by omega))
          refine lv_iinc (v := z1647) (lv' := [(3, .int z1647), (0, .ref (g 10)), (1, .int p0), (2, .int p1)]) hx hb dX5_isWornOut_44 hl (k := 0) rfl (by rw [e1648]; rfl) (by decide) rfl (fun ls hl => ?_)
          refine lv_goto (tgt := 8) hx hb dX5_isWornOut_47 (by decide) ?_
          exact ih_lp1636 z1647 v_lp1636 F_lp1636 _ _ _ (by omega) (by omega) hf_lp1636 hI hal hP hS (lv_sub hl [0, 1, 2, 3] rfl)
        · skip
          have t1650 := cv_nle (a := r1644.toInt) rfl (b := 0) (by decide) c1645
          refine lv_aload_n hx hb dX5_isWornOut_33 rfl (lv_at hl 1 rfl) ?_
          refine va_get (D := (dC, dI)) (ci := 5) (v := .ref (g 74)) (C := RX5) (T := TX5) (N := 6) hx hb hwd inA_X5 hown hK hP 10 rfl rfl 5 (by decide) (hwd _ wk_144) (fun _ h9 => h9) rfl dX5_isWornOut_34 ?_
          refine lv_iload_n hx hb dX5_isWornOut_37 rfl (lv_at hl 0 rfl) ?_
          refine va_iald hx hb hK hP 74 62 rfl rfl (i := x3_lp1636) (vin (a := x3_lp1636.toInt) rfl (by omega)) dX5_isWornOut_38 ?_
          refine lv_topi (fun z1651 e1652 => ?_)
          refine lv_if_ge (tgt := 44) hx hb dX5_isWornOut_39 (by decide) (fun c1653 => ?_) (fun c1653 => ?_)
          · skip
            have t1654 := cv_le (a := 0) (by decide) (b := z1651.toInt) rfl c1653
            obtain ⟨z1655, e1656⟩ : ∃ y : Int32, y = x3_lp1636 + 1 := ⟨_, rfl⟩
            try (have t1657 := tadd e1656 rfl (b := 1) (by decide) (by omega))
            refine lv_iinc (v := z1655) (lv' := [(3, .int z1655), (0, .ref (g 10)), (1, .int p0), (2, .int p1)]) hx hb dX5_isWornOut_44 hl (k := 0) rfl (by rw [e1656]; rfl) (by decide) rfl (fun ls hl => ?_)
            refine lv_goto (tgt := 8) hx hb dX5_isWornOut_47 (by decide) ?_
            exact ih_lp1636 z1655 v_lp1636 F_lp1636 _ _ _ (by omega) (by omega) hf_lp1636 hI hal hP hS (lv_sub hl [0, 1, 2, 3] rfl)
          · skip
            have t1658 := cv_nle (a := 0) (by decide) (b := z1651.toInt) rfl c1653
            refine lv_iconst (v := 1) hx hb dX5_isWornOut_42 (by decide) ?_
            have hP9 : va_P (dC, dI) classes (wX g c v_lp1636 F_lp1636 rc) H := hP
            exact W.zret (v := 1) hx hb hr (rfl) (fun t ht hW => ⟨⟨1, (v_lp1636, F_lp1636, rc), rfl, ⟨hI, hal, rfl, (frC (by decide) hf_lp1636 (frC (by decide) hf1635 (fun _ _ => rfl))), by have : (1 : Int32).toInt = 1 := (by decide); omega⟩, (by show va_P _ _ _ t.heap; rw [ht]; exact hP9)⟩, hS.F ht⟩) hS.2.2 dX5_isWornOut_43
  obtain ⟨n9, hn9⟩ : ∃ n : Nat, 2147483648 - 0 ≤ (n : Int) := ⟨((2147483648 - 0 : Int)).toNat, by omega⟩
  exact lp1636 n9 0 v1633 F1634 H _ ls (by have : (0 : Int32).toInt = 0 := (by decide); omega) (by have : (0 : Int32).toInt = 0 := (by decide); omega) (fun _ _ => rfl) hI hal hP hS hl
