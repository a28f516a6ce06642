set_option maxHeartbeats 8000000 in
set_option maxRecDepth 100000 in
theorem c_X1_groundOf (l : Launch) (dC : Nat → ClassId) (dI : Nat → Nat → Nat) (g : Nat → Nat) (c : Nat → ClassId) (adK adV : Nat → Nat) (v : Nat → Int32) (F : Nat → Nat → Int32) (rc sz : Nat) (p0 : Int32) (p1 : Int32) (p2 : Int32) (hg : injX g) (hI : IX v F) (h0 : 0 ≤ p0.toInt ∧ p0.toInt ≤ 9) : Met l yX1_groundOf (Cond.code yX1_groundOf cX1_groundOf 5 (some .int) :: wA) ({ frames := 7, cells := 0, slots := 0, locals := 280 }) (va_Pc [.ref (g 11), .int p0, .int p1, .int p2] (PX dC dI g c adK adV v F rc sz)) (va_Qi (fun (r : Int32) (u : StX) => IX u.1 u.2.1 ∧ alX u.1 u.2.1 = alX v F ∧ u.2.2 = rc ∧ (∀ k, k ∉ ([126] : List Nat) → u.1 k = v k) ∧ True) (BX dC dI g c) (AX g sz)) 0 0 (AX g sz) := by
  refine Met.ofW (cc := cX1_groundOf) (maxL := 5) (ret := (some .int)) (by decide) rfl ?_
  intro p e s m args below meth c0 s₁ B hml hv
  obtain ⟨rfl, hsz, hP, hK, hE⟩ := hv
  have hx := B.exec
  have hb := B.bytes
  have hr := B.returns
  have hts := atoms_spec (ws := Cond.code yX1_groundOf cX1_groundOf 5 (some .int) :: wA) B.pre
  have hwd : ∀ w ∈ wA, w.before _ s = true := fun w h => hts w (List.mem_cons_of_mem _ h)
  have hown : s.vm.findClass RX1 = some m.cls := findClass_of_methodNamed B.named
  have hlocks := B.notSynchronized
  subst hsz
  have hl := lv_entry ([.ref (g 11), .int p0, .int p1, .int p2]) (n := 5) (Nat.le_of_ble_eq_true rfl)
  rw [lg_entry_eq]
  generalize (lg_sl ([.ref (g 11), .int p0, .int p1, .int p2]) ++ List.replicate (5 - (lg_sl ([.ref (g 11), .int p0, .int p1, .int p2])).length) Slot.unset).toArray = ls at hl ⊢
  have hl : lv_has ls 5 [(0, .ref (g 11)), (1, .int p0), (2, .int p1), (3, .int p2)] := hl
  obtain ⟨H, eH⟩ : ∃ z, z = s.heap := ⟨_, rfl⟩
  have hP : va_P (dC, dI) classes (wX g c v F rc) H := by rw [eH]; exact hP
  have hS : va_S (AX g s.heap.size) s.heap H [] := by rw [eH]; exact va_S.rf
  refine my_heap eH ?_
  have hal : alX v F = alX v F := rfl
  have rp0 := i32_rng p0
  have rp1 := i32_rng p1
  have rp2 := i32_rng p2
  refine lv_aload_n hx hb dX1_groundOf_0 rfl (lv_at hl 0 rfl) ?_
  refine va_get (D := (dC, dI)) (ci := 1) (v := .ref (g 3)) (C := RX1) (T := TX1) (N := 13) hx hb hwd inA_X1 hown hK hP 11 rfl rfl 3 (by decide) (hwd _ wk_175) (fun _ h9 => h9) rfl dX1_groundOf_1 ?_
  refine lv_iload_n hx hb dX1_groundOf_4 rfl (lv_at hl 1 rfl) ?_
  refine va_calli (va_runV (As := [.int p0]) (rest := []) ⟨hx, hb, hml, hown, hwd⟩ (c_X7_countAt l dC dI g c adK adV v F rc H.size p0 hg hI ) (cwV 1 hwd (gV wk_346 wk_343 wk_344 wk_345 wk_26) rfl rfl rfl (by decide +kernel) ⟨Nat.le_of_ble_eq_true rfl, Nat.le_of_ble_eq_true rfl⟩) ⟨PX.blind, va_recv hK hP (ci := 7) (q0 := 3) rfl rfl, fun U hU hW => ⟨rfl, PX.at hK hE hP hS hU hW⟩⟩ rfl rfl hl.1 rfl (lv_room (Nat.le_of_ble_eq_true rfl)) dX1_groundOf_5 ⟨Nat.le_of_ble_eq_true rfl, Nat.le_of_ble_eq_true rfl⟩) hS (fun q _ h => (freeX hS) q h) (freeX hS) (fun r1730 u t H1 locs ht hvm hw hB hz1 hk1 hS => ?_)
  unfold BX at hB
  rw [ht] at hB
  have hP : va_P (dC, dI) classes (wX g c v F rc) H1 := hB
  generalize H1 = H at hP hS ⊢
  have rr_r1730 := i32_rng r1730
  refine lv_aload_n hx hb dX1_groundOf_8 rfl (lv_at hl 0 rfl) ?_
  refine va_get (D := (dC, dI)) (ci := 1) (v := .ref (g 2)) (C := RX1) (T := TX1) (N := 13) hx hb hwd inA_X1 hown hK hP 11 rfl rfl 0 (by decide) (hwd _ wk_170) (fun _ h9 => h9) rfl dX1_groundOf_9 ?_
  refine lv_iload_n hx hb dX1_groundOf_12 rfl (lv_at hl 1 rfl) ?_
  refine va_calli (va_runV (As := [.int p0]) (rest := [.int r1730]) ⟨hx, hb, hml, hown, hwd⟩ (c_X8_needOfAll l dC dI g c adK adV v F rc H.size p0 hg hI (by omega)) (cwV 1 hwd (gV wk_350 wk_347 wk_348 wk_349 wk_18) rfl rfl rfl (by decide +kernel) ⟨Nat.le_of_ble_eq_true rfl, Nat.le_of_ble_eq_true rfl⟩) ⟨PX.blind, va_recv hK hP (ci := 8) (q0 := 2) rfl rfl, fun U hU hW => ⟨rfl, PX.at hK hE hP hS hU hW⟩⟩ rfl rfl hl.1 rfl (lv_room (Nat.le_of_ble_eq_true rfl)) dX1_groundOf_13 ⟨Nat.le_of_ble_eq_true rfl, Nat.le_of_ble_eq_true rfl⟩) hS (fun q _ h => (freeX hS) q h) (freeX hS) (fun r1731 u t H1 locs ht hvm hw hB hz1 hk1 hS => ?_)
  unfold BX at hB
  rw [ht] at hB
  have hP : va_P (dC, dI) classes (wX g c v F rc) H1 := hB
  generalize H1 = H at hP hS ⊢
  have rr_r1731 := i32_rng r1731
  refine lv_icmp_ge (tgt := 21) hx hb dX1_groundOf_16 (by decide) (fun c1732 => ?_) (fun c1732 => ?_)
  · skip
    have t1733 := cv_le (a := r1731.toInt) rfl (b := r1730.toInt) rfl c1732
    refine lv_iconst (v := 0) hx hb dX1_groundOf_21 (by decide) ?_
    refine lv_istore (lv' := [(4, .int 0), (0, .ref (g 11)), (1, .int p0), (2, .int p1), (3, .int p2)]) hx hb dX1_groundOf_22 hl (by decide) rfl (fun ls hl => ?_)
    have lp1734 : ∀ (n : Nat) (x4_lp1734 : Int32) (v_lp1734 : Nat → Int32) (F_lp1734 : Nat → Nat → Int32) (H : Heap) (locs : List Loc) (ls : Array Slot), (0 ≤ x4_lp1734.toInt) → (2147483648 - x4_lp1734.toInt ≤ (n : Int)) → (∀ k, k ∉ ([126] : List Nat) → v_lp1734 k = v k) → IX v_lp1734 F_lp1734 → alX v_lp1734 F_lp1734 = alX v F → va_P (dC, dI) classes (wX g c v_lp1734 F_lp1734 rc) H → va_S (AX g s.heap.size) s.heap H locs → lv_has ls 5 [(4, .int x4_lp1734), (0, .ref (g 11)), (1, .int p0), (2, .int p1), (3, .int p2)] → W p l e (headSpec (Cond.code yX1_groundOf cX1_groundOf 5 (some .int) :: wA) ({ frames := 7, cells := 0, slots := 0, locals := 280 })).room s m ([.ref (g 11), .int p0, .int p1, .int p2] : List Value).toArray below meth c0 H locs 0 0 (MQ below (va_Qi (fun (r : Int32) (u : StX) => IX u.1 u.2.1 ∧ alX u.1 u.2.1 = alX v F ∧ u.2.2 = rc ∧ (∀ k, k ∉ ([126] : List Nat) → u.1 k = v k) ∧ True) (BX dC dI g c) (AX g s.heap.size)) ([.ref (g 11), .int p0, .int p1, .int p2] : List Value).toArray s 0 0 (AX g s.heap.size)) (F0 m 24 ls []) := by
      intro n
      induction n with
      | zero =>
        intro x4_lp1734 v_lp1734 F_lp1734 H locs ls t1735 hm hf_lp1734 hI hal hP hS hl
        exfalso
        have := i32_rng x4_lp1734
        have hI1 := hI.1
        omega
      | succ n ih_lp1734 =>
        intro x4_lp1734 v_lp1734 F_lp1734 H locs ls t1735 hm hf_lp1734 hI hal hP hS hl
        have rx4_lp1734 := i32_rng x4_lp1734
        refine lv_iload hx hb dX1_groundOf_24 (lv_at hl 0 rfl) ?_
        refine lv_aload_n hx hb dX1_groundOf_26 rfl (lv_at hl 1 rfl) ?_
        refine va_get (D := (dC, dI)) (ci := 1) (v := .ref (g 3)) (C := RX1) (T := TX1) (N := 13) hx hb hwd inA_X1 hown hK hP 11 rfl rfl 3 (by decide) (hwd _ wk_175) (fun _ h9 => h9) rfl dX1_groundOf_27 ?_
        refine va_get (D := (dC, dI)) (ci := 7) (v := .int (v_lp1734 61)) (C := RX7) (T := TX7) (N := 7) hx hb hwd inA_X7 hown hK hP 3 rfl rfl 1 (by decide) (hwd _ wk_341) (fun _ h9 => h9) rfl dX1_groundOf_30 ?_
        refine my_top (v := v 61) (hf_lp1734 61 (by decide)) ?_
        have t1736 : 0 ≤ (v 61).toInt ∧ (v 61).toInt ≤ 100 := by have h9 := hI.1 61 _ _ rfl; rw [show v_lp1734 61 = v 61 from hf_lp1734 61 (by decide)] at h9; exact h9
        refine lv_icmp_ge (tgt := 71) hx hb dX1_groundOf_33 (by decide) (fun c1737 => ?_) (fun c1737 => ?_)
        · skip
          have t1738 := cv_le (a := (v 61).toInt) rfl (b := x4_lp1734.toInt) rfl c1737
          refine lv_aload_n hx hb dX1_groundOf_71 rfl (lv_at hl 1 rfl) ?_
          refine va_get (D := (dC, dI)) (ci := 1) (v := .ref (g 8)) (C := RX1) (T := TX1) (N := 13) hx hb hwd inA_X1 hown hK hP 11 rfl rfl 4 (by decide) (hwd _ wk_176) (fun _ h9 => h9) rfl dX1_groundOf_72 ?_
          refine lv_iload_n hx hb dX1_groundOf_75 rfl (lv_at hl 2 rfl) ?_
          refine lv_iload_n hx hb dX1_groundOf_76 rfl (lv_at hl 4 rfl) ?_
          refine va_calli (va_runV (As := [.int p0, .int p2]) (rest := []) ⟨hx, hb, hml, hown, hwd⟩ (c_X6_anyLate l dC dI g c adK adV v_lp1734 F_lp1734 rc H.size p0 p2 hg hI (by omega)) (cwV 2 hwd (gV wk_431 wk_428 wk_429 wk_430 wk_42) rfl rfl rfl (by decide +kernel) ⟨Nat.le_of_ble_eq_true rfl, Nat.le_of_ble_eq_true rfl⟩) ⟨PX.blind, va_recv hK hP (ci := 6) (q0 := 8) rfl rfl, fun U hU hW => ⟨rfl, PX.at hK hE hP hS hU hW⟩⟩ rfl rfl hl.1 rfl (lv_room (Nat.le_of_ble_eq_true rfl)) dX1_groundOf_77 ⟨Nat.le_of_ble_eq_true rfl, Nat.le_of_ble_eq_true rfl⟩) hS (fun q _ h => (freeX hS) q h) (freeX hS) (fun r1739 u t H1 locs ht hvm hw hB hz1 hk1 hS => ?_)
          unfold BX at hB
          rw [ht] at hB
          have hP : va_P (dC, dI) classes (wX g c v_lp1734 F_lp1734 rc) H1 := hB
          have hw : 0 ≤ r1739.toInt ∧ r1739.toInt ≤ 1 := hw
          generalize H1 = H at hP hS ⊢
          have hw_r1739 := hw
          refine lv_if_eq (tgt := 87) hx hb dX1_groundOf_80 (by decide) (fun c1740 => ?_) (fun c1740 => ?_)
          · skip
            have t1741 := cv_eq (a := r1739.toInt) rfl (b := 0) (by decide) c1740
            refine lv_iconst (v := 0) hx hb dX1_groundOf_87 (by decide) ?_
            have hP9 : va_P (dC, dI) classes (wX g c v_lp1734 F_lp1734 rc) H := hP
            exact W.iret (v := 0) hx hb hr (fun t ht hW => ⟨⟨0, (v_lp1734, F_lp1734, rc), rfl, ⟨hI, hal, rfl, (frC (by decide) hf_lp1734 (fun _ _ => rfl)), trivial⟩, (by show va_P _ _ _ t.heap; rw [ht]; exact hP9)⟩, hS.F ht⟩) hS.2.2 dX1_groundOf_88
          · skip
            have t1742 := cv_ne (a := r1739.toInt) rfl (b := 0) (by decide) c1740
            refine lv_iconst (v := 3) hx hb dX1_groundOf_83 (by decide) ?_
            refine lv_goto (tgt := 88) hx hb dX1_groundOf_84 (by decide) ?_
            have hP9 : va_P (dC, dI) classes (wX g c v_lp1734 F_lp1734 rc) H := hP
            exact W.iret (v := 3) hx hb hr (fun t ht hW => ⟨⟨3, (v_lp1734, F_lp1734, rc), rfl, ⟨hI, hal, rfl, (frC (by decide) hf_lp1734 (fun _ _ => rfl)), trivial⟩, (by show va_P _ _ _ t.heap; rw [ht]; exact hP9)⟩, hS.F ht⟩) hS.2.2 dX1_groundOf_88
        · skip
          have t1743 := cv_nle (a := (v 61).toInt) rfl (b := x4_lp1734.toInt) rfl c1737
          refine lv_aload_n hx hb dX1_groundOf_36 rfl (lv_at hl 1 rfl) ?_
          refine va_get (D := (dC, dI)) (ci := 1) (v := .ref (g 3)) (C := RX1) (T := TX1) (N := 13) hx hb hwd inA_X1 hown hK hP 11 rfl rfl 3 (by decide) (hwd _ wk_175) (fun _ h9 => h9) rfl dX1_groundOf_37 ?_
          refine va_get (D := (dC, dI)) (ci := 7) (v := .ref (g 26)) (C := RX7) (T := TX7) (N := 7) hx hb hwd inA_X7 hown hK hP 3 rfl rfl 4 (by decide) (hwd _ wk_342) (fun _ h9 => h9) rfl dX1_groundOf_40 ?_
          refine lv_iload hx hb dX1_groundOf_43 (lv_at hl 0 rfl) ?_
          refine va_iald hx hb hK hP 26 14 rfl rfl (i := x4_lp1734) (vin (a := x4_lp1734.toInt) rfl (by omega)) dX1_groundOf_45 ?_
          refine lv_topi (fun z1744 e1745 => ?_)
          refine lv_iload_n hx hb dX1_groundOf_46 rfl (lv_at hl 2 rfl) ?_
          refine lv_icmp_ne (tgt := 65) hx hb dX1_groundOf_47 (by decide) (fun c1746 => ?_) (fun c1746 => ?_)
          · skip
            have t1747 := cv_ne (a := z1744.toInt) rfl (b := p0.toInt) rfl c1746
            obtain ⟨z1748, e1749⟩ : ∃ y : Int32, y = x4_lp1734 + 1 := ⟨_, rfl⟩
            try (have t1750 := tadd e1749 rfl (b := 1) (by decide) (by omega))
            refine lv_iinc (v := z1748) (lv' := [(4, .int z1748), (0, .ref (g 11)), (1, .int p0), (2, .int p1), (3, .int p2)]) hx hb dX1_groundOf_65 hl (k := 0) rfl (by rw [e1749]; rfl) (by decide) rfl (fun ls hl => ?_)
            refine lv_goto (tgt := 24) hx hb dX1_groundOf_68 (by decide) ?_
            exact ih_lp1734 z1748 v_lp1734 F_lp1734 _ _ _ (by omega) (by omega) hf_lp1734 hI hal hP hS (lv_sub hl [0, 1, 2, 3, 4] rfl)
          · skip
            have t1751 := cv_eq (a := z1744.toInt) rfl (b := p0.toInt) rfl c1746
            refine lv_aload_n hx hb dX1_groundOf_50 rfl (lv_at hl 1 rfl) ?_
            refine va_get (D := (dC, dI)) (ci := 1) (v := .ref (g 10)) (C := RX1) (T := TX1) (N := 13) hx hb hwd inA_X1 hown hK hP 11 rfl rfl 1 (by decide) (hwd _ wk_171) (fun _ h9 => h9) rfl dX1_groundOf_51 ?_
            refine lv_iload hx hb dX1_groundOf_54 (lv_at hl 0 rfl) ?_
            refine lv_iload_n hx hb dX1_groundOf_56 rfl (lv_at hl 3 rfl) ?_
            refine va_calli (va_runV (As := [.int x4_lp1734, .int p1]) (rest := []) ⟨hx, hb, hml, hown, hwd⟩ (c_X5_isWornOut l dC dI g c adK adV v_lp1734 F_lp1734 rc H.size x4_lp1734 p1 hg hI (by omega)) (cwV 2 hwd (gV wk_354 wk_351 wk_352 wk_353 wk_50) rfl rfl rfl (by decide +kernel) ⟨Nat.le_of_ble_eq_true rfl, Nat.le_of_ble_eq_true rfl⟩) ⟨PX.blind, va_recv hK hP (ci := 5) (q0 := 10) rfl rfl, fun U hU hW => ⟨rfl, PX.at hK hE hP hS hU hW⟩⟩ rfl rfl hl.1 rfl (lv_room (Nat.le_of_ble_eq_true rfl)) dX1_groundOf_57 ⟨Nat.le_of_ble_eq_true rfl, Nat.le_of_ble_eq_true rfl⟩) hS (fun q _ h => (freeX hS) q h) (freeX hS) (fun r1752 u t H1 locs ht hvm hw hB hz1 hk1 hS => ?_)
            unfold BX at hB
            rw [ht] at hB
            obtain ⟨v1753, F1754, rc9⟩ := u
            obtain ⟨hI, hal9, hrc, hf1755, hw⟩ := hw
            dsimp only at hI hal9 hrc hB hf1755 hw
            rw [hrc] at hB
            have hal := hal9.trans hal
            have hP : va_P (dC, dI) classes (wX g c v1753 F1754 rc) H1 := hB
            have hw : 0 ≤ r1752.toInt ∧ r1752.toInt ≤ 1 := hw
            generalize H1 = H at hP hS ⊢
            have hw_r1752 := hw
            refine lv_if_eq (tgt := 65) hx hb dX1_groundOf_60 (by decide) (fun c1756 => ?_) (fun c1756 => ?_)
            · skip
              have t1757 := cv_eq (a := r1752.toInt) rfl (b := 0) (by decide) c1756
              obtain ⟨z1758, e1759⟩ : ∃ y : Int32, y = x4_lp1734 + 1 := ⟨_, rfl⟩
              try (have t1760 := tadd e1759 rfl (b := 1) (by decide) (by omega))
              refine lv_iinc (v := z1758) (lv' := [(4, .int z1758), (0, .ref (g 11)), (1, .int p0), (2, .int p1), (3, .int p2)]) hx hb dX1_groundOf_65 hl (k := 0) rfl (by rw [e1759]; rfl) (by decide) rfl (fun ls hl => ?_)
              refine lv_goto (tgt := 24) hx hb dX1_groundOf_68 (by decide) ?_
              exact ih_lp1734 z1758 v1753 F1754 _ _ _ (by omega) (by omega) (frC (by decide) hf1755 hf_lp1734) hI hal hP hS (lv_sub hl [0, 1, 2, 3, 4] rfl)
            · skip
              have t1761 := cv_ne (a := r1752.toInt) rfl (b := 0) (by decide) c1756
              refine lv_iconst (v := 2) hx hb dX1_groundOf_63 (by decide) ?_
              have hP9 : va_P (dC, dI) classes (wX g c v1753 F1754 rc) H := hP
              exact W.iret (v := 2) hx hb hr (fun t ht hW => ⟨⟨2, (v1753, F1754, rc), rfl, ⟨hI, hal, rfl, (frC (by decide) hf1755 (frC (by decide) hf_lp1734 (fun _ _ => rfl))), trivial⟩, (by show va_P _ _ _ t.heap; rw [ht]; exact hP9)⟩, hS.F ht⟩) hS.2.2 dX1_groundOf_64
    obtain ⟨n9, hn9⟩ : ∃ n : Nat, 2147483648 - 0 ≤ (n : Int) := ⟨((2147483648 - 0 : Int)).toNat, by omega⟩
    exact lp1734 n9 0 v F H _ ls (by have : (0 : Int32).toInt = 0 := (by decide); omega) (by have : (0 : Int32).toInt = 0 := (by decide); omega) (fun _ _ => rfl) hI hal hP hS hl
  · skip
    have t1762 := cv_nle (a := r1731.toInt) rfl (b := r1730.toInt) rfl c1732
    refine lv_iconst (v := 1) hx hb dX1_groundOf_19 (by decide) ?_
    have hP9 : va_P (dC, dI) classes (wX g c v F rc) H := hP
    exact W.iret (v := 1) hx hb hr (fun t ht hW => ⟨⟨1, (v, F, rc), rfl, ⟨hI, hal, rfl, (fun _ _ => rfl), trivial⟩, (by show va_P _ _ _ t.heap; rw [ht]; exact hP9)⟩, hS.F ht⟩) hS.2.2 dX1_groundOf_20
set_option maxHeartbeats 8000000 in
set_option maxRecDepth 100000 in
theorem c_X1_look (l : Launch) (dC : Nat → ClassId) (dI : Nat → Nat → Nat) (g : Nat → Nat) (c : Nat → ClassId) (adK adV : Nat → Nat) (v : Nat → Int32) (F : Nat → Nat → Int32) (rc sz : Nat) (p0 : Int32) (p1 : Int32) (hg : injX g) (hI : IX v F) (h0 : 0 ≤ p0.toInt ∧ p0.toInt ≤ 99) : Met l yX1_look (Cond.code yX1_look cX1_look 3 none :: wA) ({ frames := 6, cells := 0, slots := 0, locals := 240 }) (va_Pc [.ref (g 11), .int p0, .int p1] (PX dC dI g c adK adV v F rc sz)) (va_Qv (fun (u : StX) => IX u.1 u.2.1 ∧ alX u.1 u.2.1 = alX v F ∧ u.2.2 = rc ∧ (∀ k, k ∉ ([126] : List Nat) → u.1 k = v k) ∧ True) (BX dC dI g c) (AX g sz)) 0 0 (AX g sz) := by
  refine Met.ofW (cc := cX1_look) (maxL := 3) (ret := none) (by decide) rfl ?_
  intro p e s m args below meth c0 s₁ B hml hv
  obtain ⟨rfl, hsz, hP, hK, hE⟩ := hv
  have hx := B.exec
  have hb := B.bytes
  have hr := B.returns
  have hts := atoms_spec (ws := Cond.code yX1_look cX1_look 3 none :: wA) B.pre
  have hwd : ∀ w ∈ wA, w.before _ s = true := fun w h => hts w (List.mem_cons_of_mem _ h)
  have hown : s.vm.findClass RX1 = some m.cls := findClass_of_methodNamed B.named
  have hlocks := B.notSynchronized
  subst hsz
  have hl := lv_entry ([.ref (g 11), .int p0, .int p1]) (n := 3) (Nat.le_of_ble_eq_true rfl)
  rw [lg_entry_eq]
  generalize (lg_sl ([.ref (g 11), .int p0, .int p1]) ++ List.replicate (3 - (lg_sl ([.ref (g 11), .int p0, .int p1])).length) Slot.unset).toArray = ls at hl ⊢
  have hl : lv_has ls 3 [(0, .ref (g 11)), (1, .int p0), (2, .int p1)] := hl
  obtain ⟨H, eH⟩ : ∃ z, z = s.heap := ⟨_, rfl⟩
  have hP : va_P (dC, dI) classes (wX g c v F rc) H := by rw [eH]; exact hP
  have hS : va_S (AX g s.heap.size) s.heap H [] := by rw [eH]; exact va_S.rf
  refine my_heap eH ?_
  have hal : alX v F = alX v F := rfl
  have rp0 := i32_rng p0
  have rp1 := i32_rng p1
  refine lv_aload_n hx hb dX1_look_0 rfl (lv_at hl 0 rfl) ?_
  refine va_get (D := (dC, dI)) (ci := 1) (v := .ref (g 10)) (C := RX1) (T := TX1) (N := 13) hx hb hwd inA_X1 hown hK hP 11 rfl rfl 1 (by decide) (hwd _ wk_171) (fun _ h9 => h9) rfl dX1_look_1 ?_
  refine lv_iload_n hx hb dX1_look_4 rfl (lv_at hl 1 rfl) ?_
  refine lv_iload_n hx hb dX1_look_5 rfl (lv_at hl 2 rfl) ?_
  refine va_callv (va_runV (As := [.int p0, .int p1]) (rest := []) ⟨hx, hb, hml, hown, hwd⟩ (c_X5_reckon l dC dI g c adK adV v F rc H.size p0 p1 hg hI (by omega)) (cwV 2 hwd (gV wk_359 wk_1160 wk_357 wk_358 wk_50) rfl rfl rfl (by decide +kernel) ⟨Nat.le_of_ble_eq_true rfl, Nat.le_of_ble_eq_true rfl⟩) ⟨PX.blind, va_recv hK hP (ci := 5) (q0 := 10) rfl rfl, fun U hU hW => ⟨rfl, PX.at hK hE hP hS hU hW⟩⟩ rfl rfl hl.1 rfl (lv_room (Nat.le_of_ble_eq_true rfl)) dX1_look_6 ⟨Nat.le_of_ble_eq_true rfl, Nat.le_of_ble_eq_true rfl⟩) hS (fun q _ h => (freeX hS) q h) (freeX hS) (fun u t H1 locs ht hvm hw hB hz1 hk1 hS => ?_)
  unfold BX at hB
  rw [ht] at hB
  obtain ⟨v1764, F1765, rc9⟩ := u
  obtain ⟨hI, hal9, hrc, hf1766, hw⟩ := hw
  dsimp only at hI hal9 hrc hB hf1766 hw
  rw [hrc] at hB
  have hal := hal9.trans hal
  have hP : va_P (dC, dI) classes (wX g c v1764 F1765 rc) H1 := hB
  generalize H1 = H at hP hS ⊢
  refine lv_aload_n hx hb dX1_look_9 rfl (lv_at hl 0 rfl) ?_
  refine va_get (D := (dC, dI)) (ci := 1) (v := .ref (g 10)) (C := RX1) (T := TX1) (N := 13) hx hb hwd inA_X1 hown hK hP 11 rfl rfl 1 (by decide) (hwd _ wk_171) (fun _ h9 => h9) rfl dX1_look_10 ?_
  refine va_get (D := (dC, dI)) (ci := 5) (v := .ref (g 74)) (C := RX5) (T := TX5) (N := 6) hx hb hwd inA_X5 hown hK hP 10 rfl rfl 5 (by decide) (hwd _ wk_1157) (fun _ h9 => h9) rfl dX1_look_13 ?_
  refine lv_iconst (v := 0) hx hb dX1_look_16 (by decide) ?_
  refine lv_aload_n hx hb dX1_look_17 rfl (lv_at hl 0 rfl) ?_
  refine va_get (D := (dC, dI)) (ci := 1) (v := .ref (g 75)) (C := RX1) (T := TX1) (N := 13) hx hb hwd inA_X1 hown hK hP 11 rfl rfl 6 (by decide) (hwd _ wk_166) (fun _ h9 => h9) rfl dX1_look_18 ?_
  refine lv_iload_n hx hb dX1_look_21 rfl (lv_at hl 1 rfl) ?_
  refine lv_iconst (v := 3) hx hb dX1_look_22 (by decide) ?_
  refine lv_imul hx hb dX1_look_23 ?_
  refine lv_topi (fun z1767 e1768 => ?_)
  try (have t1769 := tmul e1768 (a := p0.toInt) rfl (b := 3) (by decide) (by omega))
  refine lv_iconst (v := 3) hx hb dX1_look_24 (by decide) ?_
  refine va_copyi (ty := .int) hx hb (by rw [hml]; exact hl.1.symm) hown (hwd _ wk_1158) (hwd _ wk_1121) (hwd _ wk_1122) (hwd _ wk_1123) hK hP (DX hg) hS 74 75 62 63 rfl rfl rfl rfl rfl (by decide) (fun q => by have := cv_lt rfl (b := 0) (by decide) q; omega) (by decide) (by rw [ncl (a := 0) (by decide), ncl (a := 3) (by decide)]; omega) (by rw [ncl (a := z1767.toInt) rfl, ncl (a := 3) (by decide)]; omega) (fun _ _ => rfl) (Nat.le_of_ble_eq_true rfl) (Nat.le_of_ble_eq_true rfl) dX1_look_25 (fun H locs hP _ hS => ?_)
  have hP := va_P_eq (sX_75 g c _ _ _ _) hP
  have hI := IX.fill0 hI 75 (va_cpy (F1765 74) (F1765 75) (0 : Int32).toNatClampNeg (z1767 : Int32).toNatClampNeg (3 : Int32).toNatClampNeg) rfl
  have hal := (alX_F _ _ 75 (va_cpy (F1765 74) (F1765 75) (0 : Int32).toNatClampNeg (z1767 : Int32).toNatClampNeg (3 : Int32).toNatClampNeg) (by decide) (by decide)).trans hal
  have hP : va_P (dC, dI) classes (wX g c v1764 (va_up F1765 75 (va_cpy (F1765 74) (F1765 75) (0 : Int32).toNatClampNeg (z1767 : Int32).toNatClampNeg (3 : Int32).toNatClampNeg)) rc) H := hP
  generalize (va_up F1765 75 (va_cpy (F1765 74) (F1765 75) (0 : Int32).toNatClampNeg (z1767 : Int32).toNatClampNeg (3 : Int32).toNatClampNeg)) = F1770 at hP hI hal
  refine lv_aload_n hx hb dX1_look_28 rfl (lv_at hl 0 rfl) ?_
  refine va_get (D := (dC, dI)) (ci := 1) (v := .ref (g 76)) (C := RX1) (T := TX1) (N := 13) hx hb hwd inA_X1 hown hK hP 11 rfl rfl 7 (by decide) (hwd _ wk_167) (fun _ h9 => h9) rfl dX1_look_29 ?_
  refine lv_iload_n hx hb dX1_look_32 rfl (lv_at hl 1 rfl) ?_
  refine lv_aload_n hx hb dX1_look_33 rfl (lv_at hl 0 rfl) ?_
  refine va_get (D := (dC, dI)) (ci := 1) (v := .ref (g 3)) (C := RX1) (T := TX1) (N := 13) hx hb hwd inA_X1 hown hK hP 11 rfl rfl 3 (by decide) (hwd _ wk_175) (fun _ h9 => h9) rfl dX1_look_34 ?_
  refine va_get (D := (dC, dI)) (ci := 7) (v := .ref (g 4)) (C := RX7) (T := TX7) (N := 7) hx hb hwd inA_X7 hown hK hP 3 rfl rfl 0 (by decide) (hwd _ wk_1159) (fun _ h9 => h9) rfl dX1_look_37 ?_
  refine lv_iload_n hx hb dX1_look_40 rfl (lv_at hl 1 rfl) ?_
  refine va_calli (va_runV (As := [.int p0]) (rest := [.int p0, .ref (g 76)]) ⟨hx, hb, hml, hown, hwd⟩ (c_X9_gapsOf l dC dI g c adK adV v1764 F1770 rc H.size p0 hg hI (by omega)) (cwV 1 hwd (gV wk_673 wk_1161 wk_671 wk_672 wk_22) rfl rfl rfl (by decide +kernel) ⟨Nat.le_of_ble_eq_true rfl, Nat.le_of_ble_eq_true rfl⟩) ⟨PX.blind, va_recv hK hP (ci := 9) (q0 := 4) rfl rfl, fun U hU hW => ⟨rfl, PX.at hK hE hP hS hU hW⟩⟩ rfl rfl hl.1 rfl (lv_room (Nat.le_of_ble_eq_true rfl)) dX1_look_41 ⟨Nat.le_of_ble_eq_true rfl, Nat.le_of_ble_eq_true rfl⟩) hS (fun q _ h => (freeX hS) q h) (freeX hS) (fun r1771 u t H1 locs ht hvm hw hB hz1 hk1 hS => ?_)
  unfold BX at hB
  rw [ht] at hB
  have hP : va_P (dC, dI) classes (wX g c v1764 F1770 rc) H1 := hB
  generalize H1 = H at hP hS ⊢
  have rr_r1771 := i32_rng r1771
  refine va_iast hx hb hK hP (DX hg) hS 76 64 rfl rfl (i := p0) (x := r1771) (vin (a := p0.toInt) rfl (by omega)) dX1_look_44 (fun H locs hP _ hS => ?_)
  have hP := va_P_eq (sX_76 g c _ _ _ _) hP
  have hI := IX.store0 hI 76 (p0 : Int32).toNatClampNeg r1771 rfl
  have hal := (alX_F _ _ 76 (upd (F1770 76) (p0 : Int32).toNatClampNeg r1771) (by decide) (by decide)).trans hal
  have hP : va_P (dC, dI) classes (wX g c v1764 (va_up F1770 76 (upd (F1770 76) (p0 : Int32).toNatClampNeg r1771)) rc) H := hP
  generalize (va_up F1770 76 (upd (F1770 76) (p0 : Int32).toNatClampNeg r1771)) = F1772 at hP hI hal
  have hP9 : va_P (dC, dI) classes (wX g c v1764 F1772 rc) H := hP
  exact W.vret hx hb hr (fun t ht hW => ⟨⟨(v1764, F1772, rc), rfl, ⟨hI, hal, rfl, (frC (by decide) hf1766 (fun _ _ => rfl)), trivial⟩, (by show va_P _ _ _ t.heap; rw [ht]; exact hP9)⟩, hS.F ht⟩) hS.2.2 dX1_look_45
set_option maxHeartbeats 8000000 in
set_option maxRecDepth 100000 in
theorem c_X1_judge (l : Launch) (dC : Nat → ClassId) (dI : Nat → Nat → Nat) (g : Nat → Nat) (c : Nat → ClassId) (adK adV : Nat → Nat) (v : Nat → Int32) (F : Nat → Nat → Int32) (rc sz : Nat) (p0 : Int32) (hg : injX g) (hI : IX v F) (h0 : 0 ≤ p0.toInt ∧ p0.toInt ≤ 99) : Met l yX1_judge (Cond.code yX1_judge cX1_judge 2 none :: wA) ({ frames := 1, cells := 0, slots := 0, locals := 40 }) (va_Pc [.ref (g 11), .int p0] (PX dC dI g c adK adV v F rc sz)) (va_Qv (fun (u : StX) => IX u.1 u.2.1 ∧ alX u.1 u.2.1 = alX v F ∧ u.2.2 = rc ∧ (∀ k, k ∉ ([229] : List Nat) → u.1 k = v k) ∧ True) (BX dC dI g c) (AX g sz)) 0 0 (AX g sz) := by
  refine Met.ofW (cc := cX1_judge) (maxL := 2) (ret := none) (by decide) rfl ?_
  intro p e s m args below meth c0 s₁ B hml hv
  obtain ⟨rfl, hsz, hP, hK, hE⟩ := hv
  have hx := B.exec
  have hb := B.bytes
  have hr := B.returns
  have hts := atoms_spec (ws := Cond.code yX1_judge cX1_judge 2 none :: wA) B.pre
  have hwd : ∀ w ∈ wA, w.before _ s = true := fun w h => hts w (List.mem_cons_of_mem _ h)
  have hown : s.vm.findClass RX1 = some m.cls := findClass_of_methodNamed B.named
  have hlocks := B.notSynchronized
  subst hsz
  have hl := lv_entry ([.ref (g 11), .int p0]) (n := 2) (Nat.le_of_ble_eq_true rfl)
  rw [lg_entry_eq]
  generalize (lg_sl ([.ref (g 11), .int p0]) ++ List.replicate (2 - (lg_sl ([.ref (g 11), .int p0])).length) Slot.unset).toArray = ls at hl ⊢
  have hl : lv_has ls 2 [(0, .ref (g 11)), (1, .int p0)] := hl
  obtain ⟨H, eH⟩ : ∃ z, z = s.heap := ⟨_, rfl⟩
  have hP : va_P (dC, dI) classes (wX g c v F rc) H := by rw [eH]; exact hP
  have hS : va_S (AX g s.heap.size) s.heap H [] := by rw [eH]; exact va_S.rf
  refine my_heap eH ?_
  have hal : alX v F = alX v F := rfl
  have rp0 := i32_rng p0
  refine lv_aload_n hx hb dX1_judge_0 rfl (lv_at hl 0 rfl) ?_
  refine va_get (D := (dC, dI)) (ci := 1) (v := .int (v 229)) (C := RX1) (T := TX1) (N := 13) hx hb hwd inA_X1 hown hK hP 11 rfl rfl 9 (by decide) (hwd _ wk_1151) (fun _ h9 => h9) rfl dX1_judge_1 ?_
  have t1773 : 0 ≤ (v 229).toInt ∧ (v 229).toInt ≤ 100 := hI.1 229 _ _ rfl
  refine lv_aload_n hx hb dX1_judge_4 rfl (lv_at hl 0 rfl) ?_
  refine va_get (D := (dC, dI)) (ci := 1) (v := .ref (g 77)) (C := RX1) (T := TX1) (N := 13) hx hb hwd inA_X1 hown hK hP 11 rfl rfl 8 (by decide) (hwd _ wk_168) (fun _ h9 => h9) rfl dX1_judge_5 ?_
  refine va_alen (v := 100) hx hb hK hP 77 65 rfl rfl rfl dX1_judge_8 ?_
  refine lv_icmp_ge (tgt := 32) hx hb dX1_judge_9 (by decide) (fun c1774 => ?_) (fun c1774 => ?_)
  · skip
    have t1775 := cv_le (a := 100) (by decide) (b := (v 229).toInt) rfl c1774
    have hP9 : va_P (dC, dI) classes (wX g c v F rc) H := hP
    exact W.vret hx hb hr (fun t ht hW => ⟨⟨(v, F, rc), rfl, ⟨hI, hal, rfl, (fun _ _ => rfl), trivial⟩, (by show va_P _ _ _ t.heap; rw [ht]; exact hP9)⟩, hS.F ht⟩) hS.2.2 dX1_judge_32
  · skip
    have t1776 := cv_nle (a := 100) (by decide) (b := (v 229).toInt) rfl c1774
    refine lv_aload_n hx hb dX1_judge_12 rfl (lv_at hl 0 rfl) ?_
    refine va_get (D := (dC, dI)) (ci := 1) (v := .ref (g 77)) (C := RX1) (T := TX1) (N := 13) hx hb hwd inA_X1 hown hK hP 11 rfl rfl 8 (by decide) (hwd _ wk_168) (fun _ h9 => h9) rfl dX1_judge_13 ?_
    refine lv_aload_n hx hb dX1_judge_16 rfl (lv_at hl 0 rfl) ?_
    refine va_get (D := (dC, dI)) (ci := 1) (v := .int (v 229)) (C := RX1) (T := TX1) (N := 13) hx hb hwd inA_X1 hown hK hP 11 rfl rfl 9 (by decide) (hwd _ wk_1151) (fun _ h9 => h9) rfl dX1_judge_17 ?_
    have t1777 : 0 ≤ (v 229).toInt ∧ (v 229).toInt ≤ 100 := hI.1 229 _ _ rfl
    refine lv_iload_n hx hb dX1_judge_20 rfl (lv_at hl 1 rfl) ?_
    refine va_iast hx hb hK hP (DX hg) hS 77 65 rfl rfl (i := (v 229)) (x := p0) (vin (a := (v 229).toInt) rfl (by omega)) dX1_judge_21 (fun H locs hP _ hS => ?_)
    have hP := va_P_eq (sX_77 g c _ _ _ _) hP
    have hI := IX.store hI 77 (v 229 : Int32).toNatClampNeg p0 rfl (by omega)
    have hal := (alX_F _ _ 77 (upd (F 77) (v 229 : Int32).toNatClampNeg p0) (by decide) (by decide)).trans hal
    have hP : va_P (dC, dI) classes (wX g c v (va_up F 77 (upd (F 77) (v 229 : Int32).toNatClampNeg p0)) rc) H := hP
    generalize (va_up F 77 (upd (F 77) (v 229 : Int32).toNatClampNeg p0)) = F1778 at hP hI hal
    refine lv_aload_n hx hb dX1_judge_22 rfl (lv_at hl 0 rfl) ?_
    refine lv_dup hx hb dX1_judge_23 rfl ?_
    refine va_get (D := (dC, dI)) (ci := 1) (v := .int (v 229)) (C := RX1) (T := TX1) (N := 13) hx hb hwd inA_X1 hown hK hP 11 rfl rfl 9 (by decide) (hwd _ wk_1151) (fun _ h9 => h9) rfl dX1_judge_24 ?_
    have t1779 : 0 ≤ (v 229).toInt ∧ (v 229).toInt ≤ 100 := hI.1 229 _ _ rfl
    refine lv_iconst (v := 1) hx hb dX1_judge_27 (by decide) ?_
    refine lv_iadd hx hb dX1_judge_28 ?_
    refine lv_topi (fun z1780 e1781 => ?_)
    try (have t1782 := tadd e1781 (a := (v 229).toInt) rfl (b := 1) (by decide) (by omega))
    refine va_put (D := (dC, dI)) (ci := 1) (v := .int z1780) (ty := .int) (C := RX1) (T := TX1) (N := 13) (fs := fsX_11 g v rc) hx hb hwd inA_X1 tyX1 tyX1_ok nmX1 hown hK hP (DX hg) hS 11 rfl rfl 9 (by decide) (hwd _ wk_1151) (fun _ h9 => h9) rfl (by decide +kernel) rfl rfl (Nat.le_of_ble_eq_true rfl) dX1_judge_29 (fun H locs hP _ hS => ?_)
    have hP := va_P_eq (pX_229 g c _ _ _ _) hP
    have hI := IX.put hI 229 z1780 rfl (by omega)
    have hal := (alX_v _ _ 229 z1780 (by decide) (by decide) (by decide) (by decide)).trans hal
    have hP9 : va_P (dC, dI) classes (wX g c (va_up v 229 z1780) F1778 rc) H := hP
    exact W.vret hx hb hr (fun t ht hW => ⟨⟨((va_up v 229 z1780), F1778, rc), rfl, ⟨hI, hal, rfl, (frU (by decide) (fun _ _ => rfl)), trivial⟩, (by show va_P _ _ _ t.heap; rw [ht]; exact hP9)⟩, hS.F ht⟩) hS.2.2 dX1_judge_32
set_option maxHeartbeats 8000000 in
set_option maxRecDepth 100000 in
theorem c_X1_survey (l : Launch) (dC : Nat → ClassId) (dI : Nat → Nat → Nat) (g : Nat → Nat) (c : Nat → ClassId) (adK adV : Nat → Nat) (v : Nat → Int32) (F : Nat → Nat → Int32) (rc sz : Nat) (p0 : Int32) (p1 : Int32) (p2 : Int32) (hg : injX g) (hI : IX v F) : Met l yX1_survey (Cond.code yX1_survey cX1_survey 5 none :: wA) ({ frames := 7, cells := 0, slots := 0, locals := 280 }) (va_Pc [.ref (g 11), .int p0, .int p1, .int p2] (PX dC dI g c adK adV v F rc sz)) (va_Qv (fun (u : StX) => IX u.1 u.2.1 ∧ alX u.1 u.2.1 = alX v F ∧ u.2.2 = rc ∧ (∀ k, k ∉ ([126, 229] : List Nat) → u.1 k = v k) ∧ True) (BX dC dI g c) (AX g sz)) 0 0 (AX g sz) := by
  refine Met.ofW (cc := cX1_survey) (maxL := 5) (ret := none) (by decide) rfl ?_
  intro p e s m args below meth c0 s₁ B hml hv
  obtain ⟨rfl, hsz, hP, hK, hE⟩ := hv
  have hx := B.exec
  have hb := B.bytes
  have hr := B.returns
  have hts := atoms_spec (ws := Cond.code yX1_survey cX1_survey 5 none :: wA) B.pre
  have hwd : ∀ w ∈ wA, w.before _ s = true := fun w h => hts w (List.mem_cons_of_mem _ h)
  have hown : s.vm.findClass RX1 = some m.cls := findClass_of_methodNamed B.named
  have hlocks := B.notSynchronized
  subst hsz
  have hl := lv_entry ([.ref (g 11), .int p0, .int p1, .int p2]) (n := 5) (Nat.le_of_ble_eq_true rfl)
  rw [lg_entry_eq]
  generalize (lg_sl ([.ref (g 11), .int p0, .int p1, .int p2]) ++ List.replicate (5 - (lg_sl ([.ref (g 11), .int p0, .int p1, .int p2])).length) Slot.unset).toArray = ls at hl ⊢
  have hl : lv_has ls 5 [(0, .ref (g 11)), (1, .int p0), (2, .int p1), (3, .int p2)] := hl
  obtain ⟨H, eH⟩ : ∃ z, z = s.heap := ⟨_, rfl⟩
  have hP : va_P (dC, dI) classes (wX g c v F rc) H := by rw [eH]; exact hP
  have hS : va_S (AX g s.heap.size) s.heap H [] := by rw [eH]; exact va_S.rf
  refine my_heap eH ?_
  have hal : alX v F = alX v F := rfl
  have rp0 := i32_rng p0
  have rp1 := i32_rng p1
  have rp2 := i32_rng p2
  refine lv_aload_n hx hb dX1_survey_0 rfl (lv_at hl 0 rfl) ?_
  refine lv_iconst (v := 0) hx hb dX1_survey_1 (by decide) ?_
  refine va_put (D := (dC, dI)) (ci := 1) (v := .int 0) (ty := .int) (C := RX1) (T := TX1) (N := 13) (fs := fsX_11 g v rc) hx hb hwd inA_X1 tyX1 tyX1_ok nmX1 hown hK hP (DX hg) hS 11 rfl rfl 9 (by decide) (hwd _ wk_1151) (fun _ h9 => h9) rfl (by decide +kernel) rfl rfl (Nat.le_of_ble_eq_true rfl) dX1_survey_2 (fun H locs hP _ hS => ?_)
  have hP := va_P_eq (pX_229 g c _ _ _ _) hP
  have hI := IX.put hI 229 0 rfl (by have : (0 : Int32).toInt = 0 := (by decide); omega)
  have hal := (alX_v _ _ 229 0 (by decide) (by decide) (by decide) (by decide)).trans hal
  refine lv_iconst (v := 0) hx hb dX1_survey_5 (by decide) ?_
  refine lv_istore (lv' := [(4, .int 0), (0, .ref (g 11)), (1, .int p0), (2, .int p1), (3, .int p2)]) hx hb dX1_survey_6 hl (by decide) rfl (fun ls hl => ?_)
  have lp1783 : ∀ (n : Nat) (x4_lp1783 : Int32) (v_lp1783 : Nat → Int32) (F_lp1783 : Nat → Nat → Int32) (H : Heap) (locs : List Loc) (ls : Array Slot), (0 ≤ x4_lp1783.toInt) → (2147483648 - x4_lp1783.toInt ≤ (n : Int)) → (∀ k, k ∉ ([126, 229] : List Nat) → v_lp1783 k = (va_up v 229 0) k) → IX v_lp1783 F_lp1783 → alX v_lp1783 F_lp1783 = alX v F → va_P (dC, dI) classes (wX g c v_lp1783 F_lp1783 rc) H → va_S (AX g s.heap.size) s.heap H locs → lv_has ls 5 [(4, .int x4_lp1783), (0, .ref (g 11)), (1, .int p0), (2, .int p1), (3, .int p2)] → W p l e (headSpec (Cond.code yX1_survey cX1_survey 5 none :: wA) ({ frames := 7, cells := 0, slots := 0, locals := 280 })).room s m ([.ref (g 11), .int p0, .int p1, .int p2] : List Value).toArray below meth c0 H locs 0 0 (MQ below (va_Qv (fun (u : StX) => IX u.1 u.2.1 ∧ alX u.1 u.2.1 = alX v F ∧ u.2.2 = rc ∧ (∀ k, k ∉ ([126, 229] : List Nat) → u.1 k = v k) ∧ True) (BX dC dI g c) (AX g s.heap.size)) ([.ref (g 11), .int p0, .int p1, .int p2] : List Value).toArray s 0 0 (AX g s.heap.size)) (F0 m 8 ls []) := by
    intro n
    induction n with
    | zero =>
      intro x4_lp1783 v_lp1783 F_lp1783 H locs ls t1784 hm hf_lp1783 hI hal hP hS hl
      exfalso
      have := i32_rng x4_lp1783
      have hI1 := hI.1
      omega
    | succ n ih_lp1783 =>
      intro x4_lp1783 v_lp1783 F_lp1783 H locs ls t1784 hm hf_lp1783 hI hal hP hS hl
      have rx4_lp1783 := i32_rng x4_lp1783
      refine lv_iload hx hb dX1_survey_8 (lv_at hl 0 rfl) ?_
      refine lv_aload_n hx hb dX1_survey_10 rfl (lv_at hl 1 rfl) ?_
      refine va_get (D := (dC, dI)) (ci := 1) (v := .ref (g 3)) (C := RX1) (T := TX1) (N := 13) hx hb hwd inA_X1 hown hK hP 11 rfl rfl 3 (by decide) (hwd _ wk_175) (fun _ h9 => h9) rfl dX1_survey_11 ?_
      refine va_get (D := (dC, dI)) (ci := 7) (v := .int (v_lp1783 61)) (C := RX7) (T := TX7) (N := 7) hx hb hwd inA_X7 hown hK hP 3 rfl rfl 1 (by decide) (hwd _ wk_341) (fun _ h9 => h9) rfl dX1_survey_14 ?_
      refine my_top (v := v 61) (hf_lp1783 61 (by decide)) ?_
      have t1785 : 0 ≤ (v 61).toInt ∧ (v 61).toInt ≤ 100 := by have h9 := hI.1 61 _ _ rfl; rw [show v_lp1783 61 = v 61 from hf_lp1783 61 (by decide)] at h9; exact h9
      refine lv_icmp_ge (tgt := 67) hx hb dX1_survey_17 (by decide) (fun c1786 => ?_) (fun c1786 => ?_)
      · skip
        have t1787 := cv_le (a := (v 61).toInt) rfl (b := x4_lp1783.toInt) rfl c1786
        have hP9 : va_P (dC, dI) classes (wX g c v_lp1783 F_lp1783 rc) H := hP
        exact W.vret hx hb hr (fun t ht hW => ⟨⟨(v_lp1783, F_lp1783, rc), rfl, ⟨hI, hal, rfl, (frC (by decide) hf_lp1783 (frU (by decide) (fun _ _ => rfl))), trivial⟩, (by show va_P _ _ _ t.heap; rw [ht]; exact hP9)⟩, hS.F ht⟩) hS.2.2 dX1_survey_67
      · skip
        have t1788 := cv_nle (a := (v 61).toInt) rfl (b := x4_lp1783.toInt) rfl c1786
        refine lv_aload_n hx hb dX1_survey_20 rfl (lv_at hl 1 rfl) ?_
        refine va_get (D := (dC, dI)) (ci := 1) (v := .ref (g 3)) (C := RX1) (T := TX1) (N := 13) hx hb hwd inA_X1 hown hK hP 11 rfl rfl 3 (by decide) (hwd _ wk_175) (fun _ h9 => h9) rfl dX1_survey_21 ?_
        refine va_get (D := (dC, dI)) (ci := 7) (v := .ref (g 26)) (C := RX7) (T := TX7) (N := 7) hx hb hwd inA_X7 hown hK hP 3 rfl rfl 4 (by decide) (hwd _ wk_342) (fun _ h9 => h9) rfl dX1_survey_24 ?_
        refine lv_iload hx hb dX1_survey_27 (lv_at hl 0 rfl) ?_
        refine va_iald hx hb hK hP 26 14 rfl rfl (i := x4_lp1783) (vin (a := x4_lp1783.toInt) rfl (by omega)) dX1_survey_29 ?_
        refine lv_topi (fun z1789 e1790 => ?_)
        refine lv_iload_n hx hb dX1_survey_30 rfl (lv_at hl 2 rfl) ?_
        refine lv_icmp_ne (tgt := 61) hx hb dX1_survey_31 (by decide) (fun c1791 => ?_) (fun c1791 => ?_)
        · skip
          have t1792 := cv_ne (a := z1789.toInt) rfl (b := p0.toInt) rfl c1791
          obtain ⟨z1793, e1794⟩ : ∃ y : Int32, y = x4_lp1783 + 1 := ⟨_, rfl⟩
          try (have t1795 := tadd e1794 rfl (b := 1) (by decide) (by omega))
          refine lv_iinc (v := z1793) (lv' := [(4, .int z1793), (0, .ref (g 11)), (1, .int p0), (2, .int p1), (3, .int p2)]) hx hb dX1_survey_61 hl (k := 0) rfl (by rw [e1794]; rfl) (by decide) rfl (fun ls hl => ?_)
          refine lv_goto (tgt := 8) hx hb dX1_survey_64 (by decide) ?_
          exact ih_lp1783 z1793 v_lp1783 F_lp1783 _ _ _ (by omega) (by omega) hf_lp1783 hI hal hP hS (lv_sub hl [0, 1, 2, 3, 4] rfl)
        · skip
          have t1796 := cv_eq (a := z1789.toInt) rfl (b := p0.toInt) rfl c1791
          refine lv_aload_n hx hb dX1_survey_34 rfl (lv_at hl 1 rfl) ?_
          refine va_get (D := (dC, dI)) (ci := 1) (v := .ref (g 3)) (C := RX1) (T := TX1) (N := 13) hx hb hwd inA_X1 hown hK hP 11 rfl rfl 3 (by decide) (hwd _ wk_175) (fun _ h9 => h9) rfl dX1_survey_35 ?_
          refine va_get (D := (dC, dI)) (ci := 7) (v := .ref (g 24)) (C := RX7) (T := TX7) (N := 7) hx hb hwd inA_X7 hown hK hP 3 rfl rfl 2 (by decide) (hwd _ wk_1152) (fun _ h9 => h9) rfl dX1_survey_38 ?_
          refine lv_iload hx hb dX1_survey_41 (lv_at hl 0 rfl) ?_
          refine va_iald hx hb hK hP 24 12 rfl rfl (i := x4_lp1783) (vin (a := x4_lp1783.toInt) rfl (by omega)) dX1_survey_43 ?_
          refine lv_topi (fun z1797 e1798 => ?_)
          have t1799 : 0 ≤ z1797.toInt ∧ z1797.toInt ≤ 9 := by rw [e1798]; exact hI.2 24 _ _ rfl _
          refine lv_iload_n hx hb dX1_survey_44 rfl (lv_at hl 3 rfl) ?_
          refine lv_icmp_eq (tgt := 61) hx hb dX1_survey_45 (by decide) (fun c1800 => ?_) (fun c1800 => ?_)
          · skip
            have t1801 := cv_eq (a := z1797.toInt) rfl (b := p1.toInt) rfl c1800
            obtain ⟨z1802, e1803⟩ : ∃ y : Int32, y = x4_lp1783 + 1 := ⟨_, rfl⟩
            try (have t1804 := tadd e1803 rfl (b := 1) (by decide) (by omega))
            refine lv_iinc (v := z1802) (lv' := [(4, .int z1802), (0, .ref (g 11)), (1, .int p0), (2, .int p1), (3, .int p2)]) hx hb dX1_survey_61 hl (k := 0) rfl (by rw [e1803]; rfl) (by decide) rfl (fun ls hl => ?_)
            refine lv_goto (tgt := 8) hx hb dX1_survey_64 (by decide) ?_
            exact ih_lp1783 z1802 v_lp1783 F_lp1783 _ _ _ (by omega) (by omega) hf_lp1783 hI hal hP hS (lv_sub hl [0, 1, 2, 3, 4] rfl)
          · skip
            have t1805 := cv_ne (a := z1797.toInt) rfl (b := p1.toInt) rfl c1800
            refine lv_aload_n hx hb dX1_survey_48 rfl (lv_at hl 1 rfl) ?_
            refine lv_iload hx hb dX1_survey_49 (lv_at hl 0 rfl) ?_
            refine lv_iload_n hx hb dX1_survey_51 rfl (lv_at hl 4 rfl) ?_
            refine va_callv (va_runV (As := [.int x4_lp1783, .int p2]) (rest := []) ⟨hx, hb, hml, hown, hwd⟩ (c_X1_look l dC dI g c adK adV v_lp1783 F_lp1783 rc H.size x4_lp1783 p2 hg hI (by omega)) (cwV 2 hwd (gV wk_1156 wk_1153 wk_1154 wk_1155 wk_54) rfl rfl rfl (by decide +kernel) ⟨Nat.le_of_ble_eq_true rfl, Nat.le_of_ble_eq_true rfl⟩) ⟨PX.blind, va_recv hK hP (ci := 1) (q0 := 11) rfl rfl, fun U hU hW => ⟨rfl, PX.at hK hE hP hS hU hW⟩⟩ rfl rfl hl.1 rfl (lv_room (Nat.le_of_ble_eq_true rfl)) dX1_survey_52 ⟨Nat.le_of_ble_eq_true rfl, Nat.le_of_ble_eq_true rfl⟩) hS (fun q _ h => (freeX hS) q h) (freeX hS) (fun u t H1 locs ht hvm hw hB hz1 hk1 hS => ?_)
            unfold BX at hB
            rw [ht] at hB
            obtain ⟨v1807, F1808, rc9⟩ := u
            obtain ⟨hI, hal9, hrc, hf1809, hw⟩ := hw
            dsimp only at hI hal9 hrc hB hf1809 hw
            rw [hrc] at hB
            have hal := hal9.trans hal
            have hP : va_P (dC, dI) classes (wX g c v1807 F1808 rc) H1 := hB
            generalize H1 = H at hP hS ⊢
            refine lv_aload_n hx hb dX1_survey_55 rfl (lv_at hl 1 rfl) ?_
            refine lv_iload hx hb dX1_survey_56 (lv_at hl 0 rfl) ?_
            refine va_callv (va_runV (As := [.int x4_lp1783]) (rest := []) ⟨hx, hb, hml, hown, hwd⟩ (c_X1_judge l dC dI g c adK adV v1807 F1808 rc H.size x4_lp1783 hg hI (by omega)) (cwV 1 hwd (gV wk_1165 wk_1162 wk_1163 wk_1164 wk_54) rfl rfl rfl (by decide +kernel) ⟨Nat.le_of_ble_eq_true rfl, Nat.le_of_ble_eq_true rfl⟩) ⟨PX.blind, va_recv hK hP (ci := 1) (q0 := 11) rfl rfl, fun U hU hW => ⟨rfl, PX.at hK hE hP hS hU hW⟩⟩ rfl rfl hl.1 rfl (lv_room (Nat.le_of_ble_eq_true rfl)) dX1_survey_58 ⟨Nat.le_of_ble_eq_true rfl, Nat.le_of_ble_eq_true rfl⟩) hS (fun q _ h => (freeX hS) q h) (freeX hS) (fun u t H1 locs ht hvm hw hB hz1 hk1 hS => ?_)
            unfold BX at hB
            rw [ht] at hB
            obtain ⟨v1811, F1812, rc9⟩ := u
            obtain ⟨hI, hal9, hrc, hf1813, hw⟩ := hw
            dsimp only at hI hal9 hrc hB hf1813 hw
            rw [hrc] at hB
            have hal := hal9.trans hal
            have hP : va_P (dC, dI) classes (wX g c v1811 F1812 rc) H1 := hB
            generalize H1 = H at hP hS ⊢
            obtain ⟨z1814, e1815⟩ : ∃ y : Int32, y = x4_lp1783 + 1 := ⟨_, rfl⟩
            try (have t1816 := tadd e1815 rfl (b := 1) (by decide) (by omega))
            refine lv_iinc (v := z1814) (lv' := [(4, .int z1814), (0, .ref (g 11)), (1, .int p0), (2, .int p1), (3, .int p2)]) hx hb dX1_survey_61 hl (k := 0) rfl (by rw [e1815]; rfl) (by decide) rfl (fun ls hl => ?_)
            refine lv_goto (tgt := 8) hx hb dX1_survey_64 (by decide) ?_
            exact ih_lp1783 z1814 v1811 F1812 _ _ _ (by omega) (by omega) (frC (by decide) hf1813 (frC (by decide) hf1809 hf_lp1783)) hI hal hP hS (lv_sub hl [0, 1, 2, 3, 4] rfl)
  obtain ⟨n9, hn9⟩ : ∃ n : Nat, 2147483648 - 0 ≤ (n : Int) := ⟨((2147483648 - 0 : Int)).toNat, by omega⟩
  exact lp1783 n9 0 (va_up v 229 0) F H _ ls (by have : (0 : Int32).toInt = 0 := (by decide); omega) (by have : (0 : Int32).toInt = 0 := (by decide); omega) (fun _ _ => rfl) hI hal hP hS hl
set_option maxHeartbeats 8000000 in
set_option maxRecDepth 100000 in
theorem c_X1_shortOf (l : Launch) (dC : Nat → ClassId) (dI : Nat → Nat → Nat) (g : Nat → Nat) (c : Nat → ClassId) (adK adV : Nat → Nat) (v : Nat → Int32) (F : Nat → Nat → Int32) (rc sz : Nat) (p0 : Int32) (p1 : Int32) (p2 : Int32) (hg : injX g) (hI : IX v F) (h0 : 0 ≤ p0.toInt ∧ p0.toInt ≤ 9) (h1 : 0 ≤ p1.toInt ∧ p1.toInt ≤ 29) (h2 : 0 ≤ p2.toInt ∧ p2.toInt ≤ 2) : Met l yX1_shortOf (Cond.code yX1_shortOf cX1_shortOf 8 (some .int) :: wA) ({ frames := 2, cells := 0, slots := 0, locals := 80 }) (va_Pc [.ref (g 11), .int p0, .int p1, .int p2] (PX dC dI g c adK adV v F rc sz)) (va_Qi (fun (r : Int32) (u : Unit) => True) (fun (_ : Unit) => BX dC dI g c (v, F, rc)) (AX g sz)) 0 0 (AX g sz) := by
  refine Met.ofW (cc := cX1_shortOf) (maxL := 8) (ret := (some .int)) (by decide) rfl ?_
  intro p e s m args below meth c0 s₁ B hml hv
  obtain ⟨rfl, hsz, hP, hK, hE⟩ := hv
  have hx := B.exec
  have hb := B.bytes
  have hr := B.returns
  have hts := atoms_spec (ws := Cond.code yX1_shortOf cX1_shortOf 8 (some .int) :: wA) B.pre
  have hwd : ∀ w ∈ wA, w.before _ s = true := fun w h => hts w (List.mem_cons_of_mem _ h)
  have hown : s.vm.findClass RX1 = some m.cls := findClass_of_methodNamed B.named
  have hlocks := B.notSynchronized
  subst hsz
  have hl := lv_entry ([.ref (g 11), .int p0, .int p1, .int p2]) (n := 8) (Nat.le_of_ble_eq_true rfl)
  rw [lg_entry_eq]
  generalize (lg_sl ([.ref (g 11), .int p0, .int p1, .int p2]) ++ List.replicate (8 - (lg_sl ([.ref (g 11), .int p0, .int p1, .int p2])).length) Slot.unset).toArray = ls at hl ⊢
  have hl : lv_has ls 8 [(0, .ref (g 11)), (1, .int p0), (2, .int p1), (3, .int p2)] := hl
  obtain ⟨H, eH⟩ : ∃ z, z = s.heap := ⟨_, rfl⟩
  have hP : va_P (dC, dI) classes (wX g c v F rc) H := by rw [eH]; exact hP
  have hS : va_S (AX g s.heap.size) s.heap H [] := by rw [eH]; exact va_S.rf
  refine my_heap eH ?_
  have rp0 := i32_rng p0
  have rp1 := i32_rng p1
  have rp2 := i32_rng p2
  refine lv_aload_n hx hb dX1_shortOf_0 rfl (lv_at hl 0 rfl) ?_
  refine va_get (D := (dC, dI)) (ci := 1) (v := .ref (g 9)) (C := RX1) (T := TX1) (N := 13) hx hb hwd inA_X1 hown hK hP 11 rfl rfl 5 (by decide) (hwd _ wk_177) (fun _ h9 => h9) rfl dX1_shortOf_1 ?_
  refine lv_iload_n hx hb dX1_shortOf_4 rfl (lv_at hl 1 rfl) ?_
  refine lv_iload_n hx hb dX1_shortOf_5 rfl (lv_at hl 2 rfl) ?_
  refine lv_iconst (v := 1) hx hb dX1_shortOf_6 (by decide) ?_
  refine va_calli (va_runV (As := [.int p0, .int p1, .int 1]) (rest := []) ⟨hx, hb, hml, hown, hwd⟩ (c_X0_numberOf l dC dI g c adK adV v F rc H.size p0 p1 1 hg hI (by omega) (by omega) (by have : (1 : Int32).toInt = 1 := (by decide); omega)) (cwV 3 hwd (gV wk_1183 wk_1180 wk_1181 wk_1182 wk_46) rfl rfl rfl (by decide +kernel) ⟨Nat.le_of_ble_eq_true rfl, Nat.le_of_ble_eq_true rfl⟩) ⟨PX.blind, va_recv hK hP (ci := 0) (q0 := 9) rfl rfl, fun U hU hW => ⟨rfl, PX.at hK hE hP hS hU hW⟩⟩ rfl rfl hl.1 rfl (lv_room (Nat.le_of_ble_eq_true rfl)) dX1_shortOf_7 ⟨Nat.le_of_ble_eq_true rfl, Nat.le_of_ble_eq_true rfl⟩) hS (fun q _ h => (freeX hS) q h) (freeX hS) (fun r1817 u t H1 locs ht hvm hw hB hz1 hk1 hS => ?_)
  unfold BX at hB
  rw [ht] at hB
  have hP : va_P (dC, dI) classes (wX g c v F rc) H1 := hB
  generalize H1 = H at hP hS ⊢
  have rr_r1817 := i32_rng r1817
  refine lv_istore (lv' := [(4, .int r1817), (0, .ref (g 11)), (1, .int p0), (2, .int p1), (3, .int p2)]) hx hb dX1_shortOf_10 hl (by decide) rfl (fun ls hl => ?_)
  refine lv_aload_n hx hb dX1_shortOf_12 rfl (lv_at hl 1 rfl) ?_
  refine va_get (D := (dC, dI)) (ci := 1) (v := .ref (g 9)) (C := RX1) (T := TX1) (N := 13) hx hb hwd inA_X1 hown hK hP 11 rfl rfl 5 (by decide) (hwd _ wk_177) (fun _ h9 => h9) rfl dX1_shortOf_13 ?_
  refine lv_iload_n hx hb dX1_shortOf_16 rfl (lv_at hl 2 rfl) ?_
  refine lv_iload_n hx hb dX1_shortOf_17 rfl (lv_at hl 3 rfl) ?_
  refine lv_iconst (v := 2) hx hb dX1_shortOf_18 (by decide) ?_
  refine va_calli (va_runV (As := [.int p0, .int p1, .int 2]) (rest := []) ⟨hx, hb, hml, hown, hwd⟩ (c_X0_numberOf l dC dI g c adK adV v F rc H.size p0 p1 2 hg hI (by omega) (by omega) (by have : (2 : Int32).toInt = 2 := (by decide); omega)) (cwV 3 hwd (gV wk_1183 wk_1180 wk_1181 wk_1182 wk_46) rfl rfl rfl (by decide +kernel) ⟨Nat.le_of_ble_eq_true rfl, Nat.le_of_ble_eq_true rfl⟩) ⟨PX.blind, va_recv hK hP (ci := 0) (q0 := 9) rfl rfl, fun U hU hW => ⟨rfl, PX.at hK hE hP hS hU hW⟩⟩ rfl rfl hl.1 rfl (lv_room (Nat.le_of_ble_eq_true rfl)) dX1_shortOf_19 ⟨Nat.le_of_ble_eq_true rfl, Nat.le_of_ble_eq_true rfl⟩) hS (fun q _ h => (freeX hS) q h) (freeX hS) (fun r1818 u t H1 locs ht hvm hw hB hz1 hk1 hS => ?_)
  unfold BX at hB
  rw [ht] at hB
  have hP : va_P (dC, dI) classes (wX g c v F rc) H1 := hB
  generalize H1 = H at hP hS ⊢
  have rr_r1818 := i32_rng r1818
  refine lv_istore (lv' := [(5, .int r1818), (4, .int r1817), (0, .ref (g 11)), (1, .int p0), (2, .int p1), (3, .int p2)]) hx hb dX1_shortOf_22 hl (by decide) rfl (fun ls hl => ?_)
  refine lv_aload_n hx hb dX1_shortOf_24 rfl (lv_at hl 2 rfl) ?_
  refine va_get (D := (dC, dI)) (ci := 1) (v := .ref (g 1)) (C := RX1) (T := TX1) (N := 13) hx hb hwd inA_X1 hown hK hP 11 rfl rfl 2 (by decide) (hwd _ wk_173) (fun _ h9 => h9) rfl dX1_shortOf_25 ?_
  refine lv_iload hx hb dX1_shortOf_28 (lv_at hl 1 rfl) ?_
  refine va_calli (va_runV (As := [.int r1817]) (rest := []) ⟨hx, hb, hml, hown, hwd⟩ (c_X2_has l dC dI g c adK adV v F rc H.size r1817 hg hI ) (cwV 1 hwd (gV wk_280 wk_1184 wk_278 wk_279 wk_14) rfl rfl rfl (by decide +kernel) ⟨Nat.le_of_ble_eq_true rfl, Nat.le_of_ble_eq_true rfl⟩) ⟨PX.blind, va_recv hK hP (ci := 2) (q0 := 1) rfl rfl, fun U hU hW => ⟨rfl, PX.at hK hE hP hS hU hW⟩⟩ rfl rfl hl.1 rfl (lv_room (Nat.le_of_ble_eq_true rfl)) dX1_shortOf_30 ⟨Nat.le_of_ble_eq_true rfl, Nat.le_of_ble_eq_true rfl⟩) hS (fun q _ h => (freeX hS) q h) (freeX hS) (fun r1819 u t H1 locs ht hvm hw hB hz1 hk1 hS => ?_)
  unfold BX at hB
  rw [ht] at hB
  have hP : va_P (dC, dI) classes (wX g c v F rc) H1 := hB
  have hw : (0 ≤ r1819.toInt ∧ r1819.toInt ≤ 1) ∧ (r1819.toInt = 1 → 0 ≤ r1817.toInt ∧ r1817.toInt < 10) := hw
  generalize H1 = H at hP hS ⊢
  have hw_r1819 := hw
  refine lv_if_eq (tgt := 49) hx hb dX1_shortOf_33 (by decide) (fun c1820 => ?_) (fun c1820 => ?_)
  · skip
    have t1821 := cv_eq (a := r1819.toInt) rfl (b := 0) (by decide) c1820
    refine lv_iconst (v := 0) hx hb dX1_shortOf_49 (by decide) ?_
    have hP9 : va_P (dC, dI) classes (wX g c v F rc) H := hP
    exact W.iret (v := 0) hx hb hr (fun t ht hW => ⟨⟨0, (), rfl, trivial, (by show va_P _ _ _ t.heap; rw [ht]; exact hP9)⟩, hS.F ht⟩) hS.2.2 dX1_shortOf_50
  · skip
    have t1822 := cv_ne (a := r1819.toInt) rfl (b := 0) (by decide) c1820
    refine lv_aload_n hx hb dX1_shortOf_36 rfl (lv_at hl 2 rfl) ?_
    refine va_get (D := (dC, dI)) (ci := 1) (v := .ref (g 1)) (C := RX1) (T := TX1) (N := 13) hx hb hwd inA_X1 hown hK hP 11 rfl rfl 2 (by decide) (hwd _ wk_173) (fun _ h9 => h9) rfl dX1_shortOf_37 ?_
    refine lv_iload hx hb dX1_shortOf_40 (lv_at hl 1 rfl) ?_
    refine lv_iload_n hx hb dX1_shortOf_42 rfl (lv_at hl 5 rfl) ?_
    refine va_calli (va_runV (As := [.int r1817, .int p2]) (rest := []) ⟨hx, hb, hml, hown, hwd⟩ (c_X2_limitOf l dC dI g c adK adV v F rc H.size r1817 p2 hg hI (by omega) (by omega)) (cwV 2 hwd (gV wk_365 wk_1185 wk_363 wk_364 wk_14) rfl rfl rfl (by decide +kernel) ⟨Nat.le_of_ble_eq_true rfl, Nat.le_of_ble_eq_true rfl⟩) ⟨PX.blind, va_recv hK hP (ci := 2) (q0 := 1) rfl rfl, fun U hU hW => ⟨rfl, PX.at hK hE hP hS hU hW⟩⟩ rfl rfl hl.1 rfl (lv_room (Nat.le_of_ble_eq_true rfl)) dX1_shortOf_43 ⟨Nat.le_of_ble_eq_true rfl, Nat.le_of_ble_eq_true rfl⟩) hS (fun q _ h => (freeX hS) q h) (freeX hS) (fun r1823 u t H1 locs ht hvm hw hB hz1 hk1 hS => ?_)
    unfold BX at hB
    rw [ht] at hB
    have hP : va_P (dC, dI) classes (wX g c v F rc) H1 := hB
    generalize H1 = H at hP hS ⊢
    have rr_r1823 := i32_rng r1823
    refine lv_if_ne (tgt := 51) hx hb dX1_shortOf_46 (by decide) (fun c1824 => ?_) (fun c1824 => ?_)
    · skip
      have t1825 := cv_ne (a := r1823.toInt) rfl (b := 0) (by decide) c1824
      refine lv_iconst (v := 0) hx hb dX1_shortOf_51 (by decide) ?_
      refine lv_istore (lv' := [(6, .int 0), (5, .int r1818), (4, .int r1817), (0, .ref (g 11)), (1, .int p0), (2, .int p1), (3, .int p2)]) hx hb dX1_shortOf_52 hl (by decide) rfl (fun ls hl => ?_)
      refine lv_iconst (v := 0) hx hb dX1_shortOf_54 (by decide) ?_
      refine lv_istore (lv' := [(7, .int 0), (6, .int 0), (5, .int r1818), (4, .int r1817), (0, .ref (g 11)), (1, .int p0), (2, .int p1), (3, .int p2)]) hx hb dX1_shortOf_55 hl (by decide) rfl (fun ls hl => ?_)
      have lp1826 : ∀ (n : Nat) (x7_lp1826 : Int32) (x6_lp1826 : Int32) (H : Heap) (locs : List Loc) (ls : Array Slot), (0 ≤ x7_lp1826.toInt) → (2147483648 - x7_lp1826.toInt ≤ (n : Int)) → va_P (dC, dI) classes (wX g c v F rc) H → va_S (AX g s.heap.size) s.heap H locs → lv_has ls 8 [(7, .int x7_lp1826), (6, .int x6_lp1826), (5, .int r1818), (4, .int r1817), (0, .ref (g 11)), (1, .int p0), (2, .int p1), (3, .int p2)] → W p l e (headSpec (Cond.code yX1_shortOf cX1_shortOf 8 (some .int) :: wA) ({ frames := 2, cells := 0, slots := 0, locals := 80 })).room s m ([.ref (g 11), .int p0, .int p1, .int p2] : List Value).toArray below meth c0 H locs 0 0 (MQ below (va_Qi (fun (r : Int32) (u : Unit) => True) (fun (_ : Unit) => BX dC dI g c (v, F, rc)) (AX g s.heap.size)) ([.ref (g 11), .int p0, .int p1, .int p2] : List Value).toArray s 0 0 (AX g s.heap.size)) (F0 m 57 ls []) := by
        intro n
        induction n with
        | zero =>
          intro x7_lp1826 x6_lp1826 H locs ls t1827 hm hP hS hl
          exfalso
          have := i32_rng x7_lp1826
          have := i32_rng x6_lp1826
          omega
        | succ n ih_lp1826 =>
          intro x7_lp1826 x6_lp1826 H locs ls t1827 hm hP hS hl
          have rx7_lp1826 := i32_rng x7_lp1826
          have rx6_lp1826 := i32_rng x6_lp1826
          refine lv_iload hx hb dX1_shortOf_57 (lv_at hl 0 rfl) ?_
          refine lv_aload_n hx hb dX1_shortOf_59 rfl (lv_at hl 4 rfl) ?_
          refine va_get (D := (dC, dI)) (ci := 1) (v := .int (v 229)) (C := RX1) (T := TX1) (N := 13) hx hb hwd inA_X1 hown hK hP 11 rfl rfl 9 (by decide) (hwd _ wk_1151) (fun _ h9 => h9) rfl dX1_shortOf_60 ?_
          have t1828 : 0 ≤ (v 229).toInt ∧ (v 229).toInt ≤ 100 := hI.1 229 _ _ rfl
          refine lv_icmp_ge (tgt := 120) hx hb dX1_shortOf_63 (by decide) (fun c1829 => ?_) (fun c1829 => ?_)
          · skip
            have t1830 := cv_le (a := (v 229).toInt) rfl (b := x7_lp1826.toInt) rfl c1829
            refine lv_iload hx hb dX1_shortOf_120 (lv_at hl 1 rfl) ?_
            have hP9 : va_P (dC, dI) classes (wX g c v F rc) H := hP
            exact W.iret (v := x6_lp1826) hx hb hr (fun t ht hW => ⟨⟨x6_lp1826, (), rfl, trivial, (by show va_P _ _ _ t.heap; rw [ht]; exact hP9)⟩, hS.F ht⟩) hS.2.2 dX1_shortOf_122
          · skip
            have t1831 := cv_nle (a := (v 229).toInt) rfl (b := x7_lp1826.toInt) rfl c1829
            refine lv_aload_n hx hb dX1_shortOf_66 rfl (lv_at hl 4 rfl) ?_
            refine va_get (D := (dC, dI)) (ci := 1) (v := .ref (g 3)) (C := RX1) (T := TX1) (N := 13) hx hb hwd inA_X1 hown hK hP 11 rfl rfl 3 (by decide) (hwd _ wk_175) (fun _ h9 => h9) rfl dX1_shortOf_67 ?_
            refine va_get (D := (dC, dI)) (ci := 7) (v := .ref (g 24)) (C := RX7) (T := TX7) (N := 7) hx hb hwd inA_X7 hown hK hP 3 rfl rfl 2 (by decide) (hwd _ wk_1152) (fun _ h9 => h9) rfl dX1_shortOf_70 ?_
            refine lv_aload_n hx hb dX1_shortOf_73 rfl (lv_at hl 4 rfl) ?_
            refine va_get (D := (dC, dI)) (ci := 1) (v := .ref (g 77)) (C := RX1) (T := TX1) (N := 13) hx hb hwd inA_X1 hown hK hP 11 rfl rfl 8 (by decide) (hwd _ wk_168) (fun _ h9 => h9) rfl dX1_shortOf_74 ?_
            refine lv_iload hx hb dX1_shortOf_77 (lv_at hl 0 rfl) ?_
            refine va_iald hx hb hK hP 77 65 rfl rfl (i := x7_lp1826) (vin (a := x7_lp1826.toInt) rfl (by omega)) dX1_shortOf_79 ?_
            refine lv_topi (fun z1832 e1833 => ?_)
            have t1834 : 0 ≤ z1832.toInt ∧ z1832.toInt ≤ 99 := by rw [e1833]; exact hI.2 77 _ _ rfl _
            refine va_iald hx hb hK hP 24 12 rfl rfl (i := z1832) (vin (a := z1832.toInt) rfl (by omega)) dX1_shortOf_80 ?_
            refine lv_topi (fun z1835 e1836 => ?_)
            have t1837 : 0 ≤ z1835.toInt ∧ z1835.toInt ≤ 9 := by rw [e1836]; exact hI.2 24 _ _ rfl _
            refine lv_iload hx hb dX1_shortOf_81 (lv_at hl 3 rfl) ?_
            refine lv_icmp_ne (tgt := 114) hx hb dX1_shortOf_83 (by decide) (fun c1838 => ?_) (fun c1838 => ?_)
            · skip
              have t1839 := cv_ne (a := z1835.toInt) rfl (b := r1817.toInt) rfl c1838
              obtain ⟨z1840, e1841⟩ : ∃ y : Int32, y = x7_lp1826 + 1 := ⟨_, rfl⟩
              try (have t1842 := tadd e1841 rfl (b := 1) (by decide) (by omega))
              refine lv_iinc (v := z1840) (lv' := [(7, .int z1840), (6, .int x6_lp1826), (5, .int r1818), (4, .int r1817), (0, .ref (g 11)), (1, .int p0), (2, .int p1), (3, .int p2)]) hx hb dX1_shortOf_114 hl (k := 0) rfl (by rw [e1841]; rfl) (by decide) rfl (fun ls hl => ?_)
              refine lv_goto (tgt := 57) hx hb dX1_shortOf_117 (by decide) ?_
              exact ih_lp1826 z1840 x6_lp1826  _ _ _ (by omega) (by omega) hP hS (lv_sub hl [0, 1, 2, 3, 4, 5, 6, 7] rfl)
            · skip
              have t1843 := cv_eq (a := z1835.toInt) rfl (b := r1817.toInt) rfl c1838
              refine lv_iload hx hb dX1_shortOf_86 (lv_at hl 1 rfl) ?_
              refine lv_iconst (v := 0) hx hb dX1_shortOf_88 (by decide) ?_
              refine lv_iload hx hb dX1_shortOf_89 (lv_at hl 2 rfl) ?_
              refine lv_aload_n hx hb dX1_shortOf_91 rfl (lv_at hl 4 rfl) ?_
              refine va_get (D := (dC, dI)) (ci := 1) (v := .ref (g 75)) (C := RX1) (T := TX1) (N := 13) hx hb hwd inA_X1 hown hK hP 11 rfl rfl 6 (by decide) (hwd _ wk_166) (fun _ h9 => h9) rfl dX1_shortOf_92 ?_
              refine lv_aload_n hx hb dX1_shortOf_95 rfl (lv_at hl 4 rfl) ?_
              refine va_get (D := (dC, dI)) (ci := 1) (v := .ref (g 77)) (C := RX1) (T := TX1) (N := 13) hx hb hwd inA_X1 hown hK hP 11 rfl rfl 8 (by decide) (hwd _ wk_168) (fun _ h9 => h9) rfl dX1_shortOf_96 ?_
              refine lv_iload hx hb dX1_shortOf_99 (lv_at hl 0 rfl) ?_
              refine va_iald hx hb hK hP 77 65 rfl rfl (i := x7_lp1826) (vin (a := x7_lp1826.toInt) rfl (by omega)) dX1_shortOf_101 ?_
              refine lv_topi (fun z1844 e1845 => ?_)
              have t1846 : 0 ≤ z1844.toInt ∧ z1844.toInt ≤ 99 := by rw [e1845]; exact hI.2 77 _ _ rfl _
              refine lv_iconst (v := 3) hx hb dX1_shortOf_102 (by decide) ?_
              refine lv_imul hx hb dX1_shortOf_103 ?_
              refine lv_topi (fun z1847 e1848 => ?_)
              try (have t1849 := tmul e1848 (a := z1844.toInt) rfl (b := 3) (by decide) (by omega))
              refine lv_iload_n hx hb dX1_shortOf_104 rfl (lv_at hl 7 rfl) ?_
              refine lv_iadd hx hb dX1_shortOf_105 ?_
              refine lv_topi (fun z1850 e1851 => ?_)
              try (have t1852 := tadd e1851 (a := z1847.toInt) rfl (b := p2.toInt) rfl (by omega))
              refine va_iald hx hb hK hP 75 63 rfl rfl (i := z1850) (vin (a := z1850.toInt) rfl (by omega)) dX1_shortOf_106 ?_
              refine lv_topi (fun z1853 e1854 => ?_)
              refine lv_isub hx hb dX1_shortOf_107 ?_
              refine lv_topi (fun z1855 e1856 => ?_)
              try (have t1857 := tsub e1856 (a := r1818.toInt) rfl (b := z1853.toInt) rfl (by omega))
              refine va_mmax hx hb (by rw [hml]; exact hl.1.symm) hown (hwd _ wk_1171) (hwd _ wk_395) (hwd _ wk_392) (hwd _ wk_396) (Nat.le_of_ble_eq_true rfl) (Nat.le_of_ble_eq_true rfl) (Nat.le_of_ble_eq_true rfl) (Nat.le_of_ble_eq_true rfl) dX1_shortOf_108 ?_
              refine lv_topi (fun z1858 e1859 => ?_)
              have t1860 := tmax e1859 (a := 0) (by decide) (b := z1855.toInt) rfl
              refine lv_iadd hx hb dX1_shortOf_111 ?_
              refine lv_topi (fun z1861 e1862 => ?_)
              try (have t1863 := tadd e1862 (a := x6_lp1826.toInt) rfl (b := z1858.toInt) rfl (by omega))
              refine lv_istore (lv' := [(6, .int z1861), (7, .int x7_lp1826), (5, .int r1818), (4, .int r1817), (0, .ref (g 11)), (1, .int p0), (2, .int p1), (3, .int p2)]) hx hb dX1_shortOf_112 hl (by decide) rfl (fun ls hl => ?_)
              obtain ⟨z1864, e1865⟩ : ∃ y : Int32, y = x7_lp1826 + 1 := ⟨_, rfl⟩
              try (have t1866 := tadd e1865 rfl (b := 1) (by decide) (by omega))
              refine lv_iinc (v := z1864) (lv' := [(7, .int z1864), (6, .int z1861), (5, .int r1818), (4, .int r1817), (0, .ref (g 11)), (1, .int p0), (2, .int p1), (3, .int p2)]) hx hb dX1_shortOf_114 hl (k := 1) rfl (by rw [e1865]; rfl) (by decide) rfl (fun ls hl => ?_)
              refine lv_goto (tgt := 57) hx hb dX1_shortOf_117 (by decide) ?_
              exact ih_lp1826 z1864 z1861  _ _ _ (by omega) (by omega) hP hS (lv_sub hl [0, 1, 2, 3, 4, 5, 6, 7] rfl)
      obtain ⟨n9, hn9⟩ : ∃ n : Nat, 2147483648 - 0 ≤ (n : Int) := ⟨((2147483648 - 0 : Int)).toNat, by omega⟩
      exact lp1826 n9 0 0  H _ ls (by have : (0 : Int32).toInt = 0 := (by decide); have : (0 : Int32).toInt = 0 := (by decide); omega) (by have : (0 : Int32).toInt = 0 := (by decide); have : (0 : Int32).toInt = 0 := (by decide); omega) hP hS hl
    · skip
      have t1867 := cv_eq (a := r1823.toInt) rfl (b := 0) (by decide) c1824
      refine lv_iconst (v := 0) hx hb dX1_shortOf_49 (by decide) ?_
      have hP9 : va_P (dC, dI) classes (wX g c v F rc) H := hP
      exact W.iret (v := 0) hx hb hr (fun t ht hW => ⟨⟨0, (), rfl, trivial, (by show va_P _ _ _ t.heap; rw [ht]; exact hP9)⟩, hS.F ht⟩) hS.2.2 dX1_shortOf_50
set_option maxHeartbeats 8000000 in
set_option maxRecDepth 100000 in
theorem c_X1_gapsOfAll (l : Launch) (dC : Nat → ClassId) (dI : Nat → Nat → Nat) (g : Nat → Nat) (c : Nat → ClassId) (adK adV : Nat → Nat) (v : Nat → Int32) (F : Nat → Nat → Int32) (rc sz : Nat) (hg : injX g) (hI : IX v F) : Met l yX1_gapsOfAll (Cond.code yX1_gapsOfAll cX1_gapsOfAll 3 (some .int) :: wA) ({ frames := 1, cells := 0, slots := 0, locals := 40 }) (va_Pc [.ref (g 11)] (PX dC dI g c adK adV v F rc sz)) (va_Qi (fun (r : Int32) (u : Unit) => True) (fun (_ : Unit) => BX dC dI g c (v, F, rc)) (AX g sz)) 0 0 (AX g sz) := by
  refine Met.ofW (cc := cX1_gapsOfAll) (maxL := 3) (ret := (some .int)) (by decide) rfl ?_
  intro p e s m args below meth c0 s₁ B hml hv
  obtain ⟨rfl, hsz, hP, hK, hE⟩ := hv
  have hx := B.exec
  have hb := B.bytes
  have hr := B.returns
  have hts := atoms_spec (ws := Cond.code yX1_gapsOfAll cX1_gapsOfAll 3 (some .int) :: wA) B.pre
  have hwd : ∀ w ∈ wA, w.before _ s = true := fun w h => hts w (List.mem_cons_of_mem _ h)
  have hown : s.vm.findClass RX1 = some m.cls := findClass_of_methodNamed B.named
  have hlocks := B.notSynchronized
  subst hsz
  have hl := lv_entry ([.ref (g 11)]) (n := 3) (Nat.le_of_ble_eq_true rfl)
  rw [lg_entry_eq]
  generalize (lg_sl ([.ref (g 11)]) ++ List.replicate (3 - (lg_sl ([.ref (g 11)])).length) Slot.unset).toArray = ls at hl ⊢
  have hl : lv_has ls 3 [(0, .ref (g 11))] := hl
  obtain ⟨H, eH⟩ : ∃ z, z = s.heap := ⟨_, rfl⟩
  have hP : va_P (dC, dI) classes (wX g c v F rc) H := by rw [eH]; exact hP
  have hS : va_S (AX g s.heap.size) s.heap H [] := by rw [eH]; exact va_S.rf
  refine my_heap eH ?_
  refine lv_iconst (v := 0) hx hb dX1_gapsOfAll_0 (by decide) ?_
  refine lv_istore_n (lv' := [(1, .int 0), (0, .ref (g 11))]) hx hb dX1_gapsOfAll_1 rfl hl (by decide) rfl (fun ls hl => ?_)
  refine lv_iconst (v := 0) hx hb dX1_gapsOfAll_2 (by decide) ?_
  refine lv_istore_n (lv' := [(2, .int 0), (1, .int 0), (0, .ref (g 11))]) hx hb dX1_gapsOfAll_3 rfl hl (by decide) rfl (fun ls hl => ?_)
  have lp1868 : ∀ (n : Nat) (x2_lp1868 : Int32) (x1_lp1868 : Int32) (H : Heap) (locs : List Loc) (ls : Array Slot), (0 ≤ x2_lp1868.toInt) → (2147483648 - x2_lp1868.toInt ≤ (n : Int)) → va_P (dC, dI) classes (wX g c v F rc) H → va_S (AX g s.heap.size) s.heap H locs → lv_has ls 3 [(2, .int x2_lp1868), (1, .int x1_lp1868), (0, .ref (g 11))] → W p l e (headSpec (Cond.code yX1_gapsOfAll cX1_gapsOfAll 3 (some .int) :: wA) ({ frames := 1, cells := 0, slots := 0, locals := 40 })).room s m ([.ref (g 11)] : List Value).toArray below meth c0 H locs 0 0 (MQ below (va_Qi (fun (r : Int32) (u : Unit) => True) (fun (_ : Unit) => BX dC dI g c (v, F, rc)) (AX g s.heap.size)) ([.ref (g 11)] : List Value).toArray s 0 0 (AX g s.heap.size)) (F0 m 4 ls []) := by
    intro n
    induction n with
    | zero =>
      intro x2_lp1868 x1_lp1868 H locs ls t1869 hm hP hS hl
      exfalso
      have := i32_rng x2_lp1868
      have := i32_rng x1_lp1868
      omega
    | succ n ih_lp1868 =>
      intro x2_lp1868 x1_lp1868 H locs ls t1869 hm hP hS hl
      have rx2_lp1868 := i32_rng x2_lp1868
      have rx1_lp1868 := i32_rng x1_lp1868
      refine lv_iload_n hx hb dX1_gapsOfAll_4 rfl (lv_at hl 0 rfl) ?_
      refine lv_aload_n hx hb dX1_gapsOfAll_5 rfl (lv_at hl 2 rfl) ?_
      refine va_get (D := (dC, dI)) (ci := 1) (v := .int (v 229)) (C := RX1) (T := TX1) (N := 13) hx hb hwd inA_X1 hown hK hP 11 rfl rfl 9 (by decide) (hwd _ wk_1151) (fun _ h9 => h9) rfl dX1_gapsOfAll_6 ?_
      have t1870 : 0 ≤ (v 229).toInt ∧ (v 229).toInt ≤ 100 := hI.1 229 _ _ rfl
      refine lv_icmp_ge (tgt := 32) hx hb dX1_gapsOfAll_9 (by decide) (fun c1871 => ?_) (fun c1871 => ?_)
      · skip
        have t1872 := cv_le (a := (v 229).toInt) rfl (b := x2_lp1868.toInt) rfl c1871
        refine lv_iload_n hx hb dX1_gapsOfAll_32 rfl (lv_at hl 1 rfl) ?_
        have hP9 : va_P (dC, dI) classes (wX g c v F rc) H := hP
        exact W.iret (v := x1_lp1868) hx hb hr (fun t ht hW => ⟨⟨x1_lp1868, (), rfl, trivial, (by show va_P _ _ _ t.heap; rw [ht]; exact hP9)⟩, hS.F ht⟩) hS.2.2 dX1_gapsOfAll_33
      · skip
        have t1873 := cv_nle (a := (v 229).toInt) rfl (b := x2_lp1868.toInt) rfl c1871
        refine lv_iload_n hx hb dX1_gapsOfAll_12 rfl (lv_at hl 1 rfl) ?_
        refine lv_aload_n hx hb dX1_gapsOfAll_13 rfl (lv_at hl 2 rfl) ?_
        refine va_get (D := (dC, dI)) (ci := 1) (v := .ref (g 76)) (C := RX1) (T := TX1) (N := 13) hx hb hwd inA_X1 hown hK hP 11 rfl rfl 7 (by decide) (hwd _ wk_167) (fun _ h9 => h9) rfl dX1_gapsOfAll_14 ?_
        refine lv_aload_n hx hb dX1_gapsOfAll_17 rfl (lv_at hl 2 rfl) ?_
        refine va_get (D := (dC, dI)) (ci := 1) (v := .ref (g 77)) (C := RX1) (T := TX1) (N := 13) hx hb hwd inA_X1 hown hK hP 11 rfl rfl 8 (by decide) (hwd _ wk_168) (fun _ h9 => h9) rfl dX1_gapsOfAll_18 ?_
        refine lv_iload_n hx hb dX1_gapsOfAll_21 rfl (lv_at hl 0 rfl) ?_
        refine va_iald hx hb hK hP 77 65 rfl rfl (i := x2_lp1868) (vin (a := x2_lp1868.toInt) rfl (by omega)) dX1_gapsOfAll_22 ?_
        refine lv_topi (fun z1874 e1875 => ?_)
        have t1876 : 0 ≤ z1874.toInt ∧ z1874.toInt ≤ 99 := by rw [e1875]; exact hI.2 77 _ _ rfl _
        refine va_iald hx hb hK hP 76 64 rfl rfl (i := z1874) (vin (a := z1874.toInt) rfl (by omega)) dX1_gapsOfAll_23 ?_
        refine lv_topi (fun z1877 e1878 => ?_)
        refine lv_iadd hx hb dX1_gapsOfAll_24 ?_
        refine lv_topi (fun z1879 e1880 => ?_)
        try (have t1881 := tadd e1880 (a := x1_lp1868.toInt) rfl (b := z1877.toInt) rfl (by omega))
        refine lv_istore_n (lv' := [(1, .int z1879), (2, .int x2_lp1868), (0, .ref (g 11))]) hx hb dX1_gapsOfAll_25 rfl hl (by decide) rfl (fun ls hl => ?_)
        obtain ⟨z1882, e1883⟩ : ∃ y : Int32, y = x2_lp1868 + 1 := ⟨_, rfl⟩
        try (have t1884 := tadd e1883 rfl (b := 1) (by decide) (by omega))
        refine lv_iinc (v := z1882) (lv' := [(2, .int z1882), (1, .int z1879), (0, .ref (g 11))]) hx hb dX1_gapsOfAll_26 hl (k := 1) rfl (by rw [e1883]; rfl) (by decide) rfl (fun ls hl => ?_)
        refine lv_goto (tgt := 4) hx hb dX1_gapsOfAll_29 (by decide) ?_
        exact ih_lp1868 z1882 z1879  _ _ _ (by omega) (by omega) hP hS (lv_sub hl [0, 1, 2] rfl)
  obtain ⟨n9, hn9⟩ : ∃ n : Nat, 2147483648 - 0 ≤ (n : Int) := ⟨((2147483648 - 0 : Int)).toNat, by omega⟩
  exact lp1868 n9 0 0  H _ ls (by have : (0 : Int32).toInt = 0 := (by decide); have : (0 : Int32).toInt = 0 := (by decide); omega) (by have : (0 : Int32).toInt = 0 := (by decide); have : (0 : Int32).toInt = 0 := (by decide); omega) hP hS hl
set_option maxHeartbeats 8000000 in
set_option maxRecDepth 100000 in
theorem c_X1_unitsOf (l : Launch) (dC : Nat → ClassId) (dI : Nat → Nat → Nat) (g : Nat → Nat) (c : Nat → ClassId) (adK adV : Nat → Nat) (v : Nat → Int32) (F : Nat → Nat → Int32) (rc sz : Nat) (p0 : Int32) (p1 : Int32) (p2 : Int32) (hg : injX g) (hI : IX v F) (h0 : 0 ≤ p0.toInt ∧ p0.toInt ≤ 9) (h1 : 0 ≤ p1.toInt ∧ p1.toInt ≤ 29) : Met l yX1_unitsOf (Cond.code yX1_unitsOf cX1_unitsOf 4 (some .int) :: wA) ({ frames := 4, cells := 0, slots := 0, locals := 160 }) (va_Pc [.ref (g 11), .int p0, .int p1, .int p2] (PX dC dI g c adK adV v F rc sz)) (va_Qi (fun (r : Int32) (u : Unit) => True) (fun (_ : Unit) => BX dC dI g c (v, F, rc)) (AX g sz)) 0 0 (AX g sz) := by
  refine Met.ofW (cc := cX1_unitsOf) (maxL := 4) (ret := (some .int)) (by decide) rfl ?_
  intro p e s m args below meth c0 s₁ B hml hv
  obtain ⟨rfl, hsz, hP, hK, hE⟩ := hv
  have hx := B.exec
  have hb := B.bytes
  have hr := B.returns
  have hts := atoms_spec (ws := Cond.code yX1_unitsOf cX1_unitsOf 4 (some .int) :: wA) B.pre
  have hwd : ∀ w ∈ wA, w.before _ s = true := fun w h => hts w (List.mem_cons_of_mem _ h)
  have hown : s.vm.findClass RX1 = some m.cls := findClass_of_methodNamed B.named
  have hlocks := B.notSynchronized
  subst hsz
  have hl := lv_entry ([.ref (g 11), .int p0, .int p1, .int p2]) (n := 4) (Nat.le_of_ble_eq_true rfl)
  rw [lg_entry_eq]
  generalize (lg_sl ([.ref (g 11), .int p0, .int p1, .int p2]) ++ List.replicate (4 - (lg_sl ([.ref (g 11), .int p0, .int p1, .int p2])).length) Slot.unset).toArray = ls at hl ⊢
  have hl : lv_has ls 4 [(0, .ref (g 11)), (1, .int p0), (2, .int p1), (3, .int p2)] := hl
  obtain ⟨H, eH⟩ : ∃ z, z = s.heap := ⟨_, rfl⟩
  have hP : va_P (dC, dI) classes (wX g c v F rc) H := by rw [eH]; exact hP
  have hS : va_S (AX g s.heap.size) s.heap H [] := by rw [eH]; exact va_S.rf
  refine my_heap eH ?_
  have rp0 := i32_rng p0
  have rp1 := i32_rng p1
  have rp2 := i32_rng p2
  refine lv_aload_n hx hb dX1_unitsOf_0 rfl (lv_at hl 0 rfl) ?_
  refine va_get (D := (dC, dI)) (ci := 1) (v := .ref (g 9)) (C := RX1) (T := TX1) (N := 13) hx hb hwd inA_X1 hown hK hP 11 rfl rfl 5 (by decide) (hwd _ wk_177) (fun _ h9 => h9) rfl dX1_unitsOf_1 ?_
  refine lv_iload_n hx hb dX1_unitsOf_4 rfl (lv_at hl 1 rfl) ?_
  refine lv_iload_n hx hb dX1_unitsOf_5 rfl (lv_at hl 2 rfl) ?_
  refine va_calli (va_runV (As := [.int p0, .int p1]) (rest := []) ⟨hx, hb, hml, hown, hwd⟩ (c_X0_letterOf l dC dI g c adK adV v F rc H.size p0 p1 hg hI (by omega) (by omega)) (cwV 2 hwd (gV wk_1175 wk_1172 wk_1173 wk_1174 wk_46) rfl rfl rfl (by decide +kernel) ⟨Nat.le_of_ble_eq_true rfl, Nat.le_of_ble_eq_true rfl⟩) ⟨PX.blind, va_recv hK hP (ci := 0) (q0 := 9) rfl rfl, fun U hU hW => ⟨rfl, PX.at hK hE hP hS hU hW⟩⟩ rfl rfl hl.1 rfl (lv_room (Nat.le_of_ble_eq_true rfl)) dX1_unitsOf_6 ⟨Nat.le_of_ble_eq_true rfl, Nat.le_of_ble_eq_true rfl⟩) hS (fun q _ h => (freeX hS) q h) (freeX hS) (fun r1885 u t H1 locs ht hvm hw hB hz1 hk1 hS => ?_)
  unfold BX at hB
  rw [ht] at hB
  have hP : va_P (dC, dI) classes (wX g c v F rc) H1 := hB
  generalize H1 = H at hP hS ⊢
  have rr_r1885 := i32_rng r1885
  by_cases hlo1886 : r1885.toInt < 100
  · refine lv_tableOut (tgt := 124) hx hb dX1_unitsOf_9 (Or.inl hlo1886) (by decide) ?_
    refine lv_iconst (v := 0) hx hb dX1_unitsOf_124 (by decide) ?_
    refine lv_iload_n hx hb dX1_unitsOf_125 rfl (lv_at hl 3 rfl) ?_
    refine lv_aload_n hx hb dX1_unitsOf_126 rfl (lv_at hl 0 rfl) ?_
    refine va_get (D := (dC, dI)) (ci := 1) (v := .ref (g 9)) (C := RX1) (T := TX1) (N := 13) hx hb hwd inA_X1 hown hK hP 11 rfl rfl 5 (by decide) (hwd _ wk_177) (fun _ h9 => h9) rfl dX1_unitsOf_127 ?_
    refine va_get (D := (dC, dI)) (ci := 0) (v := .ref (g 59)) (C := RX0) (T := TX0) (N := 9) hx hb hwd inA_X0 hown hK hP 9 rfl rfl 2 (by decide) (hwd _ wk_1170) (fun _ h9 => h9) rfl dX1_unitsOf_130 ?_
    refine lv_iload_n hx hb dX1_unitsOf_133 rfl (lv_at hl 1 rfl) ?_
    refine va_iald hx hb hK hP 59 47 rfl rfl (i := p0) (vin (a := p0.toInt) rfl (by omega)) dX1_unitsOf_134 ?_
    refine lv_topi (fun z1888 e1889 => ?_)
    refine lv_isub hx hb dX1_unitsOf_135 ?_
    refine lv_topi (fun z1890 e1891 => ?_)
    try (have t1892 := tsub e1891 (a := p2.toInt) rfl (b := z1888.toInt) rfl (by omega))
    refine va_mmax hx hb (by rw [hml]; exact hl.1.symm) hown (hwd _ wk_1171) (hwd _ wk_395) (hwd _ wk_392) (hwd _ wk_396) (Nat.le_of_ble_eq_true rfl) (Nat.le_of_ble_eq_true rfl) (Nat.le_of_ble_eq_true rfl) (Nat.le_of_ble_eq_true rfl) dX1_unitsOf_136 ?_
    refine lv_topi (fun z1893 e1894 => ?_)
    have t1895 := tmax e1894 (a := 0) (by decide) (b := z1890.toInt) rfl
    have hP9 : va_P (dC, dI) classes (wX g c v F rc) H := hP
    exact W.iret (v := z1893) hx hb hr (fun t ht hW => ⟨⟨z1893, (), rfl, trivial, (by show va_P _ _ _ t.heap; rw [ht]; exact hP9)⟩, hS.F ht⟩) hS.2.2 dX1_unitsOf_139
  by_cases hhi1887 : 111 < r1885.toInt
  · refine lv_tableOut (tgt := 124) hx hb dX1_unitsOf_9 (Or.inr hhi1887) (by decide) ?_
    refine lv_iconst (v := 0) hx hb dX1_unitsOf_124 (by decide) ?_
    refine lv_iload_n hx hb dX1_unitsOf_125 rfl (lv_at hl 3 rfl) ?_
    refine lv_aload_n hx hb dX1_unitsOf_126 rfl (lv_at hl 0 rfl) ?_
    refine va_get (D := (dC, dI)) (ci := 1) (v := .ref (g 9)) (C := RX1) (T := TX1) (N := 13) hx hb hwd inA_X1 hown hK hP 11 rfl rfl 5 (by decide) (hwd _ wk_177) (fun _ h9 => h9) rfl dX1_unitsOf_127 ?_
    refine va_get (D := (dC, dI)) (ci := 0) (v := .ref (g 59)) (C := RX0) (T := TX0) (N := 9) hx hb hwd inA_X0 hown hK hP 9 rfl rfl 2 (by decide) (hwd _ wk_1170) (fun _ h9 => h9) rfl dX1_unitsOf_130 ?_
    refine lv_iload_n hx hb dX1_unitsOf_133 rfl (lv_at hl 1 rfl) ?_
    refine va_iald hx hb hK hP 59 47 rfl rfl (i := p0) (vin (a := p0.toInt) rfl (by omega)) dX1_unitsOf_134 ?_
    refine lv_topi (fun z1896 e1897 => ?_)
    refine lv_isub hx hb dX1_unitsOf_135 ?_
    refine lv_topi (fun z1898 e1899 => ?_)
    try (have t1900 := tsub e1899 (a := p2.toInt) rfl (b := z1896.toInt) rfl (by omega))
    refine va_mmax hx hb (by rw [hml]; exact hl.1.symm) hown (hwd _ wk_1171) (hwd _ wk_395) (hwd _ wk_392) (hwd _ wk_396) (Nat.le_of_ble_eq_true rfl) (Nat.le_of_ble_eq_true rfl) (Nat.le_of_ble_eq_true rfl) (Nat.le_of_ble_eq_true rfl) dX1_unitsOf_136 ?_
    refine lv_topi (fun z1901 e1902 => ?_)
    have t1903 := tmax e1902 (a := 0) (by decide) (b := z1898.toInt) rfl
    have hP9 : va_P (dC, dI) classes (wX g c v F rc) H := hP
    exact W.iret (v := z1901) hx hb hr (fun t ht hW => ⟨⟨z1901, (), rfl, trivial, (by show va_P _ _ _ t.heap; rw [ht]; exact hP9)⟩, hS.F ht⟩) hS.2.2 dX1_unitsOf_139
  rcases (show r1885.toInt = 100 ∨ r1885.toInt = 101 ∨ r1885.toInt = 102 ∨ r1885.toInt = 103 ∨ r1885.toInt = 104 ∨ r1885.toInt = 105 ∨ r1885.toInt = 106 ∨ r1885.toInt = 107 ∨ r1885.toInt = 108 ∨ r1885.toInt = 109 ∨ r1885.toInt = 110 ∨ r1885.toInt = 111 by omega) with hk | hk | hk | hk | hk | hk | hk | hk | hk | hk | hk | hk
  · refine lv_tableIn (off := 79) (tgt := 88) hx hb dX1_unitsOf_9 hlo1886 hhi1887 (by rw [hk]; decide) (by decide) ?_
    refine lv_aload_n hx hb dX1_unitsOf_88 rfl (lv_at hl 0 rfl) ?_
    refine lv_iload_n hx hb dX1_unitsOf_89 rfl (lv_at hl 1 rfl) ?_
    refine lv_iload_n hx hb dX1_unitsOf_90 rfl (lv_at hl 2 rfl) ?_
    refine lv_iconst (v := 2) hx hb dX1_unitsOf_91 (by decide) ?_
    refine va_calli (va_runV (As := [.int p0, .int p1, .int 2]) (rest := []) ⟨hx, hb, hml, hown, hwd⟩ (c_X1_shortOf l dC dI g c adK adV v F rc H.size p0 p1 2 hg hI (by omega) (by omega) (by have : (2 : Int32).toInt = 2 := (by decide); omega)) (cwV 3 hwd (gV wk_1179 wk_1176 wk_1177 wk_1178 wk_54) rfl rfl rfl (by decide +kernel) ⟨Nat.le_of_ble_eq_true rfl, Nat.le_of_ble_eq_true rfl⟩) ⟨PX.blind, va_recv hK hP (ci := 1) (q0 := 11) rfl rfl, fun U hU hW => ⟨rfl, PX.at hK hE hP hS hU hW⟩⟩ rfl rfl hl.1 rfl (lv_room (Nat.le_of_ble_eq_true rfl)) dX1_unitsOf_92 ⟨Nat.le_of_ble_eq_true rfl, Nat.le_of_ble_eq_true rfl⟩) hS (fun q _ h => (freeX hS) q h) (freeX hS) (fun r1904 u t H1 locs ht hvm hw hB hz1 hk1 hS => ?_)
    unfold BX at hB
    rw [ht] at hB
    have hP : va_P (dC, dI) classes (wX g c v F rc) H1 := hB
    generalize H1 = H at hP hS ⊢
    have rr_r1904 := i32_rng r1904
    have hP9 : va_P (dC, dI) classes (wX g c v F rc) H := hP
    exact W.iret (v := r1904) hx hb hr (fun t ht hW => ⟨⟨r1904, (), rfl, trivial, (by show va_P _ _ _ t.heap; rw [ht]; exact hP9)⟩, hS.F ht⟩) hS.2.2 dX1_unitsOf_95
  · refine lv_tableIn (off := 115) (tgt := 124) hx hb dX1_unitsOf_9 hlo1886 hhi1887 (by rw [hk]; decide) (by decide) ?_
    refine lv_iconst (v := 0) hx hb dX1_unitsOf_124 (by decide) ?_
    refine lv_iload_n hx hb dX1_unitsOf_125 rfl (lv_at hl 3 rfl) ?_
    refine lv_aload_n hx hb dX1_unitsOf_126 rfl (lv_at hl 0 rfl) ?_
    refine va_get (D := (dC, dI)) (ci := 1) (v := .ref (g 9)) (C := RX1) (T := TX1) (N := 13) hx hb hwd inA_X1 hown hK hP 11 rfl rfl 5 (by decide) (hwd _ wk_177) (fun _ h9 => h9) rfl dX1_unitsOf_127 ?_
    refine va_get (D := (dC, dI)) (ci := 0) (v := .ref (g 59)) (C := RX0) (T := TX0) (N := 9) hx hb hwd inA_X0 hown hK hP 9 rfl rfl 2 (by decide) (hwd _ wk_1170) (fun _ h9 => h9) rfl dX1_unitsOf_130 ?_
    refine lv_iload_n hx hb dX1_unitsOf_133 rfl (lv_at hl 1 rfl) ?_
    refine va_iald hx hb hK hP 59 47 rfl rfl (i := p0) (vin (a := p0.toInt) rfl (by omega)) dX1_unitsOf_134 ?_
    refine lv_topi (fun z1905 e1906 => ?_)
    refine lv_isub hx hb dX1_unitsOf_135 ?_
    refine lv_topi (fun z1907 e1908 => ?_)
    try (have t1909 := tsub e1908 (a := p2.toInt) rfl (b := z1905.toInt) rfl (by omega))
    refine va_mmax hx hb (by rw [hml]; exact hl.1.symm) hown (hwd _ wk_1171) (hwd _ wk_395) (hwd _ wk_392) (hwd _ wk_396) (Nat.le_of_ble_eq_true rfl) (Nat.le_of_ble_eq_true rfl) (Nat.le_of_ble_eq_true rfl) (Nat.le_of_ble_eq_true rfl) dX1_unitsOf_136 ?_
    refine lv_topi (fun z1910 e1911 => ?_)
    have t1912 := tmax e1911 (a := 0) (by decide) (b := z1907.toInt) rfl
    have hP9 : va_P (dC, dI) classes (wX g c v F rc) H := hP
    exact W.iret (v := z1910) hx hb hr (fun t ht hW => ⟨⟨z1910, (), rfl, trivial, (by show va_P _ _ _ t.heap; rw [ht]; exact hP9)⟩, hS.F ht⟩) hS.2.2 dX1_unitsOf_139
  · refine lv_tableIn (off := 115) (tgt := 124) hx hb dX1_unitsOf_9 hlo1886 hhi1887 (by rw [hk]; decide) (by decide) ?_
    refine lv_iconst (v := 0) hx hb dX1_unitsOf_124 (by decide) ?_
    refine lv_iload_n hx hb dX1_unitsOf_125 rfl (lv_at hl 3 rfl) ?_
    refine lv_aload_n hx hb dX1_unitsOf_126 rfl (lv_at hl 0 rfl) ?_
    refine va_get (D := (dC, dI)) (ci := 1) (v := .ref (g 9)) (C := RX1) (T := TX1) (N := 13) hx hb hwd inA_X1 hown hK hP 11 rfl rfl 5 (by decide) (hwd _ wk_177) (fun _ h9 => h9) rfl dX1_unitsOf_127 ?_
    refine va_get (D := (dC, dI)) (ci := 0) (v := .ref (g 59)) (C := RX0) (T := TX0) (N := 9) hx hb hwd inA_X0 hown hK hP 9 rfl rfl 2 (by decide) (hwd _ wk_1170) (fun _ h9 => h9) rfl dX1_unitsOf_130 ?_
    refine lv_iload_n hx hb dX1_unitsOf_133 rfl (lv_at hl 1 rfl) ?_
    refine va_iald hx hb hK hP 59 47 rfl rfl (i := p0) (vin (a := p0.toInt) rfl (by omega)) dX1_unitsOf_134 ?_
    refine lv_topi (fun z1913 e1914 => ?_)
    refine lv_isub hx hb dX1_unitsOf_135 ?_
    refine lv_topi (fun z1915 e1916 => ?_)
    try (have t1917 := tsub e1916 (a := p2.toInt) rfl (b := z1913.toInt) rfl (by omega))
    refine va_mmax hx hb (by rw [hml]; exact hl.1.symm) hown (hwd _ wk_1171) (hwd _ wk_395) (hwd _ wk_392) (hwd _ wk_396) (Nat.le_of_ble_eq_true rfl) (Nat.le_of_ble_eq_true rfl) (Nat.le_of_ble_eq_true rfl) (Nat.le_of_ble_eq_true rfl) dX1_unitsOf_136 ?_
    refine lv_topi (fun z1918 e1919 => ?_)
    have t1920 := tmax e1919 (a := 0) (by decide) (b := z1915.toInt) rfl
    have hP9 : va_P (dC, dI) classes (wX g c v F rc) H := hP
    exact W.iret (v := z1918) hx hb hr (fun t ht hW => ⟨⟨z1918, (), rfl, trivial, (by show va_P _ _ _ t.heap; rw [ht]; exact hP9)⟩, hS.F ht⟩) hS.2.2 dX1_unitsOf_139
  · refine lv_tableIn (off := 87) (tgt := 96) hx hb dX1_unitsOf_9 hlo1886 hhi1887 (by rw [hk]; decide) (by decide) ?_
    refine lv_aload_n hx hb dX1_unitsOf_96 rfl (lv_at hl 0 rfl) ?_
    refine va_calli (va_runV (As := []) (rest := []) ⟨hx, hb, hml, hown, hwd⟩ (c_X1_gapsOfAll l dC dI g c adK adV v F rc H.size  hg hI ) (cwV 0 hwd (gV wk_1189 wk_1186 wk_1187 wk_1188 wk_54) rfl rfl rfl (by decide +kernel) ⟨Nat.le_of_ble_eq_true rfl, Nat.le_of_ble_eq_true rfl⟩) ⟨PX.blind, va_recv hK hP (ci := 1) (q0 := 11) rfl rfl, fun U hU hW => ⟨rfl, PX.at hK hE hP hS hU hW⟩⟩ rfl rfl hl.1 rfl (lv_room (Nat.le_of_ble_eq_true rfl)) dX1_unitsOf_97 ⟨Nat.le_of_ble_eq_true rfl, Nat.le_of_ble_eq_true rfl⟩) hS (fun q _ h => (freeX hS) q h) (freeX hS) (fun r1921 u t H1 locs ht hvm hw hB hz1 hk1 hS => ?_)
    unfold BX at hB
    rw [ht] at hB
    have hP : va_P (dC, dI) classes (wX g c v F rc) H1 := hB
    generalize H1 = H at hP hS ⊢
    have rr_r1921 := i32_rng r1921
    have hP9 : va_P (dC, dI) classes (wX g c v F rc) H := hP
    exact W.iret (v := r1921) hx hb hr (fun t ht hW => ⟨⟨r1921, (), rfl, trivial, (by show va_P _ _ _ t.heap; rw [ht]; exact hP9)⟩, hS.F ht⟩) hS.2.2 dX1_unitsOf_100
  · refine lv_tableIn (off := 63) (tgt := 72) hx hb dX1_unitsOf_9 hlo1886 hhi1887 (by rw [hk]; decide) (by decide) ?_
    refine lv_aload_n hx hb dX1_unitsOf_72 rfl (lv_at hl 0 rfl) ?_
    refine lv_iload_n hx hb dX1_unitsOf_73 rfl (lv_at hl 1 rfl) ?_
    refine lv_iload_n hx hb dX1_unitsOf_74 rfl (lv_at hl 2 rfl) ?_
    refine lv_iconst (v := 0) hx hb dX1_unitsOf_75 (by decide) ?_
    refine va_calli (va_runV (As := [.int p0, .int p1, .int 0]) (rest := []) ⟨hx, hb, hml, hown, hwd⟩ (c_X1_shortOf l dC dI g c adK adV v F rc H.size p0 p1 0 hg hI (by omega) (by omega) (by have : (0 : Int32).toInt = 0 := (by decide); omega)) (cwV 3 hwd (gV wk_1179 wk_1176 wk_1177 wk_1178 wk_54) rfl rfl rfl (by decide +kernel) ⟨Nat.le_of_ble_eq_true rfl, Nat.le_of_ble_eq_true rfl⟩) ⟨PX.blind, va_recv hK hP (ci := 1) (q0 := 11) rfl rfl, fun U hU hW => ⟨rfl, PX.at hK hE hP hS hU hW⟩⟩ rfl rfl hl.1 rfl (lv_room (Nat.le_of_ble_eq_true rfl)) dX1_unitsOf_76 ⟨Nat.le_of_ble_eq_true rfl, Nat.le_of_ble_eq_true rfl⟩) hS (fun q _ h => (freeX hS) q h) (freeX hS) (fun r1922 u t H1 locs ht hvm hw hB hz1 hk1 hS => ?_)
    unfold BX at hB
    rw [ht] at hB
    have hP : va_P (dC, dI) classes (wX g c v F rc) H1 := hB
    generalize H1 = H at hP hS ⊢
    have rr_r1922 := i32_rng r1922
    have hP9 : va_P (dC, dI) classes (wX g c v F rc) H := hP
    exact W.iret (v := r1922) hx hb hr (fun t ht hW => ⟨⟨r1922, (), rfl, trivial, (by show va_P _ _ _ t.heap; rw [ht]; exact hP9)⟩, hS.F ht⟩) hS.2.2 dX1_unitsOf_79
  · refine lv_tableIn (off := 115) (tgt := 124) hx hb dX1_unitsOf_9 hlo1886 hhi1887 (by rw [hk]; decide) (by decide) ?_
    refine lv_iconst (v := 0) hx hb dX1_unitsOf_124 (by decide) ?_
    refine lv_iload_n hx hb dX1_unitsOf_125 rfl (lv_at hl 3 rfl) ?_
    refine lv_aload_n hx hb dX1_unitsOf_126 rfl (lv_at hl 0 rfl) ?_
    refine va_get (D := (dC, dI)) (ci := 1) (v := .ref (g 9)) (C := RX1) (T := TX1) (N := 13) hx hb hwd inA_X1 hown hK hP 11 rfl rfl 5 (by decide) (hwd _ wk_177) (fun _ h9 => h9) rfl dX1_unitsOf_127 ?_
    refine va_get (D := (dC, dI)) (ci := 0) (v := .ref (g 59)) (C := RX0) (T := TX0) (N := 9) hx hb hwd inA_X0 hown hK hP 9 rfl rfl 2 (by decide) (hwd _ wk_1170) (fun _ h9 => h9) rfl dX1_unitsOf_130 ?_
    refine lv_iload_n hx hb dX1_unitsOf_133 rfl (lv_at hl 1 rfl) ?_
    refine va_iald hx hb hK hP 59 47 rfl rfl (i := p0) (vin (a := p0.toInt) rfl (by omega)) dX1_unitsOf_134 ?_
    refine lv_topi (fun z1923 e1924 => ?_)
    refine lv_isub hx hb dX1_unitsOf_135 ?_
    refine lv_topi (fun z1925 e1926 => ?_)
    try (have t1927 := tsub e1926 (a := p2.toInt) rfl (b := z1923.toInt) rfl (by omega))
    refine va_mmax hx hb (by rw [hml]; exact hl.1.symm) hown (hwd _ wk_1171) (hwd _ wk_395) (hwd _ wk_392) (hwd _ wk_396) (Nat.le_of_ble_eq_true rfl) (Nat.le_of_ble_eq_true rfl) (Nat.le_of_ble_eq_true rfl) (Nat.le_of_ble_eq_true rfl) dX1_unitsOf_136 ?_
    refine lv_topi (fun z1928 e1929 => ?_)
    have t1930 := tmax e1929 (a := 0) (by decide) (b := z1925.toInt) rfl
    have hP9 : va_P (dC, dI) classes (wX g c v F rc) H := hP
    exact W.iret (v := z1928) hx hb hr (fun t ht hW => ⟨⟨z1928, (), rfl, trivial, (by show va_P _ _ _ t.heap; rw [ht]; exact hP9)⟩, hS.F ht⟩) hS.2.2 dX1_unitsOf_139
  · refine lv_tableIn (off := 115) (tgt := 124) hx hb dX1_unitsOf_9 hlo1886 hhi1887 (by rw [hk]; decide) (by decide) ?_
    refine lv_iconst (v := 0) hx hb dX1_unitsOf_124 (by decide) ?_
    refine lv_iload_n hx hb dX1_unitsOf_125 rfl (lv_at hl 3 rfl) ?_
    refine lv_aload_n hx hb dX1_unitsOf_126 rfl (lv_at hl 0 rfl) ?_
    refine va_get (D := (dC, dI)) (ci := 1) (v := .ref (g 9)) (C := RX1) (T := TX1) (N := 13) hx hb hwd inA_X1 hown hK hP 11 rfl rfl 5 (by decide) (hwd _ wk_177) (fun _ h9 => h9) rfl dX1_unitsOf_127 ?_
    refine va_get (D := (dC, dI)) (ci := 0) (v := .ref (g 59)) (C := RX0) (T := TX0) (N := 9) hx hb hwd inA_X0 hown hK hP 9 rfl rfl 2 (by decide) (hwd _ wk_1170) (fun _ h9 => h9) rfl dX1_unitsOf_130 ?_
    refine lv_iload_n hx hb dX1_unitsOf_133 rfl (lv_at hl 1 rfl) ?_
    refine va_iald hx hb hK hP 59 47 rfl rfl (i := p0) (vin (a := p0.toInt) rfl (by omega)) dX1_unitsOf_134 ?_
    refine lv_topi (fun z1931 e1932 => ?_)
    refine lv_isub hx hb dX1_unitsOf_135 ?_
    refine lv_topi (fun z1933 e1934 => ?_)
    try (have t1935 := tsub e1934 (a := p2.toInt) rfl (b := z1931.toInt) rfl (by omega))
    refine va_mmax hx hb (by rw [hml]; exact hl.1.symm) hown (hwd _ wk_1171) (hwd _ wk_395) (hwd _ wk_392) (hwd _ wk_396) (Nat.le_of_ble_eq_true rfl) (Nat.le_of_ble_eq_true rfl) (Nat.le_of_ble_eq_true rfl) (Nat.le_of_ble_eq_true rfl) dX1_unitsOf_136 ?_
    refine lv_topi (fun z1936 e1937 => ?_)
    have t1938 := tmax e1937 (a := 0) (by decide) (b := z1933.toInt) rfl
    have hP9 : va_P (dC, dI) classes (wX g c v F rc) H := hP
    exact W.iret (v := z1936) hx hb hr (fun t ht hW => ⟨⟨z1936, (), rfl, trivial, (by show va_P _ _ _ t.heap; rw [ht]; exact hP9)⟩, hS.F ht⟩) hS.2.2 dX1_unitsOf_139
  · refine lv_tableIn (off := 115) (tgt := 124) hx hb dX1_unitsOf_9 hlo1886 hhi1887 (by rw [hk]; decide) (by decide) ?_
    refine lv_iconst (v := 0) hx hb dX1_unitsOf_124 (by decide) ?_
    refine lv_iload_n hx hb dX1_unitsOf_125 rfl (lv_at hl 3 rfl) ?_
    refine lv_aload_n hx hb dX1_unitsOf_126 rfl (lv_at hl 0 rfl) ?_
    refine va_get (D := (dC, dI)) (ci := 1) (v := .ref (g 9)) (C := RX1) (T := TX1) (N := 13) hx hb hwd inA_X1 hown hK hP 11 rfl rfl 5 (by decide) (hwd _ wk_177) (fun _ h9 => h9) rfl dX1_unitsOf_127 ?_
    refine va_get (D := (dC, dI)) (ci := 0) (v := .ref (g 59)) (C := RX0) (T := TX0) (N := 9) hx hb hwd inA_X0 hown hK hP 9 rfl rfl 2 (by decide) (hwd _ wk_1170) (fun _ h9 => h9) rfl dX1_unitsOf_130 ?_
    refine lv_iload_n hx hb dX1_unitsOf_133 rfl (lv_at hl 1 rfl) ?_
    refine va_iald hx hb hK hP 59 47 rfl rfl (i := p0) (vin (a := p0.toInt) rfl (by omega)) dX1_unitsOf_134 ?_
    refine lv_topi (fun z1939 e1940 => ?_)
    refine lv_isub hx hb dX1_unitsOf_135 ?_
    refine lv_topi (fun z1941 e1942 => ?_)
    try (have t1943 := tsub e1942 (a := p2.toInt) rfl (b := z1939.toInt) rfl (by omega))
    refine va_mmax hx hb (by rw [hml]; exact hl.1.symm) hown (hwd _ wk_1171) (hwd _ wk_395) (hwd _ wk_392) (hwd _ wk_396) (Nat.le_of_ble_eq_true rfl) (Nat.le_of_ble_eq_true rfl) (Nat.le_of_ble_eq_true rfl) (Nat.le_of_ble_eq_true rfl) dX1_unitsOf_136 ?_
    refine lv_topi (fun z1944 e1945 => ?_)
    have t1946 := tmax e1945 (a := 0) (by decide) (b := z1941.toInt) rfl
    have hP9 : va_P (dC, dI) classes (wX g c v F rc) H := hP
    exact W.iret (v := z1944) hx hb hr (fun t ht hW => ⟨⟨z1944, (), rfl, trivial, (by show va_P _ _ _ t.heap; rw [ht]; exact hP9)⟩, hS.F ht⟩) hS.2.2 dX1_unitsOf_139
  · refine lv_tableIn (off := 71) (tgt := 80) hx hb dX1_unitsOf_9 hlo1886 hhi1887 (by rw [hk]; decide) (by decide) ?_
    refine lv_aload_n hx hb dX1_unitsOf_80 rfl (lv_at hl 0 rfl) ?_
    refine lv_iload_n hx hb dX1_unitsOf_81 rfl (lv_at hl 1 rfl) ?_
    refine lv_iload_n hx hb dX1_unitsOf_82 rfl (lv_at hl 2 rfl) ?_
    refine lv_iconst (v := 1) hx hb dX1_unitsOf_83 (by decide) ?_
    refine va_calli (va_runV (As := [.int p0, .int p1, .int 1]) (rest := []) ⟨hx, hb, hml, hown, hwd⟩ (c_X1_shortOf l dC dI g c adK adV v F rc H.size p0 p1 1 hg hI (by omega) (by omega) (by have : (1 : Int32).toInt = 1 := (by decide); omega)) (cwV 3 hwd (gV wk_1179 wk_1176 wk_1177 wk_1178 wk_54) rfl rfl rfl (by decide +kernel) ⟨Nat.le_of_ble_eq_true rfl, Nat.le_of_ble_eq_true rfl⟩) ⟨PX.blind, va_recv hK hP (ci := 1) (q0 := 11) rfl rfl, fun U hU hW => ⟨rfl, PX.at hK hE hP hS hU hW⟩⟩ rfl rfl hl.1 rfl (lv_room (Nat.le_of_ble_eq_true rfl)) dX1_unitsOf_84 ⟨Nat.le_of_ble_eq_true rfl, Nat.le_of_ble_eq_true rfl⟩) hS (fun q _ h => (freeX hS) q h) (freeX hS) (fun r1947 u t H1 locs ht hvm hw hB hz1 hk1 hS => ?_)
    unfold BX at hB
    rw [ht] at hB
    have hP : va_P (dC, dI) classes (wX g c v F rc) H1 := hB
    generalize H1 = H at hP hS ⊢
    have rr_r1947 := i32_rng r1947
    have hP9 : va_P (dC, dI) classes (wX g c v F rc) H := hP
    exact W.iret (v := r1947) hx hb hr (fun t ht hW => ⟨⟨r1947, (), rfl, trivial, (by show va_P _ _ _ t.heap; rw [ht]; exact hP9)⟩, hS.F ht⟩) hS.2.2 dX1_unitsOf_87
  · refine lv_tableIn (off := 101) (tgt := 110) hx hb dX1_unitsOf_9 hlo1886 hhi1887 (by rw [hk]; decide) (by decide) ?_
    refine lv_aload_n hx hb dX1_unitsOf_110 rfl (lv_at hl 0 rfl) ?_
    refine va_get (D := (dC, dI)) (ci := 1) (v := .ref (g 2)) (C := RX1) (T := TX1) (N := 13) hx hb hwd inA_X1 hown hK hP 11 rfl rfl 0 (by decide) (hwd _ wk_170) (fun _ h9 => h9) rfl dX1_unitsOf_111 ?_
    refine lv_iload_n hx hb dX1_unitsOf_114 rfl (lv_at hl 1 rfl) ?_
    refine va_calli (va_runV (As := [.int p0]) (rest := []) ⟨hx, hb, hml, hown, hwd⟩ (c_X8_needOfAll l dC dI g c adK adV v F rc H.size p0 hg hI (by omega)) (cwV 1 hwd (gV wk_350 wk_347 wk_348 wk_349 wk_18) rfl rfl rfl (by decide +kernel) ⟨Nat.le_of_ble_eq_true rfl, Nat.le_of_ble_eq_true rfl⟩) ⟨PX.blind, va_recv hK hP (ci := 8) (q0 := 2) rfl rfl, fun U hU hW => ⟨rfl, PX.at hK hE hP hS hU hW⟩⟩ rfl rfl hl.1 rfl (lv_room (Nat.le_of_ble_eq_true rfl)) dX1_unitsOf_115 ⟨Nat.le_of_ble_eq_true rfl, Nat.le_of_ble_eq_true rfl⟩) hS (fun q _ h => (freeX hS) q h) (freeX hS) (fun r1948 u t H1 locs ht hvm hw hB hz1 hk1 hS => ?_)
    unfold BX at hB
    rw [ht] at hB
    have hP : va_P (dC, dI) classes (wX g c v F rc) H1 := hB
    generalize H1 = H at hP hS ⊢
    have rr_r1948 := i32_rng r1948
    refine lv_aload_n hx hb dX1_unitsOf_118 rfl (lv_at hl 0 rfl) ?_
    refine va_get (D := (dC, dI)) (ci := 1) (v := .int (v 229)) (C := RX1) (T := TX1) (N := 13) hx hb hwd inA_X1 hown hK hP 11 rfl rfl 9 (by decide) (hwd _ wk_1151) (fun _ h9 => h9) rfl dX1_unitsOf_119 ?_
    have t1949 : 0 ≤ (v 229).toInt ∧ (v 229).toInt ≤ 100 := hI.1 229 _ _ rfl
    refine lv_isub hx hb dX1_unitsOf_122 ?_
    refine lv_topi (fun z1950 e1951 => ?_)
    try (have t1952 := tsub e1951 (a := r1948.toInt) rfl (b := (v 229).toInt) rfl (by omega))
    have hP9 : va_P (dC, dI) classes (wX g c v F rc) H := hP
    exact W.iret (v := z1950) hx hb hr (fun t ht hW => ⟨⟨z1950, (), rfl, trivial, (by show va_P _ _ _ t.heap; rw [ht]; exact hP9)⟩, hS.F ht⟩) hS.2.2 dX1_unitsOf_123
  · refine lv_tableIn (off := 115) (tgt := 124) hx hb dX1_unitsOf_9 hlo1886 hhi1887 (by rw [hk]; decide) (by decide) ?_
    refine lv_iconst (v := 0) hx hb dX1_unitsOf_124 (by decide) ?_
    refine lv_iload_n hx hb dX1_unitsOf_125 rfl (lv_at hl 3 rfl) ?_
    refine lv_aload_n hx hb dX1_unitsOf_126 rfl (lv_at hl 0 rfl) ?_
    refine va_get (D := (dC, dI)) (ci := 1) (v := .ref (g 9)) (C := RX1) (T := TX1) (N := 13) hx hb hwd inA_X1 hown hK hP 11 rfl rfl 5 (by decide) (hwd _ wk_177) (fun _ h9 => h9) rfl dX1_unitsOf_127 ?_
    refine va_get (D := (dC, dI)) (ci := 0) (v := .ref (g 59)) (C := RX0) (T := TX0) (N := 9) hx hb hwd inA_X0 hown hK hP 9 rfl rfl 2 (by decide) (hwd _ wk_1170) (fun _ h9 => h9) rfl dX1_unitsOf_130 ?_
    refine lv_iload_n hx hb dX1_unitsOf_133 rfl (lv_at hl 1 rfl) ?_
    refine va_iald hx hb hK hP 59 47 rfl rfl (i := p0) (vin (a := p0.toInt) rfl (by omega)) dX1_unitsOf_134 ?_
    refine lv_topi (fun z1953 e1954 => ?_)
    refine lv_isub hx hb dX1_unitsOf_135 ?_
    refine lv_topi (fun z1955 e1956 => ?_)
    try (have t1957 := tsub e1956 (a := p2.toInt) rfl (b := z1953.toInt) rfl (by omega))
    refine va_mmax hx hb (by rw [hml]; exact hl.1.symm) hown (hwd _ wk_1171) (hwd _ wk_395) (hwd _ wk_392) (hwd _ wk_396) (Nat.le_of_ble_eq_true rfl) (Nat.le_of_ble_eq_true rfl) (Nat.le_of_ble_eq_true rfl) (Nat.le_of_ble_eq_true rfl) dX1_unitsOf_136 ?_
    refine lv_topi (fun z1958 e1959 => ?_)
    have t1960 := tmax e1959 (a := 0) (by decide) (b := z1955.toInt) rfl
    have hP9 : va_P (dC, dI) classes (wX g c v F rc) H := hP
    exact W.iret (v := z1958) hx hb hr (fun t ht hW => ⟨⟨z1958, (), rfl, trivial, (by show va_P _ _ _ t.heap; rw [ht]; exact hP9)⟩, hS.F ht⟩) hS.2.2 dX1_unitsOf_139
  · refine lv_tableIn (off := 92) (tgt := 101) hx hb dX1_unitsOf_9 hlo1886 hhi1887 (by rw [hk]; decide) (by decide) ?_
    refine lv_aload_n hx hb dX1_unitsOf_101 rfl (lv_at hl 0 rfl) ?_
    refine va_get (D := (dC, dI)) (ci := 1) (v := .ref (g 8)) (C := RX1) (T := TX1) (N := 13) hx hb hwd inA_X1 hown hK hP 11 rfl rfl 4 (by decide) (hwd _ wk_176) (fun _ h9 => h9) rfl dX1_unitsOf_102 ?_
    refine lv_iload_n hx hb dX1_unitsOf_105 rfl (lv_at hl 1 rfl) ?_
    refine va_calli (va_runV (As := [.int p0]) (rest := []) ⟨hx, hb, hml, hown, hwd⟩ (c_X6_countDue l dC dI g c adK adV v F rc H.size p0 hg hI (by omega)) (cwV 1 hwd (gV wk_1193 wk_1190 wk_1191 wk_1192 wk_42) rfl rfl rfl (by decide +kernel) ⟨Nat.le_of_ble_eq_true rfl, Nat.le_of_ble_eq_true rfl⟩) ⟨PX.blind, va_recv hK hP (ci := 6) (q0 := 8) rfl rfl, fun U hU hW => ⟨rfl, PX.at hK hE hP hS hU hW⟩⟩ rfl rfl hl.1 rfl (lv_room (Nat.le_of_ble_eq_true rfl)) dX1_unitsOf_106 ⟨Nat.le_of_ble_eq_true rfl, Nat.le_of_ble_eq_true rfl⟩) hS (fun q _ h => (freeX hS) q h) (freeX hS) (fun r1961 u t H1 locs ht hvm hw hB hz1 hk1 hS => ?_)
    unfold BX at hB
    rw [ht] at hB
    have hP : va_P (dC, dI) classes (wX g c v F rc) H1 := hB
    generalize H1 = H at hP hS ⊢
    have rr_r1961 := i32_rng r1961
    have hP9 : va_P (dC, dI) classes (wX g c v F rc) H := hP
    exact W.iret (v := r1961) hx hb hr (fun t ht hW => ⟨⟨r1961, (), rfl, trivial, (by show va_P _ _ _ t.heap; rw [ht]; exact hP9)⟩, hS.F ht⟩) hS.2.2 dX1_unitsOf_109
set_option maxHeartbeats 8000000 in
set_option maxRecDepth 100000 in
theorem c_X1_latePrice (l : Launch) (dC : Nat → ClassId) (dI : Nat → Nat → Nat) (g : Nat → Nat) (c : Nat → ClassId) (adK adV : Nat → Nat) (v : Nat → Int32) (F : Nat → Nat → Int32) (rc sz : Nat) (p0 : Int32) (p1 : Int32) (p2 : Int64) (hg : injX g) (hI : IX v F) (h0 : 0 ≤ p0.toInt ∧ p0.toInt ≤ 9) (h1 : 0 ≤ p1.toInt ∧ p1.toInt ≤ 29) : Met l yX1_latePrice (Cond.code yX1_latePrice cX1_latePrice 9 (some .int) :: wA) ({ frames := 3, cells := 0, slots := 0, locals := 120 }) (va_Pc [.ref (g 11), .int p0, .int p1, .long p2] (PX dC dI g c adK adV v F rc sz)) (va_Qi (fun (r : Int32) (u : Unit) => True) (fun (_ : Unit) => BX dC dI g c (v, F, rc)) (AX g sz)) 0 0 (AX g sz) := by
  refine Met.ofW (cc := cX1_latePrice) (maxL := 9) (ret := (some .int)) (by decide) rfl ?_
  intro p e s m args below meth c0 s₁ B hml hv
  obtain ⟨rfl, hsz, hP, hK, hE⟩ := hv
  have hx := B.exec
  have hb := B.bytes
  have hr := B.returns
  have hts := atoms_spec (ws := Cond.code yX1_latePrice cX1_latePrice 9 (some .int) :: wA) B.pre
  have hwd : ∀ w ∈ wA, w.before _ s = true := fun w h => hts w (List.mem_cons_of_mem _ h)
  have hown : s.vm.findClass RX1 = some m.cls := findClass_of_methodNamed B.named
  have hlocks := B.notSynchronized
  subst hsz
  have hl := lv_entry ([.ref (g 11), .int p0, .int p1, .long p2]) (n := 9) (Nat.le_of_ble_eq_true rfl)
  rw [lg_entry_eq]
  generalize (lg_sl ([.ref (g 11), .int p0, .int p1, .long p2]) ++ List.replicate (9 - (lg_sl ([.ref (g 11), .int p0, .int p1, .long p2])).length) Slot.unset).toArray = ls at hl ⊢
  have hl : lv_has ls 9 [(0, .ref (g 11)), (1, .int p0), (2, .int p1), (3, .long p2)] := hl
  obtain ⟨H, eH⟩ : ∃ z, z = s.heap := ⟨_, rfl⟩
  have hP : va_P (dC, dI) classes (wX g c v F rc) H := by rw [eH]; exact hP
  have hS : va_S (AX g s.heap.size) s.heap H [] := by rw [eH]; exact va_S.rf
  refine my_heap eH ?_
  have rp0 := i32_rng p0
  have rp1 := i32_rng p1
  refine lv_aload_n hx hb dX1_latePrice_0 rfl (lv_at hl 0 rfl) ?_
  refine va_get (D := (dC, dI)) (ci := 1) (v := .ref (g 9)) (C := RX1) (T := TX1) (N := 13) hx hb hwd inA_X1 hown hK hP 11 rfl rfl 5 (by decide) (hwd _ wk_177) (fun _ h9 => h9) rfl dX1_latePrice_1 ?_
  refine va_get (D := (dC, dI)) (ci := 0) (v := .ref (g 60)) (C := RX0) (T := TX0) (N := 9) hx hb hwd inA_X0 hown hK hP 9 rfl rfl 3 (by decide) (hwd _ wk_1236) (fun _ h9 => h9) rfl dX1_latePrice_4 ?_
  refine lv_iload_n hx hb dX1_latePrice_7 rfl (lv_at hl 1 rfl) ?_
  refine va_iald hx hb hK hP 60 48 rfl rfl (i := p0) (vin (a := p0.toInt) rfl (by omega)) dX1_latePrice_8 ?_
  refine lv_topi (fun z1962 e1963 => ?_)
  refine lv_i2l hx hb dX1_latePrice_9 rfl ?_
  refine lv_topl (fun z1964 e1965 => ?_)
  refine lv_lstore (lv' := [(5, .long z1964), (0, .ref (g 11)), (1, .int p0), (2, .int p1), (3, .long p2)]) hx hb dX1_latePrice_10 hl (by decide) rfl (fun ls hl => ?_)
  refine lv_lload_n hx hb dX1_latePrice_12 rfl (lv_at hl 4 rfl) ?_
  refine lv_aload_n hx hb dX1_latePrice_13 rfl (lv_at hl 1 rfl) ?_
  refine va_get (D := (dC, dI)) (ci := 1) (v := .ref (g 9)) (C := RX1) (T := TX1) (N := 13) hx hb hwd inA_X1 hown hK hP 11 rfl rfl 5 (by decide) (hwd _ wk_177) (fun _ h9 => h9) rfl dX1_latePrice_14 ?_
  refine lv_iload_n hx hb dX1_latePrice_17 rfl (lv_at hl 2 rfl) ?_
  refine lv_iload_n hx hb dX1_latePrice_18 rfl (lv_at hl 3 rfl) ?_
  refine lv_iconst (v := 1) hx hb dX1_latePrice_19 (by decide) ?_
  refine va_calli (va_runV (As := [.int p0, .int p1, .int 1]) (rest := [.long p2]) ⟨hx, hb, hml, hown, hwd⟩ (c_X0_numberOf l dC dI g c adK adV v F rc H.size p0 p1 1 hg hI (by omega) (by omega) (by have : (1 : Int32).toInt = 1 := (by decide); omega)) (cwV 3 hwd (gV wk_1183 wk_1180 wk_1181 wk_1182 wk_46) rfl rfl rfl (by decide +kernel) ⟨Nat.le_of_ble_eq_true rfl, Nat.le_of_ble_eq_true rfl⟩) ⟨PX.blind, va_recv hK hP (ci := 0) (q0 := 9) rfl rfl, fun U hU hW => ⟨rfl, PX.at hK hE hP hS hU hW⟩⟩ rfl rfl hl.1 rfl (lv_room (Nat.le_of_ble_eq_true rfl)) dX1_latePrice_20 ⟨Nat.le_of_ble_eq_true rfl, Nat.le_of_ble_eq_true rfl⟩) hS (fun q _ h => (freeX hS) q h) (freeX hS) (fun r1966 u t H1 locs ht hvm hw hB hz1 hk1 hS => ?_)
  unfold BX at hB
  rw [ht] at hB
  have hP : va_P (dC, dI) classes (wX g c v F rc) H1 := hB
  generalize H1 = H at hP hS ⊢
  have rr_r1966 := i32_rng r1966
  refine lv_i2l hx hb dX1_latePrice_23 rfl ?_
  refine lv_topl (fun z1967 e1968 => ?_)
  refine va_mmin_long hx hb (by rw [hml]; exact hl.1.symm) hown (hwd _ wk_1237) (hwd _ wk_471) (hwd _ wk_392) (hwd _ wk_472) (Nat.le_of_ble_eq_true rfl) (Nat.le_of_ble_eq_true rfl) (Nat.le_of_ble_eq_true rfl) (Nat.le_of_ble_eq_true rfl) dX1_latePrice_24 ?_
  refine lv_topl (fun z1969 e1970 => ?_)
  refine lv_lstore (lv' := [(7, .long z1969), (5, .long z1964), (0, .ref (g 11)), (1, .int p0), (2, .int p1), (3, .long p2)]) hx hb dX1_latePrice_27 hl (by decide) rfl (fun ls hl => ?_)
  refine lv_lload hx hb dX1_latePrice_29 (lv_at hl 0 rfl) ?_
  refine lv_lload hx hb dX1_latePrice_31 (lv_at hl 1 rfl) ?_
  refine lv_lmul hx hb dX1_latePrice_33 ?_
  refine lv_topl (fun z1971 e1972 => ?_)
  refine lv_lload_n hx hb dX1_latePrice_34 rfl (lv_at hl 5 rfl) ?_
  refine lv_lload hx hb dX1_latePrice_35 (lv_at hl 0 rfl) ?_
  refine lv_lsub hx hb dX1_latePrice_37 ?_
  refine lv_topl (fun z1973 e1974 => ?_)
  refine lv_lload hx hb dX1_latePrice_38 (lv_at hl 1 rfl) ?_
  refine lv_aload_n hx hb dX1_latePrice_40 rfl (lv_at hl 2 rfl) ?_
  refine va_get (D := (dC, dI)) (ci := 1) (v := .ref (g 9)) (C := RX1) (T := TX1) (N := 13) hx hb hwd inA_X1 hown hK hP 11 rfl rfl 5 (by decide) (hwd _ wk_177) (fun _ h9 => h9) rfl dX1_latePrice_41 ?_
  refine lv_iload_n hx hb dX1_latePrice_44 rfl (lv_at hl 3 rfl) ?_
  refine lv_iload_n hx hb dX1_latePrice_45 rfl (lv_at hl 4 rfl) ?_
  refine lv_iconst (v := 2) hx hb dX1_latePrice_46 (by decide) ?_
  refine va_calli (va_runV (As := [.int p0, .int p1, .int 2]) (rest := [.long z1964, .long z1973, .long z1971]) ⟨hx, hb, hml, hown, hwd⟩ (c_X0_numberOf l dC dI g c adK adV v F rc H.size p0 p1 2 hg hI (by omega) (by omega) (by have : (2 : Int32).toInt = 2 := (by decide); omega)) (cwV 3 hwd (gV wk_1183 wk_1180 wk_1181 wk_1182 wk_46) rfl rfl rfl (by decide +kernel) ⟨Nat.le_of_ble_eq_true rfl, Nat.le_of_ble_eq_true rfl⟩) ⟨PX.blind, va_recv hK hP (ci := 0) (q0 := 9) rfl rfl, fun U hU hW => ⟨rfl, PX.at hK hE hP hS hU hW⟩⟩ rfl rfl hl.1 rfl (lv_room (Nat.le_of_ble_eq_true rfl)) dX1_latePrice_47 ⟨Nat.le_of_ble_eq_true rfl, Nat.le_of_ble_eq_true rfl⟩) hS (fun q _ h => (freeX hS) q h) (freeX hS) (fun r1975 u t H1 locs ht hvm hw hB hz1 hk1 hS => ?_)
  unfold BX at hB
  rw [ht] at hB
  have hP : va_P (dC, dI) classes (wX g c v F rc) H1 := hB
  generalize H1 = H at hP hS ⊢
  have rr_r1975 := i32_rng r1975
  refine lv_i2l hx hb dX1_latePrice_50 rfl ?_
  refine lv_topl (fun z1976 e1977 => ?_)
  refine lv_lmul hx hb dX1_latePrice_51 ?_
  refine lv_topl (fun z1978 e1979 => ?_)
  refine lv_ldc2 (v := 100) hx hb hown (hwd _ wk_1238) dX1_latePrice_52 ?_
  refine lv_ldiv hx hb dX1_latePrice_55 (by decide) ?_
  refine lv_topl (fun z1980 e1981 => ?_)
  refine lv_lmul hx hb dX1_latePrice_56 ?_
  refine lv_topl (fun z1982 e1983 => ?_)
  refine lv_ladd hx hb dX1_latePrice_57 ?_
  refine lv_topl (fun z1984 e1985 => ?_)
  refine va_calli (va_runSN (As := [.long z1984]) (rest := []) ⟨hx, hb, hml, hown, hwd⟩ (c_X11_held l dC dI g c adK adV v F rc H.size z1984 hg hI ) ⟨va_cnB 1 hwd (gS wk_468) rfl rfl rfl hE.2.1 (hwd _ wk_2) (by decide +kernel) ⟨Nat.le_of_ble_eq_true rfl, Nat.le_of_ble_eq_true rfl⟩, hwd _ wk_467, trivial⟩ ⟨PX.blind, fun U hU hW => ⟨rfl, PX.at hK hE hP hS hU hW⟩⟩ rfl rfl hl.1 rfl (lv_room (Nat.le_of_ble_eq_true rfl)) dX1_latePrice_58 ⟨Nat.le_of_ble_eq_true rfl, Nat.le_of_ble_eq_true rfl⟩) hS (fun q _ h => (freeX hS) q h) (freeX hS) (fun r1986 u t H1 locs ht hvm hw hB hz1 hk1 hS => ?_)
  unfold BX at hB
  rw [ht] at hB
  have hP : va_P (dC, dI) classes (wX g c v F rc) H1 := hB
  generalize H1 = H at hP hS ⊢
  have rr_r1986 := i32_rng r1986
  have hP9 : va_P (dC, dI) classes (wX g c v F rc) H := hP
  exact W.iret (v := r1986) hx hb hr (fun t ht hW => ⟨⟨r1986, (), rfl, trivial, (by show va_P _ _ _ t.heap; rw [ht]; exact hP9)⟩, hS.F ht⟩) hS.2.2 dX1_latePrice_61
set_option maxHeartbeats 8000000 in
set_option maxRecDepth 100000 in
theorem c_X1_linePrice (l : Launch) (dC : Nat → ClassId) (dI : Nat → Nat → Nat) (g : Nat → Nat) (c : Nat → ClassId) (adK adV : Nat → Nat) (v : Nat → Int32) (F : Nat → Nat → Int32) (rc sz : Nat) (p0 : Int32) (p1 : Int32) (p2 : Int32) (hg : injX g) (hI : IX v F) (h0 : 0 ≤ p0.toInt ∧ p0.toInt ≤ 9) (h1 : 0 ≤ p1.toInt ∧ p1.toInt ≤ 29) : Met l yX1_linePrice (Cond.code yX1_linePrice cX1_linePrice 6 (some .int) :: wA) ({ frames := 5, cells := 0, slots := 0, locals := 200 }) (va_Pc [.ref (g 11), .int p0, .int p1, .int p2] (PX dC dI g c adK adV v F rc sz)) (va_Qi (fun (r : Int32) (u : Unit) => True) (fun (_ : Unit) => BX dC dI g c (v, F, rc)) (AX g sz)) 0 0 (AX g sz) := by
  refine Met.ofW (cc := cX1_linePrice) (maxL := 6) (ret := (some .int)) (by decide) rfl ?_
  intro p e s m args below meth c0 s₁ B hml hv
  obtain ⟨rfl, hsz, hP, hK, hE⟩ := hv
  have hx := B.exec
  have hb := B.bytes
  have hr := B.returns
  have hts := atoms_spec (ws := Cond.code yX1_linePrice cX1_linePrice 6 (some .int) :: wA) B.pre
  have hwd : ∀ w ∈ wA, w.before _ s = true := fun w h => hts w (List.mem_cons_of_mem _ h)
  have hown : s.vm.findClass RX1 = some m.cls := findClass_of_methodNamed B.named
  have hlocks := B.notSynchronized
  subst hsz
  have hl := lv_entry ([.ref (g 11), .int p0, .int p1, .int p2]) (n := 6) (Nat.le_of_ble_eq_true rfl)
  rw [lg_entry_eq]
  generalize (lg_sl ([.ref (g 11), .int p0, .int p1, .int p2]) ++ List.replicate (6 - (lg_sl ([.ref (g 11), .int p0, .int p1, .int p2])).length) Slot.unset).toArray = ls at hl ⊢
  have hl : lv_has ls 6 [(0, .ref (g 11)), (1, .int p0), (2, .int p1), (3, .int p2)] := hl
  obtain ⟨H, eH⟩ : ∃ z, z = s.heap := ⟨_, rfl⟩
  have hP : va_P (dC, dI) classes (wX g c v F rc) H := by rw [eH]; exact hP
  have hS : va_S (AX g s.heap.size) s.heap H [] := by rw [eH]; exact va_S.rf
  refine my_heap eH ?_
  have rp0 := i32_rng p0
  have rp1 := i32_rng p1
  have rp2 := i32_rng p2
  refine lv_aload_n hx hb dX1_linePrice_0 rfl (lv_at hl 0 rfl) ?_
  refine lv_iload_n hx hb dX1_linePrice_1 rfl (lv_at hl 1 rfl) ?_
  refine lv_iload_n hx hb dX1_linePrice_2 rfl (lv_at hl 2 rfl) ?_
  refine lv_iload_n hx hb dX1_linePrice_3 rfl (lv_at hl 3 rfl) ?_
  refine va_calli (va_runV (As := [.int p0, .int p1, .int p2]) (rest := []) ⟨hx, hb, hml, hown, hwd⟩ (c_X1_unitsOf l dC dI g c adK adV v F rc H.size p0 p1 p2 hg hI (by omega) (by omega)) (cwV 3 hwd (gV wk_1169 wk_1231 wk_1167 wk_1168 wk_54) rfl rfl rfl (by decide +kernel) ⟨Nat.le_of_ble_eq_true rfl, Nat.le_of_ble_eq_true rfl⟩) ⟨PX.blind, va_recv hK hP (ci := 1) (q0 := 11) rfl rfl, fun U hU hW => ⟨rfl, PX.at hK hE hP hS hU hW⟩⟩ rfl rfl hl.1 rfl (lv_room (Nat.le_of_ble_eq_true rfl)) dX1_linePrice_4 ⟨Nat.le_of_ble_eq_true rfl, Nat.le_of_ble_eq_true rfl⟩) hS (fun q _ h => (freeX hS) q h) (freeX hS) (fun r1987 u t H1 locs ht hvm hw hB hz1 hk1 hS => ?_)
  unfold BX at hB
  rw [ht] at hB
  have hP : va_P (dC, dI) classes (wX g c v F rc) H1 := hB
  generalize H1 = H at hP hS ⊢
  have rr_r1987 := i32_rng r1987
  refine lv_i2l hx hb dX1_linePrice_7 rfl ?_
  refine lv_topl (fun z1988 e1989 => ?_)
  refine lv_lstore (lv' := [(4, .long z1988), (0, .ref (g 11)), (1, .int p0), (2, .int p1), (3, .int p2)]) hx hb dX1_linePrice_8 hl (by decide) rfl (fun ls hl => ?_)
  refine lv_aload_n hx hb dX1_linePrice_10 rfl (lv_at hl 1 rfl) ?_
  refine va_get (D := (dC, dI)) (ci := 1) (v := .ref (g 9)) (C := RX1) (T := TX1) (N := 13) hx hb hwd inA_X1 hown hK hP 11 rfl rfl 5 (by decide) (hwd _ wk_177) (fun _ h9 => h9) rfl dX1_linePrice_11 ?_
  refine lv_iload_n hx hb dX1_linePrice_14 rfl (lv_at hl 2 rfl) ?_
  refine lv_iload_n hx hb dX1_linePrice_15 rfl (lv_at hl 3 rfl) ?_
  refine va_calli (va_runV (As := [.int p0, .int p1]) (rest := []) ⟨hx, hb, hml, hown, hwd⟩ (c_X0_letterOf l dC dI g c adK adV v F rc H.size p0 p1 hg hI (by omega) (by omega)) (cwV 2 hwd (gV wk_1175 wk_1172 wk_1173 wk_1174 wk_46) rfl rfl rfl (by decide +kernel) ⟨Nat.le_of_ble_eq_true rfl, Nat.le_of_ble_eq_true rfl⟩) ⟨PX.blind, va_recv hK hP (ci := 0) (q0 := 9) rfl rfl, fun U hU hW => ⟨rfl, PX.at hK hE hP hS hU hW⟩⟩ rfl rfl hl.1 rfl (lv_room (Nat.le_of_ble_eq_true rfl)) dX1_linePrice_16 ⟨Nat.le_of_ble_eq_true rfl, Nat.le_of_ble_eq_true rfl⟩) hS (fun q _ h => (freeX hS) q h) (freeX hS) (fun r1990 u t H1 locs ht hvm hw hB hz1 hk1 hS => ?_)
  unfold BX at hB
  rw [ht] at hB
  have hP : va_P (dC, dI) classes (wX g c v F rc) H1 := hB
  generalize H1 = H at hP hS ⊢
  have rr_r1990 := i32_rng r1990
  by_cases hk1991 : r1990.toInt = 100
  · refine lv_lookup (off := 41) (tgt := 60) hx hb dX1_linePrice_19 (by decide) (by rw [hk1991]; decide) (by decide) ?_
    refine lv_lload hx hb dX1_linePrice_60 (lv_at hl 0 rfl) ?_
    refine lv_aload_n hx hb dX1_linePrice_62 rfl (lv_at hl 1 rfl) ?_
    refine va_get (D := (dC, dI)) (ci := 1) (v := .ref (g 9)) (C := RX1) (T := TX1) (N := 13) hx hb hwd inA_X1 hown hK hP 11 rfl rfl 5 (by decide) (hwd _ wk_177) (fun _ h9 => h9) rfl dX1_linePrice_63 ?_
    refine lv_iload_n hx hb dX1_linePrice_66 rfl (lv_at hl 2 rfl) ?_
    refine lv_iload_n hx hb dX1_linePrice_67 rfl (lv_at hl 3 rfl) ?_
    refine lv_iconst (v := 3) hx hb dX1_linePrice_68 (by decide) ?_
    refine va_calli (va_runV (As := [.int p0, .int p1, .int 3]) (rest := [.long z1988]) ⟨hx, hb, hml, hown, hwd⟩ (c_X0_numberOf l dC dI g c adK adV v F rc H.size p0 p1 3 hg hI (by omega) (by omega) (by have : (3 : Int32).toInt = 3 := (by decide); omega)) (cwV 3 hwd (gV wk_1183 wk_1180 wk_1181 wk_1182 wk_46) rfl rfl rfl (by decide +kernel) ⟨Nat.le_of_ble_eq_true rfl, Nat.le_of_ble_eq_true rfl⟩) ⟨PX.blind, va_recv hK hP (ci := 0) (q0 := 9) rfl rfl, fun U hU hW => ⟨rfl, PX.at hK hE hP hS hU hW⟩⟩ rfl rfl hl.1 rfl (lv_room (Nat.le_of_ble_eq_true rfl)) dX1_linePrice_69 ⟨Nat.le_of_ble_eq_true rfl, Nat.le_of_ble_eq_true rfl⟩) hS (fun q _ h => (freeX hS) q h) (freeX hS) (fun r1992 u t H1 locs ht hvm hw hB hz1 hk1 hS => ?_)
    unfold BX at hB
    rw [ht] at hB
    have hP : va_P (dC, dI) classes (wX g c v F rc) H1 := hB
    generalize H1 = H at hP hS ⊢
    have rr_r1992 := i32_rng r1992
    refine lv_i2l hx hb dX1_linePrice_72 rfl ?_
    refine lv_topl (fun z1993 e1994 => ?_)
    refine lv_lmul hx hb dX1_linePrice_73 ?_
    refine lv_topl (fun z1995 e1996 => ?_)
    refine va_calli (va_runSN (As := [.long z1995]) (rest := []) ⟨hx, hb, hml, hown, hwd⟩ (c_X11_held l dC dI g c adK adV v F rc H.size z1995 hg hI ) ⟨va_cnB 1 hwd (gS wk_468) rfl rfl rfl hE.2.1 (hwd _ wk_2) (by decide +kernel) ⟨Nat.le_of_ble_eq_true rfl, Nat.le_of_ble_eq_true rfl⟩, hwd _ wk_467, trivial⟩ ⟨PX.blind, fun U hU hW => ⟨rfl, PX.at hK hE hP hS hU hW⟩⟩ rfl rfl hl.1 rfl (lv_room (Nat.le_of_ble_eq_true rfl)) dX1_linePrice_74 ⟨Nat.le_of_ble_eq_true rfl, Nat.le_of_ble_eq_true rfl⟩) hS (fun q _ h => (freeX hS) q h) (freeX hS) (fun r1997 u t H1 locs ht hvm hw hB hz1 hk1 hS => ?_)
    unfold BX at hB
    rw [ht] at hB
    have hP : va_P (dC, dI) classes (wX g c v F rc) H1 := hB
    generalize H1 = H at hP hS ⊢
    have rr_r1997 := i32_rng r1997
    have hP9 : va_P (dC, dI) classes (wX g c v F rc) H := hP
    exact W.iret (v := r1997) hx hb hr (fun t ht hW => ⟨⟨r1997, (), rfl, trivial, (by show va_P _ _ _ t.heap; rw [ht]; exact hP9)⟩, hS.F ht⟩) hS.2.2 dX1_linePrice_77
  by_cases hk1998 : r1990.toInt = 104
  · refine lv_lookup (off := 41) (tgt := 60) hx hb dX1_linePrice_19 (by decide) (by rw [hk1998]; decide) (by decide) ?_
    refine lv_lload hx hb dX1_linePrice_60 (lv_at hl 0 rfl) ?_
    refine lv_aload_n hx hb dX1_linePrice_62 rfl (lv_at hl 1 rfl) ?_
    refine va_get (D := (dC, dI)) (ci := 1) (v := .ref (g 9)) (C := RX1) (T := TX1) (N := 13) hx hb hwd inA_X1 hown hK hP 11 rfl rfl 5 (by decide) (hwd _ wk_177) (fun _ h9 => h9) rfl dX1_linePrice_63 ?_
    refine lv_iload_n hx hb dX1_linePrice_66 rfl (lv_at hl 2 rfl) ?_
    refine lv_iload_n hx hb dX1_linePrice_67 rfl (lv_at hl 3 rfl) ?_
    refine lv_iconst (v := 3) hx hb dX1_linePrice_68 (by decide) ?_
    refine va_calli (va_runV (As := [.int p0, .int p1, .int 3]) (rest := [.long z1988]) ⟨hx, hb, hml, hown, hwd⟩ (c_X0_numberOf l dC dI g c adK adV v F rc H.size p0 p1 3 hg hI (by omega) (by omega) (by have : (3 : Int32).toInt = 3 := (by decide); omega)) (cwV 3 hwd (gV wk_1183 wk_1180 wk_1181 wk_1182 wk_46) rfl rfl rfl (by decide +kernel) ⟨Nat.le_of_ble_eq_true rfl, Nat.le_of_ble_eq_true rfl⟩) ⟨PX.blind, va_recv hK hP (ci := 0) (q0 := 9) rfl rfl, fun U hU hW => ⟨rfl, PX.at hK hE hP hS hU hW⟩⟩ rfl rfl hl.1 rfl (lv_room (Nat.le_of_ble_eq_true rfl)) dX1_linePrice_69 ⟨Nat.le_of_ble_eq_true rfl, Nat.le_of_ble_eq_true rfl⟩) hS (fun q _ h => (freeX hS) q h) (freeX hS) (fun r1999 u t H1 locs ht hvm hw hB hz1 hk1 hS => ?_)
    unfold BX at hB
    rw [ht] at hB
    have hP : va_P (dC, dI) classes (wX g c v F rc) H1 := hB
    generalize H1 = H at hP hS ⊢
    have rr_r1999 := i32_rng r1999
    refine lv_i2l hx hb dX1_linePrice_72 rfl ?_
    refine lv_topl (fun z2000 e2001 => ?_)
    refine lv_lmul hx hb dX1_linePrice_73 ?_
    refine lv_topl (fun z2002 e2003 => ?_)
    refine va_calli (va_runSN (As := [.long z2002]) (rest := []) ⟨hx, hb, hml, hown, hwd⟩ (c_X11_held l dC dI g c adK adV v F rc H.size z2002 hg hI ) ⟨va_cnB 1 hwd (gS wk_468) rfl rfl rfl hE.2.1 (hwd _ wk_2) (by decide +kernel) ⟨Nat.le_of_ble_eq_true rfl, Nat.le_of_ble_eq_true rfl⟩, hwd _ wk_467, trivial⟩ ⟨PX.blind, fun U hU hW => ⟨rfl, PX.at hK hE hP hS hU hW⟩⟩ rfl rfl hl.1 rfl (lv_room (Nat.le_of_ble_eq_true rfl)) dX1_linePrice_74 ⟨Nat.le_of_ble_eq_true rfl, Nat.le_of_ble_eq_true rfl⟩) hS (fun q _ h => (freeX hS) q h) (freeX hS) (fun r2004 u t H1 locs ht hvm hw hB hz1 hk1 hS => ?_)
    unfold BX at hB
    rw [ht] at hB
    have hP : va_P (dC, dI) classes (wX g c v F rc) H1 := hB
    generalize H1 = H at hP hS ⊢
    have rr_r2004 := i32_rng r2004
    have hP9 : va_P (dC, dI) classes (wX g c v F rc) H := hP
    exact W.iret (v := r2004) hx hb hr (fun t ht hW => ⟨⟨r2004, (), rfl, trivial, (by show va_P _ _ _ t.heap; rw [ht]; exact hP9)⟩, hS.F ht⟩) hS.2.2 dX1_linePrice_77
  by_cases hk2005 : r1990.toInt = 108
  · refine lv_lookup (off := 41) (tgt := 60) hx hb dX1_linePrice_19 (by decide) (by rw [hk2005]; decide) (by decide) ?_
    refine lv_lload hx hb dX1_linePrice_60 (lv_at hl 0 rfl) ?_
    refine lv_aload_n hx hb dX1_linePrice_62 rfl (lv_at hl 1 rfl) ?_
    refine va_get (D := (dC, dI)) (ci := 1) (v := .ref (g 9)) (C := RX1) (T := TX1) (N := 13) hx hb hwd inA_X1 hown hK hP 11 rfl rfl 5 (by decide) (hwd _ wk_177) (fun _ h9 => h9) rfl dX1_linePrice_63 ?_
    refine lv_iload_n hx hb dX1_linePrice_66 rfl (lv_at hl 2 rfl) ?_
    refine lv_iload_n hx hb dX1_linePrice_67 rfl (lv_at hl 3 rfl) ?_
    refine lv_iconst (v := 3) hx hb dX1_linePrice_68 (by decide) ?_
    refine va_calli (va_runV (As := [.int p0, .int p1, .int 3]) (rest := [.long z1988]) ⟨hx, hb, hml, hown, hwd⟩ (c_X0_numberOf l dC dI g c adK adV v F rc H.size p0 p1 3 hg hI (by omega) (by omega) (by have : (3 : Int32).toInt = 3 := (by decide); omega)) (cwV 3 hwd (gV wk_1183 wk_1180 wk_1181 wk_1182 wk_46) rfl rfl rfl (by decide +kernel) ⟨Nat.le_of_ble_eq_true rfl, Nat.le_of_ble_eq_true rfl⟩) ⟨PX.blind, va_recv hK hP (ci := 0) (q0 := 9) rfl rfl, fun U hU hW => ⟨rfl, PX.at hK hE hP hS hU hW⟩⟩ rfl rfl hl.1 rfl (lv_room (Nat.le_of_ble_eq_true rfl)) dX1_linePrice_69 ⟨Nat.le_of_ble_eq_true rfl, Nat.le_of_ble_eq_true rfl⟩) hS (fun q _ h => (freeX hS) q h) (freeX hS) (fun r2006 u t H1 locs ht hvm hw hB hz1 hk1 hS => ?_)
    unfold BX at hB
    rw [ht] at hB
    have hP : va_P (dC, dI) classes (wX g c v F rc) H1 := hB
    generalize H1 = H at hP hS ⊢
    have rr_r2006 := i32_rng r2006
    refine lv_i2l hx hb dX1_linePrice_72 rfl ?_
    refine lv_topl (fun z2007 e2008 => ?_)
    refine lv_lmul hx hb dX1_linePrice_73 ?_
    refine lv_topl (fun z2009 e2010 => ?_)
    refine va_calli (va_runSN (As := [.long z2009]) (rest := []) ⟨hx, hb, hml, hown, hwd⟩ (c_X11_held l dC dI g c adK adV v F rc H.size z2009 hg hI ) ⟨va_cnB 1 hwd (gS wk_468) rfl rfl rfl hE.2.1 (hwd _ wk_2) (by decide +kernel) ⟨Nat.le_of_ble_eq_true rfl, Nat.le_of_ble_eq_true rfl⟩, hwd _ wk_467, trivial⟩ ⟨PX.blind, fun U hU hW => ⟨rfl, PX.at hK hE hP hS hU hW⟩⟩ rfl rfl hl.1 rfl (lv_room (Nat.le_of_ble_eq_true rfl)) dX1_linePrice_74 ⟨Nat.le_of_ble_eq_true rfl, Nat.le_of_ble_eq_true rfl⟩) hS (fun q _ h => (freeX hS) q h) (freeX hS) (fun r2011 u t H1 locs ht hvm hw hB hz1 hk1 hS => ?_)
    unfold BX at hB
    rw [ht] at hB
    have hP : va_P (dC, dI) classes (wX g c v F rc) H1 := hB
    generalize H1 = H at hP hS ⊢
    have rr_r2011 := i32_rng r2011
    have hP9 : va_P (dC, dI) classes (wX g c v F rc) H := hP
    exact W.iret (v := r2011) hx hb hr (fun t ht hW => ⟨⟨r2011, (), rfl, trivial, (by show va_P _ _ _ t.heap; rw [ht]; exact hP9)⟩, hS.F ht⟩) hS.2.2 dX1_linePrice_77
  by_cases hk2012 : r1990.toInt = 116
  · refine lv_lookup (off := 59) (tgt := 78) hx hb dX1_linePrice_19 (by decide) (by rw [hk2012]; decide) (by decide) ?_
    refine lv_aload_n hx hb dX1_linePrice_78 rfl (lv_at hl 1 rfl) ?_
    refine lv_iload_n hx hb dX1_linePrice_79 rfl (lv_at hl 2 rfl) ?_
    refine lv_iload_n hx hb dX1_linePrice_80 rfl (lv_at hl 3 rfl) ?_
    refine lv_lload hx hb dX1_linePrice_81 (lv_at hl 0 rfl) ?_
    refine va_calli (va_runV (As := [.int p0, .int p1, .long z1988]) (rest := []) ⟨hx, hb, hml, hown, hwd⟩ (c_X1_latePrice l dC dI g c adK adV v F rc H.size p0 p1 z1988 hg hI (by omega) (by omega)) (cwV 3 hwd (gV wk_1235 wk_1232 wk_1233 wk_1234 wk_54) rfl rfl rfl (by decide +kernel) ⟨Nat.le_of_ble_eq_true rfl, Nat.le_of_ble_eq_true rfl⟩) ⟨PX.blind, va_recv hK hP (ci := 1) (q0 := 11) rfl rfl, fun U hU hW => ⟨rfl, PX.at hK hE hP hS hU hW⟩⟩ rfl rfl hl.1 rfl (lv_room (Nat.le_of_ble_eq_true rfl)) dX1_linePrice_83 ⟨Nat.le_of_ble_eq_true rfl, Nat.le_of_ble_eq_true rfl⟩) hS (fun q _ h => (freeX hS) q h) (freeX hS) (fun r2013 u t H1 locs ht hvm hw hB hz1 hk1 hS => ?_)
    unfold BX at hB
    rw [ht] at hB
    have hP : va_P (dC, dI) classes (wX g c v F rc) H1 := hB
    generalize H1 = H at hP hS ⊢
    have rr_r2013 := i32_rng r2013
    have hP9 : va_P (dC, dI) classes (wX g c v F rc) H := hP
    exact W.iret (v := r2013) hx hb hr (fun t ht hW => ⟨⟨r2013, (), rfl, trivial, (by show va_P _ _ _ t.heap; rw [ht]; exact hP9)⟩, hS.F ht⟩) hS.2.2 dX1_linePrice_86
  refine lv_lookup (off := 68) (tgt := 87) hx hb dX1_linePrice_19 (by decide) (by simp [Op.lookupswitch.offset, Ne.symm hk1991, Ne.symm hk1998, Ne.symm hk2005, Ne.symm hk2012]) (by decide) ?_
  refine lv_lload hx hb dX1_linePrice_87 (lv_at hl 0 rfl) ?_
  refine lv_aload_n hx hb dX1_linePrice_89 rfl (lv_at hl 1 rfl) ?_
  refine va_get (D := (dC, dI)) (ci := 1) (v := .ref (g 9)) (C := RX1) (T := TX1) (N := 13) hx hb hwd inA_X1 hown hK hP 11 rfl rfl 5 (by decide) (hwd _ wk_177) (fun _ h9 => h9) rfl dX1_linePrice_90 ?_
  refine lv_iload_n hx hb dX1_linePrice_93 rfl (lv_at hl 2 rfl) ?_
  refine lv_iload_n hx hb dX1_linePrice_94 rfl (lv_at hl 3 rfl) ?_
  refine lv_iconst (v := 1) hx hb dX1_linePrice_95 (by decide) ?_
  refine va_calli (va_runV (As := [.int p0, .int p1, .int 1]) (rest := [.long z1988]) ⟨hx, hb, hml, hown, hwd⟩ (c_X0_numberOf l dC dI g c adK adV v F rc H.size p0 p1 1 hg hI (by omega) (by omega) (by have : (1 : Int32).toInt = 1 := (by decide); omega)) (cwV 3 hwd (gV wk_1183 wk_1180 wk_1181 wk_1182 wk_46) rfl rfl rfl (by decide +kernel) ⟨Nat.le_of_ble_eq_true rfl, Nat.le_of_ble_eq_true rfl⟩) ⟨PX.blind, va_recv hK hP (ci := 0) (q0 := 9) rfl rfl, fun U hU hW => ⟨rfl, PX.at hK hE hP hS hU hW⟩⟩ rfl rfl hl.1 rfl (lv_room (Nat.le_of_ble_eq_true rfl)) dX1_linePrice_96 ⟨Nat.le_of_ble_eq_true rfl, Nat.le_of_ble_eq_true rfl⟩) hS (fun q _ h => (freeX hS) q h) (freeX hS) (fun r2014 u t H1 locs ht hvm hw hB hz1 hk1 hS => ?_)
  unfold BX at hB
  rw [ht] at hB
  have hP : va_P (dC, dI) classes (wX g c v F rc) H1 := hB
  generalize H1 = H at hP hS ⊢
  have rr_r2014 := i32_rng r2014
  refine lv_i2l hx hb dX1_linePrice_99 rfl ?_
  refine lv_topl (fun z2015 e2016 => ?_)
  refine lv_lmul hx hb dX1_linePrice_100 ?_
  refine lv_topl (fun z2017 e2018 => ?_)
  refine va_calli (va_runSN (As := [.long z2017]) (rest := []) ⟨hx, hb, hml, hown, hwd⟩ (c_X11_held l dC dI g c adK adV v F rc H.size z2017 hg hI ) ⟨va_cnB 1 hwd (gS wk_468) rfl rfl rfl hE.2.1 (hwd _ wk_2) (by decide +kernel) ⟨Nat.le_of_ble_eq_true rfl, Nat.le_of_ble_eq_true rfl⟩, hwd _ wk_467, trivial⟩ ⟨PX.blind, fun U hU hW => ⟨rfl, PX.at hK hE hP hS hU hW⟩⟩ rfl rfl hl.1 rfl (lv_room (Nat.le_of_ble_eq_true rfl)) dX1_linePrice_101 ⟨Nat.le_of_ble_eq_true rfl, Nat.le_of_ble_eq_true rfl⟩) hS (fun q _ h => (freeX hS) q h) (freeX hS) (fun r2019 u t H1 locs ht hvm hw hB hz1 hk1 hS => ?_)
  unfold BX at hB
  rw [ht] at hB
  have hP : va_P (dC, dI) classes (wX g c v F rc) H1 := hB
  generalize H1 = H at hP hS ⊢
  have rr_r2019 := i32_rng r2019
  have hP9 : va_P (dC, dI) classes (wX g c v F rc) H := hP
  exact W.iret (v := r2019) hx hb hr (fun t ht hW => ⟨⟨r2019, (), rfl, trivial, (by show va_P _ _ _ t.heap; rw [ht]; exact hP9)⟩, hS.F ht⟩) hS.2.2 dX1_linePrice_104
set_option maxHeartbeats 8000000 in
set_option maxRecDepth 100000 in
theorem c_X1_priceOf (l : Launch) (dC : Nat → ClassId) (dI : Nat → Nat → Nat) (g : Nat → Nat) (c : Nat → ClassId) (adK adV : Nat → Nat) (v : Nat → Int32) (F : Nat → Nat → Int32) (rc sz : Nat) (p0 : Int32) (p1 : Int32) (hg : injX g) (hI : IX v F) (h0 : 0 ≤ p0.toInt ∧ p0.toInt ≤ 9) : Met l yX1_priceOf (Cond.code yX1_priceOf cX1_priceOf 6 (some .int) :: wA) ({ frames := 6, cells := 0, slots := 0, locals := 240 }) (va_Pc [.ref (g 11), .int p0, .int p1] (PX dC dI g c adK adV v F rc sz)) (va_Qi (fun (r : Int32) (u : Unit) => True) (fun (_ : Unit) => BX dC dI g c (v, F, rc)) (AX g sz)) 0 0 (AX g sz) := by
  refine Met.ofW (cc := cX1_priceOf) (maxL := 6) (ret := (some .int)) (by decide) rfl ?_
  intro p e s m args below meth c0 s₁ B hml hv
  obtain ⟨rfl, hsz, hP, hK, hE⟩ := hv
  have hx := B.exec
  have hb := B.bytes
  have hr := B.returns
  have hts := atoms_spec (ws := Cond.code yX1_priceOf cX1_priceOf 6 (some .int) :: wA) B.pre
  have hwd : ∀ w ∈ wA, w.before _ s = true := fun w h => hts w (List.mem_cons_of_mem _ h)
  have hown : s.vm.findClass RX1 = some m.cls := findClass_of_methodNamed B.named
  have hlocks := B.notSynchronized
  subst hsz
  have hl := lv_entry ([.ref (g 11), .int p0, .int p1]) (n := 6) (Nat.le_of_ble_eq_true rfl)
  rw [lg_entry_eq]
  generalize (lg_sl ([.ref (g 11), .int p0, .int p1]) ++ List.replicate (6 - (lg_sl ([.ref (g 11), .int p0, .int p1])).length) Slot.unset).toArray = ls at hl ⊢
  have hl : lv_has ls 6 [(0, .ref (g 11)), (1, .int p0), (2, .int p1)] := hl
  obtain ⟨H, eH⟩ : ∃ z, z = s.heap := ⟨_, rfl⟩
  have hP : va_P (dC, dI) classes (wX g c v F rc) H := by rw [eH]; exact hP
  have hS : va_S (AX g s.heap.size) s.heap H [] := by rw [eH]; exact va_S.rf
  refine my_heap eH ?_
  have rp0 := i32_rng p0
  have rp1 := i32_rng p1
  refine lv_lconst (v := 0) hx hb dX1_priceOf_0 (by decide) ?_
  refine lv_lstore_n (lv' := [(3, .long 0), (0, .ref (g 11)), (1, .int p0), (2, .int p1)]) hx hb dX1_priceOf_1 rfl hl (by decide) rfl (fun ls hl => ?_)
  refine lv_iconst (v := 0) hx hb dX1_priceOf_2 (by decide) ?_
  refine lv_istore (lv' := [(5, .int 0), (3, .long 0), (0, .ref (g 11)), (1, .int p0), (2, .int p1)]) hx hb dX1_priceOf_3 hl (by decide) rfl (fun ls hl => ?_)
  have lp2020 : ∀ (n : Nat) (x5_lp2020 : Int32) (x3_lp2020 : Int64) (H : Heap) (locs : List Loc) (ls : Array Slot), (0 ≤ x5_lp2020.toInt) → (2147483648 - x5_lp2020.toInt ≤ (n : Int)) → va_P (dC, dI) classes (wX g c v F rc) H → va_S (AX g s.heap.size) s.heap H locs → lv_has ls 6 [(5, .int x5_lp2020), (3, .long x3_lp2020), (0, .ref (g 11)), (1, .int p0), (2, .int p1)] → W p l e (headSpec (Cond.code yX1_priceOf cX1_priceOf 6 (some .int) :: wA) ({ frames := 6, cells := 0, slots := 0, locals := 240 })).room s m ([.ref (g 11), .int p0, .int p1] : List Value).toArray below meth c0 H locs 0 0 (MQ below (va_Qi (fun (r : Int32) (u : Unit) => True) (fun (_ : Unit) => BX dC dI g c (v, F, rc)) (AX g s.heap.size)) ([.ref (g 11), .int p0, .int p1] : List Value).toArray s 0 0 (AX g s.heap.size)) (F0 m 5 ls []) := by
    intro n
    induction n with
    | zero =>
      intro x5_lp2020 x3_lp2020 H locs ls t2021 hm hP hS hl
      exfalso
      have := i32_rng x5_lp2020
      omega
    | succ n ih_lp2020 =>
      intro x5_lp2020 x3_lp2020 H locs ls t2021 hm hP hS hl
      have rx5_lp2020 := i32_rng x5_lp2020
      refine lv_iload hx hb dX1_priceOf_5 (lv_at hl 0 rfl) ?_
      refine lv_aload_n hx hb dX1_priceOf_7 rfl (lv_at hl 2 rfl) ?_
      refine va_get (D := (dC, dI)) (ci := 1) (v := .ref (g 9)) (C := RX1) (T := TX1) (N := 13) hx hb hwd inA_X1 hown hK hP 11 rfl rfl 5 (by decide) (hwd _ wk_177) (fun _ h9 => h9) rfl dX1_priceOf_8 ?_
      refine va_get (D := (dC, dI)) (ci := 0) (v := .ref (g 58)) (C := RX0) (T := TX0) (N := 9) hx hb hwd inA_X0 hown hK hP 9 rfl rfl 1 (by decide) (hwd _ wk_1226) (fun _ h9 => h9) rfl dX1_priceOf_11 ?_
      refine lv_iload_n hx hb dX1_priceOf_14 rfl (lv_at hl 3 rfl) ?_
      refine va_iald hx hb hK hP 58 46 rfl rfl (i := p0) (vin (a := p0.toInt) rfl (by omega)) dX1_priceOf_15 ?_
      refine lv_topi (fun z2022 e2023 => ?_)
      have t2024 : 0 ≤ z2022.toInt ∧ z2022.toInt ≤ 30 := by rw [e2023]; exact hI.2 58 _ _ rfl _
      refine lv_icmp_ge (tgt := 37) hx hb dX1_priceOf_16 (by decide) (fun c2025 => ?_) (fun c2025 => ?_)
      · skip
        have t2026 := cv_le (a := z2022.toInt) rfl (b := x5_lp2020.toInt) rfl c2025
        refine lv_lload_n hx hb dX1_priceOf_37 rfl (lv_at hl 1 rfl) ?_
        refine va_calli (va_runSN (As := [.long x3_lp2020]) (rest := []) ⟨hx, hb, hml, hown, hwd⟩ (c_X11_held l dC dI g c adK adV v F rc H.size x3_lp2020 hg hI ) ⟨va_cnB 1 hwd (gS wk_468) rfl rfl rfl hE.2.1 (hwd _ wk_2) (by decide +kernel) ⟨Nat.le_of_ble_eq_true rfl, Nat.le_of_ble_eq_true rfl⟩, hwd _ wk_467, trivial⟩ ⟨PX.blind, fun U hU hW => ⟨rfl, PX.at hK hE hP hS hU hW⟩⟩ rfl rfl hl.1 rfl (lv_room (Nat.le_of_ble_eq_true rfl)) dX1_priceOf_38 ⟨Nat.le_of_ble_eq_true rfl, Nat.le_of_ble_eq_true rfl⟩) hS (fun q _ h => (freeX hS) q h) (freeX hS) (fun r2027 u t H1 locs ht hvm hw hB hz1 hk1 hS => ?_)
        unfold BX at hB
        rw [ht] at hB
        have hP : va_P (dC, dI) classes (wX g c v F rc) H1 := hB
        generalize H1 = H at hP hS ⊢
        have rr_r2027 := i32_rng r2027
        have hP9 : va_P (dC, dI) classes (wX g c v F rc) H := hP
        exact W.iret (v := r2027) hx hb hr (fun t ht hW => ⟨⟨r2027, (), rfl, trivial, (by show va_P _ _ _ t.heap; rw [ht]; exact hP9)⟩, hS.F ht⟩) hS.2.2 dX1_priceOf_41
      · skip
        have t2028 := cv_nle (a := z2022.toInt) rfl (b := x5_lp2020.toInt) rfl c2025
        refine lv_lload_n hx hb dX1_priceOf_19 rfl (lv_at hl 1 rfl) ?_
        refine lv_aload_n hx hb dX1_priceOf_20 rfl (lv_at hl 2 rfl) ?_
        refine lv_iload_n hx hb dX1_priceOf_21 rfl (lv_at hl 3 rfl) ?_
        refine lv_iload hx hb dX1_priceOf_22 (lv_at hl 0 rfl) ?_
        refine lv_iload_n hx hb dX1_priceOf_24 rfl (lv_at hl 4 rfl) ?_
        refine va_calli (va_runV (As := [.int p0, .int x5_lp2020, .int p1]) (rest := [.long x3_lp2020]) ⟨hx, hb, hml, hown, hwd⟩ (c_X1_linePrice l dC dI g c adK adV v F rc H.size p0 x5_lp2020 p1 hg hI (by omega) (by omega)) (cwV 3 hwd (gV wk_1230 wk_1227 wk_1228 wk_1229 wk_54) rfl rfl rfl (by decide +kernel) ⟨Nat.le_of_ble_eq_true rfl, Nat.le_of_ble_eq_true rfl⟩) ⟨PX.blind, va_recv hK hP (ci := 1) (q0 := 11) rfl rfl, fun U hU hW => ⟨rfl, PX.at hK hE hP hS hU hW⟩⟩ rfl rfl hl.1 rfl (lv_room (Nat.le_of_ble_eq_true rfl)) dX1_priceOf_25 ⟨Nat.le_of_ble_eq_true rfl, Nat.le_of_ble_eq_true rfl⟩) hS (fun q _ h => (freeX hS) q h) (freeX hS) (fun r2029 u t H1 locs ht hvm hw hB hz1 hk1 hS => ?_)
        unfold BX at hB
        rw [ht] at hB
        have hP : va_P (dC, dI) classes (wX g c v F rc) H1 := hB
        generalize H1 = H at hP hS ⊢
        have rr_r2029 := i32_rng r2029
        refine lv_i2l hx hb dX1_priceOf_28 rfl ?_
        refine lv_topl (fun z2030 e2031 => ?_)
        refine lv_ladd hx hb dX1_priceOf_29 ?_
        refine lv_topl (fun z2032 e2033 => ?_)
        refine lv_lstore_n (lv' := [(3, .long z2032), (5, .int x5_lp2020), (0, .ref (g 11)), (1, .int p0), (2, .int p1)]) hx hb dX1_priceOf_30 rfl hl (by decide) rfl (fun ls hl => ?_)
        obtain ⟨z2034, e2035⟩ : ∃ y : Int32, y = x5_lp2020 + 1 := ⟨_, rfl⟩
        try (have t2036 := tadd e2035 rfl (b := 1) (by decide) (by omega))
        refine lv_iinc (v := z2034) (lv' := [(5, .int z2034), (3, .long z2032), (0, .ref (g 11)), (1, .int p0), (2, .int p1)]) hx hb dX1_priceOf_31 hl (k := 1) rfl (by rw [e2035]; rfl) (by decide) rfl (fun ls hl => ?_)
        refine lv_goto (tgt := 5) hx hb dX1_priceOf_34 (by decide) ?_
        exact ih_lp2020 z2034 z2032  _ _ _ (by omega) (by omega) hP hS (lv_sub hl [0, 1, 2, 3, 4] rfl)
  obtain ⟨n9, hn9⟩ : ∃ n : Nat, 2147483648 - 0 ≤ (n : Int) := ⟨((2147483648 - 0 : Int)).toNat, by omega⟩
  exact lp2020 n9 0 0  H _ ls (by have : (0 : Int32).toInt = 0 := (by decide); omega) (by have : (0 : Int32).toInt = 0 := (by decide); omega) hP hS hl
set_option maxHeartbeats 8000000 in
set_option maxRecDepth 100000 in
theorem c_X1_fillRow (l : Launch) (dC : Nat → ClassId) (dI : Nat → Nat → Nat) (g : Nat → Nat) (c : Nat → ClassId) (adK adV : Nat → Nat) (v : Nat → Int32) (F : Nat → Nat → Int32) (rc sz : Nat) (p0 : Int32) (p1 : Int32) (p2 : Int32) (hg : injX g) (hI : IX v F) (h0 : 0 ≤ p0.toInt ∧ p0.toInt ≤ 9) : Met l yX1_fillRow (Cond.code yX1_fillRow cX1_fillRow 6 none :: wA) ({ frames := 7, cells := 0, slots := 0, locals := 280 }) (va_Pc [.ref (g 11), .int p0, .int p1, .int p2] (PX dC dI g c adK adV v F rc sz)) (va_Qv (fun (u : StX) => IX u.1 u.2.1 ∧ alX u.1 u.2.1 = alX v F ∧ u.2.2 = rc ∧ (∀ k, k ∉ ([126, 231] : List Nat) → u.1 k = v k) ∧ True) (BX dC dI g c) (AX g sz)) 0 0 (AX g sz) := by
  refine Met.ofW (cc := cX1_fillRow) (maxL := 6) (ret := none) (by decide) rfl ?_
  intro p e s m args below meth c0 s₁ B hml hv
  obtain ⟨rfl, hsz, hP, hK, hE⟩ := hv
  have hx := B.exec
  have hb := B.bytes
  have hr := B.returns
  have hts := atoms_spec (ws := Cond.code yX1_fillRow cX1_fillRow 6 none :: wA) B.pre
  have hwd : ∀ w ∈ wA, w.before _ s = true := fun w h => hts w (List.mem_cons_of_mem _ h)
  have hown : s.vm.findClass RX1 = some m.cls := findClass_of_methodNamed B.named
  have hlocks := B.notSynchronized
  subst hsz
  have hl := lv_entry ([.ref (g 11), .int p0, .int p1, .int p2]) (n := 6) (Nat.le_of_ble_eq_true rfl)
  rw [lg_entry_eq]
  generalize (lg_sl ([.ref (g 11), .int p0, .int p1, .int p2]) ++ List.replicate (6 - (lg_sl ([.ref (g 11), .int p0, .int p1, .int p2])).length) Slot.unset).toArray = ls at hl ⊢
  have hl : lv_has ls 6 [(0, .ref (g 11)), (1, .int p0), (2, .int p1), (3, .int p2)] := hl
  obtain ⟨H, eH⟩ : ∃ z, z = s.heap := ⟨_, rfl⟩
  have hP : va_P (dC, dI) classes (wX g c v F rc) H := by rw [eH]; exact hP
  have hS : va_S (AX g s.heap.size) s.heap H [] := by rw [eH]; exact va_S.rf
  refine my_heap eH ?_
  have hal : alX v F = alX v F := rfl
  have rp0 := i32_rng p0
  have rp1 := i32_rng p1
  have rp2 := i32_rng p2
  refine lv_aload_n hx hb dX1_fillRow_0 rfl (lv_at hl 0 rfl) ?_
  refine lv_iconst (v := 0) hx hb dX1_fillRow_1 (by decide) ?_
  refine va_put (D := (dC, dI)) (ci := 1) (v := .int 0) (ty := .int) (C := RX1) (T := TX1) (N := 13) (fs := fsX_11 g v rc) hx hb hwd inA_X1 tyX1 tyX1_ok nmX1 hown hK hP (DX hg) hS 11 rfl rfl 11 (by decide) (hwd _ wk_1277) (fun _ h9 => h9) rfl (by decide +kernel) rfl rfl (Nat.le_of_ble_eq_true rfl) dX1_fillRow_2 (fun H locs hP _ hS => ?_)
  have hP := va_P_eq (pX_231 g c _ _ _ _) hP
  have hI := IX.put hI 231 0 rfl (by have : (0 : Int32).toInt = 0 := (by decide); omega)
  have hal := (alX_v _ _ 231 0 (by decide) (by decide) (by decide) (by decide)).trans hal
  refine lv_iconst (v := 0) hx hb dX1_fillRow_5 (by decide) ?_
  refine lv_istore (lv' := [(4, .int 0), (0, .ref (g 11)), (1, .int p0), (2, .int p1), (3, .int p2)]) hx hb dX1_fillRow_6 hl (by decide) rfl (fun ls hl => ?_)
  have lp2037 : ∀ (n : Nat) (x4_lp2037 : Int32) (v_lp2037 : Nat → Int32) (F_lp2037 : Nat → Nat → Int32) (H : Heap) (locs : List Loc) (ls : Array Slot), (0 ≤ x4_lp2037.toInt) → (2147483648 - x4_lp2037.toInt ≤ (n : Int)) → (∀ k, k ∉ ([126, 231] : List Nat) → v_lp2037 k = (va_up v 231 0) k) → IX v_lp2037 F_lp2037 → alX v_lp2037 F_lp2037 = alX v F → va_P (dC, dI) classes (wX g c v_lp2037 F_lp2037 rc) H → va_S (AX g s.heap.size) s.heap H locs → lv_has ls 6 [(4, .int x4_lp2037), (0, .ref (g 11)), (1, .int p0), (2, .int p1), (3, .int p2)] → W p l e (headSpec (Cond.code yX1_fillRow cX1_fillRow 6 none :: wA) ({ frames := 7, cells := 0, slots := 0, locals := 280 })).room s m ([.ref (g 11), .int p0, .int p1, .int p2] : List Value).toArray below meth c0 H locs 0 0 (MQ below (va_Qv (fun (u : StX) => IX u.1 u.2.1 ∧ alX u.1 u.2.1 = alX v F ∧ u.2.2 = rc ∧ (∀ k, k ∉ ([126, 231] : List Nat) → u.1 k = v k) ∧ True) (BX dC dI g c) (AX g s.heap.size)) ([.ref (g 11), .int p0, .int p1, .int p2] : List Value).toArray s 0 0 (AX g s.heap.size)) (F0 m 8 ls []) := by
    intro n
    induction n with
    | zero =>
      intro x4_lp2037 v_lp2037 F_lp2037 H locs ls t2038 hm hf_lp2037 hI hal hP hS hl
      exfalso
      have := i32_rng x4_lp2037
      have hI1 := hI.1
      omega
    | succ n ih_lp2037 =>
      intro x4_lp2037 v_lp2037 F_lp2037 H locs ls t2038 hm hf_lp2037 hI hal hP hS hl
      have rx4_lp2037 := i32_rng x4_lp2037
      refine lv_iload hx hb dX1_fillRow_8 (lv_at hl 0 rfl) ?_
      refine lv_aload_n hx hb dX1_fillRow_10 rfl (lv_at hl 1 rfl) ?_
      refine va_get (D := (dC, dI)) (ci := 1) (v := .ref (g 3)) (C := RX1) (T := TX1) (N := 13) hx hb hwd inA_X1 hown hK hP 11 rfl rfl 3 (by decide) (hwd _ wk_175) (fun _ h9 => h9) rfl dX1_fillRow_11 ?_
      refine va_get (D := (dC, dI)) (ci := 7) (v := .int (v_lp2037 61)) (C := RX7) (T := TX7) (N := 7) hx hb hwd inA_X7 hown hK hP 3 rfl rfl 1 (by decide) (hwd _ wk_341) (fun _ h9 => h9) rfl dX1_fillRow_14 ?_
      refine my_top (v := v 61) (hf_lp2037 61 (by decide)) ?_
      have t2039 : 0 ≤ (v 61).toInt ∧ (v 61).toInt ≤ 100 := by have h9 := hI.1 61 _ _ rfl; rw [show v_lp2037 61 = v 61 from hf_lp2037 61 (by decide)] at h9; exact h9
      refine lv_icmp_ge (tgt := 105) hx hb dX1_fillRow_17 (by decide) (fun c2040 => ?_) (fun c2040 => ?_)
      · skip
        have t2041 := cv_le (a := (v 61).toInt) rfl (b := x4_lp2037.toInt) rfl c2040
        have hP9 : va_P (dC, dI) classes (wX g c v_lp2037 F_lp2037 rc) H := hP
        exact W.vret hx hb hr (fun t ht hW => ⟨⟨(v_lp2037, F_lp2037, rc), rfl, ⟨hI, hal, rfl, (frC (by decide) hf_lp2037 (frU (by decide) (fun _ _ => rfl))), trivial⟩, (by show va_P _ _ _ t.heap; rw [ht]; exact hP9)⟩, hS.F ht⟩) hS.2.2 dX1_fillRow_105
      · skip
        have t2042 := cv_nle (a := (v 61).toInt) rfl (b := x4_lp2037.toInt) rfl c2040
        refine lv_aload_n hx hb dX1_fillRow_20 rfl (lv_at hl 1 rfl) ?_
        refine va_get (D := (dC, dI)) (ci := 1) (v := .int (v_lp2037 231)) (C := RX1) (T := TX1) (N := 13) hx hb hwd inA_X1 hown hK hP 11 rfl rfl 11 (by decide) (hwd _ wk_1277) (fun _ h9 => h9) rfl dX1_fillRow_21 ?_
        have t2043 : 0 ≤ (v_lp2037 231).toInt ∧ (v_lp2037 231).toInt ≤ 8 := hI.1 231 _ _ rfl
        refine lv_aload_n hx hb dX1_fillRow_24 rfl (lv_at hl 1 rfl) ?_
        refine va_get (D := (dC, dI)) (ci := 1) (v := .ref (g 78)) (C := RX1) (T := TX1) (N := 13) hx hb hwd inA_X1 hown hK hP 11 rfl rfl 10 (by decide) (hwd _ wk_169) (fun _ h9 => h9) rfl dX1_fillRow_25 ?_
        refine va_alen (v := 8) hx hb hK hP 78 66 rfl rfl rfl dX1_fillRow_28 ?_
        refine lv_icmp_ge (tgt := 105) hx hb dX1_fillRow_29 (by decide) (fun c2044 => ?_) (fun c2044 => ?_)
        · skip
          have t2045 := cv_le (a := 8) (by decide) (b := (v_lp2037 231).toInt) rfl c2044
          have hP9 : va_P (dC, dI) classes (wX g c v_lp2037 F_lp2037 rc) H := hP
          exact W.vret hx hb hr (fun t ht hW => ⟨⟨(v_lp2037, F_lp2037, rc), rfl, ⟨hI, hal, rfl, (frC (by decide) hf_lp2037 (frU (by decide) (fun _ _ => rfl))), trivial⟩, (by show va_P _ _ _ t.heap; rw [ht]; exact hP9)⟩, hS.F ht⟩) hS.2.2 dX1_fillRow_105
        · skip
          have t2046 := cv_nle (a := 8) (by decide) (b := (v_lp2037 231).toInt) rfl c2044
          refine lv_aload_n hx hb dX1_fillRow_32 rfl (lv_at hl 1 rfl) ?_
          refine va_get (D := (dC, dI)) (ci := 1) (v := .ref (g 3)) (C := RX1) (T := TX1) (N := 13) hx hb hwd inA_X1 hown hK hP 11 rfl rfl 3 (by decide) (hwd _ wk_175) (fun _ h9 => h9) rfl dX1_fillRow_33 ?_
          refine va_get (D := (dC, dI)) (ci := 7) (v := .ref (g 26)) (C := RX7) (T := TX7) (N := 7) hx hb hwd inA_X7 hown hK hP 3 rfl rfl 4 (by decide) (hwd _ wk_342) (fun _ h9 => h9) rfl dX1_fillRow_36 ?_
          refine lv_iload hx hb dX1_fillRow_39 (lv_at hl 0 rfl) ?_
          refine va_iald hx hb hK hP 26 14 rfl rfl (i := x4_lp2037) (vin (a := x4_lp2037.toInt) rfl (by omega)) dX1_fillRow_41 ?_
          refine lv_topi (fun z2047 e2048 => ?_)
          refine lv_istore (lv' := [(5, .int z2047), (4, .int x4_lp2037), (0, .ref (g 11)), (1, .int p0), (2, .int p1), (3, .int p2)]) hx hb dX1_fillRow_42 hl (by decide) rfl (fun ls hl => ?_)
          refine lv_aload_n hx hb dX1_fillRow_44 rfl (lv_at hl 2 rfl) ?_
          refine va_get (D := (dC, dI)) (ci := 1) (v := .ref (g 3)) (C := RX1) (T := TX1) (N := 13) hx hb hwd inA_X1 hown hK hP 11 rfl rfl 3 (by decide) (hwd _ wk_175) (fun _ h9 => h9) rfl dX1_fillRow_45 ?_
          refine va_get (D := (dC, dI)) (ci := 7) (v := .ref (g 24)) (C := RX7) (T := TX7) (N := 7) hx hb hwd inA_X7 hown hK hP 3 rfl rfl 2 (by decide) (hwd _ wk_1152) (fun _ h9 => h9) rfl dX1_fillRow_48 ?_
          refine lv_iload hx hb dX1_fillRow_51 (lv_at hl 1 rfl) ?_
          refine va_iald hx hb hK hP 24 12 rfl rfl (i := x4_lp2037) (vin (a := x4_lp2037.toInt) rfl (by omega)) dX1_fillRow_53 ?_
          refine lv_topi (fun z2049 e2050 => ?_)
          have t2051 : 0 ≤ z2049.toInt ∧ z2049.toInt ≤ 9 := by rw [e2050]; exact hI.2 24 _ _ rfl _
          refine lv_iload_n hx hb dX1_fillRow_54 rfl (lv_at hl 4 rfl) ?_
          refine lv_icmp_ne (tgt := 99) hx hb dX1_fillRow_55 (by decide) (fun c2052 => ?_) (fun c2052 => ?_)
          · skip
            have t2053 := cv_ne (a := z2049.toInt) rfl (b := p1.toInt) rfl c2052
            obtain ⟨z2054, e2055⟩ : ∃ y : Int32, y = x4_lp2037 + 1 := ⟨_, rfl⟩
            try (have t2056 := tadd e2055 rfl (b := 1) (by decide) (by omega))
            refine lv_iinc (v := z2054) (lv' := [(4, .int z2054), (5, .int z2047), (0, .ref (g 11)), (1, .int p0), (2, .int p1), (3, .int p2)]) hx hb dX1_fillRow_99 hl (k := 1) rfl (by rw [e2055]; rfl) (by decide) rfl (fun ls hl => ?_)
            refine lv_goto (tgt := 8) hx hb dX1_fillRow_102 (by decide) ?_
            exact ih_lp2037 z2054 v_lp2037 F_lp2037 _ _ _ (by omega) (by omega) hf_lp2037 hI hal hP hS (lv_sub hl [0, 2, 3, 4, 5] rfl)
          · skip
            have t2057 := cv_eq (a := z2049.toInt) rfl (b := p1.toInt) rfl c2052
            refine lv_iload hx hb dX1_fillRow_58 (lv_at hl 0 rfl) ?_
            refine lv_iload_n hx hb dX1_fillRow_60 rfl (lv_at hl 3 rfl) ?_
            refine lv_icmp_eq (tgt := 71) hx hb dX1_fillRow_61 (by decide) (fun c2058 => ?_) (fun c2058 => ?_)
            · skip
              have t2059 := cv_eq (a := z2047.toInt) rfl (b := p0.toInt) rfl c2058
              refine lv_aload_n hx hb dX1_fillRow_71 rfl (lv_at hl 2 rfl) ?_
              refine lv_iload hx hb dX1_fillRow_72 (lv_at hl 1 rfl) ?_
              refine lv_iload_n hx hb dX1_fillRow_74 rfl (lv_at hl 5 rfl) ?_
              refine va_callv (va_runV (As := [.int x4_lp2037, .int p2]) (rest := []) ⟨hx, hb, hml, hown, hwd⟩ (c_X1_look l dC dI g c adK adV v_lp2037 F_lp2037 rc H.size x4_lp2037 p2 hg hI (by omega)) (cwV 2 hwd (gV wk_1156 wk_1153 wk_1154 wk_1155 wk_54) rfl rfl rfl (by decide +kernel) ⟨Nat.le_of_ble_eq_true rfl, Nat.le_of_ble_eq_true rfl⟩) ⟨PX.blind, va_recv hK hP (ci := 1) (q0 := 11) rfl rfl, fun U hU hW => ⟨rfl, PX.at hK hE hP hS hU hW⟩⟩ rfl rfl hl.1 rfl (lv_room (Nat.le_of_ble_eq_true rfl)) dX1_fillRow_75 ⟨Nat.le_of_ble_eq_true rfl, Nat.le_of_ble_eq_true rfl⟩) hS (fun q _ h => (freeX hS) q h) (freeX hS) (fun u t H1 locs ht hvm hw hB hz1 hk1 hS => ?_)
              unfold BX at hB
              rw [ht] at hB
              obtain ⟨v2061, F2062, rc9⟩ := u
              obtain ⟨hI, hal9, hrc, hf2063, hw⟩ := hw
              dsimp only at hI hal9 hrc hB hf2063 hw
              rw [hrc] at hB
              have hal := hal9.trans hal
              have hP : va_P (dC, dI) classes (wX g c v2061 F2062 rc) H1 := hB
              generalize H1 = H at hP hS ⊢
              refine lv_aload_n hx hb dX1_fillRow_78 rfl (lv_at hl 2 rfl) ?_
              refine va_get (D := (dC, dI)) (ci := 1) (v := .ref (g 78)) (C := RX1) (T := TX1) (N := 13) hx hb hwd inA_X1 hown hK hP 11 rfl rfl 10 (by decide) (hwd _ wk_169) (fun _ h9 => h9) rfl dX1_fillRow_79 ?_
              refine lv_aload_n hx hb dX1_fillRow_82 rfl (lv_at hl 2 rfl) ?_
              refine va_get (D := (dC, dI)) (ci := 1) (v := .int (v2061 231)) (C := RX1) (T := TX1) (N := 13) hx hb hwd inA_X1 hown hK hP 11 rfl rfl 11 (by decide) (hwd _ wk_1277) (fun _ h9 => h9) rfl dX1_fillRow_83 ?_
              refine my_top (v := v_lp2037 231) (hf2063 231 (by decide)) ?_
              have t2064 : 0 ≤ (v_lp2037 231).toInt ∧ (v_lp2037 231).toInt ≤ 8 := by have h9 := hI.1 231 _ _ rfl; rw [show v2061 231 = v_lp2037 231 from hf2063 231 (by decide)] at h9; exact h9
              refine lv_iload hx hb dX1_fillRow_86 (lv_at hl 1 rfl) ?_
              refine va_iast hx hb hK hP (DX hg) hS 78 66 rfl rfl (i := (v_lp2037 231)) (x := x4_lp2037) (vin (a := (v_lp2037 231).toInt) rfl (by omega)) dX1_fillRow_88 (fun H locs hP _ hS => ?_)
              have hP := va_P_eq (sX_78 g c _ _ _ _) hP
              have hI := IX.store hI 78 (v_lp2037 231 : Int32).toNatClampNeg x4_lp2037 rfl (by omega)
              have hal := (alX_F _ _ 78 (upd (F2062 78) (v_lp2037 231 : Int32).toNatClampNeg x4_lp2037) (by decide) (by decide)).trans hal
              have hP : va_P (dC, dI) classes (wX g c v2061 (va_up F2062 78 (upd (F2062 78) (v_lp2037 231 : Int32).toNatClampNeg x4_lp2037)) rc) H := hP
              generalize (va_up F2062 78 (upd (F2062 78) (v_lp2037 231 : Int32).toNatClampNeg x4_lp2037)) = F2065 at hP hI hal
              refine lv_aload_n hx hb dX1_fillRow_89 rfl (lv_at hl 2 rfl) ?_
              refine lv_dup hx hb dX1_fillRow_90 rfl ?_
              refine va_get (D := (dC, dI)) (ci := 1) (v := .int (v2061 231)) (C := RX1) (T := TX1) (N := 13) hx hb hwd inA_X1 hown hK hP 11 rfl rfl 11 (by decide) (hwd _ wk_1277) (fun _ h9 => h9) rfl dX1_fillRow_91 ?_
              refine my_top (v := v_lp2037 231) (hf2063 231 (by decide)) ?_
              have t2066 : 0 ≤ (v_lp2037 231).toInt ∧ (v_lp2037 231).toInt ≤ 8 := by have h9 := hI.1 231 _ _ rfl; rw [show v2061 231 = v_lp2037 231 from hf2063 231 (by decide)] at h9; exact h9
              refine lv_iconst (v := 1) hx hb dX1_fillRow_94 (by decide) ?_
              refine lv_iadd hx hb dX1_fillRow_95 ?_
              refine lv_topi (fun z2067 e2068 => ?_)
              try (have t2069 := tadd e2068 (a := (v_lp2037 231).toInt) rfl (b := 1) (by decide) (by omega))
              refine va_put (D := (dC, dI)) (ci := 1) (v := .int z2067) (ty := .int) (C := RX1) (T := TX1) (N := 13) (fs := fsX_11 g v2061 rc) hx hb hwd inA_X1 tyX1 tyX1_ok nmX1 hown hK hP (DX hg) hS 11 rfl rfl 11 (by decide) (hwd _ wk_1277) (fun _ h9 => h9) rfl (by decide +kernel) rfl rfl (Nat.le_of_ble_eq_true rfl) dX1_fillRow_96 (fun H locs hP _ hS => ?_)
              have hP := va_P_eq (pX_231 g c _ _ _ _) hP
              have hI := IX.put hI 231 z2067 rfl (by omega)
              have hal := (alX_v _ _ 231 z2067 (by decide) (by decide) (by decide) (by decide)).trans hal
              obtain ⟨z2070, e2071⟩ : ∃ y : Int32, y = x4_lp2037 + 1 := ⟨_, rfl⟩
              try (have t2072 := tadd e2071 rfl (b := 1) (by decide) (by omega))
              refine lv_iinc (v := z2070) (lv' := [(4, .int z2070), (5, .int z2047), (0, .ref (g 11)), (1, .int p0), (2, .int p1), (3, .int p2)]) hx hb dX1_fillRow_99 hl (k := 1) rfl (by rw [e2071]; rfl) (by decide) rfl (fun ls hl => ?_)
              refine lv_goto (tgt := 8) hx hb dX1_fillRow_102 (by decide) ?_
              exact ih_lp2037 z2070 (va_up v2061 231 z2067) F2065 _ _ _ (by omega) (by omega) (frU (by decide) (frC (by decide) hf2063 hf_lp2037)) hI hal hP hS (lv_sub hl [0, 2, 3, 4, 5] rfl)
            · skip
              have t2073 := cv_ne (a := z2047.toInt) rfl (b := p0.toInt) rfl c2058
              refine lv_iload hx hb dX1_fillRow_64 (lv_at hl 0 rfl) ?_
              refine lv_bipush (v := 11) hx hb dX1_fillRow_66 (by decide) ?_
              refine lv_icmp_ne (tgt := 99) hx hb dX1_fillRow_68 (by decide) (fun c2074 => ?_) (fun c2074 => ?_)
              · skip
                have t2075 := cv_ne (a := z2047.toInt) rfl (b := 11) (by decide) c2074
                obtain ⟨z2076, e2077⟩ : ∃ y : Int32, y = x4_lp2037 + 1 := ⟨_, rfl⟩
                try (have t2078 := tadd e2077 rfl (b := 1) (by decide) (by omega))
                refine lv_iinc (v := z2076) (lv' := [(4, .int z2076), (5, .int z2047), (0, .ref (g 11)), (1, .int p0), (2, .int p1), (3, .int p2)]) hx hb dX1_fillRow_99 hl (k := 1) rfl (by rw [e2077]; rfl) (by decide) rfl (fun ls hl => ?_)
                refine lv_goto (tgt := 8) hx hb dX1_fillRow_102 (by decide) ?_
                exact ih_lp2037 z2076 v_lp2037 F_lp2037 _ _ _ (by omega) (by omega) hf_lp2037 hI hal hP hS (lv_sub hl [0, 2, 3, 4, 5] rfl)
              · skip
                have t2079 := cv_eq (a := z2047.toInt) rfl (b := 11) (by decide) c2074
                refine lv_aload_n hx hb dX1_fillRow_71 rfl (lv_at hl 2 rfl) ?_
                refine lv_iload hx hb dX1_fillRow_72 (lv_at hl 1 rfl) ?_
                refine lv_iload_n hx hb dX1_fillRow_74 rfl (lv_at hl 5 rfl) ?_
                refine va_callv (va_runV (As := [.int x4_lp2037, .int p2]) (rest := []) ⟨hx, hb, hml, hown, hwd⟩ (c_X1_look l dC dI g c adK adV v_lp2037 F_lp2037 rc H.size x4_lp2037 p2 hg hI (by omega)) (cwV 2 hwd (gV wk_1156 wk_1153 wk_1154 wk_1155 wk_54) rfl rfl rfl (by decide +kernel) ⟨Nat.le_of_ble_eq_true rfl, Nat.le_of_ble_eq_true rfl⟩) ⟨PX.blind, va_recv hK hP (ci := 1) (q0 := 11) rfl rfl, fun U hU hW => ⟨rfl, PX.at hK hE hP hS hU hW⟩⟩ rfl rfl hl.1 rfl (lv_room (Nat.le_of_ble_eq_true rfl)) dX1_fillRow_75 ⟨Nat.le_of_ble_eq_true rfl, Nat.le_of_ble_eq_true rfl⟩) hS (fun q _ h => (freeX hS) q h) (freeX hS) (fun u t H1 locs ht hvm hw hB hz1 hk1 hS => ?_)
                unfold BX at hB
                rw [ht] at hB
                obtain ⟨v2081, F2082, rc9⟩ := u
                obtain ⟨hI, hal9, hrc, hf2083, hw⟩ := hw
                dsimp only at hI hal9 hrc hB hf2083 hw
                rw [hrc] at hB
                have hal := hal9.trans hal
                have hP : va_P (dC, dI) classes (wX g c v2081 F2082 rc) H1 := hB
                generalize H1 = H at hP hS ⊢
                refine lv_aload_n hx hb dX1_fillRow_78 rfl (lv_at hl 2 rfl) ?_
                refine va_get (D := (dC, dI)) (ci := 1) (v := .ref (g 78)) (C := RX1) (T := TX1) (N := 13) hx hb hwd inA_X1 hown hK hP 11 rfl rfl 10 (by decide) (hwd _ wk_169) (fun _ h9 => h9) rfl dX1_fillRow_79 ?_
                refine lv_aload_n hx hb dX1_fillRow_82 rfl (lv_at hl 2 rfl) ?_
                refine va_get (D := (dC, dI)) (ci := 1) (v := .int (v2081 231)) (C := RX1) (T := TX1) (N := 13) hx hb hwd inA_X1 hown hK hP 11 rfl rfl 11 (by decide) (hwd _ wk_1277) (fun _ h9 => h9) rfl dX1_fillRow_83 ?_
                refine my_top (v := v_lp2037 231) (hf2083 231 (by decide)) ?_
                have t2084 : 0 ≤ (v_lp2037 231).toInt ∧ (v_lp2037 231).toInt ≤ 8 := by have h9 := hI.1 231 _ _ rfl; rw [show v2081 231 = v_lp2037 231 from hf2083 231 (by decide)] at h9; exact h9
                refine lv_iload hx hb dX1_fillRow_86 (lv_at hl 1 rfl) ?_
                refine va_iast hx hb hK hP (DX hg) hS 78 66 rfl rfl (i := (v_lp2037 231)) (x := x4_lp2037) (vin (a := (v_lp2037 231).toInt) rfl (by omega)) dX1_fillRow_88 (fun H locs hP _ hS => ?_)
                have hP := va_P_eq (sX_78 g c _ _ _ _) hP
                have hI := IX.store hI 78 (v_lp2037 231 : Int32).toNatClampNeg x4_lp2037 rfl (by omega)
                have hal := (alX_F _ _ 78 (upd (F2082 78) (v_lp2037 231 : Int32).toNatClampNeg x4_lp2037) (by decide) (by decide)).trans hal
                have hP : va_P (dC, dI) classes (wX g c v2081 (va_up F2082 78 (upd (F2082 78) (v_lp2037 231 : Int32).toNatClampNeg x4_lp2037)) rc) H := hP
                generalize (va_up F2082 78 (upd (F2082 78) (v_lp2037 231 : Int32).toNatClampNeg x4_lp2037)) = F2085 at hP hI hal
                refine lv_aload_n hx hb dX1_fillRow_89 rfl (lv_at hl 2 rfl) ?_
                refine lv_dup hx hb dX1_fillRow_90 rfl ?_
                refine va_get (D := (dC, dI)) (ci := 1) (v := .int (v2081 231)) (C := RX1) (T := TX1) (N := 13) hx hb hwd inA_X1 hown hK hP 11 rfl rfl 11 (by decide) (hwd _ wk_1277) (fun _ h9 => h9) rfl dX1_fillRow_91 ?_
                refine my_top (v := v_lp2037 231) (hf2083 231 (by decide)) ?_
                have t2086 : 0 ≤ (v_lp2037 231).toInt ∧ (v_lp2037 231).toInt ≤ 8 := by have h9 := hI.1 231 _ _ rfl; rw [show v2081 231 = v_lp2037 231 from hf2083 231 (by decide)] at h9; exact h9
                refine lv_iconst (v := 1) hx hb dX1_fillRow_94 (by decide) ?_
                refine lv_iadd hx hb dX1_fillRow_95 ?_
                refine lv_topi (fun z2087 e2088 => ?_)
                try (have t2089 := tadd e2088 (a := (v_lp2037 231).toInt) rfl (b := 1) (by decide) (by omega))
                refine va_put (D := (dC, dI)) (ci := 1) (v := .int z2087) (ty := .int) (C := RX1) (T := TX1) (N := 13) (fs := fsX_11 g v2081 rc) hx hb hwd inA_X1 tyX1 tyX1_ok nmX1 hown hK hP (DX hg) hS 11 rfl rfl 11 (by decide) (hwd _ wk_1277) (fun _ h9 => h9) rfl (by decide +kernel) rfl rfl (Nat.le_of_ble_eq_true rfl) dX1_fillRow_96 (fun H locs hP _ hS => ?_)
                have hP := va_P_eq (pX_231 g c _ _ _ _) hP
                have hI := IX.put hI 231 z2087 rfl (by omega)
                have hal := (alX_v _ _ 231 z2087 (by decide) (by decide) (by decide) (by decide)).trans hal
                obtain ⟨z2090, e2091⟩ : ∃ y : Int32, y = x4_lp2037 + 1 := ⟨_, rfl⟩
                try (have t2092 := tadd e2091 rfl (b := 1) (by decide) (by omega))
                refine lv_iinc (v := z2090) (lv' := [(4, .int z2090), (5, .int z2047), (0, .ref (g 11)), (1, .int p0), (2, .int p1), (3, .int p2)]) hx hb dX1_fillRow_99 hl (k := 1) rfl (by rw [e2091]; rfl) (by decide) rfl (fun ls hl => ?_)
                refine lv_goto (tgt := 8) hx hb dX1_fillRow_102 (by decide) ?_
                exact ih_lp2037 z2090 (va_up v2081 231 z2087) F2085 _ _ _ (by omega) (by omega) (frU (by decide) (frC (by decide) hf2083 hf_lp2037)) hI hal hP hS (lv_sub hl [0, 2, 3, 4, 5] rfl)
  obtain ⟨n9, hn9⟩ : ∃ n : Nat, 2147483648 - 0 ≤ (n : Int) := ⟨((2147483648 - 0 : Int)).toNat, by omega⟩
  exact lp2037 n9 0 (va_up v 231 0) F H _ ls (by have : (0 : Int32).toInt = 0 := (by decide); omega) (by have : (0 : Int32).toInt = 0 := (by decide); omega) (fun _ _ => rfl) hI hal hP hS hl
set_option maxHeartbeats 8000000 in
set_option maxRecDepth 100000 in
theorem c_X1_judgeOfRow (l : Launch) (dC : Nat → ClassId) (dI : Nat → Nat → Nat) (g : Nat → Nat) (c : Nat → ClassId) (adK adV : Nat → Nat) (v : Nat → Int32) (F : Nat → Nat → Int32) (rc sz : Nat) (p0 : Int32) (hg : injX g) (hI : IX v F) : Met l yX1_judgeOfRow (Cond.code yX1_judgeOfRow cX1_judgeOfRow 3 none :: wA) ({ frames := 2, cells := 0, slots := 0, locals := 80 }) (va_Pc [.ref (g 11), .int p0] (PX dC dI g c adK adV v F rc sz)) (va_Qv (fun (u : StX) => IX u.1 u.2.1 ∧ alX u.1 u.2.1 = alX v F ∧ u.2.2 = rc ∧ (∀ k, k ∉ ([229] : List Nat) → u.1 k = v k) ∧ True) (BX dC dI g c) (AX g sz)) 0 0 (AX g sz) := by
  refine Met.ofW (cc := cX1_judgeOfRow) (maxL := 3) (ret := none) (by decide) rfl ?_
  intro p e s m args below meth c0 s₁ B hml hv
  obtain ⟨rfl, hsz, hP, hK, hE⟩ := hv
  have hx := B.exec
  have hb := B.bytes
  have hr := B.returns
  have hts := atoms_spec (ws := Cond.code yX1_judgeOfRow cX1_judgeOfRow 3 none :: wA) B.pre
  have hwd : ∀ w ∈ wA, w.before _ s = true := fun w h => hts w (List.mem_cons_of_mem _ h)
  have hown : s.vm.findClass RX1 = some m.cls := findClass_of_methodNamed B.named
  have hlocks := B.notSynchronized
  subst hsz
  have hl := lv_entry ([.ref (g 11), .int p0]) (n := 3) (Nat.le_of_ble_eq_true rfl)
  rw [lg_entry_eq]
  generalize (lg_sl ([.ref (g 11), .int p0]) ++ List.replicate (3 - (lg_sl ([.ref (g 11), .int p0])).length) Slot.unset).toArray = ls at hl ⊢
  have hl : lv_has ls 3 [(0, .ref (g 11)), (1, .int p0)] := hl
  obtain ⟨H, eH⟩ : ∃ z, z = s.heap := ⟨_, rfl⟩
  have hP : va_P (dC, dI) classes (wX g c v F rc) H := by rw [eH]; exact hP
  have hS : va_S (AX g s.heap.size) s.heap H [] := by rw [eH]; exact va_S.rf
  refine my_heap eH ?_
  have hal : alX v F = alX v F := rfl
  have rp0 := i32_rng p0
  refine lv_iconst (v := 0) hx hb dX1_judgeOfRow_0 (by decide) ?_
  refine lv_istore_n (lv' := [(2, .int 0), (0, .ref (g 11)), (1, .int p0)]) hx hb dX1_judgeOfRow_1 rfl hl (by decide) rfl (fun ls hl => ?_)
  have lp2093 : ∀ (n : Nat) (x2_lp2093 : Int32) (v_lp2093 : Nat → Int32) (F_lp2093 : Nat → Nat → Int32) (H : Heap) (locs : List Loc) (ls : Array Slot), (0 ≤ x2_lp2093.toInt) → (2147483648 - x2_lp2093.toInt ≤ (n : Int)) → (∀ k, k ∉ ([229] : List Nat) → v_lp2093 k = v k) → IX v_lp2093 F_lp2093 → alX v_lp2093 F_lp2093 = alX v F → va_P (dC, dI) classes (wX g c v_lp2093 F_lp2093 rc) H → va_S (AX g s.heap.size) s.heap H locs → lv_has ls 3 [(2, .int x2_lp2093), (0, .ref (g 11)), (1, .int p0)] → W p l e (headSpec (Cond.code yX1_judgeOfRow cX1_judgeOfRow 3 none :: wA) ({ frames := 2, cells := 0, slots := 0, locals := 80 })).room s m ([.ref (g 11), .int p0] : List Value).toArray below meth c0 H locs 0 0 (MQ below (va_Qv (fun (u : StX) => IX u.1 u.2.1 ∧ alX u.1 u.2.1 = alX v F ∧ u.2.2 = rc ∧ (∀ k, k ∉ ([229] : List Nat) → u.1 k = v k) ∧ True) (BX dC dI g c) (AX g s.heap.size)) ([.ref (g 11), .int p0] : List Value).toArray s 0 0 (AX g s.heap.size)) (F0 m 2 ls []) := by
    intro n
    induction n with
    | zero =>
      intro x2_lp2093 v_lp2093 F_lp2093 H locs ls t2094 hm hf_lp2093 hI hal hP hS hl
      exfalso
      have := i32_rng x2_lp2093
      have hI1 := hI.1
      omega
    | succ n ih_lp2093 =>
      intro x2_lp2093 v_lp2093 F_lp2093 H locs ls t2094 hm hf_lp2093 hI hal hP hS hl
      have rx2_lp2093 := i32_rng x2_lp2093
      refine lv_iload_n hx hb dX1_judgeOfRow_2 rfl (lv_at hl 0 rfl) ?_
      refine lv_aload_n hx hb dX1_judgeOfRow_3 rfl (lv_at hl 1 rfl) ?_
      refine va_get (D := (dC, dI)) (ci := 1) (v := .int (v_lp2093 231)) (C := RX1) (T := TX1) (N := 13) hx hb hwd inA_X1 hown hK hP 11 rfl rfl 11 (by decide) (hwd _ wk_1277) (fun _ h9 => h9) rfl dX1_judgeOfRow_4 ?_
      refine my_top (v := v 231) (hf_lp2093 231 (by decide)) ?_
      have t2095 : 0 ≤ (v 231).toInt ∧ (v 231).toInt ≤ 8 := by have h9 := hI.1 231 _ _ rfl; rw [show v_lp2093 231 = v 231 from hf_lp2093 231 (by decide)] at h9; exact h9
      refine lv_icmp_ge (tgt := 35) hx hb dX1_judgeOfRow_7 (by decide) (fun c2096 => ?_) (fun c2096 => ?_)
      · skip
        have t2097 := cv_le (a := (v 231).toInt) rfl (b := x2_lp2093.toInt) rfl c2096
        have hP9 : va_P (dC, dI) classes (wX g c v_lp2093 F_lp2093 rc) H := hP
        exact W.vret hx hb hr (fun t ht hW => ⟨⟨(v_lp2093, F_lp2093, rc), rfl, ⟨hI, hal, rfl, (frC (by decide) hf_lp2093 (fun _ _ => rfl)), trivial⟩, (by show va_P _ _ _ t.heap; rw [ht]; exact hP9)⟩, hS.F ht⟩) hS.2.2 dX1_judgeOfRow_35
      · skip
        have t2098 := cv_nle (a := (v 231).toInt) rfl (b := x2_lp2093.toInt) rfl c2096
        refine lv_iload_n hx hb dX1_judgeOfRow_10 rfl (lv_at hl 2 rfl) ?_
        refine lv_iload_n hx hb dX1_judgeOfRow_11 rfl (lv_at hl 0 rfl) ?_
        refine lv_ishr hx hb dX1_judgeOfRow_12 ?_
        refine lv_topi (fun z2099 e2100 => ?_)
        refine lv_iconst (v := 1) hx hb dX1_judgeOfRow_13 (by decide) ?_
        refine lv_iand hx hb dX1_judgeOfRow_14 ?_
        refine lv_topi (fun z2102 e2103 => ?_)
        refine lv_iconst (v := 1) hx hb dX1_judgeOfRow_15 (by decide) ?_
        refine lv_icmp_ne (tgt := 29) hx hb dX1_judgeOfRow_16 (by decide) (fun c2105 => ?_) (fun c2105 => ?_)
        · skip
          have t2106 := cv_ne (a := z2102.toInt) rfl (b := 1) (by decide) c2105
          obtain ⟨z2107, e2108⟩ : ∃ y : Int32, y = x2_lp2093 + 1 := ⟨_, rfl⟩
          try (have t2109 := tadd e2108 rfl (b := 1) (by decide) (by omega))
          refine lv_iinc (v := z2107) (lv' := [(2, .int z2107), (0, .ref (g 11)), (1, .int p0)]) hx hb dX1_judgeOfRow_29 hl (k := 0) rfl (by rw [e2108]; rfl) (by decide) rfl (fun ls hl => ?_)
          refine lv_goto (tgt := 2) hx hb dX1_judgeOfRow_32 (by decide) ?_
          exact ih_lp2093 z2107 v_lp2093 F_lp2093 _ _ _ (by omega) (by omega) hf_lp2093 hI hal hP hS (lv_sub hl [0, 1, 2] rfl)
        · skip
          have t2110 := cv_eq (a := z2102.toInt) rfl (b := 1) (by decide) c2105
          refine lv_aload_n hx hb dX1_judgeOfRow_19 rfl (lv_at hl 1 rfl) ?_
          refine lv_aload_n hx hb dX1_judgeOfRow_20 rfl (lv_at hl 1 rfl) ?_
          refine va_get (D := (dC, dI)) (ci := 1) (v := .ref (g 78)) (C := RX1) (T := TX1) (N := 13) hx hb hwd inA_X1 hown hK hP 11 rfl rfl 10 (by decide) (hwd _ wk_169) (fun _ h9 => h9) rfl dX1_judgeOfRow_21 ?_
          refine lv_iload_n hx hb dX1_judgeOfRow_24 rfl (lv_at hl 0 rfl) ?_
          refine va_iald hx hb hK hP 78 66 rfl rfl (i := x2_lp2093) (vin (a := x2_lp2093.toInt) rfl (by omega)) dX1_judgeOfRow_25 ?_
          refine lv_topi (fun z2111 e2112 => ?_)
          have t2113 : 0 ≤ z2111.toInt ∧ z2111.toInt ≤ 99 := by rw [e2112]; exact hI.2 78 _ _ rfl _
          refine va_callv (va_runV (As := [.int z2111]) (rest := []) ⟨hx, hb, hml, hown, hwd⟩ (c_X1_judge l dC dI g c adK adV v_lp2093 F_lp2093 rc H.size z2111 hg hI (by omega)) (cwV 1 hwd (gV wk_1165 wk_1162 wk_1163 wk_1164 wk_54) rfl rfl rfl (by decide +kernel) ⟨Nat.le_of_ble_eq_true rfl, Nat.le_of_ble_eq_true rfl⟩) ⟨PX.blind, va_recv hK hP (ci := 1) (q0 := 11) rfl rfl, fun U hU hW => ⟨rfl, PX.at hK hE hP hS hU hW⟩⟩ rfl rfl hl.1 rfl (lv_room (Nat.le_of_ble_eq_true rfl)) dX1_judgeOfRow_26 ⟨Nat.le_of_ble_eq_true rfl, Nat.le_of_ble_eq_true rfl⟩) hS (fun q _ h => (freeX hS) q h) (freeX hS) (fun u t H1 locs ht hvm hw hB hz1 hk1 hS => ?_)
          unfold BX at hB
          rw [ht] at hB
          obtain ⟨v2115, F2116, rc9⟩ := u
          obtain ⟨hI, hal9, hrc, hf2117, hw⟩ := hw
          dsimp only at hI hal9 hrc hB hf2117 hw
          rw [hrc] at hB
          have hal := hal9.trans hal
          have hP : va_P (dC, dI) classes (wX g c v2115 F2116 rc) H1 := hB
          generalize H1 = H at hP hS ⊢
          obtain ⟨z2118, e2119⟩ : ∃ y : Int32, y = x2_lp2093 + 1 := ⟨_, rfl⟩
          try (have t2120 := tadd e2119 rfl (b := 1) (by decide) (by omega))
          refine lv_iinc (v := z2118) (lv' := [(2, .int z2118), (0, .ref (g 11)), (1, .int p0)]) hx hb dX1_judgeOfRow_29 hl (k := 0) rfl (by rw [e2119]; rfl) (by decide) rfl (fun ls hl => ?_)
          refine lv_goto (tgt := 2) hx hb dX1_judgeOfRow_32 (by decide) ?_
          exact ih_lp2093 z2118 v2115 F2116 _ _ _ (by omega) (by omega) (frC (by decide) hf2117 hf_lp2093) hI hal hP hS (lv_sub hl [0, 1, 2] rfl)
  obtain ⟨n9, hn9⟩ : ∃ n : Nat, 2147483648 - 0 ≤ (n : Int) := ⟨((2147483648 - 0 : Int)).toNat, by omega⟩
  exact lp2093 n9 0 v F H _ ls (by have : (0 : Int32).toInt = 0 := (by decide); omega) (by have : (0 : Int32).toInt = 0 := (by decide); omega) (fun _ _ => rfl) hI hal hP hS hl
set_option maxHeartbeats 8000000 in
set_option maxRecDepth 100000 in
theorem c_X1_countNotOn (l : Launch) (dC : Nat → ClassId) (dI : Nat → Nat → Nat) (g : Nat → Nat) (c : Nat → ClassId) (adK adV : Nat → Nat) (v : Nat → Int32) (F : Nat → Nat → Int32) (rc sz : Nat) (p0 : Int32) (p1 : Int32) (hg : injX g) (hI : IX v F) : Met l yX1_countNotOn (Cond.code yX1_countNotOn cX1_countNotOn 5 (some .int) :: wA) ({ frames := 1, cells := 0, slots := 0, locals := 40 }) (va_Pc [.ref (g 11), .int p0, .int p1] (PX dC dI g c adK adV v F rc sz)) (va_Qi (fun (r : Int32) (u : Unit) => True) (fun (_ : Unit) => BX dC dI g c (v, F, rc)) (AX g sz)) 0 0 (AX g sz) := by
  refine Met.ofW (cc := cX1_countNotOn) (maxL := 5) (ret := (some .int)) (by decide) rfl ?_
  intro p e s m args below meth c0 s₁ B hml hv
  obtain ⟨rfl, hsz, hP, hK, hE⟩ := hv
  have hx := B.exec
  have hb := B.bytes
  have hr := B.returns
  have hts := atoms_spec (ws := Cond.code yX1_countNotOn cX1_countNotOn 5 (some .int) :: wA) B.pre
  have hwd : ∀ w ∈ wA, w.before _ s = true := fun w h => hts w (List.mem_cons_of_mem _ h)
  have hown : s.vm.findClass RX1 = some m.cls := findClass_of_methodNamed B.named
  have hlocks := B.notSynchronized
  subst hsz
  have hl := lv_entry ([.ref (g 11), .int p0, .int p1]) (n := 5) (Nat.le_of_ble_eq_true rfl)
  rw [lg_entry_eq]
  generalize (lg_sl ([.ref (g 11), .int p0, .int p1]) ++ List.replicate (5 - (lg_sl ([.ref (g 11), .int p0, .int p1])).length) Slot.unset).toArray = ls at hl ⊢
  have hl : lv_has ls 5 [(0, .ref (g 11)), (1, .int p0), (2, .int p1)] := hl
  obtain ⟨H, eH⟩ : ∃ z, z = s.heap := ⟨_, rfl⟩
  have hP : va_P (dC, dI) classes (wX g c v F rc) H := by rw [eH]; exact hP
  have hS : va_S (AX g s.heap.size) s.heap H [] := by rw [eH]; exact va_S.rf
  refine my_heap eH ?_
  have rp0 := i32_rng p0
  have rp1 := i32_rng p1
  refine lv_iconst (v := 0) hx hb dX1_countNotOn_0 (by decide) ?_
  refine lv_istore_n (lv' := [(3, .int 0), (0, .ref (g 11)), (1, .int p0), (2, .int p1)]) hx hb dX1_countNotOn_1 rfl hl (by decide) rfl (fun ls hl => ?_)
  refine lv_iconst (v := 0) hx hb dX1_countNotOn_2 (by decide) ?_
  refine lv_istore (lv' := [(4, .int 0), (3, .int 0), (0, .ref (g 11)), (1, .int p0), (2, .int p1)]) hx hb dX1_countNotOn_3 hl (by decide) rfl (fun ls hl => ?_)
  have lp2121 : ∀ (n : Nat) (x4_lp2121 : Int32) (x3_lp2121 : Int32) (H : Heap) (locs : List Loc) (ls : Array Slot), (0 ≤ x4_lp2121.toInt) → (2147483648 - x4_lp2121.toInt ≤ (n : Int)) → va_P (dC, dI) classes (wX g c v F rc) H → va_S (AX g s.heap.size) s.heap H locs → lv_has ls 5 [(4, .int x4_lp2121), (3, .int x3_lp2121), (0, .ref (g 11)), (1, .int p0), (2, .int p1)] → W p l e (headSpec (Cond.code yX1_countNotOn cX1_countNotOn 5 (some .int) :: wA) ({ frames := 1, cells := 0, slots := 0, locals := 40 })).room s m ([.ref (g 11), .int p0, .int p1] : List Value).toArray below meth c0 H locs 0 0 (MQ below (va_Qi (fun (r : Int32) (u : Unit) => True) (fun (_ : Unit) => BX dC dI g c (v, F, rc)) (AX g s.heap.size)) ([.ref (g 11), .int p0, .int p1] : List Value).toArray s 0 0 (AX g s.heap.size)) (F0 m 5 ls []) := by
    intro n
    induction n with
    | zero =>
      intro x4_lp2121 x3_lp2121 H locs ls t2122 hm hP hS hl
      exfalso
      have := i32_rng x4_lp2121
      have := i32_rng x3_lp2121
      omega
    | succ n ih_lp2121 =>
      intro x4_lp2121 x3_lp2121 H locs ls t2122 hm hP hS hl
      have rx4_lp2121 := i32_rng x4_lp2121
      have rx3_lp2121 := i32_rng x3_lp2121
      refine lv_iload hx hb dX1_countNotOn_5 (lv_at hl 0 rfl) ?_
      refine lv_aload_n hx hb dX1_countNotOn_7 rfl (lv_at hl 2 rfl) ?_
      refine va_get (D := (dC, dI)) (ci := 1) (v := .int (v 231)) (C := RX1) (T := TX1) (N := 13) hx hb hwd inA_X1 hown hK hP 11 rfl rfl 11 (by decide) (hwd _ wk_1277) (fun _ h9 => h9) rfl dX1_countNotOn_8 ?_
      have t2123 : 0 ≤ (v 231).toInt ∧ (v 231).toInt ≤ 8 := hI.1 231 _ _ rfl
      refine lv_icmp_ge (tgt := 57) hx hb dX1_countNotOn_11 (by decide) (fun c2124 => ?_) (fun c2124 => ?_)
      · skip
        have t2125 := cv_le (a := (v 231).toInt) rfl (b := x4_lp2121.toInt) rfl c2124
        refine lv_iload_n hx hb dX1_countNotOn_57 rfl (lv_at hl 1 rfl) ?_
        have hP9 : va_P (dC, dI) classes (wX g c v F rc) H := hP
        exact W.iret (v := x3_lp2121) hx hb hr (fun t ht hW => ⟨⟨x3_lp2121, (), rfl, trivial, (by show va_P _ _ _ t.heap; rw [ht]; exact hP9)⟩, hS.F ht⟩) hS.2.2 dX1_countNotOn_58
      · skip
        have t2126 := cv_nle (a := (v 231).toInt) rfl (b := x4_lp2121.toInt) rfl c2124
        refine lv_iload_n hx hb dX1_countNotOn_14 rfl (lv_at hl 1 rfl) ?_
        refine lv_iload_n hx hb dX1_countNotOn_15 rfl (lv_at hl 3 rfl) ?_
        refine lv_iload hx hb dX1_countNotOn_16 (lv_at hl 0 rfl) ?_
        refine lv_ishr hx hb dX1_countNotOn_18 ?_
        refine lv_topi (fun z2127 e2128 => ?_)
        refine lv_iconst (v := 1) hx hb dX1_countNotOn_19 (by decide) ?_
        refine lv_iand hx hb dX1_countNotOn_20 ?_
        refine lv_topi (fun z2130 e2131 => ?_)
        refine lv_iconst (v := 1) hx hb dX1_countNotOn_21 (by decide) ?_
        refine lv_icmp_ne (tgt := 48) hx hb dX1_countNotOn_22 (by decide) (fun c2133 => ?_) (fun c2133 => ?_)
        · skip
          have t2134 := cv_ne (a := z2130.toInt) rfl (b := 1) (by decide) c2133
          refine lv_iconst (v := 0) hx hb dX1_countNotOn_48 (by decide) ?_
          refine lv_iadd hx hb dX1_countNotOn_49 ?_
          refine lv_topi (fun z2135 e2136 => ?_)
          try (have t2137 := tadd e2136 (a := x3_lp2121.toInt) rfl (b := 0) (by decide) (by omega))
          refine lv_istore_n (lv' := [(3, .int z2135), (4, .int x4_lp2121), (0, .ref (g 11)), (1, .int p0), (2, .int p1)]) hx hb dX1_countNotOn_50 rfl hl (by decide) rfl (fun ls hl => ?_)
          obtain ⟨z2138, e2139⟩ : ∃ y : Int32, y = x4_lp2121 + 1 := ⟨_, rfl⟩
          try (have t2140 := tadd e2139 rfl (b := 1) (by decide) (by omega))
          refine lv_iinc (v := z2138) (lv' := [(4, .int z2138), (3, .int z2135), (0, .ref (g 11)), (1, .int p0), (2, .int p1)]) hx hb dX1_countNotOn_51 hl (k := 1) rfl (by rw [e2139]; rfl) (by decide) rfl (fun ls hl => ?_)
          refine lv_goto (tgt := 5) hx hb dX1_countNotOn_54 (by decide) ?_
          exact ih_lp2121 z2138 z2135  _ _ _ (by omega) (by omega) hP hS (lv_sub hl [0, 1, 2, 3, 4] rfl)
        · skip
          have t2141 := cv_eq (a := z2130.toInt) rfl (b := 1) (by decide) c2133
          refine lv_aload_n hx hb dX1_countNotOn_25 rfl (lv_at hl 2 rfl) ?_
          refine va_get (D := (dC, dI)) (ci := 1) (v := .ref (g 3)) (C := RX1) (T := TX1) (N := 13) hx hb hwd inA_X1 hown hK hP 11 rfl rfl 3 (by decide) (hwd _ wk_175) (fun _ h9 => h9) rfl dX1_countNotOn_26 ?_
          refine va_get (D := (dC, dI)) (ci := 7) (v := .ref (g 26)) (C := RX7) (T := TX7) (N := 7) hx hb hwd inA_X7 hown hK hP 3 rfl rfl 4 (by decide) (hwd _ wk_342) (fun _ h9 => h9) rfl dX1_countNotOn_29 ?_
          refine lv_aload_n hx hb dX1_countNotOn_32 rfl (lv_at hl 2 rfl) ?_
          refine va_get (D := (dC, dI)) (ci := 1) (v := .ref (g 78)) (C := RX1) (T := TX1) (N := 13) hx hb hwd inA_X1 hown hK hP 11 rfl rfl 10 (by decide) (hwd _ wk_169) (fun _ h9 => h9) rfl dX1_countNotOn_33 ?_
          refine lv_iload hx hb dX1_countNotOn_36 (lv_at hl 0 rfl) ?_
          refine va_iald hx hb hK hP 78 66 rfl rfl (i := x4_lp2121) (vin (a := x4_lp2121.toInt) rfl (by omega)) dX1_countNotOn_38 ?_
          refine lv_topi (fun z2142 e2143 => ?_)
          have t2144 : 0 ≤ z2142.toInt ∧ z2142.toInt ≤ 99 := by rw [e2143]; exact hI.2 78 _ _ rfl _
          refine va_iald hx hb hK hP 26 14 rfl rfl (i := z2142) (vin (a := z2142.toInt) rfl (by omega)) dX1_countNotOn_39 ?_
          refine lv_topi (fun z2145 e2146 => ?_)
          refine lv_iload_n hx hb dX1_countNotOn_40 rfl (lv_at hl 4 rfl) ?_
          refine lv_icmp_eq (tgt := 48) hx hb dX1_countNotOn_41 (by decide) (fun c2147 => ?_) (fun c2147 => ?_)
          · skip
            have t2148 := cv_eq (a := z2145.toInt) rfl (b := p1.toInt) rfl c2147
            refine lv_iconst (v := 0) hx hb dX1_countNotOn_48 (by decide) ?_
            refine lv_iadd hx hb dX1_countNotOn_49 ?_
            refine lv_topi (fun z2149 e2150 => ?_)
            try (have t2151 := tadd e2150 (a := x3_lp2121.toInt) rfl (b := 0) (by decide) (by omega))
            refine lv_istore_n (lv' := [(3, .int z2149), (4, .int x4_lp2121), (0, .ref (g 11)), (1, .int p0), (2, .int p1)]) hx hb dX1_countNotOn_50 rfl hl (by decide) rfl (fun ls hl => ?_)
            obtain ⟨z2152, e2153⟩ : ∃ y : Int32, y = x4_lp2121 + 1 := ⟨_, rfl⟩
            try (have t2154 := tadd e2153 rfl (b := 1) (by decide) (by omega))
            refine lv_iinc (v := z2152) (lv' := [(4, .int z2152), (3, .int z2149), (0, .ref (g 11)), (1, .int p0), (2, .int p1)]) hx hb dX1_countNotOn_51 hl (k := 1) rfl (by rw [e2153]; rfl) (by decide) rfl (fun ls hl => ?_)
            refine lv_goto (tgt := 5) hx hb dX1_countNotOn_54 (by decide) ?_
            exact ih_lp2121 z2152 z2149  _ _ _ (by omega) (by omega) hP hS (lv_sub hl [0, 1, 2, 3, 4] rfl)
          · skip
            have t2155 := cv_ne (a := z2145.toInt) rfl (b := p1.toInt) rfl c2147
            refine lv_iconst (v := 1) hx hb dX1_countNotOn_44 (by decide) ?_
            refine lv_goto (tgt := 49) hx hb dX1_countNotOn_45 (by decide) ?_
            refine lv_iadd hx hb dX1_countNotOn_49 ?_
            refine lv_topi (fun z2156 e2157 => ?_)
            try (have t2158 := tadd e2157 (a := x3_lp2121.toInt) rfl (b := 1) (by decide) (by omega))
            refine lv_istore_n (lv' := [(3, .int z2156), (4, .int x4_lp2121), (0, .ref (g 11)), (1, .int p0), (2, .int p1)]) hx hb dX1_countNotOn_50 rfl hl (by decide) rfl (fun ls hl => ?_)
            obtain ⟨z2159, e2160⟩ : ∃ y : Int32, y = x4_lp2121 + 1 := ⟨_, rfl⟩
            try (have t2161 := tadd e2160 rfl (b := 1) (by decide) (by omega))
            refine lv_iinc (v := z2159) (lv' := [(4, .int z2159), (3, .int z2156), (0, .ref (g 11)), (1, .int p0), (2, .int p1)]) hx hb dX1_countNotOn_51 hl (k := 1) rfl (by rw [e2160]; rfl) (by decide) rfl (fun ls hl => ?_)
            refine lv_goto (tgt := 5) hx hb dX1_countNotOn_54 (by decide) ?_
            exact ih_lp2121 z2159 z2156  _ _ _ (by omega) (by omega) hP hS (lv_sub hl [0, 1, 2, 3, 4] rfl)
  obtain ⟨n9, hn9⟩ : ∃ n : Nat, 2147483648 - 0 ≤ (n : Int) := ⟨((2147483648 - 0 : Int)).toNat, by omega⟩
  exact lp2121 n9 0 0  H _ ls (by have : (0 : Int32).toInt = 0 := (by decide); have : (0 : Int32).toInt = 0 := (by decide); omega) (by have : (0 : Int32).toInt = 0 := (by decide); have : (0 : Int32).toInt = 0 := (by decide); omega) hP hS hl
