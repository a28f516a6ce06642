set_option maxHeartbeats 8000000 in
set_option maxRecDepth 100000 in
theorem c_X3_readOperand_0 (l : Launch) (dC : Nat → ClassId) (dI : Nat → Nat → Nat) (g : Nat → Nat) (c : Nat → ClassId) (adK adV : Nat → Nat) (v : Nat → Int32) (F : Nat → Nat → Int32) (nr sz : Nat) (hg : injX g) (hnr : nr < 10) (hI : IX v F) : Met l yX3_readOperand (Cond.code yX3_readOperand cX3_readOperand 3 none :: wA) ({ frames := 46, cells := 0, slots := 0, locals := 1840 }) (va_Pc [.ref (g 7), .int 0] (PX dC dI g c adK adV v F (g (44 + nr)) sz)) (va_Qv (fun (u : StX) => IX u.1 u.2.1 ∧ alX u.1 u.2.1 = alX v F ∧ u.2.2 = (g (44 + nr)) ∧ (∀ k, k ∉ ([142, 143, 144] : List Nat) → u.1 k = v k) ∧ True) (BX dC dI g c) (AX g sz)) 0 0 (AX g sz) := by
  refine Met.ofW (cc := cX3_readOperand) (maxL := 3) (ret := none) (by decide) rfl ?_
  intro p e s m args below meth c0 s₁ B hml hv
  obtain ⟨rfl, hsz, hP, hK, hE⟩ := hv
  have hx := B.exec
  have hb := B.bytes
  have hr := B.returns
  have hts := atoms_spec (ws := Cond.code yX3_readOperand cX3_readOperand 3 none :: wA) B.pre
  have hwd : ∀ w ∈ wA, w.before _ s = true := fun w h => hts w (List.mem_cons_of_mem _ h)
  have hown : s.vm.findClass RX3 = some m.cls := findClass_of_methodNamed B.named
  have hlocks := B.notSynchronized
  subst hsz
  have hl := lv_entry ([.ref (g 7), .int 0]) (n := 3) (Nat.le_of_ble_eq_true rfl)
  rw [lg_entry_eq]
  generalize (lg_sl ([.ref (g 7), .int 0]) ++ List.replicate (3 - (lg_sl ([.ref (g 7), .int 0])).length) Slot.unset).toArray = ls at hl ⊢
  have hl : lv_has ls 3 [(0, .ref (g 7)), (1, .int 0)] := hl
  obtain ⟨H, eH⟩ : ∃ z, z = s.heap := ⟨_, rfl⟩
  have hP : va_P (dC, dI) classes (wX g c v F (g (44 + nr))) H := by rw [eH]; exact hP
  have hS : va_S (AX g s.heap.size) s.heap H [] := by rw [eH]; exact va_S.rf
  refine my_heap eH ?_
  have hal : alX v F = alX v F := rfl
  refine lv_aload_n hx hb dX3_readOperand_0 rfl (lv_at hl 0 rfl) ?_
  refine va_calli (va_runV (As := []) (rest := []) ⟨hx, hb, hml, hown, hwd⟩ (c_X3_next l dC dI g c adK adV v F nr H.size  hg hnr hI ) (cwV 0 hwd (gV wk_866 wk_863 wk_864 wk_865 wk_38) rfl rfl rfl (by decide +kernel) ⟨Nat.le_of_ble_eq_true rfl, Nat.le_of_ble_eq_true rfl⟩) ⟨PX.blind, va_recv hK hP (ci := 3) (q0 := 7) rfl rfl, fun U hU hW => ⟨rfl, PX.at hK hE hP hS hU hW⟩⟩ rfl rfl hl.1 rfl (lv_room (Nat.le_of_ble_eq_true rfl)) dX3_readOperand_1 ⟨Nat.le_of_ble_eq_true rfl, Nat.le_of_ble_eq_true rfl⟩) hS (fun q _ h => (freeX hS) q h) (freeX hS) (fun r6567 u t H1 locs ht hvm hw hB hz1 hk1 hS => ?_)
  unfold BX at hB
  rw [ht] at hB
  have hP : va_P (dC, dI) classes (wX g c v F (g (44 + nr))) H1 := hB
  generalize H1 = H at hP hS ⊢
  have rr_r6567 := i32_rng r6567
  refine lv_istore_n (lv' := [(2, .int r6567), (0, .ref (g 7)), (1, .int 0)]) hx hb dX3_readOperand_4 rfl hl (by decide) rfl (fun ls hl => ?_)
  refine lv_iload_n hx hb dX3_readOperand_5 rfl (lv_at hl 0 rfl) ?_
  refine lv_bipush (v := 45) hx hb dX3_readOperand_6 (by decide) ?_
  refine lv_icmp_ne (tgt := 36) hx hb dX3_readOperand_8 (by decide) (fun c6568 => ?_) (fun c6568 => ?_)
  · skip
    have t6569 := cv_ne (a := r6567.toInt) rfl (b := 45) (by decide) c6568
    refine lv_iload_n hx hb dX3_readOperand_36 rfl (lv_at hl 0 rfl) ?_
    refine lv_bipush (v := 40) hx hb dX3_readOperand_37 (by decide) ?_
    refine lv_icmp_ne (tgt := 66) hx hb dX3_readOperand_39 (by decide) (fun c6570 => ?_) (fun c6570 => ?_)
    · skip
      have t6571 := cv_ne (a := r6567.toInt) rfl (b := 40) (by decide) c6570
      refine lv_aload_n hx hb dX3_readOperand_66 rfl (lv_at hl 1 rfl) ?_
      refine lv_iload_n hx hb dX3_readOperand_67 rfl (lv_at hl 0 rfl) ?_
      refine va_callv (va_runV (As := [.int r6567]) (rest := []) ⟨hx, hb, hml, hown, hwd⟩ (c_X3_readNumberOrName l dC dI g c adK adV v F nr H.size r6567 hg hnr hI ) (cwV 1 hwd (gV wk_902 wk_899 wk_900 wk_901 wk_38) rfl rfl rfl (by decide +kernel) ⟨Nat.le_of_ble_eq_true rfl, Nat.le_of_ble_eq_true rfl⟩) ⟨PX.blind, va_recv hK hP (ci := 3) (q0 := 7) rfl rfl, fun U hU hW => ⟨rfl, PX.at hK hE hP hS hU hW⟩⟩ rfl rfl hl.1 rfl (lv_room (Nat.le_of_ble_eq_true rfl)) dX3_readOperand_68 ⟨Nat.le_of_ble_eq_true rfl, Nat.le_of_ble_eq_true rfl⟩) hS (fun q _ h => (freeX hS) q h) (freeX hS) (fun u t H1 locs ht hvm hw hB hz1 hk1 hS => ?_)
      unfold BX at hB
      rw [ht] at hB
      obtain ⟨v6573, F6574, rc9⟩ := u
      obtain ⟨hI, hal9, hrc, hf6575, hw⟩ := hw
      dsimp only at hI hal9 hrc hB hf6575 hw
      rw [hrc] at hB
      have hal := hal9.trans hal
      have hP : va_P (dC, dI) classes (wX g c v6573 F6574 (g (44 + nr))) H1 := hB
      generalize H1 = H at hP hS ⊢
      have hP9 : va_P (dC, dI) classes (wX g c v6573 F6574 (g (44 + nr))) H := hP
      exact W.vret hx hb hr (fun t ht hW => ⟨⟨(v6573, F6574, (g (44 + nr))), rfl, ⟨hI, hal, rfl, (frC (by decide) hf6575 (fun _ _ => rfl)), trivial⟩, (by show va_P _ _ _ t.heap; rw [ht]; exact hP9)⟩, hS.F ht⟩) hS.2.2 dX3_readOperand_71
    · skip
      have t6576 := cv_eq (a := r6567.toInt) rfl (b := 40) (by decide) c6570
      refine lv_aload_n hx hb dX3_readOperand_42 rfl (lv_at hl 1 rfl) ?_
      refine lv_iload_n hx hb dX3_readOperand_43 rfl (lv_at hl 2 rfl) ?_
      refine va_calli (va_runV (As := [.int 0]) (rest := []) ⟨hx, hb, hml, hown, hwd⟩ (c_X3_opens l dC dI g c adK adV v F nr H.size 0 hg hnr hI ) (cwV 1 hwd (gV wk_874 wk_871 wk_872 wk_873 wk_38) rfl rfl rfl (by decide +kernel) ⟨Nat.le_of_ble_eq_true rfl, Nat.le_of_ble_eq_true rfl⟩) ⟨PX.blind, va_recv hK hP (ci := 3) (q0 := 7) rfl rfl, fun U hU hW => ⟨rfl, PX.at hK hE hP hS hU hW⟩⟩ rfl rfl hl.1 rfl (lv_room (Nat.le_of_ble_eq_true rfl)) dX3_readOperand_44 ⟨Nat.le_of_ble_eq_true rfl, Nat.le_of_ble_eq_true rfl⟩) hS (fun q _ h => (freeX hS) q h) (freeX hS) (fun r6577 u t H1 locs ht hvm hw hB hz1 hk1 hS => ?_)
      unfold BX at hB
      rw [ht] at hB
      obtain ⟨v6578, F6579, rc9⟩ := u
      obtain ⟨hI, hal9, hrc, hf6580, hw⟩ := hw
      dsimp only at hI hal9 hrc hB hf6580 hw
      rw [hrc] at hB
      have hal := hal9.trans hal
      have hP : va_P (dC, dI) classes (wX g c v6578 F6579 (g (44 + nr))) H1 := hB
      have hw : (r6577.toInt = 1 ∧ (0 : Int32).toInt < 8) ∨ (r6577.toInt = 0 ∧ 8 ≤ (0 : Int32).toInt) := hw
      have k6581 : (0 : Int32).toInt = 0 := by decide
      generalize H1 = H at hP hS ⊢
      have hw_r6577 := hw
      refine lv_if_eq (tgt := 71) hx hb dX3_readOperand_47 (by decide) (fun c6582 => ?_) (fun c6582 => ?_)
      · skip
        have t6583 := cv_eq (a := r6577.toInt) rfl (b := 0) (by decide) c6582
        have hP9 : va_P (dC, dI) classes (wX g c v6578 F6579 (g (44 + nr))) H := hP
        exact W.vret hx hb hr (fun t ht hW => ⟨⟨(v6578, F6579, (g (44 + nr))), rfl, ⟨hI, hal, rfl, (frC (by decide) hf6580 (fun _ _ => rfl)), trivial⟩, (by show va_P _ _ _ t.heap; rw [ht]; exact hP9)⟩, hS.F ht⟩) hS.2.2 dX3_readOperand_71
      · skip
        have t6584 := cv_ne (a := r6577.toInt) rfl (b := 0) (by decide) c6582
        refine lv_aload_n hx hb dX3_readOperand_50 rfl (lv_at hl 1 rfl) ?_
        refine lv_iload_n hx hb dX3_readOperand_51 rfl (lv_at hl 2 rfl) ?_
        refine lv_iconst (v := 1) hx hb dX3_readOperand_52 (by decide) ?_
        refine lv_iadd hx hb dX3_readOperand_53 ?_
        refine my_top (v := 1) (by decide) ?_
        refine va_callv (va_runV (As := [.int 1]) (rest := []) ⟨hx, hb, hml, hown, hwd⟩ (c_X3_readChoice_1 l dC dI g c adK adV v6578 F6579 nr H.size  hg hnr hI ) (cwV 1 hwd (gV wk_859 wk_856 wk_857 wk_858 wk_38) rfl rfl rfl (by decide +kernel) ⟨Nat.le_of_ble_eq_true rfl, Nat.le_of_ble_eq_true rfl⟩) ⟨PX.blind, va_recv hK hP (ci := 3) (q0 := 7) rfl rfl, fun U hU hW => ⟨rfl, PX.at hK hE hP hS hU hW⟩⟩ rfl rfl hl.1 rfl (lv_room (Nat.le_of_ble_eq_true rfl)) dX3_readOperand_54 ⟨Nat.le_of_ble_eq_true rfl, Nat.le_of_ble_eq_true rfl⟩) hS (fun q _ h => (freeX hS) q h) (freeX hS) (fun u t H1 locs ht hvm hw hB hz1 hk1 hS => ?_)
        unfold BX at hB
        rw [ht] at hB
        obtain ⟨v6586, F6587, rc9⟩ := u
        obtain ⟨hI, hal9, hrc, hf6588, hw⟩ := hw
        dsimp only at hI hal9 hrc hB hf6588 hw
        rw [hrc] at hB
        have hal := hal9.trans hal
        have hP : va_P (dC, dI) classes (wX g c v6586 F6587 (g (44 + nr))) H1 := hB
        generalize H1 = H at hP hS ⊢
        refine lv_aload_n hx hb dX3_readOperand_57 rfl (lv_at hl 1 rfl) ?_
        refine lv_bipush (v := 41) hx hb dX3_readOperand_58 (by decide) ?_
        refine va_callv (va_runV (As := [.int 41]) (rest := []) ⟨hx, hb, hml, hown, hwd⟩ (c_X3_take l dC dI g c adK adV v6586 F6587 nr H.size 41 hg hnr hI ) (cwV 1 hwd (gV wk_886 wk_883 wk_884 wk_885 wk_38) rfl rfl rfl (by decide +kernel) ⟨Nat.le_of_ble_eq_true rfl, Nat.le_of_ble_eq_true rfl⟩) ⟨PX.blind, va_recv hK hP (ci := 3) (q0 := 7) rfl rfl, fun U hU hW => ⟨rfl, PX.at hK hE hP hS hU hW⟩⟩ rfl rfl hl.1 rfl (lv_room (Nat.le_of_ble_eq_true rfl)) dX3_readOperand_60 ⟨Nat.le_of_ble_eq_true rfl, Nat.le_of_ble_eq_true rfl⟩) hS (fun q _ h => (freeX hS) q h) (freeX hS) (fun u t H1 locs ht hvm hw hB hz1 hk1 hS => ?_)
        unfold BX at hB
        rw [ht] at hB
        obtain ⟨v6590, F6591, rc9⟩ := u
        obtain ⟨hI, hal9, hrc, hf6592, hw⟩ := hw
        dsimp only at hI hal9 hrc hB hf6592 hw
        rw [hrc] at hB
        have hal := hal9.trans hal
        have hP : va_P (dC, dI) classes (wX g c v6590 F6591 (g (44 + nr))) H1 := hB
        generalize H1 = H at hP hS ⊢
        refine lv_goto (tgt := 71) hx hb dX3_readOperand_63 (by decide) ?_
        have hP9 : va_P (dC, dI) classes (wX g c v6590 F6591 (g (44 + nr))) H := hP
        exact W.vret hx hb hr (fun t ht hW => ⟨⟨(v6590, F6591, (g (44 + nr))), rfl, ⟨hI, hal, rfl, (frC (by decide) hf6592 (frC (by decide) hf6588 (frC (by decide) hf6580 (fun _ _ => rfl)))), trivial⟩, (by show va_P _ _ _ t.heap; rw [ht]; exact hP9)⟩, hS.F ht⟩) hS.2.2 dX3_readOperand_71
  · skip
    have t6593 := cv_eq (a := r6567.toInt) rfl (b := 45) (by decide) c6568
    refine lv_aload_n hx hb dX3_readOperand_11 rfl (lv_at hl 1 rfl) ?_
    refine lv_iload_n hx hb dX3_readOperand_12 rfl (lv_at hl 2 rfl) ?_
    refine va_calli (va_runV (As := [.int 0]) (rest := []) ⟨hx, hb, hml, hown, hwd⟩ (c_X3_opens l dC dI g c adK adV v F nr H.size 0 hg hnr hI ) (cwV 1 hwd (gV wk_874 wk_871 wk_872 wk_873 wk_38) rfl rfl rfl (by decide +kernel) ⟨Nat.le_of_ble_eq_true rfl, Nat.le_of_ble_eq_true rfl⟩) ⟨PX.blind, va_recv hK hP (ci := 3) (q0 := 7) rfl rfl, fun U hU hW => ⟨rfl, PX.at hK hE hP hS hU hW⟩⟩ rfl rfl hl.1 rfl (lv_room (Nat.le_of_ble_eq_true rfl)) dX3_readOperand_13 ⟨Nat.le_of_ble_eq_true rfl, Nat.le_of_ble_eq_true rfl⟩) hS (fun q _ h => (freeX hS) q h) (freeX hS) (fun r6594 u t H1 locs ht hvm hw hB hz1 hk1 hS => ?_)
    unfold BX at hB
    rw [ht] at hB
    obtain ⟨v6595, F6596, rc9⟩ := u
    obtain ⟨hI, hal9, hrc, hf6597, hw⟩ := hw
    dsimp only at hI hal9 hrc hB hf6597 hw
    rw [hrc] at hB
    have hal := hal9.trans hal
    have hP : va_P (dC, dI) classes (wX g c v6595 F6596 (g (44 + nr))) H1 := hB
    have hw : (r6594.toInt = 1 ∧ (0 : Int32).toInt < 8) ∨ (r6594.toInt = 0 ∧ 8 ≤ (0 : Int32).toInt) := hw
    have k6598 : (0 : Int32).toInt = 0 := by decide
    generalize H1 = H at hP hS ⊢
    have hw_r6594 := hw
    refine lv_if_eq (tgt := 71) hx hb dX3_readOperand_16 (by decide) (fun c6599 => ?_) (fun c6599 => ?_)
    · skip
      have t6600 := cv_eq (a := r6594.toInt) rfl (b := 0) (by decide) c6599
      have hP9 : va_P (dC, dI) classes (wX g c v6595 F6596 (g (44 + nr))) H := hP
      exact W.vret hx hb hr (fun t ht hW => ⟨⟨(v6595, F6596, (g (44 + nr))), rfl, ⟨hI, hal, rfl, (frC (by decide) hf6597 (fun _ _ => rfl)), trivial⟩, (by show va_P _ _ _ t.heap; rw [ht]; exact hP9)⟩, hS.F ht⟩) hS.2.2 dX3_readOperand_71
    · skip
      have t6601 := cv_ne (a := r6594.toInt) rfl (b := 0) (by decide) c6599
      refine lv_aload_n hx hb dX3_readOperand_19 rfl (lv_at hl 1 rfl) ?_
      refine lv_iload_n hx hb dX3_readOperand_20 rfl (lv_at hl 2 rfl) ?_
      refine lv_iconst (v := 1) hx hb dX3_readOperand_21 (by decide) ?_
      refine lv_iadd hx hb dX3_readOperand_22 ?_
      refine my_top (v := 1) (by decide) ?_
      refine va_callv (va_runV (As := [.int 1]) (rest := []) ⟨hx, hb, hml, hown, hwd⟩ (c_X3_readOperand_1 l dC dI g c adK adV v6595 F6596 nr H.size  hg hnr hI ) (cwV 1 hwd (gV wk_895 wk_896 wk_897 wk_898 wk_38) rfl rfl rfl (by decide +kernel) ⟨Nat.le_of_ble_eq_true rfl, Nat.le_of_ble_eq_true rfl⟩) ⟨PX.blind, va_recv hK hP (ci := 3) (q0 := 7) rfl rfl, fun U hU hW => ⟨rfl, PX.at hK hE hP hS hU hW⟩⟩ rfl rfl hl.1 rfl (lv_room (Nat.le_of_ble_eq_true rfl)) dX3_readOperand_23 ⟨Nat.le_of_ble_eq_true rfl, Nat.le_of_ble_eq_true rfl⟩) hS (fun q _ h => (freeX hS) q h) (freeX hS) (fun u t H1 locs ht hvm hw hB hz1 hk1 hS => ?_)
      unfold BX at hB
      rw [ht] at hB
      obtain ⟨v6603, F6604, rc9⟩ := u
      obtain ⟨hI, hal9, hrc, hf6605, hw⟩ := hw
      dsimp only at hI hal9 hrc hB hf6605 hw
      rw [hrc] at hB
      have hal := hal9.trans hal
      have hP : va_P (dC, dI) classes (wX g c v6603 F6604 (g (44 + nr))) H1 := hB
      generalize H1 = H at hP hS ⊢
      refine lv_aload_n hx hb dX3_readOperand_26 rfl (lv_at hl 1 rfl) ?_
      refine lv_iconst (v := 2) hx hb dX3_readOperand_27 (by decide) ?_
      refine lv_iconst (v := 0) hx hb dX3_readOperand_28 (by decide) ?_
      refine va_calli (va_runV (As := [.int 2, .int 0]) (rest := []) ⟨hx, hb, hml, hown, hwd⟩ (c_X3_put l dC dI g c adK adV v6603 F6604 nr H.size 2 0 hg hnr hI (by have : (2 : Int32).toInt = 2 := (by decide); omega) (by have : (0 : Int32).toInt = 0 := (by decide); omega)) (cwV 2 hwd (gV wk_882 wk_879 wk_880 wk_881 wk_38) rfl rfl rfl (by decide +kernel) ⟨Nat.le_of_ble_eq_true rfl, Nat.le_of_ble_eq_true rfl⟩) ⟨PX.blind, va_recv hK hP (ci := 3) (q0 := 7) rfl rfl, fun U hU hW => ⟨rfl, PX.at hK hE hP hS hU hW⟩⟩ rfl rfl hl.1 rfl (lv_room (Nat.le_of_ble_eq_true rfl)) dX3_readOperand_29 ⟨Nat.le_of_ble_eq_true rfl, Nat.le_of_ble_eq_true rfl⟩) hS (fun q _ h => (freeX hS) q h) (freeX hS) (fun r6606 u t H1 locs ht hvm hw hB hz1 hk1 hS => ?_)
      unfold BX at hB
      rw [ht] at hB
      obtain ⟨v6607, F6608, rc9⟩ := u
      obtain ⟨hI, hal9, hrc, hf6609, hw⟩ := hw
      dsimp only at hI hal9 hrc hB hf6609 hw
      rw [hrc] at hB
      have hal := hal9.trans hal
      have hP : va_P (dC, dI) classes (wX g c v6607 F6608 (g (44 + nr))) H1 := hB
      have hw : -1 ≤ r6606.toInt ∧ r6606.toInt ≤ 119 := hw
      have k6610 : (2 : Int32).toInt = 2 := by decide
      have k6611 : (0 : Int32).toInt = 0 := by decide
      generalize H1 = H at hP hS ⊢
      have hw_r6606 := hw
      refine lv_pop hx hb dX3_readOperand_32 rfl ?_
      refine lv_goto (tgt := 71) hx hb dX3_readOperand_33 (by decide) ?_
      have hP9 : va_P (dC, dI) classes (wX g c v6607 F6608 (g (44 + nr))) H := hP
      exact W.vret hx hb hr (fun t ht hW => ⟨⟨(v6607, F6608, (g (44 + nr))), rfl, ⟨hI, hal, rfl, (frC (by decide) hf6609 (frC (by decide) hf6605 (frC (by decide) hf6597 (fun _ _ => rfl)))), trivial⟩, (by show va_P _ _ _ t.heap; rw [ht]; exact hP9)⟩, hS.F ht⟩) hS.2.2 dX3_readOperand_71
set_option maxHeartbeats 8000000 in
set_option maxRecDepth 100000 in
theorem c_X3_readProduct_0 (l : Launch) (dC : Nat → ClassId) (dI : Nat → Nat → Nat) (g : Nat → Nat) (c : Nat → ClassId) (adK adV : Nat → Nat) (v : Nat → Int32) (F : Nat → Nat → Int32) (nr sz : Nat) (hg : injX g) (hnr : nr < 10) (hI : IX v F) : Met l yX3_readProduct (Cond.code yX3_readProduct cX3_readProduct 4 none :: wA) ({ frames := 47, cells := 0, slots := 0, locals := 1880 }) (va_Pc [.ref (g 7), .int 0] (PX dC dI g c adK adV v F (g (44 + nr)) sz)) (va_Qv (fun (u : StX) => IX u.1 u.2.1 ∧ alX u.1 u.2.1 = alX v F ∧ u.2.2 = (g (44 + nr)) ∧ (∀ k, k ∉ ([142, 143, 144] : List Nat) → u.1 k = v k) ∧ True) (BX dC dI g c) (AX g sz)) 0 0 (AX g sz) := by
  refine Met.ofW (cc := cX3_readProduct) (maxL := 4) (ret := none) (by decide) rfl ?_
  intro p e s m args below meth c0 s₁ B hml hv
  obtain ⟨rfl, hsz, hP, hK, hE⟩ := hv
  have hx := B.exec
  have hb := B.bytes
  have hr := B.returns
  have hts := atoms_spec (ws := Cond.code yX3_readProduct cX3_readProduct 4 none :: wA) B.pre
  have hwd : ∀ w ∈ wA, w.before _ s = true := fun w h => hts w (List.mem_cons_of_mem _ h)
  have hown : s.vm.findClass RX3 = some m.cls := findClass_of_methodNamed B.named
  have hlocks := B.notSynchronized
  subst hsz
  have hl := lv_entry ([.ref (g 7), .int 0]) (n := 4) (Nat.le_of_ble_eq_true rfl)
  rw [lg_entry_eq]
  generalize (lg_sl ([.ref (g 7), .int 0]) ++ List.replicate (4 - (lg_sl ([.ref (g 7), .int 0])).length) Slot.unset).toArray = ls at hl ⊢
  have hl : lv_has ls 4 [(0, .ref (g 7)), (1, .int 0)] := hl
  obtain ⟨H, eH⟩ : ∃ z, z = s.heap := ⟨_, rfl⟩
  have hP : va_P (dC, dI) classes (wX g c v F (g (44 + nr))) H := by rw [eH]; exact hP
  have hS : va_S (AX g s.heap.size) s.heap H [] := by rw [eH]; exact va_S.rf
  refine my_heap eH ?_
  have hal : alX v F = alX v F := rfl
  refine lv_aload_n hx hb dX3_readProduct_0 rfl (lv_at hl 0 rfl) ?_
  refine lv_iload_n hx hb dX3_readProduct_1 rfl (lv_at hl 1 rfl) ?_
  refine va_callv (va_runV (As := [.int 0]) (rest := []) ⟨hx, hb, hml, hown, hwd⟩ (c_X3_readOperand_0 l dC dI g c adK adV v F nr H.size  hg hnr hI ) (cwV 1 hwd (gV wk_895 wk_896 wk_897 wk_898 wk_38) rfl rfl rfl (by decide +kernel) ⟨Nat.le_of_ble_eq_true rfl, Nat.le_of_ble_eq_true rfl⟩) ⟨PX.blind, va_recv hK hP (ci := 3) (q0 := 7) rfl rfl, fun U hU hW => ⟨rfl, PX.at hK hE hP hS hU hW⟩⟩ rfl rfl hl.1 rfl (lv_room (Nat.le_of_ble_eq_true rfl)) dX3_readProduct_2 ⟨Nat.le_of_ble_eq_true rfl, Nat.le_of_ble_eq_true rfl⟩) hS (fun q _ h => (freeX hS) q h) (freeX hS) (fun u t H1 locs ht hvm hw hB hz1 hk1 hS => ?_)
  unfold BX at hB
  rw [ht] at hB
  obtain ⟨v6613, F6614, rc9⟩ := u
  obtain ⟨hI, hal9, hrc, hf6615, hw⟩ := hw
  dsimp only at hI hal9 hrc hB hf6615 hw
  rw [hrc] at hB
  have hal := hal9.trans hal
  have hP : va_P (dC, dI) classes (wX g c v6613 F6614 (g (44 + nr))) H1 := hB
  generalize H1 = H at hP hS ⊢
  refine lv_iconst (v := 0) hx hb dX3_readProduct_5 (by decide) ?_
  refine lv_istore_n (lv' := [(2, .int 0), (0, .ref (g 7)), (1, .int 0)]) hx hb dX3_readProduct_6 rfl hl (by decide) rfl (fun ls hl => ?_)
  have lp6616 : ∀ (n : Nat) (x2_lp6616 : Int32) (v_lp6616 : Nat → Int32) (F_lp6616 : Nat → Nat → Int32) (H : Heap) (locs : List Loc) (ls : Array Slot), (0 ≤ x2_lp6616.toInt) → (2147483648 - x2_lp6616.toInt ≤ (n : Int)) → (∀ k, k ∉ ([142, 143, 144] : List Nat) → v_lp6616 k = v6613 k) → IX v_lp6616 F_lp6616 → alX v_lp6616 F_lp6616 = alX v F → va_P (dC, dI) classes (wX g c v_lp6616 F_lp6616 (g (44 + nr))) H → va_S (AX g s.heap.size) s.heap H locs → lv_has ls 4 [(2, .int x2_lp6616), (0, .ref (g 7)), (1, .int 0)] → W p l e (headSpec (Cond.code yX3_readProduct cX3_readProduct 4 none :: wA) ({ frames := 47, cells := 0, slots := 0, locals := 1880 })).room s m ([.ref (g 7), .int 0] : List Value).toArray below meth c0 H locs 0 0 (MQ below (va_Qv (fun (u : StX) => IX u.1 u.2.1 ∧ alX u.1 u.2.1 = alX v F ∧ u.2.2 = (g (44 + nr)) ∧ (∀ k, k ∉ ([142, 143, 144] : List Nat) → u.1 k = v k) ∧ True) (BX dC dI g c) (AX g s.heap.size)) ([.ref (g 7), .int 0] : List Value).toArray s 0 0 (AX g s.heap.size)) (F0 m 7 ls []) := by
    intro n
    induction n with
    | zero =>
      intro x2_lp6616 v_lp6616 F_lp6616 H locs ls t6617 hm hf_lp6616 hI hal hP hS hl
      exfalso
      have := i32_rng x2_lp6616
      have hI1 := hI.1
      omega
    | succ n ih_lp6616 =>
      intro x2_lp6616 v_lp6616 F_lp6616 H locs ls t6617 hm hf_lp6616 hI hal hP hS hl
      have rx2_lp6616 := i32_rng x2_lp6616
      refine lv_iload_n hx hb dX3_readProduct_7 rfl (lv_at hl 0 rfl) ?_
      refine lv_bipush (v := 120) hx hb dX3_readProduct_8 (by decide) ?_
      refine lv_icmp_ge (tgt := 76) hx hb dX3_readProduct_10 (by decide) (fun c6618 => ?_) (fun c6618 => ?_)
      · skip
        have t6619 := cv_le (a := 120) (by decide) (b := x2_lp6616.toInt) rfl c6618
        have hP9 : va_P (dC, dI) classes (wX g c v_lp6616 F_lp6616 (g (44 + nr))) H := hP
        exact W.vret hx hb hr (fun t ht hW => ⟨⟨(v_lp6616, F_lp6616, (g (44 + nr))), rfl, ⟨hI, hal, rfl, (frC (by decide) hf_lp6616 (frC (by decide) hf6615 (fun _ _ => rfl))), trivial⟩, (by show va_P _ _ _ t.heap; rw [ht]; exact hP9)⟩, hS.F ht⟩) hS.2.2 dX3_readProduct_76
      · skip
        have t6620 := cv_nle (a := 120) (by decide) (b := x2_lp6616.toInt) rfl c6618
        refine lv_aload_n hx hb dX3_readProduct_13 rfl (lv_at hl 1 rfl) ?_
        refine va_calli (va_runV (As := []) (rest := []) ⟨hx, hb, hml, hown, hwd⟩ (c_X3_next l dC dI g c adK adV v_lp6616 F_lp6616 nr H.size  hg hnr hI ) (cwV 0 hwd (gV wk_866 wk_863 wk_864 wk_865 wk_38) rfl rfl rfl (by decide +kernel) ⟨Nat.le_of_ble_eq_true rfl, Nat.le_of_ble_eq_true rfl⟩) ⟨PX.blind, va_recv hK hP (ci := 3) (q0 := 7) rfl rfl, fun U hU hW => ⟨rfl, PX.at hK hE hP hS hU hW⟩⟩ rfl rfl hl.1 rfl (lv_room (Nat.le_of_ble_eq_true rfl)) dX3_readProduct_14 ⟨Nat.le_of_ble_eq_true rfl, Nat.le_of_ble_eq_true rfl⟩) hS (fun q _ h => (freeX hS) q h) (freeX hS) (fun r6621 u t H1 locs ht hvm hw hB hz1 hk1 hS => ?_)
        unfold BX at hB
        rw [ht] at hB
        have hP : va_P (dC, dI) classes (wX g c v_lp6616 F_lp6616 (g (44 + nr))) H1 := hB
        generalize H1 = H at hP hS ⊢
        have rr_r6621 := i32_rng r6621
        refine lv_bipush (v := 42) hx hb dX3_readProduct_17 (by decide) ?_
        refine lv_icmp_eq (tgt := 31) hx hb dX3_readProduct_19 (by decide) (fun c6622 => ?_) (fun c6622 => ?_)
        · skip
          have t6623 := cv_eq (a := r6621.toInt) rfl (b := 42) (by decide) c6622
          refine lv_aload_n hx hb dX3_readProduct_31 rfl (lv_at hl 1 rfl) ?_
          refine va_calli (va_runV (As := []) (rest := []) ⟨hx, hb, hml, hown, hwd⟩ (c_X3_next l dC dI g c adK adV v_lp6616 F_lp6616 nr H.size  hg hnr hI ) (cwV 0 hwd (gV wk_866 wk_863 wk_864 wk_865 wk_38) rfl rfl rfl (by decide +kernel) ⟨Nat.le_of_ble_eq_true rfl, Nat.le_of_ble_eq_true rfl⟩) ⟨PX.blind, va_recv hK hP (ci := 3) (q0 := 7) rfl rfl, fun U hU hW => ⟨rfl, PX.at hK hE hP hS hU hW⟩⟩ rfl rfl hl.1 rfl (lv_room (Nat.le_of_ble_eq_true rfl)) dX3_readProduct_32 ⟨Nat.le_of_ble_eq_true rfl, Nat.le_of_ble_eq_true rfl⟩) hS (fun q _ h => (freeX hS) q h) (freeX hS) (fun r6624 u t H1 locs ht hvm hw hB hz1 hk1 hS => ?_)
          unfold BX at hB
          rw [ht] at hB
          have hP : va_P (dC, dI) classes (wX g c v_lp6616 F_lp6616 (g (44 + nr))) H1 := hB
          generalize H1 = H at hP hS ⊢
          have rr_r6624 := i32_rng r6624
          refine lv_bipush (v := 42) hx hb dX3_readProduct_35 (by decide) ?_
          refine lv_icmp_ne (tgt := 45) hx hb dX3_readProduct_37 (by decide) (fun c6625 => ?_) (fun c6625 => ?_)
          · skip
            have t6626 := cv_ne (a := r6624.toInt) rfl (b := 42) (by decide) c6625
            refine lv_bipush (v := 8) hx hb dX3_readProduct_45 (by decide) ?_
            refine lv_istore_n (lv' := [(3, .int 8), (2, .int x2_lp6616), (0, .ref (g 7)), (1, .int 0)]) hx hb dX3_readProduct_47 rfl hl (by decide) rfl (fun ls hl => ?_)
            refine lv_aload_n hx hb dX3_readProduct_48 rfl (lv_at hl 2 rfl) ?_
            refine lv_dup hx hb dX3_readProduct_49 rfl ?_
            refine va_get (D := (dC, dI)) (ci := 3) (v := .int (v_lp6616 143)) (C := RX3) (T := TX3) (N := 5) hx hb hwd inA_X3 hown hK hP 7 rfl rfl 3 (by decide) (hwd _ wk_853) (fun _ h9 => h9) rfl dX3_readProduct_50 ?_
            refine lv_iconst (v := 1) hx hb dX3_readProduct_53 (by decide) ?_
            refine lv_iadd hx hb dX3_readProduct_54 ?_
            refine lv_topi (fun z6627 e6628 => ?_)
            try (have t6629 := tadd e6628 (a := (v_lp6616 143).toInt) rfl (b := 1) (by decide) (by omega))
            refine va_put (D := (dC, dI)) (ci := 3) (v := .int z6627) (ty := .int) (C := RX3) (T := TX3) (N := 5) (fs := fsX_7 g v_lp6616 (g (44 + nr))) hx hb hwd inA_X3 tyX3 tyX3_ok nmX3 hown hK hP (DX hg) hS 7 rfl rfl 3 (by decide) (hwd _ wk_853) (fun _ h9 => h9) rfl (by decide +kernel) rfl rfl (Nat.le_of_ble_eq_true rfl) dX3_readProduct_55 (fun H locs hP _ hS => ?_)
            have hP := va_P_eq (pX_143 g c _ _ _ _) hP
            have hI := IX.put0 hI 143 z6627 rfl
            have hal := (alX_v _ _ 143 z6627 (by decide) (by decide) (by decide) (by decide)).trans hal
            refine lv_aload_n hx hb dX3_readProduct_58 rfl (lv_at hl 2 rfl) ?_
            refine lv_iload_n hx hb dX3_readProduct_59 rfl (lv_at hl 3 rfl) ?_
            refine va_callv (va_runV (As := [.int 0]) (rest := []) ⟨hx, hb, hml, hown, hwd⟩ (c_X3_readOperand_0 l dC dI g c adK adV (va_up v_lp6616 143 z6627) F_lp6616 nr H.size  hg hnr hI ) (cwV 1 hwd (gV wk_895 wk_896 wk_897 wk_898 wk_38) rfl rfl rfl (by decide +kernel) ⟨Nat.le_of_ble_eq_true rfl, Nat.le_of_ble_eq_true rfl⟩) ⟨PX.blind, va_recv hK hP (ci := 3) (q0 := 7) rfl rfl, fun U hU hW => ⟨rfl, PX.at hK hE hP hS hU hW⟩⟩ rfl rfl hl.1 rfl (lv_room (Nat.le_of_ble_eq_true rfl)) dX3_readProduct_60 ⟨Nat.le_of_ble_eq_true rfl, Nat.le_of_ble_eq_true rfl⟩) hS (fun q _ h => (freeX hS) q h) (freeX hS) (fun u t H1 locs ht hvm hw hB hz1 hk1 hS => ?_)
            unfold BX at hB
            rw [ht] at hB
            obtain ⟨v6631, F6632, rc9⟩ := u
            obtain ⟨hI, hal9, hrc, hf6633, hw⟩ := hw
            dsimp only at hI hal9 hrc hB hf6633 hw
            rw [hrc] at hB
            have hal := hal9.trans hal
            have hP : va_P (dC, dI) classes (wX g c v6631 F6632 (g (44 + nr))) H1 := hB
            generalize H1 = H at hP hS ⊢
            refine lv_aload_n hx hb dX3_readProduct_63 rfl (lv_at hl 2 rfl) ?_
            refine lv_iload_n hx hb dX3_readProduct_64 rfl (lv_at hl 0 rfl) ?_
            refine lv_iconst (v := 0) hx hb dX3_readProduct_65 (by decide) ?_
            refine va_calli (va_runV (As := [.int 8, .int 0]) (rest := []) ⟨hx, hb, hml, hown, hwd⟩ (c_X3_put l dC dI g c adK adV v6631 F6632 nr H.size 8 0 hg hnr hI (by have : (8 : Int32).toInt = 8 := (by decide); omega) (by have : (0 : Int32).toInt = 0 := (by decide); omega)) (cwV 2 hwd (gV wk_882 wk_879 wk_880 wk_881 wk_38) rfl rfl rfl (by decide +kernel) ⟨Nat.le_of_ble_eq_true rfl, Nat.le_of_ble_eq_true rfl⟩) ⟨PX.blind, va_recv hK hP (ci := 3) (q0 := 7) rfl rfl, fun U hU hW => ⟨rfl, PX.at hK hE hP hS hU hW⟩⟩ rfl rfl hl.1 rfl (lv_room (Nat.le_of_ble_eq_true rfl)) dX3_readProduct_66 ⟨Nat.le_of_ble_eq_true rfl, Nat.le_of_ble_eq_true rfl⟩) hS (fun q _ h => (freeX hS) q h) (freeX hS) (fun r6634 u t H1 locs ht hvm hw hB hz1 hk1 hS => ?_)
            unfold BX at hB
            rw [ht] at hB
            obtain ⟨v6635, F6636, rc9⟩ := u
            obtain ⟨hI, hal9, hrc, hf6637, hw⟩ := hw
            dsimp only at hI hal9 hrc hB hf6637 hw
            rw [hrc] at hB
            have hal := hal9.trans hal
            have hP : va_P (dC, dI) classes (wX g c v6635 F6636 (g (44 + nr))) H1 := hB
            have hw : -1 ≤ r6634.toInt ∧ r6634.toInt ≤ 119 := hw
            have k6638 : (8 : Int32).toInt = 8 := by decide
            have k6639 : (0 : Int32).toInt = 0 := by decide
            generalize H1 = H at hP hS ⊢
            have hw_r6634 := hw
            refine lv_pop hx hb dX3_readProduct_69 rfl ?_
            obtain ⟨z6640, e6641⟩ : ∃ y : Int32, y = x2_lp6616 + 1 := ⟨_, rfl⟩
            try (have t6642 := tadd e6641 rfl (b := 1) (by decide) (by omega))
            refine lv_iinc (v := z6640) (lv' := [(2, .int z6640), (3, .int 8), (0, .ref (g 7)), (1, .int 0)]) hx hb dX3_readProduct_70 hl (k := 1) rfl (by rw [e6641]; rfl) (by decide) rfl (fun ls hl => ?_)
            refine lv_goto (tgt := 7) hx hb dX3_readProduct_73 (by decide) ?_
            exact ih_lp6616 z6640 v6635 F6636 _ _ _ (by omega) (by omega) (frC (by decide) hf6637 (frC (by decide) hf6633 (frU (by decide) hf_lp6616))) hI hal hP hS (lv_sub hl [0, 2, 3] rfl)
          · skip
            have t6643 := cv_eq (a := r6624.toInt) rfl (b := 42) (by decide) c6625
            refine lv_bipush (v := 7) hx hb dX3_readProduct_40 (by decide) ?_
            refine lv_goto (tgt := 47) hx hb dX3_readProduct_42 (by decide) ?_
            refine lv_istore_n (lv' := [(3, .int 7), (2, .int x2_lp6616), (0, .ref (g 7)), (1, .int 0)]) hx hb dX3_readProduct_47 rfl hl (by decide) rfl (fun ls hl => ?_)
            refine lv_aload_n hx hb dX3_readProduct_48 rfl (lv_at hl 2 rfl) ?_
            refine lv_dup hx hb dX3_readProduct_49 rfl ?_
            refine va_get (D := (dC, dI)) (ci := 3) (v := .int (v_lp6616 143)) (C := RX3) (T := TX3) (N := 5) hx hb hwd inA_X3 hown hK hP 7 rfl rfl 3 (by decide) (hwd _ wk_853) (fun _ h9 => h9) rfl dX3_readProduct_50 ?_
            refine lv_iconst (v := 1) hx hb dX3_readProduct_53 (by decide) ?_
            refine lv_iadd hx hb dX3_readProduct_54 ?_
            refine lv_topi (fun z6644 e6645 => ?_)
            try (have t6646 := tadd e6645 (a := (v_lp6616 143).toInt) rfl (b := 1) (by decide) (by omega))
            refine va_put (D := (dC, dI)) (ci := 3) (v := .int z6644) (ty := .int) (C := RX3) (T := TX3) (N := 5) (fs := fsX_7 g v_lp6616 (g (44 + nr))) hx hb hwd inA_X3 tyX3 tyX3_ok nmX3 hown hK hP (DX hg) hS 7 rfl rfl 3 (by decide) (hwd _ wk_853) (fun _ h9 => h9) rfl (by decide +kernel) rfl rfl (Nat.le_of_ble_eq_true rfl) dX3_readProduct_55 (fun H locs hP _ hS => ?_)
            have hP := va_P_eq (pX_143 g c _ _ _ _) hP
            have hI := IX.put0 hI 143 z6644 rfl
            have hal := (alX_v _ _ 143 z6644 (by decide) (by decide) (by decide) (by decide)).trans hal
            refine lv_aload_n hx hb dX3_readProduct_58 rfl (lv_at hl 2 rfl) ?_
            refine lv_iload_n hx hb dX3_readProduct_59 rfl (lv_at hl 3 rfl) ?_
            refine va_callv (va_runV (As := [.int 0]) (rest := []) ⟨hx, hb, hml, hown, hwd⟩ (c_X3_readOperand_0 l dC dI g c adK adV (va_up v_lp6616 143 z6644) F_lp6616 nr H.size  hg hnr hI ) (cwV 1 hwd (gV wk_895 wk_896 wk_897 wk_898 wk_38) rfl rfl rfl (by decide +kernel) ⟨Nat.le_of_ble_eq_true rfl, Nat.le_of_ble_eq_true rfl⟩) ⟨PX.blind, va_recv hK hP (ci := 3) (q0 := 7) rfl rfl, fun U hU hW => ⟨rfl, PX.at hK hE hP hS hU hW⟩⟩ rfl rfl hl.1 rfl (lv_room (Nat.le_of_ble_eq_true rfl)) dX3_readProduct_60 ⟨Nat.le_of_ble_eq_true rfl, Nat.le_of_ble_eq_true rfl⟩) hS (fun q _ h => (freeX hS) q h) (freeX hS) (fun u t H1 locs ht hvm hw hB hz1 hk1 hS => ?_)
            unfold BX at hB
            rw [ht] at hB
            obtain ⟨v6648, F6649, rc9⟩ := u
            obtain ⟨hI, hal9, hrc, hf6650, hw⟩ := hw
            dsimp only at hI hal9 hrc hB hf6650 hw
            rw [hrc] at hB
            have hal := hal9.trans hal
            have hP : va_P (dC, dI) classes (wX g c v6648 F6649 (g (44 + nr))) H1 := hB
            generalize H1 = H at hP hS ⊢
            refine lv_aload_n hx hb dX3_readProduct_63 rfl (lv_at hl 2 rfl) ?_
            refine lv_iload_n hx hb dX3_readProduct_64 rfl (lv_at hl 0 rfl) ?_
            refine lv_iconst (v := 0) hx hb dX3_readProduct_65 (by decide) ?_
            refine va_calli (va_runV (As := [.int 7, .int 0]) (rest := []) ⟨hx, hb, hml, hown, hwd⟩ (c_X3_put l dC dI g c adK adV v6648 F6649 nr H.size 7 0 hg hnr hI (by have : (7 : Int32).toInt = 7 := (by decide); omega) (by have : (0 : Int32).toInt = 0 := (by decide); omega)) (cwV 2 hwd (gV wk_882 wk_879 wk_880 wk_881 wk_38) rfl rfl rfl (by decide +kernel) ⟨Nat.le_of_ble_eq_true rfl, Nat.le_of_ble_eq_true rfl⟩) ⟨PX.blind, va_recv hK hP (ci := 3) (q0 := 7) rfl rfl, fun U hU hW => ⟨rfl, PX.at hK hE hP hS hU hW⟩⟩ rfl rfl hl.1 rfl (lv_room (Nat.le_of_ble_eq_true rfl)) dX3_readProduct_66 ⟨Nat.le_of_ble_eq_true rfl, Nat.le_of_ble_eq_true rfl⟩) hS (fun q _ h => (freeX hS) q h) (freeX hS) (fun r6651 u t H1 locs ht hvm hw hB hz1 hk1 hS => ?_)
            unfold BX at hB
            rw [ht] at hB
            obtain ⟨v6652, F6653, rc9⟩ := u
            obtain ⟨hI, hal9, hrc, hf6654, hw⟩ := hw
            dsimp only at hI hal9 hrc hB hf6654 hw
            rw [hrc] at hB
            have hal := hal9.trans hal
            have hP : va_P (dC, dI) classes (wX g c v6652 F6653 (g (44 + nr))) H1 := hB
            have hw : -1 ≤ r6651.toInt ∧ r6651.toInt ≤ 119 := hw
            have k6655 : (7 : Int32).toInt = 7 := by decide
            have k6656 : (0 : Int32).toInt = 0 := by decide
            generalize H1 = H at hP hS ⊢
            have hw_r6651 := hw
            refine lv_pop hx hb dX3_readProduct_69 rfl ?_
            obtain ⟨z6657, e6658⟩ : ∃ y : Int32, y = x2_lp6616 + 1 := ⟨_, rfl⟩
            try (have t6659 := tadd e6658 rfl (b := 1) (by decide) (by omega))
            refine lv_iinc (v := z6657) (lv' := [(2, .int z6657), (3, .int 7), (0, .ref (g 7)), (1, .int 0)]) hx hb dX3_readProduct_70 hl (k := 1) rfl (by rw [e6658]; rfl) (by decide) rfl (fun ls hl => ?_)
            refine lv_goto (tgt := 7) hx hb dX3_readProduct_73 (by decide) ?_
            exact ih_lp6616 z6657 v6652 F6653 _ _ _ (by omega) (by omega) (frC (by decide) hf6654 (frC (by decide) hf6650 (frU (by decide) hf_lp6616))) hI hal hP hS (lv_sub hl [0, 2, 3] rfl)
        · skip
          have t6660 := cv_ne (a := r6621.toInt) rfl (b := 42) (by decide) c6622
          refine lv_aload_n hx hb dX3_readProduct_22 rfl (lv_at hl 1 rfl) ?_
          refine va_calli (va_runV (As := []) (rest := []) ⟨hx, hb, hml, hown, hwd⟩ (c_X3_next l dC dI g c adK adV v_lp6616 F_lp6616 nr H.size  hg hnr hI ) (cwV 0 hwd (gV wk_866 wk_863 wk_864 wk_865 wk_38) rfl rfl rfl (by decide +kernel) ⟨Nat.le_of_ble_eq_true rfl, Nat.le_of_ble_eq_true rfl⟩) ⟨PX.blind, va_recv hK hP (ci := 3) (q0 := 7) rfl rfl, fun U hU hW => ⟨rfl, PX.at hK hE hP hS hU hW⟩⟩ rfl rfl hl.1 rfl (lv_room (Nat.le_of_ble_eq_true rfl)) dX3_readProduct_23 ⟨Nat.le_of_ble_eq_true rfl, Nat.le_of_ble_eq_true rfl⟩) hS (fun q _ h => (freeX hS) q h) (freeX hS) (fun r6661 u t H1 locs ht hvm hw hB hz1 hk1 hS => ?_)
          unfold BX at hB
          rw [ht] at hB
          have hP : va_P (dC, dI) classes (wX g c v_lp6616 F_lp6616 (g (44 + nr))) H1 := hB
          generalize H1 = H at hP hS ⊢
          have rr_r6661 := i32_rng r6661
          refine lv_bipush (v := 47) hx hb dX3_readProduct_26 (by decide) ?_
          refine lv_icmp_ne (tgt := 76) hx hb dX3_readProduct_28 (by decide) (fun c6662 => ?_) (fun c6662 => ?_)
          · skip
            have t6663 := cv_ne (a := r6661.toInt) rfl (b := 47) (by decide) c6662
            have hP9 : va_P (dC, dI) classes (wX g c v_lp6616 F_lp6616 (g (44 + nr))) H := hP
            exact W.vret hx hb hr (fun t ht hW => ⟨⟨(v_lp6616, F_lp6616, (g (44 + nr))), rfl, ⟨hI, hal, rfl, (frC (by decide) hf_lp6616 (frC (by decide) hf6615 (fun _ _ => rfl))), trivial⟩, (by show va_P _ _ _ t.heap; rw [ht]; exact hP9)⟩, hS.F ht⟩) hS.2.2 dX3_readProduct_76
          · skip
            have t6664 := cv_eq (a := r6661.toInt) rfl (b := 47) (by decide) c6662
            refine lv_aload_n hx hb dX3_readProduct_31 rfl (lv_at hl 1 rfl) ?_
            refine va_calli (va_runV (As := []) (rest := []) ⟨hx, hb, hml, hown, hwd⟩ (c_X3_next l dC dI g c adK adV v_lp6616 F_lp6616 nr H.size  hg hnr hI ) (cwV 0 hwd (gV wk_866 wk_863 wk_864 wk_865 wk_38) rfl rfl rfl (by decide +kernel) ⟨Nat.le_of_ble_eq_true rfl, Nat.le_of_ble_eq_true rfl⟩) ⟨PX.blind, va_recv hK hP (ci := 3) (q0 := 7) rfl rfl, fun U hU hW => ⟨rfl, PX.at hK hE hP hS hU hW⟩⟩ rfl rfl hl.1 rfl (lv_room (Nat.le_of_ble_eq_true rfl)) dX3_readProduct_32 ⟨Nat.le_of_ble_eq_true rfl, Nat.le_of_ble_eq_true rfl⟩) hS (fun q _ h => (freeX hS) q h) (freeX hS) (fun r6665 u t H1 locs ht hvm hw hB hz1 hk1 hS => ?_)
            unfold BX at hB
            rw [ht] at hB
            have hP : va_P (dC, dI) classes (wX g c v_lp6616 F_lp6616 (g (44 + nr))) H1 := hB
            generalize H1 = H at hP hS ⊢
            have rr_r6665 := i32_rng r6665
            refine lv_bipush (v := 42) hx hb dX3_readProduct_35 (by decide) ?_
            refine lv_icmp_ne (tgt := 45) hx hb dX3_readProduct_37 (by decide) (fun c6666 => ?_) (fun c6666 => ?_)
            · skip
              have t6667 := cv_ne (a := r6665.toInt) rfl (b := 42) (by decide) c6666
              refine lv_bipush (v := 8) hx hb dX3_readProduct_45 (by decide) ?_
              refine lv_istore_n (lv' := [(3, .int 8), (2, .int x2_lp6616), (0, .ref (g 7)), (1, .int 0)]) hx hb dX3_readProduct_47 rfl hl (by decide) rfl (fun ls hl => ?_)
              refine lv_aload_n hx hb dX3_readProduct_48 rfl (lv_at hl 2 rfl) ?_
              refine lv_dup hx hb dX3_readProduct_49 rfl ?_
              refine va_get (D := (dC, dI)) (ci := 3) (v := .int (v_lp6616 143)) (C := RX3) (T := TX3) (N := 5) hx hb hwd inA_X3 hown hK hP 7 rfl rfl 3 (by decide) (hwd _ wk_853) (fun _ h9 => h9) rfl dX3_readProduct_50 ?_
              refine lv_iconst (v := 1) hx hb dX3_readProduct_53 (by decide) ?_
              refine lv_iadd hx hb dX3_readProduct_54 ?_
              refine lv_topi (fun z6668 e6669 => ?_)
              try (have t6670 := tadd e6669 (a := (v_lp6616 143).toInt) rfl (b := 1) (by decide) (by omega))
              refine va_put (D := (dC, dI)) (ci := 3) (v := .int z6668) (ty := .int) (C := RX3) (T := TX3) (N := 5) (fs := fsX_7 g v_lp6616 (g (44 + nr))) hx hb hwd inA_X3 tyX3 tyX3_ok nmX3 hown hK hP (DX hg) hS 7 rfl rfl 3 (by decide) (hwd _ wk_853) (fun _ h9 => h9) rfl (by decide +kernel) rfl rfl (Nat.le_of_ble_eq_true rfl) dX3_readProduct_55 (fun H locs hP _ hS => ?_)
              have hP := va_P_eq (pX_143 g c _ _ _ _) hP
              have hI := IX.put0 hI 143 z6668 rfl
              have hal := (alX_v _ _ 143 z6668 (by decide) (by decide) (by decide) (by decide)).trans hal
              refine lv_aload_n hx hb dX3_readProduct_58 rfl (lv_at hl 2 rfl) ?_
              refine lv_iload_n hx hb dX3_readProduct_59 rfl (lv_at hl 3 rfl) ?_
              refine va_callv (va_runV (As := [.int 0]) (rest := []) ⟨hx, hb, hml, hown, hwd⟩ (c_X3_readOperand_0 l dC dI g c adK adV (va_up v_lp6616 143 z6668) F_lp6616 nr H.size  hg hnr hI ) (cwV 1 hwd (gV wk_895 wk_896 wk_897 wk_898 wk_38) rfl rfl rfl (by decide +kernel) ⟨Nat.le_of_ble_eq_true rfl, Nat.le_of_ble_eq_true rfl⟩) ⟨PX.blind, va_recv hK hP (ci := 3) (q0 := 7) rfl rfl, fun U hU hW => ⟨rfl, PX.at hK hE hP hS hU hW⟩⟩ rfl rfl hl.1 rfl (lv_room (Nat.le_of_ble_eq_true rfl)) dX3_readProduct_60 ⟨Nat.le_of_ble_eq_true rfl, Nat.le_of_ble_eq_true rfl⟩) hS (fun q _ h => (freeX hS) q h) (freeX hS) (fun u t H1 locs ht hvm hw hB hz1 hk1 hS => ?_)
              unfold BX at hB
              rw [ht] at hB
              obtain ⟨v6672, F6673, rc9⟩ := u
              obtain ⟨hI, hal9, hrc, hf6674, hw⟩ := hw
              dsimp only at hI hal9 hrc hB hf6674 hw
              rw [hrc] at hB
              have hal := hal9.trans hal
              have hP : va_P (dC, dI) classes (wX g c v6672 F6673 (g (44 + nr))) H1 := hB
              generalize H1 = H at hP hS ⊢
              refine lv_aload_n hx hb dX3_readProduct_63 rfl (lv_at hl 2 rfl) ?_
              refine lv_iload_n hx hb dX3_readProduct_64 rfl (lv_at hl 0 rfl) ?_
              refine lv_iconst (v := 0) hx hb dX3_readProduct_65 (by decide) ?_
              refine va_calli (va_runV (As := [.int 8, .int 0]) (rest := []) ⟨hx, hb, hml, hown, hwd⟩ (c_X3_put l dC dI g c adK adV v6672 F6673 nr H.size 8 0 hg hnr hI (by have : (8 : Int32).toInt = 8 := (by decide); omega) (by have : (0 : Int32).toInt = 0 := (by decide); omega)) (cwV 2 hwd (gV wk_882 wk_879 wk_880 wk_881 wk_38) rfl rfl rfl (by decide +kernel) ⟨Nat.le_of_ble_eq_true rfl, Nat.le_of_ble_eq_true rfl⟩) ⟨PX.blind, va_recv hK hP (ci := 3) (q0 := 7) rfl rfl, fun U hU hW => ⟨rfl, PX.at hK hE hP hS hU hW⟩⟩ rfl rfl hl.1 rfl (lv_room (Nat.le_of_ble_eq_true rfl)) dX3_readProduct_66 ⟨Nat.le_of_ble_eq_true rfl, Nat.le_of_ble_eq_true rfl⟩) hS (fun q _ h => (freeX hS) q h) (freeX hS) (fun r6675 u t H1 locs ht hvm hw hB hz1 hk1 hS => ?_)
              unfold BX at hB
              rw [ht] at hB
              obtain ⟨v6676, F6677, rc9⟩ := u
              obtain ⟨hI, hal9, hrc, hf6678, hw⟩ := hw
              dsimp only at hI hal9 hrc hB hf6678 hw
              rw [hrc] at hB
              have hal := hal9.trans hal
              have hP : va_P (dC, dI) classes (wX g c v6676 F6677 (g (44 + nr))) H1 := hB
              have hw : -1 ≤ r6675.toInt ∧ r6675.toInt ≤ 119 := hw
              have k6679 : (8 : Int32).toInt = 8 := by decide
              have k6680 : (0 : Int32).toInt = 0 := by decide
              generalize H1 = H at hP hS ⊢
              have hw_r6675 := hw
              refine lv_pop hx hb dX3_readProduct_69 rfl ?_
              obtain ⟨z6681, e6682⟩ : ∃ y : Int32, y = x2_lp6616 + 1 := ⟨_, rfl⟩
              try (have t6683 := tadd e6682 rfl (b := 1) (by decide) (by omega))
              refine lv_iinc (v := z6681) (lv' := [(2, .int z6681), (3, .int 8), (0, .ref (g 7)), (1, .int 0)]) hx hb dX3_readProduct_70 hl (k := 1) rfl (by rw [e6682]; rfl) (by decide) rfl (fun ls hl => ?_)
              refine lv_goto (tgt := 7) hx hb dX3_readProduct_73 (by decide) ?_
              exact ih_lp6616 z6681 v6676 F6677 _ _ _ (by omega) (by omega) (frC (by decide) hf6678 (frC (by decide) hf6674 (frU (by decide) hf_lp6616))) hI hal hP hS (lv_sub hl [0, 2, 3] rfl)
            · skip
              have t6684 := cv_eq (a := r6665.toInt) rfl (b := 42) (by decide) c6666
              refine lv_bipush (v := 7) hx hb dX3_readProduct_40 (by decide) ?_
              refine lv_goto (tgt := 47) hx hb dX3_readProduct_42 (by decide) ?_
              refine lv_istore_n (lv' := [(3, .int 7), (2, .int x2_lp6616), (0, .ref (g 7)), (1, .int 0)]) hx hb dX3_readProduct_47 rfl hl (by decide) rfl (fun ls hl => ?_)
              refine lv_aload_n hx hb dX3_readProduct_48 rfl (lv_at hl 2 rfl) ?_
              refine lv_dup hx hb dX3_readProduct_49 rfl ?_
              refine va_get (D := (dC, dI)) (ci := 3) (v := .int (v_lp6616 143)) (C := RX3) (T := TX3) (N := 5) hx hb hwd inA_X3 hown hK hP 7 rfl rfl 3 (by decide) (hwd _ wk_853) (fun _ h9 => h9) rfl dX3_readProduct_50 ?_
              refine lv_iconst (v := 1) hx hb dX3_readProduct_53 (by decide) ?_
              refine lv_iadd hx hb dX3_readProduct_54 ?_
              refine lv_topi (fun z6685 e6686 => ?_)
              try (have t6687 := tadd e6686 (a := (v_lp6616 143).toInt) rfl (b := 1) (by decide) (by omega))
              refine va_put (D := (dC, dI)) (ci := 3) (v := .int z6685) (ty := .int) (C := RX3) (T := TX3) (N := 5) (fs := fsX_7 g v_lp6616 (g (44 + nr))) hx hb hwd inA_X3 tyX3 tyX3_ok nmX3 hown hK hP (DX hg) hS 7 rfl rfl 3 (by decide) (hwd _ wk_853) (fun _ h9 => h9) rfl (by decide +kernel) rfl rfl (Nat.le_of_ble_eq_true rfl) dX3_readProduct_55 (fun H locs hP _ hS => ?_)
              have hP := va_P_eq (pX_143 g c _ _ _ _) hP
              have hI := IX.put0 hI 143 z6685 rfl
              have hal := (alX_v _ _ 143 z6685 (by decide) (by decide) (by decide) (by decide)).trans hal
              refine lv_aload_n hx hb dX3_readProduct_58 rfl (lv_at hl 2 rfl) ?_
              refine lv_iload_n hx hb dX3_readProduct_59 rfl (lv_at hl 3 rfl) ?_
              refine va_callv (va_runV (As := [.int 0]) (rest := []) ⟨hx, hb, hml, hown, hwd⟩ (c_X3_readOperand_0 l dC dI g c adK adV (va_up v_lp6616 143 z6685) F_lp6616 nr H.size  hg hnr hI ) (cwV 1 hwd (gV wk_895 wk_896 wk_897 wk_898 wk_38) rfl rfl rfl (by decide +kernel) ⟨Nat.le_of_ble_eq_true rfl, Nat.le_of_ble_eq_true rfl⟩) ⟨PX.blind, va_recv hK hP (ci := 3) (q0 := 7) rfl rfl, fun U hU hW => ⟨rfl, PX.at hK hE hP hS hU hW⟩⟩ rfl rfl hl.1 rfl (lv_room (Nat.le_of_ble_eq_true rfl)) dX3_readProduct_60 ⟨Nat.le_of_ble_eq_true rfl, Nat.le_of_ble_eq_true rfl⟩) hS (fun q _ h => (freeX hS) q h) (freeX hS) (fun u t H1 locs ht hvm hw hB hz1 hk1 hS => ?_)
              unfold BX at hB
              rw [ht] at hB
              obtain ⟨v6689, F6690, rc9⟩ := u
              obtain ⟨hI, hal9, hrc, hf6691, hw⟩ := hw
              dsimp only at hI hal9 hrc hB hf6691 hw
              rw [hrc] at hB
              have hal := hal9.trans hal
              have hP : va_P (dC, dI) classes (wX g c v6689 F6690 (g (44 + nr))) H1 := hB
              generalize H1 = H at hP hS ⊢
              refine lv_aload_n hx hb dX3_readProduct_63 rfl (lv_at hl 2 rfl) ?_
              refine lv_iload_n hx hb dX3_readProduct_64 rfl (lv_at hl 0 rfl) ?_
              refine lv_iconst (v := 0) hx hb dX3_readProduct_65 (by decide) ?_
              refine va_calli (va_runV (As := [.int 7, .int 0]) (rest := []) ⟨hx, hb, hml, hown, hwd⟩ (c_X3_put l dC dI g c adK adV v6689 F6690 nr H.size 7 0 hg hnr hI (by have : (7 : Int32).toInt = 7 := (by decide); omega) (by have : (0 : Int32).toInt = 0 := (by decide); omega)) (cwV 2 hwd (gV wk_882 wk_879 wk_880 wk_881 wk_38) rfl rfl rfl (by decide +kernel) ⟨Nat.le_of_ble_eq_true rfl, Nat.le_of_ble_eq_true rfl⟩) ⟨PX.blind, va_recv hK hP (ci := 3) (q0 := 7) rfl rfl, fun U hU hW => ⟨rfl, PX.at hK hE hP hS hU hW⟩⟩ rfl rfl hl.1 rfl (lv_room (Nat.le_of_ble_eq_true rfl)) dX3_readProduct_66 ⟨Nat.le_of_ble_eq_true rfl, Nat.le_of_ble_eq_true rfl⟩) hS (fun q _ h => (freeX hS) q h) (freeX hS) (fun r6692 u t H1 locs ht hvm hw hB hz1 hk1 hS => ?_)
              unfold BX at hB
              rw [ht] at hB
              obtain ⟨v6693, F6694, rc9⟩ := u
              obtain ⟨hI, hal9, hrc, hf6695, hw⟩ := hw
              dsimp only at hI hal9 hrc hB hf6695 hw
              rw [hrc] at hB
              have hal := hal9.trans hal
              have hP : va_P (dC, dI) classes (wX g c v6693 F6694 (g (44 + nr))) H1 := hB
              have hw : -1 ≤ r6692.toInt ∧ r6692.toInt ≤ 119 := hw
              have k6696 : (7 : Int32).toInt = 7 := by decide
              have k6697 : (0 : Int32).toInt = 0 := by decide
              generalize H1 = H at hP hS ⊢
              have hw_r6692 := hw
              refine lv_pop hx hb dX3_readProduct_69 rfl ?_
              obtain ⟨z6698, e6699⟩ : ∃ y : Int32, y = x2_lp6616 + 1 := ⟨_, rfl⟩
              try (have t6700 := tadd e6699 rfl (b := 1) (by decide) (by omega))
              refine lv_iinc (v := z6698) (lv' := [(2, .int z6698), (3, .int 7), (0, .ref (g 7)), (1, .int 0)]) hx hb dX3_readProduct_70 hl (k := 1) rfl (by rw [e6699]; rfl) (by decide) rfl (fun ls hl => ?_)
              refine lv_goto (tgt := 7) hx hb dX3_readProduct_73 (by decide) ?_
              exact ih_lp6616 z6698 v6693 F6694 _ _ _ (by omega) (by omega) (frC (by decide) hf6695 (frC (by decide) hf6691 (frU (by decide) hf_lp6616))) hI hal hP hS (lv_sub hl [0, 2, 3] rfl)
  obtain ⟨n9, hn9⟩ : ∃ n : Nat, 2147483648 - 0 ≤ (n : Int) := ⟨((2147483648 - 0 : Int)).toNat, by omega⟩
  exact lp6616 n9 0 v6613 F6614 H _ ls (by have : (0 : Int32).toInt = 0 := (by decide); omega) (by have : (0 : Int32).toInt = 0 := (by decide); omega) (fun _ _ => rfl) hI hal hP hS hl
set_option maxHeartbeats 8000000 in
set_option maxRecDepth 100000 in
theorem c_X3_readSum_0 (l : Launch) (dC : Nat → ClassId) (dI : Nat → Nat → Nat) (g : Nat → Nat) (c : Nat → ClassId) (adK adV : Nat → Nat) (v : Nat → Int32) (F : Nat → Nat → Int32) (nr sz : Nat) (hg : injX g) (hnr : nr < 10) (hI : IX v F) : Met l yX3_readSum (Cond.code yX3_readSum cX3_readSum 4 none :: wA) ({ frames := 48, cells := 0, slots := 0, locals := 1920 }) (va_Pc [.ref (g 7), .int 0] (PX dC dI g c adK adV v F (g (44 + nr)) sz)) (va_Qv (fun (u : StX) => IX u.1 u.2.1 ∧ alX u.1 u.2.1 = alX v F ∧ u.2.2 = (g (44 + nr)) ∧ (∀ k, k ∉ ([142, 143, 144] : List Nat) → u.1 k = v k) ∧ True) (BX dC dI g c) (AX g sz)) 0 0 (AX g sz) := by
  refine Met.ofW (cc := cX3_readSum) (maxL := 4) (ret := none) (by decide) rfl ?_
  intro p e s m args below meth c0 s₁ B hml hv
  obtain ⟨rfl, hsz, hP, hK, hE⟩ := hv
  have hx := B.exec
  have hb := B.bytes
  have hr := B.returns
  have hts := atoms_spec (ws := Cond.code yX3_readSum cX3_readSum 4 none :: wA) B.pre
  have hwd : ∀ w ∈ wA, w.before _ s = true := fun w h => hts w (List.mem_cons_of_mem _ h)
  have hown : s.vm.findClass RX3 = some m.cls := findClass_of_methodNamed B.named
  have hlocks := B.notSynchronized
  subst hsz
  have hl := lv_entry ([.ref (g 7), .int 0]) (n := 4) (Nat.le_of_ble_eq_true rfl)
  rw [lg_entry_eq]
  generalize (lg_sl ([.ref (g 7), .int 0]) ++ List.replicate (4 - (lg_sl ([.ref (g 7), .int 0])).length) Slot.unset).toArray = ls at hl ⊢
  have hl : lv_has ls 4 [(0, .ref (g 7)), (1, .int 0)] := hl
  obtain ⟨H, eH⟩ : ∃ z, z = s.heap := ⟨_, rfl⟩
  have hP : va_P (dC, dI) classes (wX g c v F (g (44 + nr))) H := by rw [eH]; exact hP
  have hS : va_S (AX g s.heap.size) s.heap H [] := by rw [eH]; exact va_S.rf
  refine my_heap eH ?_
  have hal : alX v F = alX v F := rfl
  refine lv_aload_n hx hb dX3_readSum_0 rfl (lv_at hl 0 rfl) ?_
  refine lv_iload_n hx hb dX3_readSum_1 rfl (lv_at hl 1 rfl) ?_
  refine va_callv (va_runV (As := [.int 0]) (rest := []) ⟨hx, hb, hml, hown, hwd⟩ (c_X3_readProduct_0 l dC dI g c adK adV v F nr H.size  hg hnr hI ) (cwV 1 hwd (gV wk_989 wk_991 wk_992 wk_993 wk_38) rfl rfl rfl (by decide +kernel) ⟨Nat.le_of_ble_eq_true rfl, Nat.le_of_ble_eq_true rfl⟩) ⟨PX.blind, va_recv hK hP (ci := 3) (q0 := 7) rfl rfl, fun U hU hW => ⟨rfl, PX.at hK hE hP hS hU hW⟩⟩ rfl rfl hl.1 rfl (lv_room (Nat.le_of_ble_eq_true rfl)) dX3_readSum_2 ⟨Nat.le_of_ble_eq_true rfl, Nat.le_of_ble_eq_true rfl⟩) hS (fun q _ h => (freeX hS) q h) (freeX hS) (fun u t H1 locs ht hvm hw hB hz1 hk1 hS => ?_)
  unfold BX at hB
  rw [ht] at hB
  obtain ⟨v6702, F6703, rc9⟩ := u
  obtain ⟨hI, hal9, hrc, hf6704, hw⟩ := hw
  dsimp only at hI hal9 hrc hB hf6704 hw
  rw [hrc] at hB
  have hal := hal9.trans hal
  have hP : va_P (dC, dI) classes (wX g c v6702 F6703 (g (44 + nr))) H1 := hB
  generalize H1 = H at hP hS ⊢
  refine lv_iconst (v := 0) hx hb dX3_readSum_5 (by decide) ?_
  refine lv_istore_n (lv' := [(2, .int 0), (0, .ref (g 7)), (1, .int 0)]) hx hb dX3_readSum_6 rfl hl (by decide) rfl (fun ls hl => ?_)
  have lp6705 : ∀ (n : Nat) (x2_lp6705 : Int32) (v_lp6705 : Nat → Int32) (F_lp6705 : Nat → Nat → Int32) (H : Heap) (locs : List Loc) (ls : Array Slot), (0 ≤ x2_lp6705.toInt) → (2147483648 - x2_lp6705.toInt ≤ (n : Int)) → (∀ k, k ∉ ([142, 143, 144] : List Nat) → v_lp6705 k = v6702 k) → IX v_lp6705 F_lp6705 → alX v_lp6705 F_lp6705 = alX v F → va_P (dC, dI) classes (wX g c v_lp6705 F_lp6705 (g (44 + nr))) H → va_S (AX g s.heap.size) s.heap H locs → lv_has ls 4 [(2, .int x2_lp6705), (0, .ref (g 7)), (1, .int 0)] → W p l e (headSpec (Cond.code yX3_readSum cX3_readSum 4 none :: wA) ({ frames := 48, cells := 0, slots := 0, locals := 1920 })).room s m ([.ref (g 7), .int 0] : List Value).toArray below meth c0 H locs 0 0 (MQ below (va_Qv (fun (u : StX) => IX u.1 u.2.1 ∧ alX u.1 u.2.1 = alX v F ∧ u.2.2 = (g (44 + nr)) ∧ (∀ k, k ∉ ([142, 143, 144] : List Nat) → u.1 k = v k) ∧ True) (BX dC dI g c) (AX g s.heap.size)) ([.ref (g 7), .int 0] : List Value).toArray s 0 0 (AX g s.heap.size)) (F0 m 7 ls []) := by
    intro n
    induction n with
    | zero =>
      intro x2_lp6705 v_lp6705 F_lp6705 H locs ls t6706 hm hf_lp6705 hI hal hP hS hl
      exfalso
      have := i32_rng x2_lp6705
      have hI1 := hI.1
      omega
    | succ n ih_lp6705 =>
      intro x2_lp6705 v_lp6705 F_lp6705 H locs ls t6706 hm hf_lp6705 hI hal hP hS hl
      have rx2_lp6705 := i32_rng x2_lp6705
      refine lv_iload_n hx hb dX3_readSum_7 rfl (lv_at hl 0 rfl) ?_
      refine lv_bipush (v := 120) hx hb dX3_readSum_8 (by decide) ?_
      refine lv_icmp_ge (tgt := 75) hx hb dX3_readSum_10 (by decide) (fun c6707 => ?_) (fun c6707 => ?_)
      · skip
        have t6708 := cv_le (a := 120) (by decide) (b := x2_lp6705.toInt) rfl c6707
        have hP9 : va_P (dC, dI) classes (wX g c v_lp6705 F_lp6705 (g (44 + nr))) H := hP
        exact W.vret hx hb hr (fun t ht hW => ⟨⟨(v_lp6705, F_lp6705, (g (44 + nr))), rfl, ⟨hI, hal, rfl, (frC (by decide) hf_lp6705 (frC (by decide) hf6704 (fun _ _ => rfl))), trivial⟩, (by show va_P _ _ _ t.heap; rw [ht]; exact hP9)⟩, hS.F ht⟩) hS.2.2 dX3_readSum_75
      · skip
        have t6709 := cv_nle (a := 120) (by decide) (b := x2_lp6705.toInt) rfl c6707
        refine lv_aload_n hx hb dX3_readSum_13 rfl (lv_at hl 1 rfl) ?_
        refine va_calli (va_runV (As := []) (rest := []) ⟨hx, hb, hml, hown, hwd⟩ (c_X3_next l dC dI g c adK adV v_lp6705 F_lp6705 nr H.size  hg hnr hI ) (cwV 0 hwd (gV wk_866 wk_863 wk_864 wk_865 wk_38) rfl rfl rfl (by decide +kernel) ⟨Nat.le_of_ble_eq_true rfl, Nat.le_of_ble_eq_true rfl⟩) ⟨PX.blind, va_recv hK hP (ci := 3) (q0 := 7) rfl rfl, fun U hU hW => ⟨rfl, PX.at hK hE hP hS hU hW⟩⟩ rfl rfl hl.1 rfl (lv_room (Nat.le_of_ble_eq_true rfl)) dX3_readSum_14 ⟨Nat.le_of_ble_eq_true rfl, Nat.le_of_ble_eq_true rfl⟩) hS (fun q _ h => (freeX hS) q h) (freeX hS) (fun r6710 u t H1 locs ht hvm hw hB hz1 hk1 hS => ?_)
        unfold BX at hB
        rw [ht] at hB
        have hP : va_P (dC, dI) classes (wX g c v_lp6705 F_lp6705 (g (44 + nr))) H1 := hB
        generalize H1 = H at hP hS ⊢
        have rr_r6710 := i32_rng r6710
        refine lv_bipush (v := 43) hx hb dX3_readSum_17 (by decide) ?_
        refine lv_icmp_eq (tgt := 31) hx hb dX3_readSum_19 (by decide) (fun c6711 => ?_) (fun c6711 => ?_)
        · skip
          have t6712 := cv_eq (a := r6710.toInt) rfl (b := 43) (by decide) c6711
          refine lv_aload_n hx hb dX3_readSum_31 rfl (lv_at hl 1 rfl) ?_
          refine va_calli (va_runV (As := []) (rest := []) ⟨hx, hb, hml, hown, hwd⟩ (c_X3_next l dC dI g c adK adV v_lp6705 F_lp6705 nr H.size  hg hnr hI ) (cwV 0 hwd (gV wk_866 wk_863 wk_864 wk_865 wk_38) rfl rfl rfl (by decide +kernel) ⟨Nat.le_of_ble_eq_true rfl, Nat.le_of_ble_eq_true rfl⟩) ⟨PX.blind, va_recv hK hP (ci := 3) (q0 := 7) rfl rfl, fun U hU hW => ⟨rfl, PX.at hK hE hP hS hU hW⟩⟩ rfl rfl hl.1 rfl (lv_room (Nat.le_of_ble_eq_true rfl)) dX3_readSum_32 ⟨Nat.le_of_ble_eq_true rfl, Nat.le_of_ble_eq_true rfl⟩) hS (fun q _ h => (freeX hS) q h) (freeX hS) (fun r6713 u t H1 locs ht hvm hw hB hz1 hk1 hS => ?_)
          unfold BX at hB
          rw [ht] at hB
          have hP : va_P (dC, dI) classes (wX g c v_lp6705 F_lp6705 (g (44 + nr))) H1 := hB
          generalize H1 = H at hP hS ⊢
          have rr_r6713 := i32_rng r6713
          refine lv_bipush (v := 43) hx hb dX3_readSum_35 (by decide) ?_
          refine lv_icmp_ne (tgt := 44) hx hb dX3_readSum_37 (by decide) (fun c6714 => ?_) (fun c6714 => ?_)
          · skip
            have t6715 := cv_ne (a := r6713.toInt) rfl (b := 43) (by decide) c6714
            refine lv_bipush (v := 6) hx hb dX3_readSum_44 (by decide) ?_
            refine lv_istore_n (lv' := [(3, .int 6), (2, .int x2_lp6705), (0, .ref (g 7)), (1, .int 0)]) hx hb dX3_readSum_46 rfl hl (by decide) rfl (fun ls hl => ?_)
            refine lv_aload_n hx hb dX3_readSum_47 rfl (lv_at hl 2 rfl) ?_
            refine lv_dup hx hb dX3_readSum_48 rfl ?_
            refine va_get (D := (dC, dI)) (ci := 3) (v := .int (v_lp6705 143)) (C := RX3) (T := TX3) (N := 5) hx hb hwd inA_X3 hown hK hP 7 rfl rfl 3 (by decide) (hwd _ wk_853) (fun _ h9 => h9) rfl dX3_readSum_49 ?_
            refine lv_iconst (v := 1) hx hb dX3_readSum_52 (by decide) ?_
            refine lv_iadd hx hb dX3_readSum_53 ?_
            refine lv_topi (fun z6716 e6717 => ?_)
            try (have t6718 := tadd e6717 (a := (v_lp6705 143).toInt) rfl (b := 1) (by decide) (by omega))
            refine va_put (D := (dC, dI)) (ci := 3) (v := .int z6716) (ty := .int) (C := RX3) (T := TX3) (N := 5) (fs := fsX_7 g v_lp6705 (g (44 + nr))) hx hb hwd inA_X3 tyX3 tyX3_ok nmX3 hown hK hP (DX hg) hS 7 rfl rfl 3 (by decide) (hwd _ wk_853) (fun _ h9 => h9) rfl (by decide +kernel) rfl rfl (Nat.le_of_ble_eq_true rfl) dX3_readSum_54 (fun H locs hP _ hS => ?_)
            have hP := va_P_eq (pX_143 g c _ _ _ _) hP
            have hI := IX.put0 hI 143 z6716 rfl
            have hal := (alX_v _ _ 143 z6716 (by decide) (by decide) (by decide) (by decide)).trans hal
            refine lv_aload_n hx hb dX3_readSum_57 rfl (lv_at hl 2 rfl) ?_
            refine lv_iload_n hx hb dX3_readSum_58 rfl (lv_at hl 3 rfl) ?_
            refine va_callv (va_runV (As := [.int 0]) (rest := []) ⟨hx, hb, hml, hown, hwd⟩ (c_X3_readProduct_0 l dC dI g c adK adV (va_up v_lp6705 143 z6716) F_lp6705 nr H.size  hg hnr hI ) (cwV 1 hwd (gV wk_989 wk_991 wk_992 wk_993 wk_38) rfl rfl rfl (by decide +kernel) ⟨Nat.le_of_ble_eq_true rfl, Nat.le_of_ble_eq_true rfl⟩) ⟨PX.blind, va_recv hK hP (ci := 3) (q0 := 7) rfl rfl, fun U hU hW => ⟨rfl, PX.at hK hE hP hS hU hW⟩⟩ rfl rfl hl.1 rfl (lv_room (Nat.le_of_ble_eq_true rfl)) dX3_readSum_59 ⟨Nat.le_of_ble_eq_true rfl, Nat.le_of_ble_eq_true rfl⟩) hS (fun q _ h => (freeX hS) q h) (freeX hS) (fun u t H1 locs ht hvm hw hB hz1 hk1 hS => ?_)
            unfold BX at hB
            rw [ht] at hB
            obtain ⟨v6720, F6721, rc9⟩ := u
            obtain ⟨hI, hal9, hrc, hf6722, hw⟩ := hw
            dsimp only at hI hal9 hrc hB hf6722 hw
            rw [hrc] at hB
            have hal := hal9.trans hal
            have hP : va_P (dC, dI) classes (wX g c v6720 F6721 (g (44 + nr))) H1 := hB
            generalize H1 = H at hP hS ⊢
            refine lv_aload_n hx hb dX3_readSum_62 rfl (lv_at hl 2 rfl) ?_
            refine lv_iload_n hx hb dX3_readSum_63 rfl (lv_at hl 0 rfl) ?_
            refine lv_iconst (v := 0) hx hb dX3_readSum_64 (by decide) ?_
            refine va_calli (va_runV (As := [.int 6, .int 0]) (rest := []) ⟨hx, hb, hml, hown, hwd⟩ (c_X3_put l dC dI g c adK adV v6720 F6721 nr H.size 6 0 hg hnr hI (by have : (6 : Int32).toInt = 6 := (by decide); omega) (by have : (0 : Int32).toInt = 0 := (by decide); omega)) (cwV 2 hwd (gV wk_882 wk_879 wk_880 wk_881 wk_38) rfl rfl rfl (by decide +kernel) ⟨Nat.le_of_ble_eq_true rfl, Nat.le_of_ble_eq_true rfl⟩) ⟨PX.blind, va_recv hK hP (ci := 3) (q0 := 7) rfl rfl, fun U hU hW => ⟨rfl, PX.at hK hE hP hS hU hW⟩⟩ rfl rfl hl.1 rfl (lv_room (Nat.le_of_ble_eq_true rfl)) dX3_readSum_65 ⟨Nat.le_of_ble_eq_true rfl, Nat.le_of_ble_eq_true rfl⟩) hS (fun q _ h => (freeX hS) q h) (freeX hS) (fun r6723 u t H1 locs ht hvm hw hB hz1 hk1 hS => ?_)
            unfold BX at hB
            rw [ht] at hB
            obtain ⟨v6724, F6725, rc9⟩ := u
            obtain ⟨hI, hal9, hrc, hf6726, hw⟩ := hw
            dsimp only at hI hal9 hrc hB hf6726 hw
            rw [hrc] at hB
            have hal := hal9.trans hal
            have hP : va_P (dC, dI) classes (wX g c v6724 F6725 (g (44 + nr))) H1 := hB
            have hw : -1 ≤ r6723.toInt ∧ r6723.toInt ≤ 119 := hw
            have k6727 : (6 : Int32).toInt = 6 := by decide
            have k6728 : (0 : Int32).toInt = 0 := by decide
            generalize H1 = H at hP hS ⊢
            have hw_r6723 := hw
            refine lv_pop hx hb dX3_readSum_68 rfl ?_
            obtain ⟨z6729, e6730⟩ : ∃ y : Int32, y = x2_lp6705 + 1 := ⟨_, rfl⟩
            try (have t6731 := tadd e6730 rfl (b := 1) (by decide) (by omega))
            refine lv_iinc (v := z6729) (lv' := [(2, .int z6729), (3, .int 6), (0, .ref (g 7)), (1, .int 0)]) hx hb dX3_readSum_69 hl (k := 1) rfl (by rw [e6730]; rfl) (by decide) rfl (fun ls hl => ?_)
            refine lv_goto (tgt := 7) hx hb dX3_readSum_72 (by decide) ?_
            exact ih_lp6705 z6729 v6724 F6725 _ _ _ (by omega) (by omega) (frC (by decide) hf6726 (frC (by decide) hf6722 (frU (by decide) hf_lp6705))) hI hal hP hS (lv_sub hl [0, 2, 3] rfl)
          · skip
            have t6732 := cv_eq (a := r6713.toInt) rfl (b := 43) (by decide) c6714
            refine lv_iconst (v := 5) hx hb dX3_readSum_40 (by decide) ?_
            refine lv_goto (tgt := 46) hx hb dX3_readSum_41 (by decide) ?_
            refine lv_istore_n (lv' := [(3, .int 5), (2, .int x2_lp6705), (0, .ref (g 7)), (1, .int 0)]) hx hb dX3_readSum_46 rfl hl (by decide) rfl (fun ls hl => ?_)
            refine lv_aload_n hx hb dX3_readSum_47 rfl (lv_at hl 2 rfl) ?_
            refine lv_dup hx hb dX3_readSum_48 rfl ?_
            refine va_get (D := (dC, dI)) (ci := 3) (v := .int (v_lp6705 143)) (C := RX3) (T := TX3) (N := 5) hx hb hwd inA_X3 hown hK hP 7 rfl rfl 3 (by decide) (hwd _ wk_853) (fun _ h9 => h9) rfl dX3_readSum_49 ?_
            refine lv_iconst (v := 1) hx hb dX3_readSum_52 (by decide) ?_
            refine lv_iadd hx hb dX3_readSum_53 ?_
            refine lv_topi (fun z6733 e6734 => ?_)
            try (have t6735 := tadd e6734 (a := (v_lp6705 143).toInt) rfl (b := 1) (by decide) (by omega))
            refine va_put (D := (dC, dI)) (ci := 3) (v := .int z6733) (ty := .int) (C := RX3) (T := TX3) (N := 5) (fs := fsX_7 g v_lp6705 (g (44 + nr))) hx hb hwd inA_X3 tyX3 tyX3_ok nmX3 hown hK hP (DX hg) hS 7 rfl rfl 3 (by decide) (hwd _ wk_853) (fun _ h9 => h9) rfl (by decide +kernel) rfl rfl (Nat.le_of_ble_eq_true rfl) dX3_readSum_54 (fun H locs hP _ hS => ?_)
            have hP := va_P_eq (pX_143 g c _ _ _ _) hP
            have hI := IX.put0 hI 143 z6733 rfl
            have hal := (alX_v _ _ 143 z6733 (by decide) (by decide) (by decide) (by decide)).trans hal
            refine lv_aload_n hx hb dX3_readSum_57 rfl (lv_at hl 2 rfl) ?_
            refine lv_iload_n hx hb dX3_readSum_58 rfl (lv_at hl 3 rfl) ?_
            refine va_callv (va_runV (As := [.int 0]) (rest := []) ⟨hx, hb, hml, hown, hwd⟩ (c_X3_readProduct_0 l dC dI g c adK adV (va_up v_lp6705 143 z6733) F_lp6705 nr H.size  hg hnr hI ) (cwV 1 hwd (gV wk_989 wk_991 wk_992 wk_993 wk_38) rfl rfl rfl (by decide +kernel) ⟨Nat.le_of_ble_eq_true rfl, Nat.le_of_ble_eq_true rfl⟩) ⟨PX.blind, va_recv hK hP (ci := 3) (q0 := 7) rfl rfl, fun U hU hW => ⟨rfl, PX.at hK hE hP hS hU hW⟩⟩ rfl rfl hl.1 rfl (lv_room (Nat.le_of_ble_eq_true rfl)) dX3_readSum_59 ⟨Nat.le_of_ble_eq_true rfl, Nat.le_of_ble_eq_true rfl⟩) hS (fun q _ h => (freeX hS) q h) (freeX hS) (fun u t H1 locs ht hvm hw hB hz1 hk1 hS => ?_)
            unfold BX at hB
            rw [ht] at hB
            obtain ⟨v6737, F6738, rc9⟩ := u
            obtain ⟨hI, hal9, hrc, hf6739, hw⟩ := hw
            dsimp only at hI hal9 hrc hB hf6739 hw
            rw [hrc] at hB
            have hal := hal9.trans hal
            have hP : va_P (dC, dI) classes (wX g c v6737 F6738 (g (44 + nr))) H1 := hB
            generalize H1 = H at hP hS ⊢
            refine lv_aload_n hx hb dX3_readSum_62 rfl (lv_at hl 2 rfl) ?_
            refine lv_iload_n hx hb dX3_readSum_63 rfl (lv_at hl 0 rfl) ?_
            refine lv_iconst (v := 0) hx hb dX3_readSum_64 (by decide) ?_
            refine va_calli (va_runV (As := [.int 5, .int 0]) (rest := []) ⟨hx, hb, hml, hown, hwd⟩ (c_X3_put l dC dI g c adK adV v6737 F6738 nr H.size 5 0 hg hnr hI (by have : (5 : Int32).toInt = 5 := (by decide); omega) (by have : (0 : Int32).toInt = 0 := (by decide); omega)) (cwV 2 hwd (gV wk_882 wk_879 wk_880 wk_881 wk_38) rfl rfl rfl (by decide +kernel) ⟨Nat.le_of_ble_eq_true rfl, Nat.le_of_ble_eq_true rfl⟩) ⟨PX.blind, va_recv hK hP (ci := 3) (q0 := 7) rfl rfl, fun U hU hW => ⟨rfl, PX.at hK hE hP hS hU hW⟩⟩ rfl rfl hl.1 rfl (lv_room (Nat.le_of_ble_eq_true rfl)) dX3_readSum_65 ⟨Nat.le_of_ble_eq_true rfl, Nat.le_of_ble_eq_true rfl⟩) hS (fun q _ h => (freeX hS) q h) (freeX hS) (fun r6740 u t H1 locs ht hvm hw hB hz1 hk1 hS => ?_)
            unfold BX at hB
            rw [ht] at hB
            obtain ⟨v6741, F6742, rc9⟩ := u
            obtain ⟨hI, hal9, hrc, hf6743, hw⟩ := hw
            dsimp only at hI hal9 hrc hB hf6743 hw
            rw [hrc] at hB
            have hal := hal9.trans hal
            have hP : va_P (dC, dI) classes (wX g c v6741 F6742 (g (44 + nr))) H1 := hB
            have hw : -1 ≤ r6740.toInt ∧ r6740.toInt ≤ 119 := hw
            have k6744 : (5 : Int32).toInt = 5 := by decide
            have k6745 : (0 : Int32).toInt = 0 := by decide
            generalize H1 = H at hP hS ⊢
            have hw_r6740 := hw
            refine lv_pop hx hb dX3_readSum_68 rfl ?_
            obtain ⟨z6746, e6747⟩ : ∃ y : Int32, y = x2_lp6705 + 1 := ⟨_, rfl⟩
            try (have t6748 := tadd e6747 rfl (b := 1) (by decide) (by omega))
            refine lv_iinc (v := z6746) (lv' := [(2, .int z6746), (3, .int 5), (0, .ref (g 7)), (1, .int 0)]) hx hb dX3_readSum_69 hl (k := 1) rfl (by rw [e6747]; rfl) (by decide) rfl (fun ls hl => ?_)
            refine lv_goto (tgt := 7) hx hb dX3_readSum_72 (by decide) ?_
            exact ih_lp6705 z6746 v6741 F6742 _ _ _ (by omega) (by omega) (frC (by decide) hf6743 (frC (by decide) hf6739 (frU (by decide) hf_lp6705))) hI hal hP hS (lv_sub hl [0, 2, 3] rfl)
        · skip
          have t6749 := cv_ne (a := r6710.toInt) rfl (b := 43) (by decide) c6711
          refine lv_aload_n hx hb dX3_readSum_22 rfl (lv_at hl 1 rfl) ?_
          refine va_calli (va_runV (As := []) (rest := []) ⟨hx, hb, hml, hown, hwd⟩ (c_X3_next l dC dI g c adK adV v_lp6705 F_lp6705 nr H.size  hg hnr hI ) (cwV 0 hwd (gV wk_866 wk_863 wk_864 wk_865 wk_38) rfl rfl rfl (by decide +kernel) ⟨Nat.le_of_ble_eq_true rfl, Nat.le_of_ble_eq_true rfl⟩) ⟨PX.blind, va_recv hK hP (ci := 3) (q0 := 7) rfl rfl, fun U hU hW => ⟨rfl, PX.at hK hE hP hS hU hW⟩⟩ rfl rfl hl.1 rfl (lv_room (Nat.le_of_ble_eq_true rfl)) dX3_readSum_23 ⟨Nat.le_of_ble_eq_true rfl, Nat.le_of_ble_eq_true rfl⟩) hS (fun q _ h => (freeX hS) q h) (freeX hS) (fun r6750 u t H1 locs ht hvm hw hB hz1 hk1 hS => ?_)
          unfold BX at hB
          rw [ht] at hB
          have hP : va_P (dC, dI) classes (wX g c v_lp6705 F_lp6705 (g (44 + nr))) H1 := hB
          generalize H1 = H at hP hS ⊢
          have rr_r6750 := i32_rng r6750
          refine lv_bipush (v := 45) hx hb dX3_readSum_26 (by decide) ?_
          refine lv_icmp_ne (tgt := 75) hx hb dX3_readSum_28 (by decide) (fun c6751 => ?_) (fun c6751 => ?_)
          · skip
            have t6752 := cv_ne (a := r6750.toInt) rfl (b := 45) (by decide) c6751
            have hP9 : va_P (dC, dI) classes (wX g c v_lp6705 F_lp6705 (g (44 + nr))) H := hP
            exact W.vret hx hb hr (fun t ht hW => ⟨⟨(v_lp6705, F_lp6705, (g (44 + nr))), rfl, ⟨hI, hal, rfl, (frC (by decide) hf_lp6705 (frC (by decide) hf6704 (fun _ _ => rfl))), trivial⟩, (by show va_P _ _ _ t.heap; rw [ht]; exact hP9)⟩, hS.F ht⟩) hS.2.2 dX3_readSum_75
          · skip
            have t6753 := cv_eq (a := r6750.toInt) rfl (b := 45) (by decide) c6751
            refine lv_aload_n hx hb dX3_readSum_31 rfl (lv_at hl 1 rfl) ?_
            refine va_calli (va_runV (As := []) (rest := []) ⟨hx, hb, hml, hown, hwd⟩ (c_X3_next l dC dI g c adK adV v_lp6705 F_lp6705 nr H.size  hg hnr hI ) (cwV 0 hwd (gV wk_866 wk_863 wk_864 wk_865 wk_38) rfl rfl rfl (by decide +kernel) ⟨Nat.le_of_ble_eq_true rfl, Nat.le_of_ble_eq_true rfl⟩) ⟨PX.blind, va_recv hK hP (ci := 3) (q0 := 7) rfl rfl, fun U hU hW => ⟨rfl, PX.at hK hE hP hS hU hW⟩⟩ rfl rfl hl.1 rfl (lv_room (Nat.le_of_ble_eq_true rfl)) dX3_readSum_32 ⟨Nat.le_of_ble_eq_true rfl, Nat.le_of_ble_eq_true rfl⟩) hS (fun q _ h => (freeX hS) q h) (freeX hS) (fun r6754 u t H1 locs ht hvm hw hB hz1 hk1 hS => ?_)
            unfold BX at hB
            rw [ht] at hB
            have hP : va_P (dC, dI) classes (wX g c v_lp6705 F_lp6705 (g (44 + nr))) H1 := hB
            generalize H1 = H at hP hS ⊢
            have rr_r6754 := i32_rng r6754
            refine lv_bipush (v := 43) hx hb dX3_readSum_35 (by decide) ?_
            refine lv_icmp_ne (tgt := 44) hx hb dX3_readSum_37 (by decide) (fun c6755 => ?_) (fun c6755 => ?_)
            · skip
              have t6756 := cv_ne (a := r6754.toInt) rfl (b := 43) (by decide) c6755
              refine lv_bipush (v := 6) hx hb dX3_readSum_44 (by decide) ?_
              refine lv_istore_n (lv' := [(3, .int 6), (2, .int x2_lp6705), (0, .ref (g 7)), (1, .int 0)]) hx hb dX3_readSum_46 rfl hl (by decide) rfl (fun ls hl => ?_)
              refine lv_aload_n hx hb dX3_readSum_47 rfl (lv_at hl 2 rfl) ?_
              refine lv_dup hx hb dX3_readSum_48 rfl ?_
              refine va_get (D := (dC, dI)) (ci := 3) (v := .int (v_lp6705 143)) (C := RX3) (T := TX3) (N := 5) hx hb hwd inA_X3 hown hK hP 7 rfl rfl 3 (by decide) (hwd _ wk_853) (fun _ h9 => h9) rfl dX3_readSum_49 ?_
              refine lv_iconst (v := 1) hx hb dX3_readSum_52 (by decide) ?_
              refine lv_iadd hx hb dX3_readSum_53 ?_
              refine lv_topi (fun z6757 e6758 => ?_)
              try (have t6759 := tadd e6758 (a := (v_lp6705 143).toInt) rfl (b := 1) (by decide) (by omega))
              refine va_put (D := (dC, dI)) (ci := 3) (v := .int z6757) (ty := .int) (C := RX3) (T := TX3) (N := 5) (fs := fsX_7 g v_lp6705 (g (44 + nr))) hx hb hwd inA_X3 tyX3 tyX3_ok nmX3 hown hK hP (DX hg) hS 7 rfl rfl 3 (by decide) (hwd _ wk_853) (fun _ h9 => h9) rfl (by decide +kernel) rfl rfl (Nat.le_of_ble_eq_true rfl) dX3_readSum_54 (fun H locs hP _ hS => ?_)
              have hP := va_P_eq (pX_143 g c _ _ _ _) hP
              have hI := IX.put0 hI 143 z6757 rfl
              have hal := (alX_v _ _ 143 z6757 (by decide) (by decide) (by decide) (by decide)).trans hal
              refine lv_aload_n hx hb dX3_readSum_57 rfl (lv_at hl 2 rfl) ?_
              refine lv_iload_n hx hb dX3_readSum_58 rfl (lv_at hl 3 rfl) ?_
              refine va_callv (va_runV (As := [.int 0]) (rest := []) ⟨hx, hb, hml, hown, hwd⟩ (c_X3_readProduct_0 l dC dI g c adK adV (va_up v_lp6705 143 z6757) F_lp6705 nr H.size  hg hnr hI ) (cwV 1 hwd (gV wk_989 wk_991 wk_992 wk_993 wk_38) rfl rfl rfl (by decide +kernel) ⟨Nat.le_of_ble_eq_true rfl, Nat.le_of_ble_eq_true rfl⟩) ⟨PX.blind, va_recv hK hP (ci := 3) (q0 := 7) rfl rfl, fun U hU hW => ⟨rfl, PX.at hK hE hP hS hU hW⟩⟩ rfl rfl hl.1 rfl (lv_room (Nat.le_of_ble_eq_true rfl)) dX3_readSum_59 ⟨Nat.le_of_ble_eq_true rfl, Nat.le_of_ble_eq_true rfl⟩) hS (fun q _ h => (freeX hS) q h) (freeX hS) (fun u t H1 locs ht hvm hw hB hz1 hk1 hS => ?_)
              unfold BX at hB
              rw [ht] at hB
              obtain ⟨v6761, F6762, rc9⟩ := u
              obtain ⟨hI, hal9, hrc, hf6763, hw⟩ := hw
              dsimp only at hI hal9 hrc hB hf6763 hw
              rw [hrc] at hB
              have hal := hal9.trans hal
              have hP : va_P (dC, dI) classes (wX g c v6761 F6762 (g (44 + nr))) H1 := hB
              generalize H1 = H at hP hS ⊢
              refine lv_aload_n hx hb dX3_readSum_62 rfl (lv_at hl 2 rfl) ?_
              refine lv_iload_n hx hb dX3_readSum_63 rfl (lv_at hl 0 rfl) ?_
              refine lv_iconst (v := 0) hx hb dX3_readSum_64 (by decide) ?_
              refine va_calli (va_runV (As := [.int 6, .int 0]) (rest := []) ⟨hx, hb, hml, hown, hwd⟩ (c_X3_put l dC dI g c adK adV v6761 F6762 nr H.size 6 0 hg hnr hI (by have : (6 : Int32).toInt = 6 := (by decide); omega) (by have : (0 : Int32).toInt = 0 := (by decide); omega)) (cwV 2 hwd (gV wk_882 wk_879 wk_880 wk_881 wk_38) rfl rfl rfl (by decide +kernel) ⟨Nat.le_of_ble_eq_true rfl, Nat.le_of_ble_eq_true rfl⟩) ⟨PX.blind, va_recv hK hP (ci := 3) (q0 := 7) rfl rfl, fun U hU hW => ⟨rfl, PX.at hK hE hP hS hU hW⟩⟩ rfl rfl hl.1 rfl (lv_room (Nat.le_of_ble_eq_true rfl)) dX3_readSum_65 ⟨Nat.le_of_ble_eq_true rfl, Nat.le_of_ble_eq_true rfl⟩) hS (fun q _ h => (freeX hS) q h) (freeX hS) (fun r6764 u t H1 locs ht hvm hw hB hz1 hk1 hS => ?_)
              unfold BX at hB
              rw [ht] at hB
              obtain ⟨v6765, F6766, rc9⟩ := u
              obtain ⟨hI, hal9, hrc, hf6767, hw⟩ := hw
              dsimp only at hI hal9 hrc hB hf6767 hw
              rw [hrc] at hB
              have hal := hal9.trans hal
              have hP : va_P (dC, dI) classes (wX g c v6765 F6766 (g (44 + nr))) H1 := hB
              have hw : -1 ≤ r6764.toInt ∧ r6764.toInt ≤ 119 := hw
              have k6768 : (6 : Int32).toInt = 6 := by decide
              have k6769 : (0 : Int32).toInt = 0 := by decide
              generalize H1 = H at hP hS ⊢
              have hw_r6764 := hw
              refine lv_pop hx hb dX3_readSum_68 rfl ?_
              obtain ⟨z6770, e6771⟩ : ∃ y : Int32, y = x2_lp6705 + 1 := ⟨_, rfl⟩
              try (have t6772 := tadd e6771 rfl (b := 1) (by decide) (by omega))
              refine lv_iinc (v := z6770) (lv' := [(2, .int z6770), (3, .int 6), (0, .ref (g 7)), (1, .int 0)]) hx hb dX3_readSum_69 hl (k := 1) rfl (by rw [e6771]; rfl) (by decide) rfl (fun ls hl => ?_)
              refine lv_goto (tgt := 7) hx hb dX3_readSum_72 (by decide) ?_
              exact ih_lp6705 z6770 v6765 F6766 _ _ _ (by omega) (by omega) (frC (by decide) hf6767 (frC (by decide) hf6763 (frU (by decide) hf_lp6705))) hI hal hP hS (lv_sub hl [0, 2, 3] rfl)
            · skip
              have t6773 := cv_eq (a := r6754.toInt) rfl (b := 43) (by decide) c6755
              refine lv_iconst (v := 5) hx hb dX3_readSum_40 (by decide) ?_
              refine lv_goto (tgt := 46) hx hb dX3_readSum_41 (by decide) ?_
              refine lv_istore_n (lv' := [(3, .int 5), (2, .int x2_lp6705), (0, .ref (g 7)), (1, .int 0)]) hx hb dX3_readSum_46 rfl hl (by decide) rfl (fun ls hl => ?_)
              refine lv_aload_n hx hb dX3_readSum_47 rfl (lv_at hl 2 rfl) ?_
              refine lv_dup hx hb dX3_readSum_48 rfl ?_
              refine va_get (D := (dC, dI)) (ci := 3) (v := .int (v_lp6705 143)) (C := RX3) (T := TX3) (N := 5) hx hb hwd inA_X3 hown hK hP 7 rfl rfl 3 (by decide) (hwd _ wk_853) (fun _ h9 => h9) rfl dX3_readSum_49 ?_
              refine lv_iconst (v := 1) hx hb dX3_readSum_52 (by decide) ?_
              refine lv_iadd hx hb dX3_readSum_53 ?_
              refine lv_topi (fun z6774 e6775 => ?_)
              try (have t6776 := tadd e6775 (a := (v_lp6705 143).toInt) rfl (b := 1) (by decide) (by omega))
              refine va_put (D := (dC, dI)) (ci := 3) (v := .int z6774) (ty := .int) (C := RX3) (T := TX3) (N := 5) (fs := fsX_7 g v_lp6705 (g (44 + nr))) hx hb hwd inA_X3 tyX3 tyX3_ok nmX3 hown hK hP (DX hg) hS 7 rfl rfl 3 (by decide) (hwd _ wk_853) (fun _ h9 => h9) rfl (by decide +kernel) rfl rfl (Nat.le_of_ble_eq_true rfl) dX3_readSum_54 (fun H locs hP _ hS => ?_)
              have hP := va_P_eq (pX_143 g c _ _ _ _) hP
              have hI := IX.put0 hI 143 z6774 rfl
              have hal := (alX_v _ _ 143 z6774 (by decide) (by decide) (by decide) (by decide)).trans hal
              refine lv_aload_n hx hb dX3_readSum_57 rfl (lv_at hl 2 rfl) ?_
              refine lv_iload_n hx hb dX3_readSum_58 rfl (lv_at hl 3 rfl) ?_
              refine va_callv (va_runV (As := [.int 0]) (rest := []) ⟨hx, hb, hml, hown, hwd⟩ (c_X3_readProduct_0 l dC dI g c adK adV (va_up v_lp6705 143 z6774) F_lp6705 nr H.size  hg hnr hI ) (cwV 1 hwd (gV wk_989 wk_991 wk_992 wk_993 wk_38) rfl rfl rfl (by decide +kernel) ⟨Nat.le_of_ble_eq_true rfl, Nat.le_of_ble_eq_true rfl⟩) ⟨PX.blind, va_recv hK hP (ci := 3) (q0 := 7) rfl rfl, fun U hU hW => ⟨rfl, PX.at hK hE hP hS hU hW⟩⟩ rfl rfl hl.1 rfl (lv_room (Nat.le_of_ble_eq_true rfl)) dX3_readSum_59 ⟨Nat.le_of_ble_eq_true rfl, Nat.le_of_ble_eq_true rfl⟩) hS (fun q _ h => (freeX hS) q h) (freeX hS) (fun u t H1 locs ht hvm hw hB hz1 hk1 hS => ?_)
              unfold BX at hB
              rw [ht] at hB
              obtain ⟨v6778, F6779, rc9⟩ := u
              obtain ⟨hI, hal9, hrc, hf6780, hw⟩ := hw
              dsimp only at hI hal9 hrc hB hf6780 hw
              rw [hrc] at hB
              have hal := hal9.trans hal
              have hP : va_P (dC, dI) classes (wX g c v6778 F6779 (g (44 + nr))) H1 := hB
              generalize H1 = H at hP hS ⊢
              refine lv_aload_n hx hb dX3_readSum_62 rfl (lv_at hl 2 rfl) ?_
              refine lv_iload_n hx hb dX3_readSum_63 rfl (lv_at hl 0 rfl) ?_
              refine lv_iconst (v := 0) hx hb dX3_readSum_64 (by decide) ?_
              refine va_calli (va_runV (As := [.int 5, .int 0]) (rest := []) ⟨hx, hb, hml, hown, hwd⟩ (c_X3_put l dC dI g c adK adV v6778 F6779 nr H.size 5 0 hg hnr hI (by have : (5 : Int32).toInt = 5 := (by decide); omega) (by have : (0 : Int32).toInt = 0 := (by decide); omega)) (cwV 2 hwd (gV wk_882 wk_879 wk_880 wk_881 wk_38) rfl rfl rfl (by decide +kernel) ⟨Nat.le_of_ble_eq_true rfl, Nat.le_of_ble_eq_true rfl⟩) ⟨PX.blind, va_recv hK hP (ci := 3) (q0 := 7) rfl rfl, fun U hU hW => ⟨rfl, PX.at hK hE hP hS hU hW⟩⟩ rfl rfl hl.1 rfl (lv_room (Nat.le_of_ble_eq_true rfl)) dX3_readSum_65 ⟨Nat.le_of_ble_eq_true rfl, Nat.le_of_ble_eq_true rfl⟩) hS (fun q _ h => (freeX hS) q h) (freeX hS) (fun r6781 u t H1 locs ht hvm hw hB hz1 hk1 hS => ?_)
              unfold BX at hB
              rw [ht] at hB
              obtain ⟨v6782, F6783, rc9⟩ := u
              obtain ⟨hI, hal9, hrc, hf6784, hw⟩ := hw
              dsimp only at hI hal9 hrc hB hf6784 hw
              rw [hrc] at hB
              have hal := hal9.trans hal
              have hP : va_P (dC, dI) classes (wX g c v6782 F6783 (g (44 + nr))) H1 := hB
              have hw : -1 ≤ r6781.toInt ∧ r6781.toInt ≤ 119 := hw
              have k6785 : (5 : Int32).toInt = 5 := by decide
              have k6786 : (0 : Int32).toInt = 0 := by decide
              generalize H1 = H at hP hS ⊢
              have hw_r6781 := hw
              refine lv_pop hx hb dX3_readSum_68 rfl ?_
              obtain ⟨z6787, e6788⟩ : ∃ y : Int32, y = x2_lp6705 + 1 := ⟨_, rfl⟩
              try (have t6789 := tadd e6788 rfl (b := 1) (by decide) (by omega))
              refine lv_iinc (v := z6787) (lv' := [(2, .int z6787), (3, .int 5), (0, .ref (g 7)), (1, .int 0)]) hx hb dX3_readSum_69 hl (k := 1) rfl (by rw [e6788]; rfl) (by decide) rfl (fun ls hl => ?_)
              refine lv_goto (tgt := 7) hx hb dX3_readSum_72 (by decide) ?_
              exact ih_lp6705 z6787 v6782 F6783 _ _ _ (by omega) (by omega) (frC (by decide) hf6784 (frC (by decide) hf6780 (frU (by decide) hf_lp6705))) hI hal hP hS (lv_sub hl [0, 2, 3] rfl)
  obtain ⟨n9, hn9⟩ : ∃ n : Nat, 2147483648 - 0 ≤ (n : Int) := ⟨((2147483648 - 0 : Int)).toNat, by omega⟩
  exact lp6705 n9 0 v6702 F6703 H _ ls (by have : (0 : Int32).toInt = 0 := (by decide); omega) (by have : (0 : Int32).toInt = 0 := (by decide); omega) (fun _ _ => rfl) hI hal hP hS hl
set_option maxHeartbeats 8000000 in
set_option maxRecDepth 100000 in
theorem c_X3_readComparison_0 (l : Launch) (dC : Nat → ClassId) (dI : Nat → Nat → Nat) (g : Nat → Nat) (c : Nat → ClassId) (adK adV : Nat → Nat) (v : Nat → Int32) (F : Nat → Nat → Int32) (nr sz : Nat) (hg : injX g) (hnr : nr < 10) (hI : IX v F) : Met l yX3_readComparison (Cond.code yX3_readComparison cX3_readComparison 3 none :: wA) ({ frames := 49, cells := 0, slots := 0, locals := 1960 }) (va_Pc [.ref (g 7), .int 0] (PX dC dI g c adK adV v F (g (44 + nr)) sz)) (va_Qv (fun (u : StX) => IX u.1 u.2.1 ∧ alX u.1 u.2.1 = alX v F ∧ u.2.2 = (g (44 + nr)) ∧ (∀ k, k ∉ ([142, 143, 144] : List Nat) → u.1 k = v k) ∧ True) (BX dC dI g c) (AX g sz)) 0 0 (AX g sz) := by
  refine Met.ofW (cc := cX3_readComparison) (maxL := 3) (ret := none) (by decide) rfl ?_
  intro p e s m args below meth c0 s₁ B hml hv
  obtain ⟨rfl, hsz, hP, hK, hE⟩ := hv
  have hx := B.exec
  have hb := B.bytes
  have hr := B.returns
  have hts := atoms_spec (ws := Cond.code yX3_readComparison cX3_readComparison 3 none :: wA) B.pre
  have hwd : ∀ w ∈ wA, w.before _ s = true := fun w h => hts w (List.mem_cons_of_mem _ h)
  have hown : s.vm.findClass RX3 = some m.cls := findClass_of_methodNamed B.named
  have hlocks := B.notSynchronized
  subst hsz
  have hl := lv_entry ([.ref (g 7), .int 0]) (n := 3) (Nat.le_of_ble_eq_true rfl)
  rw [lg_entry_eq]
  generalize (lg_sl ([.ref (g 7), .int 0]) ++ List.replicate (3 - (lg_sl ([.ref (g 7), .int 0])).length) Slot.unset).toArray = ls at hl ⊢
  have hl : lv_has ls 3 [(0, .ref (g 7)), (1, .int 0)] := hl
  obtain ⟨H, eH⟩ : ∃ z, z = s.heap := ⟨_, rfl⟩
  have hP : va_P (dC, dI) classes (wX g c v F (g (44 + nr))) H := by rw [eH]; exact hP
  have hS : va_S (AX g s.heap.size) s.heap H [] := by rw [eH]; exact va_S.rf
  refine my_heap eH ?_
  have hal : alX v F = alX v F := rfl
  refine lv_aload_n hx hb dX3_readComparison_0 rfl (lv_at hl 0 rfl) ?_
  refine lv_iload_n hx hb dX3_readComparison_1 rfl (lv_at hl 1 rfl) ?_
  refine va_callv (va_runV (As := [.int 0]) (rest := []) ⟨hx, hb, hml, hown, hwd⟩ (c_X3_readSum_0 l dC dI g c adK adV v F nr H.size  hg hnr hI ) (cwV 1 hwd (gV wk_990 wk_892 wk_893 wk_894 wk_38) rfl rfl rfl (by decide +kernel) ⟨Nat.le_of_ble_eq_true rfl, Nat.le_of_ble_eq_true rfl⟩) ⟨PX.blind, va_recv hK hP (ci := 3) (q0 := 7) rfl rfl, fun U hU hW => ⟨rfl, PX.at hK hE hP hS hU hW⟩⟩ rfl rfl hl.1 rfl (lv_room (Nat.le_of_ble_eq_true rfl)) dX3_readComparison_2 ⟨Nat.le_of_ble_eq_true rfl, Nat.le_of_ble_eq_true rfl⟩) hS (fun q _ h => (freeX hS) q h) (freeX hS) (fun u t H1 locs ht hvm hw hB hz1 hk1 hS => ?_)
  unfold BX at hB
  rw [ht] at hB
  obtain ⟨v6791, F6792, rc9⟩ := u
  obtain ⟨hI, hal9, hrc, hf6793, hw⟩ := hw
  dsimp only at hI hal9 hrc hB hf6793 hw
  rw [hrc] at hB
  have hal := hal9.trans hal
  have hP : va_P (dC, dI) classes (wX g c v6791 F6792 (g (44 + nr))) H1 := hB
  generalize H1 = H at hP hS ⊢
  refine lv_aload_n hx hb dX3_readComparison_5 rfl (lv_at hl 0 rfl) ?_
  refine va_calli (va_runV (As := []) (rest := []) ⟨hx, hb, hml, hown, hwd⟩ (c_X3_next l dC dI g c adK adV v6791 F6792 nr H.size  hg hnr hI ) (cwV 0 hwd (gV wk_866 wk_863 wk_864 wk_865 wk_38) rfl rfl rfl (by decide +kernel) ⟨Nat.le_of_ble_eq_true rfl, Nat.le_of_ble_eq_true rfl⟩) ⟨PX.blind, va_recv hK hP (ci := 3) (q0 := 7) rfl rfl, fun U hU hW => ⟨rfl, PX.at hK hE hP hS hU hW⟩⟩ rfl rfl hl.1 rfl (lv_room (Nat.le_of_ble_eq_true rfl)) dX3_readComparison_6 ⟨Nat.le_of_ble_eq_true rfl, Nat.le_of_ble_eq_true rfl⟩) hS (fun q _ h => (freeX hS) q h) (freeX hS) (fun r6794 u t H1 locs ht hvm hw hB hz1 hk1 hS => ?_)
  unfold BX at hB
  rw [ht] at hB
  have hP : va_P (dC, dI) classes (wX g c v6791 F6792 (g (44 + nr))) H1 := hB
  generalize H1 = H at hP hS ⊢
  have rr_r6794 := i32_rng r6794
  refine lv_istore_n (lv' := [(2, .int r6794), (0, .ref (g 7)), (1, .int 0)]) hx hb dX3_readComparison_9 rfl hl (by decide) rfl (fun ls hl => ?_)
  refine lv_iload_n hx hb dX3_readComparison_10 rfl (lv_at hl 0 rfl) ?_
  refine lv_bipush (v := 60) hx hb dX3_readComparison_11 (by decide) ?_
  refine lv_icmp_eq (tgt := 28) hx hb dX3_readComparison_13 (by decide) (fun c6795 => ?_) (fun c6795 => ?_)
  · skip
    have t6796 := cv_eq (a := r6794.toInt) rfl (b := 60) (by decide) c6795
    refine lv_aload_n hx hb dX3_readComparison_28 rfl (lv_at hl 1 rfl) ?_
    refine lv_dup hx hb dX3_readComparison_29 rfl ?_
    refine va_get (D := (dC, dI)) (ci := 3) (v := .int (v6791 143)) (C := RX3) (T := TX3) (N := 5) hx hb hwd inA_X3 hown hK hP 7 rfl rfl 3 (by decide) (hwd _ wk_853) (fun _ h9 => h9) rfl dX3_readComparison_30 ?_
    refine lv_iconst (v := 1) hx hb dX3_readComparison_33 (by decide) ?_
    refine lv_iadd hx hb dX3_readComparison_34 ?_
    refine lv_topi (fun z6797 e6798 => ?_)
    try (have t6799 := tadd e6798 (a := (v6791 143).toInt) rfl (b := 1) (by decide) (by omega))
    refine va_put (D := (dC, dI)) (ci := 3) (v := .int z6797) (ty := .int) (C := RX3) (T := TX3) (N := 5) (fs := fsX_7 g v6791 (g (44 + nr))) hx hb hwd inA_X3 tyX3 tyX3_ok nmX3 hown hK hP (DX hg) hS 7 rfl rfl 3 (by decide) (hwd _ wk_853) (fun _ h9 => h9) rfl (by decide +kernel) rfl rfl (Nat.le_of_ble_eq_true rfl) dX3_readComparison_35 (fun H locs hP _ hS => ?_)
    have hP := va_P_eq (pX_143 g c _ _ _ _) hP
    have hI := IX.put0 hI 143 z6797 rfl
    have hal := (alX_v _ _ 143 z6797 (by decide) (by decide) (by decide) (by decide)).trans hal
    refine lv_aload_n hx hb dX3_readComparison_38 rfl (lv_at hl 1 rfl) ?_
    refine lv_iload_n hx hb dX3_readComparison_39 rfl (lv_at hl 2 rfl) ?_
    refine va_callv (va_runV (As := [.int 0]) (rest := []) ⟨hx, hb, hml, hown, hwd⟩ (c_X3_readSum_0 l dC dI g c adK adV (va_up v6791 143 z6797) F6792 nr H.size  hg hnr hI ) (cwV 1 hwd (gV wk_990 wk_892 wk_893 wk_894 wk_38) rfl rfl rfl (by decide +kernel) ⟨Nat.le_of_ble_eq_true rfl, Nat.le_of_ble_eq_true rfl⟩) ⟨PX.blind, va_recv hK hP (ci := 3) (q0 := 7) rfl rfl, fun U hU hW => ⟨rfl, PX.at hK hE hP hS hU hW⟩⟩ rfl rfl hl.1 rfl (lv_room (Nat.le_of_ble_eq_true rfl)) dX3_readComparison_40 ⟨Nat.le_of_ble_eq_true rfl, Nat.le_of_ble_eq_true rfl⟩) hS (fun q _ h => (freeX hS) q h) (freeX hS) (fun u t H1 locs ht hvm hw hB hz1 hk1 hS => ?_)
    unfold BX at hB
    rw [ht] at hB
    obtain ⟨v6801, F6802, rc9⟩ := u
    obtain ⟨hI, hal9, hrc, hf6803, hw⟩ := hw
    dsimp only at hI hal9 hrc hB hf6803 hw
    rw [hrc] at hB
    have hal := hal9.trans hal
    have hP : va_P (dC, dI) classes (wX g c v6801 F6802 (g (44 + nr))) H1 := hB
    generalize H1 = H at hP hS ⊢
    refine lv_aload_n hx hb dX3_readComparison_43 rfl (lv_at hl 1 rfl) ?_
    refine lv_iload_n hx hb dX3_readComparison_44 rfl (lv_at hl 0 rfl) ?_
    refine lv_bipush (v := 60) hx hb dX3_readComparison_45 (by decide) ?_
    refine lv_icmp_ne (tgt := 55) hx hb dX3_readComparison_47 (by decide) (fun c6804 => ?_) (fun c6804 => ?_)
    · skip
      have t6805 := cv_ne (a := r6794.toInt) rfl (b := 60) (by decide) c6804
      refine lv_iload_n hx hb dX3_readComparison_55 rfl (lv_at hl 0 rfl) ?_
      refine lv_bipush (v := 61) hx hb dX3_readComparison_56 (by decide) ?_
      refine lv_icmp_ne (tgt := 66) hx hb dX3_readComparison_58 (by decide) (fun c6806 => ?_) (fun c6806 => ?_)
      · skip
        have t6807 := cv_ne (a := r6794.toInt) rfl (b := 61) (by decide) c6806
        refine lv_bipush (v := 11) hx hb dX3_readComparison_66 (by decide) ?_
        refine lv_iconst (v := 0) hx hb dX3_readComparison_68 (by decide) ?_
        refine va_calli (va_runV (As := [.int 11, .int 0]) (rest := []) ⟨hx, hb, hml, hown, hwd⟩ (c_X3_put l dC dI g c adK adV v6801 F6802 nr H.size 11 0 hg hnr hI (by have : (11 : Int32).toInt = 11 := (by decide); omega) (by have : (0 : Int32).toInt = 0 := (by decide); omega)) (cwV 2 hwd (gV wk_882 wk_879 wk_880 wk_881 wk_38) rfl rfl rfl (by decide +kernel) ⟨Nat.le_of_ble_eq_true rfl, Nat.le_of_ble_eq_true rfl⟩) ⟨PX.blind, va_recv hK hP (ci := 3) (q0 := 7) rfl rfl, fun U hU hW => ⟨rfl, PX.at hK hE hP hS hU hW⟩⟩ rfl rfl hl.1 rfl (lv_room (Nat.le_of_ble_eq_true rfl)) dX3_readComparison_69 ⟨Nat.le_of_ble_eq_true rfl, Nat.le_of_ble_eq_true rfl⟩) hS (fun q _ h => (freeX hS) q h) (freeX hS) (fun r6808 u t H1 locs ht hvm hw hB hz1 hk1 hS => ?_)
        unfold BX at hB
        rw [ht] at hB
        obtain ⟨v6809, F6810, rc9⟩ := u
        obtain ⟨hI, hal9, hrc, hf6811, hw⟩ := hw
        dsimp only at hI hal9 hrc hB hf6811 hw
        rw [hrc] at hB
        have hal := hal9.trans hal
        have hP : va_P (dC, dI) classes (wX g c v6809 F6810 (g (44 + nr))) H1 := hB
        have hw : -1 ≤ r6808.toInt ∧ r6808.toInt ≤ 119 := hw
        have k6812 : (11 : Int32).toInt = 11 := by decide
        have k6813 : (0 : Int32).toInt = 0 := by decide
        generalize H1 = H at hP hS ⊢
        have hw_r6808 := hw
        refine lv_pop hx hb dX3_readComparison_72 rfl ?_
        have hP9 : va_P (dC, dI) classes (wX g c v6809 F6810 (g (44 + nr))) H := hP
        exact W.vret hx hb hr (fun t ht hW => ⟨⟨(v6809, F6810, (g (44 + nr))), rfl, ⟨hI, hal, rfl, (frC (by decide) hf6811 (frC (by decide) hf6803 (frU (by decide) (frC (by decide) hf6793 (fun _ _ => rfl))))), trivial⟩, (by show va_P _ _ _ t.heap; rw [ht]; exact hP9)⟩, hS.F ht⟩) hS.2.2 dX3_readComparison_73
      · skip
        have t6814 := cv_eq (a := r6794.toInt) rfl (b := 61) (by decide) c6806
        refine lv_bipush (v := 10) hx hb dX3_readComparison_61 (by decide) ?_
        refine lv_goto (tgt := 68) hx hb dX3_readComparison_63 (by decide) ?_
        refine lv_iconst (v := 0) hx hb dX3_readComparison_68 (by decide) ?_
        refine va_calli (va_runV (As := [.int 10, .int 0]) (rest := []) ⟨hx, hb, hml, hown, hwd⟩ (c_X3_put l dC dI g c adK adV v6801 F6802 nr H.size 10 0 hg hnr hI (by have : (10 : Int32).toInt = 10 := (by decide); omega) (by have : (0 : Int32).toInt = 0 := (by decide); omega)) (cwV 2 hwd (gV wk_882 wk_879 wk_880 wk_881 wk_38) rfl rfl rfl (by decide +kernel) ⟨Nat.le_of_ble_eq_true rfl, Nat.le_of_ble_eq_true rfl⟩) ⟨PX.blind, va_recv hK hP (ci := 3) (q0 := 7) rfl rfl, fun U hU hW => ⟨rfl, PX.at hK hE hP hS hU hW⟩⟩ rfl rfl hl.1 rfl (lv_room (Nat.le_of_ble_eq_true rfl)) dX3_readComparison_69 ⟨Nat.le_of_ble_eq_true rfl, Nat.le_of_ble_eq_true rfl⟩) hS (fun q _ h => (freeX hS) q h) (freeX hS) (fun r6815 u t H1 locs ht hvm hw hB hz1 hk1 hS => ?_)
        unfold BX at hB
        rw [ht] at hB
        obtain ⟨v6816, F6817, rc9⟩ := u
        obtain ⟨hI, hal9, hrc, hf6818, hw⟩ := hw
        dsimp only at hI hal9 hrc hB hf6818 hw
        rw [hrc] at hB
        have hal := hal9.trans hal
        have hP : va_P (dC, dI) classes (wX g c v6816 F6817 (g (44 + nr))) H1 := hB
        have hw : -1 ≤ r6815.toInt ∧ r6815.toInt ≤ 119 := hw
        have k6819 : (10 : Int32).toInt = 10 := by decide
        have k6820 : (0 : Int32).toInt = 0 := by decide
        generalize H1 = H at hP hS ⊢
        have hw_r6815 := hw
        refine lv_pop hx hb dX3_readComparison_72 rfl ?_
        have hP9 : va_P (dC, dI) classes (wX g c v6816 F6817 (g (44 + nr))) H := hP
        exact W.vret hx hb hr (fun t ht hW => ⟨⟨(v6816, F6817, (g (44 + nr))), rfl, ⟨hI, hal, rfl, (frC (by decide) hf6818 (frC (by decide) hf6803 (frU (by decide) (frC (by decide) hf6793 (fun _ _ => rfl))))), trivial⟩, (by show va_P _ _ _ t.heap; rw [ht]; exact hP9)⟩, hS.F ht⟩) hS.2.2 dX3_readComparison_73
    · skip
      have t6821 := cv_eq (a := r6794.toInt) rfl (b := 60) (by decide) c6804
      refine lv_bipush (v := 9) hx hb dX3_readComparison_50 (by decide) ?_
      refine lv_goto (tgt := 68) hx hb dX3_readComparison_52 (by decide) ?_
      refine lv_iconst (v := 0) hx hb dX3_readComparison_68 (by decide) ?_
      refine va_calli (va_runV (As := [.int 9, .int 0]) (rest := []) ⟨hx, hb, hml, hown, hwd⟩ (c_X3_put l dC dI g c adK adV v6801 F6802 nr H.size 9 0 hg hnr hI (by have : (9 : Int32).toInt = 9 := (by decide); omega) (by have : (0 : Int32).toInt = 0 := (by decide); omega)) (cwV 2 hwd (gV wk_882 wk_879 wk_880 wk_881 wk_38) rfl rfl rfl (by decide +kernel) ⟨Nat.le_of_ble_eq_true rfl, Nat.le_of_ble_eq_true rfl⟩) ⟨PX.blind, va_recv hK hP (ci := 3) (q0 := 7) rfl rfl, fun U hU hW => ⟨rfl, PX.at hK hE hP hS hU hW⟩⟩ rfl rfl hl.1 rfl (lv_room (Nat.le_of_ble_eq_true rfl)) dX3_readComparison_69 ⟨Nat.le_of_ble_eq_true rfl, Nat.le_of_ble_eq_true rfl⟩) hS (fun q _ h => (freeX hS) q h) (freeX hS) (fun r6822 u t H1 locs ht hvm hw hB hz1 hk1 hS => ?_)
      unfold BX at hB
      rw [ht] at hB
      obtain ⟨v6823, F6824, rc9⟩ := u
      obtain ⟨hI, hal9, hrc, hf6825, hw⟩ := hw
      dsimp only at hI hal9 hrc hB hf6825 hw
      rw [hrc] at hB
      have hal := hal9.trans hal
      have hP : va_P (dC, dI) classes (wX g c v6823 F6824 (g (44 + nr))) H1 := hB
      have hw : -1 ≤ r6822.toInt ∧ r6822.toInt ≤ 119 := hw
      have k6826 : (9 : Int32).toInt = 9 := by decide
      have k6827 : (0 : Int32).toInt = 0 := by decide
      generalize H1 = H at hP hS ⊢
      have hw_r6822 := hw
      refine lv_pop hx hb dX3_readComparison_72 rfl ?_
      have hP9 : va_P (dC, dI) classes (wX g c v6823 F6824 (g (44 + nr))) H := hP
      exact W.vret hx hb hr (fun t ht hW => ⟨⟨(v6823, F6824, (g (44 + nr))), rfl, ⟨hI, hal, rfl, (frC (by decide) hf6825 (frC (by decide) hf6803 (frU (by decide) (frC (by decide) hf6793 (fun _ _ => rfl))))), trivial⟩, (by show va_P _ _ _ t.heap; rw [ht]; exact hP9)⟩, hS.F ht⟩) hS.2.2 dX3_readComparison_73
  · skip
    have t6828 := cv_ne (a := r6794.toInt) rfl (b := 60) (by decide) c6795
    refine lv_iload_n hx hb dX3_readComparison_16 rfl (lv_at hl 0 rfl) ?_
    refine lv_bipush (v := 61) hx hb dX3_readComparison_17 (by decide) ?_
    refine lv_icmp_eq (tgt := 28) hx hb dX3_readComparison_19 (by decide) (fun c6829 => ?_) (fun c6829 => ?_)
    · skip
      have t6830 := cv_eq (a := r6794.toInt) rfl (b := 61) (by decide) c6829
      refine lv_aload_n hx hb dX3_readComparison_28 rfl (lv_at hl 1 rfl) ?_
      refine lv_dup hx hb dX3_readComparison_29 rfl ?_
      refine va_get (D := (dC, dI)) (ci := 3) (v := .int (v6791 143)) (C := RX3) (T := TX3) (N := 5) hx hb hwd inA_X3 hown hK hP 7 rfl rfl 3 (by decide) (hwd _ wk_853) (fun _ h9 => h9) rfl dX3_readComparison_30 ?_
      refine lv_iconst (v := 1) hx hb dX3_readComparison_33 (by decide) ?_
      refine lv_iadd hx hb dX3_readComparison_34 ?_
      refine lv_topi (fun z6831 e6832 => ?_)
      try (have t6833 := tadd e6832 (a := (v6791 143).toInt) rfl (b := 1) (by decide) (by omega))
      refine va_put (D := (dC, dI)) (ci := 3) (v := .int z6831) (ty := .int) (C := RX3) (T := TX3) (N := 5) (fs := fsX_7 g v6791 (g (44 + nr))) hx hb hwd inA_X3 tyX3 tyX3_ok nmX3 hown hK hP (DX hg) hS 7 rfl rfl 3 (by decide) (hwd _ wk_853) (fun _ h9 => h9) rfl (by decide +kernel) rfl rfl (Nat.le_of_ble_eq_true rfl) dX3_readComparison_35 (fun H locs hP _ hS => ?_)
      have hP := va_P_eq (pX_143 g c _ _ _ _) hP
      have hI := IX.put0 hI 143 z6831 rfl
      have hal := (alX_v _ _ 143 z6831 (by decide) (by decide) (by decide) (by decide)).trans hal
      refine lv_aload_n hx hb dX3_readComparison_38 rfl (lv_at hl 1 rfl) ?_
      refine lv_iload_n hx hb dX3_readComparison_39 rfl (lv_at hl 2 rfl) ?_
      refine va_callv (va_runV (As := [.int 0]) (rest := []) ⟨hx, hb, hml, hown, hwd⟩ (c_X3_readSum_0 l dC dI g c adK adV (va_up v6791 143 z6831) F6792 nr H.size  hg hnr hI ) (cwV 1 hwd (gV wk_990 wk_892 wk_893 wk_894 wk_38) rfl rfl rfl (by decide +kernel) ⟨Nat.le_of_ble_eq_true rfl, Nat.le_of_ble_eq_true rfl⟩) ⟨PX.blind, va_recv hK hP (ci := 3) (q0 := 7) rfl rfl, fun U hU hW => ⟨rfl, PX.at hK hE hP hS hU hW⟩⟩ rfl rfl hl.1 rfl (lv_room (Nat.le_of_ble_eq_true rfl)) dX3_readComparison_40 ⟨Nat.le_of_ble_eq_true rfl, Nat.le_of_ble_eq_true rfl⟩) hS (fun q _ h => (freeX hS) q h) (freeX hS) (fun u t H1 locs ht hvm hw hB hz1 hk1 hS => ?_)
      unfold BX at hB
      rw [ht] at hB
      obtain ⟨v6835, F6836, rc9⟩ := u
      obtain ⟨hI, hal9, hrc, hf6837, hw⟩ := hw
      dsimp only at hI hal9 hrc hB hf6837 hw
      rw [hrc] at hB
      have hal := hal9.trans hal
      have hP : va_P (dC, dI) classes (wX g c v6835 F6836 (g (44 + nr))) H1 := hB
      generalize H1 = H at hP hS ⊢
      refine lv_aload_n hx hb dX3_readComparison_43 rfl (lv_at hl 1 rfl) ?_
      refine lv_iload_n hx hb dX3_readComparison_44 rfl (lv_at hl 0 rfl) ?_
      refine lv_bipush (v := 60) hx hb dX3_readComparison_45 (by decide) ?_
      refine lv_icmp_ne (tgt := 55) hx hb dX3_readComparison_47 (by decide) (fun c6838 => ?_) (fun c6838 => ?_)
      · skip
        have t6839 := cv_ne (a := r6794.toInt) rfl (b := 60) (by decide) c6838
        refine lv_iload_n hx hb dX3_readComparison_55 rfl (lv_at hl 0 rfl) ?_
        refine lv_bipush (v := 61) hx hb dX3_readComparison_56 (by decide) ?_
        refine lv_icmp_ne (tgt := 66) hx hb dX3_readComparison_58 (by decide) (fun c6840 => ?_) (fun c6840 => ?_)
        · skip
          have t6841 := cv_ne (a := r6794.toInt) rfl (b := 61) (by decide) c6840
          refine lv_bipush (v := 11) hx hb dX3_readComparison_66 (by decide) ?_
          refine lv_iconst (v := 0) hx hb dX3_readComparison_68 (by decide) ?_
          refine va_calli (va_runV (As := [.int 11, .int 0]) (rest := []) ⟨hx, hb, hml, hown, hwd⟩ (c_X3_put l dC dI g c adK adV v6835 F6836 nr H.size 11 0 hg hnr hI (by have : (11 : Int32).toInt = 11 := (by decide); omega) (by have : (0 : Int32).toInt = 0 := (by decide); omega)) (cwV 2 hwd (gV wk_882 wk_879 wk_880 wk_881 wk_38) rfl rfl rfl (by decide +kernel) ⟨Nat.le_of_ble_eq_true rfl, Nat.le_of_ble_eq_true rfl⟩) ⟨PX.blind, va_recv hK hP (ci := 3) (q0 := 7) rfl rfl, fun U hU hW => ⟨rfl, PX.at hK hE hP hS hU hW⟩⟩ rfl rfl hl.1 rfl (lv_room (Nat.le_of_ble_eq_true rfl)) dX3_readComparison_69 ⟨Nat.le_of_ble_eq_true rfl, Nat.le_of_ble_eq_true rfl⟩) hS (fun q _ h => (freeX hS) q h) (freeX hS) (fun r6842 u t H1 locs ht hvm hw hB hz1 hk1 hS => ?_)
          unfold BX at hB
          rw [ht] at hB
          obtain ⟨v6843, F6844, rc9⟩ := u
          obtain ⟨hI, hal9, hrc, hf6845, hw⟩ := hw
          dsimp only at hI hal9 hrc hB hf6845 hw
          rw [hrc] at hB
          have hal := hal9.trans hal
          have hP : va_P (dC, dI) classes (wX g c v6843 F6844 (g (44 + nr))) H1 := hB
          have hw : -1 ≤ r6842.toInt ∧ r6842.toInt ≤ 119 := hw
          have k6846 : (11 : Int32).toInt = 11 := by decide
          have k6847 : (0 : Int32).toInt = 0 := by decide
          generalize H1 = H at hP hS ⊢
          have hw_r6842 := hw
          refine lv_pop hx hb dX3_readComparison_72 rfl ?_
          have hP9 : va_P (dC, dI) classes (wX g c v6843 F6844 (g (44 + nr))) H := hP
          exact W.vret hx hb hr (fun t ht hW => ⟨⟨(v6843, F6844, (g (44 + nr))), rfl, ⟨hI, hal, rfl, (frC (by decide) hf6845 (frC (by decide) hf6837 (frU (by decide) (frC (by decide) hf6793 (fun _ _ => rfl))))), trivial⟩, (by show va_P _ _ _ t.heap; rw [ht]; exact hP9)⟩, hS.F ht⟩) hS.2.2 dX3_readComparison_73
        · skip
          have t6848 := cv_eq (a := r6794.toInt) rfl (b := 61) (by decide) c6840
          refine lv_bipush (v := 10) hx hb dX3_readComparison_61 (by decide) ?_
          refine lv_goto (tgt := 68) hx hb dX3_readComparison_63 (by decide) ?_
          refine lv_iconst (v := 0) hx hb dX3_readComparison_68 (by decide) ?_
          refine va_calli (va_runV (As := [.int 10, .int 0]) (rest := []) ⟨hx, hb, hml, hown, hwd⟩ (c_X3_put l dC dI g c adK adV v6835 F6836 nr H.size 10 0 hg hnr hI (by have : (10 : Int32).toInt = 10 := (by decide); omega) (by have : (0 : Int32).toInt = 0 := (by decide); omega)) (cwV 2 hwd (gV wk_882 wk_879 wk_880 wk_881 wk_38) rfl rfl rfl (by decide +kernel) ⟨Nat.le_of_ble_eq_true rfl, Nat.le_of_ble_eq_true rfl⟩) ⟨PX.blind, va_recv hK hP (ci := 3) (q0 := 7) rfl rfl, fun U hU hW => ⟨rfl, PX.at hK hE hP hS hU hW⟩⟩ rfl rfl hl.1 rfl (lv_room (Nat.le_of_ble_eq_true rfl)) dX3_readComparison_69 ⟨Nat.le_of_ble_eq_true rfl, Nat.le_of_ble_eq_true rfl⟩) hS (fun q _ h => (freeX hS) q h) (freeX hS) (fun r6849 u t H1 locs ht hvm hw hB hz1 hk1 hS => ?_)
          unfold BX at hB
          rw [ht] at hB
          obtain ⟨v6850, F6851, rc9⟩ := u
          obtain ⟨hI, hal9, hrc, hf6852, hw⟩ := hw
          dsimp only at hI hal9 hrc hB hf6852 hw
          rw [hrc] at hB
          have hal := hal9.trans hal
          have hP : va_P (dC, dI) classes (wX g c v6850 F6851 (g (44 + nr))) H1 := hB
          have hw : -1 ≤ r6849.toInt ∧ r6849.toInt ≤ 119 := hw
          have k6853 : (10 : Int32).toInt = 10 := by decide
          have k6854 : (0 : Int32).toInt = 0 := by decide
          generalize H1 = H at hP hS ⊢
          have hw_r6849 := hw
          refine lv_pop hx hb dX3_readComparison_72 rfl ?_
          have hP9 : va_P (dC, dI) classes (wX g c v6850 F6851 (g (44 + nr))) H := hP
          exact W.vret hx hb hr (fun t ht hW => ⟨⟨(v6850, F6851, (g (44 + nr))), rfl, ⟨hI, hal, rfl, (frC (by decide) hf6852 (frC (by decide) hf6837 (frU (by decide) (frC (by decide) hf6793 (fun _ _ => rfl))))), trivial⟩, (by show va_P _ _ _ t.heap; rw [ht]; exact hP9)⟩, hS.F ht⟩) hS.2.2 dX3_readComparison_73
      · skip
        have t6855 := cv_eq (a := r6794.toInt) rfl (b := 60) (by decide) c6838
        refine lv_bipush (v := 9) hx hb dX3_readComparison_50 (by decide) ?_
        refine lv_goto (tgt := 68) hx hb dX3_readComparison_52 (by decide) ?_
        refine lv_iconst (v := 0) hx hb dX3_readComparison_68 (by decide) ?_
        refine va_calli (va_runV (As := [.int 9, .int 0]) (rest := []) ⟨hx, hb, hml, hown, hwd⟩ (c_X3_put l dC dI g c adK adV v6835 F6836 nr H.size 9 0 hg hnr hI (by have : (9 : Int32).toInt = 9 := (by decide); omega) (by have : (0 : Int32).toInt = 0 := (by decide); omega)) (cwV 2 hwd (gV wk_882 wk_879 wk_880 wk_881 wk_38) rfl rfl rfl (by decide +kernel) ⟨Nat.le_of_ble_eq_true rfl, Nat.le_of_ble_eq_true rfl⟩) ⟨PX.blind, va_recv hK hP (ci := 3) (q0 := 7) rfl rfl, fun U hU hW => ⟨rfl, PX.at hK hE hP hS hU hW⟩⟩ rfl rfl hl.1 rfl (lv_room (Nat.le_of_ble_eq_true rfl)) dX3_readComparison_69 ⟨Nat.le_of_ble_eq_true rfl, Nat.le_of_ble_eq_true rfl⟩) hS (fun q _ h => (freeX hS) q h) (freeX hS) (fun r6856 u t H1 locs ht hvm hw hB hz1 hk1 hS => ?_)
        unfold BX at hB
        rw [ht] at hB
        obtain ⟨v6857, F6858, rc9⟩ := u
        obtain ⟨hI, hal9, hrc, hf6859, hw⟩ := hw
        dsimp only at hI hal9 hrc hB hf6859 hw
        rw [hrc] at hB
        have hal := hal9.trans hal
        have hP : va_P (dC, dI) classes (wX g c v6857 F6858 (g (44 + nr))) H1 := hB
        have hw : -1 ≤ r6856.toInt ∧ r6856.toInt ≤ 119 := hw
        have k6860 : (9 : Int32).toInt = 9 := by decide
        have k6861 : (0 : Int32).toInt = 0 := by decide
        generalize H1 = H at hP hS ⊢
        have hw_r6856 := hw
        refine lv_pop hx hb dX3_readComparison_72 rfl ?_
        have hP9 : va_P (dC, dI) classes (wX g c v6857 F6858 (g (44 + nr))) H := hP
        exact W.vret hx hb hr (fun t ht hW => ⟨⟨(v6857, F6858, (g (44 + nr))), rfl, ⟨hI, hal, rfl, (frC (by decide) hf6859 (frC (by decide) hf6837 (frU (by decide) (frC (by decide) hf6793 (fun _ _ => rfl))))), trivial⟩, (by show va_P _ _ _ t.heap; rw [ht]; exact hP9)⟩, hS.F ht⟩) hS.2.2 dX3_readComparison_73
    · skip
      have t6862 := cv_ne (a := r6794.toInt) rfl (b := 61) (by decide) c6829
      refine lv_iload_n hx hb dX3_readComparison_22 rfl (lv_at hl 0 rfl) ?_
      refine lv_bipush (v := 62) hx hb dX3_readComparison_23 (by decide) ?_
      refine lv_icmp_ne (tgt := 73) hx hb dX3_readComparison_25 (by decide) (fun c6863 => ?_) (fun c6863 => ?_)
      · skip
        have t6864 := cv_ne (a := r6794.toInt) rfl (b := 62) (by decide) c6863
        have hP9 : va_P (dC, dI) classes (wX g c v6791 F6792 (g (44 + nr))) H := hP
        exact W.vret hx hb hr (fun t ht hW => ⟨⟨(v6791, F6792, (g (44 + nr))), rfl, ⟨hI, hal, rfl, (frC (by decide) hf6793 (fun _ _ => rfl)), trivial⟩, (by show va_P _ _ _ t.heap; rw [ht]; exact hP9)⟩, hS.F ht⟩) hS.2.2 dX3_readComparison_73
      · skip
        have t6865 := cv_eq (a := r6794.toInt) rfl (b := 62) (by decide) c6863
        refine lv_aload_n hx hb dX3_readComparison_28 rfl (lv_at hl 1 rfl) ?_
        refine lv_dup hx hb dX3_readComparison_29 rfl ?_
        refine va_get (D := (dC, dI)) (ci := 3) (v := .int (v6791 143)) (C := RX3) (T := TX3) (N := 5) hx hb hwd inA_X3 hown hK hP 7 rfl rfl 3 (by decide) (hwd _ wk_853) (fun _ h9 => h9) rfl dX3_readComparison_30 ?_
        refine lv_iconst (v := 1) hx hb dX3_readComparison_33 (by decide) ?_
        refine lv_iadd hx hb dX3_readComparison_34 ?_
        refine lv_topi (fun z6866 e6867 => ?_)
        try (have t6868 := tadd e6867 (a := (v6791 143).toInt) rfl (b := 1) (by decide) (by omega))
        refine va_put (D := (dC, dI)) (ci := 3) (v := .int z6866) (ty := .int) (C := RX3) (T := TX3) (N := 5) (fs := fsX_7 g v6791 (g (44 + nr))) hx hb hwd inA_X3 tyX3 tyX3_ok nmX3 hown hK hP (DX hg) hS 7 rfl rfl 3 (by decide) (hwd _ wk_853) (fun _ h9 => h9) rfl (by decide +kernel) rfl rfl (Nat.le_of_ble_eq_true rfl) dX3_readComparison_35 (fun H locs hP _ hS => ?_)
        have hP := va_P_eq (pX_143 g c _ _ _ _) hP
        have hI := IX.put0 hI 143 z6866 rfl
        have hal := (alX_v _ _ 143 z6866 (by decide) (by decide) (by decide) (by decide)).trans hal
        refine lv_aload_n hx hb dX3_readComparison_38 rfl (lv_at hl 1 rfl) ?_
        refine lv_iload_n hx hb dX3_readComparison_39 rfl (lv_at hl 2 rfl) ?_
        refine va_callv (va_runV (As := [.int 0]) (rest := []) ⟨hx, hb, hml, hown, hwd⟩ (c_X3_readSum_0 l dC dI g c adK adV (va_up v6791 143 z6866) F6792 nr H.size  hg hnr hI ) (cwV 1 hwd (gV wk_990 wk_892 wk_893 wk_894 wk_38) rfl rfl rfl (by decide +kernel) ⟨Nat.le_of_ble_eq_true rfl, Nat.le_of_ble_eq_true rfl⟩) ⟨PX.blind, va_recv hK hP (ci := 3) (q0 := 7) rfl rfl, fun U hU hW => ⟨rfl, PX.at hK hE hP hS hU hW⟩⟩ rfl rfl hl.1 rfl (lv_room (Nat.le_of_ble_eq_true rfl)) dX3_readComparison_40 ⟨Nat.le_of_ble_eq_true rfl, Nat.le_of_ble_eq_true rfl⟩) hS (fun q _ h => (freeX hS) q h) (freeX hS) (fun u t H1 locs ht hvm hw hB hz1 hk1 hS => ?_)
        unfold BX at hB
        rw [ht] at hB
        obtain ⟨v6870, F6871, rc9⟩ := u
        obtain ⟨hI, hal9, hrc, hf6872, hw⟩ := hw
        dsimp only at hI hal9 hrc hB hf6872 hw
        rw [hrc] at hB
        have hal := hal9.trans hal
        have hP : va_P (dC, dI) classes (wX g c v6870 F6871 (g (44 + nr))) H1 := hB
        generalize H1 = H at hP hS ⊢
        refine lv_aload_n hx hb dX3_readComparison_43 rfl (lv_at hl 1 rfl) ?_
        refine lv_iload_n hx hb dX3_readComparison_44 rfl (lv_at hl 0 rfl) ?_
        refine lv_bipush (v := 60) hx hb dX3_readComparison_45 (by decide) ?_
        refine lv_icmp_ne (tgt := 55) hx hb dX3_readComparison_47 (by decide) (fun c6873 => ?_) (fun c6873 => ?_)
        · skip
          have t6874 := cv_ne (a := r6794.toInt) rfl (b := 60) (by decide) c6873
          refine lv_iload_n hx hb dX3_readComparison_55 rfl (lv_at hl 0 rfl) ?_
          refine lv_bipush (v := 61) hx hb dX3_readComparison_56 (by decide) ?_
          refine lv_icmp_ne (tgt := 66) hx hb dX3_readComparison_58 (by decide) (fun c6875 => ?_) (fun c6875 => ?_)
          · skip
            have t6876 := cv_ne (a := r6794.toInt) rfl (b := 61) (by decide) c6875
            refine lv_bipush (v := 11) hx hb dX3_readComparison_66 (by decide) ?_
            refine lv_iconst (v := 0) hx hb dX3_readComparison_68 (by decide) ?_
            refine va_calli (va_runV (As := [.int 11, .int 0]) (rest := []) ⟨hx, hb, hml, hown, hwd⟩ (c_X3_put l dC dI g c adK adV v6870 F6871 nr H.size 11 0 hg hnr hI (by have : (11 : Int32).toInt = 11 := (by decide); omega) (by have : (0 : Int32).toInt = 0 := (by decide); omega)) (cwV 2 hwd (gV wk_882 wk_879 wk_880 wk_881 wk_38) rfl rfl rfl (by decide +kernel) ⟨Nat.le_of_ble_eq_true rfl, Nat.le_of_ble_eq_true rfl⟩) ⟨PX.blind, va_recv hK hP (ci := 3) (q0 := 7) rfl rfl, fun U hU hW => ⟨rfl, PX.at hK hE hP hS hU hW⟩⟩ rfl rfl hl.1 rfl (lv_room (Nat.le_of_ble_eq_true rfl)) dX3_readComparison_69 ⟨Nat.le_of_ble_eq_true rfl, Nat.le_of_ble_eq_true rfl⟩) hS (fun q _ h => (freeX hS) q h) (freeX hS) (fun r6877 u t H1 locs ht hvm hw hB hz1 hk1 hS => ?_)
            unfold BX at hB
            rw [ht] at hB
            obtain ⟨v6878, F6879, rc9⟩ := u
            obtain ⟨hI, hal9, hrc, hf6880, hw⟩ := hw
            dsimp only at hI hal9 hrc hB hf6880 hw
            rw [hrc] at hB
            have hal := hal9.trans hal
            have hP : va_P (dC, dI) classes (wX g c v6878 F6879 (g (44 + nr))) H1 := hB
            have hw : -1 ≤ r6877.toInt ∧ r6877.toInt ≤ 119 := hw
            have k6881 : (11 : Int32).toInt = 11 := by decide
            have k6882 : (0 : Int32).toInt = 0 := by decide
            generalize H1 = H at hP hS ⊢
            have hw_r6877 := hw
            refine lv_pop hx hb dX3_readComparison_72 rfl ?_
            have hP9 : va_P (dC, dI) classes (wX g c v6878 F6879 (g (44 + nr))) H := hP
            exact W.vret hx hb hr (fun t ht hW => ⟨⟨(v6878, F6879, (g (44 + nr))), rfl, ⟨hI, hal, rfl, (frC (by decide) hf6880 (frC (by decide) hf6872 (frU (by decide) (frC (by decide) hf6793 (fun _ _ => rfl))))), trivial⟩, (by show va_P _ _ _ t.heap; rw [ht]; exact hP9)⟩, hS.F ht⟩) hS.2.2 dX3_readComparison_73
          · skip
            have t6883 := cv_eq (a := r6794.toInt) rfl (b := 61) (by decide) c6875
            refine lv_bipush (v := 10) hx hb dX3_readComparison_61 (by decide) ?_
            refine lv_goto (tgt := 68) hx hb dX3_readComparison_63 (by decide) ?_
            refine lv_iconst (v := 0) hx hb dX3_readComparison_68 (by decide) ?_
            refine va_calli (va_runV (As := [.int 10, .int 0]) (rest := []) ⟨hx, hb, hml, hown, hwd⟩ (c_X3_put l dC dI g c adK adV v6870 F6871 nr H.size 10 0 hg hnr hI (by have : (10 : Int32).toInt = 10 := (by decide); omega) (by have : (0 : Int32).toInt = 0 := (by decide); omega)) (cwV 2 hwd (gV wk_882 wk_879 wk_880 wk_881 wk_38) rfl rfl rfl (by decide +kernel) ⟨Nat.le_of_ble_eq_true rfl, Nat.le_of_ble_eq_true rfl⟩) ⟨PX.blind, va_recv hK hP (ci := 3) (q0 := 7) rfl rfl, fun U hU hW => ⟨rfl, PX.at hK hE hP hS hU hW⟩⟩ rfl rfl hl.1 rfl (lv_room (Nat.le_of_ble_eq_true rfl)) dX3_readComparison_69 ⟨Nat.le_of_ble_eq_true rfl, Nat.le_of_ble_eq_true rfl⟩) hS (fun q _ h => (freeX hS) q h) (freeX hS) (fun r6884 u t H1 locs ht hvm hw hB hz1 hk1 hS => ?_)
            unfold BX at hB
            rw [ht] at hB
            obtain ⟨v6885, F6886, rc9⟩ := u
            obtain ⟨hI, hal9, hrc, hf6887, hw⟩ := hw
            dsimp only at hI hal9 hrc hB hf6887 hw
            rw [hrc] at hB
            have hal := hal9.trans hal
            have hP : va_P (dC, dI) classes (wX g c v6885 F6886 (g (44 + nr))) H1 := hB
            have hw : -1 ≤ r6884.toInt ∧ r6884.toInt ≤ 119 := hw
            have k6888 : (10 : Int32).toInt = 10 := by decide
            have k6889 : (0 : Int32).toInt = 0 := by decide
            generalize H1 = H at hP hS ⊢
            have hw_r6884 := hw
            refine lv_pop hx hb dX3_readComparison_72 rfl ?_
            have hP9 : va_P (dC, dI) classes (wX g c v6885 F6886 (g (44 + nr))) H := hP
            exact W.vret hx hb hr (fun t ht hW => ⟨⟨(v6885, F6886, (g (44 + nr))), rfl, ⟨hI, hal, rfl, (frC (by decide) hf6887 (frC (by decide) hf6872 (frU (by decide) (frC (by decide) hf6793 (fun _ _ => rfl))))), trivial⟩, (by show va_P _ _ _ t.heap; rw [ht]; exact hP9)⟩, hS.F ht⟩) hS.2.2 dX3_readComparison_73
        · skip
          have t6890 := cv_eq (a := r6794.toInt) rfl (b := 60) (by decide) c6873
          refine lv_bipush (v := 9) hx hb dX3_readComparison_50 (by decide) ?_
          refine lv_goto (tgt := 68) hx hb dX3_readComparison_52 (by decide) ?_
          refine lv_iconst (v := 0) hx hb dX3_readComparison_68 (by decide) ?_
          refine va_calli (va_runV (As := [.int 9, .int 0]) (rest := []) ⟨hx, hb, hml, hown, hwd⟩ (c_X3_put l dC dI g c adK adV v6870 F6871 nr H.size 9 0 hg hnr hI (by have : (9 : Int32).toInt = 9 := (by decide); omega) (by have : (0 : Int32).toInt = 0 := (by decide); omega)) (cwV 2 hwd (gV wk_882 wk_879 wk_880 wk_881 wk_38) rfl rfl rfl (by decide +kernel) ⟨Nat.le_of_ble_eq_true rfl, Nat.le_of_ble_eq_true rfl⟩) ⟨PX.blind, va_recv hK hP (ci := 3) (q0 := 7) rfl rfl, fun U hU hW => ⟨rfl, PX.at hK hE hP hS hU hW⟩⟩ rfl rfl hl.1 rfl (lv_room (Nat.le_of_ble_eq_true rfl)) dX3_readComparison_69 ⟨Nat.le_of_ble_eq_true rfl, Nat.le_of_ble_eq_true rfl⟩) hS (fun q _ h => (freeX hS) q h) (freeX hS) (fun r6891 u t H1 locs ht hvm hw hB hz1 hk1 hS => ?_)
          unfold BX at hB
          rw [ht] at hB
          obtain ⟨v6892, F6893, rc9⟩ := u
          obtain ⟨hI, hal9, hrc, hf6894, hw⟩ := hw
          dsimp only at hI hal9 hrc hB hf6894 hw
          rw [hrc] at hB
          have hal := hal9.trans hal
          have hP : va_P (dC, dI) classes (wX g c v6892 F6893 (g (44 + nr))) H1 := hB
          have hw : -1 ≤ r6891.toInt ∧ r6891.toInt ≤ 119 := hw
          have k6895 : (9 : Int32).toInt = 9 := by decide
          have k6896 : (0 : Int32).toInt = 0 := by decide
          generalize H1 = H at hP hS ⊢
          have hw_r6891 := hw
          refine lv_pop hx hb dX3_readComparison_72 rfl ?_
          have hP9 : va_P (dC, dI) classes (wX g c v6892 F6893 (g (44 + nr))) H := hP
          exact W.vret hx hb hr (fun t ht hW => ⟨⟨(v6892, F6893, (g (44 + nr))), rfl, ⟨hI, hal, rfl, (frC (by decide) hf6894 (frC (by decide) hf6872 (frU (by decide) (frC (by decide) hf6793 (fun _ _ => rfl))))), trivial⟩, (by show va_P _ _ _ t.heap; rw [ht]; exact hP9)⟩, hS.F ht⟩) hS.2.2 dX3_readComparison_73
set_option maxHeartbeats 8000000 in
set_option maxRecDepth 100000 in
theorem c_X3_readChoice_0 (l : Launch) (dC : Nat → ClassId) (dI : Nat → Nat → Nat) (g : Nat → Nat) (c : Nat → ClassId) (adK adV : Nat → Nat) (v : Nat → Int32) (F : Nat → Nat → Int32) (nr sz : Nat) (hg : injX g) (hnr : nr < 10) (hI : IX v F) : Met l yX3_readChoice (Cond.code yX3_readChoice cX3_readChoice 4 none :: wA) ({ frames := 50, cells := 0, slots := 0, locals := 2000 }) (va_Pc [.ref (g 7), .int 0] (PX dC dI g c adK adV v F (g (44 + nr)) sz)) (va_Qv (fun (u : StX) => IX u.1 u.2.1 ∧ alX u.1 u.2.1 = alX v F ∧ u.2.2 = (g (44 + nr)) ∧ (∀ k, k ∉ ([142, 143, 144] : List Nat) → u.1 k = v k) ∧ True) (BX dC dI g c) (AX g sz)) 0 0 (AX g sz) := by
  refine Met.ofW (cc := cX3_readChoice) (maxL := 4) (ret := none) (by decide) rfl ?_
  intro p e s m args below meth c0 s₁ B hml hv
  obtain ⟨rfl, hsz, hP, hK, hE⟩ := hv
  have hx := B.exec
  have hb := B.bytes
  have hr := B.returns
  have hts := atoms_spec (ws := Cond.code yX3_readChoice cX3_readChoice 4 none :: wA) B.pre
  have hwd : ∀ w ∈ wA, w.before _ s = true := fun w h => hts w (List.mem_cons_of_mem _ h)
  have hown : s.vm.findClass RX3 = some m.cls := findClass_of_methodNamed B.named
  have hlocks := B.notSynchronized
  subst hsz
  have hl := lv_entry ([.ref (g 7), .int 0]) (n := 4) (Nat.le_of_ble_eq_true rfl)
  rw [lg_entry_eq]
  generalize (lg_sl ([.ref (g 7), .int 0]) ++ List.replicate (4 - (lg_sl ([.ref (g 7), .int 0])).length) Slot.unset).toArray = ls at hl ⊢
  have hl : lv_has ls 4 [(0, .ref (g 7)), (1, .int 0)] := hl
  obtain ⟨H, eH⟩ : ∃ z, z = s.heap := ⟨_, rfl⟩
  have hP : va_P (dC, dI) classes (wX g c v F (g (44 + nr))) H := by rw [eH]; exact hP
  have hS : va_S (AX g s.heap.size) s.heap H [] := by rw [eH]; exact va_S.rf
  refine my_heap eH ?_
  have hal : alX v F = alX v F := rfl
  refine lv_aload_n hx hb dX3_readChoice_0 rfl (lv_at hl 0 rfl) ?_
  refine lv_iload_n hx hb dX3_readChoice_1 rfl (lv_at hl 1 rfl) ?_
  refine va_callv (va_runV (As := [.int 0]) (rest := []) ⟨hx, hb, hml, hown, hwd⟩ (c_X3_readComparison_0 l dC dI g c adK adV v F nr H.size  hg hnr hI ) (cwV 1 hwd (gV wk_891 wk_860 wk_861 wk_862 wk_38) rfl rfl rfl (by decide +kernel) ⟨Nat.le_of_ble_eq_true rfl, Nat.le_of_ble_eq_true rfl⟩) ⟨PX.blind, va_recv hK hP (ci := 3) (q0 := 7) rfl rfl, fun U hU hW => ⟨rfl, PX.at hK hE hP hS hU hW⟩⟩ rfl rfl hl.1 rfl (lv_room (Nat.le_of_ble_eq_true rfl)) dX3_readChoice_2 ⟨Nat.le_of_ble_eq_true rfl, Nat.le_of_ble_eq_true rfl⟩) hS (fun q _ h => (freeX hS) q h) (freeX hS) (fun u t H1 locs ht hvm hw hB hz1 hk1 hS => ?_)
  unfold BX at hB
  rw [ht] at hB
  obtain ⟨v6898, F6899, rc9⟩ := u
  obtain ⟨hI, hal9, hrc, hf6900, hw⟩ := hw
  dsimp only at hI hal9 hrc hB hf6900 hw
  rw [hrc] at hB
  have hal := hal9.trans hal
  have hP : va_P (dC, dI) classes (wX g c v6898 F6899 (g (44 + nr))) H1 := hB
  generalize H1 = H at hP hS ⊢
  refine lv_aload_n hx hb dX3_readChoice_5 rfl (lv_at hl 0 rfl) ?_
  refine va_calli (va_runV (As := []) (rest := []) ⟨hx, hb, hml, hown, hwd⟩ (c_X3_next l dC dI g c adK adV v6898 F6899 nr H.size  hg hnr hI ) (cwV 0 hwd (gV wk_866 wk_863 wk_864 wk_865 wk_38) rfl rfl rfl (by decide +kernel) ⟨Nat.le_of_ble_eq_true rfl, Nat.le_of_ble_eq_true rfl⟩) ⟨PX.blind, va_recv hK hP (ci := 3) (q0 := 7) rfl rfl, fun U hU hW => ⟨rfl, PX.at hK hE hP hS hU hW⟩⟩ rfl rfl hl.1 rfl (lv_room (Nat.le_of_ble_eq_true rfl)) dX3_readChoice_6 ⟨Nat.le_of_ble_eq_true rfl, Nat.le_of_ble_eq_true rfl⟩) hS (fun q _ h => (freeX hS) q h) (freeX hS) (fun r6901 u t H1 locs ht hvm hw hB hz1 hk1 hS => ?_)
  unfold BX at hB
  rw [ht] at hB
  have hP : va_P (dC, dI) classes (wX g c v6898 F6899 (g (44 + nr))) H1 := hB
  generalize H1 = H at hP hS ⊢
  have rr_r6901 := i32_rng r6901
  refine lv_bipush (v := 63) hx hb dX3_readChoice_9 (by decide) ?_
  refine lv_icmp_ne (tgt := 66) hx hb dX3_readChoice_11 (by decide) (fun c6902 => ?_) (fun c6902 => ?_)
  · skip
    have t6903 := cv_ne (a := r6901.toInt) rfl (b := 63) (by decide) c6902
    have hP9 : va_P (dC, dI) classes (wX g c v6898 F6899 (g (44 + nr))) H := hP
    exact W.vret hx hb hr (fun t ht hW => ⟨⟨(v6898, F6899, (g (44 + nr))), rfl, ⟨hI, hal, rfl, (frC (by decide) hf6900 (fun _ _ => rfl)), trivial⟩, (by show va_P _ _ _ t.heap; rw [ht]; exact hP9)⟩, hS.F ht⟩) hS.2.2 dX3_readChoice_66
  · skip
    have t6904 := cv_eq (a := r6901.toInt) rfl (b := 63) (by decide) c6902
    refine lv_aload_n hx hb dX3_readChoice_14 rfl (lv_at hl 0 rfl) ?_
    refine lv_iload_n hx hb dX3_readChoice_15 rfl (lv_at hl 1 rfl) ?_
    refine va_calli (va_runV (As := [.int 0]) (rest := []) ⟨hx, hb, hml, hown, hwd⟩ (c_X3_opens l dC dI g c adK adV v6898 F6899 nr H.size 0 hg hnr hI ) (cwV 1 hwd (gV wk_874 wk_871 wk_872 wk_873 wk_38) rfl rfl rfl (by decide +kernel) ⟨Nat.le_of_ble_eq_true rfl, Nat.le_of_ble_eq_true rfl⟩) ⟨PX.blind, va_recv hK hP (ci := 3) (q0 := 7) rfl rfl, fun U hU hW => ⟨rfl, PX.at hK hE hP hS hU hW⟩⟩ rfl rfl hl.1 rfl (lv_room (Nat.le_of_ble_eq_true rfl)) dX3_readChoice_16 ⟨Nat.le_of_ble_eq_true rfl, Nat.le_of_ble_eq_true rfl⟩) hS (fun q _ h => (freeX hS) q h) (freeX hS) (fun r6905 u t H1 locs ht hvm hw hB hz1 hk1 hS => ?_)
    unfold BX at hB
    rw [ht] at hB
    obtain ⟨v6906, F6907, rc9⟩ := u
    obtain ⟨hI, hal9, hrc, hf6908, hw⟩ := hw
    dsimp only at hI hal9 hrc hB hf6908 hw
    rw [hrc] at hB
    have hal := hal9.trans hal
    have hP : va_P (dC, dI) classes (wX g c v6906 F6907 (g (44 + nr))) H1 := hB
    have hw : (r6905.toInt = 1 ∧ (0 : Int32).toInt < 8) ∨ (r6905.toInt = 0 ∧ 8 ≤ (0 : Int32).toInt) := hw
    have k6909 : (0 : Int32).toInt = 0 := by decide
    generalize H1 = H at hP hS ⊢
    have hw_r6905 := hw
    refine lv_if_eq (tgt := 66) hx hb dX3_readChoice_19 (by decide) (fun c6910 => ?_) (fun c6910 => ?_)
    · skip
      have t6911 := cv_eq (a := r6905.toInt) rfl (b := 0) (by decide) c6910
      have hP9 : va_P (dC, dI) classes (wX g c v6906 F6907 (g (44 + nr))) H := hP
      exact W.vret hx hb hr (fun t ht hW => ⟨⟨(v6906, F6907, (g (44 + nr))), rfl, ⟨hI, hal, rfl, (frC (by decide) hf6908 (frC (by decide) hf6900 (fun _ _ => rfl))), trivial⟩, (by show va_P _ _ _ t.heap; rw [ht]; exact hP9)⟩, hS.F ht⟩) hS.2.2 dX3_readChoice_66
    · skip
      have t6912 := cv_ne (a := r6905.toInt) rfl (b := 0) (by decide) c6910
      refine lv_aload_n hx hb dX3_readChoice_22 rfl (lv_at hl 0 rfl) ?_
      refine lv_iconst (v := 4) hx hb dX3_readChoice_23 (by decide) ?_
      refine lv_iconst (v := 0) hx hb dX3_readChoice_24 (by decide) ?_
      refine va_calli (va_runV (As := [.int 4, .int 0]) (rest := []) ⟨hx, hb, hml, hown, hwd⟩ (c_X3_put l dC dI g c adK adV v6906 F6907 nr H.size 4 0 hg hnr hI (by have : (4 : Int32).toInt = 4 := (by decide); omega) (by have : (0 : Int32).toInt = 0 := (by decide); omega)) (cwV 2 hwd (gV wk_882 wk_879 wk_880 wk_881 wk_38) rfl rfl rfl (by decide +kernel) ⟨Nat.le_of_ble_eq_true rfl, Nat.le_of_ble_eq_true rfl⟩) ⟨PX.blind, va_recv hK hP (ci := 3) (q0 := 7) rfl rfl, fun U hU hW => ⟨rfl, PX.at hK hE hP hS hU hW⟩⟩ rfl rfl hl.1 rfl (lv_room (Nat.le_of_ble_eq_true rfl)) dX3_readChoice_25 ⟨Nat.le_of_ble_eq_true rfl, Nat.le_of_ble_eq_true rfl⟩) hS (fun q _ h => (freeX hS) q h) (freeX hS) (fun r6913 u t H1 locs ht hvm hw hB hz1 hk1 hS => ?_)
      unfold BX at hB
      rw [ht] at hB
      obtain ⟨v6914, F6915, rc9⟩ := u
      obtain ⟨hI, hal9, hrc, hf6916, hw⟩ := hw
      dsimp only at hI hal9 hrc hB hf6916 hw
      rw [hrc] at hB
      have hal := hal9.trans hal
      have hP : va_P (dC, dI) classes (wX g c v6914 F6915 (g (44 + nr))) H1 := hB
      have hw : -1 ≤ r6913.toInt ∧ r6913.toInt ≤ 119 := hw
      have k6917 : (4 : Int32).toInt = 4 := by decide
      have k6918 : (0 : Int32).toInt = 0 := by decide
      generalize H1 = H at hP hS ⊢
      have hw_r6913 := hw
      refine lv_istore_n (lv' := [(2, .int r6913), (0, .ref (g 7)), (1, .int 0)]) hx hb dX3_readChoice_28 rfl hl (by decide) rfl (fun ls hl => ?_)
      refine lv_aload_n hx hb dX3_readChoice_29 rfl (lv_at hl 1 rfl) ?_
      refine lv_iload_n hx hb dX3_readChoice_30 rfl (lv_at hl 2 rfl) ?_
      refine lv_iconst (v := 1) hx hb dX3_readChoice_31 (by decide) ?_
      refine lv_iadd hx hb dX3_readChoice_32 ?_
      refine my_top (v := 1) (by decide) ?_
      refine va_callv (va_runV (As := [.int 1]) (rest := []) ⟨hx, hb, hml, hown, hwd⟩ (c_X3_readChoice_1 l dC dI g c adK adV v6914 F6915 nr H.size  hg hnr hI ) (cwV 1 hwd (gV wk_859 wk_856 wk_857 wk_858 wk_38) rfl rfl rfl (by decide +kernel) ⟨Nat.le_of_ble_eq_true rfl, Nat.le_of_ble_eq_true rfl⟩) ⟨PX.blind, va_recv hK hP (ci := 3) (q0 := 7) rfl rfl, fun U hU hW => ⟨rfl, PX.at hK hE hP hS hU hW⟩⟩ rfl rfl hl.1 rfl (lv_room (Nat.le_of_ble_eq_true rfl)) dX3_readChoice_33 ⟨Nat.le_of_ble_eq_true rfl, Nat.le_of_ble_eq_true rfl⟩) hS (fun q _ h => (freeX hS) q h) (freeX hS) (fun u t H1 locs ht hvm hw hB hz1 hk1 hS => ?_)
      unfold BX at hB
      rw [ht] at hB
      obtain ⟨v6920, F6921, rc9⟩ := u
      obtain ⟨hI, hal9, hrc, hf6922, hw⟩ := hw
      dsimp only at hI hal9 hrc hB hf6922 hw
      rw [hrc] at hB
      have hal := hal9.trans hal
      have hP : va_P (dC, dI) classes (wX g c v6920 F6921 (g (44 + nr))) H1 := hB
      generalize H1 = H at hP hS ⊢
      refine lv_aload_n hx hb dX3_readChoice_36 rfl (lv_at hl 1 rfl) ?_
      refine lv_bipush (v := 58) hx hb dX3_readChoice_37 (by decide) ?_
      refine va_callv (va_runV (As := [.int 58]) (rest := []) ⟨hx, hb, hml, hown, hwd⟩ (c_X3_take l dC dI g c adK adV v6920 F6921 nr H.size 58 hg hnr hI ) (cwV 1 hwd (gV wk_886 wk_883 wk_884 wk_885 wk_38) rfl rfl rfl (by decide +kernel) ⟨Nat.le_of_ble_eq_true rfl, Nat.le_of_ble_eq_true rfl⟩) ⟨PX.blind, va_recv hK hP (ci := 3) (q0 := 7) rfl rfl, fun U hU hW => ⟨rfl, PX.at hK hE hP hS hU hW⟩⟩ rfl rfl hl.1 rfl (lv_room (Nat.le_of_ble_eq_true rfl)) dX3_readChoice_39 ⟨Nat.le_of_ble_eq_true rfl, Nat.le_of_ble_eq_true rfl⟩) hS (fun q _ h => (freeX hS) q h) (freeX hS) (fun u t H1 locs ht hvm hw hB hz1 hk1 hS => ?_)
      unfold BX at hB
      rw [ht] at hB
      obtain ⟨v6924, F6925, rc9⟩ := u
      obtain ⟨hI, hal9, hrc, hf6926, hw⟩ := hw
      dsimp only at hI hal9 hrc hB hf6926 hw
      rw [hrc] at hB
      have hal := hal9.trans hal
      have hP : va_P (dC, dI) classes (wX g c v6924 F6925 (g (44 + nr))) H1 := hB
      generalize H1 = H at hP hS ⊢
      refine lv_aload_n hx hb dX3_readChoice_42 rfl (lv_at hl 1 rfl) ?_
      refine lv_iconst (v := 3) hx hb dX3_readChoice_43 (by decide) ?_
      refine lv_iconst (v := 0) hx hb dX3_readChoice_44 (by decide) ?_
      refine va_calli (va_runV (As := [.int 3, .int 0]) (rest := []) ⟨hx, hb, hml, hown, hwd⟩ (c_X3_put l dC dI g c adK adV v6924 F6925 nr H.size 3 0 hg hnr hI (by have : (3 : Int32).toInt = 3 := (by decide); omega) (by have : (0 : Int32).toInt = 0 := (by decide); omega)) (cwV 2 hwd (gV wk_882 wk_879 wk_880 wk_881 wk_38) rfl rfl rfl (by decide +kernel) ⟨Nat.le_of_ble_eq_true rfl, Nat.le_of_ble_eq_true rfl⟩) ⟨PX.blind, va_recv hK hP (ci := 3) (q0 := 7) rfl rfl, fun U hU hW => ⟨rfl, PX.at hK hE hP hS hU hW⟩⟩ rfl rfl hl.1 rfl (lv_room (Nat.le_of_ble_eq_true rfl)) dX3_readChoice_45 ⟨Nat.le_of_ble_eq_true rfl, Nat.le_of_ble_eq_true rfl⟩) hS (fun q _ h => (freeX hS) q h) (freeX hS) (fun r6927 u t H1 locs ht hvm hw hB hz1 hk1 hS => ?_)
      unfold BX at hB
      rw [ht] at hB
      obtain ⟨v6928, F6929, rc9⟩ := u
      obtain ⟨hI, hal9, hrc, hf6930, hw⟩ := hw
      dsimp only at hI hal9 hrc hB hf6930 hw
      rw [hrc] at hB
      have hal := hal9.trans hal
      have hP : va_P (dC, dI) classes (wX g c v6928 F6929 (g (44 + nr))) H1 := hB
      have hw : -1 ≤ r6927.toInt ∧ r6927.toInt ≤ 119 := hw
      have k6931 : (3 : Int32).toInt = 3 := by decide
      have k6932 : (0 : Int32).toInt = 0 := by decide
      generalize H1 = H at hP hS ⊢
      have hw_r6927 := hw
      refine lv_istore_n (lv' := [(3, .int r6927), (2, .int r6913), (0, .ref (g 7)), (1, .int 0)]) hx hb dX3_readChoice_48 rfl hl (by decide) rfl (fun ls hl => ?_)
      refine lv_aload_n hx hb dX3_readChoice_49 rfl (lv_at hl 2 rfl) ?_
      refine lv_iload_n hx hb dX3_readChoice_50 rfl (lv_at hl 1 rfl) ?_
      refine va_callv (va_runV (As := [.int r6913]) (rest := []) ⟨hx, hb, hml, hown, hwd⟩ (c_X3_leadHere l dC dI g c adK adV v6928 F6929 nr H.size r6913 hg hnr hI ) (cwV 1 hwd (gV wk_890 wk_887 wk_888 wk_889 wk_38) rfl rfl rfl (by decide +kernel) ⟨Nat.le_of_ble_eq_true rfl, Nat.le_of_ble_eq_true rfl⟩) ⟨PX.blind, va_recv hK hP (ci := 3) (q0 := 7) rfl rfl, fun U hU hW => ⟨rfl, PX.at hK hE hP hS hU hW⟩⟩ rfl rfl hl.1 rfl (lv_room (Nat.le_of_ble_eq_true rfl)) dX3_readChoice_51 ⟨Nat.le_of_ble_eq_true rfl, Nat.le_of_ble_eq_true rfl⟩) hS (fun q _ h => (freeX hS) q h) (freeX hS) (fun u t H1 locs ht hvm hw hB hz1 hk1 hS => ?_)
      unfold BX at hB
      rw [ht] at hB
      obtain ⟨v6934, F6935, rc9⟩ := u
      obtain ⟨hI, hal9, hrc, hf6936, hw⟩ := hw
      dsimp only at hI hal9 hrc hB hf6936 hw
      rw [hrc] at hB
      have hal := hal9.trans hal
      have hP : va_P (dC, dI) classes (wX g c v6934 F6935 (g (44 + nr))) H1 := hB
      generalize H1 = H at hP hS ⊢
      refine lv_aload_n hx hb dX3_readChoice_54 rfl (lv_at hl 2 rfl) ?_
      refine lv_iload_n hx hb dX3_readChoice_55 rfl (lv_at hl 3 rfl) ?_
      refine lv_iconst (v := 1) hx hb dX3_readChoice_56 (by decide) ?_
      refine lv_iadd hx hb dX3_readChoice_57 ?_
      refine my_top (v := 1) (by decide) ?_
      refine va_callv (va_runV (As := [.int 1]) (rest := []) ⟨hx, hb, hml, hown, hwd⟩ (c_X3_readChoice_1 l dC dI g c adK adV v6934 F6935 nr H.size  hg hnr hI ) (cwV 1 hwd (gV wk_859 wk_856 wk_857 wk_858 wk_38) rfl rfl rfl (by decide +kernel) ⟨Nat.le_of_ble_eq_true rfl, Nat.le_of_ble_eq_true rfl⟩) ⟨PX.blind, va_recv hK hP (ci := 3) (q0 := 7) rfl rfl, fun U hU hW => ⟨rfl, PX.at hK hE hP hS hU hW⟩⟩ rfl rfl hl.1 rfl (lv_room (Nat.le_of_ble_eq_true rfl)) dX3_readChoice_58 ⟨Nat.le_of_ble_eq_true rfl, Nat.le_of_ble_eq_true rfl⟩) hS (fun q _ h => (freeX hS) q h) (freeX hS) (fun u t H1 locs ht hvm hw hB hz1 hk1 hS => ?_)
      unfold BX at hB
      rw [ht] at hB
      obtain ⟨v6938, F6939, rc9⟩ := u
      obtain ⟨hI, hal9, hrc, hf6940, hw⟩ := hw
      dsimp only at hI hal9 hrc hB hf6940 hw
      rw [hrc] at hB
      have hal := hal9.trans hal
      have hP : va_P (dC, dI) classes (wX g c v6938 F6939 (g (44 + nr))) H1 := hB
      generalize H1 = H at hP hS ⊢
      refine lv_aload_n hx hb dX3_readChoice_61 rfl (lv_at hl 2 rfl) ?_
      refine lv_iload_n hx hb dX3_readChoice_62 rfl (lv_at hl 0 rfl) ?_
      refine va_callv (va_runV (As := [.int r6927]) (rest := []) ⟨hx, hb, hml, hown, hwd⟩ (c_X3_leadHere l dC dI g c adK adV v6938 F6939 nr H.size r6927 hg hnr hI ) (cwV 1 hwd (gV wk_890 wk_887 wk_888 wk_889 wk_38) rfl rfl rfl (by decide +kernel) ⟨Nat.le_of_ble_eq_true rfl, Nat.le_of_ble_eq_true rfl⟩) ⟨PX.blind, va_recv hK hP (ci := 3) (q0 := 7) rfl rfl, fun U hU hW => ⟨rfl, PX.at hK hE hP hS hU hW⟩⟩ rfl rfl hl.1 rfl (lv_room (Nat.le_of_ble_eq_true rfl)) dX3_readChoice_63 ⟨Nat.le_of_ble_eq_true rfl, Nat.le_of_ble_eq_true rfl⟩) hS (fun q _ h => (freeX hS) q h) (freeX hS) (fun u t H1 locs ht hvm hw hB hz1 hk1 hS => ?_)
      unfold BX at hB
      rw [ht] at hB
      obtain ⟨v6942, F6943, rc9⟩ := u
      obtain ⟨hI, hal9, hrc, hf6944, hw⟩ := hw
      dsimp only at hI hal9 hrc hB hf6944 hw
      rw [hrc] at hB
      have hal := hal9.trans hal
      have hP : va_P (dC, dI) classes (wX g c v6942 F6943 (g (44 + nr))) H1 := hB
      generalize H1 = H at hP hS ⊢
      have hP9 : va_P (dC, dI) classes (wX g c v6942 F6943 (g (44 + nr))) H := hP
      exact W.vret hx hb hr (fun t ht hW => ⟨⟨(v6942, F6943, (g (44 + nr))), rfl, ⟨hI, hal, rfl, (frC (by decide) hf6944 (frC (by decide) hf6940 (frC (by decide) hf6936 (frC (by decide) hf6930 (frC (by decide) hf6926 (frC (by decide) hf6922 (frC (by decide) hf6916 (frC (by decide) hf6908 (frC (by decide) hf6900 (fun _ _ => rfl)))))))))), trivial⟩, (by show va_P _ _ _ t.heap; rw [ht]; exact hP9)⟩, hS.F ht⟩) hS.2.2 dX3_readChoice_66
