set_option maxHeartbeats 8000000 in
set_option maxRecDepth 100000 in
theorem c_X3_readOperand_5 (l : Launch) (dC : Nat → ClassId) (dI : Nat → Nat → Nat) (g : Nat → Nat) (c : Nat → ClassId) (adK adV : Nat → Nat) (v : Nat → Int32) (F : Nat → Nat → Int32) (nr sz : Nat) (hg : injX g) (hnr : nr < 10) (hI : IX v F) : Met l yX3_readOperand (Cond.code yX3_readOperand cX3_readOperand 3 none :: wA) ({ frames := 21, cells := 0, slots := 0, locals := 840 }) (va_Pc [.ref (g 7), .int 5] (PX dC dI g c adK adV v F (g (44 + nr)) sz)) (va_Qv (fun (u : StX) => IX u.1 u.2.1 ∧ alX u.1 u.2.1 = alX v F ∧ u.2.2 = (g (44 + nr)) ∧ (∀ k, k ∉ ([142, 143, 144] : List Nat) → u.1 k = v k) ∧ True) (BX dC dI g c) (AX g sz)) 0 0 (AX g sz) := by
  refine Met.ofW (cc := cX3_readOperand) (maxL := 3) (ret := none) (by decide) rfl ?_
  intro p e s m args below meth c0 s₁ B hml hv
  obtain ⟨rfl, hsz, hP, hK, hE⟩ := hv
  have hx := B.exec
  have hb := B.bytes
  have hr := B.returns
  have hts := atoms_spec (ws := Cond.code yX3_readOperand cX3_readOperand 3 none :: wA) B.pre
  have hwd : ∀ w ∈ wA, w.before _ s = true := fun w h => hts w (List.mem_cons_of_mem _ h)
  have hown : s.vm.findClass RX3 = some m.cls := findClass_of_methodNamed B.named
  have hlocks := B.notSynchronized
  subst hsz
  have hl := lv_entry ([.ref (g 7), .int 5]) (n := 3) (Nat.le_of_ble_eq_true rfl)
  rw [lg_entry_eq]
  generalize (lg_sl ([.ref (g 7), .int 5]) ++ List.replicate (3 - (lg_sl ([.ref (g 7), .int 5])).length) Slot.unset).toArray = ls at hl ⊢
  have hl : lv_has ls 3 [(0, .ref (g 7)), (1, .int 5)] := hl
  obtain ⟨H, eH⟩ : ∃ z, z = s.heap := ⟨_, rfl⟩
  have hP : va_P (dC, dI) classes (wX g c v F (g (44 + nr))) H := by rw [eH]; exact hP
  have hS : va_S (AX g s.heap.size) s.heap H [] := by rw [eH]; exact va_S.rf
  refine my_heap eH ?_
  have hal : alX v F = alX v F := rfl
  refine lv_aload_n hx hb dX3_readOperand_0 rfl (lv_at hl 0 rfl) ?_
  refine va_calli (va_runV (As := []) (rest := []) ⟨hx, hb, hml, hown, hwd⟩ (c_X3_next l dC dI g c adK adV v F nr H.size  hg hnr hI ) (cwV 0 hwd (gV wk_866 wk_863 wk_864 wk_865 wk_38) rfl rfl rfl (by decide +kernel) ⟨Nat.le_of_ble_eq_true rfl, Nat.le_of_ble_eq_true rfl⟩) ⟨PX.blind, va_recv hK hP (ci := 3) (q0 := 7) rfl rfl, fun U hU hW => ⟨rfl, PX.at hK hE hP hS hU hW⟩⟩ rfl rfl hl.1 rfl (lv_room (Nat.le_of_ble_eq_true rfl)) dX3_readOperand_1 ⟨Nat.le_of_ble_eq_true rfl, Nat.le_of_ble_eq_true rfl⟩) hS (fun q _ h => (freeX hS) q h) (freeX hS) (fun r4677 u t H1 locs ht hvm hw hB hz1 hk1 hS => ?_)
  unfold BX at hB
  rw [ht] at hB
  have hP : va_P (dC, dI) classes (wX g c v F (g (44 + nr))) H1 := hB
  generalize H1 = H at hP hS ⊢
  have rr_r4677 := i32_rng r4677
  refine lv_istore_n (lv' := [(2, .int r4677), (0, .ref (g 7)), (1, .int 5)]) hx hb dX3_readOperand_4 rfl hl (by decide) rfl (fun ls hl => ?_)
  refine lv_iload_n hx hb dX3_readOperand_5 rfl (lv_at hl 0 rfl) ?_
  refine lv_bipush (v := 45) hx hb dX3_readOperand_6 (by decide) ?_
  refine lv_icmp_ne (tgt := 36) hx hb dX3_readOperand_8 (by decide) (fun c4678 => ?_) (fun c4678 => ?_)
  · skip
    have t4679 := cv_ne (a := r4677.toInt) rfl (b := 45) (by decide) c4678
    refine lv_iload_n hx hb dX3_readOperand_36 rfl (lv_at hl 0 rfl) ?_
    refine lv_bipush (v := 40) hx hb dX3_readOperand_37 (by decide) ?_
    refine lv_icmp_ne (tgt := 66) hx hb dX3_readOperand_39 (by decide) (fun c4680 => ?_) (fun c4680 => ?_)
    · skip
      have t4681 := cv_ne (a := r4677.toInt) rfl (b := 40) (by decide) c4680
      refine lv_aload_n hx hb dX3_readOperand_66 rfl (lv_at hl 1 rfl) ?_
      refine lv_iload_n hx hb dX3_readOperand_67 rfl (lv_at hl 0 rfl) ?_
      refine va_callv (va_runV (As := [.int r4677]) (rest := []) ⟨hx, hb, hml, hown, hwd⟩ (c_X3_readNumberOrName l dC dI g c adK adV v F nr H.size r4677 hg hnr hI ) (cwV 1 hwd (gV wk_902 wk_899 wk_900 wk_901 wk_38) rfl rfl rfl (by decide +kernel) ⟨Nat.le_of_ble_eq_true rfl, Nat.le_of_ble_eq_true rfl⟩) ⟨PX.blind, va_recv hK hP (ci := 3) (q0 := 7) rfl rfl, fun U hU hW => ⟨rfl, PX.at hK hE hP hS hU hW⟩⟩ rfl rfl hl.1 rfl (lv_room (Nat.le_of_ble_eq_true rfl)) dX3_readOperand_68 ⟨Nat.le_of_ble_eq_true rfl, Nat.le_of_ble_eq_true rfl⟩) hS (fun q _ h => (freeX hS) q h) (freeX hS) (fun u t H1 locs ht hvm hw hB hz1 hk1 hS => ?_)
      unfold BX at hB
      rw [ht] at hB
      obtain ⟨v4683, F4684, rc9⟩ := u
      obtain ⟨hI, hal9, hrc, hf4685, hw⟩ := hw
      dsimp only at hI hal9 hrc hB hf4685 hw
      rw [hrc] at hB
      have hal := hal9.trans hal
      have hP : va_P (dC, dI) classes (wX g c v4683 F4684 (g (44 + nr))) H1 := hB
      generalize H1 = H at hP hS ⊢
      have hP9 : va_P (dC, dI) classes (wX g c v4683 F4684 (g (44 + nr))) H := hP
      exact W.vret hx hb hr (fun t ht hW => ⟨⟨(v4683, F4684, (g (44 + nr))), rfl, ⟨hI, hal, rfl, (frC (by decide) hf4685 (fun _ _ => rfl)), trivial⟩, (by show va_P _ _ _ t.heap; rw [ht]; exact hP9)⟩, hS.F ht⟩) hS.2.2 dX3_readOperand_71
    · skip
      have t4686 := cv_eq (a := r4677.toInt) rfl (b := 40) (by decide) c4680
      refine lv_aload_n hx hb dX3_readOperand_42 rfl (lv_at hl 1 rfl) ?_
      refine lv_iload_n hx hb dX3_readOperand_43 rfl (lv_at hl 2 rfl) ?_
      refine va_calli (va_runV (As := [.int 5]) (rest := []) ⟨hx, hb, hml, hown, hwd⟩ (c_X3_opens l dC dI g c adK adV v F nr H.size 5 hg hnr hI ) (cwV 1 hwd (gV wk_874 wk_871 wk_872 wk_873 wk_38) rfl rfl rfl (by decide +kernel) ⟨Nat.le_of_ble_eq_true rfl, Nat.le_of_ble_eq_true rfl⟩) ⟨PX.blind, va_recv hK hP (ci := 3) (q0 := 7) rfl rfl, fun U hU hW => ⟨rfl, PX.at hK hE hP hS hU hW⟩⟩ rfl rfl hl.1 rfl (lv_room (Nat.le_of_ble_eq_true rfl)) dX3_readOperand_44 ⟨Nat.le_of_ble_eq_true rfl, Nat.le_of_ble_eq_true rfl⟩) hS (fun q _ h => (freeX hS) q h) (freeX hS) (fun r4687 u t H1 locs ht hvm hw hB hz1 hk1 hS => ?_)
      unfold BX at hB
      rw [ht] at hB
      obtain ⟨v4688, F4689, rc9⟩ := u
      obtain ⟨hI, hal9, hrc, hf4690, hw⟩ := hw
      dsimp only at hI hal9 hrc hB hf4690 hw
      rw [hrc] at hB
      have hal := hal9.trans hal
      have hP : va_P (dC, dI) classes (wX g c v4688 F4689 (g (44 + nr))) H1 := hB
      have hw : (r4687.toInt = 1 ∧ (5 : Int32).toInt < 8) ∨ (r4687.toInt = 0 ∧ 8 ≤ (5 : Int32).toInt) := hw
      have k4691 : (5 : Int32).toInt = 5 := by decide
      generalize H1 = H at hP hS ⊢
      have hw_r4687 := hw
      refine lv_if_eq (tgt := 71) hx hb dX3_readOperand_47 (by decide) (fun c4692 => ?_) (fun c4692 => ?_)
      · skip
        have t4693 := cv_eq (a := r4687.toInt) rfl (b := 0) (by decide) c4692
        have hP9 : va_P (dC, dI) classes (wX g c v4688 F4689 (g (44 + nr))) H := hP
        exact W.vret hx hb hr (fun t ht hW => ⟨⟨(v4688, F4689, (g (44 + nr))), rfl, ⟨hI, hal, rfl, (frC (by decide) hf4690 (fun _ _ => rfl)), trivial⟩, (by show va_P _ _ _ t.heap; rw [ht]; exact hP9)⟩, hS.F ht⟩) hS.2.2 dX3_readOperand_71
      · skip
        have t4694 := cv_ne (a := r4687.toInt) rfl (b := 0) (by decide) c4692
        refine lv_aload_n hx hb dX3_readOperand_50 rfl (lv_at hl 1 rfl) ?_
        refine lv_iload_n hx hb dX3_readOperand_51 rfl (lv_at hl 2 rfl) ?_
        refine lv_iconst (v := 1) hx hb dX3_readOperand_52 (by decide) ?_
        refine lv_iadd hx hb dX3_readOperand_53 ?_
        refine my_top (v := 6) (by decide) ?_
        refine va_callv (va_runV (As := [.int 6]) (rest := []) ⟨hx, hb, hml, hown, hwd⟩ (c_X3_readChoice_6 l dC dI g c adK adV v4688 F4689 nr H.size  hg hnr hI ) (cwV 1 hwd (gV wk_859 wk_856 wk_857 wk_858 wk_38) rfl rfl rfl (by decide +kernel) ⟨Nat.le_of_ble_eq_true rfl, Nat.le_of_ble_eq_true rfl⟩) ⟨PX.blind, va_recv hK hP (ci := 3) (q0 := 7) rfl rfl, fun U hU hW => ⟨rfl, PX.at hK hE hP hS hU hW⟩⟩ rfl rfl hl.1 rfl (lv_room (Nat.le_of_ble_eq_true rfl)) dX3_readOperand_54 ⟨Nat.le_of_ble_eq_true rfl, Nat.le_of_ble_eq_true rfl⟩) hS (fun q _ h => (freeX hS) q h) (freeX hS) (fun u t H1 locs ht hvm hw hB hz1 hk1 hS => ?_)
        unfold BX at hB
        rw [ht] at hB
        obtain ⟨v4696, F4697, rc9⟩ := u
        obtain ⟨hI, hal9, hrc, hf4698, hw⟩ := hw
        dsimp only at hI hal9 hrc hB hf4698 hw
        rw [hrc] at hB
        have hal := hal9.trans hal
        have hP : va_P (dC, dI) classes (wX g c v4696 F4697 (g (44 + nr))) H1 := hB
        generalize H1 = H at hP hS ⊢
        refine lv_aload_n hx hb dX3_readOperand_57 rfl (lv_at hl 1 rfl) ?_
        refine lv_bipush (v := 41) hx hb dX3_readOperand_58 (by decide) ?_
        refine va_callv (va_runV (As := [.int 41]) (rest := []) ⟨hx, hb, hml, hown, hwd⟩ (c_X3_take l dC dI g c adK adV v4696 F4697 nr H.size 41 hg hnr hI ) (cwV 1 hwd (gV wk_886 wk_883 wk_884 wk_885 wk_38) rfl rfl rfl (by decide +kernel) ⟨Nat.le_of_ble_eq_true rfl, Nat.le_of_ble_eq_true rfl⟩) ⟨PX.blind, va_recv hK hP (ci := 3) (q0 := 7) rfl rfl, fun U hU hW => ⟨rfl, PX.at hK hE hP hS hU hW⟩⟩ rfl rfl hl.1 rfl (lv_room (Nat.le_of_ble_eq_true rfl)) dX3_readOperand_60 ⟨Nat.le_of_ble_eq_true rfl, Nat.le_of_ble_eq_true rfl⟩) hS (fun q _ h => (freeX hS) q h) (freeX hS) (fun u t H1 locs ht hvm hw hB hz1 hk1 hS => ?_)
        unfold BX at hB
        rw [ht] at hB
        obtain ⟨v4700, F4701, rc9⟩ := u
        obtain ⟨hI, hal9, hrc, hf4702, hw⟩ := hw
        dsimp only at hI hal9 hrc hB hf4702 hw
        rw [hrc] at hB
        have hal := hal9.trans hal
        have hP : va_P (dC, dI) classes (wX g c v4700 F4701 (g (44 + nr))) H1 := hB
        generalize H1 = H at hP hS ⊢
        refine lv_goto (tgt := 71) hx hb dX3_readOperand_63 (by decide) ?_
        have hP9 : va_P (dC, dI) classes (wX g c v4700 F4701 (g (44 + nr))) H := hP
        exact W.vret hx hb hr (fun t ht hW => ⟨⟨(v4700, F4701, (g (44 + nr))), rfl, ⟨hI, hal, rfl, (frC (by decide) hf4702 (frC (by decide) hf4698 (frC (by decide) hf4690 (fun _ _ => rfl)))), trivial⟩, (by show va_P _ _ _ t.heap; rw [ht]; exact hP9)⟩, hS.F ht⟩) hS.2.2 dX3_readOperand_71
  · skip
    have t4703 := cv_eq (a := r4677.toInt) rfl (b := 45) (by decide) c4678
    refine lv_aload_n hx hb dX3_readOperand_11 rfl (lv_at hl 1 rfl) ?_
    refine lv_iload_n hx hb dX3_readOperand_12 rfl (lv_at hl 2 rfl) ?_
    refine va_calli (va_runV (As := [.int 5]) (rest := []) ⟨hx, hb, hml, hown, hwd⟩ (c_X3_opens l dC dI g c adK adV v F nr H.size 5 hg hnr hI ) (cwV 1 hwd (gV wk_874 wk_871 wk_872 wk_873 wk_38) rfl rfl rfl (by decide +kernel) ⟨Nat.le_of_ble_eq_true rfl, Nat.le_of_ble_eq_true rfl⟩) ⟨PX.blind, va_recv hK hP (ci := 3) (q0 := 7) rfl rfl, fun U hU hW => ⟨rfl, PX.at hK hE hP hS hU hW⟩⟩ rfl rfl hl.1 rfl (lv_room (Nat.le_of_ble_eq_true rfl)) dX3_readOperand_13 ⟨Nat.le_of_ble_eq_true rfl, Nat.le_of_ble_eq_true rfl⟩) hS (fun q _ h => (freeX hS) q h) (freeX hS) (fun r4704 u t H1 locs ht hvm hw hB hz1 hk1 hS => ?_)
    unfold BX at hB
    rw [ht] at hB
    obtain ⟨v4705, F4706, rc9⟩ := u
    obtain ⟨hI, hal9, hrc, hf4707, hw⟩ := hw
    dsimp only at hI hal9 hrc hB hf4707 hw
    rw [hrc] at hB
    have hal := hal9.trans hal
    have hP : va_P (dC, dI) classes (wX g c v4705 F4706 (g (44 + nr))) H1 := hB
    have hw : (r4704.toInt = 1 ∧ (5 : Int32).toInt < 8) ∨ (r4704.toInt = 0 ∧ 8 ≤ (5 : Int32).toInt) := hw
    have k4708 : (5 : Int32).toInt = 5 := by decide
    generalize H1 = H at hP hS ⊢
    have hw_r4704 := hw
    refine lv_if_eq (tgt := 71) hx hb dX3_readOperand_16 (by decide) (fun c4709 => ?_) (fun c4709 => ?_)
    · skip
      have t4710 := cv_eq (a := r4704.toInt) rfl (b := 0) (by decide) c4709
      have hP9 : va_P (dC, dI) classes (wX g c v4705 F4706 (g (44 + nr))) H := hP
      exact W.vret hx hb hr (fun t ht hW => ⟨⟨(v4705, F4706, (g (44 + nr))), rfl, ⟨hI, hal, rfl, (frC (by decide) hf4707 (fun _ _ => rfl)), trivial⟩, (by show va_P _ _ _ t.heap; rw [ht]; exact hP9)⟩, hS.F ht⟩) hS.2.2 dX3_readOperand_71
    · skip
      have t4711 := cv_ne (a := r4704.toInt) rfl (b := 0) (by decide) c4709
      refine lv_aload_n hx hb dX3_readOperand_19 rfl (lv_at hl 1 rfl) ?_
      refine lv_iload_n hx hb dX3_readOperand_20 rfl (lv_at hl 2 rfl) ?_
      refine lv_iconst (v := 1) hx hb dX3_readOperand_21 (by decide) ?_
      refine lv_iadd hx hb dX3_readOperand_22 ?_
      refine my_top (v := 6) (by decide) ?_
      refine va_callv (va_runV (As := [.int 6]) (rest := []) ⟨hx, hb, hml, hown, hwd⟩ (c_X3_readOperand_6 l dC dI g c adK adV v4705 F4706 nr H.size  hg hnr hI ) (cwV 1 hwd (gV wk_895 wk_896 wk_897 wk_898 wk_38) rfl rfl rfl (by decide +kernel) ⟨Nat.le_of_ble_eq_true rfl, Nat.le_of_ble_eq_true rfl⟩) ⟨PX.blind, va_recv hK hP (ci := 3) (q0 := 7) rfl rfl, fun U hU hW => ⟨rfl, PX.at hK hE hP hS hU hW⟩⟩ rfl rfl hl.1 rfl (lv_room (Nat.le_of_ble_eq_true rfl)) dX3_readOperand_23 ⟨Nat.le_of_ble_eq_true rfl, Nat.le_of_ble_eq_true rfl⟩) hS (fun q _ h => (freeX hS) q h) (freeX hS) (fun u t H1 locs ht hvm hw hB hz1 hk1 hS => ?_)
      unfold BX at hB
      rw [ht] at hB
      obtain ⟨v4713, F4714, rc9⟩ := u
      obtain ⟨hI, hal9, hrc, hf4715, hw⟩ := hw
      dsimp only at hI hal9 hrc hB hf4715 hw
      rw [hrc] at hB
      have hal := hal9.trans hal
      have hP : va_P (dC, dI) classes (wX g c v4713 F4714 (g (44 + nr))) H1 := hB
      generalize H1 = H at hP hS ⊢
      refine lv_aload_n hx hb dX3_readOperand_26 rfl (lv_at hl 1 rfl) ?_
      refine lv_iconst (v := 2) hx hb dX3_readOperand_27 (by decide) ?_
      refine lv_iconst (v := 0) hx hb dX3_readOperand_28 (by decide) ?_
      refine va_calli (va_runV (As := [.int 2, .int 0]) (rest := []) ⟨hx, hb, hml, hown, hwd⟩ (c_X3_put l dC dI g c adK adV v4713 F4714 nr H.size 2 0 hg hnr hI (by have : (2 : Int32).toInt = 2 := (by decide); omega) (by have : (0 : Int32).toInt = 0 := (by decide); omega)) (cwV 2 hwd (gV wk_882 wk_879 wk_880 wk_881 wk_38) rfl rfl rfl (by decide +kernel) ⟨Nat.le_of_ble_eq_true rfl, Nat.le_of_ble_eq_true rfl⟩) ⟨PX.blind, va_recv hK hP (ci := 3) (q0 := 7) rfl rfl, fun U hU hW => ⟨rfl, PX.at hK hE hP hS hU hW⟩⟩ rfl rfl hl.1 rfl (lv_room (Nat.le_of_ble_eq_true rfl)) dX3_readOperand_29 ⟨Nat.le_of_ble_eq_true rfl, Nat.le_of_ble_eq_true rfl⟩) hS (fun q _ h => (freeX hS) q h) (freeX hS) (fun r4716 u t H1 locs ht hvm hw hB hz1 hk1 hS => ?_)
      unfold BX at hB
      rw [ht] at hB
      obtain ⟨v4717, F4718, rc9⟩ := u
      obtain ⟨hI, hal9, hrc, hf4719, hw⟩ := hw
      dsimp only at hI hal9 hrc hB hf4719 hw
      rw [hrc] at hB
      have hal := hal9.trans hal
      have hP : va_P (dC, dI) classes (wX g c v4717 F4718 (g (44 + nr))) H1 := hB
      have hw : -1 ≤ r4716.toInt ∧ r4716.toInt ≤ 119 := hw
      have k4720 : (2 : Int32).toInt = 2 := by decide
      have k4721 : (0 : Int32).toInt = 0 := by decide
      generalize H1 = H at hP hS ⊢
      have hw_r4716 := hw
      refine lv_pop hx hb dX3_readOperand_32 rfl ?_
      refine lv_goto (tgt := 71) hx hb dX3_readOperand_33 (by decide) ?_
      have hP9 : va_P (dC, dI) classes (wX g c v4717 F4718 (g (44 + nr))) H := hP
      exact W.vret hx hb hr (fun t ht hW => ⟨⟨(v4717, F4718, (g (44 + nr))), rfl, ⟨hI, hal, rfl, (frC (by decide) hf4719 (frC (by decide) hf4715 (frC (by decide) hf4707 (fun _ _ => rfl)))), trivial⟩, (by show va_P _ _ _ t.heap; rw [ht]; exact hP9)⟩, hS.F ht⟩) hS.2.2 dX3_readOperand_71
set_option maxHeartbeats 8000000 in
set_option maxRecDepth 100000 in
theorem c_X3_readProduct_5 (l : Launch) (dC : Nat → ClassId) (dI : Nat → Nat → Nat) (g : Nat → Nat) (c : Nat → ClassId) (adK adV : Nat → Nat) (v : Nat → Int32) (F : Nat → Nat → Int32) (nr sz : Nat) (hg : injX g) (hnr : nr < 10) (hI : IX v F) : Met l yX3_readProduct (Cond.code yX3_readProduct cX3_readProduct 4 none :: wA) ({ frames := 22, cells := 0, slots := 0, locals := 880 }) (va_Pc [.ref (g 7), .int 5] (PX dC dI g c adK adV v F (g (44 + nr)) sz)) (va_Qv (fun (u : StX) => IX u.1 u.2.1 ∧ alX u.1 u.2.1 = alX v F ∧ u.2.2 = (g (44 + nr)) ∧ (∀ k, k ∉ ([142, 143, 144] : List Nat) → u.1 k = v k) ∧ True) (BX dC dI g c) (AX g sz)) 0 0 (AX g sz) := by
  refine Met.ofW (cc := cX3_readProduct) (maxL := 4) (ret := none) (by decide) rfl ?_
  intro p e s m args below meth c0 s₁ B hml hv
  obtain ⟨rfl, hsz, hP, hK, hE⟩ := hv
  have hx := B.exec
  have hb := B.bytes
  have hr := B.returns
  have hts := atoms_spec (ws := Cond.code yX3_readProduct cX3_readProduct 4 none :: wA) B.pre
  have hwd : ∀ w ∈ wA, w.before _ s = true := fun w h => hts w (List.mem_cons_of_mem _ h)
  have hown : s.vm.findClass RX3 = some m.cls := findClass_of_methodNamed B.named
  have hlocks := B.notSynchronized
  subst hsz
  have hl := lv_entry ([.ref (g 7), .int 5]) (n := 4) (Nat.le_of_ble_eq_true rfl)
  rw [lg_entry_eq]
  generalize (lg_sl ([.ref (g 7), .int 5]) ++ List.replicate (4 - (lg_sl ([.ref (g 7), .int 5])).length) Slot.unset).toArray = ls at hl ⊢
  have hl : lv_has ls 4 [(0, .ref (g 7)), (1, .int 5)] := hl
  obtain ⟨H, eH⟩ : ∃ z, z = s.heap := ⟨_, rfl⟩
  have hP : va_P (dC, dI) classes (wX g c v F (g (44 + nr))) H := by rw [eH]; exact hP
  have hS : va_S (AX g s.heap.size) s.heap H [] := by rw [eH]; exact va_S.rf
  refine my_heap eH ?_
  have hal : alX v F = alX v F := rfl
  refine lv_aload_n hx hb dX3_readProduct_0 rfl (lv_at hl 0 rfl) ?_
  refine lv_iload_n hx hb dX3_readProduct_1 rfl (lv_at hl 1 rfl) ?_
  refine va_callv (va_runV (As := [.int 5]) (rest := []) ⟨hx, hb, hml, hown, hwd⟩ (c_X3_readOperand_5 l dC dI g c adK adV v F nr H.size  hg hnr hI ) (cwV 1 hwd (gV wk_895 wk_896 wk_897 wk_898 wk_38) rfl rfl rfl (by decide +kernel) ⟨Nat.le_of_ble_eq_true rfl, Nat.le_of_ble_eq_true rfl⟩) ⟨PX.blind, va_recv hK hP (ci := 3) (q0 := 7) rfl rfl, fun U hU hW => ⟨rfl, PX.at hK hE hP hS hU hW⟩⟩ rfl rfl hl.1 rfl (lv_room (Nat.le_of_ble_eq_true rfl)) dX3_readProduct_2 ⟨Nat.le_of_ble_eq_true rfl, Nat.le_of_ble_eq_true rfl⟩) hS (fun q _ h => (freeX hS) q h) (freeX hS) (fun u t H1 locs ht hvm hw hB hz1 hk1 hS => ?_)
  unfold BX at hB
  rw [ht] at hB
  obtain ⟨v4723, F4724, rc9⟩ := u
  obtain ⟨hI, hal9, hrc, hf4725, hw⟩ := hw
  dsimp only at hI hal9 hrc hB hf4725 hw
  rw [hrc] at hB
  have hal := hal9.trans hal
  have hP : va_P (dC, dI) classes (wX g c v4723 F4724 (g (44 + nr))) H1 := hB
  generalize H1 = H at hP hS ⊢
  refine lv_iconst (v := 0) hx hb dX3_readProduct_5 (by decide) ?_
  refine lv_istore_n (lv' := [(2, .int 0), (0, .ref (g 7)), (1, .int 5)]) hx hb dX3_readProduct_6 rfl hl (by decide) rfl (fun ls hl => ?_)
  have lp4726 : ∀ (n : Nat) (x2_lp4726 : Int32) (v_lp4726 : Nat → Int32) (F_lp4726 : Nat → Nat → Int32) (H : Heap) (locs : List Loc) (ls : Array Slot), (0 ≤ x2_lp4726.toInt) → (2147483648 - x2_lp4726.toInt ≤ (n : Int)) → (∀ k, k ∉ ([142, 143, 144] : List Nat) → v_lp4726 k = v4723 k) → IX v_lp4726 F_lp4726 → alX v_lp4726 F_lp4726 = alX v F → va_P (dC, dI) classes (wX g c v_lp4726 F_lp4726 (g (44 + nr))) H → va_S (AX g s.heap.size) s.heap H locs → lv_has ls 4 [(2, .int x2_lp4726), (0, .ref (g 7)), (1, .int 5)] → W p l e (headSpec (Cond.code yX3_readProduct cX3_readProduct 4 none :: wA) ({ frames := 22, cells := 0, slots := 0, locals := 880 })).room s m ([.ref (g 7), .int 5] : List Value).toArray below meth c0 H locs 0 0 (MQ below (va_Qv (fun (u : StX) => IX u.1 u.2.1 ∧ alX u.1 u.2.1 = alX v F ∧ u.2.2 = (g (44 + nr)) ∧ (∀ k, k ∉ ([142, 143, 144] : List Nat) → u.1 k = v k) ∧ True) (BX dC dI g c) (AX g s.heap.size)) ([.ref (g 7), .int 5] : List Value).toArray s 0 0 (AX g s.heap.size)) (F0 m 7 ls []) := by
    intro n
    induction n with
    | zero =>
      intro x2_lp4726 v_lp4726 F_lp4726 H locs ls t4727 hm hf_lp4726 hI hal hP hS hl
      exfalso
      have := i32_rng x2_lp4726
      have hI1 := hI.1
      omega
    | succ n ih_lp4726 =>
      intro x2_lp4726 v_lp4726 F_lp4726 H locs ls t4727 hm hf_lp4726 hI hal hP hS hl
      have rx2_lp4726 := i32_rng x2_lp4726
      refine lv_iload_n hx hb dX3_readProduct_7 rfl (lv_at hl 0 rfl) ?_
      refine lv_bipush (v := 120) hx hb dX3_readProduct_8 (by decide) ?_
      refine lv_icmp_ge (tgt := 76) hx hb dX3_readProduct_10 (by decide) (fun c4728 => ?_) (fun c4728 => ?_)
      · skip
        have t4729 := cv_le (a := 120) (by decide) (b := x2_lp4726.toInt) rfl c4728
        have hP9 : va_P (dC, dI) classes (wX g c v_lp4726 F_lp4726 (g (44 + nr))) H := hP
        exact W.vret hx hb hr (fun t ht hW => ⟨⟨(v_lp4726, F_lp4726, (g (44 + nr))), rfl, ⟨hI, hal, rfl, (frC (by decide) hf_lp4726 (frC (by decide) hf4725 (fun _ _ => rfl))), trivial⟩, (by show va_P _ _ _ t.heap; rw [ht]; exact hP9)⟩, hS.F ht⟩) hS.2.2 dX3_readProduct_76
      · skip
        have t4730 := cv_nle (a := 120) (by decide) (b := x2_lp4726.toInt) rfl c4728
        refine lv_aload_n hx hb dX3_readProduct_13 rfl (lv_at hl 1 rfl) ?_
        refine va_calli (va_runV (As := []) (rest := []) ⟨hx, hb, hml, hown, hwd⟩ (c_X3_next l dC dI g c adK adV v_lp4726 F_lp4726 nr H.size  hg hnr hI ) (cwV 0 hwd (gV wk_866 wk_863 wk_864 wk_865 wk_38) rfl rfl rfl (by decide +kernel) ⟨Nat.le_of_ble_eq_true rfl, Nat.le_of_ble_eq_true rfl⟩) ⟨PX.blind, va_recv hK hP (ci := 3) (q0 := 7) rfl rfl, fun U hU hW => ⟨rfl, PX.at hK hE hP hS hU hW⟩⟩ rfl rfl hl.1 rfl (lv_room (Nat.le_of_ble_eq_true rfl)) dX3_readProduct_14 ⟨Nat.le_of_ble_eq_true rfl, Nat.le_of_ble_eq_true rfl⟩) hS (fun q _ h => (freeX hS) q h) (freeX hS) (fun r4731 u t H1 locs ht hvm hw hB hz1 hk1 hS => ?_)
        unfold BX at hB
        rw [ht] at hB
        have hP : va_P (dC, dI) classes (wX g c v_lp4726 F_lp4726 (g (44 + nr))) H1 := hB
        generalize H1 = H at hP hS ⊢
        have rr_r4731 := i32_rng r4731
        refine lv_bipush (v := 42) hx hb dX3_readProduct_17 (by decide) ?_
        refine lv_icmp_eq (tgt := 31) hx hb dX3_readProduct_19 (by decide) (fun c4732 => ?_) (fun c4732 => ?_)
        · skip
          have t4733 := cv_eq (a := r4731.toInt) rfl (b := 42) (by decide) c4732
          refine lv_aload_n hx hb dX3_readProduct_31 rfl (lv_at hl 1 rfl) ?_
          refine va_calli (va_runV (As := []) (rest := []) ⟨hx, hb, hml, hown, hwd⟩ (c_X3_next l dC dI g c adK adV v_lp4726 F_lp4726 nr H.size  hg hnr hI ) (cwV 0 hwd (gV wk_866 wk_863 wk_864 wk_865 wk_38) rfl rfl rfl (by decide +kernel) ⟨Nat.le_of_ble_eq_true rfl, Nat.le_of_ble_eq_true rfl⟩) ⟨PX.blind, va_recv hK hP (ci := 3) (q0 := 7) rfl rfl, fun U hU hW => ⟨rfl, PX.at hK hE hP hS hU hW⟩⟩ rfl rfl hl.1 rfl (lv_room (Nat.le_of_ble_eq_true rfl)) dX3_readProduct_32 ⟨Nat.le_of_ble_eq_true rfl, Nat.le_of_ble_eq_true rfl⟩) hS (fun q _ h => (freeX hS) q h) (freeX hS) (fun r4734 u t H1 locs ht hvm hw hB hz1 hk1 hS => ?_)
          unfold BX at hB
          rw [ht] at hB
          have hP : va_P (dC, dI) classes (wX g c v_lp4726 F_lp4726 (g (44 + nr))) H1 := hB
          generalize H1 = H at hP hS ⊢
          have rr_r4734 := i32_rng r4734
          refine lv_bipush (v := 42) hx hb dX3_readProduct_35 (by decide) ?_
          refine lv_icmp_ne (tgt := 45) hx hb dX3_readProduct_37 (by decide) (fun c4735 => ?_) (fun c4735 => ?_)
          · skip
            have t4736 := cv_ne (a := r4734.toInt) rfl (b := 42) (by decide) c4735
            refine lv_bipush (v := 8) hx hb dX3_readProduct_45 (by decide) ?_
            refine lv_istore_n (lv' := [(3, .int 8), (2, .int x2_lp4726), (0, .ref (g 7)), (1, .int 5)]) hx hb dX3_readProduct_47 rfl hl (by decide) rfl (fun ls hl => ?_)
            refine lv_aload_n hx hb dX3_readProduct_48 rfl (lv_at hl 2 rfl) ?_
            refine lv_dup hx hb dX3_readProduct_49 rfl ?_
            refine va_get (D := (dC, dI)) (ci := 3) (v := .int (v_lp4726 143)) (C := RX3) (T := TX3) (N := 5) hx hb hwd inA_X3 hown hK hP 7 rfl rfl 3 (by decide) (hwd _ wk_853) (fun _ h9 => h9) rfl dX3_readProduct_50 ?_
            refine lv_iconst (v := 1) hx hb dX3_readProduct_53 (by decide) ?_
            refine lv_iadd hx hb dX3_readProduct_54 ?_
            refine lv_topi (fun z4737 e4738 => ?_)
            try (have t4739 := tadd e4738 (a := (v_lp4726 143).toInt) rfl (b := 1) (by decide) (by omega))
            refine va_put (D := (dC, dI)) (ci := 3) (v := .int z4737) (ty := .int) (C := RX3) (T := TX3) (N := 5) (fs := fsX_7 g v_lp4726 (g (44 + nr))) hx hb hwd inA_X3 tyX3 tyX3_ok nmX3 hown hK hP (DX hg) hS 7 rfl rfl 3 (by decide) (hwd _ wk_853) (fun _ h9 => h9) rfl (by decide +kernel) rfl rfl (Nat.le_of_ble_eq_true rfl) dX3_readProduct_55 (fun H locs hP _ hS => ?_)
            have hP := va_P_eq (pX_143 g c _ _ _ _) hP
            have hI := IX.put0 hI 143 z4737 rfl
            have hal := (alX_v _ _ 143 z4737 (by decide) (by decide) (by decide) (by decide)).trans hal
            refine lv_aload_n hx hb dX3_readProduct_58 rfl (lv_at hl 2 rfl) ?_
            refine lv_iload_n hx hb dX3_readProduct_59 rfl (lv_at hl 3 rfl) ?_
            refine va_callv (va_runV (As := [.int 5]) (rest := []) ⟨hx, hb, hml, hown, hwd⟩ (c_X3_readOperand_5 l dC dI g c adK adV (va_up v_lp4726 143 z4737) F_lp4726 nr H.size  hg hnr hI ) (cwV 1 hwd (gV wk_895 wk_896 wk_897 wk_898 wk_38) rfl rfl rfl (by decide +kernel) ⟨Nat.le_of_ble_eq_true rfl, Nat.le_of_ble_eq_true rfl⟩) ⟨PX.blind, va_recv hK hP (ci := 3) (q0 := 7) rfl rfl, fun U hU hW => ⟨rfl, PX.at hK hE hP hS hU hW⟩⟩ rfl rfl hl.1 rfl (lv_room (Nat.le_of_ble_eq_true rfl)) dX3_readProduct_60 ⟨Nat.le_of_ble_eq_true rfl, Nat.le_of_ble_eq_true rfl⟩) hS (fun q _ h => (freeX hS) q h) (freeX hS) (fun u t H1 locs ht hvm hw hB hz1 hk1 hS => ?_)
            unfold BX at hB
            rw [ht] at hB
            obtain ⟨v4741, F4742, rc9⟩ := u
            obtain ⟨hI, hal9, hrc, hf4743, hw⟩ := hw
            dsimp only at hI hal9 hrc hB hf4743 hw
            rw [hrc] at hB
            have hal := hal9.trans hal
            have hP : va_P (dC, dI) classes (wX g c v4741 F4742 (g (44 + nr))) H1 := hB
            generalize H1 = H at hP hS ⊢
            refine lv_aload_n hx hb dX3_readProduct_63 rfl (lv_at hl 2 rfl) ?_
            refine lv_iload_n hx hb dX3_readProduct_64 rfl (lv_at hl 0 rfl) ?_
            refine lv_iconst (v := 0) hx hb dX3_readProduct_65 (by decide) ?_
            refine va_calli (va_runV (As := [.int 8, .int 0]) (rest := []) ⟨hx, hb, hml, hown, hwd⟩ (c_X3_put l dC dI g c adK adV v4741 F4742 nr H.size 8 0 hg hnr hI (by have : (8 : Int32).toInt = 8 := (by decide); omega) (by have : (0 : Int32).toInt = 0 := (by decide); omega)) (cwV 2 hwd (gV wk_882 wk_879 wk_880 wk_881 wk_38) rfl rfl rfl (by decide +kernel) ⟨Nat.le_of_ble_eq_true rfl, Nat.le_of_ble_eq_true rfl⟩) ⟨PX.blind, va_recv hK hP (ci := 3) (q0 := 7) rfl rfl, fun U hU hW => ⟨rfl, PX.at hK hE hP hS hU hW⟩⟩ rfl rfl hl.1 rfl (lv_room (Nat.le_of_ble_eq_true rfl)) dX3_readProduct_66 ⟨Nat.le_of_ble_eq_true rfl, Nat.le_of_ble_eq_true rfl⟩) hS (fun q _ h => (freeX hS) q h) (freeX hS) (fun r4744 u t H1 locs ht hvm hw hB hz1 hk1 hS => ?_)
            unfold BX at hB
            rw [ht] at hB
            obtain ⟨v4745, F4746, rc9⟩ := u
            obtain ⟨hI, hal9, hrc, hf4747, hw⟩ := hw
            dsimp only at hI hal9 hrc hB hf4747 hw
            rw [hrc] at hB
            have hal := hal9.trans hal
            have hP : va_P (dC, dI) classes (wX g c v4745 F4746 (g (44 + nr))) H1 := hB
            have hw : -1 ≤ r4744.toInt ∧ r4744.toInt ≤ 119 := hw
            have k4748 : (8 : Int32).toInt = 8 := by decide
            have k4749 : (0 : Int32).toInt = 0 := by decide
            generalize H1 = H at hP hS ⊢
            have hw_r4744 := hw
            refine lv_pop hx hb dX3_readProduct_69 rfl ?_
            obtain ⟨z4750, e4751⟩ : ∃ y : Int32, y = x2_lp4726 + 1 := ⟨_, rfl⟩
            try (have t4752 := tadd e4751 rfl (b := 1) (by decide) (by omega))
            refine lv_iinc (v := z4750) (lv' := [(2, .int z4750), (3, .int 8), (0, .ref (g 7)), (1, .int 5)]) hx hb dX3_readProduct_70 hl (k := 1) rfl (by rw [e4751]; rfl) (by decide) rfl (fun ls hl => ?_)
            refine lv_goto (tgt := 7) hx hb dX3_readProduct_73 (by decide) ?_
            exact ih_lp4726 z4750 v4745 F4746 _ _ _ (by omega) (by omega) (frC (by decide) hf4747 (frC (by decide) hf4743 (frU (by decide) hf_lp4726))) hI hal hP hS (lv_sub hl [0, 2, 3] rfl)
          · skip
            have t4753 := cv_eq (a := r4734.toInt) rfl (b := 42) (by decide) c4735
            refine lv_bipush (v := 7) hx hb dX3_readProduct_40 (by decide) ?_
            refine lv_goto (tgt := 47) hx hb dX3_readProduct_42 (by decide) ?_
            refine lv_istore_n (lv' := [(3, .int 7), (2, .int x2_lp4726), (0, .ref (g 7)), (1, .int 5)]) hx hb dX3_readProduct_47 rfl hl (by decide) rfl (fun ls hl => ?_)
            refine lv_aload_n hx hb dX3_readProduct_48 rfl (lv_at hl 2 rfl) ?_
            refine lv_dup hx hb dX3_readProduct_49 rfl ?_
            refine va_get (D := (dC, dI)) (ci := 3) (v := .int (v_lp4726 143)) (C := RX3) (T := TX3) (N := 5) hx hb hwd inA_X3 hown hK hP 7 rfl rfl 3 (by decide) (hwd _ wk_853) (fun _ h9 => h9) rfl dX3_readProduct_50 ?_
            refine lv_iconst (v := 1) hx hb dX3_readProduct_53 (by decide) ?_
            refine lv_iadd hx hb dX3_readProduct_54 ?_
            refine lv_topi (fun z4754 e4755 => ?_)
            try (have t4756 := tadd e4755 (a := (v_lp4726 143).toInt) rfl (b := 1) (by decide) (by omega))
            refine va_put (D := (dC, dI)) (ci := 3) (v := .int z4754) (ty := .int) (C := RX3) (T := TX3) (N := 5) (fs := fsX_7 g v_lp4726 (g (44 + nr))) hx hb hwd inA_X3 tyX3 tyX3_ok nmX3 hown hK hP (DX hg) hS 7 rfl rfl 3 (by decide) (hwd _ wk_853) (fun _ h9 => h9) rfl (by decide +kernel) rfl rfl (Nat.le_of_ble_eq_true rfl) dX3_readProduct_55 (fun H locs hP _ hS => ?_)
            have hP := va_P_eq (pX_143 g c _ _ _ _) hP
            have hI := IX.put0 hI 143 z4754 rfl
            have hal := (alX_v _ _ 143 z4754 (by decide) (by decide) (by decide) (by decide)).trans hal
            refine lv_aload_n hx hb dX3_readProduct_58 rfl (lv_at hl 2 rfl) ?_
            refine lv_iload_n hx hb dX3_readProduct_59 rfl (lv_at hl 3 rfl) ?_
            refine va_callv (va_runV (As := [.int 5]) (rest := []) ⟨hx, hb, hml, hown, hwd⟩ (c_X3_readOperand_5 l dC dI g c adK adV (va_up v_lp4726 143 z4754) F_lp4726 nr H.size  hg hnr hI ) (cwV 1 hwd (gV wk_895 wk_896 wk_897 wk_898 wk_38) rfl rfl rfl (by decide +kernel) ⟨Nat.le_of_ble_eq_true rfl, Nat.le_of_ble_eq_true rfl⟩) ⟨PX.blind, va_recv hK hP (ci := 3) (q0 := 7) rfl rfl, fun U hU hW => ⟨rfl, PX.at hK hE hP hS hU hW⟩⟩ rfl rfl hl.1 rfl (lv_room (Nat.le_of_ble_eq_true rfl)) dX3_readProduct_60 ⟨Nat.le_of_ble_eq_true rfl, Nat.le_of_ble_eq_true rfl⟩) hS (fun q _ h => (freeX hS) q h) (freeX hS) (fun u t H1 locs ht hvm hw hB hz1 hk1 hS => ?_)
            unfold BX at hB
            rw [ht] at hB
            obtain ⟨v4758, F4759, rc9⟩ := u
            obtain ⟨hI, hal9, hrc, hf4760, hw⟩ := hw
            dsimp only at hI hal9 hrc hB hf4760 hw
            rw [hrc] at hB
            have hal := hal9.trans hal
            have hP : va_P (dC, dI) classes (wX g c v4758 F4759 (g (44 + nr))) H1 := hB
            generalize H1 = H at hP hS ⊢
            refine lv_aload_n hx hb dX3_readProduct_63 rfl (lv_at hl 2 rfl) ?_
            refine lv_iload_n hx hb dX3_readProduct_64 rfl (lv_at hl 0 rfl) ?_
            refine lv_iconst (v := 0) hx hb dX3_readProduct_65 (by decide) ?_
            refine va_calli (va_runV (As := [.int 7, .int 0]) (rest := []) ⟨hx, hb, hml, hown, hwd⟩ (c_X3_put l dC dI g c adK adV v4758 F4759 nr H.size 7 0 hg hnr hI (by have : (7 : Int32).toInt = 7 := (by decide); omega) (by have : (0 : Int32).toInt = 0 := (by decide); omega)) (cwV 2 hwd (gV wk_882 wk_879 wk_880 wk_881 wk_38) rfl rfl rfl (by decide +kernel) ⟨Nat.le_of_ble_eq_true rfl, Nat.le_of_ble_eq_true rfl⟩) ⟨PX.blind, va_recv hK hP (ci := 3) (q0 := 7) rfl rfl, fun U hU hW => ⟨rfl, PX.at hK hE hP hS hU hW⟩⟩ rfl rfl hl.1 rfl (lv_room (Nat.le_of_ble_eq_true rfl)) dX3_readProduct_66 ⟨Nat.le_of_ble_eq_true rfl, Nat.le_of_ble_eq_true rfl⟩) hS (fun q _ h => (freeX hS) q h) (freeX hS) (fun r4761 u t H1 locs ht hvm hw hB hz1 hk1 hS => ?_)
            unfold BX at hB
            rw [ht] at hB
            obtain ⟨v4762, F4763, rc9⟩ := u
            obtain ⟨hI, hal9, hrc, hf4764, hw⟩ := hw
            dsimp only at hI hal9 hrc hB hf4764 hw
            rw [hrc] at hB
            have hal := hal9.trans hal
            have hP : va_P (dC, dI) classes (wX g c v4762 F4763 (g (44 + nr))) H1 := hB
            have hw : -1 ≤ r4761.toInt ∧ r4761.toInt ≤ 119 := hw
            have k4765 : (7 : Int32).toInt = 7 := by decide
            have k4766 : (0 : Int32).toInt = 0 := by decide
            generalize H1 = H at hP hS ⊢
            have hw_r4761 := hw
            refine lv_pop hx hb dX3_readProduct_69 rfl ?_
            obtain ⟨z4767, e4768⟩ : ∃ y : Int32, y = x2_lp4726 + 1 := ⟨_, rfl⟩
            try (have t4769 := tadd e4768 rfl (b := 1) (by decide) (by omega))
            refine lv_iinc (v := z4767) (lv' := [(2, .int z4767), (3, .int 7), (0, .ref (g 7)), (1, .int 5)]) hx hb dX3_readProduct_70 hl (k := 1) rfl (by rw [e4768]; rfl) (by decide) rfl (fun ls hl => ?_)
            refine lv_goto (tgt := 7) hx hb dX3_readProduct_73 (by decide) ?_
            exact ih_lp4726 z4767 v4762 F4763 _ _ _ (by omega) (by omega) (frC (by decide) hf4764 (frC (by decide) hf4760 (frU (by decide) hf_lp4726))) hI hal hP hS (lv_sub hl [0, 2, 3] rfl)
        · skip
          have t4770 := cv_ne (a := r4731.toInt) rfl (b := 42) (by decide) c4732
          refine lv_aload_n hx hb dX3_readProduct_22 rfl (lv_at hl 1 rfl) ?_
          refine va_calli (va_runV (As := []) (rest := []) ⟨hx, hb, hml, hown, hwd⟩ (c_X3_next l dC dI g c adK adV v_lp4726 F_lp4726 nr H.size  hg hnr hI ) (cwV 0 hwd (gV wk_866 wk_863 wk_864 wk_865 wk_38) rfl rfl rfl (by decide +kernel) ⟨Nat.le_of_ble_eq_true rfl, Nat.le_of_ble_eq_true rfl⟩) ⟨PX.blind, va_recv hK hP (ci := 3) (q0 := 7) rfl rfl, fun U hU hW => ⟨rfl, PX.at hK hE hP hS hU hW⟩⟩ rfl rfl hl.1 rfl (lv_room (Nat.le_of_ble_eq_true rfl)) dX3_readProduct_23 ⟨Nat.le_of_ble_eq_true rfl, Nat.le_of_ble_eq_true rfl⟩) hS (fun q _ h => (freeX hS) q h) (freeX hS) (fun r4771 u t H1 locs ht hvm hw hB hz1 hk1 hS => ?_)
          unfold BX at hB
          rw [ht] at hB
          have hP : va_P (dC, dI) classes (wX g c v_lp4726 F_lp4726 (g (44 + nr))) H1 := hB
          generalize H1 = H at hP hS ⊢
          have rr_r4771 := i32_rng r4771
          refine lv_bipush (v := 47) hx hb dX3_readProduct_26 (by decide) ?_
          refine lv_icmp_ne (tgt := 76) hx hb dX3_readProduct_28 (by decide) (fun c4772 => ?_) (fun c4772 => ?_)
          · skip
            have t4773 := cv_ne (a := r4771.toInt) rfl (b := 47) (by decide) c4772
            have hP9 : va_P (dC, dI) classes (wX g c v_lp4726 F_lp4726 (g (44 + nr))) H := hP
            exact W.vret hx hb hr (fun t ht hW => ⟨⟨(v_lp4726, F_lp4726, (g (44 + nr))), rfl, ⟨hI, hal, rfl, (frC (by decide) hf_lp4726 (frC (by decide) hf4725 (fun _ _ => rfl))), trivial⟩, (by show va_P _ _ _ t.heap; rw [ht]; exact hP9)⟩, hS.F ht⟩) hS.2.2 dX3_readProduct_76
          · skip
            have t4774 := cv_eq (a := r4771.toInt) rfl (b := 47) (by decide) c4772
            refine lv_aload_n hx hb dX3_readProduct_31 rfl (lv_at hl 1 rfl) ?_
            refine va_calli (va_runV (As := []) (rest := []) ⟨hx, hb, hml, hown, hwd⟩ (c_X3_next l dC dI g c adK adV v_lp4726 F_lp4726 nr H.size  hg hnr hI ) (cwV 0 hwd (gV wk_866 wk_863 wk_864 wk_865 wk_38) rfl rfl rfl (by decide +kernel) ⟨Nat.le_of_ble_eq_true rfl, Nat.le_of_ble_eq_true rfl⟩) ⟨PX.blind, va_recv hK hP (ci := 3) (q0 := 7) rfl rfl, fun U hU hW => ⟨rfl, PX.at hK hE hP hS hU hW⟩⟩ rfl rfl hl.1 rfl (lv_room (Nat.le_of_ble_eq_true rfl)) dX3_readProduct_32 ⟨Nat.le_of_ble_eq_true rfl, Nat.le_of_ble_eq_true rfl⟩) hS (fun q _ h => (freeX hS) q h) (freeX hS) (fun r4775 u t H1 locs ht hvm hw hB hz1 hk1 hS => ?_)
            unfold BX at hB
            rw [ht] at hB
            have hP : va_P (dC, dI) classes (wX g c v_lp4726 F_lp4726 (g (44 + nr))) H1 := hB
            generalize H1 = H at hP hS ⊢
            have rr_r4775 := i32_rng r4775
            refine lv_bipush (v := 42) hx hb dX3_readProduct_35 (by decide) ?_
            refine lv_icmp_ne (tgt := 45) hx hb dX3_readProduct_37 (by decide) (fun c4776 => ?_) (fun c4776 => ?_)
            · skip
              have t4777 := cv_ne (a := r4775.toInt) rfl (b := 42) (by decide) c4776
              refine lv_bipush (v := 8) hx hb dX3_readProduct_45 (by decide) ?_
              refine lv_istore_n (lv' := [(3, .int 8), (2, .int x2_lp4726), (0, .ref (g 7)), (1, .int 5)]) hx hb dX3_readProduct_47 rfl hl (by decide) rfl (fun ls hl => ?_)
              refine lv_aload_n hx hb dX3_readProduct_48 rfl (lv_at hl 2 rfl) ?_
              refine lv_dup hx hb dX3_readProduct_49 rfl ?_
              refine va_get (D := (dC, dI)) (ci := 3) (v := .int (v_lp4726 143)) (C := RX3) (T := TX3) (N := 5) hx hb hwd inA_X3 hown hK hP 7 rfl rfl 3 (by decide) (hwd _ wk_853) (fun _ h9 => h9) rfl dX3_readProduct_50 ?_
              refine lv_iconst (v := 1) hx hb dX3_readProduct_53 (by decide) ?_
              refine lv_iadd hx hb dX3_readProduct_54 ?_
              refine lv_topi (fun z4778 e4779 => ?_)
              try (have t4780 := tadd e4779 (a := (v_lp4726 143).toInt) rfl (b := 1) (by decide) (by omega))
              refine va_put (D := (dC, dI)) (ci := 3) (v := .int z4778) (ty := .int) (C := RX3) (T := TX3) (N := 5) (fs := fsX_7 g v_lp4726 (g (44 + nr))) hx hb hwd inA_X3 tyX3 tyX3_ok nmX3 hown hK hP (DX hg) hS 7 rfl rfl 3 (by decide) (hwd _ wk_853) (fun _ h9 => h9) rfl (by decide +kernel) rfl rfl (Nat.le_of_ble_eq_true rfl) dX3_readProduct_55 (fun H locs hP _ hS => ?_)
              have hP := va_P_eq (pX_143 g c _ _ _ _) hP
              have hI := IX.put0 hI 143 z4778 rfl
              have hal := (alX_v _ _ 143 z4778 (by decide) (by decide) (by decide) (by decide)).trans hal
              refine lv_aload_n hx hb dX3_readProduct_58 rfl (lv_at hl 2 rfl) ?_
              refine lv_iload_n hx hb dX3_readProduct_59 rfl (lv_at hl 3 rfl) ?_
              refine va_callv (va_runV (As := [.int 5]) (rest := []) ⟨hx, hb, hml, hown, hwd⟩ (c_X3_readOperand_5 l dC dI g c adK adV (va_up v_lp4726 143 z4778) F_lp4726 nr H.size  hg hnr hI ) (cwV 1 hwd (gV wk_895 wk_896 wk_897 wk_898 wk_38) rfl rfl rfl (by decide +kernel) ⟨Nat.le_of_ble_eq_true rfl, Nat.le_of_ble_eq_true rfl⟩) ⟨PX.blind, va_recv hK hP (ci := 3) (q0 := 7) rfl rfl, fun U hU hW => ⟨rfl, PX.at hK hE hP hS hU hW⟩⟩ rfl rfl hl.1 rfl (lv_room (Nat.le_of_ble_eq_true rfl)) dX3_readProduct_60 ⟨Nat.le_of_ble_eq_true rfl, Nat.le_of_ble_eq_true rfl⟩) hS (fun q _ h => (freeX hS) q h) (freeX hS) (fun u t H1 locs ht hvm hw hB hz1 hk1 hS => ?_)
              unfold BX at hB
              rw [ht] at hB
              obtain ⟨v4782, F4783, rc9⟩ := u
              obtain ⟨hI, hal9, hrc, hf4784, hw⟩ := hw
              dsimp only at hI hal9 hrc hB hf4784 hw
              rw [hrc] at hB
              have hal := hal9.trans hal
              have hP : va_P (dC, dI) classes (wX g c v4782 F4783 (g (44 + nr))) H1 := hB
              generalize H1 = H at hP hS ⊢
              refine lv_aload_n hx hb dX3_readProduct_63 rfl (lv_at hl 2 rfl) ?_
              refine lv_iload_n hx hb dX3_readProduct_64 rfl (lv_at hl 0 rfl) ?_
              refine lv_iconst (v := 0) hx hb dX3_readProduct_65 (by decide) ?_
              refine va_calli (va_runV (As := [.int 8, .int 0]) (rest := []) ⟨hx, hb, hml, hown, hwd⟩ (c_X3_put l dC dI g c adK adV v4782 F4783 nr H.size 8 0 hg hnr hI (by have : (8 : Int32).toInt = 8 := (by decide); omega) (by have : (0 : Int32).toInt = 0 := (by decide); omega)) (cwV 2 hwd (gV wk_882 wk_879 wk_880 wk_881 wk_38) rfl rfl rfl (by decide +kernel) ⟨Nat.le_of_ble_eq_true rfl, Nat.le_of_ble_eq_true rfl⟩) ⟨PX.blind, va_recv hK hP (ci := 3) (q0 := 7) rfl rfl, fun U hU hW => ⟨rfl, PX.at hK hE hP hS hU hW⟩⟩ rfl rfl hl.1 rfl (lv_room (Nat.le_of_ble_eq_true rfl)) dX3_readProduct_66 ⟨Nat.le_of_ble_eq_true rfl, Nat.le_of_ble_eq_true rfl⟩) hS (fun q _ h => (freeX hS) q h) (freeX hS) (fun r4785 u t H1 locs ht hvm hw hB hz1 hk1 hS => ?_)
              unfold BX at hB
              rw [ht] at hB
              obtain ⟨v4786, F4787, rc9⟩ := u
              obtain ⟨hI, hal9, hrc, hf4788, hw⟩ := hw
              dsimp only at hI hal9 hrc hB hf4788 hw
              rw [hrc] at hB
              have hal := hal9.trans hal
              have hP : va_P (dC, dI) classes (wX g c v4786 F4787 (g (44 + nr))) H1 := hB
              have hw : -1 ≤ r4785.toInt ∧ r4785.toInt ≤ 119 := hw
              have k4789 : (8 : Int32).toInt = 8 := by decide
              have k4790 : (0 : Int32).toInt = 0 := by decide
              generalize H1 = H at hP hS ⊢
              have hw_r4785 := hw
              refine lv_pop hx hb dX3_readProduct_69 rfl ?_
              obtain ⟨z4791, e4792⟩ : ∃ y : Int32, y = x2_lp4726 + 1 := ⟨_, rfl⟩
              try (have t4793 := tadd e4792 rfl (b := 1) (by decide) (by omega))
              refine lv_iinc (v := z4791) (lv' := [(2, .int z4791), (3, .int 8), (0, .ref (g 7)), (1, .int 5)]) hx hb dX3_readProduct_70 hl (k := 1) rfl (by rw [e4792]; rfl) (by decide) rfl (fun ls hl => ?_)
              refine lv_goto (tgt := 7) hx hb dX3_readProduct_73 (by decide) ?_
              exact ih_lp4726 z4791 v4786 F4787 _ _ _ (by omega) (by omega) (frC (by decide) hf4788 (frC (by decide) hf4784 (frU (by decide) hf_lp4726))) hI hal hP hS (lv_sub hl [0, 2, 3] rfl)
            · skip
              have t4794 := cv_eq (a := r4775.toInt) rfl (b := 42) (by decide) c4776
              refine lv_bipush (v := 7) hx hb dX3_readProduct_40 (by decide) ?_
              refine lv_goto (tgt := 47) hx hb dX3_readProduct_42 (by decide) ?_
              refine lv_istore_n (lv' := [(3, .int 7), (2, .int x2_lp4726), (0, .ref (g 7)), (1, .int 5)]) hx hb dX3_readProduct_47 rfl hl (by decide) rfl (fun ls hl => ?_)
              refine lv_aload_n hx hb dX3_readProduct_48 rfl (lv_at hl 2 rfl) ?_
              refine lv_dup hx hb dX3_readProduct_49 rfl ?_
              refine va_get (D := (dC, dI)) (ci := 3) (v := .int (v_lp4726 143)) (C := RX3) (T := TX3) (N := 5) hx hb hwd inA_X3 hown hK hP 7 rfl rfl 3 (by decide) (hwd _ wk_853) (fun _ h9 => h9) rfl dX3_readProduct_50 ?_
              refine lv_iconst (v := 1) hx hb dX3_readProduct_53 (by decide) ?_
              refine lv_iadd hx hb dX3_readProduct_54 ?_
              refine lv_topi (fun z4795 e4796 => ?_)
              try (have t4797 := tadd e4796 (a := (v_lp4726 143).toInt) rfl (b := 1) (by decide) (by omega))
              refine va_put (D := (dC, dI)) (ci := 3) (v := .int z4795) (ty := .int) (C := RX3) (T := TX3) (N := 5) (fs := fsX_7 g v_lp4726 (g (44 + nr))) hx hb hwd inA_X3 tyX3 tyX3_ok nmX3 hown hK hP (DX hg) hS 7 rfl rfl 3 (by decide) (hwd _ wk_853) (fun _ h9 => h9) rfl (by decide +kernel) rfl rfl (Nat.le_of_ble_eq_true rfl) dX3_readProduct_55 (fun H locs hP _ hS => ?_)
              have hP := va_P_eq (pX_143 g c _ _ _ _) hP
              have hI := IX.put0 hI 143 z4795 rfl
              have hal := (alX_v _ _ 143 z4795 (by decide) (by decide) (by decide) (by decide)).trans hal
              refine lv_aload_n hx hb dX3_readProduct_58 rfl (lv_at hl 2 rfl) ?_
              refine lv_iload_n hx hb dX3_readProduct_59 rfl (lv_at hl 3 rfl) ?_
              refine va_callv (va_runV (As := [.int 5]) (rest := []) ⟨hx, hb, hml, hown, hwd⟩ (c_X3_readOperand_5 l dC dI g c adK adV (va_up v_lp4726 143 z4795) F_lp4726 nr H.size  hg hnr hI ) (cwV 1 hwd (gV wk_895 wk_896 wk_897 wk_898 wk_38) rfl rfl rfl (by decide +kernel) ⟨Nat.le_of_ble_eq_true rfl, Nat.le_of_ble_eq_true rfl⟩) ⟨PX.blind, va_recv hK hP (ci := 3) (q0 := 7) rfl rfl, fun U hU hW => ⟨rfl, PX.at hK hE hP hS hU hW⟩⟩ rfl rfl hl.1 rfl (lv_room (Nat.le_of_ble_eq_true rfl)) dX3_readProduct_60 ⟨Nat.le_of_ble_eq_true rfl, Nat.le_of_ble_eq_true rfl⟩) hS (fun q _ h => (freeX hS) q h) (freeX hS) (fun u t H1 locs ht hvm hw hB hz1 hk1 hS => ?_)
              unfold BX at hB
              rw [ht] at hB
              obtain ⟨v4799, F4800, rc9⟩ := u
              obtain ⟨hI, hal9, hrc, hf4801, hw⟩ := hw
              dsimp only at hI hal9 hrc hB hf4801 hw
              rw [hrc] at hB
              have hal := hal9.trans hal
              have hP : va_P (dC, dI) classes (wX g c v4799 F4800 (g (44 + nr))) H1 := hB
              generalize H1 = H at hP hS ⊢
              refine lv_aload_n hx hb dX3_readProduct_63 rfl (lv_at hl 2 rfl) ?_
              refine lv_iload_n hx hb dX3_readProduct_64 rfl (lv_at hl 0 rfl) ?_
              refine lv_iconst (v := 0) hx hb dX3_readProduct_65 (by decide) ?_
              refine va_calli (va_runV (As := [.int 7, .int 0]) (rest := []) ⟨hx, hb, hml, hown, hwd⟩ (c_X3_put l dC dI g c adK adV v4799 F4800 nr H.size 7 0 hg hnr hI (by have : (7 : Int32).toInt = 7 := (by decide); omega) (by have : (0 : Int32).toInt = 0 := (by decide); omega)) (cwV 2 hwd (gV wk_882 wk_879 wk_880 wk_881 wk_38) rfl rfl rfl (by decide +kernel) ⟨Nat.le_of_ble_eq_true rfl, Nat.le_of_ble_eq_true rfl⟩) ⟨PX.blind, va_recv hK hP (ci := 3) (q0 := 7) rfl rfl, fun U hU hW => ⟨rfl, PX.at hK hE hP hS hU hW⟩⟩ rfl rfl hl.1 rfl (lv_room (Nat.le_of_ble_eq_true rfl)) dX3_readProduct_66 ⟨Nat.le_of_ble_eq_true rfl, Nat.le_of_ble_eq_true rfl⟩) hS (fun q _ h => (freeX hS) q h) (freeX hS) (fun r4802 u t H1 locs ht hvm hw hB hz1 hk1 hS => ?_)
              unfold BX at hB
              rw [ht] at hB
              obtain ⟨v4803, F4804, rc9⟩ := u
              obtain ⟨hI, hal9, hrc, hf4805, hw⟩ := hw
              dsimp only at hI hal9 hrc hB hf4805 hw
              rw [hrc] at hB
              have hal := hal9.trans hal
              have hP : va_P (dC, dI) classes (wX g c v4803 F4804 (g (44 + nr))) H1 := hB
              have hw : -1 ≤ r4802.toInt ∧ r4802.toInt ≤ 119 := hw
              have k4806 : (7 : Int32).toInt = 7 := by decide
              have k4807 : (0 : Int32).toInt = 0 := by decide
              generalize H1 = H at hP hS ⊢
              have hw_r4802 := hw
              refine lv_pop hx hb dX3_readProduct_69 rfl ?_
              obtain ⟨z4808, e4809⟩ : ∃ y : Int32, y = x2_lp4726 + 1 := ⟨_, rfl⟩
              try (have t4810 := tadd e4809 rfl (b := 1) (by decide) (by omega))
              refine lv_iinc (v := z4808) (lv' := [(2, .int z4808), (3, .int 7), (0, .ref (g 7)), (1, .int 5)]) hx hb dX3_readProduct_70 hl (k := 1) rfl (by rw [e4809]; rfl) (by decide) rfl (fun ls hl => ?_)
              refine lv_goto (tgt := 7) hx hb dX3_readProduct_73 (by decide) ?_
              exact ih_lp4726 z4808 v4803 F4804 _ _ _ (by omega) (by omega) (frC (by decide) hf4805 (frC (by decide) hf4801 (frU (by decide) hf_lp4726))) hI hal hP hS (lv_sub hl [0, 2, 3] rfl)
  obtain ⟨n9, hn9⟩ : ∃ n : Nat, 2147483648 - 0 ≤ (n : Int) := ⟨((2147483648 - 0 : Int)).toNat, by omega⟩
  exact lp4726 n9 0 v4723 F4724 H _ ls (by have : (0 : Int32).toInt = 0 := (by decide); omega) (by have : (0 : Int32).toInt = 0 := (by decide); omega) (fun _ _ => rfl) hI hal hP hS hl
set_option maxHeartbeats 8000000 in
set_option maxRecDepth 100000 in
theorem c_X3_readSum_5 (l : Launch) (dC : Nat → ClassId) (dI : Nat → Nat → Nat) (g : Nat → Nat) (c : Nat → ClassId) (adK adV : Nat → Nat) (v : Nat → Int32) (F : Nat → Nat → Int32) (nr sz : Nat) (hg : injX g) (hnr : nr < 10) (hI : IX v F) : Met l yX3_readSum (Cond.code yX3_readSum cX3_readSum 4 none :: wA) ({ frames := 23, cells := 0, slots := 0, locals := 920 }) (va_Pc [.ref (g 7), .int 5] (PX dC dI g c adK adV v F (g (44 + nr)) sz)) (va_Qv (fun (u : StX) => IX u.1 u.2.1 ∧ alX u.1 u.2.1 = alX v F ∧ u.2.2 = (g (44 + nr)) ∧ (∀ k, k ∉ ([142, 143, 144] : List Nat) → u.1 k = v k) ∧ True) (BX dC dI g c) (AX g sz)) 0 0 (AX g sz) := by
  refine Met.ofW (cc := cX3_readSum) (maxL := 4) (ret := none) (by decide) rfl ?_
  intro p e s m args below meth c0 s₁ B hml hv
  obtain ⟨rfl, hsz, hP, hK, hE⟩ := hv
  have hx := B.exec
  have hb := B.bytes
  have hr := B.returns
  have hts := atoms_spec (ws := Cond.code yX3_readSum cX3_readSum 4 none :: wA) B.pre
  have hwd : ∀ w ∈ wA, w.before _ s = true := fun w h => hts w (List.mem_cons_of_mem _ h)
  have hown : s.vm.findClass RX3 = some m.cls := findClass_of_methodNamed B.named
  have hlocks := B.notSynchronized
  subst hsz
  have hl := lv_entry ([.ref (g 7), .int 5]) (n := 4) (Nat.le_of_ble_eq_true rfl)
  rw [lg_entry_eq]
  generalize (lg_sl ([.ref (g 7), .int 5]) ++ List.replicate (4 - (lg_sl ([.ref (g 7), .int 5])).length) Slot.unset).toArray = ls at hl ⊢
  have hl : lv_has ls 4 [(0, .ref (g 7)), (1, .int 5)] := hl
  obtain ⟨H, eH⟩ : ∃ z, z = s.heap := ⟨_, rfl⟩
  have hP : va_P (dC, dI) classes (wX g c v F (g (44 + nr))) H := by rw [eH]; exact hP
  have hS : va_S (AX g s.heap.size) s.heap H [] := by rw [eH]; exact va_S.rf
  refine my_heap eH ?_
  have hal : alX v F = alX v F := rfl
  refine lv_aload_n hx hb dX3_readSum_0 rfl (lv_at hl 0 rfl) ?_
  refine lv_iload_n hx hb dX3_readSum_1 rfl (lv_at hl 1 rfl) ?_
  refine va_callv (va_runV (As := [.int 5]) (rest := []) ⟨hx, hb, hml, hown, hwd⟩ (c_X3_readProduct_5 l dC dI g c adK adV v F nr H.size  hg hnr hI ) (cwV 1 hwd (gV wk_989 wk_991 wk_992 wk_993 wk_38) rfl rfl rfl (by decide +kernel) ⟨Nat.le_of_ble_eq_true rfl, Nat.le_of_ble_eq_true rfl⟩) ⟨PX.blind, va_recv hK hP (ci := 3) (q0 := 7) rfl rfl, fun U hU hW => ⟨rfl, PX.at hK hE hP hS hU hW⟩⟩ rfl rfl hl.1 rfl (lv_room (Nat.le_of_ble_eq_true rfl)) dX3_readSum_2 ⟨Nat.le_of_ble_eq_true rfl, Nat.le_of_ble_eq_true rfl⟩) hS (fun q _ h => (freeX hS) q h) (freeX hS) (fun u t H1 locs ht hvm hw hB hz1 hk1 hS => ?_)
  unfold BX at hB
  rw [ht] at hB
  obtain ⟨v4812, F4813, rc9⟩ := u
  obtain ⟨hI, hal9, hrc, hf4814, hw⟩ := hw
  dsimp only at hI hal9 hrc hB hf4814 hw
  rw [hrc] at hB
  have hal := hal9.trans hal
  have hP : va_P (dC, dI) classes (wX g c v4812 F4813 (g (44 + nr))) H1 := hB
  generalize H1 = H at hP hS ⊢
  refine lv_iconst (v := 0) hx hb dX3_readSum_5 (by decide) ?_
  refine lv_istore_n (lv' := [(2, .int 0), (0, .ref (g 7)), (1, .int 5)]) hx hb dX3_readSum_6 rfl hl (by decide) rfl (fun ls hl => ?_)
  have lp4815 : ∀ (n : Nat) (x2_lp4815 : Int32) (v_lp4815 : Nat → Int32) (F_lp4815 : Nat → Nat → Int32) (H : Heap) (locs : List Loc) (ls : Array Slot), (0 ≤ x2_lp4815.toInt) → (2147483648 - x2_lp4815.toInt ≤ (n : Int)) → (∀ k, k ∉ ([142, 143, 144] : List Nat) → v_lp4815 k = v4812 k) → IX v_lp4815 F_lp4815 → alX v_lp4815 F_lp4815 = alX v F → va_P (dC, dI) classes (wX g c v_lp4815 F_lp4815 (g (44 + nr))) H → va_S (AX g s.heap.size) s.heap H locs → lv_has ls 4 [(2, .int x2_lp4815), (0, .ref (g 7)), (1, .int 5)] → W p l e (headSpec (Cond.code yX3_readSum cX3_readSum 4 none :: wA) ({ frames := 23, cells := 0, slots := 0, locals := 920 })).room s m ([.ref (g 7), .int 5] : List Value).toArray below meth c0 H locs 0 0 (MQ below (va_Qv (fun (u : StX) => IX u.1 u.2.1 ∧ alX u.1 u.2.1 = alX v F ∧ u.2.2 = (g (44 + nr)) ∧ (∀ k, k ∉ ([142, 143, 144] : List Nat) → u.1 k = v k) ∧ True) (BX dC dI g c) (AX g s.heap.size)) ([.ref (g 7), .int 5] : List Value).toArray s 0 0 (AX g s.heap.size)) (F0 m 7 ls []) := by
    intro n
    induction n with
    | zero =>
      intro x2_lp4815 v_lp4815 F_lp4815 H locs ls t4816 hm hf_lp4815 hI hal hP hS hl
      exfalso
      have := i32_rng x2_lp4815
      have hI1 := hI.1
      omega
    | succ n ih_lp4815 =>
      intro x2_lp4815 v_lp4815 F_lp4815 H locs ls t4816 hm hf_lp4815 hI hal hP hS hl
      have rx2_lp4815 := i32_rng x2_lp4815
      refine lv_iload_n hx hb dX3_readSum_7 rfl (lv_at hl 0 rfl) ?_
      refine lv_bipush (v := 120) hx hb dX3_readSum_8 (by decide) ?_
      refine lv_icmp_ge (tgt := 75) hx hb dX3_readSum_10 (by decide) (fun c4817 => ?_) (fun c4817 => ?_)
      · skip
        have t4818 := cv_le (a := 120) (by decide) (b := x2_lp4815.toInt) rfl c4817
        have hP9 : va_P (dC, dI) classes (wX g c v_lp4815 F_lp4815 (g (44 + nr))) H := hP
        exact W.vret hx hb hr (fun t ht hW => ⟨⟨(v_lp4815, F_lp4815, (g (44 + nr))), rfl, ⟨hI, hal, rfl, (frC (by decide) hf_lp4815 (frC (by decide) hf4814 (fun _ _ => rfl))), trivial⟩, (by show va_P _ _ _ t.heap; rw [ht]; exact hP9)⟩, hS.F ht⟩) hS.2.2 dX3_readSum_75
      · skip
        have t4819 := cv_nle (a := 120) (by decide) (b := x2_lp4815.toInt) rfl c4817
        refine lv_aload_n hx hb dX3_readSum_13 rfl (lv_at hl 1 rfl) ?_
        refine va_calli (va_runV (As := []) (rest := []) ⟨hx, hb, hml, hown, hwd⟩ (c_X3_next l dC dI g c adK adV v_lp4815 F_lp4815 nr H.size  hg hnr hI ) (cwV 0 hwd (gV wk_866 wk_863 wk_864 wk_865 wk_38) rfl rfl rfl (by decide +kernel) ⟨Nat.le_of_ble_eq_true rfl, Nat.le_of_ble_eq_true rfl⟩) ⟨PX.blind, va_recv hK hP (ci := 3) (q0 := 7) rfl rfl, fun U hU hW => ⟨rfl, PX.at hK hE hP hS hU hW⟩⟩ rfl rfl hl.1 rfl (lv_room (Nat.le_of_ble_eq_true rfl)) dX3_readSum_14 ⟨Nat.le_of_ble_eq_true rfl, Nat.le_of_ble_eq_true rfl⟩) hS (fun q _ h => (freeX hS) q h) (freeX hS) (fun r4820 u t H1 locs ht hvm hw hB hz1 hk1 hS => ?_)
        unfold BX at hB
        rw [ht] at hB
        have hP : va_P (dC, dI) classes (wX g c v_lp4815 F_lp4815 (g (44 + nr))) H1 := hB
        generalize H1 = H at hP hS ⊢
        have rr_r4820 := i32_rng r4820
        refine lv_bipush (v := 43) hx hb dX3_readSum_17 (by decide) ?_
        refine lv_icmp_eq (tgt := 31) hx hb dX3_readSum_19 (by decide) (fun c4821 => ?_) (fun c4821 => ?_)
        · skip
          have t4822 := cv_eq (a := r4820.toInt) rfl (b := 43) (by decide) c4821
          refine lv_aload_n hx hb dX3_readSum_31 rfl (lv_at hl 1 rfl) ?_
          refine va_calli (va_runV (As := []) (rest := []) ⟨hx, hb, hml, hown, hwd⟩ (c_X3_next l dC dI g c adK adV v_lp4815 F_lp4815 nr H.size  hg hnr hI ) (cwV 0 hwd (gV wk_866 wk_863 wk_864 wk_865 wk_38) rfl rfl rfl (by decide +kernel) ⟨Nat.le_of_ble_eq_true rfl, Nat.le_of_ble_eq_true rfl⟩) ⟨PX.blind, va_recv hK hP (ci := 3) (q0 := 7) rfl rfl, fun U hU hW => ⟨rfl, PX.at hK hE hP hS hU hW⟩⟩ rfl rfl hl.1 rfl (lv_room (Nat.le_of_ble_eq_true rfl)) dX3_readSum_32 ⟨Nat.le_of_ble_eq_true rfl, Nat.le_of_ble_eq_true rfl⟩) hS (fun q _ h => (freeX hS) q h) (freeX hS) (fun r4823 u t H1 locs ht hvm hw hB hz1 hk1 hS => ?_)
          unfold BX at hB
          rw [ht] at hB
          have hP : va_P (dC, dI) classes (wX g c v_lp4815 F_lp4815 (g (44 + nr))) H1 := hB
          generalize H1 = H at hP hS ⊢
          have rr_r4823 := i32_rng r4823
          refine lv_bipush (v := 43) hx hb dX3_readSum_35 (by decide) ?_
          refine lv_icmp_ne (tgt := 44) hx hb dX3_readSum_37 (by decide) (fun c4824 => ?_) (fun c4824 => ?_)
          · skip
            have t4825 := cv_ne (a := r4823.toInt) rfl (b := 43) (by decide) c4824
            refine lv_bipush (v := 6) hx hb dX3_readSum_44 (by decide) ?_
            refine lv_istore_n (lv' := [(3, .int 6), (2, .int x2_lp4815), (0, .ref (g 7)), (1, .int 5)]) hx hb dX3_readSum_46 rfl hl (by decide) rfl (fun ls hl => ?_)
            refine lv_aload_n hx hb dX3_readSum_47 rfl (lv_at hl 2 rfl) ?_
            refine lv_dup hx hb dX3_readSum_48 rfl ?_
            refine va_get (D := (dC, dI)) (ci := 3) (v := .int (v_lp4815 143)) (C := RX3) (T := TX3) (N := 5) hx hb hwd inA_X3 hown hK hP 7 rfl rfl 3 (by decide) (hwd _ wk_853) (fun _ h9 => h9) rfl dX3_readSum_49 ?_
            refine lv_iconst (v := 1) hx hb dX3_readSum_52 (by decide) ?_
            refine lv_iadd hx hb dX3_readSum_53 ?_
            refine lv_topi (fun z4826 e4827 => ?_)
            try (have t4828 := tadd e4827 (a := (v_lp4815 143).toInt) rfl (b := 1) (by decide) (by omega))
            refine va_put (D := (dC, dI)) (ci := 3) (v := .int z4826) (ty := .int) (C := RX3) (T := TX3) (N := 5) (fs := fsX_7 g v_lp4815 (g (44 + nr))) hx hb hwd inA_X3 tyX3 tyX3_ok nmX3 hown hK hP (DX hg) hS 7 rfl rfl 3 (by decide) (hwd _ wk_853) (fun _ h9 => h9) rfl (by decide +kernel) rfl rfl (Nat.le_of_ble_eq_true rfl) dX3_readSum_54 (fun H locs hP _ hS => ?_)
            have hP := va_P_eq (pX_143 g c _ _ _ _) hP
            have hI := IX.put0 hI 143 z4826 rfl
            have hal := (alX_v _ _ 143 z4826 (by decide) (by decide) (by decide) (by decide)).trans hal
            refine lv_aload_n hx hb dX3_readSum_57 rfl (lv_at hl 2 rfl) ?_
            refine lv_iload_n hx hb dX3_readSum_58 rfl (lv_at hl 3 rfl) ?_
            refine va_callv (va_runV (As := [.int 5]) (rest := []) ⟨hx, hb, hml, hown, hwd⟩ (c_X3_readProduct_5 l dC dI g c adK adV (va_up v_lp4815 143 z4826) F_lp4815 nr H.size  hg hnr hI ) (cwV 1 hwd (gV wk_989 wk_991 wk_992 wk_993 wk_38) rfl rfl rfl (by decide +kernel) ⟨Nat.le_of_ble_eq_true rfl, Nat.le_of_ble_eq_true rfl⟩) ⟨PX.blind, va_recv hK hP (ci := 3) (q0 := 7) rfl rfl, fun U hU hW => ⟨rfl, PX.at hK hE hP hS hU hW⟩⟩ rfl rfl hl.1 rfl (lv_room (Nat.le_of_ble_eq_true rfl)) dX3_readSum_59 ⟨Nat.le_of_ble_eq_true rfl, Nat.le_of_ble_eq_true rfl⟩) hS (fun q _ h => (freeX hS) q h) (freeX hS) (fun u t H1 locs ht hvm hw hB hz1 hk1 hS => ?_)
            unfold BX at hB
            rw [ht] at hB
            obtain ⟨v4830, F4831, rc9⟩ := u
            obtain ⟨hI, hal9, hrc, hf4832, hw⟩ := hw
            dsimp only at hI hal9 hrc hB hf4832 hw
            rw [hrc] at hB
            have hal := hal9.trans hal
            have hP : va_P (dC, dI) classes (wX g c v4830 F4831 (g (44 + nr))) H1 := hB
            generalize H1 = H at hP hS ⊢
            refine lv_aload_n hx hb dX3_readSum_62 rfl (lv_at hl 2 rfl) ?_
            refine lv_iload_n hx hb dX3_readSum_63 rfl (lv_at hl 0 rfl) ?_
            refine lv_iconst (v := 0) hx hb dX3_readSum_64 (by decide) ?_
            refine va_calli (va_runV (As := [.int 6, .int 0]) (rest := []) ⟨hx, hb, hml, hown, hwd⟩ (c_X3_put l dC dI g c adK adV v4830 F4831 nr H.size 6 0 hg hnr hI (by have : (6 : Int32).toInt = 6 := (by decide); omega) (by have : (0 : Int32).toInt = 0 := (by decide); omega)) (cwV 2 hwd (gV wk_882 wk_879 wk_880 wk_881 wk_38) rfl rfl rfl (by decide +kernel) ⟨Nat.le_of_ble_eq_true rfl, Nat.le_of_ble_eq_true rfl⟩) ⟨PX.blind, va_recv hK hP (ci := 3) (q0 := 7) rfl rfl, fun U hU hW => ⟨rfl, PX.at hK hE hP hS hU hW⟩⟩ rfl rfl hl.1 rfl (lv_room (Nat.le_of_ble_eq_true rfl)) dX3_readSum_65 ⟨Nat.le_of_ble_eq_true rfl, Nat.le_of_ble_eq_true rfl⟩) hS (fun q _ h => (freeX hS) q h) (freeX hS) (fun r4833 u t H1 locs ht hvm hw hB hz1 hk1 hS => ?_)
            unfold BX at hB
            rw [ht] at hB
            obtain ⟨v4834, F4835, rc9⟩ := u
            obtain ⟨hI, hal9, hrc, hf4836, hw⟩ := hw
            dsimp only at hI hal9 hrc hB hf4836 hw
            rw [hrc] at hB
            have hal := hal9.trans hal
            have hP : va_P (dC, dI) classes (wX g c v4834 F4835 (g (44 + nr))) H1 := hB
            have hw : -1 ≤ r4833.toInt ∧ r4833.toInt ≤ 119 := hw
            have k4837 : (6 : Int32).toInt = 6 := by decide
            have k4838 : (0 : Int32).toInt = 0 := by decide
            generalize H1 = H at hP hS ⊢
            have hw_r4833 := hw
            refine lv_pop hx hb dX3_readSum_68 rfl ?_
            obtain ⟨z4839, e4840⟩ : ∃ y : Int32, y = x2_lp4815 + 1 := ⟨_, rfl⟩
            try (have t4841 := tadd e4840 rfl (b := 1) (by decide) (by omega))
            refine lv_iinc (v := z4839) (lv' := [(2, .int z4839), (3, .int 6), (0, .ref (g 7)), (1, .int 5)]) hx hb dX3_readSum_69 hl (k := 1) rfl (by rw [e4840]; rfl) (by decide) rfl (fun ls hl => ?_)
            refine lv_goto (tgt := 7) hx hb dX3_readSum_72 (by decide) ?_
            exact ih_lp4815 z4839 v4834 F4835 _ _ _ (by omega) (by omega) (frC (by decide) hf4836 (frC (by decide) hf4832 (frU (by decide) hf_lp4815))) hI hal hP hS (lv_sub hl [0, 2, 3] rfl)
          · skip
            have t4842 := cv_eq (a := r4823.toInt) rfl (b := 43) (by decide) c4824
            refine lv_iconst (v := 5) hx hb dX3_readSum_40 (by decide) ?_
            refine lv_goto (tgt := 46) hx hb dX3_readSum_41 (by decide) ?_
            refine lv_istore_n (lv' := [(3, .int 5), (2, .int x2_lp4815), (0, .ref (g 7)), (1, .int 5)]) hx hb dX3_readSum_46 rfl hl (by decide) rfl (fun ls hl => ?_)
            refine lv_aload_n hx hb dX3_readSum_47 rfl (lv_at hl 2 rfl) ?_
            refine lv_dup hx hb dX3_readSum_48 rfl ?_
            refine va_get (D := (dC, dI)) (ci := 3) (v := .int (v_lp4815 143)) (C := RX3) (T := TX3) (N := 5) hx hb hwd inA_X3 hown hK hP 7 rfl rfl 3 (by decide) (hwd _ wk_853) (fun _ h9 => h9) rfl dX3_readSum_49 ?_
            refine lv_iconst (v := 1) hx hb dX3_readSum_52 (by decide) ?_
            refine lv_iadd hx hb dX3_readSum_53 ?_
            refine lv_topi (fun z4843 e4844 => ?_)
            try (have t4845 := tadd e4844 (a := (v_lp4815 143).toInt) rfl (b := 1) (by decide) (by omega))
            refine va_put (D := (dC, dI)) (ci := 3) (v := .int z4843) (ty := .int) (C := RX3) (T := TX3) (N := 5) (fs := fsX_7 g v_lp4815 (g (44 + nr))) hx hb hwd inA_X3 tyX3 tyX3_ok nmX3 hown hK hP (DX hg) hS 7 rfl rfl 3 (by decide) (hwd _ wk_853) (fun _ h9 => h9) rfl (by decide +kernel) rfl rfl (Nat.le_of_ble_eq_true rfl) dX3_readSum_54 (fun H locs hP _ hS => ?_)
            have hP := va_P_eq (pX_143 g c _ _ _ _) hP
            have hI := IX.put0 hI 143 z4843 rfl
            have hal := (alX_v _ _ 143 z4843 (by decide) (by decide) (by decide) (by decide)).trans hal
            refine lv_aload_n hx hb dX3_readSum_57 rfl (lv_at hl 2 rfl) ?_
            refine lv_iload_n hx hb dX3_readSum_58 rfl (lv_at hl 3 rfl) ?_
            refine va_callv (va_runV (As := [.int 5]) (rest := []) ⟨hx, hb, hml, hown, hwd⟩ (c_X3_readProduct_5 l dC dI g c adK adV (va_up v_lp4815 143 z4843) F_lp4815 nr H.size  hg hnr hI ) (cwV 1 hwd (gV wk_989 wk_991 wk_992 wk_993 wk_38) rfl rfl rfl (by decide +kernel) ⟨Nat.le_of_ble_eq_true rfl, Nat.le_of_ble_eq_true rfl⟩) ⟨PX.blind, va_recv hK hP (ci := 3) (q0 := 7) rfl rfl, fun U hU hW => ⟨rfl, PX.at hK hE hP hS hU hW⟩⟩ rfl rfl hl.1 rfl (lv_room (Nat.le_of_ble_eq_true rfl)) dX3_readSum_59 ⟨Nat.le_of_ble_eq_true rfl, Nat.le_of_ble_eq_true rfl⟩) hS (fun q _ h => (freeX hS) q h) (freeX hS) (fun u t H1 locs ht hvm hw hB hz1 hk1 hS => ?_)
            unfold BX at hB
            rw [ht] at hB
            obtain ⟨v4847, F4848, rc9⟩ := u
            obtain ⟨hI, hal9, hrc, hf4849, hw⟩ := hw
            dsimp only at hI hal9 hrc hB hf4849 hw
            rw [hrc] at hB
            have hal := hal9.trans hal
            have hP : va_P (dC, dI) classes (wX g c v4847 F4848 (g (44 + nr))) H1 := hB
            generalize H1 = H at hP hS ⊢
            refine lv_aload_n hx hb dX3_readSum_62 rfl (lv_at hl 2 rfl) ?_
            refine lv_iload_n hx hb dX3_readSum_63 rfl (lv_at hl 0 rfl) ?_
            refine lv_iconst (v := 0) hx hb dX3_readSum_64 (by decide) ?_
            refine va_calli (va_runV (As := [.int 5, .int 0]) (rest := []) ⟨hx, hb, hml, hown, hwd⟩ (c_X3_put l dC dI g c adK adV v4847 F4848 nr H.size 5 0 hg hnr hI (by have : (5 : Int32).toInt = 5 := (by decide); omega) (by have : (0 : Int32).toInt = 0 := (by decide); omega)) (cwV 2 hwd (gV wk_882 wk_879 wk_880 wk_881 wk_38) rfl rfl rfl (by decide +kernel) ⟨Nat.le_of_ble_eq_true rfl, Nat.le_of_ble_eq_true rfl⟩) ⟨PX.blind, va_recv hK hP (ci := 3) (q0 := 7) rfl rfl, fun U hU hW => ⟨rfl, PX.at hK hE hP hS hU hW⟩⟩ rfl rfl hl.1 rfl (lv_room (Nat.le_of_ble_eq_true rfl)) dX3_readSum_65 ⟨Nat.le_of_ble_eq_true rfl, Nat.le_of_ble_eq_true rfl⟩) hS (fun q _ h => (freeX hS) q h) (freeX hS) (fun r4850 u t H1 locs ht hvm hw hB hz1 hk1 hS => ?_)
            unfold BX at hB
            rw [ht] at hB
            obtain ⟨v4851, F4852, rc9⟩ := u
            obtain ⟨hI, hal9, hrc, hf4853, hw⟩ := hw
            dsimp only at hI hal9 hrc hB hf4853 hw
            rw [hrc] at hB
            have hal := hal9.trans hal
            have hP : va_P (dC, dI) classes (wX g c v4851 F4852 (g (44 + nr))) H1 := hB
            have hw : -1 ≤ r4850.toInt ∧ r4850.toInt ≤ 119 := hw
            have k4854 : (5 : Int32).toInt = 5 := by decide
            have k4855 : (0 : Int32).toInt = 0 := by decide
            generalize H1 = H at hP hS ⊢
            have hw_r4850 := hw
            refine lv_pop hx hb dX3_readSum_68 rfl ?_
            obtain ⟨z4856, e4857⟩ : ∃ y : Int32, y = x2_lp4815 + 1 := ⟨_, rfl⟩
            try (have t4858 := tadd e4857 rfl (b := 1) (by decide) (by omega))
            refine lv_iinc (v := z4856) (lv' := [(2, .int z4856), (3, .int 5), (0, .ref (g 7)), (1, .int 5)]) hx hb dX3_readSum_69 hl (k := 1) rfl (by rw [e4857]; rfl) (by decide) rfl (fun ls hl => ?_)
            refine lv_goto (tgt := 7) hx hb dX3_readSum_72 (by decide) ?_
            exact ih_lp4815 z4856 v4851 F4852 _ _ _ (by omega) (by omega) (frC (by decide) hf4853 (frC (by decide) hf4849 (frU (by decide) hf_lp4815))) hI hal hP hS (lv_sub hl [0, 2, 3] rfl)
        · skip
          have t4859 := cv_ne (a := r4820.toInt) rfl (b := 43) (by decide) c4821
          refine lv_aload_n hx hb dX3_readSum_22 rfl (lv_at hl 1 rfl) ?_
          refine va_calli (va_runV (As := []) (rest := []) ⟨hx, hb, hml, hown, hwd⟩ (c_X3_next l dC dI g c adK adV v_lp4815 F_lp4815 nr H.size  hg hnr hI ) (cwV 0 hwd (gV wk_866 wk_863 wk_864 wk_865 wk_38) rfl rfl rfl (by decide +kernel) ⟨Nat.le_of_ble_eq_true rfl, Nat.le_of_ble_eq_true rfl⟩) ⟨PX.blind, va_recv hK hP (ci := 3) (q0 := 7) rfl rfl, fun U hU hW => ⟨rfl, PX.at hK hE hP hS hU hW⟩⟩ rfl rfl hl.1 rfl (lv_room (Nat.le_of_ble_eq_true rfl)) dX3_readSum_23 ⟨Nat.le_of_ble_eq_true rfl, Nat.le_of_ble_eq_true rfl⟩) hS (fun q _ h => (freeX hS) q h) (freeX hS) (fun r4860 u t H1 locs ht hvm hw hB hz1 hk1 hS => ?_)
          unfold BX at hB
          rw [ht] at hB
          have hP : va_P (dC, dI) classes (wX g c v_lp4815 F_lp4815 (g (44 + nr))) H1 := hB
          generalize H1 = H at hP hS ⊢
          have rr_r4860 := i32_rng r4860
          refine lv_bipush (v := 45) hx hb dX3_readSum_26 (by decide) ?_
          refine lv_icmp_ne (tgt := 75) hx hb dX3_readSum_28 (by decide) (fun c4861 => ?_) (fun c4861 => ?_)
          · skip
            have t4862 := cv_ne (a := r4860.toInt) rfl (b := 45) (by decide) c4861
            have hP9 : va_P (dC, dI) classes (wX g c v_lp4815 F_lp4815 (g (44 + nr))) H := hP
            exact W.vret hx hb hr (fun t ht hW => ⟨⟨(v_lp4815, F_lp4815, (g (44 + nr))), rfl, ⟨hI, hal, rfl, (frC (by decide) hf_lp4815 (frC (by decide) hf4814 (fun _ _ => rfl))), trivial⟩, (by show va_P _ _ _ t.heap; rw [ht]; exact hP9)⟩, hS.F ht⟩) hS.2.2 dX3_readSum_75
          · skip
            have t4863 := cv_eq (a := r4860.toInt) rfl (b := 45) (by decide) c4861
            refine lv_aload_n hx hb dX3_readSum_31 rfl (lv_at hl 1 rfl) ?_
            refine va_calli (va_runV (As := []) (rest := []) ⟨hx, hb, hml, hown, hwd⟩ (c_X3_next l dC dI g c adK adV v_lp4815 F_lp4815 nr H.size  hg hnr hI ) (cwV 0 hwd (gV wk_866 wk_863 wk_864 wk_865 wk_38) rfl rfl rfl (by decide +kernel) ⟨Nat.le_of_ble_eq_true rfl, Nat.le_of_ble_eq_true rfl⟩) ⟨PX.blind, va_recv hK hP (ci := 3) (q0 := 7) rfl rfl, fun U hU hW => ⟨rfl, PX.at hK hE hP hS hU hW⟩⟩ rfl rfl hl.1 rfl (lv_room (Nat.le_of_ble_eq_true rfl)) dX3_readSum_32 ⟨Nat.le_of_ble_eq_true rfl, Nat.le_of_ble_eq_true rfl⟩) hS (fun q _ h => (freeX hS) q h) (freeX hS) (fun r4864 u t H1 locs ht hvm hw hB hz1 hk1 hS => ?_)
            unfold BX at hB
            rw [ht] at hB
            have hP : va_P (dC, dI) classes (wX g c v_lp4815 F_lp4815 (g (44 + nr))) H1 := hB
            generalize H1 = H at hP hS ⊢
            have rr_r4864 := i32_rng r4864
            refine lv_bipush (v := 43) hx hb dX3_readSum_35 (by decide) ?_
            refine lv_icmp_ne (tgt := 44) hx hb dX3_readSum_37 (by decide) (fun c4865 => ?_) (fun c4865 => ?_)
            · skip
              have t4866 := cv_ne (a := r4864.toInt) rfl (b := 43) (by decide) c4865
              refine lv_bipush (v := 6) hx hb dX3_readSum_44 (by decide) ?_
              refine lv_istore_n (lv' := [(3, .int 6), (2, .int x2_lp4815), (0, .ref (g 7)), (1, .int 5)]) hx hb dX3_readSum_46 rfl hl (by decide) rfl (fun ls hl => ?_)
              refine lv_aload_n hx hb dX3_readSum_47 rfl (lv_at hl 2 rfl) ?_
              refine lv_dup hx hb dX3_readSum_48 rfl ?_
              refine va_get (D := (dC, dI)) (ci := 3) (v := .int (v_lp4815 143)) (C := RX3) (T := TX3) (N := 5) hx hb hwd inA_X3 hown hK hP 7 rfl rfl 3 (by decide) (hwd _ wk_853) (fun _ h9 => h9) rfl dX3_readSum_49 ?_
              refine lv_iconst (v := 1) hx hb dX3_readSum_52 (by decide) ?_
              refine lv_iadd hx hb dX3_readSum_53 ?_
              refine lv_topi (fun z4867 e4868 => ?_)
              try (have t4869 := tadd e4868 (a := (v_lp4815 143).toInt) rfl (b := 1) (by decide) (by omega))
              refine va_put (D := (dC, dI)) (ci := 3) (v := .int z4867) (ty := .int) (C := RX3) (T := TX3) (N := 5) (fs := fsX_7 g v_lp4815 (g (44 + nr))) hx hb hwd inA_X3 tyX3 tyX3_ok nmX3 hown hK hP (DX hg) hS 7 rfl rfl 3 (by decide) (hwd _ wk_853) (fun _ h9 => h9) rfl (by decide +kernel) rfl rfl (Nat.le_of_ble_eq_true rfl) dX3_readSum_54 (fun H locs hP _ hS => ?_)
              have hP := va_P_eq (pX_143 g c _ _ _ _) hP
              have hI := IX.put0 hI 143 z4867 rfl
              have hal := (alX_v _ _ 143 z4867 (by decide) (by decide) (by decide) (by decide)).trans hal
              refine lv_aload_n hx hb dX3_readSum_57 rfl (lv_at hl 2 rfl) ?_
              refine lv_iload_n hx hb dX3_readSum_58 rfl (lv_at hl 3 rfl) ?_
              refine va_callv (va_runV (As := [.int 5]) (rest := []) ⟨hx, hb, hml, hown, hwd⟩ (c_X3_readProduct_5 l dC dI g c adK adV (va_up v_lp4815 143 z4867) F_lp4815 nr H.size  hg hnr hI ) (cwV 1 hwd (gV wk_989 wk_991 wk_992 wk_993 wk_38) rfl rfl rfl (by decide +kernel) ⟨Nat.le_of_ble_eq_true rfl, Nat.le_of_ble_eq_true rfl⟩) ⟨PX.blind, va_recv hK hP (ci := 3) (q0 := 7) rfl rfl, fun U hU hW => ⟨rfl, PX.at hK hE hP hS hU hW⟩⟩ rfl rfl hl.1 rfl (lv_room (Nat.le_of_ble_eq_true rfl)) dX3_readSum_59 ⟨Nat.le_of_ble_eq_true rfl, Nat.le_of_ble_eq_true rfl⟩) hS (fun q _ h => (freeX hS) q h) (freeX hS) (fun u t H1 locs ht hvm hw hB hz1 hk1 hS => ?_)
              unfold BX at hB
              rw [ht] at hB
              obtain ⟨v4871, F4872, rc9⟩ := u
              obtain ⟨hI, hal9, hrc, hf4873, hw⟩ := hw
              dsimp only at hI hal9 hrc hB hf4873 hw
              rw [hrc] at hB
              have hal := hal9.trans hal
              have hP : va_P (dC, dI) classes (wX g c v4871 F4872 (g (44 + nr))) H1 := hB
              generalize H1 = H at hP hS ⊢
              refine lv_aload_n hx hb dX3_readSum_62 rfl (lv_at hl 2 rfl) ?_
              refine lv_iload_n hx hb dX3_readSum_63 rfl (lv_at hl 0 rfl) ?_
              refine lv_iconst (v := 0) hx hb dX3_readSum_64 (by decide) ?_
              refine va_calli (va_runV (As := [.int 6, .int 0]) (rest := []) ⟨hx, hb, hml, hown, hwd⟩ (c_X3_put l dC dI g c adK adV v4871 F4872 nr H.size 6 0 hg hnr hI (by have : (6 : Int32).toInt = 6 := (by decide); omega) (by have : (0 : Int32).toInt = 0 := (by decide); omega)) (cwV 2 hwd (gV wk_882 wk_879 wk_880 wk_881 wk_38) rfl rfl rfl (by decide +kernel) ⟨Nat.le_of_ble_eq_true rfl, Nat.le_of_ble_eq_true rfl⟩) ⟨PX.blind, va_recv hK hP (ci := 3) (q0 := 7) rfl rfl, fun U hU hW => ⟨rfl, PX.at hK hE hP hS hU hW⟩⟩ rfl rfl hl.1 rfl (lv_room (Nat.le_of_ble_eq_true rfl)) dX3_readSum_65 ⟨Nat.le_of_ble_eq_true rfl, Nat.le_of_ble_eq_true rfl⟩) hS (fun q _ h => (freeX hS) q h) (freeX hS) (fun r4874 u t H1 locs ht hvm hw hB hz1 hk1 hS => ?_)
              unfold BX at hB
              rw [ht] at hB
              obtain ⟨v4875, F4876, rc9⟩ := u
              obtain ⟨hI, hal9, hrc, hf4877, hw⟩ := hw
              dsimp only at hI hal9 hrc hB hf4877 hw
              rw [hrc] at hB
              have hal := hal9.trans hal
              have hP : va_P (dC, dI) classes (wX g c v4875 F4876 (g (44 + nr))) H1 := hB
              have hw : -1 ≤ r4874.toInt ∧ r4874.toInt ≤ 119 := hw
              have k4878 : (6 : Int32).toInt = 6 := by decide
              have k4879 : (0 : Int32).toInt = 0 := by decide
              generalize H1 = H at hP hS ⊢
              have hw_r4874 := hw
              refine lv_pop hx hb dX3_readSum_68 rfl ?_
              obtain ⟨z4880, e4881⟩ : ∃ y : Int32, y = x2_lp4815 + 1 := ⟨_, rfl⟩
              try (have t4882 := tadd e4881 rfl (b := 1) (by decide) (by omega))
              refine lv_iinc (v := z4880) (lv' := [(2, .int z4880), (3, .int 6), (0, .ref (g 7)), (1, .int 5)]) hx hb dX3_readSum_69 hl (k := 1) rfl (by rw [e4881]; rfl) (by decide) rfl (fun ls hl => ?_)
              refine lv_goto (tgt := 7) hx hb dX3_readSum_72 (by decide) ?_
              exact ih_lp4815 z4880 v4875 F4876 _ _ _ (by omega) (by omega) (frC (by decide) hf4877 (frC (by decide) hf4873 (frU (by decide) hf_lp4815))) hI hal hP hS (lv_sub hl [0, 2, 3] rfl)
            · skip
              have t4883 := cv_eq (a := r4864.toInt) rfl (b := 43) (by decide) c4865
              refine lv_iconst (v := 5) hx hb dX3_readSum_40 (by decide) ?_
              refine lv_goto (tgt := 46) hx hb dX3_readSum_41 (by decide) ?_
              refine lv_istore_n (lv' := [(3, .int 5), (2, .int x2_lp4815), (0, .ref (g 7)), (1, .int 5)]) hx hb dX3_readSum_46 rfl hl (by decide) rfl (fun ls hl => ?_)
              refine lv_aload_n hx hb dX3_readSum_47 rfl (lv_at hl 2 rfl) ?_
              refine lv_dup hx hb dX3_readSum_48 rfl ?_
              refine va_get (D := (dC, dI)) (ci := 3) (v := .int (v_lp4815 143)) (C := RX3) (T := TX3) (N := 5) hx hb hwd inA_X3 hown hK hP 7 rfl rfl 3 (by decide) (hwd _ wk_853) (fun _ h9 => h9) rfl dX3_readSum_49 ?_
              refine lv_iconst (v := 1) hx hb dX3_readSum_52 (by decide) ?_
              refine lv_iadd hx hb dX3_readSum_53 ?_
              refine lv_topi (fun z4884 e4885 => ?_)
              try (have t4886 := tadd e4885 (a := (v_lp4815 143).toInt) rfl (b := 1) (by decide) (by omega))
              refine va_put (D := (dC, dI)) (ci := 3) (v := .int z4884) (ty := .int) (C := RX3) (T := TX3) (N := 5) (fs := fsX_7 g v_lp4815 (g (44 + nr))) hx hb hwd inA_X3 tyX3 tyX3_ok nmX3 hown hK hP (DX hg) hS 7 rfl rfl 3 (by decide) (hwd _ wk_853) (fun _ h9 => h9) rfl (by decide +kernel) rfl rfl (Nat.le_of_ble_eq_true rfl) dX3_readSum_54 (fun H locs hP _ hS => ?_)
              have hP := va_P_eq (pX_143 g c _ _ _ _) hP
              have hI := IX.put0 hI 143 z4884 rfl
              have hal := (alX_v _ _ 143 z4884 (by decide) (by decide) (by decide) (by decide)).trans hal
              refine lv_aload_n hx hb dX3_readSum_57 rfl (lv_at hl 2 rfl) ?_
              refine lv_iload_n hx hb dX3_readSum_58 rfl (lv_at hl 3 rfl) ?_
              refine va_callv (va_runV (As := [.int 5]) (rest := []) ⟨hx, hb, hml, hown, hwd⟩ (c_X3_readProduct_5 l dC dI g c adK adV (va_up v_lp4815 143 z4884) F_lp4815 nr H.size  hg hnr hI ) (cwV 1 hwd (gV wk_989 wk_991 wk_992 wk_993 wk_38) rfl rfl rfl (by decide +kernel) ⟨Nat.le_of_ble_eq_true rfl, Nat.le_of_ble_eq_true rfl⟩) ⟨PX.blind, va_recv hK hP (ci := 3) (q0 := 7) rfl rfl, fun U hU hW => ⟨rfl, PX.at hK hE hP hS hU hW⟩⟩ rfl rfl hl.1 rfl (lv_room (Nat.le_of_ble_eq_true rfl)) dX3_readSum_59 ⟨Nat.le_of_ble_eq_true rfl, Nat.le_of_ble_eq_true rfl⟩) hS (fun q _ h => (freeX hS) q h) (freeX hS) (fun u t H1 locs ht hvm hw hB hz1 hk1 hS => ?_)
              unfold BX at hB
              rw [ht] at hB
              obtain ⟨v4888, F4889, rc9⟩ := u
              obtain ⟨hI, hal9, hrc, hf4890, hw⟩ := hw
              dsimp only at hI hal9 hrc hB hf4890 hw
              rw [hrc] at hB
              have hal := hal9.trans hal
              have hP : va_P (dC, dI) classes (wX g c v4888 F4889 (g (44 + nr))) H1 := hB
              generalize H1 = H at hP hS ⊢
              refine lv_aload_n hx hb dX3_readSum_62 rfl (lv_at hl 2 rfl) ?_
              refine lv_iload_n hx hb dX3_readSum_63 rfl (lv_at hl 0 rfl) ?_
              refine lv_iconst (v := 0) hx hb dX3_readSum_64 (by decide) ?_
              refine va_calli (va_runV (As := [.int 5, .int 0]) (rest := []) ⟨hx, hb, hml, hown, hwd⟩ (c_X3_put l dC dI g c adK adV v4888 F4889 nr H.size 5 0 hg hnr hI (by have : (5 : Int32).toInt = 5 := (by decide); omega) (by have : (0 : Int32).toInt = 0 := (by decide); omega)) (cwV 2 hwd (gV wk_882 wk_879 wk_880 wk_881 wk_38) rfl rfl rfl (by decide +kernel) ⟨Nat.le_of_ble_eq_true rfl, Nat.le_of_ble_eq_true rfl⟩) ⟨PX.blind, va_recv hK hP (ci := 3) (q0 := 7) rfl rfl, fun U hU hW => ⟨rfl, PX.at hK hE hP hS hU hW⟩⟩ rfl rfl hl.1 rfl (lv_room (Nat.le_of_ble_eq_true rfl)) dX3_readSum_65 ⟨Nat.le_of_ble_eq_true rfl, Nat.le_of_ble_eq_true rfl⟩) hS (fun q _ h => (freeX hS) q h) (freeX hS) (fun r4891 u t H1 locs ht hvm hw hB hz1 hk1 hS => ?_)
              unfold BX at hB
              rw [ht] at hB
              obtain ⟨v4892, F4893, rc9⟩ := u
              obtain ⟨hI, hal9, hrc, hf4894, hw⟩ := hw
              dsimp only at hI hal9 hrc hB hf4894 hw
              rw [hrc] at hB
              have hal := hal9.trans hal
              have hP : va_P (dC, dI) classes (wX g c v4892 F4893 (g (44 + nr))) H1 := hB
              have hw : -1 ≤ r4891.toInt ∧ r4891.toInt ≤ 119 := hw
              have k4895 : (5 : Int32).toInt = 5 := by decide
              have k4896 : (0 : Int32).toInt = 0 := by decide
              generalize H1 = H at hP hS ⊢
              have hw_r4891 := hw
              refine lv_pop hx hb dX3_readSum_68 rfl ?_
              obtain ⟨z4897, e4898⟩ : ∃ y : Int32, y = x2_lp4815 + 1 := ⟨_, rfl⟩
              try (have t4899 := tadd e4898 rfl (b := 1) (by decide) (by omega))
              refine lv_iinc (v := z4897) (lv' := [(2, .int z4897), (3, .int 5), (0, .ref (g 7)), (1, .int 5)]) hx hb dX3_readSum_69 hl (k := 1) rfl (by rw [e4898]; rfl) (by decide) rfl (fun ls hl => ?_)
              refine lv_goto (tgt := 7) hx hb dX3_readSum_72 (by decide) ?_
              exact ih_lp4815 z4897 v4892 F4893 _ _ _ (by omega) (by omega) (frC (by decide) hf4894 (frC (by decide) hf4890 (frU (by decide) hf_lp4815))) hI hal hP hS (lv_sub hl [0, 2, 3] rfl)
  obtain ⟨n9, hn9⟩ : ∃ n : Nat, 2147483648 - 0 ≤ (n : Int) := ⟨((2147483648 - 0 : Int)).toNat, by omega⟩
  exact lp4815 n9 0 v4812 F4813 H _ ls (by have : (0 : Int32).toInt = 0 := (by decide); omega) (by have : (0 : Int32).toInt = 0 := (by decide); omega) (fun _ _ => rfl) hI hal hP hS hl
set_option maxHeartbeats 8000000 in
set_option maxRecDepth 100000 in
theorem c_X3_readComparison_5 (l : Launch) (dC : Nat → ClassId) (dI : Nat → Nat → Nat) (g : Nat → Nat) (c : Nat → ClassId) (adK adV : Nat → Nat) (v : Nat → Int32) (F : Nat → Nat → Int32) (nr sz : Nat) (hg : injX g) (hnr : nr < 10) (hI : IX v F) : Met l yX3_readComparison (Cond.code yX3_readComparison cX3_readComparison 3 none :: wA) ({ frames := 24, cells := 0, slots := 0, locals := 960 }) (va_Pc [.ref (g 7), .int 5] (PX dC dI g c adK adV v F (g (44 + nr)) sz)) (va_Qv (fun (u : StX) => IX u.1 u.2.1 ∧ alX u.1 u.2.1 = alX v F ∧ u.2.2 = (g (44 + nr)) ∧ (∀ k, k ∉ ([142, 143, 144] : List Nat) → u.1 k = v k) ∧ True) (BX dC dI g c) (AX g sz)) 0 0 (AX g sz) := by
  refine Met.ofW (cc := cX3_readComparison) (maxL := 3) (ret := none) (by decide) rfl ?_
  intro p e s m args below meth c0 s₁ B hml hv
  obtain ⟨rfl, hsz, hP, hK, hE⟩ := hv
  have hx := B.exec
  have hb := B.bytes
  have hr := B.returns
  have hts := atoms_spec (ws := Cond.code yX3_readComparison cX3_readComparison 3 none :: wA) B.pre
  have hwd : ∀ w ∈ wA, w.before _ s = true := fun w h => hts w (List.mem_cons_of_mem _ h)
  have hown : s.vm.findClass RX3 = some m.cls := findClass_of_methodNamed B.named
  have hlocks := B.notSynchronized
  subst hsz
  have hl := lv_entry ([.ref (g 7), .int 5]) (n := 3) (Nat.le_of_ble_eq_true rfl)
  rw [lg_entry_eq]
  generalize (lg_sl ([.ref (g 7), .int 5]) ++ List.replicate (3 - (lg_sl ([.ref (g 7), .int 5])).length) Slot.unset).toArray = ls at hl ⊢
  have hl : lv_has ls 3 [(0, .ref (g 7)), (1, .int 5)] := hl
  obtain ⟨H, eH⟩ : ∃ z, z = s.heap := ⟨_, rfl⟩
  have hP : va_P (dC, dI) classes (wX g c v F (g (44 + nr))) H := by rw [eH]; exact hP
  have hS : va_S (AX g s.heap.size) s.heap H [] := by rw [eH]; exact va_S.rf
  refine my_heap eH ?_
  have hal : alX v F = alX v F := rfl
  refine lv_aload_n hx hb dX3_readComparison_0 rfl (lv_at hl 0 rfl) ?_
  refine lv_iload_n hx hb dX3_readComparison_1 rfl (lv_at hl 1 rfl) ?_
  refine va_callv (va_runV (As := [.int 5]) (rest := []) ⟨hx, hb, hml, hown, hwd⟩ (c_X3_readSum_5 l dC dI g c adK adV v F nr H.size  hg hnr hI ) (cwV 1 hwd (gV wk_990 wk_892 wk_893 wk_894 wk_38) rfl rfl rfl (by decide +kernel) ⟨Nat.le_of_ble_eq_true rfl, Nat.le_of_ble_eq_true rfl⟩) ⟨PX.blind, va_recv hK hP (ci := 3) (q0 := 7) rfl rfl, fun U hU hW => ⟨rfl, PX.at hK hE hP hS hU hW⟩⟩ rfl rfl hl.1 rfl (lv_room (Nat.le_of_ble_eq_true rfl)) dX3_readComparison_2 ⟨Nat.le_of_ble_eq_true rfl, Nat.le_of_ble_eq_true rfl⟩) hS (fun q _ h => (freeX hS) q h) (freeX hS) (fun u t H1 locs ht hvm hw hB hz1 hk1 hS => ?_)
  unfold BX at hB
  rw [ht] at hB
  obtain ⟨v4901, F4902, rc9⟩ := u
  obtain ⟨hI, hal9, hrc, hf4903, hw⟩ := hw
  dsimp only at hI hal9 hrc hB hf4903 hw
  rw [hrc] at hB
  have hal := hal9.trans hal
  have hP : va_P (dC, dI) classes (wX g c v4901 F4902 (g (44 + nr))) H1 := hB
  generalize H1 = H at hP hS ⊢
  refine lv_aload_n hx hb dX3_readComparison_5 rfl (lv_at hl 0 rfl) ?_
  refine va_calli (va_runV (As := []) (rest := []) ⟨hx, hb, hml, hown, hwd⟩ (c_X3_next l dC dI g c adK adV v4901 F4902 nr H.size  hg hnr hI ) (cwV 0 hwd (gV wk_866 wk_863 wk_864 wk_865 wk_38) rfl rfl rfl (by decide +kernel) ⟨Nat.le_of_ble_eq_true rfl, Nat.le_of_ble_eq_true rfl⟩) ⟨PX.blind, va_recv hK hP (ci := 3) (q0 := 7) rfl rfl, fun U hU hW => ⟨rfl, PX.at hK hE hP hS hU hW⟩⟩ rfl rfl hl.1 rfl (lv_room (Nat.le_of_ble_eq_true rfl)) dX3_readComparison_6 ⟨Nat.le_of_ble_eq_true rfl, Nat.le_of_ble_eq_true rfl⟩) hS (fun q _ h => (freeX hS) q h) (freeX hS) (fun r4904 u t H1 locs ht hvm hw hB hz1 hk1 hS => ?_)
  unfold BX at hB
  rw [ht] at hB
  have hP : va_P (dC, dI) classes (wX g c v4901 F4902 (g (44 + nr))) H1 := hB
  generalize H1 = H at hP hS ⊢
  have rr_r4904 := i32_rng r4904
  refine lv_istore_n (lv' := [(2, .int r4904), (0, .ref (g 7)), (1, .int 5)]) hx hb dX3_readComparison_9 rfl hl (by decide) rfl (fun ls hl => ?_)
  refine lv_iload_n hx hb dX3_readComparison_10 rfl (lv_at hl 0 rfl) ?_
  refine lv_bipush (v := 60) hx hb dX3_readComparison_11 (by decide) ?_
  refine lv_icmp_eq (tgt := 28) hx hb dX3_readComparison_13 (by decide) (fun c4905 => ?_) (fun c4905 => ?_)
  · skip
    have t4906 := cv_eq (a := r4904.toInt) rfl (b := 60) (by decide) c4905
    refine lv_aload_n hx hb dX3_readComparison_28 rfl (lv_at hl 1 rfl) ?_
    refine lv_dup hx hb dX3_readComparison_29 rfl ?_
    refine va_get (D := (dC, dI)) (ci := 3) (v := .int (v4901 143)) (C := RX3) (T := TX3) (N := 5) hx hb hwd inA_X3 hown hK hP 7 rfl rfl 3 (by decide) (hwd _ wk_853) (fun _ h9 => h9) rfl dX3_readComparison_30 ?_
    refine lv_iconst (v := 1) hx hb dX3_readComparison_33 (by decide) ?_
    refine lv_iadd hx hb dX3_readComparison_34 ?_
    refine lv_topi (fun z4907 e4908 => ?_)
    try (have t4909 := tadd e4908 (a := (v4901 143).toInt) rfl (b := 1) (by decide) (by omega))
    refine va_put (D := (dC, dI)) (ci := 3) (v := .int z4907) (ty := .int) (C := RX3) (T := TX3) (N := 5) (fs := fsX_7 g v4901 (g (44 + nr))) hx hb hwd inA_X3 tyX3 tyX3_ok nmX3 hown hK hP (DX hg) hS 7 rfl rfl 3 (by decide) (hwd _ wk_853) (fun _ h9 => h9) rfl (by decide +kernel) rfl rfl (Nat.le_of_ble_eq_true rfl) dX3_readComparison_35 (fun H locs hP _ hS => ?_)
    have hP := va_P_eq (pX_143 g c _ _ _ _) hP
    have hI := IX.put0 hI 143 z4907 rfl
    have hal := (alX_v _ _ 143 z4907 (by decide) (by decide) (by decide) (by decide)).trans hal
    refine lv_aload_n hx hb dX3_readComparison_38 rfl (lv_at hl 1 rfl) ?_
    refine lv_iload_n hx hb dX3_readComparison_39 rfl (lv_at hl 2 rfl) ?_
    refine va_callv (va_runV (As := [.int 5]) (rest := []) ⟨hx, hb, hml, hown, hwd⟩ (c_X3_readSum_5 l dC dI g c adK adV (va_up v4901 143 z4907) F4902 nr H.size  hg hnr hI ) (cwV 1 hwd (gV wk_990 wk_892 wk_893 wk_894 wk_38) rfl rfl rfl (by decide +kernel) ⟨Nat.le_of_ble_eq_true rfl, Nat.le_of_ble_eq_true rfl⟩) ⟨PX.blind, va_recv hK hP (ci := 3) (q0 := 7) rfl rfl, fun U hU hW => ⟨rfl, PX.at hK hE hP hS hU hW⟩⟩ rfl rfl hl.1 rfl (lv_room (Nat.le_of_ble_eq_true rfl)) dX3_readComparison_40 ⟨Nat.le_of_ble_eq_true rfl, Nat.le_of_ble_eq_true rfl⟩) hS (fun q _ h => (freeX hS) q h) (freeX hS) (fun u t H1 locs ht hvm hw hB hz1 hk1 hS => ?_)
    unfold BX at hB
    rw [ht] at hB
    obtain ⟨v4911, F4912, rc9⟩ := u
    obtain ⟨hI, hal9, hrc, hf4913, hw⟩ := hw
    dsimp only at hI hal9 hrc hB hf4913 hw
    rw [hrc] at hB
    have hal := hal9.trans hal
    have hP : va_P (dC, dI) classes (wX g c v4911 F4912 (g (44 + nr))) H1 := hB
    generalize H1 = H at hP hS ⊢
    refine lv_aload_n hx hb dX3_readComparison_43 rfl (lv_at hl 1 rfl) ?_
    refine lv_iload_n hx hb dX3_readComparison_44 rfl (lv_at hl 0 rfl) ?_
    refine lv_bipush (v := 60) hx hb dX3_readComparison_45 (by decide) ?_
    refine lv_icmp_ne (tgt := 55) hx hb dX3_readComparison_47 (by decide) (fun c4914 => ?_) (fun c4914 => ?_)
    · skip
      have t4915 := cv_ne (a := r4904.toInt) rfl (b := 60) (by decide) c4914
      refine lv_iload_n hx hb dX3_readComparison_55 rfl (lv_at hl 0 rfl) ?_
      refine lv_bipush (v := 61) hx hb dX3_readComparison_56 (by decide) ?_
      refine lv_icmp_ne (tgt := 66) hx hb dX3_readComparison_58 (by decide) (fun c4916 => ?_) (fun c4916 => ?_)
      · skip
        have t4917 := cv_ne (a := r4904.toInt) rfl (b := 61) (by decide) c4916
        refine lv_bipush (v := 11) hx hb dX3_readComparison_66 (by decide) ?_
        refine lv_iconst (v := 0) hx hb dX3_readComparison_68 (by decide) ?_
        refine va_calli (va_runV (As := [.int 11, .int 0]) (rest := []) ⟨hx, hb, hml, hown, hwd⟩ (c_X3_put l dC dI g c adK adV v4911 F4912 nr H.size 11 0 hg hnr hI (by have : (11 : Int32).toInt = 11 := (by decide); omega) (by have : (0 : Int32).toInt = 0 := (by decide); omega)) (cwV 2 hwd (gV wk_882 wk_879 wk_880 wk_881 wk_38) rfl rfl rfl (by decide +kernel) ⟨Nat.le_of_ble_eq_true rfl, Nat.le_of_ble_eq_true rfl⟩) ⟨PX.blind, va_recv hK hP (ci := 3) (q0 := 7) rfl rfl, fun U hU hW => ⟨rfl, PX.at hK hE hP hS hU hW⟩⟩ rfl rfl hl.1 rfl (lv_room (Nat.le_of_ble_eq_true rfl)) dX3_readComparison_69 ⟨Nat.le_of_ble_eq_true rfl, Nat.le_of_ble_eq_true rfl⟩) hS (fun q _ h => (freeX hS) q h) (freeX hS) (fun r4918 u t H1 locs ht hvm hw hB hz1 hk1 hS => ?_)
        unfold BX at hB
        rw [ht] at hB
        obtain ⟨v4919, F4920, rc9⟩ := u
        obtain ⟨hI, hal9, hrc, hf4921, hw⟩ := hw
        dsimp only at hI hal9 hrc hB hf4921 hw
        rw [hrc] at hB
        have hal := hal9.trans hal
        have hP : va_P (dC, dI) classes (wX g c v4919 F4920 (g (44 + nr))) H1 := hB
        have hw : -1 ≤ r4918.toInt ∧ r4918.toInt ≤ 119 := hw
        have k4922 : (11 : Int32).toInt = 11 := by decide
        have k4923 : (0 : Int32).toInt = 0 := by decide
        generalize H1 = H at hP hS ⊢
        have hw_r4918 := hw
        refine lv_pop hx hb dX3_readComparison_72 rfl ?_
        have hP9 : va_P (dC, dI) classes (wX g c v4919 F4920 (g (44 + nr))) H := hP
        exact W.vret hx hb hr (fun t ht hW => ⟨⟨(v4919, F4920, (g (44 + nr))), rfl, ⟨hI, hal, rfl, (frC (by decide) hf4921 (frC (by decide) hf4913 (frU (by decide) (frC (by decide) hf4903 (fun _ _ => rfl))))), trivial⟩, (by show va_P _ _ _ t.heap; rw [ht]; exact hP9)⟩, hS.F ht⟩) hS.2.2 dX3_readComparison_73
      · skip
        have t4924 := cv_eq (a := r4904.toInt) rfl (b := 61) (by decide) c4916
        refine lv_bipush (v := 10) hx hb dX3_readComparison_61 (by decide) ?_
        refine lv_goto (tgt := 68) hx hb dX3_readComparison_63 (by decide) ?_
        refine lv_iconst (v := 0) hx hb dX3_readComparison_68 (by decide) ?_
        refine va_calli (va_runV (As := [.int 10, .int 0]) (rest := []) ⟨hx, hb, hml, hown, hwd⟩ (c_X3_put l dC dI g c adK adV v4911 F4912 nr H.size 10 0 hg hnr hI (by have : (10 : Int32).toInt = 10 := (by decide); omega) (by have : (0 : Int32).toInt = 0 := (by decide); omega)) (cwV 2 hwd (gV wk_882 wk_879 wk_880 wk_881 wk_38) rfl rfl rfl (by decide +kernel) ⟨Nat.le_of_ble_eq_true rfl, Nat.le_of_ble_eq_true rfl⟩) ⟨PX.blind, va_recv hK hP (ci := 3) (q0 := 7) rfl rfl, fun U hU hW => ⟨rfl, PX.at hK hE hP hS hU hW⟩⟩ rfl rfl hl.1 rfl (lv_room (Nat.le_of_ble_eq_true rfl)) dX3_readComparison_69 ⟨Nat.le_of_ble_eq_true rfl, Nat.le_of_ble_eq_true rfl⟩) hS (fun q _ h => (freeX hS) q h) (freeX hS) (fun r4925 u t H1 locs ht hvm hw hB hz1 hk1 hS => ?_)
        unfold BX at hB
        rw [ht] at hB
        obtain ⟨v4926, F4927, rc9⟩ := u
        obtain ⟨hI, hal9, hrc, hf4928, hw⟩ := hw
        dsimp only at hI hal9 hrc hB hf4928 hw
        rw [hrc] at hB
        have hal := hal9.trans hal
        have hP : va_P (dC, dI) classes (wX g c v4926 F4927 (g (44 + nr))) H1 := hB
        have hw : -1 ≤ r4925.toInt ∧ r4925.toInt ≤ 119 := hw
        have k4929 : (10 : Int32).toInt = 10 := by decide
        have k4930 : (0 : Int32).toInt = 0 := by decide
        generalize H1 = H at hP hS ⊢
        have hw_r4925 := hw
        refine lv_pop hx hb dX3_readComparison_72 rfl ?_
        have hP9 : va_P (dC, dI) classes (wX g c v4926 F4927 (g (44 + nr))) H := hP
        exact W.vret hx hb hr (fun t ht hW => ⟨⟨(v4926, F4927, (g (44 + nr))), rfl, ⟨hI, hal, rfl, (frC (by decide) hf4928 (frC (by decide) hf4913 (frU (by decide) (frC (by decide) hf4903 (fun _ _ => rfl))))), trivial⟩, (by show va_P _ _ _ t.heap; rw [ht]; exact hP9)⟩, hS.F ht⟩) hS.2.2 dX3_readComparison_73
    · skip
      have t4931 := cv_eq (a := r4904.toInt) rfl (b := 60) (by decide) c4914
      refine lv_bipush (v := 9) hx hb dX3_readComparison_50 (by decide) ?_
      refine lv_goto (tgt := 68) hx hb dX3_readComparison_52 (by decide) ?_
      refine lv_iconst (v := 0) hx hb dX3_readComparison_68 (by decide) ?_
      refine va_calli (va_runV (As := [.int 9, .int 0]) (rest := []) ⟨hx, hb, hml, hown, hwd⟩ (c_X3_put l dC dI g c adK adV v4911 F4912 nr H.size 9 0 hg hnr hI (by have : (9 : Int32).toInt = 9 := (by decide); omega) (by have : (0 : Int32).toInt = 0 := (by decide); omega)) (cwV 2 hwd (gV wk_882 wk_879 wk_880 wk_881 wk_38) rfl rfl rfl (by decide +kernel) ⟨Nat.le_of_ble_eq_true rfl, Nat.le_of_ble_eq_true rfl⟩) ⟨PX.blind, va_recv hK hP (ci := 3) (q0 := 7) rfl rfl, fun U hU hW => ⟨rfl, PX.at hK hE hP hS hU hW⟩⟩ rfl rfl hl.1 rfl (lv_room (Nat.le_of_ble_eq_true rfl)) dX3_readComparison_69 ⟨Nat.le_of_ble_eq_true rfl, Nat.le_of_ble_eq_true rfl⟩) hS (fun q _ h => (freeX hS) q h) (freeX hS) (fun r4932 u t H1 locs ht hvm hw hB hz1 hk1 hS => ?_)
      unfold BX at hB
      rw [ht] at hB
      obtain ⟨v4933, F4934, rc9⟩ := u
      obtain ⟨hI, hal9, hrc, hf4935, hw⟩ := hw
      dsimp only at hI hal9 hrc hB hf4935 hw
      rw [hrc] at hB
      have hal := hal9.trans hal
      have hP : va_P (dC, dI) classes (wX g c v4933 F4934 (g (44 + nr))) H1 := hB
      have hw : -1 ≤ r4932.toInt ∧ r4932.toInt ≤ 119 := hw
      have k4936 : (9 : Int32).toInt = 9 := by decide
      have k4937 : (0 : Int32).toInt = 0 := by decide
      generalize H1 = H at hP hS ⊢
      have hw_r4932 := hw
      refine lv_pop hx hb dX3_readComparison_72 rfl ?_
      have hP9 : va_P (dC, dI) classes (wX g c v4933 F4934 (g (44 + nr))) H := hP
      exact W.vret hx hb hr (fun t ht hW => ⟨⟨(v4933, F4934, (g (44 + nr))), rfl, ⟨hI, hal, rfl, (frC (by decide) hf4935 (frC (by decide) hf4913 (frU (by decide) (frC (by decide) hf4903 (fun _ _ => rfl))))), trivial⟩, (by show va_P _ _ _ t.heap; rw [ht]; exact hP9)⟩, hS.F ht⟩) hS.2.2 dX3_readComparison_73
  · skip
    have t4938 := cv_ne (a := r4904.toInt) rfl (b := 60) (by decide) c4905
    refine lv_iload_n hx hb dX3_readComparison_16 rfl (lv_at hl 0 rfl) ?_
    refine lv_bipush (v := 61) hx hb dX3_readComparison_17 (by decide) ?_
    refine lv_icmp_eq (tgt := 28) hx hb dX3_readComparison_19 (by decide) (fun c4939 => ?_) (fun c4939 => ?_)
    · skip
      have t4940 := cv_eq (a := r4904.toInt) rfl (b := 61) (by decide) c4939
      refine lv_aload_n hx hb dX3_readComparison_28 rfl (lv_at hl 1 rfl) ?_
      refine lv_dup hx hb dX3_readComparison_29 rfl ?_
      refine va_get (D := (dC, dI)) (ci := 3) (v := .int (v4901 143)) (C := RX3) (T := TX3) (N := 5) hx hb hwd inA_X3 hown hK hP 7 rfl rfl 3 (by decide) (hwd _ wk_853) (fun _ h9 => h9) rfl dX3_readComparison_30 ?_
      refine lv_iconst (v := 1) hx hb dX3_readComparison_33 (by decide) ?_
      refine lv_iadd hx hb dX3_readComparison_34 ?_
      refine lv_topi (fun z4941 e4942 => ?_)
      try (have t4943 := tadd e4942 (a := (v4901 143).toInt) rfl (b := 1) (by decide) (by omega))
      refine va_put (D := (dC, dI)) (ci := 3) (v := .int z4941) (ty := .int) (C := RX3) (T := TX3) (N := 5) (fs := fsX_7 g v4901 (g (44 + nr))) hx hb hwd inA_X3 tyX3 tyX3_ok nmX3 hown hK hP (DX hg) hS 7 rfl rfl 3 (by decide) (hwd _ wk_853) (fun _ h9 => h9) rfl (by decide +kernel) rfl rfl (Nat.le_of_ble_eq_true rfl) dX3_readComparison_35 (fun H locs hP _ hS => ?_)
      have hP := va_P_eq (pX_143 g c _ _ _ _) hP
      have hI := IX.put0 hI 143 z4941 rfl
      have hal := (alX_v _ _ 143 z4941 (by decide) (by decide) (by decide) (by decide)).trans hal
      refine lv_aload_n hx hb dX3_readComparison_38 rfl (lv_at hl 1 rfl) ?_
      refine lv_iload_n hx hb dX3_readComparison_39 rfl (lv_at hl 2 rfl) ?_
      refine va_callv (va_runV (As := [.int 5]) (rest := []) ⟨hx, hb, hml, hown, hwd⟩ (c_X3_readSum_5 l dC dI g c adK adV (va_up v4901 143 z4941) F4902 nr H.size  hg hnr hI ) (cwV 1 hwd (gV wk_990 wk_892 wk_893 wk_894 wk_38) rfl rfl rfl (by decide +kernel) ⟨Nat.le_of_ble_eq_true rfl, Nat.le_of_ble_eq_true rfl⟩) ⟨PX.blind, va_recv hK hP (ci := 3) (q0 := 7) rfl rfl, fun U hU hW => ⟨rfl, PX.at hK hE hP hS hU hW⟩⟩ rfl rfl hl.1 rfl (lv_room (Nat.le_of_ble_eq_true rfl)) dX3_readComparison_40 ⟨Nat.le_of_ble_eq_true rfl, Nat.le_of_ble_eq_true rfl⟩) hS (fun q _ h => (freeX hS) q h) (freeX hS) (fun u t H1 locs ht hvm hw hB hz1 hk1 hS => ?_)
      unfold BX at hB
      rw [ht] at hB
      obtain ⟨v4945, F4946, rc9⟩ := u
      obtain ⟨hI, hal9, hrc, hf4947, hw⟩ := hw
      dsimp only at hI hal9 hrc hB hf4947 hw
      rw [hrc] at hB
      have hal := hal9.trans hal
      have hP : va_P (dC, dI) classes (wX g c v4945 F4946 (g (44 + nr))) H1 := hB
      generalize H1 = H at hP hS ⊢
      refine lv_aload_n hx hb dX3_readComparison_43 rfl (lv_at hl 1 rfl) ?_
      refine lv_iload_n hx hb dX3_readComparison_44 rfl (lv_at hl 0 rfl) ?_
      refine lv_bipush (v := 60) hx hb dX3_readComparison_45 (by decide) ?_
      refine lv_icmp_ne (tgt := 55) hx hb dX3_readComparison_47 (by decide) (fun c4948 => ?_) (fun c4948 => ?_)
      · skip
        have t4949 := cv_ne (a := r4904.toInt) rfl (b := 60) (by decide) c4948
        refine lv_iload_n hx hb dX3_readComparison_55 rfl (lv_at hl 0 rfl) ?_
        refine lv_bipush (v := 61) hx hb dX3_readComparison_56 (by decide) ?_
        refine lv_icmp_ne (tgt := 66) hx hb dX3_readComparison_58 (by decide) (fun c4950 => ?_) (fun c4950 => ?_)
        · skip
          have t4951 := cv_ne (a := r4904.toInt) rfl (b := 61) (by decide) c4950
          refine lv_bipush (v := 11) hx hb dX3_readComparison_66 (by decide) ?_
          refine lv_iconst (v := 0) hx hb dX3_readComparison_68 (by decide) ?_
          refine va_calli (va_runV (As := [.int 11, .int 0]) (rest := []) ⟨hx, hb, hml, hown, hwd⟩ (c_X3_put l dC dI g c adK adV v4945 F4946 nr H.size 11 0 hg hnr hI (by have : (11 : Int32).toInt = 11 := (by decide); omega) (by have : (0 : Int32).toInt = 0 := (by decide); omega)) (cwV 2 hwd (gV wk_882 wk_879 wk_880 wk_881 wk_38) rfl rfl rfl (by decide +kernel) ⟨Nat.le_of_ble_eq_true rfl, Nat.le_of_ble_eq_true rfl⟩) ⟨PX.blind, va_recv hK hP (ci := 3) (q0 := 7) rfl rfl, fun U hU hW => ⟨rfl, PX.at hK hE hP hS hU hW⟩⟩ rfl rfl hl.1 rfl (lv_room (Nat.le_of_ble_eq_true rfl)) dX3_readComparison_69 ⟨Nat.le_of_ble_eq_true rfl, Nat.le_of_ble_eq_true rfl⟩) hS (fun q _ h => (freeX hS) q h) (freeX hS) (fun r4952 u t H1 locs ht hvm hw hB hz1 hk1 hS => ?_)
          unfold BX at hB
          rw [ht] at hB
          obtain ⟨v4953, F4954, rc9⟩ := u
          obtain ⟨hI, hal9, hrc, hf4955, hw⟩ := hw
          dsimp only at hI hal9 hrc hB hf4955 hw
          rw [hrc] at hB
          have hal := hal9.trans hal
          have hP : va_P (dC, dI) classes (wX g c v4953 F4954 (g (44 + nr))) H1 := hB
          have hw : -1 ≤ r4952.toInt ∧ r4952.toInt ≤ 119 := hw
          have k4956 : (11 : Int32).toInt = 11 := by decide
          have k4957 : (0 : Int32).toInt = 0 := by decide
          generalize H1 = H at hP hS ⊢
          have hw_r4952 := hw
          refine lv_pop hx hb dX3_readComparison_72 rfl ?_
          have hP9 : va_P (dC, dI) classes (wX g c v4953 F4954 (g (44 + nr))) H := hP
          exact W.vret hx hb hr (fun t ht hW => ⟨⟨(v4953, F4954, (g (44 + nr))), rfl, ⟨hI, hal, rfl, (frC (by decide) hf4955 (frC (by decide) hf4947 (frU (by decide) (frC (by decide) hf4903 (fun _ _ => rfl))))), trivial⟩, (by show va_P _ _ _ t.heap; rw [ht]; exact hP9)⟩, hS.F ht⟩) hS.2.2 dX3_readComparison_73
        · skip
          have t4958 := cv_eq (a := r4904.toInt) rfl (b := 61) (by decide) c4950
          refine lv_bipush (v := 10) hx hb dX3_readComparison_61 (by decide) ?_
          refine lv_goto (tgt := 68) hx hb dX3_readComparison_63 (by decide) ?_
          refine lv_iconst (v := 0) hx hb dX3_readComparison_68 (by decide) ?_
          refine va_calli (va_runV (As := [.int 10, .int 0]) (rest := []) ⟨hx, hb, hml, hown, hwd⟩ (c_X3_put l dC dI g c adK adV v4945 F4946 nr H.size 10 0 hg hnr hI (by have : (10 : Int32).toInt = 10 := (by decide); omega) (by have : (0 : Int32).toInt = 0 := (by decide); omega)) (cwV 2 hwd (gV wk_882 wk_879 wk_880 wk_881 wk_38) rfl rfl rfl (by decide +kernel) ⟨Nat.le_of_ble_eq_true rfl, Nat.le_of_ble_eq_true rfl⟩) ⟨PX.blind, va_recv hK hP (ci := 3) (q0 := 7) rfl rfl, fun U hU hW => ⟨rfl, PX.at hK hE hP hS hU hW⟩⟩ rfl rfl hl.1 rfl (lv_room (Nat.le_of_ble_eq_true rfl)) dX3_readComparison_69 ⟨Nat.le_of_ble_eq_true rfl, Nat.le_of_ble_eq_true rfl⟩) hS (fun q _ h => (freeX hS) q h) (freeX hS) (fun r4959 u t H1 locs ht hvm hw hB hz1 hk1 hS => ?_)
          unfold BX at hB
          rw [ht] at hB
          obtain ⟨v4960, F4961, rc9⟩ := u
          obtain ⟨hI, hal9, hrc, hf4962, hw⟩ := hw
          dsimp only at hI hal9 hrc hB hf4962 hw
          rw [hrc] at hB
          have hal := hal9.trans hal
          have hP : va_P (dC, dI) classes (wX g c v4960 F4961 (g (44 + nr))) H1 := hB
          have hw : -1 ≤ r4959.toInt ∧ r4959.toInt ≤ 119 := hw
          have k4963 : (10 : Int32).toInt = 10 := by decide
          have k4964 : (0 : Int32).toInt = 0 := by decide
          generalize H1 = H at hP hS ⊢
          have hw_r4959 := hw
          refine lv_pop hx hb dX3_readComparison_72 rfl ?_
          have hP9 : va_P (dC, dI) classes (wX g c v4960 F4961 (g (44 + nr))) H := hP
          exact W.vret hx hb hr (fun t ht hW => ⟨⟨(v4960, F4961, (g (44 + nr))), rfl, ⟨hI, hal, rfl, (frC (by decide) hf4962 (frC (by decide) hf4947 (frU (by decide) (frC (by decide) hf4903 (fun _ _ => rfl))))), trivial⟩, (by show va_P _ _ _ t.heap; rw [ht]; exact hP9)⟩, hS.F ht⟩) hS.2.2 dX3_readComparison_73
      · skip
        have t4965 := cv_eq (a := r4904.toInt) rfl (b := 60) (by decide) c4948
        refine lv_bipush (v := 9) hx hb dX3_readComparison_50 (by decide) ?_
        refine lv_goto (tgt := 68) hx hb dX3_readComparison_52 (by decide) ?_
        refine lv_iconst (v := 0) hx hb dX3_readComparison_68 (by decide) ?_
        refine va_calli (va_runV (As := [.int 9, .int 0]) (rest := []) ⟨hx, hb, hml, hown, hwd⟩ (c_X3_put l dC dI g c adK adV v4945 F4946 nr H.size 9 0 hg hnr hI (by have : (9 : Int32).toInt = 9 := (by decide); omega) (by have : (0 : Int32).toInt = 0 := (by decide); omega)) (cwV 2 hwd (gV wk_882 wk_879 wk_880 wk_881 wk_38) rfl rfl rfl (by decide +kernel) ⟨Nat.le_of_ble_eq_true rfl, Nat.le_of_ble_eq_true rfl⟩) ⟨PX.blind, va_recv hK hP (ci := 3) (q0 := 7) rfl rfl, fun U hU hW => ⟨rfl, PX.at hK hE hP hS hU hW⟩⟩ rfl rfl hl.1 rfl (lv_room (Nat.le_of_ble_eq_true rfl)) dX3_readComparison_69 ⟨Nat.le_of_ble_eq_true rfl, Nat.le_of_ble_eq_true rfl⟩) hS (fun q _ h => (freeX hS) q h) (freeX hS) (fun r4966 u t H1 locs ht hvm hw hB hz1 hk1 hS => ?_)
        unfold BX at hB
        rw [ht] at hB
        obtain ⟨v4967, F4968, rc9⟩ := u
        obtain ⟨hI, hal9, hrc, hf4969, hw⟩ := hw
        dsimp only at hI hal9 hrc hB hf4969 hw
        rw [hrc] at hB
        have hal := hal9.trans hal
        have hP : va_P (dC, dI) classes (wX g c v4967 F4968 (g (44 + nr))) H1 := hB
        have hw : -1 ≤ r4966.toInt ∧ r4966.toInt ≤ 119 := hw
        have k4970 : (9 : Int32).toInt = 9 := by decide
        have k4971 : (0 : Int32).toInt = 0 := by decide
        generalize H1 = H at hP hS ⊢
        have hw_r4966 := hw
        refine lv_pop hx hb dX3_readComparison_72 rfl ?_
        have hP9 : va_P (dC, dI) classes (wX g c v4967 F4968 (g (44 + nr))) H := hP
        exact W.vret hx hb hr (fun t ht hW => ⟨⟨(v4967, F4968, (g (44 + nr))), rfl, ⟨hI, hal, rfl, (frC (by decide) hf4969 (frC (by decide) hf4947 (frU (by decide) (frC (by decide) hf4903 (fun _ _ => rfl))))), trivial⟩, (by show va_P _ _ _ t.heap; rw [ht]; exact hP9)⟩, hS.F ht⟩) hS.2.2 dX3_readComparison_73
    · skip
      have t4972 := cv_ne (a := r4904.toInt) rfl (b := 61) (by decide) c4939
      refine lv_iload_n hx hb dX3_readComparison_22 rfl (lv_at hl 0 rfl) ?_
      refine lv_bipush (v := 62) hx hb dX3_readComparison_23 (by decide) ?_
      refine lv_icmp_ne (tgt := 73) hx hb dX3_readComparison_25 (by decide) (fun c4973 => ?_) (fun c4973 => ?_)
      · skip
        have t4974 := cv_ne (a := r4904.toInt) rfl (b := 62) (by decide) c4973
        have hP9 : va_P (dC, dI) classes (wX g c v4901 F4902 (g (44 + nr))) H := hP
        exact W.vret hx hb hr (fun t ht hW => ⟨⟨(v4901, F4902, (g (44 + nr))), rfl, ⟨hI, hal, rfl, (frC (by decide) hf4903 (fun _ _ => rfl)), trivial⟩, (by show va_P _ _ _ t.heap; rw [ht]; exact hP9)⟩, hS.F ht⟩) hS.2.2 dX3_readComparison_73
      · skip
        have t4975 := cv_eq (a := r4904.toInt) rfl (b := 62) (by decide) c4973
        refine lv_aload_n hx hb dX3_readComparison_28 rfl (lv_at hl 1 rfl) ?_
        refine lv_dup hx hb dX3_readComparison_29 rfl ?_
        refine va_get (D := (dC, dI)) (ci := 3) (v := .int (v4901 143)) (C := RX3) (T := TX3) (N := 5) hx hb hwd inA_X3 hown hK hP 7 rfl rfl 3 (by decide) (hwd _ wk_853) (fun _ h9 => h9) rfl dX3_readComparison_30 ?_
        refine lv_iconst (v := 1) hx hb dX3_readComparison_33 (by decide) ?_
        refine lv_iadd hx hb dX3_readComparison_34 ?_
        refine lv_topi (fun z4976 e4977 => ?_)
        try (have t4978 := tadd e4977 (a := (v4901 143).toInt) rfl (b := 1) (by decide) (by omega))
        refine va_put (D := (dC, dI)) (ci := 3) (v := .int z4976) (ty := .int) (C := RX3) (T := TX3) (N := 5) (fs := fsX_7 g v4901 (g (44 + nr))) hx hb hwd inA_X3 tyX3 tyX3_ok nmX3 hown hK hP (DX hg) hS 7 rfl rfl 3 (by decide) (hwd _ wk_853) (fun _ h9 => h9) rfl (by decide +kernel) rfl rfl (Nat.le_of_ble_eq_true rfl) dX3_readComparison_35 (fun H locs hP _ hS => ?_)
        have hP := va_P_eq (pX_143 g c _ _ _ _) hP
        have hI := IX.put0 hI 143 z4976 rfl
        have hal := (alX_v _ _ 143 z4976 (by decide) (by decide) (by decide) (by decide)).trans hal
        refine lv_aload_n hx hb dX3_readComparison_38 rfl (lv_at hl 1 rfl) ?_
        refine lv_iload_n hx hb dX3_readComparison_39 rfl (lv_at hl 2 rfl) ?_
        refine va_callv (va_runV (As := [.int 5]) (rest := []) ⟨hx, hb, hml, hown, hwd⟩ (c_X3_readSum_5 l dC dI g c adK adV (va_up v4901 143 z4976) F4902 nr H.size  hg hnr hI ) (cwV 1 hwd (gV wk_990 wk_892 wk_893 wk_894 wk_38) rfl rfl rfl (by decide +kernel) ⟨Nat.le_of_ble_eq_true rfl, Nat.le_of_ble_eq_true rfl⟩) ⟨PX.blind, va_recv hK hP (ci := 3) (q0 := 7) rfl rfl, fun U hU hW => ⟨rfl, PX.at hK hE hP hS hU hW⟩⟩ rfl rfl hl.1 rfl (lv_room (Nat.le_of_ble_eq_true rfl)) dX3_readComparison_40 ⟨Nat.le_of_ble_eq_true rfl, Nat.le_of_ble_eq_true rfl⟩) hS (fun q _ h => (freeX hS) q h) (freeX hS) (fun u t H1 locs ht hvm hw hB hz1 hk1 hS => ?_)
        unfold BX at hB
        rw [ht] at hB
        obtain ⟨v4980, F4981, rc9⟩ := u
        obtain ⟨hI, hal9, hrc, hf4982, hw⟩ := hw
        dsimp only at hI hal9 hrc hB hf4982 hw
        rw [hrc] at hB
        have hal := hal9.trans hal
        have hP : va_P (dC, dI) classes (wX g c v4980 F4981 (g (44 + nr))) H1 := hB
        generalize H1 = H at hP hS ⊢
        refine lv_aload_n hx hb dX3_readComparison_43 rfl (lv_at hl 1 rfl) ?_
        refine lv_iload_n hx hb dX3_readComparison_44 rfl (lv_at hl 0 rfl) ?_
        refine lv_bipush (v := 60) hx hb dX3_readComparison_45 (by decide) ?_
        refine lv_icmp_ne (tgt := 55) hx hb dX3_readComparison_47 (by decide) (fun c4983 => ?_) (fun c4983 => ?_)
        · skip
          have t4984 := cv_ne (a := r4904.toInt) rfl (b := 60) (by decide) c4983
          refine lv_iload_n hx hb dX3_readComparison_55 rfl (lv_at hl 0 rfl) ?_
          refine lv_bipush (v := 61) hx hb dX3_readComparison_56 (by decide) ?_
          refine lv_icmp_ne (tgt := 66) hx hb dX3_readComparison_58 (by decide) (fun c4985 => ?_) (fun c4985 => ?_)
          · skip
            have t4986 := cv_ne (a := r4904.toInt) rfl (b := 61) (by decide) c4985
            refine lv_bipush (v := 11) hx hb dX3_readComparison_66 (by decide) ?_
            refine lv_iconst (v := 0) hx hb dX3_readComparison_68 (by decide) ?_
            refine va_calli (va_runV (As := [.int 11, .int 0]) (rest := []) ⟨hx, hb, hml, hown, hwd⟩ (c_X3_put l dC dI g c adK adV v4980 F4981 nr H.size 11 0 hg hnr hI (by have : (11 : Int32).toInt = 11 := (by decide); omega) (by have : (0 : Int32).toInt = 0 := (by decide); omega)) (cwV 2 hwd (gV wk_882 wk_879 wk_880 wk_881 wk_38) rfl rfl rfl (by decide +kernel) ⟨Nat.le_of_ble_eq_true rfl, Nat.le_of_ble_eq_true rfl⟩) ⟨PX.blind, va_recv hK hP (ci := 3) (q0 := 7) rfl rfl, fun U hU hW => ⟨rfl, PX.at hK hE hP hS hU hW⟩⟩ rfl rfl hl.1 rfl (lv_room (Nat.le_of_ble_eq_true rfl)) dX3_readComparison_69 ⟨Nat.le_of_ble_eq_true rfl, Nat.le_of_ble_eq_true rfl⟩) hS (fun q _ h => (freeX hS) q h) (freeX hS) (fun r4987 u t H1 locs ht hvm hw hB hz1 hk1 hS => ?_)
            unfold BX at hB
            rw [ht] at hB
            obtain ⟨v4988, F4989, rc9⟩ := u
            obtain ⟨hI, hal9, hrc, hf4990, hw⟩ := hw
            dsimp only at hI hal9 hrc hB hf4990 hw
            rw [hrc] at hB
            have hal := hal9.trans hal
            have hP : va_P (dC, dI) classes (wX g c v4988 F4989 (g (44 + nr))) H1 := hB
            have hw : -1 ≤ r4987.toInt ∧ r4987.toInt ≤ 119 := hw
            have k4991 : (11 : Int32).toInt = 11 := by decide
            have k4992 : (0 : Int32).toInt = 0 := by decide
            generalize H1 = H at hP hS ⊢
            have hw_r4987 := hw
            refine lv_pop hx hb dX3_readComparison_72 rfl ?_
            have hP9 : va_P (dC, dI) classes (wX g c v4988 F4989 (g (44 + nr))) H := hP
            exact W.vret hx hb hr (fun t ht hW => ⟨⟨(v4988, F4989, (g (44 + nr))), rfl, ⟨hI, hal, rfl, (frC (by decide) hf4990 (frC (by decide) hf4982 (frU (by decide) (frC (by decide) hf4903 (fun _ _ => rfl))))), trivial⟩, (by show va_P _ _ _ t.heap; rw [ht]; exact hP9)⟩, hS.F ht⟩) hS.2.2 dX3_readComparison_73
          · skip
            have t4993 := cv_eq (a := r4904.toInt) rfl (b := 61) (by decide) c4985
            refine lv_bipush (v := 10) hx hb dX3_readComparison_61 (by decide) ?_
            refine lv_goto (tgt := 68) hx hb dX3_readComparison_63 (by decide) ?_
            refine lv_iconst (v := 0) hx hb dX3_readComparison_68 (by decide) ?_
            refine va_calli (va_runV (As := [.int 10, .int 0]) (rest := []) ⟨hx, hb, hml, hown, hwd⟩ (c_X3_put l dC dI g c adK adV v4980 F4981 nr H.size 10 0 hg hnr hI (by have : (10 : Int32).toInt = 10 := (by decide); omega) (by have : (0 : Int32).toInt = 0 := (by decide); omega)) (cwV 2 hwd (gV wk_882 wk_879 wk_880 wk_881 wk_38) rfl rfl rfl (by decide +kernel) ⟨Nat.le_of_ble_eq_true rfl, Nat.le_of_ble_eq_true rfl⟩) ⟨PX.blind, va_recv hK hP (ci := 3) (q0 := 7) rfl rfl, fun U hU hW => ⟨rfl, PX.at hK hE hP hS hU hW⟩⟩ rfl rfl hl.1 rfl (lv_room (Nat.le_of_ble_eq_true rfl)) dX3_readComparison_69 ⟨Nat.le_of_ble_eq_true rfl, Nat.le_of_ble_eq_true rfl⟩) hS (fun q _ h => (freeX hS) q h) (freeX hS) (fun r4994 u t H1 locs ht hvm hw hB hz1 hk1 hS => ?_)
            unfold BX at hB
            rw [ht] at hB
            obtain ⟨v4995, F4996, rc9⟩ := u
            obtain ⟨hI, hal9, hrc, hf4997, hw⟩ := hw
            dsimp only at hI hal9 hrc hB hf4997 hw
            rw [hrc] at hB
            have hal := hal9.trans hal
            have hP : va_P (dC, dI) classes (wX g c v4995 F4996 (g (44 + nr))) H1 := hB
            have hw : -1 ≤ r4994.toInt ∧ r4994.toInt ≤ 119 := hw
            have k4998 : (10 : Int32).toInt = 10 := by decide
            have k4999 : (0 : Int32).toInt = 0 := by decide
            generalize H1 = H at hP hS ⊢
            have hw_r4994 := hw
            refine lv_pop hx hb dX3_readComparison_72 rfl ?_
            have hP9 : va_P (dC, dI) classes (wX g c v4995 F4996 (g (44 + nr))) H := hP
            exact W.vret hx hb hr (fun t ht hW => ⟨⟨(v4995, F4996, (g (44 + nr))), rfl, ⟨hI, hal, rfl, (frC (by decide) hf4997 (frC (by decide) hf4982 (frU (by decide) (frC (by decide) hf4903 (fun _ _ => rfl))))), trivial⟩, (by show va_P _ _ _ t.heap; rw [ht]; exact hP9)⟩, hS.F ht⟩) hS.2.2 dX3_readComparison_73
        · skip
          have t5000 := cv_eq (a := r4904.toInt) rfl (b := 60) (by decide) c4983
          refine lv_bipush (v := 9) hx hb dX3_readComparison_50 (by decide) ?_
          refine lv_goto (tgt := 68) hx hb dX3_readComparison_52 (by decide) ?_
          refine lv_iconst (v := 0) hx hb dX3_readComparison_68 (by decide) ?_
          refine va_calli (va_runV (As := [.int 9, .int 0]) (rest := []) ⟨hx, hb, hml, hown, hwd⟩ (c_X3_put l dC dI g c adK adV v4980 F4981 nr H.size 9 0 hg hnr hI (by have : (9 : Int32).toInt = 9 := (by decide); omega) (by have : (0 : Int32).toInt = 0 := (by decide); omega)) (cwV 2 hwd (gV wk_882 wk_879 wk_880 wk_881 wk_38) rfl rfl rfl (by decide +kernel) ⟨Nat.le_of_ble_eq_true rfl, Nat.le_of_ble_eq_true rfl⟩) ⟨PX.blind, va_recv hK hP (ci := 3) (q0 := 7) rfl rfl, fun U hU hW => ⟨rfl, PX.at hK hE hP hS hU hW⟩⟩ rfl rfl hl.1 rfl (lv_room (Nat.le_of_ble_eq_true rfl)) dX3_readComparison_69 ⟨Nat.le_of_ble_eq_true rfl, Nat.le_of_ble_eq_true rfl⟩) hS (fun q _ h => (freeX hS) q h) (freeX hS) (fun r5001 u t H1 locs ht hvm hw hB hz1 hk1 hS => ?_)
          unfold BX at hB
          rw [ht] at hB
          obtain ⟨v5002, F5003, rc9⟩ := u
          obtain ⟨hI, hal9, hrc, hf5004, hw⟩ := hw
          dsimp only at hI hal9 hrc hB hf5004 hw
          rw [hrc] at hB
          have hal := hal9.trans hal
          have hP : va_P (dC, dI) classes (wX g c v5002 F5003 (g (44 + nr))) H1 := hB
          have hw : -1 ≤ r5001.toInt ∧ r5001.toInt ≤ 119 := hw
          have k5005 : (9 : Int32).toInt = 9 := by decide
          have k5006 : (0 : Int32).toInt = 0 := by decide
          generalize H1 = H at hP hS ⊢
          have hw_r5001 := hw
          refine lv_pop hx hb dX3_readComparison_72 rfl ?_
          have hP9 : va_P (dC, dI) classes (wX g c v5002 F5003 (g (44 + nr))) H := hP
          exact W.vret hx hb hr (fun t ht hW => ⟨⟨(v5002, F5003, (g (44 + nr))), rfl, ⟨hI, hal, rfl, (frC (by decide) hf5004 (frC (by decide) hf4982 (frU (by decide) (frC (by decide) hf4903 (fun _ _ => rfl))))), trivial⟩, (by show va_P _ _ _ t.heap; rw [ht]; exact hP9)⟩, hS.F ht⟩) hS.2.2 dX3_readComparison_73
set_option maxHeartbeats 8000000 in
set_option maxRecDepth 100000 in
theorem c_X3_readChoice_5 (l : Launch) (dC : Nat → ClassId) (dI : Nat → Nat → Nat) (g : Nat → Nat) (c : Nat → ClassId) (adK adV : Nat → Nat) (v : Nat → Int32) (F : Nat → Nat → Int32) (nr sz : Nat) (hg : injX g) (hnr : nr < 10) (hI : IX v F) : Met l yX3_readChoice (Cond.code yX3_readChoice cX3_readChoice 4 none :: wA) ({ frames := 25, cells := 0, slots := 0, locals := 1000 }) (va_Pc [.ref (g 7), .int 5] (PX dC dI g c adK adV v F (g (44 + nr)) sz)) (va_Qv (fun (u : StX) => IX u.1 u.2.1 ∧ alX u.1 u.2.1 = alX v F ∧ u.2.2 = (g (44 + nr)) ∧ (∀ k, k ∉ ([142, 143, 144] : List Nat) → u.1 k = v k) ∧ True) (BX dC dI g c) (AX g sz)) 0 0 (AX g sz) := by
  refine Met.ofW (cc := cX3_readChoice) (maxL := 4) (ret := none) (by decide) rfl ?_
  intro p e s m args below meth c0 s₁ B hml hv
  obtain ⟨rfl, hsz, hP, hK, hE⟩ := hv
  have hx := B.exec
  have hb := B.bytes
  have hr := B.returns
  have hts := atoms_spec (ws := Cond.code yX3_readChoice cX3_readChoice 4 none :: wA) B.pre
  have hwd : ∀ w ∈ wA, w.before _ s = true := fun w h => hts w (List.mem_cons_of_mem _ h)
  have hown : s.vm.findClass RX3 = some m.cls := findClass_of_methodNamed B.named
  have hlocks := B.notSynchronized
  subst hsz
  have hl := lv_entry ([.ref (g 7), .int 5]) (n := 4) (Nat.le_of_ble_eq_true rfl)
  rw [lg_entry_eq]
  generalize (lg_sl ([.ref (g 7), .int 5]) ++ List.replicate (4 - (lg_sl ([.ref (g 7), .int 5])).length) Slot.unset).toArray = ls at hl ⊢
  have hl : lv_has ls 4 [(0, .ref (g 7)), (1, .int 5)] := hl
  obtain ⟨H, eH⟩ : ∃ z, z = s.heap := ⟨_, rfl⟩
  have hP : va_P (dC, dI) classes (wX g c v F (g (44 + nr))) H := by rw [eH]; exact hP
  have hS : va_S (AX g s.heap.size) s.heap H [] := by rw [eH]; exact va_S.rf
  refine my_heap eH ?_
  have hal : alX v F = alX v F := rfl
  refine lv_aload_n hx hb dX3_readChoice_0 rfl (lv_at hl 0 rfl) ?_
  refine lv_iload_n hx hb dX3_readChoice_1 rfl (lv_at hl 1 rfl) ?_
  refine va_callv (va_runV (As := [.int 5]) (rest := []) ⟨hx, hb, hml, hown, hwd⟩ (c_X3_readComparison_5 l dC dI g c adK adV v F nr H.size  hg hnr hI ) (cwV 1 hwd (gV wk_891 wk_860 wk_861 wk_862 wk_38) rfl rfl rfl (by decide +kernel) ⟨Nat.le_of_ble_eq_true rfl, Nat.le_of_ble_eq_true rfl⟩) ⟨PX.blind, va_recv hK hP (ci := 3) (q0 := 7) rfl rfl, fun U hU hW => ⟨rfl, PX.at hK hE hP hS hU hW⟩⟩ rfl rfl hl.1 rfl (lv_room (Nat.le_of_ble_eq_true rfl)) dX3_readChoice_2 ⟨Nat.le_of_ble_eq_true rfl, Nat.le_of_ble_eq_true rfl⟩) hS (fun q _ h => (freeX hS) q h) (freeX hS) (fun u t H1 locs ht hvm hw hB hz1 hk1 hS => ?_)
  unfold BX at hB
  rw [ht] at hB
  obtain ⟨v5008, F5009, rc9⟩ := u
  obtain ⟨hI, hal9, hrc, hf5010, hw⟩ := hw
  dsimp only at hI hal9 hrc hB hf5010 hw
  rw [hrc] at hB
  have hal := hal9.trans hal
  have hP : va_P (dC, dI) classes (wX g c v5008 F5009 (g (44 + nr))) H1 := hB
  generalize H1 = H at hP hS ⊢
  refine lv_aload_n hx hb dX3_readChoice_5 rfl (lv_at hl 0 rfl) ?_
  refine va_calli (va_runV (As := []) (rest := []) ⟨hx, hb, hml, hown, hwd⟩ (c_X3_next l dC dI g c adK adV v5008 F5009 nr H.size  hg hnr hI ) (cwV 0 hwd (gV wk_866 wk_863 wk_864 wk_865 wk_38) rfl rfl rfl (by decide +kernel) ⟨Nat.le_of_ble_eq_true rfl, Nat.le_of_ble_eq_true rfl⟩) ⟨PX.blind, va_recv hK hP (ci := 3) (q0 := 7) rfl rfl, fun U hU hW => ⟨rfl, PX.at hK hE hP hS hU hW⟩⟩ rfl rfl hl.1 rfl (lv_room (Nat.le_of_ble_eq_true rfl)) dX3_readChoice_6 ⟨Nat.le_of_ble_eq_true rfl, Nat.le_of_ble_eq_true rfl⟩) hS (fun q _ h => (freeX hS) q h) (freeX hS) (fun r5011 u t H1 locs ht hvm hw hB hz1 hk1 hS => ?_)
  unfold BX at hB
  rw [ht] at hB
  have hP : va_P (dC, dI) classes (wX g c v5008 F5009 (g (44 + nr))) H1 := hB
  generalize H1 = H at hP hS ⊢
  have rr_r5011 := i32_rng r5011
  refine lv_bipush (v := 63) hx hb dX3_readChoice_9 (by decide) ?_
  refine lv_icmp_ne (tgt := 66) hx hb dX3_readChoice_11 (by decide) (fun c5012 => ?_) (fun c5012 => ?_)
  · skip
    have t5013 := cv_ne (a := r5011.toInt) rfl (b := 63) (by decide) c5012
    have hP9 : va_P (dC, dI) classes (wX g c v5008 F5009 (g (44 + nr))) H := hP
    exact W.vret hx hb hr (fun t ht hW => ⟨⟨(v5008, F5009, (g (44 + nr))), rfl, ⟨hI, hal, rfl, (frC (by decide) hf5010 (fun _ _ => rfl)), trivial⟩, (by show va_P _ _ _ t.heap; rw [ht]; exact hP9)⟩, hS.F ht⟩) hS.2.2 dX3_readChoice_66
  · skip
    have t5014 := cv_eq (a := r5011.toInt) rfl (b := 63) (by decide) c5012
    refine lv_aload_n hx hb dX3_readChoice_14 rfl (lv_at hl 0 rfl) ?_
    refine lv_iload_n hx hb dX3_readChoice_15 rfl (lv_at hl 1 rfl) ?_
    refine va_calli (va_runV (As := [.int 5]) (rest := []) ⟨hx, hb, hml, hown, hwd⟩ (c_X3_opens l dC dI g c adK adV v5008 F5009 nr H.size 5 hg hnr hI ) (cwV 1 hwd (gV wk_874 wk_871 wk_872 wk_873 wk_38) rfl rfl rfl (by decide +kernel) ⟨Nat.le_of_ble_eq_true rfl, Nat.le_of_ble_eq_true rfl⟩) ⟨PX.blind, va_recv hK hP (ci := 3) (q0 := 7) rfl rfl, fun U hU hW => ⟨rfl, PX.at hK hE hP hS hU hW⟩⟩ rfl rfl hl.1 rfl (lv_room (Nat.le_of_ble_eq_true rfl)) dX3_readChoice_16 ⟨Nat.le_of_ble_eq_true rfl, Nat.le_of_ble_eq_true rfl⟩) hS (fun q _ h => (freeX hS) q h) (freeX hS) (fun r5015 u t H1 locs ht hvm hw hB hz1 hk1 hS => ?_)
    unfold BX at hB
    rw [ht] at hB
    obtain ⟨v5016, F5017, rc9⟩ := u
    obtain ⟨hI, hal9, hrc, hf5018, hw⟩ := hw
    dsimp only at hI hal9 hrc hB hf5018 hw
    rw [hrc] at hB
    have hal := hal9.trans hal
    have hP : va_P (dC, dI) classes (wX g c v5016 F5017 (g (44 + nr))) H1 := hB
    have hw : (r5015.toInt = 1 ∧ (5 : Int32).toInt < 8) ∨ (r5015.toInt = 0 ∧ 8 ≤ (5 : Int32).toInt) := hw
    have k5019 : (5 : Int32).toInt = 5 := by decide
    generalize H1 = H at hP hS ⊢
    have hw_r5015 := hw
    refine lv_if_eq (tgt := 66) hx hb dX3_readChoice_19 (by decide) (fun c5020 => ?_) (fun c5020 => ?_)
    · skip
      have t5021 := cv_eq (a := r5015.toInt) rfl (b := 0) (by decide) c5020
      have hP9 : va_P (dC, dI) classes (wX g c v5016 F5017 (g (44 + nr))) H := hP
      exact W.vret hx hb hr (fun t ht hW => ⟨⟨(v5016, F5017, (g (44 + nr))), rfl, ⟨hI, hal, rfl, (frC (by decide) hf5018 (frC (by decide) hf5010 (fun _ _ => rfl))), trivial⟩, (by show va_P _ _ _ t.heap; rw [ht]; exact hP9)⟩, hS.F ht⟩) hS.2.2 dX3_readChoice_66
    · skip
      have t5022 := cv_ne (a := r5015.toInt) rfl (b := 0) (by decide) c5020
      refine lv_aload_n hx hb dX3_readChoice_22 rfl (lv_at hl 0 rfl) ?_
      refine lv_iconst (v := 4) hx hb dX3_readChoice_23 (by decide) ?_
      refine lv_iconst (v := 0) hx hb dX3_readChoice_24 (by decide) ?_
      refine va_calli (va_runV (As := [.int 4, .int 0]) (rest := []) ⟨hx, hb, hml, hown, hwd⟩ (c_X3_put l dC dI g c adK adV v5016 F5017 nr H.size 4 0 hg hnr hI (by have : (4 : Int32).toInt = 4 := (by decide); omega) (by have : (0 : Int32).toInt = 0 := (by decide); omega)) (cwV 2 hwd (gV wk_882 wk_879 wk_880 wk_881 wk_38) rfl rfl rfl (by decide +kernel) ⟨Nat.le_of_ble_eq_true rfl, Nat.le_of_ble_eq_true rfl⟩) ⟨PX.blind, va_recv hK hP (ci := 3) (q0 := 7) rfl rfl, fun U hU hW => ⟨rfl, PX.at hK hE hP hS hU hW⟩⟩ rfl rfl hl.1 rfl (lv_room (Nat.le_of_ble_eq_true rfl)) dX3_readChoice_25 ⟨Nat.le_of_ble_eq_true rfl, Nat.le_of_ble_eq_true rfl⟩) hS (fun q _ h => (freeX hS) q h) (freeX hS) (fun r5023 u t H1 locs ht hvm hw hB hz1 hk1 hS => ?_)
      unfold BX at hB
      rw [ht] at hB
      obtain ⟨v5024, F5025, rc9⟩ := u
      obtain ⟨hI, hal9, hrc, hf5026, hw⟩ := hw
      dsimp only at hI hal9 hrc hB hf5026 hw
      rw [hrc] at hB
      have hal := hal9.trans hal
      have hP : va_P (dC, dI) classes (wX g c v5024 F5025 (g (44 + nr))) H1 := hB
      have hw : -1 ≤ r5023.toInt ∧ r5023.toInt ≤ 119 := hw
      have k5027 : (4 : Int32).toInt = 4 := by decide
      have k5028 : (0 : Int32).toInt = 0 := by decide
      generalize H1 = H at hP hS ⊢
      have hw_r5023 := hw
      refine lv_istore_n (lv' := [(2, .int r5023), (0, .ref (g 7)), (1, .int 5)]) hx hb dX3_readChoice_28 rfl hl (by decide) rfl (fun ls hl => ?_)
      refine lv_aload_n hx hb dX3_readChoice_29 rfl (lv_at hl 1 rfl) ?_
      refine lv_iload_n hx hb dX3_readChoice_30 rfl (lv_at hl 2 rfl) ?_
      refine lv_iconst (v := 1) hx hb dX3_readChoice_31 (by decide) ?_
      refine lv_iadd hx hb dX3_readChoice_32 ?_
      refine my_top (v := 6) (by decide) ?_
      refine va_callv (va_runV (As := [.int 6]) (rest := []) ⟨hx, hb, hml, hown, hwd⟩ (c_X3_readChoice_6 l dC dI g c adK adV v5024 F5025 nr H.size  hg hnr hI ) (cwV 1 hwd (gV wk_859 wk_856 wk_857 wk_858 wk_38) rfl rfl rfl (by decide +kernel) ⟨Nat.le_of_ble_eq_true rfl, Nat.le_of_ble_eq_true rfl⟩) ⟨PX.blind, va_recv hK hP (ci := 3) (q0 := 7) rfl rfl, fun U hU hW => ⟨rfl, PX.at hK hE hP hS hU hW⟩⟩ rfl rfl hl.1 rfl (lv_room (Nat.le_of_ble_eq_true rfl)) dX3_readChoice_33 ⟨Nat.le_of_ble_eq_true rfl, Nat.le_of_ble_eq_true rfl⟩) hS (fun q _ h => (freeX hS) q h) (freeX hS) (fun u t H1 locs ht hvm hw hB hz1 hk1 hS => ?_)
      unfold BX at hB
      rw [ht] at hB
      obtain ⟨v5030, F5031, rc9⟩ := u
      obtain ⟨hI, hal9, hrc, hf5032, hw⟩ := hw
      dsimp only at hI hal9 hrc hB hf5032 hw
      rw [hrc] at hB
      have hal := hal9.trans hal
      have hP : va_P (dC, dI) classes (wX g c v5030 F5031 (g (44 + nr))) H1 := hB
      generalize H1 = H at hP hS ⊢
      refine lv_aload_n hx hb dX3_readChoice_36 rfl (lv_at hl 1 rfl) ?_
      refine lv_bipush (v := 58) hx hb dX3_readChoice_37 (by decide) ?_
      refine va_callv (va_runV (As := [.int 58]) (rest := []) ⟨hx, hb, hml, hown, hwd⟩ (c_X3_take l dC dI g c adK adV v5030 F5031 nr H.size 58 hg hnr hI ) (cwV 1 hwd (gV wk_886 wk_883 wk_884 wk_885 wk_38) rfl rfl rfl (by decide +kernel) ⟨Nat.le_of_ble_eq_true rfl, Nat.le_of_ble_eq_true rfl⟩) ⟨PX.blind, va_recv hK hP (ci := 3) (q0 := 7) rfl rfl, fun U hU hW => ⟨rfl, PX.at hK hE hP hS hU hW⟩⟩ rfl rfl hl.1 rfl (lv_room (Nat.le_of_ble_eq_true rfl)) dX3_readChoice_39 ⟨Nat.le_of_ble_eq_true rfl, Nat.le_of_ble_eq_true rfl⟩) hS (fun q _ h => (freeX hS) q h) (freeX hS) (fun u t H1 locs ht hvm hw hB hz1 hk1 hS => ?_)
      unfold BX at hB
      rw [ht] at hB
      obtain ⟨v5034, F5035, rc9⟩ := u
      obtain ⟨hI, hal9, hrc, hf5036, hw⟩ := hw
      dsimp only at hI hal9 hrc hB hf5036 hw
      rw [hrc] at hB
      have hal := hal9.trans hal
      have hP : va_P (dC, dI) classes (wX g c v5034 F5035 (g (44 + nr))) H1 := hB
      generalize H1 = H at hP hS ⊢
      refine lv_aload_n hx hb dX3_readChoice_42 rfl (lv_at hl 1 rfl) ?_
      refine lv_iconst (v := 3) hx hb dX3_readChoice_43 (by decide) ?_
      refine lv_iconst (v := 0) hx hb dX3_readChoice_44 (by decide) ?_
      refine va_calli (va_runV (As := [.int 3, .int 0]) (rest := []) ⟨hx, hb, hml, hown, hwd⟩ (c_X3_put l dC dI g c adK adV v5034 F5035 nr H.size 3 0 hg hnr hI (by have : (3 : Int32).toInt = 3 := (by decide); omega) (by have : (0 : Int32).toInt = 0 := (by decide); omega)) (cwV 2 hwd (gV wk_882 wk_879 wk_880 wk_881 wk_38) rfl rfl rfl (by decide +kernel) ⟨Nat.le_of_ble_eq_true rfl, Nat.le_of_ble_eq_true rfl⟩) ⟨PX.blind, va_recv hK hP (ci := 3) (q0 := 7) rfl rfl, fun U hU hW => ⟨rfl, PX.at hK hE hP hS hU hW⟩⟩ rfl rfl hl.1 rfl (lv_room (Nat.le_of_ble_eq_true rfl)) dX3_readChoice_45 ⟨Nat.le_of_ble_eq_true rfl, Nat.le_of_ble_eq_true rfl⟩) hS (fun q _ h => (freeX hS) q h) (freeX hS) (fun r5037 u t H1 locs ht hvm hw hB hz1 hk1 hS => ?_)
      unfold BX at hB
      rw [ht] at hB
      obtain ⟨v5038, F5039, rc9⟩ := u
      obtain ⟨hI, hal9, hrc, hf5040, hw⟩ := hw
      dsimp only at hI hal9 hrc hB hf5040 hw
      rw [hrc] at hB
      have hal := hal9.trans hal
      have hP : va_P (dC, dI) classes (wX g c v5038 F5039 (g (44 + nr))) H1 := hB
      have hw : -1 ≤ r5037.toInt ∧ r5037.toInt ≤ 119 := hw
      have k5041 : (3 : Int32).toInt = 3 := by decide
      have k5042 : (0 : Int32).toInt = 0 := by decide
      generalize H1 = H at hP hS ⊢
      have hw_r5037 := hw
      refine lv_istore_n (lv' := [(3, .int r5037), (2, .int r5023), (0, .ref (g 7)), (1, .int 5)]) hx hb dX3_readChoice_48 rfl hl (by decide) rfl (fun ls hl => ?_)
      refine lv_aload_n hx hb dX3_readChoice_49 rfl (lv_at hl 2 rfl) ?_
      refine lv_iload_n hx hb dX3_readChoice_50 rfl (lv_at hl 1 rfl) ?_
      refine va_callv (va_runV (As := [.int r5023]) (rest := []) ⟨hx, hb, hml, hown, hwd⟩ (c_X3_leadHere l dC dI g c adK adV v5038 F5039 nr H.size r5023 hg hnr hI ) (cwV 1 hwd (gV wk_890 wk_887 wk_888 wk_889 wk_38) rfl rfl rfl (by decide +kernel) ⟨Nat.le_of_ble_eq_true rfl, Nat.le_of_ble_eq_true rfl⟩) ⟨PX.blind, va_recv hK hP (ci := 3) (q0 := 7) rfl rfl, fun U hU hW => ⟨rfl, PX.at hK hE hP hS hU hW⟩⟩ rfl rfl hl.1 rfl (lv_room (Nat.le_of_ble_eq_true rfl)) dX3_readChoice_51 ⟨Nat.le_of_ble_eq_true rfl, Nat.le_of_ble_eq_true rfl⟩) hS (fun q _ h => (freeX hS) q h) (freeX hS) (fun u t H1 locs ht hvm hw hB hz1 hk1 hS => ?_)
      unfold BX at hB
      rw [ht] at hB
      obtain ⟨v5044, F5045, rc9⟩ := u
      obtain ⟨hI, hal9, hrc, hf5046, hw⟩ := hw
      dsimp only at hI hal9 hrc hB hf5046 hw
      rw [hrc] at hB
      have hal := hal9.trans hal
      have hP : va_P (dC, dI) classes (wX g c v5044 F5045 (g (44 + nr))) H1 := hB
      generalize H1 = H at hP hS ⊢
      refine lv_aload_n hx hb dX3_readChoice_54 rfl (lv_at hl 2 rfl) ?_
      refine lv_iload_n hx hb dX3_readChoice_55 rfl (lv_at hl 3 rfl) ?_
      refine lv_iconst (v := 1) hx hb dX3_readChoice_56 (by decide) ?_
      refine lv_iadd hx hb dX3_readChoice_57 ?_
      refine my_top (v := 6) (by decide) ?_
      refine va_callv (va_runV (As := [.int 6]) (rest := []) ⟨hx, hb, hml, hown, hwd⟩ (c_X3_readChoice_6 l dC dI g c adK adV v5044 F5045 nr H.size  hg hnr hI ) (cwV 1 hwd (gV wk_859 wk_856 wk_857 wk_858 wk_38) rfl rfl rfl (by decide +kernel) ⟨Nat.le_of_ble_eq_true rfl, Nat.le_of_ble_eq_true rfl⟩) ⟨PX.blind, va_recv hK hP (ci := 3) (q0 := 7) rfl rfl, fun U hU hW => ⟨rfl, PX.at hK hE hP hS hU hW⟩⟩ rfl rfl hl.1 rfl (lv_room (Nat.le_of_ble_eq_true rfl)) dX3_readChoice_58 ⟨Nat.le_of_ble_eq_true rfl, Nat.le_of_ble_eq_true rfl⟩) hS (fun q _ h => (freeX hS) q h) (freeX hS) (fun u t H1 locs ht hvm hw hB hz1 hk1 hS => ?_)
      unfold BX at hB
      rw [ht] at hB
      obtain ⟨v5048, F5049, rc9⟩ := u
      obtain ⟨hI, hal9, hrc, hf5050, hw⟩ := hw
      dsimp only at hI hal9 hrc hB hf5050 hw
      rw [hrc] at hB
      have hal := hal9.trans hal
      have hP : va_P (dC, dI) classes (wX g c v5048 F5049 (g (44 + nr))) H1 := hB
      generalize H1 = H at hP hS ⊢
      refine lv_aload_n hx hb dX3_readChoice_61 rfl (lv_at hl 2 rfl) ?_
      refine lv_iload_n hx hb dX3_readChoice_62 rfl (lv_at hl 0 rfl) ?_
      refine va_callv (va_runV (As := [.int r5037]) (rest := []) ⟨hx, hb, hml, hown, hwd⟩ (c_X3_leadHere l dC dI g c adK adV v5048 F5049 nr H.size r5037 hg hnr hI ) (cwV 1 hwd (gV wk_890 wk_887 wk_888 wk_889 wk_38) rfl rfl rfl (by decide +kernel) ⟨Nat.le_of_ble_eq_true rfl, Nat.le_of_ble_eq_true rfl⟩) ⟨PX.blind, va_recv hK hP (ci := 3) (q0 := 7) rfl rfl, fun U hU hW => ⟨rfl, PX.at hK hE hP hS hU hW⟩⟩ rfl rfl hl.1 rfl (lv_room (Nat.le_of_ble_eq_true rfl)) dX3_readChoice_63 ⟨Nat.le_of_ble_eq_true rfl, Nat.le_of_ble_eq_true rfl⟩) hS (fun q _ h => (freeX hS) q h) (freeX hS) (fun u t H1 locs ht hvm hw hB hz1 hk1 hS => ?_)
      unfold BX at hB
      rw [ht] at hB
      obtain ⟨v5052, F5053, rc9⟩ := u
      obtain ⟨hI, hal9, hrc, hf5054, hw⟩ := hw
      dsimp only at hI hal9 hrc hB hf5054 hw
      rw [hrc] at hB
      have hal := hal9.trans hal
      have hP : va_P (dC, dI) classes (wX g c v5052 F5053 (g (44 + nr))) H1 := hB
      generalize H1 = H at hP hS ⊢
      have hP9 : va_P (dC, dI) classes (wX g c v5052 F5053 (g (44 + nr))) H := hP
      exact W.vret hx hb hr (fun t ht hW => ⟨⟨(v5052, F5053, (g (44 + nr))), rfl, ⟨hI, hal, rfl, (frC (by decide) hf5054 (frC (by decide) hf5050 (frC (by decide) hf5046 (frC (by decide) hf5040 (frC (by decide) hf5036 (frC (by decide) hf5032 (frC (by decide) hf5026 (frC (by decide) hf5018 (frC (by decide) hf5010 (fun _ _ => rfl)))))))))), trivial⟩, (by show va_P _ _ _ t.heap; rw [ht]; exact hP9)⟩, hS.F ht⟩) hS.2.2 dX3_readChoice_66
