set_option maxHeartbeats 8000000 in
set_option maxRecDepth 100000 in
theorem c_X3_readOperand_2 (l : Launch) (dC : Nat → ClassId) (dI : Nat → Nat → Nat) (g : Nat → Nat) (c : Nat → ClassId) (adK adV : Nat → Nat) (v : Nat → Int32) (F : Nat → Nat → Int32) (nr sz : Nat) (hg : injX g) (hnr : nr < 10) (hI : IX v F) : Met l yX3_readOperand (Cond.code yX3_readOperand cX3_readOperand 3 none :: wA) ({ frames := 36, cells := 0, slots := 0, locals := 1440 }) (va_Pc [.ref (g 7), .int 2] (PX dC dI g c adK adV v F (g (44 + nr)) sz)) (va_Qv (fun (u : StX) => IX u.1 u.2.1 ∧ alX u.1 u.2.1 = alX v F ∧ u.2.2 = (g (44 + nr)) ∧ (∀ k, k ∉ ([142, 143, 144] : List Nat) → u.1 k = v k) ∧ True) (BX dC dI g c) (AX g sz)) 0 0 (AX g sz) := by
  refine Met.ofW (cc := cX3_readOperand) (maxL := 3) (ret := none) (by decide) rfl ?_
  intro p e s m args below meth c0 s₁ B hml hv
  obtain ⟨rfl, hsz, hP, hK, hE⟩ := hv
  have hx := B.exec
  have hb := B.bytes
  have hr := B.returns
  have hts := atoms_spec (ws := Cond.code yX3_readOperand cX3_readOperand 3 none :: wA) B.pre
  have hwd : ∀ w ∈ wA, w.before _ s = true := fun w h => hts w (List.mem_cons_of_mem _ h)
  have hown : s.vm.findClass RX3 = some m.cls := findClass_of_methodNamed B.named
  have hlocks := B.notSynchronized
  subst hsz
  have hl := lv_entry ([.ref (g 7), .int 2]) (n := 3) (Nat.le_of_ble_eq_true rfl)
  rw [lg_entry_eq]
  generalize (lg_sl ([.ref (g 7), .int 2]) ++ List.replicate (3 - (lg_sl ([.ref (g 7), .int 2])).length) Slot.unset).toArray = ls at hl ⊢
  have hl : lv_has ls 3 [(0, .ref (g 7)), (1, .int 2)] := hl
  obtain ⟨H, eH⟩ : ∃ z, z = s.heap := ⟨_, rfl⟩
  have hP : va_P (dC, dI) classes (wX g c v F (g (44 + nr))) H := by rw [eH]; exact hP
  have hS : va_S (AX g s.heap.size) s.heap H [] := by rw [eH]; exact va_S.rf
  refine my_heap eH ?_
  have hal : alX v F = alX v F := rfl
  refine lv_aload_n hx hb dX3_readOperand_0 rfl (lv_at hl 0 rfl) ?_
  refine va_calli (va_runV (As := []) (rest := []) ⟨hx, hb, hml, hown, hwd⟩ (c_X3_next l dC dI g c adK adV v F nr H.size  hg hnr hI ) (cwV 0 hwd (gV wk_866 wk_863 wk_864 wk_865 wk_38) rfl rfl rfl (by decide +kernel) ⟨Nat.le_of_ble_eq_true rfl, Nat.le_of_ble_eq_true rfl⟩) ⟨PX.blind, va_recv hK hP (ci := 3) (q0 := 7) rfl rfl, fun U hU hW => ⟨rfl, PX.at hK hE hP hS hU hW⟩⟩ rfl rfl hl.1 rfl (lv_room (Nat.le_of_ble_eq_true rfl)) dX3_readOperand_1 ⟨Nat.le_of_ble_eq_true rfl, Nat.le_of_ble_eq_true rfl⟩) hS (fun q _ h => (freeX hS) q h) (freeX hS) (fun r5811 u t H1 locs ht hvm hw hB hz1 hk1 hS => ?_)
  unfold BX at hB
  rw [ht] at hB
  have hP : va_P (dC, dI) classes (wX g c v F (g (44 + nr))) H1 := hB
  generalize H1 = H at hP hS ⊢
  have rr_r5811 := i32_rng r5811
  refine lv_istore_n (lv' := [(2, .int r5811), (0, .ref (g 7)), (1, .int 2)]) hx hb dX3_readOperand_4 rfl hl (by decide) rfl (fun ls hl => ?_)
  refine lv_iload_n hx hb dX3_readOperand_5 rfl (lv_at hl 0 rfl) ?_
  refine lv_bipush (v := 45) hx hb dX3_readOperand_6 (by decide) ?_
  refine lv_icmp_ne (tgt := 36) hx hb dX3_readOperand_8 (by decide) (fun c5812 => ?_) (fun c5812 => ?_)
  · skip
    have t5813 := cv_ne (a := r5811.toInt) rfl (b := 45) (by decide) c5812
    refine lv_iload_n hx hb dX3_readOperand_36 rfl (lv_at hl 0 rfl) ?_
    refine lv_bipush (v := 40) hx hb dX3_readOperand_37 (by decide) ?_
    refine lv_icmp_ne (tgt := 66) hx hb dX3_readOperand_39 (by decide) (fun c5814 => ?_) (fun c5814 => ?_)
    · skip
      have t5815 := cv_ne (a := r5811.toInt) rfl (b := 40) (by decide) c5814
      refine lv_aload_n hx hb dX3_readOperand_66 rfl (lv_at hl 1 rfl) ?_
      refine lv_iload_n hx hb dX3_readOperand_67 rfl (lv_at hl 0 rfl) ?_
      refine va_callv (va_runV (As := [.int r5811]) (rest := []) ⟨hx, hb, hml, hown, hwd⟩ (c_X3_readNumberOrName l dC dI g c adK adV v F nr H.size r5811 hg hnr hI ) (cwV 1 hwd (gV wk_902 wk_899 wk_900 wk_901 wk_38) rfl rfl rfl (by decide +kernel) ⟨Nat.le_of_ble_eq_true rfl, Nat.le_of_ble_eq_true rfl⟩) ⟨PX.blind, va_recv hK hP (ci := 3) (q0 := 7) rfl rfl, fun U hU hW => ⟨rfl, PX.at hK hE hP hS hU hW⟩⟩ rfl rfl hl.1 rfl (lv_room (Nat.le_of_ble_eq_true rfl)) dX3_readOperand_68 ⟨Nat.le_of_ble_eq_true rfl, Nat.le_of_ble_eq_true rfl⟩) hS (fun q _ h => (freeX hS) q h) (freeX hS) (fun u t H1 locs ht hvm hw hB hz1 hk1 hS => ?_)
      unfold BX at hB
      rw [ht] at hB
      obtain ⟨v5817, F5818, rc9⟩ := u
      obtain ⟨hI, hal9, hrc, hf5819, hw⟩ := hw
      dsimp only at hI hal9 hrc hB hf5819 hw
      rw [hrc] at hB
      have hal := hal9.trans hal
      have hP : va_P (dC, dI) classes (wX g c v5817 F5818 (g (44 + nr))) H1 := hB
      generalize H1 = H at hP hS ⊢
      have hP9 : va_P (dC, dI) classes (wX g c v5817 F5818 (g (44 + nr))) H := hP
      exact W.vret hx hb hr (fun t ht hW => ⟨⟨(v5817, F5818, (g (44 + nr))), rfl, ⟨hI, hal, rfl, (frC (by decide) hf5819 (fun _ _ => rfl)), trivial⟩, (by show va_P _ _ _ t.heap; rw [ht]; exact hP9)⟩, hS.F ht⟩) hS.2.2 dX3_readOperand_71
    · skip
      have t5820 := cv_eq (a := r5811.toInt) rfl (b := 40) (by decide) c5814
      refine lv_aload_n hx hb dX3_readOperand_42 rfl (lv_at hl 1 rfl) ?_
      refine lv_iload_n hx hb dX3_readOperand_43 rfl (lv_at hl 2 rfl) ?_
      refine va_calli (va_runV (As := [.int 2]) (rest := []) ⟨hx, hb, hml, hown, hwd⟩ (c_X3_opens l dC dI g c adK adV v F nr H.size 2 hg hnr hI ) (cwV 1 hwd (gV wk_874 wk_871 wk_872 wk_873 wk_38) rfl rfl rfl (by decide +kernel) ⟨Nat.le_of_ble_eq_true rfl, Nat.le_of_ble_eq_true rfl⟩) ⟨PX.blind, va_recv hK hP (ci := 3) (q0 := 7) rfl rfl, fun U hU hW => ⟨rfl, PX.at hK hE hP hS hU hW⟩⟩ rfl rfl hl.1 rfl (lv_room (Nat.le_of_ble_eq_true rfl)) dX3_readOperand_44 ⟨Nat.le_of_ble_eq_true rfl, Nat.le_of_ble_eq_true rfl⟩) hS (fun q _ h => (freeX hS) q h) (freeX hS) (fun r5821 u t H1 locs ht hvm hw hB hz1 hk1 hS => ?_)
      unfold BX at hB
      rw [ht] at hB
      obtain ⟨v5822, F5823, rc9⟩ := u
      obtain ⟨hI, hal9, hrc, hf5824, hw⟩ := hw
      dsimp only at hI hal9 hrc hB hf5824 hw
      rw [hrc] at hB
      have hal := hal9.trans hal
      have hP : va_P (dC, dI) classes (wX g c v5822 F5823 (g (44 + nr))) H1 := hB
      have hw : (r5821.toInt = 1 ∧ (2 : Int32).toInt < 8) ∨ (r5821.toInt = 0 ∧ 8 ≤ (2 : Int32).toInt) := hw
      have k5825 : (2 : Int32).toInt = 2 := by decide
      generalize H1 = H at hP hS ⊢
      have hw_r5821 := hw
      refine lv_if_eq (tgt := 71) hx hb dX3_readOperand_47 (by decide) (fun c5826 => ?_) (fun c5826 => ?_)
      · skip
        have t5827 := cv_eq (a := r5821.toInt) rfl (b := 0) (by decide) c5826
        have hP9 : va_P (dC, dI) classes (wX g c v5822 F5823 (g (44 + nr))) H := hP
        exact W.vret hx hb hr (fun t ht hW => ⟨⟨(v5822, F5823, (g (44 + nr))), rfl, ⟨hI, hal, rfl, (frC (by decide) hf5824 (fun _ _ => rfl)), trivial⟩, (by show va_P _ _ _ t.heap; rw [ht]; exact hP9)⟩, hS.F ht⟩) hS.2.2 dX3_readOperand_71
      · skip
        have t5828 := cv_ne (a := r5821.toInt) rfl (b := 0) (by decide) c5826
        refine lv_aload_n hx hb dX3_readOperand_50 rfl (lv_at hl 1 rfl) ?_
        refine lv_iload_n hx hb dX3_readOperand_51 rfl (lv_at hl 2 rfl) ?_
        refine lv_iconst (v := 1) hx hb dX3_readOperand_52 (by decide) ?_
        refine lv_iadd hx hb dX3_readOperand_53 ?_
        refine my_top (v := 3) (by decide) ?_
        refine va_callv (va_runV (As := [.int 3]) (rest := []) ⟨hx, hb, hml, hown, hwd⟩ (c_X3_readChoice_3 l dC dI g c adK adV v5822 F5823 nr H.size  hg hnr hI ) (cwV 1 hwd (gV wk_859 wk_856 wk_857 wk_858 wk_38) rfl rfl rfl (by decide +kernel) ⟨Nat.le_of_ble_eq_true rfl, Nat.le_of_ble_eq_true rfl⟩) ⟨PX.blind, va_recv hK hP (ci := 3) (q0 := 7) rfl rfl, fun U hU hW => ⟨rfl, PX.at hK hE hP hS hU hW⟩⟩ rfl rfl hl.1 rfl (lv_room (Nat.le_of_ble_eq_true rfl)) dX3_readOperand_54 ⟨Nat.le_of_ble_eq_true rfl, Nat.le_of_ble_eq_true rfl⟩) hS (fun q _ h => (freeX hS) q h) (freeX hS) (fun u t H1 locs ht hvm hw hB hz1 hk1 hS => ?_)
        unfold BX at hB
        rw [ht] at hB
        obtain ⟨v5830, F5831, rc9⟩ := u
        obtain ⟨hI, hal9, hrc, hf5832, hw⟩ := hw
        dsimp only at hI hal9 hrc hB hf5832 hw
        rw [hrc] at hB
        have hal := hal9.trans hal
        have hP : va_P (dC, dI) classes (wX g c v5830 F5831 (g (44 + nr))) H1 := hB
        generalize H1 = H at hP hS ⊢
        refine lv_aload_n hx hb dX3_readOperand_57 rfl (lv_at hl 1 rfl) ?_
        refine lv_bipush (v := 41) hx hb dX3_readOperand_58 (by decide) ?_
        refine va_callv (va_runV (As := [.int 41]) (rest := []) ⟨hx, hb, hml, hown, hwd⟩ (c_X3_take l dC dI g c adK adV v5830 F5831 nr H.size 41 hg hnr hI ) (cwV 1 hwd (gV wk_886 wk_883 wk_884 wk_885 wk_38) rfl rfl rfl (by decide +kernel) ⟨Nat.le_of_ble_eq_true rfl, Nat.le_of_ble_eq_true rfl⟩) ⟨PX.blind, va_recv hK hP (ci := 3) (q0 := 7) rfl rfl, fun U hU hW => ⟨rfl, PX.at hK hE hP hS hU hW⟩⟩ rfl rfl hl.1 rfl (lv_room (Nat.le_of_ble_eq_true rfl)) dX3_readOperand_60 ⟨Nat.le_of_ble_eq_true rfl, Nat.le_of_ble_eq_true rfl⟩) hS (fun q _ h => (freeX hS) q h) (freeX hS) (fun u t H1 locs ht hvm hw hB hz1 hk1 hS => ?_)
        unfold BX at hB
        rw [ht] at hB
        obtain ⟨v5834, F5835, rc9⟩ := u
        obtain ⟨hI, hal9, hrc, hf5836, hw⟩ := hw
        dsimp only at hI hal9 hrc hB hf5836 hw
        rw [hrc] at hB
        have hal := hal9.trans hal
        have hP : va_P (dC, dI) classes (wX g c v5834 F5835 (g (44 + nr))) H1 := hB
        generalize H1 = H at hP hS ⊢
        refine lv_goto (tgt := 71) hx hb dX3_readOperand_63 (by decide) ?_
        have hP9 : va_P (dC, dI) classes (wX g c v5834 F5835 (g (44 + nr))) H := hP
        exact W.vret hx hb hr (fun t ht hW => ⟨⟨(v5834, F5835, (g (44 + nr))), rfl, ⟨hI, hal, rfl, (frC (by decide) hf5836 (frC (by decide) hf5832 (frC (by decide) hf5824 (fun _ _ => rfl)))), trivial⟩, (by show va_P _ _ _ t.heap; rw [ht]; exact hP9)⟩, hS.F ht⟩) hS.2.2 dX3_readOperand_71
  · skip
    have t5837 := cv_eq (a := r5811.toInt) rfl (b := 45) (by decide) c5812
    refine lv_aload_n hx hb dX3_readOperand_11 rfl (lv_at hl 1 rfl) ?_
    refine lv_iload_n hx hb dX3_readOperand_12 rfl (lv_at hl 2 rfl) ?_
    refine va_calli (va_runV (As := [.int 2]) (rest := []) ⟨hx, hb, hml, hown, hwd⟩ (c_X3_opens l dC dI g c adK adV v F nr H.size 2 hg hnr hI ) (cwV 1 hwd (gV wk_874 wk_871 wk_872 wk_873 wk_38) rfl rfl rfl (by decide +kernel) ⟨Nat.le_of_ble_eq_true rfl, Nat.le_of_ble_eq_true rfl⟩) ⟨PX.blind, va_recv hK hP (ci := 3) (q0 := 7) rfl rfl, fun U hU hW => ⟨rfl, PX.at hK hE hP hS hU hW⟩⟩ rfl rfl hl.1 rfl (lv_room (Nat.le_of_ble_eq_true rfl)) dX3_readOperand_13 ⟨Nat.le_of_ble_eq_true rfl, Nat.le_of_ble_eq_true rfl⟩) hS (fun q _ h => (freeX hS) q h) (freeX hS) (fun r5838 u t H1 locs ht hvm hw hB hz1 hk1 hS => ?_)
    unfold BX at hB
    rw [ht] at hB
    obtain ⟨v5839, F5840, rc9⟩ := u
    obtain ⟨hI, hal9, hrc, hf5841, hw⟩ := hw
    dsimp only at hI hal9 hrc hB hf5841 hw
    rw [hrc] at hB
    have hal := hal9.trans hal
    have hP : va_P (dC, dI) classes (wX g c v5839 F5840 (g (44 + nr))) H1 := hB
    have hw : (r5838.toInt = 1 ∧ (2 : Int32).toInt < 8) ∨ (r5838.toInt = 0 ∧ 8 ≤ (2 : Int32).toInt) := hw
    have k5842 : (2 : Int32).toInt = 2 := by decide
    generalize H1 = H at hP hS ⊢
    have hw_r5838 := hw
    refine lv_if_eq (tgt := 71) hx hb dX3_readOperand_16 (by decide) (fun c5843 => ?_) (fun c5843 => ?_)
    · skip
      have t5844 := cv_eq (a := r5838.toInt) rfl (b := 0) (by decide) c5843
      have hP9 : va_P (dC, dI) classes (wX g c v5839 F5840 (g (44 + nr))) H := hP
      exact W.vret hx hb hr (fun t ht hW => ⟨⟨(v5839, F5840, (g (44 + nr))), rfl, ⟨hI, hal, rfl, (frC (by decide) hf5841 (fun _ _ => rfl)), trivial⟩, (by show va_P _ _ _ t.heap; rw [ht]; exact hP9)⟩, hS.F ht⟩) hS.2.2 dX3_readOperand_71
    · skip
      have t5845 := cv_ne (a := r5838.toInt) rfl (b := 0) (by decide) c5843
      refine lv_aload_n hx hb dX3_readOperand_19 rfl (lv_at hl 1 rfl) ?_
      refine lv_iload_n hx hb dX3_readOperand_20 rfl (lv_at hl 2 rfl) ?_
      refine lv_iconst (v := 1) hx hb dX3_readOperand_21 (by decide) ?_
      refine lv_iadd hx hb dX3_readOperand_22 ?_
      refine my_top (v := 3) (by decide) ?_
      refine va_callv (va_runV (As := [.int 3]) (rest := []) ⟨hx, hb, hml, hown, hwd⟩ (c_X3_readOperand_3 l dC dI g c adK adV v5839 F5840 nr H.size  hg hnr hI ) (cwV 1 hwd (gV wk_895 wk_896 wk_897 wk_898 wk_38) rfl rfl rfl (by decide +kernel) ⟨Nat.le_of_ble_eq_true rfl, Nat.le_of_ble_eq_true rfl⟩) ⟨PX.blind, va_recv hK hP (ci := 3) (q0 := 7) rfl rfl, fun U hU hW => ⟨rfl, PX.at hK hE hP hS hU hW⟩⟩ rfl rfl hl.1 rfl (lv_room (Nat.le_of_ble_eq_true rfl)) dX3_readOperand_23 ⟨Nat.le_of_ble_eq_true rfl, Nat.le_of_ble_eq_true rfl⟩) hS (fun q _ h => (freeX hS) q h) (freeX hS) (fun u t H1 locs ht hvm hw hB hz1 hk1 hS => ?_)
      unfold BX at hB
      rw [ht] at hB
      obtain ⟨v5847, F5848, rc9⟩ := u
      obtain ⟨hI, hal9, hrc, hf5849, hw⟩ := hw
      dsimp only at hI hal9 hrc hB hf5849 hw
      rw [hrc] at hB
      have hal := hal9.trans hal
      have hP : va_P (dC, dI) classes (wX g c v5847 F5848 (g (44 + nr))) H1 := hB
      generalize H1 = H at hP hS ⊢
      refine lv_aload_n hx hb dX3_readOperand_26 rfl (lv_at hl 1 rfl) ?_
      refine lv_iconst (v := 2) hx hb dX3_readOperand_27 (by decide) ?_
      refine lv_iconst (v := 0) hx hb dX3_readOperand_28 (by decide) ?_
      refine va_calli (va_runV (As := [.int 2, .int 0]) (rest := []) ⟨hx, hb, hml, hown, hwd⟩ (c_X3_put l dC dI g c adK adV v5847 F5848 nr H.size 2 0 hg hnr hI (by have : (2 : Int32).toInt = 2 := (by decide); omega) (by have : (0 : Int32).toInt = 0 := (by decide); omega)) (cwV 2 hwd (gV wk_882 wk_879 wk_880 wk_881 wk_38) rfl rfl rfl (by decide +kernel) ⟨Nat.le_of_ble_eq_true rfl, Nat.le_of_ble_eq_true rfl⟩) ⟨PX.blind, va_recv hK hP (ci := 3) (q0 := 7) rfl rfl, fun U hU hW => ⟨rfl, PX.at hK hE hP hS hU hW⟩⟩ rfl rfl hl.1 rfl (lv_room (Nat.le_of_ble_eq_true rfl)) dX3_readOperand_29 ⟨Nat.le_of_ble_eq_true rfl, Nat.le_of_ble_eq_true rfl⟩) hS (fun q _ h => (freeX hS) q h) (freeX hS) (fun r5850 u t H1 locs ht hvm hw hB hz1 hk1 hS => ?_)
      unfold BX at hB
      rw [ht] at hB
      obtain ⟨v5851, F5852, rc9⟩ := u
      obtain ⟨hI, hal9, hrc, hf5853, hw⟩ := hw
      dsimp only at hI hal9 hrc hB hf5853 hw
      rw [hrc] at hB
      have hal := hal9.trans hal
      have hP : va_P (dC, dI) classes (wX g c v5851 F5852 (g (44 + nr))) H1 := hB
      have hw : -1 ≤ r5850.toInt ∧ r5850.toInt ≤ 119 := hw
      have k5854 : (2 : Int32).toInt = 2 := by decide
      have k5855 : (0 : Int32).toInt = 0 := by decide
      generalize H1 = H at hP hS ⊢
      have hw_r5850 := hw
      refine lv_pop hx hb dX3_readOperand_32 rfl ?_
      refine lv_goto (tgt := 71) hx hb dX3_readOperand_33 (by decide) ?_
      have hP9 : va_P (dC, dI) classes (wX g c v5851 F5852 (g (44 + nr))) H := hP
      exact W.vret hx hb hr (fun t ht hW => ⟨⟨(v5851, F5852, (g (44 + nr))), rfl, ⟨hI, hal, rfl, (frC (by decide) hf5853 (frC (by decide) hf5849 (frC (by decide) hf5841 (fun _ _ => rfl)))), trivial⟩, (by show va_P _ _ _ t.heap; rw [ht]; exact hP9)⟩, hS.F ht⟩) hS.2.2 dX3_readOperand_71
set_option maxHeartbeats 8000000 in
set_option maxRecDepth 100000 in
theorem c_X3_readProduct_2 (l : Launch) (dC : Nat → ClassId) (dI : Nat → Nat → Nat) (g : Nat → Nat) (c : Nat → ClassId) (adK adV : Nat → Nat) (v : Nat → Int32) (F : Nat → Nat → Int32) (nr sz : Nat) (hg : injX g) (hnr : nr < 10) (hI : IX v F) : Met l yX3_readProduct (Cond.code yX3_readProduct cX3_readProduct 4 none :: wA) ({ frames := 37, cells := 0, slots := 0, locals := 1480 }) (va_Pc [.ref (g 7), .int 2] (PX dC dI g c adK adV v F (g (44 + nr)) sz)) (va_Qv (fun (u : StX) => IX u.1 u.2.1 ∧ alX u.1 u.2.1 = alX v F ∧ u.2.2 = (g (44 + nr)) ∧ (∀ k, k ∉ ([142, 143, 144] : List Nat) → u.1 k = v k) ∧ True) (BX dC dI g c) (AX g sz)) 0 0 (AX g sz) := by
  refine Met.ofW (cc := cX3_readProduct) (maxL := 4) (ret := none) (by decide) rfl ?_
  intro p e s m args below meth c0 s₁ B hml hv
  obtain ⟨rfl, hsz, hP, hK, hE⟩ := hv
  have hx := B.exec
  have hb := B.bytes
  have hr := B.returns
  have hts := atoms_spec (ws := Cond.code yX3_readProduct cX3_readProduct 4 none :: wA) B.pre
  have hwd : ∀ w ∈ wA, w.before _ s = true := fun w h => hts w (List.mem_cons_of_mem _ h)
  have hown : s.vm.findClass RX3 = some m.cls := findClass_of_methodNamed B.named
  have hlocks := B.notSynchronized
  subst hsz
  have hl := lv_entry ([.ref (g 7), .int 2]) (n := 4) (Nat.le_of_ble_eq_true rfl)
  rw [lg_entry_eq]
  generalize (lg_sl ([.ref (g 7), .int 2]) ++ List.replicate (4 - (lg_sl ([.ref (g 7), .int 2])).length) Slot.unset).toArray = ls at hl ⊢
  have hl : lv_has ls 4 [(0, .ref (g 7)), (1, .int 2)] := hl
  obtain ⟨H, eH⟩ : ∃ z, z = s.heap := ⟨_, rfl⟩
  have hP : va_P (dC, dI) classes (wX g c v F (g (44 + nr))) H := by rw [eH]; exact hP
  have hS : va_S (AX g s.heap.size) s.heap H [] := by rw [eH]; exact va_S.rf
  refine my_heap eH ?_
  have hal : alX v F = alX v F := rfl
  refine lv_aload_n hx hb dX3_readProduct_0 rfl (lv_at hl 0 rfl) ?_
  refine lv_iload_n hx hb dX3_readProduct_1 rfl (lv_at hl 1 rfl) ?_
  refine va_callv (va_runV (As := [.int 2]) (rest := []) ⟨hx, hb, hml, hown, hwd⟩ (c_X3_readOperand_2 l dC dI g c adK adV v F nr H.size  hg hnr hI ) (cwV 1 hwd (gV wk_895 wk_896 wk_897 wk_898 wk_38) rfl rfl rfl (by decide +kernel) ⟨Nat.le_of_ble_eq_true rfl, Nat.le_of_ble_eq_true rfl⟩) ⟨PX.blind, va_recv hK hP (ci := 3) (q0 := 7) rfl rfl, fun U hU hW => ⟨rfl, PX.at hK hE hP hS hU hW⟩⟩ rfl rfl hl.1 rfl (lv_room (Nat.le_of_ble_eq_true rfl)) dX3_readProduct_2 ⟨Nat.le_of_ble_eq_true rfl, Nat.le_of_ble_eq_true rfl⟩) hS (fun q _ h => (freeX hS) q h) (freeX hS) (fun u t H1 locs ht hvm hw hB hz1 hk1 hS => ?_)
  unfold BX at hB
  rw [ht] at hB
  obtain ⟨v5857, F5858, rc9⟩ := u
  obtain ⟨hI, hal9, hrc, hf5859, hw⟩ := hw
  dsimp only at hI hal9 hrc hB hf5859 hw
  rw [hrc] at hB
  have hal := hal9.trans hal
  have hP : va_P (dC, dI) classes (wX g c v5857 F5858 (g (44 + nr))) H1 := hB
  generalize H1 = H at hP hS ⊢
  refine lv_iconst (v := 0) hx hb dX3_readProduct_5 (by decide) ?_
  refine lv_istore_n (lv' := [(2, .int 0), (0, .ref (g 7)), (1, .int 2)]) hx hb dX3_readProduct_6 rfl hl (by decide) rfl (fun ls hl => ?_)
  have lp5860 : ∀ (n : Nat) (x2_lp5860 : Int32) (v_lp5860 : Nat → Int32) (F_lp5860 : Nat → Nat → Int32) (H : Heap) (locs : List Loc) (ls : Array Slot), (0 ≤ x2_lp5860.toInt) → (2147483648 - x2_lp5860.toInt ≤ (n : Int)) → (∀ k, k ∉ ([142, 143, 144] : List Nat) → v_lp5860 k = v5857 k) → IX v_lp5860 F_lp5860 → alX v_lp5860 F_lp5860 = alX v F → va_P (dC, dI) classes (wX g c v_lp5860 F_lp5860 (g (44 + nr))) H → va_S (AX g s.heap.size) s.heap H locs → lv_has ls 4 [(2, .int x2_lp5860), (0, .ref (g 7)), (1, .int 2)] → W p l e (headSpec (Cond.code yX3_readProduct cX3_readProduct 4 none :: wA) ({ frames := 37, cells := 0, slots := 0, locals := 1480 })).room s m ([.ref (g 7), .int 2] : List Value).toArray below meth c0 H locs 0 0 (MQ below (va_Qv (fun (u : StX) => IX u.1 u.2.1 ∧ alX u.1 u.2.1 = alX v F ∧ u.2.2 = (g (44 + nr)) ∧ (∀ k, k ∉ ([142, 143, 144] : List Nat) → u.1 k = v k) ∧ True) (BX dC dI g c) (AX g s.heap.size)) ([.ref (g 7), .int 2] : List Value).toArray s 0 0 (AX g s.heap.size)) (F0 m 7 ls []) := by
    intro n
    induction n with
    | zero =>
      intro x2_lp5860 v_lp5860 F_lp5860 H locs ls t5861 hm hf_lp5860 hI hal hP hS hl
      exfalso
      have := i32_rng x2_lp5860
      have hI1 := hI.1
      omega
    | succ n ih_lp5860 =>
      intro x2_lp5860 v_lp5860 F_lp5860 H locs ls t5861 hm hf_lp5860 hI hal hP hS hl
      have rx2_lp5860 := i32_rng x2_lp5860
      refine lv_iload_n hx hb dX3_readProduct_7 rfl (lv_at hl 0 rfl) ?_
      refine lv_bipush (v := 120) hx hb dX3_readProduct_8 (by decide) ?_
      refine lv_icmp_ge (tgt := 76) hx hb dX3_readProduct_10 (by decide) (fun c5862 => ?_) (fun c5862 => ?_)
      · skip
        have t5863 := cv_le (a := 120) (by decide) (b := x2_lp5860.toInt) rfl c5862
        have hP9 : va_P (dC, dI) classes (wX g c v_lp5860 F_lp5860 (g (44 + nr))) H := hP
        exact W.vret hx hb hr (fun t ht hW => ⟨⟨(v_lp5860, F_lp5860, (g (44 + nr))), rfl, ⟨hI, hal, rfl, (frC (by decide) hf_lp5860 (frC (by decide) hf5859 (fun _ _ => rfl))), trivial⟩, (by show va_P _ _ _ t.heap; rw [ht]; exact hP9)⟩, hS.F ht⟩) hS.2.2 dX3_readProduct_76
      · skip
        have t5864 := cv_nle (a := 120) (by decide) (b := x2_lp5860.toInt) rfl c5862
        refine lv_aload_n hx hb dX3_readProduct_13 rfl (lv_at hl 1 rfl) ?_
        refine va_calli (va_runV (As := []) (rest := []) ⟨hx, hb, hml, hown, hwd⟩ (c_X3_next l dC dI g c adK adV v_lp5860 F_lp5860 nr H.size  hg hnr hI ) (cwV 0 hwd (gV wk_866 wk_863 wk_864 wk_865 wk_38) rfl rfl rfl (by decide +kernel) ⟨Nat.le_of_ble_eq_true rfl, Nat.le_of_ble_eq_true rfl⟩) ⟨PX.blind, va_recv hK hP (ci := 3) (q0 := 7) rfl rfl, fun U hU hW => ⟨rfl, PX.at hK hE hP hS hU hW⟩⟩ rfl rfl hl.1 rfl (lv_room (Nat.le_of_ble_eq_true rfl)) dX3_readProduct_14 ⟨Nat.le_of_ble_eq_true rfl, Nat.le_of_ble_eq_true rfl⟩) hS (fun q _ h => (freeX hS) q h) (freeX hS) (fun r5865 u t H1 locs ht hvm hw hB hz1 hk1 hS => ?_)
        unfold BX at hB
        rw [ht] at hB
        have hP : va_P (dC, dI) classes (wX g c v_lp5860 F_lp5860 (g (44 + nr))) H1 := hB
        generalize H1 = H at hP hS ⊢
        have rr_r5865 := i32_rng r5865
        refine lv_bipush (v := 42) hx hb dX3_readProduct_17 (by decide) ?_
        refine lv_icmp_eq (tgt := 31) hx hb dX3_readProduct_19 (by decide) (fun c5866 => ?_) (fun c5866 => ?_)
        · skip
          have t5867 := cv_eq (a := r5865.toInt) rfl (b := 42) (by decide) c5866
          refine lv_aload_n hx hb dX3_readProduct_31 rfl (lv_at hl 1 rfl) ?_
          refine va_calli (va_runV (As := []) (rest := []) ⟨hx, hb, hml, hown, hwd⟩ (c_X3_next l dC dI g c adK adV v_lp5860 F_lp5860 nr H.size  hg hnr hI ) (cwV 0 hwd (gV wk_866 wk_863 wk_864 wk_865 wk_38) rfl rfl rfl (by decide +kernel) ⟨Nat.le_of_ble_eq_true rfl, Nat.le_of_ble_eq_true rfl⟩) ⟨PX.blind, va_recv hK hP (ci := 3) (q0 := 7) rfl rfl, fun U hU hW => ⟨rfl, PX.at hK hE hP hS hU hW⟩⟩ rfl rfl hl.1 rfl (lv_room (Nat.le_of_ble_eq_true rfl)) dX3_readProduct_32 ⟨Nat.le_of_ble_eq_true rfl, Nat.le_of_ble_eq_true rfl⟩) hS (fun q _ h => (freeX hS) q h) (freeX hS) (fun r5868 u t H1 locs ht hvm hw hB hz1 hk1 hS => ?_)
          unfold BX at hB
          rw [ht] at hB
          have hP : va_P (dC, dI) classes (wX g c v_lp5860 F_lp5860 (g (44 + nr))) H1 := hB
          generalize H1 = H at hP hS ⊢
          have rr_r5868 := i32_rng r5868
          refine lv_bipush (v := 42) hx hb dX3_readProduct_35 (by decide) ?_
          refine lv_icmp_ne (tgt := 45) hx hb dX3_readProduct_37 (by decide) (fun c5869 => ?_) (fun c5869 => ?_)
          · skip
            have t5870 := cv_ne (a := r5868.toInt) rfl (b := 42) (by decide) c5869
            refine lv_bipush (v := 8) hx hb dX3_readProduct_45 (by decide) ?_
            refine lv_istore_n (lv' := [(3, .int 8), (2, .int x2_lp5860), (0, .ref (g 7)), (1, .int 2)]) hx hb dX3_readProduct_47 rfl hl (by decide) rfl (fun ls hl => ?_)
            refine lv_aload_n hx hb dX3_readProduct_48 rfl (lv_at hl 2 rfl) ?_
            refine lv_dup hx hb dX3_readProduct_49 rfl ?_
            refine va_get (D := (dC, dI)) (ci := 3) (v := .int (v_lp5860 143)) (C := RX3) (T := TX3) (N := 5) hx hb hwd inA_X3 hown hK hP 7 rfl rfl 3 (by decide) (hwd _ wk_853) (fun _ h9 => h9) rfl dX3_readProduct_50 ?_
            refine lv_iconst (v := 1) hx hb dX3_readProduct_53 (by decide) ?_
            refine lv_iadd hx hb dX3_readProduct_54 ?_
            refine lv_topi (fun z5871 e5872 => ?_)
            try (have t5873 := tadd e5872 (a := (v_lp5860 143).toInt) rfl (b := 1) (by decide) (by omega))
            refine va_put (D := (dC, dI)) (ci := 3) (v := .int z5871) (ty := .int) (C := RX3) (T := TX3) (N := 5) (fs := fsX_7 g v_lp5860 (g (44 + nr))) hx hb hwd inA_X3 tyX3 tyX3_ok nmX3 hown hK hP (DX hg) hS 7 rfl rfl 3 (by decide) (hwd _ wk_853) (fun _ h9 => h9) rfl (by decide +kernel) rfl rfl (Nat.le_of_ble_eq_true rfl) dX3_readProduct_55 (fun H locs hP _ hS => ?_)
            have hP := va_P_eq (pX_143 g c _ _ _ _) hP
            have hI := IX.put0 hI 143 z5871 rfl
            have hal := (alX_v _ _ 143 z5871 (by decide) (by decide) (by decide) (by decide)).trans hal
            refine lv_aload_n hx hb dX3_readProduct_58 rfl (lv_at hl 2 rfl) ?_
            refine lv_iload_n hx hb dX3_readProduct_59 rfl (lv_at hl 3 rfl) ?_
            refine va_callv (va_runV (As := [.int 2]) (rest := []) ⟨hx, hb, hml, hown, hwd⟩ (c_X3_readOperand_2 l dC dI g c adK adV (va_up v_lp5860 143 z5871) F_lp5860 nr H.size  hg hnr hI ) (cwV 1 hwd (gV wk_895 wk_896 wk_897 wk_898 wk_38) rfl rfl rfl (by decide +kernel) ⟨Nat.le_of_ble_eq_true rfl, Nat.le_of_ble_eq_true rfl⟩) ⟨PX.blind, va_recv hK hP (ci := 3) (q0 := 7) rfl rfl, fun U hU hW => ⟨rfl, PX.at hK hE hP hS hU hW⟩⟩ rfl rfl hl.1 rfl (lv_room (Nat.le_of_ble_eq_true rfl)) dX3_readProduct_60 ⟨Nat.le_of_ble_eq_true rfl, Nat.le_of_ble_eq_true rfl⟩) hS (fun q _ h => (freeX hS) q h) (freeX hS) (fun u t H1 locs ht hvm hw hB hz1 hk1 hS => ?_)
            unfold BX at hB
            rw [ht] at hB
            obtain ⟨v5875, F5876, rc9⟩ := u
            obtain ⟨hI, hal9, hrc, hf5877, hw⟩ := hw
            dsimp only at hI hal9 hrc hB hf5877 hw
            rw [hrc] at hB
            have hal := hal9.trans hal
            have hP : va_P (dC, dI) classes (wX g c v5875 F5876 (g (44 + nr))) H1 := hB
            generalize H1 = H at hP hS ⊢
            refine lv_aload_n hx hb dX3_readProduct_63 rfl (lv_at hl 2 rfl) ?_
            refine lv_iload_n hx hb dX3_readProduct_64 rfl (lv_at hl 0 rfl) ?_
            refine lv_iconst (v := 0) hx hb dX3_readProduct_65 (by decide) ?_
            refine va_calli (va_runV (As := [.int 8, .int 0]) (rest := []) ⟨hx, hb, hml, hown, hwd⟩ (c_X3_put l dC dI g c adK adV v5875 F5876 nr H.size 8 0 hg hnr hI (by have : (8 : Int32).toInt = 8 := (by decide); omega) (by have : (0 : Int32).toInt = 0 := (by decide); omega)) (cwV 2 hwd (gV wk_882 wk_879 wk_880 wk_881 wk_38) rfl rfl rfl (by decide +kernel) ⟨Nat.le_of_ble_eq_true rfl, Nat.le_of_ble_eq_true rfl⟩) ⟨PX.blind, va_recv hK hP (ci := 3) (q0 := 7) rfl rfl, fun U hU hW => ⟨rfl, PX.at hK hE hP hS hU hW⟩⟩ rfl rfl hl.1 rfl (lv_room (Nat.le_of_ble_eq_true rfl)) dX3_readProduct_66 ⟨Nat.le_of_ble_eq_true rfl, Nat.le_of_ble_eq_true rfl⟩) hS (fun q _ h => (freeX hS) q h) (freeX hS) (fun r5878 u t H1 locs ht hvm hw hB hz1 hk1 hS => ?_)
            unfold BX at hB
            rw [ht] at hB
            obtain ⟨v5879, F5880, rc9⟩ := u
            obtain ⟨hI, hal9, hrc, hf5881, hw⟩ := hw
            dsimp only at hI hal9 hrc hB hf5881 hw
            rw [hrc] at hB
            have hal := hal9.trans hal
            have hP : va_P (dC, dI) classes (wX g c v5879 F5880 (g (44 + nr))) H1 := hB
            have hw : -1 ≤ r5878.toInt ∧ r5878.toInt ≤ 119 := hw
            have k5882 : (8 : Int32).toInt = 8 := by decide
            have k5883 : (0 : Int32).toInt = 0 := by decide
            generalize H1 = H at hP hS ⊢
            have hw_r5878 := hw
            refine lv_pop hx hb dX3_readProduct_69 rfl ?_
            obtain ⟨z5884, e5885⟩ : ∃ y : Int32, y = x2_lp5860 + 1 := ⟨_, rfl⟩
            try (have t5886 := tadd e5885 rfl (b := 1) (by decide) (by omega))
            refine lv_iinc (v := z5884) (lv' := [(2, .int z5884), (3, .int 8), (0, .ref (g 7)), (1, .int 2)]) hx hb dX3_readProduct_70 hl (k := 1) rfl (by rw [e5885]; rfl) (by decide) rfl (fun ls hl => ?_)
            refine lv_goto (tgt := 7) hx hb dX3_readProduct_73 (by decide) ?_
            exact ih_lp5860 z5884 v5879 F5880 _ _ _ (by omega) (by omega) (frC (by decide) hf5881 (frC (by decide) hf5877 (frU (by decide) hf_lp5860))) hI hal hP hS (lv_sub hl [0, 2, 3] rfl)
          · skip
            have t5887 := cv_eq (a := r5868.toInt) rfl (b := 42) (by decide) c5869
            refine lv_bipush (v := 7) hx hb dX3_readProduct_40 (by decide) ?_
            refine lv_goto (tgt := 47) hx hb dX3_readProduct_42 (by decide) ?_
            refine lv_istore_n (lv' := [(3, .int 7), (2, .int x2_lp5860), (0, .ref (g 7)), (1, .int 2)]) hx hb dX3_readProduct_47 rfl hl (by decide) rfl (fun ls hl => ?_)
            refine lv_aload_n hx hb dX3_readProduct_48 rfl (lv_at hl 2 rfl) ?_
            refine lv_dup hx hb dX3_readProduct_49 rfl ?_
            refine va_get (D := (dC, dI)) (ci := 3) (v := .int (v_lp5860 143)) (C := RX3) (T := TX3) (N := 5) hx hb hwd inA_X3 hown hK hP 7 rfl rfl 3 (by decide) (hwd _ wk_853) (fun _ h9 => h9) rfl dX3_readProduct_50 ?_
            refine lv_iconst (v := 1) hx hb dX3_readProduct_53 (by decide) ?_
            refine lv_iadd hx hb dX3_readProduct_54 ?_
            refine lv_topi (fun z5888 e5889 => ?_)
            try (have t5890 := tadd e5889 (a := (v_lp5860 143).toInt) rfl (b := 1) (by decide) (by omega))
            refine va_put (D := (dC, dI)) (ci := 3) (v := .int z5888) (ty := .int) (C := RX3) (T := TX3) (N := 5) (fs := fsX_7 g v_lp5860 (g (44 + nr))) hx hb hwd inA_X3 tyX3 tyX3_ok nmX3 hown hK hP (DX hg) hS 7 rfl rfl 3 (by decide) (hwd _ wk_853) (fun _ h9 => h9) rfl (by decide +kernel) rfl rfl (Nat.le_of_ble_eq_true rfl) dX3_readProduct_55 (fun H locs hP _ hS => ?_)
            have hP := va_P_eq (pX_143 g c _ _ _ _) hP
            have hI := IX.put0 hI 143 z5888 rfl
            have hal := (alX_v _ _ 143 z5888 (by decide) (by decide) (by decide) (by decide)).trans hal
            refine lv_aload_n hx hb dX3_readProduct_58 rfl (lv_at hl 2 rfl) ?_
            refine lv_iload_n hx hb dX3_readProduct_59 rfl (lv_at hl 3 rfl) ?_
            refine va_callv (va_runV (As := [.int 2]) (rest := []) ⟨hx, hb, hml, hown, hwd⟩ (c_X3_readOperand_2 l dC dI g c adK adV (va_up v_lp5860 143 z5888) F_lp5860 nr H.size  hg hnr hI ) (cwV 1 hwd (gV wk_895 wk_896 wk_897 wk_898 wk_38) rfl rfl rfl (by decide +kernel) ⟨Nat.le_of_ble_eq_true rfl, Nat.le_of_ble_eq_true rfl⟩) ⟨PX.blind, va_recv hK hP (ci := 3) (q0 := 7) rfl rfl, fun U hU hW => ⟨rfl, PX.at hK hE hP hS hU hW⟩⟩ rfl rfl hl.1 rfl (lv_room (Nat.le_of_ble_eq_true rfl)) dX3_readProduct_60 ⟨Nat.le_of_ble_eq_true rfl, Nat.le_of_ble_eq_true rfl⟩) hS (fun q _ h => (freeX hS) q h) (freeX hS) (fun u t H1 locs ht hvm hw hB hz1 hk1 hS => ?_)
            unfold BX at hB
            rw [ht] at hB
            obtain ⟨v5892, F5893, rc9⟩ := u
            obtain ⟨hI, hal9, hrc, hf5894, hw⟩ := hw
            dsimp only at hI hal9 hrc hB hf5894 hw
            rw [hrc] at hB
            have hal := hal9.trans hal
            have hP : va_P (dC, dI) classes (wX g c v5892 F5893 (g (44 + nr))) H1 := hB
            generalize H1 = H at hP hS ⊢
            refine lv_aload_n hx hb dX3_readProduct_63 rfl (lv_at hl 2 rfl) ?_
            refine lv_iload_n hx hb dX3_readProduct_64 rfl (lv_at hl 0 rfl) ?_
            refine lv_iconst (v := 0) hx hb dX3_readProduct_65 (by decide) ?_
            refine va_calli (va_runV (As := [.int 7, .int 0]) (rest := []) ⟨hx, hb, hml, hown, hwd⟩ (c_X3_put l dC dI g c adK adV v5892 F5893 nr H.size 7 0 hg hnr hI (by have : (7 : Int32).toInt = 7 := (by decide); omega) (by have : (0 : Int32).toInt = 0 := (by decide); omega)) (cwV 2 hwd (gV wk_882 wk_879 wk_880 wk_881 wk_38) rfl rfl rfl (by decide +kernel) ⟨Nat.le_of_ble_eq_true rfl, Nat.le_of_ble_eq_true rfl⟩) ⟨PX.blind, va_recv hK hP (ci := 3) (q0 := 7) rfl rfl, fun U hU hW => ⟨rfl, PX.at hK hE hP hS hU hW⟩⟩ rfl rfl hl.1 rfl (lv_room (Nat.le_of_ble_eq_true rfl)) dX3_readProduct_66 ⟨Nat.le_of_ble_eq_true rfl, Nat.le_of_ble_eq_true rfl⟩) hS (fun q _ h => (freeX hS) q h) (freeX hS) (fun r5895 u t H1 locs ht hvm hw hB hz1 hk1 hS => ?_)
            unfold BX at hB
            rw [ht] at hB
            obtain ⟨v5896, F5897, rc9⟩ := u
            obtain ⟨hI, hal9, hrc, hf5898, hw⟩ := hw
            dsimp only at hI hal9 hrc hB hf5898 hw
            rw [hrc] at hB
            have hal := hal9.trans hal
            have hP : va_P (dC, dI) classes (wX g c v5896 F5897 (g (44 + nr))) H1 := hB
            have hw : -1 ≤ r5895.toInt ∧ r5895.toInt ≤ 119 := hw
            have k5899 : (7 : Int32).toInt = 7 := by decide
            have k5900 : (0 : Int32).toInt = 0 := by decide
            generalize H1 = H at hP hS ⊢
            have hw_r5895 := hw
            refine lv_pop hx hb dX3_readProduct_69 rfl ?_
            obtain ⟨z5901, e5902⟩ : ∃ y : Int32, y = x2_lp5860 + 1 := ⟨_, rfl⟩
            try (have t5903 := tadd e5902 rfl (b := 1) (by decide) (by omega))
            refine lv_iinc (v := z5901) (lv' := [(2, .int z5901), (3, .int 7), (0, .ref (g 7)), (1, .int 2)]) hx hb dX3_readProduct_70 hl (k := 1) rfl (by rw [e5902]; rfl) (by decide) rfl (fun ls hl => ?_)
            refine lv_goto (tgt := 7) hx hb dX3_readProduct_73 (by decide) ?_
            exact ih_lp5860 z5901 v5896 F5897 _ _ _ (by omega) (by omega) (frC (by decide) hf5898 (frC (by decide) hf5894 (frU (by decide) hf_lp5860))) hI hal hP hS (lv_sub hl [0, 2, 3] rfl)
        · skip
          have t5904 := cv_ne (a := r5865.toInt) rfl (b := 42) (by decide) c5866
          refine lv_aload_n hx hb dX3_readProduct_22 rfl (lv_at hl 1 rfl) ?_
          refine va_calli (va_runV (As := []) (rest := []) ⟨hx, hb, hml, hown, hwd⟩ (c_X3_next l dC dI g c adK adV v_lp5860 F_lp5860 nr H.size  hg hnr hI ) (cwV 0 hwd (gV wk_866 wk_863 wk_864 wk_865 wk_38) rfl rfl rfl (by decide +kernel) ⟨Nat.le_of_ble_eq_true rfl, Nat.le_of_ble_eq_true rfl⟩) ⟨PX.blind, va_recv hK hP (ci := 3) (q0 := 7) rfl rfl, fun U hU hW => ⟨rfl, PX.at hK hE hP hS hU hW⟩⟩ rfl rfl hl.1 rfl (lv_room (Nat.le_of_ble_eq_true rfl)) dX3_readProduct_23 ⟨Nat.le_of_ble_eq_true rfl, Nat.le_of_ble_eq_true rfl⟩) hS (fun q _ h => (freeX hS) q h) (freeX hS) (fun r5905 u t H1 locs ht hvm hw hB hz1 hk1 hS => ?_)
          unfold BX at hB
          rw [ht] at hB
          have hP : va_P (dC, dI) classes (wX g c v_lp5860 F_lp5860 (g (44 + nr))) H1 := hB
          generalize H1 = H at hP hS ⊢
          have rr_r5905 := i32_rng r5905
          refine lv_bipush (v := 47) hx hb dX3_readProduct_26 (by decide) ?_
          refine lv_icmp_ne (tgt := 76) hx hb dX3_readProduct_28 (by decide) (fun c5906 => ?_) (fun c5906 => ?_)
          · skip
            have t5907 := cv_ne (a := r5905.toInt) rfl (b := 47) (by decide) c5906
            have hP9 : va_P (dC, dI) classes (wX g c v_lp5860 F_lp5860 (g (44 + nr))) H := hP
            exact W.vret hx hb hr (fun t ht hW => ⟨⟨(v_lp5860, F_lp5860, (g (44 + nr))), rfl, ⟨hI, hal, rfl, (frC (by decide) hf_lp5860 (frC (by decide) hf5859 (fun _ _ => rfl))), trivial⟩, (by show va_P _ _ _ t.heap; rw [ht]; exact hP9)⟩, hS.F ht⟩) hS.2.2 dX3_readProduct_76
          · skip
            have t5908 := cv_eq (a := r5905.toInt) rfl (b := 47) (by decide) c5906
            refine lv_aload_n hx hb dX3_readProduct_31 rfl (lv_at hl 1 rfl) ?_
            refine va_calli (va_runV (As := []) (rest := []) ⟨hx, hb, hml, hown, hwd⟩ (c_X3_next l dC dI g c adK adV v_lp5860 F_lp5860 nr H.size  hg hnr hI ) (cwV 0 hwd (gV wk_866 wk_863 wk_864 wk_865 wk_38) rfl rfl rfl (by decide +kernel) ⟨Nat.le_of_ble_eq_true rfl, Nat.le_of_ble_eq_true rfl⟩) ⟨PX.blind, va_recv hK hP (ci := 3) (q0 := 7) rfl rfl, fun U hU hW => ⟨rfl, PX.at hK hE hP hS hU hW⟩⟩ rfl rfl hl.1 rfl (lv_room (Nat.le_of_ble_eq_true rfl)) dX3_readProduct_32 ⟨Nat.le_of_ble_eq_true rfl, Nat.le_of_ble_eq_true rfl⟩) hS (fun q _ h => (freeX hS) q h) (freeX hS) (fun r5909 u t H1 locs ht hvm hw hB hz1 hk1 hS => ?_)
            unfold BX at hB
            rw [ht] at hB
            have hP : va_P (dC, dI) classes (wX g c v_lp5860 F_lp5860 (g (44 + nr))) H1 := hB
            generalize H1 = H at hP hS ⊢
            have rr_r5909 := i32_rng r5909
            refine lv_bipush (v := 42) hx hb dX3_readProduct_35 (by decide) ?_
            refine lv_icmp_ne (tgt := 45) hx hb dX3_readProduct_37 (by decide) (fun c5910 => ?_) (fun c5910 => ?_)
            · skip
              have t5911 := cv_ne (a := r5909.toInt) rfl (b := 42) (by decide) c5910
              refine lv_bipush (v := 8) hx hb dX3_readProduct_45 (by decide) ?_
              refine lv_istore_n (lv' := [(3, .int 8), (2, .int x2_lp5860), (0, .ref (g 7)), (1, .int 2)]) hx hb dX3_readProduct_47 rfl hl (by decide) rfl (fun ls hl => ?_)
              refine lv_aload_n hx hb dX3_readProduct_48 rfl (lv_at hl 2 rfl) ?_
              refine lv_dup hx hb dX3_readProduct_49 rfl ?_
              refine va_get (D := (dC, dI)) (ci := 3) (v := .int (v_lp5860 143)) (C := RX3) (T := TX3) (N := 5) hx hb hwd inA_X3 hown hK hP 7 rfl rfl 3 (by decide) (hwd _ wk_853) (fun _ h9 => h9) rfl dX3_readProduct_50 ?_
              refine lv_iconst (v := 1) hx hb dX3_readProduct_53 (by decide) ?_
              refine lv_iadd hx hb dX3_readProduct_54 ?_
              refine lv_topi (fun z5912 e5913 => ?_)
              try (have t5914 := tadd e5913 (a := (v_lp5860 143).toInt) rfl (b := 1) (by decide) (by omega))
              refine va_put (D := (dC, dI)) (ci := 3) (v := .int z5912) (ty := .int) (C := RX3) (T := TX3) (N := 5) (fs := fsX_7 g v_lp5860 (g (44 + nr))) hx hb hwd inA_X3 tyX3 tyX3_ok nmX3 hown hK hP (DX hg) hS 7 rfl rfl 3 (by decide) (hwd _ wk_853) (fun _ h9 => h9) rfl (by decide +kernel) rfl rfl (Nat.le_of_ble_eq_true rfl) dX3_readProduct_55 (fun H locs hP _ hS => ?_)
              have hP := va_P_eq (pX_143 g c _ _ _ _) hP
              have hI := IX.put0 hI 143 z5912 rfl
              have hal := (alX_v _ _ 143 z5912 (by decide) (by decide) (by decide) (by decide)).trans hal
              refine lv_aload_n hx hb dX3_readProduct_58 rfl (lv_at hl 2 rfl) ?_
              refine lv_iload_n hx hb dX3_readProduct_59 rfl (lv_at hl 3 rfl) ?_
              refine va_callv (va_runV (As := [.int 2]) (rest := []) ⟨hx, hb, hml, hown, hwd⟩ (c_X3_readOperand_2 l dC dI g c adK adV (va_up v_lp5860 143 z5912) F_lp5860 nr H.size  hg hnr hI ) (cwV 1 hwd (gV wk_895 wk_896 wk_897 wk_898 wk_38) rfl rfl rfl (by decide +kernel) ⟨Nat.le_of_ble_eq_true rfl, Nat.le_of_ble_eq_true rfl⟩) ⟨PX.blind, va_recv hK hP (ci := 3) (q0 := 7) rfl rfl, fun U hU hW => ⟨rfl, PX.at hK hE hP hS hU hW⟩⟩ rfl rfl hl.1 rfl (lv_room (Nat.le_of_ble_eq_true rfl)) dX3_readProduct_60 ⟨Nat.le_of_ble_eq_true rfl, Nat.le_of_ble_eq_true rfl⟩) hS (fun q _ h => (freeX hS) q h) (freeX hS) (fun u t H1 locs ht hvm hw hB hz1 hk1 hS => ?_)
              unfold BX at hB
              rw [ht] at hB
              obtain ⟨v5916, F5917, rc9⟩ := u
              obtain ⟨hI, hal9, hrc, hf5918, hw⟩ := hw
              dsimp only at hI hal9 hrc hB hf5918 hw
              rw [hrc] at hB
              have hal := hal9.trans hal
              have hP : va_P (dC, dI) classes (wX g c v5916 F5917 (g (44 + nr))) H1 := hB
              generalize H1 = H at hP hS ⊢
              refine lv_aload_n hx hb dX3_readProduct_63 rfl (lv_at hl 2 rfl) ?_
              refine lv_iload_n hx hb dX3_readProduct_64 rfl (lv_at hl 0 rfl) ?_
              refine lv_iconst (v := 0) hx hb dX3_readProduct_65 (by decide) ?_
              refine va_calli (va_runV (As := [.int 8, .int 0]) (rest := []) ⟨hx, hb, hml, hown, hwd⟩ (c_X3_put l dC dI g c adK adV v5916 F5917 nr H.size 8 0 hg hnr hI (by have : (8 : Int32).toInt = 8 := (by decide); omega) (by have : (0 : Int32).toInt = 0 := (by decide); omega)) (cwV 2 hwd (gV wk_882 wk_879 wk_880 wk_881 wk_38) rfl rfl rfl (by decide +kernel) ⟨Nat.le_of_ble_eq_true rfl, Nat.le_of_ble_eq_true rfl⟩) ⟨PX.blind, va_recv hK hP (ci := 3) (q0 := 7) rfl rfl, fun U hU hW => ⟨rfl, PX.at hK hE hP hS hU hW⟩⟩ rfl rfl hl.1 rfl (lv_room (Nat.le_of_ble_eq_true rfl)) dX3_readProduct_66 ⟨Nat.le_of_ble_eq_true rfl, Nat.le_of_ble_eq_true rfl⟩) hS (fun q _ h => (freeX hS) q h) (freeX hS) (fun r5919 u t H1 locs ht hvm hw hB hz1 hk1 hS => ?_)
              unfold BX at hB
              rw [ht] at hB
              obtain ⟨v5920, F5921, rc9⟩ := u
              obtain ⟨hI, hal9, hrc, hf5922, hw⟩ := hw
              dsimp only at hI hal9 hrc hB hf5922 hw
              rw [hrc] at hB
              have hal := hal9.trans hal
              have hP : va_P (dC, dI) classes (wX g c v5920 F5921 (g (44 + nr))) H1 := hB
              have hw : -1 ≤ r5919.toInt ∧ r5919.toInt ≤ 119 := hw
              have k5923 : (8 : Int32).toInt = 8 := by decide
              have k5924 : (0 : Int32).toInt = 0 := by decide
              generalize H1 = H at hP hS ⊢
              have hw_r5919 := hw
              refine lv_pop hx hb dX3_readProduct_69 rfl ?_
              obtain ⟨z5925, e5926⟩ : ∃ y : Int32, y = x2_lp5860 + 1 := ⟨_, rfl⟩
              try (have t5927 := tadd e5926 rfl (b := 1) (by decide) (by omega))
              refine lv_iinc (v := z5925) (lv' := [(2, .int z5925), (3, .int 8), (0, .ref (g 7)), (1, .int 2)]) hx hb dX3_readProduct_70 hl (k := 1) rfl (by rw [e5926]; rfl) (by decide) rfl (fun ls hl => ?_)
              refine lv_goto (tgt := 7) hx hb dX3_readProduct_73 (by decide) ?_
              exact ih_lp5860 z5925 v5920 F5921 _ _ _ (by omega) (by omega) (frC (by decide) hf5922 (frC (by decide) hf5918 (frU (by decide) hf_lp5860))) hI hal hP hS (lv_sub hl [0, 2, 3] rfl)
            · skip
              have t5928 := cv_eq (a := r5909.toInt) rfl (b := 42) (by decide) c5910
              refine lv_bipush (v := 7) hx hb dX3_readProduct_40 (by decide) ?_
              refine lv_goto (tgt := 47) hx hb dX3_readProduct_42 (by decide) ?_
              refine lv_istore_n (lv' := [(3, .int 7), (2, .int x2_lp5860), (0, .ref (g 7)), (1, .int 2)]) hx hb dX3_readProduct_47 rfl hl (by decide) rfl (fun ls hl => ?_)
              refine lv_aload_n hx hb dX3_readProduct_48 rfl (lv_at hl 2 rfl) ?_
              refine lv_dup hx hb dX3_readProduct_49 rfl ?_
              refine va_get (D := (dC, dI)) (ci := 3) (v := .int (v_lp5860 143)) (C := RX3) (T := TX3) (N := 5) hx hb hwd inA_X3 hown hK hP 7 rfl rfl 3 (by decide) (hwd _ wk_853) (fun _ h9 => h9) rfl dX3_readProduct_50 ?_
              refine lv_iconst (v := 1) hx hb dX3_readProduct_53 (by decide) ?_
              refine lv_iadd hx hb dX3_readProduct_54 ?_
              refine lv_topi (fun z5929 e5930 => ?_)
              try (have t5931 := tadd e5930 (a := (v_lp5860 143).toInt) rfl (b := 1) (by decide) (by omega))
              refine va_put (D := (dC, dI)) (ci := 3) (v := .int z5929) (ty := .int) (C := RX3) (T := TX3) (N := 5) (fs := fsX_7 g v_lp5860 (g (44 + nr))) hx hb hwd inA_X3 tyX3 tyX3_ok nmX3 hown hK hP (DX hg) hS 7 rfl rfl 3 (by decide) (hwd _ wk_853) (fun _ h9 => h9) rfl (by decide +kernel) rfl rfl (Nat.le_of_ble_eq_true rfl) dX3_readProduct_55 (fun H locs hP _ hS => ?_)
              have hP := va_P_eq (pX_143 g c _ _ _ _) hP
              have hI := IX.put0 hI 143 z5929 rfl
              have hal := (alX_v _ _ 143 z5929 (by decide) (by decide) (by decide) (by decide)).trans hal
              refine lv_aload_n hx hb dX3_readProduct_58 rfl (lv_at hl 2 rfl) ?_
              refine lv_iload_n hx hb dX3_readProduct_59 rfl (lv_at hl 3 rfl) ?_
              refine va_callv (va_runV (As := [.int 2]) (rest := []) ⟨hx, hb, hml, hown, hwd⟩ (c_X3_readOperand_2 l dC dI g c adK adV (va_up v_lp5860 143 z5929) F_lp5860 nr H.size  hg hnr hI ) (cwV 1 hwd (gV wk_895 wk_896 wk_897 wk_898 wk_38) rfl rfl rfl (by decide +kernel) ⟨Nat.le_of_ble_eq_true rfl, Nat.le_of_ble_eq_true rfl⟩) ⟨PX.blind, va_recv hK hP (ci := 3) (q0 := 7) rfl rfl, fun U hU hW => ⟨rfl, PX.at hK hE hP hS hU hW⟩⟩ rfl rfl hl.1 rfl (lv_room (Nat.le_of_ble_eq_true rfl)) dX3_readProduct_60 ⟨Nat.le_of_ble_eq_true rfl, Nat.le_of_ble_eq_true rfl⟩) hS (fun q _ h => (freeX hS) q h) (freeX hS) (fun u t H1 locs ht hvm hw hB hz1 hk1 hS => ?_)
              unfold BX at hB
              rw [ht] at hB
              obtain ⟨v5933, F5934, rc9⟩ := u
              obtain ⟨hI, hal9, hrc, hf5935, hw⟩ := hw
              dsimp only at hI hal9 hrc hB hf5935 hw
              rw [hrc] at hB
              have hal := hal9.trans hal
              have hP : va_P (dC, dI) classes (wX g c v5933 F5934 (g (44 + nr))) H1 := hB
              generalize H1 = H at hP hS ⊢
              refine lv_aload_n hx hb dX3_readProduct_63 rfl (lv_at hl 2 rfl) ?_
              refine lv_iload_n hx hb dX3_readProduct_64 rfl (lv_at hl 0 rfl) ?_
              refine lv_iconst (v := 0) hx hb dX3_readProduct_65 (by decide) ?_
              refine va_calli (va_runV (As := [.int 7, .int 0]) (rest := []) ⟨hx, hb, hml, hown, hwd⟩ (c_X3_put l dC dI g c adK adV v5933 F5934 nr H.size 7 0 hg hnr hI (by have : (7 : Int32).toInt = 7 := (by decide); omega) (by have : (0 : Int32).toInt = 0 := (by decide); omega)) (cwV 2 hwd (gV wk_882 wk_879 wk_880 wk_881 wk_38) rfl rfl rfl (by decide +kernel) ⟨Nat.le_of_ble_eq_true rfl, Nat.le_of_ble_eq_true rfl⟩) ⟨PX.blind, va_recv hK hP (ci := 3) (q0 := 7) rfl rfl, fun U hU hW => ⟨rfl, PX.at hK hE hP hS hU hW⟩⟩ rfl rfl hl.1 rfl (lv_room (Nat.le_of_ble_eq_true rfl)) dX3_readProduct_66 ⟨Nat.le_of_ble_eq_true rfl, Nat.le_of_ble_eq_true rfl⟩) hS (fun q _ h => (freeX hS) q h) (freeX hS) (fun r5936 u t H1 locs ht hvm hw hB hz1 hk1 hS => ?_)
              unfold BX at hB
              rw [ht] at hB
              obtain ⟨v5937, F5938, rc9⟩ := u
              obtain ⟨hI, hal9, hrc, hf5939, hw⟩ := hw
              dsimp only at hI hal9 hrc hB hf5939 hw
              rw [hrc] at hB
              have hal := hal9.trans hal
              have hP : va_P (dC, dI) classes (wX g c v5937 F5938 (g (44 + nr))) H1 := hB
              have hw : -1 ≤ r5936.toInt ∧ r5936.toInt ≤ 119 := hw
              have k5940 : (7 : Int32).toInt = 7 := by decide
              have k5941 : (0 : Int32).toInt = 0 := by decide
              generalize H1 = H at hP hS ⊢
              have hw_r5936 := hw
              refine lv_pop hx hb dX3_readProduct_69 rfl ?_
              obtain ⟨z5942, e5943⟩ : ∃ y : Int32, y = x2_lp5860 + 1 := ⟨_, rfl⟩
              try (have t5944 := tadd e5943 rfl (b := 1) (by decide) (by omega))
              refine lv_iinc (v := z5942) (lv' := [(2, .int z5942), (3, .int 7), (0, .ref (g 7)), (1, .int 2)]) hx hb dX3_readProduct_70 hl (k := 1) rfl (by rw [e5943]; rfl) (by decide) rfl (fun ls hl => ?_)
              refine lv_goto (tgt := 7) hx hb dX3_readProduct_73 (by decide) ?_
              exact ih_lp5860 z5942 v5937 F5938 _ _ _ (by omega) (by omega) (frC (by decide) hf5939 (frC (by decide) hf5935 (frU (by decide) hf_lp5860))) hI hal hP hS (lv_sub hl [0, 2, 3] rfl)
  obtain ⟨n9, hn9⟩ : ∃ n : Nat, 2147483648 - 0 ≤ (n : Int) := ⟨((2147483648 - 0 : Int)).toNat, by omega⟩
  exact lp5860 n9 0 v5857 F5858 H _ ls (by have : (0 : Int32).toInt = 0 := (by decide); omega) (by have : (0 : Int32).toInt = 0 := (by decide); omega) (fun _ _ => rfl) hI hal hP hS hl
set_option maxHeartbeats 8000000 in
set_option maxRecDepth 100000 in
theorem c_X3_readSum_2 (l : Launch) (dC : Nat → ClassId) (dI : Nat → Nat → Nat) (g : Nat → Nat) (c : Nat → ClassId) (adK adV : Nat → Nat) (v : Nat → Int32) (F : Nat → Nat → Int32) (nr sz : Nat) (hg : injX g) (hnr : nr < 10) (hI : IX v F) : Met l yX3_readSum (Cond.code yX3_readSum cX3_readSum 4 none :: wA) ({ frames := 38, cells := 0, slots := 0, locals := 1520 }) (va_Pc [.ref (g 7), .int 2] (PX dC dI g c adK adV v F (g (44 + nr)) sz)) (va_Qv (fun (u : StX) => IX u.1 u.2.1 ∧ alX u.1 u.2.1 = alX v F ∧ u.2.2 = (g (44 + nr)) ∧ (∀ k, k ∉ ([142, 143, 144] : List Nat) → u.1 k = v k) ∧ True) (BX dC dI g c) (AX g sz)) 0 0 (AX g sz) := by
  refine Met.ofW (cc := cX3_readSum) (maxL := 4) (ret := none) (by decide) rfl ?_
  intro p e s m args below meth c0 s₁ B hml hv
  obtain ⟨rfl, hsz, hP, hK, hE⟩ := hv
  have hx := B.exec
  have hb := B.bytes
  have hr := B.returns
  have hts := atoms_spec (ws := Cond.code yX3_readSum cX3_readSum 4 none :: wA) B.pre
  have hwd : ∀ w ∈ wA, w.before _ s = true := fun w h => hts w (List.mem_cons_of_mem _ h)
  have hown : s.vm.findClass RX3 = some m.cls := findClass_of_methodNamed B.named
  have hlocks := B.notSynchronized
  subst hsz
  have hl := lv_entry ([.ref (g 7), .int 2]) (n := 4) (Nat.le_of_ble_eq_true rfl)
  rw [lg_entry_eq]
  generalize (lg_sl ([.ref (g 7), .int 2]) ++ List.replicate (4 - (lg_sl ([.ref (g 7), .int 2])).length) Slot.unset).toArray = ls at hl ⊢
  have hl : lv_has ls 4 [(0, .ref (g 7)), (1, .int 2)] := hl
  obtain ⟨H, eH⟩ : ∃ z, z = s.heap := ⟨_, rfl⟩
  have hP : va_P (dC, dI) classes (wX g c v F (g (44 + nr))) H := by rw [eH]; exact hP
  have hS : va_S (AX g s.heap.size) s.heap H [] := by rw [eH]; exact va_S.rf
  refine my_heap eH ?_
  have hal : alX v F = alX v F := rfl
  refine lv_aload_n hx hb dX3_readSum_0 rfl (lv_at hl 0 rfl) ?_
  refine lv_iload_n hx hb dX3_readSum_1 rfl (lv_at hl 1 rfl) ?_
  refine va_callv (va_runV (As := [.int 2]) (rest := []) ⟨hx, hb, hml, hown, hwd⟩ (c_X3_readProduct_2 l dC dI g c adK adV v F nr H.size  hg hnr hI ) (cwV 1 hwd (gV wk_989 wk_991 wk_992 wk_993 wk_38) rfl rfl rfl (by decide +kernel) ⟨Nat.le_of_ble_eq_true rfl, Nat.le_of_ble_eq_true rfl⟩) ⟨PX.blind, va_recv hK hP (ci := 3) (q0 := 7) rfl rfl, fun U hU hW => ⟨rfl, PX.at hK hE hP hS hU hW⟩⟩ rfl rfl hl.1 rfl (lv_room (Nat.le_of_ble_eq_true rfl)) dX3_readSum_2 ⟨Nat.le_of_ble_eq_true rfl, Nat.le_of_ble_eq_true rfl⟩) hS (fun q _ h => (freeX hS) q h) (freeX hS) (fun u t H1 locs ht hvm hw hB hz1 hk1 hS => ?_)
  unfold BX at hB
  rw [ht] at hB
  obtain ⟨v5946, F5947, rc9⟩ := u
  obtain ⟨hI, hal9, hrc, hf5948, hw⟩ := hw
  dsimp only at hI hal9 hrc hB hf5948 hw
  rw [hrc] at hB
  have hal := hal9.trans hal
  have hP : va_P (dC, dI) classes (wX g c v5946 F5947 (g (44 + nr))) H1 := hB
  generalize H1 = H at hP hS ⊢
  refine lv_iconst (v := 0) hx hb dX3_readSum_5 (by decide) ?_
  refine lv_istore_n (lv' := [(2, .int 0), (0, .ref (g 7)), (1, .int 2)]) hx hb dX3_readSum_6 rfl hl (by decide) rfl (fun ls hl => ?_)
  have lp5949 : ∀ (n : Nat) (x2_lp5949 : Int32) (v_lp5949 : Nat → Int32) (F_lp5949 : Nat → Nat → Int32) (H : Heap) (locs : List Loc) (ls : Array Slot), (0 ≤ x2_lp5949.toInt) → (2147483648 - x2_lp5949.toInt ≤ (n : Int)) → (∀ k, k ∉ ([142, 143, 144] : List Nat) → v_lp5949 k = v5946 k) → IX v_lp5949 F_lp5949 → alX v_lp5949 F_lp5949 = alX v F → va_P (dC, dI) classes (wX g c v_lp5949 F_lp5949 (g (44 + nr))) H → va_S (AX g s.heap.size) s.heap H locs → lv_has ls 4 [(2, .int x2_lp5949), (0, .ref (g 7)), (1, .int 2)] → W p l e (headSpec (Cond.code yX3_readSum cX3_readSum 4 none :: wA) ({ frames := 38, cells := 0, slots := 0, locals := 1520 })).room s m ([.ref (g 7), .int 2] : List Value).toArray below meth c0 H locs 0 0 (MQ below (va_Qv (fun (u : StX) => IX u.1 u.2.1 ∧ alX u.1 u.2.1 = alX v F ∧ u.2.2 = (g (44 + nr)) ∧ (∀ k, k ∉ ([142, 143, 144] : List Nat) → u.1 k = v k) ∧ True) (BX dC dI g c) (AX g s.heap.size)) ([.ref (g 7), .int 2] : List Value).toArray s 0 0 (AX g s.heap.size)) (F0 m 7 ls []) := by
    intro n
    induction n with
    | zero =>
      intro x2_lp5949 v_lp5949 F_lp5949 H locs ls t5950 hm hf_lp5949 hI hal hP hS hl
      exfalso
      have := i32_rng x2_lp5949
      have hI1 := hI.1
      omega
    | succ n ih_lp5949 =>
      intro x2_lp5949 v_lp5949 F_lp5949 H locs ls t5950 hm hf_lp5949 hI hal hP hS hl
      have rx2_lp5949 := i32_rng x2_lp5949
      refine lv_iload_n hx hb dX3_readSum_7 rfl (lv_at hl 0 rfl) ?_
      refine lv_bipush (v := 120) hx hb dX3_readSum_8 (by decide) ?_
      refine lv_icmp_ge (tgt := 75) hx hb dX3_readSum_10 (by decide) (fun c5951 => ?_) (fun c5951 => ?_)
      · skip
        have t5952 := cv_le (a := 120) (by decide) (b := x2_lp5949.toInt) rfl c5951
        have hP9 : va_P (dC, dI) classes (wX g c v_lp5949 F_lp5949 (g (44 + nr))) H := hP
        exact W.vret hx hb hr (fun t ht hW => ⟨⟨(v_lp5949, F_lp5949, (g (44 + nr))), rfl, ⟨hI, hal, rfl, (frC (by decide) hf_lp5949 (frC (by decide) hf5948 (fun _ _ => rfl))), trivial⟩, (by show va_P _ _ _ t.heap; rw [ht]; exact hP9)⟩, hS.F ht⟩) hS.2.2 dX3_readSum_75
      · skip
        have t5953 := cv_nle (a := 120) (by decide) (b := x2_lp5949.toInt) rfl c5951
        refine lv_aload_n hx hb dX3_readSum_13 rfl (lv_at hl 1 rfl) ?_
        refine va_calli (va_runV (As := []) (rest := []) ⟨hx, hb, hml, hown, hwd⟩ (c_X3_next l dC dI g c adK adV v_lp5949 F_lp5949 nr H.size  hg hnr hI ) (cwV 0 hwd (gV wk_866 wk_863 wk_864 wk_865 wk_38) rfl rfl rfl (by decide +kernel) ⟨Nat.le_of_ble_eq_true rfl, Nat.le_of_ble_eq_true rfl⟩) ⟨PX.blind, va_recv hK hP (ci := 3) (q0 := 7) rfl rfl, fun U hU hW => ⟨rfl, PX.at hK hE hP hS hU hW⟩⟩ rfl rfl hl.1 rfl (lv_room (Nat.le_of_ble_eq_true rfl)) dX3_readSum_14 ⟨Nat.le_of_ble_eq_true rfl, Nat.le_of_ble_eq_true rfl⟩) hS (fun q _ h => (freeX hS) q h) (freeX hS) (fun r5954 u t H1 locs ht hvm hw hB hz1 hk1 hS => ?_)
        unfold BX at hB
        rw [ht] at hB
        have hP : va_P (dC, dI) classes (wX g c v_lp5949 F_lp5949 (g (44 + nr))) H1 := hB
        generalize H1 = H at hP hS ⊢
        have rr_r5954 := i32_rng r5954
        refine lv_bipush (v := 43) hx hb dX3_readSum_17 (by decide) ?_
        refine lv_icmp_eq (tgt := 31) hx hb dX3_readSum_19 (by decide) (fun c5955 => ?_) (fun c5955 => ?_)
        · skip
          have t5956 := cv_eq (a := r5954.toInt) rfl (b := 43) (by decide) c5955
          refine lv_aload_n hx hb dX3_readSum_31 rfl (lv_at hl 1 rfl) ?_
          refine va_calli (va_runV (As := []) (rest := []) ⟨hx, hb, hml, hown, hwd⟩ (c_X3_next l dC dI g c adK adV v_lp5949 F_lp5949 nr H.size  hg hnr hI ) (cwV 0 hwd (gV wk_866 wk_863 wk_864 wk_865 wk_38) rfl rfl rfl (by decide +kernel) ⟨Nat.le_of_ble_eq_true rfl, Nat.le_of_ble_eq_true rfl⟩) ⟨PX.blind, va_recv hK hP (ci := 3) (q0 := 7) rfl rfl, fun U hU hW => ⟨rfl, PX.at hK hE hP hS hU hW⟩⟩ rfl rfl hl.1 rfl (lv_room (Nat.le_of_ble_eq_true rfl)) dX3_readSum_32 ⟨Nat.le_of_ble_eq_true rfl, Nat.le_of_ble_eq_true rfl⟩) hS (fun q _ h => (freeX hS) q h) (freeX hS) (fun r5957 u t H1 locs ht hvm hw hB hz1 hk1 hS => ?_)
          unfold BX at hB
          rw [ht] at hB
          have hP : va_P (dC, dI) classes (wX g c v_lp5949 F_lp5949 (g (44 + nr))) H1 := hB
          generalize H1 = H at hP hS ⊢
          have rr_r5957 := i32_rng r5957
          refine lv_bipush (v := 43) hx hb dX3_readSum_35 (by decide) ?_
          refine lv_icmp_ne (tgt := 44) hx hb dX3_readSum_37 (by decide) (fun c5958 => ?_) (fun c5958 => ?_)
          · skip
            have t5959 := cv_ne (a := r5957.toInt) rfl (b := 43) (by decide) c5958
            refine lv_bipush (v := 6) hx hb dX3_readSum_44 (by decide) ?_
            refine lv_istore_n (lv' := [(3, .int 6), (2, .int x2_lp5949), (0, .ref (g 7)), (1, .int 2)]) hx hb dX3_readSum_46 rfl hl (by decide) rfl (fun ls hl => ?_)
            refine lv_aload_n hx hb dX3_readSum_47 rfl (lv_at hl 2 rfl) ?_
            refine lv_dup hx hb dX3_readSum_48 rfl ?_
            refine va_get (D := (dC, dI)) (ci := 3) (v := .int (v_lp5949 143)) (C := RX3) (T := TX3) (N := 5) hx hb hwd inA_X3 hown hK hP 7 rfl rfl 3 (by decide) (hwd _ wk_853) (fun _ h9 => h9) rfl dX3_readSum_49 ?_
            refine lv_iconst (v := 1) hx hb dX3_readSum_52 (by decide) ?_
            refine lv_iadd hx hb dX3_readSum_53 ?_
            refine lv_topi (fun z5960 e5961 => ?_)
            try (have t5962 := tadd e5961 (a := (v_lp5949 143).toInt) rfl (b := 1) (by decide) (by omega))
            refine va_put (D := (dC, dI)) (ci := 3) (v := .int z5960) (ty := .int) (C := RX3) (T := TX3) (N := 5) (fs := fsX_7 g v_lp5949 (g (44 + nr))) hx hb hwd inA_X3 tyX3 tyX3_ok nmX3 hown hK hP (DX hg) hS 7 rfl rfl 3 (by decide) (hwd _ wk_853) (fun _ h9 => h9) rfl (by decide +kernel) rfl rfl (Nat.le_of_ble_eq_true rfl) dX3_readSum_54 (fun H locs hP _ hS => ?_)
            have hP := va_P_eq (pX_143 g c _ _ _ _) hP
            have hI := IX.put0 hI 143 z5960 rfl
            have hal := (alX_v _ _ 143 z5960 (by decide) (by decide) (by decide) (by decide)).trans hal
            refine lv_aload_n hx hb dX3_readSum_57 rfl (lv_at hl 2 rfl) ?_
            refine lv_iload_n hx hb dX3_readSum_58 rfl (lv_at hl 3 rfl) ?_
            refine va_callv (va_runV (As := [.int 2]) (rest := []) ⟨hx, hb, hml, hown, hwd⟩ (c_X3_readProduct_2 l dC dI g c adK adV (va_up v_lp5949 143 z5960) F_lp5949 nr H.size  hg hnr hI ) (cwV 1 hwd (gV wk_989 wk_991 wk_992 wk_993 wk_38) rfl rfl rfl (by decide +kernel) ⟨Nat.le_of_ble_eq_true rfl, Nat.le_of_ble_eq_true rfl⟩) ⟨PX.blind, va_recv hK hP (ci := 3) (q0 := 7) rfl rfl, fun U hU hW => ⟨rfl, PX.at hK hE hP hS hU hW⟩⟩ rfl rfl hl.1 rfl (lv_room (Nat.le_of_ble_eq_true rfl)) dX3_readSum_59 ⟨Nat.le_of_ble_eq_true rfl, Nat.le_of_ble_eq_true rfl⟩) hS (fun q _ h => (freeX hS) q h) (freeX hS) (fun u t H1 locs ht hvm hw hB hz1 hk1 hS => ?_)
            unfold BX at hB
            rw [ht] at hB
            obtain ⟨v5964, F5965, rc9⟩ := u
            obtain ⟨hI, hal9, hrc, hf5966, hw⟩ := hw
            dsimp only at hI hal9 hrc hB hf5966 hw
            rw [hrc] at hB
            have hal := hal9.trans hal
            have hP : va_P (dC, dI) classes (wX g c v5964 F5965 (g (44 + nr))) H1 := hB
            generalize H1 = H at hP hS ⊢
            refine lv_aload_n hx hb dX3_readSum_62 rfl (lv_at hl 2 rfl) ?_
            refine lv_iload_n hx hb dX3_readSum_63 rfl (lv_at hl 0 rfl) ?_
            refine lv_iconst (v := 0) hx hb dX3_readSum_64 (by decide) ?_
            refine va_calli (va_runV (As := [.int 6, .int 0]) (rest := []) ⟨hx, hb, hml, hown, hwd⟩ (c_X3_put l dC dI g c adK adV v5964 F5965 nr H.size 6 0 hg hnr hI (by have : (6 : Int32).toInt = 6 := (by decide); omega) (by have : (0 : Int32).toInt = 0 := (by decide); omega)) (cwV 2 hwd (gV wk_882 wk_879 wk_880 wk_881 wk_38) rfl rfl rfl (by decide +kernel) ⟨Nat.le_of_ble_eq_true rfl, Nat.le_of_ble_eq_true rfl⟩) ⟨PX.blind, va_recv hK hP (ci := 3) (q0 := 7) rfl rfl, fun U hU hW => ⟨rfl, PX.at hK hE hP hS hU hW⟩⟩ rfl rfl hl.1 rfl (lv_room (Nat.le_of_ble_eq_true rfl)) dX3_readSum_65 ⟨Nat.le_of_ble_eq_true rfl, Nat.le_of_ble_eq_true rfl⟩) hS (fun q _ h => (freeX hS) q h) (freeX hS) (fun r5967 u t H1 locs ht hvm hw hB hz1 hk1 hS => ?_)
            unfold BX at hB
            rw [ht] at hB
            obtain ⟨v5968, F5969, rc9⟩ := u
            obtain ⟨hI, hal9, hrc, hf5970, hw⟩ := hw
            dsimp only at hI hal9 hrc hB hf5970 hw
            rw [hrc] at hB
            have hal := hal9.trans hal
            have hP : va_P (dC, dI) classes (wX g c v5968 F5969 (g (44 + nr))) H1 := hB
            have hw : -1 ≤ r5967.toInt ∧ r5967.toInt ≤ 119 := hw
            have k5971 : (6 : Int32).toInt = 6 := by decide
            have k5972 : (0 : Int32).toInt = 0 := by decide
            generalize H1 = H at hP hS ⊢
            have hw_r5967 := hw
            refine lv_pop hx hb dX3_readSum_68 rfl ?_
            obtain ⟨z5973, e5974⟩ : ∃ y : Int32, y = x2_lp5949 + 1 := ⟨_, rfl⟩
            try (have t5975 := tadd e5974 rfl (b := 1) (by decide) (by omega))
            refine lv_iinc (v := z5973) (lv' := [(2, .int z5973), (3, .int 6), (0, .ref (g 7)), (1, .int 2)]) hx hb dX3_readSum_69 hl (k := 1) rfl (by rw [e5974]; rfl) (by decide) rfl (fun ls hl => ?_)
            refine lv_goto (tgt := 7) hx hb dX3_readSum_72 (by decide) ?_
            exact ih_lp5949 z5973 v5968 F5969 _ _ _ (by omega) (by omega) (frC (by decide) hf5970 (frC (by decide) hf5966 (frU (by decide) hf_lp5949))) hI hal hP hS (lv_sub hl [0, 2, 3] rfl)
          · skip
            have t5976 := cv_eq (a := r5957.toInt) rfl (b := 43) (by decide) c5958
            refine lv_iconst (v := 5) hx hb dX3_readSum_40 (by decide) ?_
            refine lv_goto (tgt := 46) hx hb dX3_readSum_41 (by decide) ?_
            refine lv_istore_n (lv' := [(3, .int 5), (2, .int x2_lp5949), (0, .ref (g 7)), (1, .int 2)]) hx hb dX3_readSum_46 rfl hl (by decide) rfl (fun ls hl => ?_)
            refine lv_aload_n hx hb dX3_readSum_47 rfl (lv_at hl 2 rfl) ?_
            refine lv_dup hx hb dX3_readSum_48 rfl ?_
            refine va_get (D := (dC, dI)) (ci := 3) (v := .int (v_lp5949 143)) (C := RX3) (T := TX3) (N := 5) hx hb hwd inA_X3 hown hK hP 7 rfl rfl 3 (by decide) (hwd _ wk_853) (fun _ h9 => h9) rfl dX3_readSum_49 ?_
            refine lv_iconst (v := 1) hx hb dX3_readSum_52 (by decide) ?_
            refine lv_iadd hx hb dX3_readSum_53 ?_
            refine lv_topi (fun z5977 e5978 => ?_)
            try (have t5979 := tadd e5978 (a := (v_lp5949 143).toInt) rfl (b := 1) (by decide) (by omega))
            refine va_put (D := (dC, dI)) (ci := 3) (v := .int z5977) (ty := .int) (C := RX3) (T := TX3) (N := 5) (fs := fsX_7 g v_lp5949 (g (44 + nr))) hx hb hwd inA_X3 tyX3 tyX3_ok nmX3 hown hK hP (DX hg) hS 7 rfl rfl 3 (by decide) (hwd _ wk_853) (fun _ h9 => h9) rfl (by decide +kernel) rfl rfl (Nat.le_of_ble_eq_true rfl) dX3_readSum_54 (fun H locs hP _ hS => ?_)
            have hP := va_P_eq (pX_143 g c _ _ _ _) hP
            have hI := IX.put0 hI 143 z5977 rfl
            have hal := (alX_v _ _ 143 z5977 (by decide) (by decide) (by decide) (by decide)).trans hal
            refine lv_aload_n hx hb dX3_readSum_57 rfl (lv_at hl 2 rfl) ?_
            refine lv_iload_n hx hb dX3_readSum_58 rfl (lv_at hl 3 rfl) ?_
            refine va_callv (va_runV (As := [.int 2]) (rest := []) ⟨hx, hb, hml, hown, hwd⟩ (c_X3_readProduct_2 l dC dI g c adK adV (va_up v_lp5949 143 z5977) F_lp5949 nr H.size  hg hnr hI ) (cwV 1 hwd (gV wk_989 wk_991 wk_992 wk_993 wk_38) rfl rfl rfl (by decide +kernel) ⟨Nat.le_of_ble_eq_true rfl, Nat.le_of_ble_eq_true rfl⟩) ⟨PX.blind, va_recv hK hP (ci := 3) (q0 := 7) rfl rfl, fun U hU hW => ⟨rfl, PX.at hK hE hP hS hU hW⟩⟩ rfl rfl hl.1 rfl (lv_room (Nat.le_of_ble_eq_true rfl)) dX3_readSum_59 ⟨Nat.le_of_ble_eq_true rfl, Nat.le_of_ble_eq_true rfl⟩) hS (fun q _ h => (freeX hS) q h) (freeX hS) (fun u t H1 locs ht hvm hw hB hz1 hk1 hS => ?_)
            unfold BX at hB
            rw [ht] at hB
            obtain ⟨v5981, F5982, rc9⟩ := u
            obtain ⟨hI, hal9, hrc, hf5983, hw⟩ := hw
            dsimp only at hI hal9 hrc hB hf5983 hw
            rw [hrc] at hB
            have hal := hal9.trans hal
            have hP : va_P (dC, dI) classes (wX g c v5981 F5982 (g (44 + nr))) H1 := hB
            generalize H1 = H at hP hS ⊢
            refine lv_aload_n hx hb dX3_readSum_62 rfl (lv_at hl 2 rfl) ?_
            refine lv_iload_n hx hb dX3_readSum_63 rfl (lv_at hl 0 rfl) ?_
            refine lv_iconst (v := 0) hx hb dX3_readSum_64 (by decide) ?_
            refine va_calli (va_runV (As := [.int 5, .int 0]) (rest := []) ⟨hx, hb, hml, hown, hwd⟩ (c_X3_put l dC dI g c adK adV v5981 F5982 nr H.size 5 0 hg hnr hI (by have : (5 : Int32).toInt = 5 := (by decide); omega) (by have : (0 : Int32).toInt = 0 := (by decide); omega)) (cwV 2 hwd (gV wk_882 wk_879 wk_880 wk_881 wk_38) rfl rfl rfl (by decide +kernel) ⟨Nat.le_of_ble_eq_true rfl, Nat.le_of_ble_eq_true rfl⟩) ⟨PX.blind, va_recv hK hP (ci := 3) (q0 := 7) rfl rfl, fun U hU hW => ⟨rfl, PX.at hK hE hP hS hU hW⟩⟩ rfl rfl hl.1 rfl (lv_room (Nat.le_of_ble_eq_true rfl)) dX3_readSum_65 ⟨Nat.le_of_ble_eq_true rfl, Nat.le_of_ble_eq_true rfl⟩) hS (fun q _ h => (freeX hS) q h) (freeX hS) (fun r5984 u t H1 locs ht hvm hw hB hz1 hk1 hS => ?_)
            unfold BX at hB
            rw [ht] at hB
            obtain ⟨v5985, F5986, rc9⟩ := u
            obtain ⟨hI, hal9, hrc, hf5987, hw⟩ := hw
            dsimp only at hI hal9 hrc hB hf5987 hw
            rw [hrc] at hB
            have hal := hal9.trans hal
            have hP : va_P (dC, dI) classes (wX g c v5985 F5986 (g (44 + nr))) H1 := hB
            have hw : -1 ≤ r5984.toInt ∧ r5984.toInt ≤ 119 := hw
            have k5988 : (5 : Int32).toInt = 5 := by decide
            have k5989 : (0 : Int32).toInt = 0 := by decide
            generalize H1 = H at hP hS ⊢
            have hw_r5984 := hw
            refine lv_pop hx hb dX3_readSum_68 rfl ?_
            obtain ⟨z5990, e5991⟩ : ∃ y : Int32, y = x2_lp5949 + 1 := ⟨_, rfl⟩
            try (have t5992 := tadd e5991 rfl (b := 1) (by decide) (by omega))
            refine lv_iinc (v := z5990) (lv' := [(2, .int z5990), (3, .int 5), (0, .ref (g 7)), (1, .int 2)]) hx hb dX3_readSum_69 hl (k := 1) rfl (by rw [e5991]; rfl) (by decide) rfl (fun ls hl => ?_)
            refine lv_goto (tgt := 7) hx hb dX3_readSum_72 (by decide) ?_
            exact ih_lp5949 z5990 v5985 F5986 _ _ _ (by omega) (by omega) (frC (by decide) hf5987 (frC (by decide) hf5983 (frU (by decide) hf_lp5949))) hI hal hP hS (lv_sub hl [0, 2, 3] rfl)
        · skip
          have t5993 := cv_ne (a := r5954.toInt) rfl (b := 43) (by decide) c5955
          refine lv_aload_n hx hb dX3_readSum_22 rfl (lv_at hl 1 rfl) ?_
          refine va_calli (va_runV (As := []) (rest := []) ⟨hx, hb, hml, hown, hwd⟩ (c_X3_next l dC dI g c adK adV v_lp5949 F_lp5949 nr H.size  hg hnr hI ) (cwV 0 hwd (gV wk_866 wk_863 wk_864 wk_865 wk_38) rfl rfl rfl (by decide +kernel) ⟨Nat.le_of_ble_eq_true rfl, Nat.le_of_ble_eq_true rfl⟩) ⟨PX.blind, va_recv hK hP (ci := 3) (q0 := 7) rfl rfl, fun U hU hW => ⟨rfl, PX.at hK hE hP hS hU hW⟩⟩ rfl rfl hl.1 rfl (lv_room (Nat.le_of_ble_eq_true rfl)) dX3_readSum_23 ⟨Nat.le_of_ble_eq_true rfl, Nat.le_of_ble_eq_true rfl⟩) hS (fun q _ h => (freeX hS) q h) (freeX hS) (fun r5994 u t H1 locs ht hvm hw hB hz1 hk1 hS => ?_)
          unfold BX at hB
          rw [ht] at hB
          have hP : va_P (dC, dI) classes (wX g c v_lp5949 F_lp5949 (g (44 + nr))) H1 := hB
          generalize H1 = H at hP hS ⊢
          have rr_r5994 := i32_rng r5994
          refine lv_bipush (v := 45) hx hb dX3_readSum_26 (by decide) ?_
          refine lv_icmp_ne (tgt := 75) hx hb dX3_readSum_28 (by decide) (fun c5995 => ?_) (fun c5995 => ?_)
          · skip
            have t5996 := cv_ne (a := r5994.toInt) rfl (b := 45) (by decide) c5995
            have hP9 : va_P (dC, dI) classes (wX g c v_lp5949 F_lp5949 (g (44 + nr))) H := hP
            exact W.vret hx hb hr (fun t ht hW => ⟨⟨(v_lp5949, F_lp5949, (g (44 + nr))), rfl, ⟨hI, hal, rfl, (frC (by decide) hf_lp5949 (frC (by decide) hf5948 (fun _ _ => rfl))), trivial⟩, (by show va_P _ _ _ t.heap; rw [ht]; exact hP9)⟩, hS.F ht⟩) hS.2.2 dX3_readSum_75
          · skip
            have t5997 := cv_eq (a := r5994.toInt) rfl (b := 45) (by decide) c5995
            refine lv_aload_n hx hb dX3_readSum_31 rfl (lv_at hl 1 rfl) ?_
            refine va_calli (va_runV (As := []) (rest := []) ⟨hx, hb, hml, hown, hwd⟩ (c_X3_next l dC dI g c adK adV v_lp5949 F_lp5949 nr H.size  hg hnr hI ) (cwV 0 hwd (gV wk_866 wk_863 wk_864 wk_865 wk_38) rfl rfl rfl (by decide +kernel) ⟨Nat.le_of_ble_eq_true rfl, Nat.le_of_ble_eq_true rfl⟩) ⟨PX.blind, va_recv hK hP (ci := 3) (q0 := 7) rfl rfl, fun U hU hW => ⟨rfl, PX.at hK hE hP hS hU hW⟩⟩ rfl rfl hl.1 rfl (lv_room (Nat.le_of_ble_eq_true rfl)) dX3_readSum_32 ⟨Nat.le_of_ble_eq_true rfl, Nat.le_of_ble_eq_true rfl⟩) hS (fun q _ h => (freeX hS) q h) (freeX hS) (fun r5998 u t H1 locs ht hvm hw hB hz1 hk1 hS => ?_)
            unfold BX at hB
            rw [ht] at hB
            have hP : va_P (dC, dI) classes (wX g c v_lp5949 F_lp5949 (g (44 + nr))) H1 := hB
            generalize H1 = H at hP hS ⊢
            have rr_r5998 := i32_rng r5998
            refine lv_bipush (v := 43) hx hb dX3_readSum_35 (by decide) ?_
            refine lv_icmp_ne (tgt := 44) hx hb dX3_readSum_37 (by decide) (fun c5999 => ?_) (fun c5999 => ?_)
            · skip
              have t6000 := cv_ne (a := r5998.toInt) rfl (b := 43) (by decide) c5999
              refine lv_bipush (v := 6) hx hb dX3_readSum_44 (by decide) ?_
              refine lv_istore_n (lv' := [(3, .int 6), (2, .int x2_lp5949), (0, .ref (g 7)), (1, .int 2)]) hx hb dX3_readSum_46 rfl hl (by decide) rfl (fun ls hl => ?_)
              refine lv_aload_n hx hb dX3_readSum_47 rfl (lv_at hl 2 rfl) ?_
              refine lv_dup hx hb dX3_readSum_48 rfl ?_
              refine va_get (D := (dC, dI)) (ci := 3) (v := .int (v_lp5949 143)) (C := RX3) (T := TX3) (N := 5) hx hb hwd inA_X3 hown hK hP 7 rfl rfl 3 (by decide) (hwd _ wk_853) (fun _ h9 => h9) rfl dX3_readSum_49 ?_
              refine lv_iconst (v := 1) hx hb dX3_readSum_52 (by decide) ?_
              refine lv_iadd hx hb dX3_readSum_53 ?_
              refine lv_topi (fun z6001 e6002 => ?_)
              try (have t6003 := tadd e6002 (a := (v_lp5949 143).toInt) rfl (b := 1) (by decide) (by omega))
              refine va_put (D := (dC, dI)) (ci := 3) (v := .int z6001) (ty := .int) (C := RX3) (T := TX3) (N := 5) (fs := fsX_7 g v_lp5949 (g (44 + nr))) hx hb hwd inA_X3 tyX3 tyX3_ok nmX3 hown hK hP (DX hg) hS 7 rfl rfl 3 (by decide) (hwd _ wk_853) (fun _ h9 => h9) rfl (by decide +kernel) rfl rfl (Nat.le_of_ble_eq_true rfl) dX3_readSum_54 (fun H locs hP _ hS => ?_)
              have hP := va_P_eq (pX_143 g c _ _ _ _) hP
              have hI := IX.put0 hI 143 z6001 rfl
              have hal := (alX_v _ _ 143 z6001 (by decide) (by decide) (by decide) (by decide)).trans hal
              refine lv_aload_n hx hb dX3_readSum_57 rfl (lv_at hl 2 rfl) ?_
              refine lv_iload_n hx hb dX3_readSum_58 rfl (lv_at hl 3 rfl) ?_
              refine va_callv (va_runV (As := [.int 2]) (rest := []) ⟨hx, hb, hml, hown, hwd⟩ (c_X3_readProduct_2 l dC dI g c adK adV (va_up v_lp5949 143 z6001) F_lp5949 nr H.size  hg hnr hI ) (cwV 1 hwd (gV wk_989 wk_991 wk_992 wk_993 wk_38) rfl rfl rfl (by decide +kernel) ⟨Nat.le_of_ble_eq_true rfl, Nat.le_of_ble_eq_true rfl⟩) ⟨PX.blind, va_recv hK hP (ci := 3) (q0 := 7) rfl rfl, fun U hU hW => ⟨rfl, PX.at hK hE hP hS hU hW⟩⟩ rfl rfl hl.1 rfl (lv_room (Nat.le_of_ble_eq_true rfl)) dX3_readSum_59 ⟨Nat.le_of_ble_eq_true rfl, Nat.le_of_ble_eq_true rfl⟩) hS (fun q _ h => (freeX hS) q h) (freeX hS) (fun u t H1 locs ht hvm hw hB hz1 hk1 hS => ?_)
              unfold BX at hB
              rw [ht] at hB
              obtain ⟨v6005, F6006, rc9⟩ := u
              obtain ⟨hI, hal9, hrc, hf6007, hw⟩ := hw
              dsimp only at hI hal9 hrc hB hf6007 hw
              rw [hrc] at hB
              have hal := hal9.trans hal
              have hP : va_P (dC, dI) classes (wX g c v6005 F6006 (g (44 + nr))) H1 := hB
              generalize H1 = H at hP hS ⊢
              refine lv_aload_n hx hb dX3_readSum_62 rfl (lv_at hl 2 rfl) ?_
              refine lv_iload_n hx hb dX3_readSum_63 rfl (lv_at hl 0 rfl) ?_
              refine lv_iconst (v := 0) hx hb dX3_readSum_64 (by decide) ?_
              refine va_calli (va_runV (As := [.int 6, .int 0]) (rest := []) ⟨hx, hb, hml, hown, hwd⟩ (c_X3_put l dC dI g c adK adV v6005 F6006 nr H.size 6 0 hg hnr hI (by have : (6 : Int32).toInt = 6 := (by decide); omega) (by have : (0 : Int32).toInt = 0 := (by decide); omega)) (cwV 2 hwd (gV wk_882 wk_879 wk_880 wk_881 wk_38) rfl rfl rfl (by decide +kernel) ⟨Nat.le_of_ble_eq_true rfl, Nat.le_of_ble_eq_true rfl⟩) ⟨PX.blind, va_recv hK hP (ci := 3) (q0 := 7) rfl rfl, fun U hU hW => ⟨rfl, PX.at hK hE hP hS hU hW⟩⟩ rfl rfl hl.1 rfl (lv_room (Nat.le_of_ble_eq_true rfl)) dX3_readSum_65 ⟨Nat.le_of_ble_eq_true rfl, Nat.le_of_ble_eq_true rfl⟩) hS (fun q _ h => (freeX hS) q h) (freeX hS) (fun r6008 u t H1 locs ht hvm hw hB hz1 hk1 hS => ?_)
              unfold BX at hB
              rw [ht] at hB
              obtain ⟨v6009, F6010, rc9⟩ := u
              obtain ⟨hI, hal9, hrc, hf6011, hw⟩ := hw
              dsimp only at hI hal9 hrc hB hf6011 hw
              rw [hrc] at hB
              have hal := hal9.trans hal
              have hP : va_P (dC, dI) classes (wX g c v6009 F6010 (g (44 + nr))) H1 := hB
              have hw : -1 ≤ r6008.toInt ∧ r6008.toInt ≤ 119 := hw
              have k6012 : (6 : Int32).toInt = 6 := by decide
              have k6013 : (0 : Int32).toInt = 0 := by decide
              generalize H1 = H at hP hS ⊢
              have hw_r6008 := hw
              refine lv_pop hx hb dX3_readSum_68 rfl ?_
              obtain ⟨z6014, e6015⟩ : ∃ y : Int32, y = x2_lp5949 + 1 := ⟨_, rfl⟩
              try (have t6016 := tadd e6015 rfl (b := 1) (by decide) (by omega))
              refine lv_iinc (v := z6014) (lv' := [(2, .int z6014), (3, .int 6), (0, .ref (g 7)), (1, .int 2)]) hx hb dX3_readSum_69 hl (k := 1) rfl (by rw [e6015]; rfl) (by decide) rfl (fun ls hl => ?_)
              refine lv_goto (tgt := 7) hx hb dX3_readSum_72 (by decide) ?_
              exact ih_lp5949 z6014 v6009 F6010 _ _ _ (by omega) (by omega) (frC (by decide) hf6011 (frC (by decide) hf6007 (frU (by decide) hf_lp5949))) hI hal hP hS (lv_sub hl [0, 2, 3] rfl)
            · skip
              have t6017 := cv_eq (a := r5998.toInt) rfl (b := 43) (by decide) c5999
              refine lv_iconst (v := 5) hx hb dX3_readSum_40 (by decide) ?_
              refine lv_goto (tgt := 46) hx hb dX3_readSum_41 (by decide) ?_
              refine lv_istore_n (lv' := [(3, .int 5), (2, .int x2_lp5949), (0, .ref (g 7)), (1, .int 2)]) hx hb dX3_readSum_46 rfl hl (by decide) rfl (fun ls hl => ?_)
              refine lv_aload_n hx hb dX3_readSum_47 rfl (lv_at hl 2 rfl) ?_
              refine lv_dup hx hb dX3_readSum_48 rfl ?_
              refine va_get (D := (dC, dI)) (ci := 3) (v := .int (v_lp5949 143)) (C := RX3) (T := TX3) (N := 5) hx hb hwd inA_X3 hown hK hP 7 rfl rfl 3 (by decide) (hwd _ wk_853) (fun _ h9 => h9) rfl dX3_readSum_49 ?_
              refine lv_iconst (v := 1) hx hb dX3_readSum_52 (by decide) ?_
              refine lv_iadd hx hb dX3_readSum_53 ?_
              refine lv_topi (fun z6018 e6019 => ?_)
              try (have t6020 := tadd e6019 (a := (v_lp5949 143).toInt) rfl (b := 1) (by decide) (by omega))
              refine va_put (D := (dC, dI)) (ci := 3) (v := .int z6018) (ty := .int) (C := RX3) (T := TX3) (N := 5) (fs := fsX_7 g v_lp5949 (g (44 + nr))) hx hb hwd inA_X3 tyX3 tyX3_ok nmX3 hown hK hP (DX hg) hS 7 rfl rfl 3 (by decide) (hwd _ wk_853) (fun _ h9 => h9) rfl (by decide +kernel) rfl rfl (Nat.le_of_ble_eq_true rfl) dX3_readSum_54 (fun H locs hP _ hS => ?_)
              have hP := va_P_eq (pX_143 g c _ _ _ _) hP
              have hI := IX.put0 hI 143 z6018 rfl
              have hal := (alX_v _ _ 143 z6018 (by decide) (by decide) (by decide) (by decide)).trans hal
              refine lv_aload_n hx hb dX3_readSum_57 rfl (lv_at hl 2 rfl) ?_
              refine lv_iload_n hx hb dX3_readSum_58 rfl (lv_at hl 3 rfl) ?_
              refine va_callv (va_runV (As := [.int 2]) (rest := []) ⟨hx, hb, hml, hown, hwd⟩ (c_X3_readProduct_2 l dC dI g c adK adV (va_up v_lp5949 143 z6018) F_lp5949 nr H.size  hg hnr hI ) (cwV 1 hwd (gV wk_989 wk_991 wk_992 wk_993 wk_38) rfl rfl rfl (by decide +kernel) ⟨Nat.le_of_ble_eq_true rfl, Nat.le_of_ble_eq_true rfl⟩) ⟨PX.blind, va_recv hK hP (ci := 3) (q0 := 7) rfl rfl, fun U hU hW => ⟨rfl, PX.at hK hE hP hS hU hW⟩⟩ rfl rfl hl.1 rfl (lv_room (Nat.le_of_ble_eq_true rfl)) dX3_readSum_59 ⟨Nat.le_of_ble_eq_true rfl, Nat.le_of_ble_eq_true rfl⟩) hS (fun q _ h => (freeX hS) q h) (freeX hS) (fun u t H1 locs ht hvm hw hB hz1 hk1 hS => ?_)
              unfold BX at hB
              rw [ht] at hB
              obtain ⟨v6022, F6023, rc9⟩ := u
              obtain ⟨hI, hal9, hrc, hf6024, hw⟩ := hw
              dsimp only at hI hal9 hrc hB hf6024 hw
              rw [hrc] at hB
              have hal := hal9.trans hal
              have hP : va_P (dC, dI) classes (wX g c v6022 F6023 (g (44 + nr))) H1 := hB
              generalize H1 = H at hP hS ⊢
              refine lv_aload_n hx hb dX3_readSum_62 rfl (lv_at hl 2 rfl) ?_
              refine lv_iload_n hx hb dX3_readSum_63 rfl (lv_at hl 0 rfl) ?_
              refine lv_iconst (v := 0) hx hb dX3_readSum_64 (by decide) ?_
              refine va_calli (va_runV (As := [.int 5, .int 0]) (rest := []) ⟨hx, hb, hml, hown, hwd⟩ (c_X3_put l dC dI g c adK adV v6022 F6023 nr H.size 5 0 hg hnr hI (by have : (5 : Int32).toInt = 5 := (by decide); omega) (by have : (0 : Int32).toInt = 0 := (by decide); omega)) (cwV 2 hwd (gV wk_882 wk_879 wk_880 wk_881 wk_38) rfl rfl rfl (by decide +kernel) ⟨Nat.le_of_ble_eq_true rfl, Nat.le_of_ble_eq_true rfl⟩) ⟨PX.blind, va_recv hK hP (ci := 3) (q0 := 7) rfl rfl, fun U hU hW => ⟨rfl, PX.at hK hE hP hS hU hW⟩⟩ rfl rfl hl.1 rfl (lv_room (Nat.le_of_ble_eq_true rfl)) dX3_readSum_65 ⟨Nat.le_of_ble_eq_true rfl, Nat.le_of_ble_eq_true rfl⟩) hS (fun q _ h => (freeX hS) q h) (freeX hS) (fun r6025 u t H1 locs ht hvm hw hB hz1 hk1 hS => ?_)
              unfold BX at hB
              rw [ht] at hB
              obtain ⟨v6026, F6027, rc9⟩ := u
              obtain ⟨hI, hal9, hrc, hf6028, hw⟩ := hw
              dsimp only at hI hal9 hrc hB hf6028 hw
              rw [hrc] at hB
              have hal := hal9.trans hal
              have hP : va_P (dC, dI) classes (wX g c v6026 F6027 (g (44 + nr))) H1 := hB
              have hw : -1 ≤ r6025.toInt ∧ r6025.toInt ≤ 119 := hw
              have k6029 : (5 : Int32).toInt = 5 := by decide
              have k6030 : (0 : Int32).toInt = 0 := by decide
              generalize H1 = H at hP hS ⊢
              have hw_r6025 := hw
              refine lv_pop hx hb dX3_readSum_68 rfl ?_
              obtain ⟨z6031, e6032⟩ : ∃ y : Int32, y = x2_lp5949 + 1 := ⟨_, rfl⟩
              try (have t6033 := tadd e6032 rfl (b := 1) (by decide) (by omega))
              refine lv_iinc (v := z6031) (lv' := [(2, .int z6031), (3, .int 5), (0, .ref (g 7)), (1, .int 2)]) hx hb dX3_readSum_69 hl (k := 1) rfl (by rw [e6032]; rfl) (by decide) rfl (fun ls hl => ?_)
              refine lv_goto (tgt := 7) hx hb dX3_readSum_72 (by decide) ?_
              exact ih_lp5949 z6031 v6026 F6027 _ _ _ (by omega) (by omega) (frC (by decide) hf6028 (frC (by decide) hf6024 (frU (by decide) hf_lp5949))) hI hal hP hS (lv_sub hl [0, 2, 3] rfl)
  obtain ⟨n9, hn9⟩ : ∃ n : Nat, 2147483648 - 0 ≤ (n : Int) := ⟨((2147483648 - 0 : Int)).toNat, by omega⟩
  exact lp5949 n9 0 v5946 F5947 H _ ls (by have : (0 : Int32).toInt = 0 := (by decide); omega) (by have : (0 : Int32).toInt = 0 := (by decide); omega) (fun _ _ => rfl) hI hal hP hS hl
set_option maxHeartbeats 8000000 in
set_option maxRecDepth 100000 in
theorem c_X3_readComparison_2 (l : Launch) (dC : Nat → ClassId) (dI : Nat → Nat → Nat) (g : Nat → Nat) (c : Nat → ClassId) (adK adV : Nat → Nat) (v : Nat → Int32) (F : Nat → Nat → Int32) (nr sz : Nat) (hg : injX g) (hnr : nr < 10) (hI : IX v F) : Met l yX3_readComparison (Cond.code yX3_readComparison cX3_readComparison 3 none :: wA) ({ frames := 39, cells := 0, slots := 0, locals := 1560 }) (va_Pc [.ref (g 7), .int 2] (PX dC dI g c adK adV v F (g (44 + nr)) sz)) (va_Qv (fun (u : StX) => IX u.1 u.2.1 ∧ alX u.1 u.2.1 = alX v F ∧ u.2.2 = (g (44 + nr)) ∧ (∀ k, k ∉ ([142, 143, 144] : List Nat) → u.1 k = v k) ∧ True) (BX dC dI g c) (AX g sz)) 0 0 (AX g sz) := by
  refine Met.ofW (cc := cX3_readComparison) (maxL := 3) (ret := none) (by decide) rfl ?_
  intro p e s m args below meth c0 s₁ B hml hv
  obtain ⟨rfl, hsz, hP, hK, hE⟩ := hv
  have hx := B.exec
  have hb := B.bytes
  have hr := B.returns
  have hts := atoms_spec (ws := Cond.code yX3_readComparison cX3_readComparison 3 none :: wA) B.pre
  have hwd : ∀ w ∈ wA, w.before _ s = true := fun w h => hts w (List.mem_cons_of_mem _ h)
  have hown : s.vm.findClass RX3 = some m.cls := findClass_of_methodNamed B.named
  have hlocks := B.notSynchronized
  subst hsz
  have hl := lv_entry ([.ref (g 7), .int 2]) (n := 3) (Nat.le_of_ble_eq_true rfl)
  rw [lg_entry_eq]
  generalize (lg_sl ([.ref (g 7), .int 2]) ++ List.replicate (3 - (lg_sl ([.ref (g 7), .int 2])).length) Slot.unset).toArray = ls at hl ⊢
  have hl : lv_has ls 3 [(0, .ref (g 7)), (1, .int 2)] := hl
  obtain ⟨H, eH⟩ : ∃ z, z = s.heap := ⟨_, rfl⟩
  have hP : va_P (dC, dI) classes (wX g c v F (g (44 + nr))) H := by rw [eH]; exact hP
  have hS : va_S (AX g s.heap.size) s.heap H [] := by rw [eH]; exact va_S.rf
  refine my_heap eH ?_
  have hal : alX v F = alX v F := rfl
  refine lv_aload_n hx hb dX3_readComparison_0 rfl (lv_at hl 0 rfl) ?_
  refine lv_iload_n hx hb dX3_readComparison_1 rfl (lv_at hl 1 rfl) ?_
  refine va_callv (va_runV (As := [.int 2]) (rest := []) ⟨hx, hb, hml, hown, hwd⟩ (c_X3_readSum_2 l dC dI g c adK adV v F nr H.size  hg hnr hI ) (cwV 1 hwd (gV wk_990 wk_892 wk_893 wk_894 wk_38) rfl rfl rfl (by decide +kernel) ⟨Nat.le_of_ble_eq_true rfl, Nat.le_of_ble_eq_true rfl⟩) ⟨PX.blind, va_recv hK hP (ci := 3) (q0 := 7) rfl rfl, fun U hU hW => ⟨rfl, PX.at hK hE hP hS hU hW⟩⟩ rfl rfl hl.1 rfl (lv_room (Nat.le_of_ble_eq_true rfl)) dX3_readComparison_2 ⟨Nat.le_of_ble_eq_true rfl, Nat.le_of_ble_eq_true rfl⟩) hS (fun q _ h => (freeX hS) q h) (freeX hS) (fun u t H1 locs ht hvm hw hB hz1 hk1 hS => ?_)
  unfold BX at hB
  rw [ht] at hB
  obtain ⟨v6035, F6036, rc9⟩ := u
  obtain ⟨hI, hal9, hrc, hf6037, hw⟩ := hw
  dsimp only at hI hal9 hrc hB hf6037 hw
  rw [hrc] at hB
  have hal := hal9.trans hal
  have hP : va_P (dC, dI) classes (wX g c v6035 F6036 (g (44 + nr))) H1 := hB
  generalize H1 = H at hP hS ⊢
  refine lv_aload_n hx hb dX3_readComparison_5 rfl (lv_at hl 0 rfl) ?_
  refine va_calli (va_runV (As := []) (rest := []) ⟨hx, hb, hml, hown, hwd⟩ (c_X3_next l dC dI g c adK adV v6035 F6036 nr H.size  hg hnr hI ) (cwV 0 hwd (gV wk_866 wk_863 wk_864 wk_865 wk_38) rfl rfl rfl (by decide +kernel) ⟨Nat.le_of_ble_eq_true rfl, Nat.le_of_ble_eq_true rfl⟩) ⟨PX.blind, va_recv hK hP (ci := 3) (q0 := 7) rfl rfl, fun U hU hW => ⟨rfl, PX.at hK hE hP hS hU hW⟩⟩ rfl rfl hl.1 rfl (lv_room (Nat.le_of_ble_eq_true rfl)) dX3_readComparison_6 ⟨Nat.le_of_ble_eq_true rfl, Nat.le_of_ble_eq_true rfl⟩) hS (fun q _ h => (freeX hS) q h) (freeX hS) (fun r6038 u t H1 locs ht hvm hw hB hz1 hk1 hS => ?_)
  unfold BX at hB
  rw [ht] at hB
  have hP : va_P (dC, dI) classes (wX g c v6035 F6036 (g (44 + nr))) H1 := hB
  generalize H1 = H at hP hS ⊢
  have rr_r6038 := i32_rng r6038
  refine lv_istore_n (lv' := [(2, .int r6038), (0, .ref (g 7)), (1, .int 2)]) hx hb dX3_readComparison_9 rfl hl (by decide) rfl (fun ls hl => ?_)
  refine lv_iload_n hx hb dX3_readComparison_10 rfl (lv_at hl 0 rfl) ?_
  refine lv_bipush (v := 60) hx hb dX3_readComparison_11 (by decide) ?_
  refine lv_icmp_eq (tgt := 28) hx hb dX3_readComparison_13 (by decide) (fun c6039 => ?_) (fun c6039 => ?_)
  · skip
    have t6040 := cv_eq (a := r6038.toInt) rfl (b := 60) (by decide) c6039
    refine lv_aload_n hx hb dX3_readComparison_28 rfl (lv_at hl 1 rfl) ?_
    refine lv_dup hx hb dX3_readComparison_29 rfl ?_
    refine va_get (D := (dC, dI)) (ci := 3) (v := .int (v6035 143)) (C := RX3) (T := TX3) (N := 5) hx hb hwd inA_X3 hown hK hP 7 rfl rfl 3 (by decide) (hwd _ wk_853) (fun _ h9 => h9) rfl dX3_readComparison_30 ?_
    refine lv_iconst (v := 1) hx hb dX3_readComparison_33 (by decide) ?_
    refine lv_iadd hx hb dX3_readComparison_34 ?_
    refine lv_topi (fun z6041 e6042 => ?_)
    try (have t6043 := tadd e6042 (a := (v6035 143).toInt) rfl (b := 1) (by decide) (by omega))
    refine va_put (D := (dC, dI)) (ci := 3) (v := .int z6041) (ty := .int) (C := RX3) (T := TX3) (N := 5) (fs := fsX_7 g v6035 (g (44 + nr))) hx hb hwd inA_X3 tyX3 tyX3_ok nmX3 hown hK hP (DX hg) hS 7 rfl rfl 3 (by decide) (hwd _ wk_853) (fun _ h9 => h9) rfl (by decide +kernel) rfl rfl (Nat.le_of_ble_eq_true rfl) dX3_readComparison_35 (fun H locs hP _ hS => ?_)
    have hP := va_P_eq (pX_143 g c _ _ _ _) hP
    have hI := IX.put0 hI 143 z6041 rfl
    have hal := (alX_v _ _ 143 z6041 (by decide) (by decide) (by decide) (by decide)).trans hal
    refine lv_aload_n hx hb dX3_readComparison_38 rfl (lv_at hl 1 rfl) ?_
    refine lv_iload_n hx hb dX3_readComparison_39 rfl (lv_at hl 2 rfl) ?_
    refine va_callv (va_runV (As := [.int 2]) (rest := []) ⟨hx, hb, hml, hown, hwd⟩ (c_X3_readSum_2 l dC dI g c adK adV (va_up v6035 143 z6041) F6036 nr H.size  hg hnr hI ) (cwV 1 hwd (gV wk_990 wk_892 wk_893 wk_894 wk_38) rfl rfl rfl (by decide +kernel) ⟨Nat.le_of_ble_eq_true rfl, Nat.le_of_ble_eq_true rfl⟩) ⟨PX.blind, va_recv hK hP (ci := 3) (q0 := 7) rfl rfl, fun U hU hW => ⟨rfl, PX.at hK hE hP hS hU hW⟩⟩ rfl rfl hl.1 rfl (lv_room (Nat.le_of_ble_eq_true rfl)) dX3_readComparison_40 ⟨Nat.le_of_ble_eq_true rfl, Nat.le_of_ble_eq_true rfl⟩) hS (fun q _ h => (freeX hS) q h) (freeX hS) (fun u t H1 locs ht hvm hw hB hz1 hk1 hS => ?_)
    unfold BX at hB
    rw [ht] at hB
    obtain ⟨v6045, F6046, rc9⟩ := u
    obtain ⟨hI, hal9, hrc, hf6047, hw⟩ := hw
    dsimp only at hI hal9 hrc hB hf6047 hw
    rw [hrc] at hB
    have hal := hal9.trans hal
    have hP : va_P (dC, dI) classes (wX g c v6045 F6046 (g (44 + nr))) H1 := hB
    generalize H1 = H at hP hS ⊢
    refine lv_aload_n hx hb dX3_readComparison_43 rfl (lv_at hl 1 rfl) ?_
    refine lv_iload_n hx hb dX3_readComparison_44 rfl (lv_at hl 0 rfl) ?_
    refine lv_bipush (v := 60) hx hb dX3_readComparison_45 (by decide) ?_
    refine lv_icmp_ne (tgt := 55) hx hb dX3_readComparison_47 (by decide) (fun c6048 => ?_) (fun c6048 => ?_)
    · skip
      have t6049 := cv_ne (a := r6038.toInt) rfl (b := 60) (by decide) c6048
      refine lv_iload_n hx hb dX3_readComparison_55 rfl (lv_at hl 0 rfl) ?_
      refine lv_bipush (v := 61) hx hb dX3_readComparison_56 (by decide) ?_
      refine lv_icmp_ne (tgt := 66) hx hb dX3_readComparison_58 (by decide) (fun c6050 => ?_) (fun c6050 => ?_)
      · skip
        have t6051 := cv_ne (a := r6038.toInt) rfl (b := 61) (by decide) c6050
        refine lv_bipush (v := 11) hx hb dX3_readComparison_66 (by decide) ?_
        refine lv_iconst (v := 0) hx hb dX3_readComparison_68 (by decide) ?_
        refine va_calli (va_runV (As := [.int 11, .int 0]) (rest := []) ⟨hx, hb, hml, hown, hwd⟩ (c_X3_put l dC dI g c adK adV v6045 F6046 nr H.size 11 0 hg hnr hI (by have : (11 : Int32).toInt = 11 := (by decide); omega) (by have : (0 : Int32).toInt = 0 := (by decide); omega)) (cwV 2 hwd (gV wk_882 wk_879 wk_880 wk_881 wk_38) rfl rfl rfl (by decide +kernel) ⟨Nat.le_of_ble_eq_true rfl, Nat.le_of_ble_eq_true rfl⟩) ⟨PX.blind, va_recv hK hP (ci := 3) (q0 := 7) rfl rfl, fun U hU hW => ⟨rfl, PX.at hK hE hP hS hU hW⟩⟩ rfl rfl hl.1 rfl (lv_room (Nat.le_of_ble_eq_true rfl)) dX3_readComparison_69 ⟨Nat.le_of_ble_eq_true rfl, Nat.le_of_ble_eq_true rfl⟩) hS (fun q _ h => (freeX hS) q h) (freeX hS) (fun r6052 u t H1 locs ht hvm hw hB hz1 hk1 hS => ?_)
        unfold BX at hB
        rw [ht] at hB
        obtain ⟨v6053, F6054, rc9⟩ := u
        obtain ⟨hI, hal9, hrc, hf6055, hw⟩ := hw
        dsimp only at hI hal9 hrc hB hf6055 hw
        rw [hrc] at hB
        have hal := hal9.trans hal
        have hP : va_P (dC, dI) classes (wX g c v6053 F6054 (g (44 + nr))) H1 := hB
        have hw : -1 ≤ r6052.toInt ∧ r6052.toInt ≤ 119 := hw
        have k6056 : (11 : Int32).toInt = 11 := by decide
        have k6057 : (0 : Int32).toInt = 0 := by decide
        generalize H1 = H at hP hS ⊢
        have hw_r6052 := hw
        refine lv_pop hx hb dX3_readComparison_72 rfl ?_
        have hP9 : va_P (dC, dI) classes (wX g c v6053 F6054 (g (44 + nr))) H := hP
        exact W.vret hx hb hr (fun t ht hW => ⟨⟨(v6053, F6054, (g (44 + nr))), rfl, ⟨hI, hal, rfl, (frC (by decide) hf6055 (frC (by decide) hf6047 (frU (by decide) (frC (by decide) hf6037 (fun _ _ => rfl))))), trivial⟩, (by show va_P _ _ _ t.heap; rw [ht]; exact hP9)⟩, hS.F ht⟩) hS.2.2 dX3_readComparison_73
      · skip
        have t6058 := cv_eq (a := r6038.toInt) rfl (b := 61) (by decide) c6050
        refine lv_bipush (v := 10) hx hb dX3_readComparison_61 (by decide) ?_
        refine lv_goto (tgt := 68) hx hb dX3_readComparison_63 (by decide) ?_
        refine lv_iconst (v := 0) hx hb dX3_readComparison_68 (by decide) ?_
        refine va_calli (va_runV (As := [.int 10, .int 0]) (rest := []) ⟨hx, hb, hml, hown, hwd⟩ (c_X3_put l dC dI g c adK adV v6045 F6046 nr H.size 10 0 hg hnr hI (by have : (10 : Int32).toInt = 10 := (by decide); omega) (by have : (0 : Int32).toInt = 0 := (by decide); omega)) (cwV 2 hwd (gV wk_882 wk_879 wk_880 wk_881 wk_38) rfl rfl rfl (by decide +kernel) ⟨Nat.le_of_ble_eq_true rfl, Nat.le_of_ble_eq_true rfl⟩) ⟨PX.blind, va_recv hK hP (ci := 3) (q0 := 7) rfl rfl, fun U hU hW => ⟨rfl, PX.at hK hE hP hS hU hW⟩⟩ rfl rfl hl.1 rfl (lv_room (Nat.le_of_ble_eq_true rfl)) dX3_readComparison_69 ⟨Nat.le_of_ble_eq_true rfl, Nat.le_of_ble_eq_true rfl⟩) hS (fun q _ h => (freeX hS) q h) (freeX hS) (fun r6059 u t H1 locs ht hvm hw hB hz1 hk1 hS => ?_)
        unfold BX at hB
        rw [ht] at hB
        obtain ⟨v6060, F6061, rc9⟩ := u
        obtain ⟨hI, hal9, hrc, hf6062, hw⟩ := hw
        dsimp only at hI hal9 hrc hB hf6062 hw
        rw [hrc] at hB
        have hal := hal9.trans hal
        have hP : va_P (dC, dI) classes (wX g c v6060 F6061 (g (44 + nr))) H1 := hB
        have hw : -1 ≤ r6059.toInt ∧ r6059.toInt ≤ 119 := hw
        have k6063 : (10 : Int32).toInt = 10 := by decide
        have k6064 : (0 : Int32).toInt = 0 := by decide
        generalize H1 = H at hP hS ⊢
        have hw_r6059 := hw
        refine lv_pop hx hb dX3_readComparison_72 rfl ?_
        have hP9 : va_P (dC, dI) classes (wX g c v6060 F6061 (g (44 + nr))) H := hP
        exact W.vret hx hb hr (fun t ht hW => ⟨⟨(v6060, F6061, (g (44 + nr))), rfl, ⟨hI, hal, rfl, (frC (by decide) hf6062 (frC (by decide) hf6047 (frU (by decide) (frC (by decide) hf6037 (fun _ _ => rfl))))), trivial⟩, (by show va_P _ _ _ t.heap; rw [ht]; exact hP9)⟩, hS.F ht⟩) hS.2.2 dX3_readComparison_73
    · skip
      have t6065 := cv_eq (a := r6038.toInt) rfl (b := 60) (by decide) c6048
      refine lv_bipush (v := 9) hx hb dX3_readComparison_50 (by decide) ?_
      refine lv_goto (tgt := 68) hx hb dX3_readComparison_52 (by decide) ?_
      refine lv_iconst (v := 0) hx hb dX3_readComparison_68 (by decide) ?_
      refine va_calli (va_runV (As := [.int 9, .int 0]) (rest := []) ⟨hx, hb, hml, hown, hwd⟩ (c_X3_put l dC dI g c adK adV v6045 F6046 nr H.size 9 0 hg hnr hI (by have : (9 : Int32).toInt = 9 := (by decide); omega) (by have : (0 : Int32).toInt = 0 := (by decide); omega)) (cwV 2 hwd (gV wk_882 wk_879 wk_880 wk_881 wk_38) rfl rfl rfl (by decide +kernel) ⟨Nat.le_of_ble_eq_true rfl, Nat.le_of_ble_eq_true rfl⟩) ⟨PX.blind, va_recv hK hP (ci := 3) (q0 := 7) rfl rfl, fun U hU hW => ⟨rfl, PX.at hK hE hP hS hU hW⟩⟩ rfl rfl hl.1 rfl (lv_room (Nat.le_of_ble_eq_true rfl)) dX3_readComparison_69 ⟨Nat.le_of_ble_eq_true rfl, Nat.le_of_ble_eq_true rfl⟩) hS (fun q _ h => (freeX hS) q h) (freeX hS) (fun r6066 u t H1 locs ht hvm hw hB hz1 hk1 hS => ?_)
      unfold BX at hB
      rw [ht] at hB
      obtain ⟨v6067, F6068, rc9⟩ := u
      obtain ⟨hI, hal9, hrc, hf6069, hw⟩ := hw
      dsimp only at hI hal9 hrc hB hf6069 hw
      rw [hrc] at hB
      have hal := hal9.trans hal
      have hP : va_P (dC, dI) classes (wX g c v6067 F6068 (g (44 + nr))) H1 := hB
      have hw : -1 ≤ r6066.toInt ∧ r6066.toInt ≤ 119 := hw
      have k6070 : (9 : Int32).toInt = 9 := by decide
      have k6071 : (0 : Int32).toInt = 0 := by decide
      generalize H1 = H at hP hS ⊢
      have hw_r6066 := hw
      refine lv_pop hx hb dX3_readComparison_72 rfl ?_
      have hP9 : va_P (dC, dI) classes (wX g c v6067 F6068 (g (44 + nr))) H := hP
      exact W.vret hx hb hr (fun t ht hW => ⟨⟨(v6067, F6068, (g (44 + nr))), rfl, ⟨hI, hal, rfl, (frC (by decide) hf6069 (frC (by decide) hf6047 (frU (by decide) (frC (by decide) hf6037 (fun _ _ => rfl))))), trivial⟩, (by show va_P _ _ _ t.heap; rw [ht]; exact hP9)⟩, hS.F ht⟩) hS.2.2 dX3_readComparison_73
  · skip
    have t6072 := cv_ne (a := r6038.toInt) rfl (b := 60) (by decide) c6039
    refine lv_iload_n hx hb dX3_readComparison_16 rfl (lv_at hl 0 rfl) ?_
    refine lv_bipush (v := 61) hx hb dX3_readComparison_17 (by decide) ?_
    refine lv_icmp_eq (tgt := 28) hx hb dX3_readComparison_19 (by decide) (fun c6073 => ?_) (fun c6073 => ?_)
    · skip
      have t6074 := cv_eq (a := r6038.toInt) rfl (b := 61) (by decide) c6073
      refine lv_aload_n hx hb dX3_readComparison_28 rfl (lv_at hl 1 rfl) ?_
      refine lv_dup hx hb dX3_readComparison_29 rfl ?_
      refine va_get (D := (dC, dI)) (ci := 3) (v := .int (v6035 143)) (C := RX3) (T := TX3) (N := 5) hx hb hwd inA_X3 hown hK hP 7 rfl rfl 3 (by decide) (hwd _ wk_853) (fun _ h9 => h9) rfl dX3_readComparison_30 ?_
      refine lv_iconst (v := 1) hx hb dX3_readComparison_33 (by decide) ?_
      refine lv_iadd hx hb dX3_readComparison_34 ?_
      refine lv_topi (fun z6075 e6076 => ?_)
      try (have t6077 := tadd e6076 (a := (v6035 143).toInt) rfl (b := 1) (by decide) (by omega))
      refine va_put (D := (dC, dI)) (ci := 3) (v := .int z6075) (ty := .int) (C := RX3) (T := TX3) (N := 5) (fs := fsX_7 g v6035 (g (44 + nr))) hx hb hwd inA_X3 tyX3 tyX3_ok nmX3 hown hK hP (DX hg) hS 7 rfl rfl 3 (by decide) (hwd _ wk_853) (fun _ h9 => h9) rfl (by decide +kernel) rfl rfl (Nat.le_of_ble_eq_true rfl) dX3_readComparison_35 (fun H locs hP _ hS => ?_)
      have hP := va_P_eq (pX_143 g c _ _ _ _) hP
      have hI := IX.put0 hI 143 z6075 rfl
      have hal := (alX_v _ _ 143 z6075 (by decide) (by decide) (by decide) (by decide)).trans hal
      refine lv_aload_n hx hb dX3_readComparison_38 rfl (lv_at hl 1 rfl) ?_
      refine lv_iload_n hx hb dX3_readComparison_39 rfl (lv_at hl 2 rfl) ?_
      refine va_callv (va_runV (As := [.int 2]) (rest := []) ⟨hx, hb, hml, hown, hwd⟩ (c_X3_readSum_2 l dC dI g c adK adV (va_up v6035 143 z6075) F6036 nr H.size  hg hnr hI ) (cwV 1 hwd (gV wk_990 wk_892 wk_893 wk_894 wk_38) rfl rfl rfl (by decide +kernel) ⟨Nat.le_of_ble_eq_true rfl, Nat.le_of_ble_eq_true rfl⟩) ⟨PX.blind, va_recv hK hP (ci := 3) (q0 := 7) rfl rfl, fun U hU hW => ⟨rfl, PX.at hK hE hP hS hU hW⟩⟩ rfl rfl hl.1 rfl (lv_room (Nat.le_of_ble_eq_true rfl)) dX3_readComparison_40 ⟨Nat.le_of_ble_eq_true rfl, Nat.le_of_ble_eq_true rfl⟩) hS (fun q _ h => (freeX hS) q h) (freeX hS) (fun u t H1 locs ht hvm hw hB hz1 hk1 hS => ?_)
      unfold BX at hB
      rw [ht] at hB
      obtain ⟨v6079, F6080, rc9⟩ := u
      obtain ⟨hI, hal9, hrc, hf6081, hw⟩ := hw
      dsimp only at hI hal9 hrc hB hf6081 hw
      rw [hrc] at hB
      have hal := hal9.trans hal
      have hP : va_P (dC, dI) classes (wX g c v6079 F6080 (g (44 + nr))) H1 := hB
      generalize H1 = H at hP hS ⊢
      refine lv_aload_n hx hb dX3_readComparison_43 rfl (lv_at hl 1 rfl) ?_
      refine lv_iload_n hx hb dX3_readComparison_44 rfl (lv_at hl 0 rfl) ?_
      refine lv_bipush (v := 60) hx hb dX3_readComparison_45 (by decide) ?_
      refine lv_icmp_ne (tgt := 55) hx hb dX3_readComparison_47 (by decide) (fun c6082 => ?_) (fun c6082 => ?_)
      · skip
        have t6083 := cv_ne (a := r6038.toInt) rfl (b := 60) (by decide) c6082
        refine lv_iload_n hx hb dX3_readComparison_55 rfl (lv_at hl 0 rfl) ?_
        refine lv_bipush (v := 61) hx hb dX3_readComparison_56 (by decide) ?_
        refine lv_icmp_ne (tgt := 66) hx hb dX3_readComparison_58 (by decide) (fun c6084 => ?_) (fun c6084 => ?_)
        · skip
          have t6085 := cv_ne (a := r6038.toInt) rfl (b := 61) (by decide) c6084
          refine lv_bipush (v := 11) hx hb dX3_readComparison_66 (by decide) ?_
          refine lv_iconst (v := 0) hx hb dX3_readComparison_68 (by decide) ?_
          refine va_calli (va_runV (As := [.int 11, .int 0]) (rest := []) ⟨hx, hb, hml, hown, hwd⟩ (c_X3_put l dC dI g c adK adV v6079 F6080 nr H.size 11 0 hg hnr hI (by have : (11 : Int32).toInt = 11 := (by decide); omega) (by have : (0 : Int32).toInt = 0 := (by decide); omega)) (cwV 2 hwd (gV wk_882 wk_879 wk_880 wk_881 wk_38) rfl rfl rfl (by decide +kernel) ⟨Nat.le_of_ble_eq_true rfl, Nat.le_of_ble_eq_true rfl⟩) ⟨PX.blind, va_recv hK hP (ci := 3) (q0 := 7) rfl rfl, fun U hU hW => ⟨rfl, PX.at hK hE hP hS hU hW⟩⟩ rfl rfl hl.1 rfl (lv_room (Nat.le_of_ble_eq_true rfl)) dX3_readComparison_69 ⟨Nat.le_of_ble_eq_true rfl, Nat.le_of_ble_eq_true rfl⟩) hS (fun q _ h => (freeX hS) q h) (freeX hS) (fun r6086 u t H1 locs ht hvm hw hB hz1 hk1 hS => ?_)
          unfold BX at hB
          rw [ht] at hB
          obtain ⟨v6087, F6088, rc9⟩ := u
          obtain ⟨hI, hal9, hrc, hf6089, hw⟩ := hw
          dsimp only at hI hal9 hrc hB hf6089 hw
          rw [hrc] at hB
          have hal := hal9.trans hal
          have hP : va_P (dC, dI) classes (wX g c v6087 F6088 (g (44 + nr))) H1 := hB
          have hw : -1 ≤ r6086.toInt ∧ r6086.toInt ≤ 119 := hw
          have k6090 : (11 : Int32).toInt = 11 := by decide
          have k6091 : (0 : Int32).toInt = 0 := by decide
          generalize H1 = H at hP hS ⊢
          have hw_r6086 := hw
          refine lv_pop hx hb dX3_readComparison_72 rfl ?_
          have hP9 : va_P (dC, dI) classes (wX g c v6087 F6088 (g (44 + nr))) H := hP
          exact W.vret hx hb hr (fun t ht hW => ⟨⟨(v6087, F6088, (g (44 + nr))), rfl, ⟨hI, hal, rfl, (frC (by decide) hf6089 (frC (by decide) hf6081 (frU (by decide) (frC (by decide) hf6037 (fun _ _ => rfl))))), trivial⟩, (by show va_P _ _ _ t.heap; rw [ht]; exact hP9)⟩, hS.F ht⟩) hS.2.2 dX3_readComparison_73
        · skip
          have t6092 := cv_eq (a := r6038.toInt) rfl (b := 61) (by decide) c6084
          refine lv_bipush (v := 10) hx hb dX3_readComparison_61 (by decide) ?_
          refine lv_goto (tgt := 68) hx hb dX3_readComparison_63 (by decide) ?_
          refine lv_iconst (v := 0) hx hb dX3_readComparison_68 (by decide) ?_
          refine va_calli (va_runV (As := [.int 10, .int 0]) (rest := []) ⟨hx, hb, hml, hown, hwd⟩ (c_X3_put l dC dI g c adK adV v6079 F6080 nr H.size 10 0 hg hnr hI (by have : (10 : Int32).toInt = 10 := (by decide); omega) (by have : (0 : Int32).toInt = 0 := (by decide); omega)) (cwV 2 hwd (gV wk_882 wk_879 wk_880 wk_881 wk_38) rfl rfl rfl (by decide +kernel) ⟨Nat.le_of_ble_eq_true rfl, Nat.le_of_ble_eq_true rfl⟩) ⟨PX.blind, va_recv hK hP (ci := 3) (q0 := 7) rfl rfl, fun U hU hW => ⟨rfl, PX.at hK hE hP hS hU hW⟩⟩ rfl rfl hl.1 rfl (lv_room (Nat.le_of_ble_eq_true rfl)) dX3_readComparison_69 ⟨Nat.le_of_ble_eq_true rfl, Nat.le_of_ble_eq_true rfl⟩) hS (fun q _ h => (freeX hS) q h) (freeX hS) (fun r6093 u t H1 locs ht hvm hw hB hz1 hk1 hS => ?_)
          unfold BX at hB
          rw [ht] at hB
          obtain ⟨v6094, F6095, rc9⟩ := u
          obtain ⟨hI, hal9, hrc, hf6096, hw⟩ := hw
          dsimp only at hI hal9 hrc hB hf6096 hw
          rw [hrc] at hB
          have hal := hal9.trans hal
          have hP : va_P (dC, dI) classes (wX g c v6094 F6095 (g (44 + nr))) H1 := hB
          have hw : -1 ≤ r6093.toInt ∧ r6093.toInt ≤ 119 := hw
          have k6097 : (10 : Int32).toInt = 10 := by decide
          have k6098 : (0 : Int32).toInt = 0 := by decide
          generalize H1 = H at hP hS ⊢
          have hw_r6093 := hw
          refine lv_pop hx hb dX3_readComparison_72 rfl ?_
          have hP9 : va_P (dC, dI) classes (wX g c v6094 F6095 (g (44 + nr))) H := hP
          exact W.vret hx hb hr (fun t ht hW => ⟨⟨(v6094, F6095, (g (44 + nr))), rfl, ⟨hI, hal, rfl, (frC (by decide) hf6096 (frC (by decide) hf6081 (frU (by decide) (frC (by decide) hf6037 (fun _ _ => rfl))))), trivial⟩, (by show va_P _ _ _ t.heap; rw [ht]; exact hP9)⟩, hS.F ht⟩) hS.2.2 dX3_readComparison_73
      · skip
        have t6099 := cv_eq (a := r6038.toInt) rfl (b := 60) (by decide) c6082
        refine lv_bipush (v := 9) hx hb dX3_readComparison_50 (by decide) ?_
        refine lv_goto (tgt := 68) hx hb dX3_readComparison_52 (by decide) ?_
        refine lv_iconst (v := 0) hx hb dX3_readComparison_68 (by decide) ?_
        refine va_calli (va_runV (As := [.int 9, .int 0]) (rest := []) ⟨hx, hb, hml, hown, hwd⟩ (c_X3_put l dC dI g c adK adV v6079 F6080 nr H.size 9 0 hg hnr hI (by have : (9 : Int32).toInt = 9 := (by decide); omega) (by have : (0 : Int32).toInt = 0 := (by decide); omega)) (cwV 2 hwd (gV wk_882 wk_879 wk_880 wk_881 wk_38) rfl rfl rfl (by decide +kernel) ⟨Nat.le_of_ble_eq_true rfl, Nat.le_of_ble_eq_true rfl⟩) ⟨PX.blind, va_recv hK hP (ci := 3) (q0 := 7) rfl rfl, fun U hU hW => ⟨rfl, PX.at hK hE hP hS hU hW⟩⟩ rfl rfl hl.1 rfl (lv_room (Nat.le_of_ble_eq_true rfl)) dX3_readComparison_69 ⟨Nat.le_of_ble_eq_true rfl, Nat.le_of_ble_eq_true rfl⟩) hS (fun q _ h => (freeX hS) q h) (freeX hS) (fun r6100 u t H1 locs ht hvm hw hB hz1 hk1 hS => ?_)
        unfold BX at hB
        rw [ht] at hB
        obtain ⟨v6101, F6102, rc9⟩ := u
        obtain ⟨hI, hal9, hrc, hf6103, hw⟩ := hw
        dsimp only at hI hal9 hrc hB hf6103 hw
        rw [hrc] at hB
        have hal := hal9.trans hal
        have hP : va_P (dC, dI) classes (wX g c v6101 F6102 (g (44 + nr))) H1 := hB
        have hw : -1 ≤ r6100.toInt ∧ r6100.toInt ≤ 119 := hw
        have k6104 : (9 : Int32).toInt = 9 := by decide
        have k6105 : (0 : Int32).toInt = 0 := by decide
        generalize H1 = H at hP hS ⊢
        have hw_r6100 := hw
        refine lv_pop hx hb dX3_readComparison_72 rfl ?_
        have hP9 : va_P (dC, dI) classes (wX g c v6101 F6102 (g (44 + nr))) H := hP
        exact W.vret hx hb hr (fun t ht hW => ⟨⟨(v6101, F6102, (g (44 + nr))), rfl, ⟨hI, hal, rfl, (frC (by decide) hf6103 (frC (by decide) hf6081 (frU (by decide) (frC (by decide) hf6037 (fun _ _ => rfl))))), trivial⟩, (by show va_P _ _ _ t.heap; rw [ht]; exact hP9)⟩, hS.F ht⟩) hS.2.2 dX3_readComparison_73
    · skip
      have t6106 := cv_ne (a := r6038.toInt) rfl (b := 61) (by decide) c6073
      refine lv_iload_n hx hb dX3_readComparison_22 rfl (lv_at hl 0 rfl) ?_
      refine lv_bipush (v := 62) hx hb dX3_readComparison_23 (by decide) ?_
      refine lv_icmp_ne (tgt := 73) hx hb dX3_readComparison_25 (by decide) (fun c6107 => ?_) (fun c6107 => ?_)
      · skip
        have t6108 := cv_ne (a := r6038.toInt) rfl (b := 62) (by decide) c6107
        have hP9 : va_P (dC, dI) classes (wX g c v6035 F6036 (g (44 + nr))) H := hP
        exact W.vret hx hb hr (fun t ht hW => ⟨⟨(v6035, F6036, (g (44 + nr))), rfl, ⟨hI, hal, rfl, (frC (by decide) hf6037 (fun _ _ => rfl)), trivial⟩, (by show va_P _ _ _ t.heap; rw [ht]; exact hP9)⟩, hS.F ht⟩) hS.2.2 dX3_readComparison_73
      · skip
        have t6109 := cv_eq (a := r6038.toInt) rfl (b := 62) (by decide) c6107
        refine lv_aload_n hx hb dX3_readComparison_28 rfl (lv_at hl 1 rfl) ?_
        refine lv_dup hx hb dX3_readComparison_29 rfl ?_
        refine va_get (D := (dC, dI)) (ci := 3) (v := .int (v6035 143)) (C := RX3) (T := TX3) (N := 5) hx hb hwd inA_X3 hown hK hP 7 rfl rfl 3 (by decide) (hwd _ wk_853) (fun _ h9 => h9) rfl dX3_readComparison_30 ?_
        refine lv_iconst (v := 1) hx hb dX3_readComparison_33 (by decide) ?_
        refine lv_iadd hx hb dX3_readComparison_34 ?_
        refine lv_topi (fun z6110 e6111 => ?_)
        try (have t6112 := tadd e6111 (a := (v6035 143).toInt) rfl (b := 1) (by decide) (by omega))
        refine va_put (D := (dC, dI)) (ci := 3) (v := .int z6110) (ty := .int) (C := RX3) (T := TX3) (N := 5) (fs := fsX_7 g v6035 (g (44 + nr))) hx hb hwd inA_X3 tyX3 tyX3_ok nmX3 hown hK hP (DX hg) hS 7 rfl rfl 3 (by decide) (hwd _ wk_853) (fun _ h9 => h9) rfl (by decide +kernel) rfl rfl (Nat.le_of_ble_eq_true rfl) dX3_readComparison_35 (fun H locs hP _ hS => ?_)
        have hP := va_P_eq (pX_143 g c _ _ _ _) hP
        have hI := IX.put0 hI 143 z6110 rfl
        have hal := (alX_v _ _ 143 z6110 (by decide) (by decide) (by decide) (by decide)).trans hal
        refine lv_aload_n hx hb dX3_readComparison_38 rfl (lv_at hl 1 rfl) ?_
        refine lv_iload_n hx hb dX3_readComparison_39 rfl (lv_at hl 2 rfl) ?_
        refine va_callv (va_runV (As := [.int 2]) (rest := []) ⟨hx, hb, hml, hown, hwd⟩ (c_X3_readSum_2 l dC dI g c adK adV (va_up v6035 143 z6110) F6036 nr H.size  hg hnr hI ) (cwV 1 hwd (gV wk_990 wk_892 wk_893 wk_894 wk_38) rfl rfl rfl (by decide +kernel) ⟨Nat.le_of_ble_eq_true rfl, Nat.le_of_ble_eq_true rfl⟩) ⟨PX.blind, va_recv hK hP (ci := 3) (q0 := 7) rfl rfl, fun U hU hW => ⟨rfl, PX.at hK hE hP hS hU hW⟩⟩ rfl rfl hl.1 rfl (lv_room (Nat.le_of_ble_eq_true rfl)) dX3_readComparison_40 ⟨Nat.le_of_ble_eq_true rfl, Nat.le_of_ble_eq_true rfl⟩) hS (fun q _ h => (freeX hS) q h) (freeX hS) (fun u t H1 locs ht hvm hw hB hz1 hk1 hS => ?_)
        unfold BX at hB
        rw [ht] at hB
        obtain ⟨v6114, F6115, rc9⟩ := u
        obtain ⟨hI, hal9, hrc, hf6116, hw⟩ := hw
        dsimp only at hI hal9 hrc hB hf6116 hw
        rw [hrc] at hB
        have hal := hal9.trans hal
        have hP : va_P (dC, dI) classes (wX g c v6114 F6115 (g (44 + nr))) H1 := hB
        generalize H1 = H at hP hS ⊢
        refine lv_aload_n hx hb dX3_readComparison_43 rfl (lv_at hl 1 rfl) ?_
        refine lv_iload_n hx hb dX3_readComparison_44 rfl (lv_at hl 0 rfl) ?_
        refine lv_bipush (v := 60) hx hb dX3_readComparison_45 (by decide) ?_
        refine lv_icmp_ne (tgt := 55) hx hb dX3_readComparison_47 (by decide) (fun c6117 => ?_) (fun c6117 => ?_)
        · skip
          have t6118 := cv_ne (a := r6038.toInt) rfl (b := 60) (by decide) c6117
          refine lv_iload_n hx hb dX3_readComparison_55 rfl (lv_at hl 0 rfl) ?_
          refine lv_bipush (v := 61) hx hb dX3_readComparison_56 (by decide) ?_
          refine lv_icmp_ne (tgt := 66) hx hb dX3_readComparison_58 (by decide) (fun c6119 => ?_) (fun c6119 => ?_)
          · skip
            have t6120 := cv_ne (a := r6038.toInt) rfl (b := 61) (by decide) c6119
            refine lv_bipush (v := 11) hx hb dX3_readComparison_66 (by decide) ?_
            refine lv_iconst (v := 0) hx hb dX3_readComparison_68 (by decide) ?_
            refine va_calli (va_runV (As := [.int 11, .int 0]) (rest := []) ⟨hx, hb, hml, hown, hwd⟩ (c_X3_put l dC dI g c adK adV v6114 F6115 nr H.size 11 0 hg hnr hI (by have : (11 : Int32).toInt = 11 := (by decide); omega) (by have : (0 : Int32).toInt = 0 := (by decide); omega)) (cwV 2 hwd (gV wk_882 wk_879 wk_880 wk_881 wk_38) rfl rfl rfl (by decide +kernel) ⟨Nat.le_of_ble_eq_true rfl, Nat.le_of_ble_eq_true rfl⟩) ⟨PX.blind, va_recv hK hP (ci := 3) (q0 := 7) rfl rfl, fun U hU hW => ⟨rfl, PX.at hK hE hP hS hU hW⟩⟩ rfl rfl hl.1 rfl (lv_room (Nat.le_of_ble_eq_true rfl)) dX3_readComparison_69 ⟨Nat.le_of_ble_eq_true rfl, Nat.le_of_ble_eq_true rfl⟩) hS (fun q _ h => (freeX hS) q h) (freeX hS) (fun r6121 u t H1 locs ht hvm hw hB hz1 hk1 hS => ?_)
            unfold BX at hB
            rw [ht] at hB
            obtain ⟨v6122, F6123, rc9⟩ := u
            obtain ⟨hI, hal9, hrc, hf6124, hw⟩ := hw
            dsimp only at hI hal9 hrc hB hf6124 hw
            rw [hrc] at hB
            have hal := hal9.trans hal
            have hP : va_P (dC, dI) classes (wX g c v6122 F6123 (g (44 + nr))) H1 := hB
            have hw : -1 ≤ r6121.toInt ∧ r6121.toInt ≤ 119 := hw
            have k6125 : (11 : Int32).toInt = 11 := by decide
            have k6126 : (0 : Int32).toInt = 0 := by decide
            generalize H1 = H at hP hS ⊢
            have hw_r6121 := hw
            refine lv_pop hx hb dX3_readComparison_72 rfl ?_
            have hP9 : va_P (dC, dI) classes (wX g c v6122 F6123 (g (44 + nr))) H := hP
            exact W.vret hx hb hr (fun t ht hW => ⟨⟨(v6122, F6123, (g (44 + nr))), rfl, ⟨hI, hal, rfl, (frC (by decide) hf6124 (frC (by decide) hf6116 (frU (by decide) (frC (by decide) hf6037 (fun _ _ => rfl))))), trivial⟩, (by show va_P _ _ _ t.heap; rw [ht]; exact hP9)⟩, hS.F ht⟩) hS.2.2 dX3_readComparison_73
          · skip
            have t6127 := cv_eq (a := r6038.toInt) rfl (b := 61) (by decide) c6119
            refine lv_bipush (v := 10) hx hb dX3_readComparison_61 (by decide) ?_
            refine lv_goto (tgt := 68) hx hb dX3_readComparison_63 (by decide) ?_
            refine lv_iconst (v := 0) hx hb dX3_readComparison_68 (by decide) ?_
            refine va_calli (va_runV (As := [.int 10, .int 0]) (rest := []) ⟨hx, hb, hml, hown, hwd⟩ (c_X3_put l dC dI g c adK adV v6114 F6115 nr H.size 10 0 hg hnr hI (by have : (10 : Int32).toInt = 10 := (by decide); omega) (by have : (0 : Int32).toInt = 0 := (by decide); omega)) (cwV 2 hwd (gV wk_882 wk_879 wk_880 wk_881 wk_38) rfl rfl rfl (by decide +kernel) ⟨Nat.le_of_ble_eq_true rfl, Nat.le_of_ble_eq_true rfl⟩) ⟨PX.blind, va_recv hK hP (ci := 3) (q0 := 7) rfl rfl, fun U hU hW => ⟨rfl, PX.at hK hE hP hS hU hW⟩⟩ rfl rfl hl.1 rfl (lv_room (Nat.le_of_ble_eq_true rfl)) dX3_readComparison_69 ⟨Nat.le_of_ble_eq_true rfl, Nat.le_of_ble_eq_true rfl⟩) hS (fun q _ h => (freeX hS) q h) (freeX hS) (fun r6128 u t H1 locs ht hvm hw hB hz1 hk1 hS => ?_)
            unfold BX at hB
            rw [ht] at hB
            obtain ⟨v6129, F6130, rc9⟩ := u
            obtain ⟨hI, hal9, hrc, hf6131, hw⟩ := hw
            dsimp only at hI hal9 hrc hB hf6131 hw
            rw [hrc] at hB
            have hal := hal9.trans hal
            have hP : va_P (dC, dI) classes (wX g c v6129 F6130 (g (44 + nr))) H1 := hB
            have hw : -1 ≤ r6128.toInt ∧ r6128.toInt ≤ 119 := hw
            have k6132 : (10 : Int32).toInt = 10 := by decide
            have k6133 : (0 : Int32).toInt = 0 := by decide
            generalize H1 = H at hP hS ⊢
            have hw_r6128 := hw
            refine lv_pop hx hb dX3_readComparison_72 rfl ?_
            have hP9 : va_P (dC, dI) classes (wX g c v6129 F6130 (g (44 + nr))) H := hP
            exact W.vret hx hb hr (fun t ht hW => ⟨⟨(v6129, F6130, (g (44 + nr))), rfl, ⟨hI, hal, rfl, (frC (by decide) hf6131 (frC (by decide) hf6116 (frU (by decide) (frC (by decide) hf6037 (fun _ _ => rfl))))), trivial⟩, (by show va_P _ _ _ t.heap; rw [ht]; exact hP9)⟩, hS.F ht⟩) hS.2.2 dX3_readComparison_73
        · skip
          have t6134 := cv_eq (a := r6038.toInt) rfl (b := 60) (by decide) c6117
          refine lv_bipush (v := 9) hx hb dX3_readComparison_50 (by decide) ?_
          refine lv_goto (tgt := 68) hx hb dX3_readComparison_52 (by decide) ?_
          refine lv_iconst (v := 0) hx hb dX3_readComparison_68 (by decide) ?_
          refine va_calli (va_runV (As := [.int 9, .int 0]) (rest := []) ⟨hx, hb, hml, hown, hwd⟩ (c_X3_put l dC dI g c adK adV v6114 F6115 nr H.size 9 0 hg hnr hI (by have : (9 : Int32).toInt = 9 := (by decide); omega) (by have : (0 : Int32).toInt = 0 := (by decide); omega)) (cwV 2 hwd (gV wk_882 wk_879 wk_880 wk_881 wk_38) rfl rfl rfl (by decide +kernel) ⟨Nat.le_of_ble_eq_true rfl, Nat.le_of_ble_eq_true rfl⟩) ⟨PX.blind, va_recv hK hP (ci := 3) (q0 := 7) rfl rfl, fun U hU hW => ⟨rfl, PX.at hK hE hP hS hU hW⟩⟩ rfl rfl hl.1 rfl (lv_room (Nat.le_of_ble_eq_true rfl)) dX3_readComparison_69 ⟨Nat.le_of_ble_eq_true rfl, Nat.le_of_ble_eq_true rfl⟩) hS (fun q _ h => (freeX hS) q h) (freeX hS) (fun r6135 u t H1 locs ht hvm hw hB hz1 hk1 hS => ?_)
          unfold BX at hB
          rw [ht] at hB
          obtain ⟨v6136, F6137, rc9⟩ := u
          obtain ⟨hI, hal9, hrc, hf6138, hw⟩ := hw
          dsimp only at hI hal9 hrc hB hf6138 hw
          rw [hrc] at hB
          have hal := hal9.trans hal
          have hP : va_P (dC, dI) classes (wX g c v6136 F6137 (g (44 + nr))) H1 := hB
          have hw : -1 ≤ r6135.toInt ∧ r6135.toInt ≤ 119 := hw
          have k6139 : (9 : Int32).toInt = 9 := by decide
          have k6140 : (0 : Int32).toInt = 0 := by decide
          generalize H1 = H at hP hS ⊢
          have hw_r6135 := hw
          refine lv_pop hx hb dX3_readComparison_72 rfl ?_
          have hP9 : va_P (dC, dI) classes (wX g c v6136 F6137 (g (44 + nr))) H := hP
          exact W.vret hx hb hr (fun t ht hW => ⟨⟨(v6136, F6137, (g (44 + nr))), rfl, ⟨hI, hal, rfl, (frC (by decide) hf6138 (frC (by decide) hf6116 (frU (by decide) (frC (by decide) hf6037 (fun _ _ => rfl))))), trivial⟩, (by show va_P _ _ _ t.heap; rw [ht]; exact hP9)⟩, hS.F ht⟩) hS.2.2 dX3_readComparison_73
set_option maxHeartbeats 8000000 in
set_option maxRecDepth 100000 in
theorem c_X3_readChoice_2 (l : Launch) (dC : Nat → ClassId) (dI : Nat → Nat → Nat) (g : Nat → Nat) (c : Nat → ClassId) (adK adV : Nat → Nat) (v : Nat → Int32) (F : Nat → Nat → Int32) (nr sz : Nat) (hg : injX g) (hnr : nr < 10) (hI : IX v F) : Met l yX3_readChoice (Cond.code yX3_readChoice cX3_readChoice 4 none :: wA) ({ frames := 40, cells := 0, slots := 0, locals := 1600 }) (va_Pc [.ref (g 7), .int 2] (PX dC dI g c adK adV v F (g (44 + nr)) sz)) (va_Qv (fun (u : StX) => IX u.1 u.2.1 ∧ alX u.1 u.2.1 = alX v F ∧ u.2.2 = (g (44 + nr)) ∧ (∀ k, k ∉ ([142, 143, 144] : List Nat) → u.1 k = v k) ∧ True) (BX dC dI g c) (AX g sz)) 0 0 (AX g sz) := by
  refine Met.ofW (cc := cX3_readChoice) (maxL := 4) (ret := none) (by decide) rfl ?_
  intro p e s m args below meth c0 s₁ B hml hv
  obtain ⟨rfl, hsz, hP, hK, hE⟩ := hv
  have hx := B.exec
  have hb := B.bytes
  have hr := B.returns
  have hts := atoms_spec (ws := Cond.code yX3_readChoice cX3_readChoice 4 none :: wA) B.pre
  have hwd : ∀ w ∈ wA, w.before _ s = true := fun w h => hts w (List.mem_cons_of_mem _ h)
  have hown : s.vm.findClass RX3 = some m.cls := findClass_of_methodNamed B.named
  have hlocks := B.notSynchronized
  subst hsz
  have hl := lv_entry ([.ref (g 7), .int 2]) (n := 4) (Nat.le_of_ble_eq_true rfl)
  rw [lg_entry_eq]
  generalize (lg_sl ([.ref (g 7), .int 2]) ++ List.replicate (4 - (lg_sl ([.ref (g 7), .int 2])).length) Slot.unset).toArray = ls at hl ⊢
  have hl : lv_has ls 4 [(0, .ref (g 7)), (1, .int 2)] := hl
  obtain ⟨H, eH⟩ : ∃ z, z = s.heap := ⟨_, rfl⟩
  have hP : va_P (dC, dI) classes (wX g c v F (g (44 + nr))) H := by rw [eH]; exact hP
  have hS : va_S (AX g s.heap.size) s.heap H [] := by rw [eH]; exact va_S.rf
  refine my_heap eH ?_
  have hal : alX v F = alX v F := rfl
  refine lv_aload_n hx hb dX3_readChoice_0 rfl (lv_at hl 0 rfl) ?_
  refine lv_iload_n hx hb dX3_readChoice_1 rfl (lv_at hl 1 rfl) ?_
  refine va_callv (va_runV (As := [.int 2]) (rest := []) ⟨hx, hb, hml, hown, hwd⟩ (c_X3_readComparison_2 l dC dI g c adK adV v F nr H.size  hg hnr hI ) (cwV 1 hwd (gV wk_891 wk_860 wk_861 wk_862 wk_38) rfl rfl rfl (by decide +kernel) ⟨Nat.le_of_ble_eq_true rfl, Nat.le_of_ble_eq_true rfl⟩) ⟨PX.blind, va_recv hK hP (ci := 3) (q0 := 7) rfl rfl, fun U hU hW => ⟨rfl, PX.at hK hE hP hS hU hW⟩⟩ rfl rfl hl.1 rfl (lv_room (Nat.le_of_ble_eq_true rfl)) dX3_readChoice_2 ⟨Nat.le_of_ble_eq_true rfl, Nat.le_of_ble_eq_true rfl⟩) hS (fun q _ h => (freeX hS) q h) (freeX hS) (fun u t H1 locs ht hvm hw hB hz1 hk1 hS => ?_)
  unfold BX at hB
  rw [ht] at hB
  obtain ⟨v6142, F6143, rc9⟩ := u
  obtain ⟨hI, hal9, hrc, hf6144, hw⟩ := hw
  dsimp only at hI hal9 hrc hB hf6144 hw
  rw [hrc] at hB
  have hal := hal9.trans hal
  have hP : va_P (dC, dI) classes (wX g c v6142 F6143 (g (44 + nr))) H1 := hB
  generalize H1 = H at hP hS ⊢
  refine lv_aload_n hx hb dX3_readChoice_5 rfl (lv_at hl 0 rfl) ?_
  refine va_calli (va_runV (As := []) (rest := []) ⟨hx, hb, hml, hown, hwd⟩ (c_X3_next l dC dI g c adK adV v6142 F6143 nr H.size  hg hnr hI ) (cwV 0 hwd (gV wk_866 wk_863 wk_864 wk_865 wk_38) rfl rfl rfl (by decide +kernel) ⟨Nat.le_of_ble_eq_true rfl, Nat.le_of_ble_eq_true rfl⟩) ⟨PX.blind, va_recv hK hP (ci := 3) (q0 := 7) rfl rfl, fun U hU hW => ⟨rfl, PX.at hK hE hP hS hU hW⟩⟩ rfl rfl hl.1 rfl (lv_room (Nat.le_of_ble_eq_true rfl)) dX3_readChoice_6 ⟨Nat.le_of_ble_eq_true rfl, Nat.le_of_ble_eq_true rfl⟩) hS (fun q _ h => (freeX hS) q h) (freeX hS) (fun r6145 u t H1 locs ht hvm hw hB hz1 hk1 hS => ?_)
  unfold BX at hB
  rw [ht] at hB
  have hP : va_P (dC, dI) classes (wX g c v6142 F6143 (g (44 + nr))) H1 := hB
  generalize H1 = H at hP hS ⊢
  have rr_r6145 := i32_rng r6145
  refine lv_bipush (v := 63) hx hb dX3_readChoice_9 (by decide) ?_
  refine lv_icmp_ne (tgt := 66) hx hb dX3_readChoice_11 (by decide) (fun c6146 => ?_) (fun c6146 => ?_)
  · skip
    have t6147 := cv_ne (a := r6145.toInt) rfl (b := 63) (by decide) c6146
    have hP9 : va_P (dC, dI) classes (wX g c v6142 F6143 (g (44 + nr))) H := hP
    exact W.vret hx hb hr (fun t ht hW => ⟨⟨(v6142, F6143, (g (44 + nr))), rfl, ⟨hI, hal, rfl, (frC (by decide) hf6144 (fun _ _ => rfl)), trivial⟩, (by show va_P _ _ _ t.heap; rw [ht]; exact hP9)⟩, hS.F ht⟩) hS.2.2 dX3_readChoice_66
  · skip
    have t6148 := cv_eq (a := r6145.toInt) rfl (b := 63) (by decide) c6146
    refine lv_aload_n hx hb dX3_readChoice_14 rfl (lv_at hl 0 rfl) ?_
    refine lv_iload_n hx hb dX3_readChoice_15 rfl (lv_at hl 1 rfl) ?_
    refine va_calli (va_runV (As := [.int 2]) (rest := []) ⟨hx, hb, hml, hown, hwd⟩ (c_X3_opens l dC dI g c adK adV v6142 F6143 nr H.size 2 hg hnr hI ) (cwV 1 hwd (gV wk_874 wk_871 wk_872 wk_873 wk_38) rfl rfl rfl (by decide +kernel) ⟨Nat.le_of_ble_eq_true rfl, Nat.le_of_ble_eq_true rfl⟩) ⟨PX.blind, va_recv hK hP (ci := 3) (q0 := 7) rfl rfl, fun U hU hW => ⟨rfl, PX.at hK hE hP hS hU hW⟩⟩ rfl rfl hl.1 rfl (lv_room (Nat.le_of_ble_eq_true rfl)) dX3_readChoice_16 ⟨Nat.le_of_ble_eq_true rfl, Nat.le_of_ble_eq_true rfl⟩) hS (fun q _ h => (freeX hS) q h) (freeX hS) (fun r6149 u t H1 locs ht hvm hw hB hz1 hk1 hS => ?_)
    unfold BX at hB
    rw [ht] at hB
    obtain ⟨v6150, F6151, rc9⟩ := u
    obtain ⟨hI, hal9, hrc, hf6152, hw⟩ := hw
    dsimp only at hI hal9 hrc hB hf6152 hw
    rw [hrc] at hB
    have hal := hal9.trans hal
    have hP : va_P (dC, dI) classes (wX g c v6150 F6151 (g (44 + nr))) H1 := hB
    have hw : (r6149.toInt = 1 ∧ (2 : Int32).toInt < 8) ∨ (r6149.toInt = 0 ∧ 8 ≤ (2 : Int32).toInt) := hw
    have k6153 : (2 : Int32).toInt = 2 := by decide
    generalize H1 = H at hP hS ⊢
    have hw_r6149 := hw
    refine lv_if_eq (tgt := 66) hx hb dX3_readChoice_19 (by decide) (fun c6154 => ?_) (fun c6154 => ?_)
    · skip
      have t6155 := cv_eq (a := r6149.toInt) rfl (b := 0) (by decide) c6154
      have hP9 : va_P (dC, dI) classes (wX g c v6150 F6151 (g (44 + nr))) H := hP
      exact W.vret hx hb hr (fun t ht hW => ⟨⟨(v6150, F6151, (g (44 + nr))), rfl, ⟨hI, hal, rfl, (frC (by decide) hf6152 (frC (by decide) hf6144 (fun _ _ => rfl))), trivial⟩, (by show va_P _ _ _ t.heap; rw [ht]; exact hP9)⟩, hS.F ht⟩) hS.2.2 dX3_readChoice_66
    · skip
      have t6156 := cv_ne (a := r6149.toInt) rfl (b := 0) (by decide) c6154
      refine lv_aload_n hx hb dX3_readChoice_22 rfl (lv_at hl 0 rfl) ?_
      refine lv_iconst (v := 4) hx hb dX3_readChoice_23 (by decide) ?_
      refine lv_iconst (v := 0) hx hb dX3_readChoice_24 (by decide) ?_
      refine va_calli (va_runV (As := [.int 4, .int 0]) (rest := []) ⟨hx, hb, hml, hown, hwd⟩ (c_X3_put l dC dI g c adK adV v6150 F6151 nr H.size 4 0 hg hnr hI (by have : (4 : Int32).toInt = 4 := (by decide); omega) (by have : (0 : Int32).toInt = 0 := (by decide); omega)) (cwV 2 hwd (gV wk_882 wk_879 wk_880 wk_881 wk_38) rfl rfl rfl (by decide +kernel) ⟨Nat.le_of_ble_eq_true rfl, Nat.le_of_ble_eq_true rfl⟩) ⟨PX.blind, va_recv hK hP (ci := 3) (q0 := 7) rfl rfl, fun U hU hW => ⟨rfl, PX.at hK hE hP hS hU hW⟩⟩ rfl rfl hl.1 rfl (lv_room (Nat.le_of_ble_eq_true rfl)) dX3_readChoice_25 ⟨Nat.le_of_ble_eq_true rfl, Nat.le_of_ble_eq_true rfl⟩) hS (fun q _ h => (freeX hS) q h) (freeX hS) (fun r6157 u t H1 locs ht hvm hw hB hz1 hk1 hS => ?_)
      unfold BX at hB
      rw [ht] at hB
      obtain ⟨v6158, F6159, rc9⟩ := u
      obtain ⟨hI, hal9, hrc, hf6160, hw⟩ := hw
      dsimp only at hI hal9 hrc hB hf6160 hw
      rw [hrc] at hB
      have hal := hal9.trans hal
      have hP : va_P (dC, dI) classes (wX g c v6158 F6159 (g (44 + nr))) H1 := hB
      have hw : -1 ≤ r6157.toInt ∧ r6157.toInt ≤ 119 := hw
      have k6161 : (4 : Int32).toInt = 4 := by decide
      have k6162 : (0 : Int32).toInt = 0 := by decide
      generalize H1 = H at hP hS ⊢
      have hw_r6157 := hw
      refine lv_istore_n (lv' := [(2, .int r6157), (0, .ref (g 7)), (1, .int 2)]) hx hb dX3_readChoice_28 rfl hl (by decide) rfl (fun ls hl => ?_)
      refine lv_aload_n hx hb dX3_readChoice_29 rfl (lv_at hl 1 rfl) ?_
      refine lv_iload_n hx hb dX3_readChoice_30 rfl (lv_at hl 2 rfl) ?_
      refine lv_iconst (v := 1) hx hb dX3_readChoice_31 (by decide) ?_
      refine lv_iadd hx hb dX3_readChoice_32 ?_
      refine my_top (v := 3) (by decide) ?_
      refine va_callv (va_runV (As := [.int 3]) (rest := []) ⟨hx, hb, hml, hown, hwd⟩ (c_X3_readChoice_3 l dC dI g c adK adV v6158 F6159 nr H.size  hg hnr hI ) (cwV 1 hwd (gV wk_859 wk_856 wk_857 wk_858 wk_38) rfl rfl rfl (by decide +kernel) ⟨Nat.le_of_ble_eq_true rfl, Nat.le_of_ble_eq_true rfl⟩) ⟨PX.blind, va_recv hK hP (ci := 3) (q0 := 7) rfl rfl, fun U hU hW => ⟨rfl, PX.at hK hE hP hS hU hW⟩⟩ rfl rfl hl.1 rfl (lv_room (Nat.le_of_ble_eq_true rfl)) dX3_readChoice_33 ⟨Nat.le_of_ble_eq_true rfl, Nat.le_of_ble_eq_true rfl⟩) hS (fun q _ h => (freeX hS) q h) (freeX hS) (fun u t H1 locs ht hvm hw hB hz1 hk1 hS => ?_)
      unfold BX at hB
      rw [ht] at hB
      obtain ⟨v6164, F6165, rc9⟩ := u
      obtain ⟨hI, hal9, hrc, hf6166, hw⟩ := hw
      dsimp only at hI hal9 hrc hB hf6166 hw
      rw [hrc] at hB
      have hal := hal9.trans hal
      have hP : va_P (dC, dI) classes (wX g c v6164 F6165 (g (44 + nr))) H1 := hB
      generalize H1 = H at hP hS ⊢
      refine lv_aload_n hx hb dX3_readChoice_36 rfl (lv_at hl 1 rfl) ?_
      refine lv_bipush (v := 58) hx hb dX3_readChoice_37 (by decide) ?_
      refine va_callv (va_runV (As := [.int 58]) (rest := []) ⟨hx, hb, hml, hown, hwd⟩ (c_X3_take l dC dI g c adK adV v6164 F6165 nr H.size 58 hg hnr hI ) (cwV 1 hwd (gV wk_886 wk_883 wk_884 wk_885 wk_38) rfl rfl rfl (by decide +kernel) ⟨Nat.le_of_ble_eq_true rfl, Nat.le_of_ble_eq_true rfl⟩) ⟨PX.blind, va_recv hK hP (ci := 3) (q0 := 7) rfl rfl, fun U hU hW => ⟨rfl, PX.at hK hE hP hS hU hW⟩⟩ rfl rfl hl.1 rfl (lv_room (Nat.le_of_ble_eq_true rfl)) dX3_readChoice_39 ⟨Nat.le_of_ble_eq_true rfl, Nat.le_of_ble_eq_true rfl⟩) hS (fun q _ h => (freeX hS) q h) (freeX hS) (fun u t H1 locs ht hvm hw hB hz1 hk1 hS => ?_)
      unfold BX at hB
      rw [ht] at hB
      obtain ⟨v6168, F6169, rc9⟩ := u
      obtain ⟨hI, hal9, hrc, hf6170, hw⟩ := hw
      dsimp only at hI hal9 hrc hB hf6170 hw
      rw [hrc] at hB
      have hal := hal9.trans hal
      have hP : va_P (dC, dI) classes (wX g c v6168 F6169 (g (44 + nr))) H1 := hB
      generalize H1 = H at hP hS ⊢
      refine lv_aload_n hx hb dX3_readChoice_42 rfl (lv_at hl 1 rfl) ?_
      refine lv_iconst (v := 3) hx hb dX3_readChoice_43 (by decide) ?_
      refine lv_iconst (v := 0) hx hb dX3_readChoice_44 (by decide) ?_
      refine va_calli (va_runV (As := [.int 3, .int 0]) (rest := []) ⟨hx, hb, hml, hown, hwd⟩ (c_X3_put l dC dI g c adK adV v6168 F6169 nr H.size 3 0 hg hnr hI (by have : (3 : Int32).toInt = 3 := (by decide); omega) (by have : (0 : Int32).toInt = 0 := (by decide); omega)) (cwV 2 hwd (gV wk_882 wk_879 wk_880 wk_881 wk_38) rfl rfl rfl (by decide +kernel) ⟨Nat.le_of_ble_eq_true rfl, Nat.le_of_ble_eq_true rfl⟩) ⟨PX.blind, va_recv hK hP (ci := 3) (q0 := 7) rfl rfl, fun U hU hW => ⟨rfl, PX.at hK hE hP hS hU hW⟩⟩ rfl rfl hl.1 rfl (lv_room (Nat.le_of_ble_eq_true rfl)) dX3_readChoice_45 ⟨Nat.le_of_ble_eq_true rfl, Nat.le_of_ble_eq_true rfl⟩) hS (fun q _ h => (freeX hS) q h) (freeX hS) (fun r6171 u t H1 locs ht hvm hw hB hz1 hk1 hS => ?_)
      unfold BX at hB
      rw [ht] at hB
      obtain ⟨v6172, F6173, rc9⟩ := u
      obtain ⟨hI, hal9, hrc, hf6174, hw⟩ := hw
      dsimp only at hI hal9 hrc hB hf6174 hw
      rw [hrc] at hB
      have hal := hal9.trans hal
      have hP : va_P (dC, dI) classes (wX g c v6172 F6173 (g (44 + nr))) H1 := hB
      have hw : -1 ≤ r6171.toInt ∧ r6171.toInt ≤ 119 := hw
      have k6175 : (3 : Int32).toInt = 3 := by decide
      have k6176 : (0 : Int32).toInt = 0 := by decide
      generalize H1 = H at hP hS ⊢
      have hw_r6171 := hw
      refine lv_istore_n (lv' := [(3, .int r6171), (2, .int r6157), (0, .ref (g 7)), (1, .int 2)]) hx hb dX3_readChoice_48 rfl hl (by decide) rfl (fun ls hl => ?_)
      refine lv_aload_n hx hb dX3_readChoice_49 rfl (lv_at hl 2 rfl) ?_
      refine lv_iload_n hx hb dX3_readChoice_50 rfl (lv_at hl 1 rfl) ?_
      refine va_callv (va_runV (As := [.int r6157]) (rest := []) ⟨hx, hb, hml, hown, hwd⟩ (c_X3_leadHere l dC dI g c adK adV v6172 F6173 nr H.size r6157 hg hnr hI ) (cwV 1 hwd (gV wk_890 wk_887 wk_888 wk_889 wk_38) rfl rfl rfl (by decide +kernel) ⟨Nat.le_of_ble_eq_true rfl, Nat.le_of_ble_eq_true rfl⟩) ⟨PX.blind, va_recv hK hP (ci := 3) (q0 := 7) rfl rfl, fun U hU hW => ⟨rfl, PX.at hK hE hP hS hU hW⟩⟩ rfl rfl hl.1 rfl (lv_room (Nat.le_of_ble_eq_true rfl)) dX3_readChoice_51 ⟨Nat.le_of_ble_eq_true rfl, Nat.le_of_ble_eq_true rfl⟩) hS (fun q _ h => (freeX hS) q h) (freeX hS) (fun u t H1 locs ht hvm hw hB hz1 hk1 hS => ?_)
      unfold BX at hB
      rw [ht] at hB
      obtain ⟨v6178, F6179, rc9⟩ := u
      obtain ⟨hI, hal9, hrc, hf6180, hw⟩ := hw
      dsimp only at hI hal9 hrc hB hf6180 hw
      rw [hrc] at hB
      have hal := hal9.trans hal
      have hP : va_P (dC, dI) classes (wX g c v6178 F6179 (g (44 + nr))) H1 := hB
      generalize H1 = H at hP hS ⊢
      refine lv_aload_n hx hb dX3_readChoice_54 rfl (lv_at hl 2 rfl) ?_
      refine lv_iload_n hx hb dX3_readChoice_55 rfl (lv_at hl 3 rfl) ?_
      refine lv_iconst (v := 1) hx hb dX3_readChoice_56 (by decide) ?_
      refine lv_iadd hx hb dX3_readChoice_57 ?_
      refine my_top (v := 3) (by decide) ?_
      refine va_callv (va_runV (As := [.int 3]) (rest := []) ⟨hx, hb, hml, hown, hwd⟩ (c_X3_readChoice_3 l dC dI g c adK adV v6178 F6179 nr H.size  hg hnr hI ) (cwV 1 hwd (gV wk_859 wk_856 wk_857 wk_858 wk_38) rfl rfl rfl (by decide +kernel) ⟨Nat.le_of_ble_eq_true rfl, Nat.le_of_ble_eq_true rfl⟩) ⟨PX.blind, va_recv hK hP (ci := 3) (q0 := 7) rfl rfl, fun U hU hW => ⟨rfl, PX.at hK hE hP hS hU hW⟩⟩ rfl rfl hl.1 rfl (lv_room (Nat.le_of_ble_eq_true rfl)) dX3_readChoice_58 ⟨Nat.le_of_ble_eq_true rfl, Nat.le_of_ble_eq_true rfl⟩) hS (fun q _ h => (freeX hS) q h) (freeX hS) (fun u t H1 locs ht hvm hw hB hz1 hk1 hS => ?_)
      unfold BX at hB
      rw [ht] at hB
      obtain ⟨v6182, F6183, rc9⟩ := u
      obtain ⟨hI, hal9, hrc, hf6184, hw⟩ := hw
      dsimp only at hI hal9 hrc hB hf6184 hw
      rw [hrc] at hB
      have hal := hal9.trans hal
      have hP : va_P (dC, dI) classes (wX g c v6182 F6183 (g (44 + nr))) H1 := hB
      generalize H1 = H at hP hS ⊢
      refine lv_aload_n hx hb dX3_readChoice_61 rfl (lv_at hl 2 rfl) ?_
      refine lv_iload_n hx hb dX3_readChoice_62 rfl (lv_at hl 0 rfl) ?_
      refine va_callv (va_runV (As := [.int r6171]) (rest := []) ⟨hx, hb, hml, hown, hwd⟩ (c_X3_leadHere l dC dI g c adK adV v6182 F6183 nr H.size r6171 hg hnr hI ) (cwV 1 hwd (gV wk_890 wk_887 wk_888 wk_889 wk_38) rfl rfl rfl (by decide +kernel) ⟨Nat.le_of_ble_eq_true rfl, Nat.le_of_ble_eq_true rfl⟩) ⟨PX.blind, va_recv hK hP (ci := 3) (q0 := 7) rfl rfl, fun U hU hW => ⟨rfl, PX.at hK hE hP hS hU hW⟩⟩ rfl rfl hl.1 rfl (lv_room (Nat.le_of_ble_eq_true rfl)) dX3_readChoice_63 ⟨Nat.le_of_ble_eq_true rfl, Nat.le_of_ble_eq_true rfl⟩) hS (fun q _ h => (freeX hS) q h) (freeX hS) (fun u t H1 locs ht hvm hw hB hz1 hk1 hS => ?_)
      unfold BX at hB
      rw [ht] at hB
      obtain ⟨v6186, F6187, rc9⟩ := u
      obtain ⟨hI, hal9, hrc, hf6188, hw⟩ := hw
      dsimp only at hI hal9 hrc hB hf6188 hw
      rw [hrc] at hB
      have hal := hal9.trans hal
      have hP : va_P (dC, dI) classes (wX g c v6186 F6187 (g (44 + nr))) H1 := hB
      generalize H1 = H at hP hS ⊢
      have hP9 : va_P (dC, dI) classes (wX g c v6186 F6187 (g (44 + nr))) H := hP
      exact W.vret hx hb hr (fun t ht hW => ⟨⟨(v6186, F6187, (g (44 + nr))), rfl, ⟨hI, hal, rfl, (frC (by decide) hf6188 (frC (by decide) hf6184 (frC (by decide) hf6180 (frC (by decide) hf6174 (frC (by decide) hf6170 (frC (by decide) hf6166 (frC (by decide) hf6160 (frC (by decide) hf6152 (frC (by decide) hf6144 (fun _ _ => rfl)))))))))), trivial⟩, (by show va_P _ _ _ t.heap; rw [ht]; exact hP9)⟩, hS.F ht⟩) hS.2.2 dX3_readChoice_66
