set_option maxHeartbeats 8000000 in
set_option maxRecDepth 100000 in
theorem c_X3_readOperand_4 (l : Launch) (dC : Nat → ClassId) (dI : Nat → Nat → Nat) (g : Nat → Nat) (c : Nat → ClassId) (adK adV : Nat → Nat) (v : Nat → Int32) (F : Nat → Nat → Int32) (nr sz : Nat) (hg : injX g) (hnr : nr < 10) (hI : IX v F) : Met l yX3_readOperand (Cond.code yX3_readOperand cX3_readOperand 3 none :: wA) ({ frames := 26, cells := 0, slots := 0, locals := 1040 }) (va_Pc [.ref (g 7), .int 4] (PX dC dI g c adK adV v F (g (44 + nr)) sz)) (va_Qv (fun (u : StX) => IX u.1 u.2.1 ∧ alX u.1 u.2.1 = alX v F ∧ u.2.2 = (g (44 + nr)) ∧ (∀ k, k ∉ ([142, 143, 144] : List Nat) → u.1 k = v k) ∧ True) (BX dC dI g c) (AX g sz)) 0 0 (AX g sz) := by
  refine Met.ofW (cc := cX3_readOperand) (maxL := 3) (ret := none) (by decide) rfl ?_
  intro p e s m args below meth c0 s₁ B hml hv
  obtain ⟨rfl, hsz, hP, hK, hE⟩ := hv
  have hx := B.exec
  have hb := B.bytes
  have hr := B.returns
  have hts := atoms_spec (ws := Cond.code yX3_readOperand cX3_readOperand 3 none :: wA) B.pre
  have hwd : ∀ w ∈ wA, w.before _ s = true := fun w h => hts w (List.mem_cons_of_mem _ h)
  have hown : s.vm.findClass RX3 = some m.cls := findClass_of_methodNamed B.named
  have hlocks := B.notSynchronized
  subst hsz
  have hl := lv_entry ([.ref (g 7), .int 4]) (n := 3) (Nat.le_of_ble_eq_true rfl)
  rw [lg_entry_eq]
  generalize (lg_sl ([.ref (g 7), .int 4]) ++ List.replicate (3 - (lg_sl ([.ref (g 7), .int 4])).length) Slot.unset).toArray = ls at hl ⊢
  have hl : lv_has ls 3 [(0, .ref (g 7)), (1, .int 4)] := hl
  obtain ⟨H, eH⟩ : ∃ z, z = s.heap := ⟨_, rfl⟩
  have hP : va_P (dC, dI) classes (wX g c v F (g (44 + nr))) H := by rw [eH]; exact hP
  have hS : va_S (AX g s.heap.size) s.heap H [] := by rw [eH]; exact va_S.rf
  refine my_heap eH ?_
  have hal : alX v F = alX v F := rfl
  refine lv_aload_n hx hb dX3_readOperand_0 rfl (lv_at hl 0 rfl) ?_
  refine va_calli (va_runV (As := []) (rest := []) ⟨hx, hb, hml, hown, hwd⟩ (c_X3_next l dC dI g c adK adV v F nr H.size  hg hnr hI ) (cwV 0 hwd (gV wk_866 wk_863 wk_864 wk_865 wk_38) rfl rfl rfl (by decide +kernel) ⟨Nat.le_of_ble_eq_true rfl, Nat.le_of_ble_eq_true rfl⟩) ⟨PX.blind, va_recv hK hP (ci := 3) (q0 := 7) rfl rfl, fun U hU hW => ⟨rfl, PX.at hK hE hP hS hU hW⟩⟩ rfl rfl hl.1 rfl (lv_room (Nat.le_of_ble_eq_true rfl)) dX3_readOperand_1 ⟨Nat.le_of_ble_eq_true rfl, Nat.le_of_ble_eq_true rfl⟩) hS (fun q _ h => (freeX hS) q h) (freeX hS) (fun r5055 u t H1 locs ht hvm hw hB hz1 hk1 hS => ?_)
  unfold BX at hB
  rw [ht] at hB
  have hP : va_P (dC, dI) classes (wX g c v F (g (44 + nr))) H1 := hB
  generalize H1 = H at hP hS ⊢
  have rr_r5055 := i32_rng r5055
  refine lv_istore_n (lv' := [(2, .int r5055), (0, .ref (g 7)), (1, .int 4)]) hx hb dX3_readOperand_4 rfl hl (by decide) rfl (fun ls hl => ?_)
  refine lv_iload_n hx hb dX3_readOperand_5 rfl (lv_at hl 0 rfl) ?_
  refine lv_bipush (v := 45) hx hb dX3_readOperand_6 (by decide) ?_
  refine lv_icmp_ne (tgt := 36) hx hb dX3_readOperand_8 (by decide) (fun c5056 => ?_) (fun c5056 => ?_)
  · skip
    have t5057 := cv_ne (a := r5055.toInt) rfl (b := 45) (by decide) c5056
    refine lv_iload_n hx hb dX3_readOperand_36 rfl (lv_at hl 0 rfl) ?_
    refine lv_bipush (v := 40) hx hb dX3_readOperand_37 (by decide) ?_
    refine lv_icmp_ne (tgt := 66) hx hb dX3_readOperand_39 (by decide) (fun c5058 => ?_) (fun c5058 => ?_)
    · skip
      have t5059 := cv_ne (a := r5055.toInt) rfl (b := 40) (by decide) c5058
      refine lv_aload_n hx hb dX3_readOperand_66 rfl (lv_at hl 1 rfl) ?_
      refine lv_iload_n hx hb dX3_readOperand_67 rfl (lv_at hl 0 rfl) ?_
      refine va_callv (va_runV (As := [.int r5055]) (rest := []) ⟨hx, hb, hml, hown, hwd⟩ (c_X3_readNumberOrName l dC dI g c adK adV v F nr H.size r5055 hg hnr hI ) (cwV 1 hwd (gV wk_902 wk_899 wk_900 wk_901 wk_38) rfl rfl rfl (by decide +kernel) ⟨Nat.le_of_ble_eq_true rfl, Nat.le_of_ble_eq_true rfl⟩) ⟨PX.blind, va_recv hK hP (ci := 3) (q0 := 7) rfl rfl, fun U hU hW => ⟨rfl, PX.at hK hE hP hS hU hW⟩⟩ rfl rfl hl.1 rfl (lv_room (Nat.le_of_ble_eq_true rfl)) dX3_readOperand_68 ⟨Nat.le_of_ble_eq_true rfl, Nat.le_of_ble_eq_true rfl⟩) hS (fun q _ h => (freeX hS) q h) (freeX hS) (fun u t H1 locs ht hvm hw hB hz1 hk1 hS => ?_)
      unfold BX at hB
      rw [ht] at hB
      obtain ⟨v5061, F5062, rc9⟩ := u
      obtain ⟨hI, hal9, hrc, hf5063, hw⟩ := hw
      dsimp only at hI hal9 hrc hB hf5063 hw
      rw [hrc] at hB
      have hal := hal9.trans hal
      have hP : va_P (dC, dI) classes (wX g c v5061 F5062 (g (44 + nr))) H1 := hB
      generalize H1 = H at hP hS ⊢
      have hP9 : va_P (dC, dI) classes (wX g c v5061 F5062 (g (44 + nr))) H := hP
      exact W.vret hx hb hr (fun t ht hW => ⟨⟨(v5061, F5062, (g (44 + nr))), rfl, ⟨hI, hal, rfl, (frC (by decide) hf5063 (fun _ _ => rfl)), trivial⟩, (by show va_P _ _ _ t.heap; rw [ht]; exact hP9)⟩, hS.F ht⟩) hS.2.2 dX3_readOperand_71
    · skip
      have t5064 := cv_eq (a := r5055.toInt) rfl (b := 40) (by decide) c5058
      refine lv_aload_n hx hb dX3_readOperand_42 rfl (lv_at hl 1 rfl) ?_
      refine lv_iload_n hx hb dX3_readOperand_43 rfl (lv_at hl 2 rfl) ?_
      refine va_calli (va_runV (As := [.int 4]) (rest := []) ⟨hx, hb, hml, hown, hwd⟩ (c_X3_opens l dC dI g c adK adV v F nr H.size 4 hg hnr hI ) (cwV 1 hwd (gV wk_874 wk_871 wk_872 wk_873 wk_38) rfl rfl rfl (by decide +kernel) ⟨Nat.le_of_ble_eq_true rfl, Nat.le_of_ble_eq_true rfl⟩) ⟨PX.blind, va_recv hK hP (ci := 3) (q0 := 7) rfl rfl, fun U hU hW => ⟨rfl, PX.at hK hE hP hS hU hW⟩⟩ rfl rfl hl.1 rfl (lv_room (Nat.le_of_ble_eq_true rfl)) dX3_readOperand_44 ⟨Nat.le_of_ble_eq_true rfl, Nat.le_of_ble_eq_true rfl⟩) hS (fun q _ h => (freeX hS) q h) (freeX hS) (fun r5065 u t H1 locs ht hvm hw hB hz1 hk1 hS => ?_)
      unfold BX at hB
      rw [ht] at hB
      obtain ⟨v5066, F5067, rc9⟩ := u
      obtain ⟨hI, hal9, hrc, hf5068, hw⟩ := hw
      dsimp only at hI hal9 hrc hB hf5068 hw
      rw [hrc] at hB
      have hal := hal9.trans hal
      have hP : va_P (dC, dI) classes (wX g c v5066 F5067 (g (44 + nr))) H1 := hB
      have hw : (r5065.toInt = 1 ∧ (4 : Int32).toInt < 8) ∨ (r5065.toInt = 0 ∧ 8 ≤ (4 : Int32).toInt) := hw
      have k5069 : (4 : Int32).toInt = 4 := by decide
      generalize H1 = H at hP hS ⊢
      have hw_r5065 := hw
      refine lv_if_eq (tgt := 71) hx hb dX3_readOperand_47 (by decide) (fun c5070 => ?_) (fun c5070 => ?_)
      · skip
        have t5071 := cv_eq (a := r5065.toInt) rfl (b := 0) (by decide) c5070
        have hP9 : va_P (dC, dI) classes (wX g c v5066 F5067 (g (44 + nr))) H := hP
        exact W.vret hx hb hr (fun t ht hW => ⟨⟨(v5066, F5067, (g (44 + nr))), rfl, ⟨hI, hal, rfl, (frC (by decide) hf5068 (fun _ _ => rfl)), trivial⟩, (by show va_P _ _ _ t.heap; rw [ht]; exact hP9)⟩, hS.F ht⟩) hS.2.2 dX3_readOperand_71
      · skip
        have t5072 := cv_ne (a := r5065.toInt) rfl (b := 0) (by decide) c5070
        refine lv_aload_n hx hb dX3_readOperand_50 rfl (lv_at hl 1 rfl) ?_
        refine lv_iload_n hx hb dX3_readOperand_51 rfl (lv_at hl 2 rfl) ?_
        refine lv_iconst (v := 1) hx hb dX3_readOperand_52 (by decide) ?_
        refine lv_iadd hx hb dX3_readOperand_53 ?_
        refine my_top (v := 5) (by decide) ?_
        refine va_callv (va_runV (As := [.int 5]) (rest := []) ⟨hx, hb, hml, hown, hwd⟩ (c_X3_readChoice_5 l dC dI g c adK adV v5066 F5067 nr H.size  hg hnr hI ) (cwV 1 hwd (gV wk_859 wk_856 wk_857 wk_858 wk_38) rfl rfl rfl (by decide +kernel) ⟨Nat.le_of_ble_eq_true rfl, Nat.le_of_ble_eq_true rfl⟩) ⟨PX.blind, va_recv hK hP (ci := 3) (q0 := 7) rfl rfl, fun U hU hW => ⟨rfl, PX.at hK hE hP hS hU hW⟩⟩ rfl rfl hl.1 rfl (lv_room (Nat.le_of_ble_eq_true rfl)) dX3_readOperand_54 ⟨Nat.le_of_ble_eq_true rfl, Nat.le_of_ble_eq_true rfl⟩) hS (fun q _ h => (freeX hS) q h) (freeX hS) (fun u t H1 locs ht hvm hw hB hz1 hk1 hS => ?_)
        unfold BX at hB
        rw [ht] at hB
        obtain ⟨v5074, F5075, rc9⟩ := u
        obtain ⟨hI, hal9, hrc, hf5076, hw⟩ := hw
        dsimp only at hI hal9 hrc hB hf5076 hw
        rw [hrc] at hB
        have hal := hal9.trans hal
        have hP : va_P (dC, dI) classes (wX g c v5074 F5075 (g (44 + nr))) H1 := hB
        generalize H1 = H at hP hS ⊢
        refine lv_aload_n hx hb dX3_readOperand_57 rfl (lv_at hl 1 rfl) ?_
        refine lv_bipush (v := 41) hx hb dX3_readOperand_58 (by decide) ?_
        refine va_callv (va_runV (As := [.int 41]) (rest := []) ⟨hx, hb, hml, hown, hwd⟩ (c_X3_take l dC dI g c adK adV v5074 F5075 nr H.size 41 hg hnr hI ) (cwV 1 hwd (gV wk_886 wk_883 wk_884 wk_885 wk_38) rfl rfl rfl (by decide +kernel) ⟨Nat.le_of_ble_eq_true rfl, Nat.le_of_ble_eq_true rfl⟩) ⟨PX.blind, va_recv hK hP (ci := 3) (q0 := 7) rfl rfl, fun U hU hW => ⟨rfl, PX.at hK hE hP hS hU hW⟩⟩ rfl rfl hl.1 rfl (lv_room (Nat.le_of_ble_eq_true rfl)) dX3_readOperand_60 ⟨Nat.le_of_ble_eq_true rfl, Nat.le_of_ble_eq_true rfl⟩) hS (fun q _ h => (freeX hS) q h) (freeX hS) (fun u t H1 locs ht hvm hw hB hz1 hk1 hS => ?_)
        unfold BX at hB
        rw [ht] at hB
        obtain ⟨v5078, F5079, rc9⟩ := u
        obtain ⟨hI, hal9, hrc, hf5080, hw⟩ := hw
        dsimp only at hI hal9 hrc hB hf5080 hw
        rw [hrc] at hB
        have hal := hal9.trans hal
        have hP : va_P (dC, dI) classes (wX g c v5078 F5079 (g (44 + nr))) H1 := hB
        generalize H1 = H at hP hS ⊢
        refine lv_goto (tgt := 71) hx hb dX3_readOperand_63 (by decide) ?_
        have hP9 : va_P (dC, dI) classes (wX g c v5078 F5079 (g (44 + nr))) H := hP
        exact W.vret hx hb hr (fun t ht hW => ⟨⟨(v5078, F5079, (g (44 + nr))), rfl, ⟨hI, hal, rfl, (frC (by decide) hf5080 (frC (by decide) hf5076 (frC (by decide) hf5068 (fun _ _ => rfl)))), trivial⟩, (by show va_P _ _ _ t.heap; rw [ht]; exact hP9)⟩, hS.F ht⟩) hS.2.2 dX3_readOperand_71
  · skip
    have t5081 := cv_eq (a := r5055.toInt) rfl (b := 45) (by decide) c5056
    refine lv_aload_n hx hb dX3_readOperand_11 rfl (lv_at hl 1 rfl) ?_
    refine lv_iload_n hx hb dX3_readOperand_12 rfl (lv_at hl 2 rfl) ?_
    refine va_calli (va_runV (As := [.int 4]) (rest := []) ⟨hx, hb, hml, hown, hwd⟩ (c_X3_opens l dC dI g c adK adV v F nr H.size 4 hg hnr hI ) (cwV 1 hwd (gV wk_874 wk_871 wk_872 wk_873 wk_38) rfl rfl rfl (by decide +kernel) ⟨Nat.le_of_ble_eq_true rfl, Nat.le_of_ble_eq_true rfl⟩) ⟨PX.blind, va_recv hK hP (ci := 3) (q0 := 7) rfl rfl, fun U hU hW => ⟨rfl, PX.at hK hE hP hS hU hW⟩⟩ rfl rfl hl.1 rfl (lv_room (Nat.le_of_ble_eq_true rfl)) dX3_readOperand_13 ⟨Nat.le_of_ble_eq_true rfl, Nat.le_of_ble_eq_true rfl⟩) hS (fun q _ h => (freeX hS) q h) (freeX hS) (fun r5082 u t H1 locs ht hvm hw hB hz1 hk1 hS => ?_)
    unfold BX at hB
    rw [ht] at hB
    obtain ⟨v5083, F5084, rc9⟩ := u
    obtain ⟨hI, hal9, hrc, hf5085, hw⟩ := hw
    dsimp only at hI hal9 hrc hB hf5085 hw
    rw [hrc] at hB
    have hal := hal9.trans hal
    have hP : va_P (dC, dI) classes (wX g c v5083 F5084 (g (44 + nr))) H1 := hB
    have hw : (r5082.toInt = 1 ∧ (4 : Int32).toInt < 8) ∨ (r5082.toInt = 0 ∧ 8 ≤ (4 : Int32).toInt) := hw
    have k5086 : (4 : Int32).toInt = 4 := by decide
    generalize H1 = H at hP hS ⊢
    have hw_r5082 := hw
    refine lv_if_eq (tgt := 71) hx hb dX3_readOperand_16 (by decide) (fun c5087 => ?_) (fun c5087 => ?_)
    · skip
      have t5088 := cv_eq (a := r5082.toInt) rfl (b := 0) (by decide) c5087
      have hP9 : va_P (dC, dI) classes (wX g c v5083 F5084 (g (44 + nr))) H := hP
      exact W.vret hx hb hr (fun t ht hW => ⟨⟨(v5083, F5084, (g (44 + nr))), rfl, ⟨hI, hal, rfl, (frC (by decide) hf5085 (fun _ _ => rfl)), trivial⟩, (by show va_P _ _ _ t.heap; rw [ht]; exact hP9)⟩, hS.F ht⟩) hS.2.2 dX3_readOperand_71
    · skip
      have t5089 := cv_ne (a := r5082.toInt) rfl (b := 0) (by decide) c5087
      refine lv_aload_n hx hb dX3_readOperand_19 rfl (lv_at hl 1 rfl) ?_
      refine lv_iload_n hx hb dX3_readOperand_20 rfl (lv_at hl 2 rfl) ?_
      refine lv_iconst (v := 1) hx hb dX3_readOperand_21 (by decide) ?_
      refine lv_iadd hx hb dX3_readOperand_22 ?_
      refine my_top (v := 5) (by decide) ?_
      refine va_callv (va_runV (As := [.int 5]) (rest := []) ⟨hx, hb, hml, hown, hwd⟩ (c_X3_readOperand_5 l dC dI g c adK adV v5083 F5084 nr H.size  hg hnr hI ) (cwV 1 hwd (gV wk_895 wk_896 wk_897 wk_898 wk_38) rfl rfl rfl (by decide +kernel) ⟨Nat.le_of_ble_eq_true rfl, Nat.le_of_ble_eq_true rfl⟩) ⟨PX.blind, va_recv hK hP (ci := 3) (q0 := 7) rfl rfl, fun U hU hW => ⟨rfl, PX.at hK hE hP hS hU hW⟩⟩ rfl rfl hl.1 rfl (lv_room (Nat.le_of_ble_eq_true rfl)) dX3_readOperand_23 ⟨Nat.le_of_ble_eq_true rfl, Nat.le_of_ble_eq_true rfl⟩) hS (fun q _ h => (freeX hS) q h) (freeX hS) (fun u t H1 locs ht hvm hw hB hz1 hk1 hS => ?_)
      unfold BX at hB
      rw [ht] at hB
      obtain ⟨v5091, F5092, rc9⟩ := u
      obtain ⟨hI, hal9, hrc, hf5093, hw⟩ := hw
      dsimp only at hI hal9 hrc hB hf5093 hw
      rw [hrc] at hB
      have hal := hal9.trans hal
      have hP : va_P (dC, dI) classes (wX g c v5091 F5092 (g (44 + nr))) H1 := hB
      generalize H1 = H at hP hS ⊢
      refine lv_aload_n hx hb dX3_readOperand_26 rfl (lv_at hl 1 rfl) ?_
      refine lv_iconst (v := 2) hx hb dX3_readOperand_27 (by decide) ?_
      refine lv_iconst (v := 0) hx hb dX3_readOperand_28 (by decide) ?_
      refine va_calli (va_runV (As := [.int 2, .int 0]) (rest := []) ⟨hx, hb, hml, hown, hwd⟩ (c_X3_put l dC dI g c adK adV v5091 F5092 nr H.size 2 0 hg hnr hI (by have : (2 : Int32).toInt = 2 := (by decide); omega) (by have : (0 : Int32).toInt = 0 := (by decide); omega)) (cwV 2 hwd (gV wk_882 wk_879 wk_880 wk_881 wk_38) rfl rfl rfl (by decide +kernel) ⟨Nat.le_of_ble_eq_true rfl, Nat.le_of_ble_eq_true rfl⟩) ⟨PX.blind, va_recv hK hP (ci := 3) (q0 := 7) rfl rfl, fun U hU hW => ⟨rfl, PX.at hK hE hP hS hU hW⟩⟩ rfl rfl hl.1 rfl (lv_room (Nat.le_of_ble_eq_true rfl)) dX3_readOperand_29 ⟨Nat.le_of_ble_eq_true rfl, Nat.le_of_ble_eq_true rfl⟩) hS (fun q _ h => (freeX hS) q h) (freeX hS) (fun r5094 u t H1 locs ht hvm hw hB hz1 hk1 hS => ?_)
      unfold BX at hB
      rw [ht] at hB
      obtain ⟨v5095, F5096, rc9⟩ := u
      obtain ⟨hI, hal9, hrc, hf5097, hw⟩ := hw
      dsimp only at hI hal9 hrc hB hf5097 hw
      rw [hrc] at hB
      have hal := hal9.trans hal
      have hP : va_P (dC, dI) classes (wX g c v5095 F5096 (g (44 + nr))) H1 := hB
      have hw : -1 ≤ r5094.toInt ∧ r5094.toInt ≤ 119 := hw
      have k5098 : (2 : Int32).toInt = 2 := by decide
      have k5099 : (0 : Int32).toInt = 0 := by decide
      generalize H1 = H at hP hS ⊢
      have hw_r5094 := hw
      refine lv_pop hx hb dX3_readOperand_32 rfl ?_
      refine lv_goto (tgt := 71) hx hb dX3_readOperand_33 (by decide) ?_
      have hP9 : va_P (dC, dI) classes (wX g c v5095 F5096 (g (44 + nr))) H := hP
      exact W.vret hx hb hr (fun t ht hW => ⟨⟨(v5095, F5096, (g (44 + nr))), rfl, ⟨hI, hal, rfl, (frC (by decide) hf5097 (frC (by decide) hf5093 (frC (by decide) hf5085 (fun _ _ => rfl)))), trivial⟩, (by show va_P _ _ _ t.heap; rw [ht]; exact hP9)⟩, hS.F ht⟩) hS.2.2 dX3_readOperand_71
set_option maxHeartbeats 8000000 in
set_option maxRecDepth 100000 in
theorem c_X3_readProduct_4 (l : Launch) (dC : Nat → ClassId) (dI : Nat → Nat → Nat) (g : Nat → Nat) (c : Nat → ClassId) (adK adV : Nat → Nat) (v : Nat → Int32) (F : Nat → Nat → Int32) (nr sz : Nat) (hg : injX g) (hnr : nr < 10) (hI : IX v F) : Met l yX3_readProduct (Cond.code yX3_readProduct cX3_readProduct 4 none :: wA) ({ frames := 27, cells := 0, slots := 0, locals := 1080 }) (va_Pc [.ref (g 7), .int 4] (PX dC dI g c adK adV v F (g (44 + nr)) sz)) (va_Qv (fun (u : StX) => IX u.1 u.2.1 ∧ alX u.1 u.2.1 = alX v F ∧ u.2.2 = (g (44 + nr)) ∧ (∀ k, k ∉ ([142, 143, 144] : List Nat) → u.1 k = v k) ∧ True) (BX dC dI g c) (AX g sz)) 0 0 (AX g sz) := by
  refine Met.ofW (cc := cX3_readProduct) (maxL := 4) (ret := none) (by decide) rfl ?_
  intro p e s m args below meth c0 s₁ B hml hv
  obtain ⟨rfl, hsz, hP, hK, hE⟩ := hv
  have hx := B.exec
  have hb := B.bytes
  have hr := B.returns
  have hts := atoms_spec (ws := Cond.code yX3_readProduct cX3_readProduct 4 none :: wA) B.pre
  have hwd : ∀ w ∈ wA, w.before _ s = true := fun w h => hts w (List.mem_cons_of_mem _ h)
  have hown : s.vm.findClass RX3 = some m.cls := findClass_of_methodNamed B.named
  have hlocks := B.notSynchronized
  subst hsz
  have hl := lv_entry ([.ref (g 7), .int 4]) (n := 4) (Nat.le_of_ble_eq_true rfl)
  rw [lg_entry_eq]
  generalize (lg_sl ([.ref (g 7), .int 4]) ++ List.replicate (4 - (lg_sl ([.ref (g 7), .int 4])).length) Slot.unset).toArray = ls at hl ⊢
  have hl : lv_has ls 4 [(0, .ref (g 7)), (1, .int 4)] := hl
  obtain ⟨H, eH⟩ : ∃ z, z = s.heap := ⟨_, rfl⟩
  have hP : va_P (dC, dI) classes (wX g c v F (g (44 + nr))) H := by rw [eH]; exact hP
  have hS : va_S (AX g s.heap.size) s.heap H [] := by rw [eH]; exact va_S.rf
  refine my_heap eH ?_
  have hal : alX v F = alX v F := rfl
  refine lv_aload_n hx hb dX3_readProduct_0 rfl (lv_at hl 0 rfl) ?_
  refine lv_iload_n hx hb dX3_readProduct_1 rfl (lv_at hl 1 rfl) ?_
  refine va_callv (va_runV (As := [.int 4]) (rest := []) ⟨hx, hb, hml, hown, hwd⟩ (c_X3_readOperand_4 l dC dI g c adK adV v F nr H.size  hg hnr hI ) (cwV 1 hwd (gV wk_895 wk_896 wk_897 wk_898 wk_38) rfl rfl rfl (by decide +kernel) ⟨Nat.le_of_ble_eq_true rfl, Nat.le_of_ble_eq_true rfl⟩) ⟨PX.blind, va_recv hK hP (ci := 3) (q0 := 7) rfl rfl, fun U hU hW => ⟨rfl, PX.at hK hE hP hS hU hW⟩⟩ rfl rfl hl.1 rfl (lv_room (Nat.le_of_ble_eq_true rfl)) dX3_readProduct_2 ⟨Nat.le_of_ble_eq_true rfl, Nat.le_of_ble_eq_true rfl⟩) hS (fun q _ h => (freeX hS) q h) (freeX hS) (fun u t H1 locs ht hvm hw hB hz1 hk1 hS => ?_)
  unfold BX at hB
  rw [ht] at hB
  obtain ⟨v5101, F5102, rc9⟩ := u
  obtain ⟨hI, hal9, hrc, hf5103, hw⟩ := hw
  dsimp only at hI hal9 hrc hB hf5103 hw
  rw [hrc] at hB
  have hal := hal9.trans hal
  have hP : va_P (dC, dI) classes (wX g c v5101 F5102 (g (44 + nr))) H1 := hB
  generalize H1 = H at hP hS ⊢
  refine lv_iconst (v := 0) hx hb dX3_readProduct_5 (by decide) ?_
  refine lv_istore_n (lv' := [(2, .int 0), (0, .ref (g 7)), (1, .int 4)]) hx hb dX3_readProduct_6 rfl hl (by decide) rfl (fun ls hl => ?_)
  have lp5104 : ∀ (n : Nat) (x2_lp5104 : Int32) (v_lp5104 : Nat → Int32) (F_lp5104 : Nat → Nat → Int32) (H : Heap) (locs : List Loc) (ls : Array Slot), (0 ≤ x2_lp5104.toInt) → (2147483648 - x2_lp5104.toInt ≤ (n : Int)) → (∀ k, k ∉ ([142, 143, 144] : List Nat) → v_lp5104 k = v5101 k) → IX v_lp5104 F_lp5104 → alX v_lp5104 F_lp5104 = alX v F → va_P (dC, dI) classes (wX g c v_lp5104 F_lp5104 (g (44 + nr))) H → va_S (AX g s.heap.size) s.heap H locs → lv_has ls 4 [(2, .int x2_lp5104), (0, .ref (g 7)), (1, .int 4)] → W p l e (headSpec (Cond.code yX3_readProduct cX3_readProduct 4 none :: wA) ({ frames := 27, cells := 0, slots := 0, locals := 1080 })).room s m ([.ref (g 7), .int 4] : List Value).toArray below meth c0 H locs 0 0 (MQ below (va_Qv (fun (u : StX) => IX u.1 u.2.1 ∧ alX u.1 u.2.1 = alX v F ∧ u.2.2 = (g (44 + nr)) ∧ (∀ k, k ∉ ([142, 143, 144] : List Nat) → u.1 k = v k) ∧ True) (BX dC dI g c) (AX g s.heap.size)) ([.ref (g 7), .int 4] : List Value).toArray s 0 0 (AX g s.heap.size)) (F0 m 7 ls []) := by
    intro n
    induction n with
    | zero =>
      intro x2_lp5104 v_lp5104 F_lp5104 H locs ls t5105 hm hf_lp5104 hI hal hP hS hl
      exfalso
      have := i32_rng x2_lp5104
      have hI1 := hI.1
      omega
    | succ n ih_lp5104 =>
      intro x2_lp5104 v_lp5104 F_lp5104 H locs ls t5105 hm hf_lp5104 hI hal hP hS hl
      have rx2_lp5104 := i32_rng x2_lp5104
      refine lv_iload_n hx hb dX3_readProduct_7 rfl (lv_at hl 0 rfl) ?_
      refine lv_bipush (v := 120) hx hb dX3_readProduct_8 (by decide) ?_
      refine lv_icmp_ge (tgt := 76) hx hb dX3_readProduct_10 (by decide) (fun c5106 => ?_) (fun c5106 => ?_)
      · skip
        have t5107 := cv_le (a := 120) (by decide) (b := x2_lp5104.toInt) rfl c5106
        have hP9 : va_P (dC, dI) classes (wX g c v_lp5104 F_lp5104 (g (44 + nr))) H := hP
        exact W.vret hx hb hr (fun t ht hW => ⟨⟨(v_lp5104, F_lp5104, (g (44 + nr))), rfl, ⟨hI, hal, rfl, (frC (by decide) hf_lp5104 (frC (by decide) hf5103 (fun _ _ => rfl))), trivial⟩, (by show va_P _ _ _ t.heap; rw [ht]; exact hP9)⟩, hS.F ht⟩) hS.2.2 dX3_readProduct_76
      · skip
        have t5108 := cv_nle (a := 120) (by decide) (b := x2_lp5104.toInt) rfl c5106
        refine lv_aload_n hx hb dX3_readProduct_13 rfl (lv_at hl 1 rfl) ?_
        refine va_calli (va_runV (As := []) (rest := []) ⟨hx, hb, hml, hown, hwd⟩ (c_X3_next l dC dI g c adK adV v_lp5104 F_lp5104 nr H.size  hg hnr hI ) (cwV 0 hwd (gV wk_866 wk_863 wk_864 wk_865 wk_38) rfl rfl rfl (by decide +kernel) ⟨Nat.le_of_ble_eq_true rfl, Nat.le_of_ble_eq_true rfl⟩) ⟨PX.blind, va_recv hK hP (ci := 3) (q0 := 7) rfl rfl, fun U hU hW => ⟨rfl, PX.at hK hE hP hS hU hW⟩⟩ rfl rfl hl.1 rfl (lv_room (Nat.le_of_ble_eq_true rfl)) dX3_readProduct_14 ⟨Nat.le_of_ble_eq_true rfl, Nat.le_of_ble_eq_true rfl⟩) hS (fun q _ h => (freeX hS) q h) (freeX hS) (fun r5109 u t H1 locs ht hvm hw hB hz1 hk1 hS => ?_)
        unfold BX at hB
        rw [ht] at hB
        have hP : va_P (dC, dI) classes (wX g c v_lp5104 F_lp5104 (g (44 + nr))) H1 := hB
        generalize H1 = H at hP hS ⊢
        have rr_r5109 := i32_rng r5109
        refine lv_bipush (v := 42) hx hb dX3_readProduct_17 (by decide) ?_
        refine lv_icmp_eq (tgt := 31) hx hb dX3_readProduct_19 (by decide) (fun c5110 => ?_) (fun c5110 => ?_)
        · skip
          have t5111 := cv_eq (a := r5109.toInt) rfl (b := 42) (by decide) c5110
          refine lv_aload_n hx hb dX3_readProduct_31 rfl (lv_at hl 1 rfl) ?_
          refine va_calli (va_runV (As := []) (rest := []) ⟨hx, hb, hml, hown, hwd⟩ (c_X3_next l dC dI g c adK adV v_lp5104 F_lp5104 nr H.size  hg hnr hI ) (cwV 0 hwd (gV wk_866 wk_863 wk_864 wk_865 wk_38) rfl rfl rfl (by decide +kernel) ⟨Nat.le_of_ble_eq_true rfl, Nat.le_of_ble_eq_true rfl⟩) ⟨PX.blind, va_recv hK hP (ci := 3) (q0 := 7) rfl rfl, fun U hU hW => ⟨rfl, PX.at hK hE hP hS hU hW⟩⟩ rfl rfl hl.1 rfl (lv_room (Nat.le_of_ble_eq_true rfl)) dX3_readProduct_32 ⟨Nat.le_of_ble_eq_true rfl, Nat.le_of_ble_eq_true rfl⟩) hS (fun q _ h => (freeX hS) q h) (freeX hS) (fun r5112 u t H1 locs ht hvm hw hB hz1 hk1 hS => ?_)
          unfold BX at hB
          rw [ht] at hB
          have hP : va_P (dC, dI) classes (wX g c v_lp5104 F_lp5104 (g (44 + nr))) H1 := hB
          generalize H1 = H at hP hS ⊢
          have rr_r5112 := i32_rng r5112
          refine lv_bipush (v := 42) hx hb dX3_readProduct_35 (by decide) ?_
          refine lv_icmp_ne (tgt := 45) hx hb dX3_readProduct_37 (by decide) (fun c5113 => ?_) (fun c5113 => ?_)
          · skip
            have t5114 := cv_ne (a := r5112.toInt) rfl (b := 42) (by decide) c5113
            refine lv_bipush (v := 8) hx hb dX3_readProduct_45 (by decide) ?_
            refine lv_istore_n (lv' := [(3, .int 8), (2, .int x2_lp5104), (0, .ref (g 7)), (1, .int 4)]) hx hb dX3_readProduct_47 rfl hl (by decide) rfl (fun ls hl => ?_)
            refine lv_aload_n hx hb dX3_readProduct_48 rfl (lv_at hl 2 rfl) ?_
            refine lv_dup hx hb dX3_readProduct_49 rfl ?_
            refine va_get (D := (dC, dI)) (ci := 3) (v := .int (v_lp5104 143)) (C := RX3) (T := TX3) (N := 5) hx hb hwd inA_X3 hown hK hP 7 rfl rfl 3 (by decide) (hwd _ wk_853) (fun _ h9 => h9) rfl dX3_readProduct_50 ?_
            refine lv_iconst (v := 1) hx hb dX3_readProduct_53 (by decide) ?_
            refine lv_iadd hx hb dX3_readProduct_54 ?_
            refine lv_topi (fun z5115 e5116 => ?_)
            try (have t5117 := tadd e5116 (a := (v_lp5104 143).toInt) rfl (b := 1) (by decide) (by omega))
            refine va_put (D := (dC, dI)) (ci := 3) (v := .int z5115) (ty := .int) (C := RX3) (T := TX3) (N := 5) (fs := fsX_7 g v_lp5104 (g (44 + nr))) hx hb hwd inA_X3 tyX3 tyX3_ok nmX3 hown hK hP (DX hg) hS 7 rfl rfl 3 (by decide) (hwd _ wk_853) (fun _ h9 => h9) rfl (by decide +kernel) rfl rfl (Nat.le_of_ble_eq_true rfl) dX3_readProduct_55 (fun H locs hP _ hS => ?_)
            have hP := va_P_eq (pX_143 g c _ _ _ _) hP
            have hI := IX.put0 hI 143 z5115 rfl
            have hal := (alX_v _ _ 143 z5115 (by decide) (by decide) (by decide) (by decide)).trans hal
            refine lv_aload_n hx hb dX3_readProduct_58 rfl (lv_at hl 2 rfl) ?_
            refine lv_iload_n hx hb dX3_readProduct_59 rfl (lv_at hl 3 rfl) ?_
            refine va_callv (va_runV (As := [.int 4]) (rest := []) ⟨hx, hb, hml, hown, hwd⟩ (c_X3_readOperand_4 l dC dI g c adK adV (va_up v_lp5104 143 z5115) F_lp5104 nr H.size  hg hnr hI ) (cwV 1 hwd (gV wk_895 wk_896 wk_897 wk_898 wk_38) rfl rfl rfl (by decide +kernel) ⟨Nat.le_of_ble_eq_true rfl, Nat.le_of_ble_eq_true rfl⟩) ⟨PX.blind, va_recv hK hP (ci := 3) (q0 := 7) rfl rfl, fun U hU hW => ⟨rfl, PX.at hK hE hP hS hU hW⟩⟩ rfl rfl hl.1 rfl (lv_room (Nat.le_of_ble_eq_true rfl)) dX3_readProduct_60 ⟨Nat.le_of_ble_eq_true rfl, Nat.le_of_ble_eq_true rfl⟩) hS (fun q _ h => (freeX hS) q h) (freeX hS) (fun u t H1 locs ht hvm hw hB hz1 hk1 hS => ?_)
            unfold BX at hB
            rw [ht] at hB
            obtain ⟨v5119, F5120, rc9⟩ := u
            obtain ⟨hI, hal9, hrc, hf5121, hw⟩ := hw
            dsimp only at hI hal9 hrc hB hf5121 hw
            rw [hrc] at hB
            have hal := hal9.trans hal
            have hP : va_P (dC, dI) classes (wX g c v5119 F5120 (g (44 + nr))) H1 := hB
            generalize H1 = H at hP hS ⊢
            refine lv_aload_n hx hb dX3_readProduct_63 rfl (lv_at hl 2 rfl) ?_
            refine lv_iload_n hx hb dX3_readProduct_64 rfl (lv_at hl 0 rfl) ?_
            refine lv_iconst (v := 0) hx hb dX3_readProduct_65 (by decide) ?_
            refine va_calli (va_runV (As := [.int 8, .int 0]) (rest := []) ⟨hx, hb, hml, hown, hwd⟩ (c_X3_put l dC dI g c adK adV v5119 F5120 nr H.size 8 0 hg hnr hI (by have : (8 : Int32).toInt = 8 := (by decide); omega) (by have : (0 : Int32).toInt = 0 := (by decide); omega)) (cwV 2 hwd (gV wk_882 wk_879 wk_880 wk_881 wk_38) rfl rfl rfl (by decide +kernel) ⟨Nat.le_of_ble_eq_true rfl, Nat.le_of_ble_eq_true rfl⟩) ⟨PX.blind, va_recv hK hP (ci := 3) (q0 := 7) rfl rfl, fun U hU hW => ⟨rfl, PX.at hK hE hP hS hU hW⟩⟩ rfl rfl hl.1 rfl (lv_room (Nat.le_of_ble_eq_true rfl)) dX3_readProduct_66 ⟨Nat.le_of_ble_eq_true rfl, Nat.le_of_ble_eq_true rfl⟩) hS (fun q _ h => (freeX hS) q h) (freeX hS) (fun r5122 u t H1 locs ht hvm hw hB hz1 hk1 hS => ?_)
            unfold BX at hB
            rw [ht] at hB
            obtain ⟨v5123, F5124, rc9⟩ := u
            obtain ⟨hI, hal9, hrc, hf5125, hw⟩ := hw
            dsimp only at hI hal9 hrc hB hf5125 hw
            rw [hrc] at hB
            have hal := hal9.trans hal
            have hP : va_P (dC, dI) classes (wX g c v5123 F5124 (g (44 + nr))) H1 := hB
            have hw : -1 ≤ r5122.toInt ∧ r5122.toInt ≤ 119 := hw
            have k5126 : (8 : Int32).toInt = 8 := by decide
            have k5127 : (0 : Int32).toInt = 0 := by decide
            generalize H1 = H at hP hS ⊢
            have hw_r5122 := hw
            refine lv_pop hx hb dX3_readProduct_69 rfl ?_
            obtain ⟨z5128, e5129⟩ : ∃ y : Int32, y = x2_lp5104 + 1 := ⟨_, rfl⟩
            try (have t5130 := tadd e5129 rfl (b := 1) (by decide) (by omega))
            refine lv_iinc (v := z5128) (lv' := [(2, .int z5128), (3, .int 8), (0, .ref (g 7)), (1, .int 4)]) hx hb dX3_readProduct_70 hl (k := 1) rfl (by rw [e5129]; rfl) (by decide) rfl (fun ls hl => ?_)
            refine lv_goto (tgt := 7) hx hb dX3_readProduct_73 (by decide) ?_
            exact ih_lp5104 z5128 v5123 F5124 _ _ _ (by omega) (by omega) (frC (by decide) hf5125 (frC (by decide) hf5121 (frU (by decide) hf_lp5104))) hI hal hP hS (lv_sub hl [0, 2, 3] rfl)
          · skip
            have t5131 := cv_eq (a := r5112.toInt) rfl (b := 42) (by decide) c5113
            refine lv_bipush (v := 7) hx hb dX3_readProduct_40 (by decide) ?_
            refine lv_goto (tgt := 47) hx hb dX3_readProduct_42 (by decide) ?_
            refine lv_istore_n (lv' := [(3, .int 7), (2, .int x2_lp5104), (0, .ref (g 7)), (1, .int 4)]) hx hb dX3_readProduct_47 rfl hl (by decide) rfl (fun ls hl => ?_)
            refine lv_aload_n hx hb dX3_readProduct_48 rfl (lv_at hl 2 rfl) ?_
            refine lv_dup hx hb dX3_readProduct_49 rfl ?_
            refine va_get (D := (dC, dI)) (ci := 3) (v := .int (v_lp5104 143)) (C := RX3) (T := TX3) (N := 5) hx hb hwd inA_X3 hown hK hP 7 rfl rfl 3 (by decide) (hwd _ wk_853) (fun _ h9 => h9) rfl dX3_readProduct_50 ?_
            refine lv_iconst (v := 1) hx hb dX3_readProduct_53 (by decide) ?_
            refine lv_iadd hx hb dX3_readProduct_54 ?_
            refine lv_topi (fun z5132 e5133 => ?_)
            try (have t5134 := tadd e5133 (a := (v_lp5104 143).toInt) rfl (b := 1) (by decide) (by omega))
            refine va_put (D := (dC, dI)) (ci := 3) (v := .int z5132) (ty := .int) (C := RX3) (T := TX3) (N := 5) (fs := fsX_7 g v_lp5104 (g (44 + nr))) hx hb hwd inA_X3 tyX3 tyX3_ok nmX3 hown hK hP (DX hg) hS 7 rfl rfl 3 (by decide) (hwd _ wk_853) (fun _ h9 => h9) rfl (by decide +kernel) rfl rfl (Nat.le_of_ble_eq_true rfl) dX3_readProduct_55 (fun H locs hP _ hS => ?_)
            have hP := va_P_eq (pX_143 g c _ _ _ _) hP
            have hI := IX.put0 hI 143 z5132 rfl
            have hal := (alX_v _ _ 143 z5132 (by decide) (by decide) (by decide) (by decide)).trans hal
            refine lv_aload_n hx hb dX3_readProduct_58 rfl (lv_at hl 2 rfl) ?_
            refine lv_iload_n hx hb dX3_readProduct_59 rfl (lv_at hl 3 rfl) ?_
            refine va_callv (va_runV (As := [.int 4]) (rest := []) ⟨hx, hb, hml, hown, hwd⟩ (c_X3_readOperand_4 l dC dI g c adK adV (va_up v_lp5104 143 z5132) F_lp5104 nr H.size  hg hnr hI ) (cwV 1 hwd (gV wk_895 wk_896 wk_897 wk_898 wk_38) rfl rfl rfl (by decide +kernel) ⟨Nat.le_of_ble_eq_true rfl, Nat.le_of_ble_eq_true rfl⟩) ⟨PX.blind, va_recv hK hP (ci := 3) (q0 := 7) rfl rfl, fun U hU hW => ⟨rfl, PX.at hK hE hP hS hU hW⟩⟩ rfl rfl hl.1 rfl (lv_room (Nat.le_of_ble_eq_true rfl)) dX3_readProduct_60 ⟨Nat.le_of_ble_eq_true rfl, Nat.le_of_ble_eq_true rfl⟩) hS (fun q _ h => (freeX hS) q h) (freeX hS) (fun u t H1 locs ht hvm hw hB hz1 hk1 hS => ?_)
            unfold BX at hB
            rw [ht] at hB
            obtain ⟨v5136, F5137, rc9⟩ := u
            obtain ⟨hI, hal9, hrc, hf5138, hw⟩ := hw
            dsimp only at hI hal9 hrc hB hf5138 hw
            rw [hrc] at hB
            have hal := hal9.trans hal
            have hP : va_P (dC, dI) classes (wX g c v5136 F5137 (g (44 + nr))) H1 := hB
            generalize H1 = H at hP hS ⊢
            refine lv_aload_n hx hb dX3_readProduct_63 rfl (lv_at hl 2 rfl) ?_
            refine lv_iload_n hx hb dX3_readProduct_64 rfl (lv_at hl 0 rfl) ?_
            refine lv_iconst (v := 0) hx hb dX3_readProduct_65 (by decide) ?_
            refine va_calli (va_runV (As := [.int 7, .int 0]) (rest := []) ⟨hx, hb, hml, hown, hwd⟩ (c_X3_put l dC dI g c adK adV v5136 F5137 nr H.size 7 0 hg hnr hI (by have : (7 : Int32).toInt = 7 := (by decide); omega) (by have : (0 : Int32).toInt = 0 := (by decide); omega)) (cwV 2 hwd (gV wk_882 wk_879 wk_880 wk_881 wk_38) rfl rfl rfl (by decide +kernel) ⟨Nat.le_of_ble_eq_true rfl, Nat.le_of_ble_eq_true rfl⟩) ⟨PX.blind, va_recv hK hP (ci := 3) (q0 := 7) rfl rfl, fun U hU hW => ⟨rfl, PX.at hK hE hP hS hU hW⟩⟩ rfl rfl hl.1 rfl (lv_room (Nat.le_of_ble_eq_true rfl)) dX3_readProduct_66 ⟨Nat.le_of_ble_eq_true rfl, Nat.le_of_ble_eq_true rfl⟩) hS (fun q _ h => (freeX hS) q h) (freeX hS) (fun r5139 u t H1 locs ht hvm hw hB hz1 hk1 hS => ?_)
            unfold BX at hB
            rw [ht] at hB
            obtain ⟨v5140, F5141, rc9⟩ := u
            obtain ⟨hI, hal9, hrc, hf5142, hw⟩ := hw
            dsimp only at hI hal9 hrc hB hf5142 hw
            rw [hrc] at hB
            have hal := hal9.trans hal
            have hP : va_P (dC, dI) classes (wX g c v5140 F5141 (g (44 + nr))) H1 := hB
            have hw : -1 ≤ r5139.toInt ∧ r5139.toInt ≤ 119 := hw
            have k5143 : (7 : Int32).toInt = 7 := by decide
            have k5144 : (0 : Int32).toInt = 0 := by decide
            generalize H1 = H at hP hS ⊢
            have hw_r5139 := hw
            refine lv_pop hx hb dX3_readProduct_69 rfl ?_
            obtain ⟨z5145, e5146⟩ : ∃ y : Int32, y = x2_lp5104 + 1 := ⟨_, rfl⟩
            try (have t5147 := tadd e5146 rfl (b := 1) (by decide) (by omega))
            refine lv_iinc (v := z5145) (lv' := [(2, .int z5145), (3, .int 7), (0, .ref (g 7)), (1, .int 4)]) hx hb dX3_readProduct_70 hl (k := 1) rfl (by rw [e5146]; rfl) (by decide) rfl (fun ls hl => ?_)
            refine lv_goto (tgt := 7) hx hb dX3_readProduct_73 (by decide) ?_
            exact ih_lp5104 z5145 v5140 F5141 _ _ _ (by omega) (by omega) (frC (by decide) hf5142 (frC (by decide) hf5138 (frU (by decide) hf_lp5104))) hI hal hP hS (lv_sub hl [0, 2, 3] rfl)
        · skip
          have t5148 := cv_ne (a := r5109.toInt) rfl (b := 42) (by decide) c5110
          refine lv_aload_n hx hb dX3_readProduct_22 rfl (lv_at hl 1 rfl) ?_
          refine va_calli (va_runV (As := []) (rest := []) ⟨hx, hb, hml, hown, hwd⟩ (c_X3_next l dC dI g c adK adV v_lp5104 F_lp5104 nr H.size  hg hnr hI ) (cwV 0 hwd (gV wk_866 wk_863 wk_864 wk_865 wk_38) rfl rfl rfl (by decide +kernel) ⟨Nat.le_of_ble_eq_true rfl, Nat.le_of_ble_eq_true rfl⟩) ⟨PX.blind, va_recv hK hP (ci := 3) (q0 := 7) rfl rfl, fun U hU hW => ⟨rfl, PX.at hK hE hP hS hU hW⟩⟩ rfl rfl hl.1 rfl (lv_room (Nat.le_of_ble_eq_true rfl)) dX3_readProduct_23 ⟨Nat.le_of_ble_eq_true rfl, Nat.le_of_ble_eq_true rfl⟩) hS (fun q _ h => (freeX hS) q h) (freeX hS) (fun r5149 u t H1 locs ht hvm hw hB hz1 hk1 hS => ?_)
          unfold BX at hB
          rw [ht] at hB
          have hP : va_P (dC, dI) classes (wX g c v_lp5104 F_lp5104 (g (44 + nr))) H1 := hB
          generalize H1 = H at hP hS ⊢
          have rr_r5149 := i32_rng r5149
          refine lv_bipush (v := 47) hx hb dX3_readProduct_26 (by decide) ?_
          refine lv_icmp_ne (tgt := 76) hx hb dX3_readProduct_28 (by decide) (fun c5150 => ?_) (fun c5150 => ?_)
          · skip
            have t5151 := cv_ne (a := r5149.toInt) rfl (b := 47) (by decide) c5150
            have hP9 : va_P (dC, dI) classes (wX g c v_lp5104 F_lp5104 (g (44 + nr))) H := hP
            exact W.vret hx hb hr (fun t ht hW => ⟨⟨(v_lp5104, F_lp5104, (g (44 + nr))), rfl, ⟨hI, hal, rfl, (frC (by decide) hf_lp5104 (frC (by decide) hf5103 (fun _ _ => rfl))), trivial⟩, (by show va_P _ _ _ t.heap; rw [ht]; exact hP9)⟩, hS.F ht⟩) hS.2.2 dX3_readProduct_76
          · skip
            have t5152 := cv_eq (a := r5149.toInt) rfl (b := 47) (by decide) c5150
            refine lv_aload_n hx hb dX3_readProduct_31 rfl (lv_at hl 1 rfl) ?_
            refine va_calli (va_runV (As := []) (rest := []) ⟨hx, hb, hml, hown, hwd⟩ (c_X3_next l dC dI g c adK adV v_lp5104 F_lp5104 nr H.size  hg hnr hI ) (cwV 0 hwd (gV wk_866 wk_863 wk_864 wk_865 wk_38) rfl rfl rfl (by decide +kernel) ⟨Nat.le_of_ble_eq_true rfl, Nat.le_of_ble_eq_true rfl⟩) ⟨PX.blind, va_recv hK hP (ci := 3) (q0 := 7) rfl rfl, fun U hU hW => ⟨rfl, PX.at hK hE hP hS hU hW⟩⟩ rfl rfl hl.1 rfl (lv_room (Nat.le_of_ble_eq_true rfl)) dX3_readProduct_32 ⟨Nat.le_of_ble_eq_true rfl, Nat.le_of_ble_eq_true rfl⟩) hS (fun q _ h => (freeX hS) q h) (freeX hS) (fun r5153 u t H1 locs ht hvm hw hB hz1 hk1 hS => ?_)
            unfold BX at hB
            rw [ht] at hB
            have hP : va_P (dC, dI) classes (wX g c v_lp5104 F_lp5104 (g (44 + nr))) H1 := hB
            generalize H1 = H at hP hS ⊢
            have rr_r5153 := i32_rng r5153
            refine lv_bipush (v := 42) hx hb dX3_readProduct_35 (by decide) ?_
            refine lv_icmp_ne (tgt := 45) hx hb dX3_readProduct_37 (by decide) (fun c5154 => ?_) (fun c5154 => ?_)
            · skip
              have t5155 := cv_ne (a := r5153.toInt) rfl (b := 42) (by decide) c5154
              refine lv_bipush (v := 8) hx hb dX3_readProduct_45 (by decide) ?_
              refine lv_istore_n (lv' := [(3, .int 8), (2, .int x2_lp5104), (0, .ref (g 7)), (1, .int 4)]) hx hb dX3_readProduct_47 rfl hl (by decide) rfl (fun ls hl => ?_)
              refine lv_aload_n hx hb dX3_readProduct_48 rfl (lv_at hl 2 rfl) ?_
              refine lv_dup hx hb dX3_readProduct_49 rfl ?_
              refine va_get (D := (dC, dI)) (ci := 3) (v := .int (v_lp5104 143)) (C := RX3) (T := TX3) (N := 5) hx hb hwd inA_X3 hown hK hP 7 rfl rfl 3 (by decide) (hwd _ wk_853) (fun _ h9 => h9) rfl dX3_readProduct_50 ?_
              refine lv_iconst (v := 1) hx hb dX3_readProduct_53 (by decide) ?_
              refine lv_iadd hx hb dX3_readProduct_54 ?_
              refine lv_topi (fun z5156 e5157 => ?_)
              try (have t5158 := tadd e5157 (a := (v_lp5104 143).toInt) rfl (b := 1) (by decide) (by omega))
              refine va_put (D := (dC, dI)) (ci := 3) (v := .int z5156) (ty := .int) (C := RX3) (T := TX3) (N := 5) (fs := fsX_7 g v_lp5104 (g (44 + nr))) hx hb hwd inA_X3 tyX3 tyX3_ok nmX3 hown hK hP (DX hg) hS 7 rfl rfl 3 (by decide) (hwd _ wk_853) (fun _ h9 => h9) rfl (by decide +kernel) rfl rfl (Nat.le_of_ble_eq_true rfl) dX3_readProduct_55 (fun H locs hP _ hS => ?_)
              have hP := va_P_eq (pX_143 g c _ _ _ _) hP
              have hI := IX.put0 hI 143 z5156 rfl
              have hal := (alX_v _ _ 143 z5156 (by decide) (by decide) (by decide) (by decide)).trans hal
              refine lv_aload_n hx hb dX3_readProduct_58 rfl (lv_at hl 2 rfl) ?_
              refine lv_iload_n hx hb dX3_readProduct_59 rfl (lv_at hl 3 rfl) ?_
              refine va_callv (va_runV (As := [.int 4]) (rest := []) ⟨hx, hb, hml, hown, hwd⟩ (c_X3_readOperand_4 l dC dI g c adK adV (va_up v_lp5104 143 z5156) F_lp5104 nr H.size  hg hnr hI ) (cwV 1 hwd (gV wk_895 wk_896 wk_897 wk_898 wk_38) rfl rfl rfl (by decide +kernel) ⟨Nat.le_of_ble_eq_true rfl, Nat.le_of_ble_eq_true rfl⟩) ⟨PX.blind, va_recv hK hP (ci := 3) (q0 := 7) rfl rfl, fun U hU hW => ⟨rfl, PX.at hK hE hP hS hU hW⟩⟩ rfl rfl hl.1 rfl (lv_room (Nat.le_of_ble_eq_true rfl)) dX3_readProduct_60 ⟨Nat.le_of_ble_eq_true rfl, Nat.le_of_ble_eq_true rfl⟩) hS (fun q _ h => (freeX hS) q h) (freeX hS) (fun u t H1 locs ht hvm hw hB hz1 hk1 hS => ?_)
              unfold BX at hB
              rw [ht] at hB
              obtain ⟨v5160, F5161, rc9⟩ := u
              obtain ⟨hI, hal9, hrc, hf5162, hw⟩ := hw
              dsimp only at hI hal9 hrc hB hf5162 hw
              rw [hrc] at hB
              have hal := hal9.trans hal
              have hP : va_P (dC, dI) classes (wX g c v5160 F5161 (g (44 + nr))) H1 := hB
              generalize H1 = H at hP hS ⊢
              refine lv_aload_n hx hb dX3_readProduct_63 rfl (lv_at hl 2 rfl) ?_
              refine lv_iload_n hx hb dX3_readProduct_64 rfl (lv_at hl 0 rfl) ?_
              refine lv_iconst (v := 0) hx hb dX3_readProduct_65 (by decide) ?_
              refine va_calli (va_runV (As := [.int 8, .int 0]) (rest := []) ⟨hx, hb, hml, hown, hwd⟩ (c_X3_put l dC dI g c adK adV v5160 F5161 nr H.size 8 0 hg hnr hI (by have : (8 : Int32).toInt = 8 := (by decide); omega) (by have : (0 : Int32).toInt = 0 := (by decide); omega)) (cwV 2 hwd (gV wk_882 wk_879 wk_880 wk_881 wk_38) rfl rfl rfl (by decide +kernel) ⟨Nat.le_of_ble_eq_true rfl, Nat.le_of_ble_eq_true rfl⟩) ⟨PX.blind, va_recv hK hP (ci := 3) (q0 := 7) rfl rfl, fun U hU hW => ⟨rfl, PX.at hK hE hP hS hU hW⟩⟩ rfl rfl hl.1 rfl (lv_room (Nat.le_of_ble_eq_true rfl)) dX3_readProduct_66 ⟨Nat.le_of_ble_eq_true rfl, Nat.le_of_ble_eq_true rfl⟩) hS (fun q _ h => (freeX hS) q h) (freeX hS) (fun r5163 u t H1 locs ht hvm hw hB hz1 hk1 hS => ?_)
              unfold BX at hB
              rw [ht] at hB
              obtain ⟨v5164, F5165, rc9⟩ := u
              obtain ⟨hI, hal9, hrc, hf5166, hw⟩ := hw
              dsimp only at hI hal9 hrc hB hf5166 hw
              rw [hrc] at hB
              have hal := hal9.trans hal
              have hP : va_P (dC, dI) classes (wX g c v5164 F5165 (g (44 + nr))) H1 := hB
              have hw : -1 ≤ r5163.toInt ∧ r5163.toInt ≤ 119 := hw
              have k5167 : (8 : Int32).toInt = 8 := by decide
              have k5168 : (0 : Int32).toInt = 0 := by decide
              generalize H1 = H at hP hS ⊢
              have hw_r5163 := hw
              refine lv_pop hx hb dX3_readProduct_69 rfl ?_
              obtain ⟨z5169, e5170⟩ : ∃ y : Int32, y = x2_lp5104 + 1 := ⟨_, rfl⟩
              try (have t5171 := tadd e5170 rfl (b := 1) (by decide) (by omega))
              refine lv_iinc (v := z5169) (lv' := [(2, .int z5169), (3, .int 8), (0, .ref (g 7)), (1, .int 4)]) hx hb dX3_readProduct_70 hl (k := 1) rfl (by rw [e5170]; rfl) (by decide) rfl (fun ls hl => ?_)
              refine lv_goto (tgt := 7) hx hb dX3_readProduct_73 (by decide) ?_
              exact ih_lp5104 z5169 v5164 F5165 _ _ _ (by omega) (by omega) (frC (by decide) hf5166 (frC (by decide) hf5162 (frU (by decide) hf_lp5104))) hI hal hP hS (lv_sub hl [0, 2, 3] rfl)
            · skip
              have t5172 := cv_eq (a := r5153.toInt) rfl (b := 42) (by decide) c5154
              refine lv_bipush (v := 7) hx hb dX3_readProduct_40 (by decide) ?_
              refine lv_goto (tgt := 47) hx hb dX3_readProduct_42 (by decide) ?_
              refine lv_istore_n (lv' := [(3, .int 7), (2, .int x2_lp5104), (0, .ref (g 7)), (1, .int 4)]) hx hb dX3_readProduct_47 rfl hl (by decide) rfl (fun ls hl => ?_)
              refine lv_aload_n hx hb dX3_readProduct_48 rfl (lv_at hl 2 rfl) ?_
              refine lv_dup hx hb dX3_readProduct_49 rfl ?_
              refine va_get (D := (dC, dI)) (ci := 3) (v := .int (v_lp5104 143)) (C := RX3) (T := TX3) (N := 5) hx hb hwd inA_X3 hown hK hP 7 rfl rfl 3 (by decide) (hwd _ wk_853) (fun _ h9 => h9) rfl dX3_readProduct_50 ?_
              refine lv_iconst (v := 1) hx hb dX3_readProduct_53 (by decide) ?_
              refine lv_iadd hx hb dX3_readProduct_54 ?_
              refine lv_topi (fun z5173 e5174 => ?_)
              try (have t5175 := tadd e5174 (a := (v_lp5104 143).toInt) rfl (b := 1) (by decide) (by omega))
              refine va_put (D := (dC, dI)) (ci := 3) (v := .int z5173) (ty := .int) (C := RX3) (T := TX3) (N := 5) (fs := fsX_7 g v_lp5104 (g (44 + nr))) hx hb hwd inA_X3 tyX3 tyX3_ok nmX3 hown hK hP (DX hg) hS 7 rfl rfl 3 (by decide) (hwd _ wk_853) (fun _ h9 => h9) rfl (by decide +kernel) rfl rfl (Nat.le_of_ble_eq_true rfl) dX3_readProduct_55 (fun H locs hP _ hS => ?_)
              have hP := va_P_eq (pX_143 g c _ _ _ _) hP
              have hI := IX.put0 hI 143 z5173 rfl
              have hal := (alX_v _ _ 143 z5173 (by decide) (by decide) (by decide) (by decide)).trans hal
              refine lv_aload_n hx hb dX3_readProduct_58 rfl (lv_at hl 2 rfl) ?_
              refine lv_iload_n hx hb dX3_readProduct_59 rfl (lv_at hl 3 rfl) ?_
              refine va_callv (va_runV (As := [.int 4]) (rest := []) ⟨hx, hb, hml, hown, hwd⟩ (c_X3_readOperand_4 l dC dI g c adK adV (va_up v_lp5104 143 z5173) F_lp5104 nr H.size  hg hnr hI ) (cwV 1 hwd (gV wk_895 wk_896 wk_897 wk_898 wk_38) rfl rfl rfl (by decide +kernel) ⟨Nat.le_of_ble_eq_true rfl, Nat.le_of_ble_eq_true rfl⟩) ⟨PX.blind, va_recv hK hP (ci := 3) (q0 := 7) rfl rfl, fun U hU hW => ⟨rfl, PX.at hK hE hP hS hU hW⟩⟩ rfl rfl hl.1 rfl (lv_room (Nat.le_of_ble_eq_true rfl)) dX3_readProduct_60 ⟨Nat.le_of_ble_eq_true rfl, Nat.le_of_ble_eq_true rfl⟩) hS (fun q _ h => (freeX hS) q h) (freeX hS) (fun u t H1 locs ht hvm hw hB hz1 hk1 hS => ?_)
              unfold BX at hB
              rw [ht] at hB
              obtain ⟨v5177, F5178, rc9⟩ := u
              obtain ⟨hI, hal9, hrc, hf5179, hw⟩ := hw
              dsimp only at hI hal9 hrc hB hf5179 hw
              rw [hrc] at hB
              have hal := hal9.trans hal
              have hP : va_P (dC, dI) classes (wX g c v5177 F5178 (g (44 + nr))) H1 := hB
              generalize H1 = H at hP hS ⊢
              refine lv_aload_n hx hb dX3_readProduct_63 rfl (lv_at hl 2 rfl) ?_
              refine lv_iload_n hx hb dX3_readProduct_64 rfl (lv_at hl 0 rfl) ?_
              refine lv_iconst (v := 0) hx hb dX3_readProduct_65 (by decide) ?_
              refine va_calli (va_runV (As := [.int 7, .int 0]) (rest := []) ⟨hx, hb, hml, hown, hwd⟩ (c_X3_put l dC dI g c adK adV v5177 F5178 nr H.size 7 0 hg hnr hI (by have : (7 : Int32).toInt = 7 := (by decide); omega) (by have : (0 : Int32).toInt = 0 := (by decide); omega)) (cwV 2 hwd (gV wk_882 wk_879 wk_880 wk_881 wk_38) rfl rfl rfl (by decide +kernel) ⟨Nat.le_of_ble_eq_true rfl, Nat.le_of_ble_eq_true rfl⟩) ⟨PX.blind, va_recv hK hP (ci := 3) (q0 := 7) rfl rfl, fun U hU hW => ⟨rfl, PX.at hK hE hP hS hU hW⟩⟩ rfl rfl hl.1 rfl (lv_room (Nat.le_of_ble_eq_true rfl)) dX3_readProduct_66 ⟨Nat.le_of_ble_eq_true rfl, Nat.le_of_ble_eq_true rfl⟩) hS (fun q _ h => (freeX hS) q h) (freeX hS) (fun r5180 u t H1 locs ht hvm hw hB hz1 hk1 hS => ?_)
              unfold BX at hB
              rw [ht] at hB
              obtain ⟨v5181, F5182, rc9⟩ := u
              obtain ⟨hI, hal9, hrc, hf5183, hw⟩ := hw
              dsimp only at hI hal9 hrc hB hf5183 hw
              rw [hrc] at hB
              have hal := hal9.trans hal
              have hP : va_P (dC, dI) classes (wX g c v5181 F5182 (g (44 + nr))) H1 := hB
              have hw : -1 ≤ r5180.toInt ∧ r5180.toInt ≤ 119 := hw
              have k5184 : (7 : Int32).toInt = 7 := by decide
              have k5185 : (0 : Int32).toInt = 0 := by decide
              generalize H1 = H at hP hS ⊢
              have hw_r5180 := hw
              refine lv_pop hx hb dX3_readProduct_69 rfl ?_
              obtain ⟨z5186, e5187⟩ : ∃ y : Int32, y = x2_lp5104 + 1 := ⟨_, rfl⟩
              try (have t5188 := tadd e5187 rfl (b := 1) (by decide) (by omega))
              refine lv_iinc (v := z5186) (lv' := [(2, .int z5186), (3, .int 7), (0, .ref (g 7)), (1, .int 4)]) hx hb dX3_readProduct_70 hl (k := 1) rfl (by rw [e5187]; rfl) (by decide) rfl (fun ls hl => ?_)
              refine lv_goto (tgt := 7) hx hb dX3_readProduct_73 (by decide) ?_
              exact ih_lp5104 z5186 v5181 F5182 _ _ _ (by omega) (by omega) (frC (by decide) hf5183 (frC (by decide) hf5179 (frU (by decide) hf_lp5104))) hI hal hP hS (lv_sub hl [0, 2, 3] rfl)
  obtain ⟨n9, hn9⟩ : ∃ n : Nat, 2147483648 - 0 ≤ (n : Int) := ⟨((2147483648 - 0 : Int)).toNat, by omega⟩
  exact lp5104 n9 0 v5101 F5102 H _ ls (by have : (0 : Int32).toInt = 0 := (by decide); omega) (by have : (0 : Int32).toInt = 0 := (by decide); omega) (fun _ _ => rfl) hI hal hP hS hl
set_option maxHeartbeats 8000000 in
set_option maxRecDepth 100000 in
theorem c_X3_readSum_4 (l : Launch) (dC : Nat → ClassId) (dI : Nat → Nat → Nat) (g : Nat → Nat) (c : Nat → ClassId) (adK adV : Nat → Nat) (v : Nat → Int32) (F : Nat → Nat → Int32) (nr sz : Nat) (hg : injX g) (hnr : nr < 10) (hI : IX v F) : Met l yX3_readSum (Cond.code yX3_readSum cX3_readSum 4 none :: wA) ({ frames := 28, cells := 0, slots := 0, locals := 1120 }) (va_Pc [.ref (g 7), .int 4] (PX dC dI g c adK adV v F (g (44 + nr)) sz)) (va_Qv (fun (u : StX) => IX u.1 u.2.1 ∧ alX u.1 u.2.1 = alX v F ∧ u.2.2 = (g (44 + nr)) ∧ (∀ k, k ∉ ([142, 143, 144] : List Nat) → u.1 k = v k) ∧ True) (BX dC dI g c) (AX g sz)) 0 0 (AX g sz) := by
  refine Met.ofW (cc := cX3_readSum) (maxL := 4) (ret := none) (by decide) rfl ?_
  intro p e s m args below meth c0 s₁ B hml hv
  obtain ⟨rfl, hsz, hP, hK, hE⟩ := hv
  have hx := B.exec
  have hb := B.bytes
  have hr := B.returns
  have hts := atoms_spec (ws := Cond.code yX3_readSum cX3_readSum 4 none :: wA) B.pre
  have hwd : ∀ w ∈ wA, w.before _ s = true := fun w h => hts w (List.mem_cons_of_mem _ h)
  have hown : s.vm.findClass RX3 = some m.cls := findClass_of_methodNamed B.named
  have hlocks := B.notSynchronized
  subst hsz
  have hl := lv_entry ([.ref (g 7), .int 4]) (n := 4) (Nat.le_of_ble_eq_true rfl)
  rw [lg_entry_eq]
  generalize (lg_sl ([.ref (g 7), .int 4]) ++ List.replicate (4 - (lg_sl ([.ref (g 7), .int 4])).length) Slot.unset).toArray = ls at hl ⊢
  have hl : lv_has ls 4 [(0, .ref (g 7)), (1, .int 4)] := hl
  obtain ⟨H, eH⟩ : ∃ z, z = s.heap := ⟨_, rfl⟩
  have hP : va_P (dC, dI) classes (wX g c v F (g (44 + nr))) H := by rw [eH]; exact hP
  have hS : va_S (AX g s.heap.size) s.heap H [] := by rw [eH]; exact va_S.rf
  refine my_heap eH ?_
  have hal : alX v F = alX v F := rfl
  refine lv_aload_n hx hb dX3_readSum_0 rfl (lv_at hl 0 rfl) ?_
  refine lv_iload_n hx hb dX3_readSum_1 rfl (lv_at hl 1 rfl) ?_
  refine va_callv (va_runV (As := [.int 4]) (rest := []) ⟨hx, hb, hml, hown, hwd⟩ (c_X3_readProduct_4 l dC dI g c adK adV v F nr H.size  hg hnr hI ) (cwV 1 hwd (gV wk_989 wk_991 wk_992 wk_993 wk_38) rfl rfl rfl (by decide +kernel) ⟨Nat.le_of_ble_eq_true rfl, Nat.le_of_ble_eq_true rfl⟩) ⟨PX.blind, va_recv hK hP (ci := 3) (q0 := 7) rfl rfl, fun U hU hW => ⟨rfl, PX.at hK hE hP hS hU hW⟩⟩ rfl rfl hl.1 rfl (lv_room (Nat.le_of_ble_eq_true rfl)) dX3_readSum_2 ⟨Nat.le_of_ble_eq_true rfl, Nat.le_of_ble_eq_true rfl⟩) hS (fun q _ h => (freeX hS) q h) (freeX hS) (fun u t H1 locs ht hvm hw hB hz1 hk1 hS => ?_)
  unfold BX at hB
  rw [ht] at hB
  obtain ⟨v5190, F5191, rc9⟩ := u
  obtain ⟨hI, hal9, hrc, hf5192, hw⟩ := hw
  dsimp only at hI hal9 hrc hB hf5192 hw
  rw [hrc] at hB
  have hal := hal9.trans hal
  have hP : va_P (dC, dI) classes (wX g c v5190 F5191 (g (44 + nr))) H1 := hB
  generalize H1 = H at hP hS ⊢
  refine lv_iconst (v := 0) hx hb dX3_readSum_5 (by decide) ?_
  refine lv_istore_n (lv' := [(2, .int 0), (0, .ref (g 7)), (1, .int 4)]) hx hb dX3_readSum_6 rfl hl (by decide) rfl (fun ls hl => ?_)
  have lp5193 : ∀ (n : Nat) (x2_lp5193 : Int32) (v_lp5193 : Nat → Int32) (F_lp5193 : Nat → Nat → Int32) (H : Heap) (locs : List Loc) (ls : Array Slot), (0 ≤ x2_lp5193.toInt) → (2147483648 - x2_lp5193.toInt ≤ (n : Int)) → (∀ k, k ∉ ([142, 143, 144] : List Nat) → v_lp5193 k = v5190 k) → IX v_lp5193 F_lp5193 → alX v_lp5193 F_lp5193 = alX v F → va_P (dC, dI) classes (wX g c v_lp5193 F_lp5193 (g (44 + nr))) H → va_S (AX g s.heap.size) s.heap H locs → lv_has ls 4 [(2, .int x2_lp5193), (0, .ref (g 7)), (1, .int 4)] → W p l e (headSpec (Cond.code yX3_readSum cX3_readSum 4 none :: wA) ({ frames := 28, cells := 0, slots := 0, locals := 1120 })).room s m ([.ref (g 7), .int 4] : List Value).toArray below meth c0 H locs 0 0 (MQ below (va_Qv (fun (u : StX) => IX u.1 u.2.1 ∧ alX u.1 u.2.1 = alX v F ∧ u.2.2 = (g (44 + nr)) ∧ (∀ k, k ∉ ([142, 143, 144] : List Nat) → u.1 k = v k) ∧ True) (BX dC dI g c) (AX g s.heap.size)) ([.ref (g 7), .int 4] : List Value).toArray s 0 0 (AX g s.heap.size)) (F0 m 7 ls []) := by
    intro n
    induction n with
    | zero =>
      intro x2_lp5193 v_lp5193 F_lp5193 H locs ls t5194 hm hf_lp5193 hI hal hP hS hl
      exfalso
      have := i32_rng x2_lp5193
      have hI1 := hI.1
      omega
    | succ n ih_lp5193 =>
      intro x2_lp5193 v_lp5193 F_lp5193 H locs ls t5194 hm hf_lp5193 hI hal hP hS hl
      have rx2_lp5193 := i32_rng x2_lp5193
      refine lv_iload_n hx hb dX3_readSum_7 rfl (lv_at hl 0 rfl) ?_
      refine lv_bipush (v := 120) hx hb dX3_readSum_8 (by decide) ?_
      refine lv_icmp_ge (tgt := 75) hx hb dX3_readSum_10 (by decide) (fun c5195 => ?_) (fun c5195 => ?_)
      · skip
        have t5196 := cv_le (a := 120) (by decide) (b := x2_lp5193.toInt) rfl c5195
        have hP9 : va_P (dC, dI) classes (wX g c v_lp5193 F_lp5193 (g (44 + nr))) H := hP
        exact W.vret hx hb hr (fun t ht hW => ⟨⟨(v_lp5193, F_lp5193, (g (44 + nr))), rfl, ⟨hI, hal, rfl, (frC (by decide) hf_lp5193 (frC (by decide) hf5192 (fun _ _ => rfl))), trivial⟩, (by show va_P _ _ _ t.heap; rw [ht]; exact hP9)⟩, hS.F ht⟩) hS.2.2 dX3_readSum_75
      · skip
        have t5197 := cv_nle (a := 120) (by decide) (b := x2_lp5193.toInt) rfl c5195
        refine lv_aload_n hx hb dX3_readSum_13 rfl (lv_at hl 1 rfl) ?_
        refine va_calli (va_runV (As := []) (rest := []) ⟨hx, hb, hml, hown, hwd⟩ (c_X3_next l dC dI g c adK adV v_lp5193 F_lp5193 nr H.size  hg hnr hI ) (cwV 0 hwd (gV wk_866 wk_863 wk_864 wk_865 wk_38) rfl rfl rfl (by decide +kernel) ⟨Nat.le_of_ble_eq_true rfl, Nat.le_of_ble_eq_true rfl⟩) ⟨PX.blind, va_recv hK hP (ci := 3) (q0 := 7) rfl rfl, fun U hU hW => ⟨rfl, PX.at hK hE hP hS hU hW⟩⟩ rfl rfl hl.1 rfl (lv_room (Nat.le_of_ble_eq_true rfl)) dX3_readSum_14 ⟨Nat.le_of_ble_eq_true rfl, Nat.le_of_ble_eq_true rfl⟩) hS (fun q _ h => (freeX hS) q h) (freeX hS) (fun r5198 u t H1 locs ht hvm hw hB hz1 hk1 hS => ?_)
        unfold BX at hB
        rw [ht] at hB
        have hP : va_P (dC, dI) classes (wX g c v_lp5193 F_lp5193 (g (44 + nr))) H1 := hB
        generalize H1 = H at hP hS ⊢
        have rr_r5198 := i32_rng r5198
        refine lv_bipush (v := 43) hx hb dX3_readSum_17 (by decide) ?_
        refine lv_icmp_eq (tgt := 31) hx hb dX3_readSum_19 (by decide) (fun c5199 => ?_) (fun c5199 => ?_)
        · skip
          have t5200 := cv_eq (a := r5198.toInt) rfl (b := 43) (by decide) c5199
          refine lv_aload_n hx hb dX3_readSum_31 rfl (lv_at hl 1 rfl) ?_
          refine va_calli (va_runV (As := []) (rest := []) ⟨hx, hb, hml, hown, hwd⟩ (c_X3_next l dC dI g c adK adV v_lp5193 F_lp5193 nr H.size  hg hnr hI ) (cwV 0 hwd (gV wk_866 wk_863 wk_864 wk_865 wk_38) rfl rfl rfl (by decide +kernel) ⟨Nat.le_of_ble_eq_true rfl, Nat.le_of_ble_eq_true rfl⟩) ⟨PX.blind, va_recv hK hP (ci := 3) (q0 := 7) rfl rfl, fun U hU hW => ⟨rfl, PX.at hK hE hP hS hU hW⟩⟩ rfl rfl hl.1 rfl (lv_room (Nat.le_of_ble_eq_true rfl)) dX3_readSum_32 ⟨Nat.le_of_ble_eq_true rfl, Nat.le_of_ble_eq_true rfl⟩) hS (fun q _ h => (freeX hS) q h) (freeX hS) (fun r5201 u t H1 locs ht hvm hw hB hz1 hk1 hS => ?_)
          unfold BX at hB
          rw [ht] at hB
          have hP : va_P (dC, dI) classes (wX g c v_lp5193 F_lp5193 (g (44 + nr))) H1 := hB
          generalize H1 = H at hP hS ⊢
          have rr_r5201 := i32_rng r5201
          refine lv_bipush (v := 43) hx hb dX3_readSum_35 (by decide) ?_
          refine lv_icmp_ne (tgt := 44) hx hb dX3_readSum_37 (by decide) (fun c5202 => ?_) (fun c5202 => ?_)
          · skip
            have t5203 := cv_ne (a := r5201.toInt) rfl (b := 43) (by decide) c5202
            refine lv_bipush (v := 6) hx hb dX3_readSum_44 (by decide) ?_
            refine lv_istore_n (lv' := [(3, .int 6), (2, .int x2_lp5193), (0, .ref (g 7)), (1, .int 4)]) hx hb dX3_readSum_46 rfl hl (by decide) rfl (fun ls hl => ?_)
            refine lv_aload_n hx hb dX3_readSum_47 rfl (lv_at hl 2 rfl) ?_
            refine lv_dup hx hb dX3_readSum_48 rfl ?_
            refine va_get (D := (dC, dI)) (ci := 3) (v := .int (v_lp5193 143)) (C := RX3) (T := TX3) (N := 5) hx hb hwd inA_X3 hown hK hP 7 rfl rfl 3 (by decide) (hwd _ wk_853) (fun _ h9 => h9) rfl dX3_readSum_49 ?_
            refine lv_iconst (v := 1) hx hb dX3_readSum_52 (by decide) ?_
            refine lv_iadd hx hb dX3_readSum_53 ?_
            refine lv_topi (fun z5204 e5205 => ?_)
            try (have t5206 := tadd e5205 (a := (v_lp5193 143).toInt) rfl (b := 1) (by decide) (by omega))
            refine va_put (D := (dC, dI)) (ci := 3) (v := .int z5204) (ty := .int) (C := RX3) (T := TX3) (N := 5) (fs := fsX_7 g v_lp5193 (g (44 + nr))) hx hb hwd inA_X3 tyX3 tyX3_ok nmX3 hown hK hP (DX hg) hS 7 rfl rfl 3 (by decide) (hwd _ wk_853) (fun _ h9 => h9) rfl (by decide +kernel) rfl rfl (Nat.le_of_ble_eq_true rfl) dX3_readSum_54 (fun H locs hP _ hS => ?_)
            have hP := va_P_eq (pX_143 g c _ _ _ _) hP
            have hI := IX.put0 hI 143 z5204 rfl
            have hal := (alX_v _ _ 143 z5204 (by decide) (by decide) (by decide) (by decide)).trans hal
            refine lv_aload_n hx hb dX3_readSum_57 rfl (lv_at hl 2 rfl) ?_
            refine lv_iload_n hx hb dX3_readSum_58 rfl (lv_at hl 3 rfl) ?_
            refine va_callv (va_runV (As := [.int 4]) (rest := []) ⟨hx, hb, hml, hown, hwd⟩ (c_X3_readProduct_4 l dC dI g c adK adV (va_up v_lp5193 143 z5204) F_lp5193 nr H.size  hg hnr hI ) (cwV 1 hwd (gV wk_989 wk_991 wk_992 wk_993 wk_38) rfl rfl rfl (by decide +kernel) ⟨Nat.le_of_ble_eq_true rfl, Nat.le_of_ble_eq_true rfl⟩) ⟨PX.blind, va_recv hK hP (ci := 3) (q0 := 7) rfl rfl, fun U hU hW => ⟨rfl, PX.at hK hE hP hS hU hW⟩⟩ rfl rfl hl.1 rfl (lv_room (Nat.le_of_ble_eq_true rfl)) dX3_readSum_59 ⟨Nat.le_of_ble_eq_true rfl, Nat.le_of_ble_eq_true rfl⟩) hS (fun q _ h => (freeX hS) q h) (freeX hS) (fun u t H1 locs ht hvm hw hB hz1 hk1 hS => ?_)
            unfold BX at hB
            rw [ht] at hB
            obtain ⟨v5208, F5209, rc9⟩ := u
            obtain ⟨hI, hal9, hrc, hf5210, hw⟩ := hw
            dsimp only at hI hal9 hrc hB hf5210 hw
            rw [hrc] at hB
            have hal := hal9.trans hal
            have hP : va_P (dC, dI) classes (wX g c v5208 F5209 (g (44 + nr))) H1 := hB
            generalize H1 = H at hP hS ⊢
            refine lv_aload_n hx hb dX3_readSum_62 rfl (lv_at hl 2 rfl) ?_
            refine lv_iload_n hx hb dX3_readSum_63 rfl (lv_at hl 0 rfl) ?_
            refine lv_iconst (v := 0) hx hb dX3_readSum_64 (by decide) ?_
            refine va_calli (va_runV (As := [.int 6, .int 0]) (rest := []) ⟨hx, hb, hml, hown, hwd⟩ (c_X3_put l dC dI g c adK adV v5208 F5209 nr H.size 6 0 hg hnr hI (by have : (6 : Int32).toInt = 6 := (by decide); omega) (by have : (0 : Int32).toInt = 0 := (by decide); omega)) (cwV 2 hwd (gV wk_882 wk_879 wk_880 wk_881 wk_38) rfl rfl rfl (by decide +kernel) ⟨Nat.le_of_ble_eq_true rfl, Nat.le_of_ble_eq_true rfl⟩) ⟨PX.blind, va_recv hK hP (ci := 3) (q0 := 7) rfl rfl, fun U hU hW => ⟨rfl, PX.at hK hE hP hS hU hW⟩⟩ rfl rfl hl.1 rfl (lv_room (Nat.le_of_ble_eq_true rfl)) dX3_readSum_65 ⟨Nat.le_of_ble_eq_true rfl, Nat.le_of_ble_eq_true rfl⟩) hS (fun q _ h => (freeX hS) q h) (freeX hS) (fun r5211 u t H1 locs ht hvm hw hB hz1 hk1 hS => ?_)
            unfold BX at hB
            rw [ht] at hB
            obtain ⟨v5212, F5213, rc9⟩ := u
            obtain ⟨hI, hal9, hrc, hf5214, hw⟩ := hw
            dsimp only at hI hal9 hrc hB hf5214 hw
            rw [hrc] at hB
            have hal := hal9.trans hal
            have hP : va_P (dC, dI) classes (wX g c v5212 F5213 (g (44 + nr))) H1 := hB
            have hw : -1 ≤ r5211.toInt ∧ r5211.toInt ≤ 119 := hw
            have k5215 : (6 : Int32).toInt = 6 := by decide
            have k5216 : (0 : Int32).toInt = 0 := by decide
            generalize H1 = H at hP hS ⊢
            have hw_r5211 := hw
            refine lv_pop hx hb dX3_readSum_68 rfl ?_
            obtain ⟨z5217, e5218⟩ : ∃ y : Int32, y = x2_lp5193 + 1 := ⟨_, rfl⟩
            try (have t5219 := tadd e5218 rfl (b := 1) (by decide) (by omega))
            refine lv_iinc (v := z5217) (lv' := [(2, .int z5217), (3, .int 6), (0, .ref (g 7)), (1, .int 4)]) hx hb dX3_readSum_69 hl (k := 1) rfl (by rw [e5218]; rfl) (by decide) rfl (fun ls hl => ?_)
            refine lv_goto (tgt := 7) hx hb dX3_readSum_72 (by decide) ?_
            exact ih_lp5193 z5217 v5212 F5213 _ _ _ (by omega) (by omega) (frC (by decide) hf5214 (frC (by decide) hf5210 (frU (by decide) hf_lp5193))) hI hal hP hS (lv_sub hl [0, 2, 3] rfl)
          · skip
            have t5220 := cv_eq (a := r5201.toInt) rfl (b := 43) (by decide) c5202
            refine lv_iconst (v := 5) hx hb dX3_readSum_40 (by decide) ?_
            refine lv_goto (tgt := 46) hx hb dX3_readSum_41 (by decide) ?_
            refine lv_istore_n (lv' := [(3, .int 5), (2, .int x2_lp5193), (0, .ref (g 7)), (1, .int 4)]) hx hb dX3_readSum_46 rfl hl (by decide) rfl (fun ls hl => ?_)
            refine lv_aload_n hx hb dX3_readSum_47 rfl (lv_at hl 2 rfl) ?_
            refine lv_dup hx hb dX3_readSum_48 rfl ?_
            refine va_get (D := (dC, dI)) (ci := 3) (v := .int (v_lp5193 143)) (C := RX3) (T := TX3) (N := 5) hx hb hwd inA_X3 hown hK hP 7 rfl rfl 3 (by decide) (hwd _ wk_853) (fun _ h9 => h9) rfl dX3_readSum_49 ?_
            refine lv_iconst (v := 1) hx hb dX3_readSum_52 (by decide) ?_
            refine lv_iadd hx hb dX3_readSum_53 ?_
            refine lv_topi (fun z5221 e5222 => ?_)
            try (have t5223 := tadd e5222 (a := (v_lp5193 143).toInt) rfl (b := 1) (by decide) (by omega))
            refine va_put (D := (dC, dI)) (ci := 3) (v := .int z5221) (ty := .int) (C := RX3) (T := TX3) (N := 5) (fs := fsX_7 g v_lp5193 (g (44 + nr))) hx hb hwd inA_X3 tyX3 tyX3_ok nmX3 hown hK hP (DX hg) hS 7 rfl rfl 3 (by decide) (hwd _ wk_853) (fun _ h9 => h9) rfl (by decide +kernel) rfl rfl (Nat.le_of_ble_eq_true rfl) dX3_readSum_54 (fun H locs hP _ hS => ?_)
            have hP := va_P_eq (pX_143 g c _ _ _ _) hP
            have hI := IX.put0 hI 143 z5221 rfl
            have hal := (alX_v _ _ 143 z5221 (by decide) (by decide) (by decide) (by decide)).trans hal
            refine lv_aload_n hx hb dX3_readSum_57 rfl (lv_at hl 2 rfl) ?_
            refine lv_iload_n hx hb dX3_readSum_58 rfl (lv_at hl 3 rfl) ?_
            refine va_callv (va_runV (As := [.int 4]) (rest := []) ⟨hx, hb, hml, hown, hwd⟩ (c_X3_readProduct_4 l dC dI g c adK adV (va_up v_lp5193 143 z5221) F_lp5193 nr H.size  hg hnr hI ) (cwV 1 hwd (gV wk_989 wk_991 wk_992 wk_993 wk_38) rfl rfl rfl (by decide +kernel) ⟨Nat.le_of_ble_eq_true rfl, Nat.le_of_ble_eq_true rfl⟩) ⟨PX.blind, va_recv hK hP (ci := 3) (q0 := 7) rfl rfl, fun U hU hW => ⟨rfl, PX.at hK hE hP hS hU hW⟩⟩ rfl rfl hl.1 rfl (lv_room (Nat.le_of_ble_eq_true rfl)) dX3_readSum_59 ⟨Nat.le_of_ble_eq_true rfl, Nat.le_of_ble_eq_true rfl⟩) hS (fun q _ h => (freeX hS) q h) (freeX hS) (fun u t H1 locs ht hvm hw hB hz1 hk1 hS => ?_)
            unfold BX at hB
            rw [ht] at hB
            obtain ⟨v5225, F5226, rc9⟩ := u
            obtain ⟨hI, hal9, hrc, hf5227, hw⟩ := hw
            dsimp only at hI hal9 hrc hB hf5227 hw
            rw [hrc] at hB
            have hal := hal9.trans hal
            have hP : va_P (dC, dI) classes (wX g c v5225 F5226 (g (44 + nr))) H1 := hB
            generalize H1 = H at hP hS ⊢
            refine lv_aload_n hx hb dX3_readSum_62 rfl (lv_at hl 2 rfl) ?_
            refine lv_iload_n hx hb dX3_readSum_63 rfl (lv_at hl 0 rfl) ?_
            refine lv_iconst (v := 0) hx hb dX3_readSum_64 (by decide) ?_
            refine va_calli (va_runV (As := [.int 5, .int 0]) (rest := []) ⟨hx, hb, hml, hown, hwd⟩ (c_X3_put l dC dI g c adK adV v5225 F5226 nr H.size 5 0 hg hnr hI (by have : (5 : Int32).toInt = 5 := (by decide); omega) (by have : (0 : Int32).toInt = 0 := (by decide); omega)) (cwV 2 hwd (gV wk_882 wk_879 wk_880 wk_881 wk_38) rfl rfl rfl (by decide +kernel) ⟨Nat.le_of_ble_eq_true rfl, Nat.le_of_ble_eq_true rfl⟩) ⟨PX.blind, va_recv hK hP (ci := 3) (q0 := 7) rfl rfl, fun U hU hW => ⟨rfl, PX.at hK hE hP hS hU hW⟩⟩ rfl rfl hl.1 rfl (lv_room (Nat.le_of_ble_eq_true rfl)) dX3_readSum_65 ⟨Nat.le_of_ble_eq_true rfl, Nat.le_of_ble_eq_true rfl⟩) hS (fun q _ h => (freeX hS) q h) (freeX hS) (fun r5228 u t H1 locs ht hvm hw hB hz1 hk1 hS => ?_)
            unfold BX at hB
            rw [ht] at hB
            obtain ⟨v5229, F5230, rc9⟩ := u
            obtain ⟨hI, hal9, hrc, hf5231, hw⟩ := hw
            dsimp only at hI hal9 hrc hB hf5231 hw
            rw [hrc] at hB
            have hal := hal9.trans hal
            have hP : va_P (dC, dI) classes (wX g c v5229 F5230 (g (44 + nr))) H1 := hB
            have hw : -1 ≤ r5228.toInt ∧ r5228.toInt ≤ 119 := hw
            have k5232 : (5 : Int32).toInt = 5 := by decide
            have k5233 : (0 : Int32).toInt = 0 := by decide
            generalize H1 = H at hP hS ⊢
            have hw_r5228 := hw
            refine lv_pop hx hb dX3_readSum_68 rfl ?_
            obtain ⟨z5234, e5235⟩ : ∃ y : Int32, y = x2_lp5193 + 1 := ⟨_, rfl⟩
            try (have t5236 := tadd e5235 rfl (b := 1) (by decide) (by omega))
            refine lv_iinc (v := z5234) (lv' := [(2, .int z5234), (3, .int 5), (0, .ref (g 7)), (1, .int 4)]) hx hb dX3_readSum_69 hl (k := 1) rfl (by rw [e5235]; rfl) (by decide) rfl (fun ls hl => ?_)
            refine lv_goto (tgt := 7) hx hb dX3_readSum_72 (by decide) ?_
            exact ih_lp5193 z5234 v5229 F5230 _ _ _ (by omega) (by omega) (frC (by decide) hf5231 (frC (by decide) hf5227 (frU (by decide) hf_lp5193))) hI hal hP hS (lv_sub hl [0, 2, 3] rfl)
        · skip
          have t5237 := cv_ne (a := r5198.toInt) rfl (b := 43) (by decide) c5199
          refine lv_aload_n hx hb dX3_readSum_22 rfl (lv_at hl 1 rfl) ?_
          refine va_calli (va_runV (As := []) (rest := []) ⟨hx, hb, hml, hown, hwd⟩ (c_X3_next l dC dI g c adK adV v_lp5193 F_lp5193 nr H.size  hg hnr hI ) (cwV 0 hwd (gV wk_866 wk_863 wk_864 wk_865 wk_38) rfl rfl rfl (by decide +kernel) ⟨Nat.le_of_ble_eq_true rfl, Nat.le_of_ble_eq_true rfl⟩) ⟨PX.blind, va_recv hK hP (ci := 3) (q0 := 7) rfl rfl, fun U hU hW => ⟨rfl, PX.at hK hE hP hS hU hW⟩⟩ rfl rfl hl.1 rfl (lv_room (Nat.le_of_ble_eq_true rfl)) dX3_readSum_23 ⟨Nat.le_of_ble_eq_true rfl, Nat.le_of_ble_eq_true rfl⟩) hS (fun q _ h => (freeX hS) q h) (freeX hS) (fun r5238 u t H1 locs ht hvm hw hB hz1 hk1 hS => ?_)
          unfold BX at hB
          rw [ht] at hB
          have hP : va_P (dC, dI) classes (wX g c v_lp5193 F_lp5193 (g (44 + nr))) H1 := hB
          generalize H1 = H at hP hS ⊢
          have rr_r5238 := i32_rng r5238
          refine lv_bipush (v := 45) hx hb dX3_readSum_26 (by decide) ?_
          refine lv_icmp_ne (tgt := 75) hx hb dX3_readSum_28 (by decide) (fun c5239 => ?_) (fun c5239 => ?_)
          · skip
            have t5240 := cv_ne (a := r5238.toInt) rfl (b := 45) (by decide) c5239
            have hP9 : va_P (dC, dI) classes (wX g c v_lp5193 F_lp5193 (g (44 + nr))) H := hP
            exact W.vret hx hb hr (fun t ht hW => ⟨⟨(v_lp5193, F_lp5193, (g (44 + nr))), rfl, ⟨hI, hal, rfl, (frC (by decide) hf_lp5193 (frC (by decide) hf5192 (fun _ _ => rfl))), trivial⟩, (by show va_P _ _ _ t.heap; rw [ht]; exact hP9)⟩, hS.F ht⟩) hS.2.2 dX3_readSum_75
          · skip
            have t5241 := cv_eq (a := r5238.toInt) rfl (b := 45) (by decide) c5239
            refine lv_aload_n hx hb dX3_readSum_31 rfl (lv_at hl 1 rfl) ?_
            refine va_calli (va_runV (As := []) (rest := []) ⟨hx, hb, hml, hown, hwd⟩ (c_X3_next l dC dI g c adK adV v_lp5193 F_lp5193 nr H.size  hg hnr hI ) (cwV 0 hwd (gV wk_866 wk_863 wk_864 wk_865 wk_38) rfl rfl rfl (by decide +kernel) ⟨Nat.le_of_ble_eq_true rfl, Nat.le_of_ble_eq_true rfl⟩) ⟨PX.blind, va_recv hK hP (ci := 3) (q0 := 7) rfl rfl, fun U hU hW => ⟨rfl, PX.at hK hE hP hS hU hW⟩⟩ rfl rfl hl.1 rfl (lv_room (Nat.le_of_ble_eq_true rfl)) dX3_readSum_32 ⟨Nat.le_of_ble_eq_true rfl, Nat.le_of_ble_eq_true rfl⟩) hS (fun q _ h => (freeX hS) q h) (freeX hS) (fun r5242 u t H1 locs ht hvm hw hB hz1 hk1 hS => ?_)
            unfold BX at hB
            rw [ht] at hB
            have hP : va_P (dC, dI) classes (wX g c v_lp5193 F_lp5193 (g (44 + nr))) H1 := hB
            generalize H1 = H at hP hS ⊢
            have rr_r5242 := i32_rng r5242
            refine lv_bipush (v := 43) hx hb dX3_readSum_35 (by decide) ?_
            refine lv_icmp_ne (tgt := 44) hx hb dX3_readSum_37 (by decide) (fun c5243 => ?_) (fun c5243 => ?_)
            · skip
              have t5244 := cv_ne (a := r5242.toInt) rfl (b := 43) (by decide) c5243
              refine lv_bipush (v := 6) hx hb dX3_readSum_44 (by decide) ?_
              refine lv_istore_n (lv' := [(3, .int 6), (2, .int x2_lp5193), (0, .ref (g 7)), (1, .int 4)]) hx hb dX3_readSum_46 rfl hl (by decide) rfl (fun ls hl => ?_)
              refine lv_aload_n hx hb dX3_readSum_47 rfl (lv_at hl 2 rfl) ?_
              refine lv_dup hx hb dX3_readSum_48 rfl ?_
              refine va_get (D := (dC, dI)) (ci := 3) (v := .int (v_lp5193 143)) (C := RX3) (T := TX3) (N := 5) hx hb hwd inA_X3 hown hK hP 7 rfl rfl 3 (by decide) (hwd _ wk_853) (fun _ h9 => h9) rfl dX3_readSum_49 ?_
              refine lv_iconst (v := 1) hx hb dX3_readSum_52 (by decide) ?_
              refine lv_iadd hx hb dX3_readSum_53 ?_
              refine lv_topi (fun z5245 e5246 => ?_)
              try (have t5247 := tadd e5246 (a := (v_lp5193 143).toInt) rfl (b := 1) (by decide) (by omega))
              refine va_put (D := (dC, dI)) (ci := 3) (v := .int z5245) (ty := .int) (C := RX3) (T := TX3) (N := 5) (fs := fsX_7 g v_lp5193 (g (44 + nr))) hx hb hwd inA_X3 tyX3 tyX3_ok nmX3 hown hK hP (DX hg) hS 7 rfl rfl 3 (by decide) (hwd _ wk_853) (fun _ h9 => h9) rfl (by decide +kernel) rfl rfl (Nat.le_of_ble_eq_true rfl) dX3_readSum_54 (fun H locs hP _ hS => ?_)
              have hP := va_P_eq (pX_143 g c _ _ _ _) hP
              have hI := IX.put0 hI 143 z5245 rfl
              have hal := (alX_v _ _ 143 z5245 (by decide) (by decide) (by decide) (by decide)).trans hal
              refine lv_aload_n hx hb dX3_readSum_57 rfl (lv_at hl 2 rfl) ?_
              refine lv_iload_n hx hb dX3_readSum_58 rfl (lv_at hl 3 rfl) ?_
              refine va_callv (va_runV (As := [.int 4]) (rest := []) ⟨hx, hb, hml, hown, hwd⟩ (c_X3_readProduct_4 l dC dI g c adK adV (va_up v_lp5193 143 z5245) F_lp5193 nr H.size  hg hnr hI ) (cwV 1 hwd (gV wk_989 wk_991 wk_992 wk_993 wk_38) rfl rfl rfl (by decide +kernel) ⟨Nat.le_of_ble_eq_true rfl, Nat.le_of_ble_eq_true rfl⟩) ⟨PX.blind, va_recv hK hP (ci := 3) (q0 := 7) rfl rfl, fun U hU hW => ⟨rfl, PX.at hK hE hP hS hU hW⟩⟩ rfl rfl hl.1 rfl (lv_room (Nat.le_of_ble_eq_true rfl)) dX3_readSum_59 ⟨Nat.le_of_ble_eq_true rfl, Nat.le_of_ble_eq_true rfl⟩) hS (fun q _ h => (freeX hS) q h) (freeX hS) (fun u t H1 locs ht hvm hw hB hz1 hk1 hS => ?_)
              unfold BX at hB
              rw [ht] at hB
              obtain ⟨v5249, F5250, rc9⟩ := u
              obtain ⟨hI, hal9, hrc, hf5251, hw⟩ := hw
              dsimp only at hI hal9 hrc hB hf5251 hw
              rw [hrc] at hB
              have hal := hal9.trans hal
              have hP : va_P (dC, dI) classes (wX g c v5249 F5250 (g (44 + nr))) H1 := hB
              generalize H1 = H at hP hS ⊢
              refine lv_aload_n hx hb dX3_readSum_62 rfl (lv_at hl 2 rfl) ?_
              refine lv_iload_n hx hb dX3_readSum_63 rfl (lv_at hl 0 rfl) ?_
              refine lv_iconst (v := 0) hx hb dX3_readSum_64 (by decide) ?_
              refine va_calli (va_runV (As := [.int 6, .int 0]) (rest := []) ⟨hx, hb, hml, hown, hwd⟩ (c_X3_put l dC dI g c adK adV v5249 F5250 nr H.size 6 0 hg hnr hI (by have : (6 : Int32).toInt = 6 := (by decide); omega) (by have : (0 : Int32).toInt = 0 := (by decide); omega)) (cwV 2 hwd (gV wk_882 wk_879 wk_880 wk_881 wk_38) rfl rfl rfl (by decide +kernel) ⟨Nat.le_of_ble_eq_true rfl, Nat.le_of_ble_eq_true rfl⟩) ⟨PX.blind, va_recv hK hP (ci := 3) (q0 := 7) rfl rfl, fun U hU hW => ⟨rfl, PX.at hK hE hP hS hU hW⟩⟩ rfl rfl hl.1 rfl (lv_room (Nat.le_of_ble_eq_true rfl)) dX3_readSum_65 ⟨Nat.le_of_ble_eq_true rfl, Nat.le_of_ble_eq_true rfl⟩) hS (fun q _ h => (freeX hS) q h) (freeX hS) (fun r5252 u t H1 locs ht hvm hw hB hz1 hk1 hS => ?_)
              unfold BX at hB
              rw [ht] at hB
              obtain ⟨v5253, F5254, rc9⟩ := u
              obtain ⟨hI, hal9, hrc, hf5255, hw⟩ := hw
              dsimp only at hI hal9 hrc hB hf5255 hw
              rw [hrc] at hB
              have hal := hal9.trans hal
              have hP : va_P (dC, dI) classes (wX g c v5253 F5254 (g (44 + nr))) H1 := hB
              have hw : -1 ≤ r5252.toInt ∧ r5252.toInt ≤ 119 := hw
              have k5256 : (6 : Int32).toInt = 6 := by decide
              have k5257 : (0 : Int32).toInt = 0 := by decide
              generalize H1 = H at hP hS ⊢
              have hw_r5252 := hw
              refine lv_pop hx hb dX3_readSum_68 rfl ?_
              obtain ⟨z5258, e5259⟩ : ∃ y : Int32, y = x2_lp5193 + 1 := ⟨_, rfl⟩
              try (have t5260 := tadd e5259 rfl (b := 1) (by decide) (by omega))
              refine lv_iinc (v := z5258) (lv' := [(2, .int z5258), (3, .int 6), (0, .ref (g 7)), (1, .int 4)]) hx hb dX3_readSum_69 hl (k := 1) rfl (by rw [e5259]; rfl) (by decide) rfl (fun ls hl => ?_)
              refine lv_goto (tgt := 7) hx hb dX3_readSum_72 (by decide) ?_
              exact ih_lp5193 z5258 v5253 F5254 _ _ _ (by omega) (by omega) (frC (by decide) hf5255 (frC (by decide) hf5251 (frU (by decide) hf_lp5193))) hI hal hP hS (lv_sub hl [0, 2, 3] rfl)
            · skip
              have t5261 := cv_eq (a := r5242.toInt) rfl (b := 43) (by decide) c5243
              refine lv_iconst (v := 5) hx hb dX3_readSum_40 (by decide) ?_
              refine lv_goto (tgt := 46) hx hb dX3_readSum_41 (by decide) ?_
              refine lv_istore_n (lv' := [(3, .int 5), (2, .int x2_lp5193), (0, .ref (g 7)), (1, .int 4)]) hx hb dX3_readSum_46 rfl hl (by decide) rfl (fun ls hl => ?_)
              refine lv_aload_n hx hb dX3_readSum_47 rfl (lv_at hl 2 rfl) ?_
              refine lv_dup hx hb dX3_readSum_48 rfl ?_
              refine va_get (D := (dC, dI)) (ci := 3) (v := .int (v_lp5193 143)) (C := RX3) (T := TX3) (N := 5) hx hb hwd inA_X3 hown hK hP 7 rfl rfl 3 (by decide) (hwd _ wk_853) (fun _ h9 => h9) rfl dX3_readSum_49 ?_
              refine lv_iconst (v := 1) hx hb dX3_readSum_52 (by decide) ?_
              refine lv_iadd hx hb dX3_readSum_53 ?_
              refine lv_topi (fun z5262 e5263 => ?_)
              try (have t5264 := tadd e5263 (a := (v_lp5193 143).toInt) rfl (b := 1) (by decide) (by omega))
              refine va_put (D := (dC, dI)) (ci := 3) (v := .int z5262) (ty := .int) (C := RX3) (T := TX3) (N := 5) (fs := fsX_7 g v_lp5193 (g (44 + nr))) hx hb hwd inA_X3 tyX3 tyX3_ok nmX3 hown hK hP (DX hg) hS 7 rfl rfl 3 (by decide) (hwd _ wk_853) (fun _ h9 => h9) rfl (by decide +kernel) rfl rfl (Nat.le_of_ble_eq_true rfl) dX3_readSum_54 (fun H locs hP _ hS => ?_)
              have hP := va_P_eq (pX_143 g c _ _ _ _) hP
              have hI := IX.put0 hI 143 z5262 rfl
              have hal := (alX_v _ _ 143 z5262 (by decide) (by decide) (by decide) (by decide)).trans hal
              refine lv_aload_n hx hb dX3_readSum_57 rfl (lv_at hl 2 rfl) ?_
              refine lv_iload_n hx hb dX3_readSum_58 rfl (lv_at hl 3 rfl) ?_
              refine va_callv (va_runV (As := [.int 4]) (rest := []) ⟨hx, hb, hml, hown, hwd⟩ (c_X3_readProduct_4 l dC dI g c adK adV (va_up v_lp5193 143 z5262) F_lp5193 nr H.size  hg hnr hI ) (cwV 1 hwd (gV wk_989 wk_991 wk_992 wk_993 wk_38) rfl rfl rfl (by decide +kernel) ⟨Nat.le_of_ble_eq_true rfl, Nat.le_of_ble_eq_true rfl⟩) ⟨PX.blind, va_recv hK hP (ci := 3) (q0 := 7) rfl rfl, fun U hU hW => ⟨rfl, PX.at hK hE hP hS hU hW⟩⟩ rfl rfl hl.1 rfl (lv_room (Nat.le_of_ble_eq_true rfl)) dX3_readSum_59 ⟨Nat.le_of_ble_eq_true rfl, Nat.le_of_ble_eq_true rfl⟩) hS (fun q _ h => (freeX hS) q h) (freeX hS) (fun u t H1 locs ht hvm hw hB hz1 hk1 hS => ?_)
              unfold BX at hB
              rw [ht] at hB
              obtain ⟨v5266, F5267, rc9⟩ := u
              obtain ⟨hI, hal9, hrc, hf5268, hw⟩ := hw
              dsimp only at hI hal9 hrc hB hf5268 hw
              rw [hrc] at hB
              have hal := hal9.trans hal
              have hP : va_P (dC, dI) classes (wX g c v5266 F5267 (g (44 + nr))) H1 := hB
              generalize H1 = H at hP hS ⊢
              refine lv_aload_n hx hb dX3_readSum_62 rfl (lv_at hl 2 rfl) ?_
              refine lv_iload_n hx hb dX3_readSum_63 rfl (lv_at hl 0 rfl) ?_
              refine lv_iconst (v := 0) hx hb dX3_readSum_64 (by decide) ?_
              refine va_calli (va_runV (As := [.int 5, .int 0]) (rest := []) ⟨hx, hb, hml, hown, hwd⟩ (c_X3_put l dC dI g c adK adV v5266 F5267 nr H.size 5 0 hg hnr hI (by have : (5 : Int32).toInt = 5 := (by decide); omega) (by have : (0 : Int32).toInt = 0 := (by decide); omega)) (cwV 2 hwd (gV wk_882 wk_879 wk_880 wk_881 wk_38) rfl rfl rfl (by decide +kernel) ⟨Nat.le_of_ble_eq_true rfl, Nat.le_of_ble_eq_true rfl⟩) ⟨PX.blind, va_recv hK hP (ci := 3) (q0 := 7) rfl rfl, fun U hU hW => ⟨rfl, PX.at hK hE hP hS hU hW⟩⟩ rfl rfl hl.1 rfl (lv_room (Nat.le_of_ble_eq_true rfl)) dX3_readSum_65 ⟨Nat.le_of_ble_eq_true rfl, Nat.le_of_ble_eq_true rfl⟩) hS (fun q _ h => (freeX hS) q h) (freeX hS) (fun r5269 u t H1 locs ht hvm hw hB hz1 hk1 hS => ?_)
              unfold BX at hB
              rw [ht] at hB
              obtain ⟨v5270, F5271, rc9⟩ := u
              obtain ⟨hI, hal9, hrc, hf5272, hw⟩ := hw
              dsimp only at hI hal9 hrc hB hf5272 hw
              rw [hrc] at hB
              have hal := hal9.trans hal
              have hP : va_P (dC, dI) classes (wX g c v5270 F5271 (g (44 + nr))) H1 := hB
              have hw : -1 ≤ r5269.toInt ∧ r5269.toInt ≤ 119 := hw
              have k5273 : (5 : Int32).toInt = 5 := by decide
              have k5274 : (0 : Int32).toInt = 0 := by decide
              generalize H1 = H at hP hS ⊢
              have hw_r5269 := hw
              refine lv_pop hx hb dX3_readSum_68 rfl ?_
              obtain ⟨z5275, e5276⟩ : ∃ y : Int32, y = x2_lp5193 + 1 := ⟨_, rfl⟩
              try (have t5277 := tadd e5276 rfl (b := 1) (by decide) (by omega))
              refine lv_iinc (v := z5275) (lv' := [(2, .int z5275), (3, .int 5), (0, .ref (g 7)), (1, .int 4)]) hx hb dX3_readSum_69 hl (k := 1) rfl (by rw [e5276]; rfl) (by decide) rfl (fun ls hl => ?_)
              refine lv_goto (tgt := 7) hx hb dX3_readSum_72 (by decide) ?_
              exact ih_lp5193 z5275 v5270 F5271 _ _ _ (by omega) (by omega) (frC (by decide) hf5272 (frC (by decide) hf5268 (frU (by decide) hf_lp5193))) hI hal hP hS (lv_sub hl [0, 2, 3] rfl)
  obtain ⟨n9, hn9⟩ : ∃ n : Nat, 2147483648 - 0 ≤ (n : Int) := ⟨((2147483648 - 0 : Int)).toNat, by omega⟩
  exact lp5193 n9 0 v5190 F5191 H _ ls (by have : (0 : Int32).toInt = 0 := (by decide); omega) (by have : (0 : Int32).toInt = 0 := (by decide); omega) (fun _ _ => rfl) hI hal hP hS hl
set_option maxHeartbeats 8000000 in
set_option maxRecDepth 100000 in
theorem c_X3_readComparison_4 (l : Launch) (dC : Nat → ClassId) (dI : Nat → Nat → Nat) (g : Nat → Nat) (c : Nat → ClassId) (adK adV : Nat → Nat) (v : Nat → Int32) (F : Nat → Nat → Int32) (nr sz : Nat) (hg : injX g) (hnr : nr < 10) (hI : IX v F) : Met l yX3_readComparison (Cond.code yX3_readComparison cX3_readComparison 3 none :: wA) ({ frames := 29, cells := 0, slots := 0, locals := 1160 }) (va_Pc [.ref (g 7), .int 4] (PX dC dI g c adK adV v F (g (44 + nr)) sz)) (va_Qv (fun (u : StX) => IX u.1 u.2.1 ∧ alX u.1 u.2.1 = alX v F ∧ u.2.2 = (g (44 + nr)) ∧ (∀ k, k ∉ ([142, 143, 144] : List Nat) → u.1 k = v k) ∧ True) (BX dC dI g c) (AX g sz)) 0 0 (AX g sz) := by
  refine Met.ofW (cc := cX3_readComparison) (maxL := 3) (ret := none) (by decide) rfl ?_
  intro p e s m args below meth c0 s₁ B hml hv
  obtain ⟨rfl, hsz, hP, hK, hE⟩ := hv
  have hx := B.exec
  have hb := B.bytes
  have hr := B.returns
  have hts := atoms_spec (ws := Cond.code yX3_readComparison cX3_readComparison 3 none :: wA) B.pre
  have hwd : ∀ w ∈ wA, w.before _ s = true := fun w h => hts w (List.mem_cons_of_mem _ h)
  have hown : s.vm.findClass RX3 = some m.cls := findClass_of_methodNamed B.named
  have hlocks := B.notSynchronized
  subst hsz
  have hl := lv_entry ([.ref (g 7), .int 4]) (n := 3) (Nat.le_of_ble_eq_true rfl)
  rw [lg_entry_eq]
  generalize (lg_sl ([.ref (g 7), .int 4]) ++ List.replicate (3 - (lg_sl ([.ref (g 7), .int 4])).length) Slot.unset).toArray = ls at hl ⊢
  have hl : lv_has ls 3 [(0, .ref (g 7)), (1, .int 4)] := hl
  obtain ⟨H, eH⟩ : ∃ z, z = s.heap := ⟨_, rfl⟩
  have hP : va_P (dC, dI) classes (wX g c v F (g (44 + nr))) H := by rw [eH]; exact hP
  have hS : va_S (AX g s.heap.size) s.heap H [] := by rw [eH]; exact va_S.rf
  refine my_heap eH ?_
  have hal : alX v F = alX v F := rfl
  refine lv_aload_n hx hb dX3_readComparison_0 rfl (lv_at hl 0 rfl) ?_
  refine lv_iload_n hx hb dX3_readComparison_1 rfl (lv_at hl 1 rfl) ?_
  refine va_callv (va_runV (As := [.int 4]) (rest := []) ⟨hx, hb, hml, hown, hwd⟩ (c_X3_readSum_4 l dC dI g c adK adV v F nr H.size  hg hnr hI ) (cwV 1 hwd (gV wk_990 wk_892 wk_893 wk_894 wk_38) rfl rfl rfl (by decide +kernel) ⟨Nat.le_of_ble_eq_true rfl, Nat.le_of_ble_eq_true rfl⟩) ⟨PX.blind, va_recv hK hP (ci := 3) (q0 := 7) rfl rfl, fun U hU hW => ⟨rfl, PX.at hK hE hP hS hU hW⟩⟩ rfl rfl hl.1 rfl (lv_room (Nat.le_of_ble_eq_true rfl)) dX3_readComparison_2 ⟨Nat.le_of_ble_eq_true rfl, Nat.le_of_ble_eq_true rfl⟩) hS (fun q _ h => (freeX hS) q h) (freeX hS) (fun u t H1 locs ht hvm hw hB hz1 hk1 hS => ?_)
  unfold BX at hB
  rw [ht] at hB
  obtain ⟨v5279, F5280, rc9⟩ := u
  obtain ⟨hI, hal9, hrc, hf5281, hw⟩ := hw
  dsimp only at hI hal9 hrc hB hf5281 hw
  rw [hrc] at hB
  have hal := hal9.trans hal
  have hP : va_P (dC, dI) classes (wX g c v5279 F5280 (g (44 + nr))) H1 := hB
  generalize H1 = H at hP hS ⊢
  refine lv_aload_n hx hb dX3_readComparison_5 rfl (lv_at hl 0 rfl) ?_
  refine va_calli (va_runV (As := []) (rest := []) ⟨hx, hb, hml, hown, hwd⟩ (c_X3_next l dC dI g c adK adV v5279 F5280 nr H.size  hg hnr hI ) (cwV 0 hwd (gV wk_866 wk_863 wk_864 wk_865 wk_38) rfl rfl rfl (by decide +kernel) ⟨Nat.le_of_ble_eq_true rfl, Nat.le_of_ble_eq_true rfl⟩) ⟨PX.blind, va_recv hK hP (ci := 3) (q0 := 7) rfl rfl, fun U hU hW => ⟨rfl, PX.at hK hE hP hS hU hW⟩⟩ rfl rfl hl.1 rfl (lv_room (Nat.le_of_ble_eq_true rfl)) dX3_readComparison_6 ⟨Nat.le_of_ble_eq_true rfl, Nat.le_of_ble_eq_true rfl⟩) hS (fun q _ h => (freeX hS) q h) (freeX hS) (fun r5282 u t H1 locs ht hvm hw hB hz1 hk1 hS => ?_)
  unfold BX at hB
  rw [ht] at hB
  have hP : va_P (dC, dI) classes (wX g c v5279 F5280 (g (44 + nr))) H1 := hB
  generalize H1 = H at hP hS ⊢
  have rr_r5282 := i32_rng r5282
  refine lv_istore_n (lv' := [(2, .int r5282), (0, .ref (g 7)), (1, .int 4)]) hx hb dX3_readComparison_9 rfl hl (by decide) rfl (fun ls hl => ?_)
  refine lv_iload_n hx hb dX3_readComparison_10 rfl (lv_at hl 0 rfl) ?_
  refine lv_bipush (v := 60) hx hb dX3_readComparison_11 (by decide) ?_
  refine lv_icmp_eq (tgt := 28) hx hb dX3_readComparison_13 (by decide) (fun c5283 => ?_) (fun c5283 => ?_)
  · skip
    have t5284 := cv_eq (a := r5282.toInt) rfl (b := 60) (by decide) c5283
    refine lv_aload_n hx hb dX3_readComparison_28 rfl (lv_at hl 1 rfl) ?_
    refine lv_dup hx hb dX3_readComparison_29 rfl ?_
    refine va_get (D := (dC, dI)) (ci := 3) (v := .int (v5279 143)) (C := RX3) (T := TX3) (N := 5) hx hb hwd inA_X3 hown hK hP 7 rfl rfl 3 (by decide) (hwd _ wk_853) (fun _ h9 => h9) rfl dX3_readComparison_30 ?_
    refine lv_iconst (v := 1) hx hb dX3_readComparison_33 (by decide) ?_
    refine lv_iadd hx hb dX3_readComparison_34 ?_
    refine lv_topi (fun z5285 e5286 => ?_)
    try (have t5287 := tadd e5286 (a := (v5279 143).toInt) rfl (b := 1) (by decide) (by omega))
    refine va_put (D := (dC, dI)) (ci := 3) (v := .int z5285) (ty := .int) (C := RX3) (T := TX3) (N := 5) (fs := fsX_7 g v5279 (g (44 + nr))) hx hb hwd inA_X3 tyX3 tyX3_ok nmX3 hown hK hP (DX hg) hS 7 rfl rfl 3 (by decide) (hwd _ wk_853) (fun _ h9 => h9) rfl (by decide +kernel) rfl rfl (Nat.le_of_ble_eq_true rfl) dX3_readComparison_35 (fun H locs hP _ hS => ?_)
    have hP := va_P_eq (pX_143 g c _ _ _ _) hP
    have hI := IX.put0 hI 143 z5285 rfl
    have hal := (alX_v _ _ 143 z5285 (by decide) (by decide) (by decide) (by decide)).trans hal
    refine lv_aload_n hx hb dX3_readComparison_38 rfl (lv_at hl 1 rfl) ?_
    refine lv_iload_n hx hb dX3_readComparison_39 rfl (lv_at hl 2 rfl) ?_
    refine va_callv (va_runV (As := [.int 4]) (rest := []) ⟨hx, hb, hml, hown, hwd⟩ (c_X3_readSum_4 l dC dI g c adK adV (va_up v5279 143 z5285) F5280 nr H.size  hg hnr hI ) (cwV 1 hwd (gV wk_990 wk_892 wk_893 wk_894 wk_38) rfl rfl rfl (by decide +kernel) ⟨Nat.le_of_ble_eq_true rfl, Nat.le_of_ble_eq_true rfl⟩) ⟨PX.blind, va_recv hK hP (ci := 3) (q0 := 7) rfl rfl, fun U hU hW => ⟨rfl, PX.at hK hE hP hS hU hW⟩⟩ rfl rfl hl.1 rfl (lv_room (Nat.le_of_ble_eq_true rfl)) dX3_readComparison_40 ⟨Nat.le_of_ble_eq_true rfl, Nat.le_of_ble_eq_true rfl⟩) hS (fun q _ h => (freeX hS) q h) (freeX hS) (fun u t H1 locs ht hvm hw hB hz1 hk1 hS => ?_)
    unfold BX at hB
    rw [ht] at hB
    obtain ⟨v5289, F5290, rc9⟩ := u
    obtain ⟨hI, hal9, hrc, hf5291, hw⟩ := hw
    dsimp only at hI hal9 hrc hB hf5291 hw
    rw [hrc] at hB
    have hal := hal9.trans hal
    have hP : va_P (dC, dI) classes (wX g c v5289 F5290 (g (44 + nr))) H1 := hB
    generalize H1 = H at hP hS ⊢
    refine lv_aload_n hx hb dX3_readComparison_43 rfl (lv_at hl 1 rfl) ?_
    refine lv_iload_n hx hb dX3_readComparison_44 rfl (lv_at hl 0 rfl) ?_
    refine lv_bipush (v := 60) hx hb dX3_readComparison_45 (by decide) ?_
    refine lv_icmp_ne (tgt := 55) hx hb dX3_readComparison_47 (by decide) (fun c5292 => ?_) (fun c5292 => ?_)
    · skip
      have t5293 := cv_ne (a := r5282.toInt) rfl (b := 60) (by decide) c5292
      refine lv_iload_n hx hb dX3_readComparison_55 rfl (lv_at hl 0 rfl) ?_
      refine lv_bipush (v := 61) hx hb dX3_readComparison_56 (by decide) ?_
      refine lv_icmp_ne (tgt := 66) hx hb dX3_readComparison_58 (by decide) (fun c5294 => ?_) (fun c5294 => ?_)
      · skip
        have t5295 := cv_ne (a := r5282.toInt) rfl (b := 61) (by decide) c5294
        refine lv_bipush (v := 11) hx hb dX3_readComparison_66 (by decide) ?_
        refine lv_iconst (v := 0) hx hb dX3_readComparison_68 (by decide) ?_
        refine va_calli (va_runV (As := [.int 11, .int 0]) (rest := []) ⟨hx, hb, hml, hown, hwd⟩ (c_X3_put l dC dI g c adK adV v5289 F5290 nr H.size 11 0 hg hnr hI (by have : (11 : Int32).toInt = 11 := (by decide); omega) (by have : (0 : Int32).toInt = 0 := (by decide); omega)) (cwV 2 hwd (gV wk_882 wk_879 wk_880 wk_881 wk_38) rfl rfl rfl (by decide +kernel) ⟨Nat.le_of_ble_eq_true rfl, Nat.le_of_ble_eq_true rfl⟩) ⟨PX.blind, va_recv hK hP (ci := 3) (q0 := 7) rfl rfl, fun U hU hW => ⟨rfl, PX.at hK hE hP hS hU hW⟩⟩ rfl rfl hl.1 rfl (lv_room (Nat.le_of_ble_eq_true rfl)) dX3_readComparison_69 ⟨Nat.le_of_ble_eq_true rfl, Nat.le_of_ble_eq_true rfl⟩) hS (fun q _ h => (freeX hS) q h) (freeX hS) (fun r5296 u t H1 locs ht hvm hw hB hz1 hk1 hS => ?_)
        unfold BX at hB
        rw [ht] at hB
        obtain ⟨v5297, F5298, rc9⟩ := u
        obtain ⟨hI, hal9, hrc, hf5299, hw⟩ := hw
        dsimp only at hI hal9 hrc hB hf5299 hw
        rw [hrc] at hB
        have hal := hal9.trans hal
        have hP : va_P (dC, dI) classes (wX g c v5297 F5298 (g (44 + nr))) H1 := hB
        have hw : -1 ≤ r5296.toInt ∧ r5296.toInt ≤ 119 := hw
        have k5300 : (11 : Int32).toInt = 11 := by decide
        have k5301 : (0 : Int32).toInt = 0 := by decide
        generalize H1 = H at hP hS ⊢
        have hw_r5296 := hw
        refine lv_pop hx hb dX3_readComparison_72 rfl ?_
        have hP9 : va_P (dC, dI) classes (wX g c v5297 F5298 (g (44 + nr))) H := hP
        exact W.vret hx hb hr (fun t ht hW => ⟨⟨(v5297, F5298, (g (44 + nr))), rfl, ⟨hI, hal, rfl, (frC (by decide) hf5299 (frC (by decide) hf5291 (frU (by decide) (frC (by decide) hf5281 (fun _ _ => rfl))))), trivial⟩, (by show va_P _ _ _ t.heap; rw [ht]; exact hP9)⟩, hS.F ht⟩) hS.2.2 dX3_readComparison_73
      · skip
        have t5302 := cv_eq (a := r5282.toInt) rfl (b := 61) (by decide) c5294
        refine lv_bipush (v := 10) hx hb dX3_readComparison_61 (by decide) ?_
        refine lv_goto (tgt := 68) hx hb dX3_readComparison_63 (by decide) ?_
        refine lv_iconst (v := 0) hx hb dX3_readComparison_68 (by decide) ?_
        refine va_calli (va_runV (As := [.int 10, .int 0]) (rest := []) ⟨hx, hb, hml, hown, hwd⟩ (c_X3_put l dC dI g c adK adV v5289 F5290 nr H.size 10 0 hg hnr hI (by have : (10 : Int32).toInt = 10 := (by decide); omega) (by have : (0 : Int32).toInt = 0 := (by decide); omega)) (cwV 2 hwd (gV wk_882 wk_879 wk_880 wk_881 wk_38) rfl rfl rfl (by decide +kernel) ⟨Nat.le_of_ble_eq_true rfl, Nat.le_of_ble_eq_true rfl⟩) ⟨PX.blind, va_recv hK hP (ci := 3) (q0 := 7) rfl rfl, fun U hU hW => ⟨rfl, PX.at hK hE hP hS hU hW⟩⟩ rfl rfl hl.1 rfl (lv_room (Nat.le_of_ble_eq_true rfl)) dX3_readComparison_69 ⟨Nat.le_of_ble_eq_true rfl, Nat.le_of_ble_eq_true rfl⟩) hS (fun q _ h => (freeX hS) q h) (freeX hS) (fun r5303 u t H1 locs ht hvm hw hB hz1 hk1 hS => ?_)
        unfold BX at hB
        rw [ht] at hB
        obtain ⟨v5304, F5305, rc9⟩ := u
        obtain ⟨hI, hal9, hrc, hf5306, hw⟩ := hw
        dsimp only at hI hal9 hrc hB hf5306 hw
        rw [hrc] at hB
        have hal := hal9.trans hal
        have hP : va_P (dC, dI) classes (wX g c v5304 F5305 (g (44 + nr))) H1 := hB
        have hw : -1 ≤ r5303.toInt ∧ r5303.toInt ≤ 119 := hw
        have k5307 : (10 : Int32).toInt = 10 := by decide
        have k5308 : (0 : Int32).toInt = 0 := by decide
        generalize H1 = H at hP hS ⊢
        have hw_r5303 := hw
        refine lv_pop hx hb dX3_readComparison_72 rfl ?_
        have hP9 : va_P (dC, dI) classes (wX g c v5304 F5305 (g (44 + nr))) H := hP
        exact W.vret hx hb hr (fun t ht hW => ⟨⟨(v5304, F5305, (g (44 + nr))), rfl, ⟨hI, hal, rfl, (frC (by decide) hf5306 (frC (by decide) hf5291 (frU (by decide) (frC (by decide) hf5281 (fun _ _ => rfl))))), trivial⟩, (by show va_P _ _ _ t.heap; rw [ht]; exact hP9)⟩, hS.F ht⟩) hS.2.2 dX3_readComparison_73
    · skip
      have t5309 := cv_eq (a := r5282.toInt) rfl (b := 60) (by decide) c5292
      refine lv_bipush (v := 9) hx hb dX3_readComparison_50 (by decide) ?_
      refine lv_goto (tgt := 68) hx hb dX3_readComparison_52 (by decide) ?_
      refine lv_iconst (v := 0) hx hb dX3_readComparison_68 (by decide) ?_
      refine va_calli (va_runV (As := [.int 9, .int 0]) (rest := []) ⟨hx, hb, hml, hown, hwd⟩ (c_X3_put l dC dI g c adK adV v5289 F5290 nr H.size 9 0 hg hnr hI (by have : (9 : Int32).toInt = 9 := (by decide); omega) (by have : (0 : Int32).toInt = 0 := (by decide); omega)) (cwV 2 hwd (gV wk_882 wk_879 wk_880 wk_881 wk_38) rfl rfl rfl (by decide +kernel) ⟨Nat.le_of_ble_eq_true rfl, Nat.le_of_ble_eq_true rfl⟩) ⟨PX.blind, va_recv hK hP (ci := 3) (q0 := 7) rfl rfl, fun U hU hW => ⟨rfl, PX.at hK hE hP hS hU hW⟩⟩ rfl rfl hl.1 rfl (lv_room (Nat.le_of_ble_eq_true rfl)) dX3_readComparison_69 ⟨Nat.le_of_ble_eq_true rfl, Nat.le_of_ble_eq_true rfl⟩) hS (fun q _ h => (freeX hS) q h) (freeX hS) (fun r5310 u t H1 locs ht hvm hw hB hz1 hk1 hS => ?_)
      unfold BX at hB
      rw [ht] at hB
      obtain ⟨v5311, F5312, rc9⟩ := u
      obtain ⟨hI, hal9, hrc, hf5313, hw⟩ := hw
      dsimp only at hI hal9 hrc hB hf5313 hw
      rw [hrc] at hB
      have hal := hal9.trans hal
      have hP : va_P (dC, dI) classes (wX g c v5311 F5312 (g (44 + nr))) H1 := hB
      have hw : -1 ≤ r5310.toInt ∧ r5310.toInt ≤ 119 := hw
      have k5314 : (9 : Int32).toInt = 9 := by decide
      have k5315 : (0 : Int32).toInt = 0 := by decide
      generalize H1 = H at hP hS ⊢
      have hw_r5310 := hw
      refine lv_pop hx hb dX3_readComparison_72 rfl ?_
      have hP9 : va_P (dC, dI) classes (wX g c v5311 F5312 (g (44 + nr))) H := hP
      exact W.vret hx hb hr (fun t ht hW => ⟨⟨(v5311, F5312, (g (44 + nr))), rfl, ⟨hI, hal, rfl, (frC (by decide) hf5313 (frC (by decide) hf5291 (frU (by decide) (frC (by decide) hf5281 (fun _ _ => rfl))))), trivial⟩, (by show va_P _ _ _ t.heap; rw [ht]; exact hP9)⟩, hS.F ht⟩) hS.2.2 dX3_readComparison_73
  · skip
    have t5316 := cv_ne (a := r5282.toInt) rfl (b := 60) (by decide) c5283
    refine lv_iload_n hx hb dX3_readComparison_16 rfl (lv_at hl 0 rfl) ?_
    refine lv_bipush (v := 61) hx hb dX3_readComparison_17 (by decide) ?_
    refine lv_icmp_eq (tgt := 28) hx hb dX3_readComparison_19 (by decide) (fun c5317 => ?_) (fun c5317 => ?_)
    · skip
      have t5318 := cv_eq (a := r5282.toInt) rfl (b := 61) (by decide) c5317
      refine lv_aload_n hx hb dX3_readComparison_28 rfl (lv_at hl 1 rfl) ?_
      refine lv_dup hx hb dX3_readComparison_29 rfl ?_
      refine va_get (D := (dC, dI)) (ci := 3) (v := .int (v5279 143)) (C := RX3) (T := TX3) (N := 5) hx hb hwd inA_X3 hown hK hP 7 rfl rfl 3 (by decide) (hwd _ wk_853) (fun _ h9 => h9) rfl dX3_readComparison_30 ?_
      refine lv_iconst (v := 1) hx hb dX3_readComparison_33 (by decide) ?_
      refine lv_iadd hx hb dX3_readComparison_34 ?_
      refine lv_topi (fun z5319 e5320 => ?_)
      try (have t5321 := tadd e5320 (a := (v5279 143).toInt) rfl (b := 1) (by decide) (by omega))
      refine va_put (D := (dC, dI)) (ci := 3) (v := .int z5319) (ty := .int) (C := RX3) (T := TX3) (N := 5) (fs := fsX_7 g v5279 (g (44 + nr))) hx hb hwd inA_X3 tyX3 tyX3_ok nmX3 hown hK hP (DX hg) hS 7 rfl rfl 3 (by decide) (hwd _ wk_853) (fun _ h9 => h9) rfl (by decide +kernel) rfl rfl (Nat.le_of_ble_eq_true rfl) dX3_readComparison_35 (fun H locs hP _ hS => ?_)
      have hP := va_P_eq (pX_143 g c _ _ _ _) hP
      have hI := IX.put0 hI 143 z5319 rfl
      have hal := (alX_v _ _ 143 z5319 (by decide) (by decide) (by decide) (by decide)).trans hal
      refine lv_aload_n hx hb dX3_readComparison_38 rfl (lv_at hl 1 rfl) ?_
      refine lv_iload_n hx hb dX3_readComparison_39 rfl (lv_at hl 2 rfl) ?_
      refine va_callv (va_runV (As := [.int 4]) (rest := []) ⟨hx, hb, hml, hown, hwd⟩ (c_X3_readSum_4 l dC dI g c adK adV (va_up v5279 143 z5319) F5280 nr H.size  hg hnr hI ) (cwV 1 hwd (gV wk_990 wk_892 wk_893 wk_894 wk_38) rfl rfl rfl (by decide +kernel) ⟨Nat.le_of_ble_eq_true rfl, Nat.le_of_ble_eq_true rfl⟩) ⟨PX.blind, va_recv hK hP (ci := 3) (q0 := 7) rfl rfl, fun U hU hW => ⟨rfl, PX.at hK hE hP hS hU hW⟩⟩ rfl rfl hl.1 rfl (lv_room (Nat.le_of_ble_eq_true rfl)) dX3_readComparison_40 ⟨Nat.le_of_ble_eq_true rfl, Nat.le_of_ble_eq_true rfl⟩) hS (fun q _ h => (freeX hS) q h) (freeX hS) (fun u t H1 locs ht hvm hw hB hz1 hk1 hS => ?_)
      unfold BX at hB
      rw [ht] at hB
      obtain ⟨v5323, F5324, rc9⟩ := u
      obtain ⟨hI, hal9, hrc, hf5325, hw⟩ := hw
      dsimp only at hI hal9 hrc hB hf5325 hw
      rw [hrc] at hB
      have hal := hal9.trans hal
      have hP : va_P (dC, dI) classes (wX g c v5323 F5324 (g (44 + nr))) H1 := hB
      generalize H1 = H at hP hS ⊢
      refine lv_aload_n hx hb dX3_readComparison_43 rfl (lv_at hl 1 rfl) ?_
      refine lv_iload_n hx hb dX3_readComparison_44 rfl (lv_at hl 0 rfl) ?_
      refine lv_bipush (v := 60) hx hb dX3_readComparison_45 (by decide) ?_
      refine lv_icmp_ne (tgt := 55) hx hb dX3_readComparison_47 (by decide) (fun c5326 => ?_) (fun c5326 => ?_)
      · skip
        have t5327 := cv_ne (a := r5282.toInt) rfl (b := 60) (by decide) c5326
        refine lv_iload_n hx hb dX3_readComparison_55 rfl (lv_at hl 0 rfl) ?_
        refine lv_bipush (v := 61) hx hb dX3_readComparison_56 (by decide) ?_
        refine lv_icmp_ne (tgt := 66) hx hb dX3_readComparison_58 (by decide) (fun c5328 => ?_) (fun c5328 => ?_)
        · skip
          have t5329 := cv_ne (a := r5282.toInt) rfl (b := 61) (by decide) c5328
          refine lv_bipush (v := 11) hx hb dX3_readComparison_66 (by decide) ?_
          refine lv_iconst (v := 0) hx hb dX3_readComparison_68 (by decide) ?_
          refine va_calli (va_runV (As := [.int 11, .int 0]) (rest := []) ⟨hx, hb, hml, hown, hwd⟩ (c_X3_put l dC dI g c adK adV v5323 F5324 nr H.size 11 0 hg hnr hI (by have : (11 : Int32).toInt = 11 := (by decide); omega) (by have : (0 : Int32).toInt = 0 := (by decide); omega)) (cwV 2 hwd (gV wk_882 wk_879 wk_880 wk_881 wk_38) rfl rfl rfl (by decide +kernel) ⟨Nat.le_of_ble_eq_true rfl, Nat.le_of_ble_eq_true rfl⟩) ⟨PX.blind, va_recv hK hP (ci := 3) (q0 := 7) rfl rfl, fun U hU hW => ⟨rfl, PX.at hK hE hP hS hU hW⟩⟩ rfl rfl hl.1 rfl (lv_room (Nat.le_of_ble_eq_true rfl)) dX3_readComparison_69 ⟨Nat.le_of_ble_eq_true rfl, Nat.le_of_ble_eq_true rfl⟩) hS (fun q _ h => (freeX hS) q h) (freeX hS) (fun r5330 u t H1 locs ht hvm hw hB hz1 hk1 hS => ?_)
          unfold BX at hB
          rw [ht] at hB
          obtain ⟨v5331, F5332, rc9⟩ := u
          obtain ⟨hI, hal9, hrc, hf5333, hw⟩ := hw
          dsimp only at hI hal9 hrc hB hf5333 hw
          rw [hrc] at hB
          have hal := hal9.trans hal
          have hP : va_P (dC, dI) classes (wX g c v5331 F5332 (g (44 + nr))) H1 := hB
          have hw : -1 ≤ r5330.toInt ∧ r5330.toInt ≤ 119 := hw
          have k5334 : (11 : Int32).toInt = 11 := by decide
          have k5335 : (0 : Int32).toInt = 0 := by decide
          generalize H1 = H at hP hS ⊢
          have hw_r5330 := hw
          refine lv_pop hx hb dX3_readComparison_72 rfl ?_
          have hP9 : va_P (dC, dI) classes (wX g c v5331 F5332 (g (44 + nr))) H := hP
          exact W.vret hx hb hr (fun t ht hW => ⟨⟨(v5331, F5332, (g (44 + nr))), rfl, ⟨hI, hal, rfl, (frC (by decide) hf5333 (frC (by decide) hf5325 (frU (by decide) (frC (by decide) hf5281 (fun _ _ => rfl))))), trivial⟩, (by show va_P _ _ _ t.heap; rw [ht]; exact hP9)⟩, hS.F ht⟩) hS.2.2 dX3_readComparison_73
        · skip
          have t5336 := cv_eq (a := r5282.toInt) rfl (b := 61) (by decide) c5328
          refine lv_bipush (v := 10) hx hb dX3_readComparison_61 (by decide) ?_
          refine lv_goto (tgt := 68) hx hb dX3_readComparison_63 (by decide) ?_
          refine lv_iconst (v := 0) hx hb dX3_readComparison_68 (by decide) ?_
          refine va_calli (va_runV (As := [.int 10, .int 0]) (rest := []) ⟨hx, hb, hml, hown, hwd⟩ (c_X3_put l dC dI g c adK adV v5323 F5324 nr H.size 10 0 hg hnr hI (by have : (10 : Int32).toInt = 10 := (by decide); omega) (by have : (0 : Int32).toInt = 0 := (by decide); omega)) (cwV 2 hwd (gV wk_882 wk_879 wk_880 wk_881 wk_38) rfl rfl rfl (by decide +kernel) ⟨Nat.le_of_ble_eq_true rfl, Nat.le_of_ble_eq_true rfl⟩) ⟨PX.blind, va_recv hK hP (ci := 3) (q0 := 7) rfl rfl, fun U hU hW => ⟨rfl, PX.at hK hE hP hS hU hW⟩⟩ rfl rfl hl.1 rfl (lv_room (Nat.le_of_ble_eq_true rfl)) dX3_readComparison_69 ⟨Nat.le_of_ble_eq_true rfl, Nat.le_of_ble_eq_true rfl⟩) hS (fun q _ h => (freeX hS) q h) (freeX hS) (fun r5337 u t H1 locs ht hvm hw hB hz1 hk1 hS => ?_)
          unfold BX at hB
          rw [ht] at hB
          obtain ⟨v5338, F5339, rc9⟩ := u
          obtain ⟨hI, hal9, hrc, hf5340, hw⟩ := hw
          dsimp only at hI hal9 hrc hB hf5340 hw
          rw [hrc] at hB
          have hal := hal9.trans hal
          have hP : va_P (dC, dI) classes (wX g c v5338 F5339 (g (44 + nr))) H1 := hB
          have hw : -1 ≤ r5337.toInt ∧ r5337.toInt ≤ 119 := hw
          have k5341 : (10 : Int32).toInt = 10 := by decide
          have k5342 : (0 : Int32).toInt = 0 := by decide
          generalize H1 = H at hP hS ⊢
          have hw_r5337 := hw
          refine lv_pop hx hb dX3_readComparison_72 rfl ?_
          have hP9 : va_P (dC, dI) classes (wX g c v5338 F5339 (g (44 + nr))) H := hP
          exact W.vret hx hb hr (fun t ht hW => ⟨⟨(v5338, F5339, (g (44 + nr))), rfl, ⟨hI, hal, rfl, (frC (by decide) hf5340 (frC (by decide) hf5325 (frU (by decide) (frC (by decide) hf5281 (fun _ _ => rfl))))), trivial⟩, (by show va_P _ _ _ t.heap; rw [ht]; exact hP9)⟩, hS.F ht⟩) hS.2.2 dX3_readComparison_73
      · skip
        have t5343 := cv_eq (a := r5282.toInt) rfl (b := 60) (by decide) c5326
        refine lv_bipush (v := 9) hx hb dX3_readComparison_50 (by decide) ?_
        refine lv_goto (tgt := 68) hx hb dX3_readComparison_52 (by decide) ?_
        refine lv_iconst (v := 0) hx hb dX3_readComparison_68 (by decide) ?_
        refine va_calli (va_runV (As := [.int 9, .int 0]) (rest := []) ⟨hx, hb, hml, hown, hwd⟩ (c_X3_put l dC dI g c adK adV v5323 F5324 nr H.size 9 0 hg hnr hI (by have : (9 : Int32).toInt = 9 := (by decide); omega) (by have : (0 : Int32).toInt = 0 := (by decide); omega)) (cwV 2 hwd (gV wk_882 wk_879 wk_880 wk_881 wk_38) rfl rfl rfl (by decide +kernel) ⟨Nat.le_of_ble_eq_true rfl, Nat.le_of_ble_eq_true rfl⟩) ⟨PX.blind, va_recv hK hP (ci := 3) (q0 := 7) rfl rfl, fun U hU hW => ⟨rfl, PX.at hK hE hP hS hU hW⟩⟩ rfl rfl hl.1 rfl (lv_room (Nat.le_of_ble_eq_true rfl)) dX3_readComparison_69 ⟨Nat.le_of_ble_eq_true rfl, Nat.le_of_ble_eq_true rfl⟩) hS (fun q _ h => (freeX hS) q h) (freeX hS) (fun r5344 u t H1 locs ht hvm hw hB hz1 hk1 hS => ?_)
        unfold BX at hB
        rw [ht] at hB
        obtain ⟨v5345, F5346, rc9⟩ := u
        obtain ⟨hI, hal9, hrc, hf5347, hw⟩ := hw
        dsimp only at hI hal9 hrc hB hf5347 hw
        rw [hrc] at hB
        have hal := hal9.trans hal
        have hP : va_P (dC, dI) classes (wX g c v5345 F5346 (g (44 + nr))) H1 := hB
        have hw : -1 ≤ r5344.toInt ∧ r5344.toInt ≤ 119 := hw
        have k5348 : (9 : Int32).toInt = 9 := by decide
        have k5349 : (0 : Int32).toInt = 0 := by decide
        generalize H1 = H at hP hS ⊢
        have hw_r5344 := hw
        refine lv_pop hx hb dX3_readComparison_72 rfl ?_
        have hP9 : va_P (dC, dI) classes (wX g c v5345 F5346 (g (44 + nr))) H := hP
        exact W.vret hx hb hr (fun t ht hW => ⟨⟨(v5345, F5346, (g (44 + nr))), rfl, ⟨hI, hal, rfl, (frC (by decide) hf5347 (frC (by decide) hf5325 (frU (by decide) (frC (by decide) hf5281 (fun _ _ => rfl))))), trivial⟩, (by show va_P _ _ _ t.heap; rw [ht]; exact hP9)⟩, hS.F ht⟩) hS.2.2 dX3_readComparison_73
    · skip
      have t5350 := cv_ne (a := r5282.toInt) rfl (b := 61) (by decide) c5317
      refine lv_iload_n hx hb dX3_readComparison_22 rfl (lv_at hl 0 rfl) ?_
      refine lv_bipush (v := 62) hx hb dX3_readComparison_23 (by decide) ?_
      refine lv_icmp_ne (tgt := 73) hx hb dX3_readComparison_25 (by decide) (fun c5351 => ?_) (fun c5351 => ?_)
      · skip
        have t5352 := cv_ne (a := r5282.toInt) rfl (b := 62) (by decide) c5351
        have hP9 : va_P (dC, dI) classes (wX g c v5279 F5280 (g (44 + nr))) H := hP
        exact W.vret hx hb hr (fun t ht hW => ⟨⟨(v5279, F5280, (g (44 + nr))), rfl, ⟨hI, hal, rfl, (frC (by decide) hf5281 (fun _ _ => rfl)), trivial⟩, (by show va_P _ _ _ t.heap; rw [ht]; exact hP9)⟩, hS.F ht⟩) hS.2.2 dX3_readComparison_73
      · skip
        have t5353 := cv_eq (a := r5282.toInt) rfl (b := 62) (by decide) c5351
        refine lv_aload_n hx hb dX3_readComparison_28 rfl (lv_at hl 1 rfl) ?_
        refine lv_dup hx hb dX3_readComparison_29 rfl ?_
        refine va_get (D := (dC, dI)) (ci := 3) (v := .int (v5279 143)) (C := RX3) (T := TX3) (N := 5) hx hb hwd inA_X3 hown hK hP 7 rfl rfl 3 (by decide) (hwd _ wk_853) (fun _ h9 => h9) rfl dX3_readComparison_30 ?_
        refine lv_iconst (v := 1) hx hb dX3_readComparison_33 (by decide) ?_
        refine lv_iadd hx hb dX3_readComparison_34 ?_
        refine lv_topi (fun z5354 e5355 => ?_)
        try (have t5356 := tadd e5355 (a := (v5279 143).toInt) rfl (b := 1) (by decide) (by omega))
        refine va_put (D := (dC, dI)) (ci := 3) (v := .int z5354) (ty := .int) (C := RX3) (T := TX3) (N := 5) (fs := fsX_7 g v5279 (g (44 + nr))) hx hb hwd inA_X3 tyX3 tyX3_ok nmX3 hown hK hP (DX hg) hS 7 rfl rfl 3 (by decide) (hwd _ wk_853) (fun _ h9 => h9) rfl (by decide +kernel) rfl rfl (Nat.le_of_ble_eq_true rfl) dX3_readComparison_35 (fun H locs hP _ hS => ?_)
        have hP := va_P_eq (pX_143 g c _ _ _ _) hP
        have hI := IX.put0 hI 143 z5354 rfl
        have hal := (alX_v _ _ 143 z5354 (by decide) (by decide) (by decide) (by decide)).trans hal
        refine lv_aload_n hx hb dX3_readComparison_38 rfl (lv_at hl 1 rfl) ?_
        refine lv_iload_n hx hb dX3_readComparison_39 rfl (lv_at hl 2 rfl) ?_
        refine va_callv (va_runV (As := [.int 4]) (rest := []) ⟨hx, hb, hml, hown, hwd⟩ (c_X3_readSum_4 l dC dI g c adK adV (va_up v5279 143 z5354) F5280 nr H.size  hg hnr hI ) (cwV 1 hwd (gV wk_990 wk_892 wk_893 wk_894 wk_38) rfl rfl rfl (by decide +kernel) ⟨Nat.le_of_ble_eq_true rfl, Nat.le_of_ble_eq_true rfl⟩) ⟨PX.blind, va_recv hK hP (ci := 3) (q0 := 7) rfl rfl, fun U hU hW => ⟨rfl, PX.at hK hE hP hS hU hW⟩⟩ rfl rfl hl.1 rfl (lv_room (Nat.le_of_ble_eq_true rfl)) dX3_readComparison_40 ⟨Nat.le_of_ble_eq_true rfl, Nat.le_of_ble_eq_true rfl⟩) hS (fun q _ h => (freeX hS) q h) (freeX hS) (fun u t H1 locs ht hvm hw hB hz1 hk1 hS => ?_)
        unfold BX at hB
        rw [ht] at hB
        obtain ⟨v5358, F5359, rc9⟩ := u
        obtain ⟨hI, hal9, hrc, hf5360, hw⟩ := hw
        dsimp only at hI hal9 hrc hB hf5360 hw
        rw [hrc] at hB
        have hal := hal9.trans hal
        have hP : va_P (dC, dI) classes (wX g c v5358 F5359 (g (44 + nr))) H1 := hB
        generalize H1 = H at hP hS ⊢
        refine lv_aload_n hx hb dX3_readComparison_43 rfl (lv_at hl 1 rfl) ?_
        refine lv_iload_n hx hb dX3_readComparison_44 rfl (lv_at hl 0 rfl) ?_
        refine lv_bipush (v := 60) hx hb dX3_readComparison_45 (by decide) ?_
        refine lv_icmp_ne (tgt := 55) hx hb dX3_readComparison_47 (by decide) (fun c5361 => ?_) (fun c5361 => ?_)
        · skip
          have t5362 := cv_ne (a := r5282.toInt) rfl (b := 60) (by decide) c5361
          refine lv_iload_n hx hb dX3_readComparison_55 rfl (lv_at hl 0 rfl) ?_
          refine lv_bipush (v := 61) hx hb dX3_readComparison_56 (by decide) ?_
          refine lv_icmp_ne (tgt := 66) hx hb dX3_readComparison_58 (by decide) (fun c5363 => ?_) (fun c5363 => ?_)
          · skip
            have t5364 := cv_ne (a := r5282.toInt) rfl (b := 61) (by decide) c5363
            refine lv_bipush (v := 11) hx hb dX3_readComparison_66 (by decide) ?_
            refine lv_iconst (v := 0) hx hb dX3_readComparison_68 (by decide) ?_
            refine va_calli (va_runV (As := [.int 11, .int 0]) (rest := []) ⟨hx, hb, hml, hown, hwd⟩ (c_X3_put l dC dI g c adK adV v5358 F5359 nr H.size 11 0 hg hnr hI (by have : (11 : Int32).toInt = 11 := (by decide); omega) (by have : (0 : Int32).toInt = 0 := (by decide); omega)) (cwV 2 hwd (gV wk_882 wk_879 wk_880 wk_881 wk_38) rfl rfl rfl (by decide +kernel) ⟨Nat.le_of_ble_eq_true rfl, Nat.le_of_ble_eq_true rfl⟩) ⟨PX.blind, va_recv hK hP (ci := 3) (q0 := 7) rfl rfl, fun U hU hW => ⟨rfl, PX.at hK hE hP hS hU hW⟩⟩ rfl rfl hl.1 rfl (lv_room (Nat.le_of_ble_eq_true rfl)) dX3_readComparison_69 ⟨Nat.le_of_ble_eq_true rfl, Nat.le_of_ble_eq_true rfl⟩) hS (fun q _ h => (freeX hS) q h) (freeX hS) (fun r5365 u t H1 locs ht hvm hw hB hz1 hk1 hS => ?_)
            unfold BX at hB
            rw [ht] at hB
            obtain ⟨v5366, F5367, rc9⟩ := u
            obtain ⟨hI, hal9, hrc, hf5368, hw⟩ := hw
            dsimp only at hI hal9 hrc hB hf5368 hw
            rw [hrc] at hB
            have hal := hal9.trans hal
            have hP : va_P (dC, dI) classes (wX g c v5366 F5367 (g (44 + nr))) H1 := hB
            have hw : -1 ≤ r5365.toInt ∧ r5365.toInt ≤ 119 := hw
            have k5369 : (11 : Int32).toInt = 11 := by decide
            have k5370 : (0 : Int32).toInt = 0 := by decide
            generalize H1 = H at hP hS ⊢
            have hw_r5365 := hw
            refine lv_pop hx hb dX3_readComparison_72 rfl ?_
            have hP9 : va_P (dC, dI) classes (wX g c v5366 F5367 (g (44 + nr))) H := hP
            exact W.vret hx hb hr (fun t ht hW => ⟨⟨(v5366, F5367, (g (44 + nr))), rfl, ⟨hI, hal, rfl, (frC (by decide) hf5368 (frC (by decide) hf5360 (frU (by decide) (frC (by decide) hf5281 (fun _ _ => rfl))))), trivial⟩, (by show va_P _ _ _ t.heap; rw [ht]; exact hP9)⟩, hS.F ht⟩) hS.2.2 dX3_readComparison_73
          · skip
            have t5371 := cv_eq (a := r5282.toInt) rfl (b := 61) (by decide) c5363
            refine lv_bipush (v := 10) hx hb dX3_readComparison_61 (by decide) ?_
            refine lv_goto (tgt := 68) hx hb dX3_readComparison_63 (by decide) ?_
            refine lv_iconst (v := 0) hx hb dX3_readComparison_68 (by decide) ?_
            refine va_calli (va_runV (As := [.int 10, .int 0]) (rest := []) ⟨hx, hb, hml, hown, hwd⟩ (c_X3_put l dC dI g c adK adV v5358 F5359 nr H.size 10 0 hg hnr hI (by have : (10 : Int32).toInt = 10 := (by decide); omega) (by have : (0 : Int32).toInt = 0 := (by decide); omega)) (cwV 2 hwd (gV wk_882 wk_879 wk_880 wk_881 wk_38) rfl rfl rfl (by decide +kernel) ⟨Nat.le_of_ble_eq_true rfl, Nat.le_of_ble_eq_true rfl⟩) ⟨PX.blind, va_recv hK hP (ci := 3) (q0 := 7) rfl rfl, fun U hU hW => ⟨rfl, PX.at hK hE hP hS hU hW⟩⟩ rfl rfl hl.1 rfl (lv_room (Nat.le_of_ble_eq_true rfl)) dX3_readComparison_69 ⟨Nat.le_of_ble_eq_true rfl, Nat.le_of_ble_eq_true rfl⟩) hS (fun q _ h => (freeX hS) q h) (freeX hS) (fun r5372 u t H1 locs ht hvm hw hB hz1 hk1 hS => ?_)
            unfold BX at hB
            rw [ht] at hB
            obtain ⟨v5373, F5374, rc9⟩ := u
            obtain ⟨hI, hal9, hrc, hf5375, hw⟩ := hw
            dsimp only at hI hal9 hrc hB hf5375 hw
            rw [hrc] at hB
            have hal := hal9.trans hal
            have hP : va_P (dC, dI) classes (wX g c v5373 F5374 (g (44 + nr))) H1 := hB
            have hw : -1 ≤ r5372.toInt ∧ r5372.toInt ≤ 119 := hw
            have k5376 : (10 : Int32).toInt = 10 := by decide
            have k5377 : (0 : Int32).toInt = 0 := by decide
            generalize H1 = H at hP hS ⊢
            have hw_r5372 := hw
            refine lv_pop hx hb dX3_readComparison_72 rfl ?_
            have hP9 : va_P (dC, dI) classes (wX g c v5373 F5374 (g (44 + nr))) H := hP
            exact W.vret hx hb hr (fun t ht hW => ⟨⟨(v5373, F5374, (g (44 + nr))), rfl, ⟨hI, hal, rfl, (frC (by decide) hf5375 (frC (by decide) hf5360 (frU (by decide) (frC (by decide) hf5281 (fun _ _ => rfl))))), trivial⟩, (by show va_P _ _ _ t.heap; rw [ht]; exact hP9)⟩, hS.F ht⟩) hS.2.2 dX3_readComparison_73
        · skip
          have t5378 := cv_eq (a := r5282.toInt) rfl (b := 60) (by decide) c5361
          refine lv_bipush (v := 9) hx hb dX3_readComparison_50 (by decide) ?_
          refine lv_goto (tgt := 68) hx hb dX3_readComparison_52 (by decide) ?_
          refine lv_iconst (v := 0) hx hb dX3_readComparison_68 (by decide) ?_
          refine va_calli (va_runV (As := [.int 9, .int 0]) (rest := []) ⟨hx, hb, hml, hown, hwd⟩ (c_X3_put l dC dI g c adK adV v5358 F5359 nr H.size 9 0 hg hnr hI (by have : (9 : Int32).toInt = 9 := (by decide); omega) (by have : (0 : Int32).toInt = 0 := (by decide); omega)) (cwV 2 hwd (gV wk_882 wk_879 wk_880 wk_881 wk_38) rfl rfl rfl (by decide +kernel) ⟨Nat.le_of_ble_eq_true rfl, Nat.le_of_ble_eq_true rfl⟩) ⟨PX.blind, va_recv hK hP (ci := 3) (q0 := 7) rfl rfl, fun U hU hW => ⟨rfl, PX.at hK hE hP hS hU hW⟩⟩ rfl rfl hl.1 rfl (lv_room (Nat.le_of_ble_eq_true rfl)) dX3_readComparison_69 ⟨Nat.le_of_ble_eq_true rfl, Nat.le_of_ble_eq_true rfl⟩) hS (fun q _ h => (freeX hS) q h) (freeX hS) (fun r5379 u t H1 locs ht hvm hw hB hz1 hk1 hS => ?_)
          unfold BX at hB
          rw [ht] at hB
          obtain ⟨v5380, F5381, rc9⟩ := u
          obtain ⟨hI, hal9, hrc, hf5382, hw⟩ := hw
          dsimp only at hI hal9 hrc hB hf5382 hw
          rw [hrc] at hB
          have hal := hal9.trans hal
          have hP : va_P (dC, dI) classes (wX g c v5380 F5381 (g (44 + nr))) H1 := hB
          have hw : -1 ≤ r5379.toInt ∧ r5379.toInt ≤ 119 := hw
          have k5383 : (9 : Int32).toInt = 9 := by decide
          have k5384 : (0 : Int32).toInt = 0 := by decide
          generalize H1 = H at hP hS ⊢
          have hw_r5379 := hw
          refine lv_pop hx hb dX3_readComparison_72 rfl ?_
          have hP9 : va_P (dC, dI) classes (wX g c v5380 F5381 (g (44 + nr))) H := hP
          exact W.vret hx hb hr (fun t ht hW => ⟨⟨(v5380, F5381, (g (44 + nr))), rfl, ⟨hI, hal, rfl, (frC (by decide) hf5382 (frC (by decide) hf5360 (frU (by decide) (frC (by decide) hf5281 (fun _ _ => rfl))))), trivial⟩, (by show va_P _ _ _ t.heap; rw [ht]; exact hP9)⟩, hS.F ht⟩) hS.2.2 dX3_readComparison_73
set_option maxHeartbeats 8000000 in
set_option maxRecDepth 100000 in
theorem c_X3_readChoice_4 (l : Launch) (dC : Nat → ClassId) (dI : Nat → Nat → Nat) (g : Nat → Nat) (c : Nat → ClassId) (adK adV : Nat → Nat) (v : Nat → Int32) (F : Nat → Nat → Int32) (nr sz : Nat) (hg : injX g) (hnr : nr < 10) (hI : IX v F) : Met l yX3_readChoice (Cond.code yX3_readChoice cX3_readChoice 4 none :: wA) ({ frames := 30, cells := 0, slots := 0, locals := 1200 }) (va_Pc [.ref (g 7), .int 4] (PX dC dI g c adK adV v F (g (44 + nr)) sz)) (va_Qv (fun (u : StX) => IX u.1 u.2.1 ∧ alX u.1 u.2.1 = alX v F ∧ u.2.2 = (g (44 + nr)) ∧ (∀ k, k ∉ ([142, 143, 144] : List Nat) → u.1 k = v k) ∧ True) (BX dC dI g c) (AX g sz)) 0 0 (AX g sz) := by
  refine Met.ofW (cc := cX3_readChoice) (maxL := 4) (ret := none) (by decide) rfl ?_
  intro p e s m args below meth c0 s₁ B hml hv
  obtain ⟨rfl, hsz, hP, hK, hE⟩ := hv
  have hx := B.exec
  have hb := B.bytes
  have hr := B.returns
  have hts := atoms_spec (ws := Cond.code yX3_readChoice cX3_readChoice 4 none :: wA) B.pre
  have hwd : ∀ w ∈ wA, w.before _ s = true := fun w h => hts w (List.mem_cons_of_mem _ h)
  have hown : s.vm.findClass RX3 = some m.cls := findClass_of_methodNamed B.named
  have hlocks := B.notSynchronized
  subst hsz
  have hl := lv_entry ([.ref (g 7), .int 4]) (n := 4) (Nat.le_of_ble_eq_true rfl)
  rw [lg_entry_eq]
  generalize (lg_sl ([.ref (g 7), .int 4]) ++ List.replicate (4 - (lg_sl ([.ref (g 7), .int 4])).length) Slot.unset).toArray = ls at hl ⊢
  have hl : lv_has ls 4 [(0, .ref (g 7)), (1, .int 4)] := hl
  obtain ⟨H, eH⟩ : ∃ z, z = s.heap := ⟨_, rfl⟩
  have hP : va_P (dC, dI) classes (wX g c v F (g (44 + nr))) H := by rw [eH]; exact hP
  have hS : va_S (AX g s.heap.size) s.heap H [] := by rw [eH]; exact va_S.rf
  refine my_heap eH ?_
  have hal : alX v F = alX v F := rfl
  refine lv_aload_n hx hb dX3_readChoice_0 rfl (lv_at hl 0 rfl) ?_
  refine lv_iload_n hx hb dX3_readChoice_1 rfl (lv_at hl 1 rfl) ?_
  refine va_callv (va_runV (As := [.int 4]) (rest := []) ⟨hx, hb, hml, hown, hwd⟩ (c_X3_readComparison_4 l dC dI g c adK adV v F nr H.size  hg hnr hI ) (cwV 1 hwd (gV wk_891 wk_860 wk_861 wk_862 wk_38) rfl rfl rfl (by decide +kernel) ⟨Nat.le_of_ble_eq_true rfl, Nat.le_of_ble_eq_true rfl⟩) ⟨PX.blind, va_recv hK hP (ci := 3) (q0 := 7) rfl rfl, fun U hU hW => ⟨rfl, PX.at hK hE hP hS hU hW⟩⟩ rfl rfl hl.1 rfl (lv_room (Nat.le_of_ble_eq_true rfl)) dX3_readChoice_2 ⟨Nat.le_of_ble_eq_true rfl, Nat.le_of_ble_eq_true rfl⟩) hS (fun q _ h => (freeX hS) q h) (freeX hS) (fun u t H1 locs ht hvm hw hB hz1 hk1 hS => ?_)
  unfold BX at hB
  rw [ht] at hB
  obtain ⟨v5386, F5387, rc9⟩ := u
  obtain ⟨hI, hal9, hrc, hf5388, hw⟩ := hw
  dsimp only at hI hal9 hrc hB hf5388 hw
  rw [hrc] at hB
  have hal := hal9.trans hal
  have hP : va_P (dC, dI) classes (wX g c v5386 F5387 (g (44 + nr))) H1 := hB
  generalize H1 = H at hP hS ⊢
  refine lv_aload_n hx hb dX3_readChoice_5 rfl (lv_at hl 0 rfl) ?_
  refine va_calli (va_runV (As := []) (rest := []) ⟨hx, hb, hml, hown, hwd⟩ (c_X3_next l dC dI g c adK adV v5386 F5387 nr H.size  hg hnr hI ) (cwV 0 hwd (gV wk_866 wk_863 wk_864 wk_865 wk_38) rfl rfl rfl (by decide +kernel) ⟨Nat.le_of_ble_eq_true rfl, Nat.le_of_ble_eq_true rfl⟩) ⟨PX.blind, va_recv hK hP (ci := 3) (q0 := 7) rfl rfl, fun U hU hW => ⟨rfl, PX.at hK hE hP hS hU hW⟩⟩ rfl rfl hl.1 rfl (lv_room (Nat.le_of_ble_eq_true rfl)) dX3_readChoice_6 ⟨Nat.le_of_ble_eq_true rfl, Nat.le_of_ble_eq_true rfl⟩) hS (fun q _ h => (freeX hS) q h) (freeX hS) (fun r5389 u t H1 locs ht hvm hw hB hz1 hk1 hS => ?_)
  unfold BX at hB
  rw [ht] at hB
  have hP : va_P (dC, dI) classes (wX g c v5386 F5387 (g (44 + nr))) H1 := hB
  generalize H1 = H at hP hS ⊢
  have rr_r5389 := i32_rng r5389
  refine lv_bipush (v := 63) hx hb dX3_readChoice_9 (by decide) ?_
  refine lv_icmp_ne (tgt := 66) hx hb dX3_readChoice_11 (by decide) (fun c5390 => ?_) (fun c5390 => ?_)
  · skip
    have t5391 := cv_ne (a := r5389.toInt) rfl (b := 63) (by decide) c5390
    have hP9 : va_P (dC, dI) classes (wX g c v5386 F5387 (g (44 + nr))) H := hP
    exact W.vret hx hb hr (fun t ht hW => ⟨⟨(v5386, F5387, (g (44 + nr))), rfl, ⟨hI, hal, rfl, (frC (by decide) hf5388 (fun _ _ => rfl)), trivial⟩, (by show va_P _ _ _ t.heap; rw [ht]; exact hP9)⟩, hS.F ht⟩) hS.2.2 dX3_readChoice_66
  · skip
    have t5392 := cv_eq (a := r5389.toInt) rfl (b := 63) (by decide) c5390
    refine lv_aload_n hx hb dX3_readChoice_14 rfl (lv_at hl 0 rfl) ?_
    refine lv_iload_n hx hb dX3_readChoice_15 rfl (lv_at hl 1 rfl) ?_
    refine va_calli (va_runV (As := [.int 4]) (rest := []) ⟨hx, hb, hml, hown, hwd⟩ (c_X3_opens l dC dI g c adK adV v5386 F5387 nr H.size 4 hg hnr hI ) (cwV 1 hwd (gV wk_874 wk_871 wk_872 wk_873 wk_38) rfl rfl rfl (by decide +kernel) ⟨Nat.le_of_ble_eq_true rfl, Nat.le_of_ble_eq_true rfl⟩) ⟨PX.blind, va_recv hK hP (ci := 3) (q0 := 7) rfl rfl, fun U hU hW => ⟨rfl, PX.at hK hE hP hS hU hW⟩⟩ rfl rfl hl.1 rfl (lv_room (Nat.le_of_ble_eq_true rfl)) dX3_readChoice_16 ⟨Nat.le_of_ble_eq_true rfl, Nat.le_of_ble_eq_true rfl⟩) hS (fun q _ h => (freeX hS) q h) (freeX hS) (fun r5393 u t H1 locs ht hvm hw hB hz1 hk1 hS => ?_)
    unfold BX at hB
    rw [ht] at hB
    obtain ⟨v5394, F5395, rc9⟩ := u
    obtain ⟨hI, hal9, hrc, hf5396, hw⟩ := hw
    dsimp only at hI hal9 hrc hB hf5396 hw
    rw [hrc] at hB
    have hal := hal9.trans hal
    have hP : va_P (dC, dI) classes (wX g c v5394 F5395 (g (44 + nr))) H1 := hB
    have hw : (r5393.toInt = 1 ∧ (4 : Int32).toInt < 8) ∨ (r5393.toInt = 0 ∧ 8 ≤ (4 : Int32).toInt) := hw
    have k5397 : (4 : Int32).toInt = 4 := by decide
    generalize H1 = H at hP hS ⊢
    have hw_r5393 := hw
    refine lv_if_eq (tgt := 66) hx hb dX3_readChoice_19 (by decide) (fun c5398 => ?_) (fun c5398 => ?_)
    · skip
      have t5399 := cv_eq (a := r5393.toInt) rfl (b := 0) (by decide) c5398
      have hP9 : va_P (dC, dI) classes (wX g c v5394 F5395 (g (44 + nr))) H := hP
      exact W.vret hx hb hr (fun t ht hW => ⟨⟨(v5394, F5395, (g (44 + nr))), rfl, ⟨hI, hal, rfl, (frC (by decide) hf5396 (frC (by decide) hf5388 (fun _ _ => rfl))), trivial⟩, (by show va_P _ _ _ t.heap; rw [ht]; exact hP9)⟩, hS.F ht⟩) hS.2.2 dX3_readChoice_66
    · skip
      have t5400 := cv_ne (a := r5393.toInt) rfl (b := 0) (by decide) c5398
      refine lv_aload_n hx hb dX3_readChoice_22 rfl (lv_at hl 0 rfl) ?_
      refine lv_iconst (v := 4) hx hb dX3_readChoice_23 (by decide) ?_
      refine lv_iconst (v := 0) hx hb dX3_readChoice_24 (by decide) ?_
      refine va_calli (va_runV (As := [.int 4, .int 0]) (rest := []) ⟨hx, hb, hml, hown, hwd⟩ (c_X3_put l dC dI g c adK adV v5394 F5395 nr H.size 4 0 hg hnr hI (by have : (4 : Int32).toInt = 4 := (by decide); omega) (by have : (0 : Int32).toInt = 0 := (by decide); omega)) (cwV 2 hwd (gV wk_882 wk_879 wk_880 wk_881 wk_38) rfl rfl rfl (by decide +kernel) ⟨Nat.le_of_ble_eq_true rfl, Nat.le_of_ble_eq_true rfl⟩) ⟨PX.blind, va_recv hK hP (ci := 3) (q0 := 7) rfl rfl, fun U hU hW => ⟨rfl, PX.at hK hE hP hS hU hW⟩⟩ rfl rfl hl.1 rfl (lv_room (Nat.le_of_ble_eq_true rfl)) dX3_readChoice_25 ⟨Nat.le_of_ble_eq_true rfl, Nat.le_of_ble_eq_true rfl⟩) hS (fun q _ h => (freeX hS) q h) (freeX hS) (fun r5401 u t H1 locs ht hvm hw hB hz1 hk1 hS => ?_)
      unfold BX at hB
      rw [ht] at hB
      obtain ⟨v5402, F5403, rc9⟩ := u
      obtain ⟨hI, hal9, hrc, hf5404, hw⟩ := hw
      dsimp only at hI hal9 hrc hB hf5404 hw
      rw [hrc] at hB
      have hal := hal9.trans hal
      have hP : va_P (dC, dI) classes (wX g c v5402 F5403 (g (44 + nr))) H1 := hB
      have hw : -1 ≤ r5401.toInt ∧ r5401.toInt ≤ 119 := hw
      have k5405 : (4 : Int32).toInt = 4 := by decide
      have k5406 : (0 : Int32).toInt = 0 := by decide
      generalize H1 = H at hP hS ⊢
      have hw_r5401 := hw
      refine lv_istore_n (lv' := [(2, .int r5401), (0, .ref (g 7)), (1, .int 4)]) hx hb dX3_readChoice_28 rfl hl (by decide) rfl (fun ls hl => ?_)
      refine lv_aload_n hx hb dX3_readChoice_29 rfl (lv_at hl 1 rfl) ?_
      refine lv_iload_n hx hb dX3_readChoice_30 rfl (lv_at hl 2 rfl) ?_
      refine lv_iconst (v := 1) hx hb dX3_readChoice_31 (by decide) ?_
      refine lv_iadd hx hb dX3_readChoice_32 ?_
      refine my_top (v := 5) (by decide) ?_
      refine va_callv (va_runV (As := [.int 5]) (rest := []) ⟨hx, hb, hml, hown, hwd⟩ (c_X3_readChoice_5 l dC dI g c adK adV v5402 F5403 nr H.size  hg hnr hI ) (cwV 1 hwd (gV wk_859 wk_856 wk_857 wk_858 wk_38) rfl rfl rfl (by decide +kernel) ⟨Nat.le_of_ble_eq_true rfl, Nat.le_of_ble_eq_true rfl⟩) ⟨PX.blind, va_recv hK hP (ci := 3) (q0 := 7) rfl rfl, fun U hU hW => ⟨rfl, PX.at hK hE hP hS hU hW⟩⟩ rfl rfl hl.1 rfl (lv_room (Nat.le_of_ble_eq_true rfl)) dX3_readChoice_33 ⟨Nat.le_of_ble_eq_true rfl, Nat.le_of_ble_eq_true rfl⟩) hS (fun q _ h => (freeX hS) q h) (freeX hS) (fun u t H1 locs ht hvm hw hB hz1 hk1 hS => ?_)
      unfold BX at hB
      rw [ht] at hB
      obtain ⟨v5408, F5409, rc9⟩ := u
      obtain ⟨hI, hal9, hrc, hf5410, hw⟩ := hw
      dsimp only at hI hal9 hrc hB hf5410 hw
      rw [hrc] at hB
      have hal := hal9.trans hal
      have hP : va_P (dC, dI) classes (wX g c v5408 F5409 (g (44 + nr))) H1 := hB
      generalize H1 = H at hP hS ⊢
      refine lv_aload_n hx hb dX3_readChoice_36 rfl (lv_at hl 1 rfl) ?_
      refine lv_bipush (v := 58) hx hb dX3_readChoice_37 (by decide) ?_
      refine va_callv (va_runV (As := [.int 58]) (rest := []) ⟨hx, hb, hml, hown, hwd⟩ (c_X3_take l dC dI g c adK adV v5408 F5409 nr H.size 58 hg hnr hI ) (cwV 1 hwd (gV wk_886 wk_883 wk_884 wk_885 wk_38) rfl rfl rfl (by decide +kernel) ⟨Nat.le_of_ble_eq_true rfl, Nat.le_of_ble_eq_true rfl⟩) ⟨PX.blind, va_recv hK hP (ci := 3) (q0 := 7) rfl rfl, fun U hU hW => ⟨rfl, PX.at hK hE hP hS hU hW⟩⟩ rfl rfl hl.1 rfl (lv_room (Nat.le_of_ble_eq_true rfl)) dX3_readChoice_39 ⟨Nat.le_of_ble_eq_true rfl, Nat.le_of_ble_eq_true rfl⟩) hS (fun q _ h => (freeX hS) q h) (freeX hS) (fun u t H1 locs ht hvm hw hB hz1 hk1 hS => ?_)
      unfold BX at hB
      rw [ht] at hB
      obtain ⟨v5412, F5413, rc9⟩ := u
      obtain ⟨hI, hal9, hrc, hf5414, hw⟩ := hw
      dsimp only at hI hal9 hrc hB hf5414 hw
      rw [hrc] at hB
      have hal := hal9.trans hal
      have hP : va_P (dC, dI) classes (wX g c v5412 F5413 (g (44 + nr))) H1 := hB
      generalize H1 = H at hP hS ⊢
      refine lv_aload_n hx hb dX3_readChoice_42 rfl (lv_at hl 1 rfl) ?_
      refine lv_iconst (v := 3) hx hb dX3_readChoice_43 (by decide) ?_
      refine lv_iconst (v := 0) hx hb dX3_readChoice_44 (by decide) ?_
      refine va_calli (va_runV (As := [.int 3, .int 0]) (rest := []) ⟨hx, hb, hml, hown, hwd⟩ (c_X3_put l dC dI g c adK adV v5412 F5413 nr H.size 3 0 hg hnr hI (by have : (3 : Int32).toInt = 3 := (by decide); omega) (by have : (0 : Int32).toInt = 0 := (by decide); omega)) (cwV 2 hwd (gV wk_882 wk_879 wk_880 wk_881 wk_38) rfl rfl rfl (by decide +kernel) ⟨Nat.le_of_ble_eq_true rfl, Nat.le_of_ble_eq_true rfl⟩) ⟨PX.blind, va_recv hK hP (ci := 3) (q0 := 7) rfl rfl, fun U hU hW => ⟨rfl, PX.at hK hE hP hS hU hW⟩⟩ rfl rfl hl.1 rfl (lv_room (Nat.le_of_ble_eq_true rfl)) dX3_readChoice_45 ⟨Nat.le_of_ble_eq_true rfl, Nat.le_of_ble_eq_true rfl⟩) hS (fun q _ h => (freeX hS) q h) (freeX hS) (fun r5415 u t H1 locs ht hvm hw hB hz1 hk1 hS => ?_)
      unfold BX at hB
      rw [ht] at hB
      obtain ⟨v5416, F5417, rc9⟩ := u
      obtain ⟨hI, hal9, hrc, hf5418, hw⟩ := hw
      dsimp only at hI hal9 hrc hB hf5418 hw
      rw [hrc] at hB
      have hal := hal9.trans hal
      have hP : va_P (dC, dI) classes (wX g c v5416 F5417 (g (44 + nr))) H1 := hB
      have hw : -1 ≤ r5415.toInt ∧ r5415.toInt ≤ 119 := hw
      have k5419 : (3 : Int32).toInt = 3 := by decide
      have k5420 : (0 : Int32).toInt = 0 := by decide
      generalize H1 = H at hP hS ⊢
      have hw_r5415 := hw
      refine lv_istore_n (lv' := [(3, .int r5415), (2, .int r5401), (0, .ref (g 7)), (1, .int 4)]) hx hb dX3_readChoice_48 rfl hl (by decide) rfl (fun ls hl => ?_)
      refine lv_aload_n hx hb dX3_readChoice_49 rfl (lv_at hl 2 rfl) ?_
      refine lv_iload_n hx hb dX3_readChoice_50 rfl (lv_at hl 1 rfl) ?_
      refine va_callv (va_runV (As := [.int r5401]) (rest := []) ⟨hx, hb, hml, hown, hwd⟩ (c_X3_leadHere l dC dI g c adK adV v5416 F5417 nr H.size r5401 hg hnr hI ) (cwV 1 hwd (gV wk_890 wk_887 wk_888 wk_889 wk_38) rfl rfl rfl (by decide +kernel) ⟨Nat.le_of_ble_eq_true rfl, Nat.le_of_ble_eq_true rfl⟩) ⟨PX.blind, va_recv hK hP (ci := 3) (q0 := 7) rfl rfl, fun U hU hW => ⟨rfl, PX.at hK hE hP hS hU hW⟩⟩ rfl rfl hl.1 rfl (lv_room (Nat.le_of_ble_eq_true rfl)) dX3_readChoice_51 ⟨Nat.le_of_ble_eq_true rfl, Nat.le_of_ble_eq_true rfl⟩) hS (fun q _ h => (freeX hS) q h) (freeX hS) (fun u t H1 locs ht hvm hw hB hz1 hk1 hS => ?_)
      unfold BX at hB
      rw [ht] at hB
      obtain ⟨v5422, F5423, rc9⟩ := u
      obtain ⟨hI, hal9, hrc, hf5424, hw⟩ := hw
      dsimp only at hI hal9 hrc hB hf5424 hw
      rw [hrc] at hB
      have hal := hal9.trans hal
      have hP : va_P (dC, dI) classes (wX g c v5422 F5423 (g (44 + nr))) H1 := hB
      generalize H1 = H at hP hS ⊢
      refine lv_aload_n hx hb dX3_readChoice_54 rfl (lv_at hl 2 rfl) ?_
      refine lv_iload_n hx hb dX3_readChoice_55 rfl (lv_at hl 3 rfl) ?_
      refine lv_iconst (v := 1) hx hb dX3_readChoice_56 (by decide) ?_
      refine lv_iadd hx hb dX3_readChoice_57 ?_
      refine my_top (v := 5) (by decide) ?_
      refine va_callv (va_runV (As := [.int 5]) (rest := []) ⟨hx, hb, hml, hown, hwd⟩ (c_X3_readChoice_5 l dC dI g c adK adV v5422 F5423 nr H.size  hg hnr hI ) (cwV 1 hwd (gV wk_859 wk_856 wk_857 wk_858 wk_38) rfl rfl rfl (by decide +kernel) ⟨Nat.le_of_ble_eq_true rfl, Nat.le_of_ble_eq_true rfl⟩) ⟨PX.blind, va_recv hK hP (ci := 3) (q0 := 7) rfl rfl, fun U hU hW => ⟨rfl, PX.at hK hE hP hS hU hW⟩⟩ rfl rfl hl.1 rfl (lv_room (Nat.le_of_ble_eq_true rfl)) dX3_readChoice_58 ⟨Nat.le_of_ble_eq_true rfl, Nat.le_of_ble_eq_true rfl⟩) hS (fun q _ h => (freeX hS) q h) (freeX hS) (fun u t H1 locs ht hvm hw hB hz1 hk1 hS => ?_)
      unfold BX at hB
      rw [ht] at hB
      obtain ⟨v5426, F5427, rc9⟩ := u
      obtain ⟨hI, hal9, hrc, hf5428, hw⟩ := hw
      dsimp only at hI hal9 hrc hB hf5428 hw
      rw [hrc] at hB
      have hal := hal9.trans hal
      have hP : va_P (dC, dI) classes (wX g c v5426 F5427 (g (44 + nr))) H1 := hB
      generalize H1 = H at hP hS ⊢
      refine lv_aload_n hx hb dX3_readChoice_61 rfl (lv_at hl 2 rfl) ?_
      refine lv_iload_n hx hb dX3_readChoice_62 rfl (lv_at hl 0 rfl) ?_
      refine va_callv (va_runV (As := [.int r5415]) (rest := []) ⟨hx, hb, hml, hown, hwd⟩ (c_X3_leadHere l dC dI g c adK adV v5426 F5427 nr H.size r5415 hg hnr hI ) (cwV 1 hwd (gV wk_890 wk_887 wk_888 wk_889 wk_38) rfl rfl rfl (by decide +kernel) ⟨Nat.le_of_ble_eq_true rfl, Nat.le_of_ble_eq_true rfl⟩) ⟨PX.blind, va_recv hK hP (ci := 3) (q0 := 7) rfl rfl, fun U hU hW => ⟨rfl, PX.at hK hE hP hS hU hW⟩⟩ rfl rfl hl.1 rfl (lv_room (Nat.le_of_ble_eq_true rfl)) dX3_readChoice_63 ⟨Nat.le_of_ble_eq_true rfl, Nat.le_of_ble_eq_true rfl⟩) hS (fun q _ h => (freeX hS) q h) (freeX hS) (fun u t H1 locs ht hvm hw hB hz1 hk1 hS => ?_)
      unfold BX at hB
      rw [ht] at hB
      obtain ⟨v5430, F5431, rc9⟩ := u
      obtain ⟨hI, hal9, hrc, hf5432, hw⟩ := hw
      dsimp only at hI hal9 hrc hB hf5432 hw
      rw [hrc] at hB
      have hal := hal9.trans hal
      have hP : va_P (dC, dI) classes (wX g c v5430 F5431 (g (44 + nr))) H1 := hB
      generalize H1 = H at hP hS ⊢
      have hP9 : va_P (dC, dI) classes (wX g c v5430 F5431 (g (44 + nr))) H := hP
      exact W.vret hx hb hr (fun t ht hW => ⟨⟨(v5430, F5431, (g (44 + nr))), rfl, ⟨hI, hal, rfl, (frC (by decide) hf5432 (frC (by decide) hf5428 (frC (by decide) hf5424 (frC (by decide) hf5418 (frC (by decide) hf5414 (frC (by decide) hf5410 (frC (by decide) hf5404 (frC (by decide) hf5396 (frC (by decide) hf5388 (fun _ _ => rfl)))))))))), trivial⟩, (by show va_P _ _ _ t.heap; rw [ht]; exact hP9)⟩, hS.F ht⟩) hS.2.2 dX3_readChoice_66
