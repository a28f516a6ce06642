set_option maxHeartbeats 8000000 in
set_option maxRecDepth 100000 in
theorem c_X12_operand_4 (l : Launch) (dC : Nat → ClassId) (dI : Nat → Nat → Nat) (g : Nat → Nat) (c : Nat → ClassId) (adK adV : Nat → Nat) (v : Nat → Int32) (F : Nat → Nat → Int32) (rc sz : Nat) (d : Nat) (hg : injM g) (hI : IM v F) (hq : (v 38).toInt ≤ (v 39).toInt ∧ (v 39).toInt ≤ (v 30).toInt ∧ (v 40).toInt < 0 ∧ (v 41).toInt = 4) (hdp : dp (F 28) (F 29) (bI (v 37)) (v 38).toInt.toNat = some d) : Met l yX12_operand (Cond.code yX12_operand cX12_operand 2 none :: wA) ({ frames := 19, cells := 0, slots := 0, locals := 760 }) (va_Pc [.ref (g 0)] (PM dC dI g c adK adV v F rc sz)) (va_Qv (fun (u : StM) => IM u.1 u.2.1 ∧ u.2.2 = rc ∧ (∀ k, k ∉ ([38, 39, 40, 41, 42] : List Nat) → u.1 k = v k) ∧ (∀ k, k ∉ ([28, 29] : List Nat) → u.2.1 k = F k) ∧ (((v 39).toInt ≤ (u.1 39).toInt ∧ (u.1 39).toInt ≤ (v 30).toInt ∧ (v 38).toInt ≤ (u.1 38).toInt ∧ (u.1 38).toInt - (v 38).toInt ≤ (u.1 39).toInt - (v 39).toInt ∧ (v 41).toInt ≤ (u.1 41).toInt ∧ ((u.1 40).toInt < 0 → (u.1 41).toInt = (v 41).toInt)) ∧ keepL (v 37) (F 28) (F 29) (u.2.1 28) (u.2.1 29) ∧ ((u.1 40).toInt < 0 → dp (u.2.1 28) (u.2.1 29) (bI (v 37)) (u.1 38).toInt.toNat = some (d + 1)))) (BM dC dI g c) (AM g sz)) 0 0 (AM g sz) := by
  refine Met.ofW (cc := cX12_operand) (maxL := 2) (ret := none) (by decide) rfl ?_
  intro p e s m args below meth c0 s₁ B hml hv
  obtain ⟨rfl, hsz, hP, hK, hE⟩ := hv
  have hx := B.exec
  have hb := B.bytes
  have hr := B.returns
  have hts := atoms_spec (ws := Cond.code yX12_operand cX12_operand 2 none :: wA) B.pre
  have hwd : ∀ w ∈ wA, w.before _ s = true := fun w h => hts w (List.mem_cons_of_mem _ h)
  have hown : s.vm.findClass RX12 = some m.cls := findClass_of_methodNamed B.named
  have hlocks := B.notSynchronized
  subst hsz
  have hl := lv_entry ([.ref (g 0)]) (n := 2) (Nat.le_of_ble_eq_true rfl)
  rw [lg_entry_eq]
  generalize (lg_sl ([.ref (g 0)]) ++ List.replicate (2 - (lg_sl ([.ref (g 0)])).length) Slot.unset).toArray = ls at hl ⊢
  have hl : lv_has ls 2 [(0, .ref (g 0))] := hl
  obtain ⟨H, eH⟩ : ∃ z, z = s.heap := ⟨_, rfl⟩
  have hP : va_P (dC, dI) classes (wM g c v F rc) H := by rw [eH]; exact hP
  have hS : va_S (AM g s.heap.size) s.heap H [] := by rw [eH]; exact va_S.rf
  refine my_heap eH ?_
  have hF : ∀ k, k ∉ ([28, 29] : List Nat) → F k = F k := fun _ _ => rfl
  have hb30 : 0 ≤ (v 30).toInt ∧ (v 30).toInt ≤ 120 := hI.1 30 _ _ rfl
  have hb37 : 0 ≤ (v 37).toInt ∧ (v 37).toInt ≤ 9 := hI.1 37 _ _ rfl
  have hb38 : 0 ≤ (v 38).toInt ∧ (v 38).toInt ≤ 120 := hI.1 38 _ _ rfl
  have hb39 : 0 ≤ (v 39).toInt ∧ (v 39).toInt ≤ 120 := hI.1 39 _ _ rfl
  have hb41 : 0 ≤ (v 41).toInt ∧ (v 41).toInt ≤ 8 := hI.1 41 _ _ rfl
  have hk : keepL (v 37) (F 28) (F 29) (F 28) (F 29) := keepL.rf
  have hd : (v 40).toInt < 0 → dp (F 28) (F 29) (bI (v 37)) (v 38).toInt.toNat = some d := fun _ => hdp
  refine lv_aload_n hx hb dX12_operand_0 rfl (lv_at hl 0 rfl) ?_
  have t16671 : 0 ≤ (v 30).toInt ∧ (v 30).toInt ≤ 120 := hI.1 30 _ _ rfl
  have t16672 : 0 ≤ (v 39).toInt ∧ (v 39).toInt ≤ 120 := hI.1 39 _ _ rfl
  refine va_calli (va_runV (As := []) (rest := []) ⟨hx, hb, hml, hown, hwd⟩ (c_X12_look l dC dI g c adK adV v F rc H.size  hg hI ) (cwV 0 hwd (gV wk_1017 wk_1014 wk_1015 wk_1016 wk_5) rfl rfl rfl (by decide +kernel) ⟨Nat.le_of_ble_eq_true rfl, Nat.le_of_ble_eq_true rfl⟩) ⟨PM.blind, va_recv hK hP (ci := 12) (q0 := 0) rfl rfl, fun U hU hW => ⟨rfl, PM.at hK hE hP hS hU hW⟩⟩ rfl rfl hl.1 rfl (lv_room (Nat.le_of_ble_eq_true rfl)) dX12_operand_1 ⟨Nat.le_of_ble_eq_true rfl, Nat.le_of_ble_eq_true rfl⟩) hS (fun q _ h => (freeM hS) q h) (freeM hS) (fun r16673 u t H1 locs ht hvm hw hB hz1 hk1 hS => ?_)
  unfold BM at hB
  rw [ht] at hB
  have hP : va_P (dC, dI) classes (wM g c v F rc) H1 := hB
  have hw : r16673.toInt = lkM (v 39) (v 30) (F 24) ∧ ((v 39).toInt < (v 30).toInt ∨ r16673.toInt = -1) := hw
  have hw_r16673 := hw
  generalize H1 = H at hP hS ⊢
  refine lv_istore_n (lv' := [(1, .int r16673), (0, .ref (g 0))]) hx hb dX12_operand_4 rfl hl (by decide) rfl (fun ls hl => ?_)
  refine lv_iload_n hx hb dX12_operand_5 rfl (lv_at hl 0 rfl) ?_
  refine va_calli (va_runS (As := [.int r16673]) (rest := []) ⟨hx, hb, hml, hown, hwd⟩ (c_X12_nameOf l dC dI g c adK adV v F rc H.size r16673 hg hI ) (va_cwS 1 hwd (gT wk_1034 wk_1032 wk_1033 wk_5) rfl rfl rfl (by decide +kernel) ⟨Nat.le_of_ble_eq_true rfl, Nat.le_of_ble_eq_true rfl⟩) ⟨PM.blind, fun U hU hW => ⟨rfl, PM.at hK hE hP hS hU hW⟩⟩ rfl rfl hl.1 rfl (lv_room (Nat.le_of_ble_eq_true rfl)) dX12_operand_6 ⟨Nat.le_of_ble_eq_true rfl, Nat.le_of_ble_eq_true rfl⟩) hS (fun q _ h => (freeM hS) q h) (freeM hS) (fun r16674 u t H1 locs ht hvm hw hB hz1 hk1 hS => ?_)
  unfold BM at hB
  rw [ht] at hB
  have hP : va_P (dC, dI) classes (wM g c v F rc) H1 := hB
  have hw : r16674.toInt = nmM r16673 ∧ (-1 ≤ r16674.toInt ∧ r16674.toInt ≤ 5) := hw
  have hw_r16674 := hw
  generalize H1 = H at hP hS ⊢
  have np_r16674 := nmM_pos r16673
  refine lv_if_lt (tgt := 34) hx hb dX12_operand_9 (by decide) (fun c16675 => ?_) (fun c16675 => ?_)
  · skip
    have t16676 := cv_lt (a := r16674.toInt) rfl (b := 0) (by decide) c16675
    refine lv_iload_n hx hb dX12_operand_34 rfl (lv_at hl 0 rfl) ?_
    refine lv_bipush (v := 45) hx hb dX12_operand_35 (by decide) ?_
    refine lv_icmp_ne (tgt := 71) hx hb dX12_operand_37 (by decide) (fun c16677 => ?_) (fun c16677 => ?_)
    · skip
      have t16678 := cv_ne (a := r16673.toInt) rfl (b := 45) (by decide) c16677
      refine lv_iload_n hx hb dX12_operand_71 rfl (lv_at hl 0 rfl) ?_
      refine lv_bipush (v := 40) hx hb dX12_operand_72 (by decide) ?_
      refine lv_icmp_ne (tgt := 134) hx hb dX12_operand_74 (by decide) (fun c16679 => ?_) (fun c16679 => ?_)
      · skip
        have t16680 := cv_ne (a := r16673.toInt) rfl (b := 40) (by decide) c16679
        refine lv_aload_n hx hb dX12_operand_134 rfl (lv_at hl 1 rfl) ?_
        have t16681 : 0 ≤ (v 30).toInt ∧ (v 30).toInt ≤ 120 := hI.1 30 _ _ rfl
        have t16682 : 0 ≤ (v 39).toInt ∧ (v 39).toInt ≤ 120 := hI.1 39 _ _ rfl
        refine va_calli (va_runV (As := []) (rest := []) ⟨hx, hb, hml, hown, hwd⟩ (c_X12_digits l dC dI g c adK adV v F rc H.size  hg hI (by have h9 : v 39 = v 39 := rfl; (try rw [h9]); clear h9; have h9 : v 30 = v 30 := rfl; (try rw [h9]); clear h9; omega)) (cwV 0 hwd (gV wk_1041 wk_1038 wk_1039 wk_1040 wk_5) rfl rfl rfl (by decide +kernel) ⟨Nat.le_of_ble_eq_true rfl, Nat.le_of_ble_eq_true rfl⟩) ⟨PM.blind, va_recv hK hP (ci := 12) (q0 := 0) rfl rfl, fun U hU hW => ⟨rfl, PM.at hK hE hP hS hU hW⟩⟩ rfl rfl hl.1 rfl (lv_room (Nat.le_of_ble_eq_true rfl)) dX12_operand_135 ⟨Nat.le_of_ble_eq_true rfl, Nat.le_of_ble_eq_true rfl⟩) hS (fun q _ h => (freeM hS) q h) (freeM hS) (fun r16683 u t H1 locs ht hvm hw hB hz1 hk1 hS => ?_)
        unfold BM at hB
        rw [ht] at hB
        obtain ⟨v16684, F16685, rc9⟩ := u
        obtain ⟨hI, hrc, hf16686, hG16687, hw⟩ := hw
        dsimp only at hI hrc hB hf16686 hG16687 hw
        have hF := frCF (by decide) hG16687 hF
        rw [hrc] at hB
        have hP : va_P (dC, dI) classes (wM g c v16684 F16685 rc) H1 := hB
        have hw : (r16683.toInt = 1 ∧ (v 39).toInt < (v16684 39).toInt ∧ (v16684 39).toInt ≤ (v 30).toInt ∧ (v16684 40).toInt = (v 40).toInt) ∨ (r16683.toInt = 0 ∧ 0 ≤ (v16684 40).toInt ∧ (v 39).toInt ≤ (v16684 39).toInt ∧ (v16684 39).toInt ≤ (v 30).toInt) := hw
        have hw_r16683 := hw
        have t16688 : 0 ≤ (v16684 39).toInt ∧ (v16684 39).toInt ≤ 120 := hI.1 39 _ _ rfl
        generalize H1 = H at hP hS ⊢
        have hk : keepL (v 37) (F 28) (F 29) (F16685 28) (F16685 29) := by rw [hG16687 28 (by decide), hG16687 29 (by decide)]; exact hk
        have hd : (v16684 40).toInt < 0 → dp (F16685 28) (F16685 29) (bI (v 37)) (v 38).toInt.toNat = some d := fun hf => (by rw [hG16687 28 (by decide), hG16687 29 (by decide)]; exact hd (by omega))
        refine lv_if_eq (tgt := 150) hx hb dX12_operand_138 (by decide) (fun c16689 => ?_) (fun c16689 => ?_)
        · skip
          have t16690 := cv_eq (a := r16683.toInt) rfl (b := 0) (by decide) c16689
          have hP9 : va_P (dC, dI) classes (wM g c v16684 F16685 rc) H := hP
          exact W.vret hx hb hr (fun t ht hW => ⟨⟨(v16684, F16685, rc), rfl, ⟨hI, rfl, (frC (by decide) hf16686 (fun _ _ => rfl)), hF, (by show ((v 39).toInt ≤ (v16684 39).toInt ∧ (v16684 39).toInt ≤ (v 30).toInt ∧ (v 38).toInt ≤ (v16684 38).toInt ∧ (v16684 38).toInt - (v 38).toInt ≤ (v16684 39).toInt - (v 39).toInt ∧ (v 41).toInt ≤ (v16684 41).toInt ∧ ((v16684 40).toInt < 0 → (v16684 41).toInt = (v 41).toInt)) ∧ keepL (v 37) (F 28) (F 29) (F16685 28) (F16685 29) ∧ ((v16684 40).toInt < 0 → dp (F16685 28) (F16685 29) (bI (v 37)) (v16684 38).toInt.toNat = some (d + 1)); rw [show v16684 38 = v 38 from hf16686 38 (by decide)]; rw [show v16684 41 = v 41 from hf16686 41 (by decide)]; exact ⟨by omega, hk, fun hf => (hd (by omega)).trans (congrArg some (by omega))⟩)⟩, (by show va_P _ _ _ t.heap; rw [ht]; exact hP9)⟩, hS.F ht⟩) hS.2.2 dX12_operand_150
        · skip
          have t16691 := cv_ne (a := r16683.toInt) rfl (b := 0) (by decide) c16689
          refine lv_aload_n hx hb dX12_operand_141 rfl (lv_at hl 1 rfl) ?_
          refine lv_iconst (v := 1) hx hb dX12_operand_142 (by decide) ?_
          refine lv_aload_n hx hb dX12_operand_143 rfl (lv_at hl 1 rfl) ?_
          refine va_get (D := (dC, dI)) (ci := 12) (v := .int (v16684 42)) (C := RX12) (T := TX12) (N := 63) hx hb hwd inA_X12 hown hK hP 0 rfl rfl 42 (by decide) (hwd _ wk_1031) (fun _ h9 => h9) rfl dX12_operand_144 ?_
          have t16692 : 0 ≤ (v 37).toInt ∧ (v 37).toInt ≤ 9 := by have h9 := hI.1 37 _ _ rfl; rw [show v16684 37 = v 37 from hf16686 37 (by decide)] at h9; exact h9
          have t16693 : 0 ≤ (v 38).toInt ∧ (v 38).toInt ≤ 120 := by have h9 := hI.1 38 _ _ rfl; rw [show v16684 38 = v 38 from hf16686 38 (by decide)] at h9; exact h9
          refine va_callv (va_runV (As := [.int 1, .int (v16684 42)]) (rest := []) ⟨hx, hb, hml, hown, hwd⟩ (c_X12_lay l dC dI g c adK adV v16684 F16685 rc H.size 1 (v16684 42) hg hI (by have h9 : v16684 38 = v 38 := hf16686 38 (by decide); rw [h9]; omega)) (cwV 2 hwd (gV wk_1021 wk_1018 wk_1019 wk_1020 wk_5) rfl rfl rfl (by decide +kernel) ⟨Nat.le_of_ble_eq_true rfl, Nat.le_of_ble_eq_true rfl⟩) ⟨PM.blind, va_recv hK hP (ci := 12) (q0 := 0) rfl rfl, fun U hU hW => ⟨rfl, PM.at hK hE hP hS hU hW⟩⟩ rfl rfl hl.1 rfl (lv_room (Nat.le_of_ble_eq_true rfl)) dX12_operand_147 ⟨Nat.le_of_ble_eq_true rfl, Nat.le_of_ble_eq_true rfl⟩) hS (fun q _ h => (freeM hS) q h) (freeM hS) (fun u t H1 locs ht hvm hw hB hz1 hk1 hS => ?_)
          unfold BM at hB
          rw [ht] at hB
          obtain ⟨v16695, F16696, rc9⟩ := u
          obtain ⟨hI, hrc, hf16697, hG16698, hw⟩ := hw
          dsimp only at hI hrc hB hf16697 hG16698 hw
          have hF := frCF (by decide) hG16698 hF
          rw [hrc] at hB
          have hP : va_P (dC, dI) classes (wM g c v16695 F16696 rc) H1 := hB
          have hw : (v16695 38).toInt = (v16684 38).toInt + 1 ∧ keepL (v16684 37) (F16685 28) (F16685 29) (F16696 28) (F16696 29) ∧ dp (F16696 28) (F16696 29) (bI (v16684 37)) ((v16684 38).toInt.toNat + 1) = dpS (dp (F16685 28) (F16685 29) (bI (v16684 37)) (v16684 38).toInt.toNat) (1 : Int32) (v16684 42) := hw
          rw [show v16684 38 = v 38 from hf16686 38 (by decide)] at hw
          rw [show v16684 37 = v 37 from hf16686 37 (by decide)] at hw
          have hw_r16694 := hw
          have t16699 : 0 ≤ (v16695 38).toInt ∧ (v16695 38).toInt ≤ 120 := hI.1 38 _ _ rfl
          have k16700 : (1 : Int32).toInt = 1 := by decide
          generalize H1 = H at hP hS ⊢
          have hk := hk.tr hw_r16694.2.1
          have hd : (v16684 40).toInt < 0 → dp (F16696 28) (F16696 29) (bI (v 37)) (v16695 38).toInt.toNat = some (d + 1) := fun hf => (by have e9 : (v16695 38).toInt.toNat = (v 38).toInt.toNat + 1 := (by omega); rw [e9, hw_r16694.2.2, hd hf]; exact dpS_1 (by decide))
          have hP9 : va_P (dC, dI) classes (wM g c v16695 F16696 rc) H := hP
          exact W.vret hx hb hr (fun t ht hW => ⟨⟨(v16695, F16696, rc), rfl, ⟨hI, rfl, (frC (by decide) hf16697 (frC (by decide) hf16686 (fun _ _ => rfl))), hF, (by show ((v 39).toInt ≤ (v16695 39).toInt ∧ (v16695 39).toInt ≤ (v 30).toInt ∧ (v 38).toInt ≤ (v16695 38).toInt ∧ (v16695 38).toInt - (v 38).toInt ≤ (v16695 39).toInt - (v 39).toInt ∧ (v 41).toInt ≤ (v16695 41).toInt ∧ ((v16695 40).toInt < 0 → (v16695 41).toInt = (v 41).toInt)) ∧ keepL (v 37) (F 28) (F 29) (F16696 28) (F16696 29) ∧ ((v16695 40).toInt < 0 → dp (F16696 28) (F16696 29) (bI (v 37)) (v16695 38).toInt.toNat = some (d + 1)); rw [show v16695 39 = v16684 39 from hf16697 39 (by decide)]; rw [show v16695 41 = v 41 from (hf16697 41 (by decide)).trans (hf16686 41 (by decide))]; rw [show v16695 40 = v16684 40 from hf16697 40 (by decide)]; exact ⟨by omega, hk, fun hf => (hd (by omega)).trans (congrArg some (by omega))⟩)⟩, (by show va_P _ _ _ t.heap; rw [ht]; exact hP9)⟩, hS.F ht⟩) hS.2.2 dX12_operand_150
      · skip
        have t16701 := cv_eq (a := r16673.toInt) rfl (b := 40) (by decide) c16679
        refine lv_aload_n hx hb dX12_operand_77 rfl (lv_at hl 1 rfl) ?_
        have t16702 : 0 ≤ (v 39).toInt ∧ (v 39).toInt ≤ 120 := hI.1 39 _ _ rfl
        have t16703 : 0 ≤ (v 41).toInt ∧ (v 41).toInt ≤ 8 := hI.1 41 _ _ rfl
        refine va_calli (va_runV (As := []) (rest := []) ⟨hx, hb, hml, hown, hwd⟩ (c_X12_opens l dC dI g c adK adV v F rc H.size  hg hI (by have h9 : v 39 = v 39 := rfl; (try rw [h9]); clear h9; have h9 : v 30 = v 30 := rfl; (try rw [h9]); clear h9; omega)) (cwV 0 hwd (gV wk_1025 wk_1022 wk_1023 wk_1024 wk_5) rfl rfl rfl (by decide +kernel) ⟨Nat.le_of_ble_eq_true rfl, Nat.le_of_ble_eq_true rfl⟩) ⟨PM.blind, va_recv hK hP (ci := 12) (q0 := 0) rfl rfl, fun U hU hW => ⟨rfl, PM.at hK hE hP hS hU hW⟩⟩ rfl rfl hl.1 rfl (lv_room (Nat.le_of_ble_eq_true rfl)) dX12_operand_78 ⟨Nat.le_of_ble_eq_true rfl, Nat.le_of_ble_eq_true rfl⟩) hS (fun q _ h => (freeM hS) q h) (freeM hS) (fun r16704 u t H1 locs ht hvm hw hB hz1 hk1 hS => ?_)
        unfold BM at hB
        rw [ht] at hB
        obtain ⟨v16705, F16706, rc9⟩ := u
        obtain ⟨hI, hrc, hf16707, hG16708, hw⟩ := hw
        dsimp only at hI hrc hB hf16707 hG16708 hw
        have hF := frCF (by decide) hG16708 hF
        rw [hrc] at hB
        have hP : va_P (dC, dI) classes (wM g c v16705 F16706 rc) H1 := hB
        have hw : (r16704.toInt = 1 ∧ (v 41).toInt < 8 ∧ (v16705 41).toInt = (v 41).toInt + 1 ∧ (v16705 39).toInt = (v 39).toInt + 1 ∧ (v16705 40).toInt = (v 40).toInt) ∨ (r16704.toInt = 0 ∧ (v 41).toInt = 8 ∧ 0 ≤ (v16705 40).toInt ∧ (v16705 41).toInt = (v 41).toInt ∧ (v16705 39).toInt = (v 39).toInt) := hw
        have hw_r16704 := hw
        have t16709 : 0 ≤ (v16705 39).toInt ∧ (v16705 39).toInt ≤ 120 := hI.1 39 _ _ rfl
        have t16710 : 0 ≤ (v16705 41).toInt ∧ (v16705 41).toInt ≤ 8 := hI.1 41 _ _ rfl
        generalize H1 = H at hP hS ⊢
        have hk : keepL (v 37) (F 28) (F 29) (F16706 28) (F16706 29) := by rw [hG16708 28 (by decide), hG16708 29 (by decide)]; exact hk
        have hd : (v16705 40).toInt < 0 → dp (F16706 28) (F16706 29) (bI (v 37)) (v 38).toInt.toNat = some d := fun hf => (by rw [hG16708 28 (by decide), hG16708 29 (by decide)]; exact hd (by omega))
        refine lv_if_ne (tgt := 85) hx hb dX12_operand_81 (by decide) (fun c16711 => ?_) (fun c16711 => ?_)
        · skip
          have t16712 := cv_ne (a := r16704.toInt) rfl (b := 0) (by decide) c16711
          refine lv_aload_n hx hb dX12_operand_85 rfl (lv_at hl 1 rfl) ?_
          have t16713 : 0 ≤ (v 30).toInt ∧ (v 30).toInt ≤ 120 := by have h9 := hI.1 30 _ _ rfl; rw [show v16705 30 = v 30 from hf16707 30 (by decide)] at h9; exact h9
          have t16714 : 0 ≤ (v 37).toInt ∧ (v 37).toInt ≤ 9 := by have h9 := hI.1 37 _ _ rfl; rw [show v16705 37 = v 37 from hf16707 37 (by decide)] at h9; exact h9
          have t16715 : 0 ≤ (v 38).toInt ∧ (v 38).toInt ≤ 120 := by have h9 := hI.1 38 _ _ rfl; rw [show v16705 38 = v 38 from hf16707 38 (by decide)] at h9; exact h9
          have t16716 : 0 ≤ (v16705 39).toInt ∧ (v16705 39).toInt ≤ 120 := hI.1 39 _ _ rfl
          have t16717 : 0 ≤ (v16705 41).toInt ∧ (v16705 41).toInt ≤ 8 := hI.1 41 _ _ rfl
          refine va_callv (va_runV (As := []) (rest := []) ⟨hx, hb, hml, hown, hwd⟩ (c_X12_either_5 l dC dI g c adK adV v16705 F16706 rc H.size  d hg hI (by have h9 : v16705 38 = v 38 := hf16707 38 (by decide); (try rw [h9]); clear h9; have h9 : v16705 39 = v16705 39 := rfl; (try rw [h9]); clear h9; have h9 : v16705 30 = v 30 := hf16707 30 (by decide); (try rw [h9]); clear h9; have h9 : v16705 40 = v16705 40 := rfl; (try rw [h9]); clear h9; have h9 : v16705 41 = v16705 41 := rfl; (try rw [h9]); clear h9; omega) (by have h9 : v16705 37 = (v 37) := hf16707 37 (by decide); have h8 : v16705 38 = (v 38) := hf16707 38 (by decide); (try rw [h9]); (try rw [h8]); exact hd (by omega))) (cwV 0 hwd (gV wk_1010 wk_1007 wk_1008 wk_1009 wk_5) rfl rfl rfl (by decide +kernel) ⟨Nat.le_of_ble_eq_true rfl, Nat.le_of_ble_eq_true rfl⟩) ⟨PM.blind, va_recv hK hP (ci := 12) (q0 := 0) rfl rfl, fun U hU hW => ⟨rfl, PM.at hK hE hP hS hU hW⟩⟩ rfl rfl hl.1 rfl (lv_room (Nat.le_of_ble_eq_true rfl)) dX12_operand_86 ⟨Nat.le_of_ble_eq_true rfl, Nat.le_of_ble_eq_true rfl⟩) hS (fun q _ h => (freeM hS) q h) (freeM hS) (fun u t H1 locs ht hvm hw hB hz1 hk1 hS => ?_)
          unfold BM at hB
          rw [ht] at hB
          obtain ⟨v16719, F16720, rc9⟩ := u
          obtain ⟨hI, hrc, hf16721, hG16722, hw⟩ := hw
          dsimp only at hI hrc hB hf16721 hG16722 hw
          have hF := frCF (by decide) hG16722 hF
          rw [hrc] at hB
          have hP : va_P (dC, dI) classes (wM g c v16719 F16720 rc) H1 := hB
          have hw : ((v16705 39).toInt ≤ (v16719 39).toInt ∧ (v16719 39).toInt ≤ (v16705 30).toInt ∧ (v16705 38).toInt ≤ (v16719 38).toInt ∧ (v16719 38).toInt - (v16705 38).toInt ≤ (v16719 39).toInt - (v16705 39).toInt ∧ (v16705 41).toInt ≤ (v16719 41).toInt ∧ ((v16719 40).toInt < 0 → (v16719 41).toInt = (v16705 41).toInt)) ∧ keepL (v16705 37) (F16706 28) (F16706 29) (F16720 28) (F16720 29) ∧ ((v16719 40).toInt < 0 → dp (F16720 28) (F16720 29) (bI (v16705 37)) (v16719 38).toInt.toNat = some (d + 1)) := hw
          rw [show v16705 30 = v 30 from hf16707 30 (by decide)] at hw
          rw [show v16705 38 = v 38 from hf16707 38 (by decide)] at hw
          rw [show v16705 37 = v 37 from hf16707 37 (by decide)] at hw
          have hw_r16718 := hw
          have t16723 : 0 ≤ (v16719 38).toInt ∧ (v16719 38).toInt ≤ 120 := hI.1 38 _ _ rfl
          have t16724 : 0 ≤ (v16719 39).toInt ∧ (v16719 39).toInt ≤ 120 := hI.1 39 _ _ rfl
          have t16725 : 0 ≤ (v16719 41).toInt ∧ (v16719 41).toInt ≤ 8 := hI.1 41 _ _ rfl
          generalize H1 = H at hP hS ⊢
          have hk := hk.tr hw_r16718.2.1
          have hd := hw_r16718.2.2
          refine lv_aload_n hx hb dX12_operand_89 rfl (lv_at hl 1 rfl) ?_
          refine va_get (D := (dC, dI)) (ci := 12) (v := .int (v16719 40)) (C := RX12) (T := TX12) (N := 63) hx hb hwd inA_X12 hown hK hP 0 rfl rfl 40 (by decide) (hwd _ wk_1005) (fun _ h9 => h9) rfl dX12_operand_90 ?_
          refine lv_if_lt (tgt := 97) hx hb dX12_operand_93 (by decide) (fun c16726 => ?_) (fun c16726 => ?_)
          · skip
            have t16727 := cv_lt (a := (v16719 40).toInt) rfl (b := 0) (by decide) c16726
            refine lv_aload_n hx hb dX12_operand_97 rfl (lv_at hl 1 rfl) ?_
            have t16728 : 0 ≤ (v 30).toInt ∧ (v 30).toInt ≤ 120 := by have h9 := hI.1 30 _ _ rfl; rw [show v16719 30 = v 30 from (hf16721 30 (by decide)).trans (hf16707 30 (by decide))] at h9; exact h9
            have t16729 : 0 ≤ (v16719 39).toInt ∧ (v16719 39).toInt ≤ 120 := hI.1 39 _ _ rfl
            refine va_calli (va_runV (As := []) (rest := []) ⟨hx, hb, hml, hown, hwd⟩ (c_X12_look l dC dI g c adK adV v16719 F16720 rc H.size  hg hI ) (cwV 0 hwd (gV wk_1017 wk_1014 wk_1015 wk_1016 wk_5) rfl rfl rfl (by decide +kernel) ⟨Nat.le_of_ble_eq_true rfl, Nat.le_of_ble_eq_true rfl⟩) ⟨PM.blind, va_recv hK hP (ci := 12) (q0 := 0) rfl rfl, fun U hU hW => ⟨rfl, PM.at hK hE hP hS hU hW⟩⟩ rfl rfl hl.1 rfl (lv_room (Nat.le_of_ble_eq_true rfl)) dX12_operand_98 ⟨Nat.le_of_ble_eq_true rfl, Nat.le_of_ble_eq_true rfl⟩) hS (fun q _ h => (freeM hS) q h) (freeM hS) (fun r16730 u t H1 locs ht hvm hw hB hz1 hk1 hS => ?_)
            unfold BM at hB
            rw [ht] at hB
            have hP : va_P (dC, dI) classes (wM g c v16719 F16720 rc) H1 := hB
            have hw : r16730.toInt = lkM (v16719 39) (v16719 30) (F16720 24) ∧ ((v16719 39).toInt < (v16719 30).toInt ∨ r16730.toInt = -1) := hw
            rw [show v16719 30 = v 30 from (hf16721 30 (by decide)).trans (hf16707 30 (by decide))] at hw
            rw [hF 24 (by decide)] at hw
            have hw_r16730 := hw
            generalize H1 = H at hP hS ⊢
            refine lv_bipush (v := 41) hx hb dX12_operand_101 (by decide) ?_
            refine lv_icmp_eq (tgt := 111) hx hb dX12_operand_103 (by decide) (fun c16731 => ?_) (fun c16731 => ?_)
            · skip
              have t16732 := cv_eq (a := r16730.toInt) rfl (b := 41) (by decide) c16731
              refine lv_aload_n hx hb dX12_operand_111 rfl (lv_at hl 1 rfl) ?_
              refine lv_dup hx hb dX12_operand_112 rfl ?_
              refine va_get (D := (dC, dI)) (ci := 12) (v := .int (v16719 39)) (C := RX12) (T := TX12) (N := 63) hx hb hwd inA_X12 hown hK hP 0 rfl rfl 39 (by decide) (hwd _ wk_1004) (fun _ h9 => h9) rfl dX12_operand_113 ?_
              have t16733 : 0 ≤ (v16719 39).toInt ∧ (v16719 39).toInt ≤ 120 := hI.1 39 _ _ rfl
              refine lv_iconst (v := 1) hx hb dX12_operand_116 (by decide) ?_
              refine lv_iadd hx hb dX12_operand_117 ?_
              refine lv_topi (fun z16734 e16735 => ?_)
              try (have t16736 := tadd e16735 (a := (v16719 39).toInt) rfl (b := 1) (by decide) (by omega))
              refine va_put (D := (dC, dI)) (ci := 12) (v := .int z16734) (ty := .int) (C := RX12) (T := TX12) (N := 63) (fs := fsM_0 g v16719 rc) hx hb hwd inA_X12 tyX12 tyX12_ok nmX12 hown hK hP (DM hg) hS 0 rfl rfl 39 (by decide) (hwd _ wk_1004) (fun _ h9 => h9) rfl (by decide +kernel) rfl rfl (Nat.le_of_ble_eq_true rfl) dX12_operand_118 (fun H locs hP _ hS => ?_)
              have hP := va_P_eq (pM_39 g c _ _ _ _) hP
              have hI := IM.put hI 39 z16734 rfl (by omega)
              refine lv_aload_n hx hb dX12_operand_121 rfl (lv_at hl 1 rfl) ?_
              refine lv_dup hx hb dX12_operand_122 rfl ?_
              refine va_get (D := (dC, dI)) (ci := 12) (v := .int (v16719 41)) (C := RX12) (T := TX12) (N := 63) hx hb hwd inA_X12 hown hK hP 0 rfl rfl 41 (by decide) (hwd _ wk_1006) (fun _ h9 => h9) rfl dX12_operand_123 ?_
              have t16737 : 0 ≤ (v16719 41).toInt ∧ (v16719 41).toInt ≤ 8 := hI.1 41 _ _ rfl
              refine lv_iconst (v := 1) hx hb dX12_operand_126 (by decide) ?_
              refine lv_isub hx hb dX12_operand_127 ?_
              refine lv_topi (fun z16738 e16739 => ?_)
              try (have t16740 := tsub e16739 (a := (v16719 41).toInt) rfl (b := 1) (by decide) (by omega))
              refine va_put (D := (dC, dI)) (ci := 12) (v := .int z16738) (ty := .int) (C := RX12) (T := TX12) (N := 63) (fs := fsM_0 g (va_up v16719 39 z16734) rc) hx hb hwd inA_X12 tyX12 tyX12_ok nmX12 hown hK hP (DM hg) hS 0 rfl rfl 41 (by decide) (hwd _ wk_1006) (fun _ h9 => h9) rfl (by decide +kernel) rfl rfl (Nat.le_of_ble_eq_true rfl) dX12_operand_128 (fun H locs hP _ hS => ?_)
              have hP := va_P_eq (pM_41 g c _ _ _ _) hP
              have hI := IM.put hI 41 z16738 rfl (by omega)
              refine lv_goto (tgt := 150) hx hb dX12_operand_131 (by decide) ?_
              have hP9 : va_P (dC, dI) classes (wM g c (va_up (va_up v16719 39 z16734) 41 z16738) F16720 rc) H := hP
              exact W.vret hx hb hr (fun t ht hW => ⟨⟨((va_up (va_up v16719 39 z16734) 41 z16738), F16720, rc), rfl, ⟨hI, rfl, (frU (by decide) (frU (by decide) (frC (by decide) hf16721 (frC (by decide) hf16707 (fun _ _ => rfl))))), hF, (by show ((v 39).toInt ≤ z16734.toInt ∧ z16734.toInt ≤ (v 30).toInt ∧ (v 38).toInt ≤ (v16719 38).toInt ∧ (v16719 38).toInt - (v 38).toInt ≤ z16734.toInt - (v 39).toInt ∧ (v 41).toInt ≤ z16738.toInt ∧ ((v16719 40).toInt < 0 → z16738.toInt = (v 41).toInt)) ∧ keepL (v 37) (F 28) (F 29) (F16720 28) (F16720 29) ∧ ((v16719 40).toInt < 0 → dp (F16720 28) (F16720 29) (bI (v 37)) (v16719 38).toInt.toNat = some (d + 1)); exact ⟨by omega, hk, fun hf => (hd (by omega)).trans (congrArg some (by omega))⟩)⟩, (by show va_P _ _ _ t.heap; rw [ht]; exact hP9)⟩, hS.F ht⟩) hS.2.2 dX12_operand_150
            · skip
              have t16741 := cv_ne (a := r16730.toInt) rfl (b := 41) (by decide) c16731
              refine lv_aload_n hx hb dX12_operand_106 rfl (lv_at hl 1 rfl) ?_
              refine va_callv (va_runV (As := []) (rest := []) ⟨hx, hb, hml, hown, hwd⟩ (c_X12_wrong l dC dI g c adK adV v16719 F16720 rc H.size  hg hI ) (cwV 0 hwd (gV wk_1029 wk_1026 wk_1027 wk_1028 wk_5) rfl rfl rfl (by decide +kernel) ⟨Nat.le_of_ble_eq_true rfl, Nat.le_of_ble_eq_true rfl⟩) ⟨PM.blind, va_recv hK hP (ci := 12) (q0 := 0) rfl rfl, fun U hU hW => ⟨rfl, PM.at hK hE hP hS hU hW⟩⟩ rfl rfl hl.1 rfl (lv_room (Nat.le_of_ble_eq_true rfl)) dX12_operand_107 ⟨Nat.le_of_ble_eq_true rfl, Nat.le_of_ble_eq_true rfl⟩) hS (fun q _ h => (freeM hS) q h) (freeM hS) (fun u t H1 locs ht hvm hw hB hz1 hk1 hS => ?_)
              unfold BM at hB
              rw [ht] at hB
              obtain ⟨v16743, F16744, rc9⟩ := u
              obtain ⟨hI, hrc, hf16745, hG16746, hw⟩ := hw
              dsimp only at hI hrc hB hf16745 hG16746 hw
              have hF := frCF (by decide) hG16746 hF
              rw [hrc] at hB
              have hP : va_P (dC, dI) classes (wM g c v16743 F16744 rc) H1 := hB
              have hw : 0 ≤ (v16743 40).toInt := hw
              have hw_r16742 := hw
              generalize H1 = H at hP hS ⊢
              have hk : keepL (v 37) (F 28) (F 29) (F16744 28) (F16744 29) := by rw [hG16746 28 (by decide), hG16746 29 (by decide)]; exact hk
              have hd : (v16743 40).toInt < 0 → dp (F16744 28) (F16744 29) (bI (v 37)) (v16719 38).toInt.toNat = some (d + 1) := fun hf => (by rw [hG16746 28 (by decide), hG16746 29 (by decide)]; exact hd (by omega))
              have hP9 : va_P (dC, dI) classes (wM g c v16743 F16744 rc) H := hP
              exact W.vret hx hb hr (fun t ht hW => ⟨⟨(v16743, F16744, rc), rfl, ⟨hI, rfl, (frC (by decide) hf16745 (frC (by decide) hf16721 (frC (by decide) hf16707 (fun _ _ => rfl)))), hF, (by show ((v 39).toInt ≤ (v16743 39).toInt ∧ (v16743 39).toInt ≤ (v 30).toInt ∧ (v 38).toInt ≤ (v16743 38).toInt ∧ (v16743 38).toInt - (v 38).toInt ≤ (v16743 39).toInt - (v 39).toInt ∧ (v 41).toInt ≤ (v16743 41).toInt ∧ ((v16743 40).toInt < 0 → (v16743 41).toInt = (v 41).toInt)) ∧ keepL (v 37) (F 28) (F 29) (F16744 28) (F16744 29) ∧ ((v16743 40).toInt < 0 → dp (F16744 28) (F16744 29) (bI (v 37)) (v16743 38).toInt.toNat = some (d + 1)); rw [show v16743 39 = v16719 39 from hf16745 39 (by decide)]; rw [show v16743 38 = v16719 38 from hf16745 38 (by decide)]; rw [show v16743 41 = v16719 41 from hf16745 41 (by decide)]; exact ⟨by omega, hk, fun hf => (hd (by omega)).trans (congrArg some (by omega))⟩)⟩, (by show va_P _ _ _ t.heap; rw [ht]; exact hP9)⟩, hS.F ht⟩) hS.2.2 dX12_operand_110
          · skip
            have t16747 := cv_nlt (a := (v16719 40).toInt) rfl (b := 0) (by decide) c16726
            have hP9 : va_P (dC, dI) classes (wM g c v16719 F16720 rc) H := hP
            exact W.vret hx hb hr (fun t ht hW => ⟨⟨(v16719, F16720, rc), rfl, ⟨hI, rfl, (frC (by decide) hf16721 (frC (by decide) hf16707 (fun _ _ => rfl))), hF, (by show ((v 39).toInt ≤ (v16719 39).toInt ∧ (v16719 39).toInt ≤ (v 30).toInt ∧ (v 38).toInt ≤ (v16719 38).toInt ∧ (v16719 38).toInt - (v 38).toInt ≤ (v16719 39).toInt - (v 39).toInt ∧ (v 41).toInt ≤ (v16719 41).toInt ∧ ((v16719 40).toInt < 0 → (v16719 41).toInt = (v 41).toInt)) ∧ keepL (v 37) (F 28) (F 29) (F16720 28) (F16720 29) ∧ ((v16719 40).toInt < 0 → dp (F16720 28) (F16720 29) (bI (v 37)) (v16719 38).toInt.toNat = some (d + 1)); exact ⟨by omega, hk, fun hf => (hd (by omega)).trans (congrArg some (by omega))⟩)⟩, (by show va_P _ _ _ t.heap; rw [ht]; exact hP9)⟩, hS.F ht⟩) hS.2.2 dX12_operand_96
        · skip
          have t16748 := cv_eq (a := r16704.toInt) rfl (b := 0) (by decide) c16711
          have hP9 : va_P (dC, dI) classes (wM g c v16705 F16706 rc) H := hP
          exact W.vret hx hb hr (fun t ht hW => ⟨⟨(v16705, F16706, rc), rfl, ⟨hI, rfl, (frC (by decide) hf16707 (fun _ _ => rfl)), hF, (by show ((v 39).toInt ≤ (v16705 39).toInt ∧ (v16705 39).toInt ≤ (v 30).toInt ∧ (v 38).toInt ≤ (v16705 38).toInt ∧ (v16705 38).toInt - (v 38).toInt ≤ (v16705 39).toInt - (v 39).toInt ∧ (v 41).toInt ≤ (v16705 41).toInt ∧ ((v16705 40).toInt < 0 → (v16705 41).toInt = (v 41).toInt)) ∧ keepL (v 37) (F 28) (F 29) (F16706 28) (F16706 29) ∧ ((v16705 40).toInt < 0 → dp (F16706 28) (F16706 29) (bI (v 37)) (v16705 38).toInt.toNat = some (d + 1)); rw [show v16705 38 = v 38 from hf16707 38 (by decide)]; exact ⟨by omega, hk, fun hf => (hd (by omega)).trans (congrArg some (by omega))⟩)⟩, (by show va_P _ _ _ t.heap; rw [ht]; exact hP9)⟩, hS.F ht⟩) hS.2.2 dX12_operand_84
    · skip
      have t16749 := cv_eq (a := r16673.toInt) rfl (b := 45) (by decide) c16677
      refine lv_aload_n hx hb dX12_operand_40 rfl (lv_at hl 1 rfl) ?_
      have t16750 : 0 ≤ (v 39).toInt ∧ (v 39).toInt ≤ 120 := hI.1 39 _ _ rfl
      have t16751 : 0 ≤ (v 41).toInt ∧ (v 41).toInt ≤ 8 := hI.1 41 _ _ rfl
      refine va_calli (va_runV (As := []) (rest := []) ⟨hx, hb, hml, hown, hwd⟩ (c_X12_opens l dC dI g c adK adV v F rc H.size  hg hI (by have h9 : v 39 = v 39 := rfl; (try rw [h9]); clear h9; have h9 : v 30 = v 30 := rfl; (try rw [h9]); clear h9; omega)) (cwV 0 hwd (gV wk_1025 wk_1022 wk_1023 wk_1024 wk_5) rfl rfl rfl (by decide +kernel) ⟨Nat.le_of_ble_eq_true rfl, Nat.le_of_ble_eq_true rfl⟩) ⟨PM.blind, va_recv hK hP (ci := 12) (q0 := 0) rfl rfl, fun U hU hW => ⟨rfl, PM.at hK hE hP hS hU hW⟩⟩ rfl rfl hl.1 rfl (lv_room (Nat.le_of_ble_eq_true rfl)) dX12_operand_41 ⟨Nat.le_of_ble_eq_true rfl, Nat.le_of_ble_eq_true rfl⟩) hS (fun q _ h => (freeM hS) q h) (freeM hS) (fun r16752 u t H1 locs ht hvm hw hB hz1 hk1 hS => ?_)
      unfold BM at hB
      rw [ht] at hB
      obtain ⟨v16753, F16754, rc9⟩ := u
      obtain ⟨hI, hrc, hf16755, hG16756, hw⟩ := hw
      dsimp only at hI hrc hB hf16755 hG16756 hw
      have hF := frCF (by decide) hG16756 hF
      rw [hrc] at hB
      have hP : va_P (dC, dI) classes (wM g c v16753 F16754 rc) H1 := hB
      have hw : (r16752.toInt = 1 ∧ (v 41).toInt < 8 ∧ (v16753 41).toInt = (v 41).toInt + 1 ∧ (v16753 39).toInt = (v 39).toInt + 1 ∧ (v16753 40).toInt = (v 40).toInt) ∨ (r16752.toInt = 0 ∧ (v 41).toInt = 8 ∧ 0 ≤ (v16753 40).toInt ∧ (v16753 41).toInt = (v 41).toInt ∧ (v16753 39).toInt = (v 39).toInt) := hw
      have hw_r16752 := hw
      have t16757 : 0 ≤ (v16753 39).toInt ∧ (v16753 39).toInt ≤ 120 := hI.1 39 _ _ rfl
      have t16758 : 0 ≤ (v16753 41).toInt ∧ (v16753 41).toInt ≤ 8 := hI.1 41 _ _ rfl
      generalize H1 = H at hP hS ⊢
      have hk : keepL (v 37) (F 28) (F 29) (F16754 28) (F16754 29) := by rw [hG16756 28 (by decide), hG16756 29 (by decide)]; exact hk
      have hd : (v16753 40).toInt < 0 → dp (F16754 28) (F16754 29) (bI (v 37)) (v 38).toInt.toNat = some d := fun hf => (by rw [hG16756 28 (by decide), hG16756 29 (by decide)]; exact hd (by omega))
      refine lv_if_ne (tgt := 48) hx hb dX12_operand_44 (by decide) (fun c16759 => ?_) (fun c16759 => ?_)
      · skip
        have t16760 := cv_ne (a := r16752.toInt) rfl (b := 0) (by decide) c16759
        refine lv_aload_n hx hb dX12_operand_48 rfl (lv_at hl 1 rfl) ?_
        have t16761 : 0 ≤ (v 30).toInt ∧ (v 30).toInt ≤ 120 := by have h9 := hI.1 30 _ _ rfl; rw [show v16753 30 = v 30 from hf16755 30 (by decide)] at h9; exact h9
        have t16762 : 0 ≤ (v 37).toInt ∧ (v 37).toInt ≤ 9 := by have h9 := hI.1 37 _ _ rfl; rw [show v16753 37 = v 37 from hf16755 37 (by decide)] at h9; exact h9
        have t16763 : 0 ≤ (v 38).toInt ∧ (v 38).toInt ≤ 120 := by have h9 := hI.1 38 _ _ rfl; rw [show v16753 38 = v 38 from hf16755 38 (by decide)] at h9; exact h9
        have t16764 : 0 ≤ (v16753 39).toInt ∧ (v16753 39).toInt ≤ 120 := hI.1 39 _ _ rfl
        have t16765 : 0 ≤ (v16753 41).toInt ∧ (v16753 41).toInt ≤ 8 := hI.1 41 _ _ rfl
        refine va_callv (va_runV (As := []) (rest := []) ⟨hx, hb, hml, hown, hwd⟩ (c_X12_operand_5 l dC dI g c adK adV v16753 F16754 rc H.size  d hg hI (by have h9 : v16753 38 = v 38 := hf16755 38 (by decide); (try rw [h9]); clear h9; have h9 : v16753 39 = v16753 39 := rfl; (try rw [h9]); clear h9; have h9 : v16753 30 = v 30 := hf16755 30 (by decide); (try rw [h9]); clear h9; have h9 : v16753 40 = v16753 40 := rfl; (try rw [h9]); clear h9; have h9 : v16753 41 = v16753 41 := rfl; (try rw [h9]); clear h9; omega) (by have h9 : v16753 37 = (v 37) := hf16755 37 (by decide); have h8 : v16753 38 = (v 38) := hf16755 38 (by decide); (try rw [h9]); (try rw [h8]); exact hd (by omega))) (cwV 0 hwd (gV wk_1030 wk_1035 wk_1036 wk_1037 wk_5) rfl rfl rfl (by decide +kernel) ⟨Nat.le_of_ble_eq_true rfl, Nat.le_of_ble_eq_true rfl⟩) ⟨PM.blind, va_recv hK hP (ci := 12) (q0 := 0) rfl rfl, fun U hU hW => ⟨rfl, PM.at hK hE hP hS hU hW⟩⟩ rfl rfl hl.1 rfl (lv_room (Nat.le_of_ble_eq_true rfl)) dX12_operand_49 ⟨Nat.le_of_ble_eq_true rfl, Nat.le_of_ble_eq_true rfl⟩) hS (fun q _ h => (freeM hS) q h) (freeM hS) (fun u t H1 locs ht hvm hw hB hz1 hk1 hS => ?_)
        unfold BM at hB
        rw [ht] at hB
        obtain ⟨v16767, F16768, rc9⟩ := u
        obtain ⟨hI, hrc, hf16769, hG16770, hw⟩ := hw
        dsimp only at hI hrc hB hf16769 hG16770 hw
        have hF := frCF (by decide) hG16770 hF
        rw [hrc] at hB
        have hP : va_P (dC, dI) classes (wM g c v16767 F16768 rc) H1 := hB
        have hw : ((v16753 39).toInt ≤ (v16767 39).toInt ∧ (v16767 39).toInt ≤ (v16753 30).toInt ∧ (v16753 38).toInt ≤ (v16767 38).toInt ∧ (v16767 38).toInt - (v16753 38).toInt ≤ (v16767 39).toInt - (v16753 39).toInt ∧ (v16753 41).toInt ≤ (v16767 41).toInt ∧ ((v16767 40).toInt < 0 → (v16767 41).toInt = (v16753 41).toInt)) ∧ keepL (v16753 37) (F16754 28) (F16754 29) (F16768 28) (F16768 29) ∧ ((v16767 40).toInt < 0 → dp (F16768 28) (F16768 29) (bI (v16753 37)) (v16767 38).toInt.toNat = some (d + 1)) := hw
        rw [show v16753 30 = v 30 from hf16755 30 (by decide)] at hw
        rw [show v16753 38 = v 38 from hf16755 38 (by decide)] at hw
        rw [show v16753 37 = v 37 from hf16755 37 (by decide)] at hw
        have hw_r16766 := hw
        have t16771 : 0 ≤ (v16767 38).toInt ∧ (v16767 38).toInt ≤ 120 := hI.1 38 _ _ rfl
        have t16772 : 0 ≤ (v16767 39).toInt ∧ (v16767 39).toInt ≤ 120 := hI.1 39 _ _ rfl
        have t16773 : 0 ≤ (v16767 41).toInt ∧ (v16767 41).toInt ≤ 8 := hI.1 41 _ _ rfl
        generalize H1 = H at hP hS ⊢
        have hk := hk.tr hw_r16766.2.1
        have hd := hw_r16766.2.2
        refine lv_aload_n hx hb dX12_operand_52 rfl (lv_at hl 1 rfl) ?_
        refine lv_iconst (v := 3) hx hb dX12_operand_53 (by decide) ?_
        refine lv_iconst (v := 0) hx hb dX12_operand_54 (by decide) ?_
        have t16774 : 0 ≤ (v 37).toInt ∧ (v 37).toInt ≤ 9 := by have h9 := hI.1 37 _ _ rfl; rw [show v16767 37 = v 37 from (hf16769 37 (by decide)).trans (hf16755 37 (by decide))] at h9; exact h9
        have t16775 : 0 ≤ (v16767 38).toInt ∧ (v16767 38).toInt ≤ 120 := hI.1 38 _ _ rfl
        refine va_callv (va_runV (As := [.int 3, .int 0]) (rest := []) ⟨hx, hb, hml, hown, hwd⟩ (c_X12_lay l dC dI g c adK adV v16767 F16768 rc H.size 3 0 hg hI (by have h9 : v16767 38 = v16767 38 := rfl; rw [h9]; omega)) (cwV 2 hwd (gV wk_1021 wk_1018 wk_1019 wk_1020 wk_5) rfl rfl rfl (by decide +kernel) ⟨Nat.le_of_ble_eq_true rfl, Nat.le_of_ble_eq_true rfl⟩) ⟨PM.blind, va_recv hK hP (ci := 12) (q0 := 0) rfl rfl, fun U hU hW => ⟨rfl, PM.at hK hE hP hS hU hW⟩⟩ rfl rfl hl.1 rfl (lv_room (Nat.le_of_ble_eq_true rfl)) dX12_operand_55 ⟨Nat.le_of_ble_eq_true rfl, Nat.le_of_ble_eq_true rfl⟩) hS (fun q _ h => (freeM hS) q h) (freeM hS) (fun u t H1 locs ht hvm hw hB hz1 hk1 hS => ?_)
        unfold BM at hB
        rw [ht] at hB
        obtain ⟨v16777, F16778, rc9⟩ := u
        obtain ⟨hI, hrc, hf16779, hG16780, hw⟩ := hw
        dsimp only at hI hrc hB hf16779 hG16780 hw
        have hF := frCF (by decide) hG16780 hF
        rw [hrc] at hB
        have hP : va_P (dC, dI) classes (wM g c v16777 F16778 rc) H1 := hB
        have hw : (v16777 38).toInt = (v16767 38).toInt + 1 ∧ keepL (v16767 37) (F16768 28) (F16768 29) (F16778 28) (F16778 29) ∧ dp (F16778 28) (F16778 29) (bI (v16767 37)) ((v16767 38).toInt.toNat + 1) = dpS (dp (F16768 28) (F16768 29) (bI (v16767 37)) (v16767 38).toInt.toNat) (3 : Int32) (0 : Int32) := hw
        rw [show v16767 37 = v 37 from (hf16769 37 (by decide)).trans (hf16755 37 (by decide))] at hw
        have hw_r16776 := hw
        have t16781 : 0 ≤ (v16777 38).toInt ∧ (v16777 38).toInt ≤ 120 := hI.1 38 _ _ rfl
        have k16782 : (3 : Int32).toInt = 3 := by decide
        have k16783 : (0 : Int32).toInt = 0 := by decide
        generalize H1 = H at hP hS ⊢
        have hk := hk.tr hw_r16776.2.1
        have hd : (v16767 40).toInt < 0 → dp (F16778 28) (F16778 29) (bI (v 37)) (v16777 38).toInt.toNat = some (d + 1) := fun hf => (by have e9 : (v16777 38).toInt.toNat = (v16767 38).toInt.toNat + 1 := (by omega); rw [e9, hw_r16776.2.2, hd hf]; exact dpS_3 (by decide) (by omega))
        refine lv_aload_n hx hb dX12_operand_58 rfl (lv_at hl 1 rfl) ?_
        refine lv_dup hx hb dX12_operand_59 rfl ?_
        refine va_get (D := (dC, dI)) (ci := 12) (v := .int (v16777 41)) (C := RX12) (T := TX12) (N := 63) hx hb hwd inA_X12 hown hK hP 0 rfl rfl 41 (by decide) (hwd _ wk_1006) (fun _ h9 => h9) rfl dX12_operand_60 ?_
        refine my_top (v := v16767 41) (hf16779 41 (by decide)) ?_
        have t16784 : 0 ≤ (v16767 41).toInt ∧ (v16767 41).toInt ≤ 8 := by have h9 := hI.1 41 _ _ rfl; rw [show v16777 41 = v16767 41 from hf16779 41 (by decide)] at h9; exact h9
        refine lv_iconst (v := 1) hx hb dX12_operand_63 (by decide) ?_
        refine lv_isub hx hb dX12_operand_64 ?_
        refine lv_topi (fun z16785 e16786 => ?_)
        try (have t16787 := tsub e16786 (a := (v16767 41).toInt) rfl (b := 1) (by decide) (by omega))
        refine va_put (D := (dC, dI)) (ci := 12) (v := .int z16785) (ty := .int) (C := RX12) (T := TX12) (N := 63) (fs := fsM_0 g v16777 rc) hx hb hwd inA_X12 tyX12 tyX12_ok nmX12 hown hK hP (DM hg) hS 0 rfl rfl 41 (by decide) (hwd _ wk_1006) (fun _ h9 => h9) rfl (by decide +kernel) rfl rfl (Nat.le_of_ble_eq_true rfl) dX12_operand_65 (fun H locs hP _ hS => ?_)
        have hP := va_P_eq (pM_41 g c _ _ _ _) hP
        have hI := IM.put hI 41 z16785 rfl (by omega)
        refine lv_goto (tgt := 150) hx hb dX12_operand_68 (by decide) ?_
        have hP9 : va_P (dC, dI) classes (wM g c (va_up v16777 41 z16785) F16778 rc) H := hP
        exact W.vret hx hb hr (fun t ht hW => ⟨⟨((va_up v16777 41 z16785), F16778, rc), rfl, ⟨hI, rfl, (frU (by decide) (frC (by decide) hf16779 (frC (by decide) hf16769 (frC (by decide) hf16755 (fun _ _ => rfl))))), hF, (by show ((v 39).toInt ≤ ((va_up v16777 41 z16785) 39).toInt ∧ ((va_up v16777 41 z16785) 39).toInt ≤ (v 30).toInt ∧ (v 38).toInt ≤ (v16777 38).toInt ∧ (v16777 38).toInt - (v 38).toInt ≤ ((va_up v16777 41 z16785) 39).toInt - (v 39).toInt ∧ (v 41).toInt ≤ z16785.toInt ∧ (((va_up v16777 41 z16785) 40).toInt < 0 → z16785.toInt = (v 41).toInt)) ∧ keepL (v 37) (F 28) (F 29) (F16778 28) (F16778 29) ∧ (((va_up v16777 41 z16785) 40).toInt < 0 → dp (F16778 28) (F16778 29) (bI (v 37)) (v16777 38).toInt.toNat = some (d + 1)); rw [show (va_up v16777 41 z16785) 39 = v16767 39 from hf16779 39 (by decide)]; rw [show (va_up v16777 41 z16785) 40 = v16767 40 from hf16779 40 (by decide)]; exact ⟨by omega, hk, fun hf => (hd (by omega)).trans (congrArg some (by omega))⟩)⟩, (by show va_P _ _ _ t.heap; rw [ht]; exact hP9)⟩, hS.F ht⟩) hS.2.2 dX12_operand_150
      · skip
        have t16788 := cv_eq (a := r16752.toInt) rfl (b := 0) (by decide) c16759
        have hP9 : va_P (dC, dI) classes (wM g c v16753 F16754 rc) H := hP
        exact W.vret hx hb hr (fun t ht hW => ⟨⟨(v16753, F16754, rc), rfl, ⟨hI, rfl, (frC (by decide) hf16755 (fun _ _ => rfl)), hF, (by show ((v 39).toInt ≤ (v16753 39).toInt ∧ (v16753 39).toInt ≤ (v 30).toInt ∧ (v 38).toInt ≤ (v16753 38).toInt ∧ (v16753 38).toInt - (v 38).toInt ≤ (v16753 39).toInt - (v 39).toInt ∧ (v 41).toInt ≤ (v16753 41).toInt ∧ ((v16753 40).toInt < 0 → (v16753 41).toInt = (v 41).toInt)) ∧ keepL (v 37) (F 28) (F 29) (F16754 28) (F16754 29) ∧ ((v16753 40).toInt < 0 → dp (F16754 28) (F16754 29) (bI (v 37)) (v16753 38).toInt.toNat = some (d + 1)); rw [show v16753 38 = v 38 from hf16755 38 (by decide)]; exact ⟨by omega, hk, fun hf => (hd (by omega)).trans (congrArg some (by omega))⟩)⟩, (by show va_P _ _ _ t.heap; rw [ht]; exact hP9)⟩, hS.F ht⟩) hS.2.2 dX12_operand_47
  · skip
    have t16789 := cv_nlt (a := r16674.toInt) rfl (b := 0) (by decide) c16675
    refine lv_aload_n hx hb dX12_operand_12 rfl (lv_at hl 1 rfl) ?_
    refine lv_iconst (v := 2) hx hb dX12_operand_13 (by decide) ?_
    refine lv_iload_n hx hb dX12_operand_14 rfl (lv_at hl 0 rfl) ?_
    refine va_calli (va_runS (As := [.int r16673]) (rest := [.int 2, .ref (g 0)]) ⟨hx, hb, hml, hown, hwd⟩ (c_X12_nameOf l dC dI g c adK adV v F rc H.size r16673 hg hI ) (va_cwS 1 hwd (gT wk_1034 wk_1032 wk_1033 wk_5) rfl rfl rfl (by decide +kernel) ⟨Nat.le_of_ble_eq_true rfl, Nat.le_of_ble_eq_true rfl⟩) ⟨PM.blind, fun U hU hW => ⟨rfl, PM.at hK hE hP hS hU hW⟩⟩ rfl rfl hl.1 rfl (lv_room (Nat.le_of_ble_eq_true rfl)) dX12_operand_15 ⟨Nat.le_of_ble_eq_true rfl, Nat.le_of_ble_eq_true rfl⟩) hS (fun q _ h => (freeM hS) q h) (freeM hS) (fun r16790 u t H1 locs ht hvm hw hB hz1 hk1 hS => ?_)
    unfold BM at hB
    rw [ht] at hB
    have hP : va_P (dC, dI) classes (wM g c v F rc) H1 := hB
    have hw : r16790.toInt = nmM r16673 ∧ (-1 ≤ r16790.toInt ∧ r16790.toInt ≤ 5) := hw
    have hw_r16790 := hw
    generalize H1 = H at hP hS ⊢
    have np_r16790 := nmM_pos r16673
    have t16791 : 0 ≤ (v 37).toInt ∧ (v 37).toInt ≤ 9 := hI.1 37 _ _ rfl
    have t16792 : 0 ≤ (v 38).toInt ∧ (v 38).toInt ≤ 120 := hI.1 38 _ _ rfl
    refine va_callv (va_runV (As := [.int 2, .int r16790]) (rest := []) ⟨hx, hb, hml, hown, hwd⟩ (c_X12_lay l dC dI g c adK adV v F rc H.size 2 r16790 hg hI (by have h9 : v 38 = v 38 := rfl; rw [h9]; omega)) (cwV 2 hwd (gV wk_1021 wk_1018 wk_1019 wk_1020 wk_5) rfl rfl rfl (by decide +kernel) ⟨Nat.le_of_ble_eq_true rfl, Nat.le_of_ble_eq_true rfl⟩) ⟨PM.blind, va_recv hK hP (ci := 12) (q0 := 0) rfl rfl, fun U hU hW => ⟨rfl, PM.at hK hE hP hS hU hW⟩⟩ rfl rfl hl.1 rfl (lv_room (Nat.le_of_ble_eq_true rfl)) dX12_operand_18 ⟨Nat.le_of_ble_eq_true rfl, Nat.le_of_ble_eq_true rfl⟩) hS (fun q _ h => (freeM hS) q h) (freeM hS) (fun u t H1 locs ht hvm hw hB hz1 hk1 hS => ?_)
    unfold BM at hB
    rw [ht] at hB
    obtain ⟨v16794, F16795, rc9⟩ := u
    obtain ⟨hI, hrc, hf16796, hG16797, hw⟩ := hw
    dsimp only at hI hrc hB hf16796 hG16797 hw
    have hF := frCF (by decide) hG16797 hF
    rw [hrc] at hB
    have hP : va_P (dC, dI) classes (wM g c v16794 F16795 rc) H1 := hB
    have hw : (v16794 38).toInt = (v 38).toInt + 1 ∧ keepL (v 37) (F 28) (F 29) (F16795 28) (F16795 29) ∧ dp (F16795 28) (F16795 29) (bI (v 37)) ((v 38).toInt.toNat + 1) = dpS (dp (F 28) (F 29) (bI (v 37)) (v 38).toInt.toNat) (2 : Int32) r16790 := hw
    have hw_r16793 := hw
    have t16798 : 0 ≤ (v16794 38).toInt ∧ (v16794 38).toInt ≤ 120 := hI.1 38 _ _ rfl
    have k16799 : (2 : Int32).toInt = 2 := by decide
    generalize H1 = H at hP hS ⊢
    have hk := hk.tr hw_r16793.2.1
    have hd : (v 40).toInt < 0 → dp (F16795 28) (F16795 29) (bI (v 37)) (v16794 38).toInt.toNat = some (d + 1) := fun hf => (by have e9 : (v16794 38).toInt.toNat = (v 38).toInt.toNat + 1 := (by omega); rw [e9, hw_r16793.2.2, hd hf]; exact dpS_2 (by decide) (by omega))
    refine lv_aload_n hx hb dX12_operand_21 rfl (lv_at hl 1 rfl) ?_
    refine lv_dup hx hb dX12_operand_22 rfl ?_
    refine va_get (D := (dC, dI)) (ci := 12) (v := .int (v16794 39)) (C := RX12) (T := TX12) (N := 63) hx hb hwd inA_X12 hown hK hP 0 rfl rfl 39 (by decide) (hwd _ wk_1004) (fun _ h9 => h9) rfl dX12_operand_23 ?_
    refine my_top (v := v 39) (hf16796 39 (by decide)) ?_
    have t16800 : 0 ≤ (v 39).toInt ∧ (v 39).toInt ≤ 120 := by have h9 := hI.1 39 _ _ rfl; rw [show v16794 39 = v 39 from hf16796 39 (by decide)] at h9; exact h9
    refine lv_iconst (v := 1) hx hb dX12_operand_26 (by decide) ?_
    refine lv_iadd hx hb dX12_operand_27 ?_
    refine lv_topi (fun z16801 e16802 => ?_)
    try (have t16803 := tadd e16802 (a := (v 39).toInt) rfl (b := 1) (by decide) (by omega))
    refine va_put (D := (dC, dI)) (ci := 12) (v := .int z16801) (ty := .int) (C := RX12) (T := TX12) (N := 63) (fs := fsM_0 g v16794 rc) hx hb hwd inA_X12 tyX12 tyX12_ok nmX12 hown hK hP (DM hg) hS 0 rfl rfl 39 (by decide) (hwd _ wk_1004) (fun _ h9 => h9) rfl (by decide +kernel) rfl rfl (Nat.le_of_ble_eq_true rfl) dX12_operand_28 (fun H locs hP _ hS => ?_)
    have hP := va_P_eq (pM_39 g c _ _ _ _) hP
    have hI := IM.put hI 39 z16801 rfl (by omega)
    refine lv_goto (tgt := 150) hx hb dX12_operand_31 (by decide) ?_
    have hP9 : va_P (dC, dI) classes (wM g c (va_up v16794 39 z16801) F16795 rc) H := hP
    exact W.vret hx hb hr (fun t ht hW => ⟨⟨((va_up v16794 39 z16801), F16795, rc), rfl, ⟨hI, rfl, (frU (by decide) (frC (by decide) hf16796 (fun _ _ => rfl))), hF, (by show ((v 39).toInt ≤ z16801.toInt ∧ z16801.toInt ≤ (v 30).toInt ∧ (v 38).toInt ≤ (v16794 38).toInt ∧ (v16794 38).toInt - (v 38).toInt ≤ z16801.toInt - (v 39).toInt ∧ (v 41).toInt ≤ ((va_up v16794 39 z16801) 41).toInt ∧ (((va_up v16794 39 z16801) 40).toInt < 0 → ((va_up v16794 39 z16801) 41).toInt = (v 41).toInt)) ∧ keepL (v 37) (F 28) (F 29) (F16795 28) (F16795 29) ∧ (((va_up v16794 39 z16801) 40).toInt < 0 → dp (F16795 28) (F16795 29) (bI (v 37)) (v16794 38).toInt.toNat = some (d + 1)); rw [show (va_up v16794 39 z16801) 41 = v 41 from hf16796 41 (by decide)]; rw [show (va_up v16794 39 z16801) 40 = v 40 from hf16796 40 (by decide)]; exact ⟨by omega, hk, fun hf => (hd (by omega)).trans (congrArg some (by omega))⟩)⟩, (by show va_P _ _ _ t.heap; rw [ht]; exact hP9)⟩, hS.F ht⟩) hS.2.2 dX12_operand_150
set_option maxHeartbeats 8000000 in
set_option maxRecDepth 100000 in
theorem c_X12_product_4 (l : Launch) (dC : Nat → ClassId) (dI : Nat → Nat → Nat) (g : Nat → Nat) (c : Nat → ClassId) (adK adV : Nat → Nat) (v : Nat → Int32) (F : Nat → Nat → Int32) (rc sz : Nat) (d : Nat) (hg : injM g) (hI : IM v F) (hq : (v 38).toInt ≤ (v 39).toInt ∧ (v 39).toInt ≤ (v 30).toInt ∧ (v 40).toInt < 0 ∧ (v 41).toInt = 4) (hdp : dp (F 28) (F 29) (bI (v 37)) (v 38).toInt.toNat = some d) : Met l yX12_product (Cond.code yX12_product cX12_product 2 none :: wA) ({ frames := 20, cells := 0, slots := 0, locals := 800 }) (va_Pc [.ref (g 0)] (PM dC dI g c adK adV v F rc sz)) (va_Qv (fun (u : StM) => IM u.1 u.2.1 ∧ u.2.2 = rc ∧ (∀ k, k ∉ ([38, 39, 40, 41, 42] : List Nat) → u.1 k = v k) ∧ (∀ k, k ∉ ([28, 29] : List Nat) → u.2.1 k = F k) ∧ (((v 39).toInt ≤ (u.1 39).toInt ∧ (u.1 39).toInt ≤ (v 30).toInt ∧ (v 38).toInt ≤ (u.1 38).toInt ∧ (u.1 38).toInt - (v 38).toInt ≤ (u.1 39).toInt - (v 39).toInt ∧ (v 41).toInt ≤ (u.1 41).toInt ∧ ((u.1 40).toInt < 0 → (u.1 41).toInt = (v 41).toInt)) ∧ keepL (v 37) (F 28) (F 29) (u.2.1 28) (u.2.1 29) ∧ ((u.1 40).toInt < 0 → dp (u.2.1 28) (u.2.1 29) (bI (v 37)) (u.1 38).toInt.toNat = some (d + 1)))) (BM dC dI g c) (AM g sz)) 0 0 (AM g sz) := by
  refine Met.ofW (cc := cX12_product) (maxL := 2) (ret := none) (by decide) rfl ?_
  intro p e s m args below meth c0 s₁ B hml hv
  obtain ⟨rfl, hsz, hP, hK, hE⟩ := hv
  have hx := B.exec
  have hb := B.bytes
  have hr := B.returns
  have hts := atoms_spec (ws := Cond.code yX12_product cX12_product 2 none :: wA) B.pre
  have hwd : ∀ w ∈ wA, w.before _ s = true := fun w h => hts w (List.mem_cons_of_mem _ h)
  have hown : s.vm.findClass RX12 = some m.cls := findClass_of_methodNamed B.named
  have hlocks := B.notSynchronized
  subst hsz
  have hl := lv_entry ([.ref (g 0)]) (n := 2) (Nat.le_of_ble_eq_true rfl)
  rw [lg_entry_eq]
  generalize (lg_sl ([.ref (g 0)]) ++ List.replicate (2 - (lg_sl ([.ref (g 0)])).length) Slot.unset).toArray = ls at hl ⊢
  have hl : lv_has ls 2 [(0, .ref (g 0))] := hl
  obtain ⟨H, eH⟩ : ∃ z, z = s.heap := ⟨_, rfl⟩
  have hP : va_P (dC, dI) classes (wM g c v F rc) H := by rw [eH]; exact hP
  have hS : va_S (AM g s.heap.size) s.heap H [] := by rw [eH]; exact va_S.rf
  refine my_heap eH ?_
  have hF : ∀ k, k ∉ ([28, 29] : List Nat) → F k = F k := fun _ _ => rfl
  have hb30 : 0 ≤ (v 30).toInt ∧ (v 30).toInt ≤ 120 := hI.1 30 _ _ rfl
  have hb37 : 0 ≤ (v 37).toInt ∧ (v 37).toInt ≤ 9 := hI.1 37 _ _ rfl
  have hb38 : 0 ≤ (v 38).toInt ∧ (v 38).toInt ≤ 120 := hI.1 38 _ _ rfl
  have hb39 : 0 ≤ (v 39).toInt ∧ (v 39).toInt ≤ 120 := hI.1 39 _ _ rfl
  have hb41 : 0 ≤ (v 41).toInt ∧ (v 41).toInt ≤ 8 := hI.1 41 _ _ rfl
  have hk : keepL (v 37) (F 28) (F 29) (F 28) (F 29) := keepL.rf
  have hd : (v 40).toInt < 0 → dp (F 28) (F 29) (bI (v 37)) (v 38).toInt.toNat = some d := fun _ => hdp
  refine lv_aload_n hx hb dX12_product_0 rfl (lv_at hl 0 rfl) ?_
  have t16894 : 0 ≤ (v 30).toInt ∧ (v 30).toInt ≤ 120 := hI.1 30 _ _ rfl
  have t16895 : 0 ≤ (v 37).toInt ∧ (v 37).toInt ≤ 9 := hI.1 37 _ _ rfl
  have t16896 : 0 ≤ (v 38).toInt ∧ (v 38).toInt ≤ 120 := hI.1 38 _ _ rfl
  have t16897 : 0 ≤ (v 39).toInt ∧ (v 39).toInt ≤ 120 := hI.1 39 _ _ rfl
  have t16898 : 0 ≤ (v 41).toInt ∧ (v 41).toInt ≤ 8 := hI.1 41 _ _ rfl
  refine va_callv (va_runV (As := []) (rest := []) ⟨hx, hb, hml, hown, hwd⟩ (c_X12_operand_4 l dC dI g c adK adV v F rc H.size  d hg hI (by have h9 : v 38 = v 38 := rfl; (try rw [h9]); clear h9; have h9 : v 39 = v 39 := rfl; (try rw [h9]); clear h9; have h9 : v 30 = v 30 := rfl; (try rw [h9]); clear h9; have h9 : v 40 = v 40 := rfl; (try rw [h9]); clear h9; have h9 : v 41 = v 41 := rfl; (try rw [h9]); clear h9; omega) (by have h9 : v 37 = (v 37) := rfl; have h8 : v 38 = (v 38) := rfl; (try rw [h9]); (try rw [h8]); exact hd (by omega))) (cwV 0 hwd (gV wk_1030 wk_1035 wk_1036 wk_1037 wk_5) rfl rfl rfl (by decide +kernel) ⟨Nat.le_of_ble_eq_true rfl, Nat.le_of_ble_eq_true rfl⟩) ⟨PM.blind, va_recv hK hP (ci := 12) (q0 := 0) rfl rfl, fun U hU hW => ⟨rfl, PM.at hK hE hP hS hU hW⟩⟩ rfl rfl hl.1 rfl (lv_room (Nat.le_of_ble_eq_true rfl)) dX12_product_1 ⟨Nat.le_of_ble_eq_true rfl, Nat.le_of_ble_eq_true rfl⟩) hS (fun q _ h => (freeM hS) q h) (freeM hS) (fun u t H1 locs ht hvm hw hB hz1 hk1 hS => ?_)
  unfold BM at hB
  rw [ht] at hB
  obtain ⟨v16900, F16901, rc9⟩ := u
  obtain ⟨hI, hrc, hf16902, hG16903, hw⟩ := hw
  dsimp only at hI hrc hB hf16902 hG16903 hw
  have hF := frCF (by decide) hG16903 hF
  rw [hrc] at hB
  have hP : va_P (dC, dI) classes (wM g c v16900 F16901 rc) H1 := hB
  have hw : ((v 39).toInt ≤ (v16900 39).toInt ∧ (v16900 39).toInt ≤ (v 30).toInt ∧ (v 38).toInt ≤ (v16900 38).toInt ∧ (v16900 38).toInt - (v 38).toInt ≤ (v16900 39).toInt - (v 39).toInt ∧ (v 41).toInt ≤ (v16900 41).toInt ∧ ((v16900 40).toInt < 0 → (v16900 41).toInt = (v 41).toInt)) ∧ keepL (v 37) (F 28) (F 29) (F16901 28) (F16901 29) ∧ ((v16900 40).toInt < 0 → dp (F16901 28) (F16901 29) (bI (v 37)) (v16900 38).toInt.toNat = some (d + 1)) := hw
  have hw_r16899 := hw
  have t16904 : 0 ≤ (v16900 38).toInt ∧ (v16900 38).toInt ≤ 120 := hI.1 38 _ _ rfl
  have t16905 : 0 ≤ (v16900 39).toInt ∧ (v16900 39).toInt ≤ 120 := hI.1 39 _ _ rfl
  have t16906 : 0 ≤ (v16900 41).toInt ∧ (v16900 41).toInt ≤ 8 := hI.1 41 _ _ rfl
  generalize H1 = H at hP hS ⊢
  have hk := hk.tr hw_r16899.2.1
  have hd := hw_r16899.2.2
  have lp16907 : ∀ (n : Nat) (v_lp16907 : Nat → Int32) (F_lp16907 : Nat → Nat → Int32) (H : Heap) (locs : List Loc) (ls : Array Slot), ((v 39).toInt ≤ (v_lp16907 39).toInt ∧ (v_lp16907 39).toInt ≤ (v 30).toInt ∧ (v 38).toInt ≤ (v_lp16907 38).toInt ∧ (v_lp16907 38).toInt - (v 38).toInt ≤ (v_lp16907 39).toInt - (v 39).toInt ∧ (v 41).toInt ≤ (v_lp16907 41).toInt ∧ ((v_lp16907 40).toInt < 0 → (v_lp16907 41).toInt = (v 41).toInt)) → (keepL (v 37) (F 28) (F 29) (F_lp16907 28) (F_lp16907 29)) → (((v_lp16907 40).toInt < 0 → dp (F_lp16907 28) (F_lp16907 29) (bI (v 37)) (v_lp16907 38).toInt.toNat = some (d + 1))) → (121 - (v_lp16907 39).toInt ≤ (n : Int)) → (∀ k, k ∉ ([38, 39, 40, 41, 42] : List Nat) → v_lp16907 k = v16900 k) → IM v_lp16907 F_lp16907 → (∀ k, k ∉ ([28, 29] : List Nat) → F_lp16907 k = F k) → va_P (dC, dI) classes (wM g c v_lp16907 F_lp16907 rc) H → va_S (AM g s.heap.size) s.heap H locs → lv_has ls 2 [(0, .ref (g 0))] → W p l e (headSpec (Cond.code yX12_product cX12_product 2 none :: wA) ({ frames := 20, cells := 0, slots := 0, locals := 800 })).room s m ([.ref (g 0)] : List Value).toArray below meth c0 H locs 0 0 (MQ below (va_Qv (fun (u : StM) => IM u.1 u.2.1 ∧ u.2.2 = rc ∧ (∀ k, k ∉ ([38, 39, 40, 41, 42] : List Nat) → u.1 k = v k) ∧ (∀ k, k ∉ ([28, 29] : List Nat) → u.2.1 k = F k) ∧ (((v 39).toInt ≤ (u.1 39).toInt ∧ (u.1 39).toInt ≤ (v 30).toInt ∧ (v 38).toInt ≤ (u.1 38).toInt ∧ (u.1 38).toInt - (v 38).toInt ≤ (u.1 39).toInt - (v 39).toInt ∧ (v 41).toInt ≤ (u.1 41).toInt ∧ ((u.1 40).toInt < 0 → (u.1 41).toInt = (v 41).toInt)) ∧ keepL (v 37) (F 28) (F 29) (u.2.1 28) (u.2.1 29) ∧ ((u.1 40).toInt < 0 → dp (u.2.1 28) (u.2.1 29) (bI (v 37)) (u.1 38).toInt.toNat = some (d + 1)))) (BM dC dI g c) (AM g s.heap.size)) ([.ref (g 0)] : List Value).toArray s 0 0 (AM g s.heap.size)) (F0 m 4 ls []) := by
    intro n
    induction n with
    | zero =>
      intro v_lp16907 F_lp16907 H locs ls t16908 t16909 t16910 hm hf_lp16907 hI hF hP hS hl
      exfalso
      have hI1 := hI.1
      omega
    | succ n ih_lp16907 =>
      intro v_lp16907 F_lp16907 H locs ls t16908 t16909 t16910 hm hf_lp16907 hI hF hP hS hl
      have hk := t16909
      have hd := t16910
      refine lv_aload_n hx hb dX12_product_4 rfl (lv_at hl 0 rfl) ?_
      refine va_get (D := (dC, dI)) (ci := 12) (v := .int (v_lp16907 40)) (C := RX12) (T := TX12) (N := 63) hx hb hwd inA_X12 hown hK hP 0 rfl rfl 40 (by decide) (hwd _ wk_1005) (fun _ h9 => h9) rfl dX12_product_5 ?_
      refine lv_if_ge (tgt := 57) hx hb dX12_product_8 (by decide) (fun c16911 => ?_) (fun c16911 => ?_)
      · skip
        have t16912 := cv_le (a := 0) (by decide) (b := (v_lp16907 40).toInt) rfl c16911
        have hP9 : va_P (dC, dI) classes (wM g c v_lp16907 F_lp16907 rc) H := hP
        exact W.vret hx hb hr (fun t ht hW => ⟨⟨(v_lp16907, F_lp16907, rc), rfl, ⟨hI, rfl, (frC (by decide) hf_lp16907 (frC (by decide) hf16902 (fun _ _ => rfl))), hF, (by show ((v 39).toInt ≤ (v_lp16907 39).toInt ∧ (v_lp16907 39).toInt ≤ (v 30).toInt ∧ (v 38).toInt ≤ (v_lp16907 38).toInt ∧ (v_lp16907 38).toInt - (v 38).toInt ≤ (v_lp16907 39).toInt - (v 39).toInt ∧ (v 41).toInt ≤ (v_lp16907 41).toInt ∧ ((v_lp16907 40).toInt < 0 → (v_lp16907 41).toInt = (v 41).toInt)) ∧ keepL (v 37) (F 28) (F 29) (F_lp16907 28) (F_lp16907 29) ∧ ((v_lp16907 40).toInt < 0 → dp (F_lp16907 28) (F_lp16907 29) (bI (v 37)) (v_lp16907 38).toInt.toNat = some (d + 1)); exact ⟨by omega, hk, fun hf => (hd (by omega)).trans (congrArg some (by omega))⟩)⟩, (by show va_P _ _ _ t.heap; rw [ht]; exact hP9)⟩, hS.F ht⟩) hS.2.2 dX12_product_57
      · skip
        have t16913 := cv_nle (a := 0) (by decide) (b := (v_lp16907 40).toInt) rfl c16911
        refine lv_aload_n hx hb dX12_product_11 rfl (lv_at hl 0 rfl) ?_
        have t16914 : 0 ≤ (v 30).toInt ∧ (v 30).toInt ≤ 120 := by have h9 := hI.1 30 _ _ rfl; rw [show v_lp16907 30 = v 30 from (hf_lp16907 30 (by decide)).trans (hf16902 30 (by decide))] at h9; exact h9
        have t16915 : 0 ≤ (v_lp16907 39).toInt ∧ (v_lp16907 39).toInt ≤ 120 := hI.1 39 _ _ rfl
        refine va_calli (va_runV (As := []) (rest := []) ⟨hx, hb, hml, hown, hwd⟩ (c_X12_look l dC dI g c adK adV v_lp16907 F_lp16907 rc H.size  hg hI ) (cwV 0 hwd (gV wk_1017 wk_1014 wk_1015 wk_1016 wk_5) rfl rfl rfl (by decide +kernel) ⟨Nat.le_of_ble_eq_true rfl, Nat.le_of_ble_eq_true rfl⟩) ⟨PM.blind, va_recv hK hP (ci := 12) (q0 := 0) rfl rfl, fun U hU hW => ⟨rfl, PM.at hK hE hP hS hU hW⟩⟩ rfl rfl hl.1 rfl (lv_room (Nat.le_of_ble_eq_true rfl)) dX12_product_12 ⟨Nat.le_of_ble_eq_true rfl, Nat.le_of_ble_eq_true rfl⟩) hS (fun q _ h => (freeM hS) q h) (freeM hS) (fun r16916 u t H1 locs ht hvm hw hB hz1 hk1 hS => ?_)
        unfold BM at hB
        rw [ht] at hB
        have hP : va_P (dC, dI) classes (wM g c v_lp16907 F_lp16907 rc) H1 := hB
        have hw : r16916.toInt = lkM (v_lp16907 39) (v_lp16907 30) (F_lp16907 24) ∧ ((v_lp16907 39).toInt < (v_lp16907 30).toInt ∨ r16916.toInt = -1) := hw
        rw [show v_lp16907 30 = v 30 from (hf_lp16907 30 (by decide)).trans (hf16902 30 (by decide))] at hw
        rw [hF 24 (by decide)] at hw
        have hw_r16916 := hw
        generalize H1 = H at hP hS ⊢
        refine lv_bipush (v := 42) hx hb dX12_product_15 (by decide) ?_
        refine lv_icmp_eq (tgt := 29) hx hb dX12_product_17 (by decide) (fun c16917 => ?_) (fun c16917 => ?_)
        · skip
          have t16918 := cv_eq (a := r16916.toInt) rfl (b := 42) (by decide) c16917
          refine lv_aload_n hx hb dX12_product_29 rfl (lv_at hl 0 rfl) ?_
          have t16919 : 0 ≤ (v 30).toInt ∧ (v 30).toInt ≤ 120 := by have h9 := hI.1 30 _ _ rfl; rw [show v_lp16907 30 = v 30 from (hf_lp16907 30 (by decide)).trans (hf16902 30 (by decide))] at h9; exact h9
          have t16920 : 0 ≤ (v_lp16907 39).toInt ∧ (v_lp16907 39).toInt ≤ 120 := hI.1 39 _ _ rfl
          refine va_calli (va_runV (As := []) (rest := []) ⟨hx, hb, hml, hown, hwd⟩ (c_X12_look l dC dI g c adK adV v_lp16907 F_lp16907 rc H.size  hg hI ) (cwV 0 hwd (gV wk_1017 wk_1014 wk_1015 wk_1016 wk_5) rfl rfl rfl (by decide +kernel) ⟨Nat.le_of_ble_eq_true rfl, Nat.le_of_ble_eq_true rfl⟩) ⟨PM.blind, va_recv hK hP (ci := 12) (q0 := 0) rfl rfl, fun U hU hW => ⟨rfl, PM.at hK hE hP hS hU hW⟩⟩ rfl rfl hl.1 rfl (lv_room (Nat.le_of_ble_eq_true rfl)) dX12_product_30 ⟨Nat.le_of_ble_eq_true rfl, Nat.le_of_ble_eq_true rfl⟩) hS (fun q _ h => (freeM hS) q h) (freeM hS) (fun r16921 u t H1 locs ht hvm hw hB hz1 hk1 hS => ?_)
          unfold BM at hB
          rw [ht] at hB
          have hP : va_P (dC, dI) classes (wM g c v_lp16907 F_lp16907 rc) H1 := hB
          have hw : r16921.toInt = lkM (v_lp16907 39) (v_lp16907 30) (F_lp16907 24) ∧ ((v_lp16907 39).toInt < (v_lp16907 30).toInt ∨ r16921.toInt = -1) := hw
          rw [show v_lp16907 30 = v 30 from (hf_lp16907 30 (by decide)).trans (hf16902 30 (by decide))] at hw
          rw [hF 24 (by decide)] at hw
          have hw_r16921 := hw
          generalize H1 = H at hP hS ⊢
          refine lv_istore_n (lv' := [(1, .int r16921), (0, .ref (g 0))]) hx hb dX12_product_33 rfl hl (by decide) rfl (fun ls hl => ?_)
          refine lv_aload_n hx hb dX12_product_34 rfl (lv_at hl 1 rfl) ?_
          refine lv_dup hx hb dX12_product_35 rfl ?_
          refine va_get (D := (dC, dI)) (ci := 12) (v := .int (v_lp16907 39)) (C := RX12) (T := TX12) (N := 63) hx hb hwd inA_X12 hown hK hP 0 rfl rfl 39 (by decide) (hwd _ wk_1004) (fun _ h9 => h9) rfl dX12_product_36 ?_
          have t16922 : 0 ≤ (v_lp16907 39).toInt ∧ (v_lp16907 39).toInt ≤ 120 := hI.1 39 _ _ rfl
          refine lv_iconst (v := 1) hx hb dX12_product_39 (by decide) ?_
          refine lv_iadd hx hb dX12_product_40 ?_
          refine lv_topi (fun z16923 e16924 => ?_)
          try (have t16925 := tadd e16924 (a := (v_lp16907 39).toInt) rfl (b := 1) (by decide) (by omega))
          refine va_put (D := (dC, dI)) (ci := 12) (v := .int z16923) (ty := .int) (C := RX12) (T := TX12) (N := 63) (fs := fsM_0 g v_lp16907 rc) hx hb hwd inA_X12 tyX12 tyX12_ok nmX12 hown hK hP (DM hg) hS 0 rfl rfl 39 (by decide) (hwd _ wk_1004) (fun _ h9 => h9) rfl (by decide +kernel) rfl rfl (Nat.le_of_ble_eq_true rfl) dX12_product_41 (fun H locs hP _ hS => ?_)
          have hP := va_P_eq (pM_39 g c _ _ _ _) hP
          have hI := IM.put hI 39 z16923 rfl (by omega)
          refine lv_aload_n hx hb dX12_product_44 rfl (lv_at hl 1 rfl) ?_
          have t16926 : 0 ≤ (v 30).toInt ∧ (v 30).toInt ≤ 120 := by have h9 := hI.1 30 _ _ rfl; rw [show (va_up v_lp16907 39 z16923) 30 = v 30 from (hf_lp16907 30 (by decide)).trans (hf16902 30 (by decide))] at h9; exact h9
          have t16927 : 0 ≤ (v 37).toInt ∧ (v 37).toInt ≤ 9 := by have h9 := hI.1 37 _ _ rfl; rw [show (va_up v_lp16907 39 z16923) 37 = v 37 from (hf_lp16907 37 (by decide)).trans (hf16902 37 (by decide))] at h9; exact h9
          have t16928 : 0 ≤ (v_lp16907 38).toInt ∧ (v_lp16907 38).toInt ≤ 120 := hI.1 38 _ _ rfl
          have t16929 : 0 ≤ z16923.toInt ∧ z16923.toInt ≤ 120 := hI.1 39 _ _ rfl
          have t16930 : 0 ≤ (v_lp16907 41).toInt ∧ (v_lp16907 41).toInt ≤ 8 := hI.1 41 _ _ rfl
          refine va_callv (va_runV (As := []) (rest := []) ⟨hx, hb, hml, hown, hwd⟩ (c_X12_operand_4 l dC dI g c adK adV (va_up v_lp16907 39 z16923) F_lp16907 rc H.size  (d + 1) hg hI (by have h9 : (va_up v_lp16907 39 z16923) 38 = v_lp16907 38 := rfl; (try rw [h9]); clear h9; have h9 : (va_up v_lp16907 39 z16923) 39 = z16923 := rfl; (try rw [h9]); clear h9; have h9 : (va_up v_lp16907 39 z16923) 30 = v 30 := (hf_lp16907 30 (by decide)).trans (hf16902 30 (by decide)); (try rw [h9]); clear h9; have h9 : (va_up v_lp16907 39 z16923) 40 = v_lp16907 40 := rfl; (try rw [h9]); clear h9; have h9 : (va_up v_lp16907 39 z16923) 41 = v_lp16907 41 := rfl; (try rw [h9]); clear h9; omega) (by have h9 : (va_up v_lp16907 39 z16923) 37 = (v 37) := (hf_lp16907 37 (by decide)).trans (hf16902 37 (by decide)); have h8 : (va_up v_lp16907 39 z16923) 38 = (v_lp16907 38) := rfl; (try rw [h9]); (try rw [h8]); exact hd (by omega))) (cwV 0 hwd (gV wk_1030 wk_1035 wk_1036 wk_1037 wk_5) rfl rfl rfl (by decide +kernel) ⟨Nat.le_of_ble_eq_true rfl, Nat.le_of_ble_eq_true rfl⟩) ⟨PM.blind, va_recv hK hP (ci := 12) (q0 := 0) rfl rfl, fun U hU hW => ⟨rfl, PM.at hK hE hP hS hU hW⟩⟩ rfl rfl hl.1 rfl (lv_room (Nat.le_of_ble_eq_true rfl)) dX12_product_45 ⟨Nat.le_of_ble_eq_true rfl, Nat.le_of_ble_eq_true rfl⟩) hS (fun q _ h => (freeM hS) q h) (freeM hS) (fun u t H1 locs ht hvm hw hB hz1 hk1 hS => ?_)
          unfold BM at hB
          rw [ht] at hB
          obtain ⟨v16932, F16933, rc9⟩ := u
          obtain ⟨hI, hrc, hf16934, hG16935, hw⟩ := hw
          dsimp only at hI hrc hB hf16934 hG16935 hw
          have hF := frCF (by decide) hG16935 hF
          rw [hrc] at hB
          have hP : va_P (dC, dI) classes (wM g c v16932 F16933 rc) H1 := hB
          have hw : (z16923.toInt ≤ (v16932 39).toInt ∧ (v16932 39).toInt ≤ ((va_up v_lp16907 39 z16923) 30).toInt ∧ (v_lp16907 38).toInt ≤ (v16932 38).toInt ∧ (v16932 38).toInt - (v_lp16907 38).toInt ≤ (v16932 39).toInt - z16923.toInt ∧ (v_lp16907 41).toInt ≤ (v16932 41).toInt ∧ ((v16932 40).toInt < 0 → (v16932 41).toInt = (v_lp16907 41).toInt)) ∧ keepL ((va_up v_lp16907 39 z16923) 37) (F_lp16907 28) (F_lp16907 29) (F16933 28) (F16933 29) ∧ ((v16932 40).toInt < 0 → dp (F16933 28) (F16933 29) (bI ((va_up v_lp16907 39 z16923) 37)) (v16932 38).toInt.toNat = some ((d + 1) + 1)) := hw
          rw [show (va_up v_lp16907 39 z16923) 30 = v 30 from (hf_lp16907 30 (by decide)).trans (hf16902 30 (by decide))] at hw
          rw [show (va_up v_lp16907 39 z16923) 37 = v 37 from (hf_lp16907 37 (by decide)).trans (hf16902 37 (by decide))] at hw
          have hw_r16931 := hw
          have t16936 : 0 ≤ (v16932 38).toInt ∧ (v16932 38).toInt ≤ 120 := hI.1 38 _ _ rfl
          have t16937 : 0 ≤ (v16932 39).toInt ∧ (v16932 39).toInt ≤ 120 := hI.1 39 _ _ rfl
          have t16938 : 0 ≤ (v16932 41).toInt ∧ (v16932 41).toInt ≤ 8 := hI.1 41 _ _ rfl
          generalize H1 = H at hP hS ⊢
          have hk := hk.tr hw_r16931.2.1
          have hd := hw_r16931.2.2
          refine lv_aload_n hx hb dX12_product_48 rfl (lv_at hl 1 rfl) ?_
          refine lv_iload_n hx hb dX12_product_49 rfl (lv_at hl 0 rfl) ?_
          refine lv_iconst (v := 0) hx hb dX12_product_50 (by decide) ?_
          have t16939 : 0 ≤ (v 37).toInt ∧ (v 37).toInt ≤ 9 := by have h9 := hI.1 37 _ _ rfl; rw [show v16932 37 = v 37 from (hf16934 37 (by decide)).trans ((hf_lp16907 37 (by decide)).trans (hf16902 37 (by decide)))] at h9; exact h9
          have t16940 : 0 ≤ (v16932 38).toInt ∧ (v16932 38).toInt ≤ 120 := hI.1 38 _ _ rfl
          refine va_callv (va_runV (As := [.int r16921, .int 0]) (rest := []) ⟨hx, hb, hml, hown, hwd⟩ (c_X12_lay l dC dI g c adK adV v16932 F16933 rc H.size r16921 0 hg hI (by have h9 : v16932 38 = v16932 38 := rfl; rw [h9]; omega)) (cwV 2 hwd (gV wk_1021 wk_1018 wk_1019 wk_1020 wk_5) rfl rfl rfl (by decide +kernel) ⟨Nat.le_of_ble_eq_true rfl, Nat.le_of_ble_eq_true rfl⟩) ⟨PM.blind, va_recv hK hP (ci := 12) (q0 := 0) rfl rfl, fun U hU hW => ⟨rfl, PM.at hK hE hP hS hU hW⟩⟩ rfl rfl hl.1 rfl (lv_room (Nat.le_of_ble_eq_true rfl)) dX12_product_51 ⟨Nat.le_of_ble_eq_true rfl, Nat.le_of_ble_eq_true rfl⟩) hS (fun q _ h => (freeM hS) q h) (freeM hS) (fun u t H1 locs ht hvm hw hB hz1 hk1 hS => ?_)
          unfold BM at hB
          rw [ht] at hB
          obtain ⟨v16942, F16943, rc9⟩ := u
          obtain ⟨hI, hrc, hf16944, hG16945, hw⟩ := hw
          dsimp only at hI hrc hB hf16944 hG16945 hw
          have hF := frCF (by decide) hG16945 hF
          rw [hrc] at hB
          have hP : va_P (dC, dI) classes (wM g c v16942 F16943 rc) H1 := hB
          have hw : (v16942 38).toInt = (v16932 38).toInt + 1 ∧ keepL (v16932 37) (F16933 28) (F16933 29) (F16943 28) (F16943 29) ∧ dp (F16943 28) (F16943 29) (bI (v16932 37)) ((v16932 38).toInt.toNat + 1) = dpS (dp (F16933 28) (F16933 29) (bI (v16932 37)) (v16932 38).toInt.toNat) r16921 (0 : Int32) := hw
          rw [show v16932 37 = v 37 from (hf16934 37 (by decide)).trans ((hf_lp16907 37 (by decide)).trans (hf16902 37 (by decide)))] at hw
          have hw_r16941 := hw
          have t16946 : 0 ≤ (v16942 38).toInt ∧ (v16942 38).toInt ≤ 120 := hI.1 38 _ _ rfl
          have k16947 : (0 : Int32).toInt = 0 := by decide
          generalize H1 = H at hP hS ⊢
          have hk := hk.tr hw_r16941.2.1
          have hd : (v16932 40).toInt < 0 → dp (F16943 28) (F16943 29) (bI (v 37)) (v16942 38).toInt.toNat = some (((d + 1) + 1) - 1) := fun hf => (by have e9 : (v16942 38).toInt.toNat = (v16932 38).toInt.toNat + 1 := (by omega); rw [e9, hw_r16941.2.2, hd hf]; exact dpS_5 (by omega) (by omega) (by omega) (by omega) (by omega))
          refine lv_goto (tgt := 4) hx hb dX12_product_54 (by decide) ?_
          exact ih_lp16907  v16942 F16943 _ _ _ (by have h9 : v16942 39 = v16932 39 := hf16944 39 (by decide); (try rw [h9]); clear h9; have h9 : v16942 38 = v16942 38 := rfl; (try rw [h9]); clear h9; have h9 : v16942 41 = v16932 41 := hf16944 41 (by decide); (try rw [h9]); clear h9; have h9 : v16942 40 = v16932 40 := hf16944 40 (by decide); (try rw [h9]); clear h9; omega) hk (by have h9 : v16942 40 = v16932 40 := hf16944 40 (by decide); (try rw [h9]); clear h9; have h9 : v16942 38 = v16942 38 := rfl; (try rw [h9]); clear h9; exact fun hf => (hd (by omega)).trans (congrArg some (by omega))) (by have h9 : v16942 39 = v16932 39 := hf16944 39 (by decide); rw [h9]; omega) (frC (by decide) hf16944 (frC (by decide) hf16934 (frU (by decide) hf_lp16907))) hI hF hP hS (lv_sub hl [1] rfl)
        · skip
          have t16948 := cv_ne (a := r16916.toInt) rfl (b := 42) (by decide) c16917
          refine lv_aload_n hx hb dX12_product_20 rfl (lv_at hl 0 rfl) ?_
          have t16949 : 0 ≤ (v 30).toInt ∧ (v 30).toInt ≤ 120 := by have h9 := hI.1 30 _ _ rfl; rw [show v_lp16907 30 = v 30 from (hf_lp16907 30 (by decide)).trans (hf16902 30 (by decide))] at h9; exact h9
          have t16950 : 0 ≤ (v_lp16907 39).toInt ∧ (v_lp16907 39).toInt ≤ 120 := hI.1 39 _ _ rfl
          refine va_calli (va_runV (As := []) (rest := []) ⟨hx, hb, hml, hown, hwd⟩ (c_X12_look l dC dI g c adK adV v_lp16907 F_lp16907 rc H.size  hg hI ) (cwV 0 hwd (gV wk_1017 wk_1014 wk_1015 wk_1016 wk_5) rfl rfl rfl (by decide +kernel) ⟨Nat.le_of_ble_eq_true rfl, Nat.le_of_ble_eq_true rfl⟩) ⟨PM.blind, va_recv hK hP (ci := 12) (q0 := 0) rfl rfl, fun U hU hW => ⟨rfl, PM.at hK hE hP hS hU hW⟩⟩ rfl rfl hl.1 rfl (lv_room (Nat.le_of_ble_eq_true rfl)) dX12_product_21 ⟨Nat.le_of_ble_eq_true rfl, Nat.le_of_ble_eq_true rfl⟩) hS (fun q _ h => (freeM hS) q h) (freeM hS) (fun r16951 u t H1 locs ht hvm hw hB hz1 hk1 hS => ?_)
          unfold BM at hB
          rw [ht] at hB
          have hP : va_P (dC, dI) classes (wM g c v_lp16907 F_lp16907 rc) H1 := hB
          have hw : r16951.toInt = lkM (v_lp16907 39) (v_lp16907 30) (F_lp16907 24) ∧ ((v_lp16907 39).toInt < (v_lp16907 30).toInt ∨ r16951.toInt = -1) := hw
          rw [show v_lp16907 30 = v 30 from (hf_lp16907 30 (by decide)).trans (hf16902 30 (by decide))] at hw
          rw [hF 24 (by decide)] at hw
          have hw_r16951 := hw
          generalize H1 = H at hP hS ⊢
          refine lv_bipush (v := 47) hx hb dX12_product_24 (by decide) ?_
          refine lv_icmp_ne (tgt := 57) hx hb dX12_product_26 (by decide) (fun c16952 => ?_) (fun c16952 => ?_)
          · skip
            have t16953 := cv_ne (a := r16951.toInt) rfl (b := 47) (by decide) c16952
            have hP9 : va_P (dC, dI) classes (wM g c v_lp16907 F_lp16907 rc) H := hP
            exact W.vret hx hb hr (fun t ht hW => ⟨⟨(v_lp16907, F_lp16907, rc), rfl, ⟨hI, rfl, (frC (by decide) hf_lp16907 (frC (by decide) hf16902 (fun _ _ => rfl))), hF, (by show ((v 39).toInt ≤ (v_lp16907 39).toInt ∧ (v_lp16907 39).toInt ≤ (v 30).toInt ∧ (v 38).toInt ≤ (v_lp16907 38).toInt ∧ (v_lp16907 38).toInt - (v 38).toInt ≤ (v_lp16907 39).toInt - (v 39).toInt ∧ (v 41).toInt ≤ (v_lp16907 41).toInt ∧ ((v_lp16907 40).toInt < 0 → (v_lp16907 41).toInt = (v 41).toInt)) ∧ keepL (v 37) (F 28) (F 29) (F_lp16907 28) (F_lp16907 29) ∧ ((v_lp16907 40).toInt < 0 → dp (F_lp16907 28) (F_lp16907 29) (bI (v 37)) (v_lp16907 38).toInt.toNat = some (d + 1)); exact ⟨by omega, hk, fun hf => (hd (by omega)).trans (congrArg some (by omega))⟩)⟩, (by show va_P _ _ _ t.heap; rw [ht]; exact hP9)⟩, hS.F ht⟩) hS.2.2 dX12_product_57
          · skip
            have t16954 := cv_eq (a := r16951.toInt) rfl (b := 47) (by decide) c16952
            refine lv_aload_n hx hb dX12_product_29 rfl (lv_at hl 0 rfl) ?_
            have t16955 : 0 ≤ (v 30).toInt ∧ (v 30).toInt ≤ 120 := by have h9 := hI.1 30 _ _ rfl; rw [show v_lp16907 30 = v 30 from (hf_lp16907 30 (by decide)).trans (hf16902 30 (by decide))] at h9; exact h9
            have t16956 : 0 ≤ (v_lp16907 39).toInt ∧ (v_lp16907 39).toInt ≤ 120 := hI.1 39 _ _ rfl
            refine va_calli (va_runV (As := []) (rest := []) ⟨hx, hb, hml, hown, hwd⟩ (c_X12_look l dC dI g c adK adV v_lp16907 F_lp16907 rc H.size  hg hI ) (cwV 0 hwd (gV wk_1017 wk_1014 wk_1015 wk_1016 wk_5) rfl rfl rfl (by decide +kernel) ⟨Nat.le_of_ble_eq_true rfl, Nat.le_of_ble_eq_true rfl⟩) ⟨PM.blind, va_recv hK hP (ci := 12) (q0 := 0) rfl rfl, fun U hU hW => ⟨rfl, PM.at hK hE hP hS hU hW⟩⟩ rfl rfl hl.1 rfl (lv_room (Nat.le_of_ble_eq_true rfl)) dX12_product_30 ⟨Nat.le_of_ble_eq_true rfl, Nat.le_of_ble_eq_true rfl⟩) hS (fun q _ h => (freeM hS) q h) (freeM hS) (fun r16957 u t H1 locs ht hvm hw hB hz1 hk1 hS => ?_)
            unfold BM at hB
            rw [ht] at hB
            have hP : va_P (dC, dI) classes (wM g c v_lp16907 F_lp16907 rc) H1 := hB
            have hw : r16957.toInt = lkM (v_lp16907 39) (v_lp16907 30) (F_lp16907 24) ∧ ((v_lp16907 39).toInt < (v_lp16907 30).toInt ∨ r16957.toInt = -1) := hw
            rw [show v_lp16907 30 = v 30 from (hf_lp16907 30 (by decide)).trans (hf16902 30 (by decide))] at hw
            rw [hF 24 (by decide)] at hw
            have hw_r16957 := hw
            generalize H1 = H at hP hS ⊢
            refine lv_istore_n (lv' := [(1, .int r16957), (0, .ref (g 0))]) hx hb dX12_product_33 rfl hl (by decide) rfl (fun ls hl => ?_)
            refine lv_aload_n hx hb dX12_product_34 rfl (lv_at hl 1 rfl) ?_
            refine lv_dup hx hb dX12_product_35 rfl ?_
            refine va_get (D := (dC, dI)) (ci := 12) (v := .int (v_lp16907 39)) (C := RX12) (T := TX12) (N := 63) hx hb hwd inA_X12 hown hK hP 0 rfl rfl 39 (by decide) (hwd _ wk_1004) (fun _ h9 => h9) rfl dX12_product_36 ?_
            have t16958 : 0 ≤ (v_lp16907 39).toInt ∧ (v_lp16907 39).toInt ≤ 120 := hI.1 39 _ _ rfl
            refine lv_iconst (v := 1) hx hb dX12_product_39 (by decide) ?_
            refine lv_iadd hx hb dX12_product_40 ?_
            refine lv_topi (fun z16959 e16960 => ?_)
            try (have t16961 := tadd e16960 (a := (v_lp16907 39).toInt) rfl (b := 1) (by decide) (by omega))
            refine va_put (D := (dC, dI)) (ci := 12) (v := .int z16959) (ty := .int) (C := RX12) (T := TX12) (N := 63) (fs := fsM_0 g v_lp16907 rc) hx hb hwd inA_X12 tyX12 tyX12_ok nmX12 hown hK hP (DM hg) hS 0 rfl rfl 39 (by decide) (hwd _ wk_1004) (fun _ h9 => h9) rfl (by decide +kernel) rfl rfl (Nat.le_of_ble_eq_true rfl) dX12_product_41 (fun H locs hP _ hS => ?_)
            have hP := va_P_eq (pM_39 g c _ _ _ _) hP
            have hI := IM.put hI 39 z16959 rfl (by omega)
            refine lv_aload_n hx hb dX12_product_44 rfl (lv_at hl 1 rfl) ?_
            have t16962 : 0 ≤ (v 30).toInt ∧ (v 30).toInt ≤ 120 := by have h9 := hI.1 30 _ _ rfl; rw [show (va_up v_lp16907 39 z16959) 30 = v 30 from (hf_lp16907 30 (by decide)).trans (hf16902 30 (by decide))] at h9; exact h9
            have t16963 : 0 ≤ (v 37).toInt ∧ (v 37).toInt ≤ 9 := by have h9 := hI.1 37 _ _ rfl; rw [show (va_up v_lp16907 39 z16959) 37 = v 37 from (hf_lp16907 37 (by decide)).trans (hf16902 37 (by decide))] at h9; exact h9
            have t16964 : 0 ≤ (v_lp16907 38).toInt ∧ (v_lp16907 38).toInt ≤ 120 := hI.1 38 _ _ rfl
            have t16965 : 0 ≤ z16959.toInt ∧ z16959.toInt ≤ 120 := hI.1 39 _ _ rfl
            have t16966 : 0 ≤ (v_lp16907 41).toInt ∧ (v_lp16907 41).toInt ≤ 8 := hI.1 41 _ _ rfl
            refine va_callv (va_runV (As := []) (rest := []) ⟨hx, hb, hml, hown, hwd⟩ (c_X12_operand_4 l dC dI g c adK adV (va_up v_lp16907 39 z16959) F_lp16907 rc H.size  (d + 1) hg hI (by have h9 : (va_up v_lp16907 39 z16959) 38 = v_lp16907 38 := rfl; (try rw [h9]); clear h9; have h9 : (va_up v_lp16907 39 z16959) 39 = z16959 := rfl; (try rw [h9]); clear h9; have h9 : (va_up v_lp16907 39 z16959) 30 = v 30 := (hf_lp16907 30 (by decide)).trans (hf16902 30 (by decide)); (try rw [h9]); clear h9; have h9 : (va_up v_lp16907 39 z16959) 40 = v_lp16907 40 := rfl; (try rw [h9]); clear h9; have h9 : (va_up v_lp16907 39 z16959) 41 = v_lp16907 41 := rfl; (try rw [h9]); clear h9; omega) (by have h9 : (va_up v_lp16907 39 z16959) 37 = (v 37) := (hf_lp16907 37 (by decide)).trans (hf16902 37 (by decide)); have h8 : (va_up v_lp16907 39 z16959) 38 = (v_lp16907 38) := rfl; (try rw [h9]); (try rw [h8]); exact hd (by omega))) (cwV 0 hwd (gV wk_1030 wk_1035 wk_1036 wk_1037 wk_5) rfl rfl rfl (by decide +kernel) ⟨Nat.le_of_ble_eq_true rfl, Nat.le_of_ble_eq_true rfl⟩) ⟨PM.blind, va_recv hK hP (ci := 12) (q0 := 0) rfl rfl, fun U hU hW => ⟨rfl, PM.at hK hE hP hS hU hW⟩⟩ rfl rfl hl.1 rfl (lv_room (Nat.le_of_ble_eq_true rfl)) dX12_product_45 ⟨Nat.le_of_ble_eq_true rfl, Nat.le_of_ble_eq_true rfl⟩) hS (fun q _ h => (freeM hS) q h) (freeM hS) (fun u t H1 locs ht hvm hw hB hz1 hk1 hS => ?_)
            unfold BM at hB
            rw [ht] at hB
            obtain ⟨v16968, F16969, rc9⟩ := u
            obtain ⟨hI, hrc, hf16970, hG16971, hw⟩ := hw
            dsimp only at hI hrc hB hf16970 hG16971 hw
            have hF := frCF (by decide) hG16971 hF
            rw [hrc] at hB
            have hP : va_P (dC, dI) classes (wM g c v16968 F16969 rc) H1 := hB
            have hw : (z16959.toInt ≤ (v16968 39).toInt ∧ (v16968 39).toInt ≤ ((va_up v_lp16907 39 z16959) 30).toInt ∧ (v_lp16907 38).toInt ≤ (v16968 38).toInt ∧ (v16968 38).toInt - (v_lp16907 38).toInt ≤ (v16968 39).toInt - z16959.toInt ∧ (v_lp16907 41).toInt ≤ (v16968 41).toInt ∧ ((v16968 40).toInt < 0 → (v16968 41).toInt = (v_lp16907 41).toInt)) ∧ keepL ((va_up v_lp16907 39 z16959) 37) (F_lp16907 28) (F_lp16907 29) (F16969 28) (F16969 29) ∧ ((v16968 40).toInt < 0 → dp (F16969 28) (F16969 29) (bI ((va_up v_lp16907 39 z16959) 37)) (v16968 38).toInt.toNat = some ((d + 1) + 1)) := hw
            rw [show (va_up v_lp16907 39 z16959) 30 = v 30 from (hf_lp16907 30 (by decide)).trans (hf16902 30 (by decide))] at hw
            rw [show (va_up v_lp16907 39 z16959) 37 = v 37 from (hf_lp16907 37 (by decide)).trans (hf16902 37 (by decide))] at hw
            have hw_r16967 := hw
            have t16972 : 0 ≤ (v16968 38).toInt ∧ (v16968 38).toInt ≤ 120 := hI.1 38 _ _ rfl
            have t16973 : 0 ≤ (v16968 39).toInt ∧ (v16968 39).toInt ≤ 120 := hI.1 39 _ _ rfl
            have t16974 : 0 ≤ (v16968 41).toInt ∧ (v16968 41).toInt ≤ 8 := hI.1 41 _ _ rfl
            generalize H1 = H at hP hS ⊢
            have hk := hk.tr hw_r16967.2.1
            have hd := hw_r16967.2.2
            refine lv_aload_n hx hb dX12_product_48 rfl (lv_at hl 1 rfl) ?_
            refine lv_iload_n hx hb dX12_product_49 rfl (lv_at hl 0 rfl) ?_
            refine lv_iconst (v := 0) hx hb dX12_product_50 (by decide) ?_
            have t16975 : 0 ≤ (v 37).toInt ∧ (v 37).toInt ≤ 9 := by have h9 := hI.1 37 _ _ rfl; rw [show v16968 37 = v 37 from (hf16970 37 (by decide)).trans ((hf_lp16907 37 (by decide)).trans (hf16902 37 (by decide)))] at h9; exact h9
            have t16976 : 0 ≤ (v16968 38).toInt ∧ (v16968 38).toInt ≤ 120 := hI.1 38 _ _ rfl
            refine va_callv (va_runV (As := [.int r16957, .int 0]) (rest := []) ⟨hx, hb, hml, hown, hwd⟩ (c_X12_lay l dC dI g c adK adV v16968 F16969 rc H.size r16957 0 hg hI (by have h9 : v16968 38 = v16968 38 := rfl; rw [h9]; omega)) (cwV 2 hwd (gV wk_1021 wk_1018 wk_1019 wk_1020 wk_5) rfl rfl rfl (by decide +kernel) ⟨Nat.le_of_ble_eq_true rfl, Nat.le_of_ble_eq_true rfl⟩) ⟨PM.blind, va_recv hK hP (ci := 12) (q0 := 0) rfl rfl, fun U hU hW => ⟨rfl, PM.at hK hE hP hS hU hW⟩⟩ rfl rfl hl.1 rfl (lv_room (Nat.le_of_ble_eq_true rfl)) dX12_product_51 ⟨Nat.le_of_ble_eq_true rfl, Nat.le_of_ble_eq_true rfl⟩) hS (fun q _ h => (freeM hS) q h) (freeM hS) (fun u t H1 locs ht hvm hw hB hz1 hk1 hS => ?_)
            unfold BM at hB
            rw [ht] at hB
            obtain ⟨v16978, F16979, rc9⟩ := u
            obtain ⟨hI, hrc, hf16980, hG16981, hw⟩ := hw
            dsimp only at hI hrc hB hf16980 hG16981 hw
            have hF := frCF (by decide) hG16981 hF
            rw [hrc] at hB
            have hP : va_P (dC, dI) classes (wM g c v16978 F16979 rc) H1 := hB
            have hw : (v16978 38).toInt = (v16968 38).toInt + 1 ∧ keepL (v16968 37) (F16969 28) (F16969 29) (F16979 28) (F16979 29) ∧ dp (F16979 28) (F16979 29) (bI (v16968 37)) ((v16968 38).toInt.toNat + 1) = dpS (dp (F16969 28) (F16969 29) (bI (v16968 37)) (v16968 38).toInt.toNat) r16957 (0 : Int32) := hw
            rw [show v16968 37 = v 37 from (hf16970 37 (by decide)).trans ((hf_lp16907 37 (by decide)).trans (hf16902 37 (by decide)))] at hw
            have hw_r16977 := hw
            have t16982 : 0 ≤ (v16978 38).toInt ∧ (v16978 38).toInt ≤ 120 := hI.1 38 _ _ rfl
            have k16983 : (0 : Int32).toInt = 0 := by decide
            generalize H1 = H at hP hS ⊢
            have hk := hk.tr hw_r16977.2.1
            have hd : (v16968 40).toInt < 0 → dp (F16979 28) (F16979 29) (bI (v 37)) (v16978 38).toInt.toNat = some (((d + 1) + 1) - 1) := fun hf => (by have e9 : (v16978 38).toInt.toNat = (v16968 38).toInt.toNat + 1 := (by omega); rw [e9, hw_r16977.2.2, hd hf]; exact dpS_5 (by omega) (by omega) (by omega) (by omega) (by omega))
            refine lv_goto (tgt := 4) hx hb dX12_product_54 (by decide) ?_
            exact ih_lp16907  v16978 F16979 _ _ _ (by have h9 : v16978 39 = v16968 39 := hf16980 39 (by decide); (try rw [h9]); clear h9; have h9 : v16978 38 = v16978 38 := rfl; (try rw [h9]); clear h9; have h9 : v16978 41 = v16968 41 := hf16980 41 (by decide); (try rw [h9]); clear h9; have h9 : v16978 40 = v16968 40 := hf16980 40 (by decide); (try rw [h9]); clear h9; omega) hk (by have h9 : v16978 40 = v16968 40 := hf16980 40 (by decide); (try rw [h9]); clear h9; have h9 : v16978 38 = v16978 38 := rfl; (try rw [h9]); clear h9; exact fun hf => (hd (by omega)).trans (congrArg some (by omega))) (by have h9 : v16978 39 = v16968 39 := hf16980 39 (by decide); rw [h9]; omega) (frC (by decide) hf16980 (frC (by decide) hf16970 (frU (by decide) hf_lp16907))) hI hF hP hS (lv_sub hl [1] rfl)
  obtain ⟨n9, hn9⟩ : ∃ n : Nat, 121 - (v16900 39).toInt ≤ (n : Int) := ⟨((121 - (v16900 39).toInt : Int)).toNat, by omega⟩
  exact lp16907 n9  v16900 F16901 H _ ls (by have h9 : v16900 39 = v16900 39 := rfl; (try rw [h9]); clear h9; have h9 : v16900 38 = v16900 38 := rfl; (try rw [h9]); clear h9; have h9 : v16900 41 = v16900 41 := rfl; (try rw [h9]); clear h9; have h9 : v16900 40 = v16900 40 := rfl; (try rw [h9]); clear h9; omega) hk (by have h9 : v16900 40 = v16900 40 := rfl; (try rw [h9]); clear h9; have h9 : v16900 38 = v16900 38 := rfl; (try rw [h9]); clear h9; exact fun hf => (hd (by omega)).trans (congrArg some (by omega))) (by have h9 : v16900 39 = v16900 39 := rfl; rw [h9]; omega) (fun _ _ => rfl) hI hF hP hS hl
set_option maxHeartbeats 8000000 in
set_option maxRecDepth 100000 in
theorem c_X12_sum_4 (l : Launch) (dC : Nat → ClassId) (dI : Nat → Nat → Nat) (g : Nat → Nat) (c : Nat → ClassId) (adK adV : Nat → Nat) (v : Nat → Int32) (F : Nat → Nat → Int32) (rc sz : Nat) (d : Nat) (hg : injM g) (hI : IM v F) (hq : (v 38).toInt ≤ (v 39).toInt ∧ (v 39).toInt ≤ (v 30).toInt ∧ (v 40).toInt < 0 ∧ (v 41).toInt = 4) (hdp : dp (F 28) (F 29) (bI (v 37)) (v 38).toInt.toNat = some d) : Met l yX12_sum (Cond.code yX12_sum cX12_sum 2 none :: wA) ({ frames := 21, cells := 0, slots := 0, locals := 840 }) (va_Pc [.ref (g 0)] (PM dC dI g c adK adV v F rc sz)) (va_Qv (fun (u : StM) => IM u.1 u.2.1 ∧ u.2.2 = rc ∧ (∀ k, k ∉ ([38, 39, 40, 41, 42] : List Nat) → u.1 k = v k) ∧ (∀ k, k ∉ ([28, 29] : List Nat) → u.2.1 k = F k) ∧ (((v 39).toInt ≤ (u.1 39).toInt ∧ (u.1 39).toInt ≤ (v 30).toInt ∧ (v 38).toInt ≤ (u.1 38).toInt ∧ (u.1 38).toInt - (v 38).toInt ≤ (u.1 39).toInt - (v 39).toInt ∧ (v 41).toInt ≤ (u.1 41).toInt ∧ ((u.1 40).toInt < 0 → (u.1 41).toInt = (v 41).toInt)) ∧ keepL (v 37) (F 28) (F 29) (u.2.1 28) (u.2.1 29) ∧ ((u.1 40).toInt < 0 → dp (u.2.1 28) (u.2.1 29) (bI (v 37)) (u.1 38).toInt.toNat = some (d + 1)))) (BM dC dI g c) (AM g sz)) 0 0 (AM g sz) := by
  refine Met.ofW (cc := cX12_sum) (maxL := 2) (ret := none) (by decide) rfl ?_
  intro p e s m args below meth c0 s₁ B hml hv
  obtain ⟨rfl, hsz, hP, hK, hE⟩ := hv
  have hx := B.exec
  have hb := B.bytes
  have hr := B.returns
  have hts := atoms_spec (ws := Cond.code yX12_sum cX12_sum 2 none :: wA) B.pre
  have hwd : ∀ w ∈ wA, w.before _ s = true := fun w h => hts w (List.mem_cons_of_mem _ h)
  have hown : s.vm.findClass RX12 = some m.cls := findClass_of_methodNamed B.named
  have hlocks := B.notSynchronized
  subst hsz
  have hl := lv_entry ([.ref (g 0)]) (n := 2) (Nat.le_of_ble_eq_true rfl)
  rw [lg_entry_eq]
  generalize (lg_sl ([.ref (g 0)]) ++ List.replicate (2 - (lg_sl ([.ref (g 0)])).length) Slot.unset).toArray = ls at hl ⊢
  have hl : lv_has ls 2 [(0, .ref (g 0))] := hl
  obtain ⟨H, eH⟩ : ∃ z, z = s.heap := ⟨_, rfl⟩
  have hP : va_P (dC, dI) classes (wM g c v F rc) H := by rw [eH]; exact hP
  have hS : va_S (AM g s.heap.size) s.heap H [] := by rw [eH]; exact va_S.rf
  refine my_heap eH ?_
  have hF : ∀ k, k ∉ ([28, 29] : List Nat) → F k = F k := fun _ _ => rfl
  have hb30 : 0 ≤ (v 30).toInt ∧ (v 30).toInt ≤ 120 := hI.1 30 _ _ rfl
  have hb37 : 0 ≤ (v 37).toInt ∧ (v 37).toInt ≤ 9 := hI.1 37 _ _ rfl
  have hb38 : 0 ≤ (v 38).toInt ∧ (v 38).toInt ≤ 120 := hI.1 38 _ _ rfl
  have hb39 : 0 ≤ (v 39).toInt ∧ (v 39).toInt ≤ 120 := hI.1 39 _ _ rfl
  have hb41 : 0 ≤ (v 41).toInt ∧ (v 41).toInt ≤ 8 := hI.1 41 _ _ rfl
  have hk : keepL (v 37) (F 28) (F 29) (F 28) (F 29) := keepL.rf
  have hd : (v 40).toInt < 0 → dp (F 28) (F 29) (bI (v 37)) (v 38).toInt.toNat = some d := fun _ => hdp
  refine lv_aload_n hx hb dX12_sum_0 rfl (lv_at hl 0 rfl) ?_
  have t17074 : 0 ≤ (v 30).toInt ∧ (v 30).toInt ≤ 120 := hI.1 30 _ _ rfl
  have t17075 : 0 ≤ (v 37).toInt ∧ (v 37).toInt ≤ 9 := hI.1 37 _ _ rfl
  have t17076 : 0 ≤ (v 38).toInt ∧ (v 38).toInt ≤ 120 := hI.1 38 _ _ rfl
  have t17077 : 0 ≤ (v 39).toInt ∧ (v 39).toInt ≤ 120 := hI.1 39 _ _ rfl
  have t17078 : 0 ≤ (v 41).toInt ∧ (v 41).toInt ≤ 8 := hI.1 41 _ _ rfl
  refine va_callv (va_runV (As := []) (rest := []) ⟨hx, hb, hml, hown, hwd⟩ (c_X12_product_4 l dC dI g c adK adV v F rc H.size  d hg hI (by have h9 : v 38 = v 38 := rfl; (try rw [h9]); clear h9; have h9 : v 39 = v 39 := rfl; (try rw [h9]); clear h9; have h9 : v 30 = v 30 := rfl; (try rw [h9]); clear h9; have h9 : v 40 = v 40 := rfl; (try rw [h9]); clear h9; have h9 : v 41 = v 41 := rfl; (try rw [h9]); clear h9; omega) (by have h9 : v 37 = (v 37) := rfl; have h8 : v 38 = (v 38) := rfl; (try rw [h9]); (try rw [h8]); exact hd (by omega))) (cwV 0 hwd (gV wk_1042 wk_1044 wk_1045 wk_1046 wk_5) rfl rfl rfl (by decide +kernel) ⟨Nat.le_of_ble_eq_true rfl, Nat.le_of_ble_eq_true rfl⟩) ⟨PM.blind, va_recv hK hP (ci := 12) (q0 := 0) rfl rfl, fun U hU hW => ⟨rfl, PM.at hK hE hP hS hU hW⟩⟩ rfl rfl hl.1 rfl (lv_room (Nat.le_of_ble_eq_true rfl)) dX12_sum_1 ⟨Nat.le_of_ble_eq_true rfl, Nat.le_of_ble_eq_true rfl⟩) hS (fun q _ h => (freeM hS) q h) (freeM hS) (fun u t H1 locs ht hvm hw hB hz1 hk1 hS => ?_)
  unfold BM at hB
  rw [ht] at hB
  obtain ⟨v17080, F17081, rc9⟩ := u
  obtain ⟨hI, hrc, hf17082, hG17083, hw⟩ := hw
  dsimp only at hI hrc hB hf17082 hG17083 hw
  have hF := frCF (by decide) hG17083 hF
  rw [hrc] at hB
  have hP : va_P (dC, dI) classes (wM g c v17080 F17081 rc) H1 := hB
  have hw : ((v 39).toInt ≤ (v17080 39).toInt ∧ (v17080 39).toInt ≤ (v 30).toInt ∧ (v 38).toInt ≤ (v17080 38).toInt ∧ (v17080 38).toInt - (v 38).toInt ≤ (v17080 39).toInt - (v 39).toInt ∧ (v 41).toInt ≤ (v17080 41).toInt ∧ ((v17080 40).toInt < 0 → (v17080 41).toInt = (v 41).toInt)) ∧ keepL (v 37) (F 28) (F 29) (F17081 28) (F17081 29) ∧ ((v17080 40).toInt < 0 → dp (F17081 28) (F17081 29) (bI (v 37)) (v17080 38).toInt.toNat = some (d + 1)) := hw
  have hw_r17079 := hw
  have t17084 : 0 ≤ (v17080 38).toInt ∧ (v17080 38).toInt ≤ 120 := hI.1 38 _ _ rfl
  have t17085 : 0 ≤ (v17080 39).toInt ∧ (v17080 39).toInt ≤ 120 := hI.1 39 _ _ rfl
  have t17086 : 0 ≤ (v17080 41).toInt ∧ (v17080 41).toInt ≤ 8 := hI.1 41 _ _ rfl
  generalize H1 = H at hP hS ⊢
  have hk := hk.tr hw_r17079.2.1
  have hd := hw_r17079.2.2
  have lp17087 : ∀ (n : Nat) (v_lp17087 : Nat → Int32) (F_lp17087 : Nat → Nat → Int32) (H : Heap) (locs : List Loc) (ls : Array Slot), ((v 39).toInt ≤ (v_lp17087 39).toInt ∧ (v_lp17087 39).toInt ≤ (v 30).toInt ∧ (v 38).toInt ≤ (v_lp17087 38).toInt ∧ (v_lp17087 38).toInt - (v 38).toInt ≤ (v_lp17087 39).toInt - (v 39).toInt ∧ (v 41).toInt ≤ (v_lp17087 41).toInt ∧ ((v_lp17087 40).toInt < 0 → (v_lp17087 41).toInt = (v 41).toInt)) → (keepL (v 37) (F 28) (F 29) (F_lp17087 28) (F_lp17087 29)) → (((v_lp17087 40).toInt < 0 → dp (F_lp17087 28) (F_lp17087 29) (bI (v 37)) (v_lp17087 38).toInt.toNat = some (d + 1))) → (121 - (v_lp17087 39).toInt ≤ (n : Int)) → (∀ k, k ∉ ([38, 39, 40, 41, 42] : List Nat) → v_lp17087 k = v17080 k) → IM v_lp17087 F_lp17087 → (∀ k, k ∉ ([28, 29] : List Nat) → F_lp17087 k = F k) → va_P (dC, dI) classes (wM g c v_lp17087 F_lp17087 rc) H → va_S (AM g s.heap.size) s.heap H locs → lv_has ls 2 [(0, .ref (g 0))] → W p l e (headSpec (Cond.code yX12_sum cX12_sum 2 none :: wA) ({ frames := 21, cells := 0, slots := 0, locals := 840 })).room s m ([.ref (g 0)] : List Value).toArray below meth c0 H locs 0 0 (MQ below (va_Qv (fun (u : StM) => IM u.1 u.2.1 ∧ u.2.2 = rc ∧ (∀ k, k ∉ ([38, 39, 40, 41, 42] : List Nat) → u.1 k = v k) ∧ (∀ k, k ∉ ([28, 29] : List Nat) → u.2.1 k = F k) ∧ (((v 39).toInt ≤ (u.1 39).toInt ∧ (u.1 39).toInt ≤ (v 30).toInt ∧ (v 38).toInt ≤ (u.1 38).toInt ∧ (u.1 38).toInt - (v 38).toInt ≤ (u.1 39).toInt - (v 39).toInt ∧ (v 41).toInt ≤ (u.1 41).toInt ∧ ((u.1 40).toInt < 0 → (u.1 41).toInt = (v 41).toInt)) ∧ keepL (v 37) (F 28) (F 29) (u.2.1 28) (u.2.1 29) ∧ ((u.1 40).toInt < 0 → dp (u.2.1 28) (u.2.1 29) (bI (v 37)) (u.1 38).toInt.toNat = some (d + 1)))) (BM dC dI g c) (AM g s.heap.size)) ([.ref (g 0)] : List Value).toArray s 0 0 (AM g s.heap.size)) (F0 m 4 ls []) := by
    intro n
    induction n with
    | zero =>
      intro v_lp17087 F_lp17087 H locs ls t17088 t17089 t17090 hm hf_lp17087 hI hF hP hS hl
      exfalso
      have hI1 := hI.1
      omega
    | succ n ih_lp17087 =>
      intro v_lp17087 F_lp17087 H locs ls t17088 t17089 t17090 hm hf_lp17087 hI hF hP hS hl
      have hk := t17089
      have hd := t17090
      refine lv_aload_n hx hb dX12_sum_4 rfl (lv_at hl 0 rfl) ?_
      refine va_get (D := (dC, dI)) (ci := 12) (v := .int (v_lp17087 40)) (C := RX12) (T := TX12) (N := 63) hx hb hwd inA_X12 hown hK hP 0 rfl rfl 40 (by decide) (hwd _ wk_1005) (fun _ h9 => h9) rfl dX12_sum_5 ?_
      refine lv_if_ge (tgt := 57) hx hb dX12_sum_8 (by decide) (fun c17091 => ?_) (fun c17091 => ?_)
      · skip
        have t17092 := cv_le (a := 0) (by decide) (b := (v_lp17087 40).toInt) rfl c17091
        have hP9 : va_P (dC, dI) classes (wM g c v_lp17087 F_lp17087 rc) H := hP
        exact W.vret hx hb hr (fun t ht hW => ⟨⟨(v_lp17087, F_lp17087, rc), rfl, ⟨hI, rfl, (frC (by decide) hf_lp17087 (frC (by decide) hf17082 (fun _ _ => rfl))), hF, (by show ((v 39).toInt ≤ (v_lp17087 39).toInt ∧ (v_lp17087 39).toInt ≤ (v 30).toInt ∧ (v 38).toInt ≤ (v_lp17087 38).toInt ∧ (v_lp17087 38).toInt - (v 38).toInt ≤ (v_lp17087 39).toInt - (v 39).toInt ∧ (v 41).toInt ≤ (v_lp17087 41).toInt ∧ ((v_lp17087 40).toInt < 0 → (v_lp17087 41).toInt = (v 41).toInt)) ∧ keepL (v 37) (F 28) (F 29) (F_lp17087 28) (F_lp17087 29) ∧ ((v_lp17087 40).toInt < 0 → dp (F_lp17087 28) (F_lp17087 29) (bI (v 37)) (v_lp17087 38).toInt.toNat = some (d + 1)); exact ⟨by omega, hk, fun hf => (hd (by omega)).trans (congrArg some (by omega))⟩)⟩, (by show va_P _ _ _ t.heap; rw [ht]; exact hP9)⟩, hS.F ht⟩) hS.2.2 dX12_sum_57
      · skip
        have t17093 := cv_nle (a := 0) (by decide) (b := (v_lp17087 40).toInt) rfl c17091
        refine lv_aload_n hx hb dX12_sum_11 rfl (lv_at hl 0 rfl) ?_
        have t17094 : 0 ≤ (v 30).toInt ∧ (v 30).toInt ≤ 120 := by have h9 := hI.1 30 _ _ rfl; rw [show v_lp17087 30 = v 30 from (hf_lp17087 30 (by decide)).trans (hf17082 30 (by decide))] at h9; exact h9
        have t17095 : 0 ≤ (v_lp17087 39).toInt ∧ (v_lp17087 39).toInt ≤ 120 := hI.1 39 _ _ rfl
        refine va_calli (va_runV (As := []) (rest := []) ⟨hx, hb, hml, hown, hwd⟩ (c_X12_look l dC dI g c adK adV v_lp17087 F_lp17087 rc H.size  hg hI ) (cwV 0 hwd (gV wk_1017 wk_1014 wk_1015 wk_1016 wk_5) rfl rfl rfl (by decide +kernel) ⟨Nat.le_of_ble_eq_true rfl, Nat.le_of_ble_eq_true rfl⟩) ⟨PM.blind, va_recv hK hP (ci := 12) (q0 := 0) rfl rfl, fun U hU hW => ⟨rfl, PM.at hK hE hP hS hU hW⟩⟩ rfl rfl hl.1 rfl (lv_room (Nat.le_of_ble_eq_true rfl)) dX12_sum_12 ⟨Nat.le_of_ble_eq_true rfl, Nat.le_of_ble_eq_true rfl⟩) hS (fun q _ h => (freeM hS) q h) (freeM hS) (fun r17096 u t H1 locs ht hvm hw hB hz1 hk1 hS => ?_)
        unfold BM at hB
        rw [ht] at hB
        have hP : va_P (dC, dI) classes (wM g c v_lp17087 F_lp17087 rc) H1 := hB
        have hw : r17096.toInt = lkM (v_lp17087 39) (v_lp17087 30) (F_lp17087 24) ∧ ((v_lp17087 39).toInt < (v_lp17087 30).toInt ∨ r17096.toInt = -1) := hw
        rw [show v_lp17087 30 = v 30 from (hf_lp17087 30 (by decide)).trans (hf17082 30 (by decide))] at hw
        rw [hF 24 (by decide)] at hw
        have hw_r17096 := hw
        generalize H1 = H at hP hS ⊢
        refine lv_bipush (v := 43) hx hb dX12_sum_15 (by decide) ?_
        refine lv_icmp_eq (tgt := 29) hx hb dX12_sum_17 (by decide) (fun c17097 => ?_) (fun c17097 => ?_)
        · skip
          have t17098 := cv_eq (a := r17096.toInt) rfl (b := 43) (by decide) c17097
          refine lv_aload_n hx hb dX12_sum_29 rfl (lv_at hl 0 rfl) ?_
          have t17099 : 0 ≤ (v 30).toInt ∧ (v 30).toInt ≤ 120 := by have h9 := hI.1 30 _ _ rfl; rw [show v_lp17087 30 = v 30 from (hf_lp17087 30 (by decide)).trans (hf17082 30 (by decide))] at h9; exact h9
          have t17100 : 0 ≤ (v_lp17087 39).toInt ∧ (v_lp17087 39).toInt ≤ 120 := hI.1 39 _ _ rfl
          refine va_calli (va_runV (As := []) (rest := []) ⟨hx, hb, hml, hown, hwd⟩ (c_X12_look l dC dI g c adK adV v_lp17087 F_lp17087 rc H.size  hg hI ) (cwV 0 hwd (gV wk_1017 wk_1014 wk_1015 wk_1016 wk_5) rfl rfl rfl (by decide +kernel) ⟨Nat.le_of_ble_eq_true rfl, Nat.le_of_ble_eq_true rfl⟩) ⟨PM.blind, va_recv hK hP (ci := 12) (q0 := 0) rfl rfl, fun U hU hW => ⟨rfl, PM.at hK hE hP hS hU hW⟩⟩ rfl rfl hl.1 rfl (lv_room (Nat.le_of_ble_eq_true rfl)) dX12_sum_30 ⟨Nat.le_of_ble_eq_true rfl, Nat.le_of_ble_eq_true rfl⟩) hS (fun q _ h => (freeM hS) q h) (freeM hS) (fun r17101 u t H1 locs ht hvm hw hB hz1 hk1 hS => ?_)
          unfold BM at hB
          rw [ht] at hB
          have hP : va_P (dC, dI) classes (wM g c v_lp17087 F_lp17087 rc) H1 := hB
          have hw : r17101.toInt = lkM (v_lp17087 39) (v_lp17087 30) (F_lp17087 24) ∧ ((v_lp17087 39).toInt < (v_lp17087 30).toInt ∨ r17101.toInt = -1) := hw
          rw [show v_lp17087 30 = v 30 from (hf_lp17087 30 (by decide)).trans (hf17082 30 (by decide))] at hw
          rw [hF 24 (by decide)] at hw
          have hw_r17101 := hw
          generalize H1 = H at hP hS ⊢
          refine lv_istore_n (lv' := [(1, .int r17101), (0, .ref (g 0))]) hx hb dX12_sum_33 rfl hl (by decide) rfl (fun ls hl => ?_)
          refine lv_aload_n hx hb dX12_sum_34 rfl (lv_at hl 1 rfl) ?_
          refine lv_dup hx hb dX12_sum_35 rfl ?_
          refine va_get (D := (dC, dI)) (ci := 12) (v := .int (v_lp17087 39)) (C := RX12) (T := TX12) (N := 63) hx hb hwd inA_X12 hown hK hP 0 rfl rfl 39 (by decide) (hwd _ wk_1004) (fun _ h9 => h9) rfl dX12_sum_36 ?_
          have t17102 : 0 ≤ (v_lp17087 39).toInt ∧ (v_lp17087 39).toInt ≤ 120 := hI.1 39 _ _ rfl
          refine lv_iconst (v := 1) hx hb dX12_sum_39 (by decide) ?_
          refine lv_iadd hx hb dX12_sum_40 ?_
          refine lv_topi (fun z17103 e17104 => ?_)
          try (have t17105 := tadd e17104 (a := (v_lp17087 39).toInt) rfl (b := 1) (by decide) (by omega))
          refine va_put (D := (dC, dI)) (ci := 12) (v := .int z17103) (ty := .int) (C := RX12) (T := TX12) (N := 63) (fs := fsM_0 g v_lp17087 rc) hx hb hwd inA_X12 tyX12 tyX12_ok nmX12 hown hK hP (DM hg) hS 0 rfl rfl 39 (by decide) (hwd _ wk_1004) (fun _ h9 => h9) rfl (by decide +kernel) rfl rfl (Nat.le_of_ble_eq_true rfl) dX12_sum_41 (fun H locs hP _ hS => ?_)
          have hP := va_P_eq (pM_39 g c _ _ _ _) hP
          have hI := IM.put hI 39 z17103 rfl (by omega)
          refine lv_aload_n hx hb dX12_sum_44 rfl (lv_at hl 1 rfl) ?_
          have t17106 : 0 ≤ (v 30).toInt ∧ (v 30).toInt ≤ 120 := by have h9 := hI.1 30 _ _ rfl; rw [show (va_up v_lp17087 39 z17103) 30 = v 30 from (hf_lp17087 30 (by decide)).trans (hf17082 30 (by decide))] at h9; exact h9
          have t17107 : 0 ≤ (v 37).toInt ∧ (v 37).toInt ≤ 9 := by have h9 := hI.1 37 _ _ rfl; rw [show (va_up v_lp17087 39 z17103) 37 = v 37 from (hf_lp17087 37 (by decide)).trans (hf17082 37 (by decide))] at h9; exact h9
          have t17108 : 0 ≤ (v_lp17087 38).toInt ∧ (v_lp17087 38).toInt ≤ 120 := hI.1 38 _ _ rfl
          have t17109 : 0 ≤ z17103.toInt ∧ z17103.toInt ≤ 120 := hI.1 39 _ _ rfl
          have t17110 : 0 ≤ (v_lp17087 41).toInt ∧ (v_lp17087 41).toInt ≤ 8 := hI.1 41 _ _ rfl
          refine va_callv (va_runV (As := []) (rest := []) ⟨hx, hb, hml, hown, hwd⟩ (c_X12_product_4 l dC dI g c adK adV (va_up v_lp17087 39 z17103) F_lp17087 rc H.size  (d + 1) hg hI (by have h9 : (va_up v_lp17087 39 z17103) 38 = v_lp17087 38 := rfl; (try rw [h9]); clear h9; have h9 : (va_up v_lp17087 39 z17103) 39 = z17103 := rfl; (try rw [h9]); clear h9; have h9 : (va_up v_lp17087 39 z17103) 30 = v 30 := (hf_lp17087 30 (by decide)).trans (hf17082 30 (by decide)); (try rw [h9]); clear h9; have h9 : (va_up v_lp17087 39 z17103) 40 = v_lp17087 40 := rfl; (try rw [h9]); clear h9; have h9 : (va_up v_lp17087 39 z17103) 41 = v_lp17087 41 := rfl; (try rw [h9]); clear h9; omega) (by have h9 : (va_up v_lp17087 39 z17103) 37 = (v 37) := (hf_lp17087 37 (by decide)).trans (hf17082 37 (by decide)); have h8 : (va_up v_lp17087 39 z17103) 38 = (v_lp17087 38) := rfl; (try rw [h9]); (try rw [h8]); exact hd (by omega))) (cwV 0 hwd (gV wk_1042 wk_1044 wk_1045 wk_1046 wk_5) rfl rfl rfl (by decide +kernel) ⟨Nat.le_of_ble_eq_true rfl, Nat.le_of_ble_eq_true rfl⟩) ⟨PM.blind, va_recv hK hP (ci := 12) (q0 := 0) rfl rfl, fun U hU hW => ⟨rfl, PM.at hK hE hP hS hU hW⟩⟩ rfl rfl hl.1 rfl (lv_room (Nat.le_of_ble_eq_true rfl)) dX12_sum_45 ⟨Nat.le_of_ble_eq_true rfl, Nat.le_of_ble_eq_true rfl⟩) hS (fun q _ h => (freeM hS) q h) (freeM hS) (fun u t H1 locs ht hvm hw hB hz1 hk1 hS => ?_)
          unfold BM at hB
          rw [ht] at hB
          obtain ⟨v17112, F17113, rc9⟩ := u
          obtain ⟨hI, hrc, hf17114, hG17115, hw⟩ := hw
          dsimp only at hI hrc hB hf17114 hG17115 hw
          have hF := frCF (by decide) hG17115 hF
          rw [hrc] at hB
          have hP : va_P (dC, dI) classes (wM g c v17112 F17113 rc) H1 := hB
          have hw : (z17103.toInt ≤ (v17112 39).toInt ∧ (v17112 39).toInt ≤ ((va_up v_lp17087 39 z17103) 30).toInt ∧ (v_lp17087 38).toInt ≤ (v17112 38).toInt ∧ (v17112 38).toInt - (v_lp17087 38).toInt ≤ (v17112 39).toInt - z17103.toInt ∧ (v_lp17087 41).toInt ≤ (v17112 41).toInt ∧ ((v17112 40).toInt < 0 → (v17112 41).toInt = (v_lp17087 41).toInt)) ∧ keepL ((va_up v_lp17087 39 z17103) 37) (F_lp17087 28) (F_lp17087 29) (F17113 28) (F17113 29) ∧ ((v17112 40).toInt < 0 → dp (F17113 28) (F17113 29) (bI ((va_up v_lp17087 39 z17103) 37)) (v17112 38).toInt.toNat = some ((d + 1) + 1)) := hw
          rw [show (va_up v_lp17087 39 z17103) 30 = v 30 from (hf_lp17087 30 (by decide)).trans (hf17082 30 (by decide))] at hw
          rw [show (va_up v_lp17087 39 z17103) 37 = v 37 from (hf_lp17087 37 (by decide)).trans (hf17082 37 (by decide))] at hw
          have hw_r17111 := hw
          have t17116 : 0 ≤ (v17112 38).toInt ∧ (v17112 38).toInt ≤ 120 := hI.1 38 _ _ rfl
          have t17117 : 0 ≤ (v17112 39).toInt ∧ (v17112 39).toInt ≤ 120 := hI.1 39 _ _ rfl
          have t17118 : 0 ≤ (v17112 41).toInt ∧ (v17112 41).toInt ≤ 8 := hI.1 41 _ _ rfl
          generalize H1 = H at hP hS ⊢
          have hk := hk.tr hw_r17111.2.1
          have hd := hw_r17111.2.2
          refine lv_aload_n hx hb dX12_sum_48 rfl (lv_at hl 1 rfl) ?_
          refine lv_iload_n hx hb dX12_sum_49 rfl (lv_at hl 0 rfl) ?_
          refine lv_iconst (v := 0) hx hb dX12_sum_50 (by decide) ?_
          have t17119 : 0 ≤ (v 37).toInt ∧ (v 37).toInt ≤ 9 := by have h9 := hI.1 37 _ _ rfl; rw [show v17112 37 = v 37 from (hf17114 37 (by decide)).trans ((hf_lp17087 37 (by decide)).trans (hf17082 37 (by decide)))] at h9; exact h9
          have t17120 : 0 ≤ (v17112 38).toInt ∧ (v17112 38).toInt ≤ 120 := hI.1 38 _ _ rfl
          refine va_callv (va_runV (As := [.int r17101, .int 0]) (rest := []) ⟨hx, hb, hml, hown, hwd⟩ (c_X12_lay l dC dI g c adK adV v17112 F17113 rc H.size r17101 0 hg hI (by have h9 : v17112 38 = v17112 38 := rfl; rw [h9]; omega)) (cwV 2 hwd (gV wk_1021 wk_1018 wk_1019 wk_1020 wk_5) rfl rfl rfl (by decide +kernel) ⟨Nat.le_of_ble_eq_true rfl, Nat.le_of_ble_eq_true rfl⟩) ⟨PM.blind, va_recv hK hP (ci := 12) (q0 := 0) rfl rfl, fun U hU hW => ⟨rfl, PM.at hK hE hP hS hU hW⟩⟩ rfl rfl hl.1 rfl (lv_room (Nat.le_of_ble_eq_true rfl)) dX12_sum_51 ⟨Nat.le_of_ble_eq_true rfl, Nat.le_of_ble_eq_true rfl⟩) hS (fun q _ h => (freeM hS) q h) (freeM hS) (fun u t H1 locs ht hvm hw hB hz1 hk1 hS => ?_)
          unfold BM at hB
          rw [ht] at hB
          obtain ⟨v17122, F17123, rc9⟩ := u
          obtain ⟨hI, hrc, hf17124, hG17125, hw⟩ := hw
          dsimp only at hI hrc hB hf17124 hG17125 hw
          have hF := frCF (by decide) hG17125 hF
          rw [hrc] at hB
          have hP : va_P (dC, dI) classes (wM g c v17122 F17123 rc) H1 := hB
          have hw : (v17122 38).toInt = (v17112 38).toInt + 1 ∧ keepL (v17112 37) (F17113 28) (F17113 29) (F17123 28) (F17123 29) ∧ dp (F17123 28) (F17123 29) (bI (v17112 37)) ((v17112 38).toInt.toNat + 1) = dpS (dp (F17113 28) (F17113 29) (bI (v17112 37)) (v17112 38).toInt.toNat) r17101 (0 : Int32) := hw
          rw [show v17112 37 = v 37 from (hf17114 37 (by decide)).trans ((hf_lp17087 37 (by decide)).trans (hf17082 37 (by decide)))] at hw
          have hw_r17121 := hw
          have t17126 : 0 ≤ (v17122 38).toInt ∧ (v17122 38).toInt ≤ 120 := hI.1 38 _ _ rfl
          have k17127 : (0 : Int32).toInt = 0 := by decide
          generalize H1 = H at hP hS ⊢
          have hk := hk.tr hw_r17121.2.1
          have hd : (v17112 40).toInt < 0 → dp (F17123 28) (F17123 29) (bI (v 37)) (v17122 38).toInt.toNat = some (((d + 1) + 1) - 1) := fun hf => (by have e9 : (v17122 38).toInt.toNat = (v17112 38).toInt.toNat + 1 := (by omega); rw [e9, hw_r17121.2.2, hd hf]; exact dpS_5 (by omega) (by omega) (by omega) (by omega) (by omega))
          refine lv_goto (tgt := 4) hx hb dX12_sum_54 (by decide) ?_
          exact ih_lp17087  v17122 F17123 _ _ _ (by have h9 : v17122 39 = v17112 39 := hf17124 39 (by decide); (try rw [h9]); clear h9; have h9 : v17122 38 = v17122 38 := rfl; (try rw [h9]); clear h9; have h9 : v17122 41 = v17112 41 := hf17124 41 (by decide); (try rw [h9]); clear h9; have h9 : v17122 40 = v17112 40 := hf17124 40 (by decide); (try rw [h9]); clear h9; omega) hk (by have h9 : v17122 40 = v17112 40 := hf17124 40 (by decide); (try rw [h9]); clear h9; have h9 : v17122 38 = v17122 38 := rfl; (try rw [h9]); clear h9; exact fun hf => (hd (by omega)).trans (congrArg some (by omega))) (by have h9 : v17122 39 = v17112 39 := hf17124 39 (by decide); rw [h9]; omega) (frC (by decide) hf17124 (frC (by decide) hf17114 (frU (by decide) hf_lp17087))) hI hF hP hS (lv_sub hl [1] rfl)
        · skip
          have t17128 := cv_ne (a := r17096.toInt) rfl (b := 43) (by decide) c17097
          refine lv_aload_n hx hb dX12_sum_20 rfl (lv_at hl 0 rfl) ?_
          have t17129 : 0 ≤ (v 30).toInt ∧ (v 30).toInt ≤ 120 := by have h9 := hI.1 30 _ _ rfl; rw [show v_lp17087 30 = v 30 from (hf_lp17087 30 (by decide)).trans (hf17082 30 (by decide))] at h9; exact h9
          have t17130 : 0 ≤ (v_lp17087 39).toInt ∧ (v_lp17087 39).toInt ≤ 120 := hI.1 39 _ _ rfl
          refine va_calli (va_runV (As := []) (rest := []) ⟨hx, hb, hml, hown, hwd⟩ (c_X12_look l dC dI g c adK adV v_lp17087 F_lp17087 rc H.size  hg hI ) (cwV 0 hwd (gV wk_1017 wk_1014 wk_1015 wk_1016 wk_5) rfl rfl rfl (by decide +kernel) ⟨Nat.le_of_ble_eq_true rfl, Nat.le_of_ble_eq_true rfl⟩) ⟨PM.blind, va_recv hK hP (ci := 12) (q0 := 0) rfl rfl, fun U hU hW => ⟨rfl, PM.at hK hE hP hS hU hW⟩⟩ rfl rfl hl.1 rfl (lv_room (Nat.le_of_ble_eq_true rfl)) dX12_sum_21 ⟨Nat.le_of_ble_eq_true rfl, Nat.le_of_ble_eq_true rfl⟩) hS (fun q _ h => (freeM hS) q h) (freeM hS) (fun r17131 u t H1 locs ht hvm hw hB hz1 hk1 hS => ?_)
          unfold BM at hB
          rw [ht] at hB
          have hP : va_P (dC, dI) classes (wM g c v_lp17087 F_lp17087 rc) H1 := hB
          have hw : r17131.toInt = lkM (v_lp17087 39) (v_lp17087 30) (F_lp17087 24) ∧ ((v_lp17087 39).toInt < (v_lp17087 30).toInt ∨ r17131.toInt = -1) := hw
          rw [show v_lp17087 30 = v 30 from (hf_lp17087 30 (by decide)).trans (hf17082 30 (by decide))] at hw
          rw [hF 24 (by decide)] at hw
          have hw_r17131 := hw
          generalize H1 = H at hP hS ⊢
          refine lv_bipush (v := 45) hx hb dX12_sum_24 (by decide) ?_
          refine lv_icmp_ne (tgt := 57) hx hb dX12_sum_26 (by decide) (fun c17132 => ?_) (fun c17132 => ?_)
          · skip
            have t17133 := cv_ne (a := r17131.toInt) rfl (b := 45) (by decide) c17132
            have hP9 : va_P (dC, dI) classes (wM g c v_lp17087 F_lp17087 rc) H := hP
            exact W.vret hx hb hr (fun t ht hW => ⟨⟨(v_lp17087, F_lp17087, rc), rfl, ⟨hI, rfl, (frC (by decide) hf_lp17087 (frC (by decide) hf17082 (fun _ _ => rfl))), hF, (by show ((v 39).toInt ≤ (v_lp17087 39).toInt ∧ (v_lp17087 39).toInt ≤ (v 30).toInt ∧ (v 38).toInt ≤ (v_lp17087 38).toInt ∧ (v_lp17087 38).toInt - (v 38).toInt ≤ (v_lp17087 39).toInt - (v 39).toInt ∧ (v 41).toInt ≤ (v_lp17087 41).toInt ∧ ((v_lp17087 40).toInt < 0 → (v_lp17087 41).toInt = (v 41).toInt)) ∧ keepL (v 37) (F 28) (F 29) (F_lp17087 28) (F_lp17087 29) ∧ ((v_lp17087 40).toInt < 0 → dp (F_lp17087 28) (F_lp17087 29) (bI (v 37)) (v_lp17087 38).toInt.toNat = some (d + 1)); exact ⟨by omega, hk, fun hf => (hd (by omega)).trans (congrArg some (by omega))⟩)⟩, (by show va_P _ _ _ t.heap; rw [ht]; exact hP9)⟩, hS.F ht⟩) hS.2.2 dX12_sum_57
          · skip
            have t17134 := cv_eq (a := r17131.toInt) rfl (b := 45) (by decide) c17132
            refine lv_aload_n hx hb dX12_sum_29 rfl (lv_at hl 0 rfl) ?_
            have t17135 : 0 ≤ (v 30).toInt ∧ (v 30).toInt ≤ 120 := by have h9 := hI.1 30 _ _ rfl; rw [show v_lp17087 30 = v 30 from (hf_lp17087 30 (by decide)).trans (hf17082 30 (by decide))] at h9; exact h9
            have t17136 : 0 ≤ (v_lp17087 39).toInt ∧ (v_lp17087 39).toInt ≤ 120 := hI.1 39 _ _ rfl
            refine va_calli (va_runV (As := []) (rest := []) ⟨hx, hb, hml, hown, hwd⟩ (c_X12_look l dC dI g c adK adV v_lp17087 F_lp17087 rc H.size  hg hI ) (cwV 0 hwd (gV wk_1017 wk_1014 wk_1015 wk_1016 wk_5) rfl rfl rfl (by decide +kernel) ⟨Nat.le_of_ble_eq_true rfl, Nat.le_of_ble_eq_true rfl⟩) ⟨PM.blind, va_recv hK hP (ci := 12) (q0 := 0) rfl rfl, fun U hU hW => ⟨rfl, PM.at hK hE hP hS hU hW⟩⟩ rfl rfl hl.1 rfl (lv_room (Nat.le_of_ble_eq_true rfl)) dX12_sum_30 ⟨Nat.le_of_ble_eq_true rfl, Nat.le_of_ble_eq_true rfl⟩) hS (fun q _ h => (freeM hS) q h) (freeM hS) (fun r17137 u t H1 locs ht hvm hw hB hz1 hk1 hS => ?_)
            unfold BM at hB
            rw [ht] at hB
            have hP : va_P (dC, dI) classes (wM g c v_lp17087 F_lp17087 rc) H1 := hB
            have hw : r17137.toInt = lkM (v_lp17087 39) (v_lp17087 30) (F_lp17087 24) ∧ ((v_lp17087 39).toInt < (v_lp17087 30).toInt ∨ r17137.toInt = -1) := hw
            rw [show v_lp17087 30 = v 30 from (hf_lp17087 30 (by decide)).trans (hf17082 30 (by decide))] at hw
            rw [hF 24 (by decide)] at hw
            have hw_r17137 := hw
            generalize H1 = H at hP hS ⊢
            refine lv_istore_n (lv' := [(1, .int r17137), (0, .ref (g 0))]) hx hb dX12_sum_33 rfl hl (by decide) rfl (fun ls hl => ?_)
            refine lv_aload_n hx hb dX12_sum_34 rfl (lv_at hl 1 rfl) ?_
            refine lv_dup hx hb dX12_sum_35 rfl ?_
            refine va_get (D := (dC, dI)) (ci := 12) (v := .int (v_lp17087 39)) (C := RX12) (T := TX12) (N := 63) hx hb hwd inA_X12 hown hK hP 0 rfl rfl 39 (by decide) (hwd _ wk_1004) (fun _ h9 => h9) rfl dX12_sum_36 ?_
            have t17138 : 0 ≤ (v_lp17087 39).toInt ∧ (v_lp17087 39).toInt ≤ 120 := hI.1 39 _ _ rfl
            refine lv_iconst (v := 1) hx hb dX12_sum_39 (by decide) ?_
            refine lv_iadd hx hb dX12_sum_40 ?_
            refine lv_topi (fun z17139 e17140 => ?_)
            try (have t17141 := tadd e17140 (a := (v_lp17087 39).toInt) rfl (b := 1) (by decide) (by omega))
            refine va_put (D := (dC, dI)) (ci := 12) (v := .int z17139) (ty := .int) (C := RX12) (T := TX12) (N := 63) (fs := fsM_0 g v_lp17087 rc) hx hb hwd inA_X12 tyX12 tyX12_ok nmX12 hown hK hP (DM hg) hS 0 rfl rfl 39 (by decide) (hwd _ wk_1004) (fun _ h9 => h9) rfl (by decide +kernel) rfl rfl (Nat.le_of_ble_eq_true rfl) dX12_sum_41 (fun H locs hP _ hS => ?_)
            have hP := va_P_eq (pM_39 g c _ _ _ _) hP
            have hI := IM.put hI 39 z17139 rfl (by omega)
            refine lv_aload_n hx hb dX12_sum_44 rfl (lv_at hl 1 rfl) ?_
            have t17142 : 0 ≤ (v 30).toInt ∧ (v 30).toInt ≤ 120 := by have h9 := hI.1 30 _ _ rfl; rw [show (va_up v_lp17087 39 z17139) 30 = v 30 from (hf_lp17087 30 (by decide)).trans (hf17082 30 (by decide))] at h9; exact h9
            have t17143 : 0 ≤ (v 37).toInt ∧ (v 37).toInt ≤ 9 := by have h9 := hI.1 37 _ _ rfl; rw [show (va_up v_lp17087 39 z17139) 37 = v 37 from (hf_lp17087 37 (by decide)).trans (hf17082 37 (by decide))] at h9; exact h9
            have t17144 : 0 ≤ (v_lp17087 38).toInt ∧ (v_lp17087 38).toInt ≤ 120 := hI.1 38 _ _ rfl
            have t17145 : 0 ≤ z17139.toInt ∧ z17139.toInt ≤ 120 := hI.1 39 _ _ rfl
            have t17146 : 0 ≤ (v_lp17087 41).toInt ∧ (v_lp17087 41).toInt ≤ 8 := hI.1 41 _ _ rfl
            refine va_callv (va_runV (As := []) (rest := []) ⟨hx, hb, hml, hown, hwd⟩ (c_X12_product_4 l dC dI g c adK adV (va_up v_lp17087 39 z17139) F_lp17087 rc H.size  (d + 1) hg hI (by have h9 : (va_up v_lp17087 39 z17139) 38 = v_lp17087 38 := rfl; (try rw [h9]); clear h9; have h9 : (va_up v_lp17087 39 z17139) 39 = z17139 := rfl; (try rw [h9]); clear h9; have h9 : (va_up v_lp17087 39 z17139) 30 = v 30 := (hf_lp17087 30 (by decide)).trans (hf17082 30 (by decide)); (try rw [h9]); clear h9; have h9 : (va_up v_lp17087 39 z17139) 40 = v_lp17087 40 := rfl; (try rw [h9]); clear h9; have h9 : (va_up v_lp17087 39 z17139) 41 = v_lp17087 41 := rfl; (try rw [h9]); clear h9; omega) (by have h9 : (va_up v_lp17087 39 z17139) 37 = (v 37) := (hf_lp17087 37 (by decide)).trans (hf17082 37 (by decide)); have h8 : (va_up v_lp17087 39 z17139) 38 = (v_lp17087 38) := rfl; (try rw [h9]); (try rw [h8]); exact hd (by omega))) (cwV 0 hwd (gV wk_1042 wk_1044 wk_1045 wk_1046 wk_5) rfl rfl rfl (by decide +kernel) ⟨Nat.le_of_ble_eq_true rfl, Nat.le_of_ble_eq_true rfl⟩) ⟨PM.blind, va_recv hK hP (ci := 12) (q0 := 0) rfl rfl, fun U hU hW => ⟨rfl, PM.at hK hE hP hS hU hW⟩⟩ rfl rfl hl.1 rfl (lv_room (Nat.le_of_ble_eq_true rfl)) dX12_sum_45 ⟨Nat.le_of_ble_eq_true rfl, Nat.le_of_ble_eq_true rfl⟩) hS (fun q _ h => (freeM hS) q h) (freeM hS) (fun u t H1 locs ht hvm hw hB hz1 hk1 hS => ?_)
            unfold BM at hB
            rw [ht] at hB
            obtain ⟨v17148, F17149, rc9⟩ := u
            obtain ⟨hI, hrc, hf17150, hG17151, hw⟩ := hw
            dsimp only at hI hrc hB hf17150 hG17151 hw
            have hF := frCF (by decide) hG17151 hF
            rw [hrc] at hB
            have hP : va_P (dC, dI) classes (wM g c v17148 F17149 rc) H1 := hB
            have hw : (z17139.toInt ≤ (v17148 39).toInt ∧ (v17148 39).toInt ≤ ((va_up v_lp17087 39 z17139) 30).toInt ∧ (v_lp17087 38).toInt ≤ (v17148 38).toInt ∧ (v17148 38).toInt - (v_lp17087 38).toInt ≤ (v17148 39).toInt - z17139.toInt ∧ (v_lp17087 41).toInt ≤ (v17148 41).toInt ∧ ((v17148 40).toInt < 0 → (v17148 41).toInt = (v_lp17087 41).toInt)) ∧ keepL ((va_up v_lp17087 39 z17139) 37) (F_lp17087 28) (F_lp17087 29) (F17149 28) (F17149 29) ∧ ((v17148 40).toInt < 0 → dp (F17149 28) (F17149 29) (bI ((va_up v_lp17087 39 z17139) 37)) (v17148 38).toInt.toNat = some ((d + 1) + 1)) := hw
            rw [show (va_up v_lp17087 39 z17139) 30 = v 30 from (hf_lp17087 30 (by decide)).trans (hf17082 30 (by decide))] at hw
            rw [show (va_up v_lp17087 39 z17139) 37 = v 37 from (hf_lp17087 37 (by decide)).trans (hf17082 37 (by decide))] at hw
            have hw_r17147 := hw
            have t17152 : 0 ≤ (v17148 38).toInt ∧ (v17148 38).toInt ≤ 120 := hI.1 38 _ _ rfl
            have t17153 : 0 ≤ (v17148 39).toInt ∧ (v17148 39).toInt ≤ 120 := hI.1 39 _ _ rfl
            have t17154 : 0 ≤ (v17148 41).toInt ∧ (v17148 41).toInt ≤ 8 := hI.1 41 _ _ rfl
            generalize H1 = H at hP hS ⊢
            have hk := hk.tr hw_r17147.2.1
            have hd := hw_r17147.2.2
            refine lv_aload_n hx hb dX12_sum_48 rfl (lv_at hl 1 rfl) ?_
            refine lv_iload_n hx hb dX12_sum_49 rfl (lv_at hl 0 rfl) ?_
            refine lv_iconst (v := 0) hx hb dX12_sum_50 (by decide) ?_
            have t17155 : 0 ≤ (v 37).toInt ∧ (v 37).toInt ≤ 9 := by have h9 := hI.1 37 _ _ rfl; rw [show v17148 37 = v 37 from (hf17150 37 (by decide)).trans ((hf_lp17087 37 (by decide)).trans (hf17082 37 (by decide)))] at h9; exact h9
            have t17156 : 0 ≤ (v17148 38).toInt ∧ (v17148 38).toInt ≤ 120 := hI.1 38 _ _ rfl
            refine va_callv (va_runV (As := [.int r17137, .int 0]) (rest := []) ⟨hx, hb, hml, hown, hwd⟩ (c_X12_lay l dC dI g c adK adV v17148 F17149 rc H.size r17137 0 hg hI (by have h9 : v17148 38 = v17148 38 := rfl; rw [h9]; omega)) (cwV 2 hwd (gV wk_1021 wk_1018 wk_1019 wk_1020 wk_5) rfl rfl rfl (by decide +kernel) ⟨Nat.le_of_ble_eq_true rfl, Nat.le_of_ble_eq_true rfl⟩) ⟨PM.blind, va_recv hK hP (ci := 12) (q0 := 0) rfl rfl, fun U hU hW => ⟨rfl, PM.at hK hE hP hS hU hW⟩⟩ rfl rfl hl.1 rfl (lv_room (Nat.le_of_ble_eq_true rfl)) dX12_sum_51 ⟨Nat.le_of_ble_eq_true rfl, Nat.le_of_ble_eq_true rfl⟩) hS (fun q _ h => (freeM hS) q h) (freeM hS) (fun u t H1 locs ht hvm hw hB hz1 hk1 hS => ?_)
            unfold BM at hB
            rw [ht] at hB
            obtain ⟨v17158, F17159, rc9⟩ := u
            obtain ⟨hI, hrc, hf17160, hG17161, hw⟩ := hw
            dsimp only at hI hrc hB hf17160 hG17161 hw
            have hF := frCF (by decide) hG17161 hF
            rw [hrc] at hB
            have hP : va_P (dC, dI) classes (wM g c v17158 F17159 rc) H1 := hB
            have hw : (v17158 38).toInt = (v17148 38).toInt + 1 ∧ keepL (v17148 37) (F17149 28) (F17149 29) (F17159 28) (F17159 29) ∧ dp (F17159 28) (F17159 29) (bI (v17148 37)) ((v17148 38).toInt.toNat + 1) = dpS (dp (F17149 28) (F17149 29) (bI (v17148 37)) (v17148 38).toInt.toNat) r17137 (0 : Int32) := hw
            rw [show v17148 37 = v 37 from (hf17150 37 (by decide)).trans ((hf_lp17087 37 (by decide)).trans (hf17082 37 (by decide)))] at hw
            have hw_r17157 := hw
            have t17162 : 0 ≤ (v17158 38).toInt ∧ (v17158 38).toInt ≤ 120 := hI.1 38 _ _ rfl
            have k17163 : (0 : Int32).toInt = 0 := by decide
            generalize H1 = H at hP hS ⊢
            have hk := hk.tr hw_r17157.2.1
            have hd : (v17148 40).toInt < 0 → dp (F17159 28) (F17159 29) (bI (v 37)) (v17158 38).toInt.toNat = some (((d + 1) + 1) - 1) := fun hf => (by have e9 : (v17158 38).toInt.toNat = (v17148 38).toInt.toNat + 1 := (by omega); rw [e9, hw_r17157.2.2, hd hf]; exact dpS_5 (by omega) (by omega) (by omega) (by omega) (by omega))
            refine lv_goto (tgt := 4) hx hb dX12_sum_54 (by decide) ?_
            exact ih_lp17087  v17158 F17159 _ _ _ (by have h9 : v17158 39 = v17148 39 := hf17160 39 (by decide); (try rw [h9]); clear h9; have h9 : v17158 38 = v17158 38 := rfl; (try rw [h9]); clear h9; have h9 : v17158 41 = v17148 41 := hf17160 41 (by decide); (try rw [h9]); clear h9; have h9 : v17158 40 = v17148 40 := hf17160 40 (by decide); (try rw [h9]); clear h9; omega) hk (by have h9 : v17158 40 = v17148 40 := hf17160 40 (by decide); (try rw [h9]); clear h9; have h9 : v17158 38 = v17158 38 := rfl; (try rw [h9]); clear h9; exact fun hf => (hd (by omega)).trans (congrArg some (by omega))) (by have h9 : v17158 39 = v17148 39 := hf17160 39 (by decide); rw [h9]; omega) (frC (by decide) hf17160 (frC (by decide) hf17150 (frU (by decide) hf_lp17087))) hI hF hP hS (lv_sub hl [1] rfl)
  obtain ⟨n9, hn9⟩ : ∃ n : Nat, 121 - (v17080 39).toInt ≤ (n : Int) := ⟨((121 - (v17080 39).toInt : Int)).toNat, by omega⟩
  exact lp17087 n9  v17080 F17081 H _ ls (by have h9 : v17080 39 = v17080 39 := rfl; (try rw [h9]); clear h9; have h9 : v17080 38 = v17080 38 := rfl; (try rw [h9]); clear h9; have h9 : v17080 41 = v17080 41 := rfl; (try rw [h9]); clear h9; have h9 : v17080 40 = v17080 40 := rfl; (try rw [h9]); clear h9; omega) hk (by have h9 : v17080 40 = v17080 40 := rfl; (try rw [h9]); clear h9; have h9 : v17080 38 = v17080 38 := rfl; (try rw [h9]); clear h9; exact fun hf => (hd (by omega)).trans (congrArg some (by omega))) (by have h9 : v17080 39 = v17080 39 := rfl; rw [h9]; omega) (fun _ _ => rfl) hI hF hP hS hl
set_option maxHeartbeats 8000000 in
set_option maxRecDepth 100000 in
theorem c_X12_either_4 (l : Launch) (dC : Nat → ClassId) (dI : Nat → Nat → Nat) (g : Nat → Nat) (c : Nat → ClassId) (adK adV : Nat → Nat) (v : Nat → Int32) (F : Nat → Nat → Int32) (rc sz : Nat) (d : Nat) (hg : injM g) (hI : IM v F) (hq : (v 38).toInt ≤ (v 39).toInt ∧ (v 39).toInt ≤ (v 30).toInt ∧ (v 40).toInt < 0 ∧ (v 41).toInt = 4) (hdp : dp (F 28) (F 29) (bI (v 37)) (v 38).toInt.toNat = some d) : Met l yX12_either (Cond.code yX12_either cX12_either 2 none :: wA) ({ frames := 22, cells := 0, slots := 0, locals := 880 }) (va_Pc [.ref (g 0)] (PM dC dI g c adK adV v F rc sz)) (va_Qv (fun (u : StM) => IM u.1 u.2.1 ∧ u.2.2 = rc ∧ (∀ k, k ∉ ([38, 39, 40, 41, 42] : List Nat) → u.1 k = v k) ∧ (∀ k, k ∉ ([28, 29] : List Nat) → u.2.1 k = F k) ∧ (((v 39).toInt ≤ (u.1 39).toInt ∧ (u.1 39).toInt ≤ (v 30).toInt ∧ (v 38).toInt ≤ (u.1 38).toInt ∧ (u.1 38).toInt - (v 38).toInt ≤ (u.1 39).toInt - (v 39).toInt ∧ (v 41).toInt ≤ (u.1 41).toInt ∧ ((u.1 40).toInt < 0 → (u.1 41).toInt = (v 41).toInt)) ∧ keepL (v 37) (F 28) (F 29) (u.2.1 28) (u.2.1 29) ∧ ((u.1 40).toInt < 0 → dp (u.2.1 28) (u.2.1 29) (bI (v 37)) (u.1 38).toInt.toNat = some (d + 1)))) (BM dC dI g c) (AM g sz)) 0 0 (AM g sz) := by
  refine Met.ofW (cc := cX12_either) (maxL := 2) (ret := none) (by decide) rfl ?_
  intro p e s m args below meth c0 s₁ B hml hv
  obtain ⟨rfl, hsz, hP, hK, hE⟩ := hv
  have hx := B.exec
  have hb := B.bytes
  have hr := B.returns
  have hts := atoms_spec (ws := Cond.code yX12_either cX12_either 2 none :: wA) B.pre
  have hwd : ∀ w ∈ wA, w.before _ s = true := fun w h => hts w (List.mem_cons_of_mem _ h)
  have hown : s.vm.findClass RX12 = some m.cls := findClass_of_methodNamed B.named
  have hlocks := B.notSynchronized
  subst hsz
  have hl := lv_entry ([.ref (g 0)]) (n := 2) (Nat.le_of_ble_eq_true rfl)
  rw [lg_entry_eq]
  generalize (lg_sl ([.ref (g 0)]) ++ List.replicate (2 - (lg_sl ([.ref (g 0)])).length) Slot.unset).toArray = ls at hl ⊢
  have hl : lv_has ls 2 [(0, .ref (g 0))] := hl
  obtain ⟨H, eH⟩ : ∃ z, z = s.heap := ⟨_, rfl⟩
  have hP : va_P (dC, dI) classes (wM g c v F rc) H := by rw [eH]; exact hP
  have hS : va_S (AM g s.heap.size) s.heap H [] := by rw [eH]; exact va_S.rf
  refine my_heap eH ?_
  have hF : ∀ k, k ∉ ([28, 29] : List Nat) → F k = F k := fun _ _ => rfl
  have hb30 : 0 ≤ (v 30).toInt ∧ (v 30).toInt ≤ 120 := hI.1 30 _ _ rfl
  have hb37 : 0 ≤ (v 37).toInt ∧ (v 37).toInt ≤ 9 := hI.1 37 _ _ rfl
  have hb38 : 0 ≤ (v 38).toInt ∧ (v 38).toInt ≤ 120 := hI.1 38 _ _ rfl
  have hb39 : 0 ≤ (v 39).toInt ∧ (v 39).toInt ≤ 120 := hI.1 39 _ _ rfl
  have hb41 : 0 ≤ (v 41).toInt ∧ (v 41).toInt ≤ 8 := hI.1 41 _ _ rfl
  have hk : keepL (v 37) (F 28) (F 29) (F 28) (F 29) := keepL.rf
  have hd : (v 40).toInt < 0 → dp (F 28) (F 29) (bI (v 37)) (v 38).toInt.toNat = some d := fun _ => hdp
  refine lv_aload_n hx hb dX12_either_0 rfl (lv_at hl 0 rfl) ?_
  have t17665 : 0 ≤ (v 30).toInt ∧ (v 30).toInt ≤ 120 := hI.1 30 _ _ rfl
  have t17666 : 0 ≤ (v 37).toInt ∧ (v 37).toInt ≤ 9 := hI.1 37 _ _ rfl
  have t17667 : 0 ≤ (v 38).toInt ∧ (v 38).toInt ≤ 120 := hI.1 38 _ _ rfl
  have t17668 : 0 ≤ (v 39).toInt ∧ (v 39).toInt ≤ 120 := hI.1 39 _ _ rfl
  have t17669 : 0 ≤ (v 41).toInt ∧ (v 41).toInt ≤ 8 := hI.1 41 _ _ rfl
  refine va_callv (va_runV (As := []) (rest := []) ⟨hx, hb, hml, hown, hwd⟩ (c_X12_sum_4 l dC dI g c adK adV v F rc H.size  d hg hI (by have h9 : v 38 = v 38 := rfl; (try rw [h9]); clear h9; have h9 : v 39 = v 39 := rfl; (try rw [h9]); clear h9; have h9 : v 30 = v 30 := rfl; (try rw [h9]); clear h9; have h9 : v 40 = v 40 := rfl; (try rw [h9]); clear h9; have h9 : v 41 = v 41 := rfl; (try rw [h9]); clear h9; omega) (by have h9 : v 37 = (v 37) := rfl; have h8 : v 38 = (v 38) := rfl; (try rw [h9]); (try rw [h8]); exact hd (by omega))) (cwV 0 hwd (gV wk_1043 wk_1011 wk_1012 wk_1013 wk_5) rfl rfl rfl (by decide +kernel) ⟨Nat.le_of_ble_eq_true rfl, Nat.le_of_ble_eq_true rfl⟩) ⟨PM.blind, va_recv hK hP (ci := 12) (q0 := 0) rfl rfl, fun U hU hW => ⟨rfl, PM.at hK hE hP hS hU hW⟩⟩ rfl rfl hl.1 rfl (lv_room (Nat.le_of_ble_eq_true rfl)) dX12_either_1 ⟨Nat.le_of_ble_eq_true rfl, Nat.le_of_ble_eq_true rfl⟩) hS (fun q _ h => (freeM hS) q h) (freeM hS) (fun u t H1 locs ht hvm hw hB hz1 hk1 hS => ?_)
  unfold BM at hB
  rw [ht] at hB
  obtain ⟨v17671, F17672, rc9⟩ := u
  obtain ⟨hI, hrc, hf17673, hG17674, hw⟩ := hw
  dsimp only at hI hrc hB hf17673 hG17674 hw
  have hF := frCF (by decide) hG17674 hF
  rw [hrc] at hB
  have hP : va_P (dC, dI) classes (wM g c v17671 F17672 rc) H1 := hB
  have hw : ((v 39).toInt ≤ (v17671 39).toInt ∧ (v17671 39).toInt ≤ (v 30).toInt ∧ (v 38).toInt ≤ (v17671 38).toInt ∧ (v17671 38).toInt - (v 38).toInt ≤ (v17671 39).toInt - (v 39).toInt ∧ (v 41).toInt ≤ (v17671 41).toInt ∧ ((v17671 40).toInt < 0 → (v17671 41).toInt = (v 41).toInt)) ∧ keepL (v 37) (F 28) (F 29) (F17672 28) (F17672 29) ∧ ((v17671 40).toInt < 0 → dp (F17672 28) (F17672 29) (bI (v 37)) (v17671 38).toInt.toNat = some (d + 1)) := hw
  have hw_r17670 := hw
  have t17675 : 0 ≤ (v17671 38).toInt ∧ (v17671 38).toInt ≤ 120 := hI.1 38 _ _ rfl
  have t17676 : 0 ≤ (v17671 39).toInt ∧ (v17671 39).toInt ≤ 120 := hI.1 39 _ _ rfl
  have t17677 : 0 ≤ (v17671 41).toInt ∧ (v17671 41).toInt ≤ 8 := hI.1 41 _ _ rfl
  generalize H1 = H at hP hS ⊢
  have hk := hk.tr hw_r17670.2.1
  have hd := hw_r17670.2.2
  refine lv_aload_n hx hb dX12_either_4 rfl (lv_at hl 0 rfl) ?_
  have t17678 : 0 ≤ (v 30).toInt ∧ (v 30).toInt ≤ 120 := by have h9 := hI.1 30 _ _ rfl; rw [show v17671 30 = v 30 from hf17673 30 (by decide)] at h9; exact h9
  have t17679 : 0 ≤ (v17671 39).toInt ∧ (v17671 39).toInt ≤ 120 := hI.1 39 _ _ rfl
  refine va_calli (va_runV (As := []) (rest := []) ⟨hx, hb, hml, hown, hwd⟩ (c_X12_look l dC dI g c adK adV v17671 F17672 rc H.size  hg hI ) (cwV 0 hwd (gV wk_1017 wk_1014 wk_1015 wk_1016 wk_5) rfl rfl rfl (by decide +kernel) ⟨Nat.le_of_ble_eq_true rfl, Nat.le_of_ble_eq_true rfl⟩) ⟨PM.blind, va_recv hK hP (ci := 12) (q0 := 0) rfl rfl, fun U hU hW => ⟨rfl, PM.at hK hE hP hS hU hW⟩⟩ rfl rfl hl.1 rfl (lv_room (Nat.le_of_ble_eq_true rfl)) dX12_either_5 ⟨Nat.le_of_ble_eq_true rfl, Nat.le_of_ble_eq_true rfl⟩) hS (fun q _ h => (freeM hS) q h) (freeM hS) (fun r17680 u t H1 locs ht hvm hw hB hz1 hk1 hS => ?_)
  unfold BM at hB
  rw [ht] at hB
  have hP : va_P (dC, dI) classes (wM g c v17671 F17672 rc) H1 := hB
  have hw : r17680.toInt = lkM (v17671 39) (v17671 30) (F17672 24) ∧ ((v17671 39).toInt < (v17671 30).toInt ∨ r17680.toInt = -1) := hw
  rw [show v17671 30 = v 30 from hf17673 30 (by decide)] at hw
  rw [hF 24 (by decide)] at hw
  have hw_r17680 := hw
  generalize H1 = H at hP hS ⊢
  refine lv_istore_n (lv' := [(1, .int r17680), (0, .ref (g 0))]) hx hb dX12_either_8 rfl hl (by decide) rfl (fun ls hl => ?_)
  refine lv_aload_n hx hb dX12_either_9 rfl (lv_at hl 1 rfl) ?_
  refine va_get (D := (dC, dI)) (ci := 12) (v := .int (v17671 40)) (C := RX12) (T := TX12) (N := 63) hx hb hwd inA_X12 hown hK hP 0 rfl rfl 40 (by decide) (hwd _ wk_1005) (fun _ h9 => h9) rfl dX12_either_10 ?_
  refine lv_if_ge (tgt := 54) hx hb dX12_either_13 (by decide) (fun c17681 => ?_) (fun c17681 => ?_)
  · skip
    have t17682 := cv_le (a := 0) (by decide) (b := (v17671 40).toInt) rfl c17681
    refine lv_aload_n hx hb dX12_either_54 rfl (lv_at hl 1 rfl) ?_
    refine va_get (D := (dC, dI)) (ci := 12) (v := .int (v17671 40)) (C := RX12) (T := TX12) (N := 63) hx hb hwd inA_X12 hown hK hP 0 rfl rfl 40 (by decide) (hwd _ wk_1005) (fun _ h9 => h9) rfl dX12_either_55 ?_
    refine lv_if_ge (tgt := 70) hx hb dX12_either_58 (by decide) (fun c17683 => ?_) (fun c17683 => ?_)
    · skip
      have t17684 := cv_le (a := 0) (by decide) (b := (v17671 40).toInt) rfl c17683
      have hP9 : va_P (dC, dI) classes (wM g c v17671 F17672 rc) H := hP
      exact W.vret hx hb hr (fun t ht hW => ⟨⟨(v17671, F17672, rc), rfl, ⟨hI, rfl, (frC (by decide) hf17673 (fun _ _ => rfl)), hF, (by show ((v 39).toInt ≤ (v17671 39).toInt ∧ (v17671 39).toInt ≤ (v 30).toInt ∧ (v 38).toInt ≤ (v17671 38).toInt ∧ (v17671 38).toInt - (v 38).toInt ≤ (v17671 39).toInt - (v 39).toInt ∧ (v 41).toInt ≤ (v17671 41).toInt ∧ ((v17671 40).toInt < 0 → (v17671 41).toInt = (v 41).toInt)) ∧ keepL (v 37) (F 28) (F 29) (F17672 28) (F17672 29) ∧ ((v17671 40).toInt < 0 → dp (F17672 28) (F17672 29) (bI (v 37)) (v17671 38).toInt.toNat = some (d + 1)); exact ⟨by omega, hk, fun hf => (hd (by omega)).trans (congrArg some (by omega))⟩)⟩, (by show va_P _ _ _ t.heap; rw [ht]; exact hP9)⟩, hS.F ht⟩) hS.2.2 dX12_either_70
    · skip
      have t17685 := cv_nle (a := 0) (by decide) (b := (v17671 40).toInt) rfl c17683
      refine lv_aload_n hx hb dX12_either_61 rfl (lv_at hl 1 rfl) ?_
      have t17686 : 0 ≤ (v 30).toInt ∧ (v 30).toInt ≤ 120 := by have h9 := hI.1 30 _ _ rfl; rw [show v17671 30 = v 30 from hf17673 30 (by decide)] at h9; exact h9
      have t17687 : 0 ≤ (v17671 39).toInt ∧ (v17671 39).toInt ≤ 120 := hI.1 39 _ _ rfl
      refine va_calli (va_runV (As := []) (rest := []) ⟨hx, hb, hml, hown, hwd⟩ (c_X12_look l dC dI g c adK adV v17671 F17672 rc H.size  hg hI ) (cwV 0 hwd (gV wk_1017 wk_1014 wk_1015 wk_1016 wk_5) rfl rfl rfl (by decide +kernel) ⟨Nat.le_of_ble_eq_true rfl, Nat.le_of_ble_eq_true rfl⟩) ⟨PM.blind, va_recv hK hP (ci := 12) (q0 := 0) rfl rfl, fun U hU hW => ⟨rfl, PM.at hK hE hP hS hU hW⟩⟩ rfl rfl hl.1 rfl (lv_room (Nat.le_of_ble_eq_true rfl)) dX12_either_62 ⟨Nat.le_of_ble_eq_true rfl, Nat.le_of_ble_eq_true rfl⟩) hS (fun q _ h => (freeM hS) q h) (freeM hS) (fun r17688 u t H1 locs ht hvm hw hB hz1 hk1 hS => ?_)
      unfold BM at hB
      rw [ht] at hB
      have hP : va_P (dC, dI) classes (wM g c v17671 F17672 rc) H1 := hB
      have hw : r17688.toInt = lkM (v17671 39) (v17671 30) (F17672 24) ∧ ((v17671 39).toInt < (v17671 30).toInt ∨ r17688.toInt = -1) := hw
      rw [show v17671 30 = v 30 from hf17673 30 (by decide)] at hw
      rw [hF 24 (by decide)] at hw
      have hw_r17688 := hw
      generalize H1 = H at hP hS ⊢
      refine lv_bipush (v := 63) hx hb dX12_either_65 (by decide) ?_
      refine lv_icmp_eq (tgt := 71) hx hb dX12_either_67 (by decide) (fun c17689 => ?_) (fun c17689 => ?_)
      · skip
        have t17690 := cv_eq (a := r17688.toInt) rfl (b := 63) (by decide) c17689
        refine lv_aload_n hx hb dX12_either_71 rfl (lv_at hl 1 rfl) ?_
        have t17691 : 0 ≤ (v17671 39).toInt ∧ (v17671 39).toInt ≤ 120 := hI.1 39 _ _ rfl
        have t17692 : 0 ≤ (v17671 41).toInt ∧ (v17671 41).toInt ≤ 8 := hI.1 41 _ _ rfl
        refine va_calli (va_runV (As := []) (rest := []) ⟨hx, hb, hml, hown, hwd⟩ (c_X12_opens l dC dI g c adK adV v17671 F17672 rc H.size  hg hI (by have h9 : v17671 39 = v17671 39 := rfl; (try rw [h9]); clear h9; have h9 : v17671 30 = v 30 := hf17673 30 (by decide); (try rw [h9]); clear h9; omega)) (cwV 0 hwd (gV wk_1025 wk_1022 wk_1023 wk_1024 wk_5) rfl rfl rfl (by decide +kernel) ⟨Nat.le_of_ble_eq_true rfl, Nat.le_of_ble_eq_true rfl⟩) ⟨PM.blind, va_recv hK hP (ci := 12) (q0 := 0) rfl rfl, fun U hU hW => ⟨rfl, PM.at hK hE hP hS hU hW⟩⟩ rfl rfl hl.1 rfl (lv_room (Nat.le_of_ble_eq_true rfl)) dX12_either_72 ⟨Nat.le_of_ble_eq_true rfl, Nat.le_of_ble_eq_true rfl⟩) hS (fun q _ h => (freeM hS) q h) (freeM hS) (fun r17693 u t H1 locs ht hvm hw hB hz1 hk1 hS => ?_)
        unfold BM at hB
        rw [ht] at hB
        obtain ⟨v17694, F17695, rc9⟩ := u
        obtain ⟨hI, hrc, hf17696, hG17697, hw⟩ := hw
        dsimp only at hI hrc hB hf17696 hG17697 hw
        have hF := frCF (by decide) hG17697 hF
        rw [hrc] at hB
        have hP : va_P (dC, dI) classes (wM g c v17694 F17695 rc) H1 := hB
        have hw : (r17693.toInt = 1 ∧ (v17671 41).toInt < 8 ∧ (v17694 41).toInt = (v17671 41).toInt + 1 ∧ (v17694 39).toInt = (v17671 39).toInt + 1 ∧ (v17694 40).toInt = (v17671 40).toInt) ∨ (r17693.toInt = 0 ∧ (v17671 41).toInt = 8 ∧ 0 ≤ (v17694 40).toInt ∧ (v17694 41).toInt = (v17671 41).toInt ∧ (v17694 39).toInt = (v17671 39).toInt) := hw
        have hw_r17693 := hw
        have t17698 : 0 ≤ (v17694 39).toInt ∧ (v17694 39).toInt ≤ 120 := hI.1 39 _ _ rfl
        have t17699 : 0 ≤ (v17694 41).toInt ∧ (v17694 41).toInt ≤ 8 := hI.1 41 _ _ rfl
        generalize H1 = H at hP hS ⊢
        have hk : keepL (v 37) (F 28) (F 29) (F17695 28) (F17695 29) := by rw [hG17697 28 (by decide), hG17697 29 (by decide)]; exact hk
        have hd : (v17694 40).toInt < 0 → dp (F17695 28) (F17695 29) (bI (v 37)) (v17671 38).toInt.toNat = some (d + 1) := fun hf => (by rw [hG17697 28 (by decide), hG17697 29 (by decide)]; exact hd (by omega))
        refine lv_if_ne (tgt := 79) hx hb dX12_either_75 (by decide) (fun c17700 => ?_) (fun c17700 => ?_)
        · skip
          have t17701 := cv_ne (a := r17693.toInt) rfl (b := 0) (by decide) c17700
          refine lv_aload_n hx hb dX12_either_79 rfl (lv_at hl 1 rfl) ?_
          have t17702 : 0 ≤ (v 30).toInt ∧ (v 30).toInt ≤ 120 := by have h9 := hI.1 30 _ _ rfl; rw [show v17694 30 = v 30 from (hf17696 30 (by decide)).trans (hf17673 30 (by decide))] at h9; exact h9
          have t17703 : 0 ≤ (v 37).toInt ∧ (v 37).toInt ≤ 9 := by have h9 := hI.1 37 _ _ rfl; rw [show v17694 37 = v 37 from (hf17696 37 (by decide)).trans (hf17673 37 (by decide))] at h9; exact h9
          have t17704 : 0 ≤ (v17671 38).toInt ∧ (v17671 38).toInt ≤ 120 := by have h9 := hI.1 38 _ _ rfl; rw [show v17694 38 = v17671 38 from hf17696 38 (by decide)] at h9; exact h9
          have t17705 : 0 ≤ (v17694 39).toInt ∧ (v17694 39).toInt ≤ 120 := hI.1 39 _ _ rfl
          have t17706 : 0 ≤ (v17694 41).toInt ∧ (v17694 41).toInt ≤ 8 := hI.1 41 _ _ rfl
          refine va_callv (va_runV (As := []) (rest := []) ⟨hx, hb, hml, hown, hwd⟩ (c_X12_either_5 l dC dI g c adK adV v17694 F17695 rc H.size  (d + 1) hg hI (by have h9 : v17694 38 = v17671 38 := hf17696 38 (by decide); (try rw [h9]); clear h9; have h9 : v17694 39 = v17694 39 := rfl; (try rw [h9]); clear h9; have h9 : v17694 30 = v 30 := (hf17696 30 (by decide)).trans (hf17673 30 (by decide)); (try rw [h9]); clear h9; have h9 : v17694 40 = v17694 40 := rfl; (try rw [h9]); clear h9; have h9 : v17694 41 = v17694 41 := rfl; (try rw [h9]); clear h9; omega) (by have h9 : v17694 37 = (v 37) := (hf17696 37 (by decide)).trans (hf17673 37 (by decide)); have h8 : v17694 38 = (v17671 38) := hf17696 38 (by decide); (try rw [h9]); (try rw [h8]); exact hd (by omega))) (cwV 0 hwd (gV wk_1010 wk_1007 wk_1008 wk_1009 wk_5) rfl rfl rfl (by decide +kernel) ⟨Nat.le_of_ble_eq_true rfl, Nat.le_of_ble_eq_true rfl⟩) ⟨PM.blind, va_recv hK hP (ci := 12) (q0 := 0) rfl rfl, fun U hU hW => ⟨rfl, PM.at hK hE hP hS hU hW⟩⟩ rfl rfl hl.1 rfl (lv_room (Nat.le_of_ble_eq_true rfl)) dX12_either_80 ⟨Nat.le_of_ble_eq_true rfl, Nat.le_of_ble_eq_true rfl⟩) hS (fun q _ h => (freeM hS) q h) (freeM hS) (fun u t H1 locs ht hvm hw hB hz1 hk1 hS => ?_)
          unfold BM at hB
          rw [ht] at hB
          obtain ⟨v17708, F17709, rc9⟩ := u
          obtain ⟨hI, hrc, hf17710, hG17711, hw⟩ := hw
          dsimp only at hI hrc hB hf17710 hG17711 hw
          have hF := frCF (by decide) hG17711 hF
          rw [hrc] at hB
          have hP : va_P (dC, dI) classes (wM g c v17708 F17709 rc) H1 := hB
          have hw : ((v17694 39).toInt ≤ (v17708 39).toInt ∧ (v17708 39).toInt ≤ (v17694 30).toInt ∧ (v17694 38).toInt ≤ (v17708 38).toInt ∧ (v17708 38).toInt - (v17694 38).toInt ≤ (v17708 39).toInt - (v17694 39).toInt ∧ (v17694 41).toInt ≤ (v17708 41).toInt ∧ ((v17708 40).toInt < 0 → (v17708 41).toInt = (v17694 41).toInt)) ∧ keepL (v17694 37) (F17695 28) (F17695 29) (F17709 28) (F17709 29) ∧ ((v17708 40).toInt < 0 → dp (F17709 28) (F17709 29) (bI (v17694 37)) (v17708 38).toInt.toNat = some ((d + 1) + 1)) := hw
          rw [show v17694 30 = v 30 from (hf17696 30 (by decide)).trans (hf17673 30 (by decide))] at hw
          rw [show v17694 38 = v17671 38 from hf17696 38 (by decide)] at hw
          rw [show v17694 37 = v 37 from (hf17696 37 (by decide)).trans (hf17673 37 (by decide))] at hw
          have hw_r17707 := hw
          have t17712 : 0 ≤ (v17708 38).toInt ∧ (v17708 38).toInt ≤ 120 := hI.1 38 _ _ rfl
          have t17713 : 0 ≤ (v17708 39).toInt ∧ (v17708 39).toInt ≤ 120 := hI.1 39 _ _ rfl
          have t17714 : 0 ≤ (v17708 41).toInt ∧ (v17708 41).toInt ≤ 8 := hI.1 41 _ _ rfl
          generalize H1 = H at hP hS ⊢
          have hk := hk.tr hw_r17707.2.1
          have hd := hw_r17707.2.2
          refine lv_aload_n hx hb dX12_either_83 rfl (lv_at hl 1 rfl) ?_
          refine va_get (D := (dC, dI)) (ci := 12) (v := .int (v17708 40)) (C := RX12) (T := TX12) (N := 63) hx hb hwd inA_X12 hown hK hP 0 rfl rfl 40 (by decide) (hwd _ wk_1005) (fun _ h9 => h9) rfl dX12_either_84 ?_
          refine lv_if_lt (tgt := 91) hx hb dX12_either_87 (by decide) (fun c17715 => ?_) (fun c17715 => ?_)
          · skip
            have t17716 := cv_lt (a := (v17708 40).toInt) rfl (b := 0) (by decide) c17715
            refine lv_aload_n hx hb dX12_either_91 rfl (lv_at hl 1 rfl) ?_
            have t17717 : 0 ≤ (v 30).toInt ∧ (v 30).toInt ≤ 120 := by have h9 := hI.1 30 _ _ rfl; rw [show v17708 30 = v 30 from (hf17710 30 (by decide)).trans ((hf17696 30 (by decide)).trans (hf17673 30 (by decide)))] at h9; exact h9
            have t17718 : 0 ≤ (v17708 39).toInt ∧ (v17708 39).toInt ≤ 120 := hI.1 39 _ _ rfl
            refine va_calli (va_runV (As := []) (rest := []) ⟨hx, hb, hml, hown, hwd⟩ (c_X12_look l dC dI g c adK adV v17708 F17709 rc H.size  hg hI ) (cwV 0 hwd (gV wk_1017 wk_1014 wk_1015 wk_1016 wk_5) rfl rfl rfl (by decide +kernel) ⟨Nat.le_of_ble_eq_true rfl, Nat.le_of_ble_eq_true rfl⟩) ⟨PM.blind, va_recv hK hP (ci := 12) (q0 := 0) rfl rfl, fun U hU hW => ⟨rfl, PM.at hK hE hP hS hU hW⟩⟩ rfl rfl hl.1 rfl (lv_room (Nat.le_of_ble_eq_true rfl)) dX12_either_92 ⟨Nat.le_of_ble_eq_true rfl, Nat.le_of_ble_eq_true rfl⟩) hS (fun q _ h => (freeM hS) q h) (freeM hS) (fun r17719 u t H1 locs ht hvm hw hB hz1 hk1 hS => ?_)
            unfold BM at hB
            rw [ht] at hB
            have hP : va_P (dC, dI) classes (wM g c v17708 F17709 rc) H1 := hB
            have hw : r17719.toInt = lkM (v17708 39) (v17708 30) (F17709 24) ∧ ((v17708 39).toInt < (v17708 30).toInt ∨ r17719.toInt = -1) := hw
            rw [show v17708 30 = v 30 from (hf17710 30 (by decide)).trans ((hf17696 30 (by decide)).trans (hf17673 30 (by decide)))] at hw
            rw [hF 24 (by decide)] at hw
            have hw_r17719 := hw
            generalize H1 = H at hP hS ⊢
            refine lv_bipush (v := 58) hx hb dX12_either_95 (by decide) ?_
            refine lv_icmp_eq (tgt := 105) hx hb dX12_either_97 (by decide) (fun c17720 => ?_) (fun c17720 => ?_)
            · skip
              have t17721 := cv_eq (a := r17719.toInt) rfl (b := 58) (by decide) c17720
              refine lv_aload_n hx hb dX12_either_105 rfl (lv_at hl 1 rfl) ?_
              refine lv_dup hx hb dX12_either_106 rfl ?_
              refine va_get (D := (dC, dI)) (ci := 12) (v := .int (v17708 39)) (C := RX12) (T := TX12) (N := 63) hx hb hwd inA_X12 hown hK hP 0 rfl rfl 39 (by decide) (hwd _ wk_1004) (fun _ h9 => h9) rfl dX12_either_107 ?_
              have t17722 : 0 ≤ (v17708 39).toInt ∧ (v17708 39).toInt ≤ 120 := hI.1 39 _ _ rfl
              refine lv_iconst (v := 1) hx hb dX12_either_110 (by decide) ?_
              refine lv_iadd hx hb dX12_either_111 ?_
              refine lv_topi (fun z17723 e17724 => ?_)
              try (have t17725 := tadd e17724 (a := (v17708 39).toInt) rfl (b := 1) (by decide) (by omega))
              refine va_put (D := (dC, dI)) (ci := 12) (v := .int z17723) (ty := .int) (C := RX12) (T := TX12) (N := 63) (fs := fsM_0 g v17708 rc) hx hb hwd inA_X12 tyX12 tyX12_ok nmX12 hown hK hP (DM hg) hS 0 rfl rfl 39 (by decide) (hwd _ wk_1004) (fun _ h9 => h9) rfl (by decide +kernel) rfl rfl (Nat.le_of_ble_eq_true rfl) dX12_either_112 (fun H locs hP _ hS => ?_)
              have hP := va_P_eq (pM_39 g c _ _ _ _) hP
              have hI := IM.put hI 39 z17723 rfl (by omega)
              refine lv_aload_n hx hb dX12_either_115 rfl (lv_at hl 1 rfl) ?_
              have t17726 : 0 ≤ (v 30).toInt ∧ (v 30).toInt ≤ 120 := by have h9 := hI.1 30 _ _ rfl; rw [show (va_up v17708 39 z17723) 30 = v 30 from (hf17710 30 (by decide)).trans ((hf17696 30 (by decide)).trans (hf17673 30 (by decide)))] at h9; exact h9
              have t17727 : 0 ≤ (v 37).toInt ∧ (v 37).toInt ≤ 9 := by have h9 := hI.1 37 _ _ rfl; rw [show (va_up v17708 39 z17723) 37 = v 37 from (hf17710 37 (by decide)).trans ((hf17696 37 (by decide)).trans (hf17673 37 (by decide)))] at h9; exact h9
              have t17728 : 0 ≤ (v17708 38).toInt ∧ (v17708 38).toInt ≤ 120 := hI.1 38 _ _ rfl
              have t17729 : 0 ≤ z17723.toInt ∧ z17723.toInt ≤ 120 := hI.1 39 _ _ rfl
              have t17730 : 0 ≤ (v17708 41).toInt ∧ (v17708 41).toInt ≤ 8 := hI.1 41 _ _ rfl
              refine va_callv (va_runV (As := []) (rest := []) ⟨hx, hb, hml, hown, hwd⟩ (c_X12_either_5 l dC dI g c adK adV (va_up v17708 39 z17723) F17709 rc H.size  ((d + 1) + 1) hg hI (by have h9 : (va_up v17708 39 z17723) 38 = v17708 38 := rfl; (try rw [h9]); clear h9; have h9 : (va_up v17708 39 z17723) 39 = z17723 := rfl; (try rw [h9]); clear h9; have h9 : (va_up v17708 39 z17723) 30 = v 30 := (hf17710 30 (by decide)).trans ((hf17696 30 (by decide)).trans (hf17673 30 (by decide))); (try rw [h9]); clear h9; have h9 : (va_up v17708 39 z17723) 40 = v17708 40 := rfl; (try rw [h9]); clear h9; have h9 : (va_up v17708 39 z17723) 41 = v17708 41 := rfl; (try rw [h9]); clear h9; omega) (by have h9 : (va_up v17708 39 z17723) 37 = (v 37) := (hf17710 37 (by decide)).trans ((hf17696 37 (by decide)).trans (hf17673 37 (by decide))); have h8 : (va_up v17708 39 z17723) 38 = (v17708 38) := rfl; (try rw [h9]); (try rw [h8]); exact hd (by omega))) (cwV 0 hwd (gV wk_1010 wk_1007 wk_1008 wk_1009 wk_5) rfl rfl rfl (by decide +kernel) ⟨Nat.le_of_ble_eq_true rfl, Nat.le_of_ble_eq_true rfl⟩) ⟨PM.blind, va_recv hK hP (ci := 12) (q0 := 0) rfl rfl, fun U hU hW => ⟨rfl, PM.at hK hE hP hS hU hW⟩⟩ rfl rfl hl.1 rfl (lv_room (Nat.le_of_ble_eq_true rfl)) dX12_either_116 ⟨Nat.le_of_ble_eq_true rfl, Nat.le_of_ble_eq_true rfl⟩) hS (fun q _ h => (freeM hS) q h) (freeM hS) (fun u t H1 locs ht hvm hw hB hz1 hk1 hS => ?_)
              unfold BM at hB
              rw [ht] at hB
              obtain ⟨v17732, F17733, rc9⟩ := u
              obtain ⟨hI, hrc, hf17734, hG17735, hw⟩ := hw
              dsimp only at hI hrc hB hf17734 hG17735 hw
              have hF := frCF (by decide) hG17735 hF
              rw [hrc] at hB
              have hP : va_P (dC, dI) classes (wM g c v17732 F17733 rc) H1 := hB
              have hw : (z17723.toInt ≤ (v17732 39).toInt ∧ (v17732 39).toInt ≤ ((va_up v17708 39 z17723) 30).toInt ∧ (v17708 38).toInt ≤ (v17732 38).toInt ∧ (v17732 38).toInt - (v17708 38).toInt ≤ (v17732 39).toInt - z17723.toInt ∧ (v17708 41).toInt ≤ (v17732 41).toInt ∧ ((v17732 40).toInt < 0 → (v17732 41).toInt = (v17708 41).toInt)) ∧ keepL ((va_up v17708 39 z17723) 37) (F17709 28) (F17709 29) (F17733 28) (F17733 29) ∧ ((v17732 40).toInt < 0 → dp (F17733 28) (F17733 29) (bI ((va_up v17708 39 z17723) 37)) (v17732 38).toInt.toNat = some (((d + 1) + 1) + 1)) := hw
              rw [show (va_up v17708 39 z17723) 30 = v 30 from (hf17710 30 (by decide)).trans ((hf17696 30 (by decide)).trans (hf17673 30 (by decide)))] at hw
              rw [show (va_up v17708 39 z17723) 37 = v 37 from (hf17710 37 (by decide)).trans ((hf17696 37 (by decide)).trans (hf17673 37 (by decide)))] at hw
              have hw_r17731 := hw
              have t17736 : 0 ≤ (v17732 38).toInt ∧ (v17732 38).toInt ≤ 120 := hI.1 38 _ _ rfl
              have t17737 : 0 ≤ (v17732 39).toInt ∧ (v17732 39).toInt ≤ 120 := hI.1 39 _ _ rfl
              have t17738 : 0 ≤ (v17732 41).toInt ∧ (v17732 41).toInt ≤ 8 := hI.1 41 _ _ rfl
              generalize H1 = H at hP hS ⊢
              have hk := hk.tr hw_r17731.2.1
              have hd := hw_r17731.2.2
              refine lv_aload_n hx hb dX12_either_119 rfl (lv_at hl 1 rfl) ?_
              refine lv_iconst (v := 4) hx hb dX12_either_120 (by decide) ?_
              refine lv_iconst (v := 0) hx hb dX12_either_121 (by decide) ?_
              have t17739 : 0 ≤ (v 37).toInt ∧ (v 37).toInt ≤ 9 := by have h9 := hI.1 37 _ _ rfl; rw [show v17732 37 = v 37 from (hf17734 37 (by decide)).trans ((hf17710 37 (by decide)).trans ((hf17696 37 (by decide)).trans (hf17673 37 (by decide))))] at h9; exact h9
              have t17740 : 0 ≤ (v17732 38).toInt ∧ (v17732 38).toInt ≤ 120 := hI.1 38 _ _ rfl
              refine va_callv (va_runV (As := [.int 4, .int 0]) (rest := []) ⟨hx, hb, hml, hown, hwd⟩ (c_X12_lay l dC dI g c adK adV v17732 F17733 rc H.size 4 0 hg hI (by have h9 : v17732 38 = v17732 38 := rfl; rw [h9]; omega)) (cwV 2 hwd (gV wk_1021 wk_1018 wk_1019 wk_1020 wk_5) rfl rfl rfl (by decide +kernel) ⟨Nat.le_of_ble_eq_true rfl, Nat.le_of_ble_eq_true rfl⟩) ⟨PM.blind, va_recv hK hP (ci := 12) (q0 := 0) rfl rfl, fun U hU hW => ⟨rfl, PM.at hK hE hP hS hU hW⟩⟩ rfl rfl hl.1 rfl (lv_room (Nat.le_of_ble_eq_true rfl)) dX12_either_122 ⟨Nat.le_of_ble_eq_true rfl, Nat.le_of_ble_eq_true rfl⟩) hS (fun q _ h => (freeM hS) q h) (freeM hS) (fun u t H1 locs ht hvm hw hB hz1 hk1 hS => ?_)
              unfold BM at hB
              rw [ht] at hB
              obtain ⟨v17742, F17743, rc9⟩ := u
              obtain ⟨hI, hrc, hf17744, hG17745, hw⟩ := hw
              dsimp only at hI hrc hB hf17744 hG17745 hw
              have hF := frCF (by decide) hG17745 hF
              rw [hrc] at hB
              have hP : va_P (dC, dI) classes (wM g c v17742 F17743 rc) H1 := hB
              have hw : (v17742 38).toInt = (v17732 38).toInt + 1 ∧ keepL (v17732 37) (F17733 28) (F17733 29) (F17743 28) (F17743 29) ∧ dp (F17743 28) (F17743 29) (bI (v17732 37)) ((v17732 38).toInt.toNat + 1) = dpS (dp (F17733 28) (F17733 29) (bI (v17732 37)) (v17732 38).toInt.toNat) (4 : Int32) (0 : Int32) := hw
              rw [show v17732 37 = v 37 from (hf17734 37 (by decide)).trans ((hf17710 37 (by decide)).trans ((hf17696 37 (by decide)).trans (hf17673 37 (by decide))))] at hw
              have hw_r17741 := hw
              have t17746 : 0 ≤ (v17742 38).toInt ∧ (v17742 38).toInt ≤ 120 := hI.1 38 _ _ rfl
              have k17747 : (4 : Int32).toInt = 4 := by decide
              have k17748 : (0 : Int32).toInt = 0 := by decide
              generalize H1 = H at hP hS ⊢
              have hk := hk.tr hw_r17741.2.1
              have hd : (v17732 40).toInt < 0 → dp (F17743 28) (F17743 29) (bI (v 37)) (v17742 38).toInt.toNat = some ((((d + 1) + 1) + 1) - 2) := fun hf => (by have e9 : (v17742 38).toInt.toNat = (v17732 38).toInt.toNat + 1 := (by omega); rw [e9, hw_r17741.2.2, hd hf]; exact dpS_4 (by decide) (by omega))
              refine lv_aload_n hx hb dX12_either_125 rfl (lv_at hl 1 rfl) ?_
              refine lv_dup hx hb dX12_either_126 rfl ?_
              refine va_get (D := (dC, dI)) (ci := 12) (v := .int (v17742 41)) (C := RX12) (T := TX12) (N := 63) hx hb hwd inA_X12 hown hK hP 0 rfl rfl 41 (by decide) (hwd _ wk_1006) (fun _ h9 => h9) rfl dX12_either_127 ?_
              refine my_top (v := v17732 41) (hf17744 41 (by decide)) ?_
              have t17749 : 0 ≤ (v17732 41).toInt ∧ (v17732 41).toInt ≤ 8 := by have h9 := hI.1 41 _ _ rfl; rw [show v17742 41 = v17732 41 from hf17744 41 (by decide)] at h9; exact h9
              refine lv_iconst (v := 1) hx hb dX12_either_130 (by decide) ?_
              refine lv_isub hx hb dX12_either_131 ?_
              refine lv_topi (fun z17750 e17751 => ?_)
              try (have t17752 := tsub e17751 (a := (v17732 41).toInt) rfl (b := 1) (by decide) (by omega))
              refine va_put (D := (dC, dI)) (ci := 12) (v := .int z17750) (ty := .int) (C := RX12) (T := TX12) (N := 63) (fs := fsM_0 g v17742 rc) hx hb hwd inA_X12 tyX12 tyX12_ok nmX12 hown hK hP (DM hg) hS 0 rfl rfl 41 (by decide) (hwd _ wk_1006) (fun _ h9 => h9) rfl (by decide +kernel) rfl rfl (Nat.le_of_ble_eq_true rfl) dX12_either_132 (fun H locs hP _ hS => ?_)
              have hP := va_P_eq (pM_41 g c _ _ _ _) hP
              have hI := IM.put hI 41 z17750 rfl (by omega)
              have hP9 : va_P (dC, dI) classes (wM g c (va_up v17742 41 z17750) F17743 rc) H := hP
              exact W.vret hx hb hr (fun t ht hW => ⟨⟨((va_up v17742 41 z17750), F17743, rc), rfl, ⟨hI, rfl, (frU (by decide) (frC (by decide) hf17744 (frC (by decide) hf17734 (frU (by decide) (frC (by decide) hf17710 (frC (by decide) hf17696 (frC (by decide) hf17673 (fun _ _ => rfl)))))))), hF, (by show ((v 39).toInt ≤ ((va_up v17742 41 z17750) 39).toInt ∧ ((va_up v17742 41 z17750) 39).toInt ≤ (v 30).toInt ∧ (v 38).toInt ≤ (v17742 38).toInt ∧ (v17742 38).toInt - (v 38).toInt ≤ ((va_up v17742 41 z17750) 39).toInt - (v 39).toInt ∧ (v 41).toInt ≤ z17750.toInt ∧ (((va_up v17742 41 z17750) 40).toInt < 0 → z17750.toInt = (v 41).toInt)) ∧ keepL (v 37) (F 28) (F 29) (F17743 28) (F17743 29) ∧ (((va_up v17742 41 z17750) 40).toInt < 0 → dp (F17743 28) (F17743 29) (bI (v 37)) (v17742 38).toInt.toNat = some (d + 1)); rw [show (va_up v17742 41 z17750) 39 = v17732 39 from hf17744 39 (by decide)]; rw [show (va_up v17742 41 z17750) 40 = v17732 40 from hf17744 40 (by decide)]; exact ⟨by omega, hk, fun hf => (hd (by omega)).trans (congrArg some (by omega))⟩)⟩, (by show va_P _ _ _ t.heap; rw [ht]; exact hP9)⟩, hS.F ht⟩) hS.2.2 dX12_either_135
            · skip
              have t17753 := cv_ne (a := r17719.toInt) rfl (b := 58) (by decide) c17720
              refine lv_aload_n hx hb dX12_either_100 rfl (lv_at hl 1 rfl) ?_
              refine va_callv (va_runV (As := []) (rest := []) ⟨hx, hb, hml, hown, hwd⟩ (c_X12_wrong l dC dI g c adK adV v17708 F17709 rc H.size  hg hI ) (cwV 0 hwd (gV wk_1029 wk_1026 wk_1027 wk_1028 wk_5) rfl rfl rfl (by decide +kernel) ⟨Nat.le_of_ble_eq_true rfl, Nat.le_of_ble_eq_true rfl⟩) ⟨PM.blind, va_recv hK hP (ci := 12) (q0 := 0) rfl rfl, fun U hU hW => ⟨rfl, PM.at hK hE hP hS hU hW⟩⟩ rfl rfl hl.1 rfl (lv_room (Nat.le_of_ble_eq_true rfl)) dX12_either_101 ⟨Nat.le_of_ble_eq_true rfl, Nat.le_of_ble_eq_true rfl⟩) hS (fun q _ h => (freeM hS) q h) (freeM hS) (fun u t H1 locs ht hvm hw hB hz1 hk1 hS => ?_)
              unfold BM at hB
              rw [ht] at hB
              obtain ⟨v17755, F17756, rc9⟩ := u
              obtain ⟨hI, hrc, hf17757, hG17758, hw⟩ := hw
              dsimp only at hI hrc hB hf17757 hG17758 hw
              have hF := frCF (by decide) hG17758 hF
              rw [hrc] at hB
              have hP : va_P (dC, dI) classes (wM g c v17755 F17756 rc) H1 := hB
              have hw : 0 ≤ (v17755 40).toInt := hw
              have hw_r17754 := hw
              generalize H1 = H at hP hS ⊢
              have hk : keepL (v 37) (F 28) (F 29) (F17756 28) (F17756 29) := by rw [hG17758 28 (by decide), hG17758 29 (by decide)]; exact hk
              have hd : (v17755 40).toInt < 0 → dp (F17756 28) (F17756 29) (bI (v 37)) (v17708 38).toInt.toNat = some ((d + 1) + 1) := fun hf => (by rw [hG17758 28 (by decide), hG17758 29 (by decide)]; exact hd (by omega))
              have hP9 : va_P (dC, dI) classes (wM g c v17755 F17756 rc) H := hP
              exact W.vret hx hb hr (fun t ht hW => ⟨⟨(v17755, F17756, rc), rfl, ⟨hI, rfl, (frC (by decide) hf17757 (frC (by decide) hf17710 (frC (by decide) hf17696 (frC (by decide) hf17673 (fun _ _ => rfl))))), hF, (by show ((v 39).toInt ≤ (v17755 39).toInt ∧ (v17755 39).toInt ≤ (v 30).toInt ∧ (v 38).toInt ≤ (v17755 38).toInt ∧ (v17755 38).toInt - (v 38).toInt ≤ (v17755 39).toInt - (v 39).toInt ∧ (v 41).toInt ≤ (v17755 41).toInt ∧ ((v17755 40).toInt < 0 → (v17755 41).toInt = (v 41).toInt)) ∧ keepL (v 37) (F 28) (F 29) (F17756 28) (F17756 29) ∧ ((v17755 40).toInt < 0 → dp (F17756 28) (F17756 29) (bI (v 37)) (v17755 38).toInt.toNat = some (d + 1)); rw [show v17755 39 = v17708 39 from hf17757 39 (by decide)]; rw [show v17755 38 = v17708 38 from hf17757 38 (by decide)]; rw [show v17755 41 = v17708 41 from hf17757 41 (by decide)]; exact ⟨by omega, hk, fun hf => (hd (by omega)).trans (congrArg some (by omega))⟩)⟩, (by show va_P _ _ _ t.heap; rw [ht]; exact hP9)⟩, hS.F ht⟩) hS.2.2 dX12_either_104
          · skip
            have t17759 := cv_nlt (a := (v17708 40).toInt) rfl (b := 0) (by decide) c17715
            have hP9 : va_P (dC, dI) classes (wM g c v17708 F17709 rc) H := hP
            exact W.vret hx hb hr (fun t ht hW => ⟨⟨(v17708, F17709, rc), rfl, ⟨hI, rfl, (frC (by decide) hf17710 (frC (by decide) hf17696 (frC (by decide) hf17673 (fun _ _ => rfl)))), hF, (by show ((v 39).toInt ≤ (v17708 39).toInt ∧ (v17708 39).toInt ≤ (v 30).toInt ∧ (v 38).toInt ≤ (v17708 38).toInt ∧ (v17708 38).toInt - (v 38).toInt ≤ (v17708 39).toInt - (v 39).toInt ∧ (v 41).toInt ≤ (v17708 41).toInt ∧ ((v17708 40).toInt < 0 → (v17708 41).toInt = (v 41).toInt)) ∧ keepL (v 37) (F 28) (F 29) (F17709 28) (F17709 29) ∧ ((v17708 40).toInt < 0 → dp (F17709 28) (F17709 29) (bI (v 37)) (v17708 38).toInt.toNat = some (d + 1)); exact ⟨by omega, hk, fun hf => (hd (by omega)).trans (congrArg some (by omega))⟩)⟩, (by show va_P _ _ _ t.heap; rw [ht]; exact hP9)⟩, hS.F ht⟩) hS.2.2 dX12_either_90
        · skip
          have t17760 := cv_eq (a := r17693.toInt) rfl (b := 0) (by decide) c17700
          have hP9 : va_P (dC, dI) classes (wM g c v17694 F17695 rc) H := hP
          exact W.vret hx hb hr (fun t ht hW => ⟨⟨(v17694, F17695, rc), rfl, ⟨hI, rfl, (frC (by decide) hf17696 (frC (by decide) hf17673 (fun _ _ => rfl))), hF, (by show ((v 39).toInt ≤ (v17694 39).toInt ∧ (v17694 39).toInt ≤ (v 30).toInt ∧ (v 38).toInt ≤ (v17694 38).toInt ∧ (v17694 38).toInt - (v 38).toInt ≤ (v17694 39).toInt - (v 39).toInt ∧ (v 41).toInt ≤ (v17694 41).toInt ∧ ((v17694 40).toInt < 0 → (v17694 41).toInt = (v 41).toInt)) ∧ keepL (v 37) (F 28) (F 29) (F17695 28) (F17695 29) ∧ ((v17694 40).toInt < 0 → dp (F17695 28) (F17695 29) (bI (v 37)) (v17694 38).toInt.toNat = some (d + 1)); rw [show v17694 38 = v17671 38 from hf17696 38 (by decide)]; exact ⟨by omega, hk, fun hf => (hd (by omega)).trans (congrArg some (by omega))⟩)⟩, (by show va_P _ _ _ t.heap; rw [ht]; exact hP9)⟩, hS.F ht⟩) hS.2.2 dX12_either_78
      · skip
        have t17761 := cv_ne (a := r17688.toInt) rfl (b := 63) (by decide) c17689
        have hP9 : va_P (dC, dI) classes (wM g c v17671 F17672 rc) H := hP
        exact W.vret hx hb hr (fun t ht hW => ⟨⟨(v17671, F17672, rc), rfl, ⟨hI, rfl, (frC (by decide) hf17673 (fun _ _ => rfl)), hF, (by show ((v 39).toInt ≤ (v17671 39).toInt ∧ (v17671 39).toInt ≤ (v 30).toInt ∧ (v 38).toInt ≤ (v17671 38).toInt ∧ (v17671 38).toInt - (v 38).toInt ≤ (v17671 39).toInt - (v 39).toInt ∧ (v 41).toInt ≤ (v17671 41).toInt ∧ ((v17671 40).toInt < 0 → (v17671 41).toInt = (v 41).toInt)) ∧ keepL (v 37) (F 28) (F 29) (F17672 28) (F17672 29) ∧ ((v17671 40).toInt < 0 → dp (F17672 28) (F17672 29) (bI (v 37)) (v17671 38).toInt.toNat = some (d + 1)); exact ⟨by omega, hk, fun hf => (hd (by omega)).trans (congrArg some (by omega))⟩)⟩, (by show va_P _ _ _ t.heap; rw [ht]; exact hP9)⟩, hS.F ht⟩) hS.2.2 dX12_either_70
  · skip
    have t17762 := cv_nle (a := 0) (by decide) (b := (v17671 40).toInt) rfl c17681
    refine lv_iload_n hx hb dX12_either_16 rfl (lv_at hl 0 rfl) ?_
    refine lv_bipush (v := 60) hx hb dX12_either_17 (by decide) ?_
    refine lv_icmp_eq (tgt := 34) hx hb dX12_either_19 (by decide) (fun c17763 => ?_) (fun c17763 => ?_)
    · skip
      have t17764 := cv_eq (a := r17680.toInt) rfl (b := 60) (by decide) c17763
      refine lv_aload_n hx hb dX12_either_34 rfl (lv_at hl 1 rfl) ?_
      refine lv_dup hx hb dX12_either_35 rfl ?_
      refine va_get (D := (dC, dI)) (ci := 12) (v := .int (v17671 39)) (C := RX12) (T := TX12) (N := 63) hx hb hwd inA_X12 hown hK hP 0 rfl rfl 39 (by decide) (hwd _ wk_1004) (fun _ h9 => h9) rfl dX12_either_36 ?_
      have t17765 : 0 ≤ (v17671 39).toInt ∧ (v17671 39).toInt ≤ 120 := hI.1 39 _ _ rfl
      refine lv_iconst (v := 1) hx hb dX12_either_39 (by decide) ?_
      refine lv_iadd hx hb dX12_either_40 ?_
      refine lv_topi (fun z17766 e17767 => ?_)
      try (have t17768 := tadd e17767 (a := (v17671 39).toInt) rfl (b := 1) (by decide) (by omega))
      refine va_put (D := (dC, dI)) (ci := 12) (v := .int z17766) (ty := .int) (C := RX12) (T := TX12) (N := 63) (fs := fsM_0 g v17671 rc) hx hb hwd inA_X12 tyX12 tyX12_ok nmX12 hown hK hP (DM hg) hS 0 rfl rfl 39 (by decide) (hwd _ wk_1004) (fun _ h9 => h9) rfl (by decide +kernel) rfl rfl (Nat.le_of_ble_eq_true rfl) dX12_either_41 (fun H locs hP _ hS => ?_)
      have hP := va_P_eq (pM_39 g c _ _ _ _) hP
      have hI := IM.put hI 39 z17766 rfl (by omega)
      refine lv_aload_n hx hb dX12_either_44 rfl (lv_at hl 1 rfl) ?_
      have t17769 : 0 ≤ (v 30).toInt ∧ (v 30).toInt ≤ 120 := by have h9 := hI.1 30 _ _ rfl; rw [show (va_up v17671 39 z17766) 30 = v 30 from hf17673 30 (by decide)] at h9; exact h9
      have t17770 : 0 ≤ (v 37).toInt ∧ (v 37).toInt ≤ 9 := by have h9 := hI.1 37 _ _ rfl; rw [show (va_up v17671 39 z17766) 37 = v 37 from hf17673 37 (by decide)] at h9; exact h9
      have t17771 : 0 ≤ (v17671 38).toInt ∧ (v17671 38).toInt ≤ 120 := hI.1 38 _ _ rfl
      have t17772 : 0 ≤ z17766.toInt ∧ z17766.toInt ≤ 120 := hI.1 39 _ _ rfl
      have t17773 : 0 ≤ (v17671 41).toInt ∧ (v17671 41).toInt ≤ 8 := hI.1 41 _ _ rfl
      refine va_callv (va_runV (As := []) (rest := []) ⟨hx, hb, hml, hown, hwd⟩ (c_X12_sum_4 l dC dI g c adK adV (va_up v17671 39 z17766) F17672 rc H.size  (d + 1) hg hI (by have h9 : (va_up v17671 39 z17766) 38 = v17671 38 := rfl; (try rw [h9]); clear h9; have h9 : (va_up v17671 39 z17766) 39 = z17766 := rfl; (try rw [h9]); clear h9; have h9 : (va_up v17671 39 z17766) 30 = v 30 := hf17673 30 (by decide); (try rw [h9]); clear h9; have h9 : (va_up v17671 39 z17766) 40 = v17671 40 := rfl; (try rw [h9]); clear h9; have h9 : (va_up v17671 39 z17766) 41 = v17671 41 := rfl; (try rw [h9]); clear h9; omega) (by have h9 : (va_up v17671 39 z17766) 37 = (v 37) := hf17673 37 (by decide); have h8 : (va_up v17671 39 z17766) 38 = (v17671 38) := rfl; (try rw [h9]); (try rw [h8]); exact hd (by omega))) (cwV 0 hwd (gV wk_1043 wk_1011 wk_1012 wk_1013 wk_5) rfl rfl rfl (by decide +kernel) ⟨Nat.le_of_ble_eq_true rfl, Nat.le_of_ble_eq_true rfl⟩) ⟨PM.blind, va_recv hK hP (ci := 12) (q0 := 0) rfl rfl, fun U hU hW => ⟨rfl, PM.at hK hE hP hS hU hW⟩⟩ rfl rfl hl.1 rfl (lv_room (Nat.le_of_ble_eq_true rfl)) dX12_either_45 ⟨Nat.le_of_ble_eq_true rfl, Nat.le_of_ble_eq_true rfl⟩) hS (fun q _ h => (freeM hS) q h) (freeM hS) (fun u t H1 locs ht hvm hw hB hz1 hk1 hS => ?_)
      unfold BM at hB
      rw [ht] at hB
      obtain ⟨v17775, F17776, rc9⟩ := u
      obtain ⟨hI, hrc, hf17777, hG17778, hw⟩ := hw
      dsimp only at hI hrc hB hf17777 hG17778 hw
      have hF := frCF (by decide) hG17778 hF
      rw [hrc] at hB
      have hP : va_P (dC, dI) classes (wM g c v17775 F17776 rc) H1 := hB
      have hw : (z17766.toInt ≤ (v17775 39).toInt ∧ (v17775 39).toInt ≤ ((va_up v17671 39 z17766) 30).toInt ∧ (v17671 38).toInt ≤ (v17775 38).toInt ∧ (v17775 38).toInt - (v17671 38).toInt ≤ (v17775 39).toInt - z17766.toInt ∧ (v17671 41).toInt ≤ (v17775 41).toInt ∧ ((v17775 40).toInt < 0 → (v17775 41).toInt = (v17671 41).toInt)) ∧ keepL ((va_up v17671 39 z17766) 37) (F17672 28) (F17672 29) (F17776 28) (F17776 29) ∧ ((v17775 40).toInt < 0 → dp (F17776 28) (F17776 29) (bI ((va_up v17671 39 z17766) 37)) (v17775 38).toInt.toNat = some ((d + 1) + 1)) := hw
      rw [show (va_up v17671 39 z17766) 30 = v 30 from hf17673 30 (by decide)] at hw
      rw [show (va_up v17671 39 z17766) 37 = v 37 from hf17673 37 (by decide)] at hw
      have hw_r17774 := hw
      have t17779 : 0 ≤ (v17775 38).toInt ∧ (v17775 38).toInt ≤ 120 := hI.1 38 _ _ rfl
      have t17780 : 0 ≤ (v17775 39).toInt ∧ (v17775 39).toInt ≤ 120 := hI.1 39 _ _ rfl
      have t17781 : 0 ≤ (v17775 41).toInt ∧ (v17775 41).toInt ≤ 8 := hI.1 41 _ _ rfl
      generalize H1 = H at hP hS ⊢
      have hk := hk.tr hw_r17774.2.1
      have hd := hw_r17774.2.2
      refine lv_aload_n hx hb dX12_either_48 rfl (lv_at hl 1 rfl) ?_
      refine lv_iload_n hx hb dX12_either_49 rfl (lv_at hl 0 rfl) ?_
      refine lv_iconst (v := 0) hx hb dX12_either_50 (by decide) ?_
      have t17782 : 0 ≤ (v 37).toInt ∧ (v 37).toInt ≤ 9 := by have h9 := hI.1 37 _ _ rfl; rw [show v17775 37 = v 37 from (hf17777 37 (by decide)).trans (hf17673 37 (by decide))] at h9; exact h9
      have t17783 : 0 ≤ (v17775 38).toInt ∧ (v17775 38).toInt ≤ 120 := hI.1 38 _ _ rfl
      refine va_callv (va_runV (As := [.int r17680, .int 0]) (rest := []) ⟨hx, hb, hml, hown, hwd⟩ (c_X12_lay l dC dI g c adK adV v17775 F17776 rc H.size r17680 0 hg hI (by have h9 : v17775 38 = v17775 38 := rfl; rw [h9]; omega)) (cwV 2 hwd (gV wk_1021 wk_1018 wk_1019 wk_1020 wk_5) rfl rfl rfl (by decide +kernel) ⟨Nat.le_of_ble_eq_true rfl, Nat.le_of_ble_eq_true rfl⟩) ⟨PM.blind, va_recv hK hP (ci := 12) (q0 := 0) rfl rfl, fun U hU hW => ⟨rfl, PM.at hK hE hP hS hU hW⟩⟩ rfl rfl hl.1 rfl (lv_room (Nat.le_of_ble_eq_true rfl)) dX12_either_51 ⟨Nat.le_of_ble_eq_true rfl, Nat.le_of_ble_eq_true rfl⟩) hS (fun q _ h => (freeM hS) q h) (freeM hS) (fun u t H1 locs ht hvm hw hB hz1 hk1 hS => ?_)
      unfold BM at hB
      rw [ht] at hB
      obtain ⟨v17785, F17786, rc9⟩ := u
      obtain ⟨hI, hrc, hf17787, hG17788, hw⟩ := hw
      dsimp only at hI hrc hB hf17787 hG17788 hw
      have hF := frCF (by decide) hG17788 hF
      rw [hrc] at hB
      have hP : va_P (dC, dI) classes (wM g c v17785 F17786 rc) H1 := hB
      have hw : (v17785 38).toInt = (v17775 38).toInt + 1 ∧ keepL (v17775 37) (F17776 28) (F17776 29) (F17786 28) (F17786 29) ∧ dp (F17786 28) (F17786 29) (bI (v17775 37)) ((v17775 38).toInt.toNat + 1) = dpS (dp (F17776 28) (F17776 29) (bI (v17775 37)) (v17775 38).toInt.toNat) r17680 (0 : Int32) := hw
      rw [show v17775 37 = v 37 from (hf17777 37 (by decide)).trans (hf17673 37 (by decide))] at hw
      have hw_r17784 := hw
      have t17789 : 0 ≤ (v17785 38).toInt ∧ (v17785 38).toInt ≤ 120 := hI.1 38 _ _ rfl
      have k17790 : (0 : Int32).toInt = 0 := by decide
      generalize H1 = H at hP hS ⊢
      have hk := hk.tr hw_r17784.2.1
      have hd : (v17775 40).toInt < 0 → dp (F17786 28) (F17786 29) (bI (v 37)) (v17785 38).toInt.toNat = some (((d + 1) + 1) - 1) := fun hf => (by have e9 : (v17785 38).toInt.toNat = (v17775 38).toInt.toNat + 1 := (by omega); rw [e9, hw_r17784.2.2, hd hf]; exact dpS_5 (by omega) (by omega) (by omega) (by omega) (by omega))
      refine lv_aload_n hx hb dX12_either_54 rfl (lv_at hl 1 rfl) ?_
      refine va_get (D := (dC, dI)) (ci := 12) (v := .int (v17785 40)) (C := RX12) (T := TX12) (N := 63) hx hb hwd inA_X12 hown hK hP 0 rfl rfl 40 (by decide) (hwd _ wk_1005) (fun _ h9 => h9) rfl dX12_either_55 ?_
      refine my_top (v := v17775 40) (hf17787 40 (by decide)) ?_
      refine lv_if_ge (tgt := 70) hx hb dX12_either_58 (by decide) (fun c17791 => ?_) (fun c17791 => ?_)
      · skip
        have t17792 := cv_le (a := 0) (by decide) (b := (v17775 40).toInt) rfl c17791
        have hP9 : va_P (dC, dI) classes (wM g c v17785 F17786 rc) H := hP
        exact W.vret hx hb hr (fun t ht hW => ⟨⟨(v17785, F17786, rc), rfl, ⟨hI, rfl, (frC (by decide) hf17787 (frC (by decide) hf17777 (frU (by decide) (frC (by decide) hf17673 (fun _ _ => rfl))))), hF, (by show ((v 39).toInt ≤ (v17785 39).toInt ∧ (v17785 39).toInt ≤ (v 30).toInt ∧ (v 38).toInt ≤ (v17785 38).toInt ∧ (v17785 38).toInt - (v 38).toInt ≤ (v17785 39).toInt - (v 39).toInt ∧ (v 41).toInt ≤ (v17785 41).toInt ∧ ((v17785 40).toInt < 0 → (v17785 41).toInt = (v 41).toInt)) ∧ keepL (v 37) (F 28) (F 29) (F17786 28) (F17786 29) ∧ ((v17785 40).toInt < 0 → dp (F17786 28) (F17786 29) (bI (v 37)) (v17785 38).toInt.toNat = some (d + 1)); rw [show v17785 39 = v17775 39 from hf17787 39 (by decide)]; rw [show v17785 41 = v17775 41 from hf17787 41 (by decide)]; rw [show v17785 40 = v17775 40 from hf17787 40 (by decide)]; exact ⟨by omega, hk, fun hf => (hd (by omega)).trans (congrArg some (by omega))⟩)⟩, (by show va_P _ _ _ t.heap; rw [ht]; exact hP9)⟩, hS.F ht⟩) hS.2.2 dX12_either_70
      · skip
        have t17793 := cv_nle (a := 0) (by decide) (b := (v17775 40).toInt) rfl c17791
        refine lv_aload_n hx hb dX12_either_61 rfl (lv_at hl 1 rfl) ?_
        have t17794 : 0 ≤ (v 30).toInt ∧ (v 30).toInt ≤ 120 := by have h9 := hI.1 30 _ _ rfl; rw [show v17785 30 = v 30 from (hf17787 30 (by decide)).trans ((hf17777 30 (by decide)).trans (hf17673 30 (by decide)))] at h9; exact h9
        have t17795 : 0 ≤ (v17775 39).toInt ∧ (v17775 39).toInt ≤ 120 := by have h9 := hI.1 39 _ _ rfl; rw [show v17785 39 = v17775 39 from hf17787 39 (by decide)] at h9; exact h9
        refine va_calli (va_runV (As := []) (rest := []) ⟨hx, hb, hml, hown, hwd⟩ (c_X12_look l dC dI g c adK adV v17785 F17786 rc H.size  hg hI ) (cwV 0 hwd (gV wk_1017 wk_1014 wk_1015 wk_1016 wk_5) rfl rfl rfl (by decide +kernel) ⟨Nat.le_of_ble_eq_true rfl, Nat.le_of_ble_eq_true rfl⟩) ⟨PM.blind, va_recv hK hP (ci := 12) (q0 := 0) rfl rfl, fun U hU hW => ⟨rfl, PM.at hK hE hP hS hU hW⟩⟩ rfl rfl hl.1 rfl (lv_room (Nat.le_of_ble_eq_true rfl)) dX12_either_62 ⟨Nat.le_of_ble_eq_true rfl, Nat.le_of_ble_eq_true rfl⟩) hS (fun q _ h => (freeM hS) q h) (freeM hS) (fun r17796 u t H1 locs ht hvm hw hB hz1 hk1 hS => ?_)
        unfold BM at hB
        rw [ht] at hB
        have hP : va_P (dC, dI) classes (wM g c v17785 F17786 rc) H1 := hB
        have hw : r17796.toInt = lkM (v17785 39) (v17785 30) (F17786 24) ∧ ((v17785 39).toInt < (v17785 30).toInt ∨ r17796.toInt = -1) := hw
        rw [show v17785 39 = v17775 39 from hf17787 39 (by decide)] at hw
        rw [show v17785 30 = v 30 from (hf17787 30 (by decide)).trans ((hf17777 30 (by decide)).trans (hf17673 30 (by decide)))] at hw
        rw [hF 24 (by decide)] at hw
        have hw_r17796 := hw
        generalize H1 = H at hP hS ⊢
        refine lv_bipush (v := 63) hx hb dX12_either_65 (by decide) ?_
        refine lv_icmp_eq (tgt := 71) hx hb dX12_either_67 (by decide) (fun c17797 => ?_) (fun c17797 => ?_)
        · skip
          have t17798 := cv_eq (a := r17796.toInt) rfl (b := 63) (by decide) c17797
          refine lv_aload_n hx hb dX12_either_71 rfl (lv_at hl 1 rfl) ?_
          have t17799 : 0 ≤ (v17775 39).toInt ∧ (v17775 39).toInt ≤ 120 := by have h9 := hI.1 39 _ _ rfl; rw [show v17785 39 = v17775 39 from hf17787 39 (by decide)] at h9; exact h9
          have t17800 : 0 ≤ (v17775 41).toInt ∧ (v17775 41).toInt ≤ 8 := by have h9 := hI.1 41 _ _ rfl; rw [show v17785 41 = v17775 41 from hf17787 41 (by decide)] at h9; exact h9
          refine va_calli (va_runV (As := []) (rest := []) ⟨hx, hb, hml, hown, hwd⟩ (c_X12_opens l dC dI g c adK adV v17785 F17786 rc H.size  hg hI (by have h9 : v17785 39 = v17775 39 := hf17787 39 (by decide); (try rw [h9]); clear h9; have h9 : v17785 30 = v 30 := (hf17787 30 (by decide)).trans ((hf17777 30 (by decide)).trans (hf17673 30 (by decide))); (try rw [h9]); clear h9; omega)) (cwV 0 hwd (gV wk_1025 wk_1022 wk_1023 wk_1024 wk_5) rfl rfl rfl (by decide +kernel) ⟨Nat.le_of_ble_eq_true rfl, Nat.le_of_ble_eq_true rfl⟩) ⟨PM.blind, va_recv hK hP (ci := 12) (q0 := 0) rfl rfl, fun U hU hW => ⟨rfl, PM.at hK hE hP hS hU hW⟩⟩ rfl rfl hl.1 rfl (lv_room (Nat.le_of_ble_eq_true rfl)) dX12_either_72 ⟨Nat.le_of_ble_eq_true rfl, Nat.le_of_ble_eq_true rfl⟩) hS (fun q _ h => (freeM hS) q h) (freeM hS) (fun r17801 u t H1 locs ht hvm hw hB hz1 hk1 hS => ?_)
          unfold BM at hB
          rw [ht] at hB
          obtain ⟨v17802, F17803, rc9⟩ := u
          obtain ⟨hI, hrc, hf17804, hG17805, hw⟩ := hw
          dsimp only at hI hrc hB hf17804 hG17805 hw
          have hF := frCF (by decide) hG17805 hF
          rw [hrc] at hB
          have hP : va_P (dC, dI) classes (wM g c v17802 F17803 rc) H1 := hB
          have hw : (r17801.toInt = 1 ∧ (v17785 41).toInt < 8 ∧ (v17802 41).toInt = (v17785 41).toInt + 1 ∧ (v17802 39).toInt = (v17785 39).toInt + 1 ∧ (v17802 40).toInt = (v17785 40).toInt) ∨ (r17801.toInt = 0 ∧ (v17785 41).toInt = 8 ∧ 0 ≤ (v17802 40).toInt ∧ (v17802 41).toInt = (v17785 41).toInt ∧ (v17802 39).toInt = (v17785 39).toInt) := hw
          rw [show v17785 41 = v17775 41 from hf17787 41 (by decide)] at hw
          rw [show v17785 39 = v17775 39 from hf17787 39 (by decide)] at hw
          rw [show v17785 40 = v17775 40 from hf17787 40 (by decide)] at hw
          have hw_r17801 := hw
          have t17806 : 0 ≤ (v17802 39).toInt ∧ (v17802 39).toInt ≤ 120 := hI.1 39 _ _ rfl
          have t17807 : 0 ≤ (v17802 41).toInt ∧ (v17802 41).toInt ≤ 8 := hI.1 41 _ _ rfl
          generalize H1 = H at hP hS ⊢
          have hk : keepL (v 37) (F 28) (F 29) (F17803 28) (F17803 29) := by rw [hG17805 28 (by decide), hG17805 29 (by decide)]; exact hk
          have hd : (v17802 40).toInt < 0 → dp (F17803 28) (F17803 29) (bI (v 37)) (v17785 38).toInt.toNat = some (((d + 1) + 1) - 1) := fun hf => (by rw [hG17805 28 (by decide), hG17805 29 (by decide)]; exact hd (by omega))
          refine lv_if_ne (tgt := 79) hx hb dX12_either_75 (by decide) (fun c17808 => ?_) (fun c17808 => ?_)
          · skip
            have t17809 := cv_ne (a := r17801.toInt) rfl (b := 0) (by decide) c17808
            refine lv_aload_n hx hb dX12_either_79 rfl (lv_at hl 1 rfl) ?_
            have t17810 : 0 ≤ (v 30).toInt ∧ (v 30).toInt ≤ 120 := by have h9 := hI.1 30 _ _ rfl; rw [show v17802 30 = v 30 from (hf17804 30 (by decide)).trans ((hf17787 30 (by decide)).trans ((hf17777 30 (by decide)).trans (hf17673 30 (by decide))))] at h9; exact h9
            have t17811 : 0 ≤ (v 37).toInt ∧ (v 37).toInt ≤ 9 := by have h9 := hI.1 37 _ _ rfl; rw [show v17802 37 = v 37 from (hf17804 37 (by decide)).trans ((hf17787 37 (by decide)).trans ((hf17777 37 (by decide)).trans (hf17673 37 (by decide))))] at h9; exact h9
            have t17812 : 0 ≤ (v17785 38).toInt ∧ (v17785 38).toInt ≤ 120 := by have h9 := hI.1 38 _ _ rfl; rw [show v17802 38 = v17785 38 from hf17804 38 (by decide)] at h9; exact h9
            have t17813 : 0 ≤ (v17802 39).toInt ∧ (v17802 39).toInt ≤ 120 := hI.1 39 _ _ rfl
            have t17814 : 0 ≤ (v17802 41).toInt ∧ (v17802 41).toInt ≤ 8 := hI.1 41 _ _ rfl
            refine va_callv (va_runV (As := []) (rest := []) ⟨hx, hb, hml, hown, hwd⟩ (c_X12_either_5 l dC dI g c adK adV v17802 F17803 rc H.size  (((d + 1) + 1) - 1) hg hI (by have h9 : v17802 38 = v17785 38 := hf17804 38 (by decide); (try rw [h9]); clear h9; have h9 : v17802 39 = v17802 39 := rfl; (try rw [h9]); clear h9; have h9 : v17802 30 = v 30 := (hf17804 30 (by decide)).trans ((hf17787 30 (by decide)).trans ((hf17777 30 (by decide)).trans (hf17673 30 (by decide)))); (try rw [h9]); clear h9; have h9 : v17802 40 = v17802 40 := rfl; (try rw [h9]); clear h9; have h9 : v17802 41 = v17802 41 := rfl; (try rw [h9]); clear h9; omega) (by have h9 : v17802 37 = (v 37) := (hf17804 37 (by decide)).trans ((hf17787 37 (by decide)).trans ((hf17777 37 (by decide)).trans (hf17673 37 (by decide)))); have h8 : v17802 38 = (v17785 38) := hf17804 38 (by decide); (try rw [h9]); (try rw [h8]); exact hd (by omega))) (cwV 0 hwd (gV wk_1010 wk_1007 wk_1008 wk_1009 wk_5) rfl rfl rfl (by decide +kernel) ⟨Nat.le_of_ble_eq_true rfl, Nat.le_of_ble_eq_true rfl⟩) ⟨PM.blind, va_recv hK hP (ci := 12) (q0 := 0) rfl rfl, fun U hU hW => ⟨rfl, PM.at hK hE hP hS hU hW⟩⟩ rfl rfl hl.1 rfl (lv_room (Nat.le_of_ble_eq_true rfl)) dX12_either_80 ⟨Nat.le_of_ble_eq_true rfl, Nat.le_of_ble_eq_true rfl⟩) hS (fun q _ h => (freeM hS) q h) (freeM hS) (fun u t H1 locs ht hvm hw hB hz1 hk1 hS => ?_)
            unfold BM at hB
            rw [ht] at hB
            obtain ⟨v17816, F17817, rc9⟩ := u
            obtain ⟨hI, hrc, hf17818, hG17819, hw⟩ := hw
            dsimp only at hI hrc hB hf17818 hG17819 hw
            have hF := frCF (by decide) hG17819 hF
            rw [hrc] at hB
            have hP : va_P (dC, dI) classes (wM g c v17816 F17817 rc) H1 := hB
            have hw : ((v17802 39).toInt ≤ (v17816 39).toInt ∧ (v17816 39).toInt ≤ (v17802 30).toInt ∧ (v17802 38).toInt ≤ (v17816 38).toInt ∧ (v17816 38).toInt - (v17802 38).toInt ≤ (v17816 39).toInt - (v17802 39).toInt ∧ (v17802 41).toInt ≤ (v17816 41).toInt ∧ ((v17816 40).toInt < 0 → (v17816 41).toInt = (v17802 41).toInt)) ∧ keepL (v17802 37) (F17803 28) (F17803 29) (F17817 28) (F17817 29) ∧ ((v17816 40).toInt < 0 → dp (F17817 28) (F17817 29) (bI (v17802 37)) (v17816 38).toInt.toNat = some ((((d + 1) + 1) - 1) + 1)) := hw
            rw [show v17802 30 = v 30 from (hf17804 30 (by decide)).trans ((hf17787 30 (by decide)).trans ((hf17777 30 (by decide)).trans (hf17673 30 (by decide))))] at hw
            rw [show v17802 38 = v17785 38 from hf17804 38 (by decide)] at hw
            rw [show v17802 37 = v 37 from (hf17804 37 (by decide)).trans ((hf17787 37 (by decide)).trans ((hf17777 37 (by decide)).trans (hf17673 37 (by decide))))] at hw
            have hw_r17815 := hw
            have t17820 : 0 ≤ (v17816 38).toInt ∧ (v17816 38).toInt ≤ 120 := hI.1 38 _ _ rfl
            have t17821 : 0 ≤ (v17816 39).toInt ∧ (v17816 39).toInt ≤ 120 := hI.1 39 _ _ rfl
            have t17822 : 0 ≤ (v17816 41).toInt ∧ (v17816 41).toInt ≤ 8 := hI.1 41 _ _ rfl
            generalize H1 = H at hP hS ⊢
            have hk := hk.tr hw_r17815.2.1
            have hd := hw_r17815.2.2
            refine lv_aload_n hx hb dX12_either_83 rfl (lv_at hl 1 rfl) ?_
            refine va_get (D := (dC, dI)) (ci := 12) (v := .int (v17816 40)) (C := RX12) (T := TX12) (N := 63) hx hb hwd inA_X12 hown hK hP 0 rfl rfl 40 (by decide) (hwd _ wk_1005) (fun _ h9 => h9) rfl dX12_either_84 ?_
            refine lv_if_lt (tgt := 91) hx hb dX12_either_87 (by decide) (fun c17823 => ?_) (fun c17823 => ?_)
            · skip
              have t17824 := cv_lt (a := (v17816 40).toInt) rfl (b := 0) (by decide) c17823
              refine lv_aload_n hx hb dX12_either_91 rfl (lv_at hl 1 rfl) ?_
              have t17825 : 0 ≤ (v 30).toInt ∧ (v 30).toInt ≤ 120 := by have h9 := hI.1 30 _ _ rfl; rw [show v17816 30 = v 30 from (hf17818 30 (by decide)).trans ((hf17804 30 (by decide)).trans ((hf17787 30 (by decide)).trans ((hf17777 30 (by decide)).trans (hf17673 30 (by decide)))))] at h9; exact h9
              have t17826 : 0 ≤ (v17816 39).toInt ∧ (v17816 39).toInt ≤ 120 := hI.1 39 _ _ rfl
              refine va_calli (va_runV (As := []) (rest := []) ⟨hx, hb, hml, hown, hwd⟩ (c_X12_look l dC dI g c adK adV v17816 F17817 rc H.size  hg hI ) (cwV 0 hwd (gV wk_1017 wk_1014 wk_1015 wk_1016 wk_5) rfl rfl rfl (by decide +kernel) ⟨Nat.le_of_ble_eq_true rfl, Nat.le_of_ble_eq_true rfl⟩) ⟨PM.blind, va_recv hK hP (ci := 12) (q0 := 0) rfl rfl, fun U hU hW => ⟨rfl, PM.at hK hE hP hS hU hW⟩⟩ rfl rfl hl.1 rfl (lv_room (Nat.le_of_ble_eq_true rfl)) dX12_either_92 ⟨Nat.le_of_ble_eq_true rfl, Nat.le_of_ble_eq_true rfl⟩) hS (fun q _ h => (freeM hS) q h) (freeM hS) (fun r17827 u t H1 locs ht hvm hw hB hz1 hk1 hS => ?_)
              unfold BM at hB
              rw [ht] at hB
              have hP : va_P (dC, dI) classes (wM g c v17816 F17817 rc) H1 := hB
              have hw : r17827.toInt = lkM (v17816 39) (v17816 30) (F17817 24) ∧ ((v17816 39).toInt < (v17816 30).toInt ∨ r17827.toInt = -1) := hw
              rw [show v17816 30 = v 30 from (hf17818 30 (by decide)).trans ((hf17804 30 (by decide)).trans ((hf17787 30 (by decide)).trans ((hf17777 30 (by decide)).trans (hf17673 30 (by decide)))))] at hw
              rw [hF 24 (by decide)] at hw
              have hw_r17827 := hw
              generalize H1 = H at hP hS ⊢
              refine lv_bipush (v := 58) hx hb dX12_either_95 (by decide) ?_
              refine lv_icmp_eq (tgt := 105) hx hb dX12_either_97 (by decide) (fun c17828 => ?_) (fun c17828 => ?_)
              · skip
                have t17829 := cv_eq (a := r17827.toInt) rfl (b := 58) (by decide) c17828
                refine lv_aload_n hx hb dX12_either_105 rfl (lv_at hl 1 rfl) ?_
                refine lv_dup hx hb dX12_either_106 rfl ?_
                refine va_get (D := (dC, dI)) (ci := 12) (v := .int (v17816 39)) (C := RX12) (T := TX12) (N := 63) hx hb hwd inA_X12 hown hK hP 0 rfl rfl 39 (by decide) (hwd _ wk_1004) (fun _ h9 => h9) rfl dX12_either_107 ?_
                have t17830 : 0 ≤ (v17816 39).toInt ∧ (v17816 39).toInt ≤ 120 := hI.1 39 _ _ rfl
                refine lv_iconst (v := 1) hx hb dX12_either_110 (by decide) ?_
                refine lv_iadd hx hb dX12_either_111 ?_
                refine lv_topi (fun z17831 e17832 => ?_)
                try (have t17833 := tadd e17832 (a := (v17816 39).toInt) rfl (b := 1) (by decide) (by omega))
                refine va_put (D := (dC, dI)) (ci := 12) (v := .int z17831) (ty := .int) (C := RX12) (T := TX12) (N := 63) (fs := fsM_0 g v17816 rc) hx hb hwd inA_X12 tyX12 tyX12_ok nmX12 hown hK hP (DM hg) hS 0 rfl rfl 39 (by decide) (hwd _ wk_1004) (fun _ h9 => h9) rfl (by decide +kernel) rfl rfl (Nat.le_of_ble_eq_true rfl) dX12_either_112 (fun H locs hP _ hS => ?_)
                have hP := va_P_eq (pM_39 g c _ _ _ _) hP
                have hI := IM.put hI 39 z17831 rfl (by omega)
                refine lv_aload_n hx hb dX12_either_115 rfl (lv_at hl 1 rfl) ?_
                have t17834 : 0 ≤ (v 30).toInt ∧ (v 30).toInt ≤ 120 := by have h9 := hI.1 30 _ _ rfl; rw [show (va_up v17816 39 z17831) 30 = v 30 from (hf17818 30 (by decide)).trans ((hf17804 30 (by decide)).trans ((hf17787 30 (by decide)).trans ((hf17777 30 (by decide)).trans (hf17673 30 (by decide)))))] at h9; exact h9
                have t17835 : 0 ≤ (v 37).toInt ∧ (v 37).toInt ≤ 9 := by have h9 := hI.1 37 _ _ rfl; rw [show (va_up v17816 39 z17831) 37 = v 37 from (hf17818 37 (by decide)).trans ((hf17804 37 (by decide)).trans ((hf17787 37 (by decide)).trans ((hf17777 37 (by decide)).trans (hf17673 37 (by decide)))))] at h9; exact h9
                have t17836 : 0 ≤ (v17816 38).toInt ∧ (v17816 38).toInt ≤ 120 := hI.1 38 _ _ rfl
                have t17837 : 0 ≤ z17831.toInt ∧ z17831.toInt ≤ 120 := hI.1 39 _ _ rfl
                have t17838 : 0 ≤ (v17816 41).toInt ∧ (v17816 41).toInt ≤ 8 := hI.1 41 _ _ rfl
                refine va_callv (va_runV (As := []) (rest := []) ⟨hx, hb, hml, hown, hwd⟩ (c_X12_either_5 l dC dI g c adK adV (va_up v17816 39 z17831) F17817 rc H.size  ((((d + 1) + 1) - 1) + 1) hg hI (by have h9 : (va_up v17816 39 z17831) 38 = v17816 38 := rfl; (try rw [h9]); clear h9; have h9 : (va_up v17816 39 z17831) 39 = z17831 := rfl; (try rw [h9]); clear h9; have h9 : (va_up v17816 39 z17831) 30 = v 30 := (hf17818 30 (by decide)).trans ((hf17804 30 (by decide)).trans ((hf17787 30 (by decide)).trans ((hf17777 30 (by decide)).trans (hf17673 30 (by decide))))); (try rw [h9]); clear h9; have h9 : (va_up v17816 39 z17831) 40 = v17816 40 := rfl; (try rw [h9]); clear h9; have h9 : (va_up v17816 39 z17831) 41 = v17816 41 := rfl; (try rw [h9]); clear h9; omega) (by have h9 : (va_up v17816 39 z17831) 37 = (v 37) := (hf17818 37 (by decide)).trans ((hf17804 37 (by decide)).trans ((hf17787 37 (by decide)).trans ((hf17777 37 (by decide)).trans (hf17673 37 (by decide))))); have h8 : (va_up v17816 39 z17831) 38 = (v17816 38) := rfl; (try rw [h9]); (try rw [h8]); exact hd (by omega))) (cwV 0 hwd (gV wk_1010 wk_1007 wk_1008 wk_1009 wk_5) rfl rfl rfl (by decide +kernel) ⟨Nat.le_of_ble_eq_true rfl, Nat.le_of_ble_eq_true rfl⟩) ⟨PM.blind, va_recv hK hP (ci := 12) (q0 := 0) rfl rfl, fun U hU hW => ⟨rfl, PM.at hK hE hP hS hU hW⟩⟩ rfl rfl hl.1 rfl (lv_room (Nat.le_of_ble_eq_true rfl)) dX12_either_116 ⟨Nat.le_of_ble_eq_true rfl, Nat.le_of_ble_eq_true rfl⟩) hS (fun q _ h => (freeM hS) q h) (freeM hS) (fun u t H1 locs ht hvm hw hB hz1 hk1 hS => ?_)
                unfold BM at hB
                rw [ht] at hB
                obtain ⟨v17840, F17841, rc9⟩ := u
                obtain ⟨hI, hrc, hf17842, hG17843, hw⟩ := hw
                dsimp only at hI hrc hB hf17842 hG17843 hw
                have hF := frCF (by decide) hG17843 hF
                rw [hrc] at hB
                have hP : va_P (dC, dI) classes (wM g c v17840 F17841 rc) H1 := hB
                have hw : (z17831.toInt ≤ (v17840 39).toInt ∧ (v17840 39).toInt ≤ ((va_up v17816 39 z17831) 30).toInt ∧ (v17816 38).toInt ≤ (v17840 38).toInt ∧ (v17840 38).toInt - (v17816 38).toInt ≤ (v17840 39).toInt - z17831.toInt ∧ (v17816 41).toInt ≤ (v17840 41).toInt ∧ ((v17840 40).toInt < 0 → (v17840 41).toInt = (v17816 41).toInt)) ∧ keepL ((va_up v17816 39 z17831) 37) (F17817 28) (F17817 29) (F17841 28) (F17841 29) ∧ ((v17840 40).toInt < 0 → dp (F17841 28) (F17841 29) (bI ((va_up v17816 39 z17831) 37)) (v17840 38).toInt.toNat = some (((((d + 1) + 1) - 1) + 1) + 1)) := hw
                rw [show (va_up v17816 39 z17831) 30 = v 30 from (hf17818 30 (by decide)).trans ((hf17804 30 (by decide)).trans ((hf17787 30 (by decide)).trans ((hf17777 30 (by decide)).trans (hf17673 30 (by decide)))))] at hw
                rw [show (va_up v17816 39 z17831) 37 = v 37 from (hf17818 37 (by decide)).trans ((hf17804 37 (by decide)).trans ((hf17787 37 (by decide)).trans ((hf17777 37 (by decide)).trans (hf17673 37 (by decide)))))] at hw
                have hw_r17839 := hw
                have t17844 : 0 ≤ (v17840 38).toInt ∧ (v17840 38).toInt ≤ 120 := hI.1 38 _ _ rfl
                have t17845 : 0 ≤ (v17840 39).toInt ∧ (v17840 39).toInt ≤ 120 := hI.1 39 _ _ rfl
                have t17846 : 0 ≤ (v17840 41).toInt ∧ (v17840 41).toInt ≤ 8 := hI.1 41 _ _ rfl
                generalize H1 = H at hP hS ⊢
                have hk := hk.tr hw_r17839.2.1
                have hd := hw_r17839.2.2
                refine lv_aload_n hx hb dX12_either_119 rfl (lv_at hl 1 rfl) ?_
                refine lv_iconst (v := 4) hx hb dX12_either_120 (by decide) ?_
                refine lv_iconst (v := 0) hx hb dX12_either_121 (by decide) ?_
                have t17847 : 0 ≤ (v 37).toInt ∧ (v 37).toInt ≤ 9 := by have h9 := hI.1 37 _ _ rfl; rw [show v17840 37 = v 37 from (hf17842 37 (by decide)).trans ((hf17818 37 (by decide)).trans ((hf17804 37 (by decide)).trans ((hf17787 37 (by decide)).trans ((hf17777 37 (by decide)).trans (hf17673 37 (by decide))))))] at h9; exact h9
                have t17848 : 0 ≤ (v17840 38).toInt ∧ (v17840 38).toInt ≤ 120 := hI.1 38 _ _ rfl
                refine va_callv (va_runV (As := [.int 4, .int 0]) (rest := []) ⟨hx, hb, hml, hown, hwd⟩ (c_X12_lay l dC dI g c adK adV v17840 F17841 rc H.size 4 0 hg hI (by have h9 : v17840 38 = v17840 38 := rfl; rw [h9]; omega)) (cwV 2 hwd (gV wk_1021 wk_1018 wk_1019 wk_1020 wk_5) rfl rfl rfl (by decide +kernel) ⟨Nat.le_of_ble_eq_true rfl, Nat.le_of_ble_eq_true rfl⟩) ⟨PM.blind, va_recv hK hP (ci := 12) (q0 := 0) rfl rfl, fun U hU hW => ⟨rfl, PM.at hK hE hP hS hU hW⟩⟩ rfl rfl hl.1 rfl (lv_room (Nat.le_of_ble_eq_true rfl)) dX12_either_122 ⟨Nat.le_of_ble_eq_true rfl, Nat.le_of_ble_eq_true rfl⟩) hS (fun q _ h => (freeM hS) q h) (freeM hS) (fun u t H1 locs ht hvm hw hB hz1 hk1 hS => ?_)
                unfold BM at hB
                rw [ht] at hB
                obtain ⟨v17850, F17851, rc9⟩ := u
                obtain ⟨hI, hrc, hf17852, hG17853, hw⟩ := hw
                dsimp only at hI hrc hB hf17852 hG17853 hw
                have hF := frCF (by decide) hG17853 hF
                rw [hrc] at hB
                have hP : va_P (dC, dI) classes (wM g c v17850 F17851 rc) H1 := hB
                have hw : (v17850 38).toInt = (v17840 38).toInt + 1 ∧ keepL (v17840 37) (F17841 28) (F17841 29) (F17851 28) (F17851 29) ∧ dp (F17851 28) (F17851 29) (bI (v17840 37)) ((v17840 38).toInt.toNat + 1) = dpS (dp (F17841 28) (F17841 29) (bI (v17840 37)) (v17840 38).toInt.toNat) (4 : Int32) (0 : Int32) := hw
                rw [show v17840 37 = v 37 from (hf17842 37 (by decide)).trans ((hf17818 37 (by decide)).trans ((hf17804 37 (by decide)).trans ((hf17787 37 (by decide)).trans ((hf17777 37 (by decide)).trans (hf17673 37 (by decide))))))] at hw
                have hw_r17849 := hw
                have t17854 : 0 ≤ (v17850 38).toInt ∧ (v17850 38).toInt ≤ 120 := hI.1 38 _ _ rfl
                have k17855 : (4 : Int32).toInt = 4 := by decide
                have k17856 : (0 : Int32).toInt = 0 := by decide
                generalize H1 = H at hP hS ⊢
                have hk := hk.tr hw_r17849.2.1
                have hd : (v17840 40).toInt < 0 → dp (F17851 28) (F17851 29) (bI (v 37)) (v17850 38).toInt.toNat = some ((((((d + 1) + 1) - 1) + 1) + 1) - 2) := fun hf => (by have e9 : (v17850 38).toInt.toNat = (v17840 38).toInt.toNat + 1 := (by omega); rw [e9, hw_r17849.2.2, hd hf]; exact dpS_4 (by decide) (by omega))
                refine lv_aload_n hx hb dX12_either_125 rfl (lv_at hl 1 rfl) ?_
                refine lv_dup hx hb dX12_either_126 rfl ?_
                refine va_get (D := (dC, dI)) (ci := 12) (v := .int (v17850 41)) (C := RX12) (T := TX12) (N := 63) hx hb hwd inA_X12 hown hK hP 0 rfl rfl 41 (by decide) (hwd _ wk_1006) (fun _ h9 => h9) rfl dX12_either_127 ?_
                refine my_top (v := v17840 41) (hf17852 41 (by decide)) ?_
                have t17857 : 0 ≤ (v17840 41).toInt ∧ (v17840 41).toInt ≤ 8 := by have h9 := hI.1 41 _ _ rfl; rw [show v17850 41 = v17840 41 from hf17852 41 (by decide)] at h9; exact h9
                refine lv_iconst (v := 1) hx hb dX12_either_130 (by decide) ?_
                refine lv_isub hx hb dX12_either_131 ?_
                refine lv_topi (fun z17858 e17859 => ?_)
                try (have t17860 := tsub e17859 (a := (v17840 41).toInt) rfl (b := 1) (by decide) (by omega))
                refine va_put (D := (dC, dI)) (ci := 12) (v := .int z17858) (ty := .int) (C := RX12) (T := TX12) (N := 63) (fs := fsM_0 g v17850 rc) hx hb hwd inA_X12 tyX12 tyX12_ok nmX12 hown hK hP (DM hg) hS 0 rfl rfl 41 (by decide) (hwd _ wk_1006) (fun _ h9 => h9) rfl (by decide +kernel) rfl rfl (Nat.le_of_ble_eq_true rfl) dX12_either_132 (fun H locs hP _ hS => ?_)
                have hP := va_P_eq (pM_41 g c _ _ _ _) hP
                have hI := IM.put hI 41 z17858 rfl (by omega)
                have hP9 : va_P (dC, dI) classes (wM g c (va_up v17850 41 z17858) F17851 rc) H := hP
                exact W.vret hx hb hr (fun t ht hW => ⟨⟨((va_up v17850 41 z17858), F17851, rc), rfl, ⟨hI, rfl, (frU (by decide) (frC (by decide) hf17852 (frC (by decide) hf17842 (frU (by decide) (frC (by decide) hf17818 (frC (by decide) hf17804 (frC (by decide) hf17787 (frC (by decide) hf17777 (frU (by decide) (frC (by decide) hf17673 (fun _ _ => rfl))))))))))), hF, (by show ((v 39).toInt ≤ ((va_up v17850 41 z17858) 39).toInt ∧ ((va_up v17850 41 z17858) 39).toInt ≤ (v 30).toInt ∧ (v 38).toInt ≤ (v17850 38).toInt ∧ (v17850 38).toInt - (v 38).toInt ≤ ((va_up v17850 41 z17858) 39).toInt - (v 39).toInt ∧ (v 41).toInt ≤ z17858.toInt ∧ (((va_up v17850 41 z17858) 40).toInt < 0 → z17858.toInt = (v 41).toInt)) ∧ keepL (v 37) (F 28) (F 29) (F17851 28) (F17851 29) ∧ (((va_up v17850 41 z17858) 40).toInt < 0 → dp (F17851 28) (F17851 29) (bI (v 37)) (v17850 38).toInt.toNat = some (d + 1)); rw [show (va_up v17850 41 z17858) 39 = v17840 39 from hf17852 39 (by decide)]; rw [show (va_up v17850 41 z17858) 40 = v17840 40 from hf17852 40 (by decide)]; exact ⟨by omega, hk, fun hf => (hd (by omega)).trans (congrArg some (by omega))⟩)⟩, (by show va_P _ _ _ t.heap; rw [ht]; exact hP9)⟩, hS.F ht⟩) hS.2.2 dX12_either_135
              · skip
                have t17861 := cv_ne (a := r17827.toInt) rfl (b := 58) (by decide) c17828
                refine lv_aload_n hx hb dX12_either_100 rfl (lv_at hl 1 rfl) ?_
                refine va_callv (va_runV (As := []) (rest := []) ⟨hx, hb, hml, hown, hwd⟩ (c_X12_wrong l dC dI g c adK adV v17816 F17817 rc H.size  hg hI ) (cwV 0 hwd (gV wk_1029 wk_1026 wk_1027 wk_1028 wk_5) rfl rfl rfl (by decide +kernel) ⟨Nat.le_of_ble_eq_true rfl, Nat.le_of_ble_eq_true rfl⟩) ⟨PM.blind, va_recv hK hP (ci := 12) (q0 := 0) rfl rfl, fun U hU hW => ⟨rfl, PM.at hK hE hP hS hU hW⟩⟩ rfl rfl hl.1 rfl (lv_room (Nat.le_of_ble_eq_true rfl)) dX12_either_101 ⟨Nat.le_of_ble_eq_true rfl, Nat.le_of_ble_eq_true rfl⟩) hS (fun q _ h => (freeM hS) q h) (freeM hS) (fun u t H1 locs ht hvm hw hB hz1 hk1 hS => ?_)
                unfold BM at hB
                rw [ht] at hB
                obtain ⟨v17863, F17864, rc9⟩ := u
                obtain ⟨hI, hrc, hf17865, hG17866, hw⟩ := hw
                dsimp only at hI hrc hB hf17865 hG17866 hw
                have hF := frCF (by decide) hG17866 hF
                rw [hrc] at hB
                have hP : va_P (dC, dI) classes (wM g c v17863 F17864 rc) H1 := hB
                have hw : 0 ≤ (v17863 40).toInt := hw
                have hw_r17862 := hw
                generalize H1 = H at hP hS ⊢
                have hk : keepL (v 37) (F 28) (F 29) (F17864 28) (F17864 29) := by rw [hG17866 28 (by decide), hG17866 29 (by decide)]; exact hk
                have hd : (v17863 40).toInt < 0 → dp (F17864 28) (F17864 29) (bI (v 37)) (v17816 38).toInt.toNat = some ((((d + 1) + 1) - 1) + 1) := fun hf => (by rw [hG17866 28 (by decide), hG17866 29 (by decide)]; exact hd (by omega))
                have hP9 : va_P (dC, dI) classes (wM g c v17863 F17864 rc) H := hP
                exact W.vret hx hb hr (fun t ht hW => ⟨⟨(v17863, F17864, rc), rfl, ⟨hI, rfl, (frC (by decide) hf17865 (frC (by decide) hf17818 (frC (by decide) hf17804 (frC (by decide) hf17787 (frC (by decide) hf17777 (frU (by decide) (frC (by decide) hf17673 (fun _ _ => rfl)))))))), hF, (by show ((v 39).toInt ≤ (v17863 39).toInt ∧ (v17863 39).toInt ≤ (v 30).toInt ∧ (v 38).toInt ≤ (v17863 38).toInt ∧ (v17863 38).toInt - (v 38).toInt ≤ (v17863 39).toInt - (v 39).toInt ∧ (v 41).toInt ≤ (v17863 41).toInt ∧ ((v17863 40).toInt < 0 → (v17863 41).toInt = (v 41).toInt)) ∧ keepL (v 37) (F 28) (F 29) (F17864 28) (F17864 29) ∧ ((v17863 40).toInt < 0 → dp (F17864 28) (F17864 29) (bI (v 37)) (v17863 38).toInt.toNat = some (d + 1)); rw [show v17863 39 = v17816 39 from hf17865 39 (by decide)]; rw [show v17863 38 = v17816 38 from hf17865 38 (by decide)]; rw [show v17863 41 = v17816 41 from hf17865 41 (by decide)]; exact ⟨by omega, hk, fun hf => (hd (by omega)).trans (congrArg some (by omega))⟩)⟩, (by show va_P _ _ _ t.heap; rw [ht]; exact hP9)⟩, hS.F ht⟩) hS.2.2 dX12_either_104
            · skip
              have t17867 := cv_nlt (a := (v17816 40).toInt) rfl (b := 0) (by decide) c17823
              have hP9 : va_P (dC, dI) classes (wM g c v17816 F17817 rc) H := hP
              exact W.vret hx hb hr (fun t ht hW => ⟨⟨(v17816, F17817, rc), rfl, ⟨hI, rfl, (frC (by decide) hf17818 (frC (by decide) hf17804 (frC (by decide) hf17787 (frC (by decide) hf17777 (frU (by decide) (frC (by decide) hf17673 (fun _ _ => rfl))))))), hF, (by show ((v 39).toInt ≤ (v17816 39).toInt ∧ (v17816 39).toInt ≤ (v 30).toInt ∧ (v 38).toInt ≤ (v17816 38).toInt ∧ (v17816 38).toInt - (v 38).toInt ≤ (v17816 39).toInt - (v 39).toInt ∧ (v 41).toInt ≤ (v17816 41).toInt ∧ ((v17816 40).toInt < 0 → (v17816 41).toInt = (v 41).toInt)) ∧ keepL (v 37) (F 28) (F 29) (F17817 28) (F17817 29) ∧ ((v17816 40).toInt < 0 → dp (F17817 28) (F17817 29) (bI (v 37)) (v17816 38).toInt.toNat = some (d + 1)); exact ⟨by omega, hk, fun hf => (hd (by omega)).trans (congrArg some (by omega))⟩)⟩, (by show va_P _ _ _ t.heap; rw [ht]; exact hP9)⟩, hS.F ht⟩) hS.2.2 dX12_either_90
          · skip
            have t17868 := cv_eq (a := r17801.toInt) rfl (b := 0) (by decide) c17808
            have hP9 : va_P (dC, dI) classes (wM g c v17802 F17803 rc) H := hP
            exact W.vret hx hb hr (fun t ht hW => ⟨⟨(v17802, F17803, rc), rfl, ⟨hI, rfl, (frC (by decide) hf17804 (frC (by decide) hf17787 (frC (by decide) hf17777 (frU (by decide) (frC (by decide) hf17673 (fun _ _ => rfl)))))), hF, (by show ((v 39).toInt ≤ (v17802 39).toInt ∧ (v17802 39).toInt ≤ (v 30).toInt ∧ (v 38).toInt ≤ (v17802 38).toInt ∧ (v17802 38).toInt - (v 38).toInt ≤ (v17802 39).toInt - (v 39).toInt ∧ (v 41).toInt ≤ (v17802 41).toInt ∧ ((v17802 40).toInt < 0 → (v17802 41).toInt = (v 41).toInt)) ∧ keepL (v 37) (F 28) (F 29) (F17803 28) (F17803 29) ∧ ((v17802 40).toInt < 0 → dp (F17803 28) (F17803 29) (bI (v 37)) (v17802 38).toInt.toNat = some (d + 1)); rw [show v17802 38 = v17785 38 from hf17804 38 (by decide)]; exact ⟨by omega, hk, fun hf => (hd (by omega)).trans (congrArg some (by omega))⟩)⟩, (by show va_P _ _ _ t.heap; rw [ht]; exact hP9)⟩, hS.F ht⟩) hS.2.2 dX12_either_78
        · skip
          have t17869 := cv_ne (a := r17796.toInt) rfl (b := 63) (by decide) c17797
          have hP9 : va_P (dC, dI) classes (wM g c v17785 F17786 rc) H := hP
          exact W.vret hx hb hr (fun t ht hW => ⟨⟨(v17785, F17786, rc), rfl, ⟨hI, rfl, (frC (by decide) hf17787 (frC (by decide) hf17777 (frU (by decide) (frC (by decide) hf17673 (fun _ _ => rfl))))), hF, (by show ((v 39).toInt ≤ (v17785 39).toInt ∧ (v17785 39).toInt ≤ (v 30).toInt ∧ (v 38).toInt ≤ (v17785 38).toInt ∧ (v17785 38).toInt - (v 38).toInt ≤ (v17785 39).toInt - (v 39).toInt ∧ (v 41).toInt ≤ (v17785 41).toInt ∧ ((v17785 40).toInt < 0 → (v17785 41).toInt = (v 41).toInt)) ∧ keepL (v 37) (F 28) (F 29) (F17786 28) (F17786 29) ∧ ((v17785 40).toInt < 0 → dp (F17786 28) (F17786 29) (bI (v 37)) (v17785 38).toInt.toNat = some (d + 1)); rw [show v17785 39 = v17775 39 from hf17787 39 (by decide)]; rw [show v17785 41 = v17775 41 from hf17787 41 (by decide)]; rw [show v17785 40 = v17775 40 from hf17787 40 (by decide)]; exact ⟨by omega, hk, fun hf => (hd (by omega)).trans (congrArg some (by omega))⟩)⟩, (by show va_P _ _ _ t.heap; rw [ht]; exact hP9)⟩, hS.F ht⟩) hS.2.2 dX12_either_70
    · skip
      have t17870 := cv_ne (a := r17680.toInt) rfl (b := 60) (by decide) c17763
      refine lv_iload_n hx hb dX12_either_22 rfl (lv_at hl 0 rfl) ?_
      refine lv_bipush (v := 61) hx hb dX12_either_23 (by decide) ?_
      refine lv_icmp_eq (tgt := 34) hx hb dX12_either_25 (by decide) (fun c17871 => ?_) (fun c17871 => ?_)
      · skip
        have t17872 := cv_eq (a := r17680.toInt) rfl (b := 61) (by decide) c17871
        refine lv_aload_n hx hb dX12_either_34 rfl (lv_at hl 1 rfl) ?_
        refine lv_dup hx hb dX12_either_35 rfl ?_
        refine va_get (D := (dC, dI)) (ci := 12) (v := .int (v17671 39)) (C := RX12) (T := TX12) (N := 63) hx hb hwd inA_X12 hown hK hP 0 rfl rfl 39 (by decide) (hwd _ wk_1004) (fun _ h9 => h9) rfl dX12_either_36 ?_
        have t17873 : 0 ≤ (v17671 39).toInt ∧ (v17671 39).toInt ≤ 120 := hI.1 39 _ _ rfl
        refine lv_iconst (v := 1) hx hb dX12_either_39 (by decide) ?_
        refine lv_iadd hx hb dX12_either_40 ?_
        refine lv_topi (fun z17874 e17875 => ?_)
        try (have t17876 := tadd e17875 (a := (v17671 39).toInt) rfl (b := 1) (by decide) (by omega))
        refine va_put (D := (dC, dI)) (ci := 12) (v := .int z17874) (ty := .int) (C := RX12) (T := TX12) (N := 63) (fs := fsM_0 g v17671 rc) hx hb hwd inA_X12 tyX12 tyX12_ok nmX12 hown hK hP (DM hg) hS 0 rfl rfl 39 (by decide) (hwd _ wk_1004) (fun _ h9 => h9) rfl (by decide +kernel) rfl rfl (Nat.le_of_ble_eq_true rfl) dX12_either_41 (fun H locs hP _ hS => ?_)
        have hP := va_P_eq (pM_39 g c _ _ _ _) hP
        have hI := IM.put hI 39 z17874 rfl (by omega)
        refine lv_aload_n hx hb dX12_either_44 rfl (lv_at hl 1 rfl) ?_
        have t17877 : 0 ≤ (v 30).toInt ∧ (v 30).toInt ≤ 120 := by have h9 := hI.1 30 _ _ rfl; rw [show (va_up v17671 39 z17874) 30 = v 30 from hf17673 30 (by decide)] at h9; exact h9
        have t17878 : 0 ≤ (v 37).toInt ∧ (v 37).toInt ≤ 9 := by have h9 := hI.1 37 _ _ rfl; rw [show (va_up v17671 39 z17874) 37 = v 37 from hf17673 37 (by decide)] at h9; exact h9
        have t17879 : 0 ≤ (v17671 38).toInt ∧ (v17671 38).toInt ≤ 120 := hI.1 38 _ _ rfl
        have t17880 : 0 ≤ z17874.toInt ∧ z17874.toInt ≤ 120 := hI.1 39 _ _ rfl
        have t17881 : 0 ≤ (v17671 41).toInt ∧ (v17671 41).toInt ≤ 8 := hI.1 41 _ _ rfl
        refine va_callv (va_runV (As := []) (rest := []) ⟨hx, hb, hml, hown, hwd⟩ (c_X12_sum_4 l dC dI g c adK adV (va_up v17671 39 z17874) F17672 rc H.size  (d + 1) hg hI (by have h9 : (va_up v17671 39 z17874) 38 = v17671 38 := rfl; (try rw [h9]); clear h9; have h9 : (va_up v17671 39 z17874) 39 = z17874 := rfl; (try rw [h9]); clear h9; have h9 : (va_up v17671 39 z17874) 30 = v 30 := hf17673 30 (by decide); (try rw [h9]); clear h9; have h9 : (va_up v17671 39 z17874) 40 = v17671 40 := rfl; (try rw [h9]); clear h9; have h9 : (va_up v17671 39 z17874) 41 = v17671 41 := rfl; (try rw [h9]); clear h9; omega) (by have h9 : (va_up v17671 39 z17874) 37 = (v 37) := hf17673 37 (by decide); have h8 : (va_up v17671 39 z17874) 38 = (v17671 38) := rfl; (try rw [h9]); (try rw [h8]); exact hd (by omega))) (cwV 0 hwd (gV wk_1043 wk_1011 wk_1012 wk_1013 wk_5) rfl rfl rfl (by decide +kernel) ⟨Nat.le_of_ble_eq_true rfl, Nat.le_of_ble_eq_true rfl⟩) ⟨PM.blind, va_recv hK hP (ci := 12) (q0 := 0) rfl rfl, fun U hU hW => ⟨rfl, PM.at hK hE hP hS hU hW⟩⟩ rfl rfl hl.1 rfl (lv_room (Nat.le_of_ble_eq_true rfl)) dX12_either_45 ⟨Nat.le_of_ble_eq_true rfl, Nat.le_of_ble_eq_true rfl⟩) hS (fun q _ h => (freeM hS) q h) (freeM hS) (fun u t H1 locs ht hvm hw hB hz1 hk1 hS => ?_)
        unfold BM at hB
        rw [ht] at hB
        obtain ⟨v17883, F17884, rc9⟩ := u
        obtain ⟨hI, hrc, hf17885, hG17886, hw⟩ := hw
        dsimp only at hI hrc hB hf17885 hG17886 hw
        have hF := frCF (by decide) hG17886 hF
        rw [hrc] at hB
        have hP : va_P (dC, dI) classes (wM g c v17883 F17884 rc) H1 := hB
        have hw : (z17874.toInt ≤ (v17883 39).toInt ∧ (v17883 39).toInt ≤ ((va_up v17671 39 z17874) 30).toInt ∧ (v17671 38).toInt ≤ (v17883 38).toInt ∧ (v17883 38).toInt - (v17671 38).toInt ≤ (v17883 39).toInt - z17874.toInt ∧ (v17671 41).toInt ≤ (v17883 41).toInt ∧ ((v17883 40).toInt < 0 → (v17883 41).toInt = (v17671 41).toInt)) ∧ keepL ((va_up v17671 39 z17874) 37) (F17672 28) (F17672 29) (F17884 28) (F17884 29) ∧ ((v17883 40).toInt < 0 → dp (F17884 28) (F17884 29) (bI ((va_up v17671 39 z17874) 37)) (v17883 38).toInt.toNat = some ((d + 1) + 1)) := hw
        rw [show (va_up v17671 39 z17874) 30 = v 30 from hf17673 30 (by decide)] at hw
        rw [show (va_up v17671 39 z17874) 37 = v 37 from hf17673 37 (by decide)] at hw
        have hw_r17882 := hw
        have t17887 : 0 ≤ (v17883 38).toInt ∧ (v17883 38).toInt ≤ 120 := hI.1 38 _ _ rfl
        have t17888 : 0 ≤ (v17883 39).toInt ∧ (v17883 39).toInt ≤ 120 := hI.1 39 _ _ rfl
        have t17889 : 0 ≤ (v17883 41).toInt ∧ (v17883 41).toInt ≤ 8 := hI.1 41 _ _ rfl
        generalize H1 = H at hP hS ⊢
        have hk := hk.tr hw_r17882.2.1
        have hd := hw_r17882.2.2
        refine lv_aload_n hx hb dX12_either_48 rfl (lv_at hl 1 rfl) ?_
        refine lv_iload_n hx hb dX12_either_49 rfl (lv_at hl 0 rfl) ?_
        refine lv_iconst (v := 0) hx hb dX12_either_50 (by decide) ?_
        have t17890 : 0 ≤ (v 37).toInt ∧ (v 37).toInt ≤ 9 := by have h9 := hI.1 37 _ _ rfl; rw [show v17883 37 = v 37 from (hf17885 37 (by decide)).trans (hf17673 37 (by decide))] at h9; exact h9
        have t17891 : 0 ≤ (v17883 38).toInt ∧ (v17883 38).toInt ≤ 120 := hI.1 38 _ _ rfl
        refine va_callv (va_runV (As := [.int r17680, .int 0]) (rest := []) ⟨hx, hb, hml, hown, hwd⟩ (c_X12_lay l dC dI g c adK adV v17883 F17884 rc H.size r17680 0 hg hI (by have h9 : v17883 38 = v17883 38 := rfl; rw [h9]; omega)) (cwV 2 hwd (gV wk_1021 wk_1018 wk_1019 wk_1020 wk_5) rfl rfl rfl (by decide +kernel) ⟨Nat.le_of_ble_eq_true rfl, Nat.le_of_ble_eq_true rfl⟩) ⟨PM.blind, va_recv hK hP (ci := 12) (q0 := 0) rfl rfl, fun U hU hW => ⟨rfl, PM.at hK hE hP hS hU hW⟩⟩ rfl rfl hl.1 rfl (lv_room (Nat.le_of_ble_eq_true rfl)) dX12_either_51 ⟨Nat.le_of_ble_eq_true rfl, Nat.le_of_ble_eq_true rfl⟩) hS (fun q _ h => (freeM hS) q h) (freeM hS) (fun u t H1 locs ht hvm hw hB hz1 hk1 hS => ?_)
        unfold BM at hB
        rw [ht] at hB
        obtain ⟨v17893, F17894, rc9⟩ := u
        obtain ⟨hI, hrc, hf17895, hG17896, hw⟩ := hw
        dsimp only at hI hrc hB hf17895 hG17896 hw
        have hF := frCF (by decide) hG17896 hF
        rw [hrc] at hB
        have hP : va_P (dC, dI) classes (wM g c v17893 F17894 rc) H1 := hB
        have hw : (v17893 38).toInt = (v17883 38).toInt + 1 ∧ keepL (v17883 37) (F17884 28) (F17884 29) (F17894 28) (F17894 29) ∧ dp (F17894 28) (F17894 29) (bI (v17883 37)) ((v17883 38).toInt.toNat + 1) = dpS (dp (F17884 28) (F17884 29) (bI (v17883 37)) (v17883 38).toInt.toNat) r17680 (0 : Int32) := hw
        rw [show v17883 37 = v 37 from (hf17885 37 (by decide)).trans (hf17673 37 (by decide))] at hw
        have hw_r17892 := hw
        have t17897 : 0 ≤ (v17893 38).toInt ∧ (v17893 38).toInt ≤ 120 := hI.1 38 _ _ rfl
        have k17898 : (0 : Int32).toInt = 0 := by decide
        generalize H1 = H at hP hS ⊢
        have hk := hk.tr hw_r17892.2.1
        have hd : (v17883 40).toInt < 0 → dp (F17894 28) (F17894 29) (bI (v 37)) (v17893 38).toInt.toNat = some (((d + 1) + 1) - 1) := fun hf => (by have e9 : (v17893 38).toInt.toNat = (v17883 38).toInt.toNat + 1 := (by omega); rw [e9, hw_r17892.2.2, hd hf]; exact dpS_5 (by omega) (by omega) (by omega) (by omega) (by omega))
        refine lv_aload_n hx hb dX12_either_54 rfl (lv_at hl 1 rfl) ?_
        refine va_get (D := (dC, dI)) (ci := 12) (v := .int (v17893 40)) (C := RX12) (T := TX12) (N := 63) hx hb hwd inA_X12 hown hK hP 0 rfl rfl 40 (by decide) (hwd _ wk_1005) (fun _ h9 => h9) rfl dX12_either_55 ?_
        refine my_top (v := v17883 40) (hf17895 40 (by decide)) ?_
        refine lv_if_ge (tgt := 70) hx hb dX12_either_58 (by decide) (fun c17899 => ?_) (fun c17899 => ?_)
        · skip
          have t17900 := cv_le (a := 0) (by decide) (b := (v17883 40).toInt) rfl c17899
          have hP9 : va_P (dC, dI) classes (wM g c v17893 F17894 rc) H := hP
          exact W.vret hx hb hr (fun t ht hW => ⟨⟨(v17893, F17894, rc), rfl, ⟨hI, rfl, (frC (by decide) hf17895 (frC (by decide) hf17885 (frU (by decide) (frC (by decide) hf17673 (fun _ _ => rfl))))), hF, (by show ((v 39).toInt ≤ (v17893 39).toInt ∧ (v17893 39).toInt ≤ (v 30).toInt ∧ (v 38).toInt ≤ (v17893 38).toInt ∧ (v17893 38).toInt - (v 38).toInt ≤ (v17893 39).toInt - (v 39).toInt ∧ (v 41).toInt ≤ (v17893 41).toInt ∧ ((v17893 40).toInt < 0 → (v17893 41).toInt = (v 41).toInt)) ∧ keepL (v 37) (F 28) (F 29) (F17894 28) (F17894 29) ∧ ((v17893 40).toInt < 0 → dp (F17894 28) (F17894 29) (bI (v 37)) (v17893 38).toInt.toNat = some (d + 1)); rw [show v17893 39 = v17883 39 from hf17895 39 (by decide)]; rw [show v17893 41 = v17883 41 from hf17895 41 (by decide)]; rw [show v17893 40 = v17883 40 from hf17895 40 (by decide)]; exact ⟨by omega, hk, fun hf => (hd (by omega)).trans (congrArg some (by omega))⟩)⟩, (by show va_P _ _ _ t.heap; rw [ht]; exact hP9)⟩, hS.F ht⟩) hS.2.2 dX12_either_70
        · skip
          have t17901 := cv_nle (a := 0) (by decide) (b := (v17883 40).toInt) rfl c17899
          refine lv_aload_n hx hb dX12_either_61 rfl (lv_at hl 1 rfl) ?_
          have t17902 : 0 ≤ (v 30).toInt ∧ (v 30).toInt ≤ 120 := by have h9 := hI.1 30 _ _ rfl; rw [show v17893 30 = v 30 from (hf17895 30 (by decide)).trans ((hf17885 30 (by decide)).trans (hf17673 30 (by decide)))] at h9; exact h9
          have t17903 : 0 ≤ (v17883 39).toInt ∧ (v17883 39).toInt ≤ 120 := by have h9 := hI.1 39 _ _ rfl; rw [show v17893 39 = v17883 39 from hf17895 39 (by decide)] at h9; exact h9
          refine va_calli (va_runV (As := []) (rest := []) ⟨hx, hb, hml, hown, hwd⟩ (c_X12_look l dC dI g c adK adV v17893 F17894 rc H.size  hg hI ) (cwV 0 hwd (gV wk_1017 wk_1014 wk_1015 wk_1016 wk_5) rfl rfl rfl (by decide +kernel) ⟨Nat.le_of_ble_eq_true rfl, Nat.le_of_ble_eq_true rfl⟩) ⟨PM.blind, va_recv hK hP (ci := 12) (q0 := 0) rfl rfl, fun U hU hW => ⟨rfl, PM.at hK hE hP hS hU hW⟩⟩ rfl rfl hl.1 rfl (lv_room (Nat.le_of_ble_eq_true rfl)) dX12_either_62 ⟨Nat.le_of_ble_eq_true rfl, Nat.le_of_ble_eq_true rfl⟩) hS (fun q _ h => (freeM hS) q h) (freeM hS) (fun r17904 u t H1 locs ht hvm hw hB hz1 hk1 hS => ?_)
          unfold BM at hB
          rw [ht] at hB
          have hP : va_P (dC, dI) classes (wM g c v17893 F17894 rc) H1 := hB
          have hw : r17904.toInt = lkM (v17893 39) (v17893 30) (F17894 24) ∧ ((v17893 39).toInt < (v17893 30).toInt ∨ r17904.toInt = -1) := hw
          rw [show v17893 39 = v17883 39 from hf17895 39 (by decide)] at hw
          rw [show v17893 30 = v 30 from (hf17895 30 (by decide)).trans ((hf17885 30 (by decide)).trans (hf17673 30 (by decide)))] at hw
          rw [hF 24 (by decide)] at hw
          have hw_r17904 := hw
          generalize H1 = H at hP hS ⊢
          refine lv_bipush (v := 63) hx hb dX12_either_65 (by decide) ?_
          refine lv_icmp_eq (tgt := 71) hx hb dX12_either_67 (by decide) (fun c17905 => ?_) (fun c17905 => ?_)
          · skip
            have t17906 := cv_eq (a := r17904.toInt) rfl (b := 63) (by decide) c17905
            refine lv_aload_n hx hb dX12_either_71 rfl (lv_at hl 1 rfl) ?_
            have t17907 : 0 ≤ (v17883 39).toInt ∧ (v17883 39).toInt ≤ 120 := by have h9 := hI.1 39 _ _ rfl; rw [show v17893 39 = v17883 39 from hf17895 39 (by decide)] at h9; exact h9
            have t17908 : 0 ≤ (v17883 41).toInt ∧ (v17883 41).toInt ≤ 8 := by have h9 := hI.1 41 _ _ rfl; rw [show v17893 41 = v17883 41 from hf17895 41 (by decide)] at h9; exact h9
            refine va_calli (va_runV (As := []) (rest := []) ⟨hx, hb, hml, hown, hwd⟩ (c_X12_opens l dC dI g c adK adV v17893 F17894 rc H.size  hg hI (by have h9 : v17893 39 = v17883 39 := hf17895 39 (by decide); (try rw [h9]); clear h9; have h9 : v17893 30 = v 30 := (hf17895 30 (by decide)).trans ((hf17885 30 (by decide)).trans (hf17673 30 (by decide))); (try rw [h9]); clear h9; omega)) (cwV 0 hwd (gV wk_1025 wk_1022 wk_1023 wk_1024 wk_5) rfl rfl rfl (by decide +kernel) ⟨Nat.le_of_ble_eq_true rfl, Nat.le_of_ble_eq_true rfl⟩) ⟨PM.blind, va_recv hK hP (ci := 12) (q0 := 0) rfl rfl, fun U hU hW => ⟨rfl, PM.at hK hE hP hS hU hW⟩⟩ rfl rfl hl.1 rfl (lv_room (Nat.le_of_ble_eq_true rfl)) dX12_either_72 ⟨Nat.le_of_ble_eq_true rfl, Nat.le_of_ble_eq_true rfl⟩) hS (fun q _ h => (freeM hS) q h) (freeM hS) (fun r17909 u t H1 locs ht hvm hw hB hz1 hk1 hS => ?_)
            unfold BM at hB
            rw [ht] at hB
            obtain ⟨v17910, F17911, rc9⟩ := u
            obtain ⟨hI, hrc, hf17912, hG17913, hw⟩ := hw
            dsimp only at hI hrc hB hf17912 hG17913 hw
            have hF := frCF (by decide) hG17913 hF
            rw [hrc] at hB
            have hP : va_P (dC, dI) classes (wM g c v17910 F17911 rc) H1 := hB
            have hw : (r17909.toInt = 1 ∧ (v17893 41).toInt < 8 ∧ (v17910 41).toInt = (v17893 41).toInt + 1 ∧ (v17910 39).toInt = (v17893 39).toInt + 1 ∧ (v17910 40).toInt = (v17893 40).toInt) ∨ (r17909.toInt = 0 ∧ (v17893 41).toInt = 8 ∧ 0 ≤ (v17910 40).toInt ∧ (v17910 41).toInt = (v17893 41).toInt ∧ (v17910 39).toInt = (v17893 39).toInt) := hw
            rw [show v17893 41 = v17883 41 from hf17895 41 (by decide)] at hw
            rw [show v17893 39 = v17883 39 from hf17895 39 (by decide)] at hw
            rw [show v17893 40 = v17883 40 from hf17895 40 (by decide)] at hw
            have hw_r17909 := hw
            have t17914 : 0 ≤ (v17910 39).toInt ∧ (v17910 39).toInt ≤ 120 := hI.1 39 _ _ rfl
            have t17915 : 0 ≤ (v17910 41).toInt ∧ (v17910 41).toInt ≤ 8 := hI.1 41 _ _ rfl
            generalize H1 = H at hP hS ⊢
            have hk : keepL (v 37) (F 28) (F 29) (F17911 28) (F17911 29) := by rw [hG17913 28 (by decide), hG17913 29 (by decide)]; exact hk
            have hd : (v17910 40).toInt < 0 → dp (F17911 28) (F17911 29) (bI (v 37)) (v17893 38).toInt.toNat = some (((d + 1) + 1) - 1) := fun hf => (by rw [hG17913 28 (by decide), hG17913 29 (by decide)]; exact hd (by omega))
            refine lv_if_ne (tgt := 79) hx hb dX12_either_75 (by decide) (fun c17916 => ?_) (fun c17916 => ?_)
            · skip
              have t17917 := cv_ne (a := r17909.toInt) rfl (b := 0) (by decide) c17916
              refine lv_aload_n hx hb dX12_either_79 rfl (lv_at hl 1 rfl) ?_
              have t17918 : 0 ≤ (v 30).toInt ∧ (v 30).toInt ≤ 120 := by have h9 := hI.1 30 _ _ rfl; rw [show v17910 30 = v 30 from (hf17912 30 (by decide)).trans ((hf17895 30 (by decide)).trans ((hf17885 30 (by decide)).trans (hf17673 30 (by decide))))] at h9; exact h9
              have t17919 : 0 ≤ (v 37).toInt ∧ (v 37).toInt ≤ 9 := by have h9 := hI.1 37 _ _ rfl; rw [show v17910 37 = v 37 from (hf17912 37 (by decide)).trans ((hf17895 37 (by decide)).trans ((hf17885 37 (by decide)).trans (hf17673 37 (by decide))))] at h9; exact h9
              have t17920 : 0 ≤ (v17893 38).toInt ∧ (v17893 38).toInt ≤ 120 := by have h9 := hI.1 38 _ _ rfl; rw [show v17910 38 = v17893 38 from hf17912 38 (by decide)] at h9; exact h9
              have t17921 : 0 ≤ (v17910 39).toInt ∧ (v17910 39).toInt ≤ 120 := hI.1 39 _ _ rfl
              have t17922 : 0 ≤ (v17910 41).toInt ∧ (v17910 41).toInt ≤ 8 := hI.1 41 _ _ rfl
              refine va_callv (va_runV (As := []) (rest := []) ⟨hx, hb, hml, hown, hwd⟩ (c_X12_either_5 l dC dI g c adK adV v17910 F17911 rc H.size  (((d + 1) + 1) - 1) hg hI (by have h9 : v17910 38 = v17893 38 := hf17912 38 (by decide); (try rw [h9]); clear h9; have h9 : v17910 39 = v17910 39 := rfl; (try rw [h9]); clear h9; have h9 : v17910 30 = v 30 := (hf17912 30 (by decide)).trans ((hf17895 30 (by decide)).trans ((hf17885 30 (by decide)).trans (hf17673 30 (by decide)))); (try rw [h9]); clear h9; have h9 : v17910 40 = v17910 40 := rfl; (try rw [h9]); clear h9; have h9 : v17910 41 = v17910 41 := rfl; (try rw [h9]); clear h9; omega) (by have h9 : v17910 37 = (v 37) := (hf17912 37 (by decide)).trans ((hf17895 37 (by decide)).trans ((hf17885 37 (by decide)).trans (hf17673 37 (by decide)))); have h8 : v17910 38 = (v17893 38) := hf17912 38 (by decide); (try rw [h9]); (try rw [h8]); exact hd (by omega))) (cwV 0 hwd (gV wk_1010 wk_1007 wk_1008 wk_1009 wk_5) rfl rfl rfl (by decide +kernel) ⟨Nat.le_of_ble_eq_true rfl, Nat.le_of_ble_eq_true rfl⟩) ⟨PM.blind, va_recv hK hP (ci := 12) (q0 := 0) rfl rfl, fun U hU hW => ⟨rfl, PM.at hK hE hP hS hU hW⟩⟩ rfl rfl hl.1 rfl (lv_room (Nat.le_of_ble_eq_true rfl)) dX12_either_80 ⟨Nat.le_of_ble_eq_true rfl, Nat.le_of_ble_eq_true rfl⟩) hS (fun q _ h => (freeM hS) q h) (freeM hS) (fun u t H1 locs ht hvm hw hB hz1 hk1 hS => ?_)
              unfold BM at hB
              rw [ht] at hB
              obtain ⟨v17924, F17925, rc9⟩ := u
              obtain ⟨hI, hrc, hf17926, hG17927, hw⟩ := hw
              dsimp only at hI hrc hB hf17926 hG17927 hw
              have hF := frCF (by decide) hG17927 hF
              rw [hrc] at hB
              have hP : va_P (dC, dI) classes (wM g c v17924 F17925 rc) H1 := hB
              have hw : ((v17910 39).toInt ≤ (v17924 39).toInt ∧ (v17924 39).toInt ≤ (v17910 30).toInt ∧ (v17910 38).toInt ≤ (v17924 38).toInt ∧ (v17924 38).toInt - (v17910 38).toInt ≤ (v17924 39).toInt - (v17910 39).toInt ∧ (v17910 41).toInt ≤ (v17924 41).toInt ∧ ((v17924 40).toInt < 0 → (v17924 41).toInt = (v17910 41).toInt)) ∧ keepL (v17910 37) (F17911 28) (F17911 29) (F17925 28) (F17925 29) ∧ ((v17924 40).toInt < 0 → dp (F17925 28) (F17925 29) (bI (v17910 37)) (v17924 38).toInt.toNat = some ((((d + 1) + 1) - 1) + 1)) := hw
              rw [show v17910 30 = v 30 from (hf17912 30 (by decide)).trans ((hf17895 30 (by decide)).trans ((hf17885 30 (by decide)).trans (hf17673 30 (by decide))))] at hw
              rw [show v17910 38 = v17893 38 from hf17912 38 (by decide)] at hw
              rw [show v17910 37 = v 37 from (hf17912 37 (by decide)).trans ((hf17895 37 (by decide)).trans ((hf17885 37 (by decide)).trans (hf17673 37 (by decide))))] at hw
              have hw_r17923 := hw
              have t17928 : 0 ≤ (v17924 38).toInt ∧ (v17924 38).toInt ≤ 120 := hI.1 38 _ _ rfl
              have t17929 : 0 ≤ (v17924 39).toInt ∧ (v17924 39).toInt ≤ 120 := hI.1 39 _ _ rfl
              have t17930 : 0 ≤ (v17924 41).toInt ∧ (v17924 41).toInt ≤ 8 := hI.1 41 _ _ rfl
              generalize H1 = H at hP hS ⊢
              have hk := hk.tr hw_r17923.2.1
              have hd := hw_r17923.2.2
              refine lv_aload_n hx hb dX12_either_83 rfl (lv_at hl 1 rfl) ?_
              refine va_get (D := (dC, dI)) (ci := 12) (v := .int (v17924 40)) (C := RX12) (T := TX12) (N := 63) hx hb hwd inA_X12 hown hK hP 0 rfl rfl 40 (by decide) (hwd _ wk_1005) (fun _ h9 => h9) rfl dX12_either_84 ?_
              refine lv_if_lt (tgt := 91) hx hb dX12_either_87 (by decide) (fun c17931 => ?_) (fun c17931 => ?_)
              · skip
                have t17932 := cv_lt (a := (v17924 40).toInt) rfl (b := 0) (by decide) c17931
                refine lv_aload_n hx hb dX12_either_91 rfl (lv_at hl 1 rfl) ?_
                have t17933 : 0 ≤ (v 30).toInt ∧ (v 30).toInt ≤ 120 := by have h9 := hI.1 30 _ _ rfl; rw [show v17924 30 = v 30 from (hf17926 30 (by decide)).trans ((hf17912 30 (by decide)).trans ((hf17895 30 (by decide)).trans ((hf17885 30 (by decide)).trans (hf17673 30 (by decide)))))] at h9; exact h9
                have t17934 : 0 ≤ (v17924 39).toInt ∧ (v17924 39).toInt ≤ 120 := hI.1 39 _ _ rfl
                refine va_calli (va_runV (As := []) (rest := []) ⟨hx, hb, hml, hown, hwd⟩ (c_X12_look l dC dI g c adK adV v17924 F17925 rc H.size  hg hI ) (cwV 0 hwd (gV wk_1017 wk_1014 wk_1015 wk_1016 wk_5) rfl rfl rfl (by decide +kernel) ⟨Nat.le_of_ble_eq_true rfl, Nat.le_of_ble_eq_true rfl⟩) ⟨PM.blind, va_recv hK hP (ci := 12) (q0 := 0) rfl rfl, fun U hU hW => ⟨rfl, PM.at hK hE hP hS hU hW⟩⟩ rfl rfl hl.1 rfl (lv_room (Nat.le_of_ble_eq_true rfl)) dX12_either_92 ⟨Nat.le_of_ble_eq_true rfl, Nat.le_of_ble_eq_true rfl⟩) hS (fun q _ h => (freeM hS) q h) (freeM hS) (fun r17935 u t H1 locs ht hvm hw hB hz1 hk1 hS => ?_)
                unfold BM at hB
                rw [ht] at hB
                have hP : va_P (dC, dI) classes (wM g c v17924 F17925 rc) H1 := hB
                have hw : r17935.toInt = lkM (v17924 39) (v17924 30) (F17925 24) ∧ ((v17924 39).toInt < (v17924 30).toInt ∨ r17935.toInt = -1) := hw
                rw [show v17924 30 = v 30 from (hf17926 30 (by decide)).trans ((hf17912 30 (by decide)).trans ((hf17895 30 (by decide)).trans ((hf17885 30 (by decide)).trans (hf17673 30 (by decide)))))] at hw
                rw [hF 24 (by decide)] at hw
                have hw_r17935 := hw
                generalize H1 = H at hP hS ⊢
                refine lv_bipush (v := 58) hx hb dX12_either_95 (by decide) ?_
                refine lv_icmp_eq (tgt := 105) hx hb dX12_either_97 (by decide) (fun c17936 => ?_) (fun c17936 => ?_)
                · skip
                  have t17937 := cv_eq (a := r17935.toInt) rfl (b := 58) (by decide) c17936
                  refine lv_aload_n hx hb dX12_either_105 rfl (lv_at hl 1 rfl) ?_
                  refine lv_dup hx hb dX12_either_106 rfl ?_
                  refine va_get (D := (dC, dI)) (ci := 12) (v := .int (v17924 39)) (C := RX12) (T := TX12) (N := 63) hx hb hwd inA_X12 hown hK hP 0 rfl rfl 39 (by decide) (hwd _ wk_1004) (fun _ h9 => h9) rfl dX12_either_107 ?_
                  have t17938 : 0 ≤ (v17924 39).toInt ∧ (v17924 39).toInt ≤ 120 := hI.1 39 _ _ rfl
                  refine lv_iconst (v := 1) hx hb dX12_either_110 (by decide) ?_
                  refine lv_iadd hx hb dX12_either_111 ?_
                  refine lv_topi (fun z17939 e17940 => ?_)
                  try (have t17941 := tadd e17940 (a := (v17924 39).toInt) rfl (b := 1) (by decide) (by omega))
                  refine va_put (D := (dC, dI)) (ci := 12) (v := .int z17939) (ty := .int) (C := RX12) (T := TX12) (N := 63) (fs := fsM_0 g v17924 rc) hx hb hwd inA_X12 tyX12 tyX12_ok nmX12 hown hK hP (DM hg) hS 0 rfl rfl 39 (by decide) (hwd _ wk_1004) (fun _ h9 => h9) rfl (by decide +kernel) rfl rfl (Nat.le_of_ble_eq_true rfl) dX12_either_112 (fun H locs hP _ hS => ?_)
                  have hP := va_P_eq (pM_39 g c _ _ _ _) hP
                  have hI := IM.put hI 39 z17939 rfl (by omega)
                  refine lv_aload_n hx hb dX12_either_115 rfl (lv_at hl 1 rfl) ?_
                  have t17942 : 0 ≤ (v 30).toInt ∧ (v 30).toInt ≤ 120 := by have h9 := hI.1 30 _ _ rfl; rw [show (va_up v17924 39 z17939) 30 = v 30 from (hf17926 30 (by decide)).trans ((hf17912 30 (by decide)).trans ((hf17895 30 (by decide)).trans ((hf17885 30 (by decide)).trans (hf17673 30 (by decide)))))] at h9; exact h9
                  have t17943 : 0 ≤ (v 37).toInt ∧ (v 37).toInt ≤ 9 := by have h9 := hI.1 37 _ _ rfl; rw [show (va_up v17924 39 z17939) 37 = v 37 from (hf17926 37 (by decide)).trans ((hf17912 37 (by decide)).trans ((hf17895 37 (by decide)).trans ((hf17885 37 (by decide)).trans (hf17673 37 (by decide)))))] at h9; exact h9
                  have t17944 : 0 ≤ (v17924 38).toInt ∧ (v17924 38).toInt ≤ 120 := hI.1 38 _ _ rfl
                  have t17945 : 0 ≤ z17939.toInt ∧ z17939.toInt ≤ 120 := hI.1 39 _ _ rfl
                  have t17946 : 0 ≤ (v17924 41).toInt ∧ (v17924 41).toInt ≤ 8 := hI.1 41 _ _ rfl
                  refine va_callv (va_runV (As := []) (rest := []) ⟨hx, hb, hml, hown, hwd⟩ (c_X12_either_5 l dC dI g c adK adV (va_up v17924 39 z17939) F17925 rc H.size  ((((d + 1) + 1) - 1) + 1) hg hI (by have h9 : (va_up v17924 39 z17939) 38 = v17924 38 := rfl; (try rw [h9]); clear h9; have h9 : (va_up v17924 39 z17939) 39 = z17939 := rfl; (try rw [h9]); clear h9; have h9 : (va_up v17924 39 z17939) 30 = v 30 := (hf17926 30 (by decide)).trans ((hf17912 30 (by decide)).trans ((hf17895 30 (by decide)).trans ((hf17885 30 (by decide)).trans (hf17673 30 (by decide))))); (try rw [h9]); clear h9; have h9 : (va_up v17924 39 z17939) 40 = v17924 40 := rfl; (try rw [h9]); clear h9; have h9 : (va_up v17924 39 z17939) 41 = v17924 41 := rfl; (try rw [h9]); clear h9; omega) (by have h9 : (va_up v17924 39 z17939) 37 = (v 37) := (hf17926 37 (by decide)).trans ((hf17912 37 (by decide)).trans ((hf17895 37 (by decide)).trans ((hf17885 37 (by decide)).trans (hf17673 37 (by decide))))); have h8 : (va_up v17924 39 z17939) 38 = (v17924 38) := rfl; (try rw [h9]); (try rw [h8]); exact hd (by omega))) (cwV 0 hwd (gV wk_1010 wk_1007 wk_1008 wk_1009 wk_5) rfl rfl rfl (by decide +kernel) ⟨Nat.le_of_ble_eq_true rfl, Nat.le_of_ble_eq_true rfl⟩) ⟨PM.blind, va_recv hK hP (ci := 12) (q0 := 0) rfl rfl, fun U hU hW => ⟨rfl, PM.at hK hE hP hS hU hW⟩⟩ rfl rfl hl.1 rfl (lv_room (Nat.le_of_ble_eq_true rfl)) dX12_either_116 ⟨Nat.le_of_ble_eq_true rfl, Nat.le_of_ble_eq_true rfl⟩) hS (fun q _ h => (freeM hS) q h) (freeM hS) (fun u t H1 locs ht hvm hw hB hz1 hk1 hS => ?_)
                  unfold BM at hB
                  rw [ht] at hB
                  obtain ⟨v17948, F17949, rc9⟩ := u
                  obtain ⟨hI, hrc, hf17950, hG17951, hw⟩ := hw
                  dsimp only at hI hrc hB hf17950 hG17951 hw
                  have hF := frCF (by decide) hG17951 hF
                  rw [hrc] at hB
                  have hP : va_P (dC, dI) classes (wM g c v17948 F17949 rc) H1 := hB
                  have hw : (z17939.toInt ≤ (v17948 39).toInt ∧ (v17948 39).toInt ≤ ((va_up v17924 39 z17939) 30).toInt ∧ (v17924 38).toInt ≤ (v17948 38).toInt ∧ (v17948 38).toInt - (v17924 38).toInt ≤ (v17948 39).toInt - z17939.toInt ∧ (v17924 41).toInt ≤ (v17948 41).toInt ∧ ((v17948 40).toInt < 0 → (v17948 41).toInt = (v17924 41).toInt)) ∧ keepL ((va_up v17924 39 z17939) 37) (F17925 28) (F17925 29) (F17949 28) (F17949 29) ∧ ((v17948 40).toInt < 0 → dp (F17949 28) (F17949 29) (bI ((va_up v17924 39 z17939) 37)) (v17948 38).toInt.toNat = some (((((d + 1) + 1) - 1) + 1) + 1)) := hw
                  rw [show (va_up v17924 39 z17939) 30 = v 30 from (hf17926 30 (by decide)).trans ((hf17912 30 (by decide)).trans ((hf17895 30 (by decide)).trans ((hf17885 30 (by decide)).trans (hf17673 30 (by decide)))))] at hw
                  rw [show (va_up v17924 39 z17939) 37 = v 37 from (hf17926 37 (by decide)).trans ((hf17912 37 (by decide)).trans ((hf17895 37 (by decide)).trans ((hf17885 37 (by decide)).trans (hf17673 37 (by decide)))))] at hw
                  have hw_r17947 := hw
                  have t17952 : 0 ≤ (v17948 38).toInt ∧ (v17948 38).toInt ≤ 120 := hI.1 38 _ _ rfl
                  have t17953 : 0 ≤ (v17948 39).toInt ∧ (v17948 39).toInt ≤ 120 := hI.1 39 _ _ rfl
                  have t17954 : 0 ≤ (v17948 41).toInt ∧ (v17948 41).toInt ≤ 8 := hI.1 41 _ _ rfl
                  generalize H1 = H at hP hS ⊢
                  have hk := hk.tr hw_r17947.2.1
                  have hd := hw_r17947.2.2
                  refine lv_aload_n hx hb dX12_either_119 rfl (lv_at hl 1 rfl) ?_
                  refine lv_iconst (v := 4) hx hb dX12_either_120 (by decide) ?_
                  refine lv_iconst (v := 0) hx hb dX12_either_121 (by decide) ?_
                  have t17955 : 0 ≤ (v 37).toInt ∧ (v 37).toInt ≤ 9 := by have h9 := hI.1 37 _ _ rfl; rw [show v17948 37 = v 37 from (hf17950 37 (by decide)).trans ((hf17926 37 (by decide)).trans ((hf17912 37 (by decide)).trans ((hf17895 37 (by decide)).trans ((hf17885 37 (by decide)).trans (hf17673 37 (by decide))))))] at h9; exact h9
                  have t17956 : 0 ≤ (v17948 38).toInt ∧ (v17948 38).toInt ≤ 120 := hI.1 38 _ _ rfl
                  refine va_callv (va_runV (As := [.int 4, .int 0]) (rest := []) ⟨hx, hb, hml, hown, hwd⟩ (c_X12_lay l dC dI g c adK adV v17948 F17949 rc H.size 4 0 hg hI (by have h9 : v17948 38 = v17948 38 := rfl; rw [h9]; omega)) (cwV 2 hwd (gV wk_1021 wk_1018 wk_1019 wk_1020 wk_5) rfl rfl rfl (by decide +kernel) ⟨Nat.le_of_ble_eq_true rfl, Nat.le_of_ble_eq_true rfl⟩) ⟨PM.blind, va_recv hK hP (ci := 12) (q0 := 0) rfl rfl, fun U hU hW => ⟨rfl, PM.at hK hE hP hS hU hW⟩⟩ rfl rfl hl.1 rfl (lv_room (Nat.le_of_ble_eq_true rfl)) dX12_either_122 ⟨Nat.le_of_ble_eq_true rfl, Nat.le_of_ble_eq_true rfl⟩) hS (fun q _ h => (freeM hS) q h) (freeM hS) (fun u t H1 locs ht hvm hw hB hz1 hk1 hS => ?_)
                  unfold BM at hB
                  rw [ht] at hB
                  obtain ⟨v17958, F17959, rc9⟩ := u
                  obtain ⟨hI, hrc, hf17960, hG17961, hw⟩ := hw
                  dsimp only at hI hrc hB hf17960 hG17961 hw
                  have hF := frCF (by decide) hG17961 hF
                  rw [hrc] at hB
                  have hP : va_P (dC, dI) classes (wM g c v17958 F17959 rc) H1 := hB
                  have hw : (v17958 38).toInt = (v17948 38).toInt + 1 ∧ keepL (v17948 37) (F17949 28) (F17949 29) (F17959 28) (F17959 29) ∧ dp (F17959 28) (F17959 29) (bI (v17948 37)) ((v17948 38).toInt.toNat + 1) = dpS (dp (F17949 28) (F17949 29) (bI (v17948 37)) (v17948 38).toInt.toNat) (4 : Int32) (0 : Int32) := hw
                  rw [show v17948 37 = v 37 from (hf17950 37 (by decide)).trans ((hf17926 37 (by decide)).trans ((hf17912 37 (by decide)).trans ((hf17895 37 (by decide)).trans ((hf17885 37 (by decide)).trans (hf17673 37 (by decide))))))] at hw
                  have hw_r17957 := hw
                  have t17962 : 0 ≤ (v17958 38).toInt ∧ (v17958 38).toInt ≤ 120 := hI.1 38 _ _ rfl
                  have k17963 : (4 : Int32).toInt = 4 := by decide
                  have k17964 : (0 : Int32).toInt = 0 := by decide
                  generalize H1 = H at hP hS ⊢
                  have hk := hk.tr hw_r17957.2.1
                  have hd : (v17948 40).toInt < 0 → dp (F17959 28) (F17959 29) (bI (v 37)) (v17958 38).toInt.toNat = some ((((((d + 1) + 1) - 1) + 1) + 1) - 2) := fun hf => (by have e9 : (v17958 38).toInt.toNat = (v17948 38).toInt.toNat + 1 := (by omega); rw [e9, hw_r17957.2.2, hd hf]; exact dpS_4 (by decide) (by omega))
                  refine lv_aload_n hx hb dX12_either_125 rfl (lv_at hl 1 rfl) ?_
                  refine lv_dup hx hb dX12_either_126 rfl ?_
                  refine va_get (D := (dC, dI)) (ci := 12) (v := .int (v17958 41)) (C := RX12) (T := TX12) (N := 63) hx hb hwd inA_X12 hown hK hP 0 rfl rfl 41 (by decide) (hwd _ wk_1006) (fun _ h9 => h9) rfl dX12_either_127 ?_
                  refine my_top (v := v17948 41) (hf17960 41 (by decide)) ?_
                  have t17965 : 0 ≤ (v17948 41).toInt ∧ (v17948 41).toInt ≤ 8 := by have h9 := hI.1 41 _ _ rfl; rw [show v17958 41 = v17948 41 from hf17960 41 (by decide)] at h9; exact h9
                  refine lv_iconst (v := 1) hx hb dX12_either_130 (by decide) ?_
                  refine lv_isub hx hb dX12_either_131 ?_
                  refine lv_topi (fun z17966 e17967 => ?_)
                  try (have t17968 := tsub e17967 (a := (v17948 41).toInt) rfl (b := 1) (by decide) (by omega))
                  refine va_put (D := (dC, dI)) (ci := 12) (v := .int z17966) (ty := .int) (C := RX12) (T := TX12) (N := 63) (fs := fsM_0 g v17958 rc) hx hb hwd inA_X12 tyX12 tyX12_ok nmX12 hown hK hP (DM hg) hS 0 rfl rfl 41 (by decide) (hwd _ wk_1006) (fun _ h9 => h9) rfl (by decide +kernel) rfl rfl (Nat.le_of_ble_eq_true rfl) dX12_either_132 (fun H locs hP _ hS => ?_)
                  have hP := va_P_eq (pM_41 g c _ _ _ _) hP
                  have hI := IM.put hI 41 z17966 rfl (by omega)
                  have hP9 : va_P (dC, dI) classes (wM g c (va_up v17958 41 z17966) F17959 rc) H := hP
                  exact W.vret hx hb hr (fun t ht hW => ⟨⟨((va_up v17958 41 z17966), F17959, rc), rfl, ⟨hI, rfl, (frU (by decide) (frC (by decide) hf17960 (frC (by decide) hf17950 (frU (by decide) (frC (by decide) hf17926 (frC (by decide) hf17912 (frC (by decide) hf17895 (frC (by decide) hf17885 (frU (by decide) (frC (by decide) hf17673 (fun _ _ => rfl))))))))))), hF, (by show ((v 39).toInt ≤ ((va_up v17958 41 z17966) 39).toInt ∧ ((va_up v17958 41 z17966) 39).toInt ≤ (v 30).toInt ∧ (v 38).toInt ≤ (v17958 38).toInt ∧ (v17958 38).toInt - (v 38).toInt ≤ ((va_up v17958 41 z17966) 39).toInt - (v 39).toInt ∧ (v 41).toInt ≤ z17966.toInt ∧ (((va_up v17958 41 z17966) 40).toInt < 0 → z17966.toInt = (v 41).toInt)) ∧ keepL (v 37) (F 28) (F 29) (F17959 28) (F17959 29) ∧ (((va_up v17958 41 z17966) 40).toInt < 0 → dp (F17959 28) (F17959 29) (bI (v 37)) (v17958 38).toInt.toNat = some (d + 1)); rw [show (va_up v17958 41 z17966) 39 = v17948 39 from hf17960 39 (by decide)]; rw [show (va_up v17958 41 z17966) 40 = v17948 40 from hf17960 40 (by decide)]; exact ⟨by omega, hk, fun hf => (hd (by omega)).trans (congrArg some (by omega))⟩)⟩, (by show va_P _ _ _ t.heap; rw [ht]; exact hP9)⟩, hS.F ht⟩) hS.2.2 dX12_either_135
                · skip
                  have t17969 := cv_ne (a := r17935.toInt) rfl (b := 58) (by decide) c17936
                  refine lv_aload_n hx hb dX12_either_100 rfl (lv_at hl 1 rfl) ?_
                  refine va_callv (va_runV (As := []) (rest := []) ⟨hx, hb, hml, hown, hwd⟩ (c_X12_wrong l dC dI g c adK adV v17924 F17925 rc H.size  hg hI ) (cwV 0 hwd (gV wk_1029 wk_1026 wk_1027 wk_1028 wk_5) rfl rfl rfl (by decide +kernel) ⟨Nat.le_of_ble_eq_true rfl, Nat.le_of_ble_eq_true rfl⟩) ⟨PM.blind, va_recv hK hP (ci := 12) (q0 := 0) rfl rfl, fun U hU hW => ⟨rfl, PM.at hK hE hP hS hU hW⟩⟩ rfl rfl hl.1 rfl (lv_room (Nat.le_of_ble_eq_true rfl)) dX12_either_101 ⟨Nat.le_of_ble_eq_true rfl, Nat.le_of_ble_eq_true rfl⟩) hS (fun q _ h => (freeM hS) q h) (freeM hS) (fun u t H1 locs ht hvm hw hB hz1 hk1 hS => ?_)
                  unfold BM at hB
                  rw [ht] at hB
                  obtain ⟨v17971, F17972, rc9⟩ := u
                  obtain ⟨hI, hrc, hf17973, hG17974, hw⟩ := hw
                  dsimp only at hI hrc hB hf17973 hG17974 hw
                  have hF := frCF (by decide) hG17974 hF
                  rw [hrc] at hB
                  have hP : va_P (dC, dI) classes (wM g c v17971 F17972 rc) H1 := hB
                  have hw : 0 ≤ (v17971 40).toInt := hw
                  have hw_r17970 := hw
                  generalize H1 = H at hP hS ⊢
                  have hk : keepL (v 37) (F 28) (F 29) (F17972 28) (F17972 29) := by rw [hG17974 28 (by decide), hG17974 29 (by decide)]; exact hk
                  have hd : (v17971 40).toInt < 0 → dp (F17972 28) (F17972 29) (bI (v 37)) (v17924 38).toInt.toNat = some ((((d + 1) + 1) - 1) + 1) := fun hf => (by rw [hG17974 28 (by decide), hG17974 29 (by decide)]; exact hd (by omega))
                  have hP9 : va_P (dC, dI) classes (wM g c v17971 F17972 rc) H := hP
                  exact W.vret hx hb hr (fun t ht hW => ⟨⟨(v17971, F17972, rc), rfl, ⟨hI, rfl, (frC (by decide) hf17973 (frC (by decide) hf17926 (frC (by decide) hf17912 (frC (by decide) hf17895 (frC (by decide) hf17885 (frU (by decide) (frC (by decide) hf17673 (fun _ _ => rfl)))))))), hF, (by show ((v 39).toInt ≤ (v17971 39).toInt ∧ (v17971 39).toInt ≤ (v 30).toInt ∧ (v 38).toInt ≤ (v17971 38).toInt ∧ (v17971 38).toInt - (v 38).toInt ≤ (v17971 39).toInt - (v 39).toInt ∧ (v 41).toInt ≤ (v17971 41).toInt ∧ ((v17971 40).toInt < 0 → (v17971 41).toInt = (v 41).toInt)) ∧ keepL (v 37) (F 28) (F 29) (F17972 28) (F17972 29) ∧ ((v17971 40).toInt < 0 → dp (F17972 28) (F17972 29) (bI (v 37)) (v17971 38).toInt.toNat = some (d + 1)); rw [show v17971 39 = v17924 39 from hf17973 39 (by decide)]; rw [show v17971 38 = v17924 38 from hf17973 38 (by decide)]; rw [show v17971 41 = v17924 41 from hf17973 41 (by decide)]; exact ⟨by omega, hk, fun hf => (hd (by omega)).trans (congrArg some (by omega))⟩)⟩, (by show va_P _ _ _ t.heap; rw [ht]; exact hP9)⟩, hS.F ht⟩) hS.2.2 dX12_either_104
              · skip
                have t17975 := cv_nlt (a := (v17924 40).toInt) rfl (b := 0) (by decide) c17931
                have hP9 : va_P (dC, dI) classes (wM g c v17924 F17925 rc) H := hP
                exact W.vret hx hb hr (fun t ht hW => ⟨⟨(v17924, F17925, rc), rfl, ⟨hI, rfl, (frC (by decide) hf17926 (frC (by decide) hf17912 (frC (by decide) hf17895 (frC (by decide) hf17885 (frU (by decide) (frC (by decide) hf17673 (fun _ _ => rfl))))))), hF, (by show ((v 39).toInt ≤ (v17924 39).toInt ∧ (v17924 39).toInt ≤ (v 30).toInt ∧ (v 38).toInt ≤ (v17924 38).toInt ∧ (v17924 38).toInt - (v 38).toInt ≤ (v17924 39).toInt - (v 39).toInt ∧ (v 41).toInt ≤ (v17924 41).toInt ∧ ((v17924 40).toInt < 0 → (v17924 41).toInt = (v 41).toInt)) ∧ keepL (v 37) (F 28) (F 29) (F17925 28) (F17925 29) ∧ ((v17924 40).toInt < 0 → dp (F17925 28) (F17925 29) (bI (v 37)) (v17924 38).toInt.toNat = some (d + 1)); exact ⟨by omega, hk, fun hf => (hd (by omega)).trans (congrArg some (by omega))⟩)⟩, (by show va_P _ _ _ t.heap; rw [ht]; exact hP9)⟩, hS.F ht⟩) hS.2.2 dX12_either_90
            · skip
              have t17976 := cv_eq (a := r17909.toInt) rfl (b := 0) (by decide) c17916
              have hP9 : va_P (dC, dI) classes (wM g c v17910 F17911 rc) H := hP
              exact W.vret hx hb hr (fun t ht hW => ⟨⟨(v17910, F17911, rc), rfl, ⟨hI, rfl, (frC (by decide) hf17912 (frC (by decide) hf17895 (frC (by decide) hf17885 (frU (by decide) (frC (by decide) hf17673 (fun _ _ => rfl)))))), hF, (by show ((v 39).toInt ≤ (v17910 39).toInt ∧ (v17910 39).toInt ≤ (v 30).toInt ∧ (v 38).toInt ≤ (v17910 38).toInt ∧ (v17910 38).toInt - (v 38).toInt ≤ (v17910 39).toInt - (v 39).toInt ∧ (v 41).toInt ≤ (v17910 41).toInt ∧ ((v17910 40).toInt < 0 → (v17910 41).toInt = (v 41).toInt)) ∧ keepL (v 37) (F 28) (F 29) (F17911 28) (F17911 29) ∧ ((v17910 40).toInt < 0 → dp (F17911 28) (F17911 29) (bI (v 37)) (v17910 38).toInt.toNat = some (d + 1)); rw [show v17910 38 = v17893 38 from hf17912 38 (by decide)]; exact ⟨by omega, hk, fun hf => (hd (by omega)).trans (congrArg some (by omega))⟩)⟩, (by show va_P _ _ _ t.heap; rw [ht]; exact hP9)⟩, hS.F ht⟩) hS.2.2 dX12_either_78
          · skip
            have t17977 := cv_ne (a := r17904.toInt) rfl (b := 63) (by decide) c17905
            have hP9 : va_P (dC, dI) classes (wM g c v17893 F17894 rc) H := hP
            exact W.vret hx hb hr (fun t ht hW => ⟨⟨(v17893, F17894, rc), rfl, ⟨hI, rfl, (frC (by decide) hf17895 (frC (by decide) hf17885 (frU (by decide) (frC (by decide) hf17673 (fun _ _ => rfl))))), hF, (by show ((v 39).toInt ≤ (v17893 39).toInt ∧ (v17893 39).toInt ≤ (v 30).toInt ∧ (v 38).toInt ≤ (v17893 38).toInt ∧ (v17893 38).toInt - (v 38).toInt ≤ (v17893 39).toInt - (v 39).toInt ∧ (v 41).toInt ≤ (v17893 41).toInt ∧ ((v17893 40).toInt < 0 → (v17893 41).toInt = (v 41).toInt)) ∧ keepL (v 37) (F 28) (F 29) (F17894 28) (F17894 29) ∧ ((v17893 40).toInt < 0 → dp (F17894 28) (F17894 29) (bI (v 37)) (v17893 38).toInt.toNat = some (d + 1)); rw [show v17893 39 = v17883 39 from hf17895 39 (by decide)]; rw [show v17893 41 = v17883 41 from hf17895 41 (by decide)]; rw [show v17893 40 = v17883 40 from hf17895 40 (by decide)]; exact ⟨by omega, hk, fun hf => (hd (by omega)).trans (congrArg some (by omega))⟩)⟩, (by show va_P _ _ _ t.heap; rw [ht]; exact hP9)⟩, hS.F ht⟩) hS.2.2 dX12_either_70
      · skip
        have t17978 := cv_ne (a := r17680.toInt) rfl (b := 61) (by decide) c17871
        refine lv_iload_n hx hb dX12_either_28 rfl (lv_at hl 0 rfl) ?_
        refine lv_bipush (v := 62) hx hb dX12_either_29 (by decide) ?_
        refine lv_icmp_ne (tgt := 54) hx hb dX12_either_31 (by decide) (fun c17979 => ?_) (fun c17979 => ?_)
        · skip
          have t17980 := cv_ne (a := r17680.toInt) rfl (b := 62) (by decide) c17979
          refine lv_aload_n hx hb dX12_either_54 rfl (lv_at hl 1 rfl) ?_
          refine va_get (D := (dC, dI)) (ci := 12) (v := .int (v17671 40)) (C := RX12) (T := TX12) (N := 63) hx hb hwd inA_X12 hown hK hP 0 rfl rfl 40 (by decide) (hwd _ wk_1005) (fun _ h9 => h9) rfl dX12_either_55 ?_
          refine lv_if_ge (tgt := 70) hx hb dX12_either_58 (by decide) (fun c17981 => ?_) (fun c17981 => ?_)
          · skip
            have t17982 := cv_le (a := 0) (by decide) (b := (v17671 40).toInt) rfl c17981
            have hP9 : va_P (dC, dI) classes (wM g c v17671 F17672 rc) H := hP
            exact W.vret hx hb hr (fun t ht hW => ⟨⟨(v17671, F17672, rc), rfl, ⟨hI, rfl, (frC (by decide) hf17673 (fun _ _ => rfl)), hF, (by show ((v 39).toInt ≤ (v17671 39).toInt ∧ (v17671 39).toInt ≤ (v 30).toInt ∧ (v 38).toInt ≤ (v17671 38).toInt ∧ (v17671 38).toInt - (v 38).toInt ≤ (v17671 39).toInt - (v 39).toInt ∧ (v 41).toInt ≤ (v17671 41).toInt ∧ ((v17671 40).toInt < 0 → (v17671 41).toInt = (v 41).toInt)) ∧ keepL (v 37) (F 28) (F 29) (F17672 28) (F17672 29) ∧ ((v17671 40).toInt < 0 → dp (F17672 28) (F17672 29) (bI (v 37)) (v17671 38).toInt.toNat = some (d + 1)); exact ⟨by omega, hk, fun hf => (hd (by omega)).trans (congrArg some (by omega))⟩)⟩, (by show va_P _ _ _ t.heap; rw [ht]; exact hP9)⟩, hS.F ht⟩) hS.2.2 dX12_either_70
          · skip
            have t17983 := cv_nle (a := 0) (by decide) (b := (v17671 40).toInt) rfl c17981
            refine lv_aload_n hx hb dX12_either_61 rfl (lv_at hl 1 rfl) ?_
            have t17984 : 0 ≤ (v 30).toInt ∧ (v 30).toInt ≤ 120 := by have h9 := hI.1 30 _ _ rfl; rw [show v17671 30 = v 30 from hf17673 30 (by decide)] at h9; exact h9
            have t17985 : 0 ≤ (v17671 39).toInt ∧ (v17671 39).toInt ≤ 120 := hI.1 39 _ _ rfl
            refine va_calli (va_runV (As := []) (rest := []) ⟨hx, hb, hml, hown, hwd⟩ (c_X12_look l dC dI g c adK adV v17671 F17672 rc H.size  hg hI ) (cwV 0 hwd (gV wk_1017 wk_1014 wk_1015 wk_1016 wk_5) rfl rfl rfl (by decide +kernel) ⟨Nat.le_of_ble_eq_true rfl, Nat.le_of_ble_eq_true rfl⟩) ⟨PM.blind, va_recv hK hP (ci := 12) (q0 := 0) rfl rfl, fun U hU hW => ⟨rfl, PM.at hK hE hP hS hU hW⟩⟩ rfl rfl hl.1 rfl (lv_room (Nat.le_of_ble_eq_true rfl)) dX12_either_62 ⟨Nat.le_of_ble_eq_true rfl, Nat.le_of_ble_eq_true rfl⟩) hS (fun q _ h => (freeM hS) q h) (freeM hS) (fun r17986 u t H1 locs ht hvm hw hB hz1 hk1 hS => ?_)
            unfold BM at hB
            rw [ht] at hB
            have hP : va_P (dC, dI) classes (wM g c v17671 F17672 rc) H1 := hB
            have hw : r17986.toInt = lkM (v17671 39) (v17671 30) (F17672 24) ∧ ((v17671 39).toInt < (v17671 30).toInt ∨ r17986.toInt = -1) := hw
            rw [show v17671 30 = v 30 from hf17673 30 (by decide)] at hw
            rw [hF 24 (by decide)] at hw
            have hw_r17986 := hw
            generalize H1 = H at hP hS ⊢
            refine lv_bipush (v := 63) hx hb dX12_either_65 (by decide) ?_
            refine lv_icmp_eq (tgt := 71) hx hb dX12_either_67 (by decide) (fun c17987 => ?_) (fun c17987 => ?_)
            · skip
              have t17988 := cv_eq (a := r17986.toInt) rfl (b := 63) (by decide) c17987
              refine lv_aload_n hx hb dX12_either_71 rfl (lv_at hl 1 rfl) ?_
              have t17989 : 0 ≤ (v17671 39).toInt ∧ (v17671 39).toInt ≤ 120 := hI.1 39 _ _ rfl
              have t17990 : 0 ≤ (v17671 41).toInt ∧ (v17671 41).toInt ≤ 8 := hI.1 41 _ _ rfl
              refine va_calli (va_runV (As := []) (rest := []) ⟨hx, hb, hml, hown, hwd⟩ (c_X12_opens l dC dI g c adK adV v17671 F17672 rc H.size  hg hI (by have h9 : v17671 39 = v17671 39 := rfl; (try rw [h9]); clear h9; have h9 : v17671 30 = v 30 := hf17673 30 (by decide); (try rw [h9]); clear h9; omega)) (cwV 0 hwd (gV wk_1025 wk_1022 wk_1023 wk_1024 wk_5) rfl rfl rfl (by decide +kernel) ⟨Nat.le_of_ble_eq_true rfl, Nat.le_of_ble_eq_true rfl⟩) ⟨PM.blind, va_recv hK hP (ci := 12) (q0 := 0) rfl rfl, fun U hU hW => ⟨rfl, PM.at hK hE hP hS hU hW⟩⟩ rfl rfl hl.1 rfl (lv_room (Nat.le_of_ble_eq_true rfl)) dX12_either_72 ⟨Nat.le_of_ble_eq_true rfl, Nat.le_of_ble_eq_true rfl⟩) hS (fun q _ h => (freeM hS) q h) (freeM hS) (fun r17991 u t H1 locs ht hvm hw hB hz1 hk1 hS => ?_)
              unfold BM at hB
              rw [ht] at hB
              obtain ⟨v17992, F17993, rc9⟩ := u
              obtain ⟨hI, hrc, hf17994, hG17995, hw⟩ := hw
              dsimp only at hI hrc hB hf17994 hG17995 hw
              have hF := frCF (by decide) hG17995 hF
              rw [hrc] at hB
              have hP : va_P (dC, dI) classes (wM g c v17992 F17993 rc) H1 := hB
              have hw : (r17991.toInt = 1 ∧ (v17671 41).toInt < 8 ∧ (v17992 41).toInt = (v17671 41).toInt + 1 ∧ (v17992 39).toInt = (v17671 39).toInt + 1 ∧ (v17992 40).toInt = (v17671 40).toInt) ∨ (r17991.toInt = 0 ∧ (v17671 41).toInt = 8 ∧ 0 ≤ (v17992 40).toInt ∧ (v17992 41).toInt = (v17671 41).toInt ∧ (v17992 39).toInt = (v17671 39).toInt) := hw
              have hw_r17991 := hw
              have t17996 : 0 ≤ (v17992 39).toInt ∧ (v17992 39).toInt ≤ 120 := hI.1 39 _ _ rfl
              have t17997 : 0 ≤ (v17992 41).toInt ∧ (v17992 41).toInt ≤ 8 := hI.1 41 _ _ rfl
              generalize H1 = H at hP hS ⊢
              have hk : keepL (v 37) (F 28) (F 29) (F17993 28) (F17993 29) := by rw [hG17995 28 (by decide), hG17995 29 (by decide)]; exact hk
              have hd : (v17992 40).toInt < 0 → dp (F17993 28) (F17993 29) (bI (v 37)) (v17671 38).toInt.toNat = some (d + 1) := fun hf => (by rw [hG17995 28 (by decide), hG17995 29 (by decide)]; exact hd (by omega))
              refine lv_if_ne (tgt := 79) hx hb dX12_either_75 (by decide) (fun c17998 => ?_) (fun c17998 => ?_)
              · skip
                have t17999 := cv_ne (a := r17991.toInt) rfl (b := 0) (by decide) c17998
                refine lv_aload_n hx hb dX12_either_79 rfl (lv_at hl 1 rfl) ?_
                have t18000 : 0 ≤ (v 30).toInt ∧ (v 30).toInt ≤ 120 := by have h9 := hI.1 30 _ _ rfl; rw [show v17992 30 = v 30 from (hf17994 30 (by decide)).trans (hf17673 30 (by decide))] at h9; exact h9
                have t18001 : 0 ≤ (v 37).toInt ∧ (v 37).toInt ≤ 9 := by have h9 := hI.1 37 _ _ rfl; rw [show v17992 37 = v 37 from (hf17994 37 (by decide)).trans (hf17673 37 (by decide))] at h9; exact h9
                have t18002 : 0 ≤ (v17671 38).toInt ∧ (v17671 38).toInt ≤ 120 := by have h9 := hI.1 38 _ _ rfl; rw [show v17992 38 = v17671 38 from hf17994 38 (by decide)] at h9; exact h9
                have t18003 : 0 ≤ (v17992 39).toInt ∧ (v17992 39).toInt ≤ 120 := hI.1 39 _ _ rfl
                have t18004 : 0 ≤ (v17992 41).toInt ∧ (v17992 41).toInt ≤ 8 := hI.1 41 _ _ rfl
                refine va_callv (va_runV (As := []) (rest := []) ⟨hx, hb, hml, hown, hwd⟩ (c_X12_either_5 l dC dI g c adK adV v17992 F17993 rc H.size  (d + 1) hg hI (by have h9 : v17992 38 = v17671 38 := hf17994 38 (by decide); (try rw [h9]); clear h9; have h9 : v17992 39 = v17992 39 := rfl; (try rw [h9]); clear h9; have h9 : v17992 30 = v 30 := (hf17994 30 (by decide)).trans (hf17673 30 (by decide)); (try rw [h9]); clear h9; have h9 : v17992 40 = v17992 40 := rfl; (try rw [h9]); clear h9; have h9 : v17992 41 = v17992 41 := rfl; (try rw [h9]); clear h9; omega) (by have h9 : v17992 37 = (v 37) := (hf17994 37 (by decide)).trans (hf17673 37 (by decide)); have h8 : v17992 38 = (v17671 38) := hf17994 38 (by decide); (try rw [h9]); (try rw [h8]); exact hd (by omega))) (cwV 0 hwd (gV wk_1010 wk_1007 wk_1008 wk_1009 wk_5) rfl rfl rfl (by decide +kernel) ⟨Nat.le_of_ble_eq_true rfl, Nat.le_of_ble_eq_true rfl⟩) ⟨PM.blind, va_recv hK hP (ci := 12) (q0 := 0) rfl rfl, fun U hU hW => ⟨rfl, PM.at hK hE hP hS hU hW⟩⟩ rfl rfl hl.1 rfl (lv_room (Nat.le_of_ble_eq_true rfl)) dX12_either_80 ⟨Nat.le_of_ble_eq_true rfl, Nat.le_of_ble_eq_true rfl⟩) hS (fun q _ h => (freeM hS) q h) (freeM hS) (fun u t H1 locs ht hvm hw hB hz1 hk1 hS => ?_)
                unfold BM at hB
                rw [ht] at hB
                obtain ⟨v18006, F18007, rc9⟩ := u
                obtain ⟨hI, hrc, hf18008, hG18009, hw⟩ := hw
                dsimp only at hI hrc hB hf18008 hG18009 hw
                have hF := frCF (by decide) hG18009 hF
                rw [hrc] at hB
                have hP : va_P (dC, dI) classes (wM g c v18006 F18007 rc) H1 := hB
                have hw : ((v17992 39).toInt ≤ (v18006 39).toInt ∧ (v18006 39).toInt ≤ (v17992 30).toInt ∧ (v17992 38).toInt ≤ (v18006 38).toInt ∧ (v18006 38).toInt - (v17992 38).toInt ≤ (v18006 39).toInt - (v17992 39).toInt ∧ (v17992 41).toInt ≤ (v18006 41).toInt ∧ ((v18006 40).toInt < 0 → (v18006 41).toInt = (v17992 41).toInt)) ∧ keepL (v17992 37) (F17993 28) (F17993 29) (F18007 28) (F18007 29) ∧ ((v18006 40).toInt < 0 → dp (F18007 28) (F18007 29) (bI (v17992 37)) (v18006 38).toInt.toNat = some ((d + 1) + 1)) := hw
                rw [show v17992 30 = v 30 from (hf17994 30 (by decide)).trans (hf17673 30 (by decide))] at hw
                rw [show v17992 38 = v17671 38 from hf17994 38 (by decide)] at hw
                rw [show v17992 37 = v 37 from (hf17994 37 (by decide)).trans (hf17673 37 (by decide))] at hw
                have hw_r18005 := hw
                have t18010 : 0 ≤ (v18006 38).toInt ∧ (v18006 38).toInt ≤ 120 := hI.1 38 _ _ rfl
                have t18011 : 0 ≤ (v18006 39).toInt ∧ (v18006 39).toInt ≤ 120 := hI.1 39 _ _ rfl
                have t18012 : 0 ≤ (v18006 41).toInt ∧ (v18006 41).toInt ≤ 8 := hI.1 41 _ _ rfl
                generalize H1 = H at hP hS ⊢
                have hk := hk.tr hw_r18005.2.1
                have hd := hw_r18005.2.2
                refine lv_aload_n hx hb dX12_either_83 rfl (lv_at hl 1 rfl) ?_
                refine va_get (D := (dC, dI)) (ci := 12) (v := .int (v18006 40)) (C := RX12) (T := TX12) (N := 63) hx hb hwd inA_X12 hown hK hP 0 rfl rfl 40 (by decide) (hwd _ wk_1005) (fun _ h9 => h9) rfl dX12_either_84 ?_
                refine lv_if_lt (tgt := 91) hx hb dX12_either_87 (by decide) (fun c18013 => ?_) (fun c18013 => ?_)
                · skip
                  have t18014 := cv_lt (a := (v18006 40).toInt) rfl (b := 0) (by decide) c18013
                  refine lv_aload_n hx hb dX12_either_91 rfl (lv_at hl 1 rfl) ?_
                  have t18015 : 0 ≤ (v 30).toInt ∧ (v 30).toInt ≤ 120 := by have h9 := hI.1 30 _ _ rfl; rw [show v18006 30 = v 30 from (hf18008 30 (by decide)).trans ((hf17994 30 (by decide)).trans (hf17673 30 (by decide)))] at h9; exact h9
                  have t18016 : 0 ≤ (v18006 39).toInt ∧ (v18006 39).toInt ≤ 120 := hI.1 39 _ _ rfl
                  refine va_calli (va_runV (As := []) (rest := []) ⟨hx, hb, hml, hown, hwd⟩ (c_X12_look l dC dI g c adK adV v18006 F18007 rc H.size  hg hI ) (cwV 0 hwd (gV wk_1017 wk_1014 wk_1015 wk_1016 wk_5) rfl rfl rfl (by decide +kernel) ⟨Nat.le_of_ble_eq_true rfl, Nat.le_of_ble_eq_true rfl⟩) ⟨PM.blind, va_recv hK hP (ci := 12) (q0 := 0) rfl rfl, fun U hU hW => ⟨rfl, PM.at hK hE hP hS hU hW⟩⟩ rfl rfl hl.1 rfl (lv_room (Nat.le_of_ble_eq_true rfl)) dX12_either_92 ⟨Nat.le_of_ble_eq_true rfl, Nat.le_of_ble_eq_true rfl⟩) hS (fun q _ h => (freeM hS) q h) (freeM hS) (fun r18017 u t H1 locs ht hvm hw hB hz1 hk1 hS => ?_)
                  unfold BM at hB
                  rw [ht] at hB
                  have hP : va_P (dC, dI) classes (wM g c v18006 F18007 rc) H1 := hB
                  have hw : r18017.toInt = lkM (v18006 39) (v18006 30) (F18007 24) ∧ ((v18006 39).toInt < (v18006 30).toInt ∨ r18017.toInt = -1) := hw
                  rw [show v18006 30 = v 30 from (hf18008 30 (by decide)).trans ((hf17994 30 (by decide)).trans (hf17673 30 (by decide)))] at hw
                  rw [hF 24 (by decide)] at hw
                  have hw_r18017 := hw
                  generalize H1 = H at hP hS ⊢
                  refine lv_bipush (v := 58) hx hb dX12_either_95 (by decide) ?_
                  refine lv_icmp_eq (tgt := 105) hx hb dX12_either_97 (by decide) (fun c18018 => ?_) (fun c18018 => ?_)
                  · skip
                    have t18019 := cv_eq (a := r18017.toInt) rfl (b := 58) (by decide) c18018
                    refine lv_aload_n hx hb dX12_either_105 rfl (lv_at hl 1 rfl) ?_
                    refine lv_dup hx hb dX12_either_106 rfl ?_
                    refine va_get (D := (dC, dI)) (ci := 12) (v := .int (v18006 39)) (C := RX12) (T := TX12) (N := 63) hx hb hwd inA_X12 hown hK hP 0 rfl rfl 39 (by decide) (hwd _ wk_1004) (fun _ h9 => h9) rfl dX12_either_107 ?_
                    have t18020 : 0 ≤ (v18006 39).toInt ∧ (v18006 39).toInt ≤ 120 := hI.1 39 _ _ rfl
                    refine lv_iconst (v := 1) hx hb dX12_either_110 (by decide) ?_
                    refine lv_iadd hx hb dX12_either_111 ?_
                    refine lv_topi (fun z18021 e18022 => ?_)
                    try (have t18023 := tadd e18022 (a := (v18006 39).toInt) rfl (b := 1) (by decide) (by omega))
                    refine va_put (D := (dC, dI)) (ci := 12) (v := .int z18021) (ty := .int) (C := RX12) (T := TX12) (N := 63) (fs := fsM_0 g v18006 rc) hx hb hwd inA_X12 tyX12 tyX12_ok nmX12 hown hK hP (DM hg) hS 0 rfl rfl 39 (by decide) (hwd _ wk_1004) (fun _ h9 => h9) rfl (by decide +kernel) rfl rfl (Nat.le_of_ble_eq_true rfl) dX12_either_112 (fun H locs hP _ hS => ?_)
                    have hP := va_P_eq (pM_39 g c _ _ _ _) hP
                    have hI := IM.put hI 39 z18021 rfl (by omega)
                    refine lv_aload_n hx hb dX12_either_115 rfl (lv_at hl 1 rfl) ?_
                    have t18024 : 0 ≤ (v 30).toInt ∧ (v 30).toInt ≤ 120 := by have h9 := hI.1 30 _ _ rfl; rw [show (va_up v18006 39 z18021) 30 = v 30 from (hf18008 30 (by decide)).trans ((hf17994 30 (by decide)).trans (hf17673 30 (by decide)))] at h9; exact h9
                    have t18025 : 0 ≤ (v 37).toInt ∧ (v 37).toInt ≤ 9 := by have h9 := hI.1 37 _ _ rfl; rw [show (va_up v18006 39 z18021) 37 = v 37 from (hf18008 37 (by decide)).trans ((hf17994 37 (by decide)).trans (hf17673 37 (by decide)))] at h9; exact h9
                    have t18026 : 0 ≤ (v18006 38).toInt ∧ (v18006 38).toInt ≤ 120 := hI.1 38 _ _ rfl
                    have t18027 : 0 ≤ z18021.toInt ∧ z18021.toInt ≤ 120 := hI.1 39 _ _ rfl
                    have t18028 : 0 ≤ (v18006 41).toInt ∧ (v18006 41).toInt ≤ 8 := hI.1 41 _ _ rfl
                    refine va_callv (va_runV (As := []) (rest := []) ⟨hx, hb, hml, hown, hwd⟩ (c_X12_either_5 l dC dI g c adK adV (va_up v18006 39 z18021) F18007 rc H.size  ((d + 1) + 1) hg hI (by have h9 : (va_up v18006 39 z18021) 38 = v18006 38 := rfl; (try rw [h9]); clear h9; have h9 : (va_up v18006 39 z18021) 39 = z18021 := rfl; (try rw [h9]); clear h9; have h9 : (va_up v18006 39 z18021) 30 = v 30 := (hf18008 30 (by decide)).trans ((hf17994 30 (by decide)).trans (hf17673 30 (by decide))); (try rw [h9]); clear h9; have h9 : (va_up v18006 39 z18021) 40 = v18006 40 := rfl; (try rw [h9]); clear h9; have h9 : (va_up v18006 39 z18021) 41 = v18006 41 := rfl; (try rw [h9]); clear h9; omega) (by have h9 : (va_up v18006 39 z18021) 37 = (v 37) := (hf18008 37 (by decide)).trans ((hf17994 37 (by decide)).trans (hf17673 37 (by decide))); have h8 : (va_up v18006 39 z18021) 38 = (v18006 38) := rfl; (try rw [h9]); (try rw [h8]); exact hd (by omega))) (cwV 0 hwd (gV wk_1010 wk_1007 wk_1008 wk_1009 wk_5) rfl rfl rfl (by decide +kernel) ⟨Nat.le_of_ble_eq_true rfl, Nat.le_of_ble_eq_true rfl⟩) ⟨PM.blind, va_recv hK hP (ci := 12) (q0 := 0) rfl rfl, fun U hU hW => ⟨rfl, PM.at hK hE hP hS hU hW⟩⟩ rfl rfl hl.1 rfl (lv_room (Nat.le_of_ble_eq_true rfl)) dX12_either_116 ⟨Nat.le_of_ble_eq_true rfl, Nat.le_of_ble_eq_true rfl⟩) hS (fun q _ h => (freeM hS) q h) (freeM hS) (fun u t H1 locs ht hvm hw hB hz1 hk1 hS => ?_)
                    unfold BM at hB
                    rw [ht] at hB
                    obtain ⟨v18030, F18031, rc9⟩ := u
                    obtain ⟨hI, hrc, hf18032, hG18033, hw⟩ := hw
                    dsimp only at hI hrc hB hf18032 hG18033 hw
                    have hF := frCF (by decide) hG18033 hF
                    rw [hrc] at hB
                    have hP : va_P (dC, dI) classes (wM g c v18030 F18031 rc) H1 := hB
                    have hw : (z18021.toInt ≤ (v18030 39).toInt ∧ (v18030 39).toInt ≤ ((va_up v18006 39 z18021) 30).toInt ∧ (v18006 38).toInt ≤ (v18030 38).toInt ∧ (v18030 38).toInt - (v18006 38).toInt ≤ (v18030 39).toInt - z18021.toInt ∧ (v18006 41).toInt ≤ (v18030 41).toInt ∧ ((v18030 40).toInt < 0 → (v18030 41).toInt = (v18006 41).toInt)) ∧ keepL ((va_up v18006 39 z18021) 37) (F18007 28) (F18007 29) (F18031 28) (F18031 29) ∧ ((v18030 40).toInt < 0 → dp (F18031 28) (F18031 29) (bI ((va_up v18006 39 z18021) 37)) (v18030 38).toInt.toNat = some (((d + 1) + 1) + 1)) := hw
                    rw [show (va_up v18006 39 z18021) 30 = v 30 from (hf18008 30 (by decide)).trans ((hf17994 30 (by decide)).trans (hf17673 30 (by decide)))] at hw
                    rw [show (va_up v18006 39 z18021) 37 = v 37 from (hf18008 37 (by decide)).trans ((hf17994 37 (by decide)).trans (hf17673 37 (by decide)))] at hw
                    have hw_r18029 := hw
                    have t18034 : 0 ≤ (v18030 38).toInt ∧ (v18030 38).toInt ≤ 120 := hI.1 38 _ _ rfl
                    have t18035 : 0 ≤ (v18030 39).toInt ∧ (v18030 39).toInt ≤ 120 := hI.1 39 _ _ rfl
                    have t18036 : 0 ≤ (v18030 41).toInt ∧ (v18030 41).toInt ≤ 8 := hI.1 41 _ _ rfl
                    generalize H1 = H at hP hS ⊢
                    have hk := hk.tr hw_r18029.2.1
                    have hd := hw_r18029.2.2
                    refine lv_aload_n hx hb dX12_either_119 rfl (lv_at hl 1 rfl) ?_
                    refine lv_iconst (v := 4) hx hb dX12_either_120 (by decide) ?_
                    refine lv_iconst (v := 0) hx hb dX12_either_121 (by decide) ?_
                    have t18037 : 0 ≤ (v 37).toInt ∧ (v 37).toInt ≤ 9 := by have h9 := hI.1 37 _ _ rfl; rw [show v18030 37 = v 37 from (hf18032 37 (by decide)).trans ((hf18008 37 (by decide)).trans ((hf17994 37 (by decide)).trans (hf17673 37 (by decide))))] at h9; exact h9
                    have t18038 : 0 ≤ (v18030 38).toInt ∧ (v18030 38).toInt ≤ 120 := hI.1 38 _ _ rfl
                    refine va_callv (va_runV (As := [.int 4, .int 0]) (rest := []) ⟨hx, hb, hml, hown, hwd⟩ (c_X12_lay l dC dI g c adK adV v18030 F18031 rc H.size 4 0 hg hI (by have h9 : v18030 38 = v18030 38 := rfl; rw [h9]; omega)) (cwV 2 hwd (gV wk_1021 wk_1018 wk_1019 wk_1020 wk_5) rfl rfl rfl (by decide +kernel) ⟨Nat.le_of_ble_eq_true rfl, Nat.le_of_ble_eq_true rfl⟩) ⟨PM.blind, va_recv hK hP (ci := 12) (q0 := 0) rfl rfl, fun U hU hW => ⟨rfl, PM.at hK hE hP hS hU hW⟩⟩ rfl rfl hl.1 rfl (lv_room (Nat.le_of_ble_eq_true rfl)) dX12_either_122 ⟨Nat.le_of_ble_eq_true rfl, Nat.le_of_ble_eq_true rfl⟩) hS (fun q _ h => (freeM hS) q h) (freeM hS) (fun u t H1 locs ht hvm hw hB hz1 hk1 hS => ?_)
                    unfold BM at hB
                    rw [ht] at hB
                    obtain ⟨v18040, F18041, rc9⟩ := u
                    obtain ⟨hI, hrc, hf18042, hG18043, hw⟩ := hw
                    dsimp only at hI hrc hB hf18042 hG18043 hw
                    have hF := frCF (by decide) hG18043 hF
                    rw [hrc] at hB
                    have hP : va_P (dC, dI) classes (wM g c v18040 F18041 rc) H1 := hB
                    have hw : (v18040 38).toInt = (v18030 38).toInt + 1 ∧ keepL (v18030 37) (F18031 28) (F18031 29) (F18041 28) (F18041 29) ∧ dp (F18041 28) (F18041 29) (bI (v18030 37)) ((v18030 38).toInt.toNat + 1) = dpS (dp (F18031 28) (F18031 29) (bI (v18030 37)) (v18030 38).toInt.toNat) (4 : Int32) (0 : Int32) := hw
                    rw [show v18030 37 = v 37 from (hf18032 37 (by decide)).trans ((hf18008 37 (by decide)).trans ((hf17994 37 (by decide)).trans (hf17673 37 (by decide))))] at hw
                    have hw_r18039 := hw
                    have t18044 : 0 ≤ (v18040 38).toInt ∧ (v18040 38).toInt ≤ 120 := hI.1 38 _ _ rfl
                    have k18045 : (4 : Int32).toInt = 4 := by decide
                    have k18046 : (0 : Int32).toInt = 0 := by decide
                    generalize H1 = H at hP hS ⊢
                    have hk := hk.tr hw_r18039.2.1
                    have hd : (v18030 40).toInt < 0 → dp (F18041 28) (F18041 29) (bI (v 37)) (v18040 38).toInt.toNat = some ((((d + 1) + 1) + 1) - 2) := fun hf => (by have e9 : (v18040 38).toInt.toNat = (v18030 38).toInt.toNat + 1 := (by omega); rw [e9, hw_r18039.2.2, hd hf]; exact dpS_4 (by decide) (by omega))
                    refine lv_aload_n hx hb dX12_either_125 rfl (lv_at hl 1 rfl) ?_
                    refine lv_dup hx hb dX12_either_126 rfl ?_
                    refine va_get (D := (dC, dI)) (ci := 12) (v := .int (v18040 41)) (C := RX12) (T := TX12) (N := 63) hx hb hwd inA_X12 hown hK hP 0 rfl rfl 41 (by decide) (hwd _ wk_1006) (fun _ h9 => h9) rfl dX12_either_127 ?_
                    refine my_top (v := v18030 41) (hf18042 41 (by decide)) ?_
                    have t18047 : 0 ≤ (v18030 41).toInt ∧ (v18030 41).toInt ≤ 8 := by have h9 := hI.1 41 _ _ rfl; rw [show v18040 41 = v18030 41 from hf18042 41 (by decide)] at h9; exact h9
                    refine lv_iconst (v := 1) hx hb dX12_either_130 (by decide) ?_
                    refine lv_isub hx hb dX12_either_131 ?_
                    refine lv_topi (fun z18048 e18049 => ?_)
                    try (have t18050 := tsub e18049 (a := (v18030 41).toInt) rfl (b := 1) (by decide) (by omega))
                    refine va_put (D := (dC, dI)) (ci := 12) (v := .int z18048) (ty := .int) (C := RX12) (T := TX12) (N := 63) (fs := fsM_0 g v18040 rc) hx hb hwd inA_X12 tyX12 tyX12_ok nmX12 hown hK hP (DM hg) hS 0 rfl rfl 41 (by decide) (hwd _ wk_1006) (fun _ h9 => h9) rfl (by decide +kernel) rfl rfl (Nat.le_of_ble_eq_true rfl) dX12_either_132 (fun H locs hP _ hS => ?_)
                    have hP := va_P_eq (pM_41 g c _ _ _ _) hP
                    have hI := IM.put hI 41 z18048 rfl (by omega)
                    have hP9 : va_P (dC, dI) classes (wM g c (va_up v18040 41 z18048) F18041 rc) H := hP
                    exact W.vret hx hb hr (fun t ht hW => ⟨⟨((va_up v18040 41 z18048), F18041, rc), rfl, ⟨hI, rfl, (frU (by decide) (frC (by decide) hf18042 (frC (by decide) hf18032 (frU (by decide) (frC (by decide) hf18008 (frC (by decide) hf17994 (frC (by decide) hf17673 (fun _ _ => rfl)))))))), hF, (by show ((v 39).toInt ≤ ((va_up v18040 41 z18048) 39).toInt ∧ ((va_up v18040 41 z18048) 39).toInt ≤ (v 30).toInt ∧ (v 38).toInt ≤ (v18040 38).toInt ∧ (v18040 38).toInt - (v 38).toInt ≤ ((va_up v18040 41 z18048) 39).toInt - (v 39).toInt ∧ (v 41).toInt ≤ z18048.toInt ∧ (((va_up v18040 41 z18048) 40).toInt < 0 → z18048.toInt = (v 41).toInt)) ∧ keepL (v 37) (F 28) (F 29) (F18041 28) (F18041 29) ∧ (((va_up v18040 41 z18048) 40).toInt < 0 → dp (F18041 28) (F18041 29) (bI (v 37)) (v18040 38).toInt.toNat = some (d + 1)); rw [show (va_up v18040 41 z18048) 39 = v18030 39 from hf18042 39 (by decide)]; rw [show (va_up v18040 41 z18048) 40 = v18030 40 from hf18042 40 (by decide)]; exact ⟨by omega, hk, fun hf => (hd (by omega)).trans (congrArg some (by omega))⟩)⟩, (by show va_P _ _ _ t.heap; rw [ht]; exact hP9)⟩, hS.F ht⟩) hS.2.2 dX12_either_135
                  · skip
                    have t18051 := cv_ne (a := r18017.toInt) rfl (b := 58) (by decide) c18018
                    refine lv_aload_n hx hb dX12_either_100 rfl (lv_at hl 1 rfl) ?_
                    refine va_callv (va_runV (As := []) (rest := []) ⟨hx, hb, hml, hown, hwd⟩ (c_X12_wrong l dC dI g c adK adV v18006 F18007 rc H.size  hg hI ) (cwV 0 hwd (gV wk_1029 wk_1026 wk_1027 wk_1028 wk_5) rfl rfl rfl (by decide +kernel) ⟨Nat.le_of_ble_eq_true rfl, Nat.le_of_ble_eq_true rfl⟩) ⟨PM.blind, va_recv hK hP (ci := 12) (q0 := 0) rfl rfl, fun U hU hW => ⟨rfl, PM.at hK hE hP hS hU hW⟩⟩ rfl rfl hl.1 rfl (lv_room (Nat.le_of_ble_eq_true rfl)) dX12_either_101 ⟨Nat.le_of_ble_eq_true rfl, Nat.le_of_ble_eq_true rfl⟩) hS (fun q _ h => (freeM hS) q h) (freeM hS) (fun u t H1 locs ht hvm hw hB hz1 hk1 hS => ?_)
                    unfold BM at hB
                    rw [ht] at hB
                    obtain ⟨v18053, F18054, rc9⟩ := u
                    obtain ⟨hI, hrc, hf18055, hG18056, hw⟩ := hw
                    dsimp only at hI hrc hB hf18055 hG18056 hw
                    have hF := frCF (by decide) hG18056 hF
                    rw [hrc] at hB
                    have hP : va_P (dC, dI) classes (wM g c v18053 F18054 rc) H1 := hB
                    have hw : 0 ≤ (v18053 40).toInt := hw
                    have hw_r18052 := hw
                    generalize H1 = H at hP hS ⊢
                    have hk : keepL (v 37) (F 28) (F 29) (F18054 28) (F18054 29) := by rw [hG18056 28 (by decide), hG18056 29 (by decide)]; exact hk
                    have hd : (v18053 40).toInt < 0 → dp (F18054 28) (F18054 29) (bI (v 37)) (v18006 38).toInt.toNat = some ((d + 1) + 1) := fun hf => (by rw [hG18056 28 (by decide), hG18056 29 (by decide)]; exact hd (by omega))
                    have hP9 : va_P (dC, dI) classes (wM g c v18053 F18054 rc) H := hP
                    exact W.vret hx hb hr (fun t ht hW => ⟨⟨(v18053, F18054, rc), rfl, ⟨hI, rfl, (frC (by decide) hf18055 (frC (by decide) hf18008 (frC (by decide) hf17994 (frC (by decide) hf17673 (fun _ _ => rfl))))), hF, (by show ((v 39).toInt ≤ (v18053 39).toInt ∧ (v18053 39).toInt ≤ (v 30).toInt ∧ (v 38).toInt ≤ (v18053 38).toInt ∧ (v18053 38).toInt - (v 38).toInt ≤ (v18053 39).toInt - (v 39).toInt ∧ (v 41).toInt ≤ (v18053 41).toInt ∧ ((v18053 40).toInt < 0 → (v18053 41).toInt = (v 41).toInt)) ∧ keepL (v 37) (F 28) (F 29) (F18054 28) (F18054 29) ∧ ((v18053 40).toInt < 0 → dp (F18054 28) (F18054 29) (bI (v 37)) (v18053 38).toInt.toNat = some (d + 1)); rw [show v18053 39 = v18006 39 from hf18055 39 (by decide)]; rw [show v18053 38 = v18006 38 from hf18055 38 (by decide)]; rw [show v18053 41 = v18006 41 from hf18055 41 (by decide)]; exact ⟨by omega, hk, fun hf => (hd (by omega)).trans (congrArg some (by omega))⟩)⟩, (by show va_P _ _ _ t.heap; rw [ht]; exact hP9)⟩, hS.F ht⟩) hS.2.2 dX12_either_104
                · skip
                  have t18057 := cv_nlt (a := (v18006 40).toInt) rfl (b := 0) (by decide) c18013
                  have hP9 : va_P (dC, dI) classes (wM g c v18006 F18007 rc) H := hP
                  exact W.vret hx hb hr (fun t ht hW => ⟨⟨(v18006, F18007, rc), rfl, ⟨hI, rfl, (frC (by decide) hf18008 (frC (by decide) hf17994 (frC (by decide) hf17673 (fun _ _ => rfl)))), hF, (by show ((v 39).toInt ≤ (v18006 39).toInt ∧ (v18006 39).toInt ≤ (v 30).toInt ∧ (v 38).toInt ≤ (v18006 38).toInt ∧ (v18006 38).toInt - (v 38).toInt ≤ (v18006 39).toInt - (v 39).toInt ∧ (v 41).toInt ≤ (v18006 41).toInt ∧ ((v18006 40).toInt < 0 → (v18006 41).toInt = (v 41).toInt)) ∧ keepL (v 37) (F 28) (F 29) (F18007 28) (F18007 29) ∧ ((v18006 40).toInt < 0 → dp (F18007 28) (F18007 29) (bI (v 37)) (v18006 38).toInt.toNat = some (d + 1)); exact ⟨by omega, hk, fun hf => (hd (by omega)).trans (congrArg some (by omega))⟩)⟩, (by show va_P _ _ _ t.heap; rw [ht]; exact hP9)⟩, hS.F ht⟩) hS.2.2 dX12_either_90
              · skip
                have t18058 := cv_eq (a := r17991.toInt) rfl (b := 0) (by decide) c17998
                have hP9 : va_P (dC, dI) classes (wM g c v17992 F17993 rc) H := hP
                exact W.vret hx hb hr (fun t ht hW => ⟨⟨(v17992, F17993, rc), rfl, ⟨hI, rfl, (frC (by decide) hf17994 (frC (by decide) hf17673 (fun _ _ => rfl))), hF, (by show ((v 39).toInt ≤ (v17992 39).toInt ∧ (v17992 39).toInt ≤ (v 30).toInt ∧ (v 38).toInt ≤ (v17992 38).toInt ∧ (v17992 38).toInt - (v 38).toInt ≤ (v17992 39).toInt - (v 39).toInt ∧ (v 41).toInt ≤ (v17992 41).toInt ∧ ((v17992 40).toInt < 0 → (v17992 41).toInt = (v 41).toInt)) ∧ keepL (v 37) (F 28) (F 29) (F17993 28) (F17993 29) ∧ ((v17992 40).toInt < 0 → dp (F17993 28) (F17993 29) (bI (v 37)) (v17992 38).toInt.toNat = some (d + 1)); rw [show v17992 38 = v17671 38 from hf17994 38 (by decide)]; exact ⟨by omega, hk, fun hf => (hd (by omega)).trans (congrArg some (by omega))⟩)⟩, (by show va_P _ _ _ t.heap; rw [ht]; exact hP9)⟩, hS.F ht⟩) hS.2.2 dX12_either_78
            · skip
              have t18059 := cv_ne (a := r17986.toInt) rfl (b := 63) (by decide) c17987
              have hP9 : va_P (dC, dI) classes (wM g c v17671 F17672 rc) H := hP
              exact W.vret hx hb hr (fun t ht hW => ⟨⟨(v17671, F17672, rc), rfl, ⟨hI, rfl, (frC (by decide) hf17673 (fun _ _ => rfl)), hF, (by show ((v 39).toInt ≤ (v17671 39).toInt ∧ (v17671 39).toInt ≤ (v 30).toInt ∧ (v 38).toInt ≤ (v17671 38).toInt ∧ (v17671 38).toInt - (v 38).toInt ≤ (v17671 39).toInt - (v 39).toInt ∧ (v 41).toInt ≤ (v17671 41).toInt ∧ ((v17671 40).toInt < 0 → (v17671 41).toInt = (v 41).toInt)) ∧ keepL (v 37) (F 28) (F 29) (F17672 28) (F17672 29) ∧ ((v17671 40).toInt < 0 → dp (F17672 28) (F17672 29) (bI (v 37)) (v17671 38).toInt.toNat = some (d + 1)); exact ⟨by omega, hk, fun hf => (hd (by omega)).trans (congrArg some (by omega))⟩)⟩, (by show va_P _ _ _ t.heap; rw [ht]; exact hP9)⟩, hS.F ht⟩) hS.2.2 dX12_either_70
        · skip
          have t18060 := cv_eq (a := r17680.toInt) rfl (b := 62) (by decide) c17979
          refine lv_aload_n hx hb dX12_either_34 rfl (lv_at hl 1 rfl) ?_
          refine lv_dup hx hb dX12_either_35 rfl ?_
          refine va_get (D := (dC, dI)) (ci := 12) (v := .int (v17671 39)) (C := RX12) (T := TX12) (N := 63) hx hb hwd inA_X12 hown hK hP 0 rfl rfl 39 (by decide) (hwd _ wk_1004) (fun _ h9 => h9) rfl dX12_either_36 ?_
          have t18061 : 0 ≤ (v17671 39).toInt ∧ (v17671 39).toInt ≤ 120 := hI.1 39 _ _ rfl
          refine lv_iconst (v := 1) hx hb dX12_either_39 (by decide) ?_
          refine lv_iadd hx hb dX12_either_40 ?_
          refine lv_topi (fun z18062 e18063 => ?_)
          try (have t18064 := tadd e18063 (a := (v17671 39).toInt) rfl (b := 1) (by decide) (by omega))
          refine va_put (D := (dC, dI)) (ci := 12) (v := .int z18062) (ty := .int) (C := RX12) (T := TX12) (N := 63) (fs := fsM_0 g v17671 rc) hx hb hwd inA_X12 tyX12 tyX12_ok nmX12 hown hK hP (DM hg) hS 0 rfl rfl 39 (by decide) (hwd _ wk_1004) (fun _ h9 => h9) rfl (by decide +kernel) rfl rfl (Nat.le_of_ble_eq_true rfl) dX12_either_41 (fun H locs hP _ hS => ?_)
          have hP := va_P_eq (pM_39 g c _ _ _ _) hP
          have hI := IM.put hI 39 z18062 rfl (by omega)
          refine lv_aload_n hx hb dX12_either_44 rfl (lv_at hl 1 rfl) ?_
          have t18065 : 0 ≤ (v 30).toInt ∧ (v 30).toInt ≤ 120 := by have h9 := hI.1 30 _ _ rfl; rw [show (va_up v17671 39 z18062) 30 = v 30 from hf17673 30 (by decide)] at h9; exact h9
          have t18066 : 0 ≤ (v 37).toInt ∧ (v 37).toInt ≤ 9 := by have h9 := hI.1 37 _ _ rfl; rw [show (va_up v17671 39 z18062) 37 = v 37 from hf17673 37 (by decide)] at h9; exact h9
          have t18067 : 0 ≤ (v17671 38).toInt ∧ (v17671 38).toInt ≤ 120 := hI.1 38 _ _ rfl
          have t18068 : 0 ≤ z18062.toInt ∧ z18062.toInt ≤ 120 := hI.1 39 _ _ rfl
          have t18069 : 0 ≤ (v17671 41).toInt ∧ (v17671 41).toInt ≤ 8 := hI.1 41 _ _ rfl
          refine va_callv (va_runV (As := []) (rest := []) ⟨hx, hb, hml, hown, hwd⟩ (c_X12_sum_4 l dC dI g c adK adV (va_up v17671 39 z18062) F17672 rc H.size  (d + 1) hg hI (by have h9 : (va_up v17671 39 z18062) 38 = v17671 38 := rfl; (try rw [h9]); clear h9; have h9 : (va_up v17671 39 z18062) 39 = z18062 := rfl; (try rw [h9]); clear h9; have h9 : (va_up v17671 39 z18062) 30 = v 30 := hf17673 30 (by decide); (try rw [h9]); clear h9; have h9 : (va_up v17671 39 z18062) 40 = v17671 40 := rfl; (try rw [h9]); clear h9; have h9 : (va_up v17671 39 z18062) 41 = v17671 41 := rfl; (try rw [h9]); clear h9; omega) (by have h9 : (va_up v17671 39 z18062) 37 = (v 37) := hf17673 37 (by decide); have h8 : (va_up v17671 39 z18062) 38 = (v17671 38) := rfl; (try rw [h9]); (try rw [h8]); exact hd (by omega))) (cwV 0 hwd (gV wk_1043 wk_1011 wk_1012 wk_1013 wk_5) rfl rfl rfl (by decide +kernel) ⟨Nat.le_of_ble_eq_true rfl, Nat.le_of_ble_eq_true rfl⟩) ⟨PM.blind, va_recv hK hP (ci := 12) (q0 := 0) rfl rfl, fun U hU hW => ⟨rfl, PM.at hK hE hP hS hU hW⟩⟩ rfl rfl hl.1 rfl (lv_room (Nat.le_of_ble_eq_true rfl)) dX12_either_45 ⟨Nat.le_of_ble_eq_true rfl, Nat.le_of_ble_eq_true rfl⟩) hS (fun q _ h => (freeM hS) q h) (freeM hS) (fun u t H1 locs ht hvm hw hB hz1 hk1 hS => ?_)
          unfold BM at hB
          rw [ht] at hB
          obtain ⟨v18071, F18072, rc9⟩ := u
          obtain ⟨hI, hrc, hf18073, hG18074, hw⟩ := hw
          dsimp only at hI hrc hB hf18073 hG18074 hw
          have hF := frCF (by decide) hG18074 hF
          rw [hrc] at hB
          have hP : va_P (dC, dI) classes (wM g c v18071 F18072 rc) H1 := hB
          have hw : (z18062.toInt ≤ (v18071 39).toInt ∧ (v18071 39).toInt ≤ ((va_up v17671 39 z18062) 30).toInt ∧ (v17671 38).toInt ≤ (v18071 38).toInt ∧ (v18071 38).toInt - (v17671 38).toInt ≤ (v18071 39).toInt - z18062.toInt ∧ (v17671 41).toInt ≤ (v18071 41).toInt ∧ ((v18071 40).toInt < 0 → (v18071 41).toInt = (v17671 41).toInt)) ∧ keepL ((va_up v17671 39 z18062) 37) (F17672 28) (F17672 29) (F18072 28) (F18072 29) ∧ ((v18071 40).toInt < 0 → dp (F18072 28) (F18072 29) (bI ((va_up v17671 39 z18062) 37)) (v18071 38).toInt.toNat = some ((d + 1) + 1)) := hw
          rw [show (va_up v17671 39 z18062) 30 = v 30 from hf17673 30 (by decide)] at hw
          rw [show (va_up v17671 39 z18062) 37 = v 37 from hf17673 37 (by decide)] at hw
          have hw_r18070 := hw
          have t18075 : 0 ≤ (v18071 38).toInt ∧ (v18071 38).toInt ≤ 120 := hI.1 38 _ _ rfl
          have t18076 : 0 ≤ (v18071 39).toInt ∧ (v18071 39).toInt ≤ 120 := hI.1 39 _ _ rfl
          have t18077 : 0 ≤ (v18071 41).toInt ∧ (v18071 41).toInt ≤ 8 := hI.1 41 _ _ rfl
          generalize H1 = H at hP hS ⊢
          have hk := hk.tr hw_r18070.2.1
          have hd := hw_r18070.2.2
          refine lv_aload_n hx hb dX12_either_48 rfl (lv_at hl 1 rfl) ?_
          refine lv_iload_n hx hb dX12_either_49 rfl (lv_at hl 0 rfl) ?_
          refine lv_iconst (v := 0) hx hb dX12_either_50 (by decide) ?_
          have t18078 : 0 ≤ (v 37).toInt ∧ (v 37).toInt ≤ 9 := by have h9 := hI.1 37 _ _ rfl; rw [show v18071 37 = v 37 from (hf18073 37 (by decide)).trans (hf17673 37 (by decide))] at h9; exact h9
          have t18079 : 0 ≤ (v18071 38).toInt ∧ (v18071 38).toInt ≤ 120 := hI.1 38 _ _ rfl
          refine va_callv (va_runV (As := [.int r17680, .int 0]) (rest := []) ⟨hx, hb, hml, hown, hwd⟩ (c_X12_lay l dC dI g c adK adV v18071 F18072 rc H.size r17680 0 hg hI (by have h9 : v18071 38 = v18071 38 := rfl; rw [h9]; omega)) (cwV 2 hwd (gV wk_1021 wk_1018 wk_1019 wk_1020 wk_5) rfl rfl rfl (by decide +kernel) ⟨Nat.le_of_ble_eq_true rfl, Nat.le_of_ble_eq_true rfl⟩) ⟨PM.blind, va_recv hK hP (ci := 12) (q0 := 0) rfl rfl, fun U hU hW => ⟨rfl, PM.at hK hE hP hS hU hW⟩⟩ rfl rfl hl.1 rfl (lv_room (Nat.le_of_ble_eq_true rfl)) dX12_either_51 ⟨Nat.le_of_ble_eq_true rfl, Nat.le_of_ble_eq_true rfl⟩) hS (fun q _ h => (freeM hS) q h) (freeM hS) (fun u t H1 locs ht hvm hw hB hz1 hk1 hS => ?_)
          unfold BM at hB
          rw [ht] at hB
          obtain ⟨v18081, F18082, rc9⟩ := u
          obtain ⟨hI, hrc, hf18083, hG18084, hw⟩ := hw
          dsimp only at hI hrc hB hf18083 hG18084 hw
          have hF := frCF (by decide) hG18084 hF
          rw [hrc] at hB
          have hP : va_P (dC, dI) classes (wM g c v18081 F18082 rc) H1 := hB
          have hw : (v18081 38).toInt = (v18071 38).toInt + 1 ∧ keepL (v18071 37) (F18072 28) (F18072 29) (F18082 28) (F18082 29) ∧ dp (F18082 28) (F18082 29) (bI (v18071 37)) ((v18071 38).toInt.toNat + 1) = dpS (dp (F18072 28) (F18072 29) (bI (v18071 37)) (v18071 38).toInt.toNat) r17680 (0 : Int32) := hw
          rw [show v18071 37 = v 37 from (hf18073 37 (by decide)).trans (hf17673 37 (by decide))] at hw
          have hw_r18080 := hw
          have t18085 : 0 ≤ (v18081 38).toInt ∧ (v18081 38).toInt ≤ 120 := hI.1 38 _ _ rfl
          have k18086 : (0 : Int32).toInt = 0 := by decide
          generalize H1 = H at hP hS ⊢
          have hk := hk.tr hw_r18080.2.1
          have hd : (v18071 40).toInt < 0 → dp (F18082 28) (F18082 29) (bI (v 37)) (v18081 38).toInt.toNat = some (((d + 1) + 1) - 1) := fun hf => (by have e9 : (v18081 38).toInt.toNat = (v18071 38).toInt.toNat + 1 := (by omega); rw [e9, hw_r18080.2.2, hd hf]; exact dpS_5 (by omega) (by omega) (by omega) (by omega) (by omega))
          refine lv_aload_n hx hb dX12_either_54 rfl (lv_at hl 1 rfl) ?_
          refine va_get (D := (dC, dI)) (ci := 12) (v := .int (v18081 40)) (C := RX12) (T := TX12) (N := 63) hx hb hwd inA_X12 hown hK hP 0 rfl rfl 40 (by decide) (hwd _ wk_1005) (fun _ h9 => h9) rfl dX12_either_55 ?_
          refine my_top (v := v18071 40) (hf18083 40 (by decide)) ?_
          refine lv_if_ge (tgt := 70) hx hb dX12_either_58 (by decide) (fun c18087 => ?_) (fun c18087 => ?_)
          · skip
            have t18088 := cv_le (a := 0) (by decide) (b := (v18071 40).toInt) rfl c18087
            have hP9 : va_P (dC, dI) classes (wM g c v18081 F18082 rc) H := hP
            exact W.vret hx hb hr (fun t ht hW => ⟨⟨(v18081, F18082, rc), rfl, ⟨hI, rfl, (frC (by decide) hf18083 (frC (by decide) hf18073 (frU (by decide) (frC (by decide) hf17673 (fun _ _ => rfl))))), hF, (by show ((v 39).toInt ≤ (v18081 39).toInt ∧ (v18081 39).toInt ≤ (v 30).toInt ∧ (v 38).toInt ≤ (v18081 38).toInt ∧ (v18081 38).toInt - (v 38).toInt ≤ (v18081 39).toInt - (v 39).toInt ∧ (v 41).toInt ≤ (v18081 41).toInt ∧ ((v18081 40).toInt < 0 → (v18081 41).toInt = (v 41).toInt)) ∧ keepL (v 37) (F 28) (F 29) (F18082 28) (F18082 29) ∧ ((v18081 40).toInt < 0 → dp (F18082 28) (F18082 29) (bI (v 37)) (v18081 38).toInt.toNat = some (d + 1)); rw [show v18081 39 = v18071 39 from hf18083 39 (by decide)]; rw [show v18081 41 = v18071 41 from hf18083 41 (by decide)]; rw [show v18081 40 = v18071 40 from hf18083 40 (by decide)]; exact ⟨by omega, hk, fun hf => (hd (by omega)).trans (congrArg some (by omega))⟩)⟩, (by show va_P _ _ _ t.heap; rw [ht]; exact hP9)⟩, hS.F ht⟩) hS.2.2 dX12_either_70
          · skip
            have t18089 := cv_nle (a := 0) (by decide) (b := (v18071 40).toInt) rfl c18087
            refine lv_aload_n hx hb dX12_either_61 rfl (lv_at hl 1 rfl) ?_
            have t18090 : 0 ≤ (v 30).toInt ∧ (v 30).toInt ≤ 120 := by have h9 := hI.1 30 _ _ rfl; rw [show v18081 30 = v 30 from (hf18083 30 (by decide)).trans ((hf18073 30 (by decide)).trans (hf17673 30 (by decide)))] at h9; exact h9
            have t18091 : 0 ≤ (v18071 39).toInt ∧ (v18071 39).toInt ≤ 120 := by have h9 := hI.1 39 _ _ rfl; rw [show v18081 39 = v18071 39 from hf18083 39 (by decide)] at h9; exact h9
            refine va_calli (va_runV (As := []) (rest := []) ⟨hx, hb, hml, hown, hwd⟩ (c_X12_look l dC dI g c adK adV v18081 F18082 rc H.size  hg hI ) (cwV 0 hwd (gV wk_1017 wk_1014 wk_1015 wk_1016 wk_5) rfl rfl rfl (by decide +kernel) ⟨Nat.le_of_ble_eq_true rfl, Nat.le_of_ble_eq_true rfl⟩) ⟨PM.blind, va_recv hK hP (ci := 12) (q0 := 0) rfl rfl, fun U hU hW => ⟨rfl, PM.at hK hE hP hS hU hW⟩⟩ rfl rfl hl.1 rfl (lv_room (Nat.le_of_ble_eq_true rfl)) dX12_either_62 ⟨Nat.le_of_ble_eq_true rfl, Nat.le_of_ble_eq_true rfl⟩) hS (fun q _ h => (freeM hS) q h) (freeM hS) (fun r18092 u t H1 locs ht hvm hw hB hz1 hk1 hS => ?_)
            unfold BM at hB
            rw [ht] at hB
            have hP : va_P (dC, dI) classes (wM g c v18081 F18082 rc) H1 := hB
            have hw : r18092.toInt = lkM (v18081 39) (v18081 30) (F18082 24) ∧ ((v18081 39).toInt < (v18081 30).toInt ∨ r18092.toInt = -1) := hw
            rw [show v18081 39 = v18071 39 from hf18083 39 (by decide)] at hw
            rw [show v18081 30 = v 30 from (hf18083 30 (by decide)).trans ((hf18073 30 (by decide)).trans (hf17673 30 (by decide)))] at hw
            rw [hF 24 (by decide)] at hw
            have hw_r18092 := hw
            generalize H1 = H at hP hS ⊢
            refine lv_bipush (v := 63) hx hb dX12_either_65 (by decide) ?_
            refine lv_icmp_eq (tgt := 71) hx hb dX12_either_67 (by decide) (fun c18093 => ?_) (fun c18093 => ?_)
            · skip
              have t18094 := cv_eq (a := r18092.toInt) rfl (b := 63) (by decide) c18093
              refine lv_aload_n hx hb dX12_either_71 rfl (lv_at hl 1 rfl) ?_
              have t18095 : 0 ≤ (v18071 39).toInt ∧ (v18071 39).toInt ≤ 120 := by have h9 := hI.1 39 _ _ rfl; rw [show v18081 39 = v18071 39 from hf18083 39 (by decide)] at h9; exact h9
              have t18096 : 0 ≤ (v18071 41).toInt ∧ (v18071 41).toInt ≤ 8 := by have h9 := hI.1 41 _ _ rfl; rw [show v18081 41 = v18071 41 from hf18083 41 (by decide)] at h9; exact h9
              refine va_calli (va_runV (As := []) (rest := []) ⟨hx, hb, hml, hown, hwd⟩ (c_X12_opens l dC dI g c adK adV v18081 F18082 rc H.size  hg hI (by have h9 : v18081 39 = v18071 39 := hf18083 39 (by decide); (try rw [h9]); clear h9; have h9 : v18081 30 = v 30 := (hf18083 30 (by decide)).trans ((hf18073 30 (by decide)).trans (hf17673 30 (by decide))); (try rw [h9]); clear h9; omega)) (cwV 0 hwd (gV wk_1025 wk_1022 wk_1023 wk_1024 wk_5) rfl rfl rfl (by decide +kernel) ⟨Nat.le_of_ble_eq_true rfl, Nat.le_of_ble_eq_true rfl⟩) ⟨PM.blind, va_recv hK hP (ci := 12) (q0 := 0) rfl rfl, fun U hU hW => ⟨rfl, PM.at hK hE hP hS hU hW⟩⟩ rfl rfl hl.1 rfl (lv_room (Nat.le_of_ble_eq_true rfl)) dX12_either_72 ⟨Nat.le_of_ble_eq_true rfl, Nat.le_of_ble_eq_true rfl⟩) hS (fun q _ h => (freeM hS) q h) (freeM hS) (fun r18097 u t H1 locs ht hvm hw hB hz1 hk1 hS => ?_)
              unfold BM at hB
              rw [ht] at hB
              obtain ⟨v18098, F18099, rc9⟩ := u
              obtain ⟨hI, hrc, hf18100, hG18101, hw⟩ := hw
              dsimp only at hI hrc hB hf18100 hG18101 hw
              have hF := frCF (by decide) hG18101 hF
              rw [hrc] at hB
              have hP : va_P (dC, dI) classes (wM g c v18098 F18099 rc) H1 := hB
              have hw : (r18097.toInt = 1 ∧ (v18081 41).toInt < 8 ∧ (v18098 41).toInt = (v18081 41).toInt + 1 ∧ (v18098 39).toInt = (v18081 39).toInt + 1 ∧ (v18098 40).toInt = (v18081 40).toInt) ∨ (r18097.toInt = 0 ∧ (v18081 41).toInt = 8 ∧ 0 ≤ (v18098 40).toInt ∧ (v18098 41).toInt = (v18081 41).toInt ∧ (v18098 39).toInt = (v18081 39).toInt) := hw
              rw [show v18081 41 = v18071 41 from hf18083 41 (by decide)] at hw
              rw [show v18081 39 = v18071 39 from hf18083 39 (by decide)] at hw
              rw [show v18081 40 = v18071 40 from hf18083 40 (by decide)] at hw
              have hw_r18097 := hw
              have t18102 : 0 ≤ (v18098 39).toInt ∧ (v18098 39).toInt ≤ 120 := hI.1 39 _ _ rfl
              have t18103 : 0 ≤ (v18098 41).toInt ∧ (v18098 41).toInt ≤ 8 := hI.1 41 _ _ rfl
              generalize H1 = H at hP hS ⊢
              have hk : keepL (v 37) (F 28) (F 29) (F18099 28) (F18099 29) := by rw [hG18101 28 (by decide), hG18101 29 (by decide)]; exact hk
              have hd : (v18098 40).toInt < 0 → dp (F18099 28) (F18099 29) (bI (v 37)) (v18081 38).toInt.toNat = some (((d + 1) + 1) - 1) := fun hf => (by rw [hG18101 28 (by decide), hG18101 29 (by decide)]; exact hd (by omega))
              refine lv_if_ne (tgt := 79) hx hb dX12_either_75 (by decide) (fun c18104 => ?_) (fun c18104 => ?_)
              · skip
                have t18105 := cv_ne (a := r18097.toInt) rfl (b := 0) (by decide) c18104
                refine lv_aload_n hx hb dX12_either_79 rfl (lv_at hl 1 rfl) ?_
                have t18106 : 0 ≤ (v 30).toInt ∧ (v 30).toInt ≤ 120 := by have h9 := hI.1 30 _ _ rfl; rw [show v18098 30 = v 30 from (hf18100 30 (by decide)).trans ((hf18083 30 (by decide)).trans ((hf18073 30 (by decide)).trans (hf17673 30 (by decide))))] at h9; exact h9
                have t18107 : 0 ≤ (v 37).toInt ∧ (v 37).toInt ≤ 9 := by have h9 := hI.1 37 _ _ rfl; rw [show v18098 37 = v 37 from (hf18100 37 (by decide)).trans ((hf18083 37 (by decide)).trans ((hf18073 37 (by decide)).trans (hf17673 37 (by decide))))] at h9; exact h9
                have t18108 : 0 ≤ (v18081 38).toInt ∧ (v18081 38).toInt ≤ 120 := by have h9 := hI.1 38 _ _ rfl; rw [show v18098 38 = v18081 38 from hf18100 38 (by decide)] at h9; exact h9
                have t18109 : 0 ≤ (v18098 39).toInt ∧ (v18098 39).toInt ≤ 120 := hI.1 39 _ _ rfl
                have t18110 : 0 ≤ (v18098 41).toInt ∧ (v18098 41).toInt ≤ 8 := hI.1 41 _ _ rfl
                refine va_callv (va_runV (As := []) (rest := []) ⟨hx, hb, hml, hown, hwd⟩ (c_X12_either_5 l dC dI g c adK adV v18098 F18099 rc H.size  (((d + 1) + 1) - 1) hg hI (by have h9 : v18098 38 = v18081 38 := hf18100 38 (by decide); (try rw [h9]); clear h9; have h9 : v18098 39 = v18098 39 := rfl; (try rw [h9]); clear h9; have h9 : v18098 30 = v 30 := (hf18100 30 (by decide)).trans ((hf18083 30 (by decide)).trans ((hf18073 30 (by decide)).trans (hf17673 30 (by decide)))); (try rw [h9]); clear h9; have h9 : v18098 40 = v18098 40 := rfl; (try rw [h9]); clear h9; have h9 : v18098 41 = v18098 41 := rfl; (try rw [h9]); clear h9; omega) (by have h9 : v18098 37 = (v 37) := (hf18100 37 (by decide)).trans ((hf18083 37 (by decide)).trans ((hf18073 37 (by decide)).trans (hf17673 37 (by decide)))); have h8 : v18098 38 = (v18081 38) := hf18100 38 (by decide); (try rw [h9]); (try rw [h8]); exact hd (by omega))) (cwV 0 hwd (gV wk_1010 wk_1007 wk_1008 wk_1009 wk_5) rfl rfl rfl (by decide +kernel) ⟨Nat.le_of_ble_eq_true rfl, Nat.le_of_ble_eq_true rfl⟩) ⟨PM.blind, va_recv hK hP (ci := 12) (q0 := 0) rfl rfl, fun U hU hW => ⟨rfl, PM.at hK hE hP hS hU hW⟩⟩ rfl rfl hl.1 rfl (lv_room (Nat.le_of_ble_eq_true rfl)) dX12_either_80 ⟨Nat.le_of_ble_eq_true rfl, Nat.le_of_ble_eq_true rfl⟩) hS (fun q _ h => (freeM hS) q h) (freeM hS) (fun u t H1 locs ht hvm hw hB hz1 hk1 hS => ?_)
                unfold BM at hB
                rw [ht] at hB
                obtain ⟨v18112, F18113, rc9⟩ := u
                obtain ⟨hI, hrc, hf18114, hG18115, hw⟩ := hw
                dsimp only at hI hrc hB hf18114 hG18115 hw
                have hF := frCF (by decide) hG18115 hF
                rw [hrc] at hB
                have hP : va_P (dC, dI) classes (wM g c v18112 F18113 rc) H1 := hB
                have hw : ((v18098 39).toInt ≤ (v18112 39).toInt ∧ (v18112 39).toInt ≤ (v18098 30).toInt ∧ (v18098 38).toInt ≤ (v18112 38).toInt ∧ (v18112 38).toInt - (v18098 38).toInt ≤ (v18112 39).toInt - (v18098 39).toInt ∧ (v18098 41).toInt ≤ (v18112 41).toInt ∧ ((v18112 40).toInt < 0 → (v18112 41).toInt = (v18098 41).toInt)) ∧ keepL (v18098 37) (F18099 28) (F18099 29) (F18113 28) (F18113 29) ∧ ((v18112 40).toInt < 0 → dp (F18113 28) (F18113 29) (bI (v18098 37)) (v18112 38).toInt.toNat = some ((((d + 1) + 1) - 1) + 1)) := hw
                rw [show v18098 30 = v 30 from (hf18100 30 (by decide)).trans ((hf18083 30 (by decide)).trans ((hf18073 30 (by decide)).trans (hf17673 30 (by decide))))] at hw
                rw [show v18098 38 = v18081 38 from hf18100 38 (by decide)] at hw
                rw [show v18098 37 = v 37 from (hf18100 37 (by decide)).trans ((hf18083 37 (by decide)).trans ((hf18073 37 (by decide)).trans (hf17673 37 (by decide))))] at hw
                have hw_r18111 := hw
                have t18116 : 0 ≤ (v18112 38).toInt ∧ (v18112 38).toInt ≤ 120 := hI.1 38 _ _ rfl
                have t18117 : 0 ≤ (v18112 39).toInt ∧ (v18112 39).toInt ≤ 120 := hI.1 39 _ _ rfl
                have t18118 : 0 ≤ (v18112 41).toInt ∧ (v18112 41).toInt ≤ 8 := hI.1 41 _ _ rfl
                generalize H1 = H at hP hS ⊢
                have hk := hk.tr hw_r18111.2.1
                have hd := hw_r18111.2.2
                refine lv_aload_n hx hb dX12_either_83 rfl (lv_at hl 1 rfl) ?_
                refine va_get (D := (dC, dI)) (ci := 12) (v := .int (v18112 40)) (C := RX12) (T := TX12) (N := 63) hx hb hwd inA_X12 hown hK hP 0 rfl rfl 40 (by decide) (hwd _ wk_1005) (fun _ h9 => h9) rfl dX12_either_84 ?_
                refine lv_if_lt (tgt := 91) hx hb dX12_either_87 (by decide) (fun c18119 => ?_) (fun c18119 => ?_)
                · skip
                  have t18120 := cv_lt (a := (v18112 40).toInt) rfl (b := 0) (by decide) c18119
                  refine lv_aload_n hx hb dX12_either_91 rfl (lv_at hl 1 rfl) ?_
                  have t18121 : 0 ≤ (v 30).toInt ∧ (v 30).toInt ≤ 120 := by have h9 := hI.1 30 _ _ rfl; rw [show v18112 30 = v 30 from (hf18114 30 (by decide)).trans ((hf18100 30 (by decide)).trans ((hf18083 30 (by decide)).trans ((hf18073 30 (by decide)).trans (hf17673 30 (by decide)))))] at h9; exact h9
                  have t18122 : 0 ≤ (v18112 39).toInt ∧ (v18112 39).toInt ≤ 120 := hI.1 39 _ _ rfl
                  refine va_calli (va_runV (As := []) (rest := []) ⟨hx, hb, hml, hown, hwd⟩ (c_X12_look l dC dI g c adK adV v18112 F18113 rc H.size  hg hI ) (cwV 0 hwd (gV wk_1017 wk_1014 wk_1015 wk_1016 wk_5) rfl rfl rfl (by decide +kernel) ⟨Nat.le_of_ble_eq_true rfl, Nat.le_of_ble_eq_true rfl⟩) ⟨PM.blind, va_recv hK hP (ci := 12) (q0 := 0) rfl rfl, fun U hU hW => ⟨rfl, PM.at hK hE hP hS hU hW⟩⟩ rfl rfl hl.1 rfl (lv_room (Nat.le_of_ble_eq_true rfl)) dX12_either_92 ⟨Nat.le_of_ble_eq_true rfl, Nat.le_of_ble_eq_true rfl⟩) hS (fun q _ h => (freeM hS) q h) (freeM hS) (fun r18123 u t H1 locs ht hvm hw hB hz1 hk1 hS => ?_)
                  unfold BM at hB
                  rw [ht] at hB
                  have hP : va_P (dC, dI) classes (wM g c v18112 F18113 rc) H1 := hB
                  have hw : r18123.toInt = lkM (v18112 39) (v18112 30) (F18113 24) ∧ ((v18112 39).toInt < (v18112 30).toInt ∨ r18123.toInt = -1) := hw
                  rw [show v18112 30 = v 30 from (hf18114 30 (by decide)).trans ((hf18100 30 (by decide)).trans ((hf18083 30 (by decide)).trans ((hf18073 30 (by decide)).trans (hf17673 30 (by decide)))))] at hw
                  rw [hF 24 (by decide)] at hw
                  have hw_r18123 := hw
                  generalize H1 = H at hP hS ⊢
                  refine lv_bipush (v := 58) hx hb dX12_either_95 (by decide) ?_
                  refine lv_icmp_eq (tgt := 105) hx hb dX12_either_97 (by decide) (fun c18124 => ?_) (fun c18124 => ?_)
                  · skip
                    have t18125 := cv_eq (a := r18123.toInt) rfl (b := 58) (by decide) c18124
                    refine lv_aload_n hx hb dX12_either_105 rfl (lv_at hl 1 rfl) ?_
                    refine lv_dup hx hb dX12_either_106 rfl ?_
                    refine va_get (D := (dC, dI)) (ci := 12) (v := .int (v18112 39)) (C := RX12) (T := TX12) (N := 63) hx hb hwd inA_X12 hown hK hP 0 rfl rfl 39 (by decide) (hwd _ wk_1004) (fun _ h9 => h9) rfl dX12_either_107 ?_
                    have t18126 : 0 ≤ (v18112 39).toInt ∧ (v18112 39).toInt ≤ 120 := hI.1 39 _ _ rfl
                    refine lv_iconst (v := 1) hx hb dX12_either_110 (by decide) ?_
                    refine lv_iadd hx hb dX12_either_111 ?_
                    refine lv_topi (fun z18127 e18128 => ?_)
                    try (have t18129 := tadd e18128 (a := (v18112 39).toInt) rfl (b := 1) (by decide) (by omega))
                    refine va_put (D := (dC, dI)) (ci := 12) (v := .int z18127) (ty := .int) (C := RX12) (T := TX12) (N := 63) (fs := fsM_0 g v18112 rc) hx hb hwd inA_X12 tyX12 tyX12_ok nmX12 hown hK hP (DM hg) hS 0 rfl rfl 39 (by decide) (hwd _ wk_1004) (fun _ h9 => h9) rfl (by decide +kernel) rfl rfl (Nat.le_of_ble_eq_true rfl) dX12_either_112 (fun H locs hP _ hS => ?_)
                    have hP := va_P_eq (pM_39 g c _ _ _ _) hP
                    have hI := IM.put hI 39 z18127 rfl (by omega)
                    refine lv_aload_n hx hb dX12_either_115 rfl (lv_at hl 1 rfl) ?_
                    have t18130 : 0 ≤ (v 30).toInt ∧ (v 30).toInt ≤ 120 := by have h9 := hI.1 30 _ _ rfl; rw [show (va_up v18112 39 z18127) 30 = v 30 from (hf18114 30 (by decide)).trans ((hf18100 30 (by decide)).trans ((hf18083 30 (by decide)).trans ((hf18073 30 (by decide)).trans (hf17673 30 (by decide)))))] at h9; exact h9
                    have t18131 : 0 ≤ (v 37).toInt ∧ (v 37).toInt ≤ 9 := by have h9 := hI.1 37 _ _ rfl; rw [show (va_up v18112 39 z18127) 37 = v 37 from (hf18114 37 (by decide)).trans ((hf18100 37 (by decide)).trans ((hf18083 37 (by decide)).trans ((hf18073 37 (by decide)).trans (hf17673 37 (by decide)))))] at h9; exact h9
                    have t18132 : 0 ≤ (v18112 38).toInt ∧ (v18112 38).toInt ≤ 120 := hI.1 38 _ _ rfl
                    have t18133 : 0 ≤ z18127.toInt ∧ z18127.toInt ≤ 120 := hI.1 39 _ _ rfl
                    have t18134 : 0 ≤ (v18112 41).toInt ∧ (v18112 41).toInt ≤ 8 := hI.1 41 _ _ rfl
                    refine va_callv (va_runV (As := []) (rest := []) ⟨hx, hb, hml, hown, hwd⟩ (c_X12_either_5 l dC dI g c adK adV (va_up v18112 39 z18127) F18113 rc H.size  ((((d + 1) + 1) - 1) + 1) hg hI (by have h9 : (va_up v18112 39 z18127) 38 = v18112 38 := rfl; (try rw [h9]); clear h9; have h9 : (va_up v18112 39 z18127) 39 = z18127 := rfl; (try rw [h9]); clear h9; have h9 : (va_up v18112 39 z18127) 30 = v 30 := (hf18114 30 (by decide)).trans ((hf18100 30 (by decide)).trans ((hf18083 30 (by decide)).trans ((hf18073 30 (by decide)).trans (hf17673 30 (by decide))))); (try rw [h9]); clear h9; have h9 : (va_up v18112 39 z18127) 40 = v18112 40 := rfl; (try rw [h9]); clear h9; have h9 : (va_up v18112 39 z18127) 41 = v18112 41 := rfl; (try rw [h9]); clear h9; omega) (by have h9 : (va_up v18112 39 z18127) 37 = (v 37) := (hf18114 37 (by decide)).trans ((hf18100 37 (by decide)).trans ((hf18083 37 (by decide)).trans ((hf18073 37 (by decide)).trans (hf17673 37 (by decide))))); have h8 : (va_up v18112 39 z18127) 38 = (v18112 38) := rfl; (try rw [h9]); (try rw [h8]); exact hd (by omega))) (cwV 0 hwd (gV wk_1010 wk_1007 wk_1008 wk_1009 wk_5) rfl rfl rfl (by decide +kernel) ⟨Nat.le_of_ble_eq_true rfl, Nat.le_of_ble_eq_true rfl⟩) ⟨PM.blind, va_recv hK hP (ci := 12) (q0 := 0) rfl rfl, fun U hU hW => ⟨rfl, PM.at hK hE hP hS hU hW⟩⟩ rfl rfl hl.1 rfl (lv_room (Nat.le_of_ble_eq_true rfl)) dX12_either_116 ⟨Nat.le_of_ble_eq_true rfl, Nat.le_of_ble_eq_true rfl⟩) hS (fun q _ h => (freeM hS) q h) (freeM hS) (fun u t H1 locs ht hvm hw hB hz1 hk1 hS => ?_)
                    unfold BM at hB
                    rw [ht] at hB
                    obtain ⟨v18136, F18137, rc9⟩ := u
                    obtain ⟨hI, hrc, hf18138, hG18139, hw⟩ := hw
                    dsimp only at hI hrc hB hf18138 hG18139 hw
                    have hF := frCF (by decide) hG18139 hF
                    rw [hrc] at hB
                    have hP : va_P (dC, dI) classes (wM g c v18136 F18137 rc) H1 := hB
                    have hw : (z18127.toInt ≤ (v18136 39).toInt ∧ (v18136 39).toInt ≤ ((va_up v18112 39 z18127) 30).toInt ∧ (v18112 38).toInt ≤ (v18136 38).toInt ∧ (v18136 38).toInt - (v18112 38).toInt ≤ (v18136 39).toInt - z18127.toInt ∧ (v18112 41).toInt ≤ (v18136 41).toInt ∧ ((v18136 40).toInt < 0 → (v18136 41).toInt = (v18112 41).toInt)) ∧ keepL ((va_up v18112 39 z18127) 37) (F18113 28) (F18113 29) (F18137 28) (F18137 29) ∧ ((v18136 40).toInt < 0 → dp (F18137 28) (F18137 29) (bI ((va_up v18112 39 z18127) 37)) (v18136 38).toInt.toNat = some (((((d + 1) + 1) - 1) + 1) + 1)) := hw
                    rw [show (va_up v18112 39 z18127) 30 = v 30 from (hf18114 30 (by decide)).trans ((hf18100 30 (by decide)).trans ((hf18083 30 (by decide)).trans ((hf18073 30 (by decide)).trans (hf17673 30 (by decide)))))] at hw
                    rw [show (va_up v18112 39 z18127) 37 = v 37 from (hf18114 37 (by decide)).trans ((hf18100 37 (by decide)).trans ((hf18083 37 (by decide)).trans ((hf18073 37 (by decide)).trans (hf17673 37 (by decide)))))] at hw
                    have hw_r18135 := hw
                    have t18140 : 0 ≤ (v18136 38).toInt ∧ (v18136 38).toInt ≤ 120 := hI.1 38 _ _ rfl
                    have t18141 : 0 ≤ (v18136 39).toInt ∧ (v18136 39).toInt ≤ 120 := hI.1 39 _ _ rfl
                    have t18142 : 0 ≤ (v18136 41).toInt ∧ (v18136 41).toInt ≤ 8 := hI.1 41 _ _ rfl
                    generalize H1 = H at hP hS ⊢
                    have hk := hk.tr hw_r18135.2.1
                    have hd := hw_r18135.2.2
                    refine lv_aload_n hx hb dX12_either_119 rfl (lv_at hl 1 rfl) ?_
                    refine lv_iconst (v := 4) hx hb dX12_either_120 (by decide) ?_
                    refine lv_iconst (v := 0) hx hb dX12_either_121 (by decide) ?_
                    have t18143 : 0 ≤ (v 37).toInt ∧ (v 37).toInt ≤ 9 := by have h9 := hI.1 37 _ _ rfl; rw [show v18136 37 = v 37 from (hf18138 37 (by decide)).trans ((hf18114 37 (by decide)).trans ((hf18100 37 (by decide)).trans ((hf18083 37 (by decide)).trans ((hf18073 37 (by decide)).trans (hf17673 37 (by decide))))))] at h9; exact h9
                    have t18144 : 0 ≤ (v18136 38).toInt ∧ (v18136 38).toInt ≤ 120 := hI.1 38 _ _ rfl
                    refine va_callv (va_runV (As := [.int 4, .int 0]) (rest := []) ⟨hx, hb, hml, hown, hwd⟩ (c_X12_lay l dC dI g c adK adV v18136 F18137 rc H.size 4 0 hg hI (by have h9 : v18136 38 = v18136 38 := rfl; rw [h9]; omega)) (cwV 2 hwd (gV wk_1021 wk_1018 wk_1019 wk_1020 wk_5) rfl rfl rfl (by decide +kernel) ⟨Nat.le_of_ble_eq_true rfl, Nat.le_of_ble_eq_true rfl⟩) ⟨PM.blind, va_recv hK hP (ci := 12) (q0 := 0) rfl rfl, fun U hU hW => ⟨rfl, PM.at hK hE hP hS hU hW⟩⟩ rfl rfl hl.1 rfl (lv_room (Nat.le_of_ble_eq_true rfl)) dX12_either_122 ⟨Nat.le_of_ble_eq_true rfl, Nat.le_of_ble_eq_true rfl⟩) hS (fun q _ h => (freeM hS) q h) (freeM hS) (fun u t H1 locs ht hvm hw hB hz1 hk1 hS => ?_)
                    unfold BM at hB
                    rw [ht] at hB
                    obtain ⟨v18146, F18147, rc9⟩ := u
                    obtain ⟨hI, hrc, hf18148, hG18149, hw⟩ := hw
                    dsimp only at hI hrc hB hf18148 hG18149 hw
                    have hF := frCF (by decide) hG18149 hF
                    rw [hrc] at hB
                    have hP : va_P (dC, dI) classes (wM g c v18146 F18147 rc) H1 := hB
                    have hw : (v18146 38).toInt = (v18136 38).toInt + 1 ∧ keepL (v18136 37) (F18137 28) (F18137 29) (F18147 28) (F18147 29) ∧ dp (F18147 28) (F18147 29) (bI (v18136 37)) ((v18136 38).toInt.toNat + 1) = dpS (dp (F18137 28) (F18137 29) (bI (v18136 37)) (v18136 38).toInt.toNat) (4 : Int32) (0 : Int32) := hw
                    rw [show v18136 37 = v 37 from (hf18138 37 (by decide)).trans ((hf18114 37 (by decide)).trans ((hf18100 37 (by decide)).trans ((hf18083 37 (by decide)).trans ((hf18073 37 (by decide)).trans (hf17673 37 (by decide))))))] at hw
                    have hw_r18145 := hw
                    have t18150 : 0 ≤ (v18146 38).toInt ∧ (v18146 38).toInt ≤ 120 := hI.1 38 _ _ rfl
                    have k18151 : (4 : Int32).toInt = 4 := by decide
                    have k18152 : (0 : Int32).toInt = 0 := by decide
                    generalize H1 = H at hP hS ⊢
                    have hk := hk.tr hw_r18145.2.1
                    have hd : (v18136 40).toInt < 0 → dp (F18147 28) (F18147 29) (bI (v 37)) (v18146 38).toInt.toNat = some ((((((d + 1) + 1) - 1) + 1) + 1) - 2) := fun hf => (by have e9 : (v18146 38).toInt.toNat = (v18136 38).toInt.toNat + 1 := (by omega); rw [e9, hw_r18145.2.2, hd hf]; exact dpS_4 (by decide) (by omega))
                    refine lv_aload_n hx hb dX12_either_125 rfl (lv_at hl 1 rfl) ?_
                    refine lv_dup hx hb dX12_either_126 rfl ?_
                    refine va_get (D := (dC, dI)) (ci := 12) (v := .int (v18146 41)) (C := RX12) (T := TX12) (N := 63) hx hb hwd inA_X12 hown hK hP 0 rfl rfl 41 (by decide) (hwd _ wk_1006) (fun _ h9 => h9) rfl dX12_either_127 ?_
                    refine my_top (v := v18136 41) (hf18148 41 (by decide)) ?_
                    have t18153 : 0 ≤ (v18136 41).toInt ∧ (v18136 41).toInt ≤ 8 := by have h9 := hI.1 41 _ _ rfl; rw [show v18146 41 = v18136 41 from hf18148 41 (by decide)] at h9; exact h9
                    refine lv_iconst (v := 1) hx hb dX12_either_130 (by decide) ?_
                    refine lv_isub hx hb dX12_either_131 ?_
                    refine lv_topi (fun z18154 e18155 => ?_)
                    try (have t18156 := tsub e18155 (a := (v18136 41).toInt) rfl (b := 1) (by decide) (by omega))
                    refine va_put (D := (dC, dI)) (ci := 12) (v := .int z18154) (ty := .int) (C := RX12) (T := TX12) (N := 63) (fs := fsM_0 g v18146 rc) hx hb hwd inA_X12 tyX12 tyX12_ok nmX12 hown hK hP (DM hg) hS 0 rfl rfl 41 (by decide) (hwd _ wk_1006) (fun _ h9 => h9) rfl (by decide +kernel) rfl rfl (Nat.le_of_ble_eq_true rfl) dX12_either_132 (fun H locs hP _ hS => ?_)
                    have hP := va_P_eq (pM_41 g c _ _ _ _) hP
                    have hI := IM.put hI 41 z18154 rfl (by omega)
                    have hP9 : va_P (dC, dI) classes (wM g c (va_up v18146 41 z18154) F18147 rc) H := hP
                    exact W.vret hx hb hr (fun t ht hW => ⟨⟨((va_up v18146 41 z18154), F18147, rc), rfl, ⟨hI, rfl, (frU (by decide) (frC (by decide) hf18148 (frC (by decide) hf18138 (frU (by decide) (frC (by decide) hf18114 (frC (by decide) hf18100 (frC (by decide) hf18083 (frC (by decide) hf18073 (frU (by decide) (frC (by decide) hf17673 (fun _ _ => rfl))))))))))), hF, (by show ((v 39).toInt ≤ ((va_up v18146 41 z18154) 39).toInt ∧ ((va_up v18146 41 z18154) 39).toInt ≤ (v 30).toInt ∧ (v 38).toInt ≤ (v18146 38).toInt ∧ (v18146 38).toInt - (v 38).toInt ≤ ((va_up v18146 41 z18154) 39).toInt - (v 39).toInt ∧ (v 41).toInt ≤ z18154.toInt ∧ (((va_up v18146 41 z18154) 40).toInt < 0 → z18154.toInt = (v 41).toInt)) ∧ keepL (v 37) (F 28) (F 29) (F18147 28) (F18147 29) ∧ (((va_up v18146 41 z18154) 40).toInt < 0 → dp (F18147 28) (F18147 29) (bI (v 37)) (v18146 38).toInt.toNat = some (d + 1)); rw [show (va_up v18146 41 z18154) 39 = v18136 39 from hf18148 39 (by decide)]; rw [show (va_up v18146 41 z18154) 40 = v18136 40 from hf18148 40 (by decide)]; exact ⟨by omega, hk, fun hf => (hd (by omega)).trans (congrArg some (by omega))⟩)⟩, (by show va_P _ _ _ t.heap; rw [ht]; exact hP9)⟩, hS.F ht⟩) hS.2.2 dX12_either_135
                  · skip
                    have t18157 := cv_ne (a := r18123.toInt) rfl (b := 58) (by decide) c18124
                    refine lv_aload_n hx hb dX12_either_100 rfl (lv_at hl 1 rfl) ?_
                    refine va_callv (va_runV (As := []) (rest := []) ⟨hx, hb, hml, hown, hwd⟩ (c_X12_wrong l dC dI g c adK adV v18112 F18113 rc H.size  hg hI ) (cwV 0 hwd (gV wk_1029 wk_1026 wk_1027 wk_1028 wk_5) rfl rfl rfl (by decide +kernel) ⟨Nat.le_of_ble_eq_true rfl, Nat.le_of_ble_eq_true rfl⟩) ⟨PM.blind, va_recv hK hP (ci := 12) (q0 := 0) rfl rfl, fun U hU hW => ⟨rfl, PM.at hK hE hP hS hU hW⟩⟩ rfl rfl hl.1 rfl (lv_room (Nat.le_of_ble_eq_true rfl)) dX12_either_101 ⟨Nat.le_of_ble_eq_true rfl, Nat.le_of_ble_eq_true rfl⟩) hS (fun q _ h => (freeM hS) q h) (freeM hS) (fun u t H1 locs ht hvm hw hB hz1 hk1 hS => ?_)
                    unfold BM at hB
                    rw [ht] at hB
                    obtain ⟨v18159, F18160, rc9⟩ := u
                    obtain ⟨hI, hrc, hf18161, hG18162, hw⟩ := hw
                    dsimp only at hI hrc hB hf18161 hG18162 hw
                    have hF := frCF (by decide) hG18162 hF
                    rw [hrc] at hB
                    have hP : va_P (dC, dI) classes (wM g c v18159 F18160 rc) H1 := hB
                    have hw : 0 ≤ (v18159 40).toInt := hw
                    have hw_r18158 := hw
                    generalize H1 = H at hP hS ⊢
                    have hk : keepL (v 37) (F 28) (F 29) (F18160 28) (F18160 29) := by rw [hG18162 28 (by decide), hG18162 29 (by decide)]; exact hk
                    have hd : (v18159 40).toInt < 0 → dp (F18160 28) (F18160 29) (bI (v 37)) (v18112 38).toInt.toNat = some ((((d + 1) + 1) - 1) + 1) := fun hf => (by rw [hG18162 28 (by decide), hG18162 29 (by decide)]; exact hd (by omega))
                    have hP9 : va_P (dC, dI) classes (wM g c v18159 F18160 rc) H := hP
                    exact W.vret hx hb hr (fun t ht hW => ⟨⟨(v18159, F18160, rc), rfl, ⟨hI, rfl, (frC (by decide) hf18161 (frC (by decide) hf18114 (frC (by decide) hf18100 (frC (by decide) hf18083 (frC (by decide) hf18073 (frU (by decide) (frC (by decide) hf17673 (fun _ _ => rfl)))))))), hF, (by show ((v 39).toInt ≤ (v18159 39).toInt ∧ (v18159 39).toInt ≤ (v 30).toInt ∧ (v 38).toInt ≤ (v18159 38).toInt ∧ (v18159 38).toInt - (v 38).toInt ≤ (v18159 39).toInt - (v 39).toInt ∧ (v 41).toInt ≤ (v18159 41).toInt ∧ ((v18159 40).toInt < 0 → (v18159 41).toInt = (v 41).toInt)) ∧ keepL (v 37) (F 28) (F 29) (F18160 28) (F18160 29) ∧ ((v18159 40).toInt < 0 → dp (F18160 28) (F18160 29) (bI (v 37)) (v18159 38).toInt.toNat = some (d + 1)); rw [show v18159 39 = v18112 39 from hf18161 39 (by decide)]; rw [show v18159 38 = v18112 38 from hf18161 38 (by decide)]; rw [show v18159 41 = v18112 41 from hf18161 41 (by decide)]; exact ⟨by omega, hk, fun hf => (hd (by omega)).trans (congrArg some (by omega))⟩)⟩, (by show va_P _ _ _ t.heap; rw [ht]; exact hP9)⟩, hS.F ht⟩) hS.2.2 dX12_either_104
                · skip
                  have t18163 := cv_nlt (a := (v18112 40).toInt) rfl (b := 0) (by decide) c18119
                  have hP9 : va_P (dC, dI) classes (wM g c v18112 F18113 rc) H := hP
                  exact W.vret hx hb hr (fun t ht hW => ⟨⟨(v18112, F18113, rc), rfl, ⟨hI, rfl, (frC (by decide) hf18114 (frC (by decide) hf18100 (frC (by decide) hf18083 (frC (by decide) hf18073 (frU (by decide) (frC (by decide) hf17673 (fun _ _ => rfl))))))), hF, (by show ((v 39).toInt ≤ (v18112 39).toInt ∧ (v18112 39).toInt ≤ (v 30).toInt ∧ (v 38).toInt ≤ (v18112 38).toInt ∧ (v18112 38).toInt - (v 38).toInt ≤ (v18112 39).toInt - (v 39).toInt ∧ (v 41).toInt ≤ (v18112 41).toInt ∧ ((v18112 40).toInt < 0 → (v18112 41).toInt = (v 41).toInt)) ∧ keepL (v 37) (F 28) (F 29) (F18113 28) (F18113 29) ∧ ((v18112 40).toInt < 0 → dp (F18113 28) (F18113 29) (bI (v 37)) (v18112 38).toInt.toNat = some (d + 1)); exact ⟨by omega, hk, fun hf => (hd (by omega)).trans (congrArg some (by omega))⟩)⟩, (by show va_P _ _ _ t.heap; rw [ht]; exact hP9)⟩, hS.F ht⟩) hS.2.2 dX12_either_90
              · skip
                have t18164 := cv_eq (a := r18097.toInt) rfl (b := 0) (by decide) c18104
                have hP9 : va_P (dC, dI) classes (wM g c v18098 F18099 rc) H := hP
                exact W.vret hx hb hr (fun t ht hW => ⟨⟨(v18098, F18099, rc), rfl, ⟨hI, rfl, (frC (by decide) hf18100 (frC (by decide) hf18083 (frC (by decide) hf18073 (frU (by decide) (frC (by decide) hf17673 (fun _ _ => rfl)))))), hF, (by show ((v 39).toInt ≤ (v18098 39).toInt ∧ (v18098 39).toInt ≤ (v 30).toInt ∧ (v 38).toInt ≤ (v18098 38).toInt ∧ (v18098 38).toInt - (v 38).toInt ≤ (v18098 39).toInt - (v 39).toInt ∧ (v 41).toInt ≤ (v18098 41).toInt ∧ ((v18098 40).toInt < 0 → (v18098 41).toInt = (v 41).toInt)) ∧ keepL (v 37) (F 28) (F 29) (F18099 28) (F18099 29) ∧ ((v18098 40).toInt < 0 → dp (F18099 28) (F18099 29) (bI (v 37)) (v18098 38).toInt.toNat = some (d + 1)); rw [show v18098 38 = v18081 38 from hf18100 38 (by decide)]; exact ⟨by omega, hk, fun hf => (hd (by omega)).trans (congrArg some (by omega))⟩)⟩, (by show va_P _ _ _ t.heap; rw [ht]; exact hP9)⟩, hS.F ht⟩) hS.2.2 dX12_either_78
            · skip
              have t18165 := cv_ne (a := r18092.toInt) rfl (b := 63) (by decide) c18093
              have hP9 : va_P (dC, dI) classes (wM g c v18081 F18082 rc) H := hP
              exact W.vret hx hb hr (fun t ht hW => ⟨⟨(v18081, F18082, rc), rfl, ⟨hI, rfl, (frC (by decide) hf18083 (frC (by decide) hf18073 (frU (by decide) (frC (by decide) hf17673 (fun _ _ => rfl))))), hF, (by show ((v 39).toInt ≤ (v18081 39).toInt ∧ (v18081 39).toInt ≤ (v 30).toInt ∧ (v 38).toInt ≤ (v18081 38).toInt ∧ (v18081 38).toInt - (v 38).toInt ≤ (v18081 39).toInt - (v 39).toInt ∧ (v 41).toInt ≤ (v18081 41).toInt ∧ ((v18081 40).toInt < 0 → (v18081 41).toInt = (v 41).toInt)) ∧ keepL (v 37) (F 28) (F 29) (F18082 28) (F18082 29) ∧ ((v18081 40).toInt < 0 → dp (F18082 28) (F18082 29) (bI (v 37)) (v18081 38).toInt.toNat = some (d + 1)); rw [show v18081 39 = v18071 39 from hf18083 39 (by decide)]; rw [show v18081 41 = v18071 41 from hf18083 41 (by decide)]; rw [show v18081 40 = v18071 40 from hf18083 40 (by decide)]; exact ⟨by omega, hk, fun hf => (hd (by omega)).trans (congrArg some (by omega))⟩)⟩, (by show va_P _ _ _ t.heap; rw [ht]; exact hP9)⟩, hS.F ht⟩) hS.2.2 dX12_either_70
