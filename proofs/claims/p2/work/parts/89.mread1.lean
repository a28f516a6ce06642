set_option maxHeartbeats 8000000 in
set_option maxRecDepth 100000 in
theorem c_X12_operand_1 (l : Launch) (dC : Nat → ClassId) (dI : Nat → Nat → Nat) (g : Nat → Nat) (c : Nat → ClassId) (adK adV : Nat → Nat) (v : Nat → Int32) (F : Nat → Nat → Int32) (rc sz : Nat) (d : Nat) (hg : injM g) (hI : IM v F) (hq : (v 38).toInt ≤ (v 39).toInt ∧ (v 39).toInt ≤ (v 30).toInt ∧ (v 40).toInt < 0 ∧ (v 41).toInt = 1) (hdp : dp (F 28) (F 29) (bI (v 37)) (v 38).toInt.toNat = some d) : Met l yX12_operand (Cond.code yX12_operand cX12_operand 2 none :: wA) ({ frames := 31, cells := 0, slots := 0, locals := 1240 }) (va_Pc [.ref (g 0)] (PM dC dI g c adK adV v F rc sz)) (va_Qv (fun (u : StM) => IM u.1 u.2.1 ∧ u.2.2 = rc ∧ (∀ k, k ∉ ([38, 39, 40, 41, 42] : List Nat) → u.1 k = v k) ∧ (∀ k, k ∉ ([28, 29] : List Nat) → u.2.1 k = F k) ∧ (((v 39).toInt ≤ (u.1 39).toInt ∧ (u.1 39).toInt ≤ (v 30).toInt ∧ (v 38).toInt ≤ (u.1 38).toInt ∧ (u.1 38).toInt - (v 38).toInt ≤ (u.1 39).toInt - (v 39).toInt ∧ (v 41).toInt ≤ (u.1 41).toInt ∧ ((u.1 40).toInt < 0 → (u.1 41).toInt = (v 41).toInt)) ∧ keepL (v 37) (F 28) (F 29) (u.2.1 28) (u.2.1 29) ∧ ((u.1 40).toInt < 0 → dp (u.2.1 28) (u.2.1 29) (bI (v 37)) (u.1 38).toInt.toNat = some (d + 1)))) (BM dC dI g c) (AM g sz)) 0 0 (AM g sz) := by
  refine Met.ofW (cc := cX12_operand) (maxL := 2) (ret := none) (by decide) rfl ?_
  intro p e s m args below meth c0 s₁ B hml hv
  obtain ⟨rfl, hsz, hP, hK, hE⟩ := hv
  have hx := B.exec
  have hb := B.bytes
  have hr := B.returns
  have hts := atoms_spec (ws := Cond.code yX12_operand cX12_operand 2 none :: wA) B.pre
  have hwd : ∀ w ∈ wA, w.before _ s = true := fun w h => hts w (List.mem_cons_of_mem _ h)
  have hown : s.vm.findClass RX12 = some m.cls := findClass_of_methodNamed B.named
  have hlocks := B.notSynchronized
  subst hsz
  have hl := lv_entry ([.ref (g 0)]) (n := 2) (Nat.le_of_ble_eq_true rfl)
  rw [lg_entry_eq]
  generalize (lg_sl ([.ref (g 0)]) ++ List.replicate (2 - (lg_sl ([.ref (g 0)])).length) Slot.unset).toArray = ls at hl ⊢
  have hl : lv_has ls 2 [(0, .ref (g 0))] := hl
  obtain ⟨H, eH⟩ : ∃ z, z = s.heap := ⟨_, rfl⟩
  have hP : va_P (dC, dI) classes (wM g c v F rc) H := by rw [eH]; exact hP
  have hS : va_S (AM g s.heap.size) s.heap H [] := by rw [eH]; exact va_S.rf
  refine my_heap eH ?_
  have hF : ∀ k, k ∉ ([28, 29] : List Nat) → F k = F k := fun _ _ => rfl
  have hb30 : 0 ≤ (v 30).toInt ∧ (v 30).toInt ≤ 120 := hI.1 30 _ _ rfl
  have hb37 : 0 ≤ (v 37).toInt ∧ (v 37).toInt ≤ 9 := hI.1 37 _ _ rfl
  have hb38 : 0 ≤ (v 38).toInt ∧ (v 38).toInt ≤ 120 := hI.1 38 _ _ rfl
  have hb39 : 0 ≤ (v 39).toInt ∧ (v 39).toInt ≤ 120 := hI.1 39 _ _ rfl
  have hb41 : 0 ≤ (v 41).toInt ∧ (v 41).toInt ≤ 8 := hI.1 41 _ _ rfl
  have hk : keepL (v 37) (F 28) (F 29) (F 28) (F 29) := keepL.rf
  have hd : (v 40).toInt < 0 → dp (F 28) (F 29) (bI (v 37)) (v 38).toInt.toNat = some d := fun _ => hdp
  refine lv_aload_n hx hb dX12_operand_0 rfl (lv_at hl 0 rfl) ?_
  have t21555 : 0 ≤ (v 30).toInt ∧ (v 30).toInt ≤ 120 := hI.1 30 _ _ rfl
  have t21556 : 0 ≤ (v 39).toInt ∧ (v 39).toInt ≤ 120 := hI.1 39 _ _ rfl
  refine va_calli (va_runV (As := []) (rest := []) ⟨hx, hb, hml, hown, hwd⟩ (c_X12_look l dC dI g c adK adV v F rc H.size  hg hI ) (cwV 0 hwd (gV wk_1017 wk_1014 wk_1015 wk_1016 wk_5) rfl rfl rfl (by decide +kernel) ⟨Nat.le_of_ble_eq_true rfl, Nat.le_of_ble_eq_true rfl⟩) ⟨PM.blind, va_recv hK hP (ci := 12) (q0 := 0) rfl rfl, fun U hU hW => ⟨rfl, PM.at hK hE hP hS hU hW⟩⟩ rfl rfl hl.1 rfl (lv_room (Nat.le_of_ble_eq_true rfl)) dX12_operand_1 ⟨Nat.le_of_ble_eq_true rfl, Nat.le_of_ble_eq_true rfl⟩) hS (fun q _ h => (freeM hS) q h) (freeM hS) (fun r21557 u t H1 locs ht hvm hw hB hz1 hk1 hS => ?_)
  unfold BM at hB
  rw [ht] at hB
  have hP : va_P (dC, dI) classes (wM g c v F rc) H1 := hB
  have hw : r21557.toInt = lkM (v 39) (v 30) (F 24) ∧ ((v 39).toInt < (v 30).toInt ∨ r21557.toInt = -1) := hw
  have hw_r21557 := hw
  generalize H1 = H at hP hS ⊢
  refine lv_istore_n (lv' := [(1, .int r21557), (0, .ref (g 0))]) hx hb dX12_operand_4 rfl hl (by decide) rfl (fun ls hl => ?_)
  refine lv_iload_n hx hb dX12_operand_5 rfl (lv_at hl 0 rfl) ?_
  refine va_calli (va_runS (As := [.int r21557]) (rest := []) ⟨hx, hb, hml, hown, hwd⟩ (c_X12_nameOf l dC dI g c adK adV v F rc H.size r21557 hg hI ) (va_cwS 1 hwd (gT wk_1034 wk_1032 wk_1033 wk_5) rfl rfl rfl (by decide +kernel) ⟨Nat.le_of_ble_eq_true rfl, Nat.le_of_ble_eq_true rfl⟩) ⟨PM.blind, fun U hU hW => ⟨rfl, PM.at hK hE hP hS hU hW⟩⟩ rfl rfl hl.1 rfl (lv_room (Nat.le_of_ble_eq_true rfl)) dX12_operand_6 ⟨Nat.le_of_ble_eq_true rfl, Nat.le_of_ble_eq_true rfl⟩) hS (fun q _ h => (freeM hS) q h) (freeM hS) (fun r21558 u t H1 locs ht hvm hw hB hz1 hk1 hS => ?_)
  unfold BM at hB
  rw [ht] at hB
  have hP : va_P (dC, dI) classes (wM g c v F rc) H1 := hB
  have hw : r21558.toInt = nmM r21557 ∧ (-1 ≤ r21558.toInt ∧ r21558.toInt ≤ 5) := hw
  have hw_r21558 := hw
  generalize H1 = H at hP hS ⊢
  have np_r21558 := nmM_pos r21557
  refine lv_if_lt (tgt := 34) hx hb dX12_operand_9 (by decide) (fun c21559 => ?_) (fun c21559 => ?_)
  · skip
    have t21560 := cv_lt (a := r21558.toInt) rfl (b := 0) (by decide) c21559
    refine lv_iload_n hx hb dX12_operand_34 rfl (lv_at hl 0 rfl) ?_
    refine lv_bipush (v := 45) hx hb dX12_operand_35 (by decide) ?_
    refine lv_icmp_ne (tgt := 71) hx hb dX12_operand_37 (by decide) (fun c21561 => ?_) (fun c21561 => ?_)
    · skip
      have t21562 := cv_ne (a := r21557.toInt) rfl (b := 45) (by decide) c21561
      refine lv_iload_n hx hb dX12_operand_71 rfl (lv_at hl 0 rfl) ?_
      refine lv_bipush (v := 40) hx hb dX12_operand_72 (by decide) ?_
      refine lv_icmp_ne (tgt := 134) hx hb dX12_operand_74 (by decide) (fun c21563 => ?_) (fun c21563 => ?_)
      · skip
        have t21564 := cv_ne (a := r21557.toInt) rfl (b := 40) (by decide) c21563
        refine lv_aload_n hx hb dX12_operand_134 rfl (lv_at hl 1 rfl) ?_
        have t21565 : 0 ≤ (v 30).toInt ∧ (v 30).toInt ≤ 120 := hI.1 30 _ _ rfl
        have t21566 : 0 ≤ (v 39).toInt ∧ (v 39).toInt ≤ 120 := hI.1 39 _ _ rfl
        refine va_calli (va_runV (As := []) (rest := []) ⟨hx, hb, hml, hown, hwd⟩ (c_X12_digits l dC dI g c adK adV v F rc H.size  hg hI (by have h9 : v 39 = v 39 := rfl; (try rw [h9]); clear h9; have h9 : v 30 = v 30 := rfl; (try rw [h9]); clear h9; omega)) (cwV 0 hwd (gV wk_1041 wk_1038 wk_1039 wk_1040 wk_5) rfl rfl rfl (by decide +kernel) ⟨Nat.le_of_ble_eq_true rfl, Nat.le_of_ble_eq_true rfl⟩) ⟨PM.blind, va_recv hK hP (ci := 12) (q0 := 0) rfl rfl, fun U hU hW => ⟨rfl, PM.at hK hE hP hS hU hW⟩⟩ rfl rfl hl.1 rfl (lv_room (Nat.le_of_ble_eq_true rfl)) dX12_operand_135 ⟨Nat.le_of_ble_eq_true rfl, Nat.le_of_ble_eq_true rfl⟩) hS (fun q _ h => (freeM hS) q h) (freeM hS) (fun r21567 u t H1 locs ht hvm hw hB hz1 hk1 hS => ?_)
        unfold BM at hB
        rw [ht] at hB
        obtain ⟨v21568, F21569, rc9⟩ := u
        obtain ⟨hI, hrc, hf21570, hG21571, hw⟩ := hw
        dsimp only at hI hrc hB hf21570 hG21571 hw
        have hF := frCF (by decide) hG21571 hF
        rw [hrc] at hB
        have hP : va_P (dC, dI) classes (wM g c v21568 F21569 rc) H1 := hB
        have hw : (r21567.toInt = 1 ∧ (v 39).toInt < (v21568 39).toInt ∧ (v21568 39).toInt ≤ (v 30).toInt ∧ (v21568 40).toInt = (v 40).toInt) ∨ (r21567.toInt = 0 ∧ 0 ≤ (v21568 40).toInt ∧ (v 39).toInt ≤ (v21568 39).toInt ∧ (v21568 39).toInt ≤ (v 30).toInt) := hw
        have hw_r21567 := hw
        have t21572 : 0 ≤ (v21568 39).toInt ∧ (v21568 39).toInt ≤ 120 := hI.1 39 _ _ rfl
        generalize H1 = H at hP hS ⊢
        have hk : keepL (v 37) (F 28) (F 29) (F21569 28) (F21569 29) := by rw [hG21571 28 (by decide), hG21571 29 (by decide)]; exact hk
        have hd : (v21568 40).toInt < 0 → dp (F21569 28) (F21569 29) (bI (v 37)) (v 38).toInt.toNat = some d := fun hf => (by rw [hG21571 28 (by decide), hG21571 29 (by decide)]; exact hd (by omega))
        refine lv_if_eq (tgt := 150) hx hb dX12_operand_138 (by decide) (fun c21573 => ?_) (fun c21573 => ?_)
        · skip
          have t21574 := cv_eq (a := r21567.toInt) rfl (b := 0) (by decide) c21573
          have hP9 : va_P (dC, dI) classes (wM g c v21568 F21569 rc) H := hP
          exact W.vret hx hb hr (fun t ht hW => ⟨⟨(v21568, F21569, rc), rfl, ⟨hI, rfl, (frC (by decide) hf21570 (fun _ _ => rfl)), hF, (by show ((v 39).toInt ≤ (v21568 39).toInt ∧ (v21568 39).toInt ≤ (v 30).toInt ∧ (v 38).toInt ≤ (v21568 38).toInt ∧ (v21568 38).toInt - (v 38).toInt ≤ (v21568 39).toInt - (v 39).toInt ∧ (v 41).toInt ≤ (v21568 41).toInt ∧ ((v21568 40).toInt < 0 → (v21568 41).toInt = (v 41).toInt)) ∧ keepL (v 37) (F 28) (F 29) (F21569 28) (F21569 29) ∧ ((v21568 40).toInt < 0 → dp (F21569 28) (F21569 29) (bI (v 37)) (v21568 38).toInt.toNat = some (d + 1)); rw [show v21568 38 = v 38 from hf21570 38 (by decide)]; rw [show v21568 41 = v 41 from hf21570 41 (by decide)]; exact ⟨by omega, hk, fun hf => (hd (by omega)).trans (congrArg some (by omega))⟩)⟩, (by show va_P _ _ _ t.heap; rw [ht]; exact hP9)⟩, hS.F ht⟩) hS.2.2 dX12_operand_150
        · skip
          have t21575 := cv_ne (a := r21567.toInt) rfl (b := 0) (by decide) c21573
          refine lv_aload_n hx hb dX12_operand_141 rfl (lv_at hl 1 rfl) ?_
          refine lv_iconst (v := 1) hx hb dX12_operand_142 (by decide) ?_
          refine lv_aload_n hx hb dX12_operand_143 rfl (lv_at hl 1 rfl) ?_
          refine va_get (D := (dC, dI)) (ci := 12) (v := .int (v21568 42)) (C := RX12) (T := TX12) (N := 63) hx hb hwd inA_X12 hown hK hP 0 rfl rfl 42 (by decide) (hwd _ wk_1031) (fun _ h9 => h9) rfl dX12_operand_144 ?_
          have t21576 : 0 ≤ (v 37).toInt ∧ (v 37).toInt ≤ 9 := by have h9 := hI.1 37 _ _ rfl; rw [show v21568 37 = v 37 from hf21570 37 (by decide)] at h9; exact h9
          have t21577 : 0 ≤ (v 38).toInt ∧ (v 38).toInt ≤ 120 := by have h9 := hI.1 38 _ _ rfl; rw [show v21568 38 = v 38 from hf21570 38 (by decide)] at h9; exact h9
          refine va_callv (va_runV (As := [.int 1, .int (v21568 42)]) (rest := []) ⟨hx, hb, hml, hown, hwd⟩ (c_X12_lay l dC dI g c adK adV v21568 F21569 rc H.size 1 (v21568 42) hg hI (by have h9 : v21568 38 = v 38 := hf21570 38 (by decide); rw [h9]; omega)) (cwV 2 hwd (gV wk_1021 wk_1018 wk_1019 wk_1020 wk_5) rfl rfl rfl (by decide +kernel) ⟨Nat.le_of_ble_eq_true rfl, Nat.le_of_ble_eq_true rfl⟩) ⟨PM.blind, va_recv hK hP (ci := 12) (q0 := 0) rfl rfl, fun U hU hW => ⟨rfl, PM.at hK hE hP hS hU hW⟩⟩ rfl rfl hl.1 rfl (lv_room (Nat.le_of_ble_eq_true rfl)) dX12_operand_147 ⟨Nat.le_of_ble_eq_true rfl, Nat.le_of_ble_eq_true rfl⟩) hS (fun q _ h => (freeM hS) q h) (freeM hS) (fun u t H1 locs ht hvm hw hB hz1 hk1 hS => ?_)
          unfold BM at hB
          rw [ht] at hB
          obtain ⟨v21579, F21580, rc9⟩ := u
          obtain ⟨hI, hrc, hf21581, hG21582, hw⟩ := hw
          dsimp only at hI hrc hB hf21581 hG21582 hw
          have hF := frCF (by decide) hG21582 hF
          rw [hrc] at hB
          have hP : va_P (dC, dI) classes (wM g c v21579 F21580 rc) H1 := hB
          have hw : (v21579 38).toInt = (v21568 38).toInt + 1 ∧ keepL (v21568 37) (F21569 28) (F21569 29) (F21580 28) (F21580 29) ∧ dp (F21580 28) (F21580 29) (bI (v21568 37)) ((v21568 38).toInt.toNat + 1) = dpS (dp (F21569 28) (F21569 29) (bI (v21568 37)) (v21568 38).toInt.toNat) (1 : Int32) (v21568 42) := hw
          rw [show v21568 38 = v 38 from hf21570 38 (by decide)] at hw
          rw [show v21568 37 = v 37 from hf21570 37 (by decide)] at hw
          have hw_r21578 := hw
          have t21583 : 0 ≤ (v21579 38).toInt ∧ (v21579 38).toInt ≤ 120 := hI.1 38 _ _ rfl
          have k21584 : (1 : Int32).toInt = 1 := by decide
          generalize H1 = H at hP hS ⊢
          have hk := hk.tr hw_r21578.2.1
          have hd : (v21568 40).toInt < 0 → dp (F21580 28) (F21580 29) (bI (v 37)) (v21579 38).toInt.toNat = some (d + 1) := fun hf => (by have e9 : (v21579 38).toInt.toNat = (v 38).toInt.toNat + 1 := (by omega); rw [e9, hw_r21578.2.2, hd hf]; exact dpS_1 (by decide))
          have hP9 : va_P (dC, dI) classes (wM g c v21579 F21580 rc) H := hP
          exact W.vret hx hb hr (fun t ht hW => ⟨⟨(v21579, F21580, rc), rfl, ⟨hI, rfl, (frC (by decide) hf21581 (frC (by decide) hf21570 (fun _ _ => rfl))), hF, (by show ((v 39).toInt ≤ (v21579 39).toInt ∧ (v21579 39).toInt ≤ (v 30).toInt ∧ (v 38).toInt ≤ (v21579 38).toInt ∧ (v21579 38).toInt - (v 38).toInt ≤ (v21579 39).toInt - (v 39).toInt ∧ (v 41).toInt ≤ (v21579 41).toInt ∧ ((v21579 40).toInt < 0 → (v21579 41).toInt = (v 41).toInt)) ∧ keepL (v 37) (F 28) (F 29) (F21580 28) (F21580 29) ∧ ((v21579 40).toInt < 0 → dp (F21580 28) (F21580 29) (bI (v 37)) (v21579 38).toInt.toNat = some (d + 1)); rw [show v21579 39 = v21568 39 from hf21581 39 (by decide)]; rw [show v21579 41 = v 41 from (hf21581 41 (by decide)).trans (hf21570 41 (by decide))]; rw [show v21579 40 = v21568 40 from hf21581 40 (by decide)]; exact ⟨by omega, hk, fun hf => (hd (by omega)).trans (congrArg some (by omega))⟩)⟩, (by show va_P _ _ _ t.heap; rw [ht]; exact hP9)⟩, hS.F ht⟩) hS.2.2 dX12_operand_150
      · skip
        have t21585 := cv_eq (a := r21557.toInt) rfl (b := 40) (by decide) c21563
        refine lv_aload_n hx hb dX12_operand_77 rfl (lv_at hl 1 rfl) ?_
        have t21586 : 0 ≤ (v 39).toInt ∧ (v 39).toInt ≤ 120 := hI.1 39 _ _ rfl
        have t21587 : 0 ≤ (v 41).toInt ∧ (v 41).toInt ≤ 8 := hI.1 41 _ _ rfl
        refine va_calli (va_runV (As := []) (rest := []) ⟨hx, hb, hml, hown, hwd⟩ (c_X12_opens l dC dI g c adK adV v F rc H.size  hg hI (by have h9 : v 39 = v 39 := rfl; (try rw [h9]); clear h9; have h9 : v 30 = v 30 := rfl; (try rw [h9]); clear h9; omega)) (cwV 0 hwd (gV wk_1025 wk_1022 wk_1023 wk_1024 wk_5) rfl rfl rfl (by decide +kernel) ⟨Nat.le_of_ble_eq_true rfl, Nat.le_of_ble_eq_true rfl⟩) ⟨PM.blind, va_recv hK hP (ci := 12) (q0 := 0) rfl rfl, fun U hU hW => ⟨rfl, PM.at hK hE hP hS hU hW⟩⟩ rfl rfl hl.1 rfl (lv_room (Nat.le_of_ble_eq_true rfl)) dX12_operand_78 ⟨Nat.le_of_ble_eq_true rfl, Nat.le_of_ble_eq_true rfl⟩) hS (fun q _ h => (freeM hS) q h) (freeM hS) (fun r21588 u t H1 locs ht hvm hw hB hz1 hk1 hS => ?_)
        unfold BM at hB
        rw [ht] at hB
        obtain ⟨v21589, F21590, rc9⟩ := u
        obtain ⟨hI, hrc, hf21591, hG21592, hw⟩ := hw
        dsimp only at hI hrc hB hf21591 hG21592 hw
        have hF := frCF (by decide) hG21592 hF
        rw [hrc] at hB
        have hP : va_P (dC, dI) classes (wM g c v21589 F21590 rc) H1 := hB
        have hw : (r21588.toInt = 1 ∧ (v 41).toInt < 8 ∧ (v21589 41).toInt = (v 41).toInt + 1 ∧ (v21589 39).toInt = (v 39).toInt + 1 ∧ (v21589 40).toInt = (v 40).toInt) ∨ (r21588.toInt = 0 ∧ (v 41).toInt = 8 ∧ 0 ≤ (v21589 40).toInt ∧ (v21589 41).toInt = (v 41).toInt ∧ (v21589 39).toInt = (v 39).toInt) := hw
        have hw_r21588 := hw
        have t21593 : 0 ≤ (v21589 39).toInt ∧ (v21589 39).toInt ≤ 120 := hI.1 39 _ _ rfl
        have t21594 : 0 ≤ (v21589 41).toInt ∧ (v21589 41).toInt ≤ 8 := hI.1 41 _ _ rfl
        generalize H1 = H at hP hS ⊢
        have hk : keepL (v 37) (F 28) (F 29) (F21590 28) (F21590 29) := by rw [hG21592 28 (by decide), hG21592 29 (by decide)]; exact hk
        have hd : (v21589 40).toInt < 0 → dp (F21590 28) (F21590 29) (bI (v 37)) (v 38).toInt.toNat = some d := fun hf => (by rw [hG21592 28 (by decide), hG21592 29 (by decide)]; exact hd (by omega))
        refine lv_if_ne (tgt := 85) hx hb dX12_operand_81 (by decide) (fun c21595 => ?_) (fun c21595 => ?_)
        · skip
          have t21596 := cv_ne (a := r21588.toInt) rfl (b := 0) (by decide) c21595
          refine lv_aload_n hx hb dX12_operand_85 rfl (lv_at hl 1 rfl) ?_
          have t21597 : 0 ≤ (v 30).toInt ∧ (v 30).toInt ≤ 120 := by have h9 := hI.1 30 _ _ rfl; rw [show v21589 30 = v 30 from hf21591 30 (by decide)] at h9; exact h9
          have t21598 : 0 ≤ (v 37).toInt ∧ (v 37).toInt ≤ 9 := by have h9 := hI.1 37 _ _ rfl; rw [show v21589 37 = v 37 from hf21591 37 (by decide)] at h9; exact h9
          have t21599 : 0 ≤ (v 38).toInt ∧ (v 38).toInt ≤ 120 := by have h9 := hI.1 38 _ _ rfl; rw [show v21589 38 = v 38 from hf21591 38 (by decide)] at h9; exact h9
          have t21600 : 0 ≤ (v21589 39).toInt ∧ (v21589 39).toInt ≤ 120 := hI.1 39 _ _ rfl
          have t21601 : 0 ≤ (v21589 41).toInt ∧ (v21589 41).toInt ≤ 8 := hI.1 41 _ _ rfl
          refine va_callv (va_runV (As := []) (rest := []) ⟨hx, hb, hml, hown, hwd⟩ (c_X12_either_2 l dC dI g c adK adV v21589 F21590 rc H.size  d hg hI (by have h9 : v21589 38 = v 38 := hf21591 38 (by decide); (try rw [h9]); clear h9; have h9 : v21589 39 = v21589 39 := rfl; (try rw [h9]); clear h9; have h9 : v21589 30 = v 30 := hf21591 30 (by decide); (try rw [h9]); clear h9; have h9 : v21589 40 = v21589 40 := rfl; (try rw [h9]); clear h9; have h9 : v21589 41 = v21589 41 := rfl; (try rw [h9]); clear h9; omega) (by have h9 : v21589 37 = (v 37) := hf21591 37 (by decide); have h8 : v21589 38 = (v 38) := hf21591 38 (by decide); (try rw [h9]); (try rw [h8]); exact hd (by omega))) (cwV 0 hwd (gV wk_1010 wk_1007 wk_1008 wk_1009 wk_5) rfl rfl rfl (by decide +kernel) ⟨Nat.le_of_ble_eq_true rfl, Nat.le_of_ble_eq_true rfl⟩) ⟨PM.blind, va_recv hK hP (ci := 12) (q0 := 0) rfl rfl, fun U hU hW => ⟨rfl, PM.at hK hE hP hS hU hW⟩⟩ rfl rfl hl.1 rfl (lv_room (Nat.le_of_ble_eq_true rfl)) dX12_operand_86 ⟨Nat.le_of_ble_eq_true rfl, Nat.le_of_ble_eq_true rfl⟩) hS (fun q _ h => (freeM hS) q h) (freeM hS) (fun u t H1 locs ht hvm hw hB hz1 hk1 hS => ?_)
          unfold BM at hB
          rw [ht] at hB
          obtain ⟨v21603, F21604, rc9⟩ := u
          obtain ⟨hI, hrc, hf21605, hG21606, hw⟩ := hw
          dsimp only at hI hrc hB hf21605 hG21606 hw
          have hF := frCF (by decide) hG21606 hF
          rw [hrc] at hB
          have hP : va_P (dC, dI) classes (wM g c v21603 F21604 rc) H1 := hB
          have hw : ((v21589 39).toInt ≤ (v21603 39).toInt ∧ (v21603 39).toInt ≤ (v21589 30).toInt ∧ (v21589 38).toInt ≤ (v21603 38).toInt ∧ (v21603 38).toInt - (v21589 38).toInt ≤ (v21603 39).toInt - (v21589 39).toInt ∧ (v21589 41).toInt ≤ (v21603 41).toInt ∧ ((v21603 40).toInt < 0 → (v21603 41).toInt = (v21589 41).toInt)) ∧ keepL (v21589 37) (F21590 28) (F21590 29) (F21604 28) (F21604 29) ∧ ((v21603 40).toInt < 0 → dp (F21604 28) (F21604 29) (bI (v21589 37)) (v21603 38).toInt.toNat = some (d + 1)) := hw
          rw [show v21589 30 = v 30 from hf21591 30 (by decide)] at hw
          rw [show v21589 38 = v 38 from hf21591 38 (by decide)] at hw
          rw [show v21589 37 = v 37 from hf21591 37 (by decide)] at hw
          have hw_r21602 := hw
          have t21607 : 0 ≤ (v21603 38).toInt ∧ (v21603 38).toInt ≤ 120 := hI.1 38 _ _ rfl
          have t21608 : 0 ≤ (v21603 39).toInt ∧ (v21603 39).toInt ≤ 120 := hI.1 39 _ _ rfl
          have t21609 : 0 ≤ (v21603 41).toInt ∧ (v21603 41).toInt ≤ 8 := hI.1 41 _ _ rfl
          generalize H1 = H at hP hS ⊢
          have hk := hk.tr hw_r21602.2.1
          have hd := hw_r21602.2.2
          refine lv_aload_n hx hb dX12_operand_89 rfl (lv_at hl 1 rfl) ?_
          refine va_get (D := (dC, dI)) (ci := 12) (v := .int (v21603 40)) (C := RX12) (T := TX12) (N := 63) hx hb hwd inA_X12 hown hK hP 0 rfl rfl 40 (by decide) (hwd _ wk_1005) (fun _ h9 => h9) rfl dX12_operand_90 ?_
          refine lv_if_lt (tgt := 97) hx hb dX12_operand_93 (by decide) (fun c21610 => ?_) (fun c21610 => ?_)
          · skip
            have t21611 := cv_lt (a := (v21603 40).toInt) rfl (b := 0) (by decide) c21610
            refine lv_aload_n hx hb dX12_operand_97 rfl (lv_at hl 1 rfl) ?_
            have t21612 : 0 ≤ (v 30).toInt ∧ (v 30).toInt ≤ 120 := by have h9 := hI.1 30 _ _ rfl; rw [show v21603 30 = v 30 from (hf21605 30 (by decide)).trans (hf21591 30 (by decide))] at h9; exact h9
            have t21613 : 0 ≤ (v21603 39).toInt ∧ (v21603 39).toInt ≤ 120 := hI.1 39 _ _ rfl
            refine va_calli (va_runV (As := []) (rest := []) ⟨hx, hb, hml, hown, hwd⟩ (c_X12_look l dC dI g c adK adV v21603 F21604 rc H.size  hg hI ) (cwV 0 hwd (gV wk_1017 wk_1014 wk_1015 wk_1016 wk_5) rfl rfl rfl (by decide +kernel) ⟨Nat.le_of_ble_eq_true rfl, Nat.le_of_ble_eq_true rfl⟩) ⟨PM.blind, va_recv hK hP (ci := 12) (q0 := 0) rfl rfl, fun U hU hW => ⟨rfl, PM.at hK hE hP hS hU hW⟩⟩ rfl rfl hl.1 rfl (lv_room (Nat.le_of_ble_eq_true rfl)) dX12_operand_98 ⟨Nat.le_of_ble_eq_true rfl, Nat.le_of_ble_eq_true rfl⟩) hS (fun q _ h => (freeM hS) q h) (freeM hS) (fun r21614 u t H1 locs ht hvm hw hB hz1 hk1 hS => ?_)
            unfold BM at hB
            rw [ht] at hB
            have hP : va_P (dC, dI) classes (wM g c v21603 F21604 rc) H1 := hB
            have hw : r21614.toInt = lkM (v21603 39) (v21603 30) (F21604 24) ∧ ((v21603 39).toInt < (v21603 30).toInt ∨ r21614.toInt = -1) := hw
            rw [show v21603 30 = v 30 from (hf21605 30 (by decide)).trans (hf21591 30 (by decide))] at hw
            rw [hF 24 (by decide)] at hw
            have hw_r21614 := hw
            generalize H1 = H at hP hS ⊢
            refine lv_bipush (v := 41) hx hb dX12_operand_101 (by decide) ?_
            refine lv_icmp_eq (tgt := 111) hx hb dX12_operand_103 (by decide) (fun c21615 => ?_) (fun c21615 => ?_)
            · skip
              have t21616 := cv_eq (a := r21614.toInt) rfl (b := 41) (by decide) c21615
              refine lv_aload_n hx hb dX12_operand_111 rfl (lv_at hl 1 rfl) ?_
              refine lv_dup hx hb dX12_operand_112 rfl ?_
              refine va_get (D := (dC, dI)) (ci := 12) (v := .int (v21603 39)) (C := RX12) (T := TX12) (N := 63) hx hb hwd inA_X12 hown hK hP 0 rfl rfl 39 (by decide) (hwd _ wk_1004) (fun _ h9 => h9) rfl dX12_operand_113 ?_
              have t21617 : 0 ≤ (v21603 39).toInt ∧ (v21603 39).toInt ≤ 120 := hI.1 39 _ _ rfl
              refine lv_iconst (v := 1) hx hb dX12_operand_116 (by decide) ?_
              refine lv_iadd hx hb dX12_operand_117 ?_
              refine lv_topi (fun z21618 e21619 => ?_)
              try (have t21620 := tadd e21619 (a := (v21603 39).toInt) rfl (b := 1) (by decide) (by omega))
              refine va_put (D := (dC, dI)) (ci := 12) (v := .int z21618) (ty := .int) (C := RX12) (T := TX12) (N := 63) (fs := fsM_0 g v21603 rc) hx hb hwd inA_X12 tyX12 tyX12_ok nmX12 hown hK hP (DM hg) hS 0 rfl rfl 39 (by decide) (hwd _ wk_1004) (fun _ h9 => h9) rfl (by decide +kernel) rfl rfl (Nat.le_of_ble_eq_true rfl) dX12_operand_118 (fun H locs hP _ hS => ?_)
              have hP := va_P_eq (pM_39 g c _ _ _ _) hP
              have hI := IM.put hI 39 z21618 rfl (by omega)
              refine lv_aload_n hx hb dX12_operand_121 rfl (lv_at hl 1 rfl) ?_
              refine lv_dup hx hb dX12_operand_122 rfl ?_
              refine va_get (D := (dC, dI)) (ci := 12) (v := .int (v21603 41)) (C := RX12) (T := TX12) (N := 63) hx hb hwd inA_X12 hown hK hP 0 rfl rfl 41 (by decide) (hwd _ wk_1006) (fun _ h9 => h9) rfl dX12_operand_123 ?_
              have t21621 : 0 ≤ (v21603 41).toInt ∧ (v21603 41).toInt ≤ 8 := hI.1 41 _ _ rfl
              refine lv_iconst (v := 1) hx hb dX12_operand_126 (by decide) ?_
              refine lv_isub hx hb dX12_operand_127 ?_
              refine lv_topi (fun z21622 e21623 => ?_)
              try (have t21624 := tsub e21623 (a := (v21603 41).toInt) rfl (b := 1) (by decide) (by omega))
              refine va_put (D := (dC, dI)) (ci := 12) (v := .int z21622) (ty := .int) (C := RX12) (T := TX12) (N := 63) (fs := fsM_0 g (va_up v21603 39 z21618) rc) hx hb hwd inA_X12 tyX12 tyX12_ok nmX12 hown hK hP (DM hg) hS 0 rfl rfl 41 (by decide) (hwd _ wk_1006) (fun _ h9 => h9) rfl (by decide +kernel) rfl rfl (Nat.le_of_ble_eq_true rfl) dX12_operand_128 (fun H locs hP _ hS => ?_)
              have hP := va_P_eq (pM_41 g c _ _ _ _) hP
              have hI := IM.put hI 41 z21622 rfl (by omega)
              refine lv_goto (tgt := 150) hx hb dX12_operand_131 (by decide) ?_
              have hP9 : va_P (dC, dI) classes (wM g c (va_up (va_up v21603 39 z21618) 41 z21622) F21604 rc) H := hP
              exact W.vret hx hb hr (fun t ht hW => ⟨⟨((va_up (va_up v21603 39 z21618) 41 z21622), F21604, rc), rfl, ⟨hI, rfl, (frU (by decide) (frU (by decide) (frC (by decide) hf21605 (frC (by decide) hf21591 (fun _ _ => rfl))))), hF, (by show ((v 39).toInt ≤ z21618.toInt ∧ z21618.toInt ≤ (v 30).toInt ∧ (v 38).toInt ≤ (v21603 38).toInt ∧ (v21603 38).toInt - (v 38).toInt ≤ z21618.toInt - (v 39).toInt ∧ (v 41).toInt ≤ z21622.toInt ∧ ((v21603 40).toInt < 0 → z21622.toInt = (v 41).toInt)) ∧ keepL (v 37) (F 28) (F 29) (F21604 28) (F21604 29) ∧ ((v21603 40).toInt < 0 → dp (F21604 28) (F21604 29) (bI (v 37)) (v21603 38).toInt.toNat = some (d + 1)); exact ⟨by omega, hk, fun hf => (hd (by omega)).trans (congrArg some (by omega))⟩)⟩, (by show va_P _ _ _ t.heap; rw [ht]; exact hP9)⟩, hS.F ht⟩) hS.2.2 dX12_operand_150
            · skip
              have t21625 := cv_ne (a := r21614.toInt) rfl (b := 41) (by decide) c21615
              refine lv_aload_n hx hb dX12_operand_106 rfl (lv_at hl 1 rfl) ?_
              refine va_callv (va_runV (As := []) (rest := []) ⟨hx, hb, hml, hown, hwd⟩ (c_X12_wrong l dC dI g c adK adV v21603 F21604 rc H.size  hg hI ) (cwV 0 hwd (gV wk_1029 wk_1026 wk_1027 wk_1028 wk_5) rfl rfl rfl (by decide +kernel) ⟨Nat.le_of_ble_eq_true rfl, Nat.le_of_ble_eq_true rfl⟩) ⟨PM.blind, va_recv hK hP (ci := 12) (q0 := 0) rfl rfl, fun U hU hW => ⟨rfl, PM.at hK hE hP hS hU hW⟩⟩ rfl rfl hl.1 rfl (lv_room (Nat.le_of_ble_eq_true rfl)) dX12_operand_107 ⟨Nat.le_of_ble_eq_true rfl, Nat.le_of_ble_eq_true rfl⟩) hS (fun q _ h => (freeM hS) q h) (freeM hS) (fun u t H1 locs ht hvm hw hB hz1 hk1 hS => ?_)
              unfold BM at hB
              rw [ht] at hB
              obtain ⟨v21627, F21628, rc9⟩ := u
              obtain ⟨hI, hrc, hf21629, hG21630, hw⟩ := hw
              dsimp only at hI hrc hB hf21629 hG21630 hw
              have hF := frCF (by decide) hG21630 hF
              rw [hrc] at hB
              have hP : va_P (dC, dI) classes (wM g c v21627 F21628 rc) H1 := hB
              have hw : 0 ≤ (v21627 40).toInt := hw
              have hw_r21626 := hw
              generalize H1 = H at hP hS ⊢
              have hk : keepL (v 37) (F 28) (F 29) (F21628 28) (F21628 29) := by rw [hG21630 28 (by decide), hG21630 29 (by decide)]; exact hk
              have hd : (v21627 40).toInt < 0 → dp (F21628 28) (F21628 29) (bI (v 37)) (v21603 38).toInt.toNat = some (d + 1) := fun hf => (by rw [hG21630 28 (by decide), hG21630 29 (by decide)]; exact hd (by omega))
              have hP9 : va_P (dC, dI) classes (wM g c v21627 F21628 rc) H := hP
              exact W.vret hx hb hr (fun t ht hW => ⟨⟨(v21627, F21628, rc), rfl, ⟨hI, rfl, (frC (by decide) hf21629 (frC (by decide) hf21605 (frC (by decide) hf21591 (fun _ _ => rfl)))), hF, (by show ((v 39).toInt ≤ (v21627 39).toInt ∧ (v21627 39).toInt ≤ (v 30).toInt ∧ (v 38).toInt ≤ (v21627 38).toInt ∧ (v21627 38).toInt - (v 38).toInt ≤ (v21627 39).toInt - (v 39).toInt ∧ (v 41).toInt ≤ (v21627 41).toInt ∧ ((v21627 40).toInt < 0 → (v21627 41).toInt = (v 41).toInt)) ∧ keepL (v 37) (F 28) (F 29) (F21628 28) (F21628 29) ∧ ((v21627 40).toInt < 0 → dp (F21628 28) (F21628 29) (bI (v 37)) (v21627 38).toInt.toNat = some (d + 1)); rw [show v21627 39 = v21603 39 from hf21629 39 (by decide)]; rw [show v21627 38 = v21603 38 from hf21629 38 (by decide)]; rw [show v21627 41 = v21603 41 from hf21629 41 (by decide)]; exact ⟨by omega, hk, fun hf => (hd (by omega)).trans (congrArg some (by omega))⟩)⟩, (by show va_P _ _ _ t.heap; rw [ht]; exact hP9)⟩, hS.F ht⟩) hS.2.2 dX12_operand_110
          · skip
            have t21631 := cv_nlt (a := (v21603 40).toInt) rfl (b := 0) (by decide) c21610
            have hP9 : va_P (dC, dI) classes (wM g c v21603 F21604 rc) H := hP
            exact W.vret hx hb hr (fun t ht hW => ⟨⟨(v21603, F21604, rc), rfl, ⟨hI, rfl, (frC (by decide) hf21605 (frC (by decide) hf21591 (fun _ _ => rfl))), hF, (by show ((v 39).toInt ≤ (v21603 39).toInt ∧ (v21603 39).toInt ≤ (v 30).toInt ∧ (v 38).toInt ≤ (v21603 38).toInt ∧ (v21603 38).toInt - (v 38).toInt ≤ (v21603 39).toInt - (v 39).toInt ∧ (v 41).toInt ≤ (v21603 41).toInt ∧ ((v21603 40).toInt < 0 → (v21603 41).toInt = (v 41).toInt)) ∧ keepL (v 37) (F 28) (F 29) (F21604 28) (F21604 29) ∧ ((v21603 40).toInt < 0 → dp (F21604 28) (F21604 29) (bI (v 37)) (v21603 38).toInt.toNat = some (d + 1)); exact ⟨by omega, hk, fun hf => (hd (by omega)).trans (congrArg some (by omega))⟩)⟩, (by show va_P _ _ _ t.heap; rw [ht]; exact hP9)⟩, hS.F ht⟩) hS.2.2 dX12_operand_96
        · skip
          have t21632 := cv_eq (a := r21588.toInt) rfl (b := 0) (by decide) c21595
          have hP9 : va_P (dC, dI) classes (wM g c v21589 F21590 rc) H := hP
          exact W.vret hx hb hr (fun t ht hW => ⟨⟨(v21589, F21590, rc), rfl, ⟨hI, rfl, (frC (by decide) hf21591 (fun _ _ => rfl)), hF, (by show ((v 39).toInt ≤ (v21589 39).toInt ∧ (v21589 39).toInt ≤ (v 30).toInt ∧ (v 38).toInt ≤ (v21589 38).toInt ∧ (v21589 38).toInt - (v 38).toInt ≤ (v21589 39).toInt - (v 39).toInt ∧ (v 41).toInt ≤ (v21589 41).toInt ∧ ((v21589 40).toInt < 0 → (v21589 41).toInt = (v 41).toInt)) ∧ keepL (v 37) (F 28) (F 29) (F21590 28) (F21590 29) ∧ ((v21589 40).toInt < 0 → dp (F21590 28) (F21590 29) (bI (v 37)) (v21589 38).toInt.toNat = some (d + 1)); rw [show v21589 38 = v 38 from hf21591 38 (by decide)]; exact ⟨by omega, hk, fun hf => (hd (by omega)).trans (congrArg some (by omega))⟩)⟩, (by show va_P _ _ _ t.heap; rw [ht]; exact hP9)⟩, hS.F ht⟩) hS.2.2 dX12_operand_84
    · skip
      have t21633 := cv_eq (a := r21557.toInt) rfl (b := 45) (by decide) c21561
      refine lv_aload_n hx hb dX12_operand_40 rfl (lv_at hl 1 rfl) ?_
      have t21634 : 0 ≤ (v 39).toInt ∧ (v 39).toInt ≤ 120 := hI.1 39 _ _ rfl
      have t21635 : 0 ≤ (v 41).toInt ∧ (v 41).toInt ≤ 8 := hI.1 41 _ _ rfl
      refine va_calli (va_runV (As := []) (rest := []) ⟨hx, hb, hml, hown, hwd⟩ (c_X12_opens l dC dI g c adK adV v F rc H.size  hg hI (by have h9 : v 39 = v 39 := rfl; (try rw [h9]); clear h9; have h9 : v 30 = v 30 := rfl; (try rw [h9]); clear h9; omega)) (cwV 0 hwd (gV wk_1025 wk_1022 wk_1023 wk_1024 wk_5) rfl rfl rfl (by decide +kernel) ⟨Nat.le_of_ble_eq_true rfl, Nat.le_of_ble_eq_true rfl⟩) ⟨PM.blind, va_recv hK hP (ci := 12) (q0 := 0) rfl rfl, fun U hU hW => ⟨rfl, PM.at hK hE hP hS hU hW⟩⟩ rfl rfl hl.1 rfl (lv_room (Nat.le_of_ble_eq_true rfl)) dX12_operand_41 ⟨Nat.le_of_ble_eq_true rfl, Nat.le_of_ble_eq_true rfl⟩) hS (fun q _ h => (freeM hS) q h) (freeM hS) (fun r21636 u t H1 locs ht hvm hw hB hz1 hk1 hS => ?_)
      unfold BM at hB
      rw [ht] at hB
      obtain ⟨v21637, F21638, rc9⟩ := u
      obtain ⟨hI, hrc, hf21639, hG21640, hw⟩ := hw
      dsimp only at hI hrc hB hf21639 hG21640 hw
      have hF := frCF (by decide) hG21640 hF
      rw [hrc] at hB
      have hP : va_P (dC, dI) classes (wM g c v21637 F21638 rc) H1 := hB
      have hw : (r21636.toInt = 1 ∧ (v 41).toInt < 8 ∧ (v21637 41).toInt = (v 41).toInt + 1 ∧ (v21637 39).toInt = (v 39).toInt + 1 ∧ (v21637 40).toInt = (v 40).toInt) ∨ (r21636.toInt = 0 ∧ (v 41).toInt = 8 ∧ 0 ≤ (v21637 40).toInt ∧ (v21637 41).toInt = (v 41).toInt ∧ (v21637 39).toInt = (v 39).toInt) := hw
      have hw_r21636 := hw
      have t21641 : 0 ≤ (v21637 39).toInt ∧ (v21637 39).toInt ≤ 120 := hI.1 39 _ _ rfl
      have t21642 : 0 ≤ (v21637 41).toInt ∧ (v21637 41).toInt ≤ 8 := hI.1 41 _ _ rfl
      generalize H1 = H at hP hS ⊢
      have hk : keepL (v 37) (F 28) (F 29) (F21638 28) (F21638 29) := by rw [hG21640 28 (by decide), hG21640 29 (by decide)]; exact hk
      have hd : (v21637 40).toInt < 0 → dp (F21638 28) (F21638 29) (bI (v 37)) (v 38).toInt.toNat = some d := fun hf => (by rw [hG21640 28 (by decide), hG21640 29 (by decide)]; exact hd (by omega))
      refine lv_if_ne (tgt := 48) hx hb dX12_operand_44 (by decide) (fun c21643 => ?_) (fun c21643 => ?_)
      · skip
        have t21644 := cv_ne (a := r21636.toInt) rfl (b := 0) (by decide) c21643
        refine lv_aload_n hx hb dX12_operand_48 rfl (lv_at hl 1 rfl) ?_
        have t21645 : 0 ≤ (v 30).toInt ∧ (v 30).toInt ≤ 120 := by have h9 := hI.1 30 _ _ rfl; rw [show v21637 30 = v 30 from hf21639 30 (by decide)] at h9; exact h9
        have t21646 : 0 ≤ (v 37).toInt ∧ (v 37).toInt ≤ 9 := by have h9 := hI.1 37 _ _ rfl; rw [show v21637 37 = v 37 from hf21639 37 (by decide)] at h9; exact h9
        have t21647 : 0 ≤ (v 38).toInt ∧ (v 38).toInt ≤ 120 := by have h9 := hI.1 38 _ _ rfl; rw [show v21637 38 = v 38 from hf21639 38 (by decide)] at h9; exact h9
        have t21648 : 0 ≤ (v21637 39).toInt ∧ (v21637 39).toInt ≤ 120 := hI.1 39 _ _ rfl
        have t21649 : 0 ≤ (v21637 41).toInt ∧ (v21637 41).toInt ≤ 8 := hI.1 41 _ _ rfl
        refine va_callv (va_runV (As := []) (rest := []) ⟨hx, hb, hml, hown, hwd⟩ (c_X12_operand_2 l dC dI g c adK adV v21637 F21638 rc H.size  d hg hI (by have h9 : v21637 38 = v 38 := hf21639 38 (by decide); (try rw [h9]); clear h9; have h9 : v21637 39 = v21637 39 := rfl; (try rw [h9]); clear h9; have h9 : v21637 30 = v 30 := hf21639 30 (by decide); (try rw [h9]); clear h9; have h9 : v21637 40 = v21637 40 := rfl; (try rw [h9]); clear h9; have h9 : v21637 41 = v21637 41 := rfl; (try rw [h9]); clear h9; omega) (by have h9 : v21637 37 = (v 37) := hf21639 37 (by decide); have h8 : v21637 38 = (v 38) := hf21639 38 (by decide); (try rw [h9]); (try rw [h8]); exact hd (by omega))) (cwV 0 hwd (gV wk_1030 wk_1035 wk_1036 wk_1037 wk_5) rfl rfl rfl (by decide +kernel) ⟨Nat.le_of_ble_eq_true rfl, Nat.le_of_ble_eq_true rfl⟩) ⟨PM.blind, va_recv hK hP (ci := 12) (q0 := 0) rfl rfl, fun U hU hW => ⟨rfl, PM.at hK hE hP hS hU hW⟩⟩ rfl rfl hl.1 rfl (lv_room (Nat.le_of_ble_eq_true rfl)) dX12_operand_49 ⟨Nat.le_of_ble_eq_true rfl, Nat.le_of_ble_eq_true rfl⟩) hS (fun q _ h => (freeM hS) q h) (freeM hS) (fun u t H1 locs ht hvm hw hB hz1 hk1 hS => ?_)
        unfold BM at hB
        rw [ht] at hB
        obtain ⟨v21651, F21652, rc9⟩ := u
        obtain ⟨hI, hrc, hf21653, hG21654, hw⟩ := hw
        dsimp only at hI hrc hB hf21653 hG21654 hw
        have hF := frCF (by decide) hG21654 hF
        rw [hrc] at hB
        have hP : va_P (dC, dI) classes (wM g c v21651 F21652 rc) H1 := hB
        have hw : ((v21637 39).toInt ≤ (v21651 39).toInt ∧ (v21651 39).toInt ≤ (v21637 30).toInt ∧ (v21637 38).toInt ≤ (v21651 38).toInt ∧ (v21651 38).toInt - (v21637 38).toInt ≤ (v21651 39).toInt - (v21637 39).toInt ∧ (v21637 41).toInt ≤ (v21651 41).toInt ∧ ((v21651 40).toInt < 0 → (v21651 41).toInt = (v21637 41).toInt)) ∧ keepL (v21637 37) (F21638 28) (F21638 29) (F21652 28) (F21652 29) ∧ ((v21651 40).toInt < 0 → dp (F21652 28) (F21652 29) (bI (v21637 37)) (v21651 38).toInt.toNat = some (d + 1)) := hw
        rw [show v21637 30 = v 30 from hf21639 30 (by decide)] at hw
        rw [show v21637 38 = v 38 from hf21639 38 (by decide)] at hw
        rw [show v21637 37 = v 37 from hf21639 37 (by decide)] at hw
        have hw_r21650 := hw
        have t21655 : 0 ≤ (v21651 38).toInt ∧ (v21651 38).toInt ≤ 120 := hI.1 38 _ _ rfl
        have t21656 : 0 ≤ (v21651 39).toInt ∧ (v21651 39).toInt ≤ 120 := hI.1 39 _ _ rfl
        have t21657 : 0 ≤ (v21651 41).toInt ∧ (v21651 41).toInt ≤ 8 := hI.1 41 _ _ rfl
        generalize H1 = H at hP hS ⊢
        have hk := hk.tr hw_r21650.2.1
        have hd := hw_r21650.2.2
        refine lv_aload_n hx hb dX12_operand_52 rfl (lv_at hl 1 rfl) ?_
        refine lv_iconst (v := 3) hx hb dX12_operand_53 (by decide) ?_
        refine lv_iconst (v := 0) hx hb dX12_operand_54 (by decide) ?_
        have t21658 : 0 ≤ (v 37).toInt ∧ (v 37).toInt ≤ 9 := by have h9 := hI.1 37 _ _ rfl; rw [show v21651 37 = v 37 from (hf21653 37 (by decide)).trans (hf21639 37 (by decide))] at h9; exact h9
        have t21659 : 0 ≤ (v21651 38).toInt ∧ (v21651 38).toInt ≤ 120 := hI.1 38 _ _ rfl
        refine va_callv (va_runV (As := [.int 3, .int 0]) (rest := []) ⟨hx, hb, hml, hown, hwd⟩ (c_X12_lay l dC dI g c adK adV v21651 F21652 rc H.size 3 0 hg hI (by have h9 : v21651 38 = v21651 38 := rfl; rw [h9]; omega)) (cwV 2 hwd (gV wk_1021 wk_1018 wk_1019 wk_1020 wk_5) rfl rfl rfl (by decide +kernel) ⟨Nat.le_of_ble_eq_true rfl, Nat.le_of_ble_eq_true rfl⟩) ⟨PM.blind, va_recv hK hP (ci := 12) (q0 := 0) rfl rfl, fun U hU hW => ⟨rfl, PM.at hK hE hP hS hU hW⟩⟩ rfl rfl hl.1 rfl (lv_room (Nat.le_of_ble_eq_true rfl)) dX12_operand_55 ⟨Nat.le_of_ble_eq_true rfl, Nat.le_of_ble_eq_true rfl⟩) hS (fun q _ h => (freeM hS) q h) (freeM hS) (fun u t H1 locs ht hvm hw hB hz1 hk1 hS => ?_)
        unfold BM at hB
        rw [ht] at hB
        obtain ⟨v21661, F21662, rc9⟩ := u
        obtain ⟨hI, hrc, hf21663, hG21664, hw⟩ := hw
        dsimp only at hI hrc hB hf21663 hG21664 hw
        have hF := frCF (by decide) hG21664 hF
        rw [hrc] at hB
        have hP : va_P (dC, dI) classes (wM g c v21661 F21662 rc) H1 := hB
        have hw : (v21661 38).toInt = (v21651 38).toInt + 1 ∧ keepL (v21651 37) (F21652 28) (F21652 29) (F21662 28) (F21662 29) ∧ dp (F21662 28) (F21662 29) (bI (v21651 37)) ((v21651 38).toInt.toNat + 1) = dpS (dp (F21652 28) (F21652 29) (bI (v21651 37)) (v21651 38).toInt.toNat) (3 : Int32) (0 : Int32) := hw
        rw [show v21651 37 = v 37 from (hf21653 37 (by decide)).trans (hf21639 37 (by decide))] at hw
        have hw_r21660 := hw
        have t21665 : 0 ≤ (v21661 38).toInt ∧ (v21661 38).toInt ≤ 120 := hI.1 38 _ _ rfl
        have k21666 : (3 : Int32).toInt = 3 := by decide
        have k21667 : (0 : Int32).toInt = 0 := by decide
        generalize H1 = H at hP hS ⊢
        have hk := hk.tr hw_r21660.2.1
        have hd : (v21651 40).toInt < 0 → dp (F21662 28) (F21662 29) (bI (v 37)) (v21661 38).toInt.toNat = some (d + 1) := fun hf => (by have e9 : (v21661 38).toInt.toNat = (v21651 38).toInt.toNat + 1 := (by omega); rw [e9, hw_r21660.2.2, hd hf]; exact dpS_3 (by decide) (by omega))
        refine lv_aload_n hx hb dX12_operand_58 rfl (lv_at hl 1 rfl) ?_
        refine lv_dup hx hb dX12_operand_59 rfl ?_
        refine va_get (D := (dC, dI)) (ci := 12) (v := .int (v21661 41)) (C := RX12) (T := TX12) (N := 63) hx hb hwd inA_X12 hown hK hP 0 rfl rfl 41 (by decide) (hwd _ wk_1006) (fun _ h9 => h9) rfl dX12_operand_60 ?_
        refine my_top (v := v21651 41) (hf21663 41 (by decide)) ?_
        have t21668 : 0 ≤ (v21651 41).toInt ∧ (v21651 41).toInt ≤ 8 := by have h9 := hI.1 41 _ _ rfl; rw [show v21661 41 = v21651 41 from hf21663 41 (by decide)] at h9; exact h9
        refine lv_iconst (v := 1) hx hb dX12_operand_63 (by decide) ?_
        refine lv_isub hx hb dX12_operand_64 ?_
        refine lv_topi (fun z21669 e21670 => ?_)
        try (have t21671 := tsub e21670 (a := (v21651 41).toInt) rfl (b := 1) (by decide) (by omega))
        refine va_put (D := (dC, dI)) (ci := 12) (v := .int z21669) (ty := .int) (C := RX12) (T := TX12) (N := 63) (fs := fsM_0 g v21661 rc) hx hb hwd inA_X12 tyX12 tyX12_ok nmX12 hown hK hP (DM hg) hS 0 rfl rfl 41 (by decide) (hwd _ wk_1006) (fun _ h9 => h9) rfl (by decide +kernel) rfl rfl (Nat.le_of_ble_eq_true rfl) dX12_operand_65 (fun H locs hP _ hS => ?_)
        have hP := va_P_eq (pM_41 g c _ _ _ _) hP
        have hI := IM.put hI 41 z21669 rfl (by omega)
        refine lv_goto (tgt := 150) hx hb dX12_operand_68 (by decide) ?_
        have hP9 : va_P (dC, dI) classes (wM g c (va_up v21661 41 z21669) F21662 rc) H := hP
        exact W.vret hx hb hr (fun t ht hW => ⟨⟨((va_up v21661 41 z21669), F21662, rc), rfl, ⟨hI, rfl, (frU (by decide) (frC (by decide) hf21663 (frC (by decide) hf21653 (frC (by decide) hf21639 (fun _ _ => rfl))))), hF, (by show ((v 39).toInt ≤ ((va_up v21661 41 z21669) 39).toInt ∧ ((va_up v21661 41 z21669) 39).toInt ≤ (v 30).toInt ∧ (v 38).toInt ≤ (v21661 38).toInt ∧ (v21661 38).toInt - (v 38).toInt ≤ ((va_up v21661 41 z21669) 39).toInt - (v 39).toInt ∧ (v 41).toInt ≤ z21669.toInt ∧ (((va_up v21661 41 z21669) 40).toInt < 0 → z21669.toInt = (v 41).toInt)) ∧ keepL (v 37) (F 28) (F 29) (F21662 28) (F21662 29) ∧ (((va_up v21661 41 z21669) 40).toInt < 0 → dp (F21662 28) (F21662 29) (bI (v 37)) (v21661 38).toInt.toNat = some (d + 1)); rw [show (va_up v21661 41 z21669) 39 = v21651 39 from hf21663 39 (by decide)]; rw [show (va_up v21661 41 z21669) 40 = v21651 40 from hf21663 40 (by decide)]; exact ⟨by omega, hk, fun hf => (hd (by omega)).trans (congrArg some (by omega))⟩)⟩, (by show va_P _ _ _ t.heap; rw [ht]; exact hP9)⟩, hS.F ht⟩) hS.2.2 dX12_operand_150
      · skip
        have t21672 := cv_eq (a := r21636.toInt) rfl (b := 0) (by decide) c21643
        have hP9 : va_P (dC, dI) classes (wM g c v21637 F21638 rc) H := hP
        exact W.vret hx hb hr (fun t ht hW => ⟨⟨(v21637, F21638, rc), rfl, ⟨hI, rfl, (frC (by decide) hf21639 (fun _ _ => rfl)), hF, (by show ((v 39).toInt ≤ (v21637 39).toInt ∧ (v21637 39).toInt ≤ (v 30).toInt ∧ (v 38).toInt ≤ (v21637 38).toInt ∧ (v21637 38).toInt - (v 38).toInt ≤ (v21637 39).toInt - (v 39).toInt ∧ (v 41).toInt ≤ (v21637 41).toInt ∧ ((v21637 40).toInt < 0 → (v21637 41).toInt = (v 41).toInt)) ∧ keepL (v 37) (F 28) (F 29) (F21638 28) (F21638 29) ∧ ((v21637 40).toInt < 0 → dp (F21638 28) (F21638 29) (bI (v 37)) (v21637 38).toInt.toNat = some (d + 1)); rw [show v21637 38 = v 38 from hf21639 38 (by decide)]; exact ⟨by omega, hk, fun hf => (hd (by omega)).trans (congrArg some (by omega))⟩)⟩, (by show va_P _ _ _ t.heap; rw [ht]; exact hP9)⟩, hS.F ht⟩) hS.2.2 dX12_operand_47
  · skip
    have t21673 := cv_nlt (a := r21558.toInt) rfl (b := 0) (by decide) c21559
    refine lv_aload_n hx hb dX12_operand_12 rfl (lv_at hl 1 rfl) ?_
    refine lv_iconst (v := 2) hx hb dX12_operand_13 (by decide) ?_
    refine lv_iload_n hx hb dX12_operand_14 rfl (lv_at hl 0 rfl) ?_
    refine va_calli (va_runS (As := [.int r21557]) (rest := [.int 2, .ref (g 0)]) ⟨hx, hb, hml, hown, hwd⟩ (c_X12_nameOf l dC dI g c adK adV v F rc H.size r21557 hg hI ) (va_cwS 1 hwd (gT wk_1034 wk_1032 wk_1033 wk_5) rfl rfl rfl (by decide +kernel) ⟨Nat.le_of_ble_eq_true rfl, Nat.le_of_ble_eq_true rfl⟩) ⟨PM.blind, fun U hU hW => ⟨rfl, PM.at hK hE hP hS hU hW⟩⟩ rfl rfl hl.1 rfl (lv_room (Nat.le_of_ble_eq_true rfl)) dX12_operand_15 ⟨Nat.le_of_ble_eq_true rfl, Nat.le_of_ble_eq_true rfl⟩) hS (fun q _ h => (freeM hS) q h) (freeM hS) (fun r21674 u t H1 locs ht hvm hw hB hz1 hk1 hS => ?_)
    unfold BM at hB
    rw [ht] at hB
    have hP : va_P (dC, dI) classes (wM g c v F rc) H1 := hB
    have hw : r21674.toInt = nmM r21557 ∧ (-1 ≤ r21674.toInt ∧ r21674.toInt ≤ 5) := hw
    have hw_r21674 := hw
    generalize H1 = H at hP hS ⊢
    have np_r21674 := nmM_pos r21557
    have t21675 : 0 ≤ (v 37).toInt ∧ (v 37).toInt ≤ 9 := hI.1 37 _ _ rfl
    have t21676 : 0 ≤ (v 38).toInt ∧ (v 38).toInt ≤ 120 := hI.1 38 _ _ rfl
    refine va_callv (va_runV (As := [.int 2, .int r21674]) (rest := []) ⟨hx, hb, hml, hown, hwd⟩ (c_X12_lay l dC dI g c adK adV v F rc H.size 2 r21674 hg hI (by have h9 : v 38 = v 38 := rfl; rw [h9]; omega)) (cwV 2 hwd (gV wk_1021 wk_1018 wk_1019 wk_1020 wk_5) rfl rfl rfl (by decide +kernel) ⟨Nat.le_of_ble_eq_true rfl, Nat.le_of_ble_eq_true rfl⟩) ⟨PM.blind, va_recv hK hP (ci := 12) (q0 := 0) rfl rfl, fun U hU hW => ⟨rfl, PM.at hK hE hP hS hU hW⟩⟩ rfl rfl hl.1 rfl (lv_room (Nat.le_of_ble_eq_true rfl)) dX12_operand_18 ⟨Nat.le_of_ble_eq_true rfl, Nat.le_of_ble_eq_true rfl⟩) hS (fun q _ h => (freeM hS) q h) (freeM hS) (fun u t H1 locs ht hvm hw hB hz1 hk1 hS => ?_)
    unfold BM at hB
    rw [ht] at hB
    obtain ⟨v21678, F21679, rc9⟩ := u
    obtain ⟨hI, hrc, hf21680, hG21681, hw⟩ := hw
    dsimp only at hI hrc hB hf21680 hG21681 hw
    have hF := frCF (by decide) hG21681 hF
    rw [hrc] at hB
    have hP : va_P (dC, dI) classes (wM g c v21678 F21679 rc) H1 := hB
    have hw : (v21678 38).toInt = (v 38).toInt + 1 ∧ keepL (v 37) (F 28) (F 29) (F21679 28) (F21679 29) ∧ dp (F21679 28) (F21679 29) (bI (v 37)) ((v 38).toInt.toNat + 1) = dpS (dp (F 28) (F 29) (bI (v 37)) (v 38).toInt.toNat) (2 : Int32) r21674 := hw
    have hw_r21677 := hw
    have t21682 : 0 ≤ (v21678 38).toInt ∧ (v21678 38).toInt ≤ 120 := hI.1 38 _ _ rfl
    have k21683 : (2 : Int32).toInt = 2 := by decide
    generalize H1 = H at hP hS ⊢
    have hk := hk.tr hw_r21677.2.1
    have hd : (v 40).toInt < 0 → dp (F21679 28) (F21679 29) (bI (v 37)) (v21678 38).toInt.toNat = some (d + 1) := fun hf => (by have e9 : (v21678 38).toInt.toNat = (v 38).toInt.toNat + 1 := (by omega); rw [e9, hw_r21677.2.2, hd hf]; exact dpS_2 (by decide) (by omega))
    refine lv_aload_n hx hb dX12_operand_21 rfl (lv_at hl 1 rfl) ?_
    refine lv_dup hx hb dX12_operand_22 rfl ?_
    refine va_get (D := (dC, dI)) (ci := 12) (v := .int (v21678 39)) (C := RX12) (T := TX12) (N := 63) hx hb hwd inA_X12 hown hK hP 0 rfl rfl 39 (by decide) (hwd _ wk_1004) (fun _ h9 => h9) rfl dX12_operand_23 ?_
    refine my_top (v := v 39) (hf21680 39 (by decide)) ?_
    have t21684 : 0 ≤ (v 39).toInt ∧ (v 39).toInt ≤ 120 := by have h9 := hI.1 39 _ _ rfl; rw [show v21678 39 = v 39 from hf21680 39 (by decide)] at h9; exact h9
    refine lv_iconst (v := 1) hx hb dX12_operand_26 (by decide) ?_
    refine lv_iadd hx hb dX12_operand_27 ?_
    refine lv_topi (fun z21685 e21686 => ?_)
    try (have t21687 := tadd e21686 (a := (v 39).toInt) rfl (b := 1) (by decide) (by omega))
    refine va_put (D := (dC, dI)) (ci := 12) (v := .int z21685) (ty := .int) (C := RX12) (T := TX12) (N := 63) (fs := fsM_0 g v21678 rc) hx hb hwd inA_X12 tyX12 tyX12_ok nmX12 hown hK hP (DM hg) hS 0 rfl rfl 39 (by decide) (hwd _ wk_1004) (fun _ h9 => h9) rfl (by decide +kernel) rfl rfl (Nat.le_of_ble_eq_true rfl) dX12_operand_28 (fun H locs hP _ hS => ?_)
    have hP := va_P_eq (pM_39 g c _ _ _ _) hP
    have hI := IM.put hI 39 z21685 rfl (by omega)
    refine lv_goto (tgt := 150) hx hb dX12_operand_31 (by decide) ?_
    have hP9 : va_P (dC, dI) classes (wM g c (va_up v21678 39 z21685) F21679 rc) H := hP
    exact W.vret hx hb hr (fun t ht hW => ⟨⟨((va_up v21678 39 z21685), F21679, rc), rfl, ⟨hI, rfl, (frU (by decide) (frC (by decide) hf21680 (fun _ _ => rfl))), hF, (by show ((v 39).toInt ≤ z21685.toInt ∧ z21685.toInt ≤ (v 30).toInt ∧ (v 38).toInt ≤ (v21678 38).toInt ∧ (v21678 38).toInt - (v 38).toInt ≤ z21685.toInt - (v 39).toInt ∧ (v 41).toInt ≤ ((va_up v21678 39 z21685) 41).toInt ∧ (((va_up v21678 39 z21685) 40).toInt < 0 → ((va_up v21678 39 z21685) 41).toInt = (v 41).toInt)) ∧ keepL (v 37) (F 28) (F 29) (F21679 28) (F21679 29) ∧ (((va_up v21678 39 z21685) 40).toInt < 0 → dp (F21679 28) (F21679 29) (bI (v 37)) (v21678 38).toInt.toNat = some (d + 1)); rw [show (va_up v21678 39 z21685) 41 = v 41 from hf21680 41 (by decide)]; rw [show (va_up v21678 39 z21685) 40 = v 40 from hf21680 40 (by decide)]; exact ⟨by omega, hk, fun hf => (hd (by omega)).trans (congrArg some (by omega))⟩)⟩, (by show va_P _ _ _ t.heap; rw [ht]; exact hP9)⟩, hS.F ht⟩) hS.2.2 dX12_operand_150
set_option maxHeartbeats 8000000 in
set_option maxRecDepth 100000 in
theorem c_X12_product_1 (l : Launch) (dC : Nat → ClassId) (dI : Nat → Nat → Nat) (g : Nat → Nat) (c : Nat → ClassId) (adK adV : Nat → Nat) (v : Nat → Int32) (F : Nat → Nat → Int32) (rc sz : Nat) (d : Nat) (hg : injM g) (hI : IM v F) (hq : (v 38).toInt ≤ (v 39).toInt ∧ (v 39).toInt ≤ (v 30).toInt ∧ (v 40).toInt < 0 ∧ (v 41).toInt = 1) (hdp : dp (F 28) (F 29) (bI (v 37)) (v 38).toInt.toNat = some d) : Met l yX12_product (Cond.code yX12_product cX12_product 2 none :: wA) ({ frames := 32, cells := 0, slots := 0, locals := 1280 }) (va_Pc [.ref (g 0)] (PM dC dI g c adK adV v F rc sz)) (va_Qv (fun (u : StM) => IM u.1 u.2.1 ∧ u.2.2 = rc ∧ (∀ k, k ∉ ([38, 39, 40, 41, 42] : List Nat) → u.1 k = v k) ∧ (∀ k, k ∉ ([28, 29] : List Nat) → u.2.1 k = F k) ∧ (((v 39).toInt ≤ (u.1 39).toInt ∧ (u.1 39).toInt ≤ (v 30).toInt ∧ (v 38).toInt ≤ (u.1 38).toInt ∧ (u.1 38).toInt - (v 38).toInt ≤ (u.1 39).toInt - (v 39).toInt ∧ (v 41).toInt ≤ (u.1 41).toInt ∧ ((u.1 40).toInt < 0 → (u.1 41).toInt = (v 41).toInt)) ∧ keepL (v 37) (F 28) (F 29) (u.2.1 28) (u.2.1 29) ∧ ((u.1 40).toInt < 0 → dp (u.2.1 28) (u.2.1 29) (bI (v 37)) (u.1 38).toInt.toNat = some (d + 1)))) (BM dC dI g c) (AM g sz)) 0 0 (AM g sz) := by
  refine Met.ofW (cc := cX12_product) (maxL := 2) (ret := none) (by decide) rfl ?_
  intro p e s m args below meth c0 s₁ B hml hv
  obtain ⟨rfl, hsz, hP, hK, hE⟩ := hv
  have hx := B.exec
  have hb := B.bytes
  have hr := B.returns
  have hts := atoms_spec (ws := Cond.code yX12_product cX12_product 2 none :: wA) B.pre
  have hwd : ∀ w ∈ wA, w.before _ s = true := fun w h => hts w (List.mem_cons_of_mem _ h)
  have hown : s.vm.findClass RX12 = some m.cls := findClass_of_methodNamed B.named
  have hlocks := B.notSynchronized
  subst hsz
  have hl := lv_entry ([.ref (g 0)]) (n := 2) (Nat.le_of_ble_eq_true rfl)
  rw [lg_entry_eq]
  generalize (lg_sl ([.ref (g 0)]) ++ List.replicate (2 - (lg_sl ([.ref (g 0)])).length) Slot.unset).toArray = ls at hl ⊢
  have hl : lv_has ls 2 [(0, .ref (g 0))] := hl
  obtain ⟨H, eH⟩ : ∃ z, z = s.heap := ⟨_, rfl⟩
  have hP : va_P (dC, dI) classes (wM g c v F rc) H := by rw [eH]; exact hP
  have hS : va_S (AM g s.heap.size) s.heap H [] := by rw [eH]; exact va_S.rf
  refine my_heap eH ?_
  have hF : ∀ k, k ∉ ([28, 29] : List Nat) → F k = F k := fun _ _ => rfl
  have hb30 : 0 ≤ (v 30).toInt ∧ (v 30).toInt ≤ 120 := hI.1 30 _ _ rfl
  have hb37 : 0 ≤ (v 37).toInt ∧ (v 37).toInt ≤ 9 := hI.1 37 _ _ rfl
  have hb38 : 0 ≤ (v 38).toInt ∧ (v 38).toInt ≤ 120 := hI.1 38 _ _ rfl
  have hb39 : 0 ≤ (v 39).toInt ∧ (v 39).toInt ≤ 120 := hI.1 39 _ _ rfl
  have hb41 : 0 ≤ (v 41).toInt ∧ (v 41).toInt ≤ 8 := hI.1 41 _ _ rfl
  have hk : keepL (v 37) (F 28) (F 29) (F 28) (F 29) := keepL.rf
  have hd : (v 40).toInt < 0 → dp (F 28) (F 29) (bI (v 37)) (v 38).toInt.toNat = some d := fun _ => hdp
  refine lv_aload_n hx hb dX12_product_0 rfl (lv_at hl 0 rfl) ?_
  have t21778 : 0 ≤ (v 30).toInt ∧ (v 30).toInt ≤ 120 := hI.1 30 _ _ rfl
  have t21779 : 0 ≤ (v 37).toInt ∧ (v 37).toInt ≤ 9 := hI.1 37 _ _ rfl
  have t21780 : 0 ≤ (v 38).toInt ∧ (v 38).toInt ≤ 120 := hI.1 38 _ _ rfl
  have t21781 : 0 ≤ (v 39).toInt ∧ (v 39).toInt ≤ 120 := hI.1 39 _ _ rfl
  have t21782 : 0 ≤ (v 41).toInt ∧ (v 41).toInt ≤ 8 := hI.1 41 _ _ rfl
  refine va_callv (va_runV (As := []) (rest := []) ⟨hx, hb, hml, hown, hwd⟩ (c_X12_operand_1 l dC dI g c adK adV v F rc H.size  d hg hI (by have h9 : v 38 = v 38 := rfl; (try rw [h9]); clear h9; have h9 : v 39 = v 39 := rfl; (try rw [h9]); clear h9; have h9 : v 30 = v 30 := rfl; (try rw [h9]); clear h9; have h9 : v 40 = v 40 := rfl; (try rw [h9]); clear h9; have h9 : v 41 = v 41 := rfl; (try rw [h9]); clear h9; omega) (by have h9 : v 37 = (v 37) := rfl; have h8 : v 38 = (v 38) := rfl; (try rw [h9]); (try rw [h8]); exact hd (by omega))) (cwV 0 hwd (gV wk_1030 wk_1035 wk_1036 wk_1037 wk_5) rfl rfl rfl (by decide +kernel) ⟨Nat.le_of_ble_eq_true rfl, Nat.le_of_ble_eq_true rfl⟩) ⟨PM.blind, va_recv hK hP (ci := 12) (q0 := 0) rfl rfl, fun U hU hW => ⟨rfl, PM.at hK hE hP hS hU hW⟩⟩ rfl rfl hl.1 rfl (lv_room (Nat.le_of_ble_eq_true rfl)) dX12_product_1 ⟨Nat.le_of_ble_eq_true rfl, Nat.le_of_ble_eq_true rfl⟩) hS (fun q _ h => (freeM hS) q h) (freeM hS) (fun u t H1 locs ht hvm hw hB hz1 hk1 hS => ?_)
  unfold BM at hB
  rw [ht] at hB
  obtain ⟨v21784, F21785, rc9⟩ := u
  obtain ⟨hI, hrc, hf21786, hG21787, hw⟩ := hw
  dsimp only at hI hrc hB hf21786 hG21787 hw
  have hF := frCF (by decide) hG21787 hF
  rw [hrc] at hB
  have hP : va_P (dC, dI) classes (wM g c v21784 F21785 rc) H1 := hB
  have hw : ((v 39).toInt ≤ (v21784 39).toInt ∧ (v21784 39).toInt ≤ (v 30).toInt ∧ (v 38).toInt ≤ (v21784 38).toInt ∧ (v21784 38).toInt - (v 38).toInt ≤ (v21784 39).toInt - (v 39).toInt ∧ (v 41).toInt ≤ (v21784 41).toInt ∧ ((v21784 40).toInt < 0 → (v21784 41).toInt = (v 41).toInt)) ∧ keepL (v 37) (F 28) (F 29) (F21785 28) (F21785 29) ∧ ((v21784 40).toInt < 0 → dp (F21785 28) (F21785 29) (bI (v 37)) (v21784 38).toInt.toNat = some (d + 1)) := hw
  have hw_r21783 := hw
  have t21788 : 0 ≤ (v21784 38).toInt ∧ (v21784 38).toInt ≤ 120 := hI.1 38 _ _ rfl
  have t21789 : 0 ≤ (v21784 39).toInt ∧ (v21784 39).toInt ≤ 120 := hI.1 39 _ _ rfl
  have t21790 : 0 ≤ (v21784 41).toInt ∧ (v21784 41).toInt ≤ 8 := hI.1 41 _ _ rfl
  generalize H1 = H at hP hS ⊢
  have hk := hk.tr hw_r21783.2.1
  have hd := hw_r21783.2.2
  have lp21791 : ∀ (n : Nat) (v_lp21791 : Nat → Int32) (F_lp21791 : Nat → Nat → Int32) (H : Heap) (locs : List Loc) (ls : Array Slot), ((v 39).toInt ≤ (v_lp21791 39).toInt ∧ (v_lp21791 39).toInt ≤ (v 30).toInt ∧ (v 38).toInt ≤ (v_lp21791 38).toInt ∧ (v_lp21791 38).toInt - (v 38).toInt ≤ (v_lp21791 39).toInt - (v 39).toInt ∧ (v 41).toInt ≤ (v_lp21791 41).toInt ∧ ((v_lp21791 40).toInt < 0 → (v_lp21791 41).toInt = (v 41).toInt)) → (keepL (v 37) (F 28) (F 29) (F_lp21791 28) (F_lp21791 29)) → (((v_lp21791 40).toInt < 0 → dp (F_lp21791 28) (F_lp21791 29) (bI (v 37)) (v_lp21791 38).toInt.toNat = some (d + 1))) → (121 - (v_lp21791 39).toInt ≤ (n : Int)) → (∀ k, k ∉ ([38, 39, 40, 41, 42] : List Nat) → v_lp21791 k = v21784 k) → IM v_lp21791 F_lp21791 → (∀ k, k ∉ ([28, 29] : List Nat) → F_lp21791 k = F k) → va_P (dC, dI) classes (wM g c v_lp21791 F_lp21791 rc) H → va_S (AM g s.heap.size) s.heap H locs → lv_has ls 2 [(0, .ref (g 0))] → W p l e (headSpec (Cond.code yX12_product cX12_product 2 none :: wA) ({ frames := 32, cells := 0, slots := 0, locals := 1280 })).room s m ([.ref (g 0)] : List Value).toArray below meth c0 H locs 0 0 (MQ below (va_Qv (fun (u : StM) => IM u.1 u.2.1 ∧ u.2.2 = rc ∧ (∀ k, k ∉ ([38, 39, 40, 41, 42] : List Nat) → u.1 k = v k) ∧ (∀ k, k ∉ ([28, 29] : List Nat) → u.2.1 k = F k) ∧ (((v 39).toInt ≤ (u.1 39).toInt ∧ (u.1 39).toInt ≤ (v 30).toInt ∧ (v 38).toInt ≤ (u.1 38).toInt ∧ (u.1 38).toInt - (v 38).toInt ≤ (u.1 39).toInt - (v 39).toInt ∧ (v 41).toInt ≤ (u.1 41).toInt ∧ ((u.1 40).toInt < 0 → (u.1 41).toInt = (v 41).toInt)) ∧ keepL (v 37) (F 28) (F 29) (u.2.1 28) (u.2.1 29) ∧ ((u.1 40).toInt < 0 → dp (u.2.1 28) (u.2.1 29) (bI (v 37)) (u.1 38).toInt.toNat = some (d + 1)))) (BM dC dI g c) (AM g s.heap.size)) ([.ref (g 0)] : List Value).toArray s 0 0 (AM g s.heap.size)) (F0 m 4 ls []) := by
    intro n
    induction n with
    | zero =>
      intro v_lp21791 F_lp21791 H locs ls t21792 t21793 t21794 hm hf_lp21791 hI hF hP hS hl
      exfalso
      have hI1 := hI.1
      omega
    | succ n ih_lp21791 =>
      intro v_lp21791 F_lp21791 H locs ls t21792 t21793 t21794 hm hf_lp21791 hI hF hP hS hl
      have hk := t21793
      have hd := t21794
      refine lv_aload_n hx hb dX12_product_4 rfl (lv_at hl 0 rfl) ?_
      refine va_get (D := (dC, dI)) (ci := 12) (v := .int (v_lp21791 40)) (C := RX12) (T := TX12) (N := 63) hx hb hwd inA_X12 hown hK hP 0 rfl rfl 40 (by decide) (hwd _ wk_1005) (fun _ h9 => h9) rfl dX12_product_5 ?_
      refine lv_if_ge (tgt := 57) hx hb dX12_product_8 (by decide) (fun c21795 => ?_) (fun c21795 => ?_)
      · skip
        have t21796 := cv_le (a := 0) (by decide) (b := (v_lp21791 40).toInt) rfl c21795
        have hP9 : va_P (dC, dI) classes (wM g c v_lp21791 F_lp21791 rc) H := hP
        exact W.vret hx hb hr (fun t ht hW => ⟨⟨(v_lp21791, F_lp21791, rc), rfl, ⟨hI, rfl, (frC (by decide) hf_lp21791 (frC (by decide) hf21786 (fun _ _ => rfl))), hF, (by show ((v 39).toInt ≤ (v_lp21791 39).toInt ∧ (v_lp21791 39).toInt ≤ (v 30).toInt ∧ (v 38).toInt ≤ (v_lp21791 38).toInt ∧ (v_lp21791 38).toInt - (v 38).toInt ≤ (v_lp21791 39).toInt - (v 39).toInt ∧ (v 41).toInt ≤ (v_lp21791 41).toInt ∧ ((v_lp21791 40).toInt < 0 → (v_lp21791 41).toInt = (v 41).toInt)) ∧ keepL (v 37) (F 28) (F 29) (F_lp21791 28) (F_lp21791 29) ∧ ((v_lp21791 40).toInt < 0 → dp (F_lp21791 28) (F_lp21791 29) (bI (v 37)) (v_lp21791 38).toInt.toNat = some (d + 1)); exact ⟨by omega, hk, fun hf => (hd (by omega)).trans (congrArg some (by omega))⟩)⟩, (by show va_P _ _ _ t.heap; rw [ht]; exact hP9)⟩, hS.F ht⟩) hS.2.2 dX12_product_57
      · skip
        have t21797 := cv_nle (a := 0) (by decide) (b := (v_lp21791 40).toInt) rfl c21795
        refine lv_aload_n hx hb dX12_product_11 rfl (lv_at hl 0 rfl) ?_
        have t21798 : 0 ≤ (v 30).toInt ∧ (v 30).toInt ≤ 120 := by have h9 := hI.1 30 _ _ rfl; rw [show v_lp21791 30 = v 30 from (hf_lp21791 30 (by decide)).trans (hf21786 30 (by decide))] at h9; exact h9
        have t21799 : 0 ≤ (v_lp21791 39).toInt ∧ (v_lp21791 39).toInt ≤ 120 := hI.1 39 _ _ rfl
        refine va_calli (va_runV (As := []) (rest := []) ⟨hx, hb, hml, hown, hwd⟩ (c_X12_look l dC dI g c adK adV v_lp21791 F_lp21791 rc H.size  hg hI ) (cwV 0 hwd (gV wk_1017 wk_1014 wk_1015 wk_1016 wk_5) rfl rfl rfl (by decide +kernel) ⟨Nat.le_of_ble_eq_true rfl, Nat.le_of_ble_eq_true rfl⟩) ⟨PM.blind, va_recv hK hP (ci := 12) (q0 := 0) rfl rfl, fun U hU hW => ⟨rfl, PM.at hK hE hP hS hU hW⟩⟩ rfl rfl hl.1 rfl (lv_room (Nat.le_of_ble_eq_true rfl)) dX12_product_12 ⟨Nat.le_of_ble_eq_true rfl, Nat.le_of_ble_eq_true rfl⟩) hS (fun q _ h => (freeM hS) q h) (freeM hS) (fun r21800 u t H1 locs ht hvm hw hB hz1 hk1 hS => ?_)
        unfold BM at hB
        rw [ht] at hB
        have hP : va_P (dC, dI) classes (wM g c v_lp21791 F_lp21791 rc) H1 := hB
        have hw : r21800.toInt = lkM (v_lp21791 39) (v_lp21791 30) (F_lp21791 24) ∧ ((v_lp21791 39).toInt < (v_lp21791 30).toInt ∨ r21800.toInt = -1) := hw
        rw [show v_lp21791 30 = v 30 from (hf_lp21791 30 (by decide)).trans (hf21786 30 (by decide))] at hw
        rw [hF 24 (by decide)] at hw
        have hw_r21800 := hw
        generalize H1 = H at hP hS ⊢
        refine lv_bipush (v := 42) hx hb dX12_product_15 (by decide) ?_
        refine lv_icmp_eq (tgt := 29) hx hb dX12_product_17 (by decide) (fun c21801 => ?_) (fun c21801 => ?_)
        · skip
          have t21802 := cv_eq (a := r21800.toInt) rfl (b := 42) (by decide) c21801
          refine lv_aload_n hx hb dX12_product_29 rfl (lv_at hl 0 rfl) ?_
          have t21803 : 0 ≤ (v 30).toInt ∧ (v 30).toInt ≤ 120 := by have h9 := hI.1 30 _ _ rfl; rw [show v_lp21791 30 = v 30 from (hf_lp21791 30 (by decide)).trans (hf21786 30 (by decide))] at h9; exact h9
          have t21804 : 0 ≤ (v_lp21791 39).toInt ∧ (v_lp21791 39).toInt ≤ 120 := hI.1 39 _ _ rfl
          refine va_calli (va_runV (As := []) (rest := []) ⟨hx, hb, hml, hown, hwd⟩ (c_X12_look l dC dI g c adK adV v_lp21791 F_lp21791 rc H.size  hg hI ) (cwV 0 hwd (gV wk_1017 wk_1014 wk_1015 wk_1016 wk_5) rfl rfl rfl (by decide +kernel) ⟨Nat.le_of_ble_eq_true rfl, Nat.le_of_ble_eq_true rfl⟩) ⟨PM.blind, va_recv hK hP (ci := 12) (q0 := 0) rfl rfl, fun U hU hW => ⟨rfl, PM.at hK hE hP hS hU hW⟩⟩ rfl rfl hl.1 rfl (lv_room (Nat.le_of_ble_eq_true rfl)) dX12_product_30 ⟨Nat.le_of_ble_eq_true rfl, Nat.le_of_ble_eq_true rfl⟩) hS (fun q _ h => (freeM hS) q h) (freeM hS) (fun r21805 u t H1 locs ht hvm hw hB hz1 hk1 hS => ?_)
          unfold BM at hB
          rw [ht] at hB
          have hP : va_P (dC, dI) classes (wM g c v_lp21791 F_lp21791 rc) H1 := hB
          have hw : r21805.toInt = lkM (v_lp21791 39) (v_lp21791 30) (F_lp21791 24) ∧ ((v_lp21791 39).toInt < (v_lp21791 30).toInt ∨ r21805.toInt = -1) := hw
          rw [show v_lp21791 30 = v 30 from (hf_lp21791 30 (by decide)).trans (hf21786 30 (by decide))] at hw
          rw [hF 24 (by decide)] at hw
          have hw_r21805 := hw
          generalize H1 = H at hP hS ⊢
          refine lv_istore_n (lv' := [(1, .int r21805), (0, .ref (g 0))]) hx hb dX12_product_33 rfl hl (by decide) rfl (fun ls hl => ?_)
          refine lv_aload_n hx hb dX12_product_34 rfl (lv_at hl 1 rfl) ?_
          refine lv_dup hx hb dX12_product_35 rfl ?_
          refine va_get (D := (dC, dI)) (ci := 12) (v := .int (v_lp21791 39)) (C := RX12) (T := TX12) (N := 63) hx hb hwd inA_X12 hown hK hP 0 rfl rfl 39 (by decide) (hwd _ wk_1004) (fun _ h9 => h9) rfl dX12_product_36 ?_
          have t21806 : 0 ≤ (v_lp21791 39).toInt ∧ (v_lp21791 39).toInt ≤ 120 := hI.1 39 _ _ rfl
          refine lv_iconst (v := 1) hx hb dX12_product_39 (by decide) ?_
          refine lv_iadd hx hb dX12_product_40 ?_
          refine lv_topi (fun z21807 e21808 => ?_)
          try (have t21809 := tadd e21808 (a := (v_lp21791 39).toInt) rfl (b := 1) (by decide) (by omega))
          refine va_put (D := (dC, dI)) (ci := 12) (v := .int z21807) (ty := .int) (C := RX12) (T := TX12) (N := 63) (fs := fsM_0 g v_lp21791 rc) hx hb hwd inA_X12 tyX12 tyX12_ok nmX12 hown hK hP (DM hg) hS 0 rfl rfl 39 (by decide) (hwd _ wk_1004) (fun _ h9 => h9) rfl (by decide +kernel) rfl rfl (Nat.le_of_ble_eq_true rfl) dX12_product_41 (fun H locs hP _ hS => ?_)
          have hP := va_P_eq (pM_39 g c _ _ _ _) hP
          have hI := IM.put hI 39 z21807 rfl (by omega)
          refine lv_aload_n hx hb dX12_product_44 rfl (lv_at hl 1 rfl) ?_
          have t21810 : 0 ≤ (v 30).toInt ∧ (v 30).toInt ≤ 120 := by have h9 := hI.1 30 _ _ rfl; rw [show (va_up v_lp21791 39 z21807) 30 = v 30 from (hf_lp21791 30 (by decide)).trans (hf21786 30 (by decide))] at h9; exact h9
          have t21811 : 0 ≤ (v 37).toInt ∧ (v 37).toInt ≤ 9 := by have h9 := hI.1 37 _ _ rfl; rw [show (va_up v_lp21791 39 z21807) 37 = v 37 from (hf_lp21791 37 (by decide)).trans (hf21786 37 (by decide))] at h9; exact h9
          have t21812 : 0 ≤ (v_lp21791 38).toInt ∧ (v_lp21791 38).toInt ≤ 120 := hI.1 38 _ _ rfl
          have t21813 : 0 ≤ z21807.toInt ∧ z21807.toInt ≤ 120 := hI.1 39 _ _ rfl
          have t21814 : 0 ≤ (v_lp21791 41).toInt ∧ (v_lp21791 41).toInt ≤ 8 := hI.1 41 _ _ rfl
          refine va_callv (va_runV (As := []) (rest := []) ⟨hx, hb, hml, hown, hwd⟩ (c_X12_operand_1 l dC dI g c adK adV (va_up v_lp21791 39 z21807) F_lp21791 rc H.size  (d + 1) hg hI (by have h9 : (va_up v_lp21791 39 z21807) 38 = v_lp21791 38 := rfl; (try rw [h9]); clear h9; have h9 : (va_up v_lp21791 39 z21807) 39 = z21807 := rfl; (try rw [h9]); clear h9; have h9 : (va_up v_lp21791 39 z21807) 30 = v 30 := (hf_lp21791 30 (by decide)).trans (hf21786 30 (by decide)); (try rw [h9]); clear h9; have h9 : (va_up v_lp21791 39 z21807) 40 = v_lp21791 40 := rfl; (try rw [h9]); clear h9; have h9 : (va_up v_lp21791 39 z21807) 41 = v_lp21791 41 := rfl; (try rw [h9]); clear h9; omega) (by have h9 : (va_up v_lp21791 39 z21807) 37 = (v 37) := (hf_lp21791 37 (by decide)).trans (hf21786 37 (by decide)); have h8 : (va_up v_lp21791 39 z21807) 38 = (v_lp21791 38) := rfl; (try rw [h9]); (try rw [h8]); exact hd (by omega))) (cwV 0 hwd (gV wk_1030 wk_1035 wk_1036 wk_1037 wk_5) rfl rfl rfl (by decide +kernel) ⟨Nat.le_of_ble_eq_true rfl, Nat.le_of_ble_eq_true rfl⟩) ⟨PM.blind, va_recv hK hP (ci := 12) (q0 := 0) rfl rfl, fun U hU hW => ⟨rfl, PM.at hK hE hP hS hU hW⟩⟩ rfl rfl hl.1 rfl (lv_room (Nat.le_of_ble_eq_true rfl)) dX12_product_45 ⟨Nat.le_of_ble_eq_true rfl, Nat.le_of_ble_eq_true rfl⟩) hS (fun q _ h => (freeM hS) q h) (freeM hS) (fun u t H1 locs ht hvm hw hB hz1 hk1 hS => ?_)
          unfold BM at hB
          rw [ht] at hB
          obtain ⟨v21816, F21817, rc9⟩ := u
          obtain ⟨hI, hrc, hf21818, hG21819, hw⟩ := hw
          dsimp only at hI hrc hB hf21818 hG21819 hw
          have hF := frCF (by decide) hG21819 hF
          rw [hrc] at hB
          have hP : va_P (dC, dI) classes (wM g c v21816 F21817 rc) H1 := hB
          have hw : (z21807.toInt ≤ (v21816 39).toInt ∧ (v21816 39).toInt ≤ ((va_up v_lp21791 39 z21807) 30).toInt ∧ (v_lp21791 38).toInt ≤ (v21816 38).toInt ∧ (v21816 38).toInt - (v_lp21791 38).toInt ≤ (v21816 39).toInt - z21807.toInt ∧ (v_lp21791 41).toInt ≤ (v21816 41).toInt ∧ ((v21816 40).toInt < 0 → (v21816 41).toInt = (v_lp21791 41).toInt)) ∧ keepL ((va_up v_lp21791 39 z21807) 37) (F_lp21791 28) (F_lp21791 29) (F21817 28) (F21817 29) ∧ ((v21816 40).toInt < 0 → dp (F21817 28) (F21817 29) (bI ((va_up v_lp21791 39 z21807) 37)) (v21816 38).toInt.toNat = some ((d + 1) + 1)) := hw
          rw [show (va_up v_lp21791 39 z21807) 30 = v 30 from (hf_lp21791 30 (by decide)).trans (hf21786 30 (by decide))] at hw
          rw [show (va_up v_lp21791 39 z21807) 37 = v 37 from (hf_lp21791 37 (by decide)).trans (hf21786 37 (by decide))] at hw
          have hw_r21815 := hw
          have t21820 : 0 ≤ (v21816 38).toInt ∧ (v21816 38).toInt ≤ 120 := hI.1 38 _ _ rfl
          have t21821 : 0 ≤ (v21816 39).toInt ∧ (v21816 39).toInt ≤ 120 := hI.1 39 _ _ rfl
          have t21822 : 0 ≤ (v21816 41).toInt ∧ (v21816 41).toInt ≤ 8 := hI.1 41 _ _ rfl
          generalize H1 = H at hP hS ⊢
          have hk := hk.tr hw_r21815.2.1
          have hd := hw_r21815.2.2
          refine lv_aload_n hx hb dX12_product_48 rfl (lv_at hl 1 rfl) ?_
          refine lv_iload_n hx hb dX12_product_49 rfl (lv_at hl 0 rfl) ?_
          refine lv_iconst (v := 0) hx hb dX12_product_50 (by decide) ?_
          have t21823 : 0 ≤ (v 37).toInt ∧ (v 37).toInt ≤ 9 := by have h9 := hI.1 37 _ _ rfl; rw [show v21816 37 = v 37 from (hf21818 37 (by decide)).trans ((hf_lp21791 37 (by decide)).trans (hf21786 37 (by decide)))] at h9; exact h9
          have t21824 : 0 ≤ (v21816 38).toInt ∧ (v21816 38).toInt ≤ 120 := hI.1 38 _ _ rfl
          refine va_callv (va_runV (As := [.int r21805, .int 0]) (rest := []) ⟨hx, hb, hml, hown, hwd⟩ (c_X12_lay l dC dI g c adK adV v21816 F21817 rc H.size r21805 0 hg hI (by have h9 : v21816 38 = v21816 38 := rfl; rw [h9]; omega)) (cwV 2 hwd (gV wk_1021 wk_1018 wk_1019 wk_1020 wk_5) rfl rfl rfl (by decide +kernel) ⟨Nat.le_of_ble_eq_true rfl, Nat.le_of_ble_eq_true rfl⟩) ⟨PM.blind, va_recv hK hP (ci := 12) (q0 := 0) rfl rfl, fun U hU hW => ⟨rfl, PM.at hK hE hP hS hU hW⟩⟩ rfl rfl hl.1 rfl (lv_room (Nat.le_of_ble_eq_true rfl)) dX12_product_51 ⟨Nat.le_of_ble_eq_true rfl, Nat.le_of_ble_eq_true rfl⟩) hS (fun q _ h => (freeM hS) q h) (freeM hS) (fun u t H1 locs ht hvm hw hB hz1 hk1 hS => ?_)
          unfold BM at hB
          rw [ht] at hB
          obtain ⟨v21826, F21827, rc9⟩ := u
          obtain ⟨hI, hrc, hf21828, hG21829, hw⟩ := hw
          dsimp only at hI hrc hB hf21828 hG21829 hw
          have hF := frCF (by decide) hG21829 hF
          rw [hrc] at hB
          have hP : va_P (dC, dI) classes (wM g c v21826 F21827 rc) H1 := hB
          have hw : (v21826 38).toInt = (v21816 38).toInt + 1 ∧ keepL (v21816 37) (F21817 28) (F21817 29) (F21827 28) (F21827 29) ∧ dp (F21827 28) (F21827 29) (bI (v21816 37)) ((v21816 38).toInt.toNat + 1) = dpS (dp (F21817 28) (F21817 29) (bI (v21816 37)) (v21816 38).toInt.toNat) r21805 (0 : Int32) := hw
          rw [show v21816 37 = v 37 from (hf21818 37 (by decide)).trans ((hf_lp21791 37 (by decide)).trans (hf21786 37 (by decide)))] at hw
          have hw_r21825 := hw
          have t21830 : 0 ≤ (v21826 38).toInt ∧ (v21826 38).toInt ≤ 120 := hI.1 38 _ _ rfl
          have k21831 : (0 : Int32).toInt = 0 := by decide
          generalize H1 = H at hP hS ⊢
          have hk := hk.tr hw_r21825.2.1
          have hd : (v21816 40).toInt < 0 → dp (F21827 28) (F21827 29) (bI (v 37)) (v21826 38).toInt.toNat = some (((d + 1) + 1) - 1) := fun hf => (by have e9 : (v21826 38).toInt.toNat = (v21816 38).toInt.toNat + 1 := (by omega); rw [e9, hw_r21825.2.2, hd hf]; exact dpS_5 (by omega) (by omega) (by omega) (by omega) (by omega))
          refine lv_goto (tgt := 4) hx hb dX12_product_54 (by decide) ?_
          exact ih_lp21791  v21826 F21827 _ _ _ (by have h9 : v21826 39 = v21816 39 := hf21828 39 (by decide); (try rw [h9]); clear h9; have h9 : v21826 38 = v21826 38 := rfl; (try rw [h9]); clear h9; have h9 : v21826 41 = v21816 41 := hf21828 41 (by decide); (try rw [h9]); clear h9; have h9 : v21826 40 = v21816 40 := hf21828 40 (by decide); (try rw [h9]); clear h9; omega) hk (by have h9 : v21826 40 = v21816 40 := hf21828 40 (by decide); (try rw [h9]); clear h9; have h9 : v21826 38 = v21826 38 := rfl; (try rw [h9]); clear h9; exact fun hf => (hd (by omega)).trans (congrArg some (by omega))) (by have h9 : v21826 39 = v21816 39 := hf21828 39 (by decide); rw [h9]; omega) (frC (by decide) hf21828 (frC (by decide) hf21818 (frU (by decide) hf_lp21791))) hI hF hP hS (lv_sub hl [1] rfl)
        · skip
          have t21832 := cv_ne (a := r21800.toInt) rfl (b := 42) (by decide) c21801
          refine lv_aload_n hx hb dX12_product_20 rfl (lv_at hl 0 rfl) ?_
          have t21833 : 0 ≤ (v 30).toInt ∧ (v 30).toInt ≤ 120 := by have h9 := hI.1 30 _ _ rfl; rw [show v_lp21791 30 = v 30 from (hf_lp21791 30 (by decide)).trans (hf21786 30 (by decide))] at h9; exact h9
          have t21834 : 0 ≤ (v_lp21791 39).toInt ∧ (v_lp21791 39).toInt ≤ 120 := hI.1 39 _ _ rfl
          refine va_calli (va_runV (As := []) (rest := []) ⟨hx, hb, hml, hown, hwd⟩ (c_X12_look l dC dI g c adK adV v_lp21791 F_lp21791 rc H.size  hg hI ) (cwV 0 hwd (gV wk_1017 wk_1014 wk_1015 wk_1016 wk_5) rfl rfl rfl (by decide +kernel) ⟨Nat.le_of_ble_eq_true rfl, Nat.le_of_ble_eq_true rfl⟩) ⟨PM.blind, va_recv hK hP (ci := 12) (q0 := 0) rfl rfl, fun U hU hW => ⟨rfl, PM.at hK hE hP hS hU hW⟩⟩ rfl rfl hl.1 rfl (lv_room (Nat.le_of_ble_eq_true rfl)) dX12_product_21 ⟨Nat.le_of_ble_eq_true rfl, Nat.le_of_ble_eq_true rfl⟩) hS (fun q _ h => (freeM hS) q h) (freeM hS) (fun r21835 u t H1 locs ht hvm hw hB hz1 hk1 hS => ?_)
          unfold BM at hB
          rw [ht] at hB
          have hP : va_P (dC, dI) classes (wM g c v_lp21791 F_lp21791 rc) H1 := hB
          have hw : r21835.toInt = lkM (v_lp21791 39) (v_lp21791 30) (F_lp21791 24) ∧ ((v_lp21791 39).toInt < (v_lp21791 30).toInt ∨ r21835.toInt = -1) := hw
          rw [show v_lp21791 30 = v 30 from (hf_lp21791 30 (by decide)).trans (hf21786 30 (by decide))] at hw
          rw [hF 24 (by decide)] at hw
          have hw_r21835 := hw
          generalize H1 = H at hP hS ⊢
          refine lv_bipush (v := 47) hx hb dX12_product_24 (by decide) ?_
          refine lv_icmp_ne (tgt := 57) hx hb dX12_product_26 (by decide) (fun c21836 => ?_) (fun c21836 => ?_)
          · skip
            have t21837 := cv_ne (a := r21835.toInt) rfl (b := 47) (by decide) c21836
            have hP9 : va_P (dC, dI) classes (wM g c v_lp21791 F_lp21791 rc) H := hP
            exact W.vret hx hb hr (fun t ht hW => ⟨⟨(v_lp21791, F_lp21791, rc), rfl, ⟨hI, rfl, (frC (by decide) hf_lp21791 (frC (by decide) hf21786 (fun _ _ => rfl))), hF, (by show ((v 39).toInt ≤ (v_lp21791 39).toInt ∧ (v_lp21791 39).toInt ≤ (v 30).toInt ∧ (v 38).toInt ≤ (v_lp21791 38).toInt ∧ (v_lp21791 38).toInt - (v 38).toInt ≤ (v_lp21791 39).toInt - (v 39).toInt ∧ (v 41).toInt ≤ (v_lp21791 41).toInt ∧ ((v_lp21791 40).toInt < 0 → (v_lp21791 41).toInt = (v 41).toInt)) ∧ keepL (v 37) (F 28) (F 29) (F_lp21791 28) (F_lp21791 29) ∧ ((v_lp21791 40).toInt < 0 → dp (F_lp21791 28) (F_lp21791 29) (bI (v 37)) (v_lp21791 38).toInt.toNat = some (d + 1)); exact ⟨by omega, hk, fun hf => (hd (by omega)).trans (congrArg some (by omega))⟩)⟩, (by show va_P _ _ _ t.heap; rw [ht]; exact hP9)⟩, hS.F ht⟩) hS.2.2 dX12_product_57
          · skip
            have t21838 := cv_eq (a := r21835.toInt) rfl (b := 47) (by decide) c21836
            refine lv_aload_n hx hb dX12_product_29 rfl (lv_at hl 0 rfl) ?_
            have t21839 : 0 ≤ (v 30).toInt ∧ (v 30).toInt ≤ 120 := by have h9 := hI.1 30 _ _ rfl; rw [show v_lp21791 30 = v 30 from (hf_lp21791 30 (by decide)).trans (hf21786 30 (by decide))] at h9; exact h9
            have t21840 : 0 ≤ (v_lp21791 39).toInt ∧ (v_lp21791 39).toInt ≤ 120 := hI.1 39 _ _ rfl
            refine va_calli (va_runV (As := []) (rest := []) ⟨hx, hb, hml, hown, hwd⟩ (c_X12_look l dC dI g c adK adV v_lp21791 F_lp21791 rc H.size  hg hI ) (cwV 0 hwd (gV wk_1017 wk_1014 wk_1015 wk_1016 wk_5) rfl rfl rfl (by decide +kernel) ⟨Nat.le_of_ble_eq_true rfl, Nat.le_of_ble_eq_true rfl⟩) ⟨PM.blind, va_recv hK hP (ci := 12) (q0 := 0) rfl rfl, fun U hU hW => ⟨rfl, PM.at hK hE hP hS hU hW⟩⟩ rfl rfl hl.1 rfl (lv_room (Nat.le_of_ble_eq_true rfl)) dX12_product_30 ⟨Nat.le_of_ble_eq_true rfl, Nat.le_of_ble_eq_true rfl⟩) hS (fun q _ h => (freeM hS) q h) (freeM hS) (fun r21841 u t H1 locs ht hvm hw hB hz1 hk1 hS => ?_)
            unfold BM at hB
            rw [ht] at hB
            have hP : va_P (dC, dI) classes (wM g c v_lp21791 F_lp21791 rc) H1 := hB
            have hw : r21841.toInt = lkM (v_lp21791 39) (v_lp21791 30) (F_lp21791 24) ∧ ((v_lp21791 39).toInt < (v_lp21791 30).toInt ∨ r21841.toInt = -1) := hw
            rw [show v_lp21791 30 = v 30 from (hf_lp21791 30 (by decide)).trans (hf21786 30 (by decide))] at hw
            rw [hF 24 (by decide)] at hw
            have hw_r21841 := hw
            generalize H1 = H at hP hS ⊢
            refine lv_istore_n (lv' := [(1, .int r21841), (0, .ref (g 0))]) hx hb dX12_product_33 rfl hl (by decide) rfl (fun ls hl => ?_)
            refine lv_aload_n hx hb dX12_product_34 rfl (lv_at hl 1 rfl) ?_
            refine lv_dup hx hb dX12_product_35 rfl ?_
            refine va_get (D := (dC, dI)) (ci := 12) (v := .int (v_lp21791 39)) (C := RX12) (T := TX12) (N := 63) hx hb hwd inA_X12 hown hK hP 0 rfl rfl 39 (by decide) (hwd _ wk_1004) (fun _ h9 => h9) rfl dX12_product_36 ?_
            have t21842 : 0 ≤ (v_lp21791 39).toInt ∧ (v_lp21791 39).toInt ≤ 120 := hI.1 39 _ _ rfl
            refine lv_iconst (v := 1) hx hb dX12_product_39 (by decide) ?_
            refine lv_iadd hx hb dX12_product_40 ?_
            refine lv_topi (fun z21843 e21844 => ?_)
            try (have t21845 := tadd e21844 (a := (v_lp21791 39).toInt) rfl (b := 1) (by decide) (by omega))
            refine va_put (D := (dC, dI)) (ci := 12) (v := .int z21843) (ty := .int) (C := RX12) (T := TX12) (N := 63) (fs := fsM_0 g v_lp21791 rc) hx hb hwd inA_X12 tyX12 tyX12_ok nmX12 hown hK hP (DM hg) hS 0 rfl rfl 39 (by decide) (hwd _ wk_1004) (fun _ h9 => h9) rfl (by decide +kernel) rfl rfl (Nat.le_of_ble_eq_true rfl) dX12_product_41 (fun H locs hP _ hS => ?_)
            have hP := va_P_eq (pM_39 g c _ _ _ _) hP
            have hI := IM.put hI 39 z21843 rfl (by omega)
            refine lv_aload_n hx hb dX12_product_44 rfl (lv_at hl 1 rfl) ?_
            have t21846 : 0 ≤ (v 30).toInt ∧ (v 30).toInt ≤ 120 := by have h9 := hI.1 30 _ _ rfl; rw [show (va_up v_lp21791 39 z21843) 30 = v 30 from (hf_lp21791 30 (by decide)).trans (hf21786 30 (by decide))] at h9; exact h9
            have t21847 : 0 ≤ (v 37).toInt ∧ (v 37).toInt ≤ 9 := by have h9 := hI.1 37 _ _ rfl; rw [show (va_up v_lp21791 39 z21843) 37 = v 37 from (hf_lp21791 37 (by decide)).trans (hf21786 37 (by decide))] at h9; exact h9
            have t21848 : 0 ≤ (v_lp21791 38).toInt ∧ (v_lp21791 38).toInt ≤ 120 := hI.1 38 _ _ rfl
            have t21849 : 0 ≤ z21843.toInt ∧ z21843.toInt ≤ 120 := hI.1 39 _ _ rfl
            have t21850 : 0 ≤ (v_lp21791 41).toInt ∧ (v_lp21791 41).toInt ≤ 8 := hI.1 41 _ _ rfl
            refine va_callv (va_runV (As := []) (rest := []) ⟨hx, hb, hml, hown, hwd⟩ (c_X12_operand_1 l dC dI g c adK adV (va_up v_lp21791 39 z21843) F_lp21791 rc H.size  (d + 1) hg hI (by have h9 : (va_up v_lp21791 39 z21843) 38 = v_lp21791 38 := rfl; (try rw [h9]); clear h9; have h9 : (va_up v_lp21791 39 z21843) 39 = z21843 := rfl; (try rw [h9]); clear h9; have h9 : (va_up v_lp21791 39 z21843) 30 = v 30 := (hf_lp21791 30 (by decide)).trans (hf21786 30 (by decide)); (try rw [h9]); clear h9; have h9 : (va_up v_lp21791 39 z21843) 40 = v_lp21791 40 := rfl; (try rw [h9]); clear h9; have h9 : (va_up v_lp21791 39 z21843) 41 = v_lp21791 41 := rfl; (try rw [h9]); clear h9; omega) (by have h9 : (va_up v_lp21791 39 z21843) 37 = (v 37) := (hf_lp21791 37 (by decide)).trans (hf21786 37 (by decide)); have h8 : (va_up v_lp21791 39 z21843) 38 = (v_lp21791 38) := rfl; (try rw [h9]); (try rw [h8]); exact hd (by omega))) (cwV 0 hwd (gV wk_1030 wk_1035 wk_1036 wk_1037 wk_5) rfl rfl rfl (by decide +kernel) ⟨Nat.le_of_ble_eq_true rfl, Nat.le_of_ble_eq_true rfl⟩) ⟨PM.blind, va_recv hK hP (ci := 12) (q0 := 0) rfl rfl, fun U hU hW => ⟨rfl, PM.at hK hE hP hS hU hW⟩⟩ rfl rfl hl.1 rfl (lv_room (Nat.le_of_ble_eq_true rfl)) dX12_product_45 ⟨Nat.le_of_ble_eq_true rfl, Nat.le_of_ble_eq_true rfl⟩) hS (fun q _ h => (freeM hS) q h) (freeM hS) (fun u t H1 locs ht hvm hw hB hz1 hk1 hS => ?_)
            unfold BM at hB
            rw [ht] at hB
            obtain ⟨v21852, F21853, rc9⟩ := u
            obtain ⟨hI, hrc, hf21854, hG21855, hw⟩ := hw
            dsimp only at hI hrc hB hf21854 hG21855 hw
            have hF := frCF (by decide) hG21855 hF
            rw [hrc] at hB
            have hP : va_P (dC, dI) classes (wM g c v21852 F21853 rc) H1 := hB
            have hw : (z21843.toInt ≤ (v21852 39).toInt ∧ (v21852 39).toInt ≤ ((va_up v_lp21791 39 z21843) 30).toInt ∧ (v_lp21791 38).toInt ≤ (v21852 38).toInt ∧ (v21852 38).toInt - (v_lp21791 38).toInt ≤ (v21852 39).toInt - z21843.toInt ∧ (v_lp21791 41).toInt ≤ (v21852 41).toInt ∧ ((v21852 40).toInt < 0 → (v21852 41).toInt = (v_lp21791 41).toInt)) ∧ keepL ((va_up v_lp21791 39 z21843) 37) (F_lp21791 28) (F_lp21791 29) (F21853 28) (F21853 29) ∧ ((v21852 40).toInt < 0 → dp (F21853 28) (F21853 29) (bI ((va_up v_lp21791 39 z21843) 37)) (v21852 38).toInt.toNat = some ((d + 1) + 1)) := hw
            rw [show (va_up v_lp21791 39 z21843) 30 = v 30 from (hf_lp21791 30 (by decide)).trans (hf21786 30 (by decide))] at hw
            rw [show (va_up v_lp21791 39 z21843) 37 = v 37 from (hf_lp21791 37 (by decide)).trans (hf21786 37 (by decide))] at hw
            have hw_r21851 := hw
            have t21856 : 0 ≤ (v21852 38).toInt ∧ (v21852 38).toInt ≤ 120 := hI.1 38 _ _ rfl
            have t21857 : 0 ≤ (v21852 39).toInt ∧ (v21852 39).toInt ≤ 120 := hI.1 39 _ _ rfl
            have t21858 : 0 ≤ (v21852 41).toInt ∧ (v21852 41).toInt ≤ 8 := hI.1 41 _ _ rfl
            generalize H1 = H at hP hS ⊢
            have hk := hk.tr hw_r21851.2.1
            have hd := hw_r21851.2.2
            refine lv_aload_n hx hb dX12_product_48 rfl (lv_at hl 1 rfl) ?_
            refine lv_iload_n hx hb dX12_product_49 rfl (lv_at hl 0 rfl) ?_
            refine lv_iconst (v := 0) hx hb dX12_product_50 (by decide) ?_
            have t21859 : 0 ≤ (v 37).toInt ∧ (v 37).toInt ≤ 9 := by have h9 := hI.1 37 _ _ rfl; rw [show v21852 37 = v 37 from (hf21854 37 (by decide)).trans ((hf_lp21791 37 (by decide)).trans (hf21786 37 (by decide)))] at h9; exact h9
            have t21860 : 0 ≤ (v21852 38).toInt ∧ (v21852 38).toInt ≤ 120 := hI.1 38 _ _ rfl
            refine va_callv (va_runV (As := [.int r21841, .int 0]) (rest := []) ⟨hx, hb, hml, hown, hwd⟩ (c_X12_lay l dC dI g c adK adV v21852 F21853 rc H.size r21841 0 hg hI (by have h9 : v21852 38 = v21852 38 := rfl; rw [h9]; omega)) (cwV 2 hwd (gV wk_1021 wk_1018 wk_1019 wk_1020 wk_5) rfl rfl rfl (by decide +kernel) ⟨Nat.le_of_ble_eq_true rfl, Nat.le_of_ble_eq_true rfl⟩) ⟨PM.blind, va_recv hK hP (ci := 12) (q0 := 0) rfl rfl, fun U hU hW => ⟨rfl, PM.at hK hE hP hS hU hW⟩⟩ rfl rfl hl.1 rfl (lv_room (Nat.le_of_ble_eq_true rfl)) dX12_product_51 ⟨Nat.le_of_ble_eq_true rfl, Nat.le_of_ble_eq_true rfl⟩) hS (fun q _ h => (freeM hS) q h) (freeM hS) (fun u t H1 locs ht hvm hw hB hz1 hk1 hS => ?_)
            unfold BM at hB
            rw [ht] at hB
            obtain ⟨v21862, F21863, rc9⟩ := u
            obtain ⟨hI, hrc, hf21864, hG21865, hw⟩ := hw
            dsimp only at hI hrc hB hf21864 hG21865 hw
            have hF := frCF (by decide) hG21865 hF
            rw [hrc] at hB
            have hP : va_P (dC, dI) classes (wM g c v21862 F21863 rc) H1 := hB
            have hw : (v21862 38).toInt = (v21852 38).toInt + 1 ∧ keepL (v21852 37) (F21853 28) (F21853 29) (F21863 28) (F21863 29) ∧ dp (F21863 28) (F21863 29) (bI (v21852 37)) ((v21852 38).toInt.toNat + 1) = dpS (dp (F21853 28) (F21853 29) (bI (v21852 37)) (v21852 38).toInt.toNat) r21841 (0 : Int32) := hw
            rw [show v21852 37 = v 37 from (hf21854 37 (by decide)).trans ((hf_lp21791 37 (by decide)).trans (hf21786 37 (by decide)))] at hw
            have hw_r21861 := hw
            have t21866 : 0 ≤ (v21862 38).toInt ∧ (v21862 38).toInt ≤ 120 := hI.1 38 _ _ rfl
            have k21867 : (0 : Int32).toInt = 0 := by decide
            generalize H1 = H at hP hS ⊢
            have hk := hk.tr hw_r21861.2.1
            have hd : (v21852 40).toInt < 0 → dp (F21863 28) (F21863 29) (bI (v 37)) (v21862 38).toInt.toNat = some (((d + 1) + 1) - 1) := fun hf => (by have e9 : (v21862 38).toInt.toNat = (v21852 38).toInt.toNat + 1 := (by omega); rw [e9, hw_r21861.2.2, hd hf]; exact dpS_5 (by omega) (by omega) (by omega) (by omega) (by omega))
            refine lv_goto (tgt := 4) hx hb dX12_product_54 (by decide) ?_
            exact ih_lp21791  v21862 F21863 _ _ _ (by have h9 : v21862 39 = v21852 39 := hf21864 39 (by decide); (try rw [h9]); clear h9; have h9 : v21862 38 = v21862 38 := rfl; (try rw [h9]); clear h9; have h9 : v21862 41 = v21852 41 := hf21864 41 (by decide); (try rw [h9]); clear h9; have h9 : v21862 40 = v21852 40 := hf21864 40 (by decide); (try rw [h9]); clear h9; omega) hk (by have h9 : v21862 40 = v21852 40 := hf21864 40 (by decide); (try rw [h9]); clear h9; have h9 : v21862 38 = v21862 38 := rfl; (try rw [h9]); clear h9; exact fun hf => (hd (by omega)).trans (congrArg some (by omega))) (by have h9 : v21862 39 = v21852 39 := hf21864 39 (by decide); rw [h9]; omega) (frC (by decide) hf21864 (frC (by decide) hf21854 (frU (by decide) hf_lp21791))) hI hF hP hS (lv_sub hl [1] rfl)
  obtain ⟨n9, hn9⟩ : ∃ n : Nat, 121 - (v21784 39).toInt ≤ (n : Int) := ⟨((121 - (v21784 39).toInt : Int)).toNat, by omega⟩
  exact lp21791 n9  v21784 F21785 H _ ls (by have h9 : v21784 39 = v21784 39 := rfl; (try rw [h9]); clear h9; have h9 : v21784 38 = v21784 38 := rfl; (try rw [h9]); clear h9; have h9 : v21784 41 = v21784 41 := rfl; (try rw [h9]); clear h9; have h9 : v21784 40 = v21784 40 := rfl; (try rw [h9]); clear h9; omega) hk (by have h9 : v21784 40 = v21784 40 := rfl; (try rw [h9]); clear h9; have h9 : v21784 38 = v21784 38 := rfl; (try rw [h9]); clear h9; exact fun hf => (hd (by omega)).trans (congrArg some (by omega))) (by have h9 : v21784 39 = v21784 39 := rfl; rw [h9]; omega) (fun _ _ => rfl) hI hF hP hS hl
set_option maxHeartbeats 8000000 in
set_option maxRecDepth 100000 in
theorem c_X12_sum_1 (l : Launch) (dC : Nat → ClassId) (dI : Nat → Nat → Nat) (g : Nat → Nat) (c : Nat → ClassId) (adK adV : Nat → Nat) (v : Nat → Int32) (F : Nat → Nat → Int32) (rc sz : Nat) (d : Nat) (hg : injM g) (hI : IM v F) (hq : (v 38).toInt ≤ (v 39).toInt ∧ (v 39).toInt ≤ (v 30).toInt ∧ (v 40).toInt < 0 ∧ (v 41).toInt = 1) (hdp : dp (F 28) (F 29) (bI (v 37)) (v 38).toInt.toNat = some d) : Met l yX12_sum (Cond.code yX12_sum cX12_sum 2 none :: wA) ({ frames := 33, cells := 0, slots := 0, locals := 1320 }) (va_Pc [.ref (g 0)] (PM dC dI g c adK adV v F rc sz)) (va_Qv (fun (u : StM) => IM u.1 u.2.1 ∧ u.2.2 = rc ∧ (∀ k, k ∉ ([38, 39, 40, 41, 42] : List Nat) → u.1 k = v k) ∧ (∀ k, k ∉ ([28, 29] : List Nat) → u.2.1 k = F k) ∧ (((v 39).toInt ≤ (u.1 39).toInt ∧ (u.1 39).toInt ≤ (v 30).toInt ∧ (v 38).toInt ≤ (u.1 38).toInt ∧ (u.1 38).toInt - (v 38).toInt ≤ (u.1 39).toInt - (v 39).toInt ∧ (v 41).toInt ≤ (u.1 41).toInt ∧ ((u.1 40).toInt < 0 → (u.1 41).toInt = (v 41).toInt)) ∧ keepL (v 37) (F 28) (F 29) (u.2.1 28) (u.2.1 29) ∧ ((u.1 40).toInt < 0 → dp (u.2.1 28) (u.2.1 29) (bI (v 37)) (u.1 38).toInt.toNat = some (d + 1)))) (BM dC dI g c) (AM g sz)) 0 0 (AM g sz) := by
  refine Met.ofW (cc := cX12_sum) (maxL := 2) (ret := none) (by decide) rfl ?_
  intro p e s m args below meth c0 s₁ B hml hv
  obtain ⟨rfl, hsz, hP, hK, hE⟩ := hv
  have hx := B.exec
  have hb := B.bytes
  have hr := B.returns
  have hts := atoms_spec (ws := Cond.code yX12_sum cX12_sum 2 none :: wA) B.pre
  have hwd : ∀ w ∈ wA, w.before _ s = true := fun w h => hts w (List.mem_cons_of_mem _ h)
  have hown : s.vm.findClass RX12 = some m.cls := findClass_of_methodNamed B.named
  have hlocks := B.notSynchronized
  subst hsz
  have hl := lv_entry ([.ref (g 0)]) (n := 2) (Nat.le_of_ble_eq_true rfl)
  rw [lg_entry_eq]
  generalize (lg_sl ([.ref (g 0)]) ++ List.replicate (2 - (lg_sl ([.ref (g 0)])).length) Slot.unset).toArray = ls at hl ⊢
  have hl : lv_has ls 2 [(0, .ref (g 0))] := hl
  obtain ⟨H, eH⟩ : ∃ z, z = s.heap := ⟨_, rfl⟩
  have hP : va_P (dC, dI) classes (wM g c v F rc) H := by rw [eH]; exact hP
  have hS : va_S (AM g s.heap.size) s.heap H [] := by rw [eH]; exact va_S.rf
  refine my_heap eH ?_
  have hF : ∀ k, k ∉ ([28, 29] : List Nat) → F k = F k := fun _ _ => rfl
  have hb30 : 0 ≤ (v 30).toInt ∧ (v 30).toInt ≤ 120 := hI.1 30 _ _ rfl
  have hb37 : 0 ≤ (v 37).toInt ∧ (v 37).toInt ≤ 9 := hI.1 37 _ _ rfl
  have hb38 : 0 ≤ (v 38).toInt ∧ (v 38).toInt ≤ 120 := hI.1 38 _ _ rfl
  have hb39 : 0 ≤ (v 39).toInt ∧ (v 39).toInt ≤ 120 := hI.1 39 _ _ rfl
  have hb41 : 0 ≤ (v 41).toInt ∧ (v 41).toInt ≤ 8 := hI.1 41 _ _ rfl
  have hk : keepL (v 37) (F 28) (F 29) (F 28) (F 29) := keepL.rf
  have hd : (v 40).toInt < 0 → dp (F 28) (F 29) (bI (v 37)) (v 38).toInt.toNat = some d := fun _ => hdp
  refine lv_aload_n hx hb dX12_sum_0 rfl (lv_at hl 0 rfl) ?_
  have t21958 : 0 ≤ (v 30).toInt ∧ (v 30).toInt ≤ 120 := hI.1 30 _ _ rfl
  have t21959 : 0 ≤ (v 37).toInt ∧ (v 37).toInt ≤ 9 := hI.1 37 _ _ rfl
  have t21960 : 0 ≤ (v 38).toInt ∧ (v 38).toInt ≤ 120 := hI.1 38 _ _ rfl
  have t21961 : 0 ≤ (v 39).toInt ∧ (v 39).toInt ≤ 120 := hI.1 39 _ _ rfl
  have t21962 : 0 ≤ (v 41).toInt ∧ (v 41).toInt ≤ 8 := hI.1 41 _ _ rfl
  refine va_callv (va_runV (As := []) (rest := []) ⟨hx, hb, hml, hown, hwd⟩ (c_X12_product_1 l dC dI g c adK adV v F rc H.size  d hg hI (by have h9 : v 38 = v 38 := rfl; (try rw [h9]); clear h9; have h9 : v 39 = v 39 := rfl; (try rw [h9]); clear h9; have h9 : v 30 = v 30 := rfl; (try rw [h9]); clear h9; have h9 : v 40 = v 40 := rfl; (try rw [h9]); clear h9; have h9 : v 41 = v 41 := rfl; (try rw [h9]); clear h9; omega) (by have h9 : v 37 = (v 37) := rfl; have h8 : v 38 = (v 38) := rfl; (try rw [h9]); (try rw [h8]); exact hd (by omega))) (cwV 0 hwd (gV wk_1042 wk_1044 wk_1045 wk_1046 wk_5) rfl rfl rfl (by decide +kernel) ⟨Nat.le_of_ble_eq_true rfl, Nat.le_of_ble_eq_true rfl⟩) ⟨PM.blind, va_recv hK hP (ci := 12) (q0 := 0) rfl rfl, fun U hU hW => ⟨rfl, PM.at hK hE hP hS hU hW⟩⟩ rfl rfl hl.1 rfl (lv_room (Nat.le_of_ble_eq_true rfl)) dX12_sum_1 ⟨Nat.le_of_ble_eq_true rfl, Nat.le_of_ble_eq_true rfl⟩) hS (fun q _ h => (freeM hS) q h) (freeM hS) (fun u t H1 locs ht hvm hw hB hz1 hk1 hS => ?_)
  unfold BM at hB
  rw [ht] at hB
  obtain ⟨v21964, F21965, rc9⟩ := u
  obtain ⟨hI, hrc, hf21966, hG21967, hw⟩ := hw
  dsimp only at hI hrc hB hf21966 hG21967 hw
  have hF := frCF (by decide) hG21967 hF
  rw [hrc] at hB
  have hP : va_P (dC, dI) classes (wM g c v21964 F21965 rc) H1 := hB
  have hw : ((v 39).toInt ≤ (v21964 39).toInt ∧ (v21964 39).toInt ≤ (v 30).toInt ∧ (v 38).toInt ≤ (v21964 38).toInt ∧ (v21964 38).toInt - (v 38).toInt ≤ (v21964 39).toInt - (v 39).toInt ∧ (v 41).toInt ≤ (v21964 41).toInt ∧ ((v21964 40).toInt < 0 → (v21964 41).toInt = (v 41).toInt)) ∧ keepL (v 37) (F 28) (F 29) (F21965 28) (F21965 29) ∧ ((v21964 40).toInt < 0 → dp (F21965 28) (F21965 29) (bI (v 37)) (v21964 38).toInt.toNat = some (d + 1)) := hw
  have hw_r21963 := hw
  have t21968 : 0 ≤ (v21964 38).toInt ∧ (v21964 38).toInt ≤ 120 := hI.1 38 _ _ rfl
  have t21969 : 0 ≤ (v21964 39).toInt ∧ (v21964 39).toInt ≤ 120 := hI.1 39 _ _ rfl
  have t21970 : 0 ≤ (v21964 41).toInt ∧ (v21964 41).toInt ≤ 8 := hI.1 41 _ _ rfl
  generalize H1 = H at hP hS ⊢
  have hk := hk.tr hw_r21963.2.1
  have hd := hw_r21963.2.2
  have lp21971 : ∀ (n : Nat) (v_lp21971 : Nat → Int32) (F_lp21971 : Nat → Nat → Int32) (H : Heap) (locs : List Loc) (ls : Array Slot), ((v 39).toInt ≤ (v_lp21971 39).toInt ∧ (v_lp21971 39).toInt ≤ (v 30).toInt ∧ (v 38).toInt ≤ (v_lp21971 38).toInt ∧ (v_lp21971 38).toInt - (v 38).toInt ≤ (v_lp21971 39).toInt - (v 39).toInt ∧ (v 41).toInt ≤ (v_lp21971 41).toInt ∧ ((v_lp21971 40).toInt < 0 → (v_lp21971 41).toInt = (v 41).toInt)) → (keepL (v 37) (F 28) (F 29) (F_lp21971 28) (F_lp21971 29)) → (((v_lp21971 40).toInt < 0 → dp (F_lp21971 28) (F_lp21971 29) (bI (v 37)) (v_lp21971 38).toInt.toNat = some (d + 1))) → (121 - (v_lp21971 39).toInt ≤ (n : Int)) → (∀ k, k ∉ ([38, 39, 40, 41, 42] : List Nat) → v_lp21971 k = v21964 k) → IM v_lp21971 F_lp21971 → (∀ k, k ∉ ([28, 29] : List Nat) → F_lp21971 k = F k) → va_P (dC, dI) classes (wM g c v_lp21971 F_lp21971 rc) H → va_S (AM g s.heap.size) s.heap H locs → lv_has ls 2 [(0, .ref (g 0))] → W p l e (headSpec (Cond.code yX12_sum cX12_sum 2 none :: wA) ({ frames := 33, cells := 0, slots := 0, locals := 1320 })).room s m ([.ref (g 0)] : List Value).toArray below meth c0 H locs 0 0 (MQ below (va_Qv (fun (u : StM) => IM u.1 u.2.1 ∧ u.2.2 = rc ∧ (∀ k, k ∉ ([38, 39, 40, 41, 42] : List Nat) → u.1 k = v k) ∧ (∀ k, k ∉ ([28, 29] : List Nat) → u.2.1 k = F k) ∧ (((v 39).toInt ≤ (u.1 39).toInt ∧ (u.1 39).toInt ≤ (v 30).toInt ∧ (v 38).toInt ≤ (u.1 38).toInt ∧ (u.1 38).toInt - (v 38).toInt ≤ (u.1 39).toInt - (v 39).toInt ∧ (v 41).toInt ≤ (u.1 41).toInt ∧ ((u.1 40).toInt < 0 → (u.1 41).toInt = (v 41).toInt)) ∧ keepL (v 37) (F 28) (F 29) (u.2.1 28) (u.2.1 29) ∧ ((u.1 40).toInt < 0 → dp (u.2.1 28) (u.2.1 29) (bI (v 37)) (u.1 38).toInt.toNat = some (d + 1)))) (BM dC dI g c) (AM g s.heap.size)) ([.ref (g 0)] : List Value).toArray s 0 0 (AM g s.heap.size)) (F0 m 4 ls []) := by
    intro n
    induction n with
    | zero =>
      intro v_lp21971 F_lp21971 H locs ls t21972 t21973 t21974 hm hf_lp21971 hI hF hP hS hl
      exfalso
      have hI1 := hI.1
      omega
    | succ n ih_lp21971 =>
      intro v_lp21971 F_lp21971 H locs ls t21972 t21973 t21974 hm hf_lp21971 hI hF hP hS hl
      have hk := t21973
      have hd := t21974
      refine lv_aload_n hx hb dX12_sum_4 rfl (lv_at hl 0 rfl) ?_
      refine va_get (D := (dC, dI)) (ci := 12) (v := .int (v_lp21971 40)) (C := RX12) (T := TX12) (N := 63) hx hb hwd inA_X12 hown hK hP 0 rfl rfl 40 (by decide) (hwd _ wk_1005) (fun _ h9 => h9) rfl dX12_sum_5 ?_
      refine lv_if_ge (tgt := 57) hx hb dX12_sum_8 (by decide) (fun c21975 => ?_) (fun c21975 => ?_)
      · skip
        have t21976 := cv_le (a := 0) (by decide) (b := (v_lp21971 40).toInt) rfl c21975
        have hP9 : va_P (dC, dI) classes (wM g c v_lp21971 F_lp21971 rc) H := hP
        exact W.vret hx hb hr (fun t ht hW => ⟨⟨(v_lp21971, F_lp21971, rc), rfl, ⟨hI, rfl, (frC (by decide) hf_lp21971 (frC (by decide) hf21966 (fun _ _ => rfl))), hF, (by show ((v 39).toInt ≤ (v_lp21971 39).toInt ∧ (v_lp21971 39).toInt ≤ (v 30).toInt ∧ (v 38).toInt ≤ (v_lp21971 38).toInt ∧ (v_lp21971 38).toInt - (v 38).toInt ≤ (v_lp21971 39).toInt - (v 39).toInt ∧ (v 41).toInt ≤ (v_lp21971 41).toInt ∧ ((v_lp21971 40).toInt < 0 → (v_lp21971 41).toInt = (v 41).toInt)) ∧ keepL (v 37) (F 28) (F 29) (F_lp21971 28) (F_lp21971 29) ∧ ((v_lp21971 40).toInt < 0 → dp (F_lp21971 28) (F_lp21971 29) (bI (v 37)) (v_lp21971 38).toInt.toNat = some (d + 1)); exact ⟨by omega, hk, fun hf => (hd (by omega)).trans (congrArg some (by omega))⟩)⟩, (by show va_P _ _ _ t.heap; rw [ht]; exact hP9)⟩, hS.F ht⟩) hS.2.2 dX12_sum_57
      · skip
        have t21977 := cv_nle (a := 0) (by decide) (b := (v_lp21971 40).toInt) rfl c21975
        refine lv_aload_n hx hb dX12_sum_11 rfl (lv_at hl 0 rfl) ?_
        have t21978 : 0 ≤ (v 30).toInt ∧ (v 30).toInt ≤ 120 := by have h9 := hI.1 30 _ _ rfl; rw [show v_lp21971 30 = v 30 from (hf_lp21971 30 (by decide)).trans (hf21966 30 (by decide))] at h9; exact h9
        have t21979 : 0 ≤ (v_lp21971 39).toInt ∧ (v_lp21971 39).toInt ≤ 120 := hI.1 39 _ _ rfl
        refine va_calli (va_runV (As := []) (rest := []) ⟨hx, hb, hml, hown, hwd⟩ (c_X12_look l dC dI g c adK adV v_lp21971 F_lp21971 rc H.size  hg hI ) (cwV 0 hwd (gV wk_1017 wk_1014 wk_1015 wk_1016 wk_5) rfl rfl rfl (by decide +kernel) ⟨Nat.le_of_ble_eq_true rfl, Nat.le_of_ble_eq_true rfl⟩) ⟨PM.blind, va_recv hK hP (ci := 12) (q0 := 0) rfl rfl, fun U hU hW => ⟨rfl, PM.at hK hE hP hS hU hW⟩⟩ rfl rfl hl.1 rfl (lv_room (Nat.le_of_ble_eq_true rfl)) dX12_sum_12 ⟨Nat.le_of_ble_eq_true rfl, Nat.le_of_ble_eq_true rfl⟩) hS (fun q _ h => (freeM hS) q h) (freeM hS) (fun r21980 u t H1 locs ht hvm hw hB hz1 hk1 hS => ?_)
        unfold BM at hB
        rw [ht] at hB
        have hP : va_P (dC, dI) classes (wM g c v_lp21971 F_lp21971 rc) H1 := hB
        have hw : r21980.toInt = lkM (v_lp21971 39) (v_lp21971 30) (F_lp21971 24) ∧ ((v_lp21971 39).toInt < (v_lp21971 30).toInt ∨ r21980.toInt = -1) := hw
        rw [show v_lp21971 30 = v 30 from (hf_lp21971 30 (by decide)).trans (hf21966 30 (by decide))] at hw
        rw [hF 24 (by decide)] at hw
        have hw_r21980 := hw
        generalize H1 = H at hP hS ⊢
        refine lv_bipush (v := 43) hx hb dX12_sum_15 (by decide) ?_
        refine lv_icmp_eq (tgt := 29) hx hb dX12_sum_17 (by decide) (fun c21981 => ?_) (fun c21981 => ?_)
        · skip
          have t21982 := cv_eq (a := r21980.toInt) rfl (b := 43) (by decide) c21981
          refine lv_aload_n hx hb dX12_sum_29 rfl (lv_at hl 0 rfl) ?_
          have t21983 : 0 ≤ (v 30).toInt ∧ (v 30).toInt ≤ 120 := by have h9 := hI.1 30 _ _ rfl; rw [show v_lp21971 30 = v 30 from (hf_lp21971 30 (by decide)).trans (hf21966 30 (by decide))] at h9; exact h9
          have t21984 : 0 ≤ (v_lp21971 39).toInt ∧ (v_lp21971 39).toInt ≤ 120 := hI.1 39 _ _ rfl
          refine va_calli (va_runV (As := []) (rest := []) ⟨hx, hb, hml, hown, hwd⟩ (c_X12_look l dC dI g c adK adV v_lp21971 F_lp21971 rc H.size  hg hI ) (cwV 0 hwd (gV wk_1017 wk_1014 wk_1015 wk_1016 wk_5) rfl rfl rfl (by decide +kernel) ⟨Nat.le_of_ble_eq_true rfl, Nat.le_of_ble_eq_true rfl⟩) ⟨PM.blind, va_recv hK hP (ci := 12) (q0 := 0) rfl rfl, fun U hU hW => ⟨rfl, PM.at hK hE hP hS hU hW⟩⟩ rfl rfl hl.1 rfl (lv_room (Nat.le_of_ble_eq_true rfl)) dX12_sum_30 ⟨Nat.le_of_ble_eq_true rfl, Nat.le_of_ble_eq_true rfl⟩) hS (fun q _ h => (freeM hS) q h) (freeM hS) (fun r21985 u t H1 locs ht hvm hw hB hz1 hk1 hS => ?_)
          unfold BM at hB
          rw [ht] at hB
          have hP : va_P (dC, dI) classes (wM g c v_lp21971 F_lp21971 rc) H1 := hB
          have hw : r21985.toInt = lkM (v_lp21971 39) (v_lp21971 30) (F_lp21971 24) ∧ ((v_lp21971 39).toInt < (v_lp21971 30).toInt ∨ r21985.toInt = -1) := hw
          rw [show v_lp21971 30 = v 30 from (hf_lp21971 30 (by decide)).trans (hf21966 30 (by decide))] at hw
          rw [hF 24 (by decide)] at hw
          have hw_r21985 := hw
          generalize H1 = H at hP hS ⊢
          refine lv_istore_n (lv' := [(1, .int r21985), (0, .ref (g 0))]) hx hb dX12_sum_33 rfl hl (by decide) rfl (fun ls hl => ?_)
          refine lv_aload_n hx hb dX12_sum_34 rfl (lv_at hl 1 rfl) ?_
          refine lv_dup hx hb dX12_sum_35 rfl ?_
          refine va_get (D := (dC, dI)) (ci := 12) (v := .int (v_lp21971 39)) (C := RX12) (T := TX12) (N := 63) hx hb hwd inA_X12 hown hK hP 0 rfl rfl 39 (by decide) (hwd _ wk_1004) (fun _ h9 => h9) rfl dX12_sum_36 ?_
          have t21986 : 0 ≤ (v_lp21971 39).toInt ∧ (v_lp21971 39).toInt ≤ 120 := hI.1 39 _ _ rfl
          refine lv_iconst (v := 1) hx hb dX12_sum_39 (by decide) ?_
          refine lv_iadd hx hb dX12_sum_40 ?_
          refine lv_topi (fun z21987 e21988 => ?_)
          try (have t21989 := tadd e21988 (a := (v_lp21971 39).toInt) rfl (b := 1) (by decide) (by omega))
          refine va_put (D := (dC, dI)) (ci := 12) (v := .int z21987) (ty := .int) (C := RX12) (T := TX12) (N := 63) (fs := fsM_0 g v_lp21971 rc) hx hb hwd inA_X12 tyX12 tyX12_ok nmX12 hown hK hP (DM hg) hS 0 rfl rfl 39 (by decide) (hwd _ wk_1004) (fun _ h9 => h9) rfl (by decide +kernel) rfl rfl (Nat.le_of_ble_eq_true rfl) dX12_sum_41 (fun H locs hP _ hS => ?_)
          have hP := va_P_eq (pM_39 g c _ _ _ _) hP
          have hI := IM.put hI 39 z21987 rfl (by omega)
          refine lv_aload_n hx hb dX12_sum_44 rfl (lv_at hl 1 rfl) ?_
          have t21990 : 0 ≤ (v 30).toInt ∧ (v 30).toInt ≤ 120 := by have h9 := hI.1 30 _ _ rfl; rw [show (va_up v_lp21971 39 z21987) 30 = v 30 from (hf_lp21971 30 (by decide)).trans (hf21966 30 (by decide))] at h9; exact h9
          have t21991 : 0 ≤ (v 37).toInt ∧ (v 37).toInt ≤ 9 := by have h9 := hI.1 37 _ _ rfl; rw [show (va_up v_lp21971 39 z21987) 37 = v 37 from (hf_lp21971 37 (by decide)).trans (hf21966 37 (by decide))] at h9; exact h9
          have t21992 : 0 ≤ (v_lp21971 38).toInt ∧ (v_lp21971 38).toInt ≤ 120 := hI.1 38 _ _ rfl
          have t21993 : 0 ≤ z21987.toInt ∧ z21987.toInt ≤ 120 := hI.1 39 _ _ rfl
          have t21994 : 0 ≤ (v_lp21971 41).toInt ∧ (v_lp21971 41).toInt ≤ 8 := hI.1 41 _ _ rfl
          refine va_callv (va_runV (As := []) (rest := []) ⟨hx, hb, hml, hown, hwd⟩ (c_X12_product_1 l dC dI g c adK adV (va_up v_lp21971 39 z21987) F_lp21971 rc H.size  (d + 1) hg hI (by have h9 : (va_up v_lp21971 39 z21987) 38 = v_lp21971 38 := rfl; (try rw [h9]); clear h9; have h9 : (va_up v_lp21971 39 z21987) 39 = z21987 := rfl; (try rw [h9]); clear h9; have h9 : (va_up v_lp21971 39 z21987) 30 = v 30 := (hf_lp21971 30 (by decide)).trans (hf21966 30 (by decide)); (try rw [h9]); clear h9; have h9 : (va_up v_lp21971 39 z21987) 40 = v_lp21971 40 := rfl; (try rw [h9]); clear h9; have h9 : (va_up v_lp21971 39 z21987) 41 = v_lp21971 41 := rfl; (try rw [h9]); clear h9; omega) (by have h9 : (va_up v_lp21971 39 z21987) 37 = (v 37) := (hf_lp21971 37 (by decide)).trans (hf21966 37 (by decide)); have h8 : (va_up v_lp21971 39 z21987) 38 = (v_lp21971 38) := rfl; (try rw [h9]); (try rw [h8]); exact hd (by omega))) (cwV 0 hwd (gV wk_1042 wk_1044 wk_1045 wk_1046 wk_5) rfl rfl rfl (by decide +kernel) ⟨Nat.le_of_ble_eq_true rfl, Nat.le_of_ble_eq_true rfl⟩) ⟨PM.blind, va_recv hK hP (ci := 12) (q0 := 0) rfl rfl, fun U hU hW => ⟨rfl, PM.at hK hE hP hS hU hW⟩⟩ rfl rfl hl.1 rfl (lv_room (Nat.le_of_ble_eq_true rfl)) dX12_sum_45 ⟨Nat.le_of_ble_eq_true rfl, Nat.le_of_ble_eq_true rfl⟩) hS (fun q _ h => (freeM hS) q h) (freeM hS) (fun u t H1 locs ht hvm hw hB hz1 hk1 hS => ?_)
          unfold BM at hB
          rw [ht] at hB
          obtain ⟨v21996, F21997, rc9⟩ := u
          obtain ⟨hI, hrc, hf21998, hG21999, hw⟩ := hw
          dsimp only at hI hrc hB hf21998 hG21999 hw
          have hF := frCF (by decide) hG21999 hF
          rw [hrc] at hB
          have hP : va_P (dC, dI) classes (wM g c v21996 F21997 rc) H1 := hB
          have hw : (z21987.toInt ≤ (v21996 39).toInt ∧ (v21996 39).toInt ≤ ((va_up v_lp21971 39 z21987) 30).toInt ∧ (v_lp21971 38).toInt ≤ (v21996 38).toInt ∧ (v21996 38).toInt - (v_lp21971 38).toInt ≤ (v21996 39).toInt - z21987.toInt ∧ (v_lp21971 41).toInt ≤ (v21996 41).toInt ∧ ((v21996 40).toInt < 0 → (v21996 41).toInt = (v_lp21971 41).toInt)) ∧ keepL ((va_up v_lp21971 39 z21987) 37) (F_lp21971 28) (F_lp21971 29) (F21997 28) (F21997 29) ∧ ((v21996 40).toInt < 0 → dp (F21997 28) (F21997 29) (bI ((va_up v_lp21971 39 z21987) 37)) (v21996 38).toInt.toNat = some ((d + 1) + 1)) := hw
          rw [show (va_up v_lp21971 39 z21987) 30 = v 30 from (hf_lp21971 30 (by decide)).trans (hf21966 30 (by decide))] at hw
          rw [show (va_up v_lp21971 39 z21987) 37 = v 37 from (hf_lp21971 37 (by decide)).trans (hf21966 37 (by decide))] at hw
          have hw_r21995 := hw
          have t22000 : 0 ≤ (v21996 38).toInt ∧ (v21996 38).toInt ≤ 120 := hI.1 38 _ _ rfl
          have t22001 : 0 ≤ (v21996 39).toInt ∧ (v21996 39).toInt ≤ 120 := hI.1 39 _ _ rfl
          have t22002 : 0 ≤ (v21996 41).toInt ∧ (v21996 41).toInt ≤ 8 := hI.1 41 _ _ rfl
          generalize H1 = H at hP hS ⊢
          have hk := hk.tr hw_r21995.2.1
          have hd := hw_r21995.2.2
          refine lv_aload_n hx hb dX12_sum_48 rfl (lv_at hl 1 rfl) ?_
          refine lv_iload_n hx hb dX12_sum_49 rfl (lv_at hl 0 rfl) ?_
          refine lv_iconst (v := 0) hx hb dX12_sum_50 (by decide) ?_
          have t22003 : 0 ≤ (v 37).toInt ∧ (v 37).toInt ≤ 9 := by have h9 := hI.1 37 _ _ rfl; rw [show v21996 37 = v 37 from (hf21998 37 (by decide)).trans ((hf_lp21971 37 (by decide)).trans (hf21966 37 (by decide)))] at h9; exact h9
          have t22004 : 0 ≤ (v21996 38).toInt ∧ (v21996 38).toInt ≤ 120 := hI.1 38 _ _ rfl
          refine va_callv (va_runV (As := [.int r21985, .int 0]) (rest := []) ⟨hx, hb, hml, hown, hwd⟩ (c_X12_lay l dC dI g c adK adV v21996 F21997 rc H.size r21985 0 hg hI (by have h9 : v21996 38 = v21996 38 := rfl; rw [h9]; omega)) (cwV 2 hwd (gV wk_1021 wk_1018 wk_1019 wk_1020 wk_5) rfl rfl rfl (by decide +kernel) ⟨Nat.le_of_ble_eq_true rfl, Nat.le_of_ble_eq_true rfl⟩) ⟨PM.blind, va_recv hK hP (ci := 12) (q0 := 0) rfl rfl, fun U hU hW => ⟨rfl, PM.at hK hE hP hS hU hW⟩⟩ rfl rfl hl.1 rfl (lv_room (Nat.le_of_ble_eq_true rfl)) dX12_sum_51 ⟨Nat.le_of_ble_eq_true rfl, Nat.le_of_ble_eq_true rfl⟩) hS (fun q _ h => (freeM hS) q h) (freeM hS) (fun u t H1 locs ht hvm hw hB hz1 hk1 hS => ?_)
          unfold BM at hB
          rw [ht] at hB
          obtain ⟨v22006, F22007, rc9⟩ := u
          obtain ⟨hI, hrc, hf22008, hG22009, hw⟩ := hw
          dsimp only at hI hrc hB hf22008 hG22009 hw
          have hF := frCF (by decide) hG22009 hF
          rw [hrc] at hB
          have hP : va_P (dC, dI) classes (wM g c v22006 F22007 rc) H1 := hB
          have hw : (v22006 38).toInt = (v21996 38).toInt + 1 ∧ keepL (v21996 37) (F21997 28) (F21997 29) (F22007 28) (F22007 29) ∧ dp (F22007 28) (F22007 29) (bI (v21996 37)) ((v21996 38).toInt.toNat + 1) = dpS (dp (F21997 28) (F21997 29) (bI (v21996 37)) (v21996 38).toInt.toNat) r21985 (0 : Int32) := hw
          rw [show v21996 37 = v 37 from (hf21998 37 (by decide)).trans ((hf_lp21971 37 (by decide)).trans (hf21966 37 (by decide)))] at hw
          have hw_r22005 := hw
          have t22010 : 0 ≤ (v22006 38).toInt ∧ (v22006 38).toInt ≤ 120 := hI.1 38 _ _ rfl
          have k22011 : (0 : Int32).toInt = 0 := by decide
          generalize H1 = H at hP hS ⊢
          have hk := hk.tr hw_r22005.2.1
          have hd : (v21996 40).toInt < 0 → dp (F22007 28) (F22007 29) (bI (v 37)) (v22006 38).toInt.toNat = some (((d + 1) + 1) - 1) := fun hf => (by have e9 : (v22006 38).toInt.toNat = (v21996 38).toInt.toNat + 1 := (by omega); rw [e9, hw_r22005.2.2, hd hf]; exact dpS_5 (by omega) (by omega) (by omega) (by omega) (by omega))
          refine lv_goto (tgt := 4) hx hb dX12_sum_54 (by decide) ?_
          exact ih_lp21971  v22006 F22007 _ _ _ (by have h9 : v22006 39 = v21996 39 := hf22008 39 (by decide); (try rw [h9]); clear h9; have h9 : v22006 38 = v22006 38 := rfl; (try rw [h9]); clear h9; have h9 : v22006 41 = v21996 41 := hf22008 41 (by decide); (try rw [h9]); clear h9; have h9 : v22006 40 = v21996 40 := hf22008 40 (by decide); (try rw [h9]); clear h9; omega) hk (by have h9 : v22006 40 = v21996 40 := hf22008 40 (by decide); (try rw [h9]); clear h9; have h9 : v22006 38 = v22006 38 := rfl; (try rw [h9]); clear h9; exact fun hf => (hd (by omega)).trans (congrArg some (by omega))) (by have h9 : v22006 39 = v21996 39 := hf22008 39 (by decide); rw [h9]; omega) (frC (by decide) hf22008 (frC (by decide) hf21998 (frU (by decide) hf_lp21971))) hI hF hP hS (lv_sub hl [1] rfl)
        · skip
          have t22012 := cv_ne (a := r21980.toInt) rfl (b := 43) (by decide) c21981
          refine lv_aload_n hx hb dX12_sum_20 rfl (lv_at hl 0 rfl) ?_
          have t22013 : 0 ≤ (v 30).toInt ∧ (v 30).toInt ≤ 120 := by have h9 := hI.1 30 _ _ rfl; rw [show v_lp21971 30 = v 30 from (hf_lp21971 30 (by decide)).trans (hf21966 30 (by decide))] at h9; exact h9
          have t22014 : 0 ≤ (v_lp21971 39).toInt ∧ (v_lp21971 39).toInt ≤ 120 := hI.1 39 _ _ rfl
          refine va_calli (va_runV (As := []) (rest := []) ⟨hx, hb, hml, hown, hwd⟩ (c_X12_look l dC dI g c adK adV v_lp21971 F_lp21971 rc H.size  hg hI ) (cwV 0 hwd (gV wk_1017 wk_1014 wk_1015 wk_1016 wk_5) rfl rfl rfl (by decide +kernel) ⟨Nat.le_of_ble_eq_true rfl, Nat.le_of_ble_eq_true rfl⟩) ⟨PM.blind, va_recv hK hP (ci := 12) (q0 := 0) rfl rfl, fun U hU hW => ⟨rfl, PM.at hK hE hP hS hU hW⟩⟩ rfl rfl hl.1 rfl (lv_room (Nat.le_of_ble_eq_true rfl)) dX12_sum_21 ⟨Nat.le_of_ble_eq_true rfl, Nat.le_of_ble_eq_true rfl⟩) hS (fun q _ h => (freeM hS) q h) (freeM hS) (fun r22015 u t H1 locs ht hvm hw hB hz1 hk1 hS => ?_)
          unfold BM at hB
          rw [ht] at hB
          have hP : va_P (dC, dI) classes (wM g c v_lp21971 F_lp21971 rc) H1 := hB
          have hw : r22015.toInt = lkM (v_lp21971 39) (v_lp21971 30) (F_lp21971 24) ∧ ((v_lp21971 39).toInt < (v_lp21971 30).toInt ∨ r22015.toInt = -1) := hw
          rw [show v_lp21971 30 = v 30 from (hf_lp21971 30 (by decide)).trans (hf21966 30 (by decide))] at hw
          rw [hF 24 (by decide)] at hw
          have hw_r22015 := hw
          generalize H1 = H at hP hS ⊢
          refine lv_bipush (v := 45) hx hb dX12_sum_24 (by decide) ?_
          refine lv_icmp_ne (tgt := 57) hx hb dX12_sum_26 (by decide) (fun c22016 => ?_) (fun c22016 => ?_)
          · skip
            have t22017 := cv_ne (a := r22015.toInt) rfl (b := 45) (by decide) c22016
            have hP9 : va_P (dC, dI) classes (wM g c v_lp21971 F_lp21971 rc) H := hP
            exact W.vret hx hb hr (fun t ht hW => ⟨⟨(v_lp21971, F_lp21971, rc), rfl, ⟨hI, rfl, (frC (by decide) hf_lp21971 (frC (by decide) hf21966 (fun _ _ => rfl))), hF, (by show ((v 39).toInt ≤ (v_lp21971 39).toInt ∧ (v_lp21971 39).toInt ≤ (v 30).toInt ∧ (v 38).toInt ≤ (v_lp21971 38).toInt ∧ (v_lp21971 38).toInt - (v 38).toInt ≤ (v_lp21971 39).toInt - (v 39).toInt ∧ (v 41).toInt ≤ (v_lp21971 41).toInt ∧ ((v_lp21971 40).toInt < 0 → (v_lp21971 41).toInt = (v 41).toInt)) ∧ keepL (v 37) (F 28) (F 29) (F_lp21971 28) (F_lp21971 29) ∧ ((v_lp21971 40).toInt < 0 → dp (F_lp21971 28) (F_lp21971 29) (bI (v 37)) (v_lp21971 38).toInt.toNat = some (d + 1)); exact ⟨by omega, hk, fun hf => (hd (by omega)).trans (congrArg some (by omega))⟩)⟩, (by show va_P _ _ _ t.heap; rw [ht]; exact hP9)⟩, hS.F ht⟩) hS.2.2 dX12_sum_57
          · skip
            have t22018 := cv_eq (a := r22015.toInt) rfl (b := 45) (by decide) c22016
            refine lv_aload_n hx hb dX12_sum_29 rfl (lv_at hl 0 rfl) ?_
            have t22019 : 0 ≤ (v 30).toInt ∧ (v 30).toInt ≤ 120 := by have h9 := hI.1 30 _ _ rfl; rw [show v_lp21971 30 = v 30 from (hf_lp21971 30 (by decide)).trans (hf21966 30 (by decide))] at h9; exact h9
            have t22020 : 0 ≤ (v_lp21971 39).toInt ∧ (v_lp21971 39).toInt ≤ 120 := hI.1 39 _ _ rfl
            refine va_calli (va_runV (As := []) (rest := []) ⟨hx, hb, hml, hown, hwd⟩ (c_X12_look l dC dI g c adK adV v_lp21971 F_lp21971 rc H.size  hg hI ) (cwV 0 hwd (gV wk_1017 wk_1014 wk_1015 wk_1016 wk_5) rfl rfl rfl (by decide +kernel) ⟨Nat.le_of_ble_eq_true rfl, Nat.le_of_ble_eq_true rfl⟩) ⟨PM.blind, va_recv hK hP (ci := 12) (q0 := 0) rfl rfl, fun U hU hW => ⟨rfl, PM.at hK hE hP hS hU hW⟩⟩ rfl rfl hl.1 rfl (lv_room (Nat.le_of_ble_eq_true rfl)) dX12_sum_30 ⟨Nat.le_of_ble_eq_true rfl, Nat.le_of_ble_eq_true rfl⟩) hS (fun q _ h => (freeM hS) q h) (freeM hS) (fun r22021 u t H1 locs ht hvm hw hB hz1 hk1 hS => ?_)
            unfold BM at hB
            rw [ht] at hB
            have hP : va_P (dC, dI) classes (wM g c v_lp21971 F_lp21971 rc) H1 := hB
            have hw : r22021.toInt = lkM (v_lp21971 39) (v_lp21971 30) (F_lp21971 24) ∧ ((v_lp21971 39).toInt < (v_lp21971 30).toInt ∨ r22021.toInt = -1) := hw
            rw [show v_lp21971 30 = v 30 from (hf_lp21971 30 (by decide)).trans (hf21966 30 (by decide))] at hw
            rw [hF 24 (by decide)] at hw
            have hw_r22021 := hw
            generalize H1 = H at hP hS ⊢
            refine lv_istore_n (lv' := [(1, .int r22021), (0, .ref (g 0))]) hx hb dX12_sum_33 rfl hl (by decide) rfl (fun ls hl => ?_)
            refine lv_aload_n hx hb dX12_sum_34 rfl (lv_at hl 1 rfl) ?_
            refine lv_dup hx hb dX12_sum_35 rfl ?_
            refine va_get (D := (dC, dI)) (ci := 12) (v := .int (v_lp21971 39)) (C := RX12) (T := TX12) (N := 63) hx hb hwd inA_X12 hown hK hP 0 rfl rfl 39 (by decide) (hwd _ wk_1004) (fun _ h9 => h9) rfl dX12_sum_36 ?_
            have t22022 : 0 ≤ (v_lp21971 39).toInt ∧ (v_lp21971 39).toInt ≤ 120 := hI.1 39 _ _ rfl
            refine lv_iconst (v := 1) hx hb dX12_sum_39 (by decide) ?_
            refine lv_iadd hx hb dX12_sum_40 ?_
            refine lv_topi (fun z22023 e22024 => ?_)
            try (have t22025 := tadd e22024 (a := (v_lp21971 39).toInt) rfl (b := 1) (by decide) (by omega))
            refine va_put (D := (dC, dI)) (ci := 12) (v := .int z22023) (ty := .int) (C := RX12) (T := TX12) (N := 63) (fs := fsM_0 g v_lp21971 rc) hx hb hwd inA_X12 tyX12 tyX12_ok nmX12 hown hK hP (DM hg) hS 0 rfl rfl 39 (by decide) (hwd _ wk_1004) (fun _ h9 => h9) rfl (by decide +kernel) rfl rfl (Nat.le_of_ble_eq_true rfl) dX12_sum_41 (fun H locs hP _ hS => ?_)
            have hP := va_P_eq (pM_39 g c _ _ _ _) hP
            have hI := IM.put hI 39 z22023 rfl (by omega)
            refine lv_aload_n hx hb dX12_sum_44 rfl (lv_at hl 1 rfl) ?_
            have t22026 : 0 ≤ (v 30).toInt ∧ (v 30).toInt ≤ 120 := by have h9 := hI.1 30 _ _ rfl; rw [show (va_up v_lp21971 39 z22023) 30 = v 30 from (hf_lp21971 30 (by decide)).trans (hf21966 30 (by decide))] at h9; exact h9
            have t22027 : 0 ≤ (v 37).toInt ∧ (v 37).toInt ≤ 9 := by have h9 := hI.1 37 _ _ rfl; rw [show (va_up v_lp21971 39 z22023) 37 = v 37 from (hf_lp21971 37 (by decide)).trans (hf21966 37 (by decide))] at h9; exact h9
            have t22028 : 0 ≤ (v_lp21971 38).toInt ∧ (v_lp21971 38).toInt ≤ 120 := hI.1 38 _ _ rfl
            have t22029 : 0 ≤ z22023.toInt ∧ z22023.toInt ≤ 120 := hI.1 39 _ _ rfl
            have t22030 : 0 ≤ (v_lp21971 41).toInt ∧ (v_lp21971 41).toInt ≤ 8 := hI.1 41 _ _ rfl
            refine va_callv (va_runV (As := []) (rest := []) ⟨hx, hb, hml, hown, hwd⟩ (c_X12_product_1 l dC dI g c adK adV (va_up v_lp21971 39 z22023) F_lp21971 rc H.size  (d + 1) hg hI (by have h9 : (va_up v_lp21971 39 z22023) 38 = v_lp21971 38 := rfl; (try rw [h9]); clear h9; have h9 : (va_up v_lp21971 39 z22023) 39 = z22023 := rfl; (try rw [h9]); clear h9; have h9 : (va_up v_lp21971 39 z22023) 30 = v 30 := (hf_lp21971 30 (by decide)).trans (hf21966 30 (by decide)); (try rw [h9]); clear h9; have h9 : (va_up v_lp21971 39 z22023) 40 = v_lp21971 40 := rfl; (try rw [h9]); clear h9; have h9 : (va_up v_lp21971 39 z22023) 41 = v_lp21971 41 := rfl; (try rw [h9]); clear h9; omega) (by have h9 : (va_up v_lp21971 39 z22023) 37 = (v 37) := (hf_lp21971 37 (by decide)).trans (hf21966 37 (by decide)); have h8 : (va_up v_lp21971 39 z22023) 38 = (v_lp21971 38) := rfl; (try rw [h9]); (try rw [h8]); exact hd (by omega))) (cwV 0 hwd (gV wk_1042 wk_1044 wk_1045 wk_1046 wk_5) rfl rfl rfl (by decide +kernel) ⟨Nat.le_of_ble_eq_true rfl, Nat.le_of_ble_eq_true rfl⟩) ⟨PM.blind, va_recv hK hP (ci := 12) (q0 := 0) rfl rfl, fun U hU hW => ⟨rfl, PM.at hK hE hP hS hU hW⟩⟩ rfl rfl hl.1 rfl (lv_room (Nat.le_of_ble_eq_true rfl)) dX12_sum_45 ⟨Nat.le_of_ble_eq_true rfl, Nat.le_of_ble_eq_true rfl⟩) hS (fun q _ h => (freeM hS) q h) (freeM hS) (fun u t H1 locs ht hvm hw hB hz1 hk1 hS => ?_)
            unfold BM at hB
            rw [ht] at hB
            obtain ⟨v22032, F22033, rc9⟩ := u
            obtain ⟨hI, hrc, hf22034, hG22035, hw⟩ := hw
            dsimp only at hI hrc hB hf22034 hG22035 hw
            have hF := frCF (by decide) hG22035 hF
            rw [hrc] at hB
            have hP : va_P (dC, dI) classes (wM g c v22032 F22033 rc) H1 := hB
            have hw : (z22023.toInt ≤ (v22032 39).toInt ∧ (v22032 39).toInt ≤ ((va_up v_lp21971 39 z22023) 30).toInt ∧ (v_lp21971 38).toInt ≤ (v22032 38).toInt ∧ (v22032 38).toInt - (v_lp21971 38).toInt ≤ (v22032 39).toInt - z22023.toInt ∧ (v_lp21971 41).toInt ≤ (v22032 41).toInt ∧ ((v22032 40).toInt < 0 → (v22032 41).toInt = (v_lp21971 41).toInt)) ∧ keepL ((va_up v_lp21971 39 z22023) 37) (F_lp21971 28) (F_lp21971 29) (F22033 28) (F22033 29) ∧ ((v22032 40).toInt < 0 → dp (F22033 28) (F22033 29) (bI ((va_up v_lp21971 39 z22023) 37)) (v22032 38).toInt.toNat = some ((d + 1) + 1)) := hw
            rw [show (va_up v_lp21971 39 z22023) 30 = v 30 from (hf_lp21971 30 (by decide)).trans (hf21966 30 (by decide))] at hw
            rw [show (va_up v_lp21971 39 z22023) 37 = v 37 from (hf_lp21971 37 (by decide)).trans (hf21966 37 (by decide))] at hw
            have hw_r22031 := hw
            have t22036 : 0 ≤ (v22032 38).toInt ∧ (v22032 38).toInt ≤ 120 := hI.1 38 _ _ rfl
            have t22037 : 0 ≤ (v22032 39).toInt ∧ (v22032 39).toInt ≤ 120 := hI.1 39 _ _ rfl
            have t22038 : 0 ≤ (v22032 41).toInt ∧ (v22032 41).toInt ≤ 8 := hI.1 41 _ _ rfl
            generalize H1 = H at hP hS ⊢
            have hk := hk.tr hw_r22031.2.1
            have hd := hw_r22031.2.2
            refine lv_aload_n hx hb dX12_sum_48 rfl (lv_at hl 1 rfl) ?_
            refine lv_iload_n hx hb dX12_sum_49 rfl (lv_at hl 0 rfl) ?_
            refine lv_iconst (v := 0) hx hb dX12_sum_50 (by decide) ?_
            have t22039 : 0 ≤ (v 37).toInt ∧ (v 37).toInt ≤ 9 := by have h9 := hI.1 37 _ _ rfl; rw [show v22032 37 = v 37 from (hf22034 37 (by decide)).trans ((hf_lp21971 37 (by decide)).trans (hf21966 37 (by decide)))] at h9; exact h9
            have t22040 : 0 ≤ (v22032 38).toInt ∧ (v22032 38).toInt ≤ 120 := hI.1 38 _ _ rfl
            refine va_callv (va_runV (As := [.int r22021, .int 0]) (rest := []) ⟨hx, hb, hml, hown, hwd⟩ (c_X12_lay l dC dI g c adK adV v22032 F22033 rc H.size r22021 0 hg hI (by have h9 : v22032 38 = v22032 38 := rfl; rw [h9]; omega)) (cwV 2 hwd (gV wk_1021 wk_1018 wk_1019 wk_1020 wk_5) rfl rfl rfl (by decide +kernel) ⟨Nat.le_of_ble_eq_true rfl, Nat.le_of_ble_eq_true rfl⟩) ⟨PM.blind, va_recv hK hP (ci := 12) (q0 := 0) rfl rfl, fun U hU hW => ⟨rfl, PM.at hK hE hP hS hU hW⟩⟩ rfl rfl hl.1 rfl (lv_room (Nat.le_of_ble_eq_true rfl)) dX12_sum_51 ⟨Nat.le_of_ble_eq_true rfl, Nat.le_of_ble_eq_true rfl⟩) hS (fun q _ h => (freeM hS) q h) (freeM hS) (fun u t H1 locs ht hvm hw hB hz1 hk1 hS => ?_)
            unfold BM at hB
            rw [ht] at hB
            obtain ⟨v22042, F22043, rc9⟩ := u
            obtain ⟨hI, hrc, hf22044, hG22045, hw⟩ := hw
            dsimp only at hI hrc hB hf22044 hG22045 hw
            have hF := frCF (by decide) hG22045 hF
            rw [hrc] at hB
            have hP : va_P (dC, dI) classes (wM g c v22042 F22043 rc) H1 := hB
            have hw : (v22042 38).toInt = (v22032 38).toInt + 1 ∧ keepL (v22032 37) (F22033 28) (F22033 29) (F22043 28) (F22043 29) ∧ dp (F22043 28) (F22043 29) (bI (v22032 37)) ((v22032 38).toInt.toNat + 1) = dpS (dp (F22033 28) (F22033 29) (bI (v22032 37)) (v22032 38).toInt.toNat) r22021 (0 : Int32) := hw
            rw [show v22032 37 = v 37 from (hf22034 37 (by decide)).trans ((hf_lp21971 37 (by decide)).trans (hf21966 37 (by decide)))] at hw
            have hw_r22041 := hw
            have t22046 : 0 ≤ (v22042 38).toInt ∧ (v22042 38).toInt ≤ 120 := hI.1 38 _ _ rfl
            have k22047 : (0 : Int32).toInt = 0 := by decide
            generalize H1 = H at hP hS ⊢
            have hk := hk.tr hw_r22041.2.1
            have hd : (v22032 40).toInt < 0 → dp (F22043 28) (F22043 29) (bI (v 37)) (v22042 38).toInt.toNat = some (((d + 1) + 1) - 1) := fun hf => (by have e9 : (v22042 38).toInt.toNat = (v22032 38).toInt.toNat + 1 := (by omega); rw [e9, hw_r22041.2.2, hd hf]; exact dpS_5 (by omega) (by omega) (by omega) (by omega) (by omega))
            refine lv_goto (tgt := 4) hx hb dX12_sum_54 (by decide) ?_
            exact ih_lp21971  v22042 F22043 _ _ _ (by have h9 : v22042 39 = v22032 39 := hf22044 39 (by decide); (try rw [h9]); clear h9; have h9 : v22042 38 = v22042 38 := rfl; (try rw [h9]); clear h9; have h9 : v22042 41 = v22032 41 := hf22044 41 (by decide); (try rw [h9]); clear h9; have h9 : v22042 40 = v22032 40 := hf22044 40 (by decide); (try rw [h9]); clear h9; omega) hk (by have h9 : v22042 40 = v22032 40 := hf22044 40 (by decide); (try rw [h9]); clear h9; have h9 : v22042 38 = v22042 38 := rfl; (try rw [h9]); clear h9; exact fun hf => (hd (by omega)).trans (congrArg some (by omega))) (by have h9 : v22042 39 = v22032 39 := hf22044 39 (by decide); rw [h9]; omega) (frC (by decide) hf22044 (frC (by decide) hf22034 (frU (by decide) hf_lp21971))) hI hF hP hS (lv_sub hl [1] rfl)
  obtain ⟨n9, hn9⟩ : ∃ n : Nat, 121 - (v21964 39).toInt ≤ (n : Int) := ⟨((121 - (v21964 39).toInt : Int)).toNat, by omega⟩
  exact lp21971 n9  v21964 F21965 H _ ls (by have h9 : v21964 39 = v21964 39 := rfl; (try rw [h9]); clear h9; have h9 : v21964 38 = v21964 38 := rfl; (try rw [h9]); clear h9; have h9 : v21964 41 = v21964 41 := rfl; (try rw [h9]); clear h9; have h9 : v21964 40 = v21964 40 := rfl; (try rw [h9]); clear h9; omega) hk (by have h9 : v21964 40 = v21964 40 := rfl; (try rw [h9]); clear h9; have h9 : v21964 38 = v21964 38 := rfl; (try rw [h9]); clear h9; exact fun hf => (hd (by omega)).trans (congrArg some (by omega))) (by have h9 : v21964 39 = v21964 39 := rfl; rw [h9]; omega) (fun _ _ => rfl) hI hF hP hS hl
set_option maxHeartbeats 8000000 in
set_option maxRecDepth 100000 in
theorem c_X12_either_1 (l : Launch) (dC : Nat → ClassId) (dI : Nat → Nat → Nat) (g : Nat → Nat) (c : Nat → ClassId) (adK adV : Nat → Nat) (v : Nat → Int32) (F : Nat → Nat → Int32) (rc sz : Nat) (d : Nat) (hg : injM g) (hI : IM v F) (hq : (v 38).toInt ≤ (v 39).toInt ∧ (v 39).toInt ≤ (v 30).toInt ∧ (v 40).toInt < 0 ∧ (v 41).toInt = 1) (hdp : dp (F 28) (F 29) (bI (v 37)) (v 38).toInt.toNat = some d) : Met l yX12_either (Cond.code yX12_either cX12_either 2 none :: wA) ({ frames := 34, cells := 0, slots := 0, locals := 1360 }) (va_Pc [.ref (g 0)] (PM dC dI g c adK adV v F rc sz)) (va_Qv (fun (u : StM) => IM u.1 u.2.1 ∧ u.2.2 = rc ∧ (∀ k, k ∉ ([38, 39, 40, 41, 42] : List Nat) → u.1 k = v k) ∧ (∀ k, k ∉ ([28, 29] : List Nat) → u.2.1 k = F k) ∧ (((v 39).toInt ≤ (u.1 39).toInt ∧ (u.1 39).toInt ≤ (v 30).toInt ∧ (v 38).toInt ≤ (u.1 38).toInt ∧ (u.1 38).toInt - (v 38).toInt ≤ (u.1 39).toInt - (v 39).toInt ∧ (v 41).toInt ≤ (u.1 41).toInt ∧ ((u.1 40).toInt < 0 → (u.1 41).toInt = (v 41).toInt)) ∧ keepL (v 37) (F 28) (F 29) (u.2.1 28) (u.2.1 29) ∧ ((u.1 40).toInt < 0 → dp (u.2.1 28) (u.2.1 29) (bI (v 37)) (u.1 38).toInt.toNat = some (d + 1)))) (BM dC dI g c) (AM g sz)) 0 0 (AM g sz) := by
  refine Met.ofW (cc := cX12_either) (maxL := 2) (ret := none) (by decide) rfl ?_
  intro p e s m args below meth c0 s₁ B hml hv
  obtain ⟨rfl, hsz, hP, hK, hE⟩ := hv
  have hx := B.exec
  have hb := B.bytes
  have hr := B.returns
  have hts := atoms_spec (ws := Cond.code yX12_either cX12_either 2 none :: wA) B.pre
  have hwd : ∀ w ∈ wA, w.before _ s = true := fun w h => hts w (List.mem_cons_of_mem _ h)
  have hown : s.vm.findClass RX12 = some m.cls := findClass_of_methodNamed B.named
  have hlocks := B.notSynchronized
  subst hsz
  have hl := lv_entry ([.ref (g 0)]) (n := 2) (Nat.le_of_ble_eq_true rfl)
  rw [lg_entry_eq]
  generalize (lg_sl ([.ref (g 0)]) ++ List.replicate (2 - (lg_sl ([.ref (g 0)])).length) Slot.unset).toArray = ls at hl ⊢
  have hl : lv_has ls 2 [(0, .ref (g 0))] := hl
  obtain ⟨H, eH⟩ : ∃ z, z = s.heap := ⟨_, rfl⟩
  have hP : va_P (dC, dI) classes (wM g c v F rc) H := by rw [eH]; exact hP
  have hS : va_S (AM g s.heap.size) s.heap H [] := by rw [eH]; exact va_S.rf
  refine my_heap eH ?_
  have hF : ∀ k, k ∉ ([28, 29] : List Nat) → F k = F k := fun _ _ => rfl
  have hb30 : 0 ≤ (v 30).toInt ∧ (v 30).toInt ≤ 120 := hI.1 30 _ _ rfl
  have hb37 : 0 ≤ (v 37).toInt ∧ (v 37).toInt ≤ 9 := hI.1 37 _ _ rfl
  have hb38 : 0 ≤ (v 38).toInt ∧ (v 38).toInt ≤ 120 := hI.1 38 _ _ rfl
  have hb39 : 0 ≤ (v 39).toInt ∧ (v 39).toInt ≤ 120 := hI.1 39 _ _ rfl
  have hb41 : 0 ≤ (v 41).toInt ∧ (v 41).toInt ≤ 8 := hI.1 41 _ _ rfl
  have hk : keepL (v 37) (F 28) (F 29) (F 28) (F 29) := keepL.rf
  have hd : (v 40).toInt < 0 → dp (F 28) (F 29) (bI (v 37)) (v 38).toInt.toNat = some d := fun _ => hdp
  refine lv_aload_n hx hb dX12_either_0 rfl (lv_at hl 0 rfl) ?_
  have t22549 : 0 ≤ (v 30).toInt ∧ (v 30).toInt ≤ 120 := hI.1 30 _ _ rfl
  have t22550 : 0 ≤ (v 37).toInt ∧ (v 37).toInt ≤ 9 := hI.1 37 _ _ rfl
  have t22551 : 0 ≤ (v 38).toInt ∧ (v 38).toInt ≤ 120 := hI.1 38 _ _ rfl
  have t22552 : 0 ≤ (v 39).toInt ∧ (v 39).toInt ≤ 120 := hI.1 39 _ _ rfl
  have t22553 : 0 ≤ (v 41).toInt ∧ (v 41).toInt ≤ 8 := hI.1 41 _ _ rfl
  refine va_callv (va_runV (As := []) (rest := []) ⟨hx, hb, hml, hown, hwd⟩ (c_X12_sum_1 l dC dI g c adK adV v F rc H.size  d hg hI (by have h9 : v 38 = v 38 := rfl; (try rw [h9]); clear h9; have h9 : v 39 = v 39 := rfl; (try rw [h9]); clear h9; have h9 : v 30 = v 30 := rfl; (try rw [h9]); clear h9; have h9 : v 40 = v 40 := rfl; (try rw [h9]); clear h9; have h9 : v 41 = v 41 := rfl; (try rw [h9]); clear h9; omega) (by have h9 : v 37 = (v 37) := rfl; have h8 : v 38 = (v 38) := rfl; (try rw [h9]); (try rw [h8]); exact hd (by omega))) (cwV 0 hwd (gV wk_1043 wk_1011 wk_1012 wk_1013 wk_5) rfl rfl rfl (by decide +kernel) ⟨Nat.le_of_ble_eq_true rfl, Nat.le_of_ble_eq_true rfl⟩) ⟨PM.blind, va_recv hK hP (ci := 12) (q0 := 0) rfl rfl, fun U hU hW => ⟨rfl, PM.at hK hE hP hS hU hW⟩⟩ rfl rfl hl.1 rfl (lv_room (Nat.le_of_ble_eq_true rfl)) dX12_either_1 ⟨Nat.le_of_ble_eq_true rfl, Nat.le_of_ble_eq_true rfl⟩) hS (fun q _ h => (freeM hS) q h) (freeM hS) (fun u t H1 locs ht hvm hw hB hz1 hk1 hS => ?_)
  unfold BM at hB
  rw [ht] at hB
  obtain ⟨v22555, F22556, rc9⟩ := u
  obtain ⟨hI, hrc, hf22557, hG22558, hw⟩ := hw
  dsimp only at hI hrc hB hf22557 hG22558 hw
  have hF := frCF (by decide) hG22558 hF
  rw [hrc] at hB
  have hP : va_P (dC, dI) classes (wM g c v22555 F22556 rc) H1 := hB
  have hw : ((v 39).toInt ≤ (v22555 39).toInt ∧ (v22555 39).toInt ≤ (v 30).toInt ∧ (v 38).toInt ≤ (v22555 38).toInt ∧ (v22555 38).toInt - (v 38).toInt ≤ (v22555 39).toInt - (v 39).toInt ∧ (v 41).toInt ≤ (v22555 41).toInt ∧ ((v22555 40).toInt < 0 → (v22555 41).toInt = (v 41).toInt)) ∧ keepL (v 37) (F 28) (F 29) (F22556 28) (F22556 29) ∧ ((v22555 40).toInt < 0 → dp (F22556 28) (F22556 29) (bI (v 37)) (v22555 38).toInt.toNat = some (d + 1)) := hw
  have hw_r22554 := hw
  have t22559 : 0 ≤ (v22555 38).toInt ∧ (v22555 38).toInt ≤ 120 := hI.1 38 _ _ rfl
  have t22560 : 0 ≤ (v22555 39).toInt ∧ (v22555 39).toInt ≤ 120 := hI.1 39 _ _ rfl
  have t22561 : 0 ≤ (v22555 41).toInt ∧ (v22555 41).toInt ≤ 8 := hI.1 41 _ _ rfl
  generalize H1 = H at hP hS ⊢
  have hk := hk.tr hw_r22554.2.1
  have hd := hw_r22554.2.2
  refine lv_aload_n hx hb dX12_either_4 rfl (lv_at hl 0 rfl) ?_
  have t22562 : 0 ≤ (v 30).toInt ∧ (v 30).toInt ≤ 120 := by have h9 := hI.1 30 _ _ rfl; rw [show v22555 30 = v 30 from hf22557 30 (by decide)] at h9; exact h9
  have t22563 : 0 ≤ (v22555 39).toInt ∧ (v22555 39).toInt ≤ 120 := hI.1 39 _ _ rfl
  refine va_calli (va_runV (As := []) (rest := []) ⟨hx, hb, hml, hown, hwd⟩ (c_X12_look l dC dI g c adK adV v22555 F22556 rc H.size  hg hI ) (cwV 0 hwd (gV wk_1017 wk_1014 wk_1015 wk_1016 wk_5) rfl rfl rfl (by decide +kernel) ⟨Nat.le_of_ble_eq_true rfl, Nat.le_of_ble_eq_true rfl⟩) ⟨PM.blind, va_recv hK hP (ci := 12) (q0 := 0) rfl rfl, fun U hU hW => ⟨rfl, PM.at hK hE hP hS hU hW⟩⟩ rfl rfl hl.1 rfl (lv_room (Nat.le_of_ble_eq_true rfl)) dX12_either_5 ⟨Nat.le_of_ble_eq_true rfl, Nat.le_of_ble_eq_true rfl⟩) hS (fun q _ h => (freeM hS) q h) (freeM hS) (fun r22564 u t H1 locs ht hvm hw hB hz1 hk1 hS => ?_)
  unfold BM at hB
  rw [ht] at hB
  have hP : va_P (dC, dI) classes (wM g c v22555 F22556 rc) H1 := hB
  have hw : r22564.toInt = lkM (v22555 39) (v22555 30) (F22556 24) ∧ ((v22555 39).toInt < (v22555 30).toInt ∨ r22564.toInt = -1) := hw
  rw [show v22555 30 = v 30 from hf22557 30 (by decide)] at hw
  rw [hF 24 (by decide)] at hw
  have hw_r22564 := hw
  generalize H1 = H at hP hS ⊢
  refine lv_istore_n (lv' := [(1, .int r22564), (0, .ref (g 0))]) hx hb dX12_either_8 rfl hl (by decide) rfl (fun ls hl => ?_)
  refine lv_aload_n hx hb dX12_either_9 rfl (lv_at hl 1 rfl) ?_
  refine va_get (D := (dC, dI)) (ci := 12) (v := .int (v22555 40)) (C := RX12) (T := TX12) (N := 63) hx hb hwd inA_X12 hown hK hP 0 rfl rfl 40 (by decide) (hwd _ wk_1005) (fun _ h9 => h9) rfl dX12_either_10 ?_
  refine lv_if_ge (tgt := 54) hx hb dX12_either_13 (by decide) (fun c22565 => ?_) (fun c22565 => ?_)
  · skip
    have t22566 := cv_le (a := 0) (by decide) (b := (v22555 40).toInt) rfl c22565
    refine lv_aload_n hx hb dX12_either_54 rfl (lv_at hl 1 rfl) ?_
    refine va_get (D := (dC, dI)) (ci := 12) (v := .int (v22555 40)) (C := RX12) (T := TX12) (N := 63) hx hb hwd inA_X12 hown hK hP 0 rfl rfl 40 (by decide) (hwd _ wk_1005) (fun _ h9 => h9) rfl dX12_either_55 ?_
    refine lv_if_ge (tgt := 70) hx hb dX12_either_58 (by decide) (fun c22567 => ?_) (fun c22567 => ?_)
    · skip
      have t22568 := cv_le (a := 0) (by decide) (b := (v22555 40).toInt) rfl c22567
      have hP9 : va_P (dC, dI) classes (wM g c v22555 F22556 rc) H := hP
      exact W.vret hx hb hr (fun t ht hW => ⟨⟨(v22555, F22556, rc), rfl, ⟨hI, rfl, (frC (by decide) hf22557 (fun _ _ => rfl)), hF, (by show ((v 39).toInt ≤ (v22555 39).toInt ∧ (v22555 39).toInt ≤ (v 30).toInt ∧ (v 38).toInt ≤ (v22555 38).toInt ∧ (v22555 38).toInt - (v 38).toInt ≤ (v22555 39).toInt - (v 39).toInt ∧ (v 41).toInt ≤ (v22555 41).toInt ∧ ((v22555 40).toInt < 0 → (v22555 41).toInt = (v 41).toInt)) ∧ keepL (v 37) (F 28) (F 29) (F22556 28) (F22556 29) ∧ ((v22555 40).toInt < 0 → dp (F22556 28) (F22556 29) (bI (v 37)) (v22555 38).toInt.toNat = some (d + 1)); exact ⟨by omega, hk, fun hf => (hd (by omega)).trans (congrArg some (by omega))⟩)⟩, (by show va_P _ _ _ t.heap; rw [ht]; exact hP9)⟩, hS.F ht⟩) hS.2.2 dX12_either_70
    · skip
      have t22569 := cv_nle (a := 0) (by decide) (b := (v22555 40).toInt) rfl c22567
      refine lv_aload_n hx hb dX12_either_61 rfl (lv_at hl 1 rfl) ?_
      have t22570 : 0 ≤ (v 30).toInt ∧ (v 30).toInt ≤ 120 := by have h9 := hI.1 30 _ _ rfl; rw [show v22555 30 = v 30 from hf22557 30 (by decide)] at h9; exact h9
      have t22571 : 0 ≤ (v22555 39).toInt ∧ (v22555 39).toInt ≤ 120 := hI.1 39 _ _ rfl
      refine va_calli (va_runV (As := []) (rest := []) ⟨hx, hb, hml, hown, hwd⟩ (c_X12_look l dC dI g c adK adV v22555 F22556 rc H.size  hg hI ) (cwV 0 hwd (gV wk_1017 wk_1014 wk_1015 wk_1016 wk_5) rfl rfl rfl (by decide +kernel) ⟨Nat.le_of_ble_eq_true rfl, Nat.le_of_ble_eq_true rfl⟩) ⟨PM.blind, va_recv hK hP (ci := 12) (q0 := 0) rfl rfl, fun U hU hW => ⟨rfl, PM.at hK hE hP hS hU hW⟩⟩ rfl rfl hl.1 rfl (lv_room (Nat.le_of_ble_eq_true rfl)) dX12_either_62 ⟨Nat.le_of_ble_eq_true rfl, Nat.le_of_ble_eq_true rfl⟩) hS (fun q _ h => (freeM hS) q h) (freeM hS) (fun r22572 u t H1 locs ht hvm hw hB hz1 hk1 hS => ?_)
      unfold BM at hB
      rw [ht] at hB
      have hP : va_P (dC, dI) classes (wM g c v22555 F22556 rc) H1 := hB
      have hw : r22572.toInt = lkM (v22555 39) (v22555 30) (F22556 24) ∧ ((v22555 39).toInt < (v22555 30).toInt ∨ r22572.toInt = -1) := hw
      rw [show v22555 30 = v 30 from hf22557 30 (by decide)] at hw
      rw [hF 24 (by decide)] at hw
      have hw_r22572 := hw
      generalize H1 = H at hP hS ⊢
      refine lv_bipush (v := 63) hx hb dX12_either_65 (by decide) ?_
      refine lv_icmp_eq (tgt := 71) hx hb dX12_either_67 (by decide) (fun c22573 => ?_) (fun c22573 => ?_)
      · skip
        have t22574 := cv_eq (a := r22572.toInt) rfl (b := 63) (by decide) c22573
        refine lv_aload_n hx hb dX12_either_71 rfl (lv_at hl 1 rfl) ?_
        have t22575 : 0 ≤ (v22555 39).toInt ∧ (v22555 39).toInt ≤ 120 := hI.1 39 _ _ rfl
        have t22576 : 0 ≤ (v22555 41).toInt ∧ (v22555 41).toInt ≤ 8 := hI.1 41 _ _ rfl
        refine va_calli (va_runV (As := []) (rest := []) ⟨hx, hb, hml, hown, hwd⟩ (c_X12_opens l dC dI g c adK adV v22555 F22556 rc H.size  hg hI (by have h9 : v22555 39 = v22555 39 := rfl; (try rw [h9]); clear h9; have h9 : v22555 30 = v 30 := hf22557 30 (by decide); (try rw [h9]); clear h9; omega)) (cwV 0 hwd (gV wk_1025 wk_1022 wk_1023 wk_1024 wk_5) rfl rfl rfl (by decide +kernel) ⟨Nat.le_of_ble_eq_true rfl, Nat.le_of_ble_eq_true rfl⟩) ⟨PM.blind, va_recv hK hP (ci := 12) (q0 := 0) rfl rfl, fun U hU hW => ⟨rfl, PM.at hK hE hP hS hU hW⟩⟩ rfl rfl hl.1 rfl (lv_room (Nat.le_of_ble_eq_true rfl)) dX12_either_72 ⟨Nat.le_of_ble_eq_true rfl, Nat.le_of_ble_eq_true rfl⟩) hS (fun q _ h => (freeM hS) q h) (freeM hS) (fun r22577 u t H1 locs ht hvm hw hB hz1 hk1 hS => ?_)
        unfold BM at hB
        rw [ht] at hB
        obtain ⟨v22578, F22579, rc9⟩ := u
        obtain ⟨hI, hrc, hf22580, hG22581, hw⟩ := hw
        dsimp only at hI hrc hB hf22580 hG22581 hw
        have hF := frCF (by decide) hG22581 hF
        rw [hrc] at hB
        have hP : va_P (dC, dI) classes (wM g c v22578 F22579 rc) H1 := hB
        have hw : (r22577.toInt = 1 ∧ (v22555 41).toInt < 8 ∧ (v22578 41).toInt = (v22555 41).toInt + 1 ∧ (v22578 39).toInt = (v22555 39).toInt + 1 ∧ (v22578 40).toInt = (v22555 40).toInt) ∨ (r22577.toInt = 0 ∧ (v22555 41).toInt = 8 ∧ 0 ≤ (v22578 40).toInt ∧ (v22578 41).toInt = (v22555 41).toInt ∧ (v22578 39).toInt = (v22555 39).toInt) := hw
        have hw_r22577 := hw
        have t22582 : 0 ≤ (v22578 39).toInt ∧ (v22578 39).toInt ≤ 120 := hI.1 39 _ _ rfl
        have t22583 : 0 ≤ (v22578 41).toInt ∧ (v22578 41).toInt ≤ 8 := hI.1 41 _ _ rfl
        generalize H1 = H at hP hS ⊢
        have hk : keepL (v 37) (F 28) (F 29) (F22579 28) (F22579 29) := by rw [hG22581 28 (by decide), hG22581 29 (by decide)]; exact hk
        have hd : (v22578 40).toInt < 0 → dp (F22579 28) (F22579 29) (bI (v 37)) (v22555 38).toInt.toNat = some (d + 1) := fun hf => (by rw [hG22581 28 (by decide), hG22581 29 (by decide)]; exact hd (by omega))
        refine lv_if_ne (tgt := 79) hx hb dX12_either_75 (by decide) (fun c22584 => ?_) (fun c22584 => ?_)
        · skip
          have t22585 := cv_ne (a := r22577.toInt) rfl (b := 0) (by decide) c22584
          refine lv_aload_n hx hb dX12_either_79 rfl (lv_at hl 1 rfl) ?_
          have t22586 : 0 ≤ (v 30).toInt ∧ (v 30).toInt ≤ 120 := by have h9 := hI.1 30 _ _ rfl; rw [show v22578 30 = v 30 from (hf22580 30 (by decide)).trans (hf22557 30 (by decide))] at h9; exact h9
          have t22587 : 0 ≤ (v 37).toInt ∧ (v 37).toInt ≤ 9 := by have h9 := hI.1 37 _ _ rfl; rw [show v22578 37 = v 37 from (hf22580 37 (by decide)).trans (hf22557 37 (by decide))] at h9; exact h9
          have t22588 : 0 ≤ (v22555 38).toInt ∧ (v22555 38).toInt ≤ 120 := by have h9 := hI.1 38 _ _ rfl; rw [show v22578 38 = v22555 38 from hf22580 38 (by decide)] at h9; exact h9
          have t22589 : 0 ≤ (v22578 39).toInt ∧ (v22578 39).toInt ≤ 120 := hI.1 39 _ _ rfl
          have t22590 : 0 ≤ (v22578 41).toInt ∧ (v22578 41).toInt ≤ 8 := hI.1 41 _ _ rfl
          refine va_callv (va_runV (As := []) (rest := []) ⟨hx, hb, hml, hown, hwd⟩ (c_X12_either_2 l dC dI g c adK adV v22578 F22579 rc H.size  (d + 1) hg hI (by have h9 : v22578 38 = v22555 38 := hf22580 38 (by decide); (try rw [h9]); clear h9; have h9 : v22578 39 = v22578 39 := rfl; (try rw [h9]); clear h9; have h9 : v22578 30 = v 30 := (hf22580 30 (by decide)).trans (hf22557 30 (by decide)); (try rw [h9]); clear h9; have h9 : v22578 40 = v22578 40 := rfl; (try rw [h9]); clear h9; have h9 : v22578 41 = v22578 41 := rfl; (try rw [h9]); clear h9; omega) (by have h9 : v22578 37 = (v 37) := (hf22580 37 (by decide)).trans (hf22557 37 (by decide)); have h8 : v22578 38 = (v22555 38) := hf22580 38 (by decide); (try rw [h9]); (try rw [h8]); exact hd (by omega))) (cwV 0 hwd (gV wk_1010 wk_1007 wk_1008 wk_1009 wk_5) rfl rfl rfl (by decide +kernel) ⟨Nat.le_of_ble_eq_true rfl, Nat.le_of_ble_eq_true rfl⟩) ⟨PM.blind, va_recv hK hP (ci := 12) (q0 := 0) rfl rfl, fun U hU hW => ⟨rfl, PM.at hK hE hP hS hU hW⟩⟩ rfl rfl hl.1 rfl (lv_room (Nat.le_of_ble_eq_true rfl)) dX12_either_80 ⟨Nat.le_of_ble_eq_true rfl, Nat.le_of_ble_eq_true rfl⟩) hS (fun q _ h => (freeM hS) q h) (freeM hS) (fun u t H1 locs ht hvm hw hB hz1 hk1 hS => ?_)
          unfold BM at hB
          rw [ht] at hB
          obtain ⟨v22592, F22593, rc9⟩ := u
          obtain ⟨hI, hrc, hf22594, hG22595, hw⟩ := hw
          dsimp only at hI hrc hB hf22594 hG22595 hw
          have hF := frCF (by decide) hG22595 hF
          rw [hrc] at hB
          have hP : va_P (dC, dI) classes (wM g c v22592 F22593 rc) H1 := hB
          have hw : ((v22578 39).toInt ≤ (v22592 39).toInt ∧ (v22592 39).toInt ≤ (v22578 30).toInt ∧ (v22578 38).toInt ≤ (v22592 38).toInt ∧ (v22592 38).toInt - (v22578 38).toInt ≤ (v22592 39).toInt - (v22578 39).toInt ∧ (v22578 41).toInt ≤ (v22592 41).toInt ∧ ((v22592 40).toInt < 0 → (v22592 41).toInt = (v22578 41).toInt)) ∧ keepL (v22578 37) (F22579 28) (F22579 29) (F22593 28) (F22593 29) ∧ ((v22592 40).toInt < 0 → dp (F22593 28) (F22593 29) (bI (v22578 37)) (v22592 38).toInt.toNat = some ((d + 1) + 1)) := hw
          rw [show v22578 30 = v 30 from (hf22580 30 (by decide)).trans (hf22557 30 (by decide))] at hw
          rw [show v22578 38 = v22555 38 from hf22580 38 (by decide)] at hw
          rw [show v22578 37 = v 37 from (hf22580 37 (by decide)).trans (hf22557 37 (by decide))] at hw
          have hw_r22591 := hw
          have t22596 : 0 ≤ (v22592 38).toInt ∧ (v22592 38).toInt ≤ 120 := hI.1 38 _ _ rfl
          have t22597 : 0 ≤ (v22592 39).toInt ∧ (v22592 39).toInt ≤ 120 := hI.1 39 _ _ rfl
          have t22598 : 0 ≤ (v22592 41).toInt ∧ (v22592 41).toInt ≤ 8 := hI.1 41 _ _ rfl
          generalize H1 = H at hP hS ⊢
          have hk := hk.tr hw_r22591.2.1
          have hd := hw_r22591.2.2
          refine lv_aload_n hx hb dX12_either_83 rfl (lv_at hl 1 rfl) ?_
          refine va_get (D := (dC, dI)) (ci := 12) (v := .int (v22592 40)) (C := RX12) (T := TX12) (N := 63) hx hb hwd inA_X12 hown hK hP 0 rfl rfl 40 (by decide) (hwd _ wk_1005) (fun _ h9 => h9) rfl dX12_either_84 ?_
          refine lv_if_lt (tgt := 91) hx hb dX12_either_87 (by decide) (fun c22599 => ?_) (fun c22599 => ?_)
          · skip
            have t22600 := cv_lt (a := (v22592 40).toInt) rfl (b := 0) (by decide) c22599
            refine lv_aload_n hx hb dX12_either_91 rfl (lv_at hl 1 rfl) ?_
            have t22601 : 0 ≤ (v 30).toInt ∧ (v 30).toInt ≤ 120 := by have h9 := hI.1 30 _ _ rfl; rw [show v22592 30 = v 30 from (hf22594 30 (by decide)).trans ((hf22580 30 (by decide)).trans (hf22557 30 (by decide)))] at h9; exact h9
            have t22602 : 0 ≤ (v22592 39).toInt ∧ (v22592 39).toInt ≤ 120 := hI.1 39 _ _ rfl
            refine va_calli (va_runV (As := []) (rest := []) ⟨hx, hb, hml, hown, hwd⟩ (c_X12_look l dC dI g c adK adV v22592 F22593 rc H.size  hg hI ) (cwV 0 hwd (gV wk_1017 wk_1014 wk_1015 wk_1016 wk_5) rfl rfl rfl (by decide +kernel) ⟨Nat.le_of_ble_eq_true rfl, Nat.le_of_ble_eq_true rfl⟩) ⟨PM.blind, va_recv hK hP (ci := 12) (q0 := 0) rfl rfl, fun U hU hW => ⟨rfl, PM.at hK hE hP hS hU hW⟩⟩ rfl rfl hl.1 rfl (lv_room (Nat.le_of_ble_eq_true rfl)) dX12_either_92 ⟨Nat.le_of_ble_eq_true rfl, Nat.le_of_ble_eq_true rfl⟩) hS (fun q _ h => (freeM hS) q h) (freeM hS) (fun r22603 u t H1 locs ht hvm hw hB hz1 hk1 hS => ?_)
            unfold BM at hB
            rw [ht] at hB
            have hP : va_P (dC, dI) classes (wM g c v22592 F22593 rc) H1 := hB
            have hw : r22603.toInt = lkM (v22592 39) (v22592 30) (F22593 24) ∧ ((v22592 39).toInt < (v22592 30).toInt ∨ r22603.toInt = -1) := hw
            rw [show v22592 30 = v 30 from (hf22594 30 (by decide)).trans ((hf22580 30 (by decide)).trans (hf22557 30 (by decide)))] at hw
            rw [hF 24 (by decide)] at hw
            have hw_r22603 := hw
            generalize H1 = H at hP hS ⊢
            refine lv_bipush (v := 58) hx hb dX12_either_95 (by decide) ?_
            refine lv_icmp_eq (tgt := 105) hx hb dX12_either_97 (by decide) (fun c22604 => ?_) (fun c22604 => ?_)
            · skip
              have t22605 := cv_eq (a := r22603.toInt) rfl (b := 58) (by decide) c22604
              refine lv_aload_n hx hb dX12_either_105 rfl (lv_at hl 1 rfl) ?_
              refine lv_dup hx hb dX12_either_106 rfl ?_
              refine va_get (D := (dC, dI)) (ci := 12) (v := .int (v22592 39)) (C := RX12) (T := TX12) (N := 63) hx hb hwd inA_X12 hown hK hP 0 rfl rfl 39 (by decide) (hwd _ wk_1004) (fun _ h9 => h9) rfl dX12_either_107 ?_
              have t22606 : 0 ≤ (v22592 39).toInt ∧ (v22592 39).toInt ≤ 120 := hI.1 39 _ _ rfl
              refine lv_iconst (v := 1) hx hb dX12_either_110 (by decide) ?_
              refine lv_iadd hx hb dX12_either_111 ?_
              refine lv_topi (fun z22607 e22608 => ?_)
              try (have t22609 := tadd e22608 (a := (v22592 39).toInt) rfl (b := 1) (by decide) (by omega))
              refine va_put (D := (dC, dI)) (ci := 12) (v := .int z22607) (ty := .int) (C := RX12) (T := TX12) (N := 63) (fs := fsM_0 g v22592 rc) hx hb hwd inA_X12 tyX12 tyX12_ok nmX12 hown hK hP (DM hg) hS 0 rfl rfl 39 (by decide) (hwd _ wk_1004) (fun _ h9 => h9) rfl (by decide +kernel) rfl rfl (Nat.le_of_ble_eq_true rfl) dX12_either_112 (fun H locs hP _ hS => ?_)
              have hP := va_P_eq (pM_39 g c _ _ _ _) hP
              have hI := IM.put hI 39 z22607 rfl (by omega)
              refine lv_aload_n hx hb dX12_either_115 rfl (lv_at hl 1 rfl) ?_
              have t22610 : 0 ≤ (v 30).toInt ∧ (v 30).toInt ≤ 120 := by have h9 := hI.1 30 _ _ rfl; rw [show (va_up v22592 39 z22607) 30 = v 30 from (hf22594 30 (by decide)).trans ((hf22580 30 (by decide)).trans (hf22557 30 (by decide)))] at h9; exact h9
              have t22611 : 0 ≤ (v 37).toInt ∧ (v 37).toInt ≤ 9 := by have h9 := hI.1 37 _ _ rfl; rw [show (va_up v22592 39 z22607) 37 = v 37 from (hf22594 37 (by decide)).trans ((hf22580 37 (by decide)).trans (hf22557 37 (by decide)))] at h9; exact h9
              have t22612 : 0 ≤ (v22592 38).toInt ∧ (v22592 38).toInt ≤ 120 := hI.1 38 _ _ rfl
              have t22613 : 0 ≤ z22607.toInt ∧ z22607.toInt ≤ 120 := hI.1 39 _ _ rfl
              have t22614 : 0 ≤ (v22592 41).toInt ∧ (v22592 41).toInt ≤ 8 := hI.1 41 _ _ rfl
              refine va_callv (va_runV (As := []) (rest := []) ⟨hx, hb, hml, hown, hwd⟩ (c_X12_either_2 l dC dI g c adK adV (va_up v22592 39 z22607) F22593 rc H.size  ((d + 1) + 1) hg hI (by have h9 : (va_up v22592 39 z22607) 38 = v22592 38 := rfl; (try rw [h9]); clear h9; have h9 : (va_up v22592 39 z22607) 39 = z22607 := rfl; (try rw [h9]); clear h9; have h9 : (va_up v22592 39 z22607) 30 = v 30 := (hf22594 30 (by decide)).trans ((hf22580 30 (by decide)).trans (hf22557 30 (by decide))); (try rw [h9]); clear h9; have h9 : (va_up v22592 39 z22607) 40 = v22592 40 := rfl; (try rw [h9]); clear h9; have h9 : (va_up v22592 39 z22607) 41 = v22592 41 := rfl; (try rw [h9]); clear h9; omega) (by have h9 : (va_up v22592 39 z22607) 37 = (v 37) := (hf22594 37 (by decide)).trans ((hf22580 37 (by decide)).trans (hf22557 37 (by decide))); have h8 : (va_up v22592 39 z22607) 38 = (v22592 38) := rfl; (try rw [h9]); (try rw [h8]); exact hd (by omega))) (cwV 0 hwd (gV wk_1010 wk_1007 wk_1008 wk_1009 wk_5) rfl rfl rfl (by decide +kernel) ⟨Nat.le_of_ble_eq_true rfl, Nat.le_of_ble_eq_true rfl⟩) ⟨PM.blind, va_recv hK hP (ci := 12) (q0 := 0) rfl rfl, fun U hU hW => ⟨rfl, PM.at hK hE hP hS hU hW⟩⟩ rfl rfl hl.1 rfl (lv_room (Nat.le_of_ble_eq_true rfl)) dX12_either_116 ⟨Nat.le_of_ble_eq_true rfl, Nat.le_of_ble_eq_true rfl⟩) hS (fun q _ h => (freeM hS) q h) (freeM hS) (fun u t H1 locs ht hvm hw hB hz1 hk1 hS => ?_)
              unfold BM at hB
              rw [ht] at hB
              obtain ⟨v22616, F22617, rc9⟩ := u
              obtain ⟨hI, hrc, hf22618, hG22619, hw⟩ := hw
              dsimp only at hI hrc hB hf22618 hG22619 hw
              have hF := frCF (by decide) hG22619 hF
              rw [hrc] at hB
              have hP : va_P (dC, dI) classes (wM g c v22616 F22617 rc) H1 := hB
              have hw : (z22607.toInt ≤ (v22616 39).toInt ∧ (v22616 39).toInt ≤ ((va_up v22592 39 z22607) 30).toInt ∧ (v22592 38).toInt ≤ (v22616 38).toInt ∧ (v22616 38).toInt - (v22592 38).toInt ≤ (v22616 39).toInt - z22607.toInt ∧ (v22592 41).toInt ≤ (v22616 41).toInt ∧ ((v22616 40).toInt < 0 → (v22616 41).toInt = (v22592 41).toInt)) ∧ keepL ((va_up v22592 39 z22607) 37) (F22593 28) (F22593 29) (F22617 28) (F22617 29) ∧ ((v22616 40).toInt < 0 → dp (F22617 28) (F22617 29) (bI ((va_up v22592 39 z22607) 37)) (v22616 38).toInt.toNat = some (((d + 1) + 1) + 1)) := hw
              rw [show (va_up v22592 39 z22607) 30 = v 30 from (hf22594 30 (by decide)).trans ((hf22580 30 (by decide)).trans (hf22557 30 (by decide)))] at hw
              rw [show (va_up v22592 39 z22607) 37 = v 37 from (hf22594 37 (by decide)).trans ((hf22580 37 (by decide)).trans (hf22557 37 (by decide)))] at hw
              have hw_r22615 := hw
              have t22620 : 0 ≤ (v22616 38).toInt ∧ (v22616 38).toInt ≤ 120 := hI.1 38 _ _ rfl
              have t22621 : 0 ≤ (v22616 39).toInt ∧ (v22616 39).toInt ≤ 120 := hI.1 39 _ _ rfl
              have t22622 : 0 ≤ (v22616 41).toInt ∧ (v22616 41).toInt ≤ 8 := hI.1 41 _ _ rfl
              generalize H1 = H at hP hS ⊢
              have hk := hk.tr hw_r22615.2.1
              have hd := hw_r22615.2.2
              refine lv_aload_n hx hb dX12_either_119 rfl (lv_at hl 1 rfl) ?_
              refine lv_iconst (v := 4) hx hb dX12_either_120 (by decide) ?_
              refine lv_iconst (v := 0) hx hb dX12_either_121 (by decide) ?_
              have t22623 : 0 ≤ (v 37).toInt ∧ (v 37).toInt ≤ 9 := by have h9 := hI.1 37 _ _ rfl; rw [show v22616 37 = v 37 from (hf22618 37 (by decide)).trans ((hf22594 37 (by decide)).trans ((hf22580 37 (by decide)).trans (hf22557 37 (by decide))))] at h9; exact h9
              have t22624 : 0 ≤ (v22616 38).toInt ∧ (v22616 38).toInt ≤ 120 := hI.1 38 _ _ rfl
              refine va_callv (va_runV (As := [.int 4, .int 0]) (rest := []) ⟨hx, hb, hml, hown, hwd⟩ (c_X12_lay l dC dI g c adK adV v22616 F22617 rc H.size 4 0 hg hI (by have h9 : v22616 38 = v22616 38 := rfl; rw [h9]; omega)) (cwV 2 hwd (gV wk_1021 wk_1018 wk_1019 wk_1020 wk_5) rfl rfl rfl (by decide +kernel) ⟨Nat.le_of_ble_eq_true rfl, Nat.le_of_ble_eq_true rfl⟩) ⟨PM.blind, va_recv hK hP (ci := 12) (q0 := 0) rfl rfl, fun U hU hW => ⟨rfl, PM.at hK hE hP hS hU hW⟩⟩ rfl rfl hl.1 rfl (lv_room (Nat.le_of_ble_eq_true rfl)) dX12_either_122 ⟨Nat.le_of_ble_eq_true rfl, Nat.le_of_ble_eq_true rfl⟩) hS (fun q _ h => (freeM hS) q h) (freeM hS) (fun u t H1 locs ht hvm hw hB hz1 hk1 hS => ?_)
              unfold BM at hB
              rw [ht] at hB
              obtain ⟨v22626, F22627, rc9⟩ := u
              obtain ⟨hI, hrc, hf22628, hG22629, hw⟩ := hw
              dsimp only at hI hrc hB hf22628 hG22629 hw
              have hF := frCF (by decide) hG22629 hF
              rw [hrc] at hB
              have hP : va_P (dC, dI) classes (wM g c v22626 F22627 rc) H1 := hB
              have hw : (v22626 38).toInt = (v22616 38).toInt + 1 ∧ keepL (v22616 37) (F22617 28) (F22617 29) (F22627 28) (F22627 29) ∧ dp (F22627 28) (F22627 29) (bI (v22616 37)) ((v22616 38).toInt.toNat + 1) = dpS (dp (F22617 28) (F22617 29) (bI (v22616 37)) (v22616 38).toInt.toNat) (4 : Int32) (0 : Int32) := hw
              rw [show v22616 37 = v 37 from (hf22618 37 (by decide)).trans ((hf22594 37 (by decide)).trans ((hf22580 37 (by decide)).trans (hf22557 37 (by decide))))] at hw
              have hw_r22625 := hw
              have t22630 : 0 ≤ (v22626 38).toInt ∧ (v22626 38).toInt ≤ 120 := hI.1 38 _ _ rfl
              have k22631 : (4 : Int32).toInt = 4 := by decide
              have k22632 : (0 : Int32).toInt = 0 := by decide
              generalize H1 = H at hP hS ⊢
              have hk := hk.tr hw_r22625.2.1
              have hd : (v22616 40).toInt < 0 → dp (F22627 28) (F22627 29) (bI (v 37)) (v22626 38).toInt.toNat = some ((((d + 1) + 1) + 1) - 2) := fun hf => (by have e9 : (v22626 38).toInt.toNat = (v22616 38).toInt.toNat + 1 := (by omega); rw [e9, hw_r22625.2.2, hd hf]; exact dpS_4 (by decide) (by omega))
              refine lv_aload_n hx hb dX12_either_125 rfl (lv_at hl 1 rfl) ?_
              refine lv_dup hx hb dX12_either_126 rfl ?_
              refine va_get (D := (dC, dI)) (ci := 12) (v := .int (v22626 41)) (C := RX12) (T := TX12) (N := 63) hx hb hwd inA_X12 hown hK hP 0 rfl rfl 41 (by decide) (hwd _ wk_1006) (fun _ h9 => h9) rfl dX12_either_127 ?_
              refine my_top (v := v22616 41) (hf22628 41 (by decide)) ?_
              have t22633 : 0 ≤ (v22616 41).toInt ∧ (v22616 41).toInt ≤ 8 := by have h9 := hI.1 41 _ _ rfl; rw [show v22626 41 = v22616 41 from hf22628 41 (by decide)] at h9; exact h9
              refine lv_iconst (v := 1) hx hb dX12_either_130 (by decide) ?_
              refine lv_isub hx hb dX12_either_131 ?_
              refine lv_topi (fun z22634 e22635 => ?_)
              try (have t22636 := tsub e22635 (a := (v22616 41).toInt) rfl (b := 1) (by decide) (by omega))
              refine va_put (D := (dC, dI)) (ci := 12) (v := .int z22634) (ty := .int) (C := RX12) (T := TX12) (N := 63) (fs := fsM_0 g v22626 rc) hx hb hwd inA_X12 tyX12 tyX12_ok nmX12 hown hK hP (DM hg) hS 0 rfl rfl 41 (by decide) (hwd _ wk_1006) (fun _ h9 => h9) rfl (by decide +kernel) rfl rfl (Nat.le_of_ble_eq_true rfl) dX12_either_132 (fun H locs hP _ hS => ?_)
              have hP := va_P_eq (pM_41 g c _ _ _ _) hP
              have hI := IM.put hI 41 z22634 rfl (by omega)
              have hP9 : va_P (dC, dI) classes (wM g c (va_up v22626 41 z22634) F22627 rc) H := hP
              exact W.vret hx hb hr (fun t ht hW => ⟨⟨((va_up v22626 41 z22634), F22627, rc), rfl, ⟨hI, rfl, (frU (by decide) (frC (by decide) hf22628 (frC (by decide) hf22618 (frU (by decide) (frC (by decide) hf22594 (frC (by decide) hf22580 (frC (by decide) hf22557 (fun _ _ => rfl)))))))), hF, (by show ((v 39).toInt ≤ ((va_up v22626 41 z22634) 39).toInt ∧ ((va_up v22626 41 z22634) 39).toInt ≤ (v 30).toInt ∧ (v 38).toInt ≤ (v22626 38).toInt ∧ (v22626 38).toInt - (v 38).toInt ≤ ((va_up v22626 41 z22634) 39).toInt - (v 39).toInt ∧ (v 41).toInt ≤ z22634.toInt ∧ (((va_up v22626 41 z22634) 40).toInt < 0 → z22634.toInt = (v 41).toInt)) ∧ keepL (v 37) (F 28) (F 29) (F22627 28) (F22627 29) ∧ (((va_up v22626 41 z22634) 40).toInt < 0 → dp (F22627 28) (F22627 29) (bI (v 37)) (v22626 38).toInt.toNat = some (d + 1)); rw [show (va_up v22626 41 z22634) 39 = v22616 39 from hf22628 39 (by decide)]; rw [show (va_up v22626 41 z22634) 40 = v22616 40 from hf22628 40 (by decide)]; exact ⟨by omega, hk, fun hf => (hd (by omega)).trans (congrArg some (by omega))⟩)⟩, (by show va_P _ _ _ t.heap; rw [ht]; exact hP9)⟩, hS.F ht⟩) hS.2.2 dX12_either_135
            · skip
              have t22637 := cv_ne (a := r22603.toInt) rfl (b := 58) (by decide) c22604
              refine lv_aload_n hx hb dX12_either_100 rfl (lv_at hl 1 rfl) ?_
              refine va_callv (va_runV (As := []) (rest := []) ⟨hx, hb, hml, hown, hwd⟩ (c_X12_wrong l dC dI g c adK adV v22592 F22593 rc H.size  hg hI ) (cwV 0 hwd (gV wk_1029 wk_1026 wk_1027 wk_1028 wk_5) rfl rfl rfl (by decide +kernel) ⟨Nat.le_of_ble_eq_true rfl, Nat.le_of_ble_eq_true rfl⟩) ⟨PM.blind, va_recv hK hP (ci := 12) (q0 := 0) rfl rfl, fun U hU hW => ⟨rfl, PM.at hK hE hP hS hU hW⟩⟩ rfl rfl hl.1 rfl (lv_room (Nat.le_of_ble_eq_true rfl)) dX12_either_101 ⟨Nat.le_of_ble_eq_true rfl, Nat.le_of_ble_eq_true rfl⟩) hS (fun q _ h => (freeM hS) q h) (freeM hS) (fun u t H1 locs ht hvm hw hB hz1 hk1 hS => ?_)
              unfold BM at hB
              rw [ht] at hB
              obtain ⟨v22639, F22640, rc9⟩ := u
              obtain ⟨hI, hrc, hf22641, hG22642, hw⟩ := hw
              dsimp only at hI hrc hB hf22641 hG22642 hw
              have hF := frCF (by decide) hG22642 hF
              rw [hrc] at hB
              have hP : va_P (dC, dI) classes (wM g c v22639 F22640 rc) H1 := hB
              have hw : 0 ≤ (v22639 40).toInt := hw
              have hw_r22638 := hw
              generalize H1 = H at hP hS ⊢
              have hk : keepL (v 37) (F 28) (F 29) (F22640 28) (F22640 29) := by rw [hG22642 28 (by decide), hG22642 29 (by decide)]; exact hk
              have hd : (v22639 40).toInt < 0 → dp (F22640 28) (F22640 29) (bI (v 37)) (v22592 38).toInt.toNat = some ((d + 1) + 1) := fun hf => (by rw [hG22642 28 (by decide), hG22642 29 (by decide)]; exact hd (by omega))
              have hP9 : va_P (dC, dI) classes (wM g c v22639 F22640 rc) H := hP
              exact W.vret hx hb hr (fun t ht hW => ⟨⟨(v22639, F22640, rc), rfl, ⟨hI, rfl, (frC (by decide) hf22641 (frC (by decide) hf22594 (frC (by decide) hf22580 (frC (by decide) hf22557 (fun _ _ => rfl))))), hF, (by show ((v 39).toInt ≤ (v22639 39).toInt ∧ (v22639 39).toInt ≤ (v 30).toInt ∧ (v 38).toInt ≤ (v22639 38).toInt ∧ (v22639 38).toInt - (v 38).toInt ≤ (v22639 39).toInt - (v 39).toInt ∧ (v 41).toInt ≤ (v22639 41).toInt ∧ ((v22639 40).toInt < 0 → (v22639 41).toInt = (v 41).toInt)) ∧ keepL (v 37) (F 28) (F 29) (F22640 28) (F22640 29) ∧ ((v22639 40).toInt < 0 → dp (F22640 28) (F22640 29) (bI (v 37)) (v22639 38).toInt.toNat = some (d + 1)); rw [show v22639 39 = v22592 39 from hf22641 39 (by decide)]; rw [show v22639 38 = v22592 38 from hf22641 38 (by decide)]; rw [show v22639 41 = v22592 41 from hf22641 41 (by decide)]; exact ⟨by omega, hk, fun hf => (hd (by omega)).trans (congrArg some (by omega))⟩)⟩, (by show va_P _ _ _ t.heap; rw [ht]; exact hP9)⟩, hS.F ht⟩) hS.2.2 dX12_either_104
          · skip
            have t22643 := cv_nlt (a := (v22592 40).toInt) rfl (b := 0) (by decide) c22599
            have hP9 : va_P (dC, dI) classes (wM g c v22592 F22593 rc) H := hP
            exact W.vret hx hb hr (fun t ht hW => ⟨⟨(v22592, F22593, rc), rfl, ⟨hI, rfl, (frC (by decide) hf22594 (frC (by decide) hf22580 (frC (by decide) hf22557 (fun _ _ => rfl)))), hF, (by show ((v 39).toInt ≤ (v22592 39).toInt ∧ (v22592 39).toInt ≤ (v 30).toInt ∧ (v 38).toInt ≤ (v22592 38).toInt ∧ (v22592 38).toInt - (v 38).toInt ≤ (v22592 39).toInt - (v 39).toInt ∧ (v 41).toInt ≤ (v22592 41).toInt ∧ ((v22592 40).toInt < 0 → (v22592 41).toInt = (v 41).toInt)) ∧ keepL (v 37) (F 28) (F 29) (F22593 28) (F22593 29) ∧ ((v22592 40).toInt < 0 → dp (F22593 28) (F22593 29) (bI (v 37)) (v22592 38).toInt.toNat = some (d + 1)); exact ⟨by omega, hk, fun hf => (hd (by omega)).trans (congrArg some (by omega))⟩)⟩, (by show va_P _ _ _ t.heap; rw [ht]; exact hP9)⟩, hS.F ht⟩) hS.2.2 dX12_either_90
        · skip
          have t22644 := cv_eq (a := r22577.toInt) rfl (b := 0) (by decide) c22584
          have hP9 : va_P (dC, dI) classes (wM g c v22578 F22579 rc) H := hP
          exact W.vret hx hb hr (fun t ht hW => ⟨⟨(v22578, F22579, rc), rfl, ⟨hI, rfl, (frC (by decide) hf22580 (frC (by decide) hf22557 (fun _ _ => rfl))), hF, (by show ((v 39).toInt ≤ (v22578 39).toInt ∧ (v22578 39).toInt ≤ (v 30).toInt ∧ (v 38).toInt ≤ (v22578 38).toInt ∧ (v22578 38).toInt - (v 38).toInt ≤ (v22578 39).toInt - (v 39).toInt ∧ (v 41).toInt ≤ (v22578 41).toInt ∧ ((v22578 40).toInt < 0 → (v22578 41).toInt = (v 41).toInt)) ∧ keepL (v 37) (F 28) (F 29) (F22579 28) (F22579 29) ∧ ((v22578 40).toInt < 0 → dp (F22579 28) (F22579 29) (bI (v 37)) (v22578 38).toInt.toNat = some (d + 1)); rw [show v22578 38 = v22555 38 from hf22580 38 (by decide)]; exact ⟨by omega, hk, fun hf => (hd (by omega)).trans (congrArg some (by omega))⟩)⟩, (by show va_P _ _ _ t.heap; rw [ht]; exact hP9)⟩, hS.F ht⟩) hS.2.2 dX12_either_78
      · skip
        have t22645 := cv_ne (a := r22572.toInt) rfl (b := 63) (by decide) c22573
        have hP9 : va_P (dC, dI) classes (wM g c v22555 F22556 rc) H := hP
        exact W.vret hx hb hr (fun t ht hW => ⟨⟨(v22555, F22556, rc), rfl, ⟨hI, rfl, (frC (by decide) hf22557 (fun _ _ => rfl)), hF, (by show ((v 39).toInt ≤ (v22555 39).toInt ∧ (v22555 39).toInt ≤ (v 30).toInt ∧ (v 38).toInt ≤ (v22555 38).toInt ∧ (v22555 38).toInt - (v 38).toInt ≤ (v22555 39).toInt - (v 39).toInt ∧ (v 41).toInt ≤ (v22555 41).toInt ∧ ((v22555 40).toInt < 0 → (v22555 41).toInt = (v 41).toInt)) ∧ keepL (v 37) (F 28) (F 29) (F22556 28) (F22556 29) ∧ ((v22555 40).toInt < 0 → dp (F22556 28) (F22556 29) (bI (v 37)) (v22555 38).toInt.toNat = some (d + 1)); exact ⟨by omega, hk, fun hf => (hd (by omega)).trans (congrArg some (by omega))⟩)⟩, (by show va_P _ _ _ t.heap; rw [ht]; exact hP9)⟩, hS.F ht⟩) hS.2.2 dX12_either_70
  · skip
    have t22646 := cv_nle (a := 0) (by decide) (b := (v22555 40).toInt) rfl c22565
    refine lv_iload_n hx hb dX12_either_16 rfl (lv_at hl 0 rfl) ?_
    refine lv_bipush (v := 60) hx hb dX12_either_17 (by decide) ?_
    refine lv_icmp_eq (tgt := 34) hx hb dX12_either_19 (by decide) (fun c22647 => ?_) (fun c22647 => ?_)
    · skip
      have t22648 := cv_eq (a := r22564.toInt) rfl (b := 60) (by decide) c22647
      refine lv_aload_n hx hb dX12_either_34 rfl (lv_at hl 1 rfl) ?_
      refine lv_dup hx hb dX12_either_35 rfl ?_
      refine va_get (D := (dC, dI)) (ci := 12) (v := .int (v22555 39)) (C := RX12) (T := TX12) (N := 63) hx hb hwd inA_X12 hown hK hP 0 rfl rfl 39 (by decide) (hwd _ wk_1004) (fun _ h9 => h9) rfl dX12_either_36 ?_
      have t22649 : 0 ≤ (v22555 39).toInt ∧ (v22555 39).toInt ≤ 120 := hI.1 39 _ _ rfl
      refine lv_iconst (v := 1) hx hb dX12_either_39 (by decide) ?_
      refine lv_iadd hx hb dX12_either_40 ?_
      refine lv_topi (fun z22650 e22651 => ?_)
      try (have t22652 := tadd e22651 (a := (v22555 39).toInt) rfl (b := 1) (by decide) (by omega))
      refine va_put (D := (dC, dI)) (ci := 12) (v := .int z22650) (ty := .int) (C := RX12) (T := TX12) (N := 63) (fs := fsM_0 g v22555 rc) hx hb hwd inA_X12 tyX12 tyX12_ok nmX12 hown hK hP (DM hg) hS 0 rfl rfl 39 (by decide) (hwd _ wk_1004) (fun _ h9 => h9) rfl (by decide +kernel) rfl rfl (Nat.le_of_ble_eq_true rfl) dX12_either_41 (fun H locs hP _ hS => ?_)
      have hP := va_P_eq (pM_39 g c _ _ _ _) hP
      have hI := IM.put hI 39 z22650 rfl (by omega)
      refine lv_aload_n hx hb dX12_either_44 rfl (lv_at hl 1 rfl) ?_
      have t22653 : 0 ≤ (v 30).toInt ∧ (v 30).toInt ≤ 120 := by have h9 := hI.1 30 _ _ rfl; rw [show (va_up v22555 39 z22650) 30 = v 30 from hf22557 30 (by decide)] at h9; exact h9
      have t22654 : 0 ≤ (v 37).toInt ∧ (v 37).toInt ≤ 9 := by have h9 := hI.1 37 _ _ rfl; rw [show (va_up v22555 39 z22650) 37 = v 37 from hf22557 37 (by decide)] at h9; exact h9
      have t22655 : 0 ≤ (v22555 38).toInt ∧ (v22555 38).toInt ≤ 120 := hI.1 38 _ _ rfl
      have t22656 : 0 ≤ z22650.toInt ∧ z22650.toInt ≤ 120 := hI.1 39 _ _ rfl
      have t22657 : 0 ≤ (v22555 41).toInt ∧ (v22555 41).toInt ≤ 8 := hI.1 41 _ _ rfl
      refine va_callv (va_runV (As := []) (rest := []) ⟨hx, hb, hml, hown, hwd⟩ (c_X12_sum_1 l dC dI g c adK adV (va_up v22555 39 z22650) F22556 rc H.size  (d + 1) hg hI (by have h9 : (va_up v22555 39 z22650) 38 = v22555 38 := rfl; (try rw [h9]); clear h9; have h9 : (va_up v22555 39 z22650) 39 = z22650 := rfl; (try rw [h9]); clear h9; have h9 : (va_up v22555 39 z22650) 30 = v 30 := hf22557 30 (by decide); (try rw [h9]); clear h9; have h9 : (va_up v22555 39 z22650) 40 = v22555 40 := rfl; (try rw [h9]); clear h9; have h9 : (va_up v22555 39 z22650) 41 = v22555 41 := rfl; (try rw [h9]); clear h9; omega) (by have h9 : (va_up v22555 39 z22650) 37 = (v 37) := hf22557 37 (by decide); have h8 : (va_up v22555 39 z22650) 38 = (v22555 38) := rfl; (try rw [h9]); (try rw [h8]); exact hd (by omega))) (cwV 0 hwd (gV wk_1043 wk_1011 wk_1012 wk_1013 wk_5) rfl rfl rfl (by decide +kernel) ⟨Nat.le_of_ble_eq_true rfl, Nat.le_of_ble_eq_true rfl⟩) ⟨PM.blind, va_recv hK hP (ci := 12) (q0 := 0) rfl rfl, fun U hU hW => ⟨rfl, PM.at hK hE hP hS hU hW⟩⟩ rfl rfl hl.1 rfl (lv_room (Nat.le_of_ble_eq_true rfl)) dX12_either_45 ⟨Nat.le_of_ble_eq_true rfl, Nat.le_of_ble_eq_true rfl⟩) hS (fun q _ h => (freeM hS) q h) (freeM hS) (fun u t H1 locs ht hvm hw hB hz1 hk1 hS => ?_)
      unfold BM at hB
      rw [ht] at hB
      obtain ⟨v22659, F22660, rc9⟩ := u
      obtain ⟨hI, hrc, hf22661, hG22662, hw⟩ := hw
      dsimp only at hI hrc hB hf22661 hG22662 hw
      have hF := frCF (by decide) hG22662 hF
      rw [hrc] at hB
      have hP : va_P (dC, dI) classes (wM g c v22659 F22660 rc) H1 := hB
      have hw : (z22650.toInt ≤ (v22659 39).toInt ∧ (v22659 39).toInt ≤ ((va_up v22555 39 z22650) 30).toInt ∧ (v22555 38).toInt ≤ (v22659 38).toInt ∧ (v22659 38).toInt - (v22555 38).toInt ≤ (v22659 39).toInt - z22650.toInt ∧ (v22555 41).toInt ≤ (v22659 41).toInt ∧ ((v22659 40).toInt < 0 → (v22659 41).toInt = (v22555 41).toInt)) ∧ keepL ((va_up v22555 39 z22650) 37) (F22556 28) (F22556 29) (F22660 28) (F22660 29) ∧ ((v22659 40).toInt < 0 → dp (F22660 28) (F22660 29) (bI ((va_up v22555 39 z22650) 37)) (v22659 38).toInt.toNat = some ((d + 1) + 1)) := hw
      rw [show (va_up v22555 39 z22650) 30 = v 30 from hf22557 30 (by decide)] at hw
      rw [show (va_up v22555 39 z22650) 37 = v 37 from hf22557 37 (by decide)] at hw
      have hw_r22658 := hw
      have t22663 : 0 ≤ (v22659 38).toInt ∧ (v22659 38).toInt ≤ 120 := hI.1 38 _ _ rfl
      have t22664 : 0 ≤ (v22659 39).toInt ∧ (v22659 39).toInt ≤ 120 := hI.1 39 _ _ rfl
      have t22665 : 0 ≤ (v22659 41).toInt ∧ (v22659 41).toInt ≤ 8 := hI.1 41 _ _ rfl
      generalize H1 = H at hP hS ⊢
      have hk := hk.tr hw_r22658.2.1
      have hd := hw_r22658.2.2
      refine lv_aload_n hx hb dX12_either_48 rfl (lv_at hl 1 rfl) ?_
      refine lv_iload_n hx hb dX12_either_49 rfl (lv_at hl 0 rfl) ?_
      refine lv_iconst (v := 0) hx hb dX12_either_50 (by decide) ?_
      have t22666 : 0 ≤ (v 37).toInt ∧ (v 37).toInt ≤ 9 := by have h9 := hI.1 37 _ _ rfl; rw [show v22659 37 = v 37 from (hf22661 37 (by decide)).trans (hf22557 37 (by decide))] at h9; exact h9
      have t22667 : 0 ≤ (v22659 38).toInt ∧ (v22659 38).toInt ≤ 120 := hI.1 38 _ _ rfl
      refine va_callv (va_runV (As := [.int r22564, .int 0]) (rest := []) ⟨hx, hb, hml, hown, hwd⟩ (c_X12_lay l dC dI g c adK adV v22659 F22660 rc H.size r22564 0 hg hI (by have h9 : v22659 38 = v22659 38 := rfl; rw [h9]; omega)) (cwV 2 hwd (gV wk_1021 wk_1018 wk_1019 wk_1020 wk_5) rfl rfl rfl (by decide +kernel) ⟨Nat.le_of_ble_eq_true rfl, Nat.le_of_ble_eq_true rfl⟩) ⟨PM.blind, va_recv hK hP (ci := 12) (q0 := 0) rfl rfl, fun U hU hW => ⟨rfl, PM.at hK hE hP hS hU hW⟩⟩ rfl rfl hl.1 rfl (lv_room (Nat.le_of_ble_eq_true rfl)) dX12_either_51 ⟨Nat.le_of_ble_eq_true rfl, Nat.le_of_ble_eq_true rfl⟩) hS (fun q _ h => (freeM hS) q h) (freeM hS) (fun u t H1 locs ht hvm hw hB hz1 hk1 hS => ?_)
      unfold BM at hB
      rw [ht] at hB
      obtain ⟨v22669, F22670, rc9⟩ := u
      obtain ⟨hI, hrc, hf22671, hG22672, hw⟩ := hw
      dsimp only at hI hrc hB hf22671 hG22672 hw
      have hF := frCF (by decide) hG22672 hF
      rw [hrc] at hB
      have hP : va_P (dC, dI) classes (wM g c v22669 F22670 rc) H1 := hB
      have hw : (v22669 38).toInt = (v22659 38).toInt + 1 ∧ keepL (v22659 37) (F22660 28) (F22660 29) (F22670 28) (F22670 29) ∧ dp (F22670 28) (F22670 29) (bI (v22659 37)) ((v22659 38).toInt.toNat + 1) = dpS (dp (F22660 28) (F22660 29) (bI (v22659 37)) (v22659 38).toInt.toNat) r22564 (0 : Int32) := hw
      rw [show v22659 37 = v 37 from (hf22661 37 (by decide)).trans (hf22557 37 (by decide))] at hw
      have hw_r22668 := hw
      have t22673 : 0 ≤ (v22669 38).toInt ∧ (v22669 38).toInt ≤ 120 := hI.1 38 _ _ rfl
      have k22674 : (0 : Int32).toInt = 0 := by decide
      generalize H1 = H at hP hS ⊢
      have hk := hk.tr hw_r22668.2.1
      have hd : (v22659 40).toInt < 0 → dp (F22670 28) (F22670 29) (bI (v 37)) (v22669 38).toInt.toNat = some (((d + 1) + 1) - 1) := fun hf => (by have e9 : (v22669 38).toInt.toNat = (v22659 38).toInt.toNat + 1 := (by omega); rw [e9, hw_r22668.2.2, hd hf]; exact dpS_5 (by omega) (by omega) (by omega) (by omega) (by omega))
      refine lv_aload_n hx hb dX12_either_54 rfl (lv_at hl 1 rfl) ?_
      refine va_get (D := (dC, dI)) (ci := 12) (v := .int (v22669 40)) (C := RX12) (T := TX12) (N := 63) hx hb hwd inA_X12 hown hK hP 0 rfl rfl 40 (by decide) (hwd _ wk_1005) (fun _ h9 => h9) rfl dX12_either_55 ?_
      refine my_top (v := v22659 40) (hf22671 40 (by decide)) ?_
      refine lv_if_ge (tgt := 70) hx hb dX12_either_58 (by decide) (fun c22675 => ?_) (fun c22675 => ?_)
      · skip
        have t22676 := cv_le (a := 0) (by decide) (b := (v22659 40).toInt) rfl c22675
        have hP9 : va_P (dC, dI) classes (wM g c v22669 F22670 rc) H := hP
        exact W.vret hx hb hr (fun t ht hW => ⟨⟨(v22669, F22670, rc), rfl, ⟨hI, rfl, (frC (by decide) hf22671 (frC (by decide) hf22661 (frU (by decide) (frC (by decide) hf22557 (fun _ _ => rfl))))), hF, (by show ((v 39).toInt ≤ (v22669 39).toInt ∧ (v22669 39).toInt ≤ (v 30).toInt ∧ (v 38).toInt ≤ (v22669 38).toInt ∧ (v22669 38).toInt - (v 38).toInt ≤ (v22669 39).toInt - (v 39).toInt ∧ (v 41).toInt ≤ (v22669 41).toInt ∧ ((v22669 40).toInt < 0 → (v22669 41).toInt = (v 41).toInt)) ∧ keepL (v 37) (F 28) (F 29) (F22670 28) (F22670 29) ∧ ((v22669 40).toInt < 0 → dp (F22670 28) (F22670 29) (bI (v 37)) (v22669 38).toInt.toNat = some (d + 1)); rw [show v22669 39 = v22659 39 from hf22671 39 (by decide)]; rw [show v22669 41 = v22659 41 from hf22671 41 (by decide)]; rw [show v22669 40 = v22659 40 from hf22671 40 (by decide)]; exact ⟨by omega, hk, fun hf => (hd (by omega)).trans (congrArg some (by omega))⟩)⟩, (by show va_P _ _ _ t.heap; rw [ht]; exact hP9)⟩, hS.F ht⟩) hS.2.2 dX12_either_70
      · skip
        have t22677 := cv_nle (a := 0) (by decide) (b := (v22659 40).toInt) rfl c22675
        refine lv_aload_n hx hb dX12_either_61 rfl (lv_at hl 1 rfl) ?_
        have t22678 : 0 ≤ (v 30).toInt ∧ (v 30).toInt ≤ 120 := by have h9 := hI.1 30 _ _ rfl; rw [show v22669 30 = v 30 from (hf22671 30 (by decide)).trans ((hf22661 30 (by decide)).trans (hf22557 30 (by decide)))] at h9; exact h9
        have t22679 : 0 ≤ (v22659 39).toInt ∧ (v22659 39).toInt ≤ 120 := by have h9 := hI.1 39 _ _ rfl; rw [show v22669 39 = v22659 39 from hf22671 39 (by decide)] at h9; exact h9
        refine va_calli (va_runV (As := []) (rest := []) ⟨hx, hb, hml, hown, hwd⟩ (c_X12_look l dC dI g c adK adV v22669 F22670 rc H.size  hg hI ) (cwV 0 hwd (gV wk_1017 wk_1014 wk_1015 wk_1016 wk_5) rfl rfl rfl (by decide +kernel) ⟨Nat.le_of_ble_eq_true rfl, Nat.le_of_ble_eq_true rfl⟩) ⟨PM.blind, va_recv hK hP (ci := 12) (q0 := 0) rfl rfl, fun U hU hW => ⟨rfl, PM.at hK hE hP hS hU hW⟩⟩ rfl rfl hl.1 rfl (lv_room (Nat.le_of_ble_eq_true rfl)) dX12_either_62 ⟨Nat.le_of_ble_eq_true rfl, Nat.le_of_ble_eq_true rfl⟩) hS (fun q _ h => (freeM hS) q h) (freeM hS) (fun r22680 u t H1 locs ht hvm hw hB hz1 hk1 hS => ?_)
        unfold BM at hB
        rw [ht] at hB
        have hP : va_P (dC, dI) classes (wM g c v22669 F22670 rc) H1 := hB
        have hw : r22680.toInt = lkM (v22669 39) (v22669 30) (F22670 24) ∧ ((v22669 39).toInt < (v22669 30).toInt ∨ r22680.toInt = -1) := hw
        rw [show v22669 39 = v22659 39 from hf22671 39 (by decide)] at hw
        rw [show v22669 30 = v 30 from (hf22671 30 (by decide)).trans ((hf22661 30 (by decide)).trans (hf22557 30 (by decide)))] at hw
        rw [hF 24 (by decide)] at hw
        have hw_r22680 := hw
        generalize H1 = H at hP hS ⊢
        refine lv_bipush (v := 63) hx hb dX12_either_65 (by decide) ?_
        refine lv_icmp_eq (tgt := 71) hx hb dX12_either_67 (by decide) (fun c22681 => ?_) (fun c22681 => ?_)
        · skip
          have t22682 := cv_eq (a := r22680.toInt) rfl (b := 63) (by decide) c22681
          refine lv_aload_n hx hb dX12_either_71 rfl (lv_at hl 1 rfl) ?_
          have t22683 : 0 ≤ (v22659 39).toInt ∧ (v22659 39).toInt ≤ 120 := by have h9 := hI.1 39 _ _ rfl; rw [show v22669 39 = v22659 39 from hf22671 39 (by decide)] at h9; exact h9
          have t22684 : 0 ≤ (v22659 41).toInt ∧ (v22659 41).toInt ≤ 8 := by have h9 := hI.1 41 _ _ rfl; rw [show v22669 41 = v22659 41 from hf22671 41 (by decide)] at h9; exact h9
          refine va_calli (va_runV (As := []) (rest := []) ⟨hx, hb, hml, hown, hwd⟩ (c_X12_opens l dC dI g c adK adV v22669 F22670 rc H.size  hg hI (by have h9 : v22669 39 = v22659 39 := hf22671 39 (by decide); (try rw [h9]); clear h9; have h9 : v22669 30 = v 30 := (hf22671 30 (by decide)).trans ((hf22661 30 (by decide)).trans (hf22557 30 (by decide))); (try rw [h9]); clear h9; omega)) (cwV 0 hwd (gV wk_1025 wk_1022 wk_1023 wk_1024 wk_5) rfl rfl rfl (by decide +kernel) ⟨Nat.le_of_ble_eq_true rfl, Nat.le_of_ble_eq_true rfl⟩) ⟨PM.blind, va_recv hK hP (ci := 12) (q0 := 0) rfl rfl, fun U hU hW => ⟨rfl, PM.at hK hE hP hS hU hW⟩⟩ rfl rfl hl.1 rfl (lv_room (Nat.le_of_ble_eq_true rfl)) dX12_either_72 ⟨Nat.le_of_ble_eq_true rfl, Nat.le_of_ble_eq_true rfl⟩) hS (fun q _ h => (freeM hS) q h) (freeM hS) (fun r22685 u t H1 locs ht hvm hw hB hz1 hk1 hS => ?_)
          unfold BM at hB
          rw [ht] at hB
          obtain ⟨v22686, F22687, rc9⟩ := u
          obtain ⟨hI, hrc, hf22688, hG22689, hw⟩ := hw
          dsimp only at hI hrc hB hf22688 hG22689 hw
          have hF := frCF (by decide) hG22689 hF
          rw [hrc] at hB
          have hP : va_P (dC, dI) classes (wM g c v22686 F22687 rc) H1 := hB
          have hw : (r22685.toInt = 1 ∧ (v22669 41).toInt < 8 ∧ (v22686 41).toInt = (v22669 41).toInt + 1 ∧ (v22686 39).toInt = (v22669 39).toInt + 1 ∧ (v22686 40).toInt = (v22669 40).toInt) ∨ (r22685.toInt = 0 ∧ (v22669 41).toInt = 8 ∧ 0 ≤ (v22686 40).toInt ∧ (v22686 41).toInt = (v22669 41).toInt ∧ (v22686 39).toInt = (v22669 39).toInt) := hw
          rw [show v22669 41 = v22659 41 from hf22671 41 (by decide)] at hw
          rw [show v22669 39 = v22659 39 from hf22671 39 (by decide)] at hw
          rw [show v22669 40 = v22659 40 from hf22671 40 (by decide)] at hw
          have hw_r22685 := hw
          have t22690 : 0 ≤ (v22686 39).toInt ∧ (v22686 39).toInt ≤ 120 := hI.1 39 _ _ rfl
          have t22691 : 0 ≤ (v22686 41).toInt ∧ (v22686 41).toInt ≤ 8 := hI.1 41 _ _ rfl
          generalize H1 = H at hP hS ⊢
          have hk : keepL (v 37) (F 28) (F 29) (F22687 28) (F22687 29) := by rw [hG22689 28 (by decide), hG22689 29 (by decide)]; exact hk
          have hd : (v22686 40).toInt < 0 → dp (F22687 28) (F22687 29) (bI (v 37)) (v22669 38).toInt.toNat = some (((d + 1) + 1) - 1) := fun hf => (by rw [hG22689 28 (by decide), hG22689 29 (by decide)]; exact hd (by omega))
          refine lv_if_ne (tgt := 79) hx hb dX12_either_75 (by decide) (fun c22692 => ?_) (fun c22692 => ?_)
          · skip
            have t22693 := cv_ne (a := r22685.toInt) rfl (b := 0) (by decide) c22692
            refine lv_aload_n hx hb dX12_either_79 rfl (lv_at hl 1 rfl) ?_
            have t22694 : 0 ≤ (v 30).toInt ∧ (v 30).toInt ≤ 120 := by have h9 := hI.1 30 _ _ rfl; rw [show v22686 30 = v 30 from (hf22688 30 (by decide)).trans ((hf22671 30 (by decide)).trans ((hf22661 30 (by decide)).trans (hf22557 30 (by decide))))] at h9; exact h9
            have t22695 : 0 ≤ (v 37).toInt ∧ (v 37).toInt ≤ 9 := by have h9 := hI.1 37 _ _ rfl; rw [show v22686 37 = v 37 from (hf22688 37 (by decide)).trans ((hf22671 37 (by decide)).trans ((hf22661 37 (by decide)).trans (hf22557 37 (by decide))))] at h9; exact h9
            have t22696 : 0 ≤ (v22669 38).toInt ∧ (v22669 38).toInt ≤ 120 := by have h9 := hI.1 38 _ _ rfl; rw [show v22686 38 = v22669 38 from hf22688 38 (by decide)] at h9; exact h9
            have t22697 : 0 ≤ (v22686 39).toInt ∧ (v22686 39).toInt ≤ 120 := hI.1 39 _ _ rfl
            have t22698 : 0 ≤ (v22686 41).toInt ∧ (v22686 41).toInt ≤ 8 := hI.1 41 _ _ rfl
            refine va_callv (va_runV (As := []) (rest := []) ⟨hx, hb, hml, hown, hwd⟩ (c_X12_either_2 l dC dI g c adK adV v22686 F22687 rc H.size  (((d + 1) + 1) - 1) hg hI (by have h9 : v22686 38 = v22669 38 := hf22688 38 (by decide); (try rw [h9]); clear h9; have h9 : v22686 39 = v22686 39 := rfl; (try rw [h9]); clear h9; have h9 : v22686 30 = v 30 := (hf22688 30 (by decide)).trans ((hf22671 30 (by decide)).trans ((hf22661 30 (by decide)).trans (hf22557 30 (by decide)))); (try rw [h9]); clear h9; have h9 : v22686 40 = v22686 40 := rfl; (try rw [h9]); clear h9; have h9 : v22686 41 = v22686 41 := rfl; (try rw [h9]); clear h9; omega) (by have h9 : v22686 37 = (v 37) := (hf22688 37 (by decide)).trans ((hf22671 37 (by decide)).trans ((hf22661 37 (by decide)).trans (hf22557 37 (by decide)))); have h8 : v22686 38 = (v22669 38) := hf22688 38 (by decide); (try rw [h9]); (try rw [h8]); exact hd (by omega))) (cwV 0 hwd (gV wk_1010 wk_1007 wk_1008 wk_1009 wk_5) rfl rfl rfl (by decide +kernel) ⟨Nat.le_of_ble_eq_true rfl, Nat.le_of_ble_eq_true rfl⟩) ⟨PM.blind, va_recv hK hP (ci := 12) (q0 := 0) rfl rfl, fun U hU hW => ⟨rfl, PM.at hK hE hP hS hU hW⟩⟩ rfl rfl hl.1 rfl (lv_room (Nat.le_of_ble_eq_true rfl)) dX12_either_80 ⟨Nat.le_of_ble_eq_true rfl, Nat.le_of_ble_eq_true rfl⟩) hS (fun q _ h => (freeM hS) q h) (freeM hS) (fun u t H1 locs ht hvm hw hB hz1 hk1 hS => ?_)
            unfold BM at hB
            rw [ht] at hB
            obtain ⟨v22700, F22701, rc9⟩ := u
            obtain ⟨hI, hrc, hf22702, hG22703, hw⟩ := hw
            dsimp only at hI hrc hB hf22702 hG22703 hw
            have hF := frCF (by decide) hG22703 hF
            rw [hrc] at hB
            have hP : va_P (dC, dI) classes (wM g c v22700 F22701 rc) H1 := hB
            have hw : ((v22686 39).toInt ≤ (v22700 39).toInt ∧ (v22700 39).toInt ≤ (v22686 30).toInt ∧ (v22686 38).toInt ≤ (v22700 38).toInt ∧ (v22700 38).toInt - (v22686 38).toInt ≤ (v22700 39).toInt - (v22686 39).toInt ∧ (v22686 41).toInt ≤ (v22700 41).toInt ∧ ((v22700 40).toInt < 0 → (v22700 41).toInt = (v22686 41).toInt)) ∧ keepL (v22686 37) (F22687 28) (F22687 29) (F22701 28) (F22701 29) ∧ ((v22700 40).toInt < 0 → dp (F22701 28) (F22701 29) (bI (v22686 37)) (v22700 38).toInt.toNat = some ((((d + 1) + 1) - 1) + 1)) := hw
            rw [show v22686 30 = v 30 from (hf22688 30 (by decide)).trans ((hf22671 30 (by decide)).trans ((hf22661 30 (by decide)).trans (hf22557 30 (by decide))))] at hw
            rw [show v22686 38 = v22669 38 from hf22688 38 (by decide)] at hw
            rw [show v22686 37 = v 37 from (hf22688 37 (by decide)).trans ((hf22671 37 (by decide)).trans ((hf22661 37 (by decide)).trans (hf22557 37 (by decide))))] at hw
            have hw_r22699 := hw
            have t22704 : 0 ≤ (v22700 38).toInt ∧ (v22700 38).toInt ≤ 120 := hI.1 38 _ _ rfl
            have t22705 : 0 ≤ (v22700 39).toInt ∧ (v22700 39).toInt ≤ 120 := hI.1 39 _ _ rfl
            have t22706 : 0 ≤ (v22700 41).toInt ∧ (v22700 41).toInt ≤ 8 := hI.1 41 _ _ rfl
            generalize H1 = H at hP hS ⊢
            have hk := hk.tr hw_r22699.2.1
            have hd := hw_r22699.2.2
            refine lv_aload_n hx hb dX12_either_83 rfl (lv_at hl 1 rfl) ?_
            refine va_get (D := (dC, dI)) (ci := 12) (v := .int (v22700 40)) (C := RX12) (T := TX12) (N := 63) hx hb hwd inA_X12 hown hK hP 0 rfl rfl 40 (by decide) (hwd _ wk_1005) (fun _ h9 => h9) rfl dX12_either_84 ?_
            refine lv_if_lt (tgt := 91) hx hb dX12_either_87 (by decide) (fun c22707 => ?_) (fun c22707 => ?_)
            · skip
              have t22708 := cv_lt (a := (v22700 40).toInt) rfl (b := 0) (by decide) c22707
              refine lv_aload_n hx hb dX12_either_91 rfl (lv_at hl 1 rfl) ?_
              have t22709 : 0 ≤ (v 30).toInt ∧ (v 30).toInt ≤ 120 := by have h9 := hI.1 30 _ _ rfl; rw [show v22700 30 = v 30 from (hf22702 30 (by decide)).trans ((hf22688 30 (by decide)).trans ((hf22671 30 (by decide)).trans ((hf22661 30 (by decide)).trans (hf22557 30 (by decide)))))] at h9; exact h9
              have t22710 : 0 ≤ (v22700 39).toInt ∧ (v22700 39).toInt ≤ 120 := hI.1 39 _ _ rfl
              refine va_calli (va_runV (As := []) (rest := []) ⟨hx, hb, hml, hown, hwd⟩ (c_X12_look l dC dI g c adK adV v22700 F22701 rc H.size  hg hI ) (cwV 0 hwd (gV wk_1017 wk_1014 wk_1015 wk_1016 wk_5) rfl rfl rfl (by decide +kernel) ⟨Nat.le_of_ble_eq_true rfl, Nat.le_of_ble_eq_true rfl⟩) ⟨PM.blind, va_recv hK hP (ci := 12) (q0 := 0) rfl rfl, fun U hU hW => ⟨rfl, PM.at hK hE hP hS hU hW⟩⟩ rfl rfl hl.1 rfl (lv_room (Nat.le_of_ble_eq_true rfl)) dX12_either_92 ⟨Nat.le_of_ble_eq_true rfl, Nat.le_of_ble_eq_true rfl⟩) hS (fun q _ h => (freeM hS) q h) (freeM hS) (fun r22711 u t H1 locs ht hvm hw hB hz1 hk1 hS => ?_)
              unfold BM at hB
              rw [ht] at hB
              have hP : va_P (dC, dI) classes (wM g c v22700 F22701 rc) H1 := hB
              have hw : r22711.toInt = lkM (v22700 39) (v22700 30) (F22701 24) ∧ ((v22700 39).toInt < (v22700 30).toInt ∨ r22711.toInt = -1) := hw
              rw [show v22700 30 = v 30 from (hf22702 30 (by decide)).trans ((hf22688 30 (by decide)).trans ((hf22671 30 (by decide)).trans ((hf22661 30 (by decide)).trans (hf22557 30 (by decide)))))] at hw
              rw [hF 24 (by decide)] at hw
              have hw_r22711 := hw
              generalize H1 = H at hP hS ⊢
              refine lv_bipush (v := 58) hx hb dX12_either_95 (by decide) ?_
              refine lv_icmp_eq (tgt := 105) hx hb dX12_either_97 (by decide) (fun c22712 => ?_) (fun c22712 => ?_)
              · skip
                have t22713 := cv_eq (a := r22711.toInt) rfl (b := 58) (by decide) c22712
                refine lv_aload_n hx hb dX12_either_105 rfl (lv_at hl 1 rfl) ?_
                refine lv_dup hx hb dX12_either_106 rfl ?_
                refine va_get (D := (dC, dI)) (ci := 12) (v := .int (v22700 39)) (C := RX12) (T := TX12) (N := 63) hx hb hwd inA_X12 hown hK hP 0 rfl rfl 39 (by decide) (hwd _ wk_1004) (fun _ h9 => h9) rfl dX12_either_107 ?_
                have t22714 : 0 ≤ (v22700 39).toInt ∧ (v22700 39).toInt ≤ 120 := hI.1 39 _ _ rfl
                refine lv_iconst (v := 1) hx hb dX12_either_110 (by decide) ?_
                refine lv_iadd hx hb dX12_either_111 ?_
                refine lv_topi (fun z22715 e22716 => ?_)
                try (have t22717 := tadd e22716 (a := (v22700 39).toInt) rfl (b := 1) (by decide) (by omega))
                refine va_put (D := (dC, dI)) (ci := 12) (v := .int z22715) (ty := .int) (C := RX12) (T := TX12) (N := 63) (fs := fsM_0 g v22700 rc) hx hb hwd inA_X12 tyX12 tyX12_ok nmX12 hown hK hP (DM hg) hS 0 rfl rfl 39 (by decide) (hwd _ wk_1004) (fun _ h9 => h9) rfl (by decide +kernel) rfl rfl (Nat.le_of_ble_eq_true rfl) dX12_either_112 (fun H locs hP _ hS => ?_)
                have hP := va_P_eq (pM_39 g c _ _ _ _) hP
                have hI := IM.put hI 39 z22715 rfl (by omega)
                refine lv_aload_n hx hb dX12_either_115 rfl (lv_at hl 1 rfl) ?_
                have t22718 : 0 ≤ (v 30).toInt ∧ (v 30).toInt ≤ 120 := by have h9 := hI.1 30 _ _ rfl; rw [show (va_up v22700 39 z22715) 30 = v 30 from (hf22702 30 (by decide)).trans ((hf22688 30 (by decide)).trans ((hf22671 30 (by decide)).trans ((hf22661 30 (by decide)).trans (hf22557 30 (by decide)))))] at h9; exact h9
                have t22719 : 0 ≤ (v 37).toInt ∧ (v 37).toInt ≤ 9 := by have h9 := hI.1 37 _ _ rfl; rw [show (va_up v22700 39 z22715) 37 = v 37 from (hf22702 37 (by decide)).trans ((hf22688 37 (by decide)).trans ((hf22671 37 (by decide)).trans ((hf22661 37 (by decide)).trans (hf22557 37 (by decide)))))] at h9; exact h9
                have t22720 : 0 ≤ (v22700 38).toInt ∧ (v22700 38).toInt ≤ 120 := hI.1 38 _ _ rfl
                have t22721 : 0 ≤ z22715.toInt ∧ z22715.toInt ≤ 120 := hI.1 39 _ _ rfl
                have t22722 : 0 ≤ (v22700 41).toInt ∧ (v22700 41).toInt ≤ 8 := hI.1 41 _ _ rfl
                refine va_callv (va_runV (As := []) (rest := []) ⟨hx, hb, hml, hown, hwd⟩ (c_X12_either_2 l dC dI g c adK adV (va_up v22700 39 z22715) F22701 rc H.size  ((((d + 1) + 1) - 1) + 1) hg hI (by have h9 : (va_up v22700 39 z22715) 38 = v22700 38 := rfl; (try rw [h9]); clear h9; have h9 : (va_up v22700 39 z22715) 39 = z22715 := rfl; (try rw [h9]); clear h9; have h9 : (va_up v22700 39 z22715) 30 = v 30 := (hf22702 30 (by decide)).trans ((hf22688 30 (by decide)).trans ((hf22671 30 (by decide)).trans ((hf22661 30 (by decide)).trans (hf22557 30 (by decide))))); (try rw [h9]); clear h9; have h9 : (va_up v22700 39 z22715) 40 = v22700 40 := rfl; (try rw [h9]); clear h9; have h9 : (va_up v22700 39 z22715) 41 = v22700 41 := rfl; (try rw [h9]); clear h9; omega) (by have h9 : (va_up v22700 39 z22715) 37 = (v 37) := (hf22702 37 (by decide)).trans ((hf22688 37 (by decide)).trans ((hf22671 37 (by decide)).trans ((hf22661 37 (by decide)).trans (hf22557 37 (by decide))))); have h8 : (va_up v22700 39 z22715) 38 = (v22700 38) := rfl; (try rw [h9]); (try rw [h8]); exact hd (by omega))) (cwV 0 hwd (gV wk_1010 wk_1007 wk_1008 wk_1009 wk_5) rfl rfl rfl (by decide +kernel) ⟨Nat.le_of_ble_eq_true rfl, Nat.le_of_ble_eq_true rfl⟩) ⟨PM.blind, va_recv hK hP (ci := 12) (q0 := 0) rfl rfl, fun U hU hW => ⟨rfl, PM.at hK hE hP hS hU hW⟩⟩ rfl rfl hl.1 rfl (lv_room (Nat.le_of_ble_eq_true rfl)) dX12_either_116 ⟨Nat.le_of_ble_eq_true rfl, Nat.le_of_ble_eq_true rfl⟩) hS (fun q _ h => (freeM hS) q h) (freeM hS) (fun u t H1 locs ht hvm hw hB hz1 hk1 hS => ?_)
                unfold BM at hB
                rw [ht] at hB
                obtain ⟨v22724, F22725, rc9⟩ := u
                obtain ⟨hI, hrc, hf22726, hG22727, hw⟩ := hw
                dsimp only at hI hrc hB hf22726 hG22727 hw
                have hF := frCF (by decide) hG22727 hF
                rw [hrc] at hB
                have hP : va_P (dC, dI) classes (wM g c v22724 F22725 rc) H1 := hB
                have hw : (z22715.toInt ≤ (v22724 39).toInt ∧ (v22724 39).toInt ≤ ((va_up v22700 39 z22715) 30).toInt ∧ (v22700 38).toInt ≤ (v22724 38).toInt ∧ (v22724 38).toInt - (v22700 38).toInt ≤ (v22724 39).toInt - z22715.toInt ∧ (v22700 41).toInt ≤ (v22724 41).toInt ∧ ((v22724 40).toInt < 0 → (v22724 41).toInt = (v22700 41).toInt)) ∧ keepL ((va_up v22700 39 z22715) 37) (F22701 28) (F22701 29) (F22725 28) (F22725 29) ∧ ((v22724 40).toInt < 0 → dp (F22725 28) (F22725 29) (bI ((va_up v22700 39 z22715) 37)) (v22724 38).toInt.toNat = some (((((d + 1) + 1) - 1) + 1) + 1)) := hw
                rw [show (va_up v22700 39 z22715) 30 = v 30 from (hf22702 30 (by decide)).trans ((hf22688 30 (by decide)).trans ((hf22671 30 (by decide)).trans ((hf22661 30 (by decide)).trans (hf22557 30 (by decide)))))] at hw
                rw [show (va_up v22700 39 z22715) 37 = v 37 from (hf22702 37 (by decide)).trans ((hf22688 37 (by decide)).trans ((hf22671 37 (by decide)).trans ((hf22661 37 (by decide)).trans (hf22557 37 (by decide)))))] at hw
                have hw_r22723 := hw
                have t22728 : 0 ≤ (v22724 38).toInt ∧ (v22724 38).toInt ≤ 120 := hI.1 38 _ _ rfl
                have t22729 : 0 ≤ (v22724 39).toInt ∧ (v22724 39).toInt ≤ 120 := hI.1 39 _ _ rfl
                have t22730 : 0 ≤ (v22724 41).toInt ∧ (v22724 41).toInt ≤ 8 := hI.1 41 _ _ rfl
                generalize H1 = H at hP hS ⊢
                have hk := hk.tr hw_r22723.2.1
                have hd := hw_r22723.2.2
                refine lv_aload_n hx hb dX12_either_119 rfl (lv_at hl 1 rfl) ?_
                refine lv_iconst (v := 4) hx hb dX12_either_120 (by decide) ?_
                refine lv_iconst (v := 0) hx hb dX12_either_121 (by decide) ?_
                have t22731 : 0 ≤ (v 37).toInt ∧ (v 37).toInt ≤ 9 := by have h9 := hI.1 37 _ _ rfl; rw [show v22724 37 = v 37 from (hf22726 37 (by decide)).trans ((hf22702 37 (by decide)).trans ((hf22688 37 (by decide)).trans ((hf22671 37 (by decide)).trans ((hf22661 37 (by decide)).trans (hf22557 37 (by decide))))))] at h9; exact h9
                have t22732 : 0 ≤ (v22724 38).toInt ∧ (v22724 38).toInt ≤ 120 := hI.1 38 _ _ rfl
                refine va_callv (va_runV (As := [.int 4, .int 0]) (rest := []) ⟨hx, hb, hml, hown, hwd⟩ (c_X12_lay l dC dI g c adK adV v22724 F22725 rc H.size 4 0 hg hI (by have h9 : v22724 38 = v22724 38 := rfl; rw [h9]; omega)) (cwV 2 hwd (gV wk_1021 wk_1018 wk_1019 wk_1020 wk_5) rfl rfl rfl (by decide +kernel) ⟨Nat.le_of_ble_eq_true rfl, Nat.le_of_ble_eq_true rfl⟩) ⟨PM.blind, va_recv hK hP (ci := 12) (q0 := 0) rfl rfl, fun U hU hW => ⟨rfl, PM.at hK hE hP hS hU hW⟩⟩ rfl rfl hl.1 rfl (lv_room (Nat.le_of_ble_eq_true rfl)) dX12_either_122 ⟨Nat.le_of_ble_eq_true rfl, Nat.le_of_ble_eq_true rfl⟩) hS (fun q _ h => (freeM hS) q h) (freeM hS) (fun u t H1 locs ht hvm hw hB hz1 hk1 hS => ?_)
                unfold BM at hB
                rw [ht] at hB
                obtain ⟨v22734, F22735, rc9⟩ := u
                obtain ⟨hI, hrc, hf22736, hG22737, hw⟩ := hw
                dsimp only at hI hrc hB hf22736 hG22737 hw
                have hF := frCF (by decide) hG22737 hF
                rw [hrc] at hB
                have hP : va_P (dC, dI) classes (wM g c v22734 F22735 rc) H1 := hB
                have hw : (v22734 38).toInt = (v22724 38).toInt + 1 ∧ keepL (v22724 37) (F22725 28) (F22725 29) (F22735 28) (F22735 29) ∧ dp (F22735 28) (F22735 29) (bI (v22724 37)) ((v22724 38).toInt.toNat + 1) = dpS (dp (F22725 28) (F22725 29) (bI (v22724 37)) (v22724 38).toInt.toNat) (4 : Int32) (0 : Int32) := hw
                rw [show v22724 37 = v 37 from (hf22726 37 (by decide)).trans ((hf22702 37 (by decide)).trans ((hf22688 37 (by decide)).trans ((hf22671 37 (by decide)).trans ((hf22661 37 (by decide)).trans (hf22557 37 (by decide))))))] at hw
                have hw_r22733 := hw
                have t22738 : 0 ≤ (v22734 38).toInt ∧ (v22734 38).toInt ≤ 120 := hI.1 38 _ _ rfl
                have k22739 : (4 : Int32).toInt = 4 := by decide
                have k22740 : (0 : Int32).toInt = 0 := by decide
                generalize H1 = H at hP hS ⊢
                have hk := hk.tr hw_r22733.2.1
                have hd : (v22724 40).toInt < 0 → dp (F22735 28) (F22735 29) (bI (v 37)) (v22734 38).toInt.toNat = some ((((((d + 1) + 1) - 1) + 1) + 1) - 2) := fun hf => (by have e9 : (v22734 38).toInt.toNat = (v22724 38).toInt.toNat + 1 := (by omega); rw [e9, hw_r22733.2.2, hd hf]; exact dpS_4 (by decide) (by omega))
                refine lv_aload_n hx hb dX12_either_125 rfl (lv_at hl 1 rfl) ?_
                refine lv_dup hx hb dX12_either_126 rfl ?_
                refine va_get (D := (dC, dI)) (ci := 12) (v := .int (v22734 41)) (C := RX12) (T := TX12) (N := 63) hx hb hwd inA_X12 hown hK hP 0 rfl rfl 41 (by decide) (hwd _ wk_1006) (fun _ h9 => h9) rfl dX12_either_127 ?_
                refine my_top (v := v22724 41) (hf22736 41 (by decide)) ?_
                have t22741 : 0 ≤ (v22724 41).toInt ∧ (v22724 41).toInt ≤ 8 := by have h9 := hI.1 41 _ _ rfl; rw [show v22734 41 = v22724 41 from hf22736 41 (by decide)] at h9; exact h9
                refine lv_iconst (v := 1) hx hb dX12_either_130 (by decide) ?_
                refine lv_isub hx hb dX12_either_131 ?_
                refine lv_topi (fun z22742 e22743 => ?_)
                try (have t22744 := tsub e22743 (a := (v22724 41).toInt) rfl (b := 1) (by decide) (by omega))
                refine va_put (D := (dC, dI)) (ci := 12) (v := .int z22742) (ty := .int) (C := RX12) (T := TX12) (N := 63) (fs := fsM_0 g v22734 rc) hx hb hwd inA_X12 tyX12 tyX12_ok nmX12 hown hK hP (DM hg) hS 0 rfl rfl 41 (by decide) (hwd _ wk_1006) (fun _ h9 => h9) rfl (by decide +kernel) rfl rfl (Nat.le_of_ble_eq_true rfl) dX12_either_132 (fun H locs hP _ hS => ?_)
                have hP := va_P_eq (pM_41 g c _ _ _ _) hP
                have hI := IM.put hI 41 z22742 rfl (by omega)
                have hP9 : va_P (dC, dI) classes (wM g c (va_up v22734 41 z22742) F22735 rc) H := hP
                exact W.vret hx hb hr (fun t ht hW => ⟨⟨((va_up v22734 41 z22742), F22735, rc), rfl, ⟨hI, rfl, (frU (by decide) (frC (by decide) hf22736 (frC (by decide) hf22726 (frU (by decide) (frC (by decide) hf22702 (frC (by decide) hf22688 (frC (by decide) hf22671 (frC (by decide) hf22661 (frU (by decide) (frC (by decide) hf22557 (fun _ _ => rfl))))))))))), hF, (by show ((v 39).toInt ≤ ((va_up v22734 41 z22742) 39).toInt ∧ ((va_up v22734 41 z22742) 39).toInt ≤ (v 30).toInt ∧ (v 38).toInt ≤ (v22734 38).toInt ∧ (v22734 38).toInt - (v 38).toInt ≤ ((va_up v22734 41 z22742) 39).toInt - (v 39).toInt ∧ (v 41).toInt ≤ z22742.toInt ∧ (((va_up v22734 41 z22742) 40).toInt < 0 → z22742.toInt = (v 41).toInt)) ∧ keepL (v 37) (F 28) (F 29) (F22735 28) (F22735 29) ∧ (((va_up v22734 41 z22742) 40).toInt < 0 → dp (F22735 28) (F22735 29) (bI (v 37)) (v22734 38).toInt.toNat = some (d + 1)); rw [show (va_up v22734 41 z22742) 39 = v22724 39 from hf22736 39 (by decide)]; rw [show (va_up v22734 41 z22742) 40 = v22724 40 from hf22736 40 (by decide)]; exact ⟨by omega, hk, fun hf => (hd (by omega)).trans (congrArg some (by omega))⟩)⟩, (by show va_P _ _ _ t.heap; rw [ht]; exact hP9)⟩, hS.F ht⟩) hS.2.2 dX12_either_135
              · skip
                have t22745 := cv_ne (a := r22711.toInt) rfl (b := 58) (by decide) c22712
                refine lv_aload_n hx hb dX12_either_100 rfl (lv_at hl 1 rfl) ?_
                refine va_callv (va_runV (As := []) (rest := []) ⟨hx, hb, hml, hown, hwd⟩ (c_X12_wrong l dC dI g c adK adV v22700 F22701 rc H.size  hg hI ) (cwV 0 hwd (gV wk_1029 wk_1026 wk_1027 wk_1028 wk_5) rfl rfl rfl (by decide +kernel) ⟨Nat.le_of_ble_eq_true rfl, Nat.le_of_ble_eq_true rfl⟩) ⟨PM.blind, va_recv hK hP (ci := 12) (q0 := 0) rfl rfl, fun U hU hW => ⟨rfl, PM.at hK hE hP hS hU hW⟩⟩ rfl rfl hl.1 rfl (lv_room (Nat.le_of_ble_eq_true rfl)) dX12_either_101 ⟨Nat.le_of_ble_eq_true rfl, Nat.le_of_ble_eq_true rfl⟩) hS (fun q _ h => (freeM hS) q h) (freeM hS) (fun u t H1 locs ht hvm hw hB hz1 hk1 hS => ?_)
                unfold BM at hB
                rw [ht] at hB
                obtain ⟨v22747, F22748, rc9⟩ := u
                obtain ⟨hI, hrc, hf22749, hG22750, hw⟩ := hw
                dsimp only at hI hrc hB hf22749 hG22750 hw
                have hF := frCF (by decide) hG22750 hF
                rw [hrc] at hB
                have hP : va_P (dC, dI) classes (wM g c v22747 F22748 rc) H1 := hB
                have hw : 0 ≤ (v22747 40).toInt := hw
                have hw_r22746 := hw
                generalize H1 = H at hP hS ⊢
                have hk : keepL (v 37) (F 28) (F 29) (F22748 28) (F22748 29) := by rw [hG22750 28 (by decide), hG22750 29 (by decide)]; exact hk
                have hd : (v22747 40).toInt < 0 → dp (F22748 28) (F22748 29) (bI (v 37)) (v22700 38).toInt.toNat = some ((((d + 1) + 1) - 1) + 1) := fun hf => (by rw [hG22750 28 (by decide), hG22750 29 (by decide)]; exact hd (by omega))
                have hP9 : va_P (dC, dI) classes (wM g c v22747 F22748 rc) H := hP
                exact W.vret hx hb hr (fun t ht hW => ⟨⟨(v22747, F22748, rc), rfl, ⟨hI, rfl, (frC (by decide) hf22749 (frC (by decide) hf22702 (frC (by decide) hf22688 (frC (by decide) hf22671 (frC (by decide) hf22661 (frU (by decide) (frC (by decide) hf22557 (fun _ _ => rfl)))))))), hF, (by show ((v 39).toInt ≤ (v22747 39).toInt ∧ (v22747 39).toInt ≤ (v 30).toInt ∧ (v 38).toInt ≤ (v22747 38).toInt ∧ (v22747 38).toInt - (v 38).toInt ≤ (v22747 39).toInt - (v 39).toInt ∧ (v 41).toInt ≤ (v22747 41).toInt ∧ ((v22747 40).toInt < 0 → (v22747 41).toInt = (v 41).toInt)) ∧ keepL (v 37) (F 28) (F 29) (F22748 28) (F22748 29) ∧ ((v22747 40).toInt < 0 → dp (F22748 28) (F22748 29) (bI (v 37)) (v22747 38).toInt.toNat = some (d + 1)); rw [show v22747 39 = v22700 39 from hf22749 39 (by decide)]; rw [show v22747 38 = v22700 38 from hf22749 38 (by decide)]; rw [show v22747 41 = v22700 41 from hf22749 41 (by decide)]; exact ⟨by omega, hk, fun hf => (hd (by omega)).trans (congrArg some (by omega))⟩)⟩, (by show va_P _ _ _ t.heap; rw [ht]; exact hP9)⟩, hS.F ht⟩) hS.2.2 dX12_either_104
            · skip
              have t22751 := cv_nlt (a := (v22700 40).toInt) rfl (b := 0) (by decide) c22707
              have hP9 : va_P (dC, dI) classes (wM g c v22700 F22701 rc) H := hP
              exact W.vret hx hb hr (fun t ht hW => ⟨⟨(v22700, F22701, rc), rfl, ⟨hI, rfl, (frC (by decide) hf22702 (frC (by decide) hf22688 (frC (by decide) hf22671 (frC (by decide) hf22661 (frU (by decide) (frC (by decide) hf22557 (fun _ _ => rfl))))))), hF, (by show ((v 39).toInt ≤ (v22700 39).toInt ∧ (v22700 39).toInt ≤ (v 30).toInt ∧ (v 38).toInt ≤ (v22700 38).toInt ∧ (v22700 38).toInt - (v 38).toInt ≤ (v22700 39).toInt - (v 39).toInt ∧ (v 41).toInt ≤ (v22700 41).toInt ∧ ((v22700 40).toInt < 0 → (v22700 41).toInt = (v 41).toInt)) ∧ keepL (v 37) (F 28) (F 29) (F22701 28) (F22701 29) ∧ ((v22700 40).toInt < 0 → dp (F22701 28) (F22701 29) (bI (v 37)) (v22700 38).toInt.toNat = some (d + 1)); exact ⟨by omega, hk, fun hf => (hd (by omega)).trans (congrArg some (by omega))⟩)⟩, (by show va_P _ _ _ t.heap; rw [ht]; exact hP9)⟩, hS.F ht⟩) hS.2.2 dX12_either_90
          · skip
            have t22752 := cv_eq (a := r22685.toInt) rfl (b := 0) (by decide) c22692
            have hP9 : va_P (dC, dI) classes (wM g c v22686 F22687 rc) H := hP
            exact W.vret hx hb hr (fun t ht hW => ⟨⟨(v22686, F22687, rc), rfl, ⟨hI, rfl, (frC (by decide) hf22688 (frC (by decide) hf22671 (frC (by decide) hf22661 (frU (by decide) (frC (by decide) hf22557 (fun _ _ => rfl)))))), hF, (by show ((v 39).toInt ≤ (v22686 39).toInt ∧ (v22686 39).toInt ≤ (v 30).toInt ∧ (v 38).toInt ≤ (v22686 38).toInt ∧ (v22686 38).toInt - (v 38).toInt ≤ (v22686 39).toInt - (v 39).toInt ∧ (v 41).toInt ≤ (v22686 41).toInt ∧ ((v22686 40).toInt < 0 → (v22686 41).toInt = (v 41).toInt)) ∧ keepL (v 37) (F 28) (F 29) (F22687 28) (F22687 29) ∧ ((v22686 40).toInt < 0 → dp (F22687 28) (F22687 29) (bI (v 37)) (v22686 38).toInt.toNat = some (d + 1)); rw [show v22686 38 = v22669 38 from hf22688 38 (by decide)]; exact ⟨by omega, hk, fun hf => (hd (by omega)).trans (congrArg some (by omega))⟩)⟩, (by show va_P _ _ _ t.heap; rw [ht]; exact hP9)⟩, hS.F ht⟩) hS.2.2 dX12_either_78
        · skip
          have t22753 := cv_ne (a := r22680.toInt) rfl (b := 63) (by decide) c22681
          have hP9 : va_P (dC, dI) classes (wM g c v22669 F22670 rc) H := hP
          exact W.vret hx hb hr (fun t ht hW => ⟨⟨(v22669, F22670, rc), rfl, ⟨hI, rfl, (frC (by decide) hf22671 (frC (by decide) hf22661 (frU (by decide) (frC (by decide) hf22557 (fun _ _ => rfl))))), hF, (by show ((v 39).toInt ≤ (v22669 39).toInt ∧ (v22669 39).toInt ≤ (v 30).toInt ∧ (v 38).toInt ≤ (v22669 38).toInt ∧ (v22669 38).toInt - (v 38).toInt ≤ (v22669 39).toInt - (v 39).toInt ∧ (v 41).toInt ≤ (v22669 41).toInt ∧ ((v22669 40).toInt < 0 → (v22669 41).toInt = (v 41).toInt)) ∧ keepL (v 37) (F 28) (F 29) (F22670 28) (F22670 29) ∧ ((v22669 40).toInt < 0 → dp (F22670 28) (F22670 29) (bI (v 37)) (v22669 38).toInt.toNat = some (d + 1)); rw [show v22669 39 = v22659 39 from hf22671 39 (by decide)]; rw [show v22669 41 = v22659 41 from hf22671 41 (by decide)]; rw [show v22669 40 = v22659 40 from hf22671 40 (by decide)]; exact ⟨by omega, hk, fun hf => (hd (by omega)).trans (congrArg some (by omega))⟩)⟩, (by show va_P _ _ _ t.heap; rw [ht]; exact hP9)⟩, hS.F ht⟩) hS.2.2 dX12_either_70
    · skip
      have t22754 := cv_ne (a := r22564.toInt) rfl (b := 60) (by decide) c22647
      refine lv_iload_n hx hb dX12_either_22 rfl (lv_at hl 0 rfl) ?_
      refine lv_bipush (v := 61) hx hb dX12_either_23 (by decide) ?_
      refine lv_icmp_eq (tgt := 34) hx hb dX12_either_25 (by decide) (fun c22755 => ?_) (fun c22755 => ?_)
      · skip
        have t22756 := cv_eq (a := r22564.toInt) rfl (b := 61) (by decide) c22755
        refine lv_aload_n hx hb dX12_either_34 rfl (lv_at hl 1 rfl) ?_
        refine lv_dup hx hb dX12_either_35 rfl ?_
        refine va_get (D := (dC, dI)) (ci := 12) (v := .int (v22555 39)) (C := RX12) (T := TX12) (N := 63) hx hb hwd inA_X12 hown hK hP 0 rfl rfl 39 (by decide) (hwd _ wk_1004) (fun _ h9 => h9) rfl dX12_either_36 ?_
        have t22757 : 0 ≤ (v22555 39).toInt ∧ (v22555 39).toInt ≤ 120 := hI.1 39 _ _ rfl
        refine lv_iconst (v := 1) hx hb dX12_either_39 (by decide) ?_
        refine lv_iadd hx hb dX12_either_40 ?_
        refine lv_topi (fun z22758 e22759 => ?_)
        try (have t22760 := tadd e22759 (a := (v22555 39).toInt) rfl (b := 1) (by decide) (by omega))
        refine va_put (D := (dC, dI)) (ci := 12) (v := .int z22758) (ty := .int) (C := RX12) (T := TX12) (N := 63) (fs := fsM_0 g v22555 rc) hx hb hwd inA_X12 tyX12 tyX12_ok nmX12 hown hK hP (DM hg) hS 0 rfl rfl 39 (by decide) (hwd _ wk_1004) (fun _ h9 => h9) rfl (by decide +kernel) rfl rfl (Nat.le_of_ble_eq_true rfl) dX12_either_41 (fun H locs hP _ hS => ?_)
        have hP := va_P_eq (pM_39 g c _ _ _ _) hP
        have hI := IM.put hI 39 z22758 rfl (by omega)
        refine lv_aload_n hx hb dX12_either_44 rfl (lv_at hl 1 rfl) ?_
        have t22761 : 0 ≤ (v 30).toInt ∧ (v 30).toInt ≤ 120 := by have h9 := hI.1 30 _ _ rfl; rw [show (va_up v22555 39 z22758) 30 = v 30 from hf22557 30 (by decide)] at h9; exact h9
        have t22762 : 0 ≤ (v 37).toInt ∧ (v 37).toInt ≤ 9 := by have h9 := hI.1 37 _ _ rfl; rw [show (va_up v22555 39 z22758) 37 = v 37 from hf22557 37 (by decide)] at h9; exact h9
        have t22763 : 0 ≤ (v22555 38).toInt ∧ (v22555 38).toInt ≤ 120 := hI.1 38 _ _ rfl
        have t22764 : 0 ≤ z22758.toInt ∧ z22758.toInt ≤ 120 := hI.1 39 _ _ rfl
        have t22765 : 0 ≤ (v22555 41).toInt ∧ (v22555 41).toInt ≤ 8 := hI.1 41 _ _ rfl
        refine va_callv (va_runV (As := []) (rest := []) ⟨hx, hb, hml, hown, hwd⟩ (c_X12_sum_1 l dC dI g c adK adV (va_up v22555 39 z22758) F22556 rc H.size  (d + 1) hg hI (by have h9 : (va_up v22555 39 z22758) 38 = v22555 38 := rfl; (try rw [h9]); clear h9; have h9 : (va_up v22555 39 z22758) 39 = z22758 := rfl; (try rw [h9]); clear h9; have h9 : (va_up v22555 39 z22758) 30 = v 30 := hf22557 30 (by decide); (try rw [h9]); clear h9; have h9 : (va_up v22555 39 z22758) 40 = v22555 40 := rfl; (try rw [h9]); clear h9; have h9 : (va_up v22555 39 z22758) 41 = v22555 41 := rfl; (try rw [h9]); clear h9; omega) (by have h9 : (va_up v22555 39 z22758) 37 = (v 37) := hf22557 37 (by decide); have h8 : (va_up v22555 39 z22758) 38 = (v22555 38) := rfl; (try rw [h9]); (try rw [h8]); exact hd (by omega))) (cwV 0 hwd (gV wk_1043 wk_1011 wk_1012 wk_1013 wk_5) rfl rfl rfl (by decide +kernel) ⟨Nat.le_of_ble_eq_true rfl, Nat.le_of_ble_eq_true rfl⟩) ⟨PM.blind, va_recv hK hP (ci := 12) (q0 := 0) rfl rfl, fun U hU hW => ⟨rfl, PM.at hK hE hP hS hU hW⟩⟩ rfl rfl hl.1 rfl (lv_room (Nat.le_of_ble_eq_true rfl)) dX12_either_45 ⟨Nat.le_of_ble_eq_true rfl, Nat.le_of_ble_eq_true rfl⟩) hS (fun q _ h => (freeM hS) q h) (freeM hS) (fun u t H1 locs ht hvm hw hB hz1 hk1 hS => ?_)
        unfold BM at hB
        rw [ht] at hB
        obtain ⟨v22767, F22768, rc9⟩ := u
        obtain ⟨hI, hrc, hf22769, hG22770, hw⟩ := hw
        dsimp only at hI hrc hB hf22769 hG22770 hw
        have hF := frCF (by decide) hG22770 hF
        rw [hrc] at hB
        have hP : va_P (dC, dI) classes (wM g c v22767 F22768 rc) H1 := hB
        have hw : (z22758.toInt ≤ (v22767 39).toInt ∧ (v22767 39).toInt ≤ ((va_up v22555 39 z22758) 30).toInt ∧ (v22555 38).toInt ≤ (v22767 38).toInt ∧ (v22767 38).toInt - (v22555 38).toInt ≤ (v22767 39).toInt - z22758.toInt ∧ (v22555 41).toInt ≤ (v22767 41).toInt ∧ ((v22767 40).toInt < 0 → (v22767 41).toInt = (v22555 41).toInt)) ∧ keepL ((va_up v22555 39 z22758) 37) (F22556 28) (F22556 29) (F22768 28) (F22768 29) ∧ ((v22767 40).toInt < 0 → dp (F22768 28) (F22768 29) (bI ((va_up v22555 39 z22758) 37)) (v22767 38).toInt.toNat = some ((d + 1) + 1)) := hw
        rw [show (va_up v22555 39 z22758) 30 = v 30 from hf22557 30 (by decide)] at hw
        rw [show (va_up v22555 39 z22758) 37 = v 37 from hf22557 37 (by decide)] at hw
        have hw_r22766 := hw
        have t22771 : 0 ≤ (v22767 38).toInt ∧ (v22767 38).toInt ≤ 120 := hI.1 38 _ _ rfl
        have t22772 : 0 ≤ (v22767 39).toInt ∧ (v22767 39).toInt ≤ 120 := hI.1 39 _ _ rfl
        have t22773 : 0 ≤ (v22767 41).toInt ∧ (v22767 41).toInt ≤ 8 := hI.1 41 _ _ rfl
        generalize H1 = H at hP hS ⊢
        have hk := hk.tr hw_r22766.2.1
        have hd := hw_r22766.2.2
        refine lv_aload_n hx hb dX12_either_48 rfl (lv_at hl 1 rfl) ?_
        refine lv_iload_n hx hb dX12_either_49 rfl (lv_at hl 0 rfl) ?_
        refine lv_iconst (v := 0) hx hb dX12_either_50 (by decide) ?_
        have t22774 : 0 ≤ (v 37).toInt ∧ (v 37).toInt ≤ 9 := by have h9 := hI.1 37 _ _ rfl; rw [show v22767 37 = v 37 from (hf22769 37 (by decide)).trans (hf22557 37 (by decide))] at h9; exact h9
        have t22775 : 0 ≤ (v22767 38).toInt ∧ (v22767 38).toInt ≤ 120 := hI.1 38 _ _ rfl
        refine va_callv (va_runV (As := [.int r22564, .int 0]) (rest := []) ⟨hx, hb, hml, hown, hwd⟩ (c_X12_lay l dC dI g c adK adV v22767 F22768 rc H.size r22564 0 hg hI (by have h9 : v22767 38 = v22767 38 := rfl; rw [h9]; omega)) (cwV 2 hwd (gV wk_1021 wk_1018 wk_1019 wk_1020 wk_5) rfl rfl rfl (by decide +kernel) ⟨Nat.le_of_ble_eq_true rfl, Nat.le_of_ble_eq_true rfl⟩) ⟨PM.blind, va_recv hK hP (ci := 12) (q0 := 0) rfl rfl, fun U hU hW => ⟨rfl, PM.at hK hE hP hS hU hW⟩⟩ rfl rfl hl.1 rfl (lv_room (Nat.le_of_ble_eq_true rfl)) dX12_either_51 ⟨Nat.le_of_ble_eq_true rfl, Nat.le_of_ble_eq_true rfl⟩) hS (fun q _ h => (freeM hS) q h) (freeM hS) (fun u t H1 locs ht hvm hw hB hz1 hk1 hS => ?_)
        unfold BM at hB
        rw [ht] at hB
        obtain ⟨v22777, F22778, rc9⟩ := u
        obtain ⟨hI, hrc, hf22779, hG22780, hw⟩ := hw
        dsimp only at hI hrc hB hf22779 hG22780 hw
        have hF := frCF (by decide) hG22780 hF
        rw [hrc] at hB
        have hP : va_P (dC, dI) classes (wM g c v22777 F22778 rc) H1 := hB
        have hw : (v22777 38).toInt = (v22767 38).toInt + 1 ∧ keepL (v22767 37) (F22768 28) (F22768 29) (F22778 28) (F22778 29) ∧ dp (F22778 28) (F22778 29) (bI (v22767 37)) ((v22767 38).toInt.toNat + 1) = dpS (dp (F22768 28) (F22768 29) (bI (v22767 37)) (v22767 38).toInt.toNat) r22564 (0 : Int32) := hw
        rw [show v22767 37 = v 37 from (hf22769 37 (by decide)).trans (hf22557 37 (by decide))] at hw
        have hw_r22776 := hw
        have t22781 : 0 ≤ (v22777 38).toInt ∧ (v22777 38).toInt ≤ 120 := hI.1 38 _ _ rfl
        have k22782 : (0 : Int32).toInt = 0 := by decide
        generalize H1 = H at hP hS ⊢
        have hk := hk.tr hw_r22776.2.1
        have hd : (v22767 40).toInt < 0 → dp (F22778 28) (F22778 29) (bI (v 37)) (v22777 38).toInt.toNat = some (((d + 1) + 1) - 1) := fun hf => (by have e9 : (v22777 38).toInt.toNat = (v22767 38).toInt.toNat + 1 := (by omega); rw [e9, hw_r22776.2.2, hd hf]; exact dpS_5 (by omega) (by omega) (by omega) (by omega) (by omega))
        refine lv_aload_n hx hb dX12_either_54 rfl (lv_at hl 1 rfl) ?_
        refine va_get (D := (dC, dI)) (ci := 12) (v := .int (v22777 40)) (C := RX12) (T := TX12) (N := 63) hx hb hwd inA_X12 hown hK hP 0 rfl rfl 40 (by decide) (hwd _ wk_1005) (fun _ h9 => h9) rfl dX12_either_55 ?_
        refine my_top (v := v22767 40) (hf22779 40 (by decide)) ?_
        refine lv_if_ge (tgt := 70) hx hb dX12_either_58 (by decide) (fun c22783 => ?_) (fun c22783 => ?_)
        · skip
          have t22784 := cv_le (a := 0) (by decide) (b := (v22767 40).toInt) rfl c22783
          have hP9 : va_P (dC, dI) classes (wM g c v22777 F22778 rc) H := hP
          exact W.vret hx hb hr (fun t ht hW => ⟨⟨(v22777, F22778, rc), rfl, ⟨hI, rfl, (frC (by decide) hf22779 (frC (by decide) hf22769 (frU (by decide) (frC (by decide) hf22557 (fun _ _ => rfl))))), hF, (by show ((v 39).toInt ≤ (v22777 39).toInt ∧ (v22777 39).toInt ≤ (v 30).toInt ∧ (v 38).toInt ≤ (v22777 38).toInt ∧ (v22777 38).toInt - (v 38).toInt ≤ (v22777 39).toInt - (v 39).toInt ∧ (v 41).toInt ≤ (v22777 41).toInt ∧ ((v22777 40).toInt < 0 → (v22777 41).toInt = (v 41).toInt)) ∧ keepL (v 37) (F 28) (F 29) (F22778 28) (F22778 29) ∧ ((v22777 40).toInt < 0 → dp (F22778 28) (F22778 29) (bI (v 37)) (v22777 38).toInt.toNat = some (d + 1)); rw [show v22777 39 = v22767 39 from hf22779 39 (by decide)]; rw [show v22777 41 = v22767 41 from hf22779 41 (by decide)]; rw [show v22777 40 = v22767 40 from hf22779 40 (by decide)]; exact ⟨by omega, hk, fun hf => (hd (by omega)).trans (congrArg some (by omega))⟩)⟩, (by show va_P _ _ _ t.heap; rw [ht]; exact hP9)⟩, hS.F ht⟩) hS.2.2 dX12_either_70
        · skip
          have t22785 := cv_nle (a := 0) (by decide) (b := (v22767 40).toInt) rfl c22783
          refine lv_aload_n hx hb dX12_either_61 rfl (lv_at hl 1 rfl) ?_
          have t22786 : 0 ≤ (v 30).toInt ∧ (v 30).toInt ≤ 120 := by have h9 := hI.1 30 _ _ rfl; rw [show v22777 30 = v 30 from (hf22779 30 (by decide)).trans ((hf22769 30 (by decide)).trans (hf22557 30 (by decide)))] at h9; exact h9
          have t22787 : 0 ≤ (v22767 39).toInt ∧ (v22767 39).toInt ≤ 120 := by have h9 := hI.1 39 _ _ rfl; rw [show v22777 39 = v22767 39 from hf22779 39 (by decide)] at h9; exact h9
          refine va_calli (va_runV (As := []) (rest := []) ⟨hx, hb, hml, hown, hwd⟩ (c_X12_look l dC dI g c adK adV v22777 F22778 rc H.size  hg hI ) (cwV 0 hwd (gV wk_1017 wk_1014 wk_1015 wk_1016 wk_5) rfl rfl rfl (by decide +kernel) ⟨Nat.le_of_ble_eq_true rfl, Nat.le_of_ble_eq_true rfl⟩) ⟨PM.blind, va_recv hK hP (ci := 12) (q0 := 0) rfl rfl, fun U hU hW => ⟨rfl, PM.at hK hE hP hS hU hW⟩⟩ rfl rfl hl.1 rfl (lv_room (Nat.le_of_ble_eq_true rfl)) dX12_either_62 ⟨Nat.le_of_ble_eq_true rfl, Nat.le_of_ble_eq_true rfl⟩) hS (fun q _ h => (freeM hS) q h) (freeM hS) (fun r22788 u t H1 locs ht hvm hw hB hz1 hk1 hS => ?_)
          unfold BM at hB
          rw [ht] at hB
          have hP : va_P (dC, dI) classes (wM g c v22777 F22778 rc) H1 := hB
          have hw : r22788.toInt = lkM (v22777 39) (v22777 30) (F22778 24) ∧ ((v22777 39).toInt < (v22777 30).toInt ∨ r22788.toInt = -1) := hw
          rw [show v22777 39 = v22767 39 from hf22779 39 (by decide)] at hw
          rw [show v22777 30 = v 30 from (hf22779 30 (by decide)).trans ((hf22769 30 (by decide)).trans (hf22557 30 (by decide)))] at hw
          rw [hF 24 (by decide)] at hw
          have hw_r22788 := hw
          generalize H1 = H at hP hS ⊢
          refine lv_bipush (v := 63) hx hb dX12_either_65 (by decide) ?_
          refine lv_icmp_eq (tgt := 71) hx hb dX12_either_67 (by decide) (fun c22789 => ?_) (fun c22789 => ?_)
          · skip
            have t22790 := cv_eq (a := r22788.toInt) rfl (b := 63) (by decide) c22789
            refine lv_aload_n hx hb dX12_either_71 rfl (lv_at hl 1 rfl) ?_
            have t22791 : 0 ≤ (v22767 39).toInt ∧ (v22767 39).toInt ≤ 120 := by have h9 := hI.1 39 _ _ rfl; rw [show v22777 39 = v22767 39 from hf22779 39 (by decide)] at h9; exact h9
            have t22792 : 0 ≤ (v22767 41).toInt ∧ (v22767 41).toInt ≤ 8 := by have h9 := hI.1 41 _ _ rfl; rw [show v22777 41 = v22767 41 from hf22779 41 (by decide)] at h9; exact h9
            refine va_calli (va_runV (As := []) (rest := []) ⟨hx, hb, hml, hown, hwd⟩ (c_X12_opens l dC dI g c adK adV v22777 F22778 rc H.size  hg hI (by have h9 : v22777 39 = v22767 39 := hf22779 39 (by decide); (try rw [h9]); clear h9; have h9 : v22777 30 = v 30 := (hf22779 30 (by decide)).trans ((hf22769 30 (by decide)).trans (hf22557 30 (by decide))); (try rw [h9]); clear h9; omega)) (cwV 0 hwd (gV wk_1025 wk_1022 wk_1023 wk_1024 wk_5) rfl rfl rfl (by decide +kernel) ⟨Nat.le_of_ble_eq_true rfl, Nat.le_of_ble_eq_true rfl⟩) ⟨PM.blind, va_recv hK hP (ci := 12) (q0 := 0) rfl rfl, fun U hU hW => ⟨rfl, PM.at hK hE hP hS hU hW⟩⟩ rfl rfl hl.1 rfl (lv_room (Nat.le_of_ble_eq_true rfl)) dX12_either_72 ⟨Nat.le_of_ble_eq_true rfl, Nat.le_of_ble_eq_true rfl⟩) hS (fun q _ h => (freeM hS) q h) (freeM hS) (fun r22793 u t H1 locs ht hvm hw hB hz1 hk1 hS => ?_)
            unfold BM at hB
            rw [ht] at hB
            obtain ⟨v22794, F22795, rc9⟩ := u
            obtain ⟨hI, hrc, hf22796, hG22797, hw⟩ := hw
            dsimp only at hI hrc hB hf22796 hG22797 hw
            have hF := frCF (by decide) hG22797 hF
            rw [hrc] at hB
            have hP : va_P (dC, dI) classes (wM g c v22794 F22795 rc) H1 := hB
            have hw : (r22793.toInt = 1 ∧ (v22777 41).toInt < 8 ∧ (v22794 41).toInt = (v22777 41).toInt + 1 ∧ (v22794 39).toInt = (v22777 39).toInt + 1 ∧ (v22794 40).toInt = (v22777 40).toInt) ∨ (r22793.toInt = 0 ∧ (v22777 41).toInt = 8 ∧ 0 ≤ (v22794 40).toInt ∧ (v22794 41).toInt = (v22777 41).toInt ∧ (v22794 39).toInt = (v22777 39).toInt) := hw
            rw [show v22777 41 = v22767 41 from hf22779 41 (by decide)] at hw
            rw [show v22777 39 = v22767 39 from hf22779 39 (by decide)] at hw
            rw [show v22777 40 = v22767 40 from hf22779 40 (by decide)] at hw
            have hw_r22793 := hw
            have t22798 : 0 ≤ (v22794 39).toInt ∧ (v22794 39).toInt ≤ 120 := hI.1 39 _ _ rfl
            have t22799 : 0 ≤ (v22794 41).toInt ∧ (v22794 41).toInt ≤ 8 := hI.1 41 _ _ rfl
            generalize H1 = H at hP hS ⊢
            have hk : keepL (v 37) (F 28) (F 29) (F22795 28) (F22795 29) := by rw [hG22797 28 (by decide), hG22797 29 (by decide)]; exact hk
            have hd : (v22794 40).toInt < 0 → dp (F22795 28) (F22795 29) (bI (v 37)) (v22777 38).toInt.toNat = some (((d + 1) + 1) - 1) := fun hf => (by rw [hG22797 28 (by decide), hG22797 29 (by decide)]; exact hd (by omega))
            refine lv_if_ne (tgt := 79) hx hb dX12_either_75 (by decide) (fun c22800 => ?_) (fun c22800 => ?_)
            · skip
              have t22801 := cv_ne (a := r22793.toInt) rfl (b := 0) (by decide) c22800
              refine lv_aload_n hx hb dX12_either_79 rfl (lv_at hl 1 rfl) ?_
              have t22802 : 0 ≤ (v 30).toInt ∧ (v 30).toInt ≤ 120 := by have h9 := hI.1 30 _ _ rfl; rw [show v22794 30 = v 30 from (hf22796 30 (by decide)).trans ((hf22779 30 (by decide)).trans ((hf22769 30 (by decide)).trans (hf22557 30 (by decide))))] at h9; exact h9
              have t22803 : 0 ≤ (v 37).toInt ∧ (v 37).toInt ≤ 9 := by have h9 := hI.1 37 _ _ rfl; rw [show v22794 37 = v 37 from (hf22796 37 (by decide)).trans ((hf22779 37 (by decide)).trans ((hf22769 37 (by decide)).trans (hf22557 37 (by decide))))] at h9; exact h9
              have t22804 : 0 ≤ (v22777 38).toInt ∧ (v22777 38).toInt ≤ 120 := by have h9 := hI.1 38 _ _ rfl; rw [show v22794 38 = v22777 38 from hf22796 38 (by decide)] at h9; exact h9
              have t22805 : 0 ≤ (v22794 39).toInt ∧ (v22794 39).toInt ≤ 120 := hI.1 39 _ _ rfl
              have t22806 : 0 ≤ (v22794 41).toInt ∧ (v22794 41).toInt ≤ 8 := hI.1 41 _ _ rfl
              refine va_callv (va_runV (As := []) (rest := []) ⟨hx, hb, hml, hown, hwd⟩ (c_X12_either_2 l dC dI g c adK adV v22794 F22795 rc H.size  (((d + 1) + 1) - 1) hg hI (by have h9 : v22794 38 = v22777 38 := hf22796 38 (by decide); (try rw [h9]); clear h9; have h9 : v22794 39 = v22794 39 := rfl; (try rw [h9]); clear h9; have h9 : v22794 30 = v 30 := (hf22796 30 (by decide)).trans ((hf22779 30 (by decide)).trans ((hf22769 30 (by decide)).trans (hf22557 30 (by decide)))); (try rw [h9]); clear h9; have h9 : v22794 40 = v22794 40 := rfl; (try rw [h9]); clear h9; have h9 : v22794 41 = v22794 41 := rfl; (try rw [h9]); clear h9; omega) (by have h9 : v22794 37 = (v 37) := (hf22796 37 (by decide)).trans ((hf22779 37 (by decide)).trans ((hf22769 37 (by decide)).trans (hf22557 37 (by decide)))); have h8 : v22794 38 = (v22777 38) := hf22796 38 (by decide); (try rw [h9]); (try rw [h8]); exact hd (by omega))) (cwV 0 hwd (gV wk_1010 wk_1007 wk_1008 wk_1009 wk_5) rfl rfl rfl (by decide +kernel) ⟨Nat.le_of_ble_eq_true rfl, Nat.le_of_ble_eq_true rfl⟩) ⟨PM.blind, va_recv hK hP (ci := 12) (q0 := 0) rfl rfl, fun U hU hW => ⟨rfl, PM.at hK hE hP hS hU hW⟩⟩ rfl rfl hl.1 rfl (lv_room (Nat.le_of_ble_eq_true rfl)) dX12_either_80 ⟨Nat.le_of_ble_eq_true rfl, Nat.le_of_ble_eq_true rfl⟩) hS (fun q _ h => (freeM hS) q h) (freeM hS) (fun u t H1 locs ht hvm hw hB hz1 hk1 hS => ?_)
              unfold BM at hB
              rw [ht] at hB
              obtain ⟨v22808, F22809, rc9⟩ := u
              obtain ⟨hI, hrc, hf22810, hG22811, hw⟩ := hw
              dsimp only at hI hrc hB hf22810 hG22811 hw
              have hF := frCF (by decide) hG22811 hF
              rw [hrc] at hB
              have hP : va_P (dC, dI) classes (wM g c v22808 F22809 rc) H1 := hB
              have hw : ((v22794 39).toInt ≤ (v22808 39).toInt ∧ (v22808 39).toInt ≤ (v22794 30).toInt ∧ (v22794 38).toInt ≤ (v22808 38).toInt ∧ (v22808 38).toInt - (v22794 38).toInt ≤ (v22808 39).toInt - (v22794 39).toInt ∧ (v22794 41).toInt ≤ (v22808 41).toInt ∧ ((v22808 40).toInt < 0 → (v22808 41).toInt = (v22794 41).toInt)) ∧ keepL (v22794 37) (F22795 28) (F22795 29) (F22809 28) (F22809 29) ∧ ((v22808 40).toInt < 0 → dp (F22809 28) (F22809 29) (bI (v22794 37)) (v22808 38).toInt.toNat = some ((((d + 1) + 1) - 1) + 1)) := hw
              rw [show v22794 30 = v 30 from (hf22796 30 (by decide)).trans ((hf22779 30 (by decide)).trans ((hf22769 30 (by decide)).trans (hf22557 30 (by decide))))] at hw
              rw [show v22794 38 = v22777 38 from hf22796 38 (by decide)] at hw
              rw [show v22794 37 = v 37 from (hf22796 37 (by decide)).trans ((hf22779 37 (by decide)).trans ((hf22769 37 (by decide)).trans (hf22557 37 (by decide))))] at hw
              have hw_r22807 := hw
              have t22812 : 0 ≤ (v22808 38).toInt ∧ (v22808 38).toInt ≤ 120 := hI.1 38 _ _ rfl
              have t22813 : 0 ≤ (v22808 39).toInt ∧ (v22808 39).toInt ≤ 120 := hI.1 39 _ _ rfl
              have t22814 : 0 ≤ (v22808 41).toInt ∧ (v22808 41).toInt ≤ 8 := hI.1 41 _ _ rfl
              generalize H1 = H at hP hS ⊢
              have hk := hk.tr hw_r22807.2.1
              have hd := hw_r22807.2.2
              refine lv_aload_n hx hb dX12_either_83 rfl (lv_at hl 1 rfl) ?_
              refine va_get (D := (dC, dI)) (ci := 12) (v := .int (v22808 40)) (C := RX12) (T := TX12) (N := 63) hx hb hwd inA_X12 hown hK hP 0 rfl rfl 40 (by decide) (hwd _ wk_1005) (fun _ h9 => h9) rfl dX12_either_84 ?_
              refine lv_if_lt (tgt := 91) hx hb dX12_either_87 (by decide) (fun c22815 => ?_) (fun c22815 => ?_)
              · skip
                have t22816 := cv_lt (a := (v22808 40).toInt) rfl (b := 0) (by decide) c22815
                refine lv_aload_n hx hb dX12_either_91 rfl (lv_at hl 1 rfl) ?_
                have t22817 : 0 ≤ (v 30).toInt ∧ (v 30).toInt ≤ 120 := by have h9 := hI.1 30 _ _ rfl; rw [show v22808 30 = v 30 from (hf22810 30 (by decide)).trans ((hf22796 30 (by decide)).trans ((hf22779 30 (by decide)).trans ((hf22769 30 (by decide)).trans (hf22557 30 (by decide)))))] at h9; exact h9
                have t22818 : 0 ≤ (v22808 39).toInt ∧ (v22808 39).toInt ≤ 120 := hI.1 39 _ _ rfl
                refine va_calli (va_runV (As := []) (rest := []) ⟨hx, hb, hml, hown, hwd⟩ (c_X12_look l dC dI g c adK adV v22808 F22809 rc H.size  hg hI ) (cwV 0 hwd (gV wk_1017 wk_1014 wk_1015 wk_1016 wk_5) rfl rfl rfl (by decide +kernel) ⟨Nat.le_of_ble_eq_true rfl, Nat.le_of_ble_eq_true rfl⟩) ⟨PM.blind, va_recv hK hP (ci := 12) (q0 := 0) rfl rfl, fun U hU hW => ⟨rfl, PM.at hK hE hP hS hU hW⟩⟩ rfl rfl hl.1 rfl (lv_room (Nat.le_of_ble_eq_true rfl)) dX12_either_92 ⟨Nat.le_of_ble_eq_true rfl, Nat.le_of_ble_eq_true rfl⟩) hS (fun q _ h => (freeM hS) q h) (freeM hS) (fun r22819 u t H1 locs ht hvm hw hB hz1 hk1 hS => ?_)
                unfold BM at hB
                rw [ht] at hB
                have hP : va_P (dC, dI) classes (wM g c v22808 F22809 rc) H1 := hB
                have hw : r22819.toInt = lkM (v22808 39) (v22808 30) (F22809 24) ∧ ((v22808 39).toInt < (v22808 30).toInt ∨ r22819.toInt = -1) := hw
                rw [show v22808 30 = v 30 from (hf22810 30 (by decide)).trans ((hf22796 30 (by decide)).trans ((hf22779 30 (by decide)).trans ((hf22769 30 (by decide)).trans (hf22557 30 (by decide)))))] at hw
                rw [hF 24 (by decide)] at hw
                have hw_r22819 := hw
                generalize H1 = H at hP hS ⊢
                refine lv_bipush (v := 58) hx hb dX12_either_95 (by decide) ?_
                refine lv_icmp_eq (tgt := 105) hx hb dX12_either_97 (by decide) (fun c22820 => ?_) (fun c22820 => ?_)
                · skip
                  have t22821 := cv_eq (a := r22819.toInt) rfl (b := 58) (by decide) c22820
                  refine lv_aload_n hx hb dX12_either_105 rfl (lv_at hl 1 rfl) ?_
                  refine lv_dup hx hb dX12_either_106 rfl ?_
                  refine va_get (D := (dC, dI)) (ci := 12) (v := .int (v22808 39)) (C := RX12) (T := TX12) (N := 63) hx hb hwd inA_X12 hown hK hP 0 rfl rfl 39 (by decide) (hwd _ wk_1004) (fun _ h9 => h9) rfl dX12_either_107 ?_
                  have t22822 : 0 ≤ (v22808 39).toInt ∧ (v22808 39).toInt ≤ 120 := hI.1 39 _ _ rfl
                  refine lv_iconst (v := 1) hx hb dX12_either_110 (by decide) ?_
                  refine lv_iadd hx hb dX12_either_111 ?_
                  refine lv_topi (fun z22823 e22824 => ?_)
                  try (have t22825 := tadd e22824 (a := (v22808 39).toInt) rfl (b := 1) (by decide) (by omega))
                  refine va_put (D := (dC, dI)) (ci := 12) (v := .int z22823) (ty := .int) (C := RX12) (T := TX12) (N := 63) (fs := fsM_0 g v22808 rc) hx hb hwd inA_X12 tyX12 tyX12_ok nmX12 hown hK hP (DM hg) hS 0 rfl rfl 39 (by decide) (hwd _ wk_1004) (fun _ h9 => h9) rfl (by decide +kernel) rfl rfl (Nat.le_of_ble_eq_true rfl) dX12_either_112 (fun H locs hP _ hS => ?_)
                  have hP := va_P_eq (pM_39 g c _ _ _ _) hP
                  have hI := IM.put hI 39 z22823 rfl (by omega)
                  refine lv_aload_n hx hb dX12_either_115 rfl (lv_at hl 1 rfl) ?_
                  have t22826 : 0 ≤ (v 30).toInt ∧ (v 30).toInt ≤ 120 := by have h9 := hI.1 30 _ _ rfl; rw [show (va_up v22808 39 z22823) 30 = v 30 from (hf22810 30 (by decide)).trans ((hf22796 30 (by decide)).trans ((hf22779 30 (by decide)).trans ((hf22769 30 (by decide)).trans (hf22557 30 (by decide)))))] at h9; exact h9
                  have t22827 : 0 ≤ (v 37).toInt ∧ (v 37).toInt ≤ 9 := by have h9 := hI.1 37 _ _ rfl; rw [show (va_up v22808 39 z22823) 37 = v 37 from (hf22810 37 (by decide)).trans ((hf22796 37 (by decide)).trans ((hf22779 37 (by decide)).trans ((hf22769 37 (by decide)).trans (hf22557 37 (by decide)))))] at h9; exact h9
                  have t22828 : 0 ≤ (v22808 38).toInt ∧ (v22808 38).toInt ≤ 120 := hI.1 38 _ _ rfl
                  have t22829 : 0 ≤ z22823.toInt ∧ z22823.toInt ≤ 120 := hI.1 39 _ _ rfl
                  have t22830 : 0 ≤ (v22808 41).toInt ∧ (v22808 41).toInt ≤ 8 := hI.1 41 _ _ rfl
                  refine va_callv (va_runV (As := []) (rest := []) ⟨hx, hb, hml, hown, hwd⟩ (c_X12_either_2 l dC dI g c adK adV (va_up v22808 39 z22823) F22809 rc H.size  ((((d + 1) + 1) - 1) + 1) hg hI (by have h9 : (va_up v22808 39 z22823) 38 = v22808 38 := rfl; (try rw [h9]); clear h9; have h9 : (va_up v22808 39 z22823) 39 = z22823 := rfl; (try rw [h9]); clear h9; have h9 : (va_up v22808 39 z22823) 30 = v 30 := (hf22810 30 (by decide)).trans ((hf22796 30 (by decide)).trans ((hf22779 30 (by decide)).trans ((hf22769 30 (by decide)).trans (hf22557 30 (by decide))))); (try rw [h9]); clear h9; have h9 : (va_up v22808 39 z22823) 40 = v22808 40 := rfl; (try rw [h9]); clear h9; have h9 : (va_up v22808 39 z22823) 41 = v22808 41 := rfl; (try rw [h9]); clear h9; omega) (by have h9 : (va_up v22808 39 z22823) 37 = (v 37) := (hf22810 37 (by decide)).trans ((hf22796 37 (by decide)).trans ((hf22779 37 (by decide)).trans ((hf22769 37 (by decide)).trans (hf22557 37 (by decide))))); have h8 : (va_up v22808 39 z22823) 38 = (v22808 38) := rfl; (try rw [h9]); (try rw [h8]); exact hd (by omega))) (cwV 0 hwd (gV wk_1010 wk_1007 wk_1008 wk_1009 wk_5) rfl rfl rfl (by decide +kernel) ⟨Nat.le_of_ble_eq_true rfl, Nat.le_of_ble_eq_true rfl⟩) ⟨PM.blind, va_recv hK hP (ci := 12) (q0 := 0) rfl rfl, fun U hU hW => ⟨rfl, PM.at hK hE hP hS hU hW⟩⟩ rfl rfl hl.1 rfl (lv_room (Nat.le_of_ble_eq_true rfl)) dX12_either_116 ⟨Nat.le_of_ble_eq_true rfl, Nat.le_of_ble_eq_true rfl⟩) hS (fun q _ h => (freeM hS) q h) (freeM hS) (fun u t H1 locs ht hvm hw hB hz1 hk1 hS => ?_)
                  unfold BM at hB
                  rw [ht] at hB
                  obtain ⟨v22832, F22833, rc9⟩ := u
                  obtain ⟨hI, hrc, hf22834, hG22835, hw⟩ := hw
                  dsimp only at hI hrc hB hf22834 hG22835 hw
                  have hF := frCF (by decide) hG22835 hF
                  rw [hrc] at hB
                  have hP : va_P (dC, dI) classes (wM g c v22832 F22833 rc) H1 := hB
                  have hw : (z22823.toInt ≤ (v22832 39).toInt ∧ (v22832 39).toInt ≤ ((va_up v22808 39 z22823) 30).toInt ∧ (v22808 38).toInt ≤ (v22832 38).toInt ∧ (v22832 38).toInt - (v22808 38).toInt ≤ (v22832 39).toInt - z22823.toInt ∧ (v22808 41).toInt ≤ (v22832 41).toInt ∧ ((v22832 40).toInt < 0 → (v22832 41).toInt = (v22808 41).toInt)) ∧ keepL ((va_up v22808 39 z22823) 37) (F22809 28) (F22809 29) (F22833 28) (F22833 29) ∧ ((v22832 40).toInt < 0 → dp (F22833 28) (F22833 29) (bI ((va_up v22808 39 z22823) 37)) (v22832 38).toInt.toNat = some (((((d + 1) + 1) - 1) + 1) + 1)) := hw
                  rw [show (va_up v22808 39 z22823) 30 = v 30 from (hf22810 30 (by decide)).trans ((hf22796 30 (by decide)).trans ((hf22779 30 (by decide)).trans ((hf22769 30 (by decide)).trans (hf22557 30 (by decide)))))] at hw
                  rw [show (va_up v22808 39 z22823) 37 = v 37 from (hf22810 37 (by decide)).trans ((hf22796 37 (by decide)).trans ((hf22779 37 (by decide)).trans ((hf22769 37 (by decide)).trans (hf22557 37 (by decide)))))] at hw
                  have hw_r22831 := hw
                  have t22836 : 0 ≤ (v22832 38).toInt ∧ (v22832 38).toInt ≤ 120 := hI.1 38 _ _ rfl
                  have t22837 : 0 ≤ (v22832 39).toInt ∧ (v22832 39).toInt ≤ 120 := hI.1 39 _ _ rfl
                  have t22838 : 0 ≤ (v22832 41).toInt ∧ (v22832 41).toInt ≤ 8 := hI.1 41 _ _ rfl
                  generalize H1 = H at hP hS ⊢
                  have hk := hk.tr hw_r22831.2.1
                  have hd := hw_r22831.2.2
                  refine lv_aload_n hx hb dX12_either_119 rfl (lv_at hl 1 rfl) ?_
                  refine lv_iconst (v := 4) hx hb dX12_either_120 (by decide) ?_
                  refine lv_iconst (v := 0) hx hb dX12_either_121 (by decide) ?_
                  have t22839 : 0 ≤ (v 37).toInt ∧ (v 37).toInt ≤ 9 := by have h9 := hI.1 37 _ _ rfl; rw [show v22832 37 = v 37 from (hf22834 37 (by decide)).trans ((hf22810 37 (by decide)).trans ((hf22796 37 (by decide)).trans ((hf22779 37 (by decide)).trans ((hf22769 37 (by decide)).trans (hf22557 37 (by decide))))))] at h9; exact h9
                  have t22840 : 0 ≤ (v22832 38).toInt ∧ (v22832 38).toInt ≤ 120 := hI.1 38 _ _ rfl
                  refine va_callv (va_runV (As := [.int 4, .int 0]) (rest := []) ⟨hx, hb, hml, hown, hwd⟩ (c_X12_lay l dC dI g c adK adV v22832 F22833 rc H.size 4 0 hg hI (by have h9 : v22832 38 = v22832 38 := rfl; rw [h9]; omega)) (cwV 2 hwd (gV wk_1021 wk_1018 wk_1019 wk_1020 wk_5) rfl rfl rfl (by decide +kernel) ⟨Nat.le_of_ble_eq_true rfl, Nat.le_of_ble_eq_true rfl⟩) ⟨PM.blind, va_recv hK hP (ci := 12) (q0 := 0) rfl rfl, fun U hU hW => ⟨rfl, PM.at hK hE hP hS hU hW⟩⟩ rfl rfl hl.1 rfl (lv_room (Nat.le_of_ble_eq_true rfl)) dX12_either_122 ⟨Nat.le_of_ble_eq_true rfl, Nat.le_of_ble_eq_true rfl⟩) hS (fun q _ h => (freeM hS) q h) (freeM hS) (fun u t H1 locs ht hvm hw hB hz1 hk1 hS => ?_)
                  unfold BM at hB
                  rw [ht] at hB
                  obtain ⟨v22842, F22843, rc9⟩ := u
                  obtain ⟨hI, hrc, hf22844, hG22845, hw⟩ := hw
                  dsimp only at hI hrc hB hf22844 hG22845 hw
                  have hF := frCF (by decide) hG22845 hF
                  rw [hrc] at hB
                  have hP : va_P (dC, dI) classes (wM g c v22842 F22843 rc) H1 := hB
                  have hw : (v22842 38).toInt = (v22832 38).toInt + 1 ∧ keepL (v22832 37) (F22833 28) (F22833 29) (F22843 28) (F22843 29) ∧ dp (F22843 28) (F22843 29) (bI (v22832 37)) ((v22832 38).toInt.toNat + 1) = dpS (dp (F22833 28) (F22833 29) (bI (v22832 37)) (v22832 38).toInt.toNat) (4 : Int32) (0 : Int32) := hw
                  rw [show v22832 37 = v 37 from (hf22834 37 (by decide)).trans ((hf22810 37 (by decide)).trans ((hf22796 37 (by decide)).trans ((hf22779 37 (by decide)).trans ((hf22769 37 (by decide)).trans (hf22557 37 (by decide))))))] at hw
                  have hw_r22841 := hw
                  have t22846 : 0 ≤ (v22842 38).toInt ∧ (v22842 38).toInt ≤ 120 := hI.1 38 _ _ rfl
                  have k22847 : (4 : Int32).toInt = 4 := by decide
                  have k22848 : (0 : Int32).toInt = 0 := by decide
                  generalize H1 = H at hP hS ⊢
                  have hk := hk.tr hw_r22841.2.1
                  have hd : (v22832 40).toInt < 0 → dp (F22843 28) (F22843 29) (bI (v 37)) (v22842 38).toInt.toNat = some ((((((d + 1) + 1) - 1) + 1) + 1) - 2) := fun hf => (by have e9 : (v22842 38).toInt.toNat = (v22832 38).toInt.toNat + 1 := (by omega); rw [e9, hw_r22841.2.2, hd hf]; exact dpS_4 (by decide) (by omega))
                  refine lv_aload_n hx hb dX12_either_125 rfl (lv_at hl 1 rfl) ?_
                  refine lv_dup hx hb dX12_either_126 rfl ?_
                  refine va_get (D := (dC, dI)) (ci := 12) (v := .int (v22842 41)) (C := RX12) (T := TX12) (N := 63) hx hb hwd inA_X12 hown hK hP 0 rfl rfl 41 (by decide) (hwd _ wk_1006) (fun _ h9 => h9) rfl dX12_either_127 ?_
                  refine my_top (v := v22832 41) (hf22844 41 (by decide)) ?_
                  have t22849 : 0 ≤ (v22832 41).toInt ∧ (v22832 41).toInt ≤ 8 := by have h9 := hI.1 41 _ _ rfl; rw [show v22842 41 = v22832 41 from hf22844 41 (by decide)] at h9; exact h9
                  refine lv_iconst (v := 1) hx hb dX12_either_130 (by decide) ?_
                  refine lv_isub hx hb dX12_either_131 ?_
                  refine lv_topi (fun z22850 e22851 => ?_)
                  try (have t22852 := tsub e22851 (a := (v22832 41).toInt) rfl (b := 1) (by decide) (by omega))
                  refine va_put (D := (dC, dI)) (ci := 12) (v := .int z22850) (ty := .int) (C := RX12) (T := TX12) (N := 63) (fs := fsM_0 g v22842 rc) hx hb hwd inA_X12 tyX12 tyX12_ok nmX12 hown hK hP (DM hg) hS 0 rfl rfl 41 (by decide) (hwd _ wk_1006) (fun _ h9 => h9) rfl (by decide +kernel) rfl rfl (Nat.le_of_ble_eq_true rfl) dX12_either_132 (fun H locs hP _ hS => ?_)
                  have hP := va_P_eq (pM_41 g c _ _ _ _) hP
                  have hI := IM.put hI 41 z22850 rfl (by omega)
                  have hP9 : va_P (dC, dI) classes (wM g c (va_up v22842 41 z22850) F22843 rc) H := hP
                  exact W.vret hx hb hr (fun t ht hW => ⟨⟨((va_up v22842 41 z22850), F22843, rc), rfl, ⟨hI, rfl, (frU (by decide) (frC (by decide) hf22844 (frC (by decide) hf22834 (frU (by decide) (frC (by decide) hf22810 (frC (by decide) hf22796 (frC (by decide) hf22779 (frC (by decide) hf22769 (frU (by decide) (frC (by decide) hf22557 (fun _ _ => rfl))))))))))), hF, (by show ((v 39).toInt ≤ ((va_up v22842 41 z22850) 39).toInt ∧ ((va_up v22842 41 z22850) 39).toInt ≤ (v 30).toInt ∧ (v 38).toInt ≤ (v22842 38).toInt ∧ (v22842 38).toInt - (v 38).toInt ≤ ((va_up v22842 41 z22850) 39).toInt - (v 39).toInt ∧ (v 41).toInt ≤ z22850.toInt ∧ (((va_up v22842 41 z22850) 40).toInt < 0 → z22850.toInt = (v 41).toInt)) ∧ keepL (v 37) (F 28) (F 29) (F22843 28) (F22843 29) ∧ (((va_up v22842 41 z22850) 40).toInt < 0 → dp (F22843 28) (F22843 29) (bI (v 37)) (v22842 38).toInt.toNat = some (d + 1)); rw [show (va_up v22842 41 z22850) 39 = v22832 39 from hf22844 39 (by decide)]; rw [show (va_up v22842 41 z22850) 40 = v22832 40 from hf22844 40 (by decide)]; exact ⟨by omega, hk, fun hf => (hd (by omega)).trans (congrArg some (by omega))⟩)⟩, (by show va_P _ _ _ t.heap; rw [ht]; exact hP9)⟩, hS.F ht⟩) hS.2.2 dX12_either_135
                · skip
                  have t22853 := cv_ne (a := r22819.toInt) rfl (b := 58) (by decide) c22820
                  refine lv_aload_n hx hb dX12_either_100 rfl (lv_at hl 1 rfl) ?_
                  refine va_callv (va_runV (As := []) (rest := []) ⟨hx, hb, hml, hown, hwd⟩ (c_X12_wrong l dC dI g c adK adV v22808 F22809 rc H.size  hg hI ) (cwV 0 hwd (gV wk_1029 wk_1026 wk_1027 wk_1028 wk_5) rfl rfl rfl (by decide +kernel) ⟨Nat.le_of_ble_eq_true rfl, Nat.le_of_ble_eq_true rfl⟩) ⟨PM.blind, va_recv hK hP (ci := 12) (q0 := 0) rfl rfl, fun U hU hW => ⟨rfl, PM.at hK hE hP hS hU hW⟩⟩ rfl rfl hl.1 rfl (lv_room (Nat.le_of_ble_eq_true rfl)) dX12_either_101 ⟨Nat.le_of_ble_eq_true rfl, Nat.le_of_ble_eq_true rfl⟩) hS (fun q _ h => (freeM hS) q h) (freeM hS) (fun u t H1 locs ht hvm hw hB hz1 hk1 hS => ?_)
                  unfold BM at hB
                  rw [ht] at hB
                  obtain ⟨v22855, F22856, rc9⟩ := u
                  obtain ⟨hI, hrc, hf22857, hG22858, hw⟩ := hw
                  dsimp only at hI hrc hB hf22857 hG22858 hw
                  have hF := frCF (by decide) hG22858 hF
                  rw [hrc] at hB
                  have hP : va_P (dC, dI) classes (wM g c v22855 F22856 rc) H1 := hB
                  have hw : 0 ≤ (v22855 40).toInt := hw
                  have hw_r22854 := hw
                  generalize H1 = H at hP hS ⊢
                  have hk : keepL (v 37) (F 28) (F 29) (F22856 28) (F22856 29) := by rw [hG22858 28 (by decide), hG22858 29 (by decide)]; exact hk
                  have hd : (v22855 40).toInt < 0 → dp (F22856 28) (F22856 29) (bI (v 37)) (v22808 38).toInt.toNat = some ((((d + 1) + 1) - 1) + 1) := fun hf => (by rw [hG22858 28 (by decide), hG22858 29 (by decide)]; exact hd (by omega))
                  have hP9 : va_P (dC, dI) classes (wM g c v22855 F22856 rc) H := hP
                  exact W.vret hx hb hr (fun t ht hW => ⟨⟨(v22855, F22856, rc), rfl, ⟨hI, rfl, (frC (by decide) hf22857 (frC (by decide) hf22810 (frC (by decide) hf22796 (frC (by decide) hf22779 (frC (by decide) hf22769 (frU (by decide) (frC (by decide) hf22557 (fun _ _ => rfl)))))))), hF, (by show ((v 39).toInt ≤ (v22855 39).toInt ∧ (v22855 39).toInt ≤ (v 30).toInt ∧ (v 38).toInt ≤ (v22855 38).toInt ∧ (v22855 38).toInt - (v 38).toInt ≤ (v22855 39).toInt - (v 39).toInt ∧ (v 41).toInt ≤ (v22855 41).toInt ∧ ((v22855 40).toInt < 0 → (v22855 41).toInt = (v 41).toInt)) ∧ keepL (v 37) (F 28) (F 29) (F22856 28) (F22856 29) ∧ ((v22855 40).toInt < 0 → dp (F22856 28) (F22856 29) (bI (v 37)) (v22855 38).toInt.toNat = some (d + 1)); rw [show v22855 39 = v22808 39 from hf22857 39 (by decide)]; rw [show v22855 38 = v22808 38 from hf22857 38 (by decide)]; rw [show v22855 41 = v22808 41 from hf22857 41 (by decide)]; exact ⟨by omega, hk, fun hf => (hd (by omega)).trans (congrArg some (by omega))⟩)⟩, (by show va_P _ _ _ t.heap; rw [ht]; exact hP9)⟩, hS.F ht⟩) hS.2.2 dX12_either_104
              · skip
                have t22859 := cv_nlt (a := (v22808 40).toInt) rfl (b := 0) (by decide) c22815
                have hP9 : va_P (dC, dI) classes (wM g c v22808 F22809 rc) H := hP
                exact W.vret hx hb hr (fun t ht hW => ⟨⟨(v22808, F22809, rc), rfl, ⟨hI, rfl, (frC (by decide) hf22810 (frC (by decide) hf22796 (frC (by decide) hf22779 (frC (by decide) hf22769 (frU (by decide) (frC (by decide) hf22557 (fun _ _ => rfl))))))), hF, (by show ((v 39).toInt ≤ (v22808 39).toInt ∧ (v22808 39).toInt ≤ (v 30).toInt ∧ (v 38).toInt ≤ (v22808 38).toInt ∧ (v22808 38).toInt - (v 38).toInt ≤ (v22808 39).toInt - (v 39).toInt ∧ (v 41).toInt ≤ (v22808 41).toInt ∧ ((v22808 40).toInt < 0 → (v22808 41).toInt = (v 41).toInt)) ∧ keepL (v 37) (F 28) (F 29) (F22809 28) (F22809 29) ∧ ((v22808 40).toInt < 0 → dp (F22809 28) (F22809 29) (bI (v 37)) (v22808 38).toInt.toNat = some (d + 1)); exact ⟨by omega, hk, fun hf => (hd (by omega)).trans (congrArg some (by omega))⟩)⟩, (by show va_P _ _ _ t.heap; rw [ht]; exact hP9)⟩, hS.F ht⟩) hS.2.2 dX12_either_90
            · skip
              have t22860 := cv_eq (a := r22793.toInt) rfl (b := 0) (by decide) c22800
              have hP9 : va_P (dC, dI) classes (wM g c v22794 F22795 rc) H := hP
              exact W.vret hx hb hr (fun t ht hW => ⟨⟨(v22794, F22795, rc), rfl, ⟨hI, rfl, (frC (by decide) hf22796 (frC (by decide) hf22779 (frC (by decide) hf22769 (frU (by decide) (frC (by decide) hf22557 (fun _ _ => rfl)))))), hF, (by show ((v 39).toInt ≤ (v22794 39).toInt ∧ (v22794 39).toInt ≤ (v 30).toInt ∧ (v 38).toInt ≤ (v22794 38).toInt ∧ (v22794 38).toInt - (v 38).toInt ≤ (v22794 39).toInt - (v 39).toInt ∧ (v 41).toInt ≤ (v22794 41).toInt ∧ ((v22794 40).toInt < 0 → (v22794 41).toInt = (v 41).toInt)) ∧ keepL (v 37) (F 28) (F 29) (F22795 28) (F22795 29) ∧ ((v22794 40).toInt < 0 → dp (F22795 28) (F22795 29) (bI (v 37)) (v22794 38).toInt.toNat = some (d + 1)); rw [show v22794 38 = v22777 38 from hf22796 38 (by decide)]; exact ⟨by omega, hk, fun hf => (hd (by omega)).trans (congrArg some (by omega))⟩)⟩, (by show va_P _ _ _ t.heap; rw [ht]; exact hP9)⟩, hS.F ht⟩) hS.2.2 dX12_either_78
          · skip
            have t22861 := cv_ne (a := r22788.toInt) rfl (b := 63) (by decide) c22789
            have hP9 : va_P (dC, dI) classes (wM g c v22777 F22778 rc) H := hP
            exact W.vret hx hb hr (fun t ht hW => ⟨⟨(v22777, F22778, rc), rfl, ⟨hI, rfl, (frC (by decide) hf22779 (frC (by decide) hf22769 (frU (by decide) (frC (by decide) hf22557 (fun _ _ => rfl))))), hF, (by show ((v 39).toInt ≤ (v22777 39).toInt ∧ (v22777 39).toInt ≤ (v 30).toInt ∧ (v 38).toInt ≤ (v22777 38).toInt ∧ (v22777 38).toInt - (v 38).toInt ≤ (v22777 39).toInt - (v 39).toInt ∧ (v 41).toInt ≤ (v22777 41).toInt ∧ ((v22777 40).toInt < 0 → (v22777 41).toInt = (v 41).toInt)) ∧ keepL (v 37) (F 28) (F 29) (F22778 28) (F22778 29) ∧ ((v22777 40).toInt < 0 → dp (F22778 28) (F22778 29) (bI (v 37)) (v22777 38).toInt.toNat = some (d + 1)); rw [show v22777 39 = v22767 39 from hf22779 39 (by decide)]; rw [show v22777 41 = v22767 41 from hf22779 41 (by decide)]; rw [show v22777 40 = v22767 40 from hf22779 40 (by decide)]; exact ⟨by omega, hk, fun hf => (hd (by omega)).trans (congrArg some (by omega))⟩)⟩, (by show va_P _ _ _ t.heap; rw [ht]; exact hP9)⟩, hS.F ht⟩) hS.2.2 dX12_either_70
      · skip
        have t22862 := cv_ne (a := r22564.toInt) rfl (b := 61) (by decide) c22755
        refine lv_iload_n hx hb dX12_either_28 rfl (lv_at hl 0 rfl) ?_
        refine lv_bipush (v := 62) hx hb dX12_either_29 (by decide) ?_
        refine lv_icmp_ne (tgt := 54) hx hb dX12_either_31 (by decide) (fun c22863 => ?_) (fun c22863 => ?_)
        · skip
          have t22864 := cv_ne (a := r22564.toInt) rfl (b := 62) (by decide) c22863
          refine lv_aload_n hx hb dX12_either_54 rfl (lv_at hl 1 rfl) ?_
          refine va_get (D := (dC, dI)) (ci := 12) (v := .int (v22555 40)) (C := RX12) (T := TX12) (N := 63) hx hb hwd inA_X12 hown hK hP 0 rfl rfl 40 (by decide) (hwd _ wk_1005) (fun _ h9 => h9) rfl dX12_either_55 ?_
          refine lv_if_ge (tgt := 70) hx hb dX12_either_58 (by decide) (fun c22865 => ?_) (fun c22865 => ?_)
          · skip
            have t22866 := cv_le (a := 0) (by decide) (b := (v22555 40).toInt) rfl c22865
            have hP9 : va_P (dC, dI) classes (wM g c v22555 F22556 rc) H := hP
            exact W.vret hx hb hr (fun t ht hW => ⟨⟨(v22555, F22556, rc), rfl, ⟨hI, rfl, (frC (by decide) hf22557 (fun _ _ => rfl)), hF, (by show ((v 39).toInt ≤ (v22555 39).toInt ∧ (v22555 39).toInt ≤ (v 30).toInt ∧ (v 38).toInt ≤ (v22555 38).toInt ∧ (v22555 38).toInt - (v 38).toInt ≤ (v22555 39).toInt - (v 39).toInt ∧ (v 41).toInt ≤ (v22555 41).toInt ∧ ((v22555 40).toInt < 0 → (v22555 41).toInt = (v 41).toInt)) ∧ keepL (v 37) (F 28) (F 29) (F22556 28) (F22556 29) ∧ ((v22555 40).toInt < 0 → dp (F22556 28) (F22556 29) (bI (v 37)) (v22555 38).toInt.toNat = some (d + 1)); exact ⟨by omega, hk, fun hf => (hd (by omega)).trans (congrArg some (by omega))⟩)⟩, (by show va_P _ _ _ t.heap; rw [ht]; exact hP9)⟩, hS.F ht⟩) hS.2.2 dX12_either_70
          · skip
            have t22867 := cv_nle (a := 0) (by decide) (b := (v22555 40).toInt) rfl c22865
            refine lv_aload_n hx hb dX12_either_61 rfl (lv_at hl 1 rfl) ?_
            have t22868 : 0 ≤ (v 30).toInt ∧ (v 30).toInt ≤ 120 := by have h9 := hI.1 30 _ _ rfl; rw [show v22555 30 = v 30 from hf22557 30 (by decide)] at h9; exact h9
            have t22869 : 0 ≤ (v22555 39).toInt ∧ (v22555 39).toInt ≤ 120 := hI.1 39 _ _ rfl
            refine va_calli (va_runV (As := []) (rest := []) ⟨hx, hb, hml, hown, hwd⟩ (c_X12_look l dC dI g c adK adV v22555 F22556 rc H.size  hg hI ) (cwV 0 hwd (gV wk_1017 wk_1014 wk_1015 wk_1016 wk_5) rfl rfl rfl (by decide +kernel) ⟨Nat.le_of_ble_eq_true rfl, Nat.le_of_ble_eq_true rfl⟩) ⟨PM.blind, va_recv hK hP (ci := 12) (q0 := 0) rfl rfl, fun U hU hW => ⟨rfl, PM.at hK hE hP hS hU hW⟩⟩ rfl rfl hl.1 rfl (lv_room (Nat.le_of_ble_eq_true rfl)) dX12_either_62 ⟨Nat.le_of_ble_eq_true rfl, Nat.le_of_ble_eq_true rfl⟩) hS (fun q _ h => (freeM hS) q h) (freeM hS) (fun r22870 u t H1 locs ht hvm hw hB hz1 hk1 hS => ?_)
            unfold BM at hB
            rw [ht] at hB
            have hP : va_P (dC, dI) classes (wM g c v22555 F22556 rc) H1 := hB
            have hw : r22870.toInt = lkM (v22555 39) (v22555 30) (F22556 24) ∧ ((v22555 39).toInt < (v22555 30).toInt ∨ r22870.toInt = -1) := hw
            rw [show v22555 30 = v 30 from hf22557 30 (by decide)] at hw
            rw [hF 24 (by decide)] at hw
            have hw_r22870 := hw
            generalize H1 = H at hP hS ⊢
            refine lv_bipush (v := 63) hx hb dX12_either_65 (by decide) ?_
            refine lv_icmp_eq (tgt := 71) hx hb dX12_either_67 (by decide) (fun c22871 => ?_) (fun c22871 => ?_)
            · skip
              have t22872 := cv_eq (a := r22870.toInt) rfl (b := 63) (by decide) c22871
              refine lv_aload_n hx hb dX12_either_71 rfl (lv_at hl 1 rfl) ?_
              have t22873 : 0 ≤ (v22555 39).toInt ∧ (v22555 39).toInt ≤ 120 := hI.1 39 _ _ rfl
              have t22874 : 0 ≤ (v22555 41).toInt ∧ (v22555 41).toInt ≤ 8 := hI.1 41 _ _ rfl
              refine va_calli (va_runV (As := []) (rest := []) ⟨hx, hb, hml, hown, hwd⟩ (c_X12_opens l dC dI g c adK adV v22555 F22556 rc H.size  hg hI (by have h9 : v22555 39 = v22555 39 := rfl; (try rw [h9]); clear h9; have h9 : v22555 30 = v 30 := hf22557 30 (by decide); (try rw [h9]); clear h9; omega)) (cwV 0 hwd (gV wk_1025 wk_1022 wk_1023 wk_1024 wk_5) rfl rfl rfl (by decide +kernel) ⟨Nat.le_of_ble_eq_true rfl, Nat.le_of_ble_eq_true rfl⟩) ⟨PM.blind, va_recv hK hP (ci := 12) (q0 := 0) rfl rfl, fun U hU hW => ⟨rfl, PM.at hK hE hP hS hU hW⟩⟩ rfl rfl hl.1 rfl (lv_room (Nat.le_of_ble_eq_true rfl)) dX12_either_72 ⟨Nat.le_of_ble_eq_true rfl, Nat.le_of_ble_eq_true rfl⟩) hS (fun q _ h => (freeM hS) q h) (freeM hS) (fun r22875 u t H1 locs ht hvm hw hB hz1 hk1 hS => ?_)
              unfold BM at hB
              rw [ht] at hB
              obtain ⟨v22876, F22877, rc9⟩ := u
              obtain ⟨hI, hrc, hf22878, hG22879, hw⟩ := hw
              dsimp only at hI hrc hB hf22878 hG22879 hw
              have hF := frCF (by decide) hG22879 hF
              rw [hrc] at hB
              have hP : va_P (dC, dI) classes (wM g c v22876 F22877 rc) H1 := hB
              have hw : (r22875.toInt = 1 ∧ (v22555 41).toInt < 8 ∧ (v22876 41).toInt = (v22555 41).toInt + 1 ∧ (v22876 39).toInt = (v22555 39).toInt + 1 ∧ (v22876 40).toInt = (v22555 40).toInt) ∨ (r22875.toInt = 0 ∧ (v22555 41).toInt = 8 ∧ 0 ≤ (v22876 40).toInt ∧ (v22876 41).toInt = (v22555 41).toInt ∧ (v22876 39).toInt = (v22555 39).toInt) := hw
              have hw_r22875 := hw
              have t22880 : 0 ≤ (v22876 39).toInt ∧ (v22876 39).toInt ≤ 120 := hI.1 39 _ _ rfl
              have t22881 : 0 ≤ (v22876 41).toInt ∧ (v22876 41).toInt ≤ 8 := hI.1 41 _ _ rfl
              generalize H1 = H at hP hS ⊢
              have hk : keepL (v 37) (F 28) (F 29) (F22877 28) (F22877 29) := by rw [hG22879 28 (by decide), hG22879 29 (by decide)]; exact hk
              have hd : (v22876 40).toInt < 0 → dp (F22877 28) (F22877 29) (bI (v 37)) (v22555 38).toInt.toNat = some (d + 1) := fun hf => (by rw [hG22879 28 (by decide), hG22879 29 (by decide)]; exact hd (by omega))
              refine lv_if_ne (tgt := 79) hx hb dX12_either_75 (by decide) (fun c22882 => ?_) (fun c22882 => ?_)
              · skip
                have t22883 := cv_ne (a := r22875.toInt) rfl (b := 0) (by decide) c22882
                refine lv_aload_n hx hb dX12_either_79 rfl (lv_at hl 1 rfl) ?_
                have t22884 : 0 ≤ (v 30).toInt ∧ (v 30).toInt ≤ 120 := by have h9 := hI.1 30 _ _ rfl; rw [show v22876 30 = v 30 from (hf22878 30 (by decide)).trans (hf22557 30 (by decide))] at h9; exact h9
                have t22885 : 0 ≤ (v 37).toInt ∧ (v 37).toInt ≤ 9 := by have h9 := hI.1 37 _ _ rfl; rw [show v22876 37 = v 37 from (hf22878 37 (by decide)).trans (hf22557 37 (by decide))] at h9; exact h9
                have t22886 : 0 ≤ (v22555 38).toInt ∧ (v22555 38).toInt ≤ 120 := by have h9 := hI.1 38 _ _ rfl; rw [show v22876 38 = v22555 38 from hf22878 38 (by decide)] at h9; exact h9
                have t22887 : 0 ≤ (v22876 39).toInt ∧ (v22876 39).toInt ≤ 120 := hI.1 39 _ _ rfl
                have t22888 : 0 ≤ (v22876 41).toInt ∧ (v22876 41).toInt ≤ 8 := hI.1 41 _ _ rfl
                refine va_callv (va_runV (As := []) (rest := []) ⟨hx, hb, hml, hown, hwd⟩ (c_X12_either_2 l dC dI g c adK adV v22876 F22877 rc H.size  (d + 1) hg hI (by have h9 : v22876 38 = v22555 38 := hf22878 38 (by decide); (try rw [h9]); clear h9; have h9 : v22876 39 = v22876 39 := rfl; (try rw [h9]); clear h9; have h9 : v22876 30 = v 30 := (hf22878 30 (by decide)).trans (hf22557 30 (by decide)); (try rw [h9]); clear h9; have h9 : v22876 40 = v22876 40 := rfl; (try rw [h9]); clear h9; have h9 : v22876 41 = v22876 41 := rfl; (try rw [h9]); clear h9; omega) (by have h9 : v22876 37 = (v 37) := (hf22878 37 (by decide)).trans (hf22557 37 (by decide)); have h8 : v22876 38 = (v22555 38) := hf22878 38 (by decide); (try rw [h9]); (try rw [h8]); exact hd (by omega))) (cwV 0 hwd (gV wk_1010 wk_1007 wk_1008 wk_1009 wk_5) rfl rfl rfl (by decide +kernel) ⟨Nat.le_of_ble_eq_true rfl, Nat.le_of_ble_eq_true rfl⟩) ⟨PM.blind, va_recv hK hP (ci := 12) (q0 := 0) rfl rfl, fun U hU hW => ⟨rfl, PM.at hK hE hP hS hU hW⟩⟩ rfl rfl hl.1 rfl (lv_room (Nat.le_of_ble_eq_true rfl)) dX12_either_80 ⟨Nat.le_of_ble_eq_true rfl, Nat.le_of_ble_eq_true rfl⟩) hS (fun q _ h => (freeM hS) q h) (freeM hS) (fun u t H1 locs ht hvm hw hB hz1 hk1 hS => ?_)
                unfold BM at hB
                rw [ht] at hB
                obtain ⟨v22890, F22891, rc9⟩ := u
                obtain ⟨hI, hrc, hf22892, hG22893, hw⟩ := hw
                dsimp only at hI hrc hB hf22892 hG22893 hw
                have hF := frCF (by decide) hG22893 hF
                rw [hrc] at hB
                have hP : va_P (dC, dI) classes (wM g c v22890 F22891 rc) H1 := hB
                have hw : ((v22876 39).toInt ≤ (v22890 39).toInt ∧ (v22890 39).toInt ≤ (v22876 30).toInt ∧ (v22876 38).toInt ≤ (v22890 38).toInt ∧ (v22890 38).toInt - (v22876 38).toInt ≤ (v22890 39).toInt - (v22876 39).toInt ∧ (v22876 41).toInt ≤ (v22890 41).toInt ∧ ((v22890 40).toInt < 0 → (v22890 41).toInt = (v22876 41).toInt)) ∧ keepL (v22876 37) (F22877 28) (F22877 29) (F22891 28) (F22891 29) ∧ ((v22890 40).toInt < 0 → dp (F22891 28) (F22891 29) (bI (v22876 37)) (v22890 38).toInt.toNat = some ((d + 1) + 1)) := hw
                rw [show v22876 30 = v 30 from (hf22878 30 (by decide)).trans (hf22557 30 (by decide))] at hw
                rw [show v22876 38 = v22555 38 from hf22878 38 (by decide)] at hw
                rw [show v22876 37 = v 37 from (hf22878 37 (by decide)).trans (hf22557 37 (by decide))] at hw
                have hw_r22889 := hw
                have t22894 : 0 ≤ (v22890 38).toInt ∧ (v22890 38).toInt ≤ 120 := hI.1 38 _ _ rfl
                have t22895 : 0 ≤ (v22890 39).toInt ∧ (v22890 39).toInt ≤ 120 := hI.1 39 _ _ rfl
                have t22896 : 0 ≤ (v22890 41).toInt ∧ (v22890 41).toInt ≤ 8 := hI.1 41 _ _ rfl
                generalize H1 = H at hP hS ⊢
                have hk := hk.tr hw_r22889.2.1
                have hd := hw_r22889.2.2
                refine lv_aload_n hx hb dX12_either_83 rfl (lv_at hl 1 rfl) ?_
                refine va_get (D := (dC, dI)) (ci := 12) (v := .int (v22890 40)) (C := RX12) (T := TX12) (N := 63) hx hb hwd inA_X12 hown hK hP 0 rfl rfl 40 (by decide) (hwd _ wk_1005) (fun _ h9 => h9) rfl dX12_either_84 ?_
                refine lv_if_lt (tgt := 91) hx hb dX12_either_87 (by decide) (fun c22897 => ?_) (fun c22897 => ?_)
                · skip
                  have t22898 := cv_lt (a := (v22890 40).toInt) rfl (b := 0) (by decide) c22897
                  refine lv_aload_n hx hb dX12_either_91 rfl (lv_at hl 1 rfl) ?_
                  have t22899 : 0 ≤ (v 30).toInt ∧ (v 30).toInt ≤ 120 := by have h9 := hI.1 30 _ _ rfl; rw [show v22890 30 = v 30 from (hf22892 30 (by decide)).trans ((hf22878 30 (by decide)).trans (hf22557 30 (by decide)))] at h9; exact h9
                  have t22900 : 0 ≤ (v22890 39).toInt ∧ (v22890 39).toInt ≤ 120 := hI.1 39 _ _ rfl
                  refine va_calli (va_runV (As := []) (rest := []) ⟨hx, hb, hml, hown, hwd⟩ (c_X12_look l dC dI g c adK adV v22890 F22891 rc H.size  hg hI ) (cwV 0 hwd (gV wk_1017 wk_1014 wk_1015 wk_1016 wk_5) rfl rfl rfl (by decide +kernel) ⟨Nat.le_of_ble_eq_true rfl, Nat.le_of_ble_eq_true rfl⟩) ⟨PM.blind, va_recv hK hP (ci := 12) (q0 := 0) rfl rfl, fun U hU hW => ⟨rfl, PM.at hK hE hP hS hU hW⟩⟩ rfl rfl hl.1 rfl (lv_room (Nat.le_of_ble_eq_true rfl)) dX12_either_92 ⟨Nat.le_of_ble_eq_true rfl, Nat.le_of_ble_eq_true rfl⟩) hS (fun q _ h => (freeM hS) q h) (freeM hS) (fun r22901 u t H1 locs ht hvm hw hB hz1 hk1 hS => ?_)
                  unfold BM at hB
                  rw [ht] at hB
                  have hP : va_P (dC, dI) classes (wM g c v22890 F22891 rc) H1 := hB
                  have hw : r22901.toInt = lkM (v22890 39) (v22890 30) (F22891 24) ∧ ((v22890 39).toInt < (v22890 30).toInt ∨ r22901.toInt = -1) := hw
                  rw [show v22890 30 = v 30 from (hf22892 30 (by decide)).trans ((hf22878 30 (by decide)).trans (hf22557 30 (by decide)))] at hw
                  rw [hF 24 (by decide)] at hw
                  have hw_r22901 := hw
                  generalize H1 = H at hP hS ⊢
                  refine lv_bipush (v := 58) hx hb dX12_either_95 (by decide) ?_
                  refine lv_icmp_eq (tgt := 105) hx hb dX12_either_97 (by decide) (fun c22902 => ?_) (fun c22902 => ?_)
                  · skip
                    have t22903 := cv_eq (a := r22901.toInt) rfl (b := 58) (by decide) c22902
                    refine lv_aload_n hx hb dX12_either_105 rfl (lv_at hl 1 rfl) ?_
                    refine lv_dup hx hb dX12_either_106 rfl ?_
                    refine va_get (D := (dC, dI)) (ci := 12) (v := .int (v22890 39)) (C := RX12) (T := TX12) (N := 63) hx hb hwd inA_X12 hown hK hP 0 rfl rfl 39 (by decide) (hwd _ wk_1004) (fun _ h9 => h9) rfl dX12_either_107 ?_
                    have t22904 : 0 ≤ (v22890 39).toInt ∧ (v22890 39).toInt ≤ 120 := hI.1 39 _ _ rfl
                    refine lv_iconst (v := 1) hx hb dX12_either_110 (by decide) ?_
                    refine lv_iadd hx hb dX12_either_111 ?_
                    refine lv_topi (fun z22905 e22906 => ?_)
                    try (have t22907 := tadd e22906 (a := (v22890 39).toInt) rfl (b := 1) (by decide) (by omega))
                    refine va_put (D := (dC, dI)) (ci := 12) (v := .int z22905) (ty := .int) (C := RX12) (T := TX12) (N := 63) (fs := fsM_0 g v22890 rc) hx hb hwd inA_X12 tyX12 tyX12_ok nmX12 hown hK hP (DM hg) hS 0 rfl rfl 39 (by decide) (hwd _ wk_1004) (fun _ h9 => h9) rfl (by decide +kernel) rfl rfl (Nat.le_of_ble_eq_true rfl) dX12_either_112 (fun H locs hP _ hS => ?_)
                    have hP := va_P_eq (pM_39 g c _ _ _ _) hP
                    have hI := IM.put hI 39 z22905 rfl (by omega)
                    refine lv_aload_n hx hb dX12_either_115 rfl (lv_at hl 1 rfl) ?_
                    have t22908 : 0 ≤ (v 30).toInt ∧ (v 30).toInt ≤ 120 := by have h9 := hI.1 30 _ _ rfl; rw [show (va_up v22890 39 z22905) 30 = v 30 from (hf22892 30 (by decide)).trans ((hf22878 30 (by decide)).trans (hf22557 30 (by decide)))] at h9; exact h9
                    have t22909 : 0 ≤ (v 37).toInt ∧ (v 37).toInt ≤ 9 := by have h9 := hI.1 37 _ _ rfl; rw [show (va_up v22890 39 z22905) 37 = v 37 from (hf22892 37 (by decide)).trans ((hf22878 37 (by decide)).trans (hf22557 37 (by decide)))] at h9; exact h9
                    have t22910 : 0 ≤ (v22890 38).toInt ∧ (v22890 38).toInt ≤ 120 := hI.1 38 _ _ rfl
                    have t22911 : 0 ≤ z22905.toInt ∧ z22905.toInt ≤ 120 := hI.1 39 _ _ rfl
                    have t22912 : 0 ≤ (v22890 41).toInt ∧ (v22890 41).toInt ≤ 8 := hI.1 41 _ _ rfl
                    refine va_callv (va_runV (As := []) (rest := []) ⟨hx, hb, hml, hown, hwd⟩ (c_X12_either_2 l dC dI g c adK adV (va_up v22890 39 z22905) F22891 rc H.size  ((d + 1) + 1) hg hI (by have h9 : (va_up v22890 39 z22905) 38 = v22890 38 := rfl; (try rw [h9]); clear h9; have h9 : (va_up v22890 39 z22905) 39 = z22905 := rfl; (try rw [h9]); clear h9; have h9 : (va_up v22890 39 z22905) 30 = v 30 := (hf22892 30 (by decide)).trans ((hf22878 30 (by decide)).trans (hf22557 30 (by decide))); (try rw [h9]); clear h9; have h9 : (va_up v22890 39 z22905) 40 = v22890 40 := rfl; (try rw [h9]); clear h9; have h9 : (va_up v22890 39 z22905) 41 = v22890 41 := rfl; (try rw [h9]); clear h9; omega) (by have h9 : (va_up v22890 39 z22905) 37 = (v 37) := (hf22892 37 (by decide)).trans ((hf22878 37 (by decide)).trans (hf22557 37 (by decide))); have h8 : (va_up v22890 39 z22905) 38 = (v22890 38) := rfl; (try rw [h9]); (try rw [h8]); exact hd (by omega))) (cwV 0 hwd (gV wk_1010 wk_1007 wk_1008 wk_1009 wk_5) rfl rfl rfl (by decide +kernel) ⟨Nat.le_of_ble_eq_true rfl, Nat.le_of_ble_eq_true rfl⟩) ⟨PM.blind, va_recv hK hP (ci := 12) (q0 := 0) rfl rfl, fun U hU hW => ⟨rfl, PM.at hK hE hP hS hU hW⟩⟩ rfl rfl hl.1 rfl (lv_room (Nat.le_of_ble_eq_true rfl)) dX12_either_116 ⟨Nat.le_of_ble_eq_true rfl, Nat.le_of_ble_eq_true rfl⟩) hS (fun q _ h => (freeM hS) q h) (freeM hS) (fun u t H1 locs ht hvm hw hB hz1 hk1 hS => ?_)
                    unfold BM at hB
                    rw [ht] at hB
                    obtain ⟨v22914, F22915, rc9⟩ := u
                    obtain ⟨hI, hrc, hf22916, hG22917, hw⟩ := hw
                    dsimp only at hI hrc hB hf22916 hG22917 hw
                    have hF := frCF (by decide) hG22917 hF
                    rw [hrc] at hB
                    have hP : va_P (dC, dI) classes (wM g c v22914 F22915 rc) H1 := hB
                    have hw : (z22905.toInt ≤ (v22914 39).toInt ∧ (v22914 39).toInt ≤ ((va_up v22890 39 z22905) 30).toInt ∧ (v22890 38).toInt ≤ (v22914 38).toInt ∧ (v22914 38).toInt - (v22890 38).toInt ≤ (v22914 39).toInt - z22905.toInt ∧ (v22890 41).toInt ≤ (v22914 41).toInt ∧ ((v22914 40).toInt < 0 → (v22914 41).toInt = (v22890 41).toInt)) ∧ keepL ((va_up v22890 39 z22905) 37) (F22891 28) (F22891 29) (F22915 28) (F22915 29) ∧ ((v22914 40).toInt < 0 → dp (F22915 28) (F22915 29) (bI ((va_up v22890 39 z22905) 37)) (v22914 38).toInt.toNat = some (((d + 1) + 1) + 1)) := hw
                    rw [show (va_up v22890 39 z22905) 30 = v 30 from (hf22892 30 (by decide)).trans ((hf22878 30 (by decide)).trans (hf22557 30 (by decide)))] at hw
                    rw [show (va_up v22890 39 z22905) 37 = v 37 from (hf22892 37 (by decide)).trans ((hf22878 37 (by decide)).trans (hf22557 37 (by decide)))] at hw
                    have hw_r22913 := hw
                    have t22918 : 0 ≤ (v22914 38).toInt ∧ (v22914 38).toInt ≤ 120 := hI.1 38 _ _ rfl
                    have t22919 : 0 ≤ (v22914 39).toInt ∧ (v22914 39).toInt ≤ 120 := hI.1 39 _ _ rfl
                    have t22920 : 0 ≤ (v22914 41).toInt ∧ (v22914 41).toInt ≤ 8 := hI.1 41 _ _ rfl
                    generalize H1 = H at hP hS ⊢
                    have hk := hk.tr hw_r22913.2.1
                    have hd := hw_r22913.2.2
                    refine lv_aload_n hx hb dX12_either_119 rfl (lv_at hl 1 rfl) ?_
                    refine lv_iconst (v := 4) hx hb dX12_either_120 (by decide) ?_
                    refine lv_iconst (v := 0) hx hb dX12_either_121 (by decide) ?_
                    have t22921 : 0 ≤ (v 37).toInt ∧ (v 37).toInt ≤ 9 := by have h9 := hI.1 37 _ _ rfl; rw [show v22914 37 = v 37 from (hf22916 37 (by decide)).trans ((hf22892 37 (by decide)).trans ((hf22878 37 (by decide)).trans (hf22557 37 (by decide))))] at h9; exact h9
                    have t22922 : 0 ≤ (v22914 38).toInt ∧ (v22914 38).toInt ≤ 120 := hI.1 38 _ _ rfl
                    refine va_callv (va_runV (As := [.int 4, .int 0]) (rest := []) ⟨hx, hb, hml, hown, hwd⟩ (c_X12_lay l dC dI g c adK adV v22914 F22915 rc H.size 4 0 hg hI (by have h9 : v22914 38 = v22914 38 := rfl; rw [h9]; omega)) (cwV 2 hwd (gV wk_1021 wk_1018 wk_1019 wk_1020 wk_5) rfl rfl rfl (by decide +kernel) ⟨Nat.le_of_ble_eq_true rfl, Nat.le_of_ble_eq_true rfl⟩) ⟨PM.blind, va_recv hK hP (ci := 12) (q0 := 0) rfl rfl, fun U hU hW => ⟨rfl, PM.at hK hE hP hS hU hW⟩⟩ rfl rfl hl.1 rfl (lv_room (Nat.le_of_ble_eq_true rfl)) dX12_either_122 ⟨Nat.le_of_ble_eq_true rfl, Nat.le_of_ble_eq_true rfl⟩) hS (fun q _ h => (freeM hS) q h) (freeM hS) (fun u t H1 locs ht hvm hw hB hz1 hk1 hS => ?_)
                    unfold BM at hB
                    rw [ht] at hB
                    obtain ⟨v22924, F22925, rc9⟩ := u
                    obtain ⟨hI, hrc, hf22926, hG22927, hw⟩ := hw
                    dsimp only at hI hrc hB hf22926 hG22927 hw
                    have hF := frCF (by decide) hG22927 hF
                    rw [hrc] at hB
                    have hP : va_P (dC, dI) classes (wM g c v22924 F22925 rc) H1 := hB
                    have hw : (v22924 38).toInt = (v22914 38).toInt + 1 ∧ keepL (v22914 37) (F22915 28) (F22915 29) (F22925 28) (F22925 29) ∧ dp (F22925 28) (F22925 29) (bI (v22914 37)) ((v22914 38).toInt.toNat + 1) = dpS (dp (F22915 28) (F22915 29) (bI (v22914 37)) (v22914 38).toInt.toNat) (4 : Int32) (0 : Int32) := hw
                    rw [show v22914 37 = v 37 from (hf22916 37 (by decide)).trans ((hf22892 37 (by decide)).trans ((hf22878 37 (by decide)).trans (hf22557 37 (by decide))))] at hw
                    have hw_r22923 := hw
                    have t22928 : 0 ≤ (v22924 38).toInt ∧ (v22924 38).toInt ≤ 120 := hI.1 38 _ _ rfl
                    have k22929 : (4 : Int32).toInt = 4 := by decide
                    have k22930 : (0 : Int32).toInt = 0 := by decide
                    generalize H1 = H at hP hS ⊢
                    have hk := hk.tr hw_r22923.2.1
                    have hd : (v22914 40).toInt < 0 → dp (F22925 28) (F22925 29) (bI (v 37)) (v22924 38).toInt.toNat = some ((((d + 1) + 1) + 1) - 2) := fun hf => (by have e9 : (v22924 38).toInt.toNat = (v22914 38).toInt.toNat + 1 := (by omega); rw [e9, hw_r22923.2.2, hd hf]; exact dpS_4 (by decide) (by omega))
                    refine lv_aload_n hx hb dX12_either_125 rfl (lv_at hl 1 rfl) ?_
                    refine lv_dup hx hb dX12_either_126 rfl ?_
                    refine va_get (D := (dC, dI)) (ci := 12) (v := .int (v22924 41)) (C := RX12) (T := TX12) (N := 63) hx hb hwd inA_X12 hown hK hP 0 rfl rfl 41 (by decide) (hwd _ wk_1006) (fun _ h9 => h9) rfl dX12_either_127 ?_
                    refine my_top (v := v22914 41) (hf22926 41 (by decide)) ?_
                    have t22931 : 0 ≤ (v22914 41).toInt ∧ (v22914 41).toInt ≤ 8 := by have h9 := hI.1 41 _ _ rfl; rw [show v22924 41 = v22914 41 from hf22926 41 (by decide)] at h9; exact h9
                    refine lv_iconst (v := 1) hx hb dX12_either_130 (by decide) ?_
                    refine lv_isub hx hb dX12_either_131 ?_
                    refine lv_topi (fun z22932 e22933 => ?_)
                    try (have t22934 := tsub e22933 (a := (v22914 41).toInt) rfl (b := 1) (by decide) (by omega))
                    refine va_put (D := (dC, dI)) (ci := 12) (v := .int z22932) (ty := .int) (C := RX12) (T := TX12) (N := 63) (fs := fsM_0 g v22924 rc) hx hb hwd inA_X12 tyX12 tyX12_ok nmX12 hown hK hP (DM hg) hS 0 rfl rfl 41 (by decide) (hwd _ wk_1006) (fun _ h9 => h9) rfl (by decide +kernel) rfl rfl (Nat.le_of_ble_eq_true rfl) dX12_either_132 (fun H locs hP _ hS => ?_)
                    have hP := va_P_eq (pM_41 g c _ _ _ _) hP
                    have hI := IM.put hI 41 z22932 rfl (by omega)
                    have hP9 : va_P (dC, dI) classes (wM g c (va_up v22924 41 z22932) F22925 rc) H := hP
                    exact W.vret hx hb hr (fun t ht hW => ⟨⟨((va_up v22924 41 z22932), F22925, rc), rfl, ⟨hI, rfl, (frU (by decide) (frC (by decide) hf22926 (frC (by decide) hf22916 (frU (by decide) (frC (by decide) hf22892 (frC (by decide) hf22878 (frC (by decide) hf22557 (fun _ _ => rfl)))))))), hF, (by show ((v 39).toInt ≤ ((va_up v22924 41 z22932) 39).toInt ∧ ((va_up v22924 41 z22932) 39).toInt ≤ (v 30).toInt ∧ (v 38).toInt ≤ (v22924 38).toInt ∧ (v22924 38).toInt - (v 38).toInt ≤ ((va_up v22924 41 z22932) 39).toInt - (v 39).toInt ∧ (v 41).toInt ≤ z22932.toInt ∧ (((va_up v22924 41 z22932) 40).toInt < 0 → z22932.toInt = (v 41).toInt)) ∧ keepL (v 37) (F 28) (F 29) (F22925 28) (F22925 29) ∧ (((va_up v22924 41 z22932) 40).toInt < 0 → dp (F22925 28) (F22925 29) (bI (v 37)) (v22924 38).toInt.toNat = some (d + 1)); rw [show (va_up v22924 41 z22932) 39 = v22914 39 from hf22926 39 (by decide)]; rw [show (va_up v22924 41 z22932) 40 = v22914 40 from hf22926 40 (by decide)]; exact ⟨by omega, hk, fun hf => (hd (by omega)).trans (congrArg some (by omega))⟩)⟩, (by show va_P _ _ _ t.heap; rw [ht]; exact hP9)⟩, hS.F ht⟩) hS.2.2 dX12_either_135
                  · skip
                    have t22935 := cv_ne (a := r22901.toInt) rfl (b := 58) (by decide) c22902
                    refine lv_aload_n hx hb dX12_either_100 rfl (lv_at hl 1 rfl) ?_
                    refine va_callv (va_runV (As := []) (rest := []) ⟨hx, hb, hml, hown, hwd⟩ (c_X12_wrong l dC dI g c adK adV v22890 F22891 rc H.size  hg hI ) (cwV 0 hwd (gV wk_1029 wk_1026 wk_1027 wk_1028 wk_5) rfl rfl rfl (by decide +kernel) ⟨Nat.le_of_ble_eq_true rfl, Nat.le_of_ble_eq_true rfl⟩) ⟨PM.blind, va_recv hK hP (ci := 12) (q0 := 0) rfl rfl, fun U hU hW => ⟨rfl, PM.at hK hE hP hS hU hW⟩⟩ rfl rfl hl.1 rfl (lv_room (Nat.le_of_ble_eq_true rfl)) dX12_either_101 ⟨Nat.le_of_ble_eq_true rfl, Nat.le_of_ble_eq_true rfl⟩) hS (fun q _ h => (freeM hS) q h) (freeM hS) (fun u t H1 locs ht hvm hw hB hz1 hk1 hS => ?_)
                    unfold BM at hB
                    rw [ht] at hB
                    obtain ⟨v22937, F22938, rc9⟩ := u
                    obtain ⟨hI, hrc, hf22939, hG22940, hw⟩ := hw
                    dsimp only at hI hrc hB hf22939 hG22940 hw
                    have hF := frCF (by decide) hG22940 hF
                    rw [hrc] at hB
                    have hP : va_P (dC, dI) classes (wM g c v22937 F22938 rc) H1 := hB
                    have hw : 0 ≤ (v22937 40).toInt := hw
                    have hw_r22936 := hw
                    generalize H1 = H at hP hS ⊢
                    have hk : keepL (v 37) (F 28) (F 29) (F22938 28) (F22938 29) := by rw [hG22940 28 (by decide), hG22940 29 (by decide)]; exact hk
                    have hd : (v22937 40).toInt < 0 → dp (F22938 28) (F22938 29) (bI (v 37)) (v22890 38).toInt.toNat = some ((d + 1) + 1) := fun hf => (by rw [hG22940 28 (by decide), hG22940 29 (by decide)]; exact hd (by omega))
                    have hP9 : va_P (dC, dI) classes (wM g c v22937 F22938 rc) H := hP
                    exact W.vret hx hb hr (fun t ht hW => ⟨⟨(v22937, F22938, rc), rfl, ⟨hI, rfl, (frC (by decide) hf22939 (frC (by decide) hf22892 (frC (by decide) hf22878 (frC (by decide) hf22557 (fun _ _ => rfl))))), hF, (by show ((v 39).toInt ≤ (v22937 39).toInt ∧ (v22937 39).toInt ≤ (v 30).toInt ∧ (v 38).toInt ≤ (v22937 38).toInt ∧ (v22937 38).toInt - (v 38).toInt ≤ (v22937 39).toInt - (v 39).toInt ∧ (v 41).toInt ≤ (v22937 41).toInt ∧ ((v22937 40).toInt < 0 → (v22937 41).toInt = (v 41).toInt)) ∧ keepL (v 37) (F 28) (F 29) (F22938 28) (F22938 29) ∧ ((v22937 40).toInt < 0 → dp (F22938 28) (F22938 29) (bI (v 37)) (v22937 38).toInt.toNat = some (d + 1)); rw [show v22937 39 = v22890 39 from hf22939 39 (by decide)]; rw [show v22937 38 = v22890 38 from hf22939 38 (by decide)]; rw [show v22937 41 = v22890 41 from hf22939 41 (by decide)]; exact ⟨by omega, hk, fun hf => (hd (by omega)).trans (congrArg some (by omega))⟩)⟩, (by show va_P _ _ _ t.heap; rw [ht]; exact hP9)⟩, hS.F ht⟩) hS.2.2 dX12_either_104
                · skip
                  have t22941 := cv_nlt (a := (v22890 40).toInt) rfl (b := 0) (by decide) c22897
                  have hP9 : va_P (dC, dI) classes (wM g c v22890 F22891 rc) H := hP
                  exact W.vret hx hb hr (fun t ht hW => ⟨⟨(v22890, F22891, rc), rfl, ⟨hI, rfl, (frC (by decide) hf22892 (frC (by decide) hf22878 (frC (by decide) hf22557 (fun _ _ => rfl)))), hF, (by show ((v 39).toInt ≤ (v22890 39).toInt ∧ (v22890 39).toInt ≤ (v 30).toInt ∧ (v 38).toInt ≤ (v22890 38).toInt ∧ (v22890 38).toInt - (v 38).toInt ≤ (v22890 39).toInt - (v 39).toInt ∧ (v 41).toInt ≤ (v22890 41).toInt ∧ ((v22890 40).toInt < 0 → (v22890 41).toInt = (v 41).toInt)) ∧ keepL (v 37) (F 28) (F 29) (F22891 28) (F22891 29) ∧ ((v22890 40).toInt < 0 → dp (F22891 28) (F22891 29) (bI (v 37)) (v22890 38).toInt.toNat = some (d + 1)); exact ⟨by omega, hk, fun hf => (hd (by omega)).trans (congrArg some (by omega))⟩)⟩, (by show va_P _ _ _ t.heap; rw [ht]; exact hP9)⟩, hS.F ht⟩) hS.2.2 dX12_either_90
              · skip
                have t22942 := cv_eq (a := r22875.toInt) rfl (b := 0) (by decide) c22882
                have hP9 : va_P (dC, dI) classes (wM g c v22876 F22877 rc) H := hP
                exact W.vret hx hb hr (fun t ht hW => ⟨⟨(v22876, F22877, rc), rfl, ⟨hI, rfl, (frC (by decide) hf22878 (frC (by decide) hf22557 (fun _ _ => rfl))), hF, (by show ((v 39).toInt ≤ (v22876 39).toInt ∧ (v22876 39).toInt ≤ (v 30).toInt ∧ (v 38).toInt ≤ (v22876 38).toInt ∧ (v22876 38).toInt - (v 38).toInt ≤ (v22876 39).toInt - (v 39).toInt ∧ (v 41).toInt ≤ (v22876 41).toInt ∧ ((v22876 40).toInt < 0 → (v22876 41).toInt = (v 41).toInt)) ∧ keepL (v 37) (F 28) (F 29) (F22877 28) (F22877 29) ∧ ((v22876 40).toInt < 0 → dp (F22877 28) (F22877 29) (bI (v 37)) (v22876 38).toInt.toNat = some (d + 1)); rw [show v22876 38 = v22555 38 from hf22878 38 (by decide)]; exact ⟨by omega, hk, fun hf => (hd (by omega)).trans (congrArg some (by omega))⟩)⟩, (by show va_P _ _ _ t.heap; rw [ht]; exact hP9)⟩, hS.F ht⟩) hS.2.2 dX12_either_78
            · skip
              have t22943 := cv_ne (a := r22870.toInt) rfl (b := 63) (by decide) c22871
              have hP9 : va_P (dC, dI) classes (wM g c v22555 F22556 rc) H := hP
              exact W.vret hx hb hr (fun t ht hW => ⟨⟨(v22555, F22556, rc), rfl, ⟨hI, rfl, (frC (by decide) hf22557 (fun _ _ => rfl)), hF, (by show ((v 39).toInt ≤ (v22555 39).toInt ∧ (v22555 39).toInt ≤ (v 30).toInt ∧ (v 38).toInt ≤ (v22555 38).toInt ∧ (v22555 38).toInt - (v 38).toInt ≤ (v22555 39).toInt - (v 39).toInt ∧ (v 41).toInt ≤ (v22555 41).toInt ∧ ((v22555 40).toInt < 0 → (v22555 41).toInt = (v 41).toInt)) ∧ keepL (v 37) (F 28) (F 29) (F22556 28) (F22556 29) ∧ ((v22555 40).toInt < 0 → dp (F22556 28) (F22556 29) (bI (v 37)) (v22555 38).toInt.toNat = some (d + 1)); exact ⟨by omega, hk, fun hf => (hd (by omega)).trans (congrArg some (by omega))⟩)⟩, (by show va_P _ _ _ t.heap; rw [ht]; exact hP9)⟩, hS.F ht⟩) hS.2.2 dX12_either_70
        · skip
          have t22944 := cv_eq (a := r22564.toInt) rfl (b := 62) (by decide) c22863
          refine lv_aload_n hx hb dX12_either_34 rfl (lv_at hl 1 rfl) ?_
          refine lv_dup hx hb dX12_either_35 rfl ?_
          refine va_get (D := (dC, dI)) (ci := 12) (v := .int (v22555 39)) (C := RX12) (T := TX12) (N := 63) hx hb hwd inA_X12 hown hK hP 0 rfl rfl 39 (by decide) (hwd _ wk_1004) (fun _ h9 => h9) rfl dX12_either_36 ?_
          have t22945 : 0 ≤ (v22555 39).toInt ∧ (v22555 39).toInt ≤ 120 := hI.1 39 _ _ rfl
          refine lv_iconst (v := 1) hx hb dX12_either_39 (by decide) ?_
          refine lv_iadd hx hb dX12_either_40 ?_
          refine lv_topi (fun z22946 e22947 => ?_)
          try (have t22948 := tadd e22947 (a := (v22555 39).toInt) rfl (b := 1) (by decide) (by omega))
          refine va_put (D := (dC, dI)) (ci := 12) (v := .int z22946) (ty := .int) (C := RX12) (T := TX12) (N := 63) (fs := fsM_0 g v22555 rc) hx hb hwd inA_X12 tyX12 tyX12_ok nmX12 hown hK hP (DM hg) hS 0 rfl rfl 39 (by decide) (hwd _ wk_1004) (fun _ h9 => h9) rfl (by decide +kernel) rfl rfl (Nat.le_of_ble_eq_true rfl) dX12_either_41 (fun H locs hP _ hS => ?_)
          have hP := va_P_eq (pM_39 g c _ _ _ _) hP
          have hI := IM.put hI 39 z22946 rfl (by omega)
          refine lv_aload_n hx hb dX12_either_44 rfl (lv_at hl 1 rfl) ?_
          have t22949 : 0 ≤ (v 30).toInt ∧ (v 30).toInt ≤ 120 := by have h9 := hI.1 30 _ _ rfl; rw [show (va_up v22555 39 z22946) 30 = v 30 from hf22557 30 (by decide)] at h9; exact h9
          have t22950 : 0 ≤ (v 37).toInt ∧ (v 37).toInt ≤ 9 := by have h9 := hI.1 37 _ _ rfl; rw [show (va_up v22555 39 z22946) 37 = v 37 from hf22557 37 (by decide)] at h9; exact h9
          have t22951 : 0 ≤ (v22555 38).toInt ∧ (v22555 38).toInt ≤ 120 := hI.1 38 _ _ rfl
          have t22952 : 0 ≤ z22946.toInt ∧ z22946.toInt ≤ 120 := hI.1 39 _ _ rfl
          have t22953 : 0 ≤ (v22555 41).toInt ∧ (v22555 41).toInt ≤ 8 := hI.1 41 _ _ rfl
          refine va_callv (va_runV (As := []) (rest := []) ⟨hx, hb, hml, hown, hwd⟩ (c_X12_sum_1 l dC dI g c adK adV (va_up v22555 39 z22946) F22556 rc H.size  (d + 1) hg hI (by have h9 : (va_up v22555 39 z22946) 38 = v22555 38 := rfl; (try rw [h9]); clear h9; have h9 : (va_up v22555 39 z22946) 39 = z22946 := rfl; (try rw [h9]); clear h9; have h9 : (va_up v22555 39 z22946) 30 = v 30 := hf22557 30 (by decide); (try rw [h9]); clear h9; have h9 : (va_up v22555 39 z22946) 40 = v22555 40 := rfl; (try rw [h9]); clear h9; have h9 : (va_up v22555 39 z22946) 41 = v22555 41 := rfl; (try rw [h9]); clear h9; omega) (by have h9 : (va_up v22555 39 z22946) 37 = (v 37) := hf22557 37 (by decide); have h8 : (va_up v22555 39 z22946) 38 = (v22555 38) := rfl; (try rw [h9]); (try rw [h8]); exact hd (by omega))) (cwV 0 hwd (gV wk_1043 wk_1011 wk_1012 wk_1013 wk_5) rfl rfl rfl (by decide +kernel) ⟨Nat.le_of_ble_eq_true rfl, Nat.le_of_ble_eq_true rfl⟩) ⟨PM.blind, va_recv hK hP (ci := 12) (q0 := 0) rfl rfl, fun U hU hW => ⟨rfl, PM.at hK hE hP hS hU hW⟩⟩ rfl rfl hl.1 rfl (lv_room (Nat.le_of_ble_eq_true rfl)) dX12_either_45 ⟨Nat.le_of_ble_eq_true rfl, Nat.le_of_ble_eq_true rfl⟩) hS (fun q _ h => (freeM hS) q h) (freeM hS) (fun u t H1 locs ht hvm hw hB hz1 hk1 hS => ?_)
          unfold BM at hB
          rw [ht] at hB
          obtain ⟨v22955, F22956, rc9⟩ := u
          obtain ⟨hI, hrc, hf22957, hG22958, hw⟩ := hw
          dsimp only at hI hrc hB hf22957 hG22958 hw
          have hF := frCF (by decide) hG22958 hF
          rw [hrc] at hB
          have hP : va_P (dC, dI) classes (wM g c v22955 F22956 rc) H1 := hB
          have hw : (z22946.toInt ≤ (v22955 39).toInt ∧ (v22955 39).toInt ≤ ((va_up v22555 39 z22946) 30).toInt ∧ (v22555 38).toInt ≤ (v22955 38).toInt ∧ (v22955 38).toInt - (v22555 38).toInt ≤ (v22955 39).toInt - z22946.toInt ∧ (v22555 41).toInt ≤ (v22955 41).toInt ∧ ((v22955 40).toInt < 0 → (v22955 41).toInt = (v22555 41).toInt)) ∧ keepL ((va_up v22555 39 z22946) 37) (F22556 28) (F22556 29) (F22956 28) (F22956 29) ∧ ((v22955 40).toInt < 0 → dp (F22956 28) (F22956 29) (bI ((va_up v22555 39 z22946) 37)) (v22955 38).toInt.toNat = some ((d + 1) + 1)) := hw
          rw [show (va_up v22555 39 z22946) 30 = v 30 from hf22557 30 (by decide)] at hw
          rw [show (va_up v22555 39 z22946) 37 = v 37 from hf22557 37 (by decide)] at hw
          have hw_r22954 := hw
          have t22959 : 0 ≤ (v22955 38).toInt ∧ (v22955 38).toInt ≤ 120 := hI.1 38 _ _ rfl
          have t22960 : 0 ≤ (v22955 39).toInt ∧ (v22955 39).toInt ≤ 120 := hI.1 39 _ _ rfl
          have t22961 : 0 ≤ (v22955 41).toInt ∧ (v22955 41).toInt ≤ 8 := hI.1 41 _ _ rfl
          generalize H1 = H at hP hS ⊢
          have hk := hk.tr hw_r22954.2.1
          have hd := hw_r22954.2.2
          refine lv_aload_n hx hb dX12_either_48 rfl (lv_at hl 1 rfl) ?_
          refine lv_iload_n hx hb dX12_either_49 rfl (lv_at hl 0 rfl) ?_
          refine lv_iconst (v := 0) hx hb dX12_either_50 (by decide) ?_
          have t22962 : 0 ≤ (v 37).toInt ∧ (v 37).toInt ≤ 9 := by have h9 := hI.1 37 _ _ rfl; rw [show v22955 37 = v 37 from (hf22957 37 (by decide)).trans (hf22557 37 (by decide))] at h9; exact h9
          have t22963 : 0 ≤ (v22955 38).toInt ∧ (v22955 38).toInt ≤ 120 := hI.1 38 _ _ rfl
          refine va_callv (va_runV (As := [.int r22564, .int 0]) (rest := []) ⟨hx, hb, hml, hown, hwd⟩ (c_X12_lay l dC dI g c adK adV v22955 F22956 rc H.size r22564 0 hg hI (by have h9 : v22955 38 = v22955 38 := rfl; rw [h9]; omega)) (cwV 2 hwd (gV wk_1021 wk_1018 wk_1019 wk_1020 wk_5) rfl rfl rfl (by decide +kernel) ⟨Nat.le_of_ble_eq_true rfl, Nat.le_of_ble_eq_true rfl⟩) ⟨PM.blind, va_recv hK hP (ci := 12) (q0 := 0) rfl rfl, fun U hU hW => ⟨rfl, PM.at hK hE hP hS hU hW⟩⟩ rfl rfl hl.1 rfl (lv_room (Nat.le_of_ble_eq_true rfl)) dX12_either_51 ⟨Nat.le_of_ble_eq_true rfl, Nat.le_of_ble_eq_true rfl⟩) hS (fun q _ h => (freeM hS) q h) (freeM hS) (fun u t H1 locs ht hvm hw hB hz1 hk1 hS => ?_)
          unfold BM at hB
          rw [ht] at hB
          obtain ⟨v22965, F22966, rc9⟩ := u
          obtain ⟨hI, hrc, hf22967, hG22968, hw⟩ := hw
          dsimp only at hI hrc hB hf22967 hG22968 hw
          have hF := frCF (by decide) hG22968 hF
          rw [hrc] at hB
          have hP : va_P (dC, dI) classes (wM g c v22965 F22966 rc) H1 := hB
          have hw : (v22965 38).toInt = (v22955 38).toInt + 1 ∧ keepL (v22955 37) (F22956 28) (F22956 29) (F22966 28) (F22966 29) ∧ dp (F22966 28) (F22966 29) (bI (v22955 37)) ((v22955 38).toInt.toNat + 1) = dpS (dp (F22956 28) (F22956 29) (bI (v22955 37)) (v22955 38).toInt.toNat) r22564 (0 : Int32) := hw
          rw [show v22955 37 = v 37 from (hf22957 37 (by decide)).trans (hf22557 37 (by decide))] at hw
          have hw_r22964 := hw
          have t22969 : 0 ≤ (v22965 38).toInt ∧ (v22965 38).toInt ≤ 120 := hI.1 38 _ _ rfl
          have k22970 : (0 : Int32).toInt = 0 := by decide
          generalize H1 = H at hP hS ⊢
          have hk := hk.tr hw_r22964.2.1
          have hd : (v22955 40).toInt < 0 → dp (F22966 28) (F22966 29) (bI (v 37)) (v22965 38).toInt.toNat = some (((d + 1) + 1) - 1) := fun hf => (by have e9 : (v22965 38).toInt.toNat = (v22955 38).toInt.toNat + 1 := (by omega); rw [e9, hw_r22964.2.2, hd hf]; exact dpS_5 (by omega) (by omega) (by omega) (by omega) (by omega))
          refine lv_aload_n hx hb dX12_either_54 rfl (lv_at hl 1 rfl) ?_
          refine va_get (D := (dC, dI)) (ci := 12) (v := .int (v22965 40)) (C := RX12) (T := TX12) (N := 63) hx hb hwd inA_X12 hown hK hP 0 rfl rfl 40 (by decide) (hwd _ wk_1005) (fun _ h9 => h9) rfl dX12_either_55 ?_
          refine my_top (v := v22955 40) (hf22967 40 (by decide)) ?_
          refine lv_if_ge (tgt := 70) hx hb dX12_either_58 (by decide) (fun c22971 => ?_) (fun c22971 => ?_)
          · skip
            have t22972 := cv_le (a := 0) (by decide) (b := (v22955 40).toInt) rfl c22971
            have hP9 : va_P (dC, dI) classes (wM g c v22965 F22966 rc) H := hP
            exact W.vret hx hb hr (fun t ht hW => ⟨⟨(v22965, F22966, rc), rfl, ⟨hI, rfl, (frC (by decide) hf22967 (frC (by decide) hf22957 (frU (by decide) (frC (by decide) hf22557 (fun _ _ => rfl))))), hF, (by show ((v 39).toInt ≤ (v22965 39).toInt ∧ (v22965 39).toInt ≤ (v 30).toInt ∧ (v 38).toInt ≤ (v22965 38).toInt ∧ (v22965 38).toInt - (v 38).toInt ≤ (v22965 39).toInt - (v 39).toInt ∧ (v 41).toInt ≤ (v22965 41).toInt ∧ ((v22965 40).toInt < 0 → (v22965 41).toInt = (v 41).toInt)) ∧ keepL (v 37) (F 28) (F 29) (F22966 28) (F22966 29) ∧ ((v22965 40).toInt < 0 → dp (F22966 28) (F22966 29) (bI (v 37)) (v22965 38).toInt.toNat = some (d + 1)); rw [show v22965 39 = v22955 39 from hf22967 39 (by decide)]; rw [show v22965 41 = v22955 41 from hf22967 41 (by decide)]; rw [show v22965 40 = v22955 40 from hf22967 40 (by decide)]; exact ⟨by omega, hk, fun hf => (hd (by omega)).trans (congrArg some (by omega))⟩)⟩, (by show va_P _ _ _ t.heap; rw [ht]; exact hP9)⟩, hS.F ht⟩) hS.2.2 dX12_either_70
          · skip
            have t22973 := cv_nle (a := 0) (by decide) (b := (v22955 40).toInt) rfl c22971
            refine lv_aload_n hx hb dX12_either_61 rfl (lv_at hl 1 rfl) ?_
            have t22974 : 0 ≤ (v 30).toInt ∧ (v 30).toInt ≤ 120 := by have h9 := hI.1 30 _ _ rfl; rw [show v22965 30 = v 30 from (hf22967 30 (by decide)).trans ((hf22957 30 (by decide)).trans (hf22557 30 (by decide)))] at h9; exact h9
            have t22975 : 0 ≤ (v22955 39).toInt ∧ (v22955 39).toInt ≤ 120 := by have h9 := hI.1 39 _ _ rfl; rw [show v22965 39 = v22955 39 from hf22967 39 (by decide)] at h9; exact h9
            refine va_calli (va_runV (As := []) (rest := []) ⟨hx, hb, hml, hown, hwd⟩ (c_X12_look l dC dI g c adK adV v22965 F22966 rc H.size  hg hI ) (cwV 0 hwd (gV wk_1017 wk_1014 wk_1015 wk_1016 wk_5) rfl rfl rfl (by decide +kernel) ⟨Nat.le_of_ble_eq_true rfl, Nat.le_of_ble_eq_true rfl⟩) ⟨PM.blind, va_recv hK hP (ci := 12) (q0 := 0) rfl rfl, fun U hU hW => ⟨rfl, PM.at hK hE hP hS hU hW⟩⟩ rfl rfl hl.1 rfl (lv_room (Nat.le_of_ble_eq_true rfl)) dX12_either_62 ⟨Nat.le_of_ble_eq_true rfl, Nat.le_of_ble_eq_true rfl⟩) hS (fun q _ h => (freeM hS) q h) (freeM hS) (fun r22976 u t H1 locs ht hvm hw hB hz1 hk1 hS => ?_)
            unfold BM at hB
            rw [ht] at hB
            have hP : va_P (dC, dI) classes (wM g c v22965 F22966 rc) H1 := hB
            have hw : r22976.toInt = lkM (v22965 39) (v22965 30) (F22966 24) ∧ ((v22965 39).toInt < (v22965 30).toInt ∨ r22976.toInt = -1) := hw
            rw [show v22965 39 = v22955 39 from hf22967 39 (by decide)] at hw
            rw [show v22965 30 = v 30 from (hf22967 30 (by decide)).trans ((hf22957 30 (by decide)).trans (hf22557 30 (by decide)))] at hw
            rw [hF 24 (by decide)] at hw
            have hw_r22976 := hw
            generalize H1 = H at hP hS ⊢
            refine lv_bipush (v := 63) hx hb dX12_either_65 (by decide) ?_
            refine lv_icmp_eq (tgt := 71) hx hb dX12_either_67 (by decide) (fun c22977 => ?_) (fun c22977 => ?_)
            · skip
              have t22978 := cv_eq (a := r22976.toInt) rfl (b := 63) (by decide) c22977
              refine lv_aload_n hx hb dX12_either_71 rfl (lv_at hl 1 rfl) ?_
              have t22979 : 0 ≤ (v22955 39).toInt ∧ (v22955 39).toInt ≤ 120 := by have h9 := hI.1 39 _ _ rfl; rw [show v22965 39 = v22955 39 from hf22967 39 (by decide)] at h9; exact h9
              have t22980 : 0 ≤ (v22955 41).toInt ∧ (v22955 41).toInt ≤ 8 := by have h9 := hI.1 41 _ _ rfl; rw [show v22965 41 = v22955 41 from hf22967 41 (by decide)] at h9; exact h9
              refine va_calli (va_runV (As := []) (rest := []) ⟨hx, hb, hml, hown, hwd⟩ (c_X12_opens l dC dI g c adK adV v22965 F22966 rc H.size  hg hI (by have h9 : v22965 39 = v22955 39 := hf22967 39 (by decide); (try rw [h9]); clear h9; have h9 : v22965 30 = v 30 := (hf22967 30 (by decide)).trans ((hf22957 30 (by decide)).trans (hf22557 30 (by decide))); (try rw [h9]); clear h9; omega)) (cwV 0 hwd (gV wk_1025 wk_1022 wk_1023 wk_1024 wk_5) rfl rfl rfl (by decide +kernel) ⟨Nat.le_of_ble_eq_true rfl, Nat.le_of_ble_eq_true rfl⟩) ⟨PM.blind, va_recv hK hP (ci := 12) (q0 := 0) rfl rfl, fun U hU hW => ⟨rfl, PM.at hK hE hP hS hU hW⟩⟩ rfl rfl hl.1 rfl (lv_room (Nat.le_of_ble_eq_true rfl)) dX12_either_72 ⟨Nat.le_of_ble_eq_true rfl, Nat.le_of_ble_eq_true rfl⟩) hS (fun q _ h => (freeM hS) q h) (freeM hS) (fun r22981 u t H1 locs ht hvm hw hB hz1 hk1 hS => ?_)
              unfold BM at hB
              rw [ht] at hB
              obtain ⟨v22982, F22983, rc9⟩ := u
              obtain ⟨hI, hrc, hf22984, hG22985, hw⟩ := hw
              dsimp only at hI hrc hB hf22984 hG22985 hw
              have hF := frCF (by decide) hG22985 hF
              rw [hrc] at hB
              have hP : va_P (dC, dI) classes (wM g c v22982 F22983 rc) H1 := hB
              have hw : (r22981.toInt = 1 ∧ (v22965 41).toInt < 8 ∧ (v22982 41).toInt = (v22965 41).toInt + 1 ∧ (v22982 39).toInt = (v22965 39).toInt + 1 ∧ (v22982 40).toInt = (v22965 40).toInt) ∨ (r22981.toInt = 0 ∧ (v22965 41).toInt = 8 ∧ 0 ≤ (v22982 40).toInt ∧ (v22982 41).toInt = (v22965 41).toInt ∧ (v22982 39).toInt = (v22965 39).toInt) := hw
              rw [show v22965 41 = v22955 41 from hf22967 41 (by decide)] at hw
              rw [show v22965 39 = v22955 39 from hf22967 39 (by decide)] at hw
              rw [show v22965 40 = v22955 40 from hf22967 40 (by decide)] at hw
              have hw_r22981 := hw
              have t22986 : 0 ≤ (v22982 39).toInt ∧ (v22982 39).toInt ≤ 120 := hI.1 39 _ _ rfl
              have t22987 : 0 ≤ (v22982 41).toInt ∧ (v22982 41).toInt ≤ 8 := hI.1 41 _ _ rfl
              generalize H1 = H at hP hS ⊢
              have hk : keepL (v 37) (F 28) (F 29) (F22983 28) (F22983 29) := by rw [hG22985 28 (by decide), hG22985 29 (by decide)]; exact hk
              have hd : (v22982 40).toInt < 0 → dp (F22983 28) (F22983 29) (bI (v 37)) (v22965 38).toInt.toNat = some (((d + 1) + 1) - 1) := fun hf => (by rw [hG22985 28 (by decide), hG22985 29 (by decide)]; exact hd (by omega))
              refine lv_if_ne (tgt := 79) hx hb dX12_either_75 (by decide) (fun c22988 => ?_) (fun c22988 => ?_)
              · skip
                have t22989 := cv_ne (a := r22981.toInt) rfl (b := 0) (by decide) c22988
                refine lv_aload_n hx hb dX12_either_79 rfl (lv_at hl 1 rfl) ?_
                have t22990 : 0 ≤ (v 30).toInt ∧ (v 30).toInt ≤ 120 := by have h9 := hI.1 30 _ _ rfl; rw [show v22982 30 = v 30 from (hf22984 30 (by decide)).trans ((hf22967 30 (by decide)).trans ((hf22957 30 (by decide)).trans (hf22557 30 (by decide))))] at h9; exact h9
                have t22991 : 0 ≤ (v 37).toInt ∧ (v 37).toInt ≤ 9 := by have h9 := hI.1 37 _ _ rfl; rw [show v22982 37 = v 37 from (hf22984 37 (by decide)).trans ((hf22967 37 (by decide)).trans ((hf22957 37 (by decide)).trans (hf22557 37 (by decide))))] at h9; exact h9
                have t22992 : 0 ≤ (v22965 38).toInt ∧ (v22965 38).toInt ≤ 120 := by have h9 := hI.1 38 _ _ rfl; rw [show v22982 38 = v22965 38 from hf22984 38 (by decide)] at h9; exact h9
                have t22993 : 0 ≤ (v22982 39).toInt ∧ (v22982 39).toInt ≤ 120 := hI.1 39 _ _ rfl
                have t22994 : 0 ≤ (v22982 41).toInt ∧ (v22982 41).toInt ≤ 8 := hI.1 41 _ _ rfl
                refine va_callv (va_runV (As := []) (rest := []) ⟨hx, hb, hml, hown, hwd⟩ (c_X12_either_2 l dC dI g c adK adV v22982 F22983 rc H.size  (((d + 1) + 1) - 1) hg hI (by have h9 : v22982 38 = v22965 38 := hf22984 38 (by decide); (try rw [h9]); clear h9; have h9 : v22982 39 = v22982 39 := rfl; (try rw [h9]); clear h9; have h9 : v22982 30 = v 30 := (hf22984 30 (by decide)).trans ((hf22967 30 (by decide)).trans ((hf22957 30 (by decide)).trans (hf22557 30 (by decide)))); (try rw [h9]); clear h9; have h9 : v22982 40 = v22982 40 := rfl; (try rw [h9]); clear h9; have h9 : v22982 41 = v22982 41 := rfl; (try rw [h9]); clear h9; omega) (by have h9 : v22982 37 = (v 37) := (hf22984 37 (by decide)).trans ((hf22967 37 (by decide)).trans ((hf22957 37 (by decide)).trans (hf22557 37 (by decide)))); have h8 : v22982 38 = (v22965 38) := hf22984 38 (by decide); (try rw [h9]); (try rw [h8]); exact hd (by omega))) (cwV 0 hwd (gV wk_1010 wk_1007 wk_1008 wk_1009 wk_5) rfl rfl rfl (by decide +kernel) ⟨Nat.le_of_ble_eq_true rfl, Nat.le_of_ble_eq_true rfl⟩) ⟨PM.blind, va_recv hK hP (ci := 12) (q0 := 0) rfl rfl, fun U hU hW => ⟨rfl, PM.at hK hE hP hS hU hW⟩⟩ rfl rfl hl.1 rfl (lv_room (Nat.le_of_ble_eq_true rfl)) dX12_either_80 ⟨Nat.le_of_ble_eq_true rfl, Nat.le_of_ble_eq_true rfl⟩) hS (fun q _ h => (freeM hS) q h) (freeM hS) (fun u t H1 locs ht hvm hw hB hz1 hk1 hS => ?_)
                unfold BM at hB
                rw [ht] at hB
                obtain ⟨v22996, F22997, rc9⟩ := u
                obtain ⟨hI, hrc, hf22998, hG22999, hw⟩ := hw
                dsimp only at hI hrc hB hf22998 hG22999 hw
                have hF := frCF (by decide) hG22999 hF
                rw [hrc] at hB
                have hP : va_P (dC, dI) classes (wM g c v22996 F22997 rc) H1 := hB
                have hw : ((v22982 39).toInt ≤ (v22996 39).toInt ∧ (v22996 39).toInt ≤ (v22982 30).toInt ∧ (v22982 38).toInt ≤ (v22996 38).toInt ∧ (v22996 38).toInt - (v22982 38).toInt ≤ (v22996 39).toInt - (v22982 39).toInt ∧ (v22982 41).toInt ≤ (v22996 41).toInt ∧ ((v22996 40).toInt < 0 → (v22996 41).toInt = (v22982 41).toInt)) ∧ keepL (v22982 37) (F22983 28) (F22983 29) (F22997 28) (F22997 29) ∧ ((v22996 40).toInt < 0 → dp (F22997 28) (F22997 29) (bI (v22982 37)) (v22996 38).toInt.toNat = some ((((d + 1) + 1) - 1) + 1)) := hw
                rw [show v22982 30 = v 30 from (hf22984 30 (by decide)).trans ((hf22967 30 (by decide)).trans ((hf22957 30 (by decide)).trans (hf22557 30 (by decide))))] at hw
                rw [show v22982 38 = v22965 38 from hf22984 38 (by decide)] at hw
                rw [show v22982 37 = v 37 from (hf22984 37 (by decide)).trans ((hf22967 37 (by decide)).trans ((hf22957 37 (by decide)).trans (hf22557 37 (by decide))))] at hw
                have hw_r22995 := hw
                have t23000 : 0 ≤ (v22996 38).toInt ∧ (v22996 38).toInt ≤ 120 := hI.1 38 _ _ rfl
                have t23001 : 0 ≤ (v22996 39).toInt ∧ (v22996 39).toInt ≤ 120 := hI.1 39 _ _ rfl
                have t23002 : 0 ≤ (v22996 41).toInt ∧ (v22996 41).toInt ≤ 8 := hI.1 41 _ _ rfl
                generalize H1 = H at hP hS ⊢
                have hk := hk.tr hw_r22995.2.1
                have hd := hw_r22995.2.2
                refine lv_aload_n hx hb dX12_either_83 rfl (lv_at hl 1 rfl) ?_
                refine va_get (D := (dC, dI)) (ci := 12) (v := .int (v22996 40)) (C := RX12) (T := TX12) (N := 63) hx hb hwd inA_X12 hown hK hP 0 rfl rfl 40 (by decide) (hwd _ wk_1005) (fun _ h9 => h9) rfl dX12_either_84 ?_
                refine lv_if_lt (tgt := 91) hx hb dX12_either_87 (by decide) (fun c23003 => ?_) (fun c23003 => ?_)
                · skip
                  have t23004 := cv_lt (a := (v22996 40).toInt) rfl (b := 0) (by decide) c23003
                  refine lv_aload_n hx hb dX12_either_91 rfl (lv_at hl 1 rfl) ?_
                  have t23005 : 0 ≤ (v 30).toInt ∧ (v 30).toInt ≤ 120 := by have h9 := hI.1 30 _ _ rfl; rw [show v22996 30 = v 30 from (hf22998 30 (by decide)).trans ((hf22984 30 (by decide)).trans ((hf22967 30 (by decide)).trans ((hf22957 30 (by decide)).trans (hf22557 30 (by decide)))))] at h9; exact h9
                  have t23006 : 0 ≤ (v22996 39).toInt ∧ (v22996 39).toInt ≤ 120 := hI.1 39 _ _ rfl
                  refine va_calli (va_runV (As := []) (rest := []) ⟨hx, hb, hml, hown, hwd⟩ (c_X12_look l dC dI g c adK adV v22996 F22997 rc H.size  hg hI ) (cwV 0 hwd (gV wk_1017 wk_1014 wk_1015 wk_1016 wk_5) rfl rfl rfl (by decide +kernel) ⟨Nat.le_of_ble_eq_true rfl, Nat.le_of_ble_eq_true rfl⟩) ⟨PM.blind, va_recv hK hP (ci := 12) (q0 := 0) rfl rfl, fun U hU hW => ⟨rfl, PM.at hK hE hP hS hU hW⟩⟩ rfl rfl hl.1 rfl (lv_room (Nat.le_of_ble_eq_true rfl)) dX12_either_92 ⟨Nat.le_of_ble_eq_true rfl, Nat.le_of_ble_eq_true rfl⟩) hS (fun q _ h => (freeM hS) q h) (freeM hS) (fun r23007 u t H1 locs ht hvm hw hB hz1 hk1 hS => ?_)
                  unfold BM at hB
                  rw [ht] at hB
                  have hP : va_P (dC, dI) classes (wM g c v22996 F22997 rc) H1 := hB
                  have hw : r23007.toInt = lkM (v22996 39) (v22996 30) (F22997 24) ∧ ((v22996 39).toInt < (v22996 30).toInt ∨ r23007.toInt = -1) := hw
                  rw [show v22996 30 = v 30 from (hf22998 30 (by decide)).trans ((hf22984 30 (by decide)).trans ((hf22967 30 (by decide)).trans ((hf22957 30 (by decide)).trans (hf22557 30 (by decide)))))] at hw
                  rw [hF 24 (by decide)] at hw
                  have hw_r23007 := hw
                  generalize H1 = H at hP hS ⊢
                  refine lv_bipush (v := 58) hx hb dX12_either_95 (by decide) ?_
                  refine lv_icmp_eq (tgt := 105) hx hb dX12_either_97 (by decide) (fun c23008 => ?_) (fun c23008 => ?_)
                  · skip
                    have t23009 := cv_eq (a := r23007.toInt) rfl (b := 58) (by decide) c23008
                    refine lv_aload_n hx hb dX12_either_105 rfl (lv_at hl 1 rfl) ?_
                    refine lv_dup hx hb dX12_either_106 rfl ?_
                    refine va_get (D := (dC, dI)) (ci := 12) (v := .int (v22996 39)) (C := RX12) (T := TX12) (N := 63) hx hb hwd inA_X12 hown hK hP 0 rfl rfl 39 (by decide) (hwd _ wk_1004) (fun _ h9 => h9) rfl dX12_either_107 ?_
                    have t23010 : 0 ≤ (v22996 39).toInt ∧ (v22996 39).toInt ≤ 120 := hI.1 39 _ _ rfl
                    refine lv_iconst (v := 1) hx hb dX12_either_110 (by decide) ?_
                    refine lv_iadd hx hb dX12_either_111 ?_
                    refine lv_topi (fun z23011 e23012 => ?_)
                    try (have t23013 := tadd e23012 (a := (v22996 39).toInt) rfl (b := 1) (by decide) (by omega))
                    refine va_put (D := (dC, dI)) (ci := 12) (v := .int z23011) (ty := .int) (C := RX12) (T := TX12) (N := 63) (fs := fsM_0 g v22996 rc) hx hb hwd inA_X12 tyX12 tyX12_ok nmX12 hown hK hP (DM hg) hS 0 rfl rfl 39 (by decide) (hwd _ wk_1004) (fun _ h9 => h9) rfl (by decide +kernel) rfl rfl (Nat.le_of_ble_eq_true rfl) dX12_either_112 (fun H locs hP _ hS => ?_)
                    have hP := va_P_eq (pM_39 g c _ _ _ _) hP
                    have hI := IM.put hI 39 z23011 rfl (by omega)
                    refine lv_aload_n hx hb dX12_either_115 rfl (lv_at hl 1 rfl) ?_
                    have t23014 : 0 ≤ (v 30).toInt ∧ (v 30).toInt ≤ 120 := by have h9 := hI.1 30 _ _ rfl; rw [show (va_up v22996 39 z23011) 30 = v 30 from (hf22998 30 (by decide)).trans ((hf22984 30 (by decide)).trans ((hf22967 30 (by decide)).trans ((hf22957 30 (by decide)).trans (hf22557 30 (by decide)))))] at h9; exact h9
                    have t23015 : 0 ≤ (v 37).toInt ∧ (v 37).toInt ≤ 9 := by have h9 := hI.1 37 _ _ rfl; rw [show (va_up v22996 39 z23011) 37 = v 37 from (hf22998 37 (by decide)).trans ((hf22984 37 (by decide)).trans ((hf22967 37 (by decide)).trans ((hf22957 37 (by decide)).trans (hf22557 37 (by decide)))))] at h9; exact h9
                    have t23016 : 0 ≤ (v22996 38).toInt ∧ (v22996 38).toInt ≤ 120 := hI.1 38 _ _ rfl
                    have t23017 : 0 ≤ z23011.toInt ∧ z23011.toInt ≤ 120 := hI.1 39 _ _ rfl
                    have t23018 : 0 ≤ (v22996 41).toInt ∧ (v22996 41).toInt ≤ 8 := hI.1 41 _ _ rfl
                    refine va_callv (va_runV (As := []) (rest := []) ⟨hx, hb, hml, hown, hwd⟩ (c_X12_either_2 l dC dI g c adK adV (va_up v22996 39 z23011) F22997 rc H.size  ((((d + 1) + 1) - 1) + 1) hg hI (by have h9 : (va_up v22996 39 z23011) 38 = v22996 38 := rfl; (try rw [h9]); clear h9; have h9 : (va_up v22996 39 z23011) 39 = z23011 := rfl; (try rw [h9]); clear h9; have h9 : (va_up v22996 39 z23011) 30 = v 30 := (hf22998 30 (by decide)).trans ((hf22984 30 (by decide)).trans ((hf22967 30 (by decide)).trans ((hf22957 30 (by decide)).trans (hf22557 30 (by decide))))); (try rw [h9]); clear h9; have h9 : (va_up v22996 39 z23011) 40 = v22996 40 := rfl; (try rw [h9]); clear h9; have h9 : (va_up v22996 39 z23011) 41 = v22996 41 := rfl; (try rw [h9]); clear h9; omega) (by have h9 : (va_up v22996 39 z23011) 37 = (v 37) := (hf22998 37 (by decide)).trans ((hf22984 37 (by decide)).trans ((hf22967 37 (by decide)).trans ((hf22957 37 (by decide)).trans (hf22557 37 (by decide))))); have h8 : (va_up v22996 39 z23011) 38 = (v22996 38) := rfl; (try rw [h9]); (try rw [h8]); exact hd (by omega))) (cwV 0 hwd (gV wk_1010 wk_1007 wk_1008 wk_1009 wk_5) rfl rfl rfl (by decide +kernel) ⟨Nat.le_of_ble_eq_true rfl, Nat.le_of_ble_eq_true rfl⟩) ⟨PM.blind, va_recv hK hP (ci := 12) (q0 := 0) rfl rfl, fun U hU hW => ⟨rfl, PM.at hK hE hP hS hU hW⟩⟩ rfl rfl hl.1 rfl (lv_room (Nat.le_of_ble_eq_true rfl)) dX12_either_116 ⟨Nat.le_of_ble_eq_true rfl, Nat.le_of_ble_eq_true rfl⟩) hS (fun q _ h => (freeM hS) q h) (freeM hS) (fun u t H1 locs ht hvm hw hB hz1 hk1 hS => ?_)
                    unfold BM at hB
                    rw [ht] at hB
                    obtain ⟨v23020, F23021, rc9⟩ := u
                    obtain ⟨hI, hrc, hf23022, hG23023, hw⟩ := hw
                    dsimp only at hI hrc hB hf23022 hG23023 hw
                    have hF := frCF (by decide) hG23023 hF
                    rw [hrc] at hB
                    have hP : va_P (dC, dI) classes (wM g c v23020 F23021 rc) H1 := hB
                    have hw : (z23011.toInt ≤ (v23020 39).toInt ∧ (v23020 39).toInt ≤ ((va_up v22996 39 z23011) 30).toInt ∧ (v22996 38).toInt ≤ (v23020 38).toInt ∧ (v23020 38).toInt - (v22996 38).toInt ≤ (v23020 39).toInt - z23011.toInt ∧ (v22996 41).toInt ≤ (v23020 41).toInt ∧ ((v23020 40).toInt < 0 → (v23020 41).toInt = (v22996 41).toInt)) ∧ keepL ((va_up v22996 39 z23011) 37) (F22997 28) (F22997 29) (F23021 28) (F23021 29) ∧ ((v23020 40).toInt < 0 → dp (F23021 28) (F23021 29) (bI ((va_up v22996 39 z23011) 37)) (v23020 38).toInt.toNat = some (((((d + 1) + 1) - 1) + 1) + 1)) := hw
                    rw [show (va_up v22996 39 z23011) 30 = v 30 from (hf22998 30 (by decide)).trans ((hf22984 30 (by decide)).trans ((hf22967 30 (by decide)).trans ((hf22957 30 (by decide)).trans (hf22557 30 (by decide)))))] at hw
                    rw [show (va_up v22996 39 z23011) 37 = v 37 from (hf22998 37 (by decide)).trans ((hf22984 37 (by decide)).trans ((hf22967 37 (by decide)).trans ((hf22957 37 (by decide)).trans (hf22557 37 (by decide)))))] at hw
                    have hw_r23019 := hw
                    have t23024 : 0 ≤ (v23020 38).toInt ∧ (v23020 38).toInt ≤ 120 := hI.1 38 _ _ rfl
                    have t23025 : 0 ≤ (v23020 39).toInt ∧ (v23020 39).toInt ≤ 120 := hI.1 39 _ _ rfl
                    have t23026 : 0 ≤ (v23020 41).toInt ∧ (v23020 41).toInt ≤ 8 := hI.1 41 _ _ rfl
                    generalize H1 = H at hP hS ⊢
                    have hk := hk.tr hw_r23019.2.1
                    have hd := hw_r23019.2.2
                    refine lv_aload_n hx hb dX12_either_119 rfl (lv_at hl 1 rfl) ?_
                    refine lv_iconst (v := 4) hx hb dX12_either_120 (by decide) ?_
                    refine lv_iconst (v := 0) hx hb dX12_either_121 (by decide) ?_
                    have t23027 : 0 ≤ (v 37).toInt ∧ (v 37).toInt ≤ 9 := by have h9 := hI.1 37 _ _ rfl; rw [show v23020 37 = v 37 from (hf23022 37 (by decide)).trans ((hf22998 37 (by decide)).trans ((hf22984 37 (by decide)).trans ((hf22967 37 (by decide)).trans ((hf22957 37 (by decide)).trans (hf22557 37 (by decide))))))] at h9; exact h9
                    have t23028 : 0 ≤ (v23020 38).toInt ∧ (v23020 38).toInt ≤ 120 := hI.1 38 _ _ rfl
                    refine va_callv (va_runV (As := [.int 4, .int 0]) (rest := []) ⟨hx, hb, hml, hown, hwd⟩ (c_X12_lay l dC dI g c adK adV v23020 F23021 rc H.size 4 0 hg hI (by have h9 : v23020 38 = v23020 38 := rfl; rw [h9]; omega)) (cwV 2 hwd (gV wk_1021 wk_1018 wk_1019 wk_1020 wk_5) rfl rfl rfl (by decide +kernel) ⟨Nat.le_of_ble_eq_true rfl, Nat.le_of_ble_eq_true rfl⟩) ⟨PM.blind, va_recv hK hP (ci := 12) (q0 := 0) rfl rfl, fun U hU hW => ⟨rfl, PM.at hK hE hP hS hU hW⟩⟩ rfl rfl hl.1 rfl (lv_room (Nat.le_of_ble_eq_true rfl)) dX12_either_122 ⟨Nat.le_of_ble_eq_true rfl, Nat.le_of_ble_eq_true rfl⟩) hS (fun q _ h => (freeM hS) q h) (freeM hS) (fun u t H1 locs ht hvm hw hB hz1 hk1 hS => ?_)
                    unfold BM at hB
                    rw [ht] at hB
                    obtain ⟨v23030, F23031, rc9⟩ := u
                    obtain ⟨hI, hrc, hf23032, hG23033, hw⟩ := hw
                    dsimp only at hI hrc hB hf23032 hG23033 hw
                    have hF := frCF (by decide) hG23033 hF
                    rw [hrc] at hB
                    have hP : va_P (dC, dI) classes (wM g c v23030 F23031 rc) H1 := hB
                    have hw : (v23030 38).toInt = (v23020 38).toInt + 1 ∧ keepL (v23020 37) (F23021 28) (F23021 29) (F23031 28) (F23031 29) ∧ dp (F23031 28) (F23031 29) (bI (v23020 37)) ((v23020 38).toInt.toNat + 1) = dpS (dp (F23021 28) (F23021 29) (bI (v23020 37)) (v23020 38).toInt.toNat) (4 : Int32) (0 : Int32) := hw
                    rw [show v23020 37 = v 37 from (hf23022 37 (by decide)).trans ((hf22998 37 (by decide)).trans ((hf22984 37 (by decide)).trans ((hf22967 37 (by decide)).trans ((hf22957 37 (by decide)).trans (hf22557 37 (by decide))))))] at hw
                    have hw_r23029 := hw
                    have t23034 : 0 ≤ (v23030 38).toInt ∧ (v23030 38).toInt ≤ 120 := hI.1 38 _ _ rfl
                    have k23035 : (4 : Int32).toInt = 4 := by decide
                    have k23036 : (0 : Int32).toInt = 0 := by decide
                    generalize H1 = H at hP hS ⊢
                    have hk := hk.tr hw_r23029.2.1
                    have hd : (v23020 40).toInt < 0 → dp (F23031 28) (F23031 29) (bI (v 37)) (v23030 38).toInt.toNat = some ((((((d + 1) + 1) - 1) + 1) + 1) - 2) := fun hf => (by have e9 : (v23030 38).toInt.toNat = (v23020 38).toInt.toNat + 1 := (by omega); rw [e9, hw_r23029.2.2, hd hf]; exact dpS_4 (by decide) (by omega))
                    refine lv_aload_n hx hb dX12_either_125 rfl (lv_at hl 1 rfl) ?_
                    refine lv_dup hx hb dX12_either_126 rfl ?_
                    refine va_get (D := (dC, dI)) (ci := 12) (v := .int (v23030 41)) (C := RX12) (T := TX12) (N := 63) hx hb hwd inA_X12 hown hK hP 0 rfl rfl 41 (by decide) (hwd _ wk_1006) (fun _ h9 => h9) rfl dX12_either_127 ?_
                    refine my_top (v := v23020 41) (hf23032 41 (by decide)) ?_
                    have t23037 : 0 ≤ (v23020 41).toInt ∧ (v23020 41).toInt ≤ 8 := by have h9 := hI.1 41 _ _ rfl; rw [show v23030 41 = v23020 41 from hf23032 41 (by decide)] at h9; exact h9
                    refine lv_iconst (v := 1) hx hb dX12_either_130 (by decide) ?_
                    refine lv_isub hx hb dX12_either_131 ?_
                    refine lv_topi (fun z23038 e23039 => ?_)
                    try (have t23040 := tsub e23039 (a := (v23020 41).toInt) rfl (b := 1) (by decide) (by omega))
                    refine va_put (D := (dC, dI)) (ci := 12) (v := .int z23038) (ty := .int) (C := RX12) (T := TX12) (N := 63) (fs := fsM_0 g v23030 rc) hx hb hwd inA_X12 tyX12 tyX12_ok nmX12 hown hK hP (DM hg) hS 0 rfl rfl 41 (by decide) (hwd _ wk_1006) (fun _ h9 => h9) rfl (by decide +kernel) rfl rfl (Nat.le_of_ble_eq_true rfl) dX12_either_132 (fun H locs hP _ hS => ?_)
                    have hP := va_P_eq (pM_41 g c _ _ _ _) hP
                    have hI := IM.put hI 41 z23038 rfl (by omega)
                    have hP9 : va_P (dC, dI) classes (wM g c (va_up v23030 41 z23038) F23031 rc) H := hP
                    exact W.vret hx hb hr (fun t ht hW => ⟨⟨((va_up v23030 41 z23038), F23031, rc), rfl, ⟨hI, rfl, (frU (by decide) (frC (by decide) hf23032 (frC (by decide) hf23022 (frU (by decide) (frC (by decide) hf22998 (frC (by decide) hf22984 (frC (by decide) hf22967 (frC (by decide) hf22957 (frU (by decide) (frC (by decide) hf22557 (fun _ _ => rfl))))))))))), hF, (by show ((v 39).toInt ≤ ((va_up v23030 41 z23038) 39).toInt ∧ ((va_up v23030 41 z23038) 39).toInt ≤ (v 30).toInt ∧ (v 38).toInt ≤ (v23030 38).toInt ∧ (v23030 38).toInt - (v 38).toInt ≤ ((va_up v23030 41 z23038) 39).toInt - (v 39).toInt ∧ (v 41).toInt ≤ z23038.toInt ∧ (((va_up v23030 41 z23038) 40).toInt < 0 → z23038.toInt = (v 41).toInt)) ∧ keepL (v 37) (F 28) (F 29) (F23031 28) (F23031 29) ∧ (((va_up v23030 41 z23038) 40).toInt < 0 → dp (F23031 28) (F23031 29) (bI (v 37)) (v23030 38).toInt.toNat = some (d + 1)); rw [show (va_up v23030 41 z23038) 39 = v23020 39 from hf23032 39 (by decide)]; rw [show (va_up v23030 41 z23038) 40 = v23020 40 from hf23032 40 (by decide)]; exact ⟨by omega, hk, fun hf => (hd (by omega)).trans (congrArg some (by omega))⟩)⟩, (by show va_P _ _ _ t.heap; rw [ht]; exact hP9)⟩, hS.F ht⟩) hS.2.2 dX12_either_135
                  · skip
                    have t23041 := cv_ne (a := r23007.toInt) rfl (b := 58) (by decide) c23008
                    refine lv_aload_n hx hb dX12_either_100 rfl (lv_at hl 1 rfl) ?_
                    refine va_callv (va_runV (As := []) (rest := []) ⟨hx, hb, hml, hown, hwd⟩ (c_X12_wrong l dC dI g c adK adV v22996 F22997 rc H.size  hg hI ) (cwV 0 hwd (gV wk_1029 wk_1026 wk_1027 wk_1028 wk_5) rfl rfl rfl (by decide +kernel) ⟨Nat.le_of_ble_eq_true rfl, Nat.le_of_ble_eq_true rfl⟩) ⟨PM.blind, va_recv hK hP (ci := 12) (q0 := 0) rfl rfl, fun U hU hW => ⟨rfl, PM.at hK hE hP hS hU hW⟩⟩ rfl rfl hl.1 rfl (lv_room (Nat.le_of_ble_eq_true rfl)) dX12_either_101 ⟨Nat.le_of_ble_eq_true rfl, Nat.le_of_ble_eq_true rfl⟩) hS (fun q _ h => (freeM hS) q h) (freeM hS) (fun u t H1 locs ht hvm hw hB hz1 hk1 hS => ?_)
                    unfold BM at hB
                    rw [ht] at hB
                    obtain ⟨v23043, F23044, rc9⟩ := u
                    obtain ⟨hI, hrc, hf23045, hG23046, hw⟩ := hw
                    dsimp only at hI hrc hB hf23045 hG23046 hw
                    have hF := frCF (by decide) hG23046 hF
                    rw [hrc] at hB
                    have hP : va_P (dC, dI) classes (wM g c v23043 F23044 rc) H1 := hB
                    have hw : 0 ≤ (v23043 40).toInt := hw
                    have hw_r23042 := hw
                    generalize H1 = H at hP hS ⊢
                    have hk : keepL (v 37) (F 28) (F 29) (F23044 28) (F23044 29) := by rw [hG23046 28 (by decide), hG23046 29 (by decide)]; exact hk
                    have hd : (v23043 40).toInt < 0 → dp (F23044 28) (F23044 29) (bI (v 37)) (v22996 38).toInt.toNat = some ((((d + 1) + 1) - 1) + 1) := fun hf => (by rw [hG23046 28 (by decide), hG23046 29 (by decide)]; exact hd (by omega))
                    have hP9 : va_P (dC, dI) classes (wM g c v23043 F23044 rc) H := hP
                    exact W.vret hx hb hr (fun t ht hW => ⟨⟨(v23043, F23044, rc), rfl, ⟨hI, rfl, (frC (by decide) hf23045 (frC (by decide) hf22998 (frC (by decide) hf22984 (frC (by decide) hf22967 (frC (by decide) hf22957 (frU (by decide) (frC (by decide) hf22557 (fun _ _ => rfl)))))))), hF, (by show ((v 39).toInt ≤ (v23043 39).toInt ∧ (v23043 39).toInt ≤ (v 30).toInt ∧ (v 38).toInt ≤ (v23043 38).toInt ∧ (v23043 38).toInt - (v 38).toInt ≤ (v23043 39).toInt - (v 39).toInt ∧ (v 41).toInt ≤ (v23043 41).toInt ∧ ((v23043 40).toInt < 0 → (v23043 41).toInt = (v 41).toInt)) ∧ keepL (v 37) (F 28) (F 29) (F23044 28) (F23044 29) ∧ ((v23043 40).toInt < 0 → dp (F23044 28) (F23044 29) (bI (v 37)) (v23043 38).toInt.toNat = some (d + 1)); rw [show v23043 39 = v22996 39 from hf23045 39 (by decide)]; rw [show v23043 38 = v22996 38 from hf23045 38 (by decide)]; rw [show v23043 41 = v22996 41 from hf23045 41 (by decide)]; exact ⟨by omega, hk, fun hf => (hd (by omega)).trans (congrArg some (by omega))⟩)⟩, (by show va_P _ _ _ t.heap; rw [ht]; exact hP9)⟩, hS.F ht⟩) hS.2.2 dX12_either_104
                · skip
                  have t23047 := cv_nlt (a := (v22996 40).toInt) rfl (b := 0) (by decide) c23003
                  have hP9 : va_P (dC, dI) classes (wM g c v22996 F22997 rc) H := hP
                  exact W.vret hx hb hr (fun t ht hW => ⟨⟨(v22996, F22997, rc), rfl, ⟨hI, rfl, (frC (by decide) hf22998 (frC (by decide) hf22984 (frC (by decide) hf22967 (frC (by decide) hf22957 (frU (by decide) (frC (by decide) hf22557 (fun _ _ => rfl))))))), hF, (by show ((v 39).toInt ≤ (v22996 39).toInt ∧ (v22996 39).toInt ≤ (v 30).toInt ∧ (v 38).toInt ≤ (v22996 38).toInt ∧ (v22996 38).toInt - (v 38).toInt ≤ (v22996 39).toInt - (v 39).toInt ∧ (v 41).toInt ≤ (v22996 41).toInt ∧ ((v22996 40).toInt < 0 → (v22996 41).toInt = (v 41).toInt)) ∧ keepL (v 37) (F 28) (F 29) (F22997 28) (F22997 29) ∧ ((v22996 40).toInt < 0 → dp (F22997 28) (F22997 29) (bI (v 37)) (v22996 38).toInt.toNat = some (d + 1)); exact ⟨by omega, hk, fun hf => (hd (by omega)).trans (congrArg some (by omega))⟩)⟩, (by show va_P _ _ _ t.heap; rw [ht]; exact hP9)⟩, hS.F ht⟩) hS.2.2 dX12_either_90
              · skip
                have t23048 := cv_eq (a := r22981.toInt) rfl (b := 0) (by decide) c22988
                have hP9 : va_P (dC, dI) classes (wM g c v22982 F22983 rc) H := hP
                exact W.vret hx hb hr (fun t ht hW => ⟨⟨(v22982, F22983, rc), rfl, ⟨hI, rfl, (frC (by decide) hf22984 (frC (by decide) hf22967 (frC (by decide) hf22957 (frU (by decide) (frC (by decide) hf22557 (fun _ _ => rfl)))))), hF, (by show ((v 39).toInt ≤ (v22982 39).toInt ∧ (v22982 39).toInt ≤ (v 30).toInt ∧ (v 38).toInt ≤ (v22982 38).toInt ∧ (v22982 38).toInt - (v 38).toInt ≤ (v22982 39).toInt - (v 39).toInt ∧ (v 41).toInt ≤ (v22982 41).toInt ∧ ((v22982 40).toInt < 0 → (v22982 41).toInt = (v 41).toInt)) ∧ keepL (v 37) (F 28) (F 29) (F22983 28) (F22983 29) ∧ ((v22982 40).toInt < 0 → dp (F22983 28) (F22983 29) (bI (v 37)) (v22982 38).toInt.toNat = some (d + 1)); rw [show v22982 38 = v22965 38 from hf22984 38 (by decide)]; exact ⟨by omega, hk, fun hf => (hd (by omega)).trans (congrArg some (by omega))⟩)⟩, (by show va_P _ _ _ t.heap; rw [ht]; exact hP9)⟩, hS.F ht⟩) hS.2.2 dX12_either_78
            · skip
              have t23049 := cv_ne (a := r22976.toInt) rfl (b := 63) (by decide) c22977
              have hP9 : va_P (dC, dI) classes (wM g c v22965 F22966 rc) H := hP
              exact W.vret hx hb hr (fun t ht hW => ⟨⟨(v22965, F22966, rc), rfl, ⟨hI, rfl, (frC (by decide) hf22967 (frC (by decide) hf22957 (frU (by decide) (frC (by decide) hf22557 (fun _ _ => rfl))))), hF, (by show ((v 39).toInt ≤ (v22965 39).toInt ∧ (v22965 39).toInt ≤ (v 30).toInt ∧ (v 38).toInt ≤ (v22965 38).toInt ∧ (v22965 38).toInt - (v 38).toInt ≤ (v22965 39).toInt - (v 39).toInt ∧ (v 41).toInt ≤ (v22965 41).toInt ∧ ((v22965 40).toInt < 0 → (v22965 41).toInt = (v 41).toInt)) ∧ keepL (v 37) (F 28) (F 29) (F22966 28) (F22966 29) ∧ ((v22965 40).toInt < 0 → dp (F22966 28) (F22966 29) (bI (v 37)) (v22965 38).toInt.toNat = some (d + 1)); rw [show v22965 39 = v22955 39 from hf22967 39 (by decide)]; rw [show v22965 41 = v22955 41 from hf22967 41 (by decide)]; rw [show v22965 40 = v22955 40 from hf22967 40 (by decide)]; exact ⟨by omega, hk, fun hf => (hd (by omega)).trans (congrArg some (by omega))⟩)⟩, (by show va_P _ _ _ t.heap; rw [ht]; exact hP9)⟩, hS.F ht⟩) hS.2.2 dX12_either_70
