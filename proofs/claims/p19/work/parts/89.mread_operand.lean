set_option maxHeartbeats 8000000 in
set_option maxRecDepth 100000 in
theorem c_X12_operand (D : Int) (fr lc : Nat) (rO : RPM 0 yX12_operand (Cond.code yX12_operand cX12_operand 2 none) (D + 1) fr lc) (rE : RPM 6 yX12_either (Cond.code yX12_either cX12_either 2 none) (D + 1) (fr + 3) (lc + 120)) (l : Launch) (dC : Nat → ClassId) (dI : Nat → Nat → Nat) (g : Nat → Nat) (c : Nat → ClassId) (adK adV : Nat → Nat) (v : Nat → Int32) (F : Nat → Nat → Int32) (rc sz : Nat) (d : Nat) (hg : injM g) (hI : IM v F) (hq : (v 38).toInt ≤ (v 39).toInt ∧ (v 39).toInt ≤ (v 30).toInt ∧ (v 40).toInt < 0 ∧ (v 41).toInt = D) (hdp : dp (F 28) (F 29) (bI (v 37)) (v 38).toInt.toNat = some d) : Met l yX12_operand (Cond.code yX12_operand cX12_operand 2 none :: wA) ({ frames := fr + 4, cells := 0, slots := 0, locals := lc + 160 }) (va_Pc [.ref (g 0)] (PM dC dI g c adK adV v F rc sz)) (va_Qv (fun (u : StM) => IM u.1 u.2.1 ∧ u.2.2 = rc ∧ (∀ k, k ∉ ([38, 39, 40, 41, 42] : List Nat) → u.1 k = v k) ∧ (∀ k, k ∉ ([28, 29] : List Nat) → u.2.1 k = F k) ∧ (((u.1 40).toInt ≤ (u.1 39).toInt ∧ (v 39).toInt ≤ (u.1 39).toInt ∧ (u.1 39).toInt ≤ (v 30).toInt ∧ (v 38).toInt ≤ (u.1 38).toInt ∧ (u.1 38).toInt - (v 38).toInt ≤ (u.1 39).toInt - (v 39).toInt ∧ (v 41).toInt ≤ (u.1 41).toInt ∧ ((u.1 40).toInt < 0 → (u.1 41).toInt = (v 41).toInt)) ∧ keepL (v 37) (F 28) (F 29) (u.2.1 28) (u.2.1 29) ∧ ((u.1 40).toInt < 0 → dp (u.2.1 28) (u.2.1 29) (bI (v 37)) (u.1 38).toInt.toNat = some (d + 1)) ∧ rd false (v 30) (F 24) 0 (v 41).toInt (v 39).toInt (u.1 40).toInt (u.1 39).toInt)) (BM dC dI g c) (AM g sz)) 0 0 (AM g sz) := by
  refine Met.ofW (cc := cX12_operand) (maxL := 2) (ret := none) (by decide) rfl ?_
  intro p e s m args below meth c0 s₁ B hml hv
  obtain ⟨rfl, hsz, hP, hK, hE⟩ := hv
  have hx := B.exec
  have hb := B.bytes
  have hr := B.returns
  have hts := atoms_spec (ws := Cond.code yX12_operand cX12_operand 2 none :: wA) B.pre
  have hwd : ∀ w ∈ wA, w.before _ s = true := fun w h => hts w (List.mem_cons_of_mem _ h)
  have hown : s.vm.findClass RX12 = some m.cls := findClass_of_methodNamed B.named
  have hlocks := B.notSynchronized
  subst hsz
  have hl := lv_entry ([.ref (g 0)]) (n := 2) (Nat.le_of_ble_eq_true rfl)
  rw [lg_entry_eq]
  generalize (lg_sl ([.ref (g 0)]) ++ List.replicate (2 - (lg_sl ([.ref (g 0)])).length) Slot.unset).toArray = ls at hl ⊢
  have hl : lv_has ls 2 [(0, .ref (g 0))] := hl
  obtain ⟨H, eH⟩ : ∃ z, z = s.heap := ⟨_, rfl⟩
  have hP : va_P (dC, dI) classes (wM g c v F rc) H := by rw [eH]; exact hP
  have hS : va_S (AM g s.heap.size) s.heap H [] := by rw [eH]; exact va_S.rf
  refine my_heap eH ?_
  have hF : ∀ k, k ∉ ([28, 29] : List Nat) → F k = F k := fun _ _ => rfl
  have hb30 : 0 ≤ (v 30).toInt ∧ (v 30).toInt ≤ 120 := hI.1 30 _ _ rfl
  have hb37 : 0 ≤ (v 37).toInt ∧ (v 37).toInt ≤ 9 := hI.1 37 _ _ rfl
  have hb38 : 0 ≤ (v 38).toInt ∧ (v 38).toInt ≤ 120 := hI.1 38 _ _ rfl
  have hb39 : 0 ≤ (v 39).toInt ∧ (v 39).toInt ≤ 120 := hI.1 39 _ _ rfl
  have hb41 : 0 ≤ (v 41).toInt ∧ (v 41).toInt ≤ 8 := hI.1 41 _ _ rfl
  have hk : keepL (v 37) (F 28) (F 29) (F 28) (F 29) := keepL.rf
  have hd : (v 40).toInt < 0 → dp (F 28) (F 29) (bI (v 37)) (v 38).toInt.toNat = some d := fun _ => hdp
  refine lv_aload_n hx hb dX12_operand_0 rfl (lv_at hl 0 rfl) ?_
  have t8543 : 0 ≤ (v 30).toInt ∧ (v 30).toInt ≤ 120 := hI.1 30 _ _ rfl
  have t8544 : 0 ≤ (v 39).toInt ∧ (v 39).toInt ≤ 120 := hI.1 39 _ _ rfl
  refine va_calli (va_runV (As := []) (rest := []) ⟨hx, hb, hml, hown, hwd⟩ (c_X12_look l dC dI g c adK adV v F rc H.size  hg hI ) (cwV 0 hwd (gV wk_1017 wk_1014 wk_1015 wk_1016 wk_5) rfl rfl rfl (by decide +kernel) ⟨(by show 1 + 1 ≤ fr + 4; omega), (by show 8 + (1 + 11) + (40) ≤ lc + 160; omega)⟩) ⟨PM.blind, va_recv hK hP (ci := 12) (q0 := 0) rfl rfl, fun U hU hW => ⟨rfl, PM.at hK hE hP hS hU hW⟩⟩ rfl rfl hl.1 rfl (lv_room (Nat.le_of_ble_eq_true rfl)) dX12_operand_1 ⟨Nat.le_of_ble_eq_true rfl, Nat.le_of_ble_eq_true rfl⟩) hS (fun q _ h => (freeM hS) q h) (freeM hS) (fun r8545 u t H1 locs ht hvm hw hB hz1 hk1 hS => ?_)
  unfold BM at hB
  rw [ht] at hB
  have hP : va_P (dC, dI) classes (wM g c v F rc) H1 := hB
  replace hw : r8545.toInt = sg (v 30) (F 24) (v 39).toInt ∧ ((v 39).toInt < (v 30).toInt ∨ r8545.toInt = -1) := hw
  have hw_r8545 := hw
  clear hw
  clear hz1
  generalize H1 = H at hP hS ⊢
  refine lv_istore_n (lv' := [(1, .int r8545), (0, .ref (g 0))]) hx hb dX12_operand_4 rfl hl (by decide) rfl (fun ls hl => ?_)
  refine lv_iload_n hx hb dX12_operand_5 rfl (lv_at hl 0 rfl) ?_
  refine va_calli (va_runS (As := [.int r8545]) (rest := []) ⟨hx, hb, hml, hown, hwd⟩ (c_X12_nameOf l dC dI g c adK adV v F rc H.size r8545 hg hI ) (va_cwS 1 hwd (gT wk_1034 wk_1032 wk_1033 wk_5) rfl rfl rfl (by decide +kernel) ⟨(by show 1 + 1 ≤ fr + 4; omega), (by show 8 + (1 + 11) + (40) ≤ lc + 160; omega)⟩) ⟨PM.blind, fun U hU hW => ⟨rfl, PM.at hK hE hP hS hU hW⟩⟩ rfl rfl hl.1 rfl (lv_room (Nat.le_of_ble_eq_true rfl)) dX12_operand_6 ⟨Nat.le_of_ble_eq_true rfl, Nat.le_of_ble_eq_true rfl⟩) hS (fun q _ h => (freeM hS) q h) (freeM hS) (fun r8546 u t H1 locs ht hvm hw hB hz1 hk1 hS => ?_)
  unfold BM at hB
  rw [ht] at hB
  have hP : va_P (dC, dI) classes (wM g c v F rc) H1 := hB
  have hw_r8546 : r8546.toInt = nmM r8545 ∧ (-1 ≤ r8546.toInt ∧ r8546.toInt ≤ 5) := hw
  clear hw
  clear hz1
  generalize H1 = H at hP hS ⊢
  have np_r8546 := nmM_or r8545
  refine lv_if_lt (tgt := 34) hx hb dX12_operand_9 (by decide) (fun c8547 => ?_) (fun c8547 => ?_)
  · skip
    have t8548 := cv_lt (a := r8546.toInt) rfl (b := 0) (by decide) c8547
    refine lv_iload_n hx hb dX12_operand_34 rfl (lv_at hl 0 rfl) ?_
    refine lv_bipush (v := 45) hx hb dX12_operand_35 (by decide) ?_
    refine lv_icmp_ne (tgt := 71) hx hb dX12_operand_37 (by decide) (fun c8549 => ?_) (fun c8549 => ?_)
    · skip
      have t8550 := cv_ne (a := r8545.toInt) rfl (b := 45) (by decide) c8549
      refine lv_iload_n hx hb dX12_operand_71 rfl (lv_at hl 0 rfl) ?_
      refine lv_bipush (v := 40) hx hb dX12_operand_72 (by decide) ?_
      refine lv_icmp_ne (tgt := 134) hx hb dX12_operand_74 (by decide) (fun c8551 => ?_) (fun c8551 => ?_)
      · skip
        have t8552 := cv_ne (a := r8545.toInt) rfl (b := 40) (by decide) c8551
        refine lv_aload_n hx hb dX12_operand_134 rfl (lv_at hl 1 rfl) ?_
        have t8553 : 0 ≤ (v 30).toInt ∧ (v 30).toInt ≤ 120 := hI.1 30 _ _ rfl
        have t8554 : 0 ≤ (v 39).toInt ∧ (v 39).toInt ≤ 120 := hI.1 39 _ _ rfl
        refine va_calli (va_runV (As := []) (rest := []) ⟨hx, hb, hml, hown, hwd⟩ (c_X12_digits l dC dI g c adK adV v F rc H.size  hg hI (by have h9 : v 39 = v 39 := rfl; (try rw [h9]); clear h9; have h9 : v 30 = v 30 := rfl; (try rw [h9]); clear h9; omega)) (cwV 0 hwd (gV wk_1041 wk_1038 wk_1039 wk_1040 wk_5) rfl rfl rfl (by decide +kernel) ⟨(by show 2 + 1 ≤ fr + 4; omega), (by show 8 + (2 + 11) + (80) ≤ lc + 160; omega)⟩) ⟨PM.blind, va_recv hK hP (ci := 12) (q0 := 0) rfl rfl, fun U hU hW => ⟨rfl, PM.at hK hE hP hS hU hW⟩⟩ rfl rfl hl.1 rfl (lv_room (Nat.le_of_ble_eq_true rfl)) dX12_operand_135 ⟨Nat.le_of_ble_eq_true rfl, Nat.le_of_ble_eq_true rfl⟩) hS (fun q _ h => (freeM hS) q h) (freeM hS) (fun r8555 u t H1 locs ht hvm hw hB hz1 hk1 hS => ?_)
        unfold BM at hB
        rw [ht] at hB
        obtain ⟨v8556, F8557, rc9⟩ := u
        obtain ⟨hI, hrc, hf8558, hG8559, hw⟩ := hw
        dsimp only at hI hrc hB hf8558 hG8559 hw
        have hF := frCF (by decide) hG8559 hF
        rw [hrc] at hB
        have hP : va_P (dC, dI) classes (wM g c v8556 F8557 rc) H1 := hB
        replace hw : ((r8555.toInt = 1 ∧ (v 39).toInt < (v8556 39).toInt ∧ (v8556 39).toInt ≤ (v 30).toInt ∧ (v8556 40).toInt = (v 40).toInt) ∨ (r8555.toInt = 0 ∧ 0 ≤ (v8556 40).toInt ∧ (0 ≤ (v 40).toInt ∨ (v8556 40).toInt = (v8556 39).toInt) ∧ (v 39).toInt ≤ (v8556 39).toInt ∧ (v8556 39).toInt ≤ (v 30).toInt)) ∧ dgF (v 30) (F 24) (v 40).toInt (v 39).toInt (v8556 40).toInt (v8556 39).toInt := hw
        have hw_r8555 := hw
        clear hw
        have t8560 : 0 ≤ (v8556 39).toInt ∧ (v8556 39).toInt ≤ 120 := hI.1 39 _ _ rfl
        clear hz1
        generalize H1 = H at hP hS ⊢
        replace hk : keepL (v 37) (F 28) (F 29) (F8557 28) (F8557 29) := by rw [hG8559 28 (by decide), hG8559 29 (by decide)]; exact hk
        replace hd : (v8556 40).toInt < 0 → dp (F8557 28) (F8557 29) (bI (v 37)) (v 38).toInt.toNat = some d := fun hf => (by rw [hG8559 28 (by decide), hG8559 29 (by decide)]; exact hd (by omega))
        refine lv_if_eq (tgt := 150) hx hb dX12_operand_138 (by decide) (fun c8561 => ?_) (fun c8561 => ?_)
        · skip
          have t8562 := cv_eq (a := r8555.toInt) rfl (b := 0) (by decide) c8561
          have hP9 : va_P (dC, dI) classes (wM g c v8556 F8557 rc) H := hP
          exact W.vret hx hb hr (fun t ht hW => ⟨⟨(v8556, F8557, rc), rfl, ⟨hI, rfl, (frC (by decide) hf8558 (fun _ _ => rfl)), hF, (by show ((v8556 40).toInt ≤ (v8556 39).toInt ∧ (v 39).toInt ≤ (v8556 39).toInt ∧ (v8556 39).toInt ≤ (v 30).toInt ∧ (v 38).toInt ≤ (v8556 38).toInt ∧ (v8556 38).toInt - (v 38).toInt ≤ (v8556 39).toInt - (v 39).toInt ∧ (v 41).toInt ≤ (v8556 41).toInt ∧ ((v8556 40).toInt < 0 → (v8556 41).toInt = (v 41).toInt)) ∧ keepL (v 37) (F 28) (F 29) (F8557 28) (F8557 29) ∧ ((v8556 40).toInt < 0 → dp (F8557 28) (F8557 29) (bI (v 37)) (v8556 38).toInt.toNat = some (d + 1)) ∧ rd false (v 30) (F 24) 0 (v 41).toInt (v 39).toInt (v8556 40).toInt (v8556 39).toInt; rw [show v8556 38 = v 38 from hf8558 38 (by decide)]; rw [show v8556 41 = v 41 from hf8558 41 (by decide)]; exact ⟨by omega, hk, fun hf => (hd (by omega)).trans (congrArg some (by omega)), rd.num (by omega) (by omega) (by omega) (by omega) (hw_r8555.2 (by omega))⟩)⟩, (by show va_P _ _ _ t.heap; rw [ht]; exact hP9)⟩, hS.F ht⟩) hS.2.2 dX12_operand_150
        · skip
          have t8563 := cv_ne (a := r8555.toInt) rfl (b := 0) (by decide) c8561
          refine lv_aload_n hx hb dX12_operand_141 rfl (lv_at hl 1 rfl) ?_
          refine lv_iconst (v := 1) hx hb dX12_operand_142 (by decide) ?_
          refine lv_aload_n hx hb dX12_operand_143 rfl (lv_at hl 1 rfl) ?_
          refine va_get (D := (dC, dI)) (ci := 12) (v := .int (v8556 42)) (C := RX12) (T := TX12) (N := 63) hx hb hwd inA_X12 hown hK hP 0 rfl rfl 42 (by decide) (hwd _ wk_1031) (fun _ h9 => h9) rfl dX12_operand_144 ?_
          have t8564 : 0 ≤ (v 37).toInt ∧ (v 37).toInt ≤ 9 := by have h9 := hI.1 37 _ _ rfl; rw [show v8556 37 = v 37 from hf8558 37 (by decide)] at h9; exact h9
          have t8565 : 0 ≤ (v 38).toInt ∧ (v 38).toInt ≤ 120 := by have h9 := hI.1 38 _ _ rfl; rw [show v8556 38 = v 38 from hf8558 38 (by decide)] at h9; exact h9
          refine va_callv (va_runV (As := [.int 1, .int (v8556 42)]) (rest := []) ⟨hx, hb, hml, hown, hwd⟩ (c_X12_lay l dC dI g c adK adV v8556 F8557 rc H.size 1 (v8556 42) hg hI (by have h9 : v8556 38 = v 38 := hf8558 38 (by decide); rw [h9]; omega)) (cwV 2 hwd (gV wk_1021 wk_1018 wk_1019 wk_1020 wk_5) rfl rfl rfl (by decide +kernel) ⟨(by show 1 + 1 ≤ fr + 4; omega), (by show 8 + (3 + 11) + (40) ≤ lc + 160; omega)⟩) ⟨PM.blind, va_recv hK hP (ci := 12) (q0 := 0) rfl rfl, fun U hU hW => ⟨rfl, PM.at hK hE hP hS hU hW⟩⟩ rfl rfl hl.1 rfl (lv_room (Nat.le_of_ble_eq_true rfl)) dX12_operand_147 ⟨Nat.le_of_ble_eq_true rfl, Nat.le_of_ble_eq_true rfl⟩) hS (fun q _ h => (freeM hS) q h) (freeM hS) (fun u t H1 locs ht hvm hw hB hz1 hk1 hS => ?_)
          unfold BM at hB
          rw [ht] at hB
          obtain ⟨v8567, F8568, rc9⟩ := u
          obtain ⟨hI, hrc, hf8569, hG8570, hw⟩ := hw
          dsimp only at hI hrc hB hf8569 hG8570 hw
          have hF := frCF (by decide) hG8570 hF
          rw [hrc] at hB
          have hP : va_P (dC, dI) classes (wM g c v8567 F8568 rc) H1 := hB
          replace hw : (v8567 38).toInt = (v8556 38).toInt + 1 ∧ keepL (v8556 37) (F8557 28) (F8557 29) (F8568 28) (F8568 29) ∧ dp (F8568 28) (F8568 29) (bI (v8556 37)) ((v8556 38).toInt.toNat + 1) = dpS (dp (F8557 28) (F8557 29) (bI (v8556 37)) (v8556 38).toInt.toNat) (1 : Int32) (v8556 42) := hw
          rw [show v8556 38 = v 38 from hf8558 38 (by decide)] at hw
          rw [show v8556 37 = v 37 from hf8558 37 (by decide)] at hw
          have hw_r8566 := hw
          clear hw
          have t8571 : 0 ≤ (v8567 38).toInt ∧ (v8567 38).toInt ≤ 120 := hI.1 38 _ _ rfl
          have k8572 : (1 : Int32).toInt = 1 := by decide
          clear hz1
          generalize H1 = H at hP hS ⊢
          replace hk := hk.tr hw_r8566.2.1
          replace hd : (v8556 40).toInt < 0 → dp (F8568 28) (F8568 29) (bI (v 37)) (v8567 38).toInt.toNat = some (d + 1) := fun hf => (by have e9 : (v8567 38).toInt.toNat = (v 38).toInt.toNat + 1 := (by omega); rw [e9, hw_r8566.2.2, hd hf]; exact dpS_1 (by decide))
          replace hw_r8566 := hw_r8566.1
          have hP9 : va_P (dC, dI) classes (wM g c v8567 F8568 rc) H := hP
          exact W.vret hx hb hr (fun t ht hW => ⟨⟨(v8567, F8568, rc), rfl, ⟨hI, rfl, (frC (by decide) hf8569 (frC (by decide) hf8558 (fun _ _ => rfl))), hF, (by show ((v8567 40).toInt ≤ (v8567 39).toInt ∧ (v 39).toInt ≤ (v8567 39).toInt ∧ (v8567 39).toInt ≤ (v 30).toInt ∧ (v 38).toInt ≤ (v8567 38).toInt ∧ (v8567 38).toInt - (v 38).toInt ≤ (v8567 39).toInt - (v 39).toInt ∧ (v 41).toInt ≤ (v8567 41).toInt ∧ ((v8567 40).toInt < 0 → (v8567 41).toInt = (v 41).toInt)) ∧ keepL (v 37) (F 28) (F 29) (F8568 28) (F8568 29) ∧ ((v8567 40).toInt < 0 → dp (F8568 28) (F8568 29) (bI (v 37)) (v8567 38).toInt.toNat = some (d + 1)) ∧ rd false (v 30) (F 24) 0 (v 41).toInt (v 39).toInt (v8567 40).toInt (v8567 39).toInt; rw [show v8567 40 = v8556 40 from hf8569 40 (by decide)]; rw [show v8567 39 = v8556 39 from hf8569 39 (by decide)]; rw [show v8567 41 = v 41 from (hf8569 41 (by decide)).trans (hf8558 41 (by decide))]; exact ⟨by omega, hk, fun hf => (hd (by omega)).trans (congrArg some (by omega)), rd.num (by omega) (by omega) (by omega) (by omega) (hw_r8555.2 (by omega))⟩)⟩, (by show va_P _ _ _ t.heap; rw [ht]; exact hP9)⟩, hS.F ht⟩) hS.2.2 dX12_operand_150
      · skip
        have t8573 := cv_eq (a := r8545.toInt) rfl (b := 40) (by decide) c8551
        refine lv_aload_n hx hb dX12_operand_77 rfl (lv_at hl 1 rfl) ?_
        have t8574 : 0 ≤ (v 39).toInt ∧ (v 39).toInt ≤ 120 := hI.1 39 _ _ rfl
        have t8575 : 0 ≤ (v 41).toInt ∧ (v 41).toInt ≤ 8 := hI.1 41 _ _ rfl
        refine va_calli (va_runV (As := []) (rest := []) ⟨hx, hb, hml, hown, hwd⟩ (c_X12_opens l dC dI g c adK adV v F rc H.size  hg hI (by have h9 : v 39 = v 39 := rfl; (try rw [h9]); clear h9; have h9 : v 30 = v 30 := rfl; (try rw [h9]); clear h9; omega)) (cwV 0 hwd (gV wk_1025 wk_1022 wk_1023 wk_1024 wk_5) rfl rfl rfl (by decide +kernel) ⟨(by show 2 + 1 ≤ fr + 4; omega), (by show 8 + (1 + 11) + (80) ≤ lc + 160; omega)⟩) ⟨PM.blind, va_recv hK hP (ci := 12) (q0 := 0) rfl rfl, fun U hU hW => ⟨rfl, PM.at hK hE hP hS hU hW⟩⟩ rfl rfl hl.1 rfl (lv_room (Nat.le_of_ble_eq_true rfl)) dX12_operand_78 ⟨Nat.le_of_ble_eq_true rfl, Nat.le_of_ble_eq_true rfl⟩) hS (fun q _ h => (freeM hS) q h) (freeM hS) (fun r8576 u t H1 locs ht hvm hw hB hz1 hk1 hS => ?_)
        unfold BM at hB
        rw [ht] at hB
        obtain ⟨v8577, F8578, rc9⟩ := u
        obtain ⟨hI, hrc, hf8579, hG8580, hw⟩ := hw
        dsimp only at hI hrc hB hf8579 hG8580 hw
        have hF := frCF (by decide) hG8580 hF
        rw [hrc] at hB
        have hP : va_P (dC, dI) classes (wM g c v8577 F8578 rc) H1 := hB
        replace hw : (r8576.toInt = 1 ∧ (v 41).toInt < 8 ∧ (v8577 41).toInt = (v 41).toInt + 1 ∧ (v8577 39).toInt = (v 39).toInt + 1 ∧ (v8577 40).toInt = (v 40).toInt) ∨ (r8576.toInt = 0 ∧ (v 41).toInt = 8 ∧ 0 ≤ (v8577 40).toInt ∧ (0 ≤ (v 40).toInt ∨ (v8577 40).toInt = (v 39).toInt) ∧  (v8577 41).toInt = (v 41).toInt ∧ (v8577 39).toInt = (v 39).toInt) := hw
        have hw_r8576 := hw
        clear hw
        have t8581 : 0 ≤ (v8577 39).toInt ∧ (v8577 39).toInt ≤ 120 := hI.1 39 _ _ rfl
        have t8582 : 0 ≤ (v8577 41).toInt ∧ (v8577 41).toInt ≤ 8 := hI.1 41 _ _ rfl
        clear hz1
        generalize H1 = H at hP hS ⊢
        replace hk : keepL (v 37) (F 28) (F 29) (F8578 28) (F8578 29) := by rw [hG8580 28 (by decide), hG8580 29 (by decide)]; exact hk
        replace hd : (v8577 40).toInt < 0 → dp (F8578 28) (F8578 29) (bI (v 37)) (v 38).toInt.toNat = some d := fun hf => (by rw [hG8580 28 (by decide), hG8580 29 (by decide)]; exact hd (by omega))
        refine lv_if_ne (tgt := 85) hx hb dX12_operand_81 (by decide) (fun c8583 => ?_) (fun c8583 => ?_)
        · skip
          have t8584 := cv_ne (a := r8576.toInt) rfl (b := 0) (by decide) c8583
          refine lv_aload_n hx hb dX12_operand_85 rfl (lv_at hl 1 rfl) ?_
          have t8585 : 0 ≤ (v 30).toInt ∧ (v 30).toInt ≤ 120 := by have h9 := hI.1 30 _ _ rfl; rw [show v8577 30 = v 30 from hf8579 30 (by decide)] at h9; exact h9
          have t8586 : 0 ≤ (v 37).toInt ∧ (v 37).toInt ≤ 9 := by have h9 := hI.1 37 _ _ rfl; rw [show v8577 37 = v 37 from hf8579 37 (by decide)] at h9; exact h9
          have t8587 : 0 ≤ (v 38).toInt ∧ (v 38).toInt ≤ 120 := by have h9 := hI.1 38 _ _ rfl; rw [show v8577 38 = v 38 from hf8579 38 (by decide)] at h9; exact h9
          have t8588 : 0 ≤ (v8577 39).toInt ∧ (v8577 39).toInt ≤ 120 := hI.1 39 _ _ rfl
          have t8589 : 0 ≤ (v8577 41).toInt ∧ (v8577 41).toInt ≤ 8 := hI.1 41 _ _ rfl
          have hby24 : F8578 24 = F 24 := hF 24 (by decide)
          refine va_callv (va_runV (As := []) (rest := []) ⟨hx, hb, hml, hown, hwd⟩ (rE l dC dI g c adK adV v8577 F8578 rc H.size  d hg hI (by have h9 : v8577 38 = v 38 := hf8579 38 (by decide); (try rw [h9]); clear h9; have h9 : v8577 39 = v8577 39 := rfl; (try rw [h9]); clear h9; have h9 : v8577 30 = v 30 := hf8579 30 (by decide); (try rw [h9]); clear h9; have h9 : v8577 40 = v8577 40 := rfl; (try rw [h9]); clear h9; have h9 : v8577 41 = v8577 41 := rfl; (try rw [h9]); clear h9; omega) (by have h9 : v8577 37 = (v 37) := hf8579 37 (by decide); have h8 : v8577 38 = (v 38) := hf8579 38 (by decide); (try rw [h9]); (try rw [h8]); exact hd (by omega))) (cwV 0 hwd (gV wk_1010 wk_1007 wk_1008 wk_1009 wk_5) rfl rfl rfl (by decide +kernel) ⟨(by show fr + 3 + 1 ≤ fr + 4; omega), (by show 8 + (2 + 11) + (lc + 120) ≤ lc + 160; omega)⟩) ⟨PM.blind, va_recv hK hP (ci := 12) (q0 := 0) rfl rfl, fun U hU hW => ⟨rfl, PM.at hK hE hP hS hU hW⟩⟩ rfl rfl hl.1 rfl (lv_room (Nat.le_of_ble_eq_true rfl)) dX12_operand_86 ⟨Nat.le_of_ble_eq_true rfl, Nat.le_of_ble_eq_true rfl⟩) hS (fun q _ h => (freeM hS) q h) (freeM hS) (fun u t H1 locs ht hvm hw hB hz1 hk1 hS => ?_)
          unfold BM at hB
          rw [ht] at hB
          obtain ⟨v8591, F8592, rc9⟩ := u
          obtain ⟨hI, hrc, hf8593, hG8594, hw⟩ := hw
          dsimp only at hI hrc hB hf8593 hG8594 hw
          have hF := frCF (by decide) hG8594 hF
          rw [hrc] at hB
          have hP : va_P (dC, dI) classes (wM g c v8591 F8592 rc) H1 := hB
          replace hw : ((v8591 40).toInt ≤ (v8591 39).toInt ∧ (v8577 39).toInt ≤ (v8591 39).toInt ∧ (v8591 39).toInt ≤ (v8577 30).toInt ∧ (v8577 38).toInt ≤ (v8591 38).toInt ∧ (v8591 38).toInt - (v8577 38).toInt ≤ (v8591 39).toInt - (v8577 39).toInt ∧ (v8577 41).toInt ≤ (v8591 41).toInt ∧ ((v8591 40).toInt < 0 → (v8591 41).toInt = (v8577 41).toInt)) ∧ keepL (v8577 37) (F8578 28) (F8578 29) (F8592 28) (F8592 29) ∧ ((v8591 40).toInt < 0 → dp (F8592 28) (F8592 29) (bI (v8577 37)) (v8591 38).toInt.toNat = some (d + 1)) ∧ rd false (v8577 30) (F8578 24) 6 (v8577 41).toInt (v8577 39).toInt (v8591 40).toInt (v8591 39).toInt := hw
          rw [show v8577 30 = v 30 from hf8579 30 (by decide)] at hw
          rw [show v8577 38 = v 38 from hf8579 38 (by decide)] at hw
          rw [show v8577 37 = v 37 from hf8579 37 (by decide)] at hw
          rw [hby24] at hw
          have hw_r8590 := hw
          clear hw
          have t8595 : 0 ≤ (v8591 38).toInt ∧ (v8591 38).toInt ≤ 120 := hI.1 38 _ _ rfl
          have t8596 : 0 ≤ (v8591 39).toInt ∧ (v8591 39).toInt ≤ 120 := hI.1 39 _ _ rfl
          have t8597 : 0 ≤ (v8591 41).toInt ∧ (v8591 41).toInt ≤ 8 := hI.1 41 _ _ rfl
          clear hz1
          generalize H1 = H at hP hS ⊢
          replace hk := hk.tr hw_r8590.2.1
          replace hd := hw_r8590.2.2.1
          have hrd_r8590 := hw_r8590.2.2.2
          replace hw_r8590 := hw_r8590.1
          refine lv_aload_n hx hb dX12_operand_89 rfl (lv_at hl 1 rfl) ?_
          refine va_get (D := (dC, dI)) (ci := 12) (v := .int (v8591 40)) (C := RX12) (T := TX12) (N := 63) hx hb hwd inA_X12 hown hK hP 0 rfl rfl 40 (by decide) (hwd _ wk_1005) (fun _ h9 => h9) rfl dX12_operand_90 ?_
          refine lv_if_lt (tgt := 97) hx hb dX12_operand_93 (by decide) (fun c8598 => ?_) (fun c8598 => ?_)
          · skip
            have t8599 := cv_lt (a := (v8591 40).toInt) rfl (b := 0) (by decide) c8598
            refine lv_aload_n hx hb dX12_operand_97 rfl (lv_at hl 1 rfl) ?_
            have t8600 : 0 ≤ (v 30).toInt ∧ (v 30).toInt ≤ 120 := by have h9 := hI.1 30 _ _ rfl; rw [show v8591 30 = v 30 from (hf8593 30 (by decide)).trans (hf8579 30 (by decide))] at h9; exact h9
            have t8601 : 0 ≤ (v8591 39).toInt ∧ (v8591 39).toInt ≤ 120 := hI.1 39 _ _ rfl
            have hby24 : F8592 24 = F 24 := hF 24 (by decide)
            refine va_calli (va_runV (As := []) (rest := []) ⟨hx, hb, hml, hown, hwd⟩ (c_X12_look l dC dI g c adK adV v8591 F8592 rc H.size  hg hI ) (cwV 0 hwd (gV wk_1017 wk_1014 wk_1015 wk_1016 wk_5) rfl rfl rfl (by decide +kernel) ⟨(by show 1 + 1 ≤ fr + 4; omega), (by show 8 + (1 + 11) + (40) ≤ lc + 160; omega)⟩) ⟨PM.blind, va_recv hK hP (ci := 12) (q0 := 0) rfl rfl, fun U hU hW => ⟨rfl, PM.at hK hE hP hS hU hW⟩⟩ rfl rfl hl.1 rfl (lv_room (Nat.le_of_ble_eq_true rfl)) dX12_operand_98 ⟨Nat.le_of_ble_eq_true rfl, Nat.le_of_ble_eq_true rfl⟩) hS (fun q _ h => (freeM hS) q h) (freeM hS) (fun r8602 u t H1 locs ht hvm hw hB hz1 hk1 hS => ?_)
            unfold BM at hB
            rw [ht] at hB
            have hP : va_P (dC, dI) classes (wM g c v8591 F8592 rc) H1 := hB
            replace hw : r8602.toInt = sg (v8591 30) (F8592 24) (v8591 39).toInt ∧ ((v8591 39).toInt < (v8591 30).toInt ∨ r8602.toInt = -1) := hw
            rw [show v8591 30 = v 30 from (hf8593 30 (by decide)).trans (hf8579 30 (by decide))] at hw
            rw [hby24] at hw
            have hw_r8602 := hw
            clear hw
            clear hz1
            generalize H1 = H at hP hS ⊢
            refine lv_bipush (v := 41) hx hb dX12_operand_101 (by decide) ?_
            refine lv_icmp_eq (tgt := 111) hx hb dX12_operand_103 (by decide) (fun c8603 => ?_) (fun c8603 => ?_)
            · skip
              have t8604 := cv_eq (a := r8602.toInt) rfl (b := 41) (by decide) c8603
              refine lv_aload_n hx hb dX12_operand_111 rfl (lv_at hl 1 rfl) ?_
              refine lv_dup hx hb dX12_operand_112 rfl ?_
              refine va_get (D := (dC, dI)) (ci := 12) (v := .int (v8591 39)) (C := RX12) (T := TX12) (N := 63) hx hb hwd inA_X12 hown hK hP 0 rfl rfl 39 (by decide) (hwd _ wk_1004) (fun _ h9 => h9) rfl dX12_operand_113 ?_
              have t8605 : 0 ≤ (v8591 39).toInt ∧ (v8591 39).toInt ≤ 120 := hI.1 39 _ _ rfl
              refine lv_iconst (v := 1) hx hb dX12_operand_116 (by decide) ?_
              refine lv_iadd hx hb dX12_operand_117 ?_
              refine lv_topi (fun z8606 e8607 => ?_)
              try (have t8608 := tadd e8607 (a := (v8591 39).toInt) rfl (b := 1) (by decide) (by omega))
              refine va_put (D := (dC, dI)) (ci := 12) (v := .int z8606) (ty := .int) (C := RX12) (T := TX12) (N := 63) (fs := fsM_0 g v8591 rc) hx hb hwd inA_X12 tyX12 tyX12_ok nmX12 hown hK hP (DM hg) hS 0 rfl rfl 39 (by decide) (hwd _ wk_1004) (fun _ h9 => h9) rfl (by decide +kernel) rfl rfl (Nat.le_of_ble_eq_true rfl) dX12_operand_118 (fun H locs hP _ hS => ?_)
              have hP := va_P_eq (pM_39 g c _ _ _ _) hP
              have hI := IM.put hI 39 z8606 rfl (by omega)
              refine lv_aload_n hx hb dX12_operand_121 rfl (lv_at hl 1 rfl) ?_
              refine lv_dup hx hb dX12_operand_122 rfl ?_
              refine va_get (D := (dC, dI)) (ci := 12) (v := .int (v8591 41)) (C := RX12) (T := TX12) (N := 63) hx hb hwd inA_X12 hown hK hP 0 rfl rfl 41 (by decide) (hwd _ wk_1006) (fun _ h9 => h9) rfl dX12_operand_123 ?_
              have t8609 : 0 ≤ (v8591 41).toInt ∧ (v8591 41).toInt ≤ 8 := hI.1 41 _ _ rfl
              refine lv_iconst (v := 1) hx hb dX12_operand_126 (by decide) ?_
              refine lv_isub hx hb dX12_operand_127 ?_
              refine lv_topi (fun z8610 e8611 => ?_)
              try (have t8612 := tsub e8611 (a := (v8591 41).toInt) rfl (b := 1) (by decide) (by omega))
              refine va_put (D := (dC, dI)) (ci := 12) (v := .int z8610) (ty := .int) (C := RX12) (T := TX12) (N := 63) (fs := fsM_0 g (va_up v8591 39 z8606) rc) hx hb hwd inA_X12 tyX12 tyX12_ok nmX12 hown hK hP (DM hg) hS 0 rfl rfl 41 (by decide) (hwd _ wk_1006) (fun _ h9 => h9) rfl (by decide +kernel) rfl rfl (Nat.le_of_ble_eq_true rfl) dX12_operand_128 (fun H locs hP _ hS => ?_)
              have hP := va_P_eq (pM_41 g c _ _ _ _) hP
              have hI := IM.put hI 41 z8610 rfl (by omega)
              refine lv_goto (tgt := 150) hx hb dX12_operand_131 (by decide) ?_
              have hP9 : va_P (dC, dI) classes (wM g c (va_up (va_up v8591 39 z8606) 41 z8610) F8592 rc) H := hP
              exact W.vret hx hb hr (fun t ht hW => ⟨⟨((va_up (va_up v8591 39 z8606) 41 z8610), F8592, rc), rfl, ⟨hI, rfl, (frU (by decide) (frU (by decide) (frC (by decide) hf8593 (frC (by decide) hf8579 (fun _ _ => rfl))))), hF, (by show ((v8591 40).toInt ≤ z8606.toInt ∧ (v 39).toInt ≤ z8606.toInt ∧ z8606.toInt ≤ (v 30).toInt ∧ (v 38).toInt ≤ (v8591 38).toInt ∧ (v8591 38).toInt - (v 38).toInt ≤ z8606.toInt - (v 39).toInt ∧ (v 41).toInt ≤ z8610.toInt ∧ ((v8591 40).toInt < 0 → z8610.toInt = (v 41).toInt)) ∧ keepL (v 37) (F 28) (F 29) (F8592 28) (F8592 29) ∧ ((v8591 40).toInt < 0 → dp (F8592 28) (F8592 29) (bI (v 37)) (v8591 38).toInt.toNat = some (d + 1)) ∧ rd false (v 30) (F 24) 0 (v 41).toInt (v 39).toInt (v8591 40).toInt z8606.toInt; exact ⟨by omega, hk, fun hf => (hd (by omega)).trans (congrArg some (by omega)), rd.par (by omega) (by omega) (by omega) (by omega) (by omega) hrd_r8590 (by omega)⟩)⟩, (by show va_P _ _ _ t.heap; rw [ht]; exact hP9)⟩, hS.F ht⟩) hS.2.2 dX12_operand_150
            · skip
              have t8613 := cv_ne (a := r8602.toInt) rfl (b := 41) (by decide) c8603
              refine lv_aload_n hx hb dX12_operand_106 rfl (lv_at hl 1 rfl) ?_
              have t8614 : 0 ≤ (v8591 39).toInt ∧ (v8591 39).toInt ≤ 120 := hI.1 39 _ _ rfl
              refine va_callv (va_runV (As := []) (rest := []) ⟨hx, hb, hml, hown, hwd⟩ (c_X12_wrong l dC dI g c adK adV v8591 F8592 rc H.size  hg hI ) (cwV 0 hwd (gV wk_1029 wk_1026 wk_1027 wk_1028 wk_5) rfl rfl rfl (by decide +kernel) ⟨(by show 1 + 1 ≤ fr + 4; omega), (by show 8 + (1 + 11) + (40) ≤ lc + 160; omega)⟩) ⟨PM.blind, va_recv hK hP (ci := 12) (q0 := 0) rfl rfl, fun U hU hW => ⟨rfl, PM.at hK hE hP hS hU hW⟩⟩ rfl rfl hl.1 rfl (lv_room (Nat.le_of_ble_eq_true rfl)) dX12_operand_107 ⟨Nat.le_of_ble_eq_true rfl, Nat.le_of_ble_eq_true rfl⟩) hS (fun q _ h => (freeM hS) q h) (freeM hS) (fun u t H1 locs ht hvm hw hB hz1 hk1 hS => ?_)
              unfold BM at hB
              rw [ht] at hB
              obtain ⟨v8616, F8617, rc9⟩ := u
              obtain ⟨hI, hrc, hf8618, hG8619, hw⟩ := hw
              dsimp only at hI hrc hB hf8618 hG8619 hw
              have hF := frCF (by decide) hG8619 hF
              rw [hrc] at hB
              have hP : va_P (dC, dI) classes (wM g c v8616 F8617 rc) H1 := hB
              replace hw : ((v8591 40).toInt < 0 ∧ (v8616 40).toInt = (v8591 39).toInt) ∨ (0 ≤ (v8591 40).toInt ∧ (v8616 40).toInt = (v8591 40).toInt) := hw
              have hw_r8615 := hw
              clear hw
              clear hz1
              generalize H1 = H at hP hS ⊢
              replace hk : keepL (v 37) (F 28) (F 29) (F8617 28) (F8617 29) := by rw [hG8619 28 (by decide), hG8619 29 (by decide)]; exact hk
              replace hd : (v8616 40).toInt < 0 → dp (F8617 28) (F8617 29) (bI (v 37)) (v8591 38).toInt.toNat = some (d + 1) := fun hf => (by rw [hG8619 28 (by decide), hG8619 29 (by decide)]; exact hd (by omega))
              have hP9 : va_P (dC, dI) classes (wM g c v8616 F8617 rc) H := hP
              exact W.vret hx hb hr (fun t ht hW => ⟨⟨(v8616, F8617, rc), rfl, ⟨hI, rfl, (frC (by decide) hf8618 (frC (by decide) hf8593 (frC (by decide) hf8579 (fun _ _ => rfl)))), hF, (by show ((v8616 40).toInt ≤ (v8616 39).toInt ∧ (v 39).toInt ≤ (v8616 39).toInt ∧ (v8616 39).toInt ≤ (v 30).toInt ∧ (v 38).toInt ≤ (v8616 38).toInt ∧ (v8616 38).toInt - (v 38).toInt ≤ (v8616 39).toInt - (v 39).toInt ∧ (v 41).toInt ≤ (v8616 41).toInt ∧ ((v8616 40).toInt < 0 → (v8616 41).toInt = (v 41).toInt)) ∧ keepL (v 37) (F 28) (F 29) (F8617 28) (F8617 29) ∧ ((v8616 40).toInt < 0 → dp (F8617 28) (F8617 29) (bI (v 37)) (v8616 38).toInt.toNat = some (d + 1)) ∧ rd false (v 30) (F 24) 0 (v 41).toInt (v 39).toInt (v8616 40).toInt (v8616 39).toInt; rw [show v8616 39 = v8591 39 from hf8618 39 (by decide)]; rw [show v8616 38 = v8591 38 from hf8618 38 (by decide)]; rw [show v8616 41 = v8591 41 from hf8618 41 (by decide)]; exact ⟨by omega, hk, fun hf => (hd (by omega)).trans (congrArg some (by omega)), rd.par (by omega) (by omega) (by omega) (by omega) (by omega) hrd_r8590 (by omega)⟩)⟩, (by show va_P _ _ _ t.heap; rw [ht]; exact hP9)⟩, hS.F ht⟩) hS.2.2 dX12_operand_110
          · skip
            have t8620 := cv_nlt (a := (v8591 40).toInt) rfl (b := 0) (by decide) c8598
            have hP9 : va_P (dC, dI) classes (wM g c v8591 F8592 rc) H := hP
            exact W.vret hx hb hr (fun t ht hW => ⟨⟨(v8591, F8592, rc), rfl, ⟨hI, rfl, (frC (by decide) hf8593 (frC (by decide) hf8579 (fun _ _ => rfl))), hF, (by show ((v8591 40).toInt ≤ (v8591 39).toInt ∧ (v 39).toInt ≤ (v8591 39).toInt ∧ (v8591 39).toInt ≤ (v 30).toInt ∧ (v 38).toInt ≤ (v8591 38).toInt ∧ (v8591 38).toInt - (v 38).toInt ≤ (v8591 39).toInt - (v 39).toInt ∧ (v 41).toInt ≤ (v8591 41).toInt ∧ ((v8591 40).toInt < 0 → (v8591 41).toInt = (v 41).toInt)) ∧ keepL (v 37) (F 28) (F 29) (F8592 28) (F8592 29) ∧ ((v8591 40).toInt < 0 → dp (F8592 28) (F8592 29) (bI (v 37)) (v8591 38).toInt.toNat = some (d + 1)) ∧ rd false (v 30) (F 24) 0 (v 41).toInt (v 39).toInt (v8591 40).toInt (v8591 39).toInt; exact ⟨by omega, hk, fun hf => (hd (by omega)).trans (congrArg some (by omega)), rd.par (by omega) (by omega) (by omega) (by omega) (by omega) hrd_r8590 (by omega)⟩)⟩, (by show va_P _ _ _ t.heap; rw [ht]; exact hP9)⟩, hS.F ht⟩) hS.2.2 dX12_operand_96
        · skip
          have t8621 := cv_eq (a := r8576.toInt) rfl (b := 0) (by decide) c8583
          have hP9 : va_P (dC, dI) classes (wM g c v8577 F8578 rc) H := hP
          exact W.vret hx hb hr (fun t ht hW => ⟨⟨(v8577, F8578, rc), rfl, ⟨hI, rfl, (frC (by decide) hf8579 (fun _ _ => rfl)), hF, (by show ((v8577 40).toInt ≤ (v8577 39).toInt ∧ (v 39).toInt ≤ (v8577 39).toInt ∧ (v8577 39).toInt ≤ (v 30).toInt ∧ (v 38).toInt ≤ (v8577 38).toInt ∧ (v8577 38).toInt - (v 38).toInt ≤ (v8577 39).toInt - (v 39).toInt ∧ (v 41).toInt ≤ (v8577 41).toInt ∧ ((v8577 40).toInt < 0 → (v8577 41).toInt = (v 41).toInt)) ∧ keepL (v 37) (F 28) (F 29) (F8578 28) (F8578 29) ∧ ((v8577 40).toInt < 0 → dp (F8578 28) (F8578 29) (bI (v 37)) (v8577 38).toInt.toNat = some (d + 1)) ∧ rd false (v 30) (F 24) 0 (v 41).toInt (v 39).toInt (v8577 40).toInt (v8577 39).toInt; rw [show v8577 38 = v 38 from hf8579 38 (by decide)]; exact ⟨by omega, hk, fun hf => (hd (by omega)).trans (congrArg some (by omega)), rd.deep (by omega) (by omega) (by omega) (by omega) (by omega)⟩)⟩, (by show va_P _ _ _ t.heap; rw [ht]; exact hP9)⟩, hS.F ht⟩) hS.2.2 dX12_operand_84
    · skip
      have t8622 := cv_eq (a := r8545.toInt) rfl (b := 45) (by decide) c8549
      refine lv_aload_n hx hb dX12_operand_40 rfl (lv_at hl 1 rfl) ?_
      have t8623 : 0 ≤ (v 39).toInt ∧ (v 39).toInt ≤ 120 := hI.1 39 _ _ rfl
      have t8624 : 0 ≤ (v 41).toInt ∧ (v 41).toInt ≤ 8 := hI.1 41 _ _ rfl
      refine va_calli (va_runV (As := []) (rest := []) ⟨hx, hb, hml, hown, hwd⟩ (c_X12_opens l dC dI g c adK adV v F rc H.size  hg hI (by have h9 : v 39 = v 39 := rfl; (try rw [h9]); clear h9; have h9 : v 30 = v 30 := rfl; (try rw [h9]); clear h9; omega)) (cwV 0 hwd (gV wk_1025 wk_1022 wk_1023 wk_1024 wk_5) rfl rfl rfl (by decide +kernel) ⟨(by show 2 + 1 ≤ fr + 4; omega), (by show 8 + (1 + 11) + (80) ≤ lc + 160; omega)⟩) ⟨PM.blind, va_recv hK hP (ci := 12) (q0 := 0) rfl rfl, fun U hU hW => ⟨rfl, PM.at hK hE hP hS hU hW⟩⟩ rfl rfl hl.1 rfl (lv_room (Nat.le_of_ble_eq_true rfl)) dX12_operand_41 ⟨Nat.le_of_ble_eq_true rfl, Nat.le_of_ble_eq_true rfl⟩) hS (fun q _ h => (freeM hS) q h) (freeM hS) (fun r8625 u t H1 locs ht hvm hw hB hz1 hk1 hS => ?_)
      unfold BM at hB
      rw [ht] at hB
      obtain ⟨v8626, F8627, rc9⟩ := u
      obtain ⟨hI, hrc, hf8628, hG8629, hw⟩ := hw
      dsimp only at hI hrc hB hf8628 hG8629 hw
      have hF := frCF (by decide) hG8629 hF
      rw [hrc] at hB
      have hP : va_P (dC, dI) classes (wM g c v8626 F8627 rc) H1 := hB
      replace hw : (r8625.toInt = 1 ∧ (v 41).toInt < 8 ∧ (v8626 41).toInt = (v 41).toInt + 1 ∧ (v8626 39).toInt = (v 39).toInt + 1 ∧ (v8626 40).toInt = (v 40).toInt) ∨ (r8625.toInt = 0 ∧ (v 41).toInt = 8 ∧ 0 ≤ (v8626 40).toInt ∧ (0 ≤ (v 40).toInt ∨ (v8626 40).toInt = (v 39).toInt) ∧  (v8626 41).toInt = (v 41).toInt ∧ (v8626 39).toInt = (v 39).toInt) := hw
      have hw_r8625 := hw
      clear hw
      have t8630 : 0 ≤ (v8626 39).toInt ∧ (v8626 39).toInt ≤ 120 := hI.1 39 _ _ rfl
      have t8631 : 0 ≤ (v8626 41).toInt ∧ (v8626 41).toInt ≤ 8 := hI.1 41 _ _ rfl
      clear hz1
      generalize H1 = H at hP hS ⊢
      replace hk : keepL (v 37) (F 28) (F 29) (F8627 28) (F8627 29) := by rw [hG8629 28 (by decide), hG8629 29 (by decide)]; exact hk
      replace hd : (v8626 40).toInt < 0 → dp (F8627 28) (F8627 29) (bI (v 37)) (v 38).toInt.toNat = some d := fun hf => (by rw [hG8629 28 (by decide), hG8629 29 (by decide)]; exact hd (by omega))
      refine lv_if_ne (tgt := 48) hx hb dX12_operand_44 (by decide) (fun c8632 => ?_) (fun c8632 => ?_)
      · skip
        have t8633 := cv_ne (a := r8625.toInt) rfl (b := 0) (by decide) c8632
        refine lv_aload_n hx hb dX12_operand_48 rfl (lv_at hl 1 rfl) ?_
        have t8634 : 0 ≤ (v 30).toInt ∧ (v 30).toInt ≤ 120 := by have h9 := hI.1 30 _ _ rfl; rw [show v8626 30 = v 30 from hf8628 30 (by decide)] at h9; exact h9
        have t8635 : 0 ≤ (v 37).toInt ∧ (v 37).toInt ≤ 9 := by have h9 := hI.1 37 _ _ rfl; rw [show v8626 37 = v 37 from hf8628 37 (by decide)] at h9; exact h9
        have t8636 : 0 ≤ (v 38).toInt ∧ (v 38).toInt ≤ 120 := by have h9 := hI.1 38 _ _ rfl; rw [show v8626 38 = v 38 from hf8628 38 (by decide)] at h9; exact h9
        have t8637 : 0 ≤ (v8626 39).toInt ∧ (v8626 39).toInt ≤ 120 := hI.1 39 _ _ rfl
        have t8638 : 0 ≤ (v8626 41).toInt ∧ (v8626 41).toInt ≤ 8 := hI.1 41 _ _ rfl
        have hby24 : F8627 24 = F 24 := hF 24 (by decide)
        refine va_callv (va_runV (As := []) (rest := []) ⟨hx, hb, hml, hown, hwd⟩ (rO l dC dI g c adK adV v8626 F8627 rc H.size  d hg hI (by have h9 : v8626 38 = v 38 := hf8628 38 (by decide); (try rw [h9]); clear h9; have h9 : v8626 39 = v8626 39 := rfl; (try rw [h9]); clear h9; have h9 : v8626 30 = v 30 := hf8628 30 (by decide); (try rw [h9]); clear h9; have h9 : v8626 40 = v8626 40 := rfl; (try rw [h9]); clear h9; have h9 : v8626 41 = v8626 41 := rfl; (try rw [h9]); clear h9; omega) (by have h9 : v8626 37 = (v 37) := hf8628 37 (by decide); have h8 : v8626 38 = (v 38) := hf8628 38 (by decide); (try rw [h9]); (try rw [h8]); exact hd (by omega))) (cwV 0 hwd (gV wk_1030 wk_1035 wk_1036 wk_1037 wk_5) rfl rfl rfl (by decide +kernel) ⟨(by show fr + 0 + 1 ≤ fr + 4; omega), (by show 8 + (2 + 11) + (lc + 0) ≤ lc + 160; omega)⟩) ⟨PM.blind, va_recv hK hP (ci := 12) (q0 := 0) rfl rfl, fun U hU hW => ⟨rfl, PM.at hK hE hP hS hU hW⟩⟩ rfl rfl hl.1 rfl (lv_room (Nat.le_of_ble_eq_true rfl)) dX12_operand_49 ⟨Nat.le_of_ble_eq_true rfl, Nat.le_of_ble_eq_true rfl⟩) hS (fun q _ h => (freeM hS) q h) (freeM hS) (fun u t H1 locs ht hvm hw hB hz1 hk1 hS => ?_)
        unfold BM at hB
        rw [ht] at hB
        obtain ⟨v8640, F8641, rc9⟩ := u
        obtain ⟨hI, hrc, hf8642, hG8643, hw⟩ := hw
        dsimp only at hI hrc hB hf8642 hG8643 hw
        have hF := frCF (by decide) hG8643 hF
        rw [hrc] at hB
        have hP : va_P (dC, dI) classes (wM g c v8640 F8641 rc) H1 := hB
        replace hw : ((v8640 40).toInt ≤ (v8640 39).toInt ∧ (v8626 39).toInt ≤ (v8640 39).toInt ∧ (v8640 39).toInt ≤ (v8626 30).toInt ∧ (v8626 38).toInt ≤ (v8640 38).toInt ∧ (v8640 38).toInt - (v8626 38).toInt ≤ (v8640 39).toInt - (v8626 39).toInt ∧ (v8626 41).toInt ≤ (v8640 41).toInt ∧ ((v8640 40).toInt < 0 → (v8640 41).toInt = (v8626 41).toInt)) ∧ keepL (v8626 37) (F8627 28) (F8627 29) (F8641 28) (F8641 29) ∧ ((v8640 40).toInt < 0 → dp (F8641 28) (F8641 29) (bI (v8626 37)) (v8640 38).toInt.toNat = some (d + 1)) ∧ rd false (v8626 30) (F8627 24) 0 (v8626 41).toInt (v8626 39).toInt (v8640 40).toInt (v8640 39).toInt := hw
        rw [show v8626 30 = v 30 from hf8628 30 (by decide)] at hw
        rw [show v8626 38 = v 38 from hf8628 38 (by decide)] at hw
        rw [show v8626 37 = v 37 from hf8628 37 (by decide)] at hw
        rw [hby24] at hw
        have hw_r8639 := hw
        clear hw
        have t8644 : 0 ≤ (v8640 38).toInt ∧ (v8640 38).toInt ≤ 120 := hI.1 38 _ _ rfl
        have t8645 : 0 ≤ (v8640 39).toInt ∧ (v8640 39).toInt ≤ 120 := hI.1 39 _ _ rfl
        have t8646 : 0 ≤ (v8640 41).toInt ∧ (v8640 41).toInt ≤ 8 := hI.1 41 _ _ rfl
        clear hz1
        generalize H1 = H at hP hS ⊢
        replace hk := hk.tr hw_r8639.2.1
        replace hd := hw_r8639.2.2.1
        have hrd_r8639 := hw_r8639.2.2.2
        replace hw_r8639 := hw_r8639.1
        refine lv_aload_n hx hb dX12_operand_52 rfl (lv_at hl 1 rfl) ?_
        refine lv_iconst (v := 3) hx hb dX12_operand_53 (by decide) ?_
        refine lv_iconst (v := 0) hx hb dX12_operand_54 (by decide) ?_
        have t8647 : 0 ≤ (v 37).toInt ∧ (v 37).toInt ≤ 9 := by have h9 := hI.1 37 _ _ rfl; rw [show v8640 37 = v 37 from (hf8642 37 (by decide)).trans (hf8628 37 (by decide))] at h9; exact h9
        have t8648 : 0 ≤ (v8640 38).toInt ∧ (v8640 38).toInt ≤ 120 := hI.1 38 _ _ rfl
        refine va_callv (va_runV (As := [.int 3, .int 0]) (rest := []) ⟨hx, hb, hml, hown, hwd⟩ (c_X12_lay l dC dI g c adK adV v8640 F8641 rc H.size 3 0 hg hI (by have h9 : v8640 38 = v8640 38 := rfl; rw [h9]; omega)) (cwV 2 hwd (gV wk_1021 wk_1018 wk_1019 wk_1020 wk_5) rfl rfl rfl (by decide +kernel) ⟨(by show 1 + 1 ≤ fr + 4; omega), (by show 8 + (3 + 11) + (40) ≤ lc + 160; omega)⟩) ⟨PM.blind, va_recv hK hP (ci := 12) (q0 := 0) rfl rfl, fun U hU hW => ⟨rfl, PM.at hK hE hP hS hU hW⟩⟩ rfl rfl hl.1 rfl (lv_room (Nat.le_of_ble_eq_true rfl)) dX12_operand_55 ⟨Nat.le_of_ble_eq_true rfl, Nat.le_of_ble_eq_true rfl⟩) hS (fun q _ h => (freeM hS) q h) (freeM hS) (fun u t H1 locs ht hvm hw hB hz1 hk1 hS => ?_)
        unfold BM at hB
        rw [ht] at hB
        obtain ⟨v8650, F8651, rc9⟩ := u
        obtain ⟨hI, hrc, hf8652, hG8653, hw⟩ := hw
        dsimp only at hI hrc hB hf8652 hG8653 hw
        have hF := frCF (by decide) hG8653 hF
        rw [hrc] at hB
        have hP : va_P (dC, dI) classes (wM g c v8650 F8651 rc) H1 := hB
        replace hw : (v8650 38).toInt = (v8640 38).toInt + 1 ∧ keepL (v8640 37) (F8641 28) (F8641 29) (F8651 28) (F8651 29) ∧ dp (F8651 28) (F8651 29) (bI (v8640 37)) ((v8640 38).toInt.toNat + 1) = dpS (dp (F8641 28) (F8641 29) (bI (v8640 37)) (v8640 38).toInt.toNat) (3 : Int32) (0 : Int32) := hw
        rw [show v8640 37 = v 37 from (hf8642 37 (by decide)).trans (hf8628 37 (by decide))] at hw
        have hw_r8649 := hw
        clear hw
        have t8654 : 0 ≤ (v8650 38).toInt ∧ (v8650 38).toInt ≤ 120 := hI.1 38 _ _ rfl
        have k8655 : (3 : Int32).toInt = 3 := by decide
        have k8656 : (0 : Int32).toInt = 0 := by decide
        clear hz1
        generalize H1 = H at hP hS ⊢
        replace hk := hk.tr hw_r8649.2.1
        replace hd : (v8640 40).toInt < 0 → dp (F8651 28) (F8651 29) (bI (v 37)) (v8650 38).toInt.toNat = some (d + 1) := fun hf => (by have e9 : (v8650 38).toInt.toNat = (v8640 38).toInt.toNat + 1 := (by omega); rw [e9, hw_r8649.2.2, hd hf]; exact dpS_3 (by decide) (by omega))
        replace hw_r8649 := hw_r8649.1
        refine lv_aload_n hx hb dX12_operand_58 rfl (lv_at hl 1 rfl) ?_
        refine lv_dup hx hb dX12_operand_59 rfl ?_
        refine va_get (D := (dC, dI)) (ci := 12) (v := .int (v8650 41)) (C := RX12) (T := TX12) (N := 63) hx hb hwd inA_X12 hown hK hP 0 rfl rfl 41 (by decide) (hwd _ wk_1006) (fun _ h9 => h9) rfl dX12_operand_60 ?_
        refine my_top (v := v8640 41) (hf8652 41 (by decide)) ?_
        have t8657 : 0 ≤ (v8640 41).toInt ∧ (v8640 41).toInt ≤ 8 := by have h9 := hI.1 41 _ _ rfl; rw [show v8650 41 = v8640 41 from hf8652 41 (by decide)] at h9; exact h9
        refine lv_iconst (v := 1) hx hb dX12_operand_63 (by decide) ?_
        refine lv_isub hx hb dX12_operand_64 ?_
        refine lv_topi (fun z8658 e8659 => ?_)
        try (have t8660 := tsub e8659 (a := (v8640 41).toInt) rfl (b := 1) (by decide) (by omega))
        refine va_put (D := (dC, dI)) (ci := 12) (v := .int z8658) (ty := .int) (C := RX12) (T := TX12) (N := 63) (fs := fsM_0 g v8650 rc) hx hb hwd inA_X12 tyX12 tyX12_ok nmX12 hown hK hP (DM hg) hS 0 rfl rfl 41 (by decide) (hwd _ wk_1006) (fun _ h9 => h9) rfl (by decide +kernel) rfl rfl (Nat.le_of_ble_eq_true rfl) dX12_operand_65 (fun H locs hP _ hS => ?_)
        have hP := va_P_eq (pM_41 g c _ _ _ _) hP
        have hI := IM.put hI 41 z8658 rfl (by omega)
        refine lv_goto (tgt := 150) hx hb dX12_operand_68 (by decide) ?_
        have hP9 : va_P (dC, dI) classes (wM g c (va_up v8650 41 z8658) F8651 rc) H := hP
        exact W.vret hx hb hr (fun t ht hW => ⟨⟨((va_up v8650 41 z8658), F8651, rc), rfl, ⟨hI, rfl, (frU (by decide) (frC (by decide) hf8652 (frC (by decide) hf8642 (frC (by decide) hf8628 (fun _ _ => rfl))))), hF, (by show (((va_up v8650 41 z8658) 40).toInt ≤ ((va_up v8650 41 z8658) 39).toInt ∧ (v 39).toInt ≤ ((va_up v8650 41 z8658) 39).toInt ∧ ((va_up v8650 41 z8658) 39).toInt ≤ (v 30).toInt ∧ (v 38).toInt ≤ (v8650 38).toInt ∧ (v8650 38).toInt - (v 38).toInt ≤ ((va_up v8650 41 z8658) 39).toInt - (v 39).toInt ∧ (v 41).toInt ≤ z8658.toInt ∧ (((va_up v8650 41 z8658) 40).toInt < 0 → z8658.toInt = (v 41).toInt)) ∧ keepL (v 37) (F 28) (F 29) (F8651 28) (F8651 29) ∧ (((va_up v8650 41 z8658) 40).toInt < 0 → dp (F8651 28) (F8651 29) (bI (v 37)) (v8650 38).toInt.toNat = some (d + 1)) ∧ rd false (v 30) (F 24) 0 (v 41).toInt (v 39).toInt ((va_up v8650 41 z8658) 40).toInt ((va_up v8650 41 z8658) 39).toInt; rw [show (va_up v8650 41 z8658) 40 = v8640 40 from hf8652 40 (by decide)]; rw [show (va_up v8650 41 z8658) 39 = v8640 39 from hf8652 39 (by decide)]; exact ⟨by omega, hk, fun hf => (hd (by omega)).trans (congrArg some (by omega)), rd.neg (by omega) (by omega) (by omega) (by omega) (by omega) hrd_r8639⟩)⟩, (by show va_P _ _ _ t.heap; rw [ht]; exact hP9)⟩, hS.F ht⟩) hS.2.2 dX12_operand_150
      · skip
        have t8661 := cv_eq (a := r8625.toInt) rfl (b := 0) (by decide) c8632
        have hP9 : va_P (dC, dI) classes (wM g c v8626 F8627 rc) H := hP
        exact W.vret hx hb hr (fun t ht hW => ⟨⟨(v8626, F8627, rc), rfl, ⟨hI, rfl, (frC (by decide) hf8628 (fun _ _ => rfl)), hF, (by show ((v8626 40).toInt ≤ (v8626 39).toInt ∧ (v 39).toInt ≤ (v8626 39).toInt ∧ (v8626 39).toInt ≤ (v 30).toInt ∧ (v 38).toInt ≤ (v8626 38).toInt ∧ (v8626 38).toInt - (v 38).toInt ≤ (v8626 39).toInt - (v 39).toInt ∧ (v 41).toInt ≤ (v8626 41).toInt ∧ ((v8626 40).toInt < 0 → (v8626 41).toInt = (v 41).toInt)) ∧ keepL (v 37) (F 28) (F 29) (F8627 28) (F8627 29) ∧ ((v8626 40).toInt < 0 → dp (F8627 28) (F8627 29) (bI (v 37)) (v8626 38).toInt.toNat = some (d + 1)) ∧ rd false (v 30) (F 24) 0 (v 41).toInt (v 39).toInt (v8626 40).toInt (v8626 39).toInt; rw [show v8626 38 = v 38 from hf8628 38 (by decide)]; exact ⟨by omega, hk, fun hf => (hd (by omega)).trans (congrArg some (by omega)), rd.deep (by omega) (by omega) (by omega) (by omega) (by omega)⟩)⟩, (by show va_P _ _ _ t.heap; rw [ht]; exact hP9)⟩, hS.F ht⟩) hS.2.2 dX12_operand_47
  · skip
    have t8662 := cv_nlt (a := r8546.toInt) rfl (b := 0) (by decide) c8547
    refine lv_aload_n hx hb dX12_operand_12 rfl (lv_at hl 1 rfl) ?_
    refine lv_iconst (v := 2) hx hb dX12_operand_13 (by decide) ?_
    refine lv_iload_n hx hb dX12_operand_14 rfl (lv_at hl 0 rfl) ?_
    refine va_calli (va_runS (As := [.int r8545]) (rest := [.int 2, .ref (g 0)]) ⟨hx, hb, hml, hown, hwd⟩ (c_X12_nameOf l dC dI g c adK adV v F rc H.size r8545 hg hI ) (va_cwS 1 hwd (gT wk_1034 wk_1032 wk_1033 wk_5) rfl rfl rfl (by decide +kernel) ⟨(by show 1 + 1 ≤ fr + 4; omega), (by show 8 + (1 + 11) + (40) ≤ lc + 160; omega)⟩) ⟨PM.blind, fun U hU hW => ⟨rfl, PM.at hK hE hP hS hU hW⟩⟩ rfl rfl hl.1 rfl (lv_room (Nat.le_of_ble_eq_true rfl)) dX12_operand_15 ⟨Nat.le_of_ble_eq_true rfl, Nat.le_of_ble_eq_true rfl⟩) hS (fun q _ h => (freeM hS) q h) (freeM hS) (fun r8663 u t H1 locs ht hvm hw hB hz1 hk1 hS => ?_)
    unfold BM at hB
    rw [ht] at hB
    have hP : va_P (dC, dI) classes (wM g c v F rc) H1 := hB
    have hw_r8663 : r8663.toInt = nmM r8545 ∧ (-1 ≤ r8663.toInt ∧ r8663.toInt ≤ 5) := hw
    clear hw
    clear hz1
    generalize H1 = H at hP hS ⊢
    have np_r8663 := nmM_or r8545
    have t8664 : 0 ≤ (v 37).toInt ∧ (v 37).toInt ≤ 9 := hI.1 37 _ _ rfl
    have t8665 : 0 ≤ (v 38).toInt ∧ (v 38).toInt ≤ 120 := hI.1 38 _ _ rfl
    refine va_callv (va_runV (As := [.int 2, .int r8663]) (rest := []) ⟨hx, hb, hml, hown, hwd⟩ (c_X12_lay l dC dI g c adK adV v F rc H.size 2 r8663 hg hI (by have h9 : v 38 = v 38 := rfl; rw [h9]; omega)) (cwV 2 hwd (gV wk_1021 wk_1018 wk_1019 wk_1020 wk_5) rfl rfl rfl (by decide +kernel) ⟨(by show 1 + 1 ≤ fr + 4; omega), (by show 8 + (3 + 11) + (40) ≤ lc + 160; omega)⟩) ⟨PM.blind, va_recv hK hP (ci := 12) (q0 := 0) rfl rfl, fun U hU hW => ⟨rfl, PM.at hK hE hP hS hU hW⟩⟩ rfl rfl hl.1 rfl (lv_room (Nat.le_of_ble_eq_true rfl)) dX12_operand_18 ⟨Nat.le_of_ble_eq_true rfl, Nat.le_of_ble_eq_true rfl⟩) hS (fun q _ h => (freeM hS) q h) (freeM hS) (fun u t H1 locs ht hvm hw hB hz1 hk1 hS => ?_)
    unfold BM at hB
    rw [ht] at hB
    obtain ⟨v8667, F8668, rc9⟩ := u
    obtain ⟨hI, hrc, hf8669, hG8670, hw⟩ := hw
    dsimp only at hI hrc hB hf8669 hG8670 hw
    have hF := frCF (by decide) hG8670 hF
    rw [hrc] at hB
    have hP : va_P (dC, dI) classes (wM g c v8667 F8668 rc) H1 := hB
    replace hw : (v8667 38).toInt = (v 38).toInt + 1 ∧ keepL (v 37) (F 28) (F 29) (F8668 28) (F8668 29) ∧ dp (F8668 28) (F8668 29) (bI (v 37)) ((v 38).toInt.toNat + 1) = dpS (dp (F 28) (F 29) (bI (v 37)) (v 38).toInt.toNat) (2 : Int32) r8663 := hw
    have hw_r8666 := hw
    clear hw
    have t8671 : 0 ≤ (v8667 38).toInt ∧ (v8667 38).toInt ≤ 120 := hI.1 38 _ _ rfl
    have k8672 : (2 : Int32).toInt = 2 := by decide
    clear hz1
    generalize H1 = H at hP hS ⊢
    replace hk := hk.tr hw_r8666.2.1
    replace hd : (v 40).toInt < 0 → dp (F8668 28) (F8668 29) (bI (v 37)) (v8667 38).toInt.toNat = some (d + 1) := fun hf => (by have e9 : (v8667 38).toInt.toNat = (v 38).toInt.toNat + 1 := (by omega); rw [e9, hw_r8666.2.2, hd hf]; exact dpS_2 (by decide) (by omega))
    replace hw_r8666 := hw_r8666.1
    refine lv_aload_n hx hb dX12_operand_21 rfl (lv_at hl 1 rfl) ?_
    refine lv_dup hx hb dX12_operand_22 rfl ?_
    refine va_get (D := (dC, dI)) (ci := 12) (v := .int (v8667 39)) (C := RX12) (T := TX12) (N := 63) hx hb hwd inA_X12 hown hK hP 0 rfl rfl 39 (by decide) (hwd _ wk_1004) (fun _ h9 => h9) rfl dX12_operand_23 ?_
    refine my_top (v := v 39) (hf8669 39 (by decide)) ?_
    have t8673 : 0 ≤ (v 39).toInt ∧ (v 39).toInt ≤ 120 := by have h9 := hI.1 39 _ _ rfl; rw [show v8667 39 = v 39 from hf8669 39 (by decide)] at h9; exact h9
    refine lv_iconst (v := 1) hx hb dX12_operand_26 (by decide) ?_
    refine lv_iadd hx hb dX12_operand_27 ?_
    refine lv_topi (fun z8674 e8675 => ?_)
    try (have t8676 := tadd e8675 (a := (v 39).toInt) rfl (b := 1) (by decide) (by omega))
    refine va_put (D := (dC, dI)) (ci := 12) (v := .int z8674) (ty := .int) (C := RX12) (T := TX12) (N := 63) (fs := fsM_0 g v8667 rc) hx hb hwd inA_X12 tyX12 tyX12_ok nmX12 hown hK hP (DM hg) hS 0 rfl rfl 39 (by decide) (hwd _ wk_1004) (fun _ h9 => h9) rfl (by decide +kernel) rfl rfl (Nat.le_of_ble_eq_true rfl) dX12_operand_28 (fun H locs hP _ hS => ?_)
    have hP := va_P_eq (pM_39 g c _ _ _ _) hP
    have hI := IM.put hI 39 z8674 rfl (by omega)
    refine lv_goto (tgt := 150) hx hb dX12_operand_31 (by decide) ?_
    have hP9 : va_P (dC, dI) classes (wM g c (va_up v8667 39 z8674) F8668 rc) H := hP
    exact W.vret hx hb hr (fun t ht hW => ⟨⟨((va_up v8667 39 z8674), F8668, rc), rfl, ⟨hI, rfl, (frU (by decide) (frC (by decide) hf8669 (fun _ _ => rfl))), hF, (by show (((va_up v8667 39 z8674) 40).toInt ≤ z8674.toInt ∧ (v 39).toInt ≤ z8674.toInt ∧ z8674.toInt ≤ (v 30).toInt ∧ (v 38).toInt ≤ (v8667 38).toInt ∧ (v8667 38).toInt - (v 38).toInt ≤ z8674.toInt - (v 39).toInt ∧ (v 41).toInt ≤ ((va_up v8667 39 z8674) 41).toInt ∧ (((va_up v8667 39 z8674) 40).toInt < 0 → ((va_up v8667 39 z8674) 41).toInt = (v 41).toInt)) ∧ keepL (v 37) (F 28) (F 29) (F8668 28) (F8668 29) ∧ (((va_up v8667 39 z8674) 40).toInt < 0 → dp (F8668 28) (F8668 29) (bI (v 37)) (v8667 38).toInt.toNat = some (d + 1)) ∧ rd false (v 30) (F 24) 0 (v 41).toInt (v 39).toInt ((va_up v8667 39 z8674) 40).toInt z8674.toInt; rw [show (va_up v8667 39 z8674) 40 = v 40 from hf8669 40 (by decide)]; rw [show (va_up v8667 39 z8674) 41 = v 41 from hf8669 41 (by decide)]; exact ⟨by omega, hk, fun hf => (hd (by omega)).trans (congrArg some (by omega)), rd.name (by omega) (by omega) (by omega) (by omega)⟩)⟩, (by show va_P _ _ _ t.heap; rw [ht]; exact hP9)⟩, hS.F ht⟩) hS.2.2 dX12_operand_150
