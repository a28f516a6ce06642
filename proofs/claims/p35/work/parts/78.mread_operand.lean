set_option maxHeartbeats 8000000 in
set_option maxRecDepth 100000 in
theorem c_X12_operand (D : Int) (fr lc : Nat) (rO : RPM yX12_operand (Cond.code yX12_operand cX12_operand 2 none) (D + 1) fr lc) (rE : RPM yX12_either (Cond.code yX12_either cX12_either 2 none) (D + 1) (fr + 3) (lc + 120)) (l : Launch) (dC : Nat → ClassId) (dI : Nat → Nat → Nat) (g : Nat → Nat) (c : Nat → ClassId) (adK adV : Nat → Nat) (v : Nat → Int32) (F : Nat → Nat → Int32) (rc sz : Nat) (d : Nat) (hg : injM g) (hI : IM v F) (hq : (v 38).toInt ≤ (v 39).toInt ∧ (v 39).toInt ≤ (v 30).toInt ∧ (v 40).toInt < 0 ∧ (v 41).toInt = D) (hdp : dp (F 28) (F 29) (bI (v 37)) (v 38).toInt.toNat = some d) : Met l yX12_operand (Cond.code yX12_operand cX12_operand 2 none :: wA) ({ frames := fr + 4, cells := 0, slots := 0, locals := lc + 160 }) (va_Pc [.ref (g 0)] (PM dC dI g c adK adV v F rc sz)) (va_Qv (fun (u : StM) => IM u.1 u.2.1 ∧ u.2.2 = rc ∧ (∀ k, k ∉ ([38, 39, 40, 41, 42] : List Nat) → u.1 k = v k) ∧ (∀ k, k ∉ ([28, 29] : List Nat) → u.2.1 k = F k) ∧ (((v 39).toInt ≤ (u.1 39).toInt ∧ (u.1 39).toInt ≤ (v 30).toInt ∧ (v 38).toInt ≤ (u.1 38).toInt ∧ (u.1 38).toInt - (v 38).toInt ≤ (u.1 39).toInt - (v 39).toInt ∧ (v 41).toInt ≤ (u.1 41).toInt ∧ ((u.1 40).toInt < 0 → (u.1 41).toInt = (v 41).toInt)) ∧ keepL (v 37) (F 28) (F 29) (u.2.1 28) (u.2.1 29) ∧ ((u.1 40).toInt < 0 → dp (u.2.1 28) (u.2.1 29) (bI (v 37)) (u.1 38).toInt.toNat = some (d + 1)))) (BM dC dI g c) (AM g sz)) 0 0 (AM g sz) := by
  refine Met.ofW (cc := cX12_operand) (maxL := 2) (ret := none) (by decide) rfl ?_
  intro p e s m args below meth c0 s₁ B hml hv
  obtain ⟨rfl, hsz, hP, hK, hE⟩ := hv
  have hx := B.exec
  have hb := B.bytes
  have hr := B.returns
  have hts := atoms_spec (ws := Cond.code yX12_operand cX12_operand 2 none :: wA) B.pre
  have hwd : ∀ w ∈ wA, w.before _ s = true := fun w h => hts w (List.mem_cons_of_mem _ h)
  have hown : s.vm.findClass RX12 = some m.cls := findClass_of_methodNamed B.named
  have hlocks := B.notSynchronized
  subst hsz
  have hl := lv_entry ([.ref (g 0)]) (n := 2) (Nat.le_of_ble_eq_true rfl)
  rw [lg_entry_eq]
  generalize (lg_sl ([.ref (g 0)]) ++ List.replicate (2 - (lg_sl ([.ref (g 0)])).length) Slot.unset).toArray = ls at hl ⊢
  have hl : lv_has ls 2 [(0, .ref (g 0))] := hl
  obtain ⟨H, eH⟩ : ∃ z, z = s.heap := ⟨_, rfl⟩
  have hP : va_P (dC, dI) classes (wM g c v F rc) H := by rw [eH]; exact hP
  have hS : va_S (AM g s.heap.size) s.heap H [] := by rw [eH]; exact va_S.rf
  refine my_heap eH ?_
  have hF : ∀ k, k ∉ ([28, 29] : List Nat) → F k = F k := fun _ _ => rfl
  have hb30 : 0 ≤ (v 30).toInt ∧ (v 30).toInt ≤ 120 := hI.1 30 _ _ rfl
  have hb37 : 0 ≤ (v 37).toInt ∧ (v 37).toInt ≤ 9 := hI.1 37 _ _ rfl
  have hb38 : 0 ≤ (v 38).toInt ∧ (v 38).toInt ≤ 120 := hI.1 38 _ _ rfl
  have hb39 : 0 ≤ (v 39).toInt ∧ (v 39).toInt ≤ 120 := hI.1 39 _ _ rfl
  have hb41 : 0 ≤ (v 41).toInt ∧ (v 41).toInt ≤ 8 := hI.1 41 _ _ rfl
  have hk : keepL (v 37) (F 28) (F 29) (F 28) (F 29) := keepL.rf
  have hd : (v 40).toInt < 0 → dp (F 28) (F 29) (bI (v 37)) (v 38).toInt.toNat = some d := fun _ => hdp
  refine lv_aload_n hx hb dX12_operand_0 rfl (lv_at hl 0 rfl) ?_
  have t8406 : 0 ≤ (v 30).toInt ∧ (v 30).toInt ≤ 120 := hI.1 30 _ _ rfl
  have t8407 : 0 ≤ (v 39).toInt ∧ (v 39).toInt ≤ 120 := hI.1 39 _ _ rfl
  refine va_calli (va_runV (As := []) (rest := []) ⟨hx, hb, hml, hown, hwd⟩ (c_X12_look l dC dI g c adK adV v F rc H.size  hg hI ) (cwV 0 hwd (gV wk_1017 wk_1014 wk_1015 wk_1016 wk_5) rfl rfl rfl (by decide +kernel) ⟨(by show 1 + 1 ≤ fr + 4; omega), (by show 8 + (1 + 11) + (40) ≤ lc + 160; omega)⟩) ⟨PM.blind, va_recv hK hP (ci := 12) (q0 := 0) rfl rfl, fun U hU hW => ⟨rfl, PM.at hK hE hP hS hU hW⟩⟩ rfl rfl hl.1 rfl (lv_room (Nat.le_of_ble_eq_true rfl)) dX12_operand_1 ⟨Nat.le_of_ble_eq_true rfl, Nat.le_of_ble_eq_true rfl⟩) hS (fun q _ h => (freeM hS) q h) (freeM hS) (fun r8408 u t H1 locs ht hvm hw hB hz1 hk1 hS => ?_)
  unfold BM at hB
  rw [ht] at hB
  have hP : va_P (dC, dI) classes (wM g c v F rc) H1 := hB
  replace hw : r8408.toInt = lkM (v 39) (v 30) (F 24) ∧ ((v 39).toInt < (v 30).toInt ∨ r8408.toInt = -1) := hw
  have hw_r8408 := hw
  clear hw
  clear hz1
  generalize H1 = H at hP hS ⊢
  refine lv_istore_n (lv' := [(1, .int r8408), (0, .ref (g 0))]) hx hb dX12_operand_4 rfl hl (by decide) rfl (fun ls hl => ?_)
  refine lv_iload_n hx hb dX12_operand_5 rfl (lv_at hl 0 rfl) ?_
  refine va_calli (va_runS (As := [.int r8408]) (rest := []) ⟨hx, hb, hml, hown, hwd⟩ (c_X12_nameOf l dC dI g c adK adV v F rc H.size r8408 hg hI ) (va_cwS 1 hwd (gT wk_1034 wk_1032 wk_1033 wk_5) rfl rfl rfl (by decide +kernel) ⟨(by show 1 + 1 ≤ fr + 4; omega), (by show 8 + (1 + 11) + (40) ≤ lc + 160; omega)⟩) ⟨PM.blind, fun U hU hW => ⟨rfl, PM.at hK hE hP hS hU hW⟩⟩ rfl rfl hl.1 rfl (lv_room (Nat.le_of_ble_eq_true rfl)) dX12_operand_6 ⟨Nat.le_of_ble_eq_true rfl, Nat.le_of_ble_eq_true rfl⟩) hS (fun q _ h => (freeM hS) q h) (freeM hS) (fun r8409 u t H1 locs ht hvm hw hB hz1 hk1 hS => ?_)
  unfold BM at hB
  rw [ht] at hB
  have hP : va_P (dC, dI) classes (wM g c v F rc) H1 := hB
  have hw_r8409 : r8409.toInt = nmM r8408 ∧ (-1 ≤ r8409.toInt ∧ r8409.toInt ≤ 5) := hw
  clear hw
  clear hz1
  generalize H1 = H at hP hS ⊢
  have np_r8409 := nmM_pos r8408
  refine lv_if_lt (tgt := 34) hx hb dX12_operand_9 (by decide) (fun c8410 => ?_) (fun c8410 => ?_)
  · skip
    have t8411 := cv_lt (a := r8409.toInt) rfl (b := 0) (by decide) c8410
    refine lv_iload_n hx hb dX12_operand_34 rfl (lv_at hl 0 rfl) ?_
    refine lv_bipush (v := 45) hx hb dX12_operand_35 (by decide) ?_
    refine lv_icmp_ne (tgt := 71) hx hb dX12_operand_37 (by decide) (fun c8412 => ?_) (fun c8412 => ?_)
    · skip
      have t8413 := cv_ne (a := r8408.toInt) rfl (b := 45) (by decide) c8412
      refine lv_iload_n hx hb dX12_operand_71 rfl (lv_at hl 0 rfl) ?_
      refine lv_bipush (v := 40) hx hb dX12_operand_72 (by decide) ?_
      refine lv_icmp_ne (tgt := 134) hx hb dX12_operand_74 (by decide) (fun c8414 => ?_) (fun c8414 => ?_)
      · skip
        have t8415 := cv_ne (a := r8408.toInt) rfl (b := 40) (by decide) c8414
        refine lv_aload_n hx hb dX12_operand_134 rfl (lv_at hl 1 rfl) ?_
        have t8416 : 0 ≤ (v 30).toInt ∧ (v 30).toInt ≤ 120 := hI.1 30 _ _ rfl
        have t8417 : 0 ≤ (v 39).toInt ∧ (v 39).toInt ≤ 120 := hI.1 39 _ _ rfl
        refine va_calli (va_runV (As := []) (rest := []) ⟨hx, hb, hml, hown, hwd⟩ (c_X12_digits l dC dI g c adK adV v F rc H.size  hg hI (by have h9 : v 39 = v 39 := rfl; (try rw [h9]); clear h9; have h9 : v 30 = v 30 := rfl; (try rw [h9]); clear h9; omega)) (cwV 0 hwd (gV wk_1041 wk_1038 wk_1039 wk_1040 wk_5) rfl rfl rfl (by decide +kernel) ⟨(by show 2 + 1 ≤ fr + 4; omega), (by show 8 + (2 + 11) + (80) ≤ lc + 160; omega)⟩) ⟨PM.blind, va_recv hK hP (ci := 12) (q0 := 0) rfl rfl, fun U hU hW => ⟨rfl, PM.at hK hE hP hS hU hW⟩⟩ rfl rfl hl.1 rfl (lv_room (Nat.le_of_ble_eq_true rfl)) dX12_operand_135 ⟨Nat.le_of_ble_eq_true rfl, Nat.le_of_ble_eq_true rfl⟩) hS (fun q _ h => (freeM hS) q h) (freeM hS) (fun r8418 u t H1 locs ht hvm hw hB hz1 hk1 hS => ?_)
        unfold BM at hB
        rw [ht] at hB
        obtain ⟨v8419, F8420, rc9⟩ := u
        obtain ⟨hI, hrc, hf8421, hG8422, hw⟩ := hw
        dsimp only at hI hrc hB hf8421 hG8422 hw
        have hF := frCF (by decide) hG8422 hF
        rw [hrc] at hB
        have hP : va_P (dC, dI) classes (wM g c v8419 F8420 rc) H1 := hB
        replace hw : (r8418.toInt = 1 ∧ (v 39).toInt < (v8419 39).toInt ∧ (v8419 39).toInt ≤ (v 30).toInt ∧ (v8419 40).toInt = (v 40).toInt) ∨ (r8418.toInt = 0 ∧ 0 ≤ (v8419 40).toInt ∧ (v 39).toInt ≤ (v8419 39).toInt ∧ (v8419 39).toInt ≤ (v 30).toInt) := hw
        have hw_r8418 := hw
        clear hw
        have t8423 : 0 ≤ (v8419 39).toInt ∧ (v8419 39).toInt ≤ 120 := hI.1 39 _ _ rfl
        clear hz1
        generalize H1 = H at hP hS ⊢
        replace hk : keepL (v 37) (F 28) (F 29) (F8420 28) (F8420 29) := by rw [hG8422 28 (by decide), hG8422 29 (by decide)]; exact hk
        replace hd : (v8419 40).toInt < 0 → dp (F8420 28) (F8420 29) (bI (v 37)) (v 38).toInt.toNat = some d := fun hf => (by rw [hG8422 28 (by decide), hG8422 29 (by decide)]; exact hd (by omega))
        refine lv_if_eq (tgt := 150) hx hb dX12_operand_138 (by decide) (fun c8424 => ?_) (fun c8424 => ?_)
        · skip
          have t8425 := cv_eq (a := r8418.toInt) rfl (b := 0) (by decide) c8424
          have hP9 : va_P (dC, dI) classes (wM g c v8419 F8420 rc) H := hP
          exact W.vret hx hb hr (fun t ht hW => ⟨⟨(v8419, F8420, rc), rfl, ⟨hI, rfl, (frC (by decide) hf8421 (fun _ _ => rfl)), hF, (by show ((v 39).toInt ≤ (v8419 39).toInt ∧ (v8419 39).toInt ≤ (v 30).toInt ∧ (v 38).toInt ≤ (v8419 38).toInt ∧ (v8419 38).toInt - (v 38).toInt ≤ (v8419 39).toInt - (v 39).toInt ∧ (v 41).toInt ≤ (v8419 41).toInt ∧ ((v8419 40).toInt < 0 → (v8419 41).toInt = (v 41).toInt)) ∧ keepL (v 37) (F 28) (F 29) (F8420 28) (F8420 29) ∧ ((v8419 40).toInt < 0 → dp (F8420 28) (F8420 29) (bI (v 37)) (v8419 38).toInt.toNat = some (d + 1)); rw [show v8419 38 = v 38 from hf8421 38 (by decide)]; rw [show v8419 41 = v 41 from hf8421 41 (by decide)]; exact ⟨by omega, hk, fun hf => (hd (by omega)).trans (congrArg some (by omega))⟩)⟩, (by show va_P _ _ _ t.heap; rw [ht]; exact hP9)⟩, hS.F ht⟩) hS.2.2 dX12_operand_150
        · skip
          have t8426 := cv_ne (a := r8418.toInt) rfl (b := 0) (by decide) c8424
          refine lv_aload_n hx hb dX12_operand_141 rfl (lv_at hl 1 rfl) ?_
          refine lv_iconst (v := 1) hx hb dX12_operand_142 (by decide) ?_
          refine lv_aload_n hx hb dX12_operand_143 rfl (lv_at hl 1 rfl) ?_
          refine va_get (D := (dC, dI)) (ci := 12) (v := .int (v8419 42)) (C := RX12) (T := TX12) (N := 63) hx hb hwd inA_X12 hown hK hP 0 rfl rfl 42 (by decide) (hwd _ wk_1031) (fun _ h9 => h9) rfl dX12_operand_144 ?_
          have t8427 : 0 ≤ (v 37).toInt ∧ (v 37).toInt ≤ 9 := by have h9 := hI.1 37 _ _ rfl; rw [show v8419 37 = v 37 from hf8421 37 (by decide)] at h9; exact h9
          have t8428 : 0 ≤ (v 38).toInt ∧ (v 38).toInt ≤ 120 := by have h9 := hI.1 38 _ _ rfl; rw [show v8419 38 = v 38 from hf8421 38 (by decide)] at h9; exact h9
          refine va_callv (va_runV (As := [.int 1, .int (v8419 42)]) (rest := []) ⟨hx, hb, hml, hown, hwd⟩ (c_X12_lay l dC dI g c adK adV v8419 F8420 rc H.size 1 (v8419 42) hg hI (by have h9 : v8419 38 = v 38 := hf8421 38 (by decide); rw [h9]; omega)) (cwV 2 hwd (gV wk_1021 wk_1018 wk_1019 wk_1020 wk_5) rfl rfl rfl (by decide +kernel) ⟨(by show 1 + 1 ≤ fr + 4; omega), (by show 8 + (3 + 11) + (40) ≤ lc + 160; omega)⟩) ⟨PM.blind, va_recv hK hP (ci := 12) (q0 := 0) rfl rfl, fun U hU hW => ⟨rfl, PM.at hK hE hP hS hU hW⟩⟩ rfl rfl hl.1 rfl (lv_room (Nat.le_of_ble_eq_true rfl)) dX12_operand_147 ⟨Nat.le_of_ble_eq_true rfl, Nat.le_of_ble_eq_true rfl⟩) hS (fun q _ h => (freeM hS) q h) (freeM hS) (fun u t H1 locs ht hvm hw hB hz1 hk1 hS => ?_)
          unfold BM at hB
          rw [ht] at hB
          obtain ⟨v8430, F8431, rc9⟩ := u
          obtain ⟨hI, hrc, hf8432, hG8433, hw⟩ := hw
          dsimp only at hI hrc hB hf8432 hG8433 hw
          have hF := frCF (by decide) hG8433 hF
          rw [hrc] at hB
          have hP : va_P (dC, dI) classes (wM g c v8430 F8431 rc) H1 := hB
          replace hw : (v8430 38).toInt = (v8419 38).toInt + 1 ∧ keepL (v8419 37) (F8420 28) (F8420 29) (F8431 28) (F8431 29) ∧ dp (F8431 28) (F8431 29) (bI (v8419 37)) ((v8419 38).toInt.toNat + 1) = dpS (dp (F8420 28) (F8420 29) (bI (v8419 37)) (v8419 38).toInt.toNat) (1 : Int32) (v8419 42) := hw
          rw [show v8419 38 = v 38 from hf8421 38 (by decide)] at hw
          rw [show v8419 37 = v 37 from hf8421 37 (by decide)] at hw
          have hw_r8429 := hw
          clear hw
          have t8434 : 0 ≤ (v8430 38).toInt ∧ (v8430 38).toInt ≤ 120 := hI.1 38 _ _ rfl
          have k8435 : (1 : Int32).toInt = 1 := by decide
          clear hz1
          generalize H1 = H at hP hS ⊢
          replace hk := hk.tr hw_r8429.2.1
          replace hd : (v8419 40).toInt < 0 → dp (F8431 28) (F8431 29) (bI (v 37)) (v8430 38).toInt.toNat = some (d + 1) := fun hf => (by have e9 : (v8430 38).toInt.toNat = (v 38).toInt.toNat + 1 := (by omega); rw [e9, hw_r8429.2.2, hd hf]; exact dpS_1 (by decide))
          replace hw_r8429 := hw_r8429.1
          have hP9 : va_P (dC, dI) classes (wM g c v8430 F8431 rc) H := hP
          exact W.vret hx hb hr (fun t ht hW => ⟨⟨(v8430, F8431, rc), rfl, ⟨hI, rfl, (frC (by decide) hf8432 (frC (by decide) hf8421 (fun _ _ => rfl))), hF, (by show ((v 39).toInt ≤ (v8430 39).toInt ∧ (v8430 39).toInt ≤ (v 30).toInt ∧ (v 38).toInt ≤ (v8430 38).toInt ∧ (v8430 38).toInt - (v 38).toInt ≤ (v8430 39).toInt - (v 39).toInt ∧ (v 41).toInt ≤ (v8430 41).toInt ∧ ((v8430 40).toInt < 0 → (v8430 41).toInt = (v 41).toInt)) ∧ keepL (v 37) (F 28) (F 29) (F8431 28) (F8431 29) ∧ ((v8430 40).toInt < 0 → dp (F8431 28) (F8431 29) (bI (v 37)) (v8430 38).toInt.toNat = some (d + 1)); rw [show v8430 39 = v8419 39 from hf8432 39 (by decide)]; rw [show v8430 41 = v 41 from (hf8432 41 (by decide)).trans (hf8421 41 (by decide))]; rw [show v8430 40 = v8419 40 from hf8432 40 (by decide)]; exact ⟨by omega, hk, fun hf => (hd (by omega)).trans (congrArg some (by omega))⟩)⟩, (by show va_P _ _ _ t.heap; rw [ht]; exact hP9)⟩, hS.F ht⟩) hS.2.2 dX12_operand_150
      · skip
        have t8436 := cv_eq (a := r8408.toInt) rfl (b := 40) (by decide) c8414
        refine lv_aload_n hx hb dX12_operand_77 rfl (lv_at hl 1 rfl) ?_
        have t8437 : 0 ≤ (v 39).toInt ∧ (v 39).toInt ≤ 120 := hI.1 39 _ _ rfl
        have t8438 : 0 ≤ (v 41).toInt ∧ (v 41).toInt ≤ 8 := hI.1 41 _ _ rfl
        refine va_calli (va_runV (As := []) (rest := []) ⟨hx, hb, hml, hown, hwd⟩ (c_X12_opens l dC dI g c adK adV v F rc H.size  hg hI (by have h9 : v 39 = v 39 := rfl; (try rw [h9]); clear h9; have h9 : v 30 = v 30 := rfl; (try rw [h9]); clear h9; omega)) (cwV 0 hwd (gV wk_1025 wk_1022 wk_1023 wk_1024 wk_5) rfl rfl rfl (by decide +kernel) ⟨(by show 2 + 1 ≤ fr + 4; omega), (by show 8 + (1 + 11) + (80) ≤ lc + 160; omega)⟩) ⟨PM.blind, va_recv hK hP (ci := 12) (q0 := 0) rfl rfl, fun U hU hW => ⟨rfl, PM.at hK hE hP hS hU hW⟩⟩ rfl rfl hl.1 rfl (lv_room (Nat.le_of_ble_eq_true rfl)) dX12_operand_78 ⟨Nat.le_of_ble_eq_true rfl, Nat.le_of_ble_eq_true rfl⟩) hS (fun q _ h => (freeM hS) q h) (freeM hS) (fun r8439 u t H1 locs ht hvm hw hB hz1 hk1 hS => ?_)
        unfold BM at hB
        rw [ht] at hB
        obtain ⟨v8440, F8441, rc9⟩ := u
        obtain ⟨hI, hrc, hf8442, hG8443, hw⟩ := hw
        dsimp only at hI hrc hB hf8442 hG8443 hw
        have hF := frCF (by decide) hG8443 hF
        rw [hrc] at hB
        have hP : va_P (dC, dI) classes (wM g c v8440 F8441 rc) H1 := hB
        replace hw : (r8439.toInt = 1 ∧ (v 41).toInt < 8 ∧ (v8440 41).toInt = (v 41).toInt + 1 ∧ (v8440 39).toInt = (v 39).toInt + 1 ∧ (v8440 40).toInt = (v 40).toInt) ∨ (r8439.toInt = 0 ∧ (v 41).toInt = 8 ∧ 0 ≤ (v8440 40).toInt ∧ (v8440 41).toInt = (v 41).toInt ∧ (v8440 39).toInt = (v 39).toInt) := hw
        have hw_r8439 := hw
        clear hw
        have t8444 : 0 ≤ (v8440 39).toInt ∧ (v8440 39).toInt ≤ 120 := hI.1 39 _ _ rfl
        have t8445 : 0 ≤ (v8440 41).toInt ∧ (v8440 41).toInt ≤ 8 := hI.1 41 _ _ rfl
        clear hz1
        generalize H1 = H at hP hS ⊢
        replace hk : keepL (v 37) (F 28) (F 29) (F8441 28) (F8441 29) := by rw [hG8443 28 (by decide), hG8443 29 (by decide)]; exact hk
        replace hd : (v8440 40).toInt < 0 → dp (F8441 28) (F8441 29) (bI (v 37)) (v 38).toInt.toNat = some d := fun hf => (by rw [hG8443 28 (by decide), hG8443 29 (by decide)]; exact hd (by omega))
        refine lv_if_ne (tgt := 85) hx hb dX12_operand_81 (by decide) (fun c8446 => ?_) (fun c8446 => ?_)
        · skip
          have t8447 := cv_ne (a := r8439.toInt) rfl (b := 0) (by decide) c8446
          refine lv_aload_n hx hb dX12_operand_85 rfl (lv_at hl 1 rfl) ?_
          have t8448 : 0 ≤ (v 30).toInt ∧ (v 30).toInt ≤ 120 := by have h9 := hI.1 30 _ _ rfl; rw [show v8440 30 = v 30 from hf8442 30 (by decide)] at h9; exact h9
          have t8449 : 0 ≤ (v 37).toInt ∧ (v 37).toInt ≤ 9 := by have h9 := hI.1 37 _ _ rfl; rw [show v8440 37 = v 37 from hf8442 37 (by decide)] at h9; exact h9
          have t8450 : 0 ≤ (v 38).toInt ∧ (v 38).toInt ≤ 120 := by have h9 := hI.1 38 _ _ rfl; rw [show v8440 38 = v 38 from hf8442 38 (by decide)] at h9; exact h9
          have t8451 : 0 ≤ (v8440 39).toInt ∧ (v8440 39).toInt ≤ 120 := hI.1 39 _ _ rfl
          have t8452 : 0 ≤ (v8440 41).toInt ∧ (v8440 41).toInt ≤ 8 := hI.1 41 _ _ rfl
          refine va_callv (va_runV (As := []) (rest := []) ⟨hx, hb, hml, hown, hwd⟩ (rE l dC dI g c adK adV v8440 F8441 rc H.size  d hg hI (by have h9 : v8440 38 = v 38 := hf8442 38 (by decide); (try rw [h9]); clear h9; have h9 : v8440 39 = v8440 39 := rfl; (try rw [h9]); clear h9; have h9 : v8440 30 = v 30 := hf8442 30 (by decide); (try rw [h9]); clear h9; have h9 : v8440 40 = v8440 40 := rfl; (try rw [h9]); clear h9; have h9 : v8440 41 = v8440 41 := rfl; (try rw [h9]); clear h9; omega) (by have h9 : v8440 37 = (v 37) := hf8442 37 (by decide); have h8 : v8440 38 = (v 38) := hf8442 38 (by decide); (try rw [h9]); (try rw [h8]); exact hd (by omega))) (cwV 0 hwd (gV wk_1010 wk_1007 wk_1008 wk_1009 wk_5) rfl rfl rfl (by decide +kernel) ⟨(by show fr + 3 + 1 ≤ fr + 4; omega), (by show 8 + (2 + 11) + (lc + 120) ≤ lc + 160; omega)⟩) ⟨PM.blind, va_recv hK hP (ci := 12) (q0 := 0) rfl rfl, fun U hU hW => ⟨rfl, PM.at hK hE hP hS hU hW⟩⟩ rfl rfl hl.1 rfl (lv_room (Nat.le_of_ble_eq_true rfl)) dX12_operand_86 ⟨Nat.le_of_ble_eq_true rfl, Nat.le_of_ble_eq_true rfl⟩) hS (fun q _ h => (freeM hS) q h) (freeM hS) (fun u t H1 locs ht hvm hw hB hz1 hk1 hS => ?_)
          unfold BM at hB
          rw [ht] at hB
          obtain ⟨v8454, F8455, rc9⟩ := u
          obtain ⟨hI, hrc, hf8456, hG8457, hw⟩ := hw
          dsimp only at hI hrc hB hf8456 hG8457 hw
          have hF := frCF (by decide) hG8457 hF
          rw [hrc] at hB
          have hP : va_P (dC, dI) classes (wM g c v8454 F8455 rc) H1 := hB
          replace hw : ((v8440 39).toInt ≤ (v8454 39).toInt ∧ (v8454 39).toInt ≤ (v8440 30).toInt ∧ (v8440 38).toInt ≤ (v8454 38).toInt ∧ (v8454 38).toInt - (v8440 38).toInt ≤ (v8454 39).toInt - (v8440 39).toInt ∧ (v8440 41).toInt ≤ (v8454 41).toInt ∧ ((v8454 40).toInt < 0 → (v8454 41).toInt = (v8440 41).toInt)) ∧ keepL (v8440 37) (F8441 28) (F8441 29) (F8455 28) (F8455 29) ∧ ((v8454 40).toInt < 0 → dp (F8455 28) (F8455 29) (bI (v8440 37)) (v8454 38).toInt.toNat = some (d + 1)) := hw
          rw [show v8440 30 = v 30 from hf8442 30 (by decide)] at hw
          rw [show v8440 38 = v 38 from hf8442 38 (by decide)] at hw
          rw [show v8440 37 = v 37 from hf8442 37 (by decide)] at hw
          have hw_r8453 := hw
          clear hw
          have t8458 : 0 ≤ (v8454 38).toInt ∧ (v8454 38).toInt ≤ 120 := hI.1 38 _ _ rfl
          have t8459 : 0 ≤ (v8454 39).toInt ∧ (v8454 39).toInt ≤ 120 := hI.1 39 _ _ rfl
          have t8460 : 0 ≤ (v8454 41).toInt ∧ (v8454 41).toInt ≤ 8 := hI.1 41 _ _ rfl
          clear hz1
          generalize H1 = H at hP hS ⊢
          replace hk := hk.tr hw_r8453.2.1
          replace hd := hw_r8453.2.2
          replace hw_r8453 := hw_r8453.1
          refine lv_aload_n hx hb dX12_operand_89 rfl (lv_at hl 1 rfl) ?_
          refine va_get (D := (dC, dI)) (ci := 12) (v := .int (v8454 40)) (C := RX12) (T := TX12) (N := 63) hx hb hwd inA_X12 hown hK hP 0 rfl rfl 40 (by decide) (hwd _ wk_1005) (fun _ h9 => h9) rfl dX12_operand_90 ?_
          refine lv_if_lt (tgt := 97) hx hb dX12_operand_93 (by decide) (fun c8461 => ?_) (fun c8461 => ?_)
          · skip
            have t8462 := cv_lt (a := (v8454 40).toInt) rfl (b := 0) (by decide) c8461
            refine lv_aload_n hx hb dX12_operand_97 rfl (lv_at hl 1 rfl) ?_
            have t8463 : 0 ≤ (v 30).toInt ∧ (v 30).toInt ≤ 120 := by have h9 := hI.1 30 _ _ rfl; rw [show v8454 30 = v 30 from (hf8456 30 (by decide)).trans (hf8442 30 (by decide))] at h9; exact h9
            have t8464 : 0 ≤ (v8454 39).toInt ∧ (v8454 39).toInt ≤ 120 := hI.1 39 _ _ rfl
            refine va_calli (va_runV (As := []) (rest := []) ⟨hx, hb, hml, hown, hwd⟩ (c_X12_look l dC dI g c adK adV v8454 F8455 rc H.size  hg hI ) (cwV 0 hwd (gV wk_1017 wk_1014 wk_1015 wk_1016 wk_5) rfl rfl rfl (by decide +kernel) ⟨(by show 1 + 1 ≤ fr + 4; omega), (by show 8 + (1 + 11) + (40) ≤ lc + 160; omega)⟩) ⟨PM.blind, va_recv hK hP (ci := 12) (q0 := 0) rfl rfl, fun U hU hW => ⟨rfl, PM.at hK hE hP hS hU hW⟩⟩ rfl rfl hl.1 rfl (lv_room (Nat.le_of_ble_eq_true rfl)) dX12_operand_98 ⟨Nat.le_of_ble_eq_true rfl, Nat.le_of_ble_eq_true rfl⟩) hS (fun q _ h => (freeM hS) q h) (freeM hS) (fun r8465 u t H1 locs ht hvm hw hB hz1 hk1 hS => ?_)
            unfold BM at hB
            rw [ht] at hB
            have hP : va_P (dC, dI) classes (wM g c v8454 F8455 rc) H1 := hB
            replace hw : r8465.toInt = lkM (v8454 39) (v8454 30) (F8455 24) ∧ ((v8454 39).toInt < (v8454 30).toInt ∨ r8465.toInt = -1) := hw
            rw [show v8454 30 = v 30 from (hf8456 30 (by decide)).trans (hf8442 30 (by decide))] at hw
            rw [hF 24 (by decide)] at hw
            have hw_r8465 := hw
            clear hw
            clear hz1
            generalize H1 = H at hP hS ⊢
            refine lv_bipush (v := 41) hx hb dX12_operand_101 (by decide) ?_
            refine lv_icmp_eq (tgt := 111) hx hb dX12_operand_103 (by decide) (fun c8466 => ?_) (fun c8466 => ?_)
            · skip
              have t8467 := cv_eq (a := r8465.toInt) rfl (b := 41) (by decide) c8466
              refine lv_aload_n hx hb dX12_operand_111 rfl (lv_at hl 1 rfl) ?_
              refine lv_dup hx hb dX12_operand_112 rfl ?_
              refine va_get (D := (dC, dI)) (ci := 12) (v := .int (v8454 39)) (C := RX12) (T := TX12) (N := 63) hx hb hwd inA_X12 hown hK hP 0 rfl rfl 39 (by decide) (hwd _ wk_1004) (fun _ h9 => h9) rfl dX12_operand_113 ?_
              have t8468 : 0 ≤ (v8454 39).toInt ∧ (v8454 39).toInt ≤ 120 := hI.1 39 _ _ rfl
              refine lv_iconst (v := 1) hx hb dX12_operand_116 (by decide) ?_
              refine lv_iadd hx hb dX12_operand_117 ?_
              refine lv_topi (fun z8469 e8470 => ?_)
              try (have t8471 := tadd e8470 (a := (v8454 39).toInt) rfl (b := 1) (by decide) (by omega))
              refine va_put (D := (dC, dI)) (ci := 12) (v := .int z8469) (ty := .int) (C := RX12) (T := TX12) (N := 63) (fs := fsM_0 g v8454 rc) hx hb hwd inA_X12 tyX12 tyX12_ok nmX12 hown hK hP (DM hg) hS 0 rfl rfl 39 (by decide) (hwd _ wk_1004) (fun _ h9 => h9) rfl (by decide +kernel) rfl rfl (Nat.le_of_ble_eq_true rfl) dX12_operand_118 (fun H locs hP _ hS => ?_)
              have hP := va_P_eq (pM_39 g c _ _ _ _) hP
              have hI := IM.put hI 39 z8469 rfl (by omega)
              refine lv_aload_n hx hb dX12_operand_121 rfl (lv_at hl 1 rfl) ?_
              refine lv_dup hx hb dX12_operand_122 rfl ?_
              refine va_get (D := (dC, dI)) (ci := 12) (v := .int (v8454 41)) (C := RX12) (T := TX12) (N := 63) hx hb hwd inA_X12 hown hK hP 0 rfl rfl 41 (by decide) (hwd _ wk_1006) (fun _ h9 => h9) rfl dX12_operand_123 ?_
              have t8472 : 0 ≤ (v8454 41).toInt ∧ (v8454 41).toInt ≤ 8 := hI.1 41 _ _ rfl
              refine lv_iconst (v := 1) hx hb dX12_operand_126 (by decide) ?_
              refine lv_isub hx hb dX12_operand_127 ?_
              refine lv_topi (fun z8473 e8474 => ?_)
              try (have t8475 := tsub e8474 (a := (v8454 41).toInt) rfl (b := 1) (by decide) (by omega))
              refine va_put (D := (dC, dI)) (ci := 12) (v := .int z8473) (ty := .int) (C := RX12) (T := TX12) (N := 63) (fs := fsM_0 g (va_up v8454 39 z8469) rc) hx hb hwd inA_X12 tyX12 tyX12_ok nmX12 hown hK hP (DM hg) hS 0 rfl rfl 41 (by decide) (hwd _ wk_1006) (fun _ h9 => h9) rfl (by decide +kernel) rfl rfl (Nat.le_of_ble_eq_true rfl) dX12_operand_128 (fun H locs hP _ hS => ?_)
              have hP := va_P_eq (pM_41 g c _ _ _ _) hP
              have hI := IM.put hI 41 z8473 rfl (by omega)
              refine lv_goto (tgt := 150) hx hb dX12_operand_131 (by decide) ?_
              have hP9 : va_P (dC, dI) classes (wM g c (va_up (va_up v8454 39 z8469) 41 z8473) F8455 rc) H := hP
              exact W.vret hx hb hr (fun t ht hW => ⟨⟨((va_up (va_up v8454 39 z8469) 41 z8473), F8455, rc), rfl, ⟨hI, rfl, (frU (by decide) (frU (by decide) (frC (by decide) hf8456 (frC (by decide) hf8442 (fun _ _ => rfl))))), hF, (by show ((v 39).toInt ≤ z8469.toInt ∧ z8469.toInt ≤ (v 30).toInt ∧ (v 38).toInt ≤ (v8454 38).toInt ∧ (v8454 38).toInt - (v 38).toInt ≤ z8469.toInt - (v 39).toInt ∧ (v 41).toInt ≤ z8473.toInt ∧ ((v8454 40).toInt < 0 → z8473.toInt = (v 41).toInt)) ∧ keepL (v 37) (F 28) (F 29) (F8455 28) (F8455 29) ∧ ((v8454 40).toInt < 0 → dp (F8455 28) (F8455 29) (bI (v 37)) (v8454 38).toInt.toNat = some (d + 1)); exact ⟨by omega, hk, fun hf => (hd (by omega)).trans (congrArg some (by omega))⟩)⟩, (by show va_P _ _ _ t.heap; rw [ht]; exact hP9)⟩, hS.F ht⟩) hS.2.2 dX12_operand_150
            · skip
              have t8476 := cv_ne (a := r8465.toInt) rfl (b := 41) (by decide) c8466
              refine lv_aload_n hx hb dX12_operand_106 rfl (lv_at hl 1 rfl) ?_
              refine va_callv (va_runV (As := []) (rest := []) ⟨hx, hb, hml, hown, hwd⟩ (c_X12_wrong l dC dI g c adK adV v8454 F8455 rc H.size  hg hI ) (cwV 0 hwd (gV wk_1029 wk_1026 wk_1027 wk_1028 wk_5) rfl rfl rfl (by decide +kernel) ⟨(by show 1 + 1 ≤ fr + 4; omega), (by show 8 + (1 + 11) + (40) ≤ lc + 160; omega)⟩) ⟨PM.blind, va_recv hK hP (ci := 12) (q0 := 0) rfl rfl, fun U hU hW => ⟨rfl, PM.at hK hE hP hS hU hW⟩⟩ rfl rfl hl.1 rfl (lv_room (Nat.le_of_ble_eq_true rfl)) dX12_operand_107 ⟨Nat.le_of_ble_eq_true rfl, Nat.le_of_ble_eq_true rfl⟩) hS (fun q _ h => (freeM hS) q h) (freeM hS) (fun u t H1 locs ht hvm hw hB hz1 hk1 hS => ?_)
              unfold BM at hB
              rw [ht] at hB
              obtain ⟨v8478, F8479, rc9⟩ := u
              obtain ⟨hI, hrc, hf8480, hG8481, hw⟩ := hw
              dsimp only at hI hrc hB hf8480 hG8481 hw
              have hF := frCF (by decide) hG8481 hF
              rw [hrc] at hB
              have hP : va_P (dC, dI) classes (wM g c v8478 F8479 rc) H1 := hB
              replace hw : 0 ≤ (v8478 40).toInt := hw
              have hw_r8477 := hw
              clear hw
              clear hz1
              generalize H1 = H at hP hS ⊢
              replace hk : keepL (v 37) (F 28) (F 29) (F8479 28) (F8479 29) := by rw [hG8481 28 (by decide), hG8481 29 (by decide)]; exact hk
              replace hd : (v8478 40).toInt < 0 → dp (F8479 28) (F8479 29) (bI (v 37)) (v8454 38).toInt.toNat = some (d + 1) := fun hf => (by rw [hG8481 28 (by decide), hG8481 29 (by decide)]; exact hd (by omega))
              have hP9 : va_P (dC, dI) classes (wM g c v8478 F8479 rc) H := hP
              exact W.vret hx hb hr (fun t ht hW => ⟨⟨(v8478, F8479, rc), rfl, ⟨hI, rfl, (frC (by decide) hf8480 (frC (by decide) hf8456 (frC (by decide) hf8442 (fun _ _ => rfl)))), hF, (by show ((v 39).toInt ≤ (v8478 39).toInt ∧ (v8478 39).toInt ≤ (v 30).toInt ∧ (v 38).toInt ≤ (v8478 38).toInt ∧ (v8478 38).toInt - (v 38).toInt ≤ (v8478 39).toInt - (v 39).toInt ∧ (v 41).toInt ≤ (v8478 41).toInt ∧ ((v8478 40).toInt < 0 → (v8478 41).toInt = (v 41).toInt)) ∧ keepL (v 37) (F 28) (F 29) (F8479 28) (F8479 29) ∧ ((v8478 40).toInt < 0 → dp (F8479 28) (F8479 29) (bI (v 37)) (v8478 38).toInt.toNat = some (d + 1)); rw [show v8478 39 = v8454 39 from hf8480 39 (by decide)]; rw [show v8478 38 = v8454 38 from hf8480 38 (by decide)]; rw [show v8478 41 = v8454 41 from hf8480 41 (by decide)]; exact ⟨by omega, hk, fun hf => (hd (by omega)).trans (congrArg some (by omega))⟩)⟩, (by show va_P _ _ _ t.heap; rw [ht]; exact hP9)⟩, hS.F ht⟩) hS.2.2 dX12_operand_110
          · skip
            have t8482 := cv_nlt (a := (v8454 40).toInt) rfl (b := 0) (by decide) c8461
            have hP9 : va_P (dC, dI) classes (wM g c v8454 F8455 rc) H := hP
            exact W.vret hx hb hr (fun t ht hW => ⟨⟨(v8454, F8455, rc), rfl, ⟨hI, rfl, (frC (by decide) hf8456 (frC (by decide) hf8442 (fun _ _ => rfl))), hF, (by show ((v 39).toInt ≤ (v8454 39).toInt ∧ (v8454 39).toInt ≤ (v 30).toInt ∧ (v 38).toInt ≤ (v8454 38).toInt ∧ (v8454 38).toInt - (v 38).toInt ≤ (v8454 39).toInt - (v 39).toInt ∧ (v 41).toInt ≤ (v8454 41).toInt ∧ ((v8454 40).toInt < 0 → (v8454 41).toInt = (v 41).toInt)) ∧ keepL (v 37) (F 28) (F 29) (F8455 28) (F8455 29) ∧ ((v8454 40).toInt < 0 → dp (F8455 28) (F8455 29) (bI (v 37)) (v8454 38).toInt.toNat = some (d + 1)); exact ⟨by omega, hk, fun hf => (hd (by omega)).trans (congrArg some (by omega))⟩)⟩, (by show va_P _ _ _ t.heap; rw [ht]; exact hP9)⟩, hS.F ht⟩) hS.2.2 dX12_operand_96
        · skip
          have t8483 := cv_eq (a := r8439.toInt) rfl (b := 0) (by decide) c8446
          have hP9 : va_P (dC, dI) classes (wM g c v8440 F8441 rc) H := hP
          exact W.vret hx hb hr (fun t ht hW => ⟨⟨(v8440, F8441, rc), rfl, ⟨hI, rfl, (frC (by decide) hf8442 (fun _ _ => rfl)), hF, (by show ((v 39).toInt ≤ (v8440 39).toInt ∧ (v8440 39).toInt ≤ (v 30).toInt ∧ (v 38).toInt ≤ (v8440 38).toInt ∧ (v8440 38).toInt - (v 38).toInt ≤ (v8440 39).toInt - (v 39).toInt ∧ (v 41).toInt ≤ (v8440 41).toInt ∧ ((v8440 40).toInt < 0 → (v8440 41).toInt = (v 41).toInt)) ∧ keepL (v 37) (F 28) (F 29) (F8441 28) (F8441 29) ∧ ((v8440 40).toInt < 0 → dp (F8441 28) (F8441 29) (bI (v 37)) (v8440 38).toInt.toNat = some (d + 1)); rw [show v8440 38 = v 38 from hf8442 38 (by decide)]; exact ⟨by omega, hk, fun hf => (hd (by omega)).trans (congrArg some (by omega))⟩)⟩, (by show va_P _ _ _ t.heap; rw [ht]; exact hP9)⟩, hS.F ht⟩) hS.2.2 dX12_operand_84
    · skip
      have t8484 := cv_eq (a := r8408.toInt) rfl (b := 45) (by decide) c8412
      refine lv_aload_n hx hb dX12_operand_40 rfl (lv_at hl 1 rfl) ?_
      have t8485 : 0 ≤ (v 39).toInt ∧ (v 39).toInt ≤ 120 := hI.1 39 _ _ rfl
      have t8486 : 0 ≤ (v 41).toInt ∧ (v 41).toInt ≤ 8 := hI.1 41 _ _ rfl
      refine va_calli (va_runV (As := []) (rest := []) ⟨hx, hb, hml, hown, hwd⟩ (c_X12_opens l dC dI g c adK adV v F rc H.size  hg hI (by have h9 : v 39 = v 39 := rfl; (try rw [h9]); clear h9; have h9 : v 30 = v 30 := rfl; (try rw [h9]); clear h9; omega)) (cwV 0 hwd (gV wk_1025 wk_1022 wk_1023 wk_1024 wk_5) rfl rfl rfl (by decide +kernel) ⟨(by show 2 + 1 ≤ fr + 4; omega), (by show 8 + (1 + 11) + (80) ≤ lc + 160; omega)⟩) ⟨PM.blind, va_recv hK hP (ci := 12) (q0 := 0) rfl rfl, fun U hU hW => ⟨rfl, PM.at hK hE hP hS hU hW⟩⟩ rfl rfl hl.1 rfl (lv_room (Nat.le_of_ble_eq_true rfl)) dX12_operand_41 ⟨Nat.le_of_ble_eq_true rfl, Nat.le_of_ble_eq_true rfl⟩) hS (fun q _ h => (freeM hS) q h) (freeM hS) (fun r8487 u t H1 locs ht hvm hw hB hz1 hk1 hS => ?_)
      unfold BM at hB
      rw [ht] at hB
      obtain ⟨v8488, F8489, rc9⟩ := u
      obtain ⟨hI, hrc, hf8490, hG8491, hw⟩ := hw
      dsimp only at hI hrc hB hf8490 hG8491 hw
      have hF := frCF (by decide) hG8491 hF
      rw [hrc] at hB
      have hP : va_P (dC, dI) classes (wM g c v8488 F8489 rc) H1 := hB
      replace hw : (r8487.toInt = 1 ∧ (v 41).toInt < 8 ∧ (v8488 41).toInt = (v 41).toInt + 1 ∧ (v8488 39).toInt = (v 39).toInt + 1 ∧ (v8488 40).toInt = (v 40).toInt) ∨ (r8487.toInt = 0 ∧ (v 41).toInt = 8 ∧ 0 ≤ (v8488 40).toInt ∧ (v8488 41).toInt = (v 41).toInt ∧ (v8488 39).toInt = (v 39).toInt) := hw
      have hw_r8487 := hw
      clear hw
      have t8492 : 0 ≤ (v8488 39).toInt ∧ (v8488 39).toInt ≤ 120 := hI.1 39 _ _ rfl
      have t8493 : 0 ≤ (v8488 41).toInt ∧ (v8488 41).toInt ≤ 8 := hI.1 41 _ _ rfl
      clear hz1
      generalize H1 = H at hP hS ⊢
      replace hk : keepL (v 37) (F 28) (F 29) (F8489 28) (F8489 29) := by rw [hG8491 28 (by decide), hG8491 29 (by decide)]; exact hk
      replace hd : (v8488 40).toInt < 0 → dp (F8489 28) (F8489 29) (bI (v 37)) (v 38).toInt.toNat = some d := fun hf => (by rw [hG8491 28 (by decide), hG8491 29 (by decide)]; exact hd (by omega))
      refine lv_if_ne (tgt := 48) hx hb dX12_operand_44 (by decide) (fun c8494 => ?_) (fun c8494 => ?_)
      · skip
        have t8495 := cv_ne (a := r8487.toInt) rfl (b := 0) (by decide) c8494
        refine lv_aload_n hx hb dX12_operand_48 rfl (lv_at hl 1 rfl) ?_
        have t8496 : 0 ≤ (v 30).toInt ∧ (v 30).toInt ≤ 120 := by have h9 := hI.1 30 _ _ rfl; rw [show v8488 30 = v 30 from hf8490 30 (by decide)] at h9; exact h9
        have t8497 : 0 ≤ (v 37).toInt ∧ (v 37).toInt ≤ 9 := by have h9 := hI.1 37 _ _ rfl; rw [show v8488 37 = v 37 from hf8490 37 (by decide)] at h9; exact h9
        have t8498 : 0 ≤ (v 38).toInt ∧ (v 38).toInt ≤ 120 := by have h9 := hI.1 38 _ _ rfl; rw [show v8488 38 = v 38 from hf8490 38 (by decide)] at h9; exact h9
        have t8499 : 0 ≤ (v8488 39).toInt ∧ (v8488 39).toInt ≤ 120 := hI.1 39 _ _ rfl
        have t8500 : 0 ≤ (v8488 41).toInt ∧ (v8488 41).toInt ≤ 8 := hI.1 41 _ _ rfl
        refine va_callv (va_runV (As := []) (rest := []) ⟨hx, hb, hml, hown, hwd⟩ (rO l dC dI g c adK adV v8488 F8489 rc H.size  d hg hI (by have h9 : v8488 38 = v 38 := hf8490 38 (by decide); (try rw [h9]); clear h9; have h9 : v8488 39 = v8488 39 := rfl; (try rw [h9]); clear h9; have h9 : v8488 30 = v 30 := hf8490 30 (by decide); (try rw [h9]); clear h9; have h9 : v8488 40 = v8488 40 := rfl; (try rw [h9]); clear h9; have h9 : v8488 41 = v8488 41 := rfl; (try rw [h9]); clear h9; omega) (by have h9 : v8488 37 = (v 37) := hf8490 37 (by decide); have h8 : v8488 38 = (v 38) := hf8490 38 (by decide); (try rw [h9]); (try rw [h8]); exact hd (by omega))) (cwV 0 hwd (gV wk_1030 wk_1035 wk_1036 wk_1037 wk_5) rfl rfl rfl (by decide +kernel) ⟨(by show fr + 0 + 1 ≤ fr + 4; omega), (by show 8 + (2 + 11) + (lc + 0) ≤ lc + 160; omega)⟩) ⟨PM.blind, va_recv hK hP (ci := 12) (q0 := 0) rfl rfl, fun U hU hW => ⟨rfl, PM.at hK hE hP hS hU hW⟩⟩ rfl rfl hl.1 rfl (lv_room (Nat.le_of_ble_eq_true rfl)) dX12_operand_49 ⟨Nat.le_of_ble_eq_true rfl, Nat.le_of_ble_eq_true rfl⟩) hS (fun q _ h => (freeM hS) q h) (freeM hS) (fun u t H1 locs ht hvm hw hB hz1 hk1 hS => ?_)
        unfold BM at hB
        rw [ht] at hB
        obtain ⟨v8502, F8503, rc9⟩ := u
        obtain ⟨hI, hrc, hf8504, hG8505, hw⟩ := hw
        dsimp only at hI hrc hB hf8504 hG8505 hw
        have hF := frCF (by decide) hG8505 hF
        rw [hrc] at hB
        have hP : va_P (dC, dI) classes (wM g c v8502 F8503 rc) H1 := hB
        replace hw : ((v8488 39).toInt ≤ (v8502 39).toInt ∧ (v8502 39).toInt ≤ (v8488 30).toInt ∧ (v8488 38).toInt ≤ (v8502 38).toInt ∧ (v8502 38).toInt - (v8488 38).toInt ≤ (v8502 39).toInt - (v8488 39).toInt ∧ (v8488 41).toInt ≤ (v8502 41).toInt ∧ ((v8502 40).toInt < 0 → (v8502 41).toInt = (v8488 41).toInt)) ∧ keepL (v8488 37) (F8489 28) (F8489 29) (F8503 28) (F8503 29) ∧ ((v8502 40).toInt < 0 → dp (F8503 28) (F8503 29) (bI (v8488 37)) (v8502 38).toInt.toNat = some (d + 1)) := hw
        rw [show v8488 30 = v 30 from hf8490 30 (by decide)] at hw
        rw [show v8488 38 = v 38 from hf8490 38 (by decide)] at hw
        rw [show v8488 37 = v 37 from hf8490 37 (by decide)] at hw
        have hw_r8501 := hw
        clear hw
        have t8506 : 0 ≤ (v8502 38).toInt ∧ (v8502 38).toInt ≤ 120 := hI.1 38 _ _ rfl
        have t8507 : 0 ≤ (v8502 39).toInt ∧ (v8502 39).toInt ≤ 120 := hI.1 39 _ _ rfl
        have t8508 : 0 ≤ (v8502 41).toInt ∧ (v8502 41).toInt ≤ 8 := hI.1 41 _ _ rfl
        clear hz1
        generalize H1 = H at hP hS ⊢
        replace hk := hk.tr hw_r8501.2.1
        replace hd := hw_r8501.2.2
        replace hw_r8501 := hw_r8501.1
        refine lv_aload_n hx hb dX12_operand_52 rfl (lv_at hl 1 rfl) ?_
        refine lv_iconst (v := 3) hx hb dX12_operand_53 (by decide) ?_
        refine lv_iconst (v := 0) hx hb dX12_operand_54 (by decide) ?_
        have t8509 : 0 ≤ (v 37).toInt ∧ (v 37).toInt ≤ 9 := by have h9 := hI.1 37 _ _ rfl; rw [show v8502 37 = v 37 from (hf8504 37 (by decide)).trans (hf8490 37 (by decide))] at h9; exact h9
        have t8510 : 0 ≤ (v8502 38).toInt ∧ (v8502 38).toInt ≤ 120 := hI.1 38 _ _ rfl
        refine va_callv (va_runV (As := [.int 3, .int 0]) (rest := []) ⟨hx, hb, hml, hown, hwd⟩ (c_X12_lay l dC dI g c adK adV v8502 F8503 rc H.size 3 0 hg hI (by have h9 : v8502 38 = v8502 38 := rfl; rw [h9]; omega)) (cwV 2 hwd (gV wk_1021 wk_1018 wk_1019 wk_1020 wk_5) rfl rfl rfl (by decide +kernel) ⟨(by show 1 + 1 ≤ fr + 4; omega), (by show 8 + (3 + 11) + (40) ≤ lc + 160; omega)⟩) ⟨PM.blind, va_recv hK hP (ci := 12) (q0 := 0) rfl rfl, fun U hU hW => ⟨rfl, PM.at hK hE hP hS hU hW⟩⟩ rfl rfl hl.1 rfl (lv_room (Nat.le_of_ble_eq_true rfl)) dX12_operand_55 ⟨Nat.le_of_ble_eq_true rfl, Nat.le_of_ble_eq_true rfl⟩) hS (fun q _ h => (freeM hS) q h) (freeM hS) (fun u t H1 locs ht hvm hw hB hz1 hk1 hS => ?_)
        unfold BM at hB
        rw [ht] at hB
        obtain ⟨v8512, F8513, rc9⟩ := u
        obtain ⟨hI, hrc, hf8514, hG8515, hw⟩ := hw
        dsimp only at hI hrc hB hf8514 hG8515 hw
        have hF := frCF (by decide) hG8515 hF
        rw [hrc] at hB
        have hP : va_P (dC, dI) classes (wM g c v8512 F8513 rc) H1 := hB
        replace hw : (v8512 38).toInt = (v8502 38).toInt + 1 ∧ keepL (v8502 37) (F8503 28) (F8503 29) (F8513 28) (F8513 29) ∧ dp (F8513 28) (F8513 29) (bI (v8502 37)) ((v8502 38).toInt.toNat + 1) = dpS (dp (F8503 28) (F8503 29) (bI (v8502 37)) (v8502 38).toInt.toNat) (3 : Int32) (0 : Int32) := hw
        rw [show v8502 37 = v 37 from (hf8504 37 (by decide)).trans (hf8490 37 (by decide))] at hw
        have hw_r8511 := hw
        clear hw
        have t8516 : 0 ≤ (v8512 38).toInt ∧ (v8512 38).toInt ≤ 120 := hI.1 38 _ _ rfl
        have k8517 : (3 : Int32).toInt = 3 := by decide
        have k8518 : (0 : Int32).toInt = 0 := by decide
        clear hz1
        generalize H1 = H at hP hS ⊢
        replace hk := hk.tr hw_r8511.2.1
        replace hd : (v8502 40).toInt < 0 → dp (F8513 28) (F8513 29) (bI (v 37)) (v8512 38).toInt.toNat = some (d + 1) := fun hf => (by have e9 : (v8512 38).toInt.toNat = (v8502 38).toInt.toNat + 1 := (by omega); rw [e9, hw_r8511.2.2, hd hf]; exact dpS_3 (by decide) (by omega))
        replace hw_r8511 := hw_r8511.1
        refine lv_aload_n hx hb dX12_operand_58 rfl (lv_at hl 1 rfl) ?_
        refine lv_dup hx hb dX12_operand_59 rfl ?_
        refine va_get (D := (dC, dI)) (ci := 12) (v := .int (v8512 41)) (C := RX12) (T := TX12) (N := 63) hx hb hwd inA_X12 hown hK hP 0 rfl rfl 41 (by decide) (hwd _ wk_1006) (fun _ h9 => h9) rfl dX12_operand_60 ?_
        refine my_top (v := v8502 41) (hf8514 41 (by decide)) ?_
        have t8519 : 0 ≤ (v8502 41).toInt ∧ (v8502 41).toInt ≤ 8 := by have h9 := hI.1 41 _ _ rfl; rw [show v8512 41 = v8502 41 from hf8514 41 (by decide)] at h9; exact h9
        refine lv_iconst (v := 1) hx hb dX12_operand_63 (by decide) ?_
        refine lv_isub hx hb dX12_operand_64 ?_
        refine lv_topi (fun z8520 e8521 => ?_)
        try (have t8522 := tsub e8521 (a := (v8502 41).toInt) rfl (b := 1) (by decide) (by omega))
        refine va_put (D := (dC, dI)) (ci := 12) (v := .int z8520) (ty := .int) (C := RX12) (T := TX12) (N := 63) (fs := fsM_0 g v8512 rc) hx hb hwd inA_X12 tyX12 tyX12_ok nmX12 hown hK hP (DM hg) hS 0 rfl rfl 41 (by decide) (hwd _ wk_1006) (fun _ h9 => h9) rfl (by decide +kernel) rfl rfl (Nat.le_of_ble_eq_true rfl) dX12_operand_65 (fun H locs hP _ hS => ?_)
        have hP := va_P_eq (pM_41 g c _ _ _ _) hP
        have hI := IM.put hI 41 z8520 rfl (by omega)
        refine lv_goto (tgt := 150) hx hb dX12_operand_68 (by decide) ?_
        have hP9 : va_P (dC, dI) classes (wM g c (va_up v8512 41 z8520) F8513 rc) H := hP
        exact W.vret hx hb hr (fun t ht hW => ⟨⟨((va_up v8512 41 z8520), F8513, rc), rfl, ⟨hI, rfl, (frU (by decide) (frC (by decide) hf8514 (frC (by decide) hf8504 (frC (by decide) hf8490 (fun _ _ => rfl))))), hF, (by show ((v 39).toInt ≤ ((va_up v8512 41 z8520) 39).toInt ∧ ((va_up v8512 41 z8520) 39).toInt ≤ (v 30).toInt ∧ (v 38).toInt ≤ (v8512 38).toInt ∧ (v8512 38).toInt - (v 38).toInt ≤ ((va_up v8512 41 z8520) 39).toInt - (v 39).toInt ∧ (v 41).toInt ≤ z8520.toInt ∧ (((va_up v8512 41 z8520) 40).toInt < 0 → z8520.toInt = (v 41).toInt)) ∧ keepL (v 37) (F 28) (F 29) (F8513 28) (F8513 29) ∧ (((va_up v8512 41 z8520) 40).toInt < 0 → dp (F8513 28) (F8513 29) (bI (v 37)) (v8512 38).toInt.toNat = some (d + 1)); rw [show (va_up v8512 41 z8520) 39 = v8502 39 from hf8514 39 (by decide)]; rw [show (va_up v8512 41 z8520) 40 = v8502 40 from hf8514 40 (by decide)]; exact ⟨by omega, hk, fun hf => (hd (by omega)).trans (congrArg some (by omega))⟩)⟩, (by show va_P _ _ _ t.heap; rw [ht]; exact hP9)⟩, hS.F ht⟩) hS.2.2 dX12_operand_150
      · skip
        have t8523 := cv_eq (a := r8487.toInt) rfl (b := 0) (by decide) c8494
        have hP9 : va_P (dC, dI) classes (wM g c v8488 F8489 rc) H := hP
        exact W.vret hx hb hr (fun t ht hW => ⟨⟨(v8488, F8489, rc), rfl, ⟨hI, rfl, (frC (by decide) hf8490 (fun _ _ => rfl)), hF, (by show ((v 39).toInt ≤ (v8488 39).toInt ∧ (v8488 39).toInt ≤ (v 30).toInt ∧ (v 38).toInt ≤ (v8488 38).toInt ∧ (v8488 38).toInt - (v 38).toInt ≤ (v8488 39).toInt - (v 39).toInt ∧ (v 41).toInt ≤ (v8488 41).toInt ∧ ((v8488 40).toInt < 0 → (v8488 41).toInt = (v 41).toInt)) ∧ keepL (v 37) (F 28) (F 29) (F8489 28) (F8489 29) ∧ ((v8488 40).toInt < 0 → dp (F8489 28) (F8489 29) (bI (v 37)) (v8488 38).toInt.toNat = some (d + 1)); rw [show v8488 38 = v 38 from hf8490 38 (by decide)]; exact ⟨by omega, hk, fun hf => (hd (by omega)).trans (congrArg some (by omega))⟩)⟩, (by show va_P _ _ _ t.heap; rw [ht]; exact hP9)⟩, hS.F ht⟩) hS.2.2 dX12_operand_47
  · skip
    have t8524 := cv_nlt (a := r8409.toInt) rfl (b := 0) (by decide) c8410
    refine lv_aload_n hx hb dX12_operand_12 rfl (lv_at hl 1 rfl) ?_
    refine lv_iconst (v := 2) hx hb dX12_operand_13 (by decide) ?_
    refine lv_iload_n hx hb dX12_operand_14 rfl (lv_at hl 0 rfl) ?_
    refine va_calli (va_runS (As := [.int r8408]) (rest := [.int 2, .ref (g 0)]) ⟨hx, hb, hml, hown, hwd⟩ (c_X12_nameOf l dC dI g c adK adV v F rc H.size r8408 hg hI ) (va_cwS 1 hwd (gT wk_1034 wk_1032 wk_1033 wk_5) rfl rfl rfl (by decide +kernel) ⟨(by show 1 + 1 ≤ fr + 4; omega), (by show 8 + (1 + 11) + (40) ≤ lc + 160; omega)⟩) ⟨PM.blind, fun U hU hW => ⟨rfl, PM.at hK hE hP hS hU hW⟩⟩ rfl rfl hl.1 rfl (lv_room (Nat.le_of_ble_eq_true rfl)) dX12_operand_15 ⟨Nat.le_of_ble_eq_true rfl, Nat.le_of_ble_eq_true rfl⟩) hS (fun q _ h => (freeM hS) q h) (freeM hS) (fun r8525 u t H1 locs ht hvm hw hB hz1 hk1 hS => ?_)
    unfold BM at hB
    rw [ht] at hB
    have hP : va_P (dC, dI) classes (wM g c v F rc) H1 := hB
    have hw_r8525 : r8525.toInt = nmM r8408 ∧ (-1 ≤ r8525.toInt ∧ r8525.toInt ≤ 5) := hw
    clear hw
    clear hz1
    generalize H1 = H at hP hS ⊢
    have np_r8525 := nmM_pos r8408
    have t8526 : 0 ≤ (v 37).toInt ∧ (v 37).toInt ≤ 9 := hI.1 37 _ _ rfl
    have t8527 : 0 ≤ (v 38).toInt ∧ (v 38).toInt ≤ 120 := hI.1 38 _ _ rfl
    refine va_callv (va_runV (As := [.int 2, .int r8525]) (rest := []) ⟨hx, hb, hml, hown, hwd⟩ (c_X12_lay l dC dI g c adK adV v F rc H.size 2 r8525 hg hI (by have h9 : v 38 = v 38 := rfl; rw [h9]; omega)) (cwV 2 hwd (gV wk_1021 wk_1018 wk_1019 wk_1020 wk_5) rfl rfl rfl (by decide +kernel) ⟨(by show 1 + 1 ≤ fr + 4; omega), (by show 8 + (3 + 11) + (40) ≤ lc + 160; omega)⟩) ⟨PM.blind, va_recv hK hP (ci := 12) (q0 := 0) rfl rfl, fun U hU hW => ⟨rfl, PM.at hK hE hP hS hU hW⟩⟩ rfl rfl hl.1 rfl (lv_room (Nat.le_of_ble_eq_true rfl)) dX12_operand_18 ⟨Nat.le_of_ble_eq_true rfl, Nat.le_of_ble_eq_true rfl⟩) hS (fun q _ h => (freeM hS) q h) (freeM hS) (fun u t H1 locs ht hvm hw hB hz1 hk1 hS => ?_)
    unfold BM at hB
    rw [ht] at hB
    obtain ⟨v8529, F8530, rc9⟩ := u
    obtain ⟨hI, hrc, hf8531, hG8532, hw⟩ := hw
    dsimp only at hI hrc hB hf8531 hG8532 hw
    have hF := frCF (by decide) hG8532 hF
    rw [hrc] at hB
    have hP : va_P (dC, dI) classes (wM g c v8529 F8530 rc) H1 := hB
    replace hw : (v8529 38).toInt = (v 38).toInt + 1 ∧ keepL (v 37) (F 28) (F 29) (F8530 28) (F8530 29) ∧ dp (F8530 28) (F8530 29) (bI (v 37)) ((v 38).toInt.toNat + 1) = dpS (dp (F 28) (F 29) (bI (v 37)) (v 38).toInt.toNat) (2 : Int32) r8525 := hw
    have hw_r8528 := hw
    clear hw
    have t8533 : 0 ≤ (v8529 38).toInt ∧ (v8529 38).toInt ≤ 120 := hI.1 38 _ _ rfl
    have k8534 : (2 : Int32).toInt = 2 := by decide
    clear hz1
    generalize H1 = H at hP hS ⊢
    replace hk := hk.tr hw_r8528.2.1
    replace hd : (v 40).toInt < 0 → dp (F8530 28) (F8530 29) (bI (v 37)) (v8529 38).toInt.toNat = some (d + 1) := fun hf => (by have e9 : (v8529 38).toInt.toNat = (v 38).toInt.toNat + 1 := (by omega); rw [e9, hw_r8528.2.2, hd hf]; exact dpS_2 (by decide) (by omega))
    replace hw_r8528 := hw_r8528.1
    refine lv_aload_n hx hb dX12_operand_21 rfl (lv_at hl 1 rfl) ?_
    refine lv_dup hx hb dX12_operand_22 rfl ?_
    refine va_get (D := (dC, dI)) (ci := 12) (v := .int (v8529 39)) (C := RX12) (T := TX12) (N := 63) hx hb hwd inA_X12 hown hK hP 0 rfl rfl 39 (by decide) (hwd _ wk_1004) (fun _ h9 => h9) rfl dX12_operand_23 ?_
    refine my_top (v := v 39) (hf8531 39 (by decide)) ?_
    have t8535 : 0 ≤ (v 39).toInt ∧ (v 39).toInt ≤ 120 := by have h9 := hI.1 39 _ _ rfl; rw [show v8529 39 = v 39 from hf8531 39 (by decide)] at h9; exact h9
    refine lv_iconst (v := 1) hx hb dX12_operand_26 (by decide) ?_
    refine lv_iadd hx hb dX12_operand_27 ?_
    refine lv_topi (fun z8536 e8537 => ?_)
    try (have t8538 := tadd e8537 (a := (v 39).toInt) rfl (b := 1) (by decide) (by omega))
    refine va_put (D := (dC, dI)) (ci := 12) (v := .int z8536) (ty := .int) (C := RX12) (T := TX12) (N := 63) (fs := fsM_0 g v8529 rc) hx hb hwd inA_X12 tyX12 tyX12_ok nmX12 hown hK hP (DM hg) hS 0 rfl rfl 39 (by decide) (hwd _ wk_1004) (fun _ h9 => h9) rfl (by decide +kernel) rfl rfl (Nat.le_of_ble_eq_true rfl) dX12_operand_28 (fun H locs hP _ hS => ?_)
    have hP := va_P_eq (pM_39 g c _ _ _ _) hP
    have hI := IM.put hI 39 z8536 rfl (by omega)
    refine lv_goto (tgt := 150) hx hb dX12_operand_31 (by decide) ?_
    have hP9 : va_P (dC, dI) classes (wM g c (va_up v8529 39 z8536) F8530 rc) H := hP
    exact W.vret hx hb hr (fun t ht hW => ⟨⟨((va_up v8529 39 z8536), F8530, rc), rfl, ⟨hI, rfl, (frU (by decide) (frC (by decide) hf8531 (fun _ _ => rfl))), hF, (by show ((v 39).toInt ≤ z8536.toInt ∧ z8536.toInt ≤ (v 30).toInt ∧ (v 38).toInt ≤ (v8529 38).toInt ∧ (v8529 38).toInt - (v 38).toInt ≤ z8536.toInt - (v 39).toInt ∧ (v 41).toInt ≤ ((va_up v8529 39 z8536) 41).toInt ∧ (((va_up v8529 39 z8536) 40).toInt < 0 → ((va_up v8529 39 z8536) 41).toInt = (v 41).toInt)) ∧ keepL (v 37) (F 28) (F 29) (F8530 28) (F8530 29) ∧ (((va_up v8529 39 z8536) 40).toInt < 0 → dp (F8530 28) (F8530 29) (bI (v 37)) (v8529 38).toInt.toNat = some (d + 1)); rw [show (va_up v8529 39 z8536) 41 = v 41 from hf8531 41 (by decide)]; rw [show (va_up v8529 39 z8536) 40 = v 40 from hf8531 40 (by decide)]; exact ⟨by omega, hk, fun hf => (hd (by omega)).trans (congrArg some (by omega))⟩)⟩, (by show va_P _ _ _ t.heap; rw [ht]; exact hP9)⟩, hS.F ht⟩) hS.2.2 dX12_operand_150
