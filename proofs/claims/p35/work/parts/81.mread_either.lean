set_option maxHeartbeats 8000000 in
set_option maxRecDepth 100000 in
theorem c_X12_either (D : Int) (fr lc : Nat) (rO : RPM yX12_operand (Cond.code yX12_operand cX12_operand 2 none) (D + 1) fr lc) (rE : RPM yX12_either (Cond.code yX12_either cX12_either 2 none) (D + 1) (fr + 3) (lc + 120)) (l : Launch) (dC : Nat → ClassId) (dI : Nat → Nat → Nat) (g : Nat → Nat) (c : Nat → ClassId) (adK adV : Nat → Nat) (v : Nat → Int32) (F : Nat → Nat → Int32) (rc sz : Nat) (d : Nat) (hg : injM g) (hI : IM v F) (hq : (v 38).toInt ≤ (v 39).toInt ∧ (v 39).toInt ≤ (v 30).toInt ∧ (v 40).toInt < 0 ∧ (v 41).toInt = D) (hdp : dp (F 28) (F 29) (bI (v 37)) (v 38).toInt.toNat = some d) : Met l yX12_either (Cond.code yX12_either cX12_either 2 none :: wA) ({ frames := fr + 7, cells := 0, slots := 0, locals := lc + 280 }) (va_Pc [.ref (g 0)] (PM dC dI g c adK adV v F rc sz)) (va_Qv (fun (u : StM) => IM u.1 u.2.1 ∧ u.2.2 = rc ∧ (∀ k, k ∉ ([38, 39, 40, 41, 42] : List Nat) → u.1 k = v k) ∧ (∀ k, k ∉ ([28, 29] : List Nat) → u.2.1 k = F k) ∧ (((v 39).toInt ≤ (u.1 39).toInt ∧ (u.1 39).toInt ≤ (v 30).toInt ∧ (v 38).toInt ≤ (u.1 38).toInt ∧ (u.1 38).toInt - (v 38).toInt ≤ (u.1 39).toInt - (v 39).toInt ∧ (v 41).toInt ≤ (u.1 41).toInt ∧ ((u.1 40).toInt < 0 → (u.1 41).toInt = (v 41).toInt)) ∧ keepL (v 37) (F 28) (F 29) (u.2.1 28) (u.2.1 29) ∧ ((u.1 40).toInt < 0 → dp (u.2.1 28) (u.2.1 29) (bI (v 37)) (u.1 38).toInt.toNat = some (d + 1)))) (BM dC dI g c) (AM g sz)) 0 0 (AM g sz) := by
  refine Met.ofW (cc := cX12_either) (maxL := 2) (ret := none) (by decide) rfl ?_
  intro p e s m args below meth c0 s₁ B hml hv
  obtain ⟨rfl, hsz, hP, hK, hE⟩ := hv
  have hx := B.exec
  have hb := B.bytes
  have hr := B.returns
  have hts := atoms_spec (ws := Cond.code yX12_either cX12_either 2 none :: wA) B.pre
  have hwd : ∀ w ∈ wA, w.before _ s = true := fun w h => hts w (List.mem_cons_of_mem _ h)
  have hown : s.vm.findClass RX12 = some m.cls := findClass_of_methodNamed B.named
  have hlocks := B.notSynchronized
  subst hsz
  have hl := lv_entry ([.ref (g 0)]) (n := 2) (Nat.le_of_ble_eq_true rfl)
  rw [lg_entry_eq]
  generalize (lg_sl ([.ref (g 0)]) ++ List.replicate (2 - (lg_sl ([.ref (g 0)])).length) Slot.unset).toArray = ls at hl ⊢
  have hl : lv_has ls 2 [(0, .ref (g 0))] := hl
  obtain ⟨H, eH⟩ : ∃ z, z = s.heap := ⟨_, rfl⟩
  have hP : va_P (dC, dI) classes (wM g c v F rc) H := by rw [eH]; exact hP
  have hS : va_S (AM g s.heap.size) s.heap H [] := by rw [eH]; exact va_S.rf
  refine my_heap eH ?_
  have hF : ∀ k, k ∉ ([28, 29] : List Nat) → F k = F k := fun _ _ => rfl
  have hb30 : 0 ≤ (v 30).toInt ∧ (v 30).toInt ≤ 120 := hI.1 30 _ _ rfl
  have hb37 : 0 ≤ (v 37).toInt ∧ (v 37).toInt ≤ 9 := hI.1 37 _ _ rfl
  have hb38 : 0 ≤ (v 38).toInt ∧ (v 38).toInt ≤ 120 := hI.1 38 _ _ rfl
  have hb39 : 0 ≤ (v 39).toInt ∧ (v 39).toInt ≤ 120 := hI.1 39 _ _ rfl
  have hb41 : 0 ≤ (v 41).toInt ∧ (v 41).toInt ≤ 8 := hI.1 41 _ _ rfl
  have hk : keepL (v 37) (F 28) (F 29) (F 28) (F 29) := keepL.rf
  have hd : (v 40).toInt < 0 → dp (F 28) (F 29) (bI (v 37)) (v 38).toInt.toNat = some d := fun _ => hdp
  refine lv_aload_n hx hb dX12_either_0 rfl (lv_at hl 0 rfl) ?_
  have t9400 : 0 ≤ (v 30).toInt ∧ (v 30).toInt ≤ 120 := hI.1 30 _ _ rfl
  have t9401 : 0 ≤ (v 37).toInt ∧ (v 37).toInt ≤ 9 := hI.1 37 _ _ rfl
  have t9402 : 0 ≤ (v 38).toInt ∧ (v 38).toInt ≤ 120 := hI.1 38 _ _ rfl
  have t9403 : 0 ≤ (v 39).toInt ∧ (v 39).toInt ≤ 120 := hI.1 39 _ _ rfl
  have t9404 : 0 ≤ (v 41).toInt ∧ (v 41).toInt ≤ 8 := hI.1 41 _ _ rfl
  refine va_callv (va_runV (As := []) (rest := []) ⟨hx, hb, hml, hown, hwd⟩ (c_X12_sum D fr lc rO rE l dC dI g c adK adV v F rc H.size  d hg hI (by have h9 : v 38 = v 38 := rfl; (try rw [h9]); clear h9; have h9 : v 39 = v 39 := rfl; (try rw [h9]); clear h9; have h9 : v 30 = v 30 := rfl; (try rw [h9]); clear h9; have h9 : v 40 = v 40 := rfl; (try rw [h9]); clear h9; have h9 : v 41 = v 41 := rfl; (try rw [h9]); clear h9; omega) (by have h9 : v 37 = (v 37) := rfl; have h8 : v 38 = (v 38) := rfl; (try rw [h9]); (try rw [h8]); exact hd (by omega))) (cwV 0 hwd (gV wk_1043 wk_1011 wk_1012 wk_1013 wk_5) rfl rfl rfl (by decide +kernel) ⟨(by show fr + 6 + 1 ≤ fr + 7; omega), (by show 8 + (2 + 11) + (lc + 240) ≤ lc + 280; omega)⟩) ⟨PM.blind, va_recv hK hP (ci := 12) (q0 := 0) rfl rfl, fun U hU hW => ⟨rfl, PM.at hK hE hP hS hU hW⟩⟩ rfl rfl hl.1 rfl (lv_room (Nat.le_of_ble_eq_true rfl)) dX12_either_1 ⟨Nat.le_of_ble_eq_true rfl, Nat.le_of_ble_eq_true rfl⟩) hS (fun q _ h => (freeM hS) q h) (freeM hS) (fun u t H1 locs ht hvm hw hB hz1 hk1 hS => ?_)
  unfold BM at hB
  rw [ht] at hB
  obtain ⟨v9406, F9407, rc9⟩ := u
  obtain ⟨hI, hrc, hf9408, hG9409, hw⟩ := hw
  dsimp only at hI hrc hB hf9408 hG9409 hw
  have hF := frCF (by decide) hG9409 hF
  rw [hrc] at hB
  have hP : va_P (dC, dI) classes (wM g c v9406 F9407 rc) H1 := hB
  replace hw : ((v 39).toInt ≤ (v9406 39).toInt ∧ (v9406 39).toInt ≤ (v 30).toInt ∧ (v 38).toInt ≤ (v9406 38).toInt ∧ (v9406 38).toInt - (v 38).toInt ≤ (v9406 39).toInt - (v 39).toInt ∧ (v 41).toInt ≤ (v9406 41).toInt ∧ ((v9406 40).toInt < 0 → (v9406 41).toInt = (v 41).toInt)) ∧ keepL (v 37) (F 28) (F 29) (F9407 28) (F9407 29) ∧ ((v9406 40).toInt < 0 → dp (F9407 28) (F9407 29) (bI (v 37)) (v9406 38).toInt.toNat = some (d + 1)) := hw
  have hw_r9405 := hw
  clear hw
  have t9410 : 0 ≤ (v9406 38).toInt ∧ (v9406 38).toInt ≤ 120 := hI.1 38 _ _ rfl
  have t9411 : 0 ≤ (v9406 39).toInt ∧ (v9406 39).toInt ≤ 120 := hI.1 39 _ _ rfl
  have t9412 : 0 ≤ (v9406 41).toInt ∧ (v9406 41).toInt ≤ 8 := hI.1 41 _ _ rfl
  clear hz1
  generalize H1 = H at hP hS ⊢
  replace hk := hk.tr hw_r9405.2.1
  replace hd := hw_r9405.2.2
  replace hw_r9405 := hw_r9405.1
  refine lv_aload_n hx hb dX12_either_4 rfl (lv_at hl 0 rfl) ?_
  have t9413 : 0 ≤ (v 30).toInt ∧ (v 30).toInt ≤ 120 := by have h9 := hI.1 30 _ _ rfl; rw [show v9406 30 = v 30 from hf9408 30 (by decide)] at h9; exact h9
  have t9414 : 0 ≤ (v9406 39).toInt ∧ (v9406 39).toInt ≤ 120 := hI.1 39 _ _ rfl
  refine va_calli (va_runV (As := []) (rest := []) ⟨hx, hb, hml, hown, hwd⟩ (c_X12_look l dC dI g c adK adV v9406 F9407 rc H.size  hg hI ) (cwV 0 hwd (gV wk_1017 wk_1014 wk_1015 wk_1016 wk_5) rfl rfl rfl (by decide +kernel) ⟨(by show 1 + 1 ≤ fr + 7; omega), (by show 8 + (1 + 11) + (40) ≤ lc + 280; omega)⟩) ⟨PM.blind, va_recv hK hP (ci := 12) (q0 := 0) rfl rfl, fun U hU hW => ⟨rfl, PM.at hK hE hP hS hU hW⟩⟩ rfl rfl hl.1 rfl (lv_room (Nat.le_of_ble_eq_true rfl)) dX12_either_5 ⟨Nat.le_of_ble_eq_true rfl, Nat.le_of_ble_eq_true rfl⟩) hS (fun q _ h => (freeM hS) q h) (freeM hS) (fun r9415 u t H1 locs ht hvm hw hB hz1 hk1 hS => ?_)
  unfold BM at hB
  rw [ht] at hB
  have hP : va_P (dC, dI) classes (wM g c v9406 F9407 rc) H1 := hB
  replace hw : r9415.toInt = lkM (v9406 39) (v9406 30) (F9407 24) ∧ ((v9406 39).toInt < (v9406 30).toInt ∨ r9415.toInt = -1) := hw
  rw [show v9406 30 = v 30 from hf9408 30 (by decide)] at hw
  rw [hF 24 (by decide)] at hw
  have hw_r9415 := hw
  clear hw
  clear hz1
  generalize H1 = H at hP hS ⊢
  refine lv_istore_n (lv' := [(1, .int r9415), (0, .ref (g 0))]) hx hb dX12_either_8 rfl hl (by decide) rfl (fun ls hl => ?_)
  refine lv_aload_n hx hb dX12_either_9 rfl (lv_at hl 1 rfl) ?_
  refine va_get (D := (dC, dI)) (ci := 12) (v := .int (v9406 40)) (C := RX12) (T := TX12) (N := 63) hx hb hwd inA_X12 hown hK hP 0 rfl rfl 40 (by decide) (hwd _ wk_1005) (fun _ h9 => h9) rfl dX12_either_10 ?_
  refine lv_if_ge (tgt := 54) hx hb dX12_either_13 (by decide) (fun c9416 => ?_) (fun c9416 => ?_)
  · skip
    have t9417 := cv_le (a := 0) (by decide) (b := (v9406 40).toInt) rfl c9416
    refine lv_aload_n hx hb dX12_either_54 rfl (lv_at hl 1 rfl) ?_
    refine va_get (D := (dC, dI)) (ci := 12) (v := .int (v9406 40)) (C := RX12) (T := TX12) (N := 63) hx hb hwd inA_X12 hown hK hP 0 rfl rfl 40 (by decide) (hwd _ wk_1005) (fun _ h9 => h9) rfl dX12_either_55 ?_
    refine lv_if_ge (tgt := 70) hx hb dX12_either_58 (by decide) (fun c9418 => ?_) (fun c9418 => ?_)
    · skip
      have t9419 := cv_le (a := 0) (by decide) (b := (v9406 40).toInt) rfl c9418
      have hP9 : va_P (dC, dI) classes (wM g c v9406 F9407 rc) H := hP
      exact W.vret hx hb hr (fun t ht hW => ⟨⟨(v9406, F9407, rc), rfl, ⟨hI, rfl, (frC (by decide) hf9408 (fun _ _ => rfl)), hF, (by show ((v 39).toInt ≤ (v9406 39).toInt ∧ (v9406 39).toInt ≤ (v 30).toInt ∧ (v 38).toInt ≤ (v9406 38).toInt ∧ (v9406 38).toInt - (v 38).toInt ≤ (v9406 39).toInt - (v 39).toInt ∧ (v 41).toInt ≤ (v9406 41).toInt ∧ ((v9406 40).toInt < 0 → (v9406 41).toInt = (v 41).toInt)) ∧ keepL (v 37) (F 28) (F 29) (F9407 28) (F9407 29) ∧ ((v9406 40).toInt < 0 → dp (F9407 28) (F9407 29) (bI (v 37)) (v9406 38).toInt.toNat = some (d + 1)); exact ⟨by omega, hk, fun hf => (hd (by omega)).trans (congrArg some (by omega))⟩)⟩, (by show va_P _ _ _ t.heap; rw [ht]; exact hP9)⟩, hS.F ht⟩) hS.2.2 dX12_either_70
    · skip
      have t9420 := cv_nle (a := 0) (by decide) (b := (v9406 40).toInt) rfl c9418
      refine lv_aload_n hx hb dX12_either_61 rfl (lv_at hl 1 rfl) ?_
      have t9421 : 0 ≤ (v 30).toInt ∧ (v 30).toInt ≤ 120 := by have h9 := hI.1 30 _ _ rfl; rw [show v9406 30 = v 30 from hf9408 30 (by decide)] at h9; exact h9
      have t9422 : 0 ≤ (v9406 39).toInt ∧ (v9406 39).toInt ≤ 120 := hI.1 39 _ _ rfl
      refine va_calli (va_runV (As := []) (rest := []) ⟨hx, hb, hml, hown, hwd⟩ (c_X12_look l dC dI g c adK adV v9406 F9407 rc H.size  hg hI ) (cwV 0 hwd (gV wk_1017 wk_1014 wk_1015 wk_1016 wk_5) rfl rfl rfl (by decide +kernel) ⟨(by show 1 + 1 ≤ fr + 7; omega), (by show 8 + (1 + 11) + (40) ≤ lc + 280; omega)⟩) ⟨PM.blind, va_recv hK hP (ci := 12) (q0 := 0) rfl rfl, fun U hU hW => ⟨rfl, PM.at hK hE hP hS hU hW⟩⟩ rfl rfl hl.1 rfl (lv_room (Nat.le_of_ble_eq_true rfl)) dX12_either_62 ⟨Nat.le_of_ble_eq_true rfl, Nat.le_of_ble_eq_true rfl⟩) hS (fun q _ h => (freeM hS) q h) (freeM hS) (fun r9423 u t H1 locs ht hvm hw hB hz1 hk1 hS => ?_)
      unfold BM at hB
      rw [ht] at hB
      have hP : va_P (dC, dI) classes (wM g c v9406 F9407 rc) H1 := hB
      replace hw : r9423.toInt = lkM (v9406 39) (v9406 30) (F9407 24) ∧ ((v9406 39).toInt < (v9406 30).toInt ∨ r9423.toInt = -1) := hw
      rw [show v9406 30 = v 30 from hf9408 30 (by decide)] at hw
      rw [hF 24 (by decide)] at hw
      have hw_r9423 := hw
      clear hw
      clear hz1
      generalize H1 = H at hP hS ⊢
      refine lv_bipush (v := 63) hx hb dX12_either_65 (by decide) ?_
      refine lv_icmp_eq (tgt := 71) hx hb dX12_either_67 (by decide) (fun c9424 => ?_) (fun c9424 => ?_)
      · skip
        have t9425 := cv_eq (a := r9423.toInt) rfl (b := 63) (by decide) c9424
        refine lv_aload_n hx hb dX12_either_71 rfl (lv_at hl 1 rfl) ?_
        have t9426 : 0 ≤ (v9406 39).toInt ∧ (v9406 39).toInt ≤ 120 := hI.1 39 _ _ rfl
        have t9427 : 0 ≤ (v9406 41).toInt ∧ (v9406 41).toInt ≤ 8 := hI.1 41 _ _ rfl
        refine va_calli (va_runV (As := []) (rest := []) ⟨hx, hb, hml, hown, hwd⟩ (c_X12_opens l dC dI g c adK adV v9406 F9407 rc H.size  hg hI (by have h9 : v9406 39 = v9406 39 := rfl; (try rw [h9]); clear h9; have h9 : v9406 30 = v 30 := hf9408 30 (by decide); (try rw [h9]); clear h9; omega)) (cwV 0 hwd (gV wk_1025 wk_1022 wk_1023 wk_1024 wk_5) rfl rfl rfl (by decide +kernel) ⟨(by show 2 + 1 ≤ fr + 7; omega), (by show 8 + (1 + 11) + (80) ≤ lc + 280; omega)⟩) ⟨PM.blind, va_recv hK hP (ci := 12) (q0 := 0) rfl rfl, fun U hU hW => ⟨rfl, PM.at hK hE hP hS hU hW⟩⟩ rfl rfl hl.1 rfl (lv_room (Nat.le_of_ble_eq_true rfl)) dX12_either_72 ⟨Nat.le_of_ble_eq_true rfl, Nat.le_of_ble_eq_true rfl⟩) hS (fun q _ h => (freeM hS) q h) (freeM hS) (fun r9428 u t H1 locs ht hvm hw hB hz1 hk1 hS => ?_)
        unfold BM at hB
        rw [ht] at hB
        obtain ⟨v9429, F9430, rc9⟩ := u
        obtain ⟨hI, hrc, hf9431, hG9432, hw⟩ := hw
        dsimp only at hI hrc hB hf9431 hG9432 hw
        have hF := frCF (by decide) hG9432 hF
        rw [hrc] at hB
        have hP : va_P (dC, dI) classes (wM g c v9429 F9430 rc) H1 := hB
        replace hw : (r9428.toInt = 1 ∧ (v9406 41).toInt < 8 ∧ (v9429 41).toInt = (v9406 41).toInt + 1 ∧ (v9429 39).toInt = (v9406 39).toInt + 1 ∧ (v9429 40).toInt = (v9406 40).toInt) ∨ (r9428.toInt = 0 ∧ (v9406 41).toInt = 8 ∧ 0 ≤ (v9429 40).toInt ∧ (v9429 41).toInt = (v9406 41).toInt ∧ (v9429 39).toInt = (v9406 39).toInt) := hw
        have hw_r9428 := hw
        clear hw
        have t9433 : 0 ≤ (v9429 39).toInt ∧ (v9429 39).toInt ≤ 120 := hI.1 39 _ _ rfl
        have t9434 : 0 ≤ (v9429 41).toInt ∧ (v9429 41).toInt ≤ 8 := hI.1 41 _ _ rfl
        clear hz1
        generalize H1 = H at hP hS ⊢
        replace hk : keepL (v 37) (F 28) (F 29) (F9430 28) (F9430 29) := by rw [hG9432 28 (by decide), hG9432 29 (by decide)]; exact hk
        replace hd : (v9429 40).toInt < 0 → dp (F9430 28) (F9430 29) (bI (v 37)) (v9406 38).toInt.toNat = some (d + 1) := fun hf => (by rw [hG9432 28 (by decide), hG9432 29 (by decide)]; exact hd (by omega))
        refine lv_if_ne (tgt := 79) hx hb dX12_either_75 (by decide) (fun c9435 => ?_) (fun c9435 => ?_)
        · skip
          have t9436 := cv_ne (a := r9428.toInt) rfl (b := 0) (by decide) c9435
          refine lv_aload_n hx hb dX12_either_79 rfl (lv_at hl 1 rfl) ?_
          have t9437 : 0 ≤ (v 30).toInt ∧ (v 30).toInt ≤ 120 := by have h9 := hI.1 30 _ _ rfl; rw [show v9429 30 = v 30 from (hf9431 30 (by decide)).trans (hf9408 30 (by decide))] at h9; exact h9
          have t9438 : 0 ≤ (v 37).toInt ∧ (v 37).toInt ≤ 9 := by have h9 := hI.1 37 _ _ rfl; rw [show v9429 37 = v 37 from (hf9431 37 (by decide)).trans (hf9408 37 (by decide))] at h9; exact h9
          have t9439 : 0 ≤ (v9406 38).toInt ∧ (v9406 38).toInt ≤ 120 := by have h9 := hI.1 38 _ _ rfl; rw [show v9429 38 = v9406 38 from hf9431 38 (by decide)] at h9; exact h9
          have t9440 : 0 ≤ (v9429 39).toInt ∧ (v9429 39).toInt ≤ 120 := hI.1 39 _ _ rfl
          have t9441 : 0 ≤ (v9429 41).toInt ∧ (v9429 41).toInt ≤ 8 := hI.1 41 _ _ rfl
          refine va_callv (va_runV (As := []) (rest := []) ⟨hx, hb, hml, hown, hwd⟩ (rE l dC dI g c adK adV v9429 F9430 rc H.size  (d + 1) hg hI (by have h9 : v9429 38 = v9406 38 := hf9431 38 (by decide); (try rw [h9]); clear h9; have h9 : v9429 39 = v9429 39 := rfl; (try rw [h9]); clear h9; have h9 : v9429 30 = v 30 := (hf9431 30 (by decide)).trans (hf9408 30 (by decide)); (try rw [h9]); clear h9; have h9 : v9429 40 = v9429 40 := rfl; (try rw [h9]); clear h9; have h9 : v9429 41 = v9429 41 := rfl; (try rw [h9]); clear h9; omega) (by have h9 : v9429 37 = (v 37) := (hf9431 37 (by decide)).trans (hf9408 37 (by decide)); have h8 : v9429 38 = (v9406 38) := hf9431 38 (by decide); (try rw [h9]); (try rw [h8]); exact hd (by omega))) (cwV 0 hwd (gV wk_1010 wk_1007 wk_1008 wk_1009 wk_5) rfl rfl rfl (by decide +kernel) ⟨(by show fr + 3 + 1 ≤ fr + 7; omega), (by show 8 + (2 + 11) + (lc + 120) ≤ lc + 280; omega)⟩) ⟨PM.blind, va_recv hK hP (ci := 12) (q0 := 0) rfl rfl, fun U hU hW => ⟨rfl, PM.at hK hE hP hS hU hW⟩⟩ rfl rfl hl.1 rfl (lv_room (Nat.le_of_ble_eq_true rfl)) dX12_either_80 ⟨Nat.le_of_ble_eq_true rfl, Nat.le_of_ble_eq_true rfl⟩) hS (fun q _ h => (freeM hS) q h) (freeM hS) (fun u t H1 locs ht hvm hw hB hz1 hk1 hS => ?_)
          unfold BM at hB
          rw [ht] at hB
          obtain ⟨v9443, F9444, rc9⟩ := u
          obtain ⟨hI, hrc, hf9445, hG9446, hw⟩ := hw
          dsimp only at hI hrc hB hf9445 hG9446 hw
          have hF := frCF (by decide) hG9446 hF
          rw [hrc] at hB
          have hP : va_P (dC, dI) classes (wM g c v9443 F9444 rc) H1 := hB
          replace hw : ((v9429 39).toInt ≤ (v9443 39).toInt ∧ (v9443 39).toInt ≤ (v9429 30).toInt ∧ (v9429 38).toInt ≤ (v9443 38).toInt ∧ (v9443 38).toInt - (v9429 38).toInt ≤ (v9443 39).toInt - (v9429 39).toInt ∧ (v9429 41).toInt ≤ (v9443 41).toInt ∧ ((v9443 40).toInt < 0 → (v9443 41).toInt = (v9429 41).toInt)) ∧ keepL (v9429 37) (F9430 28) (F9430 29) (F9444 28) (F9444 29) ∧ ((v9443 40).toInt < 0 → dp (F9444 28) (F9444 29) (bI (v9429 37)) (v9443 38).toInt.toNat = some ((d + 1) + 1)) := hw
          rw [show v9429 30 = v 30 from (hf9431 30 (by decide)).trans (hf9408 30 (by decide))] at hw
          rw [show v9429 38 = v9406 38 from hf9431 38 (by decide)] at hw
          rw [show v9429 37 = v 37 from (hf9431 37 (by decide)).trans (hf9408 37 (by decide))] at hw
          have hw_r9442 := hw
          clear hw
          have t9447 : 0 ≤ (v9443 38).toInt ∧ (v9443 38).toInt ≤ 120 := hI.1 38 _ _ rfl
          have t9448 : 0 ≤ (v9443 39).toInt ∧ (v9443 39).toInt ≤ 120 := hI.1 39 _ _ rfl
          have t9449 : 0 ≤ (v9443 41).toInt ∧ (v9443 41).toInt ≤ 8 := hI.1 41 _ _ rfl
          clear hz1
          generalize H1 = H at hP hS ⊢
          replace hk := hk.tr hw_r9442.2.1
          replace hd := hw_r9442.2.2
          replace hw_r9442 := hw_r9442.1
          refine lv_aload_n hx hb dX12_either_83 rfl (lv_at hl 1 rfl) ?_
          refine va_get (D := (dC, dI)) (ci := 12) (v := .int (v9443 40)) (C := RX12) (T := TX12) (N := 63) hx hb hwd inA_X12 hown hK hP 0 rfl rfl 40 (by decide) (hwd _ wk_1005) (fun _ h9 => h9) rfl dX12_either_84 ?_
          refine lv_if_lt (tgt := 91) hx hb dX12_either_87 (by decide) (fun c9450 => ?_) (fun c9450 => ?_)
          · skip
            have t9451 := cv_lt (a := (v9443 40).toInt) rfl (b := 0) (by decide) c9450
            refine lv_aload_n hx hb dX12_either_91 rfl (lv_at hl 1 rfl) ?_
            have t9452 : 0 ≤ (v 30).toInt ∧ (v 30).toInt ≤ 120 := by have h9 := hI.1 30 _ _ rfl; rw [show v9443 30 = v 30 from (hf9445 30 (by decide)).trans ((hf9431 30 (by decide)).trans (hf9408 30 (by decide)))] at h9; exact h9
            have t9453 : 0 ≤ (v9443 39).toInt ∧ (v9443 39).toInt ≤ 120 := hI.1 39 _ _ rfl
            refine va_calli (va_runV (As := []) (rest := []) ⟨hx, hb, hml, hown, hwd⟩ (c_X12_look l dC dI g c adK adV v9443 F9444 rc H.size  hg hI ) (cwV 0 hwd (gV wk_1017 wk_1014 wk_1015 wk_1016 wk_5) rfl rfl rfl (by decide +kernel) ⟨(by show 1 + 1 ≤ fr + 7; omega), (by show 8 + (1 + 11) + (40) ≤ lc + 280; omega)⟩) ⟨PM.blind, va_recv hK hP (ci := 12) (q0 := 0) rfl rfl, fun U hU hW => ⟨rfl, PM.at hK hE hP hS hU hW⟩⟩ rfl rfl hl.1 rfl (lv_room (Nat.le_of_ble_eq_true rfl)) dX12_either_92 ⟨Nat.le_of_ble_eq_true rfl, Nat.le_of_ble_eq_true rfl⟩) hS (fun q _ h => (freeM hS) q h) (freeM hS) (fun r9454 u t H1 locs ht hvm hw hB hz1 hk1 hS => ?_)
            unfold BM at hB
            rw [ht] at hB
            have hP : va_P (dC, dI) classes (wM g c v9443 F9444 rc) H1 := hB
            replace hw : r9454.toInt = lkM (v9443 39) (v9443 30) (F9444 24) ∧ ((v9443 39).toInt < (v9443 30).toInt ∨ r9454.toInt = -1) := hw
            rw [show v9443 30 = v 30 from (hf9445 30 (by decide)).trans ((hf9431 30 (by decide)).trans (hf9408 30 (by decide)))] at hw
            rw [hF 24 (by decide)] at hw
            have hw_r9454 := hw
            clear hw
            clear hz1
            generalize H1 = H at hP hS ⊢
            refine lv_bipush (v := 58) hx hb dX12_either_95 (by decide) ?_
            refine lv_icmp_eq (tgt := 105) hx hb dX12_either_97 (by decide) (fun c9455 => ?_) (fun c9455 => ?_)
            · skip
              have t9456 := cv_eq (a := r9454.toInt) rfl (b := 58) (by decide) c9455
              refine lv_aload_n hx hb dX12_either_105 rfl (lv_at hl 1 rfl) ?_
              refine lv_dup hx hb dX12_either_106 rfl ?_
              refine va_get (D := (dC, dI)) (ci := 12) (v := .int (v9443 39)) (C := RX12) (T := TX12) (N := 63) hx hb hwd inA_X12 hown hK hP 0 rfl rfl 39 (by decide) (hwd _ wk_1004) (fun _ h9 => h9) rfl dX12_either_107 ?_
              have t9457 : 0 ≤ (v9443 39).toInt ∧ (v9443 39).toInt ≤ 120 := hI.1 39 _ _ rfl
              refine lv_iconst (v := 1) hx hb dX12_either_110 (by decide) ?_
              refine lv_iadd hx hb dX12_either_111 ?_
              refine lv_topi (fun z9458 e9459 => ?_)
              try (have t9460 := tadd e9459 (a := (v9443 39).toInt) rfl (b := 1) (by decide) (by omega))
              refine va_put (D := (dC, dI)) (ci := 12) (v := .int z9458) (ty := .int) (C := RX12) (T := TX12) (N := 63) (fs := fsM_0 g v9443 rc) hx hb hwd inA_X12 tyX12 tyX12_ok nmX12 hown hK hP (DM hg) hS 0 rfl rfl 39 (by decide) (hwd _ wk_1004) (fun _ h9 => h9) rfl (by decide +kernel) rfl rfl (Nat.le_of_ble_eq_true rfl) dX12_either_112 (fun H locs hP _ hS => ?_)
              have hP := va_P_eq (pM_39 g c _ _ _ _) hP
              have hI := IM.put hI 39 z9458 rfl (by omega)
              refine lv_aload_n hx hb dX12_either_115 rfl (lv_at hl 1 rfl) ?_
              have t9461 : 0 ≤ (v 30).toInt ∧ (v 30).toInt ≤ 120 := by have h9 := hI.1 30 _ _ rfl; rw [show (va_up v9443 39 z9458) 30 = v 30 from (hf9445 30 (by decide)).trans ((hf9431 30 (by decide)).trans (hf9408 30 (by decide)))] at h9; exact h9
              have t9462 : 0 ≤ (v 37).toInt ∧ (v 37).toInt ≤ 9 := by have h9 := hI.1 37 _ _ rfl; rw [show (va_up v9443 39 z9458) 37 = v 37 from (hf9445 37 (by decide)).trans ((hf9431 37 (by decide)).trans (hf9408 37 (by decide)))] at h9; exact h9
              have t9463 : 0 ≤ (v9443 38).toInt ∧ (v9443 38).toInt ≤ 120 := hI.1 38 _ _ rfl
              have t9464 : 0 ≤ z9458.toInt ∧ z9458.toInt ≤ 120 := hI.1 39 _ _ rfl
              have t9465 : 0 ≤ (v9443 41).toInt ∧ (v9443 41).toInt ≤ 8 := hI.1 41 _ _ rfl
              refine va_callv (va_runV (As := []) (rest := []) ⟨hx, hb, hml, hown, hwd⟩ (rE l dC dI g c adK adV (va_up v9443 39 z9458) F9444 rc H.size  ((d + 1) + 1) hg hI (by have h9 : (va_up v9443 39 z9458) 38 = v9443 38 := rfl; (try rw [h9]); clear h9; have h9 : (va_up v9443 39 z9458) 39 = z9458 := rfl; (try rw [h9]); clear h9; have h9 : (va_up v9443 39 z9458) 30 = v 30 := (hf9445 30 (by decide)).trans ((hf9431 30 (by decide)).trans (hf9408 30 (by decide))); (try rw [h9]); clear h9; have h9 : (va_up v9443 39 z9458) 40 = v9443 40 := rfl; (try rw [h9]); clear h9; have h9 : (va_up v9443 39 z9458) 41 = v9443 41 := rfl; (try rw [h9]); clear h9; omega) (by have h9 : (va_up v9443 39 z9458) 37 = (v 37) := (hf9445 37 (by decide)).trans ((hf9431 37 (by decide)).trans (hf9408 37 (by decide))); have h8 : (va_up v9443 39 z9458) 38 = (v9443 38) := rfl; (try rw [h9]); (try rw [h8]); exact hd (by omega))) (cwV 0 hwd (gV wk_1010 wk_1007 wk_1008 wk_1009 wk_5) rfl rfl rfl (by decide +kernel) ⟨(by show fr + 3 + 1 ≤ fr + 7; omega), (by show 8 + (2 + 11) + (lc + 120) ≤ lc + 280; omega)⟩) ⟨PM.blind, va_recv hK hP (ci := 12) (q0 := 0) rfl rfl, fun U hU hW => ⟨rfl, PM.at hK hE hP hS hU hW⟩⟩ rfl rfl hl.1 rfl (lv_room (Nat.le_of_ble_eq_true rfl)) dX12_either_116 ⟨Nat.le_of_ble_eq_true rfl, Nat.le_of_ble_eq_true rfl⟩) hS (fun q _ h => (freeM hS) q h) (freeM hS) (fun u t H1 locs ht hvm hw hB hz1 hk1 hS => ?_)
              unfold BM at hB
              rw [ht] at hB
              obtain ⟨v9467, F9468, rc9⟩ := u
              obtain ⟨hI, hrc, hf9469, hG9470, hw⟩ := hw
              dsimp only at hI hrc hB hf9469 hG9470 hw
              have hF := frCF (by decide) hG9470 hF
              rw [hrc] at hB
              have hP : va_P (dC, dI) classes (wM g c v9467 F9468 rc) H1 := hB
              replace hw : (z9458.toInt ≤ (v9467 39).toInt ∧ (v9467 39).toInt ≤ ((va_up v9443 39 z9458) 30).toInt ∧ (v9443 38).toInt ≤ (v9467 38).toInt ∧ (v9467 38).toInt - (v9443 38).toInt ≤ (v9467 39).toInt - z9458.toInt ∧ (v9443 41).toInt ≤ (v9467 41).toInt ∧ ((v9467 40).toInt < 0 → (v9467 41).toInt = (v9443 41).toInt)) ∧ keepL ((va_up v9443 39 z9458) 37) (F9444 28) (F9444 29) (F9468 28) (F9468 29) ∧ ((v9467 40).toInt < 0 → dp (F9468 28) (F9468 29) (bI ((va_up v9443 39 z9458) 37)) (v9467 38).toInt.toNat = some (((d + 1) + 1) + 1)) := hw
              rw [show (va_up v9443 39 z9458) 30 = v 30 from (hf9445 30 (by decide)).trans ((hf9431 30 (by decide)).trans (hf9408 30 (by decide)))] at hw
              rw [show (va_up v9443 39 z9458) 37 = v 37 from (hf9445 37 (by decide)).trans ((hf9431 37 (by decide)).trans (hf9408 37 (by decide)))] at hw
              have hw_r9466 := hw
              clear hw
              have t9471 : 0 ≤ (v9467 38).toInt ∧ (v9467 38).toInt ≤ 120 := hI.1 38 _ _ rfl
              have t9472 : 0 ≤ (v9467 39).toInt ∧ (v9467 39).toInt ≤ 120 := hI.1 39 _ _ rfl
              have t9473 : 0 ≤ (v9467 41).toInt ∧ (v9467 41).toInt ≤ 8 := hI.1 41 _ _ rfl
              clear hz1
              generalize H1 = H at hP hS ⊢
              replace hk := hk.tr hw_r9466.2.1
              replace hd := hw_r9466.2.2
              replace hw_r9466 := hw_r9466.1
              refine lv_aload_n hx hb dX12_either_119 rfl (lv_at hl 1 rfl) ?_
              refine lv_iconst (v := 4) hx hb dX12_either_120 (by decide) ?_
              refine lv_iconst (v := 0) hx hb dX12_either_121 (by decide) ?_
              have t9474 : 0 ≤ (v 37).toInt ∧ (v 37).toInt ≤ 9 := by have h9 := hI.1 37 _ _ rfl; rw [show v9467 37 = v 37 from (hf9469 37 (by decide)).trans ((hf9445 37 (by decide)).trans ((hf9431 37 (by decide)).trans (hf9408 37 (by decide))))] at h9; exact h9
              have t9475 : 0 ≤ (v9467 38).toInt ∧ (v9467 38).toInt ≤ 120 := hI.1 38 _ _ rfl
              refine va_callv (va_runV (As := [.int 4, .int 0]) (rest := []) ⟨hx, hb, hml, hown, hwd⟩ (c_X12_lay l dC dI g c adK adV v9467 F9468 rc H.size 4 0 hg hI (by have h9 : v9467 38 = v9467 38 := rfl; rw [h9]; omega)) (cwV 2 hwd (gV wk_1021 wk_1018 wk_1019 wk_1020 wk_5) rfl rfl rfl (by decide +kernel) ⟨(by show 1 + 1 ≤ fr + 7; omega), (by show 8 + (3 + 11) + (40) ≤ lc + 280; omega)⟩) ⟨PM.blind, va_recv hK hP (ci := 12) (q0 := 0) rfl rfl, fun U hU hW => ⟨rfl, PM.at hK hE hP hS hU hW⟩⟩ rfl rfl hl.1 rfl (lv_room (Nat.le_of_ble_eq_true rfl)) dX12_either_122 ⟨Nat.le_of_ble_eq_true rfl, Nat.le_of_ble_eq_true rfl⟩) hS (fun q _ h => (freeM hS) q h) (freeM hS) (fun u t H1 locs ht hvm hw hB hz1 hk1 hS => ?_)
              unfold BM at hB
              rw [ht] at hB
              obtain ⟨v9477, F9478, rc9⟩ := u
              obtain ⟨hI, hrc, hf9479, hG9480, hw⟩ := hw
              dsimp only at hI hrc hB hf9479 hG9480 hw
              have hF := frCF (by decide) hG9480 hF
              rw [hrc] at hB
              have hP : va_P (dC, dI) classes (wM g c v9477 F9478 rc) H1 := hB
              replace hw : (v9477 38).toInt = (v9467 38).toInt + 1 ∧ keepL (v9467 37) (F9468 28) (F9468 29) (F9478 28) (F9478 29) ∧ dp (F9478 28) (F9478 29) (bI (v9467 37)) ((v9467 38).toInt.toNat + 1) = dpS (dp (F9468 28) (F9468 29) (bI (v9467 37)) (v9467 38).toInt.toNat) (4 : Int32) (0 : Int32) := hw
              rw [show v9467 37 = v 37 from (hf9469 37 (by decide)).trans ((hf9445 37 (by decide)).trans ((hf9431 37 (by decide)).trans (hf9408 37 (by decide))))] at hw
              have hw_r9476 := hw
              clear hw
              have t9481 : 0 ≤ (v9477 38).toInt ∧ (v9477 38).toInt ≤ 120 := hI.1 38 _ _ rfl
              have k9482 : (4 : Int32).toInt = 4 := by decide
              have k9483 : (0 : Int32).toInt = 0 := by decide
              clear hz1
              generalize H1 = H at hP hS ⊢
              replace hk := hk.tr hw_r9476.2.1
              replace hd : (v9467 40).toInt < 0 → dp (F9478 28) (F9478 29) (bI (v 37)) (v9477 38).toInt.toNat = some ((((d + 1) + 1) + 1) - 2) := fun hf => (by have e9 : (v9477 38).toInt.toNat = (v9467 38).toInt.toNat + 1 := (by omega); rw [e9, hw_r9476.2.2, hd hf]; exact dpS_4 (by decide) (by omega))
              replace hw_r9476 := hw_r9476.1
              refine lv_aload_n hx hb dX12_either_125 rfl (lv_at hl 1 rfl) ?_
              refine lv_dup hx hb dX12_either_126 rfl ?_
              refine va_get (D := (dC, dI)) (ci := 12) (v := .int (v9477 41)) (C := RX12) (T := TX12) (N := 63) hx hb hwd inA_X12 hown hK hP 0 rfl rfl 41 (by decide) (hwd _ wk_1006) (fun _ h9 => h9) rfl dX12_either_127 ?_
              refine my_top (v := v9467 41) (hf9479 41 (by decide)) ?_
              have t9484 : 0 ≤ (v9467 41).toInt ∧ (v9467 41).toInt ≤ 8 := by have h9 := hI.1 41 _ _ rfl; rw [show v9477 41 = v9467 41 from hf9479 41 (by decide)] at h9; exact h9
              refine lv_iconst (v := 1) hx hb dX12_either_130 (by decide) ?_
              refine lv_isub hx hb dX12_either_131 ?_
              refine lv_topi (fun z9485 e9486 => ?_)
              try (have t9487 := tsub e9486 (a := (v9467 41).toInt) rfl (b := 1) (by decide) (by omega))
              refine va_put (D := (dC, dI)) (ci := 12) (v := .int z9485) (ty := .int) (C := RX12) (T := TX12) (N := 63) (fs := fsM_0 g v9477 rc) hx hb hwd inA_X12 tyX12 tyX12_ok nmX12 hown hK hP (DM hg) hS 0 rfl rfl 41 (by decide) (hwd _ wk_1006) (fun _ h9 => h9) rfl (by decide +kernel) rfl rfl (Nat.le_of_ble_eq_true rfl) dX12_either_132 (fun H locs hP _ hS => ?_)
              have hP := va_P_eq (pM_41 g c _ _ _ _) hP
              have hI := IM.put hI 41 z9485 rfl (by omega)
              have hP9 : va_P (dC, dI) classes (wM g c (va_up v9477 41 z9485) F9478 rc) H := hP
              exact W.vret hx hb hr (fun t ht hW => ⟨⟨((va_up v9477 41 z9485), F9478, rc), rfl, ⟨hI, rfl, (frU (by decide) (frC (by decide) hf9479 (frC (by decide) hf9469 (frU (by decide) (frC (by decide) hf9445 (frC (by decide) hf9431 (frC (by decide) hf9408 (fun _ _ => rfl)))))))), hF, (by show ((v 39).toInt ≤ ((va_up v9477 41 z9485) 39).toInt ∧ ((va_up v9477 41 z9485) 39).toInt ≤ (v 30).toInt ∧ (v 38).toInt ≤ (v9477 38).toInt ∧ (v9477 38).toInt - (v 38).toInt ≤ ((va_up v9477 41 z9485) 39).toInt - (v 39).toInt ∧ (v 41).toInt ≤ z9485.toInt ∧ (((va_up v9477 41 z9485) 40).toInt < 0 → z9485.toInt = (v 41).toInt)) ∧ keepL (v 37) (F 28) (F 29) (F9478 28) (F9478 29) ∧ (((va_up v9477 41 z9485) 40).toInt < 0 → dp (F9478 28) (F9478 29) (bI (v 37)) (v9477 38).toInt.toNat = some (d + 1)); rw [show (va_up v9477 41 z9485) 39 = v9467 39 from hf9479 39 (by decide)]; rw [show (va_up v9477 41 z9485) 40 = v9467 40 from hf9479 40 (by decide)]; exact ⟨by omega, hk, fun hf => (hd (by omega)).trans (congrArg some (by omega))⟩)⟩, (by show va_P _ _ _ t.heap; rw [ht]; exact hP9)⟩, hS.F ht⟩) hS.2.2 dX12_either_135
            · skip
              have t9488 := cv_ne (a := r9454.toInt) rfl (b := 58) (by decide) c9455
              refine lv_aload_n hx hb dX12_either_100 rfl (lv_at hl 1 rfl) ?_
              refine va_callv (va_runV (As := []) (rest := []) ⟨hx, hb, hml, hown, hwd⟩ (c_X12_wrong l dC dI g c adK adV v9443 F9444 rc H.size  hg hI ) (cwV 0 hwd (gV wk_1029 wk_1026 wk_1027 wk_1028 wk_5) rfl rfl rfl (by decide +kernel) ⟨(by show 1 + 1 ≤ fr + 7; omega), (by show 8 + (1 + 11) + (40) ≤ lc + 280; omega)⟩) ⟨PM.blind, va_recv hK hP (ci := 12) (q0 := 0) rfl rfl, fun U hU hW => ⟨rfl, PM.at hK hE hP hS hU hW⟩⟩ rfl rfl hl.1 rfl (lv_room (Nat.le_of_ble_eq_true rfl)) dX12_either_101 ⟨Nat.le_of_ble_eq_true rfl, Nat.le_of_ble_eq_true rfl⟩) hS (fun q _ h => (freeM hS) q h) (freeM hS) (fun u t H1 locs ht hvm hw hB hz1 hk1 hS => ?_)
              unfold BM at hB
              rw [ht] at hB
              obtain ⟨v9490, F9491, rc9⟩ := u
              obtain ⟨hI, hrc, hf9492, hG9493, hw⟩ := hw
              dsimp only at hI hrc hB hf9492 hG9493 hw
              have hF := frCF (by decide) hG9493 hF
              rw [hrc] at hB
              have hP : va_P (dC, dI) classes (wM g c v9490 F9491 rc) H1 := hB
              replace hw : 0 ≤ (v9490 40).toInt := hw
              have hw_r9489 := hw
              clear hw
              clear hz1
              generalize H1 = H at hP hS ⊢
              replace hk : keepL (v 37) (F 28) (F 29) (F9491 28) (F9491 29) := by rw [hG9493 28 (by decide), hG9493 29 (by decide)]; exact hk
              replace hd : (v9490 40).toInt < 0 → dp (F9491 28) (F9491 29) (bI (v 37)) (v9443 38).toInt.toNat = some ((d + 1) + 1) := fun hf => (by rw [hG9493 28 (by decide), hG9493 29 (by decide)]; exact hd (by omega))
              have hP9 : va_P (dC, dI) classes (wM g c v9490 F9491 rc) H := hP
              exact W.vret hx hb hr (fun t ht hW => ⟨⟨(v9490, F9491, rc), rfl, ⟨hI, rfl, (frC (by decide) hf9492 (frC (by decide) hf9445 (frC (by decide) hf9431 (frC (by decide) hf9408 (fun _ _ => rfl))))), hF, (by show ((v 39).toInt ≤ (v9490 39).toInt ∧ (v9490 39).toInt ≤ (v 30).toInt ∧ (v 38).toInt ≤ (v9490 38).toInt ∧ (v9490 38).toInt - (v 38).toInt ≤ (v9490 39).toInt - (v 39).toInt ∧ (v 41).toInt ≤ (v9490 41).toInt ∧ ((v9490 40).toInt < 0 → (v9490 41).toInt = (v 41).toInt)) ∧ keepL (v 37) (F 28) (F 29) (F9491 28) (F9491 29) ∧ ((v9490 40).toInt < 0 → dp (F9491 28) (F9491 29) (bI (v 37)) (v9490 38).toInt.toNat = some (d + 1)); rw [show v9490 39 = v9443 39 from hf9492 39 (by decide)]; rw [show v9490 38 = v9443 38 from hf9492 38 (by decide)]; rw [show v9490 41 = v9443 41 from hf9492 41 (by decide)]; exact ⟨by omega, hk, fun hf => (hd (by omega)).trans (congrArg some (by omega))⟩)⟩, (by show va_P _ _ _ t.heap; rw [ht]; exact hP9)⟩, hS.F ht⟩) hS.2.2 dX12_either_104
          · skip
            have t9494 := cv_nlt (a := (v9443 40).toInt) rfl (b := 0) (by decide) c9450
            have hP9 : va_P (dC, dI) classes (wM g c v9443 F9444 rc) H := hP
            exact W.vret hx hb hr (fun t ht hW => ⟨⟨(v9443, F9444, rc), rfl, ⟨hI, rfl, (frC (by decide) hf9445 (frC (by decide) hf9431 (frC (by decide) hf9408 (fun _ _ => rfl)))), hF, (by show ((v 39).toInt ≤ (v9443 39).toInt ∧ (v9443 39).toInt ≤ (v 30).toInt ∧ (v 38).toInt ≤ (v9443 38).toInt ∧ (v9443 38).toInt - (v 38).toInt ≤ (v9443 39).toInt - (v 39).toInt ∧ (v 41).toInt ≤ (v9443 41).toInt ∧ ((v9443 40).toInt < 0 → (v9443 41).toInt = (v 41).toInt)) ∧ keepL (v 37) (F 28) (F 29) (F9444 28) (F9444 29) ∧ ((v9443 40).toInt < 0 → dp (F9444 28) (F9444 29) (bI (v 37)) (v9443 38).toInt.toNat = some (d + 1)); exact ⟨by omega, hk, fun hf => (hd (by omega)).trans (congrArg some (by omega))⟩)⟩, (by show va_P _ _ _ t.heap; rw [ht]; exact hP9)⟩, hS.F ht⟩) hS.2.2 dX12_either_90
        · skip
          have t9495 := cv_eq (a := r9428.toInt) rfl (b := 0) (by decide) c9435
          have hP9 : va_P (dC, dI) classes (wM g c v9429 F9430 rc) H := hP
          exact W.vret hx hb hr (fun t ht hW => ⟨⟨(v9429, F9430, rc), rfl, ⟨hI, rfl, (frC (by decide) hf9431 (frC (by decide) hf9408 (fun _ _ => rfl))), hF, (by show ((v 39).toInt ≤ (v9429 39).toInt ∧ (v9429 39).toInt ≤ (v 30).toInt ∧ (v 38).toInt ≤ (v9429 38).toInt ∧ (v9429 38).toInt - (v 38).toInt ≤ (v9429 39).toInt - (v 39).toInt ∧ (v 41).toInt ≤ (v9429 41).toInt ∧ ((v9429 40).toInt < 0 → (v9429 41).toInt = (v 41).toInt)) ∧ keepL (v 37) (F 28) (F 29) (F9430 28) (F9430 29) ∧ ((v9429 40).toInt < 0 → dp (F9430 28) (F9430 29) (bI (v 37)) (v9429 38).toInt.toNat = some (d + 1)); rw [show v9429 38 = v9406 38 from hf9431 38 (by decide)]; exact ⟨by omega, hk, fun hf => (hd (by omega)).trans (congrArg some (by omega))⟩)⟩, (by show va_P _ _ _ t.heap; rw [ht]; exact hP9)⟩, hS.F ht⟩) hS.2.2 dX12_either_78
      · skip
        have t9496 := cv_ne (a := r9423.toInt) rfl (b := 63) (by decide) c9424
        have hP9 : va_P (dC, dI) classes (wM g c v9406 F9407 rc) H := hP
        exact W.vret hx hb hr (fun t ht hW => ⟨⟨(v9406, F9407, rc), rfl, ⟨hI, rfl, (frC (by decide) hf9408 (fun _ _ => rfl)), hF, (by show ((v 39).toInt ≤ (v9406 39).toInt ∧ (v9406 39).toInt ≤ (v 30).toInt ∧ (v 38).toInt ≤ (v9406 38).toInt ∧ (v9406 38).toInt - (v 38).toInt ≤ (v9406 39).toInt - (v 39).toInt ∧ (v 41).toInt ≤ (v9406 41).toInt ∧ ((v9406 40).toInt < 0 → (v9406 41).toInt = (v 41).toInt)) ∧ keepL (v 37) (F 28) (F 29) (F9407 28) (F9407 29) ∧ ((v9406 40).toInt < 0 → dp (F9407 28) (F9407 29) (bI (v 37)) (v9406 38).toInt.toNat = some (d + 1)); exact ⟨by omega, hk, fun hf => (hd (by omega)).trans (congrArg some (by omega))⟩)⟩, (by show va_P _ _ _ t.heap; rw [ht]; exact hP9)⟩, hS.F ht⟩) hS.2.2 dX12_either_70
  · skip
    have t9497 := cv_nle (a := 0) (by decide) (b := (v9406 40).toInt) rfl c9416
    refine lv_iload_n hx hb dX12_either_16 rfl (lv_at hl 0 rfl) ?_
    refine lv_bipush (v := 60) hx hb dX12_either_17 (by decide) ?_
    refine lv_icmp_eq (tgt := 34) hx hb dX12_either_19 (by decide) (fun c9498 => ?_) (fun c9498 => ?_)
    · skip
      have t9499 := cv_eq (a := r9415.toInt) rfl (b := 60) (by decide) c9498
      refine lv_aload_n hx hb dX12_either_34 rfl (lv_at hl 1 rfl) ?_
      refine lv_dup hx hb dX12_either_35 rfl ?_
      refine va_get (D := (dC, dI)) (ci := 12) (v := .int (v9406 39)) (C := RX12) (T := TX12) (N := 63) hx hb hwd inA_X12 hown hK hP 0 rfl rfl 39 (by decide) (hwd _ wk_1004) (fun _ h9 => h9) rfl dX12_either_36 ?_
      have t9500 : 0 ≤ (v9406 39).toInt ∧ (v9406 39).toInt ≤ 120 := hI.1 39 _ _ rfl
      refine lv_iconst (v := 1) hx hb dX12_either_39 (by decide) ?_
      refine lv_iadd hx hb dX12_either_40 ?_
      refine lv_topi (fun z9501 e9502 => ?_)
      try (have t9503 := tadd e9502 (a := (v9406 39).toInt) rfl (b := 1) (by decide) (by omega))
      refine va_put (D := (dC, dI)) (ci := 12) (v := .int z9501) (ty := .int) (C := RX12) (T := TX12) (N := 63) (fs := fsM_0 g v9406 rc) hx hb hwd inA_X12 tyX12 tyX12_ok nmX12 hown hK hP (DM hg) hS 0 rfl rfl 39 (by decide) (hwd _ wk_1004) (fun _ h9 => h9) rfl (by decide +kernel) rfl rfl (Nat.le_of_ble_eq_true rfl) dX12_either_41 (fun H locs hP _ hS => ?_)
      have hP := va_P_eq (pM_39 g c _ _ _ _) hP
      have hI := IM.put hI 39 z9501 rfl (by omega)
      refine lv_aload_n hx hb dX12_either_44 rfl (lv_at hl 1 rfl) ?_
      have t9504 : 0 ≤ (v 30).toInt ∧ (v 30).toInt ≤ 120 := by have h9 := hI.1 30 _ _ rfl; rw [show (va_up v9406 39 z9501) 30 = v 30 from hf9408 30 (by decide)] at h9; exact h9
      have t9505 : 0 ≤ (v 37).toInt ∧ (v 37).toInt ≤ 9 := by have h9 := hI.1 37 _ _ rfl; rw [show (va_up v9406 39 z9501) 37 = v 37 from hf9408 37 (by decide)] at h9; exact h9
      have t9506 : 0 ≤ (v9406 38).toInt ∧ (v9406 38).toInt ≤ 120 := hI.1 38 _ _ rfl
      have t9507 : 0 ≤ z9501.toInt ∧ z9501.toInt ≤ 120 := hI.1 39 _ _ rfl
      have t9508 : 0 ≤ (v9406 41).toInt ∧ (v9406 41).toInt ≤ 8 := hI.1 41 _ _ rfl
      refine va_callv (va_runV (As := []) (rest := []) ⟨hx, hb, hml, hown, hwd⟩ (c_X12_sum D fr lc rO rE l dC dI g c adK adV (va_up v9406 39 z9501) F9407 rc H.size  (d + 1) hg hI (by have h9 : (va_up v9406 39 z9501) 38 = v9406 38 := rfl; (try rw [h9]); clear h9; have h9 : (va_up v9406 39 z9501) 39 = z9501 := rfl; (try rw [h9]); clear h9; have h9 : (va_up v9406 39 z9501) 30 = v 30 := hf9408 30 (by decide); (try rw [h9]); clear h9; have h9 : (va_up v9406 39 z9501) 40 = v9406 40 := rfl; (try rw [h9]); clear h9; have h9 : (va_up v9406 39 z9501) 41 = v9406 41 := rfl; (try rw [h9]); clear h9; omega) (by have h9 : (va_up v9406 39 z9501) 37 = (v 37) := hf9408 37 (by decide); have h8 : (va_up v9406 39 z9501) 38 = (v9406 38) := rfl; (try rw [h9]); (try rw [h8]); exact hd (by omega))) (cwV 0 hwd (gV wk_1043 wk_1011 wk_1012 wk_1013 wk_5) rfl rfl rfl (by decide +kernel) ⟨(by show fr + 6 + 1 ≤ fr + 7; omega), (by show 8 + (2 + 11) + (lc + 240) ≤ lc + 280; omega)⟩) ⟨PM.blind, va_recv hK hP (ci := 12) (q0 := 0) rfl rfl, fun U hU hW => ⟨rfl, PM.at hK hE hP hS hU hW⟩⟩ rfl rfl hl.1 rfl (lv_room (Nat.le_of_ble_eq_true rfl)) dX12_either_45 ⟨Nat.le_of_ble_eq_true rfl, Nat.le_of_ble_eq_true rfl⟩) hS (fun q _ h => (freeM hS) q h) (freeM hS) (fun u t H1 locs ht hvm hw hB hz1 hk1 hS => ?_)
      unfold BM at hB
      rw [ht] at hB
      obtain ⟨v9510, F9511, rc9⟩ := u
      obtain ⟨hI, hrc, hf9512, hG9513, hw⟩ := hw
      dsimp only at hI hrc hB hf9512 hG9513 hw
      have hF := frCF (by decide) hG9513 hF
      rw [hrc] at hB
      have hP : va_P (dC, dI) classes (wM g c v9510 F9511 rc) H1 := hB
      replace hw : (z9501.toInt ≤ (v9510 39).toInt ∧ (v9510 39).toInt ≤ ((va_up v9406 39 z9501) 30).toInt ∧ (v9406 38).toInt ≤ (v9510 38).toInt ∧ (v9510 38).toInt - (v9406 38).toInt ≤ (v9510 39).toInt - z9501.toInt ∧ (v9406 41).toInt ≤ (v9510 41).toInt ∧ ((v9510 40).toInt < 0 → (v9510 41).toInt = (v9406 41).toInt)) ∧ keepL ((va_up v9406 39 z9501) 37) (F9407 28) (F9407 29) (F9511 28) (F9511 29) ∧ ((v9510 40).toInt < 0 → dp (F9511 28) (F9511 29) (bI ((va_up v9406 39 z9501) 37)) (v9510 38).toInt.toNat = some ((d + 1) + 1)) := hw
      rw [show (va_up v9406 39 z9501) 30 = v 30 from hf9408 30 (by decide)] at hw
      rw [show (va_up v9406 39 z9501) 37 = v 37 from hf9408 37 (by decide)] at hw
      have hw_r9509 := hw
      clear hw
      have t9514 : 0 ≤ (v9510 38).toInt ∧ (v9510 38).toInt ≤ 120 := hI.1 38 _ _ rfl
      have t9515 : 0 ≤ (v9510 39).toInt ∧ (v9510 39).toInt ≤ 120 := hI.1 39 _ _ rfl
      have t9516 : 0 ≤ (v9510 41).toInt ∧ (v9510 41).toInt ≤ 8 := hI.1 41 _ _ rfl
      clear hz1
      generalize H1 = H at hP hS ⊢
      replace hk := hk.tr hw_r9509.2.1
      replace hd := hw_r9509.2.2
      replace hw_r9509 := hw_r9509.1
      refine lv_aload_n hx hb dX12_either_48 rfl (lv_at hl 1 rfl) ?_
      refine lv_iload_n hx hb dX12_either_49 rfl (lv_at hl 0 rfl) ?_
      refine lv_iconst (v := 0) hx hb dX12_either_50 (by decide) ?_
      have t9517 : 0 ≤ (v 37).toInt ∧ (v 37).toInt ≤ 9 := by have h9 := hI.1 37 _ _ rfl; rw [show v9510 37 = v 37 from (hf9512 37 (by decide)).trans (hf9408 37 (by decide))] at h9; exact h9
      have t9518 : 0 ≤ (v9510 38).toInt ∧ (v9510 38).toInt ≤ 120 := hI.1 38 _ _ rfl
      refine va_callv (va_runV (As := [.int r9415, .int 0]) (rest := []) ⟨hx, hb, hml, hown, hwd⟩ (c_X12_lay l dC dI g c adK adV v9510 F9511 rc H.size r9415 0 hg hI (by have h9 : v9510 38 = v9510 38 := rfl; rw [h9]; omega)) (cwV 2 hwd (gV wk_1021 wk_1018 wk_1019 wk_1020 wk_5) rfl rfl rfl (by decide +kernel) ⟨(by show 1 + 1 ≤ fr + 7; omega), (by show 8 + (3 + 11) + (40) ≤ lc + 280; omega)⟩) ⟨PM.blind, va_recv hK hP (ci := 12) (q0 := 0) rfl rfl, fun U hU hW => ⟨rfl, PM.at hK hE hP hS hU hW⟩⟩ rfl rfl hl.1 rfl (lv_room (Nat.le_of_ble_eq_true rfl)) dX12_either_51 ⟨Nat.le_of_ble_eq_true rfl, Nat.le_of_ble_eq_true rfl⟩) hS (fun q _ h => (freeM hS) q h) (freeM hS) (fun u t H1 locs ht hvm hw hB hz1 hk1 hS => ?_)
      unfold BM at hB
      rw [ht] at hB
      obtain ⟨v9520, F9521, rc9⟩ := u
      obtain ⟨hI, hrc, hf9522, hG9523, hw⟩ := hw
      dsimp only at hI hrc hB hf9522 hG9523 hw
      have hF := frCF (by decide) hG9523 hF
      rw [hrc] at hB
      have hP : va_P (dC, dI) classes (wM g c v9520 F9521 rc) H1 := hB
      replace hw : (v9520 38).toInt = (v9510 38).toInt + 1 ∧ keepL (v9510 37) (F9511 28) (F9511 29) (F9521 28) (F9521 29) ∧ dp (F9521 28) (F9521 29) (bI (v9510 37)) ((v9510 38).toInt.toNat + 1) = dpS (dp (F9511 28) (F9511 29) (bI (v9510 37)) (v9510 38).toInt.toNat) r9415 (0 : Int32) := hw
      rw [show v9510 37 = v 37 from (hf9512 37 (by decide)).trans (hf9408 37 (by decide))] at hw
      have hw_r9519 := hw
      clear hw
      have t9524 : 0 ≤ (v9520 38).toInt ∧ (v9520 38).toInt ≤ 120 := hI.1 38 _ _ rfl
      have k9525 : (0 : Int32).toInt = 0 := by decide
      clear hz1
      generalize H1 = H at hP hS ⊢
      replace hk := hk.tr hw_r9519.2.1
      replace hd : (v9510 40).toInt < 0 → dp (F9521 28) (F9521 29) (bI (v 37)) (v9520 38).toInt.toNat = some (((d + 1) + 1) - 1) := fun hf => (by have e9 : (v9520 38).toInt.toNat = (v9510 38).toInt.toNat + 1 := (by omega); rw [e9, hw_r9519.2.2, hd hf]; exact dpS_5 (by omega) (by omega) (by omega) (by omega) (by omega))
      replace hw_r9519 := hw_r9519.1
      refine lv_aload_n hx hb dX12_either_54 rfl (lv_at hl 1 rfl) ?_
      refine va_get (D := (dC, dI)) (ci := 12) (v := .int (v9520 40)) (C := RX12) (T := TX12) (N := 63) hx hb hwd inA_X12 hown hK hP 0 rfl rfl 40 (by decide) (hwd _ wk_1005) (fun _ h9 => h9) rfl dX12_either_55 ?_
      refine my_top (v := v9510 40) (hf9522 40 (by decide)) ?_
      refine lv_if_ge (tgt := 70) hx hb dX12_either_58 (by decide) (fun c9526 => ?_) (fun c9526 => ?_)
      · skip
        have t9527 := cv_le (a := 0) (by decide) (b := (v9510 40).toInt) rfl c9526
        have hP9 : va_P (dC, dI) classes (wM g c v9520 F9521 rc) H := hP
        exact W.vret hx hb hr (fun t ht hW => ⟨⟨(v9520, F9521, rc), rfl, ⟨hI, rfl, (frC (by decide) hf9522 (frC (by decide) hf9512 (frU (by decide) (frC (by decide) hf9408 (fun _ _ => rfl))))), hF, (by show ((v 39).toInt ≤ (v9520 39).toInt ∧ (v9520 39).toInt ≤ (v 30).toInt ∧ (v 38).toInt ≤ (v9520 38).toInt ∧ (v9520 38).toInt - (v 38).toInt ≤ (v9520 39).toInt - (v 39).toInt ∧ (v 41).toInt ≤ (v9520 41).toInt ∧ ((v9520 40).toInt < 0 → (v9520 41).toInt = (v 41).toInt)) ∧ keepL (v 37) (F 28) (F 29) (F9521 28) (F9521 29) ∧ ((v9520 40).toInt < 0 → dp (F9521 28) (F9521 29) (bI (v 37)) (v9520 38).toInt.toNat = some (d + 1)); rw [show v9520 39 = v9510 39 from hf9522 39 (by decide)]; rw [show v9520 41 = v9510 41 from hf9522 41 (by decide)]; rw [show v9520 40 = v9510 40 from hf9522 40 (by decide)]; exact ⟨by omega, hk, fun hf => (hd (by omega)).trans (congrArg some (by omega))⟩)⟩, (by show va_P _ _ _ t.heap; rw [ht]; exact hP9)⟩, hS.F ht⟩) hS.2.2 dX12_either_70
      · skip
        have t9528 := cv_nle (a := 0) (by decide) (b := (v9510 40).toInt) rfl c9526
        refine lv_aload_n hx hb dX12_either_61 rfl (lv_at hl 1 rfl) ?_
        have t9529 : 0 ≤ (v 30).toInt ∧ (v 30).toInt ≤ 120 := by have h9 := hI.1 30 _ _ rfl; rw [show v9520 30 = v 30 from (hf9522 30 (by decide)).trans ((hf9512 30 (by decide)).trans (hf9408 30 (by decide)))] at h9; exact h9
        have t9530 : 0 ≤ (v9510 39).toInt ∧ (v9510 39).toInt ≤ 120 := by have h9 := hI.1 39 _ _ rfl; rw [show v9520 39 = v9510 39 from hf9522 39 (by decide)] at h9; exact h9
        refine va_calli (va_runV (As := []) (rest := []) ⟨hx, hb, hml, hown, hwd⟩ (c_X12_look l dC dI g c adK adV v9520 F9521 rc H.size  hg hI ) (cwV 0 hwd (gV wk_1017 wk_1014 wk_1015 wk_1016 wk_5) rfl rfl rfl (by decide +kernel) ⟨(by show 1 + 1 ≤ fr + 7; omega), (by show 8 + (1 + 11) + (40) ≤ lc + 280; omega)⟩) ⟨PM.blind, va_recv hK hP (ci := 12) (q0 := 0) rfl rfl, fun U hU hW => ⟨rfl, PM.at hK hE hP hS hU hW⟩⟩ rfl rfl hl.1 rfl (lv_room (Nat.le_of_ble_eq_true rfl)) dX12_either_62 ⟨Nat.le_of_ble_eq_true rfl, Nat.le_of_ble_eq_true rfl⟩) hS (fun q _ h => (freeM hS) q h) (freeM hS) (fun r9531 u t H1 locs ht hvm hw hB hz1 hk1 hS => ?_)
        unfold BM at hB
        rw [ht] at hB
        have hP : va_P (dC, dI) classes (wM g c v9520 F9521 rc) H1 := hB
        replace hw : r9531.toInt = lkM (v9520 39) (v9520 30) (F9521 24) ∧ ((v9520 39).toInt < (v9520 30).toInt ∨ r9531.toInt = -1) := hw
        rw [show v9520 39 = v9510 39 from hf9522 39 (by decide)] at hw
        rw [show v9520 30 = v 30 from (hf9522 30 (by decide)).trans ((hf9512 30 (by decide)).trans (hf9408 30 (by decide)))] at hw
        rw [hF 24 (by decide)] at hw
        have hw_r9531 := hw
        clear hw
        clear hz1
        generalize H1 = H at hP hS ⊢
        refine lv_bipush (v := 63) hx hb dX12_either_65 (by decide) ?_
        refine lv_icmp_eq (tgt := 71) hx hb dX12_either_67 (by decide) (fun c9532 => ?_) (fun c9532 => ?_)
        · skip
          have t9533 := cv_eq (a := r9531.toInt) rfl (b := 63) (by decide) c9532
          refine lv_aload_n hx hb dX12_either_71 rfl (lv_at hl 1 rfl) ?_
          have t9534 : 0 ≤ (v9510 39).toInt ∧ (v9510 39).toInt ≤ 120 := by have h9 := hI.1 39 _ _ rfl; rw [show v9520 39 = v9510 39 from hf9522 39 (by decide)] at h9; exact h9
          have t9535 : 0 ≤ (v9510 41).toInt ∧ (v9510 41).toInt ≤ 8 := by have h9 := hI.1 41 _ _ rfl; rw [show v9520 41 = v9510 41 from hf9522 41 (by decide)] at h9; exact h9
          refine va_calli (va_runV (As := []) (rest := []) ⟨hx, hb, hml, hown, hwd⟩ (c_X12_opens l dC dI g c adK adV v9520 F9521 rc H.size  hg hI (by have h9 : v9520 39 = v9510 39 := hf9522 39 (by decide); (try rw [h9]); clear h9; have h9 : v9520 30 = v 30 := (hf9522 30 (by decide)).trans ((hf9512 30 (by decide)).trans (hf9408 30 (by decide))); (try rw [h9]); clear h9; omega)) (cwV 0 hwd (gV wk_1025 wk_1022 wk_1023 wk_1024 wk_5) rfl rfl rfl (by decide +kernel) ⟨(by show 2 + 1 ≤ fr + 7; omega), (by show 8 + (1 + 11) + (80) ≤ lc + 280; omega)⟩) ⟨PM.blind, va_recv hK hP (ci := 12) (q0 := 0) rfl rfl, fun U hU hW => ⟨rfl, PM.at hK hE hP hS hU hW⟩⟩ rfl rfl hl.1 rfl (lv_room (Nat.le_of_ble_eq_true rfl)) dX12_either_72 ⟨Nat.le_of_ble_eq_true rfl, Nat.le_of_ble_eq_true rfl⟩) hS (fun q _ h => (freeM hS) q h) (freeM hS) (fun r9536 u t H1 locs ht hvm hw hB hz1 hk1 hS => ?_)
          unfold BM at hB
          rw [ht] at hB
          obtain ⟨v9537, F9538, rc9⟩ := u
          obtain ⟨hI, hrc, hf9539, hG9540, hw⟩ := hw
          dsimp only at hI hrc hB hf9539 hG9540 hw
          have hF := frCF (by decide) hG9540 hF
          rw [hrc] at hB
          have hP : va_P (dC, dI) classes (wM g c v9537 F9538 rc) H1 := hB
          replace hw : (r9536.toInt = 1 ∧ (v9520 41).toInt < 8 ∧ (v9537 41).toInt = (v9520 41).toInt + 1 ∧ (v9537 39).toInt = (v9520 39).toInt + 1 ∧ (v9537 40).toInt = (v9520 40).toInt) ∨ (r9536.toInt = 0 ∧ (v9520 41).toInt = 8 ∧ 0 ≤ (v9537 40).toInt ∧ (v9537 41).toInt = (v9520 41).toInt ∧ (v9537 39).toInt = (v9520 39).toInt) := hw
          rw [show v9520 41 = v9510 41 from hf9522 41 (by decide)] at hw
          rw [show v9520 39 = v9510 39 from hf9522 39 (by decide)] at hw
          rw [show v9520 40 = v9510 40 from hf9522 40 (by decide)] at hw
          have hw_r9536 := hw
          clear hw
          have t9541 : 0 ≤ (v9537 39).toInt ∧ (v9537 39).toInt ≤ 120 := hI.1 39 _ _ rfl
          have t9542 : 0 ≤ (v9537 41).toInt ∧ (v9537 41).toInt ≤ 8 := hI.1 41 _ _ rfl
          clear hz1
          generalize H1 = H at hP hS ⊢
          replace hk : keepL (v 37) (F 28) (F 29) (F9538 28) (F9538 29) := by rw [hG9540 28 (by decide), hG9540 29 (by decide)]; exact hk
          replace hd : (v9537 40).toInt < 0 → dp (F9538 28) (F9538 29) (bI (v 37)) (v9520 38).toInt.toNat = some (((d + 1) + 1) - 1) := fun hf => (by rw [hG9540 28 (by decide), hG9540 29 (by decide)]; exact hd (by omega))
          refine lv_if_ne (tgt := 79) hx hb dX12_either_75 (by decide) (fun c9543 => ?_) (fun c9543 => ?_)
          · skip
            have t9544 := cv_ne (a := r9536.toInt) rfl (b := 0) (by decide) c9543
            refine lv_aload_n hx hb dX12_either_79 rfl (lv_at hl 1 rfl) ?_
            have t9545 : 0 ≤ (v 30).toInt ∧ (v 30).toInt ≤ 120 := by have h9 := hI.1 30 _ _ rfl; rw [show v9537 30 = v 30 from (hf9539 30 (by decide)).trans ((hf9522 30 (by decide)).trans ((hf9512 30 (by decide)).trans (hf9408 30 (by decide))))] at h9; exact h9
            have t9546 : 0 ≤ (v 37).toInt ∧ (v 37).toInt ≤ 9 := by have h9 := hI.1 37 _ _ rfl; rw [show v9537 37 = v 37 from (hf9539 37 (by decide)).trans ((hf9522 37 (by decide)).trans ((hf9512 37 (by decide)).trans (hf9408 37 (by decide))))] at h9; exact h9
            have t9547 : 0 ≤ (v9520 38).toInt ∧ (v9520 38).toInt ≤ 120 := by have h9 := hI.1 38 _ _ rfl; rw [show v9537 38 = v9520 38 from hf9539 38 (by decide)] at h9; exact h9
            have t9548 : 0 ≤ (v9537 39).toInt ∧ (v9537 39).toInt ≤ 120 := hI.1 39 _ _ rfl
            have t9549 : 0 ≤ (v9537 41).toInt ∧ (v9537 41).toInt ≤ 8 := hI.1 41 _ _ rfl
            refine va_callv (va_runV (As := []) (rest := []) ⟨hx, hb, hml, hown, hwd⟩ (rE l dC dI g c adK adV v9537 F9538 rc H.size  (((d + 1) + 1) - 1) hg hI (by have h9 : v9537 38 = v9520 38 := hf9539 38 (by decide); (try rw [h9]); clear h9; have h9 : v9537 39 = v9537 39 := rfl; (try rw [h9]); clear h9; have h9 : v9537 30 = v 30 := (hf9539 30 (by decide)).trans ((hf9522 30 (by decide)).trans ((hf9512 30 (by decide)).trans (hf9408 30 (by decide)))); (try rw [h9]); clear h9; have h9 : v9537 40 = v9537 40 := rfl; (try rw [h9]); clear h9; have h9 : v9537 41 = v9537 41 := rfl; (try rw [h9]); clear h9; omega) (by have h9 : v9537 37 = (v 37) := (hf9539 37 (by decide)).trans ((hf9522 37 (by decide)).trans ((hf9512 37 (by decide)).trans (hf9408 37 (by decide)))); have h8 : v9537 38 = (v9520 38) := hf9539 38 (by decide); (try rw [h9]); (try rw [h8]); exact hd (by omega))) (cwV 0 hwd (gV wk_1010 wk_1007 wk_1008 wk_1009 wk_5) rfl rfl rfl (by decide +kernel) ⟨(by show fr + 3 + 1 ≤ fr + 7; omega), (by show 8 + (2 + 11) + (lc + 120) ≤ lc + 280; omega)⟩) ⟨PM.blind, va_recv hK hP (ci := 12) (q0 := 0) rfl rfl, fun U hU hW => ⟨rfl, PM.at hK hE hP hS hU hW⟩⟩ rfl rfl hl.1 rfl (lv_room (Nat.le_of_ble_eq_true rfl)) dX12_either_80 ⟨Nat.le_of_ble_eq_true rfl, Nat.le_of_ble_eq_true rfl⟩) hS (fun q _ h => (freeM hS) q h) (freeM hS) (fun u t H1 locs ht hvm hw hB hz1 hk1 hS => ?_)
            unfold BM at hB
            rw [ht] at hB
            obtain ⟨v9551, F9552, rc9⟩ := u
            obtain ⟨hI, hrc, hf9553, hG9554, hw⟩ := hw
            dsimp only at hI hrc hB hf9553 hG9554 hw
            have hF := frCF (by decide) hG9554 hF
            rw [hrc] at hB
            have hP : va_P (dC, dI) classes (wM g c v9551 F9552 rc) H1 := hB
            replace hw : ((v9537 39).toInt ≤ (v9551 39).toInt ∧ (v9551 39).toInt ≤ (v9537 30).toInt ∧ (v9537 38).toInt ≤ (v9551 38).toInt ∧ (v9551 38).toInt - (v9537 38).toInt ≤ (v9551 39).toInt - (v9537 39).toInt ∧ (v9537 41).toInt ≤ (v9551 41).toInt ∧ ((v9551 40).toInt < 0 → (v9551 41).toInt = (v9537 41).toInt)) ∧ keepL (v9537 37) (F9538 28) (F9538 29) (F9552 28) (F9552 29) ∧ ((v9551 40).toInt < 0 → dp (F9552 28) (F9552 29) (bI (v9537 37)) (v9551 38).toInt.toNat = some ((((d + 1) + 1) - 1) + 1)) := hw
            rw [show v9537 30 = v 30 from (hf9539 30 (by decide)).trans ((hf9522 30 (by decide)).trans ((hf9512 30 (by decide)).trans (hf9408 30 (by decide))))] at hw
            rw [show v9537 38 = v9520 38 from hf9539 38 (by decide)] at hw
            rw [show v9537 37 = v 37 from (hf9539 37 (by decide)).trans ((hf9522 37 (by decide)).trans ((hf9512 37 (by decide)).trans (hf9408 37 (by decide))))] at hw
            have hw_r9550 := hw
            clear hw
            have t9555 : 0 ≤ (v9551 38).toInt ∧ (v9551 38).toInt ≤ 120 := hI.1 38 _ _ rfl
            have t9556 : 0 ≤ (v9551 39).toInt ∧ (v9551 39).toInt ≤ 120 := hI.1 39 _ _ rfl
            have t9557 : 0 ≤ (v9551 41).toInt ∧ (v9551 41).toInt ≤ 8 := hI.1 41 _ _ rfl
            clear hz1
            generalize H1 = H at hP hS ⊢
            replace hk := hk.tr hw_r9550.2.1
            replace hd := hw_r9550.2.2
            replace hw_r9550 := hw_r9550.1
            refine lv_aload_n hx hb dX12_either_83 rfl (lv_at hl 1 rfl) ?_
            refine va_get (D := (dC, dI)) (ci := 12) (v := .int (v9551 40)) (C := RX12) (T := TX12) (N := 63) hx hb hwd inA_X12 hown hK hP 0 rfl rfl 40 (by decide) (hwd _ wk_1005) (fun _ h9 => h9) rfl dX12_either_84 ?_
            refine lv_if_lt (tgt := 91) hx hb dX12_either_87 (by decide) (fun c9558 => ?_) (fun c9558 => ?_)
            · skip
              have t9559 := cv_lt (a := (v9551 40).toInt) rfl (b := 0) (by decide) c9558
              refine lv_aload_n hx hb dX12_either_91 rfl (lv_at hl 1 rfl) ?_
              have t9560 : 0 ≤ (v 30).toInt ∧ (v 30).toInt ≤ 120 := by have h9 := hI.1 30 _ _ rfl; rw [show v9551 30 = v 30 from (hf9553 30 (by decide)).trans ((hf9539 30 (by decide)).trans ((hf9522 30 (by decide)).trans ((hf9512 30 (by decide)).trans (hf9408 30 (by decide)))))] at h9; exact h9
              have t9561 : 0 ≤ (v9551 39).toInt ∧ (v9551 39).toInt ≤ 120 := hI.1 39 _ _ rfl
              refine va_calli (va_runV (As := []) (rest := []) ⟨hx, hb, hml, hown, hwd⟩ (c_X12_look l dC dI g c adK adV v9551 F9552 rc H.size  hg hI ) (cwV 0 hwd (gV wk_1017 wk_1014 wk_1015 wk_1016 wk_5) rfl rfl rfl (by decide +kernel) ⟨(by show 1 + 1 ≤ fr + 7; omega), (by show 8 + (1 + 11) + (40) ≤ lc + 280; omega)⟩) ⟨PM.blind, va_recv hK hP (ci := 12) (q0 := 0) rfl rfl, fun U hU hW => ⟨rfl, PM.at hK hE hP hS hU hW⟩⟩ rfl rfl hl.1 rfl (lv_room (Nat.le_of_ble_eq_true rfl)) dX12_either_92 ⟨Nat.le_of_ble_eq_true rfl, Nat.le_of_ble_eq_true rfl⟩) hS (fun q _ h => (freeM hS) q h) (freeM hS) (fun r9562 u t H1 locs ht hvm hw hB hz1 hk1 hS => ?_)
              unfold BM at hB
              rw [ht] at hB
              have hP : va_P (dC, dI) classes (wM g c v9551 F9552 rc) H1 := hB
              replace hw : r9562.toInt = lkM (v9551 39) (v9551 30) (F9552 24) ∧ ((v9551 39).toInt < (v9551 30).toInt ∨ r9562.toInt = -1) := hw
              rw [show v9551 30 = v 30 from (hf9553 30 (by decide)).trans ((hf9539 30 (by decide)).trans ((hf9522 30 (by decide)).trans ((hf9512 30 (by decide)).trans (hf9408 30 (by decide)))))] at hw
              rw [hF 24 (by decide)] at hw
              have hw_r9562 := hw
              clear hw
              clear hz1
              generalize H1 = H at hP hS ⊢
              refine lv_bipush (v := 58) hx hb dX12_either_95 (by decide) ?_
              refine lv_icmp_eq (tgt := 105) hx hb dX12_either_97 (by decide) (fun c9563 => ?_) (fun c9563 => ?_)
              · skip
                have t9564 := cv_eq (a := r9562.toInt) rfl (b := 58) (by decide) c9563
                refine lv_aload_n hx hb dX12_either_105 rfl (lv_at hl 1 rfl) ?_
                refine lv_dup hx hb dX12_either_106 rfl ?_
                refine va_get (D := (dC, dI)) (ci := 12) (v := .int (v9551 39)) (C := RX12) (T := TX12) (N := 63) hx hb hwd inA_X12 hown hK hP 0 rfl rfl 39 (by decide) (hwd _ wk_1004) (fun _ h9 => h9) rfl dX12_either_107 ?_
                have t9565 : 0 ≤ (v9551 39).toInt ∧ (v9551 39).toInt ≤ 120 := hI.1 39 _ _ rfl
                refine lv_iconst (v := 1) hx hb dX12_either_110 (by decide) ?_
                refine lv_iadd hx hb dX12_either_111 ?_
                refine lv_topi (fun z9566 e9567 => ?_)
                try (have t9568 := tadd e9567 (a := (v9551 39).toInt) rfl (b := 1) (by decide) (by omega))
                refine va_put (D := (dC, dI)) (ci := 12) (v := .int z9566) (ty := .int) (C := RX12) (T := TX12) (N := 63) (fs := fsM_0 g v9551 rc) hx hb hwd inA_X12 tyX12 tyX12_ok nmX12 hown hK hP (DM hg) hS 0 rfl rfl 39 (by decide) (hwd _ wk_1004) (fun _ h9 => h9) rfl (by decide +kernel) rfl rfl (Nat.le_of_ble_eq_true rfl) dX12_either_112 (fun H locs hP _ hS => ?_)
                have hP := va_P_eq (pM_39 g c _ _ _ _) hP
                have hI := IM.put hI 39 z9566 rfl (by omega)
                refine lv_aload_n hx hb dX12_either_115 rfl (lv_at hl 1 rfl) ?_
                have t9569 : 0 ≤ (v 30).toInt ∧ (v 30).toInt ≤ 120 := by have h9 := hI.1 30 _ _ rfl; rw [show (va_up v9551 39 z9566) 30 = v 30 from (hf9553 30 (by decide)).trans ((hf9539 30 (by decide)).trans ((hf9522 30 (by decide)).trans ((hf9512 30 (by decide)).trans (hf9408 30 (by decide)))))] at h9; exact h9
                have t9570 : 0 ≤ (v 37).toInt ∧ (v 37).toInt ≤ 9 := by have h9 := hI.1 37 _ _ rfl; rw [show (va_up v9551 39 z9566) 37 = v 37 from (hf9553 37 (by decide)).trans ((hf9539 37 (by decide)).trans ((hf9522 37 (by decide)).trans ((hf9512 37 (by decide)).trans (hf9408 37 (by decide)))))] at h9; exact h9
                have t9571 : 0 ≤ (v9551 38).toInt ∧ (v9551 38).toInt ≤ 120 := hI.1 38 _ _ rfl
                have t9572 : 0 ≤ z9566.toInt ∧ z9566.toInt ≤ 120 := hI.1 39 _ _ rfl
                have t9573 : 0 ≤ (v9551 41).toInt ∧ (v9551 41).toInt ≤ 8 := hI.1 41 _ _ rfl
                refine va_callv (va_runV (As := []) (rest := []) ⟨hx, hb, hml, hown, hwd⟩ (rE l dC dI g c adK adV (va_up v9551 39 z9566) F9552 rc H.size  ((((d + 1) + 1) - 1) + 1) hg hI (by have h9 : (va_up v9551 39 z9566) 38 = v9551 38 := rfl; (try rw [h9]); clear h9; have h9 : (va_up v9551 39 z9566) 39 = z9566 := rfl; (try rw [h9]); clear h9; have h9 : (va_up v9551 39 z9566) 30 = v 30 := (hf9553 30 (by decide)).trans ((hf9539 30 (by decide)).trans ((hf9522 30 (by decide)).trans ((hf9512 30 (by decide)).trans (hf9408 30 (by decide))))); (try rw [h9]); clear h9; have h9 : (va_up v9551 39 z9566) 40 = v9551 40 := rfl; (try rw [h9]); clear h9; have h9 : (va_up v9551 39 z9566) 41 = v9551 41 := rfl; (try rw [h9]); clear h9; omega) (by have h9 : (va_up v9551 39 z9566) 37 = (v 37) := (hf9553 37 (by decide)).trans ((hf9539 37 (by decide)).trans ((hf9522 37 (by decide)).trans ((hf9512 37 (by decide)).trans (hf9408 37 (by decide))))); have h8 : (va_up v9551 39 z9566) 38 = (v9551 38) := rfl; (try rw [h9]); (try rw [h8]); exact hd (by omega))) (cwV 0 hwd (gV wk_1010 wk_1007 wk_1008 wk_1009 wk_5) rfl rfl rfl (by decide +kernel) ⟨(by show fr + 3 + 1 ≤ fr + 7; omega), (by show 8 + (2 + 11) + (lc + 120) ≤ lc + 280; omega)⟩) ⟨PM.blind, va_recv hK hP (ci := 12) (q0 := 0) rfl rfl, fun U hU hW => ⟨rfl, PM.at hK hE hP hS hU hW⟩⟩ rfl rfl hl.1 rfl (lv_room (Nat.le_of_ble_eq_true rfl)) dX12_either_116 ⟨Nat.le_of_ble_eq_true rfl, Nat.le_of_ble_eq_true rfl⟩) hS (fun q _ h => (freeM hS) q h) (freeM hS) (fun u t H1 locs ht hvm hw hB hz1 hk1 hS => ?_)
                unfold BM at hB
                rw [ht] at hB
                obtain ⟨v9575, F9576, rc9⟩ := u
                obtain ⟨hI, hrc, hf9577, hG9578, hw⟩ := hw
                dsimp only at hI hrc hB hf9577 hG9578 hw
                have hF := frCF (by decide) hG9578 hF
                rw [hrc] at hB
                have hP : va_P (dC, dI) classes (wM g c v9575 F9576 rc) H1 := hB
                replace hw : (z9566.toInt ≤ (v9575 39).toInt ∧ (v9575 39).toInt ≤ ((va_up v9551 39 z9566) 30).toInt ∧ (v9551 38).toInt ≤ (v9575 38).toInt ∧ (v9575 38).toInt - (v9551 38).toInt ≤ (v9575 39).toInt - z9566.toInt ∧ (v9551 41).toInt ≤ (v9575 41).toInt ∧ ((v9575 40).toInt < 0 → (v9575 41).toInt = (v9551 41).toInt)) ∧ keepL ((va_up v9551 39 z9566) 37) (F9552 28) (F9552 29) (F9576 28) (F9576 29) ∧ ((v9575 40).toInt < 0 → dp (F9576 28) (F9576 29) (bI ((va_up v9551 39 z9566) 37)) (v9575 38).toInt.toNat = some (((((d + 1) + 1) - 1) + 1) + 1)) := hw
                rw [show (va_up v9551 39 z9566) 30 = v 30 from (hf9553 30 (by decide)).trans ((hf9539 30 (by decide)).trans ((hf9522 30 (by decide)).trans ((hf9512 30 (by decide)).trans (hf9408 30 (by decide)))))] at hw
                rw [show (va_up v9551 39 z9566) 37 = v 37 from (hf9553 37 (by decide)).trans ((hf9539 37 (by decide)).trans ((hf9522 37 (by decide)).trans ((hf9512 37 (by decide)).trans (hf9408 37 (by decide)))))] at hw
                have hw_r9574 := hw
                clear hw
                have t9579 : 0 ≤ (v9575 38).toInt ∧ (v9575 38).toInt ≤ 120 := hI.1 38 _ _ rfl
                have t9580 : 0 ≤ (v9575 39).toInt ∧ (v9575 39).toInt ≤ 120 := hI.1 39 _ _ rfl
                have t9581 : 0 ≤ (v9575 41).toInt ∧ (v9575 41).toInt ≤ 8 := hI.1 41 _ _ rfl
                clear hz1
                generalize H1 = H at hP hS ⊢
                replace hk := hk.tr hw_r9574.2.1
                replace hd := hw_r9574.2.2
                replace hw_r9574 := hw_r9574.1
                refine lv_aload_n hx hb dX12_either_119 rfl (lv_at hl 1 rfl) ?_
                refine lv_iconst (v := 4) hx hb dX12_either_120 (by decide) ?_
                refine lv_iconst (v := 0) hx hb dX12_either_121 (by decide) ?_
                have t9582 : 0 ≤ (v 37).toInt ∧ (v 37).toInt ≤ 9 := by have h9 := hI.1 37 _ _ rfl; rw [show v9575 37 = v 37 from (hf9577 37 (by decide)).trans ((hf9553 37 (by decide)).trans ((hf9539 37 (by decide)).trans ((hf9522 37 (by decide)).trans ((hf9512 37 (by decide)).trans (hf9408 37 (by decide))))))] at h9; exact h9
                have t9583 : 0 ≤ (v9575 38).toInt ∧ (v9575 38).toInt ≤ 120 := hI.1 38 _ _ rfl
                refine va_callv (va_runV (As := [.int 4, .int 0]) (rest := []) ⟨hx, hb, hml, hown, hwd⟩ (c_X12_lay l dC dI g c adK adV v9575 F9576 rc H.size 4 0 hg hI (by have h9 : v9575 38 = v9575 38 := rfl; rw [h9]; omega)) (cwV 2 hwd (gV wk_1021 wk_1018 wk_1019 wk_1020 wk_5) rfl rfl rfl (by decide +kernel) ⟨(by show 1 + 1 ≤ fr + 7; omega), (by show 8 + (3 + 11) + (40) ≤ lc + 280; omega)⟩) ⟨PM.blind, va_recv hK hP (ci := 12) (q0 := 0) rfl rfl, fun U hU hW => ⟨rfl, PM.at hK hE hP hS hU hW⟩⟩ rfl rfl hl.1 rfl (lv_room (Nat.le_of_ble_eq_true rfl)) dX12_either_122 ⟨Nat.le_of_ble_eq_true rfl, Nat.le_of_ble_eq_true rfl⟩) hS (fun q _ h => (freeM hS) q h) (freeM hS) (fun u t H1 locs ht hvm hw hB hz1 hk1 hS => ?_)
                unfold BM at hB
                rw [ht] at hB
                obtain ⟨v9585, F9586, rc9⟩ := u
                obtain ⟨hI, hrc, hf9587, hG9588, hw⟩ := hw
                dsimp only at hI hrc hB hf9587 hG9588 hw
                have hF := frCF (by decide) hG9588 hF
                rw [hrc] at hB
                have hP : va_P (dC, dI) classes (wM g c v9585 F9586 rc) H1 := hB
                replace hw : (v9585 38).toInt = (v9575 38).toInt + 1 ∧ keepL (v9575 37) (F9576 28) (F9576 29) (F9586 28) (F9586 29) ∧ dp (F9586 28) (F9586 29) (bI (v9575 37)) ((v9575 38).toInt.toNat + 1) = dpS (dp (F9576 28) (F9576 29) (bI (v9575 37)) (v9575 38).toInt.toNat) (4 : Int32) (0 : Int32) := hw
                rw [show v9575 37 = v 37 from (hf9577 37 (by decide)).trans ((hf9553 37 (by decide)).trans ((hf9539 37 (by decide)).trans ((hf9522 37 (by decide)).trans ((hf9512 37 (by decide)).trans (hf9408 37 (by decide))))))] at hw
                have hw_r9584 := hw
                clear hw
                have t9589 : 0 ≤ (v9585 38).toInt ∧ (v9585 38).toInt ≤ 120 := hI.1 38 _ _ rfl
                have k9590 : (4 : Int32).toInt = 4 := by decide
                have k9591 : (0 : Int32).toInt = 0 := by decide
                clear hz1
                generalize H1 = H at hP hS ⊢
                replace hk := hk.tr hw_r9584.2.1
                replace hd : (v9575 40).toInt < 0 → dp (F9586 28) (F9586 29) (bI (v 37)) (v9585 38).toInt.toNat = some ((((((d + 1) + 1) - 1) + 1) + 1) - 2) := fun hf => (by have e9 : (v9585 38).toInt.toNat = (v9575 38).toInt.toNat + 1 := (by omega); rw [e9, hw_r9584.2.2, hd hf]; exact dpS_4 (by decide) (by omega))
                replace hw_r9584 := hw_r9584.1
                refine lv_aload_n hx hb dX12_either_125 rfl (lv_at hl 1 rfl) ?_
                refine lv_dup hx hb dX12_either_126 rfl ?_
                refine va_get (D := (dC, dI)) (ci := 12) (v := .int (v9585 41)) (C := RX12) (T := TX12) (N := 63) hx hb hwd inA_X12 hown hK hP 0 rfl rfl 41 (by decide) (hwd _ wk_1006) (fun _ h9 => h9) rfl dX12_either_127 ?_
                refine my_top (v := v9575 41) (hf9587 41 (by decide)) ?_
                have t9592 : 0 ≤ (v9575 41).toInt ∧ (v9575 41).toInt ≤ 8 := by have h9 := hI.1 41 _ _ rfl; rw [show v9585 41 = v9575 41 from hf9587 41 (by decide)] at h9; exact h9
                refine lv_iconst (v := 1) hx hb dX12_either_130 (by decide) ?_
                refine lv_isub hx hb dX12_either_131 ?_
                refine lv_topi (fun z9593 e9594 => ?_)
                try (have t9595 := tsub e9594 (a := (v9575 41).toInt) rfl (b := 1) (by decide) (by omega))
                refine va_put (D := (dC, dI)) (ci := 12) (v := .int z9593) (ty := .int) (C := RX12) (T := TX12) (N := 63) (fs := fsM_0 g v9585 rc) hx hb hwd inA_X12 tyX12 tyX12_ok nmX12 hown hK hP (DM hg) hS 0 rfl rfl 41 (by decide) (hwd _ wk_1006) (fun _ h9 => h9) rfl (by decide +kernel) rfl rfl (Nat.le_of_ble_eq_true rfl) dX12_either_132 (fun H locs hP _ hS => ?_)
                have hP := va_P_eq (pM_41 g c _ _ _ _) hP
                have hI := IM.put hI 41 z9593 rfl (by omega)
                have hP9 : va_P (dC, dI) classes (wM g c (va_up v9585 41 z9593) F9586 rc) H := hP
                exact W.vret hx hb hr (fun t ht hW => ⟨⟨((va_up v9585 41 z9593), F9586, rc), rfl, ⟨hI, rfl, (frU (by decide) (frC (by decide) hf9587 (frC (by decide) hf9577 (frU (by decide) (frC (by decide) hf9553 (frC (by decide) hf9539 (frC (by decide) hf9522 (frC (by decide) hf9512 (frU (by decide) (frC (by decide) hf9408 (fun _ _ => rfl))))))))))), hF, (by show ((v 39).toInt ≤ ((va_up v9585 41 z9593) 39).toInt ∧ ((va_up v9585 41 z9593) 39).toInt ≤ (v 30).toInt ∧ (v 38).toInt ≤ (v9585 38).toInt ∧ (v9585 38).toInt - (v 38).toInt ≤ ((va_up v9585 41 z9593) 39).toInt - (v 39).toInt ∧ (v 41).toInt ≤ z9593.toInt ∧ (((va_up v9585 41 z9593) 40).toInt < 0 → z9593.toInt = (v 41).toInt)) ∧ keepL (v 37) (F 28) (F 29) (F9586 28) (F9586 29) ∧ (((va_up v9585 41 z9593) 40).toInt < 0 → dp (F9586 28) (F9586 29) (bI (v 37)) (v9585 38).toInt.toNat = some (d + 1)); rw [show (va_up v9585 41 z9593) 39 = v9575 39 from hf9587 39 (by decide)]; rw [show (va_up v9585 41 z9593) 40 = v9575 40 from hf9587 40 (by decide)]; exact ⟨by omega, hk, fun hf => (hd (by omega)).trans (congrArg some (by omega))⟩)⟩, (by show va_P _ _ _ t.heap; rw [ht]; exact hP9)⟩, hS.F ht⟩) hS.2.2 dX12_either_135
              · skip
                have t9596 := cv_ne (a := r9562.toInt) rfl (b := 58) (by decide) c9563
                refine lv_aload_n hx hb dX12_either_100 rfl (lv_at hl 1 rfl) ?_
                refine va_callv (va_runV (As := []) (rest := []) ⟨hx, hb, hml, hown, hwd⟩ (c_X12_wrong l dC dI g c adK adV v9551 F9552 rc H.size  hg hI ) (cwV 0 hwd (gV wk_1029 wk_1026 wk_1027 wk_1028 wk_5) rfl rfl rfl (by decide +kernel) ⟨(by show 1 + 1 ≤ fr + 7; omega), (by show 8 + (1 + 11) + (40) ≤ lc + 280; omega)⟩) ⟨PM.blind, va_recv hK hP (ci := 12) (q0 := 0) rfl rfl, fun U hU hW => ⟨rfl, PM.at hK hE hP hS hU hW⟩⟩ rfl rfl hl.1 rfl (lv_room (Nat.le_of_ble_eq_true rfl)) dX12_either_101 ⟨Nat.le_of_ble_eq_true rfl, Nat.le_of_ble_eq_true rfl⟩) hS (fun q _ h => (freeM hS) q h) (freeM hS) (fun u t H1 locs ht hvm hw hB hz1 hk1 hS => ?_)
                unfold BM at hB
                rw [ht] at hB
                obtain ⟨v9598, F9599, rc9⟩ := u
                obtain ⟨hI, hrc, hf9600, hG9601, hw⟩ := hw
                dsimp only at hI hrc hB hf9600 hG9601 hw
                have hF := frCF (by decide) hG9601 hF
                rw [hrc] at hB
                have hP : va_P (dC, dI) classes (wM g c v9598 F9599 rc) H1 := hB
                replace hw : 0 ≤ (v9598 40).toInt := hw
                have hw_r9597 := hw
                clear hw
                clear hz1
                generalize H1 = H at hP hS ⊢
                replace hk : keepL (v 37) (F 28) (F 29) (F9599 28) (F9599 29) := by rw [hG9601 28 (by decide), hG9601 29 (by decide)]; exact hk
                replace hd : (v9598 40).toInt < 0 → dp (F9599 28) (F9599 29) (bI (v 37)) (v9551 38).toInt.toNat = some ((((d + 1) + 1) - 1) + 1) := fun hf => (by rw [hG9601 28 (by decide), hG9601 29 (by decide)]; exact hd (by omega))
                have hP9 : va_P (dC, dI) classes (wM g c v9598 F9599 rc) H := hP
                exact W.vret hx hb hr (fun t ht hW => ⟨⟨(v9598, F9599, rc), rfl, ⟨hI, rfl, (frC (by decide) hf9600 (frC (by decide) hf9553 (frC (by decide) hf9539 (frC (by decide) hf9522 (frC (by decide) hf9512 (frU (by decide) (frC (by decide) hf9408 (fun _ _ => rfl)))))))), hF, (by show ((v 39).toInt ≤ (v9598 39).toInt ∧ (v9598 39).toInt ≤ (v 30).toInt ∧ (v 38).toInt ≤ (v9598 38).toInt ∧ (v9598 38).toInt - (v 38).toInt ≤ (v9598 39).toInt - (v 39).toInt ∧ (v 41).toInt ≤ (v9598 41).toInt ∧ ((v9598 40).toInt < 0 → (v9598 41).toInt = (v 41).toInt)) ∧ keepL (v 37) (F 28) (F 29) (F9599 28) (F9599 29) ∧ ((v9598 40).toInt < 0 → dp (F9599 28) (F9599 29) (bI (v 37)) (v9598 38).toInt.toNat = some (d + 1)); rw [show v9598 39 = v9551 39 from hf9600 39 (by decide)]; rw [show v9598 38 = v9551 38 from hf9600 38 (by decide)]; rw [show v9598 41 = v9551 41 from hf9600 41 (by decide)]; exact ⟨by omega, hk, fun hf => (hd (by omega)).trans (congrArg some (by omega))⟩)⟩, (by show va_P _ _ _ t.heap; rw [ht]; exact hP9)⟩, hS.F ht⟩) hS.2.2 dX12_either_104
            · skip
              have t9602 := cv_nlt (a := (v9551 40).toInt) rfl (b := 0) (by decide) c9558
              have hP9 : va_P (dC, dI) classes (wM g c v9551 F9552 rc) H := hP
              exact W.vret hx hb hr (fun t ht hW => ⟨⟨(v9551, F9552, rc), rfl, ⟨hI, rfl, (frC (by decide) hf9553 (frC (by decide) hf9539 (frC (by decide) hf9522 (frC (by decide) hf9512 (frU (by decide) (frC (by decide) hf9408 (fun _ _ => rfl))))))), hF, (by show ((v 39).toInt ≤ (v9551 39).toInt ∧ (v9551 39).toInt ≤ (v 30).toInt ∧ (v 38).toInt ≤ (v9551 38).toInt ∧ (v9551 38).toInt - (v 38).toInt ≤ (v9551 39).toInt - (v 39).toInt ∧ (v 41).toInt ≤ (v9551 41).toInt ∧ ((v9551 40).toInt < 0 → (v9551 41).toInt = (v 41).toInt)) ∧ keepL (v 37) (F 28) (F 29) (F9552 28) (F9552 29) ∧ ((v9551 40).toInt < 0 → dp (F9552 28) (F9552 29) (bI (v 37)) (v9551 38).toInt.toNat = some (d + 1)); exact ⟨by omega, hk, fun hf => (hd (by omega)).trans (congrArg some (by omega))⟩)⟩, (by show va_P _ _ _ t.heap; rw [ht]; exact hP9)⟩, hS.F ht⟩) hS.2.2 dX12_either_90
          · skip
            have t9603 := cv_eq (a := r9536.toInt) rfl (b := 0) (by decide) c9543
            have hP9 : va_P (dC, dI) classes (wM g c v9537 F9538 rc) H := hP
            exact W.vret hx hb hr (fun t ht hW => ⟨⟨(v9537, F9538, rc), rfl, ⟨hI, rfl, (frC (by decide) hf9539 (frC (by decide) hf9522 (frC (by decide) hf9512 (frU (by decide) (frC (by decide) hf9408 (fun _ _ => rfl)))))), hF, (by show ((v 39).toInt ≤ (v9537 39).toInt ∧ (v9537 39).toInt ≤ (v 30).toInt ∧ (v 38).toInt ≤ (v9537 38).toInt ∧ (v9537 38).toInt - (v 38).toInt ≤ (v9537 39).toInt - (v 39).toInt ∧ (v 41).toInt ≤ (v9537 41).toInt ∧ ((v9537 40).toInt < 0 → (v9537 41).toInt = (v 41).toInt)) ∧ keepL (v 37) (F 28) (F 29) (F9538 28) (F9538 29) ∧ ((v9537 40).toInt < 0 → dp (F9538 28) (F9538 29) (bI (v 37)) (v9537 38).toInt.toNat = some (d + 1)); rw [show v9537 38 = v9520 38 from hf9539 38 (by decide)]; exact ⟨by omega, hk, fun hf => (hd (by omega)).trans (congrArg some (by omega))⟩)⟩, (by show va_P _ _ _ t.heap; rw [ht]; exact hP9)⟩, hS.F ht⟩) hS.2.2 dX12_either_78
        · skip
          have t9604 := cv_ne (a := r9531.toInt) rfl (b := 63) (by decide) c9532
          have hP9 : va_P (dC, dI) classes (wM g c v9520 F9521 rc) H := hP
          exact W.vret hx hb hr (fun t ht hW => ⟨⟨(v9520, F9521, rc), rfl, ⟨hI, rfl, (frC (by decide) hf9522 (frC (by decide) hf9512 (frU (by decide) (frC (by decide) hf9408 (fun _ _ => rfl))))), hF, (by show ((v 39).toInt ≤ (v9520 39).toInt ∧ (v9520 39).toInt ≤ (v 30).toInt ∧ (v 38).toInt ≤ (v9520 38).toInt ∧ (v9520 38).toInt - (v 38).toInt ≤ (v9520 39).toInt - (v 39).toInt ∧ (v 41).toInt ≤ (v9520 41).toInt ∧ ((v9520 40).toInt < 0 → (v9520 41).toInt = (v 41).toInt)) ∧ keepL (v 37) (F 28) (F 29) (F9521 28) (F9521 29) ∧ ((v9520 40).toInt < 0 → dp (F9521 28) (F9521 29) (bI (v 37)) (v9520 38).toInt.toNat = some (d + 1)); rw [show v9520 39 = v9510 39 from hf9522 39 (by decide)]; rw [show v9520 41 = v9510 41 from hf9522 41 (by decide)]; rw [show v9520 40 = v9510 40 from hf9522 40 (by decide)]; exact ⟨by omega, hk, fun hf => (hd (by omega)).trans (congrArg some (by omega))⟩)⟩, (by show va_P _ _ _ t.heap; rw [ht]; exact hP9)⟩, hS.F ht⟩) hS.2.2 dX12_either_70
    · skip
      have t9605 := cv_ne (a := r9415.toInt) rfl (b := 60) (by decide) c9498
      refine lv_iload_n hx hb dX12_either_22 rfl (lv_at hl 0 rfl) ?_
      refine lv_bipush (v := 61) hx hb dX12_either_23 (by decide) ?_
      refine lv_icmp_eq (tgt := 34) hx hb dX12_either_25 (by decide) (fun c9606 => ?_) (fun c9606 => ?_)
      · skip
        have t9607 := cv_eq (a := r9415.toInt) rfl (b := 61) (by decide) c9606
        refine lv_aload_n hx hb dX12_either_34 rfl (lv_at hl 1 rfl) ?_
        refine lv_dup hx hb dX12_either_35 rfl ?_
        refine va_get (D := (dC, dI)) (ci := 12) (v := .int (v9406 39)) (C := RX12) (T := TX12) (N := 63) hx hb hwd inA_X12 hown hK hP 0 rfl rfl 39 (by decide) (hwd _ wk_1004) (fun _ h9 => h9) rfl dX12_either_36 ?_
        have t9608 : 0 ≤ (v9406 39).toInt ∧ (v9406 39).toInt ≤ 120 := hI.1 39 _ _ rfl
        refine lv_iconst (v := 1) hx hb dX12_either_39 (by decide) ?_
        refine lv_iadd hx hb dX12_either_40 ?_
        refine lv_topi (fun z9609 e9610 => ?_)
        try (have t9611 := tadd e9610 (a := (v9406 39).toInt) rfl (b := 1) (by decide) (by omega))
        refine va_put (D := (dC, dI)) (ci := 12) (v := .int z9609) (ty := .int) (C := RX12) (T := TX12) (N := 63) (fs := fsM_0 g v9406 rc) hx hb hwd inA_X12 tyX12 tyX12_ok nmX12 hown hK hP (DM hg) hS 0 rfl rfl 39 (by decide) (hwd _ wk_1004) (fun _ h9 => h9) rfl (by decide +kernel) rfl rfl (Nat.le_of_ble_eq_true rfl) dX12_either_41 (fun H locs hP _ hS => ?_)
        have hP := va_P_eq (pM_39 g c _ _ _ _) hP
        have hI := IM.put hI 39 z9609 rfl (by omega)
        refine lv_aload_n hx hb dX12_either_44 rfl (lv_at hl 1 rfl) ?_
        have t9612 : 0 ≤ (v 30).toInt ∧ (v 30).toInt ≤ 120 := by have h9 := hI.1 30 _ _ rfl; rw [show (va_up v9406 39 z9609) 30 = v 30 from hf9408 30 (by decide)] at h9; exact h9
        have t9613 : 0 ≤ (v 37).toInt ∧ (v 37).toInt ≤ 9 := by have h9 := hI.1 37 _ _ rfl; rw [show (va_up v9406 39 z9609) 37 = v 37 from hf9408 37 (by decide)] at h9; exact h9
        have t9614 : 0 ≤ (v9406 38).toInt ∧ (v9406 38).toInt ≤ 120 := hI.1 38 _ _ rfl
        have t9615 : 0 ≤ z9609.toInt ∧ z9609.toInt ≤ 120 := hI.1 39 _ _ rfl
        have t9616 : 0 ≤ (v9406 41).toInt ∧ (v9406 41).toInt ≤ 8 := hI.1 41 _ _ rfl
        refine va_callv (va_runV (As := []) (rest := []) ⟨hx, hb, hml, hown, hwd⟩ (c_X12_sum D fr lc rO rE l dC dI g c adK adV (va_up v9406 39 z9609) F9407 rc H.size  (d + 1) hg hI (by have h9 : (va_up v9406 39 z9609) 38 = v9406 38 := rfl; (try rw [h9]); clear h9; have h9 : (va_up v9406 39 z9609) 39 = z9609 := rfl; (try rw [h9]); clear h9; have h9 : (va_up v9406 39 z9609) 30 = v 30 := hf9408 30 (by decide); (try rw [h9]); clear h9; have h9 : (va_up v9406 39 z9609) 40 = v9406 40 := rfl; (try rw [h9]); clear h9; have h9 : (va_up v9406 39 z9609) 41 = v9406 41 := rfl; (try rw [h9]); clear h9; omega) (by have h9 : (va_up v9406 39 z9609) 37 = (v 37) := hf9408 37 (by decide); have h8 : (va_up v9406 39 z9609) 38 = (v9406 38) := rfl; (try rw [h9]); (try rw [h8]); exact hd (by omega))) (cwV 0 hwd (gV wk_1043 wk_1011 wk_1012 wk_1013 wk_5) rfl rfl rfl (by decide +kernel) ⟨(by show fr + 6 + 1 ≤ fr + 7; omega), (by show 8 + (2 + 11) + (lc + 240) ≤ lc + 280; omega)⟩) ⟨PM.blind, va_recv hK hP (ci := 12) (q0 := 0) rfl rfl, fun U hU hW => ⟨rfl, PM.at hK hE hP hS hU hW⟩⟩ rfl rfl hl.1 rfl (lv_room (Nat.le_of_ble_eq_true rfl)) dX12_either_45 ⟨Nat.le_of_ble_eq_true rfl, Nat.le_of_ble_eq_true rfl⟩) hS (fun q _ h => (freeM hS) q h) (freeM hS) (fun u t H1 locs ht hvm hw hB hz1 hk1 hS => ?_)
        unfold BM at hB
        rw [ht] at hB
        obtain ⟨v9618, F9619, rc9⟩ := u
        obtain ⟨hI, hrc, hf9620, hG9621, hw⟩ := hw
        dsimp only at hI hrc hB hf9620 hG9621 hw
        have hF := frCF (by decide) hG9621 hF
        rw [hrc] at hB
        have hP : va_P (dC, dI) classes (wM g c v9618 F9619 rc) H1 := hB
        replace hw : (z9609.toInt ≤ (v9618 39).toInt ∧ (v9618 39).toInt ≤ ((va_up v9406 39 z9609) 30).toInt ∧ (v9406 38).toInt ≤ (v9618 38).toInt ∧ (v9618 38).toInt - (v9406 38).toInt ≤ (v9618 39).toInt - z9609.toInt ∧ (v9406 41).toInt ≤ (v9618 41).toInt ∧ ((v9618 40).toInt < 0 → (v9618 41).toInt = (v9406 41).toInt)) ∧ keepL ((va_up v9406 39 z9609) 37) (F9407 28) (F9407 29) (F9619 28) (F9619 29) ∧ ((v9618 40).toInt < 0 → dp (F9619 28) (F9619 29) (bI ((va_up v9406 39 z9609) 37)) (v9618 38).toInt.toNat = some ((d + 1) + 1)) := hw
        rw [show (va_up v9406 39 z9609) 30 = v 30 from hf9408 30 (by decide)] at hw
        rw [show (va_up v9406 39 z9609) 37 = v 37 from hf9408 37 (by decide)] at hw
        have hw_r9617 := hw
        clear hw
        have t9622 : 0 ≤ (v9618 38).toInt ∧ (v9618 38).toInt ≤ 120 := hI.1 38 _ _ rfl
        have t9623 : 0 ≤ (v9618 39).toInt ∧ (v9618 39).toInt ≤ 120 := hI.1 39 _ _ rfl
        have t9624 : 0 ≤ (v9618 41).toInt ∧ (v9618 41).toInt ≤ 8 := hI.1 41 _ _ rfl
        clear hz1
        generalize H1 = H at hP hS ⊢
        replace hk := hk.tr hw_r9617.2.1
        replace hd := hw_r9617.2.2
        replace hw_r9617 := hw_r9617.1
        refine lv_aload_n hx hb dX12_either_48 rfl (lv_at hl 1 rfl) ?_
        refine lv_iload_n hx hb dX12_either_49 rfl (lv_at hl 0 rfl) ?_
        refine lv_iconst (v := 0) hx hb dX12_either_50 (by decide) ?_
        have t9625 : 0 ≤ (v 37).toInt ∧ (v 37).toInt ≤ 9 := by have h9 := hI.1 37 _ _ rfl; rw [show v9618 37 = v 37 from (hf9620 37 (by decide)).trans (hf9408 37 (by decide))] at h9; exact h9
        have t9626 : 0 ≤ (v9618 38).toInt ∧ (v9618 38).toInt ≤ 120 := hI.1 38 _ _ rfl
        refine va_callv (va_runV (As := [.int r9415, .int 0]) (rest := []) ⟨hx, hb, hml, hown, hwd⟩ (c_X12_lay l dC dI g c adK adV v9618 F9619 rc H.size r9415 0 hg hI (by have h9 : v9618 38 = v9618 38 := rfl; rw [h9]; omega)) (cwV 2 hwd (gV wk_1021 wk_1018 wk_1019 wk_1020 wk_5) rfl rfl rfl (by decide +kernel) ⟨(by show 1 + 1 ≤ fr + 7; omega), (by show 8 + (3 + 11) + (40) ≤ lc + 280; omega)⟩) ⟨PM.blind, va_recv hK hP (ci := 12) (q0 := 0) rfl rfl, fun U hU hW => ⟨rfl, PM.at hK hE hP hS hU hW⟩⟩ rfl rfl hl.1 rfl (lv_room (Nat.le_of_ble_eq_true rfl)) dX12_either_51 ⟨Nat.le_of_ble_eq_true rfl, Nat.le_of_ble_eq_true rfl⟩) hS (fun q _ h => (freeM hS) q h) (freeM hS) (fun u t H1 locs ht hvm hw hB hz1 hk1 hS => ?_)
        unfold BM at hB
        rw [ht] at hB
        obtain ⟨v9628, F9629, rc9⟩ := u
        obtain ⟨hI, hrc, hf9630, hG9631, hw⟩ := hw
        dsimp only at hI hrc hB hf9630 hG9631 hw
        have hF := frCF (by decide) hG9631 hF
        rw [hrc] at hB
        have hP : va_P (dC, dI) classes (wM g c v9628 F9629 rc) H1 := hB
        replace hw : (v9628 38).toInt = (v9618 38).toInt + 1 ∧ keepL (v9618 37) (F9619 28) (F9619 29) (F9629 28) (F9629 29) ∧ dp (F9629 28) (F9629 29) (bI (v9618 37)) ((v9618 38).toInt.toNat + 1) = dpS (dp (F9619 28) (F9619 29) (bI (v9618 37)) (v9618 38).toInt.toNat) r9415 (0 : Int32) := hw
        rw [show v9618 37 = v 37 from (hf9620 37 (by decide)).trans (hf9408 37 (by decide))] at hw
        have hw_r9627 := hw
        clear hw
        have t9632 : 0 ≤ (v9628 38).toInt ∧ (v9628 38).toInt ≤ 120 := hI.1 38 _ _ rfl
        have k9633 : (0 : Int32).toInt = 0 := by decide
        clear hz1
        generalize H1 = H at hP hS ⊢
        replace hk := hk.tr hw_r9627.2.1
        replace hd : (v9618 40).toInt < 0 → dp (F9629 28) (F9629 29) (bI (v 37)) (v9628 38).toInt.toNat = some (((d + 1) + 1) - 1) := fun hf => (by have e9 : (v9628 38).toInt.toNat = (v9618 38).toInt.toNat + 1 := (by omega); rw [e9, hw_r9627.2.2, hd hf]; exact dpS_5 (by omega) (by omega) (by omega) (by omega) (by omega))
        replace hw_r9627 := hw_r9627.1
        refine lv_aload_n hx hb dX12_either_54 rfl (lv_at hl 1 rfl) ?_
        refine va_get (D := (dC, dI)) (ci := 12) (v := .int (v9628 40)) (C := RX12) (T := TX12) (N := 63) hx hb hwd inA_X12 hown hK hP 0 rfl rfl 40 (by decide) (hwd _ wk_1005) (fun _ h9 => h9) rfl dX12_either_55 ?_
        refine my_top (v := v9618 40) (hf9630 40 (by decide)) ?_
        refine lv_if_ge (tgt := 70) hx hb dX12_either_58 (by decide) (fun c9634 => ?_) (fun c9634 => ?_)
        · skip
          have t9635 := cv_le (a := 0) (by decide) (b := (v9618 40).toInt) rfl c9634
          have hP9 : va_P (dC, dI) classes (wM g c v9628 F9629 rc) H := hP
          exact W.vret hx hb hr (fun t ht hW => ⟨⟨(v9628, F9629, rc), rfl, ⟨hI, rfl, (frC (by decide) hf9630 (frC (by decide) hf9620 (frU (by decide) (frC (by decide) hf9408 (fun _ _ => rfl))))), hF, (by show ((v 39).toInt ≤ (v9628 39).toInt ∧ (v9628 39).toInt ≤ (v 30).toInt ∧ (v 38).toInt ≤ (v9628 38).toInt ∧ (v9628 38).toInt - (v 38).toInt ≤ (v9628 39).toInt - (v 39).toInt ∧ (v 41).toInt ≤ (v9628 41).toInt ∧ ((v9628 40).toInt < 0 → (v9628 41).toInt = (v 41).toInt)) ∧ keepL (v 37) (F 28) (F 29) (F9629 28) (F9629 29) ∧ ((v9628 40).toInt < 0 → dp (F9629 28) (F9629 29) (bI (v 37)) (v9628 38).toInt.toNat = some (d + 1)); rw [show v9628 39 = v9618 39 from hf9630 39 (by decide)]; rw [show v9628 41 = v9618 41 from hf9630 41 (by decide)]; rw [show v9628 40 = v9618 40 from hf9630 40 (by decide)]; exact ⟨by omega, hk, fun hf => (hd (by omega)).trans (congrArg some (by omega))⟩)⟩, (by show va_P _ _ _ t.heap; rw [ht]; exact hP9)⟩, hS.F ht⟩) hS.2.2 dX12_either_70
        · skip
          have t9636 := cv_nle (a := 0) (by decide) (b := (v9618 40).toInt) rfl c9634
          refine lv_aload_n hx hb dX12_either_61 rfl (lv_at hl 1 rfl) ?_
          have t9637 : 0 ≤ (v 30).toInt ∧ (v 30).toInt ≤ 120 := by have h9 := hI.1 30 _ _ rfl; rw [show v9628 30 = v 30 from (hf9630 30 (by decide)).trans ((hf9620 30 (by decide)).trans (hf9408 30 (by decide)))] at h9; exact h9
          have t9638 : 0 ≤ (v9618 39).toInt ∧ (v9618 39).toInt ≤ 120 := by have h9 := hI.1 39 _ _ rfl; rw [show v9628 39 = v9618 39 from hf9630 39 (by decide)] at h9; exact h9
          refine va_calli (va_runV (As := []) (rest := []) ⟨hx, hb, hml, hown, hwd⟩ (c_X12_look l dC dI g c adK adV v9628 F9629 rc H.size  hg hI ) (cwV 0 hwd (gV wk_1017 wk_1014 wk_1015 wk_1016 wk_5) rfl rfl rfl (by decide +kernel) ⟨(by show 1 + 1 ≤ fr + 7; omega), (by show 8 + (1 + 11) + (40) ≤ lc + 280; omega)⟩) ⟨PM.blind, va_recv hK hP (ci := 12) (q0 := 0) rfl rfl, fun U hU hW => ⟨rfl, PM.at hK hE hP hS hU hW⟩⟩ rfl rfl hl.1 rfl (lv_room (Nat.le_of_ble_eq_true rfl)) dX12_either_62 ⟨Nat.le_of_ble_eq_true rfl, Nat.le_of_ble_eq_true rfl⟩) hS (fun q _ h => (freeM hS) q h) (freeM hS) (fun r9639 u t H1 locs ht hvm hw hB hz1 hk1 hS => ?_)
          unfold BM at hB
          rw [ht] at hB
          have hP : va_P (dC, dI) classes (wM g c v9628 F9629 rc) H1 := hB
          replace hw : r9639.toInt = lkM (v9628 39) (v9628 30) (F9629 24) ∧ ((v9628 39).toInt < (v9628 30).toInt ∨ r9639.toInt = -1) := hw
          rw [show v9628 39 = v9618 39 from hf9630 39 (by decide)] at hw
          rw [show v9628 30 = v 30 from (hf9630 30 (by decide)).trans ((hf9620 30 (by decide)).trans (hf9408 30 (by decide)))] at hw
          rw [hF 24 (by decide)] at hw
          have hw_r9639 := hw
          clear hw
          clear hz1
          generalize H1 = H at hP hS ⊢
          refine lv_bipush (v := 63) hx hb dX12_either_65 (by decide) ?_
          refine lv_icmp_eq (tgt := 71) hx hb dX12_either_67 (by decide) (fun c9640 => ?_) (fun c9640 => ?_)
          · skip
            have t9641 := cv_eq (a := r9639.toInt) rfl (b := 63) (by decide) c9640
            refine lv_aload_n hx hb dX12_either_71 rfl (lv_at hl 1 rfl) ?_
            have t9642 : 0 ≤ (v9618 39).toInt ∧ (v9618 39).toInt ≤ 120 := by have h9 := hI.1 39 _ _ rfl; rw [show v9628 39 = v9618 39 from hf9630 39 (by decide)] at h9; exact h9
            have t9643 : 0 ≤ (v9618 41).toInt ∧ (v9618 41).toInt ≤ 8 := by have h9 := hI.1 41 _ _ rfl; rw [show v9628 41 = v9618 41 from hf9630 41 (by decide)] at h9; exact h9
            refine va_calli (va_runV (As := []) (rest := []) ⟨hx, hb, hml, hown, hwd⟩ (c_X12_opens l dC dI g c adK adV v9628 F9629 rc H.size  hg hI (by have h9 : v9628 39 = v9618 39 := hf9630 39 (by decide); (try rw [h9]); clear h9; have h9 : v9628 30 = v 30 := (hf9630 30 (by decide)).trans ((hf9620 30 (by decide)).trans (hf9408 30 (by decide))); (try rw [h9]); clear h9; omega)) (cwV 0 hwd (gV wk_1025 wk_1022 wk_1023 wk_1024 wk_5) rfl rfl rfl (by decide +kernel) ⟨(by show 2 + 1 ≤ fr + 7; omega), (by show 8 + (1 + 11) + (80) ≤ lc + 280; omega)⟩) ⟨PM.blind, va_recv hK hP (ci := 12) (q0 := 0) rfl rfl, fun U hU hW => ⟨rfl, PM.at hK hE hP hS hU hW⟩⟩ rfl rfl hl.1 rfl (lv_room (Nat.le_of_ble_eq_true rfl)) dX12_either_72 ⟨Nat.le_of_ble_eq_true rfl, Nat.le_of_ble_eq_true rfl⟩) hS (fun q _ h => (freeM hS) q h) (freeM hS) (fun r9644 u t H1 locs ht hvm hw hB hz1 hk1 hS => ?_)
            unfold BM at hB
            rw [ht] at hB
            obtain ⟨v9645, F9646, rc9⟩ := u
            obtain ⟨hI, hrc, hf9647, hG9648, hw⟩ := hw
            dsimp only at hI hrc hB hf9647 hG9648 hw
            have hF := frCF (by decide) hG9648 hF
            rw [hrc] at hB
            have hP : va_P (dC, dI) classes (wM g c v9645 F9646 rc) H1 := hB
            replace hw : (r9644.toInt = 1 ∧ (v9628 41).toInt < 8 ∧ (v9645 41).toInt = (v9628 41).toInt + 1 ∧ (v9645 39).toInt = (v9628 39).toInt + 1 ∧ (v9645 40).toInt = (v9628 40).toInt) ∨ (r9644.toInt = 0 ∧ (v9628 41).toInt = 8 ∧ 0 ≤ (v9645 40).toInt ∧ (v9645 41).toInt = (v9628 41).toInt ∧ (v9645 39).toInt = (v9628 39).toInt) := hw
            rw [show v9628 41 = v9618 41 from hf9630 41 (by decide)] at hw
            rw [show v9628 39 = v9618 39 from hf9630 39 (by decide)] at hw
            rw [show v9628 40 = v9618 40 from hf9630 40 (by decide)] at hw
            have hw_r9644 := hw
            clear hw
            have t9649 : 0 ≤ (v9645 39).toInt ∧ (v9645 39).toInt ≤ 120 := hI.1 39 _ _ rfl
            have t9650 : 0 ≤ (v9645 41).toInt ∧ (v9645 41).toInt ≤ 8 := hI.1 41 _ _ rfl
            clear hz1
            generalize H1 = H at hP hS ⊢
            replace hk : keepL (v 37) (F 28) (F 29) (F9646 28) (F9646 29) := by rw [hG9648 28 (by decide), hG9648 29 (by decide)]; exact hk
            replace hd : (v9645 40).toInt < 0 → dp (F9646 28) (F9646 29) (bI (v 37)) (v9628 38).toInt.toNat = some (((d + 1) + 1) - 1) := fun hf => (by rw [hG9648 28 (by decide), hG9648 29 (by decide)]; exact hd (by omega))
            refine lv_if_ne (tgt := 79) hx hb dX12_either_75 (by decide) (fun c9651 => ?_) (fun c9651 => ?_)
            · skip
              have t9652 := cv_ne (a := r9644.toInt) rfl (b := 0) (by decide) c9651
              refine lv_aload_n hx hb dX12_either_79 rfl (lv_at hl 1 rfl) ?_
              have t9653 : 0 ≤ (v 30).toInt ∧ (v 30).toInt ≤ 120 := by have h9 := hI.1 30 _ _ rfl; rw [show v9645 30 = v 30 from (hf9647 30 (by decide)).trans ((hf9630 30 (by decide)).trans ((hf9620 30 (by decide)).trans (hf9408 30 (by decide))))] at h9; exact h9
              have t9654 : 0 ≤ (v 37).toInt ∧ (v 37).toInt ≤ 9 := by have h9 := hI.1 37 _ _ rfl; rw [show v9645 37 = v 37 from (hf9647 37 (by decide)).trans ((hf9630 37 (by decide)).trans ((hf9620 37 (by decide)).trans (hf9408 37 (by decide))))] at h9; exact h9
              have t9655 : 0 ≤ (v9628 38).toInt ∧ (v9628 38).toInt ≤ 120 := by have h9 := hI.1 38 _ _ rfl; rw [show v9645 38 = v9628 38 from hf9647 38 (by decide)] at h9; exact h9
              have t9656 : 0 ≤ (v9645 39).toInt ∧ (v9645 39).toInt ≤ 120 := hI.1 39 _ _ rfl
              have t9657 : 0 ≤ (v9645 41).toInt ∧ (v9645 41).toInt ≤ 8 := hI.1 41 _ _ rfl
              refine va_callv (va_runV (As := []) (rest := []) ⟨hx, hb, hml, hown, hwd⟩ (rE l dC dI g c adK adV v9645 F9646 rc H.size  (((d + 1) + 1) - 1) hg hI (by have h9 : v9645 38 = v9628 38 := hf9647 38 (by decide); (try rw [h9]); clear h9; have h9 : v9645 39 = v9645 39 := rfl; (try rw [h9]); clear h9; have h9 : v9645 30 = v 30 := (hf9647 30 (by decide)).trans ((hf9630 30 (by decide)).trans ((hf9620 30 (by decide)).trans (hf9408 30 (by decide)))); (try rw [h9]); clear h9; have h9 : v9645 40 = v9645 40 := rfl; (try rw [h9]); clear h9; have h9 : v9645 41 = v9645 41 := rfl; (try rw [h9]); clear h9; omega) (by have h9 : v9645 37 = (v 37) := (hf9647 37 (by decide)).trans ((hf9630 37 (by decide)).trans ((hf9620 37 (by decide)).trans (hf9408 37 (by decide)))); have h8 : v9645 38 = (v9628 38) := hf9647 38 (by decide); (try rw [h9]); (try rw [h8]); exact hd (by omega))) (cwV 0 hwd (gV wk_1010 wk_1007 wk_1008 wk_1009 wk_5) rfl rfl rfl (by decide +kernel) ⟨(by show fr + 3 + 1 ≤ fr + 7; omega), (by show 8 + (2 + 11) + (lc + 120) ≤ lc + 280; omega)⟩) ⟨PM.blind, va_recv hK hP (ci := 12) (q0 := 0) rfl rfl, fun U hU hW => ⟨rfl, PM.at hK hE hP hS hU hW⟩⟩ rfl rfl hl.1 rfl (lv_room (Nat.le_of_ble_eq_true rfl)) dX12_either_80 ⟨Nat.le_of_ble_eq_true rfl, Nat.le_of_ble_eq_true rfl⟩) hS (fun q _ h => (freeM hS) q h) (freeM hS) (fun u t H1 locs ht hvm hw hB hz1 hk1 hS => ?_)
              unfold BM at hB
              rw [ht] at hB
              obtain ⟨v9659, F9660, rc9⟩ := u
              obtain ⟨hI, hrc, hf9661, hG9662, hw⟩ := hw
              dsimp only at hI hrc hB hf9661 hG9662 hw
              have hF := frCF (by decide) hG9662 hF
              rw [hrc] at hB
              have hP : va_P (dC, dI) classes (wM g c v9659 F9660 rc) H1 := hB
              replace hw : ((v9645 39).toInt ≤ (v9659 39).toInt ∧ (v9659 39).toInt ≤ (v9645 30).toInt ∧ (v9645 38).toInt ≤ (v9659 38).toInt ∧ (v9659 38).toInt - (v9645 38).toInt ≤ (v9659 39).toInt - (v9645 39).toInt ∧ (v9645 41).toInt ≤ (v9659 41).toInt ∧ ((v9659 40).toInt < 0 → (v9659 41).toInt = (v9645 41).toInt)) ∧ keepL (v9645 37) (F9646 28) (F9646 29) (F9660 28) (F9660 29) ∧ ((v9659 40).toInt < 0 → dp (F9660 28) (F9660 29) (bI (v9645 37)) (v9659 38).toInt.toNat = some ((((d + 1) + 1) - 1) + 1)) := hw
              rw [show v9645 30 = v 30 from (hf9647 30 (by decide)).trans ((hf9630 30 (by decide)).trans ((hf9620 30 (by decide)).trans (hf9408 30 (by decide))))] at hw
              rw [show v9645 38 = v9628 38 from hf9647 38 (by decide)] at hw
              rw [show v9645 37 = v 37 from (hf9647 37 (by decide)).trans ((hf9630 37 (by decide)).trans ((hf9620 37 (by decide)).trans (hf9408 37 (by decide))))] at hw
              have hw_r9658 := hw
              clear hw
              have t9663 : 0 ≤ (v9659 38).toInt ∧ (v9659 38).toInt ≤ 120 := hI.1 38 _ _ rfl
              have t9664 : 0 ≤ (v9659 39).toInt ∧ (v9659 39).toInt ≤ 120 := hI.1 39 _ _ rfl
              have t9665 : 0 ≤ (v9659 41).toInt ∧ (v9659 41).toInt ≤ 8 := hI.1 41 _ _ rfl
              clear hz1
              generalize H1 = H at hP hS ⊢
              replace hk := hk.tr hw_r9658.2.1
              replace hd := hw_r9658.2.2
              replace hw_r9658 := hw_r9658.1
              refine lv_aload_n hx hb dX12_either_83 rfl (lv_at hl 1 rfl) ?_
              refine va_get (D := (dC, dI)) (ci := 12) (v := .int (v9659 40)) (C := RX12) (T := TX12) (N := 63) hx hb hwd inA_X12 hown hK hP 0 rfl rfl 40 (by decide) (hwd _ wk_1005) (fun _ h9 => h9) rfl dX12_either_84 ?_
              refine lv_if_lt (tgt := 91) hx hb dX12_either_87 (by decide) (fun c9666 => ?_) (fun c9666 => ?_)
              · skip
                have t9667 := cv_lt (a := (v9659 40).toInt) rfl (b := 0) (by decide) c9666
                refine lv_aload_n hx hb dX12_either_91 rfl (lv_at hl 1 rfl) ?_
                have t9668 : 0 ≤ (v 30).toInt ∧ (v 30).toInt ≤ 120 := by have h9 := hI.1 30 _ _ rfl; rw [show v9659 30 = v 30 from (hf9661 30 (by decide)).trans ((hf9647 30 (by decide)).trans ((hf9630 30 (by decide)).trans ((hf9620 30 (by decide)).trans (hf9408 30 (by decide)))))] at h9; exact h9
                have t9669 : 0 ≤ (v9659 39).toInt ∧ (v9659 39).toInt ≤ 120 := hI.1 39 _ _ rfl
                refine va_calli (va_runV (As := []) (rest := []) ⟨hx, hb, hml, hown, hwd⟩ (c_X12_look l dC dI g c adK adV v9659 F9660 rc H.size  hg hI ) (cwV 0 hwd (gV wk_1017 wk_1014 wk_1015 wk_1016 wk_5) rfl rfl rfl (by decide +kernel) ⟨(by show 1 + 1 ≤ fr + 7; omega), (by show 8 + (1 + 11) + (40) ≤ lc + 280; omega)⟩) ⟨PM.blind, va_recv hK hP (ci := 12) (q0 := 0) rfl rfl, fun U hU hW => ⟨rfl, PM.at hK hE hP hS hU hW⟩⟩ rfl rfl hl.1 rfl (lv_room (Nat.le_of_ble_eq_true rfl)) dX12_either_92 ⟨Nat.le_of_ble_eq_true rfl, Nat.le_of_ble_eq_true rfl⟩) hS (fun q _ h => (freeM hS) q h) (freeM hS) (fun r9670 u t H1 locs ht hvm hw hB hz1 hk1 hS => ?_)
                unfold BM at hB
                rw [ht] at hB
                have hP : va_P (dC, dI) classes (wM g c v9659 F9660 rc) H1 := hB
                replace hw : r9670.toInt = lkM (v9659 39) (v9659 30) (F9660 24) ∧ ((v9659 39).toInt < (v9659 30).toInt ∨ r9670.toInt = -1) := hw
                rw [show v9659 30 = v 30 from (hf9661 30 (by decide)).trans ((hf9647 30 (by decide)).trans ((hf9630 30 (by decide)).trans ((hf9620 30 (by decide)).trans (hf9408 30 (by decide)))))] at hw
                rw [hF 24 (by decide)] at hw
                have hw_r9670 := hw
                clear hw
                clear hz1
                generalize H1 = H at hP hS ⊢
                refine lv_bipush (v := 58) hx hb dX12_either_95 (by decide) ?_
                refine lv_icmp_eq (tgt := 105) hx hb dX12_either_97 (by decide) (fun c9671 => ?_) (fun c9671 => ?_)
                · skip
                  have t9672 := cv_eq (a := r9670.toInt) rfl (b := 58) (by decide) c9671
                  refine lv_aload_n hx hb dX12_either_105 rfl (lv_at hl 1 rfl) ?_
                  refine lv_dup hx hb dX12_either_106 rfl ?_
                  refine va_get (D := (dC, dI)) (ci := 12) (v := .int (v9659 39)) (C := RX12) (T := TX12) (N := 63) hx hb hwd inA_X12 hown hK hP 0 rfl rfl 39 (by decide) (hwd _ wk_1004) (fun _ h9 => h9) rfl dX12_either_107 ?_
                  have t9673 : 0 ≤ (v9659 39).toInt ∧ (v9659 39).toInt ≤ 120 := hI.1 39 _ _ rfl
                  refine lv_iconst (v := 1) hx hb dX12_either_110 (by decide) ?_
                  refine lv_iadd hx hb dX12_either_111 ?_
                  refine lv_topi (fun z9674 e9675 => ?_)
                  try (have t9676 := tadd e9675 (a := (v9659 39).toInt) rfl (b := 1) (by decide) (by omega))
                  refine va_put (D := (dC, dI)) (ci := 12) (v := .int z9674) (ty := .int) (C := RX12) (T := TX12) (N := 63) (fs := fsM_0 g v9659 rc) hx hb hwd inA_X12 tyX12 tyX12_ok nmX12 hown hK hP (DM hg) hS 0 rfl rfl 39 (by decide) (hwd _ wk_1004) (fun _ h9 => h9) rfl (by decide +kernel) rfl rfl (Nat.le_of_ble_eq_true rfl) dX12_either_112 (fun H locs hP _ hS => ?_)
                  have hP := va_P_eq (pM_39 g c _ _ _ _) hP
                  have hI := IM.put hI 39 z9674 rfl (by omega)
                  refine lv_aload_n hx hb dX12_either_115 rfl (lv_at hl 1 rfl) ?_
                  have t9677 : 0 ≤ (v 30).toInt ∧ (v 30).toInt ≤ 120 := by have h9 := hI.1 30 _ _ rfl; rw [show (va_up v9659 39 z9674) 30 = v 30 from (hf9661 30 (by decide)).trans ((hf9647 30 (by decide)).trans ((hf9630 30 (by decide)).trans ((hf9620 30 (by decide)).trans (hf9408 30 (by decide)))))] at h9; exact h9
                  have t9678 : 0 ≤ (v 37).toInt ∧ (v 37).toInt ≤ 9 := by have h9 := hI.1 37 _ _ rfl; rw [show (va_up v9659 39 z9674) 37 = v 37 from (hf9661 37 (by decide)).trans ((hf9647 37 (by decide)).trans ((hf9630 37 (by decide)).trans ((hf9620 37 (by decide)).trans (hf9408 37 (by decide)))))] at h9; exact h9
                  have t9679 : 0 ≤ (v9659 38).toInt ∧ (v9659 38).toInt ≤ 120 := hI.1 38 _ _ rfl
                  have t9680 : 0 ≤ z9674.toInt ∧ z9674.toInt ≤ 120 := hI.1 39 _ _ rfl
                  have t9681 : 0 ≤ (v9659 41).toInt ∧ (v9659 41).toInt ≤ 8 := hI.1 41 _ _ rfl
                  refine va_callv (va_runV (As := []) (rest := []) ⟨hx, hb, hml, hown, hwd⟩ (rE l dC dI g c adK adV (va_up v9659 39 z9674) F9660 rc H.size  ((((d + 1) + 1) - 1) + 1) hg hI (by have h9 : (va_up v9659 39 z9674) 38 = v9659 38 := rfl; (try rw [h9]); clear h9; have h9 : (va_up v9659 39 z9674) 39 = z9674 := rfl; (try rw [h9]); clear h9; have h9 : (va_up v9659 39 z9674) 30 = v 30 := (hf9661 30 (by decide)).trans ((hf9647 30 (by decide)).trans ((hf9630 30 (by decide)).trans ((hf9620 30 (by decide)).trans (hf9408 30 (by decide))))); (try rw [h9]); clear h9; have h9 : (va_up v9659 39 z9674) 40 = v9659 40 := rfl; (try rw [h9]); clear h9; have h9 : (va_up v9659 39 z9674) 41 = v9659 41 := rfl; (try rw [h9]); clear h9; omega) (by have h9 : (va_up v9659 39 z9674) 37 = (v 37) := (hf9661 37 (by decide)).trans ((hf9647 37 (by decide)).trans ((hf9630 37 (by decide)).trans ((hf9620 37 (by decide)).trans (hf9408 37 (by decide))))); have h8 : (va_up v9659 39 z9674) 38 = (v9659 38) := rfl; (try rw [h9]); (try rw [h8]); exact hd (by omega))) (cwV 0 hwd (gV wk_1010 wk_1007 wk_1008 wk_1009 wk_5) rfl rfl rfl (by decide +kernel) ⟨(by show fr + 3 + 1 ≤ fr + 7; omega), (by show 8 + (2 + 11) + (lc + 120) ≤ lc + 280; omega)⟩) ⟨PM.blind, va_recv hK hP (ci := 12) (q0 := 0) rfl rfl, fun U hU hW => ⟨rfl, PM.at hK hE hP hS hU hW⟩⟩ rfl rfl hl.1 rfl (lv_room (Nat.le_of_ble_eq_true rfl)) dX12_either_116 ⟨Nat.le_of_ble_eq_true rfl, Nat.le_of_ble_eq_true rfl⟩) hS (fun q _ h => (freeM hS) q h) (freeM hS) (fun u t H1 locs ht hvm hw hB hz1 hk1 hS => ?_)
                  unfold BM at hB
                  rw [ht] at hB
                  obtain ⟨v9683, F9684, rc9⟩ := u
                  obtain ⟨hI, hrc, hf9685, hG9686, hw⟩ := hw
                  dsimp only at hI hrc hB hf9685 hG9686 hw
                  have hF := frCF (by decide) hG9686 hF
                  rw [hrc] at hB
                  have hP : va_P (dC, dI) classes (wM g c v9683 F9684 rc) H1 := hB
                  replace hw : (z9674.toInt ≤ (v9683 39).toInt ∧ (v9683 39).toInt ≤ ((va_up v9659 39 z9674) 30).toInt ∧ (v9659 38).toInt ≤ (v9683 38).toInt ∧ (v9683 38).toInt - (v9659 38).toInt ≤ (v9683 39).toInt - z9674.toInt ∧ (v9659 41).toInt ≤ (v9683 41).toInt ∧ ((v9683 40).toInt < 0 → (v9683 41).toInt = (v9659 41).toInt)) ∧ keepL ((va_up v9659 39 z9674) 37) (F9660 28) (F9660 29) (F9684 28) (F9684 29) ∧ ((v9683 40).toInt < 0 → dp (F9684 28) (F9684 29) (bI ((va_up v9659 39 z9674) 37)) (v9683 38).toInt.toNat = some (((((d + 1) + 1) - 1) + 1) + 1)) := hw
                  rw [show (va_up v9659 39 z9674) 30 = v 30 from (hf9661 30 (by decide)).trans ((hf9647 30 (by decide)).trans ((hf9630 30 (by decide)).trans ((hf9620 30 (by decide)).trans (hf9408 30 (by decide)))))] at hw
                  rw [show (va_up v9659 39 z9674) 37 = v 37 from (hf9661 37 (by decide)).trans ((hf9647 37 (by decide)).trans ((hf9630 37 (by decide)).trans ((hf9620 37 (by decide)).trans (hf9408 37 (by decide)))))] at hw
                  have hw_r9682 := hw
                  clear hw
                  have t9687 : 0 ≤ (v9683 38).toInt ∧ (v9683 38).toInt ≤ 120 := hI.1 38 _ _ rfl
                  have t9688 : 0 ≤ (v9683 39).toInt ∧ (v9683 39).toInt ≤ 120 := hI.1 39 _ _ rfl
                  have t9689 : 0 ≤ (v9683 41).toInt ∧ (v9683 41).toInt ≤ 8 := hI.1 41 _ _ rfl
                  clear hz1
                  generalize H1 = H at hP hS ⊢
                  replace hk := hk.tr hw_r9682.2.1
                  replace hd := hw_r9682.2.2
                  replace hw_r9682 := hw_r9682.1
                  refine lv_aload_n hx hb dX12_either_119 rfl (lv_at hl 1 rfl) ?_
                  refine lv_iconst (v := 4) hx hb dX12_either_120 (by decide) ?_
                  refine lv_iconst (v := 0) hx hb dX12_either_121 (by decide) ?_
                  have t9690 : 0 ≤ (v 37).toInt ∧ (v 37).toInt ≤ 9 := by have h9 := hI.1 37 _ _ rfl; rw [show v9683 37 = v 37 from (hf9685 37 (by decide)).trans ((hf9661 37 (by decide)).trans ((hf9647 37 (by decide)).trans ((hf9630 37 (by decide)).trans ((hf9620 37 (by decide)).trans (hf9408 37 (by decide))))))] at h9; exact h9
                  have t9691 : 0 ≤ (v9683 38).toInt ∧ (v9683 38).toInt ≤ 120 := hI.1 38 _ _ rfl
                  refine va_callv (va_runV (As := [.int 4, .int 0]) (rest := []) ⟨hx, hb, hml, hown, hwd⟩ (c_X12_lay l dC dI g c adK adV v9683 F9684 rc H.size 4 0 hg hI (by have h9 : v9683 38 = v9683 38 := rfl; rw [h9]; omega)) (cwV 2 hwd (gV wk_1021 wk_1018 wk_1019 wk_1020 wk_5) rfl rfl rfl (by decide +kernel) ⟨(by show 1 + 1 ≤ fr + 7; omega), (by show 8 + (3 + 11) + (40) ≤ lc + 280; omega)⟩) ⟨PM.blind, va_recv hK hP (ci := 12) (q0 := 0) rfl rfl, fun U hU hW => ⟨rfl, PM.at hK hE hP hS hU hW⟩⟩ rfl rfl hl.1 rfl (lv_room (Nat.le_of_ble_eq_true rfl)) dX12_either_122 ⟨Nat.le_of_ble_eq_true rfl, Nat.le_of_ble_eq_true rfl⟩) hS (fun q _ h => (freeM hS) q h) (freeM hS) (fun u t H1 locs ht hvm hw hB hz1 hk1 hS => ?_)
                  unfold BM at hB
                  rw [ht] at hB
                  obtain ⟨v9693, F9694, rc9⟩ := u
                  obtain ⟨hI, hrc, hf9695, hG9696, hw⟩ := hw
                  dsimp only at hI hrc hB hf9695 hG9696 hw
                  have hF := frCF (by decide) hG9696 hF
                  rw [hrc] at hB
                  have hP : va_P (dC, dI) classes (wM g c v9693 F9694 rc) H1 := hB
                  replace hw : (v9693 38).toInt = (v9683 38).toInt + 1 ∧ keepL (v9683 37) (F9684 28) (F9684 29) (F9694 28) (F9694 29) ∧ dp (F9694 28) (F9694 29) (bI (v9683 37)) ((v9683 38).toInt.toNat + 1) = dpS (dp (F9684 28) (F9684 29) (bI (v9683 37)) (v9683 38).toInt.toNat) (4 : Int32) (0 : Int32) := hw
                  rw [show v9683 37 = v 37 from (hf9685 37 (by decide)).trans ((hf9661 37 (by decide)).trans ((hf9647 37 (by decide)).trans ((hf9630 37 (by decide)).trans ((hf9620 37 (by decide)).trans (hf9408 37 (by decide))))))] at hw
                  have hw_r9692 := hw
                  clear hw
                  have t9697 : 0 ≤ (v9693 38).toInt ∧ (v9693 38).toInt ≤ 120 := hI.1 38 _ _ rfl
                  have k9698 : (4 : Int32).toInt = 4 := by decide
                  have k9699 : (0 : Int32).toInt = 0 := by decide
                  clear hz1
                  generalize H1 = H at hP hS ⊢
                  replace hk := hk.tr hw_r9692.2.1
                  replace hd : (v9683 40).toInt < 0 → dp (F9694 28) (F9694 29) (bI (v 37)) (v9693 38).toInt.toNat = some ((((((d + 1) + 1) - 1) + 1) + 1) - 2) := fun hf => (by have e9 : (v9693 38).toInt.toNat = (v9683 38).toInt.toNat + 1 := (by omega); rw [e9, hw_r9692.2.2, hd hf]; exact dpS_4 (by decide) (by omega))
                  replace hw_r9692 := hw_r9692.1
                  refine lv_aload_n hx hb dX12_either_125 rfl (lv_at hl 1 rfl) ?_
                  refine lv_dup hx hb dX12_either_126 rfl ?_
                  refine va_get (D := (dC, dI)) (ci := 12) (v := .int (v9693 41)) (C := RX12) (T := TX12) (N := 63) hx hb hwd inA_X12 hown hK hP 0 rfl rfl 41 (by decide) (hwd _ wk_1006) (fun _ h9 => h9) rfl dX12_either_127 ?_
                  refine my_top (v := v9683 41) (hf9695 41 (by decide)) ?_
                  have t9700 : 0 ≤ (v9683 41).toInt ∧ (v9683 41).toInt ≤ 8 := by have h9 := hI.1 41 _ _ rfl; rw [show v9693 41 = v9683 41 from hf9695 41 (by decide)] at h9; exact h9
                  refine lv_iconst (v := 1) hx hb dX12_either_130 (by decide) ?_
                  refine lv_isub hx hb dX12_either_131 ?_
                  refine lv_topi (fun z9701 e9702 => ?_)
                  try (have t9703 := tsub e9702 (a := (v9683 41).toInt) rfl (b := 1) (by decide) (by omega))
                  refine va_put (D := (dC, dI)) (ci := 12) (v := .int z9701) (ty := .int) (C := RX12) (T := TX12) (N := 63) (fs := fsM_0 g v9693 rc) hx hb hwd inA_X12 tyX12 tyX12_ok nmX12 hown hK hP (DM hg) hS 0 rfl rfl 41 (by decide) (hwd _ wk_1006) (fun _ h9 => h9) rfl (by decide +kernel) rfl rfl (Nat.le_of_ble_eq_true rfl) dX12_either_132 (fun H locs hP _ hS => ?_)
                  have hP := va_P_eq (pM_41 g c _ _ _ _) hP
                  have hI := IM.put hI 41 z9701 rfl (by omega)
                  have hP9 : va_P (dC, dI) classes (wM g c (va_up v9693 41 z9701) F9694 rc) H := hP
                  exact W.vret hx hb hr (fun t ht hW => ⟨⟨((va_up v9693 41 z9701), F9694, rc), rfl, ⟨hI, rfl, (frU (by decide) (frC (by decide) hf9695 (frC (by decide) hf9685 (frU (by decide) (frC (by decide) hf9661 (frC (by decide) hf9647 (frC (by decide) hf9630 (frC (by decide) hf9620 (frU (by decide) (frC (by decide) hf9408 (fun _ _ => rfl))))))))))), hF, (by show ((v 39).toInt ≤ ((va_up v9693 41 z9701) 39).toInt ∧ ((va_up v9693 41 z9701) 39).toInt ≤ (v 30).toInt ∧ (v 38).toInt ≤ (v9693 38).toInt ∧ (v9693 38).toInt - (v 38).toInt ≤ ((va_up v9693 41 z9701) 39).toInt - (v 39).toInt ∧ (v 41).toInt ≤ z9701.toInt ∧ (((va_up v9693 41 z9701) 40).toInt < 0 → z9701.toInt = (v 41).toInt)) ∧ keepL (v 37) (F 28) (F 29) (F9694 28) (F9694 29) ∧ (((va_up v9693 41 z9701) 40).toInt < 0 → dp (F9694 28) (F9694 29) (bI (v 37)) (v9693 38).toInt.toNat = some (d + 1)); rw [show (va_up v9693 41 z9701) 39 = v9683 39 from hf9695 39 (by decide)]; rw [show (va_up v9693 41 z9701) 40 = v9683 40 from hf9695 40 (by decide)]; exact ⟨by omega, hk, fun hf => (hd (by omega)).trans (congrArg some (by omega))⟩)⟩, (by show va_P _ _ _ t.heap; rw [ht]; exact hP9)⟩, hS.F ht⟩) hS.2.2 dX12_either_135
                · skip
                  have t9704 := cv_ne (a := r9670.toInt) rfl (b := 58) (by decide) c9671
                  refine lv_aload_n hx hb dX12_either_100 rfl (lv_at hl 1 rfl) ?_
                  refine va_callv (va_runV (As := []) (rest := []) ⟨hx, hb, hml, hown, hwd⟩ (c_X12_wrong l dC dI g c adK adV v9659 F9660 rc H.size  hg hI ) (cwV 0 hwd (gV wk_1029 wk_1026 wk_1027 wk_1028 wk_5) rfl rfl rfl (by decide +kernel) ⟨(by show 1 + 1 ≤ fr + 7; omega), (by show 8 + (1 + 11) + (40) ≤ lc + 280; omega)⟩) ⟨PM.blind, va_recv hK hP (ci := 12) (q0 := 0) rfl rfl, fun U hU hW => ⟨rfl, PM.at hK hE hP hS hU hW⟩⟩ rfl rfl hl.1 rfl (lv_room (Nat.le_of_ble_eq_true rfl)) dX12_either_101 ⟨Nat.le_of_ble_eq_true rfl, Nat.le_of_ble_eq_true rfl⟩) hS (fun q _ h => (freeM hS) q h) (freeM hS) (fun u t H1 locs ht hvm hw hB hz1 hk1 hS => ?_)
                  unfold BM at hB
                  rw [ht] at hB
                  obtain ⟨v9706, F9707, rc9⟩ := u
                  obtain ⟨hI, hrc, hf9708, hG9709, hw⟩ := hw
                  dsimp only at hI hrc hB hf9708 hG9709 hw
                  have hF := frCF (by decide) hG9709 hF
                  rw [hrc] at hB
                  have hP : va_P (dC, dI) classes (wM g c v9706 F9707 rc) H1 := hB
                  replace hw : 0 ≤ (v9706 40).toInt := hw
                  have hw_r9705 := hw
                  clear hw
                  clear hz1
                  generalize H1 = H at hP hS ⊢
                  replace hk : keepL (v 37) (F 28) (F 29) (F9707 28) (F9707 29) := by rw [hG9709 28 (by decide), hG9709 29 (by decide)]; exact hk
                  replace hd : (v9706 40).toInt < 0 → dp (F9707 28) (F9707 29) (bI (v 37)) (v9659 38).toInt.toNat = some ((((d + 1) + 1) - 1) + 1) := fun hf => (by rw [hG9709 28 (by decide), hG9709 29 (by decide)]; exact hd (by omega))
                  have hP9 : va_P (dC, dI) classes (wM g c v9706 F9707 rc) H := hP
                  exact W.vret hx hb hr (fun t ht hW => ⟨⟨(v9706, F9707, rc), rfl, ⟨hI, rfl, (frC (by decide) hf9708 (frC (by decide) hf9661 (frC (by decide) hf9647 (frC (by decide) hf9630 (frC (by decide) hf9620 (frU (by decide) (frC (by decide) hf9408 (fun _ _ => rfl)))))))), hF, (by show ((v 39).toInt ≤ (v9706 39).toInt ∧ (v9706 39).toInt ≤ (v 30).toInt ∧ (v 38).toInt ≤ (v9706 38).toInt ∧ (v9706 38).toInt - (v 38).toInt ≤ (v9706 39).toInt - (v 39).toInt ∧ (v 41).toInt ≤ (v9706 41).toInt ∧ ((v9706 40).toInt < 0 → (v9706 41).toInt = (v 41).toInt)) ∧ keepL (v 37) (F 28) (F 29) (F9707 28) (F9707 29) ∧ ((v9706 40).toInt < 0 → dp (F9707 28) (F9707 29) (bI (v 37)) (v9706 38).toInt.toNat = some (d + 1)); rw [show v9706 39 = v9659 39 from hf9708 39 (by decide)]; rw [show v9706 38 = v9659 38 from hf9708 38 (by decide)]; rw [show v9706 41 = v9659 41 from hf9708 41 (by decide)]; exact ⟨by omega, hk, fun hf => (hd (by omega)).trans (congrArg some (by omega))⟩)⟩, (by show va_P _ _ _ t.heap; rw [ht]; exact hP9)⟩, hS.F ht⟩) hS.2.2 dX12_either_104
              · skip
                have t9710 := cv_nlt (a := (v9659 40).toInt) rfl (b := 0) (by decide) c9666
                have hP9 : va_P (dC, dI) classes (wM g c v9659 F9660 rc) H := hP
                exact W.vret hx hb hr (fun t ht hW => ⟨⟨(v9659, F9660, rc), rfl, ⟨hI, rfl, (frC (by decide) hf9661 (frC (by decide) hf9647 (frC (by decide) hf9630 (frC (by decide) hf9620 (frU (by decide) (frC (by decide) hf9408 (fun _ _ => rfl))))))), hF, (by show ((v 39).toInt ≤ (v9659 39).toInt ∧ (v9659 39).toInt ≤ (v 30).toInt ∧ (v 38).toInt ≤ (v9659 38).toInt ∧ (v9659 38).toInt - (v 38).toInt ≤ (v9659 39).toInt - (v 39).toInt ∧ (v 41).toInt ≤ (v9659 41).toInt ∧ ((v9659 40).toInt < 0 → (v9659 41).toInt = (v 41).toInt)) ∧ keepL (v 37) (F 28) (F 29) (F9660 28) (F9660 29) ∧ ((v9659 40).toInt < 0 → dp (F9660 28) (F9660 29) (bI (v 37)) (v9659 38).toInt.toNat = some (d + 1)); exact ⟨by omega, hk, fun hf => (hd (by omega)).trans (congrArg some (by omega))⟩)⟩, (by show va_P _ _ _ t.heap; rw [ht]; exact hP9)⟩, hS.F ht⟩) hS.2.2 dX12_either_90
            · skip
              have t9711 := cv_eq (a := r9644.toInt) rfl (b := 0) (by decide) c9651
              have hP9 : va_P (dC, dI) classes (wM g c v9645 F9646 rc) H := hP
              exact W.vret hx hb hr (fun t ht hW => ⟨⟨(v9645, F9646, rc), rfl, ⟨hI, rfl, (frC (by decide) hf9647 (frC (by decide) hf9630 (frC (by decide) hf9620 (frU (by decide) (frC (by decide) hf9408 (fun _ _ => rfl)))))), hF, (by show ((v 39).toInt ≤ (v9645 39).toInt ∧ (v9645 39).toInt ≤ (v 30).toInt ∧ (v 38).toInt ≤ (v9645 38).toInt ∧ (v9645 38).toInt - (v 38).toInt ≤ (v9645 39).toInt - (v 39).toInt ∧ (v 41).toInt ≤ (v9645 41).toInt ∧ ((v9645 40).toInt < 0 → (v9645 41).toInt = (v 41).toInt)) ∧ keepL (v 37) (F 28) (F 29) (F9646 28) (F9646 29) ∧ ((v9645 40).toInt < 0 → dp (F9646 28) (F9646 29) (bI (v 37)) (v9645 38).toInt.toNat = some (d + 1)); rw [show v9645 38 = v9628 38 from hf9647 38 (by decide)]; exact ⟨by omega, hk, fun hf => (hd (by omega)).trans (congrArg some (by omega))⟩)⟩, (by show va_P _ _ _ t.heap; rw [ht]; exact hP9)⟩, hS.F ht⟩) hS.2.2 dX12_either_78
          · skip
            have t9712 := cv_ne (a := r9639.toInt) rfl (b := 63) (by decide) c9640
            have hP9 : va_P (dC, dI) classes (wM g c v9628 F9629 rc) H := hP
            exact W.vret hx hb hr (fun t ht hW => ⟨⟨(v9628, F9629, rc), rfl, ⟨hI, rfl, (frC (by decide) hf9630 (frC (by decide) hf9620 (frU (by decide) (frC (by decide) hf9408 (fun _ _ => rfl))))), hF, (by show ((v 39).toInt ≤ (v9628 39).toInt ∧ (v9628 39).toInt ≤ (v 30).toInt ∧ (v 38).toInt ≤ (v9628 38).toInt ∧ (v9628 38).toInt - (v 38).toInt ≤ (v9628 39).toInt - (v 39).toInt ∧ (v 41).toInt ≤ (v9628 41).toInt ∧ ((v9628 40).toInt < 0 → (v9628 41).toInt = (v 41).toInt)) ∧ keepL (v 37) (F 28) (F 29) (F9629 28) (F9629 29) ∧ ((v9628 40).toInt < 0 → dp (F9629 28) (F9629 29) (bI (v 37)) (v9628 38).toInt.toNat = some (d + 1)); rw [show v9628 39 = v9618 39 from hf9630 39 (by decide)]; rw [show v9628 41 = v9618 41 from hf9630 41 (by decide)]; rw [show v9628 40 = v9618 40 from hf9630 40 (by decide)]; exact ⟨by omega, hk, fun hf => (hd (by omega)).trans (congrArg some (by omega))⟩)⟩, (by show va_P _ _ _ t.heap; rw [ht]; exact hP9)⟩, hS.F ht⟩) hS.2.2 dX12_either_70
      · skip
        have t9713 := cv_ne (a := r9415.toInt) rfl (b := 61) (by decide) c9606
        refine lv_iload_n hx hb dX12_either_28 rfl (lv_at hl 0 rfl) ?_
        refine lv_bipush (v := 62) hx hb dX12_either_29 (by decide) ?_
        refine lv_icmp_ne (tgt := 54) hx hb dX12_either_31 (by decide) (fun c9714 => ?_) (fun c9714 => ?_)
        · skip
          have t9715 := cv_ne (a := r9415.toInt) rfl (b := 62) (by decide) c9714
          refine lv_aload_n hx hb dX12_either_54 rfl (lv_at hl 1 rfl) ?_
          refine va_get (D := (dC, dI)) (ci := 12) (v := .int (v9406 40)) (C := RX12) (T := TX12) (N := 63) hx hb hwd inA_X12 hown hK hP 0 rfl rfl 40 (by decide) (hwd _ wk_1005) (fun _ h9 => h9) rfl dX12_either_55 ?_
          refine lv_if_ge (tgt := 70) hx hb dX12_either_58 (by decide) (fun c9716 => ?_) (fun c9716 => ?_)
          · skip
            have t9717 := cv_le (a := 0) (by decide) (b := (v9406 40).toInt) rfl c9716
            have hP9 : va_P (dC, dI) classes (wM g c v9406 F9407 rc) H := hP
            exact W.vret hx hb hr (fun t ht hW => ⟨⟨(v9406, F9407, rc), rfl, ⟨hI, rfl, (frC (by decide) hf9408 (fun _ _ => rfl)), hF, (by show ((v 39).toInt ≤ (v9406 39).toInt ∧ (v9406 39).toInt ≤ (v 30).toInt ∧ (v 38).toInt ≤ (v9406 38).toInt ∧ (v9406 38).toInt - (v 38).toInt ≤ (v9406 39).toInt - (v 39).toInt ∧ (v 41).toInt ≤ (v9406 41).toInt ∧ ((v9406 40).toInt < 0 → (v9406 41).toInt = (v 41).toInt)) ∧ keepL (v 37) (F 28) (F 29) (F9407 28) (F9407 29) ∧ ((v9406 40).toInt < 0 → dp (F9407 28) (F9407 29) (bI (v 37)) (v9406 38).toInt.toNat = some (d + 1)); exact ⟨by omega, hk, fun hf => (hd (by omega)).trans (congrArg some (by omega))⟩)⟩, (by show va_P _ _ _ t.heap; rw [ht]; exact hP9)⟩, hS.F ht⟩) hS.2.2 dX12_either_70
          · skip
            have t9718 := cv_nle (a := 0) (by decide) (b := (v9406 40).toInt) rfl c9716
            refine lv_aload_n hx hb dX12_either_61 rfl (lv_at hl 1 rfl) ?_
            have t9719 : 0 ≤ (v 30).toInt ∧ (v 30).toInt ≤ 120 := by have h9 := hI.1 30 _ _ rfl; rw [show v9406 30 = v 30 from hf9408 30 (by decide)] at h9; exact h9
            have t9720 : 0 ≤ (v9406 39).toInt ∧ (v9406 39).toInt ≤ 120 := hI.1 39 _ _ rfl
            refine va_calli (va_runV (As := []) (rest := []) ⟨hx, hb, hml, hown, hwd⟩ (c_X12_look l dC dI g c adK adV v9406 F9407 rc H.size  hg hI ) (cwV 0 hwd (gV wk_1017 wk_1014 wk_1015 wk_1016 wk_5) rfl rfl rfl (by decide +kernel) ⟨(by show 1 + 1 ≤ fr + 7; omega), (by show 8 + (1 + 11) + (40) ≤ lc + 280; omega)⟩) ⟨PM.blind, va_recv hK hP (ci := 12) (q0 := 0) rfl rfl, fun U hU hW => ⟨rfl, PM.at hK hE hP hS hU hW⟩⟩ rfl rfl hl.1 rfl (lv_room (Nat.le_of_ble_eq_true rfl)) dX12_either_62 ⟨Nat.le_of_ble_eq_true rfl, Nat.le_of_ble_eq_true rfl⟩) hS (fun q _ h => (freeM hS) q h) (freeM hS) (fun r9721 u t H1 locs ht hvm hw hB hz1 hk1 hS => ?_)
            unfold BM at hB
            rw [ht] at hB
            have hP : va_P (dC, dI) classes (wM g c v9406 F9407 rc) H1 := hB
            replace hw : r9721.toInt = lkM (v9406 39) (v9406 30) (F9407 24) ∧ ((v9406 39).toInt < (v9406 30).toInt ∨ r9721.toInt = -1) := hw
            rw [show v9406 30 = v 30 from hf9408 30 (by decide)] at hw
            rw [hF 24 (by decide)] at hw
            have hw_r9721 := hw
            clear hw
            clear hz1
            generalize H1 = H at hP hS ⊢
            refine lv_bipush (v := 63) hx hb dX12_either_65 (by decide) ?_
            refine lv_icmp_eq (tgt := 71) hx hb dX12_either_67 (by decide) (fun c9722 => ?_) (fun c9722 => ?_)
            · skip
              have t9723 := cv_eq (a := r9721.toInt) rfl (b := 63) (by decide) c9722
              refine lv_aload_n hx hb dX12_either_71 rfl (lv_at hl 1 rfl) ?_
              have t9724 : 0 ≤ (v9406 39).toInt ∧ (v9406 39).toInt ≤ 120 := hI.1 39 _ _ rfl
              have t9725 : 0 ≤ (v9406 41).toInt ∧ (v9406 41).toInt ≤ 8 := hI.1 41 _ _ rfl
              refine va_calli (va_runV (As := []) (rest := []) ⟨hx, hb, hml, hown, hwd⟩ (c_X12_opens l dC dI g c adK adV v9406 F9407 rc H.size  hg hI (by have h9 : v9406 39 = v9406 39 := rfl; (try rw [h9]); clear h9; have h9 : v9406 30 = v 30 := hf9408 30 (by decide); (try rw [h9]); clear h9; omega)) (cwV 0 hwd (gV wk_1025 wk_1022 wk_1023 wk_1024 wk_5) rfl rfl rfl (by decide +kernel) ⟨(by show 2 + 1 ≤ fr + 7; omega), (by show 8 + (1 + 11) + (80) ≤ lc + 280; omega)⟩) ⟨PM.blind, va_recv hK hP (ci := 12) (q0 := 0) rfl rfl, fun U hU hW => ⟨rfl, PM.at hK hE hP hS hU hW⟩⟩ rfl rfl hl.1 rfl (lv_room (Nat.le_of_ble_eq_true rfl)) dX12_either_72 ⟨Nat.le_of_ble_eq_true rfl, Nat.le_of_ble_eq_true rfl⟩) hS (fun q _ h => (freeM hS) q h) (freeM hS) (fun r9726 u t H1 locs ht hvm hw hB hz1 hk1 hS => ?_)
              unfold BM at hB
              rw [ht] at hB
              obtain ⟨v9727, F9728, rc9⟩ := u
              obtain ⟨hI, hrc, hf9729, hG9730, hw⟩ := hw
              dsimp only at hI hrc hB hf9729 hG9730 hw
              have hF := frCF (by decide) hG9730 hF
              rw [hrc] at hB
              have hP : va_P (dC, dI) classes (wM g c v9727 F9728 rc) H1 := hB
              replace hw : (r9726.toInt = 1 ∧ (v9406 41).toInt < 8 ∧ (v9727 41).toInt = (v9406 41).toInt + 1 ∧ (v9727 39).toInt = (v9406 39).toInt + 1 ∧ (v9727 40).toInt = (v9406 40).toInt) ∨ (r9726.toInt = 0 ∧ (v9406 41).toInt = 8 ∧ 0 ≤ (v9727 40).toInt ∧ (v9727 41).toInt = (v9406 41).toInt ∧ (v9727 39).toInt = (v9406 39).toInt) := hw
              have hw_r9726 := hw
              clear hw
              have t9731 : 0 ≤ (v9727 39).toInt ∧ (v9727 39).toInt ≤ 120 := hI.1 39 _ _ rfl
              have t9732 : 0 ≤ (v9727 41).toInt ∧ (v9727 41).toInt ≤ 8 := hI.1 41 _ _ rfl
              clear hz1
              generalize H1 = H at hP hS ⊢
              replace hk : keepL (v 37) (F 28) (F 29) (F9728 28) (F9728 29) := by rw [hG9730 28 (by decide), hG9730 29 (by decide)]; exact hk
              replace hd : (v9727 40).toInt < 0 → dp (F9728 28) (F9728 29) (bI (v 37)) (v9406 38).toInt.toNat = some (d + 1) := fun hf => (by rw [hG9730 28 (by decide), hG9730 29 (by decide)]; exact hd (by omega))
              refine lv_if_ne (tgt := 79) hx hb dX12_either_75 (by decide) (fun c9733 => ?_) (fun c9733 => ?_)
              · skip
                have t9734 := cv_ne (a := r9726.toInt) rfl (b := 0) (by decide) c9733
                refine lv_aload_n hx hb dX12_either_79 rfl (lv_at hl 1 rfl) ?_
                have t9735 : 0 ≤ (v 30).toInt ∧ (v 30).toInt ≤ 120 := by have h9 := hI.1 30 _ _ rfl; rw [show v9727 30 = v 30 from (hf9729 30 (by decide)).trans (hf9408 30 (by decide))] at h9; exact h9
                have t9736 : 0 ≤ (v 37).toInt ∧ (v 37).toInt ≤ 9 := by have h9 := hI.1 37 _ _ rfl; rw [show v9727 37 = v 37 from (hf9729 37 (by decide)).trans (hf9408 37 (by decide))] at h9; exact h9
                have t9737 : 0 ≤ (v9406 38).toInt ∧ (v9406 38).toInt ≤ 120 := by have h9 := hI.1 38 _ _ rfl; rw [show v9727 38 = v9406 38 from hf9729 38 (by decide)] at h9; exact h9
                have t9738 : 0 ≤ (v9727 39).toInt ∧ (v9727 39).toInt ≤ 120 := hI.1 39 _ _ rfl
                have t9739 : 0 ≤ (v9727 41).toInt ∧ (v9727 41).toInt ≤ 8 := hI.1 41 _ _ rfl
                refine va_callv (va_runV (As := []) (rest := []) ⟨hx, hb, hml, hown, hwd⟩ (rE l dC dI g c adK adV v9727 F9728 rc H.size  (d + 1) hg hI (by have h9 : v9727 38 = v9406 38 := hf9729 38 (by decide); (try rw [h9]); clear h9; have h9 : v9727 39 = v9727 39 := rfl; (try rw [h9]); clear h9; have h9 : v9727 30 = v 30 := (hf9729 30 (by decide)).trans (hf9408 30 (by decide)); (try rw [h9]); clear h9; have h9 : v9727 40 = v9727 40 := rfl; (try rw [h9]); clear h9; have h9 : v9727 41 = v9727 41 := rfl; (try rw [h9]); clear h9; omega) (by have h9 : v9727 37 = (v 37) := (hf9729 37 (by decide)).trans (hf9408 37 (by decide)); have h8 : v9727 38 = (v9406 38) := hf9729 38 (by decide); (try rw [h9]); (try rw [h8]); exact hd (by omega))) (cwV 0 hwd (gV wk_1010 wk_1007 wk_1008 wk_1009 wk_5) rfl rfl rfl (by decide +kernel) ⟨(by show fr + 3 + 1 ≤ fr + 7; omega), (by show 8 + (2 + 11) + (lc + 120) ≤ lc + 280; omega)⟩) ⟨PM.blind, va_recv hK hP (ci := 12) (q0 := 0) rfl rfl, fun U hU hW => ⟨rfl, PM.at hK hE hP hS hU hW⟩⟩ rfl rfl hl.1 rfl (lv_room (Nat.le_of_ble_eq_true rfl)) dX12_either_80 ⟨Nat.le_of_ble_eq_true rfl, Nat.le_of_ble_eq_true rfl⟩) hS (fun q _ h => (freeM hS) q h) (freeM hS) (fun u t H1 locs ht hvm hw hB hz1 hk1 hS => ?_)
                unfold BM at hB
                rw [ht] at hB
                obtain ⟨v9741, F9742, rc9⟩ := u
                obtain ⟨hI, hrc, hf9743, hG9744, hw⟩ := hw
                dsimp only at hI hrc hB hf9743 hG9744 hw
                have hF := frCF (by decide) hG9744 hF
                rw [hrc] at hB
                have hP : va_P (dC, dI) classes (wM g c v9741 F9742 rc) H1 := hB
                replace hw : ((v9727 39).toInt ≤ (v9741 39).toInt ∧ (v9741 39).toInt ≤ (v9727 30).toInt ∧ (v9727 38).toInt ≤ (v9741 38).toInt ∧ (v9741 38).toInt - (v9727 38).toInt ≤ (v9741 39).toInt - (v9727 39).toInt ∧ (v9727 41).toInt ≤ (v9741 41).toInt ∧ ((v9741 40).toInt < 0 → (v9741 41).toInt = (v9727 41).toInt)) ∧ keepL (v9727 37) (F9728 28) (F9728 29) (F9742 28) (F9742 29) ∧ ((v9741 40).toInt < 0 → dp (F9742 28) (F9742 29) (bI (v9727 37)) (v9741 38).toInt.toNat = some ((d + 1) + 1)) := hw
                rw [show v9727 30 = v 30 from (hf9729 30 (by decide)).trans (hf9408 30 (by decide))] at hw
                rw [show v9727 38 = v9406 38 from hf9729 38 (by decide)] at hw
                rw [show v9727 37 = v 37 from (hf9729 37 (by decide)).trans (hf9408 37 (by decide))] at hw
                have hw_r9740 := hw
                clear hw
                have t9745 : 0 ≤ (v9741 38).toInt ∧ (v9741 38).toInt ≤ 120 := hI.1 38 _ _ rfl
                have t9746 : 0 ≤ (v9741 39).toInt ∧ (v9741 39).toInt ≤ 120 := hI.1 39 _ _ rfl
                have t9747 : 0 ≤ (v9741 41).toInt ∧ (v9741 41).toInt ≤ 8 := hI.1 41 _ _ rfl
                clear hz1
                generalize H1 = H at hP hS ⊢
                replace hk := hk.tr hw_r9740.2.1
                replace hd := hw_r9740.2.2
                replace hw_r9740 := hw_r9740.1
                refine lv_aload_n hx hb dX12_either_83 rfl (lv_at hl 1 rfl) ?_
                refine va_get (D := (dC, dI)) (ci := 12) (v := .int (v9741 40)) (C := RX12) (T := TX12) (N := 63) hx hb hwd inA_X12 hown hK hP 0 rfl rfl 40 (by decide) (hwd _ wk_1005) (fun _ h9 => h9) rfl dX12_either_84 ?_
                refine lv_if_lt (tgt := 91) hx hb dX12_either_87 (by decide) (fun c9748 => ?_) (fun c9748 => ?_)
                · skip
                  have t9749 := cv_lt (a := (v9741 40).toInt) rfl (b := 0) (by decide) c9748
                  refine lv_aload_n hx hb dX12_either_91 rfl (lv_at hl 1 rfl) ?_
                  have t9750 : 0 ≤ (v 30).toInt ∧ (v 30).toInt ≤ 120 := by have h9 := hI.1 30 _ _ rfl; rw [show v9741 30 = v 30 from (hf9743 30 (by decide)).trans ((hf9729 30 (by decide)).trans (hf9408 30 (by decide)))] at h9; exact h9
                  have t9751 : 0 ≤ (v9741 39).toInt ∧ (v9741 39).toInt ≤ 120 := hI.1 39 _ _ rfl
                  refine va_calli (va_runV (As := []) (rest := []) ⟨hx, hb, hml, hown, hwd⟩ (c_X12_look l dC dI g c adK adV v9741 F9742 rc H.size  hg hI ) (cwV 0 hwd (gV wk_1017 wk_1014 wk_1015 wk_1016 wk_5) rfl rfl rfl (by decide +kernel) ⟨(by show 1 + 1 ≤ fr + 7; omega), (by show 8 + (1 + 11) + (40) ≤ lc + 280; omega)⟩) ⟨PM.blind, va_recv hK hP (ci := 12) (q0 := 0) rfl rfl, fun U hU hW => ⟨rfl, PM.at hK hE hP hS hU hW⟩⟩ rfl rfl hl.1 rfl (lv_room (Nat.le_of_ble_eq_true rfl)) dX12_either_92 ⟨Nat.le_of_ble_eq_true rfl, Nat.le_of_ble_eq_true rfl⟩) hS (fun q _ h => (freeM hS) q h) (freeM hS) (fun r9752 u t H1 locs ht hvm hw hB hz1 hk1 hS => ?_)
                  unfold BM at hB
                  rw [ht] at hB
                  have hP : va_P (dC, dI) classes (wM g c v9741 F9742 rc) H1 := hB
                  replace hw : r9752.toInt = lkM (v9741 39) (v9741 30) (F9742 24) ∧ ((v9741 39).toInt < (v9741 30).toInt ∨ r9752.toInt = -1) := hw
                  rw [show v9741 30 = v 30 from (hf9743 30 (by decide)).trans ((hf9729 30 (by decide)).trans (hf9408 30 (by decide)))] at hw
                  rw [hF 24 (by decide)] at hw
                  have hw_r9752 := hw
                  clear hw
                  clear hz1
                  generalize H1 = H at hP hS ⊢
                  refine lv_bipush (v := 58) hx hb dX12_either_95 (by decide) ?_
                  refine lv_icmp_eq (tgt := 105) hx hb dX12_either_97 (by decide) (fun c9753 => ?_) (fun c9753 => ?_)
                  · skip
                    have t9754 := cv_eq (a := r9752.toInt) rfl (b := 58) (by decide) c9753
                    refine lv_aload_n hx hb dX12_either_105 rfl (lv_at hl 1 rfl) ?_
                    refine lv_dup hx hb dX12_either_106 rfl ?_
                    refine va_get (D := (dC, dI)) (ci := 12) (v := .int (v9741 39)) (C := RX12) (T := TX12) (N := 63) hx hb hwd inA_X12 hown hK hP 0 rfl rfl 39 (by decide) (hwd _ wk_1004) (fun _ h9 => h9) rfl dX12_either_107 ?_
                    have t9755 : 0 ≤ (v9741 39).toInt ∧ (v9741 39).toInt ≤ 120 := hI.1 39 _ _ rfl
                    refine lv_iconst (v := 1) hx hb dX12_either_110 (by decide) ?_
                    refine lv_iadd hx hb dX12_either_111 ?_
                    refine lv_topi (fun z9756 e9757 => ?_)
                    try (have t9758 := tadd e9757 (a := (v9741 39).toInt) rfl (b := 1) (by decide) (by omega))
                    refine va_put (D := (dC, dI)) (ci := 12) (v := .int z9756) (ty := .int) (C := RX12) (T := TX12) (N := 63) (fs := fsM_0 g v9741 rc) hx hb hwd inA_X12 tyX12 tyX12_ok nmX12 hown hK hP (DM hg) hS 0 rfl rfl 39 (by decide) (hwd _ wk_1004) (fun _ h9 => h9) rfl (by decide +kernel) rfl rfl (Nat.le_of_ble_eq_true rfl) dX12_either_112 (fun H locs hP _ hS => ?_)
                    have hP := va_P_eq (pM_39 g c _ _ _ _) hP
                    have hI := IM.put hI 39 z9756 rfl (by omega)
                    refine lv_aload_n hx hb dX12_either_115 rfl (lv_at hl 1 rfl) ?_
                    have t9759 : 0 ≤ (v 30).toInt ∧ (v 30).toInt ≤ 120 := by have h9 := hI.1 30 _ _ rfl; rw [show (va_up v9741 39 z9756) 30 = v 30 from (hf9743 30 (by decide)).trans ((hf9729 30 (by decide)).trans (hf9408 30 (by decide)))] at h9; exact h9
                    have t9760 : 0 ≤ (v 37).toInt ∧ (v 37).toInt ≤ 9 := by have h9 := hI.1 37 _ _ rfl; rw [show (va_up v9741 39 z9756) 37 = v 37 from (hf9743 37 (by decide)).trans ((hf9729 37 (by decide)).trans (hf9408 37 (by decide)))] at h9; exact h9
                    have t9761 : 0 ≤ (v9741 38).toInt ∧ (v9741 38).toInt ≤ 120 := hI.1 38 _ _ rfl
                    have t9762 : 0 ≤ z9756.toInt ∧ z9756.toInt ≤ 120 := hI.1 39 _ _ rfl
                    have t9763 : 0 ≤ (v9741 41).toInt ∧ (v9741 41).toInt ≤ 8 := hI.1 41 _ _ rfl
                    refine va_callv (va_runV (As := []) (rest := []) ⟨hx, hb, hml, hown, hwd⟩ (rE l dC dI g c adK adV (va_up v9741 39 z9756) F9742 rc H.size  ((d + 1) + 1) hg hI (by have h9 : (va_up v9741 39 z9756) 38 = v9741 38 := rfl; (try rw [h9]); clear h9; have h9 : (va_up v9741 39 z9756) 39 = z9756 := rfl; (try rw [h9]); clear h9; have h9 : (va_up v9741 39 z9756) 30 = v 30 := (hf9743 30 (by decide)).trans ((hf9729 30 (by decide)).trans (hf9408 30 (by decide))); (try rw [h9]); clear h9; have h9 : (va_up v9741 39 z9756) 40 = v9741 40 := rfl; (try rw [h9]); clear h9; have h9 : (va_up v9741 39 z9756) 41 = v9741 41 := rfl; (try rw [h9]); clear h9; omega) (by have h9 : (va_up v9741 39 z9756) 37 = (v 37) := (hf9743 37 (by decide)).trans ((hf9729 37 (by decide)).trans (hf9408 37 (by decide))); have h8 : (va_up v9741 39 z9756) 38 = (v9741 38) := rfl; (try rw [h9]); (try rw [h8]); exact hd (by omega))) (cwV 0 hwd (gV wk_1010 wk_1007 wk_1008 wk_1009 wk_5) rfl rfl rfl (by decide +kernel) ⟨(by show fr + 3 + 1 ≤ fr + 7; omega), (by show 8 + (2 + 11) + (lc + 120) ≤ lc + 280; omega)⟩) ⟨PM.blind, va_recv hK hP (ci := 12) (q0 := 0) rfl rfl, fun U hU hW => ⟨rfl, PM.at hK hE hP hS hU hW⟩⟩ rfl rfl hl.1 rfl (lv_room (Nat.le_of_ble_eq_true rfl)) dX12_either_116 ⟨Nat.le_of_ble_eq_true rfl, Nat.le_of_ble_eq_true rfl⟩) hS (fun q _ h => (freeM hS) q h) (freeM hS) (fun u t H1 locs ht hvm hw hB hz1 hk1 hS => ?_)
                    unfold BM at hB
                    rw [ht] at hB
                    obtain ⟨v9765, F9766, rc9⟩ := u
                    obtain ⟨hI, hrc, hf9767, hG9768, hw⟩ := hw
                    dsimp only at hI hrc hB hf9767 hG9768 hw
                    have hF := frCF (by decide) hG9768 hF
                    rw [hrc] at hB
                    have hP : va_P (dC, dI) classes (wM g c v9765 F9766 rc) H1 := hB
                    replace hw : (z9756.toInt ≤ (v9765 39).toInt ∧ (v9765 39).toInt ≤ ((va_up v9741 39 z9756) 30).toInt ∧ (v9741 38).toInt ≤ (v9765 38).toInt ∧ (v9765 38).toInt - (v9741 38).toInt ≤ (v9765 39).toInt - z9756.toInt ∧ (v9741 41).toInt ≤ (v9765 41).toInt ∧ ((v9765 40).toInt < 0 → (v9765 41).toInt = (v9741 41).toInt)) ∧ keepL ((va_up v9741 39 z9756) 37) (F9742 28) (F9742 29) (F9766 28) (F9766 29) ∧ ((v9765 40).toInt < 0 → dp (F9766 28) (F9766 29) (bI ((va_up v9741 39 z9756) 37)) (v9765 38).toInt.toNat = some (((d + 1) + 1) + 1)) := hw
                    rw [show (va_up v9741 39 z9756) 30 = v 30 from (hf9743 30 (by decide)).trans ((hf9729 30 (by decide)).trans (hf9408 30 (by decide)))] at hw
                    rw [show (va_up v9741 39 z9756) 37 = v 37 from (hf9743 37 (by decide)).trans ((hf9729 37 (by decide)).trans (hf9408 37 (by decide)))] at hw
                    have hw_r9764 := hw
                    clear hw
                    have t9769 : 0 ≤ (v9765 38).toInt ∧ (v9765 38).toInt ≤ 120 := hI.1 38 _ _ rfl
                    have t9770 : 0 ≤ (v9765 39).toInt ∧ (v9765 39).toInt ≤ 120 := hI.1 39 _ _ rfl
                    have t9771 : 0 ≤ (v9765 41).toInt ∧ (v9765 41).toInt ≤ 8 := hI.1 41 _ _ rfl
                    clear hz1
                    generalize H1 = H at hP hS ⊢
                    replace hk := hk.tr hw_r9764.2.1
                    replace hd := hw_r9764.2.2
                    replace hw_r9764 := hw_r9764.1
                    refine lv_aload_n hx hb dX12_either_119 rfl (lv_at hl 1 rfl) ?_
                    refine lv_iconst (v := 4) hx hb dX12_either_120 (by decide) ?_
                    refine lv_iconst (v := 0) hx hb dX12_either_121 (by decide) ?_
                    have t9772 : 0 ≤ (v 37).toInt ∧ (v 37).toInt ≤ 9 := by have h9 := hI.1 37 _ _ rfl; rw [show v9765 37 = v 37 from (hf9767 37 (by decide)).trans ((hf9743 37 (by decide)).trans ((hf9729 37 (by decide)).trans (hf9408 37 (by decide))))] at h9; exact h9
                    have t9773 : 0 ≤ (v9765 38).toInt ∧ (v9765 38).toInt ≤ 120 := hI.1 38 _ _ rfl
                    refine va_callv (va_runV (As := [.int 4, .int 0]) (rest := []) ⟨hx, hb, hml, hown, hwd⟩ (c_X12_lay l dC dI g c adK adV v9765 F9766 rc H.size 4 0 hg hI (by have h9 : v9765 38 = v9765 38 := rfl; rw [h9]; omega)) (cwV 2 hwd (gV wk_1021 wk_1018 wk_1019 wk_1020 wk_5) rfl rfl rfl (by decide +kernel) ⟨(by show 1 + 1 ≤ fr + 7; omega), (by show 8 + (3 + 11) + (40) ≤ lc + 280; omega)⟩) ⟨PM.blind, va_recv hK hP (ci := 12) (q0 := 0) rfl rfl, fun U hU hW => ⟨rfl, PM.at hK hE hP hS hU hW⟩⟩ rfl rfl hl.1 rfl (lv_room (Nat.le_of_ble_eq_true rfl)) dX12_either_122 ⟨Nat.le_of_ble_eq_true rfl, Nat.le_of_ble_eq_true rfl⟩) hS (fun q _ h => (freeM hS) q h) (freeM hS) (fun u t H1 locs ht hvm hw hB hz1 hk1 hS => ?_)
                    unfold BM at hB
                    rw [ht] at hB
                    obtain ⟨v9775, F9776, rc9⟩ := u
                    obtain ⟨hI, hrc, hf9777, hG9778, hw⟩ := hw
                    dsimp only at hI hrc hB hf9777 hG9778 hw
                    have hF := frCF (by decide) hG9778 hF
                    rw [hrc] at hB
                    have hP : va_P (dC, dI) classes (wM g c v9775 F9776 rc) H1 := hB
                    replace hw : (v9775 38).toInt = (v9765 38).toInt + 1 ∧ keepL (v9765 37) (F9766 28) (F9766 29) (F9776 28) (F9776 29) ∧ dp (F9776 28) (F9776 29) (bI (v9765 37)) ((v9765 38).toInt.toNat + 1) = dpS (dp (F9766 28) (F9766 29) (bI (v9765 37)) (v9765 38).toInt.toNat) (4 : Int32) (0 : Int32) := hw
                    rw [show v9765 37 = v 37 from (hf9767 37 (by decide)).trans ((hf9743 37 (by decide)).trans ((hf9729 37 (by decide)).trans (hf9408 37 (by decide))))] at hw
                    have hw_r9774 := hw
                    clear hw
                    have t9779 : 0 ≤ (v9775 38).toInt ∧ (v9775 38).toInt ≤ 120 := hI.1 38 _ _ rfl
                    have k9780 : (4 : Int32).toInt = 4 := by decide
                    have k9781 : (0 : Int32).toInt = 0 := by decide
                    clear hz1
                    generalize H1 = H at hP hS ⊢
                    replace hk := hk.tr hw_r9774.2.1
                    replace hd : (v9765 40).toInt < 0 → dp (F9776 28) (F9776 29) (bI (v 37)) (v9775 38).toInt.toNat = some ((((d + 1) + 1) + 1) - 2) := fun hf => (by have e9 : (v9775 38).toInt.toNat = (v9765 38).toInt.toNat + 1 := (by omega); rw [e9, hw_r9774.2.2, hd hf]; exact dpS_4 (by decide) (by omega))
                    replace hw_r9774 := hw_r9774.1
                    refine lv_aload_n hx hb dX12_either_125 rfl (lv_at hl 1 rfl) ?_
                    refine lv_dup hx hb dX12_either_126 rfl ?_
                    refine va_get (D := (dC, dI)) (ci := 12) (v := .int (v9775 41)) (C := RX12) (T := TX12) (N := 63) hx hb hwd inA_X12 hown hK hP 0 rfl rfl 41 (by decide) (hwd _ wk_1006) (fun _ h9 => h9) rfl dX12_either_127 ?_
                    refine my_top (v := v9765 41) (hf9777 41 (by decide)) ?_
                    have t9782 : 0 ≤ (v9765 41).toInt ∧ (v9765 41).toInt ≤ 8 := by have h9 := hI.1 41 _ _ rfl; rw [show v9775 41 = v9765 41 from hf9777 41 (by decide)] at h9; exact h9
                    refine lv_iconst (v := 1) hx hb dX12_either_130 (by decide) ?_
                    refine lv_isub hx hb dX12_either_131 ?_
                    refine lv_topi (fun z9783 e9784 => ?_)
                    try (have t9785 := tsub e9784 (a := (v9765 41).toInt) rfl (b := 1) (by decide) (by omega))
                    refine va_put (D := (dC, dI)) (ci := 12) (v := .int z9783) (ty := .int) (C := RX12) (T := TX12) (N := 63) (fs := fsM_0 g v9775 rc) hx hb hwd inA_X12 tyX12 tyX12_ok nmX12 hown hK hP (DM hg) hS 0 rfl rfl 41 (by decide) (hwd _ wk_1006) (fun _ h9 => h9) rfl (by decide +kernel) rfl rfl (Nat.le_of_ble_eq_true rfl) dX12_either_132 (fun H locs hP _ hS => ?_)
                    have hP := va_P_eq (pM_41 g c _ _ _ _) hP
                    have hI := IM.put hI 41 z9783 rfl (by omega)
                    have hP9 : va_P (dC, dI) classes (wM g c (va_up v9775 41 z9783) F9776 rc) H := hP
                    exact W.vret hx hb hr (fun t ht hW => ⟨⟨((va_up v9775 41 z9783), F9776, rc), rfl, ⟨hI, rfl, (frU (by decide) (frC (by decide) hf9777 (frC (by decide) hf9767 (frU (by decide) (frC (by decide) hf9743 (frC (by decide) hf9729 (frC (by decide) hf9408 (fun _ _ => rfl)))))))), hF, (by show ((v 39).toInt ≤ ((va_up v9775 41 z9783) 39).toInt ∧ ((va_up v9775 41 z9783) 39).toInt ≤ (v 30).toInt ∧ (v 38).toInt ≤ (v9775 38).toInt ∧ (v9775 38).toInt - (v 38).toInt ≤ ((va_up v9775 41 z9783) 39).toInt - (v 39).toInt ∧ (v 41).toInt ≤ z9783.toInt ∧ (((va_up v9775 41 z9783) 40).toInt < 0 → z9783.toInt = (v 41).toInt)) ∧ keepL (v 37) (F 28) (F 29) (F9776 28) (F9776 29) ∧ (((va_up v9775 41 z9783) 40).toInt < 0 → dp (F9776 28) (F9776 29) (bI (v 37)) (v9775 38).toInt.toNat = some (d + 1)); rw [show (va_up v9775 41 z9783) 39 = v9765 39 from hf9777 39 (by decide)]; rw [show (va_up v9775 41 z9783) 40 = v9765 40 from hf9777 40 (by decide)]; exact ⟨by omega, hk, fun hf => (hd (by omega)).trans (congrArg some (by omega))⟩)⟩, (by show va_P _ _ _ t.heap; rw [ht]; exact hP9)⟩, hS.F ht⟩) hS.2.2 dX12_either_135
                  · skip
                    have t9786 := cv_ne (a := r9752.toInt) rfl (b := 58) (by decide) c9753
                    refine lv_aload_n hx hb dX12_either_100 rfl (lv_at hl 1 rfl) ?_
                    refine va_callv (va_runV (As := []) (rest := []) ⟨hx, hb, hml, hown, hwd⟩ (c_X12_wrong l dC dI g c adK adV v9741 F9742 rc H.size  hg hI ) (cwV 0 hwd (gV wk_1029 wk_1026 wk_1027 wk_1028 wk_5) rfl rfl rfl (by decide +kernel) ⟨(by show 1 + 1 ≤ fr + 7; omega), (by show 8 + (1 + 11) + (40) ≤ lc + 280; omega)⟩) ⟨PM.blind, va_recv hK hP (ci := 12) (q0 := 0) rfl rfl, fun U hU hW => ⟨rfl, PM.at hK hE hP hS hU hW⟩⟩ rfl rfl hl.1 rfl (lv_room (Nat.le_of_ble_eq_true rfl)) dX12_either_101 ⟨Nat.le_of_ble_eq_true rfl, Nat.le_of_ble_eq_true rfl⟩) hS (fun q _ h => (freeM hS) q h) (freeM hS) (fun u t H1 locs ht hvm hw hB hz1 hk1 hS => ?_)
                    unfold BM at hB
                    rw [ht] at hB
                    obtain ⟨v9788, F9789, rc9⟩ := u
                    obtain ⟨hI, hrc, hf9790, hG9791, hw⟩ := hw
                    dsimp only at hI hrc hB hf9790 hG9791 hw
                    have hF := frCF (by decide) hG9791 hF
                    rw [hrc] at hB
                    have hP : va_P (dC, dI) classes (wM g c v9788 F9789 rc) H1 := hB
                    replace hw : 0 ≤ (v9788 40).toInt := hw
                    have hw_r9787 := hw
                    clear hw
                    clear hz1
                    generalize H1 = H at hP hS ⊢
                    replace hk : keepL (v 37) (F 28) (F 29) (F9789 28) (F9789 29) := by rw [hG9791 28 (by decide), hG9791 29 (by decide)]; exact hk
                    replace hd : (v9788 40).toInt < 0 → dp (F9789 28) (F9789 29) (bI (v 37)) (v9741 38).toInt.toNat = some ((d + 1) + 1) := fun hf => (by rw [hG9791 28 (by decide), hG9791 29 (by decide)]; exact hd (by omega))
                    have hP9 : va_P (dC, dI) classes (wM g c v9788 F9789 rc) H := hP
                    exact W.vret hx hb hr (fun t ht hW => ⟨⟨(v9788, F9789, rc), rfl, ⟨hI, rfl, (frC (by decide) hf9790 (frC (by decide) hf9743 (frC (by decide) hf9729 (frC (by decide) hf9408 (fun _ _ => rfl))))), hF, (by show ((v 39).toInt ≤ (v9788 39).toInt ∧ (v9788 39).toInt ≤ (v 30).toInt ∧ (v 38).toInt ≤ (v9788 38).toInt ∧ (v9788 38).toInt - (v 38).toInt ≤ (v9788 39).toInt - (v 39).toInt ∧ (v 41).toInt ≤ (v9788 41).toInt ∧ ((v9788 40).toInt < 0 → (v9788 41).toInt = (v 41).toInt)) ∧ keepL (v 37) (F 28) (F 29) (F9789 28) (F9789 29) ∧ ((v9788 40).toInt < 0 → dp (F9789 28) (F9789 29) (bI (v 37)) (v9788 38).toInt.toNat = some (d + 1)); rw [show v9788 39 = v9741 39 from hf9790 39 (by decide)]; rw [show v9788 38 = v9741 38 from hf9790 38 (by decide)]; rw [show v9788 41 = v9741 41 from hf9790 41 (by decide)]; exact ⟨by omega, hk, fun hf => (hd (by omega)).trans (congrArg some (by omega))⟩)⟩, (by show va_P _ _ _ t.heap; rw [ht]; exact hP9)⟩, hS.F ht⟩) hS.2.2 dX12_either_104
                · skip
                  have t9792 := cv_nlt (a := (v9741 40).toInt) rfl (b := 0) (by decide) c9748
                  have hP9 : va_P (dC, dI) classes (wM g c v9741 F9742 rc) H := hP
                  exact W.vret hx hb hr (fun t ht hW => ⟨⟨(v9741, F9742, rc), rfl, ⟨hI, rfl, (frC (by decide) hf9743 (frC (by decide) hf9729 (frC (by decide) hf9408 (fun _ _ => rfl)))), hF, (by show ((v 39).toInt ≤ (v9741 39).toInt ∧ (v9741 39).toInt ≤ (v 30).toInt ∧ (v 38).toInt ≤ (v9741 38).toInt ∧ (v9741 38).toInt - (v 38).toInt ≤ (v9741 39).toInt - (v 39).toInt ∧ (v 41).toInt ≤ (v9741 41).toInt ∧ ((v9741 40).toInt < 0 → (v9741 41).toInt = (v 41).toInt)) ∧ keepL (v 37) (F 28) (F 29) (F9742 28) (F9742 29) ∧ ((v9741 40).toInt < 0 → dp (F9742 28) (F9742 29) (bI (v 37)) (v9741 38).toInt.toNat = some (d + 1)); exact ⟨by omega, hk, fun hf => (hd (by omega)).trans (congrArg some (by omega))⟩)⟩, (by show va_P _ _ _ t.heap; rw [ht]; exact hP9)⟩, hS.F ht⟩) hS.2.2 dX12_either_90
              · skip
                have t9793 := cv_eq (a := r9726.toInt) rfl (b := 0) (by decide) c9733
                have hP9 : va_P (dC, dI) classes (wM g c v9727 F9728 rc) H := hP
                exact W.vret hx hb hr (fun t ht hW => ⟨⟨(v9727, F9728, rc), rfl, ⟨hI, rfl, (frC (by decide) hf9729 (frC (by decide) hf9408 (fun _ _ => rfl))), hF, (by show ((v 39).toInt ≤ (v9727 39).toInt ∧ (v9727 39).toInt ≤ (v 30).toInt ∧ (v 38).toInt ≤ (v9727 38).toInt ∧ (v9727 38).toInt - (v 38).toInt ≤ (v9727 39).toInt - (v 39).toInt ∧ (v 41).toInt ≤ (v9727 41).toInt ∧ ((v9727 40).toInt < 0 → (v9727 41).toInt = (v 41).toInt)) ∧ keepL (v 37) (F 28) (F 29) (F9728 28) (F9728 29) ∧ ((v9727 40).toInt < 0 → dp (F9728 28) (F9728 29) (bI (v 37)) (v9727 38).toInt.toNat = some (d + 1)); rw [show v9727 38 = v9406 38 from hf9729 38 (by decide)]; exact ⟨by omega, hk, fun hf => (hd (by omega)).trans (congrArg some (by omega))⟩)⟩, (by show va_P _ _ _ t.heap; rw [ht]; exact hP9)⟩, hS.F ht⟩) hS.2.2 dX12_either_78
            · skip
              have t9794 := cv_ne (a := r9721.toInt) rfl (b := 63) (by decide) c9722
              have hP9 : va_P (dC, dI) classes (wM g c v9406 F9407 rc) H := hP
              exact W.vret hx hb hr (fun t ht hW => ⟨⟨(v9406, F9407, rc), rfl, ⟨hI, rfl, (frC (by decide) hf9408 (fun _ _ => rfl)), hF, (by show ((v 39).toInt ≤ (v9406 39).toInt ∧ (v9406 39).toInt ≤ (v 30).toInt ∧ (v 38).toInt ≤ (v9406 38).toInt ∧ (v9406 38).toInt - (v 38).toInt ≤ (v9406 39).toInt - (v 39).toInt ∧ (v 41).toInt ≤ (v9406 41).toInt ∧ ((v9406 40).toInt < 0 → (v9406 41).toInt = (v 41).toInt)) ∧ keepL (v 37) (F 28) (F 29) (F9407 28) (F9407 29) ∧ ((v9406 40).toInt < 0 → dp (F9407 28) (F9407 29) (bI (v 37)) (v9406 38).toInt.toNat = some (d + 1)); exact ⟨by omega, hk, fun hf => (hd (by omega)).trans (congrArg some (by omega))⟩)⟩, (by show va_P _ _ _ t.heap; rw [ht]; exact hP9)⟩, hS.F ht⟩) hS.2.2 dX12_either_70
        · skip
          have t9795 := cv_eq (a := r9415.toInt) rfl (b := 62) (by decide) c9714
          refine lv_aload_n hx hb dX12_either_34 rfl (lv_at hl 1 rfl) ?_
          refine lv_dup hx hb dX12_either_35 rfl ?_
          refine va_get (D := (dC, dI)) (ci := 12) (v := .int (v9406 39)) (C := RX12) (T := TX12) (N := 63) hx hb hwd inA_X12 hown hK hP 0 rfl rfl 39 (by decide) (hwd _ wk_1004) (fun _ h9 => h9) rfl dX12_either_36 ?_
          have t9796 : 0 ≤ (v9406 39).toInt ∧ (v9406 39).toInt ≤ 120 := hI.1 39 _ _ rfl
          refine lv_iconst (v := 1) hx hb dX12_either_39 (by decide) ?_
          refine lv_iadd hx hb dX12_either_40 ?_
          refine lv_topi (fun z9797 e9798 => ?_)
          try (have t9799 := tadd e9798 (a := (v9406 39).toInt) rfl (b := 1) (by decide) (by omega))
          refine va_put (D := (dC, dI)) (ci := 12) (v := .int z9797) (ty := .int) (C := RX12) (T := TX12) (N := 63) (fs := fsM_0 g v9406 rc) hx hb hwd inA_X12 tyX12 tyX12_ok nmX12 hown hK hP (DM hg) hS 0 rfl rfl 39 (by decide) (hwd _ wk_1004) (fun _ h9 => h9) rfl (by decide +kernel) rfl rfl (Nat.le_of_ble_eq_true rfl) dX12_either_41 (fun H locs hP _ hS => ?_)
          have hP := va_P_eq (pM_39 g c _ _ _ _) hP
          have hI := IM.put hI 39 z9797 rfl (by omega)
          refine lv_aload_n hx hb dX12_either_44 rfl (lv_at hl 1 rfl) ?_
          have t9800 : 0 ≤ (v 30).toInt ∧ (v 30).toInt ≤ 120 := by have h9 := hI.1 30 _ _ rfl; rw [show (va_up v9406 39 z9797) 30 = v 30 from hf9408 30 (by decide)] at h9; exact h9
          have t9801 : 0 ≤ (v 37).toInt ∧ (v 37).toInt ≤ 9 := by have h9 := hI.1 37 _ _ rfl; rw [show (va_up v9406 39 z9797) 37 = v 37 from hf9408 37 (by decide)] at h9; exact h9
          have t9802 : 0 ≤ (v9406 38).toInt ∧ (v9406 38).toInt ≤ 120 := hI.1 38 _ _ rfl
          have t9803 : 0 ≤ z9797.toInt ∧ z9797.toInt ≤ 120 := hI.1 39 _ _ rfl
          have t9804 : 0 ≤ (v9406 41).toInt ∧ (v9406 41).toInt ≤ 8 := hI.1 41 _ _ rfl
          refine va_callv (va_runV (As := []) (rest := []) ⟨hx, hb, hml, hown, hwd⟩ (c_X12_sum D fr lc rO rE l dC dI g c adK adV (va_up v9406 39 z9797) F9407 rc H.size  (d + 1) hg hI (by have h9 : (va_up v9406 39 z9797) 38 = v9406 38 := rfl; (try rw [h9]); clear h9; have h9 : (va_up v9406 39 z9797) 39 = z9797 := rfl; (try rw [h9]); clear h9; have h9 : (va_up v9406 39 z9797) 30 = v 30 := hf9408 30 (by decide); (try rw [h9]); clear h9; have h9 : (va_up v9406 39 z9797) 40 = v9406 40 := rfl; (try rw [h9]); clear h9; have h9 : (va_up v9406 39 z9797) 41 = v9406 41 := rfl; (try rw [h9]); clear h9; omega) (by have h9 : (va_up v9406 39 z9797) 37 = (v 37) := hf9408 37 (by decide); have h8 : (va_up v9406 39 z9797) 38 = (v9406 38) := rfl; (try rw [h9]); (try rw [h8]); exact hd (by omega))) (cwV 0 hwd (gV wk_1043 wk_1011 wk_1012 wk_1013 wk_5) rfl rfl rfl (by decide +kernel) ⟨(by show fr + 6 + 1 ≤ fr + 7; omega), (by show 8 + (2 + 11) + (lc + 240) ≤ lc + 280; omega)⟩) ⟨PM.blind, va_recv hK hP (ci := 12) (q0 := 0) rfl rfl, fun U hU hW => ⟨rfl, PM.at hK hE hP hS hU hW⟩⟩ rfl rfl hl.1 rfl (lv_room (Nat.le_of_ble_eq_true rfl)) dX12_either_45 ⟨Nat.le_of_ble_eq_true rfl, Nat.le_of_ble_eq_true rfl⟩) hS (fun q _ h => (freeM hS) q h) (freeM hS) (fun u t H1 locs ht hvm hw hB hz1 hk1 hS => ?_)
          unfold BM at hB
          rw [ht] at hB
          obtain ⟨v9806, F9807, rc9⟩ := u
          obtain ⟨hI, hrc, hf9808, hG9809, hw⟩ := hw
          dsimp only at hI hrc hB hf9808 hG9809 hw
          have hF := frCF (by decide) hG9809 hF
          rw [hrc] at hB
          have hP : va_P (dC, dI) classes (wM g c v9806 F9807 rc) H1 := hB
          replace hw : (z9797.toInt ≤ (v9806 39).toInt ∧ (v9806 39).toInt ≤ ((va_up v9406 39 z9797) 30).toInt ∧ (v9406 38).toInt ≤ (v9806 38).toInt ∧ (v9806 38).toInt - (v9406 38).toInt ≤ (v9806 39).toInt - z9797.toInt ∧ (v9406 41).toInt ≤ (v9806 41).toInt ∧ ((v9806 40).toInt < 0 → (v9806 41).toInt = (v9406 41).toInt)) ∧ keepL ((va_up v9406 39 z9797) 37) (F9407 28) (F9407 29) (F9807 28) (F9807 29) ∧ ((v9806 40).toInt < 0 → dp (F9807 28) (F9807 29) (bI ((va_up v9406 39 z9797) 37)) (v9806 38).toInt.toNat = some ((d + 1) + 1)) := hw
          rw [show (va_up v9406 39 z9797) 30 = v 30 from hf9408 30 (by decide)] at hw
          rw [show (va_up v9406 39 z9797) 37 = v 37 from hf9408 37 (by decide)] at hw
          have hw_r9805 := hw
          clear hw
          have t9810 : 0 ≤ (v9806 38).toInt ∧ (v9806 38).toInt ≤ 120 := hI.1 38 _ _ rfl
          have t9811 : 0 ≤ (v9806 39).toInt ∧ (v9806 39).toInt ≤ 120 := hI.1 39 _ _ rfl
          have t9812 : 0 ≤ (v9806 41).toInt ∧ (v9806 41).toInt ≤ 8 := hI.1 41 _ _ rfl
          clear hz1
          generalize H1 = H at hP hS ⊢
          replace hk := hk.tr hw_r9805.2.1
          replace hd := hw_r9805.2.2
          replace hw_r9805 := hw_r9805.1
          refine lv_aload_n hx hb dX12_either_48 rfl (lv_at hl 1 rfl) ?_
          refine lv_iload_n hx hb dX12_either_49 rfl (lv_at hl 0 rfl) ?_
          refine lv_iconst (v := 0) hx hb dX12_either_50 (by decide) ?_
          have t9813 : 0 ≤ (v 37).toInt ∧ (v 37).toInt ≤ 9 := by have h9 := hI.1 37 _ _ rfl; rw [show v9806 37 = v 37 from (hf9808 37 (by decide)).trans (hf9408 37 (by decide))] at h9; exact h9
          have t9814 : 0 ≤ (v9806 38).toInt ∧ (v9806 38).toInt ≤ 120 := hI.1 38 _ _ rfl
          refine va_callv (va_runV (As := [.int r9415, .int 0]) (rest := []) ⟨hx, hb, hml, hown, hwd⟩ (c_X12_lay l dC dI g c adK adV v9806 F9807 rc H.size r9415 0 hg hI (by have h9 : v9806 38 = v9806 38 := rfl; rw [h9]; omega)) (cwV 2 hwd (gV wk_1021 wk_1018 wk_1019 wk_1020 wk_5) rfl rfl rfl (by decide +kernel) ⟨(by show 1 + 1 ≤ fr + 7; omega), (by show 8 + (3 + 11) + (40) ≤ lc + 280; omega)⟩) ⟨PM.blind, va_recv hK hP (ci := 12) (q0 := 0) rfl rfl, fun U hU hW => ⟨rfl, PM.at hK hE hP hS hU hW⟩⟩ rfl rfl hl.1 rfl (lv_room (Nat.le_of_ble_eq_true rfl)) dX12_either_51 ⟨Nat.le_of_ble_eq_true rfl, Nat.le_of_ble_eq_true rfl⟩) hS (fun q _ h => (freeM hS) q h) (freeM hS) (fun u t H1 locs ht hvm hw hB hz1 hk1 hS => ?_)
          unfold BM at hB
          rw [ht] at hB
          obtain ⟨v9816, F9817, rc9⟩ := u
          obtain ⟨hI, hrc, hf9818, hG9819, hw⟩ := hw
          dsimp only at hI hrc hB hf9818 hG9819 hw
          have hF := frCF (by decide) hG9819 hF
          rw [hrc] at hB
          have hP : va_P (dC, dI) classes (wM g c v9816 F9817 rc) H1 := hB
          replace hw : (v9816 38).toInt = (v9806 38).toInt + 1 ∧ keepL (v9806 37) (F9807 28) (F9807 29) (F9817 28) (F9817 29) ∧ dp (F9817 28) (F9817 29) (bI (v9806 37)) ((v9806 38).toInt.toNat + 1) = dpS (dp (F9807 28) (F9807 29) (bI (v9806 37)) (v9806 38).toInt.toNat) r9415 (0 : Int32) := hw
          rw [show v9806 37 = v 37 from (hf9808 37 (by decide)).trans (hf9408 37 (by decide))] at hw
          have hw_r9815 := hw
          clear hw
          have t9820 : 0 ≤ (v9816 38).toInt ∧ (v9816 38).toInt ≤ 120 := hI.1 38 _ _ rfl
          have k9821 : (0 : Int32).toInt = 0 := by decide
          clear hz1
          generalize H1 = H at hP hS ⊢
          replace hk := hk.tr hw_r9815.2.1
          replace hd : (v9806 40).toInt < 0 → dp (F9817 28) (F9817 29) (bI (v 37)) (v9816 38).toInt.toNat = some (((d + 1) + 1) - 1) := fun hf => (by have e9 : (v9816 38).toInt.toNat = (v9806 38).toInt.toNat + 1 := (by omega); rw [e9, hw_r9815.2.2, hd hf]; exact dpS_5 (by omega) (by omega) (by omega) (by omega) (by omega))
          replace hw_r9815 := hw_r9815.1
          refine lv_aload_n hx hb dX12_either_54 rfl (lv_at hl 1 rfl) ?_
          refine va_get (D := (dC, dI)) (ci := 12) (v := .int (v9816 40)) (C := RX12) (T := TX12) (N := 63) hx hb hwd inA_X12 hown hK hP 0 rfl rfl 40 (by decide) (hwd _ wk_1005) (fun _ h9 => h9) rfl dX12_either_55 ?_
          refine my_top (v := v9806 40) (hf9818 40 (by decide)) ?_
          refine lv_if_ge (tgt := 70) hx hb dX12_either_58 (by decide) (fun c9822 => ?_) (fun c9822 => ?_)
          · skip
            have t9823 := cv_le (a := 0) (by decide) (b := (v9806 40).toInt) rfl c9822
            have hP9 : va_P (dC, dI) classes (wM g c v9816 F9817 rc) H := hP
            exact W.vret hx hb hr (fun t ht hW => ⟨⟨(v9816, F9817, rc), rfl, ⟨hI, rfl, (frC (by decide) hf9818 (frC (by decide) hf9808 (frU (by decide) (frC (by decide) hf9408 (fun _ _ => rfl))))), hF, (by show ((v 39).toInt ≤ (v9816 39).toInt ∧ (v9816 39).toInt ≤ (v 30).toInt ∧ (v 38).toInt ≤ (v9816 38).toInt ∧ (v9816 38).toInt - (v 38).toInt ≤ (v9816 39).toInt - (v 39).toInt ∧ (v 41).toInt ≤ (v9816 41).toInt ∧ ((v9816 40).toInt < 0 → (v9816 41).toInt = (v 41).toInt)) ∧ keepL (v 37) (F 28) (F 29) (F9817 28) (F9817 29) ∧ ((v9816 40).toInt < 0 → dp (F9817 28) (F9817 29) (bI (v 37)) (v9816 38).toInt.toNat = some (d + 1)); rw [show v9816 39 = v9806 39 from hf9818 39 (by decide)]; rw [show v9816 41 = v9806 41 from hf9818 41 (by decide)]; rw [show v9816 40 = v9806 40 from hf9818 40 (by decide)]; exact ⟨by omega, hk, fun hf => (hd (by omega)).trans (congrArg some (by omega))⟩)⟩, (by show va_P _ _ _ t.heap; rw [ht]; exact hP9)⟩, hS.F ht⟩) hS.2.2 dX12_either_70
          · skip
            have t9824 := cv_nle (a := 0) (by decide) (b := (v9806 40).toInt) rfl c9822
            refine lv_aload_n hx hb dX12_either_61 rfl (lv_at hl 1 rfl) ?_
            have t9825 : 0 ≤ (v 30).toInt ∧ (v 30).toInt ≤ 120 := by have h9 := hI.1 30 _ _ rfl; rw [show v9816 30 = v 30 from (hf9818 30 (by decide)).trans ((hf9808 30 (by decide)).trans (hf9408 30 (by decide)))] at h9; exact h9
            have t9826 : 0 ≤ (v9806 39).toInt ∧ (v9806 39).toInt ≤ 120 := by have h9 := hI.1 39 _ _ rfl; rw [show v9816 39 = v9806 39 from hf9818 39 (by decide)] at h9; exact h9
            refine va_calli (va_runV (As := []) (rest := []) ⟨hx, hb, hml, hown, hwd⟩ (c_X12_look l dC dI g c adK adV v9816 F9817 rc H.size  hg hI ) (cwV 0 hwd (gV wk_1017 wk_1014 wk_1015 wk_1016 wk_5) rfl rfl rfl (by decide +kernel) ⟨(by show 1 + 1 ≤ fr + 7; omega), (by show 8 + (1 + 11) + (40) ≤ lc + 280; omega)⟩) ⟨PM.blind, va_recv hK hP (ci := 12) (q0 := 0) rfl rfl, fun U hU hW => ⟨rfl, PM.at hK hE hP hS hU hW⟩⟩ rfl rfl hl.1 rfl (lv_room (Nat.le_of_ble_eq_true rfl)) dX12_either_62 ⟨Nat.le_of_ble_eq_true rfl, Nat.le_of_ble_eq_true rfl⟩) hS (fun q _ h => (freeM hS) q h) (freeM hS) (fun r9827 u t H1 locs ht hvm hw hB hz1 hk1 hS => ?_)
            unfold BM at hB
            rw [ht] at hB
            have hP : va_P (dC, dI) classes (wM g c v9816 F9817 rc) H1 := hB
            replace hw : r9827.toInt = lkM (v9816 39) (v9816 30) (F9817 24) ∧ ((v9816 39).toInt < (v9816 30).toInt ∨ r9827.toInt = -1) := hw
            rw [show v9816 39 = v9806 39 from hf9818 39 (by decide)] at hw
            rw [show v9816 30 = v 30 from (hf9818 30 (by decide)).trans ((hf9808 30 (by decide)).trans (hf9408 30 (by decide)))] at hw
            rw [hF 24 (by decide)] at hw
            have hw_r9827 := hw
            clear hw
            clear hz1
            generalize H1 = H at hP hS ⊢
            refine lv_bipush (v := 63) hx hb dX12_either_65 (by decide) ?_
            refine lv_icmp_eq (tgt := 71) hx hb dX12_either_67 (by decide) (fun c9828 => ?_) (fun c9828 => ?_)
            · skip
              have t9829 := cv_eq (a := r9827.toInt) rfl (b := 63) (by decide) c9828
              refine lv_aload_n hx hb dX12_either_71 rfl (lv_at hl 1 rfl) ?_
              have t9830 : 0 ≤ (v9806 39).toInt ∧ (v9806 39).toInt ≤ 120 := by have h9 := hI.1 39 _ _ rfl; rw [show v9816 39 = v9806 39 from hf9818 39 (by decide)] at h9; exact h9
              have t9831 : 0 ≤ (v9806 41).toInt ∧ (v9806 41).toInt ≤ 8 := by have h9 := hI.1 41 _ _ rfl; rw [show v9816 41 = v9806 41 from hf9818 41 (by decide)] at h9; exact h9
              refine va_calli (va_runV (As := []) (rest := []) ⟨hx, hb, hml, hown, hwd⟩ (c_X12_opens l dC dI g c adK adV v9816 F9817 rc H.size  hg hI (by have h9 : v9816 39 = v9806 39 := hf9818 39 (by decide); (try rw [h9]); clear h9; have h9 : v9816 30 = v 30 := (hf9818 30 (by decide)).trans ((hf9808 30 (by decide)).trans (hf9408 30 (by decide))); (try rw [h9]); clear h9; omega)) (cwV 0 hwd (gV wk_1025 wk_1022 wk_1023 wk_1024 wk_5) rfl rfl rfl (by decide +kernel) ⟨(by show 2 + 1 ≤ fr + 7; omega), (by show 8 + (1 + 11) + (80) ≤ lc + 280; omega)⟩) ⟨PM.blind, va_recv hK hP (ci := 12) (q0 := 0) rfl rfl, fun U hU hW => ⟨rfl, PM.at hK hE hP hS hU hW⟩⟩ rfl rfl hl.1 rfl (lv_room (Nat.le_of_ble_eq_true rfl)) dX12_either_72 ⟨Nat.le_of_ble_eq_true rfl, Nat.le_of_ble_eq_true rfl⟩) hS (fun q _ h => (freeM hS) q h) (freeM hS) (fun r9832 u t H1 locs ht hvm hw hB hz1 hk1 hS => ?_)
              unfold BM at hB
              rw [ht] at hB
              obtain ⟨v9833, F9834, rc9⟩ := u
              obtain ⟨hI, hrc, hf9835, hG9836, hw⟩ := hw
              dsimp only at hI hrc hB hf9835 hG9836 hw
              have hF := frCF (by decide) hG9836 hF
              rw [hrc] at hB
              have hP : va_P (dC, dI) classes (wM g c v9833 F9834 rc) H1 := hB
              replace hw : (r9832.toInt = 1 ∧ (v9816 41).toInt < 8 ∧ (v9833 41).toInt = (v9816 41).toInt + 1 ∧ (v9833 39).toInt = (v9816 39).toInt + 1 ∧ (v9833 40).toInt = (v9816 40).toInt) ∨ (r9832.toInt = 0 ∧ (v9816 41).toInt = 8 ∧ 0 ≤ (v9833 40).toInt ∧ (v9833 41).toInt = (v9816 41).toInt ∧ (v9833 39).toInt = (v9816 39).toInt) := hw
              rw [show v9816 41 = v9806 41 from hf9818 41 (by decide)] at hw
              rw [show v9816 39 = v9806 39 from hf9818 39 (by decide)] at hw
              rw [show v9816 40 = v9806 40 from hf9818 40 (by decide)] at hw
              have hw_r9832 := hw
              clear hw
              have t9837 : 0 ≤ (v9833 39).toInt ∧ (v9833 39).toInt ≤ 120 := hI.1 39 _ _ rfl
              have t9838 : 0 ≤ (v9833 41).toInt ∧ (v9833 41).toInt ≤ 8 := hI.1 41 _ _ rfl
              clear hz1
              generalize H1 = H at hP hS ⊢
              replace hk : keepL (v 37) (F 28) (F 29) (F9834 28) (F9834 29) := by rw [hG9836 28 (by decide), hG9836 29 (by decide)]; exact hk
              replace hd : (v9833 40).toInt < 0 → dp (F9834 28) (F9834 29) (bI (v 37)) (v9816 38).toInt.toNat = some (((d + 1) + 1) - 1) := fun hf => (by rw [hG9836 28 (by decide), hG9836 29 (by decide)]; exact hd (by omega))
              refine lv_if_ne (tgt := 79) hx hb dX12_either_75 (by decide) (fun c9839 => ?_) (fun c9839 => ?_)
              · skip
                have t9840 := cv_ne (a := r9832.toInt) rfl (b := 0) (by decide) c9839
                refine lv_aload_n hx hb dX12_either_79 rfl (lv_at hl 1 rfl) ?_
                have t9841 : 0 ≤ (v 30).toInt ∧ (v 30).toInt ≤ 120 := by have h9 := hI.1 30 _ _ rfl; rw [show v9833 30 = v 30 from (hf9835 30 (by decide)).trans ((hf9818 30 (by decide)).trans ((hf9808 30 (by decide)).trans (hf9408 30 (by decide))))] at h9; exact h9
                have t9842 : 0 ≤ (v 37).toInt ∧ (v 37).toInt ≤ 9 := by have h9 := hI.1 37 _ _ rfl; rw [show v9833 37 = v 37 from (hf9835 37 (by decide)).trans ((hf9818 37 (by decide)).trans ((hf9808 37 (by decide)).trans (hf9408 37 (by decide))))] at h9; exact h9
                have t9843 : 0 ≤ (v9816 38).toInt ∧ (v9816 38).toInt ≤ 120 := by have h9 := hI.1 38 _ _ rfl; rw [show v9833 38 = v9816 38 from hf9835 38 (by decide)] at h9; exact h9
                have t9844 : 0 ≤ (v9833 39).toInt ∧ (v9833 39).toInt ≤ 120 := hI.1 39 _ _ rfl
                have t9845 : 0 ≤ (v9833 41).toInt ∧ (v9833 41).toInt ≤ 8 := hI.1 41 _ _ rfl
                refine va_callv (va_runV (As := []) (rest := []) ⟨hx, hb, hml, hown, hwd⟩ (rE l dC dI g c adK adV v9833 F9834 rc H.size  (((d + 1) + 1) - 1) hg hI (by have h9 : v9833 38 = v9816 38 := hf9835 38 (by decide); (try rw [h9]); clear h9; have h9 : v9833 39 = v9833 39 := rfl; (try rw [h9]); clear h9; have h9 : v9833 30 = v 30 := (hf9835 30 (by decide)).trans ((hf9818 30 (by decide)).trans ((hf9808 30 (by decide)).trans (hf9408 30 (by decide)))); (try rw [h9]); clear h9; have h9 : v9833 40 = v9833 40 := rfl; (try rw [h9]); clear h9; have h9 : v9833 41 = v9833 41 := rfl; (try rw [h9]); clear h9; omega) (by have h9 : v9833 37 = (v 37) := (hf9835 37 (by decide)).trans ((hf9818 37 (by decide)).trans ((hf9808 37 (by decide)).trans (hf9408 37 (by decide)))); have h8 : v9833 38 = (v9816 38) := hf9835 38 (by decide); (try rw [h9]); (try rw [h8]); exact hd (by omega))) (cwV 0 hwd (gV wk_1010 wk_1007 wk_1008 wk_1009 wk_5) rfl rfl rfl (by decide +kernel) ⟨(by show fr + 3 + 1 ≤ fr + 7; omega), (by show 8 + (2 + 11) + (lc + 120) ≤ lc + 280; omega)⟩) ⟨PM.blind, va_recv hK hP (ci := 12) (q0 := 0) rfl rfl, fun U hU hW => ⟨rfl, PM.at hK hE hP hS hU hW⟩⟩ rfl rfl hl.1 rfl (lv_room (Nat.le_of_ble_eq_true rfl)) dX12_either_80 ⟨Nat.le_of_ble_eq_true rfl, Nat.le_of_ble_eq_true rfl⟩) hS (fun q _ h => (freeM hS) q h) (freeM hS) (fun u t H1 locs ht hvm hw hB hz1 hk1 hS => ?_)
                unfold BM at hB
                rw [ht] at hB
                obtain ⟨v9847, F9848, rc9⟩ := u
                obtain ⟨hI, hrc, hf9849, hG9850, hw⟩ := hw
                dsimp only at hI hrc hB hf9849 hG9850 hw
                have hF := frCF (by decide) hG9850 hF
                rw [hrc] at hB
                have hP : va_P (dC, dI) classes (wM g c v9847 F9848 rc) H1 := hB
                replace hw : ((v9833 39).toInt ≤ (v9847 39).toInt ∧ (v9847 39).toInt ≤ (v9833 30).toInt ∧ (v9833 38).toInt ≤ (v9847 38).toInt ∧ (v9847 38).toInt - (v9833 38).toInt ≤ (v9847 39).toInt - (v9833 39).toInt ∧ (v9833 41).toInt ≤ (v9847 41).toInt ∧ ((v9847 40).toInt < 0 → (v9847 41).toInt = (v9833 41).toInt)) ∧ keepL (v9833 37) (F9834 28) (F9834 29) (F9848 28) (F9848 29) ∧ ((v9847 40).toInt < 0 → dp (F9848 28) (F9848 29) (bI (v9833 37)) (v9847 38).toInt.toNat = some ((((d + 1) + 1) - 1) + 1)) := hw
                rw [show v9833 30 = v 30 from (hf9835 30 (by decide)).trans ((hf9818 30 (by decide)).trans ((hf9808 30 (by decide)).trans (hf9408 30 (by decide))))] at hw
                rw [show v9833 38 = v9816 38 from hf9835 38 (by decide)] at hw
                rw [show v9833 37 = v 37 from (hf9835 37 (by decide)).trans ((hf9818 37 (by decide)).trans ((hf9808 37 (by decide)).trans (hf9408 37 (by decide))))] at hw
                have hw_r9846 := hw
                clear hw
                have t9851 : 0 ≤ (v9847 38).toInt ∧ (v9847 38).toInt ≤ 120 := hI.1 38 _ _ rfl
                have t9852 : 0 ≤ (v9847 39).toInt ∧ (v9847 39).toInt ≤ 120 := hI.1 39 _ _ rfl
                have t9853 : 0 ≤ (v9847 41).toInt ∧ (v9847 41).toInt ≤ 8 := hI.1 41 _ _ rfl
                clear hz1
                generalize H1 = H at hP hS ⊢
                replace hk := hk.tr hw_r9846.2.1
                replace hd := hw_r9846.2.2
                replace hw_r9846 := hw_r9846.1
                refine lv_aload_n hx hb dX12_either_83 rfl (lv_at hl 1 rfl) ?_
                refine va_get (D := (dC, dI)) (ci := 12) (v := .int (v9847 40)) (C := RX12) (T := TX12) (N := 63) hx hb hwd inA_X12 hown hK hP 0 rfl rfl 40 (by decide) (hwd _ wk_1005) (fun _ h9 => h9) rfl dX12_either_84 ?_
                refine lv_if_lt (tgt := 91) hx hb dX12_either_87 (by decide) (fun c9854 => ?_) (fun c9854 => ?_)
                · skip
                  have t9855 := cv_lt (a := (v9847 40).toInt) rfl (b := 0) (by decide) c9854
                  refine lv_aload_n hx hb dX12_either_91 rfl (lv_at hl 1 rfl) ?_
                  have t9856 : 0 ≤ (v 30).toInt ∧ (v 30).toInt ≤ 120 := by have h9 := hI.1 30 _ _ rfl; rw [show v9847 30 = v 30 from (hf9849 30 (by decide)).trans ((hf9835 30 (by decide)).trans ((hf9818 30 (by decide)).trans ((hf9808 30 (by decide)).trans (hf9408 30 (by decide)))))] at h9; exact h9
                  have t9857 : 0 ≤ (v9847 39).toInt ∧ (v9847 39).toInt ≤ 120 := hI.1 39 _ _ rfl
                  refine va_calli (va_runV (As := []) (rest := []) ⟨hx, hb, hml, hown, hwd⟩ (c_X12_look l dC dI g c adK adV v9847 F9848 rc H.size  hg hI ) (cwV 0 hwd (gV wk_1017 wk_1014 wk_1015 wk_1016 wk_5) rfl rfl rfl (by decide +kernel) ⟨(by show 1 + 1 ≤ fr + 7; omega), (by show 8 + (1 + 11) + (40) ≤ lc + 280; omega)⟩) ⟨PM.blind, va_recv hK hP (ci := 12) (q0 := 0) rfl rfl, fun U hU hW => ⟨rfl, PM.at hK hE hP hS hU hW⟩⟩ rfl rfl hl.1 rfl (lv_room (Nat.le_of_ble_eq_true rfl)) dX12_either_92 ⟨Nat.le_of_ble_eq_true rfl, Nat.le_of_ble_eq_true rfl⟩) hS (fun q _ h => (freeM hS) q h) (freeM hS) (fun r9858 u t H1 locs ht hvm hw hB hz1 hk1 hS => ?_)
                  unfold BM at hB
                  rw [ht] at hB
                  have hP : va_P (dC, dI) classes (wM g c v9847 F9848 rc) H1 := hB
                  replace hw : r9858.toInt = lkM (v9847 39) (v9847 30) (F9848 24) ∧ ((v9847 39).toInt < (v9847 30).toInt ∨ r9858.toInt = -1) := hw
                  rw [show v9847 30 = v 30 from (hf9849 30 (by decide)).trans ((hf9835 30 (by decide)).trans ((hf9818 30 (by decide)).trans ((hf9808 30 (by decide)).trans (hf9408 30 (by decide)))))] at hw
                  rw [hF 24 (by decide)] at hw
                  have hw_r9858 := hw
                  clear hw
                  clear hz1
                  generalize H1 = H at hP hS ⊢
                  refine lv_bipush (v := 58) hx hb dX12_either_95 (by decide) ?_
                  refine lv_icmp_eq (tgt := 105) hx hb dX12_either_97 (by decide) (fun c9859 => ?_) (fun c9859 => ?_)
                  · skip
                    have t9860 := cv_eq (a := r9858.toInt) rfl (b := 58) (by decide) c9859
                    refine lv_aload_n hx hb dX12_either_105 rfl (lv_at hl 1 rfl) ?_
                    refine lv_dup hx hb dX12_either_106 rfl ?_
                    refine va_get (D := (dC, dI)) (ci := 12) (v := .int (v9847 39)) (C := RX12) (T := TX12) (N := 63) hx hb hwd inA_X12 hown hK hP 0 rfl rfl 39 (by decide) (hwd _ wk_1004) (fun _ h9 => h9) rfl dX12_either_107 ?_
                    have t9861 : 0 ≤ (v9847 39).toInt ∧ (v9847 39).toInt ≤ 120 := hI.1 39 _ _ rfl
                    refine lv_iconst (v := 1) hx hb dX12_either_110 (by decide) ?_
                    refine lv_iadd hx hb dX12_either_111 ?_
                    refine lv_topi (fun z9862 e9863 => ?_)
                    try (have t9864 := tadd e9863 (a := (v9847 39).toInt) rfl (b := 1) (by decide) (by omega))
                    refine va_put (D := (dC, dI)) (ci := 12) (v := .int z9862) (ty := .int) (C := RX12) (T := TX12) (N := 63) (fs := fsM_0 g v9847 rc) hx hb hwd inA_X12 tyX12 tyX12_ok nmX12 hown hK hP (DM hg) hS 0 rfl rfl 39 (by decide) (hwd _ wk_1004) (fun _ h9 => h9) rfl (by decide +kernel) rfl rfl (Nat.le_of_ble_eq_true rfl) dX12_either_112 (fun H locs hP _ hS => ?_)
                    have hP := va_P_eq (pM_39 g c _ _ _ _) hP
                    have hI := IM.put hI 39 z9862 rfl (by omega)
                    refine lv_aload_n hx hb dX12_either_115 rfl (lv_at hl 1 rfl) ?_
                    have t9865 : 0 ≤ (v 30).toInt ∧ (v 30).toInt ≤ 120 := by have h9 := hI.1 30 _ _ rfl; rw [show (va_up v9847 39 z9862) 30 = v 30 from (hf9849 30 (by decide)).trans ((hf9835 30 (by decide)).trans ((hf9818 30 (by decide)).trans ((hf9808 30 (by decide)).trans (hf9408 30 (by decide)))))] at h9; exact h9
                    have t9866 : 0 ≤ (v 37).toInt ∧ (v 37).toInt ≤ 9 := by have h9 := hI.1 37 _ _ rfl; rw [show (va_up v9847 39 z9862) 37 = v 37 from (hf9849 37 (by decide)).trans ((hf9835 37 (by decide)).trans ((hf9818 37 (by decide)).trans ((hf9808 37 (by decide)).trans (hf9408 37 (by decide)))))] at h9; exact h9
                    have t9867 : 0 ≤ (v9847 38).toInt ∧ (v9847 38).toInt ≤ 120 := hI.1 38 _ _ rfl
                    have t9868 : 0 ≤ z9862.toInt ∧ z9862.toInt ≤ 120 := hI.1 39 _ _ rfl
                    have t9869 : 0 ≤ (v9847 41).toInt ∧ (v9847 41).toInt ≤ 8 := hI.1 41 _ _ rfl
                    refine va_callv (va_runV (As := []) (rest := []) ⟨hx, hb, hml, hown, hwd⟩ (rE l dC dI g c adK adV (va_up v9847 39 z9862) F9848 rc H.size  ((((d + 1) + 1) - 1) + 1) hg hI (by have h9 : (va_up v9847 39 z9862) 38 = v9847 38 := rfl; (try rw [h9]); clear h9; have h9 : (va_up v9847 39 z9862) 39 = z9862 := rfl; (try rw [h9]); clear h9; have h9 : (va_up v9847 39 z9862) 30 = v 30 := (hf9849 30 (by decide)).trans ((hf9835 30 (by decide)).trans ((hf9818 30 (by decide)).trans ((hf9808 30 (by decide)).trans (hf9408 30 (by decide))))); (try rw [h9]); clear h9; have h9 : (va_up v9847 39 z9862) 40 = v9847 40 := rfl; (try rw [h9]); clear h9; have h9 : (va_up v9847 39 z9862) 41 = v9847 41 := rfl; (try rw [h9]); clear h9; omega) (by have h9 : (va_up v9847 39 z9862) 37 = (v 37) := (hf9849 37 (by decide)).trans ((hf9835 37 (by decide)).trans ((hf9818 37 (by decide)).trans ((hf9808 37 (by decide)).trans (hf9408 37 (by decide))))); have h8 : (va_up v9847 39 z9862) 38 = (v9847 38) := rfl; (try rw [h9]); (try rw [h8]); exact hd (by omega))) (cwV 0 hwd (gV wk_1010 wk_1007 wk_1008 wk_1009 wk_5) rfl rfl rfl (by decide +kernel) ⟨(by show fr + 3 + 1 ≤ fr + 7; omega), (by show 8 + (2 + 11) + (lc + 120) ≤ lc + 280; omega)⟩) ⟨PM.blind, va_recv hK hP (ci := 12) (q0 := 0) rfl rfl, fun U hU hW => ⟨rfl, PM.at hK hE hP hS hU hW⟩⟩ rfl rfl hl.1 rfl (lv_room (Nat.le_of_ble_eq_true rfl)) dX12_either_116 ⟨Nat.le_of_ble_eq_true rfl, Nat.le_of_ble_eq_true rfl⟩) hS (fun q _ h => (freeM hS) q h) (freeM hS) (fun u t H1 locs ht hvm hw hB hz1 hk1 hS => ?_)
                    unfold BM at hB
                    rw [ht] at hB
                    obtain ⟨v9871, F9872, rc9⟩ := u
                    obtain ⟨hI, hrc, hf9873, hG9874, hw⟩ := hw
                    dsimp only at hI hrc hB hf9873 hG9874 hw
                    have hF := frCF (by decide) hG9874 hF
                    rw [hrc] at hB
                    have hP : va_P (dC, dI) classes (wM g c v9871 F9872 rc) H1 := hB
                    replace hw : (z9862.toInt ≤ (v9871 39).toInt ∧ (v9871 39).toInt ≤ ((va_up v9847 39 z9862) 30).toInt ∧ (v9847 38).toInt ≤ (v9871 38).toInt ∧ (v9871 38).toInt - (v9847 38).toInt ≤ (v9871 39).toInt - z9862.toInt ∧ (v9847 41).toInt ≤ (v9871 41).toInt ∧ ((v9871 40).toInt < 0 → (v9871 41).toInt = (v9847 41).toInt)) ∧ keepL ((va_up v9847 39 z9862) 37) (F9848 28) (F9848 29) (F9872 28) (F9872 29) ∧ ((v9871 40).toInt < 0 → dp (F9872 28) (F9872 29) (bI ((va_up v9847 39 z9862) 37)) (v9871 38).toInt.toNat = some (((((d + 1) + 1) - 1) + 1) + 1)) := hw
                    rw [show (va_up v9847 39 z9862) 30 = v 30 from (hf9849 30 (by decide)).trans ((hf9835 30 (by decide)).trans ((hf9818 30 (by decide)).trans ((hf9808 30 (by decide)).trans (hf9408 30 (by decide)))))] at hw
                    rw [show (va_up v9847 39 z9862) 37 = v 37 from (hf9849 37 (by decide)).trans ((hf9835 37 (by decide)).trans ((hf9818 37 (by decide)).trans ((hf9808 37 (by decide)).trans (hf9408 37 (by decide)))))] at hw
                    have hw_r9870 := hw
                    clear hw
                    have t9875 : 0 ≤ (v9871 38).toInt ∧ (v9871 38).toInt ≤ 120 := hI.1 38 _ _ rfl
                    have t9876 : 0 ≤ (v9871 39).toInt ∧ (v9871 39).toInt ≤ 120 := hI.1 39 _ _ rfl
                    have t9877 : 0 ≤ (v9871 41).toInt ∧ (v9871 41).toInt ≤ 8 := hI.1 41 _ _ rfl
                    clear hz1
                    generalize H1 = H at hP hS ⊢
                    replace hk := hk.tr hw_r9870.2.1
                    replace hd := hw_r9870.2.2
                    replace hw_r9870 := hw_r9870.1
                    refine lv_aload_n hx hb dX12_either_119 rfl (lv_at hl 1 rfl) ?_
                    refine lv_iconst (v := 4) hx hb dX12_either_120 (by decide) ?_
                    refine lv_iconst (v := 0) hx hb dX12_either_121 (by decide) ?_
                    have t9878 : 0 ≤ (v 37).toInt ∧ (v 37).toInt ≤ 9 := by have h9 := hI.1 37 _ _ rfl; rw [show v9871 37 = v 37 from (hf9873 37 (by decide)).trans ((hf9849 37 (by decide)).trans ((hf9835 37 (by decide)).trans ((hf9818 37 (by decide)).trans ((hf9808 37 (by decide)).trans (hf9408 37 (by decide))))))] at h9; exact h9
                    have t9879 : 0 ≤ (v9871 38).toInt ∧ (v9871 38).toInt ≤ 120 := hI.1 38 _ _ rfl
                    refine va_callv (va_runV (As := [.int 4, .int 0]) (rest := []) ⟨hx, hb, hml, hown, hwd⟩ (c_X12_lay l dC dI g c adK adV v9871 F9872 rc H.size 4 0 hg hI (by have h9 : v9871 38 = v9871 38 := rfl; rw [h9]; omega)) (cwV 2 hwd (gV wk_1021 wk_1018 wk_1019 wk_1020 wk_5) rfl rfl rfl (by decide +kernel) ⟨(by show 1 + 1 ≤ fr + 7; omega), (by show 8 + (3 + 11) + (40) ≤ lc + 280; omega)⟩) ⟨PM.blind, va_recv hK hP (ci := 12) (q0 := 0) rfl rfl, fun U hU hW => ⟨rfl, PM.at hK hE hP hS hU hW⟩⟩ rfl rfl hl.1 rfl (lv_room (Nat.le_of_ble_eq_true rfl)) dX12_either_122 ⟨Nat.le_of_ble_eq_true rfl, Nat.le_of_ble_eq_true rfl⟩) hS (fun q _ h => (freeM hS) q h) (freeM hS) (fun u t H1 locs ht hvm hw hB hz1 hk1 hS => ?_)
                    unfold BM at hB
                    rw [ht] at hB
                    obtain ⟨v9881, F9882, rc9⟩ := u
                    obtain ⟨hI, hrc, hf9883, hG9884, hw⟩ := hw
                    dsimp only at hI hrc hB hf9883 hG9884 hw
                    have hF := frCF (by decide) hG9884 hF
                    rw [hrc] at hB
                    have hP : va_P (dC, dI) classes (wM g c v9881 F9882 rc) H1 := hB
                    replace hw : (v9881 38).toInt = (v9871 38).toInt + 1 ∧ keepL (v9871 37) (F9872 28) (F9872 29) (F9882 28) (F9882 29) ∧ dp (F9882 28) (F9882 29) (bI (v9871 37)) ((v9871 38).toInt.toNat + 1) = dpS (dp (F9872 28) (F9872 29) (bI (v9871 37)) (v9871 38).toInt.toNat) (4 : Int32) (0 : Int32) := hw
                    rw [show v9871 37 = v 37 from (hf9873 37 (by decide)).trans ((hf9849 37 (by decide)).trans ((hf9835 37 (by decide)).trans ((hf9818 37 (by decide)).trans ((hf9808 37 (by decide)).trans (hf9408 37 (by decide))))))] at hw
                    have hw_r9880 := hw
                    clear hw
                    have t9885 : 0 ≤ (v9881 38).toInt ∧ (v9881 38).toInt ≤ 120 := hI.1 38 _ _ rfl
                    have k9886 : (4 : Int32).toInt = 4 := by decide
                    have k9887 : (0 : Int32).toInt = 0 := by decide
                    clear hz1
                    generalize H1 = H at hP hS ⊢
                    replace hk := hk.tr hw_r9880.2.1
                    replace hd : (v9871 40).toInt < 0 → dp (F9882 28) (F9882 29) (bI (v 37)) (v9881 38).toInt.toNat = some ((((((d + 1) + 1) - 1) + 1) + 1) - 2) := fun hf => (by have e9 : (v9881 38).toInt.toNat = (v9871 38).toInt.toNat + 1 := (by omega); rw [e9, hw_r9880.2.2, hd hf]; exact dpS_4 (by decide) (by omega))
                    replace hw_r9880 := hw_r9880.1
                    refine lv_aload_n hx hb dX12_either_125 rfl (lv_at hl 1 rfl) ?_
                    refine lv_dup hx hb dX12_either_126 rfl ?_
                    refine va_get (D := (dC, dI)) (ci := 12) (v := .int (v9881 41)) (C := RX12) (T := TX12) (N := 63) hx hb hwd inA_X12 hown hK hP 0 rfl rfl 41 (by decide) (hwd _ wk_1006) (fun _ h9 => h9) rfl dX12_either_127 ?_
                    refine my_top (v := v9871 41) (hf9883 41 (by decide)) ?_
                    have t9888 : 0 ≤ (v9871 41).toInt ∧ (v9871 41).toInt ≤ 8 := by have h9 := hI.1 41 _ _ rfl; rw [show v9881 41 = v9871 41 from hf9883 41 (by decide)] at h9; exact h9
                    refine lv_iconst (v := 1) hx hb dX12_either_130 (by decide) ?_
                    refine lv_isub hx hb dX12_either_131 ?_
                    refine lv_topi (fun z9889 e9890 => ?_)
                    try (have t9891 := tsub e9890 (a := (v9871 41).toInt) rfl (b := 1) (by decide) (by omega))
                    refine va_put (D := (dC, dI)) (ci := 12) (v := .int z9889) (ty := .int) (C := RX12) (T := TX12) (N := 63) (fs := fsM_0 g v9881 rc) hx hb hwd inA_X12 tyX12 tyX12_ok nmX12 hown hK hP (DM hg) hS 0 rfl rfl 41 (by decide) (hwd _ wk_1006) (fun _ h9 => h9) rfl (by decide +kernel) rfl rfl (Nat.le_of_ble_eq_true rfl) dX12_either_132 (fun H locs hP _ hS => ?_)
                    have hP := va_P_eq (pM_41 g c _ _ _ _) hP
                    have hI := IM.put hI 41 z9889 rfl (by omega)
                    have hP9 : va_P (dC, dI) classes (wM g c (va_up v9881 41 z9889) F9882 rc) H := hP
                    exact W.vret hx hb hr (fun t ht hW => ⟨⟨((va_up v9881 41 z9889), F9882, rc), rfl, ⟨hI, rfl, (frU (by decide) (frC (by decide) hf9883 (frC (by decide) hf9873 (frU (by decide) (frC (by decide) hf9849 (frC (by decide) hf9835 (frC (by decide) hf9818 (frC (by decide) hf9808 (frU (by decide) (frC (by decide) hf9408 (fun _ _ => rfl))))))))))), hF, (by show ((v 39).toInt ≤ ((va_up v9881 41 z9889) 39).toInt ∧ ((va_up v9881 41 z9889) 39).toInt ≤ (v 30).toInt ∧ (v 38).toInt ≤ (v9881 38).toInt ∧ (v9881 38).toInt - (v 38).toInt ≤ ((va_up v9881 41 z9889) 39).toInt - (v 39).toInt ∧ (v 41).toInt ≤ z9889.toInt ∧ (((va_up v9881 41 z9889) 40).toInt < 0 → z9889.toInt = (v 41).toInt)) ∧ keepL (v 37) (F 28) (F 29) (F9882 28) (F9882 29) ∧ (((va_up v9881 41 z9889) 40).toInt < 0 → dp (F9882 28) (F9882 29) (bI (v 37)) (v9881 38).toInt.toNat = some (d + 1)); rw [show (va_up v9881 41 z9889) 39 = v9871 39 from hf9883 39 (by decide)]; rw [show (va_up v9881 41 z9889) 40 = v9871 40 from hf9883 40 (by decide)]; exact ⟨by omega, hk, fun hf => (hd (by omega)).trans (congrArg some (by omega))⟩)⟩, (by show va_P _ _ _ t.heap; rw [ht]; exact hP9)⟩, hS.F ht⟩) hS.2.2 dX12_either_135
                  · skip
                    have t9892 := cv_ne (a := r9858.toInt) rfl (b := 58) (by decide) c9859
                    refine lv_aload_n hx hb dX12_either_100 rfl (lv_at hl 1 rfl) ?_
                    refine va_callv (va_runV (As := []) (rest := []) ⟨hx, hb, hml, hown, hwd⟩ (c_X12_wrong l dC dI g c adK adV v9847 F9848 rc H.size  hg hI ) (cwV 0 hwd (gV wk_1029 wk_1026 wk_1027 wk_1028 wk_5) rfl rfl rfl (by decide +kernel) ⟨(by show 1 + 1 ≤ fr + 7; omega), (by show 8 + (1 + 11) + (40) ≤ lc + 280; omega)⟩) ⟨PM.blind, va_recv hK hP (ci := 12) (q0 := 0) rfl rfl, fun U hU hW => ⟨rfl, PM.at hK hE hP hS hU hW⟩⟩ rfl rfl hl.1 rfl (lv_room (Nat.le_of_ble_eq_true rfl)) dX12_either_101 ⟨Nat.le_of_ble_eq_true rfl, Nat.le_of_ble_eq_true rfl⟩) hS (fun q _ h => (freeM hS) q h) (freeM hS) (fun u t H1 locs ht hvm hw hB hz1 hk1 hS => ?_)
                    unfold BM at hB
                    rw [ht] at hB
                    obtain ⟨v9894, F9895, rc9⟩ := u
                    obtain ⟨hI, hrc, hf9896, hG9897, hw⟩ := hw
                    dsimp only at hI hrc hB hf9896 hG9897 hw
                    have hF := frCF (by decide) hG9897 hF
                    rw [hrc] at hB
                    have hP : va_P (dC, dI) classes (wM g c v9894 F9895 rc) H1 := hB
                    replace hw : 0 ≤ (v9894 40).toInt := hw
                    have hw_r9893 := hw
                    clear hw
                    clear hz1
                    generalize H1 = H at hP hS ⊢
                    replace hk : keepL (v 37) (F 28) (F 29) (F9895 28) (F9895 29) := by rw [hG9897 28 (by decide), hG9897 29 (by decide)]; exact hk
                    replace hd : (v9894 40).toInt < 0 → dp (F9895 28) (F9895 29) (bI (v 37)) (v9847 38).toInt.toNat = some ((((d + 1) + 1) - 1) + 1) := fun hf => (by rw [hG9897 28 (by decide), hG9897 29 (by decide)]; exact hd (by omega))
                    have hP9 : va_P (dC, dI) classes (wM g c v9894 F9895 rc) H := hP
                    exact W.vret hx hb hr (fun t ht hW => ⟨⟨(v9894, F9895, rc), rfl, ⟨hI, rfl, (frC (by decide) hf9896 (frC (by decide) hf9849 (frC (by decide) hf9835 (frC (by decide) hf9818 (frC (by decide) hf9808 (frU (by decide) (frC (by decide) hf9408 (fun _ _ => rfl)))))))), hF, (by show ((v 39).toInt ≤ (v9894 39).toInt ∧ (v9894 39).toInt ≤ (v 30).toInt ∧ (v 38).toInt ≤ (v9894 38).toInt ∧ (v9894 38).toInt - (v 38).toInt ≤ (v9894 39).toInt - (v 39).toInt ∧ (v 41).toInt ≤ (v9894 41).toInt ∧ ((v9894 40).toInt < 0 → (v9894 41).toInt = (v 41).toInt)) ∧ keepL (v 37) (F 28) (F 29) (F9895 28) (F9895 29) ∧ ((v9894 40).toInt < 0 → dp (F9895 28) (F9895 29) (bI (v 37)) (v9894 38).toInt.toNat = some (d + 1)); rw [show v9894 39 = v9847 39 from hf9896 39 (by decide)]; rw [show v9894 38 = v9847 38 from hf9896 38 (by decide)]; rw [show v9894 41 = v9847 41 from hf9896 41 (by decide)]; exact ⟨by omega, hk, fun hf => (hd (by omega)).trans (congrArg some (by omega))⟩)⟩, (by show va_P _ _ _ t.heap; rw [ht]; exact hP9)⟩, hS.F ht⟩) hS.2.2 dX12_either_104
                · skip
                  have t9898 := cv_nlt (a := (v9847 40).toInt) rfl (b := 0) (by decide) c9854
                  have hP9 : va_P (dC, dI) classes (wM g c v9847 F9848 rc) H := hP
                  exact W.vret hx hb hr (fun t ht hW => ⟨⟨(v9847, F9848, rc), rfl, ⟨hI, rfl, (frC (by decide) hf9849 (frC (by decide) hf9835 (frC (by decide) hf9818 (frC (by decide) hf9808 (frU (by decide) (frC (by decide) hf9408 (fun _ _ => rfl))))))), hF, (by show ((v 39).toInt ≤ (v9847 39).toInt ∧ (v9847 39).toInt ≤ (v 30).toInt ∧ (v 38).toInt ≤ (v9847 38).toInt ∧ (v9847 38).toInt - (v 38).toInt ≤ (v9847 39).toInt - (v 39).toInt ∧ (v 41).toInt ≤ (v9847 41).toInt ∧ ((v9847 40).toInt < 0 → (v9847 41).toInt = (v 41).toInt)) ∧ keepL (v 37) (F 28) (F 29) (F9848 28) (F9848 29) ∧ ((v9847 40).toInt < 0 → dp (F9848 28) (F9848 29) (bI (v 37)) (v9847 38).toInt.toNat = some (d + 1)); exact ⟨by omega, hk, fun hf => (hd (by omega)).trans (congrArg some (by omega))⟩)⟩, (by show va_P _ _ _ t.heap; rw [ht]; exact hP9)⟩, hS.F ht⟩) hS.2.2 dX12_either_90
              · skip
                have t9899 := cv_eq (a := r9832.toInt) rfl (b := 0) (by decide) c9839
                have hP9 : va_P (dC, dI) classes (wM g c v9833 F9834 rc) H := hP
                exact W.vret hx hb hr (fun t ht hW => ⟨⟨(v9833, F9834, rc), rfl, ⟨hI, rfl, (frC (by decide) hf9835 (frC (by decide) hf9818 (frC (by decide) hf9808 (frU (by decide) (frC (by decide) hf9408 (fun _ _ => rfl)))))), hF, (by show ((v 39).toInt ≤ (v9833 39).toInt ∧ (v9833 39).toInt ≤ (v 30).toInt ∧ (v 38).toInt ≤ (v9833 38).toInt ∧ (v9833 38).toInt - (v 38).toInt ≤ (v9833 39).toInt - (v 39).toInt ∧ (v 41).toInt ≤ (v9833 41).toInt ∧ ((v9833 40).toInt < 0 → (v9833 41).toInt = (v 41).toInt)) ∧ keepL (v 37) (F 28) (F 29) (F9834 28) (F9834 29) ∧ ((v9833 40).toInt < 0 → dp (F9834 28) (F9834 29) (bI (v 37)) (v9833 38).toInt.toNat = some (d + 1)); rw [show v9833 38 = v9816 38 from hf9835 38 (by decide)]; exact ⟨by omega, hk, fun hf => (hd (by omega)).trans (congrArg some (by omega))⟩)⟩, (by show va_P _ _ _ t.heap; rw [ht]; exact hP9)⟩, hS.F ht⟩) hS.2.2 dX12_either_78
            · skip
              have t9900 := cv_ne (a := r9827.toInt) rfl (b := 63) (by decide) c9828
              have hP9 : va_P (dC, dI) classes (wM g c v9816 F9817 rc) H := hP
              exact W.vret hx hb hr (fun t ht hW => ⟨⟨(v9816, F9817, rc), rfl, ⟨hI, rfl, (frC (by decide) hf9818 (frC (by decide) hf9808 (frU (by decide) (frC (by decide) hf9408 (fun _ _ => rfl))))), hF, (by show ((v 39).toInt ≤ (v9816 39).toInt ∧ (v9816 39).toInt ≤ (v 30).toInt ∧ (v 38).toInt ≤ (v9816 38).toInt ∧ (v9816 38).toInt - (v 38).toInt ≤ (v9816 39).toInt - (v 39).toInt ∧ (v 41).toInt ≤ (v9816 41).toInt ∧ ((v9816 40).toInt < 0 → (v9816 41).toInt = (v 41).toInt)) ∧ keepL (v 37) (F 28) (F 29) (F9817 28) (F9817 29) ∧ ((v9816 40).toInt < 0 → dp (F9817 28) (F9817 29) (bI (v 37)) (v9816 38).toInt.toNat = some (d + 1)); rw [show v9816 39 = v9806 39 from hf9818 39 (by decide)]; rw [show v9816 41 = v9806 41 from hf9818 41 (by decide)]; rw [show v9816 40 = v9806 40 from hf9818 40 (by decide)]; exact ⟨by omega, hk, fun hf => (hd (by omega)).trans (congrArg some (by omega))⟩)⟩, (by show va_P _ _ _ t.heap; rw [ht]; exact hP9)⟩, hS.F ht⟩) hS.2.2 dX12_either_70
