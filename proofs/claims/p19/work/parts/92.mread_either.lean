set_option maxHeartbeats 8000000 in
set_option maxRecDepth 100000 in
theorem c_X12_either (D : Int) (fr lc : Nat) (rO : RPM 0 yX12_operand (Cond.code yX12_operand cX12_operand 2 none) (D + 1) fr lc) (rE : RPM 6 yX12_either (Cond.code yX12_either cX12_either 2 none) (D + 1) (fr + 3) (lc + 120)) (l : Launch) (dC : Nat → ClassId) (dI : Nat → Nat → Nat) (g : Nat → Nat) (c : Nat → ClassId) (adK adV : Nat → Nat) (v : Nat → Int32) (F : Nat → Nat → Int32) (rc sz : Nat) (d : Nat) (hg : injM g) (hI : IM v F) (hq : (v 38).toInt ≤ (v 39).toInt ∧ (v 39).toInt ≤ (v 30).toInt ∧ (v 40).toInt < 0 ∧ (v 41).toInt = D) (hdp : dp (F 28) (F 29) (bI (v 37)) (v 38).toInt.toNat = some d) : Met l yX12_either (Cond.code yX12_either cX12_either 2 none :: wA) ({ frames := fr + 7, cells := 0, slots := 0, locals := lc + 280 }) (va_Pc [.ref (g 0)] (PM dC dI g c adK adV v F rc sz)) (va_Qv (fun (u : StM) => IM u.1 u.2.1 ∧ u.2.2 = rc ∧ (∀ k, k ∉ ([38, 39, 40, 41, 42] : List Nat) → u.1 k = v k) ∧ (∀ k, k ∉ ([28, 29] : List Nat) → u.2.1 k = F k) ∧ (((u.1 40).toInt ≤ (u.1 39).toInt ∧ (v 39).toInt ≤ (u.1 39).toInt ∧ (u.1 39).toInt ≤ (v 30).toInt ∧ (v 38).toInt ≤ (u.1 38).toInt ∧ (u.1 38).toInt - (v 38).toInt ≤ (u.1 39).toInt - (v 39).toInt ∧ (v 41).toInt ≤ (u.1 41).toInt ∧ ((u.1 40).toInt < 0 → (u.1 41).toInt = (v 41).toInt)) ∧ keepL (v 37) (F 28) (F 29) (u.2.1 28) (u.2.1 29) ∧ ((u.1 40).toInt < 0 → dp (u.2.1 28) (u.2.1 29) (bI (v 37)) (u.1 38).toInt.toNat = some (d + 1)) ∧ rd false (v 30) (F 24) 6 (v 41).toInt (v 39).toInt (u.1 40).toInt (u.1 39).toInt)) (BM dC dI g c) (AM g sz)) 0 0 (AM g sz) := by
  refine Met.ofW (cc := cX12_either) (maxL := 2) (ret := none) (by decide) rfl ?_
  intro p e s m args below meth c0 s₁ B hml hv
  obtain ⟨rfl, hsz, hP, hK, hE⟩ := hv
  have hx := B.exec
  have hb := B.bytes
  have hr := B.returns
  have hts := atoms_spec (ws := Cond.code yX12_either cX12_either 2 none :: wA) B.pre
  have hwd : ∀ w ∈ wA, w.before _ s = true := fun w h => hts w (List.mem_cons_of_mem _ h)
  have hown : s.vm.findClass RX12 = some m.cls := findClass_of_methodNamed B.named
  have hlocks := B.notSynchronized
  subst hsz
  have hl := lv_entry ([.ref (g 0)]) (n := 2) (Nat.le_of_ble_eq_true rfl)
  rw [lg_entry_eq]
  generalize (lg_sl ([.ref (g 0)]) ++ List.replicate (2 - (lg_sl ([.ref (g 0)])).length) Slot.unset).toArray = ls at hl ⊢
  have hl : lv_has ls 2 [(0, .ref (g 0))] := hl
  obtain ⟨H, eH⟩ : ∃ z, z = s.heap := ⟨_, rfl⟩
  have hP : va_P (dC, dI) classes (wM g c v F rc) H := by rw [eH]; exact hP
  have hS : va_S (AM g s.heap.size) s.heap H [] := by rw [eH]; exact va_S.rf
  refine my_heap eH ?_
  have hF : ∀ k, k ∉ ([28, 29] : List Nat) → F k = F k := fun _ _ => rfl
  have hb30 : 0 ≤ (v 30).toInt ∧ (v 30).toInt ≤ 120 := hI.1 30 _ _ rfl
  have hb37 : 0 ≤ (v 37).toInt ∧ (v 37).toInt ≤ 9 := hI.1 37 _ _ rfl
  have hb38 : 0 ≤ (v 38).toInt ∧ (v 38).toInt ≤ 120 := hI.1 38 _ _ rfl
  have hb39 : 0 ≤ (v 39).toInt ∧ (v 39).toInt ≤ 120 := hI.1 39 _ _ rfl
  have hb41 : 0 ≤ (v 41).toInt ∧ (v 41).toInt ≤ 8 := hI.1 41 _ _ rfl
  have hk : keepL (v 37) (F 28) (F 29) (F 28) (F 29) := keepL.rf
  have hd : (v 40).toInt < 0 → dp (F 28) (F 29) (bI (v 37)) (v 38).toInt.toNat = some d := fun _ => hdp
  refine lv_aload_n hx hb dX12_either_0 rfl (lv_at hl 0 rfl) ?_
  have t9547 : 0 ≤ (v 30).toInt ∧ (v 30).toInt ≤ 120 := hI.1 30 _ _ rfl
  have t9548 : 0 ≤ (v 37).toInt ∧ (v 37).toInt ≤ 9 := hI.1 37 _ _ rfl
  have t9549 : 0 ≤ (v 38).toInt ∧ (v 38).toInt ≤ 120 := hI.1 38 _ _ rfl
  have t9550 : 0 ≤ (v 39).toInt ∧ (v 39).toInt ≤ 120 := hI.1 39 _ _ rfl
  have t9551 : 0 ≤ (v 41).toInt ∧ (v 41).toInt ≤ 8 := hI.1 41 _ _ rfl
  refine va_callv (va_runV (As := []) (rest := []) ⟨hx, hb, hml, hown, hwd⟩ (c_X12_sum D fr lc rO rE l dC dI g c adK adV v F rc H.size  d hg hI (by have h9 : v 38 = v 38 := rfl; (try rw [h9]); clear h9; have h9 : v 39 = v 39 := rfl; (try rw [h9]); clear h9; have h9 : v 30 = v 30 := rfl; (try rw [h9]); clear h9; have h9 : v 40 = v 40 := rfl; (try rw [h9]); clear h9; have h9 : v 41 = v 41 := rfl; (try rw [h9]); clear h9; omega) (by have h9 : v 37 = (v 37) := rfl; have h8 : v 38 = (v 38) := rfl; (try rw [h9]); (try rw [h8]); exact hd (by omega))) (cwV 0 hwd (gV wk_1043 wk_1011 wk_1012 wk_1013 wk_5) rfl rfl rfl (by decide +kernel) ⟨(by show fr + 6 + 1 ≤ fr + 7; omega), (by show 8 + (2 + 11) + (lc + 240) ≤ lc + 280; omega)⟩) ⟨PM.blind, va_recv hK hP (ci := 12) (q0 := 0) rfl rfl, fun U hU hW => ⟨rfl, PM.at hK hE hP hS hU hW⟩⟩ rfl rfl hl.1 rfl (lv_room (Nat.le_of_ble_eq_true rfl)) dX12_either_1 ⟨Nat.le_of_ble_eq_true rfl, Nat.le_of_ble_eq_true rfl⟩) hS (fun q _ h => (freeM hS) q h) (freeM hS) (fun u t H1 locs ht hvm hw hB hz1 hk1 hS => ?_)
  unfold BM at hB
  rw [ht] at hB
  obtain ⟨v9553, F9554, rc9⟩ := u
  obtain ⟨hI, hrc, hf9555, hG9556, hw⟩ := hw
  dsimp only at hI hrc hB hf9555 hG9556 hw
  have hF := frCF (by decide) hG9556 hF
  rw [hrc] at hB
  have hP : va_P (dC, dI) classes (wM g c v9553 F9554 rc) H1 := hB
  replace hw : ((v9553 40).toInt ≤ (v9553 39).toInt ∧ (v 39).toInt ≤ (v9553 39).toInt ∧ (v9553 39).toInt ≤ (v 30).toInt ∧ (v 38).toInt ≤ (v9553 38).toInt ∧ (v9553 38).toInt - (v 38).toInt ≤ (v9553 39).toInt - (v 39).toInt ∧ (v 41).toInt ≤ (v9553 41).toInt ∧ ((v9553 40).toInt < 0 → (v9553 41).toInt = (v 41).toInt)) ∧ keepL (v 37) (F 28) (F 29) (F9554 28) (F9554 29) ∧ ((v9553 40).toInt < 0 → dp (F9554 28) (F9554 29) (bI (v 37)) (v9553 38).toInt.toNat = some (d + 1)) ∧ rd false (v 30) (F 24) 3 (v 41).toInt (v 39).toInt (v9553 40).toInt (v9553 39).toInt := hw
  have hw_r9552 := hw
  clear hw
  have t9557 : 0 ≤ (v9553 38).toInt ∧ (v9553 38).toInt ≤ 120 := hI.1 38 _ _ rfl
  have t9558 : 0 ≤ (v9553 39).toInt ∧ (v9553 39).toInt ≤ 120 := hI.1 39 _ _ rfl
  have t9559 : 0 ≤ (v9553 41).toInt ∧ (v9553 41).toInt ≤ 8 := hI.1 41 _ _ rfl
  clear hz1
  generalize H1 = H at hP hS ⊢
  replace hk := hk.tr hw_r9552.2.1
  replace hd := hw_r9552.2.2.1
  have hrd_r9552 := hw_r9552.2.2.2
  replace hw_r9552 := hw_r9552.1
  refine lv_aload_n hx hb dX12_either_4 rfl (lv_at hl 0 rfl) ?_
  have t9560 : 0 ≤ (v 30).toInt ∧ (v 30).toInt ≤ 120 := by have h9 := hI.1 30 _ _ rfl; rw [show v9553 30 = v 30 from hf9555 30 (by decide)] at h9; exact h9
  have t9561 : 0 ≤ (v9553 39).toInt ∧ (v9553 39).toInt ≤ 120 := hI.1 39 _ _ rfl
  have hby24 : F9554 24 = F 24 := hF 24 (by decide)
  refine va_calli (va_runV (As := []) (rest := []) ⟨hx, hb, hml, hown, hwd⟩ (c_X12_look l dC dI g c adK adV v9553 F9554 rc H.size  hg hI ) (cwV 0 hwd (gV wk_1017 wk_1014 wk_1015 wk_1016 wk_5) rfl rfl rfl (by decide +kernel) ⟨(by show 1 + 1 ≤ fr + 7; omega), (by show 8 + (1 + 11) + (40) ≤ lc + 280; omega)⟩) ⟨PM.blind, va_recv hK hP (ci := 12) (q0 := 0) rfl rfl, fun U hU hW => ⟨rfl, PM.at hK hE hP hS hU hW⟩⟩ rfl rfl hl.1 rfl (lv_room (Nat.le_of_ble_eq_true rfl)) dX12_either_5 ⟨Nat.le_of_ble_eq_true rfl, Nat.le_of_ble_eq_true rfl⟩) hS (fun q _ h => (freeM hS) q h) (freeM hS) (fun r9562 u t H1 locs ht hvm hw hB hz1 hk1 hS => ?_)
  unfold BM at hB
  rw [ht] at hB
  have hP : va_P (dC, dI) classes (wM g c v9553 F9554 rc) H1 := hB
  replace hw : r9562.toInt = sg (v9553 30) (F9554 24) (v9553 39).toInt ∧ ((v9553 39).toInt < (v9553 30).toInt ∨ r9562.toInt = -1) := hw
  rw [show v9553 30 = v 30 from hf9555 30 (by decide)] at hw
  rw [hby24] at hw
  have hw_r9562 := hw
  clear hw
  clear hz1
  generalize H1 = H at hP hS ⊢
  refine lv_istore_n (lv' := [(1, .int r9562), (0, .ref (g 0))]) hx hb dX12_either_8 rfl hl (by decide) rfl (fun ls hl => ?_)
  refine lv_aload_n hx hb dX12_either_9 rfl (lv_at hl 1 rfl) ?_
  refine va_get (D := (dC, dI)) (ci := 12) (v := .int (v9553 40)) (C := RX12) (T := TX12) (N := 63) hx hb hwd inA_X12 hown hK hP 0 rfl rfl 40 (by decide) (hwd _ wk_1005) (fun _ h9 => h9) rfl dX12_either_10 ?_
  refine lv_if_ge (tgt := 54) hx hb dX12_either_13 (by decide) (fun c9563 => ?_) (fun c9563 => ?_)
  · skip
    have t9564 := cv_le (a := 0) (by decide) (b := (v9553 40).toInt) rfl c9563
    refine lv_aload_n hx hb dX12_either_54 rfl (lv_at hl 1 rfl) ?_
    refine va_get (D := (dC, dI)) (ci := 12) (v := .int (v9553 40)) (C := RX12) (T := TX12) (N := 63) hx hb hwd inA_X12 hown hK hP 0 rfl rfl 40 (by decide) (hwd _ wk_1005) (fun _ h9 => h9) rfl dX12_either_55 ?_
    refine lv_if_ge (tgt := 70) hx hb dX12_either_58 (by decide) (fun c9565 => ?_) (fun c9565 => ?_)
    · skip
      have t9566 := cv_le (a := 0) (by decide) (b := (v9553 40).toInt) rfl c9565
      have hP9 : va_P (dC, dI) classes (wM g c v9553 F9554 rc) H := hP
      exact W.vret hx hb hr (fun t ht hW => ⟨⟨(v9553, F9554, rc), rfl, ⟨hI, rfl, (frC (by decide) hf9555 (fun _ _ => rfl)), hF, (by show ((v9553 40).toInt ≤ (v9553 39).toInt ∧ (v 39).toInt ≤ (v9553 39).toInt ∧ (v9553 39).toInt ≤ (v 30).toInt ∧ (v 38).toInt ≤ (v9553 38).toInt ∧ (v9553 38).toInt - (v 38).toInt ≤ (v9553 39).toInt - (v 39).toInt ∧ (v 41).toInt ≤ (v9553 41).toInt ∧ ((v9553 40).toInt < 0 → (v9553 41).toInt = (v 41).toInt)) ∧ keepL (v 37) (F 28) (F 29) (F9554 28) (F9554 29) ∧ ((v9553 40).toInt < 0 → dp (F9554 28) (F9554 29) (bI (v 37)) (v9553 38).toInt.toNat = some (d + 1)) ∧ rd false (v 30) (F 24) 6 (v 41).toInt (v 39).toInt (v9553 40).toInt (v9553 39).toInt; exact ⟨by omega, hk, fun hf => (hd (by omega)).trans (congrArg some (by omega)), rd.e0 (rd.c0 (hrd_r9552.cast (by omega) rfl rfl rfl) (fun q9 => by omega)) (fun q9 => by omega)⟩)⟩, (by show va_P _ _ _ t.heap; rw [ht]; exact hP9)⟩, hS.F ht⟩) hS.2.2 dX12_either_70
    · skip
      have t9567 := cv_nle (a := 0) (by decide) (b := (v9553 40).toInt) rfl c9565
      refine lv_aload_n hx hb dX12_either_61 rfl (lv_at hl 1 rfl) ?_
      have t9568 : 0 ≤ (v 30).toInt ∧ (v 30).toInt ≤ 120 := by have h9 := hI.1 30 _ _ rfl; rw [show v9553 30 = v 30 from hf9555 30 (by decide)] at h9; exact h9
      have t9569 : 0 ≤ (v9553 39).toInt ∧ (v9553 39).toInt ≤ 120 := hI.1 39 _ _ rfl
      have hby24 : F9554 24 = F 24 := hF 24 (by decide)
      refine va_calli (va_runV (As := []) (rest := []) ⟨hx, hb, hml, hown, hwd⟩ (c_X12_look l dC dI g c adK adV v9553 F9554 rc H.size  hg hI ) (cwV 0 hwd (gV wk_1017 wk_1014 wk_1015 wk_1016 wk_5) rfl rfl rfl (by decide +kernel) ⟨(by show 1 + 1 ≤ fr + 7; omega), (by show 8 + (1 + 11) + (40) ≤ lc + 280; omega)⟩) ⟨PM.blind, va_recv hK hP (ci := 12) (q0 := 0) rfl rfl, fun U hU hW => ⟨rfl, PM.at hK hE hP hS hU hW⟩⟩ rfl rfl hl.1 rfl (lv_room (Nat.le_of_ble_eq_true rfl)) dX12_either_62 ⟨Nat.le_of_ble_eq_true rfl, Nat.le_of_ble_eq_true rfl⟩) hS (fun q _ h => (freeM hS) q h) (freeM hS) (fun r9570 u t H1 locs ht hvm hw hB hz1 hk1 hS => ?_)
      unfold BM at hB
      rw [ht] at hB
      have hP : va_P (dC, dI) classes (wM g c v9553 F9554 rc) H1 := hB
      replace hw : r9570.toInt = sg (v9553 30) (F9554 24) (v9553 39).toInt ∧ ((v9553 39).toInt < (v9553 30).toInt ∨ r9570.toInt = -1) := hw
      rw [show v9553 30 = v 30 from hf9555 30 (by decide)] at hw
      rw [hby24] at hw
      have hw_r9570 := hw
      clear hw
      clear hz1
      generalize H1 = H at hP hS ⊢
      refine lv_bipush (v := 63) hx hb dX12_either_65 (by decide) ?_
      refine lv_icmp_eq (tgt := 71) hx hb dX12_either_67 (by decide) (fun c9571 => ?_) (fun c9571 => ?_)
      · skip
        have t9572 := cv_eq (a := r9570.toInt) rfl (b := 63) (by decide) c9571
        refine lv_aload_n hx hb dX12_either_71 rfl (lv_at hl 1 rfl) ?_
        have t9573 : 0 ≤ (v9553 39).toInt ∧ (v9553 39).toInt ≤ 120 := hI.1 39 _ _ rfl
        have t9574 : 0 ≤ (v9553 41).toInt ∧ (v9553 41).toInt ≤ 8 := hI.1 41 _ _ rfl
        refine va_calli (va_runV (As := []) (rest := []) ⟨hx, hb, hml, hown, hwd⟩ (c_X12_opens l dC dI g c adK adV v9553 F9554 rc H.size  hg hI (by have h9 : v9553 39 = v9553 39 := rfl; (try rw [h9]); clear h9; have h9 : v9553 30 = v 30 := hf9555 30 (by decide); (try rw [h9]); clear h9; omega)) (cwV 0 hwd (gV wk_1025 wk_1022 wk_1023 wk_1024 wk_5) rfl rfl rfl (by decide +kernel) ⟨(by show 2 + 1 ≤ fr + 7; omega), (by show 8 + (1 + 11) + (80) ≤ lc + 280; omega)⟩) ⟨PM.blind, va_recv hK hP (ci := 12) (q0 := 0) rfl rfl, fun U hU hW => ⟨rfl, PM.at hK hE hP hS hU hW⟩⟩ rfl rfl hl.1 rfl (lv_room (Nat.le_of_ble_eq_true rfl)) dX12_either_72 ⟨Nat.le_of_ble_eq_true rfl, Nat.le_of_ble_eq_true rfl⟩) hS (fun q _ h => (freeM hS) q h) (freeM hS) (fun r9575 u t H1 locs ht hvm hw hB hz1 hk1 hS => ?_)
        unfold BM at hB
        rw [ht] at hB
        obtain ⟨v9576, F9577, rc9⟩ := u
        obtain ⟨hI, hrc, hf9578, hG9579, hw⟩ := hw
        dsimp only at hI hrc hB hf9578 hG9579 hw
        have hF := frCF (by decide) hG9579 hF
        rw [hrc] at hB
        have hP : va_P (dC, dI) classes (wM g c v9576 F9577 rc) H1 := hB
        replace hw : (r9575.toInt = 1 ∧ (v9553 41).toInt < 8 ∧ (v9576 41).toInt = (v9553 41).toInt + 1 ∧ (v9576 39).toInt = (v9553 39).toInt + 1 ∧ (v9576 40).toInt = (v9553 40).toInt) ∨ (r9575.toInt = 0 ∧ (v9553 41).toInt = 8 ∧ 0 ≤ (v9576 40).toInt ∧ (0 ≤ (v9553 40).toInt ∨ (v9576 40).toInt = (v9553 39).toInt) ∧  (v9576 41).toInt = (v9553 41).toInt ∧ (v9576 39).toInt = (v9553 39).toInt) := hw
        have hw_r9575 := hw
        clear hw
        have t9580 : 0 ≤ (v9576 39).toInt ∧ (v9576 39).toInt ≤ 120 := hI.1 39 _ _ rfl
        have t9581 : 0 ≤ (v9576 41).toInt ∧ (v9576 41).toInt ≤ 8 := hI.1 41 _ _ rfl
        clear hz1
        generalize H1 = H at hP hS ⊢
        replace hk : keepL (v 37) (F 28) (F 29) (F9577 28) (F9577 29) := by rw [hG9579 28 (by decide), hG9579 29 (by decide)]; exact hk
        replace hd : (v9576 40).toInt < 0 → dp (F9577 28) (F9577 29) (bI (v 37)) (v9553 38).toInt.toNat = some (d + 1) := fun hf => (by rw [hG9579 28 (by decide), hG9579 29 (by decide)]; exact hd (by omega))
        refine lv_if_ne (tgt := 79) hx hb dX12_either_75 (by decide) (fun c9582 => ?_) (fun c9582 => ?_)
        · skip
          have t9583 := cv_ne (a := r9575.toInt) rfl (b := 0) (by decide) c9582
          refine lv_aload_n hx hb dX12_either_79 rfl (lv_at hl 1 rfl) ?_
          have t9584 : 0 ≤ (v 30).toInt ∧ (v 30).toInt ≤ 120 := by have h9 := hI.1 30 _ _ rfl; rw [show v9576 30 = v 30 from (hf9578 30 (by decide)).trans (hf9555 30 (by decide))] at h9; exact h9
          have t9585 : 0 ≤ (v 37).toInt ∧ (v 37).toInt ≤ 9 := by have h9 := hI.1 37 _ _ rfl; rw [show v9576 37 = v 37 from (hf9578 37 (by decide)).trans (hf9555 37 (by decide))] at h9; exact h9
          have t9586 : 0 ≤ (v9553 38).toInt ∧ (v9553 38).toInt ≤ 120 := by have h9 := hI.1 38 _ _ rfl; rw [show v9576 38 = v9553 38 from hf9578 38 (by decide)] at h9; exact h9
          have t9587 : 0 ≤ (v9576 39).toInt ∧ (v9576 39).toInt ≤ 120 := hI.1 39 _ _ rfl
          have t9588 : 0 ≤ (v9576 41).toInt ∧ (v9576 41).toInt ≤ 8 := hI.1 41 _ _ rfl
          have hby24 : F9577 24 = F 24 := hF 24 (by decide)
          refine va_callv (va_runV (As := []) (rest := []) ⟨hx, hb, hml, hown, hwd⟩ (rE l dC dI g c adK adV v9576 F9577 rc H.size  (d + 1) hg hI (by have h9 : v9576 38 = v9553 38 := hf9578 38 (by decide); (try rw [h9]); clear h9; have h9 : v9576 39 = v9576 39 := rfl; (try rw [h9]); clear h9; have h9 : v9576 30 = v 30 := (hf9578 30 (by decide)).trans (hf9555 30 (by decide)); (try rw [h9]); clear h9; have h9 : v9576 40 = v9576 40 := rfl; (try rw [h9]); clear h9; have h9 : v9576 41 = v9576 41 := rfl; (try rw [h9]); clear h9; omega) (by have h9 : v9576 37 = (v 37) := (hf9578 37 (by decide)).trans (hf9555 37 (by decide)); have h8 : v9576 38 = (v9553 38) := hf9578 38 (by decide); (try rw [h9]); (try rw [h8]); exact hd (by omega))) (cwV 0 hwd (gV wk_1010 wk_1007 wk_1008 wk_1009 wk_5) rfl rfl rfl (by decide +kernel) ⟨(by show fr + 3 + 1 ≤ fr + 7; omega), (by show 8 + (2 + 11) + (lc + 120) ≤ lc + 280; omega)⟩) ⟨PM.blind, va_recv hK hP (ci := 12) (q0 := 0) rfl rfl, fun U hU hW => ⟨rfl, PM.at hK hE hP hS hU hW⟩⟩ rfl rfl hl.1 rfl (lv_room (Nat.le_of_ble_eq_true rfl)) dX12_either_80 ⟨Nat.le_of_ble_eq_true rfl, Nat.le_of_ble_eq_true rfl⟩) hS (fun q _ h => (freeM hS) q h) (freeM hS) (fun u t H1 locs ht hvm hw hB hz1 hk1 hS => ?_)
          unfold BM at hB
          rw [ht] at hB
          obtain ⟨v9590, F9591, rc9⟩ := u
          obtain ⟨hI, hrc, hf9592, hG9593, hw⟩ := hw
          dsimp only at hI hrc hB hf9592 hG9593 hw
          have hF := frCF (by decide) hG9593 hF
          rw [hrc] at hB
          have hP : va_P (dC, dI) classes (wM g c v9590 F9591 rc) H1 := hB
          replace hw : ((v9590 40).toInt ≤ (v9590 39).toInt ∧ (v9576 39).toInt ≤ (v9590 39).toInt ∧ (v9590 39).toInt ≤ (v9576 30).toInt ∧ (v9576 38).toInt ≤ (v9590 38).toInt ∧ (v9590 38).toInt - (v9576 38).toInt ≤ (v9590 39).toInt - (v9576 39).toInt ∧ (v9576 41).toInt ≤ (v9590 41).toInt ∧ ((v9590 40).toInt < 0 → (v9590 41).toInt = (v9576 41).toInt)) ∧ keepL (v9576 37) (F9577 28) (F9577 29) (F9591 28) (F9591 29) ∧ ((v9590 40).toInt < 0 → dp (F9591 28) (F9591 29) (bI (v9576 37)) (v9590 38).toInt.toNat = some ((d + 1) + 1)) ∧ rd false (v9576 30) (F9577 24) 6 (v9576 41).toInt (v9576 39).toInt (v9590 40).toInt (v9590 39).toInt := hw
          rw [show v9576 30 = v 30 from (hf9578 30 (by decide)).trans (hf9555 30 (by decide))] at hw
          rw [show v9576 38 = v9553 38 from hf9578 38 (by decide)] at hw
          rw [show v9576 37 = v 37 from (hf9578 37 (by decide)).trans (hf9555 37 (by decide))] at hw
          rw [hby24] at hw
          have hw_r9589 := hw
          clear hw
          have t9594 : 0 ≤ (v9590 38).toInt ∧ (v9590 38).toInt ≤ 120 := hI.1 38 _ _ rfl
          have t9595 : 0 ≤ (v9590 39).toInt ∧ (v9590 39).toInt ≤ 120 := hI.1 39 _ _ rfl
          have t9596 : 0 ≤ (v9590 41).toInt ∧ (v9590 41).toInt ≤ 8 := hI.1 41 _ _ rfl
          clear hz1
          generalize H1 = H at hP hS ⊢
          replace hk := hk.tr hw_r9589.2.1
          replace hd := hw_r9589.2.2.1
          have hrd_r9589 := hw_r9589.2.2.2
          replace hw_r9589 := hw_r9589.1
          refine lv_aload_n hx hb dX12_either_83 rfl (lv_at hl 1 rfl) ?_
          refine va_get (D := (dC, dI)) (ci := 12) (v := .int (v9590 40)) (C := RX12) (T := TX12) (N := 63) hx hb hwd inA_X12 hown hK hP 0 rfl rfl 40 (by decide) (hwd _ wk_1005) (fun _ h9 => h9) rfl dX12_either_84 ?_
          refine lv_if_lt (tgt := 91) hx hb dX12_either_87 (by decide) (fun c9597 => ?_) (fun c9597 => ?_)
          · skip
            have t9598 := cv_lt (a := (v9590 40).toInt) rfl (b := 0) (by decide) c9597
            refine lv_aload_n hx hb dX12_either_91 rfl (lv_at hl 1 rfl) ?_
            have t9599 : 0 ≤ (v 30).toInt ∧ (v 30).toInt ≤ 120 := by have h9 := hI.1 30 _ _ rfl; rw [show v9590 30 = v 30 from (hf9592 30 (by decide)).trans ((hf9578 30 (by decide)).trans (hf9555 30 (by decide)))] at h9; exact h9
            have t9600 : 0 ≤ (v9590 39).toInt ∧ (v9590 39).toInt ≤ 120 := hI.1 39 _ _ rfl
            have hby24 : F9591 24 = F 24 := hF 24 (by decide)
            refine va_calli (va_runV (As := []) (rest := []) ⟨hx, hb, hml, hown, hwd⟩ (c_X12_look l dC dI g c adK adV v9590 F9591 rc H.size  hg hI ) (cwV 0 hwd (gV wk_1017 wk_1014 wk_1015 wk_1016 wk_5) rfl rfl rfl (by decide +kernel) ⟨(by show 1 + 1 ≤ fr + 7; omega), (by show 8 + (1 + 11) + (40) ≤ lc + 280; omega)⟩) ⟨PM.blind, va_recv hK hP (ci := 12) (q0 := 0) rfl rfl, fun U hU hW => ⟨rfl, PM.at hK hE hP hS hU hW⟩⟩ rfl rfl hl.1 rfl (lv_room (Nat.le_of_ble_eq_true rfl)) dX12_either_92 ⟨Nat.le_of_ble_eq_true rfl, Nat.le_of_ble_eq_true rfl⟩) hS (fun q _ h => (freeM hS) q h) (freeM hS) (fun r9601 u t H1 locs ht hvm hw hB hz1 hk1 hS => ?_)
            unfold BM at hB
            rw [ht] at hB
            have hP : va_P (dC, dI) classes (wM g c v9590 F9591 rc) H1 := hB
            replace hw : r9601.toInt = sg (v9590 30) (F9591 24) (v9590 39).toInt ∧ ((v9590 39).toInt < (v9590 30).toInt ∨ r9601.toInt = -1) := hw
            rw [show v9590 30 = v 30 from (hf9592 30 (by decide)).trans ((hf9578 30 (by decide)).trans (hf9555 30 (by decide)))] at hw
            rw [hby24] at hw
            have hw_r9601 := hw
            clear hw
            clear hz1
            generalize H1 = H at hP hS ⊢
            refine lv_bipush (v := 58) hx hb dX12_either_95 (by decide) ?_
            refine lv_icmp_eq (tgt := 105) hx hb dX12_either_97 (by decide) (fun c9602 => ?_) (fun c9602 => ?_)
            · skip
              have t9603 := cv_eq (a := r9601.toInt) rfl (b := 58) (by decide) c9602
              refine lv_aload_n hx hb dX12_either_105 rfl (lv_at hl 1 rfl) ?_
              refine lv_dup hx hb dX12_either_106 rfl ?_
              refine va_get (D := (dC, dI)) (ci := 12) (v := .int (v9590 39)) (C := RX12) (T := TX12) (N := 63) hx hb hwd inA_X12 hown hK hP 0 rfl rfl 39 (by decide) (hwd _ wk_1004) (fun _ h9 => h9) rfl dX12_either_107 ?_
              have t9604 : 0 ≤ (v9590 39).toInt ∧ (v9590 39).toInt ≤ 120 := hI.1 39 _ _ rfl
              refine lv_iconst (v := 1) hx hb dX12_either_110 (by decide) ?_
              refine lv_iadd hx hb dX12_either_111 ?_
              refine lv_topi (fun z9605 e9606 => ?_)
              try (have t9607 := tadd e9606 (a := (v9590 39).toInt) rfl (b := 1) (by decide) (by omega))
              refine va_put (D := (dC, dI)) (ci := 12) (v := .int z9605) (ty := .int) (C := RX12) (T := TX12) (N := 63) (fs := fsM_0 g v9590 rc) hx hb hwd inA_X12 tyX12 tyX12_ok nmX12 hown hK hP (DM hg) hS 0 rfl rfl 39 (by decide) (hwd _ wk_1004) (fun _ h9 => h9) rfl (by decide +kernel) rfl rfl (Nat.le_of_ble_eq_true rfl) dX12_either_112 (fun H locs hP _ hS => ?_)
              have hP := va_P_eq (pM_39 g c _ _ _ _) hP
              have hI := IM.put hI 39 z9605 rfl (by omega)
              refine lv_aload_n hx hb dX12_either_115 rfl (lv_at hl 1 rfl) ?_
              have t9608 : 0 ≤ (v 30).toInt ∧ (v 30).toInt ≤ 120 := by have h9 := hI.1 30 _ _ rfl; rw [show (va_up v9590 39 z9605) 30 = v 30 from (hf9592 30 (by decide)).trans ((hf9578 30 (by decide)).trans (hf9555 30 (by decide)))] at h9; exact h9
              have t9609 : 0 ≤ (v 37).toInt ∧ (v 37).toInt ≤ 9 := by have h9 := hI.1 37 _ _ rfl; rw [show (va_up v9590 39 z9605) 37 = v 37 from (hf9592 37 (by decide)).trans ((hf9578 37 (by decide)).trans (hf9555 37 (by decide)))] at h9; exact h9
              have t9610 : 0 ≤ (v9590 38).toInt ∧ (v9590 38).toInt ≤ 120 := hI.1 38 _ _ rfl
              have t9611 : 0 ≤ z9605.toInt ∧ z9605.toInt ≤ 120 := hI.1 39 _ _ rfl
              have t9612 : 0 ≤ (v9590 41).toInt ∧ (v9590 41).toInt ≤ 8 := hI.1 41 _ _ rfl
              have hby24 : F9591 24 = F 24 := hF 24 (by decide)
              refine va_callv (va_runV (As := []) (rest := []) ⟨hx, hb, hml, hown, hwd⟩ (rE l dC dI g c adK adV (va_up v9590 39 z9605) F9591 rc H.size  ((d + 1) + 1) hg hI (by have h9 : (va_up v9590 39 z9605) 38 = v9590 38 := rfl; (try rw [h9]); clear h9; have h9 : (va_up v9590 39 z9605) 39 = z9605 := rfl; (try rw [h9]); clear h9; have h9 : (va_up v9590 39 z9605) 30 = v 30 := (hf9592 30 (by decide)).trans ((hf9578 30 (by decide)).trans (hf9555 30 (by decide))); (try rw [h9]); clear h9; have h9 : (va_up v9590 39 z9605) 40 = v9590 40 := rfl; (try rw [h9]); clear h9; have h9 : (va_up v9590 39 z9605) 41 = v9590 41 := rfl; (try rw [h9]); clear h9; omega) (by have h9 : (va_up v9590 39 z9605) 37 = (v 37) := (hf9592 37 (by decide)).trans ((hf9578 37 (by decide)).trans (hf9555 37 (by decide))); have h8 : (va_up v9590 39 z9605) 38 = (v9590 38) := rfl; (try rw [h9]); (try rw [h8]); exact hd (by omega))) (cwV 0 hwd (gV wk_1010 wk_1007 wk_1008 wk_1009 wk_5) rfl rfl rfl (by decide +kernel) ⟨(by show fr + 3 + 1 ≤ fr + 7; omega), (by show 8 + (2 + 11) + (lc + 120) ≤ lc + 280; omega)⟩) ⟨PM.blind, va_recv hK hP (ci := 12) (q0 := 0) rfl rfl, fun U hU hW => ⟨rfl, PM.at hK hE hP hS hU hW⟩⟩ rfl rfl hl.1 rfl (lv_room (Nat.le_of_ble_eq_true rfl)) dX12_either_116 ⟨Nat.le_of_ble_eq_true rfl, Nat.le_of_ble_eq_true rfl⟩) hS (fun q _ h => (freeM hS) q h) (freeM hS) (fun u t H1 locs ht hvm hw hB hz1 hk1 hS => ?_)
              unfold BM at hB
              rw [ht] at hB
              obtain ⟨v9614, F9615, rc9⟩ := u
              obtain ⟨hI, hrc, hf9616, hG9617, hw⟩ := hw
              dsimp only at hI hrc hB hf9616 hG9617 hw
              have hF := frCF (by decide) hG9617 hF
              rw [hrc] at hB
              have hP : va_P (dC, dI) classes (wM g c v9614 F9615 rc) H1 := hB
              replace hw : ((v9614 40).toInt ≤ (v9614 39).toInt ∧ z9605.toInt ≤ (v9614 39).toInt ∧ (v9614 39).toInt ≤ ((va_up v9590 39 z9605) 30).toInt ∧ (v9590 38).toInt ≤ (v9614 38).toInt ∧ (v9614 38).toInt - (v9590 38).toInt ≤ (v9614 39).toInt - z9605.toInt ∧ (v9590 41).toInt ≤ (v9614 41).toInt ∧ ((v9614 40).toInt < 0 → (v9614 41).toInt = (v9590 41).toInt)) ∧ keepL ((va_up v9590 39 z9605) 37) (F9591 28) (F9591 29) (F9615 28) (F9615 29) ∧ ((v9614 40).toInt < 0 → dp (F9615 28) (F9615 29) (bI ((va_up v9590 39 z9605) 37)) (v9614 38).toInt.toNat = some (((d + 1) + 1) + 1)) ∧ rd false ((va_up v9590 39 z9605) 30) (F9591 24) 6 (v9590 41).toInt z9605.toInt (v9614 40).toInt (v9614 39).toInt := hw
              rw [show (va_up v9590 39 z9605) 30 = v 30 from (hf9592 30 (by decide)).trans ((hf9578 30 (by decide)).trans (hf9555 30 (by decide)))] at hw
              rw [show (va_up v9590 39 z9605) 37 = v 37 from (hf9592 37 (by decide)).trans ((hf9578 37 (by decide)).trans (hf9555 37 (by decide)))] at hw
              rw [hby24] at hw
              have hw_r9613 := hw
              clear hw
              have t9618 : 0 ≤ (v9614 38).toInt ∧ (v9614 38).toInt ≤ 120 := hI.1 38 _ _ rfl
              have t9619 : 0 ≤ (v9614 39).toInt ∧ (v9614 39).toInt ≤ 120 := hI.1 39 _ _ rfl
              have t9620 : 0 ≤ (v9614 41).toInt ∧ (v9614 41).toInt ≤ 8 := hI.1 41 _ _ rfl
              clear hz1
              generalize H1 = H at hP hS ⊢
              replace hk := hk.tr hw_r9613.2.1
              replace hd := hw_r9613.2.2.1
              have hrd_r9613 := hw_r9613.2.2.2
              replace hw_r9613 := hw_r9613.1
              refine lv_aload_n hx hb dX12_either_119 rfl (lv_at hl 1 rfl) ?_
              refine lv_iconst (v := 4) hx hb dX12_either_120 (by decide) ?_
              refine lv_iconst (v := 0) hx hb dX12_either_121 (by decide) ?_
              have t9621 : 0 ≤ (v 37).toInt ∧ (v 37).toInt ≤ 9 := by have h9 := hI.1 37 _ _ rfl; rw [show v9614 37 = v 37 from (hf9616 37 (by decide)).trans ((hf9592 37 (by decide)).trans ((hf9578 37 (by decide)).trans (hf9555 37 (by decide))))] at h9; exact h9
              have t9622 : 0 ≤ (v9614 38).toInt ∧ (v9614 38).toInt ≤ 120 := hI.1 38 _ _ rfl
              refine va_callv (va_runV (As := [.int 4, .int 0]) (rest := []) ⟨hx, hb, hml, hown, hwd⟩ (c_X12_lay l dC dI g c adK adV v9614 F9615 rc H.size 4 0 hg hI (by have h9 : v9614 38 = v9614 38 := rfl; rw [h9]; omega)) (cwV 2 hwd (gV wk_1021 wk_1018 wk_1019 wk_1020 wk_5) rfl rfl rfl (by decide +kernel) ⟨(by show 1 + 1 ≤ fr + 7; omega), (by show 8 + (3 + 11) + (40) ≤ lc + 280; omega)⟩) ⟨PM.blind, va_recv hK hP (ci := 12) (q0 := 0) rfl rfl, fun U hU hW => ⟨rfl, PM.at hK hE hP hS hU hW⟩⟩ rfl rfl hl.1 rfl (lv_room (Nat.le_of_ble_eq_true rfl)) dX12_either_122 ⟨Nat.le_of_ble_eq_true rfl, Nat.le_of_ble_eq_true rfl⟩) hS (fun q _ h => (freeM hS) q h) (freeM hS) (fun u t H1 locs ht hvm hw hB hz1 hk1 hS => ?_)
              unfold BM at hB
              rw [ht] at hB
              obtain ⟨v9624, F9625, rc9⟩ := u
              obtain ⟨hI, hrc, hf9626, hG9627, hw⟩ := hw
              dsimp only at hI hrc hB hf9626 hG9627 hw
              have hF := frCF (by decide) hG9627 hF
              rw [hrc] at hB
              have hP : va_P (dC, dI) classes (wM g c v9624 F9625 rc) H1 := hB
              replace hw : (v9624 38).toInt = (v9614 38).toInt + 1 ∧ keepL (v9614 37) (F9615 28) (F9615 29) (F9625 28) (F9625 29) ∧ dp (F9625 28) (F9625 29) (bI (v9614 37)) ((v9614 38).toInt.toNat + 1) = dpS (dp (F9615 28) (F9615 29) (bI (v9614 37)) (v9614 38).toInt.toNat) (4 : Int32) (0 : Int32) := hw
              rw [show v9614 37 = v 37 from (hf9616 37 (by decide)).trans ((hf9592 37 (by decide)).trans ((hf9578 37 (by decide)).trans (hf9555 37 (by decide))))] at hw
              have hw_r9623 := hw
              clear hw
              have t9628 : 0 ≤ (v9624 38).toInt ∧ (v9624 38).toInt ≤ 120 := hI.1 38 _ _ rfl
              have k9629 : (4 : Int32).toInt = 4 := by decide
              have k9630 : (0 : Int32).toInt = 0 := by decide
              clear hz1
              generalize H1 = H at hP hS ⊢
              replace hk := hk.tr hw_r9623.2.1
              replace hd : (v9614 40).toInt < 0 → dp (F9625 28) (F9625 29) (bI (v 37)) (v9624 38).toInt.toNat = some ((((d + 1) + 1) + 1) - 2) := fun hf => (by have e9 : (v9624 38).toInt.toNat = (v9614 38).toInt.toNat + 1 := (by omega); rw [e9, hw_r9623.2.2, hd hf]; exact dpS_4 (by decide) (by omega))
              replace hw_r9623 := hw_r9623.1
              refine lv_aload_n hx hb dX12_either_125 rfl (lv_at hl 1 rfl) ?_
              refine lv_dup hx hb dX12_either_126 rfl ?_
              refine va_get (D := (dC, dI)) (ci := 12) (v := .int (v9624 41)) (C := RX12) (T := TX12) (N := 63) hx hb hwd inA_X12 hown hK hP 0 rfl rfl 41 (by decide) (hwd _ wk_1006) (fun _ h9 => h9) rfl dX12_either_127 ?_
              refine my_top (v := v9614 41) (hf9626 41 (by decide)) ?_
              have t9631 : 0 ≤ (v9614 41).toInt ∧ (v9614 41).toInt ≤ 8 := by have h9 := hI.1 41 _ _ rfl; rw [show v9624 41 = v9614 41 from hf9626 41 (by decide)] at h9; exact h9
              refine lv_iconst (v := 1) hx hb dX12_either_130 (by decide) ?_
              refine lv_isub hx hb dX12_either_131 ?_
              refine lv_topi (fun z9632 e9633 => ?_)
              try (have t9634 := tsub e9633 (a := (v9614 41).toInt) rfl (b := 1) (by decide) (by omega))
              refine va_put (D := (dC, dI)) (ci := 12) (v := .int z9632) (ty := .int) (C := RX12) (T := TX12) (N := 63) (fs := fsM_0 g v9624 rc) hx hb hwd inA_X12 tyX12 tyX12_ok nmX12 hown hK hP (DM hg) hS 0 rfl rfl 41 (by decide) (hwd _ wk_1006) (fun _ h9 => h9) rfl (by decide +kernel) rfl rfl (Nat.le_of_ble_eq_true rfl) dX12_either_132 (fun H locs hP _ hS => ?_)
              have hP := va_P_eq (pM_41 g c _ _ _ _) hP
              have hI := IM.put hI 41 z9632 rfl (by omega)
              have hP9 : va_P (dC, dI) classes (wM g c (va_up v9624 41 z9632) F9625 rc) H := hP
              exact W.vret hx hb hr (fun t ht hW => ⟨⟨((va_up v9624 41 z9632), F9625, rc), rfl, ⟨hI, rfl, (frU (by decide) (frC (by decide) hf9626 (frC (by decide) hf9616 (frU (by decide) (frC (by decide) hf9592 (frC (by decide) hf9578 (frC (by decide) hf9555 (fun _ _ => rfl)))))))), hF, (by show (((va_up v9624 41 z9632) 40).toInt ≤ ((va_up v9624 41 z9632) 39).toInt ∧ (v 39).toInt ≤ ((va_up v9624 41 z9632) 39).toInt ∧ ((va_up v9624 41 z9632) 39).toInt ≤ (v 30).toInt ∧ (v 38).toInt ≤ (v9624 38).toInt ∧ (v9624 38).toInt - (v 38).toInt ≤ ((va_up v9624 41 z9632) 39).toInt - (v 39).toInt ∧ (v 41).toInt ≤ z9632.toInt ∧ (((va_up v9624 41 z9632) 40).toInt < 0 → z9632.toInt = (v 41).toInt)) ∧ keepL (v 37) (F 28) (F 29) (F9625 28) (F9625 29) ∧ (((va_up v9624 41 z9632) 40).toInt < 0 → dp (F9625 28) (F9625 29) (bI (v 37)) (v9624 38).toInt.toNat = some (d + 1)) ∧ rd false (v 30) (F 24) 6 (v 41).toInt (v 39).toInt ((va_up v9624 41 z9632) 40).toInt ((va_up v9624 41 z9632) 39).toInt; rw [show (va_up v9624 41 z9632) 40 = v9614 40 from hf9626 40 (by decide)]; rw [show (va_up v9624 41 z9632) 39 = v9614 39 from hf9626 39 (by decide)]; exact ⟨by omega, hk, fun hf => (hd (by omega)).trans (congrArg some (by omega)), rd.eX (f2 := -1) (rd.c0 (hrd_r9552.cast (by omega) rfl rfl rfl) (fun q9 => by omega)) (by omega) (by omega) (by omega) (by omega) (by omega) hrd_r9589 (by omega) (by omega) (fun _ _ => hrd_r9613)⟩)⟩, (by show va_P _ _ _ t.heap; rw [ht]; exact hP9)⟩, hS.F ht⟩) hS.2.2 dX12_either_135
            · skip
              have t9635 := cv_ne (a := r9601.toInt) rfl (b := 58) (by decide) c9602
              refine lv_aload_n hx hb dX12_either_100 rfl (lv_at hl 1 rfl) ?_
              have t9636 : 0 ≤ (v9590 39).toInt ∧ (v9590 39).toInt ≤ 120 := hI.1 39 _ _ rfl
              refine va_callv (va_runV (As := []) (rest := []) ⟨hx, hb, hml, hown, hwd⟩ (c_X12_wrong l dC dI g c adK adV v9590 F9591 rc H.size  hg hI ) (cwV 0 hwd (gV wk_1029 wk_1026 wk_1027 wk_1028 wk_5) rfl rfl rfl (by decide +kernel) ⟨(by show 1 + 1 ≤ fr + 7; omega), (by show 8 + (1 + 11) + (40) ≤ lc + 280; omega)⟩) ⟨PM.blind, va_recv hK hP (ci := 12) (q0 := 0) rfl rfl, fun U hU hW => ⟨rfl, PM.at hK hE hP hS hU hW⟩⟩ rfl rfl hl.1 rfl (lv_room (Nat.le_of_ble_eq_true rfl)) dX12_either_101 ⟨Nat.le_of_ble_eq_true rfl, Nat.le_of_ble_eq_true rfl⟩) hS (fun q _ h => (freeM hS) q h) (freeM hS) (fun u t H1 locs ht hvm hw hB hz1 hk1 hS => ?_)
              unfold BM at hB
              rw [ht] at hB
              obtain ⟨v9638, F9639, rc9⟩ := u
              obtain ⟨hI, hrc, hf9640, hG9641, hw⟩ := hw
              dsimp only at hI hrc hB hf9640 hG9641 hw
              have hF := frCF (by decide) hG9641 hF
              rw [hrc] at hB
              have hP : va_P (dC, dI) classes (wM g c v9638 F9639 rc) H1 := hB
              replace hw : ((v9590 40).toInt < 0 ∧ (v9638 40).toInt = (v9590 39).toInt) ∨ (0 ≤ (v9590 40).toInt ∧ (v9638 40).toInt = (v9590 40).toInt) := hw
              have hw_r9637 := hw
              clear hw
              clear hz1
              generalize H1 = H at hP hS ⊢
              replace hk : keepL (v 37) (F 28) (F 29) (F9639 28) (F9639 29) := by rw [hG9641 28 (by decide), hG9641 29 (by decide)]; exact hk
              replace hd : (v9638 40).toInt < 0 → dp (F9639 28) (F9639 29) (bI (v 37)) (v9590 38).toInt.toNat = some ((d + 1) + 1) := fun hf => (by rw [hG9641 28 (by decide), hG9641 29 (by decide)]; exact hd (by omega))
              have hP9 : va_P (dC, dI) classes (wM g c v9638 F9639 rc) H := hP
              exact W.vret hx hb hr (fun t ht hW => ⟨⟨(v9638, F9639, rc), rfl, ⟨hI, rfl, (frC (by decide) hf9640 (frC (by decide) hf9592 (frC (by decide) hf9578 (frC (by decide) hf9555 (fun _ _ => rfl))))), hF, (by show ((v9638 40).toInt ≤ (v9638 39).toInt ∧ (v 39).toInt ≤ (v9638 39).toInt ∧ (v9638 39).toInt ≤ (v 30).toInt ∧ (v 38).toInt ≤ (v9638 38).toInt ∧ (v9638 38).toInt - (v 38).toInt ≤ (v9638 39).toInt - (v 39).toInt ∧ (v 41).toInt ≤ (v9638 41).toInt ∧ ((v9638 40).toInt < 0 → (v9638 41).toInt = (v 41).toInt)) ∧ keepL (v 37) (F 28) (F 29) (F9639 28) (F9639 29) ∧ ((v9638 40).toInt < 0 → dp (F9639 28) (F9639 29) (bI (v 37)) (v9638 38).toInt.toNat = some (d + 1)) ∧ rd false (v 30) (F 24) 6 (v 41).toInt (v 39).toInt (v9638 40).toInt (v9638 39).toInt; rw [show v9638 39 = v9590 39 from hf9640 39 (by decide)]; rw [show v9638 38 = v9590 38 from hf9640 38 (by decide)]; rw [show v9638 41 = v9590 41 from hf9640 41 (by decide)]; exact ⟨by omega, hk, fun hf => (hd (by omega)).trans (congrArg some (by omega)), rd.eX (f2 := 0) (g2 := 0) (rd.c0 (hrd_r9552.cast (by omega) rfl rfl rfl) (fun q9 => by omega)) (by omega) (by omega) (by omega) (by omega) (by omega) hrd_r9589 (by omega) (d2 := (v 41).toInt + 1) rfl (fun q9 => absurd q9 (by decide))⟩)⟩, (by show va_P _ _ _ t.heap; rw [ht]; exact hP9)⟩, hS.F ht⟩) hS.2.2 dX12_either_104
          · skip
            have t9642 := cv_nlt (a := (v9590 40).toInt) rfl (b := 0) (by decide) c9597
            have hP9 : va_P (dC, dI) classes (wM g c v9590 F9591 rc) H := hP
            exact W.vret hx hb hr (fun t ht hW => ⟨⟨(v9590, F9591, rc), rfl, ⟨hI, rfl, (frC (by decide) hf9592 (frC (by decide) hf9578 (frC (by decide) hf9555 (fun _ _ => rfl)))), hF, (by show ((v9590 40).toInt ≤ (v9590 39).toInt ∧ (v 39).toInt ≤ (v9590 39).toInt ∧ (v9590 39).toInt ≤ (v 30).toInt ∧ (v 38).toInt ≤ (v9590 38).toInt ∧ (v9590 38).toInt - (v 38).toInt ≤ (v9590 39).toInt - (v 39).toInt ∧ (v 41).toInt ≤ (v9590 41).toInt ∧ ((v9590 40).toInt < 0 → (v9590 41).toInt = (v 41).toInt)) ∧ keepL (v 37) (F 28) (F 29) (F9591 28) (F9591 29) ∧ ((v9590 40).toInt < 0 → dp (F9591 28) (F9591 29) (bI (v 37)) (v9590 38).toInt.toNat = some (d + 1)) ∧ rd false (v 30) (F 24) 6 (v 41).toInt (v 39).toInt (v9590 40).toInt (v9590 39).toInt; exact ⟨by omega, hk, fun hf => (hd (by omega)).trans (congrArg some (by omega)), rd.eX (f2 := 0) (g2 := 0) (rd.c0 (hrd_r9552.cast (by omega) rfl rfl rfl) (fun q9 => by omega)) (by omega) (by omega) (by omega) (by omega) (by omega) hrd_r9589 (by omega) (d2 := (v 41).toInt + 1) rfl (fun q9 => absurd q9 (by decide))⟩)⟩, (by show va_P _ _ _ t.heap; rw [ht]; exact hP9)⟩, hS.F ht⟩) hS.2.2 dX12_either_90
        · skip
          have t9643 := cv_eq (a := r9575.toInt) rfl (b := 0) (by decide) c9582
          have hP9 : va_P (dC, dI) classes (wM g c v9576 F9577 rc) H := hP
          exact W.vret hx hb hr (fun t ht hW => ⟨⟨(v9576, F9577, rc), rfl, ⟨hI, rfl, (frC (by decide) hf9578 (frC (by decide) hf9555 (fun _ _ => rfl))), hF, (by show ((v9576 40).toInt ≤ (v9576 39).toInt ∧ (v 39).toInt ≤ (v9576 39).toInt ∧ (v9576 39).toInt ≤ (v 30).toInt ∧ (v 38).toInt ≤ (v9576 38).toInt ∧ (v9576 38).toInt - (v 38).toInt ≤ (v9576 39).toInt - (v 39).toInt ∧ (v 41).toInt ≤ (v9576 41).toInt ∧ ((v9576 40).toInt < 0 → (v9576 41).toInt = (v 41).toInt)) ∧ keepL (v 37) (F 28) (F 29) (F9577 28) (F9577 29) ∧ ((v9576 40).toInt < 0 → dp (F9577 28) (F9577 29) (bI (v 37)) (v9576 38).toInt.toNat = some (d + 1)) ∧ rd false (v 30) (F 24) 6 (v 41).toInt (v 39).toInt (v9576 40).toInt (v9576 39).toInt; rw [show v9576 38 = v9553 38 from hf9578 38 (by decide)]; exact ⟨by omega, hk, fun hf => (hd (by omega)).trans (congrArg some (by omega)), rd.eD (rd.c0 (hrd_r9552.cast (by omega) rfl rfl rfl) (fun q9 => by omega)) (by omega) (by omega) (by omega) (by omega) (by omega)⟩)⟩, (by show va_P _ _ _ t.heap; rw [ht]; exact hP9)⟩, hS.F ht⟩) hS.2.2 dX12_either_78
      · skip
        have t9644 := cv_ne (a := r9570.toInt) rfl (b := 63) (by decide) c9571
        have hP9 : va_P (dC, dI) classes (wM g c v9553 F9554 rc) H := hP
        exact W.vret hx hb hr (fun t ht hW => ⟨⟨(v9553, F9554, rc), rfl, ⟨hI, rfl, (frC (by decide) hf9555 (fun _ _ => rfl)), hF, (by show ((v9553 40).toInt ≤ (v9553 39).toInt ∧ (v 39).toInt ≤ (v9553 39).toInt ∧ (v9553 39).toInt ≤ (v 30).toInt ∧ (v 38).toInt ≤ (v9553 38).toInt ∧ (v9553 38).toInt - (v 38).toInt ≤ (v9553 39).toInt - (v 39).toInt ∧ (v 41).toInt ≤ (v9553 41).toInt ∧ ((v9553 40).toInt < 0 → (v9553 41).toInt = (v 41).toInt)) ∧ keepL (v 37) (F 28) (F 29) (F9554 28) (F9554 29) ∧ ((v9553 40).toInt < 0 → dp (F9554 28) (F9554 29) (bI (v 37)) (v9553 38).toInt.toNat = some (d + 1)) ∧ rd false (v 30) (F 24) 6 (v 41).toInt (v 39).toInt (v9553 40).toInt (v9553 39).toInt; exact ⟨by omega, hk, fun hf => (hd (by omega)).trans (congrArg some (by omega)), rd.e0 (rd.c0 (hrd_r9552.cast (by omega) rfl rfl rfl) (fun q9 => by omega)) (fun q9 => by omega)⟩)⟩, (by show va_P _ _ _ t.heap; rw [ht]; exact hP9)⟩, hS.F ht⟩) hS.2.2 dX12_either_70
  · skip
    have t9645 := cv_nle (a := 0) (by decide) (b := (v9553 40).toInt) rfl c9563
    refine lv_iload_n hx hb dX12_either_16 rfl (lv_at hl 0 rfl) ?_
    refine lv_bipush (v := 60) hx hb dX12_either_17 (by decide) ?_
    refine lv_icmp_eq (tgt := 34) hx hb dX12_either_19 (by decide) (fun c9646 => ?_) (fun c9646 => ?_)
    · skip
      have t9647 := cv_eq (a := r9562.toInt) rfl (b := 60) (by decide) c9646
      refine lv_aload_n hx hb dX12_either_34 rfl (lv_at hl 1 rfl) ?_
      refine lv_dup hx hb dX12_either_35 rfl ?_
      refine va_get (D := (dC, dI)) (ci := 12) (v := .int (v9553 39)) (C := RX12) (T := TX12) (N := 63) hx hb hwd inA_X12 hown hK hP 0 rfl rfl 39 (by decide) (hwd _ wk_1004) (fun _ h9 => h9) rfl dX12_either_36 ?_
      have t9648 : 0 ≤ (v9553 39).toInt ∧ (v9553 39).toInt ≤ 120 := hI.1 39 _ _ rfl
      refine lv_iconst (v := 1) hx hb dX12_either_39 (by decide) ?_
      refine lv_iadd hx hb dX12_either_40 ?_
      refine lv_topi (fun z9649 e9650 => ?_)
      try (have t9651 := tadd e9650 (a := (v9553 39).toInt) rfl (b := 1) (by decide) (by omega))
      refine va_put (D := (dC, dI)) (ci := 12) (v := .int z9649) (ty := .int) (C := RX12) (T := TX12) (N := 63) (fs := fsM_0 g v9553 rc) hx hb hwd inA_X12 tyX12 tyX12_ok nmX12 hown hK hP (DM hg) hS 0 rfl rfl 39 (by decide) (hwd _ wk_1004) (fun _ h9 => h9) rfl (by decide +kernel) rfl rfl (Nat.le_of_ble_eq_true rfl) dX12_either_41 (fun H locs hP _ hS => ?_)
      have hP := va_P_eq (pM_39 g c _ _ _ _) hP
      have hI := IM.put hI 39 z9649 rfl (by omega)
      refine lv_aload_n hx hb dX12_either_44 rfl (lv_at hl 1 rfl) ?_
      have t9652 : 0 ≤ (v 30).toInt ∧ (v 30).toInt ≤ 120 := by have h9 := hI.1 30 _ _ rfl; rw [show (va_up v9553 39 z9649) 30 = v 30 from hf9555 30 (by decide)] at h9; exact h9
      have t9653 : 0 ≤ (v 37).toInt ∧ (v 37).toInt ≤ 9 := by have h9 := hI.1 37 _ _ rfl; rw [show (va_up v9553 39 z9649) 37 = v 37 from hf9555 37 (by decide)] at h9; exact h9
      have t9654 : 0 ≤ (v9553 38).toInt ∧ (v9553 38).toInt ≤ 120 := hI.1 38 _ _ rfl
      have t9655 : 0 ≤ z9649.toInt ∧ z9649.toInt ≤ 120 := hI.1 39 _ _ rfl
      have t9656 : 0 ≤ (v9553 41).toInt ∧ (v9553 41).toInt ≤ 8 := hI.1 41 _ _ rfl
      have hby24 : F9554 24 = F 24 := hF 24 (by decide)
      refine va_callv (va_runV (As := []) (rest := []) ⟨hx, hb, hml, hown, hwd⟩ (c_X12_sum D fr lc rO rE l dC dI g c adK adV (va_up v9553 39 z9649) F9554 rc H.size  (d + 1) hg hI (by have h9 : (va_up v9553 39 z9649) 38 = v9553 38 := rfl; (try rw [h9]); clear h9; have h9 : (va_up v9553 39 z9649) 39 = z9649 := rfl; (try rw [h9]); clear h9; have h9 : (va_up v9553 39 z9649) 30 = v 30 := hf9555 30 (by decide); (try rw [h9]); clear h9; have h9 : (va_up v9553 39 z9649) 40 = v9553 40 := rfl; (try rw [h9]); clear h9; have h9 : (va_up v9553 39 z9649) 41 = v9553 41 := rfl; (try rw [h9]); clear h9; omega) (by have h9 : (va_up v9553 39 z9649) 37 = (v 37) := hf9555 37 (by decide); have h8 : (va_up v9553 39 z9649) 38 = (v9553 38) := rfl; (try rw [h9]); (try rw [h8]); exact hd (by omega))) (cwV 0 hwd (gV wk_1043 wk_1011 wk_1012 wk_1013 wk_5) rfl rfl rfl (by decide +kernel) ⟨(by show fr + 6 + 1 ≤ fr + 7; omega), (by show 8 + (2 + 11) + (lc + 240) ≤ lc + 280; omega)⟩) ⟨PM.blind, va_recv hK hP (ci := 12) (q0 := 0) rfl rfl, fun U hU hW => ⟨rfl, PM.at hK hE hP hS hU hW⟩⟩ rfl rfl hl.1 rfl (lv_room (Nat.le_of_ble_eq_true rfl)) dX12_either_45 ⟨Nat.le_of_ble_eq_true rfl, Nat.le_of_ble_eq_true rfl⟩) hS (fun q _ h => (freeM hS) q h) (freeM hS) (fun u t H1 locs ht hvm hw hB hz1 hk1 hS => ?_)
      unfold BM at hB
      rw [ht] at hB
      obtain ⟨v9658, F9659, rc9⟩ := u
      obtain ⟨hI, hrc, hf9660, hG9661, hw⟩ := hw
      dsimp only at hI hrc hB hf9660 hG9661 hw
      have hF := frCF (by decide) hG9661 hF
      rw [hrc] at hB
      have hP : va_P (dC, dI) classes (wM g c v9658 F9659 rc) H1 := hB
      replace hw : ((v9658 40).toInt ≤ (v9658 39).toInt ∧ z9649.toInt ≤ (v9658 39).toInt ∧ (v9658 39).toInt ≤ ((va_up v9553 39 z9649) 30).toInt ∧ (v9553 38).toInt ≤ (v9658 38).toInt ∧ (v9658 38).toInt - (v9553 38).toInt ≤ (v9658 39).toInt - z9649.toInt ∧ (v9553 41).toInt ≤ (v9658 41).toInt ∧ ((v9658 40).toInt < 0 → (v9658 41).toInt = (v9553 41).toInt)) ∧ keepL ((va_up v9553 39 z9649) 37) (F9554 28) (F9554 29) (F9659 28) (F9659 29) ∧ ((v9658 40).toInt < 0 → dp (F9659 28) (F9659 29) (bI ((va_up v9553 39 z9649) 37)) (v9658 38).toInt.toNat = some ((d + 1) + 1)) ∧ rd false ((va_up v9553 39 z9649) 30) (F9554 24) 3 (v9553 41).toInt z9649.toInt (v9658 40).toInt (v9658 39).toInt := hw
      rw [show (va_up v9553 39 z9649) 30 = v 30 from hf9555 30 (by decide)] at hw
      rw [show (va_up v9553 39 z9649) 37 = v 37 from hf9555 37 (by decide)] at hw
      rw [hby24] at hw
      have hw_r9657 := hw
      clear hw
      have t9662 : 0 ≤ (v9658 38).toInt ∧ (v9658 38).toInt ≤ 120 := hI.1 38 _ _ rfl
      have t9663 : 0 ≤ (v9658 39).toInt ∧ (v9658 39).toInt ≤ 120 := hI.1 39 _ _ rfl
      have t9664 : 0 ≤ (v9658 41).toInt ∧ (v9658 41).toInt ≤ 8 := hI.1 41 _ _ rfl
      clear hz1
      generalize H1 = H at hP hS ⊢
      replace hk := hk.tr hw_r9657.2.1
      replace hd := hw_r9657.2.2.1
      have hrd_r9657 := hw_r9657.2.2.2
      replace hw_r9657 := hw_r9657.1
      refine lv_aload_n hx hb dX12_either_48 rfl (lv_at hl 1 rfl) ?_
      refine lv_iload_n hx hb dX12_either_49 rfl (lv_at hl 0 rfl) ?_
      refine lv_iconst (v := 0) hx hb dX12_either_50 (by decide) ?_
      have t9665 : 0 ≤ (v 37).toInt ∧ (v 37).toInt ≤ 9 := by have h9 := hI.1 37 _ _ rfl; rw [show v9658 37 = v 37 from (hf9660 37 (by decide)).trans (hf9555 37 (by decide))] at h9; exact h9
      have t9666 : 0 ≤ (v9658 38).toInt ∧ (v9658 38).toInt ≤ 120 := hI.1 38 _ _ rfl
      refine va_callv (va_runV (As := [.int r9562, .int 0]) (rest := []) ⟨hx, hb, hml, hown, hwd⟩ (c_X12_lay l dC dI g c adK adV v9658 F9659 rc H.size r9562 0 hg hI (by have h9 : v9658 38 = v9658 38 := rfl; rw [h9]; omega)) (cwV 2 hwd (gV wk_1021 wk_1018 wk_1019 wk_1020 wk_5) rfl rfl rfl (by decide +kernel) ⟨(by show 1 + 1 ≤ fr + 7; omega), (by show 8 + (3 + 11) + (40) ≤ lc + 280; omega)⟩) ⟨PM.blind, va_recv hK hP (ci := 12) (q0 := 0) rfl rfl, fun U hU hW => ⟨rfl, PM.at hK hE hP hS hU hW⟩⟩ rfl rfl hl.1 rfl (lv_room (Nat.le_of_ble_eq_true rfl)) dX12_either_51 ⟨Nat.le_of_ble_eq_true rfl, Nat.le_of_ble_eq_true rfl⟩) hS (fun q _ h => (freeM hS) q h) (freeM hS) (fun u t H1 locs ht hvm hw hB hz1 hk1 hS => ?_)
      unfold BM at hB
      rw [ht] at hB
      obtain ⟨v9668, F9669, rc9⟩ := u
      obtain ⟨hI, hrc, hf9670, hG9671, hw⟩ := hw
      dsimp only at hI hrc hB hf9670 hG9671 hw
      have hF := frCF (by decide) hG9671 hF
      rw [hrc] at hB
      have hP : va_P (dC, dI) classes (wM g c v9668 F9669 rc) H1 := hB
      replace hw : (v9668 38).toInt = (v9658 38).toInt + 1 ∧ keepL (v9658 37) (F9659 28) (F9659 29) (F9669 28) (F9669 29) ∧ dp (F9669 28) (F9669 29) (bI (v9658 37)) ((v9658 38).toInt.toNat + 1) = dpS (dp (F9659 28) (F9659 29) (bI (v9658 37)) (v9658 38).toInt.toNat) r9562 (0 : Int32) := hw
      rw [show v9658 37 = v 37 from (hf9660 37 (by decide)).trans (hf9555 37 (by decide))] at hw
      have hw_r9667 := hw
      clear hw
      have t9672 : 0 ≤ (v9668 38).toInt ∧ (v9668 38).toInt ≤ 120 := hI.1 38 _ _ rfl
      have k9673 : (0 : Int32).toInt = 0 := by decide
      clear hz1
      generalize H1 = H at hP hS ⊢
      replace hk := hk.tr hw_r9667.2.1
      replace hd : (v9658 40).toInt < 0 → dp (F9669 28) (F9669 29) (bI (v 37)) (v9668 38).toInt.toNat = some (((d + 1) + 1) - 1) := fun hf => (by have e9 : (v9668 38).toInt.toNat = (v9658 38).toInt.toNat + 1 := (by omega); rw [e9, hw_r9667.2.2, hd hf]; exact dpS_5 (by omega) (by omega) (by omega) (by omega) (by omega))
      replace hw_r9667 := hw_r9667.1
      refine lv_aload_n hx hb dX12_either_54 rfl (lv_at hl 1 rfl) ?_
      refine va_get (D := (dC, dI)) (ci := 12) (v := .int (v9668 40)) (C := RX12) (T := TX12) (N := 63) hx hb hwd inA_X12 hown hK hP 0 rfl rfl 40 (by decide) (hwd _ wk_1005) (fun _ h9 => h9) rfl dX12_either_55 ?_
      refine my_top (v := v9658 40) (hf9670 40 (by decide)) ?_
      refine lv_if_ge (tgt := 70) hx hb dX12_either_58 (by decide) (fun c9674 => ?_) (fun c9674 => ?_)
      · skip
        have t9675 := cv_le (a := 0) (by decide) (b := (v9658 40).toInt) rfl c9674
        have hP9 : va_P (dC, dI) classes (wM g c v9668 F9669 rc) H := hP
        exact W.vret hx hb hr (fun t ht hW => ⟨⟨(v9668, F9669, rc), rfl, ⟨hI, rfl, (frC (by decide) hf9670 (frC (by decide) hf9660 (frU (by decide) (frC (by decide) hf9555 (fun _ _ => rfl))))), hF, (by show ((v9668 40).toInt ≤ (v9668 39).toInt ∧ (v 39).toInt ≤ (v9668 39).toInt ∧ (v9668 39).toInt ≤ (v 30).toInt ∧ (v 38).toInt ≤ (v9668 38).toInt ∧ (v9668 38).toInt - (v 38).toInt ≤ (v9668 39).toInt - (v 39).toInt ∧ (v 41).toInt ≤ (v9668 41).toInt ∧ ((v9668 40).toInt < 0 → (v9668 41).toInt = (v 41).toInt)) ∧ keepL (v 37) (F 28) (F 29) (F9669 28) (F9669 29) ∧ ((v9668 40).toInt < 0 → dp (F9669 28) (F9669 29) (bI (v 37)) (v9668 38).toInt.toNat = some (d + 1)) ∧ rd false (v 30) (F 24) 6 (v 41).toInt (v 39).toInt (v9668 40).toInt (v9668 39).toInt; rw [show v9668 40 = v9658 40 from hf9670 40 (by decide)]; rw [show v9668 39 = v9658 39 from hf9670 39 (by decide)]; rw [show v9668 41 = v9658 41 from hf9670 41 (by decide)]; exact ⟨by omega, hk, fun hf => (hd (by omega)).trans (congrArg some (by omega)), rd.e0 (rd.c1 (hrd_r9552.cast (by omega) rfl rfl rfl) (by omega) (by omega) (by omega) (hrd_r9657.cast (by omega) rfl rfl rfl)) (fun q9 => by omega)⟩)⟩, (by show va_P _ _ _ t.heap; rw [ht]; exact hP9)⟩, hS.F ht⟩) hS.2.2 dX12_either_70
      · skip
        have t9676 := cv_nle (a := 0) (by decide) (b := (v9658 40).toInt) rfl c9674
        refine lv_aload_n hx hb dX12_either_61 rfl (lv_at hl 1 rfl) ?_
        have t9677 : 0 ≤ (v 30).toInt ∧ (v 30).toInt ≤ 120 := by have h9 := hI.1 30 _ _ rfl; rw [show v9668 30 = v 30 from (hf9670 30 (by decide)).trans ((hf9660 30 (by decide)).trans (hf9555 30 (by decide)))] at h9; exact h9
        have t9678 : 0 ≤ (v9658 39).toInt ∧ (v9658 39).toInt ≤ 120 := by have h9 := hI.1 39 _ _ rfl; rw [show v9668 39 = v9658 39 from hf9670 39 (by decide)] at h9; exact h9
        have hby24 : F9669 24 = F 24 := hF 24 (by decide)
        refine va_calli (va_runV (As := []) (rest := []) ⟨hx, hb, hml, hown, hwd⟩ (c_X12_look l dC dI g c adK adV v9668 F9669 rc H.size  hg hI ) (cwV 0 hwd (gV wk_1017 wk_1014 wk_1015 wk_1016 wk_5) rfl rfl rfl (by decide +kernel) ⟨(by show 1 + 1 ≤ fr + 7; omega), (by show 8 + (1 + 11) + (40) ≤ lc + 280; omega)⟩) ⟨PM.blind, va_recv hK hP (ci := 12) (q0 := 0) rfl rfl, fun U hU hW => ⟨rfl, PM.at hK hE hP hS hU hW⟩⟩ rfl rfl hl.1 rfl (lv_room (Nat.le_of_ble_eq_true rfl)) dX12_either_62 ⟨Nat.le_of_ble_eq_true rfl, Nat.le_of_ble_eq_true rfl⟩) hS (fun q _ h => (freeM hS) q h) (freeM hS) (fun r9679 u t H1 locs ht hvm hw hB hz1 hk1 hS => ?_)
        unfold BM at hB
        rw [ht] at hB
        have hP : va_P (dC, dI) classes (wM g c v9668 F9669 rc) H1 := hB
        replace hw : r9679.toInt = sg (v9668 30) (F9669 24) (v9668 39).toInt ∧ ((v9668 39).toInt < (v9668 30).toInt ∨ r9679.toInt = -1) := hw
        rw [show v9668 39 = v9658 39 from hf9670 39 (by decide)] at hw
        rw [show v9668 30 = v 30 from (hf9670 30 (by decide)).trans ((hf9660 30 (by decide)).trans (hf9555 30 (by decide)))] at hw
        rw [hby24] at hw
        have hw_r9679 := hw
        clear hw
        clear hz1
        generalize H1 = H at hP hS ⊢
        refine lv_bipush (v := 63) hx hb dX12_either_65 (by decide) ?_
        refine lv_icmp_eq (tgt := 71) hx hb dX12_either_67 (by decide) (fun c9680 => ?_) (fun c9680 => ?_)
        · skip
          have t9681 := cv_eq (a := r9679.toInt) rfl (b := 63) (by decide) c9680
          refine lv_aload_n hx hb dX12_either_71 rfl (lv_at hl 1 rfl) ?_
          have t9682 : 0 ≤ (v9658 39).toInt ∧ (v9658 39).toInt ≤ 120 := by have h9 := hI.1 39 _ _ rfl; rw [show v9668 39 = v9658 39 from hf9670 39 (by decide)] at h9; exact h9
          have t9683 : 0 ≤ (v9658 41).toInt ∧ (v9658 41).toInt ≤ 8 := by have h9 := hI.1 41 _ _ rfl; rw [show v9668 41 = v9658 41 from hf9670 41 (by decide)] at h9; exact h9
          refine va_calli (va_runV (As := []) (rest := []) ⟨hx, hb, hml, hown, hwd⟩ (c_X12_opens l dC dI g c adK adV v9668 F9669 rc H.size  hg hI (by have h9 : v9668 39 = v9658 39 := hf9670 39 (by decide); (try rw [h9]); clear h9; have h9 : v9668 30 = v 30 := (hf9670 30 (by decide)).trans ((hf9660 30 (by decide)).trans (hf9555 30 (by decide))); (try rw [h9]); clear h9; omega)) (cwV 0 hwd (gV wk_1025 wk_1022 wk_1023 wk_1024 wk_5) rfl rfl rfl (by decide +kernel) ⟨(by show 2 + 1 ≤ fr + 7; omega), (by show 8 + (1 + 11) + (80) ≤ lc + 280; omega)⟩) ⟨PM.blind, va_recv hK hP (ci := 12) (q0 := 0) rfl rfl, fun U hU hW => ⟨rfl, PM.at hK hE hP hS hU hW⟩⟩ rfl rfl hl.1 rfl (lv_room (Nat.le_of_ble_eq_true rfl)) dX12_either_72 ⟨Nat.le_of_ble_eq_true rfl, Nat.le_of_ble_eq_true rfl⟩) hS (fun q _ h => (freeM hS) q h) (freeM hS) (fun r9684 u t H1 locs ht hvm hw hB hz1 hk1 hS => ?_)
          unfold BM at hB
          rw [ht] at hB
          obtain ⟨v9685, F9686, rc9⟩ := u
          obtain ⟨hI, hrc, hf9687, hG9688, hw⟩ := hw
          dsimp only at hI hrc hB hf9687 hG9688 hw
          have hF := frCF (by decide) hG9688 hF
          rw [hrc] at hB
          have hP : va_P (dC, dI) classes (wM g c v9685 F9686 rc) H1 := hB
          replace hw : (r9684.toInt = 1 ∧ (v9668 41).toInt < 8 ∧ (v9685 41).toInt = (v9668 41).toInt + 1 ∧ (v9685 39).toInt = (v9668 39).toInt + 1 ∧ (v9685 40).toInt = (v9668 40).toInt) ∨ (r9684.toInt = 0 ∧ (v9668 41).toInt = 8 ∧ 0 ≤ (v9685 40).toInt ∧ (0 ≤ (v9668 40).toInt ∨ (v9685 40).toInt = (v9668 39).toInt) ∧  (v9685 41).toInt = (v9668 41).toInt ∧ (v9685 39).toInt = (v9668 39).toInt) := hw
          rw [show v9668 41 = v9658 41 from hf9670 41 (by decide)] at hw
          rw [show v9668 39 = v9658 39 from hf9670 39 (by decide)] at hw
          rw [show v9668 40 = v9658 40 from hf9670 40 (by decide)] at hw
          have hw_r9684 := hw
          clear hw
          have t9689 : 0 ≤ (v9685 39).toInt ∧ (v9685 39).toInt ≤ 120 := hI.1 39 _ _ rfl
          have t9690 : 0 ≤ (v9685 41).toInt ∧ (v9685 41).toInt ≤ 8 := hI.1 41 _ _ rfl
          clear hz1
          generalize H1 = H at hP hS ⊢
          replace hk : keepL (v 37) (F 28) (F 29) (F9686 28) (F9686 29) := by rw [hG9688 28 (by decide), hG9688 29 (by decide)]; exact hk
          replace hd : (v9685 40).toInt < 0 → dp (F9686 28) (F9686 29) (bI (v 37)) (v9668 38).toInt.toNat = some (((d + 1) + 1) - 1) := fun hf => (by rw [hG9688 28 (by decide), hG9688 29 (by decide)]; exact hd (by omega))
          refine lv_if_ne (tgt := 79) hx hb dX12_either_75 (by decide) (fun c9691 => ?_) (fun c9691 => ?_)
          · skip
            have t9692 := cv_ne (a := r9684.toInt) rfl (b := 0) (by decide) c9691
            refine lv_aload_n hx hb dX12_either_79 rfl (lv_at hl 1 rfl) ?_
            have t9693 : 0 ≤ (v 30).toInt ∧ (v 30).toInt ≤ 120 := by have h9 := hI.1 30 _ _ rfl; rw [show v9685 30 = v 30 from (hf9687 30 (by decide)).trans ((hf9670 30 (by decide)).trans ((hf9660 30 (by decide)).trans (hf9555 30 (by decide))))] at h9; exact h9
            have t9694 : 0 ≤ (v 37).toInt ∧ (v 37).toInt ≤ 9 := by have h9 := hI.1 37 _ _ rfl; rw [show v9685 37 = v 37 from (hf9687 37 (by decide)).trans ((hf9670 37 (by decide)).trans ((hf9660 37 (by decide)).trans (hf9555 37 (by decide))))] at h9; exact h9
            have t9695 : 0 ≤ (v9668 38).toInt ∧ (v9668 38).toInt ≤ 120 := by have h9 := hI.1 38 _ _ rfl; rw [show v9685 38 = v9668 38 from hf9687 38 (by decide)] at h9; exact h9
            have t9696 : 0 ≤ (v9685 39).toInt ∧ (v9685 39).toInt ≤ 120 := hI.1 39 _ _ rfl
            have t9697 : 0 ≤ (v9685 41).toInt ∧ (v9685 41).toInt ≤ 8 := hI.1 41 _ _ rfl
            have hby24 : F9686 24 = F 24 := hF 24 (by decide)
            refine va_callv (va_runV (As := []) (rest := []) ⟨hx, hb, hml, hown, hwd⟩ (rE l dC dI g c adK adV v9685 F9686 rc H.size  (((d + 1) + 1) - 1) hg hI (by have h9 : v9685 38 = v9668 38 := hf9687 38 (by decide); (try rw [h9]); clear h9; have h9 : v9685 39 = v9685 39 := rfl; (try rw [h9]); clear h9; have h9 : v9685 30 = v 30 := (hf9687 30 (by decide)).trans ((hf9670 30 (by decide)).trans ((hf9660 30 (by decide)).trans (hf9555 30 (by decide)))); (try rw [h9]); clear h9; have h9 : v9685 40 = v9685 40 := rfl; (try rw [h9]); clear h9; have h9 : v9685 41 = v9685 41 := rfl; (try rw [h9]); clear h9; omega) (by have h9 : v9685 37 = (v 37) := (hf9687 37 (by decide)).trans ((hf9670 37 (by decide)).trans ((hf9660 37 (by decide)).trans (hf9555 37 (by decide)))); have h8 : v9685 38 = (v9668 38) := hf9687 38 (by decide); (try rw [h9]); (try rw [h8]); exact hd (by omega))) (cwV 0 hwd (gV wk_1010 wk_1007 wk_1008 wk_1009 wk_5) rfl rfl rfl (by decide +kernel) ⟨(by show fr + 3 + 1 ≤ fr + 7; omega), (by show 8 + (2 + 11) + (lc + 120) ≤ lc + 280; omega)⟩) ⟨PM.blind, va_recv hK hP (ci := 12) (q0 := 0) rfl rfl, fun U hU hW => ⟨rfl, PM.at hK hE hP hS hU hW⟩⟩ rfl rfl hl.1 rfl (lv_room (Nat.le_of_ble_eq_true rfl)) dX12_either_80 ⟨Nat.le_of_ble_eq_true rfl, Nat.le_of_ble_eq_true rfl⟩) hS (fun q _ h => (freeM hS) q h) (freeM hS) (fun u t H1 locs ht hvm hw hB hz1 hk1 hS => ?_)
            unfold BM at hB
            rw [ht] at hB
            obtain ⟨v9699, F9700, rc9⟩ := u
            obtain ⟨hI, hrc, hf9701, hG9702, hw⟩ := hw
            dsimp only at hI hrc hB hf9701 hG9702 hw
            have hF := frCF (by decide) hG9702 hF
            rw [hrc] at hB
            have hP : va_P (dC, dI) classes (wM g c v9699 F9700 rc) H1 := hB
            replace hw : ((v9699 40).toInt ≤ (v9699 39).toInt ∧ (v9685 39).toInt ≤ (v9699 39).toInt ∧ (v9699 39).toInt ≤ (v9685 30).toInt ∧ (v9685 38).toInt ≤ (v9699 38).toInt ∧ (v9699 38).toInt - (v9685 38).toInt ≤ (v9699 39).toInt - (v9685 39).toInt ∧ (v9685 41).toInt ≤ (v9699 41).toInt ∧ ((v9699 40).toInt < 0 → (v9699 41).toInt = (v9685 41).toInt)) ∧ keepL (v9685 37) (F9686 28) (F9686 29) (F9700 28) (F9700 29) ∧ ((v9699 40).toInt < 0 → dp (F9700 28) (F9700 29) (bI (v9685 37)) (v9699 38).toInt.toNat = some ((((d + 1) + 1) - 1) + 1)) ∧ rd false (v9685 30) (F9686 24) 6 (v9685 41).toInt (v9685 39).toInt (v9699 40).toInt (v9699 39).toInt := hw
            rw [show v9685 30 = v 30 from (hf9687 30 (by decide)).trans ((hf9670 30 (by decide)).trans ((hf9660 30 (by decide)).trans (hf9555 30 (by decide))))] at hw
            rw [show v9685 38 = v9668 38 from hf9687 38 (by decide)] at hw
            rw [show v9685 37 = v 37 from (hf9687 37 (by decide)).trans ((hf9670 37 (by decide)).trans ((hf9660 37 (by decide)).trans (hf9555 37 (by decide))))] at hw
            rw [hby24] at hw
            have hw_r9698 := hw
            clear hw
            have t9703 : 0 ≤ (v9699 38).toInt ∧ (v9699 38).toInt ≤ 120 := hI.1 38 _ _ rfl
            have t9704 : 0 ≤ (v9699 39).toInt ∧ (v9699 39).toInt ≤ 120 := hI.1 39 _ _ rfl
            have t9705 : 0 ≤ (v9699 41).toInt ∧ (v9699 41).toInt ≤ 8 := hI.1 41 _ _ rfl
            clear hz1
            generalize H1 = H at hP hS ⊢
            replace hk := hk.tr hw_r9698.2.1
            replace hd := hw_r9698.2.2.1
            have hrd_r9698 := hw_r9698.2.2.2
            replace hw_r9698 := hw_r9698.1
            refine lv_aload_n hx hb dX12_either_83 rfl (lv_at hl 1 rfl) ?_
            refine va_get (D := (dC, dI)) (ci := 12) (v := .int (v9699 40)) (C := RX12) (T := TX12) (N := 63) hx hb hwd inA_X12 hown hK hP 0 rfl rfl 40 (by decide) (hwd _ wk_1005) (fun _ h9 => h9) rfl dX12_either_84 ?_
            refine lv_if_lt (tgt := 91) hx hb dX12_either_87 (by decide) (fun c9706 => ?_) (fun c9706 => ?_)
            · skip
              have t9707 := cv_lt (a := (v9699 40).toInt) rfl (b := 0) (by decide) c9706
              refine lv_aload_n hx hb dX12_either_91 rfl (lv_at hl 1 rfl) ?_
              have t9708 : 0 ≤ (v 30).toInt ∧ (v 30).toInt ≤ 120 := by have h9 := hI.1 30 _ _ rfl; rw [show v9699 30 = v 30 from (hf9701 30 (by decide)).trans ((hf9687 30 (by decide)).trans ((hf9670 30 (by decide)).trans ((hf9660 30 (by decide)).trans (hf9555 30 (by decide)))))] at h9; exact h9
              have t9709 : 0 ≤ (v9699 39).toInt ∧ (v9699 39).toInt ≤ 120 := hI.1 39 _ _ rfl
              have hby24 : F9700 24 = F 24 := hF 24 (by decide)
              refine va_calli (va_runV (As := []) (rest := []) ⟨hx, hb, hml, hown, hwd⟩ (c_X12_look l dC dI g c adK adV v9699 F9700 rc H.size  hg hI ) (cwV 0 hwd (gV wk_1017 wk_1014 wk_1015 wk_1016 wk_5) rfl rfl rfl (by decide +kernel) ⟨(by show 1 + 1 ≤ fr + 7; omega), (by show 8 + (1 + 11) + (40) ≤ lc + 280; omega)⟩) ⟨PM.blind, va_recv hK hP (ci := 12) (q0 := 0) rfl rfl, fun U hU hW => ⟨rfl, PM.at hK hE hP hS hU hW⟩⟩ rfl rfl hl.1 rfl (lv_room (Nat.le_of_ble_eq_true rfl)) dX12_either_92 ⟨Nat.le_of_ble_eq_true rfl, Nat.le_of_ble_eq_true rfl⟩) hS (fun q _ h => (freeM hS) q h) (freeM hS) (fun r9710 u t H1 locs ht hvm hw hB hz1 hk1 hS => ?_)
              unfold BM at hB
              rw [ht] at hB
              have hP : va_P (dC, dI) classes (wM g c v9699 F9700 rc) H1 := hB
              replace hw : r9710.toInt = sg (v9699 30) (F9700 24) (v9699 39).toInt ∧ ((v9699 39).toInt < (v9699 30).toInt ∨ r9710.toInt = -1) := hw
              rw [show v9699 30 = v 30 from (hf9701 30 (by decide)).trans ((hf9687 30 (by decide)).trans ((hf9670 30 (by decide)).trans ((hf9660 30 (by decide)).trans (hf9555 30 (by decide)))))] at hw
              rw [hby24] at hw
              have hw_r9710 := hw
              clear hw
              clear hz1
              generalize H1 = H at hP hS ⊢
              refine lv_bipush (v := 58) hx hb dX12_either_95 (by decide) ?_
              refine lv_icmp_eq (tgt := 105) hx hb dX12_either_97 (by decide) (fun c9711 => ?_) (fun c9711 => ?_)
              · skip
                have t9712 := cv_eq (a := r9710.toInt) rfl (b := 58) (by decide) c9711
                refine lv_aload_n hx hb dX12_either_105 rfl (lv_at hl 1 rfl) ?_
                refine lv_dup hx hb dX12_either_106 rfl ?_
                refine va_get (D := (dC, dI)) (ci := 12) (v := .int (v9699 39)) (C := RX12) (T := TX12) (N := 63) hx hb hwd inA_X12 hown hK hP 0 rfl rfl 39 (by decide) (hwd _ wk_1004) (fun _ h9 => h9) rfl dX12_either_107 ?_
                have t9713 : 0 ≤ (v9699 39).toInt ∧ (v9699 39).toInt ≤ 120 := hI.1 39 _ _ rfl
                refine lv_iconst (v := 1) hx hb dX12_either_110 (by decide) ?_
                refine lv_iadd hx hb dX12_either_111 ?_
                refine lv_topi (fun z9714 e9715 => ?_)
                try (have t9716 := tadd e9715 (a := (v9699 39).toInt) rfl (b := 1) (by decide) (by omega))
                refine va_put (D := (dC, dI)) (ci := 12) (v := .int z9714) (ty := .int) (C := RX12) (T := TX12) (N := 63) (fs := fsM_0 g v9699 rc) hx hb hwd inA_X12 tyX12 tyX12_ok nmX12 hown hK hP (DM hg) hS 0 rfl rfl 39 (by decide) (hwd _ wk_1004) (fun _ h9 => h9) rfl (by decide +kernel) rfl rfl (Nat.le_of_ble_eq_true rfl) dX12_either_112 (fun H locs hP _ hS => ?_)
                have hP := va_P_eq (pM_39 g c _ _ _ _) hP
                have hI := IM.put hI 39 z9714 rfl (by omega)
                refine lv_aload_n hx hb dX12_either_115 rfl (lv_at hl 1 rfl) ?_
                have t9717 : 0 ≤ (v 30).toInt ∧ (v 30).toInt ≤ 120 := by have h9 := hI.1 30 _ _ rfl; rw [show (va_up v9699 39 z9714) 30 = v 30 from (hf9701 30 (by decide)).trans ((hf9687 30 (by decide)).trans ((hf9670 30 (by decide)).trans ((hf9660 30 (by decide)).trans (hf9555 30 (by decide)))))] at h9; exact h9
                have t9718 : 0 ≤ (v 37).toInt ∧ (v 37).toInt ≤ 9 := by have h9 := hI.1 37 _ _ rfl; rw [show (va_up v9699 39 z9714) 37 = v 37 from (hf9701 37 (by decide)).trans ((hf9687 37 (by decide)).trans ((hf9670 37 (by decide)).trans ((hf9660 37 (by decide)).trans (hf9555 37 (by decide)))))] at h9; exact h9
                have t9719 : 0 ≤ (v9699 38).toInt ∧ (v9699 38).toInt ≤ 120 := hI.1 38 _ _ rfl
                have t9720 : 0 ≤ z9714.toInt ∧ z9714.toInt ≤ 120 := hI.1 39 _ _ rfl
                have t9721 : 0 ≤ (v9699 41).toInt ∧ (v9699 41).toInt ≤ 8 := hI.1 41 _ _ rfl
                have hby24 : F9700 24 = F 24 := hF 24 (by decide)
                refine va_callv (va_runV (As := []) (rest := []) ⟨hx, hb, hml, hown, hwd⟩ (rE l dC dI g c adK adV (va_up v9699 39 z9714) F9700 rc H.size  ((((d + 1) + 1) - 1) + 1) hg hI (by have h9 : (va_up v9699 39 z9714) 38 = v9699 38 := rfl; (try rw [h9]); clear h9; have h9 : (va_up v9699 39 z9714) 39 = z9714 := rfl; (try rw [h9]); clear h9; have h9 : (va_up v9699 39 z9714) 30 = v 30 := (hf9701 30 (by decide)).trans ((hf9687 30 (by decide)).trans ((hf9670 30 (by decide)).trans ((hf9660 30 (by decide)).trans (hf9555 30 (by decide))))); (try rw [h9]); clear h9; have h9 : (va_up v9699 39 z9714) 40 = v9699 40 := rfl; (try rw [h9]); clear h9; have h9 : (va_up v9699 39 z9714) 41 = v9699 41 := rfl; (try rw [h9]); clear h9; omega) (by have h9 : (va_up v9699 39 z9714) 37 = (v 37) := (hf9701 37 (by decide)).trans ((hf9687 37 (by decide)).trans ((hf9670 37 (by decide)).trans ((hf9660 37 (by decide)).trans (hf9555 37 (by decide))))); have h8 : (va_up v9699 39 z9714) 38 = (v9699 38) := rfl; (try rw [h9]); (try rw [h8]); exact hd (by omega))) (cwV 0 hwd (gV wk_1010 wk_1007 wk_1008 wk_1009 wk_5) rfl rfl rfl (by decide +kernel) ⟨(by show fr + 3 + 1 ≤ fr + 7; omega), (by show 8 + (2 + 11) + (lc + 120) ≤ lc + 280; omega)⟩) ⟨PM.blind, va_recv hK hP (ci := 12) (q0 := 0) rfl rfl, fun U hU hW => ⟨rfl, PM.at hK hE hP hS hU hW⟩⟩ rfl rfl hl.1 rfl (lv_room (Nat.le_of_ble_eq_true rfl)) dX12_either_116 ⟨Nat.le_of_ble_eq_true rfl, Nat.le_of_ble_eq_true rfl⟩) hS (fun q _ h => (freeM hS) q h) (freeM hS) (fun u t H1 locs ht hvm hw hB hz1 hk1 hS => ?_)
                unfold BM at hB
                rw [ht] at hB
                obtain ⟨v9723, F9724, rc9⟩ := u
                obtain ⟨hI, hrc, hf9725, hG9726, hw⟩ := hw
                dsimp only at hI hrc hB hf9725 hG9726 hw
                have hF := frCF (by decide) hG9726 hF
                rw [hrc] at hB
                have hP : va_P (dC, dI) classes (wM g c v9723 F9724 rc) H1 := hB
                replace hw : ((v9723 40).toInt ≤ (v9723 39).toInt ∧ z9714.toInt ≤ (v9723 39).toInt ∧ (v9723 39).toInt ≤ ((va_up v9699 39 z9714) 30).toInt ∧ (v9699 38).toInt ≤ (v9723 38).toInt ∧ (v9723 38).toInt - (v9699 38).toInt ≤ (v9723 39).toInt - z9714.toInt ∧ (v9699 41).toInt ≤ (v9723 41).toInt ∧ ((v9723 40).toInt < 0 → (v9723 41).toInt = (v9699 41).toInt)) ∧ keepL ((va_up v9699 39 z9714) 37) (F9700 28) (F9700 29) (F9724 28) (F9724 29) ∧ ((v9723 40).toInt < 0 → dp (F9724 28) (F9724 29) (bI ((va_up v9699 39 z9714) 37)) (v9723 38).toInt.toNat = some (((((d + 1) + 1) - 1) + 1) + 1)) ∧ rd false ((va_up v9699 39 z9714) 30) (F9700 24) 6 (v9699 41).toInt z9714.toInt (v9723 40).toInt (v9723 39).toInt := hw
                rw [show (va_up v9699 39 z9714) 30 = v 30 from (hf9701 30 (by decide)).trans ((hf9687 30 (by decide)).trans ((hf9670 30 (by decide)).trans ((hf9660 30 (by decide)).trans (hf9555 30 (by decide)))))] at hw
                rw [show (va_up v9699 39 z9714) 37 = v 37 from (hf9701 37 (by decide)).trans ((hf9687 37 (by decide)).trans ((hf9670 37 (by decide)).trans ((hf9660 37 (by decide)).trans (hf9555 37 (by decide)))))] at hw
                rw [hby24] at hw
                have hw_r9722 := hw
                clear hw
                have t9727 : 0 ≤ (v9723 38).toInt ∧ (v9723 38).toInt ≤ 120 := hI.1 38 _ _ rfl
                have t9728 : 0 ≤ (v9723 39).toInt ∧ (v9723 39).toInt ≤ 120 := hI.1 39 _ _ rfl
                have t9729 : 0 ≤ (v9723 41).toInt ∧ (v9723 41).toInt ≤ 8 := hI.1 41 _ _ rfl
                clear hz1
                generalize H1 = H at hP hS ⊢
                replace hk := hk.tr hw_r9722.2.1
                replace hd := hw_r9722.2.2.1
                have hrd_r9722 := hw_r9722.2.2.2
                replace hw_r9722 := hw_r9722.1
                refine lv_aload_n hx hb dX12_either_119 rfl (lv_at hl 1 rfl) ?_
                refine lv_iconst (v := 4) hx hb dX12_either_120 (by decide) ?_
                refine lv_iconst (v := 0) hx hb dX12_either_121 (by decide) ?_
                have t9730 : 0 ≤ (v 37).toInt ∧ (v 37).toInt ≤ 9 := by have h9 := hI.1 37 _ _ rfl; rw [show v9723 37 = v 37 from (hf9725 37 (by decide)).trans ((hf9701 37 (by decide)).trans ((hf9687 37 (by decide)).trans ((hf9670 37 (by decide)).trans ((hf9660 37 (by decide)).trans (hf9555 37 (by decide))))))] at h9; exact h9
                have t9731 : 0 ≤ (v9723 38).toInt ∧ (v9723 38).toInt ≤ 120 := hI.1 38 _ _ rfl
                refine va_callv (va_runV (As := [.int 4, .int 0]) (rest := []) ⟨hx, hb, hml, hown, hwd⟩ (c_X12_lay l dC dI g c adK adV v9723 F9724 rc H.size 4 0 hg hI (by have h9 : v9723 38 = v9723 38 := rfl; rw [h9]; omega)) (cwV 2 hwd (gV wk_1021 wk_1018 wk_1019 wk_1020 wk_5) rfl rfl rfl (by decide +kernel) ⟨(by show 1 + 1 ≤ fr + 7; omega), (by show 8 + (3 + 11) + (40) ≤ lc + 280; omega)⟩) ⟨PM.blind, va_recv hK hP (ci := 12) (q0 := 0) rfl rfl, fun U hU hW => ⟨rfl, PM.at hK hE hP hS hU hW⟩⟩ rfl rfl hl.1 rfl (lv_room (Nat.le_of_ble_eq_true rfl)) dX12_either_122 ⟨Nat.le_of_ble_eq_true rfl, Nat.le_of_ble_eq_true rfl⟩) hS (fun q _ h => (freeM hS) q h) (freeM hS) (fun u t H1 locs ht hvm hw hB hz1 hk1 hS => ?_)
                unfold BM at hB
                rw [ht] at hB
                obtain ⟨v9733, F9734, rc9⟩ := u
                obtain ⟨hI, hrc, hf9735, hG9736, hw⟩ := hw
                dsimp only at hI hrc hB hf9735 hG9736 hw
                have hF := frCF (by decide) hG9736 hF
                rw [hrc] at hB
                have hP : va_P (dC, dI) classes (wM g c v9733 F9734 rc) H1 := hB
                replace hw : (v9733 38).toInt = (v9723 38).toInt + 1 ∧ keepL (v9723 37) (F9724 28) (F9724 29) (F9734 28) (F9734 29) ∧ dp (F9734 28) (F9734 29) (bI (v9723 37)) ((v9723 38).toInt.toNat + 1) = dpS (dp (F9724 28) (F9724 29) (bI (v9723 37)) (v9723 38).toInt.toNat) (4 : Int32) (0 : Int32) := hw
                rw [show v9723 37 = v 37 from (hf9725 37 (by decide)).trans ((hf9701 37 (by decide)).trans ((hf9687 37 (by decide)).trans ((hf9670 37 (by decide)).trans ((hf9660 37 (by decide)).trans (hf9555 37 (by decide))))))] at hw
                have hw_r9732 := hw
                clear hw
                have t9737 : 0 ≤ (v9733 38).toInt ∧ (v9733 38).toInt ≤ 120 := hI.1 38 _ _ rfl
                have k9738 : (4 : Int32).toInt = 4 := by decide
                have k9739 : (0 : Int32).toInt = 0 := by decide
                clear hz1
                generalize H1 = H at hP hS ⊢
                replace hk := hk.tr hw_r9732.2.1
                replace hd : (v9723 40).toInt < 0 → dp (F9734 28) (F9734 29) (bI (v 37)) (v9733 38).toInt.toNat = some ((((((d + 1) + 1) - 1) + 1) + 1) - 2) := fun hf => (by have e9 : (v9733 38).toInt.toNat = (v9723 38).toInt.toNat + 1 := (by omega); rw [e9, hw_r9732.2.2, hd hf]; exact dpS_4 (by decide) (by omega))
                replace hw_r9732 := hw_r9732.1
                refine lv_aload_n hx hb dX12_either_125 rfl (lv_at hl 1 rfl) ?_
                refine lv_dup hx hb dX12_either_126 rfl ?_
                refine va_get (D := (dC, dI)) (ci := 12) (v := .int (v9733 41)) (C := RX12) (T := TX12) (N := 63) hx hb hwd inA_X12 hown hK hP 0 rfl rfl 41 (by decide) (hwd _ wk_1006) (fun _ h9 => h9) rfl dX12_either_127 ?_
                refine my_top (v := v9723 41) (hf9735 41 (by decide)) ?_
                have t9740 : 0 ≤ (v9723 41).toInt ∧ (v9723 41).toInt ≤ 8 := by have h9 := hI.1 41 _ _ rfl; rw [show v9733 41 = v9723 41 from hf9735 41 (by decide)] at h9; exact h9
                refine lv_iconst (v := 1) hx hb dX12_either_130 (by decide) ?_
                refine lv_isub hx hb dX12_either_131 ?_
                refine lv_topi (fun z9741 e9742 => ?_)
                try (have t9743 := tsub e9742 (a := (v9723 41).toInt) rfl (b := 1) (by decide) (by omega))
                refine va_put (D := (dC, dI)) (ci := 12) (v := .int z9741) (ty := .int) (C := RX12) (T := TX12) (N := 63) (fs := fsM_0 g v9733 rc) hx hb hwd inA_X12 tyX12 tyX12_ok nmX12 hown hK hP (DM hg) hS 0 rfl rfl 41 (by decide) (hwd _ wk_1006) (fun _ h9 => h9) rfl (by decide +kernel) rfl rfl (Nat.le_of_ble_eq_true rfl) dX12_either_132 (fun H locs hP _ hS => ?_)
                have hP := va_P_eq (pM_41 g c _ _ _ _) hP
                have hI := IM.put hI 41 z9741 rfl (by omega)
                have hP9 : va_P (dC, dI) classes (wM g c (va_up v9733 41 z9741) F9734 rc) H := hP
                exact W.vret hx hb hr (fun t ht hW => ⟨⟨((va_up v9733 41 z9741), F9734, rc), rfl, ⟨hI, rfl, (frU (by decide) (frC (by decide) hf9735 (frC (by decide) hf9725 (frU (by decide) (frC (by decide) hf9701 (frC (by decide) hf9687 (frC (by decide) hf9670 (frC (by decide) hf9660 (frU (by decide) (frC (by decide) hf9555 (fun _ _ => rfl))))))))))), hF, (by show (((va_up v9733 41 z9741) 40).toInt ≤ ((va_up v9733 41 z9741) 39).toInt ∧ (v 39).toInt ≤ ((va_up v9733 41 z9741) 39).toInt ∧ ((va_up v9733 41 z9741) 39).toInt ≤ (v 30).toInt ∧ (v 38).toInt ≤ (v9733 38).toInt ∧ (v9733 38).toInt - (v 38).toInt ≤ ((va_up v9733 41 z9741) 39).toInt - (v 39).toInt ∧ (v 41).toInt ≤ z9741.toInt ∧ (((va_up v9733 41 z9741) 40).toInt < 0 → z9741.toInt = (v 41).toInt)) ∧ keepL (v 37) (F 28) (F 29) (F9734 28) (F9734 29) ∧ (((va_up v9733 41 z9741) 40).toInt < 0 → dp (F9734 28) (F9734 29) (bI (v 37)) (v9733 38).toInt.toNat = some (d + 1)) ∧ rd false (v 30) (F 24) 6 (v 41).toInt (v 39).toInt ((va_up v9733 41 z9741) 40).toInt ((va_up v9733 41 z9741) 39).toInt; rw [show (va_up v9733 41 z9741) 40 = v9723 40 from hf9735 40 (by decide)]; rw [show (va_up v9733 41 z9741) 39 = v9723 39 from hf9735 39 (by decide)]; exact ⟨by omega, hk, fun hf => (hd (by omega)).trans (congrArg some (by omega)), rd.eX (f2 := -1) (rd.c1 (hrd_r9552.cast (by omega) rfl rfl rfl) (by omega) (by omega) (by omega) (hrd_r9657.cast (by omega) rfl rfl rfl)) (by omega) (by omega) (by omega) (by omega) (by omega) hrd_r9698 (by omega) (by omega) (fun _ _ => hrd_r9722)⟩)⟩, (by show va_P _ _ _ t.heap; rw [ht]; exact hP9)⟩, hS.F ht⟩) hS.2.2 dX12_either_135
              · skip
                have t9744 := cv_ne (a := r9710.toInt) rfl (b := 58) (by decide) c9711
                refine lv_aload_n hx hb dX12_either_100 rfl (lv_at hl 1 rfl) ?_
                have t9745 : 0 ≤ (v9699 39).toInt ∧ (v9699 39).toInt ≤ 120 := hI.1 39 _ _ rfl
                refine va_callv (va_runV (As := []) (rest := []) ⟨hx, hb, hml, hown, hwd⟩ (c_X12_wrong l dC dI g c adK adV v9699 F9700 rc H.size  hg hI ) (cwV 0 hwd (gV wk_1029 wk_1026 wk_1027 wk_1028 wk_5) rfl rfl rfl (by decide +kernel) ⟨(by show 1 + 1 ≤ fr + 7; omega), (by show 8 + (1 + 11) + (40) ≤ lc + 280; omega)⟩) ⟨PM.blind, va_recv hK hP (ci := 12) (q0 := 0) rfl rfl, fun U hU hW => ⟨rfl, PM.at hK hE hP hS hU hW⟩⟩ rfl rfl hl.1 rfl (lv_room (Nat.le_of_ble_eq_true rfl)) dX12_either_101 ⟨Nat.le_of_ble_eq_true rfl, Nat.le_of_ble_eq_true rfl⟩) hS (fun q _ h => (freeM hS) q h) (freeM hS) (fun u t H1 locs ht hvm hw hB hz1 hk1 hS => ?_)
                unfold BM at hB
                rw [ht] at hB
                obtain ⟨v9747, F9748, rc9⟩ := u
                obtain ⟨hI, hrc, hf9749, hG9750, hw⟩ := hw
                dsimp only at hI hrc hB hf9749 hG9750 hw
                have hF := frCF (by decide) hG9750 hF
                rw [hrc] at hB
                have hP : va_P (dC, dI) classes (wM g c v9747 F9748 rc) H1 := hB
                replace hw : ((v9699 40).toInt < 0 ∧ (v9747 40).toInt = (v9699 39).toInt) ∨ (0 ≤ (v9699 40).toInt ∧ (v9747 40).toInt = (v9699 40).toInt) := hw
                have hw_r9746 := hw
                clear hw
                clear hz1
                generalize H1 = H at hP hS ⊢
                replace hk : keepL (v 37) (F 28) (F 29) (F9748 28) (F9748 29) := by rw [hG9750 28 (by decide), hG9750 29 (by decide)]; exact hk
                replace hd : (v9747 40).toInt < 0 → dp (F9748 28) (F9748 29) (bI (v 37)) (v9699 38).toInt.toNat = some ((((d + 1) + 1) - 1) + 1) := fun hf => (by rw [hG9750 28 (by decide), hG9750 29 (by decide)]; exact hd (by omega))
                have hP9 : va_P (dC, dI) classes (wM g c v9747 F9748 rc) H := hP
                exact W.vret hx hb hr (fun t ht hW => ⟨⟨(v9747, F9748, rc), rfl, ⟨hI, rfl, (frC (by decide) hf9749 (frC (by decide) hf9701 (frC (by decide) hf9687 (frC (by decide) hf9670 (frC (by decide) hf9660 (frU (by decide) (frC (by decide) hf9555 (fun _ _ => rfl)))))))), hF, (by show ((v9747 40).toInt ≤ (v9747 39).toInt ∧ (v 39).toInt ≤ (v9747 39).toInt ∧ (v9747 39).toInt ≤ (v 30).toInt ∧ (v 38).toInt ≤ (v9747 38).toInt ∧ (v9747 38).toInt - (v 38).toInt ≤ (v9747 39).toInt - (v 39).toInt ∧ (v 41).toInt ≤ (v9747 41).toInt ∧ ((v9747 40).toInt < 0 → (v9747 41).toInt = (v 41).toInt)) ∧ keepL (v 37) (F 28) (F 29) (F9748 28) (F9748 29) ∧ ((v9747 40).toInt < 0 → dp (F9748 28) (F9748 29) (bI (v 37)) (v9747 38).toInt.toNat = some (d + 1)) ∧ rd false (v 30) (F 24) 6 (v 41).toInt (v 39).toInt (v9747 40).toInt (v9747 39).toInt; rw [show v9747 39 = v9699 39 from hf9749 39 (by decide)]; rw [show v9747 38 = v9699 38 from hf9749 38 (by decide)]; rw [show v9747 41 = v9699 41 from hf9749 41 (by decide)]; exact ⟨by omega, hk, fun hf => (hd (by omega)).trans (congrArg some (by omega)), rd.eX (f2 := 0) (g2 := 0) (rd.c1 (hrd_r9552.cast (by omega) rfl rfl rfl) (by omega) (by omega) (by omega) (hrd_r9657.cast (by omega) rfl rfl rfl)) (by omega) (by omega) (by omega) (by omega) (by omega) hrd_r9698 (by omega) (d2 := (v 41).toInt + 1) rfl (fun q9 => absurd q9 (by decide))⟩)⟩, (by show va_P _ _ _ t.heap; rw [ht]; exact hP9)⟩, hS.F ht⟩) hS.2.2 dX12_either_104
            · skip
              have t9751 := cv_nlt (a := (v9699 40).toInt) rfl (b := 0) (by decide) c9706
              have hP9 : va_P (dC, dI) classes (wM g c v9699 F9700 rc) H := hP
              exact W.vret hx hb hr (fun t ht hW => ⟨⟨(v9699, F9700, rc), rfl, ⟨hI, rfl, (frC (by decide) hf9701 (frC (by decide) hf9687 (frC (by decide) hf9670 (frC (by decide) hf9660 (frU (by decide) (frC (by decide) hf9555 (fun _ _ => rfl))))))), hF, (by show ((v9699 40).toInt ≤ (v9699 39).toInt ∧ (v 39).toInt ≤ (v9699 39).toInt ∧ (v9699 39).toInt ≤ (v 30).toInt ∧ (v 38).toInt ≤ (v9699 38).toInt ∧ (v9699 38).toInt - (v 38).toInt ≤ (v9699 39).toInt - (v 39).toInt ∧ (v 41).toInt ≤ (v9699 41).toInt ∧ ((v9699 40).toInt < 0 → (v9699 41).toInt = (v 41).toInt)) ∧ keepL (v 37) (F 28) (F 29) (F9700 28) (F9700 29) ∧ ((v9699 40).toInt < 0 → dp (F9700 28) (F9700 29) (bI (v 37)) (v9699 38).toInt.toNat = some (d + 1)) ∧ rd false (v 30) (F 24) 6 (v 41).toInt (v 39).toInt (v9699 40).toInt (v9699 39).toInt; exact ⟨by omega, hk, fun hf => (hd (by omega)).trans (congrArg some (by omega)), rd.eX (f2 := 0) (g2 := 0) (rd.c1 (hrd_r9552.cast (by omega) rfl rfl rfl) (by omega) (by omega) (by omega) (hrd_r9657.cast (by omega) rfl rfl rfl)) (by omega) (by omega) (by omega) (by omega) (by omega) hrd_r9698 (by omega) (d2 := (v 41).toInt + 1) rfl (fun q9 => absurd q9 (by decide))⟩)⟩, (by show va_P _ _ _ t.heap; rw [ht]; exact hP9)⟩, hS.F ht⟩) hS.2.2 dX12_either_90
          · skip
            have t9752 := cv_eq (a := r9684.toInt) rfl (b := 0) (by decide) c9691
            have hP9 : va_P (dC, dI) classes (wM g c v9685 F9686 rc) H := hP
            exact W.vret hx hb hr (fun t ht hW => ⟨⟨(v9685, F9686, rc), rfl, ⟨hI, rfl, (frC (by decide) hf9687 (frC (by decide) hf9670 (frC (by decide) hf9660 (frU (by decide) (frC (by decide) hf9555 (fun _ _ => rfl)))))), hF, (by show ((v9685 40).toInt ≤ (v9685 39).toInt ∧ (v 39).toInt ≤ (v9685 39).toInt ∧ (v9685 39).toInt ≤ (v 30).toInt ∧ (v 38).toInt ≤ (v9685 38).toInt ∧ (v9685 38).toInt - (v 38).toInt ≤ (v9685 39).toInt - (v 39).toInt ∧ (v 41).toInt ≤ (v9685 41).toInt ∧ ((v9685 40).toInt < 0 → (v9685 41).toInt = (v 41).toInt)) ∧ keepL (v 37) (F 28) (F 29) (F9686 28) (F9686 29) ∧ ((v9685 40).toInt < 0 → dp (F9686 28) (F9686 29) (bI (v 37)) (v9685 38).toInt.toNat = some (d + 1)) ∧ rd false (v 30) (F 24) 6 (v 41).toInt (v 39).toInt (v9685 40).toInt (v9685 39).toInt; rw [show v9685 38 = v9668 38 from hf9687 38 (by decide)]; exact ⟨by omega, hk, fun hf => (hd (by omega)).trans (congrArg some (by omega)), rd.eD (rd.c1 (hrd_r9552.cast (by omega) rfl rfl rfl) (by omega) (by omega) (by omega) (hrd_r9657.cast (by omega) rfl rfl rfl)) (by omega) (by omega) (by omega) (by omega) (by omega)⟩)⟩, (by show va_P _ _ _ t.heap; rw [ht]; exact hP9)⟩, hS.F ht⟩) hS.2.2 dX12_either_78
        · skip
          have t9753 := cv_ne (a := r9679.toInt) rfl (b := 63) (by decide) c9680
          have hP9 : va_P (dC, dI) classes (wM g c v9668 F9669 rc) H := hP
          exact W.vret hx hb hr (fun t ht hW => ⟨⟨(v9668, F9669, rc), rfl, ⟨hI, rfl, (frC (by decide) hf9670 (frC (by decide) hf9660 (frU (by decide) (frC (by decide) hf9555 (fun _ _ => rfl))))), hF, (by show ((v9668 40).toInt ≤ (v9668 39).toInt ∧ (v 39).toInt ≤ (v9668 39).toInt ∧ (v9668 39).toInt ≤ (v 30).toInt ∧ (v 38).toInt ≤ (v9668 38).toInt ∧ (v9668 38).toInt - (v 38).toInt ≤ (v9668 39).toInt - (v 39).toInt ∧ (v 41).toInt ≤ (v9668 41).toInt ∧ ((v9668 40).toInt < 0 → (v9668 41).toInt = (v 41).toInt)) ∧ keepL (v 37) (F 28) (F 29) (F9669 28) (F9669 29) ∧ ((v9668 40).toInt < 0 → dp (F9669 28) (F9669 29) (bI (v 37)) (v9668 38).toInt.toNat = some (d + 1)) ∧ rd false (v 30) (F 24) 6 (v 41).toInt (v 39).toInt (v9668 40).toInt (v9668 39).toInt; rw [show v9668 40 = v9658 40 from hf9670 40 (by decide)]; rw [show v9668 39 = v9658 39 from hf9670 39 (by decide)]; rw [show v9668 41 = v9658 41 from hf9670 41 (by decide)]; exact ⟨by omega, hk, fun hf => (hd (by omega)).trans (congrArg some (by omega)), rd.e0 (rd.c1 (hrd_r9552.cast (by omega) rfl rfl rfl) (by omega) (by omega) (by omega) (hrd_r9657.cast (by omega) rfl rfl rfl)) (fun q9 => by omega)⟩)⟩, (by show va_P _ _ _ t.heap; rw [ht]; exact hP9)⟩, hS.F ht⟩) hS.2.2 dX12_either_70
    · skip
      have t9754 := cv_ne (a := r9562.toInt) rfl (b := 60) (by decide) c9646
      refine lv_iload_n hx hb dX12_either_22 rfl (lv_at hl 0 rfl) ?_
      refine lv_bipush (v := 61) hx hb dX12_either_23 (by decide) ?_
      refine lv_icmp_eq (tgt := 34) hx hb dX12_either_25 (by decide) (fun c9755 => ?_) (fun c9755 => ?_)
      · skip
        have t9756 := cv_eq (a := r9562.toInt) rfl (b := 61) (by decide) c9755
        refine lv_aload_n hx hb dX12_either_34 rfl (lv_at hl 1 rfl) ?_
        refine lv_dup hx hb dX12_either_35 rfl ?_
        refine va_get (D := (dC, dI)) (ci := 12) (v := .int (v9553 39)) (C := RX12) (T := TX12) (N := 63) hx hb hwd inA_X12 hown hK hP 0 rfl rfl 39 (by decide) (hwd _ wk_1004) (fun _ h9 => h9) rfl dX12_either_36 ?_
        have t9757 : 0 ≤ (v9553 39).toInt ∧ (v9553 39).toInt ≤ 120 := hI.1 39 _ _ rfl
        refine lv_iconst (v := 1) hx hb dX12_either_39 (by decide) ?_
        refine lv_iadd hx hb dX12_either_40 ?_
        refine lv_topi (fun z9758 e9759 => ?_)
        try (have t9760 := tadd e9759 (a := (v9553 39).toInt) rfl (b := 1) (by decide) (by omega))
        refine va_put (D := (dC, dI)) (ci := 12) (v := .int z9758) (ty := .int) (C := RX12) (T := TX12) (N := 63) (fs := fsM_0 g v9553 rc) hx hb hwd inA_X12 tyX12 tyX12_ok nmX12 hown hK hP (DM hg) hS 0 rfl rfl 39 (by decide) (hwd _ wk_1004) (fun _ h9 => h9) rfl (by decide +kernel) rfl rfl (Nat.le_of_ble_eq_true rfl) dX12_either_41 (fun H locs hP _ hS => ?_)
        have hP := va_P_eq (pM_39 g c _ _ _ _) hP
        have hI := IM.put hI 39 z9758 rfl (by omega)
        refine lv_aload_n hx hb dX12_either_44 rfl (lv_at hl 1 rfl) ?_
        have t9761 : 0 ≤ (v 30).toInt ∧ (v 30).toInt ≤ 120 := by have h9 := hI.1 30 _ _ rfl; rw [show (va_up v9553 39 z9758) 30 = v 30 from hf9555 30 (by decide)] at h9; exact h9
        have t9762 : 0 ≤ (v 37).toInt ∧ (v 37).toInt ≤ 9 := by have h9 := hI.1 37 _ _ rfl; rw [show (va_up v9553 39 z9758) 37 = v 37 from hf9555 37 (by decide)] at h9; exact h9
        have t9763 : 0 ≤ (v9553 38).toInt ∧ (v9553 38).toInt ≤ 120 := hI.1 38 _ _ rfl
        have t9764 : 0 ≤ z9758.toInt ∧ z9758.toInt ≤ 120 := hI.1 39 _ _ rfl
        have t9765 : 0 ≤ (v9553 41).toInt ∧ (v9553 41).toInt ≤ 8 := hI.1 41 _ _ rfl
        have hby24 : F9554 24 = F 24 := hF 24 (by decide)
        refine va_callv (va_runV (As := []) (rest := []) ⟨hx, hb, hml, hown, hwd⟩ (c_X12_sum D fr lc rO rE l dC dI g c adK adV (va_up v9553 39 z9758) F9554 rc H.size  (d + 1) hg hI (by have h9 : (va_up v9553 39 z9758) 38 = v9553 38 := rfl; (try rw [h9]); clear h9; have h9 : (va_up v9553 39 z9758) 39 = z9758 := rfl; (try rw [h9]); clear h9; have h9 : (va_up v9553 39 z9758) 30 = v 30 := hf9555 30 (by decide); (try rw [h9]); clear h9; have h9 : (va_up v9553 39 z9758) 40 = v9553 40 := rfl; (try rw [h9]); clear h9; have h9 : (va_up v9553 39 z9758) 41 = v9553 41 := rfl; (try rw [h9]); clear h9; omega) (by have h9 : (va_up v9553 39 z9758) 37 = (v 37) := hf9555 37 (by decide); have h8 : (va_up v9553 39 z9758) 38 = (v9553 38) := rfl; (try rw [h9]); (try rw [h8]); exact hd (by omega))) (cwV 0 hwd (gV wk_1043 wk_1011 wk_1012 wk_1013 wk_5) rfl rfl rfl (by decide +kernel) ⟨(by show fr + 6 + 1 ≤ fr + 7; omega), (by show 8 + (2 + 11) + (lc + 240) ≤ lc + 280; omega)⟩) ⟨PM.blind, va_recv hK hP (ci := 12) (q0 := 0) rfl rfl, fun U hU hW => ⟨rfl, PM.at hK hE hP hS hU hW⟩⟩ rfl rfl hl.1 rfl (lv_room (Nat.le_of_ble_eq_true rfl)) dX12_either_45 ⟨Nat.le_of_ble_eq_true rfl, Nat.le_of_ble_eq_true rfl⟩) hS (fun q _ h => (freeM hS) q h) (freeM hS) (fun u t H1 locs ht hvm hw hB hz1 hk1 hS => ?_)
        unfold BM at hB
        rw [ht] at hB
        obtain ⟨v9767, F9768, rc9⟩ := u
        obtain ⟨hI, hrc, hf9769, hG9770, hw⟩ := hw
        dsimp only at hI hrc hB hf9769 hG9770 hw
        have hF := frCF (by decide) hG9770 hF
        rw [hrc] at hB
        have hP : va_P (dC, dI) classes (wM g c v9767 F9768 rc) H1 := hB
        replace hw : ((v9767 40).toInt ≤ (v9767 39).toInt ∧ z9758.toInt ≤ (v9767 39).toInt ∧ (v9767 39).toInt ≤ ((va_up v9553 39 z9758) 30).toInt ∧ (v9553 38).toInt ≤ (v9767 38).toInt ∧ (v9767 38).toInt - (v9553 38).toInt ≤ (v9767 39).toInt - z9758.toInt ∧ (v9553 41).toInt ≤ (v9767 41).toInt ∧ ((v9767 40).toInt < 0 → (v9767 41).toInt = (v9553 41).toInt)) ∧ keepL ((va_up v9553 39 z9758) 37) (F9554 28) (F9554 29) (F9768 28) (F9768 29) ∧ ((v9767 40).toInt < 0 → dp (F9768 28) (F9768 29) (bI ((va_up v9553 39 z9758) 37)) (v9767 38).toInt.toNat = some ((d + 1) + 1)) ∧ rd false ((va_up v9553 39 z9758) 30) (F9554 24) 3 (v9553 41).toInt z9758.toInt (v9767 40).toInt (v9767 39).toInt := hw
        rw [show (va_up v9553 39 z9758) 30 = v 30 from hf9555 30 (by decide)] at hw
        rw [show (va_up v9553 39 z9758) 37 = v 37 from hf9555 37 (by decide)] at hw
        rw [hby24] at hw
        have hw_r9766 := hw
        clear hw
        have t9771 : 0 ≤ (v9767 38).toInt ∧ (v9767 38).toInt ≤ 120 := hI.1 38 _ _ rfl
        have t9772 : 0 ≤ (v9767 39).toInt ∧ (v9767 39).toInt ≤ 120 := hI.1 39 _ _ rfl
        have t9773 : 0 ≤ (v9767 41).toInt ∧ (v9767 41).toInt ≤ 8 := hI.1 41 _ _ rfl
        clear hz1
        generalize H1 = H at hP hS ⊢
        replace hk := hk.tr hw_r9766.2.1
        replace hd := hw_r9766.2.2.1
        have hrd_r9766 := hw_r9766.2.2.2
        replace hw_r9766 := hw_r9766.1
        refine lv_aload_n hx hb dX12_either_48 rfl (lv_at hl 1 rfl) ?_
        refine lv_iload_n hx hb dX12_either_49 rfl (lv_at hl 0 rfl) ?_
        refine lv_iconst (v := 0) hx hb dX12_either_50 (by decide) ?_
        have t9774 : 0 ≤ (v 37).toInt ∧ (v 37).toInt ≤ 9 := by have h9 := hI.1 37 _ _ rfl; rw [show v9767 37 = v 37 from (hf9769 37 (by decide)).trans (hf9555 37 (by decide))] at h9; exact h9
        have t9775 : 0 ≤ (v9767 38).toInt ∧ (v9767 38).toInt ≤ 120 := hI.1 38 _ _ rfl
        refine va_callv (va_runV (As := [.int r9562, .int 0]) (rest := []) ⟨hx, hb, hml, hown, hwd⟩ (c_X12_lay l dC dI g c adK adV v9767 F9768 rc H.size r9562 0 hg hI (by have h9 : v9767 38 = v9767 38 := rfl; rw [h9]; omega)) (cwV 2 hwd (gV wk_1021 wk_1018 wk_1019 wk_1020 wk_5) rfl rfl rfl (by decide +kernel) ⟨(by show 1 + 1 ≤ fr + 7; omega), (by show 8 + (3 + 11) + (40) ≤ lc + 280; omega)⟩) ⟨PM.blind, va_recv hK hP (ci := 12) (q0 := 0) rfl rfl, fun U hU hW => ⟨rfl, PM.at hK hE hP hS hU hW⟩⟩ rfl rfl hl.1 rfl (lv_room (Nat.le_of_ble_eq_true rfl)) dX12_either_51 ⟨Nat.le_of_ble_eq_true rfl, Nat.le_of_ble_eq_true rfl⟩) hS (fun q _ h => (freeM hS) q h) (freeM hS) (fun u t H1 locs ht hvm hw hB hz1 hk1 hS => ?_)
        unfold BM at hB
        rw [ht] at hB
        obtain ⟨v9777, F9778, rc9⟩ := u
        obtain ⟨hI, hrc, hf9779, hG9780, hw⟩ := hw
        dsimp only at hI hrc hB hf9779 hG9780 hw
        have hF := frCF (by decide) hG9780 hF
        rw [hrc] at hB
        have hP : va_P (dC, dI) classes (wM g c v9777 F9778 rc) H1 := hB
        replace hw : (v9777 38).toInt = (v9767 38).toInt + 1 ∧ keepL (v9767 37) (F9768 28) (F9768 29) (F9778 28) (F9778 29) ∧ dp (F9778 28) (F9778 29) (bI (v9767 37)) ((v9767 38).toInt.toNat + 1) = dpS (dp (F9768 28) (F9768 29) (bI (v9767 37)) (v9767 38).toInt.toNat) r9562 (0 : Int32) := hw
        rw [show v9767 37 = v 37 from (hf9769 37 (by decide)).trans (hf9555 37 (by decide))] at hw
        have hw_r9776 := hw
        clear hw
        have t9781 : 0 ≤ (v9777 38).toInt ∧ (v9777 38).toInt ≤ 120 := hI.1 38 _ _ rfl
        have k9782 : (0 : Int32).toInt = 0 := by decide
        clear hz1
        generalize H1 = H at hP hS ⊢
        replace hk := hk.tr hw_r9776.2.1
        replace hd : (v9767 40).toInt < 0 → dp (F9778 28) (F9778 29) (bI (v 37)) (v9777 38).toInt.toNat = some (((d + 1) + 1) - 1) := fun hf => (by have e9 : (v9777 38).toInt.toNat = (v9767 38).toInt.toNat + 1 := (by omega); rw [e9, hw_r9776.2.2, hd hf]; exact dpS_5 (by omega) (by omega) (by omega) (by omega) (by omega))
        replace hw_r9776 := hw_r9776.1
        refine lv_aload_n hx hb dX12_either_54 rfl (lv_at hl 1 rfl) ?_
        refine va_get (D := (dC, dI)) (ci := 12) (v := .int (v9777 40)) (C := RX12) (T := TX12) (N := 63) hx hb hwd inA_X12 hown hK hP 0 rfl rfl 40 (by decide) (hwd _ wk_1005) (fun _ h9 => h9) rfl dX12_either_55 ?_
        refine my_top (v := v9767 40) (hf9779 40 (by decide)) ?_
        refine lv_if_ge (tgt := 70) hx hb dX12_either_58 (by decide) (fun c9783 => ?_) (fun c9783 => ?_)
        · skip
          have t9784 := cv_le (a := 0) (by decide) (b := (v9767 40).toInt) rfl c9783
          have hP9 : va_P (dC, dI) classes (wM g c v9777 F9778 rc) H := hP
          exact W.vret hx hb hr (fun t ht hW => ⟨⟨(v9777, F9778, rc), rfl, ⟨hI, rfl, (frC (by decide) hf9779 (frC (by decide) hf9769 (frU (by decide) (frC (by decide) hf9555 (fun _ _ => rfl))))), hF, (by show ((v9777 40).toInt ≤ (v9777 39).toInt ∧ (v 39).toInt ≤ (v9777 39).toInt ∧ (v9777 39).toInt ≤ (v 30).toInt ∧ (v 38).toInt ≤ (v9777 38).toInt ∧ (v9777 38).toInt - (v 38).toInt ≤ (v9777 39).toInt - (v 39).toInt ∧ (v 41).toInt ≤ (v9777 41).toInt ∧ ((v9777 40).toInt < 0 → (v9777 41).toInt = (v 41).toInt)) ∧ keepL (v 37) (F 28) (F 29) (F9778 28) (F9778 29) ∧ ((v9777 40).toInt < 0 → dp (F9778 28) (F9778 29) (bI (v 37)) (v9777 38).toInt.toNat = some (d + 1)) ∧ rd false (v 30) (F 24) 6 (v 41).toInt (v 39).toInt (v9777 40).toInt (v9777 39).toInt; rw [show v9777 40 = v9767 40 from hf9779 40 (by decide)]; rw [show v9777 39 = v9767 39 from hf9779 39 (by decide)]; rw [show v9777 41 = v9767 41 from hf9779 41 (by decide)]; exact ⟨by omega, hk, fun hf => (hd (by omega)).trans (congrArg some (by omega)), rd.e0 (rd.c1 (hrd_r9552.cast (by omega) rfl rfl rfl) (by omega) (by omega) (by omega) (hrd_r9766.cast (by omega) rfl rfl rfl)) (fun q9 => by omega)⟩)⟩, (by show va_P _ _ _ t.heap; rw [ht]; exact hP9)⟩, hS.F ht⟩) hS.2.2 dX12_either_70
        · skip
          have t9785 := cv_nle (a := 0) (by decide) (b := (v9767 40).toInt) rfl c9783
          refine lv_aload_n hx hb dX12_either_61 rfl (lv_at hl 1 rfl) ?_
          have t9786 : 0 ≤ (v 30).toInt ∧ (v 30).toInt ≤ 120 := by have h9 := hI.1 30 _ _ rfl; rw [show v9777 30 = v 30 from (hf9779 30 (by decide)).trans ((hf9769 30 (by decide)).trans (hf9555 30 (by decide)))] at h9; exact h9
          have t9787 : 0 ≤ (v9767 39).toInt ∧ (v9767 39).toInt ≤ 120 := by have h9 := hI.1 39 _ _ rfl; rw [show v9777 39 = v9767 39 from hf9779 39 (by decide)] at h9; exact h9
          have hby24 : F9778 24 = F 24 := hF 24 (by decide)
          refine va_calli (va_runV (As := []) (rest := []) ⟨hx, hb, hml, hown, hwd⟩ (c_X12_look l dC dI g c adK adV v9777 F9778 rc H.size  hg hI ) (cwV 0 hwd (gV wk_1017 wk_1014 wk_1015 wk_1016 wk_5) rfl rfl rfl (by decide +kernel) ⟨(by show 1 + 1 ≤ fr + 7; omega), (by show 8 + (1 + 11) + (40) ≤ lc + 280; omega)⟩) ⟨PM.blind, va_recv hK hP (ci := 12) (q0 := 0) rfl rfl, fun U hU hW => ⟨rfl, PM.at hK hE hP hS hU hW⟩⟩ rfl rfl hl.1 rfl (lv_room (Nat.le_of_ble_eq_true rfl)) dX12_either_62 ⟨Nat.le_of_ble_eq_true rfl, Nat.le_of_ble_eq_true rfl⟩) hS (fun q _ h => (freeM hS) q h) (freeM hS) (fun r9788 u t H1 locs ht hvm hw hB hz1 hk1 hS => ?_)
          unfold BM at hB
          rw [ht] at hB
          have hP : va_P (dC, dI) classes (wM g c v9777 F9778 rc) H1 := hB
          replace hw : r9788.toInt = sg (v9777 30) (F9778 24) (v9777 39).toInt ∧ ((v9777 39).toInt < (v9777 30).toInt ∨ r9788.toInt = -1) := hw
          rw [show v9777 39 = v9767 39 from hf9779 39 (by decide)] at hw
          rw [show v9777 30 = v 30 from (hf9779 30 (by decide)).trans ((hf9769 30 (by decide)).trans (hf9555 30 (by decide)))] at hw
          rw [hby24] at hw
          have hw_r9788 := hw
          clear hw
          clear hz1
          generalize H1 = H at hP hS ⊢
          refine lv_bipush (v := 63) hx hb dX12_either_65 (by decide) ?_
          refine lv_icmp_eq (tgt := 71) hx hb dX12_either_67 (by decide) (fun c9789 => ?_) (fun c9789 => ?_)
          · skip
            have t9790 := cv_eq (a := r9788.toInt) rfl (b := 63) (by decide) c9789
            refine lv_aload_n hx hb dX12_either_71 rfl (lv_at hl 1 rfl) ?_
            have t9791 : 0 ≤ (v9767 39).toInt ∧ (v9767 39).toInt ≤ 120 := by have h9 := hI.1 39 _ _ rfl; rw [show v9777 39 = v9767 39 from hf9779 39 (by decide)] at h9; exact h9
            have t9792 : 0 ≤ (v9767 41).toInt ∧ (v9767 41).toInt ≤ 8 := by have h9 := hI.1 41 _ _ rfl; rw [show v9777 41 = v9767 41 from hf9779 41 (by decide)] at h9; exact h9
            refine va_calli (va_runV (As := []) (rest := []) ⟨hx, hb, hml, hown, hwd⟩ (c_X12_opens l dC dI g c adK adV v9777 F9778 rc H.size  hg hI (by have h9 : v9777 39 = v9767 39 := hf9779 39 (by decide); (try rw [h9]); clear h9; have h9 : v9777 30 = v 30 := (hf9779 30 (by decide)).trans ((hf9769 30 (by decide)).trans (hf9555 30 (by decide))); (try rw [h9]); clear h9; omega)) (cwV 0 hwd (gV wk_1025 wk_1022 wk_1023 wk_1024 wk_5) rfl rfl rfl (by decide +kernel) ⟨(by show 2 + 1 ≤ fr + 7; omega), (by show 8 + (1 + 11) + (80) ≤ lc + 280; omega)⟩) ⟨PM.blind, va_recv hK hP (ci := 12) (q0 := 0) rfl rfl, fun U hU hW => ⟨rfl, PM.at hK hE hP hS hU hW⟩⟩ rfl rfl hl.1 rfl (lv_room (Nat.le_of_ble_eq_true rfl)) dX12_either_72 ⟨Nat.le_of_ble_eq_true rfl, Nat.le_of_ble_eq_true rfl⟩) hS (fun q _ h => (freeM hS) q h) (freeM hS) (fun r9793 u t H1 locs ht hvm hw hB hz1 hk1 hS => ?_)
            unfold BM at hB
            rw [ht] at hB
            obtain ⟨v9794, F9795, rc9⟩ := u
            obtain ⟨hI, hrc, hf9796, hG9797, hw⟩ := hw
            dsimp only at hI hrc hB hf9796 hG9797 hw
            have hF := frCF (by decide) hG9797 hF
            rw [hrc] at hB
            have hP : va_P (dC, dI) classes (wM g c v9794 F9795 rc) H1 := hB
            replace hw : (r9793.toInt = 1 ∧ (v9777 41).toInt < 8 ∧ (v9794 41).toInt = (v9777 41).toInt + 1 ∧ (v9794 39).toInt = (v9777 39).toInt + 1 ∧ (v9794 40).toInt = (v9777 40).toInt) ∨ (r9793.toInt = 0 ∧ (v9777 41).toInt = 8 ∧ 0 ≤ (v9794 40).toInt ∧ (0 ≤ (v9777 40).toInt ∨ (v9794 40).toInt = (v9777 39).toInt) ∧  (v9794 41).toInt = (v9777 41).toInt ∧ (v9794 39).toInt = (v9777 39).toInt) := hw
            rw [show v9777 41 = v9767 41 from hf9779 41 (by decide)] at hw
            rw [show v9777 39 = v9767 39 from hf9779 39 (by decide)] at hw
            rw [show v9777 40 = v9767 40 from hf9779 40 (by decide)] at hw
            have hw_r9793 := hw
            clear hw
            have t9798 : 0 ≤ (v9794 39).toInt ∧ (v9794 39).toInt ≤ 120 := hI.1 39 _ _ rfl
            have t9799 : 0 ≤ (v9794 41).toInt ∧ (v9794 41).toInt ≤ 8 := hI.1 41 _ _ rfl
            clear hz1
            generalize H1 = H at hP hS ⊢
            replace hk : keepL (v 37) (F 28) (F 29) (F9795 28) (F9795 29) := by rw [hG9797 28 (by decide), hG9797 29 (by decide)]; exact hk
            replace hd : (v9794 40).toInt < 0 → dp (F9795 28) (F9795 29) (bI (v 37)) (v9777 38).toInt.toNat = some (((d + 1) + 1) - 1) := fun hf => (by rw [hG9797 28 (by decide), hG9797 29 (by decide)]; exact hd (by omega))
            refine lv_if_ne (tgt := 79) hx hb dX12_either_75 (by decide) (fun c9800 => ?_) (fun c9800 => ?_)
            · skip
              have t9801 := cv_ne (a := r9793.toInt) rfl (b := 0) (by decide) c9800
              refine lv_aload_n hx hb dX12_either_79 rfl (lv_at hl 1 rfl) ?_
              have t9802 : 0 ≤ (v 30).toInt ∧ (v 30).toInt ≤ 120 := by have h9 := hI.1 30 _ _ rfl; rw [show v9794 30 = v 30 from (hf9796 30 (by decide)).trans ((hf9779 30 (by decide)).trans ((hf9769 30 (by decide)).trans (hf9555 30 (by decide))))] at h9; exact h9
              have t9803 : 0 ≤ (v 37).toInt ∧ (v 37).toInt ≤ 9 := by have h9 := hI.1 37 _ _ rfl; rw [show v9794 37 = v 37 from (hf9796 37 (by decide)).trans ((hf9779 37 (by decide)).trans ((hf9769 37 (by decide)).trans (hf9555 37 (by decide))))] at h9; exact h9
              have t9804 : 0 ≤ (v9777 38).toInt ∧ (v9777 38).toInt ≤ 120 := by have h9 := hI.1 38 _ _ rfl; rw [show v9794 38 = v9777 38 from hf9796 38 (by decide)] at h9; exact h9
              have t9805 : 0 ≤ (v9794 39).toInt ∧ (v9794 39).toInt ≤ 120 := hI.1 39 _ _ rfl
              have t9806 : 0 ≤ (v9794 41).toInt ∧ (v9794 41).toInt ≤ 8 := hI.1 41 _ _ rfl
              have hby24 : F9795 24 = F 24 := hF 24 (by decide)
              refine va_callv (va_runV (As := []) (rest := []) ⟨hx, hb, hml, hown, hwd⟩ (rE l dC dI g c adK adV v9794 F9795 rc H.size  (((d + 1) + 1) - 1) hg hI (by have h9 : v9794 38 = v9777 38 := hf9796 38 (by decide); (try rw [h9]); clear h9; have h9 : v9794 39 = v9794 39 := rfl; (try rw [h9]); clear h9; have h9 : v9794 30 = v 30 := (hf9796 30 (by decide)).trans ((hf9779 30 (by decide)).trans ((hf9769 30 (by decide)).trans (hf9555 30 (by decide)))); (try rw [h9]); clear h9; have h9 : v9794 40 = v9794 40 := rfl; (try rw [h9]); clear h9; have h9 : v9794 41 = v9794 41 := rfl; (try rw [h9]); clear h9; omega) (by have h9 : v9794 37 = (v 37) := (hf9796 37 (by decide)).trans ((hf9779 37 (by decide)).trans ((hf9769 37 (by decide)).trans (hf9555 37 (by decide)))); have h8 : v9794 38 = (v9777 38) := hf9796 38 (by decide); (try rw [h9]); (try rw [h8]); exact hd (by omega))) (cwV 0 hwd (gV wk_1010 wk_1007 wk_1008 wk_1009 wk_5) rfl rfl rfl (by decide +kernel) ⟨(by show fr + 3 + 1 ≤ fr + 7; omega), (by show 8 + (2 + 11) + (lc + 120) ≤ lc + 280; omega)⟩) ⟨PM.blind, va_recv hK hP (ci := 12) (q0 := 0) rfl rfl, fun U hU hW => ⟨rfl, PM.at hK hE hP hS hU hW⟩⟩ rfl rfl hl.1 rfl (lv_room (Nat.le_of_ble_eq_true rfl)) dX12_either_80 ⟨Nat.le_of_ble_eq_true rfl, Nat.le_of_ble_eq_true rfl⟩) hS (fun q _ h => (freeM hS) q h) (freeM hS) (fun u t H1 locs ht hvm hw hB hz1 hk1 hS => ?_)
              unfold BM at hB
              rw [ht] at hB
              obtain ⟨v9808, F9809, rc9⟩ := u
              obtain ⟨hI, hrc, hf9810, hG9811, hw⟩ := hw
              dsimp only at hI hrc hB hf9810 hG9811 hw
              have hF := frCF (by decide) hG9811 hF
              rw [hrc] at hB
              have hP : va_P (dC, dI) classes (wM g c v9808 F9809 rc) H1 := hB
              replace hw : ((v9808 40).toInt ≤ (v9808 39).toInt ∧ (v9794 39).toInt ≤ (v9808 39).toInt ∧ (v9808 39).toInt ≤ (v9794 30).toInt ∧ (v9794 38).toInt ≤ (v9808 38).toInt ∧ (v9808 38).toInt - (v9794 38).toInt ≤ (v9808 39).toInt - (v9794 39).toInt ∧ (v9794 41).toInt ≤ (v9808 41).toInt ∧ ((v9808 40).toInt < 0 → (v9808 41).toInt = (v9794 41).toInt)) ∧ keepL (v9794 37) (F9795 28) (F9795 29) (F9809 28) (F9809 29) ∧ ((v9808 40).toInt < 0 → dp (F9809 28) (F9809 29) (bI (v9794 37)) (v9808 38).toInt.toNat = some ((((d + 1) + 1) - 1) + 1)) ∧ rd false (v9794 30) (F9795 24) 6 (v9794 41).toInt (v9794 39).toInt (v9808 40).toInt (v9808 39).toInt := hw
              rw [show v9794 30 = v 30 from (hf9796 30 (by decide)).trans ((hf9779 30 (by decide)).trans ((hf9769 30 (by decide)).trans (hf9555 30 (by decide))))] at hw
              rw [show v9794 38 = v9777 38 from hf9796 38 (by decide)] at hw
              rw [show v9794 37 = v 37 from (hf9796 37 (by decide)).trans ((hf9779 37 (by decide)).trans ((hf9769 37 (by decide)).trans (hf9555 37 (by decide))))] at hw
              rw [hby24] at hw
              have hw_r9807 := hw
              clear hw
              have t9812 : 0 ≤ (v9808 38).toInt ∧ (v9808 38).toInt ≤ 120 := hI.1 38 _ _ rfl
              have t9813 : 0 ≤ (v9808 39).toInt ∧ (v9808 39).toInt ≤ 120 := hI.1 39 _ _ rfl
              have t9814 : 0 ≤ (v9808 41).toInt ∧ (v9808 41).toInt ≤ 8 := hI.1 41 _ _ rfl
              clear hz1
              generalize H1 = H at hP hS ⊢
              replace hk := hk.tr hw_r9807.2.1
              replace hd := hw_r9807.2.2.1
              have hrd_r9807 := hw_r9807.2.2.2
              replace hw_r9807 := hw_r9807.1
              refine lv_aload_n hx hb dX12_either_83 rfl (lv_at hl 1 rfl) ?_
              refine va_get (D := (dC, dI)) (ci := 12) (v := .int (v9808 40)) (C := RX12) (T := TX12) (N := 63) hx hb hwd inA_X12 hown hK hP 0 rfl rfl 40 (by decide) (hwd _ wk_1005) (fun _ h9 => h9) rfl dX12_either_84 ?_
              refine lv_if_lt (tgt := 91) hx hb dX12_either_87 (by decide) (fun c9815 => ?_) (fun c9815 => ?_)
              · skip
                have t9816 := cv_lt (a := (v9808 40).toInt) rfl (b := 0) (by decide) c9815
                refine lv_aload_n hx hb dX12_either_91 rfl (lv_at hl 1 rfl) ?_
                have t9817 : 0 ≤ (v 30).toInt ∧ (v 30).toInt ≤ 120 := by have h9 := hI.1 30 _ _ rfl; rw [show v9808 30 = v 30 from (hf9810 30 (by decide)).trans ((hf9796 30 (by decide)).trans ((hf9779 30 (by decide)).trans ((hf9769 30 (by decide)).trans (hf9555 30 (by decide)))))] at h9; exact h9
                have t9818 : 0 ≤ (v9808 39).toInt ∧ (v9808 39).toInt ≤ 120 := hI.1 39 _ _ rfl
                have hby24 : F9809 24 = F 24 := hF 24 (by decide)
                refine va_calli (va_runV (As := []) (rest := []) ⟨hx, hb, hml, hown, hwd⟩ (c_X12_look l dC dI g c adK adV v9808 F9809 rc H.size  hg hI ) (cwV 0 hwd (gV wk_1017 wk_1014 wk_1015 wk_1016 wk_5) rfl rfl rfl (by decide +kernel) ⟨(by show 1 + 1 ≤ fr + 7; omega), (by show 8 + (1 + 11) + (40) ≤ lc + 280; omega)⟩) ⟨PM.blind, va_recv hK hP (ci := 12) (q0 := 0) rfl rfl, fun U hU hW => ⟨rfl, PM.at hK hE hP hS hU hW⟩⟩ rfl rfl hl.1 rfl (lv_room (Nat.le_of_ble_eq_true rfl)) dX12_either_92 ⟨Nat.le_of_ble_eq_true rfl, Nat.le_of_ble_eq_true rfl⟩) hS (fun q _ h => (freeM hS) q h) (freeM hS) (fun r9819 u t H1 locs ht hvm hw hB hz1 hk1 hS => ?_)
                unfold BM at hB
                rw [ht] at hB
                have hP : va_P (dC, dI) classes (wM g c v9808 F9809 rc) H1 := hB
                replace hw : r9819.toInt = sg (v9808 30) (F9809 24) (v9808 39).toInt ∧ ((v9808 39).toInt < (v9808 30).toInt ∨ r9819.toInt = -1) := hw
                rw [show v9808 30 = v 30 from (hf9810 30 (by decide)).trans ((hf9796 30 (by decide)).trans ((hf9779 30 (by decide)).trans ((hf9769 30 (by decide)).trans (hf9555 30 (by decide)))))] at hw
                rw [hby24] at hw
                have hw_r9819 := hw
                clear hw
                clear hz1
                generalize H1 = H at hP hS ⊢
                refine lv_bipush (v := 58) hx hb dX12_either_95 (by decide) ?_
                refine lv_icmp_eq (tgt := 105) hx hb dX12_either_97 (by decide) (fun c9820 => ?_) (fun c9820 => ?_)
                · skip
                  have t9821 := cv_eq (a := r9819.toInt) rfl (b := 58) (by decide) c9820
                  refine lv_aload_n hx hb dX12_either_105 rfl (lv_at hl 1 rfl) ?_
                  refine lv_dup hx hb dX12_either_106 rfl ?_
                  refine va_get (D := (dC, dI)) (ci := 12) (v := .int (v9808 39)) (C := RX12) (T := TX12) (N := 63) hx hb hwd inA_X12 hown hK hP 0 rfl rfl 39 (by decide) (hwd _ wk_1004) (fun _ h9 => h9) rfl dX12_either_107 ?_
                  have t9822 : 0 ≤ (v9808 39).toInt ∧ (v9808 39).toInt ≤ 120 := hI.1 39 _ _ rfl
                  refine lv_iconst (v := 1) hx hb dX12_either_110 (by decide) ?_
                  refine lv_iadd hx hb dX12_either_111 ?_
                  refine lv_topi (fun z9823 e9824 => ?_)
                  try (have t9825 := tadd e9824 (a := (v9808 39).toInt) rfl (b := 1) (by decide) (by omega))
                  refine va_put (D := (dC, dI)) (ci := 12) (v := .int z9823) (ty := .int) (C := RX12) (T := TX12) (N := 63) (fs := fsM_0 g v9808 rc) hx hb hwd inA_X12 tyX12 tyX12_ok nmX12 hown hK hP (DM hg) hS 0 rfl rfl 39 (by decide) (hwd _ wk_1004) (fun _ h9 => h9) rfl (by decide +kernel) rfl rfl (Nat.le_of_ble_eq_true rfl) dX12_either_112 (fun H locs hP _ hS => ?_)
                  have hP := va_P_eq (pM_39 g c _ _ _ _) hP
                  have hI := IM.put hI 39 z9823 rfl (by omega)
                  refine lv_aload_n hx hb dX12_either_115 rfl (lv_at hl 1 rfl) ?_
                  have t9826 : 0 ≤ (v 30).toInt ∧ (v 30).toInt ≤ 120 := by have h9 := hI.1 30 _ _ rfl; rw [show (va_up v9808 39 z9823) 30 = v 30 from (hf9810 30 (by decide)).trans ((hf9796 30 (by decide)).trans ((hf9779 30 (by decide)).trans ((hf9769 30 (by decide)).trans (hf9555 30 (by decide)))))] at h9; exact h9
                  have t9827 : 0 ≤ (v 37).toInt ∧ (v 37).toInt ≤ 9 := by have h9 := hI.1 37 _ _ rfl; rw [show (va_up v9808 39 z9823) 37 = v 37 from (hf9810 37 (by decide)).trans ((hf9796 37 (by decide)).trans ((hf9779 37 (by decide)).trans ((hf9769 37 (by decide)).trans (hf9555 37 (by decide)))))] at h9; exact h9
                  have t9828 : 0 ≤ (v9808 38).toInt ∧ (v9808 38).toInt ≤ 120 := hI.1 38 _ _ rfl
                  have t9829 : 0 ≤ z9823.toInt ∧ z9823.toInt ≤ 120 := hI.1 39 _ _ rfl
                  have t9830 : 0 ≤ (v9808 41).toInt ∧ (v9808 41).toInt ≤ 8 := hI.1 41 _ _ rfl
                  have hby24 : F9809 24 = F 24 := hF 24 (by decide)
                  refine va_callv (va_runV (As := []) (rest := []) ⟨hx, hb, hml, hown, hwd⟩ (rE l dC dI g c adK adV (va_up v9808 39 z9823) F9809 rc H.size  ((((d + 1) + 1) - 1) + 1) hg hI (by have h9 : (va_up v9808 39 z9823) 38 = v9808 38 := rfl; (try rw [h9]); clear h9; have h9 : (va_up v9808 39 z9823) 39 = z9823 := rfl; (try rw [h9]); clear h9; have h9 : (va_up v9808 39 z9823) 30 = v 30 := (hf9810 30 (by decide)).trans ((hf9796 30 (by decide)).trans ((hf9779 30 (by decide)).trans ((hf9769 30 (by decide)).trans (hf9555 30 (by decide))))); (try rw [h9]); clear h9; have h9 : (va_up v9808 39 z9823) 40 = v9808 40 := rfl; (try rw [h9]); clear h9; have h9 : (va_up v9808 39 z9823) 41 = v9808 41 := rfl; (try rw [h9]); clear h9; omega) (by have h9 : (va_up v9808 39 z9823) 37 = (v 37) := (hf9810 37 (by decide)).trans ((hf9796 37 (by decide)).trans ((hf9779 37 (by decide)).trans ((hf9769 37 (by decide)).trans (hf9555 37 (by decide))))); have h8 : (va_up v9808 39 z9823) 38 = (v9808 38) := rfl; (try rw [h9]); (try rw [h8]); exact hd (by omega))) (cwV 0 hwd (gV wk_1010 wk_1007 wk_1008 wk_1009 wk_5) rfl rfl rfl (by decide +kernel) ⟨(by show fr + 3 + 1 ≤ fr + 7; omega), (by show 8 + (2 + 11) + (lc + 120) ≤ lc + 280; omega)⟩) ⟨PM.blind, va_recv hK hP (ci := 12) (q0 := 0) rfl rfl, fun U hU hW => ⟨rfl, PM.at hK hE hP hS hU hW⟩⟩ rfl rfl hl.1 rfl (lv_room (Nat.le_of_ble_eq_true rfl)) dX12_either_116 ⟨Nat.le_of_ble_eq_true rfl, Nat.le_of_ble_eq_true rfl⟩) hS (fun q _ h => (freeM hS) q h) (freeM hS) (fun u t H1 locs ht hvm hw hB hz1 hk1 hS => ?_)
                  unfold BM at hB
                  rw [ht] at hB
                  obtain ⟨v9832, F9833, rc9⟩ := u
                  obtain ⟨hI, hrc, hf9834, hG9835, hw⟩ := hw
                  dsimp only at hI hrc hB hf9834 hG9835 hw
                  have hF := frCF (by decide) hG9835 hF
                  rw [hrc] at hB
                  have hP : va_P (dC, dI) classes (wM g c v9832 F9833 rc) H1 := hB
                  replace hw : ((v9832 40).toInt ≤ (v9832 39).toInt ∧ z9823.toInt ≤ (v9832 39).toInt ∧ (v9832 39).toInt ≤ ((va_up v9808 39 z9823) 30).toInt ∧ (v9808 38).toInt ≤ (v9832 38).toInt ∧ (v9832 38).toInt - (v9808 38).toInt ≤ (v9832 39).toInt - z9823.toInt ∧ (v9808 41).toInt ≤ (v9832 41).toInt ∧ ((v9832 40).toInt < 0 → (v9832 41).toInt = (v9808 41).toInt)) ∧ keepL ((va_up v9808 39 z9823) 37) (F9809 28) (F9809 29) (F9833 28) (F9833 29) ∧ ((v9832 40).toInt < 0 → dp (F9833 28) (F9833 29) (bI ((va_up v9808 39 z9823) 37)) (v9832 38).toInt.toNat = some (((((d + 1) + 1) - 1) + 1) + 1)) ∧ rd false ((va_up v9808 39 z9823) 30) (F9809 24) 6 (v9808 41).toInt z9823.toInt (v9832 40).toInt (v9832 39).toInt := hw
                  rw [show (va_up v9808 39 z9823) 30 = v 30 from (hf9810 30 (by decide)).trans ((hf9796 30 (by decide)).trans ((hf9779 30 (by decide)).trans ((hf9769 30 (by decide)).trans (hf9555 30 (by decide)))))] at hw
                  rw [show (va_up v9808 39 z9823) 37 = v 37 from (hf9810 37 (by decide)).trans ((hf9796 37 (by decide)).trans ((hf9779 37 (by decide)).trans ((hf9769 37 (by decide)).trans (hf9555 37 (by decide)))))] at hw
                  rw [hby24] at hw
                  have hw_r9831 := hw
                  clear hw
                  have t9836 : 0 ≤ (v9832 38).toInt ∧ (v9832 38).toInt ≤ 120 := hI.1 38 _ _ rfl
                  have t9837 : 0 ≤ (v9832 39).toInt ∧ (v9832 39).toInt ≤ 120 := hI.1 39 _ _ rfl
                  have t9838 : 0 ≤ (v9832 41).toInt ∧ (v9832 41).toInt ≤ 8 := hI.1 41 _ _ rfl
                  clear hz1
                  generalize H1 = H at hP hS ⊢
                  replace hk := hk.tr hw_r9831.2.1
                  replace hd := hw_r9831.2.2.1
                  have hrd_r9831 := hw_r9831.2.2.2
                  replace hw_r9831 := hw_r9831.1
                  refine lv_aload_n hx hb dX12_either_119 rfl (lv_at hl 1 rfl) ?_
                  refine lv_iconst (v := 4) hx hb dX12_either_120 (by decide) ?_
                  refine lv_iconst (v := 0) hx hb dX12_either_121 (by decide) ?_
                  have t9839 : 0 ≤ (v 37).toInt ∧ (v 37).toInt ≤ 9 := by have h9 := hI.1 37 _ _ rfl; rw [show v9832 37 = v 37 from (hf9834 37 (by decide)).trans ((hf9810 37 (by decide)).trans ((hf9796 37 (by decide)).trans ((hf9779 37 (by decide)).trans ((hf9769 37 (by decide)).trans (hf9555 37 (by decide))))))] at h9; exact h9
                  have t9840 : 0 ≤ (v9832 38).toInt ∧ (v9832 38).toInt ≤ 120 := hI.1 38 _ _ rfl
                  refine va_callv (va_runV (As := [.int 4, .int 0]) (rest := []) ⟨hx, hb, hml, hown, hwd⟩ (c_X12_lay l dC dI g c adK adV v9832 F9833 rc H.size 4 0 hg hI (by have h9 : v9832 38 = v9832 38 := rfl; rw [h9]; omega)) (cwV 2 hwd (gV wk_1021 wk_1018 wk_1019 wk_1020 wk_5) rfl rfl rfl (by decide +kernel) ⟨(by show 1 + 1 ≤ fr + 7; omega), (by show 8 + (3 + 11) + (40) ≤ lc + 280; omega)⟩) ⟨PM.blind, va_recv hK hP (ci := 12) (q0 := 0) rfl rfl, fun U hU hW => ⟨rfl, PM.at hK hE hP hS hU hW⟩⟩ rfl rfl hl.1 rfl (lv_room (Nat.le_of_ble_eq_true rfl)) dX12_either_122 ⟨Nat.le_of_ble_eq_true rfl, Nat.le_of_ble_eq_true rfl⟩) hS (fun q _ h => (freeM hS) q h) (freeM hS) (fun u t H1 locs ht hvm hw hB hz1 hk1 hS => ?_)
                  unfold BM at hB
                  rw [ht] at hB
                  obtain ⟨v9842, F9843, rc9⟩ := u
                  obtain ⟨hI, hrc, hf9844, hG9845, hw⟩ := hw
                  dsimp only at hI hrc hB hf9844 hG9845 hw
                  have hF := frCF (by decide) hG9845 hF
                  rw [hrc] at hB
                  have hP : va_P (dC, dI) classes (wM g c v9842 F9843 rc) H1 := hB
                  replace hw : (v9842 38).toInt = (v9832 38).toInt + 1 ∧ keepL (v9832 37) (F9833 28) (F9833 29) (F9843 28) (F9843 29) ∧ dp (F9843 28) (F9843 29) (bI (v9832 37)) ((v9832 38).toInt.toNat + 1) = dpS (dp (F9833 28) (F9833 29) (bI (v9832 37)) (v9832 38).toInt.toNat) (4 : Int32) (0 : Int32) := hw
                  rw [show v9832 37 = v 37 from (hf9834 37 (by decide)).trans ((hf9810 37 (by decide)).trans ((hf9796 37 (by decide)).trans ((hf9779 37 (by decide)).trans ((hf9769 37 (by decide)).trans (hf9555 37 (by decide))))))] at hw
                  have hw_r9841 := hw
                  clear hw
                  have t9846 : 0 ≤ (v9842 38).toInt ∧ (v9842 38).toInt ≤ 120 := hI.1 38 _ _ rfl
                  have k9847 : (4 : Int32).toInt = 4 := by decide
                  have k9848 : (0 : Int32).toInt = 0 := by decide
                  clear hz1
                  generalize H1 = H at hP hS ⊢
                  replace hk := hk.tr hw_r9841.2.1
                  replace hd : (v9832 40).toInt < 0 → dp (F9843 28) (F9843 29) (bI (v 37)) (v9842 38).toInt.toNat = some ((((((d + 1) + 1) - 1) + 1) + 1) - 2) := fun hf => (by have e9 : (v9842 38).toInt.toNat = (v9832 38).toInt.toNat + 1 := (by omega); rw [e9, hw_r9841.2.2, hd hf]; exact dpS_4 (by decide) (by omega))
                  replace hw_r9841 := hw_r9841.1
                  refine lv_aload_n hx hb dX12_either_125 rfl (lv_at hl 1 rfl) ?_
                  refine lv_dup hx hb dX12_either_126 rfl ?_
                  refine va_get (D := (dC, dI)) (ci := 12) (v := .int (v9842 41)) (C := RX12) (T := TX12) (N := 63) hx hb hwd inA_X12 hown hK hP 0 rfl rfl 41 (by decide) (hwd _ wk_1006) (fun _ h9 => h9) rfl dX12_either_127 ?_
                  refine my_top (v := v9832 41) (hf9844 41 (by decide)) ?_
                  have t9849 : 0 ≤ (v9832 41).toInt ∧ (v9832 41).toInt ≤ 8 := by have h9 := hI.1 41 _ _ rfl; rw [show v9842 41 = v9832 41 from hf9844 41 (by decide)] at h9; exact h9
                  refine lv_iconst (v := 1) hx hb dX12_either_130 (by decide) ?_
                  refine lv_isub hx hb dX12_either_131 ?_
                  refine lv_topi (fun z9850 e9851 => ?_)
                  try (have t9852 := tsub e9851 (a := (v9832 41).toInt) rfl (b := 1) (by decide) (by omega))
                  refine va_put (D := (dC, dI)) (ci := 12) (v := .int z9850) (ty := .int) (C := RX12) (T := TX12) (N := 63) (fs := fsM_0 g v9842 rc) hx hb hwd inA_X12 tyX12 tyX12_ok nmX12 hown hK hP (DM hg) hS 0 rfl rfl 41 (by decide) (hwd _ wk_1006) (fun _ h9 => h9) rfl (by decide +kernel) rfl rfl (Nat.le_of_ble_eq_true rfl) dX12_either_132 (fun H locs hP _ hS => ?_)
                  have hP := va_P_eq (pM_41 g c _ _ _ _) hP
                  have hI := IM.put hI 41 z9850 rfl (by omega)
                  have hP9 : va_P (dC, dI) classes (wM g c (va_up v9842 41 z9850) F9843 rc) H := hP
                  exact W.vret hx hb hr (fun t ht hW => ⟨⟨((va_up v9842 41 z9850), F9843, rc), rfl, ⟨hI, rfl, (frU (by decide) (frC (by decide) hf9844 (frC (by decide) hf9834 (frU (by decide) (frC (by decide) hf9810 (frC (by decide) hf9796 (frC (by decide) hf9779 (frC (by decide) hf9769 (frU (by decide) (frC (by decide) hf9555 (fun _ _ => rfl))))))))))), hF, (by show (((va_up v9842 41 z9850) 40).toInt ≤ ((va_up v9842 41 z9850) 39).toInt ∧ (v 39).toInt ≤ ((va_up v9842 41 z9850) 39).toInt ∧ ((va_up v9842 41 z9850) 39).toInt ≤ (v 30).toInt ∧ (v 38).toInt ≤ (v9842 38).toInt ∧ (v9842 38).toInt - (v 38).toInt ≤ ((va_up v9842 41 z9850) 39).toInt - (v 39).toInt ∧ (v 41).toInt ≤ z9850.toInt ∧ (((va_up v9842 41 z9850) 40).toInt < 0 → z9850.toInt = (v 41).toInt)) ∧ keepL (v 37) (F 28) (F 29) (F9843 28) (F9843 29) ∧ (((va_up v9842 41 z9850) 40).toInt < 0 → dp (F9843 28) (F9843 29) (bI (v 37)) (v9842 38).toInt.toNat = some (d + 1)) ∧ rd false (v 30) (F 24) 6 (v 41).toInt (v 39).toInt ((va_up v9842 41 z9850) 40).toInt ((va_up v9842 41 z9850) 39).toInt; rw [show (va_up v9842 41 z9850) 40 = v9832 40 from hf9844 40 (by decide)]; rw [show (va_up v9842 41 z9850) 39 = v9832 39 from hf9844 39 (by decide)]; exact ⟨by omega, hk, fun hf => (hd (by omega)).trans (congrArg some (by omega)), rd.eX (f2 := -1) (rd.c1 (hrd_r9552.cast (by omega) rfl rfl rfl) (by omega) (by omega) (by omega) (hrd_r9766.cast (by omega) rfl rfl rfl)) (by omega) (by omega) (by omega) (by omega) (by omega) hrd_r9807 (by omega) (by omega) (fun _ _ => hrd_r9831)⟩)⟩, (by show va_P _ _ _ t.heap; rw [ht]; exact hP9)⟩, hS.F ht⟩) hS.2.2 dX12_either_135
                · skip
                  have t9853 := cv_ne (a := r9819.toInt) rfl (b := 58) (by decide) c9820
                  refine lv_aload_n hx hb dX12_either_100 rfl (lv_at hl 1 rfl) ?_
                  have t9854 : 0 ≤ (v9808 39).toInt ∧ (v9808 39).toInt ≤ 120 := hI.1 39 _ _ rfl
                  refine va_callv (va_runV (As := []) (rest := []) ⟨hx, hb, hml, hown, hwd⟩ (c_X12_wrong l dC dI g c adK adV v9808 F9809 rc H.size  hg hI ) (cwV 0 hwd (gV wk_1029 wk_1026 wk_1027 wk_1028 wk_5) rfl rfl rfl (by decide +kernel) ⟨(by show 1 + 1 ≤ fr + 7; omega), (by show 8 + (1 + 11) + (40) ≤ lc + 280; omega)⟩) ⟨PM.blind, va_recv hK hP (ci := 12) (q0 := 0) rfl rfl, fun U hU hW => ⟨rfl, PM.at hK hE hP hS hU hW⟩⟩ rfl rfl hl.1 rfl (lv_room (Nat.le_of_ble_eq_true rfl)) dX12_either_101 ⟨Nat.le_of_ble_eq_true rfl, Nat.le_of_ble_eq_true rfl⟩) hS (fun q _ h => (freeM hS) q h) (freeM hS) (fun u t H1 locs ht hvm hw hB hz1 hk1 hS => ?_)
                  unfold BM at hB
                  rw [ht] at hB
                  obtain ⟨v9856, F9857, rc9⟩ := u
                  obtain ⟨hI, hrc, hf9858, hG9859, hw⟩ := hw
                  dsimp only at hI hrc hB hf9858 hG9859 hw
                  have hF := frCF (by decide) hG9859 hF
                  rw [hrc] at hB
                  have hP : va_P (dC, dI) classes (wM g c v9856 F9857 rc) H1 := hB
                  replace hw : ((v9808 40).toInt < 0 ∧ (v9856 40).toInt = (v9808 39).toInt) ∨ (0 ≤ (v9808 40).toInt ∧ (v9856 40).toInt = (v9808 40).toInt) := hw
                  have hw_r9855 := hw
                  clear hw
                  clear hz1
                  generalize H1 = H at hP hS ⊢
                  replace hk : keepL (v 37) (F 28) (F 29) (F9857 28) (F9857 29) := by rw [hG9859 28 (by decide), hG9859 29 (by decide)]; exact hk
                  replace hd : (v9856 40).toInt < 0 → dp (F9857 28) (F9857 29) (bI (v 37)) (v9808 38).toInt.toNat = some ((((d + 1) + 1) - 1) + 1) := fun hf => (by rw [hG9859 28 (by decide), hG9859 29 (by decide)]; exact hd (by omega))
                  have hP9 : va_P (dC, dI) classes (wM g c v9856 F9857 rc) H := hP
                  exact W.vret hx hb hr (fun t ht hW => ⟨⟨(v9856, F9857, rc), rfl, ⟨hI, rfl, (frC (by decide) hf9858 (frC (by decide) hf9810 (frC (by decide) hf9796 (frC (by decide) hf9779 (frC (by decide) hf9769 (frU (by decide) (frC (by decide) hf9555 (fun _ _ => rfl)))))))), hF, (by show ((v9856 40).toInt ≤ (v9856 39).toInt ∧ (v 39).toInt ≤ (v9856 39).toInt ∧ (v9856 39).toInt ≤ (v 30).toInt ∧ (v 38).toInt ≤ (v9856 38).toInt ∧ (v9856 38).toInt - (v 38).toInt ≤ (v9856 39).toInt - (v 39).toInt ∧ (v 41).toInt ≤ (v9856 41).toInt ∧ ((v9856 40).toInt < 0 → (v9856 41).toInt = (v 41).toInt)) ∧ keepL (v 37) (F 28) (F 29) (F9857 28) (F9857 29) ∧ ((v9856 40).toInt < 0 → dp (F9857 28) (F9857 29) (bI (v 37)) (v9856 38).toInt.toNat = some (d + 1)) ∧ rd false (v 30) (F 24) 6 (v 41).toInt (v 39).toInt (v9856 40).toInt (v9856 39).toInt; rw [show v9856 39 = v9808 39 from hf9858 39 (by decide)]; rw [show v9856 38 = v9808 38 from hf9858 38 (by decide)]; rw [show v9856 41 = v9808 41 from hf9858 41 (by decide)]; exact ⟨by omega, hk, fun hf => (hd (by omega)).trans (congrArg some (by omega)), rd.eX (f2 := 0) (g2 := 0) (rd.c1 (hrd_r9552.cast (by omega) rfl rfl rfl) (by omega) (by omega) (by omega) (hrd_r9766.cast (by omega) rfl rfl rfl)) (by omega) (by omega) (by omega) (by omega) (by omega) hrd_r9807 (by omega) (d2 := (v 41).toInt + 1) rfl (fun q9 => absurd q9 (by decide))⟩)⟩, (by show va_P _ _ _ t.heap; rw [ht]; exact hP9)⟩, hS.F ht⟩) hS.2.2 dX12_either_104
              · skip
                have t9860 := cv_nlt (a := (v9808 40).toInt) rfl (b := 0) (by decide) c9815
                have hP9 : va_P (dC, dI) classes (wM g c v9808 F9809 rc) H := hP
                exact W.vret hx hb hr (fun t ht hW => ⟨⟨(v9808, F9809, rc), rfl, ⟨hI, rfl, (frC (by decide) hf9810 (frC (by decide) hf9796 (frC (by decide) hf9779 (frC (by decide) hf9769 (frU (by decide) (frC (by decide) hf9555 (fun _ _ => rfl))))))), hF, (by show ((v9808 40).toInt ≤ (v9808 39).toInt ∧ (v 39).toInt ≤ (v9808 39).toInt ∧ (v9808 39).toInt ≤ (v 30).toInt ∧ (v 38).toInt ≤ (v9808 38).toInt ∧ (v9808 38).toInt - (v 38).toInt ≤ (v9808 39).toInt - (v 39).toInt ∧ (v 41).toInt ≤ (v9808 41).toInt ∧ ((v9808 40).toInt < 0 → (v9808 41).toInt = (v 41).toInt)) ∧ keepL (v 37) (F 28) (F 29) (F9809 28) (F9809 29) ∧ ((v9808 40).toInt < 0 → dp (F9809 28) (F9809 29) (bI (v 37)) (v9808 38).toInt.toNat = some (d + 1)) ∧ rd false (v 30) (F 24) 6 (v 41).toInt (v 39).toInt (v9808 40).toInt (v9808 39).toInt; exact ⟨by omega, hk, fun hf => (hd (by omega)).trans (congrArg some (by omega)), rd.eX (f2 := 0) (g2 := 0) (rd.c1 (hrd_r9552.cast (by omega) rfl rfl rfl) (by omega) (by omega) (by omega) (hrd_r9766.cast (by omega) rfl rfl rfl)) (by omega) (by omega) (by omega) (by omega) (by omega) hrd_r9807 (by omega) (d2 := (v 41).toInt + 1) rfl (fun q9 => absurd q9 (by decide))⟩)⟩, (by show va_P _ _ _ t.heap; rw [ht]; exact hP9)⟩, hS.F ht⟩) hS.2.2 dX12_either_90
            · skip
              have t9861 := cv_eq (a := r9793.toInt) rfl (b := 0) (by decide) c9800
              have hP9 : va_P (dC, dI) classes (wM g c v9794 F9795 rc) H := hP
              exact W.vret hx hb hr (fun t ht hW => ⟨⟨(v9794, F9795, rc), rfl, ⟨hI, rfl, (frC (by decide) hf9796 (frC (by decide) hf9779 (frC (by decide) hf9769 (frU (by decide) (frC (by decide) hf9555 (fun _ _ => rfl)))))), hF, (by show ((v9794 40).toInt ≤ (v9794 39).toInt ∧ (v 39).toInt ≤ (v9794 39).toInt ∧ (v9794 39).toInt ≤ (v 30).toInt ∧ (v 38).toInt ≤ (v9794 38).toInt ∧ (v9794 38).toInt - (v 38).toInt ≤ (v9794 39).toInt - (v 39).toInt ∧ (v 41).toInt ≤ (v9794 41).toInt ∧ ((v9794 40).toInt < 0 → (v9794 41).toInt = (v 41).toInt)) ∧ keepL (v 37) (F 28) (F 29) (F9795 28) (F9795 29) ∧ ((v9794 40).toInt < 0 → dp (F9795 28) (F9795 29) (bI (v 37)) (v9794 38).toInt.toNat = some (d + 1)) ∧ rd false (v 30) (F 24) 6 (v 41).toInt (v 39).toInt (v9794 40).toInt (v9794 39).toInt; rw [show v9794 38 = v9777 38 from hf9796 38 (by decide)]; exact ⟨by omega, hk, fun hf => (hd (by omega)).trans (congrArg some (by omega)), rd.eD (rd.c1 (hrd_r9552.cast (by omega) rfl rfl rfl) (by omega) (by omega) (by omega) (hrd_r9766.cast (by omega) rfl rfl rfl)) (by omega) (by omega) (by omega) (by omega) (by omega)⟩)⟩, (by show va_P _ _ _ t.heap; rw [ht]; exact hP9)⟩, hS.F ht⟩) hS.2.2 dX12_either_78
          · skip
            have t9862 := cv_ne (a := r9788.toInt) rfl (b := 63) (by decide) c9789
            have hP9 : va_P (dC, dI) classes (wM g c v9777 F9778 rc) H := hP
            exact W.vret hx hb hr (fun t ht hW => ⟨⟨(v9777, F9778, rc), rfl, ⟨hI, rfl, (frC (by decide) hf9779 (frC (by decide) hf9769 (frU (by decide) (frC (by decide) hf9555 (fun _ _ => rfl))))), hF, (by show ((v9777 40).toInt ≤ (v9777 39).toInt ∧ (v 39).toInt ≤ (v9777 39).toInt ∧ (v9777 39).toInt ≤ (v 30).toInt ∧ (v 38).toInt ≤ (v9777 38).toInt ∧ (v9777 38).toInt - (v 38).toInt ≤ (v9777 39).toInt - (v 39).toInt ∧ (v 41).toInt ≤ (v9777 41).toInt ∧ ((v9777 40).toInt < 0 → (v9777 41).toInt = (v 41).toInt)) ∧ keepL (v 37) (F 28) (F 29) (F9778 28) (F9778 29) ∧ ((v9777 40).toInt < 0 → dp (F9778 28) (F9778 29) (bI (v 37)) (v9777 38).toInt.toNat = some (d + 1)) ∧ rd false (v 30) (F 24) 6 (v 41).toInt (v 39).toInt (v9777 40).toInt (v9777 39).toInt; rw [show v9777 40 = v9767 40 from hf9779 40 (by decide)]; rw [show v9777 39 = v9767 39 from hf9779 39 (by decide)]; rw [show v9777 41 = v9767 41 from hf9779 41 (by decide)]; exact ⟨by omega, hk, fun hf => (hd (by omega)).trans (congrArg some (by omega)), rd.e0 (rd.c1 (hrd_r9552.cast (by omega) rfl rfl rfl) (by omega) (by omega) (by omega) (hrd_r9766.cast (by omega) rfl rfl rfl)) (fun q9 => by omega)⟩)⟩, (by show va_P _ _ _ t.heap; rw [ht]; exact hP9)⟩, hS.F ht⟩) hS.2.2 dX12_either_70
      · skip
        have t9863 := cv_ne (a := r9562.toInt) rfl (b := 61) (by decide) c9755
        refine lv_iload_n hx hb dX12_either_28 rfl (lv_at hl 0 rfl) ?_
        refine lv_bipush (v := 62) hx hb dX12_either_29 (by decide) ?_
        refine lv_icmp_ne (tgt := 54) hx hb dX12_either_31 (by decide) (fun c9864 => ?_) (fun c9864 => ?_)
        · skip
          have t9865 := cv_ne (a := r9562.toInt) rfl (b := 62) (by decide) c9864
          refine lv_aload_n hx hb dX12_either_54 rfl (lv_at hl 1 rfl) ?_
          refine va_get (D := (dC, dI)) (ci := 12) (v := .int (v9553 40)) (C := RX12) (T := TX12) (N := 63) hx hb hwd inA_X12 hown hK hP 0 rfl rfl 40 (by decide) (hwd _ wk_1005) (fun _ h9 => h9) rfl dX12_either_55 ?_
          refine lv_if_ge (tgt := 70) hx hb dX12_either_58 (by decide) (fun c9866 => ?_) (fun c9866 => ?_)
          · skip
            have t9867 := cv_le (a := 0) (by decide) (b := (v9553 40).toInt) rfl c9866
            have hP9 : va_P (dC, dI) classes (wM g c v9553 F9554 rc) H := hP
            exact W.vret hx hb hr (fun t ht hW => ⟨⟨(v9553, F9554, rc), rfl, ⟨hI, rfl, (frC (by decide) hf9555 (fun _ _ => rfl)), hF, (by show ((v9553 40).toInt ≤ (v9553 39).toInt ∧ (v 39).toInt ≤ (v9553 39).toInt ∧ (v9553 39).toInt ≤ (v 30).toInt ∧ (v 38).toInt ≤ (v9553 38).toInt ∧ (v9553 38).toInt - (v 38).toInt ≤ (v9553 39).toInt - (v 39).toInt ∧ (v 41).toInt ≤ (v9553 41).toInt ∧ ((v9553 40).toInt < 0 → (v9553 41).toInt = (v 41).toInt)) ∧ keepL (v 37) (F 28) (F 29) (F9554 28) (F9554 29) ∧ ((v9553 40).toInt < 0 → dp (F9554 28) (F9554 29) (bI (v 37)) (v9553 38).toInt.toNat = some (d + 1)) ∧ rd false (v 30) (F 24) 6 (v 41).toInt (v 39).toInt (v9553 40).toInt (v9553 39).toInt; exact ⟨by omega, hk, fun hf => (hd (by omega)).trans (congrArg some (by omega)), rd.e0 (rd.c0 (hrd_r9552.cast (by omega) rfl rfl rfl) (fun q9 => by omega)) (fun q9 => by omega)⟩)⟩, (by show va_P _ _ _ t.heap; rw [ht]; exact hP9)⟩, hS.F ht⟩) hS.2.2 dX12_either_70
          · skip
            have t9868 := cv_nle (a := 0) (by decide) (b := (v9553 40).toInt) rfl c9866
            refine lv_aload_n hx hb dX12_either_61 rfl (lv_at hl 1 rfl) ?_
            have t9869 : 0 ≤ (v 30).toInt ∧ (v 30).toInt ≤ 120 := by have h9 := hI.1 30 _ _ rfl; rw [show v9553 30 = v 30 from hf9555 30 (by decide)] at h9; exact h9
            have t9870 : 0 ≤ (v9553 39).toInt ∧ (v9553 39).toInt ≤ 120 := hI.1 39 _ _ rfl
            have hby24 : F9554 24 = F 24 := hF 24 (by decide)
            refine va_calli (va_runV (As := []) (rest := []) ⟨hx, hb, hml, hown, hwd⟩ (c_X12_look l dC dI g c adK adV v9553 F9554 rc H.size  hg hI ) (cwV 0 hwd (gV wk_1017 wk_1014 wk_1015 wk_1016 wk_5) rfl rfl rfl (by decide +kernel) ⟨(by show 1 + 1 ≤ fr + 7; omega), (by show 8 + (1 + 11) + (40) ≤ lc + 280; omega)⟩) ⟨PM.blind, va_recv hK hP (ci := 12) (q0 := 0) rfl rfl, fun U hU hW => ⟨rfl, PM.at hK hE hP hS hU hW⟩⟩ rfl rfl hl.1 rfl (lv_room (Nat.le_of_ble_eq_true rfl)) dX12_either_62 ⟨Nat.le_of_ble_eq_true rfl, Nat.le_of_ble_eq_true rfl⟩) hS (fun q _ h => (freeM hS) q h) (freeM hS) (fun r9871 u t H1 locs ht hvm hw hB hz1 hk1 hS => ?_)
            unfold BM at hB
            rw [ht] at hB
            have hP : va_P (dC, dI) classes (wM g c v9553 F9554 rc) H1 := hB
            replace hw : r9871.toInt = sg (v9553 30) (F9554 24) (v9553 39).toInt ∧ ((v9553 39).toInt < (v9553 30).toInt ∨ r9871.toInt = -1) := hw
            rw [show v9553 30 = v 30 from hf9555 30 (by decide)] at hw
            rw [hby24] at hw
            have hw_r9871 := hw
            clear hw
            clear hz1
            generalize H1 = H at hP hS ⊢
            refine lv_bipush (v := 63) hx hb dX12_either_65 (by decide) ?_
            refine lv_icmp_eq (tgt := 71) hx hb dX12_either_67 (by decide) (fun c9872 => ?_) (fun c9872 => ?_)
            · skip
              have t9873 := cv_eq (a := r9871.toInt) rfl (b := 63) (by decide) c9872
              refine lv_aload_n hx hb dX12_either_71 rfl (lv_at hl 1 rfl) ?_
              have t9874 : 0 ≤ (v9553 39).toInt ∧ (v9553 39).toInt ≤ 120 := hI.1 39 _ _ rfl
              have t9875 : 0 ≤ (v9553 41).toInt ∧ (v9553 41).toInt ≤ 8 := hI.1 41 _ _ rfl
              refine va_calli (va_runV (As := []) (rest := []) ⟨hx, hb, hml, hown, hwd⟩ (c_X12_opens l dC dI g c adK adV v9553 F9554 rc H.size  hg hI (by have h9 : v9553 39 = v9553 39 := rfl; (try rw [h9]); clear h9; have h9 : v9553 30 = v 30 := hf9555 30 (by decide); (try rw [h9]); clear h9; omega)) (cwV 0 hwd (gV wk_1025 wk_1022 wk_1023 wk_1024 wk_5) rfl rfl rfl (by decide +kernel) ⟨(by show 2 + 1 ≤ fr + 7; omega), (by show 8 + (1 + 11) + (80) ≤ lc + 280; omega)⟩) ⟨PM.blind, va_recv hK hP (ci := 12) (q0 := 0) rfl rfl, fun U hU hW => ⟨rfl, PM.at hK hE hP hS hU hW⟩⟩ rfl rfl hl.1 rfl (lv_room (Nat.le_of_ble_eq_true rfl)) dX12_either_72 ⟨Nat.le_of_ble_eq_true rfl, Nat.le_of_ble_eq_true rfl⟩) hS (fun q _ h => (freeM hS) q h) (freeM hS) (fun r9876 u t H1 locs ht hvm hw hB hz1 hk1 hS => ?_)
              unfold BM at hB
              rw [ht] at hB
              obtain ⟨v9877, F9878, rc9⟩ := u
              obtain ⟨hI, hrc, hf9879, hG9880, hw⟩ := hw
              dsimp only at hI hrc hB hf9879 hG9880 hw
              have hF := frCF (by decide) hG9880 hF
              rw [hrc] at hB
              have hP : va_P (dC, dI) classes (wM g c v9877 F9878 rc) H1 := hB
              replace hw : (r9876.toInt = 1 ∧ (v9553 41).toInt < 8 ∧ (v9877 41).toInt = (v9553 41).toInt + 1 ∧ (v9877 39).toInt = (v9553 39).toInt + 1 ∧ (v9877 40).toInt = (v9553 40).toInt) ∨ (r9876.toInt = 0 ∧ (v9553 41).toInt = 8 ∧ 0 ≤ (v9877 40).toInt ∧ (0 ≤ (v9553 40).toInt ∨ (v9877 40).toInt = (v9553 39).toInt) ∧  (v9877 41).toInt = (v9553 41).toInt ∧ (v9877 39).toInt = (v9553 39).toInt) := hw
              have hw_r9876 := hw
              clear hw
              have t9881 : 0 ≤ (v9877 39).toInt ∧ (v9877 39).toInt ≤ 120 := hI.1 39 _ _ rfl
              have t9882 : 0 ≤ (v9877 41).toInt ∧ (v9877 41).toInt ≤ 8 := hI.1 41 _ _ rfl
              clear hz1
              generalize H1 = H at hP hS ⊢
              replace hk : keepL (v 37) (F 28) (F 29) (F9878 28) (F9878 29) := by rw [hG9880 28 (by decide), hG9880 29 (by decide)]; exact hk
              replace hd : (v9877 40).toInt < 0 → dp (F9878 28) (F9878 29) (bI (v 37)) (v9553 38).toInt.toNat = some (d + 1) := fun hf => (by rw [hG9880 28 (by decide), hG9880 29 (by decide)]; exact hd (by omega))
              refine lv_if_ne (tgt := 79) hx hb dX12_either_75 (by decide) (fun c9883 => ?_) (fun c9883 => ?_)
              · skip
                have t9884 := cv_ne (a := r9876.toInt) rfl (b := 0) (by decide) c9883
                refine lv_aload_n hx hb dX12_either_79 rfl (lv_at hl 1 rfl) ?_
                have t9885 : 0 ≤ (v 30).toInt ∧ (v 30).toInt ≤ 120 := by have h9 := hI.1 30 _ _ rfl; rw [show v9877 30 = v 30 from (hf9879 30 (by decide)).trans (hf9555 30 (by decide))] at h9; exact h9
                have t9886 : 0 ≤ (v 37).toInt ∧ (v 37).toInt ≤ 9 := by have h9 := hI.1 37 _ _ rfl; rw [show v9877 37 = v 37 from (hf9879 37 (by decide)).trans (hf9555 37 (by decide))] at h9; exact h9
                have t9887 : 0 ≤ (v9553 38).toInt ∧ (v9553 38).toInt ≤ 120 := by have h9 := hI.1 38 _ _ rfl; rw [show v9877 38 = v9553 38 from hf9879 38 (by decide)] at h9; exact h9
                have t9888 : 0 ≤ (v9877 39).toInt ∧ (v9877 39).toInt ≤ 120 := hI.1 39 _ _ rfl
                have t9889 : 0 ≤ (v9877 41).toInt ∧ (v9877 41).toInt ≤ 8 := hI.1 41 _ _ rfl
                have hby24 : F9878 24 = F 24 := hF 24 (by decide)
                refine va_callv (va_runV (As := []) (rest := []) ⟨hx, hb, hml, hown, hwd⟩ (rE l dC dI g c adK adV v9877 F9878 rc H.size  (d + 1) hg hI (by have h9 : v9877 38 = v9553 38 := hf9879 38 (by decide); (try rw [h9]); clear h9; have h9 : v9877 39 = v9877 39 := rfl; (try rw [h9]); clear h9; have h9 : v9877 30 = v 30 := (hf9879 30 (by decide)).trans (hf9555 30 (by decide)); (try rw [h9]); clear h9; have h9 : v9877 40 = v9877 40 := rfl; (try rw [h9]); clear h9; have h9 : v9877 41 = v9877 41 := rfl; (try rw [h9]); clear h9; omega) (by have h9 : v9877 37 = (v 37) := (hf9879 37 (by decide)).trans (hf9555 37 (by decide)); have h8 : v9877 38 = (v9553 38) := hf9879 38 (by decide); (try rw [h9]); (try rw [h8]); exact hd (by omega))) (cwV 0 hwd (gV wk_1010 wk_1007 wk_1008 wk_1009 wk_5) rfl rfl rfl (by decide +kernel) ⟨(by show fr + 3 + 1 ≤ fr + 7; omega), (by show 8 + (2 + 11) + (lc + 120) ≤ lc + 280; omega)⟩) ⟨PM.blind, va_recv hK hP (ci := 12) (q0 := 0) rfl rfl, fun U hU hW => ⟨rfl, PM.at hK hE hP hS hU hW⟩⟩ rfl rfl hl.1 rfl (lv_room (Nat.le_of_ble_eq_true rfl)) dX12_either_80 ⟨Nat.le_of_ble_eq_true rfl, Nat.le_of_ble_eq_true rfl⟩) hS (fun q _ h => (freeM hS) q h) (freeM hS) (fun u t H1 locs ht hvm hw hB hz1 hk1 hS => ?_)
                unfold BM at hB
                rw [ht] at hB
                obtain ⟨v9891, F9892, rc9⟩ := u
                obtain ⟨hI, hrc, hf9893, hG9894, hw⟩ := hw
                dsimp only at hI hrc hB hf9893 hG9894 hw
                have hF := frCF (by decide) hG9894 hF
                rw [hrc] at hB
                have hP : va_P (dC, dI) classes (wM g c v9891 F9892 rc) H1 := hB
                replace hw : ((v9891 40).toInt ≤ (v9891 39).toInt ∧ (v9877 39).toInt ≤ (v9891 39).toInt ∧ (v9891 39).toInt ≤ (v9877 30).toInt ∧ (v9877 38).toInt ≤ (v9891 38).toInt ∧ (v9891 38).toInt - (v9877 38).toInt ≤ (v9891 39).toInt - (v9877 39).toInt ∧ (v9877 41).toInt ≤ (v9891 41).toInt ∧ ((v9891 40).toInt < 0 → (v9891 41).toInt = (v9877 41).toInt)) ∧ keepL (v9877 37) (F9878 28) (F9878 29) (F9892 28) (F9892 29) ∧ ((v9891 40).toInt < 0 → dp (F9892 28) (F9892 29) (bI (v9877 37)) (v9891 38).toInt.toNat = some ((d + 1) + 1)) ∧ rd false (v9877 30) (F9878 24) 6 (v9877 41).toInt (v9877 39).toInt (v9891 40).toInt (v9891 39).toInt := hw
                rw [show v9877 30 = v 30 from (hf9879 30 (by decide)).trans (hf9555 30 (by decide))] at hw
                rw [show v9877 38 = v9553 38 from hf9879 38 (by decide)] at hw
                rw [show v9877 37 = v 37 from (hf9879 37 (by decide)).trans (hf9555 37 (by decide))] at hw
                rw [hby24] at hw
                have hw_r9890 := hw
                clear hw
                have t9895 : 0 ≤ (v9891 38).toInt ∧ (v9891 38).toInt ≤ 120 := hI.1 38 _ _ rfl
                have t9896 : 0 ≤ (v9891 39).toInt ∧ (v9891 39).toInt ≤ 120 := hI.1 39 _ _ rfl
                have t9897 : 0 ≤ (v9891 41).toInt ∧ (v9891 41).toInt ≤ 8 := hI.1 41 _ _ rfl
                clear hz1
                generalize H1 = H at hP hS ⊢
                replace hk := hk.tr hw_r9890.2.1
                replace hd := hw_r9890.2.2.1
                have hrd_r9890 := hw_r9890.2.2.2
                replace hw_r9890 := hw_r9890.1
                refine lv_aload_n hx hb dX12_either_83 rfl (lv_at hl 1 rfl) ?_
                refine va_get (D := (dC, dI)) (ci := 12) (v := .int (v9891 40)) (C := RX12) (T := TX12) (N := 63) hx hb hwd inA_X12 hown hK hP 0 rfl rfl 40 (by decide) (hwd _ wk_1005) (fun _ h9 => h9) rfl dX12_either_84 ?_
                refine lv_if_lt (tgt := 91) hx hb dX12_either_87 (by decide) (fun c9898 => ?_) (fun c9898 => ?_)
                · skip
                  have t9899 := cv_lt (a := (v9891 40).toInt) rfl (b := 0) (by decide) c9898
                  refine lv_aload_n hx hb dX12_either_91 rfl (lv_at hl 1 rfl) ?_
                  have t9900 : 0 ≤ (v 30).toInt ∧ (v 30).toInt ≤ 120 := by have h9 := hI.1 30 _ _ rfl; rw [show v9891 30 = v 30 from (hf9893 30 (by decide)).trans ((hf9879 30 (by decide)).trans (hf9555 30 (by decide)))] at h9; exact h9
                  have t9901 : 0 ≤ (v9891 39).toInt ∧ (v9891 39).toInt ≤ 120 := hI.1 39 _ _ rfl
                  have hby24 : F9892 24 = F 24 := hF 24 (by decide)
                  refine va_calli (va_runV (As := []) (rest := []) ⟨hx, hb, hml, hown, hwd⟩ (c_X12_look l dC dI g c adK adV v9891 F9892 rc H.size  hg hI ) (cwV 0 hwd (gV wk_1017 wk_1014 wk_1015 wk_1016 wk_5) rfl rfl rfl (by decide +kernel) ⟨(by show 1 + 1 ≤ fr + 7; omega), (by show 8 + (1 + 11) + (40) ≤ lc + 280; omega)⟩) ⟨PM.blind, va_recv hK hP (ci := 12) (q0 := 0) rfl rfl, fun U hU hW => ⟨rfl, PM.at hK hE hP hS hU hW⟩⟩ rfl rfl hl.1 rfl (lv_room (Nat.le_of_ble_eq_true rfl)) dX12_either_92 ⟨Nat.le_of_ble_eq_true rfl, Nat.le_of_ble_eq_true rfl⟩) hS (fun q _ h => (freeM hS) q h) (freeM hS) (fun r9902 u t H1 locs ht hvm hw hB hz1 hk1 hS => ?_)
                  unfold BM at hB
                  rw [ht] at hB
                  have hP : va_P (dC, dI) classes (wM g c v9891 F9892 rc) H1 := hB
                  replace hw : r9902.toInt = sg (v9891 30) (F9892 24) (v9891 39).toInt ∧ ((v9891 39).toInt < (v9891 30).toInt ∨ r9902.toInt = -1) := hw
                  rw [show v9891 30 = v 30 from (hf9893 30 (by decide)).trans ((hf9879 30 (by decide)).trans (hf9555 30 (by decide)))] at hw
                  rw [hby24] at hw
                  have hw_r9902 := hw
                  clear hw
                  clear hz1
                  generalize H1 = H at hP hS ⊢
                  refine lv_bipush (v := 58) hx hb dX12_either_95 (by decide) ?_
                  refine lv_icmp_eq (tgt := 105) hx hb dX12_either_97 (by decide) (fun c9903 => ?_) (fun c9903 => ?_)
                  · skip
                    have t9904 := cv_eq (a := r9902.toInt) rfl (b := 58) (by decide) c9903
                    refine lv_aload_n hx hb dX12_either_105 rfl (lv_at hl 1 rfl) ?_
                    refine lv_dup hx hb dX12_either_106 rfl ?_
                    refine va_get (D := (dC, dI)) (ci := 12) (v := .int (v9891 39)) (C := RX12) (T := TX12) (N := 63) hx hb hwd inA_X12 hown hK hP 0 rfl rfl 39 (by decide) (hwd _ wk_1004) (fun _ h9 => h9) rfl dX12_either_107 ?_
                    have t9905 : 0 ≤ (v9891 39).toInt ∧ (v9891 39).toInt ≤ 120 := hI.1 39 _ _ rfl
                    refine lv_iconst (v := 1) hx hb dX12_either_110 (by decide) ?_
                    refine lv_iadd hx hb dX12_either_111 ?_
                    refine lv_topi (fun z9906 e9907 => ?_)
                    try (have t9908 := tadd e9907 (a := (v9891 39).toInt) rfl (b := 1) (by decide) (by omega))
                    refine va_put (D := (dC, dI)) (ci := 12) (v := .int z9906) (ty := .int) (C := RX12) (T := TX12) (N := 63) (fs := fsM_0 g v9891 rc) hx hb hwd inA_X12 tyX12 tyX12_ok nmX12 hown hK hP (DM hg) hS 0 rfl rfl 39 (by decide) (hwd _ wk_1004) (fun _ h9 => h9) rfl (by decide +kernel) rfl rfl (Nat.le_of_ble_eq_true rfl) dX12_either_112 (fun H locs hP _ hS => ?_)
                    have hP := va_P_eq (pM_39 g c _ _ _ _) hP
                    have hI := IM.put hI 39 z9906 rfl (by omega)
                    refine lv_aload_n hx hb dX12_either_115 rfl (lv_at hl 1 rfl) ?_
                    have t9909 : 0 ≤ (v 30).toInt ∧ (v 30).toInt ≤ 120 := by have h9 := hI.1 30 _ _ rfl; rw [show (va_up v9891 39 z9906) 30 = v 30 from (hf9893 30 (by decide)).trans ((hf9879 30 (by decide)).trans (hf9555 30 (by decide)))] at h9; exact h9
                    have t9910 : 0 ≤ (v 37).toInt ∧ (v 37).toInt ≤ 9 := by have h9 := hI.1 37 _ _ rfl; rw [show (va_up v9891 39 z9906) 37 = v 37 from (hf9893 37 (by decide)).trans ((hf9879 37 (by decide)).trans (hf9555 37 (by decide)))] at h9; exact h9
                    have t9911 : 0 ≤ (v9891 38).toInt ∧ (v9891 38).toInt ≤ 120 := hI.1 38 _ _ rfl
                    have t9912 : 0 ≤ z9906.toInt ∧ z9906.toInt ≤ 120 := hI.1 39 _ _ rfl
                    have t9913 : 0 ≤ (v9891 41).toInt ∧ (v9891 41).toInt ≤ 8 := hI.1 41 _ _ rfl
                    have hby24 : F9892 24 = F 24 := hF 24 (by decide)
                    refine va_callv (va_runV (As := []) (rest := []) ⟨hx, hb, hml, hown, hwd⟩ (rE l dC dI g c adK adV (va_up v9891 39 z9906) F9892 rc H.size  ((d + 1) + 1) hg hI (by have h9 : (va_up v9891 39 z9906) 38 = v9891 38 := rfl; (try rw [h9]); clear h9; have h9 : (va_up v9891 39 z9906) 39 = z9906 := rfl; (try rw [h9]); clear h9; have h9 : (va_up v9891 39 z9906) 30 = v 30 := (hf9893 30 (by decide)).trans ((hf9879 30 (by decide)).trans (hf9555 30 (by decide))); (try rw [h9]); clear h9; have h9 : (va_up v9891 39 z9906) 40 = v9891 40 := rfl; (try rw [h9]); clear h9; have h9 : (va_up v9891 39 z9906) 41 = v9891 41 := rfl; (try rw [h9]); clear h9; omega) (by have h9 : (va_up v9891 39 z9906) 37 = (v 37) := (hf9893 37 (by decide)).trans ((hf9879 37 (by decide)).trans (hf9555 37 (by decide))); have h8 : (va_up v9891 39 z9906) 38 = (v9891 38) := rfl; (try rw [h9]); (try rw [h8]); exact hd (by omega))) (cwV 0 hwd (gV wk_1010 wk_1007 wk_1008 wk_1009 wk_5) rfl rfl rfl (by decide +kernel) ⟨(by show fr + 3 + 1 ≤ fr + 7; omega), (by show 8 + (2 + 11) + (lc + 120) ≤ lc + 280; omega)⟩) ⟨PM.blind, va_recv hK hP (ci := 12) (q0 := 0) rfl rfl, fun U hU hW => ⟨rfl, PM.at hK hE hP hS hU hW⟩⟩ rfl rfl hl.1 rfl (lv_room (Nat.le_of_ble_eq_true rfl)) dX12_either_116 ⟨Nat.le_of_ble_eq_true rfl, Nat.le_of_ble_eq_true rfl⟩) hS (fun q _ h => (freeM hS) q h) (freeM hS) (fun u t H1 locs ht hvm hw hB hz1 hk1 hS => ?_)
                    unfold BM at hB
                    rw [ht] at hB
                    obtain ⟨v9915, F9916, rc9⟩ := u
                    obtain ⟨hI, hrc, hf9917, hG9918, hw⟩ := hw
                    dsimp only at hI hrc hB hf9917 hG9918 hw
                    have hF := frCF (by decide) hG9918 hF
                    rw [hrc] at hB
                    have hP : va_P (dC, dI) classes (wM g c v9915 F9916 rc) H1 := hB
                    replace hw : ((v9915 40).toInt ≤ (v9915 39).toInt ∧ z9906.toInt ≤ (v9915 39).toInt ∧ (v9915 39).toInt ≤ ((va_up v9891 39 z9906) 30).toInt ∧ (v9891 38).toInt ≤ (v9915 38).toInt ∧ (v9915 38).toInt - (v9891 38).toInt ≤ (v9915 39).toInt - z9906.toInt ∧ (v9891 41).toInt ≤ (v9915 41).toInt ∧ ((v9915 40).toInt < 0 → (v9915 41).toInt = (v9891 41).toInt)) ∧ keepL ((va_up v9891 39 z9906) 37) (F9892 28) (F9892 29) (F9916 28) (F9916 29) ∧ ((v9915 40).toInt < 0 → dp (F9916 28) (F9916 29) (bI ((va_up v9891 39 z9906) 37)) (v9915 38).toInt.toNat = some (((d + 1) + 1) + 1)) ∧ rd false ((va_up v9891 39 z9906) 30) (F9892 24) 6 (v9891 41).toInt z9906.toInt (v9915 40).toInt (v9915 39).toInt := hw
                    rw [show (va_up v9891 39 z9906) 30 = v 30 from (hf9893 30 (by decide)).trans ((hf9879 30 (by decide)).trans (hf9555 30 (by decide)))] at hw
                    rw [show (va_up v9891 39 z9906) 37 = v 37 from (hf9893 37 (by decide)).trans ((hf9879 37 (by decide)).trans (hf9555 37 (by decide)))] at hw
                    rw [hby24] at hw
                    have hw_r9914 := hw
                    clear hw
                    have t9919 : 0 ≤ (v9915 38).toInt ∧ (v9915 38).toInt ≤ 120 := hI.1 38 _ _ rfl
                    have t9920 : 0 ≤ (v9915 39).toInt ∧ (v9915 39).toInt ≤ 120 := hI.1 39 _ _ rfl
                    have t9921 : 0 ≤ (v9915 41).toInt ∧ (v9915 41).toInt ≤ 8 := hI.1 41 _ _ rfl
                    clear hz1
                    generalize H1 = H at hP hS ⊢
                    replace hk := hk.tr hw_r9914.2.1
                    replace hd := hw_r9914.2.2.1
                    have hrd_r9914 := hw_r9914.2.2.2
                    replace hw_r9914 := hw_r9914.1
                    refine lv_aload_n hx hb dX12_either_119 rfl (lv_at hl 1 rfl) ?_
                    refine lv_iconst (v := 4) hx hb dX12_either_120 (by decide) ?_
                    refine lv_iconst (v := 0) hx hb dX12_either_121 (by decide) ?_
                    have t9922 : 0 ≤ (v 37).toInt ∧ (v 37).toInt ≤ 9 := by have h9 := hI.1 37 _ _ rfl; rw [show v9915 37 = v 37 from (hf9917 37 (by decide)).trans ((hf9893 37 (by decide)).trans ((hf9879 37 (by decide)).trans (hf9555 37 (by decide))))] at h9; exact h9
                    have t9923 : 0 ≤ (v9915 38).toInt ∧ (v9915 38).toInt ≤ 120 := hI.1 38 _ _ rfl
                    refine va_callv (va_runV (As := [.int 4, .int 0]) (rest := []) ⟨hx, hb, hml, hown, hwd⟩ (c_X12_lay l dC dI g c adK adV v9915 F9916 rc H.size 4 0 hg hI (by have h9 : v9915 38 = v9915 38 := rfl; rw [h9]; omega)) (cwV 2 hwd (gV wk_1021 wk_1018 wk_1019 wk_1020 wk_5) rfl rfl rfl (by decide +kernel) ⟨(by show 1 + 1 ≤ fr + 7; omega), (by show 8 + (3 + 11) + (40) ≤ lc + 280; omega)⟩) ⟨PM.blind, va_recv hK hP (ci := 12) (q0 := 0) rfl rfl, fun U hU hW => ⟨rfl, PM.at hK hE hP hS hU hW⟩⟩ rfl rfl hl.1 rfl (lv_room (Nat.le_of_ble_eq_true rfl)) dX12_either_122 ⟨Nat.le_of_ble_eq_true rfl, Nat.le_of_ble_eq_true rfl⟩) hS (fun q _ h => (freeM hS) q h) (freeM hS) (fun u t H1 locs ht hvm hw hB hz1 hk1 hS => ?_)
                    unfold BM at hB
                    rw [ht] at hB
                    obtain ⟨v9925, F9926, rc9⟩ := u
                    obtain ⟨hI, hrc, hf9927, hG9928, hw⟩ := hw
                    dsimp only at hI hrc hB hf9927 hG9928 hw
                    have hF := frCF (by decide) hG9928 hF
                    rw [hrc] at hB
                    have hP : va_P (dC, dI) classes (wM g c v9925 F9926 rc) H1 := hB
                    replace hw : (v9925 38).toInt = (v9915 38).toInt + 1 ∧ keepL (v9915 37) (F9916 28) (F9916 29) (F9926 28) (F9926 29) ∧ dp (F9926 28) (F9926 29) (bI (v9915 37)) ((v9915 38).toInt.toNat + 1) = dpS (dp (F9916 28) (F9916 29) (bI (v9915 37)) (v9915 38).toInt.toNat) (4 : Int32) (0 : Int32) := hw
                    rw [show v9915 37 = v 37 from (hf9917 37 (by decide)).trans ((hf9893 37 (by decide)).trans ((hf9879 37 (by decide)).trans (hf9555 37 (by decide))))] at hw
                    have hw_r9924 := hw
                    clear hw
                    have t9929 : 0 ≤ (v9925 38).toInt ∧ (v9925 38).toInt ≤ 120 := hI.1 38 _ _ rfl
                    have k9930 : (4 : Int32).toInt = 4 := by decide
                    have k9931 : (0 : Int32).toInt = 0 := by decide
                    clear hz1
                    generalize H1 = H at hP hS ⊢
                    replace hk := hk.tr hw_r9924.2.1
                    replace hd : (v9915 40).toInt < 0 → dp (F9926 28) (F9926 29) (bI (v 37)) (v9925 38).toInt.toNat = some ((((d + 1) + 1) + 1) - 2) := fun hf => (by have e9 : (v9925 38).toInt.toNat = (v9915 38).toInt.toNat + 1 := (by omega); rw [e9, hw_r9924.2.2, hd hf]; exact dpS_4 (by decide) (by omega))
                    replace hw_r9924 := hw_r9924.1
                    refine lv_aload_n hx hb dX12_either_125 rfl (lv_at hl 1 rfl) ?_
                    refine lv_dup hx hb dX12_either_126 rfl ?_
                    refine va_get (D := (dC, dI)) (ci := 12) (v := .int (v9925 41)) (C := RX12) (T := TX12) (N := 63) hx hb hwd inA_X12 hown hK hP 0 rfl rfl 41 (by decide) (hwd _ wk_1006) (fun _ h9 => h9) rfl dX12_either_127 ?_
                    refine my_top (v := v9915 41) (hf9927 41 (by decide)) ?_
                    have t9932 : 0 ≤ (v9915 41).toInt ∧ (v9915 41).toInt ≤ 8 := by have h9 := hI.1 41 _ _ rfl; rw [show v9925 41 = v9915 41 from hf9927 41 (by decide)] at h9; exact h9
                    refine lv_iconst (v := 1) hx hb dX12_either_130 (by decide) ?_
                    refine lv_isub hx hb dX12_either_131 ?_
                    refine lv_topi (fun z9933 e9934 => ?_)
                    try (have t9935 := tsub e9934 (a := (v9915 41).toInt) rfl (b := 1) (by decide) (by omega))
                    refine va_put (D := (dC, dI)) (ci := 12) (v := .int z9933) (ty := .int) (C := RX12) (T := TX12) (N := 63) (fs := fsM_0 g v9925 rc) hx hb hwd inA_X12 tyX12 tyX12_ok nmX12 hown hK hP (DM hg) hS 0 rfl rfl 41 (by decide) (hwd _ wk_1006) (fun _ h9 => h9) rfl (by decide +kernel) rfl rfl (Nat.le_of_ble_eq_true rfl) dX12_either_132 (fun H locs hP _ hS => ?_)
                    have hP := va_P_eq (pM_41 g c _ _ _ _) hP
                    have hI := IM.put hI 41 z9933 rfl (by omega)
                    have hP9 : va_P (dC, dI) classes (wM g c (va_up v9925 41 z9933) F9926 rc) H := hP
                    exact W.vret hx hb hr (fun t ht hW => ⟨⟨((va_up v9925 41 z9933), F9926, rc), rfl, ⟨hI, rfl, (frU (by decide) (frC (by decide) hf9927 (frC (by decide) hf9917 (frU (by decide) (frC (by decide) hf9893 (frC (by decide) hf9879 (frC (by decide) hf9555 (fun _ _ => rfl)))))))), hF, (by show (((va_up v9925 41 z9933) 40).toInt ≤ ((va_up v9925 41 z9933) 39).toInt ∧ (v 39).toInt ≤ ((va_up v9925 41 z9933) 39).toInt ∧ ((va_up v9925 41 z9933) 39).toInt ≤ (v 30).toInt ∧ (v 38).toInt ≤ (v9925 38).toInt ∧ (v9925 38).toInt - (v 38).toInt ≤ ((va_up v9925 41 z9933) 39).toInt - (v 39).toInt ∧ (v 41).toInt ≤ z9933.toInt ∧ (((va_up v9925 41 z9933) 40).toInt < 0 → z9933.toInt = (v 41).toInt)) ∧ keepL (v 37) (F 28) (F 29) (F9926 28) (F9926 29) ∧ (((va_up v9925 41 z9933) 40).toInt < 0 → dp (F9926 28) (F9926 29) (bI (v 37)) (v9925 38).toInt.toNat = some (d + 1)) ∧ rd false (v 30) (F 24) 6 (v 41).toInt (v 39).toInt ((va_up v9925 41 z9933) 40).toInt ((va_up v9925 41 z9933) 39).toInt; rw [show (va_up v9925 41 z9933) 40 = v9915 40 from hf9927 40 (by decide)]; rw [show (va_up v9925 41 z9933) 39 = v9915 39 from hf9927 39 (by decide)]; exact ⟨by omega, hk, fun hf => (hd (by omega)).trans (congrArg some (by omega)), rd.eX (f2 := -1) (rd.c0 (hrd_r9552.cast (by omega) rfl rfl rfl) (fun q9 => by omega)) (by omega) (by omega) (by omega) (by omega) (by omega) hrd_r9890 (by omega) (by omega) (fun _ _ => hrd_r9914)⟩)⟩, (by show va_P _ _ _ t.heap; rw [ht]; exact hP9)⟩, hS.F ht⟩) hS.2.2 dX12_either_135
                  · skip
                    have t9936 := cv_ne (a := r9902.toInt) rfl (b := 58) (by decide) c9903
                    refine lv_aload_n hx hb dX12_either_100 rfl (lv_at hl 1 rfl) ?_
                    have t9937 : 0 ≤ (v9891 39).toInt ∧ (v9891 39).toInt ≤ 120 := hI.1 39 _ _ rfl
                    refine va_callv (va_runV (As := []) (rest := []) ⟨hx, hb, hml, hown, hwd⟩ (c_X12_wrong l dC dI g c adK adV v9891 F9892 rc H.size  hg hI ) (cwV 0 hwd (gV wk_1029 wk_1026 wk_1027 wk_1028 wk_5) rfl rfl rfl (by decide +kernel) ⟨(by show 1 + 1 ≤ fr + 7; omega), (by show 8 + (1 + 11) + (40) ≤ lc + 280; omega)⟩) ⟨PM.blind, va_recv hK hP (ci := 12) (q0 := 0) rfl rfl, fun U hU hW => ⟨rfl, PM.at hK hE hP hS hU hW⟩⟩ rfl rfl hl.1 rfl (lv_room (Nat.le_of_ble_eq_true rfl)) dX12_either_101 ⟨Nat.le_of_ble_eq_true rfl, Nat.le_of_ble_eq_true rfl⟩) hS (fun q _ h => (freeM hS) q h) (freeM hS) (fun u t H1 locs ht hvm hw hB hz1 hk1 hS => ?_)
                    unfold BM at hB
                    rw [ht] at hB
                    obtain ⟨v9939, F9940, rc9⟩ := u
                    obtain ⟨hI, hrc, hf9941, hG9942, hw⟩ := hw
                    dsimp only at hI hrc hB hf9941 hG9942 hw
                    have hF := frCF (by decide) hG9942 hF
                    rw [hrc] at hB
                    have hP : va_P (dC, dI) classes (wM g c v9939 F9940 rc) H1 := hB
                    replace hw : ((v9891 40).toInt < 0 ∧ (v9939 40).toInt = (v9891 39).toInt) ∨ (0 ≤ (v9891 40).toInt ∧ (v9939 40).toInt = (v9891 40).toInt) := hw
                    have hw_r9938 := hw
                    clear hw
                    clear hz1
                    generalize H1 = H at hP hS ⊢
                    replace hk : keepL (v 37) (F 28) (F 29) (F9940 28) (F9940 29) := by rw [hG9942 28 (by decide), hG9942 29 (by decide)]; exact hk
                    replace hd : (v9939 40).toInt < 0 → dp (F9940 28) (F9940 29) (bI (v 37)) (v9891 38).toInt.toNat = some ((d + 1) + 1) := fun hf => (by rw [hG9942 28 (by decide), hG9942 29 (by decide)]; exact hd (by omega))
                    have hP9 : va_P (dC, dI) classes (wM g c v9939 F9940 rc) H := hP
                    exact W.vret hx hb hr (fun t ht hW => ⟨⟨(v9939, F9940, rc), rfl, ⟨hI, rfl, (frC (by decide) hf9941 (frC (by decide) hf9893 (frC (by decide) hf9879 (frC (by decide) hf9555 (fun _ _ => rfl))))), hF, (by show ((v9939 40).toInt ≤ (v9939 39).toInt ∧ (v 39).toInt ≤ (v9939 39).toInt ∧ (v9939 39).toInt ≤ (v 30).toInt ∧ (v 38).toInt ≤ (v9939 38).toInt ∧ (v9939 38).toInt - (v 38).toInt ≤ (v9939 39).toInt - (v 39).toInt ∧ (v 41).toInt ≤ (v9939 41).toInt ∧ ((v9939 40).toInt < 0 → (v9939 41).toInt = (v 41).toInt)) ∧ keepL (v 37) (F 28) (F 29) (F9940 28) (F9940 29) ∧ ((v9939 40).toInt < 0 → dp (F9940 28) (F9940 29) (bI (v 37)) (v9939 38).toInt.toNat = some (d + 1)) ∧ rd false (v 30) (F 24) 6 (v 41).toInt (v 39).toInt (v9939 40).toInt (v9939 39).toInt; rw [show v9939 39 = v9891 39 from hf9941 39 (by decide)]; rw [show v9939 38 = v9891 38 from hf9941 38 (by decide)]; rw [show v9939 41 = v9891 41 from hf9941 41 (by decide)]; exact ⟨by omega, hk, fun hf => (hd (by omega)).trans (congrArg some (by omega)), rd.eX (f2 := 0) (g2 := 0) (rd.c0 (hrd_r9552.cast (by omega) rfl rfl rfl) (fun q9 => by omega)) (by omega) (by omega) (by omega) (by omega) (by omega) hrd_r9890 (by omega) (d2 := (v 41).toInt + 1) rfl (fun q9 => absurd q9 (by decide))⟩)⟩, (by show va_P _ _ _ t.heap; rw [ht]; exact hP9)⟩, hS.F ht⟩) hS.2.2 dX12_either_104
                · skip
                  have t9943 := cv_nlt (a := (v9891 40).toInt) rfl (b := 0) (by decide) c9898
                  have hP9 : va_P (dC, dI) classes (wM g c v9891 F9892 rc) H := hP
                  exact W.vret hx hb hr (fun t ht hW => ⟨⟨(v9891, F9892, rc), rfl, ⟨hI, rfl, (frC (by decide) hf9893 (frC (by decide) hf9879 (frC (by decide) hf9555 (fun _ _ => rfl)))), hF, (by show ((v9891 40).toInt ≤ (v9891 39).toInt ∧ (v 39).toInt ≤ (v9891 39).toInt ∧ (v9891 39).toInt ≤ (v 30).toInt ∧ (v 38).toInt ≤ (v9891 38).toInt ∧ (v9891 38).toInt - (v 38).toInt ≤ (v9891 39).toInt - (v 39).toInt ∧ (v 41).toInt ≤ (v9891 41).toInt ∧ ((v9891 40).toInt < 0 → (v9891 41).toInt = (v 41).toInt)) ∧ keepL (v 37) (F 28) (F 29) (F9892 28) (F9892 29) ∧ ((v9891 40).toInt < 0 → dp (F9892 28) (F9892 29) (bI (v 37)) (v9891 38).toInt.toNat = some (d + 1)) ∧ rd false (v 30) (F 24) 6 (v 41).toInt (v 39).toInt (v9891 40).toInt (v9891 39).toInt; exact ⟨by omega, hk, fun hf => (hd (by omega)).trans (congrArg some (by omega)), rd.eX (f2 := 0) (g2 := 0) (rd.c0 (hrd_r9552.cast (by omega) rfl rfl rfl) (fun q9 => by omega)) (by omega) (by omega) (by omega) (by omega) (by omega) hrd_r9890 (by omega) (d2 := (v 41).toInt + 1) rfl (fun q9 => absurd q9 (by decide))⟩)⟩, (by show va_P _ _ _ t.heap; rw [ht]; exact hP9)⟩, hS.F ht⟩) hS.2.2 dX12_either_90
              · skip
                have t9944 := cv_eq (a := r9876.toInt) rfl (b := 0) (by decide) c9883
                have hP9 : va_P (dC, dI) classes (wM g c v9877 F9878 rc) H := hP
                exact W.vret hx hb hr (fun t ht hW => ⟨⟨(v9877, F9878, rc), rfl, ⟨hI, rfl, (frC (by decide) hf9879 (frC (by decide) hf9555 (fun _ _ => rfl))), hF, (by show ((v9877 40).toInt ≤ (v9877 39).toInt ∧ (v 39).toInt ≤ (v9877 39).toInt ∧ (v9877 39).toInt ≤ (v 30).toInt ∧ (v 38).toInt ≤ (v9877 38).toInt ∧ (v9877 38).toInt - (v 38).toInt ≤ (v9877 39).toInt - (v 39).toInt ∧ (v 41).toInt ≤ (v9877 41).toInt ∧ ((v9877 40).toInt < 0 → (v9877 41).toInt = (v 41).toInt)) ∧ keepL (v 37) (F 28) (F 29) (F9878 28) (F9878 29) ∧ ((v9877 40).toInt < 0 → dp (F9878 28) (F9878 29) (bI (v 37)) (v9877 38).toInt.toNat = some (d + 1)) ∧ rd false (v 30) (F 24) 6 (v 41).toInt (v 39).toInt (v9877 40).toInt (v9877 39).toInt; rw [show v9877 38 = v9553 38 from hf9879 38 (by decide)]; exact ⟨by omega, hk, fun hf => (hd (by omega)).trans (congrArg some (by omega)), rd.eD (rd.c0 (hrd_r9552.cast (by omega) rfl rfl rfl) (fun q9 => by omega)) (by omega) (by omega) (by omega) (by omega) (by omega)⟩)⟩, (by show va_P _ _ _ t.heap; rw [ht]; exact hP9)⟩, hS.F ht⟩) hS.2.2 dX12_either_78
            · skip
              have t9945 := cv_ne (a := r9871.toInt) rfl (b := 63) (by decide) c9872
              have hP9 : va_P (dC, dI) classes (wM g c v9553 F9554 rc) H := hP
              exact W.vret hx hb hr (fun t ht hW => ⟨⟨(v9553, F9554, rc), rfl, ⟨hI, rfl, (frC (by decide) hf9555 (fun _ _ => rfl)), hF, (by show ((v9553 40).toInt ≤ (v9553 39).toInt ∧ (v 39).toInt ≤ (v9553 39).toInt ∧ (v9553 39).toInt ≤ (v 30).toInt ∧ (v 38).toInt ≤ (v9553 38).toInt ∧ (v9553 38).toInt - (v 38).toInt ≤ (v9553 39).toInt - (v 39).toInt ∧ (v 41).toInt ≤ (v9553 41).toInt ∧ ((v9553 40).toInt < 0 → (v9553 41).toInt = (v 41).toInt)) ∧ keepL (v 37) (F 28) (F 29) (F9554 28) (F9554 29) ∧ ((v9553 40).toInt < 0 → dp (F9554 28) (F9554 29) (bI (v 37)) (v9553 38).toInt.toNat = some (d + 1)) ∧ rd false (v 30) (F 24) 6 (v 41).toInt (v 39).toInt (v9553 40).toInt (v9553 39).toInt; exact ⟨by omega, hk, fun hf => (hd (by omega)).trans (congrArg some (by omega)), rd.e0 (rd.c0 (hrd_r9552.cast (by omega) rfl rfl rfl) (fun q9 => by omega)) (fun q9 => by omega)⟩)⟩, (by show va_P _ _ _ t.heap; rw [ht]; exact hP9)⟩, hS.F ht⟩) hS.2.2 dX12_either_70
        · skip
          have t9946 := cv_eq (a := r9562.toInt) rfl (b := 62) (by decide) c9864
          refine lv_aload_n hx hb dX12_either_34 rfl (lv_at hl 1 rfl) ?_
          refine lv_dup hx hb dX12_either_35 rfl ?_
          refine va_get (D := (dC, dI)) (ci := 12) (v := .int (v9553 39)) (C := RX12) (T := TX12) (N := 63) hx hb hwd inA_X12 hown hK hP 0 rfl rfl 39 (by decide) (hwd _ wk_1004) (fun _ h9 => h9) rfl dX12_either_36 ?_
          have t9947 : 0 ≤ (v9553 39).toInt ∧ (v9553 39).toInt ≤ 120 := hI.1 39 _ _ rfl
          refine lv_iconst (v := 1) hx hb dX12_either_39 (by decide) ?_
          refine lv_iadd hx hb dX12_either_40 ?_
          refine lv_topi (fun z9948 e9949 => ?_)
          try (have t9950 := tadd e9949 (a := (v9553 39).toInt) rfl (b := 1) (by decide) (by omega))
          refine va_put (D := (dC, dI)) (ci := 12) (v := .int z9948) (ty := .int) (C := RX12) (T := TX12) (N := 63) (fs := fsM_0 g v9553 rc) hx hb hwd inA_X12 tyX12 tyX12_ok nmX12 hown hK hP (DM hg) hS 0 rfl rfl 39 (by decide) (hwd _ wk_1004) (fun _ h9 => h9) rfl (by decide +kernel) rfl rfl (Nat.le_of_ble_eq_true rfl) dX12_either_41 (fun H locs hP _ hS => ?_)
          have hP := va_P_eq (pM_39 g c _ _ _ _) hP
          have hI := IM.put hI 39 z9948 rfl (by omega)
          refine lv_aload_n hx hb dX12_either_44 rfl (lv_at hl 1 rfl) ?_
          have t9951 : 0 ≤ (v 30).toInt ∧ (v 30).toInt ≤ 120 := by have h9 := hI.1 30 _ _ rfl; rw [show (va_up v9553 39 z9948) 30 = v 30 from hf9555 30 (by decide)] at h9; exact h9
          have t9952 : 0 ≤ (v 37).toInt ∧ (v 37).toInt ≤ 9 := by have h9 := hI.1 37 _ _ rfl; rw [show (va_up v9553 39 z9948) 37 = v 37 from hf9555 37 (by decide)] at h9; exact h9
          have t9953 : 0 ≤ (v9553 38).toInt ∧ (v9553 38).toInt ≤ 120 := hI.1 38 _ _ rfl
          have t9954 : 0 ≤ z9948.toInt ∧ z9948.toInt ≤ 120 := hI.1 39 _ _ rfl
          have t9955 : 0 ≤ (v9553 41).toInt ∧ (v9553 41).toInt ≤ 8 := hI.1 41 _ _ rfl
          have hby24 : F9554 24 = F 24 := hF 24 (by decide)
          refine va_callv (va_runV (As := []) (rest := []) ⟨hx, hb, hml, hown, hwd⟩ (c_X12_sum D fr lc rO rE l dC dI g c adK adV (va_up v9553 39 z9948) F9554 rc H.size  (d + 1) hg hI (by have h9 : (va_up v9553 39 z9948) 38 = v9553 38 := rfl; (try rw [h9]); clear h9; have h9 : (va_up v9553 39 z9948) 39 = z9948 := rfl; (try rw [h9]); clear h9; have h9 : (va_up v9553 39 z9948) 30 = v 30 := hf9555 30 (by decide); (try rw [h9]); clear h9; have h9 : (va_up v9553 39 z9948) 40 = v9553 40 := rfl; (try rw [h9]); clear h9; have h9 : (va_up v9553 39 z9948) 41 = v9553 41 := rfl; (try rw [h9]); clear h9; omega) (by have h9 : (va_up v9553 39 z9948) 37 = (v 37) := hf9555 37 (by decide); have h8 : (va_up v9553 39 z9948) 38 = (v9553 38) := rfl; (try rw [h9]); (try rw [h8]); exact hd (by omega))) (cwV 0 hwd (gV wk_1043 wk_1011 wk_1012 wk_1013 wk_5) rfl rfl rfl (by decide +kernel) ⟨(by show fr + 6 + 1 ≤ fr + 7; omega), (by show 8 + (2 + 11) + (lc + 240) ≤ lc + 280; omega)⟩) ⟨PM.blind, va_recv hK hP (ci := 12) (q0 := 0) rfl rfl, fun U hU hW => ⟨rfl, PM.at hK hE hP hS hU hW⟩⟩ rfl rfl hl.1 rfl (lv_room (Nat.le_of_ble_eq_true rfl)) dX12_either_45 ⟨Nat.le_of_ble_eq_true rfl, Nat.le_of_ble_eq_true rfl⟩) hS (fun q _ h => (freeM hS) q h) (freeM hS) (fun u t H1 locs ht hvm hw hB hz1 hk1 hS => ?_)
          unfold BM at hB
          rw [ht] at hB
          obtain ⟨v9957, F9958, rc9⟩ := u
          obtain ⟨hI, hrc, hf9959, hG9960, hw⟩ := hw
          dsimp only at hI hrc hB hf9959 hG9960 hw
          have hF := frCF (by decide) hG9960 hF
          rw [hrc] at hB
          have hP : va_P (dC, dI) classes (wM g c v9957 F9958 rc) H1 := hB
          replace hw : ((v9957 40).toInt ≤ (v9957 39).toInt ∧ z9948.toInt ≤ (v9957 39).toInt ∧ (v9957 39).toInt ≤ ((va_up v9553 39 z9948) 30).toInt ∧ (v9553 38).toInt ≤ (v9957 38).toInt ∧ (v9957 38).toInt - (v9553 38).toInt ≤ (v9957 39).toInt - z9948.toInt ∧ (v9553 41).toInt ≤ (v9957 41).toInt ∧ ((v9957 40).toInt < 0 → (v9957 41).toInt = (v9553 41).toInt)) ∧ keepL ((va_up v9553 39 z9948) 37) (F9554 28) (F9554 29) (F9958 28) (F9958 29) ∧ ((v9957 40).toInt < 0 → dp (F9958 28) (F9958 29) (bI ((va_up v9553 39 z9948) 37)) (v9957 38).toInt.toNat = some ((d + 1) + 1)) ∧ rd false ((va_up v9553 39 z9948) 30) (F9554 24) 3 (v9553 41).toInt z9948.toInt (v9957 40).toInt (v9957 39).toInt := hw
          rw [show (va_up v9553 39 z9948) 30 = v 30 from hf9555 30 (by decide)] at hw
          rw [show (va_up v9553 39 z9948) 37 = v 37 from hf9555 37 (by decide)] at hw
          rw [hby24] at hw
          have hw_r9956 := hw
          clear hw
          have t9961 : 0 ≤ (v9957 38).toInt ∧ (v9957 38).toInt ≤ 120 := hI.1 38 _ _ rfl
          have t9962 : 0 ≤ (v9957 39).toInt ∧ (v9957 39).toInt ≤ 120 := hI.1 39 _ _ rfl
          have t9963 : 0 ≤ (v9957 41).toInt ∧ (v9957 41).toInt ≤ 8 := hI.1 41 _ _ rfl
          clear hz1
          generalize H1 = H at hP hS ⊢
          replace hk := hk.tr hw_r9956.2.1
          replace hd := hw_r9956.2.2.1
          have hrd_r9956 := hw_r9956.2.2.2
          replace hw_r9956 := hw_r9956.1
          refine lv_aload_n hx hb dX12_either_48 rfl (lv_at hl 1 rfl) ?_
          refine lv_iload_n hx hb dX12_either_49 rfl (lv_at hl 0 rfl) ?_
          refine lv_iconst (v := 0) hx hb dX12_either_50 (by decide) ?_
          have t9964 : 0 ≤ (v 37).toInt ∧ (v 37).toInt ≤ 9 := by have h9 := hI.1 37 _ _ rfl; rw [show v9957 37 = v 37 from (hf9959 37 (by decide)).trans (hf9555 37 (by decide))] at h9; exact h9
          have t9965 : 0 ≤ (v9957 38).toInt ∧ (v9957 38).toInt ≤ 120 := hI.1 38 _ _ rfl
          refine va_callv (va_runV (As := [.int r9562, .int 0]) (rest := []) ⟨hx, hb, hml, hown, hwd⟩ (c_X12_lay l dC dI g c adK adV v9957 F9958 rc H.size r9562 0 hg hI (by have h9 : v9957 38 = v9957 38 := rfl; rw [h9]; omega)) (cwV 2 hwd (gV wk_1021 wk_1018 wk_1019 wk_1020 wk_5) rfl rfl rfl (by decide +kernel) ⟨(by show 1 + 1 ≤ fr + 7; omega), (by show 8 + (3 + 11) + (40) ≤ lc + 280; omega)⟩) ⟨PM.blind, va_recv hK hP (ci := 12) (q0 := 0) rfl rfl, fun U hU hW => ⟨rfl, PM.at hK hE hP hS hU hW⟩⟩ rfl rfl hl.1 rfl (lv_room (Nat.le_of_ble_eq_true rfl)) dX12_either_51 ⟨Nat.le_of_ble_eq_true rfl, Nat.le_of_ble_eq_true rfl⟩) hS (fun q _ h => (freeM hS) q h) (freeM hS) (fun u t H1 locs ht hvm hw hB hz1 hk1 hS => ?_)
          unfold BM at hB
          rw [ht] at hB
          obtain ⟨v9967, F9968, rc9⟩ := u
          obtain ⟨hI, hrc, hf9969, hG9970, hw⟩ := hw
          dsimp only at hI hrc hB hf9969 hG9970 hw
          have hF := frCF (by decide) hG9970 hF
          rw [hrc] at hB
          have hP : va_P (dC, dI) classes (wM g c v9967 F9968 rc) H1 := hB
          replace hw : (v9967 38).toInt = (v9957 38).toInt + 1 ∧ keepL (v9957 37) (F9958 28) (F9958 29) (F9968 28) (F9968 29) ∧ dp (F9968 28) (F9968 29) (bI (v9957 37)) ((v9957 38).toInt.toNat + 1) = dpS (dp (F9958 28) (F9958 29) (bI (v9957 37)) (v9957 38).toInt.toNat) r9562 (0 : Int32) := hw
          rw [show v9957 37 = v 37 from (hf9959 37 (by decide)).trans (hf9555 37 (by decide))] at hw
          have hw_r9966 := hw
          clear hw
          have t9971 : 0 ≤ (v9967 38).toInt ∧ (v9967 38).toInt ≤ 120 := hI.1 38 _ _ rfl
          have k9972 : (0 : Int32).toInt = 0 := by decide
          clear hz1
          generalize H1 = H at hP hS ⊢
          replace hk := hk.tr hw_r9966.2.1
          replace hd : (v9957 40).toInt < 0 → dp (F9968 28) (F9968 29) (bI (v 37)) (v9967 38).toInt.toNat = some (((d + 1) + 1) - 1) := fun hf => (by have e9 : (v9967 38).toInt.toNat = (v9957 38).toInt.toNat + 1 := (by omega); rw [e9, hw_r9966.2.2, hd hf]; exact dpS_5 (by omega) (by omega) (by omega) (by omega) (by omega))
          replace hw_r9966 := hw_r9966.1
          refine lv_aload_n hx hb dX12_either_54 rfl (lv_at hl 1 rfl) ?_
          refine va_get (D := (dC, dI)) (ci := 12) (v := .int (v9967 40)) (C := RX12) (T := TX12) (N := 63) hx hb hwd inA_X12 hown hK hP 0 rfl rfl 40 (by decide) (hwd _ wk_1005) (fun _ h9 => h9) rfl dX12_either_55 ?_
          refine my_top (v := v9957 40) (hf9969 40 (by decide)) ?_
          refine lv_if_ge (tgt := 70) hx hb dX12_either_58 (by decide) (fun c9973 => ?_) (fun c9973 => ?_)
          · skip
            have t9974 := cv_le (a := 0) (by decide) (b := (v9957 40).toInt) rfl c9973
            have hP9 : va_P (dC, dI) classes (wM g c v9967 F9968 rc) H := hP
            exact W.vret hx hb hr (fun t ht hW => ⟨⟨(v9967, F9968, rc), rfl, ⟨hI, rfl, (frC (by decide) hf9969 (frC (by decide) hf9959 (frU (by decide) (frC (by decide) hf9555 (fun _ _ => rfl))))), hF, (by show ((v9967 40).toInt ≤ (v9967 39).toInt ∧ (v 39).toInt ≤ (v9967 39).toInt ∧ (v9967 39).toInt ≤ (v 30).toInt ∧ (v 38).toInt ≤ (v9967 38).toInt ∧ (v9967 38).toInt - (v 38).toInt ≤ (v9967 39).toInt - (v 39).toInt ∧ (v 41).toInt ≤ (v9967 41).toInt ∧ ((v9967 40).toInt < 0 → (v9967 41).toInt = (v 41).toInt)) ∧ keepL (v 37) (F 28) (F 29) (F9968 28) (F9968 29) ∧ ((v9967 40).toInt < 0 → dp (F9968 28) (F9968 29) (bI (v 37)) (v9967 38).toInt.toNat = some (d + 1)) ∧ rd false (v 30) (F 24) 6 (v 41).toInt (v 39).toInt (v9967 40).toInt (v9967 39).toInt; rw [show v9967 40 = v9957 40 from hf9969 40 (by decide)]; rw [show v9967 39 = v9957 39 from hf9969 39 (by decide)]; rw [show v9967 41 = v9957 41 from hf9969 41 (by decide)]; exact ⟨by omega, hk, fun hf => (hd (by omega)).trans (congrArg some (by omega)), rd.e0 (rd.c1 (hrd_r9552.cast (by omega) rfl rfl rfl) (by omega) (by omega) (by omega) (hrd_r9956.cast (by omega) rfl rfl rfl)) (fun q9 => by omega)⟩)⟩, (by show va_P _ _ _ t.heap; rw [ht]; exact hP9)⟩, hS.F ht⟩) hS.2.2 dX12_either_70
          · skip
            have t9975 := cv_nle (a := 0) (by decide) (b := (v9957 40).toInt) rfl c9973
            refine lv_aload_n hx hb dX12_either_61 rfl (lv_at hl 1 rfl) ?_
            have t9976 : 0 ≤ (v 30).toInt ∧ (v 30).toInt ≤ 120 := by have h9 := hI.1 30 _ _ rfl; rw [show v9967 30 = v 30 from (hf9969 30 (by decide)).trans ((hf9959 30 (by decide)).trans (hf9555 30 (by decide)))] at h9; exact h9
            have t9977 : 0 ≤ (v9957 39).toInt ∧ (v9957 39).toInt ≤ 120 := by have h9 := hI.1 39 _ _ rfl; rw [show v9967 39 = v9957 39 from hf9969 39 (by decide)] at h9; exact h9
            have hby24 : F9968 24 = F 24 := hF 24 (by decide)
            refine va_calli (va_runV (As := []) (rest := []) ⟨hx, hb, hml, hown, hwd⟩ (c_X12_look l dC dI g c adK adV v9967 F9968 rc H.size  hg hI ) (cwV 0 hwd (gV wk_1017 wk_1014 wk_1015 wk_1016 wk_5) rfl rfl rfl (by decide +kernel) ⟨(by show 1 + 1 ≤ fr + 7; omega), (by show 8 + (1 + 11) + (40) ≤ lc + 280; omega)⟩) ⟨PM.blind, va_recv hK hP (ci := 12) (q0 := 0) rfl rfl, fun U hU hW => ⟨rfl, PM.at hK hE hP hS hU hW⟩⟩ rfl rfl hl.1 rfl (lv_room (Nat.le_of_ble_eq_true rfl)) dX12_either_62 ⟨Nat.le_of_ble_eq_true rfl, Nat.le_of_ble_eq_true rfl⟩) hS (fun q _ h => (freeM hS) q h) (freeM hS) (fun r9978 u t H1 locs ht hvm hw hB hz1 hk1 hS => ?_)
            unfold BM at hB
            rw [ht] at hB
            have hP : va_P (dC, dI) classes (wM g c v9967 F9968 rc) H1 := hB
            replace hw : r9978.toInt = sg (v9967 30) (F9968 24) (v9967 39).toInt ∧ ((v9967 39).toInt < (v9967 30).toInt ∨ r9978.toInt = -1) := hw
            rw [show v9967 39 = v9957 39 from hf9969 39 (by decide)] at hw
            rw [show v9967 30 = v 30 from (hf9969 30 (by decide)).trans ((hf9959 30 (by decide)).trans (hf9555 30 (by decide)))] at hw
            rw [hby24] at hw
            have hw_r9978 := hw
            clear hw
            clear hz1
            generalize H1 = H at hP hS ⊢
            refine lv_bipush (v := 63) hx hb dX12_either_65 (by decide) ?_
            refine lv_icmp_eq (tgt := 71) hx hb dX12_either_67 (by decide) (fun c9979 => ?_) (fun c9979 => ?_)
            · skip
              have t9980 := cv_eq (a := r9978.toInt) rfl (b := 63) (by decide) c9979
              refine lv_aload_n hx hb dX12_either_71 rfl (lv_at hl 1 rfl) ?_
              have t9981 : 0 ≤ (v9957 39).toInt ∧ (v9957 39).toInt ≤ 120 := by have h9 := hI.1 39 _ _ rfl; rw [show v9967 39 = v9957 39 from hf9969 39 (by decide)] at h9; exact h9
              have t9982 : 0 ≤ (v9957 41).toInt ∧ (v9957 41).toInt ≤ 8 := by have h9 := hI.1 41 _ _ rfl; rw [show v9967 41 = v9957 41 from hf9969 41 (by decide)] at h9; exact h9
              refine va_calli (va_runV (As := []) (rest := []) ⟨hx, hb, hml, hown, hwd⟩ (c_X12_opens l dC dI g c adK adV v9967 F9968 rc H.size  hg hI (by have h9 : v9967 39 = v9957 39 := hf9969 39 (by decide); (try rw [h9]); clear h9; have h9 : v9967 30 = v 30 := (hf9969 30 (by decide)).trans ((hf9959 30 (by decide)).trans (hf9555 30 (by decide))); (try rw [h9]); clear h9; omega)) (cwV 0 hwd (gV wk_1025 wk_1022 wk_1023 wk_1024 wk_5) rfl rfl rfl (by decide +kernel) ⟨(by show 2 + 1 ≤ fr + 7; omega), (by show 8 + (1 + 11) + (80) ≤ lc + 280; omega)⟩) ⟨PM.blind, va_recv hK hP (ci := 12) (q0 := 0) rfl rfl, fun U hU hW => ⟨rfl, PM.at hK hE hP hS hU hW⟩⟩ rfl rfl hl.1 rfl (lv_room (Nat.le_of_ble_eq_true rfl)) dX12_either_72 ⟨Nat.le_of_ble_eq_true rfl, Nat.le_of_ble_eq_true rfl⟩) hS (fun q _ h => (freeM hS) q h) (freeM hS) (fun r9983 u t H1 locs ht hvm hw hB hz1 hk1 hS => ?_)
              unfold BM at hB
              rw [ht] at hB
              obtain ⟨v9984, F9985, rc9⟩ := u
              obtain ⟨hI, hrc, hf9986, hG9987, hw⟩ := hw
              dsimp only at hI hrc hB hf9986 hG9987 hw
              have hF := frCF (by decide) hG9987 hF
              rw [hrc] at hB
              have hP : va_P (dC, dI) classes (wM g c v9984 F9985 rc) H1 := hB
              replace hw : (r9983.toInt = 1 ∧ (v9967 41).toInt < 8 ∧ (v9984 41).toInt = (v9967 41).toInt + 1 ∧ (v9984 39).toInt = (v9967 39).toInt + 1 ∧ (v9984 40).toInt = (v9967 40).toInt) ∨ (r9983.toInt = 0 ∧ (v9967 41).toInt = 8 ∧ 0 ≤ (v9984 40).toInt ∧ (0 ≤ (v9967 40).toInt ∨ (v9984 40).toInt = (v9967 39).toInt) ∧  (v9984 41).toInt = (v9967 41).toInt ∧ (v9984 39).toInt = (v9967 39).toInt) := hw
              rw [show v9967 41 = v9957 41 from hf9969 41 (by decide)] at hw
              rw [show v9967 39 = v9957 39 from hf9969 39 (by decide)] at hw
              rw [show v9967 40 = v9957 40 from hf9969 40 (by decide)] at hw
              have hw_r9983 := hw
              clear hw
              have t9988 : 0 ≤ (v9984 39).toInt ∧ (v9984 39).toInt ≤ 120 := hI.1 39 _ _ rfl
              have t9989 : 0 ≤ (v9984 41).toInt ∧ (v9984 41).toInt ≤ 8 := hI.1 41 _ _ rfl
              clear hz1
              generalize H1 = H at hP hS ⊢
              replace hk : keepL (v 37) (F 28) (F 29) (F9985 28) (F9985 29) := by rw [hG9987 28 (by decide), hG9987 29 (by decide)]; exact hk
              replace hd : (v9984 40).toInt < 0 → dp (F9985 28) (F9985 29) (bI (v 37)) (v9967 38).toInt.toNat = some (((d + 1) + 1) - 1) := fun hf => (by rw [hG9987 28 (by decide), hG9987 29 (by decide)]; exact hd (by omega))
              refine lv_if_ne (tgt := 79) hx hb dX12_either_75 (by decide) (fun c9990 => ?_) (fun c9990 => ?_)
              · skip
                have t9991 := cv_ne (a := r9983.toInt) rfl (b := 0) (by decide) c9990
                refine lv_aload_n hx hb dX12_either_79 rfl (lv_at hl 1 rfl) ?_
                have t9992 : 0 ≤ (v 30).toInt ∧ (v 30).toInt ≤ 120 := by have h9 := hI.1 30 _ _ rfl; rw [show v9984 30 = v 30 from (hf9986 30 (by decide)).trans ((hf9969 30 (by decide)).trans ((hf9959 30 (by decide)).trans (hf9555 30 (by decide))))] at h9; exact h9
                have t9993 : 0 ≤ (v 37).toInt ∧ (v 37).toInt ≤ 9 := by have h9 := hI.1 37 _ _ rfl; rw [show v9984 37 = v 37 from (hf9986 37 (by decide)).trans ((hf9969 37 (by decide)).trans ((hf9959 37 (by decide)).trans (hf9555 37 (by decide))))] at h9; exact h9
                have t9994 : 0 ≤ (v9967 38).toInt ∧ (v9967 38).toInt ≤ 120 := by have h9 := hI.1 38 _ _ rfl; rw [show v9984 38 = v9967 38 from hf9986 38 (by decide)] at h9; exact h9
                have t9995 : 0 ≤ (v9984 39).toInt ∧ (v9984 39).toInt ≤ 120 := hI.1 39 _ _ rfl
                have t9996 : 0 ≤ (v9984 41).toInt ∧ (v9984 41).toInt ≤ 8 := hI.1 41 _ _ rfl
                have hby24 : F9985 24 = F 24 := hF 24 (by decide)
                refine va_callv (va_runV (As := []) (rest := []) ⟨hx, hb, hml, hown, hwd⟩ (rE l dC dI g c adK adV v9984 F9985 rc H.size  (((d + 1) + 1) - 1) hg hI (by have h9 : v9984 38 = v9967 38 := hf9986 38 (by decide); (try rw [h9]); clear h9; have h9 : v9984 39 = v9984 39 := rfl; (try rw [h9]); clear h9; have h9 : v9984 30 = v 30 := (hf9986 30 (by decide)).trans ((hf9969 30 (by decide)).trans ((hf9959 30 (by decide)).trans (hf9555 30 (by decide)))); (try rw [h9]); clear h9; have h9 : v9984 40 = v9984 40 := rfl; (try rw [h9]); clear h9; have h9 : v9984 41 = v9984 41 := rfl; (try rw [h9]); clear h9; omega) (by have h9 : v9984 37 = (v 37) := (hf9986 37 (by decide)).trans ((hf9969 37 (by decide)).trans ((hf9959 37 (by decide)).trans (hf9555 37 (by decide)))); have h8 : v9984 38 = (v9967 38) := hf9986 38 (by decide); (try rw [h9]); (try rw [h8]); exact hd (by omega))) (cwV 0 hwd (gV wk_1010 wk_1007 wk_1008 wk_1009 wk_5) rfl rfl rfl (by decide +kernel) ⟨(by show fr + 3 + 1 ≤ fr + 7; omega), (by show 8 + (2 + 11) + (lc + 120) ≤ lc + 280; omega)⟩) ⟨PM.blind, va_recv hK hP (ci := 12) (q0 := 0) rfl rfl, fun U hU hW => ⟨rfl, PM.at hK hE hP hS hU hW⟩⟩ rfl rfl hl.1 rfl (lv_room (Nat.le_of_ble_eq_true rfl)) dX12_either_80 ⟨Nat.le_of_ble_eq_true rfl, Nat.le_of_ble_eq_true rfl⟩) hS (fun q _ h => (freeM hS) q h) (freeM hS) (fun u t H1 locs ht hvm hw hB hz1 hk1 hS => ?_)
                unfold BM at hB
                rw [ht] at hB
                obtain ⟨v9998, F9999, rc9⟩ := u
                obtain ⟨hI, hrc, hf10000, hG10001, hw⟩ := hw
                dsimp only at hI hrc hB hf10000 hG10001 hw
                have hF := frCF (by decide) hG10001 hF
                rw [hrc] at hB
                have hP : va_P (dC, dI) classes (wM g c v9998 F9999 rc) H1 := hB
                replace hw : ((v9998 40).toInt ≤ (v9998 39).toInt ∧ (v9984 39).toInt ≤ (v9998 39).toInt ∧ (v9998 39).toInt ≤ (v9984 30).toInt ∧ (v9984 38).toInt ≤ (v9998 38).toInt ∧ (v9998 38).toInt - (v9984 38).toInt ≤ (v9998 39).toInt - (v9984 39).toInt ∧ (v9984 41).toInt ≤ (v9998 41).toInt ∧ ((v9998 40).toInt < 0 → (v9998 41).toInt = (v9984 41).toInt)) ∧ keepL (v9984 37) (F9985 28) (F9985 29) (F9999 28) (F9999 29) ∧ ((v9998 40).toInt < 0 → dp (F9999 28) (F9999 29) (bI (v9984 37)) (v9998 38).toInt.toNat = some ((((d + 1) + 1) - 1) + 1)) ∧ rd false (v9984 30) (F9985 24) 6 (v9984 41).toInt (v9984 39).toInt (v9998 40).toInt (v9998 39).toInt := hw
                rw [show v9984 30 = v 30 from (hf9986 30 (by decide)).trans ((hf9969 30 (by decide)).trans ((hf9959 30 (by decide)).trans (hf9555 30 (by decide))))] at hw
                rw [show v9984 38 = v9967 38 from hf9986 38 (by decide)] at hw
                rw [show v9984 37 = v 37 from (hf9986 37 (by decide)).trans ((hf9969 37 (by decide)).trans ((hf9959 37 (by decide)).trans (hf9555 37 (by decide))))] at hw
                rw [hby24] at hw
                have hw_r9997 := hw
                clear hw
                have t10002 : 0 ≤ (v9998 38).toInt ∧ (v9998 38).toInt ≤ 120 := hI.1 38 _ _ rfl
                have t10003 : 0 ≤ (v9998 39).toInt ∧ (v9998 39).toInt ≤ 120 := hI.1 39 _ _ rfl
                have t10004 : 0 ≤ (v9998 41).toInt ∧ (v9998 41).toInt ≤ 8 := hI.1 41 _ _ rfl
                clear hz1
                generalize H1 = H at hP hS ⊢
                replace hk := hk.tr hw_r9997.2.1
                replace hd := hw_r9997.2.2.1
                have hrd_r9997 := hw_r9997.2.2.2
                replace hw_r9997 := hw_r9997.1
                refine lv_aload_n hx hb dX12_either_83 rfl (lv_at hl 1 rfl) ?_
                refine va_get (D := (dC, dI)) (ci := 12) (v := .int (v9998 40)) (C := RX12) (T := TX12) (N := 63) hx hb hwd inA_X12 hown hK hP 0 rfl rfl 40 (by decide) (hwd _ wk_1005) (fun _ h9 => h9) rfl dX12_either_84 ?_
                refine lv_if_lt (tgt := 91) hx hb dX12_either_87 (by decide) (fun c10005 => ?_) (fun c10005 => ?_)
                · skip
                  have t10006 := cv_lt (a := (v9998 40).toInt) rfl (b := 0) (by decide) c10005
                  refine lv_aload_n hx hb dX12_either_91 rfl (lv_at hl 1 rfl) ?_
                  have t10007 : 0 ≤ (v 30).toInt ∧ (v 30).toInt ≤ 120 := by have h9 := hI.1 30 _ _ rfl; rw [show v9998 30 = v 30 from (hf10000 30 (by decide)).trans ((hf9986 30 (by decide)).trans ((hf9969 30 (by decide)).trans ((hf9959 30 (by decide)).trans (hf9555 30 (by decide)))))] at h9; exact h9
                  have t10008 : 0 ≤ (v9998 39).toInt ∧ (v9998 39).toInt ≤ 120 := hI.1 39 _ _ rfl
                  have hby24 : F9999 24 = F 24 := hF 24 (by decide)
                  refine va_calli (va_runV (As := []) (rest := []) ⟨hx, hb, hml, hown, hwd⟩ (c_X12_look l dC dI g c adK adV v9998 F9999 rc H.size  hg hI ) (cwV 0 hwd (gV wk_1017 wk_1014 wk_1015 wk_1016 wk_5) rfl rfl rfl (by decide +kernel) ⟨(by show 1 + 1 ≤ fr + 7; omega), (by show 8 + (1 + 11) + (40) ≤ lc + 280; omega)⟩) ⟨PM.blind, va_recv hK hP (ci := 12) (q0 := 0) rfl rfl, fun U hU hW => ⟨rfl, PM.at hK hE hP hS hU hW⟩⟩ rfl rfl hl.1 rfl (lv_room (Nat.le_of_ble_eq_true rfl)) dX12_either_92 ⟨Nat.le_of_ble_eq_true rfl, Nat.le_of_ble_eq_true rfl⟩) hS (fun q _ h => (freeM hS) q h) (freeM hS) (fun r10009 u t H1 locs ht hvm hw hB hz1 hk1 hS => ?_)
                  unfold BM at hB
                  rw [ht] at hB
                  have hP : va_P (dC, dI) classes (wM g c v9998 F9999 rc) H1 := hB
                  replace hw : r10009.toInt = sg (v9998 30) (F9999 24) (v9998 39).toInt ∧ ((v9998 39).toInt < (v9998 30).toInt ∨ r10009.toInt = -1) := hw
                  rw [show v9998 30 = v 30 from (hf10000 30 (by decide)).trans ((hf9986 30 (by decide)).trans ((hf9969 30 (by decide)).trans ((hf9959 30 (by decide)).trans (hf9555 30 (by decide)))))] at hw
                  rw [hby24] at hw
                  have hw_r10009 := hw
                  clear hw
                  clear hz1
                  generalize H1 = H at hP hS ⊢
                  refine lv_bipush (v := 58) hx hb dX12_either_95 (by decide) ?_
                  refine lv_icmp_eq (tgt := 105) hx hb dX12_either_97 (by decide) (fun c10010 => ?_) (fun c10010 => ?_)
                  · skip
                    have t10011 := cv_eq (a := r10009.toInt) rfl (b := 58) (by decide) c10010
                    refine lv_aload_n hx hb dX12_either_105 rfl (lv_at hl 1 rfl) ?_
                    refine lv_dup hx hb dX12_either_106 rfl ?_
                    refine va_get (D := (dC, dI)) (ci := 12) (v := .int (v9998 39)) (C := RX12) (T := TX12) (N := 63) hx hb hwd inA_X12 hown hK hP 0 rfl rfl 39 (by decide) (hwd _ wk_1004) (fun _ h9 => h9) rfl dX12_either_107 ?_
                    have t10012 : 0 ≤ (v9998 39).toInt ∧ (v9998 39).toInt ≤ 120 := hI.1 39 _ _ rfl
                    refine lv_iconst (v := 1) hx hb dX12_either_110 (by decide) ?_
                    refine lv_iadd hx hb dX12_either_111 ?_
                    refine lv_topi (fun z10013 e10014 => ?_)
                    try (have t10015 := tadd e10014 (a := (v9998 39).toInt) rfl (b := 1) (by decide) (by omega))
                    refine va_put (D := (dC, dI)) (ci := 12) (v := .int z10013) (ty := .int) (C := RX12) (T := TX12) (N := 63) (fs := fsM_0 g v9998 rc) hx hb hwd inA_X12 tyX12 tyX12_ok nmX12 hown hK hP (DM hg) hS 0 rfl rfl 39 (by decide) (hwd _ wk_1004) (fun _ h9 => h9) rfl (by decide +kernel) rfl rfl (Nat.le_of_ble_eq_true rfl) dX12_either_112 (fun H locs hP _ hS => ?_)
                    have hP := va_P_eq (pM_39 g c _ _ _ _) hP
                    have hI := IM.put hI 39 z10013 rfl (by omega)
                    refine lv_aload_n hx hb dX12_either_115 rfl (lv_at hl 1 rfl) ?_
                    have t10016 : 0 ≤ (v 30).toInt ∧ (v 30).toInt ≤ 120 := by have h9 := hI.1 30 _ _ rfl; rw [show (va_up v9998 39 z10013) 30 = v 30 from (hf10000 30 (by decide)).trans ((hf9986 30 (by decide)).trans ((hf9969 30 (by decide)).trans ((hf9959 30 (by decide)).trans (hf9555 30 (by decide)))))] at h9; exact h9
                    have t10017 : 0 ≤ (v 37).toInt ∧ (v 37).toInt ≤ 9 := by have h9 := hI.1 37 _ _ rfl; rw [show (va_up v9998 39 z10013) 37 = v 37 from (hf10000 37 (by decide)).trans ((hf9986 37 (by decide)).trans ((hf9969 37 (by decide)).trans ((hf9959 37 (by decide)).trans (hf9555 37 (by decide)))))] at h9; exact h9
                    have t10018 : 0 ≤ (v9998 38).toInt ∧ (v9998 38).toInt ≤ 120 := hI.1 38 _ _ rfl
                    have t10019 : 0 ≤ z10013.toInt ∧ z10013.toInt ≤ 120 := hI.1 39 _ _ rfl
                    have t10020 : 0 ≤ (v9998 41).toInt ∧ (v9998 41).toInt ≤ 8 := hI.1 41 _ _ rfl
                    have hby24 : F9999 24 = F 24 := hF 24 (by decide)
                    refine va_callv (va_runV (As := []) (rest := []) ⟨hx, hb, hml, hown, hwd⟩ (rE l dC dI g c adK adV (va_up v9998 39 z10013) F9999 rc H.size  ((((d + 1) + 1) - 1) + 1) hg hI (by have h9 : (va_up v9998 39 z10013) 38 = v9998 38 := rfl; (try rw [h9]); clear h9; have h9 : (va_up v9998 39 z10013) 39 = z10013 := rfl; (try rw [h9]); clear h9; have h9 : (va_up v9998 39 z10013) 30 = v 30 := (hf10000 30 (by decide)).trans ((hf9986 30 (by decide)).trans ((hf9969 30 (by decide)).trans ((hf9959 30 (by decide)).trans (hf9555 30 (by decide))))); (try rw [h9]); clear h9; have h9 : (va_up v9998 39 z10013) 40 = v9998 40 := rfl; (try rw [h9]); clear h9; have h9 : (va_up v9998 39 z10013) 41 = v9998 41 := rfl; (try rw [h9]); clear h9; omega) (by have h9 : (va_up v9998 39 z10013) 37 = (v 37) := (hf10000 37 (by decide)).trans ((hf9986 37 (by decide)).trans ((hf9969 37 (by decide)).trans ((hf9959 37 (by decide)).trans (hf9555 37 (by decide))))); have h8 : (va_up v9998 39 z10013) 38 = (v9998 38) := rfl; (try rw [h9]); (try rw [h8]); exact hd (by omega))) (cwV 0 hwd (gV wk_1010 wk_1007 wk_1008 wk_1009 wk_5) rfl rfl rfl (by decide +kernel) ⟨(by show fr + 3 + 1 ≤ fr + 7; omega), (by show 8 + (2 + 11) + (lc + 120) ≤ lc + 280; omega)⟩) ⟨PM.blind, va_recv hK hP (ci := 12) (q0 := 0) rfl rfl, fun U hU hW => ⟨rfl, PM.at hK hE hP hS hU hW⟩⟩ rfl rfl hl.1 rfl (lv_room (Nat.le_of_ble_eq_true rfl)) dX12_either_116 ⟨Nat.le_of_ble_eq_true rfl, Nat.le_of_ble_eq_true rfl⟩) hS (fun q _ h => (freeM hS) q h) (freeM hS) (fun u t H1 locs ht hvm hw hB hz1 hk1 hS => ?_)
                    unfold BM at hB
                    rw [ht] at hB
                    obtain ⟨v10022, F10023, rc9⟩ := u
                    obtain ⟨hI, hrc, hf10024, hG10025, hw⟩ := hw
                    dsimp only at hI hrc hB hf10024 hG10025 hw
                    have hF := frCF (by decide) hG10025 hF
                    rw [hrc] at hB
                    have hP : va_P (dC, dI) classes (wM g c v10022 F10023 rc) H1 := hB
                    replace hw : ((v10022 40).toInt ≤ (v10022 39).toInt ∧ z10013.toInt ≤ (v10022 39).toInt ∧ (v10022 39).toInt ≤ ((va_up v9998 39 z10013) 30).toInt ∧ (v9998 38).toInt ≤ (v10022 38).toInt ∧ (v10022 38).toInt - (v9998 38).toInt ≤ (v10022 39).toInt - z10013.toInt ∧ (v9998 41).toInt ≤ (v10022 41).toInt ∧ ((v10022 40).toInt < 0 → (v10022 41).toInt = (v9998 41).toInt)) ∧ keepL ((va_up v9998 39 z10013) 37) (F9999 28) (F9999 29) (F10023 28) (F10023 29) ∧ ((v10022 40).toInt < 0 → dp (F10023 28) (F10023 29) (bI ((va_up v9998 39 z10013) 37)) (v10022 38).toInt.toNat = some (((((d + 1) + 1) - 1) + 1) + 1)) ∧ rd false ((va_up v9998 39 z10013) 30) (F9999 24) 6 (v9998 41).toInt z10013.toInt (v10022 40).toInt (v10022 39).toInt := hw
                    rw [show (va_up v9998 39 z10013) 30 = v 30 from (hf10000 30 (by decide)).trans ((hf9986 30 (by decide)).trans ((hf9969 30 (by decide)).trans ((hf9959 30 (by decide)).trans (hf9555 30 (by decide)))))] at hw
                    rw [show (va_up v9998 39 z10013) 37 = v 37 from (hf10000 37 (by decide)).trans ((hf9986 37 (by decide)).trans ((hf9969 37 (by decide)).trans ((hf9959 37 (by decide)).trans (hf9555 37 (by decide)))))] at hw
                    rw [hby24] at hw
                    have hw_r10021 := hw
                    clear hw
                    have t10026 : 0 ≤ (v10022 38).toInt ∧ (v10022 38).toInt ≤ 120 := hI.1 38 _ _ rfl
                    have t10027 : 0 ≤ (v10022 39).toInt ∧ (v10022 39).toInt ≤ 120 := hI.1 39 _ _ rfl
                    have t10028 : 0 ≤ (v10022 41).toInt ∧ (v10022 41).toInt ≤ 8 := hI.1 41 _ _ rfl
                    clear hz1
                    generalize H1 = H at hP hS ⊢
                    replace hk := hk.tr hw_r10021.2.1
                    replace hd := hw_r10021.2.2.1
                    have hrd_r10021 := hw_r10021.2.2.2
                    replace hw_r10021 := hw_r10021.1
                    refine lv_aload_n hx hb dX12_either_119 rfl (lv_at hl 1 rfl) ?_
                    refine lv_iconst (v := 4) hx hb dX12_either_120 (by decide) ?_
                    refine lv_iconst (v := 0) hx hb dX12_either_121 (by decide) ?_
                    have t10029 : 0 ≤ (v 37).toInt ∧ (v 37).toInt ≤ 9 := by have h9 := hI.1 37 _ _ rfl; rw [show v10022 37 = v 37 from (hf10024 37 (by decide)).trans ((hf10000 37 (by decide)).trans ((hf9986 37 (by decide)).trans ((hf9969 37 (by decide)).trans ((hf9959 37 (by decide)).trans (hf9555 37 (by decide))))))] at h9; exact h9
                    have t10030 : 0 ≤ (v10022 38).toInt ∧ (v10022 38).toInt ≤ 120 := hI.1 38 _ _ rfl
                    refine va_callv (va_runV (As := [.int 4, .int 0]) (rest := []) ⟨hx, hb, hml, hown, hwd⟩ (c_X12_lay l dC dI g c adK adV v10022 F10023 rc H.size 4 0 hg hI (by have h9 : v10022 38 = v10022 38 := rfl; rw [h9]; omega)) (cwV 2 hwd (gV wk_1021 wk_1018 wk_1019 wk_1020 wk_5) rfl rfl rfl (by decide +kernel) ⟨(by show 1 + 1 ≤ fr + 7; omega), (by show 8 + (3 + 11) + (40) ≤ lc + 280; omega)⟩) ⟨PM.blind, va_recv hK hP (ci := 12) (q0 := 0) rfl rfl, fun U hU hW => ⟨rfl, PM.at hK hE hP hS hU hW⟩⟩ rfl rfl hl.1 rfl (lv_room (Nat.le_of_ble_eq_true rfl)) dX12_either_122 ⟨Nat.le_of_ble_eq_true rfl, Nat.le_of_ble_eq_true rfl⟩) hS (fun q _ h => (freeM hS) q h) (freeM hS) (fun u t H1 locs ht hvm hw hB hz1 hk1 hS => ?_)
                    unfold BM at hB
                    rw [ht] at hB
                    obtain ⟨v10032, F10033, rc9⟩ := u
                    obtain ⟨hI, hrc, hf10034, hG10035, hw⟩ := hw
                    dsimp only at hI hrc hB hf10034 hG10035 hw
                    have hF := frCF (by decide) hG10035 hF
                    rw [hrc] at hB
                    have hP : va_P (dC, dI) classes (wM g c v10032 F10033 rc) H1 := hB
                    replace hw : (v10032 38).toInt = (v10022 38).toInt + 1 ∧ keepL (v10022 37) (F10023 28) (F10023 29) (F10033 28) (F10033 29) ∧ dp (F10033 28) (F10033 29) (bI (v10022 37)) ((v10022 38).toInt.toNat + 1) = dpS (dp (F10023 28) (F10023 29) (bI (v10022 37)) (v10022 38).toInt.toNat) (4 : Int32) (0 : Int32) := hw
                    rw [show v10022 37 = v 37 from (hf10024 37 (by decide)).trans ((hf10000 37 (by decide)).trans ((hf9986 37 (by decide)).trans ((hf9969 37 (by decide)).trans ((hf9959 37 (by decide)).trans (hf9555 37 (by decide))))))] at hw
                    have hw_r10031 := hw
                    clear hw
                    have t10036 : 0 ≤ (v10032 38).toInt ∧ (v10032 38).toInt ≤ 120 := hI.1 38 _ _ rfl
                    have k10037 : (4 : Int32).toInt = 4 := by decide
                    have k10038 : (0 : Int32).toInt = 0 := by decide
                    clear hz1
                    generalize H1 = H at hP hS ⊢
                    replace hk := hk.tr hw_r10031.2.1
                    replace hd : (v10022 40).toInt < 0 → dp (F10033 28) (F10033 29) (bI (v 37)) (v10032 38).toInt.toNat = some ((((((d + 1) + 1) - 1) + 1) + 1) - 2) := fun hf => (by have e9 : (v10032 38).toInt.toNat = (v10022 38).toInt.toNat + 1 := (by omega); rw [e9, hw_r10031.2.2, hd hf]; exact dpS_4 (by decide) (by omega))
                    replace hw_r10031 := hw_r10031.1
                    refine lv_aload_n hx hb dX12_either_125 rfl (lv_at hl 1 rfl) ?_
                    refine lv_dup hx hb dX12_either_126 rfl ?_
                    refine va_get (D := (dC, dI)) (ci := 12) (v := .int (v10032 41)) (C := RX12) (T := TX12) (N := 63) hx hb hwd inA_X12 hown hK hP 0 rfl rfl 41 (by decide) (hwd _ wk_1006) (fun _ h9 => h9) rfl dX12_either_127 ?_
                    refine my_top (v := v10022 41) (hf10034 41 (by decide)) ?_
                    have t10039 : 0 ≤ (v10022 41).toInt ∧ (v10022 41).toInt ≤ 8 := by have h9 := hI.1 41 _ _ rfl; rw [show v10032 41 = v10022 41 from hf10034 41 (by decide)] at h9; exact h9
                    refine lv_iconst (v := 1) hx hb dX12_either_130 (by decide) ?_
                    refine lv_isub hx hb dX12_either_131 ?_
                    refine lv_topi (fun z10040 e10041 => ?_)
                    try (have t10042 := tsub e10041 (a := (v10022 41).toInt) rfl (b := 1) (by decide) (by omega))
                    refine va_put (D := (dC, dI)) (ci := 12) (v := .int z10040) (ty := .int) (C := RX12) (T := TX12) (N := 63) (fs := fsM_0 g v10032 rc) hx hb hwd inA_X12 tyX12 tyX12_ok nmX12 hown hK hP (DM hg) hS 0 rfl rfl 41 (by decide) (hwd _ wk_1006) (fun _ h9 => h9) rfl (by decide +kernel) rfl rfl (Nat.le_of_ble_eq_true rfl) dX12_either_132 (fun H locs hP _ hS => ?_)
                    have hP := va_P_eq (pM_41 g c _ _ _ _) hP
                    have hI := IM.put hI 41 z10040 rfl (by omega)
                    have hP9 : va_P (dC, dI) classes (wM g c (va_up v10032 41 z10040) F10033 rc) H := hP
                    exact W.vret hx hb hr (fun t ht hW => ⟨⟨((va_up v10032 41 z10040), F10033, rc), rfl, ⟨hI, rfl, (frU (by decide) (frC (by decide) hf10034 (frC (by decide) hf10024 (frU (by decide) (frC (by decide) hf10000 (frC (by decide) hf9986 (frC (by decide) hf9969 (frC (by decide) hf9959 (frU (by decide) (frC (by decide) hf9555 (fun _ _ => rfl))))))))))), hF, (by show (((va_up v10032 41 z10040) 40).toInt ≤ ((va_up v10032 41 z10040) 39).toInt ∧ (v 39).toInt ≤ ((va_up v10032 41 z10040) 39).toInt ∧ ((va_up v10032 41 z10040) 39).toInt ≤ (v 30).toInt ∧ (v 38).toInt ≤ (v10032 38).toInt ∧ (v10032 38).toInt - (v 38).toInt ≤ ((va_up v10032 41 z10040) 39).toInt - (v 39).toInt ∧ (v 41).toInt ≤ z10040.toInt ∧ (((va_up v10032 41 z10040) 40).toInt < 0 → z10040.toInt = (v 41).toInt)) ∧ keepL (v 37) (F 28) (F 29) (F10033 28) (F10033 29) ∧ (((va_up v10032 41 z10040) 40).toInt < 0 → dp (F10033 28) (F10033 29) (bI (v 37)) (v10032 38).toInt.toNat = some (d + 1)) ∧ rd false (v 30) (F 24) 6 (v 41).toInt (v 39).toInt ((va_up v10032 41 z10040) 40).toInt ((va_up v10032 41 z10040) 39).toInt; rw [show (va_up v10032 41 z10040) 40 = v10022 40 from hf10034 40 (by decide)]; rw [show (va_up v10032 41 z10040) 39 = v10022 39 from hf10034 39 (by decide)]; exact ⟨by omega, hk, fun hf => (hd (by omega)).trans (congrArg some (by omega)), rd.eX (f2 := -1) (rd.c1 (hrd_r9552.cast (by omega) rfl rfl rfl) (by omega) (by omega) (by omega) (hrd_r9956.cast (by omega) rfl rfl rfl)) (by omega) (by omega) (by omega) (by omega) (by omega) hrd_r9997 (by omega) (by omega) (fun _ _ => hrd_r10021)⟩)⟩, (by show va_P _ _ _ t.heap; rw [ht]; exact hP9)⟩, hS.F ht⟩) hS.2.2 dX12_either_135
                  · skip
                    have t10043 := cv_ne (a := r10009.toInt) rfl (b := 58) (by decide) c10010
                    refine lv_aload_n hx hb dX12_either_100 rfl (lv_at hl 1 rfl) ?_
                    have t10044 : 0 ≤ (v9998 39).toInt ∧ (v9998 39).toInt ≤ 120 := hI.1 39 _ _ rfl
                    refine va_callv (va_runV (As := []) (rest := []) ⟨hx, hb, hml, hown, hwd⟩ (c_X12_wrong l dC dI g c adK adV v9998 F9999 rc H.size  hg hI ) (cwV 0 hwd (gV wk_1029 wk_1026 wk_1027 wk_1028 wk_5) rfl rfl rfl (by decide +kernel) ⟨(by show 1 + 1 ≤ fr + 7; omega), (by show 8 + (1 + 11) + (40) ≤ lc + 280; omega)⟩) ⟨PM.blind, va_recv hK hP (ci := 12) (q0 := 0) rfl rfl, fun U hU hW => ⟨rfl, PM.at hK hE hP hS hU hW⟩⟩ rfl rfl hl.1 rfl (lv_room (Nat.le_of_ble_eq_true rfl)) dX12_either_101 ⟨Nat.le_of_ble_eq_true rfl, Nat.le_of_ble_eq_true rfl⟩) hS (fun q _ h => (freeM hS) q h) (freeM hS) (fun u t H1 locs ht hvm hw hB hz1 hk1 hS => ?_)
                    unfold BM at hB
                    rw [ht] at hB
                    obtain ⟨v10046, F10047, rc9⟩ := u
                    obtain ⟨hI, hrc, hf10048, hG10049, hw⟩ := hw
                    dsimp only at hI hrc hB hf10048 hG10049 hw
                    have hF := frCF (by decide) hG10049 hF
                    rw [hrc] at hB
                    have hP : va_P (dC, dI) classes (wM g c v10046 F10047 rc) H1 := hB
                    replace hw : ((v9998 40).toInt < 0 ∧ (v10046 40).toInt = (v9998 39).toInt) ∨ (0 ≤ (v9998 40).toInt ∧ (v10046 40).toInt = (v9998 40).toInt) := hw
                    have hw_r10045 := hw
                    clear hw
                    clear hz1
                    generalize H1 = H at hP hS ⊢
                    replace hk : keepL (v 37) (F 28) (F 29) (F10047 28) (F10047 29) := by rw [hG10049 28 (by decide), hG10049 29 (by decide)]; exact hk
                    replace hd : (v10046 40).toInt < 0 → dp (F10047 28) (F10047 29) (bI (v 37)) (v9998 38).toInt.toNat = some ((((d + 1) + 1) - 1) + 1) := fun hf => (by rw [hG10049 28 (by decide), hG10049 29 (by decide)]; exact hd (by omega))
                    have hP9 : va_P (dC, dI) classes (wM g c v10046 F10047 rc) H := hP
                    exact W.vret hx hb hr (fun t ht hW => ⟨⟨(v10046, F10047, rc), rfl, ⟨hI, rfl, (frC (by decide) hf10048 (frC (by decide) hf10000 (frC (by decide) hf9986 (frC (by decide) hf9969 (frC (by decide) hf9959 (frU (by decide) (frC (by decide) hf9555 (fun _ _ => rfl)))))))), hF, (by show ((v10046 40).toInt ≤ (v10046 39).toInt ∧ (v 39).toInt ≤ (v10046 39).toInt ∧ (v10046 39).toInt ≤ (v 30).toInt ∧ (v 38).toInt ≤ (v10046 38).toInt ∧ (v10046 38).toInt - (v 38).toInt ≤ (v10046 39).toInt - (v 39).toInt ∧ (v 41).toInt ≤ (v10046 41).toInt ∧ ((v10046 40).toInt < 0 → (v10046 41).toInt = (v 41).toInt)) ∧ keepL (v 37) (F 28) (F 29) (F10047 28) (F10047 29) ∧ ((v10046 40).toInt < 0 → dp (F10047 28) (F10047 29) (bI (v 37)) (v10046 38).toInt.toNat = some (d + 1)) ∧ rd false (v 30) (F 24) 6 (v 41).toInt (v 39).toInt (v10046 40).toInt (v10046 39).toInt; rw [show v10046 39 = v9998 39 from hf10048 39 (by decide)]; rw [show v10046 38 = v9998 38 from hf10048 38 (by decide)]; rw [show v10046 41 = v9998 41 from hf10048 41 (by decide)]; exact ⟨by omega, hk, fun hf => (hd (by omega)).trans (congrArg some (by omega)), rd.eX (f2 := 0) (g2 := 0) (rd.c1 (hrd_r9552.cast (by omega) rfl rfl rfl) (by omega) (by omega) (by omega) (hrd_r9956.cast (by omega) rfl rfl rfl)) (by omega) (by omega) (by omega) (by omega) (by omega) hrd_r9997 (by omega) (d2 := (v 41).toInt + 1) rfl (fun q9 => absurd q9 (by decide))⟩)⟩, (by show va_P _ _ _ t.heap; rw [ht]; exact hP9)⟩, hS.F ht⟩) hS.2.2 dX12_either_104
                · skip
                  have t10050 := cv_nlt (a := (v9998 40).toInt) rfl (b := 0) (by decide) c10005
                  have hP9 : va_P (dC, dI) classes (wM g c v9998 F9999 rc) H := hP
                  exact W.vret hx hb hr (fun t ht hW => ⟨⟨(v9998, F9999, rc), rfl, ⟨hI, rfl, (frC (by decide) hf10000 (frC (by decide) hf9986 (frC (by decide) hf9969 (frC (by decide) hf9959 (frU (by decide) (frC (by decide) hf9555 (fun _ _ => rfl))))))), hF, (by show ((v9998 40).toInt ≤ (v9998 39).toInt ∧ (v 39).toInt ≤ (v9998 39).toInt ∧ (v9998 39).toInt ≤ (v 30).toInt ∧ (v 38).toInt ≤ (v9998 38).toInt ∧ (v9998 38).toInt - (v 38).toInt ≤ (v9998 39).toInt - (v 39).toInt ∧ (v 41).toInt ≤ (v9998 41).toInt ∧ ((v9998 40).toInt < 0 → (v9998 41).toInt = (v 41).toInt)) ∧ keepL (v 37) (F 28) (F 29) (F9999 28) (F9999 29) ∧ ((v9998 40).toInt < 0 → dp (F9999 28) (F9999 29) (bI (v 37)) (v9998 38).toInt.toNat = some (d + 1)) ∧ rd false (v 30) (F 24) 6 (v 41).toInt (v 39).toInt (v9998 40).toInt (v9998 39).toInt; exact ⟨by omega, hk, fun hf => (hd (by omega)).trans (congrArg some (by omega)), rd.eX (f2 := 0) (g2 := 0) (rd.c1 (hrd_r9552.cast (by omega) rfl rfl rfl) (by omega) (by omega) (by omega) (hrd_r9956.cast (by omega) rfl rfl rfl)) (by omega) (by omega) (by omega) (by omega) (by omega) hrd_r9997 (by omega) (d2 := (v 41).toInt + 1) rfl (fun q9 => absurd q9 (by decide))⟩)⟩, (by show va_P _ _ _ t.heap; rw [ht]; exact hP9)⟩, hS.F ht⟩) hS.2.2 dX12_either_90
              · skip
                have t10051 := cv_eq (a := r9983.toInt) rfl (b := 0) (by decide) c9990
                have hP9 : va_P (dC, dI) classes (wM g c v9984 F9985 rc) H := hP
                exact W.vret hx hb hr (fun t ht hW => ⟨⟨(v9984, F9985, rc), rfl, ⟨hI, rfl, (frC (by decide) hf9986 (frC (by decide) hf9969 (frC (by decide) hf9959 (frU (by decide) (frC (by decide) hf9555 (fun _ _ => rfl)))))), hF, (by show ((v9984 40).toInt ≤ (v9984 39).toInt ∧ (v 39).toInt ≤ (v9984 39).toInt ∧ (v9984 39).toInt ≤ (v 30).toInt ∧ (v 38).toInt ≤ (v9984 38).toInt ∧ (v9984 38).toInt - (v 38).toInt ≤ (v9984 39).toInt - (v 39).toInt ∧ (v 41).toInt ≤ (v9984 41).toInt ∧ ((v9984 40).toInt < 0 → (v9984 41).toInt = (v 41).toInt)) ∧ keepL (v 37) (F 28) (F 29) (F9985 28) (F9985 29) ∧ ((v9984 40).toInt < 0 → dp (F9985 28) (F9985 29) (bI (v 37)) (v9984 38).toInt.toNat = some (d + 1)) ∧ rd false (v 30) (F 24) 6 (v 41).toInt (v 39).toInt (v9984 40).toInt (v9984 39).toInt; rw [show v9984 38 = v9967 38 from hf9986 38 (by decide)]; exact ⟨by omega, hk, fun hf => (hd (by omega)).trans (congrArg some (by omega)), rd.eD (rd.c1 (hrd_r9552.cast (by omega) rfl rfl rfl) (by omega) (by omega) (by omega) (hrd_r9956.cast (by omega) rfl rfl rfl)) (by omega) (by omega) (by omega) (by omega) (by omega)⟩)⟩, (by show va_P _ _ _ t.heap; rw [ht]; exact hP9)⟩, hS.F ht⟩) hS.2.2 dX12_either_78
            · skip
              have t10052 := cv_ne (a := r9978.toInt) rfl (b := 63) (by decide) c9979
              have hP9 : va_P (dC, dI) classes (wM g c v9967 F9968 rc) H := hP
              exact W.vret hx hb hr (fun t ht hW => ⟨⟨(v9967, F9968, rc), rfl, ⟨hI, rfl, (frC (by decide) hf9969 (frC (by decide) hf9959 (frU (by decide) (frC (by decide) hf9555 (fun _ _ => rfl))))), hF, (by show ((v9967 40).toInt ≤ (v9967 39).toInt ∧ (v 39).toInt ≤ (v9967 39).toInt ∧ (v9967 39).toInt ≤ (v 30).toInt ∧ (v 38).toInt ≤ (v9967 38).toInt ∧ (v9967 38).toInt - (v 38).toInt ≤ (v9967 39).toInt - (v 39).toInt ∧ (v 41).toInt ≤ (v9967 41).toInt ∧ ((v9967 40).toInt < 0 → (v9967 41).toInt = (v 41).toInt)) ∧ keepL (v 37) (F 28) (F 29) (F9968 28) (F9968 29) ∧ ((v9967 40).toInt < 0 → dp (F9968 28) (F9968 29) (bI (v 37)) (v9967 38).toInt.toNat = some (d + 1)) ∧ rd false (v 30) (F 24) 6 (v 41).toInt (v 39).toInt (v9967 40).toInt (v9967 39).toInt; rw [show v9967 40 = v9957 40 from hf9969 40 (by decide)]; rw [show v9967 39 = v9957 39 from hf9969 39 (by decide)]; rw [show v9967 41 = v9957 41 from hf9969 41 (by decide)]; exact ⟨by omega, hk, fun hf => (hd (by omega)).trans (congrArg some (by omega)), rd.e0 (rd.c1 (hrd_r9552.cast (by omega) rfl rfl rfl) (by omega) (by omega) (by omega) (hrd_r9956.cast (by omega) rfl rfl rfl)) (fun q9 => by omega)⟩)⟩, (by show va_P _ _ _ t.heap; rw [ht]; exact hP9)⟩, hS.F ht⟩) hS.2.2 dX12_either_70
