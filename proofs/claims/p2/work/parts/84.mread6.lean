set_option maxHeartbeats 8000000 in
set_option maxRecDepth 100000 in
theorem c_X12_operand_6 (l : Launch) (dC : Nat → ClassId) (dI : Nat → Nat → Nat) (g : Nat → Nat) (c : Nat → ClassId) (adK adV : Nat → Nat) (v : Nat → Int32) (F : Nat → Nat → Int32) (rc sz : Nat) (d : Nat) (hg : injM g) (hI : IM v F) (hq : (v 38).toInt ≤ (v 39).toInt ∧ (v 39).toInt ≤ (v 30).toInt ∧ (v 40).toInt < 0 ∧ (v 41).toInt = 6) (hdp : dp (F 28) (F 29) (bI (v 37)) (v 38).toInt.toNat = some d) : Met l yX12_operand (Cond.code yX12_operand cX12_operand 2 none :: wA) ({ frames := 11, cells := 0, slots := 0, locals := 440 }) (va_Pc [.ref (g 0)] (PM dC dI g c adK adV v F rc sz)) (va_Qv (fun (u : StM) => IM u.1 u.2.1 ∧ u.2.2 = rc ∧ (∀ k, k ∉ ([38, 39, 40, 41, 42] : List Nat) → u.1 k = v k) ∧ (∀ k, k ∉ ([28, 29] : List Nat) → u.2.1 k = F k) ∧ (((v 39).toInt ≤ (u.1 39).toInt ∧ (u.1 39).toInt ≤ (v 30).toInt ∧ (v 38).toInt ≤ (u.1 38).toInt ∧ (u.1 38).toInt - (v 38).toInt ≤ (u.1 39).toInt - (v 39).toInt ∧ (v 41).toInt ≤ (u.1 41).toInt ∧ ((u.1 40).toInt < 0 → (u.1 41).toInt = (v 41).toInt)) ∧ keepL (v 37) (F 28) (F 29) (u.2.1 28) (u.2.1 29) ∧ ((u.1 40).toInt < 0 → dp (u.2.1 28) (u.2.1 29) (bI (v 37)) (u.1 38).toInt.toNat = some (d + 1)))) (BM dC dI g c) (AM g sz)) 0 0 (AM g sz) := by
  refine Met.ofW (cc := cX12_operand) (maxL := 2) (ret := none) (by decide) rfl ?_
  intro p e s m args below meth c0 s₁ B hml hv
  obtain ⟨rfl, hsz, hP, hK, hE⟩ := hv
  have hx := B.exec
  have hb := B.bytes
  have hr := B.returns
  have hts := atoms_spec (ws := Cond.code yX12_operand cX12_operand 2 none :: wA) B.pre
  have hwd : ∀ w ∈ wA, w.before _ s = true := fun w h => hts w (List.mem_cons_of_mem _ h)
  have hown : s.vm.findClass RX12 = some m.cls := findClass_of_methodNamed B.named
  have hlocks := B.notSynchronized
  subst hsz
  have hl := lv_entry ([.ref (g 0)]) (n := 2) (Nat.le_of_ble_eq_true rfl)
  rw [lg_entry_eq]
  generalize (lg_sl ([.ref (g 0)]) ++ List.replicate (2 - (lg_sl ([.ref (g 0)])).length) Slot.unset).toArray = ls at hl ⊢
  have hl : lv_has ls 2 [(0, .ref (g 0))] := hl
  obtain ⟨H, eH⟩ : ∃ z, z = s.heap := ⟨_, rfl⟩
  have hP : va_P (dC, dI) classes (wM g c v F rc) H := by rw [eH]; exact hP
  have hS : va_S (AM g s.heap.size) s.heap H [] := by rw [eH]; exact va_S.rf
  refine my_heap eH ?_
  have hF : ∀ k, k ∉ ([28, 29] : List Nat) → F k = F k := fun _ _ => rfl
  have hb30 : 0 ≤ (v 30).toInt ∧ (v 30).toInt ≤ 120 := hI.1 30 _ _ rfl
  have hb37 : 0 ≤ (v 37).toInt ∧ (v 37).toInt ≤ 9 := hI.1 37 _ _ rfl
  have hb38 : 0 ≤ (v 38).toInt ∧ (v 38).toInt ≤ 120 := hI.1 38 _ _ rfl
  have hb39 : 0 ≤ (v 39).toInt ∧ (v 39).toInt ≤ 120 := hI.1 39 _ _ rfl
  have hb41 : 0 ≤ (v 41).toInt ∧ (v 41).toInt ≤ 8 := hI.1 41 _ _ rfl
  have hk : keepL (v 37) (F 28) (F 29) (F 28) (F 29) := keepL.rf
  have hd : (v 40).toInt < 0 → dp (F 28) (F 29) (bI (v 37)) (v 38).toInt.toNat = some d := fun _ => hdp
  refine lv_aload_n hx hb dX12_operand_0 rfl (lv_at hl 0 rfl) ?_
  have t13415 : 0 ≤ (v 30).toInt ∧ (v 30).toInt ≤ 120 := hI.1 30 _ _ rfl
  have t13416 : 0 ≤ (v 39).toInt ∧ (v 39).toInt ≤ 120 := hI.1 39 _ _ rfl
  refine va_calli (va_runV (As := []) (rest := []) ⟨hx, hb, hml, hown, hwd⟩ (c_X12_look l dC dI g c adK adV v F rc H.size  hg hI ) (cwV 0 hwd (gV wk_1017 wk_1014 wk_1015 wk_1016 wk_5) rfl rfl rfl (by decide +kernel) ⟨Nat.le_of_ble_eq_true rfl, Nat.le_of_ble_eq_true rfl⟩) ⟨PM.blind, va_recv hK hP (ci := 12) (q0 := 0) rfl rfl, fun U hU hW => ⟨rfl, PM.at hK hE hP hS hU hW⟩⟩ rfl rfl hl.1 rfl (lv_room (Nat.le_of_ble_eq_true rfl)) dX12_operand_1 ⟨Nat.le_of_ble_eq_true rfl, Nat.le_of_ble_eq_true rfl⟩) hS (fun q _ h => (freeM hS) q h) (freeM hS) (fun r13417 u t H1 locs ht hvm hw hB hz1 hk1 hS => ?_)
  unfold BM at hB
  rw [ht] at hB
  have hP : va_P (dC, dI) classes (wM g c v F rc) H1 := hB
  have hw : r13417.toInt = lkM (v 39) (v 30) (F 24) ∧ ((v 39).toInt < (v 30).toInt ∨ r13417.toInt = -1) := hw
  have hw_r13417 := hw
  generalize H1 = H at hP hS ⊢
  refine lv_istore_n (lv' := [(1, .int r13417), (0, .ref (g 0))]) hx hb dX12_operand_4 rfl hl (by decide) rfl (fun ls hl => ?_)
  refine lv_iload_n hx hb dX12_operand_5 rfl (lv_at hl 0 rfl) ?_
  refine va_calli (va_runS (As := [.int r13417]) (rest := []) ⟨hx, hb, hml, hown, hwd⟩ (c_X12_nameOf l dC dI g c adK adV v F rc H.size r13417 hg hI ) (va_cwS 1 hwd (gT wk_1034 wk_1032 wk_1033 wk_5) rfl rfl rfl (by decide +kernel) ⟨Nat.le_of_ble_eq_true rfl, Nat.le_of_ble_eq_true rfl⟩) ⟨PM.blind, fun U hU hW => ⟨rfl, PM.at hK hE hP hS hU hW⟩⟩ rfl rfl hl.1 rfl (lv_room (Nat.le_of_ble_eq_true rfl)) dX12_operand_6 ⟨Nat.le_of_ble_eq_true rfl, Nat.le_of_ble_eq_true rfl⟩) hS (fun q _ h => (freeM hS) q h) (freeM hS) (fun r13418 u t H1 locs ht hvm hw hB hz1 hk1 hS => ?_)
  unfold BM at hB
  rw [ht] at hB
  have hP : va_P (dC, dI) classes (wM g c v F rc) H1 := hB
  have hw : r13418.toInt = nmM r13417 ∧ (-1 ≤ r13418.toInt ∧ r13418.toInt ≤ 5) := hw
  have hw_r13418 := hw
  generalize H1 = H at hP hS ⊢
  have np_r13418 := nmM_pos r13417
  refine lv_if_lt (tgt := 34) hx hb dX12_operand_9 (by decide) (fun c13419 => ?_) (fun c13419 => ?_)
  · skip
    have t13420 := cv_lt (a := r13418.toInt) rfl (b := 0) (by decide) c13419
    refine lv_iload_n hx hb dX12_operand_34 rfl (lv_at hl 0 rfl) ?_
    refine lv_bipush (v := 45) hx hb dX12_operand_35 (by decide) ?_
    refine lv_icmp_ne (tgt := 71) hx hb dX12_operand_37 (by decide) (fun c13421 => ?_) (fun c13421 => ?_)
    · skip
      have t13422 := cv_ne (a := r13417.toInt) rfl (b := 45) (by decide) c13421
      refine lv_iload_n hx hb dX12_operand_71 rfl (lv_at hl 0 rfl) ?_
      refine lv_bipush (v := 40) hx hb dX12_operand_72 (by decide) ?_
      refine lv_icmp_ne (tgt := 134) hx hb dX12_operand_74 (by decide) (fun c13423 => ?_) (fun c13423 => ?_)
      · skip
        have t13424 := cv_ne (a := r13417.toInt) rfl (b := 40) (by decide) c13423
        refine lv_aload_n hx hb dX12_operand_134 rfl (lv_at hl 1 rfl) ?_
        have t13425 : 0 ≤ (v 30).toInt ∧ (v 30).toInt ≤ 120 := hI.1 30 _ _ rfl
        have t13426 : 0 ≤ (v 39).toInt ∧ (v 39).toInt ≤ 120 := hI.1 39 _ _ rfl
        refine va_calli (va_runV (As := []) (rest := []) ⟨hx, hb, hml, hown, hwd⟩ (c_X12_digits l dC dI g c adK adV v F rc H.size  hg hI (by have h9 : v 39 = v 39 := rfl; (try rw [h9]); clear h9; have h9 : v 30 = v 30 := rfl; (try rw [h9]); clear h9; omega)) (cwV 0 hwd (gV wk_1041 wk_1038 wk_1039 wk_1040 wk_5) rfl rfl rfl (by decide +kernel) ⟨Nat.le_of_ble_eq_true rfl, Nat.le_of_ble_eq_true rfl⟩) ⟨PM.blind, va_recv hK hP (ci := 12) (q0 := 0) rfl rfl, fun U hU hW => ⟨rfl, PM.at hK hE hP hS hU hW⟩⟩ rfl rfl hl.1 rfl (lv_room (Nat.le_of_ble_eq_true rfl)) dX12_operand_135 ⟨Nat.le_of_ble_eq_true rfl, Nat.le_of_ble_eq_true rfl⟩) hS (fun q _ h => (freeM hS) q h) (freeM hS) (fun r13427 u t H1 locs ht hvm hw hB hz1 hk1 hS => ?_)
        unfold BM at hB
        rw [ht] at hB
        obtain ⟨v13428, F13429, rc9⟩ := u
        obtain ⟨hI, hrc, hf13430, hG13431, hw⟩ := hw
        dsimp only at hI hrc hB hf13430 hG13431 hw
        have hF := frCF (by decide) hG13431 hF
        rw [hrc] at hB
        have hP : va_P (dC, dI) classes (wM g c v13428 F13429 rc) H1 := hB
        have hw : (r13427.toInt = 1 ∧ (v 39).toInt < (v13428 39).toInt ∧ (v13428 39).toInt ≤ (v 30).toInt ∧ (v13428 40).toInt = (v 40).toInt) ∨ (r13427.toInt = 0 ∧ 0 ≤ (v13428 40).toInt ∧ (v 39).toInt ≤ (v13428 39).toInt ∧ (v13428 39).toInt ≤ (v 30).toInt) := hw
        have hw_r13427 := hw
        have t13432 : 0 ≤ (v13428 39).toInt ∧ (v13428 39).toInt ≤ 120 := hI.1 39 _ _ rfl
        generalize H1 = H at hP hS ⊢
        have hk : keepL (v 37) (F 28) (F 29) (F13429 28) (F13429 29) := by rw [hG13431 28 (by decide), hG13431 29 (by decide)]; exact hk
        have hd : (v13428 40).toInt < 0 → dp (F13429 28) (F13429 29) (bI (v 37)) (v 38).toInt.toNat = some d := fun hf => (by rw [hG13431 28 (by decide), hG13431 29 (by decide)]; exact hd (by omega))
        refine lv_if_eq (tgt := 150) hx hb dX12_operand_138 (by decide) (fun c13433 => ?_) (fun c13433 => ?_)
        · skip
          have t13434 := cv_eq (a := r13427.toInt) rfl (b := 0) (by decide) c13433
          have hP9 : va_P (dC, dI) classes (wM g c v13428 F13429 rc) H := hP
          exact W.vret hx hb hr (fun t ht hW => ⟨⟨(v13428, F13429, rc), rfl, ⟨hI, rfl, (frC (by decide) hf13430 (fun _ _ => rfl)), hF, (by show ((v 39).toInt ≤ (v13428 39).toInt ∧ (v13428 39).toInt ≤ (v 30).toInt ∧ (v 38).toInt ≤ (v13428 38).toInt ∧ (v13428 38).toInt - (v 38).toInt ≤ (v13428 39).toInt - (v 39).toInt ∧ (v 41).toInt ≤ (v13428 41).toInt ∧ ((v13428 40).toInt < 0 → (v13428 41).toInt = (v 41).toInt)) ∧ keepL (v 37) (F 28) (F 29) (F13429 28) (F13429 29) ∧ ((v13428 40).toInt < 0 → dp (F13429 28) (F13429 29) (bI (v 37)) (v13428 38).toInt.toNat = some (d + 1)); rw [show v13428 38 = v 38 from hf13430 38 (by decide)]; rw [show v13428 41 = v 41 from hf13430 41 (by decide)]; exact ⟨by omega, hk, fun hf => (hd (by omega)).trans (congrArg some (by omega))⟩)⟩, (by show va_P _ _ _ t.heap; rw [ht]; exact hP9)⟩, hS.F ht⟩) hS.2.2 dX12_operand_150
        · skip
          have t13435 := cv_ne (a := r13427.toInt) rfl (b := 0) (by decide) c13433
          refine lv_aload_n hx hb dX12_operand_141 rfl (lv_at hl 1 rfl) ?_
          refine lv_iconst (v := 1) hx hb dX12_operand_142 (by decide) ?_
          refine lv_aload_n hx hb dX12_operand_143 rfl (lv_at hl 1 rfl) ?_
          refine va_get (D := (dC, dI)) (ci := 12) (v := .int (v13428 42)) (C := RX12) (T := TX12) (N := 63) hx hb hwd inA_X12 hown hK hP 0 rfl rfl 42 (by decide) (hwd _ wk_1031) (fun _ h9 => h9) rfl dX12_operand_144 ?_
          have t13436 : 0 ≤ (v 37).toInt ∧ (v 37).toInt ≤ 9 := by have h9 := hI.1 37 _ _ rfl; rw [show v13428 37 = v 37 from hf13430 37 (by decide)] at h9; exact h9
          have t13437 : 0 ≤ (v 38).toInt ∧ (v 38).toInt ≤ 120 := by have h9 := hI.1 38 _ _ rfl; rw [show v13428 38 = v 38 from hf13430 38 (by decide)] at h9; exact h9
          refine va_callv (va_runV (As := [.int 1, .int (v13428 42)]) (rest := []) ⟨hx, hb, hml, hown, hwd⟩ (c_X12_lay l dC dI g c adK adV v13428 F13429 rc H.size 1 (v13428 42) hg hI (by have h9 : v13428 38 = v 38 := hf13430 38 (by decide); rw [h9]; omega)) (cwV 2 hwd (gV wk_1021 wk_1018 wk_1019 wk_1020 wk_5) rfl rfl rfl (by decide +kernel) ⟨Nat.le_of_ble_eq_true rfl, Nat.le_of_ble_eq_true rfl⟩) ⟨PM.blind, va_recv hK hP (ci := 12) (q0 := 0) rfl rfl, fun U hU hW => ⟨rfl, PM.at hK hE hP hS hU hW⟩⟩ rfl rfl hl.1 rfl (lv_room (Nat.le_of_ble_eq_true rfl)) dX12_operand_147 ⟨Nat.le_of_ble_eq_true rfl, Nat.le_of_ble_eq_true rfl⟩) hS (fun q _ h => (freeM hS) q h) (freeM hS) (fun u t H1 locs ht hvm hw hB hz1 hk1 hS => ?_)
          unfold BM at hB
          rw [ht] at hB
          obtain ⟨v13439, F13440, rc9⟩ := u
          obtain ⟨hI, hrc, hf13441, hG13442, hw⟩ := hw
          dsimp only at hI hrc hB hf13441 hG13442 hw
          have hF := frCF (by decide) hG13442 hF
          rw [hrc] at hB
          have hP : va_P (dC, dI) classes (wM g c v13439 F13440 rc) H1 := hB
          have hw : (v13439 38).toInt = (v13428 38).toInt + 1 ∧ keepL (v13428 37) (F13429 28) (F13429 29) (F13440 28) (F13440 29) ∧ dp (F13440 28) (F13440 29) (bI (v13428 37)) ((v13428 38).toInt.toNat + 1) = dpS (dp (F13429 28) (F13429 29) (bI (v13428 37)) (v13428 38).toInt.toNat) (1 : Int32) (v13428 42) := hw
          rw [show v13428 38 = v 38 from hf13430 38 (by decide)] at hw
          rw [show v13428 37 = v 37 from hf13430 37 (by decide)] at hw
          have hw_r13438 := hw
          have t13443 : 0 ≤ (v13439 38).toInt ∧ (v13439 38).toInt ≤ 120 := hI.1 38 _ _ rfl
          have k13444 : (1 : Int32).toInt = 1 := by decide
          generalize H1 = H at hP hS ⊢
          have hk := hk.tr hw_r13438.2.1
          have hd : (v13428 40).toInt < 0 → dp (F13440 28) (F13440 29) (bI (v 37)) (v13439 38).toInt.toNat = some (d + 1) := fun hf => (by have e9 : (v13439 38).toInt.toNat = (v 38).toInt.toNat + 1 := (by omega); rw [e9, hw_r13438.2.2, hd hf]; exact dpS_1 (by decide))
          have hP9 : va_P (dC, dI) classes (wM g c v13439 F13440 rc) H := hP
          exact W.vret hx hb hr (fun t ht hW => ⟨⟨(v13439, F13440, rc), rfl, ⟨hI, rfl, (frC (by decide) hf13441 (frC (by decide) hf13430 (fun _ _ => rfl))), hF, (by show ((v 39).toInt ≤ (v13439 39).toInt ∧ (v13439 39).toInt ≤ (v 30).toInt ∧ (v 38).toInt ≤ (v13439 38).toInt ∧ (v13439 38).toInt - (v 38).toInt ≤ (v13439 39).toInt - (v 39).toInt ∧ (v 41).toInt ≤ (v13439 41).toInt ∧ ((v13439 40).toInt < 0 → (v13439 41).toInt = (v 41).toInt)) ∧ keepL (v 37) (F 28) (F 29) (F13440 28) (F13440 29) ∧ ((v13439 40).toInt < 0 → dp (F13440 28) (F13440 29) (bI (v 37)) (v13439 38).toInt.toNat = some (d + 1)); rw [show v13439 39 = v13428 39 from hf13441 39 (by decide)]; rw [show v13439 41 = v 41 from (hf13441 41 (by decide)).trans (hf13430 41 (by decide))]; rw [show v13439 40 = v13428 40 from hf13441 40 (by decide)]; exact ⟨by omega, hk, fun hf => (hd (by omega)).trans (congrArg some (by omega))⟩)⟩, (by show va_P _ _ _ t.heap; rw [ht]; exact hP9)⟩, hS.F ht⟩) hS.2.2 dX12_operand_150
      · skip
        have t13445 := cv_eq (a := r13417.toInt) rfl (b := 40) (by decide) c13423
        refine lv_aload_n hx hb dX12_operand_77 rfl (lv_at hl 1 rfl) ?_
        have t13446 : 0 ≤ (v 39).toInt ∧ (v 39).toInt ≤ 120 := hI.1 39 _ _ rfl
        have t13447 : 0 ≤ (v 41).toInt ∧ (v 41).toInt ≤ 8 := hI.1 41 _ _ rfl
        refine va_calli (va_runV (As := []) (rest := []) ⟨hx, hb, hml, hown, hwd⟩ (c_X12_opens l dC dI g c adK adV v F rc H.size  hg hI (by have h9 : v 39 = v 39 := rfl; (try rw [h9]); clear h9; have h9 : v 30 = v 30 := rfl; (try rw [h9]); clear h9; omega)) (cwV 0 hwd (gV wk_1025 wk_1022 wk_1023 wk_1024 wk_5) rfl rfl rfl (by decide +kernel) ⟨Nat.le_of_ble_eq_true rfl, Nat.le_of_ble_eq_true rfl⟩) ⟨PM.blind, va_recv hK hP (ci := 12) (q0 := 0) rfl rfl, fun U hU hW => ⟨rfl, PM.at hK hE hP hS hU hW⟩⟩ rfl rfl hl.1 rfl (lv_room (Nat.le_of_ble_eq_true rfl)) dX12_operand_78 ⟨Nat.le_of_ble_eq_true rfl, Nat.le_of_ble_eq_true rfl⟩) hS (fun q _ h => (freeM hS) q h) (freeM hS) (fun r13448 u t H1 locs ht hvm hw hB hz1 hk1 hS => ?_)
        unfold BM at hB
        rw [ht] at hB
        obtain ⟨v13449, F13450, rc9⟩ := u
        obtain ⟨hI, hrc, hf13451, hG13452, hw⟩ := hw
        dsimp only at hI hrc hB hf13451 hG13452 hw
        have hF := frCF (by decide) hG13452 hF
        rw [hrc] at hB
        have hP : va_P (dC, dI) classes (wM g c v13449 F13450 rc) H1 := hB
        have hw : (r13448.toInt = 1 ∧ (v 41).toInt < 8 ∧ (v13449 41).toInt = (v 41).toInt + 1 ∧ (v13449 39).toInt = (v 39).toInt + 1 ∧ (v13449 40).toInt = (v 40).toInt) ∨ (r13448.toInt = 0 ∧ (v 41).toInt = 8 ∧ 0 ≤ (v13449 40).toInt ∧ (v13449 41).toInt = (v 41).toInt ∧ (v13449 39).toInt = (v 39).toInt) := hw
        have hw_r13448 := hw
        have t13453 : 0 ≤ (v13449 39).toInt ∧ (v13449 39).toInt ≤ 120 := hI.1 39 _ _ rfl
        have t13454 : 0 ≤ (v13449 41).toInt ∧ (v13449 41).toInt ≤ 8 := hI.1 41 _ _ rfl
        generalize H1 = H at hP hS ⊢
        have hk : keepL (v 37) (F 28) (F 29) (F13450 28) (F13450 29) := by rw [hG13452 28 (by decide), hG13452 29 (by decide)]; exact hk
        have hd : (v13449 40).toInt < 0 → dp (F13450 28) (F13450 29) (bI (v 37)) (v 38).toInt.toNat = some d := fun hf => (by rw [hG13452 28 (by decide), hG13452 29 (by decide)]; exact hd (by omega))
        refine lv_if_ne (tgt := 85) hx hb dX12_operand_81 (by decide) (fun c13455 => ?_) (fun c13455 => ?_)
        · skip
          have t13456 := cv_ne (a := r13448.toInt) rfl (b := 0) (by decide) c13455
          refine lv_aload_n hx hb dX12_operand_85 rfl (lv_at hl 1 rfl) ?_
          have t13457 : 0 ≤ (v 30).toInt ∧ (v 30).toInt ≤ 120 := by have h9 := hI.1 30 _ _ rfl; rw [show v13449 30 = v 30 from hf13451 30 (by decide)] at h9; exact h9
          have t13458 : 0 ≤ (v 37).toInt ∧ (v 37).toInt ≤ 9 := by have h9 := hI.1 37 _ _ rfl; rw [show v13449 37 = v 37 from hf13451 37 (by decide)] at h9; exact h9
          have t13459 : 0 ≤ (v 38).toInt ∧ (v 38).toInt ≤ 120 := by have h9 := hI.1 38 _ _ rfl; rw [show v13449 38 = v 38 from hf13451 38 (by decide)] at h9; exact h9
          have t13460 : 0 ≤ (v13449 39).toInt ∧ (v13449 39).toInt ≤ 120 := hI.1 39 _ _ rfl
          have t13461 : 0 ≤ (v13449 41).toInt ∧ (v13449 41).toInt ≤ 8 := hI.1 41 _ _ rfl
          refine va_callv (va_runV (As := []) (rest := []) ⟨hx, hb, hml, hown, hwd⟩ (c_X12_either_7 l dC dI g c adK adV v13449 F13450 rc H.size  d hg hI (by have h9 : v13449 38 = v 38 := hf13451 38 (by decide); (try rw [h9]); clear h9; have h9 : v13449 39 = v13449 39 := rfl; (try rw [h9]); clear h9; have h9 : v13449 30 = v 30 := hf13451 30 (by decide); (try rw [h9]); clear h9; have h9 : v13449 40 = v13449 40 := rfl; (try rw [h9]); clear h9; have h9 : v13449 41 = v13449 41 := rfl; (try rw [h9]); clear h9; omega) (by have h9 : v13449 37 = (v 37) := hf13451 37 (by decide); have h8 : v13449 38 = (v 38) := hf13451 38 (by decide); (try rw [h9]); (try rw [h8]); exact hd (by omega))) (cwV 0 hwd (gV wk_1010 wk_1007 wk_1008 wk_1009 wk_5) rfl rfl rfl (by decide +kernel) ⟨Nat.le_of_ble_eq_true rfl, Nat.le_of_ble_eq_true rfl⟩) ⟨PM.blind, va_recv hK hP (ci := 12) (q0 := 0) rfl rfl, fun U hU hW => ⟨rfl, PM.at hK hE hP hS hU hW⟩⟩ rfl rfl hl.1 rfl (lv_room (Nat.le_of_ble_eq_true rfl)) dX12_operand_86 ⟨Nat.le_of_ble_eq_true rfl, Nat.le_of_ble_eq_true rfl⟩) hS (fun q _ h => (freeM hS) q h) (freeM hS) (fun u t H1 locs ht hvm hw hB hz1 hk1 hS => ?_)
          unfold BM at hB
          rw [ht] at hB
          obtain ⟨v13463, F13464, rc9⟩ := u
          obtain ⟨hI, hrc, hf13465, hG13466, hw⟩ := hw
          dsimp only at hI hrc hB hf13465 hG13466 hw
          have hF := frCF (by decide) hG13466 hF
          rw [hrc] at hB
          have hP : va_P (dC, dI) classes (wM g c v13463 F13464 rc) H1 := hB
          have hw : ((v13449 39).toInt ≤ (v13463 39).toInt ∧ (v13463 39).toInt ≤ (v13449 30).toInt ∧ (v13449 38).toInt ≤ (v13463 38).toInt ∧ (v13463 38).toInt - (v13449 38).toInt ≤ (v13463 39).toInt - (v13449 39).toInt ∧ (v13449 41).toInt ≤ (v13463 41).toInt ∧ ((v13463 40).toInt < 0 → (v13463 41).toInt = (v13449 41).toInt)) ∧ keepL (v13449 37) (F13450 28) (F13450 29) (F13464 28) (F13464 29) ∧ ((v13463 40).toInt < 0 → dp (F13464 28) (F13464 29) (bI (v13449 37)) (v13463 38).toInt.toNat = some (d + 1)) := hw
          rw [show v13449 30 = v 30 from hf13451 30 (by decide)] at hw
          rw [show v13449 38 = v 38 from hf13451 38 (by decide)] at hw
          rw [show v13449 37 = v 37 from hf13451 37 (by decide)] at hw
          have hw_r13462 := hw
          have t13467 : 0 ≤ (v13463 38).toInt ∧ (v13463 38).toInt ≤ 120 := hI.1 38 _ _ rfl
          have t13468 : 0 ≤ (v13463 39).toInt ∧ (v13463 39).toInt ≤ 120 := hI.1 39 _ _ rfl
          have t13469 : 0 ≤ (v13463 41).toInt ∧ (v13463 41).toInt ≤ 8 := hI.1 41 _ _ rfl
          generalize H1 = H at hP hS ⊢
          have hk := hk.tr hw_r13462.2.1
          have hd := hw_r13462.2.2
          refine lv_aload_n hx hb dX12_operand_89 rfl (lv_at hl 1 rfl) ?_
          refine va_get (D := (dC, dI)) (ci := 12) (v := .int (v13463 40)) (C := RX12) (T := TX12) (N := 63) hx hb hwd inA_X12 hown hK hP 0 rfl rfl 40 (by decide) (hwd _ wk_1005) (fun _ h9 => h9) rfl dX12_operand_90 ?_
          refine lv_if_lt (tgt := 97) hx hb dX12_operand_93 (by decide) (fun c13470 => ?_) (fun c13470 => ?_)
          · skip
            have t13471 := cv_lt (a := (v13463 40).toInt) rfl (b := 0) (by decide) c13470
            refine lv_aload_n hx hb dX12_operand_97 rfl (lv_at hl 1 rfl) ?_
            have t13472 : 0 ≤ (v 30).toInt ∧ (v 30).toInt ≤ 120 := by have h9 := hI.1 30 _ _ rfl; rw [show v13463 30 = v 30 from (hf13465 30 (by decide)).trans (hf13451 30 (by decide))] at h9; exact h9
            have t13473 : 0 ≤ (v13463 39).toInt ∧ (v13463 39).toInt ≤ 120 := hI.1 39 _ _ rfl
            refine va_calli (va_runV (As := []) (rest := []) ⟨hx, hb, hml, hown, hwd⟩ (c_X12_look l dC dI g c adK adV v13463 F13464 rc H.size  hg hI ) (cwV 0 hwd (gV wk_1017 wk_1014 wk_1015 wk_1016 wk_5) rfl rfl rfl (by decide +kernel) ⟨Nat.le_of_ble_eq_true rfl, Nat.le_of_ble_eq_true rfl⟩) ⟨PM.blind, va_recv hK hP (ci := 12) (q0 := 0) rfl rfl, fun U hU hW => ⟨rfl, PM.at hK hE hP hS hU hW⟩⟩ rfl rfl hl.1 rfl (lv_room (Nat.le_of_ble_eq_true rfl)) dX12_operand_98 ⟨Nat.le_of_ble_eq_true rfl, Nat.le_of_ble_eq_true rfl⟩) hS (fun q _ h => (freeM hS) q h) (freeM hS) (fun r13474 u t H1 locs ht hvm hw hB hz1 hk1 hS => ?_)
            unfold BM at hB
            rw [ht] at hB
            have hP : va_P (dC, dI) classes (wM g c v13463 F13464 rc) H1 := hB
            have hw : r13474.toInt = lkM (v13463 39) (v13463 30) (F13464 24) ∧ ((v13463 39).toInt < (v13463 30).toInt ∨ r13474.toInt = -1) := hw
            rw [show v13463 30 = v 30 from (hf13465 30 (by decide)).trans (hf13451 30 (by decide))] at hw
            rw [hF 24 (by decide)] at hw
            have hw_r13474 := hw
            generalize H1 = H at hP hS ⊢
            refine lv_bipush (v := 41) hx hb dX12_operand_101 (by decide) ?_
            refine lv_icmp_eq (tgt := 111) hx hb dX12_operand_103 (by decide) (fun c13475 => ?_) (fun c13475 => ?_)
            · skip
              have t13476 := cv_eq (a := r13474.toInt) rfl (b := 41) (by decide) c13475
              refine lv_aload_n hx hb dX12_operand_111 rfl (lv_at hl 1 rfl) ?_
              refine lv_dup hx hb dX12_operand_112 rfl ?_
              refine va_get (D := (dC, dI)) (ci := 12) (v := .int (v13463 39)) (C := RX12) (T := TX12) (N := 63) hx hb hwd inA_X12 hown hK hP 0 rfl rfl 39 (by decide) (hwd _ wk_1004) (fun _ h9 => h9) rfl dX12_operand_113 ?_
              have t13477 : 0 ≤ (v13463 39).toInt ∧ (v13463 39).toInt ≤ 120 := hI.1 39 _ _ rfl
              refine lv_iconst (v := 1) hx hb dX12_operand_116 (by decide) ?_
              refine lv_iadd hx hb dX12_operand_117 ?_
              refine lv_topi (fun z13478 e13479 => ?_)
              try (have t13480 := tadd e13479 (a := (v13463 39).toInt) rfl (b := 1) (by decide) (by omega))
              refine va_put (D := (dC, dI)) (ci := 12) (v := .int z13478) (ty := .int) (C := RX12) (T := TX12) (N := 63) (fs := fsM_0 g v13463 rc) hx hb hwd inA_X12 tyX12 tyX12_ok nmX12 hown hK hP (DM hg) hS 0 rfl rfl 39 (by decide) (hwd _ wk_1004) (fun _ h9 => h9) rfl (by decide +kernel) rfl rfl (Nat.le_of_ble_eq_true rfl) dX12_operand_118 (fun H locs hP _ hS => ?_)
              have hP := va_P_eq (pM_39 g c _ _ _ _) hP
              have hI := IM.put hI 39 z13478 rfl (by omega)
              refine lv_aload_n hx hb dX12_operand_121 rfl (lv_at hl 1 rfl) ?_
              refine lv_dup hx hb dX12_operand_122 rfl ?_
              refine va_get (D := (dC, dI)) (ci := 12) (v := .int (v13463 41)) (C := RX12) (T := TX12) (N := 63) hx hb hwd inA_X12 hown hK hP 0 rfl rfl 41 (by decide) (hwd _ wk_1006) (fun _ h9 => h9) rfl dX12_operand_123 ?_
              have t13481 : 0 ≤ (v13463 41).toInt ∧ (v13463 41).toInt ≤ 8 := hI.1 41 _ _ rfl
              refine lv_iconst (v := 1) hx hb dX12_operand_126 (by decide) ?_
              refine lv_isub hx hb dX12_operand_127 ?_
              refine lv_topi (fun z13482 e13483 => ?_)
              try (have t13484 := tsub e13483 (a := (v13463 41).toInt) rfl (b := 1) (by decide) (by omega))
              refine va_put (D := (dC, dI)) (ci := 12) (v := .int z13482) (ty := .int) (C := RX12) (T := TX12) (N := 63) (fs := fsM_0 g (va_up v13463 39 z13478) rc) hx hb hwd inA_X12 tyX12 tyX12_ok nmX12 hown hK hP (DM hg) hS 0 rfl rfl 41 (by decide) (hwd _ wk_1006) (fun _ h9 => h9) rfl (by decide +kernel) rfl rfl (Nat.le_of_ble_eq_true rfl) dX12_operand_128 (fun H locs hP _ hS => ?_)
              have hP := va_P_eq (pM_41 g c _ _ _ _) hP
              have hI := IM.put hI 41 z13482 rfl (by omega)
              refine lv_goto (tgt := 150) hx hb dX12_operand_131 (by decide) ?_
              have hP9 : va_P (dC, dI) classes (wM g c (va_up (va_up v13463 39 z13478) 41 z13482) F13464 rc) H := hP
              exact W.vret hx hb hr (fun t ht hW => ⟨⟨((va_up (va_up v13463 39 z13478) 41 z13482), F13464, rc), rfl, ⟨hI, rfl, (frU (by decide) (frU (by decide) (frC (by decide) hf13465 (frC (by decide) hf13451 (fun _ _ => rfl))))), hF, (by show ((v 39).toInt ≤ z13478.toInt ∧ z13478.toInt ≤ (v 30).toInt ∧ (v 38).toInt ≤ (v13463 38).toInt ∧ (v13463 38).toInt - (v 38).toInt ≤ z13478.toInt - (v 39).toInt ∧ (v 41).toInt ≤ z13482.toInt ∧ ((v13463 40).toInt < 0 → z13482.toInt = (v 41).toInt)) ∧ keepL (v 37) (F 28) (F 29) (F13464 28) (F13464 29) ∧ ((v13463 40).toInt < 0 → dp (F13464 28) (F13464 29) (bI (v 37)) (v13463 38).toInt.toNat = some (d + 1)); exact ⟨by omega, hk, fun hf => (hd (by omega)).trans (congrArg some (by omega))⟩)⟩, (by show va_P _ _ _ t.heap; rw [ht]; exact hP9)⟩, hS.F ht⟩) hS.2.2 dX12_operand_150
            · skip
              have t13485 := cv_ne (a := r13474.toInt) rfl (b := 41) (by decide) c13475
              refine lv_aload_n hx hb dX12_operand_106 rfl (lv_at hl 1 rfl) ?_
              refine va_callv (va_runV (As := []) (rest := []) ⟨hx, hb, hml, hown, hwd⟩ (c_X12_wrong l dC dI g c adK adV v13463 F13464 rc H.size  hg hI ) (cwV 0 hwd (gV wk_1029 wk_1026 wk_1027 wk_1028 wk_5) rfl rfl rfl (by decide +kernel) ⟨Nat.le_of_ble_eq_true rfl, Nat.le_of_ble_eq_true rfl⟩) ⟨PM.blind, va_recv hK hP (ci := 12) (q0 := 0) rfl rfl, fun U hU hW => ⟨rfl, PM.at hK hE hP hS hU hW⟩⟩ rfl rfl hl.1 rfl (lv_room (Nat.le_of_ble_eq_true rfl)) dX12_operand_107 ⟨Nat.le_of_ble_eq_true rfl, Nat.le_of_ble_eq_true rfl⟩) hS (fun q _ h => (freeM hS) q h) (freeM hS) (fun u t H1 locs ht hvm hw hB hz1 hk1 hS => ?_)
              unfold BM at hB
              rw [ht] at hB
              obtain ⟨v13487, F13488, rc9⟩ := u
              obtain ⟨hI, hrc, hf13489, hG13490, hw⟩ := hw
              dsimp only at hI hrc hB hf13489 hG13490 hw
              have hF := frCF (by decide) hG13490 hF
              rw [hrc] at hB
              have hP : va_P (dC, dI) classes (wM g c v13487 F13488 rc) H1 := hB
              have hw : 0 ≤ (v13487 40).toInt := hw
              have hw_r13486 := hw
              generalize H1 = H at hP hS ⊢
              have hk : keepL (v 37) (F 28) (F 29) (F13488 28) (F13488 29) := by rw [hG13490 28 (by decide), hG13490 29 (by decide)]; exact hk
              have hd : (v13487 40).toInt < 0 → dp (F13488 28) (F13488 29) (bI (v 37)) (v13463 38).toInt.toNat = some (d + 1) := fun hf => (by rw [hG13490 28 (by decide), hG13490 29 (by decide)]; exact hd (by omega))
              have hP9 : va_P (dC, dI) classes (wM g c v13487 F13488 rc) H := hP
              exact W.vret hx hb hr (fun t ht hW => ⟨⟨(v13487, F13488, rc), rfl, ⟨hI, rfl, (frC (by decide) hf13489 (frC (by decide) hf13465 (frC (by decide) hf13451 (fun _ _ => rfl)))), hF, (by show ((v 39).toInt ≤ (v13487 39).toInt ∧ (v13487 39).toInt ≤ (v 30).toInt ∧ (v 38).toInt ≤ (v13487 38).toInt ∧ (v13487 38).toInt - (v 38).toInt ≤ (v13487 39).toInt - (v 39).toInt ∧ (v 41).toInt ≤ (v13487 41).toInt ∧ ((v13487 40).toInt < 0 → (v13487 41).toInt = (v 41).toInt)) ∧ keepL (v 37) (F 28) (F 29) (F13488 28) (F13488 29) ∧ ((v13487 40).toInt < 0 → dp (F13488 28) (F13488 29) (bI (v 37)) (v13487 38).toInt.toNat = some (d + 1)); rw [show v13487 39 = v13463 39 from hf13489 39 (by decide)]; rw [show v13487 38 = v13463 38 from hf13489 38 (by decide)]; rw [show v13487 41 = v13463 41 from hf13489 41 (by decide)]; exact ⟨by omega, hk, fun hf => (hd (by omega)).trans (congrArg some (by omega))⟩)⟩, (by show va_P _ _ _ t.heap; rw [ht]; exact hP9)⟩, hS.F ht⟩) hS.2.2 dX12_operand_110
          · skip
            have t13491 := cv_nlt (a := (v13463 40).toInt) rfl (b := 0) (by decide) c13470
            have hP9 : va_P (dC, dI) classes (wM g c v13463 F13464 rc) H := hP
            exact W.vret hx hb hr (fun t ht hW => ⟨⟨(v13463, F13464, rc), rfl, ⟨hI, rfl, (frC (by decide) hf13465 (frC (by decide) hf13451 (fun _ _ => rfl))), hF, (by show ((v 39).toInt ≤ (v13463 39).toInt ∧ (v13463 39).toInt ≤ (v 30).toInt ∧ (v 38).toInt ≤ (v13463 38).toInt ∧ (v13463 38).toInt - (v 38).toInt ≤ (v13463 39).toInt - (v 39).toInt ∧ (v 41).toInt ≤ (v13463 41).toInt ∧ ((v13463 40).toInt < 0 → (v13463 41).toInt = (v 41).toInt)) ∧ keepL (v 37) (F 28) (F 29) (F13464 28) (F13464 29) ∧ ((v13463 40).toInt < 0 → dp (F13464 28) (F13464 29) (bI (v 37)) (v13463 38).toInt.toNat = some (d + 1)); exact ⟨by omega, hk, fun hf => (hd (by omega)).trans (congrArg some (by omega))⟩)⟩, (by show va_P _ _ _ t.heap; rw [ht]; exact hP9)⟩, hS.F ht⟩) hS.2.2 dX12_operand_96
        · skip
          have t13492 := cv_eq (a := r13448.toInt) rfl (b := 0) (by decide) c13455
          have hP9 : va_P (dC, dI) classes (wM g c v13449 F13450 rc) H := hP
          exact W.vret hx hb hr (fun t ht hW => ⟨⟨(v13449, F13450, rc), rfl, ⟨hI, rfl, (frC (by decide) hf13451 (fun _ _ => rfl)), hF, (by show ((v 39).toInt ≤ (v13449 39).toInt ∧ (v13449 39).toInt ≤ (v 30).toInt ∧ (v 38).toInt ≤ (v13449 38).toInt ∧ (v13449 38).toInt - (v 38).toInt ≤ (v13449 39).toInt - (v 39).toInt ∧ (v 41).toInt ≤ (v13449 41).toInt ∧ ((v13449 40).toInt < 0 → (v13449 41).toInt = (v 41).toInt)) ∧ keepL (v 37) (F 28) (F 29) (F13450 28) (F13450 29) ∧ ((v13449 40).toInt < 0 → dp (F13450 28) (F13450 29) (bI (v 37)) (v13449 38).toInt.toNat = some (d + 1)); rw [show v13449 38 = v 38 from hf13451 38 (by decide)]; exact ⟨by omega, hk, fun hf => (hd (by omega)).trans (congrArg some (by omega))⟩)⟩, (by show va_P _ _ _ t.heap; rw [ht]; exact hP9)⟩, hS.F ht⟩) hS.2.2 dX12_operand_84
    · skip
      have t13493 := cv_eq (a := r13417.toInt) rfl (b := 45) (by decide) c13421
      refine lv_aload_n hx hb dX12_operand_40 rfl (lv_at hl 1 rfl) ?_
      have t13494 : 0 ≤ (v 39).toInt ∧ (v 39).toInt ≤ 120 := hI.1 39 _ _ rfl
      have t13495 : 0 ≤ (v 41).toInt ∧ (v 41).toInt ≤ 8 := hI.1 41 _ _ rfl
      refine va_calli (va_runV (As := []) (rest := []) ⟨hx, hb, hml, hown, hwd⟩ (c_X12_opens l dC dI g c adK adV v F rc H.size  hg hI (by have h9 : v 39 = v 39 := rfl; (try rw [h9]); clear h9; have h9 : v 30 = v 30 := rfl; (try rw [h9]); clear h9; omega)) (cwV 0 hwd (gV wk_1025 wk_1022 wk_1023 wk_1024 wk_5) rfl rfl rfl (by decide +kernel) ⟨Nat.le_of_ble_eq_true rfl, Nat.le_of_ble_eq_true rfl⟩) ⟨PM.blind, va_recv hK hP (ci := 12) (q0 := 0) rfl rfl, fun U hU hW => ⟨rfl, PM.at hK hE hP hS hU hW⟩⟩ rfl rfl hl.1 rfl (lv_room (Nat.le_of_ble_eq_true rfl)) dX12_operand_41 ⟨Nat.le_of_ble_eq_true rfl, Nat.le_of_ble_eq_true rfl⟩) hS (fun q _ h => (freeM hS) q h) (freeM hS) (fun r13496 u t H1 locs ht hvm hw hB hz1 hk1 hS => ?_)
      unfold BM at hB
      rw [ht] at hB
      obtain ⟨v13497, F13498, rc9⟩ := u
      obtain ⟨hI, hrc, hf13499, hG13500, hw⟩ := hw
      dsimp only at hI hrc hB hf13499 hG13500 hw
      have hF := frCF (by decide) hG13500 hF
      rw [hrc] at hB
      have hP : va_P (dC, dI) classes (wM g c v13497 F13498 rc) H1 := hB
      have hw : (r13496.toInt = 1 ∧ (v 41).toInt < 8 ∧ (v13497 41).toInt = (v 41).toInt + 1 ∧ (v13497 39).toInt = (v 39).toInt + 1 ∧ (v13497 40).toInt = (v 40).toInt) ∨ (r13496.toInt = 0 ∧ (v 41).toInt = 8 ∧ 0 ≤ (v13497 40).toInt ∧ (v13497 41).toInt = (v 41).toInt ∧ (v13497 39).toInt = (v 39).toInt) := hw
      have hw_r13496 := hw
      have t13501 : 0 ≤ (v13497 39).toInt ∧ (v13497 39).toInt ≤ 120 := hI.1 39 _ _ rfl
      have t13502 : 0 ≤ (v13497 41).toInt ∧ (v13497 41).toInt ≤ 8 := hI.1 41 _ _ rfl
      generalize H1 = H at hP hS ⊢
      have hk : keepL (v 37) (F 28) (F 29) (F13498 28) (F13498 29) := by rw [hG13500 28 (by decide), hG13500 29 (by decide)]; exact hk
      have hd : (v13497 40).toInt < 0 → dp (F13498 28) (F13498 29) (bI (v 37)) (v 38).toInt.toNat = some d := fun hf => (by rw [hG13500 28 (by decide), hG13500 29 (by decide)]; exact hd (by omega))
      refine lv_if_ne (tgt := 48) hx hb dX12_operand_44 (by decide) (fun c13503 => ?_) (fun c13503 => ?_)
      · skip
        have t13504 := cv_ne (a := r13496.toInt) rfl (b := 0) (by decide) c13503
        refine lv_aload_n hx hb dX12_operand_48 rfl (lv_at hl 1 rfl) ?_
        have t13505 : 0 ≤ (v 30).toInt ∧ (v 30).toInt ≤ 120 := by have h9 := hI.1 30 _ _ rfl; rw [show v13497 30 = v 30 from hf13499 30 (by decide)] at h9; exact h9
        have t13506 : 0 ≤ (v 37).toInt ∧ (v 37).toInt ≤ 9 := by have h9 := hI.1 37 _ _ rfl; rw [show v13497 37 = v 37 from hf13499 37 (by decide)] at h9; exact h9
        have t13507 : 0 ≤ (v 38).toInt ∧ (v 38).toInt ≤ 120 := by have h9 := hI.1 38 _ _ rfl; rw [show v13497 38 = v 38 from hf13499 38 (by decide)] at h9; exact h9
        have t13508 : 0 ≤ (v13497 39).toInt ∧ (v13497 39).toInt ≤ 120 := hI.1 39 _ _ rfl
        have t13509 : 0 ≤ (v13497 41).toInt ∧ (v13497 41).toInt ≤ 8 := hI.1 41 _ _ rfl
        refine va_callv (va_runV (As := []) (rest := []) ⟨hx, hb, hml, hown, hwd⟩ (c_X12_operand_7 l dC dI g c adK adV v13497 F13498 rc H.size  d hg hI (by have h9 : v13497 38 = v 38 := hf13499 38 (by decide); (try rw [h9]); clear h9; have h9 : v13497 39 = v13497 39 := rfl; (try rw [h9]); clear h9; have h9 : v13497 30 = v 30 := hf13499 30 (by decide); (try rw [h9]); clear h9; have h9 : v13497 40 = v13497 40 := rfl; (try rw [h9]); clear h9; have h9 : v13497 41 = v13497 41 := rfl; (try rw [h9]); clear h9; omega) (by have h9 : v13497 37 = (v 37) := hf13499 37 (by decide); have h8 : v13497 38 = (v 38) := hf13499 38 (by decide); (try rw [h9]); (try rw [h8]); exact hd (by omega))) (cwV 0 hwd (gV wk_1030 wk_1035 wk_1036 wk_1037 wk_5) rfl rfl rfl (by decide +kernel) ⟨Nat.le_of_ble_eq_true rfl, Nat.le_of_ble_eq_true rfl⟩) ⟨PM.blind, va_recv hK hP (ci := 12) (q0 := 0) rfl rfl, fun U hU hW => ⟨rfl, PM.at hK hE hP hS hU hW⟩⟩ rfl rfl hl.1 rfl (lv_room (Nat.le_of_ble_eq_true rfl)) dX12_operand_49 ⟨Nat.le_of_ble_eq_true rfl, Nat.le_of_ble_eq_true rfl⟩) hS (fun q _ h => (freeM hS) q h) (freeM hS) (fun u t H1 locs ht hvm hw hB hz1 hk1 hS => ?_)
        unfold BM at hB
        rw [ht] at hB
        obtain ⟨v13511, F13512, rc9⟩ := u
        obtain ⟨hI, hrc, hf13513, hG13514, hw⟩ := hw
        dsimp only at hI hrc hB hf13513 hG13514 hw
        have hF := frCF (by decide) hG13514 hF
        rw [hrc] at hB
        have hP : va_P (dC, dI) classes (wM g c v13511 F13512 rc) H1 := hB
        have hw : ((v13497 39).toInt ≤ (v13511 39).toInt ∧ (v13511 39).toInt ≤ (v13497 30).toInt ∧ (v13497 38).toInt ≤ (v13511 38).toInt ∧ (v13511 38).toInt - (v13497 38).toInt ≤ (v13511 39).toInt - (v13497 39).toInt ∧ (v13497 41).toInt ≤ (v13511 41).toInt ∧ ((v13511 40).toInt < 0 → (v13511 41).toInt = (v13497 41).toInt)) ∧ keepL (v13497 37) (F13498 28) (F13498 29) (F13512 28) (F13512 29) ∧ ((v13511 40).toInt < 0 → dp (F13512 28) (F13512 29) (bI (v13497 37)) (v13511 38).toInt.toNat = some (d + 1)) := hw
        rw [show v13497 30 = v 30 from hf13499 30 (by decide)] at hw
        rw [show v13497 38 = v 38 from hf13499 38 (by decide)] at hw
        rw [show v13497 37 = v 37 from hf13499 37 (by decide)] at hw
        have hw_r13510 := hw
        have t13515 : 0 ≤ (v13511 38).toInt ∧ (v13511 38).toInt ≤ 120 := hI.1 38 _ _ rfl
        have t13516 : 0 ≤ (v13511 39).toInt ∧ (v13511 39).toInt ≤ 120 := hI.1 39 _ _ rfl
        have t13517 : 0 ≤ (v13511 41).toInt ∧ (v13511 41).toInt ≤ 8 := hI.1 41 _ _ rfl
        generalize H1 = H at hP hS ⊢
        have hk := hk.tr hw_r13510.2.1
        have hd := hw_r13510.2.2
        refine lv_aload_n hx hb dX12_operand_52 rfl (lv_at hl 1 rfl) ?_
        refine lv_iconst (v := 3) hx hb dX12_operand_53 (by decide) ?_
        refine lv_iconst (v := 0) hx hb dX12_operand_54 (by decide) ?_
        have t13518 : 0 ≤ (v 37).toInt ∧ (v 37).toInt ≤ 9 := by have h9 := hI.1 37 _ _ rfl; rw [show v13511 37 = v 37 from (hf13513 37 (by decide)).trans (hf13499 37 (by decide))] at h9; exact h9
        have t13519 : 0 ≤ (v13511 38).toInt ∧ (v13511 38).toInt ≤ 120 := hI.1 38 _ _ rfl
        refine va_callv (va_runV (As := [.int 3, .int 0]) (rest := []) ⟨hx, hb, hml, hown, hwd⟩ (c_X12_lay l dC dI g c adK adV v13511 F13512 rc H.size 3 0 hg hI (by have h9 : v13511 38 = v13511 38 := rfl; rw [h9]; omega)) (cwV 2 hwd (gV wk_1021 wk_1018 wk_1019 wk_1020 wk_5) rfl rfl rfl (by decide +kernel) ⟨Nat.le_of_ble_eq_true rfl, Nat.le_of_ble_eq_true rfl⟩) ⟨PM.blind, va_recv hK hP (ci := 12) (q0 := 0) rfl rfl, fun U hU hW => ⟨rfl, PM.at hK hE hP hS hU hW⟩⟩ rfl rfl hl.1 rfl (lv_room (Nat.le_of_ble_eq_true rfl)) dX12_operand_55 ⟨Nat.le_of_ble_eq_true rfl, Nat.le_of_ble_eq_true rfl⟩) hS (fun q _ h => (freeM hS) q h) (freeM hS) (fun u t H1 locs ht hvm hw hB hz1 hk1 hS => ?_)
        unfold BM at hB
        rw [ht] at hB
        obtain ⟨v13521, F13522, rc9⟩ := u
        obtain ⟨hI, hrc, hf13523, hG13524, hw⟩ := hw
        dsimp only at hI hrc hB hf13523 hG13524 hw
        have hF := frCF (by decide) hG13524 hF
        rw [hrc] at hB
        have hP : va_P (dC, dI) classes (wM g c v13521 F13522 rc) H1 := hB
        have hw : (v13521 38).toInt = (v13511 38).toInt + 1 ∧ keepL (v13511 37) (F13512 28) (F13512 29) (F13522 28) (F13522 29) ∧ dp (F13522 28) (F13522 29) (bI (v13511 37)) ((v13511 38).toInt.toNat + 1) = dpS (dp (F13512 28) (F13512 29) (bI (v13511 37)) (v13511 38).toInt.toNat) (3 : Int32) (0 : Int32) := hw
        rw [show v13511 37 = v 37 from (hf13513 37 (by decide)).trans (hf13499 37 (by decide))] at hw
        have hw_r13520 := hw
        have t13525 : 0 ≤ (v13521 38).toInt ∧ (v13521 38).toInt ≤ 120 := hI.1 38 _ _ rfl
        have k13526 : (3 : Int32).toInt = 3 := by decide
        have k13527 : (0 : Int32).toInt = 0 := by decide
        generalize H1 = H at hP hS ⊢
        have hk := hk.tr hw_r13520.2.1
        have hd : (v13511 40).toInt < 0 → dp (F13522 28) (F13522 29) (bI (v 37)) (v13521 38).toInt.toNat = some (d + 1) := fun hf => (by have e9 : (v13521 38).toInt.toNat = (v13511 38).toInt.toNat + 1 := (by omega); rw [e9, hw_r13520.2.2, hd hf]; exact dpS_3 (by decide) (by omega))
        refine lv_aload_n hx hb dX12_operand_58 rfl (lv_at hl 1 rfl) ?_
        refine lv_dup hx hb dX12_operand_59 rfl ?_
        refine va_get (D := (dC, dI)) (ci := 12) (v := .int (v13521 41)) (C := RX12) (T := TX12) (N := 63) hx hb hwd inA_X12 hown hK hP 0 rfl rfl 41 (by decide) (hwd _ wk_1006) (fun _ h9 => h9) rfl dX12_operand_60 ?_
        refine my_top (v := v13511 41) (hf13523 41 (by decide)) ?_
        have t13528 : 0 ≤ (v13511 41).toInt ∧ (v13511 41).toInt ≤ 8 := by have h9 := hI.1 41 _ _ rfl; rw [show v13521 41 = v13511 41 from hf13523 41 (by decide)] at h9; exact h9
        refine lv_iconst (v := 1) hx hb dX12_operand_63 (by decide) ?_
        refine lv_isub hx hb dX12_operand_64 ?_
        refine lv_topi (fun z13529 e13530 => ?_)
        try (have t13531 := tsub e13530 (a := (v13511 41).toInt) rfl (b := 1) (by decide) (by omega))
        refine va_put (D := (dC, dI)) (ci := 12) (v := .int z13529) (ty := .int) (C := RX12) (T := TX12) (N := 63) (fs := fsM_0 g v13521 rc) hx hb hwd inA_X12 tyX12 tyX12_ok nmX12 hown hK hP (DM hg) hS 0 rfl rfl 41 (by decide) (hwd _ wk_1006) (fun _ h9 => h9) rfl (by decide +kernel) rfl rfl (Nat.le_of_ble_eq_true rfl) dX12_operand_65 (fun H locs hP _ hS => ?_)
        have hP := va_P_eq (pM_41 g c _ _ _ _) hP
        have hI := IM.put hI 41 z13529 rfl (by omega)
        refine lv_goto (tgt := 150) hx hb dX12_operand_68 (by decide) ?_
        have hP9 : va_P (dC, dI) classes (wM g c (va_up v13521 41 z13529) F13522 rc) H := hP
        exact W.vret hx hb hr (fun t ht hW => ⟨⟨((va_up v13521 41 z13529), F13522, rc), rfl, ⟨hI, rfl, (frU (by decide) (frC (by decide) hf13523 (frC (by decide) hf13513 (frC (by decide) hf13499 (fun _ _ => rfl))))), hF, (by show ((v 39).toInt ≤ ((va_up v13521 41 z13529) 39).toInt ∧ ((va_up v13521 41 z13529) 39).toInt ≤ (v 30).toInt ∧ (v 38).toInt ≤ (v13521 38).toInt ∧ (v13521 38).toInt - (v 38).toInt ≤ ((va_up v13521 41 z13529) 39).toInt - (v 39).toInt ∧ (v 41).toInt ≤ z13529.toInt ∧ (((va_up v13521 41 z13529) 40).toInt < 0 → z13529.toInt = (v 41).toInt)) ∧ keepL (v 37) (F 28) (F 29) (F13522 28) (F13522 29) ∧ (((va_up v13521 41 z13529) 40).toInt < 0 → dp (F13522 28) (F13522 29) (bI (v 37)) (v13521 38).toInt.toNat = some (d + 1)); rw [show (va_up v13521 41 z13529) 39 = v13511 39 from hf13523 39 (by decide)]; rw [show (va_up v13521 41 z13529) 40 = v13511 40 from hf13523 40 (by decide)]; exact ⟨by omega, hk, fun hf => (hd (by omega)).trans (congrArg some (by omega))⟩)⟩, (by show va_P _ _ _ t.heap; rw [ht]; exact hP9)⟩, hS.F ht⟩) hS.2.2 dX12_operand_150
      · skip
        have t13532 := cv_eq (a := r13496.toInt) rfl (b := 0) (by decide) c13503
        have hP9 : va_P (dC, dI) classes (wM g c v13497 F13498 rc) H := hP
        exact W.vret hx hb hr (fun t ht hW => ⟨⟨(v13497, F13498, rc), rfl, ⟨hI, rfl, (frC (by decide) hf13499 (fun _ _ => rfl)), hF, (by show ((v 39).toInt ≤ (v13497 39).toInt ∧ (v13497 39).toInt ≤ (v 30).toInt ∧ (v 38).toInt ≤ (v13497 38).toInt ∧ (v13497 38).toInt - (v 38).toInt ≤ (v13497 39).toInt - (v 39).toInt ∧ (v 41).toInt ≤ (v13497 41).toInt ∧ ((v13497 40).toInt < 0 → (v13497 41).toInt = (v 41).toInt)) ∧ keepL (v 37) (F 28) (F 29) (F13498 28) (F13498 29) ∧ ((v13497 40).toInt < 0 → dp (F13498 28) (F13498 29) (bI (v 37)) (v13497 38).toInt.toNat = some (d + 1)); rw [show v13497 38 = v 38 from hf13499 38 (by decide)]; exact ⟨by omega, hk, fun hf => (hd (by omega)).trans (congrArg some (by omega))⟩)⟩, (by show va_P _ _ _ t.heap; rw [ht]; exact hP9)⟩, hS.F ht⟩) hS.2.2 dX12_operand_47
  · skip
    have t13533 := cv_nlt (a := r13418.toInt) rfl (b := 0) (by decide) c13419
    refine lv_aload_n hx hb dX12_operand_12 rfl (lv_at hl 1 rfl) ?_
    refine lv_iconst (v := 2) hx hb dX12_operand_13 (by decide) ?_
    refine lv_iload_n hx hb dX12_operand_14 rfl (lv_at hl 0 rfl) ?_
    refine va_calli (va_runS (As := [.int r13417]) (rest := [.int 2, .ref (g 0)]) ⟨hx, hb, hml, hown, hwd⟩ (c_X12_nameOf l dC dI g c adK adV v F rc H.size r13417 hg hI ) (va_cwS 1 hwd (gT wk_1034 wk_1032 wk_1033 wk_5) rfl rfl rfl (by decide +kernel) ⟨Nat.le_of_ble_eq_true rfl, Nat.le_of_ble_eq_true rfl⟩) ⟨PM.blind, fun U hU hW => ⟨rfl, PM.at hK hE hP hS hU hW⟩⟩ rfl rfl hl.1 rfl (lv_room (Nat.le_of_ble_eq_true rfl)) dX12_operand_15 ⟨Nat.le_of_ble_eq_true rfl, Nat.le_of_ble_eq_true rfl⟩) hS (fun q _ h => (freeM hS) q h) (freeM hS) (fun r13534 u t H1 locs ht hvm hw hB hz1 hk1 hS => ?_)
    unfold BM at hB
    rw [ht] at hB
    have hP : va_P (dC, dI) classes (wM g c v F rc) H1 := hB
    have hw : r13534.toInt = nmM r13417 ∧ (-1 ≤ r13534.toInt ∧ r13534.toInt ≤ 5) := hw
    have hw_r13534 := hw
    generalize H1 = H at hP hS ⊢
    have np_r13534 := nmM_pos r13417
    have t13535 : 0 ≤ (v 37).toInt ∧ (v 37).toInt ≤ 9 := hI.1 37 _ _ rfl
    have t13536 : 0 ≤ (v 38).toInt ∧ (v 38).toInt ≤ 120 := hI.1 38 _ _ rfl
    refine va_callv (va_runV (As := [.int 2, .int r13534]) (rest := []) ⟨hx, hb, hml, hown, hwd⟩ (c_X12_lay l dC dI g c adK adV v F rc H.size 2 r13534 hg hI (by have h9 : v 38 = v 38 := rfl; rw [h9]; omega)) (cwV 2 hwd (gV wk_1021 wk_1018 wk_1019 wk_1020 wk_5) rfl rfl rfl (by decide +kernel) ⟨Nat.le_of_ble_eq_true rfl, Nat.le_of_ble_eq_true rfl⟩) ⟨PM.blind, va_recv hK hP (ci := 12) (q0 := 0) rfl rfl, fun U hU hW => ⟨rfl, PM.at hK hE hP hS hU hW⟩⟩ rfl rfl hl.1 rfl (lv_room (Nat.le_of_ble_eq_true rfl)) dX12_operand_18 ⟨Nat.le_of_ble_eq_true rfl, Nat.le_of_ble_eq_true rfl⟩) hS (fun q _ h => (freeM hS) q h) (freeM hS) (fun u t H1 locs ht hvm hw hB hz1 hk1 hS => ?_)
    unfold BM at hB
    rw [ht] at hB
    obtain ⟨v13538, F13539, rc9⟩ := u
    obtain ⟨hI, hrc, hf13540, hG13541, hw⟩ := hw
    dsimp only at hI hrc hB hf13540 hG13541 hw
    have hF := frCF (by decide) hG13541 hF
    rw [hrc] at hB
    have hP : va_P (dC, dI) classes (wM g c v13538 F13539 rc) H1 := hB
    have hw : (v13538 38).toInt = (v 38).toInt + 1 ∧ keepL (v 37) (F 28) (F 29) (F13539 28) (F13539 29) ∧ dp (F13539 28) (F13539 29) (bI (v 37)) ((v 38).toInt.toNat + 1) = dpS (dp (F 28) (F 29) (bI (v 37)) (v 38).toInt.toNat) (2 : Int32) r13534 := hw
    have hw_r13537 := hw
    have t13542 : 0 ≤ (v13538 38).toInt ∧ (v13538 38).toInt ≤ 120 := hI.1 38 _ _ rfl
    have k13543 : (2 : Int32).toInt = 2 := by decide
    generalize H1 = H at hP hS ⊢
    have hk := hk.tr hw_r13537.2.1
    have hd : (v 40).toInt < 0 → dp (F13539 28) (F13539 29) (bI (v 37)) (v13538 38).toInt.toNat = some (d + 1) := fun hf => (by have e9 : (v13538 38).toInt.toNat = (v 38).toInt.toNat + 1 := (by omega); rw [e9, hw_r13537.2.2, hd hf]; exact dpS_2 (by decide) (by omega))
    refine lv_aload_n hx hb dX12_operand_21 rfl (lv_at hl 1 rfl) ?_
    refine lv_dup hx hb dX12_operand_22 rfl ?_
    refine va_get (D := (dC, dI)) (ci := 12) (v := .int (v13538 39)) (C := RX12) (T := TX12) (N := 63) hx hb hwd inA_X12 hown hK hP 0 rfl rfl 39 (by decide) (hwd _ wk_1004) (fun _ h9 => h9) rfl dX12_operand_23 ?_
    refine my_top (v := v 39) (hf13540 39 (by decide)) ?_
    have t13544 : 0 ≤ (v 39).toInt ∧ (v 39).toInt ≤ 120 := by have h9 := hI.1 39 _ _ rfl; rw [show v13538 39 = v 39 from hf13540 39 (by decide)] at h9; exact h9
    refine lv_iconst (v := 1) hx hb dX12_operand_26 (by decide) ?_
    refine lv_iadd hx hb dX12_operand_27 ?_
    refine lv_topi (fun z13545 e13546 => ?_)
    try (have t13547 := tadd e13546 (a := (v 39).toInt) rfl (b := 1) (by decide) (by omega))
    refine va_put (D := (dC, dI)) (ci := 12) (v := .int z13545) (ty := .int) (C := RX12) (T := TX12) (N := 63) (fs := fsM_0 g v13538 rc) hx hb hwd inA_X12 tyX12 tyX12_ok nmX12 hown hK hP (DM hg) hS 0 rfl rfl 39 (by decide) (hwd _ wk_1004) (fun _ h9 => h9) rfl (by decide +kernel) rfl rfl (Nat.le_of_ble_eq_true rfl) dX12_operand_28 (fun H locs hP _ hS => ?_)
    have hP := va_P_eq (pM_39 g c _ _ _ _) hP
    have hI := IM.put hI 39 z13545 rfl (by omega)
    refine lv_goto (tgt := 150) hx hb dX12_operand_31 (by decide) ?_
    have hP9 : va_P (dC, dI) classes (wM g c (va_up v13538 39 z13545) F13539 rc) H := hP
    exact W.vret hx hb hr (fun t ht hW => ⟨⟨((va_up v13538 39 z13545), F13539, rc), rfl, ⟨hI, rfl, (frU (by decide) (frC (by decide) hf13540 (fun _ _ => rfl))), hF, (by show ((v 39).toInt ≤ z13545.toInt ∧ z13545.toInt ≤ (v 30).toInt ∧ (v 38).toInt ≤ (v13538 38).toInt ∧ (v13538 38).toInt - (v 38).toInt ≤ z13545.toInt - (v 39).toInt ∧ (v 41).toInt ≤ ((va_up v13538 39 z13545) 41).toInt ∧ (((va_up v13538 39 z13545) 40).toInt < 0 → ((va_up v13538 39 z13545) 41).toInt = (v 41).toInt)) ∧ keepL (v 37) (F 28) (F 29) (F13539 28) (F13539 29) ∧ (((va_up v13538 39 z13545) 40).toInt < 0 → dp (F13539 28) (F13539 29) (bI (v 37)) (v13538 38).toInt.toNat = some (d + 1)); rw [show (va_up v13538 39 z13545) 41 = v 41 from hf13540 41 (by decide)]; rw [show (va_up v13538 39 z13545) 40 = v 40 from hf13540 40 (by decide)]; exact ⟨by omega, hk, fun hf => (hd (by omega)).trans (congrArg some (by omega))⟩)⟩, (by show va_P _ _ _ t.heap; rw [ht]; exact hP9)⟩, hS.F ht⟩) hS.2.2 dX12_operand_150
set_option maxHeartbeats 8000000 in
set_option maxRecDepth 100000 in
theorem c_X12_product_6 (l : Launch) (dC : Nat → ClassId) (dI : Nat → Nat → Nat) (g : Nat → Nat) (c : Nat → ClassId) (adK adV : Nat → Nat) (v : Nat → Int32) (F : Nat → Nat → Int32) (rc sz : Nat) (d : Nat) (hg : injM g) (hI : IM v F) (hq : (v 38).toInt ≤ (v 39).toInt ∧ (v 39).toInt ≤ (v 30).toInt ∧ (v 40).toInt < 0 ∧ (v 41).toInt = 6) (hdp : dp (F 28) (F 29) (bI (v 37)) (v 38).toInt.toNat = some d) : Met l yX12_product (Cond.code yX12_product cX12_product 2 none :: wA) ({ frames := 12, cells := 0, slots := 0, locals := 480 }) (va_Pc [.ref (g 0)] (PM dC dI g c adK adV v F rc sz)) (va_Qv (fun (u : StM) => IM u.1 u.2.1 ∧ u.2.2 = rc ∧ (∀ k, k ∉ ([38, 39, 40, 41, 42] : List Nat) → u.1 k = v k) ∧ (∀ k, k ∉ ([28, 29] : List Nat) → u.2.1 k = F k) ∧ (((v 39).toInt ≤ (u.1 39).toInt ∧ (u.1 39).toInt ≤ (v 30).toInt ∧ (v 38).toInt ≤ (u.1 38).toInt ∧ (u.1 38).toInt - (v 38).toInt ≤ (u.1 39).toInt - (v 39).toInt ∧ (v 41).toInt ≤ (u.1 41).toInt ∧ ((u.1 40).toInt < 0 → (u.1 41).toInt = (v 41).toInt)) ∧ keepL (v 37) (F 28) (F 29) (u.2.1 28) (u.2.1 29) ∧ ((u.1 40).toInt < 0 → dp (u.2.1 28) (u.2.1 29) (bI (v 37)) (u.1 38).toInt.toNat = some (d + 1)))) (BM dC dI g c) (AM g sz)) 0 0 (AM g sz) := by
  refine Met.ofW (cc := cX12_product) (maxL := 2) (ret := none) (by decide) rfl ?_
  intro p e s m args below meth c0 s₁ B hml hv
  obtain ⟨rfl, hsz, hP, hK, hE⟩ := hv
  have hx := B.exec
  have hb := B.bytes
  have hr := B.returns
  have hts := atoms_spec (ws := Cond.code yX12_product cX12_product 2 none :: wA) B.pre
  have hwd : ∀ w ∈ wA, w.before _ s = true := fun w h => hts w (List.mem_cons_of_mem _ h)
  have hown : s.vm.findClass RX12 = some m.cls := findClass_of_methodNamed B.named
  have hlocks := B.notSynchronized
  subst hsz
  have hl := lv_entry ([.ref (g 0)]) (n := 2) (Nat.le_of_ble_eq_true rfl)
  rw [lg_entry_eq]
  generalize (lg_sl ([.ref (g 0)]) ++ List.replicate (2 - (lg_sl ([.ref (g 0)])).length) Slot.unset).toArray = ls at hl ⊢
  have hl : lv_has ls 2 [(0, .ref (g 0))] := hl
  obtain ⟨H, eH⟩ : ∃ z, z = s.heap := ⟨_, rfl⟩
  have hP : va_P (dC, dI) classes (wM g c v F rc) H := by rw [eH]; exact hP
  have hS : va_S (AM g s.heap.size) s.heap H [] := by rw [eH]; exact va_S.rf
  refine my_heap eH ?_
  have hF : ∀ k, k ∉ ([28, 29] : List Nat) → F k = F k := fun _ _ => rfl
  have hb30 : 0 ≤ (v 30).toInt ∧ (v 30).toInt ≤ 120 := hI.1 30 _ _ rfl
  have hb37 : 0 ≤ (v 37).toInt ∧ (v 37).toInt ≤ 9 := hI.1 37 _ _ rfl
  have hb38 : 0 ≤ (v 38).toInt ∧ (v 38).toInt ≤ 120 := hI.1 38 _ _ rfl
  have hb39 : 0 ≤ (v 39).toInt ∧ (v 39).toInt ≤ 120 := hI.1 39 _ _ rfl
  have hb41 : 0 ≤ (v 41).toInt ∧ (v 41).toInt ≤ 8 := hI.1 41 _ _ rfl
  have hk : keepL (v 37) (F 28) (F 29) (F 28) (F 29) := keepL.rf
  have hd : (v 40).toInt < 0 → dp (F 28) (F 29) (bI (v 37)) (v 38).toInt.toNat = some d := fun _ => hdp
  refine lv_aload_n hx hb dX12_product_0 rfl (lv_at hl 0 rfl) ?_
  have t13638 : 0 ≤ (v 30).toInt ∧ (v 30).toInt ≤ 120 := hI.1 30 _ _ rfl
  have t13639 : 0 ≤ (v 37).toInt ∧ (v 37).toInt ≤ 9 := hI.1 37 _ _ rfl
  have t13640 : 0 ≤ (v 38).toInt ∧ (v 38).toInt ≤ 120 := hI.1 38 _ _ rfl
  have t13641 : 0 ≤ (v 39).toInt ∧ (v 39).toInt ≤ 120 := hI.1 39 _ _ rfl
  have t13642 : 0 ≤ (v 41).toInt ∧ (v 41).toInt ≤ 8 := hI.1 41 _ _ rfl
  refine va_callv (va_runV (As := []) (rest := []) ⟨hx, hb, hml, hown, hwd⟩ (c_X12_operand_6 l dC dI g c adK adV v F rc H.size  d hg hI (by have h9 : v 38 = v 38 := rfl; (try rw [h9]); clear h9; have h9 : v 39 = v 39 := rfl; (try rw [h9]); clear h9; have h9 : v 30 = v 30 := rfl; (try rw [h9]); clear h9; have h9 : v 40 = v 40 := rfl; (try rw [h9]); clear h9; have h9 : v 41 = v 41 := rfl; (try rw [h9]); clear h9; omega) (by have h9 : v 37 = (v 37) := rfl; have h8 : v 38 = (v 38) := rfl; (try rw [h9]); (try rw [h8]); exact hd (by omega))) (cwV 0 hwd (gV wk_1030 wk_1035 wk_1036 wk_1037 wk_5) rfl rfl rfl (by decide +kernel) ⟨Nat.le_of_ble_eq_true rfl, Nat.le_of_ble_eq_true rfl⟩) ⟨PM.blind, va_recv hK hP (ci := 12) (q0 := 0) rfl rfl, fun U hU hW => ⟨rfl, PM.at hK hE hP hS hU hW⟩⟩ rfl rfl hl.1 rfl (lv_room (Nat.le_of_ble_eq_true rfl)) dX12_product_1 ⟨Nat.le_of_ble_eq_true rfl, Nat.le_of_ble_eq_true rfl⟩) hS (fun q _ h => (freeM hS) q h) (freeM hS) (fun u t H1 locs ht hvm hw hB hz1 hk1 hS => ?_)
  unfold BM at hB
  rw [ht] at hB
  obtain ⟨v13644, F13645, rc9⟩ := u
  obtain ⟨hI, hrc, hf13646, hG13647, hw⟩ := hw
  dsimp only at hI hrc hB hf13646 hG13647 hw
  have hF := frCF (by decide) hG13647 hF
  rw [hrc] at hB
  have hP : va_P (dC, dI) classes (wM g c v13644 F13645 rc) H1 := hB
  have hw : ((v 39).toInt ≤ (v13644 39).toInt ∧ (v13644 39).toInt ≤ (v 30).toInt ∧ (v 38).toInt ≤ (v13644 38).toInt ∧ (v13644 38).toInt - (v 38).toInt ≤ (v13644 39).toInt - (v 39).toInt ∧ (v 41).toInt ≤ (v13644 41).toInt ∧ ((v13644 40).toInt < 0 → (v13644 41).toInt = (v 41).toInt)) ∧ keepL (v 37) (F 28) (F 29) (F13645 28) (F13645 29) ∧ ((v13644 40).toInt < 0 → dp (F13645 28) (F13645 29) (bI (v 37)) (v13644 38).toInt.toNat = some (d + 1)) := hw
  have hw_r13643 := hw
  have t13648 : 0 ≤ (v13644 38).toInt ∧ (v13644 38).toInt ≤ 120 := hI.1 38 _ _ rfl
  have t13649 : 0 ≤ (v13644 39).toInt ∧ (v13644 39).toInt ≤ 120 := hI.1 39 _ _ rfl
  have t13650 : 0 ≤ (v13644 41).toInt ∧ (v13644 41).toInt ≤ 8 := hI.1 41 _ _ rfl
  generalize H1 = H at hP hS ⊢
  have hk := hk.tr hw_r13643.2.1
  have hd := hw_r13643.2.2
  have lp13651 : ∀ (n : Nat) (v_lp13651 : Nat → Int32) (F_lp13651 : Nat → Nat → Int32) (H : Heap) (locs : List Loc) (ls : Array Slot), ((v 39).toInt ≤ (v_lp13651 39).toInt ∧ (v_lp13651 39).toInt ≤ (v 30).toInt ∧ (v 38).toInt ≤ (v_lp13651 38).toInt ∧ (v_lp13651 38).toInt - (v 38).toInt ≤ (v_lp13651 39).toInt - (v 39).toInt ∧ (v 41).toInt ≤ (v_lp13651 41).toInt ∧ ((v_lp13651 40).toInt < 0 → (v_lp13651 41).toInt = (v 41).toInt)) → (keepL (v 37) (F 28) (F 29) (F_lp13651 28) (F_lp13651 29)) → (((v_lp13651 40).toInt < 0 → dp (F_lp13651 28) (F_lp13651 29) (bI (v 37)) (v_lp13651 38).toInt.toNat = some (d + 1))) → (121 - (v_lp13651 39).toInt ≤ (n : Int)) → (∀ k, k ∉ ([38, 39, 40, 41, 42] : List Nat) → v_lp13651 k = v13644 k) → IM v_lp13651 F_lp13651 → (∀ k, k ∉ ([28, 29] : List Nat) → F_lp13651 k = F k) → va_P (dC, dI) classes (wM g c v_lp13651 F_lp13651 rc) H → va_S (AM g s.heap.size) s.heap H locs → lv_has ls 2 [(0, .ref (g 0))] → W p l e (headSpec (Cond.code yX12_product cX12_product 2 none :: wA) ({ frames := 12, cells := 0, slots := 0, locals := 480 })).room s m ([.ref (g 0)] : List Value).toArray below meth c0 H locs 0 0 (MQ below (va_Qv (fun (u : StM) => IM u.1 u.2.1 ∧ u.2.2 = rc ∧ (∀ k, k ∉ ([38, 39, 40, 41, 42] : List Nat) → u.1 k = v k) ∧ (∀ k, k ∉ ([28, 29] : List Nat) → u.2.1 k = F k) ∧ (((v 39).toInt ≤ (u.1 39).toInt ∧ (u.1 39).toInt ≤ (v 30).toInt ∧ (v 38).toInt ≤ (u.1 38).toInt ∧ (u.1 38).toInt - (v 38).toInt ≤ (u.1 39).toInt - (v 39).toInt ∧ (v 41).toInt ≤ (u.1 41).toInt ∧ ((u.1 40).toInt < 0 → (u.1 41).toInt = (v 41).toInt)) ∧ keepL (v 37) (F 28) (F 29) (u.2.1 28) (u.2.1 29) ∧ ((u.1 40).toInt < 0 → dp (u.2.1 28) (u.2.1 29) (bI (v 37)) (u.1 38).toInt.toNat = some (d + 1)))) (BM dC dI g c) (AM g s.heap.size)) ([.ref (g 0)] : List Value).toArray s 0 0 (AM g s.heap.size)) (F0 m 4 ls []) := by
    intro n
    induction n with
    | zero =>
      intro v_lp13651 F_lp13651 H locs ls t13652 t13653 t13654 hm hf_lp13651 hI hF hP hS hl
      exfalso
      have hI1 := hI.1
      omega
    | succ n ih_lp13651 =>
      intro v_lp13651 F_lp13651 H locs ls t13652 t13653 t13654 hm hf_lp13651 hI hF hP hS hl
      have hk := t13653
      have hd := t13654
      refine lv_aload_n hx hb dX12_product_4 rfl (lv_at hl 0 rfl) ?_
      refine va_get (D := (dC, dI)) (ci := 12) (v := .int (v_lp13651 40)) (C := RX12) (T := TX12) (N := 63) hx hb hwd inA_X12 hown hK hP 0 rfl rfl 40 (by decide) (hwd _ wk_1005) (fun _ h9 => h9) rfl dX12_product_5 ?_
      refine lv_if_ge (tgt := 57) hx hb dX12_product_8 (by decide) (fun c13655 => ?_) (fun c13655 => ?_)
      · skip
        have t13656 := cv_le (a := 0) (by decide) (b := (v_lp13651 40).toInt) rfl c13655
        have hP9 : va_P (dC, dI) classes (wM g c v_lp13651 F_lp13651 rc) H := hP
        exact W.vret hx hb hr (fun t ht hW => ⟨⟨(v_lp13651, F_lp13651, rc), rfl, ⟨hI, rfl, (frC (by decide) hf_lp13651 (frC (by decide) hf13646 (fun _ _ => rfl))), hF, (by show ((v 39).toInt ≤ (v_lp13651 39).toInt ∧ (v_lp13651 39).toInt ≤ (v 30).toInt ∧ (v 38).toInt ≤ (v_lp13651 38).toInt ∧ (v_lp13651 38).toInt - (v 38).toInt ≤ (v_lp13651 39).toInt - (v 39).toInt ∧ (v 41).toInt ≤ (v_lp13651 41).toInt ∧ ((v_lp13651 40).toInt < 0 → (v_lp13651 41).toInt = (v 41).toInt)) ∧ keepL (v 37) (F 28) (F 29) (F_lp13651 28) (F_lp13651 29) ∧ ((v_lp13651 40).toInt < 0 → dp (F_lp13651 28) (F_lp13651 29) (bI (v 37)) (v_lp13651 38).toInt.toNat = some (d + 1)); exact ⟨by omega, hk, fun hf => (hd (by omega)).trans (congrArg some (by omega))⟩)⟩, (by show va_P _ _ _ t.heap; rw [ht]; exact hP9)⟩, hS.F ht⟩) hS.2.2 dX12_product_57
      · skip
        have t13657 := cv_nle (a := 0) (by decide) (b := (v_lp13651 40).toInt) rfl c13655
        refine lv_aload_n hx hb dX12_product_11 rfl (lv_at hl 0 rfl) ?_
        have t13658 : 0 ≤ (v 30).toInt ∧ (v 30).toInt ≤ 120 := by have h9 := hI.1 30 _ _ rfl; rw [show v_lp13651 30 = v 30 from (hf_lp13651 30 (by decide)).trans (hf13646 30 (by decide))] at h9; exact h9
        have t13659 : 0 ≤ (v_lp13651 39).toInt ∧ (v_lp13651 39).toInt ≤ 120 := hI.1 39 _ _ rfl
        refine va_calli (va_runV (As := []) (rest := []) ⟨hx, hb, hml, hown, hwd⟩ (c_X12_look l dC dI g c adK adV v_lp13651 F_lp13651 rc H.size  hg hI ) (cwV 0 hwd (gV wk_1017 wk_1014 wk_1015 wk_1016 wk_5) rfl rfl rfl (by decide +kernel) ⟨Nat.le_of_ble_eq_true rfl, Nat.le_of_ble_eq_true rfl⟩) ⟨PM.blind, va_recv hK hP (ci := 12) (q0 := 0) rfl rfl, fun U hU hW => ⟨rfl, PM.at hK hE hP hS hU hW⟩⟩ rfl rfl hl.1 rfl (lv_room (Nat.le_of_ble_eq_true rfl)) dX12_product_12 ⟨Nat.le_of_ble_eq_true rfl, Nat.le_of_ble_eq_true rfl⟩) hS (fun q _ h => (freeM hS) q h) (freeM hS) (fun r13660 u t H1 locs ht hvm hw hB hz1 hk1 hS => ?_)
        unfold BM at hB
        rw [ht] at hB
        have hP : va_P (dC, dI) classes (wM g c v_lp13651 F_lp13651 rc) H1 := hB
        have hw : r13660.toInt = lkM (v_lp13651 39) (v_lp13651 30) (F_lp13651 24) ∧ ((v_lp13651 39).toInt < (v_lp13651 30).toInt ∨ r13660.toInt = -1) := hw
        rw [show v_lp13651 30 = v 30 from (hf_lp13651 30 (by decide)).trans (hf13646 30 (by decide))] at hw
        rw [hF 24 (by decide)] at hw
        have hw_r13660 := hw
        generalize H1 = H at hP hS ⊢
        refine lv_bipush (v := 42) hx hb dX12_product_15 (by decide) ?_
        refine lv_icmp_eq (tgt := 29) hx hb dX12_product_17 (by decide) (fun c13661 => ?_) (fun c13661 => ?_)
        · skip
          have t13662 := cv_eq (a := r13660.toInt) rfl (b := 42) (by decide) c13661
          refine lv_aload_n hx hb dX12_product_29 rfl (lv_at hl 0 rfl) ?_
          have t13663 : 0 ≤ (v 30).toInt ∧ (v 30).toInt ≤ 120 := by have h9 := hI.1 30 _ _ rfl; rw [show v_lp13651 30 = v 30 from (hf_lp13651 30 (by decide)).trans (hf13646 30 (by decide))] at h9; exact h9
          have t13664 : 0 ≤ (v_lp13651 39).toInt ∧ (v_lp13651 39).toInt ≤ 120 := hI.1 39 _ _ rfl
          refine va_calli (va_runV (As := []) (rest := []) ⟨hx, hb, hml, hown, hwd⟩ (c_X12_look l dC dI g c adK adV v_lp13651 F_lp13651 rc H.size  hg hI ) (cwV 0 hwd (gV wk_1017 wk_1014 wk_1015 wk_1016 wk_5) rfl rfl rfl (by decide +kernel) ⟨Nat.le_of_ble_eq_true rfl, Nat.le_of_ble_eq_true rfl⟩) ⟨PM.blind, va_recv hK hP (ci := 12) (q0 := 0) rfl rfl, fun U hU hW => ⟨rfl, PM.at hK hE hP hS hU hW⟩⟩ rfl rfl hl.1 rfl (lv_room (Nat.le_of_ble_eq_true rfl)) dX12_product_30 ⟨Nat.le_of_ble_eq_true rfl, Nat.le_of_ble_eq_true rfl⟩) hS (fun q _ h => (freeM hS) q h) (freeM hS) (fun r13665 u t H1 locs ht hvm hw hB hz1 hk1 hS => ?_)
          unfold BM at hB
          rw [ht] at hB
          have hP : va_P (dC, dI) classes (wM g c v_lp13651 F_lp13651 rc) H1 := hB
          have hw : r13665.toInt = lkM (v_lp13651 39) (v_lp13651 30) (F_lp13651 24) ∧ ((v_lp13651 39).toInt < (v_lp13651 30).toInt ∨ r13665.toInt = -1) := hw
          rw [show v_lp13651 30 = v 30 from (hf_lp13651 30 (by decide)).trans (hf13646 30 (by decide))] at hw
          rw [hF 24 (by decide)] at hw
          have hw_r13665 := hw
          generalize H1 = H at hP hS ⊢
          refine lv_istore_n (lv' := [(1, .int r13665), (0, .ref (g 0))]) hx hb dX12_product_33 rfl hl (by decide) rfl (fun ls hl => ?_)
          refine lv_aload_n hx hb dX12_product_34 rfl (lv_at hl 1 rfl) ?_
          refine lv_dup hx hb dX12_product_35 rfl ?_
          refine va_get (D := (dC, dI)) (ci := 12) (v := .int (v_lp13651 39)) (C := RX12) (T := TX12) (N := 63) hx hb hwd inA_X12 hown hK hP 0 rfl rfl 39 (by decide) (hwd _ wk_1004) (fun _ h9 => h9) rfl dX12_product_36 ?_
          have t13666 : 0 ≤ (v_lp13651 39).toInt ∧ (v_lp13651 39).toInt ≤ 120 := hI.1 39 _ _ rfl
          refine lv_iconst (v := 1) hx hb dX12_product_39 (by decide) ?_
          refine lv_iadd hx hb dX12_product_40 ?_
          refine lv_topi (fun z13667 e13668 => ?_)
          try (have t13669 := tadd e13668 (a := (v_lp13651 39).toInt) rfl (b := 1) (by decide) (by omega))
          refine va_put (D := (dC, dI)) (ci := 12) (v := .int z13667) (ty := .int) (C := RX12) (T := TX12) (N := 63) (fs := fsM_0 g v_lp13651 rc) hx hb hwd inA_X12 tyX12 tyX12_ok nmX12 hown hK hP (DM hg) hS 0 rfl rfl 39 (by decide) (hwd _ wk_1004) (fun _ h9 => h9) rfl (by decide +kernel) rfl rfl (Nat.le_of_ble_eq_true rfl) dX12_product_41 (fun H locs hP _ hS => ?_)
          have hP := va_P_eq (pM_39 g c _ _ _ _) hP
          have hI := IM.put hI 39 z13667 rfl (by omega)
          refine lv_aload_n hx hb dX12_product_44 rfl (lv_at hl 1 rfl) ?_
          have t13670 : 0 ≤ (v 30).toInt ∧ (v 30).toInt ≤ 120 := by have h9 := hI.1 30 _ _ rfl; rw [show (va_up v_lp13651 39 z13667) 30 = v 30 from (hf_lp13651 30 (by decide)).trans (hf13646 30 (by decide))] at h9; exact h9
          have t13671 : 0 ≤ (v 37).toInt ∧ (v 37).toInt ≤ 9 := by have h9 := hI.1 37 _ _ rfl; rw [show (va_up v_lp13651 39 z13667) 37 = v 37 from (hf_lp13651 37 (by decide)).trans (hf13646 37 (by decide))] at h9; exact h9
          have t13672 : 0 ≤ (v_lp13651 38).toInt ∧ (v_lp13651 38).toInt ≤ 120 := hI.1 38 _ _ rfl
          have t13673 : 0 ≤ z13667.toInt ∧ z13667.toInt ≤ 120 := hI.1 39 _ _ rfl
          have t13674 : 0 ≤ (v_lp13651 41).toInt ∧ (v_lp13651 41).toInt ≤ 8 := hI.1 41 _ _ rfl
          refine va_callv (va_runV (As := []) (rest := []) ⟨hx, hb, hml, hown, hwd⟩ (c_X12_operand_6 l dC dI g c adK adV (va_up v_lp13651 39 z13667) F_lp13651 rc H.size  (d + 1) hg hI (by have h9 : (va_up v_lp13651 39 z13667) 38 = v_lp13651 38 := rfl; (try rw [h9]); clear h9; have h9 : (va_up v_lp13651 39 z13667) 39 = z13667 := rfl; (try rw [h9]); clear h9; have h9 : (va_up v_lp13651 39 z13667) 30 = v 30 := (hf_lp13651 30 (by decide)).trans (hf13646 30 (by decide)); (try rw [h9]); clear h9; have h9 : (va_up v_lp13651 39 z13667) 40 = v_lp13651 40 := rfl; (try rw [h9]); clear h9; have h9 : (va_up v_lp13651 39 z13667) 41 = v_lp13651 41 := rfl; (try rw [h9]); clear h9; omega) (by have h9 : (va_up v_lp13651 39 z13667) 37 = (v 37) := (hf_lp13651 37 (by decide)).trans (hf13646 37 (by decide)); have h8 : (va_up v_lp13651 39 z13667) 38 = (v_lp13651 38) := rfl; (try rw [h9]); (try rw [h8]); exact hd (by omega))) (cwV 0 hwd (gV wk_1030 wk_1035 wk_1036 wk_1037 wk_5) rfl rfl rfl (by decide +kernel) ⟨Nat.le_of_ble_eq_true rfl, Nat.le_of_ble_eq_true rfl⟩) ⟨PM.blind, va_recv hK hP (ci := 12) (q0 := 0) rfl rfl, fun U hU hW => ⟨rfl, PM.at hK hE hP hS hU hW⟩⟩ rfl rfl hl.1 rfl (lv_room (Nat.le_of_ble_eq_true rfl)) dX12_product_45 ⟨Nat.le_of_ble_eq_true rfl, Nat.le_of_ble_eq_true rfl⟩) hS (fun q _ h => (freeM hS) q h) (freeM hS) (fun u t H1 locs ht hvm hw hB hz1 hk1 hS => ?_)
          unfold BM at hB
          rw [ht] at hB
          obtain ⟨v13676, F13677, rc9⟩ := u
          obtain ⟨hI, hrc, hf13678, hG13679, hw⟩ := hw
          dsimp only at hI hrc hB hf13678 hG13679 hw
          have hF := frCF (by decide) hG13679 hF
          rw [hrc] at hB
          have hP : va_P (dC, dI) classes (wM g c v13676 F13677 rc) H1 := hB
          have hw : (z13667.toInt ≤ (v13676 39).toInt ∧ (v13676 39).toInt ≤ ((va_up v_lp13651 39 z13667) 30).toInt ∧ (v_lp13651 38).toInt ≤ (v13676 38).toInt ∧ (v13676 38).toInt - (v_lp13651 38).toInt ≤ (v13676 39).toInt - z13667.toInt ∧ (v_lp13651 41).toInt ≤ (v13676 41).toInt ∧ ((v13676 40).toInt < 0 → (v13676 41).toInt = (v_lp13651 41).toInt)) ∧ keepL ((va_up v_lp13651 39 z13667) 37) (F_lp13651 28) (F_lp13651 29) (F13677 28) (F13677 29) ∧ ((v13676 40).toInt < 0 → dp (F13677 28) (F13677 29) (bI ((va_up v_lp13651 39 z13667) 37)) (v13676 38).toInt.toNat = some ((d + 1) + 1)) := hw
          rw [show (va_up v_lp13651 39 z13667) 30 = v 30 from (hf_lp13651 30 (by decide)).trans (hf13646 30 (by decide))] at hw
          rw [show (va_up v_lp13651 39 z13667) 37 = v 37 from (hf_lp13651 37 (by decide)).trans (hf13646 37 (by decide))] at hw
          have hw_r13675 := hw
          have t13680 : 0 ≤ (v13676 38).toInt ∧ (v13676 38).toInt ≤ 120 := hI.1 38 _ _ rfl
          have t13681 : 0 ≤ (v13676 39).toInt ∧ (v13676 39).toInt ≤ 120 := hI.1 39 _ _ rfl
          have t13682 : 0 ≤ (v13676 41).toInt ∧ (v13676 41).toInt ≤ 8 := hI.1 41 _ _ rfl
          generalize H1 = H at hP hS ⊢
          have hk := hk.tr hw_r13675.2.1
          have hd := hw_r13675.2.2
          refine lv_aload_n hx hb dX12_product_48 rfl (lv_at hl 1 rfl) ?_
          refine lv_iload_n hx hb dX12_product_49 rfl (lv_at hl 0 rfl) ?_
          refine lv_iconst (v := 0) hx hb dX12_product_50 (by decide) ?_
          have t13683 : 0 ≤ (v 37).toInt ∧ (v 37).toInt ≤ 9 := by have h9 := hI.1 37 _ _ rfl; rw [show v13676 37 = v 37 from (hf13678 37 (by decide)).trans ((hf_lp13651 37 (by decide)).trans (hf13646 37 (by decide)))] at h9; exact h9
          have t13684 : 0 ≤ (v13676 38).toInt ∧ (v13676 38).toInt ≤ 120 := hI.1 38 _ _ rfl
          refine va_callv (va_runV (As := [.int r13665, .int 0]) (rest := []) ⟨hx, hb, hml, hown, hwd⟩ (c_X12_lay l dC dI g c adK adV v13676 F13677 rc H.size r13665 0 hg hI (by have h9 : v13676 38 = v13676 38 := rfl; rw [h9]; omega)) (cwV 2 hwd (gV wk_1021 wk_1018 wk_1019 wk_1020 wk_5) rfl rfl rfl (by decide +kernel) ⟨Nat.le_of_ble_eq_true rfl, Nat.le_of_ble_eq_true rfl⟩) ⟨PM.blind, va_recv hK hP (ci := 12) (q0 := 0) rfl rfl, fun U hU hW => ⟨rfl, PM.at hK hE hP hS hU hW⟩⟩ rfl rfl hl.1 rfl (lv_room (Nat.le_of_ble_eq_true rfl)) dX12_product_51 ⟨Nat.le_of_ble_eq_true rfl, Nat.le_of_ble_eq_true rfl⟩) hS (fun q _ h => (freeM hS) q h) (freeM hS) (fun u t H1 locs ht hvm hw hB hz1 hk1 hS => ?_)
          unfold BM at hB
          rw [ht] at hB
          obtain ⟨v13686, F13687, rc9⟩ := u
          obtain ⟨hI, hrc, hf13688, hG13689, hw⟩ := hw
          dsimp only at hI hrc hB hf13688 hG13689 hw
          have hF := frCF (by decide) hG13689 hF
          rw [hrc] at hB
          have hP : va_P (dC, dI) classes (wM g c v13686 F13687 rc) H1 := hB
          have hw : (v13686 38).toInt = (v13676 38).toInt + 1 ∧ keepL (v13676 37) (F13677 28) (F13677 29) (F13687 28) (F13687 29) ∧ dp (F13687 28) (F13687 29) (bI (v13676 37)) ((v13676 38).toInt.toNat + 1) = dpS (dp (F13677 28) (F13677 29) (bI (v13676 37)) (v13676 38).toInt.toNat) r13665 (0 : Int32) := hw
          rw [show v13676 37 = v 37 from (hf13678 37 (by decide)).trans ((hf_lp13651 37 (by decide)).trans (hf13646 37 (by decide)))] at hw
          have hw_r13685 := hw
          have t13690 : 0 ≤ (v13686 38).toInt ∧ (v13686 38).toInt ≤ 120 := hI.1 38 _ _ rfl
          have k13691 : (0 : Int32).toInt = 0 := by decide
          generalize H1 = H at hP hS ⊢
          have hk := hk.tr hw_r13685.2.1
          have hd : (v13676 40).toInt < 0 → dp (F13687 28) (F13687 29) (bI (v 37)) (v13686 38).toInt.toNat = some (((d + 1) + 1) - 1) := fun hf => (by have e9 : (v13686 38).toInt.toNat = (v13676 38).toInt.toNat + 1 := (by omega); rw [e9, hw_r13685.2.2, hd hf]; exact dpS_5 (by omega) (by omega) (by omega) (by omega) (by omega))
          refine lv_goto (tgt := 4) hx hb dX12_product_54 (by decide) ?_
          exact ih_lp13651  v13686 F13687 _ _ _ (by have h9 : v13686 39 = v13676 39 := hf13688 39 (by decide); (try rw [h9]); clear h9; have h9 : v13686 38 = v13686 38 := rfl; (try rw [h9]); clear h9; have h9 : v13686 41 = v13676 41 := hf13688 41 (by decide); (try rw [h9]); clear h9; have h9 : v13686 40 = v13676 40 := hf13688 40 (by decide); (try rw [h9]); clear h9; omega) hk (by have h9 : v13686 40 = v13676 40 := hf13688 40 (by decide); (try rw [h9]); clear h9; have h9 : v13686 38 = v13686 38 := rfl; (try rw [h9]); clear h9; exact fun hf => (hd (by omega)).trans (congrArg some (by omega))) (by have h9 : v13686 39 = v13676 39 := hf13688 39 (by decide); rw [h9]; omega) (frC (by decide) hf13688 (frC (by decide) hf13678 (frU (by decide) hf_lp13651))) hI hF hP hS (lv_sub hl [1] rfl)
        · skip
          have t13692 := cv_ne (a := r13660.toInt) rfl (b := 42) (by decide) c13661
          refine lv_aload_n hx hb dX12_product_20 rfl (lv_at hl 0 rfl) ?_
          have t13693 : 0 ≤ (v 30).toInt ∧ (v 30).toInt ≤ 120 := by have h9 := hI.1 30 _ _ rfl; rw [show v_lp13651 30 = v 30 from (hf_lp13651 30 (by decide)).trans (hf13646 30 (by decide))] at h9; exact h9
          have t13694 : 0 ≤ (v_lp13651 39).toInt ∧ (v_lp13651 39).toInt ≤ 120 := hI.1 39 _ _ rfl
          refine va_calli (va_runV (As := []) (rest := []) ⟨hx, hb, hml, hown, hwd⟩ (c_X12_look l dC dI g c adK adV v_lp13651 F_lp13651 rc H.size  hg hI ) (cwV 0 hwd (gV wk_1017 wk_1014 wk_1015 wk_1016 wk_5) rfl rfl rfl (by decide +kernel) ⟨Nat.le_of_ble_eq_true rfl, Nat.le_of_ble_eq_true rfl⟩) ⟨PM.blind, va_recv hK hP (ci := 12) (q0 := 0) rfl rfl, fun U hU hW => ⟨rfl, PM.at hK hE hP hS hU hW⟩⟩ rfl rfl hl.1 rfl (lv_room (Nat.le_of_ble_eq_true rfl)) dX12_product_21 ⟨Nat.le_of_ble_eq_true rfl, Nat.le_of_ble_eq_true rfl⟩) hS (fun q _ h => (freeM hS) q h) (freeM hS) (fun r13695 u t H1 locs ht hvm hw hB hz1 hk1 hS => ?_)
          unfold BM at hB
          rw [ht] at hB
          have hP : va_P (dC, dI) classes (wM g c v_lp13651 F_lp13651 rc) H1 := hB
          have hw : r13695.toInt = lkM (v_lp13651 39) (v_lp13651 30) (F_lp13651 24) ∧ ((v_lp13651 39).toInt < (v_lp13651 30).toInt ∨ r13695.toInt = -1) := hw
          rw [show v_lp13651 30 = v 30 from (hf_lp13651 30 (by decide)).trans (hf13646 30 (by decide))] at hw
          rw [hF 24 (by decide)] at hw
          have hw_r13695 := hw
          generalize H1 = H at hP hS ⊢
          refine lv_bipush (v := 47) hx hb dX12_product_24 (by decide) ?_
          refine lv_icmp_ne (tgt := 57) hx hb dX12_product_26 (by decide) (fun c13696 => ?_) (fun c13696 => ?_)
          · skip
            have t13697 := cv_ne (a := r13695.toInt) rfl (b := 47) (by decide) c13696
            have hP9 : va_P (dC, dI) classes (wM g c v_lp13651 F_lp13651 rc) H := hP
            exact W.vret hx hb hr (fun t ht hW => ⟨⟨(v_lp13651, F_lp13651, rc), rfl, ⟨hI, rfl, (frC (by decide) hf_lp13651 (frC (by decide) hf13646 (fun _ _ => rfl))), hF, (by show ((v 39).toInt ≤ (v_lp13651 39).toInt ∧ (v_lp13651 39).toInt ≤ (v 30).toInt ∧ (v 38).toInt ≤ (v_lp13651 38).toInt ∧ (v_lp13651 38).toInt - (v 38).toInt ≤ (v_lp13651 39).toInt - (v 39).toInt ∧ (v 41).toInt ≤ (v_lp13651 41).toInt ∧ ((v_lp13651 40).toInt < 0 → (v_lp13651 41).toInt = (v 41).toInt)) ∧ keepL (v 37) (F 28) (F 29) (F_lp13651 28) (F_lp13651 29) ∧ ((v_lp13651 40).toInt < 0 → dp (F_lp13651 28) (F_lp13651 29) (bI (v 37)) (v_lp13651 38).toInt.toNat = some (d + 1)); exact ⟨by omega, hk, fun hf => (hd (by omega)).trans (congrArg some (by omega))⟩)⟩, (by show va_P _ _ _ t.heap; rw [ht]; exact hP9)⟩, hS.F ht⟩) hS.2.2 dX12_product_57
          · skip
            have t13698 := cv_eq (a := r13695.toInt) rfl (b := 47) (by decide) c13696
            refine lv_aload_n hx hb dX12_product_29 rfl (lv_at hl 0 rfl) ?_
            have t13699 : 0 ≤ (v 30).toInt ∧ (v 30).toInt ≤ 120 := by have h9 := hI.1 30 _ _ rfl; rw [show v_lp13651 30 = v 30 from (hf_lp13651 30 (by decide)).trans (hf13646 30 (by decide))] at h9; exact h9
            have t13700 : 0 ≤ (v_lp13651 39).toInt ∧ (v_lp13651 39).toInt ≤ 120 := hI.1 39 _ _ rfl
            refine va_calli (va_runV (As := []) (rest := []) ⟨hx, hb, hml, hown, hwd⟩ (c_X12_look l dC dI g c adK adV v_lp13651 F_lp13651 rc H.size  hg hI ) (cwV 0 hwd (gV wk_1017 wk_1014 wk_1015 wk_1016 wk_5) rfl rfl rfl (by decide +kernel) ⟨Nat.le_of_ble_eq_true rfl, Nat.le_of_ble_eq_true rfl⟩) ⟨PM.blind, va_recv hK hP (ci := 12) (q0 := 0) rfl rfl, fun U hU hW => ⟨rfl, PM.at hK hE hP hS hU hW⟩⟩ rfl rfl hl.1 rfl (lv_room (Nat.le_of_ble_eq_true rfl)) dX12_product_30 ⟨Nat.le_of_ble_eq_true rfl, Nat.le_of_ble_eq_true rfl⟩) hS (fun q _ h => (freeM hS) q h) (freeM hS) (fun r13701 u t H1 locs ht hvm hw hB hz1 hk1 hS => ?_)
            unfold BM at hB
            rw [ht] at hB
            have hP : va_P (dC, dI) classes (wM g c v_lp13651 F_lp13651 rc) H1 := hB
            have hw : r13701.toInt = lkM (v_lp13651 39) (v_lp13651 30) (F_lp13651 24) ∧ ((v_lp13651 39).toInt < (v_lp13651 30).toInt ∨ r13701.toInt = -1) := hw
            rw [show v_lp13651 30 = v 30 from (hf_lp13651 30 (by decide)).trans (hf13646 30 (by decide))] at hw
            rw [hF 24 (by decide)] at hw
            have hw_r13701 := hw
            generalize H1 = H at hP hS ⊢
            refine lv_istore_n (lv' := [(1, .int r13701), (0, .ref (g 0))]) hx hb dX12_product_33 rfl hl (by decide) rfl (fun ls hl => ?_)
            refine lv_aload_n hx hb dX12_product_34 rfl (lv_at hl 1 rfl) ?_
            refine lv_dup hx hb dX12_product_35 rfl ?_
            refine va_get (D := (dC, dI)) (ci := 12) (v := .int (v_lp13651 39)) (C := RX12) (T := TX12) (N := 63) hx hb hwd inA_X12 hown hK hP 0 rfl rfl 39 (by decide) (hwd _ wk_1004) (fun _ h9 => h9) rfl dX12_product_36 ?_
            have t13702 : 0 ≤ (v_lp13651 39).toInt ∧ (v_lp13651 39).toInt ≤ 120 := hI.1 39 _ _ rfl
            refine lv_iconst (v := 1) hx hb dX12_product_39 (by decide) ?_
            refine lv_iadd hx hb dX12_product_40 ?_
            refine lv_topi (fun z13703 e13704 => ?_)
            try (have t13705 := tadd e13704 (a := (v_lp13651 39).toInt) rfl (b := 1) (by decide) (by omega))
            refine va_put (D := (dC, dI)) (ci := 12) (v := .int z13703) (ty := .int) (C := RX12) (T := TX12) (N := 63) (fs := fsM_0 g v_lp13651 rc) hx hb hwd inA_X12 tyX12 tyX12_ok nmX12 hown hK hP (DM hg) hS 0 rfl rfl 39 (by decide) (hwd _ wk_1004) (fun _ h9 => h9) rfl (by decide +kernel) rfl rfl (Nat.le_of_ble_eq_true rfl) dX12_product_41 (fun H locs hP _ hS => ?_)
            have hP := va_P_eq (pM_39 g c _ _ _ _) hP
            have hI := IM.put hI 39 z13703 rfl (by omega)
            refine lv_aload_n hx hb dX12_product_44 rfl (lv_at hl 1 rfl) ?_
            have t13706 : 0 ≤ (v 30).toInt ∧ (v 30).toInt ≤ 120 := by have h9 := hI.1 30 _ _ rfl; rw [show (va_up v_lp13651 39 z13703) 30 = v 30 from (hf_lp13651 30 (by decide)).trans (hf13646 30 (by decide))] at h9; exact h9
            have t13707 : 0 ≤ (v 37).toInt ∧ (v 37).toInt ≤ 9 := by have h9 := hI.1 37 _ _ rfl; rw [show (va_up v_lp13651 39 z13703) 37 = v 37 from (hf_lp13651 37 (by decide)).trans (hf13646 37 (by decide))] at h9; exact h9
            have t13708 : 0 ≤ (v_lp13651 38).toInt ∧ (v_lp13651 38).toInt ≤ 120 := hI.1 38 _ _ rfl
            have t13709 : 0 ≤ z13703.toInt ∧ z13703.toInt ≤ 120 := hI.1 39 _ _ rfl
            have t13710 : 0 ≤ (v_lp13651 41).toInt ∧ (v_lp13651 41).toInt ≤ 8 := hI.1 41 _ _ rfl
            refine va_callv (va_runV (As := []) (rest := []) ⟨hx, hb, hml, hown, hwd⟩ (c_X12_operand_6 l dC dI g c adK adV (va_up v_lp13651 39 z13703) F_lp13651 rc H.size  (d + 1) hg hI (by have h9 : (va_up v_lp13651 39 z13703) 38 = v_lp13651 38 := rfl; (try rw [h9]); clear h9; have h9 : (va_up v_lp13651 39 z13703) 39 = z13703 := rfl; (try rw [h9]); clear h9; have h9 : (va_up v_lp13651 39 z13703) 30 = v 30 := (hf_lp13651 30 (by decide)).trans (hf13646 30 (by decide)); (try rw [h9]); clear h9; have h9 : (va_up v_lp13651 39 z13703) 40 = v_lp13651 40 := rfl; (try rw [h9]); clear h9; have h9 : (va_up v_lp13651 39 z13703) 41 = v_lp13651 41 := rfl; (try rw [h9]); clear h9; omega) (by have h9 : (va_up v_lp13651 39 z13703) 37 = (v 37) := (hf_lp13651 37 (by decide)).trans (hf13646 37 (by decide)); have h8 : (va_up v_lp13651 39 z13703) 38 = (v_lp13651 38) := rfl; (try rw [h9]); (try rw [h8]); exact hd (by omega))) (cwV 0 hwd (gV wk_1030 wk_1035 wk_1036 wk_1037 wk_5) rfl rfl rfl (by decide +kernel) ⟨Nat.le_of_ble_eq_true rfl, Nat.le_of_ble_eq_true rfl⟩) ⟨PM.blind, va_recv hK hP (ci := 12) (q0 := 0) rfl rfl, fun U hU hW => ⟨rfl, PM.at hK hE hP hS hU hW⟩⟩ rfl rfl hl.1 rfl (lv_room (Nat.le_of_ble_eq_true rfl)) dX12_product_45 ⟨Nat.le_of_ble_eq_true rfl, Nat.le_of_ble_eq_true rfl⟩) hS (fun q _ h => (freeM hS) q h) (freeM hS) (fun u t H1 locs ht hvm hw hB hz1 hk1 hS => ?_)
            unfold BM at hB
            rw [ht] at hB
            obtain ⟨v13712, F13713, rc9⟩ := u
            obtain ⟨hI, hrc, hf13714, hG13715, hw⟩ := hw
            dsimp only at hI hrc hB hf13714 hG13715 hw
            have hF := frCF (by decide) hG13715 hF
            rw [hrc] at hB
            have hP : va_P (dC, dI) classes (wM g c v13712 F13713 rc) H1 := hB
            have hw : (z13703.toInt ≤ (v13712 39).toInt ∧ (v13712 39).toInt ≤ ((va_up v_lp13651 39 z13703) 30).toInt ∧ (v_lp13651 38).toInt ≤ (v13712 38).toInt ∧ (v13712 38).toInt - (v_lp13651 38).toInt ≤ (v13712 39).toInt - z13703.toInt ∧ (v_lp13651 41).toInt ≤ (v13712 41).toInt ∧ ((v13712 40).toInt < 0 → (v13712 41).toInt = (v_lp13651 41).toInt)) ∧ keepL ((va_up v_lp13651 39 z13703) 37) (F_lp13651 28) (F_lp13651 29) (F13713 28) (F13713 29) ∧ ((v13712 40).toInt < 0 → dp (F13713 28) (F13713 29) (bI ((va_up v_lp13651 39 z13703) 37)) (v13712 38).toInt.toNat = some ((d + 1) + 1)) := hw
            rw [show (va_up v_lp13651 39 z13703) 30 = v 30 from (hf_lp13651 30 (by decide)).trans (hf13646 30 (by decide))] at hw
            rw [show (va_up v_lp13651 39 z13703) 37 = v 37 from (hf_lp13651 37 (by decide)).trans (hf13646 37 (by decide))] at hw
            have hw_r13711 := hw
            have t13716 : 0 ≤ (v13712 38).toInt ∧ (v13712 38).toInt ≤ 120 := hI.1 38 _ _ rfl
            have t13717 : 0 ≤ (v13712 39).toInt ∧ (v13712 39).toInt ≤ 120 := hI.1 39 _ _ rfl
            have t13718 : 0 ≤ (v13712 41).toInt ∧ (v13712 41).toInt ≤ 8 := hI.1 41 _ _ rfl
            generalize H1 = H at hP hS ⊢
            have hk := hk.tr hw_r13711.2.1
            have hd := hw_r13711.2.2
            refine lv_aload_n hx hb dX12_product_48 rfl (lv_at hl 1 rfl) ?_
            refine lv_iload_n hx hb dX12_product_49 rfl (lv_at hl 0 rfl) ?_
            refine lv_iconst (v := 0) hx hb dX12_product_50 (by decide) ?_
            have t13719 : 0 ≤ (v 37).toInt ∧ (v 37).toInt ≤ 9 := by have h9 := hI.1 37 _ _ rfl; rw [show v13712 37 = v 37 from (hf13714 37 (by decide)).trans ((hf_lp13651 37 (by decide)).trans (hf13646 37 (by decide)))] at h9; exact h9
            have t13720 : 0 ≤ (v13712 38).toInt ∧ (v13712 38).toInt ≤ 120 := hI.1 38 _ _ rfl
            refine va_callv (va_runV (As := [.int r13701, .int 0]) (rest := []) ⟨hx, hb, hml, hown, hwd⟩ (c_X12_lay l dC dI g c adK adV v13712 F13713 rc H.size r13701 0 hg hI (by have h9 : v13712 38 = v13712 38 := rfl; rw [h9]; omega)) (cwV 2 hwd (gV wk_1021 wk_1018 wk_1019 wk_1020 wk_5) rfl rfl rfl (by decide +kernel) ⟨Nat.le_of_ble_eq_true rfl, Nat.le_of_ble_eq_true rfl⟩) ⟨PM.blind, va_recv hK hP (ci := 12) (q0 := 0) rfl rfl, fun U hU hW => ⟨rfl, PM.at hK hE hP hS hU hW⟩⟩ rfl rfl hl.1 rfl (lv_room (Nat.le_of_ble_eq_true rfl)) dX12_product_51 ⟨Nat.le_of_ble_eq_true rfl, Nat.le_of_ble_eq_true rfl⟩) hS (fun q _ h => (freeM hS) q h) (freeM hS) (fun u t H1 locs ht hvm hw hB hz1 hk1 hS => ?_)
            unfold BM at hB
            rw [ht] at hB
            obtain ⟨v13722, F13723, rc9⟩ := u
            obtain ⟨hI, hrc, hf13724, hG13725, hw⟩ := hw
            dsimp only at hI hrc hB hf13724 hG13725 hw
            have hF := frCF (by decide) hG13725 hF
            rw [hrc] at hB
            have hP : va_P (dC, dI) classes (wM g c v13722 F13723 rc) H1 := hB
            have hw : (v13722 38).toInt = (v13712 38).toInt + 1 ∧ keepL (v13712 37) (F13713 28) (F13713 29) (F13723 28) (F13723 29) ∧ dp (F13723 28) (F13723 29) (bI (v13712 37)) ((v13712 38).toInt.toNat + 1) = dpS (dp (F13713 28) (F13713 29) (bI (v13712 37)) (v13712 38).toInt.toNat) r13701 (0 : Int32) := hw
            rw [show v13712 37 = v 37 from (hf13714 37 (by decide)).trans ((hf_lp13651 37 (by decide)).trans (hf13646 37 (by decide)))] at hw
            have hw_r13721 := hw
            have t13726 : 0 ≤ (v13722 38).toInt ∧ (v13722 38).toInt ≤ 120 := hI.1 38 _ _ rfl
            have k13727 : (0 : Int32).toInt = 0 := by decide
            generalize H1 = H at hP hS ⊢
            have hk := hk.tr hw_r13721.2.1
            have hd : (v13712 40).toInt < 0 → dp (F13723 28) (F13723 29) (bI (v 37)) (v13722 38).toInt.toNat = some (((d + 1) + 1) - 1) := fun hf => (by have e9 : (v13722 38).toInt.toNat = (v13712 38).toInt.toNat + 1 := (by omega); rw [e9, hw_r13721.2.2, hd hf]; exact dpS_5 (by omega) (by omega) (by omega) (by omega) (by omega))
            refine lv_goto (tgt := 4) hx hb dX12_product_54 (by decide) ?_
            exact ih_lp13651  v13722 F13723 _ _ _ (by have h9 : v13722 39 = v13712 39 := hf13724 39 (by decide); (try rw [h9]); clear h9; have h9 : v13722 38 = v13722 38 := rfl; (try rw [h9]); clear h9; have h9 : v13722 41 = v13712 41 := hf13724 41 (by decide); (try rw [h9]); clear h9; have h9 : v13722 40 = v13712 40 := hf13724 40 (by decide); (try rw [h9]); clear h9; omega) hk (by have h9 : v13722 40 = v13712 40 := hf13724 40 (by decide); (try rw [h9]); clear h9; have h9 : v13722 38 = v13722 38 := rfl; (try rw [h9]); clear h9; exact fun hf => (hd (by omega)).trans (congrArg some (by omega))) (by have h9 : v13722 39 = v13712 39 := hf13724 39 (by decide); rw [h9]; omega) (frC (by decide) hf13724 (frC (by decide) hf13714 (frU (by decide) hf_lp13651))) hI hF hP hS (lv_sub hl [1] rfl)
  obtain ⟨n9, hn9⟩ : ∃ n : Nat, 121 - (v13644 39).toInt ≤ (n : Int) := ⟨((121 - (v13644 39).toInt : Int)).toNat, by omega⟩
  exact lp13651 n9  v13644 F13645 H _ ls (by have h9 : v13644 39 = v13644 39 := rfl; (try rw [h9]); clear h9; have h9 : v13644 38 = v13644 38 := rfl; (try rw [h9]); clear h9; have h9 : v13644 41 = v13644 41 := rfl; (try rw [h9]); clear h9; have h9 : v13644 40 = v13644 40 := rfl; (try rw [h9]); clear h9; omega) hk (by have h9 : v13644 40 = v13644 40 := rfl; (try rw [h9]); clear h9; have h9 : v13644 38 = v13644 38 := rfl; (try rw [h9]); clear h9; exact fun hf => (hd (by omega)).trans (congrArg some (by omega))) (by have h9 : v13644 39 = v13644 39 := rfl; rw [h9]; omega) (fun _ _ => rfl) hI hF hP hS hl
set_option maxHeartbeats 8000000 in
set_option maxRecDepth 100000 in
theorem c_X12_sum_6 (l : Launch) (dC : Nat → ClassId) (dI : Nat → Nat → Nat) (g : Nat → Nat) (c : Nat → ClassId) (adK adV : Nat → Nat) (v : Nat → Int32) (F : Nat → Nat → Int32) (rc sz : Nat) (d : Nat) (hg : injM g) (hI : IM v F) (hq : (v 38).toInt ≤ (v 39).toInt ∧ (v 39).toInt ≤ (v 30).toInt ∧ (v 40).toInt < 0 ∧ (v 41).toInt = 6) (hdp : dp (F 28) (F 29) (bI (v 37)) (v 38).toInt.toNat = some d) : Met l yX12_sum (Cond.code yX12_sum cX12_sum 2 none :: wA) ({ frames := 13, cells := 0, slots := 0, locals := 520 }) (va_Pc [.ref (g 0)] (PM dC dI g c adK adV v F rc sz)) (va_Qv (fun (u : StM) => IM u.1 u.2.1 ∧ u.2.2 = rc ∧ (∀ k, k ∉ ([38, 39, 40, 41, 42] : List Nat) → u.1 k = v k) ∧ (∀ k, k ∉ ([28, 29] : List Nat) → u.2.1 k = F k) ∧ (((v 39).toInt ≤ (u.1 39).toInt ∧ (u.1 39).toInt ≤ (v 30).toInt ∧ (v 38).toInt ≤ (u.1 38).toInt ∧ (u.1 38).toInt - (v 38).toInt ≤ (u.1 39).toInt - (v 39).toInt ∧ (v 41).toInt ≤ (u.1 41).toInt ∧ ((u.1 40).toInt < 0 → (u.1 41).toInt = (v 41).toInt)) ∧ keepL (v 37) (F 28) (F 29) (u.2.1 28) (u.2.1 29) ∧ ((u.1 40).toInt < 0 → dp (u.2.1 28) (u.2.1 29) (bI (v 37)) (u.1 38).toInt.toNat = some (d + 1)))) (BM dC dI g c) (AM g sz)) 0 0 (AM g sz) := by
  refine Met.ofW (cc := cX12_sum) (maxL := 2) (ret := none) (by decide) rfl ?_
  intro p e s m args below meth c0 s₁ B hml hv
  obtain ⟨rfl, hsz, hP, hK, hE⟩ := hv
  have hx := B.exec
  have hb := B.bytes
  have hr := B.returns
  have hts := atoms_spec (ws := Cond.code yX12_sum cX12_sum 2 none :: wA) B.pre
  have hwd : ∀ w ∈ wA, w.before _ s = true := fun w h => hts w (List.mem_cons_of_mem _ h)
  have hown : s.vm.findClass RX12 = some m.cls := findClass_of_methodNamed B.named
  have hlocks := B.notSynchronized
  subst hsz
  have hl := lv_entry ([.ref (g 0)]) (n := 2) (Nat.le_of_ble_eq_true rfl)
  rw [lg_entry_eq]
  generalize (lg_sl ([.ref (g 0)]) ++ List.replicate (2 - (lg_sl ([.ref (g 0)])).length) Slot.unset).toArray = ls at hl ⊢
  have hl : lv_has ls 2 [(0, .ref (g 0))] := hl
  obtain ⟨H, eH⟩ : ∃ z, z = s.heap := ⟨_, rfl⟩
  have hP : va_P (dC, dI) classes (wM g c v F rc) H := by rw [eH]; exact hP
  have hS : va_S (AM g s.heap.size) s.heap H [] := by rw [eH]; exact va_S.rf
  refine my_heap eH ?_
  have hF : ∀ k, k ∉ ([28, 29] : List Nat) → F k = F k := fun _ _ => rfl
  have hb30 : 0 ≤ (v 30).toInt ∧ (v 30).toInt ≤ 120 := hI.1 30 _ _ rfl
  have hb37 : 0 ≤ (v 37).toInt ∧ (v 37).toInt ≤ 9 := hI.1 37 _ _ rfl
  have hb38 : 0 ≤ (v 38).toInt ∧ (v 38).toInt ≤ 120 := hI.1 38 _ _ rfl
  have hb39 : 0 ≤ (v 39).toInt ∧ (v 39).toInt ≤ 120 := hI.1 39 _ _ rfl
  have hb41 : 0 ≤ (v 41).toInt ∧ (v 41).toInt ≤ 8 := hI.1 41 _ _ rfl
  have hk : keepL (v 37) (F 28) (F 29) (F 28) (F 29) := keepL.rf
  have hd : (v 40).toInt < 0 → dp (F 28) (F 29) (bI (v 37)) (v 38).toInt.toNat = some d := fun _ => hdp
  refine lv_aload_n hx hb dX12_sum_0 rfl (lv_at hl 0 rfl) ?_
  have t13818 : 0 ≤ (v 30).toInt ∧ (v 30).toInt ≤ 120 := hI.1 30 _ _ rfl
  have t13819 : 0 ≤ (v 37).toInt ∧ (v 37).toInt ≤ 9 := hI.1 37 _ _ rfl
  have t13820 : 0 ≤ (v 38).toInt ∧ (v 38).toInt ≤ 120 := hI.1 38 _ _ rfl
  have t13821 : 0 ≤ (v 39).toInt ∧ (v 39).toInt ≤ 120 := hI.1 39 _ _ rfl
  have t13822 : 0 ≤ (v 41).toInt ∧ (v 41).toInt ≤ 8 := hI.1 41 _ _ rfl
  refine va_callv (va_runV (As := []) (rest := []) ⟨hx, hb, hml, hown, hwd⟩ (c_X12_product_6 l dC dI g c adK adV v F rc H.size  d hg hI (by have h9 : v 38 = v 38 := rfl; (try rw [h9]); clear h9; have h9 : v 39 = v 39 := rfl; (try rw [h9]); clear h9; have h9 : v 30 = v 30 := rfl; (try rw [h9]); clear h9; have h9 : v 40 = v 40 := rfl; (try rw [h9]); clear h9; have h9 : v 41 = v 41 := rfl; (try rw [h9]); clear h9; omega) (by have h9 : v 37 = (v 37) := rfl; have h8 : v 38 = (v 38) := rfl; (try rw [h9]); (try rw [h8]); exact hd (by omega))) (cwV 0 hwd (gV wk_1042 wk_1044 wk_1045 wk_1046 wk_5) rfl rfl rfl (by decide +kernel) ⟨Nat.le_of_ble_eq_true rfl, Nat.le_of_ble_eq_true rfl⟩) ⟨PM.blind, va_recv hK hP (ci := 12) (q0 := 0) rfl rfl, fun U hU hW => ⟨rfl, PM.at hK hE hP hS hU hW⟩⟩ rfl rfl hl.1 rfl (lv_room (Nat.le_of_ble_eq_true rfl)) dX12_sum_1 ⟨Nat.le_of_ble_eq_true rfl, Nat.le_of_ble_eq_true rfl⟩) hS (fun q _ h => (freeM hS) q h) (freeM hS) (fun u t H1 locs ht hvm hw hB hz1 hk1 hS => ?_)
  unfold BM at hB
  rw [ht] at hB
  obtain ⟨v13824, F13825, rc9⟩ := u
  obtain ⟨hI, hrc, hf13826, hG13827, hw⟩ := hw
  dsimp only at hI hrc hB hf13826 hG13827 hw
  have hF := frCF (by decide) hG13827 hF
  rw [hrc] at hB
  have hP : va_P (dC, dI) classes (wM g c v13824 F13825 rc) H1 := hB
  have hw : ((v 39).toInt ≤ (v13824 39).toInt ∧ (v13824 39).toInt ≤ (v 30).toInt ∧ (v 38).toInt ≤ (v13824 38).toInt ∧ (v13824 38).toInt - (v 38).toInt ≤ (v13824 39).toInt - (v 39).toInt ∧ (v 41).toInt ≤ (v13824 41).toInt ∧ ((v13824 40).toInt < 0 → (v13824 41).toInt = (v 41).toInt)) ∧ keepL (v 37) (F 28) (F 29) (F13825 28) (F13825 29) ∧ ((v13824 40).toInt < 0 → dp (F13825 28) (F13825 29) (bI (v 37)) (v13824 38).toInt.toNat = some (d + 1)) := hw
  have hw_r13823 := hw
  have t13828 : 0 ≤ (v13824 38).toInt ∧ (v13824 38).toInt ≤ 120 := hI.1 38 _ _ rfl
  have t13829 : 0 ≤ (v13824 39).toInt ∧ (v13824 39).toInt ≤ 120 := hI.1 39 _ _ rfl
  have t13830 : 0 ≤ (v13824 41).toInt ∧ (v13824 41).toInt ≤ 8 := hI.1 41 _ _ rfl
  generalize H1 = H at hP hS ⊢
  have hk := hk.tr hw_r13823.2.1
  have hd := hw_r13823.2.2
  have lp13831 : ∀ (n : Nat) (v_lp13831 : Nat → Int32) (F_lp13831 : Nat → Nat → Int32) (H : Heap) (locs : List Loc) (ls : Array Slot), ((v 39).toInt ≤ (v_lp13831 39).toInt ∧ (v_lp13831 39).toInt ≤ (v 30).toInt ∧ (v 38).toInt ≤ (v_lp13831 38).toInt ∧ (v_lp13831 38).toInt - (v 38).toInt ≤ (v_lp13831 39).toInt - (v 39).toInt ∧ (v 41).toInt ≤ (v_lp13831 41).toInt ∧ ((v_lp13831 40).toInt < 0 → (v_lp13831 41).toInt = (v 41).toInt)) → (keepL (v 37) (F 28) (F 29) (F_lp13831 28) (F_lp13831 29)) → (((v_lp13831 40).toInt < 0 → dp (F_lp13831 28) (F_lp13831 29) (bI (v 37)) (v_lp13831 38).toInt.toNat = some (d + 1))) → (121 - (v_lp13831 39).toInt ≤ (n : Int)) → (∀ k, k ∉ ([38, 39, 40, 41, 42] : List Nat) → v_lp13831 k = v13824 k) → IM v_lp13831 F_lp13831 → (∀ k, k ∉ ([28, 29] : List Nat) → F_lp13831 k = F k) → va_P (dC, dI) classes (wM g c v_lp13831 F_lp13831 rc) H → va_S (AM g s.heap.size) s.heap H locs → lv_has ls 2 [(0, .ref (g 0))] → W p l e (headSpec (Cond.code yX12_sum cX12_sum 2 none :: wA) ({ frames := 13, cells := 0, slots := 0, locals := 520 })).room s m ([.ref (g 0)] : List Value).toArray below meth c0 H locs 0 0 (MQ below (va_Qv (fun (u : StM) => IM u.1 u.2.1 ∧ u.2.2 = rc ∧ (∀ k, k ∉ ([38, 39, 40, 41, 42] : List Nat) → u.1 k = v k) ∧ (∀ k, k ∉ ([28, 29] : List Nat) → u.2.1 k = F k) ∧ (((v 39).toInt ≤ (u.1 39).toInt ∧ (u.1 39).toInt ≤ (v 30).toInt ∧ (v 38).toInt ≤ (u.1 38).toInt ∧ (u.1 38).toInt - (v 38).toInt ≤ (u.1 39).toInt - (v 39).toInt ∧ (v 41).toInt ≤ (u.1 41).toInt ∧ ((u.1 40).toInt < 0 → (u.1 41).toInt = (v 41).toInt)) ∧ keepL (v 37) (F 28) (F 29) (u.2.1 28) (u.2.1 29) ∧ ((u.1 40).toInt < 0 → dp (u.2.1 28) (u.2.1 29) (bI (v 37)) (u.1 38).toInt.toNat = some (d + 1)))) (BM dC dI g c) (AM g s.heap.size)) ([.ref (g 0)] : List Value).toArray s 0 0 (AM g s.heap.size)) (F0 m 4 ls []) := by
    intro n
    induction n with
    | zero =>
      intro v_lp13831 F_lp13831 H locs ls t13832 t13833 t13834 hm hf_lp13831 hI hF hP hS hl
      exfalso
      have hI1 := hI.1
      omega
    | succ n ih_lp13831 =>
      intro v_lp13831 F_lp13831 H locs ls t13832 t13833 t13834 hm hf_lp13831 hI hF hP hS hl
      have hk := t13833
      have hd := t13834
      refine lv_aload_n hx hb dX12_sum_4 rfl (lv_at hl 0 rfl) ?_
      refine va_get (D := (dC, dI)) (ci := 12) (v := .int (v_lp13831 40)) (C := RX12) (T := TX12) (N := 63) hx hb hwd inA_X12 hown hK hP 0 rfl rfl 40 (by decide) (hwd _ wk_1005) (fun _ h9 => h9) rfl dX12_sum_5 ?_
      refine lv_if_ge (tgt := 57) hx hb dX12_sum_8 (by decide) (fun c13835 => ?_) (fun c13835 => ?_)
      · skip
        have t13836 := cv_le (a := 0) (by decide) (b := (v_lp13831 40).toInt) rfl c13835
        have hP9 : va_P (dC, dI) classes (wM g c v_lp13831 F_lp13831 rc) H := hP
        exact W.vret hx hb hr (fun t ht hW => ⟨⟨(v_lp13831, F_lp13831, rc), rfl, ⟨hI, rfl, (frC (by decide) hf_lp13831 (frC (by decide) hf13826 (fun _ _ => rfl))), hF, (by show ((v 39).toInt ≤ (v_lp13831 39).toInt ∧ (v_lp13831 39).toInt ≤ (v 30).toInt ∧ (v 38).toInt ≤ (v_lp13831 38).toInt ∧ (v_lp13831 38).toInt - (v 38).toInt ≤ (v_lp13831 39).toInt - (v 39).toInt ∧ (v 41).toInt ≤ (v_lp13831 41).toInt ∧ ((v_lp13831 40).toInt < 0 → (v_lp13831 41).toInt = (v 41).toInt)) ∧ keepL (v 37) (F 28) (F 29) (F_lp13831 28) (F_lp13831 29) ∧ ((v_lp13831 40).toInt < 0 → dp (F_lp13831 28) (F_lp13831 29) (bI (v 37)) (v_lp13831 38).toInt.toNat = some (d + 1)); exact ⟨by omega, hk, fun hf => (hd (by omega)).trans (congrArg some (by omega))⟩)⟩, (by show va_P _ _ _ t.heap; rw [ht]; exact hP9)⟩, hS.F ht⟩) hS.2.2 dX12_sum_57
      · skip
        have t13837 := cv_nle (a := 0) (by decide) (b := (v_lp13831 40).toInt) rfl c13835
        refine lv_aload_n hx hb dX12_sum_11 rfl (lv_at hl 0 rfl) ?_
        have t13838 : 0 ≤ (v 30).toInt ∧ (v 30).toInt ≤ 120 := by have h9 := hI.1 30 _ _ rfl; rw [show v_lp13831 30 = v 30 from (hf_lp13831 30 (by decide)).trans (hf13826 30 (by decide))] at h9; exact h9
        have t13839 : 0 ≤ (v_lp13831 39).toInt ∧ (v_lp13831 39).toInt ≤ 120 := hI.1 39 _ _ rfl
        refine va_calli (va_runV (As := []) (rest := []) ⟨hx, hb, hml, hown, hwd⟩ (c_X12_look l dC dI g c adK adV v_lp13831 F_lp13831 rc H.size  hg hI ) (cwV 0 hwd (gV wk_1017 wk_1014 wk_1015 wk_1016 wk_5) rfl rfl rfl (by decide +kernel) ⟨Nat.le_of_ble_eq_true rfl, Nat.le_of_ble_eq_true rfl⟩) ⟨PM.blind, va_recv hK hP (ci := 12) (q0 := 0) rfl rfl, fun U hU hW => ⟨rfl, PM.at hK hE hP hS hU hW⟩⟩ rfl rfl hl.1 rfl (lv_room (Nat.le_of_ble_eq_true rfl)) dX12_sum_12 ⟨Nat.le_of_ble_eq_true rfl, Nat.le_of_ble_eq_true rfl⟩) hS (fun q _ h => (freeM hS) q h) (freeM hS) (fun r13840 u t H1 locs ht hvm hw hB hz1 hk1 hS => ?_)
        unfold BM at hB
        rw [ht] at hB
        have hP : va_P (dC, dI) classes (wM g c v_lp13831 F_lp13831 rc) H1 := hB
        have hw : r13840.toInt = lkM (v_lp13831 39) (v_lp13831 30) (F_lp13831 24) ∧ ((v_lp13831 39).toInt < (v_lp13831 30).toInt ∨ r13840.toInt = -1) := hw
        rw [show v_lp13831 30 = v 30 from (hf_lp13831 30 (by decide)).trans (hf13826 30 (by decide))] at hw
        rw [hF 24 (by decide)] at hw
        have hw_r13840 := hw
        generalize H1 = H at hP hS ⊢
        refine lv_bipush (v := 43) hx hb dX12_sum_15 (by decide) ?_
        refine lv_icmp_eq (tgt := 29) hx hb dX12_sum_17 (by decide) (fun c13841 => ?_) (fun c13841 => ?_)
        · skip
          have t13842 := cv_eq (a := r13840.toInt) rfl (b := 43) (by decide) c13841
          refine lv_aload_n hx hb dX12_sum_29 rfl (lv_at hl 0 rfl) ?_
          have t13843 : 0 ≤ (v 30).toInt ∧ (v 30).toInt ≤ 120 := by have h9 := hI.1 30 _ _ rfl; rw [show v_lp13831 30 = v 30 from (hf_lp13831 30 (by decide)).trans (hf13826 30 (by decide))] at h9; exact h9
          have t13844 : 0 ≤ (v_lp13831 39).toInt ∧ (v_lp13831 39).toInt ≤ 120 := hI.1 39 _ _ rfl
          refine va_calli (va_runV (As := []) (rest := []) ⟨hx, hb, hml, hown, hwd⟩ (c_X12_look l dC dI g c adK adV v_lp13831 F_lp13831 rc H.size  hg hI ) (cwV 0 hwd (gV wk_1017 wk_1014 wk_1015 wk_1016 wk_5) rfl rfl rfl (by decide +kernel) ⟨Nat.le_of_ble_eq_true rfl, Nat.le_of_ble_eq_true rfl⟩) ⟨PM.blind, va_recv hK hP (ci := 12) (q0 := 0) rfl rfl, fun U hU hW => ⟨rfl, PM.at hK hE hP hS hU hW⟩⟩ rfl rfl hl.1 rfl (lv_room (Nat.le_of_ble_eq_true rfl)) dX12_sum_30 ⟨Nat.le_of_ble_eq_true rfl, Nat.le_of_ble_eq_true rfl⟩) hS (fun q _ h => (freeM hS) q h) (freeM hS) (fun r13845 u t H1 locs ht hvm hw hB hz1 hk1 hS => ?_)
          unfold BM at hB
          rw [ht] at hB
          have hP : va_P (dC, dI) classes (wM g c v_lp13831 F_lp13831 rc) H1 := hB
          have hw : r13845.toInt = lkM (v_lp13831 39) (v_lp13831 30) (F_lp13831 24) ∧ ((v_lp13831 39).toInt < (v_lp13831 30).toInt ∨ r13845.toInt = -1) := hw
          rw [show v_lp13831 30 = v 30 from (hf_lp13831 30 (by decide)).trans (hf13826 30 (by decide))] at hw
          rw [hF 24 (by decide)] at hw
          have hw_r13845 := hw
          generalize H1 = H at hP hS ⊢
          refine lv_istore_n (lv' := [(1, .int r13845), (0, .ref (g 0))]) hx hb dX12_sum_33 rfl hl (by decide) rfl (fun ls hl => ?_)
          refine lv_aload_n hx hb dX12_sum_34 rfl (lv_at hl 1 rfl) ?_
          refine lv_dup hx hb dX12_sum_35 rfl ?_
          refine va_get (D := (dC, dI)) (ci := 12) (v := .int (v_lp13831 39)) (C := RX12) (T := TX12) (N := 63) hx hb hwd inA_X12 hown hK hP 0 rfl rfl 39 (by decide) (hwd _ wk_1004) (fun _ h9 => h9) rfl dX12_sum_36 ?_
          have t13846 : 0 ≤ (v_lp13831 39).toInt ∧ (v_lp13831 39).toInt ≤ 120 := hI.1 39 _ _ rfl
          refine lv_iconst (v := 1) hx hb dX12_sum_39 (by decide) ?_
          refine lv_iadd hx hb dX12_sum_40 ?_
          refine lv_topi (fun z13847 e13848 => ?_)
          try (have t13849 := tadd e13848 (a := (v_lp13831 39).toInt) rfl (b := 1) (by decide) (by omega))
          refine va_put (D := (dC, dI)) (ci := 12) (v := .int z13847) (ty := .int) (C := RX12) (T := TX12) (N := 63) (fs := fsM_0 g v_lp13831 rc) hx hb hwd inA_X12 tyX12 tyX12_ok nmX12 hown hK hP (DM hg) hS 0 rfl rfl 39 (by decide) (hwd _ wk_1004) (fun _ h9 => h9) rfl (by decide +kernel) rfl rfl (Nat.le_of_ble_eq_true rfl) dX12_sum_41 (fun H locs hP _ hS => ?_)
          have hP := va_P_eq (pM_39 g c _ _ _ _) hP
          have hI := IM.put hI 39 z13847 rfl (by omega)
          refine lv_aload_n hx hb dX12_sum_44 rfl (lv_at hl 1 rfl) ?_
          have t13850 : 0 ≤ (v 30).toInt ∧ (v 30).toInt ≤ 120 := by have h9 := hI.1 30 _ _ rfl; rw [show (va_up v_lp13831 39 z13847) 30 = v 30 from (hf_lp13831 30 (by decide)).trans (hf13826 30 (by decide))] at h9; exact h9
          have t13851 : 0 ≤ (v 37).toInt ∧ (v 37).toInt ≤ 9 := by have h9 := hI.1 37 _ _ rfl; rw [show (va_up v_lp13831 39 z13847) 37 = v 37 from (hf_lp13831 37 (by decide)).trans (hf13826 37 (by decide))] at h9; exact h9
          have t13852 : 0 ≤ (v_lp13831 38).toInt ∧ (v_lp13831 38).toInt ≤ 120 := hI.1 38 _ _ rfl
          have t13853 : 0 ≤ z13847.toInt ∧ z13847.toInt ≤ 120 := hI.1 39 _ _ rfl
          have t13854 : 0 ≤ (v_lp13831 41).toInt ∧ (v_lp13831 41).toInt ≤ 8 := hI.1 41 _ _ rfl
          refine va_callv (va_runV (As := []) (rest := []) ⟨hx, hb, hml, hown, hwd⟩ (c_X12_product_6 l dC dI g c adK adV (va_up v_lp13831 39 z13847) F_lp13831 rc H.size  (d + 1) hg hI (by have h9 : (va_up v_lp13831 39 z13847) 38 = v_lp13831 38 := rfl; (try rw [h9]); clear h9; have h9 : (va_up v_lp13831 39 z13847) 39 = z13847 := rfl; (try rw [h9]); clear h9; have h9 : (va_up v_lp13831 39 z13847) 30 = v 30 := (hf_lp13831 30 (by decide)).trans (hf13826 30 (by decide)); (try rw [h9]); clear h9; have h9 : (va_up v_lp13831 39 z13847) 40 = v_lp13831 40 := rfl; (try rw [h9]); clear h9; have h9 : (va_up v_lp13831 39 z13847) 41 = v_lp13831 41 := rfl; (try rw [h9]); clear h9; omega) (by have h9 : (va_up v_lp13831 39 z13847) 37 = (v 37) := (hf_lp13831 37 (by decide)).trans (hf13826 37 (by decide)); have h8 : (va_up v_lp13831 39 z13847) 38 = (v_lp13831 38) := rfl; (try rw [h9]); (try rw [h8]); exact hd (by omega))) (cwV 0 hwd (gV wk_1042 wk_1044 wk_1045 wk_1046 wk_5) rfl rfl rfl (by decide +kernel) ⟨Nat.le_of_ble_eq_true rfl, Nat.le_of_ble_eq_true rfl⟩) ⟨PM.blind, va_recv hK hP (ci := 12) (q0 := 0) rfl rfl, fun U hU hW => ⟨rfl, PM.at hK hE hP hS hU hW⟩⟩ rfl rfl hl.1 rfl (lv_room (Nat.le_of_ble_eq_true rfl)) dX12_sum_45 ⟨Nat.le_of_ble_eq_true rfl, Nat.le_of_ble_eq_true rfl⟩) hS (fun q _ h => (freeM hS) q h) (freeM hS) (fun u t H1 locs ht hvm hw hB hz1 hk1 hS => ?_)
          unfold BM at hB
          rw [ht] at hB
          obtain ⟨v13856, F13857, rc9⟩ := u
          obtain ⟨hI, hrc, hf13858, hG13859, hw⟩ := hw
          dsimp only at hI hrc hB hf13858 hG13859 hw
          have hF := frCF (by decide) hG13859 hF
          rw [hrc] at hB
          have hP : va_P (dC, dI) classes (wM g c v13856 F13857 rc) H1 := hB
          have hw : (z13847.toInt ≤ (v13856 39).toInt ∧ (v13856 39).toInt ≤ ((va_up v_lp13831 39 z13847) 30).toInt ∧ (v_lp13831 38).toInt ≤ (v13856 38).toInt ∧ (v13856 38).toInt - (v_lp13831 38).toInt ≤ (v13856 39).toInt - z13847.toInt ∧ (v_lp13831 41).toInt ≤ (v13856 41).toInt ∧ ((v13856 40).toInt < 0 → (v13856 41).toInt = (v_lp13831 41).toInt)) ∧ keepL ((va_up v_lp13831 39 z13847) 37) (F_lp13831 28) (F_lp13831 29) (F13857 28) (F13857 29) ∧ ((v13856 40).toInt < 0 → dp (F13857 28) (F13857 29) (bI ((va_up v_lp13831 39 z13847) 37)) (v13856 38).toInt.toNat = some ((d + 1) + 1)) := hw
          rw [show (va_up v_lp13831 39 z13847) 30 = v 30 from (hf_lp13831 30 (by decide)).trans (hf13826 30 (by decide))] at hw
          rw [show (va_up v_lp13831 39 z13847) 37 = v 37 from (hf_lp13831 37 (by decide)).trans (hf13826 37 (by decide))] at hw
          have hw_r13855 := hw
          have t13860 : 0 ≤ (v13856 38).toInt ∧ (v13856 38).toInt ≤ 120 := hI.1 38 _ _ rfl
          have t13861 : 0 ≤ (v13856 39).toInt ∧ (v13856 39).toInt ≤ 120 := hI.1 39 _ _ rfl
          have t13862 : 0 ≤ (v13856 41).toInt ∧ (v13856 41).toInt ≤ 8 := hI.1 41 _ _ rfl
          generalize H1 = H at hP hS ⊢
          have hk := hk.tr hw_r13855.2.1
          have hd := hw_r13855.2.2
          refine lv_aload_n hx hb dX12_sum_48 rfl (lv_at hl 1 rfl) ?_
          refine lv_iload_n hx hb dX12_sum_49 rfl (lv_at hl 0 rfl) ?_
          refine lv_iconst (v := 0) hx hb dX12_sum_50 (by decide) ?_
          have t13863 : 0 ≤ (v 37).toInt ∧ (v 37).toInt ≤ 9 := by have h9 := hI.1 37 _ _ rfl; rw [show v13856 37 = v 37 from (hf13858 37 (by decide)).trans ((hf_lp13831 37 (by decide)).trans (hf13826 37 (by decide)))] at h9; exact h9
          have t13864 : 0 ≤ (v13856 38).toInt ∧ (v13856 38).toInt ≤ 120 := hI.1 38 _ _ rfl
          refine va_callv (va_runV (As := [.int r13845, .int 0]) (rest := []) ⟨hx, hb, hml, hown, hwd⟩ (c_X12_lay l dC dI g c adK adV v13856 F13857 rc H.size r13845 0 hg hI (by have h9 : v13856 38 = v13856 38 := rfl; rw [h9]; omega)) (cwV 2 hwd (gV wk_1021 wk_1018 wk_1019 wk_1020 wk_5) rfl rfl rfl (by decide +kernel) ⟨Nat.le_of_ble_eq_true rfl, Nat.le_of_ble_eq_true rfl⟩) ⟨PM.blind, va_recv hK hP (ci := 12) (q0 := 0) rfl rfl, fun U hU hW => ⟨rfl, PM.at hK hE hP hS hU hW⟩⟩ rfl rfl hl.1 rfl (lv_room (Nat.le_of_ble_eq_true rfl)) dX12_sum_51 ⟨Nat.le_of_ble_eq_true rfl, Nat.le_of_ble_eq_true rfl⟩) hS (fun q _ h => (freeM hS) q h) (freeM hS) (fun u t H1 locs ht hvm hw hB hz1 hk1 hS => ?_)
          unfold BM at hB
          rw [ht] at hB
          obtain ⟨v13866, F13867, rc9⟩ := u
          obtain ⟨hI, hrc, hf13868, hG13869, hw⟩ := hw
          dsimp only at hI hrc hB hf13868 hG13869 hw
          have hF := frCF (by decide) hG13869 hF
          rw [hrc] at hB
          have hP : va_P (dC, dI) classes (wM g c v13866 F13867 rc) H1 := hB
          have hw : (v13866 38).toInt = (v13856 38).toInt + 1 ∧ keepL (v13856 37) (F13857 28) (F13857 29) (F13867 28) (F13867 29) ∧ dp (F13867 28) (F13867 29) (bI (v13856 37)) ((v13856 38).toInt.toNat + 1) = dpS (dp (F13857 28) (F13857 29) (bI (v13856 37)) (v13856 38).toInt.toNat) r13845 (0 : Int32) := hw
          rw [show v13856 37 = v 37 from (hf13858 37 (by decide)).trans ((hf_lp13831 37 (by decide)).trans (hf13826 37 (by decide)))] at hw
          have hw_r13865 := hw
          have t13870 : 0 ≤ (v13866 38).toInt ∧ (v13866 38).toInt ≤ 120 := hI.1 38 _ _ rfl
          have k13871 : (0 : Int32).toInt = 0 := by decide
          generalize H1 = H at hP hS ⊢
          have hk := hk.tr hw_r13865.2.1
          have hd : (v13856 40).toInt < 0 → dp (F13867 28) (F13867 29) (bI (v 37)) (v13866 38).toInt.toNat = some (((d + 1) + 1) - 1) := fun hf => (by have e9 : (v13866 38).toInt.toNat = (v13856 38).toInt.toNat + 1 := (by omega); rw [e9, hw_r13865.2.2, hd hf]; exact dpS_5 (by omega) (by omega) (by omega) (by omega) (by omega))
          refine lv_goto (tgt := 4) hx hb dX12_sum_54 (by decide) ?_
          exact ih_lp13831  v13866 F13867 _ _ _ (by have h9 : v13866 39 = v13856 39 := hf13868 39 (by decide); (try rw [h9]); clear h9; have h9 : v13866 38 = v13866 38 := rfl; (try rw [h9]); clear h9; have h9 : v13866 41 = v13856 41 := hf13868 41 (by decide); (try rw [h9]); clear h9; have h9 : v13866 40 = v13856 40 := hf13868 40 (by decide); (try rw [h9]); clear h9; omega) hk (by have h9 : v13866 40 = v13856 40 := hf13868 40 (by decide); (try rw [h9]); clear h9; have h9 : v13866 38 = v13866 38 := rfl; (try rw [h9]); clear h9; exact fun hf => (hd (by omega)).trans (congrArg some (by omega))) (by have h9 : v13866 39 = v13856 39 := hf13868 39 (by decide); rw [h9]; omega) (frC (by decide) hf13868 (frC (by decide) hf13858 (frU (by decide) hf_lp13831))) hI hF hP hS (lv_sub hl [1] rfl)
        · skip
          have t13872 := cv_ne (a := r13840.toInt) rfl (b := 43) (by decide) c13841
          refine lv_aload_n hx hb dX12_sum_20 rfl (lv_at hl 0 rfl) ?_
          have t13873 : 0 ≤ (v 30).toInt ∧ (v 30).toInt ≤ 120 := by have h9 := hI.1 30 _ _ rfl; rw [show v_lp13831 30 = v 30 from (hf_lp13831 30 (by decide)).trans (hf13826 30 (by decide))] at h9; exact h9
          have t13874 : 0 ≤ (v_lp13831 39).toInt ∧ (v_lp13831 39).toInt ≤ 120 := hI.1 39 _ _ rfl
          refine va_calli (va_runV (As := []) (rest := []) ⟨hx, hb, hml, hown, hwd⟩ (c_X12_look l dC dI g c adK adV v_lp13831 F_lp13831 rc H.size  hg hI ) (cwV 0 hwd (gV wk_1017 wk_1014 wk_1015 wk_1016 wk_5) rfl rfl rfl (by decide +kernel) ⟨Nat.le_of_ble_eq_true rfl, Nat.le_of_ble_eq_true rfl⟩) ⟨PM.blind, va_recv hK hP (ci := 12) (q0 := 0) rfl rfl, fun U hU hW => ⟨rfl, PM.at hK hE hP hS hU hW⟩⟩ rfl rfl hl.1 rfl (lv_room (Nat.le_of_ble_eq_true rfl)) dX12_sum_21 ⟨Nat.le_of_ble_eq_true rfl, Nat.le_of_ble_eq_true rfl⟩) hS (fun q _ h => (freeM hS) q h) (freeM hS) (fun r13875 u t H1 locs ht hvm hw hB hz1 hk1 hS => ?_)
          unfold BM at hB
          rw [ht] at hB
          have hP : va_P (dC, dI) classes (wM g c v_lp13831 F_lp13831 rc) H1 := hB
          have hw : r13875.toInt = lkM (v_lp13831 39) (v_lp13831 30) (F_lp13831 24) ∧ ((v_lp13831 39).toInt < (v_lp13831 30).toInt ∨ r13875.toInt = -1) := hw
          rw [show v_lp13831 30 = v 30 from (hf_lp13831 30 (by decide)).trans (hf13826 30 (by decide))] at hw
          rw [hF 24 (by decide)] at hw
          have hw_r13875 := hw
          generalize H1 = H at hP hS ⊢
          refine lv_bipush (v := 45) hx hb dX12_sum_24 (by decide) ?_
          refine lv_icmp_ne (tgt := 57) hx hb dX12_sum_26 (by decide) (fun c13876 => ?_) (fun c13876 => ?_)
          · skip
            have t13877 := cv_ne (a := r13875.toInt) rfl (b := 45) (by decide) c13876
            have hP9 : va_P (dC, dI) classes (wM g c v_lp13831 F_lp13831 rc) H := hP
            exact W.vret hx hb hr (fun t ht hW => ⟨⟨(v_lp13831, F_lp13831, rc), rfl, ⟨hI, rfl, (frC (by decide) hf_lp13831 (frC (by decide) hf13826 (fun _ _ => rfl))), hF, (by show ((v 39).toInt ≤ (v_lp13831 39).toInt ∧ (v_lp13831 39).toInt ≤ (v 30).toInt ∧ (v 38).toInt ≤ (v_lp13831 38).toInt ∧ (v_lp13831 38).toInt - (v 38).toInt ≤ (v_lp13831 39).toInt - (v 39).toInt ∧ (v 41).toInt ≤ (v_lp13831 41).toInt ∧ ((v_lp13831 40).toInt < 0 → (v_lp13831 41).toInt = (v 41).toInt)) ∧ keepL (v 37) (F 28) (F 29) (F_lp13831 28) (F_lp13831 29) ∧ ((v_lp13831 40).toInt < 0 → dp (F_lp13831 28) (F_lp13831 29) (bI (v 37)) (v_lp13831 38).toInt.toNat = some (d + 1)); exact ⟨by omega, hk, fun hf => (hd (by omega)).trans (congrArg some (by omega))⟩)⟩, (by show va_P _ _ _ t.heap; rw [ht]; exact hP9)⟩, hS.F ht⟩) hS.2.2 dX12_sum_57
          · skip
            have t13878 := cv_eq (a := r13875.toInt) rfl (b := 45) (by decide) c13876
            refine lv_aload_n hx hb dX12_sum_29 rfl (lv_at hl 0 rfl) ?_
            have t13879 : 0 ≤ (v 30).toInt ∧ (v 30).toInt ≤ 120 := by have h9 := hI.1 30 _ _ rfl; rw [show v_lp13831 30 = v 30 from (hf_lp13831 30 (by decide)).trans (hf13826 30 (by decide))] at h9; exact h9
            have t13880 : 0 ≤ (v_lp13831 39).toInt ∧ (v_lp13831 39).toInt ≤ 120 := hI.1 39 _ _ rfl
            refine va_calli (va_runV (As := []) (rest := []) ⟨hx, hb, hml, hown, hwd⟩ (c_X12_look l dC dI g c adK adV v_lp13831 F_lp13831 rc H.size  hg hI ) (cwV 0 hwd (gV wk_1017 wk_1014 wk_1015 wk_1016 wk_5) rfl rfl rfl (by decide +kernel) ⟨Nat.le_of_ble_eq_true rfl, Nat.le_of_ble_eq_true rfl⟩) ⟨PM.blind, va_recv hK hP (ci := 12) (q0 := 0) rfl rfl, fun U hU hW => ⟨rfl, PM.at hK hE hP hS hU hW⟩⟩ rfl rfl hl.1 rfl (lv_room (Nat.le_of_ble_eq_true rfl)) dX12_sum_30 ⟨Nat.le_of_ble_eq_true rfl, Nat.le_of_ble_eq_true rfl⟩) hS (fun q _ h => (freeM hS) q h) (freeM hS) (fun r13881 u t H1 locs ht hvm hw hB hz1 hk1 hS => ?_)
            unfold BM at hB
            rw [ht] at hB
            have hP : va_P (dC, dI) classes (wM g c v_lp13831 F_lp13831 rc) H1 := hB
            have hw : r13881.toInt = lkM (v_lp13831 39) (v_lp13831 30) (F_lp13831 24) ∧ ((v_lp13831 39).toInt < (v_lp13831 30).toInt ∨ r13881.toInt = -1) := hw
            rw [show v_lp13831 30 = v 30 from (hf_lp13831 30 (by decide)).trans (hf13826 30 (by decide))] at hw
            rw [hF 24 (by decide)] at hw
            have hw_r13881 := hw
            generalize H1 = H at hP hS ⊢
            refine lv_istore_n (lv' := [(1, .int r13881), (0, .ref (g 0))]) hx hb dX12_sum_33 rfl hl (by decide) rfl (fun ls hl => ?_)
            refine lv_aload_n hx hb dX12_sum_34 rfl (lv_at hl 1 rfl) ?_
            refine lv_dup hx hb dX12_sum_35 rfl ?_
            refine va_get (D := (dC, dI)) (ci := 12) (v := .int (v_lp13831 39)) (C := RX12) (T := TX12) (N := 63) hx hb hwd inA_X12 hown hK hP 0 rfl rfl 39 (by decide) (hwd _ wk_1004) (fun _ h9 => h9) rfl dX12_sum_36 ?_
            have t13882 : 0 ≤ (v_lp13831 39).toInt ∧ (v_lp13831 39).toInt ≤ 120 := hI.1 39 _ _ rfl
            refine lv_iconst (v := 1) hx hb dX12_sum_39 (by decide) ?_
            refine lv_iadd hx hb dX12_sum_40 ?_
            refine lv_topi (fun z13883 e13884 => ?_)
            try (have t13885 := tadd e13884 (a := (v_lp13831 39).toInt) rfl (b := 1) (by decide) (by omega))
            refine va_put (D := (dC, dI)) (ci := 12) (v := .int z13883) (ty := .int) (C := RX12) (T := TX12) (N := 63) (fs := fsM_0 g v_lp13831 rc) hx hb hwd inA_X12 tyX12 tyX12_ok nmX12 hown hK hP (DM hg) hS 0 rfl rfl 39 (by decide) (hwd _ wk_1004) (fun _ h9 => h9) rfl (by decide +kernel) rfl rfl (Nat.le_of_ble_eq_true rfl) dX12_sum_41 (fun H locs hP _ hS => ?_)
            have hP := va_P_eq (pM_39 g c _ _ _ _) hP
            have hI := IM.put hI 39 z13883 rfl (by omega)
            refine lv_aload_n hx hb dX12_sum_44 rfl (lv_at hl 1 rfl) ?_
            have t13886 : 0 ≤ (v 30).toInt ∧ (v 30).toInt ≤ 120 := by have h9 := hI.1 30 _ _ rfl; rw [show (va_up v_lp13831 39 z13883) 30 = v 30 from (hf_lp13831 30 (by decide)).trans (hf13826 30 (by decide))] at h9; exact h9
            have t13887 : 0 ≤ (v 37).toInt ∧ (v 37).toInt ≤ 9 := by have h9 := hI.1 37 _ _ rfl; rw [show (va_up v_lp13831 39 z13883) 37 = v 37 from (hf_lp13831 37 (by decide)).trans (hf13826 37 (by decide))] at h9; exact h9
            have t13888 : 0 ≤ (v_lp13831 38).toInt ∧ (v_lp13831 38).toInt ≤ 120 := hI.1 38 _ _ rfl
            have t13889 : 0 ≤ z13883.toInt ∧ z13883.toInt ≤ 120 := hI.1 39 _ _ rfl
            have t13890 : 0 ≤ (v_lp13831 41).toInt ∧ (v_lp13831 41).toInt ≤ 8 := hI.1 41 _ _ rfl
            refine va_callv (va_runV (As := []) (rest := []) ⟨hx, hb, hml, hown, hwd⟩ (c_X12_product_6 l dC dI g c adK adV (va_up v_lp13831 39 z13883) F_lp13831 rc H.size  (d + 1) hg hI (by have h9 : (va_up v_lp13831 39 z13883) 38 = v_lp13831 38 := rfl; (try rw [h9]); clear h9; have h9 : (va_up v_lp13831 39 z13883) 39 = z13883 := rfl; (try rw [h9]); clear h9; have h9 : (va_up v_lp13831 39 z13883) 30 = v 30 := (hf_lp13831 30 (by decide)).trans (hf13826 30 (by decide)); (try rw [h9]); clear h9; have h9 : (va_up v_lp13831 39 z13883) 40 = v_lp13831 40 := rfl; (try rw [h9]); clear h9; have h9 : (va_up v_lp13831 39 z13883) 41 = v_lp13831 41 := rfl; (try rw [h9]); clear h9; omega) (by have h9 : (va_up v_lp13831 39 z13883) 37 = (v 37) := (hf_lp13831 37 (by decide)).trans (hf13826 37 (by decide)); have h8 : (va_up v_lp13831 39 z13883) 38 = (v_lp13831 38) := rfl; (try rw [h9]); (try rw [h8]); exact hd (by omega))) (cwV 0 hwd (gV wk_1042 wk_1044 wk_1045 wk_1046 wk_5) rfl rfl rfl (by decide +kernel) ⟨Nat.le_of_ble_eq_true rfl, Nat.le_of_ble_eq_true rfl⟩) ⟨PM.blind, va_recv hK hP (ci := 12) (q0 := 0) rfl rfl, fun U hU hW => ⟨rfl, PM.at hK hE hP hS hU hW⟩⟩ rfl rfl hl.1 rfl (lv_room (Nat.le_of_ble_eq_true rfl)) dX12_sum_45 ⟨Nat.le_of_ble_eq_true rfl, Nat.le_of_ble_eq_true rfl⟩) hS (fun q _ h => (freeM hS) q h) (freeM hS) (fun u t H1 locs ht hvm hw hB hz1 hk1 hS => ?_)
            unfold BM at hB
            rw [ht] at hB
            obtain ⟨v13892, F13893, rc9⟩ := u
            obtain ⟨hI, hrc, hf13894, hG13895, hw⟩ := hw
            dsimp only at hI hrc hB hf13894 hG13895 hw
            have hF := frCF (by decide) hG13895 hF
            rw [hrc] at hB
            have hP : va_P (dC, dI) classes (wM g c v13892 F13893 rc) H1 := hB
            have hw : (z13883.toInt ≤ (v13892 39).toInt ∧ (v13892 39).toInt ≤ ((va_up v_lp13831 39 z13883) 30).toInt ∧ (v_lp13831 38).toInt ≤ (v13892 38).toInt ∧ (v13892 38).toInt - (v_lp13831 38).toInt ≤ (v13892 39).toInt - z13883.toInt ∧ (v_lp13831 41).toInt ≤ (v13892 41).toInt ∧ ((v13892 40).toInt < 0 → (v13892 41).toInt = (v_lp13831 41).toInt)) ∧ keepL ((va_up v_lp13831 39 z13883) 37) (F_lp13831 28) (F_lp13831 29) (F13893 28) (F13893 29) ∧ ((v13892 40).toInt < 0 → dp (F13893 28) (F13893 29) (bI ((va_up v_lp13831 39 z13883) 37)) (v13892 38).toInt.toNat = some ((d + 1) + 1)) := hw
            rw [show (va_up v_lp13831 39 z13883) 30 = v 30 from (hf_lp13831 30 (by decide)).trans (hf13826 30 (by decide))] at hw
            rw [show (va_up v_lp13831 39 z13883) 37 = v 37 from (hf_lp13831 37 (by decide)).trans (hf13826 37 (by decide))] at hw
            have hw_r13891 := hw
            have t13896 : 0 ≤ (v13892 38).toInt ∧ (v13892 38).toInt ≤ 120 := hI.1 38 _ _ rfl
            have t13897 : 0 ≤ (v13892 39).toInt ∧ (v13892 39).toInt ≤ 120 := hI.1 39 _ _ rfl
            have t13898 : 0 ≤ (v13892 41).toInt ∧ (v13892 41).toInt ≤ 8 := hI.1 41 _ _ rfl
            generalize H1 = H at hP hS ⊢
            have hk := hk.tr hw_r13891.2.1
            have hd := hw_r13891.2.2
            refine lv_aload_n hx hb dX12_sum_48 rfl (lv_at hl 1 rfl) ?_
            refine lv_iload_n hx hb dX12_sum_49 rfl (lv_at hl 0 rfl) ?_
            refine lv_iconst (v := 0) hx hb dX12_sum_50 (by decide) ?_
            have t13899 : 0 ≤ (v 37).toInt ∧ (v 37).toInt ≤ 9 := by have h9 := hI.1 37 _ _ rfl; rw [show v13892 37 = v 37 from (hf13894 37 (by decide)).trans ((hf_lp13831 37 (by decide)).trans (hf13826 37 (by decide)))] at h9; exact h9
            have t13900 : 0 ≤ (v13892 38).toInt ∧ (v13892 38).toInt ≤ 120 := hI.1 38 _ _ rfl
            refine va_callv (va_runV (As := [.int r13881, .int 0]) (rest := []) ⟨hx, hb, hml, hown, hwd⟩ (c_X12_lay l dC dI g c adK adV v13892 F13893 rc H.size r13881 0 hg hI (by have h9 : v13892 38 = v13892 38 := rfl; rw [h9]; omega)) (cwV 2 hwd (gV wk_1021 wk_1018 wk_1019 wk_1020 wk_5) rfl rfl rfl (by decide +kernel) ⟨Nat.le_of_ble_eq_true rfl, Nat.le_of_ble_eq_true rfl⟩) ⟨PM.blind, va_recv hK hP (ci := 12) (q0 := 0) rfl rfl, fun U hU hW => ⟨rfl, PM.at hK hE hP hS hU hW⟩⟩ rfl rfl hl.1 rfl (lv_room (Nat.le_of_ble_eq_true rfl)) dX12_sum_51 ⟨Nat.le_of_ble_eq_true rfl, Nat.le_of_ble_eq_true rfl⟩) hS (fun q _ h => (freeM hS) q h) (freeM hS) (fun u t H1 locs ht hvm hw hB hz1 hk1 hS => ?_)
            unfold BM at hB
            rw [ht] at hB
            obtain ⟨v13902, F13903, rc9⟩ := u
            obtain ⟨hI, hrc, hf13904, hG13905, hw⟩ := hw
            dsimp only at hI hrc hB hf13904 hG13905 hw
            have hF := frCF (by decide) hG13905 hF
            rw [hrc] at hB
            have hP : va_P (dC, dI) classes (wM g c v13902 F13903 rc) H1 := hB
            have hw : (v13902 38).toInt = (v13892 38).toInt + 1 ∧ keepL (v13892 37) (F13893 28) (F13893 29) (F13903 28) (F13903 29) ∧ dp (F13903 28) (F13903 29) (bI (v13892 37)) ((v13892 38).toInt.toNat + 1) = dpS (dp (F13893 28) (F13893 29) (bI (v13892 37)) (v13892 38).toInt.toNat) r13881 (0 : Int32) := hw
            rw [show v13892 37 = v 37 from (hf13894 37 (by decide)).trans ((hf_lp13831 37 (by decide)).trans (hf13826 37 (by decide)))] at hw
            have hw_r13901 := hw
            have t13906 : 0 ≤ (v13902 38).toInt ∧ (v13902 38).toInt ≤ 120 := hI.1 38 _ _ rfl
            have k13907 : (0 : Int32).toInt = 0 := by decide
            generalize H1 = H at hP hS ⊢
            have hk := hk.tr hw_r13901.2.1
            have hd : (v13892 40).toInt < 0 → dp (F13903 28) (F13903 29) (bI (v 37)) (v13902 38).toInt.toNat = some (((d + 1) + 1) - 1) := fun hf => (by have e9 : (v13902 38).toInt.toNat = (v13892 38).toInt.toNat + 1 := (by omega); rw [e9, hw_r13901.2.2, hd hf]; exact dpS_5 (by omega) (by omega) (by omega) (by omega) (by omega))
            refine lv_goto (tgt := 4) hx hb dX12_sum_54 (by decide) ?_
            exact ih_lp13831  v13902 F13903 _ _ _ (by have h9 : v13902 39 = v13892 39 := hf13904 39 (by decide); (try rw [h9]); clear h9; have h9 : v13902 38 = v13902 38 := rfl; (try rw [h9]); clear h9; have h9 : v13902 41 = v13892 41 := hf13904 41 (by decide); (try rw [h9]); clear h9; have h9 : v13902 40 = v13892 40 := hf13904 40 (by decide); (try rw [h9]); clear h9; omega) hk (by have h9 : v13902 40 = v13892 40 := hf13904 40 (by decide); (try rw [h9]); clear h9; have h9 : v13902 38 = v13902 38 := rfl; (try rw [h9]); clear h9; exact fun hf => (hd (by omega)).trans (congrArg some (by omega))) (by have h9 : v13902 39 = v13892 39 := hf13904 39 (by decide); rw [h9]; omega) (frC (by decide) hf13904 (frC (by decide) hf13894 (frU (by decide) hf_lp13831))) hI hF hP hS (lv_sub hl [1] rfl)
  obtain ⟨n9, hn9⟩ : ∃ n : Nat, 121 - (v13824 39).toInt ≤ (n : Int) := ⟨((121 - (v13824 39).toInt : Int)).toNat, by omega⟩
  exact lp13831 n9  v13824 F13825 H _ ls (by have h9 : v13824 39 = v13824 39 := rfl; (try rw [h9]); clear h9; have h9 : v13824 38 = v13824 38 := rfl; (try rw [h9]); clear h9; have h9 : v13824 41 = v13824 41 := rfl; (try rw [h9]); clear h9; have h9 : v13824 40 = v13824 40 := rfl; (try rw [h9]); clear h9; omega) hk (by have h9 : v13824 40 = v13824 40 := rfl; (try rw [h9]); clear h9; have h9 : v13824 38 = v13824 38 := rfl; (try rw [h9]); clear h9; exact fun hf => (hd (by omega)).trans (congrArg some (by omega))) (by have h9 : v13824 39 = v13824 39 := rfl; rw [h9]; omega) (fun _ _ => rfl) hI hF hP hS hl
set_option maxHeartbeats 8000000 in
set_option maxRecDepth 100000 in
theorem c_X12_either_6 (l : Launch) (dC : Nat → ClassId) (dI : Nat → Nat → Nat) (g : Nat → Nat) (c : Nat → ClassId) (adK adV : Nat → Nat) (v : Nat → Int32) (F : Nat → Nat → Int32) (rc sz : Nat) (d : Nat) (hg : injM g) (hI : IM v F) (hq : (v 38).toInt ≤ (v 39).toInt ∧ (v 39).toInt ≤ (v 30).toInt ∧ (v 40).toInt < 0 ∧ (v 41).toInt = 6) (hdp : dp (F 28) (F 29) (bI (v 37)) (v 38).toInt.toNat = some d) : Met l yX12_either (Cond.code yX12_either cX12_either 2 none :: wA) ({ frames := 14, cells := 0, slots := 0, locals := 560 }) (va_Pc [.ref (g 0)] (PM dC dI g c adK adV v F rc sz)) (va_Qv (fun (u : StM) => IM u.1 u.2.1 ∧ u.2.2 = rc ∧ (∀ k, k ∉ ([38, 39, 40, 41, 42] : List Nat) → u.1 k = v k) ∧ (∀ k, k ∉ ([28, 29] : List Nat) → u.2.1 k = F k) ∧ (((v 39).toInt ≤ (u.1 39).toInt ∧ (u.1 39).toInt ≤ (v 30).toInt ∧ (v 38).toInt ≤ (u.1 38).toInt ∧ (u.1 38).toInt - (v 38).toInt ≤ (u.1 39).toInt - (v 39).toInt ∧ (v 41).toInt ≤ (u.1 41).toInt ∧ ((u.1 40).toInt < 0 → (u.1 41).toInt = (v 41).toInt)) ∧ keepL (v 37) (F 28) (F 29) (u.2.1 28) (u.2.1 29) ∧ ((u.1 40).toInt < 0 → dp (u.2.1 28) (u.2.1 29) (bI (v 37)) (u.1 38).toInt.toNat = some (d + 1)))) (BM dC dI g c) (AM g sz)) 0 0 (AM g sz) := by
  refine Met.ofW (cc := cX12_either) (maxL := 2) (ret := none) (by decide) rfl ?_
  intro p e s m args below meth c0 s₁ B hml hv
  obtain ⟨rfl, hsz, hP, hK, hE⟩ := hv
  have hx := B.exec
  have hb := B.bytes
  have hr := B.returns
  have hts := atoms_spec (ws := Cond.code yX12_either cX12_either 2 none :: wA) B.pre
  have hwd : ∀ w ∈ wA, w.before _ s = true := fun w h => hts w (List.mem_cons_of_mem _ h)
  have hown : s.vm.findClass RX12 = some m.cls := findClass_of_methodNamed B.named
  have hlocks := B.notSynchronized
  subst hsz
  have hl := lv_entry ([.ref (g 0)]) (n := 2) (Nat.le_of_ble_eq_true rfl)
  rw [lg_entry_eq]
  generalize (lg_sl ([.ref (g 0)]) ++ List.replicate (2 - (lg_sl ([.ref (g 0)])).length) Slot.unset).toArray = ls at hl ⊢
  have hl : lv_has ls 2 [(0, .ref (g 0))] := hl
  obtain ⟨H, eH⟩ : ∃ z, z = s.heap := ⟨_, rfl⟩
  have hP : va_P (dC, dI) classes (wM g c v F rc) H := by rw [eH]; exact hP
  have hS : va_S (AM g s.heap.size) s.heap H [] := by rw [eH]; exact va_S.rf
  refine my_heap eH ?_
  have hF : ∀ k, k ∉ ([28, 29] : List Nat) → F k = F k := fun _ _ => rfl
  have hb30 : 0 ≤ (v 30).toInt ∧ (v 30).toInt ≤ 120 := hI.1 30 _ _ rfl
  have hb37 : 0 ≤ (v 37).toInt ∧ (v 37).toInt ≤ 9 := hI.1 37 _ _ rfl
  have hb38 : 0 ≤ (v 38).toInt ∧ (v 38).toInt ≤ 120 := hI.1 38 _ _ rfl
  have hb39 : 0 ≤ (v 39).toInt ∧ (v 39).toInt ≤ 120 := hI.1 39 _ _ rfl
  have hb41 : 0 ≤ (v 41).toInt ∧ (v 41).toInt ≤ 8 := hI.1 41 _ _ rfl
  have hk : keepL (v 37) (F 28) (F 29) (F 28) (F 29) := keepL.rf
  have hd : (v 40).toInt < 0 → dp (F 28) (F 29) (bI (v 37)) (v 38).toInt.toNat = some d := fun _ => hdp
  refine lv_aload_n hx hb dX12_either_0 rfl (lv_at hl 0 rfl) ?_
  have t14409 : 0 ≤ (v 30).toInt ∧ (v 30).toInt ≤ 120 := hI.1 30 _ _ rfl
  have t14410 : 0 ≤ (v 37).toInt ∧ (v 37).toInt ≤ 9 := hI.1 37 _ _ rfl
  have t14411 : 0 ≤ (v 38).toInt ∧ (v 38).toInt ≤ 120 := hI.1 38 _ _ rfl
  have t14412 : 0 ≤ (v 39).toInt ∧ (v 39).toInt ≤ 120 := hI.1 39 _ _ rfl
  have t14413 : 0 ≤ (v 41).toInt ∧ (v 41).toInt ≤ 8 := hI.1 41 _ _ rfl
  refine va_callv (va_runV (As := []) (rest := []) ⟨hx, hb, hml, hown, hwd⟩ (c_X12_sum_6 l dC dI g c adK adV v F rc H.size  d hg hI (by have h9 : v 38 = v 38 := rfl; (try rw [h9]); clear h9; have h9 : v 39 = v 39 := rfl; (try rw [h9]); clear h9; have h9 : v 30 = v 30 := rfl; (try rw [h9]); clear h9; have h9 : v 40 = v 40 := rfl; (try rw [h9]); clear h9; have h9 : v 41 = v 41 := rfl; (try rw [h9]); clear h9; omega) (by have h9 : v 37 = (v 37) := rfl; have h8 : v 38 = (v 38) := rfl; (try rw [h9]); (try rw [h8]); exact hd (by omega))) (cwV 0 hwd (gV wk_1043 wk_1011 wk_1012 wk_1013 wk_5) rfl rfl rfl (by decide +kernel) ⟨Nat.le_of_ble_eq_true rfl, Nat.le_of_ble_eq_true rfl⟩) ⟨PM.blind, va_recv hK hP (ci := 12) (q0 := 0) rfl rfl, fun U hU hW => ⟨rfl, PM.at hK hE hP hS hU hW⟩⟩ rfl rfl hl.1 rfl (lv_room (Nat.le_of_ble_eq_true rfl)) dX12_either_1 ⟨Nat.le_of_ble_eq_true rfl, Nat.le_of_ble_eq_true rfl⟩) hS (fun q _ h => (freeM hS) q h) (freeM hS) (fun u t H1 locs ht hvm hw hB hz1 hk1 hS => ?_)
  unfold BM at hB
  rw [ht] at hB
  obtain ⟨v14415, F14416, rc9⟩ := u
  obtain ⟨hI, hrc, hf14417, hG14418, hw⟩ := hw
  dsimp only at hI hrc hB hf14417 hG14418 hw
  have hF := frCF (by decide) hG14418 hF
  rw [hrc] at hB
  have hP : va_P (dC, dI) classes (wM g c v14415 F14416 rc) H1 := hB
  have hw : ((v 39).toInt ≤ (v14415 39).toInt ∧ (v14415 39).toInt ≤ (v 30).toInt ∧ (v 38).toInt ≤ (v14415 38).toInt ∧ (v14415 38).toInt - (v 38).toInt ≤ (v14415 39).toInt - (v 39).toInt ∧ (v 41).toInt ≤ (v14415 41).toInt ∧ ((v14415 40).toInt < 0 → (v14415 41).toInt = (v 41).toInt)) ∧ keepL (v 37) (F 28) (F 29) (F14416 28) (F14416 29) ∧ ((v14415 40).toInt < 0 → dp (F14416 28) (F14416 29) (bI (v 37)) (v14415 38).toInt.toNat = some (d + 1)) := hw
  have hw_r14414 := hw
  have t14419 : 0 ≤ (v14415 38).toInt ∧ (v14415 38).toInt ≤ 120 := hI.1 38 _ _ rfl
  have t14420 : 0 ≤ (v14415 39).toInt ∧ (v14415 39).toInt ≤ 120 := hI.1 39 _ _ rfl
  have t14421 : 0 ≤ (v14415 41).toInt ∧ (v14415 41).toInt ≤ 8 := hI.1 41 _ _ rfl
  generalize H1 = H at hP hS ⊢
  have hk := hk.tr hw_r14414.2.1
  have hd := hw_r14414.2.2
  refine lv_aload_n hx hb dX12_either_4 rfl (lv_at hl 0 rfl) ?_
  have t14422 : 0 ≤ (v 30).toInt ∧ (v 30).toInt ≤ 120 := by have h9 := hI.1 30 _ _ rfl; rw [show v14415 30 = v 30 from hf14417 30 (by decide)] at h9; exact h9
  have t14423 : 0 ≤ (v14415 39).toInt ∧ (v14415 39).toInt ≤ 120 := hI.1 39 _ _ rfl
  refine va_calli (va_runV (As := []) (rest := []) ⟨hx, hb, hml, hown, hwd⟩ (c_X12_look l dC dI g c adK adV v14415 F14416 rc H.size  hg hI ) (cwV 0 hwd (gV wk_1017 wk_1014 wk_1015 wk_1016 wk_5) rfl rfl rfl (by decide +kernel) ⟨Nat.le_of_ble_eq_true rfl, Nat.le_of_ble_eq_true rfl⟩) ⟨PM.blind, va_recv hK hP (ci := 12) (q0 := 0) rfl rfl, fun U hU hW => ⟨rfl, PM.at hK hE hP hS hU hW⟩⟩ rfl rfl hl.1 rfl (lv_room (Nat.le_of_ble_eq_true rfl)) dX12_either_5 ⟨Nat.le_of_ble_eq_true rfl, Nat.le_of_ble_eq_true rfl⟩) hS (fun q _ h => (freeM hS) q h) (freeM hS) (fun r14424 u t H1 locs ht hvm hw hB hz1 hk1 hS => ?_)
  unfold BM at hB
  rw [ht] at hB
  have hP : va_P (dC, dI) classes (wM g c v14415 F14416 rc) H1 := hB
  have hw : r14424.toInt = lkM (v14415 39) (v14415 30) (F14416 24) ∧ ((v14415 39).toInt < (v14415 30).toInt ∨ r14424.toInt = -1) := hw
  rw [show v14415 30 = v 30 from hf14417 30 (by decide)] at hw
  rw [hF 24 (by decide)] at hw
  have hw_r14424 := hw
  generalize H1 = H at hP hS ⊢
  refine lv_istore_n (lv' := [(1, .int r14424), (0, .ref (g 0))]) hx hb dX12_either_8 rfl hl (by decide) rfl (fun ls hl => ?_)
  refine lv_aload_n hx hb dX12_either_9 rfl (lv_at hl 1 rfl) ?_
  refine va_get (D := (dC, dI)) (ci := 12) (v := .int (v14415 40)) (C := RX12) (T := TX12) (N := 63) hx hb hwd inA_X12 hown hK hP 0 rfl rfl 40 (by decide) (hwd _ wk_1005) (fun _ h9 => h9) rfl dX12_either_10 ?_
  refine lv_if_ge (tgt := 54) hx hb dX12_either_13 (by decide) (fun c14425 => ?_) (fun c14425 => ?_)
  · skip
    have t14426 := cv_le (a := 0) (by decide) (b := (v14415 40).toInt) rfl c14425
    refine lv_aload_n hx hb dX12_either_54 rfl (lv_at hl 1 rfl) ?_
    refine va_get (D := (dC, dI)) (ci := 12) (v := .int (v14415 40)) (C := RX12) (T := TX12) (N := 63) hx hb hwd inA_X12 hown hK hP 0 rfl rfl 40 (by decide) (hwd _ wk_1005) (fun _ h9 => h9) rfl dX12_either_55 ?_
    refine lv_if_ge (tgt := 70) hx hb dX12_either_58 (by decide) (fun c14427 => ?_) (fun c14427 => ?_)
    · skip
      have t14428 := cv_le (a := 0) (by decide) (b := (v14415 40).toInt) rfl c14427
      have hP9 : va_P (dC, dI) classes (wM g c v14415 F14416 rc) H := hP
      exact W.vret hx hb hr (fun t ht hW => ⟨⟨(v14415, F14416, rc), rfl, ⟨hI, rfl, (frC (by decide) hf14417 (fun _ _ => rfl)), hF, (by show ((v 39).toInt ≤ (v14415 39).toInt ∧ (v14415 39).toInt ≤ (v 30).toInt ∧ (v 38).toInt ≤ (v14415 38).toInt ∧ (v14415 38).toInt - (v 38).toInt ≤ (v14415 39).toInt - (v 39).toInt ∧ (v 41).toInt ≤ (v14415 41).toInt ∧ ((v14415 40).toInt < 0 → (v14415 41).toInt = (v 41).toInt)) ∧ keepL (v 37) (F 28) (F 29) (F14416 28) (F14416 29) ∧ ((v14415 40).toInt < 0 → dp (F14416 28) (F14416 29) (bI (v 37)) (v14415 38).toInt.toNat = some (d + 1)); exact ⟨by omega, hk, fun hf => (hd (by omega)).trans (congrArg some (by omega))⟩)⟩, (by show va_P _ _ _ t.heap; rw [ht]; exact hP9)⟩, hS.F ht⟩) hS.2.2 dX12_either_70
    · skip
      have t14429 := cv_nle (a := 0) (by decide) (b := (v14415 40).toInt) rfl c14427
      refine lv_aload_n hx hb dX12_either_61 rfl (lv_at hl 1 rfl) ?_
      have t14430 : 0 ≤ (v 30).toInt ∧ (v 30).toInt ≤ 120 := by have h9 := hI.1 30 _ _ rfl; rw [show v14415 30 = v 30 from hf14417 30 (by decide)] at h9; exact h9
      have t14431 : 0 ≤ (v14415 39).toInt ∧ (v14415 39).toInt ≤ 120 := hI.1 39 _ _ rfl
      refine va_calli (va_runV (As := []) (rest := []) ⟨hx, hb, hml, hown, hwd⟩ (c_X12_look l dC dI g c adK adV v14415 F14416 rc H.size  hg hI ) (cwV 0 hwd (gV wk_1017 wk_1014 wk_1015 wk_1016 wk_5) rfl rfl rfl (by decide +kernel) ⟨Nat.le_of_ble_eq_true rfl, Nat.le_of_ble_eq_true rfl⟩) ⟨PM.blind, va_recv hK hP (ci := 12) (q0 := 0) rfl rfl, fun U hU hW => ⟨rfl, PM.at hK hE hP hS hU hW⟩⟩ rfl rfl hl.1 rfl (lv_room (Nat.le_of_ble_eq_true rfl)) dX12_either_62 ⟨Nat.le_of_ble_eq_true rfl, Nat.le_of_ble_eq_true rfl⟩) hS (fun q _ h => (freeM hS) q h) (freeM hS) (fun r14432 u t H1 locs ht hvm hw hB hz1 hk1 hS => ?_)
      unfold BM at hB
      rw [ht] at hB
      have hP : va_P (dC, dI) classes (wM g c v14415 F14416 rc) H1 := hB
      have hw : r14432.toInt = lkM (v14415 39) (v14415 30) (F14416 24) ∧ ((v14415 39).toInt < (v14415 30).toInt ∨ r14432.toInt = -1) := hw
      rw [show v14415 30 = v 30 from hf14417 30 (by decide)] at hw
      rw [hF 24 (by decide)] at hw
      have hw_r14432 := hw
      generalize H1 = H at hP hS ⊢
      refine lv_bipush (v := 63) hx hb dX12_either_65 (by decide) ?_
      refine lv_icmp_eq (tgt := 71) hx hb dX12_either_67 (by decide) (fun c14433 => ?_) (fun c14433 => ?_)
      · skip
        have t14434 := cv_eq (a := r14432.toInt) rfl (b := 63) (by decide) c14433
        refine lv_aload_n hx hb dX12_either_71 rfl (lv_at hl 1 rfl) ?_
        have t14435 : 0 ≤ (v14415 39).toInt ∧ (v14415 39).toInt ≤ 120 := hI.1 39 _ _ rfl
        have t14436 : 0 ≤ (v14415 41).toInt ∧ (v14415 41).toInt ≤ 8 := hI.1 41 _ _ rfl
        refine va_calli (va_runV (As := []) (rest := []) ⟨hx, hb, hml, hown, hwd⟩ (c_X12_opens l dC dI g c adK adV v14415 F14416 rc H.size  hg hI (by have h9 : v14415 39 = v14415 39 := rfl; (try rw [h9]); clear h9; have h9 : v14415 30 = v 30 := hf14417 30 (by decide); (try rw [h9]); clear h9; omega)) (cwV 0 hwd (gV wk_1025 wk_1022 wk_1023 wk_1024 wk_5) rfl rfl rfl (by decide +kernel) ⟨Nat.le_of_ble_eq_true rfl, Nat.le_of_ble_eq_true rfl⟩) ⟨PM.blind, va_recv hK hP (ci := 12) (q0 := 0) rfl rfl, fun U hU hW => ⟨rfl, PM.at hK hE hP hS hU hW⟩⟩ rfl rfl hl.1 rfl (lv_room (Nat.le_of_ble_eq_true rfl)) dX12_either_72 ⟨Nat.le_of_ble_eq_true rfl, Nat.le_of_ble_eq_true rfl⟩) hS (fun q _ h => (freeM hS) q h) (freeM hS) (fun r14437 u t H1 locs ht hvm hw hB hz1 hk1 hS => ?_)
        unfold BM at hB
        rw [ht] at hB
        obtain ⟨v14438, F14439, rc9⟩ := u
        obtain ⟨hI, hrc, hf14440, hG14441, hw⟩ := hw
        dsimp only at hI hrc hB hf14440 hG14441 hw
        have hF := frCF (by decide) hG14441 hF
        rw [hrc] at hB
        have hP : va_P (dC, dI) classes (wM g c v14438 F14439 rc) H1 := hB
        have hw : (r14437.toInt = 1 ∧ (v14415 41).toInt < 8 ∧ (v14438 41).toInt = (v14415 41).toInt + 1 ∧ (v14438 39).toInt = (v14415 39).toInt + 1 ∧ (v14438 40).toInt = (v14415 40).toInt) ∨ (r14437.toInt = 0 ∧ (v14415 41).toInt = 8 ∧ 0 ≤ (v14438 40).toInt ∧ (v14438 41).toInt = (v14415 41).toInt ∧ (v14438 39).toInt = (v14415 39).toInt) := hw
        have hw_r14437 := hw
        have t14442 : 0 ≤ (v14438 39).toInt ∧ (v14438 39).toInt ≤ 120 := hI.1 39 _ _ rfl
        have t14443 : 0 ≤ (v14438 41).toInt ∧ (v14438 41).toInt ≤ 8 := hI.1 41 _ _ rfl
        generalize H1 = H at hP hS ⊢
        have hk : keepL (v 37) (F 28) (F 29) (F14439 28) (F14439 29) := by rw [hG14441 28 (by decide), hG14441 29 (by decide)]; exact hk
        have hd : (v14438 40).toInt < 0 → dp (F14439 28) (F14439 29) (bI (v 37)) (v14415 38).toInt.toNat = some (d + 1) := fun hf => (by rw [hG14441 28 (by decide), hG14441 29 (by decide)]; exact hd (by omega))
        refine lv_if_ne (tgt := 79) hx hb dX12_either_75 (by decide) (fun c14444 => ?_) (fun c14444 => ?_)
        · skip
          have t14445 := cv_ne (a := r14437.toInt) rfl (b := 0) (by decide) c14444
          refine lv_aload_n hx hb dX12_either_79 rfl (lv_at hl 1 rfl) ?_
          have t14446 : 0 ≤ (v 30).toInt ∧ (v 30).toInt ≤ 120 := by have h9 := hI.1 30 _ _ rfl; rw [show v14438 30 = v 30 from (hf14440 30 (by decide)).trans (hf14417 30 (by decide))] at h9; exact h9
          have t14447 : 0 ≤ (v 37).toInt ∧ (v 37).toInt ≤ 9 := by have h9 := hI.1 37 _ _ rfl; rw [show v14438 37 = v 37 from (hf14440 37 (by decide)).trans (hf14417 37 (by decide))] at h9; exact h9
          have t14448 : 0 ≤ (v14415 38).toInt ∧ (v14415 38).toInt ≤ 120 := by have h9 := hI.1 38 _ _ rfl; rw [show v14438 38 = v14415 38 from hf14440 38 (by decide)] at h9; exact h9
          have t14449 : 0 ≤ (v14438 39).toInt ∧ (v14438 39).toInt ≤ 120 := hI.1 39 _ _ rfl
          have t14450 : 0 ≤ (v14438 41).toInt ∧ (v14438 41).toInt ≤ 8 := hI.1 41 _ _ rfl
          refine va_callv (va_runV (As := []) (rest := []) ⟨hx, hb, hml, hown, hwd⟩ (c_X12_either_7 l dC dI g c adK adV v14438 F14439 rc H.size  (d + 1) hg hI (by have h9 : v14438 38 = v14415 38 := hf14440 38 (by decide); (try rw [h9]); clear h9; have h9 : v14438 39 = v14438 39 := rfl; (try rw [h9]); clear h9; have h9 : v14438 30 = v 30 := (hf14440 30 (by decide)).trans (hf14417 30 (by decide)); (try rw [h9]); clear h9; have h9 : v14438 40 = v14438 40 := rfl; (try rw [h9]); clear h9; have h9 : v14438 41 = v14438 41 := rfl; (try rw [h9]); clear h9; omega) (by have h9 : v14438 37 = (v 37) := (hf14440 37 (by decide)).trans (hf14417 37 (by decide)); have h8 : v14438 38 = (v14415 38) := hf14440 38 (by decide); (try rw [h9]); (try rw [h8]); exact hd (by omega))) (cwV 0 hwd (gV wk_1010 wk_1007 wk_1008 wk_1009 wk_5) rfl rfl rfl (by decide +kernel) ⟨Nat.le_of_ble_eq_true rfl, Nat.le_of_ble_eq_true rfl⟩) ⟨PM.blind, va_recv hK hP (ci := 12) (q0 := 0) rfl rfl, fun U hU hW => ⟨rfl, PM.at hK hE hP hS hU hW⟩⟩ rfl rfl hl.1 rfl (lv_room (Nat.le_of_ble_eq_true rfl)) dX12_either_80 ⟨Nat.le_of_ble_eq_true rfl, Nat.le_of_ble_eq_true rfl⟩) hS (fun q _ h => (freeM hS) q h) (freeM hS) (fun u t H1 locs ht hvm hw hB hz1 hk1 hS => ?_)
          unfold BM at hB
          rw [ht] at hB
          obtain ⟨v14452, F14453, rc9⟩ := u
          obtain ⟨hI, hrc, hf14454, hG14455, hw⟩ := hw
          dsimp only at hI hrc hB hf14454 hG14455 hw
          have hF := frCF (by decide) hG14455 hF
          rw [hrc] at hB
          have hP : va_P (dC, dI) classes (wM g c v14452 F14453 rc) H1 := hB
          have hw : ((v14438 39).toInt ≤ (v14452 39).toInt ∧ (v14452 39).toInt ≤ (v14438 30).toInt ∧ (v14438 38).toInt ≤ (v14452 38).toInt ∧ (v14452 38).toInt - (v14438 38).toInt ≤ (v14452 39).toInt - (v14438 39).toInt ∧ (v14438 41).toInt ≤ (v14452 41).toInt ∧ ((v14452 40).toInt < 0 → (v14452 41).toInt = (v14438 41).toInt)) ∧ keepL (v14438 37) (F14439 28) (F14439 29) (F14453 28) (F14453 29) ∧ ((v14452 40).toInt < 0 → dp (F14453 28) (F14453 29) (bI (v14438 37)) (v14452 38).toInt.toNat = some ((d + 1) + 1)) := hw
          rw [show v14438 30 = v 30 from (hf14440 30 (by decide)).trans (hf14417 30 (by decide))] at hw
          rw [show v14438 38 = v14415 38 from hf14440 38 (by decide)] at hw
          rw [show v14438 37 = v 37 from (hf14440 37 (by decide)).trans (hf14417 37 (by decide))] at hw
          have hw_r14451 := hw
          have t14456 : 0 ≤ (v14452 38).toInt ∧ (v14452 38).toInt ≤ 120 := hI.1 38 _ _ rfl
          have t14457 : 0 ≤ (v14452 39).toInt ∧ (v14452 39).toInt ≤ 120 := hI.1 39 _ _ rfl
          have t14458 : 0 ≤ (v14452 41).toInt ∧ (v14452 41).toInt ≤ 8 := hI.1 41 _ _ rfl
          generalize H1 = H at hP hS ⊢
          have hk := hk.tr hw_r14451.2.1
          have hd := hw_r14451.2.2
          refine lv_aload_n hx hb dX12_either_83 rfl (lv_at hl 1 rfl) ?_
          refine va_get (D := (dC, dI)) (ci := 12) (v := .int (v14452 40)) (C := RX12) (T := TX12) (N := 63) hx hb hwd inA_X12 hown hK hP 0 rfl rfl 40 (by decide) (hwd _ wk_1005) (fun _ h9 => h9) rfl dX12_either_84 ?_
          refine lv_if_lt (tgt := 91) hx hb dX12_either_87 (by decide) (fun c14459 => ?_) (fun c14459 => ?_)
          · skip
            have t14460 := cv_lt (a := (v14452 40).toInt) rfl (b := 0) (by decide) c14459
            refine lv_aload_n hx hb dX12_either_91 rfl (lv_at hl 1 rfl) ?_
            have t14461 : 0 ≤ (v 30).toInt ∧ (v 30).toInt ≤ 120 := by have h9 := hI.1 30 _ _ rfl; rw [show v14452 30 = v 30 from (hf14454 30 (by decide)).trans ((hf14440 30 (by decide)).trans (hf14417 30 (by decide)))] at h9; exact h9
            have t14462 : 0 ≤ (v14452 39).toInt ∧ (v14452 39).toInt ≤ 120 := hI.1 39 _ _ rfl
            refine va_calli (va_runV (As := []) (rest := []) ⟨hx, hb, hml, hown, hwd⟩ (c_X12_look l dC dI g c adK adV v14452 F14453 rc H.size  hg hI ) (cwV 0 hwd (gV wk_1017 wk_1014 wk_1015 wk_1016 wk_5) rfl rfl rfl (by decide +kernel) ⟨Nat.le_of_ble_eq_true rfl, Nat.le_of_ble_eq_true rfl⟩) ⟨PM.blind, va_recv hK hP (ci := 12) (q0 := 0) rfl rfl, fun U hU hW => ⟨rfl, PM.at hK hE hP hS hU hW⟩⟩ rfl rfl hl.1 rfl (lv_room (Nat.le_of_ble_eq_true rfl)) dX12_either_92 ⟨Nat.le_of_ble_eq_true rfl, Nat.le_of_ble_eq_true rfl⟩) hS (fun q _ h => (freeM hS) q h) (freeM hS) (fun r14463 u t H1 locs ht hvm hw hB hz1 hk1 hS => ?_)
            unfold BM at hB
            rw [ht] at hB
            have hP : va_P (dC, dI) classes (wM g c v14452 F14453 rc) H1 := hB
            have hw : r14463.toInt = lkM (v14452 39) (v14452 30) (F14453 24) ∧ ((v14452 39).toInt < (v14452 30).toInt ∨ r14463.toInt = -1) := hw
            rw [show v14452 30 = v 30 from (hf14454 30 (by decide)).trans ((hf14440 30 (by decide)).trans (hf14417 30 (by decide)))] at hw
            rw [hF 24 (by decide)] at hw
            have hw_r14463 := hw
            generalize H1 = H at hP hS ⊢
            refine lv_bipush (v := 58) hx hb dX12_either_95 (by decide) ?_
            refine lv_icmp_eq (tgt := 105) hx hb dX12_either_97 (by decide) (fun c14464 => ?_) (fun c14464 => ?_)
            · skip
              have t14465 := cv_eq (a := r14463.toInt) rfl (b := 58) (by decide) c14464
              refine lv_aload_n hx hb dX12_either_105 rfl (lv_at hl 1 rfl) ?_
              refine lv_dup hx hb dX12_either_106 rfl ?_
              refine va_get (D := (dC, dI)) (ci := 12) (v := .int (v14452 39)) (C := RX12) (T := TX12) (N := 63) hx hb hwd inA_X12 hown hK hP 0 rfl rfl 39 (by decide) (hwd _ wk_1004) (fun _ h9 => h9) rfl dX12_either_107 ?_
              have t14466 : 0 ≤ (v14452 39).toInt ∧ (v14452 39).toInt ≤ 120 := hI.1 39 _ _ rfl
              refine lv_iconst (v := 1) hx hb dX12_either_110 (by decide) ?_
              refine lv_iadd hx hb dX12_either_111 ?_
              refine lv_topi (fun z14467 e14468 => ?_)
              try (have t14469 := tadd e14468 (a := (v14452 39).toInt) rfl (b := 1) (by decide) (by omega))
              refine va_put (D := (dC, dI)) (ci := 12) (v := .int z14467) (ty := .int) (C := RX12) (T := TX12) (N := 63) (fs := fsM_0 g v14452 rc) hx hb hwd inA_X12 tyX12 tyX12_ok nmX12 hown hK hP (DM hg) hS 0 rfl rfl 39 (by decide) (hwd _ wk_1004) (fun _ h9 => h9) rfl (by decide +kernel) rfl rfl (Nat.le_of_ble_eq_true rfl) dX12_either_112 (fun H locs hP _ hS => ?_)
              have hP := va_P_eq (pM_39 g c _ _ _ _) hP
              have hI := IM.put hI 39 z14467 rfl (by omega)
              refine lv_aload_n hx hb dX12_either_115 rfl (lv_at hl 1 rfl) ?_
              have t14470 : 0 ≤ (v 30).toInt ∧ (v 30).toInt ≤ 120 := by have h9 := hI.1 30 _ _ rfl; rw [show (va_up v14452 39 z14467) 30 = v 30 from (hf14454 30 (by decide)).trans ((hf14440 30 (by decide)).trans (hf14417 30 (by decide)))] at h9; exact h9
              have t14471 : 0 ≤ (v 37).toInt ∧ (v 37).toInt ≤ 9 := by have h9 := hI.1 37 _ _ rfl; rw [show (va_up v14452 39 z14467) 37 = v 37 from (hf14454 37 (by decide)).trans ((hf14440 37 (by decide)).trans (hf14417 37 (by decide)))] at h9; exact h9
              have t14472 : 0 ≤ (v14452 38).toInt ∧ (v14452 38).toInt ≤ 120 := hI.1 38 _ _ rfl
              have t14473 : 0 ≤ z14467.toInt ∧ z14467.toInt ≤ 120 := hI.1 39 _ _ rfl
              have t14474 : 0 ≤ (v14452 41).toInt ∧ (v14452 41).toInt ≤ 8 := hI.1 41 _ _ rfl
              refine va_callv (va_runV (As := []) (rest := []) ⟨hx, hb, hml, hown, hwd⟩ (c_X12_either_7 l dC dI g c adK adV (va_up v14452 39 z14467) F14453 rc H.size  ((d + 1) + 1) hg hI (by have h9 : (va_up v14452 39 z14467) 38 = v14452 38 := rfl; (try rw [h9]); clear h9; have h9 : (va_up v14452 39 z14467) 39 = z14467 := rfl; (try rw [h9]); clear h9; have h9 : (va_up v14452 39 z14467) 30 = v 30 := (hf14454 30 (by decide)).trans ((hf14440 30 (by decide)).trans (hf14417 30 (by decide))); (try rw [h9]); clear h9; have h9 : (va_up v14452 39 z14467) 40 = v14452 40 := rfl; (try rw [h9]); clear h9; have h9 : (va_up v14452 39 z14467) 41 = v14452 41 := rfl; (try rw [h9]); clear h9; omega) (by have h9 : (va_up v14452 39 z14467) 37 = (v 37) := (hf14454 37 (by decide)).trans ((hf14440 37 (by decide)).trans (hf14417 37 (by decide))); have h8 : (va_up v14452 39 z14467) 38 = (v14452 38) := rfl; (try rw [h9]); (try rw [h8]); exact hd (by omega))) (cwV 0 hwd (gV wk_1010 wk_1007 wk_1008 wk_1009 wk_5) rfl rfl rfl (by decide +kernel) ⟨Nat.le_of_ble_eq_true rfl, Nat.le_of_ble_eq_true rfl⟩) ⟨PM.blind, va_recv hK hP (ci := 12) (q0 := 0) rfl rfl, fun U hU hW => ⟨rfl, PM.at hK hE hP hS hU hW⟩⟩ rfl rfl hl.1 rfl (lv_room (Nat.le_of_ble_eq_true rfl)) dX12_either_116 ⟨Nat.le_of_ble_eq_true rfl, Nat.le_of_ble_eq_true rfl⟩) hS (fun q _ h => (freeM hS) q h) (freeM hS) (fun u t H1 locs ht hvm hw hB hz1 hk1 hS => ?_)
              unfold BM at hB
              rw [ht] at hB
              obtain ⟨v14476, F14477, rc9⟩ := u
              obtain ⟨hI, hrc, hf14478, hG14479, hw⟩ := hw
              dsimp only at hI hrc hB hf14478 hG14479 hw
              have hF := frCF (by decide) hG14479 hF
              rw [hrc] at hB
              have hP : va_P (dC, dI) classes (wM g c v14476 F14477 rc) H1 := hB
              have hw : (z14467.toInt ≤ (v14476 39).toInt ∧ (v14476 39).toInt ≤ ((va_up v14452 39 z14467) 30).toInt ∧ (v14452 38).toInt ≤ (v14476 38).toInt ∧ (v14476 38).toInt - (v14452 38).toInt ≤ (v14476 39).toInt - z14467.toInt ∧ (v14452 41).toInt ≤ (v14476 41).toInt ∧ ((v14476 40).toInt < 0 → (v14476 41).toInt = (v14452 41).toInt)) ∧ keepL ((va_up v14452 39 z14467) 37) (F14453 28) (F14453 29) (F14477 28) (F14477 29) ∧ ((v14476 40).toInt < 0 → dp (F14477 28) (F14477 29) (bI ((va_up v14452 39 z14467) 37)) (v14476 38).toInt.toNat = some (((d + 1) + 1) + 1)) := hw
              rw [show (va_up v14452 39 z14467) 30 = v 30 from (hf14454 30 (by decide)).trans ((hf14440 30 (by decide)).trans (hf14417 30 (by decide)))] at hw
              rw [show (va_up v14452 39 z14467) 37 = v 37 from (hf14454 37 (by decide)).trans ((hf14440 37 (by decide)).trans (hf14417 37 (by decide)))] at hw
              have hw_r14475 := hw
              have t14480 : 0 ≤ (v14476 38).toInt ∧ (v14476 38).toInt ≤ 120 := hI.1 38 _ _ rfl
              have t14481 : 0 ≤ (v14476 39).toInt ∧ (v14476 39).toInt ≤ 120 := hI.1 39 _ _ rfl
              have t14482 : 0 ≤ (v14476 41).toInt ∧ (v14476 41).toInt ≤ 8 := hI.1 41 _ _ rfl
              generalize H1 = H at hP hS ⊢
              have hk := hk.tr hw_r14475.2.1
              have hd := hw_r14475.2.2
              refine lv_aload_n hx hb dX12_either_119 rfl (lv_at hl 1 rfl) ?_
              refine lv_iconst (v := 4) hx hb dX12_either_120 (by decide) ?_
              refine lv_iconst (v := 0) hx hb dX12_either_121 (by decide) ?_
              have t14483 : 0 ≤ (v 37).toInt ∧ (v 37).toInt ≤ 9 := by have h9 := hI.1 37 _ _ rfl; rw [show v14476 37 = v 37 from (hf14478 37 (by decide)).trans ((hf14454 37 (by decide)).trans ((hf14440 37 (by decide)).trans (hf14417 37 (by decide))))] at h9; exact h9
              have t14484 : 0 ≤ (v14476 38).toInt ∧ (v14476 38).toInt ≤ 120 := hI.1 38 _ _ rfl
              refine va_callv (va_runV (As := [.int 4, .int 0]) (rest := []) ⟨hx, hb, hml, hown, hwd⟩ (c_X12_lay l dC dI g c adK adV v14476 F14477 rc H.size 4 0 hg hI (by have h9 : v14476 38 = v14476 38 := rfl; rw [h9]; omega)) (cwV 2 hwd (gV wk_1021 wk_1018 wk_1019 wk_1020 wk_5) rfl rfl rfl (by decide +kernel) ⟨Nat.le_of_ble_eq_true rfl, Nat.le_of_ble_eq_true rfl⟩) ⟨PM.blind, va_recv hK hP (ci := 12) (q0 := 0) rfl rfl, fun U hU hW => ⟨rfl, PM.at hK hE hP hS hU hW⟩⟩ rfl rfl hl.1 rfl (lv_room (Nat.le_of_ble_eq_true rfl)) dX12_either_122 ⟨Nat.le_of_ble_eq_true rfl, Nat.le_of_ble_eq_true rfl⟩) hS (fun q _ h => (freeM hS) q h) (freeM hS) (fun u t H1 locs ht hvm hw hB hz1 hk1 hS => ?_)
              unfold BM at hB
              rw [ht] at hB
              obtain ⟨v14486, F14487, rc9⟩ := u
              obtain ⟨hI, hrc, hf14488, hG14489, hw⟩ := hw
              dsimp only at hI hrc hB hf14488 hG14489 hw
              have hF := frCF (by decide) hG14489 hF
              rw [hrc] at hB
              have hP : va_P (dC, dI) classes (wM g c v14486 F14487 rc) H1 := hB
              have hw : (v14486 38).toInt = (v14476 38).toInt + 1 ∧ keepL (v14476 37) (F14477 28) (F14477 29) (F14487 28) (F14487 29) ∧ dp (F14487 28) (F14487 29) (bI (v14476 37)) ((v14476 38).toInt.toNat + 1) = dpS (dp (F14477 28) (F14477 29) (bI (v14476 37)) (v14476 38).toInt.toNat) (4 : Int32) (0 : Int32) := hw
              rw [show v14476 37 = v 37 from (hf14478 37 (by decide)).trans ((hf14454 37 (by decide)).trans ((hf14440 37 (by decide)).trans (hf14417 37 (by decide))))] at hw
              have hw_r14485 := hw
              have t14490 : 0 ≤ (v14486 38).toInt ∧ (v14486 38).toInt ≤ 120 := hI.1 38 _ _ rfl
              have k14491 : (4 : Int32).toInt = 4 := by decide
              have k14492 : (0 : Int32).toInt = 0 := by decide
              generalize H1 = H at hP hS ⊢
              have hk := hk.tr hw_r14485.2.1
              have hd : (v14476 40).toInt < 0 → dp (F14487 28) (F14487 29) (bI (v 37)) (v14486 38).toInt.toNat = some ((((d + 1) + 1) + 1) - 2) := fun hf => (by have e9 : (v14486 38).toInt.toNat = (v14476 38).toInt.toNat + 1 := (by omega); rw [e9, hw_r14485.2.2, hd hf]; exact dpS_4 (by decide) (by omega))
              refine lv_aload_n hx hb dX12_either_125 rfl (lv_at hl 1 rfl) ?_
              refine lv_dup hx hb dX12_either_126 rfl ?_
              refine va_get (D := (dC, dI)) (ci := 12) (v := .int (v14486 41)) (C := RX12) (T := TX12) (N := 63) hx hb hwd inA_X12 hown hK hP 0 rfl rfl 41 (by decide) (hwd _ wk_1006) (fun _ h9 => h9) rfl dX12_either_127 ?_
              refine my_top (v := v14476 41) (hf14488 41 (by decide)) ?_
              have t14493 : 0 ≤ (v14476 41).toInt ∧ (v14476 41).toInt ≤ 8 := by have h9 := hI.1 41 _ _ rfl; rw [show v14486 41 = v14476 41 from hf14488 41 (by decide)] at h9; exact h9
              refine lv_iconst (v := 1) hx hb dX12_either_130 (by decide) ?_
              refine lv_isub hx hb dX12_either_131 ?_
              refine lv_topi (fun z14494 e14495 => ?_)
              try (have t14496 := tsub e14495 (a := (v14476 41).toInt) rfl (b := 1) (by decide) (by omega))
              refine va_put (D := (dC, dI)) (ci := 12) (v := .int z14494) (ty := .int) (C := RX12) (T := TX12) (N := 63) (fs := fsM_0 g v14486 rc) hx hb hwd inA_X12 tyX12 tyX12_ok nmX12 hown hK hP (DM hg) hS 0 rfl rfl 41 (by decide) (hwd _ wk_1006) (fun _ h9 => h9) rfl (by decide +kernel) rfl rfl (Nat.le_of_ble_eq_true rfl) dX12_either_132 (fun H locs hP _ hS => ?_)
              have hP := va_P_eq (pM_41 g c _ _ _ _) hP
              have hI := IM.put hI 41 z14494 rfl (by omega)
              have hP9 : va_P (dC, dI) classes (wM g c (va_up v14486 41 z14494) F14487 rc) H := hP
              exact W.vret hx hb hr (fun t ht hW => ⟨⟨((va_up v14486 41 z14494), F14487, rc), rfl, ⟨hI, rfl, (frU (by decide) (frC (by decide) hf14488 (frC (by decide) hf14478 (frU (by decide) (frC (by decide) hf14454 (frC (by decide) hf14440 (frC (by decide) hf14417 (fun _ _ => rfl)))))))), hF, (by show ((v 39).toInt ≤ ((va_up v14486 41 z14494) 39).toInt ∧ ((va_up v14486 41 z14494) 39).toInt ≤ (v 30).toInt ∧ (v 38).toInt ≤ (v14486 38).toInt ∧ (v14486 38).toInt - (v 38).toInt ≤ ((va_up v14486 41 z14494) 39).toInt - (v 39).toInt ∧ (v 41).toInt ≤ z14494.toInt ∧ (((va_up v14486 41 z14494) 40).toInt < 0 → z14494.toInt = (v 41).toInt)) ∧ keepL (v 37) (F 28) (F 29) (F14487 28) (F14487 29) ∧ (((va_up v14486 41 z14494) 40).toInt < 0 → dp (F14487 28) (F14487 29) (bI (v 37)) (v14486 38).toInt.toNat = some (d + 1)); rw [show (va_up v14486 41 z14494) 39 = v14476 39 from hf14488 39 (by decide)]; rw [show (va_up v14486 41 z14494) 40 = v14476 40 from hf14488 40 (by decide)]; exact ⟨by omega, hk, fun hf => (hd (by omega)).trans (congrArg some (by omega))⟩)⟩, (by show va_P _ _ _ t.heap; rw [ht]; exact hP9)⟩, hS.F ht⟩) hS.2.2 dX12_either_135
            · skip
              have t14497 := cv_ne (a := r14463.toInt) rfl (b := 58) (by decide) c14464
              refine lv_aload_n hx hb dX12_either_100 rfl (lv_at hl 1 rfl) ?_
              refine va_callv (va_runV (As := []) (rest := []) ⟨hx, hb, hml, hown, hwd⟩ (c_X12_wrong l dC dI g c adK adV v14452 F14453 rc H.size  hg hI ) (cwV 0 hwd (gV wk_1029 wk_1026 wk_1027 wk_1028 wk_5) rfl rfl rfl (by decide +kernel) ⟨Nat.le_of_ble_eq_true rfl, Nat.le_of_ble_eq_true rfl⟩) ⟨PM.blind, va_recv hK hP (ci := 12) (q0 := 0) rfl rfl, fun U hU hW => ⟨rfl, PM.at hK hE hP hS hU hW⟩⟩ rfl rfl hl.1 rfl (lv_room (Nat.le_of_ble_eq_true rfl)) dX12_either_101 ⟨Nat.le_of_ble_eq_true rfl, Nat.le_of_ble_eq_true rfl⟩) hS (fun q _ h => (freeM hS) q h) (freeM hS) (fun u t H1 locs ht hvm hw hB hz1 hk1 hS => ?_)
              unfold BM at hB
              rw [ht] at hB
              obtain ⟨v14499, F14500, rc9⟩ := u
              obtain ⟨hI, hrc, hf14501, hG14502, hw⟩ := hw
              dsimp only at hI hrc hB hf14501 hG14502 hw
              have hF := frCF (by decide) hG14502 hF
              rw [hrc] at hB
              have hP : va_P (dC, dI) classes (wM g c v14499 F14500 rc) H1 := hB
              have hw : 0 ≤ (v14499 40).toInt := hw
              have hw_r14498 := hw
              generalize H1 = H at hP hS ⊢
              have hk : keepL (v 37) (F 28) (F 29) (F14500 28) (F14500 29) := by rw [hG14502 28 (by decide), hG14502 29 (by decide)]; exact hk
              have hd : (v14499 40).toInt < 0 → dp (F14500 28) (F14500 29) (bI (v 37)) (v14452 38).toInt.toNat = some ((d + 1) + 1) := fun hf => (by rw [hG14502 28 (by decide), hG14502 29 (by decide)]; exact hd (by omega))
              have hP9 : va_P (dC, dI) classes (wM g c v14499 F14500 rc) H := hP
              exact W.vret hx hb hr (fun t ht hW => ⟨⟨(v14499, F14500, rc), rfl, ⟨hI, rfl, (frC (by decide) hf14501 (frC (by decide) hf14454 (frC (by decide) hf14440 (frC (by decide) hf14417 (fun _ _ => rfl))))), hF, (by show ((v 39).toInt ≤ (v14499 39).toInt ∧ (v14499 39).toInt ≤ (v 30).toInt ∧ (v 38).toInt ≤ (v14499 38).toInt ∧ (v14499 38).toInt - (v 38).toInt ≤ (v14499 39).toInt - (v 39).toInt ∧ (v 41).toInt ≤ (v14499 41).toInt ∧ ((v14499 40).toInt < 0 → (v14499 41).toInt = (v 41).toInt)) ∧ keepL (v 37) (F 28) (F 29) (F14500 28) (F14500 29) ∧ ((v14499 40).toInt < 0 → dp (F14500 28) (F14500 29) (bI (v 37)) (v14499 38).toInt.toNat = some (d + 1)); rw [show v14499 39 = v14452 39 from hf14501 39 (by decide)]; rw [show v14499 38 = v14452 38 from hf14501 38 (by decide)]; rw [show v14499 41 = v14452 41 from hf14501 41 (by decide)]; exact ⟨by omega, hk, fun hf => (hd (by omega)).trans (congrArg some (by omega))⟩)⟩, (by show va_P _ _ _ t.heap; rw [ht]; exact hP9)⟩, hS.F ht⟩) hS.2.2 dX12_either_104
          · skip
            have t14503 := cv_nlt (a := (v14452 40).toInt) rfl (b := 0) (by decide) c14459
            have hP9 : va_P (dC, dI) classes (wM g c v14452 F14453 rc) H := hP
            exact W.vret hx hb hr (fun t ht hW => ⟨⟨(v14452, F14453, rc), rfl, ⟨hI, rfl, (frC (by decide) hf14454 (frC (by decide) hf14440 (frC (by decide) hf14417 (fun _ _ => rfl)))), hF, (by show ((v 39).toInt ≤ (v14452 39).toInt ∧ (v14452 39).toInt ≤ (v 30).toInt ∧ (v 38).toInt ≤ (v14452 38).toInt ∧ (v14452 38).toInt - (v 38).toInt ≤ (v14452 39).toInt - (v 39).toInt ∧ (v 41).toInt ≤ (v14452 41).toInt ∧ ((v14452 40).toInt < 0 → (v14452 41).toInt = (v 41).toInt)) ∧ keepL (v 37) (F 28) (F 29) (F14453 28) (F14453 29) ∧ ((v14452 40).toInt < 0 → dp (F14453 28) (F14453 29) (bI (v 37)) (v14452 38).toInt.toNat = some (d + 1)); exact ⟨by omega, hk, fun hf => (hd (by omega)).trans (congrArg some (by omega))⟩)⟩, (by show va_P _ _ _ t.heap; rw [ht]; exact hP9)⟩, hS.F ht⟩) hS.2.2 dX12_either_90
        · skip
          have t14504 := cv_eq (a := r14437.toInt) rfl (b := 0) (by decide) c14444
          have hP9 : va_P (dC, dI) classes (wM g c v14438 F14439 rc) H := hP
          exact W.vret hx hb hr (fun t ht hW => ⟨⟨(v14438, F14439, rc), rfl, ⟨hI, rfl, (frC (by decide) hf14440 (frC (by decide) hf14417 (fun _ _ => rfl))), hF, (by show ((v 39).toInt ≤ (v14438 39).toInt ∧ (v14438 39).toInt ≤ (v 30).toInt ∧ (v 38).toInt ≤ (v14438 38).toInt ∧ (v14438 38).toInt - (v 38).toInt ≤ (v14438 39).toInt - (v 39).toInt ∧ (v 41).toInt ≤ (v14438 41).toInt ∧ ((v14438 40).toInt < 0 → (v14438 41).toInt = (v 41).toInt)) ∧ keepL (v 37) (F 28) (F 29) (F14439 28) (F14439 29) ∧ ((v14438 40).toInt < 0 → dp (F14439 28) (F14439 29) (bI (v 37)) (v14438 38).toInt.toNat = some (d + 1)); rw [show v14438 38 = v14415 38 from hf14440 38 (by decide)]; exact ⟨by omega, hk, fun hf => (hd (by omega)).trans (congrArg some (by omega))⟩)⟩, (by show va_P _ _ _ t.heap; rw [ht]; exact hP9)⟩, hS.F ht⟩) hS.2.2 dX12_either_78
      · skip
        have t14505 := cv_ne (a := r14432.toInt) rfl (b := 63) (by decide) c14433
        have hP9 : va_P (dC, dI) classes (wM g c v14415 F14416 rc) H := hP
        exact W.vret hx hb hr (fun t ht hW => ⟨⟨(v14415, F14416, rc), rfl, ⟨hI, rfl, (frC (by decide) hf14417 (fun _ _ => rfl)), hF, (by show ((v 39).toInt ≤ (v14415 39).toInt ∧ (v14415 39).toInt ≤ (v 30).toInt ∧ (v 38).toInt ≤ (v14415 38).toInt ∧ (v14415 38).toInt - (v 38).toInt ≤ (v14415 39).toInt - (v 39).toInt ∧ (v 41).toInt ≤ (v14415 41).toInt ∧ ((v14415 40).toInt < 0 → (v14415 41).toInt = (v 41).toInt)) ∧ keepL (v 37) (F 28) (F 29) (F14416 28) (F14416 29) ∧ ((v14415 40).toInt < 0 → dp (F14416 28) (F14416 29) (bI (v 37)) (v14415 38).toInt.toNat = some (d + 1)); exact ⟨by omega, hk, fun hf => (hd (by omega)).trans (congrArg some (by omega))⟩)⟩, (by show va_P _ _ _ t.heap; rw [ht]; exact hP9)⟩, hS.F ht⟩) hS.2.2 dX12_either_70
  · skip
    have t14506 := cv_nle (a := 0) (by decide) (b := (v14415 40).toInt) rfl c14425
    refine lv_iload_n hx hb dX12_either_16 rfl (lv_at hl 0 rfl) ?_
    refine lv_bipush (v := 60) hx hb dX12_either_17 (by decide) ?_
    refine lv_icmp_eq (tgt := 34) hx hb dX12_either_19 (by decide) (fun c14507 => ?_) (fun c14507 => ?_)
    · skip
      have t14508 := cv_eq (a := r14424.toInt) rfl (b := 60) (by decide) c14507
      refine lv_aload_n hx hb dX12_either_34 rfl (lv_at hl 1 rfl) ?_
      refine lv_dup hx hb dX12_either_35 rfl ?_
      refine va_get (D := (dC, dI)) (ci := 12) (v := .int (v14415 39)) (C := RX12) (T := TX12) (N := 63) hx hb hwd inA_X12 hown hK hP 0 rfl rfl 39 (by decide) (hwd _ wk_1004) (fun _ h9 => h9) rfl dX12_either_36 ?_
      have t14509 : 0 ≤ (v14415 39).toInt ∧ (v14415 39).toInt ≤ 120 := hI.1 39 _ _ rfl
      refine lv_iconst (v := 1) hx hb dX12_either_39 (by decide) ?_
      refine lv_iadd hx hb dX12_either_40 ?_
      refine lv_topi (fun z14510 e14511 => ?_)
      try (have t14512 := tadd e14511 (a := (v14415 39).toInt) rfl (b := 1) (by decide) (by omega))
      refine va_put (D := (dC, dI)) (ci := 12) (v := .int z14510) (ty := .int) (C := RX12) (T := TX12) (N := 63) (fs := fsM_0 g v14415 rc) hx hb hwd inA_X12 tyX12 tyX12_ok nmX12 hown hK hP (DM hg) hS 0 rfl rfl 39 (by decide) (hwd _ wk_1004) (fun _ h9 => h9) rfl (by decide +kernel) rfl rfl (Nat.le_of_ble_eq_true rfl) dX12_either_41 (fun H locs hP _ hS => ?_)
      have hP := va_P_eq (pM_39 g c _ _ _ _) hP
      have hI := IM.put hI 39 z14510 rfl (by omega)
      refine lv_aload_n hx hb dX12_either_44 rfl (lv_at hl 1 rfl) ?_
      have t14513 : 0 ≤ (v 30).toInt ∧ (v 30).toInt ≤ 120 := by have h9 := hI.1 30 _ _ rfl; rw [show (va_up v14415 39 z14510) 30 = v 30 from hf14417 30 (by decide)] at h9; exact h9
      have t14514 : 0 ≤ (v 37).toInt ∧ (v 37).toInt ≤ 9 := by have h9 := hI.1 37 _ _ rfl; rw [show (va_up v14415 39 z14510) 37 = v 37 from hf14417 37 (by decide)] at h9; exact h9
      have t14515 : 0 ≤ (v14415 38).toInt ∧ (v14415 38).toInt ≤ 120 := hI.1 38 _ _ rfl
      have t14516 : 0 ≤ z14510.toInt ∧ z14510.toInt ≤ 120 := hI.1 39 _ _ rfl
      have t14517 : 0 ≤ (v14415 41).toInt ∧ (v14415 41).toInt ≤ 8 := hI.1 41 _ _ rfl
      refine va_callv (va_runV (As := []) (rest := []) ⟨hx, hb, hml, hown, hwd⟩ (c_X12_sum_6 l dC dI g c adK adV (va_up v14415 39 z14510) F14416 rc H.size  (d + 1) hg hI (by have h9 : (va_up v14415 39 z14510) 38 = v14415 38 := rfl; (try rw [h9]); clear h9; have h9 : (va_up v14415 39 z14510) 39 = z14510 := rfl; (try rw [h9]); clear h9; have h9 : (va_up v14415 39 z14510) 30 = v 30 := hf14417 30 (by decide); (try rw [h9]); clear h9; have h9 : (va_up v14415 39 z14510) 40 = v14415 40 := rfl; (try rw [h9]); clear h9; have h9 : (va_up v14415 39 z14510) 41 = v14415 41 := rfl; (try rw [h9]); clear h9; omega) (by have h9 : (va_up v14415 39 z14510) 37 = (v 37) := hf14417 37 (by decide); have h8 : (va_up v14415 39 z14510) 38 = (v14415 38) := rfl; (try rw [h9]); (try rw [h8]); exact hd (by omega))) (cwV 0 hwd (gV wk_1043 wk_1011 wk_1012 wk_1013 wk_5) rfl rfl rfl (by decide +kernel) ⟨Nat.le_of_ble_eq_true rfl, Nat.le_of_ble_eq_true rfl⟩) ⟨PM.blind, va_recv hK hP (ci := 12) (q0 := 0) rfl rfl, fun U hU hW => ⟨rfl, PM.at hK hE hP hS hU hW⟩⟩ rfl rfl hl.1 rfl (lv_room (Nat.le_of_ble_eq_true rfl)) dX12_either_45 ⟨Nat.le_of_ble_eq_true rfl, Nat.le_of_ble_eq_true rfl⟩) hS (fun q _ h => (freeM hS) q h) (freeM hS) (fun u t H1 locs ht hvm hw hB hz1 hk1 hS => ?_)
      unfold BM at hB
      rw [ht] at hB
      obtain ⟨v14519, F14520, rc9⟩ := u
      obtain ⟨hI, hrc, hf14521, hG14522, hw⟩ := hw
      dsimp only at hI hrc hB hf14521 hG14522 hw
      have hF := frCF (by decide) hG14522 hF
      rw [hrc] at hB
      have hP : va_P (dC, dI) classes (wM g c v14519 F14520 rc) H1 := hB
      have hw : (z14510.toInt ≤ (v14519 39).toInt ∧ (v14519 39).toInt ≤ ((va_up v14415 39 z14510) 30).toInt ∧ (v14415 38).toInt ≤ (v14519 38).toInt ∧ (v14519 38).toInt - (v14415 38).toInt ≤ (v14519 39).toInt - z14510.toInt ∧ (v14415 41).toInt ≤ (v14519 41).toInt ∧ ((v14519 40).toInt < 0 → (v14519 41).toInt = (v14415 41).toInt)) ∧ keepL ((va_up v14415 39 z14510) 37) (F14416 28) (F14416 29) (F14520 28) (F14520 29) ∧ ((v14519 40).toInt < 0 → dp (F14520 28) (F14520 29) (bI ((va_up v14415 39 z14510) 37)) (v14519 38).toInt.toNat = some ((d + 1) + 1)) := hw
      rw [show (va_up v14415 39 z14510) 30 = v 30 from hf14417 30 (by decide)] at hw
      rw [show (va_up v14415 39 z14510) 37 = v 37 from hf14417 37 (by decide)] at hw
      have hw_r14518 := hw
      have t14523 : 0 ≤ (v14519 38).toInt ∧ (v14519 38).toInt ≤ 120 := hI.1 38 _ _ rfl
      have t14524 : 0 ≤ (v14519 39).toInt ∧ (v14519 39).toInt ≤ 120 := hI.1 39 _ _ rfl
      have t14525 : 0 ≤ (v14519 41).toInt ∧ (v14519 41).toInt ≤ 8 := hI.1 41 _ _ rfl
      generalize H1 = H at hP hS ⊢
      have hk := hk.tr hw_r14518.2.1
      have hd := hw_r14518.2.2
      refine lv_aload_n hx hb dX12_either_48 rfl (lv_at hl 1 rfl) ?_
      refine lv_iload_n hx hb dX12_either_49 rfl (lv_at hl 0 rfl) ?_
      refine lv_iconst (v := 0) hx hb dX12_either_50 (by decide) ?_
      have t14526 : 0 ≤ (v 37).toInt ∧ (v 37).toInt ≤ 9 := by have h9 := hI.1 37 _ _ rfl; rw [show v14519 37 = v 37 from (hf14521 37 (by decide)).trans (hf14417 37 (by decide))] at h9; exact h9
      have t14527 : 0 ≤ (v14519 38).toInt ∧ (v14519 38).toInt ≤ 120 := hI.1 38 _ _ rfl
      refine va_callv (va_runV (As := [.int r14424, .int 0]) (rest := []) ⟨hx, hb, hml, hown, hwd⟩ (c_X12_lay l dC dI g c adK adV v14519 F14520 rc H.size r14424 0 hg hI (by have h9 : v14519 38 = v14519 38 := rfl; rw [h9]; omega)) (cwV 2 hwd (gV wk_1021 wk_1018 wk_1019 wk_1020 wk_5) rfl rfl rfl (by decide +kernel) ⟨Nat.le_of_ble_eq_true rfl, Nat.le_of_ble_eq_true rfl⟩) ⟨PM.blind, va_recv hK hP (ci := 12) (q0 := 0) rfl rfl, fun U hU hW => ⟨rfl, PM.at hK hE hP hS hU hW⟩⟩ rfl rfl hl.1 rfl (lv_room (Nat.le_of_ble_eq_true rfl)) dX12_either_51 ⟨Nat.le_of_ble_eq_true rfl, Nat.le_of_ble_eq_true rfl⟩) hS (fun q _ h => (freeM hS) q h) (freeM hS) (fun u t H1 locs ht hvm hw hB hz1 hk1 hS => ?_)
      unfold BM at hB
      rw [ht] at hB
      obtain ⟨v14529, F14530, rc9⟩ := u
      obtain ⟨hI, hrc, hf14531, hG14532, hw⟩ := hw
      dsimp only at hI hrc hB hf14531 hG14532 hw
      have hF := frCF (by decide) hG14532 hF
      rw [hrc] at hB
      have hP : va_P (dC, dI) classes (wM g c v14529 F14530 rc) H1 := hB
      have hw : (v14529 38).toInt = (v14519 38).toInt + 1 ∧ keepL (v14519 37) (F14520 28) (F14520 29) (F14530 28) (F14530 29) ∧ dp (F14530 28) (F14530 29) (bI (v14519 37)) ((v14519 38).toInt.toNat + 1) = dpS (dp (F14520 28) (F14520 29) (bI (v14519 37)) (v14519 38).toInt.toNat) r14424 (0 : Int32) := hw
      rw [show v14519 37 = v 37 from (hf14521 37 (by decide)).trans (hf14417 37 (by decide))] at hw
      have hw_r14528 := hw
      have t14533 : 0 ≤ (v14529 38).toInt ∧ (v14529 38).toInt ≤ 120 := hI.1 38 _ _ rfl
      have k14534 : (0 : Int32).toInt = 0 := by decide
      generalize H1 = H at hP hS ⊢
      have hk := hk.tr hw_r14528.2.1
      have hd : (v14519 40).toInt < 0 → dp (F14530 28) (F14530 29) (bI (v 37)) (v14529 38).toInt.toNat = some (((d + 1) + 1) - 1) := fun hf => (by have e9 : (v14529 38).toInt.toNat = (v14519 38).toInt.toNat + 1 := (by omega); rw [e9, hw_r14528.2.2, hd hf]; exact dpS_5 (by omega) (by omega) (by omega) (by omega) (by omega))
      refine lv_aload_n hx hb dX12_either_54 rfl (lv_at hl 1 rfl) ?_
      refine va_get (D := (dC, dI)) (ci := 12) (v := .int (v14529 40)) (C := RX12) (T := TX12) (N := 63) hx hb hwd inA_X12 hown hK hP 0 rfl rfl 40 (by decide) (hwd _ wk_1005) (fun _ h9 => h9) rfl dX12_either_55 ?_
      refine my_top (v := v14519 40) (hf14531 40 (by decide)) ?_
      refine lv_if_ge (tgt := 70) hx hb dX12_either_58 (by decide) (fun c14535 => ?_) (fun c14535 => ?_)
      · skip
        have t14536 := cv_le (a := 0) (by decide) (b := (v14519 40).toInt) rfl c14535
        have hP9 : va_P (dC, dI) classes (wM g c v14529 F14530 rc) H := hP
        exact W.vret hx hb hr (fun t ht hW => ⟨⟨(v14529, F14530, rc), rfl, ⟨hI, rfl, (frC (by decide) hf14531 (frC (by decide) hf14521 (frU (by decide) (frC (by decide) hf14417 (fun _ _ => rfl))))), hF, (by show ((v 39).toInt ≤ (v14529 39).toInt ∧ (v14529 39).toInt ≤ (v 30).toInt ∧ (v 38).toInt ≤ (v14529 38).toInt ∧ (v14529 38).toInt - (v 38).toInt ≤ (v14529 39).toInt - (v 39).toInt ∧ (v 41).toInt ≤ (v14529 41).toInt ∧ ((v14529 40).toInt < 0 → (v14529 41).toInt = (v 41).toInt)) ∧ keepL (v 37) (F 28) (F 29) (F14530 28) (F14530 29) ∧ ((v14529 40).toInt < 0 → dp (F14530 28) (F14530 29) (bI (v 37)) (v14529 38).toInt.toNat = some (d + 1)); rw [show v14529 39 = v14519 39 from hf14531 39 (by decide)]; rw [show v14529 41 = v14519 41 from hf14531 41 (by decide)]; rw [show v14529 40 = v14519 40 from hf14531 40 (by decide)]; exact ⟨by omega, hk, fun hf => (hd (by omega)).trans (congrArg some (by omega))⟩)⟩, (by show va_P _ _ _ t.heap; rw [ht]; exact hP9)⟩, hS.F ht⟩) hS.2.2 dX12_either_70
      · skip
        have t14537 := cv_nle (a := 0) (by decide) (b := (v14519 40).toInt) rfl c14535
        refine lv_aload_n hx hb dX12_either_61 rfl (lv_at hl 1 rfl) ?_
        have t14538 : 0 ≤ (v 30).toInt ∧ (v 30).toInt ≤ 120 := by have h9 := hI.1 30 _ _ rfl; rw [show v14529 30 = v 30 from (hf14531 30 (by decide)).trans ((hf14521 30 (by decide)).trans (hf14417 30 (by decide)))] at h9; exact h9
        have t14539 : 0 ≤ (v14519 39).toInt ∧ (v14519 39).toInt ≤ 120 := by have h9 := hI.1 39 _ _ rfl; rw [show v14529 39 = v14519 39 from hf14531 39 (by decide)] at h9; exact h9
        refine va_calli (va_runV (As := []) (rest := []) ⟨hx, hb, hml, hown, hwd⟩ (c_X12_look l dC dI g c adK adV v14529 F14530 rc H.size  hg hI ) (cwV 0 hwd (gV wk_1017 wk_1014 wk_1015 wk_1016 wk_5) rfl rfl rfl (by decide +kernel) ⟨Nat.le_of_ble_eq_true rfl, Nat.le_of_ble_eq_true rfl⟩) ⟨PM.blind, va_recv hK hP (ci := 12) (q0 := 0) rfl rfl, fun U hU hW => ⟨rfl, PM.at hK hE hP hS hU hW⟩⟩ rfl rfl hl.1 rfl (lv_room (Nat.le_of_ble_eq_true rfl)) dX12_either_62 ⟨Nat.le_of_ble_eq_true rfl, Nat.le_of_ble_eq_true rfl⟩) hS (fun q _ h => (freeM hS) q h) (freeM hS) (fun r14540 u t H1 locs ht hvm hw hB hz1 hk1 hS => ?_)
        unfold BM at hB
        rw [ht] at hB
        have hP : va_P (dC, dI) classes (wM g c v14529 F14530 rc) H1 := hB
        have hw : r14540.toInt = lkM (v14529 39) (v14529 30) (F14530 24) ∧ ((v14529 39).toInt < (v14529 30).toInt ∨ r14540.toInt = -1) := hw
        rw [show v14529 39 = v14519 39 from hf14531 39 (by decide)] at hw
        rw [show v14529 30 = v 30 from (hf14531 30 (by decide)).trans ((hf14521 30 (by decide)).trans (hf14417 30 (by decide)))] at hw
        rw [hF 24 (by decide)] at hw
        have hw_r14540 := hw
        generalize H1 = H at hP hS ⊢
        refine lv_bipush (v := 63) hx hb dX12_either_65 (by decide) ?_
        refine lv_icmp_eq (tgt := 71) hx hb dX12_either_67 (by decide) (fun c14541 => ?_) (fun c14541 => ?_)
        · skip
          have t14542 := cv_eq (a := r14540.toInt) rfl (b := 63) (by decide) c14541
          refine lv_aload_n hx hb dX12_either_71 rfl (lv_at hl 1 rfl) ?_
          have t14543 : 0 ≤ (v14519 39).toInt ∧ (v14519 39).toInt ≤ 120 := by have h9 := hI.1 39 _ _ rfl; rw [show v14529 39 = v14519 39 from hf14531 39 (by decide)] at h9; exact h9
          have t14544 : 0 ≤ (v14519 41).toInt ∧ (v14519 41).toInt ≤ 8 := by have h9 := hI.1 41 _ _ rfl; rw [show v14529 41 = v14519 41 from hf14531 41 (by decide)] at h9; exact h9
          refine va_calli (va_runV (As := []) (rest := []) ⟨hx, hb, hml, hown, hwd⟩ (c_X12_opens l dC dI g c adK adV v14529 F14530 rc H.size  hg hI (by have h9 : v14529 39 = v14519 39 := hf14531 39 (by decide); (try rw [h9]); clear h9; have h9 : v14529 30 = v 30 := (hf14531 30 (by decide)).trans ((hf14521 30 (by decide)).trans (hf14417 30 (by decide))); (try rw [h9]); clear h9; omega)) (cwV 0 hwd (gV wk_1025 wk_1022 wk_1023 wk_1024 wk_5) rfl rfl rfl (by decide +kernel) ⟨Nat.le_of_ble_eq_true rfl, Nat.le_of_ble_eq_true rfl⟩) ⟨PM.blind, va_recv hK hP (ci := 12) (q0 := 0) rfl rfl, fun U hU hW => ⟨rfl, PM.at hK hE hP hS hU hW⟩⟩ rfl rfl hl.1 rfl (lv_room (Nat.le_of_ble_eq_true rfl)) dX12_either_72 ⟨Nat.le_of_ble_eq_true rfl, Nat.le_of_ble_eq_true rfl⟩) hS (fun q _ h => (freeM hS) q h) (freeM hS) (fun r14545 u t H1 locs ht hvm hw hB hz1 hk1 hS => ?_)
          unfold BM at hB
          rw [ht] at hB
          obtain ⟨v14546, F14547, rc9⟩ := u
          obtain ⟨hI, hrc, hf14548, hG14549, hw⟩ := hw
          dsimp only at hI hrc hB hf14548 hG14549 hw
          have hF := frCF (by decide) hG14549 hF
          rw [hrc] at hB
          have hP : va_P (dC, dI) classes (wM g c v14546 F14547 rc) H1 := hB
          have hw : (r14545.toInt = 1 ∧ (v14529 41).toInt < 8 ∧ (v14546 41).toInt = (v14529 41).toInt + 1 ∧ (v14546 39).toInt = (v14529 39).toInt + 1 ∧ (v14546 40).toInt = (v14529 40).toInt) ∨ (r14545.toInt = 0 ∧ (v14529 41).toInt = 8 ∧ 0 ≤ (v14546 40).toInt ∧ (v14546 41).toInt = (v14529 41).toInt ∧ (v14546 39).toInt = (v14529 39).toInt) := hw
          rw [show v14529 41 = v14519 41 from hf14531 41 (by decide)] at hw
          rw [show v14529 39 = v14519 39 from hf14531 39 (by decide)] at hw
          rw [show v14529 40 = v14519 40 from hf14531 40 (by decide)] at hw
          have hw_r14545 := hw
          have t14550 : 0 ≤ (v14546 39).toInt ∧ (v14546 39).toInt ≤ 120 := hI.1 39 _ _ rfl
          have t14551 : 0 ≤ (v14546 41).toInt ∧ (v14546 41).toInt ≤ 8 := hI.1 41 _ _ rfl
          generalize H1 = H at hP hS ⊢
          have hk : keepL (v 37) (F 28) (F 29) (F14547 28) (F14547 29) := by rw [hG14549 28 (by decide), hG14549 29 (by decide)]; exact hk
          have hd : (v14546 40).toInt < 0 → dp (F14547 28) (F14547 29) (bI (v 37)) (v14529 38).toInt.toNat = some (((d + 1) + 1) - 1) := fun hf => (by rw [hG14549 28 (by decide), hG14549 29 (by decide)]; exact hd (by omega))
          refine lv_if_ne (tgt := 79) hx hb dX12_either_75 (by decide) (fun c14552 => ?_) (fun c14552 => ?_)
          · skip
            have t14553 := cv_ne (a := r14545.toInt) rfl (b := 0) (by decide) c14552
            refine lv_aload_n hx hb dX12_either_79 rfl (lv_at hl 1 rfl) ?_
            have t14554 : 0 ≤ (v 30).toInt ∧ (v 30).toInt ≤ 120 := by have h9 := hI.1 30 _ _ rfl; rw [show v14546 30 = v 30 from (hf14548 30 (by decide)).trans ((hf14531 30 (by decide)).trans ((hf14521 30 (by decide)).trans (hf14417 30 (by decide))))] at h9; exact h9
            have t14555 : 0 ≤ (v 37).toInt ∧ (v 37).toInt ≤ 9 := by have h9 := hI.1 37 _ _ rfl; rw [show v14546 37 = v 37 from (hf14548 37 (by decide)).trans ((hf14531 37 (by decide)).trans ((hf14521 37 (by decide)).trans (hf14417 37 (by decide))))] at h9; exact h9
            have t14556 : 0 ≤ (v14529 38).toInt ∧ (v14529 38).toInt ≤ 120 := by have h9 := hI.1 38 _ _ rfl; rw [show v14546 38 = v14529 38 from hf14548 38 (by decide)] at h9; exact h9
            have t14557 : 0 ≤ (v14546 39).toInt ∧ (v14546 39).toInt ≤ 120 := hI.1 39 _ _ rfl
            have t14558 : 0 ≤ (v14546 41).toInt ∧ (v14546 41).toInt ≤ 8 := hI.1 41 _ _ rfl
            refine va_callv (va_runV (As := []) (rest := []) ⟨hx, hb, hml, hown, hwd⟩ (c_X12_either_7 l dC dI g c adK adV v14546 F14547 rc H.size  (((d + 1) + 1) - 1) hg hI (by have h9 : v14546 38 = v14529 38 := hf14548 38 (by decide); (try rw [h9]); clear h9; have h9 : v14546 39 = v14546 39 := rfl; (try rw [h9]); clear h9; have h9 : v14546 30 = v 30 := (hf14548 30 (by decide)).trans ((hf14531 30 (by decide)).trans ((hf14521 30 (by decide)).trans (hf14417 30 (by decide)))); (try rw [h9]); clear h9; have h9 : v14546 40 = v14546 40 := rfl; (try rw [h9]); clear h9; have h9 : v14546 41 = v14546 41 := rfl; (try rw [h9]); clear h9; omega) (by have h9 : v14546 37 = (v 37) := (hf14548 37 (by decide)).trans ((hf14531 37 (by decide)).trans ((hf14521 37 (by decide)).trans (hf14417 37 (by decide)))); have h8 : v14546 38 = (v14529 38) := hf14548 38 (by decide); (try rw [h9]); (try rw [h8]); exact hd (by omega))) (cwV 0 hwd (gV wk_1010 wk_1007 wk_1008 wk_1009 wk_5) rfl rfl rfl (by decide +kernel) ⟨Nat.le_of_ble_eq_true rfl, Nat.le_of_ble_eq_true rfl⟩) ⟨PM.blind, va_recv hK hP (ci := 12) (q0 := 0) rfl rfl, fun U hU hW => ⟨rfl, PM.at hK hE hP hS hU hW⟩⟩ rfl rfl hl.1 rfl (lv_room (Nat.le_of_ble_eq_true rfl)) dX12_either_80 ⟨Nat.le_of_ble_eq_true rfl, Nat.le_of_ble_eq_true rfl⟩) hS (fun q _ h => (freeM hS) q h) (freeM hS) (fun u t H1 locs ht hvm hw hB hz1 hk1 hS => ?_)
            unfold BM at hB
            rw [ht] at hB
            obtain ⟨v14560, F14561, rc9⟩ := u
            obtain ⟨hI, hrc, hf14562, hG14563, hw⟩ := hw
            dsimp only at hI hrc hB hf14562 hG14563 hw
            have hF := frCF (by decide) hG14563 hF
            rw [hrc] at hB
            have hP : va_P (dC, dI) classes (wM g c v14560 F14561 rc) H1 := hB
            have hw : ((v14546 39).toInt ≤ (v14560 39).toInt ∧ (v14560 39).toInt ≤ (v14546 30).toInt ∧ (v14546 38).toInt ≤ (v14560 38).toInt ∧ (v14560 38).toInt - (v14546 38).toInt ≤ (v14560 39).toInt - (v14546 39).toInt ∧ (v14546 41).toInt ≤ (v14560 41).toInt ∧ ((v14560 40).toInt < 0 → (v14560 41).toInt = (v14546 41).toInt)) ∧ keepL (v14546 37) (F14547 28) (F14547 29) (F14561 28) (F14561 29) ∧ ((v14560 40).toInt < 0 → dp (F14561 28) (F14561 29) (bI (v14546 37)) (v14560 38).toInt.toNat = some ((((d + 1) + 1) - 1) + 1)) := hw
            rw [show v14546 30 = v 30 from (hf14548 30 (by decide)).trans ((hf14531 30 (by decide)).trans ((hf14521 30 (by decide)).trans (hf14417 30 (by decide))))] at hw
            rw [show v14546 38 = v14529 38 from hf14548 38 (by decide)] at hw
            rw [show v14546 37 = v 37 from (hf14548 37 (by decide)).trans ((hf14531 37 (by decide)).trans ((hf14521 37 (by decide)).trans (hf14417 37 (by decide))))] at hw
            have hw_r14559 := hw
            have t14564 : 0 ≤ (v14560 38).toInt ∧ (v14560 38).toInt ≤ 120 := hI.1 38 _ _ rfl
            have t14565 : 0 ≤ (v14560 39).toInt ∧ (v14560 39).toInt ≤ 120 := hI.1 39 _ _ rfl
            have t14566 : 0 ≤ (v14560 41).toInt ∧ (v14560 41).toInt ≤ 8 := hI.1 41 _ _ rfl
            generalize H1 = H at hP hS ⊢
            have hk := hk.tr hw_r14559.2.1
            have hd := hw_r14559.2.2
            refine lv_aload_n hx hb dX12_either_83 rfl (lv_at hl 1 rfl) ?_
            refine va_get (D := (dC, dI)) (ci := 12) (v := .int (v14560 40)) (C := RX12) (T := TX12) (N := 63) hx hb hwd inA_X12 hown hK hP 0 rfl rfl 40 (by decide) (hwd _ wk_1005) (fun _ h9 => h9) rfl dX12_either_84 ?_
            refine lv_if_lt (tgt := 91) hx hb dX12_either_87 (by decide) (fun c14567 => ?_) (fun c14567 => ?_)
            · skip
              have t14568 := cv_lt (a := (v14560 40).toInt) rfl (b := 0) (by decide) c14567
              refine lv_aload_n hx hb dX12_either_91 rfl (lv_at hl 1 rfl) ?_
              have t14569 : 0 ≤ (v 30).toInt ∧ (v 30).toInt ≤ 120 := by have h9 := hI.1 30 _ _ rfl; rw [show v14560 30 = v 30 from (hf14562 30 (by decide)).trans ((hf14548 30 (by decide)).trans ((hf14531 30 (by decide)).trans ((hf14521 30 (by decide)).trans (hf14417 30 (by decide)))))] at h9; exact h9
              have t14570 : 0 ≤ (v14560 39).toInt ∧ (v14560 39).toInt ≤ 120 := hI.1 39 _ _ rfl
              refine va_calli (va_runV (As := []) (rest := []) ⟨hx, hb, hml, hown, hwd⟩ (c_X12_look l dC dI g c adK adV v14560 F14561 rc H.size  hg hI ) (cwV 0 hwd (gV wk_1017 wk_1014 wk_1015 wk_1016 wk_5) rfl rfl rfl (by decide +kernel) ⟨Nat.le_of_ble_eq_true rfl, Nat.le_of_ble_eq_true rfl⟩) ⟨PM.blind, va_recv hK hP (ci := 12) (q0 := 0) rfl rfl, fun U hU hW => ⟨rfl, PM.at hK hE hP hS hU hW⟩⟩ rfl rfl hl.1 rfl (lv_room (Nat.le_of_ble_eq_true rfl)) dX12_either_92 ⟨Nat.le_of_ble_eq_true rfl, Nat.le_of_ble_eq_true rfl⟩) hS (fun q _ h => (freeM hS) q h) (freeM hS) (fun r14571 u t H1 locs ht hvm hw hB hz1 hk1 hS => ?_)
              unfold BM at hB
              rw [ht] at hB
              have hP : va_P (dC, dI) classes (wM g c v14560 F14561 rc) H1 := hB
              have hw : r14571.toInt = lkM (v14560 39) (v14560 30) (F14561 24) ∧ ((v14560 39).toInt < (v14560 30).toInt ∨ r14571.toInt = -1) := hw
              rw [show v14560 30 = v 30 from (hf14562 30 (by decide)).trans ((hf14548 30 (by decide)).trans ((hf14531 30 (by decide)).trans ((hf14521 30 (by decide)).trans (hf14417 30 (by decide)))))] at hw
              rw [hF 24 (by decide)] at hw
              have hw_r14571 := hw
              generalize H1 = H at hP hS ⊢
              refine lv_bipush (v := 58) hx hb dX12_either_95 (by decide) ?_
              refine lv_icmp_eq (tgt := 105) hx hb dX12_either_97 (by decide) (fun c14572 => ?_) (fun c14572 => ?_)
              · skip
                have t14573 := cv_eq (a := r14571.toInt) rfl (b := 58) (by decide) c14572
                refine lv_aload_n hx hb dX12_either_105 rfl (lv_at hl 1 rfl) ?_
                refine lv_dup hx hb dX12_either_106 rfl ?_
                refine va_get (D := (dC, dI)) (ci := 12) (v := .int (v14560 39)) (C := RX12) (T := TX12) (N := 63) hx hb hwd inA_X12 hown hK hP 0 rfl rfl 39 (by decide) (hwd _ wk_1004) (fun _ h9 => h9) rfl dX12_either_107 ?_
                have t14574 : 0 ≤ (v14560 39).toInt ∧ (v14560 39).toInt ≤ 120 := hI.1 39 _ _ rfl
                refine lv_iconst (v := 1) hx hb dX12_either_110 (by decide) ?_
                refine lv_iadd hx hb dX12_either_111 ?_
                refine lv_topi (fun z14575 e14576 => ?_)
                try (have t14577 := tadd e14576 (a := (v14560 39).toInt) rfl (b := 1) (by decide) (by omega))
                refine va_put (D := (dC, dI)) (ci := 12) (v := .int z14575) (ty := .int) (C := RX12) (T := TX12) (N := 63) (fs := fsM_0 g v14560 rc) hx hb hwd inA_X12 tyX12 tyX12_ok nmX12 hown hK hP (DM hg) hS 0 rfl rfl 39 (by decide) (hwd _ wk_1004) (fun _ h9 => h9) rfl (by decide +kernel) rfl rfl (Nat.le_of_ble_eq_true rfl) dX12_either_112 (fun H locs hP _ hS => ?_)
                have hP := va_P_eq (pM_39 g c _ _ _ _) hP
                have hI := IM.put hI 39 z14575 rfl (by omega)
                refine lv_aload_n hx hb dX12_either_115 rfl (lv_at hl 1 rfl) ?_
                have t14578 : 0 ≤ (v 30).toInt ∧ (v 30).toInt ≤ 120 := by have h9 := hI.1 30 _ _ rfl; rw [show (va_up v14560 39 z14575) 30 = v 30 from (hf14562 30 (by decide)).trans ((hf14548 30 (by decide)).trans ((hf14531 30 (by decide)).trans ((hf14521 30 (by decide)).trans (hf14417 30 (by decide)))))] at h9; exact h9
                have t14579 : 0 ≤ (v 37).toInt ∧ (v 37).toInt ≤ 9 := by have h9 := hI.1 37 _ _ rfl; rw [show (va_up v14560 39 z14575) 37 = v 37 from (hf14562 37 (by decide)).trans ((hf14548 37 (by decide)).trans ((hf14531 37 (by decide)).trans ((hf14521 37 (by decide)).trans (hf14417 37 (by decide)))))] at h9; exact h9
                have t14580 : 0 ≤ (v14560 38).toInt ∧ (v14560 38).toInt ≤ 120 := hI.1 38 _ _ rfl
                have t14581 : 0 ≤ z14575.toInt ∧ z14575.toInt ≤ 120 := hI.1 39 _ _ rfl
                have t14582 : 0 ≤ (v14560 41).toInt ∧ (v14560 41).toInt ≤ 8 := hI.1 41 _ _ rfl
                refine va_callv (va_runV (As := []) (rest := []) ⟨hx, hb, hml, hown, hwd⟩ (c_X12_either_7 l dC dI g c adK adV (va_up v14560 39 z14575) F14561 rc H.size  ((((d + 1) + 1) - 1) + 1) hg hI (by have h9 : (va_up v14560 39 z14575) 38 = v14560 38 := rfl; (try rw [h9]); clear h9; have h9 : (va_up v14560 39 z14575) 39 = z14575 := rfl; (try rw [h9]); clear h9; have h9 : (va_up v14560 39 z14575) 30 = v 30 := (hf14562 30 (by decide)).trans ((hf14548 30 (by decide)).trans ((hf14531 30 (by decide)).trans ((hf14521 30 (by decide)).trans (hf14417 30 (by decide))))); (try rw [h9]); clear h9; have h9 : (va_up v14560 39 z14575) 40 = v14560 40 := rfl; (try rw [h9]); clear h9; have h9 : (va_up v14560 39 z14575) 41 = v14560 41 := rfl; (try rw [h9]); clear h9; omega) (by have h9 : (va_up v14560 39 z14575) 37 = (v 37) := (hf14562 37 (by decide)).trans ((hf14548 37 (by decide)).trans ((hf14531 37 (by decide)).trans ((hf14521 37 (by decide)).trans (hf14417 37 (by decide))))); have h8 : (va_up v14560 39 z14575) 38 = (v14560 38) := rfl; (try rw [h9]); (try rw [h8]); exact hd (by omega))) (cwV 0 hwd (gV wk_1010 wk_1007 wk_1008 wk_1009 wk_5) rfl rfl rfl (by decide +kernel) ⟨Nat.le_of_ble_eq_true rfl, Nat.le_of_ble_eq_true rfl⟩) ⟨PM.blind, va_recv hK hP (ci := 12) (q0 := 0) rfl rfl, fun U hU hW => ⟨rfl, PM.at hK hE hP hS hU hW⟩⟩ rfl rfl hl.1 rfl (lv_room (Nat.le_of_ble_eq_true rfl)) dX12_either_116 ⟨Nat.le_of_ble_eq_true rfl, Nat.le_of_ble_eq_true rfl⟩) hS (fun q _ h => (freeM hS) q h) (freeM hS) (fun u t H1 locs ht hvm hw hB hz1 hk1 hS => ?_)
                unfold BM at hB
                rw [ht] at hB
                obtain ⟨v14584, F14585, rc9⟩ := u
                obtain ⟨hI, hrc, hf14586, hG14587, hw⟩ := hw
                dsimp only at hI hrc hB hf14586 hG14587 hw
                have hF := frCF (by decide) hG14587 hF
                rw [hrc] at hB
                have hP : va_P (dC, dI) classes (wM g c v14584 F14585 rc) H1 := hB
                have hw : (z14575.toInt ≤ (v14584 39).toInt ∧ (v14584 39).toInt ≤ ((va_up v14560 39 z14575) 30).toInt ∧ (v14560 38).toInt ≤ (v14584 38).toInt ∧ (v14584 38).toInt - (v14560 38).toInt ≤ (v14584 39).toInt - z14575.toInt ∧ (v14560 41).toInt ≤ (v14584 41).toInt ∧ ((v14584 40).toInt < 0 → (v14584 41).toInt = (v14560 41).toInt)) ∧ keepL ((va_up v14560 39 z14575) 37) (F14561 28) (F14561 29) (F14585 28) (F14585 29) ∧ ((v14584 40).toInt < 0 → dp (F14585 28) (F14585 29) (bI ((va_up v14560 39 z14575) 37)) (v14584 38).toInt.toNat = some (((((d + 1) + 1) - 1) + 1) + 1)) := hw
                rw [show (va_up v14560 39 z14575) 30 = v 30 from (hf14562 30 (by decide)).trans ((hf14548 30 (by decide)).trans ((hf14531 30 (by decide)).trans ((hf14521 30 (by decide)).trans (hf14417 30 (by decide)))))] at hw
                rw [show (va_up v14560 39 z14575) 37 = v 37 from (hf14562 37 (by decide)).trans ((hf14548 37 (by decide)).trans ((hf14531 37 (by decide)).trans ((hf14521 37 (by decide)).trans (hf14417 37 (by decide)))))] at hw
                have hw_r14583 := hw
                have t14588 : 0 ≤ (v14584 38).toInt ∧ (v14584 38).toInt ≤ 120 := hI.1 38 _ _ rfl
                have t14589 : 0 ≤ (v14584 39).toInt ∧ (v14584 39).toInt ≤ 120 := hI.1 39 _ _ rfl
                have t14590 : 0 ≤ (v14584 41).toInt ∧ (v14584 41).toInt ≤ 8 := hI.1 41 _ _ rfl
                generalize H1 = H at hP hS ⊢
                have hk := hk.tr hw_r14583.2.1
                have hd := hw_r14583.2.2
                refine lv_aload_n hx hb dX12_either_119 rfl (lv_at hl 1 rfl) ?_
                refine lv_iconst (v := 4) hx hb dX12_either_120 (by decide) ?_
                refine lv_iconst (v := 0) hx hb dX12_either_121 (by decide) ?_
                have t14591 : 0 ≤ (v 37).toInt ∧ (v 37).toInt ≤ 9 := by have h9 := hI.1 37 _ _ rfl; rw [show v14584 37 = v 37 from (hf14586 37 (by decide)).trans ((hf14562 37 (by decide)).trans ((hf14548 37 (by decide)).trans ((hf14531 37 (by decide)).trans ((hf14521 37 (by decide)).trans (hf14417 37 (by decide))))))] at h9; exact h9
                have t14592 : 0 ≤ (v14584 38).toInt ∧ (v14584 38).toInt ≤ 120 := hI.1 38 _ _ rfl
                refine va_callv (va_runV (As := [.int 4, .int 0]) (rest := []) ⟨hx, hb, hml, hown, hwd⟩ (c_X12_lay l dC dI g c adK adV v14584 F14585 rc H.size 4 0 hg hI (by have h9 : v14584 38 = v14584 38 := rfl; rw [h9]; omega)) (cwV 2 hwd (gV wk_1021 wk_1018 wk_1019 wk_1020 wk_5) rfl rfl rfl (by decide +kernel) ⟨Nat.le_of_ble_eq_true rfl, Nat.le_of_ble_eq_true rfl⟩) ⟨PM.blind, va_recv hK hP (ci := 12) (q0 := 0) rfl rfl, fun U hU hW => ⟨rfl, PM.at hK hE hP hS hU hW⟩⟩ rfl rfl hl.1 rfl (lv_room (Nat.le_of_ble_eq_true rfl)) dX12_either_122 ⟨Nat.le_of_ble_eq_true rfl, Nat.le_of_ble_eq_true rfl⟩) hS (fun q _ h => (freeM hS) q h) (freeM hS) (fun u t H1 locs ht hvm hw hB hz1 hk1 hS => ?_)
                unfold BM at hB
                rw [ht] at hB
                obtain ⟨v14594, F14595, rc9⟩ := u
                obtain ⟨hI, hrc, hf14596, hG14597, hw⟩ := hw
                dsimp only at hI hrc hB hf14596 hG14597 hw
                have hF := frCF (by decide) hG14597 hF
                rw [hrc] at hB
                have hP : va_P (dC, dI) classes (wM g c v14594 F14595 rc) H1 := hB
                have hw : (v14594 38).toInt = (v14584 38).toInt + 1 ∧ keepL (v14584 37) (F14585 28) (F14585 29) (F14595 28) (F14595 29) ∧ dp (F14595 28) (F14595 29) (bI (v14584 37)) ((v14584 38).toInt.toNat + 1) = dpS (dp (F14585 28) (F14585 29) (bI (v14584 37)) (v14584 38).toInt.toNat) (4 : Int32) (0 : Int32) := hw
                rw [show v14584 37 = v 37 from (hf14586 37 (by decide)).trans ((hf14562 37 (by decide)).trans ((hf14548 37 (by decide)).trans ((hf14531 37 (by decide)).trans ((hf14521 37 (by decide)).trans (hf14417 37 (by decide))))))] at hw
                have hw_r14593 := hw
                have t14598 : 0 ≤ (v14594 38).toInt ∧ (v14594 38).toInt ≤ 120 := hI.1 38 _ _ rfl
                have k14599 : (4 : Int32).toInt = 4 := by decide
                have k14600 : (0 : Int32).toInt = 0 := by decide
                generalize H1 = H at hP hS ⊢
                have hk := hk.tr hw_r14593.2.1
                have hd : (v14584 40).toInt < 0 → dp (F14595 28) (F14595 29) (bI (v 37)) (v14594 38).toInt.toNat = some ((((((d + 1) + 1) - 1) + 1) + 1) - 2) := fun hf => (by have e9 : (v14594 38).toInt.toNat = (v14584 38).toInt.toNat + 1 := (by omega); rw [e9, hw_r14593.2.2, hd hf]; exact dpS_4 (by decide) (by omega))
                refine lv_aload_n hx hb dX12_either_125 rfl (lv_at hl 1 rfl) ?_
                refine lv_dup hx hb dX12_either_126 rfl ?_
                refine va_get (D := (dC, dI)) (ci := 12) (v := .int (v14594 41)) (C := RX12) (T := TX12) (N := 63) hx hb hwd inA_X12 hown hK hP 0 rfl rfl 41 (by decide) (hwd _ wk_1006) (fun _ h9 => h9) rfl dX12_either_127 ?_
                refine my_top (v := v14584 41) (hf14596 41 (by decide)) ?_
                have t14601 : 0 ≤ (v14584 41).toInt ∧ (v14584 41).toInt ≤ 8 := by have h9 := hI.1 41 _ _ rfl; rw [show v14594 41 = v14584 41 from hf14596 41 (by decide)] at h9; exact h9
                refine lv_iconst (v := 1) hx hb dX12_either_130 (by decide) ?_
                refine lv_isub hx hb dX12_either_131 ?_
                refine lv_topi (fun z14602 e14603 => ?_)
                try (have t14604 := tsub e14603 (a := (v14584 41).toInt) rfl (b := 1) (by decide) (by omega))
                refine va_put (D := (dC, dI)) (ci := 12) (v := .int z14602) (ty := .int) (C := RX12) (T := TX12) (N := 63) (fs := fsM_0 g v14594 rc) hx hb hwd inA_X12 tyX12 tyX12_ok nmX12 hown hK hP (DM hg) hS 0 rfl rfl 41 (by decide) (hwd _ wk_1006) (fun _ h9 => h9) rfl (by decide +kernel) rfl rfl (Nat.le_of_ble_eq_true rfl) dX12_either_132 (fun H locs hP _ hS => ?_)
                have hP := va_P_eq (pM_41 g c _ _ _ _) hP
                have hI := IM.put hI 41 z14602 rfl (by omega)
                have hP9 : va_P (dC, dI) classes (wM g c (va_up v14594 41 z14602) F14595 rc) H := hP
                exact W.vret hx hb hr (fun t ht hW => ⟨⟨((va_up v14594 41 z14602), F14595, rc), rfl, ⟨hI, rfl, (frU (by decide) (frC (by decide) hf14596 (frC (by decide) hf14586 (frU (by decide) (frC (by decide) hf14562 (frC (by decide) hf14548 (frC (by decide) hf14531 (frC (by decide) hf14521 (frU (by decide) (frC (by decide) hf14417 (fun _ _ => rfl))))))))))), hF, (by show ((v 39).toInt ≤ ((va_up v14594 41 z14602) 39).toInt ∧ ((va_up v14594 41 z14602) 39).toInt ≤ (v 30).toInt ∧ (v 38).toInt ≤ (v14594 38).toInt ∧ (v14594 38).toInt - (v 38).toInt ≤ ((va_up v14594 41 z14602) 39).toInt - (v 39).toInt ∧ (v 41).toInt ≤ z14602.toInt ∧ (((va_up v14594 41 z14602) 40).toInt < 0 → z14602.toInt = (v 41).toInt)) ∧ keepL (v 37) (F 28) (F 29) (F14595 28) (F14595 29) ∧ (((va_up v14594 41 z14602) 40).toInt < 0 → dp (F14595 28) (F14595 29) (bI (v 37)) (v14594 38).toInt.toNat = some (d + 1)); rw [show (va_up v14594 41 z14602) 39 = v14584 39 from hf14596 39 (by decide)]; rw [show (va_up v14594 41 z14602) 40 = v14584 40 from hf14596 40 (by decide)]; exact ⟨by omega, hk, fun hf => (hd (by omega)).trans (congrArg some (by omega))⟩)⟩, (by show va_P _ _ _ t.heap; rw [ht]; exact hP9)⟩, hS.F ht⟩) hS.2.2 dX12_either_135
              · skip
                have t14605 := cv_ne (a := r14571.toInt) rfl (b := 58) (by decide) c14572
                refine lv_aload_n hx hb dX12_either_100 rfl (lv_at hl 1 rfl) ?_
                refine va_callv (va_runV (As := []) (rest := []) ⟨hx, hb, hml, hown, hwd⟩ (c_X12_wrong l dC dI g c adK adV v14560 F14561 rc H.size  hg hI ) (cwV 0 hwd (gV wk_1029 wk_1026 wk_1027 wk_1028 wk_5) rfl rfl rfl (by decide +kernel) ⟨Nat.le_of_ble_eq_true rfl, Nat.le_of_ble_eq_true rfl⟩) ⟨PM.blind, va_recv hK hP (ci := 12) (q0 := 0) rfl rfl, fun U hU hW => ⟨rfl, PM.at hK hE hP hS hU hW⟩⟩ rfl rfl hl.1 rfl (lv_room (Nat.le_of_ble_eq_true rfl)) dX12_either_101 ⟨Nat.le_of_ble_eq_true rfl, Nat.le_of_ble_eq_true rfl⟩) hS (fun q _ h => (freeM hS) q h) (freeM hS) (fun u t H1 locs ht hvm hw hB hz1 hk1 hS => ?_)
                unfold BM at hB
                rw [ht] at hB
                obtain ⟨v14607, F14608, rc9⟩ := u
                obtain ⟨hI, hrc, hf14609, hG14610, hw⟩ := hw
                dsimp only at hI hrc hB hf14609 hG14610 hw
                have hF := frCF (by decide) hG14610 hF
                rw [hrc] at hB
                have hP : va_P (dC, dI) classes (wM g c v14607 F14608 rc) H1 := hB
                have hw : 0 ≤ (v14607 40).toInt := hw
                have hw_r14606 := hw
                generalize H1 = H at hP hS ⊢
                have hk : keepL (v 37) (F 28) (F 29) (F14608 28) (F14608 29) := by rw [hG14610 28 (by decide), hG14610 29 (by decide)]; exact hk
                have hd : (v14607 40).toInt < 0 → dp (F14608 28) (F14608 29) (bI (v 37)) (v14560 38).toInt.toNat = some ((((d + 1) + 1) - 1) + 1) := fun hf => (by rw [hG14610 28 (by decide), hG14610 29 (by decide)]; exact hd (by omega))
                have hP9 : va_P (dC, dI) classes (wM g c v14607 F14608 rc) H := hP
                exact W.vret hx hb hr (fun t ht hW => ⟨⟨(v14607, F14608, rc), rfl, ⟨hI, rfl, (frC (by decide) hf14609 (frC (by decide) hf14562 (frC (by decide) hf14548 (frC (by decide) hf14531 (frC (by decide) hf14521 (frU (by decide) (frC (by decide) hf14417 (fun _ _ => rfl)))))))), hF, (by show ((v 39).toInt ≤ (v14607 39).toInt ∧ (v14607 39).toInt ≤ (v 30).toInt ∧ (v 38).toInt ≤ (v14607 38).toInt ∧ (v14607 38).toInt - (v 38).toInt ≤ (v14607 39).toInt - (v 39).toInt ∧ (v 41).toInt ≤ (v14607 41).toInt ∧ ((v14607 40).toInt < 0 → (v14607 41).toInt = (v 41).toInt)) ∧ keepL (v 37) (F 28) (F 29) (F14608 28) (F14608 29) ∧ ((v14607 40).toInt < 0 → dp (F14608 28) (F14608 29) (bI (v 37)) (v14607 38).toInt.toNat = some (d + 1)); rw [show v14607 39 = v14560 39 from hf14609 39 (by decide)]; rw [show v14607 38 = v14560 38 from hf14609 38 (by decide)]; rw [show v14607 41 = v14560 41 from hf14609 41 (by decide)]; exact ⟨by omega, hk, fun hf => (hd (by omega)).trans (congrArg some (by omega))⟩)⟩, (by show va_P _ _ _ t.heap; rw [ht]; exact hP9)⟩, hS.F ht⟩) hS.2.2 dX12_either_104
            · skip
              have t14611 := cv_nlt (a := (v14560 40).toInt) rfl (b := 0) (by decide) c14567
              have hP9 : va_P (dC, dI) classes (wM g c v14560 F14561 rc) H := hP
              exact W.vret hx hb hr (fun t ht hW => ⟨⟨(v14560, F14561, rc), rfl, ⟨hI, rfl, (frC (by decide) hf14562 (frC (by decide) hf14548 (frC (by decide) hf14531 (frC (by decide) hf14521 (frU (by decide) (frC (by decide) hf14417 (fun _ _ => rfl))))))), hF, (by show ((v 39).toInt ≤ (v14560 39).toInt ∧ (v14560 39).toInt ≤ (v 30).toInt ∧ (v 38).toInt ≤ (v14560 38).toInt ∧ (v14560 38).toInt - (v 38).toInt ≤ (v14560 39).toInt - (v 39).toInt ∧ (v 41).toInt ≤ (v14560 41).toInt ∧ ((v14560 40).toInt < 0 → (v14560 41).toInt = (v 41).toInt)) ∧ keepL (v 37) (F 28) (F 29) (F14561 28) (F14561 29) ∧ ((v14560 40).toInt < 0 → dp (F14561 28) (F14561 29) (bI (v 37)) (v14560 38).toInt.toNat = some (d + 1)); exact ⟨by omega, hk, fun hf => (hd (by omega)).trans (congrArg some (by omega))⟩)⟩, (by show va_P _ _ _ t.heap; rw [ht]; exact hP9)⟩, hS.F ht⟩) hS.2.2 dX12_either_90
          · skip
            have t14612 := cv_eq (a := r14545.toInt) rfl (b := 0) (by decide) c14552
            have hP9 : va_P (dC, dI) classes (wM g c v14546 F14547 rc) H := hP
            exact W.vret hx hb hr (fun t ht hW => ⟨⟨(v14546, F14547, rc), rfl, ⟨hI, rfl, (frC (by decide) hf14548 (frC (by decide) hf14531 (frC (by decide) hf14521 (frU (by decide) (frC (by decide) hf14417 (fun _ _ => rfl)))))), hF, (by show ((v 39).toInt ≤ (v14546 39).toInt ∧ (v14546 39).toInt ≤ (v 30).toInt ∧ (v 38).toInt ≤ (v14546 38).toInt ∧ (v14546 38).toInt - (v 38).toInt ≤ (v14546 39).toInt - (v 39).toInt ∧ (v 41).toInt ≤ (v14546 41).toInt ∧ ((v14546 40).toInt < 0 → (v14546 41).toInt = (v 41).toInt)) ∧ keepL (v 37) (F 28) (F 29) (F14547 28) (F14547 29) ∧ ((v14546 40).toInt < 0 → dp (F14547 28) (F14547 29) (bI (v 37)) (v14546 38).toInt.toNat = some (d + 1)); rw [show v14546 38 = v14529 38 from hf14548 38 (by decide)]; exact ⟨by omega, hk, fun hf => (hd (by omega)).trans (congrArg some (by omega))⟩)⟩, (by show va_P _ _ _ t.heap; rw [ht]; exact hP9)⟩, hS.F ht⟩) hS.2.2 dX12_either_78
        · skip
          have t14613 := cv_ne (a := r14540.toInt) rfl (b := 63) (by decide) c14541
          have hP9 : va_P (dC, dI) classes (wM g c v14529 F14530 rc) H := hP
          exact W.vret hx hb hr (fun t ht hW => ⟨⟨(v14529, F14530, rc), rfl, ⟨hI, rfl, (frC (by decide) hf14531 (frC (by decide) hf14521 (frU (by decide) (frC (by decide) hf14417 (fun _ _ => rfl))))), hF, (by show ((v 39).toInt ≤ (v14529 39).toInt ∧ (v14529 39).toInt ≤ (v 30).toInt ∧ (v 38).toInt ≤ (v14529 38).toInt ∧ (v14529 38).toInt - (v 38).toInt ≤ (v14529 39).toInt - (v 39).toInt ∧ (v 41).toInt ≤ (v14529 41).toInt ∧ ((v14529 40).toInt < 0 → (v14529 41).toInt = (v 41).toInt)) ∧ keepL (v 37) (F 28) (F 29) (F14530 28) (F14530 29) ∧ ((v14529 40).toInt < 0 → dp (F14530 28) (F14530 29) (bI (v 37)) (v14529 38).toInt.toNat = some (d + 1)); rw [show v14529 39 = v14519 39 from hf14531 39 (by decide)]; rw [show v14529 41 = v14519 41 from hf14531 41 (by decide)]; rw [show v14529 40 = v14519 40 from hf14531 40 (by decide)]; exact ⟨by omega, hk, fun hf => (hd (by omega)).trans (congrArg some (by omega))⟩)⟩, (by show va_P _ _ _ t.heap; rw [ht]; exact hP9)⟩, hS.F ht⟩) hS.2.2 dX12_either_70
    · skip
      have t14614 := cv_ne (a := r14424.toInt) rfl (b := 60) (by decide) c14507
      refine lv_iload_n hx hb dX12_either_22 rfl (lv_at hl 0 rfl) ?_
      refine lv_bipush (v := 61) hx hb dX12_either_23 (by decide) ?_
      refine lv_icmp_eq (tgt := 34) hx hb dX12_either_25 (by decide) (fun c14615 => ?_) (fun c14615 => ?_)
      · skip
        have t14616 := cv_eq (a := r14424.toInt) rfl (b := 61) (by decide) c14615
        refine lv_aload_n hx hb dX12_either_34 rfl (lv_at hl 1 rfl) ?_
        refine lv_dup hx hb dX12_either_35 rfl ?_
        refine va_get (D := (dC, dI)) (ci := 12) (v := .int (v14415 39)) (C := RX12) (T := TX12) (N := 63) hx hb hwd inA_X12 hown hK hP 0 rfl rfl 39 (by decide) (hwd _ wk_1004) (fun _ h9 => h9) rfl dX12_either_36 ?_
        have t14617 : 0 ≤ (v14415 39).toInt ∧ (v14415 39).toInt ≤ 120 := hI.1 39 _ _ rfl
        refine lv_iconst (v := 1) hx hb dX12_either_39 (by decide) ?_
        refine lv_iadd hx hb dX12_either_40 ?_
        refine lv_topi (fun z14618 e14619 => ?_)
        try (have t14620 := tadd e14619 (a := (v14415 39).toInt) rfl (b := 1) (by decide) (by omega))
        refine va_put (D := (dC, dI)) (ci := 12) (v := .int z14618) (ty := .int) (C := RX12) (T := TX12) (N := 63) (fs := fsM_0 g v14415 rc) hx hb hwd inA_X12 tyX12 tyX12_ok nmX12 hown hK hP (DM hg) hS 0 rfl rfl 39 (by decide) (hwd _ wk_1004) (fun _ h9 => h9) rfl (by decide +kernel) rfl rfl (Nat.le_of_ble_eq_true rfl) dX12_either_41 (fun H locs hP _ hS => ?_)
        have hP := va_P_eq (pM_39 g c _ _ _ _) hP
        have hI := IM.put hI 39 z14618 rfl (by omega)
        refine lv_aload_n hx hb dX12_either_44 rfl (lv_at hl 1 rfl) ?_
        have t14621 : 0 ≤ (v 30).toInt ∧ (v 30).toInt ≤ 120 := by have h9 := hI.1 30 _ _ rfl; rw [show (va_up v14415 39 z14618) 30 = v 30 from hf14417 30 (by decide)] at h9; exact h9
        have t14622 : 0 ≤ (v 37).toInt ∧ (v 37).toInt ≤ 9 := by have h9 := hI.1 37 _ _ rfl; rw [show (va_up v14415 39 z14618) 37 = v 37 from hf14417 37 (by decide)] at h9; exact h9
        have t14623 : 0 ≤ (v14415 38).toInt ∧ (v14415 38).toInt ≤ 120 := hI.1 38 _ _ rfl
        have t14624 : 0 ≤ z14618.toInt ∧ z14618.toInt ≤ 120 := hI.1 39 _ _ rfl
        have t14625 : 0 ≤ (v14415 41).toInt ∧ (v14415 41).toInt ≤ 8 := hI.1 41 _ _ rfl
        refine va_callv (va_runV (As := []) (rest := []) ⟨hx, hb, hml, hown, hwd⟩ (c_X12_sum_6 l dC dI g c adK adV (va_up v14415 39 z14618) F14416 rc H.size  (d + 1) hg hI (by have h9 : (va_up v14415 39 z14618) 38 = v14415 38 := rfl; (try rw [h9]); clear h9; have h9 : (va_up v14415 39 z14618) 39 = z14618 := rfl; (try rw [h9]); clear h9; have h9 : (va_up v14415 39 z14618) 30 = v 30 := hf14417 30 (by decide); (try rw [h9]); clear h9; have h9 : (va_up v14415 39 z14618) 40 = v14415 40 := rfl; (try rw [h9]); clear h9; have h9 : (va_up v14415 39 z14618) 41 = v14415 41 := rfl; (try rw [h9]); clear h9; omega) (by have h9 : (va_up v14415 39 z14618) 37 = (v 37) := hf14417 37 (by decide); have h8 : (va_up v14415 39 z14618) 38 = (v14415 38) := rfl; (try rw [h9]); (try rw [h8]); exact hd (by omega))) (cwV 0 hwd (gV wk_1043 wk_1011 wk_1012 wk_1013 wk_5) rfl rfl rfl (by decide +kernel) ⟨Nat.le_of_ble_eq_true rfl, Nat.le_of_ble_eq_true rfl⟩) ⟨PM.blind, va_recv hK hP (ci := 12) (q0 := 0) rfl rfl, fun U hU hW => ⟨rfl, PM.at hK hE hP hS hU hW⟩⟩ rfl rfl hl.1 rfl (lv_room (Nat.le_of_ble_eq_true rfl)) dX12_either_45 ⟨Nat.le_of_ble_eq_true rfl, Nat.le_of_ble_eq_true rfl⟩) hS (fun q _ h => (freeM hS) q h) (freeM hS) (fun u t H1 locs ht hvm hw hB hz1 hk1 hS => ?_)
        unfold BM at hB
        rw [ht] at hB
        obtain ⟨v14627, F14628, rc9⟩ := u
        obtain ⟨hI, hrc, hf14629, hG14630, hw⟩ := hw
        dsimp only at hI hrc hB hf14629 hG14630 hw
        have hF := frCF (by decide) hG14630 hF
        rw [hrc] at hB
        have hP : va_P (dC, dI) classes (wM g c v14627 F14628 rc) H1 := hB
        have hw : (z14618.toInt ≤ (v14627 39).toInt ∧ (v14627 39).toInt ≤ ((va_up v14415 39 z14618) 30).toInt ∧ (v14415 38).toInt ≤ (v14627 38).toInt ∧ (v14627 38).toInt - (v14415 38).toInt ≤ (v14627 39).toInt - z14618.toInt ∧ (v14415 41).toInt ≤ (v14627 41).toInt ∧ ((v14627 40).toInt < 0 → (v14627 41).toInt = (v14415 41).toInt)) ∧ keepL ((va_up v14415 39 z14618) 37) (F14416 28) (F14416 29) (F14628 28) (F14628 29) ∧ ((v14627 40).toInt < 0 → dp (F14628 28) (F14628 29) (bI ((va_up v14415 39 z14618) 37)) (v14627 38).toInt.toNat = some ((d + 1) + 1)) := hw
        rw [show (va_up v14415 39 z14618) 30 = v 30 from hf14417 30 (by decide)] at hw
        rw [show (va_up v14415 39 z14618) 37 = v 37 from hf14417 37 (by decide)] at hw
        have hw_r14626 := hw
        have t14631 : 0 ≤ (v14627 38).toInt ∧ (v14627 38).toInt ≤ 120 := hI.1 38 _ _ rfl
        have t14632 : 0 ≤ (v14627 39).toInt ∧ (v14627 39).toInt ≤ 120 := hI.1 39 _ _ rfl
        have t14633 : 0 ≤ (v14627 41).toInt ∧ (v14627 41).toInt ≤ 8 := hI.1 41 _ _ rfl
        generalize H1 = H at hP hS ⊢
        have hk := hk.tr hw_r14626.2.1
        have hd := hw_r14626.2.2
        refine lv_aload_n hx hb dX12_either_48 rfl (lv_at hl 1 rfl) ?_
        refine lv_iload_n hx hb dX12_either_49 rfl (lv_at hl 0 rfl) ?_
        refine lv_iconst (v := 0) hx hb dX12_either_50 (by decide) ?_
        have t14634 : 0 ≤ (v 37).toInt ∧ (v 37).toInt ≤ 9 := by have h9 := hI.1 37 _ _ rfl; rw [show v14627 37 = v 37 from (hf14629 37 (by decide)).trans (hf14417 37 (by decide))] at h9; exact h9
        have t14635 : 0 ≤ (v14627 38).toInt ∧ (v14627 38).toInt ≤ 120 := hI.1 38 _ _ rfl
        refine va_callv (va_runV (As := [.int r14424, .int 0]) (rest := []) ⟨hx, hb, hml, hown, hwd⟩ (c_X12_lay l dC dI g c adK adV v14627 F14628 rc H.size r14424 0 hg hI (by have h9 : v14627 38 = v14627 38 := rfl; rw [h9]; omega)) (cwV 2 hwd (gV wk_1021 wk_1018 wk_1019 wk_1020 wk_5) rfl rfl rfl (by decide +kernel) ⟨Nat.le_of_ble_eq_true rfl, Nat.le_of_ble_eq_true rfl⟩) ⟨PM.blind, va_recv hK hP (ci := 12) (q0 := 0) rfl rfl, fun U hU hW => ⟨rfl, PM.at hK hE hP hS hU hW⟩⟩ rfl rfl hl.1 rfl (lv_room (Nat.le_of_ble_eq_true rfl)) dX12_either_51 ⟨Nat.le_of_ble_eq_true rfl, Nat.le_of_ble_eq_true rfl⟩) hS (fun q _ h => (freeM hS) q h) (freeM hS) (fun u t H1 locs ht hvm hw hB hz1 hk1 hS => ?_)
        unfold BM at hB
        rw [ht] at hB
        obtain ⟨v14637, F14638, rc9⟩ := u
        obtain ⟨hI, hrc, hf14639, hG14640, hw⟩ := hw
        dsimp only at hI hrc hB hf14639 hG14640 hw
        have hF := frCF (by decide) hG14640 hF
        rw [hrc] at hB
        have hP : va_P (dC, dI) classes (wM g c v14637 F14638 rc) H1 := hB
        have hw : (v14637 38).toInt = (v14627 38).toInt + 1 ∧ keepL (v14627 37) (F14628 28) (F14628 29) (F14638 28) (F14638 29) ∧ dp (F14638 28) (F14638 29) (bI (v14627 37)) ((v14627 38).toInt.toNat + 1) = dpS (dp (F14628 28) (F14628 29) (bI (v14627 37)) (v14627 38).toInt.toNat) r14424 (0 : Int32) := hw
        rw [show v14627 37 = v 37 from (hf14629 37 (by decide)).trans (hf14417 37 (by decide))] at hw
        have hw_r14636 := hw
        have t14641 : 0 ≤ (v14637 38).toInt ∧ (v14637 38).toInt ≤ 120 := hI.1 38 _ _ rfl
        have k14642 : (0 : Int32).toInt = 0 := by decide
        generalize H1 = H at hP hS ⊢
        have hk := hk.tr hw_r14636.2.1
        have hd : (v14627 40).toInt < 0 → dp (F14638 28) (F14638 29) (bI (v 37)) (v14637 38).toInt.toNat = some (((d + 1) + 1) - 1) := fun hf => (by have e9 : (v14637 38).toInt.toNat = (v14627 38).toInt.toNat + 1 := (by omega); rw [e9, hw_r14636.2.2, hd hf]; exact dpS_5 (by omega) (by omega) (by omega) (by omega) (by omega))
        refine lv_aload_n hx hb dX12_either_54 rfl (lv_at hl 1 rfl) ?_
        refine va_get (D := (dC, dI)) (ci := 12) (v := .int (v14637 40)) (C := RX12) (T := TX12) (N := 63) hx hb hwd inA_X12 hown hK hP 0 rfl rfl 40 (by decide) (hwd _ wk_1005) (fun _ h9 => h9) rfl dX12_either_55 ?_
        refine my_top (v := v14627 40) (hf14639 40 (by decide)) ?_
        refine lv_if_ge (tgt := 70) hx hb dX12_either_58 (by decide) (fun c14643 => ?_) (fun c14643 => ?_)
        · skip
          have t14644 := cv_le (a := 0) (by decide) (b := (v14627 40).toInt) rfl c14643
          have hP9 : va_P (dC, dI) classes (wM g c v14637 F14638 rc) H := hP
          exact W.vret hx hb hr (fun t ht hW => ⟨⟨(v14637, F14638, rc), rfl, ⟨hI, rfl, (frC (by decide) hf14639 (frC (by decide) hf14629 (frU (by decide) (frC (by decide) hf14417 (fun _ _ => rfl))))), hF, (by show ((v 39).toInt ≤ (v14637 39).toInt ∧ (v14637 39).toInt ≤ (v 30).toInt ∧ (v 38).toInt ≤ (v14637 38).toInt ∧ (v14637 38).toInt - (v 38).toInt ≤ (v14637 39).toInt - (v 39).toInt ∧ (v 41).toInt ≤ (v14637 41).toInt ∧ ((v14637 40).toInt < 0 → (v14637 41).toInt = (v 41).toInt)) ∧ keepL (v 37) (F 28) (F 29) (F14638 28) (F14638 29) ∧ ((v14637 40).toInt < 0 → dp (F14638 28) (F14638 29) (bI (v 37)) (v14637 38).toInt.toNat = some (d + 1)); rw [show v14637 39 = v14627 39 from hf14639 39 (by decide)]; rw [show v14637 41 = v14627 41 from hf14639 41 (by decide)]; rw [show v14637 40 = v14627 40 from hf14639 40 (by decide)]; exact ⟨by omega, hk, fun hf => (hd (by omega)).trans (congrArg some (by omega))⟩)⟩, (by show va_P _ _ _ t.heap; rw [ht]; exact hP9)⟩, hS.F ht⟩) hS.2.2 dX12_either_70
        · skip
          have t14645 := cv_nle (a := 0) (by decide) (b := (v14627 40).toInt) rfl c14643
          refine lv_aload_n hx hb dX12_either_61 rfl (lv_at hl 1 rfl) ?_
          have t14646 : 0 ≤ (v 30).toInt ∧ (v 30).toInt ≤ 120 := by have h9 := hI.1 30 _ _ rfl; rw [show v14637 30 = v 30 from (hf14639 30 (by decide)).trans ((hf14629 30 (by decide)).trans (hf14417 30 (by decide)))] at h9; exact h9
          have t14647 : 0 ≤ (v14627 39).toInt ∧ (v14627 39).toInt ≤ 120 := by have h9 := hI.1 39 _ _ rfl; rw [show v14637 39 = v14627 39 from hf14639 39 (by decide)] at h9; exact h9
          refine va_calli (va_runV (As := []) (rest := []) ⟨hx, hb, hml, hown, hwd⟩ (c_X12_look l dC dI g c adK adV v14637 F14638 rc H.size  hg hI ) (cwV 0 hwd (gV wk_1017 wk_1014 wk_1015 wk_1016 wk_5) rfl rfl rfl (by decide +kernel) ⟨Nat.le_of_ble_eq_true rfl, Nat.le_of_ble_eq_true rfl⟩) ⟨PM.blind, va_recv hK hP (ci := 12) (q0 := 0) rfl rfl, fun U hU hW => ⟨rfl, PM.at hK hE hP hS hU hW⟩⟩ rfl rfl hl.1 rfl (lv_room (Nat.le_of_ble_eq_true rfl)) dX12_either_62 ⟨Nat.le_of_ble_eq_true rfl, Nat.le_of_ble_eq_true rfl⟩) hS (fun q _ h => (freeM hS) q h) (freeM hS) (fun r14648 u t H1 locs ht hvm hw hB hz1 hk1 hS => ?_)
          unfold BM at hB
          rw [ht] at hB
          have hP : va_P (dC, dI) classes (wM g c v14637 F14638 rc) H1 := hB
          have hw : r14648.toInt = lkM (v14637 39) (v14637 30) (F14638 24) ∧ ((v14637 39).toInt < (v14637 30).toInt ∨ r14648.toInt = -1) := hw
          rw [show v14637 39 = v14627 39 from hf14639 39 (by decide)] at hw
          rw [show v14637 30 = v 30 from (hf14639 30 (by decide)).trans ((hf14629 30 (by decide)).trans (hf14417 30 (by decide)))] at hw
          rw [hF 24 (by decide)] at hw
          have hw_r14648 := hw
          generalize H1 = H at hP hS ⊢
          refine lv_bipush (v := 63) hx hb dX12_either_65 (by decide) ?_
          refine lv_icmp_eq (tgt := 71) hx hb dX12_either_67 (by decide) (fun c14649 => ?_) (fun c14649 => ?_)
          · skip
            have t14650 := cv_eq (a := r14648.toInt) rfl (b := 63) (by decide) c14649
            refine lv_aload_n hx hb dX12_either_71 rfl (lv_at hl 1 rfl) ?_
            have t14651 : 0 ≤ (v14627 39).toInt ∧ (v14627 39).toInt ≤ 120 := by have h9 := hI.1 39 _ _ rfl; rw [show v14637 39 = v14627 39 from hf14639 39 (by decide)] at h9; exact h9
            have t14652 : 0 ≤ (v14627 41).toInt ∧ (v14627 41).toInt ≤ 8 := by have h9 := hI.1 41 _ _ rfl; rw [show v14637 41 = v14627 41 from hf14639 41 (by decide)] at h9; exact h9
            refine va_calli (va_runV (As := []) (rest := []) ⟨hx, hb, hml, hown, hwd⟩ (c_X12_opens l dC dI g c adK adV v14637 F14638 rc H.size  hg hI (by have h9 : v14637 39 = v14627 39 := hf14639 39 (by decide); (try rw [h9]); clear h9; have h9 : v14637 30 = v 30 := (hf14639 30 (by decide)).trans ((hf14629 30 (by decide)).trans (hf14417 30 (by decide))); (try rw [h9]); clear h9; omega)) (cwV 0 hwd (gV wk_1025 wk_1022 wk_1023 wk_1024 wk_5) rfl rfl rfl (by decide +kernel) ⟨Nat.le_of_ble_eq_true rfl, Nat.le_of_ble_eq_true rfl⟩) ⟨PM.blind, va_recv hK hP (ci := 12) (q0 := 0) rfl rfl, fun U hU hW => ⟨rfl, PM.at hK hE hP hS hU hW⟩⟩ rfl rfl hl.1 rfl (lv_room (Nat.le_of_ble_eq_true rfl)) dX12_either_72 ⟨Nat.le_of_ble_eq_true rfl, Nat.le_of_ble_eq_true rfl⟩) hS (fun q _ h => (freeM hS) q h) (freeM hS) (fun r14653 u t H1 locs ht hvm hw hB hz1 hk1 hS => ?_)
            unfold BM at hB
            rw [ht] at hB
            obtain ⟨v14654, F14655, rc9⟩ := u
            obtain ⟨hI, hrc, hf14656, hG14657, hw⟩ := hw
            dsimp only at hI hrc hB hf14656 hG14657 hw
            have hF := frCF (by decide) hG14657 hF
            rw [hrc] at hB
            have hP : va_P (dC, dI) classes (wM g c v14654 F14655 rc) H1 := hB
            have hw : (r14653.toInt = 1 ∧ (v14637 41).toInt < 8 ∧ (v14654 41).toInt = (v14637 41).toInt + 1 ∧ (v14654 39).toInt = (v14637 39).toInt + 1 ∧ (v14654 40).toInt = (v14637 40).toInt) ∨ (r14653.toInt = 0 ∧ (v14637 41).toInt = 8 ∧ 0 ≤ (v14654 40).toInt ∧ (v14654 41).toInt = (v14637 41).toInt ∧ (v14654 39).toInt = (v14637 39).toInt) := hw
            rw [show v14637 41 = v14627 41 from hf14639 41 (by decide)] at hw
            rw [show v14637 39 = v14627 39 from hf14639 39 (by decide)] at hw
            rw [show v14637 40 = v14627 40 from hf14639 40 (by decide)] at hw
            have hw_r14653 := hw
            have t14658 : 0 ≤ (v14654 39).toInt ∧ (v14654 39).toInt ≤ 120 := hI.1 39 _ _ rfl
            have t14659 : 0 ≤ (v14654 41).toInt ∧ (v14654 41).toInt ≤ 8 := hI.1 41 _ _ rfl
            generalize H1 = H at hP hS ⊢
            have hk : keepL (v 37) (F 28) (F 29) (F14655 28) (F14655 29) := by rw [hG14657 28 (by decide), hG14657 29 (by decide)]; exact hk
            have hd : (v14654 40).toInt < 0 → dp (F14655 28) (F14655 29) (bI (v 37)) (v14637 38).toInt.toNat = some (((d + 1) + 1) - 1) := fun hf => (by rw [hG14657 28 (by decide), hG14657 29 (by decide)]; exact hd (by omega))
            refine lv_if_ne (tgt := 79) hx hb dX12_either_75 (by decide) (fun c14660 => ?_) (fun c14660 => ?_)
            · skip
              have t14661 := cv_ne (a := r14653.toInt) rfl (b := 0) (by decide) c14660
              refine lv_aload_n hx hb dX12_either_79 rfl (lv_at hl 1 rfl) ?_
              have t14662 : 0 ≤ (v 30).toInt ∧ (v 30).toInt ≤ 120 := by have h9 := hI.1 30 _ _ rfl; rw [show v14654 30 = v 30 from (hf14656 30 (by decide)).trans ((hf14639 30 (by decide)).trans ((hf14629 30 (by decide)).trans (hf14417 30 (by decide))))] at h9; exact h9
              have t14663 : 0 ≤ (v 37).toInt ∧ (v 37).toInt ≤ 9 := by have h9 := hI.1 37 _ _ rfl; rw [show v14654 37 = v 37 from (hf14656 37 (by decide)).trans ((hf14639 37 (by decide)).trans ((hf14629 37 (by decide)).trans (hf14417 37 (by decide))))] at h9; exact h9
              have t14664 : 0 ≤ (v14637 38).toInt ∧ (v14637 38).toInt ≤ 120 := by have h9 := hI.1 38 _ _ rfl; rw [show v14654 38 = v14637 38 from hf14656 38 (by decide)] at h9; exact h9
              have t14665 : 0 ≤ (v14654 39).toInt ∧ (v14654 39).toInt ≤ 120 := hI.1 39 _ _ rfl
              have t14666 : 0 ≤ (v14654 41).toInt ∧ (v14654 41).toInt ≤ 8 := hI.1 41 _ _ rfl
              refine va_callv (va_runV (As := []) (rest := []) ⟨hx, hb, hml, hown, hwd⟩ (c_X12_either_7 l dC dI g c adK adV v14654 F14655 rc H.size  (((d + 1) + 1) - 1) hg hI (by have h9 : v14654 38 = v14637 38 := hf14656 38 (by decide); (try rw [h9]); clear h9; have h9 : v14654 39 = v14654 39 := rfl; (try rw [h9]); clear h9; have h9 : v14654 30 = v 30 := (hf14656 30 (by decide)).trans ((hf14639 30 (by decide)).trans ((hf14629 30 (by decide)).trans (hf14417 30 (by decide)))); (try rw [h9]); clear h9; have h9 : v14654 40 = v14654 40 := rfl; (try rw [h9]); clear h9; have h9 : v14654 41 = v14654 41 := rfl; (try rw [h9]); clear h9; omega) (by have h9 : v14654 37 = (v 37) := (hf14656 37 (by decide)).trans ((hf14639 37 (by decide)).trans ((hf14629 37 (by decide)).trans (hf14417 37 (by decide)))); have h8 : v14654 38 = (v14637 38) := hf14656 38 (by decide); (try rw [h9]); (try rw [h8]); exact hd (by omega))) (cwV 0 hwd (gV wk_1010 wk_1007 wk_1008 wk_1009 wk_5) rfl rfl rfl (by decide +kernel) ⟨Nat.le_of_ble_eq_true rfl, Nat.le_of_ble_eq_true rfl⟩) ⟨PM.blind, va_recv hK hP (ci := 12) (q0 := 0) rfl rfl, fun U hU hW => ⟨rfl, PM.at hK hE hP hS hU hW⟩⟩ rfl rfl hl.1 rfl (lv_room (Nat.le_of_ble_eq_true rfl)) dX12_either_80 ⟨Nat.le_of_ble_eq_true rfl, Nat.le_of_ble_eq_true rfl⟩) hS (fun q _ h => (freeM hS) q h) (freeM hS) (fun u t H1 locs ht hvm hw hB hz1 hk1 hS => ?_)
              unfold BM at hB
              rw [ht] at hB
              obtain ⟨v14668, F14669, rc9⟩ := u
              obtain ⟨hI, hrc, hf14670, hG14671, hw⟩ := hw
              dsimp only at hI hrc hB hf14670 hG14671 hw
              have hF := frCF (by decide) hG14671 hF
              rw [hrc] at hB
              have hP : va_P (dC, dI) classes (wM g c v14668 F14669 rc) H1 := hB
              have hw : ((v14654 39).toInt ≤ (v14668 39).toInt ∧ (v14668 39).toInt ≤ (v14654 30).toInt ∧ (v14654 38).toInt ≤ (v14668 38).toInt ∧ (v14668 38).toInt - (v14654 38).toInt ≤ (v14668 39).toInt - (v14654 39).toInt ∧ (v14654 41).toInt ≤ (v14668 41).toInt ∧ ((v14668 40).toInt < 0 → (v14668 41).toInt = (v14654 41).toInt)) ∧ keepL (v14654 37) (F14655 28) (F14655 29) (F14669 28) (F14669 29) ∧ ((v14668 40).toInt < 0 → dp (F14669 28) (F14669 29) (bI (v14654 37)) (v14668 38).toInt.toNat = some ((((d + 1) + 1) - 1) + 1)) := hw
              rw [show v14654 30 = v 30 from (hf14656 30 (by decide)).trans ((hf14639 30 (by decide)).trans ((hf14629 30 (by decide)).trans (hf14417 30 (by decide))))] at hw
              rw [show v14654 38 = v14637 38 from hf14656 38 (by decide)] at hw
              rw [show v14654 37 = v 37 from (hf14656 37 (by decide)).trans ((hf14639 37 (by decide)).trans ((hf14629 37 (by decide)).trans (hf14417 37 (by decide))))] at hw
              have hw_r14667 := hw
              have t14672 : 0 ≤ (v14668 38).toInt ∧ (v14668 38).toInt ≤ 120 := hI.1 38 _ _ rfl
              have t14673 : 0 ≤ (v14668 39).toInt ∧ (v14668 39).toInt ≤ 120 := hI.1 39 _ _ rfl
              have t14674 : 0 ≤ (v14668 41).toInt ∧ (v14668 41).toInt ≤ 8 := hI.1 41 _ _ rfl
              generalize H1 = H at hP hS ⊢
              have hk := hk.tr hw_r14667.2.1
              have hd := hw_r14667.2.2
              refine lv_aload_n hx hb dX12_either_83 rfl (lv_at hl 1 rfl) ?_
              refine va_get (D := (dC, dI)) (ci := 12) (v := .int (v14668 40)) (C := RX12) (T := TX12) (N := 63) hx hb hwd inA_X12 hown hK hP 0 rfl rfl 40 (by decide) (hwd _ wk_1005) (fun _ h9 => h9) rfl dX12_either_84 ?_
              refine lv_if_lt (tgt := 91) hx hb dX12_either_87 (by decide) (fun c14675 => ?_) (fun c14675 => ?_)
              · skip
                have t14676 := cv_lt (a := (v14668 40).toInt) rfl (b := 0) (by decide) c14675
                refine lv_aload_n hx hb dX12_either_91 rfl (lv_at hl 1 rfl) ?_
                have t14677 : 0 ≤ (v 30).toInt ∧ (v 30).toInt ≤ 120 := by have h9 := hI.1 30 _ _ rfl; rw [show v14668 30 = v 30 from (hf14670 30 (by decide)).trans ((hf14656 30 (by decide)).trans ((hf14639 30 (by decide)).trans ((hf14629 30 (by decide)).trans (hf14417 30 (by decide)))))] at h9; exact h9
                have t14678 : 0 ≤ (v14668 39).toInt ∧ (v14668 39).toInt ≤ 120 := hI.1 39 _ _ rfl
                refine va_calli (va_runV (As := []) (rest := []) ⟨hx, hb, hml, hown, hwd⟩ (c_X12_look l dC dI g c adK adV v14668 F14669 rc H.size  hg hI ) (cwV 0 hwd (gV wk_1017 wk_1014 wk_1015 wk_1016 wk_5) rfl rfl rfl (by decide +kernel) ⟨Nat.le_of_ble_eq_true rfl, Nat.le_of_ble_eq_true rfl⟩) ⟨PM.blind, va_recv hK hP (ci := 12) (q0 := 0) rfl rfl, fun U hU hW => ⟨rfl, PM.at hK hE hP hS hU hW⟩⟩ rfl rfl hl.1 rfl (lv_room (Nat.le_of_ble_eq_true rfl)) dX12_either_92 ⟨Nat.le_of_ble_eq_true rfl, Nat.le_of_ble_eq_true rfl⟩) hS (fun q _ h => (freeM hS) q h) (freeM hS) (fun r14679 u t H1 locs ht hvm hw hB hz1 hk1 hS => ?_)
                unfold BM at hB
                rw [ht] at hB
                have hP : va_P (dC, dI) classes (wM g c v14668 F14669 rc) H1 := hB
                have hw : r14679.toInt = lkM (v14668 39) (v14668 30) (F14669 24) ∧ ((v14668 39).toInt < (v14668 30).toInt ∨ r14679.toInt = -1) := hw
                rw [show v14668 30 = v 30 from (hf14670 30 (by decide)).trans ((hf14656 30 (by decide)).trans ((hf14639 30 (by decide)).trans ((hf14629 30 (by decide)).trans (hf14417 30 (by decide)))))] at hw
                rw [hF 24 (by decide)] at hw
                have hw_r14679 := hw
                generalize H1 = H at hP hS ⊢
                refine lv_bipush (v := 58) hx hb dX12_either_95 (by decide) ?_
                refine lv_icmp_eq (tgt := 105) hx hb dX12_either_97 (by decide) (fun c14680 => ?_) (fun c14680 => ?_)
                · skip
                  have t14681 := cv_eq (a := r14679.toInt) rfl (b := 58) (by decide) c14680
                  refine lv_aload_n hx hb dX12_either_105 rfl (lv_at hl 1 rfl) ?_
                  refine lv_dup hx hb dX12_either_106 rfl ?_
                  refine va_get (D := (dC, dI)) (ci := 12) (v := .int (v14668 39)) (C := RX12) (T := TX12) (N := 63) hx hb hwd inA_X12 hown hK hP 0 rfl rfl 39 (by decide) (hwd _ wk_1004) (fun _ h9 => h9) rfl dX12_either_107 ?_
                  have t14682 : 0 ≤ (v14668 39).toInt ∧ (v14668 39).toInt ≤ 120 := hI.1 39 _ _ rfl
                  refine lv_iconst (v := 1) hx hb dX12_either_110 (by decide) ?_
                  refine lv_iadd hx hb dX12_either_111 ?_
                  refine lv_topi (fun z14683 e14684 => ?_)
                  try (have t14685 := tadd e14684 (a := (v14668 39).toInt) rfl (b := 1) (by decide) (by omega))
                  refine va_put (D := (dC, dI)) (ci := 12) (v := .int z14683) (ty := .int) (C := RX12) (T := TX12) (N := 63) (fs := fsM_0 g v14668 rc) hx hb hwd inA_X12 tyX12 tyX12_ok nmX12 hown hK hP (DM hg) hS 0 rfl rfl 39 (by decide) (hwd _ wk_1004) (fun _ h9 => h9) rfl (by decide +kernel) rfl rfl (Nat.le_of_ble_eq_true rfl) dX12_either_112 (fun H locs hP _ hS => ?_)
                  have hP := va_P_eq (pM_39 g c _ _ _ _) hP
                  have hI := IM.put hI 39 z14683 rfl (by omega)
                  refine lv_aload_n hx hb dX12_either_115 rfl (lv_at hl 1 rfl) ?_
                  have t14686 : 0 ≤ (v 30).toInt ∧ (v 30).toInt ≤ 120 := by have h9 := hI.1 30 _ _ rfl; rw [show (va_up v14668 39 z14683) 30 = v 30 from (hf14670 30 (by decide)).trans ((hf14656 30 (by decide)).trans ((hf14639 30 (by decide)).trans ((hf14629 30 (by decide)).trans (hf14417 30 (by decide)))))] at h9; exact h9
                  have t14687 : 0 ≤ (v 37).toInt ∧ (v 37).toInt ≤ 9 := by have h9 := hI.1 37 _ _ rfl; rw [show (va_up v14668 39 z14683) 37 = v 37 from (hf14670 37 (by decide)).trans ((hf14656 37 (by decide)).trans ((hf14639 37 (by decide)).trans ((hf14629 37 (by decide)).trans (hf14417 37 (by decide)))))] at h9; exact h9
                  have t14688 : 0 ≤ (v14668 38).toInt ∧ (v14668 38).toInt ≤ 120 := hI.1 38 _ _ rfl
                  have t14689 : 0 ≤ z14683.toInt ∧ z14683.toInt ≤ 120 := hI.1 39 _ _ rfl
                  have t14690 : 0 ≤ (v14668 41).toInt ∧ (v14668 41).toInt ≤ 8 := hI.1 41 _ _ rfl
                  refine va_callv (va_runV (As := []) (rest := []) ⟨hx, hb, hml, hown, hwd⟩ (c_X12_either_7 l dC dI g c adK adV (va_up v14668 39 z14683) F14669 rc H.size  ((((d + 1) + 1) - 1) + 1) hg hI (by have h9 : (va_up v14668 39 z14683) 38 = v14668 38 := rfl; (try rw [h9]); clear h9; have h9 : (va_up v14668 39 z14683) 39 = z14683 := rfl; (try rw [h9]); clear h9; have h9 : (va_up v14668 39 z14683) 30 = v 30 := (hf14670 30 (by decide)).trans ((hf14656 30 (by decide)).trans ((hf14639 30 (by decide)).trans ((hf14629 30 (by decide)).trans (hf14417 30 (by decide))))); (try rw [h9]); clear h9; have h9 : (va_up v14668 39 z14683) 40 = v14668 40 := rfl; (try rw [h9]); clear h9; have h9 : (va_up v14668 39 z14683) 41 = v14668 41 := rfl; (try rw [h9]); clear h9; omega) (by have h9 : (va_up v14668 39 z14683) 37 = (v 37) := (hf14670 37 (by decide)).trans ((hf14656 37 (by decide)).trans ((hf14639 37 (by decide)).trans ((hf14629 37 (by decide)).trans (hf14417 37 (by decide))))); have h8 : (va_up v14668 39 z14683) 38 = (v14668 38) := rfl; (try rw [h9]); (try rw [h8]); exact hd (by omega))) (cwV 0 hwd (gV wk_1010 wk_1007 wk_1008 wk_1009 wk_5) rfl rfl rfl (by decide +kernel) ⟨Nat.le_of_ble_eq_true rfl, Nat.le_of_ble_eq_true rfl⟩) ⟨PM.blind, va_recv hK hP (ci := 12) (q0 := 0) rfl rfl, fun U hU hW => ⟨rfl, PM.at hK hE hP hS hU hW⟩⟩ rfl rfl hl.1 rfl (lv_room (Nat.le_of_ble_eq_true rfl)) dX12_either_116 ⟨Nat.le_of_ble_eq_true rfl, Nat.le_of_ble_eq_true rfl⟩) hS (fun q _ h => (freeM hS) q h) (freeM hS) (fun u t H1 locs ht hvm hw hB hz1 hk1 hS => ?_)
                  unfold BM at hB
                  rw [ht] at hB
                  obtain ⟨v14692, F14693, rc9⟩ := u
                  obtain ⟨hI, hrc, hf14694, hG14695, hw⟩ := hw
                  dsimp only at hI hrc hB hf14694 hG14695 hw
                  have hF := frCF (by decide) hG14695 hF
                  rw [hrc] at hB
                  have hP : va_P (dC, dI) classes (wM g c v14692 F14693 rc) H1 := hB
                  have hw : (z14683.toInt ≤ (v14692 39).toInt ∧ (v14692 39).toInt ≤ ((va_up v14668 39 z14683) 30).toInt ∧ (v14668 38).toInt ≤ (v14692 38).toInt ∧ (v14692 38).toInt - (v14668 38).toInt ≤ (v14692 39).toInt - z14683.toInt ∧ (v14668 41).toInt ≤ (v14692 41).toInt ∧ ((v14692 40).toInt < 0 → (v14692 41).toInt = (v14668 41).toInt)) ∧ keepL ((va_up v14668 39 z14683) 37) (F14669 28) (F14669 29) (F14693 28) (F14693 29) ∧ ((v14692 40).toInt < 0 → dp (F14693 28) (F14693 29) (bI ((va_up v14668 39 z14683) 37)) (v14692 38).toInt.toNat = some (((((d + 1) + 1) - 1) + 1) + 1)) := hw
                  rw [show (va_up v14668 39 z14683) 30 = v 30 from (hf14670 30 (by decide)).trans ((hf14656 30 (by decide)).trans ((hf14639 30 (by decide)).trans ((hf14629 30 (by decide)).trans (hf14417 30 (by decide)))))] at hw
                  rw [show (va_up v14668 39 z14683) 37 = v 37 from (hf14670 37 (by decide)).trans ((hf14656 37 (by decide)).trans ((hf14639 37 (by decide)).trans ((hf14629 37 (by decide)).trans (hf14417 37 (by decide)))))] at hw
                  have hw_r14691 := hw
                  have t14696 : 0 ≤ (v14692 38).toInt ∧ (v14692 38).toInt ≤ 120 := hI.1 38 _ _ rfl
                  have t14697 : 0 ≤ (v14692 39).toInt ∧ (v14692 39).toInt ≤ 120 := hI.1 39 _ _ rfl
                  have t14698 : 0 ≤ (v14692 41).toInt ∧ (v14692 41).toInt ≤ 8 := hI.1 41 _ _ rfl
                  generalize H1 = H at hP hS ⊢
                  have hk := hk.tr hw_r14691.2.1
                  have hd := hw_r14691.2.2
                  refine lv_aload_n hx hb dX12_either_119 rfl (lv_at hl 1 rfl) ?_
                  refine lv_iconst (v := 4) hx hb dX12_either_120 (by decide) ?_
                  refine lv_iconst (v := 0) hx hb dX12_either_121 (by decide) ?_
                  have t14699 : 0 ≤ (v 37).toInt ∧ (v 37).toInt ≤ 9 := by have h9 := hI.1 37 _ _ rfl; rw [show v14692 37 = v 37 from (hf14694 37 (by decide)).trans ((hf14670 37 (by decide)).trans ((hf14656 37 (by decide)).trans ((hf14639 37 (by decide)).trans ((hf14629 37 (by decide)).trans (hf14417 37 (by decide))))))] at h9; exact h9
                  have t14700 : 0 ≤ (v14692 38).toInt ∧ (v14692 38).toInt ≤ 120 := hI.1 38 _ _ rfl
                  refine va_callv (va_runV (As := [.int 4, .int 0]) (rest := []) ⟨hx, hb, hml, hown, hwd⟩ (c_X12_lay l dC dI g c adK adV v14692 F14693 rc H.size 4 0 hg hI (by have h9 : v14692 38 = v14692 38 := rfl; rw [h9]; omega)) (cwV 2 hwd (gV wk_1021 wk_1018 wk_1019 wk_1020 wk_5) rfl rfl rfl (by decide +kernel) ⟨Nat.le_of_ble_eq_true rfl, Nat.le_of_ble_eq_true rfl⟩) ⟨PM.blind, va_recv hK hP (ci := 12) (q0 := 0) rfl rfl, fun U hU hW => ⟨rfl, PM.at hK hE hP hS hU hW⟩⟩ rfl rfl hl.1 rfl (lv_room (Nat.le_of_ble_eq_true rfl)) dX12_either_122 ⟨Nat.le_of_ble_eq_true rfl, Nat.le_of_ble_eq_true rfl⟩) hS (fun q _ h => (freeM hS) q h) (freeM hS) (fun u t H1 locs ht hvm hw hB hz1 hk1 hS => ?_)
                  unfold BM at hB
                  rw [ht] at hB
                  obtain ⟨v14702, F14703, rc9⟩ := u
                  obtain ⟨hI, hrc, hf14704, hG14705, hw⟩ := hw
                  dsimp only at hI hrc hB hf14704 hG14705 hw
                  have hF := frCF (by decide) hG14705 hF
                  rw [hrc] at hB
                  have hP : va_P (dC, dI) classes (wM g c v14702 F14703 rc) H1 := hB
                  have hw : (v14702 38).toInt = (v14692 38).toInt + 1 ∧ keepL (v14692 37) (F14693 28) (F14693 29) (F14703 28) (F14703 29) ∧ dp (F14703 28) (F14703 29) (bI (v14692 37)) ((v14692 38).toInt.toNat + 1) = dpS (dp (F14693 28) (F14693 29) (bI (v14692 37)) (v14692 38).toInt.toNat) (4 : Int32) (0 : Int32) := hw
                  rw [show v14692 37 = v 37 from (hf14694 37 (by decide)).trans ((hf14670 37 (by decide)).trans ((hf14656 37 (by decide)).trans ((hf14639 37 (by decide)).trans ((hf14629 37 (by decide)).trans (hf14417 37 (by decide))))))] at hw
                  have hw_r14701 := hw
                  have t14706 : 0 ≤ (v14702 38).toInt ∧ (v14702 38).toInt ≤ 120 := hI.1 38 _ _ rfl
                  have k14707 : (4 : Int32).toInt = 4 := by decide
                  have k14708 : (0 : Int32).toInt = 0 := by decide
                  generalize H1 = H at hP hS ⊢
                  have hk := hk.tr hw_r14701.2.1
                  have hd : (v14692 40).toInt < 0 → dp (F14703 28) (F14703 29) (bI (v 37)) (v14702 38).toInt.toNat = some ((((((d + 1) + 1) - 1) + 1) + 1) - 2) := fun hf => (by have e9 : (v14702 38).toInt.toNat = (v14692 38).toInt.toNat + 1 := (by omega); rw [e9, hw_r14701.2.2, hd hf]; exact dpS_4 (by decide) (by omega))
                  refine lv_aload_n hx hb dX12_either_125 rfl (lv_at hl 1 rfl) ?_
                  refine lv_dup hx hb dX12_either_126 rfl ?_
                  refine va_get (D := (dC, dI)) (ci := 12) (v := .int (v14702 41)) (C := RX12) (T := TX12) (N := 63) hx hb hwd inA_X12 hown hK hP 0 rfl rfl 41 (by decide) (hwd _ wk_1006) (fun _ h9 => h9) rfl dX12_either_127 ?_
                  refine my_top (v := v14692 41) (hf14704 41 (by decide)) ?_
                  have t14709 : 0 ≤ (v14692 41).toInt ∧ (v14692 41).toInt ≤ 8 := by have h9 := hI.1 41 _ _ rfl; rw [show v14702 41 = v14692 41 from hf14704 41 (by decide)] at h9; exact h9
                  refine lv_iconst (v := 1) hx hb dX12_either_130 (by decide) ?_
                  refine lv_isub hx hb dX12_either_131 ?_
                  refine lv_topi (fun z14710 e14711 => ?_)
                  try (have t14712 := tsub e14711 (a := (v14692 41).toInt) rfl (b := 1) (by decide) (by omega))
                  refine va_put (D := (dC, dI)) (ci := 12) (v := .int z14710) (ty := .int) (C := RX12) (T := TX12) (N := 63) (fs := fsM_0 g v14702 rc) hx hb hwd inA_X12 tyX12 tyX12_ok nmX12 hown hK hP (DM hg) hS 0 rfl rfl 41 (by decide) (hwd _ wk_1006) (fun _ h9 => h9) rfl (by decide +kernel) rfl rfl (Nat.le_of_ble_eq_true rfl) dX12_either_132 (fun H locs hP _ hS => ?_)
                  have hP := va_P_eq (pM_41 g c _ _ _ _) hP
                  have hI := IM.put hI 41 z14710 rfl (by omega)
                  have hP9 : va_P (dC, dI) classes (wM g c (va_up v14702 41 z14710) F14703 rc) H := hP
                  exact W.vret hx hb hr (fun t ht hW => ⟨⟨((va_up v14702 41 z14710), F14703, rc), rfl, ⟨hI, rfl, (frU (by decide) (frC (by decide) hf14704 (frC (by decide) hf14694 (frU (by decide) (frC (by decide) hf14670 (frC (by decide) hf14656 (frC (by decide) hf14639 (frC (by decide) hf14629 (frU (by decide) (frC (by decide) hf14417 (fun _ _ => rfl))))))))))), hF, (by show ((v 39).toInt ≤ ((va_up v14702 41 z14710) 39).toInt ∧ ((va_up v14702 41 z14710) 39).toInt ≤ (v 30).toInt ∧ (v 38).toInt ≤ (v14702 38).toInt ∧ (v14702 38).toInt - (v 38).toInt ≤ ((va_up v14702 41 z14710) 39).toInt - (v 39).toInt ∧ (v 41).toInt ≤ z14710.toInt ∧ (((va_up v14702 41 z14710) 40).toInt < 0 → z14710.toInt = (v 41).toInt)) ∧ keepL (v 37) (F 28) (F 29) (F14703 28) (F14703 29) ∧ (((va_up v14702 41 z14710) 40).toInt < 0 → dp (F14703 28) (F14703 29) (bI (v 37)) (v14702 38).toInt.toNat = some (d + 1)); rw [show (va_up v14702 41 z14710) 39 = v14692 39 from hf14704 39 (by decide)]; rw [show (va_up v14702 41 z14710) 40 = v14692 40 from hf14704 40 (by decide)]; exact ⟨by omega, hk, fun hf => (hd (by omega)).trans (congrArg some (by omega))⟩)⟩, (by show va_P _ _ _ t.heap; rw [ht]; exact hP9)⟩, hS.F ht⟩) hS.2.2 dX12_either_135
                · skip
                  have t14713 := cv_ne (a := r14679.toInt) rfl (b := 58) (by decide) c14680
                  refine lv_aload_n hx hb dX12_either_100 rfl (lv_at hl 1 rfl) ?_
                  refine va_callv (va_runV (As := []) (rest := []) ⟨hx, hb, hml, hown, hwd⟩ (c_X12_wrong l dC dI g c adK adV v14668 F14669 rc H.size  hg hI ) (cwV 0 hwd (gV wk_1029 wk_1026 wk_1027 wk_1028 wk_5) rfl rfl rfl (by decide +kernel) ⟨Nat.le_of_ble_eq_true rfl, Nat.le_of_ble_eq_true rfl⟩) ⟨PM.blind, va_recv hK hP (ci := 12) (q0 := 0) rfl rfl, fun U hU hW => ⟨rfl, PM.at hK hE hP hS hU hW⟩⟩ rfl rfl hl.1 rfl (lv_room (Nat.le_of_ble_eq_true rfl)) dX12_either_101 ⟨Nat.le_of_ble_eq_true rfl, Nat.le_of_ble_eq_true rfl⟩) hS (fun q _ h => (freeM hS) q h) (freeM hS) (fun u t H1 locs ht hvm hw hB hz1 hk1 hS => ?_)
                  unfold BM at hB
                  rw [ht] at hB
                  obtain ⟨v14715, F14716, rc9⟩ := u
                  obtain ⟨hI, hrc, hf14717, hG14718, hw⟩ := hw
                  dsimp only at hI hrc hB hf14717 hG14718 hw
                  have hF := frCF (by decide) hG14718 hF
                  rw [hrc] at hB
                  have hP : va_P (dC, dI) classes (wM g c v14715 F14716 rc) H1 := hB
                  have hw : 0 ≤ (v14715 40).toInt := hw
                  have hw_r14714 := hw
                  generalize H1 = H at hP hS ⊢
                  have hk : keepL (v 37) (F 28) (F 29) (F14716 28) (F14716 29) := by rw [hG14718 28 (by decide), hG14718 29 (by decide)]; exact hk
                  have hd : (v14715 40).toInt < 0 → dp (F14716 28) (F14716 29) (bI (v 37)) (v14668 38).toInt.toNat = some ((((d + 1) + 1) - 1) + 1) := fun hf => (by rw [hG14718 28 (by decide), hG14718 29 (by decide)]; exact hd (by omega))
                  have hP9 : va_P (dC, dI) classes (wM g c v14715 F14716 rc) H := hP
                  exact W.vret hx hb hr (fun t ht hW => ⟨⟨(v14715, F14716, rc), rfl, ⟨hI, rfl, (frC (by decide) hf14717 (frC (by decide) hf14670 (frC (by decide) hf14656 (frC (by decide) hf14639 (frC (by decide) hf14629 (frU (by decide) (frC (by decide) hf14417 (fun _ _ => rfl)))))))), hF, (by show ((v 39).toInt ≤ (v14715 39).toInt ∧ (v14715 39).toInt ≤ (v 30).toInt ∧ (v 38).toInt ≤ (v14715 38).toInt ∧ (v14715 38).toInt - (v 38).toInt ≤ (v14715 39).toInt - (v 39).toInt ∧ (v 41).toInt ≤ (v14715 41).toInt ∧ ((v14715 40).toInt < 0 → (v14715 41).toInt = (v 41).toInt)) ∧ keepL (v 37) (F 28) (F 29) (F14716 28) (F14716 29) ∧ ((v14715 40).toInt < 0 → dp (F14716 28) (F14716 29) (bI (v 37)) (v14715 38).toInt.toNat = some (d + 1)); rw [show v14715 39 = v14668 39 from hf14717 39 (by decide)]; rw [show v14715 38 = v14668 38 from hf14717 38 (by decide)]; rw [show v14715 41 = v14668 41 from hf14717 41 (by decide)]; exact ⟨by omega, hk, fun hf => (hd (by omega)).trans (congrArg some (by omega))⟩)⟩, (by show va_P _ _ _ t.heap; rw [ht]; exact hP9)⟩, hS.F ht⟩) hS.2.2 dX12_either_104
              · skip
                have t14719 := cv_nlt (a := (v14668 40).toInt) rfl (b := 0) (by decide) c14675
                have hP9 : va_P (dC, dI) classes (wM g c v14668 F14669 rc) H := hP
                exact W.vret hx hb hr (fun t ht hW => ⟨⟨(v14668, F14669, rc), rfl, ⟨hI, rfl, (frC (by decide) hf14670 (frC (by decide) hf14656 (frC (by decide) hf14639 (frC (by decide) hf14629 (frU (by decide) (frC (by decide) hf14417 (fun _ _ => rfl))))))), hF, (by show ((v 39).toInt ≤ (v14668 39).toInt ∧ (v14668 39).toInt ≤ (v 30).toInt ∧ (v 38).toInt ≤ (v14668 38).toInt ∧ (v14668 38).toInt - (v 38).toInt ≤ (v14668 39).toInt - (v 39).toInt ∧ (v 41).toInt ≤ (v14668 41).toInt ∧ ((v14668 40).toInt < 0 → (v14668 41).toInt = (v 41).toInt)) ∧ keepL (v 37) (F 28) (F 29) (F14669 28) (F14669 29) ∧ ((v14668 40).toInt < 0 → dp (F14669 28) (F14669 29) (bI (v 37)) (v14668 38).toInt.toNat = some (d + 1)); exact ⟨by omega, hk, fun hf => (hd (by omega)).trans (congrArg some (by omega))⟩)⟩, (by show va_P _ _ _ t.heap; rw [ht]; exact hP9)⟩, hS.F ht⟩) hS.2.2 dX12_either_90
            · skip
              have t14720 := cv_eq (a := r14653.toInt) rfl (b := 0) (by decide) c14660
              have hP9 : va_P (dC, dI) classes (wM g c v14654 F14655 rc) H := hP
              exact W.vret hx hb hr (fun t ht hW => ⟨⟨(v14654, F14655, rc), rfl, ⟨hI, rfl, (frC (by decide) hf14656 (frC (by decide) hf14639 (frC (by decide) hf14629 (frU (by decide) (frC (by decide) hf14417 (fun _ _ => rfl)))))), hF, (by show ((v 39).toInt ≤ (v14654 39).toInt ∧ (v14654 39).toInt ≤ (v 30).toInt ∧ (v 38).toInt ≤ (v14654 38).toInt ∧ (v14654 38).toInt - (v 38).toInt ≤ (v14654 39).toInt - (v 39).toInt ∧ (v 41).toInt ≤ (v14654 41).toInt ∧ ((v14654 40).toInt < 0 → (v14654 41).toInt = (v 41).toInt)) ∧ keepL (v 37) (F 28) (F 29) (F14655 28) (F14655 29) ∧ ((v14654 40).toInt < 0 → dp (F14655 28) (F14655 29) (bI (v 37)) (v14654 38).toInt.toNat = some (d + 1)); rw [show v14654 38 = v14637 38 from hf14656 38 (by decide)]; exact ⟨by omega, hk, fun hf => (hd (by omega)).trans (congrArg some (by omega))⟩)⟩, (by show va_P _ _ _ t.heap; rw [ht]; exact hP9)⟩, hS.F ht⟩) hS.2.2 dX12_either_78
          · skip
            have t14721 := cv_ne (a := r14648.toInt) rfl (b := 63) (by decide) c14649
            have hP9 : va_P (dC, dI) classes (wM g c v14637 F14638 rc) H := hP
            exact W.vret hx hb hr (fun t ht hW => ⟨⟨(v14637, F14638, rc), rfl, ⟨hI, rfl, (frC (by decide) hf14639 (frC (by decide) hf14629 (frU (by decide) (frC (by decide) hf14417 (fun _ _ => rfl))))), hF, (by show ((v 39).toInt ≤ (v14637 39).toInt ∧ (v14637 39).toInt ≤ (v 30).toInt ∧ (v 38).toInt ≤ (v14637 38).toInt ∧ (v14637 38).toInt - (v 38).toInt ≤ (v14637 39).toInt - (v 39).toInt ∧ (v 41).toInt ≤ (v14637 41).toInt ∧ ((v14637 40).toInt < 0 → (v14637 41).toInt = (v 41).toInt)) ∧ keepL (v 37) (F 28) (F 29) (F14638 28) (F14638 29) ∧ ((v14637 40).toInt < 0 → dp (F14638 28) (F14638 29) (bI (v 37)) (v14637 38).toInt.toNat = some (d + 1)); rw [show v14637 39 = v14627 39 from hf14639 39 (by decide)]; rw [show v14637 41 = v14627 41 from hf14639 41 (by decide)]; rw [show v14637 40 = v14627 40 from hf14639 40 (by decide)]; exact ⟨by omega, hk, fun hf => (hd (by omega)).trans (congrArg some (by omega))⟩)⟩, (by show va_P _ _ _ t.heap; rw [ht]; exact hP9)⟩, hS.F ht⟩) hS.2.2 dX12_either_70
      · skip
        have t14722 := cv_ne (a := r14424.toInt) rfl (b := 61) (by decide) c14615
        refine lv_iload_n hx hb dX12_either_28 rfl (lv_at hl 0 rfl) ?_
        refine lv_bipush (v := 62) hx hb dX12_either_29 (by decide) ?_
        refine lv_icmp_ne (tgt := 54) hx hb dX12_either_31 (by decide) (fun c14723 => ?_) (fun c14723 => ?_)
        · skip
          have t14724 := cv_ne (a := r14424.toInt) rfl (b := 62) (by decide) c14723
          refine lv_aload_n hx hb dX12_either_54 rfl (lv_at hl 1 rfl) ?_
          refine va_get (D := (dC, dI)) (ci := 12) (v := .int (v14415 40)) (C := RX12) (T := TX12) (N := 63) hx hb hwd inA_X12 hown hK hP 0 rfl rfl 40 (by decide) (hwd _ wk_1005) (fun _ h9 => h9) rfl dX12_either_55 ?_
          refine lv_if_ge (tgt := 70) hx hb dX12_either_58 (by decide) (fun c14725 => ?_) (fun c14725 => ?_)
          · skip
            have t14726 := cv_le (a := 0) (by decide) (b := (v14415 40).toInt) rfl c14725
            have hP9 : va_P (dC, dI) classes (wM g c v14415 F14416 rc) H := hP
            exact W.vret hx hb hr (fun t ht hW => ⟨⟨(v14415, F14416, rc), rfl, ⟨hI, rfl, (frC (by decide) hf14417 (fun _ _ => rfl)), hF, (by show ((v 39).toInt ≤ (v14415 39).toInt ∧ (v14415 39).toInt ≤ (v 30).toInt ∧ (v 38).toInt ≤ (v14415 38).toInt ∧ (v14415 38).toInt - (v 38).toInt ≤ (v14415 39).toInt - (v 39).toInt ∧ (v 41).toInt ≤ (v14415 41).toInt ∧ ((v14415 40).toInt < 0 → (v14415 41).toInt = (v 41).toInt)) ∧ keepL (v 37) (F 28) (F 29) (F14416 28) (F14416 29) ∧ ((v14415 40).toInt < 0 → dp (F14416 28) (F14416 29) (bI (v 37)) (v14415 38).toInt.toNat = some (d + 1)); exact ⟨by omega, hk, fun hf => (hd (by omega)).trans (congrArg some (by omega))⟩)⟩, (by show va_P _ _ _ t.heap; rw [ht]; exact hP9)⟩, hS.F ht⟩) hS.2.2 dX12_either_70
          · skip
            have t14727 := cv_nle (a := 0) (by decide) (b := (v14415 40).toInt) rfl c14725
            refine lv_aload_n hx hb dX12_either_61 rfl (lv_at hl 1 rfl) ?_
            have t14728 : 0 ≤ (v 30).toInt ∧ (v 30).toInt ≤ 120 := by have h9 := hI.1 30 _ _ rfl; rw [show v14415 30 = v 30 from hf14417 30 (by decide)] at h9; exact h9
            have t14729 : 0 ≤ (v14415 39).toInt ∧ (v14415 39).toInt ≤ 120 := hI.1 39 _ _ rfl
            refine va_calli (va_runV (As := []) (rest := []) ⟨hx, hb, hml, hown, hwd⟩ (c_X12_look l dC dI g c adK adV v14415 F14416 rc H.size  hg hI ) (cwV 0 hwd (gV wk_1017 wk_1014 wk_1015 wk_1016 wk_5) rfl rfl rfl (by decide +kernel) ⟨Nat.le_of_ble_eq_true rfl, Nat.le_of_ble_eq_true rfl⟩) ⟨PM.blind, va_recv hK hP (ci := 12) (q0 := 0) rfl rfl, fun U hU hW => ⟨rfl, PM.at hK hE hP hS hU hW⟩⟩ rfl rfl hl.1 rfl (lv_room (Nat.le_of_ble_eq_true rfl)) dX12_either_62 ⟨Nat.le_of_ble_eq_true rfl, Nat.le_of_ble_eq_true rfl⟩) hS (fun q _ h => (freeM hS) q h) (freeM hS) (fun r14730 u t H1 locs ht hvm hw hB hz1 hk1 hS => ?_)
            unfold BM at hB
            rw [ht] at hB
            have hP : va_P (dC, dI) classes (wM g c v14415 F14416 rc) H1 := hB
            have hw : r14730.toInt = lkM (v14415 39) (v14415 30) (F14416 24) ∧ ((v14415 39).toInt < (v14415 30).toInt ∨ r14730.toInt = -1) := hw
            rw [show v14415 30 = v 30 from hf14417 30 (by decide)] at hw
            rw [hF 24 (by decide)] at hw
            have hw_r14730 := hw
            generalize H1 = H at hP hS ⊢
            refine lv_bipush (v := 63) hx hb dX12_either_65 (by decide) ?_
            refine lv_icmp_eq (tgt := 71) hx hb dX12_either_67 (by decide) (fun c14731 => ?_) (fun c14731 => ?_)
            · skip
              have t14732 := cv_eq (a := r14730.toInt) rfl (b := 63) (by decide) c14731
              refine lv_aload_n hx hb dX12_either_71 rfl (lv_at hl 1 rfl) ?_
              have t14733 : 0 ≤ (v14415 39).toInt ∧ (v14415 39).toInt ≤ 120 := hI.1 39 _ _ rfl
              have t14734 : 0 ≤ (v14415 41).toInt ∧ (v14415 41).toInt ≤ 8 := hI.1 41 _ _ rfl
              refine va_calli (va_runV (As := []) (rest := []) ⟨hx, hb, hml, hown, hwd⟩ (c_X12_opens l dC dI g c adK adV v14415 F14416 rc H.size  hg hI (by have h9 : v14415 39 = v14415 39 := rfl; (try rw [h9]); clear h9; have h9 : v14415 30 = v 30 := hf14417 30 (by decide); (try rw [h9]); clear h9; omega)) (cwV 0 hwd (gV wk_1025 wk_1022 wk_1023 wk_1024 wk_5) rfl rfl rfl (by decide +kernel) ⟨Nat.le_of_ble_eq_true rfl, Nat.le_of_ble_eq_true rfl⟩) ⟨PM.blind, va_recv hK hP (ci := 12) (q0 := 0) rfl rfl, fun U hU hW => ⟨rfl, PM.at hK hE hP hS hU hW⟩⟩ rfl rfl hl.1 rfl (lv_room (Nat.le_of_ble_eq_true rfl)) dX12_either_72 ⟨Nat.le_of_ble_eq_true rfl, Nat.le_of_ble_eq_true rfl⟩) hS (fun q _ h => (freeM hS) q h) (freeM hS) (fun r14735 u t H1 locs ht hvm hw hB hz1 hk1 hS => ?_)
              unfold BM at hB
              rw [ht] at hB
              obtain ⟨v14736, F14737, rc9⟩ := u
              obtain ⟨hI, hrc, hf14738, hG14739, hw⟩ := hw
              dsimp only at hI hrc hB hf14738 hG14739 hw
              have hF := frCF (by decide) hG14739 hF
              rw [hrc] at hB
              have hP : va_P (dC, dI) classes (wM g c v14736 F14737 rc) H1 := hB
              have hw : (r14735.toInt = 1 ∧ (v14415 41).toInt < 8 ∧ (v14736 41).toInt = (v14415 41).toInt + 1 ∧ (v14736 39).toInt = (v14415 39).toInt + 1 ∧ (v14736 40).toInt = (v14415 40).toInt) ∨ (r14735.toInt = 0 ∧ (v14415 41).toInt = 8 ∧ 0 ≤ (v14736 40).toInt ∧ (v14736 41).toInt = (v14415 41).toInt ∧ (v14736 39).toInt = (v14415 39).toInt) := hw
              have hw_r14735 := hw
              have t14740 : 0 ≤ (v14736 39).toInt ∧ (v14736 39).toInt ≤ 120 := hI.1 39 _ _ rfl
              have t14741 : 0 ≤ (v14736 41).toInt ∧ (v14736 41).toInt ≤ 8 := hI.1 41 _ _ rfl
              generalize H1 = H at hP hS ⊢
              have hk : keepL (v 37) (F 28) (F 29) (F14737 28) (F14737 29) := by rw [hG14739 28 (by decide), hG14739 29 (by decide)]; exact hk
              have hd : (v14736 40).toInt < 0 → dp (F14737 28) (F14737 29) (bI (v 37)) (v14415 38).toInt.toNat = some (d + 1) := fun hf => (by rw [hG14739 28 (by decide), hG14739 29 (by decide)]; exact hd (by omega))
              refine lv_if_ne (tgt := 79) hx hb dX12_either_75 (by decide) (fun c14742 => ?_) (fun c14742 => ?_)
              · skip
                have t14743 := cv_ne (a := r14735.toInt) rfl (b := 0) (by decide) c14742
                refine lv_aload_n hx hb dX12_either_79 rfl (lv_at hl 1 rfl) ?_
                have t14744 : 0 ≤ (v 30).toInt ∧ (v 30).toInt ≤ 120 := by have h9 := hI.1 30 _ _ rfl; rw [show v14736 30 = v 30 from (hf14738 30 (by decide)).trans (hf14417 30 (by decide))] at h9; exact h9
                have t14745 : 0 ≤ (v 37).toInt ∧ (v 37).toInt ≤ 9 := by have h9 := hI.1 37 _ _ rfl; rw [show v14736 37 = v 37 from (hf14738 37 (by decide)).trans (hf14417 37 (by decide))] at h9; exact h9
                have t14746 : 0 ≤ (v14415 38).toInt ∧ (v14415 38).toInt ≤ 120 := by have h9 := hI.1 38 _ _ rfl; rw [show v14736 38 = v14415 38 from hf14738 38 (by decide)] at h9; exact h9
                have t14747 : 0 ≤ (v14736 39).toInt ∧ (v14736 39).toInt ≤ 120 := hI.1 39 _ _ rfl
                have t14748 : 0 ≤ (v14736 41).toInt ∧ (v14736 41).toInt ≤ 8 := hI.1 41 _ _ rfl
                refine va_callv (va_runV (As := []) (rest := []) ⟨hx, hb, hml, hown, hwd⟩ (c_X12_either_7 l dC dI g c adK adV v14736 F14737 rc H.size  (d + 1) hg hI (by have h9 : v14736 38 = v14415 38 := hf14738 38 (by decide); (try rw [h9]); clear h9; have h9 : v14736 39 = v14736 39 := rfl; (try rw [h9]); clear h9; have h9 : v14736 30 = v 30 := (hf14738 30 (by decide)).trans (hf14417 30 (by decide)); (try rw [h9]); clear h9; have h9 : v14736 40 = v14736 40 := rfl; (try rw [h9]); clear h9; have h9 : v14736 41 = v14736 41 := rfl; (try rw [h9]); clear h9; omega) (by have h9 : v14736 37 = (v 37) := (hf14738 37 (by decide)).trans (hf14417 37 (by decide)); have h8 : v14736 38 = (v14415 38) := hf14738 38 (by decide); (try rw [h9]); (try rw [h8]); exact hd (by omega))) (cwV 0 hwd (gV wk_1010 wk_1007 wk_1008 wk_1009 wk_5) rfl rfl rfl (by decide +kernel) ⟨Nat.le_of_ble_eq_true rfl, Nat.le_of_ble_eq_true rfl⟩) ⟨PM.blind, va_recv hK hP (ci := 12) (q0 := 0) rfl rfl, fun U hU hW => ⟨rfl, PM.at hK hE hP hS hU hW⟩⟩ rfl rfl hl.1 rfl (lv_room (Nat.le_of_ble_eq_true rfl)) dX12_either_80 ⟨Nat.le_of_ble_eq_true rfl, Nat.le_of_ble_eq_true rfl⟩) hS (fun q _ h => (freeM hS) q h) (freeM hS) (fun u t H1 locs ht hvm hw hB hz1 hk1 hS => ?_)
                unfold BM at hB
                rw [ht] at hB
                obtain ⟨v14750, F14751, rc9⟩ := u
                obtain ⟨hI, hrc, hf14752, hG14753, hw⟩ := hw
                dsimp only at hI hrc hB hf14752 hG14753 hw
                have hF := frCF (by decide) hG14753 hF
                rw [hrc] at hB
                have hP : va_P (dC, dI) classes (wM g c v14750 F14751 rc) H1 := hB
                have hw : ((v14736 39).toInt ≤ (v14750 39).toInt ∧ (v14750 39).toInt ≤ (v14736 30).toInt ∧ (v14736 38).toInt ≤ (v14750 38).toInt ∧ (v14750 38).toInt - (v14736 38).toInt ≤ (v14750 39).toInt - (v14736 39).toInt ∧ (v14736 41).toInt ≤ (v14750 41).toInt ∧ ((v14750 40).toInt < 0 → (v14750 41).toInt = (v14736 41).toInt)) ∧ keepL (v14736 37) (F14737 28) (F14737 29) (F14751 28) (F14751 29) ∧ ((v14750 40).toInt < 0 → dp (F14751 28) (F14751 29) (bI (v14736 37)) (v14750 38).toInt.toNat = some ((d + 1) + 1)) := hw
                rw [show v14736 30 = v 30 from (hf14738 30 (by decide)).trans (hf14417 30 (by decide))] at hw
                rw [show v14736 38 = v14415 38 from hf14738 38 (by decide)] at hw
                rw [show v14736 37 = v 37 from (hf14738 37 (by decide)).trans (hf14417 37 (by decide))] at hw
                have hw_r14749 := hw
                have t14754 : 0 ≤ (v14750 38).toInt ∧ (v14750 38).toInt ≤ 120 := hI.1 38 _ _ rfl
                have t14755 : 0 ≤ (v14750 39).toInt ∧ (v14750 39).toInt ≤ 120 := hI.1 39 _ _ rfl
                have t14756 : 0 ≤ (v14750 41).toInt ∧ (v14750 41).toInt ≤ 8 := hI.1 41 _ _ rfl
                generalize H1 = H at hP hS ⊢
                have hk := hk.tr hw_r14749.2.1
                have hd := hw_r14749.2.2
                refine lv_aload_n hx hb dX12_either_83 rfl (lv_at hl 1 rfl) ?_
                refine va_get (D := (dC, dI)) (ci := 12) (v := .int (v14750 40)) (C := RX12) (T := TX12) (N := 63) hx hb hwd inA_X12 hown hK hP 0 rfl rfl 40 (by decide) (hwd _ wk_1005) (fun _ h9 => h9) rfl dX12_either_84 ?_
                refine lv_if_lt (tgt := 91) hx hb dX12_either_87 (by decide) (fun c14757 => ?_) (fun c14757 => ?_)
                · skip
                  have t14758 := cv_lt (a := (v14750 40).toInt) rfl (b := 0) (by decide) c14757
                  refine lv_aload_n hx hb dX12_either_91 rfl (lv_at hl 1 rfl) ?_
                  have t14759 : 0 ≤ (v 30).toInt ∧ (v 30).toInt ≤ 120 := by have h9 := hI.1 30 _ _ rfl; rw [show v14750 30 = v 30 from (hf14752 30 (by decide)).trans ((hf14738 30 (by decide)).trans (hf14417 30 (by decide)))] at h9; exact h9
                  have t14760 : 0 ≤ (v14750 39).toInt ∧ (v14750 39).toInt ≤ 120 := hI.1 39 _ _ rfl
                  refine va_calli (va_runV (As := []) (rest := []) ⟨hx, hb, hml, hown, hwd⟩ (c_X12_look l dC dI g c adK adV v14750 F14751 rc H.size  hg hI ) (cwV 0 hwd (gV wk_1017 wk_1014 wk_1015 wk_1016 wk_5) rfl rfl rfl (by decide +kernel) ⟨Nat.le_of_ble_eq_true rfl, Nat.le_of_ble_eq_true rfl⟩) ⟨PM.blind, va_recv hK hP (ci := 12) (q0 := 0) rfl rfl, fun U hU hW => ⟨rfl, PM.at hK hE hP hS hU hW⟩⟩ rfl rfl hl.1 rfl (lv_room (Nat.le_of_ble_eq_true rfl)) dX12_either_92 ⟨Nat.le_of_ble_eq_true rfl, Nat.le_of_ble_eq_true rfl⟩) hS (fun q _ h => (freeM hS) q h) (freeM hS) (fun r14761 u t H1 locs ht hvm hw hB hz1 hk1 hS => ?_)
                  unfold BM at hB
                  rw [ht] at hB
                  have hP : va_P (dC, dI) classes (wM g c v14750 F14751 rc) H1 := hB
                  have hw : r14761.toInt = lkM (v14750 39) (v14750 30) (F14751 24) ∧ ((v14750 39).toInt < (v14750 30).toInt ∨ r14761.toInt = -1) := hw
                  rw [show v14750 30 = v 30 from (hf14752 30 (by decide)).trans ((hf14738 30 (by decide)).trans (hf14417 30 (by decide)))] at hw
                  rw [hF 24 (by decide)] at hw
                  have hw_r14761 := hw
                  generalize H1 = H at hP hS ⊢
                  refine lv_bipush (v := 58) hx hb dX12_either_95 (by decide) ?_
                  refine lv_icmp_eq (tgt := 105) hx hb dX12_either_97 (by decide) (fun c14762 => ?_) (fun c14762 => ?_)
                  · skip
                    have t14763 := cv_eq (a := r14761.toInt) rfl (b := 58) (by decide) c14762
                    refine lv_aload_n hx hb dX12_either_105 rfl (lv_at hl 1 rfl) ?_
                    refine lv_dup hx hb dX12_either_106 rfl ?_
                    refine va_get (D := (dC, dI)) (ci := 12) (v := .int (v14750 39)) (C := RX12) (T := TX12) (N := 63) hx hb hwd inA_X12 hown hK hP 0 rfl rfl 39 (by decide) (hwd _ wk_1004) (fun _ h9 => h9) rfl dX12_either_107 ?_
                    have t14764 : 0 ≤ (v14750 39).toInt ∧ (v14750 39).toInt ≤ 120 := hI.1 39 _ _ rfl
                    refine lv_iconst (v := 1) hx hb dX12_either_110 (by decide) ?_
                    refine lv_iadd hx hb dX12_either_111 ?_
                    refine lv_topi (fun z14765 e14766 => ?_)
                    try (have t14767 := tadd e14766 (a := (v14750 39).toInt) rfl (b := 1) (by decide) (by omega))
                    refine va_put (D := (dC, dI)) (ci := 12) (v := .int z14765) (ty := .int) (C := RX12) (T := TX12) (N := 63) (fs := fsM_0 g v14750 rc) hx hb hwd inA_X12 tyX12 tyX12_ok nmX12 hown hK hP (DM hg) hS 0 rfl rfl 39 (by decide) (hwd _ wk_1004) (fun _ h9 => h9) rfl (by decide +kernel) rfl rfl (Nat.le_of_ble_eq_true rfl) dX12_either_112 (fun H locs hP _ hS => ?_)
                    have hP := va_P_eq (pM_39 g c _ _ _ _) hP
                    have hI := IM.put hI 39 z14765 rfl (by omega)
                    refine lv_aload_n hx hb dX12_either_115 rfl (lv_at hl 1 rfl) ?_
                    have t14768 : 0 ≤ (v 30).toInt ∧ (v 30).toInt ≤ 120 := by have h9 := hI.1 30 _ _ rfl; rw [show (va_up v14750 39 z14765) 30 = v 30 from (hf14752 30 (by decide)).trans ((hf14738 30 (by decide)).trans (hf14417 30 (by decide)))] at h9; exact h9
                    have t14769 : 0 ≤ (v 37).toInt ∧ (v 37).toInt ≤ 9 := by have h9 := hI.1 37 _ _ rfl; rw [show (va_up v14750 39 z14765) 37 = v 37 from (hf14752 37 (by decide)).trans ((hf14738 37 (by decide)).trans (hf14417 37 (by decide)))] at h9; exact h9
                    have t14770 : 0 ≤ (v14750 38).toInt ∧ (v14750 38).toInt ≤ 120 := hI.1 38 _ _ rfl
                    have t14771 : 0 ≤ z14765.toInt ∧ z14765.toInt ≤ 120 := hI.1 39 _ _ rfl
                    have t14772 : 0 ≤ (v14750 41).toInt ∧ (v14750 41).toInt ≤ 8 := hI.1 41 _ _ rfl
                    refine va_callv (va_runV (As := []) (rest := []) ⟨hx, hb, hml, hown, hwd⟩ (c_X12_either_7 l dC dI g c adK adV (va_up v14750 39 z14765) F14751 rc H.size  ((d + 1) + 1) hg hI (by have h9 : (va_up v14750 39 z14765) 38 = v14750 38 := rfl; (try rw [h9]); clear h9; have h9 : (va_up v14750 39 z14765) 39 = z14765 := rfl; (try rw [h9]); clear h9; have h9 : (va_up v14750 39 z14765) 30 = v 30 := (hf14752 30 (by decide)).trans ((hf14738 30 (by decide)).trans (hf14417 30 (by decide))); (try rw [h9]); clear h9; have h9 : (va_up v14750 39 z14765) 40 = v14750 40 := rfl; (try rw [h9]); clear h9; have h9 : (va_up v14750 39 z14765) 41 = v14750 41 := rfl; (try rw [h9]); clear h9; omega) (by have h9 : (va_up v14750 39 z14765) 37 = (v 37) := (hf14752 37 (by decide)).trans ((hf14738 37 (by decide)).trans (hf14417 37 (by decide))); have h8 : (va_up v14750 39 z14765) 38 = (v14750 38) := rfl; (try rw [h9]); (try rw [h8]); exact hd (by omega))) (cwV 0 hwd (gV wk_1010 wk_1007 wk_1008 wk_1009 wk_5) rfl rfl rfl (by decide +kernel) ⟨Nat.le_of_ble_eq_true rfl, Nat.le_of_ble_eq_true rfl⟩) ⟨PM.blind, va_recv hK hP (ci := 12) (q0 := 0) rfl rfl, fun U hU hW => ⟨rfl, PM.at hK hE hP hS hU hW⟩⟩ rfl rfl hl.1 rfl (lv_room (Nat.le_of_ble_eq_true rfl)) dX12_either_116 ⟨Nat.le_of_ble_eq_true rfl, Nat.le_of_ble_eq_true rfl⟩) hS (fun q _ h => (freeM hS) q h) (freeM hS) (fun u t H1 locs ht hvm hw hB hz1 hk1 hS => ?_)
                    unfold BM at hB
                    rw [ht] at hB
                    obtain ⟨v14774, F14775, rc9⟩ := u
                    obtain ⟨hI, hrc, hf14776, hG14777, hw⟩ := hw
                    dsimp only at hI hrc hB hf14776 hG14777 hw
                    have hF := frCF (by decide) hG14777 hF
                    rw [hrc] at hB
                    have hP : va_P (dC, dI) classes (wM g c v14774 F14775 rc) H1 := hB
                    have hw : (z14765.toInt ≤ (v14774 39).toInt ∧ (v14774 39).toInt ≤ ((va_up v14750 39 z14765) 30).toInt ∧ (v14750 38).toInt ≤ (v14774 38).toInt ∧ (v14774 38).toInt - (v14750 38).toInt ≤ (v14774 39).toInt - z14765.toInt ∧ (v14750 41).toInt ≤ (v14774 41).toInt ∧ ((v14774 40).toInt < 0 → (v14774 41).toInt = (v14750 41).toInt)) ∧ keepL ((va_up v14750 39 z14765) 37) (F14751 28) (F14751 29) (F14775 28) (F14775 29) ∧ ((v14774 40).toInt < 0 → dp (F14775 28) (F14775 29) (bI ((va_up v14750 39 z14765) 37)) (v14774 38).toInt.toNat = some (((d + 1) + 1) + 1)) := hw
                    rw [show (va_up v14750 39 z14765) 30 = v 30 from (hf14752 30 (by decide)).trans ((hf14738 30 (by decide)).trans (hf14417 30 (by decide)))] at hw
                    rw [show (va_up v14750 39 z14765) 37 = v 37 from (hf14752 37 (by decide)).trans ((hf14738 37 (by decide)).trans (hf14417 37 (by decide)))] at hw
                    have hw_r14773 := hw
                    have t14778 : 0 ≤ (v14774 38).toInt ∧ (v14774 38).toInt ≤ 120 := hI.1 38 _ _ rfl
                    have t14779 : 0 ≤ (v14774 39).toInt ∧ (v14774 39).toInt ≤ 120 := hI.1 39 _ _ rfl
                    have t14780 : 0 ≤ (v14774 41).toInt ∧ (v14774 41).toInt ≤ 8 := hI.1 41 _ _ rfl
                    generalize H1 = H at hP hS ⊢
                    have hk := hk.tr hw_r14773.2.1
                    have hd := hw_r14773.2.2
                    refine lv_aload_n hx hb dX12_either_119 rfl (lv_at hl 1 rfl) ?_
                    refine lv_iconst (v := 4) hx hb dX12_either_120 (by decide) ?_
                    refine lv_iconst (v := 0) hx hb dX12_either_121 (by decide) ?_
                    have t14781 : 0 ≤ (v 37).toInt ∧ (v 37).toInt ≤ 9 := by have h9 := hI.1 37 _ _ rfl; rw [show v14774 37 = v 37 from (hf14776 37 (by decide)).trans ((hf14752 37 (by decide)).trans ((hf14738 37 (by decide)).trans (hf14417 37 (by decide))))] at h9; exact h9
                    have t14782 : 0 ≤ (v14774 38).toInt ∧ (v14774 38).toInt ≤ 120 := hI.1 38 _ _ rfl
                    refine va_callv (va_runV (As := [.int 4, .int 0]) (rest := []) ⟨hx, hb, hml, hown, hwd⟩ (c_X12_lay l dC dI g c adK adV v14774 F14775 rc H.size 4 0 hg hI (by have h9 : v14774 38 = v14774 38 := rfl; rw [h9]; omega)) (cwV 2 hwd (gV wk_1021 wk_1018 wk_1019 wk_1020 wk_5) rfl rfl rfl (by decide +kernel) ⟨Nat.le_of_ble_eq_true rfl, Nat.le_of_ble_eq_true rfl⟩) ⟨PM.blind, va_recv hK hP (ci := 12) (q0 := 0) rfl rfl, fun U hU hW => ⟨rfl, PM.at hK hE hP hS hU hW⟩⟩ rfl rfl hl.1 rfl (lv_room (Nat.le_of_ble_eq_true rfl)) dX12_either_122 ⟨Nat.le_of_ble_eq_true rfl, Nat.le_of_ble_eq_true rfl⟩) hS (fun q _ h => (freeM hS) q h) (freeM hS) (fun u t H1 locs ht hvm hw hB hz1 hk1 hS => ?_)
                    unfold BM at hB
                    rw [ht] at hB
                    obtain ⟨v14784, F14785, rc9⟩ := u
                    obtain ⟨hI, hrc, hf14786, hG14787, hw⟩ := hw
                    dsimp only at hI hrc hB hf14786 hG14787 hw
                    have hF := frCF (by decide) hG14787 hF
                    rw [hrc] at hB
                    have hP : va_P (dC, dI) classes (wM g c v14784 F14785 rc) H1 := hB
                    have hw : (v14784 38).toInt = (v14774 38).toInt + 1 ∧ keepL (v14774 37) (F14775 28) (F14775 29) (F14785 28) (F14785 29) ∧ dp (F14785 28) (F14785 29) (bI (v14774 37)) ((v14774 38).toInt.toNat + 1) = dpS (dp (F14775 28) (F14775 29) (bI (v14774 37)) (v14774 38).toInt.toNat) (4 : Int32) (0 : Int32) := hw
                    rw [show v14774 37 = v 37 from (hf14776 37 (by decide)).trans ((hf14752 37 (by decide)).trans ((hf14738 37 (by decide)).trans (hf14417 37 (by decide))))] at hw
                    have hw_r14783 := hw
                    have t14788 : 0 ≤ (v14784 38).toInt ∧ (v14784 38).toInt ≤ 120 := hI.1 38 _ _ rfl
                    have k14789 : (4 : Int32).toInt = 4 := by decide
                    have k14790 : (0 : Int32).toInt = 0 := by decide
                    generalize H1 = H at hP hS ⊢
                    have hk := hk.tr hw_r14783.2.1
                    have hd : (v14774 40).toInt < 0 → dp (F14785 28) (F14785 29) (bI (v 37)) (v14784 38).toInt.toNat = some ((((d + 1) + 1) + 1) - 2) := fun hf => (by have e9 : (v14784 38).toInt.toNat = (v14774 38).toInt.toNat + 1 := (by omega); rw [e9, hw_r14783.2.2, hd hf]; exact dpS_4 (by decide) (by omega))
                    refine lv_aload_n hx hb dX12_either_125 rfl (lv_at hl 1 rfl) ?_
                    refine lv_dup hx hb dX12_either_126 rfl ?_
                    refine va_get (D := (dC, dI)) (ci := 12) (v := .int (v14784 41)) (C := RX12) (T := TX12) (N := 63) hx hb hwd inA_X12 hown hK hP 0 rfl rfl 41 (by decide) (hwd _ wk_1006) (fun _ h9 => h9) rfl dX12_either_127 ?_
                    refine my_top (v := v14774 41) (hf14786 41 (by decide)) ?_
                    have t14791 : 0 ≤ (v14774 41).toInt ∧ (v14774 41).toInt ≤ 8 := by have h9 := hI.1 41 _ _ rfl; rw [show v14784 41 = v14774 41 from hf14786 41 (by decide)] at h9; exact h9
                    refine lv_iconst (v := 1) hx hb dX12_either_130 (by decide) ?_
                    refine lv_isub hx hb dX12_either_131 ?_
                    refine lv_topi (fun z14792 e14793 => ?_)
                    try (have t14794 := tsub e14793 (a := (v14774 41).toInt) rfl (b := 1) (by decide) (by omega))
                    refine va_put (D := (dC, dI)) (ci := 12) (v := .int z14792) (ty := .int) (C := RX12) (T := TX12) (N := 63) (fs := fsM_0 g v14784 rc) hx hb hwd inA_X12 tyX12 tyX12_ok nmX12 hown hK hP (DM hg) hS 0 rfl rfl 41 (by decide) (hwd _ wk_1006) (fun _ h9 => h9) rfl (by decide +kernel) rfl rfl (Nat.le_of_ble_eq_true rfl) dX12_either_132 (fun H locs hP _ hS => ?_)
                    have hP := va_P_eq (pM_41 g c _ _ _ _) hP
                    have hI := IM.put hI 41 z14792 rfl (by omega)
                    have hP9 : va_P (dC, dI) classes (wM g c (va_up v14784 41 z14792) F14785 rc) H := hP
                    exact W.vret hx hb hr (fun t ht hW => ⟨⟨((va_up v14784 41 z14792), F14785, rc), rfl, ⟨hI, rfl, (frU (by decide) (frC (by decide) hf14786 (frC (by decide) hf14776 (frU (by decide) (frC (by decide) hf14752 (frC (by decide) hf14738 (frC (by decide) hf14417 (fun _ _ => rfl)))))))), hF, (by show ((v 39).toInt ≤ ((va_up v14784 41 z14792) 39).toInt ∧ ((va_up v14784 41 z14792) 39).toInt ≤ (v 30).toInt ∧ (v 38).toInt ≤ (v14784 38).toInt ∧ (v14784 38).toInt - (v 38).toInt ≤ ((va_up v14784 41 z14792) 39).toInt - (v 39).toInt ∧ (v 41).toInt ≤ z14792.toInt ∧ (((va_up v14784 41 z14792) 40).toInt < 0 → z14792.toInt = (v 41).toInt)) ∧ keepL (v 37) (F 28) (F 29) (F14785 28) (F14785 29) ∧ (((va_up v14784 41 z14792) 40).toInt < 0 → dp (F14785 28) (F14785 29) (bI (v 37)) (v14784 38).toInt.toNat = some (d + 1)); rw [show (va_up v14784 41 z14792) 39 = v14774 39 from hf14786 39 (by decide)]; rw [show (va_up v14784 41 z14792) 40 = v14774 40 from hf14786 40 (by decide)]; exact ⟨by omega, hk, fun hf => (hd (by omega)).trans (congrArg some (by omega))⟩)⟩, (by show va_P _ _ _ t.heap; rw [ht]; exact hP9)⟩, hS.F ht⟩) hS.2.2 dX12_either_135
                  · skip
                    have t14795 := cv_ne (a := r14761.toInt) rfl (b := 58) (by decide) c14762
                    refine lv_aload_n hx hb dX12_either_100 rfl (lv_at hl 1 rfl) ?_
                    refine va_callv (va_runV (As := []) (rest := []) ⟨hx, hb, hml, hown, hwd⟩ (c_X12_wrong l dC dI g c adK adV v14750 F14751 rc H.size  hg hI ) (cwV 0 hwd (gV wk_1029 wk_1026 wk_1027 wk_1028 wk_5) rfl rfl rfl (by decide +kernel) ⟨Nat.le_of_ble_eq_true rfl, Nat.le_of_ble_eq_true rfl⟩) ⟨PM.blind, va_recv hK hP (ci := 12) (q0 := 0) rfl rfl, fun U hU hW => ⟨rfl, PM.at hK hE hP hS hU hW⟩⟩ rfl rfl hl.1 rfl (lv_room (Nat.le_of_ble_eq_true rfl)) dX12_either_101 ⟨Nat.le_of_ble_eq_true rfl, Nat.le_of_ble_eq_true rfl⟩) hS (fun q _ h => (freeM hS) q h) (freeM hS) (fun u t H1 locs ht hvm hw hB hz1 hk1 hS => ?_)
                    unfold BM at hB
                    rw [ht] at hB
                    obtain ⟨v14797, F14798, rc9⟩ := u
                    obtain ⟨hI, hrc, hf14799, hG14800, hw⟩ := hw
                    dsimp only at hI hrc hB hf14799 hG14800 hw
                    have hF := frCF (by decide) hG14800 hF
                    rw [hrc] at hB
                    have hP : va_P (dC, dI) classes (wM g c v14797 F14798 rc) H1 := hB
                    have hw : 0 ≤ (v14797 40).toInt := hw
                    have hw_r14796 := hw
                    generalize H1 = H at hP hS ⊢
                    have hk : keepL (v 37) (F 28) (F 29) (F14798 28) (F14798 29) := by rw [hG14800 28 (by decide), hG14800 29 (by decide)]; exact hk
                    have hd : (v14797 40).toInt < 0 → dp (F14798 28) (F14798 29) (bI (v 37)) (v14750 38).toInt.toNat = some ((d + 1) + 1) := fun hf => (by rw [hG14800 28 (by decide), hG14800 29 (by decide)]; exact hd (by omega))
                    have hP9 : va_P (dC, dI) classes (wM g c v14797 F14798 rc) H := hP
                    exact W.vret hx hb hr (fun t ht hW => ⟨⟨(v14797, F14798, rc), rfl, ⟨hI, rfl, (frC (by decide) hf14799 (frC (by decide) hf14752 (frC (by decide) hf14738 (frC (by decide) hf14417 (fun _ _ => rfl))))), hF, (by show ((v 39).toInt ≤ (v14797 39).toInt ∧ (v14797 39).toInt ≤ (v 30).toInt ∧ (v 38).toInt ≤ (v14797 38).toInt ∧ (v14797 38).toInt - (v 38).toInt ≤ (v14797 39).toInt - (v 39).toInt ∧ (v 41).toInt ≤ (v14797 41).toInt ∧ ((v14797 40).toInt < 0 → (v14797 41).toInt = (v 41).toInt)) ∧ keepL (v 37) (F 28) (F 29) (F14798 28) (F14798 29) ∧ ((v14797 40).toInt < 0 → dp (F14798 28) (F14798 29) (bI (v 37)) (v14797 38).toInt.toNat = some (d + 1)); rw [show v14797 39 = v14750 39 from hf14799 39 (by decide)]; rw [show v14797 38 = v14750 38 from hf14799 38 (by decide)]; rw [show v14797 41 = v14750 41 from hf14799 41 (by decide)]; exact ⟨by omega, hk, fun hf => (hd (by omega)).trans (congrArg some (by omega))⟩)⟩, (by show va_P _ _ _ t.heap; rw [ht]; exact hP9)⟩, hS.F ht⟩) hS.2.2 dX12_either_104
                · skip
                  have t14801 := cv_nlt (a := (v14750 40).toInt) rfl (b := 0) (by decide) c14757
                  have hP9 : va_P (dC, dI) classes (wM g c v14750 F14751 rc) H := hP
                  exact W.vret hx hb hr (fun t ht hW => ⟨⟨(v14750, F14751, rc), rfl, ⟨hI, rfl, (frC (by decide) hf14752 (frC (by decide) hf14738 (frC (by decide) hf14417 (fun _ _ => rfl)))), hF, (by show ((v 39).toInt ≤ (v14750 39).toInt ∧ (v14750 39).toInt ≤ (v 30).toInt ∧ (v 38).toInt ≤ (v14750 38).toInt ∧ (v14750 38).toInt - (v 38).toInt ≤ (v14750 39).toInt - (v 39).toInt ∧ (v 41).toInt ≤ (v14750 41).toInt ∧ ((v14750 40).toInt < 0 → (v14750 41).toInt = (v 41).toInt)) ∧ keepL (v 37) (F 28) (F 29) (F14751 28) (F14751 29) ∧ ((v14750 40).toInt < 0 → dp (F14751 28) (F14751 29) (bI (v 37)) (v14750 38).toInt.toNat = some (d + 1)); exact ⟨by omega, hk, fun hf => (hd (by omega)).trans (congrArg some (by omega))⟩)⟩, (by show va_P _ _ _ t.heap; rw [ht]; exact hP9)⟩, hS.F ht⟩) hS.2.2 dX12_either_90
              · skip
                have t14802 := cv_eq (a := r14735.toInt) rfl (b := 0) (by decide) c14742
                have hP9 : va_P (dC, dI) classes (wM g c v14736 F14737 rc) H := hP
                exact W.vret hx hb hr (fun t ht hW => ⟨⟨(v14736, F14737, rc), rfl, ⟨hI, rfl, (frC (by decide) hf14738 (frC (by decide) hf14417 (fun _ _ => rfl))), hF, (by show ((v 39).toInt ≤ (v14736 39).toInt ∧ (v14736 39).toInt ≤ (v 30).toInt ∧ (v 38).toInt ≤ (v14736 38).toInt ∧ (v14736 38).toInt - (v 38).toInt ≤ (v14736 39).toInt - (v 39).toInt ∧ (v 41).toInt ≤ (v14736 41).toInt ∧ ((v14736 40).toInt < 0 → (v14736 41).toInt = (v 41).toInt)) ∧ keepL (v 37) (F 28) (F 29) (F14737 28) (F14737 29) ∧ ((v14736 40).toInt < 0 → dp (F14737 28) (F14737 29) (bI (v 37)) (v14736 38).toInt.toNat = some (d + 1)); rw [show v14736 38 = v14415 38 from hf14738 38 (by decide)]; exact ⟨by omega, hk, fun hf => (hd (by omega)).trans (congrArg some (by omega))⟩)⟩, (by show va_P _ _ _ t.heap; rw [ht]; exact hP9)⟩, hS.F ht⟩) hS.2.2 dX12_either_78
            · skip
              have t14803 := cv_ne (a := r14730.toInt) rfl (b := 63) (by decide) c14731
              have hP9 : va_P (dC, dI) classes (wM g c v14415 F14416 rc) H := hP
              exact W.vret hx hb hr (fun t ht hW => ⟨⟨(v14415, F14416, rc), rfl, ⟨hI, rfl, (frC (by decide) hf14417 (fun _ _ => rfl)), hF, (by show ((v 39).toInt ≤ (v14415 39).toInt ∧ (v14415 39).toInt ≤ (v 30).toInt ∧ (v 38).toInt ≤ (v14415 38).toInt ∧ (v14415 38).toInt - (v 38).toInt ≤ (v14415 39).toInt - (v 39).toInt ∧ (v 41).toInt ≤ (v14415 41).toInt ∧ ((v14415 40).toInt < 0 → (v14415 41).toInt = (v 41).toInt)) ∧ keepL (v 37) (F 28) (F 29) (F14416 28) (F14416 29) ∧ ((v14415 40).toInt < 0 → dp (F14416 28) (F14416 29) (bI (v 37)) (v14415 38).toInt.toNat = some (d + 1)); exact ⟨by omega, hk, fun hf => (hd (by omega)).trans (congrArg some (by omega))⟩)⟩, (by show va_P _ _ _ t.heap; rw [ht]; exact hP9)⟩, hS.F ht⟩) hS.2.2 dX12_either_70
        · skip
          have t14804 := cv_eq (a := r14424.toInt) rfl (b := 62) (by decide) c14723
          refine lv_aload_n hx hb dX12_either_34 rfl (lv_at hl 1 rfl) ?_
          refine lv_dup hx hb dX12_either_35 rfl ?_
          refine va_get (D := (dC, dI)) (ci := 12) (v := .int (v14415 39)) (C := RX12) (T := TX12) (N := 63) hx hb hwd inA_X12 hown hK hP 0 rfl rfl 39 (by decide) (hwd _ wk_1004) (fun _ h9 => h9) rfl dX12_either_36 ?_
          have t14805 : 0 ≤ (v14415 39).toInt ∧ (v14415 39).toInt ≤ 120 := hI.1 39 _ _ rfl
          refine lv_iconst (v := 1) hx hb dX12_either_39 (by decide) ?_
          refine lv_iadd hx hb dX12_either_40 ?_
          refine lv_topi (fun z14806 e14807 => ?_)
          try (have t14808 := tadd e14807 (a := (v14415 39).toInt) rfl (b := 1) (by decide) (by omega))
          refine va_put (D := (dC, dI)) (ci := 12) (v := .int z14806) (ty := .int) (C := RX12) (T := TX12) (N := 63) (fs := fsM_0 g v14415 rc) hx hb hwd inA_X12 tyX12 tyX12_ok nmX12 hown hK hP (DM hg) hS 0 rfl rfl 39 (by decide) (hwd _ wk_1004) (fun _ h9 => h9) rfl (by decide +kernel) rfl rfl (Nat.le_of_ble_eq_true rfl) dX12_either_41 (fun H locs hP _ hS => ?_)
          have hP := va_P_eq (pM_39 g c _ _ _ _) hP
          have hI := IM.put hI 39 z14806 rfl (by omega)
          refine lv_aload_n hx hb dX12_either_44 rfl (lv_at hl 1 rfl) ?_
          have t14809 : 0 ≤ (v 30).toInt ∧ (v 30).toInt ≤ 120 := by have h9 := hI.1 30 _ _ rfl; rw [show (va_up v14415 39 z14806) 30 = v 30 from hf14417 30 (by decide)] at h9; exact h9
          have t14810 : 0 ≤ (v 37).toInt ∧ (v 37).toInt ≤ 9 := by have h9 := hI.1 37 _ _ rfl; rw [show (va_up v14415 39 z14806) 37 = v 37 from hf14417 37 (by decide)] at h9; exact h9
          have t14811 : 0 ≤ (v14415 38).toInt ∧ (v14415 38).toInt ≤ 120 := hI.1 38 _ _ rfl
          have t14812 : 0 ≤ z14806.toInt ∧ z14806.toInt ≤ 120 := hI.1 39 _ _ rfl
          have t14813 : 0 ≤ (v14415 41).toInt ∧ (v14415 41).toInt ≤ 8 := hI.1 41 _ _ rfl
          refine va_callv (va_runV (As := []) (rest := []) ⟨hx, hb, hml, hown, hwd⟩ (c_X12_sum_6 l dC dI g c adK adV (va_up v14415 39 z14806) F14416 rc H.size  (d + 1) hg hI (by have h9 : (va_up v14415 39 z14806) 38 = v14415 38 := rfl; (try rw [h9]); clear h9; have h9 : (va_up v14415 39 z14806) 39 = z14806 := rfl; (try rw [h9]); clear h9; have h9 : (va_up v14415 39 z14806) 30 = v 30 := hf14417 30 (by decide); (try rw [h9]); clear h9; have h9 : (va_up v14415 39 z14806) 40 = v14415 40 := rfl; (try rw [h9]); clear h9; have h9 : (va_up v14415 39 z14806) 41 = v14415 41 := rfl; (try rw [h9]); clear h9; omega) (by have h9 : (va_up v14415 39 z14806) 37 = (v 37) := hf14417 37 (by decide); have h8 : (va_up v14415 39 z14806) 38 = (v14415 38) := rfl; (try rw [h9]); (try rw [h8]); exact hd (by omega))) (cwV 0 hwd (gV wk_1043 wk_1011 wk_1012 wk_1013 wk_5) rfl rfl rfl (by decide +kernel) ⟨Nat.le_of_ble_eq_true rfl, Nat.le_of_ble_eq_true rfl⟩) ⟨PM.blind, va_recv hK hP (ci := 12) (q0 := 0) rfl rfl, fun U hU hW => ⟨rfl, PM.at hK hE hP hS hU hW⟩⟩ rfl rfl hl.1 rfl (lv_room (Nat.le_of_ble_eq_true rfl)) dX12_either_45 ⟨Nat.le_of_ble_eq_true rfl, Nat.le_of_ble_eq_true rfl⟩) hS (fun q _ h => (freeM hS) q h) (freeM hS) (fun u t H1 locs ht hvm hw hB hz1 hk1 hS => ?_)
          unfold BM at hB
          rw [ht] at hB
          obtain ⟨v14815, F14816, rc9⟩ := u
          obtain ⟨hI, hrc, hf14817, hG14818, hw⟩ := hw
          dsimp only at hI hrc hB hf14817 hG14818 hw
          have hF := frCF (by decide) hG14818 hF
          rw [hrc] at hB
          have hP : va_P (dC, dI) classes (wM g c v14815 F14816 rc) H1 := hB
          have hw : (z14806.toInt ≤ (v14815 39).toInt ∧ (v14815 39).toInt ≤ ((va_up v14415 39 z14806) 30).toInt ∧ (v14415 38).toInt ≤ (v14815 38).toInt ∧ (v14815 38).toInt - (v14415 38).toInt ≤ (v14815 39).toInt - z14806.toInt ∧ (v14415 41).toInt ≤ (v14815 41).toInt ∧ ((v14815 40).toInt < 0 → (v14815 41).toInt = (v14415 41).toInt)) ∧ keepL ((va_up v14415 39 z14806) 37) (F14416 28) (F14416 29) (F14816 28) (F14816 29) ∧ ((v14815 40).toInt < 0 → dp (F14816 28) (F14816 29) (bI ((va_up v14415 39 z14806) 37)) (v14815 38).toInt.toNat = some ((d + 1) + 1)) := hw
          rw [show (va_up v14415 39 z14806) 30 = v 30 from hf14417 30 (by decide)] at hw
          rw [show (va_up v14415 39 z14806) 37 = v 37 from hf14417 37 (by decide)] at hw
          have hw_r14814 := hw
          have t14819 : 0 ≤ (v14815 38).toInt ∧ (v14815 38).toInt ≤ 120 := hI.1 38 _ _ rfl
          have t14820 : 0 ≤ (v14815 39).toInt ∧ (v14815 39).toInt ≤ 120 := hI.1 39 _ _ rfl
          have t14821 : 0 ≤ (v14815 41).toInt ∧ (v14815 41).toInt ≤ 8 := hI.1 41 _ _ rfl
          generalize H1 = H at hP hS ⊢
          have hk := hk.tr hw_r14814.2.1
          have hd := hw_r14814.2.2
          refine lv_aload_n hx hb dX12_either_48 rfl (lv_at hl 1 rfl) ?_
          refine lv_iload_n hx hb dX12_either_49 rfl (lv_at hl 0 rfl) ?_
          refine lv_iconst (v := 0) hx hb dX12_either_50 (by decide) ?_
          have t14822 : 0 ≤ (v 37).toInt ∧ (v 37).toInt ≤ 9 := by have h9 := hI.1 37 _ _ rfl; rw [show v14815 37 = v 37 from (hf14817 37 (by decide)).trans (hf14417 37 (by decide))] at h9; exact h9
          have t14823 : 0 ≤ (v14815 38).toInt ∧ (v14815 38).toInt ≤ 120 := hI.1 38 _ _ rfl
          refine va_callv (va_runV (As := [.int r14424, .int 0]) (rest := []) ⟨hx, hb, hml, hown, hwd⟩ (c_X12_lay l dC dI g c adK adV v14815 F14816 rc H.size r14424 0 hg hI (by have h9 : v14815 38 = v14815 38 := rfl; rw [h9]; omega)) (cwV 2 hwd (gV wk_1021 wk_1018 wk_1019 wk_1020 wk_5) rfl rfl rfl (by decide +kernel) ⟨Nat.le_of_ble_eq_true rfl, Nat.le_of_ble_eq_true rfl⟩) ⟨PM.blind, va_recv hK hP (ci := 12) (q0 := 0) rfl rfl, fun U hU hW => ⟨rfl, PM.at hK hE hP hS hU hW⟩⟩ rfl rfl hl.1 rfl (lv_room (Nat.le_of_ble_eq_true rfl)) dX12_either_51 ⟨Nat.le_of_ble_eq_true rfl, Nat.le_of_ble_eq_true rfl⟩) hS (fun q _ h => (freeM hS) q h) (freeM hS) (fun u t H1 locs ht hvm hw hB hz1 hk1 hS => ?_)
          unfold BM at hB
          rw [ht] at hB
          obtain ⟨v14825, F14826, rc9⟩ := u
          obtain ⟨hI, hrc, hf14827, hG14828, hw⟩ := hw
          dsimp only at hI hrc hB hf14827 hG14828 hw
          have hF := frCF (by decide) hG14828 hF
          rw [hrc] at hB
          have hP : va_P (dC, dI) classes (wM g c v14825 F14826 rc) H1 := hB
          have hw : (v14825 38).toInt = (v14815 38).toInt + 1 ∧ keepL (v14815 37) (F14816 28) (F14816 29) (F14826 28) (F14826 29) ∧ dp (F14826 28) (F14826 29) (bI (v14815 37)) ((v14815 38).toInt.toNat + 1) = dpS (dp (F14816 28) (F14816 29) (bI (v14815 37)) (v14815 38).toInt.toNat) r14424 (0 : Int32) := hw
          rw [show v14815 37 = v 37 from (hf14817 37 (by decide)).trans (hf14417 37 (by decide))] at hw
          have hw_r14824 := hw
          have t14829 : 0 ≤ (v14825 38).toInt ∧ (v14825 38).toInt ≤ 120 := hI.1 38 _ _ rfl
          have k14830 : (0 : Int32).toInt = 0 := by decide
          generalize H1 = H at hP hS ⊢
          have hk := hk.tr hw_r14824.2.1
          have hd : (v14815 40).toInt < 0 → dp (F14826 28) (F14826 29) (bI (v 37)) (v14825 38).toInt.toNat = some (((d + 1) + 1) - 1) := fun hf => (by have e9 : (v14825 38).toInt.toNat = (v14815 38).toInt.toNat + 1 := (by omega); rw [e9, hw_r14824.2.2, hd hf]; exact dpS_5 (by omega) (by omega) (by omega) (by omega) (by omega))
          refine lv_aload_n hx hb dX12_either_54 rfl (lv_at hl 1 rfl) ?_
          refine va_get (D := (dC, dI)) (ci := 12) (v := .int (v14825 40)) (C := RX12) (T := TX12) (N := 63) hx hb hwd inA_X12 hown hK hP 0 rfl rfl 40 (by decide) (hwd _ wk_1005) (fun _ h9 => h9) rfl dX12_either_55 ?_
          refine my_top (v := v14815 40) (hf14827 40 (by decide)) ?_
          refine lv_if_ge (tgt := 70) hx hb dX12_either_58 (by decide) (fun c14831 => ?_) (fun c14831 => ?_)
          · skip
            have t14832 := cv_le (a := 0) (by decide) (b := (v14815 40).toInt) rfl c14831
            have hP9 : va_P (dC, dI) classes (wM g c v14825 F14826 rc) H := hP
            exact W.vret hx hb hr (fun t ht hW => ⟨⟨(v14825, F14826, rc), rfl, ⟨hI, rfl, (frC (by decide) hf14827 (frC (by decide) hf14817 (frU (by decide) (frC (by decide) hf14417 (fun _ _ => rfl))))), hF, (by show ((v 39).toInt ≤ (v14825 39).toInt ∧ (v14825 39).toInt ≤ (v 30).toInt ∧ (v 38).toInt ≤ (v14825 38).toInt ∧ (v14825 38).toInt - (v 38).toInt ≤ (v14825 39).toInt - (v 39).toInt ∧ (v 41).toInt ≤ (v14825 41).toInt ∧ ((v14825 40).toInt < 0 → (v14825 41).toInt = (v 41).toInt)) ∧ keepL (v 37) (F 28) (F 29) (F14826 28) (F14826 29) ∧ ((v14825 40).toInt < 0 → dp (F14826 28) (F14826 29) (bI (v 37)) (v14825 38).toInt.toNat = some (d + 1)); rw [show v14825 39 = v14815 39 from hf14827 39 (by decide)]; rw [show v14825 41 = v14815 41 from hf14827 41 (by decide)]; rw [show v14825 40 = v14815 40 from hf14827 40 (by decide)]; exact ⟨by omega, hk, fun hf => (hd (by omega)).trans (congrArg some (by omega))⟩)⟩, (by show va_P _ _ _ t.heap; rw [ht]; exact hP9)⟩, hS.F ht⟩) hS.2.2 dX12_either_70
          · skip
            have t14833 := cv_nle (a := 0) (by decide) (b := (v14815 40).toInt) rfl c14831
            refine lv_aload_n hx hb dX12_either_61 rfl (lv_at hl 1 rfl) ?_
            have t14834 : 0 ≤ (v 30).toInt ∧ (v 30).toInt ≤ 120 := by have h9 := hI.1 30 _ _ rfl; rw [show v14825 30 = v 30 from (hf14827 30 (by decide)).trans ((hf14817 30 (by decide)).trans (hf14417 30 (by decide)))] at h9; exact h9
            have t14835 : 0 ≤ (v14815 39).toInt ∧ (v14815 39).toInt ≤ 120 := by have h9 := hI.1 39 _ _ rfl; rw [show v14825 39 = v14815 39 from hf14827 39 (by decide)] at h9; exact h9
            refine va_calli (va_runV (As := []) (rest := []) ⟨hx, hb, hml, hown, hwd⟩ (c_X12_look l dC dI g c adK adV v14825 F14826 rc H.size  hg hI ) (cwV 0 hwd (gV wk_1017 wk_1014 wk_1015 wk_1016 wk_5) rfl rfl rfl (by decide +kernel) ⟨Nat.le_of_ble_eq_true rfl, Nat.le_of_ble_eq_true rfl⟩) ⟨PM.blind, va_recv hK hP (ci := 12) (q0 := 0) rfl rfl, fun U hU hW => ⟨rfl, PM.at hK hE hP hS hU hW⟩⟩ rfl rfl hl.1 rfl (lv_room (Nat.le_of_ble_eq_true rfl)) dX12_either_62 ⟨Nat.le_of_ble_eq_true rfl, Nat.le_of_ble_eq_true rfl⟩) hS (fun q _ h => (freeM hS) q h) (freeM hS) (fun r14836 u t H1 locs ht hvm hw hB hz1 hk1 hS => ?_)
            unfold BM at hB
            rw [ht] at hB
            have hP : va_P (dC, dI) classes (wM g c v14825 F14826 rc) H1 := hB
            have hw : r14836.toInt = lkM (v14825 39) (v14825 30) (F14826 24) ∧ ((v14825 39).toInt < (v14825 30).toInt ∨ r14836.toInt = -1) := hw
            rw [show v14825 39 = v14815 39 from hf14827 39 (by decide)] at hw
            rw [show v14825 30 = v 30 from (hf14827 30 (by decide)).trans ((hf14817 30 (by decide)).trans (hf14417 30 (by decide)))] at hw
            rw [hF 24 (by decide)] at hw
            have hw_r14836 := hw
            generalize H1 = H at hP hS ⊢
            refine lv_bipush (v := 63) hx hb dX12_either_65 (by decide) ?_
            refine lv_icmp_eq (tgt := 71) hx hb dX12_either_67 (by decide) (fun c14837 => ?_) (fun c14837 => ?_)
            · skip
              have t14838 := cv_eq (a := r14836.toInt) rfl (b := 63) (by decide) c14837
              refine lv_aload_n hx hb dX12_either_71 rfl (lv_at hl 1 rfl) ?_
              have t14839 : 0 ≤ (v14815 39).toInt ∧ (v14815 39).toInt ≤ 120 := by have h9 := hI.1 39 _ _ rfl; rw [show v14825 39 = v14815 39 from hf14827 39 (by decide)] at h9; exact h9
              have t14840 : 0 ≤ (v14815 41).toInt ∧ (v14815 41).toInt ≤ 8 := by have h9 := hI.1 41 _ _ rfl; rw [show v14825 41 = v14815 41 from hf14827 41 (by decide)] at h9; exact h9
              refine va_calli (va_runV (As := []) (rest := []) ⟨hx, hb, hml, hown, hwd⟩ (c_X12_opens l dC dI g c adK adV v14825 F14826 rc H.size  hg hI (by have h9 : v14825 39 = v14815 39 := hf14827 39 (by decide); (try rw [h9]); clear h9; have h9 : v14825 30 = v 30 := (hf14827 30 (by decide)).trans ((hf14817 30 (by decide)).trans (hf14417 30 (by decide))); (try rw [h9]); clear h9; omega)) (cwV 0 hwd (gV wk_1025 wk_1022 wk_1023 wk_1024 wk_5) rfl rfl rfl (by decide +kernel) ⟨Nat.le_of_ble_eq_true rfl, Nat.le_of_ble_eq_true rfl⟩) ⟨PM.blind, va_recv hK hP (ci := 12) (q0 := 0) rfl rfl, fun U hU hW => ⟨rfl, PM.at hK hE hP hS hU hW⟩⟩ rfl rfl hl.1 rfl (lv_room (Nat.le_of_ble_eq_true rfl)) dX12_either_72 ⟨Nat.le_of_ble_eq_true rfl, Nat.le_of_ble_eq_true rfl⟩) hS (fun q _ h => (freeM hS) q h) (freeM hS) (fun r14841 u t H1 locs ht hvm hw hB hz1 hk1 hS => ?_)
              unfold BM at hB
              rw [ht] at hB
              obtain ⟨v14842, F14843, rc9⟩ := u
              obtain ⟨hI, hrc, hf14844, hG14845, hw⟩ := hw
              dsimp only at hI hrc hB hf14844 hG14845 hw
              have hF := frCF (by decide) hG14845 hF
              rw [hrc] at hB
              have hP : va_P (dC, dI) classes (wM g c v14842 F14843 rc) H1 := hB
              have hw : (r14841.toInt = 1 ∧ (v14825 41).toInt < 8 ∧ (v14842 41).toInt = (v14825 41).toInt + 1 ∧ (v14842 39).toInt = (v14825 39).toInt + 1 ∧ (v14842 40).toInt = (v14825 40).toInt) ∨ (r14841.toInt = 0 ∧ (v14825 41).toInt = 8 ∧ 0 ≤ (v14842 40).toInt ∧ (v14842 41).toInt = (v14825 41).toInt ∧ (v14842 39).toInt = (v14825 39).toInt) := hw
              rw [show v14825 41 = v14815 41 from hf14827 41 (by decide)] at hw
              rw [show v14825 39 = v14815 39 from hf14827 39 (by decide)] at hw
              rw [show v14825 40 = v14815 40 from hf14827 40 (by decide)] at hw
              have hw_r14841 := hw
              have t14846 : 0 ≤ (v14842 39).toInt ∧ (v14842 39).toInt ≤ 120 := hI.1 39 _ _ rfl
              have t14847 : 0 ≤ (v14842 41).toInt ∧ (v14842 41).toInt ≤ 8 := hI.1 41 _ _ rfl
              generalize H1 = H at hP hS ⊢
              have hk : keepL (v 37) (F 28) (F 29) (F14843 28) (F14843 29) := by rw [hG14845 28 (by decide), hG14845 29 (by decide)]; exact hk
              have hd : (v14842 40).toInt < 0 → dp (F14843 28) (F14843 29) (bI (v 37)) (v14825 38).toInt.toNat = some (((d + 1) + 1) - 1) := fun hf => (by rw [hG14845 28 (by decide), hG14845 29 (by decide)]; exact hd (by omega))
              refine lv_if_ne (tgt := 79) hx hb dX12_either_75 (by decide) (fun c14848 => ?_) (fun c14848 => ?_)
              · skip
                have t14849 := cv_ne (a := r14841.toInt) rfl (b := 0) (by decide) c14848
                refine lv_aload_n hx hb dX12_either_79 rfl (lv_at hl 1 rfl) ?_
                have t14850 : 0 ≤ (v 30).toInt ∧ (v 30).toInt ≤ 120 := by have h9 := hI.1 30 _ _ rfl; rw [show v14842 30 = v 30 from (hf14844 30 (by decide)).trans ((hf14827 30 (by decide)).trans ((hf14817 30 (by decide)).trans (hf14417 30 (by decide))))] at h9; exact h9
                have t14851 : 0 ≤ (v 37).toInt ∧ (v 37).toInt ≤ 9 := by have h9 := hI.1 37 _ _ rfl; rw [show v14842 37 = v 37 from (hf14844 37 (by decide)).trans ((hf14827 37 (by decide)).trans ((hf14817 37 (by decide)).trans (hf14417 37 (by decide))))] at h9; exact h9
                have t14852 : 0 ≤ (v14825 38).toInt ∧ (v14825 38).toInt ≤ 120 := by have h9 := hI.1 38 _ _ rfl; rw [show v14842 38 = v14825 38 from hf14844 38 (by decide)] at h9; exact h9
                have t14853 : 0 ≤ (v14842 39).toInt ∧ (v14842 39).toInt ≤ 120 := hI.1 39 _ _ rfl
                have t14854 : 0 ≤ (v14842 41).toInt ∧ (v14842 41).toInt ≤ 8 := hI.1 41 _ _ rfl
                refine va_callv (va_runV (As := []) (rest := []) ⟨hx, hb, hml, hown, hwd⟩ (c_X12_either_7 l dC dI g c adK adV v14842 F14843 rc H.size  (((d + 1) + 1) - 1) hg hI (by have h9 : v14842 38 = v14825 38 := hf14844 38 (by decide); (try rw [h9]); clear h9; have h9 : v14842 39 = v14842 39 := rfl; (try rw [h9]); clear h9; have h9 : v14842 30 = v 30 := (hf14844 30 (by decide)).trans ((hf14827 30 (by decide)).trans ((hf14817 30 (by decide)).trans (hf14417 30 (by decide)))); (try rw [h9]); clear h9; have h9 : v14842 40 = v14842 40 := rfl; (try rw [h9]); clear h9; have h9 : v14842 41 = v14842 41 := rfl; (try rw [h9]); clear h9; omega) (by have h9 : v14842 37 = (v 37) := (hf14844 37 (by decide)).trans ((hf14827 37 (by decide)).trans ((hf14817 37 (by decide)).trans (hf14417 37 (by decide)))); have h8 : v14842 38 = (v14825 38) := hf14844 38 (by decide); (try rw [h9]); (try rw [h8]); exact hd (by omega))) (cwV 0 hwd (gV wk_1010 wk_1007 wk_1008 wk_1009 wk_5) rfl rfl rfl (by decide +kernel) ⟨Nat.le_of_ble_eq_true rfl, Nat.le_of_ble_eq_true rfl⟩) ⟨PM.blind, va_recv hK hP (ci := 12) (q0 := 0) rfl rfl, fun U hU hW => ⟨rfl, PM.at hK hE hP hS hU hW⟩⟩ rfl rfl hl.1 rfl (lv_room (Nat.le_of_ble_eq_true rfl)) dX12_either_80 ⟨Nat.le_of_ble_eq_true rfl, Nat.le_of_ble_eq_true rfl⟩) hS (fun q _ h => (freeM hS) q h) (freeM hS) (fun u t H1 locs ht hvm hw hB hz1 hk1 hS => ?_)
                unfold BM at hB
                rw [ht] at hB
                obtain ⟨v14856, F14857, rc9⟩ := u
                obtain ⟨hI, hrc, hf14858, hG14859, hw⟩ := hw
                dsimp only at hI hrc hB hf14858 hG14859 hw
                have hF := frCF (by decide) hG14859 hF
                rw [hrc] at hB
                have hP : va_P (dC, dI) classes (wM g c v14856 F14857 rc) H1 := hB
                have hw : ((v14842 39).toInt ≤ (v14856 39).toInt ∧ (v14856 39).toInt ≤ (v14842 30).toInt ∧ (v14842 38).toInt ≤ (v14856 38).toInt ∧ (v14856 38).toInt - (v14842 38).toInt ≤ (v14856 39).toInt - (v14842 39).toInt ∧ (v14842 41).toInt ≤ (v14856 41).toInt ∧ ((v14856 40).toInt < 0 → (v14856 41).toInt = (v14842 41).toInt)) ∧ keepL (v14842 37) (F14843 28) (F14843 29) (F14857 28) (F14857 29) ∧ ((v14856 40).toInt < 0 → dp (F14857 28) (F14857 29) (bI (v14842 37)) (v14856 38).toInt.toNat = some ((((d + 1) + 1) - 1) + 1)) := hw
                rw [show v14842 30 = v 30 from (hf14844 30 (by decide)).trans ((hf14827 30 (by decide)).trans ((hf14817 30 (by decide)).trans (hf14417 30 (by decide))))] at hw
                rw [show v14842 38 = v14825 38 from hf14844 38 (by decide)] at hw
                rw [show v14842 37 = v 37 from (hf14844 37 (by decide)).trans ((hf14827 37 (by decide)).trans ((hf14817 37 (by decide)).trans (hf14417 37 (by decide))))] at hw
                have hw_r14855 := hw
                have t14860 : 0 ≤ (v14856 38).toInt ∧ (v14856 38).toInt ≤ 120 := hI.1 38 _ _ rfl
                have t14861 : 0 ≤ (v14856 39).toInt ∧ (v14856 39).toInt ≤ 120 := hI.1 39 _ _ rfl
                have t14862 : 0 ≤ (v14856 41).toInt ∧ (v14856 41).toInt ≤ 8 := hI.1 41 _ _ rfl
                generalize H1 = H at hP hS ⊢
                have hk := hk.tr hw_r14855.2.1
                have hd := hw_r14855.2.2
                refine lv_aload_n hx hb dX12_either_83 rfl (lv_at hl 1 rfl) ?_
                refine va_get (D := (dC, dI)) (ci := 12) (v := .int (v14856 40)) (C := RX12) (T := TX12) (N := 63) hx hb hwd inA_X12 hown hK hP 0 rfl rfl 40 (by decide) (hwd _ wk_1005) (fun _ h9 => h9) rfl dX12_either_84 ?_
                refine lv_if_lt (tgt := 91) hx hb dX12_either_87 (by decide) (fun c14863 => ?_) (fun c14863 => ?_)
                · skip
                  have t14864 := cv_lt (a := (v14856 40).toInt) rfl (b := 0) (by decide) c14863
                  refine lv_aload_n hx hb dX12_either_91 rfl (lv_at hl 1 rfl) ?_
                  have t14865 : 0 ≤ (v 30).toInt ∧ (v 30).toInt ≤ 120 := by have h9 := hI.1 30 _ _ rfl; rw [show v14856 30 = v 30 from (hf14858 30 (by decide)).trans ((hf14844 30 (by decide)).trans ((hf14827 30 (by decide)).trans ((hf14817 30 (by decide)).trans (hf14417 30 (by decide)))))] at h9; exact h9
                  have t14866 : 0 ≤ (v14856 39).toInt ∧ (v14856 39).toInt ≤ 120 := hI.1 39 _ _ rfl
                  refine va_calli (va_runV (As := []) (rest := []) ⟨hx, hb, hml, hown, hwd⟩ (c_X12_look l dC dI g c adK adV v14856 F14857 rc H.size  hg hI ) (cwV 0 hwd (gV wk_1017 wk_1014 wk_1015 wk_1016 wk_5) rfl rfl rfl (by decide +kernel) ⟨Nat.le_of_ble_eq_true rfl, Nat.le_of_ble_eq_true rfl⟩) ⟨PM.blind, va_recv hK hP (ci := 12) (q0 := 0) rfl rfl, fun U hU hW => ⟨rfl, PM.at hK hE hP hS hU hW⟩⟩ rfl rfl hl.1 rfl (lv_room (Nat.le_of_ble_eq_true rfl)) dX12_either_92 ⟨Nat.le_of_ble_eq_true rfl, Nat.le_of_ble_eq_true rfl⟩) hS (fun q _ h => (freeM hS) q h) (freeM hS) (fun r14867 u t H1 locs ht hvm hw hB hz1 hk1 hS => ?_)
                  unfold BM at hB
                  rw [ht] at hB
                  have hP : va_P (dC, dI) classes (wM g c v14856 F14857 rc) H1 := hB
                  have hw : r14867.toInt = lkM (v14856 39) (v14856 30) (F14857 24) ∧ ((v14856 39).toInt < (v14856 30).toInt ∨ r14867.toInt = -1) := hw
                  rw [show v14856 30 = v 30 from (hf14858 30 (by decide)).trans ((hf14844 30 (by decide)).trans ((hf14827 30 (by decide)).trans ((hf14817 30 (by decide)).trans (hf14417 30 (by decide)))))] at hw
                  rw [hF 24 (by decide)] at hw
                  have hw_r14867 := hw
                  generalize H1 = H at hP hS ⊢
                  refine lv_bipush (v := 58) hx hb dX12_either_95 (by decide) ?_
                  refine lv_icmp_eq (tgt := 105) hx hb dX12_either_97 (by decide) (fun c14868 => ?_) (fun c14868 => ?_)
                  · skip
                    have t14869 := cv_eq (a := r14867.toInt) rfl (b := 58) (by decide) c14868
                    refine lv_aload_n hx hb dX12_either_105 rfl (lv_at hl 1 rfl) ?_
                    refine lv_dup hx hb dX12_either_106 rfl ?_
                    refine va_get (D := (dC, dI)) (ci := 12) (v := .int (v14856 39)) (C := RX12) (T := TX12) (N := 63) hx hb hwd inA_X12 hown hK hP 0 rfl rfl 39 (by decide) (hwd _ wk_1004) (fun _ h9 => h9) rfl dX12_either_107 ?_
                    have t14870 : 0 ≤ (v14856 39).toInt ∧ (v14856 39).toInt ≤ 120 := hI.1 39 _ _ rfl
                    refine lv_iconst (v := 1) hx hb dX12_either_110 (by decide) ?_
                    refine lv_iadd hx hb dX12_either_111 ?_
                    refine lv_topi (fun z14871 e14872 => ?_)
                    try (have t14873 := tadd e14872 (a := (v14856 39).toInt) rfl (b := 1) (by decide) (by omega))
                    refine va_put (D := (dC, dI)) (ci := 12) (v := .int z14871) (ty := .int) (C := RX12) (T := TX12) (N := 63) (fs := fsM_0 g v14856 rc) hx hb hwd inA_X12 tyX12 tyX12_ok nmX12 hown hK hP (DM hg) hS 0 rfl rfl 39 (by decide) (hwd _ wk_1004) (fun _ h9 => h9) rfl (by decide +kernel) rfl rfl (Nat.le_of_ble_eq_true rfl) dX12_either_112 (fun H locs hP _ hS => ?_)
                    have hP := va_P_eq (pM_39 g c _ _ _ _) hP
                    have hI := IM.put hI 39 z14871 rfl (by omega)
                    refine lv_aload_n hx hb dX12_either_115 rfl (lv_at hl 1 rfl) ?_
                    have t14874 : 0 ≤ (v 30).toInt ∧ (v 30).toInt ≤ 120 := by have h9 := hI.1 30 _ _ rfl; rw [show (va_up v14856 39 z14871) 30 = v 30 from (hf14858 30 (by decide)).trans ((hf14844 30 (by decide)).trans ((hf14827 30 (by decide)).trans ((hf14817 30 (by decide)).trans (hf14417 30 (by decide)))))] at h9; exact h9
                    have t14875 : 0 ≤ (v 37).toInt ∧ (v 37).toInt ≤ 9 := by have h9 := hI.1 37 _ _ rfl; rw [show (va_up v14856 39 z14871) 37 = v 37 from (hf14858 37 (by decide)).trans ((hf14844 37 (by decide)).trans ((hf14827 37 (by decide)).trans ((hf14817 37 (by decide)).trans (hf14417 37 (by decide)))))] at h9; exact h9
                    have t14876 : 0 ≤ (v14856 38).toInt ∧ (v14856 38).toInt ≤ 120 := hI.1 38 _ _ rfl
                    have t14877 : 0 ≤ z14871.toInt ∧ z14871.toInt ≤ 120 := hI.1 39 _ _ rfl
                    have t14878 : 0 ≤ (v14856 41).toInt ∧ (v14856 41).toInt ≤ 8 := hI.1 41 _ _ rfl
                    refine va_callv (va_runV (As := []) (rest := []) ⟨hx, hb, hml, hown, hwd⟩ (c_X12_either_7 l dC dI g c adK adV (va_up v14856 39 z14871) F14857 rc H.size  ((((d + 1) + 1) - 1) + 1) hg hI (by have h9 : (va_up v14856 39 z14871) 38 = v14856 38 := rfl; (try rw [h9]); clear h9; have h9 : (va_up v14856 39 z14871) 39 = z14871 := rfl; (try rw [h9]); clear h9; have h9 : (va_up v14856 39 z14871) 30 = v 30 := (hf14858 30 (by decide)).trans ((hf14844 30 (by decide)).trans ((hf14827 30 (by decide)).trans ((hf14817 30 (by decide)).trans (hf14417 30 (by decide))))); (try rw [h9]); clear h9; have h9 : (va_up v14856 39 z14871) 40 = v14856 40 := rfl; (try rw [h9]); clear h9; have h9 : (va_up v14856 39 z14871) 41 = v14856 41 := rfl; (try rw [h9]); clear h9; omega) (by have h9 : (va_up v14856 39 z14871) 37 = (v 37) := (hf14858 37 (by decide)).trans ((hf14844 37 (by decide)).trans ((hf14827 37 (by decide)).trans ((hf14817 37 (by decide)).trans (hf14417 37 (by decide))))); have h8 : (va_up v14856 39 z14871) 38 = (v14856 38) := rfl; (try rw [h9]); (try rw [h8]); exact hd (by omega))) (cwV 0 hwd (gV wk_1010 wk_1007 wk_1008 wk_1009 wk_5) rfl rfl rfl (by decide +kernel) ⟨Nat.le_of_ble_eq_true rfl, Nat.le_of_ble_eq_true rfl⟩) ⟨PM.blind, va_recv hK hP (ci := 12) (q0 := 0) rfl rfl, fun U hU hW => ⟨rfl, PM.at hK hE hP hS hU hW⟩⟩ rfl rfl hl.1 rfl (lv_room (Nat.le_of_ble_eq_true rfl)) dX12_either_116 ⟨Nat.le_of_ble_eq_true rfl, Nat.le_of_ble_eq_true rfl⟩) hS (fun q _ h => (freeM hS) q h) (freeM hS) (fun u t H1 locs ht hvm hw hB hz1 hk1 hS => ?_)
                    unfold BM at hB
                    rw [ht] at hB
                    obtain ⟨v14880, F14881, rc9⟩ := u
                    obtain ⟨hI, hrc, hf14882, hG14883, hw⟩ := hw
                    dsimp only at hI hrc hB hf14882 hG14883 hw
                    have hF := frCF (by decide) hG14883 hF
                    rw [hrc] at hB
                    have hP : va_P (dC, dI) classes (wM g c v14880 F14881 rc) H1 := hB
                    have hw : (z14871.toInt ≤ (v14880 39).toInt ∧ (v14880 39).toInt ≤ ((va_up v14856 39 z14871) 30).toInt ∧ (v14856 38).toInt ≤ (v14880 38).toInt ∧ (v14880 38).toInt - (v14856 38).toInt ≤ (v14880 39).toInt - z14871.toInt ∧ (v14856 41).toInt ≤ (v14880 41).toInt ∧ ((v14880 40).toInt < 0 → (v14880 41).toInt = (v14856 41).toInt)) ∧ keepL ((va_up v14856 39 z14871) 37) (F14857 28) (F14857 29) (F14881 28) (F14881 29) ∧ ((v14880 40).toInt < 0 → dp (F14881 28) (F14881 29) (bI ((va_up v14856 39 z14871) 37)) (v14880 38).toInt.toNat = some (((((d + 1) + 1) - 1) + 1) + 1)) := hw
                    rw [show (va_up v14856 39 z14871) 30 = v 30 from (hf14858 30 (by decide)).trans ((hf14844 30 (by decide)).trans ((hf14827 30 (by decide)).trans ((hf14817 30 (by decide)).trans (hf14417 30 (by decide)))))] at hw
                    rw [show (va_up v14856 39 z14871) 37 = v 37 from (hf14858 37 (by decide)).trans ((hf14844 37 (by decide)).trans ((hf14827 37 (by decide)).trans ((hf14817 37 (by decide)).trans (hf14417 37 (by decide)))))] at hw
                    have hw_r14879 := hw
                    have t14884 : 0 ≤ (v14880 38).toInt ∧ (v14880 38).toInt ≤ 120 := hI.1 38 _ _ rfl
                    have t14885 : 0 ≤ (v14880 39).toInt ∧ (v14880 39).toInt ≤ 120 := hI.1 39 _ _ rfl
                    have t14886 : 0 ≤ (v14880 41).toInt ∧ (v14880 41).toInt ≤ 8 := hI.1 41 _ _ rfl
                    generalize H1 = H at hP hS ⊢
                    have hk := hk.tr hw_r14879.2.1
                    have hd := hw_r14879.2.2
                    refine lv_aload_n hx hb dX12_either_119 rfl (lv_at hl 1 rfl) ?_
                    refine lv_iconst (v := 4) hx hb dX12_either_120 (by decide) ?_
                    refine lv_iconst (v := 0) hx hb dX12_either_121 (by decide) ?_
                    have t14887 : 0 ≤ (v 37).toInt ∧ (v 37).toInt ≤ 9 := by have h9 := hI.1 37 _ _ rfl; rw [show v14880 37 = v 37 from (hf14882 37 (by decide)).trans ((hf14858 37 (by decide)).trans ((hf14844 37 (by decide)).trans ((hf14827 37 (by decide)).trans ((hf14817 37 (by decide)).trans (hf14417 37 (by decide))))))] at h9; exact h9
                    have t14888 : 0 ≤ (v14880 38).toInt ∧ (v14880 38).toInt ≤ 120 := hI.1 38 _ _ rfl
                    refine va_callv (va_runV (As := [.int 4, .int 0]) (rest := []) ⟨hx, hb, hml, hown, hwd⟩ (c_X12_lay l dC dI g c adK adV v14880 F14881 rc H.size 4 0 hg hI (by have h9 : v14880 38 = v14880 38 := rfl; rw [h9]; omega)) (cwV 2 hwd (gV wk_1021 wk_1018 wk_1019 wk_1020 wk_5) rfl rfl rfl (by decide +kernel) ⟨Nat.le_of_ble_eq_true rfl, Nat.le_of_ble_eq_true rfl⟩) ⟨PM.blind, va_recv hK hP (ci := 12) (q0 := 0) rfl rfl, fun U hU hW => ⟨rfl, PM.at hK hE hP hS hU hW⟩⟩ rfl rfl hl.1 rfl (lv_room (Nat.le_of_ble_eq_true rfl)) dX12_either_122 ⟨Nat.le_of_ble_eq_true rfl, Nat.le_of_ble_eq_true rfl⟩) hS (fun q _ h => (freeM hS) q h) (freeM hS) (fun u t H1 locs ht hvm hw hB hz1 hk1 hS => ?_)
                    unfold BM at hB
                    rw [ht] at hB
                    obtain ⟨v14890, F14891, rc9⟩ := u
                    obtain ⟨hI, hrc, hf14892, hG14893, hw⟩ := hw
                    dsimp only at hI hrc hB hf14892 hG14893 hw
                    have hF := frCF (by decide) hG14893 hF
                    rw [hrc] at hB
                    have hP : va_P (dC, dI) classes (wM g c v14890 F14891 rc) H1 := hB
                    have hw : (v14890 38).toInt = (v14880 38).toInt + 1 ∧ keepL (v14880 37) (F14881 28) (F14881 29) (F14891 28) (F14891 29) ∧ dp (F14891 28) (F14891 29) (bI (v14880 37)) ((v14880 38).toInt.toNat + 1) = dpS (dp (F14881 28) (F14881 29) (bI (v14880 37)) (v14880 38).toInt.toNat) (4 : Int32) (0 : Int32) := hw
                    rw [show v14880 37 = v 37 from (hf14882 37 (by decide)).trans ((hf14858 37 (by decide)).trans ((hf14844 37 (by decide)).trans ((hf14827 37 (by decide)).trans ((hf14817 37 (by decide)).trans (hf14417 37 (by decide))))))] at hw
                    have hw_r14889 := hw
                    have t14894 : 0 ≤ (v14890 38).toInt ∧ (v14890 38).toInt ≤ 120 := hI.1 38 _ _ rfl
                    have k14895 : (4 : Int32).toInt = 4 := by decide
                    have k14896 : (0 : Int32).toInt = 0 := by decide
                    generalize H1 = H at hP hS ⊢
                    have hk := hk.tr hw_r14889.2.1
                    have hd : (v14880 40).toInt < 0 → dp (F14891 28) (F14891 29) (bI (v 37)) (v14890 38).toInt.toNat = some ((((((d + 1) + 1) - 1) + 1) + 1) - 2) := fun hf => (by have e9 : (v14890 38).toInt.toNat = (v14880 38).toInt.toNat + 1 := (by omega); rw [e9, hw_r14889.2.2, hd hf]; exact dpS_4 (by decide) (by omega))
                    refine lv_aload_n hx hb dX12_either_125 rfl (lv_at hl 1 rfl) ?_
                    refine lv_dup hx hb dX12_either_126 rfl ?_
                    refine va_get (D := (dC, dI)) (ci := 12) (v := .int (v14890 41)) (C := RX12) (T := TX12) (N := 63) hx hb hwd inA_X12 hown hK hP 0 rfl rfl 41 (by decide) (hwd _ wk_1006) (fun _ h9 => h9) rfl dX12_either_127 ?_
                    refine my_top (v := v14880 41) (hf14892 41 (by decide)) ?_
                    have t14897 : 0 ≤ (v14880 41).toInt ∧ (v14880 41).toInt ≤ 8 := by have h9 := hI.1 41 _ _ rfl; rw [show v14890 41 = v14880 41 from hf14892 41 (by decide)] at h9; exact h9
                    refine lv_iconst (v := 1) hx hb dX12_either_130 (by decide) ?_
                    refine lv_isub hx hb dX12_either_131 ?_
                    refine lv_topi (fun z14898 e14899 => ?_)
                    try (have t14900 := tsub e14899 (a := (v14880 41).toInt) rfl (b := 1) (by decide) (by omega))
                    refine va_put (D := (dC, dI)) (ci := 12) (v := .int z14898) (ty := .int) (C := RX12) (T := TX12) (N := 63) (fs := fsM_0 g v14890 rc) hx hb hwd inA_X12 tyX12 tyX12_ok nmX12 hown hK hP (DM hg) hS 0 rfl rfl 41 (by decide) (hwd _ wk_1006) (fun _ h9 => h9) rfl (by decide +kernel) rfl rfl (Nat.le_of_ble_eq_true rfl) dX12_either_132 (fun H locs hP _ hS => ?_)
                    have hP := va_P_eq (pM_41 g c _ _ _ _) hP
                    have hI := IM.put hI 41 z14898 rfl (by omega)
                    have hP9 : va_P (dC, dI) classes (wM g c (va_up v14890 41 z14898) F14891 rc) H := hP
                    exact W.vret hx hb hr (fun t ht hW => ⟨⟨((va_up v14890 41 z14898), F14891, rc), rfl, ⟨hI, rfl, (frU (by decide) (frC (by decide) hf14892 (frC (by decide) hf14882 (frU (by decide) (frC (by decide) hf14858 (frC (by decide) hf14844 (frC (by decide) hf14827 (frC (by decide) hf14817 (frU (by decide) (frC (by decide) hf14417 (fun _ _ => rfl))))))))))), hF, (by show ((v 39).toInt ≤ ((va_up v14890 41 z14898) 39).toInt ∧ ((va_up v14890 41 z14898) 39).toInt ≤ (v 30).toInt ∧ (v 38).toInt ≤ (v14890 38).toInt ∧ (v14890 38).toInt - (v 38).toInt ≤ ((va_up v14890 41 z14898) 39).toInt - (v 39).toInt ∧ (v 41).toInt ≤ z14898.toInt ∧ (((va_up v14890 41 z14898) 40).toInt < 0 → z14898.toInt = (v 41).toInt)) ∧ keepL (v 37) (F 28) (F 29) (F14891 28) (F14891 29) ∧ (((va_up v14890 41 z14898) 40).toInt < 0 → dp (F14891 28) (F14891 29) (bI (v 37)) (v14890 38).toInt.toNat = some (d + 1)); rw [show (va_up v14890 41 z14898) 39 = v14880 39 from hf14892 39 (by decide)]; rw [show (va_up v14890 41 z14898) 40 = v14880 40 from hf14892 40 (by decide)]; exact ⟨by omega, hk, fun hf => (hd (by omega)).trans (congrArg some (by omega))⟩)⟩, (by show va_P _ _ _ t.heap; rw [ht]; exact hP9)⟩, hS.F ht⟩) hS.2.2 dX12_either_135
                  · skip
                    have t14901 := cv_ne (a := r14867.toInt) rfl (b := 58) (by decide) c14868
                    refine lv_aload_n hx hb dX12_either_100 rfl (lv_at hl 1 rfl) ?_
                    refine va_callv (va_runV (As := []) (rest := []) ⟨hx, hb, hml, hown, hwd⟩ (c_X12_wrong l dC dI g c adK adV v14856 F14857 rc H.size  hg hI ) (cwV 0 hwd (gV wk_1029 wk_1026 wk_1027 wk_1028 wk_5) rfl rfl rfl (by decide +kernel) ⟨Nat.le_of_ble_eq_true rfl, Nat.le_of_ble_eq_true rfl⟩) ⟨PM.blind, va_recv hK hP (ci := 12) (q0 := 0) rfl rfl, fun U hU hW => ⟨rfl, PM.at hK hE hP hS hU hW⟩⟩ rfl rfl hl.1 rfl (lv_room (Nat.le_of_ble_eq_true rfl)) dX12_either_101 ⟨Nat.le_of_ble_eq_true rfl, Nat.le_of_ble_eq_true rfl⟩) hS (fun q _ h => (freeM hS) q h) (freeM hS) (fun u t H1 locs ht hvm hw hB hz1 hk1 hS => ?_)
                    unfold BM at hB
                    rw [ht] at hB
                    obtain ⟨v14903, F14904, rc9⟩ := u
                    obtain ⟨hI, hrc, hf14905, hG14906, hw⟩ := hw
                    dsimp only at hI hrc hB hf14905 hG14906 hw
                    have hF := frCF (by decide) hG14906 hF
                    rw [hrc] at hB
                    have hP : va_P (dC, dI) classes (wM g c v14903 F14904 rc) H1 := hB
                    have hw : 0 ≤ (v14903 40).toInt := hw
                    have hw_r14902 := hw
                    generalize H1 = H at hP hS ⊢
                    have hk : keepL (v 37) (F 28) (F 29) (F14904 28) (F14904 29) := by rw [hG14906 28 (by decide), hG14906 29 (by decide)]; exact hk
                    have hd : (v14903 40).toInt < 0 → dp (F14904 28) (F14904 29) (bI (v 37)) (v14856 38).toInt.toNat = some ((((d + 1) + 1) - 1) + 1) := fun hf => (by rw [hG14906 28 (by decide), hG14906 29 (by decide)]; exact hd (by omega))
                    have hP9 : va_P (dC, dI) classes (wM g c v14903 F14904 rc) H := hP
                    exact W.vret hx hb hr (fun t ht hW => ⟨⟨(v14903, F14904, rc), rfl, ⟨hI, rfl, (frC (by decide) hf14905 (frC (by decide) hf14858 (frC (by decide) hf14844 (frC (by decide) hf14827 (frC (by decide) hf14817 (frU (by decide) (frC (by decide) hf14417 (fun _ _ => rfl)))))))), hF, (by show ((v 39).toInt ≤ (v14903 39).toInt ∧ (v14903 39).toInt ≤ (v 30).toInt ∧ (v 38).toInt ≤ (v14903 38).toInt ∧ (v14903 38).toInt - (v 38).toInt ≤ (v14903 39).toInt - (v 39).toInt ∧ (v 41).toInt ≤ (v14903 41).toInt ∧ ((v14903 40).toInt < 0 → (v14903 41).toInt = (v 41).toInt)) ∧ keepL (v 37) (F 28) (F 29) (F14904 28) (F14904 29) ∧ ((v14903 40).toInt < 0 → dp (F14904 28) (F14904 29) (bI (v 37)) (v14903 38).toInt.toNat = some (d + 1)); rw [show v14903 39 = v14856 39 from hf14905 39 (by decide)]; rw [show v14903 38 = v14856 38 from hf14905 38 (by decide)]; rw [show v14903 41 = v14856 41 from hf14905 41 (by decide)]; exact ⟨by omega, hk, fun hf => (hd (by omega)).trans (congrArg some (by omega))⟩)⟩, (by show va_P _ _ _ t.heap; rw [ht]; exact hP9)⟩, hS.F ht⟩) hS.2.2 dX12_either_104
                · skip
                  have t14907 := cv_nlt (a := (v14856 40).toInt) rfl (b := 0) (by decide) c14863
                  have hP9 : va_P (dC, dI) classes (wM g c v14856 F14857 rc) H := hP
                  exact W.vret hx hb hr (fun t ht hW => ⟨⟨(v14856, F14857, rc), rfl, ⟨hI, rfl, (frC (by decide) hf14858 (frC (by decide) hf14844 (frC (by decide) hf14827 (frC (by decide) hf14817 (frU (by decide) (frC (by decide) hf14417 (fun _ _ => rfl))))))), hF, (by show ((v 39).toInt ≤ (v14856 39).toInt ∧ (v14856 39).toInt ≤ (v 30).toInt ∧ (v 38).toInt ≤ (v14856 38).toInt ∧ (v14856 38).toInt - (v 38).toInt ≤ (v14856 39).toInt - (v 39).toInt ∧ (v 41).toInt ≤ (v14856 41).toInt ∧ ((v14856 40).toInt < 0 → (v14856 41).toInt = (v 41).toInt)) ∧ keepL (v 37) (F 28) (F 29) (F14857 28) (F14857 29) ∧ ((v14856 40).toInt < 0 → dp (F14857 28) (F14857 29) (bI (v 37)) (v14856 38).toInt.toNat = some (d + 1)); exact ⟨by omega, hk, fun hf => (hd (by omega)).trans (congrArg some (by omega))⟩)⟩, (by show va_P _ _ _ t.heap; rw [ht]; exact hP9)⟩, hS.F ht⟩) hS.2.2 dX12_either_90
              · skip
                have t14908 := cv_eq (a := r14841.toInt) rfl (b := 0) (by decide) c14848
                have hP9 : va_P (dC, dI) classes (wM g c v14842 F14843 rc) H := hP
                exact W.vret hx hb hr (fun t ht hW => ⟨⟨(v14842, F14843, rc), rfl, ⟨hI, rfl, (frC (by decide) hf14844 (frC (by decide) hf14827 (frC (by decide) hf14817 (frU (by decide) (frC (by decide) hf14417 (fun _ _ => rfl)))))), hF, (by show ((v 39).toInt ≤ (v14842 39).toInt ∧ (v14842 39).toInt ≤ (v 30).toInt ∧ (v 38).toInt ≤ (v14842 38).toInt ∧ (v14842 38).toInt - (v 38).toInt ≤ (v14842 39).toInt - (v 39).toInt ∧ (v 41).toInt ≤ (v14842 41).toInt ∧ ((v14842 40).toInt < 0 → (v14842 41).toInt = (v 41).toInt)) ∧ keepL (v 37) (F 28) (F 29) (F14843 28) (F14843 29) ∧ ((v14842 40).toInt < 0 → dp (F14843 28) (F14843 29) (bI (v 37)) (v14842 38).toInt.toNat = some (d + 1)); rw [show v14842 38 = v14825 38 from hf14844 38 (by decide)]; exact ⟨by omega, hk, fun hf => (hd (by omega)).trans (congrArg some (by omega))⟩)⟩, (by show va_P _ _ _ t.heap; rw [ht]; exact hP9)⟩, hS.F ht⟩) hS.2.2 dX12_either_78
            · skip
              have t14909 := cv_ne (a := r14836.toInt) rfl (b := 63) (by decide) c14837
              have hP9 : va_P (dC, dI) classes (wM g c v14825 F14826 rc) H := hP
              exact W.vret hx hb hr (fun t ht hW => ⟨⟨(v14825, F14826, rc), rfl, ⟨hI, rfl, (frC (by decide) hf14827 (frC (by decide) hf14817 (frU (by decide) (frC (by decide) hf14417 (fun _ _ => rfl))))), hF, (by show ((v 39).toInt ≤ (v14825 39).toInt ∧ (v14825 39).toInt ≤ (v 30).toInt ∧ (v 38).toInt ≤ (v14825 38).toInt ∧ (v14825 38).toInt - (v 38).toInt ≤ (v14825 39).toInt - (v 39).toInt ∧ (v 41).toInt ≤ (v14825 41).toInt ∧ ((v14825 40).toInt < 0 → (v14825 41).toInt = (v 41).toInt)) ∧ keepL (v 37) (F 28) (F 29) (F14826 28) (F14826 29) ∧ ((v14825 40).toInt < 0 → dp (F14826 28) (F14826 29) (bI (v 37)) (v14825 38).toInt.toNat = some (d + 1)); rw [show v14825 39 = v14815 39 from hf14827 39 (by decide)]; rw [show v14825 41 = v14815 41 from hf14827 41 (by decide)]; rw [show v14825 40 = v14815 40 from hf14827 40 (by decide)]; exact ⟨by omega, hk, fun hf => (hd (by omega)).trans (congrArg some (by omega))⟩)⟩, (by show va_P _ _ _ t.heap; rw [ht]; exact hP9)⟩, hS.F ht⟩) hS.2.2 dX12_either_70
