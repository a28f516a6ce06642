set_option maxHeartbeats 8000000 in
set_option maxRecDepth 100000 in
theorem c_X12_operand_3 (l : Launch) (dC : Nat → ClassId) (dI : Nat → Nat → Nat) (g : Nat → Nat) (c : Nat → ClassId) (adK adV : Nat → Nat) (v : Nat → Int32) (F : Nat → Nat → Int32) (rc sz : Nat) (d : Nat) (hg : injM g) (hI : IM v F) (hq : (v 38).toInt ≤ (v 39).toInt ∧ (v 39).toInt ≤ (v 30).toInt ∧ (v 40).toInt < 0 ∧ (v 41).toInt = 3) (hdp : dp (F 28) (F 29) (bI (v 37)) (v 38).toInt.toNat = some d) : Met l yX12_operand (Cond.code yX12_operand cX12_operand 2 none :: wA) ({ frames := 23, cells := 0, slots := 0, locals := 920 }) (va_Pc [.ref (g 0)] (PM dC dI g c adK adV v F rc sz)) (va_Qv (fun (u : StM) => IM u.1 u.2.1 ∧ u.2.2 = rc ∧ (∀ k, k ∉ ([38, 39, 40, 41, 42] : List Nat) → u.1 k = v k) ∧ (∀ k, k ∉ ([28, 29] : List Nat) → u.2.1 k = F k) ∧ (((v 39).toInt ≤ (u.1 39).toInt ∧ (u.1 39).toInt ≤ (v 30).toInt ∧ (v 38).toInt ≤ (u.1 38).toInt ∧ (u.1 38).toInt - (v 38).toInt ≤ (u.1 39).toInt - (v 39).toInt ∧ (v 41).toInt ≤ (u.1 41).toInt ∧ ((u.1 40).toInt < 0 → (u.1 41).toInt = (v 41).toInt)) ∧ keepL (v 37) (F 28) (F 29) (u.2.1 28) (u.2.1 29) ∧ ((u.1 40).toInt < 0 → dp (u.2.1 28) (u.2.1 29) (bI (v 37)) (u.1 38).toInt.toNat = some (d + 1)))) (BM dC dI g c) (AM g sz)) 0 0 (AM g sz) := by
  refine Met.ofW (cc := cX12_operand) (maxL := 2) (ret := none) (by decide) rfl ?_
  intro p e s m args below meth c0 s₁ B hml hv
  obtain ⟨rfl, hsz, hP, hK, hE⟩ := hv
  have hx := B.exec
  have hb := B.bytes
  have hr := B.returns
  have hts := atoms_spec (ws := Cond.code yX12_operand cX12_operand 2 none :: wA) B.pre
  have hwd : ∀ w ∈ wA, w.before _ s = true := fun w h => hts w (List.mem_cons_of_mem _ h)
  have hown : s.vm.findClass RX12 = some m.cls := findClass_of_methodNamed B.named
  have hlocks := B.notSynchronized
  subst hsz
  have hl := lv_entry ([.ref (g 0)]) (n := 2) (Nat.le_of_ble_eq_true rfl)
  rw [lg_entry_eq]
  generalize (lg_sl ([.ref (g 0)]) ++ List.replicate (2 - (lg_sl ([.ref (g 0)])).length) Slot.unset).toArray = ls at hl ⊢
  have hl : lv_has ls 2 [(0, .ref (g 0))] := hl
  obtain ⟨H, eH⟩ : ∃ z, z = s.heap := ⟨_, rfl⟩
  have hP : va_P (dC, dI) classes (wM g c v F rc) H := by rw [eH]; exact hP
  have hS : va_S (AM g s.heap.size) s.heap H [] := by rw [eH]; exact va_S.rf
  refine my_heap eH ?_
  have hF : ∀ k, k ∉ ([28, 29] : List Nat) → F k = F k := fun _ _ => rfl
  have hb30 : 0 ≤ (v 30).toInt ∧ (v 30).toInt ≤ 120 := hI.1 30 _ _ rfl
  have hb37 : 0 ≤ (v 37).toInt ∧ (v 37).toInt ≤ 9 := hI.1 37 _ _ rfl
  have hb38 : 0 ≤ (v 38).toInt ∧ (v 38).toInt ≤ 120 := hI.1 38 _ _ rfl
  have hb39 : 0 ≤ (v 39).toInt ∧ (v 39).toInt ≤ 120 := hI.1 39 _ _ rfl
  have hb41 : 0 ≤ (v 41).toInt ∧ (v 41).toInt ≤ 8 := hI.1 41 _ _ rfl
  have hk : keepL (v 37) (F 28) (F 29) (F 28) (F 29) := keepL.rf
  have hd : (v 40).toInt < 0 → dp (F 28) (F 29) (bI (v 37)) (v 38).toInt.toNat = some d := fun _ => hdp
  refine lv_aload_n hx hb dX12_operand_0 rfl (lv_at hl 0 rfl) ?_
  have t18299 : 0 ≤ (v 30).toInt ∧ (v 30).toInt ≤ 120 := hI.1 30 _ _ rfl
  have t18300 : 0 ≤ (v 39).toInt ∧ (v 39).toInt ≤ 120 := hI.1 39 _ _ rfl
  refine va_calli (va_runV (As := []) (rest := []) ⟨hx, hb, hml, hown, hwd⟩ (c_X12_look l dC dI g c adK adV v F rc H.size  hg hI ) (cwV 0 hwd (gV wk_1017 wk_1014 wk_1015 wk_1016 wk_5) rfl rfl rfl (by decide +kernel) ⟨Nat.le_of_ble_eq_true rfl, Nat.le_of_ble_eq_true rfl⟩) ⟨PM.blind, va_recv hK hP (ci := 12) (q0 := 0) rfl rfl, fun U hU hW => ⟨rfl, PM.at hK hE hP hS hU hW⟩⟩ rfl rfl hl.1 rfl (lv_room (Nat.le_of_ble_eq_true rfl)) dX12_operand_1 ⟨Nat.le_of_ble_eq_true rfl, Nat.le_of_ble_eq_true rfl⟩) hS (fun q _ h => (freeM hS) q h) (freeM hS) (fun r18301 u t H1 locs ht hvm hw hB hz1 hk1 hS => ?_)
  unfold BM at hB
  rw [ht] at hB
  have hP : va_P (dC, dI) classes (wM g c v F rc) H1 := hB
  have hw : r18301.toInt = lkM (v 39) (v 30) (F 24) ∧ ((v 39).toInt < (v 30).toInt ∨ r18301.toInt = -1) := hw
  have hw_r18301 := hw
  generalize H1 = H at hP hS ⊢
  refine lv_istore_n (lv' := [(1, .int r18301), (0, .ref (g 0))]) hx hb dX12_operand_4 rfl hl (by decide) rfl (fun ls hl => ?_)
  refine lv_iload_n hx hb dX12_operand_5 rfl (lv_at hl 0 rfl) ?_
  refine va_calli (va_runS (As := [.int r18301]) (rest := []) ⟨hx, hb, hml, hown, hwd⟩ (c_X12_nameOf l dC dI g c adK adV v F rc H.size r18301 hg hI ) (va_cwS 1 hwd (gT wk_1034 wk_1032 wk_1033 wk_5) rfl rfl rfl (by decide +kernel) ⟨Nat.le_of_ble_eq_true rfl, Nat.le_of_ble_eq_true rfl⟩) ⟨PM.blind, fun U hU hW => ⟨rfl, PM.at hK hE hP hS hU hW⟩⟩ rfl rfl hl.1 rfl (lv_room (Nat.le_of_ble_eq_true rfl)) dX12_operand_6 ⟨Nat.le_of_ble_eq_true rfl, Nat.le_of_ble_eq_true rfl⟩) hS (fun q _ h => (freeM hS) q h) (freeM hS) (fun r18302 u t H1 locs ht hvm hw hB hz1 hk1 hS => ?_)
  unfold BM at hB
  rw [ht] at hB
  have hP : va_P (dC, dI) classes (wM g c v F rc) H1 := hB
  have hw : r18302.toInt = nmM r18301 ∧ (-1 ≤ r18302.toInt ∧ r18302.toInt ≤ 5) := hw
  have hw_r18302 := hw
  generalize H1 = H at hP hS ⊢
  have np_r18302 := nmM_pos r18301
  refine lv_if_lt (tgt := 34) hx hb dX12_operand_9 (by decide) (fun c18303 => ?_) (fun c18303 => ?_)
  · skip
    have t18304 := cv_lt (a := r18302.toInt) rfl (b := 0) (by decide) c18303
    refine lv_iload_n hx hb dX12_operand_34 rfl (lv_at hl 0 rfl) ?_
    refine lv_bipush (v := 45) hx hb dX12_operand_35 (by decide) ?_
    refine lv_icmp_ne (tgt := 71) hx hb dX12_operand_37 (by decide) (fun c18305 => ?_) (fun c18305 => ?_)
    · skip
      have t18306 := cv_ne (a := r18301.toInt) rfl (b := 45) (by decide) c18305
      refine lv_iload_n hx hb dX12_operand_71 rfl (lv_at hl 0 rfl) ?_
      refine lv_bipush (v := 40) hx hb dX12_operand_72 (by decide) ?_
      refine lv_icmp_ne (tgt := 134) hx hb dX12_operand_74 (by decide) (fun c18307 => ?_) (fun c18307 => ?_)
      · skip
        have t18308 := cv_ne (a := r18301.toInt) rfl (b := 40) (by decide) c18307
        refine lv_aload_n hx hb dX12_operand_134 rfl (lv_at hl 1 rfl) ?_
        have t18309 : 0 ≤ (v 30).toInt ∧ (v 30).toInt ≤ 120 := hI.1 30 _ _ rfl
        have t18310 : 0 ≤ (v 39).toInt ∧ (v 39).toInt ≤ 120 := hI.1 39 _ _ rfl
        refine va_calli (va_runV (As := []) (rest := []) ⟨hx, hb, hml, hown, hwd⟩ (c_X12_digits l dC dI g c adK adV v F rc H.size  hg hI (by have h9 : v 39 = v 39 := rfl; (try rw [h9]); clear h9; have h9 : v 30 = v 30 := rfl; (try rw [h9]); clear h9; omega)) (cwV 0 hwd (gV wk_1041 wk_1038 wk_1039 wk_1040 wk_5) rfl rfl rfl (by decide +kernel) ⟨Nat.le_of_ble_eq_true rfl, Nat.le_of_ble_eq_true rfl⟩) ⟨PM.blind, va_recv hK hP (ci := 12) (q0 := 0) rfl rfl, fun U hU hW => ⟨rfl, PM.at hK hE hP hS hU hW⟩⟩ rfl rfl hl.1 rfl (lv_room (Nat.le_of_ble_eq_true rfl)) dX12_operand_135 ⟨Nat.le_of_ble_eq_true rfl, Nat.le_of_ble_eq_true rfl⟩) hS (fun q _ h => (freeM hS) q h) (freeM hS) (fun r18311 u t H1 locs ht hvm hw hB hz1 hk1 hS => ?_)
        unfold BM at hB
        rw [ht] at hB
        obtain ⟨v18312, F18313, rc9⟩ := u
        obtain ⟨hI, hrc, hf18314, hG18315, hw⟩ := hw
        dsimp only at hI hrc hB hf18314 hG18315 hw
        have hF := frCF (by decide) hG18315 hF
        rw [hrc] at hB
        have hP : va_P (dC, dI) classes (wM g c v18312 F18313 rc) H1 := hB
        have hw : (r18311.toInt = 1 ∧ (v 39).toInt < (v18312 39).toInt ∧ (v18312 39).toInt ≤ (v 30).toInt ∧ (v18312 40).toInt = (v 40).toInt) ∨ (r18311.toInt = 0 ∧ 0 ≤ (v18312 40).toInt ∧ (v 39).toInt ≤ (v18312 39).toInt ∧ (v18312 39).toInt ≤ (v 30).toInt) := hw
        have hw_r18311 := hw
        have t18316 : 0 ≤ (v18312 39).toInt ∧ (v18312 39).toInt ≤ 120 := hI.1 39 _ _ rfl
        generalize H1 = H at hP hS ⊢
        have hk : keepL (v 37) (F 28) (F 29) (F18313 28) (F18313 29) := by rw [hG18315 28 (by decide), hG18315 29 (by decide)]; exact hk
        have hd : (v18312 40).toInt < 0 → dp (F18313 28) (F18313 29) (bI (v 37)) (v 38).toInt.toNat = some d := fun hf => (by rw [hG18315 28 (by decide), hG18315 29 (by decide)]; exact hd (by omega))
        refine lv_if_eq (tgt := 150) hx hb dX12_operand_138 (by decide) (fun c18317 => ?_) (fun c18317 => ?_)
        · skip
          have t18318 := cv_eq (a := r18311.toInt) rfl (b := 0) (by decide) c18317
          have hP9 : va_P (dC, dI) classes (wM g c v18312 F18313 rc) H := hP
          exact W.vret hx hb hr (fun t ht hW => ⟨⟨(v18312, F18313, rc), rfl, ⟨hI, rfl, (frC (by decide) hf18314 (fun _ _ => rfl)), hF, (by show ((v 39).toInt ≤ (v18312 39).toInt ∧ (v18312 39).toInt ≤ (v 30).toInt ∧ (v 38).toInt ≤ (v18312 38).toInt ∧ (v18312 38).toInt - (v 38).toInt ≤ (v18312 39).toInt - (v 39).toInt ∧ (v 41).toInt ≤ (v18312 41).toInt ∧ ((v18312 40).toInt < 0 → (v18312 41).toInt = (v 41).toInt)) ∧ keepL (v 37) (F 28) (F 29) (F18313 28) (F18313 29) ∧ ((v18312 40).toInt < 0 → dp (F18313 28) (F18313 29) (bI (v 37)) (v18312 38).toInt.toNat = some (d + 1)); rw [show v18312 38 = v 38 from hf18314 38 (by decide)]; rw [show v18312 41 = v 41 from hf18314 41 (by decide)]; exact ⟨by omega, hk, fun hf => (hd (by omega)).trans (congrArg some (by omega))⟩)⟩, (by show va_P _ _ _ t.heap; rw [ht]; exact hP9)⟩, hS.F ht⟩) hS.2.2 dX12_operand_150
        · skip
          have t18319 := cv_ne (a := r18311.toInt) rfl (b := 0) (by decide) c18317
          refine lv_aload_n hx hb dX12_operand_141 rfl (lv_at hl 1 rfl) ?_
          refine lv_iconst (v := 1) hx hb dX12_operand_142 (by decide) ?_
          refine lv_aload_n hx hb dX12_operand_143 rfl (lv_at hl 1 rfl) ?_
          refine va_get (D := (dC, dI)) (ci := 12) (v := .int (v18312 42)) (C := RX12) (T := TX12) (N := 63) hx hb hwd inA_X12 hown hK hP 0 rfl rfl 42 (by decide) (hwd _ wk_1031) (fun _ h9 => h9) rfl dX12_operand_144 ?_
          have t18320 : 0 ≤ (v 37).toInt ∧ (v 37).toInt ≤ 9 := by have h9 := hI.1 37 _ _ rfl; rw [show v18312 37 = v 37 from hf18314 37 (by decide)] at h9; exact h9
          have t18321 : 0 ≤ (v 38).toInt ∧ (v 38).toInt ≤ 120 := by have h9 := hI.1 38 _ _ rfl; rw [show v18312 38 = v 38 from hf18314 38 (by decide)] at h9; exact h9
          refine va_callv (va_runV (As := [.int 1, .int (v18312 42)]) (rest := []) ⟨hx, hb, hml, hown, hwd⟩ (c_X12_lay l dC dI g c adK adV v18312 F18313 rc H.size 1 (v18312 42) hg hI (by have h9 : v18312 38 = v 38 := hf18314 38 (by decide); rw [h9]; omega)) (cwV 2 hwd (gV wk_1021 wk_1018 wk_1019 wk_1020 wk_5) rfl rfl rfl (by decide +kernel) ⟨Nat.le_of_ble_eq_true rfl, Nat.le_of_ble_eq_true rfl⟩) ⟨PM.blind, va_recv hK hP (ci := 12) (q0 := 0) rfl rfl, fun U hU hW => ⟨rfl, PM.at hK hE hP hS hU hW⟩⟩ rfl rfl hl.1 rfl (lv_room (Nat.le_of_ble_eq_true rfl)) dX12_operand_147 ⟨Nat.le_of_ble_eq_true rfl, Nat.le_of_ble_eq_true rfl⟩) hS (fun q _ h => (freeM hS) q h) (freeM hS) (fun u t H1 locs ht hvm hw hB hz1 hk1 hS => ?_)
          unfold BM at hB
          rw [ht] at hB
          obtain ⟨v18323, F18324, rc9⟩ := u
          obtain ⟨hI, hrc, hf18325, hG18326, hw⟩ := hw
          dsimp only at hI hrc hB hf18325 hG18326 hw
          have hF := frCF (by decide) hG18326 hF
          rw [hrc] at hB
          have hP : va_P (dC, dI) classes (wM g c v18323 F18324 rc) H1 := hB
          have hw : (v18323 38).toInt = (v18312 38).toInt + 1 ∧ keepL (v18312 37) (F18313 28) (F18313 29) (F18324 28) (F18324 29) ∧ dp (F18324 28) (F18324 29) (bI (v18312 37)) ((v18312 38).toInt.toNat + 1) = dpS (dp (F18313 28) (F18313 29) (bI (v18312 37)) (v18312 38).toInt.toNat) (1 : Int32) (v18312 42) := hw
          rw [show v18312 38 = v 38 from hf18314 38 (by decide)] at hw
          rw [show v18312 37 = v 37 from hf18314 37 (by decide)] at hw
          have hw_r18322 := hw
          have t18327 : 0 ≤ (v18323 38).toInt ∧ (v18323 38).toInt ≤ 120 := hI.1 38 _ _ rfl
          have k18328 : (1 : Int32).toInt = 1 := by decide
          generalize H1 = H at hP hS ⊢
          have hk := hk.tr hw_r18322.2.1
          have hd : (v18312 40).toInt < 0 → dp (F18324 28) (F18324 29) (bI (v 37)) (v18323 38).toInt.toNat = some (d + 1) := fun hf => (by have e9 : (v18323 38).toInt.toNat = (v 38).toInt.toNat + 1 := (by omega); rw [e9, hw_r18322.2.2, hd hf]; exact dpS_1 (by decide))
          have hP9 : va_P (dC, dI) classes (wM g c v18323 F18324 rc) H := hP
          exact W.vret hx hb hr (fun t ht hW => ⟨⟨(v18323, F18324, rc), rfl, ⟨hI, rfl, (frC (by decide) hf18325 (frC (by decide) hf18314 (fun _ _ => rfl))), hF, (by show ((v 39).toInt ≤ (v18323 39).toInt ∧ (v18323 39).toInt ≤ (v 30).toInt ∧ (v 38).toInt ≤ (v18323 38).toInt ∧ (v18323 38).toInt - (v 38).toInt ≤ (v18323 39).toInt - (v 39).toInt ∧ (v 41).toInt ≤ (v18323 41).toInt ∧ ((v18323 40).toInt < 0 → (v18323 41).toInt = (v 41).toInt)) ∧ keepL (v 37) (F 28) (F 29) (F18324 28) (F18324 29) ∧ ((v18323 40).toInt < 0 → dp (F18324 28) (F18324 29) (bI (v 37)) (v18323 38).toInt.toNat = some (d + 1)); rw [show v18323 39 = v18312 39 from hf18325 39 (by decide)]; rw [show v18323 41 = v 41 from (hf18325 41 (by decide)).trans (hf18314 41 (by decide))]; rw [show v18323 40 = v18312 40 from hf18325 40 (by decide)]; exact ⟨by omega, hk, fun hf => (hd (by omega)).trans (congrArg some (by omega))⟩)⟩, (by show va_P _ _ _ t.heap; rw [ht]; exact hP9)⟩, hS.F ht⟩) hS.2.2 dX12_operand_150
      · skip
        have t18329 := cv_eq (a := r18301.toInt) rfl (b := 40) (by decide) c18307
        refine lv_aload_n hx hb dX12_operand_77 rfl (lv_at hl 1 rfl) ?_
        have t18330 : 0 ≤ (v 39).toInt ∧ (v 39).toInt ≤ 120 := hI.1 39 _ _ rfl
        have t18331 : 0 ≤ (v 41).toInt ∧ (v 41).toInt ≤ 8 := hI.1 41 _ _ rfl
        refine va_calli (va_runV (As := []) (rest := []) ⟨hx, hb, hml, hown, hwd⟩ (c_X12_opens l dC dI g c adK adV v F rc H.size  hg hI (by have h9 : v 39 = v 39 := rfl; (try rw [h9]); clear h9; have h9 : v 30 = v 30 := rfl; (try rw [h9]); clear h9; omega)) (cwV 0 hwd (gV wk_1025 wk_1022 wk_1023 wk_1024 wk_5) rfl rfl rfl (by decide +kernel) ⟨Nat.le_of_ble_eq_true rfl, Nat.le_of_ble_eq_true rfl⟩) ⟨PM.blind, va_recv hK hP (ci := 12) (q0 := 0) rfl rfl, fun U hU hW => ⟨rfl, PM.at hK hE hP hS hU hW⟩⟩ rfl rfl hl.1 rfl (lv_room (Nat.le_of_ble_eq_true rfl)) dX12_operand_78 ⟨Nat.le_of_ble_eq_true rfl, Nat.le_of_ble_eq_true rfl⟩) hS (fun q _ h => (freeM hS) q h) (freeM hS) (fun r18332 u t H1 locs ht hvm hw hB hz1 hk1 hS => ?_)
        unfold BM at hB
        rw [ht] at hB
        obtain ⟨v18333, F18334, rc9⟩ := u
        obtain ⟨hI, hrc, hf18335, hG18336, hw⟩ := hw
        dsimp only at hI hrc hB hf18335 hG18336 hw
        have hF := frCF (by decide) hG18336 hF
        rw [hrc] at hB
        have hP : va_P (dC, dI) classes (wM g c v18333 F18334 rc) H1 := hB
        have hw : (r18332.toInt = 1 ∧ (v 41).toInt < 8 ∧ (v18333 41).toInt = (v 41).toInt + 1 ∧ (v18333 39).toInt = (v 39).toInt + 1 ∧ (v18333 40).toInt = (v 40).toInt) ∨ (r18332.toInt = 0 ∧ (v 41).toInt = 8 ∧ 0 ≤ (v18333 40).toInt ∧ (v18333 41).toInt = (v 41).toInt ∧ (v18333 39).toInt = (v 39).toInt) := hw
        have hw_r18332 := hw
        have t18337 : 0 ≤ (v18333 39).toInt ∧ (v18333 39).toInt ≤ 120 := hI.1 39 _ _ rfl
        have t18338 : 0 ≤ (v18333 41).toInt ∧ (v18333 41).toInt ≤ 8 := hI.1 41 _ _ rfl
        generalize H1 = H at hP hS ⊢
        have hk : keepL (v 37) (F 28) (F 29) (F18334 28) (F18334 29) := by rw [hG18336 28 (by decide), hG18336 29 (by decide)]; exact hk
        have hd : (v18333 40).toInt < 0 → dp (F18334 28) (F18334 29) (bI (v 37)) (v 38).toInt.toNat = some d := fun hf => (by rw [hG18336 28 (by decide), hG18336 29 (by decide)]; exact hd (by omega))
        refine lv_if_ne (tgt := 85) hx hb dX12_operand_81 (by decide) (fun c18339 => ?_) (fun c18339 => ?_)
        · skip
          have t18340 := cv_ne (a := r18332.toInt) rfl (b := 0) (by decide) c18339
          refine lv_aload_n hx hb dX12_operand_85 rfl (lv_at hl 1 rfl) ?_
          have t18341 : 0 ≤ (v 30).toInt ∧ (v 30).toInt ≤ 120 := by have h9 := hI.1 30 _ _ rfl; rw [show v18333 30 = v 30 from hf18335 30 (by decide)] at h9; exact h9
          have t18342 : 0 ≤ (v 37).toInt ∧ (v 37).toInt ≤ 9 := by have h9 := hI.1 37 _ _ rfl; rw [show v18333 37 = v 37 from hf18335 37 (by decide)] at h9; exact h9
          have t18343 : 0 ≤ (v 38).toInt ∧ (v 38).toInt ≤ 120 := by have h9 := hI.1 38 _ _ rfl; rw [show v18333 38 = v 38 from hf18335 38 (by decide)] at h9; exact h9
          have t18344 : 0 ≤ (v18333 39).toInt ∧ (v18333 39).toInt ≤ 120 := hI.1 39 _ _ rfl
          have t18345 : 0 ≤ (v18333 41).toInt ∧ (v18333 41).toInt ≤ 8 := hI.1 41 _ _ rfl
          refine va_callv (va_runV (As := []) (rest := []) ⟨hx, hb, hml, hown, hwd⟩ (c_X12_either_4 l dC dI g c adK adV v18333 F18334 rc H.size  d hg hI (by have h9 : v18333 38 = v 38 := hf18335 38 (by decide); (try rw [h9]); clear h9; have h9 : v18333 39 = v18333 39 := rfl; (try rw [h9]); clear h9; have h9 : v18333 30 = v 30 := hf18335 30 (by decide); (try rw [h9]); clear h9; have h9 : v18333 40 = v18333 40 := rfl; (try rw [h9]); clear h9; have h9 : v18333 41 = v18333 41 := rfl; (try rw [h9]); clear h9; omega) (by have h9 : v18333 37 = (v 37) := hf18335 37 (by decide); have h8 : v18333 38 = (v 38) := hf18335 38 (by decide); (try rw [h9]); (try rw [h8]); exact hd (by omega))) (cwV 0 hwd (gV wk_1010 wk_1007 wk_1008 wk_1009 wk_5) rfl rfl rfl (by decide +kernel) ⟨Nat.le_of_ble_eq_true rfl, Nat.le_of_ble_eq_true rfl⟩) ⟨PM.blind, va_recv hK hP (ci := 12) (q0 := 0) rfl rfl, fun U hU hW => ⟨rfl, PM.at hK hE hP hS hU hW⟩⟩ rfl rfl hl.1 rfl (lv_room (Nat.le_of_ble_eq_true rfl)) dX12_operand_86 ⟨Nat.le_of_ble_eq_true rfl, Nat.le_of_ble_eq_true rfl⟩) hS (fun q _ h => (freeM hS) q h) (freeM hS) (fun u t H1 locs ht hvm hw hB hz1 hk1 hS => ?_)
          unfold BM at hB
          rw [ht] at hB
          obtain ⟨v18347, F18348, rc9⟩ := u
          obtain ⟨hI, hrc, hf18349, hG18350, hw⟩ := hw
          dsimp only at hI hrc hB hf18349 hG18350 hw
          have hF := frCF (by decide) hG18350 hF
          rw [hrc] at hB
          have hP : va_P (dC, dI) classes (wM g c v18347 F18348 rc) H1 := hB
          have hw : ((v18333 39).toInt ≤ (v18347 39).toInt ∧ (v18347 39).toInt ≤ (v18333 30).toInt ∧ (v18333 38).toInt ≤ (v18347 38).toInt ∧ (v18347 38).toInt - (v18333 38).toInt ≤ (v18347 39).toInt - (v18333 39).toInt ∧ (v18333 41).toInt ≤ (v18347 41).toInt ∧ ((v18347 40).toInt < 0 → (v18347 41).toInt = (v18333 41).toInt)) ∧ keepL (v18333 37) (F18334 28) (F18334 29) (F18348 28) (F18348 29) ∧ ((v18347 40).toInt < 0 → dp (F18348 28) (F18348 29) (bI (v18333 37)) (v18347 38).toInt.toNat = some (d + 1)) := hw
          rw [show v18333 30 = v 30 from hf18335 30 (by decide)] at hw
          rw [show v18333 38 = v 38 from hf18335 38 (by decide)] at hw
          rw [show v18333 37 = v 37 from hf18335 37 (by decide)] at hw
          have hw_r18346 := hw
          have t18351 : 0 ≤ (v18347 38).toInt ∧ (v18347 38).toInt ≤ 120 := hI.1 38 _ _ rfl
          have t18352 : 0 ≤ (v18347 39).toInt ∧ (v18347 39).toInt ≤ 120 := hI.1 39 _ _ rfl
          have t18353 : 0 ≤ (v18347 41).toInt ∧ (v18347 41).toInt ≤ 8 := hI.1 41 _ _ rfl
          generalize H1 = H at hP hS ⊢
          have hk := hk.tr hw_r18346.2.1
          have hd := hw_r18346.2.2
          refine lv_aload_n hx hb dX12_operand_89 rfl (lv_at hl 1 rfl) ?_
          refine va_get (D := (dC, dI)) (ci := 12) (v := .int (v18347 40)) (C := RX12) (T := TX12) (N := 63) hx hb hwd inA_X12 hown hK hP 0 rfl rfl 40 (by decide) (hwd _ wk_1005) (fun _ h9 => h9) rfl dX12_operand_90 ?_
          refine lv_if_lt (tgt := 97) hx hb dX12_operand_93 (by decide) (fun c18354 => ?_) (fun c18354 => ?_)
          · skip
            have t18355 := cv_lt (a := (v18347 40).toInt) rfl (b := 0) (by decide) c18354
            refine lv_aload_n hx hb dX12_operand_97 rfl (lv_at hl 1 rfl) ?_
            have t18356 : 0 ≤ (v 30).toInt ∧ (v 30).toInt ≤ 120 := by have h9 := hI.1 30 _ _ rfl; rw [show v18347 30 = v 30 from (hf18349 30 (by decide)).trans (hf18335 30 (by decide))] at h9; exact h9
            have t18357 : 0 ≤ (v18347 39).toInt ∧ (v18347 39).toInt ≤ 120 := hI.1 39 _ _ rfl
            refine va_calli (va_runV (As := []) (rest := []) ⟨hx, hb, hml, hown, hwd⟩ (c_X12_look l dC dI g c adK adV v18347 F18348 rc H.size  hg hI ) (cwV 0 hwd (gV wk_1017 wk_1014 wk_1015 wk_1016 wk_5) rfl rfl rfl (by decide +kernel) ⟨Nat.le_of_ble_eq_true rfl, Nat.le_of_ble_eq_true rfl⟩) ⟨PM.blind, va_recv hK hP (ci := 12) (q0 := 0) rfl rfl, fun U hU hW => ⟨rfl, PM.at hK hE hP hS hU hW⟩⟩ rfl rfl hl.1 rfl (lv_room (Nat.le_of_ble_eq_true rfl)) dX12_operand_98 ⟨Nat.le_of_ble_eq_true rfl, Nat.le_of_ble_eq_true rfl⟩) hS (fun q _ h => (freeM hS) q h) (freeM hS) (fun r18358 u t H1 locs ht hvm hw hB hz1 hk1 hS => ?_)
            unfold BM at hB
            rw [ht] at hB
            have hP : va_P (dC, dI) classes (wM g c v18347 F18348 rc) H1 := hB
            have hw : r18358.toInt = lkM (v18347 39) (v18347 30) (F18348 24) ∧ ((v18347 39).toInt < (v18347 30).toInt ∨ r18358.toInt = -1) := hw
            rw [show v18347 30 = v 30 from (hf18349 30 (by decide)).trans (hf18335 30 (by decide))] at hw
            rw [hF 24 (by decide)] at hw
            have hw_r18358 := hw
            generalize H1 = H at hP hS ⊢
            refine lv_bipush (v := 41) hx hb dX12_operand_101 (by decide) ?_
            refine lv_icmp_eq (tgt := 111) hx hb dX12_operand_103 (by decide) (fun c18359 => ?_) (fun c18359 => ?_)
            · skip
              have t18360 := cv_eq (a := r18358.toInt) rfl (b := 41) (by decide) c18359
              refine lv_aload_n hx hb dX12_operand_111 rfl (lv_at hl 1 rfl) ?_
              refine lv_dup hx hb dX12_operand_112 rfl ?_
              refine va_get (D := (dC, dI)) (ci := 12) (v := .int (v18347 39)) (C := RX12) (T := TX12) (N := 63) hx hb hwd inA_X12 hown hK hP 0 rfl rfl 39 (by decide) (hwd _ wk_1004) (fun _ h9 => h9) rfl dX12_operand_113 ?_
              have t18361 : 0 ≤ (v18347 39).toInt ∧ (v18347 39).toInt ≤ 120 := hI.1 39 _ _ rfl
              refine lv_iconst (v := 1) hx hb dX12_operand_116 (by decide) ?_
              refine lv_iadd hx hb dX12_operand_117 ?_
              refine lv_topi (fun z18362 e18363 => ?_)
              try (have t18364 := tadd e18363 (a := (v18347 39).toInt) rfl (b := 1) (by decide) (by omega))
              refine va_put (D := (dC, dI)) (ci := 12) (v := .int z18362) (ty := .int) (C := RX12) (T := TX12) (N := 63) (fs := fsM_0 g v18347 rc) hx hb hwd inA_X12 tyX12 tyX12_ok nmX12 hown hK hP (DM hg) hS 0 rfl rfl 39 (by decide) (hwd _ wk_1004) (fun _ h9 => h9) rfl (by decide +kernel) rfl rfl (Nat.le_of_ble_eq_true rfl) dX12_operand_118 (fun H locs hP _ hS => ?_)
              have hP := va_P_eq (pM_39 g c _ _ _ _) hP
              have hI := IM.put hI 39 z18362 rfl (by omega)
              refine lv_aload_n hx hb dX12_operand_121 rfl (lv_at hl 1 rfl) ?_
              refine lv_dup hx hb dX12_operand_122 rfl ?_
              refine va_get (D := (dC, dI)) (ci := 12) (v := .int (v18347 41)) (C := RX12) (T := TX12) (N := 63) hx hb hwd inA_X12 hown hK hP 0 rfl rfl 41 (by decide) (hwd _ wk_1006) (fun _ h9 => h9) rfl dX12_operand_123 ?_
              have t18365 : 0 ≤ (v18347 41).toInt ∧ (v18347 41).toInt ≤ 8 := hI.1 41 _ _ rfl
              refine lv_iconst (v := 1) hx hb dX12_operand_126 (by decide) ?_
              refine lv_isub hx hb dX12_operand_127 ?_
              refine lv_topi (fun z18366 e18367 => ?_)
              try (have t18368 := tsub e18367 (a := (v18347 41).toInt) rfl (b := 1) (by decide) (by omega))
              refine va_put (D := (dC, dI)) (ci := 12) (v := .int z18366) (ty := .int) (C := RX12) (T := TX12) (N := 63) (fs := fsM_0 g (va_up v18347 39 z18362) rc) hx hb hwd inA_X12 tyX12 tyX12_ok nmX12 hown hK hP (DM hg) hS 0 rfl rfl 41 (by decide) (hwd _ wk_1006) (fun _ h9 => h9) rfl (by decide +kernel) rfl rfl (Nat.le_of_ble_eq_true rfl) dX12_operand_128 (fun H locs hP _ hS => ?_)
              have hP := va_P_eq (pM_41 g c _ _ _ _) hP
              have hI := IM.put hI 41 z18366 rfl (by omega)
              refine lv_goto (tgt := 150) hx hb dX12_operand_131 (by decide) ?_
              have hP9 : va_P (dC, dI) classes (wM g c (va_up (va_up v18347 39 z18362) 41 z18366) F18348 rc) H := hP
              exact W.vret hx hb hr (fun t ht hW => ⟨⟨((va_up (va_up v18347 39 z18362) 41 z18366), F18348, rc), rfl, ⟨hI, rfl, (frU (by decide) (frU (by decide) (frC (by decide) hf18349 (frC (by decide) hf18335 (fun _ _ => rfl))))), hF, (by show ((v 39).toInt ≤ z18362.toInt ∧ z18362.toInt ≤ (v 30).toInt ∧ (v 38).toInt ≤ (v18347 38).toInt ∧ (v18347 38).toInt - (v 38).toInt ≤ z18362.toInt - (v 39).toInt ∧ (v 41).toInt ≤ z18366.toInt ∧ ((v18347 40).toInt < 0 → z18366.toInt = (v 41).toInt)) ∧ keepL (v 37) (F 28) (F 29) (F18348 28) (F18348 29) ∧ ((v18347 40).toInt < 0 → dp (F18348 28) (F18348 29) (bI (v 37)) (v18347 38).toInt.toNat = some (d + 1)); exact ⟨by omega, hk, fun hf => (hd (by omega)).trans (congrArg some (by omega))⟩)⟩, (by show va_P _ _ _ t.heap; rw [ht]; exact hP9)⟩, hS.F ht⟩) hS.2.2 dX12_operand_150
            · skip
              have t18369 := cv_ne (a := r18358.toInt) rfl (b := 41) (by decide) c18359
              refine lv_aload_n hx hb dX12_operand_106 rfl (lv_at hl 1 rfl) ?_
              refine va_callv (va_runV (As := []) (rest := []) ⟨hx, hb, hml, hown, hwd⟩ (c_X12_wrong l dC dI g c adK adV v18347 F18348 rc H.size  hg hI ) (cwV 0 hwd (gV wk_1029 wk_1026 wk_1027 wk_1028 wk_5) rfl rfl rfl (by decide +kernel) ⟨Nat.le_of_ble_eq_true rfl, Nat.le_of_ble_eq_true rfl⟩) ⟨PM.blind, va_recv hK hP (ci := 12) (q0 := 0) rfl rfl, fun U hU hW => ⟨rfl, PM.at hK hE hP hS hU hW⟩⟩ rfl rfl hl.1 rfl (lv_room (Nat.le_of_ble_eq_true rfl)) dX12_operand_107 ⟨Nat.le_of_ble_eq_true rfl, Nat.le_of_ble_eq_true rfl⟩) hS (fun q _ h => (freeM hS) q h) (freeM hS) (fun u t H1 locs ht hvm hw hB hz1 hk1 hS => ?_)
              unfold BM at hB
              rw [ht] at hB
              obtain ⟨v18371, F18372, rc9⟩ := u
              obtain ⟨hI, hrc, hf18373, hG18374, hw⟩ := hw
              dsimp only at hI hrc hB hf18373 hG18374 hw
              have hF := frCF (by decide) hG18374 hF
              rw [hrc] at hB
              have hP : va_P (dC, dI) classes (wM g c v18371 F18372 rc) H1 := hB
              have hw : 0 ≤ (v18371 40).toInt := hw
              have hw_r18370 := hw
              generalize H1 = H at hP hS ⊢
              have hk : keepL (v 37) (F 28) (F 29) (F18372 28) (F18372 29) := by rw [hG18374 28 (by decide), hG18374 29 (by decide)]; exact hk
              have hd : (v18371 40).toInt < 0 → dp (F18372 28) (F18372 29) (bI (v 37)) (v18347 38).toInt.toNat = some (d + 1) := fun hf => (by rw [hG18374 28 (by decide), hG18374 29 (by decide)]; exact hd (by omega))
              have hP9 : va_P (dC, dI) classes (wM g c v18371 F18372 rc) H := hP
              exact W.vret hx hb hr (fun t ht hW => ⟨⟨(v18371, F18372, rc), rfl, ⟨hI, rfl, (frC (by decide) hf18373 (frC (by decide) hf18349 (frC (by decide) hf18335 (fun _ _ => rfl)))), hF, (by show ((v 39).toInt ≤ (v18371 39).toInt ∧ (v18371 39).toInt ≤ (v 30).toInt ∧ (v 38).toInt ≤ (v18371 38).toInt ∧ (v18371 38).toInt - (v 38).toInt ≤ (v18371 39).toInt - (v 39).toInt ∧ (v 41).toInt ≤ (v18371 41).toInt ∧ ((v18371 40).toInt < 0 → (v18371 41).toInt = (v 41).toInt)) ∧ keepL (v 37) (F 28) (F 29) (F18372 28) (F18372 29) ∧ ((v18371 40).toInt < 0 → dp (F18372 28) (F18372 29) (bI (v 37)) (v18371 38).toInt.toNat = some (d + 1)); rw [show v18371 39 = v18347 39 from hf18373 39 (by decide)]; rw [show v18371 38 = v18347 38 from hf18373 38 (by decide)]; rw [show v18371 41 = v18347 41 from hf18373 41 (by decide)]; exact ⟨by omega, hk, fun hf => (hd (by omega)).trans (congrArg some (by omega))⟩)⟩, (by show va_P _ _ _ t.heap; rw [ht]; exact hP9)⟩, hS.F ht⟩) hS.2.2 dX12_operand_110
          · skip
            have t18375 := cv_nlt (a := (v18347 40).toInt) rfl (b := 0) (by decide) c18354
            have hP9 : va_P (dC, dI) classes (wM g c v18347 F18348 rc) H := hP
            exact W.vret hx hb hr (fun t ht hW => ⟨⟨(v18347, F18348, rc), rfl, ⟨hI, rfl, (frC (by decide) hf18349 (frC (by decide) hf18335 (fun _ _ => rfl))), hF, (by show ((v 39).toInt ≤ (v18347 39).toInt ∧ (v18347 39).toInt ≤ (v 30).toInt ∧ (v 38).toInt ≤ (v18347 38).toInt ∧ (v18347 38).toInt - (v 38).toInt ≤ (v18347 39).toInt - (v 39).toInt ∧ (v 41).toInt ≤ (v18347 41).toInt ∧ ((v18347 40).toInt < 0 → (v18347 41).toInt = (v 41).toInt)) ∧ keepL (v 37) (F 28) (F 29) (F18348 28) (F18348 29) ∧ ((v18347 40).toInt < 0 → dp (F18348 28) (F18348 29) (bI (v 37)) (v18347 38).toInt.toNat = some (d + 1)); exact ⟨by omega, hk, fun hf => (hd (by omega)).trans (congrArg some (by omega))⟩)⟩, (by show va_P _ _ _ t.heap; rw [ht]; exact hP9)⟩, hS.F ht⟩) hS.2.2 dX12_operand_96
        · skip
          have t18376 := cv_eq (a := r18332.toInt) rfl (b := 0) (by decide) c18339
          have hP9 : va_P (dC, dI) classes (wM g c v18333 F18334 rc) H := hP
          exact W.vret hx hb hr (fun t ht hW => ⟨⟨(v18333, F18334, rc), rfl, ⟨hI, rfl, (frC (by decide) hf18335 (fun _ _ => rfl)), hF, (by show ((v 39).toInt ≤ (v18333 39).toInt ∧ (v18333 39).toInt ≤ (v 30).toInt ∧ (v 38).toInt ≤ (v18333 38).toInt ∧ (v18333 38).toInt - (v 38).toInt ≤ (v18333 39).toInt - (v 39).toInt ∧ (v 41).toInt ≤ (v18333 41).toInt ∧ ((v18333 40).toInt < 0 → (v18333 41).toInt = (v 41).toInt)) ∧ keepL (v 37) (F 28) (F 29) (F18334 28) (F18334 29) ∧ ((v18333 40).toInt < 0 → dp (F18334 28) (F18334 29) (bI (v 37)) (v18333 38).toInt.toNat = some (d + 1)); rw [show v18333 38 = v 38 from hf18335 38 (by decide)]; exact ⟨by omega, hk, fun hf => (hd (by omega)).trans (congrArg some (by omega))⟩)⟩, (by show va_P _ _ _ t.heap; rw [ht]; exact hP9)⟩, hS.F ht⟩) hS.2.2 dX12_operand_84
    · skip
      have t18377 := cv_eq (a := r18301.toInt) rfl (b := 45) (by decide) c18305
      refine lv_aload_n hx hb dX12_operand_40 rfl (lv_at hl 1 rfl) ?_
      have t18378 : 0 ≤ (v 39).toInt ∧ (v 39).toInt ≤ 120 := hI.1 39 _ _ rfl
      have t18379 : 0 ≤ (v 41).toInt ∧ (v 41).toInt ≤ 8 := hI.1 41 _ _ rfl
      refine va_calli (va_runV (As := []) (rest := []) ⟨hx, hb, hml, hown, hwd⟩ (c_X12_opens l dC dI g c adK adV v F rc H.size  hg hI (by have h9 : v 39 = v 39 := rfl; (try rw [h9]); clear h9; have h9 : v 30 = v 30 := rfl; (try rw [h9]); clear h9; omega)) (cwV 0 hwd (gV wk_1025 wk_1022 wk_1023 wk_1024 wk_5) rfl rfl rfl (by decide +kernel) ⟨Nat.le_of_ble_eq_true rfl, Nat.le_of_ble_eq_true rfl⟩) ⟨PM.blind, va_recv hK hP (ci := 12) (q0 := 0) rfl rfl, fun U hU hW => ⟨rfl, PM.at hK hE hP hS hU hW⟩⟩ rfl rfl hl.1 rfl (lv_room (Nat.le_of_ble_eq_true rfl)) dX12_operand_41 ⟨Nat.le_of_ble_eq_true rfl, Nat.le_of_ble_eq_true rfl⟩) hS (fun q _ h => (freeM hS) q h) (freeM hS) (fun r18380 u t H1 locs ht hvm hw hB hz1 hk1 hS => ?_)
      unfold BM at hB
      rw [ht] at hB
      obtain ⟨v18381, F18382, rc9⟩ := u
      obtain ⟨hI, hrc, hf18383, hG18384, hw⟩ := hw
      dsimp only at hI hrc hB hf18383 hG18384 hw
      have hF := frCF (by decide) hG18384 hF
      rw [hrc] at hB
      have hP : va_P (dC, dI) classes (wM g c v18381 F18382 rc) H1 := hB
      have hw : (r18380.toInt = 1 ∧ (v 41).toInt < 8 ∧ (v18381 41).toInt = (v 41).toInt + 1 ∧ (v18381 39).toInt = (v 39).toInt + 1 ∧ (v18381 40).toInt = (v 40).toInt) ∨ (r18380.toInt = 0 ∧ (v 41).toInt = 8 ∧ 0 ≤ (v18381 40).toInt ∧ (v18381 41).toInt = (v 41).toInt ∧ (v18381 39).toInt = (v 39).toInt) := hw
      have hw_r18380 := hw
      have t18385 : 0 ≤ (v18381 39).toInt ∧ (v18381 39).toInt ≤ 120 := hI.1 39 _ _ rfl
      have t18386 : 0 ≤ (v18381 41).toInt ∧ (v18381 41).toInt ≤ 8 := hI.1 41 _ _ rfl
      generalize H1 = H at hP hS ⊢
      have hk : keepL (v 37) (F 28) (F 29) (F18382 28) (F18382 29) := by rw [hG18384 28 (by decide), hG18384 29 (by decide)]; exact hk
      have hd : (v18381 40).toInt < 0 → dp (F18382 28) (F18382 29) (bI (v 37)) (v 38).toInt.toNat = some d := fun hf => (by rw [hG18384 28 (by decide), hG18384 29 (by decide)]; exact hd (by omega))
      refine lv_if_ne (tgt := 48) hx hb dX12_operand_44 (by decide) (fun c18387 => ?_) (fun c18387 => ?_)
      · skip
        have t18388 := cv_ne (a := r18380.toInt) rfl (b := 0) (by decide) c18387
        refine lv_aload_n hx hb dX12_operand_48 rfl (lv_at hl 1 rfl) ?_
        have t18389 : 0 ≤ (v 30).toInt ∧ (v 30).toInt ≤ 120 := by have h9 := hI.1 30 _ _ rfl; rw [show v18381 30 = v 30 from hf18383 30 (by decide)] at h9; exact h9
        have t18390 : 0 ≤ (v 37).toInt ∧ (v 37).toInt ≤ 9 := by have h9 := hI.1 37 _ _ rfl; rw [show v18381 37 = v 37 from hf18383 37 (by decide)] at h9; exact h9
        have t18391 : 0 ≤ (v 38).toInt ∧ (v 38).toInt ≤ 120 := by have h9 := hI.1 38 _ _ rfl; rw [show v18381 38 = v 38 from hf18383 38 (by decide)] at h9; exact h9
        have t18392 : 0 ≤ (v18381 39).toInt ∧ (v18381 39).toInt ≤ 120 := hI.1 39 _ _ rfl
        have t18393 : 0 ≤ (v18381 41).toInt ∧ (v18381 41).toInt ≤ 8 := hI.1 41 _ _ rfl
        refine va_callv (va_runV (As := []) (rest := []) ⟨hx, hb, hml, hown, hwd⟩ (c_X12_operand_4 l dC dI g c adK adV v18381 F18382 rc H.size  d hg hI (by have h9 : v18381 38 = v 38 := hf18383 38 (by decide); (try rw [h9]); clear h9; have h9 : v18381 39 = v18381 39 := rfl; (try rw [h9]); clear h9; have h9 : v18381 30 = v 30 := hf18383 30 (by decide); (try rw [h9]); clear h9; have h9 : v18381 40 = v18381 40 := rfl; (try rw [h9]); clear h9; have h9 : v18381 41 = v18381 41 := rfl; (try rw [h9]); clear h9; omega) (by have h9 : v18381 37 = (v 37) := hf18383 37 (by decide); have h8 : v18381 38 = (v 38) := hf18383 38 (by decide); (try rw [h9]); (try rw [h8]); exact hd (by omega))) (cwV 0 hwd (gV wk_1030 wk_1035 wk_1036 wk_1037 wk_5) rfl rfl rfl (by decide +kernel) ⟨Nat.le_of_ble_eq_true rfl, Nat.le_of_ble_eq_true rfl⟩) ⟨PM.blind, va_recv hK hP (ci := 12) (q0 := 0) rfl rfl, fun U hU hW => ⟨rfl, PM.at hK hE hP hS hU hW⟩⟩ rfl rfl hl.1 rfl (lv_room (Nat.le_of_ble_eq_true rfl)) dX12_operand_49 ⟨Nat.le_of_ble_eq_true rfl, Nat.le_of_ble_eq_true rfl⟩) hS (fun q _ h => (freeM hS) q h) (freeM hS) (fun u t H1 locs ht hvm hw hB hz1 hk1 hS => ?_)
        unfold BM at hB
        rw [ht] at hB
        obtain ⟨v18395, F18396, rc9⟩ := u
        obtain ⟨hI, hrc, hf18397, hG18398, hw⟩ := hw
        dsimp only at hI hrc hB hf18397 hG18398 hw
        have hF := frCF (by decide) hG18398 hF
        rw [hrc] at hB
        have hP : va_P (dC, dI) classes (wM g c v18395 F18396 rc) H1 := hB
        have hw : ((v18381 39).toInt ≤ (v18395 39).toInt ∧ (v18395 39).toInt ≤ (v18381 30).toInt ∧ (v18381 38).toInt ≤ (v18395 38).toInt ∧ (v18395 38).toInt - (v18381 38).toInt ≤ (v18395 39).toInt - (v18381 39).toInt ∧ (v18381 41).toInt ≤ (v18395 41).toInt ∧ ((v18395 40).toInt < 0 → (v18395 41).toInt = (v18381 41).toInt)) ∧ keepL (v18381 37) (F18382 28) (F18382 29) (F18396 28) (F18396 29) ∧ ((v18395 40).toInt < 0 → dp (F18396 28) (F18396 29) (bI (v18381 37)) (v18395 38).toInt.toNat = some (d + 1)) := hw
        rw [show v18381 30 = v 30 from hf18383 30 (by decide)] at hw
        rw [show v18381 38 = v 38 from hf18383 38 (by decide)] at hw
        rw [show v18381 37 = v 37 from hf18383 37 (by decide)] at hw
        have hw_r18394 := hw
        have t18399 : 0 ≤ (v18395 38).toInt ∧ (v18395 38).toInt ≤ 120 := hI.1 38 _ _ rfl
        have t18400 : 0 ≤ (v18395 39).toInt ∧ (v18395 39).toInt ≤ 120 := hI.1 39 _ _ rfl
        have t18401 : 0 ≤ (v18395 41).toInt ∧ (v18395 41).toInt ≤ 8 := hI.1 41 _ _ rfl
        generalize H1 = H at hP hS ⊢
        have hk := hk.tr hw_r18394.2.1
        have hd := hw_r18394.2.2
        refine lv_aload_n hx hb dX12_operand_52 rfl (lv_at hl 1 rfl) ?_
        refine lv_iconst (v := 3) hx hb dX12_operand_53 (by decide) ?_
        refine lv_iconst (v := 0) hx hb dX12_operand_54 (by decide) ?_
        have t18402 : 0 ≤ (v 37).toInt ∧ (v 37).toInt ≤ 9 := by have h9 := hI.1 37 _ _ rfl; rw [show v18395 37 = v 37 from (hf18397 37 (by decide)).trans (hf18383 37 (by decide))] at h9; exact h9
        have t18403 : 0 ≤ (v18395 38).toInt ∧ (v18395 38).toInt ≤ 120 := hI.1 38 _ _ rfl
        refine va_callv (va_runV (As := [.int 3, .int 0]) (rest := []) ⟨hx, hb, hml, hown, hwd⟩ (c_X12_lay l dC dI g c adK adV v18395 F18396 rc H.size 3 0 hg hI (by have h9 : v18395 38 = v18395 38 := rfl; rw [h9]; omega)) (cwV 2 hwd (gV wk_1021 wk_1018 wk_1019 wk_1020 wk_5) rfl rfl rfl (by decide +kernel) ⟨Nat.le_of_ble_eq_true rfl, Nat.le_of_ble_eq_true rfl⟩) ⟨PM.blind, va_recv hK hP (ci := 12) (q0 := 0) rfl rfl, fun U hU hW => ⟨rfl, PM.at hK hE hP hS hU hW⟩⟩ rfl rfl hl.1 rfl (lv_room (Nat.le_of_ble_eq_true rfl)) dX12_operand_55 ⟨Nat.le_of_ble_eq_true rfl, Nat.le_of_ble_eq_true rfl⟩) hS (fun q _ h => (freeM hS) q h) (freeM hS) (fun u t H1 locs ht hvm hw hB hz1 hk1 hS => ?_)
        unfold BM at hB
        rw [ht] at hB
        obtain ⟨v18405, F18406, rc9⟩ := u
        obtain ⟨hI, hrc, hf18407, hG18408, hw⟩ := hw
        dsimp only at hI hrc hB hf18407 hG18408 hw
        have hF := frCF (by decide) hG18408 hF
        rw [hrc] at hB
        have hP : va_P (dC, dI) classes (wM g c v18405 F18406 rc) H1 := hB
        have hw : (v18405 38).toInt = (v18395 38).toInt + 1 ∧ keepL (v18395 37) (F18396 28) (F18396 29) (F18406 28) (F18406 29) ∧ dp (F18406 28) (F18406 29) (bI (v18395 37)) ((v18395 38).toInt.toNat + 1) = dpS (dp (F18396 28) (F18396 29) (bI (v18395 37)) (v18395 38).toInt.toNat) (3 : Int32) (0 : Int32) := hw
        rw [show v18395 37 = v 37 from (hf18397 37 (by decide)).trans (hf18383 37 (by decide))] at hw
        have hw_r18404 := hw
        have t18409 : 0 ≤ (v18405 38).toInt ∧ (v18405 38).toInt ≤ 120 := hI.1 38 _ _ rfl
        have k18410 : (3 : Int32).toInt = 3 := by decide
        have k18411 : (0 : Int32).toInt = 0 := by decide
        generalize H1 = H at hP hS ⊢
        have hk := hk.tr hw_r18404.2.1
        have hd : (v18395 40).toInt < 0 → dp (F18406 28) (F18406 29) (bI (v 37)) (v18405 38).toInt.toNat = some (d + 1) := fun hf => (by have e9 : (v18405 38).toInt.toNat = (v18395 38).toInt.toNat + 1 := (by omega); rw [e9, hw_r18404.2.2, hd hf]; exact dpS_3 (by decide) (by omega))
        refine lv_aload_n hx hb dX12_operand_58 rfl (lv_at hl 1 rfl) ?_
        refine lv_dup hx hb dX12_operand_59 rfl ?_
        refine va_get (D := (dC, dI)) (ci := 12) (v := .int (v18405 41)) (C := RX12) (T := TX12) (N := 63) hx hb hwd inA_X12 hown hK hP 0 rfl rfl 41 (by decide) (hwd _ wk_1006) (fun _ h9 => h9) rfl dX12_operand_60 ?_
        refine my_top (v := v18395 41) (hf18407 41 (by decide)) ?_
        have t18412 : 0 ≤ (v18395 41).toInt ∧ (v18395 41).toInt ≤ 8 := by have h9 := hI.1 41 _ _ rfl; rw [show v18405 41 = v18395 41 from hf18407 41 (by decide)] at h9; exact h9
        refine lv_iconst (v := 1) hx hb dX12_operand_63 (by decide) ?_
        refine lv_isub hx hb dX12_operand_64 ?_
        refine lv_topi (fun z18413 e18414 => ?_)
        try (have t18415 := tsub e18414 (a := (v18395 41).toInt) rfl (b := 1) (by decide) (by omega))
        refine va_put (D := (dC, dI)) (ci := 12) (v := .int z18413) (ty := .int) (C := RX12) (T := TX12) (N := 63) (fs := fsM_0 g v18405 rc) hx hb hwd inA_X12 tyX12 tyX12_ok nmX12 hown hK hP (DM hg) hS 0 rfl rfl 41 (by decide) (hwd _ wk_1006) (fun _ h9 => h9) rfl (by decide +kernel) rfl rfl (Nat.le_of_ble_eq_true rfl) dX12_operand_65 (fun H locs hP _ hS => ?_)
        have hP := va_P_eq (pM_41 g c _ _ _ _) hP
        have hI := IM.put hI 41 z18413 rfl (by omega)
        refine lv_goto (tgt := 150) hx hb dX12_operand_68 (by decide) ?_
        have hP9 : va_P (dC, dI) classes (wM g c (va_up v18405 41 z18413) F18406 rc) H := hP
        exact W.vret hx hb hr (fun t ht hW => ⟨⟨((va_up v18405 41 z18413), F18406, rc), rfl, ⟨hI, rfl, (frU (by decide) (frC (by decide) hf18407 (frC (by decide) hf18397 (frC (by decide) hf18383 (fun _ _ => rfl))))), hF, (by show ((v 39).toInt ≤ ((va_up v18405 41 z18413) 39).toInt ∧ ((va_up v18405 41 z18413) 39).toInt ≤ (v 30).toInt ∧ (v 38).toInt ≤ (v18405 38).toInt ∧ (v18405 38).toInt - (v 38).toInt ≤ ((va_up v18405 41 z18413) 39).toInt - (v 39).toInt ∧ (v 41).toInt ≤ z18413.toInt ∧ (((va_up v18405 41 z18413) 40).toInt < 0 → z18413.toInt = (v 41).toInt)) ∧ keepL (v 37) (F 28) (F 29) (F18406 28) (F18406 29) ∧ (((va_up v18405 41 z18413) 40).toInt < 0 → dp (F18406 28) (F18406 29) (bI (v 37)) (v18405 38).toInt.toNat = some (d + 1)); rw [show (va_up v18405 41 z18413) 39 = v18395 39 from hf18407 39 (by decide)]; rw [show (va_up v18405 41 z18413) 40 = v18395 40 from hf18407 40 (by decide)]; exact ⟨by omega, hk, fun hf => (hd (by omega)).trans (congrArg some (by omega))⟩)⟩, (by show va_P _ _ _ t.heap; rw [ht]; exact hP9)⟩, hS.F ht⟩) hS.2.2 dX12_operand_150
      · skip
        have t18416 := cv_eq (a := r18380.toInt) rfl (b := 0) (by decide) c18387
        have hP9 : va_P (dC, dI) classes (wM g c v18381 F18382 rc) H := hP
        exact W.vret hx hb hr (fun t ht hW => ⟨⟨(v18381, F18382, rc), rfl, ⟨hI, rfl, (frC (by decide) hf18383 (fun _ _ => rfl)), hF, (by show ((v 39).toInt ≤ (v18381 39).toInt ∧ (v18381 39).toInt ≤ (v 30).toInt ∧ (v 38).toInt ≤ (v18381 38).toInt ∧ (v18381 38).toInt - (v 38).toInt ≤ (v18381 39).toInt - (v 39).toInt ∧ (v 41).toInt ≤ (v18381 41).toInt ∧ ((v18381 40).toInt < 0 → (v18381 41).toInt = (v 41).toInt)) ∧ keepL (v 37) (F 28) (F 29) (F18382 28) (F18382 29) ∧ ((v18381 40).toInt < 0 → dp (F18382 28) (F18382 29) (bI (v 37)) (v18381 38).toInt.toNat = some (d + 1)); rw [show v18381 38 = v 38 from hf18383 38 (by decide)]; exact ⟨by omega, hk, fun hf => (hd (by omega)).trans (congrArg some (by omega))⟩)⟩, (by show va_P _ _ _ t.heap; rw [ht]; exact hP9)⟩, hS.F ht⟩) hS.2.2 dX12_operand_47
  · skip
    have t18417 := cv_nlt (a := r18302.toInt) rfl (b := 0) (by decide) c18303
    refine lv_aload_n hx hb dX12_operand_12 rfl (lv_at hl 1 rfl) ?_
    refine lv_iconst (v := 2) hx hb dX12_operand_13 (by decide) ?_
    refine lv_iload_n hx hb dX12_operand_14 rfl (lv_at hl 0 rfl) ?_
    refine va_calli (va_runS (As := [.int r18301]) (rest := [.int 2, .ref (g 0)]) ⟨hx, hb, hml, hown, hwd⟩ (c_X12_nameOf l dC dI g c adK adV v F rc H.size r18301 hg hI ) (va_cwS 1 hwd (gT wk_1034 wk_1032 wk_1033 wk_5) rfl rfl rfl (by decide +kernel) ⟨Nat.le_of_ble_eq_true rfl, Nat.le_of_ble_eq_true rfl⟩) ⟨PM.blind, fun U hU hW => ⟨rfl, PM.at hK hE hP hS hU hW⟩⟩ rfl rfl hl.1 rfl (lv_room (Nat.le_of_ble_eq_true rfl)) dX12_operand_15 ⟨Nat.le_of_ble_eq_true rfl, Nat.le_of_ble_eq_true rfl⟩) hS (fun q _ h => (freeM hS) q h) (freeM hS) (fun r18418 u t H1 locs ht hvm hw hB hz1 hk1 hS => ?_)
    unfold BM at hB
    rw [ht] at hB
    have hP : va_P (dC, dI) classes (wM g c v F rc) H1 := hB
    have hw : r18418.toInt = nmM r18301 ∧ (-1 ≤ r18418.toInt ∧ r18418.toInt ≤ 5) := hw
    have hw_r18418 := hw
    generalize H1 = H at hP hS ⊢
    have np_r18418 := nmM_pos r18301
    have t18419 : 0 ≤ (v 37).toInt ∧ (v 37).toInt ≤ 9 := hI.1 37 _ _ rfl
    have t18420 : 0 ≤ (v 38).toInt ∧ (v 38).toInt ≤ 120 := hI.1 38 _ _ rfl
    refine va_callv (va_runV (As := [.int 2, .int r18418]) (rest := []) ⟨hx, hb, hml, hown, hwd⟩ (c_X12_lay l dC dI g c adK adV v F rc H.size 2 r18418 hg hI (by have h9 : v 38 = v 38 := rfl; rw [h9]; omega)) (cwV 2 hwd (gV wk_1021 wk_1018 wk_1019 wk_1020 wk_5) rfl rfl rfl (by decide +kernel) ⟨Nat.le_of_ble_eq_true rfl, Nat.le_of_ble_eq_true rfl⟩) ⟨PM.blind, va_recv hK hP (ci := 12) (q0 := 0) rfl rfl, fun U hU hW => ⟨rfl, PM.at hK hE hP hS hU hW⟩⟩ rfl rfl hl.1 rfl (lv_room (Nat.le_of_ble_eq_true rfl)) dX12_operand_18 ⟨Nat.le_of_ble_eq_true rfl, Nat.le_of_ble_eq_true rfl⟩) hS (fun q _ h => (freeM hS) q h) (freeM hS) (fun u t H1 locs ht hvm hw hB hz1 hk1 hS => ?_)
    unfold BM at hB
    rw [ht] at hB
    obtain ⟨v18422, F18423, rc9⟩ := u
    obtain ⟨hI, hrc, hf18424, hG18425, hw⟩ := hw
    dsimp only at hI hrc hB hf18424 hG18425 hw
    have hF := frCF (by decide) hG18425 hF
    rw [hrc] at hB
    have hP : va_P (dC, dI) classes (wM g c v18422 F18423 rc) H1 := hB
    have hw : (v18422 38).toInt = (v 38).toInt + 1 ∧ keepL (v 37) (F 28) (F 29) (F18423 28) (F18423 29) ∧ dp (F18423 28) (F18423 29) (bI (v 37)) ((v 38).toInt.toNat + 1) = dpS (dp (F 28) (F 29) (bI (v 37)) (v 38).toInt.toNat) (2 : Int32) r18418 := hw
    have hw_r18421 := hw
    have t18426 : 0 ≤ (v18422 38).toInt ∧ (v18422 38).toInt ≤ 120 := hI.1 38 _ _ rfl
    have k18427 : (2 : Int32).toInt = 2 := by decide
    generalize H1 = H at hP hS ⊢
    have hk := hk.tr hw_r18421.2.1
    have hd : (v 40).toInt < 0 → dp (F18423 28) (F18423 29) (bI (v 37)) (v18422 38).toInt.toNat = some (d + 1) := fun hf => (by have e9 : (v18422 38).toInt.toNat = (v 38).toInt.toNat + 1 := (by omega); rw [e9, hw_r18421.2.2, hd hf]; exact dpS_2 (by decide) (by omega))
    refine lv_aload_n hx hb dX12_operand_21 rfl (lv_at hl 1 rfl) ?_
    refine lv_dup hx hb dX12_operand_22 rfl ?_
    refine va_get (D := (dC, dI)) (ci := 12) (v := .int (v18422 39)) (C := RX12) (T := TX12) (N := 63) hx hb hwd inA_X12 hown hK hP 0 rfl rfl 39 (by decide) (hwd _ wk_1004) (fun _ h9 => h9) rfl dX12_operand_23 ?_
    refine my_top (v := v 39) (hf18424 39 (by decide)) ?_
    have t18428 : 0 ≤ (v 39).toInt ∧ (v 39).toInt ≤ 120 := by have h9 := hI.1 39 _ _ rfl; rw [show v18422 39 = v 39 from hf18424 39 (by decide)] at h9; exact h9
    refine lv_iconst (v := 1) hx hb dX12_operand_26 (by decide) ?_
    refine lv_iadd hx hb dX12_operand_27 ?_
    refine lv_topi (fun z18429 e18430 => ?_)
    try (have t18431 := tadd e18430 (a := (v 39).toInt) rfl (b := 1) (by decide) (by omega))
    refine va_put (D := (dC, dI)) (ci := 12) (v := .int z18429) (ty := .int) (C := RX12) (T := TX12) (N := 63) (fs := fsM_0 g v18422 rc) hx hb hwd inA_X12 tyX12 tyX12_ok nmX12 hown hK hP (DM hg) hS 0 rfl rfl 39 (by decide) (hwd _ wk_1004) (fun _ h9 => h9) rfl (by decide +kernel) rfl rfl (Nat.le_of_ble_eq_true rfl) dX12_operand_28 (fun H locs hP _ hS => ?_)
    have hP := va_P_eq (pM_39 g c _ _ _ _) hP
    have hI := IM.put hI 39 z18429 rfl (by omega)
    refine lv_goto (tgt := 150) hx hb dX12_operand_31 (by decide) ?_
    have hP9 : va_P (dC, dI) classes (wM g c (va_up v18422 39 z18429) F18423 rc) H := hP
    exact W.vret hx hb hr (fun t ht hW => ⟨⟨((va_up v18422 39 z18429), F18423, rc), rfl, ⟨hI, rfl, (frU (by decide) (frC (by decide) hf18424 (fun _ _ => rfl))), hF, (by show ((v 39).toInt ≤ z18429.toInt ∧ z18429.toInt ≤ (v 30).toInt ∧ (v 38).toInt ≤ (v18422 38).toInt ∧ (v18422 38).toInt - (v 38).toInt ≤ z18429.toInt - (v 39).toInt ∧ (v 41).toInt ≤ ((va_up v18422 39 z18429) 41).toInt ∧ (((va_up v18422 39 z18429) 40).toInt < 0 → ((va_up v18422 39 z18429) 41).toInt = (v 41).toInt)) ∧ keepL (v 37) (F 28) (F 29) (F18423 28) (F18423 29) ∧ (((va_up v18422 39 z18429) 40).toInt < 0 → dp (F18423 28) (F18423 29) (bI (v 37)) (v18422 38).toInt.toNat = some (d + 1)); rw [show (va_up v18422 39 z18429) 41 = v 41 from hf18424 41 (by decide)]; rw [show (va_up v18422 39 z18429) 40 = v 40 from hf18424 40 (by decide)]; exact ⟨by omega, hk, fun hf => (hd (by omega)).trans (congrArg some (by omega))⟩)⟩, (by show va_P _ _ _ t.heap; rw [ht]; exact hP9)⟩, hS.F ht⟩) hS.2.2 dX12_operand_150
set_option maxHeartbeats 8000000 in
set_option maxRecDepth 100000 in
theorem c_X12_product_3 (l : Launch) (dC : Nat → ClassId) (dI : Nat → Nat → Nat) (g : Nat → Nat) (c : Nat → ClassId) (adK adV : Nat → Nat) (v : Nat → Int32) (F : Nat → Nat → Int32) (rc sz : Nat) (d : Nat) (hg : injM g) (hI : IM v F) (hq : (v 38).toInt ≤ (v 39).toInt ∧ (v 39).toInt ≤ (v 30).toInt ∧ (v 40).toInt < 0 ∧ (v 41).toInt = 3) (hdp : dp (F 28) (F 29) (bI (v 37)) (v 38).toInt.toNat = some d) : Met l yX12_product (Cond.code yX12_product cX12_product 2 none :: wA) ({ frames := 24, cells := 0, slots := 0, locals := 960 }) (va_Pc [.ref (g 0)] (PM dC dI g c adK adV v F rc sz)) (va_Qv (fun (u : StM) => IM u.1 u.2.1 ∧ u.2.2 = rc ∧ (∀ k, k ∉ ([38, 39, 40, 41, 42] : List Nat) → u.1 k = v k) ∧ (∀ k, k ∉ ([28, 29] : List Nat) → u.2.1 k = F k) ∧ (((v 39).toInt ≤ (u.1 39).toInt ∧ (u.1 39).toInt ≤ (v 30).toInt ∧ (v 38).toInt ≤ (u.1 38).toInt ∧ (u.1 38).toInt - (v 38).toInt ≤ (u.1 39).toInt - (v 39).toInt ∧ (v 41).toInt ≤ (u.1 41).toInt ∧ ((u.1 40).toInt < 0 → (u.1 41).toInt = (v 41).toInt)) ∧ keepL (v 37) (F 28) (F 29) (u.2.1 28) (u.2.1 29) ∧ ((u.1 40).toInt < 0 → dp (u.2.1 28) (u.2.1 29) (bI (v 37)) (u.1 38).toInt.toNat = some (d + 1)))) (BM dC dI g c) (AM g sz)) 0 0 (AM g sz) := by
  refine Met.ofW (cc := cX12_product) (maxL := 2) (ret := none) (by decide) rfl ?_
  intro p e s m args below meth c0 s₁ B hml hv
  obtain ⟨rfl, hsz, hP, hK, hE⟩ := hv
  have hx := B.exec
  have hb := B.bytes
  have hr := B.returns
  have hts := atoms_spec (ws := Cond.code yX12_product cX12_product 2 none :: wA) B.pre
  have hwd : ∀ w ∈ wA, w.before _ s = true := fun w h => hts w (List.mem_cons_of_mem _ h)
  have hown : s.vm.findClass RX12 = some m.cls := findClass_of_methodNamed B.named
  have hlocks := B.notSynchronized
  subst hsz
  have hl := lv_entry ([.ref (g 0)]) (n := 2) (Nat.le_of_ble_eq_true rfl)
  rw [lg_entry_eq]
  generalize (lg_sl ([.ref (g 0)]) ++ List.replicate (2 - (lg_sl ([.ref (g 0)])).length) Slot.unset).toArray = ls at hl ⊢
  have hl : lv_has ls 2 [(0, .ref (g 0))] := hl
  obtain ⟨H, eH⟩ : ∃ z, z = s.heap := ⟨_, rfl⟩
  have hP : va_P (dC, dI) classes (wM g c v F rc) H := by rw [eH]; exact hP
  have hS : va_S (AM g s.heap.size) s.heap H [] := by rw [eH]; exact va_S.rf
  refine my_heap eH ?_
  have hF : ∀ k, k ∉ ([28, 29] : List Nat) → F k = F k := fun _ _ => rfl
  have hb30 : 0 ≤ (v 30).toInt ∧ (v 30).toInt ≤ 120 := hI.1 30 _ _ rfl
  have hb37 : 0 ≤ (v 37).toInt ∧ (v 37).toInt ≤ 9 := hI.1 37 _ _ rfl
  have hb38 : 0 ≤ (v 38).toInt ∧ (v 38).toInt ≤ 120 := hI.1 38 _ _ rfl
  have hb39 : 0 ≤ (v 39).toInt ∧ (v 39).toInt ≤ 120 := hI.1 39 _ _ rfl
  have hb41 : 0 ≤ (v 41).toInt ∧ (v 41).toInt ≤ 8 := hI.1 41 _ _ rfl
  have hk : keepL (v 37) (F 28) (F 29) (F 28) (F 29) := keepL.rf
  have hd : (v 40).toInt < 0 → dp (F 28) (F 29) (bI (v 37)) (v 38).toInt.toNat = some d := fun _ => hdp
  refine lv_aload_n hx hb dX12_product_0 rfl (lv_at hl 0 rfl) ?_
  have t18522 : 0 ≤ (v 30).toInt ∧ (v 30).toInt ≤ 120 := hI.1 30 _ _ rfl
  have t18523 : 0 ≤ (v 37).toInt ∧ (v 37).toInt ≤ 9 := hI.1 37 _ _ rfl
  have t18524 : 0 ≤ (v 38).toInt ∧ (v 38).toInt ≤ 120 := hI.1 38 _ _ rfl
  have t18525 : 0 ≤ (v 39).toInt ∧ (v 39).toInt ≤ 120 := hI.1 39 _ _ rfl
  have t18526 : 0 ≤ (v 41).toInt ∧ (v 41).toInt ≤ 8 := hI.1 41 _ _ rfl
  refine va_callv (va_runV (As := []) (rest := []) ⟨hx, hb, hml, hown, hwd⟩ (c_X12_operand_3 l dC dI g c adK adV v F rc H.size  d hg hI (by have h9 : v 38 = v 38 := rfl; (try rw [h9]); clear h9; have h9 : v 39 = v 39 := rfl; (try rw [h9]); clear h9; have h9 : v 30 = v 30 := rfl; (try rw [h9]); clear h9; have h9 : v 40 = v 40 := rfl; (try rw [h9]); clear h9; have h9 : v 41 = v 41 := rfl; (try rw [h9]); clear h9; omega) (by have h9 : v 37 = (v 37) := rfl; have h8 : v 38 = (v 38) := rfl; (try rw [h9]); (try rw [h8]); exact hd (by omega))) (cwV 0 hwd (gV wk_1030 wk_1035 wk_1036 wk_1037 wk_5) rfl rfl rfl (by decide +kernel) ⟨Nat.le_of_ble_eq_true rfl, Nat.le_of_ble_eq_true rfl⟩) ⟨PM.blind, va_recv hK hP (ci := 12) (q0 := 0) rfl rfl, fun U hU hW => ⟨rfl, PM.at hK hE hP hS hU hW⟩⟩ rfl rfl hl.1 rfl (lv_room (Nat.le_of_ble_eq_true rfl)) dX12_product_1 ⟨Nat.le_of_ble_eq_true rfl, Nat.le_of_ble_eq_true rfl⟩) hS (fun q _ h => (freeM hS) q h) (freeM hS) (fun u t H1 locs ht hvm hw hB hz1 hk1 hS => ?_)
  unfold BM at hB
  rw [ht] at hB
  obtain ⟨v18528, F18529, rc9⟩ := u
  obtain ⟨hI, hrc, hf18530, hG18531, hw⟩ := hw
  dsimp only at hI hrc hB hf18530 hG18531 hw
  have hF := frCF (by decide) hG18531 hF
  rw [hrc] at hB
  have hP : va_P (dC, dI) classes (wM g c v18528 F18529 rc) H1 := hB
  have hw : ((v 39).toInt ≤ (v18528 39).toInt ∧ (v18528 39).toInt ≤ (v 30).toInt ∧ (v 38).toInt ≤ (v18528 38).toInt ∧ (v18528 38).toInt - (v 38).toInt ≤ (v18528 39).toInt - (v 39).toInt ∧ (v 41).toInt ≤ (v18528 41).toInt ∧ ((v18528 40).toInt < 0 → (v18528 41).toInt = (v 41).toInt)) ∧ keepL (v 37) (F 28) (F 29) (F18529 28) (F18529 29) ∧ ((v18528 40).toInt < 0 → dp (F18529 28) (F18529 29) (bI (v 37)) (v18528 38).toInt.toNat = some (d + 1)) := hw
  have hw_r18527 := hw
  have t18532 : 0 ≤ (v18528 38).toInt ∧ (v18528 38).toInt ≤ 120 := hI.1 38 _ _ rfl
  have t18533 : 0 ≤ (v18528 39).toInt ∧ (v18528 39).toInt ≤ 120 := hI.1 39 _ _ rfl
  have t18534 : 0 ≤ (v18528 41).toInt ∧ (v18528 41).toInt ≤ 8 := hI.1 41 _ _ rfl
  generalize H1 = H at hP hS ⊢
  have hk := hk.tr hw_r18527.2.1
  have hd := hw_r18527.2.2
  have lp18535 : ∀ (n : Nat) (v_lp18535 : Nat → Int32) (F_lp18535 : Nat → Nat → Int32) (H : Heap) (locs : List Loc) (ls : Array Slot), ((v 39).toInt ≤ (v_lp18535 39).toInt ∧ (v_lp18535 39).toInt ≤ (v 30).toInt ∧ (v 38).toInt ≤ (v_lp18535 38).toInt ∧ (v_lp18535 38).toInt - (v 38).toInt ≤ (v_lp18535 39).toInt - (v 39).toInt ∧ (v 41).toInt ≤ (v_lp18535 41).toInt ∧ ((v_lp18535 40).toInt < 0 → (v_lp18535 41).toInt = (v 41).toInt)) → (keepL (v 37) (F 28) (F 29) (F_lp18535 28) (F_lp18535 29)) → (((v_lp18535 40).toInt < 0 → dp (F_lp18535 28) (F_lp18535 29) (bI (v 37)) (v_lp18535 38).toInt.toNat = some (d + 1))) → (121 - (v_lp18535 39).toInt ≤ (n : Int)) → (∀ k, k ∉ ([38, 39, 40, 41, 42] : List Nat) → v_lp18535 k = v18528 k) → IM v_lp18535 F_lp18535 → (∀ k, k ∉ ([28, 29] : List Nat) → F_lp18535 k = F k) → va_P (dC, dI) classes (wM g c v_lp18535 F_lp18535 rc) H → va_S (AM g s.heap.size) s.heap H locs → lv_has ls 2 [(0, .ref (g 0))] → W p l e (headSpec (Cond.code yX12_product cX12_product 2 none :: wA) ({ frames := 24, cells := 0, slots := 0, locals := 960 })).room s m ([.ref (g 0)] : List Value).toArray below meth c0 H locs 0 0 (MQ below (va_Qv (fun (u : StM) => IM u.1 u.2.1 ∧ u.2.2 = rc ∧ (∀ k, k ∉ ([38, 39, 40, 41, 42] : List Nat) → u.1 k = v k) ∧ (∀ k, k ∉ ([28, 29] : List Nat) → u.2.1 k = F k) ∧ (((v 39).toInt ≤ (u.1 39).toInt ∧ (u.1 39).toInt ≤ (v 30).toInt ∧ (v 38).toInt ≤ (u.1 38).toInt ∧ (u.1 38).toInt - (v 38).toInt ≤ (u.1 39).toInt - (v 39).toInt ∧ (v 41).toInt ≤ (u.1 41).toInt ∧ ((u.1 40).toInt < 0 → (u.1 41).toInt = (v 41).toInt)) ∧ keepL (v 37) (F 28) (F 29) (u.2.1 28) (u.2.1 29) ∧ ((u.1 40).toInt < 0 → dp (u.2.1 28) (u.2.1 29) (bI (v 37)) (u.1 38).toInt.toNat = some (d + 1)))) (BM dC dI g c) (AM g s.heap.size)) ([.ref (g 0)] : List Value).toArray s 0 0 (AM g s.heap.size)) (F0 m 4 ls []) := by
    intro n
    induction n with
    | zero =>
      intro v_lp18535 F_lp18535 H locs ls t18536 t18537 t18538 hm hf_lp18535 hI hF hP hS hl
      exfalso
      have hI1 := hI.1
      omega
    | succ n ih_lp18535 =>
      intro v_lp18535 F_lp18535 H locs ls t18536 t18537 t18538 hm hf_lp18535 hI hF hP hS hl
      have hk := t18537
      have hd := t18538
      refine lv_aload_n hx hb dX12_product_4 rfl (lv_at hl 0 rfl) ?_
      refine va_get (D := (dC, dI)) (ci := 12) (v := .int (v_lp18535 40)) (C := RX12) (T := TX12) (N := 63) hx hb hwd inA_X12 hown hK hP 0 rfl rfl 40 (by decide) (hwd _ wk_1005) (fun _ h9 => h9) rfl dX12_product_5 ?_
      refine lv_if_ge (tgt := 57) hx hb dX12_product_8 (by decide) (fun c18539 => ?_) (fun c18539 => ?_)
      · skip
        have t18540 := cv_le (a := 0) (by decide) (b := (v_lp18535 40).toInt) rfl c18539
        have hP9 : va_P (dC, dI) classes (wM g c v_lp18535 F_lp18535 rc) H := hP
        exact W.vret hx hb hr (fun t ht hW => ⟨⟨(v_lp18535, F_lp18535, rc), rfl, ⟨hI, rfl, (frC (by decide) hf_lp18535 (frC (by decide) hf18530 (fun _ _ => rfl))), hF, (by show ((v 39).toInt ≤ (v_lp18535 39).toInt ∧ (v_lp18535 39).toInt ≤ (v 30).toInt ∧ (v 38).toInt ≤ (v_lp18535 38).toInt ∧ (v_lp18535 38).toInt - (v 38).toInt ≤ (v_lp18535 39).toInt - (v 39).toInt ∧ (v 41).toInt ≤ (v_lp18535 41).toInt ∧ ((v_lp18535 40).toInt < 0 → (v_lp18535 41).toInt = (v 41).toInt)) ∧ keepL (v 37) (F 28) (F 29) (F_lp18535 28) (F_lp18535 29) ∧ ((v_lp18535 40).toInt < 0 → dp (F_lp18535 28) (F_lp18535 29) (bI (v 37)) (v_lp18535 38).toInt.toNat = some (d + 1)); exact ⟨by omega, hk, fun hf => (hd (by omega)).trans (congrArg some (by omega))⟩)⟩, (by show va_P _ _ _ t.heap; rw [ht]; exact hP9)⟩, hS.F ht⟩) hS.2.2 dX12_product_57
      · skip
        have t18541 := cv_nle (a := 0) (by decide) (b := (v_lp18535 40).toInt) rfl c18539
        refine lv_aload_n hx hb dX12_product_11 rfl (lv_at hl 0 rfl) ?_
        have t18542 : 0 ≤ (v 30).toInt ∧ (v 30).toInt ≤ 120 := by have h9 := hI.1 30 _ _ rfl; rw [show v_lp18535 30 = v 30 from (hf_lp18535 30 (by decide)).trans (hf18530 30 (by decide))] at h9; exact h9
        have t18543 : 0 ≤ (v_lp18535 39).toInt ∧ (v_lp18535 39).toInt ≤ 120 := hI.1 39 _ _ rfl
        refine va_calli (va_runV (As := []) (rest := []) ⟨hx, hb, hml, hown, hwd⟩ (c_X12_look l dC dI g c adK adV v_lp18535 F_lp18535 rc H.size  hg hI ) (cwV 0 hwd (gV wk_1017 wk_1014 wk_1015 wk_1016 wk_5) rfl rfl rfl (by decide +kernel) ⟨Nat.le_of_ble_eq_true rfl, Nat.le_of_ble_eq_true rfl⟩) ⟨PM.blind, va_recv hK hP (ci := 12) (q0 := 0) rfl rfl, fun U hU hW => ⟨rfl, PM.at hK hE hP hS hU hW⟩⟩ rfl rfl hl.1 rfl (lv_room (Nat.le_of_ble_eq_true rfl)) dX12_product_12 ⟨Nat.le_of_ble_eq_true rfl, Nat.le_of_ble_eq_true rfl⟩) hS (fun q _ h => (freeM hS) q h) (freeM hS) (fun r18544 u t H1 locs ht hvm hw hB hz1 hk1 hS => ?_)
        unfold BM at hB
        rw [ht] at hB
        have hP : va_P (dC, dI) classes (wM g c v_lp18535 F_lp18535 rc) H1 := hB
        have hw : r18544.toInt = lkM (v_lp18535 39) (v_lp18535 30) (F_lp18535 24) ∧ ((v_lp18535 39).toInt < (v_lp18535 30).toInt ∨ r18544.toInt = -1) := hw
        rw [show v_lp18535 30 = v 30 from (hf_lp18535 30 (by decide)).trans (hf18530 30 (by decide))] at hw
        rw [hF 24 (by decide)] at hw
        have hw_r18544 := hw
        generalize H1 = H at hP hS ⊢
        refine lv_bipush (v := 42) hx hb dX12_product_15 (by decide) ?_
        refine lv_icmp_eq (tgt := 29) hx hb dX12_product_17 (by decide) (fun c18545 => ?_) (fun c18545 => ?_)
        · skip
          have t18546 := cv_eq (a := r18544.toInt) rfl (b := 42) (by decide) c18545
          refine lv_aload_n hx hb dX12_product_29 rfl (lv_at hl 0 rfl) ?_
          have t18547 : 0 ≤ (v 30).toInt ∧ (v 30).toInt ≤ 120 := by have h9 := hI.1 30 _ _ rfl; rw [show v_lp18535 30 = v 30 from (hf_lp18535 30 (by decide)).trans (hf18530 30 (by decide))] at h9; exact h9
          have t18548 : 0 ≤ (v_lp18535 39).toInt ∧ (v_lp18535 39).toInt ≤ 120 := hI.1 39 _ _ rfl
          refine va_calli (va_runV (As := []) (rest := []) ⟨hx, hb, hml, hown, hwd⟩ (c_X12_look l dC dI g c adK adV v_lp18535 F_lp18535 rc H.size  hg hI ) (cwV 0 hwd (gV wk_1017 wk_1014 wk_1015 wk_1016 wk_5) rfl rfl rfl (by decide +kernel) ⟨Nat.le_of_ble_eq_true rfl, Nat.le_of_ble_eq_true rfl⟩) ⟨PM.blind, va_recv hK hP (ci := 12) (q0 := 0) rfl rfl, fun U hU hW => ⟨rfl, PM.at hK hE hP hS hU hW⟩⟩ rfl rfl hl.1 rfl (lv_room (Nat.le_of_ble_eq_true rfl)) dX12_product_30 ⟨Nat.le_of_ble_eq_true rfl, Nat.le_of_ble_eq_true rfl⟩) hS (fun q _ h => (freeM hS) q h) (freeM hS) (fun r18549 u t H1 locs ht hvm hw hB hz1 hk1 hS => ?_)
          unfold BM at hB
          rw [ht] at hB
          have hP : va_P (dC, dI) classes (wM g c v_lp18535 F_lp18535 rc) H1 := hB
          have hw : r18549.toInt = lkM (v_lp18535 39) (v_lp18535 30) (F_lp18535 24) ∧ ((v_lp18535 39).toInt < (v_lp18535 30).toInt ∨ r18549.toInt = -1) := hw
          rw [show v_lp18535 30 = v 30 from (hf_lp18535 30 (by decide)).trans (hf18530 30 (by decide))] at hw
          rw [hF 24 (by decide)] at hw
          have hw_r18549 := hw
          generalize H1 = H at hP hS ⊢
          refine lv_istore_n (lv' := [(1, .int r18549), (0, .ref (g 0))]) hx hb dX12_product_33 rfl hl (by decide) rfl (fun ls hl => ?_)
          refine lv_aload_n hx hb dX12_product_34 rfl (lv_at hl 1 rfl) ?_
          refine lv_dup hx hb dX12_product_35 rfl ?_
          refine va_get (D := (dC, dI)) (ci := 12) (v := .int (v_lp18535 39)) (C := RX12) (T := TX12) (N := 63) hx hb hwd inA_X12 hown hK hP 0 rfl rfl 39 (by decide) (hwd _ wk_1004) (fun _ h9 => h9) rfl dX12_product_36 ?_
          have t18550 : 0 ≤ (v_lp18535 39).toInt ∧ (v_lp18535 39).toInt ≤ 120 := hI.1 39 _ _ rfl
          refine lv_iconst (v := 1) hx hb dX12_product_39 (by decide) ?_
          refine lv_iadd hx hb dX12_product_40 ?_
          refine lv_topi (fun z18551 e18552 => ?_)
          try (have t18553 := tadd e18552 (a := (v_lp18535 39).toInt) rfl (b := 1) (by decide) (by omega))
          refine va_put (D := (dC, dI)) (ci := 12) (v := .int z18551) (ty := .int) (C := RX12) (T := TX12) (N := 63) (fs := fsM_0 g v_lp18535 rc) hx hb hwd inA_X12 tyX12 tyX12_ok nmX12 hown hK hP (DM hg) hS 0 rfl rfl 39 (by decide) (hwd _ wk_1004) (fun _ h9 => h9) rfl (by decide +kernel) rfl rfl (Nat.le_of_ble_eq_true rfl) dX12_product_41 (fun H locs hP _ hS => ?_)
          have hP := va_P_eq (pM_39 g c _ _ _ _) hP
          have hI := IM.put hI 39 z18551 rfl (by omega)
          refine lv_aload_n hx hb dX12_product_44 rfl (lv_at hl 1 rfl) ?_
          have t18554 : 0 ≤ (v 30).toInt ∧ (v 30).toInt ≤ 120 := by have h9 := hI.1 30 _ _ rfl; rw [show (va_up v_lp18535 39 z18551) 30 = v 30 from (hf_lp18535 30 (by decide)).trans (hf18530 30 (by decide))] at h9; exact h9
          have t18555 : 0 ≤ (v 37).toInt ∧ (v 37).toInt ≤ 9 := by have h9 := hI.1 37 _ _ rfl; rw [show (va_up v_lp18535 39 z18551) 37 = v 37 from (hf_lp18535 37 (by decide)).trans (hf18530 37 (by decide))] at h9; exact h9
          have t18556 : 0 ≤ (v_lp18535 38).toInt ∧ (v_lp18535 38).toInt ≤ 120 := hI.1 38 _ _ rfl
          have t18557 : 0 ≤ z18551.toInt ∧ z18551.toInt ≤ 120 := hI.1 39 _ _ rfl
          have t18558 : 0 ≤ (v_lp18535 41).toInt ∧ (v_lp18535 41).toInt ≤ 8 := hI.1 41 _ _ rfl
          refine va_callv (va_runV (As := []) (rest := []) ⟨hx, hb, hml, hown, hwd⟩ (c_X12_operand_3 l dC dI g c adK adV (va_up v_lp18535 39 z18551) F_lp18535 rc H.size  (d + 1) hg hI (by have h9 : (va_up v_lp18535 39 z18551) 38 = v_lp18535 38 := rfl; (try rw [h9]); clear h9; have h9 : (va_up v_lp18535 39 z18551) 39 = z18551 := rfl; (try rw [h9]); clear h9; have h9 : (va_up v_lp18535 39 z18551) 30 = v 30 := (hf_lp18535 30 (by decide)).trans (hf18530 30 (by decide)); (try rw [h9]); clear h9; have h9 : (va_up v_lp18535 39 z18551) 40 = v_lp18535 40 := rfl; (try rw [h9]); clear h9; have h9 : (va_up v_lp18535 39 z18551) 41 = v_lp18535 41 := rfl; (try rw [h9]); clear h9; omega) (by have h9 : (va_up v_lp18535 39 z18551) 37 = (v 37) := (hf_lp18535 37 (by decide)).trans (hf18530 37 (by decide)); have h8 : (va_up v_lp18535 39 z18551) 38 = (v_lp18535 38) := rfl; (try rw [h9]); (try rw [h8]); exact hd (by omega))) (cwV 0 hwd (gV wk_1030 wk_1035 wk_1036 wk_1037 wk_5) rfl rfl rfl (by decide +kernel) ⟨Nat.le_of_ble_eq_true rfl, Nat.le_of_ble_eq_true rfl⟩) ⟨PM.blind, va_recv hK hP (ci := 12) (q0 := 0) rfl rfl, fun U hU hW => ⟨rfl, PM.at hK hE hP hS hU hW⟩⟩ rfl rfl hl.1 rfl (lv_room (Nat.le_of_ble_eq_true rfl)) dX12_product_45 ⟨Nat.le_of_ble_eq_true rfl, Nat.le_of_ble_eq_true rfl⟩) hS (fun q _ h => (freeM hS) q h) (freeM hS) (fun u t H1 locs ht hvm hw hB hz1 hk1 hS => ?_)
          unfold BM at hB
          rw [ht] at hB
          obtain ⟨v18560, F18561, rc9⟩ := u
          obtain ⟨hI, hrc, hf18562, hG18563, hw⟩ := hw
          dsimp only at hI hrc hB hf18562 hG18563 hw
          have hF := frCF (by decide) hG18563 hF
          rw [hrc] at hB
          have hP : va_P (dC, dI) classes (wM g c v18560 F18561 rc) H1 := hB
          have hw : (z18551.toInt ≤ (v18560 39).toInt ∧ (v18560 39).toInt ≤ ((va_up v_lp18535 39 z18551) 30).toInt ∧ (v_lp18535 38).toInt ≤ (v18560 38).toInt ∧ (v18560 38).toInt - (v_lp18535 38).toInt ≤ (v18560 39).toInt - z18551.toInt ∧ (v_lp18535 41).toInt ≤ (v18560 41).toInt ∧ ((v18560 40).toInt < 0 → (v18560 41).toInt = (v_lp18535 41).toInt)) ∧ keepL ((va_up v_lp18535 39 z18551) 37) (F_lp18535 28) (F_lp18535 29) (F18561 28) (F18561 29) ∧ ((v18560 40).toInt < 0 → dp (F18561 28) (F18561 29) (bI ((va_up v_lp18535 39 z18551) 37)) (v18560 38).toInt.toNat = some ((d + 1) + 1)) := hw
          rw [show (va_up v_lp18535 39 z18551) 30 = v 30 from (hf_lp18535 30 (by decide)).trans (hf18530 30 (by decide))] at hw
          rw [show (va_up v_lp18535 39 z18551) 37 = v 37 from (hf_lp18535 37 (by decide)).trans (hf18530 37 (by decide))] at hw
          have hw_r18559 := hw
          have t18564 : 0 ≤ (v18560 38).toInt ∧ (v18560 38).toInt ≤ 120 := hI.1 38 _ _ rfl
          have t18565 : 0 ≤ (v18560 39).toInt ∧ (v18560 39).toInt ≤ 120 := hI.1 39 _ _ rfl
          have t18566 : 0 ≤ (v18560 41).toInt ∧ (v18560 41).toInt ≤ 8 := hI.1 41 _ _ rfl
          generalize H1 = H at hP hS ⊢
          have hk := hk.tr hw_r18559.2.1
          have hd := hw_r18559.2.2
          refine lv_aload_n hx hb dX12_product_48 rfl (lv_at hl 1 rfl) ?_
          refine lv_iload_n hx hb dX12_product_49 rfl (lv_at hl 0 rfl) ?_
          refine lv_iconst (v := 0) hx hb dX12_product_50 (by decide) ?_
          have t18567 : 0 ≤ (v 37).toInt ∧ (v 37).toInt ≤ 9 := by have h9 := hI.1 37 _ _ rfl; rw [show v18560 37 = v 37 from (hf18562 37 (by decide)).trans ((hf_lp18535 37 (by decide)).trans (hf18530 37 (by decide)))] at h9; exact h9
          have t18568 : 0 ≤ (v18560 38).toInt ∧ (v18560 38).toInt ≤ 120 := hI.1 38 _ _ rfl
          refine va_callv (va_runV (As := [.int r18549, .int 0]) (rest := []) ⟨hx, hb, hml, hown, hwd⟩ (c_X12_lay l dC dI g c adK adV v18560 F18561 rc H.size r18549 0 hg hI (by have h9 : v18560 38 = v18560 38 := rfl; rw [h9]; omega)) (cwV 2 hwd (gV wk_1021 wk_1018 wk_1019 wk_1020 wk_5) rfl rfl rfl (by decide +kernel) ⟨Nat.le_of_ble_eq_true rfl, Nat.le_of_ble_eq_true rfl⟩) ⟨PM.blind, va_recv hK hP (ci := 12) (q0 := 0) rfl rfl, fun U hU hW => ⟨rfl, PM.at hK hE hP hS hU hW⟩⟩ rfl rfl hl.1 rfl (lv_room (Nat.le_of_ble_eq_true rfl)) dX12_product_51 ⟨Nat.le_of_ble_eq_true rfl, Nat.le_of_ble_eq_true rfl⟩) hS (fun q _ h => (freeM hS) q h) (freeM hS) (fun u t H1 locs ht hvm hw hB hz1 hk1 hS => ?_)
          unfold BM at hB
          rw [ht] at hB
          obtain ⟨v18570, F18571, rc9⟩ := u
          obtain ⟨hI, hrc, hf18572, hG18573, hw⟩ := hw
          dsimp only at hI hrc hB hf18572 hG18573 hw
          have hF := frCF (by decide) hG18573 hF
          rw [hrc] at hB
          have hP : va_P (dC, dI) classes (wM g c v18570 F18571 rc) H1 := hB
          have hw : (v18570 38).toInt = (v18560 38).toInt + 1 ∧ keepL (v18560 37) (F18561 28) (F18561 29) (F18571 28) (F18571 29) ∧ dp (F18571 28) (F18571 29) (bI (v18560 37)) ((v18560 38).toInt.toNat + 1) = dpS (dp (F18561 28) (F18561 29) (bI (v18560 37)) (v18560 38).toInt.toNat) r18549 (0 : Int32) := hw
          rw [show v18560 37 = v 37 from (hf18562 37 (by decide)).trans ((hf_lp18535 37 (by decide)).trans (hf18530 37 (by decide)))] at hw
          have hw_r18569 := hw
          have t18574 : 0 ≤ (v18570 38).toInt ∧ (v18570 38).toInt ≤ 120 := hI.1 38 _ _ rfl
          have k18575 : (0 : Int32).toInt = 0 := by decide
          generalize H1 = H at hP hS ⊢
          have hk := hk.tr hw_r18569.2.1
          have hd : (v18560 40).toInt < 0 → dp (F18571 28) (F18571 29) (bI (v 37)) (v18570 38).toInt.toNat = some (((d + 1) + 1) - 1) := fun hf => (by have e9 : (v18570 38).toInt.toNat = (v18560 38).toInt.toNat + 1 := (by omega); rw [e9, hw_r18569.2.2, hd hf]; exact dpS_5 (by omega) (by omega) (by omega) (by omega) (by omega))
          refine lv_goto (tgt := 4) hx hb dX12_product_54 (by decide) ?_
          exact ih_lp18535  v18570 F18571 _ _ _ (by have h9 : v18570 39 = v18560 39 := hf18572 39 (by decide); (try rw [h9]); clear h9; have h9 : v18570 38 = v18570 38 := rfl; (try rw [h9]); clear h9; have h9 : v18570 41 = v18560 41 := hf18572 41 (by decide); (try rw [h9]); clear h9; have h9 : v18570 40 = v18560 40 := hf18572 40 (by decide); (try rw [h9]); clear h9; omega) hk (by have h9 : v18570 40 = v18560 40 := hf18572 40 (by decide); (try rw [h9]); clear h9; have h9 : v18570 38 = v18570 38 := rfl; (try rw [h9]); clear h9; exact fun hf => (hd (by omega)).trans (congrArg some (by omega))) (by have h9 : v18570 39 = v18560 39 := hf18572 39 (by decide); rw [h9]; omega) (frC (by decide) hf18572 (frC (by decide) hf18562 (frU (by decide) hf_lp18535))) hI hF hP hS (lv_sub hl [1] rfl)
        · skip
          have t18576 := cv_ne (a := r18544.toInt) rfl (b := 42) (by decide) c18545
          refine lv_aload_n hx hb dX12_product_20 rfl (lv_at hl 0 rfl) ?_
          have t18577 : 0 ≤ (v 30).toInt ∧ (v 30).toInt ≤ 120 := by have h9 := hI.1 30 _ _ rfl; rw [show v_lp18535 30 = v 30 from (hf_lp18535 30 (by decide)).trans (hf18530 30 (by decide))] at h9; exact h9
          have t18578 : 0 ≤ (v_lp18535 39).toInt ∧ (v_lp18535 39).toInt ≤ 120 := hI.1 39 _ _ rfl
          refine va_calli (va_runV (As := []) (rest := []) ⟨hx, hb, hml, hown, hwd⟩ (c_X12_look l dC dI g c adK adV v_lp18535 F_lp18535 rc H.size  hg hI ) (cwV 0 hwd (gV wk_1017 wk_1014 wk_1015 wk_1016 wk_5) rfl rfl rfl (by decide +kernel) ⟨Nat.le_of_ble_eq_true rfl, Nat.le_of_ble_eq_true rfl⟩) ⟨PM.blind, va_recv hK hP (ci := 12) (q0 := 0) rfl rfl, fun U hU hW => ⟨rfl, PM.at hK hE hP hS hU hW⟩⟩ rfl rfl hl.1 rfl (lv_room (Nat.le_of_ble_eq_true rfl)) dX12_product_21 ⟨Nat.le_of_ble_eq_true rfl, Nat.le_of_ble_eq_true rfl⟩) hS (fun q _ h => (freeM hS) q h) (freeM hS) (fun r18579 u t H1 locs ht hvm hw hB hz1 hk1 hS => ?_)
          unfold BM at hB
          rw [ht] at hB
          have hP : va_P (dC, dI) classes (wM g c v_lp18535 F_lp18535 rc) H1 := hB
          have hw : r18579.toInt = lkM (v_lp18535 39) (v_lp18535 30) (F_lp18535 24) ∧ ((v_lp18535 39).toInt < (v_lp18535 30).toInt ∨ r18579.toInt = -1) := hw
          rw [show v_lp18535 30 = v 30 from (hf_lp18535 30 (by decide)).trans (hf18530 30 (by decide))] at hw
          rw [hF 24 (by decide)] at hw
          have hw_r18579 := hw
          generalize H1 = H at hP hS ⊢
          refine lv_bipush (v := 47) hx hb dX12_product_24 (by decide) ?_
          refine lv_icmp_ne (tgt := 57) hx hb dX12_product_26 (by decide) (fun c18580 => ?_) (fun c18580 => ?_)
          · skip
            have t18581 := cv_ne (a := r18579.toInt) rfl (b := 47) (by decide) c18580
            have hP9 : va_P (dC, dI) classes (wM g c v_lp18535 F_lp18535 rc) H := hP
            exact W.vret hx hb hr (fun t ht hW => ⟨⟨(v_lp18535, F_lp18535, rc), rfl, ⟨hI, rfl, (frC (by decide) hf_lp18535 (frC (by decide) hf18530 (fun _ _ => rfl))), hF, (by show ((v 39).toInt ≤ (v_lp18535 39).toInt ∧ (v_lp18535 39).toInt ≤ (v 30).toInt ∧ (v 38).toInt ≤ (v_lp18535 38).toInt ∧ (v_lp18535 38).toInt - (v 38).toInt ≤ (v_lp18535 39).toInt - (v 39).toInt ∧ (v 41).toInt ≤ (v_lp18535 41).toInt ∧ ((v_lp18535 40).toInt < 0 → (v_lp18535 41).toInt = (v 41).toInt)) ∧ keepL (v 37) (F 28) (F 29) (F_lp18535 28) (F_lp18535 29) ∧ ((v_lp18535 40).toInt < 0 → dp (F_lp18535 28) (F_lp18535 29) (bI (v 37)) (v_lp18535 38).toInt.toNat = some (d + 1)); exact ⟨by omega, hk, fun hf => (hd (by omega)).trans (congrArg some (by omega))⟩)⟩, (by show va_P _ _ _ t.heap; rw [ht]; exact hP9)⟩, hS.F ht⟩) hS.2.2 dX12_product_57
          · skip
            have t18582 := cv_eq (a := r18579.toInt) rfl (b := 47) (by decide) c18580
            refine lv_aload_n hx hb dX12_product_29 rfl (lv_at hl 0 rfl) ?_
            have t18583 : 0 ≤ (v 30).toInt ∧ (v 30).toInt ≤ 120 := by have h9 := hI.1 30 _ _ rfl; rw [show v_lp18535 30 = v 30 from (hf_lp18535 30 (by decide)).trans (hf18530 30 (by decide))] at h9; exact h9
            have t18584 : 0 ≤ (v_lp18535 39).toInt ∧ (v_lp18535 39).toInt ≤ 120 := hI.1 39 _ _ rfl
            refine va_calli (va_runV (As := []) (rest := []) ⟨hx, hb, hml, hown, hwd⟩ (c_X12_look l dC dI g c adK adV v_lp18535 F_lp18535 rc H.size  hg hI ) (cwV 0 hwd (gV wk_1017 wk_1014 wk_1015 wk_1016 wk_5) rfl rfl rfl (by decide +kernel) ⟨Nat.le_of_ble_eq_true rfl, Nat.le_of_ble_eq_true rfl⟩) ⟨PM.blind, va_recv hK hP (ci := 12) (q0 := 0) rfl rfl, fun U hU hW => ⟨rfl, PM.at hK hE hP hS hU hW⟩⟩ rfl rfl hl.1 rfl (lv_room (Nat.le_of_ble_eq_true rfl)) dX12_product_30 ⟨Nat.le_of_ble_eq_true rfl, Nat.le_of_ble_eq_true rfl⟩) hS (fun q _ h => (freeM hS) q h) (freeM hS) (fun r18585 u t H1 locs ht hvm hw hB hz1 hk1 hS => ?_)
            unfold BM at hB
            rw [ht] at hB
            have hP : va_P (dC, dI) classes (wM g c v_lp18535 F_lp18535 rc) H1 := hB
            have hw : r18585.toInt = lkM (v_lp18535 39) (v_lp18535 30) (F_lp18535 24) ∧ ((v_lp18535 39).toInt < (v_lp18535 30).toInt ∨ r18585.toInt = -1) := hw
            rw [show v_lp18535 30 = v 30 from (hf_lp18535 30 (by decide)).trans (hf18530 30 (by decide))] at hw
            rw [hF 24 (by decide)] at hw
            have hw_r18585 := hw
            generalize H1 = H at hP hS ⊢
            refine lv_istore_n (lv' := [(1, .int r18585), (0, .ref (g 0))]) hx hb dX12_product_33 rfl hl (by decide) rfl (fun ls hl => ?_)
            refine lv_aload_n hx hb dX12_product_34 rfl (lv_at hl 1 rfl) ?_
            refine lv_dup hx hb dX12_product_35 rfl ?_
            refine va_get (D := (dC, dI)) (ci := 12) (v := .int (v_lp18535 39)) (C := RX12) (T := TX12) (N := 63) hx hb hwd inA_X12 hown hK hP 0 rfl rfl 39 (by decide) (hwd _ wk_1004) (fun _ h9 => h9) rfl dX12_product_36 ?_
            have t18586 : 0 ≤ (v_lp18535 39).toInt ∧ (v_lp18535 39).toInt ≤ 120 := hI.1 39 _ _ rfl
            refine lv_iconst (v := 1) hx hb dX12_product_39 (by decide) ?_
            refine lv_iadd hx hb dX12_product_40 ?_
            refine lv_topi (fun z18587 e18588 => ?_)
            try (have t18589 := tadd e18588 (a := (v_lp18535 39).toInt) rfl (b := 1) (by decide) (by omega))
            refine va_put (D := (dC, dI)) (ci := 12) (v := .int z18587) (ty := .int) (C := RX12) (T := TX12) (N := 63) (fs := fsM_0 g v_lp18535 rc) hx hb hwd inA_X12 tyX12 tyX12_ok nmX12 hown hK hP (DM hg) hS 0 rfl rfl 39 (by decide) (hwd _ wk_1004) (fun _ h9 => h9) rfl (by decide +kernel) rfl rfl (Nat.le_of_ble_eq_true rfl) dX12_product_41 (fun H locs hP _ hS => ?_)
            have hP := va_P_eq (pM_39 g c _ _ _ _) hP
            have hI := IM.put hI 39 z18587 rfl (by omega)
            refine lv_aload_n hx hb dX12_product_44 rfl (lv_at hl 1 rfl) ?_
            have t18590 : 0 ≤ (v 30).toInt ∧ (v 30).toInt ≤ 120 := by have h9 := hI.1 30 _ _ rfl; rw [show (va_up v_lp18535 39 z18587) 30 = v 30 from (hf_lp18535 30 (by decide)).trans (hf18530 30 (by decide))] at h9; exact h9
            have t18591 : 0 ≤ (v 37).toInt ∧ (v 37).toInt ≤ 9 := by have h9 := hI.1 37 _ _ rfl; rw [show (va_up v_lp18535 39 z18587) 37 = v 37 from (hf_lp18535 37 (by decide)).trans (hf18530 37 (by decide))] at h9; exact h9
            have t18592 : 0 ≤ (v_lp18535 38).toInt ∧ (v_lp18535 38).toInt ≤ 120 := hI.1 38 _ _ rfl
            have t18593 : 0 ≤ z18587.toInt ∧ z18587.toInt ≤ 120 := hI.1 39 _ _ rfl
            have t18594 : 0 ≤ (v_lp18535 41).toInt ∧ (v_lp18535 41).toInt ≤ 8 := hI.1 41 _ _ rfl
            refine va_callv (va_runV (As := []) (rest := []) ⟨hx, hb, hml, hown, hwd⟩ (c_X12_operand_3 l dC dI g c adK adV (va_up v_lp18535 39 z18587) F_lp18535 rc H.size  (d + 1) hg hI (by have h9 : (va_up v_lp18535 39 z18587) 38 = v_lp18535 38 := rfl; (try rw [h9]); clear h9; have h9 : (va_up v_lp18535 39 z18587) 39 = z18587 := rfl; (try rw [h9]); clear h9; have h9 : (va_up v_lp18535 39 z18587) 30 = v 30 := (hf_lp18535 30 (by decide)).trans (hf18530 30 (by decide)); (try rw [h9]); clear h9; have h9 : (va_up v_lp18535 39 z18587) 40 = v_lp18535 40 := rfl; (try rw [h9]); clear h9; have h9 : (va_up v_lp18535 39 z18587) 41 = v_lp18535 41 := rfl; (try rw [h9]); clear h9; omega) (by have h9 : (va_up v_lp18535 39 z18587) 37 = (v 37) := (hf_lp18535 37 (by decide)).trans (hf18530 37 (by decide)); have h8 : (va_up v_lp18535 39 z18587) 38 = (v_lp18535 38) := rfl; (try rw [h9]); (try rw [h8]); exact hd (by omega))) (cwV 0 hwd (gV wk_1030 wk_1035 wk_1036 wk_1037 wk_5) rfl rfl rfl (by decide +kernel) ⟨Nat.le_of_ble_eq_true rfl, Nat.le_of_ble_eq_true rfl⟩) ⟨PM.blind, va_recv hK hP (ci := 12) (q0 := 0) rfl rfl, fun U hU hW => ⟨rfl, PM.at hK hE hP hS hU hW⟩⟩ rfl rfl hl.1 rfl (lv_room (Nat.le_of_ble_eq_true rfl)) dX12_product_45 ⟨Nat.le_of_ble_eq_true rfl, Nat.le_of_ble_eq_true rfl⟩) hS (fun q _ h => (freeM hS) q h) (freeM hS) (fun u t H1 locs ht hvm hw hB hz1 hk1 hS => ?_)
            unfold BM at hB
            rw [ht] at hB
            obtain ⟨v18596, F18597, rc9⟩ := u
            obtain ⟨hI, hrc, hf18598, hG18599, hw⟩ := hw
            dsimp only at hI hrc hB hf18598 hG18599 hw
            have hF := frCF (by decide) hG18599 hF
            rw [hrc] at hB
            have hP : va_P (dC, dI) classes (wM g c v18596 F18597 rc) H1 := hB
            have hw : (z18587.toInt ≤ (v18596 39).toInt ∧ (v18596 39).toInt ≤ ((va_up v_lp18535 39 z18587) 30).toInt ∧ (v_lp18535 38).toInt ≤ (v18596 38).toInt ∧ (v18596 38).toInt - (v_lp18535 38).toInt ≤ (v18596 39).toInt - z18587.toInt ∧ (v_lp18535 41).toInt ≤ (v18596 41).toInt ∧ ((v18596 40).toInt < 0 → (v18596 41).toInt = (v_lp18535 41).toInt)) ∧ keepL ((va_up v_lp18535 39 z18587) 37) (F_lp18535 28) (F_lp18535 29) (F18597 28) (F18597 29) ∧ ((v18596 40).toInt < 0 → dp (F18597 28) (F18597 29) (bI ((va_up v_lp18535 39 z18587) 37)) (v18596 38).toInt.toNat = some ((d + 1) + 1)) := hw
            rw [show (va_up v_lp18535 39 z18587) 30 = v 30 from (hf_lp18535 30 (by decide)).trans (hf18530 30 (by decide))] at hw
            rw [show (va_up v_lp18535 39 z18587) 37 = v 37 from (hf_lp18535 37 (by decide)).trans (hf18530 37 (by decide))] at hw
            have hw_r18595 := hw
            have t18600 : 0 ≤ (v18596 38).toInt ∧ (v18596 38).toInt ≤ 120 := hI.1 38 _ _ rfl
            have t18601 : 0 ≤ (v18596 39).toInt ∧ (v18596 39).toInt ≤ 120 := hI.1 39 _ _ rfl
            have t18602 : 0 ≤ (v18596 41).toInt ∧ (v18596 41).toInt ≤ 8 := hI.1 41 _ _ rfl
            generalize H1 = H at hP hS ⊢
            have hk := hk.tr hw_r18595.2.1
            have hd := hw_r18595.2.2
            refine lv_aload_n hx hb dX12_product_48 rfl (lv_at hl 1 rfl) ?_
            refine lv_iload_n hx hb dX12_product_49 rfl (lv_at hl 0 rfl) ?_
            refine lv_iconst (v := 0) hx hb dX12_product_50 (by decide) ?_
            have t18603 : 0 ≤ (v 37).toInt ∧ (v 37).toInt ≤ 9 := by have h9 := hI.1 37 _ _ rfl; rw [show v18596 37 = v 37 from (hf18598 37 (by decide)).trans ((hf_lp18535 37 (by decide)).trans (hf18530 37 (by decide)))] at h9; exact h9
            have t18604 : 0 ≤ (v18596 38).toInt ∧ (v18596 38).toInt ≤ 120 := hI.1 38 _ _ rfl
            refine va_callv (va_runV (As := [.int r18585, .int 0]) (rest := []) ⟨hx, hb, hml, hown, hwd⟩ (c_X12_lay l dC dI g c adK adV v18596 F18597 rc H.size r18585 0 hg hI (by have h9 : v18596 38 = v18596 38 := rfl; rw [h9]; omega)) (cwV 2 hwd (gV wk_1021 wk_1018 wk_1019 wk_1020 wk_5) rfl rfl rfl (by decide +kernel) ⟨Nat.le_of_ble_eq_true rfl, Nat.le_of_ble_eq_true rfl⟩) ⟨PM.blind, va_recv hK hP (ci := 12) (q0 := 0) rfl rfl, fun U hU hW => ⟨rfl, PM.at hK hE hP hS hU hW⟩⟩ rfl rfl hl.1 rfl (lv_room (Nat.le_of_ble_eq_true rfl)) dX12_product_51 ⟨Nat.le_of_ble_eq_true rfl, Nat.le_of_ble_eq_true rfl⟩) hS (fun q _ h => (freeM hS) q h) (freeM hS) (fun u t H1 locs ht hvm hw hB hz1 hk1 hS => ?_)
            unfold BM at hB
            rw [ht] at hB
            obtain ⟨v18606, F18607, rc9⟩ := u
            obtain ⟨hI, hrc, hf18608, hG18609, hw⟩ := hw
            dsimp only at hI hrc hB hf18608 hG18609 hw
            have hF := frCF (by decide) hG18609 hF
            rw [hrc] at hB
            have hP : va_P (dC, dI) classes (wM g c v18606 F18607 rc) H1 := hB
            have hw : (v18606 38).toInt = (v18596 38).toInt + 1 ∧ keepL (v18596 37) (F18597 28) (F18597 29) (F18607 28) (F18607 29) ∧ dp (F18607 28) (F18607 29) (bI (v18596 37)) ((v18596 38).toInt.toNat + 1) = dpS (dp (F18597 28) (F18597 29) (bI (v18596 37)) (v18596 38).toInt.toNat) r18585 (0 : Int32) := hw
            rw [show v18596 37 = v 37 from (hf18598 37 (by decide)).trans ((hf_lp18535 37 (by decide)).trans (hf18530 37 (by decide)))] at hw
            have hw_r18605 := hw
            have t18610 : 0 ≤ (v18606 38).toInt ∧ (v18606 38).toInt ≤ 120 := hI.1 38 _ _ rfl
            have k18611 : (0 : Int32).toInt = 0 := by decide
            generalize H1 = H at hP hS ⊢
            have hk := hk.tr hw_r18605.2.1
            have hd : (v18596 40).toInt < 0 → dp (F18607 28) (F18607 29) (bI (v 37)) (v18606 38).toInt.toNat = some (((d + 1) + 1) - 1) := fun hf => (by have e9 : (v18606 38).toInt.toNat = (v18596 38).toInt.toNat + 1 := (by omega); rw [e9, hw_r18605.2.2, hd hf]; exact dpS_5 (by omega) (by omega) (by omega) (by omega) (by omega))
            refine lv_goto (tgt := 4) hx hb dX12_product_54 (by decide) ?_
            exact ih_lp18535  v18606 F18607 _ _ _ (by have h9 : v18606 39 = v18596 39 := hf18608 39 (by decide); (try rw [h9]); clear h9; have h9 : v18606 38 = v18606 38 := rfl; (try rw [h9]); clear h9; have h9 : v18606 41 = v18596 41 := hf18608 41 (by decide); (try rw [h9]); clear h9; have h9 : v18606 40 = v18596 40 := hf18608 40 (by decide); (try rw [h9]); clear h9; omega) hk (by have h9 : v18606 40 = v18596 40 := hf18608 40 (by decide); (try rw [h9]); clear h9; have h9 : v18606 38 = v18606 38 := rfl; (try rw [h9]); clear h9; exact fun hf => (hd (by omega)).trans (congrArg some (by omega))) (by have h9 : v18606 39 = v18596 39 := hf18608 39 (by decide); rw [h9]; omega) (frC (by decide) hf18608 (frC (by decide) hf18598 (frU (by decide) hf_lp18535))) hI hF hP hS (lv_sub hl [1] rfl)
  obtain ⟨n9, hn9⟩ : ∃ n : Nat, 121 - (v18528 39).toInt ≤ (n : Int) := ⟨((121 - (v18528 39).toInt : Int)).toNat, by omega⟩
  exact lp18535 n9  v18528 F18529 H _ ls (by have h9 : v18528 39 = v18528 39 := rfl; (try rw [h9]); clear h9; have h9 : v18528 38 = v18528 38 := rfl; (try rw [h9]); clear h9; have h9 : v18528 41 = v18528 41 := rfl; (try rw [h9]); clear h9; have h9 : v18528 40 = v18528 40 := rfl; (try rw [h9]); clear h9; omega) hk (by have h9 : v18528 40 = v18528 40 := rfl; (try rw [h9]); clear h9; have h9 : v18528 38 = v18528 38 := rfl; (try rw [h9]); clear h9; exact fun hf => (hd (by omega)).trans (congrArg some (by omega))) (by have h9 : v18528 39 = v18528 39 := rfl; rw [h9]; omega) (fun _ _ => rfl) hI hF hP hS hl
set_option maxHeartbeats 8000000 in
set_option maxRecDepth 100000 in
theorem c_X12_sum_3 (l : Launch) (dC : Nat → ClassId) (dI : Nat → Nat → Nat) (g : Nat → Nat) (c : Nat → ClassId) (adK adV : Nat → Nat) (v : Nat → Int32) (F : Nat → Nat → Int32) (rc sz : Nat) (d : Nat) (hg : injM g) (hI : IM v F) (hq : (v 38).toInt ≤ (v 39).toInt ∧ (v 39).toInt ≤ (v 30).toInt ∧ (v 40).toInt < 0 ∧ (v 41).toInt = 3) (hdp : dp (F 28) (F 29) (bI (v 37)) (v 38).toInt.toNat = some d) : Met l yX12_sum (Cond.code yX12_sum cX12_sum 2 none :: wA) ({ frames := 25, cells := 0, slots := 0, locals := 1000 }) (va_Pc [.ref (g 0)] (PM dC dI g c adK adV v F rc sz)) (va_Qv (fun (u : StM) => IM u.1 u.2.1 ∧ u.2.2 = rc ∧ (∀ k, k ∉ ([38, 39, 40, 41, 42] : List Nat) → u.1 k = v k) ∧ (∀ k, k ∉ ([28, 29] : List Nat) → u.2.1 k = F k) ∧ (((v 39).toInt ≤ (u.1 39).toInt ∧ (u.1 39).toInt ≤ (v 30).toInt ∧ (v 38).toInt ≤ (u.1 38).toInt ∧ (u.1 38).toInt - (v 38).toInt ≤ (u.1 39).toInt - (v 39).toInt ∧ (v 41).toInt ≤ (u.1 41).toInt ∧ ((u.1 40).toInt < 0 → (u.1 41).toInt = (v 41).toInt)) ∧ keepL (v 37) (F 28) (F 29) (u.2.1 28) (u.2.1 29) ∧ ((u.1 40).toInt < 0 → dp (u.2.1 28) (u.2.1 29) (bI (v 37)) (u.1 38).toInt.toNat = some (d + 1)))) (BM dC dI g c) (AM g sz)) 0 0 (AM g sz) := by
  refine Met.ofW (cc := cX12_sum) (maxL := 2) (ret := none) (by decide) rfl ?_
  intro p e s m args below meth c0 s₁ B hml hv
  obtain ⟨rfl, hsz, hP, hK, hE⟩ := hv
  have hx := B.exec
  have hb := B.bytes
  have hr := B.returns
  have hts := atoms_spec (ws := Cond.code yX12_sum cX12_sum 2 none :: wA) B.pre
  have hwd : ∀ w ∈ wA, w.before _ s = true := fun w h => hts w (List.mem_cons_of_mem _ h)
  have hown : s.vm.findClass RX12 = some m.cls := findClass_of_methodNamed B.named
  have hlocks := B.notSynchronized
  subst hsz
  have hl := lv_entry ([.ref (g 0)]) (n := 2) (Nat.le_of_ble_eq_true rfl)
  rw [lg_entry_eq]
  generalize (lg_sl ([.ref (g 0)]) ++ List.replicate (2 - (lg_sl ([.ref (g 0)])).length) Slot.unset).toArray = ls at hl ⊢
  have hl : lv_has ls 2 [(0, .ref (g 0))] := hl
  obtain ⟨H, eH⟩ : ∃ z, z = s.heap := ⟨_, rfl⟩
  have hP : va_P (dC, dI) classes (wM g c v F rc) H := by rw [eH]; exact hP
  have hS : va_S (AM g s.heap.size) s.heap H [] := by rw [eH]; exact va_S.rf
  refine my_heap eH ?_
  have hF : ∀ k, k ∉ ([28, 29] : List Nat) → F k = F k := fun _ _ => rfl
  have hb30 : 0 ≤ (v 30).toInt ∧ (v 30).toInt ≤ 120 := hI.1 30 _ _ rfl
  have hb37 : 0 ≤ (v 37).toInt ∧ (v 37).toInt ≤ 9 := hI.1 37 _ _ rfl
  have hb38 : 0 ≤ (v 38).toInt ∧ (v 38).toInt ≤ 120 := hI.1 38 _ _ rfl
  have hb39 : 0 ≤ (v 39).toInt ∧ (v 39).toInt ≤ 120 := hI.1 39 _ _ rfl
  have hb41 : 0 ≤ (v 41).toInt ∧ (v 41).toInt ≤ 8 := hI.1 41 _ _ rfl
  have hk : keepL (v 37) (F 28) (F 29) (F 28) (F 29) := keepL.rf
  have hd : (v 40).toInt < 0 → dp (F 28) (F 29) (bI (v 37)) (v 38).toInt.toNat = some d := fun _ => hdp
  refine lv_aload_n hx hb dX12_sum_0 rfl (lv_at hl 0 rfl) ?_
  have t18702 : 0 ≤ (v 30).toInt ∧ (v 30).toInt ≤ 120 := hI.1 30 _ _ rfl
  have t18703 : 0 ≤ (v 37).toInt ∧ (v 37).toInt ≤ 9 := hI.1 37 _ _ rfl
  have t18704 : 0 ≤ (v 38).toInt ∧ (v 38).toInt ≤ 120 := hI.1 38 _ _ rfl
  have t18705 : 0 ≤ (v 39).toInt ∧ (v 39).toInt ≤ 120 := hI.1 39 _ _ rfl
  have t18706 : 0 ≤ (v 41).toInt ∧ (v 41).toInt ≤ 8 := hI.1 41 _ _ rfl
  refine va_callv (va_runV (As := []) (rest := []) ⟨hx, hb, hml, hown, hwd⟩ (c_X12_product_3 l dC dI g c adK adV v F rc H.size  d hg hI (by have h9 : v 38 = v 38 := rfl; (try rw [h9]); clear h9; have h9 : v 39 = v 39 := rfl; (try rw [h9]); clear h9; have h9 : v 30 = v 30 := rfl; (try rw [h9]); clear h9; have h9 : v 40 = v 40 := rfl; (try rw [h9]); clear h9; have h9 : v 41 = v 41 := rfl; (try rw [h9]); clear h9; omega) (by have h9 : v 37 = (v 37) := rfl; have h8 : v 38 = (v 38) := rfl; (try rw [h9]); (try rw [h8]); exact hd (by omega))) (cwV 0 hwd (gV wk_1042 wk_1044 wk_1045 wk_1046 wk_5) rfl rfl rfl (by decide +kernel) ⟨Nat.le_of_ble_eq_true rfl, Nat.le_of_ble_eq_true rfl⟩) ⟨PM.blind, va_recv hK hP (ci := 12) (q0 := 0) rfl rfl, fun U hU hW => ⟨rfl, PM.at hK hE hP hS hU hW⟩⟩ rfl rfl hl.1 rfl (lv_room (Nat.le_of_ble_eq_true rfl)) dX12_sum_1 ⟨Nat.le_of_ble_eq_true rfl, Nat.le_of_ble_eq_true rfl⟩) hS (fun q _ h => (freeM hS) q h) (freeM hS) (fun u t H1 locs ht hvm hw hB hz1 hk1 hS => ?_)
  unfold BM at hB
  rw [ht] at hB
  obtain ⟨v18708, F18709, rc9⟩ := u
  obtain ⟨hI, hrc, hf18710, hG18711, hw⟩ := hw
  dsimp only at hI hrc hB hf18710 hG18711 hw
  have hF := frCF (by decide) hG18711 hF
  rw [hrc] at hB
  have hP : va_P (dC, dI) classes (wM g c v18708 F18709 rc) H1 := hB
  have hw : ((v 39).toInt ≤ (v18708 39).toInt ∧ (v18708 39).toInt ≤ (v 30).toInt ∧ (v 38).toInt ≤ (v18708 38).toInt ∧ (v18708 38).toInt - (v 38).toInt ≤ (v18708 39).toInt - (v 39).toInt ∧ (v 41).toInt ≤ (v18708 41).toInt ∧ ((v18708 40).toInt < 0 → (v18708 41).toInt = (v 41).toInt)) ∧ keepL (v 37) (F 28) (F 29) (F18709 28) (F18709 29) ∧ ((v18708 40).toInt < 0 → dp (F18709 28) (F18709 29) (bI (v 37)) (v18708 38).toInt.toNat = some (d + 1)) := hw
  have hw_r18707 := hw
  have t18712 : 0 ≤ (v18708 38).toInt ∧ (v18708 38).toInt ≤ 120 := hI.1 38 _ _ rfl
  have t18713 : 0 ≤ (v18708 39).toInt ∧ (v18708 39).toInt ≤ 120 := hI.1 39 _ _ rfl
  have t18714 : 0 ≤ (v18708 41).toInt ∧ (v18708 41).toInt ≤ 8 := hI.1 41 _ _ rfl
  generalize H1 = H at hP hS ⊢
  have hk := hk.tr hw_r18707.2.1
  have hd := hw_r18707.2.2
  have lp18715 : ∀ (n : Nat) (v_lp18715 : Nat → Int32) (F_lp18715 : Nat → Nat → Int32) (H : Heap) (locs : List Loc) (ls : Array Slot), ((v 39).toInt ≤ (v_lp18715 39).toInt ∧ (v_lp18715 39).toInt ≤ (v 30).toInt ∧ (v 38).toInt ≤ (v_lp18715 38).toInt ∧ (v_lp18715 38).toInt - (v 38).toInt ≤ (v_lp18715 39).toInt - (v 39).toInt ∧ (v 41).toInt ≤ (v_lp18715 41).toInt ∧ ((v_lp18715 40).toInt < 0 → (v_lp18715 41).toInt = (v 41).toInt)) → (keepL (v 37) (F 28) (F 29) (F_lp18715 28) (F_lp18715 29)) → (((v_lp18715 40).toInt < 0 → dp (F_lp18715 28) (F_lp18715 29) (bI (v 37)) (v_lp18715 38).toInt.toNat = some (d + 1))) → (121 - (v_lp18715 39).toInt ≤ (n : Int)) → (∀ k, k ∉ ([38, 39, 40, 41, 42] : List Nat) → v_lp18715 k = v18708 k) → IM v_lp18715 F_lp18715 → (∀ k, k ∉ ([28, 29] : List Nat) → F_lp18715 k = F k) → va_P (dC, dI) classes (wM g c v_lp18715 F_lp18715 rc) H → va_S (AM g s.heap.size) s.heap H locs → lv_has ls 2 [(0, .ref (g 0))] → W p l e (headSpec (Cond.code yX12_sum cX12_sum 2 none :: wA) ({ frames := 25, cells := 0, slots := 0, locals := 1000 })).room s m ([.ref (g 0)] : List Value).toArray below meth c0 H locs 0 0 (MQ below (va_Qv (fun (u : StM) => IM u.1 u.2.1 ∧ u.2.2 = rc ∧ (∀ k, k ∉ ([38, 39, 40, 41, 42] : List Nat) → u.1 k = v k) ∧ (∀ k, k ∉ ([28, 29] : List Nat) → u.2.1 k = F k) ∧ (((v 39).toInt ≤ (u.1 39).toInt ∧ (u.1 39).toInt ≤ (v 30).toInt ∧ (v 38).toInt ≤ (u.1 38).toInt ∧ (u.1 38).toInt - (v 38).toInt ≤ (u.1 39).toInt - (v 39).toInt ∧ (v 41).toInt ≤ (u.1 41).toInt ∧ ((u.1 40).toInt < 0 → (u.1 41).toInt = (v 41).toInt)) ∧ keepL (v 37) (F 28) (F 29) (u.2.1 28) (u.2.1 29) ∧ ((u.1 40).toInt < 0 → dp (u.2.1 28) (u.2.1 29) (bI (v 37)) (u.1 38).toInt.toNat = some (d + 1)))) (BM dC dI g c) (AM g s.heap.size)) ([.ref (g 0)] : List Value).toArray s 0 0 (AM g s.heap.size)) (F0 m 4 ls []) := by
    intro n
    induction n with
    | zero =>
      intro v_lp18715 F_lp18715 H locs ls t18716 t18717 t18718 hm hf_lp18715 hI hF hP hS hl
      exfalso
      have hI1 := hI.1
      omega
    | succ n ih_lp18715 =>
      intro v_lp18715 F_lp18715 H locs ls t18716 t18717 t18718 hm hf_lp18715 hI hF hP hS hl
      have hk := t18717
      have hd := t18718
      refine lv_aload_n hx hb dX12_sum_4 rfl (lv_at hl 0 rfl) ?_
      refine va_get (D := (dC, dI)) (ci := 12) (v := .int (v_lp18715 40)) (C := RX12) (T := TX12) (N := 63) hx hb hwd inA_X12 hown hK hP 0 rfl rfl 40 (by decide) (hwd _ wk_1005) (fun _ h9 => h9) rfl dX12_sum_5 ?_
      refine lv_if_ge (tgt := 57) hx hb dX12_sum_8 (by decide) (fun c18719 => ?_) (fun c18719 => ?_)
      · skip
        have t18720 := cv_le (a := 0) (by decide) (b := (v_lp18715 40).toInt) rfl c18719
        have hP9 : va_P (dC, dI) classes (wM g c v_lp18715 F_lp18715 rc) H := hP
        exact W.vret hx hb hr (fun t ht hW => ⟨⟨(v_lp18715, F_lp18715, rc), rfl, ⟨hI, rfl, (frC (by decide) hf_lp18715 (frC (by decide) hf18710 (fun _ _ => rfl))), hF, (by show ((v 39).toInt ≤ (v_lp18715 39).toInt ∧ (v_lp18715 39).toInt ≤ (v 30).toInt ∧ (v 38).toInt ≤ (v_lp18715 38).toInt ∧ (v_lp18715 38).toInt - (v 38).toInt ≤ (v_lp18715 39).toInt - (v 39).toInt ∧ (v 41).toInt ≤ (v_lp18715 41).toInt ∧ ((v_lp18715 40).toInt < 0 → (v_lp18715 41).toInt = (v 41).toInt)) ∧ keepL (v 37) (F 28) (F 29) (F_lp18715 28) (F_lp18715 29) ∧ ((v_lp18715 40).toInt < 0 → dp (F_lp18715 28) (F_lp18715 29) (bI (v 37)) (v_lp18715 38).toInt.toNat = some (d + 1)); exact ⟨by omega, hk, fun hf => (hd (by omega)).trans (congrArg some (by omega))⟩)⟩, (by show va_P _ _ _ t.heap; rw [ht]; exact hP9)⟩, hS.F ht⟩) hS.2.2 dX12_sum_57
      · skip
        have t18721 := cv_nle (a := 0) (by decide) (b := (v_lp18715 40).toInt) rfl c18719
        refine lv_aload_n hx hb dX12_sum_11 rfl (lv_at hl 0 rfl) ?_
        have t18722 : 0 ≤ (v 30).toInt ∧ (v 30).toInt ≤ 120 := by have h9 := hI.1 30 _ _ rfl; rw [show v_lp18715 30 = v 30 from (hf_lp18715 30 (by decide)).trans (hf18710 30 (by decide))] at h9; exact h9
        have t18723 : 0 ≤ (v_lp18715 39).toInt ∧ (v_lp18715 39).toInt ≤ 120 := hI.1 39 _ _ rfl
        refine va_calli (va_runV (As := []) (rest := []) ⟨hx, hb, hml, hown, hwd⟩ (c_X12_look l dC dI g c adK adV v_lp18715 F_lp18715 rc H.size  hg hI ) (cwV 0 hwd (gV wk_1017 wk_1014 wk_1015 wk_1016 wk_5) rfl rfl rfl (by decide +kernel) ⟨Nat.le_of_ble_eq_true rfl, Nat.le_of_ble_eq_true rfl⟩) ⟨PM.blind, va_recv hK hP (ci := 12) (q0 := 0) rfl rfl, fun U hU hW => ⟨rfl, PM.at hK hE hP hS hU hW⟩⟩ rfl rfl hl.1 rfl (lv_room (Nat.le_of_ble_eq_true rfl)) dX12_sum_12 ⟨Nat.le_of_ble_eq_true rfl, Nat.le_of_ble_eq_true rfl⟩) hS (fun q _ h => (freeM hS) q h) (freeM hS) (fun r18724 u t H1 locs ht hvm hw hB hz1 hk1 hS => ?_)
        unfold BM at hB
        rw [ht] at hB
        have hP : va_P (dC, dI) classes (wM g c v_lp18715 F_lp18715 rc) H1 := hB
        have hw : r18724.toInt = lkM (v_lp18715 39) (v_lp18715 30) (F_lp18715 24) ∧ ((v_lp18715 39).toInt < (v_lp18715 30).toInt ∨ r18724.toInt = -1) := hw
        rw [show v_lp18715 30 = v 30 from (hf_lp18715 30 (by decide)).trans (hf18710 30 (by decide))] at hw
        rw [hF 24 (by decide)] at hw
        have hw_r18724 := hw
        generalize H1 = H at hP hS ⊢
        refine lv_bipush (v := 43) hx hb dX12_sum_15 (by decide) ?_
        refine lv_icmp_eq (tgt := 29) hx hb dX12_sum_17 (by decide) (fun c18725 => ?_) (fun c18725 => ?_)
        · skip
          have t18726 := cv_eq (a := r18724.toInt) rfl (b := 43) (by decide) c18725
          refine lv_aload_n hx hb dX12_sum_29 rfl (lv_at hl 0 rfl) ?_
          have t18727 : 0 ≤ (v 30).toInt ∧ (v 30).toInt ≤ 120 := by have h9 := hI.1 30 _ _ rfl; rw [show v_lp18715 30 = v 30 from (hf_lp18715 30 (by decide)).trans (hf18710 30 (by decide))] at h9; exact h9
          have t18728 : 0 ≤ (v_lp18715 39).toInt ∧ (v_lp18715 39).toInt ≤ 120 := hI.1 39 _ _ rfl
          refine va_calli (va_runV (As := []) (rest := []) ⟨hx, hb, hml, hown, hwd⟩ (c_X12_look l dC dI g c adK adV v_lp18715 F_lp18715 rc H.size  hg hI ) (cwV 0 hwd (gV wk_1017 wk_1014 wk_1015 wk_1016 wk_5) rfl rfl rfl (by decide +kernel) ⟨Nat.le_of_ble_eq_true rfl, Nat.le_of_ble_eq_true rfl⟩) ⟨PM.blind, va_recv hK hP (ci := 12) (q0 := 0) rfl rfl, fun U hU hW => ⟨rfl, PM.at hK hE hP hS hU hW⟩⟩ rfl rfl hl.1 rfl (lv_room (Nat.le_of_ble_eq_true rfl)) dX12_sum_30 ⟨Nat.le_of_ble_eq_true rfl, Nat.le_of_ble_eq_true rfl⟩) hS (fun q _ h => (freeM hS) q h) (freeM hS) (fun r18729 u t H1 locs ht hvm hw hB hz1 hk1 hS => ?_)
          unfold BM at hB
          rw [ht] at hB
          have hP : va_P (dC, dI) classes (wM g c v_lp18715 F_lp18715 rc) H1 := hB
          have hw : r18729.toInt = lkM (v_lp18715 39) (v_lp18715 30) (F_lp18715 24) ∧ ((v_lp18715 39).toInt < (v_lp18715 30).toInt ∨ r18729.toInt = -1) := hw
          rw [show v_lp18715 30 = v 30 from (hf_lp18715 30 (by decide)).trans (hf18710 30 (by decide))] at hw
          rw [hF 24 (by decide)] at hw
          have hw_r18729 := hw
          generalize H1 = H at hP hS ⊢
          refine lv_istore_n (lv' := [(1, .int r18729), (0, .ref (g 0))]) hx hb dX12_sum_33 rfl hl (by decide) rfl (fun ls hl => ?_)
          refine lv_aload_n hx hb dX12_sum_34 rfl (lv_at hl 1 rfl) ?_
          refine lv_dup hx hb dX12_sum_35 rfl ?_
          refine va_get (D := (dC, dI)) (ci := 12) (v := .int (v_lp18715 39)) (C := RX12) (T := TX12) (N := 63) hx hb hwd inA_X12 hown hK hP 0 rfl rfl 39 (by decide) (hwd _ wk_1004) (fun _ h9 => h9) rfl dX12_sum_36 ?_
          have t18730 : 0 ≤ (v_lp18715 39).toInt ∧ (v_lp18715 39).toInt ≤ 120 := hI.1 39 _ _ rfl
          refine lv_iconst (v := 1) hx hb dX12_sum_39 (by decide) ?_
          refine lv_iadd hx hb dX12_sum_40 ?_
          refine lv_topi (fun z18731 e18732 => ?_)
          try (have t18733 := tadd e18732 (a := (v_lp18715 39).toInt) rfl (b := 1) (by decide) (by omega))
          refine va_put (D := (dC, dI)) (ci := 12) (v := .int z18731) (ty := .int) (C := RX12) (T := TX12) (N := 63) (fs := fsM_0 g v_lp18715 rc) hx hb hwd inA_X12 tyX12 tyX12_ok nmX12 hown hK hP (DM hg) hS 0 rfl rfl 39 (by decide) (hwd _ wk_1004) (fun _ h9 => h9) rfl (by decide +kernel) rfl rfl (Nat.le_of_ble_eq_true rfl) dX12_sum_41 (fun H locs hP _ hS => ?_)
          have hP := va_P_eq (pM_39 g c _ _ _ _) hP
          have hI := IM.put hI 39 z18731 rfl (by omega)
          refine lv_aload_n hx hb dX12_sum_44 rfl (lv_at hl 1 rfl) ?_
          have t18734 : 0 ≤ (v 30).toInt ∧ (v 30).toInt ≤ 120 := by have h9 := hI.1 30 _ _ rfl; rw [show (va_up v_lp18715 39 z18731) 30 = v 30 from (hf_lp18715 30 (by decide)).trans (hf18710 30 (by decide))] at h9; exact h9
          have t18735 : 0 ≤ (v 37).toInt ∧ (v 37).toInt ≤ 9 := by have h9 := hI.1 37 _ _ rfl; rw [show (va_up v_lp18715 39 z18731) 37 = v 37 from (hf_lp18715 37 (by decide)).trans (hf18710 37 (by decide))] at h9; exact h9
          have t18736 : 0 ≤ (v_lp18715 38).toInt ∧ (v_lp18715 38).toInt ≤ 120 := hI.1 38 _ _ rfl
          have t18737 : 0 ≤ z18731.toInt ∧ z18731.toInt ≤ 120 := hI.1 39 _ _ rfl
          have t18738 : 0 ≤ (v_lp18715 41).toInt ∧ (v_lp18715 41).toInt ≤ 8 := hI.1 41 _ _ rfl
          refine va_callv (va_runV (As := []) (rest := []) ⟨hx, hb, hml, hown, hwd⟩ (c_X12_product_3 l dC dI g c adK adV (va_up v_lp18715 39 z18731) F_lp18715 rc H.size  (d + 1) hg hI (by have h9 : (va_up v_lp18715 39 z18731) 38 = v_lp18715 38 := rfl; (try rw [h9]); clear h9; have h9 : (va_up v_lp18715 39 z18731) 39 = z18731 := rfl; (try rw [h9]); clear h9; have h9 : (va_up v_lp18715 39 z18731) 30 = v 30 := (hf_lp18715 30 (by decide)).trans (hf18710 30 (by decide)); (try rw [h9]); clear h9; have h9 : (va_up v_lp18715 39 z18731) 40 = v_lp18715 40 := rfl; (try rw [h9]); clear h9; have h9 : (va_up v_lp18715 39 z18731) 41 = v_lp18715 41 := rfl; (try rw [h9]); clear h9; omega) (by have h9 : (va_up v_lp18715 39 z18731) 37 = (v 37) := (hf_lp18715 37 (by decide)).trans (hf18710 37 (by decide)); have h8 : (va_up v_lp18715 39 z18731) 38 = (v_lp18715 38) := rfl; (try rw [h9]); (try rw [h8]); exact hd (by omega))) (cwV 0 hwd (gV wk_1042 wk_1044 wk_1045 wk_1046 wk_5) rfl rfl rfl (by decide +kernel) ⟨Nat.le_of_ble_eq_true rfl, Nat.le_of_ble_eq_true rfl⟩) ⟨PM.blind, va_recv hK hP (ci := 12) (q0 := 0) rfl rfl, fun U hU hW => ⟨rfl, PM.at hK hE hP hS hU hW⟩⟩ rfl rfl hl.1 rfl (lv_room (Nat.le_of_ble_eq_true rfl)) dX12_sum_45 ⟨Nat.le_of_ble_eq_true rfl, Nat.le_of_ble_eq_true rfl⟩) hS (fun q _ h => (freeM hS) q h) (freeM hS) (fun u t H1 locs ht hvm hw hB hz1 hk1 hS => ?_)
          unfold BM at hB
          rw [ht] at hB
          obtain ⟨v18740, F18741, rc9⟩ := u
          obtain ⟨hI, hrc, hf18742, hG18743, hw⟩ := hw
          dsimp only at hI hrc hB hf18742 hG18743 hw
          have hF := frCF (by decide) hG18743 hF
          rw [hrc] at hB
          have hP : va_P (dC, dI) classes (wM g c v18740 F18741 rc) H1 := hB
          have hw : (z18731.toInt ≤ (v18740 39).toInt ∧ (v18740 39).toInt ≤ ((va_up v_lp18715 39 z18731) 30).toInt ∧ (v_lp18715 38).toInt ≤ (v18740 38).toInt ∧ (v18740 38).toInt - (v_lp18715 38).toInt ≤ (v18740 39).toInt - z18731.toInt ∧ (v_lp18715 41).toInt ≤ (v18740 41).toInt ∧ ((v18740 40).toInt < 0 → (v18740 41).toInt = (v_lp18715 41).toInt)) ∧ keepL ((va_up v_lp18715 39 z18731) 37) (F_lp18715 28) (F_lp18715 29) (F18741 28) (F18741 29) ∧ ((v18740 40).toInt < 0 → dp (F18741 28) (F18741 29) (bI ((va_up v_lp18715 39 z18731) 37)) (v18740 38).toInt.toNat = some ((d + 1) + 1)) := hw
          rw [show (va_up v_lp18715 39 z18731) 30 = v 30 from (hf_lp18715 30 (by decide)).trans (hf18710 30 (by decide))] at hw
          rw [show (va_up v_lp18715 39 z18731) 37 = v 37 from (hf_lp18715 37 (by decide)).trans (hf18710 37 (by decide))] at hw
          have hw_r18739 := hw
          have t18744 : 0 ≤ (v18740 38).toInt ∧ (v18740 38).toInt ≤ 120 := hI.1 38 _ _ rfl
          have t18745 : 0 ≤ (v18740 39).toInt ∧ (v18740 39).toInt ≤ 120 := hI.1 39 _ _ rfl
          have t18746 : 0 ≤ (v18740 41).toInt ∧ (v18740 41).toInt ≤ 8 := hI.1 41 _ _ rfl
          generalize H1 = H at hP hS ⊢
          have hk := hk.tr hw_r18739.2.1
          have hd := hw_r18739.2.2
          refine lv_aload_n hx hb dX12_sum_48 rfl (lv_at hl 1 rfl) ?_
          refine lv_iload_n hx hb dX12_sum_49 rfl (lv_at hl 0 rfl) ?_
          refine lv_iconst (v := 0) hx hb dX12_sum_50 (by decide) ?_
          have t18747 : 0 ≤ (v 37).toInt ∧ (v 37).toInt ≤ 9 := by have h9 := hI.1 37 _ _ rfl; rw [show v18740 37 = v 37 from (hf18742 37 (by decide)).trans ((hf_lp18715 37 (by decide)).trans (hf18710 37 (by decide)))] at h9; exact h9
          have t18748 : 0 ≤ (v18740 38).toInt ∧ (v18740 38).toInt ≤ 120 := hI.1 38 _ _ rfl
          refine va_callv (va_runV (As := [.int r18729, .int 0]) (rest := []) ⟨hx, hb, hml, hown, hwd⟩ (c_X12_lay l dC dI g c adK adV v18740 F18741 rc H.size r18729 0 hg hI (by have h9 : v18740 38 = v18740 38 := rfl; rw [h9]; omega)) (cwV 2 hwd (gV wk_1021 wk_1018 wk_1019 wk_1020 wk_5) rfl rfl rfl (by decide +kernel) ⟨Nat.le_of_ble_eq_true rfl, Nat.le_of_ble_eq_true rfl⟩) ⟨PM.blind, va_recv hK hP (ci := 12) (q0 := 0) rfl rfl, fun U hU hW => ⟨rfl, PM.at hK hE hP hS hU hW⟩⟩ rfl rfl hl.1 rfl (lv_room (Nat.le_of_ble_eq_true rfl)) dX12_sum_51 ⟨Nat.le_of_ble_eq_true rfl, Nat.le_of_ble_eq_true rfl⟩) hS (fun q _ h => (freeM hS) q h) (freeM hS) (fun u t H1 locs ht hvm hw hB hz1 hk1 hS => ?_)
          unfold BM at hB
          rw [ht] at hB
          obtain ⟨v18750, F18751, rc9⟩ := u
          obtain ⟨hI, hrc, hf18752, hG18753, hw⟩ := hw
          dsimp only at hI hrc hB hf18752 hG18753 hw
          have hF := frCF (by decide) hG18753 hF
          rw [hrc] at hB
          have hP : va_P (dC, dI) classes (wM g c v18750 F18751 rc) H1 := hB
          have hw : (v18750 38).toInt = (v18740 38).toInt + 1 ∧ keepL (v18740 37) (F18741 28) (F18741 29) (F18751 28) (F18751 29) ∧ dp (F18751 28) (F18751 29) (bI (v18740 37)) ((v18740 38).toInt.toNat + 1) = dpS (dp (F18741 28) (F18741 29) (bI (v18740 37)) (v18740 38).toInt.toNat) r18729 (0 : Int32) := hw
          rw [show v18740 37 = v 37 from (hf18742 37 (by decide)).trans ((hf_lp18715 37 (by decide)).trans (hf18710 37 (by decide)))] at hw
          have hw_r18749 := hw
          have t18754 : 0 ≤ (v18750 38).toInt ∧ (v18750 38).toInt ≤ 120 := hI.1 38 _ _ rfl
          have k18755 : (0 : Int32).toInt = 0 := by decide
          generalize H1 = H at hP hS ⊢
          have hk := hk.tr hw_r18749.2.1
          have hd : (v18740 40).toInt < 0 → dp (F18751 28) (F18751 29) (bI (v 37)) (v18750 38).toInt.toNat = some (((d + 1) + 1) - 1) := fun hf => (by have e9 : (v18750 38).toInt.toNat = (v18740 38).toInt.toNat + 1 := (by omega); rw [e9, hw_r18749.2.2, hd hf]; exact dpS_5 (by omega) (by omega) (by omega) (by omega) (by omega))
          refine lv_goto (tgt := 4) hx hb dX12_sum_54 (by decide) ?_
          exact ih_lp18715  v18750 F18751 _ _ _ (by have h9 : v18750 39 = v18740 39 := hf18752 39 (by decide); (try rw [h9]); clear h9; have h9 : v18750 38 = v18750 38 := rfl; (try rw [h9]); clear h9; have h9 : v18750 41 = v18740 41 := hf18752 41 (by decide); (try rw [h9]); clear h9; have h9 : v18750 40 = v18740 40 := hf18752 40 (by decide); (try rw [h9]); clear h9; omega) hk (by have h9 : v18750 40 = v18740 40 := hf18752 40 (by decide); (try rw [h9]); clear h9; have h9 : v18750 38 = v18750 38 := rfl; (try rw [h9]); clear h9; exact fun hf => (hd (by omega)).trans (congrArg some (by omega))) (by have h9 : v18750 39 = v18740 39 := hf18752 39 (by decide); rw [h9]; omega) (frC (by decide) hf18752 (frC (by decide) hf18742 (frU (by decide) hf_lp18715))) hI hF hP hS (lv_sub hl [1] rfl)
        · skip
          have t18756 := cv_ne (a := r18724.toInt) rfl (b := 43) (by decide) c18725
          refine lv_aload_n hx hb dX12_sum_20 rfl (lv_at hl 0 rfl) ?_
          have t18757 : 0 ≤ (v 30).toInt ∧ (v 30).toInt ≤ 120 := by have h9 := hI.1 30 _ _ rfl; rw [show v_lp18715 30 = v 30 from (hf_lp18715 30 (by decide)).trans (hf18710 30 (by decide))] at h9; exact h9
          have t18758 : 0 ≤ (v_lp18715 39).toInt ∧ (v_lp18715 39).toInt ≤ 120 := hI.1 39 _ _ rfl
          refine va_calli (va_runV (As := []) (rest := []) ⟨hx, hb, hml, hown, hwd⟩ (c_X12_look l dC dI g c adK adV v_lp18715 F_lp18715 rc H.size  hg hI ) (cwV 0 hwd (gV wk_1017 wk_1014 wk_1015 wk_1016 wk_5) rfl rfl rfl (by decide +kernel) ⟨Nat.le_of_ble_eq_true rfl, Nat.le_of_ble_eq_true rfl⟩) ⟨PM.blind, va_recv hK hP (ci := 12) (q0 := 0) rfl rfl, fun U hU hW => ⟨rfl, PM.at hK hE hP hS hU hW⟩⟩ rfl rfl hl.1 rfl (lv_room (Nat.le_of_ble_eq_true rfl)) dX12_sum_21 ⟨Nat.le_of_ble_eq_true rfl, Nat.le_of_ble_eq_true rfl⟩) hS (fun q _ h => (freeM hS) q h) (freeM hS) (fun r18759 u t H1 locs ht hvm hw hB hz1 hk1 hS => ?_)
          unfold BM at hB
          rw [ht] at hB
          have hP : va_P (dC, dI) classes (wM g c v_lp18715 F_lp18715 rc) H1 := hB
          have hw : r18759.toInt = lkM (v_lp18715 39) (v_lp18715 30) (F_lp18715 24) ∧ ((v_lp18715 39).toInt < (v_lp18715 30).toInt ∨ r18759.toInt = -1) := hw
          rw [show v_lp18715 30 = v 30 from (hf_lp18715 30 (by decide)).trans (hf18710 30 (by decide))] at hw
          rw [hF 24 (by decide)] at hw
          have hw_r18759 := hw
          generalize H1 = H at hP hS ⊢
          refine lv_bipush (v := 45) hx hb dX12_sum_24 (by decide) ?_
          refine lv_icmp_ne (tgt := 57) hx hb dX12_sum_26 (by decide) (fun c18760 => ?_) (fun c18760 => ?_)
          · skip
            have t18761 := cv_ne (a := r18759.toInt) rfl (b := 45) (by decide) c18760
            have hP9 : va_P (dC, dI) classes (wM g c v_lp18715 F_lp18715 rc) H := hP
            exact W.vret hx hb hr (fun t ht hW => ⟨⟨(v_lp18715, F_lp18715, rc), rfl, ⟨hI, rfl, (frC (by decide) hf_lp18715 (frC (by decide) hf18710 (fun _ _ => rfl))), hF, (by show ((v 39).toInt ≤ (v_lp18715 39).toInt ∧ (v_lp18715 39).toInt ≤ (v 30).toInt ∧ (v 38).toInt ≤ (v_lp18715 38).toInt ∧ (v_lp18715 38).toInt - (v 38).toInt ≤ (v_lp18715 39).toInt - (v 39).toInt ∧ (v 41).toInt ≤ (v_lp18715 41).toInt ∧ ((v_lp18715 40).toInt < 0 → (v_lp18715 41).toInt = (v 41).toInt)) ∧ keepL (v 37) (F 28) (F 29) (F_lp18715 28) (F_lp18715 29) ∧ ((v_lp18715 40).toInt < 0 → dp (F_lp18715 28) (F_lp18715 29) (bI (v 37)) (v_lp18715 38).toInt.toNat = some (d + 1)); exact ⟨by omega, hk, fun hf => (hd (by omega)).trans (congrArg some (by omega))⟩)⟩, (by show va_P _ _ _ t.heap; rw [ht]; exact hP9)⟩, hS.F ht⟩) hS.2.2 dX12_sum_57
          · skip
            have t18762 := cv_eq (a := r18759.toInt) rfl (b := 45) (by decide) c18760
            refine lv_aload_n hx hb dX12_sum_29 rfl (lv_at hl 0 rfl) ?_
            have t18763 : 0 ≤ (v 30).toInt ∧ (v 30).toInt ≤ 120 := by have h9 := hI.1 30 _ _ rfl; rw [show v_lp18715 30 = v 30 from (hf_lp18715 30 (by decide)).trans (hf18710 30 (by decide))] at h9; exact h9
            have t18764 : 0 ≤ (v_lp18715 39).toInt ∧ (v_lp18715 39).toInt ≤ 120 := hI.1 39 _ _ rfl
            refine va_calli (va_runV (As := []) (rest := []) ⟨hx, hb, hml, hown, hwd⟩ (c_X12_look l dC dI g c adK adV v_lp18715 F_lp18715 rc H.size  hg hI ) (cwV 0 hwd (gV wk_1017 wk_1014 wk_1015 wk_1016 wk_5) rfl rfl rfl (by decide +kernel) ⟨Nat.le_of_ble_eq_true rfl, Nat.le_of_ble_eq_true rfl⟩) ⟨PM.blind, va_recv hK hP (ci := 12) (q0 := 0) rfl rfl, fun U hU hW => ⟨rfl, PM.at hK hE hP hS hU hW⟩⟩ rfl rfl hl.1 rfl (lv_room (Nat.le_of_ble_eq_true rfl)) dX12_sum_30 ⟨Nat.le_of_ble_eq_true rfl, Nat.le_of_ble_eq_true rfl⟩) hS (fun q _ h => (freeM hS) q h) (freeM hS) (fun r18765 u t H1 locs ht hvm hw hB hz1 hk1 hS => ?_)
            unfold BM at hB
            rw [ht] at hB
            have hP : va_P (dC, dI) classes (wM g c v_lp18715 F_lp18715 rc) H1 := hB
            have hw : r18765.toInt = lkM (v_lp18715 39) (v_lp18715 30) (F_lp18715 24) ∧ ((v_lp18715 39).toInt < (v_lp18715 30).toInt ∨ r18765.toInt = -1) := hw
            rw [show v_lp18715 30 = v 30 from (hf_lp18715 30 (by decide)).trans (hf18710 30 (by decide))] at hw
            rw [hF 24 (by decide)] at hw
            have hw_r18765 := hw
            generalize H1 = H at hP hS ⊢
            refine lv_istore_n (lv' := [(1, .int r18765), (0, .ref (g 0))]) hx hb dX12_sum_33 rfl hl (by decide) rfl (fun ls hl => ?_)
            refine lv_aload_n hx hb dX12_sum_34 rfl (lv_at hl 1 rfl) ?_
            refine lv_dup hx hb dX12_sum_35 rfl ?_
            refine va_get (D := (dC, dI)) (ci := 12) (v := .int (v_lp18715 39)) (C := RX12) (T := TX12) (N := 63) hx hb hwd inA_X12 hown hK hP 0 rfl rfl 39 (by decide) (hwd _ wk_1004) (fun _ h9 => h9) rfl dX12_sum_36 ?_
            have t18766 : 0 ≤ (v_lp18715 39).toInt ∧ (v_lp18715 39).toInt ≤ 120 := hI.1 39 _ _ rfl
            refine lv_iconst (v := 1) hx hb dX12_sum_39 (by decide) ?_
            refine lv_iadd hx hb dX12_sum_40 ?_
            refine lv_topi (fun z18767 e18768 => ?_)
            try (have t18769 := tadd e18768 (a := (v_lp18715 39).toInt) rfl (b := 1) (by decide) (by omega))
            refine va_put (D := (dC, dI)) (ci := 12) (v := .int z18767) (ty := .int) (C := RX12) (T := TX12) (N := 63) (fs := fsM_0 g v_lp18715 rc) hx hb hwd inA_X12 tyX12 tyX12_ok nmX12 hown hK hP (DM hg) hS 0 rfl rfl 39 (by decide) (hwd _ wk_1004) (fun _ h9 => h9) rfl (by decide +kernel) rfl rfl (Nat.le_of_ble_eq_true rfl) dX12_sum_41 (fun H locs hP _ hS => ?_)
            have hP := va_P_eq (pM_39 g c _ _ _ _) hP
            have hI := IM.put hI 39 z18767 rfl (by omega)
            refine lv_aload_n hx hb dX12_sum_44 rfl (lv_at hl 1 rfl) ?_
            have t18770 : 0 ≤ (v 30).toInt ∧ (v 30).toInt ≤ 120 := by have h9 := hI.1 30 _ _ rfl; rw [show (va_up v_lp18715 39 z18767) 30 = v 30 from (hf_lp18715 30 (by decide)).trans (hf18710 30 (by decide))] at h9; exact h9
            have t18771 : 0 ≤ (v 37).toInt ∧ (v 37).toInt ≤ 9 := by have h9 := hI.1 37 _ _ rfl; rw [show (va_up v_lp18715 39 z18767) 37 = v 37 from (hf_lp18715 37 (by decide)).trans (hf18710 37 (by decide))] at h9; exact h9
            have t18772 : 0 ≤ (v_lp18715 38).toInt ∧ (v_lp18715 38).toInt ≤ 120 := hI.1 38 _ _ rfl
            have t18773 : 0 ≤ z18767.toInt ∧ z18767.toInt ≤ 120 := hI.1 39 _ _ rfl
            have t18774 : 0 ≤ (v_lp18715 41).toInt ∧ (v_lp18715 41).toInt ≤ 8 := hI.1 41 _ _ rfl
            refine va_callv (va_runV (As := []) (rest := []) ⟨hx, hb, hml, hown, hwd⟩ (c_X12_product_3 l dC dI g c adK adV (va_up v_lp18715 39 z18767) F_lp18715 rc H.size  (d + 1) hg hI (by have h9 : (va_up v_lp18715 39 z18767) 38 = v_lp18715 38 := rfl; (try rw [h9]); clear h9; have h9 : (va_up v_lp18715 39 z18767) 39 = z18767 := rfl; (try rw [h9]); clear h9; have h9 : (va_up v_lp18715 39 z18767) 30 = v 30 := (hf_lp18715 30 (by decide)).trans (hf18710 30 (by decide)); (try rw [h9]); clear h9; have h9 : (va_up v_lp18715 39 z18767) 40 = v_lp18715 40 := rfl; (try rw [h9]); clear h9; have h9 : (va_up v_lp18715 39 z18767) 41 = v_lp18715 41 := rfl; (try rw [h9]); clear h9; omega) (by have h9 : (va_up v_lp18715 39 z18767) 37 = (v 37) := (hf_lp18715 37 (by decide)).trans (hf18710 37 (by decide)); have h8 : (va_up v_lp18715 39 z18767) 38 = (v_lp18715 38) := rfl; (try rw [h9]); (try rw [h8]); exact hd (by omega))) (cwV 0 hwd (gV wk_1042 wk_1044 wk_1045 wk_1046 wk_5) rfl rfl rfl (by decide +kernel) ⟨Nat.le_of_ble_eq_true rfl, Nat.le_of_ble_eq_true rfl⟩) ⟨PM.blind, va_recv hK hP (ci := 12) (q0 := 0) rfl rfl, fun U hU hW => ⟨rfl, PM.at hK hE hP hS hU hW⟩⟩ rfl rfl hl.1 rfl (lv_room (Nat.le_of_ble_eq_true rfl)) dX12_sum_45 ⟨Nat.le_of_ble_eq_true rfl, Nat.le_of_ble_eq_true rfl⟩) hS (fun q _ h => (freeM hS) q h) (freeM hS) (fun u t H1 locs ht hvm hw hB hz1 hk1 hS => ?_)
            unfold BM at hB
            rw [ht] at hB
            obtain ⟨v18776, F18777, rc9⟩ := u
            obtain ⟨hI, hrc, hf18778, hG18779, hw⟩ := hw
            dsimp only at hI hrc hB hf18778 hG18779 hw
            have hF := frCF (by decide) hG18779 hF
            rw [hrc] at hB
            have hP : va_P (dC, dI) classes (wM g c v18776 F18777 rc) H1 := hB
            have hw : (z18767.toInt ≤ (v18776 39).toInt ∧ (v18776 39).toInt ≤ ((va_up v_lp18715 39 z18767) 30).toInt ∧ (v_lp18715 38).toInt ≤ (v18776 38).toInt ∧ (v18776 38).toInt - (v_lp18715 38).toInt ≤ (v18776 39).toInt - z18767.toInt ∧ (v_lp18715 41).toInt ≤ (v18776 41).toInt ∧ ((v18776 40).toInt < 0 → (v18776 41).toInt = (v_lp18715 41).toInt)) ∧ keepL ((va_up v_lp18715 39 z18767) 37) (F_lp18715 28) (F_lp18715 29) (F18777 28) (F18777 29) ∧ ((v18776 40).toInt < 0 → dp (F18777 28) (F18777 29) (bI ((va_up v_lp18715 39 z18767) 37)) (v18776 38).toInt.toNat = some ((d + 1) + 1)) := hw
            rw [show (va_up v_lp18715 39 z18767) 30 = v 30 from (hf_lp18715 30 (by decide)).trans (hf18710 30 (by decide))] at hw
            rw [show (va_up v_lp18715 39 z18767) 37 = v 37 from (hf_lp18715 37 (by decide)).trans (hf18710 37 (by decide))] at hw
            have hw_r18775 := hw
            have t18780 : 0 ≤ (v18776 38).toInt ∧ (v18776 38).toInt ≤ 120 := hI.1 38 _ _ rfl
            have t18781 : 0 ≤ (v18776 39).toInt ∧ (v18776 39).toInt ≤ 120 := hI.1 39 _ _ rfl
            have t18782 : 0 ≤ (v18776 41).toInt ∧ (v18776 41).toInt ≤ 8 := hI.1 41 _ _ rfl
            generalize H1 = H at hP hS ⊢
            have hk := hk.tr hw_r18775.2.1
            have hd := hw_r18775.2.2
            refine lv_aload_n hx hb dX12_sum_48 rfl (lv_at hl 1 rfl) ?_
            refine lv_iload_n hx hb dX12_sum_49 rfl (lv_at hl 0 rfl) ?_
            refine lv_iconst (v := 0) hx hb dX12_sum_50 (by decide) ?_
            have t18783 : 0 ≤ (v 37).toInt ∧ (v 37).toInt ≤ 9 := by have h9 := hI.1 37 _ _ rfl; rw [show v18776 37 = v 37 from (hf18778 37 (by decide)).trans ((hf_lp18715 37 (by decide)).trans (hf18710 37 (by decide)))] at h9; exact h9
            have t18784 : 0 ≤ (v18776 38).toInt ∧ (v18776 38).toInt ≤ 120 := hI.1 38 _ _ rfl
            refine va_callv (va_runV (As := [.int r18765, .int 0]) (rest := []) ⟨hx, hb, hml, hown, hwd⟩ (c_X12_lay l dC dI g c adK adV v18776 F18777 rc H.size r18765 0 hg hI (by have h9 : v18776 38 = v18776 38 := rfl; rw [h9]; omega)) (cwV 2 hwd (gV wk_1021 wk_1018 wk_1019 wk_1020 wk_5) rfl rfl rfl (by decide +kernel) ⟨Nat.le_of_ble_eq_true rfl, Nat.le_of_ble_eq_true rfl⟩) ⟨PM.blind, va_recv hK hP (ci := 12) (q0 := 0) rfl rfl, fun U hU hW => ⟨rfl, PM.at hK hE hP hS hU hW⟩⟩ rfl rfl hl.1 rfl (lv_room (Nat.le_of_ble_eq_true rfl)) dX12_sum_51 ⟨Nat.le_of_ble_eq_true rfl, Nat.le_of_ble_eq_true rfl⟩) hS (fun q _ h => (freeM hS) q h) (freeM hS) (fun u t H1 locs ht hvm hw hB hz1 hk1 hS => ?_)
            unfold BM at hB
            rw [ht] at hB
            obtain ⟨v18786, F18787, rc9⟩ := u
            obtain ⟨hI, hrc, hf18788, hG18789, hw⟩ := hw
            dsimp only at hI hrc hB hf18788 hG18789 hw
            have hF := frCF (by decide) hG18789 hF
            rw [hrc] at hB
            have hP : va_P (dC, dI) classes (wM g c v18786 F18787 rc) H1 := hB
            have hw : (v18786 38).toInt = (v18776 38).toInt + 1 ∧ keepL (v18776 37) (F18777 28) (F18777 29) (F18787 28) (F18787 29) ∧ dp (F18787 28) (F18787 29) (bI (v18776 37)) ((v18776 38).toInt.toNat + 1) = dpS (dp (F18777 28) (F18777 29) (bI (v18776 37)) (v18776 38).toInt.toNat) r18765 (0 : Int32) := hw
            rw [show v18776 37 = v 37 from (hf18778 37 (by decide)).trans ((hf_lp18715 37 (by decide)).trans (hf18710 37 (by decide)))] at hw
            have hw_r18785 := hw
            have t18790 : 0 ≤ (v18786 38).toInt ∧ (v18786 38).toInt ≤ 120 := hI.1 38 _ _ rfl
            have k18791 : (0 : Int32).toInt = 0 := by decide
            generalize H1 = H at hP hS ⊢
            have hk := hk.tr hw_r18785.2.1
            have hd : (v18776 40).toInt < 0 → dp (F18787 28) (F18787 29) (bI (v 37)) (v18786 38).toInt.toNat = some (((d + 1) + 1) - 1) := fun hf => (by have e9 : (v18786 38).toInt.toNat = (v18776 38).toInt.toNat + 1 := (by omega); rw [e9, hw_r18785.2.2, hd hf]; exact dpS_5 (by omega) (by omega) (by omega) (by omega) (by omega))
            refine lv_goto (tgt := 4) hx hb dX12_sum_54 (by decide) ?_
            exact ih_lp18715  v18786 F18787 _ _ _ (by have h9 : v18786 39 = v18776 39 := hf18788 39 (by decide); (try rw [h9]); clear h9; have h9 : v18786 38 = v18786 38 := rfl; (try rw [h9]); clear h9; have h9 : v18786 41 = v18776 41 := hf18788 41 (by decide); (try rw [h9]); clear h9; have h9 : v18786 40 = v18776 40 := hf18788 40 (by decide); (try rw [h9]); clear h9; omega) hk (by have h9 : v18786 40 = v18776 40 := hf18788 40 (by decide); (try rw [h9]); clear h9; have h9 : v18786 38 = v18786 38 := rfl; (try rw [h9]); clear h9; exact fun hf => (hd (by omega)).trans (congrArg some (by omega))) (by have h9 : v18786 39 = v18776 39 := hf18788 39 (by decide); rw [h9]; omega) (frC (by decide) hf18788 (frC (by decide) hf18778 (frU (by decide) hf_lp18715))) hI hF hP hS (lv_sub hl [1] rfl)
  obtain ⟨n9, hn9⟩ : ∃ n : Nat, 121 - (v18708 39).toInt ≤ (n : Int) := ⟨((121 - (v18708 39).toInt : Int)).toNat, by omega⟩
  exact lp18715 n9  v18708 F18709 H _ ls (by have h9 : v18708 39 = v18708 39 := rfl; (try rw [h9]); clear h9; have h9 : v18708 38 = v18708 38 := rfl; (try rw [h9]); clear h9; have h9 : v18708 41 = v18708 41 := rfl; (try rw [h9]); clear h9; have h9 : v18708 40 = v18708 40 := rfl; (try rw [h9]); clear h9; omega) hk (by have h9 : v18708 40 = v18708 40 := rfl; (try rw [h9]); clear h9; have h9 : v18708 38 = v18708 38 := rfl; (try rw [h9]); clear h9; exact fun hf => (hd (by omega)).trans (congrArg some (by omega))) (by have h9 : v18708 39 = v18708 39 := rfl; rw [h9]; omega) (fun _ _ => rfl) hI hF hP hS hl
set_option maxHeartbeats 8000000 in
set_option maxRecDepth 100000 in
theorem c_X12_either_3 (l : Launch) (dC : Nat → ClassId) (dI : Nat → Nat → Nat) (g : Nat → Nat) (c : Nat → ClassId) (adK adV : Nat → Nat) (v : Nat → Int32) (F : Nat → Nat → Int32) (rc sz : Nat) (d : Nat) (hg : injM g) (hI : IM v F) (hq : (v 38).toInt ≤ (v 39).toInt ∧ (v 39).toInt ≤ (v 30).toInt ∧ (v 40).toInt < 0 ∧ (v 41).toInt = 3) (hdp : dp (F 28) (F 29) (bI (v 37)) (v 38).toInt.toNat = some d) : Met l yX12_either (Cond.code yX12_either cX12_either 2 none :: wA) ({ frames := 26, cells := 0, slots := 0, locals := 1040 }) (va_Pc [.ref (g 0)] (PM dC dI g c adK adV v F rc sz)) (va_Qv (fun (u : StM) => IM u.1 u.2.1 ∧ u.2.2 = rc ∧ (∀ k, k ∉ ([38, 39, 40, 41, 42] : List Nat) → u.1 k = v k) ∧ (∀ k, k ∉ ([28, 29] : List Nat) → u.2.1 k = F k) ∧ (((v 39).toInt ≤ (u.1 39).toInt ∧ (u.1 39).toInt ≤ (v 30).toInt ∧ (v 38).toInt ≤ (u.1 38).toInt ∧ (u.1 38).toInt - (v 38).toInt ≤ (u.1 39).toInt - (v 39).toInt ∧ (v 41).toInt ≤ (u.1 41).toInt ∧ ((u.1 40).toInt < 0 → (u.1 41).toInt = (v 41).toInt)) ∧ keepL (v 37) (F 28) (F 29) (u.2.1 28) (u.2.1 29) ∧ ((u.1 40).toInt < 0 → dp (u.2.1 28) (u.2.1 29) (bI (v 37)) (u.1 38).toInt.toNat = some (d + 1)))) (BM dC dI g c) (AM g sz)) 0 0 (AM g sz) := by
  refine Met.ofW (cc := cX12_either) (maxL := 2) (ret := none) (by decide) rfl ?_
  intro p e s m args below meth c0 s₁ B hml hv
  obtain ⟨rfl, hsz, hP, hK, hE⟩ := hv
  have hx := B.exec
  have hb := B.bytes
  have hr := B.returns
  have hts := atoms_spec (ws := Cond.code yX12_either cX12_either 2 none :: wA) B.pre
  have hwd : ∀ w ∈ wA, w.before _ s = true := fun w h => hts w (List.mem_cons_of_mem _ h)
  have hown : s.vm.findClass RX12 = some m.cls := findClass_of_methodNamed B.named
  have hlocks := B.notSynchronized
  subst hsz
  have hl := lv_entry ([.ref (g 0)]) (n := 2) (Nat.le_of_ble_eq_true rfl)
  rw [lg_entry_eq]
  generalize (lg_sl ([.ref (g 0)]) ++ List.replicate (2 - (lg_sl ([.ref (g 0)])).length) Slot.unset).toArray = ls at hl ⊢
  have hl : lv_has ls 2 [(0, .ref (g 0))] := hl
  obtain ⟨H, eH⟩ : ∃ z, z = s.heap := ⟨_, rfl⟩
  have hP : va_P (dC, dI) classes (wM g c v F rc) H := by rw [eH]; exact hP
  have hS : va_S (AM g s.heap.size) s.heap H [] := by rw [eH]; exact va_S.rf
  refine my_heap eH ?_
  have hF : ∀ k, k ∉ ([28, 29] : List Nat) → F k = F k := fun _ _ => rfl
  have hb30 : 0 ≤ (v 30).toInt ∧ (v 30).toInt ≤ 120 := hI.1 30 _ _ rfl
  have hb37 : 0 ≤ (v 37).toInt ∧ (v 37).toInt ≤ 9 := hI.1 37 _ _ rfl
  have hb38 : 0 ≤ (v 38).toInt ∧ (v 38).toInt ≤ 120 := hI.1 38 _ _ rfl
  have hb39 : 0 ≤ (v 39).toInt ∧ (v 39).toInt ≤ 120 := hI.1 39 _ _ rfl
  have hb41 : 0 ≤ (v 41).toInt ∧ (v 41).toInt ≤ 8 := hI.1 41 _ _ rfl
  have hk : keepL (v 37) (F 28) (F 29) (F 28) (F 29) := keepL.rf
  have hd : (v 40).toInt < 0 → dp (F 28) (F 29) (bI (v 37)) (v 38).toInt.toNat = some d := fun _ => hdp
  refine lv_aload_n hx hb dX12_either_0 rfl (lv_at hl 0 rfl) ?_
  have t19293 : 0 ≤ (v 30).toInt ∧ (v 30).toInt ≤ 120 := hI.1 30 _ _ rfl
  have t19294 : 0 ≤ (v 37).toInt ∧ (v 37).toInt ≤ 9 := hI.1 37 _ _ rfl
  have t19295 : 0 ≤ (v 38).toInt ∧ (v 38).toInt ≤ 120 := hI.1 38 _ _ rfl
  have t19296 : 0 ≤ (v 39).toInt ∧ (v 39).toInt ≤ 120 := hI.1 39 _ _ rfl
  have t19297 : 0 ≤ (v 41).toInt ∧ (v 41).toInt ≤ 8 := hI.1 41 _ _ rfl
  refine va_callv (va_runV (As := []) (rest := []) ⟨hx, hb, hml, hown, hwd⟩ (c_X12_sum_3 l dC dI g c adK adV v F rc H.size  d hg hI (by have h9 : v 38 = v 38 := rfl; (try rw [h9]); clear h9; have h9 : v 39 = v 39 := rfl; (try rw [h9]); clear h9; have h9 : v 30 = v 30 := rfl; (try rw [h9]); clear h9; have h9 : v 40 = v 40 := rfl; (try rw [h9]); clear h9; have h9 : v 41 = v 41 := rfl; (try rw [h9]); clear h9; omega) (by have h9 : v 37 = (v 37) := rfl; have h8 : v 38 = (v 38) := rfl; (try rw [h9]); (try rw [h8]); exact hd (by omega))) (cwV 0 hwd (gV wk_1043 wk_1011 wk_1012 wk_1013 wk_5) rfl rfl rfl (by decide +kernel) ⟨Nat.le_of_ble_eq_true rfl, Nat.le_of_ble_eq_true rfl⟩) ⟨PM.blind, va_recv hK hP (ci := 12) (q0 := 0) rfl rfl, fun U hU hW => ⟨rfl, PM.at hK hE hP hS hU hW⟩⟩ rfl rfl hl.1 rfl (lv_room (Nat.le_of_ble_eq_true rfl)) dX12_either_1 ⟨Nat.le_of_ble_eq_true rfl, Nat.le_of_ble_eq_true rfl⟩) hS (fun q _ h => (freeM hS) q h) (freeM hS) (fun u t H1 locs ht hvm hw hB hz1 hk1 hS => ?_)
  unfold BM at hB
  rw [ht] at hB
  obtain ⟨v19299, F19300, rc9⟩ := u
  obtain ⟨hI, hrc, hf19301, hG19302, hw⟩ := hw
  dsimp only at hI hrc hB hf19301 hG19302 hw
  have hF := frCF (by decide) hG19302 hF
  rw [hrc] at hB
  have hP : va_P (dC, dI) classes (wM g c v19299 F19300 rc) H1 := hB
  have hw : ((v 39).toInt ≤ (v19299 39).toInt ∧ (v19299 39).toInt ≤ (v 30).toInt ∧ (v 38).toInt ≤ (v19299 38).toInt ∧ (v19299 38).toInt - (v 38).toInt ≤ (v19299 39).toInt - (v 39).toInt ∧ (v 41).toInt ≤ (v19299 41).toInt ∧ ((v19299 40).toInt < 0 → (v19299 41).toInt = (v 41).toInt)) ∧ keepL (v 37) (F 28) (F 29) (F19300 28) (F19300 29) ∧ ((v19299 40).toInt < 0 → dp (F19300 28) (F19300 29) (bI (v 37)) (v19299 38).toInt.toNat = some (d + 1)) := hw
  have hw_r19298 := hw
  have t19303 : 0 ≤ (v19299 38).toInt ∧ (v19299 38).toInt ≤ 120 := hI.1 38 _ _ rfl
  have t19304 : 0 ≤ (v19299 39).toInt ∧ (v19299 39).toInt ≤ 120 := hI.1 39 _ _ rfl
  have t19305 : 0 ≤ (v19299 41).toInt ∧ (v19299 41).toInt ≤ 8 := hI.1 41 _ _ rfl
  generalize H1 = H at hP hS ⊢
  have hk := hk.tr hw_r19298.2.1
  have hd := hw_r19298.2.2
  refine lv_aload_n hx hb dX12_either_4 rfl (lv_at hl 0 rfl) ?_
  have t19306 : 0 ≤ (v 30).toInt ∧ (v 30).toInt ≤ 120 := by have h9 := hI.1 30 _ _ rfl; rw [show v19299 30 = v 30 from hf19301 30 (by decide)] at h9; exact h9
  have t19307 : 0 ≤ (v19299 39).toInt ∧ (v19299 39).toInt ≤ 120 := hI.1 39 _ _ rfl
  refine va_calli (va_runV (As := []) (rest := []) ⟨hx, hb, hml, hown, hwd⟩ (c_X12_look l dC dI g c adK adV v19299 F19300 rc H.size  hg hI ) (cwV 0 hwd (gV wk_1017 wk_1014 wk_1015 wk_1016 wk_5) rfl rfl rfl (by decide +kernel) ⟨Nat.le_of_ble_eq_true rfl, Nat.le_of_ble_eq_true rfl⟩) ⟨PM.blind, va_recv hK hP (ci := 12) (q0 := 0) rfl rfl, fun U hU hW => ⟨rfl, PM.at hK hE hP hS hU hW⟩⟩ rfl rfl hl.1 rfl (lv_room (Nat.le_of_ble_eq_true rfl)) dX12_either_5 ⟨Nat.le_of_ble_eq_true rfl, Nat.le_of_ble_eq_true rfl⟩) hS (fun q _ h => (freeM hS) q h) (freeM hS) (fun r19308 u t H1 locs ht hvm hw hB hz1 hk1 hS => ?_)
  unfold BM at hB
  rw [ht] at hB
  have hP : va_P (dC, dI) classes (wM g c v19299 F19300 rc) H1 := hB
  have hw : r19308.toInt = lkM (v19299 39) (v19299 30) (F19300 24) ∧ ((v19299 39).toInt < (v19299 30).toInt ∨ r19308.toInt = -1) := hw
  rw [show v19299 30 = v 30 from hf19301 30 (by decide)] at hw
  rw [hF 24 (by decide)] at hw
  have hw_r19308 := hw
  generalize H1 = H at hP hS ⊢
  refine lv_istore_n (lv' := [(1, .int r19308), (0, .ref (g 0))]) hx hb dX12_either_8 rfl hl (by decide) rfl (fun ls hl => ?_)
  refine lv_aload_n hx hb dX12_either_9 rfl (lv_at hl 1 rfl) ?_
  refine va_get (D := (dC, dI)) (ci := 12) (v := .int (v19299 40)) (C := RX12) (T := TX12) (N := 63) hx hb hwd inA_X12 hown hK hP 0 rfl rfl 40 (by decide) (hwd _ wk_1005) (fun _ h9 => h9) rfl dX12_either_10 ?_
  refine lv_if_ge (tgt := 54) hx hb dX12_either_13 (by decide) (fun c19309 => ?_) (fun c19309 => ?_)
  · skip
    have t19310 := cv_le (a := 0) (by decide) (b := (v19299 40).toInt) rfl c19309
    refine lv_aload_n hx hb dX12_either_54 rfl (lv_at hl 1 rfl) ?_
    refine va_get (D := (dC, dI)) (ci := 12) (v := .int (v19299 40)) (C := RX12) (T := TX12) (N := 63) hx hb hwd inA_X12 hown hK hP 0 rfl rfl 40 (by decide) (hwd _ wk_1005) (fun _ h9 => h9) rfl dX12_either_55 ?_
    refine lv_if_ge (tgt := 70) hx hb dX12_either_58 (by decide) (fun c19311 => ?_) (fun c19311 => ?_)
    · skip
      have t19312 := cv_le (a := 0) (by decide) (b := (v19299 40).toInt) rfl c19311
      have hP9 : va_P (dC, dI) classes (wM g c v19299 F19300 rc) H := hP
      exact W.vret hx hb hr (fun t ht hW => ⟨⟨(v19299, F19300, rc), rfl, ⟨hI, rfl, (frC (by decide) hf19301 (fun _ _ => rfl)), hF, (by show ((v 39).toInt ≤ (v19299 39).toInt ∧ (v19299 39).toInt ≤ (v 30).toInt ∧ (v 38).toInt ≤ (v19299 38).toInt ∧ (v19299 38).toInt - (v 38).toInt ≤ (v19299 39).toInt - (v 39).toInt ∧ (v 41).toInt ≤ (v19299 41).toInt ∧ ((v19299 40).toInt < 0 → (v19299 41).toInt = (v 41).toInt)) ∧ keepL (v 37) (F 28) (F 29) (F19300 28) (F19300 29) ∧ ((v19299 40).toInt < 0 → dp (F19300 28) (F19300 29) (bI (v 37)) (v19299 38).toInt.toNat = some (d + 1)); exact ⟨by omega, hk, fun hf => (hd (by omega)).trans (congrArg some (by omega))⟩)⟩, (by show va_P _ _ _ t.heap; rw [ht]; exact hP9)⟩, hS.F ht⟩) hS.2.2 dX12_either_70
    · skip
      have t19313 := cv_nle (a := 0) (by decide) (b := (v19299 40).toInt) rfl c19311
      refine lv_aload_n hx hb dX12_either_61 rfl (lv_at hl 1 rfl) ?_
      have t19314 : 0 ≤ (v 30).toInt ∧ (v 30).toInt ≤ 120 := by have h9 := hI.1 30 _ _ rfl; rw [show v19299 30 = v 30 from hf19301 30 (by decide)] at h9; exact h9
      have t19315 : 0 ≤ (v19299 39).toInt ∧ (v19299 39).toInt ≤ 120 := hI.1 39 _ _ rfl
      refine va_calli (va_runV (As := []) (rest := []) ⟨hx, hb, hml, hown, hwd⟩ (c_X12_look l dC dI g c adK adV v19299 F19300 rc H.size  hg hI ) (cwV 0 hwd (gV wk_1017 wk_1014 wk_1015 wk_1016 wk_5) rfl rfl rfl (by decide +kernel) ⟨Nat.le_of_ble_eq_true rfl, Nat.le_of_ble_eq_true rfl⟩) ⟨PM.blind, va_recv hK hP (ci := 12) (q0 := 0) rfl rfl, fun U hU hW => ⟨rfl, PM.at hK hE hP hS hU hW⟩⟩ rfl rfl hl.1 rfl (lv_room (Nat.le_of_ble_eq_true rfl)) dX12_either_62 ⟨Nat.le_of_ble_eq_true rfl, Nat.le_of_ble_eq_true rfl⟩) hS (fun q _ h => (freeM hS) q h) (freeM hS) (fun r19316 u t H1 locs ht hvm hw hB hz1 hk1 hS => ?_)
      unfold BM at hB
      rw [ht] at hB
      have hP : va_P (dC, dI) classes (wM g c v19299 F19300 rc) H1 := hB
      have hw : r19316.toInt = lkM (v19299 39) (v19299 30) (F19300 24) ∧ ((v19299 39).toInt < (v19299 30).toInt ∨ r19316.toInt = -1) := hw
      rw [show v19299 30 = v 30 from hf19301 30 (by decide)] at hw
      rw [hF 24 (by decide)] at hw
      have hw_r19316 := hw
      generalize H1 = H at hP hS ⊢
      refine lv_bipush (v := 63) hx hb dX12_either_65 (by decide) ?_
      refine lv_icmp_eq (tgt := 71) hx hb dX12_either_67 (by decide) (fun c19317 => ?_) (fun c19317 => ?_)
      · skip
        have t19318 := cv_eq (a := r19316.toInt) rfl (b := 63) (by decide) c19317
        refine lv_aload_n hx hb dX12_either_71 rfl (lv_at hl 1 rfl) ?_
        have t19319 : 0 ≤ (v19299 39).toInt ∧ (v19299 39).toInt ≤ 120 := hI.1 39 _ _ rfl
        have t19320 : 0 ≤ (v19299 41).toInt ∧ (v19299 41).toInt ≤ 8 := hI.1 41 _ _ rfl
        refine va_calli (va_runV (As := []) (rest := []) ⟨hx, hb, hml, hown, hwd⟩ (c_X12_opens l dC dI g c adK adV v19299 F19300 rc H.size  hg hI (by have h9 : v19299 39 = v19299 39 := rfl; (try rw [h9]); clear h9; have h9 : v19299 30 = v 30 := hf19301 30 (by decide); (try rw [h9]); clear h9; omega)) (cwV 0 hwd (gV wk_1025 wk_1022 wk_1023 wk_1024 wk_5) rfl rfl rfl (by decide +kernel) ⟨Nat.le_of_ble_eq_true rfl, Nat.le_of_ble_eq_true rfl⟩) ⟨PM.blind, va_recv hK hP (ci := 12) (q0 := 0) rfl rfl, fun U hU hW => ⟨rfl, PM.at hK hE hP hS hU hW⟩⟩ rfl rfl hl.1 rfl (lv_room (Nat.le_of_ble_eq_true rfl)) dX12_either_72 ⟨Nat.le_of_ble_eq_true rfl, Nat.le_of_ble_eq_true rfl⟩) hS (fun q _ h => (freeM hS) q h) (freeM hS) (fun r19321 u t H1 locs ht hvm hw hB hz1 hk1 hS => ?_)
        unfold BM at hB
        rw [ht] at hB
        obtain ⟨v19322, F19323, rc9⟩ := u
        obtain ⟨hI, hrc, hf19324, hG19325, hw⟩ := hw
        dsimp only at hI hrc hB hf19324 hG19325 hw
        have hF := frCF (by decide) hG19325 hF
        rw [hrc] at hB
        have hP : va_P (dC, dI) classes (wM g c v19322 F19323 rc) H1 := hB
        have hw : (r19321.toInt = 1 ∧ (v19299 41).toInt < 8 ∧ (v19322 41).toInt = (v19299 41).toInt + 1 ∧ (v19322 39).toInt = (v19299 39).toInt + 1 ∧ (v19322 40).toInt = (v19299 40).toInt) ∨ (r19321.toInt = 0 ∧ (v19299 41).toInt = 8 ∧ 0 ≤ (v19322 40).toInt ∧ (v19322 41).toInt = (v19299 41).toInt ∧ (v19322 39).toInt = (v19299 39).toInt) := hw
        have hw_r19321 := hw
        have t19326 : 0 ≤ (v19322 39).toInt ∧ (v19322 39).toInt ≤ 120 := hI.1 39 _ _ rfl
        have t19327 : 0 ≤ (v19322 41).toInt ∧ (v19322 41).toInt ≤ 8 := hI.1 41 _ _ rfl
        generalize H1 = H at hP hS ⊢
        have hk : keepL (v 37) (F 28) (F 29) (F19323 28) (F19323 29) := by rw [hG19325 28 (by decide), hG19325 29 (by decide)]; exact hk
        have hd : (v19322 40).toInt < 0 → dp (F19323 28) (F19323 29) (bI (v 37)) (v19299 38).toInt.toNat = some (d + 1) := fun hf => (by rw [hG19325 28 (by decide), hG19325 29 (by decide)]; exact hd (by omega))
        refine lv_if_ne (tgt := 79) hx hb dX12_either_75 (by decide) (fun c19328 => ?_) (fun c19328 => ?_)
        · skip
          have t19329 := cv_ne (a := r19321.toInt) rfl (b := 0) (by decide) c19328
          refine lv_aload_n hx hb dX12_either_79 rfl (lv_at hl 1 rfl) ?_
          have t19330 : 0 ≤ (v 30).toInt ∧ (v 30).toInt ≤ 120 := by have h9 := hI.1 30 _ _ rfl; rw [show v19322 30 = v 30 from (hf19324 30 (by decide)).trans (hf19301 30 (by decide))] at h9; exact h9
          have t19331 : 0 ≤ (v 37).toInt ∧ (v 37).toInt ≤ 9 := by have h9 := hI.1 37 _ _ rfl; rw [show v19322 37 = v 37 from (hf19324 37 (by decide)).trans (hf19301 37 (by decide))] at h9; exact h9
          have t19332 : 0 ≤ (v19299 38).toInt ∧ (v19299 38).toInt ≤ 120 := by have h9 := hI.1 38 _ _ rfl; rw [show v19322 38 = v19299 38 from hf19324 38 (by decide)] at h9; exact h9
          have t19333 : 0 ≤ (v19322 39).toInt ∧ (v19322 39).toInt ≤ 120 := hI.1 39 _ _ rfl
          have t19334 : 0 ≤ (v19322 41).toInt ∧ (v19322 41).toInt ≤ 8 := hI.1 41 _ _ rfl
          refine va_callv (va_runV (As := []) (rest := []) ⟨hx, hb, hml, hown, hwd⟩ (c_X12_either_4 l dC dI g c adK adV v19322 F19323 rc H.size  (d + 1) hg hI (by have h9 : v19322 38 = v19299 38 := hf19324 38 (by decide); (try rw [h9]); clear h9; have h9 : v19322 39 = v19322 39 := rfl; (try rw [h9]); clear h9; have h9 : v19322 30 = v 30 := (hf19324 30 (by decide)).trans (hf19301 30 (by decide)); (try rw [h9]); clear h9; have h9 : v19322 40 = v19322 40 := rfl; (try rw [h9]); clear h9; have h9 : v19322 41 = v19322 41 := rfl; (try rw [h9]); clear h9; omega) (by have h9 : v19322 37 = (v 37) := (hf19324 37 (by decide)).trans (hf19301 37 (by decide)); have h8 : v19322 38 = (v19299 38) := hf19324 38 (by decide); (try rw [h9]); (try rw [h8]); exact hd (by omega))) (cwV 0 hwd (gV wk_1010 wk_1007 wk_1008 wk_1009 wk_5) rfl rfl rfl (by decide +kernel) ⟨Nat.le_of_ble_eq_true rfl, Nat.le_of_ble_eq_true rfl⟩) ⟨PM.blind, va_recv hK hP (ci := 12) (q0 := 0) rfl rfl, fun U hU hW => ⟨rfl, PM.at hK hE hP hS hU hW⟩⟩ rfl rfl hl.1 rfl (lv_room (Nat.le_of_ble_eq_true rfl)) dX12_either_80 ⟨Nat.le_of_ble_eq_true rfl, Nat.le_of_ble_eq_true rfl⟩) hS (fun q _ h => (freeM hS) q h) (freeM hS) (fun u t H1 locs ht hvm hw hB hz1 hk1 hS => ?_)
          unfold BM at hB
          rw [ht] at hB
          obtain ⟨v19336, F19337, rc9⟩ := u
          obtain ⟨hI, hrc, hf19338, hG19339, hw⟩ := hw
          dsimp only at hI hrc hB hf19338 hG19339 hw
          have hF := frCF (by decide) hG19339 hF
          rw [hrc] at hB
          have hP : va_P (dC, dI) classes (wM g c v19336 F19337 rc) H1 := hB
          have hw : ((v19322 39).toInt ≤ (v19336 39).toInt ∧ (v19336 39).toInt ≤ (v19322 30).toInt ∧ (v19322 38).toInt ≤ (v19336 38).toInt ∧ (v19336 38).toInt - (v19322 38).toInt ≤ (v19336 39).toInt - (v19322 39).toInt ∧ (v19322 41).toInt ≤ (v19336 41).toInt ∧ ((v19336 40).toInt < 0 → (v19336 41).toInt = (v19322 41).toInt)) ∧ keepL (v19322 37) (F19323 28) (F19323 29) (F19337 28) (F19337 29) ∧ ((v19336 40).toInt < 0 → dp (F19337 28) (F19337 29) (bI (v19322 37)) (v19336 38).toInt.toNat = some ((d + 1) + 1)) := hw
          rw [show v19322 30 = v 30 from (hf19324 30 (by decide)).trans (hf19301 30 (by decide))] at hw
          rw [show v19322 38 = v19299 38 from hf19324 38 (by decide)] at hw
          rw [show v19322 37 = v 37 from (hf19324 37 (by decide)).trans (hf19301 37 (by decide))] at hw
          have hw_r19335 := hw
          have t19340 : 0 ≤ (v19336 38).toInt ∧ (v19336 38).toInt ≤ 120 := hI.1 38 _ _ rfl
          have t19341 : 0 ≤ (v19336 39).toInt ∧ (v19336 39).toInt ≤ 120 := hI.1 39 _ _ rfl
          have t19342 : 0 ≤ (v19336 41).toInt ∧ (v19336 41).toInt ≤ 8 := hI.1 41 _ _ rfl
          generalize H1 = H at hP hS ⊢
          have hk := hk.tr hw_r19335.2.1
          have hd := hw_r19335.2.2
          refine lv_aload_n hx hb dX12_either_83 rfl (lv_at hl 1 rfl) ?_
          refine va_get (D := (dC, dI)) (ci := 12) (v := .int (v19336 40)) (C := RX12) (T := TX12) (N := 63) hx hb hwd inA_X12 hown hK hP 0 rfl rfl 40 (by decide) (hwd _ wk_1005) (fun _ h9 => h9) rfl dX12_either_84 ?_
          refine lv_if_lt (tgt := 91) hx hb dX12_either_87 (by decide) (fun c19343 => ?_) (fun c19343 => ?_)
          · skip
            have t19344 := cv_lt (a := (v19336 40).toInt) rfl (b := 0) (by decide) c19343
            refine lv_aload_n hx hb dX12_either_91 rfl (lv_at hl 1 rfl) ?_
            have t19345 : 0 ≤ (v 30).toInt ∧ (v 30).toInt ≤ 120 := by have h9 := hI.1 30 _ _ rfl; rw [show v19336 30 = v 30 from (hf19338 30 (by decide)).trans ((hf19324 30 (by decide)).trans (hf19301 30 (by decide)))] at h9; exact h9
            have t19346 : 0 ≤ (v19336 39).toInt ∧ (v19336 39).toInt ≤ 120 := hI.1 39 _ _ rfl
            refine va_calli (va_runV (As := []) (rest := []) ⟨hx, hb, hml, hown, hwd⟩ (c_X12_look l dC dI g c adK adV v19336 F19337 rc H.size  hg hI ) (cwV 0 hwd (gV wk_1017 wk_1014 wk_1015 wk_1016 wk_5) rfl rfl rfl (by decide +kernel) ⟨Nat.le_of_ble_eq_true rfl, Nat.le_of_ble_eq_true rfl⟩) ⟨PM.blind, va_recv hK hP (ci := 12) (q0 := 0) rfl rfl, fun U hU hW => ⟨rfl, PM.at hK hE hP hS hU hW⟩⟩ rfl rfl hl.1 rfl (lv_room (Nat.le_of_ble_eq_true rfl)) dX12_either_92 ⟨Nat.le_of_ble_eq_true rfl, Nat.le_of_ble_eq_true rfl⟩) hS (fun q _ h => (freeM hS) q h) (freeM hS) (fun r19347 u t H1 locs ht hvm hw hB hz1 hk1 hS => ?_)
            unfold BM at hB
            rw [ht] at hB
            have hP : va_P (dC, dI) classes (wM g c v19336 F19337 rc) H1 := hB
            have hw : r19347.toInt = lkM (v19336 39) (v19336 30) (F19337 24) ∧ ((v19336 39).toInt < (v19336 30).toInt ∨ r19347.toInt = -1) := hw
            rw [show v19336 30 = v 30 from (hf19338 30 (by decide)).trans ((hf19324 30 (by decide)).trans (hf19301 30 (by decide)))] at hw
            rw [hF 24 (by decide)] at hw
            have hw_r19347 := hw
            generalize H1 = H at hP hS ⊢
            refine lv_bipush (v := 58) hx hb dX12_either_95 (by decide) ?_
            refine lv_icmp_eq (tgt := 105) hx hb dX12_either_97 (by decide) (fun c19348 => ?_) (fun c19348 => ?_)
            · skip
              have t19349 := cv_eq (a := r19347.toInt) rfl (b := 58) (by decide) c19348
              refine lv_aload_n hx hb dX12_either_105 rfl (lv_at hl 1 rfl) ?_
              refine lv_dup hx hb dX12_either_106 rfl ?_
              refine va_get (D := (dC, dI)) (ci := 12) (v := .int (v19336 39)) (C := RX12) (T := TX12) (N := 63) hx hb hwd inA_X12 hown hK hP 0 rfl rfl 39 (by decide) (hwd _ wk_1004) (fun _ h9 => h9) rfl dX12_either_107 ?_
              have t19350 : 0 ≤ (v19336 39).toInt ∧ (v19336 39).toInt ≤ 120 := hI.1 39 _ _ rfl
              refine lv_iconst (v := 1) hx hb dX12_either_110 (by decide) ?_
              refine lv_iadd hx hb dX12_either_111 ?_
              refine lv_topi (fun z19351 e19352 => ?_)
              try (have t19353 := tadd e19352 (a := (v19336 39).toInt) rfl (b := 1) (by decide) (by omega))
              refine va_put (D := (dC, dI)) (ci := 12) (v := .int z19351) (ty := .int) (C := RX12) (T := TX12) (N := 63) (fs := fsM_0 g v19336 rc) hx hb hwd inA_X12 tyX12 tyX12_ok nmX12 hown hK hP (DM hg) hS 0 rfl rfl 39 (by decide) (hwd _ wk_1004) (fun _ h9 => h9) rfl (by decide +kernel) rfl rfl (Nat.le_of_ble_eq_true rfl) dX12_either_112 (fun H locs hP _ hS => ?_)
              have hP := va_P_eq (pM_39 g c _ _ _ _) hP
              have hI := IM.put hI 39 z19351 rfl (by omega)
              refine lv_aload_n hx hb dX12_either_115 rfl (lv_at hl 1 rfl) ?_
              have t19354 : 0 ≤ (v 30).toInt ∧ (v 30).toInt ≤ 120 := by have h9 := hI.1 30 _ _ rfl; rw [show (va_up v19336 39 z19351) 30 = v 30 from (hf19338 30 (by decide)).trans ((hf19324 30 (by decide)).trans (hf19301 30 (by decide)))] at h9; exact h9
              have t19355 : 0 ≤ (v 37).toInt ∧ (v 37).toInt ≤ 9 := by have h9 := hI.1 37 _ _ rfl; rw [show (va_up v19336 39 z19351) 37 = v 37 from (hf19338 37 (by decide)).trans ((hf19324 37 (by decide)).trans (hf19301 37 (by decide)))] at h9; exact h9
              have t19356 : 0 ≤ (v19336 38).toInt ∧ (v19336 38).toInt ≤ 120 := hI.1 38 _ _ rfl
              have t19357 : 0 ≤ z19351.toInt ∧ z19351.toInt ≤ 120 := hI.1 39 _ _ rfl
              have t19358 : 0 ≤ (v19336 41).toInt ∧ (v19336 41).toInt ≤ 8 := hI.1 41 _ _ rfl
              refine va_callv (va_runV (As := []) (rest := []) ⟨hx, hb, hml, hown, hwd⟩ (c_X12_either_4 l dC dI g c adK adV (va_up v19336 39 z19351) F19337 rc H.size  ((d + 1) + 1) hg hI (by have h9 : (va_up v19336 39 z19351) 38 = v19336 38 := rfl; (try rw [h9]); clear h9; have h9 : (va_up v19336 39 z19351) 39 = z19351 := rfl; (try rw [h9]); clear h9; have h9 : (va_up v19336 39 z19351) 30 = v 30 := (hf19338 30 (by decide)).trans ((hf19324 30 (by decide)).trans (hf19301 30 (by decide))); (try rw [h9]); clear h9; have h9 : (va_up v19336 39 z19351) 40 = v19336 40 := rfl; (try rw [h9]); clear h9; have h9 : (va_up v19336 39 z19351) 41 = v19336 41 := rfl; (try rw [h9]); clear h9; omega) (by have h9 : (va_up v19336 39 z19351) 37 = (v 37) := (hf19338 37 (by decide)).trans ((hf19324 37 (by decide)).trans (hf19301 37 (by decide))); have h8 : (va_up v19336 39 z19351) 38 = (v19336 38) := rfl; (try rw [h9]); (try rw [h8]); exact hd (by omega))) (cwV 0 hwd (gV wk_1010 wk_1007 wk_1008 wk_1009 wk_5) rfl rfl rfl (by decide +kernel) ⟨Nat.le_of_ble_eq_true rfl, Nat.le_of_ble_eq_true rfl⟩) ⟨PM.blind, va_recv hK hP (ci := 12) (q0 := 0) rfl rfl, fun U hU hW => ⟨rfl, PM.at hK hE hP hS hU hW⟩⟩ rfl rfl hl.1 rfl (lv_room (Nat.le_of_ble_eq_true rfl)) dX12_either_116 ⟨Nat.le_of_ble_eq_true rfl, Nat.le_of_ble_eq_true rfl⟩) hS (fun q _ h => (freeM hS) q h) (freeM hS) (fun u t H1 locs ht hvm hw hB hz1 hk1 hS => ?_)
              unfold BM at hB
              rw [ht] at hB
              obtain ⟨v19360, F19361, rc9⟩ := u
              obtain ⟨hI, hrc, hf19362, hG19363, hw⟩ := hw
              dsimp only at hI hrc hB hf19362 hG19363 hw
              have hF := frCF (by decide) hG19363 hF
              rw [hrc] at hB
              have hP : va_P (dC, dI) classes (wM g c v19360 F19361 rc) H1 := hB
              have hw : (z19351.toInt ≤ (v19360 39).toInt ∧ (v19360 39).toInt ≤ ((va_up v19336 39 z19351) 30).toInt ∧ (v19336 38).toInt ≤ (v19360 38).toInt ∧ (v19360 38).toInt - (v19336 38).toInt ≤ (v19360 39).toInt - z19351.toInt ∧ (v19336 41).toInt ≤ (v19360 41).toInt ∧ ((v19360 40).toInt < 0 → (v19360 41).toInt = (v19336 41).toInt)) ∧ keepL ((va_up v19336 39 z19351) 37) (F19337 28) (F19337 29) (F19361 28) (F19361 29) ∧ ((v19360 40).toInt < 0 → dp (F19361 28) (F19361 29) (bI ((va_up v19336 39 z19351) 37)) (v19360 38).toInt.toNat = some (((d + 1) + 1) + 1)) := hw
              rw [show (va_up v19336 39 z19351) 30 = v 30 from (hf19338 30 (by decide)).trans ((hf19324 30 (by decide)).trans (hf19301 30 (by decide)))] at hw
              rw [show (va_up v19336 39 z19351) 37 = v 37 from (hf19338 37 (by decide)).trans ((hf19324 37 (by decide)).trans (hf19301 37 (by decide)))] at hw
              have hw_r19359 := hw
              have t19364 : 0 ≤ (v19360 38).toInt ∧ (v19360 38).toInt ≤ 120 := hI.1 38 _ _ rfl
              have t19365 : 0 ≤ (v19360 39).toInt ∧ (v19360 39).toInt ≤ 120 := hI.1 39 _ _ rfl
              have t19366 : 0 ≤ (v19360 41).toInt ∧ (v19360 41).toInt ≤ 8 := hI.1 41 _ _ rfl
              generalize H1 = H at hP hS ⊢
              have hk := hk.tr hw_r19359.2.1
              have hd := hw_r19359.2.2
              refine lv_aload_n hx hb dX12_either_119 rfl (lv_at hl 1 rfl) ?_
              refine lv_iconst (v := 4) hx hb dX12_either_120 (by decide) ?_
              refine lv_iconst (v := 0) hx hb dX12_either_121 (by decide) ?_
              have t19367 : 0 ≤ (v 37).toInt ∧ (v 37).toInt ≤ 9 := by have h9 := hI.1 37 _ _ rfl; rw [show v19360 37 = v 37 from (hf19362 37 (by decide)).trans ((hf19338 37 (by decide)).trans ((hf19324 37 (by decide)).trans (hf19301 37 (by decide))))] at h9; exact h9
              have t19368 : 0 ≤ (v19360 38).toInt ∧ (v19360 38).toInt ≤ 120 := hI.1 38 _ _ rfl
              refine va_callv (va_runV (As := [.int 4, .int 0]) (rest := []) ⟨hx, hb, hml, hown, hwd⟩ (c_X12_lay l dC dI g c adK adV v19360 F19361 rc H.size 4 0 hg hI (by have h9 : v19360 38 = v19360 38 := rfl; rw [h9]; omega)) (cwV 2 hwd (gV wk_1021 wk_1018 wk_1019 wk_1020 wk_5) rfl rfl rfl (by decide +kernel) ⟨Nat.le_of_ble_eq_true rfl, Nat.le_of_ble_eq_true rfl⟩) ⟨PM.blind, va_recv hK hP (ci := 12) (q0 := 0) rfl rfl, fun U hU hW => ⟨rfl, PM.at hK hE hP hS hU hW⟩⟩ rfl rfl hl.1 rfl (lv_room (Nat.le_of_ble_eq_true rfl)) dX12_either_122 ⟨Nat.le_of_ble_eq_true rfl, Nat.le_of_ble_eq_true rfl⟩) hS (fun q _ h => (freeM hS) q h) (freeM hS) (fun u t H1 locs ht hvm hw hB hz1 hk1 hS => ?_)
              unfold BM at hB
              rw [ht] at hB
              obtain ⟨v19370, F19371, rc9⟩ := u
              obtain ⟨hI, hrc, hf19372, hG19373, hw⟩ := hw
              dsimp only at hI hrc hB hf19372 hG19373 hw
              have hF := frCF (by decide) hG19373 hF
              rw [hrc] at hB
              have hP : va_P (dC, dI) classes (wM g c v19370 F19371 rc) H1 := hB
              have hw : (v19370 38).toInt = (v19360 38).toInt + 1 ∧ keepL (v19360 37) (F19361 28) (F19361 29) (F19371 28) (F19371 29) ∧ dp (F19371 28) (F19371 29) (bI (v19360 37)) ((v19360 38).toInt.toNat + 1) = dpS (dp (F19361 28) (F19361 29) (bI (v19360 37)) (v19360 38).toInt.toNat) (4 : Int32) (0 : Int32) := hw
              rw [show v19360 37 = v 37 from (hf19362 37 (by decide)).trans ((hf19338 37 (by decide)).trans ((hf19324 37 (by decide)).trans (hf19301 37 (by decide))))] at hw
              have hw_r19369 := hw
              have t19374 : 0 ≤ (v19370 38).toInt ∧ (v19370 38).toInt ≤ 120 := hI.1 38 _ _ rfl
              have k19375 : (4 : Int32).toInt = 4 := by decide
              have k19376 : (0 : Int32).toInt = 0 := by decide
              generalize H1 = H at hP hS ⊢
              have hk := hk.tr hw_r19369.2.1
              have hd : (v19360 40).toInt < 0 → dp (F19371 28) (F19371 29) (bI (v 37)) (v19370 38).toInt.toNat = some ((((d + 1) + 1) + 1) - 2) := fun hf => (by have e9 : (v19370 38).toInt.toNat = (v19360 38).toInt.toNat + 1 := (by omega); rw [e9, hw_r19369.2.2, hd hf]; exact dpS_4 (by decide) (by omega))
              refine lv_aload_n hx hb dX12_either_125 rfl (lv_at hl 1 rfl) ?_
              refine lv_dup hx hb dX12_either_126 rfl ?_
              refine va_get (D := (dC, dI)) (ci := 12) (v := .int (v19370 41)) (C := RX12) (T := TX12) (N := 63) hx hb hwd inA_X12 hown hK hP 0 rfl rfl 41 (by decide) (hwd _ wk_1006) (fun _ h9 => h9) rfl dX12_either_127 ?_
              refine my_top (v := v19360 41) (hf19372 41 (by decide)) ?_
              have t19377 : 0 ≤ (v19360 41).toInt ∧ (v19360 41).toInt ≤ 8 := by have h9 := hI.1 41 _ _ rfl; rw [show v19370 41 = v19360 41 from hf19372 41 (by decide)] at h9; exact h9
              refine lv_iconst (v := 1) hx hb dX12_either_130 (by decide) ?_
              refine lv_isub hx hb dX12_either_131 ?_
              refine lv_topi (fun z19378 e19379 => ?_)
              try (have t19380 := tsub e19379 (a := (v19360 41).toInt) rfl (b := 1) (by decide) (by omega))
              refine va_put (D := (dC, dI)) (ci := 12) (v := .int z19378) (ty := .int) (C := RX12) (T := TX12) (N := 63) (fs := fsM_0 g v19370 rc) hx hb hwd inA_X12 tyX12 tyX12_ok nmX12 hown hK hP (DM hg) hS 0 rfl rfl 41 (by decide) (hwd _ wk_1006) (fun _ h9 => h9) rfl (by decide +kernel) rfl rfl (Nat.le_of_ble_eq_true rfl) dX12_either_132 (fun H locs hP _ hS => ?_)
              have hP := va_P_eq (pM_41 g c _ _ _ _) hP
              have hI := IM.put hI 41 z19378 rfl (by omega)
              have hP9 : va_P (dC, dI) classes (wM g c (va_up v19370 41 z19378) F19371 rc) H := hP
              exact W.vret hx hb hr (fun t ht hW => ⟨⟨((va_up v19370 41 z19378), F19371, rc), rfl, ⟨hI, rfl, (frU (by decide) (frC (by decide) hf19372 (frC (by decide) hf19362 (frU (by decide) (frC (by decide) hf19338 (frC (by decide) hf19324 (frC (by decide) hf19301 (fun _ _ => rfl)))))))), hF, (by show ((v 39).toInt ≤ ((va_up v19370 41 z19378) 39).toInt ∧ ((va_up v19370 41 z19378) 39).toInt ≤ (v 30).toInt ∧ (v 38).toInt ≤ (v19370 38).toInt ∧ (v19370 38).toInt - (v 38).toInt ≤ ((va_up v19370 41 z19378) 39).toInt - (v 39).toInt ∧ (v 41).toInt ≤ z19378.toInt ∧ (((va_up v19370 41 z19378) 40).toInt < 0 → z19378.toInt = (v 41).toInt)) ∧ keepL (v 37) (F 28) (F 29) (F19371 28) (F19371 29) ∧ (((va_up v19370 41 z19378) 40).toInt < 0 → dp (F19371 28) (F19371 29) (bI (v 37)) (v19370 38).toInt.toNat = some (d + 1)); rw [show (va_up v19370 41 z19378) 39 = v19360 39 from hf19372 39 (by decide)]; rw [show (va_up v19370 41 z19378) 40 = v19360 40 from hf19372 40 (by decide)]; exact ⟨by omega, hk, fun hf => (hd (by omega)).trans (congrArg some (by omega))⟩)⟩, (by show va_P _ _ _ t.heap; rw [ht]; exact hP9)⟩, hS.F ht⟩) hS.2.2 dX12_either_135
            · skip
              have t19381 := cv_ne (a := r19347.toInt) rfl (b := 58) (by decide) c19348
              refine lv_aload_n hx hb dX12_either_100 rfl (lv_at hl 1 rfl) ?_
              refine va_callv (va_runV (As := []) (rest := []) ⟨hx, hb, hml, hown, hwd⟩ (c_X12_wrong l dC dI g c adK adV v19336 F19337 rc H.size  hg hI ) (cwV 0 hwd (gV wk_1029 wk_1026 wk_1027 wk_1028 wk_5) rfl rfl rfl (by decide +kernel) ⟨Nat.le_of_ble_eq_true rfl, Nat.le_of_ble_eq_true rfl⟩) ⟨PM.blind, va_recv hK hP (ci := 12) (q0 := 0) rfl rfl, fun U hU hW => ⟨rfl, PM.at hK hE hP hS hU hW⟩⟩ rfl rfl hl.1 rfl (lv_room (Nat.le_of_ble_eq_true rfl)) dX12_either_101 ⟨Nat.le_of_ble_eq_true rfl, Nat.le_of_ble_eq_true rfl⟩) hS (fun q _ h => (freeM hS) q h) (freeM hS) (fun u t H1 locs ht hvm hw hB hz1 hk1 hS => ?_)
              unfold BM at hB
              rw [ht] at hB
              obtain ⟨v19383, F19384, rc9⟩ := u
              obtain ⟨hI, hrc, hf19385, hG19386, hw⟩ := hw
              dsimp only at hI hrc hB hf19385 hG19386 hw
              have hF := frCF (by decide) hG19386 hF
              rw [hrc] at hB
              have hP : va_P (dC, dI) classes (wM g c v19383 F19384 rc) H1 := hB
              have hw : 0 ≤ (v19383 40).toInt := hw
              have hw_r19382 := hw
              generalize H1 = H at hP hS ⊢
              have hk : keepL (v 37) (F 28) (F 29) (F19384 28) (F19384 29) := by rw [hG19386 28 (by decide), hG19386 29 (by decide)]; exact hk
              have hd : (v19383 40).toInt < 0 → dp (F19384 28) (F19384 29) (bI (v 37)) (v19336 38).toInt.toNat = some ((d + 1) + 1) := fun hf => (by rw [hG19386 28 (by decide), hG19386 29 (by decide)]; exact hd (by omega))
              have hP9 : va_P (dC, dI) classes (wM g c v19383 F19384 rc) H := hP
              exact W.vret hx hb hr (fun t ht hW => ⟨⟨(v19383, F19384, rc), rfl, ⟨hI, rfl, (frC (by decide) hf19385 (frC (by decide) hf19338 (frC (by decide) hf19324 (frC (by decide) hf19301 (fun _ _ => rfl))))), hF, (by show ((v 39).toInt ≤ (v19383 39).toInt ∧ (v19383 39).toInt ≤ (v 30).toInt ∧ (v 38).toInt ≤ (v19383 38).toInt ∧ (v19383 38).toInt - (v 38).toInt ≤ (v19383 39).toInt - (v 39).toInt ∧ (v 41).toInt ≤ (v19383 41).toInt ∧ ((v19383 40).toInt < 0 → (v19383 41).toInt = (v 41).toInt)) ∧ keepL (v 37) (F 28) (F 29) (F19384 28) (F19384 29) ∧ ((v19383 40).toInt < 0 → dp (F19384 28) (F19384 29) (bI (v 37)) (v19383 38).toInt.toNat = some (d + 1)); rw [show v19383 39 = v19336 39 from hf19385 39 (by decide)]; rw [show v19383 38 = v19336 38 from hf19385 38 (by decide)]; rw [show v19383 41 = v19336 41 from hf19385 41 (by decide)]; exact ⟨by omega, hk, fun hf => (hd (by omega)).trans (congrArg some (by omega))⟩)⟩, (by show va_P _ _ _ t.heap; rw [ht]; exact hP9)⟩, hS.F ht⟩) hS.2.2 dX12_either_104
          · skip
            have t19387 := cv_nlt (a := (v19336 40).toInt) rfl (b := 0) (by decide) c19343
            have hP9 : va_P (dC, dI) classes (wM g c v19336 F19337 rc) H := hP
            exact W.vret hx hb hr (fun t ht hW => ⟨⟨(v19336, F19337, rc), rfl, ⟨hI, rfl, (frC (by decide) hf19338 (frC (by decide) hf19324 (frC (by decide) hf19301 (fun _ _ => rfl)))), hF, (by show ((v 39).toInt ≤ (v19336 39).toInt ∧ (v19336 39).toInt ≤ (v 30).toInt ∧ (v 38).toInt ≤ (v19336 38).toInt ∧ (v19336 38).toInt - (v 38).toInt ≤ (v19336 39).toInt - (v 39).toInt ∧ (v 41).toInt ≤ (v19336 41).toInt ∧ ((v19336 40).toInt < 0 → (v19336 41).toInt = (v 41).toInt)) ∧ keepL (v 37) (F 28) (F 29) (F19337 28) (F19337 29) ∧ ((v19336 40).toInt < 0 → dp (F19337 28) (F19337 29) (bI (v 37)) (v19336 38).toInt.toNat = some (d + 1)); exact ⟨by omega, hk, fun hf => (hd (by omega)).trans (congrArg some (by omega))⟩)⟩, (by show va_P _ _ _ t.heap; rw [ht]; exact hP9)⟩, hS.F ht⟩) hS.2.2 dX12_either_90
        · skip
          have t19388 := cv_eq (a := r19321.toInt) rfl (b := 0) (by decide) c19328
          have hP9 : va_P (dC, dI) classes (wM g c v19322 F19323 rc) H := hP
          exact W.vret hx hb hr (fun t ht hW => ⟨⟨(v19322, F19323, rc), rfl, ⟨hI, rfl, (frC (by decide) hf19324 (frC (by decide) hf19301 (fun _ _ => rfl))), hF, (by show ((v 39).toInt ≤ (v19322 39).toInt ∧ (v19322 39).toInt ≤ (v 30).toInt ∧ (v 38).toInt ≤ (v19322 38).toInt ∧ (v19322 38).toInt - (v 38).toInt ≤ (v19322 39).toInt - (v 39).toInt ∧ (v 41).toInt ≤ (v19322 41).toInt ∧ ((v19322 40).toInt < 0 → (v19322 41).toInt = (v 41).toInt)) ∧ keepL (v 37) (F 28) (F 29) (F19323 28) (F19323 29) ∧ ((v19322 40).toInt < 0 → dp (F19323 28) (F19323 29) (bI (v 37)) (v19322 38).toInt.toNat = some (d + 1)); rw [show v19322 38 = v19299 38 from hf19324 38 (by decide)]; exact ⟨by omega, hk, fun hf => (hd (by omega)).trans (congrArg some (by omega))⟩)⟩, (by show va_P _ _ _ t.heap; rw [ht]; exact hP9)⟩, hS.F ht⟩) hS.2.2 dX12_either_78
      · skip
        have t19389 := cv_ne (a := r19316.toInt) rfl (b := 63) (by decide) c19317
        have hP9 : va_P (dC, dI) classes (wM g c v19299 F19300 rc) H := hP
        exact W.vret hx hb hr (fun t ht hW => ⟨⟨(v19299, F19300, rc), rfl, ⟨hI, rfl, (frC (by decide) hf19301 (fun _ _ => rfl)), hF, (by show ((v 39).toInt ≤ (v19299 39).toInt ∧ (v19299 39).toInt ≤ (v 30).toInt ∧ (v 38).toInt ≤ (v19299 38).toInt ∧ (v19299 38).toInt - (v 38).toInt ≤ (v19299 39).toInt - (v 39).toInt ∧ (v 41).toInt ≤ (v19299 41).toInt ∧ ((v19299 40).toInt < 0 → (v19299 41).toInt = (v 41).toInt)) ∧ keepL (v 37) (F 28) (F 29) (F19300 28) (F19300 29) ∧ ((v19299 40).toInt < 0 → dp (F19300 28) (F19300 29) (bI (v 37)) (v19299 38).toInt.toNat = some (d + 1)); exact ⟨by omega, hk, fun hf => (hd (by omega)).trans (congrArg some (by omega))⟩)⟩, (by show va_P _ _ _ t.heap; rw [ht]; exact hP9)⟩, hS.F ht⟩) hS.2.2 dX12_either_70
  · skip
    have t19390 := cv_nle (a := 0) (by decide) (b := (v19299 40).toInt) rfl c19309
    refine lv_iload_n hx hb dX12_either_16 rfl (lv_at hl 0 rfl) ?_
    refine lv_bipush (v := 60) hx hb dX12_either_17 (by decide) ?_
    refine lv_icmp_eq (tgt := 34) hx hb dX12_either_19 (by decide) (fun c19391 => ?_) (fun c19391 => ?_)
    · skip
      have t19392 := cv_eq (a := r19308.toInt) rfl (b := 60) (by decide) c19391
      refine lv_aload_n hx hb dX12_either_34 rfl (lv_at hl 1 rfl) ?_
      refine lv_dup hx hb dX12_either_35 rfl ?_
      refine va_get (D := (dC, dI)) (ci := 12) (v := .int (v19299 39)) (C := RX12) (T := TX12) (N := 63) hx hb hwd inA_X12 hown hK hP 0 rfl rfl 39 (by decide) (hwd _ wk_1004) (fun _ h9 => h9) rfl dX12_either_36 ?_
      have t19393 : 0 ≤ (v19299 39).toInt ∧ (v19299 39).toInt ≤ 120 := hI.1 39 _ _ rfl
      refine lv_iconst (v := 1) hx hb dX12_either_39 (by decide) ?_
      refine lv_iadd hx hb dX12_either_40 ?_
      refine lv_topi (fun z19394 e19395 => ?_)
      try (have t19396 := tadd e19395 (a := (v19299 39).toInt) rfl (b := 1) (by decide) (by omega))
      refine va_put (D := (dC, dI)) (ci := 12) (v := .int z19394) (ty := .int) (C := RX12) (T := TX12) (N := 63) (fs := fsM_0 g v19299 rc) hx hb hwd inA_X12 tyX12 tyX12_ok nmX12 hown hK hP (DM hg) hS 0 rfl rfl 39 (by decide) (hwd _ wk_1004) (fun _ h9 => h9) rfl (by decide +kernel) rfl rfl (Nat.le_of_ble_eq_true rfl) dX12_either_41 (fun H locs hP _ hS => ?_)
      have hP := va_P_eq (pM_39 g c _ _ _ _) hP
      have hI := IM.put hI 39 z19394 rfl (by omega)
      refine lv_aload_n hx hb dX12_either_44 rfl (lv_at hl 1 rfl) ?_
      have t19397 : 0 ≤ (v 30).toInt ∧ (v 30).toInt ≤ 120 := by have h9 := hI.1 30 _ _ rfl; rw [show (va_up v19299 39 z19394) 30 = v 30 from hf19301 30 (by decide)] at h9; exact h9
      have t19398 : 0 ≤ (v 37).toInt ∧ (v 37).toInt ≤ 9 := by have h9 := hI.1 37 _ _ rfl; rw [show (va_up v19299 39 z19394) 37 = v 37 from hf19301 37 (by decide)] at h9; exact h9
      have t19399 : 0 ≤ (v19299 38).toInt ∧ (v19299 38).toInt ≤ 120 := hI.1 38 _ _ rfl
      have t19400 : 0 ≤ z19394.toInt ∧ z19394.toInt ≤ 120 := hI.1 39 _ _ rfl
      have t19401 : 0 ≤ (v19299 41).toInt ∧ (v19299 41).toInt ≤ 8 := hI.1 41 _ _ rfl
      refine va_callv (va_runV (As := []) (rest := []) ⟨hx, hb, hml, hown, hwd⟩ (c_X12_sum_3 l dC dI g c adK adV (va_up v19299 39 z19394) F19300 rc H.size  (d + 1) hg hI (by have h9 : (va_up v19299 39 z19394) 38 = v19299 38 := rfl; (try rw [h9]); clear h9; have h9 : (va_up v19299 39 z19394) 39 = z19394 := rfl; (try rw [h9]); clear h9; have h9 : (va_up v19299 39 z19394) 30 = v 30 := hf19301 30 (by decide); (try rw [h9]); clear h9; have h9 : (va_up v19299 39 z19394) 40 = v19299 40 := rfl; (try rw [h9]); clear h9; have h9 : (va_up v19299 39 z19394) 41 = v19299 41 := rfl; (try rw [h9]); clear h9; omega) (by have h9 : (va_up v19299 39 z19394) 37 = (v 37) := hf19301 37 (by decide); have h8 : (va_up v19299 39 z19394) 38 = (v19299 38) := rfl; (try rw [h9]); (try rw [h8]); exact hd (by omega))) (cwV 0 hwd (gV wk_1043 wk_1011 wk_1012 wk_1013 wk_5) rfl rfl rfl (by decide +kernel) ⟨Nat.le_of_ble_eq_true rfl, Nat.le_of_ble_eq_true rfl⟩) ⟨PM.blind, va_recv hK hP (ci := 12) (q0 := 0) rfl rfl, fun U hU hW => ⟨rfl, PM.at hK hE hP hS hU hW⟩⟩ rfl rfl hl.1 rfl (lv_room (Nat.le_of_ble_eq_true rfl)) dX12_either_45 ⟨Nat.le_of_ble_eq_true rfl, Nat.le_of_ble_eq_true rfl⟩) hS (fun q _ h => (freeM hS) q h) (freeM hS) (fun u t H1 locs ht hvm hw hB hz1 hk1 hS => ?_)
      unfold BM at hB
      rw [ht] at hB
      obtain ⟨v19403, F19404, rc9⟩ := u
      obtain ⟨hI, hrc, hf19405, hG19406, hw⟩ := hw
      dsimp only at hI hrc hB hf19405 hG19406 hw
      have hF := frCF (by decide) hG19406 hF
      rw [hrc] at hB
      have hP : va_P (dC, dI) classes (wM g c v19403 F19404 rc) H1 := hB
      have hw : (z19394.toInt ≤ (v19403 39).toInt ∧ (v19403 39).toInt ≤ ((va_up v19299 39 z19394) 30).toInt ∧ (v19299 38).toInt ≤ (v19403 38).toInt ∧ (v19403 38).toInt - (v19299 38).toInt ≤ (v19403 39).toInt - z19394.toInt ∧ (v19299 41).toInt ≤ (v19403 41).toInt ∧ ((v19403 40).toInt < 0 → (v19403 41).toInt = (v19299 41).toInt)) ∧ keepL ((va_up v19299 39 z19394) 37) (F19300 28) (F19300 29) (F19404 28) (F19404 29) ∧ ((v19403 40).toInt < 0 → dp (F19404 28) (F19404 29) (bI ((va_up v19299 39 z19394) 37)) (v19403 38).toInt.toNat = some ((d + 1) + 1)) := hw
      rw [show (va_up v19299 39 z19394) 30 = v 30 from hf19301 30 (by decide)] at hw
      rw [show (va_up v19299 39 z19394) 37 = v 37 from hf19301 37 (by decide)] at hw
      have hw_r19402 := hw
      have t19407 : 0 ≤ (v19403 38).toInt ∧ (v19403 38).toInt ≤ 120 := hI.1 38 _ _ rfl
      have t19408 : 0 ≤ (v19403 39).toInt ∧ (v19403 39).toInt ≤ 120 := hI.1 39 _ _ rfl
      have t19409 : 0 ≤ (v19403 41).toInt ∧ (v19403 41).toInt ≤ 8 := hI.1 41 _ _ rfl
      generalize H1 = H at hP hS ⊢
      have hk := hk.tr hw_r19402.2.1
      have hd := hw_r19402.2.2
      refine lv_aload_n hx hb dX12_either_48 rfl (lv_at hl 1 rfl) ?_
      refine lv_iload_n hx hb dX12_either_49 rfl (lv_at hl 0 rfl) ?_
      refine lv_iconst (v := 0) hx hb dX12_either_50 (by decide) ?_
      have t19410 : 0 ≤ (v 37).toInt ∧ (v 37).toInt ≤ 9 := by have h9 := hI.1 37 _ _ rfl; rw [show v19403 37 = v 37 from (hf19405 37 (by decide)).trans (hf19301 37 (by decide))] at h9; exact h9
      have t19411 : 0 ≤ (v19403 38).toInt ∧ (v19403 38).toInt ≤ 120 := hI.1 38 _ _ rfl
      refine va_callv (va_runV (As := [.int r19308, .int 0]) (rest := []) ⟨hx, hb, hml, hown, hwd⟩ (c_X12_lay l dC dI g c adK adV v19403 F19404 rc H.size r19308 0 hg hI (by have h9 : v19403 38 = v19403 38 := rfl; rw [h9]; omega)) (cwV 2 hwd (gV wk_1021 wk_1018 wk_1019 wk_1020 wk_5) rfl rfl rfl (by decide +kernel) ⟨Nat.le_of_ble_eq_true rfl, Nat.le_of_ble_eq_true rfl⟩) ⟨PM.blind, va_recv hK hP (ci := 12) (q0 := 0) rfl rfl, fun U hU hW => ⟨rfl, PM.at hK hE hP hS hU hW⟩⟩ rfl rfl hl.1 rfl (lv_room (Nat.le_of_ble_eq_true rfl)) dX12_either_51 ⟨Nat.le_of_ble_eq_true rfl, Nat.le_of_ble_eq_true rfl⟩) hS (fun q _ h => (freeM hS) q h) (freeM hS) (fun u t H1 locs ht hvm hw hB hz1 hk1 hS => ?_)
      unfold BM at hB
      rw [ht] at hB
      obtain ⟨v19413, F19414, rc9⟩ := u
      obtain ⟨hI, hrc, hf19415, hG19416, hw⟩ := hw
      dsimp only at hI hrc hB hf19415 hG19416 hw
      have hF := frCF (by decide) hG19416 hF
      rw [hrc] at hB
      have hP : va_P (dC, dI) classes (wM g c v19413 F19414 rc) H1 := hB
      have hw : (v19413 38).toInt = (v19403 38).toInt + 1 ∧ keepL (v19403 37) (F19404 28) (F19404 29) (F19414 28) (F19414 29) ∧ dp (F19414 28) (F19414 29) (bI (v19403 37)) ((v19403 38).toInt.toNat + 1) = dpS (dp (F19404 28) (F19404 29) (bI (v19403 37)) (v19403 38).toInt.toNat) r19308 (0 : Int32) := hw
      rw [show v19403 37 = v 37 from (hf19405 37 (by decide)).trans (hf19301 37 (by decide))] at hw
      have hw_r19412 := hw
      have t19417 : 0 ≤ (v19413 38).toInt ∧ (v19413 38).toInt ≤ 120 := hI.1 38 _ _ rfl
      have k19418 : (0 : Int32).toInt = 0 := by decide
      generalize H1 = H at hP hS ⊢
      have hk := hk.tr hw_r19412.2.1
      have hd : (v19403 40).toInt < 0 → dp (F19414 28) (F19414 29) (bI (v 37)) (v19413 38).toInt.toNat = some (((d + 1) + 1) - 1) := fun hf => (by have e9 : (v19413 38).toInt.toNat = (v19403 38).toInt.toNat + 1 := (by omega); rw [e9, hw_r19412.2.2, hd hf]; exact dpS_5 (by omega) (by omega) (by omega) (by omega) (by omega))
      refine lv_aload_n hx hb dX12_either_54 rfl (lv_at hl 1 rfl) ?_
      refine va_get (D := (dC, dI)) (ci := 12) (v := .int (v19413 40)) (C := RX12) (T := TX12) (N := 63) hx hb hwd inA_X12 hown hK hP 0 rfl rfl 40 (by decide) (hwd _ wk_1005) (fun _ h9 => h9) rfl dX12_either_55 ?_
      refine my_top (v := v19403 40) (hf19415 40 (by decide)) ?_
      refine lv_if_ge (tgt := 70) hx hb dX12_either_58 (by decide) (fun c19419 => ?_) (fun c19419 => ?_)
      · skip
        have t19420 := cv_le (a := 0) (by decide) (b := (v19403 40).toInt) rfl c19419
        have hP9 : va_P (dC, dI) classes (wM g c v19413 F19414 rc) H := hP
        exact W.vret hx hb hr (fun t ht hW => ⟨⟨(v19413, F19414, rc), rfl, ⟨hI, rfl, (frC (by decide) hf19415 (frC (by decide) hf19405 (frU (by decide) (frC (by decide) hf19301 (fun _ _ => rfl))))), hF, (by show ((v 39).toInt ≤ (v19413 39).toInt ∧ (v19413 39).toInt ≤ (v 30).toInt ∧ (v 38).toInt ≤ (v19413 38).toInt ∧ (v19413 38).toInt - (v 38).toInt ≤ (v19413 39).toInt - (v 39).toInt ∧ (v 41).toInt ≤ (v19413 41).toInt ∧ ((v19413 40).toInt < 0 → (v19413 41).toInt = (v 41).toInt)) ∧ keepL (v 37) (F 28) (F 29) (F19414 28) (F19414 29) ∧ ((v19413 40).toInt < 0 → dp (F19414 28) (F19414 29) (bI (v 37)) (v19413 38).toInt.toNat = some (d + 1)); rw [show v19413 39 = v19403 39 from hf19415 39 (by decide)]; rw [show v19413 41 = v19403 41 from hf19415 41 (by decide)]; rw [show v19413 40 = v19403 40 from hf19415 40 (by decide)]; exact ⟨by omega, hk, fun hf => (hd (by omega)).trans (congrArg some (by omega))⟩)⟩, (by show va_P _ _ _ t.heap; rw [ht]; exact hP9)⟩, hS.F ht⟩) hS.2.2 dX12_either_70
      · skip
        have t19421 := cv_nle (a := 0) (by decide) (b := (v19403 40).toInt) rfl c19419
        refine lv_aload_n hx hb dX12_either_61 rfl (lv_at hl 1 rfl) ?_
        have t19422 : 0 ≤ (v 30).toInt ∧ (v 30).toInt ≤ 120 := by have h9 := hI.1 30 _ _ rfl; rw [show v19413 30 = v 30 from (hf19415 30 (by decide)).trans ((hf19405 30 (by decide)).trans (hf19301 30 (by decide)))] at h9; exact h9
        have t19423 : 0 ≤ (v19403 39).toInt ∧ (v19403 39).toInt ≤ 120 := by have h9 := hI.1 39 _ _ rfl; rw [show v19413 39 = v19403 39 from hf19415 39 (by decide)] at h9; exact h9
        refine va_calli (va_runV (As := []) (rest := []) ⟨hx, hb, hml, hown, hwd⟩ (c_X12_look l dC dI g c adK adV v19413 F19414 rc H.size  hg hI ) (cwV 0 hwd (gV wk_1017 wk_1014 wk_1015 wk_1016 wk_5) rfl rfl rfl (by decide +kernel) ⟨Nat.le_of_ble_eq_true rfl, Nat.le_of_ble_eq_true rfl⟩) ⟨PM.blind, va_recv hK hP (ci := 12) (q0 := 0) rfl rfl, fun U hU hW => ⟨rfl, PM.at hK hE hP hS hU hW⟩⟩ rfl rfl hl.1 rfl (lv_room (Nat.le_of_ble_eq_true rfl)) dX12_either_62 ⟨Nat.le_of_ble_eq_true rfl, Nat.le_of_ble_eq_true rfl⟩) hS (fun q _ h => (freeM hS) q h) (freeM hS) (fun r19424 u t H1 locs ht hvm hw hB hz1 hk1 hS => ?_)
        unfold BM at hB
        rw [ht] at hB
        have hP : va_P (dC, dI) classes (wM g c v19413 F19414 rc) H1 := hB
        have hw : r19424.toInt = lkM (v19413 39) (v19413 30) (F19414 24) ∧ ((v19413 39).toInt < (v19413 30).toInt ∨ r19424.toInt = -1) := hw
        rw [show v19413 39 = v19403 39 from hf19415 39 (by decide)] at hw
        rw [show v19413 30 = v 30 from (hf19415 30 (by decide)).trans ((hf19405 30 (by decide)).trans (hf19301 30 (by decide)))] at hw
        rw [hF 24 (by decide)] at hw
        have hw_r19424 := hw
        generalize H1 = H at hP hS ⊢
        refine lv_bipush (v := 63) hx hb dX12_either_65 (by decide) ?_
        refine lv_icmp_eq (tgt := 71) hx hb dX12_either_67 (by decide) (fun c19425 => ?_) (fun c19425 => ?_)
        · skip
          have t19426 := cv_eq (a := r19424.toInt) rfl (b := 63) (by decide) c19425
          refine lv_aload_n hx hb dX12_either_71 rfl (lv_at hl 1 rfl) ?_
          have t19427 : 0 ≤ (v19403 39).toInt ∧ (v19403 39).toInt ≤ 120 := by have h9 := hI.1 39 _ _ rfl; rw [show v19413 39 = v19403 39 from hf19415 39 (by decide)] at h9; exact h9
          have t19428 : 0 ≤ (v19403 41).toInt ∧ (v19403 41).toInt ≤ 8 := by have h9 := hI.1 41 _ _ rfl; rw [show v19413 41 = v19403 41 from hf19415 41 (by decide)] at h9; exact h9
          refine va_calli (va_runV (As := []) (rest := []) ⟨hx, hb, hml, hown, hwd⟩ (c_X12_opens l dC dI g c adK adV v19413 F19414 rc H.size  hg hI (by have h9 : v19413 39 = v19403 39 := hf19415 39 (by decide); (try rw [h9]); clear h9; have h9 : v19413 30 = v 30 := (hf19415 30 (by decide)).trans ((hf19405 30 (by decide)).trans (hf19301 30 (by decide))); (try rw [h9]); clear h9; omega)) (cwV 0 hwd (gV wk_1025 wk_1022 wk_1023 wk_1024 wk_5) rfl rfl rfl (by decide +kernel) ⟨Nat.le_of_ble_eq_true rfl, Nat.le_of_ble_eq_true rfl⟩) ⟨PM.blind, va_recv hK hP (ci := 12) (q0 := 0) rfl rfl, fun U hU hW => ⟨rfl, PM.at hK hE hP hS hU hW⟩⟩ rfl rfl hl.1 rfl (lv_room (Nat.le_of_ble_eq_true rfl)) dX12_either_72 ⟨Nat.le_of_ble_eq_true rfl, Nat.le_of_ble_eq_true rfl⟩) hS (fun q _ h => (freeM hS) q h) (freeM hS) (fun r19429 u t H1 locs ht hvm hw hB hz1 hk1 hS => ?_)
          unfold BM at hB
          rw [ht] at hB
          obtain ⟨v19430, F19431, rc9⟩ := u
          obtain ⟨hI, hrc, hf19432, hG19433, hw⟩ := hw
          dsimp only at hI hrc hB hf19432 hG19433 hw
          have hF := frCF (by decide) hG19433 hF
          rw [hrc] at hB
          have hP : va_P (dC, dI) classes (wM g c v19430 F19431 rc) H1 := hB
          have hw : (r19429.toInt = 1 ∧ (v19413 41).toInt < 8 ∧ (v19430 41).toInt = (v19413 41).toInt + 1 ∧ (v19430 39).toInt = (v19413 39).toInt + 1 ∧ (v19430 40).toInt = (v19413 40).toInt) ∨ (r19429.toInt = 0 ∧ (v19413 41).toInt = 8 ∧ 0 ≤ (v19430 40).toInt ∧ (v19430 41).toInt = (v19413 41).toInt ∧ (v19430 39).toInt = (v19413 39).toInt) := hw
          rw [show v19413 41 = v19403 41 from hf19415 41 (by decide)] at hw
          rw [show v19413 39 = v19403 39 from hf19415 39 (by decide)] at hw
          rw [show v19413 40 = v19403 40 from hf19415 40 (by decide)] at hw
          have hw_r19429 := hw
          have t19434 : 0 ≤ (v19430 39).toInt ∧ (v19430 39).toInt ≤ 120 := hI.1 39 _ _ rfl
          have t19435 : 0 ≤ (v19430 41).toInt ∧ (v19430 41).toInt ≤ 8 := hI.1 41 _ _ rfl
          generalize H1 = H at hP hS ⊢
          have hk : keepL (v 37) (F 28) (F 29) (F19431 28) (F19431 29) := by rw [hG19433 28 (by decide), hG19433 29 (by decide)]; exact hk
          have hd : (v19430 40).toInt < 0 → dp (F19431 28) (F19431 29) (bI (v 37)) (v19413 38).toInt.toNat = some (((d + 1) + 1) - 1) := fun hf => (by rw [hG19433 28 (by decide), hG19433 29 (by decide)]; exact hd (by omega))
          refine lv_if_ne (tgt := 79) hx hb dX12_either_75 (by decide) (fun c19436 => ?_) (fun c19436 => ?_)
          · skip
            have t19437 := cv_ne (a := r19429.toInt) rfl (b := 0) (by decide) c19436
            refine lv_aload_n hx hb dX12_either_79 rfl (lv_at hl 1 rfl) ?_
            have t19438 : 0 ≤ (v 30).toInt ∧ (v 30).toInt ≤ 120 := by have h9 := hI.1 30 _ _ rfl; rw [show v19430 30 = v 30 from (hf19432 30 (by decide)).trans ((hf19415 30 (by decide)).trans ((hf19405 30 (by decide)).trans (hf19301 30 (by decide))))] at h9; exact h9
            have t19439 : 0 ≤ (v 37).toInt ∧ (v 37).toInt ≤ 9 := by have h9 := hI.1 37 _ _ rfl; rw [show v19430 37 = v 37 from (hf19432 37 (by decide)).trans ((hf19415 37 (by decide)).trans ((hf19405 37 (by decide)).trans (hf19301 37 (by decide))))] at h9; exact h9
            have t19440 : 0 ≤ (v19413 38).toInt ∧ (v19413 38).toInt ≤ 120 := by have h9 := hI.1 38 _ _ rfl; rw [show v19430 38 = v19413 38 from hf19432 38 (by decide)] at h9; exact h9
            have t19441 : 0 ≤ (v19430 39).toInt ∧ (v19430 39).toInt ≤ 120 := hI.1 39 _ _ rfl
            have t19442 : 0 ≤ (v19430 41).toInt ∧ (v19430 41).toInt ≤ 8 := hI.1 41 _ _ rfl
            refine va_callv (va_runV (As := []) (rest := []) ⟨hx, hb, hml, hown, hwd⟩ (c_X12_either_4 l dC dI g c adK adV v19430 F19431 rc H.size  (((d + 1) + 1) - 1) hg hI (by have h9 : v19430 38 = v19413 38 := hf19432 38 (by decide); (try rw [h9]); clear h9; have h9 : v19430 39 = v19430 39 := rfl; (try rw [h9]); clear h9; have h9 : v19430 30 = v 30 := (hf19432 30 (by decide)).trans ((hf19415 30 (by decide)).trans ((hf19405 30 (by decide)).trans (hf19301 30 (by decide)))); (try rw [h9]); clear h9; have h9 : v19430 40 = v19430 40 := rfl; (try rw [h9]); clear h9; have h9 : v19430 41 = v19430 41 := rfl; (try rw [h9]); clear h9; omega) (by have h9 : v19430 37 = (v 37) := (hf19432 37 (by decide)).trans ((hf19415 37 (by decide)).trans ((hf19405 37 (by decide)).trans (hf19301 37 (by decide)))); have h8 : v19430 38 = (v19413 38) := hf19432 38 (by decide); (try rw [h9]); (try rw [h8]); exact hd (by omega))) (cwV 0 hwd (gV wk_1010 wk_1007 wk_1008 wk_1009 wk_5) rfl rfl rfl (by decide +kernel) ⟨Nat.le_of_ble_eq_true rfl, Nat.le_of_ble_eq_true rfl⟩) ⟨PM.blind, va_recv hK hP (ci := 12) (q0 := 0) rfl rfl, fun U hU hW => ⟨rfl, PM.at hK hE hP hS hU hW⟩⟩ rfl rfl hl.1 rfl (lv_room (Nat.le_of_ble_eq_true rfl)) dX12_either_80 ⟨Nat.le_of_ble_eq_true rfl, Nat.le_of_ble_eq_true rfl⟩) hS (fun q _ h => (freeM hS) q h) (freeM hS) (fun u t H1 locs ht hvm hw hB hz1 hk1 hS => ?_)
            unfold BM at hB
            rw [ht] at hB
            obtain ⟨v19444, F19445, rc9⟩ := u
            obtain ⟨hI, hrc, hf19446, hG19447, hw⟩ := hw
            dsimp only at hI hrc hB hf19446 hG19447 hw
            have hF := frCF (by decide) hG19447 hF
            rw [hrc] at hB
            have hP : va_P (dC, dI) classes (wM g c v19444 F19445 rc) H1 := hB
            have hw : ((v19430 39).toInt ≤ (v19444 39).toInt ∧ (v19444 39).toInt ≤ (v19430 30).toInt ∧ (v19430 38).toInt ≤ (v19444 38).toInt ∧ (v19444 38).toInt - (v19430 38).toInt ≤ (v19444 39).toInt - (v19430 39).toInt ∧ (v19430 41).toInt ≤ (v19444 41).toInt ∧ ((v19444 40).toInt < 0 → (v19444 41).toInt = (v19430 41).toInt)) ∧ keepL (v19430 37) (F19431 28) (F19431 29) (F19445 28) (F19445 29) ∧ ((v19444 40).toInt < 0 → dp (F19445 28) (F19445 29) (bI (v19430 37)) (v19444 38).toInt.toNat = some ((((d + 1) + 1) - 1) + 1)) := hw
            rw [show v19430 30 = v 30 from (hf19432 30 (by decide)).trans ((hf19415 30 (by decide)).trans ((hf19405 30 (by decide)).trans (hf19301 30 (by decide))))] at hw
            rw [show v19430 38 = v19413 38 from hf19432 38 (by decide)] at hw
            rw [show v19430 37 = v 37 from (hf19432 37 (by decide)).trans ((hf19415 37 (by decide)).trans ((hf19405 37 (by decide)).trans (hf19301 37 (by decide))))] at hw
            have hw_r19443 := hw
            have t19448 : 0 ≤ (v19444 38).toInt ∧ (v19444 38).toInt ≤ 120 := hI.1 38 _ _ rfl
            have t19449 : 0 ≤ (v19444 39).toInt ∧ (v19444 39).toInt ≤ 120 := hI.1 39 _ _ rfl
            have t19450 : 0 ≤ (v19444 41).toInt ∧ (v19444 41).toInt ≤ 8 := hI.1 41 _ _ rfl
            generalize H1 = H at hP hS ⊢
            have hk := hk.tr hw_r19443.2.1
            have hd := hw_r19443.2.2
            refine lv_aload_n hx hb dX12_either_83 rfl (lv_at hl 1 rfl) ?_
            refine va_get (D := (dC, dI)) (ci := 12) (v := .int (v19444 40)) (C := RX12) (T := TX12) (N := 63) hx hb hwd inA_X12 hown hK hP 0 rfl rfl 40 (by decide) (hwd _ wk_1005) (fun _ h9 => h9) rfl dX12_either_84 ?_
            refine lv_if_lt (tgt := 91) hx hb dX12_either_87 (by decide) (fun c19451 => ?_) (fun c19451 => ?_)
            · skip
              have t19452 := cv_lt (a := (v19444 40).toInt) rfl (b := 0) (by decide) c19451
              refine lv_aload_n hx hb dX12_either_91 rfl (lv_at hl 1 rfl) ?_
              have t19453 : 0 ≤ (v 30).toInt ∧ (v 30).toInt ≤ 120 := by have h9 := hI.1 30 _ _ rfl; rw [show v19444 30 = v 30 from (hf19446 30 (by decide)).trans ((hf19432 30 (by decide)).trans ((hf19415 30 (by decide)).trans ((hf19405 30 (by decide)).trans (hf19301 30 (by decide)))))] at h9; exact h9
              have t19454 : 0 ≤ (v19444 39).toInt ∧ (v19444 39).toInt ≤ 120 := hI.1 39 _ _ rfl
              refine va_calli (va_runV (As := []) (rest := []) ⟨hx, hb, hml, hown, hwd⟩ (c_X12_look l dC dI g c adK adV v19444 F19445 rc H.size  hg hI ) (cwV 0 hwd (gV wk_1017 wk_1014 wk_1015 wk_1016 wk_5) rfl rfl rfl (by decide +kernel) ⟨Nat.le_of_ble_eq_true rfl, Nat.le_of_ble_eq_true rfl⟩) ⟨PM.blind, va_recv hK hP (ci := 12) (q0 := 0) rfl rfl, fun U hU hW => ⟨rfl, PM.at hK hE hP hS hU hW⟩⟩ rfl rfl hl.1 rfl (lv_room (Nat.le_of_ble_eq_true rfl)) dX12_either_92 ⟨Nat.le_of_ble_eq_true rfl, Nat.le_of_ble_eq_true rfl⟩) hS (fun q _ h => (freeM hS) q h) (freeM hS) (fun r19455 u t H1 locs ht hvm hw hB hz1 hk1 hS => ?_)
              unfold BM at hB
              rw [ht] at hB
              have hP : va_P (dC, dI) classes (wM g c v19444 F19445 rc) H1 := hB
              have hw : r19455.toInt = lkM (v19444 39) (v19444 30) (F19445 24) ∧ ((v19444 39).toInt < (v19444 30).toInt ∨ r19455.toInt = -1) := hw
              rw [show v19444 30 = v 30 from (hf19446 30 (by decide)).trans ((hf19432 30 (by decide)).trans ((hf19415 30 (by decide)).trans ((hf19405 30 (by decide)).trans (hf19301 30 (by decide)))))] at hw
              rw [hF 24 (by decide)] at hw
              have hw_r19455 := hw
              generalize H1 = H at hP hS ⊢
              refine lv_bipush (v := 58) hx hb dX12_either_95 (by decide) ?_
              refine lv_icmp_eq (tgt := 105) hx hb dX12_either_97 (by decide) (fun c19456 => ?_) (fun c19456 => ?_)
              · skip
                have t19457 := cv_eq (a := r19455.toInt) rfl (b := 58) (by decide) c19456
                refine lv_aload_n hx hb dX12_either_105 rfl (lv_at hl 1 rfl) ?_
                refine lv_dup hx hb dX12_either_106 rfl ?_
                refine va_get (D := (dC, dI)) (ci := 12) (v := .int (v19444 39)) (C := RX12) (T := TX12) (N := 63) hx hb hwd inA_X12 hown hK hP 0 rfl rfl 39 (by decide) (hwd _ wk_1004) (fun _ h9 => h9) rfl dX12_either_107 ?_
                have t19458 : 0 ≤ (v19444 39).toInt ∧ (v19444 39).toInt ≤ 120 := hI.1 39 _ _ rfl
                refine lv_iconst (v := 1) hx hb dX12_either_110 (by decide) ?_
                refine lv_iadd hx hb dX12_either_111 ?_
                refine lv_topi (fun z19459 e19460 => ?_)
                try (have t19461 := tadd e19460 (a := (v19444 39).toInt) rfl (b := 1) (by decide) (by omega))
                refine va_put (D := (dC, dI)) (ci := 12) (v := .int z19459) (ty := .int) (C := RX12) (T := TX12) (N := 63) (fs := fsM_0 g v19444 rc) hx hb hwd inA_X12 tyX12 tyX12_ok nmX12 hown hK hP (DM hg) hS 0 rfl rfl 39 (by decide) (hwd _ wk_1004) (fun _ h9 => h9) rfl (by decide +kernel) rfl rfl (Nat.le_of_ble_eq_true rfl) dX12_either_112 (fun H locs hP _ hS => ?_)
                have hP := va_P_eq (pM_39 g c _ _ _ _) hP
                have hI := IM.put hI 39 z19459 rfl (by omega)
                refine lv_aload_n hx hb dX12_either_115 rfl (lv_at hl 1 rfl) ?_
                have t19462 : 0 ≤ (v 30).toInt ∧ (v 30).toInt ≤ 120 := by have h9 := hI.1 30 _ _ rfl; rw [show (va_up v19444 39 z19459) 30 = v 30 from (hf19446 30 (by decide)).trans ((hf19432 30 (by decide)).trans ((hf19415 30 (by decide)).trans ((hf19405 30 (by decide)).trans (hf19301 30 (by decide)))))] at h9; exact h9
                have t19463 : 0 ≤ (v 37).toInt ∧ (v 37).toInt ≤ 9 := by have h9 := hI.1 37 _ _ rfl; rw [show (va_up v19444 39 z19459) 37 = v 37 from (hf19446 37 (by decide)).trans ((hf19432 37 (by decide)).trans ((hf19415 37 (by decide)).trans ((hf19405 37 (by decide)).trans (hf19301 37 (by decide)))))] at h9; exact h9
                have t19464 : 0 ≤ (v19444 38).toInt ∧ (v19444 38).toInt ≤ 120 := hI.1 38 _ _ rfl
                have t19465 : 0 ≤ z19459.toInt ∧ z19459.toInt ≤ 120 := hI.1 39 _ _ rfl
                have t19466 : 0 ≤ (v19444 41).toInt ∧ (v19444 41).toInt ≤ 8 := hI.1 41 _ _ rfl
                refine va_callv (va_runV (As := []) (rest := []) ⟨hx, hb, hml, hown, hwd⟩ (c_X12_either_4 l dC dI g c adK adV (va_up v19444 39 z19459) F19445 rc H.size  ((((d + 1) + 1) - 1) + 1) hg hI (by have h9 : (va_up v19444 39 z19459) 38 = v19444 38 := rfl; (try rw [h9]); clear h9; have h9 : (va_up v19444 39 z19459) 39 = z19459 := rfl; (try rw [h9]); clear h9; have h9 : (va_up v19444 39 z19459) 30 = v 30 := (hf19446 30 (by decide)).trans ((hf19432 30 (by decide)).trans ((hf19415 30 (by decide)).trans ((hf19405 30 (by decide)).trans (hf19301 30 (by decide))))); (try rw [h9]); clear h9; have h9 : (va_up v19444 39 z19459) 40 = v19444 40 := rfl; (try rw [h9]); clear h9; have h9 : (va_up v19444 39 z19459) 41 = v19444 41 := rfl; (try rw [h9]); clear h9; omega) (by have h9 : (va_up v19444 39 z19459) 37 = (v 37) := (hf19446 37 (by decide)).trans ((hf19432 37 (by decide)).trans ((hf19415 37 (by decide)).trans ((hf19405 37 (by decide)).trans (hf19301 37 (by decide))))); have h8 : (va_up v19444 39 z19459) 38 = (v19444 38) := rfl; (try rw [h9]); (try rw [h8]); exact hd (by omega))) (cwV 0 hwd (gV wk_1010 wk_1007 wk_1008 wk_1009 wk_5) rfl rfl rfl (by decide +kernel) ⟨Nat.le_of_ble_eq_true rfl, Nat.le_of_ble_eq_true rfl⟩) ⟨PM.blind, va_recv hK hP (ci := 12) (q0 := 0) rfl rfl, fun U hU hW => ⟨rfl, PM.at hK hE hP hS hU hW⟩⟩ rfl rfl hl.1 rfl (lv_room (Nat.le_of_ble_eq_true rfl)) dX12_either_116 ⟨Nat.le_of_ble_eq_true rfl, Nat.le_of_ble_eq_true rfl⟩) hS (fun q _ h => (freeM hS) q h) (freeM hS) (fun u t H1 locs ht hvm hw hB hz1 hk1 hS => ?_)
                unfold BM at hB
                rw [ht] at hB
                obtain ⟨v19468, F19469, rc9⟩ := u
                obtain ⟨hI, hrc, hf19470, hG19471, hw⟩ := hw
                dsimp only at hI hrc hB hf19470 hG19471 hw
                have hF := frCF (by decide) hG19471 hF
                rw [hrc] at hB
                have hP : va_P (dC, dI) classes (wM g c v19468 F19469 rc) H1 := hB
                have hw : (z19459.toInt ≤ (v19468 39).toInt ∧ (v19468 39).toInt ≤ ((va_up v19444 39 z19459) 30).toInt ∧ (v19444 38).toInt ≤ (v19468 38).toInt ∧ (v19468 38).toInt - (v19444 38).toInt ≤ (v19468 39).toInt - z19459.toInt ∧ (v19444 41).toInt ≤ (v19468 41).toInt ∧ ((v19468 40).toInt < 0 → (v19468 41).toInt = (v19444 41).toInt)) ∧ keepL ((va_up v19444 39 z19459) 37) (F19445 28) (F19445 29) (F19469 28) (F19469 29) ∧ ((v19468 40).toInt < 0 → dp (F19469 28) (F19469 29) (bI ((va_up v19444 39 z19459) 37)) (v19468 38).toInt.toNat = some (((((d + 1) + 1) - 1) + 1) + 1)) := hw
                rw [show (va_up v19444 39 z19459) 30 = v 30 from (hf19446 30 (by decide)).trans ((hf19432 30 (by decide)).trans ((hf19415 30 (by decide)).trans ((hf19405 30 (by decide)).trans (hf19301 30 (by decide)))))] at hw
                rw [show (va_up v19444 39 z19459) 37 = v 37 from (hf19446 37 (by decide)).trans ((hf19432 37 (by decide)).trans ((hf19415 37 (by decide)).trans ((hf19405 37 (by decide)).trans (hf19301 37 (by decide)))))] at hw
                have hw_r19467 := hw
                have t19472 : 0 ≤ (v19468 38).toInt ∧ (v19468 38).toInt ≤ 120 := hI.1 38 _ _ rfl
                have t19473 : 0 ≤ (v19468 39).toInt ∧ (v19468 39).toInt ≤ 120 := hI.1 39 _ _ rfl
                have t19474 : 0 ≤ (v19468 41).toInt ∧ (v19468 41).toInt ≤ 8 := hI.1 41 _ _ rfl
                generalize H1 = H at hP hS ⊢
                have hk := hk.tr hw_r19467.2.1
                have hd := hw_r19467.2.2
                refine lv_aload_n hx hb dX12_either_119 rfl (lv_at hl 1 rfl) ?_
                refine lv_iconst (v := 4) hx hb dX12_either_120 (by decide) ?_
                refine lv_iconst (v := 0) hx hb dX12_either_121 (by decide) ?_
                have t19475 : 0 ≤ (v 37).toInt ∧ (v 37).toInt ≤ 9 := by have h9 := hI.1 37 _ _ rfl; rw [show v19468 37 = v 37 from (hf19470 37 (by decide)).trans ((hf19446 37 (by decide)).trans ((hf19432 37 (by decide)).trans ((hf19415 37 (by decide)).trans ((hf19405 37 (by decide)).trans (hf19301 37 (by decide))))))] at h9; exact h9
                have t19476 : 0 ≤ (v19468 38).toInt ∧ (v19468 38).toInt ≤ 120 := hI.1 38 _ _ rfl
                refine va_callv (va_runV (As := [.int 4, .int 0]) (rest := []) ⟨hx, hb, hml, hown, hwd⟩ (c_X12_lay l dC dI g c adK adV v19468 F19469 rc H.size 4 0 hg hI (by have h9 : v19468 38 = v19468 38 := rfl; rw [h9]; omega)) (cwV 2 hwd (gV wk_1021 wk_1018 wk_1019 wk_1020 wk_5) rfl rfl rfl (by decide +kernel) ⟨Nat.le_of_ble_eq_true rfl, Nat.le_of_ble_eq_true rfl⟩) ⟨PM.blind, va_recv hK hP (ci := 12) (q0 := 0) rfl rfl, fun U hU hW => ⟨rfl, PM.at hK hE hP hS hU hW⟩⟩ rfl rfl hl.1 rfl (lv_room (Nat.le_of_ble_eq_true rfl)) dX12_either_122 ⟨Nat.le_of_ble_eq_true rfl, Nat.le_of_ble_eq_true rfl⟩) hS (fun q _ h => (freeM hS) q h) (freeM hS) (fun u t H1 locs ht hvm hw hB hz1 hk1 hS => ?_)
                unfold BM at hB
                rw [ht] at hB
                obtain ⟨v19478, F19479, rc9⟩ := u
                obtain ⟨hI, hrc, hf19480, hG19481, hw⟩ := hw
                dsimp only at hI hrc hB hf19480 hG19481 hw
                have hF := frCF (by decide) hG19481 hF
                rw [hrc] at hB
                have hP : va_P (dC, dI) classes (wM g c v19478 F19479 rc) H1 := hB
                have hw : (v19478 38).toInt = (v19468 38).toInt + 1 ∧ keepL (v19468 37) (F19469 28) (F19469 29) (F19479 28) (F19479 29) ∧ dp (F19479 28) (F19479 29) (bI (v19468 37)) ((v19468 38).toInt.toNat + 1) = dpS (dp (F19469 28) (F19469 29) (bI (v19468 37)) (v19468 38).toInt.toNat) (4 : Int32) (0 : Int32) := hw
                rw [show v19468 37 = v 37 from (hf19470 37 (by decide)).trans ((hf19446 37 (by decide)).trans ((hf19432 37 (by decide)).trans ((hf19415 37 (by decide)).trans ((hf19405 37 (by decide)).trans (hf19301 37 (by decide))))))] at hw
                have hw_r19477 := hw
                have t19482 : 0 ≤ (v19478 38).toInt ∧ (v19478 38).toInt ≤ 120 := hI.1 38 _ _ rfl
                have k19483 : (4 : Int32).toInt = 4 := by decide
                have k19484 : (0 : Int32).toInt = 0 := by decide
                generalize H1 = H at hP hS ⊢
                have hk := hk.tr hw_r19477.2.1
                have hd : (v19468 40).toInt < 0 → dp (F19479 28) (F19479 29) (bI (v 37)) (v19478 38).toInt.toNat = some ((((((d + 1) + 1) - 1) + 1) + 1) - 2) := fun hf => (by have e9 : (v19478 38).toInt.toNat = (v19468 38).toInt.toNat + 1 := (by omega); rw [e9, hw_r19477.2.2, hd hf]; exact dpS_4 (by decide) (by omega))
                refine lv_aload_n hx hb dX12_either_125 rfl (lv_at hl 1 rfl) ?_
                refine lv_dup hx hb dX12_either_126 rfl ?_
                refine va_get (D := (dC, dI)) (ci := 12) (v := .int (v19478 41)) (C := RX12) (T := TX12) (N := 63) hx hb hwd inA_X12 hown hK hP 0 rfl rfl 41 (by decide) (hwd _ wk_1006) (fun _ h9 => h9) rfl dX12_either_127 ?_
                refine my_top (v := v19468 41) (hf19480 41 (by decide)) ?_
                have t19485 : 0 ≤ (v19468 41).toInt ∧ (v19468 41).toInt ≤ 8 := by have h9 := hI.1 41 _ _ rfl; rw [show v19478 41 = v19468 41 from hf19480 41 (by decide)] at h9; exact h9
                refine lv_iconst (v := 1) hx hb dX12_either_130 (by decide) ?_
                refine lv_isub hx hb dX12_either_131 ?_
                refine lv_topi (fun z19486 e19487 => ?_)
                try (have t19488 := tsub e19487 (a := (v19468 41).toInt) rfl (b := 1) (by decide) (by omega))
                refine va_put (D := (dC, dI)) (ci := 12) (v := .int z19486) (ty := .int) (C := RX12) (T := TX12) (N := 63) (fs := fsM_0 g v19478 rc) hx hb hwd inA_X12 tyX12 tyX12_ok nmX12 hown hK hP (DM hg) hS 0 rfl rfl 41 (by decide) (hwd _ wk_1006) (fun _ h9 => h9) rfl (by decide +kernel) rfl rfl (Nat.le_of_ble_eq_true rfl) dX12_either_132 (fun H locs hP _ hS => ?_)
                have hP := va_P_eq (pM_41 g c _ _ _ _) hP
                have hI := IM.put hI 41 z19486 rfl (by omega)
                have hP9 : va_P (dC, dI) classes (wM g c (va_up v19478 41 z19486) F19479 rc) H := hP
                exact W.vret hx hb hr (fun t ht hW => ⟨⟨((va_up v19478 41 z19486), F19479, rc), rfl, ⟨hI, rfl, (frU (by decide) (frC (by decide) hf19480 (frC (by decide) hf19470 (frU (by decide) (frC (by decide) hf19446 (frC (by decide) hf19432 (frC (by decide) hf19415 (frC (by decide) hf19405 (frU (by decide) (frC (by decide) hf19301 (fun _ _ => rfl))))))))))), hF, (by show ((v 39).toInt ≤ ((va_up v19478 41 z19486) 39).toInt ∧ ((va_up v19478 41 z19486) 39).toInt ≤ (v 30).toInt ∧ (v 38).toInt ≤ (v19478 38).toInt ∧ (v19478 38).toInt - (v 38).toInt ≤ ((va_up v19478 41 z19486) 39).toInt - (v 39).toInt ∧ (v 41).toInt ≤ z19486.toInt ∧ (((va_up v19478 41 z19486) 40).toInt < 0 → z19486.toInt = (v 41).toInt)) ∧ keepL (v 37) (F 28) (F 29) (F19479 28) (F19479 29) ∧ (((va_up v19478 41 z19486) 40).toInt < 0 → dp (F19479 28) (F19479 29) (bI (v 37)) (v19478 38).toInt.toNat = some (d + 1)); rw [show (va_up v19478 41 z19486) 39 = v19468 39 from hf19480 39 (by decide)]; rw [show (va_up v19478 41 z19486) 40 = v19468 40 from hf19480 40 (by decide)]; exact ⟨by omega, hk, fun hf => (hd (by omega)).trans (congrArg some (by omega))⟩)⟩, (by show va_P _ _ _ t.heap; rw [ht]; exact hP9)⟩, hS.F ht⟩) hS.2.2 dX12_either_135
              · skip
                have t19489 := cv_ne (a := r19455.toInt) rfl (b := 58) (by decide) c19456
                refine lv_aload_n hx hb dX12_either_100 rfl (lv_at hl 1 rfl) ?_
                refine va_callv (va_runV (As := []) (rest := []) ⟨hx, hb, hml, hown, hwd⟩ (c_X12_wrong l dC dI g c adK adV v19444 F19445 rc H.size  hg hI ) (cwV 0 hwd (gV wk_1029 wk_1026 wk_1027 wk_1028 wk_5) rfl rfl rfl (by decide +kernel) ⟨Nat.le_of_ble_eq_true rfl, Nat.le_of_ble_eq_true rfl⟩) ⟨PM.blind, va_recv hK hP (ci := 12) (q0 := 0) rfl rfl, fun U hU hW => ⟨rfl, PM.at hK hE hP hS hU hW⟩⟩ rfl rfl hl.1 rfl (lv_room (Nat.le_of_ble_eq_true rfl)) dX12_either_101 ⟨Nat.le_of_ble_eq_true rfl, Nat.le_of_ble_eq_true rfl⟩) hS (fun q _ h => (freeM hS) q h) (freeM hS) (fun u t H1 locs ht hvm hw hB hz1 hk1 hS => ?_)
                unfold BM at hB
                rw [ht] at hB
                obtain ⟨v19491, F19492, rc9⟩ := u
                obtain ⟨hI, hrc, hf19493, hG19494, hw⟩ := hw
                dsimp only at hI hrc hB hf19493 hG19494 hw
                have hF := frCF (by decide) hG19494 hF
                rw [hrc] at hB
                have hP : va_P (dC, dI) classes (wM g c v19491 F19492 rc) H1 := hB
                have hw : 0 ≤ (v19491 40).toInt := hw
                have hw_r19490 := hw
                generalize H1 = H at hP hS ⊢
                have hk : keepL (v 37) (F 28) (F 29) (F19492 28) (F19492 29) := by rw [hG19494 28 (by decide), hG19494 29 (by decide)]; exact hk
                have hd : (v19491 40).toInt < 0 → dp (F19492 28) (F19492 29) (bI (v 37)) (v19444 38).toInt.toNat = some ((((d + 1) + 1) - 1) + 1) := fun hf => (by rw [hG19494 28 (by decide), hG19494 29 (by decide)]; exact hd (by omega))
                have hP9 : va_P (dC, dI) classes (wM g c v19491 F19492 rc) H := hP
                exact W.vret hx hb hr (fun t ht hW => ⟨⟨(v19491, F19492, rc), rfl, ⟨hI, rfl, (frC (by decide) hf19493 (frC (by decide) hf19446 (frC (by decide) hf19432 (frC (by decide) hf19415 (frC (by decide) hf19405 (frU (by decide) (frC (by decide) hf19301 (fun _ _ => rfl)))))))), hF, (by show ((v 39).toInt ≤ (v19491 39).toInt ∧ (v19491 39).toInt ≤ (v 30).toInt ∧ (v 38).toInt ≤ (v19491 38).toInt ∧ (v19491 38).toInt - (v 38).toInt ≤ (v19491 39).toInt - (v 39).toInt ∧ (v 41).toInt ≤ (v19491 41).toInt ∧ ((v19491 40).toInt < 0 → (v19491 41).toInt = (v 41).toInt)) ∧ keepL (v 37) (F 28) (F 29) (F19492 28) (F19492 29) ∧ ((v19491 40).toInt < 0 → dp (F19492 28) (F19492 29) (bI (v 37)) (v19491 38).toInt.toNat = some (d + 1)); rw [show v19491 39 = v19444 39 from hf19493 39 (by decide)]; rw [show v19491 38 = v19444 38 from hf19493 38 (by decide)]; rw [show v19491 41 = v19444 41 from hf19493 41 (by decide)]; exact ⟨by omega, hk, fun hf => (hd (by omega)).trans (congrArg some (by omega))⟩)⟩, (by show va_P _ _ _ t.heap; rw [ht]; exact hP9)⟩, hS.F ht⟩) hS.2.2 dX12_either_104
            · skip
              have t19495 := cv_nlt (a := (v19444 40).toInt) rfl (b := 0) (by decide) c19451
              have hP9 : va_P (dC, dI) classes (wM g c v19444 F19445 rc) H := hP
              exact W.vret hx hb hr (fun t ht hW => ⟨⟨(v19444, F19445, rc), rfl, ⟨hI, rfl, (frC (by decide) hf19446 (frC (by decide) hf19432 (frC (by decide) hf19415 (frC (by decide) hf19405 (frU (by decide) (frC (by decide) hf19301 (fun _ _ => rfl))))))), hF, (by show ((v 39).toInt ≤ (v19444 39).toInt ∧ (v19444 39).toInt ≤ (v 30).toInt ∧ (v 38).toInt ≤ (v19444 38).toInt ∧ (v19444 38).toInt - (v 38).toInt ≤ (v19444 39).toInt - (v 39).toInt ∧ (v 41).toInt ≤ (v19444 41).toInt ∧ ((v19444 40).toInt < 0 → (v19444 41).toInt = (v 41).toInt)) ∧ keepL (v 37) (F 28) (F 29) (F19445 28) (F19445 29) ∧ ((v19444 40).toInt < 0 → dp (F19445 28) (F19445 29) (bI (v 37)) (v19444 38).toInt.toNat = some (d + 1)); exact ⟨by omega, hk, fun hf => (hd (by omega)).trans (congrArg some (by omega))⟩)⟩, (by show va_P _ _ _ t.heap; rw [ht]; exact hP9)⟩, hS.F ht⟩) hS.2.2 dX12_either_90
          · skip
            have t19496 := cv_eq (a := r19429.toInt) rfl (b := 0) (by decide) c19436
            have hP9 : va_P (dC, dI) classes (wM g c v19430 F19431 rc) H := hP
            exact W.vret hx hb hr (fun t ht hW => ⟨⟨(v19430, F19431, rc), rfl, ⟨hI, rfl, (frC (by decide) hf19432 (frC (by decide) hf19415 (frC (by decide) hf19405 (frU (by decide) (frC (by decide) hf19301 (fun _ _ => rfl)))))), hF, (by show ((v 39).toInt ≤ (v19430 39).toInt ∧ (v19430 39).toInt ≤ (v 30).toInt ∧ (v 38).toInt ≤ (v19430 38).toInt ∧ (v19430 38).toInt - (v 38).toInt ≤ (v19430 39).toInt - (v 39).toInt ∧ (v 41).toInt ≤ (v19430 41).toInt ∧ ((v19430 40).toInt < 0 → (v19430 41).toInt = (v 41).toInt)) ∧ keepL (v 37) (F 28) (F 29) (F19431 28) (F19431 29) ∧ ((v19430 40).toInt < 0 → dp (F19431 28) (F19431 29) (bI (v 37)) (v19430 38).toInt.toNat = some (d + 1)); rw [show v19430 38 = v19413 38 from hf19432 38 (by decide)]; exact ⟨by omega, hk, fun hf => (hd (by omega)).trans (congrArg some (by omega))⟩)⟩, (by show va_P _ _ _ t.heap; rw [ht]; exact hP9)⟩, hS.F ht⟩) hS.2.2 dX12_either_78
        · skip
          have t19497 := cv_ne (a := r19424.toInt) rfl (b := 63) (by decide) c19425
          have hP9 : va_P (dC, dI) classes (wM g c v19413 F19414 rc) H := hP
          exact W.vret hx hb hr (fun t ht hW => ⟨⟨(v19413, F19414, rc), rfl, ⟨hI, rfl, (frC (by decide) hf19415 (frC (by decide) hf19405 (frU (by decide) (frC (by decide) hf19301 (fun _ _ => rfl))))), hF, (by show ((v 39).toInt ≤ (v19413 39).toInt ∧ (v19413 39).toInt ≤ (v 30).toInt ∧ (v 38).toInt ≤ (v19413 38).toInt ∧ (v19413 38).toInt - (v 38).toInt ≤ (v19413 39).toInt - (v 39).toInt ∧ (v 41).toInt ≤ (v19413 41).toInt ∧ ((v19413 40).toInt < 0 → (v19413 41).toInt = (v 41).toInt)) ∧ keepL (v 37) (F 28) (F 29) (F19414 28) (F19414 29) ∧ ((v19413 40).toInt < 0 → dp (F19414 28) (F19414 29) (bI (v 37)) (v19413 38).toInt.toNat = some (d + 1)); rw [show v19413 39 = v19403 39 from hf19415 39 (by decide)]; rw [show v19413 41 = v19403 41 from hf19415 41 (by decide)]; rw [show v19413 40 = v19403 40 from hf19415 40 (by decide)]; exact ⟨by omega, hk, fun hf => (hd (by omega)).trans (congrArg some (by omega))⟩)⟩, (by show va_P _ _ _ t.heap; rw [ht]; exact hP9)⟩, hS.F ht⟩) hS.2.2 dX12_either_70
    · skip
      have t19498 := cv_ne (a := r19308.toInt) rfl (b := 60) (by decide) c19391
      refine lv_iload_n hx hb dX12_either_22 rfl (lv_at hl 0 rfl) ?_
      refine lv_bipush (v := 61) hx hb dX12_either_23 (by decide) ?_
      refine lv_icmp_eq (tgt := 34) hx hb dX12_either_25 (by decide) (fun c19499 => ?_) (fun c19499 => ?_)
      · skip
        have t19500 := cv_eq (a := r19308.toInt) rfl (b := 61) (by decide) c19499
        refine lv_aload_n hx hb dX12_either_34 rfl (lv_at hl 1 rfl) ?_
        refine lv_dup hx hb dX12_either_35 rfl ?_
        refine va_get (D := (dC, dI)) (ci := 12) (v := .int (v19299 39)) (C := RX12) (T := TX12) (N := 63) hx hb hwd inA_X12 hown hK hP 0 rfl rfl 39 (by decide) (hwd _ wk_1004) (fun _ h9 => h9) rfl dX12_either_36 ?_
        have t19501 : 0 ≤ (v19299 39).toInt ∧ (v19299 39).toInt ≤ 120 := hI.1 39 _ _ rfl
        refine lv_iconst (v := 1) hx hb dX12_either_39 (by decide) ?_
        refine lv_iadd hx hb dX12_either_40 ?_
        refine lv_topi (fun z19502 e19503 => ?_)
        try (have t19504 := tadd e19503 (a := (v19299 39).toInt) rfl (b := 1) (by decide) (by omega))
        refine va_put (D := (dC, dI)) (ci := 12) (v := .int z19502) (ty := .int) (C := RX12) (T := TX12) (N := 63) (fs := fsM_0 g v19299 rc) hx hb hwd inA_X12 tyX12 tyX12_ok nmX12 hown hK hP (DM hg) hS 0 rfl rfl 39 (by decide) (hwd _ wk_1004) (fun _ h9 => h9) rfl (by decide +kernel) rfl rfl (Nat.le_of_ble_eq_true rfl) dX12_either_41 (fun H locs hP _ hS => ?_)
        have hP := va_P_eq (pM_39 g c _ _ _ _) hP
        have hI := IM.put hI 39 z19502 rfl (by omega)
        refine lv_aload_n hx hb dX12_either_44 rfl (lv_at hl 1 rfl) ?_
        have t19505 : 0 ≤ (v 30).toInt ∧ (v 30).toInt ≤ 120 := by have h9 := hI.1 30 _ _ rfl; rw [show (va_up v19299 39 z19502) 30 = v 30 from hf19301 30 (by decide)] at h9; exact h9
        have t19506 : 0 ≤ (v 37).toInt ∧ (v 37).toInt ≤ 9 := by have h9 := hI.1 37 _ _ rfl; rw [show (va_up v19299 39 z19502) 37 = v 37 from hf19301 37 (by decide)] at h9; exact h9
        have t19507 : 0 ≤ (v19299 38).toInt ∧ (v19299 38).toInt ≤ 120 := hI.1 38 _ _ rfl
        have t19508 : 0 ≤ z19502.toInt ∧ z19502.toInt ≤ 120 := hI.1 39 _ _ rfl
        have t19509 : 0 ≤ (v19299 41).toInt ∧ (v19299 41).toInt ≤ 8 := hI.1 41 _ _ rfl
        refine va_callv (va_runV (As := []) (rest := []) ⟨hx, hb, hml, hown, hwd⟩ (c_X12_sum_3 l dC dI g c adK adV (va_up v19299 39 z19502) F19300 rc H.size  (d + 1) hg hI (by have h9 : (va_up v19299 39 z19502) 38 = v19299 38 := rfl; (try rw [h9]); clear h9; have h9 : (va_up v19299 39 z19502) 39 = z19502 := rfl; (try rw [h9]); clear h9; have h9 : (va_up v19299 39 z19502) 30 = v 30 := hf19301 30 (by decide); (try rw [h9]); clear h9; have h9 : (va_up v19299 39 z19502) 40 = v19299 40 := rfl; (try rw [h9]); clear h9; have h9 : (va_up v19299 39 z19502) 41 = v19299 41 := rfl; (try rw [h9]); clear h9; omega) (by have h9 : (va_up v19299 39 z19502) 37 = (v 37) := hf19301 37 (by decide); have h8 : (va_up v19299 39 z19502) 38 = (v19299 38) := rfl; (try rw [h9]); (try rw [h8]); exact hd (by omega))) (cwV 0 hwd (gV wk_1043 wk_1011 wk_1012 wk_1013 wk_5) rfl rfl rfl (by decide +kernel) ⟨Nat.le_of_ble_eq_true rfl, Nat.le_of_ble_eq_true rfl⟩) ⟨PM.blind, va_recv hK hP (ci := 12) (q0 := 0) rfl rfl, fun U hU hW => ⟨rfl, PM.at hK hE hP hS hU hW⟩⟩ rfl rfl hl.1 rfl (lv_room (Nat.le_of_ble_eq_true rfl)) dX12_either_45 ⟨Nat.le_of_ble_eq_true rfl, Nat.le_of_ble_eq_true rfl⟩) hS (fun q _ h => (freeM hS) q h) (freeM hS) (fun u t H1 locs ht hvm hw hB hz1 hk1 hS => ?_)
        unfold BM at hB
        rw [ht] at hB
        obtain ⟨v19511, F19512, rc9⟩ := u
        obtain ⟨hI, hrc, hf19513, hG19514, hw⟩ := hw
        dsimp only at hI hrc hB hf19513 hG19514 hw
        have hF := frCF (by decide) hG19514 hF
        rw [hrc] at hB
        have hP : va_P (dC, dI) classes (wM g c v19511 F19512 rc) H1 := hB
        have hw : (z19502.toInt ≤ (v19511 39).toInt ∧ (v19511 39).toInt ≤ ((va_up v19299 39 z19502) 30).toInt ∧ (v19299 38).toInt ≤ (v19511 38).toInt ∧ (v19511 38).toInt - (v19299 38).toInt ≤ (v19511 39).toInt - z19502.toInt ∧ (v19299 41).toInt ≤ (v19511 41).toInt ∧ ((v19511 40).toInt < 0 → (v19511 41).toInt = (v19299 41).toInt)) ∧ keepL ((va_up v19299 39 z19502) 37) (F19300 28) (F19300 29) (F19512 28) (F19512 29) ∧ ((v19511 40).toInt < 0 → dp (F19512 28) (F19512 29) (bI ((va_up v19299 39 z19502) 37)) (v19511 38).toInt.toNat = some ((d + 1) + 1)) := hw
        rw [show (va_up v19299 39 z19502) 30 = v 30 from hf19301 30 (by decide)] at hw
        rw [show (va_up v19299 39 z19502) 37 = v 37 from hf19301 37 (by decide)] at hw
        have hw_r19510 := hw
        have t19515 : 0 ≤ (v19511 38).toInt ∧ (v19511 38).toInt ≤ 120 := hI.1 38 _ _ rfl
        have t19516 : 0 ≤ (v19511 39).toInt ∧ (v19511 39).toInt ≤ 120 := hI.1 39 _ _ rfl
        have t19517 : 0 ≤ (v19511 41).toInt ∧ (v19511 41).toInt ≤ 8 := hI.1 41 _ _ rfl
        generalize H1 = H at hP hS ⊢
        have hk := hk.tr hw_r19510.2.1
        have hd := hw_r19510.2.2
        refine lv_aload_n hx hb dX12_either_48 rfl (lv_at hl 1 rfl) ?_
        refine lv_iload_n hx hb dX12_either_49 rfl (lv_at hl 0 rfl) ?_
        refine lv_iconst (v := 0) hx hb dX12_either_50 (by decide) ?_
        have t19518 : 0 ≤ (v 37).toInt ∧ (v 37).toInt ≤ 9 := by have h9 := hI.1 37 _ _ rfl; rw [show v19511 37 = v 37 from (hf19513 37 (by decide)).trans (hf19301 37 (by decide))] at h9; exact h9
        have t19519 : 0 ≤ (v19511 38).toInt ∧ (v19511 38).toInt ≤ 120 := hI.1 38 _ _ rfl
        refine va_callv (va_runV (As := [.int r19308, .int 0]) (rest := []) ⟨hx, hb, hml, hown, hwd⟩ (c_X12_lay l dC dI g c adK adV v19511 F19512 rc H.size r19308 0 hg hI (by have h9 : v19511 38 = v19511 38 := rfl; rw [h9]; omega)) (cwV 2 hwd (gV wk_1021 wk_1018 wk_1019 wk_1020 wk_5) rfl rfl rfl (by decide +kernel) ⟨Nat.le_of_ble_eq_true rfl, Nat.le_of_ble_eq_true rfl⟩) ⟨PM.blind, va_recv hK hP (ci := 12) (q0 := 0) rfl rfl, fun U hU hW => ⟨rfl, PM.at hK hE hP hS hU hW⟩⟩ rfl rfl hl.1 rfl (lv_room (Nat.le_of_ble_eq_true rfl)) dX12_either_51 ⟨Nat.le_of_ble_eq_true rfl, Nat.le_of_ble_eq_true rfl⟩) hS (fun q _ h => (freeM hS) q h) (freeM hS) (fun u t H1 locs ht hvm hw hB hz1 hk1 hS => ?_)
        unfold BM at hB
        rw [ht] at hB
        obtain ⟨v19521, F19522, rc9⟩ := u
        obtain ⟨hI, hrc, hf19523, hG19524, hw⟩ := hw
        dsimp only at hI hrc hB hf19523 hG19524 hw
        have hF := frCF (by decide) hG19524 hF
        rw [hrc] at hB
        have hP : va_P (dC, dI) classes (wM g c v19521 F19522 rc) H1 := hB
        have hw : (v19521 38).toInt = (v19511 38).toInt + 1 ∧ keepL (v19511 37) (F19512 28) (F19512 29) (F19522 28) (F19522 29) ∧ dp (F19522 28) (F19522 29) (bI (v19511 37)) ((v19511 38).toInt.toNat + 1) = dpS (dp (F19512 28) (F19512 29) (bI (v19511 37)) (v19511 38).toInt.toNat) r19308 (0 : Int32) := hw
        rw [show v19511 37 = v 37 from (hf19513 37 (by decide)).trans (hf19301 37 (by decide))] at hw
        have hw_r19520 := hw
        have t19525 : 0 ≤ (v19521 38).toInt ∧ (v19521 38).toInt ≤ 120 := hI.1 38 _ _ rfl
        have k19526 : (0 : Int32).toInt = 0 := by decide
        generalize H1 = H at hP hS ⊢
        have hk := hk.tr hw_r19520.2.1
        have hd : (v19511 40).toInt < 0 → dp (F19522 28) (F19522 29) (bI (v 37)) (v19521 38).toInt.toNat = some (((d + 1) + 1) - 1) := fun hf => (by have e9 : (v19521 38).toInt.toNat = (v19511 38).toInt.toNat + 1 := (by omega); rw [e9, hw_r19520.2.2, hd hf]; exact dpS_5 (by omega) (by omega) (by omega) (by omega) (by omega))
        refine lv_aload_n hx hb dX12_either_54 rfl (lv_at hl 1 rfl) ?_
        refine va_get (D := (dC, dI)) (ci := 12) (v := .int (v19521 40)) (C := RX12) (T := TX12) (N := 63) hx hb hwd inA_X12 hown hK hP 0 rfl rfl 40 (by decide) (hwd _ wk_1005) (fun _ h9 => h9) rfl dX12_either_55 ?_
        refine my_top (v := v19511 40) (hf19523 40 (by decide)) ?_
        refine lv_if_ge (tgt := 70) hx hb dX12_either_58 (by decide) (fun c19527 => ?_) (fun c19527 => ?_)
        · skip
          have t19528 := cv_le (a := 0) (by decide) (b := (v19511 40).toInt) rfl c19527
          have hP9 : va_P (dC, dI) classes (wM g c v19521 F19522 rc) H := hP
          exact W.vret hx hb hr (fun t ht hW => ⟨⟨(v19521, F19522, rc), rfl, ⟨hI, rfl, (frC (by decide) hf19523 (frC (by decide) hf19513 (frU (by decide) (frC (by decide) hf19301 (fun _ _ => rfl))))), hF, (by show ((v 39).toInt ≤ (v19521 39).toInt ∧ (v19521 39).toInt ≤ (v 30).toInt ∧ (v 38).toInt ≤ (v19521 38).toInt ∧ (v19521 38).toInt - (v 38).toInt ≤ (v19521 39).toInt - (v 39).toInt ∧ (v 41).toInt ≤ (v19521 41).toInt ∧ ((v19521 40).toInt < 0 → (v19521 41).toInt = (v 41).toInt)) ∧ keepL (v 37) (F 28) (F 29) (F19522 28) (F19522 29) ∧ ((v19521 40).toInt < 0 → dp (F19522 28) (F19522 29) (bI (v 37)) (v19521 38).toInt.toNat = some (d + 1)); rw [show v19521 39 = v19511 39 from hf19523 39 (by decide)]; rw [show v19521 41 = v19511 41 from hf19523 41 (by decide)]; rw [show v19521 40 = v19511 40 from hf19523 40 (by decide)]; exact ⟨by omega, hk, fun hf => (hd (by omega)).trans (congrArg some (by omega))⟩)⟩, (by show va_P _ _ _ t.heap; rw [ht]; exact hP9)⟩, hS.F ht⟩) hS.2.2 dX12_either_70
        · skip
          have t19529 := cv_nle (a := 0) (by decide) (b := (v19511 40).toInt) rfl c19527
          refine lv_aload_n hx hb dX12_either_61 rfl (lv_at hl 1 rfl) ?_
          have t19530 : 0 ≤ (v 30).toInt ∧ (v 30).toInt ≤ 120 := by have h9 := hI.1 30 _ _ rfl; rw [show v19521 30 = v 30 from (hf19523 30 (by decide)).trans ((hf19513 30 (by decide)).trans (hf19301 30 (by decide)))] at h9; exact h9
          have t19531 : 0 ≤ (v19511 39).toInt ∧ (v19511 39).toInt ≤ 120 := by have h9 := hI.1 39 _ _ rfl; rw [show v19521 39 = v19511 39 from hf19523 39 (by decide)] at h9; exact h9
          refine va_calli (va_runV (As := []) (rest := []) ⟨hx, hb, hml, hown, hwd⟩ (c_X12_look l dC dI g c adK adV v19521 F19522 rc H.size  hg hI ) (cwV 0 hwd (gV wk_1017 wk_1014 wk_1015 wk_1016 wk_5) rfl rfl rfl (by decide +kernel) ⟨Nat.le_of_ble_eq_true rfl, Nat.le_of_ble_eq_true rfl⟩) ⟨PM.blind, va_recv hK hP (ci := 12) (q0 := 0) rfl rfl, fun U hU hW => ⟨rfl, PM.at hK hE hP hS hU hW⟩⟩ rfl rfl hl.1 rfl (lv_room (Nat.le_of_ble_eq_true rfl)) dX12_either_62 ⟨Nat.le_of_ble_eq_true rfl, Nat.le_of_ble_eq_true rfl⟩) hS (fun q _ h => (freeM hS) q h) (freeM hS) (fun r19532 u t H1 locs ht hvm hw hB hz1 hk1 hS => ?_)
          unfold BM at hB
          rw [ht] at hB
          have hP : va_P (dC, dI) classes (wM g c v19521 F19522 rc) H1 := hB
          have hw : r19532.toInt = lkM (v19521 39) (v19521 30) (F19522 24) ∧ ((v19521 39).toInt < (v19521 30).toInt ∨ r19532.toInt = -1) := hw
          rw [show v19521 39 = v19511 39 from hf19523 39 (by decide)] at hw
          rw [show v19521 30 = v 30 from (hf19523 30 (by decide)).trans ((hf19513 30 (by decide)).trans (hf19301 30 (by decide)))] at hw
          rw [hF 24 (by decide)] at hw
          have hw_r19532 := hw
          generalize H1 = H at hP hS ⊢
          refine lv_bipush (v := 63) hx hb dX12_either_65 (by decide) ?_
          refine lv_icmp_eq (tgt := 71) hx hb dX12_either_67 (by decide) (fun c19533 => ?_) (fun c19533 => ?_)
          · skip
            have t19534 := cv_eq (a := r19532.toInt) rfl (b := 63) (by decide) c19533
            refine lv_aload_n hx hb dX12_either_71 rfl (lv_at hl 1 rfl) ?_
            have t19535 : 0 ≤ (v19511 39).toInt ∧ (v19511 39).toInt ≤ 120 := by have h9 := hI.1 39 _ _ rfl; rw [show v19521 39 = v19511 39 from hf19523 39 (by decide)] at h9; exact h9
            have t19536 : 0 ≤ (v19511 41).toInt ∧ (v19511 41).toInt ≤ 8 := by have h9 := hI.1 41 _ _ rfl; rw [show v19521 41 = v19511 41 from hf19523 41 (by decide)] at h9; exact h9
            refine va_calli (va_runV (As := []) (rest := []) ⟨hx, hb, hml, hown, hwd⟩ (c_X12_opens l dC dI g c adK adV v19521 F19522 rc H.size  hg hI (by have h9 : v19521 39 = v19511 39 := hf19523 39 (by decide); (try rw [h9]); clear h9; have h9 : v19521 30 = v 30 := (hf19523 30 (by decide)).trans ((hf19513 30 (by decide)).trans (hf19301 30 (by decide))); (try rw [h9]); clear h9; omega)) (cwV 0 hwd (gV wk_1025 wk_1022 wk_1023 wk_1024 wk_5) rfl rfl rfl (by decide +kernel) ⟨Nat.le_of_ble_eq_true rfl, Nat.le_of_ble_eq_true rfl⟩) ⟨PM.blind, va_recv hK hP (ci := 12) (q0 := 0) rfl rfl, fun U hU hW => ⟨rfl, PM.at hK hE hP hS hU hW⟩⟩ rfl rfl hl.1 rfl (lv_room (Nat.le_of_ble_eq_true rfl)) dX12_either_72 ⟨Nat.le_of_ble_eq_true rfl, Nat.le_of_ble_eq_true rfl⟩) hS (fun q _ h => (freeM hS) q h) (freeM hS) (fun r19537 u t H1 locs ht hvm hw hB hz1 hk1 hS => ?_)
            unfold BM at hB
            rw [ht] at hB
            obtain ⟨v19538, F19539, rc9⟩ := u
            obtain ⟨hI, hrc, hf19540, hG19541, hw⟩ := hw
            dsimp only at hI hrc hB hf19540 hG19541 hw
            have hF := frCF (by decide) hG19541 hF
            rw [hrc] at hB
            have hP : va_P (dC, dI) classes (wM g c v19538 F19539 rc) H1 := hB
            have hw : (r19537.toInt = 1 ∧ (v19521 41).toInt < 8 ∧ (v19538 41).toInt = (v19521 41).toInt + 1 ∧ (v19538 39).toInt = (v19521 39).toInt + 1 ∧ (v19538 40).toInt = (v19521 40).toInt) ∨ (r19537.toInt = 0 ∧ (v19521 41).toInt = 8 ∧ 0 ≤ (v19538 40).toInt ∧ (v19538 41).toInt = (v19521 41).toInt ∧ (v19538 39).toInt = (v19521 39).toInt) := hw
            rw [show v19521 41 = v19511 41 from hf19523 41 (by decide)] at hw
            rw [show v19521 39 = v19511 39 from hf19523 39 (by decide)] at hw
            rw [show v19521 40 = v19511 40 from hf19523 40 (by decide)] at hw
            have hw_r19537 := hw
            have t19542 : 0 ≤ (v19538 39).toInt ∧ (v19538 39).toInt ≤ 120 := hI.1 39 _ _ rfl
            have t19543 : 0 ≤ (v19538 41).toInt ∧ (v19538 41).toInt ≤ 8 := hI.1 41 _ _ rfl
            generalize H1 = H at hP hS ⊢
            have hk : keepL (v 37) (F 28) (F 29) (F19539 28) (F19539 29) := by rw [hG19541 28 (by decide), hG19541 29 (by decide)]; exact hk
            have hd : (v19538 40).toInt < 0 → dp (F19539 28) (F19539 29) (bI (v 37)) (v19521 38).toInt.toNat = some (((d + 1) + 1) - 1) := fun hf => (by rw [hG19541 28 (by decide), hG19541 29 (by decide)]; exact hd (by omega))
            refine lv_if_ne (tgt := 79) hx hb dX12_either_75 (by decide) (fun c19544 => ?_) (fun c19544 => ?_)
            · skip
              have t19545 := cv_ne (a := r19537.toInt) rfl (b := 0) (by decide) c19544
              refine lv_aload_n hx hb dX12_either_79 rfl (lv_at hl 1 rfl) ?_
              have t19546 : 0 ≤ (v 30).toInt ∧ (v 30).toInt ≤ 120 := by have h9 := hI.1 30 _ _ rfl; rw [show v19538 30 = v 30 from (hf19540 30 (by decide)).trans ((hf19523 30 (by decide)).trans ((hf19513 30 (by decide)).trans (hf19301 30 (by decide))))] at h9; exact h9
              have t19547 : 0 ≤ (v 37).toInt ∧ (v 37).toInt ≤ 9 := by have h9 := hI.1 37 _ _ rfl; rw [show v19538 37 = v 37 from (hf19540 37 (by decide)).trans ((hf19523 37 (by decide)).trans ((hf19513 37 (by decide)).trans (hf19301 37 (by decide))))] at h9; exact h9
              have t19548 : 0 ≤ (v19521 38).toInt ∧ (v19521 38).toInt ≤ 120 := by have h9 := hI.1 38 _ _ rfl; rw [show v19538 38 = v19521 38 from hf19540 38 (by decide)] at h9; exact h9
              have t19549 : 0 ≤ (v19538 39).toInt ∧ (v19538 39).toInt ≤ 120 := hI.1 39 _ _ rfl
              have t19550 : 0 ≤ (v19538 41).toInt ∧ (v19538 41).toInt ≤ 8 := hI.1 41 _ _ rfl
              refine va_callv (va_runV (As := []) (rest := []) ⟨hx, hb, hml, hown, hwd⟩ (c_X12_either_4 l dC dI g c adK adV v19538 F19539 rc H.size  (((d + 1) + 1) - 1) hg hI (by have h9 : v19538 38 = v19521 38 := hf19540 38 (by decide); (try rw [h9]); clear h9; have h9 : v19538 39 = v19538 39 := rfl; (try rw [h9]); clear h9; have h9 : v19538 30 = v 30 := (hf19540 30 (by decide)).trans ((hf19523 30 (by decide)).trans ((hf19513 30 (by decide)).trans (hf19301 30 (by decide)))); (try rw [h9]); clear h9; have h9 : v19538 40 = v19538 40 := rfl; (try rw [h9]); clear h9; have h9 : v19538 41 = v19538 41 := rfl; (try rw [h9]); clear h9; omega) (by have h9 : v19538 37 = (v 37) := (hf19540 37 (by decide)).trans ((hf19523 37 (by decide)).trans ((hf19513 37 (by decide)).trans (hf19301 37 (by decide)))); have h8 : v19538 38 = (v19521 38) := hf19540 38 (by decide); (try rw [h9]); (try rw [h8]); exact hd (by omega))) (cwV 0 hwd (gV wk_1010 wk_1007 wk_1008 wk_1009 wk_5) rfl rfl rfl (by decide +kernel) ⟨Nat.le_of_ble_eq_true rfl, Nat.le_of_ble_eq_true rfl⟩) ⟨PM.blind, va_recv hK hP (ci := 12) (q0 := 0) rfl rfl, fun U hU hW => ⟨rfl, PM.at hK hE hP hS hU hW⟩⟩ rfl rfl hl.1 rfl (lv_room (Nat.le_of_ble_eq_true rfl)) dX12_either_80 ⟨Nat.le_of_ble_eq_true rfl, Nat.le_of_ble_eq_true rfl⟩) hS (fun q _ h => (freeM hS) q h) (freeM hS) (fun u t H1 locs ht hvm hw hB hz1 hk1 hS => ?_)
              unfold BM at hB
              rw [ht] at hB
              obtain ⟨v19552, F19553, rc9⟩ := u
              obtain ⟨hI, hrc, hf19554, hG19555, hw⟩ := hw
              dsimp only at hI hrc hB hf19554 hG19555 hw
              have hF := frCF (by decide) hG19555 hF
              rw [hrc] at hB
              have hP : va_P (dC, dI) classes (wM g c v19552 F19553 rc) H1 := hB
              have hw : ((v19538 39).toInt ≤ (v19552 39).toInt ∧ (v19552 39).toInt ≤ (v19538 30).toInt ∧ (v19538 38).toInt ≤ (v19552 38).toInt ∧ (v19552 38).toInt - (v19538 38).toInt ≤ (v19552 39).toInt - (v19538 39).toInt ∧ (v19538 41).toInt ≤ (v19552 41).toInt ∧ ((v19552 40).toInt < 0 → (v19552 41).toInt = (v19538 41).toInt)) ∧ keepL (v19538 37) (F19539 28) (F19539 29) (F19553 28) (F19553 29) ∧ ((v19552 40).toInt < 0 → dp (F19553 28) (F19553 29) (bI (v19538 37)) (v19552 38).toInt.toNat = some ((((d + 1) + 1) - 1) + 1)) := hw
              rw [show v19538 30 = v 30 from (hf19540 30 (by decide)).trans ((hf19523 30 (by decide)).trans ((hf19513 30 (by decide)).trans (hf19301 30 (by decide))))] at hw
              rw [show v19538 38 = v19521 38 from hf19540 38 (by decide)] at hw
              rw [show v19538 37 = v 37 from (hf19540 37 (by decide)).trans ((hf19523 37 (by decide)).trans ((hf19513 37 (by decide)).trans (hf19301 37 (by decide))))] at hw
              have hw_r19551 := hw
              have t19556 : 0 ≤ (v19552 38).toInt ∧ (v19552 38).toInt ≤ 120 := hI.1 38 _ _ rfl
              have t19557 : 0 ≤ (v19552 39).toInt ∧ (v19552 39).toInt ≤ 120 := hI.1 39 _ _ rfl
              have t19558 : 0 ≤ (v19552 41).toInt ∧ (v19552 41).toInt ≤ 8 := hI.1 41 _ _ rfl
              generalize H1 = H at hP hS ⊢
              have hk := hk.tr hw_r19551.2.1
              have hd := hw_r19551.2.2
              refine lv_aload_n hx hb dX12_either_83 rfl (lv_at hl 1 rfl) ?_
              refine va_get (D := (dC, dI)) (ci := 12) (v := .int (v19552 40)) (C := RX12) (T := TX12) (N := 63) hx hb hwd inA_X12 hown hK hP 0 rfl rfl 40 (by decide) (hwd _ wk_1005) (fun _ h9 => h9) rfl dX12_either_84 ?_
              refine lv_if_lt (tgt := 91) hx hb dX12_either_87 (by decide) (fun c19559 => ?_) (fun c19559 => ?_)
              · skip
                have t19560 := cv_lt (a := (v19552 40).toInt) rfl (b := 0) (by decide) c19559
                refine lv_aload_n hx hb dX12_either_91 rfl (lv_at hl 1 rfl) ?_
                have t19561 : 0 ≤ (v 30).toInt ∧ (v 30).toInt ≤ 120 := by have h9 := hI.1 30 _ _ rfl; rw [show v19552 30 = v 30 from (hf19554 30 (by decide)).trans ((hf19540 30 (by decide)).trans ((hf19523 30 (by decide)).trans ((hf19513 30 (by decide)).trans (hf19301 30 (by decide)))))] at h9; exact h9
                have t19562 : 0 ≤ (v19552 39).toInt ∧ (v19552 39).toInt ≤ 120 := hI.1 39 _ _ rfl
                refine va_calli (va_runV (As := []) (rest := []) ⟨hx, hb, hml, hown, hwd⟩ (c_X12_look l dC dI g c adK adV v19552 F19553 rc H.size  hg hI ) (cwV 0 hwd (gV wk_1017 wk_1014 wk_1015 wk_1016 wk_5) rfl rfl rfl (by decide +kernel) ⟨Nat.le_of_ble_eq_true rfl, Nat.le_of_ble_eq_true rfl⟩) ⟨PM.blind, va_recv hK hP (ci := 12) (q0 := 0) rfl rfl, fun U hU hW => ⟨rfl, PM.at hK hE hP hS hU hW⟩⟩ rfl rfl hl.1 rfl (lv_room (Nat.le_of_ble_eq_true rfl)) dX12_either_92 ⟨Nat.le_of_ble_eq_true rfl, Nat.le_of_ble_eq_true rfl⟩) hS (fun q _ h => (freeM hS) q h) (freeM hS) (fun r19563 u t H1 locs ht hvm hw hB hz1 hk1 hS => ?_)
                unfold BM at hB
                rw [ht] at hB
                have hP : va_P (dC, dI) classes (wM g c v19552 F19553 rc) H1 := hB
                have hw : r19563.toInt = lkM (v19552 39) (v19552 30) (F19553 24) ∧ ((v19552 39).toInt < (v19552 30).toInt ∨ r19563.toInt = -1) := hw
                rw [show v19552 30 = v 30 from (hf19554 30 (by decide)).trans ((hf19540 30 (by decide)).trans ((hf19523 30 (by decide)).trans ((hf19513 30 (by decide)).trans (hf19301 30 (by decide)))))] at hw
                rw [hF 24 (by decide)] at hw
                have hw_r19563 := hw
                generalize H1 = H at hP hS ⊢
                refine lv_bipush (v := 58) hx hb dX12_either_95 (by decide) ?_
                refine lv_icmp_eq (tgt := 105) hx hb dX12_either_97 (by decide) (fun c19564 => ?_) (fun c19564 => ?_)
                · skip
                  have t19565 := cv_eq (a := r19563.toInt) rfl (b := 58) (by decide) c19564
                  refine lv_aload_n hx hb dX12_either_105 rfl (lv_at hl 1 rfl) ?_
                  refine lv_dup hx hb dX12_either_106 rfl ?_
                  refine va_get (D := (dC, dI)) (ci := 12) (v := .int (v19552 39)) (C := RX12) (T := TX12) (N := 63) hx hb hwd inA_X12 hown hK hP 0 rfl rfl 39 (by decide) (hwd _ wk_1004) (fun _ h9 => h9) rfl dX12_either_107 ?_
                  have t19566 : 0 ≤ (v19552 39).toInt ∧ (v19552 39).toInt ≤ 120 := hI.1 39 _ _ rfl
                  refine lv_iconst (v := 1) hx hb dX12_either_110 (by decide) ?_
                  refine lv_iadd hx hb dX12_either_111 ?_
                  refine lv_topi (fun z19567 e19568 => ?_)
                  try (have t19569 := tadd e19568 (a := (v19552 39).toInt) rfl (b := 1) (by decide) (by omega))
                  refine va_put (D := (dC, dI)) (ci := 12) (v := .int z19567) (ty := .int) (C := RX12) (T := TX12) (N := 63) (fs := fsM_0 g v19552 rc) hx hb hwd inA_X12 tyX12 tyX12_ok nmX12 hown hK hP (DM hg) hS 0 rfl rfl 39 (by decide) (hwd _ wk_1004) (fun _ h9 => h9) rfl (by decide +kernel) rfl rfl (Nat.le_of_ble_eq_true rfl) dX12_either_112 (fun H locs hP _ hS => ?_)
                  have hP := va_P_eq (pM_39 g c _ _ _ _) hP
                  have hI := IM.put hI 39 z19567 rfl (by omega)
                  refine lv_aload_n hx hb dX12_either_115 rfl (lv_at hl 1 rfl) ?_
                  have t19570 : 0 ≤ (v 30).toInt ∧ (v 30).toInt ≤ 120 := by have h9 := hI.1 30 _ _ rfl; rw [show (va_up v19552 39 z19567) 30 = v 30 from (hf19554 30 (by decide)).trans ((hf19540 30 (by decide)).trans ((hf19523 30 (by decide)).trans ((hf19513 30 (by decide)).trans (hf19301 30 (by decide)))))] at h9; exact h9
                  have t19571 : 0 ≤ (v 37).toInt ∧ (v 37).toInt ≤ 9 := by have h9 := hI.1 37 _ _ rfl; rw [show (va_up v19552 39 z19567) 37 = v 37 from (hf19554 37 (by decide)).trans ((hf19540 37 (by decide)).trans ((hf19523 37 (by decide)).trans ((hf19513 37 (by decide)).trans (hf19301 37 (by decide)))))] at h9; exact h9
                  have t19572 : 0 ≤ (v19552 38).toInt ∧ (v19552 38).toInt ≤ 120 := hI.1 38 _ _ rfl
                  have t19573 : 0 ≤ z19567.toInt ∧ z19567.toInt ≤ 120 := hI.1 39 _ _ rfl
                  have t19574 : 0 ≤ (v19552 41).toInt ∧ (v19552 41).toInt ≤ 8 := hI.1 41 _ _ rfl
                  refine va_callv (va_runV (As := []) (rest := []) ⟨hx, hb, hml, hown, hwd⟩ (c_X12_either_4 l dC dI g c adK adV (va_up v19552 39 z19567) F19553 rc H.size  ((((d + 1) + 1) - 1) + 1) hg hI (by have h9 : (va_up v19552 39 z19567) 38 = v19552 38 := rfl; (try rw [h9]); clear h9; have h9 : (va_up v19552 39 z19567) 39 = z19567 := rfl; (try rw [h9]); clear h9; have h9 : (va_up v19552 39 z19567) 30 = v 30 := (hf19554 30 (by decide)).trans ((hf19540 30 (by decide)).trans ((hf19523 30 (by decide)).trans ((hf19513 30 (by decide)).trans (hf19301 30 (by decide))))); (try rw [h9]); clear h9; have h9 : (va_up v19552 39 z19567) 40 = v19552 40 := rfl; (try rw [h9]); clear h9; have h9 : (va_up v19552 39 z19567) 41 = v19552 41 := rfl; (try rw [h9]); clear h9; omega) (by have h9 : (va_up v19552 39 z19567) 37 = (v 37) := (hf19554 37 (by decide)).trans ((hf19540 37 (by decide)).trans ((hf19523 37 (by decide)).trans ((hf19513 37 (by decide)).trans (hf19301 37 (by decide))))); have h8 : (va_up v19552 39 z19567) 38 = (v19552 38) := rfl; (try rw [h9]); (try rw [h8]); exact hd (by omega))) (cwV 0 hwd (gV wk_1010 wk_1007 wk_1008 wk_1009 wk_5) rfl rfl rfl (by decide +kernel) ⟨Nat.le_of_ble_eq_true rfl, Nat.le_of_ble_eq_true rfl⟩) ⟨PM.blind, va_recv hK hP (ci := 12) (q0 := 0) rfl rfl, fun U hU hW => ⟨rfl, PM.at hK hE hP hS hU hW⟩⟩ rfl rfl hl.1 rfl (lv_room (Nat.le_of_ble_eq_true rfl)) dX12_either_116 ⟨Nat.le_of_ble_eq_true rfl, Nat.le_of_ble_eq_true rfl⟩) hS (fun q _ h => (freeM hS) q h) (freeM hS) (fun u t H1 locs ht hvm hw hB hz1 hk1 hS => ?_)
                  unfold BM at hB
                  rw [ht] at hB
                  obtain ⟨v19576, F19577, rc9⟩ := u
                  obtain ⟨hI, hrc, hf19578, hG19579, hw⟩ := hw
                  dsimp only at hI hrc hB hf19578 hG19579 hw
                  have hF := frCF (by decide) hG19579 hF
                  rw [hrc] at hB
                  have hP : va_P (dC, dI) classes (wM g c v19576 F19577 rc) H1 := hB
                  have hw : (z19567.toInt ≤ (v19576 39).toInt ∧ (v19576 39).toInt ≤ ((va_up v19552 39 z19567) 30).toInt ∧ (v19552 38).toInt ≤ (v19576 38).toInt ∧ (v19576 38).toInt - (v19552 38).toInt ≤ (v19576 39).toInt - z19567.toInt ∧ (v19552 41).toInt ≤ (v19576 41).toInt ∧ ((v19576 40).toInt < 0 → (v19576 41).toInt = (v19552 41).toInt)) ∧ keepL ((va_up v19552 39 z19567) 37) (F19553 28) (F19553 29) (F19577 28) (F19577 29) ∧ ((v19576 40).toInt < 0 → dp (F19577 28) (F19577 29) (bI ((va_up v19552 39 z19567) 37)) (v19576 38).toInt.toNat = some (((((d + 1) + 1) - 1) + 1) + 1)) := hw
                  rw [show (va_up v19552 39 z19567) 30 = v 30 from (hf19554 30 (by decide)).trans ((hf19540 30 (by decide)).trans ((hf19523 30 (by decide)).trans ((hf19513 30 (by decide)).trans (hf19301 30 (by decide)))))] at hw
                  rw [show (va_up v19552 39 z19567) 37 = v 37 from (hf19554 37 (by decide)).trans ((hf19540 37 (by decide)).trans ((hf19523 37 (by decide)).trans ((hf19513 37 (by decide)).trans (hf19301 37 (by decide)))))] at hw
                  have hw_r19575 := hw
                  have t19580 : 0 ≤ (v19576 38).toInt ∧ (v19576 38).toInt ≤ 120 := hI.1 38 _ _ rfl
                  have t19581 : 0 ≤ (v19576 39).toInt ∧ (v19576 39).toInt ≤ 120 := hI.1 39 _ _ rfl
                  have t19582 : 0 ≤ (v19576 41).toInt ∧ (v19576 41).toInt ≤ 8 := hI.1 41 _ _ rfl
                  generalize H1 = H at hP hS ⊢
                  have hk := hk.tr hw_r19575.2.1
                  have hd := hw_r19575.2.2
                  refine lv_aload_n hx hb dX12_either_119 rfl (lv_at hl 1 rfl) ?_
                  refine lv_iconst (v := 4) hx hb dX12_either_120 (by decide) ?_
                  refine lv_iconst (v := 0) hx hb dX12_either_121 (by decide) ?_
                  have t19583 : 0 ≤ (v 37).toInt ∧ (v 37).toInt ≤ 9 := by have h9 := hI.1 37 _ _ rfl; rw [show v19576 37 = v 37 from (hf19578 37 (by decide)).trans ((hf19554 37 (by decide)).trans ((hf19540 37 (by decide)).trans ((hf19523 37 (by decide)).trans ((hf19513 37 (by decide)).trans (hf19301 37 (by decide))))))] at h9; exact h9
                  have t19584 : 0 ≤ (v19576 38).toInt ∧ (v19576 38).toInt ≤ 120 := hI.1 38 _ _ rfl
                  refine va_callv (va_runV (As := [.int 4, .int 0]) (rest := []) ⟨hx, hb, hml, hown, hwd⟩ (c_X12_lay l dC dI g c adK adV v19576 F19577 rc H.size 4 0 hg hI (by have h9 : v19576 38 = v19576 38 := rfl; rw [h9]; omega)) (cwV 2 hwd (gV wk_1021 wk_1018 wk_1019 wk_1020 wk_5) rfl rfl rfl (by decide +kernel) ⟨Nat.le_of_ble_eq_true rfl, Nat.le_of_ble_eq_true rfl⟩) ⟨PM.blind, va_recv hK hP (ci := 12) (q0 := 0) rfl rfl, fun U hU hW => ⟨rfl, PM.at hK hE hP hS hU hW⟩⟩ rfl rfl hl.1 rfl (lv_room (Nat.le_of_ble_eq_true rfl)) dX12_either_122 ⟨Nat.le_of_ble_eq_true rfl, Nat.le_of_ble_eq_true rfl⟩) hS (fun q _ h => (freeM hS) q h) (freeM hS) (fun u t H1 locs ht hvm hw hB hz1 hk1 hS => ?_)
                  unfold BM at hB
                  rw [ht] at hB
                  obtain ⟨v19586, F19587, rc9⟩ := u
                  obtain ⟨hI, hrc, hf19588, hG19589, hw⟩ := hw
                  dsimp only at hI hrc hB hf19588 hG19589 hw
                  have hF := frCF (by decide) hG19589 hF
                  rw [hrc] at hB
                  have hP : va_P (dC, dI) classes (wM g c v19586 F19587 rc) H1 := hB
                  have hw : (v19586 38).toInt = (v19576 38).toInt + 1 ∧ keepL (v19576 37) (F19577 28) (F19577 29) (F19587 28) (F19587 29) ∧ dp (F19587 28) (F19587 29) (bI (v19576 37)) ((v19576 38).toInt.toNat + 1) = dpS (dp (F19577 28) (F19577 29) (bI (v19576 37)) (v19576 38).toInt.toNat) (4 : Int32) (0 : Int32) := hw
                  rw [show v19576 37 = v 37 from (hf19578 37 (by decide)).trans ((hf19554 37 (by decide)).trans ((hf19540 37 (by decide)).trans ((hf19523 37 (by decide)).trans ((hf19513 37 (by decide)).trans (hf19301 37 (by decide))))))] at hw
                  have hw_r19585 := hw
                  have t19590 : 0 ≤ (v19586 38).toInt ∧ (v19586 38).toInt ≤ 120 := hI.1 38 _ _ rfl
                  have k19591 : (4 : Int32).toInt = 4 := by decide
                  have k19592 : (0 : Int32).toInt = 0 := by decide
                  generalize H1 = H at hP hS ⊢
                  have hk := hk.tr hw_r19585.2.1
                  have hd : (v19576 40).toInt < 0 → dp (F19587 28) (F19587 29) (bI (v 37)) (v19586 38).toInt.toNat = some ((((((d + 1) + 1) - 1) + 1) + 1) - 2) := fun hf => (by have e9 : (v19586 38).toInt.toNat = (v19576 38).toInt.toNat + 1 := (by omega); rw [e9, hw_r19585.2.2, hd hf]; exact dpS_4 (by decide) (by omega))
                  refine lv_aload_n hx hb dX12_either_125 rfl (lv_at hl 1 rfl) ?_
                  refine lv_dup hx hb dX12_either_126 rfl ?_
                  refine va_get (D := (dC, dI)) (ci := 12) (v := .int (v19586 41)) (C := RX12) (T := TX12) (N := 63) hx hb hwd inA_X12 hown hK hP 0 rfl rfl 41 (by decide) (hwd _ wk_1006) (fun _ h9 => h9) rfl dX12_either_127 ?_
                  refine my_top (v := v19576 41) (hf19588 41 (by decide)) ?_
                  have t19593 : 0 ≤ (v19576 41).toInt ∧ (v19576 41).toInt ≤ 8 := by have h9 := hI.1 41 _ _ rfl; rw [show v19586 41 = v19576 41 from hf19588 41 (by decide)] at h9; exact h9
                  refine lv_iconst (v := 1) hx hb dX12_either_130 (by decide) ?_
                  refine lv_isub hx hb dX12_either_131 ?_
                  refine lv_topi (fun z19594 e19595 => ?_)
                  try (have t19596 := tsub e19595 (a := (v19576 41).toInt) rfl (b := 1) (by decide) (by omega))
                  refine va_put (D := (dC, dI)) (ci := 12) (v := .int z19594) (ty := .int) (C := RX12) (T := TX12) (N := 63) (fs := fsM_0 g v19586 rc) hx hb hwd inA_X12 tyX12 tyX12_ok nmX12 hown hK hP (DM hg) hS 0 rfl rfl 41 (by decide) (hwd _ wk_1006) (fun _ h9 => h9) rfl (by decide +kernel) rfl rfl (Nat.le_of_ble_eq_true rfl) dX12_either_132 (fun H locs hP _ hS => ?_)
                  have hP := va_P_eq (pM_41 g c _ _ _ _) hP
                  have hI := IM.put hI 41 z19594 rfl (by omega)
                  have hP9 : va_P (dC, dI) classes (wM g c (va_up v19586 41 z19594) F19587 rc) H := hP
                  exact W.vret hx hb hr (fun t ht hW => ⟨⟨((va_up v19586 41 z19594), F19587, rc), rfl, ⟨hI, rfl, (frU (by decide) (frC (by decide) hf19588 (frC (by decide) hf19578 (frU (by decide) (frC (by decide) hf19554 (frC (by decide) hf19540 (frC (by decide) hf19523 (frC (by decide) hf19513 (frU (by decide) (frC (by decide) hf19301 (fun _ _ => rfl))))))))))), hF, (by show ((v 39).toInt ≤ ((va_up v19586 41 z19594) 39).toInt ∧ ((va_up v19586 41 z19594) 39).toInt ≤ (v 30).toInt ∧ (v 38).toInt ≤ (v19586 38).toInt ∧ (v19586 38).toInt - (v 38).toInt ≤ ((va_up v19586 41 z19594) 39).toInt - (v 39).toInt ∧ (v 41).toInt ≤ z19594.toInt ∧ (((va_up v19586 41 z19594) 40).toInt < 0 → z19594.toInt = (v 41).toInt)) ∧ keepL (v 37) (F 28) (F 29) (F19587 28) (F19587 29) ∧ (((va_up v19586 41 z19594) 40).toInt < 0 → dp (F19587 28) (F19587 29) (bI (v 37)) (v19586 38).toInt.toNat = some (d + 1)); rw [show (va_up v19586 41 z19594) 39 = v19576 39 from hf19588 39 (by decide)]; rw [show (va_up v19586 41 z19594) 40 = v19576 40 from hf19588 40 (by decide)]; exact ⟨by omega, hk, fun hf => (hd (by omega)).trans (congrArg some (by omega))⟩)⟩, (by show va_P _ _ _ t.heap; rw [ht]; exact hP9)⟩, hS.F ht⟩) hS.2.2 dX12_either_135
                · skip
                  have t19597 := cv_ne (a := r19563.toInt) rfl (b := 58) (by decide) c19564
                  refine lv_aload_n hx hb dX12_either_100 rfl (lv_at hl 1 rfl) ?_
                  refine va_callv (va_runV (As := []) (rest := []) ⟨hx, hb, hml, hown, hwd⟩ (c_X12_wrong l dC dI g c adK adV v19552 F19553 rc H.size  hg hI ) (cwV 0 hwd (gV wk_1029 wk_1026 wk_1027 wk_1028 wk_5) rfl rfl rfl (by decide +kernel) ⟨Nat.le_of_ble_eq_true rfl, Nat.le_of_ble_eq_true rfl⟩) ⟨PM.blind, va_recv hK hP (ci := 12) (q0 := 0) rfl rfl, fun U hU hW => ⟨rfl, PM.at hK hE hP hS hU hW⟩⟩ rfl rfl hl.1 rfl (lv_room (Nat.le_of_ble_eq_true rfl)) dX12_either_101 ⟨Nat.le_of_ble_eq_true rfl, Nat.le_of_ble_eq_true rfl⟩) hS (fun q _ h => (freeM hS) q h) (freeM hS) (fun u t H1 locs ht hvm hw hB hz1 hk1 hS => ?_)
                  unfold BM at hB
                  rw [ht] at hB
                  obtain ⟨v19599, F19600, rc9⟩ := u
                  obtain ⟨hI, hrc, hf19601, hG19602, hw⟩ := hw
                  dsimp only at hI hrc hB hf19601 hG19602 hw
                  have hF := frCF (by decide) hG19602 hF
                  rw [hrc] at hB
                  have hP : va_P (dC, dI) classes (wM g c v19599 F19600 rc) H1 := hB
                  have hw : 0 ≤ (v19599 40).toInt := hw
                  have hw_r19598 := hw
                  generalize H1 = H at hP hS ⊢
                  have hk : keepL (v 37) (F 28) (F 29) (F19600 28) (F19600 29) := by rw [hG19602 28 (by decide), hG19602 29 (by decide)]; exact hk
                  have hd : (v19599 40).toInt < 0 → dp (F19600 28) (F19600 29) (bI (v 37)) (v19552 38).toInt.toNat = some ((((d + 1) + 1) - 1) + 1) := fun hf => (by rw [hG19602 28 (by decide), hG19602 29 (by decide)]; exact hd (by omega))
                  have hP9 : va_P (dC, dI) classes (wM g c v19599 F19600 rc) H := hP
                  exact W.vret hx hb hr (fun t ht hW => ⟨⟨(v19599, F19600, rc), rfl, ⟨hI, rfl, (frC (by decide) hf19601 (frC (by decide) hf19554 (frC (by decide) hf19540 (frC (by decide) hf19523 (frC (by decide) hf19513 (frU (by decide) (frC (by decide) hf19301 (fun _ _ => rfl)))))))), hF, (by show ((v 39).toInt ≤ (v19599 39).toInt ∧ (v19599 39).toInt ≤ (v 30).toInt ∧ (v 38).toInt ≤ (v19599 38).toInt ∧ (v19599 38).toInt - (v 38).toInt ≤ (v19599 39).toInt - (v 39).toInt ∧ (v 41).toInt ≤ (v19599 41).toInt ∧ ((v19599 40).toInt < 0 → (v19599 41).toInt = (v 41).toInt)) ∧ keepL (v 37) (F 28) (F 29) (F19600 28) (F19600 29) ∧ ((v19599 40).toInt < 0 → dp (F19600 28) (F19600 29) (bI (v 37)) (v19599 38).toInt.toNat = some (d + 1)); rw [show v19599 39 = v19552 39 from hf19601 39 (by decide)]; rw [show v19599 38 = v19552 38 from hf19601 38 (by decide)]; rw [show v19599 41 = v19552 41 from hf19601 41 (by decide)]; exact ⟨by omega, hk, fun hf => (hd (by omega)).trans (congrArg some (by omega))⟩)⟩, (by show va_P _ _ _ t.heap; rw [ht]; exact hP9)⟩, hS.F ht⟩) hS.2.2 dX12_either_104
              · skip
                have t19603 := cv_nlt (a := (v19552 40).toInt) rfl (b := 0) (by decide) c19559
                have hP9 : va_P (dC, dI) classes (wM g c v19552 F19553 rc) H := hP
                exact W.vret hx hb hr (fun t ht hW => ⟨⟨(v19552, F19553, rc), rfl, ⟨hI, rfl, (frC (by decide) hf19554 (frC (by decide) hf19540 (frC (by decide) hf19523 (frC (by decide) hf19513 (frU (by decide) (frC (by decide) hf19301 (fun _ _ => rfl))))))), hF, (by show ((v 39).toInt ≤ (v19552 39).toInt ∧ (v19552 39).toInt ≤ (v 30).toInt ∧ (v 38).toInt ≤ (v19552 38).toInt ∧ (v19552 38).toInt - (v 38).toInt ≤ (v19552 39).toInt - (v 39).toInt ∧ (v 41).toInt ≤ (v19552 41).toInt ∧ ((v19552 40).toInt < 0 → (v19552 41).toInt = (v 41).toInt)) ∧ keepL (v 37) (F 28) (F 29) (F19553 28) (F19553 29) ∧ ((v19552 40).toInt < 0 → dp (F19553 28) (F19553 29) (bI (v 37)) (v19552 38).toInt.toNat = some (d + 1)); exact ⟨by omega, hk, fun hf => (hd (by omega)).trans (congrArg some (by omega))⟩)⟩, (by show va_P _ _ _ t.heap; rw [ht]; exact hP9)⟩, hS.F ht⟩) hS.2.2 dX12_either_90
            · skip
              have t19604 := cv_eq (a := r19537.toInt) rfl (b := 0) (by decide) c19544
              have hP9 : va_P (dC, dI) classes (wM g c v19538 F19539 rc) H := hP
              exact W.vret hx hb hr (fun t ht hW => ⟨⟨(v19538, F19539, rc), rfl, ⟨hI, rfl, (frC (by decide) hf19540 (frC (by decide) hf19523 (frC (by decide) hf19513 (frU (by decide) (frC (by decide) hf19301 (fun _ _ => rfl)))))), hF, (by show ((v 39).toInt ≤ (v19538 39).toInt ∧ (v19538 39).toInt ≤ (v 30).toInt ∧ (v 38).toInt ≤ (v19538 38).toInt ∧ (v19538 38).toInt - (v 38).toInt ≤ (v19538 39).toInt - (v 39).toInt ∧ (v 41).toInt ≤ (v19538 41).toInt ∧ ((v19538 40).toInt < 0 → (v19538 41).toInt = (v 41).toInt)) ∧ keepL (v 37) (F 28) (F 29) (F19539 28) (F19539 29) ∧ ((v19538 40).toInt < 0 → dp (F19539 28) (F19539 29) (bI (v 37)) (v19538 38).toInt.toNat = some (d + 1)); rw [show v19538 38 = v19521 38 from hf19540 38 (by decide)]; exact ⟨by omega, hk, fun hf => (hd (by omega)).trans (congrArg some (by omega))⟩)⟩, (by show va_P _ _ _ t.heap; rw [ht]; exact hP9)⟩, hS.F ht⟩) hS.2.2 dX12_either_78
          · skip
            have t19605 := cv_ne (a := r19532.toInt) rfl (b := 63) (by decide) c19533
            have hP9 : va_P (dC, dI) classes (wM g c v19521 F19522 rc) H := hP
            exact W.vret hx hb hr (fun t ht hW => ⟨⟨(v19521, F19522, rc), rfl, ⟨hI, rfl, (frC (by decide) hf19523 (frC (by decide) hf19513 (frU (by decide) (frC (by decide) hf19301 (fun _ _ => rfl))))), hF, (by show ((v 39).toInt ≤ (v19521 39).toInt ∧ (v19521 39).toInt ≤ (v 30).toInt ∧ (v 38).toInt ≤ (v19521 38).toInt ∧ (v19521 38).toInt - (v 38).toInt ≤ (v19521 39).toInt - (v 39).toInt ∧ (v 41).toInt ≤ (v19521 41).toInt ∧ ((v19521 40).toInt < 0 → (v19521 41).toInt = (v 41).toInt)) ∧ keepL (v 37) (F 28) (F 29) (F19522 28) (F19522 29) ∧ ((v19521 40).toInt < 0 → dp (F19522 28) (F19522 29) (bI (v 37)) (v19521 38).toInt.toNat = some (d + 1)); rw [show v19521 39 = v19511 39 from hf19523 39 (by decide)]; rw [show v19521 41 = v19511 41 from hf19523 41 (by decide)]; rw [show v19521 40 = v19511 40 from hf19523 40 (by decide)]; exact ⟨by omega, hk, fun hf => (hd (by omega)).trans (congrArg some (by omega))⟩)⟩, (by show va_P _ _ _ t.heap; rw [ht]; exact hP9)⟩, hS.F ht⟩) hS.2.2 dX12_either_70
      · skip
        have t19606 := cv_ne (a := r19308.toInt) rfl (b := 61) (by decide) c19499
        refine lv_iload_n hx hb dX12_either_28 rfl (lv_at hl 0 rfl) ?_
        refine lv_bipush (v := 62) hx hb dX12_either_29 (by decide) ?_
        refine lv_icmp_ne (tgt := 54) hx hb dX12_either_31 (by decide) (fun c19607 => ?_) (fun c19607 => ?_)
        · skip
          have t19608 := cv_ne (a := r19308.toInt) rfl (b := 62) (by decide) c19607
          refine lv_aload_n hx hb dX12_either_54 rfl (lv_at hl 1 rfl) ?_
          refine va_get (D := (dC, dI)) (ci := 12) (v := .int (v19299 40)) (C := RX12) (T := TX12) (N := 63) hx hb hwd inA_X12 hown hK hP 0 rfl rfl 40 (by decide) (hwd _ wk_1005) (fun _ h9 => h9) rfl dX12_either_55 ?_
          refine lv_if_ge (tgt := 70) hx hb dX12_either_58 (by decide) (fun c19609 => ?_) (fun c19609 => ?_)
          · skip
            have t19610 := cv_le (a := 0) (by decide) (b := (v19299 40).toInt) rfl c19609
            have hP9 : va_P (dC, dI) classes (wM g c v19299 F19300 rc) H := hP
            exact W.vret hx hb hr (fun t ht hW => ⟨⟨(v19299, F19300, rc), rfl, ⟨hI, rfl, (frC (by decide) hf19301 (fun _ _ => rfl)), hF, (by show ((v 39).toInt ≤ (v19299 39).toInt ∧ (v19299 39).toInt ≤ (v 30).toInt ∧ (v 38).toInt ≤ (v19299 38).toInt ∧ (v19299 38).toInt - (v 38).toInt ≤ (v19299 39).toInt - (v 39).toInt ∧ (v 41).toInt ≤ (v19299 41).toInt ∧ ((v19299 40).toInt < 0 → (v19299 41).toInt = (v 41).toInt)) ∧ keepL (v 37) (F 28) (F 29) (F19300 28) (F19300 29) ∧ ((v19299 40).toInt < 0 → dp (F19300 28) (F19300 29) (bI (v 37)) (v19299 38).toInt.toNat = some (d + 1)); exact ⟨by omega, hk, fun hf => (hd (by omega)).trans (congrArg some (by omega))⟩)⟩, (by show va_P _ _ _ t.heap; rw [ht]; exact hP9)⟩, hS.F ht⟩) hS.2.2 dX12_either_70
          · skip
            have t19611 := cv_nle (a := 0) (by decide) (b := (v19299 40).toInt) rfl c19609
            refine lv_aload_n hx hb dX12_either_61 rfl (lv_at hl 1 rfl) ?_
            have t19612 : 0 ≤ (v 30).toInt ∧ (v 30).toInt ≤ 120 := by have h9 := hI.1 30 _ _ rfl; rw [show v19299 30 = v 30 from hf19301 30 (by decide)] at h9; exact h9
            have t19613 : 0 ≤ (v19299 39).toInt ∧ (v19299 39).toInt ≤ 120 := hI.1 39 _ _ rfl
            refine va_calli (va_runV (As := []) (rest := []) ⟨hx, hb, hml, hown, hwd⟩ (c_X12_look l dC dI g c adK adV v19299 F19300 rc H.size  hg hI ) (cwV 0 hwd (gV wk_1017 wk_1014 wk_1015 wk_1016 wk_5) rfl rfl rfl (by decide +kernel) ⟨Nat.le_of_ble_eq_true rfl, Nat.le_of_ble_eq_true rfl⟩) ⟨PM.blind, va_recv hK hP (ci := 12) (q0 := 0) rfl rfl, fun U hU hW => ⟨rfl, PM.at hK hE hP hS hU hW⟩⟩ rfl rfl hl.1 rfl (lv_room (Nat.le_of_ble_eq_true rfl)) dX12_either_62 ⟨Nat.le_of_ble_eq_true rfl, Nat.le_of_ble_eq_true rfl⟩) hS (fun q _ h => (freeM hS) q h) (freeM hS) (fun r19614 u t H1 locs ht hvm hw hB hz1 hk1 hS => ?_)
            unfold BM at hB
            rw [ht] at hB
            have hP : va_P (dC, dI) classes (wM g c v19299 F19300 rc) H1 := hB
            have hw : r19614.toInt = lkM (v19299 39) (v19299 30) (F19300 24) ∧ ((v19299 39).toInt < (v19299 30).toInt ∨ r19614.toInt = -1) := hw
            rw [show v19299 30 = v 30 from hf19301 30 (by decide)] at hw
            rw [hF 24 (by decide)] at hw
            have hw_r19614 := hw
            generalize H1 = H at hP hS ⊢
            refine lv_bipush (v := 63) hx hb dX12_either_65 (by decide) ?_
            refine lv_icmp_eq (tgt := 71) hx hb dX12_either_67 (by decide) (fun c19615 => ?_) (fun c19615 => ?_)
            · skip
              have t19616 := cv_eq (a := r19614.toInt) rfl (b := 63) (by decide) c19615
              refine lv_aload_n hx hb dX12_either_71 rfl (lv_at hl 1 rfl) ?_
              have t19617 : 0 ≤ (v19299 39).toInt ∧ (v19299 39).toInt ≤ 120 := hI.1 39 _ _ rfl
              have t19618 : 0 ≤ (v19299 41).toInt ∧ (v19299 41).toInt ≤ 8 := hI.1 41 _ _ rfl
              refine va_calli (va_runV (As := []) (rest := []) ⟨hx, hb, hml, hown, hwd⟩ (c_X12_opens l dC dI g c adK adV v19299 F19300 rc H.size  hg hI (by have h9 : v19299 39 = v19299 39 := rfl; (try rw [h9]); clear h9; have h9 : v19299 30 = v 30 := hf19301 30 (by decide); (try rw [h9]); clear h9; omega)) (cwV 0 hwd (gV wk_1025 wk_1022 wk_1023 wk_1024 wk_5) rfl rfl rfl (by decide +kernel) ⟨Nat.le_of_ble_eq_true rfl, Nat.le_of_ble_eq_true rfl⟩) ⟨PM.blind, va_recv hK hP (ci := 12) (q0 := 0) rfl rfl, fun U hU hW => ⟨rfl, PM.at hK hE hP hS hU hW⟩⟩ rfl rfl hl.1 rfl (lv_room (Nat.le_of_ble_eq_true rfl)) dX12_either_72 ⟨Nat.le_of_ble_eq_true rfl, Nat.le_of_ble_eq_true rfl⟩) hS (fun q _ h => (freeM hS) q h) (freeM hS) (fun r19619 u t H1 locs ht hvm hw hB hz1 hk1 hS => ?_)
              unfold BM at hB
              rw [ht] at hB
              obtain ⟨v19620, F19621, rc9⟩ := u
              obtain ⟨hI, hrc, hf19622, hG19623, hw⟩ := hw
              dsimp only at hI hrc hB hf19622 hG19623 hw
              have hF := frCF (by decide) hG19623 hF
              rw [hrc] at hB
              have hP : va_P (dC, dI) classes (wM g c v19620 F19621 rc) H1 := hB
              have hw : (r19619.toInt = 1 ∧ (v19299 41).toInt < 8 ∧ (v19620 41).toInt = (v19299 41).toInt + 1 ∧ (v19620 39).toInt = (v19299 39).toInt + 1 ∧ (v19620 40).toInt = (v19299 40).toInt) ∨ (r19619.toInt = 0 ∧ (v19299 41).toInt = 8 ∧ 0 ≤ (v19620 40).toInt ∧ (v19620 41).toInt = (v19299 41).toInt ∧ (v19620 39).toInt = (v19299 39).toInt) := hw
              have hw_r19619 := hw
              have t19624 : 0 ≤ (v19620 39).toInt ∧ (v19620 39).toInt ≤ 120 := hI.1 39 _ _ rfl
              have t19625 : 0 ≤ (v19620 41).toInt ∧ (v19620 41).toInt ≤ 8 := hI.1 41 _ _ rfl
              generalize H1 = H at hP hS ⊢
              have hk : keepL (v 37) (F 28) (F 29) (F19621 28) (F19621 29) := by rw [hG19623 28 (by decide), hG19623 29 (by decide)]; exact hk
              have hd : (v19620 40).toInt < 0 → dp (F19621 28) (F19621 29) (bI (v 37)) (v19299 38).toInt.toNat = some (d + 1) := fun hf => (by rw [hG19623 28 (by decide), hG19623 29 (by decide)]; exact hd (by omega))
              refine lv_if_ne (tgt := 79) hx hb dX12_either_75 (by decide) (fun c19626 => ?_) (fun c19626 => ?_)
              · skip
                have t19627 := cv_ne (a := r19619.toInt) rfl (b := 0) (by decide) c19626
                refine lv_aload_n hx hb dX12_either_79 rfl (lv_at hl 1 rfl) ?_
                have t19628 : 0 ≤ (v 30).toInt ∧ (v 30).toInt ≤ 120 := by have h9 := hI.1 30 _ _ rfl; rw [show v19620 30 = v 30 from (hf19622 30 (by decide)).trans (hf19301 30 (by decide))] at h9; exact h9
                have t19629 : 0 ≤ (v 37).toInt ∧ (v 37).toInt ≤ 9 := by have h9 := hI.1 37 _ _ rfl; rw [show v19620 37 = v 37 from (hf19622 37 (by decide)).trans (hf19301 37 (by decide))] at h9; exact h9
                have t19630 : 0 ≤ (v19299 38).toInt ∧ (v19299 38).toInt ≤ 120 := by have h9 := hI.1 38 _ _ rfl; rw [show v19620 38 = v19299 38 from hf19622 38 (by decide)] at h9; exact h9
                have t19631 : 0 ≤ (v19620 39).toInt ∧ (v19620 39).toInt ≤ 120 := hI.1 39 _ _ rfl
                have t19632 : 0 ≤ (v19620 41).toInt ∧ (v19620 41).toInt ≤ 8 := hI.1 41 _ _ rfl
                refine va_callv (va_runV (As := []) (rest := []) ⟨hx, hb, hml, hown, hwd⟩ (c_X12_either_4 l dC dI g c adK adV v19620 F19621 rc H.size  (d + 1) hg hI (by have h9 : v19620 38 = v19299 38 := hf19622 38 (by decide); (try rw [h9]); clear h9; have h9 : v19620 39 = v19620 39 := rfl; (try rw [h9]); clear h9; have h9 : v19620 30 = v 30 := (hf19622 30 (by decide)).trans (hf19301 30 (by decide)); (try rw [h9]); clear h9; have h9 : v19620 40 = v19620 40 := rfl; (try rw [h9]); clear h9; have h9 : v19620 41 = v19620 41 := rfl; (try rw [h9]); clear h9; omega) (by have h9 : v19620 37 = (v 37) := (hf19622 37 (by decide)).trans (hf19301 37 (by decide)); have h8 : v19620 38 = (v19299 38) := hf19622 38 (by decide); (try rw [h9]); (try rw [h8]); exact hd (by omega))) (cwV 0 hwd (gV wk_1010 wk_1007 wk_1008 wk_1009 wk_5) rfl rfl rfl (by decide +kernel) ⟨Nat.le_of_ble_eq_true rfl, Nat.le_of_ble_eq_true rfl⟩) ⟨PM.blind, va_recv hK hP (ci := 12) (q0 := 0) rfl rfl, fun U hU hW => ⟨rfl, PM.at hK hE hP hS hU hW⟩⟩ rfl rfl hl.1 rfl (lv_room (Nat.le_of_ble_eq_true rfl)) dX12_either_80 ⟨Nat.le_of_ble_eq_true rfl, Nat.le_of_ble_eq_true rfl⟩) hS (fun q _ h => (freeM hS) q h) (freeM hS) (fun u t H1 locs ht hvm hw hB hz1 hk1 hS => ?_)
                unfold BM at hB
                rw [ht] at hB
                obtain ⟨v19634, F19635, rc9⟩ := u
                obtain ⟨hI, hrc, hf19636, hG19637, hw⟩ := hw
                dsimp only at hI hrc hB hf19636 hG19637 hw
                have hF := frCF (by decide) hG19637 hF
                rw [hrc] at hB
                have hP : va_P (dC, dI) classes (wM g c v19634 F19635 rc) H1 := hB
                have hw : ((v19620 39).toInt ≤ (v19634 39).toInt ∧ (v19634 39).toInt ≤ (v19620 30).toInt ∧ (v19620 38).toInt ≤ (v19634 38).toInt ∧ (v19634 38).toInt - (v19620 38).toInt ≤ (v19634 39).toInt - (v19620 39).toInt ∧ (v19620 41).toInt ≤ (v19634 41).toInt ∧ ((v19634 40).toInt < 0 → (v19634 41).toInt = (v19620 41).toInt)) ∧ keepL (v19620 37) (F19621 28) (F19621 29) (F19635 28) (F19635 29) ∧ ((v19634 40).toInt < 0 → dp (F19635 28) (F19635 29) (bI (v19620 37)) (v19634 38).toInt.toNat = some ((d + 1) + 1)) := hw
                rw [show v19620 30 = v 30 from (hf19622 30 (by decide)).trans (hf19301 30 (by decide))] at hw
                rw [show v19620 38 = v19299 38 from hf19622 38 (by decide)] at hw
                rw [show v19620 37 = v 37 from (hf19622 37 (by decide)).trans (hf19301 37 (by decide))] at hw
                have hw_r19633 := hw
                have t19638 : 0 ≤ (v19634 38).toInt ∧ (v19634 38).toInt ≤ 120 := hI.1 38 _ _ rfl
                have t19639 : 0 ≤ (v19634 39).toInt ∧ (v19634 39).toInt ≤ 120 := hI.1 39 _ _ rfl
                have t19640 : 0 ≤ (v19634 41).toInt ∧ (v19634 41).toInt ≤ 8 := hI.1 41 _ _ rfl
                generalize H1 = H at hP hS ⊢
                have hk := hk.tr hw_r19633.2.1
                have hd := hw_r19633.2.2
                refine lv_aload_n hx hb dX12_either_83 rfl (lv_at hl 1 rfl) ?_
                refine va_get (D := (dC, dI)) (ci := 12) (v := .int (v19634 40)) (C := RX12) (T := TX12) (N := 63) hx hb hwd inA_X12 hown hK hP 0 rfl rfl 40 (by decide) (hwd _ wk_1005) (fun _ h9 => h9) rfl dX12_either_84 ?_
                refine lv_if_lt (tgt := 91) hx hb dX12_either_87 (by decide) (fun c19641 => ?_) (fun c19641 => ?_)
                · skip
                  have t19642 := cv_lt (a := (v19634 40).toInt) rfl (b := 0) (by decide) c19641
                  refine lv_aload_n hx hb dX12_either_91 rfl (lv_at hl 1 rfl) ?_
                  have t19643 : 0 ≤ (v 30).toInt ∧ (v 30).toInt ≤ 120 := by have h9 := hI.1 30 _ _ rfl; rw [show v19634 30 = v 30 from (hf19636 30 (by decide)).trans ((hf19622 30 (by decide)).trans (hf19301 30 (by decide)))] at h9; exact h9
                  have t19644 : 0 ≤ (v19634 39).toInt ∧ (v19634 39).toInt ≤ 120 := hI.1 39 _ _ rfl
                  refine va_calli (va_runV (As := []) (rest := []) ⟨hx, hb, hml, hown, hwd⟩ (c_X12_look l dC dI g c adK adV v19634 F19635 rc H.size  hg hI ) (cwV 0 hwd (gV wk_1017 wk_1014 wk_1015 wk_1016 wk_5) rfl rfl rfl (by decide +kernel) ⟨Nat.le_of_ble_eq_true rfl, Nat.le_of_ble_eq_true rfl⟩) ⟨PM.blind, va_recv hK hP (ci := 12) (q0 := 0) rfl rfl, fun U hU hW => ⟨rfl, PM.at hK hE hP hS hU hW⟩⟩ rfl rfl hl.1 rfl (lv_room (Nat.le_of_ble_eq_true rfl)) dX12_either_92 ⟨Nat.le_of_ble_eq_true rfl, Nat.le_of_ble_eq_true rfl⟩) hS (fun q _ h => (freeM hS) q h) (freeM hS) (fun r19645 u t H1 locs ht hvm hw hB hz1 hk1 hS => ?_)
                  unfold BM at hB
                  rw [ht] at hB
                  have hP : va_P (dC, dI) classes (wM g c v19634 F19635 rc) H1 := hB
                  have hw : r19645.toInt = lkM (v19634 39) (v19634 30) (F19635 24) ∧ ((v19634 39).toInt < (v19634 30).toInt ∨ r19645.toInt = -1) := hw
                  rw [show v19634 30 = v 30 from (hf19636 30 (by decide)).trans ((hf19622 30 (by decide)).trans (hf19301 30 (by decide)))] at hw
                  rw [hF 24 (by decide)] at hw
                  have hw_r19645 := hw
                  generalize H1 = H at hP hS ⊢
                  refine lv_bipush (v := 58) hx hb dX12_either_95 (by decide) ?_
                  refine lv_icmp_eq (tgt := 105) hx hb dX12_either_97 (by decide) (fun c19646 => ?_) (fun c19646 => ?_)
                  · skip
                    have t19647 := cv_eq (a := r19645.toInt) rfl (b := 58) (by decide) c19646
                    refine lv_aload_n hx hb dX12_either_105 rfl (lv_at hl 1 rfl) ?_
                    refine lv_dup hx hb dX12_either_106 rfl ?_
                    refine va_get (D := (dC, dI)) (ci := 12) (v := .int (v19634 39)) (C := RX12) (T := TX12) (N := 63) hx hb hwd inA_X12 hown hK hP 0 rfl rfl 39 (by decide) (hwd _ wk_1004) (fun _ h9 => h9) rfl dX12_either_107 ?_
                    have t19648 : 0 ≤ (v19634 39).toInt ∧ (v19634 39).toInt ≤ 120 := hI.1 39 _ _ rfl
                    refine lv_iconst (v := 1) hx hb dX12_either_110 (by decide) ?_
                    refine lv_iadd hx hb dX12_either_111 ?_
                    refine lv_topi (fun z19649 e19650 => ?_)
                    try (have t19651 := tadd e19650 (a := (v19634 39).toInt) rfl (b := 1) (by decide) (by omega))
                    refine va_put (D := (dC, dI)) (ci := 12) (v := .int z19649) (ty := .int) (C := RX12) (T := TX12) (N := 63) (fs := fsM_0 g v19634 rc) hx hb hwd inA_X12 tyX12 tyX12_ok nmX12 hown hK hP (DM hg) hS 0 rfl rfl 39 (by decide) (hwd _ wk_1004) (fun _ h9 => h9) rfl (by decide +kernel) rfl rfl (Nat.le_of_ble_eq_true rfl) dX12_either_112 (fun H locs hP _ hS => ?_)
                    have hP := va_P_eq (pM_39 g c _ _ _ _) hP
                    have hI := IM.put hI 39 z19649 rfl (by omega)
                    refine lv_aload_n hx hb dX12_either_115 rfl (lv_at hl 1 rfl) ?_
                    have t19652 : 0 ≤ (v 30).toInt ∧ (v 30).toInt ≤ 120 := by have h9 := hI.1 30 _ _ rfl; rw [show (va_up v19634 39 z19649) 30 = v 30 from (hf19636 30 (by decide)).trans ((hf19622 30 (by decide)).trans (hf19301 30 (by decide)))] at h9; exact h9
                    have t19653 : 0 ≤ (v 37).toInt ∧ (v 37).toInt ≤ 9 := by have h9 := hI.1 37 _ _ rfl; rw [show (va_up v19634 39 z19649) 37 = v 37 from (hf19636 37 (by decide)).trans ((hf19622 37 (by decide)).trans (hf19301 37 (by decide)))] at h9; exact h9
                    have t19654 : 0 ≤ (v19634 38).toInt ∧ (v19634 38).toInt ≤ 120 := hI.1 38 _ _ rfl
                    have t19655 : 0 ≤ z19649.toInt ∧ z19649.toInt ≤ 120 := hI.1 39 _ _ rfl
                    have t19656 : 0 ≤ (v19634 41).toInt ∧ (v19634 41).toInt ≤ 8 := hI.1 41 _ _ rfl
                    refine va_callv (va_runV (As := []) (rest := []) ⟨hx, hb, hml, hown, hwd⟩ (c_X12_either_4 l dC dI g c adK adV (va_up v19634 39 z19649) F19635 rc H.size  ((d + 1) + 1) hg hI (by have h9 : (va_up v19634 39 z19649) 38 = v19634 38 := rfl; (try rw [h9]); clear h9; have h9 : (va_up v19634 39 z19649) 39 = z19649 := rfl; (try rw [h9]); clear h9; have h9 : (va_up v19634 39 z19649) 30 = v 30 := (hf19636 30 (by decide)).trans ((hf19622 30 (by decide)).trans (hf19301 30 (by decide))); (try rw [h9]); clear h9; have h9 : (va_up v19634 39 z19649) 40 = v19634 40 := rfl; (try rw [h9]); clear h9; have h9 : (va_up v19634 39 z19649) 41 = v19634 41 := rfl; (try rw [h9]); clear h9; omega) (by have h9 : (va_up v19634 39 z19649) 37 = (v 37) := (hf19636 37 (by decide)).trans ((hf19622 37 (by decide)).trans (hf19301 37 (by decide))); have h8 : (va_up v19634 39 z19649) 38 = (v19634 38) := rfl; (try rw [h9]); (try rw [h8]); exact hd (by omega))) (cwV 0 hwd (gV wk_1010 wk_1007 wk_1008 wk_1009 wk_5) rfl rfl rfl (by decide +kernel) ⟨Nat.le_of_ble_eq_true rfl, Nat.le_of_ble_eq_true rfl⟩) ⟨PM.blind, va_recv hK hP (ci := 12) (q0 := 0) rfl rfl, fun U hU hW => ⟨rfl, PM.at hK hE hP hS hU hW⟩⟩ rfl rfl hl.1 rfl (lv_room (Nat.le_of_ble_eq_true rfl)) dX12_either_116 ⟨Nat.le_of_ble_eq_true rfl, Nat.le_of_ble_eq_true rfl⟩) hS (fun q _ h => (freeM hS) q h) (freeM hS) (fun u t H1 locs ht hvm hw hB hz1 hk1 hS => ?_)
                    unfold BM at hB
                    rw [ht] at hB
                    obtain ⟨v19658, F19659, rc9⟩ := u
                    obtain ⟨hI, hrc, hf19660, hG19661, hw⟩ := hw
                    dsimp only at hI hrc hB hf19660 hG19661 hw
                    have hF := frCF (by decide) hG19661 hF
                    rw [hrc] at hB
                    have hP : va_P (dC, dI) classes (wM g c v19658 F19659 rc) H1 := hB
                    have hw : (z19649.toInt ≤ (v19658 39).toInt ∧ (v19658 39).toInt ≤ ((va_up v19634 39 z19649) 30).toInt ∧ (v19634 38).toInt ≤ (v19658 38).toInt ∧ (v19658 38).toInt - (v19634 38).toInt ≤ (v19658 39).toInt - z19649.toInt ∧ (v19634 41).toInt ≤ (v19658 41).toInt ∧ ((v19658 40).toInt < 0 → (v19658 41).toInt = (v19634 41).toInt)) ∧ keepL ((va_up v19634 39 z19649) 37) (F19635 28) (F19635 29) (F19659 28) (F19659 29) ∧ ((v19658 40).toInt < 0 → dp (F19659 28) (F19659 29) (bI ((va_up v19634 39 z19649) 37)) (v19658 38).toInt.toNat = some (((d + 1) + 1) + 1)) := hw
                    rw [show (va_up v19634 39 z19649) 30 = v 30 from (hf19636 30 (by decide)).trans ((hf19622 30 (by decide)).trans (hf19301 30 (by decide)))] at hw
                    rw [show (va_up v19634 39 z19649) 37 = v 37 from (hf19636 37 (by decide)).trans ((hf19622 37 (by decide)).trans (hf19301 37 (by decide)))] at hw
                    have hw_r19657 := hw
                    have t19662 : 0 ≤ (v19658 38).toInt ∧ (v19658 38).toInt ≤ 120 := hI.1 38 _ _ rfl
                    have t19663 : 0 ≤ (v19658 39).toInt ∧ (v19658 39).toInt ≤ 120 := hI.1 39 _ _ rfl
                    have t19664 : 0 ≤ (v19658 41).toInt ∧ (v19658 41).toInt ≤ 8 := hI.1 41 _ _ rfl
                    generalize H1 = H at hP hS ⊢
                    have hk := hk.tr hw_r19657.2.1
                    have hd := hw_r19657.2.2
                    refine lv_aload_n hx hb dX12_either_119 rfl (lv_at hl 1 rfl) ?_
                    refine lv_iconst (v := 4) hx hb dX12_either_120 (by decide) ?_
                    refine lv_iconst (v := 0) hx hb dX12_either_121 (by decide) ?_
                    have t19665 : 0 ≤ (v 37).toInt ∧ (v 37).toInt ≤ 9 := by have h9 := hI.1 37 _ _ rfl; rw [show v19658 37 = v 37 from (hf19660 37 (by decide)).trans ((hf19636 37 (by decide)).trans ((hf19622 37 (by decide)).trans (hf19301 37 (by decide))))] at h9; exact h9
                    have t19666 : 0 ≤ (v19658 38).toInt ∧ (v19658 38).toInt ≤ 120 := hI.1 38 _ _ rfl
                    refine va_callv (va_runV (As := [.int 4, .int 0]) (rest := []) ⟨hx, hb, hml, hown, hwd⟩ (c_X12_lay l dC dI g c adK adV v19658 F19659 rc H.size 4 0 hg hI (by have h9 : v19658 38 = v19658 38 := rfl; rw [h9]; omega)) (cwV 2 hwd (gV wk_1021 wk_1018 wk_1019 wk_1020 wk_5) rfl rfl rfl (by decide +kernel) ⟨Nat.le_of_ble_eq_true rfl, Nat.le_of_ble_eq_true rfl⟩) ⟨PM.blind, va_recv hK hP (ci := 12) (q0 := 0) rfl rfl, fun U hU hW => ⟨rfl, PM.at hK hE hP hS hU hW⟩⟩ rfl rfl hl.1 rfl (lv_room (Nat.le_of_ble_eq_true rfl)) dX12_either_122 ⟨Nat.le_of_ble_eq_true rfl, Nat.le_of_ble_eq_true rfl⟩) hS (fun q _ h => (freeM hS) q h) (freeM hS) (fun u t H1 locs ht hvm hw hB hz1 hk1 hS => ?_)
                    unfold BM at hB
                    rw [ht] at hB
                    obtain ⟨v19668, F19669, rc9⟩ := u
                    obtain ⟨hI, hrc, hf19670, hG19671, hw⟩ := hw
                    dsimp only at hI hrc hB hf19670 hG19671 hw
                    have hF := frCF (by decide) hG19671 hF
                    rw [hrc] at hB
                    have hP : va_P (dC, dI) classes (wM g c v19668 F19669 rc) H1 := hB
                    have hw : (v19668 38).toInt = (v19658 38).toInt + 1 ∧ keepL (v19658 37) (F19659 28) (F19659 29) (F19669 28) (F19669 29) ∧ dp (F19669 28) (F19669 29) (bI (v19658 37)) ((v19658 38).toInt.toNat + 1) = dpS (dp (F19659 28) (F19659 29) (bI (v19658 37)) (v19658 38).toInt.toNat) (4 : Int32) (0 : Int32) := hw
                    rw [show v19658 37 = v 37 from (hf19660 37 (by decide)).trans ((hf19636 37 (by decide)).trans ((hf19622 37 (by decide)).trans (hf19301 37 (by decide))))] at hw
                    have hw_r19667 := hw
                    have t19672 : 0 ≤ (v19668 38).toInt ∧ (v19668 38).toInt ≤ 120 := hI.1 38 _ _ rfl
                    have k19673 : (4 : Int32).toInt = 4 := by decide
                    have k19674 : (0 : Int32).toInt = 0 := by decide
                    generalize H1 = H at hP hS ⊢
                    have hk := hk.tr hw_r19667.2.1
                    have hd : (v19658 40).toInt < 0 → dp (F19669 28) (F19669 29) (bI (v 37)) (v19668 38).toInt.toNat = some ((((d + 1) + 1) + 1) - 2) := fun hf => (by have e9 : (v19668 38).toInt.toNat = (v19658 38).toInt.toNat + 1 := (by omega); rw [e9, hw_r19667.2.2, hd hf]; exact dpS_4 (by decide) (by omega))
                    refine lv_aload_n hx hb dX12_either_125 rfl (lv_at hl 1 rfl) ?_
                    refine lv_dup hx hb dX12_either_126 rfl ?_
                    refine va_get (D := (dC, dI)) (ci := 12) (v := .int (v19668 41)) (C := RX12) (T := TX12) (N := 63) hx hb hwd inA_X12 hown hK hP 0 rfl rfl 41 (by decide) (hwd _ wk_1006) (fun _ h9 => h9) rfl dX12_either_127 ?_
                    refine my_top (v := v19658 41) (hf19670 41 (by decide)) ?_
                    have t19675 : 0 ≤ (v19658 41).toInt ∧ (v19658 41).toInt ≤ 8 := by have h9 := hI.1 41 _ _ rfl; rw [show v19668 41 = v19658 41 from hf19670 41 (by decide)] at h9; exact h9
                    refine lv_iconst (v := 1) hx hb dX12_either_130 (by decide) ?_
                    refine lv_isub hx hb dX12_either_131 ?_
                    refine lv_topi (fun z19676 e19677 => ?_)
                    try (have t19678 := tsub e19677 (a := (v19658 41).toInt) rfl (b := 1) (by decide) (by omega))
                    refine va_put (D := (dC, dI)) (ci := 12) (v := .int z19676) (ty := .int) (C := RX12) (T := TX12) (N := 63) (fs := fsM_0 g v19668 rc) hx hb hwd inA_X12 tyX12 tyX12_ok nmX12 hown hK hP (DM hg) hS 0 rfl rfl 41 (by decide) (hwd _ wk_1006) (fun _ h9 => h9) rfl (by decide +kernel) rfl rfl (Nat.le_of_ble_eq_true rfl) dX12_either_132 (fun H locs hP _ hS => ?_)
                    have hP := va_P_eq (pM_41 g c _ _ _ _) hP
                    have hI := IM.put hI 41 z19676 rfl (by omega)
                    have hP9 : va_P (dC, dI) classes (wM g c (va_up v19668 41 z19676) F19669 rc) H := hP
                    exact W.vret hx hb hr (fun t ht hW => ⟨⟨((va_up v19668 41 z19676), F19669, rc), rfl, ⟨hI, rfl, (frU (by decide) (frC (by decide) hf19670 (frC (by decide) hf19660 (frU (by decide) (frC (by decide) hf19636 (frC (by decide) hf19622 (frC (by decide) hf19301 (fun _ _ => rfl)))))))), hF, (by show ((v 39).toInt ≤ ((va_up v19668 41 z19676) 39).toInt ∧ ((va_up v19668 41 z19676) 39).toInt ≤ (v 30).toInt ∧ (v 38).toInt ≤ (v19668 38).toInt ∧ (v19668 38).toInt - (v 38).toInt ≤ ((va_up v19668 41 z19676) 39).toInt - (v 39).toInt ∧ (v 41).toInt ≤ z19676.toInt ∧ (((va_up v19668 41 z19676) 40).toInt < 0 → z19676.toInt = (v 41).toInt)) ∧ keepL (v 37) (F 28) (F 29) (F19669 28) (F19669 29) ∧ (((va_up v19668 41 z19676) 40).toInt < 0 → dp (F19669 28) (F19669 29) (bI (v 37)) (v19668 38).toInt.toNat = some (d + 1)); rw [show (va_up v19668 41 z19676) 39 = v19658 39 from hf19670 39 (by decide)]; rw [show (va_up v19668 41 z19676) 40 = v19658 40 from hf19670 40 (by decide)]; exact ⟨by omega, hk, fun hf => (hd (by omega)).trans (congrArg some (by omega))⟩)⟩, (by show va_P _ _ _ t.heap; rw [ht]; exact hP9)⟩, hS.F ht⟩) hS.2.2 dX12_either_135
                  · skip
                    have t19679 := cv_ne (a := r19645.toInt) rfl (b := 58) (by decide) c19646
                    refine lv_aload_n hx hb dX12_either_100 rfl (lv_at hl 1 rfl) ?_
                    refine va_callv (va_runV (As := []) (rest := []) ⟨hx, hb, hml, hown, hwd⟩ (c_X12_wrong l dC dI g c adK adV v19634 F19635 rc H.size  hg hI ) (cwV 0 hwd (gV wk_1029 wk_1026 wk_1027 wk_1028 wk_5) rfl rfl rfl (by decide +kernel) ⟨Nat.le_of_ble_eq_true rfl, Nat.le_of_ble_eq_true rfl⟩) ⟨PM.blind, va_recv hK hP (ci := 12) (q0 := 0) rfl rfl, fun U hU hW => ⟨rfl, PM.at hK hE hP hS hU hW⟩⟩ rfl rfl hl.1 rfl (lv_room (Nat.le_of_ble_eq_true rfl)) dX12_either_101 ⟨Nat.le_of_ble_eq_true rfl, Nat.le_of_ble_eq_true rfl⟩) hS (fun q _ h => (freeM hS) q h) (freeM hS) (fun u t H1 locs ht hvm hw hB hz1 hk1 hS => ?_)
                    unfold BM at hB
                    rw [ht] at hB
                    obtain ⟨v19681, F19682, rc9⟩ := u
                    obtain ⟨hI, hrc, hf19683, hG19684, hw⟩ := hw
                    dsimp only at hI hrc hB hf19683 hG19684 hw
                    have hF := frCF (by decide) hG19684 hF
                    rw [hrc] at hB
                    have hP : va_P (dC, dI) classes (wM g c v19681 F19682 rc) H1 := hB
                    have hw : 0 ≤ (v19681 40).toInt := hw
                    have hw_r19680 := hw
                    generalize H1 = H at hP hS ⊢
                    have hk : keepL (v 37) (F 28) (F 29) (F19682 28) (F19682 29) := by rw [hG19684 28 (by decide), hG19684 29 (by decide)]; exact hk
                    have hd : (v19681 40).toInt < 0 → dp (F19682 28) (F19682 29) (bI (v 37)) (v19634 38).toInt.toNat = some ((d + 1) + 1) := fun hf => (by rw [hG19684 28 (by decide), hG19684 29 (by decide)]; exact hd (by omega))
                    have hP9 : va_P (dC, dI) classes (wM g c v19681 F19682 rc) H := hP
                    exact W.vret hx hb hr (fun t ht hW => ⟨⟨(v19681, F19682, rc), rfl, ⟨hI, rfl, (frC (by decide) hf19683 (frC (by decide) hf19636 (frC (by decide) hf19622 (frC (by decide) hf19301 (fun _ _ => rfl))))), hF, (by show ((v 39).toInt ≤ (v19681 39).toInt ∧ (v19681 39).toInt ≤ (v 30).toInt ∧ (v 38).toInt ≤ (v19681 38).toInt ∧ (v19681 38).toInt - (v 38).toInt ≤ (v19681 39).toInt - (v 39).toInt ∧ (v 41).toInt ≤ (v19681 41).toInt ∧ ((v19681 40).toInt < 0 → (v19681 41).toInt = (v 41).toInt)) ∧ keepL (v 37) (F 28) (F 29) (F19682 28) (F19682 29) ∧ ((v19681 40).toInt < 0 → dp (F19682 28) (F19682 29) (bI (v 37)) (v19681 38).toInt.toNat = some (d + 1)); rw [show v19681 39 = v19634 39 from hf19683 39 (by decide)]; rw [show v19681 38 = v19634 38 from hf19683 38 (by decide)]; rw [show v19681 41 = v19634 41 from hf19683 41 (by decide)]; exact ⟨by omega, hk, fun hf => (hd (by omega)).trans (congrArg some (by omega))⟩)⟩, (by show va_P _ _ _ t.heap; rw [ht]; exact hP9)⟩, hS.F ht⟩) hS.2.2 dX12_either_104
                · skip
                  have t19685 := cv_nlt (a := (v19634 40).toInt) rfl (b := 0) (by decide) c19641
                  have hP9 : va_P (dC, dI) classes (wM g c v19634 F19635 rc) H := hP
                  exact W.vret hx hb hr (fun t ht hW => ⟨⟨(v19634, F19635, rc), rfl, ⟨hI, rfl, (frC (by decide) hf19636 (frC (by decide) hf19622 (frC (by decide) hf19301 (fun _ _ => rfl)))), hF, (by show ((v 39).toInt ≤ (v19634 39).toInt ∧ (v19634 39).toInt ≤ (v 30).toInt ∧ (v 38).toInt ≤ (v19634 38).toInt ∧ (v19634 38).toInt - (v 38).toInt ≤ (v19634 39).toInt - (v 39).toInt ∧ (v 41).toInt ≤ (v19634 41).toInt ∧ ((v19634 40).toInt < 0 → (v19634 41).toInt = (v 41).toInt)) ∧ keepL (v 37) (F 28) (F 29) (F19635 28) (F19635 29) ∧ ((v19634 40).toInt < 0 → dp (F19635 28) (F19635 29) (bI (v 37)) (v19634 38).toInt.toNat = some (d + 1)); exact ⟨by omega, hk, fun hf => (hd (by omega)).trans (congrArg some (by omega))⟩)⟩, (by show va_P _ _ _ t.heap; rw [ht]; exact hP9)⟩, hS.F ht⟩) hS.2.2 dX12_either_90
              · skip
                have t19686 := cv_eq (a := r19619.toInt) rfl (b := 0) (by decide) c19626
                have hP9 : va_P (dC, dI) classes (wM g c v19620 F19621 rc) H := hP
                exact W.vret hx hb hr (fun t ht hW => ⟨⟨(v19620, F19621, rc), rfl, ⟨hI, rfl, (frC (by decide) hf19622 (frC (by decide) hf19301 (fun _ _ => rfl))), hF, (by show ((v 39).toInt ≤ (v19620 39).toInt ∧ (v19620 39).toInt ≤ (v 30).toInt ∧ (v 38).toInt ≤ (v19620 38).toInt ∧ (v19620 38).toInt - (v 38).toInt ≤ (v19620 39).toInt - (v 39).toInt ∧ (v 41).toInt ≤ (v19620 41).toInt ∧ ((v19620 40).toInt < 0 → (v19620 41).toInt = (v 41).toInt)) ∧ keepL (v 37) (F 28) (F 29) (F19621 28) (F19621 29) ∧ ((v19620 40).toInt < 0 → dp (F19621 28) (F19621 29) (bI (v 37)) (v19620 38).toInt.toNat = some (d + 1)); rw [show v19620 38 = v19299 38 from hf19622 38 (by decide)]; exact ⟨by omega, hk, fun hf => (hd (by omega)).trans (congrArg some (by omega))⟩)⟩, (by show va_P _ _ _ t.heap; rw [ht]; exact hP9)⟩, hS.F ht⟩) hS.2.2 dX12_either_78
            · skip
              have t19687 := cv_ne (a := r19614.toInt) rfl (b := 63) (by decide) c19615
              have hP9 : va_P (dC, dI) classes (wM g c v19299 F19300 rc) H := hP
              exact W.vret hx hb hr (fun t ht hW => ⟨⟨(v19299, F19300, rc), rfl, ⟨hI, rfl, (frC (by decide) hf19301 (fun _ _ => rfl)), hF, (by show ((v 39).toInt ≤ (v19299 39).toInt ∧ (v19299 39).toInt ≤ (v 30).toInt ∧ (v 38).toInt ≤ (v19299 38).toInt ∧ (v19299 38).toInt - (v 38).toInt ≤ (v19299 39).toInt - (v 39).toInt ∧ (v 41).toInt ≤ (v19299 41).toInt ∧ ((v19299 40).toInt < 0 → (v19299 41).toInt = (v 41).toInt)) ∧ keepL (v 37) (F 28) (F 29) (F19300 28) (F19300 29) ∧ ((v19299 40).toInt < 0 → dp (F19300 28) (F19300 29) (bI (v 37)) (v19299 38).toInt.toNat = some (d + 1)); exact ⟨by omega, hk, fun hf => (hd (by omega)).trans (congrArg some (by omega))⟩)⟩, (by show va_P _ _ _ t.heap; rw [ht]; exact hP9)⟩, hS.F ht⟩) hS.2.2 dX12_either_70
        · skip
          have t19688 := cv_eq (a := r19308.toInt) rfl (b := 62) (by decide) c19607
          refine lv_aload_n hx hb dX12_either_34 rfl (lv_at hl 1 rfl) ?_
          refine lv_dup hx hb dX12_either_35 rfl ?_
          refine va_get (D := (dC, dI)) (ci := 12) (v := .int (v19299 39)) (C := RX12) (T := TX12) (N := 63) hx hb hwd inA_X12 hown hK hP 0 rfl rfl 39 (by decide) (hwd _ wk_1004) (fun _ h9 => h9) rfl dX12_either_36 ?_
          have t19689 : 0 ≤ (v19299 39).toInt ∧ (v19299 39).toInt ≤ 120 := hI.1 39 _ _ rfl
          refine lv_iconst (v := 1) hx hb dX12_either_39 (by decide) ?_
          refine lv_iadd hx hb dX12_either_40 ?_
          refine lv_topi (fun z19690 e19691 => ?_)
          try (have t19692 := tadd e19691 (a := (v19299 39).toInt) rfl (b := 1) (by decide) (by omega))
          refine va_put (D := (dC, dI)) (ci := 12) (v := .int z19690) (ty := .int) (C := RX12) (T := TX12) (N := 63) (fs := fsM_0 g v19299 rc) hx hb hwd inA_X12 tyX12 tyX12_ok nmX12 hown hK hP (DM hg) hS 0 rfl rfl 39 (by decide) (hwd _ wk_1004) (fun _ h9 => h9) rfl (by decide +kernel) rfl rfl (Nat.le_of_ble_eq_true rfl) dX12_either_41 (fun H locs hP _ hS => ?_)
          have hP := va_P_eq (pM_39 g c _ _ _ _) hP
          have hI := IM.put hI 39 z19690 rfl (by omega)
          refine lv_aload_n hx hb dX12_either_44 rfl (lv_at hl 1 rfl) ?_
          have t19693 : 0 ≤ (v 30).toInt ∧ (v 30).toInt ≤ 120 := by have h9 := hI.1 30 _ _ rfl; rw [show (va_up v19299 39 z19690) 30 = v 30 from hf19301 30 (by decide)] at h9; exact h9
          have t19694 : 0 ≤ (v 37).toInt ∧ (v 37).toInt ≤ 9 := by have h9 := hI.1 37 _ _ rfl; rw [show (va_up v19299 39 z19690) 37 = v 37 from hf19301 37 (by decide)] at h9; exact h9
          have t19695 : 0 ≤ (v19299 38).toInt ∧ (v19299 38).toInt ≤ 120 := hI.1 38 _ _ rfl
          have t19696 : 0 ≤ z19690.toInt ∧ z19690.toInt ≤ 120 := hI.1 39 _ _ rfl
          have t19697 : 0 ≤ (v19299 41).toInt ∧ (v19299 41).toInt ≤ 8 := hI.1 41 _ _ rfl
          refine va_callv (va_runV (As := []) (rest := []) ⟨hx, hb, hml, hown, hwd⟩ (c_X12_sum_3 l dC dI g c adK adV (va_up v19299 39 z19690) F19300 rc H.size  (d + 1) hg hI (by have h9 : (va_up v19299 39 z19690) 38 = v19299 38 := rfl; (try rw [h9]); clear h9; have h9 : (va_up v19299 39 z19690) 39 = z19690 := rfl; (try rw [h9]); clear h9; have h9 : (va_up v19299 39 z19690) 30 = v 30 := hf19301 30 (by decide); (try rw [h9]); clear h9; have h9 : (va_up v19299 39 z19690) 40 = v19299 40 := rfl; (try rw [h9]); clear h9; have h9 : (va_up v19299 39 z19690) 41 = v19299 41 := rfl; (try rw [h9]); clear h9; omega) (by have h9 : (va_up v19299 39 z19690) 37 = (v 37) := hf19301 37 (by decide); have h8 : (va_up v19299 39 z19690) 38 = (v19299 38) := rfl; (try rw [h9]); (try rw [h8]); exact hd (by omega))) (cwV 0 hwd (gV wk_1043 wk_1011 wk_1012 wk_1013 wk_5) rfl rfl rfl (by decide +kernel) ⟨Nat.le_of_ble_eq_true rfl, Nat.le_of_ble_eq_true rfl⟩) ⟨PM.blind, va_recv hK hP (ci := 12) (q0 := 0) rfl rfl, fun U hU hW => ⟨rfl, PM.at hK hE hP hS hU hW⟩⟩ rfl rfl hl.1 rfl (lv_room (Nat.le_of_ble_eq_true rfl)) dX12_either_45 ⟨Nat.le_of_ble_eq_true rfl, Nat.le_of_ble_eq_true rfl⟩) hS (fun q _ h => (freeM hS) q h) (freeM hS) (fun u t H1 locs ht hvm hw hB hz1 hk1 hS => ?_)
          unfold BM at hB
          rw [ht] at hB
          obtain ⟨v19699, F19700, rc9⟩ := u
          obtain ⟨hI, hrc, hf19701, hG19702, hw⟩ := hw
          dsimp only at hI hrc hB hf19701 hG19702 hw
          have hF := frCF (by decide) hG19702 hF
          rw [hrc] at hB
          have hP : va_P (dC, dI) classes (wM g c v19699 F19700 rc) H1 := hB
          have hw : (z19690.toInt ≤ (v19699 39).toInt ∧ (v19699 39).toInt ≤ ((va_up v19299 39 z19690) 30).toInt ∧ (v19299 38).toInt ≤ (v19699 38).toInt ∧ (v19699 38).toInt - (v19299 38).toInt ≤ (v19699 39).toInt - z19690.toInt ∧ (v19299 41).toInt ≤ (v19699 41).toInt ∧ ((v19699 40).toInt < 0 → (v19699 41).toInt = (v19299 41).toInt)) ∧ keepL ((va_up v19299 39 z19690) 37) (F19300 28) (F19300 29) (F19700 28) (F19700 29) ∧ ((v19699 40).toInt < 0 → dp (F19700 28) (F19700 29) (bI ((va_up v19299 39 z19690) 37)) (v19699 38).toInt.toNat = some ((d + 1) + 1)) := hw
          rw [show (va_up v19299 39 z19690) 30 = v 30 from hf19301 30 (by decide)] at hw
          rw [show (va_up v19299 39 z19690) 37 = v 37 from hf19301 37 (by decide)] at hw
          have hw_r19698 := hw
          have t19703 : 0 ≤ (v19699 38).toInt ∧ (v19699 38).toInt ≤ 120 := hI.1 38 _ _ rfl
          have t19704 : 0 ≤ (v19699 39).toInt ∧ (v19699 39).toInt ≤ 120 := hI.1 39 _ _ rfl
          have t19705 : 0 ≤ (v19699 41).toInt ∧ (v19699 41).toInt ≤ 8 := hI.1 41 _ _ rfl
          generalize H1 = H at hP hS ⊢
          have hk := hk.tr hw_r19698.2.1
          have hd := hw_r19698.2.2
          refine lv_aload_n hx hb dX12_either_48 rfl (lv_at hl 1 rfl) ?_
          refine lv_iload_n hx hb dX12_either_49 rfl (lv_at hl 0 rfl) ?_
          refine lv_iconst (v := 0) hx hb dX12_either_50 (by decide) ?_
          have t19706 : 0 ≤ (v 37).toInt ∧ (v 37).toInt ≤ 9 := by have h9 := hI.1 37 _ _ rfl; rw [show v19699 37 = v 37 from (hf19701 37 (by decide)).trans (hf19301 37 (by decide))] at h9; exact h9
          have t19707 : 0 ≤ (v19699 38).toInt ∧ (v19699 38).toInt ≤ 120 := hI.1 38 _ _ rfl
          refine va_callv (va_runV (As := [.int r19308, .int 0]) (rest := []) ⟨hx, hb, hml, hown, hwd⟩ (c_X12_lay l dC dI g c adK adV v19699 F19700 rc H.size r19308 0 hg hI (by have h9 : v19699 38 = v19699 38 := rfl; rw [h9]; omega)) (cwV 2 hwd (gV wk_1021 wk_1018 wk_1019 wk_1020 wk_5) rfl rfl rfl (by decide +kernel) ⟨Nat.le_of_ble_eq_true rfl, Nat.le_of_ble_eq_true rfl⟩) ⟨PM.blind, va_recv hK hP (ci := 12) (q0 := 0) rfl rfl, fun U hU hW => ⟨rfl, PM.at hK hE hP hS hU hW⟩⟩ rfl rfl hl.1 rfl (lv_room (Nat.le_of_ble_eq_true rfl)) dX12_either_51 ⟨Nat.le_of_ble_eq_true rfl, Nat.le_of_ble_eq_true rfl⟩) hS (fun q _ h => (freeM hS) q h) (freeM hS) (fun u t H1 locs ht hvm hw hB hz1 hk1 hS => ?_)
          unfold BM at hB
          rw [ht] at hB
          obtain ⟨v19709, F19710, rc9⟩ := u
          obtain ⟨hI, hrc, hf19711, hG19712, hw⟩ := hw
          dsimp only at hI hrc hB hf19711 hG19712 hw
          have hF := frCF (by decide) hG19712 hF
          rw [hrc] at hB
          have hP : va_P (dC, dI) classes (wM g c v19709 F19710 rc) H1 := hB
          have hw : (v19709 38).toInt = (v19699 38).toInt + 1 ∧ keepL (v19699 37) (F19700 28) (F19700 29) (F19710 28) (F19710 29) ∧ dp (F19710 28) (F19710 29) (bI (v19699 37)) ((v19699 38).toInt.toNat + 1) = dpS (dp (F19700 28) (F19700 29) (bI (v19699 37)) (v19699 38).toInt.toNat) r19308 (0 : Int32) := hw
          rw [show v19699 37 = v 37 from (hf19701 37 (by decide)).trans (hf19301 37 (by decide))] at hw
          have hw_r19708 := hw
          have t19713 : 0 ≤ (v19709 38).toInt ∧ (v19709 38).toInt ≤ 120 := hI.1 38 _ _ rfl
          have k19714 : (0 : Int32).toInt = 0 := by decide
          generalize H1 = H at hP hS ⊢
          have hk := hk.tr hw_r19708.2.1
          have hd : (v19699 40).toInt < 0 → dp (F19710 28) (F19710 29) (bI (v 37)) (v19709 38).toInt.toNat = some (((d + 1) + 1) - 1) := fun hf => (by have e9 : (v19709 38).toInt.toNat = (v19699 38).toInt.toNat + 1 := (by omega); rw [e9, hw_r19708.2.2, hd hf]; exact dpS_5 (by omega) (by omega) (by omega) (by omega) (by omega))
          refine lv_aload_n hx hb dX12_either_54 rfl (lv_at hl 1 rfl) ?_
          refine va_get (D := (dC, dI)) (ci := 12) (v := .int (v19709 40)) (C := RX12) (T := TX12) (N := 63) hx hb hwd inA_X12 hown hK hP 0 rfl rfl 40 (by decide) (hwd _ wk_1005) (fun _ h9 => h9) rfl dX12_either_55 ?_
          refine my_top (v := v19699 40) (hf19711 40 (by decide)) ?_
          refine lv_if_ge (tgt := 70) hx hb dX12_either_58 (by decide) (fun c19715 => ?_) (fun c19715 => ?_)
          · skip
            have t19716 := cv_le (a := 0) (by decide) (b := (v19699 40).toInt) rfl c19715
            have hP9 : va_P (dC, dI) classes (wM g c v19709 F19710 rc) H := hP
            exact W.vret hx hb hr (fun t ht hW => ⟨⟨(v19709, F19710, rc), rfl, ⟨hI, rfl, (frC (by decide) hf19711 (frC (by decide) hf19701 (frU (by decide) (frC (by decide) hf19301 (fun _ _ => rfl))))), hF, (by show ((v 39).toInt ≤ (v19709 39).toInt ∧ (v19709 39).toInt ≤ (v 30).toInt ∧ (v 38).toInt ≤ (v19709 38).toInt ∧ (v19709 38).toInt - (v 38).toInt ≤ (v19709 39).toInt - (v 39).toInt ∧ (v 41).toInt ≤ (v19709 41).toInt ∧ ((v19709 40).toInt < 0 → (v19709 41).toInt = (v 41).toInt)) ∧ keepL (v 37) (F 28) (F 29) (F19710 28) (F19710 29) ∧ ((v19709 40).toInt < 0 → dp (F19710 28) (F19710 29) (bI (v 37)) (v19709 38).toInt.toNat = some (d + 1)); rw [show v19709 39 = v19699 39 from hf19711 39 (by decide)]; rw [show v19709 41 = v19699 41 from hf19711 41 (by decide)]; rw [show v19709 40 = v19699 40 from hf19711 40 (by decide)]; exact ⟨by omega, hk, fun hf => (hd (by omega)).trans (congrArg some (by omega))⟩)⟩, (by show va_P _ _ _ t.heap; rw [ht]; exact hP9)⟩, hS.F ht⟩) hS.2.2 dX12_either_70
          · skip
            have t19717 := cv_nle (a := 0) (by decide) (b := (v19699 40).toInt) rfl c19715
            refine lv_aload_n hx hb dX12_either_61 rfl (lv_at hl 1 rfl) ?_
            have t19718 : 0 ≤ (v 30).toInt ∧ (v 30).toInt ≤ 120 := by have h9 := hI.1 30 _ _ rfl; rw [show v19709 30 = v 30 from (hf19711 30 (by decide)).trans ((hf19701 30 (by decide)).trans (hf19301 30 (by decide)))] at h9; exact h9
            have t19719 : 0 ≤ (v19699 39).toInt ∧ (v19699 39).toInt ≤ 120 := by have h9 := hI.1 39 _ _ rfl; rw [show v19709 39 = v19699 39 from hf19711 39 (by decide)] at h9; exact h9
            refine va_calli (va_runV (As := []) (rest := []) ⟨hx, hb, hml, hown, hwd⟩ (c_X12_look l dC dI g c adK adV v19709 F19710 rc H.size  hg hI ) (cwV 0 hwd (gV wk_1017 wk_1014 wk_1015 wk_1016 wk_5) rfl rfl rfl (by decide +kernel) ⟨Nat.le_of_ble_eq_true rfl, Nat.le_of_ble_eq_true rfl⟩) ⟨PM.blind, va_recv hK hP (ci := 12) (q0 := 0) rfl rfl, fun U hU hW => ⟨rfl, PM.at hK hE hP hS hU hW⟩⟩ rfl rfl hl.1 rfl (lv_room (Nat.le_of_ble_eq_true rfl)) dX12_either_62 ⟨Nat.le_of_ble_eq_true rfl, Nat.le_of_ble_eq_true rfl⟩) hS (fun q _ h => (freeM hS) q h) (freeM hS) (fun r19720 u t H1 locs ht hvm hw hB hz1 hk1 hS => ?_)
            unfold BM at hB
            rw [ht] at hB
            have hP : va_P (dC, dI) classes (wM g c v19709 F19710 rc) H1 := hB
            have hw : r19720.toInt = lkM (v19709 39) (v19709 30) (F19710 24) ∧ ((v19709 39).toInt < (v19709 30).toInt ∨ r19720.toInt = -1) := hw
            rw [show v19709 39 = v19699 39 from hf19711 39 (by decide)] at hw
            rw [show v19709 30 = v 30 from (hf19711 30 (by decide)).trans ((hf19701 30 (by decide)).trans (hf19301 30 (by decide)))] at hw
            rw [hF 24 (by decide)] at hw
            have hw_r19720 := hw
            generalize H1 = H at hP hS ⊢
            refine lv_bipush (v := 63) hx hb dX12_either_65 (by decide) ?_
            refine lv_icmp_eq (tgt := 71) hx hb dX12_either_67 (by decide) (fun c19721 => ?_) (fun c19721 => ?_)
            · skip
              have t19722 := cv_eq (a := r19720.toInt) rfl (b := 63) (by decide) c19721
              refine lv_aload_n hx hb dX12_either_71 rfl (lv_at hl 1 rfl) ?_
              have t19723 : 0 ≤ (v19699 39).toInt ∧ (v19699 39).toInt ≤ 120 := by have h9 := hI.1 39 _ _ rfl; rw [show v19709 39 = v19699 39 from hf19711 39 (by decide)] at h9; exact h9
              have t19724 : 0 ≤ (v19699 41).toInt ∧ (v19699 41).toInt ≤ 8 := by have h9 := hI.1 41 _ _ rfl; rw [show v19709 41 = v19699 41 from hf19711 41 (by decide)] at h9; exact h9
              refine va_calli (va_runV (As := []) (rest := []) ⟨hx, hb, hml, hown, hwd⟩ (c_X12_opens l dC dI g c adK adV v19709 F19710 rc H.size  hg hI (by have h9 : v19709 39 = v19699 39 := hf19711 39 (by decide); (try rw [h9]); clear h9; have h9 : v19709 30 = v 30 := (hf19711 30 (by decide)).trans ((hf19701 30 (by decide)).trans (hf19301 30 (by decide))); (try rw [h9]); clear h9; omega)) (cwV 0 hwd (gV wk_1025 wk_1022 wk_1023 wk_1024 wk_5) rfl rfl rfl (by decide +kernel) ⟨Nat.le_of_ble_eq_true rfl, Nat.le_of_ble_eq_true rfl⟩) ⟨PM.blind, va_recv hK hP (ci := 12) (q0 := 0) rfl rfl, fun U hU hW => ⟨rfl, PM.at hK hE hP hS hU hW⟩⟩ rfl rfl hl.1 rfl (lv_room (Nat.le_of_ble_eq_true rfl)) dX12_either_72 ⟨Nat.le_of_ble_eq_true rfl, Nat.le_of_ble_eq_true rfl⟩) hS (fun q _ h => (freeM hS) q h) (freeM hS) (fun r19725 u t H1 locs ht hvm hw hB hz1 hk1 hS => ?_)
              unfold BM at hB
              rw [ht] at hB
              obtain ⟨v19726, F19727, rc9⟩ := u
              obtain ⟨hI, hrc, hf19728, hG19729, hw⟩ := hw
              dsimp only at hI hrc hB hf19728 hG19729 hw
              have hF := frCF (by decide) hG19729 hF
              rw [hrc] at hB
              have hP : va_P (dC, dI) classes (wM g c v19726 F19727 rc) H1 := hB
              have hw : (r19725.toInt = 1 ∧ (v19709 41).toInt < 8 ∧ (v19726 41).toInt = (v19709 41).toInt + 1 ∧ (v19726 39).toInt = (v19709 39).toInt + 1 ∧ (v19726 40).toInt = (v19709 40).toInt) ∨ (r19725.toInt = 0 ∧ (v19709 41).toInt = 8 ∧ 0 ≤ (v19726 40).toInt ∧ (v19726 41).toInt = (v19709 41).toInt ∧ (v19726 39).toInt = (v19709 39).toInt) := hw
              rw [show v19709 41 = v19699 41 from hf19711 41 (by decide)] at hw
              rw [show v19709 39 = v19699 39 from hf19711 39 (by decide)] at hw
              rw [show v19709 40 = v19699 40 from hf19711 40 (by decide)] at hw
              have hw_r19725 := hw
              have t19730 : 0 ≤ (v19726 39).toInt ∧ (v19726 39).toInt ≤ 120 := hI.1 39 _ _ rfl
              have t19731 : 0 ≤ (v19726 41).toInt ∧ (v19726 41).toInt ≤ 8 := hI.1 41 _ _ rfl
              generalize H1 = H at hP hS ⊢
              have hk : keepL (v 37) (F 28) (F 29) (F19727 28) (F19727 29) := by rw [hG19729 28 (by decide), hG19729 29 (by decide)]; exact hk
              have hd : (v19726 40).toInt < 0 → dp (F19727 28) (F19727 29) (bI (v 37)) (v19709 38).toInt.toNat = some (((d + 1) + 1) - 1) := fun hf => (by rw [hG19729 28 (by decide), hG19729 29 (by decide)]; exact hd (by omega))
              refine lv_if_ne (tgt := 79) hx hb dX12_either_75 (by decide) (fun c19732 => ?_) (fun c19732 => ?_)
              · skip
                have t19733 := cv_ne (a := r19725.toInt) rfl (b := 0) (by decide) c19732
                refine lv_aload_n hx hb dX12_either_79 rfl (lv_at hl 1 rfl) ?_
                have t19734 : 0 ≤ (v 30).toInt ∧ (v 30).toInt ≤ 120 := by have h9 := hI.1 30 _ _ rfl; rw [show v19726 30 = v 30 from (hf19728 30 (by decide)).trans ((hf19711 30 (by decide)).trans ((hf19701 30 (by decide)).trans (hf19301 30 (by decide))))] at h9; exact h9
                have t19735 : 0 ≤ (v 37).toInt ∧ (v 37).toInt ≤ 9 := by have h9 := hI.1 37 _ _ rfl; rw [show v19726 37 = v 37 from (hf19728 37 (by decide)).trans ((hf19711 37 (by decide)).trans ((hf19701 37 (by decide)).trans (hf19301 37 (by decide))))] at h9; exact h9
                have t19736 : 0 ≤ (v19709 38).toInt ∧ (v19709 38).toInt ≤ 120 := by have h9 := hI.1 38 _ _ rfl; rw [show v19726 38 = v19709 38 from hf19728 38 (by decide)] at h9; exact h9
                have t19737 : 0 ≤ (v19726 39).toInt ∧ (v19726 39).toInt ≤ 120 := hI.1 39 _ _ rfl
                have t19738 : 0 ≤ (v19726 41).toInt ∧ (v19726 41).toInt ≤ 8 := hI.1 41 _ _ rfl
                refine va_callv (va_runV (As := []) (rest := []) ⟨hx, hb, hml, hown, hwd⟩ (c_X12_either_4 l dC dI g c adK adV v19726 F19727 rc H.size  (((d + 1) + 1) - 1) hg hI (by have h9 : v19726 38 = v19709 38 := hf19728 38 (by decide); (try rw [h9]); clear h9; have h9 : v19726 39 = v19726 39 := rfl; (try rw [h9]); clear h9; have h9 : v19726 30 = v 30 := (hf19728 30 (by decide)).trans ((hf19711 30 (by decide)).trans ((hf19701 30 (by decide)).trans (hf19301 30 (by decide)))); (try rw [h9]); clear h9; have h9 : v19726 40 = v19726 40 := rfl; (try rw [h9]); clear h9; have h9 : v19726 41 = v19726 41 := rfl; (try rw [h9]); clear h9; omega) (by have h9 : v19726 37 = (v 37) := (hf19728 37 (by decide)).trans ((hf19711 37 (by decide)).trans ((hf19701 37 (by decide)).trans (hf19301 37 (by decide)))); have h8 : v19726 38 = (v19709 38) := hf19728 38 (by decide); (try rw [h9]); (try rw [h8]); exact hd (by omega))) (cwV 0 hwd (gV wk_1010 wk_1007 wk_1008 wk_1009 wk_5) rfl rfl rfl (by decide +kernel) ⟨Nat.le_of_ble_eq_true rfl, Nat.le_of_ble_eq_true rfl⟩) ⟨PM.blind, va_recv hK hP (ci := 12) (q0 := 0) rfl rfl, fun U hU hW => ⟨rfl, PM.at hK hE hP hS hU hW⟩⟩ rfl rfl hl.1 rfl (lv_room (Nat.le_of_ble_eq_true rfl)) dX12_either_80 ⟨Nat.le_of_ble_eq_true rfl, Nat.le_of_ble_eq_true rfl⟩) hS (fun q _ h => (freeM hS) q h) (freeM hS) (fun u t H1 locs ht hvm hw hB hz1 hk1 hS => ?_)
                unfold BM at hB
                rw [ht] at hB
                obtain ⟨v19740, F19741, rc9⟩ := u
                obtain ⟨hI, hrc, hf19742, hG19743, hw⟩ := hw
                dsimp only at hI hrc hB hf19742 hG19743 hw
                have hF := frCF (by decide) hG19743 hF
                rw [hrc] at hB
                have hP : va_P (dC, dI) classes (wM g c v19740 F19741 rc) H1 := hB
                have hw : ((v19726 39).toInt ≤ (v19740 39).toInt ∧ (v19740 39).toInt ≤ (v19726 30).toInt ∧ (v19726 38).toInt ≤ (v19740 38).toInt ∧ (v19740 38).toInt - (v19726 38).toInt ≤ (v19740 39).toInt - (v19726 39).toInt ∧ (v19726 41).toInt ≤ (v19740 41).toInt ∧ ((v19740 40).toInt < 0 → (v19740 41).toInt = (v19726 41).toInt)) ∧ keepL (v19726 37) (F19727 28) (F19727 29) (F19741 28) (F19741 29) ∧ ((v19740 40).toInt < 0 → dp (F19741 28) (F19741 29) (bI (v19726 37)) (v19740 38).toInt.toNat = some ((((d + 1) + 1) - 1) + 1)) := hw
                rw [show v19726 30 = v 30 from (hf19728 30 (by decide)).trans ((hf19711 30 (by decide)).trans ((hf19701 30 (by decide)).trans (hf19301 30 (by decide))))] at hw
                rw [show v19726 38 = v19709 38 from hf19728 38 (by decide)] at hw
                rw [show v19726 37 = v 37 from (hf19728 37 (by decide)).trans ((hf19711 37 (by decide)).trans ((hf19701 37 (by decide)).trans (hf19301 37 (by decide))))] at hw
                have hw_r19739 := hw
                have t19744 : 0 ≤ (v19740 38).toInt ∧ (v19740 38).toInt ≤ 120 := hI.1 38 _ _ rfl
                have t19745 : 0 ≤ (v19740 39).toInt ∧ (v19740 39).toInt ≤ 120 := hI.1 39 _ _ rfl
                have t19746 : 0 ≤ (v19740 41).toInt ∧ (v19740 41).toInt ≤ 8 := hI.1 41 _ _ rfl
                generalize H1 = H at hP hS ⊢
                have hk := hk.tr hw_r19739.2.1
                have hd := hw_r19739.2.2
                refine lv_aload_n hx hb dX12_either_83 rfl (lv_at hl 1 rfl) ?_
                refine va_get (D := (dC, dI)) (ci := 12) (v := .int (v19740 40)) (C := RX12) (T := TX12) (N := 63) hx hb hwd inA_X12 hown hK hP 0 rfl rfl 40 (by decide) (hwd _ wk_1005) (fun _ h9 => h9) rfl dX12_either_84 ?_
                refine lv_if_lt (tgt := 91) hx hb dX12_either_87 (by decide) (fun c19747 => ?_) (fun c19747 => ?_)
                · skip
                  have t19748 := cv_lt (a := (v19740 40).toInt) rfl (b := 0) (by decide) c19747
                  refine lv_aload_n hx hb dX12_either_91 rfl (lv_at hl 1 rfl) ?_
                  have t19749 : 0 ≤ (v 30).toInt ∧ (v 30).toInt ≤ 120 := by have h9 := hI.1 30 _ _ rfl; rw [show v19740 30 = v 30 from (hf19742 30 (by decide)).trans ((hf19728 30 (by decide)).trans ((hf19711 30 (by decide)).trans ((hf19701 30 (by decide)).trans (hf19301 30 (by decide)))))] at h9; exact h9
                  have t19750 : 0 ≤ (v19740 39).toInt ∧ (v19740 39).toInt ≤ 120 := hI.1 39 _ _ rfl
                  refine va_calli (va_runV (As := []) (rest := []) ⟨hx, hb, hml, hown, hwd⟩ (c_X12_look l dC dI g c adK adV v19740 F19741 rc H.size  hg hI ) (cwV 0 hwd (gV wk_1017 wk_1014 wk_1015 wk_1016 wk_5) rfl rfl rfl (by decide +kernel) ⟨Nat.le_of_ble_eq_true rfl, Nat.le_of_ble_eq_true rfl⟩) ⟨PM.blind, va_recv hK hP (ci := 12) (q0 := 0) rfl rfl, fun U hU hW => ⟨rfl, PM.at hK hE hP hS hU hW⟩⟩ rfl rfl hl.1 rfl (lv_room (Nat.le_of_ble_eq_true rfl)) dX12_either_92 ⟨Nat.le_of_ble_eq_true rfl, Nat.le_of_ble_eq_true rfl⟩) hS (fun q _ h => (freeM hS) q h) (freeM hS) (fun r19751 u t H1 locs ht hvm hw hB hz1 hk1 hS => ?_)
                  unfold BM at hB
                  rw [ht] at hB
                  have hP : va_P (dC, dI) classes (wM g c v19740 F19741 rc) H1 := hB
                  have hw : r19751.toInt = lkM (v19740 39) (v19740 30) (F19741 24) ∧ ((v19740 39).toInt < (v19740 30).toInt ∨ r19751.toInt = -1) := hw
                  rw [show v19740 30 = v 30 from (hf19742 30 (by decide)).trans ((hf19728 30 (by decide)).trans ((hf19711 30 (by decide)).trans ((hf19701 30 (by decide)).trans (hf19301 30 (by decide)))))] at hw
                  rw [hF 24 (by decide)] at hw
                  have hw_r19751 := hw
                  generalize H1 = H at hP hS ⊢
                  refine lv_bipush (v := 58) hx hb dX12_either_95 (by decide) ?_
                  refine lv_icmp_eq (tgt := 105) hx hb dX12_either_97 (by decide) (fun c19752 => ?_) (fun c19752 => ?_)
                  · skip
                    have t19753 := cv_eq (a := r19751.toInt) rfl (b := 58) (by decide) c19752
                    refine lv_aload_n hx hb dX12_either_105 rfl (lv_at hl 1 rfl) ?_
                    refine lv_dup hx hb dX12_either_106 rfl ?_
                    refine va_get (D := (dC, dI)) (ci := 12) (v := .int (v19740 39)) (C := RX12) (T := TX12) (N := 63) hx hb hwd inA_X12 hown hK hP 0 rfl rfl 39 (by decide) (hwd _ wk_1004) (fun _ h9 => h9) rfl dX12_either_107 ?_
                    have t19754 : 0 ≤ (v19740 39).toInt ∧ (v19740 39).toInt ≤ 120 := hI.1 39 _ _ rfl
                    refine lv_iconst (v := 1) hx hb dX12_either_110 (by decide) ?_
                    refine lv_iadd hx hb dX12_either_111 ?_
                    refine lv_topi (fun z19755 e19756 => ?_)
                    try (have t19757 := tadd e19756 (a := (v19740 39).toInt) rfl (b := 1) (by decide) (by omega))
                    refine va_put (D := (dC, dI)) (ci := 12) (v := .int z19755) (ty := .int) (C := RX12) (T := TX12) (N := 63) (fs := fsM_0 g v19740 rc) hx hb hwd inA_X12 tyX12 tyX12_ok nmX12 hown hK hP (DM hg) hS 0 rfl rfl 39 (by decide) (hwd _ wk_1004) (fun _ h9 => h9) rfl (by decide +kernel) rfl rfl (Nat.le_of_ble_eq_true rfl) dX12_either_112 (fun H locs hP _ hS => ?_)
                    have hP := va_P_eq (pM_39 g c _ _ _ _) hP
                    have hI := IM.put hI 39 z19755 rfl (by omega)
                    refine lv_aload_n hx hb dX12_either_115 rfl (lv_at hl 1 rfl) ?_
                    have t19758 : 0 ≤ (v 30).toInt ∧ (v 30).toInt ≤ 120 := by have h9 := hI.1 30 _ _ rfl; rw [show (va_up v19740 39 z19755) 30 = v 30 from (hf19742 30 (by decide)).trans ((hf19728 30 (by decide)).trans ((hf19711 30 (by decide)).trans ((hf19701 30 (by decide)).trans (hf19301 30 (by decide)))))] at h9; exact h9
                    have t19759 : 0 ≤ (v 37).toInt ∧ (v 37).toInt ≤ 9 := by have h9 := hI.1 37 _ _ rfl; rw [show (va_up v19740 39 z19755) 37 = v 37 from (hf19742 37 (by decide)).trans ((hf19728 37 (by decide)).trans ((hf19711 37 (by decide)).trans ((hf19701 37 (by decide)).trans (hf19301 37 (by decide)))))] at h9; exact h9
                    have t19760 : 0 ≤ (v19740 38).toInt ∧ (v19740 38).toInt ≤ 120 := hI.1 38 _ _ rfl
                    have t19761 : 0 ≤ z19755.toInt ∧ z19755.toInt ≤ 120 := hI.1 39 _ _ rfl
                    have t19762 : 0 ≤ (v19740 41).toInt ∧ (v19740 41).toInt ≤ 8 := hI.1 41 _ _ rfl
                    refine va_callv (va_runV (As := []) (rest := []) ⟨hx, hb, hml, hown, hwd⟩ (c_X12_either_4 l dC dI g c adK adV (va_up v19740 39 z19755) F19741 rc H.size  ((((d + 1) + 1) - 1) + 1) hg hI (by have h9 : (va_up v19740 39 z19755) 38 = v19740 38 := rfl; (try rw [h9]); clear h9; have h9 : (va_up v19740 39 z19755) 39 = z19755 := rfl; (try rw [h9]); clear h9; have h9 : (va_up v19740 39 z19755) 30 = v 30 := (hf19742 30 (by decide)).trans ((hf19728 30 (by decide)).trans ((hf19711 30 (by decide)).trans ((hf19701 30 (by decide)).trans (hf19301 30 (by decide))))); (try rw [h9]); clear h9; have h9 : (va_up v19740 39 z19755) 40 = v19740 40 := rfl; (try rw [h9]); clear h9; have h9 : (va_up v19740 39 z19755) 41 = v19740 41 := rfl; (try rw [h9]); clear h9; omega) (by have h9 : (va_up v19740 39 z19755) 37 = (v 37) := (hf19742 37 (by decide)).trans ((hf19728 37 (by decide)).trans ((hf19711 37 (by decide)).trans ((hf19701 37 (by decide)).trans (hf19301 37 (by decide))))); have h8 : (va_up v19740 39 z19755) 38 = (v19740 38) := rfl; (try rw [h9]); (try rw [h8]); exact hd (by omega))) (cwV 0 hwd (gV wk_1010 wk_1007 wk_1008 wk_1009 wk_5) rfl rfl rfl (by decide +kernel) ⟨Nat.le_of_ble_eq_true rfl, Nat.le_of_ble_eq_true rfl⟩) ⟨PM.blind, va_recv hK hP (ci := 12) (q0 := 0) rfl rfl, fun U hU hW => ⟨rfl, PM.at hK hE hP hS hU hW⟩⟩ rfl rfl hl.1 rfl (lv_room (Nat.le_of_ble_eq_true rfl)) dX12_either_116 ⟨Nat.le_of_ble_eq_true rfl, Nat.le_of_ble_eq_true rfl⟩) hS (fun q _ h => (freeM hS) q h) (freeM hS) (fun u t H1 locs ht hvm hw hB hz1 hk1 hS => ?_)
                    unfold BM at hB
                    rw [ht] at hB
                    obtain ⟨v19764, F19765, rc9⟩ := u
                    obtain ⟨hI, hrc, hf19766, hG19767, hw⟩ := hw
                    dsimp only at hI hrc hB hf19766 hG19767 hw
                    have hF := frCF (by decide) hG19767 hF
                    rw [hrc] at hB
                    have hP : va_P (dC, dI) classes (wM g c v19764 F19765 rc) H1 := hB
                    have hw : (z19755.toInt ≤ (v19764 39).toInt ∧ (v19764 39).toInt ≤ ((va_up v19740 39 z19755) 30).toInt ∧ (v19740 38).toInt ≤ (v19764 38).toInt ∧ (v19764 38).toInt - (v19740 38).toInt ≤ (v19764 39).toInt - z19755.toInt ∧ (v19740 41).toInt ≤ (v19764 41).toInt ∧ ((v19764 40).toInt < 0 → (v19764 41).toInt = (v19740 41).toInt)) ∧ keepL ((va_up v19740 39 z19755) 37) (F19741 28) (F19741 29) (F19765 28) (F19765 29) ∧ ((v19764 40).toInt < 0 → dp (F19765 28) (F19765 29) (bI ((va_up v19740 39 z19755) 37)) (v19764 38).toInt.toNat = some (((((d + 1) + 1) - 1) + 1) + 1)) := hw
                    rw [show (va_up v19740 39 z19755) 30 = v 30 from (hf19742 30 (by decide)).trans ((hf19728 30 (by decide)).trans ((hf19711 30 (by decide)).trans ((hf19701 30 (by decide)).trans (hf19301 30 (by decide)))))] at hw
                    rw [show (va_up v19740 39 z19755) 37 = v 37 from (hf19742 37 (by decide)).trans ((hf19728 37 (by decide)).trans ((hf19711 37 (by decide)).trans ((hf19701 37 (by decide)).trans (hf19301 37 (by decide)))))] at hw
                    have hw_r19763 := hw
                    have t19768 : 0 ≤ (v19764 38).toInt ∧ (v19764 38).toInt ≤ 120 := hI.1 38 _ _ rfl
                    have t19769 : 0 ≤ (v19764 39).toInt ∧ (v19764 39).toInt ≤ 120 := hI.1 39 _ _ rfl
                    have t19770 : 0 ≤ (v19764 41).toInt ∧ (v19764 41).toInt ≤ 8 := hI.1 41 _ _ rfl
                    generalize H1 = H at hP hS ⊢
                    have hk := hk.tr hw_r19763.2.1
                    have hd := hw_r19763.2.2
                    refine lv_aload_n hx hb dX12_either_119 rfl (lv_at hl 1 rfl) ?_
                    refine lv_iconst (v := 4) hx hb dX12_either_120 (by decide) ?_
                    refine lv_iconst (v := 0) hx hb dX12_either_121 (by decide) ?_
                    have t19771 : 0 ≤ (v 37).toInt ∧ (v 37).toInt ≤ 9 := by have h9 := hI.1 37 _ _ rfl; rw [show v19764 37 = v 37 from (hf19766 37 (by decide)).trans ((hf19742 37 (by decide)).trans ((hf19728 37 (by decide)).trans ((hf19711 37 (by decide)).trans ((hf19701 37 (by decide)).trans (hf19301 37 (by decide))))))] at h9; exact h9
                    have t19772 : 0 ≤ (v19764 38).toInt ∧ (v19764 38).toInt ≤ 120 := hI.1 38 _ _ rfl
                    refine va_callv (va_runV (As := [.int 4, .int 0]) (rest := []) ⟨hx, hb, hml, hown, hwd⟩ (c_X12_lay l dC dI g c adK adV v19764 F19765 rc H.size 4 0 hg hI (by have h9 : v19764 38 = v19764 38 := rfl; rw [h9]; omega)) (cwV 2 hwd (gV wk_1021 wk_1018 wk_1019 wk_1020 wk_5) rfl rfl rfl (by decide +kernel) ⟨Nat.le_of_ble_eq_true rfl, Nat.le_of_ble_eq_true rfl⟩) ⟨PM.blind, va_recv hK hP (ci := 12) (q0 := 0) rfl rfl, fun U hU hW => ⟨rfl, PM.at hK hE hP hS hU hW⟩⟩ rfl rfl hl.1 rfl (lv_room (Nat.le_of_ble_eq_true rfl)) dX12_either_122 ⟨Nat.le_of_ble_eq_true rfl, Nat.le_of_ble_eq_true rfl⟩) hS (fun q _ h => (freeM hS) q h) (freeM hS) (fun u t H1 locs ht hvm hw hB hz1 hk1 hS => ?_)
                    unfold BM at hB
                    rw [ht] at hB
                    obtain ⟨v19774, F19775, rc9⟩ := u
                    obtain ⟨hI, hrc, hf19776, hG19777, hw⟩ := hw
                    dsimp only at hI hrc hB hf19776 hG19777 hw
                    have hF := frCF (by decide) hG19777 hF
                    rw [hrc] at hB
                    have hP : va_P (dC, dI) classes (wM g c v19774 F19775 rc) H1 := hB
                    have hw : (v19774 38).toInt = (v19764 38).toInt + 1 ∧ keepL (v19764 37) (F19765 28) (F19765 29) (F19775 28) (F19775 29) ∧ dp (F19775 28) (F19775 29) (bI (v19764 37)) ((v19764 38).toInt.toNat + 1) = dpS (dp (F19765 28) (F19765 29) (bI (v19764 37)) (v19764 38).toInt.toNat) (4 : Int32) (0 : Int32) := hw
                    rw [show v19764 37 = v 37 from (hf19766 37 (by decide)).trans ((hf19742 37 (by decide)).trans ((hf19728 37 (by decide)).trans ((hf19711 37 (by decide)).trans ((hf19701 37 (by decide)).trans (hf19301 37 (by decide))))))] at hw
                    have hw_r19773 := hw
                    have t19778 : 0 ≤ (v19774 38).toInt ∧ (v19774 38).toInt ≤ 120 := hI.1 38 _ _ rfl
                    have k19779 : (4 : Int32).toInt = 4 := by decide
                    have k19780 : (0 : Int32).toInt = 0 := by decide
                    generalize H1 = H at hP hS ⊢
                    have hk := hk.tr hw_r19773.2.1
                    have hd : (v19764 40).toInt < 0 → dp (F19775 28) (F19775 29) (bI (v 37)) (v19774 38).toInt.toNat = some ((((((d + 1) + 1) - 1) + 1) + 1) - 2) := fun hf => (by have e9 : (v19774 38).toInt.toNat = (v19764 38).toInt.toNat + 1 := (by omega); rw [e9, hw_r19773.2.2, hd hf]; exact dpS_4 (by decide) (by omega))
                    refine lv_aload_n hx hb dX12_either_125 rfl (lv_at hl 1 rfl) ?_
                    refine lv_dup hx hb dX12_either_126 rfl ?_
                    refine va_get (D := (dC, dI)) (ci := 12) (v := .int (v19774 41)) (C := RX12) (T := TX12) (N := 63) hx hb hwd inA_X12 hown hK hP 0 rfl rfl 41 (by decide) (hwd _ wk_1006) (fun _ h9 => h9) rfl dX12_either_127 ?_
                    refine my_top (v := v19764 41) (hf19776 41 (by decide)) ?_
                    have t19781 : 0 ≤ (v19764 41).toInt ∧ (v19764 41).toInt ≤ 8 := by have h9 := hI.1 41 _ _ rfl; rw [show v19774 41 = v19764 41 from hf19776 41 (by decide)] at h9; exact h9
                    refine lv_iconst (v := 1) hx hb dX12_either_130 (by decide) ?_
                    refine lv_isub hx hb dX12_either_131 ?_
                    refine lv_topi (fun z19782 e19783 => ?_)
                    try (have t19784 := tsub e19783 (a := (v19764 41).toInt) rfl (b := 1) (by decide) (by omega))
                    refine va_put (D := (dC, dI)) (ci := 12) (v := .int z19782) (ty := .int) (C := RX12) (T := TX12) (N := 63) (fs := fsM_0 g v19774 rc) hx hb hwd inA_X12 tyX12 tyX12_ok nmX12 hown hK hP (DM hg) hS 0 rfl rfl 41 (by decide) (hwd _ wk_1006) (fun _ h9 => h9) rfl (by decide +kernel) rfl rfl (Nat.le_of_ble_eq_true rfl) dX12_either_132 (fun H locs hP _ hS => ?_)
                    have hP := va_P_eq (pM_41 g c _ _ _ _) hP
                    have hI := IM.put hI 41 z19782 rfl (by omega)
                    have hP9 : va_P (dC, dI) classes (wM g c (va_up v19774 41 z19782) F19775 rc) H := hP
                    exact W.vret hx hb hr (fun t ht hW => ⟨⟨((va_up v19774 41 z19782), F19775, rc), rfl, ⟨hI, rfl, (frU (by decide) (frC (by decide) hf19776 (frC (by decide) hf19766 (frU (by decide) (frC (by decide) hf19742 (frC (by decide) hf19728 (frC (by decide) hf19711 (frC (by decide) hf19701 (frU (by decide) (frC (by decide) hf19301 (fun _ _ => rfl))))))))))), hF, (by show ((v 39).toInt ≤ ((va_up v19774 41 z19782) 39).toInt ∧ ((va_up v19774 41 z19782) 39).toInt ≤ (v 30).toInt ∧ (v 38).toInt ≤ (v19774 38).toInt ∧ (v19774 38).toInt - (v 38).toInt ≤ ((va_up v19774 41 z19782) 39).toInt - (v 39).toInt ∧ (v 41).toInt ≤ z19782.toInt ∧ (((va_up v19774 41 z19782) 40).toInt < 0 → z19782.toInt = (v 41).toInt)) ∧ keepL (v 37) (F 28) (F 29) (F19775 28) (F19775 29) ∧ (((va_up v19774 41 z19782) 40).toInt < 0 → dp (F19775 28) (F19775 29) (bI (v 37)) (v19774 38).toInt.toNat = some (d + 1)); rw [show (va_up v19774 41 z19782) 39 = v19764 39 from hf19776 39 (by decide)]; rw [show (va_up v19774 41 z19782) 40 = v19764 40 from hf19776 40 (by decide)]; exact ⟨by omega, hk, fun hf => (hd (by omega)).trans (congrArg some (by omega))⟩)⟩, (by show va_P _ _ _ t.heap; rw [ht]; exact hP9)⟩, hS.F ht⟩) hS.2.2 dX12_either_135
                  · skip
                    have t19785 := cv_ne (a := r19751.toInt) rfl (b := 58) (by decide) c19752
                    refine lv_aload_n hx hb dX12_either_100 rfl (lv_at hl 1 rfl) ?_
                    refine va_callv (va_runV (As := []) (rest := []) ⟨hx, hb, hml, hown, hwd⟩ (c_X12_wrong l dC dI g c adK adV v19740 F19741 rc H.size  hg hI ) (cwV 0 hwd (gV wk_1029 wk_1026 wk_1027 wk_1028 wk_5) rfl rfl rfl (by decide +kernel) ⟨Nat.le_of_ble_eq_true rfl, Nat.le_of_ble_eq_true rfl⟩) ⟨PM.blind, va_recv hK hP (ci := 12) (q0 := 0) rfl rfl, fun U hU hW => ⟨rfl, PM.at hK hE hP hS hU hW⟩⟩ rfl rfl hl.1 rfl (lv_room (Nat.le_of_ble_eq_true rfl)) dX12_either_101 ⟨Nat.le_of_ble_eq_true rfl, Nat.le_of_ble_eq_true rfl⟩) hS (fun q _ h => (freeM hS) q h) (freeM hS) (fun u t H1 locs ht hvm hw hB hz1 hk1 hS => ?_)
                    unfold BM at hB
                    rw [ht] at hB
                    obtain ⟨v19787, F19788, rc9⟩ := u
                    obtain ⟨hI, hrc, hf19789, hG19790, hw⟩ := hw
                    dsimp only at hI hrc hB hf19789 hG19790 hw
                    have hF := frCF (by decide) hG19790 hF
                    rw [hrc] at hB
                    have hP : va_P (dC, dI) classes (wM g c v19787 F19788 rc) H1 := hB
                    have hw : 0 ≤ (v19787 40).toInt := hw
                    have hw_r19786 := hw
                    generalize H1 = H at hP hS ⊢
                    have hk : keepL (v 37) (F 28) (F 29) (F19788 28) (F19788 29) := by rw [hG19790 28 (by decide), hG19790 29 (by decide)]; exact hk
                    have hd : (v19787 40).toInt < 0 → dp (F19788 28) (F19788 29) (bI (v 37)) (v19740 38).toInt.toNat = some ((((d + 1) + 1) - 1) + 1) := fun hf => (by rw [hG19790 28 (by decide), hG19790 29 (by decide)]; exact hd (by omega))
                    have hP9 : va_P (dC, dI) classes (wM g c v19787 F19788 rc) H := hP
                    exact W.vret hx hb hr (fun t ht hW => ⟨⟨(v19787, F19788, rc), rfl, ⟨hI, rfl, (frC (by decide) hf19789 (frC (by decide) hf19742 (frC (by decide) hf19728 (frC (by decide) hf19711 (frC (by decide) hf19701 (frU (by decide) (frC (by decide) hf19301 (fun _ _ => rfl)))))))), hF, (by show ((v 39).toInt ≤ (v19787 39).toInt ∧ (v19787 39).toInt ≤ (v 30).toInt ∧ (v 38).toInt ≤ (v19787 38).toInt ∧ (v19787 38).toInt - (v 38).toInt ≤ (v19787 39).toInt - (v 39).toInt ∧ (v 41).toInt ≤ (v19787 41).toInt ∧ ((v19787 40).toInt < 0 → (v19787 41).toInt = (v 41).toInt)) ∧ keepL (v 37) (F 28) (F 29) (F19788 28) (F19788 29) ∧ ((v19787 40).toInt < 0 → dp (F19788 28) (F19788 29) (bI (v 37)) (v19787 38).toInt.toNat = some (d + 1)); rw [show v19787 39 = v19740 39 from hf19789 39 (by decide)]; rw [show v19787 38 = v19740 38 from hf19789 38 (by decide)]; rw [show v19787 41 = v19740 41 from hf19789 41 (by decide)]; exact ⟨by omega, hk, fun hf => (hd (by omega)).trans (congrArg some (by omega))⟩)⟩, (by show va_P _ _ _ t.heap; rw [ht]; exact hP9)⟩, hS.F ht⟩) hS.2.2 dX12_either_104
                · skip
                  have t19791 := cv_nlt (a := (v19740 40).toInt) rfl (b := 0) (by decide) c19747
                  have hP9 : va_P (dC, dI) classes (wM g c v19740 F19741 rc) H := hP
                  exact W.vret hx hb hr (fun t ht hW => ⟨⟨(v19740, F19741, rc), rfl, ⟨hI, rfl, (frC (by decide) hf19742 (frC (by decide) hf19728 (frC (by decide) hf19711 (frC (by decide) hf19701 (frU (by decide) (frC (by decide) hf19301 (fun _ _ => rfl))))))), hF, (by show ((v 39).toInt ≤ (v19740 39).toInt ∧ (v19740 39).toInt ≤ (v 30).toInt ∧ (v 38).toInt ≤ (v19740 38).toInt ∧ (v19740 38).toInt - (v 38).toInt ≤ (v19740 39).toInt - (v 39).toInt ∧ (v 41).toInt ≤ (v19740 41).toInt ∧ ((v19740 40).toInt < 0 → (v19740 41).toInt = (v 41).toInt)) ∧ keepL (v 37) (F 28) (F 29) (F19741 28) (F19741 29) ∧ ((v19740 40).toInt < 0 → dp (F19741 28) (F19741 29) (bI (v 37)) (v19740 38).toInt.toNat = some (d + 1)); exact ⟨by omega, hk, fun hf => (hd (by omega)).trans (congrArg some (by omega))⟩)⟩, (by show va_P _ _ _ t.heap; rw [ht]; exact hP9)⟩, hS.F ht⟩) hS.2.2 dX12_either_90
              · skip
                have t19792 := cv_eq (a := r19725.toInt) rfl (b := 0) (by decide) c19732
                have hP9 : va_P (dC, dI) classes (wM g c v19726 F19727 rc) H := hP
                exact W.vret hx hb hr (fun t ht hW => ⟨⟨(v19726, F19727, rc), rfl, ⟨hI, rfl, (frC (by decide) hf19728 (frC (by decide) hf19711 (frC (by decide) hf19701 (frU (by decide) (frC (by decide) hf19301 (fun _ _ => rfl)))))), hF, (by show ((v 39).toInt ≤ (v19726 39).toInt ∧ (v19726 39).toInt ≤ (v 30).toInt ∧ (v 38).toInt ≤ (v19726 38).toInt ∧ (v19726 38).toInt - (v 38).toInt ≤ (v19726 39).toInt - (v 39).toInt ∧ (v 41).toInt ≤ (v19726 41).toInt ∧ ((v19726 40).toInt < 0 → (v19726 41).toInt = (v 41).toInt)) ∧ keepL (v 37) (F 28) (F 29) (F19727 28) (F19727 29) ∧ ((v19726 40).toInt < 0 → dp (F19727 28) (F19727 29) (bI (v 37)) (v19726 38).toInt.toNat = some (d + 1)); rw [show v19726 38 = v19709 38 from hf19728 38 (by decide)]; exact ⟨by omega, hk, fun hf => (hd (by omega)).trans (congrArg some (by omega))⟩)⟩, (by show va_P _ _ _ t.heap; rw [ht]; exact hP9)⟩, hS.F ht⟩) hS.2.2 dX12_either_78
            · skip
              have t19793 := cv_ne (a := r19720.toInt) rfl (b := 63) (by decide) c19721
              have hP9 : va_P (dC, dI) classes (wM g c v19709 F19710 rc) H := hP
              exact W.vret hx hb hr (fun t ht hW => ⟨⟨(v19709, F19710, rc), rfl, ⟨hI, rfl, (frC (by decide) hf19711 (frC (by decide) hf19701 (frU (by decide) (frC (by decide) hf19301 (fun _ _ => rfl))))), hF, (by show ((v 39).toInt ≤ (v19709 39).toInt ∧ (v19709 39).toInt ≤ (v 30).toInt ∧ (v 38).toInt ≤ (v19709 38).toInt ∧ (v19709 38).toInt - (v 38).toInt ≤ (v19709 39).toInt - (v 39).toInt ∧ (v 41).toInt ≤ (v19709 41).toInt ∧ ((v19709 40).toInt < 0 → (v19709 41).toInt = (v 41).toInt)) ∧ keepL (v 37) (F 28) (F 29) (F19710 28) (F19710 29) ∧ ((v19709 40).toInt < 0 → dp (F19710 28) (F19710 29) (bI (v 37)) (v19709 38).toInt.toNat = some (d + 1)); rw [show v19709 39 = v19699 39 from hf19711 39 (by decide)]; rw [show v19709 41 = v19699 41 from hf19711 41 (by decide)]; rw [show v19709 40 = v19699 40 from hf19711 40 (by decide)]; exact ⟨by omega, hk, fun hf => (hd (by omega)).trans (congrArg some (by omega))⟩)⟩, (by show va_P _ _ _ t.heap; rw [ht]; exact hP9)⟩, hS.F ht⟩) hS.2.2 dX12_either_70
