set_option maxHeartbeats 8000000 in
set_option maxRecDepth 100000 in
theorem c_X12_part (l : Launch) (dC : Nat → ClassId) (dI : Nat → Nat → Nat) (g : Nat → Nat) (c : Nat → ClassId) (adK adV : Nat → Nat) (v : Nat → Int32) (F : Nat → Nat → Int32) (rc sz : Nat) (p0 : Int32) (p1 : Int32) (p2 : Int32) (p3 : Int32) (p4 : Int32) (hg : injM g) (hI : IM v F) (hJ : JO (v 14) (v 19) (F 13) (F 15) (F 18)) : Met l yX12_part (Cond.code yX12_part cX12_part 7 (some .int) :: wA) ({ frames := 3, cells := 0, slots := 0, locals := 120 }) (va_Pc [.ref (g 0), .int p0, .int p1, .int p2, .int p3, .int p4] (PM dC dI g c adK adV v F rc sz)) (va_Qi (fun (r : Int32) (u : StM) => IM u.1 u.2.1 ∧ u.2.2 = rc ∧ (∀ k, k ∉ ([14, 19] : List Nat) → u.1 k = v k) ∧ (∀ k, k ∉ ([11, 12, 13, 14, 15, 16, 17, 18, 19, 21, 23] : List Nat) → u.2.1 k = F k) ∧ JO (u.1 14) (u.1 19) (u.2.1 13) (u.2.1 15) (u.2.1 18)) (BM dC dI g c) (AM g sz)) 0 0 (AM g sz) := by
  refine Met.ofW (cc := cX12_part) (maxL := 7) (ret := (some .int)) (by decide) rfl ?_
  intro p e s m args below meth c0 s₁ B hml hv
  obtain ⟨rfl, hsz, hP, hK, hE⟩ := hv
  have hx := B.exec
  have hb := B.bytes
  have hr := B.returns
  have hts := atoms_spec (ws := Cond.code yX12_part cX12_part 7 (some .int) :: wA) B.pre
  have hwd : ∀ w ∈ wA, w.before _ s = true := fun w h => hts w (List.mem_cons_of_mem _ h)
  have hown : s.vm.findClass RX12 = some m.cls := findClass_of_methodNamed B.named
  have hlocks := B.notSynchronized
  subst hsz
  have hl := lv_entry ([.ref (g 0), .int p0, .int p1, .int p2, .int p3, .int p4]) (n := 7) (Nat.le_of_ble_eq_true rfl)
  rw [lg_entry_eq]
  generalize (lg_sl ([.ref (g 0), .int p0, .int p1, .int p2, .int p3, .int p4]) ++ List.replicate (7 - (lg_sl ([.ref (g 0), .int p0, .int p1, .int p2, .int p3, .int p4])).length) Slot.unset).toArray = ls at hl ⊢
  have hl : lv_has ls 7 [(0, .ref (g 0)), (1, .int p0), (2, .int p1), (3, .int p2), (4, .int p3), (5, .int p4)] := hl
  obtain ⟨H, eH⟩ : ∃ z, z = s.heap := ⟨_, rfl⟩
  have hP : va_P (dC, dI) classes (wM g c v F rc) H := by rw [eH]; exact hP
  have hS : va_S (AM g s.heap.size) s.heap H [] := by rw [eH]; exact va_S.rf
  refine my_heap eH ?_
  have hF : ∀ k, k ∉ ([11, 12, 13, 14, 15, 16, 17, 18, 19, 21, 23] : List Nat) → F k = F k := fun _ _ => rfl
  have rp0 := i32_rng p0
  have rp1 := i32_rng p1
  have rp2 := i32_rng p2
  have rp3 := i32_rng p3
  have rp4 := i32_rng p4
  refine lv_aload_n hx hb dX12_part_0 rfl (lv_at hl 0 rfl) ?_
  refine lv_iload_n hx hb dX12_part_1 rfl (lv_at hl 1 rfl) ?_
  refine va_calli (va_runV (As := [.int p0]) (rest := []) ⟨hx, hb, hml, hown, hwd⟩ (c_X12_isKind l dC dI g c adK adV v F rc H.size p0 hg hI ) (cwV 1 hwd (gV wk_309 wk_306 wk_307 wk_308 wk_5) rfl rfl rfl (by decide +kernel) ⟨Nat.le_of_ble_eq_true rfl, Nat.le_of_ble_eq_true rfl⟩) ⟨PM.blind, va_recv hK hP (ci := 12) (q0 := 0) rfl rfl, fun U hU hW => ⟨rfl, PM.at hK hE hP hS hU hW⟩⟩ rfl rfl hl.1 rfl (lv_room (Nat.le_of_ble_eq_true rfl)) dX12_part_2 ⟨Nat.le_of_ble_eq_true rfl, Nat.le_of_ble_eq_true rfl⟩) hS (fun q _ h => (freeM hS) q h) (freeM hS) (fun r8451 u t H1 locs ht hvm hw hB hz1 hk1 hS => ?_)
  unfold BM at hB
  rw [ht] at hB
  have hP : va_P (dC, dI) classes (wM g c v F rc) H1 := hB
  have hw : (r8451.toInt = 1 ∧ 0 ≤ p0.toInt ∧ p0.toInt < (v 2).toInt) ∨ (r8451.toInt = 0 ∧ (p0.toInt < 0 ∨ (v 2).toInt ≤ p0.toInt)) := hw
  have hw_r8451 := hw
  generalize H1 = H at hP hS ⊢
  refine lv_if_eq (tgt := 50) hx hb dX12_part_5 (by decide) (fun c8452 => ?_) (fun c8452 => ?_)
  · skip
    have t8453 := cv_eq (a := r8451.toInt) rfl (b := 0) (by decide) c8452
    refine lv_iconst (v := (-1)) hx hb dX12_part_50 (by decide) ?_
    have hP9 : va_P (dC, dI) classes (wM g c v F rc) H := hP
    exact W.iret (v := (-1)) hx hb hr (fun t ht hW => ⟨⟨(-1), (v, F, rc), rfl, ⟨hI, rfl, (fun _ _ => rfl), hF, hJ⟩, (by show va_P _ _ _ t.heap; rw [ht]; exact hP9)⟩, hS.F ht⟩) hS.2.2 dX12_part_51
  · skip
    have t8454 := cv_ne (a := r8451.toInt) rfl (b := 0) (by decide) c8452
    refine lv_iload_n hx hb dX12_part_8 rfl (lv_at hl 2 rfl) ?_
    refine lv_iconst (v := 1) hx hb dX12_part_9 (by decide) ?_
    refine lv_ldc (v := 99999) hx hb hown (hwd _ wk_249) dX12_part_10 ?_
    refine va_calli (va_runS (As := [.int p1, .int 1, .int 99999]) (rest := []) ⟨hx, hb, hml, hown, hwd⟩ (c_X12_in l dC dI g c adK adV v F rc H.size p1 1 99999 hg hI ) (va_cwS 3 hwd (gT wk_254 wk_252 wk_253 wk_5) rfl rfl rfl (by decide +kernel) ⟨Nat.le_of_ble_eq_true rfl, Nat.le_of_ble_eq_true rfl⟩) ⟨PM.blind, fun U hU hW => ⟨rfl, PM.at hK hE hP hS hU hW⟩⟩ rfl rfl hl.1 rfl (lv_room (Nat.le_of_ble_eq_true rfl)) dX12_part_12 ⟨Nat.le_of_ble_eq_true rfl, Nat.le_of_ble_eq_true rfl⟩) hS (fun q _ h => (freeM hS) q h) (freeM hS) (fun r8455 u t H1 locs ht hvm hw hB hz1 hk1 hS => ?_)
    unfold BM at hB
    rw [ht] at hB
    have hP : va_P (dC, dI) classes (wM g c v F rc) H1 := hB
    have hw : (r8455.toInt = 1 ∧ (1 : Int32).toInt ≤ p1.toInt ∧ p1.toInt ≤ (99999 : Int32).toInt) ∨ (r8455.toInt = 0 ∧ (p1.toInt < (1 : Int32).toInt ∨ (99999 : Int32).toInt < p1.toInt)) := hw
    have hw_r8455 := hw
    have k8456 : (1 : Int32).toInt = 1 := by decide
    have k8457 : (99999 : Int32).toInt = 99999 := by decide
    generalize H1 = H at hP hS ⊢
    refine lv_if_eq (tgt := 50) hx hb dX12_part_15 (by decide) (fun c8458 => ?_) (fun c8458 => ?_)
    · skip
      have t8459 := cv_eq (a := r8455.toInt) rfl (b := 0) (by decide) c8458
      refine lv_iconst (v := (-1)) hx hb dX12_part_50 (by decide) ?_
      have hP9 : va_P (dC, dI) classes (wM g c v F rc) H := hP
      exact W.iret (v := (-1)) hx hb hr (fun t ht hW => ⟨⟨(-1), (v, F, rc), rfl, ⟨hI, rfl, (fun _ _ => rfl), hF, hJ⟩, (by show va_P _ _ _ t.heap; rw [ht]; exact hP9)⟩, hS.F ht⟩) hS.2.2 dX12_part_51
    · skip
      have t8460 := cv_ne (a := r8455.toInt) rfl (b := 0) (by decide) c8458
      refine lv_iload_n hx hb dX12_part_18 rfl (lv_at hl 3 rfl) ?_
      refine lv_iconst (v := 0) hx hb dX12_part_19 (by decide) ?_
      refine lv_ldc (v := 99999) hx hb hown (hwd _ wk_249) dX12_part_20 ?_
      refine va_calli (va_runS (As := [.int p2, .int 0, .int 99999]) (rest := []) ⟨hx, hb, hml, hown, hwd⟩ (c_X12_in l dC dI g c adK adV v F rc H.size p2 0 99999 hg hI ) (va_cwS 3 hwd (gT wk_254 wk_252 wk_253 wk_5) rfl rfl rfl (by decide +kernel) ⟨Nat.le_of_ble_eq_true rfl, Nat.le_of_ble_eq_true rfl⟩) ⟨PM.blind, fun U hU hW => ⟨rfl, PM.at hK hE hP hS hU hW⟩⟩ rfl rfl hl.1 rfl (lv_room (Nat.le_of_ble_eq_true rfl)) dX12_part_22 ⟨Nat.le_of_ble_eq_true rfl, Nat.le_of_ble_eq_true rfl⟩) hS (fun q _ h => (freeM hS) q h) (freeM hS) (fun r8461 u t H1 locs ht hvm hw hB hz1 hk1 hS => ?_)
      unfold BM at hB
      rw [ht] at hB
      have hP : va_P (dC, dI) classes (wM g c v F rc) H1 := hB
      have hw : (r8461.toInt = 1 ∧ (0 : Int32).toInt ≤ p2.toInt ∧ p2.toInt ≤ (99999 : Int32).toInt) ∨ (r8461.toInt = 0 ∧ (p2.toInt < (0 : Int32).toInt ∨ (99999 : Int32).toInt < p2.toInt)) := hw
      have hw_r8461 := hw
      have k8462 : (0 : Int32).toInt = 0 := by decide
      have k8463 : (99999 : Int32).toInt = 99999 := by decide
      generalize H1 = H at hP hS ⊢
      refine lv_if_eq (tgt := 50) hx hb dX12_part_25 (by decide) (fun c8464 => ?_) (fun c8464 => ?_)
      · skip
        have t8465 := cv_eq (a := r8461.toInt) rfl (b := 0) (by decide) c8464
        refine lv_iconst (v := (-1)) hx hb dX12_part_50 (by decide) ?_
        have hP9 : va_P (dC, dI) classes (wM g c v F rc) H := hP
        exact W.iret (v := (-1)) hx hb hr (fun t ht hW => ⟨⟨(-1), (v, F, rc), rfl, ⟨hI, rfl, (fun _ _ => rfl), hF, hJ⟩, (by show va_P _ _ _ t.heap; rw [ht]; exact hP9)⟩, hS.F ht⟩) hS.2.2 dX12_part_51
      · skip
        have t8466 := cv_ne (a := r8461.toInt) rfl (b := 0) (by decide) c8464
        refine lv_iload hx hb dX12_part_28 (lv_at hl 4 rfl) ?_
        refine lv_iconst (v := 0) hx hb dX12_part_30 (by decide) ?_
        refine lv_ldc (v := 99999) hx hb hown (hwd _ wk_249) dX12_part_31 ?_
        refine va_calli (va_runS (As := [.int p3, .int 0, .int 99999]) (rest := []) ⟨hx, hb, hml, hown, hwd⟩ (c_X12_in l dC dI g c adK adV v F rc H.size p3 0 99999 hg hI ) (va_cwS 3 hwd (gT wk_254 wk_252 wk_253 wk_5) rfl rfl rfl (by decide +kernel) ⟨Nat.le_of_ble_eq_true rfl, Nat.le_of_ble_eq_true rfl⟩) ⟨PM.blind, fun U hU hW => ⟨rfl, PM.at hK hE hP hS hU hW⟩⟩ rfl rfl hl.1 rfl (lv_room (Nat.le_of_ble_eq_true rfl)) dX12_part_33 ⟨Nat.le_of_ble_eq_true rfl, Nat.le_of_ble_eq_true rfl⟩) hS (fun q _ h => (freeM hS) q h) (freeM hS) (fun r8467 u t H1 locs ht hvm hw hB hz1 hk1 hS => ?_)
        unfold BM at hB
        rw [ht] at hB
        have hP : va_P (dC, dI) classes (wM g c v F rc) H1 := hB
        have hw : (r8467.toInt = 1 ∧ (0 : Int32).toInt ≤ p3.toInt ∧ p3.toInt ≤ (99999 : Int32).toInt) ∨ (r8467.toInt = 0 ∧ (p3.toInt < (0 : Int32).toInt ∨ (99999 : Int32).toInt < p3.toInt)) := hw
        have hw_r8467 := hw
        have k8468 : (0 : Int32).toInt = 0 := by decide
        have k8469 : (99999 : Int32).toInt = 99999 := by decide
        generalize H1 = H at hP hS ⊢
        refine lv_if_eq (tgt := 50) hx hb dX12_part_36 (by decide) (fun c8470 => ?_) (fun c8470 => ?_)
        · skip
          have t8471 := cv_eq (a := r8467.toInt) rfl (b := 0) (by decide) c8470
          refine lv_iconst (v := (-1)) hx hb dX12_part_50 (by decide) ?_
          have hP9 : va_P (dC, dI) classes (wM g c v F rc) H := hP
          exact W.iret (v := (-1)) hx hb hr (fun t ht hW => ⟨⟨(-1), (v, F, rc), rfl, ⟨hI, rfl, (fun _ _ => rfl), hF, hJ⟩, (by show va_P _ _ _ t.heap; rw [ht]; exact hP9)⟩, hS.F ht⟩) hS.2.2 dX12_part_51
        · skip
          have t8472 := cv_ne (a := r8467.toInt) rfl (b := 0) (by decide) c8470
          refine lv_iload hx hb dX12_part_39 (lv_at hl 5 rfl) ?_
          refine lv_iconst (v := 0) hx hb dX12_part_41 (by decide) ?_
          refine lv_ldc (v := 99999) hx hb hown (hwd _ wk_249) dX12_part_42 ?_
          refine va_calli (va_runS (As := [.int p4, .int 0, .int 99999]) (rest := []) ⟨hx, hb, hml, hown, hwd⟩ (c_X12_in l dC dI g c adK adV v F rc H.size p4 0 99999 hg hI ) (va_cwS 3 hwd (gT wk_254 wk_252 wk_253 wk_5) rfl rfl rfl (by decide +kernel) ⟨Nat.le_of_ble_eq_true rfl, Nat.le_of_ble_eq_true rfl⟩) ⟨PM.blind, fun U hU hW => ⟨rfl, PM.at hK hE hP hS hU hW⟩⟩ rfl rfl hl.1 rfl (lv_room (Nat.le_of_ble_eq_true rfl)) dX12_part_44 ⟨Nat.le_of_ble_eq_true rfl, Nat.le_of_ble_eq_true rfl⟩) hS (fun q _ h => (freeM hS) q h) (freeM hS) (fun r8473 u t H1 locs ht hvm hw hB hz1 hk1 hS => ?_)
          unfold BM at hB
          rw [ht] at hB
          have hP : va_P (dC, dI) classes (wM g c v F rc) H1 := hB
          have hw : (r8473.toInt = 1 ∧ (0 : Int32).toInt ≤ p4.toInt ∧ p4.toInt ≤ (99999 : Int32).toInt) ∨ (r8473.toInt = 0 ∧ (p4.toInt < (0 : Int32).toInt ∨ (99999 : Int32).toInt < p4.toInt)) := hw
          have hw_r8473 := hw
          have k8474 : (0 : Int32).toInt = 0 := by decide
          have k8475 : (99999 : Int32).toInt = 99999 := by decide
          generalize H1 = H at hP hS ⊢
          refine lv_if_ne (tgt := 52) hx hb dX12_part_47 (by decide) (fun c8476 => ?_) (fun c8476 => ?_)
          · skip
            have t8477 := cv_ne (a := r8473.toInt) rfl (b := 0) (by decide) c8476
            refine lv_aload_n hx hb dX12_part_52 rfl (lv_at hl 0 rfl) ?_
            refine va_get (D := (dC, dI)) (ci := 12) (v := .int (v 14)) (C := RX12) (T := TX12) (N := 63) hx hb hwd inA_X12 hown hK hP 0 rfl rfl 14 (by decide) (hwd _ wk_318) (fun _ h9 => h9) rfl dX12_part_53 ?_
            have t8478 : 0 ≤ (v 14).toInt ∧ (v 14).toInt ≤ 100 := hI.1 14 _ _ rfl
            refine lv_bipush (v := 100) hx hb dX12_part_56 (by decide) ?_
            refine lv_icmp_eq (tgt := 71) hx hb dX12_part_58 (by decide) (fun c8479 => ?_) (fun c8479 => ?_)
            · skip
              have t8480 := cv_eq (a := (v 14).toInt) rfl (b := 100) (by decide) c8479
              refine lv_bipush (v := (-3)) hx hb dX12_part_71 (by decide) ?_
              have hP9 : va_P (dC, dI) classes (wM g c v F rc) H := hP
              exact W.iret (v := (-3)) hx hb hr (fun t ht hW => ⟨⟨(-3), (v, F, rc), rfl, ⟨hI, rfl, (fun _ _ => rfl), hF, hJ⟩, (by show va_P _ _ _ t.heap; rw [ht]; exact hP9)⟩, hS.F ht⟩) hS.2.2 dX12_part_73
            · skip
              have t8481 := cv_ne (a := (v 14).toInt) rfl (b := 100) (by decide) c8479
              refine lv_aload_n hx hb dX12_part_61 rfl (lv_at hl 0 rfl) ?_
              refine va_get (D := (dC, dI)) (ci := 12) (v := .int (v 19)) (C := RX12) (T := TX12) (N := 63) hx hb hwd inA_X12 hown hK hP 0 rfl rfl 19 (by decide) (hwd _ wk_494) (fun _ h9 => h9) rfl dX12_part_62 ?_
              have t8482 : 0 ≤ (v 19).toInt ∧ (v 19).toInt ≤ 500 := hI.1 19 _ _ rfl
              refine lv_sipush (v := 500) hx hb dX12_part_65 (by decide) ?_
              refine lv_icmp_ne (tgt := 74) hx hb dX12_part_68 (by decide) (fun c8483 => ?_) (fun c8483 => ?_)
              · skip
                have t8484 := cv_ne (a := (v 19).toInt) rfl (b := 500) (by decide) c8483
                refine lv_aload_n hx hb dX12_part_74 rfl (lv_at hl 0 rfl) ?_
                refine va_get (D := (dC, dI)) (ci := 12) (v := .int (v 14)) (C := RX12) (T := TX12) (N := 63) hx hb hwd inA_X12 hown hK hP 0 rfl rfl 14 (by decide) (hwd _ wk_318) (fun _ h9 => h9) rfl dX12_part_75 ?_
                have t8485 : 0 ≤ (v 14).toInt ∧ (v 14).toInt ≤ 100 := hI.1 14 _ _ rfl
                refine lv_istore (lv' := [(6, .int (v 14)), (0, .ref (g 0)), (1, .int p0), (2, .int p1), (3, .int p2), (4, .int p3), (5, .int p4)]) hx hb dX12_part_78 hl (by decide) rfl (fun ls hl => ?_)
                refine lv_aload_n hx hb dX12_part_80 rfl (lv_at hl 1 rfl) ?_
                refine va_get (D := (dC, dI)) (ci := 12) (v := .ref (g 11)) (C := RX12) (T := TX12) (N := 63) hx hb hwd inA_X12 hown hK hP 0 rfl rfl 15 (by decide) (hwd _ wk_192) (fun _ h9 => h9) rfl dX12_part_81 ?_
                refine lv_iload hx hb dX12_part_84 (lv_at hl 0 rfl) ?_
                refine lv_iload_n hx hb dX12_part_86 rfl (lv_at hl 2 rfl) ?_
                refine va_iast hx hb hK hP (DM hg) hS 11 10 rfl rfl (i := (v 14)) (x := p0) (vin (a := (v 14).toInt) rfl (by omega)) dX12_part_87 (fun H locs hP _ hS => ?_)
                have hP := va_P_eq (sM_11 g c _ _ _ _) hP
                have hI := IM.store hI 11 (v 14 : Int32).toNatClampNeg p0 rfl (by omega)
                have hF := frUF (k := 11) (f := upd (F 11) (v 14 : Int32).toNatClampNeg p0) (by decide) hF
                have st8487 : (va_up F 11 (upd (F 11) (v 14 : Int32).toNatClampNeg p0)) 11 = upd (F 11) (v 14 : Int32).toNatClampNeg p0 := va_up_self _ _ _
                have sn8488 : ∀ k9, k9 ≠ 11 → (va_up F 11 (upd (F 11) (v 14 : Int32).toNatClampNeg p0)) k9 = F k9 := fun k9 h9 => va_up_ne _ _ h9
                have hP : va_P (dC, dI) classes (wM g c v (va_up F 11 (upd (F 11) (v 14 : Int32).toNatClampNeg p0)) rc) H := hP
                generalize (va_up F 11 (upd (F 11) (v 14 : Int32).toNatClampNeg p0)) = F8486 at hP hI hF st8487 sn8488
                refine lv_aload_n hx hb dX12_part_88 rfl (lv_at hl 1 rfl) ?_
                refine va_get (D := (dC, dI)) (ci := 12) (v := .ref (g 12)) (C := RX12) (T := TX12) (N := 63) hx hb hwd inA_X12 hown hK hP 0 rfl rfl 16 (by decide) (hwd _ wk_193) (fun _ h9 => h9) rfl dX12_part_89 ?_
                refine lv_iload hx hb dX12_part_92 (lv_at hl 0 rfl) ?_
                refine lv_iload_n hx hb dX12_part_94 rfl (lv_at hl 3 rfl) ?_
                refine va_iast hx hb hK hP (DM hg) hS 12 11 rfl rfl (i := (v 14)) (x := p1) (vin (a := (v 14).toInt) rfl (by omega)) dX12_part_95 (fun H locs hP _ hS => ?_)
                have hP := va_P_eq (sM_12 g c _ _ _ _) hP
                have hI := IM.store0 hI 12 (v 14 : Int32).toNatClampNeg p1 rfl
                have hF := frUF (k := 12) (f := upd (F8486 12) (v 14 : Int32).toNatClampNeg p1) (by decide) hF
                have st8490 : (va_up F8486 12 (upd (F8486 12) (v 14 : Int32).toNatClampNeg p1)) 12 = upd (F8486 12) (v 14 : Int32).toNatClampNeg p1 := va_up_self _ _ _
                have sn8491 : ∀ k9, k9 ≠ 12 → (va_up F8486 12 (upd (F8486 12) (v 14 : Int32).toNatClampNeg p1)) k9 = F8486 k9 := fun k9 h9 => va_up_ne _ _ h9
                have hP : va_P (dC, dI) classes (wM g c v (va_up F8486 12 (upd (F8486 12) (v 14 : Int32).toNatClampNeg p1)) rc) H := hP
                generalize (va_up F8486 12 (upd (F8486 12) (v 14 : Int32).toNatClampNeg p1)) = F8489 at hP hI hF st8490 sn8491
                refine lv_aload_n hx hb dX12_part_96 rfl (lv_at hl 1 rfl) ?_
                refine va_get (D := (dC, dI)) (ci := 12) (v := .ref (g 14)) (C := RX12) (T := TX12) (N := 63) hx hb hwd inA_X12 hown hK hP 0 rfl rfl 18 (by decide) (hwd _ wk_195) (fun _ h9 => h9) rfl dX12_part_97 ?_
                refine lv_iconst (v := 3) hx hb dX12_part_100 (by decide) ?_
                refine lv_iload hx hb dX12_part_101 (lv_at hl 0 rfl) ?_
                refine lv_imul hx hb dX12_part_103 ?_
                refine lv_topi (fun z8492 e8493 => ?_)
                try (have t8494 := tmul e8493 (a := 3) (by decide) (b := (v 14).toInt) rfl (by omega))
                refine lv_iload_n hx hb dX12_part_104 rfl (lv_at hl 4 rfl) ?_
                refine va_iast hx hb hK hP (DM hg) hS 14 13 rfl rfl (i := z8492) (x := p2) (vin (a := z8492.toInt) rfl (by omega)) dX12_part_105 (fun H locs hP _ hS => ?_)
                have hP := va_P_eq (sM_14 g c _ _ _ _) hP
                have hI := IM.store0 hI 14 (z8492 : Int32).toNatClampNeg p2 rfl
                have hF := frUF (k := 14) (f := upd (F8489 14) (z8492 : Int32).toNatClampNeg p2) (by decide) hF
                have st8496 : (va_up F8489 14 (upd (F8489 14) (z8492 : Int32).toNatClampNeg p2)) 14 = upd (F8489 14) (z8492 : Int32).toNatClampNeg p2 := va_up_self _ _ _
                have sn8497 : ∀ k9, k9 ≠ 14 → (va_up F8489 14 (upd (F8489 14) (z8492 : Int32).toNatClampNeg p2)) k9 = F8489 k9 := fun k9 h9 => va_up_ne _ _ h9
                have hP : va_P (dC, dI) classes (wM g c v (va_up F8489 14 (upd (F8489 14) (z8492 : Int32).toNatClampNeg p2)) rc) H := hP
                generalize (va_up F8489 14 (upd (F8489 14) (z8492 : Int32).toNatClampNeg p2)) = F8495 at hP hI hF st8496 sn8497
                refine lv_aload_n hx hb dX12_part_106 rfl (lv_at hl 1 rfl) ?_
                refine va_get (D := (dC, dI)) (ci := 12) (v := .ref (g 14)) (C := RX12) (T := TX12) (N := 63) hx hb hwd inA_X12 hown hK hP 0 rfl rfl 18 (by decide) (hwd _ wk_195) (fun _ h9 => h9) rfl dX12_part_107 ?_
                refine lv_iconst (v := 3) hx hb dX12_part_110 (by decide) ?_
                refine lv_iload hx hb dX12_part_111 (lv_at hl 0 rfl) ?_
                refine lv_imul hx hb dX12_part_113 ?_
                refine lv_topi (fun z8498 e8499 => ?_)
                try (have t8500 := tmul e8499 (a := 3) (by decide) (b := (v 14).toInt) rfl (by omega))
                refine lv_iconst (v := 1) hx hb dX12_part_114 (by decide) ?_
                refine lv_iadd hx hb dX12_part_115 ?_
                refine lv_topi (fun z8501 e8502 => ?_)
                try (have t8503 := tadd e8502 (a := z8498.toInt) rfl (b := 1) (by decide) (by omega))
                refine lv_iload hx hb dX12_part_116 (lv_at hl 5 rfl) ?_
                refine va_iast hx hb hK hP (DM hg) hS 14 13 rfl rfl (i := z8501) (x := p3) (vin (a := z8501.toInt) rfl (by omega)) dX12_part_118 (fun H locs hP _ hS => ?_)
                have hP := va_P_eq (sM_14 g c _ _ _ _) hP
                have hI := IM.store0 hI 14 (z8501 : Int32).toNatClampNeg p3 rfl
                have hF := frUF (k := 14) (f := upd (F8495 14) (z8501 : Int32).toNatClampNeg p3) (by decide) hF
                have st8505 : (va_up F8495 14 (upd (F8495 14) (z8501 : Int32).toNatClampNeg p3)) 14 = upd (F8495 14) (z8501 : Int32).toNatClampNeg p3 := va_up_self _ _ _
                have sn8506 : ∀ k9, k9 ≠ 14 → (va_up F8495 14 (upd (F8495 14) (z8501 : Int32).toNatClampNeg p3)) k9 = F8495 k9 := fun k9 h9 => va_up_ne _ _ h9
                have hP : va_P (dC, dI) classes (wM g c v (va_up F8495 14 (upd (F8495 14) (z8501 : Int32).toNatClampNeg p3)) rc) H := hP
                generalize (va_up F8495 14 (upd (F8495 14) (z8501 : Int32).toNatClampNeg p3)) = F8504 at hP hI hF st8505 sn8506
                refine lv_aload_n hx hb dX12_part_119 rfl (lv_at hl 1 rfl) ?_
                refine va_get (D := (dC, dI)) (ci := 12) (v := .ref (g 14)) (C := RX12) (T := TX12) (N := 63) hx hb hwd inA_X12 hown hK hP 0 rfl rfl 18 (by decide) (hwd _ wk_195) (fun _ h9 => h9) rfl dX12_part_120 ?_
                refine lv_iconst (v := 3) hx hb dX12_part_123 (by decide) ?_
                refine lv_iload hx hb dX12_part_124 (lv_at hl 0 rfl) ?_
                refine lv_imul hx hb dX12_part_126 ?_
                refine lv_topi (fun z8507 e8508 => ?_)
                try (have t8509 := tmul e8508 (a := 3) (by decide) (b := (v 14).toInt) rfl (by omega))
                refine lv_iconst (v := 2) hx hb dX12_part_127 (by decide) ?_
                refine lv_iadd hx hb dX12_part_128 ?_
                refine lv_topi (fun z8510 e8511 => ?_)
                try (have t8512 := tadd e8511 (a := z8507.toInt) rfl (b := 2) (by decide) (by omega))
                refine lv_iload hx hb dX12_part_129 (lv_at hl 6 rfl) ?_
                refine va_iast hx hb hK hP (DM hg) hS 14 13 rfl rfl (i := z8510) (x := p4) (vin (a := z8510.toInt) rfl (by omega)) dX12_part_131 (fun H locs hP _ hS => ?_)
                have hP := va_P_eq (sM_14 g c _ _ _ _) hP
                have hI := IM.store0 hI 14 (z8510 : Int32).toNatClampNeg p4 rfl
                have hF := frUF (k := 14) (f := upd (F8504 14) (z8510 : Int32).toNatClampNeg p4) (by decide) hF
                have st8514 : (va_up F8504 14 (upd (F8504 14) (z8510 : Int32).toNatClampNeg p4)) 14 = upd (F8504 14) (z8510 : Int32).toNatClampNeg p4 := va_up_self _ _ _
                have sn8515 : ∀ k9, k9 ≠ 14 → (va_up F8504 14 (upd (F8504 14) (z8510 : Int32).toNatClampNeg p4)) k9 = F8504 k9 := fun k9 h9 => va_up_ne _ _ h9
                have hP : va_P (dC, dI) classes (wM g c v (va_up F8504 14 (upd (F8504 14) (z8510 : Int32).toNatClampNeg p4)) rc) H := hP
                generalize (va_up F8504 14 (upd (F8504 14) (z8510 : Int32).toNatClampNeg p4)) = F8513 at hP hI hF st8514 sn8515
                refine lv_aload_n hx hb dX12_part_132 rfl (lv_at hl 1 rfl) ?_
                refine lv_dup hx hb dX12_part_133 rfl ?_
                refine va_get (D := (dC, dI)) (ci := 12) (v := .int (v 14)) (C := RX12) (T := TX12) (N := 63) hx hb hwd inA_X12 hown hK hP 0 rfl rfl 14 (by decide) (hwd _ wk_318) (fun _ h9 => h9) rfl dX12_part_134 ?_
                have t8516 : 0 ≤ (v 14).toInt ∧ (v 14).toInt ≤ 100 := hI.1 14 _ _ rfl
                refine lv_iconst (v := 1) hx hb dX12_part_137 (by decide) ?_
                refine lv_iadd hx hb dX12_part_138 ?_
                refine lv_topi (fun z8517 e8518 => ?_)
                try (have t8519 := tadd e8518 (a := (v 14).toInt) rfl (b := 1) (by decide) (by omega))
                refine va_put (D := (dC, dI)) (ci := 12) (v := .int z8517) (ty := .int) (C := RX12) (T := TX12) (N := 63) (fs := fsM_0 g v rc) hx hb hwd inA_X12 tyX12 tyX12_ok nmX12 hown hK hP (DM hg) hS 0 rfl rfl 14 (by decide) (hwd _ wk_318) (fun _ h9 => h9) rfl (by decide +kernel) rfl rfl (Nat.le_of_ble_eq_true rfl) dX12_part_139 (fun H locs hP _ hS => ?_)
                have hP := va_P_eq (pM_14 g c _ _ _ _) hP
                have hI := IM.put hI 14 z8517 rfl (by omega)
                refine lv_aload_n hx hb dX12_part_142 rfl (lv_at hl 1 rfl) ?_
                refine lv_iload hx hb dX12_part_143 (lv_at hl 0 rfl) ?_
                refine lv_bipush (v := 11) hx hb dX12_part_145 (by decide) ?_
                refine va_callv (va_runV (As := [.int (v 14), .int 11]) (rest := []) ⟨hx, hb, hml, hown, hwd⟩ (c_X12_begin l dC dI g c adK adV (va_up v 14 z8517) F8513 rc H.size (v 14) 11 hg hI (by omega) (by have : (11 : Int32).toInt = 11 := (by decide); omega) (by have h9 : (va_up v 14 z8517) 19 = v 19 := rfl; rw [h9]; omega)) (cwV 2 hwd (gV wk_595 wk_592 wk_593 wk_594 wk_5) rfl rfl rfl (by decide +kernel) ⟨Nat.le_of_ble_eq_true rfl, Nat.le_of_ble_eq_true rfl⟩) ⟨PM.blind, va_recv hK hP (ci := 12) (q0 := 0) rfl rfl, fun U hU hW => ⟨rfl, PM.at hK hE hP hS hU hW⟩⟩ rfl rfl hl.1 rfl (lv_room (Nat.le_of_ble_eq_true rfl)) dX12_part_147 ⟨Nat.le_of_ble_eq_true rfl, Nat.le_of_ble_eq_true rfl⟩) hS (fun q _ h => (freeM hS) q h) (freeM hS) (fun u t H1 locs ht hvm hw hB hz1 hk1 hS => ?_)
                unfold BM at hB
                rw [ht] at hB
                obtain ⟨v8521, F8522, rc9⟩ := u
                obtain ⟨hI, hrc, hf8523, hG8524, hw⟩ := hw
                dsimp only at hI hrc hB hf8523 hG8524 hw
                have hF := frCF (by decide) hG8524 hF
                rw [hrc] at hB
                have hP : va_P (dC, dI) classes (wM g c v8521 F8522 rc) H1 := hB
                have hw : (v8521 19).toInt = (v 19).toInt + 1 ∧ (F8522 13 = upd (F8513 13) (v 14).toNatClampNeg (11 : Int32)) ∧ (∀ j : Int, (j = (v 14).toInt ∨ hasO (v 19) (F8513 15) (F8513 18) j) → hasO (v8521 19) (F8522 15) (F8522 18) j) := hw
                have hw_r8520 := hw
                have k8525 : (11 : Int32).toInt = 11 := by decide
                generalize H1 = H at hP hS ⊢
                refine lv_iload hx hb dX12_part_150 (lv_at hl 0 rfl) ?_
                have hP9 : va_P (dC, dI) classes (wM g c v8521 F8522 rc) H := hP
                exact W.iret (v := v 14) hx hb hr (fun t ht hW => ⟨⟨(v 14), (v8521, F8522, rc), rfl, ⟨hI, rfl, (frC (by decide) hf8523 (frU (by decide) (fun _ _ => rfl))), hF, (by have q9 := hw_r8520; rw [show F8513 13 = F 13 from ((sn8515 13 (by decide)).trans ((sn8506 13 (by decide)).trans ((sn8497 13 (by decide)).trans ((sn8491 13 (by decide)).trans (sn8488 13 (by decide)))))), show F8513 15 = F 15 from ((sn8515 15 (by decide)).trans ((sn8506 15 (by decide)).trans ((sn8497 15 (by decide)).trans ((sn8491 15 (by decide)).trans (sn8488 15 (by decide)))))), show F8513 18 = F 18 from ((sn8515 18 (by decide)).trans ((sn8506 18 (by decide)).trans ((sn8497 18 (by decide)).trans ((sn8491 18 (by decide)).trans (sn8488 18 (by decide))))))] at q9; show JO (v8521 14) (v8521 19) (F8522 13) (F8522 15) (F8522 18); rw [show v8521 14 = z8517 from hf8523 14 (by decide)]; exact JO.new hJ (by omega) rfl (by omega) q9.2.2 q9.2.1)⟩, (by show va_P _ _ _ t.heap; rw [ht]; exact hP9)⟩, hS.F ht⟩) hS.2.2 dX12_part_152
              · skip
                have t8526 := cv_eq (a := (v 19).toInt) rfl (b := 500) (by decide) c8483
                refine lv_bipush (v := (-3)) hx hb dX12_part_71 (by decide) ?_
                have hP9 : va_P (dC, dI) classes (wM g c v F rc) H := hP
                exact W.iret (v := (-3)) hx hb hr (fun t ht hW => ⟨⟨(-3), (v, F, rc), rfl, ⟨hI, rfl, (fun _ _ => rfl), hF, hJ⟩, (by show va_P _ _ _ t.heap; rw [ht]; exact hP9)⟩, hS.F ht⟩) hS.2.2 dX12_part_73
          · skip
            have t8527 := cv_eq (a := r8473.toInt) rfl (b := 0) (by decide) c8476
            refine lv_iconst (v := (-1)) hx hb dX12_part_50 (by decide) ?_
            have hP9 : va_P (dC, dI) classes (wM g c v F rc) H := hP
            exact W.iret (v := (-1)) hx hb hr (fun t ht hW => ⟨⟨(-1), (v, F, rc), rfl, ⟨hI, rfl, (fun _ _ => rfl), hF, hJ⟩, (by show va_P _ _ _ t.heap; rw [ht]; exact hP9)⟩, hS.F ht⟩) hS.2.2 dX12_part_51
set_option maxHeartbeats 8000000 in
set_option maxRecDepth 100000 in
theorem c_X12_move (l : Launch) (dC : Nat → ClassId) (dI : Nat → Nat → Nat) (g : Nat → Nat) (c : Nat → ClassId) (adK adV : Nat → Nat) (v : Nat → Int32) (F : Nat → Nat → Int32) (rc sz : Nat) (p0 : Int32) (p1 : Int32) (hg : injM g) (hI : IM v F) (hJ : JO (v 14) (v 19) (F 13) (F 15) (F 18)) : Met l yX12_move (Cond.code yX12_move cX12_move 3 (some .int) :: wA) ({ frames := 3, cells := 0, slots := 0, locals := 120 }) (va_Pc [.ref (g 0), .int p0, .int p1] (PM dC dI g c adK adV v F rc sz)) (va_Qi (fun (r : Int32) (u : StM) => IM u.1 u.2.1 ∧ u.2.2 = rc ∧ (∀ k, k ∉ ([19] : List Nat) → u.1 k = v k) ∧ (∀ k, k ∉ ([13, 15, 16, 17, 18, 19, 20, 21, 22, 23] : List Nat) → u.2.1 k = F k) ∧ JO (u.1 14) (u.1 19) (u.2.1 13) (u.2.1 15) (u.2.1 18)) (BM dC dI g c) (AM g sz)) 0 0 (AM g sz) := by
  refine Met.ofW (cc := cX12_move) (maxL := 3) (ret := (some .int)) (by decide) rfl ?_
  intro p e s m args below meth c0 s₁ B hml hv
  obtain ⟨rfl, hsz, hP, hK, hE⟩ := hv
  have hx := B.exec
  have hb := B.bytes
  have hr := B.returns
  have hts := atoms_spec (ws := Cond.code yX12_move cX12_move 3 (some .int) :: wA) B.pre
  have hwd : ∀ w ∈ wA, w.before _ s = true := fun w h => hts w (List.mem_cons_of_mem _ h)
  have hown : s.vm.findClass RX12 = some m.cls := findClass_of_methodNamed B.named
  have hlocks := B.notSynchronized
  subst hsz
  have hl := lv_entry ([.ref (g 0), .int p0, .int p1]) (n := 3) (Nat.le_of_ble_eq_true rfl)
  rw [lg_entry_eq]
  generalize (lg_sl ([.ref (g 0), .int p0, .int p1]) ++ List.replicate (3 - (lg_sl ([.ref (g 0), .int p0, .int p1])).length) Slot.unset).toArray = ls at hl ⊢
  have hl : lv_has ls 3 [(0, .ref (g 0)), (1, .int p0), (2, .int p1)] := hl
  obtain ⟨H, eH⟩ : ∃ z, z = s.heap := ⟨_, rfl⟩
  have hP : va_P (dC, dI) classes (wM g c v F rc) H := by rw [eH]; exact hP
  have hS : va_S (AM g s.heap.size) s.heap H [] := by rw [eH]; exact va_S.rf
  refine my_heap eH ?_
  have hF : ∀ k, k ∉ ([13, 15, 16, 17, 18, 19, 20, 21, 22, 23] : List Nat) → F k = F k := fun _ _ => rfl
  have rp0 := i32_rng p0
  have rp1 := i32_rng p1
  refine lv_aload_n hx hb dX12_move_0 rfl (lv_at hl 0 rfl) ?_
  refine lv_iload_n hx hb dX12_move_1 rfl (lv_at hl 1 rfl) ?_
  refine va_calli (va_runV (As := [.int p0]) (rest := []) ⟨hx, hb, hml, hown, hwd⟩ (c_X12_isPart l dC dI g c adK adV v F rc H.size p0 hg hI ) (cwV 1 hwd (gV wk_631 wk_628 wk_629 wk_630 wk_5) rfl rfl rfl (by decide +kernel) ⟨Nat.le_of_ble_eq_true rfl, Nat.le_of_ble_eq_true rfl⟩) ⟨PM.blind, va_recv hK hP (ci := 12) (q0 := 0) rfl rfl, fun U hU hW => ⟨rfl, PM.at hK hE hP hS hU hW⟩⟩ rfl rfl hl.1 rfl (lv_room (Nat.le_of_ble_eq_true rfl)) dX12_move_2 ⟨Nat.le_of_ble_eq_true rfl, Nat.le_of_ble_eq_true rfl⟩) hS (fun q _ h => (freeM hS) q h) (freeM hS) (fun r8675 u t H1 locs ht hvm hw hB hz1 hk1 hS => ?_)
  unfold BM at hB
  rw [ht] at hB
  have hP : va_P (dC, dI) classes (wM g c v F rc) H1 := hB
  have hw : (r8675.toInt = 1 ∧ 0 ≤ p0.toInt ∧ p0.toInt < (v 14).toInt) ∨ (r8675.toInt = 0 ∧ (p0.toInt < 0 ∨ (v 14).toInt ≤ p0.toInt)) := hw
  have hw_r8675 := hw
  generalize H1 = H at hP hS ⊢
  refine lv_if_eq (tgt := 32) hx hb dX12_move_5 (by decide) (fun c8676 => ?_) (fun c8676 => ?_)
  · skip
    have t8677 := cv_eq (a := r8675.toInt) rfl (b := 0) (by decide) c8676
    refine lv_iconst (v := (-1)) hx hb dX12_move_32 (by decide) ?_
    have hP9 : va_P (dC, dI) classes (wM g c v F rc) H := hP
    exact W.iret (v := (-1)) hx hb hr (fun t ht hW => ⟨⟨(-1), (v, F, rc), rfl, ⟨hI, rfl, (fun _ _ => rfl), hF, hJ⟩, (by show va_P _ _ _ t.heap; rw [ht]; exact hP9)⟩, hS.F ht⟩) hS.2.2 dX12_move_33
  · skip
    have t8678 := cv_ne (a := r8675.toInt) rfl (b := 0) (by decide) c8676
    refine lv_iload_n hx hb dX12_move_8 rfl (lv_at hl 2 rfl) ?_
    refine lv_iconst (v := 0) hx hb dX12_move_9 (by decide) ?_
    refine lv_bipush (v := 11) hx hb dX12_move_10 (by decide) ?_
    refine va_calli (va_runS (As := [.int p1, .int 0, .int 11]) (rest := []) ⟨hx, hb, hml, hown, hwd⟩ (c_X12_in l dC dI g c adK adV v F rc H.size p1 0 11 hg hI ) (va_cwS 3 hwd (gT wk_254 wk_252 wk_253 wk_5) rfl rfl rfl (by decide +kernel) ⟨Nat.le_of_ble_eq_true rfl, Nat.le_of_ble_eq_true rfl⟩) ⟨PM.blind, fun U hU hW => ⟨rfl, PM.at hK hE hP hS hU hW⟩⟩ rfl rfl hl.1 rfl (lv_room (Nat.le_of_ble_eq_true rfl)) dX12_move_12 ⟨Nat.le_of_ble_eq_true rfl, Nat.le_of_ble_eq_true rfl⟩) hS (fun q _ h => (freeM hS) q h) (freeM hS) (fun r8679 u t H1 locs ht hvm hw hB hz1 hk1 hS => ?_)
    unfold BM at hB
    rw [ht] at hB
    have hP : va_P (dC, dI) classes (wM g c v F rc) H1 := hB
    have hw : (r8679.toInt = 1 ∧ (0 : Int32).toInt ≤ p1.toInt ∧ p1.toInt ≤ (11 : Int32).toInt) ∨ (r8679.toInt = 0 ∧ (p1.toInt < (0 : Int32).toInt ∨ (11 : Int32).toInt < p1.toInt)) := hw
    have hw_r8679 := hw
    have k8680 : (0 : Int32).toInt = 0 := by decide
    have k8681 : (11 : Int32).toInt = 11 := by decide
    generalize H1 = H at hP hS ⊢
    refine lv_if_eq (tgt := 32) hx hb dX12_move_15 (by decide) (fun c8682 => ?_) (fun c8682 => ?_)
    · skip
      have t8683 := cv_eq (a := r8679.toInt) rfl (b := 0) (by decide) c8682
      refine lv_iconst (v := (-1)) hx hb dX12_move_32 (by decide) ?_
      have hP9 : va_P (dC, dI) classes (wM g c v F rc) H := hP
      exact W.iret (v := (-1)) hx hb hr (fun t ht hW => ⟨⟨(-1), (v, F, rc), rfl, ⟨hI, rfl, (fun _ _ => rfl), hF, hJ⟩, (by show va_P _ _ _ t.heap; rw [ht]; exact hP9)⟩, hS.F ht⟩) hS.2.2 dX12_move_33
    · skip
      have t8684 := cv_ne (a := r8679.toInt) rfl (b := 0) (by decide) c8682
      refine lv_iload_n hx hb dX12_move_18 rfl (lv_at hl 2 rfl) ?_
      refine lv_bipush (v := 10) hx hb dX12_move_19 (by decide) ?_
      refine lv_icmp_ge (tgt := 34) hx hb dX12_move_21 (by decide) (fun c8685 => ?_) (fun c8685 => ?_)
      · skip
        have t8686 := cv_le (a := 10) (by decide) (b := p1.toInt) rfl c8685
        refine lv_aload_n hx hb dX12_move_34 rfl (lv_at hl 0 rfl) ?_
        refine va_get (D := (dC, dI)) (ci := 12) (v := .ref (g 13)) (C := RX12) (T := TX12) (N := 63) hx hb hwd inA_X12 hown hK hP 0 rfl rfl 17 (by decide) (hwd _ wk_194) (fun _ h9 => h9) rfl dX12_move_35 ?_
        refine lv_iload_n hx hb dX12_move_38 rfl (lv_at hl 1 rfl) ?_
        refine va_iald hx hb hK hP 13 12 rfl rfl (i := p0) (vin (a := p0.toInt) rfl (by omega)) dX12_move_39 ?_
        refine lv_topi (fun z8687 e8688 => ?_)
        have t8689 : 0 ≤ z8687.toInt ∧ z8687.toInt ≤ 12 := by rw [e8688]; exact hI.2 13 _ _ rfl _
        have tzz8687 : z8687.toInt = (F 13 (p0 : Int32).toNatClampNeg).toInt := congrArg Int32.toInt e8688
        refine lv_iload_n hx hb dX12_move_40 rfl (lv_at hl 2 rfl) ?_
        refine lv_icmp_eq (tgt := 55) hx hb dX12_move_41 (by decide) (fun c8690 => ?_) (fun c8690 => ?_)
        · skip
          have t8691 := cv_eq (a := z8687.toInt) rfl (b := p1.toInt) rfl c8690
          refine lv_bipush (v := (-2)) hx hb dX12_move_55 (by decide) ?_
          have hP9 : va_P (dC, dI) classes (wM g c v F rc) H := hP
          exact W.iret (v := (-2)) hx hb hr (fun t ht hW => ⟨⟨(-2), (v, F, rc), rfl, ⟨hI, rfl, (fun _ _ => rfl), hF, hJ⟩, (by show va_P _ _ _ t.heap; rw [ht]; exact hP9)⟩, hS.F ht⟩) hS.2.2 dX12_move_57
        · skip
          have t8692 := cv_ne (a := z8687.toInt) rfl (b := p1.toInt) rfl c8690
          refine lv_aload_n hx hb dX12_move_44 rfl (lv_at hl 0 rfl) ?_
          refine va_get (D := (dC, dI)) (ci := 12) (v := .ref (g 13)) (C := RX12) (T := TX12) (N := 63) hx hb hwd inA_X12 hown hK hP 0 rfl rfl 17 (by decide) (hwd _ wk_194) (fun _ h9 => h9) rfl dX12_move_45 ?_
          refine lv_iload_n hx hb dX12_move_48 rfl (lv_at hl 1 rfl) ?_
          refine va_iald hx hb hK hP 13 12 rfl rfl (i := p0) (vin (a := p0.toInt) rfl (by omega)) dX12_move_49 ?_
          refine lv_topi (fun z8693 e8694 => ?_)
          have t8695 : 0 ≤ z8693.toInt ∧ z8693.toInt ≤ 12 := by rw [e8694]; exact hI.2 13 _ _ rfl _
          have tzz8693 : z8693.toInt = (F 13 (p0 : Int32).toNatClampNeg).toInt := congrArg Int32.toInt e8694
          refine lv_bipush (v := 12) hx hb dX12_move_50 (by decide) ?_
          refine lv_icmp_ne (tgt := 58) hx hb dX12_move_52 (by decide) (fun c8696 => ?_) (fun c8696 => ?_)
          · skip
            have t8697 := cv_ne (a := z8693.toInt) rfl (b := 12) (by decide) c8696
            refine lv_iload_n hx hb dX12_move_58 rfl (lv_at hl 2 rfl) ?_
            refine lv_bipush (v := 10) hx hb dX12_move_59 (by decide) ?_
            refine lv_icmp_ge (tgt := 105) hx hb dX12_move_61 (by decide) (fun c8698 => ?_) (fun c8698 => ?_)
            · skip
              have t8699 := cv_le (a := 10) (by decide) (b := p1.toInt) rfl c8698
              refine lv_aload_n hx hb dX12_move_105 rfl (lv_at hl 0 rfl) ?_
              refine va_get (D := (dC, dI)) (ci := 12) (v := .int (v 19)) (C := RX12) (T := TX12) (N := 63) hx hb hwd inA_X12 hown hK hP 0 rfl rfl 19 (by decide) (hwd _ wk_494) (fun _ h9 => h9) rfl dX12_move_106 ?_
              have t8700 : 0 ≤ (v 19).toInt ∧ (v 19).toInt ≤ 500 := hI.1 19 _ _ rfl
              refine lv_sipush (v := 500) hx hb dX12_move_109 (by decide) ?_
              refine lv_icmp_ne (tgt := 118) hx hb dX12_move_112 (by decide) (fun c8701 => ?_) (fun c8701 => ?_)
              · skip
                have t8702 := cv_ne (a := (v 19).toInt) rfl (b := 500) (by decide) c8701
                refine lv_aload_n hx hb dX12_move_118 rfl (lv_at hl 0 rfl) ?_
                refine lv_iload_n hx hb dX12_move_119 rfl (lv_at hl 1 rfl) ?_
                refine va_callv (va_runV (As := [.int p0]) (rest := []) ⟨hx, hb, hml, hown, hwd⟩ (c_X12_endStay l dC dI g c adK adV v F rc H.size p0 hg hI (by omega) (JO.at' hJ (i := p0) (by omega) (by omega) (by omega))) (cwV 1 hwd (gV wk_635 wk_632 wk_633 wk_634 wk_5) rfl rfl rfl (by decide +kernel) ⟨Nat.le_of_ble_eq_true rfl, Nat.le_of_ble_eq_true rfl⟩) ⟨PM.blind, va_recv hK hP (ci := 12) (q0 := 0) rfl rfl, fun U hU hW => ⟨rfl, PM.at hK hE hP hS hU hW⟩⟩ rfl rfl hl.1 rfl (lv_room (Nat.le_of_ble_eq_true rfl)) dX12_move_120 ⟨Nat.le_of_ble_eq_true rfl, Nat.le_of_ble_eq_true rfl⟩) hS (fun q _ h => (freeM hS) q h) (freeM hS) (fun u t H1 locs ht hvm hw hB hz1 hk1 hS => ?_)
                unfold BM at hB
                rw [ht] at hB
                obtain ⟨v8704, F8705, rc9⟩ := u
                obtain ⟨hI, hrc, hf8706, hG8707, hw⟩ := hw
                dsimp only at hI hrc hB hf8706 hG8707 hw
                have hF := frCF (by decide) hG8707 hF
                rw [hrc] at hB
                have hP : va_P (dC, dI) classes (wM g c v8704 F8705 rc) H1 := hB
                have hw : ∀ j : Int, j ≠ p0.toInt → hasO (v 19) (F 15) (F 18) j → hasO (v8704 19) (F8705 15) (F8705 18) j := hw
                rw [show v8704 19 = v 19 from hf8706 19 (by decide)] at hw
                have hw_r8703 := hw
                generalize H1 = H at hP hS ⊢
                refine lv_aload_n hx hb dX12_move_123 rfl (lv_at hl 0 rfl) ?_
                refine lv_iload_n hx hb dX12_move_124 rfl (lv_at hl 1 rfl) ?_
                refine lv_iload_n hx hb dX12_move_125 rfl (lv_at hl 2 rfl) ?_
                refine va_callv (va_runV (As := [.int p0, .int p1]) (rest := []) ⟨hx, hb, hml, hown, hwd⟩ (c_X12_begin l dC dI g c adK adV v8704 F8705 rc H.size p0 p1 hg hI (by omega) (by omega) (by have h9 : v8704 19 = v 19 := hf8706 19 (by decide); rw [h9]; omega)) (cwV 2 hwd (gV wk_595 wk_592 wk_593 wk_594 wk_5) rfl rfl rfl (by decide +kernel) ⟨Nat.le_of_ble_eq_true rfl, Nat.le_of_ble_eq_true rfl⟩) ⟨PM.blind, va_recv hK hP (ci := 12) (q0 := 0) rfl rfl, fun U hU hW => ⟨rfl, PM.at hK hE hP hS hU hW⟩⟩ rfl rfl hl.1 rfl (lv_room (Nat.le_of_ble_eq_true rfl)) dX12_move_126 ⟨Nat.le_of_ble_eq_true rfl, Nat.le_of_ble_eq_true rfl⟩) hS (fun q _ h => (freeM hS) q h) (freeM hS) (fun u t H1 locs ht hvm hw hB hz1 hk1 hS => ?_)
                unfold BM at hB
                rw [ht] at hB
                obtain ⟨v8709, F8710, rc9⟩ := u
                obtain ⟨hI, hrc, hf8711, hG8712, hw⟩ := hw
                dsimp only at hI hrc hB hf8711 hG8712 hw
                have hF := frCF (by decide) hG8712 hF
                rw [hrc] at hB
                have hP : va_P (dC, dI) classes (wM g c v8709 F8710 rc) H1 := hB
                have hw : (v8709 19).toInt = (v8704 19).toInt + 1 ∧ (F8710 13 = upd (F8705 13) p0.toNatClampNeg p1) ∧ (∀ j : Int, (j = p0.toInt ∨ hasO (v8704 19) (F8705 15) (F8705 18) j) → hasO (v8709 19) (F8710 15) (F8710 18) j) := hw
                rw [show v8704 19 = v 19 from hf8706 19 (by decide)] at hw
                have hw_r8708 := hw
                generalize H1 = H at hP hS ⊢
                refine lv_iconst (v := 1) hx hb dX12_move_129 (by decide) ?_
                have hP9 : va_P (dC, dI) classes (wM g c v8709 F8710 rc) H := hP
                exact W.iret (v := 1) hx hb hr (fun t ht hW => ⟨⟨1, (v8709, F8710, rc), rfl, ⟨hI, rfl, (frC (by decide) hf8711 (frC (by decide) hf8706 (fun _ _ => rfl))), hF, (by show JO (v8709 14) (v8709 19) (F8710 13) (F8710 15) (F8710 18); rw [show v8709 14 = v 14 from (hf8711 14 (by decide)).trans (hf8706 14 (by decide))]; exact JO.go hJ hw_r8703 hw_r8708.2.2 (hw_r8708.2.1.trans (congrArg (fun f => upd f _ _) (hG8707 13 (by decide)))) (by omega))⟩, (by show va_P _ _ _ t.heap; rw [ht]; exact hP9)⟩, hS.F ht⟩) hS.2.2 dX12_move_130
              · skip
                have t8713 := cv_eq (a := (v 19).toInt) rfl (b := 500) (by decide) c8701
                refine lv_bipush (v := (-3)) hx hb dX12_move_115 (by decide) ?_
                have hP9 : va_P (dC, dI) classes (wM g c v F rc) H := hP
                exact W.iret (v := (-3)) hx hb hr (fun t ht hW => ⟨⟨(-3), (v, F, rc), rfl, ⟨hI, rfl, (fun _ _ => rfl), hF, hJ⟩, (by show va_P _ _ _ t.heap; rw [ht]; exact hP9)⟩, hS.F ht⟩) hS.2.2 dX12_move_117
            · skip
              have t8714 := cv_nle (a := 10) (by decide) (b := p1.toInt) rfl c8698
              refine lv_aload_n hx hb dX12_move_64 rfl (lv_at hl 0 rfl) ?_
              refine lv_iload_n hx hb dX12_move_65 rfl (lv_at hl 2 rfl) ?_
              refine va_calli (va_runV (As := [.int p1]) (rest := []) ⟨hx, hb, hml, hown, hwd⟩ (c_X12_isReturned l dC dI g c adK adV v F rc H.size p1 hg hI (by omega)) (cwV 1 hwd (gV wk_313 wk_310 wk_311 wk_312 wk_5) rfl rfl rfl (by decide +kernel) ⟨Nat.le_of_ble_eq_true rfl, Nat.le_of_ble_eq_true rfl⟩) ⟨PM.blind, va_recv hK hP (ci := 12) (q0 := 0) rfl rfl, fun U hU hW => ⟨rfl, PM.at hK hE hP hS hU hW⟩⟩ rfl rfl hl.1 rfl (lv_room (Nat.le_of_ble_eq_true rfl)) dX12_move_66 ⟨Nat.le_of_ble_eq_true rfl, Nat.le_of_ble_eq_true rfl⟩) hS (fun q _ h => (freeM hS) q h) (freeM hS) (fun r8715 u t H1 locs ht hvm hw hB hz1 hk1 hS => ?_)
              unfold BM at hB
              rw [ht] at hB
              have hP : va_P (dC, dI) classes (wM g c v F rc) H1 := hB
              have hw : 0 ≤ r8715.toInt ∧ r8715.toInt ≤ 1 := hw
              have hw_r8715 := hw
              generalize H1 = H at hP hS ⊢
              refine lv_if_ne (tgt := 102) hx hb dX12_move_69 (by decide) (fun c8716 => ?_) (fun c8716 => ?_)
              · skip
                have t8717 := cv_ne (a := r8715.toInt) rfl (b := 0) (by decide) c8716
                refine lv_bipush (v := (-2)) hx hb dX12_move_102 (by decide) ?_
                have hP9 : va_P (dC, dI) classes (wM g c v F rc) H := hP
                exact W.iret (v := (-2)) hx hb hr (fun t ht hW => ⟨⟨(-2), (v, F, rc), rfl, ⟨hI, rfl, (fun _ _ => rfl), hF, hJ⟩, (by show va_P _ _ _ t.heap; rw [ht]; exact hP9)⟩, hS.F ht⟩) hS.2.2 dX12_move_104
              · skip
                have t8718 := cv_eq (a := r8715.toInt) rfl (b := 0) (by decide) c8716
                refine lv_aload_n hx hb dX12_move_72 rfl (lv_at hl 0 rfl) ?_
                refine lv_iload_n hx hb dX12_move_73 rfl (lv_at hl 2 rfl) ?_
                refine lv_aload_n hx hb dX12_move_74 rfl (lv_at hl 0 rfl) ?_
                refine va_get (D := (dC, dI)) (ci := 12) (v := .ref (g 11)) (C := RX12) (T := TX12) (N := 63) hx hb hwd inA_X12 hown hK hP 0 rfl rfl 15 (by decide) (hwd _ wk_192) (fun _ h9 => h9) rfl dX12_move_75 ?_
                refine lv_iload_n hx hb dX12_move_78 rfl (lv_at hl 1 rfl) ?_
                refine va_iald hx hb hK hP 11 10 rfl rfl (i := p0) (vin (a := p0.toInt) rfl (by omega)) dX12_move_79 ?_
                refine lv_topi (fun z8719 e8720 => ?_)
                have t8721 : 0 ≤ z8719.toInt ∧ z8719.toInt ≤ 9 := by rw [e8720]; exact hI.2 11 _ _ rfl _
                have tzz8719 : z8719.toInt = (F 11 (p0 : Int32).toNatClampNeg).toInt := congrArg Int32.toInt e8720
                refine va_calli (va_runV (As := [.int p1, .int z8719]) (rest := []) ⟨hx, hb, hml, hown, hwd⟩ (c_X12_onIt l dC dI g c adK adV v F rc H.size p1 z8719 hg hI ) (cwV 2 hwd (gV wk_317 wk_314 wk_315 wk_316 wk_5) rfl rfl rfl (by decide +kernel) ⟨Nat.le_of_ble_eq_true rfl, Nat.le_of_ble_eq_true rfl⟩) ⟨PM.blind, va_recv hK hP (ci := 12) (q0 := 0) rfl rfl, fun U hU hW => ⟨rfl, PM.at hK hE hP hS hU hW⟩⟩ rfl rfl hl.1 rfl (lv_room (Nat.le_of_ble_eq_true rfl)) dX12_move_80 ⟨Nat.le_of_ble_eq_true rfl, Nat.le_of_ble_eq_true rfl⟩) hS (fun q _ h => (freeM hS) q h) (freeM hS) (fun r8722 u t H1 locs ht hvm hw hB hz1 hk1 hS => ?_)
                unfold BM at hB
                rw [ht] at hB
                have hP : va_P (dC, dI) classes (wM g c v F rc) H1 := hB
                generalize H1 = H at hP hS ⊢
                have rr_r8722 := i32_rng r8722
                refine lv_aload_n hx hb dX12_move_83 rfl (lv_at hl 0 rfl) ?_
                refine va_get (D := (dC, dI)) (ci := 12) (v := .ref (g 9)) (C := RX12) (T := TX12) (N := 63) hx hb hwd inA_X12 hown hK hP 0 rfl rfl 12 (by decide) (hwd _ wk_190) (fun _ h9 => h9) rfl dX12_move_84 ?_
                refine lv_bipush (v := 10) hx hb dX12_move_87 (by decide) ?_
                refine lv_iload_n hx hb dX12_move_89 rfl (lv_at hl 2 rfl) ?_
                refine lv_imul hx hb dX12_move_90 ?_
                refine lv_topi (fun z8723 e8724 => ?_)
                try (have t8725 := tmul e8724 (a := 10) (by decide) (b := p1.toInt) rfl (by omega))
                refine lv_aload_n hx hb dX12_move_91 rfl (lv_at hl 0 rfl) ?_
                refine va_get (D := (dC, dI)) (ci := 12) (v := .ref (g 11)) (C := RX12) (T := TX12) (N := 63) hx hb hwd inA_X12 hown hK hP 0 rfl rfl 15 (by decide) (hwd _ wk_192) (fun _ h9 => h9) rfl dX12_move_92 ?_
                refine lv_iload_n hx hb dX12_move_95 rfl (lv_at hl 1 rfl) ?_
                refine va_iald hx hb hK hP 11 10 rfl rfl (i := p0) (vin (a := p0.toInt) rfl (by omega)) dX12_move_96 ?_
                refine lv_topi (fun z8726 e8727 => ?_)
                have t8728 : 0 ≤ z8726.toInt ∧ z8726.toInt ≤ 9 := by rw [e8727]; exact hI.2 11 _ _ rfl _
                have tzz8726 : z8726.toInt = (F 11 (p0 : Int32).toNatClampNeg).toInt := congrArg Int32.toInt e8727
                refine lv_iadd hx hb dX12_move_97 ?_
                refine lv_topi (fun z8729 e8730 => ?_)
                try (have t8731 := tadd e8730 (a := z8723.toInt) rfl (b := z8726.toInt) rfl (by omega))
                refine va_iald hx hb hK hP 9 8 rfl rfl (i := z8729) (vin (a := z8729.toInt) rfl (by omega)) dX12_move_98 ?_
                refine lv_topi (fun z8732 e8733 => ?_)
                have tzz8732 : z8732.toInt = (F 9 (z8729 : Int32).toNatClampNeg).toInt := congrArg Int32.toInt e8733
                refine lv_icmp_lt (tgt := 105) hx hb dX12_move_99 (by decide) (fun c8734 => ?_) (fun c8734 => ?_)
                · skip
                  have t8735 := cv_lt (a := r8722.toInt) rfl (b := z8732.toInt) rfl c8734
                  refine lv_aload_n hx hb dX12_move_105 rfl (lv_at hl 0 rfl) ?_
                  refine va_get (D := (dC, dI)) (ci := 12) (v := .int (v 19)) (C := RX12) (T := TX12) (N := 63) hx hb hwd inA_X12 hown hK hP 0 rfl rfl 19 (by decide) (hwd _ wk_494) (fun _ h9 => h9) rfl dX12_move_106 ?_
                  have t8736 : 0 ≤ (v 19).toInt ∧ (v 19).toInt ≤ 500 := hI.1 19 _ _ rfl
                  refine lv_sipush (v := 500) hx hb dX12_move_109 (by decide) ?_
                  refine lv_icmp_ne (tgt := 118) hx hb dX12_move_112 (by decide) (fun c8737 => ?_) (fun c8737 => ?_)
                  · skip
                    have t8738 := cv_ne (a := (v 19).toInt) rfl (b := 500) (by decide) c8737
                    refine lv_aload_n hx hb dX12_move_118 rfl (lv_at hl 0 rfl) ?_
                    refine lv_iload_n hx hb dX12_move_119 rfl (lv_at hl 1 rfl) ?_
                    refine va_callv (va_runV (As := [.int p0]) (rest := []) ⟨hx, hb, hml, hown, hwd⟩ (c_X12_endStay l dC dI g c adK adV v F rc H.size p0 hg hI (by omega) (JO.at' hJ (i := p0) (by omega) (by omega) (by omega))) (cwV 1 hwd (gV wk_635 wk_632 wk_633 wk_634 wk_5) rfl rfl rfl (by decide +kernel) ⟨Nat.le_of_ble_eq_true rfl, Nat.le_of_ble_eq_true rfl⟩) ⟨PM.blind, va_recv hK hP (ci := 12) (q0 := 0) rfl rfl, fun U hU hW => ⟨rfl, PM.at hK hE hP hS hU hW⟩⟩ rfl rfl hl.1 rfl (lv_room (Nat.le_of_ble_eq_true rfl)) dX12_move_120 ⟨Nat.le_of_ble_eq_true rfl, Nat.le_of_ble_eq_true rfl⟩) hS (fun q _ h => (freeM hS) q h) (freeM hS) (fun u t H1 locs ht hvm hw hB hz1 hk1 hS => ?_)
                    unfold BM at hB
                    rw [ht] at hB
                    obtain ⟨v8740, F8741, rc9⟩ := u
                    obtain ⟨hI, hrc, hf8742, hG8743, hw⟩ := hw
                    dsimp only at hI hrc hB hf8742 hG8743 hw
                    have hF := frCF (by decide) hG8743 hF
                    rw [hrc] at hB
                    have hP : va_P (dC, dI) classes (wM g c v8740 F8741 rc) H1 := hB
                    have hw : ∀ j : Int, j ≠ p0.toInt → hasO (v 19) (F 15) (F 18) j → hasO (v8740 19) (F8741 15) (F8741 18) j := hw
                    rw [show v8740 19 = v 19 from hf8742 19 (by decide)] at hw
                    have hw_r8739 := hw
                    generalize H1 = H at hP hS ⊢
                    refine lv_aload_n hx hb dX12_move_123 rfl (lv_at hl 0 rfl) ?_
                    refine lv_iload_n hx hb dX12_move_124 rfl (lv_at hl 1 rfl) ?_
                    refine lv_iload_n hx hb dX12_move_125 rfl (lv_at hl 2 rfl) ?_
                    refine va_callv (va_runV (As := [.int p0, .int p1]) (rest := []) ⟨hx, hb, hml, hown, hwd⟩ (c_X12_begin l dC dI g c adK adV v8740 F8741 rc H.size p0 p1 hg hI (by omega) (by omega) (by have h9 : v8740 19 = v 19 := hf8742 19 (by decide); rw [h9]; omega)) (cwV 2 hwd (gV wk_595 wk_592 wk_593 wk_594 wk_5) rfl rfl rfl (by decide +kernel) ⟨Nat.le_of_ble_eq_true rfl, Nat.le_of_ble_eq_true rfl⟩) ⟨PM.blind, va_recv hK hP (ci := 12) (q0 := 0) rfl rfl, fun U hU hW => ⟨rfl, PM.at hK hE hP hS hU hW⟩⟩ rfl rfl hl.1 rfl (lv_room (Nat.le_of_ble_eq_true rfl)) dX12_move_126 ⟨Nat.le_of_ble_eq_true rfl, Nat.le_of_ble_eq_true rfl⟩) hS (fun q _ h => (freeM hS) q h) (freeM hS) (fun u t H1 locs ht hvm hw hB hz1 hk1 hS => ?_)
                    unfold BM at hB
                    rw [ht] at hB
                    obtain ⟨v8745, F8746, rc9⟩ := u
                    obtain ⟨hI, hrc, hf8747, hG8748, hw⟩ := hw
                    dsimp only at hI hrc hB hf8747 hG8748 hw
                    have hF := frCF (by decide) hG8748 hF
                    rw [hrc] at hB
                    have hP : va_P (dC, dI) classes (wM g c v8745 F8746 rc) H1 := hB
                    have hw : (v8745 19).toInt = (v8740 19).toInt + 1 ∧ (F8746 13 = upd (F8741 13) p0.toNatClampNeg p1) ∧ (∀ j : Int, (j = p0.toInt ∨ hasO (v8740 19) (F8741 15) (F8741 18) j) → hasO (v8745 19) (F8746 15) (F8746 18) j) := hw
                    rw [show v8740 19 = v 19 from hf8742 19 (by decide)] at hw
                    have hw_r8744 := hw
                    generalize H1 = H at hP hS ⊢
                    refine lv_iconst (v := 1) hx hb dX12_move_129 (by decide) ?_
                    have hP9 : va_P (dC, dI) classes (wM g c v8745 F8746 rc) H := hP
                    exact W.iret (v := 1) hx hb hr (fun t ht hW => ⟨⟨1, (v8745, F8746, rc), rfl, ⟨hI, rfl, (frC (by decide) hf8747 (frC (by decide) hf8742 (fun _ _ => rfl))), hF, (by show JO (v8745 14) (v8745 19) (F8746 13) (F8746 15) (F8746 18); rw [show v8745 14 = v 14 from (hf8747 14 (by decide)).trans (hf8742 14 (by decide))]; exact JO.go hJ hw_r8739 hw_r8744.2.2 (hw_r8744.2.1.trans (congrArg (fun f => upd f _ _) (hG8743 13 (by decide)))) (by omega))⟩, (by show va_P _ _ _ t.heap; rw [ht]; exact hP9)⟩, hS.F ht⟩) hS.2.2 dX12_move_130
                  · skip
                    have t8749 := cv_eq (a := (v 19).toInt) rfl (b := 500) (by decide) c8737
                    refine lv_bipush (v := (-3)) hx hb dX12_move_115 (by decide) ?_
                    have hP9 : va_P (dC, dI) classes (wM g c v F rc) H := hP
                    exact W.iret (v := (-3)) hx hb hr (fun t ht hW => ⟨⟨(-3), (v, F, rc), rfl, ⟨hI, rfl, (fun _ _ => rfl), hF, hJ⟩, (by show va_P _ _ _ t.heap; rw [ht]; exact hP9)⟩, hS.F ht⟩) hS.2.2 dX12_move_117
                · skip
                  have t8750 := cv_nlt (a := r8722.toInt) rfl (b := z8732.toInt) rfl c8734
                  refine lv_bipush (v := (-2)) hx hb dX12_move_102 (by decide) ?_
                  have hP9 : va_P (dC, dI) classes (wM g c v F rc) H := hP
                  exact W.iret (v := (-2)) hx hb hr (fun t ht hW => ⟨⟨(-2), (v, F, rc), rfl, ⟨hI, rfl, (fun _ _ => rfl), hF, hJ⟩, (by show va_P _ _ _ t.heap; rw [ht]; exact hP9)⟩, hS.F ht⟩) hS.2.2 dX12_move_104
          · skip
            have t8751 := cv_eq (a := z8693.toInt) rfl (b := 12) (by decide) c8696
            refine lv_bipush (v := (-2)) hx hb dX12_move_55 (by decide) ?_
            have hP9 : va_P (dC, dI) classes (wM g c v F rc) H := hP
            exact W.iret (v := (-2)) hx hb hr (fun t ht hW => ⟨⟨(-2), (v, F, rc), rfl, ⟨hI, rfl, (fun _ _ => rfl), hF, hJ⟩, (by show va_P _ _ _ t.heap; rw [ht]; exact hP9)⟩, hS.F ht⟩) hS.2.2 dX12_move_57
      · skip
        have t8752 := cv_nle (a := 10) (by decide) (b := p1.toInt) rfl c8685
        refine lv_aload_n hx hb dX12_move_24 rfl (lv_at hl 0 rfl) ?_
        refine lv_iload_n hx hb dX12_move_25 rfl (lv_at hl 2 rfl) ?_
        refine va_calli (va_runV (As := [.int p1]) (rest := []) ⟨hx, hb, hml, hown, hwd⟩ (c_X12_isPlane l dC dI g c adK adV v F rc H.size p1 hg hI ) (cwV 1 hwd (gV wk_305 wk_302 wk_303 wk_304 wk_5) rfl rfl rfl (by decide +kernel) ⟨Nat.le_of_ble_eq_true rfl, Nat.le_of_ble_eq_true rfl⟩) ⟨PM.blind, va_recv hK hP (ci := 12) (q0 := 0) rfl rfl, fun U hU hW => ⟨rfl, PM.at hK hE hP hS hU hW⟩⟩ rfl rfl hl.1 rfl (lv_room (Nat.le_of_ble_eq_true rfl)) dX12_move_26 ⟨Nat.le_of_ble_eq_true rfl, Nat.le_of_ble_eq_true rfl⟩) hS (fun q _ h => (freeM hS) q h) (freeM hS) (fun r8753 u t H1 locs ht hvm hw hB hz1 hk1 hS => ?_)
        unfold BM at hB
        rw [ht] at hB
        have hP : va_P (dC, dI) classes (wM g c v F rc) H1 := hB
        have hw : (r8753.toInt = 1 ∧ 0 ≤ p1.toInt ∧ p1.toInt < (v 6).toInt) ∨ (r8753.toInt = 0 ∧ (p1.toInt < 0 ∨ (v 6).toInt ≤ p1.toInt)) := hw
        have hw_r8753 := hw
        generalize H1 = H at hP hS ⊢
        refine lv_if_ne (tgt := 34) hx hb dX12_move_29 (by decide) (fun c8754 => ?_) (fun c8754 => ?_)
        · skip
          have t8755 := cv_ne (a := r8753.toInt) rfl (b := 0) (by decide) c8754
          refine lv_aload_n hx hb dX12_move_34 rfl (lv_at hl 0 rfl) ?_
          refine va_get (D := (dC, dI)) (ci := 12) (v := .ref (g 13)) (C := RX12) (T := TX12) (N := 63) hx hb hwd inA_X12 hown hK hP 0 rfl rfl 17 (by decide) (hwd _ wk_194) (fun _ h9 => h9) rfl dX12_move_35 ?_
          refine lv_iload_n hx hb dX12_move_38 rfl (lv_at hl 1 rfl) ?_
          refine va_iald hx hb hK hP 13 12 rfl rfl (i := p0) (vin (a := p0.toInt) rfl (by omega)) dX12_move_39 ?_
          refine lv_topi (fun z8756 e8757 => ?_)
          have t8758 : 0 ≤ z8756.toInt ∧ z8756.toInt ≤ 12 := by rw [e8757]; exact hI.2 13 _ _ rfl _
          have tzz8756 : z8756.toInt = (F 13 (p0 : Int32).toNatClampNeg).toInt := congrArg Int32.toInt e8757
          refine lv_iload_n hx hb dX12_move_40 rfl (lv_at hl 2 rfl) ?_
          refine lv_icmp_eq (tgt := 55) hx hb dX12_move_41 (by decide) (fun c8759 => ?_) (fun c8759 => ?_)
          · skip
            have t8760 := cv_eq (a := z8756.toInt) rfl (b := p1.toInt) rfl c8759
            refine lv_bipush (v := (-2)) hx hb dX12_move_55 (by decide) ?_
            have hP9 : va_P (dC, dI) classes (wM g c v F rc) H := hP
            exact W.iret (v := (-2)) hx hb hr (fun t ht hW => ⟨⟨(-2), (v, F, rc), rfl, ⟨hI, rfl, (fun _ _ => rfl), hF, hJ⟩, (by show va_P _ _ _ t.heap; rw [ht]; exact hP9)⟩, hS.F ht⟩) hS.2.2 dX12_move_57
          · skip
            have t8761 := cv_ne (a := z8756.toInt) rfl (b := p1.toInt) rfl c8759
            refine lv_aload_n hx hb dX12_move_44 rfl (lv_at hl 0 rfl) ?_
            refine va_get (D := (dC, dI)) (ci := 12) (v := .ref (g 13)) (C := RX12) (T := TX12) (N := 63) hx hb hwd inA_X12 hown hK hP 0 rfl rfl 17 (by decide) (hwd _ wk_194) (fun _ h9 => h9) rfl dX12_move_45 ?_
            refine lv_iload_n hx hb dX12_move_48 rfl (lv_at hl 1 rfl) ?_
            refine va_iald hx hb hK hP 13 12 rfl rfl (i := p0) (vin (a := p0.toInt) rfl (by omega)) dX12_move_49 ?_
            refine lv_topi (fun z8762 e8763 => ?_)
            have t8764 : 0 ≤ z8762.toInt ∧ z8762.toInt ≤ 12 := by rw [e8763]; exact hI.2 13 _ _ rfl _
            have tzz8762 : z8762.toInt = (F 13 (p0 : Int32).toNatClampNeg).toInt := congrArg Int32.toInt e8763
            refine lv_bipush (v := 12) hx hb dX12_move_50 (by decide) ?_
            refine lv_icmp_ne (tgt := 58) hx hb dX12_move_52 (by decide) (fun c8765 => ?_) (fun c8765 => ?_)
            · skip
              have t8766 := cv_ne (a := z8762.toInt) rfl (b := 12) (by decide) c8765
              refine lv_iload_n hx hb dX12_move_58 rfl (lv_at hl 2 rfl) ?_
              refine lv_bipush (v := 10) hx hb dX12_move_59 (by decide) ?_
              refine lv_icmp_ge (tgt := 105) hx hb dX12_move_61 (by decide) (fun c8767 => ?_) (fun c8767 => ?_)
              · skip
                have t8768 := cv_le (a := 10) (by decide) (b := p1.toInt) rfl c8767
                refine lv_aload_n hx hb dX12_move_105 rfl (lv_at hl 0 rfl) ?_
                refine va_get (D := (dC, dI)) (ci := 12) (v := .int (v 19)) (C := RX12) (T := TX12) (N := 63) hx hb hwd inA_X12 hown hK hP 0 rfl rfl 19 (by decide) (hwd _ wk_494) (fun _ h9 => h9) rfl dX12_move_106 ?_
                have t8769 : 0 ≤ (v 19).toInt ∧ (v 19).toInt ≤ 500 := hI.1 19 _ _ rfl
                refine lv_sipush (v := 500) hx hb dX12_move_109 (by decide) ?_
                refine lv_icmp_ne (tgt := 118) hx hb dX12_move_112 (by decide) (fun c8770 => ?_) (fun c8770 => ?_)
                · skip
                  have t8771 := cv_ne (a := (v 19).toInt) rfl (b := 500) (by decide) c8770
                  refine lv_aload_n hx hb dX12_move_118 rfl (lv_at hl 0 rfl) ?_
                  refine lv_iload_n hx hb dX12_move_119 rfl (lv_at hl 1 rfl) ?_
                  refine va_callv (va_runV (As := [.int p0]) (rest := []) ⟨hx, hb, hml, hown, hwd⟩ (c_X12_endStay l dC dI g c adK adV v F rc H.size p0 hg hI (by omega) (JO.at' hJ (i := p0) (by omega) (by omega) (by omega))) (cwV 1 hwd (gV wk_635 wk_632 wk_633 wk_634 wk_5) rfl rfl rfl (by decide +kernel) ⟨Nat.le_of_ble_eq_true rfl, Nat.le_of_ble_eq_true rfl⟩) ⟨PM.blind, va_recv hK hP (ci := 12) (q0 := 0) rfl rfl, fun U hU hW => ⟨rfl, PM.at hK hE hP hS hU hW⟩⟩ rfl rfl hl.1 rfl (lv_room (Nat.le_of_ble_eq_true rfl)) dX12_move_120 ⟨Nat.le_of_ble_eq_true rfl, Nat.le_of_ble_eq_true rfl⟩) hS (fun q _ h => (freeM hS) q h) (freeM hS) (fun u t H1 locs ht hvm hw hB hz1 hk1 hS => ?_)
                  unfold BM at hB
                  rw [ht] at hB
                  obtain ⟨v8773, F8774, rc9⟩ := u
                  obtain ⟨hI, hrc, hf8775, hG8776, hw⟩ := hw
                  dsimp only at hI hrc hB hf8775 hG8776 hw
                  have hF := frCF (by decide) hG8776 hF
                  rw [hrc] at hB
                  have hP : va_P (dC, dI) classes (wM g c v8773 F8774 rc) H1 := hB
                  have hw : ∀ j : Int, j ≠ p0.toInt → hasO (v 19) (F 15) (F 18) j → hasO (v8773 19) (F8774 15) (F8774 18) j := hw
                  rw [show v8773 19 = v 19 from hf8775 19 (by decide)] at hw
                  have hw_r8772 := hw
                  generalize H1 = H at hP hS ⊢
                  refine lv_aload_n hx hb dX12_move_123 rfl (lv_at hl 0 rfl) ?_
                  refine lv_iload_n hx hb dX12_move_124 rfl (lv_at hl 1 rfl) ?_
                  refine lv_iload_n hx hb dX12_move_125 rfl (lv_at hl 2 rfl) ?_
                  refine va_callv (va_runV (As := [.int p0, .int p1]) (rest := []) ⟨hx, hb, hml, hown, hwd⟩ (c_X12_begin l dC dI g c adK adV v8773 F8774 rc H.size p0 p1 hg hI (by omega) (by omega) (by have h9 : v8773 19 = v 19 := hf8775 19 (by decide); rw [h9]; omega)) (cwV 2 hwd (gV wk_595 wk_592 wk_593 wk_594 wk_5) rfl rfl rfl (by decide +kernel) ⟨Nat.le_of_ble_eq_true rfl, Nat.le_of_ble_eq_true rfl⟩) ⟨PM.blind, va_recv hK hP (ci := 12) (q0 := 0) rfl rfl, fun U hU hW => ⟨rfl, PM.at hK hE hP hS hU hW⟩⟩ rfl rfl hl.1 rfl (lv_room (Nat.le_of_ble_eq_true rfl)) dX12_move_126 ⟨Nat.le_of_ble_eq_true rfl, Nat.le_of_ble_eq_true rfl⟩) hS (fun q _ h => (freeM hS) q h) (freeM hS) (fun u t H1 locs ht hvm hw hB hz1 hk1 hS => ?_)
                  unfold BM at hB
                  rw [ht] at hB
                  obtain ⟨v8778, F8779, rc9⟩ := u
                  obtain ⟨hI, hrc, hf8780, hG8781, hw⟩ := hw
                  dsimp only at hI hrc hB hf8780 hG8781 hw
                  have hF := frCF (by decide) hG8781 hF
                  rw [hrc] at hB
                  have hP : va_P (dC, dI) classes (wM g c v8778 F8779 rc) H1 := hB
                  have hw : (v8778 19).toInt = (v8773 19).toInt + 1 ∧ (F8779 13 = upd (F8774 13) p0.toNatClampNeg p1) ∧ (∀ j : Int, (j = p0.toInt ∨ hasO (v8773 19) (F8774 15) (F8774 18) j) → hasO (v8778 19) (F8779 15) (F8779 18) j) := hw
                  rw [show v8773 19 = v 19 from hf8775 19 (by decide)] at hw
                  have hw_r8777 := hw
                  generalize H1 = H at hP hS ⊢
                  refine lv_iconst (v := 1) hx hb dX12_move_129 (by decide) ?_
                  have hP9 : va_P (dC, dI) classes (wM g c v8778 F8779 rc) H := hP
                  exact W.iret (v := 1) hx hb hr (fun t ht hW => ⟨⟨1, (v8778, F8779, rc), rfl, ⟨hI, rfl, (frC (by decide) hf8780 (frC (by decide) hf8775 (fun _ _ => rfl))), hF, (by show JO (v8778 14) (v8778 19) (F8779 13) (F8779 15) (F8779 18); rw [show v8778 14 = v 14 from (hf8780 14 (by decide)).trans (hf8775 14 (by decide))]; exact JO.go hJ hw_r8772 hw_r8777.2.2 (hw_r8777.2.1.trans (congrArg (fun f => upd f _ _) (hG8776 13 (by decide)))) (by omega))⟩, (by show va_P _ _ _ t.heap; rw [ht]; exact hP9)⟩, hS.F ht⟩) hS.2.2 dX12_move_130
                · skip
                  have t8782 := cv_eq (a := (v 19).toInt) rfl (b := 500) (by decide) c8770
                  refine lv_bipush (v := (-3)) hx hb dX12_move_115 (by decide) ?_
                  have hP9 : va_P (dC, dI) classes (wM g c v F rc) H := hP
                  exact W.iret (v := (-3)) hx hb hr (fun t ht hW => ⟨⟨(-3), (v, F, rc), rfl, ⟨hI, rfl, (fun _ _ => rfl), hF, hJ⟩, (by show va_P _ _ _ t.heap; rw [ht]; exact hP9)⟩, hS.F ht⟩) hS.2.2 dX12_move_117
              · skip
                have t8783 := cv_nle (a := 10) (by decide) (b := p1.toInt) rfl c8767
                refine lv_aload_n hx hb dX12_move_64 rfl (lv_at hl 0 rfl) ?_
                refine lv_iload_n hx hb dX12_move_65 rfl (lv_at hl 2 rfl) ?_
                refine va_calli (va_runV (As := [.int p1]) (rest := []) ⟨hx, hb, hml, hown, hwd⟩ (c_X12_isReturned l dC dI g c adK adV v F rc H.size p1 hg hI (by omega)) (cwV 1 hwd (gV wk_313 wk_310 wk_311 wk_312 wk_5) rfl rfl rfl (by decide +kernel) ⟨Nat.le_of_ble_eq_true rfl, Nat.le_of_ble_eq_true rfl⟩) ⟨PM.blind, va_recv hK hP (ci := 12) (q0 := 0) rfl rfl, fun U hU hW => ⟨rfl, PM.at hK hE hP hS hU hW⟩⟩ rfl rfl hl.1 rfl (lv_room (Nat.le_of_ble_eq_true rfl)) dX12_move_66 ⟨Nat.le_of_ble_eq_true rfl, Nat.le_of_ble_eq_true rfl⟩) hS (fun q _ h => (freeM hS) q h) (freeM hS) (fun r8784 u t H1 locs ht hvm hw hB hz1 hk1 hS => ?_)
                unfold BM at hB
                rw [ht] at hB
                have hP : va_P (dC, dI) classes (wM g c v F rc) H1 := hB
                have hw : 0 ≤ r8784.toInt ∧ r8784.toInt ≤ 1 := hw
                have hw_r8784 := hw
                generalize H1 = H at hP hS ⊢
                refine lv_if_ne (tgt := 102) hx hb dX12_move_69 (by decide) (fun c8785 => ?_) (fun c8785 => ?_)
                · skip
                  have t8786 := cv_ne (a := r8784.toInt) rfl (b := 0) (by decide) c8785
                  refine lv_bipush (v := (-2)) hx hb dX12_move_102 (by decide) ?_
                  have hP9 : va_P (dC, dI) classes (wM g c v F rc) H := hP
                  exact W.iret (v := (-2)) hx hb hr (fun t ht hW => ⟨⟨(-2), (v, F, rc), rfl, ⟨hI, rfl, (fun _ _ => rfl), hF, hJ⟩, (by show va_P _ _ _ t.heap; rw [ht]; exact hP9)⟩, hS.F ht⟩) hS.2.2 dX12_move_104
                · skip
                  have t8787 := cv_eq (a := r8784.toInt) rfl (b := 0) (by decide) c8785
                  refine lv_aload_n hx hb dX12_move_72 rfl (lv_at hl 0 rfl) ?_
                  refine lv_iload_n hx hb dX12_move_73 rfl (lv_at hl 2 rfl) ?_
                  refine lv_aload_n hx hb dX12_move_74 rfl (lv_at hl 0 rfl) ?_
                  refine va_get (D := (dC, dI)) (ci := 12) (v := .ref (g 11)) (C := RX12) (T := TX12) (N := 63) hx hb hwd inA_X12 hown hK hP 0 rfl rfl 15 (by decide) (hwd _ wk_192) (fun _ h9 => h9) rfl dX12_move_75 ?_
                  refine lv_iload_n hx hb dX12_move_78 rfl (lv_at hl 1 rfl) ?_
                  refine va_iald hx hb hK hP 11 10 rfl rfl (i := p0) (vin (a := p0.toInt) rfl (by omega)) dX12_move_79 ?_
                  refine lv_topi (fun z8788 e8789 => ?_)
                  have t8790 : 0 ≤ z8788.toInt ∧ z8788.toInt ≤ 9 := by rw [e8789]; exact hI.2 11 _ _ rfl _
                  have tzz8788 : z8788.toInt = (F 11 (p0 : Int32).toNatClampNeg).toInt := congrArg Int32.toInt e8789
                  refine va_calli (va_runV (As := [.int p1, .int z8788]) (rest := []) ⟨hx, hb, hml, hown, hwd⟩ (c_X12_onIt l dC dI g c adK adV v F rc H.size p1 z8788 hg hI ) (cwV 2 hwd (gV wk_317 wk_314 wk_315 wk_316 wk_5) rfl rfl rfl (by decide +kernel) ⟨Nat.le_of_ble_eq_true rfl, Nat.le_of_ble_eq_true rfl⟩) ⟨PM.blind, va_recv hK hP (ci := 12) (q0 := 0) rfl rfl, fun U hU hW => ⟨rfl, PM.at hK hE hP hS hU hW⟩⟩ rfl rfl hl.1 rfl (lv_room (Nat.le_of_ble_eq_true rfl)) dX12_move_80 ⟨Nat.le_of_ble_eq_true rfl, Nat.le_of_ble_eq_true rfl⟩) hS (fun q _ h => (freeM hS) q h) (freeM hS) (fun r8791 u t H1 locs ht hvm hw hB hz1 hk1 hS => ?_)
                  unfold BM at hB
                  rw [ht] at hB
                  have hP : va_P (dC, dI) classes (wM g c v F rc) H1 := hB
                  generalize H1 = H at hP hS ⊢
                  have rr_r8791 := i32_rng r8791
                  refine lv_aload_n hx hb dX12_move_83 rfl (lv_at hl 0 rfl) ?_
                  refine va_get (D := (dC, dI)) (ci := 12) (v := .ref (g 9)) (C := RX12) (T := TX12) (N := 63) hx hb hwd inA_X12 hown hK hP 0 rfl rfl 12 (by decide) (hwd _ wk_190) (fun _ h9 => h9) rfl dX12_move_84 ?_
                  refine lv_bipush (v := 10) hx hb dX12_move_87 (by decide) ?_
                  refine lv_iload_n hx hb dX12_move_89 rfl (lv_at hl 2 rfl) ?_
                  refine lv_imul hx hb dX12_move_90 ?_
                  refine lv_topi (fun z8792 e8793 => ?_)
                  try (have t8794 := tmul e8793 (a := 10) (by decide) (b := p1.toInt) rfl (by omega))
                  refine lv_aload_n hx hb dX12_move_91 rfl (lv_at hl 0 rfl) ?_
                  refine va_get (D := (dC, dI)) (ci := 12) (v := .ref (g 11)) (C := RX12) (T := TX12) (N := 63) hx hb hwd inA_X12 hown hK hP 0 rfl rfl 15 (by decide) (hwd _ wk_192) (fun _ h9 => h9) rfl dX12_move_92 ?_
                  refine lv_iload_n hx hb dX12_move_95 rfl (lv_at hl 1 rfl) ?_
                  refine va_iald hx hb hK hP 11 10 rfl rfl (i := p0) (vin (a := p0.toInt) rfl (by omega)) dX12_move_96 ?_
                  refine lv_topi (fun z8795 e8796 => ?_)
                  have t8797 : 0 ≤ z8795.toInt ∧ z8795.toInt ≤ 9 := by rw [e8796]; exact hI.2 11 _ _ rfl _
                  have tzz8795 : z8795.toInt = (F 11 (p0 : Int32).toNatClampNeg).toInt := congrArg Int32.toInt e8796
                  refine lv_iadd hx hb dX12_move_97 ?_
                  refine lv_topi (fun z8798 e8799 => ?_)
                  try (have t8800 := tadd e8799 (a := z8792.toInt) rfl (b := z8795.toInt) rfl (by omega))
                  refine va_iald hx hb hK hP 9 8 rfl rfl (i := z8798) (vin (a := z8798.toInt) rfl (by omega)) dX12_move_98 ?_
                  refine lv_topi (fun z8801 e8802 => ?_)
                  have tzz8801 : z8801.toInt = (F 9 (z8798 : Int32).toNatClampNeg).toInt := congrArg Int32.toInt e8802
                  refine lv_icmp_lt (tgt := 105) hx hb dX12_move_99 (by decide) (fun c8803 => ?_) (fun c8803 => ?_)
                  · skip
                    have t8804 := cv_lt (a := r8791.toInt) rfl (b := z8801.toInt) rfl c8803
                    refine lv_aload_n hx hb dX12_move_105 rfl (lv_at hl 0 rfl) ?_
                    refine va_get (D := (dC, dI)) (ci := 12) (v := .int (v 19)) (C := RX12) (T := TX12) (N := 63) hx hb hwd inA_X12 hown hK hP 0 rfl rfl 19 (by decide) (hwd _ wk_494) (fun _ h9 => h9) rfl dX12_move_106 ?_
                    have t8805 : 0 ≤ (v 19).toInt ∧ (v 19).toInt ≤ 500 := hI.1 19 _ _ rfl
                    refine lv_sipush (v := 500) hx hb dX12_move_109 (by decide) ?_
                    refine lv_icmp_ne (tgt := 118) hx hb dX12_move_112 (by decide) (fun c8806 => ?_) (fun c8806 => ?_)
                    · skip
                      have t8807 := cv_ne (a := (v 19).toInt) rfl (b := 500) (by decide) c8806
                      refine lv_aload_n hx hb dX12_move_118 rfl (lv_at hl 0 rfl) ?_
                      refine lv_iload_n hx hb dX12_move_119 rfl (lv_at hl 1 rfl) ?_
                      refine va_callv (va_runV (As := [.int p0]) (rest := []) ⟨hx, hb, hml, hown, hwd⟩ (c_X12_endStay l dC dI g c adK adV v F rc H.size p0 hg hI (by omega) (JO.at' hJ (i := p0) (by omega) (by omega) (by omega))) (cwV 1 hwd (gV wk_635 wk_632 wk_633 wk_634 wk_5) rfl rfl rfl (by decide +kernel) ⟨Nat.le_of_ble_eq_true rfl, Nat.le_of_ble_eq_true rfl⟩) ⟨PM.blind, va_recv hK hP (ci := 12) (q0 := 0) rfl rfl, fun U hU hW => ⟨rfl, PM.at hK hE hP hS hU hW⟩⟩ rfl rfl hl.1 rfl (lv_room (Nat.le_of_ble_eq_true rfl)) dX12_move_120 ⟨Nat.le_of_ble_eq_true rfl, Nat.le_of_ble_eq_true rfl⟩) hS (fun q _ h => (freeM hS) q h) (freeM hS) (fun u t H1 locs ht hvm hw hB hz1 hk1 hS => ?_)
                      unfold BM at hB
                      rw [ht] at hB
                      obtain ⟨v8809, F8810, rc9⟩ := u
                      obtain ⟨hI, hrc, hf8811, hG8812, hw⟩ := hw
                      dsimp only at hI hrc hB hf8811 hG8812 hw
                      have hF := frCF (by decide) hG8812 hF
                      rw [hrc] at hB
                      have hP : va_P (dC, dI) classes (wM g c v8809 F8810 rc) H1 := hB
                      have hw : ∀ j : Int, j ≠ p0.toInt → hasO (v 19) (F 15) (F 18) j → hasO (v8809 19) (F8810 15) (F8810 18) j := hw
                      rw [show v8809 19 = v 19 from hf8811 19 (by decide)] at hw
                      have hw_r8808 := hw
                      generalize H1 = H at hP hS ⊢
                      refine lv_aload_n hx hb dX12_move_123 rfl (lv_at hl 0 rfl) ?_
                      refine lv_iload_n hx hb dX12_move_124 rfl (lv_at hl 1 rfl) ?_
                      refine lv_iload_n hx hb dX12_move_125 rfl (lv_at hl 2 rfl) ?_
                      refine va_callv (va_runV (As := [.int p0, .int p1]) (rest := []) ⟨hx, hb, hml, hown, hwd⟩ (c_X12_begin l dC dI g c adK adV v8809 F8810 rc H.size p0 p1 hg hI (by omega) (by omega) (by have h9 : v8809 19 = v 19 := hf8811 19 (by decide); rw [h9]; omega)) (cwV 2 hwd (gV wk_595 wk_592 wk_593 wk_594 wk_5) rfl rfl rfl (by decide +kernel) ⟨Nat.le_of_ble_eq_true rfl, Nat.le_of_ble_eq_true rfl⟩) ⟨PM.blind, va_recv hK hP (ci := 12) (q0 := 0) rfl rfl, fun U hU hW => ⟨rfl, PM.at hK hE hP hS hU hW⟩⟩ rfl rfl hl.1 rfl (lv_room (Nat.le_of_ble_eq_true rfl)) dX12_move_126 ⟨Nat.le_of_ble_eq_true rfl, Nat.le_of_ble_eq_true rfl⟩) hS (fun q _ h => (freeM hS) q h) (freeM hS) (fun u t H1 locs ht hvm hw hB hz1 hk1 hS => ?_)
                      unfold BM at hB
                      rw [ht] at hB
                      obtain ⟨v8814, F8815, rc9⟩ := u
                      obtain ⟨hI, hrc, hf8816, hG8817, hw⟩ := hw
                      dsimp only at hI hrc hB hf8816 hG8817 hw
                      have hF := frCF (by decide) hG8817 hF
                      rw [hrc] at hB
                      have hP : va_P (dC, dI) classes (wM g c v8814 F8815 rc) H1 := hB
                      have hw : (v8814 19).toInt = (v8809 19).toInt + 1 ∧ (F8815 13 = upd (F8810 13) p0.toNatClampNeg p1) ∧ (∀ j : Int, (j = p0.toInt ∨ hasO (v8809 19) (F8810 15) (F8810 18) j) → hasO (v8814 19) (F8815 15) (F8815 18) j) := hw
                      rw [show v8809 19 = v 19 from hf8811 19 (by decide)] at hw
                      have hw_r8813 := hw
                      generalize H1 = H at hP hS ⊢
                      refine lv_iconst (v := 1) hx hb dX12_move_129 (by decide) ?_
                      have hP9 : va_P (dC, dI) classes (wM g c v8814 F8815 rc) H := hP
                      exact W.iret (v := 1) hx hb hr (fun t ht hW => ⟨⟨1, (v8814, F8815, rc), rfl, ⟨hI, rfl, (frC (by decide) hf8816 (frC (by decide) hf8811 (fun _ _ => rfl))), hF, (by show JO (v8814 14) (v8814 19) (F8815 13) (F8815 15) (F8815 18); rw [show v8814 14 = v 14 from (hf8816 14 (by decide)).trans (hf8811 14 (by decide))]; exact JO.go hJ hw_r8808 hw_r8813.2.2 (hw_r8813.2.1.trans (congrArg (fun f => upd f _ _) (hG8812 13 (by decide)))) (by omega))⟩, (by show va_P _ _ _ t.heap; rw [ht]; exact hP9)⟩, hS.F ht⟩) hS.2.2 dX12_move_130
                    · skip
                      have t8818 := cv_eq (a := (v 19).toInt) rfl (b := 500) (by decide) c8806
                      refine lv_bipush (v := (-3)) hx hb dX12_move_115 (by decide) ?_
                      have hP9 : va_P (dC, dI) classes (wM g c v F rc) H := hP
                      exact W.iret (v := (-3)) hx hb hr (fun t ht hW => ⟨⟨(-3), (v, F, rc), rfl, ⟨hI, rfl, (fun _ _ => rfl), hF, hJ⟩, (by show va_P _ _ _ t.heap; rw [ht]; exact hP9)⟩, hS.F ht⟩) hS.2.2 dX12_move_117
                  · skip
                    have t8819 := cv_nlt (a := r8791.toInt) rfl (b := z8801.toInt) rfl c8803
                    refine lv_bipush (v := (-2)) hx hb dX12_move_102 (by decide) ?_
                    have hP9 : va_P (dC, dI) classes (wM g c v F rc) H := hP
                    exact W.iret (v := (-2)) hx hb hr (fun t ht hW => ⟨⟨(-2), (v, F, rc), rfl, ⟨hI, rfl, (fun _ _ => rfl), hF, hJ⟩, (by show va_P _ _ _ t.heap; rw [ht]; exact hP9)⟩, hS.F ht⟩) hS.2.2 dX12_move_104
            · skip
              have t8820 := cv_eq (a := z8762.toInt) rfl (b := 12) (by decide) c8765
              refine lv_bipush (v := (-2)) hx hb dX12_move_55 (by decide) ?_
              have hP9 : va_P (dC, dI) classes (wM g c v F rc) H := hP
              exact W.iret (v := (-2)) hx hb hr (fun t ht hW => ⟨⟨(-2), (v, F, rc), rfl, ⟨hI, rfl, (fun _ _ => rfl), hF, hJ⟩, (by show va_P _ _ _ t.heap; rw [ht]; exact hP9)⟩, hS.F ht⟩) hS.2.2 dX12_move_57
        · skip
          have t8821 := cv_eq (a := r8753.toInt) rfl (b := 0) (by decide) c8754
          refine lv_iconst (v := (-1)) hx hb dX12_move_32 (by decide) ?_
          have hP9 : va_P (dC, dI) classes (wM g c v F rc) H := hP
          exact W.iret (v := (-1)) hx hb hr (fun t ht hW => ⟨⟨(-1), (v, F, rc), rfl, ⟨hI, rfl, (fun _ _ => rfl), hF, hJ⟩, (by show va_P _ _ _ t.heap; rw [ht]; exact hP9)⟩, hS.F ht⟩) hS.2.2 dX12_move_33
theorem swq {f : Nat → Int32} {j k : Nat} {x : Int32} (hx : x.toInt ≠ 12) (hk : (f k).toInt ≠ 12) : (upd f j x k).toInt ≠ 12 := by
  by_cases e : k = j
  · rw [e, mu_at]; exact hx
  · rw [mu_ne _ _ e]; exact hk
set_option maxHeartbeats 8000000 in
set_option maxRecDepth 100000 in
theorem c_X12_swap (l : Launch) (dC : Nat → ClassId) (dI : Nat → Nat → Nat) (g : Nat → Nat) (c : Nat → ClassId) (adK adV : Nat → Nat) (v : Nat → Int32) (F : Nat → Nat → Int32) (rc sz : Nat) (p0 : Int32) (p1 : Int32) (hg : injM g) (hI : IM v F) (hJ : JO (v 14) (v 19) (F 13) (F 15) (F 18)) : Met l yX12_swap (Cond.code yX12_swap cX12_swap 4 (some .int) :: wA) ({ frames := 3, cells := 0, slots := 0, locals := 120 }) (va_Pc [.ref (g 0), .int p0, .int p1] (PM dC dI g c adK adV v F rc sz)) (va_Qi (fun (r : Int32) (u : StM) => IM u.1 u.2.1 ∧ u.2.2 = rc ∧ (∀ k, k ∉ ([19] : List Nat) → u.1 k = v k) ∧ (∀ k, k ∉ ([13, 15, 16, 17, 18, 19, 20, 21, 22, 23] : List Nat) → u.2.1 k = F k) ∧ JO (u.1 14) (u.1 19) (u.2.1 13) (u.2.1 15) (u.2.1 18)) (BM dC dI g c) (AM g sz)) 0 0 (AM g sz) := by
  refine Met.ofW (cc := cX12_swap) (maxL := 4) (ret := (some .int)) (by decide) rfl ?_
  intro p e s m args below meth c0 s₁ B hml hv
  obtain ⟨rfl, hsz, hP, hK, hE⟩ := hv
  have hx := B.exec
  have hb := B.bytes
  have hr := B.returns
  have hts := atoms_spec (ws := Cond.code yX12_swap cX12_swap 4 (some .int) :: wA) B.pre
  have hwd : ∀ w ∈ wA, w.before _ s = true := fun w h => hts w (List.mem_cons_of_mem _ h)
  have hown : s.vm.findClass RX12 = some m.cls := findClass_of_methodNamed B.named
  have hlocks := B.notSynchronized
  subst hsz
  have hl := lv_entry ([.ref (g 0), .int p0, .int p1]) (n := 4) (Nat.le_of_ble_eq_true rfl)
  rw [lg_entry_eq]
  generalize (lg_sl ([.ref (g 0), .int p0, .int p1]) ++ List.replicate (4 - (lg_sl ([.ref (g 0), .int p0, .int p1])).length) Slot.unset).toArray = ls at hl ⊢
  have hl : lv_has ls 4 [(0, .ref (g 0)), (1, .int p0), (2, .int p1)] := hl
  obtain ⟨H, eH⟩ : ∃ z, z = s.heap := ⟨_, rfl⟩
  have hP : va_P (dC, dI) classes (wM g c v F rc) H := by rw [eH]; exact hP
  have hS : va_S (AM g s.heap.size) s.heap H [] := by rw [eH]; exact va_S.rf
  refine my_heap eH ?_
  have hF : ∀ k, k ∉ ([13, 15, 16, 17, 18, 19, 20, 21, 22, 23] : List Nat) → F k = F k := fun _ _ => rfl
  have rp0 := i32_rng p0
  have rp1 := i32_rng p1
  refine lv_aload_n hx hb dX12_swap_0 rfl (lv_at hl 0 rfl) ?_
  refine lv_iload_n hx hb dX12_swap_1 rfl (lv_at hl 1 rfl) ?_
  refine va_calli (va_runV (As := [.int p0]) (rest := []) ⟨hx, hb, hml, hown, hwd⟩ (c_X12_isPart l dC dI g c adK adV v F rc H.size p0 hg hI ) (cwV 1 hwd (gV wk_631 wk_628 wk_629 wk_630 wk_5) rfl rfl rfl (by decide +kernel) ⟨Nat.le_of_ble_eq_true rfl, Nat.le_of_ble_eq_true rfl⟩) ⟨PM.blind, va_recv hK hP (ci := 12) (q0 := 0) rfl rfl, fun U hU hW => ⟨rfl, PM.at hK hE hP hS hU hW⟩⟩ rfl rfl hl.1 rfl (lv_room (Nat.le_of_ble_eq_true rfl)) dX12_swap_2 ⟨Nat.le_of_ble_eq_true rfl, Nat.le_of_ble_eq_true rfl⟩) hS (fun q _ h => (freeM hS) q h) (freeM hS) (fun r8882 u t H1 locs ht hvm hw hB hz1 hk1 hS => ?_)
  unfold BM at hB
  rw [ht] at hB
  have hP : va_P (dC, dI) classes (wM g c v F rc) H1 := hB
  have hw : (r8882.toInt = 1 ∧ 0 ≤ p0.toInt ∧ p0.toInt < (v 14).toInt) ∨ (r8882.toInt = 0 ∧ (p0.toInt < 0 ∨ (v 14).toInt ≤ p0.toInt)) := hw
  have hw_r8882 := hw
  generalize H1 = H at hP hS ⊢
  refine lv_if_eq (tgt := 16) hx hb dX12_swap_5 (by decide) (fun c8883 => ?_) (fun c8883 => ?_)
  · skip
    have t8884 := cv_eq (a := r8882.toInt) rfl (b := 0) (by decide) c8883
    refine lv_iconst (v := (-1)) hx hb dX12_swap_16 (by decide) ?_
    have hP9 : va_P (dC, dI) classes (wM g c v F rc) H := hP
    exact W.iret (v := (-1)) hx hb hr (fun t ht hW => ⟨⟨(-1), (v, F, rc), rfl, ⟨hI, rfl, (fun _ _ => rfl), hF, hJ⟩, (by show va_P _ _ _ t.heap; rw [ht]; exact hP9)⟩, hS.F ht⟩) hS.2.2 dX12_swap_17
  · skip
    have t8885 := cv_ne (a := r8882.toInt) rfl (b := 0) (by decide) c8883
    refine lv_aload_n hx hb dX12_swap_8 rfl (lv_at hl 0 rfl) ?_
    refine lv_iload_n hx hb dX12_swap_9 rfl (lv_at hl 2 rfl) ?_
    refine va_calli (va_runV (As := [.int p1]) (rest := []) ⟨hx, hb, hml, hown, hwd⟩ (c_X12_isPart l dC dI g c adK adV v F rc H.size p1 hg hI ) (cwV 1 hwd (gV wk_631 wk_628 wk_629 wk_630 wk_5) rfl rfl rfl (by decide +kernel) ⟨Nat.le_of_ble_eq_true rfl, Nat.le_of_ble_eq_true rfl⟩) ⟨PM.blind, va_recv hK hP (ci := 12) (q0 := 0) rfl rfl, fun U hU hW => ⟨rfl, PM.at hK hE hP hS hU hW⟩⟩ rfl rfl hl.1 rfl (lv_room (Nat.le_of_ble_eq_true rfl)) dX12_swap_10 ⟨Nat.le_of_ble_eq_true rfl, Nat.le_of_ble_eq_true rfl⟩) hS (fun q _ h => (freeM hS) q h) (freeM hS) (fun r8886 u t H1 locs ht hvm hw hB hz1 hk1 hS => ?_)
    unfold BM at hB
    rw [ht] at hB
    have hP : va_P (dC, dI) classes (wM g c v F rc) H1 := hB
    have hw : (r8886.toInt = 1 ∧ 0 ≤ p1.toInt ∧ p1.toInt < (v 14).toInt) ∨ (r8886.toInt = 0 ∧ (p1.toInt < 0 ∨ (v 14).toInt ≤ p1.toInt)) := hw
    have hw_r8886 := hw
    generalize H1 = H at hP hS ⊢
    refine lv_if_ne (tgt := 18) hx hb dX12_swap_13 (by decide) (fun c8887 => ?_) (fun c8887 => ?_)
    · skip
      have t8888 := cv_ne (a := r8886.toInt) rfl (b := 0) (by decide) c8887
      refine lv_aload_n hx hb dX12_swap_18 rfl (lv_at hl 0 rfl) ?_
      refine va_get (D := (dC, dI)) (ci := 12) (v := .ref (g 13)) (C := RX12) (T := TX12) (N := 63) hx hb hwd inA_X12 hown hK hP 0 rfl rfl 17 (by decide) (hwd _ wk_194) (fun _ h9 => h9) rfl dX12_swap_19 ?_
      refine lv_iload_n hx hb dX12_swap_22 rfl (lv_at hl 1 rfl) ?_
      refine va_iald hx hb hK hP 13 12 rfl rfl (i := p0) (vin (a := p0.toInt) rfl (by omega)) dX12_swap_23 ?_
      refine lv_topi (fun z8889 e8890 => ?_)
      have t8891 : 0 ≤ z8889.toInt ∧ z8889.toInt ≤ 12 := by rw [e8890]; exact hI.2 13 _ _ rfl _
      have tzz8889 : z8889.toInt = (F 13 (p0 : Int32).toNatClampNeg).toInt := congrArg Int32.toInt e8890
      refine lv_bipush (v := 10) hx hb dX12_swap_24 (by decide) ?_
      refine lv_icmp_ge (tgt := 55) hx hb dX12_swap_26 (by decide) (fun c8892 => ?_) (fun c8892 => ?_)
      · skip
        have t8893 := cv_le (a := 10) (by decide) (b := z8889.toInt) rfl c8892
        refine lv_bipush (v := (-2)) hx hb dX12_swap_55 (by decide) ?_
        have hP9 : va_P (dC, dI) classes (wM g c v F rc) H := hP
        exact W.iret (v := (-2)) hx hb hr (fun t ht hW => ⟨⟨(-2), (v, F, rc), rfl, ⟨hI, rfl, (fun _ _ => rfl), hF, hJ⟩, (by show va_P _ _ _ t.heap; rw [ht]; exact hP9)⟩, hS.F ht⟩) hS.2.2 dX12_swap_57
      · skip
        have t8894 := cv_nle (a := 10) (by decide) (b := z8889.toInt) rfl c8892
        refine lv_aload_n hx hb dX12_swap_29 rfl (lv_at hl 0 rfl) ?_
        refine va_get (D := (dC, dI)) (ci := 12) (v := .ref (g 13)) (C := RX12) (T := TX12) (N := 63) hx hb hwd inA_X12 hown hK hP 0 rfl rfl 17 (by decide) (hwd _ wk_194) (fun _ h9 => h9) rfl dX12_swap_30 ?_
        refine lv_iload_n hx hb dX12_swap_33 rfl (lv_at hl 2 rfl) ?_
        refine va_iald hx hb hK hP 13 12 rfl rfl (i := p1) (vin (a := p1.toInt) rfl (by omega)) dX12_swap_34 ?_
        refine lv_topi (fun z8895 e8896 => ?_)
        have t8897 : 0 ≤ z8895.toInt ∧ z8895.toInt ≤ 12 := by rw [e8896]; exact hI.2 13 _ _ rfl _
        have tzz8895 : z8895.toInt = (F 13 (p1 : Int32).toNatClampNeg).toInt := congrArg Int32.toInt e8896
        refine lv_bipush (v := 11) hx hb dX12_swap_35 (by decide) ?_
        refine lv_icmp_ne (tgt := 55) hx hb dX12_swap_37 (by decide) (fun c8898 => ?_) (fun c8898 => ?_)
        · skip
          have t8899 := cv_ne (a := z8895.toInt) rfl (b := 11) (by decide) c8898
          refine lv_bipush (v := (-2)) hx hb dX12_swap_55 (by decide) ?_
          have hP9 : va_P (dC, dI) classes (wM g c v F rc) H := hP
          exact W.iret (v := (-2)) hx hb hr (fun t ht hW => ⟨⟨(-2), (v, F, rc), rfl, ⟨hI, rfl, (fun _ _ => rfl), hF, hJ⟩, (by show va_P _ _ _ t.heap; rw [ht]; exact hP9)⟩, hS.F ht⟩) hS.2.2 dX12_swap_57
        · skip
          have t8900 := cv_eq (a := z8895.toInt) rfl (b := 11) (by decide) c8898
          refine lv_aload_n hx hb dX12_swap_40 rfl (lv_at hl 0 rfl) ?_
          refine va_get (D := (dC, dI)) (ci := 12) (v := .ref (g 11)) (C := RX12) (T := TX12) (N := 63) hx hb hwd inA_X12 hown hK hP 0 rfl rfl 15 (by decide) (hwd _ wk_192) (fun _ h9 => h9) rfl dX12_swap_41 ?_
          refine lv_iload_n hx hb dX12_swap_44 rfl (lv_at hl 1 rfl) ?_
          refine va_iald hx hb hK hP 11 10 rfl rfl (i := p0) (vin (a := p0.toInt) rfl (by omega)) dX12_swap_45 ?_
          refine lv_topi (fun z8901 e8902 => ?_)
          have t8903 : 0 ≤ z8901.toInt ∧ z8901.toInt ≤ 9 := by rw [e8902]; exact hI.2 11 _ _ rfl _
          have tzz8901 : z8901.toInt = (F 11 (p0 : Int32).toNatClampNeg).toInt := congrArg Int32.toInt e8902
          refine lv_aload_n hx hb dX12_swap_46 rfl (lv_at hl 0 rfl) ?_
          refine va_get (D := (dC, dI)) (ci := 12) (v := .ref (g 11)) (C := RX12) (T := TX12) (N := 63) hx hb hwd inA_X12 hown hK hP 0 rfl rfl 15 (by decide) (hwd _ wk_192) (fun _ h9 => h9) rfl dX12_swap_47 ?_
          refine lv_iload_n hx hb dX12_swap_50 rfl (lv_at hl 2 rfl) ?_
          refine va_iald hx hb hK hP 11 10 rfl rfl (i := p1) (vin (a := p1.toInt) rfl (by omega)) dX12_swap_51 ?_
          refine lv_topi (fun z8904 e8905 => ?_)
          have t8906 : 0 ≤ z8904.toInt ∧ z8904.toInt ≤ 9 := by rw [e8905]; exact hI.2 11 _ _ rfl _
          have tzz8904 : z8904.toInt = (F 11 (p1 : Int32).toNatClampNeg).toInt := congrArg Int32.toInt e8905
          refine lv_icmp_eq (tgt := 58) hx hb dX12_swap_52 (by decide) (fun c8907 => ?_) (fun c8907 => ?_)
          · skip
            have t8908 := cv_eq (a := z8901.toInt) rfl (b := z8904.toInt) rfl c8907
            refine lv_aload_n hx hb dX12_swap_58 rfl (lv_at hl 0 rfl) ?_
            refine va_get (D := (dC, dI)) (ci := 12) (v := .int (v 19)) (C := RX12) (T := TX12) (N := 63) hx hb hwd inA_X12 hown hK hP 0 rfl rfl 19 (by decide) (hwd _ wk_494) (fun _ h9 => h9) rfl dX12_swap_59 ?_
            have t8909 : 0 ≤ (v 19).toInt ∧ (v 19).toInt ≤ 500 := hI.1 19 _ _ rfl
            refine lv_iconst (v := 2) hx hb dX12_swap_62 (by decide) ?_
            refine lv_iadd hx hb dX12_swap_63 ?_
            refine lv_topi (fun z8910 e8911 => ?_)
            try (have t8912 := tadd e8911 (a := (v 19).toInt) rfl (b := 2) (by decide) (by omega))
            refine lv_sipush (v := 500) hx hb dX12_swap_64 (by decide) ?_
            refine lv_icmp_le (tgt := 73) hx hb dX12_swap_67 (by decide) (fun c8913 => ?_) (fun c8913 => ?_)
            · skip
              have t8914 := cv_le (a := z8910.toInt) rfl (b := 500) (by decide) c8913
              refine lv_aload_n hx hb dX12_swap_73 rfl (lv_at hl 0 rfl) ?_
              refine va_get (D := (dC, dI)) (ci := 12) (v := .ref (g 13)) (C := RX12) (T := TX12) (N := 63) hx hb hwd inA_X12 hown hK hP 0 rfl rfl 17 (by decide) (hwd _ wk_194) (fun _ h9 => h9) rfl dX12_swap_74 ?_
              refine lv_iload_n hx hb dX12_swap_77 rfl (lv_at hl 1 rfl) ?_
              refine va_iald hx hb hK hP 13 12 rfl rfl (i := p0) (vin (a := p0.toInt) rfl (by omega)) dX12_swap_78 ?_
              refine lv_topi (fun z8915 e8916 => ?_)
              have t8917 : 0 ≤ z8915.toInt ∧ z8915.toInt ≤ 12 := by rw [e8916]; exact hI.2 13 _ _ rfl _
              have tzz8915 : z8915.toInt = (F 13 (p0 : Int32).toNatClampNeg).toInt := congrArg Int32.toInt e8916
              refine lv_istore_n (lv' := [(3, .int z8915), (0, .ref (g 0)), (1, .int p0), (2, .int p1)]) hx hb dX12_swap_79 rfl hl (by decide) rfl (fun ls hl => ?_)
              refine lv_aload_n hx hb dX12_swap_80 rfl (lv_at hl 1 rfl) ?_
              refine lv_iload_n hx hb dX12_swap_81 rfl (lv_at hl 2 rfl) ?_
              refine va_callv (va_runV (As := [.int p0]) (rest := []) ⟨hx, hb, hml, hown, hwd⟩ (c_X12_endStay l dC dI g c adK adV v F rc H.size p0 hg hI (by omega) (JO.at' hJ (i := p0) (by omega) (by omega) (by omega))) (cwV 1 hwd (gV wk_635 wk_632 wk_633 wk_634 wk_5) rfl rfl rfl (by decide +kernel) ⟨Nat.le_of_ble_eq_true rfl, Nat.le_of_ble_eq_true rfl⟩) ⟨PM.blind, va_recv hK hP (ci := 12) (q0 := 0) rfl rfl, fun U hU hW => ⟨rfl, PM.at hK hE hP hS hU hW⟩⟩ rfl rfl hl.1 rfl (lv_room (Nat.le_of_ble_eq_true rfl)) dX12_swap_82 ⟨Nat.le_of_ble_eq_true rfl, Nat.le_of_ble_eq_true rfl⟩) hS (fun q _ h => (freeM hS) q h) (freeM hS) (fun u t H1 locs ht hvm hw hB hz1 hk1 hS => ?_)
              unfold BM at hB
              rw [ht] at hB
              obtain ⟨v8919, F8920, rc9⟩ := u
              obtain ⟨hI, hrc, hf8921, hG8922, hw⟩ := hw
              dsimp only at hI hrc hB hf8921 hG8922 hw
              have hF := frCF (by decide) hG8922 hF
              rw [hrc] at hB
              have hP : va_P (dC, dI) classes (wM g c v8919 F8920 rc) H1 := hB
              have hw : ∀ j : Int, j ≠ p0.toInt → hasO (v 19) (F 15) (F 18) j → hasO (v8919 19) (F8920 15) (F8920 18) j := hw
              rw [show v8919 19 = v 19 from hf8921 19 (by decide)] at hw
              have hw_r8918 := hw
              generalize H1 = H at hP hS ⊢
              refine lv_aload_n hx hb dX12_swap_85 rfl (lv_at hl 1 rfl) ?_
              refine lv_iload_n hx hb dX12_swap_86 rfl (lv_at hl 2 rfl) ?_
              refine lv_bipush (v := 11) hx hb dX12_swap_87 (by decide) ?_
              refine va_callv (va_runV (As := [.int p0, .int 11]) (rest := []) ⟨hx, hb, hml, hown, hwd⟩ (c_X12_begin l dC dI g c adK adV v8919 F8920 rc H.size p0 11 hg hI (by omega) (by have : (11 : Int32).toInt = 11 := (by decide); omega) (by have h9 : v8919 19 = v 19 := hf8921 19 (by decide); rw [h9]; omega)) (cwV 2 hwd (gV wk_595 wk_592 wk_593 wk_594 wk_5) rfl rfl rfl (by decide +kernel) ⟨Nat.le_of_ble_eq_true rfl, Nat.le_of_ble_eq_true rfl⟩) ⟨PM.blind, va_recv hK hP (ci := 12) (q0 := 0) rfl rfl, fun U hU hW => ⟨rfl, PM.at hK hE hP hS hU hW⟩⟩ rfl rfl hl.1 rfl (lv_room (Nat.le_of_ble_eq_true rfl)) dX12_swap_89 ⟨Nat.le_of_ble_eq_true rfl, Nat.le_of_ble_eq_true rfl⟩) hS (fun q _ h => (freeM hS) q h) (freeM hS) (fun u t H1 locs ht hvm hw hB hz1 hk1 hS => ?_)
              unfold BM at hB
              rw [ht] at hB
              obtain ⟨v8924, F8925, rc9⟩ := u
              obtain ⟨hI, hrc, hf8926, hG8927, hw⟩ := hw
              dsimp only at hI hrc hB hf8926 hG8927 hw
              have hF := frCF (by decide) hG8927 hF
              rw [hrc] at hB
              have hP : va_P (dC, dI) classes (wM g c v8924 F8925 rc) H1 := hB
              have hw : (v8924 19).toInt = (v8919 19).toInt + 1 ∧ (F8925 13 = upd (F8920 13) p0.toNatClampNeg (11 : Int32)) ∧ (∀ j : Int, (j = p0.toInt ∨ hasO (v8919 19) (F8920 15) (F8920 18) j) → hasO (v8924 19) (F8925 15) (F8925 18) j) := hw
              rw [show v8919 19 = v 19 from hf8921 19 (by decide)] at hw
              have hw_r8923 := hw
              have k8928 : (11 : Int32).toInt = 11 := by decide
              generalize H1 = H at hP hS ⊢
              refine lv_aload_n hx hb dX12_swap_92 rfl (lv_at hl 1 rfl) ?_
              refine lv_iload_n hx hb dX12_swap_93 rfl (lv_at hl 3 rfl) ?_
              refine va_callv (va_runV (As := [.int p1]) (rest := []) ⟨hx, hb, hml, hown, hwd⟩ (c_X12_endStay l dC dI g c adK adV v8924 F8925 rc H.size p1 hg hI (by omega) (JO.at' (JO.go hJ hw_r8918 hw_r8923.2.2 (hw_r8923.2.1.trans (congrArg (fun f => upd f _ _) (hG8922 13 (by decide)))) (by omega)) (i := p1) (by omega) (by omega) (swq (by decide) (by omega)))) (cwV 1 hwd (gV wk_635 wk_632 wk_633 wk_634 wk_5) rfl rfl rfl (by decide +kernel) ⟨Nat.le_of_ble_eq_true rfl, Nat.le_of_ble_eq_true rfl⟩) ⟨PM.blind, va_recv hK hP (ci := 12) (q0 := 0) rfl rfl, fun U hU hW => ⟨rfl, PM.at hK hE hP hS hU hW⟩⟩ rfl rfl hl.1 rfl (lv_room (Nat.le_of_ble_eq_true rfl)) dX12_swap_94 ⟨Nat.le_of_ble_eq_true rfl, Nat.le_of_ble_eq_true rfl⟩) hS (fun q _ h => (freeM hS) q h) (freeM hS) (fun u t H1 locs ht hvm hw hB hz1 hk1 hS => ?_)
              unfold BM at hB
              rw [ht] at hB
              obtain ⟨v8930, F8931, rc9⟩ := u
              obtain ⟨hI, hrc, hf8932, hG8933, hw⟩ := hw
              dsimp only at hI hrc hB hf8932 hG8933 hw
              have hF := frCF (by decide) hG8933 hF
              rw [hrc] at hB
              have hP : va_P (dC, dI) classes (wM g c v8930 F8931 rc) H1 := hB
              have hw : ∀ j : Int, j ≠ p1.toInt → hasO (v8924 19) (F8925 15) (F8925 18) j → hasO (v8930 19) (F8931 15) (F8931 18) j := hw
              rw [show v8930 19 = v8924 19 from hf8932 19 (by decide)] at hw
              have hw_r8929 := hw
              generalize H1 = H at hP hS ⊢
              refine lv_aload_n hx hb dX12_swap_97 rfl (lv_at hl 1 rfl) ?_
              refine lv_iload_n hx hb dX12_swap_98 rfl (lv_at hl 3 rfl) ?_
              refine lv_iload_n hx hb dX12_swap_99 rfl (lv_at hl 0 rfl) ?_
              refine va_callv (va_runV (As := [.int p1, .int z8915]) (rest := []) ⟨hx, hb, hml, hown, hwd⟩ (c_X12_begin l dC dI g c adK adV v8930 F8931 rc H.size p1 z8915 hg hI (by omega) (by omega) (by have h9 : v8930 19 = v8924 19 := hf8932 19 (by decide); rw [h9]; omega)) (cwV 2 hwd (gV wk_595 wk_592 wk_593 wk_594 wk_5) rfl rfl rfl (by decide +kernel) ⟨Nat.le_of_ble_eq_true rfl, Nat.le_of_ble_eq_true rfl⟩) ⟨PM.blind, va_recv hK hP (ci := 12) (q0 := 0) rfl rfl, fun U hU hW => ⟨rfl, PM.at hK hE hP hS hU hW⟩⟩ rfl rfl hl.1 rfl (lv_room (Nat.le_of_ble_eq_true rfl)) dX12_swap_100 ⟨Nat.le_of_ble_eq_true rfl, Nat.le_of_ble_eq_true rfl⟩) hS (fun q _ h => (freeM hS) q h) (freeM hS) (fun u t H1 locs ht hvm hw hB hz1 hk1 hS => ?_)
              unfold BM at hB
              rw [ht] at hB
              obtain ⟨v8935, F8936, rc9⟩ := u
              obtain ⟨hI, hrc, hf8937, hG8938, hw⟩ := hw
              dsimp only at hI hrc hB hf8937 hG8938 hw
              have hF := frCF (by decide) hG8938 hF
              rw [hrc] at hB
              have hP : va_P (dC, dI) classes (wM g c v8935 F8936 rc) H1 := hB
              have hw : (v8935 19).toInt = (v8930 19).toInt + 1 ∧ (F8936 13 = upd (F8931 13) p1.toNatClampNeg z8915) ∧ (∀ j : Int, (j = p1.toInt ∨ hasO (v8930 19) (F8931 15) (F8931 18) j) → hasO (v8935 19) (F8936 15) (F8936 18) j) := hw
              rw [show v8930 19 = v8924 19 from hf8932 19 (by decide)] at hw
              have hw_r8934 := hw
              generalize H1 = H at hP hS ⊢
              refine lv_iconst (v := 1) hx hb dX12_swap_103 (by decide) ?_
              have hP9 : va_P (dC, dI) classes (wM g c v8935 F8936 rc) H := hP
              exact W.iret (v := 1) hx hb hr (fun t ht hW => ⟨⟨1, (v8935, F8936, rc), rfl, ⟨hI, rfl, (frC (by decide) hf8937 (frC (by decide) hf8932 (frC (by decide) hf8926 (frC (by decide) hf8921 (fun _ _ => rfl))))), hF, (by show JO (v8935 14) (v8935 19) (F8936 13) (F8936 15) (F8936 18); rw [show v8935 14 = v 14 from (hf8937 14 (by decide)).trans ((hf8932 14 (by decide)).trans ((hf8926 14 (by decide)).trans (hf8921 14 (by decide))))]; exact JO.go (JO.go hJ hw_r8918 hw_r8923.2.2 (hw_r8923.2.1.trans (congrArg (fun f => upd f _ _) (hG8922 13 (by decide)))) (by omega)) hw_r8929 hw_r8934.2.2 (hw_r8934.2.1.trans (congrArg (fun f => upd f _ _) (hG8933 13 (by decide)))) (by omega))⟩, (by show va_P _ _ _ t.heap; rw [ht]; exact hP9)⟩, hS.F ht⟩) hS.2.2 dX12_swap_104
            · skip
              have t8939 := cv_nle (a := z8910.toInt) rfl (b := 500) (by decide) c8913
              refine lv_bipush (v := (-3)) hx hb dX12_swap_70 (by decide) ?_
              have hP9 : va_P (dC, dI) classes (wM g c v F rc) H := hP
              exact W.iret (v := (-3)) hx hb hr (fun t ht hW => ⟨⟨(-3), (v, F, rc), rfl, ⟨hI, rfl, (fun _ _ => rfl), hF, hJ⟩, (by show va_P _ _ _ t.heap; rw [ht]; exact hP9)⟩, hS.F ht⟩) hS.2.2 dX12_swap_72
          · skip
            have t8940 := cv_ne (a := z8901.toInt) rfl (b := z8904.toInt) rfl c8907
            refine lv_bipush (v := (-2)) hx hb dX12_swap_55 (by decide) ?_
            have hP9 : va_P (dC, dI) classes (wM g c v F rc) H := hP
            exact W.iret (v := (-2)) hx hb hr (fun t ht hW => ⟨⟨(-2), (v, F, rc), rfl, ⟨hI, rfl, (fun _ _ => rfl), hF, hJ⟩, (by show va_P _ _ _ t.heap; rw [ht]; exact hP9)⟩, hS.F ht⟩) hS.2.2 dX12_swap_57
    · skip
      have t8941 := cv_eq (a := r8886.toInt) rfl (b := 0) (by decide) c8887
      refine lv_iconst (v := (-1)) hx hb dX12_swap_16 (by decide) ?_
      have hP9 : va_P (dC, dI) classes (wM g c v F rc) H := hP
      exact W.iret (v := (-1)) hx hb hr (fun t ht hW => ⟨⟨(-1), (v, F, rc), rfl, ⟨hI, rfl, (fun _ _ => rfl), hF, hJ⟩, (by show va_P _ _ _ t.heap; rw [ht]; exact hP9)⟩, hS.F ht⟩) hS.2.2 dX12_swap_17
