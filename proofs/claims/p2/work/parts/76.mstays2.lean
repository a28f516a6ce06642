set_option maxHeartbeats 8000000 in
set_option maxRecDepth 100000 in
theorem c_X12_part (l : Launch) (dC : Nat → ClassId) (dI : Nat → Nat → Nat) (g : Nat → Nat) (c : Nat → ClassId) (adK adV : Nat → Nat) (v : Nat → Int32) (F : Nat → Nat → Int32) (rc sz : Nat) (p0 : Int32) (p1 : Int32) (p2 : Int32) (p3 : Int32) (p4 : Int32) (hg : injM g) (hI : IM v F) (hJ : JO (v 14) (v 19) (F 13) (F 15) (F 18)) : Met l yX12_part (Cond.code yX12_part cX12_part 7 (some .int) :: wA) ({ frames := 3, cells := 0, slots := 0, locals := 120 }) (va_Pc [.ref (g 0), .int p0, .int p1, .int p2, .int p3, .int p4] (PM dC dI g c adK adV v F rc sz)) (va_Qi (fun (r : Int32) (u : StM) => IM u.1 u.2.1 ∧ u.2.2 = rc ∧ (∀ k, k ∉ ([14, 19] : List Nat) → u.1 k = v k) ∧ (∀ k, k ∉ ([11, 12, 13, 14, 15, 16, 17, 18, 19, 21, 23] : List Nat) → u.2.1 k = F k) ∧ JO (u.1 14) (u.1 19) (u.2.1 13) (u.2.1 15) (u.2.1 18)) (BM dC dI g c) (AM g sz)) 0 0 (AM g sz) := by
  refine Met.ofW (cc := cX12_part) (maxL := 7) (ret := (some .int)) (by decide) rfl ?_
  intro p e s m args below meth c0 s₁ B hml hv
  obtain ⟨rfl, hsz, hP, hK, hE⟩ := hv
  have hx := B.exec
  have hb := B.bytes
  have hr := B.returns
  have hts := atoms_spec (ws := Cond.code yX12_part cX12_part 7 (some .int) :: wA) B.pre
  have hwd : ∀ w ∈ wA, w.before _ s = true := fun w h => hts w (List.mem_cons_of_mem _ h)
  have hown : s.vm.findClass RX12 = some m.cls := findClass_of_methodNamed B.named
  have hlocks := B.notSynchronized
  subst hsz
  have hl := lv_entry ([.ref (g 0), .int p0, .int p1, .int p2, .int p3, .int p4]) (n := 7) (Nat.le_of_ble_eq_true rfl)
  rw [lg_entry_eq]
  generalize (lg_sl ([.ref (g 0), .int p0, .int p1, .int p2, .int p3, .int p4]) ++ List.replicate (7 - (lg_sl ([.ref (g 0), .int p0, .int p1, .int p2, .int p3, .int p4])).length) Slot.unset).toArray = ls at hl ⊢
  have hl : lv_has ls 7 [(0, .ref (g 0)), (1, .int p0), (2, .int p1), (3, .int p2), (4, .int p3), (5, .int p4)] := hl
  obtain ⟨H, eH⟩ : ∃ z, z = s.heap := ⟨_, rfl⟩
  have hP : va_P (dC, dI) classes (wM g c v F rc) H := by rw [eH]; exact hP
  have hS : va_S (AM g s.heap.size) s.heap H [] := by rw [eH]; exact va_S.rf
  refine my_heap eH ?_
  have hF : ∀ k, k ∉ ([11, 12, 13, 14, 15, 16, 17, 18, 19, 21, 23] : List Nat) → F k = F k := fun _ _ => rfl
  have rp0 := i32_rng p0
  have rp1 := i32_rng p1
  have rp2 := i32_rng p2
  have rp3 := i32_rng p3
  have rp4 := i32_rng p4
  have hb14 : 0 ≤ (v 14).toInt ∧ (v 14).toInt ≤ 100 := hI.1 14 _ _ rfl
  have hb19 : 0 ≤ (v 19).toInt ∧ (v 19).toInt ≤ 500 := hI.1 19 _ _ rfl
  refine lv_aload_n hx hb dX12_part_0 rfl (lv_at hl 0 rfl) ?_
  refine lv_iload_n hx hb dX12_part_1 rfl (lv_at hl 1 rfl) ?_
  have t8470 : 0 ≤ (v 2).toInt ∧ (v 2).toInt ≤ 10 := hI.1 2 _ _ rfl
  refine va_calli (va_runV (As := [.int p0]) (rest := []) ⟨hx, hb, hml, hown, hwd⟩ (c_X12_isKind l dC dI g c adK adV v F rc H.size p0 hg hI ) (cwV 1 hwd (gV wk_309 wk_306 wk_307 wk_308 wk_5) rfl rfl rfl (by decide +kernel) ⟨Nat.le_of_ble_eq_true rfl, Nat.le_of_ble_eq_true rfl⟩) ⟨PM.blind, va_recv hK hP (ci := 12) (q0 := 0) rfl rfl, fun U hU hW => ⟨rfl, PM.at hK hE hP hS hU hW⟩⟩ rfl rfl hl.1 rfl (lv_room (Nat.le_of_ble_eq_true rfl)) dX12_part_2 ⟨Nat.le_of_ble_eq_true rfl, Nat.le_of_ble_eq_true rfl⟩) hS (fun q _ h => (freeM hS) q h) (freeM hS) (fun r8471 u t H1 locs ht hvm hw hB hz1 hk1 hS => ?_)
  unfold BM at hB
  rw [ht] at hB
  have hP : va_P (dC, dI) classes (wM g c v F rc) H1 := hB
  replace hw : (r8471.toInt = 1 ∧ 0 ≤ p0.toInt ∧ p0.toInt < (v 2).toInt) ∨ (r8471.toInt = 0 ∧ (p0.toInt < 0 ∨ (v 2).toInt ≤ p0.toInt)) := hw
  have hw_r8471 := hw
  clear hw
  clear hz1
  generalize H1 = H at hP hS ⊢
  refine lv_if_eq (tgt := 50) hx hb dX12_part_5 (by decide) (fun c8472 => ?_) (fun c8472 => ?_)
  · skip
    have t8473 := cv_eq (a := r8471.toInt) rfl (b := 0) (by decide) c8472
    refine lv_iconst (v := (-1)) hx hb dX12_part_50 (by decide) ?_
    have hP9 : va_P (dC, dI) classes (wM g c v F rc) H := hP
    exact W.iret (v := (-1)) hx hb hr (fun t ht hW => ⟨⟨(-1), (v, F, rc), rfl, ⟨hI, rfl, (fun _ _ => rfl), hF, hJ⟩, (by show va_P _ _ _ t.heap; rw [ht]; exact hP9)⟩, hS.F ht⟩) hS.2.2 dX12_part_51
  · skip
    have t8474 := cv_ne (a := r8471.toInt) rfl (b := 0) (by decide) c8472
    refine lv_iload_n hx hb dX12_part_8 rfl (lv_at hl 2 rfl) ?_
    refine lv_iconst (v := 1) hx hb dX12_part_9 (by decide) ?_
    refine lv_ldc (v := 99999) hx hb hown (hwd _ wk_249) dX12_part_10 ?_
    refine va_calli (va_runS (As := [.int p1, .int 1, .int 99999]) (rest := []) ⟨hx, hb, hml, hown, hwd⟩ (c_X12_in l dC dI g c adK adV v F rc H.size p1 1 99999 hg hI ) (va_cwS 3 hwd (gT wk_254 wk_252 wk_253 wk_5) rfl rfl rfl (by decide +kernel) ⟨Nat.le_of_ble_eq_true rfl, Nat.le_of_ble_eq_true rfl⟩) ⟨PM.blind, fun U hU hW => ⟨rfl, PM.at hK hE hP hS hU hW⟩⟩ rfl rfl hl.1 rfl (lv_room (Nat.le_of_ble_eq_true rfl)) dX12_part_12 ⟨Nat.le_of_ble_eq_true rfl, Nat.le_of_ble_eq_true rfl⟩) hS (fun q _ h => (freeM hS) q h) (freeM hS) (fun r8475 u t H1 locs ht hvm hw hB hz1 hk1 hS => ?_)
    unfold BM at hB
    rw [ht] at hB
    have hP : va_P (dC, dI) classes (wM g c v F rc) H1 := hB
    have hw_r8475 : (r8475.toInt = 1 ∧ (1 : Int32).toInt ≤ p1.toInt ∧ p1.toInt ≤ (99999 : Int32).toInt) ∨ (r8475.toInt = 0 ∧ (p1.toInt < (1 : Int32).toInt ∨ (99999 : Int32).toInt < p1.toInt)) := hw
    clear hw
    have k8476 : (1 : Int32).toInt = 1 := by decide
    have k8477 : (99999 : Int32).toInt = 99999 := by decide
    clear hz1
    generalize H1 = H at hP hS ⊢
    refine lv_if_eq (tgt := 50) hx hb dX12_part_15 (by decide) (fun c8478 => ?_) (fun c8478 => ?_)
    · skip
      have t8479 := cv_eq (a := r8475.toInt) rfl (b := 0) (by decide) c8478
      refine lv_iconst (v := (-1)) hx hb dX12_part_50 (by decide) ?_
      have hP9 : va_P (dC, dI) classes (wM g c v F rc) H := hP
      exact W.iret (v := (-1)) hx hb hr (fun t ht hW => ⟨⟨(-1), (v, F, rc), rfl, ⟨hI, rfl, (fun _ _ => rfl), hF, hJ⟩, (by show va_P _ _ _ t.heap; rw [ht]; exact hP9)⟩, hS.F ht⟩) hS.2.2 dX12_part_51
    · skip
      have t8480 := cv_ne (a := r8475.toInt) rfl (b := 0) (by decide) c8478
      refine lv_iload_n hx hb dX12_part_18 rfl (lv_at hl 3 rfl) ?_
      refine lv_iconst (v := 0) hx hb dX12_part_19 (by decide) ?_
      refine lv_ldc (v := 99999) hx hb hown (hwd _ wk_249) dX12_part_20 ?_
      refine va_calli (va_runS (As := [.int p2, .int 0, .int 99999]) (rest := []) ⟨hx, hb, hml, hown, hwd⟩ (c_X12_in l dC dI g c adK adV v F rc H.size p2 0 99999 hg hI ) (va_cwS 3 hwd (gT wk_254 wk_252 wk_253 wk_5) rfl rfl rfl (by decide +kernel) ⟨Nat.le_of_ble_eq_true rfl, Nat.le_of_ble_eq_true rfl⟩) ⟨PM.blind, fun U hU hW => ⟨rfl, PM.at hK hE hP hS hU hW⟩⟩ rfl rfl hl.1 rfl (lv_room (Nat.le_of_ble_eq_true rfl)) dX12_part_22 ⟨Nat.le_of_ble_eq_true rfl, Nat.le_of_ble_eq_true rfl⟩) hS (fun q _ h => (freeM hS) q h) (freeM hS) (fun r8481 u t H1 locs ht hvm hw hB hz1 hk1 hS => ?_)
      unfold BM at hB
      rw [ht] at hB
      have hP : va_P (dC, dI) classes (wM g c v F rc) H1 := hB
      have hw_r8481 : (r8481.toInt = 1 ∧ (0 : Int32).toInt ≤ p2.toInt ∧ p2.toInt ≤ (99999 : Int32).toInt) ∨ (r8481.toInt = 0 ∧ (p2.toInt < (0 : Int32).toInt ∨ (99999 : Int32).toInt < p2.toInt)) := hw
      clear hw
      have k8482 : (0 : Int32).toInt = 0 := by decide
      have k8483 : (99999 : Int32).toInt = 99999 := by decide
      clear hz1
      generalize H1 = H at hP hS ⊢
      refine lv_if_eq (tgt := 50) hx hb dX12_part_25 (by decide) (fun c8484 => ?_) (fun c8484 => ?_)
      · skip
        have t8485 := cv_eq (a := r8481.toInt) rfl (b := 0) (by decide) c8484
        refine lv_iconst (v := (-1)) hx hb dX12_part_50 (by decide) ?_
        have hP9 : va_P (dC, dI) classes (wM g c v F rc) H := hP
        exact W.iret (v := (-1)) hx hb hr (fun t ht hW => ⟨⟨(-1), (v, F, rc), rfl, ⟨hI, rfl, (fun _ _ => rfl), hF, hJ⟩, (by show va_P _ _ _ t.heap; rw [ht]; exact hP9)⟩, hS.F ht⟩) hS.2.2 dX12_part_51
      · skip
        have t8486 := cv_ne (a := r8481.toInt) rfl (b := 0) (by decide) c8484
        refine lv_iload hx hb dX12_part_28 (lv_at hl 4 rfl) ?_
        refine lv_iconst (v := 0) hx hb dX12_part_30 (by decide) ?_
        refine lv_ldc (v := 99999) hx hb hown (hwd _ wk_249) dX12_part_31 ?_
        refine va_calli (va_runS (As := [.int p3, .int 0, .int 99999]) (rest := []) ⟨hx, hb, hml, hown, hwd⟩ (c_X12_in l dC dI g c adK adV v F rc H.size p3 0 99999 hg hI ) (va_cwS 3 hwd (gT wk_254 wk_252 wk_253 wk_5) rfl rfl rfl (by decide +kernel) ⟨Nat.le_of_ble_eq_true rfl, Nat.le_of_ble_eq_true rfl⟩) ⟨PM.blind, fun U hU hW => ⟨rfl, PM.at hK hE hP hS hU hW⟩⟩ rfl rfl hl.1 rfl (lv_room (Nat.le_of_ble_eq_true rfl)) dX12_part_33 ⟨Nat.le_of_ble_eq_true rfl, Nat.le_of_ble_eq_true rfl⟩) hS (fun q _ h => (freeM hS) q h) (freeM hS) (fun r8487 u t H1 locs ht hvm hw hB hz1 hk1 hS => ?_)
        unfold BM at hB
        rw [ht] at hB
        have hP : va_P (dC, dI) classes (wM g c v F rc) H1 := hB
        have hw_r8487 : (r8487.toInt = 1 ∧ (0 : Int32).toInt ≤ p3.toInt ∧ p3.toInt ≤ (99999 : Int32).toInt) ∨ (r8487.toInt = 0 ∧ (p3.toInt < (0 : Int32).toInt ∨ (99999 : Int32).toInt < p3.toInt)) := hw
        clear hw
        have k8488 : (0 : Int32).toInt = 0 := by decide
        have k8489 : (99999 : Int32).toInt = 99999 := by decide
        clear hz1
        generalize H1 = H at hP hS ⊢
        refine lv_if_eq (tgt := 50) hx hb dX12_part_36 (by decide) (fun c8490 => ?_) (fun c8490 => ?_)
        · skip
          have t8491 := cv_eq (a := r8487.toInt) rfl (b := 0) (by decide) c8490
          refine lv_iconst (v := (-1)) hx hb dX12_part_50 (by decide) ?_
          have hP9 : va_P (dC, dI) classes (wM g c v F rc) H := hP
          exact W.iret (v := (-1)) hx hb hr (fun t ht hW => ⟨⟨(-1), (v, F, rc), rfl, ⟨hI, rfl, (fun _ _ => rfl), hF, hJ⟩, (by show va_P _ _ _ t.heap; rw [ht]; exact hP9)⟩, hS.F ht⟩) hS.2.2 dX12_part_51
        · skip
          have t8492 := cv_ne (a := r8487.toInt) rfl (b := 0) (by decide) c8490
          refine lv_iload hx hb dX12_part_39 (lv_at hl 5 rfl) ?_
          refine lv_iconst (v := 0) hx hb dX12_part_41 (by decide) ?_
          refine lv_ldc (v := 99999) hx hb hown (hwd _ wk_249) dX12_part_42 ?_
          refine va_calli (va_runS (As := [.int p4, .int 0, .int 99999]) (rest := []) ⟨hx, hb, hml, hown, hwd⟩ (c_X12_in l dC dI g c adK adV v F rc H.size p4 0 99999 hg hI ) (va_cwS 3 hwd (gT wk_254 wk_252 wk_253 wk_5) rfl rfl rfl (by decide +kernel) ⟨Nat.le_of_ble_eq_true rfl, Nat.le_of_ble_eq_true rfl⟩) ⟨PM.blind, fun U hU hW => ⟨rfl, PM.at hK hE hP hS hU hW⟩⟩ rfl rfl hl.1 rfl (lv_room (Nat.le_of_ble_eq_true rfl)) dX12_part_44 ⟨Nat.le_of_ble_eq_true rfl, Nat.le_of_ble_eq_true rfl⟩) hS (fun q _ h => (freeM hS) q h) (freeM hS) (fun r8493 u t H1 locs ht hvm hw hB hz1 hk1 hS => ?_)
          unfold BM at hB
          rw [ht] at hB
          have hP : va_P (dC, dI) classes (wM g c v F rc) H1 := hB
          have hw_r8493 : (r8493.toInt = 1 ∧ (0 : Int32).toInt ≤ p4.toInt ∧ p4.toInt ≤ (99999 : Int32).toInt) ∨ (r8493.toInt = 0 ∧ (p4.toInt < (0 : Int32).toInt ∨ (99999 : Int32).toInt < p4.toInt)) := hw
          clear hw
          have k8494 : (0 : Int32).toInt = 0 := by decide
          have k8495 : (99999 : Int32).toInt = 99999 := by decide
          clear hz1
          generalize H1 = H at hP hS ⊢
          refine lv_if_ne (tgt := 52) hx hb dX12_part_47 (by decide) (fun c8496 => ?_) (fun c8496 => ?_)
          · skip
            have t8497 := cv_ne (a := r8493.toInt) rfl (b := 0) (by decide) c8496
            refine lv_aload_n hx hb dX12_part_52 rfl (lv_at hl 0 rfl) ?_
            refine va_get (D := (dC, dI)) (ci := 12) (v := .int (v 14)) (C := RX12) (T := TX12) (N := 63) hx hb hwd inA_X12 hown hK hP 0 rfl rfl 14 (by decide) (hwd _ wk_318) (fun _ h9 => h9) rfl dX12_part_53 ?_
            have t8498 : 0 ≤ (v 14).toInt ∧ (v 14).toInt ≤ 100 := hI.1 14 _ _ rfl
            refine lv_bipush (v := 100) hx hb dX12_part_56 (by decide) ?_
            refine lv_icmp_eq (tgt := 71) hx hb dX12_part_58 (by decide) (fun c8499 => ?_) (fun c8499 => ?_)
            · skip
              have t8500 := cv_eq (a := (v 14).toInt) rfl (b := 100) (by decide) c8499
              refine lv_bipush (v := (-3)) hx hb dX12_part_71 (by decide) ?_
              have hP9 : va_P (dC, dI) classes (wM g c v F rc) H := hP
              exact W.iret (v := (-3)) hx hb hr (fun t ht hW => ⟨⟨(-3), (v, F, rc), rfl, ⟨hI, rfl, (fun _ _ => rfl), hF, hJ⟩, (by show va_P _ _ _ t.heap; rw [ht]; exact hP9)⟩, hS.F ht⟩) hS.2.2 dX12_part_73
            · skip
              have t8501 := cv_ne (a := (v 14).toInt) rfl (b := 100) (by decide) c8499
              refine lv_aload_n hx hb dX12_part_61 rfl (lv_at hl 0 rfl) ?_
              refine va_get (D := (dC, dI)) (ci := 12) (v := .int (v 19)) (C := RX12) (T := TX12) (N := 63) hx hb hwd inA_X12 hown hK hP 0 rfl rfl 19 (by decide) (hwd _ wk_494) (fun _ h9 => h9) rfl dX12_part_62 ?_
              have t8502 : 0 ≤ (v 19).toInt ∧ (v 19).toInt ≤ 500 := hI.1 19 _ _ rfl
              refine lv_sipush (v := 500) hx hb dX12_part_65 (by decide) ?_
              refine lv_icmp_ne (tgt := 74) hx hb dX12_part_68 (by decide) (fun c8503 => ?_) (fun c8503 => ?_)
              · skip
                have t8504 := cv_ne (a := (v 19).toInt) rfl (b := 500) (by decide) c8503
                refine lv_aload_n hx hb dX12_part_74 rfl (lv_at hl 0 rfl) ?_
                refine va_get (D := (dC, dI)) (ci := 12) (v := .int (v 14)) (C := RX12) (T := TX12) (N := 63) hx hb hwd inA_X12 hown hK hP 0 rfl rfl 14 (by decide) (hwd _ wk_318) (fun _ h9 => h9) rfl dX12_part_75 ?_
                have t8505 : 0 ≤ (v 14).toInt ∧ (v 14).toInt ≤ 100 := hI.1 14 _ _ rfl
                refine lv_istore (lv' := [(6, .int (v 14)), (0, .ref (g 0)), (1, .int p0), (2, .int p1), (3, .int p2), (4, .int p3), (5, .int p4)]) hx hb dX12_part_78 hl (by decide) rfl (fun ls hl => ?_)
                refine lv_aload_n hx hb dX12_part_80 rfl (lv_at hl 1 rfl) ?_
                refine va_get (D := (dC, dI)) (ci := 12) (v := .ref (g 11)) (C := RX12) (T := TX12) (N := 63) hx hb hwd inA_X12 hown hK hP 0 rfl rfl 15 (by decide) (hwd _ wk_192) (fun _ h9 => h9) rfl dX12_part_81 ?_
                refine lv_iload hx hb dX12_part_84 (lv_at hl 0 rfl) ?_
                refine lv_iload_n hx hb dX12_part_86 rfl (lv_at hl 2 rfl) ?_
                refine va_iast hx hb hK hP (DM hg) hS 11 10 rfl rfl (i := (v 14)) (x := p0) (vin (a := (v 14).toInt) rfl (by omega)) dX12_part_87 (fun H locs hP _ hS => ?_)
                have hP := va_P_eq (sM_11 g c _ _ _ _) hP
                have hI := IM.store hI 11 (v 14 : Int32).toNatClampNeg p0 rfl (by omega)
                have hF := frUF (k := 11) (f := upd (F 11) (v 14 : Int32).toNatClampNeg p0) (by decide) hF
                have st8507 : (va_up F 11 (upd (F 11) (v 14 : Int32).toNatClampNeg p0)) 11 = upd (F 11) (v 14 : Int32).toNatClampNeg p0 := va_up_self _ _ _
                have sn8508 : ∀ k9, k9 ≠ 11 → (va_up F 11 (upd (F 11) (v 14 : Int32).toNatClampNeg p0)) k9 = F k9 := fun k9 h9 => va_up_ne _ _ h9
                have hP : va_P (dC, dI) classes (wM g c v (va_up F 11 (upd (F 11) (v 14 : Int32).toNatClampNeg p0)) rc) H := hP
                generalize (va_up F 11 (upd (F 11) (v 14 : Int32).toNatClampNeg p0)) = F8506 at hP hI hF st8507 sn8508
                refine lv_aload_n hx hb dX12_part_88 rfl (lv_at hl 1 rfl) ?_
                refine va_get (D := (dC, dI)) (ci := 12) (v := .ref (g 12)) (C := RX12) (T := TX12) (N := 63) hx hb hwd inA_X12 hown hK hP 0 rfl rfl 16 (by decide) (hwd _ wk_193) (fun _ h9 => h9) rfl dX12_part_89 ?_
                refine lv_iload hx hb dX12_part_92 (lv_at hl 0 rfl) ?_
                refine lv_iload_n hx hb dX12_part_94 rfl (lv_at hl 3 rfl) ?_
                refine va_iast hx hb hK hP (DM hg) hS 12 11 rfl rfl (i := (v 14)) (x := p1) (vin (a := (v 14).toInt) rfl (by omega)) dX12_part_95 (fun H locs hP _ hS => ?_)
                have hP := va_P_eq (sM_12 g c _ _ _ _) hP
                have hI := IM.store0 hI 12 (v 14 : Int32).toNatClampNeg p1 rfl
                have hF := frUF (k := 12) (f := upd (F8506 12) (v 14 : Int32).toNatClampNeg p1) (by decide) hF
                have st8510 : (va_up F8506 12 (upd (F8506 12) (v 14 : Int32).toNatClampNeg p1)) 12 = upd (F8506 12) (v 14 : Int32).toNatClampNeg p1 := va_up_self _ _ _
                have sn8511 : ∀ k9, k9 ≠ 12 → (va_up F8506 12 (upd (F8506 12) (v 14 : Int32).toNatClampNeg p1)) k9 = F8506 k9 := fun k9 h9 => va_up_ne _ _ h9
                have hP : va_P (dC, dI) classes (wM g c v (va_up F8506 12 (upd (F8506 12) (v 14 : Int32).toNatClampNeg p1)) rc) H := hP
                generalize (va_up F8506 12 (upd (F8506 12) (v 14 : Int32).toNatClampNeg p1)) = F8509 at hP hI hF st8510 sn8511
                refine lv_aload_n hx hb dX12_part_96 rfl (lv_at hl 1 rfl) ?_
                refine va_get (D := (dC, dI)) (ci := 12) (v := .ref (g 14)) (C := RX12) (T := TX12) (N := 63) hx hb hwd inA_X12 hown hK hP 0 rfl rfl 18 (by decide) (hwd _ wk_195) (fun _ h9 => h9) rfl dX12_part_97 ?_
                refine lv_iconst (v := 3) hx hb dX12_part_100 (by decide) ?_
                refine lv_iload hx hb dX12_part_101 (lv_at hl 0 rfl) ?_
                refine lv_imul hx hb dX12_part_103 ?_
                refine lv_topi (fun z8512 e8513 => ?_)
                try (have t8514 := tmul e8513 (a := 3) (by decide) (b := (v 14).toInt) rfl (by omega))
                refine lv_iload_n hx hb dX12_part_104 rfl (lv_at hl 4 rfl) ?_
                refine va_iast hx hb hK hP (DM hg) hS 14 13 rfl rfl (i := z8512) (x := p2) (vin (a := z8512.toInt) rfl (by omega)) dX12_part_105 (fun H locs hP _ hS => ?_)
                have hP := va_P_eq (sM_14 g c _ _ _ _) hP
                have hI := IM.store0 hI 14 (z8512 : Int32).toNatClampNeg p2 rfl
                have hF := frUF (k := 14) (f := upd (F8509 14) (z8512 : Int32).toNatClampNeg p2) (by decide) hF
                have st8516 : (va_up F8509 14 (upd (F8509 14) (z8512 : Int32).toNatClampNeg p2)) 14 = upd (F8509 14) (z8512 : Int32).toNatClampNeg p2 := va_up_self _ _ _
                have sn8517 : ∀ k9, k9 ≠ 14 → (va_up F8509 14 (upd (F8509 14) (z8512 : Int32).toNatClampNeg p2)) k9 = F8509 k9 := fun k9 h9 => va_up_ne _ _ h9
                have hP : va_P (dC, dI) classes (wM g c v (va_up F8509 14 (upd (F8509 14) (z8512 : Int32).toNatClampNeg p2)) rc) H := hP
                generalize (va_up F8509 14 (upd (F8509 14) (z8512 : Int32).toNatClampNeg p2)) = F8515 at hP hI hF st8516 sn8517
                refine lv_aload_n hx hb dX12_part_106 rfl (lv_at hl 1 rfl) ?_
                refine va_get (D := (dC, dI)) (ci := 12) (v := .ref (g 14)) (C := RX12) (T := TX12) (N := 63) hx hb hwd inA_X12 hown hK hP 0 rfl rfl 18 (by decide) (hwd _ wk_195) (fun _ h9 => h9) rfl dX12_part_107 ?_
                refine lv_iconst (v := 3) hx hb dX12_part_110 (by decide) ?_
                refine lv_iload hx hb dX12_part_111 (lv_at hl 0 rfl) ?_
                refine lv_imul hx hb dX12_part_113 ?_
                refine lv_topi (fun z8518 e8519 => ?_)
                try (have t8520 := tmul e8519 (a := 3) (by decide) (b := (v 14).toInt) rfl (by omega))
                refine lv_iconst (v := 1) hx hb dX12_part_114 (by decide) ?_
                refine lv_iadd hx hb dX12_part_115 ?_
                refine lv_topi (fun z8521 e8522 => ?_)
                try (have t8523 := tadd e8522 (a := z8518.toInt) rfl (b := 1) (by decide) (by omega))
                refine lv_iload hx hb dX12_part_116 (lv_at hl 5 rfl) ?_
                refine va_iast hx hb hK hP (DM hg) hS 14 13 rfl rfl (i := z8521) (x := p3) (vin (a := z8521.toInt) rfl (by omega)) dX12_part_118 (fun H locs hP _ hS => ?_)
                have hP := va_P_eq (sM_14 g c _ _ _ _) hP
                have hI := IM.store0 hI 14 (z8521 : Int32).toNatClampNeg p3 rfl
                have hF := frUF (k := 14) (f := upd (F8515 14) (z8521 : Int32).toNatClampNeg p3) (by decide) hF
                have st8525 : (va_up F8515 14 (upd (F8515 14) (z8521 : Int32).toNatClampNeg p3)) 14 = upd (F8515 14) (z8521 : Int32).toNatClampNeg p3 := va_up_self _ _ _
                have sn8526 : ∀ k9, k9 ≠ 14 → (va_up F8515 14 (upd (F8515 14) (z8521 : Int32).toNatClampNeg p3)) k9 = F8515 k9 := fun k9 h9 => va_up_ne _ _ h9
                have hP : va_P (dC, dI) classes (wM g c v (va_up F8515 14 (upd (F8515 14) (z8521 : Int32).toNatClampNeg p3)) rc) H := hP
                generalize (va_up F8515 14 (upd (F8515 14) (z8521 : Int32).toNatClampNeg p3)) = F8524 at hP hI hF st8525 sn8526
                refine lv_aload_n hx hb dX12_part_119 rfl (lv_at hl 1 rfl) ?_
                refine va_get (D := (dC, dI)) (ci := 12) (v := .ref (g 14)) (C := RX12) (T := TX12) (N := 63) hx hb hwd inA_X12 hown hK hP 0 rfl rfl 18 (by decide) (hwd _ wk_195) (fun _ h9 => h9) rfl dX12_part_120 ?_
                refine lv_iconst (v := 3) hx hb dX12_part_123 (by decide) ?_
                refine lv_iload hx hb dX12_part_124 (lv_at hl 0 rfl) ?_
                refine lv_imul hx hb dX12_part_126 ?_
                refine lv_topi (fun z8527 e8528 => ?_)
                try (have t8529 := tmul e8528 (a := 3) (by decide) (b := (v 14).toInt) rfl (by omega))
                refine lv_iconst (v := 2) hx hb dX12_part_127 (by decide) ?_
                refine lv_iadd hx hb dX12_part_128 ?_
                refine lv_topi (fun z8530 e8531 => ?_)
                try (have t8532 := tadd e8531 (a := z8527.toInt) rfl (b := 2) (by decide) (by omega))
                refine lv_iload hx hb dX12_part_129 (lv_at hl 6 rfl) ?_
                refine va_iast hx hb hK hP (DM hg) hS 14 13 rfl rfl (i := z8530) (x := p4) (vin (a := z8530.toInt) rfl (by omega)) dX12_part_131 (fun H locs hP _ hS => ?_)
                have hP := va_P_eq (sM_14 g c _ _ _ _) hP
                have hI := IM.store0 hI 14 (z8530 : Int32).toNatClampNeg p4 rfl
                have hF := frUF (k := 14) (f := upd (F8524 14) (z8530 : Int32).toNatClampNeg p4) (by decide) hF
                have st8534 : (va_up F8524 14 (upd (F8524 14) (z8530 : Int32).toNatClampNeg p4)) 14 = upd (F8524 14) (z8530 : Int32).toNatClampNeg p4 := va_up_self _ _ _
                have sn8535 : ∀ k9, k9 ≠ 14 → (va_up F8524 14 (upd (F8524 14) (z8530 : Int32).toNatClampNeg p4)) k9 = F8524 k9 := fun k9 h9 => va_up_ne _ _ h9
                have hP : va_P (dC, dI) classes (wM g c v (va_up F8524 14 (upd (F8524 14) (z8530 : Int32).toNatClampNeg p4)) rc) H := hP
                generalize (va_up F8524 14 (upd (F8524 14) (z8530 : Int32).toNatClampNeg p4)) = F8533 at hP hI hF st8534 sn8535
                refine lv_aload_n hx hb dX12_part_132 rfl (lv_at hl 1 rfl) ?_
                refine lv_dup hx hb dX12_part_133 rfl ?_
                refine va_get (D := (dC, dI)) (ci := 12) (v := .int (v 14)) (C := RX12) (T := TX12) (N := 63) hx hb hwd inA_X12 hown hK hP 0 rfl rfl 14 (by decide) (hwd _ wk_318) (fun _ h9 => h9) rfl dX12_part_134 ?_
                have t8536 : 0 ≤ (v 14).toInt ∧ (v 14).toInt ≤ 100 := hI.1 14 _ _ rfl
                refine lv_iconst (v := 1) hx hb dX12_part_137 (by decide) ?_
                refine lv_iadd hx hb dX12_part_138 ?_
                refine lv_topi (fun z8537 e8538 => ?_)
                try (have t8539 := tadd e8538 (a := (v 14).toInt) rfl (b := 1) (by decide) (by omega))
                refine va_put (D := (dC, dI)) (ci := 12) (v := .int z8537) (ty := .int) (C := RX12) (T := TX12) (N := 63) (fs := fsM_0 g v rc) hx hb hwd inA_X12 tyX12 tyX12_ok nmX12 hown hK hP (DM hg) hS 0 rfl rfl 14 (by decide) (hwd _ wk_318) (fun _ h9 => h9) rfl (by decide +kernel) rfl rfl (Nat.le_of_ble_eq_true rfl) dX12_part_139 (fun H locs hP _ hS => ?_)
                have hP := va_P_eq (pM_14 g c _ _ _ _) hP
                have hI := IM.put hI 14 z8537 rfl (by omega)
                refine lv_aload_n hx hb dX12_part_142 rfl (lv_at hl 1 rfl) ?_
                refine lv_iload hx hb dX12_part_143 (lv_at hl 0 rfl) ?_
                refine lv_bipush (v := 11) hx hb dX12_part_145 (by decide) ?_
                have t8540 : 0 ≤ (v 19).toInt ∧ (v 19).toInt ≤ 500 := hI.1 19 _ _ rfl
                refine va_callv (va_runV (As := [.int (v 14), .int 11]) (rest := []) ⟨hx, hb, hml, hown, hwd⟩ (c_X12_begin l dC dI g c adK adV (va_up v 14 z8537) F8533 rc H.size (v 14) 11 hg hI (by omega) (by have : (11 : Int32).toInt = 11 := (by decide); omega) (by have h9 : (va_up v 14 z8537) 19 = v 19 := rfl; rw [h9]; omega)) (cwV 2 hwd (gV wk_595 wk_592 wk_593 wk_594 wk_5) rfl rfl rfl (by decide +kernel) ⟨Nat.le_of_ble_eq_true rfl, Nat.le_of_ble_eq_true rfl⟩) ⟨PM.blind, va_recv hK hP (ci := 12) (q0 := 0) rfl rfl, fun U hU hW => ⟨rfl, PM.at hK hE hP hS hU hW⟩⟩ rfl rfl hl.1 rfl (lv_room (Nat.le_of_ble_eq_true rfl)) dX12_part_147 ⟨Nat.le_of_ble_eq_true rfl, Nat.le_of_ble_eq_true rfl⟩) hS (fun q _ h => (freeM hS) q h) (freeM hS) (fun u t H1 locs ht hvm hw hB hz1 hk1 hS => ?_)
                unfold BM at hB
                rw [ht] at hB
                obtain ⟨v8542, F8543, rc9⟩ := u
                obtain ⟨hI, hrc, hf8544, hG8545, hw⟩ := hw
                dsimp only at hI hrc hB hf8544 hG8545 hw
                have hF := frCF (by decide) hG8545 hF
                rw [hrc] at hB
                have hP : va_P (dC, dI) classes (wM g c v8542 F8543 rc) H1 := hB
                replace hw : (v8542 19).toInt = (v 19).toInt + 1 ∧ (F8543 13 = upd (F8533 13) (v 14).toNatClampNeg (11 : Int32)) ∧ (∀ j : Int, (j = (v 14).toInt ∨ hasO (v 19) (F8533 15) (F8533 18) j) → hasO (v8542 19) (F8543 15) (F8543 18) j) := hw
                have hw_r8541 := hw
                clear hw
                have t8546 : 0 ≤ (v8542 19).toInt ∧ (v8542 19).toInt ≤ 500 := hI.1 19 _ _ rfl
                have k8547 : (11 : Int32).toInt = 11 := by decide
                clear hz1
                generalize H1 = H at hP hS ⊢
                refine lv_iload hx hb dX12_part_150 (lv_at hl 0 rfl) ?_
                have hP9 : va_P (dC, dI) classes (wM g c v8542 F8543 rc) H := hP
                exact W.iret (v := v 14) hx hb hr (fun t ht hW => ⟨⟨(v 14), (v8542, F8543, rc), rfl, ⟨hI, rfl, (frC (by decide) hf8544 (frU (by decide) (fun _ _ => rfl))), hF, (by have q9 := hw_r8541; rw [show F8533 13 = F 13 from ((sn8535 13 (by decide)).trans ((sn8526 13 (by decide)).trans ((sn8517 13 (by decide)).trans ((sn8511 13 (by decide)).trans (sn8508 13 (by decide)))))), show F8533 15 = F 15 from ((sn8535 15 (by decide)).trans ((sn8526 15 (by decide)).trans ((sn8517 15 (by decide)).trans ((sn8511 15 (by decide)).trans (sn8508 15 (by decide)))))), show F8533 18 = F 18 from ((sn8535 18 (by decide)).trans ((sn8526 18 (by decide)).trans ((sn8517 18 (by decide)).trans ((sn8511 18 (by decide)).trans (sn8508 18 (by decide))))))] at q9; show JO (v8542 14) (v8542 19) (F8543 13) (F8543 15) (F8543 18); rw [show v8542 14 = z8537 from hf8544 14 (by decide)]; exact JO.new hJ (by omega) rfl (by omega) q9.2.2 q9.2.1)⟩, (by show va_P _ _ _ t.heap; rw [ht]; exact hP9)⟩, hS.F ht⟩) hS.2.2 dX12_part_152
              · skip
                have t8548 := cv_eq (a := (v 19).toInt) rfl (b := 500) (by decide) c8503
                refine lv_bipush (v := (-3)) hx hb dX12_part_71 (by decide) ?_
                have hP9 : va_P (dC, dI) classes (wM g c v F rc) H := hP
                exact W.iret (v := (-3)) hx hb hr (fun t ht hW => ⟨⟨(-3), (v, F, rc), rfl, ⟨hI, rfl, (fun _ _ => rfl), hF, hJ⟩, (by show va_P _ _ _ t.heap; rw [ht]; exact hP9)⟩, hS.F ht⟩) hS.2.2 dX12_part_73
          · skip
            have t8549 := cv_eq (a := r8493.toInt) rfl (b := 0) (by decide) c8496
            refine lv_iconst (v := (-1)) hx hb dX12_part_50 (by decide) ?_
            have hP9 : va_P (dC, dI) classes (wM g c v F rc) H := hP
            exact W.iret (v := (-1)) hx hb hr (fun t ht hW => ⟨⟨(-1), (v, F, rc), rfl, ⟨hI, rfl, (fun _ _ => rfl), hF, hJ⟩, (by show va_P _ _ _ t.heap; rw [ht]; exact hP9)⟩, hS.F ht⟩) hS.2.2 dX12_part_51
set_option maxHeartbeats 8000000 in
set_option maxRecDepth 100000 in
theorem c_X12_move (l : Launch) (dC : Nat → ClassId) (dI : Nat → Nat → Nat) (g : Nat → Nat) (c : Nat → ClassId) (adK adV : Nat → Nat) (v : Nat → Int32) (F : Nat → Nat → Int32) (rc sz : Nat) (p0 : Int32) (p1 : Int32) (hg : injM g) (hI : IM v F) (hJ : JO (v 14) (v 19) (F 13) (F 15) (F 18)) : Met l yX12_move (Cond.code yX12_move cX12_move 3 (some .int) :: wA) ({ frames := 3, cells := 0, slots := 0, locals := 120 }) (va_Pc [.ref (g 0), .int p0, .int p1] (PM dC dI g c adK adV v F rc sz)) (va_Qi (fun (r : Int32) (u : StM) => IM u.1 u.2.1 ∧ u.2.2 = rc ∧ (∀ k, k ∉ ([19] : List Nat) → u.1 k = v k) ∧ (∀ k, k ∉ ([13, 15, 16, 17, 18, 19, 20, 21, 22, 23] : List Nat) → u.2.1 k = F k) ∧ JO (u.1 14) (u.1 19) (u.2.1 13) (u.2.1 15) (u.2.1 18)) (BM dC dI g c) (AM g sz)) 0 0 (AM g sz) := by
  refine Met.ofW (cc := cX12_move) (maxL := 3) (ret := (some .int)) (by decide) rfl ?_
  intro p e s m args below meth c0 s₁ B hml hv
  obtain ⟨rfl, hsz, hP, hK, hE⟩ := hv
  have hx := B.exec
  have hb := B.bytes
  have hr := B.returns
  have hts := atoms_spec (ws := Cond.code yX12_move cX12_move 3 (some .int) :: wA) B.pre
  have hwd : ∀ w ∈ wA, w.before _ s = true := fun w h => hts w (List.mem_cons_of_mem _ h)
  have hown : s.vm.findClass RX12 = some m.cls := findClass_of_methodNamed B.named
  have hlocks := B.notSynchronized
  subst hsz
  have hl := lv_entry ([.ref (g 0), .int p0, .int p1]) (n := 3) (Nat.le_of_ble_eq_true rfl)
  rw [lg_entry_eq]
  generalize (lg_sl ([.ref (g 0), .int p0, .int p1]) ++ List.replicate (3 - (lg_sl ([.ref (g 0), .int p0, .int p1])).length) Slot.unset).toArray = ls at hl ⊢
  have hl : lv_has ls 3 [(0, .ref (g 0)), (1, .int p0), (2, .int p1)] := hl
  obtain ⟨H, eH⟩ : ∃ z, z = s.heap := ⟨_, rfl⟩
  have hP : va_P (dC, dI) classes (wM g c v F rc) H := by rw [eH]; exact hP
  have hS : va_S (AM g s.heap.size) s.heap H [] := by rw [eH]; exact va_S.rf
  refine my_heap eH ?_
  have hF : ∀ k, k ∉ ([13, 15, 16, 17, 18, 19, 20, 21, 22, 23] : List Nat) → F k = F k := fun _ _ => rfl
  have rp0 := i32_rng p0
  have rp1 := i32_rng p1
  have hb14 : 0 ≤ (v 14).toInt ∧ (v 14).toInt ≤ 100 := hI.1 14 _ _ rfl
  have hb19 : 0 ≤ (v 19).toInt ∧ (v 19).toInt ≤ 500 := hI.1 19 _ _ rfl
  refine lv_aload_n hx hb dX12_move_0 rfl (lv_at hl 0 rfl) ?_
  refine lv_iload_n hx hb dX12_move_1 rfl (lv_at hl 1 rfl) ?_
  have t8715 : 0 ≤ (v 14).toInt ∧ (v 14).toInt ≤ 100 := hI.1 14 _ _ rfl
  refine va_calli (va_runV (As := [.int p0]) (rest := []) ⟨hx, hb, hml, hown, hwd⟩ (c_X12_isPart l dC dI g c adK adV v F rc H.size p0 hg hI ) (cwV 1 hwd (gV wk_631 wk_628 wk_629 wk_630 wk_5) rfl rfl rfl (by decide +kernel) ⟨Nat.le_of_ble_eq_true rfl, Nat.le_of_ble_eq_true rfl⟩) ⟨PM.blind, va_recv hK hP (ci := 12) (q0 := 0) rfl rfl, fun U hU hW => ⟨rfl, PM.at hK hE hP hS hU hW⟩⟩ rfl rfl hl.1 rfl (lv_room (Nat.le_of_ble_eq_true rfl)) dX12_move_2 ⟨Nat.le_of_ble_eq_true rfl, Nat.le_of_ble_eq_true rfl⟩) hS (fun q _ h => (freeM hS) q h) (freeM hS) (fun r8716 u t H1 locs ht hvm hw hB hz1 hk1 hS => ?_)
  unfold BM at hB
  rw [ht] at hB
  have hP : va_P (dC, dI) classes (wM g c v F rc) H1 := hB
  replace hw : (r8716.toInt = 1 ∧ 0 ≤ p0.toInt ∧ p0.toInt < (v 14).toInt) ∨ (r8716.toInt = 0 ∧ (p0.toInt < 0 ∨ (v 14).toInt ≤ p0.toInt)) := hw
  have hw_r8716 := hw
  clear hw
  clear hz1
  generalize H1 = H at hP hS ⊢
  refine lv_if_eq (tgt := 32) hx hb dX12_move_5 (by decide) (fun c8717 => ?_) (fun c8717 => ?_)
  · skip
    have t8718 := cv_eq (a := r8716.toInt) rfl (b := 0) (by decide) c8717
    refine lv_iconst (v := (-1)) hx hb dX12_move_32 (by decide) ?_
    have hP9 : va_P (dC, dI) classes (wM g c v F rc) H := hP
    exact W.iret (v := (-1)) hx hb hr (fun t ht hW => ⟨⟨(-1), (v, F, rc), rfl, ⟨hI, rfl, (fun _ _ => rfl), hF, hJ⟩, (by show va_P _ _ _ t.heap; rw [ht]; exact hP9)⟩, hS.F ht⟩) hS.2.2 dX12_move_33
  · skip
    have t8719 := cv_ne (a := r8716.toInt) rfl (b := 0) (by decide) c8717
    refine lv_iload_n hx hb dX12_move_8 rfl (lv_at hl 2 rfl) ?_
    refine lv_iconst (v := 0) hx hb dX12_move_9 (by decide) ?_
    refine lv_bipush (v := 11) hx hb dX12_move_10 (by decide) ?_
    refine va_calli (va_runS (As := [.int p1, .int 0, .int 11]) (rest := []) ⟨hx, hb, hml, hown, hwd⟩ (c_X12_in l dC dI g c adK adV v F rc H.size p1 0 11 hg hI ) (va_cwS 3 hwd (gT wk_254 wk_252 wk_253 wk_5) rfl rfl rfl (by decide +kernel) ⟨Nat.le_of_ble_eq_true rfl, Nat.le_of_ble_eq_true rfl⟩) ⟨PM.blind, fun U hU hW => ⟨rfl, PM.at hK hE hP hS hU hW⟩⟩ rfl rfl hl.1 rfl (lv_room (Nat.le_of_ble_eq_true rfl)) dX12_move_12 ⟨Nat.le_of_ble_eq_true rfl, Nat.le_of_ble_eq_true rfl⟩) hS (fun q _ h => (freeM hS) q h) (freeM hS) (fun r8720 u t H1 locs ht hvm hw hB hz1 hk1 hS => ?_)
    unfold BM at hB
    rw [ht] at hB
    have hP : va_P (dC, dI) classes (wM g c v F rc) H1 := hB
    have hw_r8720 : (r8720.toInt = 1 ∧ (0 : Int32).toInt ≤ p1.toInt ∧ p1.toInt ≤ (11 : Int32).toInt) ∨ (r8720.toInt = 0 ∧ (p1.toInt < (0 : Int32).toInt ∨ (11 : Int32).toInt < p1.toInt)) := hw
    clear hw
    have k8721 : (0 : Int32).toInt = 0 := by decide
    have k8722 : (11 : Int32).toInt = 11 := by decide
    clear hz1
    generalize H1 = H at hP hS ⊢
    refine lv_if_eq (tgt := 32) hx hb dX12_move_15 (by decide) (fun c8723 => ?_) (fun c8723 => ?_)
    · skip
      have t8724 := cv_eq (a := r8720.toInt) rfl (b := 0) (by decide) c8723
      refine lv_iconst (v := (-1)) hx hb dX12_move_32 (by decide) ?_
      have hP9 : va_P (dC, dI) classes (wM g c v F rc) H := hP
      exact W.iret (v := (-1)) hx hb hr (fun t ht hW => ⟨⟨(-1), (v, F, rc), rfl, ⟨hI, rfl, (fun _ _ => rfl), hF, hJ⟩, (by show va_P _ _ _ t.heap; rw [ht]; exact hP9)⟩, hS.F ht⟩) hS.2.2 dX12_move_33
    · skip
      have t8725 := cv_ne (a := r8720.toInt) rfl (b := 0) (by decide) c8723
      refine lv_iload_n hx hb dX12_move_18 rfl (lv_at hl 2 rfl) ?_
      refine lv_bipush (v := 10) hx hb dX12_move_19 (by decide) ?_
      refine lv_icmp_ge (tgt := 34) hx hb dX12_move_21 (by decide) (fun c8726 => ?_) (fun c8726 => ?_)
      · skip
        have t8727 := cv_le (a := 10) (by decide) (b := p1.toInt) rfl c8726
        refine lv_aload_n hx hb dX12_move_34 rfl (lv_at hl 0 rfl) ?_
        refine va_get (D := (dC, dI)) (ci := 12) (v := .ref (g 13)) (C := RX12) (T := TX12) (N := 63) hx hb hwd inA_X12 hown hK hP 0 rfl rfl 17 (by decide) (hwd _ wk_194) (fun _ h9 => h9) rfl dX12_move_35 ?_
        refine lv_iload_n hx hb dX12_move_38 rfl (lv_at hl 1 rfl) ?_
        refine va_iald hx hb hK hP 13 12 rfl rfl (i := p0) (vin (a := p0.toInt) rfl (by omega)) dX12_move_39 ?_
        refine lv_topi (fun z8728 e8729 => ?_)
        have t8730 : 0 ≤ z8728.toInt ∧ z8728.toInt ≤ 12 := by rw [e8729]; exact hI.2 13 _ _ rfl _
        have tzz8728 : z8728.toInt = (F 13 (p0 : Int32).toNatClampNeg).toInt := congrArg Int32.toInt e8729
        refine lv_iload_n hx hb dX12_move_40 rfl (lv_at hl 2 rfl) ?_
        refine lv_icmp_eq (tgt := 55) hx hb dX12_move_41 (by decide) (fun c8731 => ?_) (fun c8731 => ?_)
        · skip
          have t8732 := cv_eq (a := z8728.toInt) rfl (b := p1.toInt) rfl c8731
          refine lv_bipush (v := (-2)) hx hb dX12_move_55 (by decide) ?_
          have hP9 : va_P (dC, dI) classes (wM g c v F rc) H := hP
          exact W.iret (v := (-2)) hx hb hr (fun t ht hW => ⟨⟨(-2), (v, F, rc), rfl, ⟨hI, rfl, (fun _ _ => rfl), hF, hJ⟩, (by show va_P _ _ _ t.heap; rw [ht]; exact hP9)⟩, hS.F ht⟩) hS.2.2 dX12_move_57
        · skip
          have t8733 := cv_ne (a := z8728.toInt) rfl (b := p1.toInt) rfl c8731
          refine lv_aload_n hx hb dX12_move_44 rfl (lv_at hl 0 rfl) ?_
          refine va_get (D := (dC, dI)) (ci := 12) (v := .ref (g 13)) (C := RX12) (T := TX12) (N := 63) hx hb hwd inA_X12 hown hK hP 0 rfl rfl 17 (by decide) (hwd _ wk_194) (fun _ h9 => h9) rfl dX12_move_45 ?_
          refine lv_iload_n hx hb dX12_move_48 rfl (lv_at hl 1 rfl) ?_
          refine va_iald hx hb hK hP 13 12 rfl rfl (i := p0) (vin (a := p0.toInt) rfl (by omega)) dX12_move_49 ?_
          refine lv_topi (fun z8734 e8735 => ?_)
          have t8736 : 0 ≤ z8734.toInt ∧ z8734.toInt ≤ 12 := by rw [e8735]; exact hI.2 13 _ _ rfl _
          have tzz8734 : z8734.toInt = (F 13 (p0 : Int32).toNatClampNeg).toInt := congrArg Int32.toInt e8735
          refine lv_bipush (v := 12) hx hb dX12_move_50 (by decide) ?_
          refine lv_icmp_ne (tgt := 58) hx hb dX12_move_52 (by decide) (fun c8737 => ?_) (fun c8737 => ?_)
          · skip
            have t8738 := cv_ne (a := z8734.toInt) rfl (b := 12) (by decide) c8737
            refine lv_iload_n hx hb dX12_move_58 rfl (lv_at hl 2 rfl) ?_
            refine lv_bipush (v := 10) hx hb dX12_move_59 (by decide) ?_
            refine lv_icmp_ge (tgt := 105) hx hb dX12_move_61 (by decide) (fun c8739 => ?_) (fun c8739 => ?_)
            · skip
              have t8740 := cv_le (a := 10) (by decide) (b := p1.toInt) rfl c8739
              refine lv_aload_n hx hb dX12_move_105 rfl (lv_at hl 0 rfl) ?_
              refine va_get (D := (dC, dI)) (ci := 12) (v := .int (v 19)) (C := RX12) (T := TX12) (N := 63) hx hb hwd inA_X12 hown hK hP 0 rfl rfl 19 (by decide) (hwd _ wk_494) (fun _ h9 => h9) rfl dX12_move_106 ?_
              have t8741 : 0 ≤ (v 19).toInt ∧ (v 19).toInt ≤ 500 := hI.1 19 _ _ rfl
              refine lv_sipush (v := 500) hx hb dX12_move_109 (by decide) ?_
              refine lv_icmp_ne (tgt := 118) hx hb dX12_move_112 (by decide) (fun c8742 => ?_) (fun c8742 => ?_)
              · skip
                have t8743 := cv_ne (a := (v 19).toInt) rfl (b := 500) (by decide) c8742
                refine lv_aload_n hx hb dX12_move_118 rfl (lv_at hl 0 rfl) ?_
                refine lv_iload_n hx hb dX12_move_119 rfl (lv_at hl 1 rfl) ?_
                have t8744 : 0 ≤ (v 19).toInt ∧ (v 19).toInt ≤ 500 := hI.1 19 _ _ rfl
                refine va_callv (va_runV (As := [.int p0]) (rest := []) ⟨hx, hb, hml, hown, hwd⟩ (c_X12_endStay l dC dI g c adK adV v F rc H.size p0 hg hI (by omega) (JO.at' hJ (i := p0) (by omega) (by omega) (by omega))) (cwV 1 hwd (gV wk_635 wk_632 wk_633 wk_634 wk_5) rfl rfl rfl (by decide +kernel) ⟨Nat.le_of_ble_eq_true rfl, Nat.le_of_ble_eq_true rfl⟩) ⟨PM.blind, va_recv hK hP (ci := 12) (q0 := 0) rfl rfl, fun U hU hW => ⟨rfl, PM.at hK hE hP hS hU hW⟩⟩ rfl rfl hl.1 rfl (lv_room (Nat.le_of_ble_eq_true rfl)) dX12_move_120 ⟨Nat.le_of_ble_eq_true rfl, Nat.le_of_ble_eq_true rfl⟩) hS (fun q _ h => (freeM hS) q h) (freeM hS) (fun u t H1 locs ht hvm hw hB hz1 hk1 hS => ?_)
                unfold BM at hB
                rw [ht] at hB
                obtain ⟨v8746, F8747, rc9⟩ := u
                obtain ⟨hI, hrc, hf8748, hG8749, hw⟩ := hw
                dsimp only at hI hrc hB hf8748 hG8749 hw
                have hF := frCF (by decide) hG8749 hF
                rw [hrc] at hB
                have hP : va_P (dC, dI) classes (wM g c v8746 F8747 rc) H1 := hB
                replace hw : ∀ j : Int, j ≠ p0.toInt → hasO (v 19) (F 15) (F 18) j → hasO (v8746 19) (F8747 15) (F8747 18) j := hw
                rw [show v8746 19 = v 19 from hf8748 19 (by decide)] at hw
                have hw_r8745 := hw
                clear hw
                have t8750 : 0 ≤ (v 19).toInt ∧ (v 19).toInt ≤ 500 := by have h9 := hI.1 19 _ _ rfl; rw [show v8746 19 = v 19 from hf8748 19 (by decide)] at h9; exact h9
                clear hz1
                generalize H1 = H at hP hS ⊢
                refine lv_aload_n hx hb dX12_move_123 rfl (lv_at hl 0 rfl) ?_
                refine lv_iload_n hx hb dX12_move_124 rfl (lv_at hl 1 rfl) ?_
                refine lv_iload_n hx hb dX12_move_125 rfl (lv_at hl 2 rfl) ?_
                have t8751 : 0 ≤ (v 19).toInt ∧ (v 19).toInt ≤ 500 := by have h9 := hI.1 19 _ _ rfl; rw [show v8746 19 = v 19 from hf8748 19 (by decide)] at h9; exact h9
                refine va_callv (va_runV (As := [.int p0, .int p1]) (rest := []) ⟨hx, hb, hml, hown, hwd⟩ (c_X12_begin l dC dI g c adK adV v8746 F8747 rc H.size p0 p1 hg hI (by omega) (by omega) (by have h9 : v8746 19 = v 19 := hf8748 19 (by decide); rw [h9]; omega)) (cwV 2 hwd (gV wk_595 wk_592 wk_593 wk_594 wk_5) rfl rfl rfl (by decide +kernel) ⟨Nat.le_of_ble_eq_true rfl, Nat.le_of_ble_eq_true rfl⟩) ⟨PM.blind, va_recv hK hP (ci := 12) (q0 := 0) rfl rfl, fun U hU hW => ⟨rfl, PM.at hK hE hP hS hU hW⟩⟩ rfl rfl hl.1 rfl (lv_room (Nat.le_of_ble_eq_true rfl)) dX12_move_126 ⟨Nat.le_of_ble_eq_true rfl, Nat.le_of_ble_eq_true rfl⟩) hS (fun q _ h => (freeM hS) q h) (freeM hS) (fun u t H1 locs ht hvm hw hB hz1 hk1 hS => ?_)
                unfold BM at hB
                rw [ht] at hB
                obtain ⟨v8753, F8754, rc9⟩ := u
                obtain ⟨hI, hrc, hf8755, hG8756, hw⟩ := hw
                dsimp only at hI hrc hB hf8755 hG8756 hw
                have hF := frCF (by decide) hG8756 hF
                rw [hrc] at hB
                have hP : va_P (dC, dI) classes (wM g c v8753 F8754 rc) H1 := hB
                replace hw : (v8753 19).toInt = (v8746 19).toInt + 1 ∧ (F8754 13 = upd (F8747 13) p0.toNatClampNeg p1) ∧ (∀ j : Int, (j = p0.toInt ∨ hasO (v8746 19) (F8747 15) (F8747 18) j) → hasO (v8753 19) (F8754 15) (F8754 18) j) := hw
                rw [show v8746 19 = v 19 from hf8748 19 (by decide)] at hw
                have hw_r8752 := hw
                clear hw
                have t8757 : 0 ≤ (v8753 19).toInt ∧ (v8753 19).toInt ≤ 500 := hI.1 19 _ _ rfl
                clear hz1
                generalize H1 = H at hP hS ⊢
                refine lv_iconst (v := 1) hx hb dX12_move_129 (by decide) ?_
                have hP9 : va_P (dC, dI) classes (wM g c v8753 F8754 rc) H := hP
                exact W.iret (v := 1) hx hb hr (fun t ht hW => ⟨⟨1, (v8753, F8754, rc), rfl, ⟨hI, rfl, (frC (by decide) hf8755 (frC (by decide) hf8748 (fun _ _ => rfl))), hF, (by show JO (v8753 14) (v8753 19) (F8754 13) (F8754 15) (F8754 18); rw [show v8753 14 = v 14 from (hf8755 14 (by decide)).trans (hf8748 14 (by decide))]; exact JO.go hJ hw_r8745 hw_r8752.2.2 (hw_r8752.2.1.trans (congrArg (fun f => upd f _ _) (hG8749 13 (by decide)))) (by omega))⟩, (by show va_P _ _ _ t.heap; rw [ht]; exact hP9)⟩, hS.F ht⟩) hS.2.2 dX12_move_130
              · skip
                have t8758 := cv_eq (a := (v 19).toInt) rfl (b := 500) (by decide) c8742
                refine lv_bipush (v := (-3)) hx hb dX12_move_115 (by decide) ?_
                have hP9 : va_P (dC, dI) classes (wM g c v F rc) H := hP
                exact W.iret (v := (-3)) hx hb hr (fun t ht hW => ⟨⟨(-3), (v, F, rc), rfl, ⟨hI, rfl, (fun _ _ => rfl), hF, hJ⟩, (by show va_P _ _ _ t.heap; rw [ht]; exact hP9)⟩, hS.F ht⟩) hS.2.2 dX12_move_117
            · skip
              have t8759 := cv_nle (a := 10) (by decide) (b := p1.toInt) rfl c8739
              refine lv_aload_n hx hb dX12_move_64 rfl (lv_at hl 0 rfl) ?_
              refine lv_iload_n hx hb dX12_move_65 rfl (lv_at hl 2 rfl) ?_
              refine va_calli (va_runV (As := [.int p1]) (rest := []) ⟨hx, hb, hml, hown, hwd⟩ (c_X12_isReturned l dC dI g c adK adV v F rc H.size p1 hg hI (by omega)) (cwV 1 hwd (gV wk_313 wk_310 wk_311 wk_312 wk_5) rfl rfl rfl (by decide +kernel) ⟨Nat.le_of_ble_eq_true rfl, Nat.le_of_ble_eq_true rfl⟩) ⟨PM.blind, va_recv hK hP (ci := 12) (q0 := 0) rfl rfl, fun U hU hW => ⟨rfl, PM.at hK hE hP hS hU hW⟩⟩ rfl rfl hl.1 rfl (lv_room (Nat.le_of_ble_eq_true rfl)) dX12_move_66 ⟨Nat.le_of_ble_eq_true rfl, Nat.le_of_ble_eq_true rfl⟩) hS (fun q _ h => (freeM hS) q h) (freeM hS) (fun r8760 u t H1 locs ht hvm hw hB hz1 hk1 hS => ?_)
              unfold BM at hB
              rw [ht] at hB
              have hP : va_P (dC, dI) classes (wM g c v F rc) H1 := hB
              have hw_r8760 : 0 ≤ r8760.toInt ∧ r8760.toInt ≤ 1 := hw
              clear hw
              clear hz1
              generalize H1 = H at hP hS ⊢
              refine lv_if_ne (tgt := 102) hx hb dX12_move_69 (by decide) (fun c8761 => ?_) (fun c8761 => ?_)
              · skip
                have t8762 := cv_ne (a := r8760.toInt) rfl (b := 0) (by decide) c8761
                refine lv_bipush (v := (-2)) hx hb dX12_move_102 (by decide) ?_
                have hP9 : va_P (dC, dI) classes (wM g c v F rc) H := hP
                exact W.iret (v := (-2)) hx hb hr (fun t ht hW => ⟨⟨(-2), (v, F, rc), rfl, ⟨hI, rfl, (fun _ _ => rfl), hF, hJ⟩, (by show va_P _ _ _ t.heap; rw [ht]; exact hP9)⟩, hS.F ht⟩) hS.2.2 dX12_move_104
              · skip
                have t8763 := cv_eq (a := r8760.toInt) rfl (b := 0) (by decide) c8761
                refine lv_aload_n hx hb dX12_move_72 rfl (lv_at hl 0 rfl) ?_
                refine lv_iload_n hx hb dX12_move_73 rfl (lv_at hl 2 rfl) ?_
                refine lv_aload_n hx hb dX12_move_74 rfl (lv_at hl 0 rfl) ?_
                refine va_get (D := (dC, dI)) (ci := 12) (v := .ref (g 11)) (C := RX12) (T := TX12) (N := 63) hx hb hwd inA_X12 hown hK hP 0 rfl rfl 15 (by decide) (hwd _ wk_192) (fun _ h9 => h9) rfl dX12_move_75 ?_
                refine lv_iload_n hx hb dX12_move_78 rfl (lv_at hl 1 rfl) ?_
                refine va_iald hx hb hK hP 11 10 rfl rfl (i := p0) (vin (a := p0.toInt) rfl (by omega)) dX12_move_79 ?_
                refine lv_topi (fun z8764 e8765 => ?_)
                have t8766 : 0 ≤ z8764.toInt ∧ z8764.toInt ≤ 9 := by rw [e8765]; exact hI.2 11 _ _ rfl _
                have tzz8764 : z8764.toInt = (F 11 (p0 : Int32).toNatClampNeg).toInt := congrArg Int32.toInt e8765
                refine va_calli (va_runV (As := [.int p1, .int z8764]) (rest := []) ⟨hx, hb, hml, hown, hwd⟩ (c_X12_onIt l dC dI g c adK adV v F rc H.size p1 z8764 hg hI ) (cwV 2 hwd (gV wk_317 wk_314 wk_315 wk_316 wk_5) rfl rfl rfl (by decide +kernel) ⟨Nat.le_of_ble_eq_true rfl, Nat.le_of_ble_eq_true rfl⟩) ⟨PM.blind, va_recv hK hP (ci := 12) (q0 := 0) rfl rfl, fun U hU hW => ⟨rfl, PM.at hK hE hP hS hU hW⟩⟩ rfl rfl hl.1 rfl (lv_room (Nat.le_of_ble_eq_true rfl)) dX12_move_80 ⟨Nat.le_of_ble_eq_true rfl, Nat.le_of_ble_eq_true rfl⟩) hS (fun q _ h => (freeM hS) q h) (freeM hS) (fun r8767 u t H1 locs ht hvm hw hB hz1 hk1 hS => ?_)
                unfold BM at hB
                rw [ht] at hB
                have hP : va_P (dC, dI) classes (wM g c v F rc) H1 := hB
                clear hz1
                generalize H1 = H at hP hS ⊢
                have rr_r8767 := i32_rng r8767
                refine lv_aload_n hx hb dX12_move_83 rfl (lv_at hl 0 rfl) ?_
                refine va_get (D := (dC, dI)) (ci := 12) (v := .ref (g 9)) (C := RX12) (T := TX12) (N := 63) hx hb hwd inA_X12 hown hK hP 0 rfl rfl 12 (by decide) (hwd _ wk_190) (fun _ h9 => h9) rfl dX12_move_84 ?_
                refine lv_bipush (v := 10) hx hb dX12_move_87 (by decide) ?_
                refine lv_iload_n hx hb dX12_move_89 rfl (lv_at hl 2 rfl) ?_
                refine lv_imul hx hb dX12_move_90 ?_
                refine lv_topi (fun z8768 e8769 => ?_)
                try (have t8770 := tmul e8769 (a := 10) (by decide) (b := p1.toInt) rfl (by omega))
                refine lv_aload_n hx hb dX12_move_91 rfl (lv_at hl 0 rfl) ?_
                refine va_get (D := (dC, dI)) (ci := 12) (v := .ref (g 11)) (C := RX12) (T := TX12) (N := 63) hx hb hwd inA_X12 hown hK hP 0 rfl rfl 15 (by decide) (hwd _ wk_192) (fun _ h9 => h9) rfl dX12_move_92 ?_
                refine lv_iload_n hx hb dX12_move_95 rfl (lv_at hl 1 rfl) ?_
                refine va_iald hx hb hK hP 11 10 rfl rfl (i := p0) (vin (a := p0.toInt) rfl (by omega)) dX12_move_96 ?_
                refine lv_topi (fun z8771 e8772 => ?_)
                have t8773 : 0 ≤ z8771.toInt ∧ z8771.toInt ≤ 9 := by rw [e8772]; exact hI.2 11 _ _ rfl _
                have tzz8771 : z8771.toInt = (F 11 (p0 : Int32).toNatClampNeg).toInt := congrArg Int32.toInt e8772
                refine lv_iadd hx hb dX12_move_97 ?_
                refine lv_topi (fun z8774 e8775 => ?_)
                try (have t8776 := tadd e8775 (a := z8768.toInt) rfl (b := z8771.toInt) rfl (by omega))
                refine va_iald hx hb hK hP 9 8 rfl rfl (i := z8774) (vin (a := z8774.toInt) rfl (by omega)) dX12_move_98 ?_
                refine lv_topi (fun z8777 e8778 => ?_)
                have tzz8777 : z8777.toInt = (F 9 (z8774 : Int32).toNatClampNeg).toInt := congrArg Int32.toInt e8778
                refine lv_icmp_lt (tgt := 105) hx hb dX12_move_99 (by decide) (fun c8779 => ?_) (fun c8779 => ?_)
                · skip
                  have t8780 := cv_lt (a := r8767.toInt) rfl (b := z8777.toInt) rfl c8779
                  refine lv_aload_n hx hb dX12_move_105 rfl (lv_at hl 0 rfl) ?_
                  refine va_get (D := (dC, dI)) (ci := 12) (v := .int (v 19)) (C := RX12) (T := TX12) (N := 63) hx hb hwd inA_X12 hown hK hP 0 rfl rfl 19 (by decide) (hwd _ wk_494) (fun _ h9 => h9) rfl dX12_move_106 ?_
                  have t8781 : 0 ≤ (v 19).toInt ∧ (v 19).toInt ≤ 500 := hI.1 19 _ _ rfl
                  refine lv_sipush (v := 500) hx hb dX12_move_109 (by decide) ?_
                  refine lv_icmp_ne (tgt := 118) hx hb dX12_move_112 (by decide) (fun c8782 => ?_) (fun c8782 => ?_)
                  · skip
                    have t8783 := cv_ne (a := (v 19).toInt) rfl (b := 500) (by decide) c8782
                    refine lv_aload_n hx hb dX12_move_118 rfl (lv_at hl 0 rfl) ?_
                    refine lv_iload_n hx hb dX12_move_119 rfl (lv_at hl 1 rfl) ?_
                    have t8784 : 0 ≤ (v 19).toInt ∧ (v 19).toInt ≤ 500 := hI.1 19 _ _ rfl
                    refine va_callv (va_runV (As := [.int p0]) (rest := []) ⟨hx, hb, hml, hown, hwd⟩ (c_X12_endStay l dC dI g c adK adV v F rc H.size p0 hg hI (by omega) (JO.at' hJ (i := p0) (by omega) (by omega) (by omega))) (cwV 1 hwd (gV wk_635 wk_632 wk_633 wk_634 wk_5) rfl rfl rfl (by decide +kernel) ⟨Nat.le_of_ble_eq_true rfl, Nat.le_of_ble_eq_true rfl⟩) ⟨PM.blind, va_recv hK hP (ci := 12) (q0 := 0) rfl rfl, fun U hU hW => ⟨rfl, PM.at hK hE hP hS hU hW⟩⟩ rfl rfl hl.1 rfl (lv_room (Nat.le_of_ble_eq_true rfl)) dX12_move_120 ⟨Nat.le_of_ble_eq_true rfl, Nat.le_of_ble_eq_true rfl⟩) hS (fun q _ h => (freeM hS) q h) (freeM hS) (fun u t H1 locs ht hvm hw hB hz1 hk1 hS => ?_)
                    unfold BM at hB
                    rw [ht] at hB
                    obtain ⟨v8786, F8787, rc9⟩ := u
                    obtain ⟨hI, hrc, hf8788, hG8789, hw⟩ := hw
                    dsimp only at hI hrc hB hf8788 hG8789 hw
                    have hF := frCF (by decide) hG8789 hF
                    rw [hrc] at hB
                    have hP : va_P (dC, dI) classes (wM g c v8786 F8787 rc) H1 := hB
                    replace hw : ∀ j : Int, j ≠ p0.toInt → hasO (v 19) (F 15) (F 18) j → hasO (v8786 19) (F8787 15) (F8787 18) j := hw
                    rw [show v8786 19 = v 19 from hf8788 19 (by decide)] at hw
                    have hw_r8785 := hw
                    clear hw
                    have t8790 : 0 ≤ (v 19).toInt ∧ (v 19).toInt ≤ 500 := by have h9 := hI.1 19 _ _ rfl; rw [show v8786 19 = v 19 from hf8788 19 (by decide)] at h9; exact h9
                    clear hz1
                    generalize H1 = H at hP hS ⊢
                    refine lv_aload_n hx hb dX12_move_123 rfl (lv_at hl 0 rfl) ?_
                    refine lv_iload_n hx hb dX12_move_124 rfl (lv_at hl 1 rfl) ?_
                    refine lv_iload_n hx hb dX12_move_125 rfl (lv_at hl 2 rfl) ?_
                    have t8791 : 0 ≤ (v 19).toInt ∧ (v 19).toInt ≤ 500 := by have h9 := hI.1 19 _ _ rfl; rw [show v8786 19 = v 19 from hf8788 19 (by decide)] at h9; exact h9
                    refine va_callv (va_runV (As := [.int p0, .int p1]) (rest := []) ⟨hx, hb, hml, hown, hwd⟩ (c_X12_begin l dC dI g c adK adV v8786 F8787 rc H.size p0 p1 hg hI (by omega) (by omega) (by have h9 : v8786 19 = v 19 := hf8788 19 (by decide); rw [h9]; omega)) (cwV 2 hwd (gV wk_595 wk_592 wk_593 wk_594 wk_5) rfl rfl rfl (by decide +kernel) ⟨Nat.le_of_ble_eq_true rfl, Nat.le_of_ble_eq_true rfl⟩) ⟨PM.blind, va_recv hK hP (ci := 12) (q0 := 0) rfl rfl, fun U hU hW => ⟨rfl, PM.at hK hE hP hS hU hW⟩⟩ rfl rfl hl.1 rfl (lv_room (Nat.le_of_ble_eq_true rfl)) dX12_move_126 ⟨Nat.le_of_ble_eq_true rfl, Nat.le_of_ble_eq_true rfl⟩) hS (fun q _ h => (freeM hS) q h) (freeM hS) (fun u t H1 locs ht hvm hw hB hz1 hk1 hS => ?_)
                    unfold BM at hB
                    rw [ht] at hB
                    obtain ⟨v8793, F8794, rc9⟩ := u
                    obtain ⟨hI, hrc, hf8795, hG8796, hw⟩ := hw
                    dsimp only at hI hrc hB hf8795 hG8796 hw
                    have hF := frCF (by decide) hG8796 hF
                    rw [hrc] at hB
                    have hP : va_P (dC, dI) classes (wM g c v8793 F8794 rc) H1 := hB
                    replace hw : (v8793 19).toInt = (v8786 19).toInt + 1 ∧ (F8794 13 = upd (F8787 13) p0.toNatClampNeg p1) ∧ (∀ j : Int, (j = p0.toInt ∨ hasO (v8786 19) (F8787 15) (F8787 18) j) → hasO (v8793 19) (F8794 15) (F8794 18) j) := hw
                    rw [show v8786 19 = v 19 from hf8788 19 (by decide)] at hw
                    have hw_r8792 := hw
                    clear hw
                    have t8797 : 0 ≤ (v8793 19).toInt ∧ (v8793 19).toInt ≤ 500 := hI.1 19 _ _ rfl
                    clear hz1
                    generalize H1 = H at hP hS ⊢
                    refine lv_iconst (v := 1) hx hb dX12_move_129 (by decide) ?_
                    have hP9 : va_P (dC, dI) classes (wM g c v8793 F8794 rc) H := hP
                    exact W.iret (v := 1) hx hb hr (fun t ht hW => ⟨⟨1, (v8793, F8794, rc), rfl, ⟨hI, rfl, (frC (by decide) hf8795 (frC (by decide) hf8788 (fun _ _ => rfl))), hF, (by show JO (v8793 14) (v8793 19) (F8794 13) (F8794 15) (F8794 18); rw [show v8793 14 = v 14 from (hf8795 14 (by decide)).trans (hf8788 14 (by decide))]; exact JO.go hJ hw_r8785 hw_r8792.2.2 (hw_r8792.2.1.trans (congrArg (fun f => upd f _ _) (hG8789 13 (by decide)))) (by omega))⟩, (by show va_P _ _ _ t.heap; rw [ht]; exact hP9)⟩, hS.F ht⟩) hS.2.2 dX12_move_130
                  · skip
                    have t8798 := cv_eq (a := (v 19).toInt) rfl (b := 500) (by decide) c8782
                    refine lv_bipush (v := (-3)) hx hb dX12_move_115 (by decide) ?_
                    have hP9 : va_P (dC, dI) classes (wM g c v F rc) H := hP
                    exact W.iret (v := (-3)) hx hb hr (fun t ht hW => ⟨⟨(-3), (v, F, rc), rfl, ⟨hI, rfl, (fun _ _ => rfl), hF, hJ⟩, (by show va_P _ _ _ t.heap; rw [ht]; exact hP9)⟩, hS.F ht⟩) hS.2.2 dX12_move_117
                · skip
                  have t8799 := cv_nlt (a := r8767.toInt) rfl (b := z8777.toInt) rfl c8779
                  refine lv_bipush (v := (-2)) hx hb dX12_move_102 (by decide) ?_
                  have hP9 : va_P (dC, dI) classes (wM g c v F rc) H := hP
                  exact W.iret (v := (-2)) hx hb hr (fun t ht hW => ⟨⟨(-2), (v, F, rc), rfl, ⟨hI, rfl, (fun _ _ => rfl), hF, hJ⟩, (by show va_P _ _ _ t.heap; rw [ht]; exact hP9)⟩, hS.F ht⟩) hS.2.2 dX12_move_104
          · skip
            have t8800 := cv_eq (a := z8734.toInt) rfl (b := 12) (by decide) c8737
            refine lv_bipush (v := (-2)) hx hb dX12_move_55 (by decide) ?_
            have hP9 : va_P (dC, dI) classes (wM g c v F rc) H := hP
            exact W.iret (v := (-2)) hx hb hr (fun t ht hW => ⟨⟨(-2), (v, F, rc), rfl, ⟨hI, rfl, (fun _ _ => rfl), hF, hJ⟩, (by show va_P _ _ _ t.heap; rw [ht]; exact hP9)⟩, hS.F ht⟩) hS.2.2 dX12_move_57
      · skip
        have t8801 := cv_nle (a := 10) (by decide) (b := p1.toInt) rfl c8726
        refine lv_aload_n hx hb dX12_move_24 rfl (lv_at hl 0 rfl) ?_
        refine lv_iload_n hx hb dX12_move_25 rfl (lv_at hl 2 rfl) ?_
        have t8802 : 0 ≤ (v 6).toInt ∧ (v 6).toInt ≤ 10 := hI.1 6 _ _ rfl
        refine va_calli (va_runV (As := [.int p1]) (rest := []) ⟨hx, hb, hml, hown, hwd⟩ (c_X12_isPlane l dC dI g c adK adV v F rc H.size p1 hg hI ) (cwV 1 hwd (gV wk_305 wk_302 wk_303 wk_304 wk_5) rfl rfl rfl (by decide +kernel) ⟨Nat.le_of_ble_eq_true rfl, Nat.le_of_ble_eq_true rfl⟩) ⟨PM.blind, va_recv hK hP (ci := 12) (q0 := 0) rfl rfl, fun U hU hW => ⟨rfl, PM.at hK hE hP hS hU hW⟩⟩ rfl rfl hl.1 rfl (lv_room (Nat.le_of_ble_eq_true rfl)) dX12_move_26 ⟨Nat.le_of_ble_eq_true rfl, Nat.le_of_ble_eq_true rfl⟩) hS (fun q _ h => (freeM hS) q h) (freeM hS) (fun r8803 u t H1 locs ht hvm hw hB hz1 hk1 hS => ?_)
        unfold BM at hB
        rw [ht] at hB
        have hP : va_P (dC, dI) classes (wM g c v F rc) H1 := hB
        replace hw : (r8803.toInt = 1 ∧ 0 ≤ p1.toInt ∧ p1.toInt < (v 6).toInt) ∨ (r8803.toInt = 0 ∧ (p1.toInt < 0 ∨ (v 6).toInt ≤ p1.toInt)) := hw
        have hw_r8803 := hw
        clear hw
        clear hz1
        generalize H1 = H at hP hS ⊢
        refine lv_if_ne (tgt := 34) hx hb dX12_move_29 (by decide) (fun c8804 => ?_) (fun c8804 => ?_)
        · skip
          have t8805 := cv_ne (a := r8803.toInt) rfl (b := 0) (by decide) c8804
          refine lv_aload_n hx hb dX12_move_34 rfl (lv_at hl 0 rfl) ?_
          refine va_get (D := (dC, dI)) (ci := 12) (v := .ref (g 13)) (C := RX12) (T := TX12) (N := 63) hx hb hwd inA_X12 hown hK hP 0 rfl rfl 17 (by decide) (hwd _ wk_194) (fun _ h9 => h9) rfl dX12_move_35 ?_
          refine lv_iload_n hx hb dX12_move_38 rfl (lv_at hl 1 rfl) ?_
          refine va_iald hx hb hK hP 13 12 rfl rfl (i := p0) (vin (a := p0.toInt) rfl (by omega)) dX12_move_39 ?_
          refine lv_topi (fun z8806 e8807 => ?_)
          have t8808 : 0 ≤ z8806.toInt ∧ z8806.toInt ≤ 12 := by rw [e8807]; exact hI.2 13 _ _ rfl _
          have tzz8806 : z8806.toInt = (F 13 (p0 : Int32).toNatClampNeg).toInt := congrArg Int32.toInt e8807
          refine lv_iload_n hx hb dX12_move_40 rfl (lv_at hl 2 rfl) ?_
          refine lv_icmp_eq (tgt := 55) hx hb dX12_move_41 (by decide) (fun c8809 => ?_) (fun c8809 => ?_)
          · skip
            have t8810 := cv_eq (a := z8806.toInt) rfl (b := p1.toInt) rfl c8809
            refine lv_bipush (v := (-2)) hx hb dX12_move_55 (by decide) ?_
            have hP9 : va_P (dC, dI) classes (wM g c v F rc) H := hP
            exact W.iret (v := (-2)) hx hb hr (fun t ht hW => ⟨⟨(-2), (v, F, rc), rfl, ⟨hI, rfl, (fun _ _ => rfl), hF, hJ⟩, (by show va_P _ _ _ t.heap; rw [ht]; exact hP9)⟩, hS.F ht⟩) hS.2.2 dX12_move_57
          · skip
            have t8811 := cv_ne (a := z8806.toInt) rfl (b := p1.toInt) rfl c8809
            refine lv_aload_n hx hb dX12_move_44 rfl (lv_at hl 0 rfl) ?_
            refine va_get (D := (dC, dI)) (ci := 12) (v := .ref (g 13)) (C := RX12) (T := TX12) (N := 63) hx hb hwd inA_X12 hown hK hP 0 rfl rfl 17 (by decide) (hwd _ wk_194) (fun _ h9 => h9) rfl dX12_move_45 ?_
            refine lv_iload_n hx hb dX12_move_48 rfl (lv_at hl 1 rfl) ?_
            refine va_iald hx hb hK hP 13 12 rfl rfl (i := p0) (vin (a := p0.toInt) rfl (by omega)) dX12_move_49 ?_
            refine lv_topi (fun z8812 e8813 => ?_)
            have t8814 : 0 ≤ z8812.toInt ∧ z8812.toInt ≤ 12 := by rw [e8813]; exact hI.2 13 _ _ rfl _
            have tzz8812 : z8812.toInt = (F 13 (p0 : Int32).toNatClampNeg).toInt := congrArg Int32.toInt e8813
            refine lv_bipush (v := 12) hx hb dX12_move_50 (by decide) ?_
            refine lv_icmp_ne (tgt := 58) hx hb dX12_move_52 (by decide) (fun c8815 => ?_) (fun c8815 => ?_)
            · skip
              have t8816 := cv_ne (a := z8812.toInt) rfl (b := 12) (by decide) c8815
              refine lv_iload_n hx hb dX12_move_58 rfl (lv_at hl 2 rfl) ?_
              refine lv_bipush (v := 10) hx hb dX12_move_59 (by decide) ?_
              refine lv_icmp_ge (tgt := 105) hx hb dX12_move_61 (by decide) (fun c8817 => ?_) (fun c8817 => ?_)
              · skip
                have t8818 := cv_le (a := 10) (by decide) (b := p1.toInt) rfl c8817
                refine lv_aload_n hx hb dX12_move_105 rfl (lv_at hl 0 rfl) ?_
                refine va_get (D := (dC, dI)) (ci := 12) (v := .int (v 19)) (C := RX12) (T := TX12) (N := 63) hx hb hwd inA_X12 hown hK hP 0 rfl rfl 19 (by decide) (hwd _ wk_494) (fun _ h9 => h9) rfl dX12_move_106 ?_
                have t8819 : 0 ≤ (v 19).toInt ∧ (v 19).toInt ≤ 500 := hI.1 19 _ _ rfl
                refine lv_sipush (v := 500) hx hb dX12_move_109 (by decide) ?_
                refine lv_icmp_ne (tgt := 118) hx hb dX12_move_112 (by decide) (fun c8820 => ?_) (fun c8820 => ?_)
                · skip
                  have t8821 := cv_ne (a := (v 19).toInt) rfl (b := 500) (by decide) c8820
                  refine lv_aload_n hx hb dX12_move_118 rfl (lv_at hl 0 rfl) ?_
                  refine lv_iload_n hx hb dX12_move_119 rfl (lv_at hl 1 rfl) ?_
                  have t8822 : 0 ≤ (v 19).toInt ∧ (v 19).toInt ≤ 500 := hI.1 19 _ _ rfl
                  refine va_callv (va_runV (As := [.int p0]) (rest := []) ⟨hx, hb, hml, hown, hwd⟩ (c_X12_endStay l dC dI g c adK adV v F rc H.size p0 hg hI (by omega) (JO.at' hJ (i := p0) (by omega) (by omega) (by omega))) (cwV 1 hwd (gV wk_635 wk_632 wk_633 wk_634 wk_5) rfl rfl rfl (by decide +kernel) ⟨Nat.le_of_ble_eq_true rfl, Nat.le_of_ble_eq_true rfl⟩) ⟨PM.blind, va_recv hK hP (ci := 12) (q0 := 0) rfl rfl, fun U hU hW => ⟨rfl, PM.at hK hE hP hS hU hW⟩⟩ rfl rfl hl.1 rfl (lv_room (Nat.le_of_ble_eq_true rfl)) dX12_move_120 ⟨Nat.le_of_ble_eq_true rfl, Nat.le_of_ble_eq_true rfl⟩) hS (fun q _ h => (freeM hS) q h) (freeM hS) (fun u t H1 locs ht hvm hw hB hz1 hk1 hS => ?_)
                  unfold BM at hB
                  rw [ht] at hB
                  obtain ⟨v8824, F8825, rc9⟩ := u
                  obtain ⟨hI, hrc, hf8826, hG8827, hw⟩ := hw
                  dsimp only at hI hrc hB hf8826 hG8827 hw
                  have hF := frCF (by decide) hG8827 hF
                  rw [hrc] at hB
                  have hP : va_P (dC, dI) classes (wM g c v8824 F8825 rc) H1 := hB
                  replace hw : ∀ j : Int, j ≠ p0.toInt → hasO (v 19) (F 15) (F 18) j → hasO (v8824 19) (F8825 15) (F8825 18) j := hw
                  rw [show v8824 19 = v 19 from hf8826 19 (by decide)] at hw
                  have hw_r8823 := hw
                  clear hw
                  have t8828 : 0 ≤ (v 19).toInt ∧ (v 19).toInt ≤ 500 := by have h9 := hI.1 19 _ _ rfl; rw [show v8824 19 = v 19 from hf8826 19 (by decide)] at h9; exact h9
                  clear hz1
                  generalize H1 = H at hP hS ⊢
                  refine lv_aload_n hx hb dX12_move_123 rfl (lv_at hl 0 rfl) ?_
                  refine lv_iload_n hx hb dX12_move_124 rfl (lv_at hl 1 rfl) ?_
                  refine lv_iload_n hx hb dX12_move_125 rfl (lv_at hl 2 rfl) ?_
                  have t8829 : 0 ≤ (v 19).toInt ∧ (v 19).toInt ≤ 500 := by have h9 := hI.1 19 _ _ rfl; rw [show v8824 19 = v 19 from hf8826 19 (by decide)] at h9; exact h9
                  refine va_callv (va_runV (As := [.int p0, .int p1]) (rest := []) ⟨hx, hb, hml, hown, hwd⟩ (c_X12_begin l dC dI g c adK adV v8824 F8825 rc H.size p0 p1 hg hI (by omega) (by omega) (by have h9 : v8824 19 = v 19 := hf8826 19 (by decide); rw [h9]; omega)) (cwV 2 hwd (gV wk_595 wk_592 wk_593 wk_594 wk_5) rfl rfl rfl (by decide +kernel) ⟨Nat.le_of_ble_eq_true rfl, Nat.le_of_ble_eq_true rfl⟩) ⟨PM.blind, va_recv hK hP (ci := 12) (q0 := 0) rfl rfl, fun U hU hW => ⟨rfl, PM.at hK hE hP hS hU hW⟩⟩ rfl rfl hl.1 rfl (lv_room (Nat.le_of_ble_eq_true rfl)) dX12_move_126 ⟨Nat.le_of_ble_eq_true rfl, Nat.le_of_ble_eq_true rfl⟩) hS (fun q _ h => (freeM hS) q h) (freeM hS) (fun u t H1 locs ht hvm hw hB hz1 hk1 hS => ?_)
                  unfold BM at hB
                  rw [ht] at hB
                  obtain ⟨v8831, F8832, rc9⟩ := u
                  obtain ⟨hI, hrc, hf8833, hG8834, hw⟩ := hw
                  dsimp only at hI hrc hB hf8833 hG8834 hw
                  have hF := frCF (by decide) hG8834 hF
                  rw [hrc] at hB
                  have hP : va_P (dC, dI) classes (wM g c v8831 F8832 rc) H1 := hB
                  replace hw : (v8831 19).toInt = (v8824 19).toInt + 1 ∧ (F8832 13 = upd (F8825 13) p0.toNatClampNeg p1) ∧ (∀ j : Int, (j = p0.toInt ∨ hasO (v8824 19) (F8825 15) (F8825 18) j) → hasO (v8831 19) (F8832 15) (F8832 18) j) := hw
                  rw [show v8824 19 = v 19 from hf8826 19 (by decide)] at hw
                  have hw_r8830 := hw
                  clear hw
                  have t8835 : 0 ≤ (v8831 19).toInt ∧ (v8831 19).toInt ≤ 500 := hI.1 19 _ _ rfl
                  clear hz1
                  generalize H1 = H at hP hS ⊢
                  refine lv_iconst (v := 1) hx hb dX12_move_129 (by decide) ?_
                  have hP9 : va_P (dC, dI) classes (wM g c v8831 F8832 rc) H := hP
                  exact W.iret (v := 1) hx hb hr (fun t ht hW => ⟨⟨1, (v8831, F8832, rc), rfl, ⟨hI, rfl, (frC (by decide) hf8833 (frC (by decide) hf8826 (fun _ _ => rfl))), hF, (by show JO (v8831 14) (v8831 19) (F8832 13) (F8832 15) (F8832 18); rw [show v8831 14 = v 14 from (hf8833 14 (by decide)).trans (hf8826 14 (by decide))]; exact JO.go hJ hw_r8823 hw_r8830.2.2 (hw_r8830.2.1.trans (congrArg (fun f => upd f _ _) (hG8827 13 (by decide)))) (by omega))⟩, (by show va_P _ _ _ t.heap; rw [ht]; exact hP9)⟩, hS.F ht⟩) hS.2.2 dX12_move_130
                · skip
                  have t8836 := cv_eq (a := (v 19).toInt) rfl (b := 500) (by decide) c8820
                  refine lv_bipush (v := (-3)) hx hb dX12_move_115 (by decide) ?_
                  have hP9 : va_P (dC, dI) classes (wM g c v F rc) H := hP
                  exact W.iret (v := (-3)) hx hb hr (fun t ht hW => ⟨⟨(-3), (v, F, rc), rfl, ⟨hI, rfl, (fun _ _ => rfl), hF, hJ⟩, (by show va_P _ _ _ t.heap; rw [ht]; exact hP9)⟩, hS.F ht⟩) hS.2.2 dX12_move_117
              · skip
                have t8837 := cv_nle (a := 10) (by decide) (b := p1.toInt) rfl c8817
                refine lv_aload_n hx hb dX12_move_64 rfl (lv_at hl 0 rfl) ?_
                refine lv_iload_n hx hb dX12_move_65 rfl (lv_at hl 2 rfl) ?_
                refine va_calli (va_runV (As := [.int p1]) (rest := []) ⟨hx, hb, hml, hown, hwd⟩ (c_X12_isReturned l dC dI g c adK adV v F rc H.size p1 hg hI (by omega)) (cwV 1 hwd (gV wk_313 wk_310 wk_311 wk_312 wk_5) rfl rfl rfl (by decide +kernel) ⟨Nat.le_of_ble_eq_true rfl, Nat.le_of_ble_eq_true rfl⟩) ⟨PM.blind, va_recv hK hP (ci := 12) (q0 := 0) rfl rfl, fun U hU hW => ⟨rfl, PM.at hK hE hP hS hU hW⟩⟩ rfl rfl hl.1 rfl (lv_room (Nat.le_of_ble_eq_true rfl)) dX12_move_66 ⟨Nat.le_of_ble_eq_true rfl, Nat.le_of_ble_eq_true rfl⟩) hS (fun q _ h => (freeM hS) q h) (freeM hS) (fun r8838 u t H1 locs ht hvm hw hB hz1 hk1 hS => ?_)
                unfold BM at hB
                rw [ht] at hB
                have hP : va_P (dC, dI) classes (wM g c v F rc) H1 := hB
                have hw_r8838 : 0 ≤ r8838.toInt ∧ r8838.toInt ≤ 1 := hw
                clear hw
                clear hz1
                generalize H1 = H at hP hS ⊢
                refine lv_if_ne (tgt := 102) hx hb dX12_move_69 (by decide) (fun c8839 => ?_) (fun c8839 => ?_)
                · skip
                  have t8840 := cv_ne (a := r8838.toInt) rfl (b := 0) (by decide) c8839
                  refine lv_bipush (v := (-2)) hx hb dX12_move_102 (by decide) ?_
                  have hP9 : va_P (dC, dI) classes (wM g c v F rc) H := hP
                  exact W.iret (v := (-2)) hx hb hr (fun t ht hW => ⟨⟨(-2), (v, F, rc), rfl, ⟨hI, rfl, (fun _ _ => rfl), hF, hJ⟩, (by show va_P _ _ _ t.heap; rw [ht]; exact hP9)⟩, hS.F ht⟩) hS.2.2 dX12_move_104
                · skip
                  have t8841 := cv_eq (a := r8838.toInt) rfl (b := 0) (by decide) c8839
                  refine lv_aload_n hx hb dX12_move_72 rfl (lv_at hl 0 rfl) ?_
                  refine lv_iload_n hx hb dX12_move_73 rfl (lv_at hl 2 rfl) ?_
                  refine lv_aload_n hx hb dX12_move_74 rfl (lv_at hl 0 rfl) ?_
                  refine va_get (D := (dC, dI)) (ci := 12) (v := .ref (g 11)) (C := RX12) (T := TX12) (N := 63) hx hb hwd inA_X12 hown hK hP 0 rfl rfl 15 (by decide) (hwd _ wk_192) (fun _ h9 => h9) rfl dX12_move_75 ?_
                  refine lv_iload_n hx hb dX12_move_78 rfl (lv_at hl 1 rfl) ?_
                  refine va_iald hx hb hK hP 11 10 rfl rfl (i := p0) (vin (a := p0.toInt) rfl (by omega)) dX12_move_79 ?_
                  refine lv_topi (fun z8842 e8843 => ?_)
                  have t8844 : 0 ≤ z8842.toInt ∧ z8842.toInt ≤ 9 := by rw [e8843]; exact hI.2 11 _ _ rfl _
                  have tzz8842 : z8842.toInt = (F 11 (p0 : Int32).toNatClampNeg).toInt := congrArg Int32.toInt e8843
                  refine va_calli (va_runV (As := [.int p1, .int z8842]) (rest := []) ⟨hx, hb, hml, hown, hwd⟩ (c_X12_onIt l dC dI g c adK adV v F rc H.size p1 z8842 hg hI ) (cwV 2 hwd (gV wk_317 wk_314 wk_315 wk_316 wk_5) rfl rfl rfl (by decide +kernel) ⟨Nat.le_of_ble_eq_true rfl, Nat.le_of_ble_eq_true rfl⟩) ⟨PM.blind, va_recv hK hP (ci := 12) (q0 := 0) rfl rfl, fun U hU hW => ⟨rfl, PM.at hK hE hP hS hU hW⟩⟩ rfl rfl hl.1 rfl (lv_room (Nat.le_of_ble_eq_true rfl)) dX12_move_80 ⟨Nat.le_of_ble_eq_true rfl, Nat.le_of_ble_eq_true rfl⟩) hS (fun q _ h => (freeM hS) q h) (freeM hS) (fun r8845 u t H1 locs ht hvm hw hB hz1 hk1 hS => ?_)
                  unfold BM at hB
                  rw [ht] at hB
                  have hP : va_P (dC, dI) classes (wM g c v F rc) H1 := hB
                  clear hz1
                  generalize H1 = H at hP hS ⊢
                  have rr_r8845 := i32_rng r8845
                  refine lv_aload_n hx hb dX12_move_83 rfl (lv_at hl 0 rfl) ?_
                  refine va_get (D := (dC, dI)) (ci := 12) (v := .ref (g 9)) (C := RX12) (T := TX12) (N := 63) hx hb hwd inA_X12 hown hK hP 0 rfl rfl 12 (by decide) (hwd _ wk_190) (fun _ h9 => h9) rfl dX12_move_84 ?_
                  refine lv_bipush (v := 10) hx hb dX12_move_87 (by decide) ?_
                  refine lv_iload_n hx hb dX12_move_89 rfl (lv_at hl 2 rfl) ?_
                  refine lv_imul hx hb dX12_move_90 ?_
                  refine lv_topi (fun z8846 e8847 => ?_)
                  try (have t8848 := tmul e8847 (a := 10) (by decide) (b := p1.toInt) rfl (by omega))
                  refine lv_aload_n hx hb dX12_move_91 rfl (lv_at hl 0 rfl) ?_
                  refine va_get (D := (dC, dI)) (ci := 12) (v := .ref (g 11)) (C := RX12) (T := TX12) (N := 63) hx hb hwd inA_X12 hown hK hP 0 rfl rfl 15 (by decide) (hwd _ wk_192) (fun _ h9 => h9) rfl dX12_move_92 ?_
                  refine lv_iload_n hx hb dX12_move_95 rfl (lv_at hl 1 rfl) ?_
                  refine va_iald hx hb hK hP 11 10 rfl rfl (i := p0) (vin (a := p0.toInt) rfl (by omega)) dX12_move_96 ?_
                  refine lv_topi (fun z8849 e8850 => ?_)
                  have t8851 : 0 ≤ z8849.toInt ∧ z8849.toInt ≤ 9 := by rw [e8850]; exact hI.2 11 _ _ rfl _
                  have tzz8849 : z8849.toInt = (F 11 (p0 : Int32).toNatClampNeg).toInt := congrArg Int32.toInt e8850
                  refine lv_iadd hx hb dX12_move_97 ?_
                  refine lv_topi (fun z8852 e8853 => ?_)
                  try (have t8854 := tadd e8853 (a := z8846.toInt) rfl (b := z8849.toInt) rfl (by omega))
                  refine va_iald hx hb hK hP 9 8 rfl rfl (i := z8852) (vin (a := z8852.toInt) rfl (by omega)) dX12_move_98 ?_
                  refine lv_topi (fun z8855 e8856 => ?_)
                  have tzz8855 : z8855.toInt = (F 9 (z8852 : Int32).toNatClampNeg).toInt := congrArg Int32.toInt e8856
                  refine lv_icmp_lt (tgt := 105) hx hb dX12_move_99 (by decide) (fun c8857 => ?_) (fun c8857 => ?_)
                  · skip
                    have t8858 := cv_lt (a := r8845.toInt) rfl (b := z8855.toInt) rfl c8857
                    refine lv_aload_n hx hb dX12_move_105 rfl (lv_at hl 0 rfl) ?_
                    refine va_get (D := (dC, dI)) (ci := 12) (v := .int (v 19)) (C := RX12) (T := TX12) (N := 63) hx hb hwd inA_X12 hown hK hP 0 rfl rfl 19 (by decide) (hwd _ wk_494) (fun _ h9 => h9) rfl dX12_move_106 ?_
                    have t8859 : 0 ≤ (v 19).toInt ∧ (v 19).toInt ≤ 500 := hI.1 19 _ _ rfl
                    refine lv_sipush (v := 500) hx hb dX12_move_109 (by decide) ?_
                    refine lv_icmp_ne (tgt := 118) hx hb dX12_move_112 (by decide) (fun c8860 => ?_) (fun c8860 => ?_)
                    · skip
                      have t8861 := cv_ne (a := (v 19).toInt) rfl (b := 500) (by decide) c8860
                      refine lv_aload_n hx hb dX12_move_118 rfl (lv_at hl 0 rfl) ?_
                      refine lv_iload_n hx hb dX12_move_119 rfl (lv_at hl 1 rfl) ?_
                      have t8862 : 0 ≤ (v 19).toInt ∧ (v 19).toInt ≤ 500 := hI.1 19 _ _ rfl
                      refine va_callv (va_runV (As := [.int p0]) (rest := []) ⟨hx, hb, hml, hown, hwd⟩ (c_X12_endStay l dC dI g c adK adV v F rc H.size p0 hg hI (by omega) (JO.at' hJ (i := p0) (by omega) (by omega) (by omega))) (cwV 1 hwd (gV wk_635 wk_632 wk_633 wk_634 wk_5) rfl rfl rfl (by decide +kernel) ⟨Nat.le_of_ble_eq_true rfl, Nat.le_of_ble_eq_true rfl⟩) ⟨PM.blind, va_recv hK hP (ci := 12) (q0 := 0) rfl rfl, fun U hU hW => ⟨rfl, PM.at hK hE hP hS hU hW⟩⟩ rfl rfl hl.1 rfl (lv_room (Nat.le_of_ble_eq_true rfl)) dX12_move_120 ⟨Nat.le_of_ble_eq_true rfl, Nat.le_of_ble_eq_true rfl⟩) hS (fun q _ h => (freeM hS) q h) (freeM hS) (fun u t H1 locs ht hvm hw hB hz1 hk1 hS => ?_)
                      unfold BM at hB
                      rw [ht] at hB
                      obtain ⟨v8864, F8865, rc9⟩ := u
                      obtain ⟨hI, hrc, hf8866, hG8867, hw⟩ := hw
                      dsimp only at hI hrc hB hf8866 hG8867 hw
                      have hF := frCF (by decide) hG8867 hF
                      rw [hrc] at hB
                      have hP : va_P (dC, dI) classes (wM g c v8864 F8865 rc) H1 := hB
                      replace hw : ∀ j : Int, j ≠ p0.toInt → hasO (v 19) (F 15) (F 18) j → hasO (v8864 19) (F8865 15) (F8865 18) j := hw
                      rw [show v8864 19 = v 19 from hf8866 19 (by decide)] at hw
                      have hw_r8863 := hw
                      clear hw
                      have t8868 : 0 ≤ (v 19).toInt ∧ (v 19).toInt ≤ 500 := by have h9 := hI.1 19 _ _ rfl; rw [show v8864 19 = v 19 from hf8866 19 (by decide)] at h9; exact h9
                      clear hz1
                      generalize H1 = H at hP hS ⊢
                      refine lv_aload_n hx hb dX12_move_123 rfl (lv_at hl 0 rfl) ?_
                      refine lv_iload_n hx hb dX12_move_124 rfl (lv_at hl 1 rfl) ?_
                      refine lv_iload_n hx hb dX12_move_125 rfl (lv_at hl 2 rfl) ?_
                      have t8869 : 0 ≤ (v 19).toInt ∧ (v 19).toInt ≤ 500 := by have h9 := hI.1 19 _ _ rfl; rw [show v8864 19 = v 19 from hf8866 19 (by decide)] at h9; exact h9
                      refine va_callv (va_runV (As := [.int p0, .int p1]) (rest := []) ⟨hx, hb, hml, hown, hwd⟩ (c_X12_begin l dC dI g c adK adV v8864 F8865 rc H.size p0 p1 hg hI (by omega) (by omega) (by have h9 : v8864 19 = v 19 := hf8866 19 (by decide); rw [h9]; omega)) (cwV 2 hwd (gV wk_595 wk_592 wk_593 wk_594 wk_5) rfl rfl rfl (by decide +kernel) ⟨Nat.le_of_ble_eq_true rfl, Nat.le_of_ble_eq_true rfl⟩) ⟨PM.blind, va_recv hK hP (ci := 12) (q0 := 0) rfl rfl, fun U hU hW => ⟨rfl, PM.at hK hE hP hS hU hW⟩⟩ rfl rfl hl.1 rfl (lv_room (Nat.le_of_ble_eq_true rfl)) dX12_move_126 ⟨Nat.le_of_ble_eq_true rfl, Nat.le_of_ble_eq_true rfl⟩) hS (fun q _ h => (freeM hS) q h) (freeM hS) (fun u t H1 locs ht hvm hw hB hz1 hk1 hS => ?_)
                      unfold BM at hB
                      rw [ht] at hB
                      obtain ⟨v8871, F8872, rc9⟩ := u
                      obtain ⟨hI, hrc, hf8873, hG8874, hw⟩ := hw
                      dsimp only at hI hrc hB hf8873 hG8874 hw
                      have hF := frCF (by decide) hG8874 hF
                      rw [hrc] at hB
                      have hP : va_P (dC, dI) classes (wM g c v8871 F8872 rc) H1 := hB
                      replace hw : (v8871 19).toInt = (v8864 19).toInt + 1 ∧ (F8872 13 = upd (F8865 13) p0.toNatClampNeg p1) ∧ (∀ j : Int, (j = p0.toInt ∨ hasO (v8864 19) (F8865 15) (F8865 18) j) → hasO (v8871 19) (F8872 15) (F8872 18) j) := hw
                      rw [show v8864 19 = v 19 from hf8866 19 (by decide)] at hw
                      have hw_r8870 := hw
                      clear hw
                      have t8875 : 0 ≤ (v8871 19).toInt ∧ (v8871 19).toInt ≤ 500 := hI.1 19 _ _ rfl
                      clear hz1
                      generalize H1 = H at hP hS ⊢
                      refine lv_iconst (v := 1) hx hb dX12_move_129 (by decide) ?_
                      have hP9 : va_P (dC, dI) classes (wM g c v8871 F8872 rc) H := hP
                      exact W.iret (v := 1) hx hb hr (fun t ht hW => ⟨⟨1, (v8871, F8872, rc), rfl, ⟨hI, rfl, (frC (by decide) hf8873 (frC (by decide) hf8866 (fun _ _ => rfl))), hF, (by show JO (v8871 14) (v8871 19) (F8872 13) (F8872 15) (F8872 18); rw [show v8871 14 = v 14 from (hf8873 14 (by decide)).trans (hf8866 14 (by decide))]; exact JO.go hJ hw_r8863 hw_r8870.2.2 (hw_r8870.2.1.trans (congrArg (fun f => upd f _ _) (hG8867 13 (by decide)))) (by omega))⟩, (by show va_P _ _ _ t.heap; rw [ht]; exact hP9)⟩, hS.F ht⟩) hS.2.2 dX12_move_130
                    · skip
                      have t8876 := cv_eq (a := (v 19).toInt) rfl (b := 500) (by decide) c8860
                      refine lv_bipush (v := (-3)) hx hb dX12_move_115 (by decide) ?_
                      have hP9 : va_P (dC, dI) classes (wM g c v F rc) H := hP
                      exact W.iret (v := (-3)) hx hb hr (fun t ht hW => ⟨⟨(-3), (v, F, rc), rfl, ⟨hI, rfl, (fun _ _ => rfl), hF, hJ⟩, (by show va_P _ _ _ t.heap; rw [ht]; exact hP9)⟩, hS.F ht⟩) hS.2.2 dX12_move_117
                  · skip
                    have t8877 := cv_nlt (a := r8845.toInt) rfl (b := z8855.toInt) rfl c8857
                    refine lv_bipush (v := (-2)) hx hb dX12_move_102 (by decide) ?_
                    have hP9 : va_P (dC, dI) classes (wM g c v F rc) H := hP
                    exact W.iret (v := (-2)) hx hb hr (fun t ht hW => ⟨⟨(-2), (v, F, rc), rfl, ⟨hI, rfl, (fun _ _ => rfl), hF, hJ⟩, (by show va_P _ _ _ t.heap; rw [ht]; exact hP9)⟩, hS.F ht⟩) hS.2.2 dX12_move_104
            · skip
              have t8878 := cv_eq (a := z8812.toInt) rfl (b := 12) (by decide) c8815
              refine lv_bipush (v := (-2)) hx hb dX12_move_55 (by decide) ?_
              have hP9 : va_P (dC, dI) classes (wM g c v F rc) H := hP
              exact W.iret (v := (-2)) hx hb hr (fun t ht hW => ⟨⟨(-2), (v, F, rc), rfl, ⟨hI, rfl, (fun _ _ => rfl), hF, hJ⟩, (by show va_P _ _ _ t.heap; rw [ht]; exact hP9)⟩, hS.F ht⟩) hS.2.2 dX12_move_57
        · skip
          have t8879 := cv_eq (a := r8803.toInt) rfl (b := 0) (by decide) c8804
          refine lv_iconst (v := (-1)) hx hb dX12_move_32 (by decide) ?_
          have hP9 : va_P (dC, dI) classes (wM g c v F rc) H := hP
          exact W.iret (v := (-1)) hx hb hr (fun t ht hW => ⟨⟨(-1), (v, F, rc), rfl, ⟨hI, rfl, (fun _ _ => rfl), hF, hJ⟩, (by show va_P _ _ _ t.heap; rw [ht]; exact hP9)⟩, hS.F ht⟩) hS.2.2 dX12_move_33
theorem swq {f : Nat → Int32} {j k : Nat} {x : Int32} (hx : x.toInt ≠ 12) (hk : (f k).toInt ≠ 12) : (upd f j x k).toInt ≠ 12 := by
  by_cases e : k = j
  · rw [e, mu_at]; exact hx
  · rw [mu_ne _ _ e]; exact hk
set_option maxHeartbeats 8000000 in
set_option maxRecDepth 100000 in
theorem c_X12_swap (l : Launch) (dC : Nat → ClassId) (dI : Nat → Nat → Nat) (g : Nat → Nat) (c : Nat → ClassId) (adK adV : Nat → Nat) (v : Nat → Int32) (F : Nat → Nat → Int32) (rc sz : Nat) (p0 : Int32) (p1 : Int32) (hg : injM g) (hI : IM v F) (hJ : JO (v 14) (v 19) (F 13) (F 15) (F 18)) : Met l yX12_swap (Cond.code yX12_swap cX12_swap 4 (some .int) :: wA) ({ frames := 3, cells := 0, slots := 0, locals := 120 }) (va_Pc [.ref (g 0), .int p0, .int p1] (PM dC dI g c adK adV v F rc sz)) (va_Qi (fun (r : Int32) (u : StM) => IM u.1 u.2.1 ∧ u.2.2 = rc ∧ (∀ k, k ∉ ([19] : List Nat) → u.1 k = v k) ∧ (∀ k, k ∉ ([13, 15, 16, 17, 18, 19, 20, 21, 22, 23] : List Nat) → u.2.1 k = F k) ∧ JO (u.1 14) (u.1 19) (u.2.1 13) (u.2.1 15) (u.2.1 18)) (BM dC dI g c) (AM g sz)) 0 0 (AM g sz) := by
  refine Met.ofW (cc := cX12_swap) (maxL := 4) (ret := (some .int)) (by decide) rfl ?_
  intro p e s m args below meth c0 s₁ B hml hv
  obtain ⟨rfl, hsz, hP, hK, hE⟩ := hv
  have hx := B.exec
  have hb := B.bytes
  have hr := B.returns
  have hts := atoms_spec (ws := Cond.code yX12_swap cX12_swap 4 (some .int) :: wA) B.pre
  have hwd : ∀ w ∈ wA, w.before _ s = true := fun w h => hts w (List.mem_cons_of_mem _ h)
  have hown : s.vm.findClass RX12 = some m.cls := findClass_of_methodNamed B.named
  have hlocks := B.notSynchronized
  subst hsz
  have hl := lv_entry ([.ref (g 0), .int p0, .int p1]) (n := 4) (Nat.le_of_ble_eq_true rfl)
  rw [lg_entry_eq]
  generalize (lg_sl ([.ref (g 0), .int p0, .int p1]) ++ List.replicate (4 - (lg_sl ([.ref (g 0), .int p0, .int p1])).length) Slot.unset).toArray = ls at hl ⊢
  have hl : lv_has ls 4 [(0, .ref (g 0)), (1, .int p0), (2, .int p1)] := hl
  obtain ⟨H, eH⟩ : ∃ z, z = s.heap := ⟨_, rfl⟩
  have hP : va_P (dC, dI) classes (wM g c v F rc) H := by rw [eH]; exact hP
  have hS : va_S (AM g s.heap.size) s.heap H [] := by rw [eH]; exact va_S.rf
  refine my_heap eH ?_
  have hF : ∀ k, k ∉ ([13, 15, 16, 17, 18, 19, 20, 21, 22, 23] : List Nat) → F k = F k := fun _ _ => rfl
  have rp0 := i32_rng p0
  have rp1 := i32_rng p1
  have hb14 : 0 ≤ (v 14).toInt ∧ (v 14).toInt ≤ 100 := hI.1 14 _ _ rfl
  have hb19 : 0 ≤ (v 19).toInt ∧ (v 19).toInt ≤ 500 := hI.1 19 _ _ rfl
  refine lv_aload_n hx hb dX12_swap_0 rfl (lv_at hl 0 rfl) ?_
  refine lv_iload_n hx hb dX12_swap_1 rfl (lv_at hl 1 rfl) ?_
  have t8950 : 0 ≤ (v 14).toInt ∧ (v 14).toInt ≤ 100 := hI.1 14 _ _ rfl
  refine va_calli (va_runV (As := [.int p0]) (rest := []) ⟨hx, hb, hml, hown, hwd⟩ (c_X12_isPart l dC dI g c adK adV v F rc H.size p0 hg hI ) (cwV 1 hwd (gV wk_631 wk_628 wk_629 wk_630 wk_5) rfl rfl rfl (by decide +kernel) ⟨Nat.le_of_ble_eq_true rfl, Nat.le_of_ble_eq_true rfl⟩) ⟨PM.blind, va_recv hK hP (ci := 12) (q0 := 0) rfl rfl, fun U hU hW => ⟨rfl, PM.at hK hE hP hS hU hW⟩⟩ rfl rfl hl.1 rfl (lv_room (Nat.le_of_ble_eq_true rfl)) dX12_swap_2 ⟨Nat.le_of_ble_eq_true rfl, Nat.le_of_ble_eq_true rfl⟩) hS (fun q _ h => (freeM hS) q h) (freeM hS) (fun r8951 u t H1 locs ht hvm hw hB hz1 hk1 hS => ?_)
  unfold BM at hB
  rw [ht] at hB
  have hP : va_P (dC, dI) classes (wM g c v F rc) H1 := hB
  replace hw : (r8951.toInt = 1 ∧ 0 ≤ p0.toInt ∧ p0.toInt < (v 14).toInt) ∨ (r8951.toInt = 0 ∧ (p0.toInt < 0 ∨ (v 14).toInt ≤ p0.toInt)) := hw
  have hw_r8951 := hw
  clear hw
  clear hz1
  generalize H1 = H at hP hS ⊢
  refine lv_if_eq (tgt := 16) hx hb dX12_swap_5 (by decide) (fun c8952 => ?_) (fun c8952 => ?_)
  · skip
    have t8953 := cv_eq (a := r8951.toInt) rfl (b := 0) (by decide) c8952
    refine lv_iconst (v := (-1)) hx hb dX12_swap_16 (by decide) ?_
    have hP9 : va_P (dC, dI) classes (wM g c v F rc) H := hP
    exact W.iret (v := (-1)) hx hb hr (fun t ht hW => ⟨⟨(-1), (v, F, rc), rfl, ⟨hI, rfl, (fun _ _ => rfl), hF, hJ⟩, (by show va_P _ _ _ t.heap; rw [ht]; exact hP9)⟩, hS.F ht⟩) hS.2.2 dX12_swap_17
  · skip
    have t8954 := cv_ne (a := r8951.toInt) rfl (b := 0) (by decide) c8952
    refine lv_aload_n hx hb dX12_swap_8 rfl (lv_at hl 0 rfl) ?_
    refine lv_iload_n hx hb dX12_swap_9 rfl (lv_at hl 2 rfl) ?_
    have t8955 : 0 ≤ (v 14).toInt ∧ (v 14).toInt ≤ 100 := hI.1 14 _ _ rfl
    refine va_calli (va_runV (As := [.int p1]) (rest := []) ⟨hx, hb, hml, hown, hwd⟩ (c_X12_isPart l dC dI g c adK adV v F rc H.size p1 hg hI ) (cwV 1 hwd (gV wk_631 wk_628 wk_629 wk_630 wk_5) rfl rfl rfl (by decide +kernel) ⟨Nat.le_of_ble_eq_true rfl, Nat.le_of_ble_eq_true rfl⟩) ⟨PM.blind, va_recv hK hP (ci := 12) (q0 := 0) rfl rfl, fun U hU hW => ⟨rfl, PM.at hK hE hP hS hU hW⟩⟩ rfl rfl hl.1 rfl (lv_room (Nat.le_of_ble_eq_true rfl)) dX12_swap_10 ⟨Nat.le_of_ble_eq_true rfl, Nat.le_of_ble_eq_true rfl⟩) hS (fun q _ h => (freeM hS) q h) (freeM hS) (fun r8956 u t H1 locs ht hvm hw hB hz1 hk1 hS => ?_)
    unfold BM at hB
    rw [ht] at hB
    have hP : va_P (dC, dI) classes (wM g c v F rc) H1 := hB
    replace hw : (r8956.toInt = 1 ∧ 0 ≤ p1.toInt ∧ p1.toInt < (v 14).toInt) ∨ (r8956.toInt = 0 ∧ (p1.toInt < 0 ∨ (v 14).toInt ≤ p1.toInt)) := hw
    have hw_r8956 := hw
    clear hw
    clear hz1
    generalize H1 = H at hP hS ⊢
    refine lv_if_ne (tgt := 18) hx hb dX12_swap_13 (by decide) (fun c8957 => ?_) (fun c8957 => ?_)
    · skip
      have t8958 := cv_ne (a := r8956.toInt) rfl (b := 0) (by decide) c8957
      refine lv_aload_n hx hb dX12_swap_18 rfl (lv_at hl 0 rfl) ?_
      refine va_get (D := (dC, dI)) (ci := 12) (v := .ref (g 13)) (C := RX12) (T := TX12) (N := 63) hx hb hwd inA_X12 hown hK hP 0 rfl rfl 17 (by decide) (hwd _ wk_194) (fun _ h9 => h9) rfl dX12_swap_19 ?_
      refine lv_iload_n hx hb dX12_swap_22 rfl (lv_at hl 1 rfl) ?_
      refine va_iald hx hb hK hP 13 12 rfl rfl (i := p0) (vin (a := p0.toInt) rfl (by omega)) dX12_swap_23 ?_
      refine lv_topi (fun z8959 e8960 => ?_)
      have t8961 : 0 ≤ z8959.toInt ∧ z8959.toInt ≤ 12 := by rw [e8960]; exact hI.2 13 _ _ rfl _
      have tzz8959 : z8959.toInt = (F 13 (p0 : Int32).toNatClampNeg).toInt := congrArg Int32.toInt e8960
      refine lv_bipush (v := 10) hx hb dX12_swap_24 (by decide) ?_
      refine lv_icmp_ge (tgt := 55) hx hb dX12_swap_26 (by decide) (fun c8962 => ?_) (fun c8962 => ?_)
      · skip
        have t8963 := cv_le (a := 10) (by decide) (b := z8959.toInt) rfl c8962
        refine lv_bipush (v := (-2)) hx hb dX12_swap_55 (by decide) ?_
        have hP9 : va_P (dC, dI) classes (wM g c v F rc) H := hP
        exact W.iret (v := (-2)) hx hb hr (fun t ht hW => ⟨⟨(-2), (v, F, rc), rfl, ⟨hI, rfl, (fun _ _ => rfl), hF, hJ⟩, (by show va_P _ _ _ t.heap; rw [ht]; exact hP9)⟩, hS.F ht⟩) hS.2.2 dX12_swap_57
      · skip
        have t8964 := cv_nle (a := 10) (by decide) (b := z8959.toInt) rfl c8962
        refine lv_aload_n hx hb dX12_swap_29 rfl (lv_at hl 0 rfl) ?_
        refine va_get (D := (dC, dI)) (ci := 12) (v := .ref (g 13)) (C := RX12) (T := TX12) (N := 63) hx hb hwd inA_X12 hown hK hP 0 rfl rfl 17 (by decide) (hwd _ wk_194) (fun _ h9 => h9) rfl dX12_swap_30 ?_
        refine lv_iload_n hx hb dX12_swap_33 rfl (lv_at hl 2 rfl) ?_
        refine va_iald hx hb hK hP 13 12 rfl rfl (i := p1) (vin (a := p1.toInt) rfl (by omega)) dX12_swap_34 ?_
        refine lv_topi (fun z8965 e8966 => ?_)
        have t8967 : 0 ≤ z8965.toInt ∧ z8965.toInt ≤ 12 := by rw [e8966]; exact hI.2 13 _ _ rfl _
        have tzz8965 : z8965.toInt = (F 13 (p1 : Int32).toNatClampNeg).toInt := congrArg Int32.toInt e8966
        refine lv_bipush (v := 11) hx hb dX12_swap_35 (by decide) ?_
        refine lv_icmp_ne (tgt := 55) hx hb dX12_swap_37 (by decide) (fun c8968 => ?_) (fun c8968 => ?_)
        · skip
          have t8969 := cv_ne (a := z8965.toInt) rfl (b := 11) (by decide) c8968
          refine lv_bipush (v := (-2)) hx hb dX12_swap_55 (by decide) ?_
          have hP9 : va_P (dC, dI) classes (wM g c v F rc) H := hP
          exact W.iret (v := (-2)) hx hb hr (fun t ht hW => ⟨⟨(-2), (v, F, rc), rfl, ⟨hI, rfl, (fun _ _ => rfl), hF, hJ⟩, (by show va_P _ _ _ t.heap; rw [ht]; exact hP9)⟩, hS.F ht⟩) hS.2.2 dX12_swap_57
        · skip
          have t8970 := cv_eq (a := z8965.toInt) rfl (b := 11) (by decide) c8968
          refine lv_aload_n hx hb dX12_swap_40 rfl (lv_at hl 0 rfl) ?_
          refine va_get (D := (dC, dI)) (ci := 12) (v := .ref (g 11)) (C := RX12) (T := TX12) (N := 63) hx hb hwd inA_X12 hown hK hP 0 rfl rfl 15 (by decide) (hwd _ wk_192) (fun _ h9 => h9) rfl dX12_swap_41 ?_
          refine lv_iload_n hx hb dX12_swap_44 rfl (lv_at hl 1 rfl) ?_
          refine va_iald hx hb hK hP 11 10 rfl rfl (i := p0) (vin (a := p0.toInt) rfl (by omega)) dX12_swap_45 ?_
          refine lv_topi (fun z8971 e8972 => ?_)
          have t8973 : 0 ≤ z8971.toInt ∧ z8971.toInt ≤ 9 := by rw [e8972]; exact hI.2 11 _ _ rfl _
          have tzz8971 : z8971.toInt = (F 11 (p0 : Int32).toNatClampNeg).toInt := congrArg Int32.toInt e8972
          refine lv_aload_n hx hb dX12_swap_46 rfl (lv_at hl 0 rfl) ?_
          refine va_get (D := (dC, dI)) (ci := 12) (v := .ref (g 11)) (C := RX12) (T := TX12) (N := 63) hx hb hwd inA_X12 hown hK hP 0 rfl rfl 15 (by decide) (hwd _ wk_192) (fun _ h9 => h9) rfl dX12_swap_47 ?_
          refine lv_iload_n hx hb dX12_swap_50 rfl (lv_at hl 2 rfl) ?_
          refine va_iald hx hb hK hP 11 10 rfl rfl (i := p1) (vin (a := p1.toInt) rfl (by omega)) dX12_swap_51 ?_
          refine lv_topi (fun z8974 e8975 => ?_)
          have t8976 : 0 ≤ z8974.toInt ∧ z8974.toInt ≤ 9 := by rw [e8975]; exact hI.2 11 _ _ rfl _
          have tzz8974 : z8974.toInt = (F 11 (p1 : Int32).toNatClampNeg).toInt := congrArg Int32.toInt e8975
          refine lv_icmp_eq (tgt := 58) hx hb dX12_swap_52 (by decide) (fun c8977 => ?_) (fun c8977 => ?_)
          · skip
            have t8978 := cv_eq (a := z8971.toInt) rfl (b := z8974.toInt) rfl c8977
            refine lv_aload_n hx hb dX12_swap_58 rfl (lv_at hl 0 rfl) ?_
            refine va_get (D := (dC, dI)) (ci := 12) (v := .int (v 19)) (C := RX12) (T := TX12) (N := 63) hx hb hwd inA_X12 hown hK hP 0 rfl rfl 19 (by decide) (hwd _ wk_494) (fun _ h9 => h9) rfl dX12_swap_59 ?_
            have t8979 : 0 ≤ (v 19).toInt ∧ (v 19).toInt ≤ 500 := hI.1 19 _ _ rfl
            refine lv_iconst (v := 2) hx hb dX12_swap_62 (by decide) ?_
            refine lv_iadd hx hb dX12_swap_63 ?_
            refine lv_topi (fun z8980 e8981 => ?_)
            try (have t8982 := tadd e8981 (a := (v 19).toInt) rfl (b := 2) (by decide) (by omega))
            refine lv_sipush (v := 500) hx hb dX12_swap_64 (by decide) ?_
            refine lv_icmp_le (tgt := 73) hx hb dX12_swap_67 (by decide) (fun c8983 => ?_) (fun c8983 => ?_)
            · skip
              have t8984 := cv_le (a := z8980.toInt) rfl (b := 500) (by decide) c8983
              refine lv_aload_n hx hb dX12_swap_73 rfl (lv_at hl 0 rfl) ?_
              refine va_get (D := (dC, dI)) (ci := 12) (v := .ref (g 13)) (C := RX12) (T := TX12) (N := 63) hx hb hwd inA_X12 hown hK hP 0 rfl rfl 17 (by decide) (hwd _ wk_194) (fun _ h9 => h9) rfl dX12_swap_74 ?_
              refine lv_iload_n hx hb dX12_swap_77 rfl (lv_at hl 1 rfl) ?_
              refine va_iald hx hb hK hP 13 12 rfl rfl (i := p0) (vin (a := p0.toInt) rfl (by omega)) dX12_swap_78 ?_
              refine lv_topi (fun z8985 e8986 => ?_)
              have t8987 : 0 ≤ z8985.toInt ∧ z8985.toInt ≤ 12 := by rw [e8986]; exact hI.2 13 _ _ rfl _
              have tzz8985 : z8985.toInt = (F 13 (p0 : Int32).toNatClampNeg).toInt := congrArg Int32.toInt e8986
              refine lv_istore_n (lv' := [(3, .int z8985), (0, .ref (g 0)), (1, .int p0), (2, .int p1)]) hx hb dX12_swap_79 rfl hl (by decide) rfl (fun ls hl => ?_)
              refine lv_aload_n hx hb dX12_swap_80 rfl (lv_at hl 1 rfl) ?_
              refine lv_iload_n hx hb dX12_swap_81 rfl (lv_at hl 2 rfl) ?_
              have t8988 : 0 ≤ (v 19).toInt ∧ (v 19).toInt ≤ 500 := hI.1 19 _ _ rfl
              refine va_callv (va_runV (As := [.int p0]) (rest := []) ⟨hx, hb, hml, hown, hwd⟩ (c_X12_endStay l dC dI g c adK adV v F rc H.size p0 hg hI (by omega) (JO.at' hJ (i := p0) (by omega) (by omega) (by omega))) (cwV 1 hwd (gV wk_635 wk_632 wk_633 wk_634 wk_5) rfl rfl rfl (by decide +kernel) ⟨Nat.le_of_ble_eq_true rfl, Nat.le_of_ble_eq_true rfl⟩) ⟨PM.blind, va_recv hK hP (ci := 12) (q0 := 0) rfl rfl, fun U hU hW => ⟨rfl, PM.at hK hE hP hS hU hW⟩⟩ rfl rfl hl.1 rfl (lv_room (Nat.le_of_ble_eq_true rfl)) dX12_swap_82 ⟨Nat.le_of_ble_eq_true rfl, Nat.le_of_ble_eq_true rfl⟩) hS (fun q _ h => (freeM hS) q h) (freeM hS) (fun u t H1 locs ht hvm hw hB hz1 hk1 hS => ?_)
              unfold BM at hB
              rw [ht] at hB
              obtain ⟨v8990, F8991, rc9⟩ := u
              obtain ⟨hI, hrc, hf8992, hG8993, hw⟩ := hw
              dsimp only at hI hrc hB hf8992 hG8993 hw
              have hF := frCF (by decide) hG8993 hF
              rw [hrc] at hB
              have hP : va_P (dC, dI) classes (wM g c v8990 F8991 rc) H1 := hB
              replace hw : ∀ j : Int, j ≠ p0.toInt → hasO (v 19) (F 15) (F 18) j → hasO (v8990 19) (F8991 15) (F8991 18) j := hw
              rw [show v8990 19 = v 19 from hf8992 19 (by decide)] at hw
              have hw_r8989 := hw
              clear hw
              have t8994 : 0 ≤ (v 19).toInt ∧ (v 19).toInt ≤ 500 := by have h9 := hI.1 19 _ _ rfl; rw [show v8990 19 = v 19 from hf8992 19 (by decide)] at h9; exact h9
              clear hz1
              generalize H1 = H at hP hS ⊢
              refine lv_aload_n hx hb dX12_swap_85 rfl (lv_at hl 1 rfl) ?_
              refine lv_iload_n hx hb dX12_swap_86 rfl (lv_at hl 2 rfl) ?_
              refine lv_bipush (v := 11) hx hb dX12_swap_87 (by decide) ?_
              have t8995 : 0 ≤ (v 19).toInt ∧ (v 19).toInt ≤ 500 := by have h9 := hI.1 19 _ _ rfl; rw [show v8990 19 = v 19 from hf8992 19 (by decide)] at h9; exact h9
              refine va_callv (va_runV (As := [.int p0, .int 11]) (rest := []) ⟨hx, hb, hml, hown, hwd⟩ (c_X12_begin l dC dI g c adK adV v8990 F8991 rc H.size p0 11 hg hI (by omega) (by have : (11 : Int32).toInt = 11 := (by decide); omega) (by have h9 : v8990 19 = v 19 := hf8992 19 (by decide); rw [h9]; omega)) (cwV 2 hwd (gV wk_595 wk_592 wk_593 wk_594 wk_5) rfl rfl rfl (by decide +kernel) ⟨Nat.le_of_ble_eq_true rfl, Nat.le_of_ble_eq_true rfl⟩) ⟨PM.blind, va_recv hK hP (ci := 12) (q0 := 0) rfl rfl, fun U hU hW => ⟨rfl, PM.at hK hE hP hS hU hW⟩⟩ rfl rfl hl.1 rfl (lv_room (Nat.le_of_ble_eq_true rfl)) dX12_swap_89 ⟨Nat.le_of_ble_eq_true rfl, Nat.le_of_ble_eq_true rfl⟩) hS (fun q _ h => (freeM hS) q h) (freeM hS) (fun u t H1 locs ht hvm hw hB hz1 hk1 hS => ?_)
              unfold BM at hB
              rw [ht] at hB
              obtain ⟨v8997, F8998, rc9⟩ := u
              obtain ⟨hI, hrc, hf8999, hG9000, hw⟩ := hw
              dsimp only at hI hrc hB hf8999 hG9000 hw
              have hF := frCF (by decide) hG9000 hF
              rw [hrc] at hB
              have hP : va_P (dC, dI) classes (wM g c v8997 F8998 rc) H1 := hB
              replace hw : (v8997 19).toInt = (v8990 19).toInt + 1 ∧ (F8998 13 = upd (F8991 13) p0.toNatClampNeg (11 : Int32)) ∧ (∀ j : Int, (j = p0.toInt ∨ hasO (v8990 19) (F8991 15) (F8991 18) j) → hasO (v8997 19) (F8998 15) (F8998 18) j) := hw
              rw [show v8990 19 = v 19 from hf8992 19 (by decide)] at hw
              have hw_r8996 := hw
              clear hw
              have t9001 : 0 ≤ (v8997 19).toInt ∧ (v8997 19).toInt ≤ 500 := hI.1 19 _ _ rfl
              have k9002 : (11 : Int32).toInt = 11 := by decide
              clear hz1
              generalize H1 = H at hP hS ⊢
              refine lv_aload_n hx hb dX12_swap_92 rfl (lv_at hl 1 rfl) ?_
              refine lv_iload_n hx hb dX12_swap_93 rfl (lv_at hl 3 rfl) ?_
              have t9003 : 0 ≤ (v8997 19).toInt ∧ (v8997 19).toInt ≤ 500 := hI.1 19 _ _ rfl
              refine va_callv (va_runV (As := [.int p1]) (rest := []) ⟨hx, hb, hml, hown, hwd⟩ (c_X12_endStay l dC dI g c adK adV v8997 F8998 rc H.size p1 hg hI (by omega) (JO.at' (JO.go hJ hw_r8989 hw_r8996.2.2 (hw_r8996.2.1.trans (congrArg (fun f => upd f _ _) (hG8993 13 (by decide)))) (by omega)) (i := p1) (by omega) (by omega) (by rw [hw_r8996.2.1, hG8993 13 (by decide)]; exact swq (by decide) (by omega)))) (cwV 1 hwd (gV wk_635 wk_632 wk_633 wk_634 wk_5) rfl rfl rfl (by decide +kernel) ⟨Nat.le_of_ble_eq_true rfl, Nat.le_of_ble_eq_true rfl⟩) ⟨PM.blind, va_recv hK hP (ci := 12) (q0 := 0) rfl rfl, fun U hU hW => ⟨rfl, PM.at hK hE hP hS hU hW⟩⟩ rfl rfl hl.1 rfl (lv_room (Nat.le_of_ble_eq_true rfl)) dX12_swap_94 ⟨Nat.le_of_ble_eq_true rfl, Nat.le_of_ble_eq_true rfl⟩) hS (fun q _ h => (freeM hS) q h) (freeM hS) (fun u t H1 locs ht hvm hw hB hz1 hk1 hS => ?_)
              unfold BM at hB
              rw [ht] at hB
              obtain ⟨v9005, F9006, rc9⟩ := u
              obtain ⟨hI, hrc, hf9007, hG9008, hw⟩ := hw
              dsimp only at hI hrc hB hf9007 hG9008 hw
              have hF := frCF (by decide) hG9008 hF
              rw [hrc] at hB
              have hP : va_P (dC, dI) classes (wM g c v9005 F9006 rc) H1 := hB
              replace hw : ∀ j : Int, j ≠ p1.toInt → hasO (v8997 19) (F8998 15) (F8998 18) j → hasO (v9005 19) (F9006 15) (F9006 18) j := hw
              rw [show v9005 19 = v8997 19 from hf9007 19 (by decide)] at hw
              have hw_r9004 := hw
              clear hw
              have t9009 : 0 ≤ (v8997 19).toInt ∧ (v8997 19).toInt ≤ 500 := by have h9 := hI.1 19 _ _ rfl; rw [show v9005 19 = v8997 19 from hf9007 19 (by decide)] at h9; exact h9
              clear hz1
              generalize H1 = H at hP hS ⊢
              refine lv_aload_n hx hb dX12_swap_97 rfl (lv_at hl 1 rfl) ?_
              refine lv_iload_n hx hb dX12_swap_98 rfl (lv_at hl 3 rfl) ?_
              refine lv_iload_n hx hb dX12_swap_99 rfl (lv_at hl 0 rfl) ?_
              have t9010 : 0 ≤ (v8997 19).toInt ∧ (v8997 19).toInt ≤ 500 := by have h9 := hI.1 19 _ _ rfl; rw [show v9005 19 = v8997 19 from hf9007 19 (by decide)] at h9; exact h9
              refine va_callv (va_runV (As := [.int p1, .int z8985]) (rest := []) ⟨hx, hb, hml, hown, hwd⟩ (c_X12_begin l dC dI g c adK adV v9005 F9006 rc H.size p1 z8985 hg hI (by omega) (by omega) (by have h9 : v9005 19 = v8997 19 := hf9007 19 (by decide); rw [h9]; omega)) (cwV 2 hwd (gV wk_595 wk_592 wk_593 wk_594 wk_5) rfl rfl rfl (by decide +kernel) ⟨Nat.le_of_ble_eq_true rfl, Nat.le_of_ble_eq_true rfl⟩) ⟨PM.blind, va_recv hK hP (ci := 12) (q0 := 0) rfl rfl, fun U hU hW => ⟨rfl, PM.at hK hE hP hS hU hW⟩⟩ rfl rfl hl.1 rfl (lv_room (Nat.le_of_ble_eq_true rfl)) dX12_swap_100 ⟨Nat.le_of_ble_eq_true rfl, Nat.le_of_ble_eq_true rfl⟩) hS (fun q _ h => (freeM hS) q h) (freeM hS) (fun u t H1 locs ht hvm hw hB hz1 hk1 hS => ?_)
              unfold BM at hB
              rw [ht] at hB
              obtain ⟨v9012, F9013, rc9⟩ := u
              obtain ⟨hI, hrc, hf9014, hG9015, hw⟩ := hw
              dsimp only at hI hrc hB hf9014 hG9015 hw
              have hF := frCF (by decide) hG9015 hF
              rw [hrc] at hB
              have hP : va_P (dC, dI) classes (wM g c v9012 F9013 rc) H1 := hB
              replace hw : (v9012 19).toInt = (v9005 19).toInt + 1 ∧ (F9013 13 = upd (F9006 13) p1.toNatClampNeg z8985) ∧ (∀ j : Int, (j = p1.toInt ∨ hasO (v9005 19) (F9006 15) (F9006 18) j) → hasO (v9012 19) (F9013 15) (F9013 18) j) := hw
              rw [show v9005 19 = v8997 19 from hf9007 19 (by decide)] at hw
              have hw_r9011 := hw
              clear hw
              have t9016 : 0 ≤ (v9012 19).toInt ∧ (v9012 19).toInt ≤ 500 := hI.1 19 _ _ rfl
              clear hz1
              generalize H1 = H at hP hS ⊢
              refine lv_iconst (v := 1) hx hb dX12_swap_103 (by decide) ?_
              have hP9 : va_P (dC, dI) classes (wM g c v9012 F9013 rc) H := hP
              exact W.iret (v := 1) hx hb hr (fun t ht hW => ⟨⟨1, (v9012, F9013, rc), rfl, ⟨hI, rfl, (frC (by decide) hf9014 (frC (by decide) hf9007 (frC (by decide) hf8999 (frC (by decide) hf8992 (fun _ _ => rfl))))), hF, (by show JO (v9012 14) (v9012 19) (F9013 13) (F9013 15) (F9013 18); rw [show v9012 14 = v 14 from (hf9014 14 (by decide)).trans ((hf9007 14 (by decide)).trans ((hf8999 14 (by decide)).trans (hf8992 14 (by decide))))]; exact JO.go (JO.go hJ hw_r8989 hw_r8996.2.2 (hw_r8996.2.1.trans (congrArg (fun f => upd f _ _) (hG8993 13 (by decide)))) (by omega)) hw_r9004 hw_r9011.2.2 (hw_r9011.2.1.trans (congrArg (fun f => upd f _ _) (hG9008 13 (by decide)))) (by omega))⟩, (by show va_P _ _ _ t.heap; rw [ht]; exact hP9)⟩, hS.F ht⟩) hS.2.2 dX12_swap_104
            · skip
              have t9017 := cv_nle (a := z8980.toInt) rfl (b := 500) (by decide) c8983
              refine lv_bipush (v := (-3)) hx hb dX12_swap_70 (by decide) ?_
              have hP9 : va_P (dC, dI) classes (wM g c v F rc) H := hP
              exact W.iret (v := (-3)) hx hb hr (fun t ht hW => ⟨⟨(-3), (v, F, rc), rfl, ⟨hI, rfl, (fun _ _ => rfl), hF, hJ⟩, (by show va_P _ _ _ t.heap; rw [ht]; exact hP9)⟩, hS.F ht⟩) hS.2.2 dX12_swap_72
          · skip
            have t9018 := cv_ne (a := z8971.toInt) rfl (b := z8974.toInt) rfl c8977
            refine lv_bipush (v := (-2)) hx hb dX12_swap_55 (by decide) ?_
            have hP9 : va_P (dC, dI) classes (wM g c v F rc) H := hP
            exact W.iret (v := (-2)) hx hb hr (fun t ht hW => ⟨⟨(-2), (v, F, rc), rfl, ⟨hI, rfl, (fun _ _ => rfl), hF, hJ⟩, (by show va_P _ _ _ t.heap; rw [ht]; exact hP9)⟩, hS.F ht⟩) hS.2.2 dX12_swap_57
    · skip
      have t9019 := cv_eq (a := r8956.toInt) rfl (b := 0) (by decide) c8957
      refine lv_iconst (v := (-1)) hx hb dX12_swap_16 (by decide) ?_
      have hP9 : va_P (dC, dI) classes (wM g c v F rc) H := hP
      exact W.iret (v := (-1)) hx hb hr (fun t ht hW => ⟨⟨(-1), (v, F, rc), rfl, ⟨hI, rfl, (fun _ _ => rfl), hF, hJ⟩, (by show va_P _ _ _ t.heap; rw [ht]; exact hP9)⟩, hS.F ht⟩) hS.2.2 dX12_swap_17
