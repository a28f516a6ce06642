set_option maxHeartbeats 8000000 in
set_option maxRecDepth 100000 in
theorem c_X12_past (l : Launch) (dC : Nat → ClassId) (dI : Nat → Nat → Nat) (g : Nat → Nat) (c : Nat → ClassId) (adK adV : Nat → Nat) (v : Nat → Int32) (F : Nat → Nat → Int32) (rc sz : Nat) (p0 : Int32) (p1 : Int32) (p2 : Int32) (p3 : Int32) (p4 : Int32) (p5 : Int32) (hg : injM g) (hI : IM v F) (hJ : JO (v 14) (v 19) (F 13) (F 15) (F 18)) : Met l yX12_past (Cond.code yX12_past cX12_past 10 (some .int) :: wA) ({ frames := 3, cells := 0, slots := 0, locals := 120 }) (va_Pc [.ref (g 0), .int p0, .int p1, .int p2, .int p3, .int p4, .int p5] (PM dC dI g c adK adV v F rc sz)) (va_Qi (fun (r : Int32) (u : StM) => IM u.1 u.2.1 ∧ u.2.2 = rc ∧ (∀ k, k ∉ ([19] : List Nat) → u.1 k = v k) ∧ (∀ k, k ∉ ([15, 16, 17, 18, 19, 20, 21, 22, 23] : List Nat) → u.2.1 k = F k) ∧ JO (u.1 14) (u.1 19) (u.2.1 13) (u.2.1 15) (u.2.1 18)) (BM dC dI g c) (AM g sz)) 0 0 (AM g sz) := by
  refine Met.ofW (cc := cX12_past) (maxL := 10) (ret := (some .int)) (by decide) rfl ?_
  intro p e s m args below meth c0 s₁ B hml hv
  obtain ⟨rfl, hsz, hP, hK, hE⟩ := hv
  have hx := B.exec
  have hb := B.bytes
  have hr := B.returns
  have hts := atoms_spec (ws := Cond.code yX12_past cX12_past 10 (some .int) :: wA) B.pre
  have hwd : ∀ w ∈ wA, w.before _ s = true := fun w h => hts w (List.mem_cons_of_mem _ h)
  have hown : s.vm.findClass RX12 = some m.cls := findClass_of_methodNamed B.named
  have hlocks := B.notSynchronized
  subst hsz
  have hl := lv_entry ([.ref (g 0), .int p0, .int p1, .int p2, .int p3, .int p4, .int p5]) (n := 10) (Nat.le_of_ble_eq_true rfl)
  rw [lg_entry_eq]
  generalize (lg_sl ([.ref (g 0), .int p0, .int p1, .int p2, .int p3, .int p4, .int p5]) ++ List.replicate (10 - (lg_sl ([.ref (g 0), .int p0, .int p1, .int p2, .int p3, .int p4, .int p5])).length) Slot.unset).toArray = ls at hl ⊢
  have hl : lv_has ls 10 [(0, .ref (g 0)), (1, .int p0), (2, .int p1), (3, .int p2), (4, .int p3), (5, .int p4), (6, .int p5)] := hl
  obtain ⟨H, eH⟩ : ∃ z, z = s.heap := ⟨_, rfl⟩
  have hP : va_P (dC, dI) classes (wM g c v F rc) H := by rw [eH]; exact hP
  have hS : va_S (AM g s.heap.size) s.heap H [] := by rw [eH]; exact va_S.rf
  refine my_heap eH ?_
  have hF : ∀ k, k ∉ ([15, 16, 17, 18, 19, 20, 21, 22, 23] : List Nat) → F k = F k := fun _ _ => rfl
  have rp0 := i32_rng p0
  have rp1 := i32_rng p1
  have rp2 := i32_rng p2
  have rp3 := i32_rng p3
  have rp4 := i32_rng p4
  have rp5 := i32_rng p5
  have hb14 : 0 ≤ (v 14).toInt ∧ (v 14).toInt ≤ 100 := hI.1 14 _ _ rfl
  have hb19 : 0 ≤ (v 19).toInt ∧ (v 19).toInt ≤ 500 := hI.1 19 _ _ rfl
  refine lv_aload_n hx hb dX12_past_0 rfl (lv_at hl 0 rfl) ?_
  refine lv_iload_n hx hb dX12_past_1 rfl (lv_at hl 1 rfl) ?_
  have t9612 : 0 ≤ (v 14).toInt ∧ (v 14).toInt ≤ 100 := hI.1 14 _ _ rfl
  refine va_calli (va_runV (As := [.int p0]) (rest := []) ⟨hx, hb, hml, hown, hwd⟩ (c_X12_isPart l dC dI g c adK adV v F rc H.size p0 hg hI ) (cwV 1 hwd (gV wk_631 wk_628 wk_629 wk_630 wk_5) rfl rfl rfl (by decide +kernel) ⟨Nat.le_of_ble_eq_true rfl, Nat.le_of_ble_eq_true rfl⟩) ⟨PM.blind, va_recv hK hP (ci := 12) (q0 := 0) rfl rfl, fun U hU hW => ⟨rfl, PM.at hK hE hP hS hU hW⟩⟩ rfl rfl hl.1 rfl (lv_room (Nat.le_of_ble_eq_true rfl)) dX12_past_2 ⟨Nat.le_of_ble_eq_true rfl, Nat.le_of_ble_eq_true rfl⟩) hS (fun q _ h => (freeM hS) q h) (freeM hS) (fun r9613 u t H1 locs ht hvm hw hB hz1 hk1 hS => ?_)
  unfold BM at hB
  rw [ht] at hB
  have hP : va_P (dC, dI) classes (wM g c v F rc) H1 := hB
  replace hw : (r9613.toInt = 1 ∧ 0 ≤ p0.toInt ∧ p0.toInt < (v 14).toInt) ∨ (r9613.toInt = 0 ∧ (p0.toInt < 0 ∨ (v 14).toInt ≤ p0.toInt)) := hw
  have hw_r9613 := hw
  clear hw
  clear hz1
  generalize H1 = H at hP hS ⊢
  refine lv_if_eq (tgt := 36) hx hb dX12_past_5 (by decide) (fun c9614 => ?_) (fun c9614 => ?_)
  · skip
    have t9615 := cv_eq (a := r9613.toInt) rfl (b := 0) (by decide) c9614
    refine lv_iconst (v := (-1)) hx hb dX12_past_36 (by decide) ?_
    have hP9 : va_P (dC, dI) classes (wM g c v F rc) H := hP
    exact W.iret (v := (-1)) hx hb hr (fun t ht hW => ⟨⟨(-1), (v, F, rc), rfl, ⟨hI, rfl, (fun _ _ => rfl), hF, hJ⟩, (by show va_P _ _ _ t.heap; rw [ht]; exact hP9)⟩, hS.F ht⟩) hS.2.2 dX12_past_37
  · skip
    have t9616 := cv_ne (a := r9613.toInt) rfl (b := 0) (by decide) c9614
    refine lv_iload_n hx hb dX12_past_8 rfl (lv_at hl 2 rfl) ?_
    refine lv_iconst (v := 0) hx hb dX12_past_9 (by decide) ?_
    refine lv_bipush (v := 11) hx hb dX12_past_10 (by decide) ?_
    refine va_calli (va_runS (As := [.int p1, .int 0, .int 11]) (rest := []) ⟨hx, hb, hml, hown, hwd⟩ (c_X12_in l dC dI g c adK adV v F rc H.size p1 0 11 hg hI ) (va_cwS 3 hwd (gT wk_254 wk_252 wk_253 wk_5) rfl rfl rfl (by decide +kernel) ⟨Nat.le_of_ble_eq_true rfl, Nat.le_of_ble_eq_true rfl⟩) ⟨PM.blind, fun U hU hW => ⟨rfl, PM.at hK hE hP hS hU hW⟩⟩ rfl rfl hl.1 rfl (lv_room (Nat.le_of_ble_eq_true rfl)) dX12_past_12 ⟨Nat.le_of_ble_eq_true rfl, Nat.le_of_ble_eq_true rfl⟩) hS (fun q _ h => (freeM hS) q h) (freeM hS) (fun r9617 u t H1 locs ht hvm hw hB hz1 hk1 hS => ?_)
    unfold BM at hB
    rw [ht] at hB
    have hP : va_P (dC, dI) classes (wM g c v F rc) H1 := hB
    have hw_r9617 : (r9617.toInt = 1 ∧ (0 : Int32).toInt ≤ p1.toInt ∧ p1.toInt ≤ (11 : Int32).toInt) ∨ (r9617.toInt = 0 ∧ (p1.toInt < (0 : Int32).toInt ∨ (11 : Int32).toInt < p1.toInt)) := hw
    clear hw
    have k9618 : (0 : Int32).toInt = 0 := by decide
    have k9619 : (11 : Int32).toInt = 11 := by decide
    clear hz1
    generalize H1 = H at hP hS ⊢
    refine lv_if_eq (tgt := 36) hx hb dX12_past_15 (by decide) (fun c9620 => ?_) (fun c9620 => ?_)
    · skip
      have t9621 := cv_eq (a := r9617.toInt) rfl (b := 0) (by decide) c9620
      refine lv_iconst (v := (-1)) hx hb dX12_past_36 (by decide) ?_
      have hP9 : va_P (dC, dI) classes (wM g c v F rc) H := hP
      exact W.iret (v := (-1)) hx hb hr (fun t ht hW => ⟨⟨(-1), (v, F, rc), rfl, ⟨hI, rfl, (fun _ _ => rfl), hF, hJ⟩, (by show va_P _ _ _ t.heap; rw [ht]; exact hP9)⟩, hS.F ht⟩) hS.2.2 dX12_past_37
    · skip
      have t9622 := cv_ne (a := r9617.toInt) rfl (b := 0) (by decide) c9620
      refine lv_iload_n hx hb dX12_past_18 rfl (lv_at hl 2 rfl) ?_
      refine lv_bipush (v := 10) hx hb dX12_past_19 (by decide) ?_
      refine lv_icmp_ge (tgt := 32) hx hb dX12_past_21 (by decide) (fun c9623 => ?_) (fun c9623 => ?_)
      · skip
        have t9624 := cv_le (a := 10) (by decide) (b := p1.toInt) rfl c9623
        refine lv_iload_n hx hb dX12_past_32 rfl (lv_at hl 3 rfl) ?_
        refine lv_if_ge (tgt := 38) hx hb dX12_past_33 (by decide) (fun c9625 => ?_) (fun c9625 => ?_)
        · skip
          have t9626 := cv_le (a := 0) (by decide) (b := p2.toInt) rfl c9625
          refine lv_iload_n hx hb dX12_past_38 rfl (lv_at hl 3 rfl) ?_
          refine lv_sipush (v := 20000) hx hb dX12_past_39 (by decide) ?_
          refine lv_idiv hx hb dX12_past_42 (by decide) ?_
          refine lv_topi (fun z9627 e9628 => ?_)
          refine lv_istore (lv' := [(7, .int z9627), (0, .ref (g 0)), (1, .int p0), (2, .int p1), (3, .int p2), (4, .int p3), (5, .int p4), (6, .int p5)]) hx hb dX12_past_43 hl (by decide) rfl (fun ls hl => ?_)
          refine lv_iload_n hx hb dX12_past_45 rfl (lv_at hl 4 rfl) ?_
          refine lv_sipush (v := 20000) hx hb dX12_past_46 (by decide) ?_
          refine lv_irem hx hb dX12_past_49 (by decide) ?_
          refine lv_topi (fun z9630 e9631 => ?_)
          refine lv_istore (lv' := [(8, .int z9630), (7, .int z9627), (0, .ref (g 0)), (1, .int p0), (2, .int p1), (3, .int p2), (4, .int p3), (5, .int p4), (6, .int p5)]) hx hb dX12_past_50 hl (by decide) rfl (fun ls hl => ?_)
          refine lv_iload hx hb dX12_past_52 (lv_at hl 1 rfl) ?_
          refine lv_iconst (v := 0) hx hb dX12_past_54 (by decide) ?_
          refine lv_sipush (v := 9999) hx hb dX12_past_55 (by decide) ?_
          refine va_calli (va_runS (As := [.int z9627, .int 0, .int 9999]) (rest := []) ⟨hx, hb, hml, hown, hwd⟩ (c_X12_in l dC dI g c adK adV v F rc H.size z9627 0 9999 hg hI ) (va_cwS 3 hwd (gT wk_254 wk_252 wk_253 wk_5) rfl rfl rfl (by decide +kernel) ⟨Nat.le_of_ble_eq_true rfl, Nat.le_of_ble_eq_true rfl⟩) ⟨PM.blind, fun U hU hW => ⟨rfl, PM.at hK hE hP hS hU hW⟩⟩ rfl rfl hl.1 rfl (lv_room (Nat.le_of_ble_eq_true rfl)) dX12_past_58 ⟨Nat.le_of_ble_eq_true rfl, Nat.le_of_ble_eq_true rfl⟩) hS (fun q _ h => (freeM hS) q h) (freeM hS) (fun r9633 u t H1 locs ht hvm hw hB hz1 hk1 hS => ?_)
          unfold BM at hB
          rw [ht] at hB
          have hP : va_P (dC, dI) classes (wM g c v F rc) H1 := hB
          have hw_r9633 : (r9633.toInt = 1 ∧ (0 : Int32).toInt ≤ z9627.toInt ∧ z9627.toInt ≤ (9999 : Int32).toInt) ∨ (r9633.toInt = 0 ∧ (z9627.toInt < (0 : Int32).toInt ∨ (9999 : Int32).toInt < z9627.toInt)) := hw
          clear hw
          have k9634 : (0 : Int32).toInt = 0 := by decide
          have k9635 : (9999 : Int32).toInt = 9999 := by decide
          clear hz1
          generalize H1 = H at hP hS ⊢
          refine lv_if_eq (tgt := 110) hx hb dX12_past_61 (by decide) (fun c9636 => ?_) (fun c9636 => ?_)
          · skip
            have t9637 := cv_eq (a := r9633.toInt) rfl (b := 0) (by decide) c9636
            refine lv_iconst (v := (-1)) hx hb dX12_past_110 (by decide) ?_
            have hP9 : va_P (dC, dI) classes (wM g c v F rc) H := hP
            exact W.iret (v := (-1)) hx hb hr (fun t ht hW => ⟨⟨(-1), (v, F, rc), rfl, ⟨hI, rfl, (fun _ _ => rfl), hF, hJ⟩, (by show va_P _ _ _ t.heap; rw [ht]; exact hP9)⟩, hS.F ht⟩) hS.2.2 dX12_past_111
          · skip
            have t9638 := cv_ne (a := r9633.toInt) rfl (b := 0) (by decide) c9636
            refine lv_iload hx hb dX12_past_64 (lv_at hl 0 rfl) ?_
            refine lv_iload hx hb dX12_past_66 (lv_at hl 1 rfl) ?_
            refine lv_sipush (v := 9999) hx hb dX12_past_68 (by decide) ?_
            refine va_calli (va_runS (As := [.int z9630, .int z9627, .int 9999]) (rest := []) ⟨hx, hb, hml, hown, hwd⟩ (c_X12_in l dC dI g c adK adV v F rc H.size z9630 z9627 9999 hg hI ) (va_cwS 3 hwd (gT wk_254 wk_252 wk_253 wk_5) rfl rfl rfl (by decide +kernel) ⟨Nat.le_of_ble_eq_true rfl, Nat.le_of_ble_eq_true rfl⟩) ⟨PM.blind, fun U hU hW => ⟨rfl, PM.at hK hE hP hS hU hW⟩⟩ rfl rfl hl.1 rfl (lv_room (Nat.le_of_ble_eq_true rfl)) dX12_past_71 ⟨Nat.le_of_ble_eq_true rfl, Nat.le_of_ble_eq_true rfl⟩) hS (fun q _ h => (freeM hS) q h) (freeM hS) (fun r9639 u t H1 locs ht hvm hw hB hz1 hk1 hS => ?_)
            unfold BM at hB
            rw [ht] at hB
            have hP : va_P (dC, dI) classes (wM g c v F rc) H1 := hB
            have hw_r9639 : (r9639.toInt = 1 ∧ z9627.toInt ≤ z9630.toInt ∧ z9630.toInt ≤ (9999 : Int32).toInt) ∨ (r9639.toInt = 0 ∧ (z9630.toInt < z9627.toInt ∨ (9999 : Int32).toInt < z9630.toInt)) := hw
            clear hw
            have k9640 : (9999 : Int32).toInt = 9999 := by decide
            clear hz1
            generalize H1 = H at hP hS ⊢
            refine lv_if_eq (tgt := 110) hx hb dX12_past_74 (by decide) (fun c9641 => ?_) (fun c9641 => ?_)
            · skip
              have t9642 := cv_eq (a := r9639.toInt) rfl (b := 0) (by decide) c9641
              refine lv_iconst (v := (-1)) hx hb dX12_past_110 (by decide) ?_
              have hP9 : va_P (dC, dI) classes (wM g c v F rc) H := hP
              exact W.iret (v := (-1)) hx hb hr (fun t ht hW => ⟨⟨(-1), (v, F, rc), rfl, ⟨hI, rfl, (fun _ _ => rfl), hF, hJ⟩, (by show va_P _ _ _ t.heap; rw [ht]; exact hP9)⟩, hS.F ht⟩) hS.2.2 dX12_past_111
            · skip
              have t9643 := cv_ne (a := r9639.toInt) rfl (b := 0) (by decide) c9641
              refine lv_iload hx hb dX12_past_77 (lv_at hl 6 rfl) ?_
              refine lv_iconst (v := 0) hx hb dX12_past_79 (by decide) ?_
              refine lv_ldc (v := 99999) hx hb hown (hwd _ wk_249) dX12_past_80 ?_
              refine va_calli (va_runS (As := [.int p3, .int 0, .int 99999]) (rest := []) ⟨hx, hb, hml, hown, hwd⟩ (c_X12_in l dC dI g c adK adV v F rc H.size p3 0 99999 hg hI ) (va_cwS 3 hwd (gT wk_254 wk_252 wk_253 wk_5) rfl rfl rfl (by decide +kernel) ⟨Nat.le_of_ble_eq_true rfl, Nat.le_of_ble_eq_true rfl⟩) ⟨PM.blind, fun U hU hW => ⟨rfl, PM.at hK hE hP hS hU hW⟩⟩ rfl rfl hl.1 rfl (lv_room (Nat.le_of_ble_eq_true rfl)) dX12_past_82 ⟨Nat.le_of_ble_eq_true rfl, Nat.le_of_ble_eq_true rfl⟩) hS (fun q _ h => (freeM hS) q h) (freeM hS) (fun r9644 u t H1 locs ht hvm hw hB hz1 hk1 hS => ?_)
              unfold BM at hB
              rw [ht] at hB
              have hP : va_P (dC, dI) classes (wM g c v F rc) H1 := hB
              have hw_r9644 : (r9644.toInt = 1 ∧ (0 : Int32).toInt ≤ p3.toInt ∧ p3.toInt ≤ (99999 : Int32).toInt) ∨ (r9644.toInt = 0 ∧ (p3.toInt < (0 : Int32).toInt ∨ (99999 : Int32).toInt < p3.toInt)) := hw
              clear hw
              have k9645 : (0 : Int32).toInt = 0 := by decide
              have k9646 : (99999 : Int32).toInt = 99999 := by decide
              clear hz1
              generalize H1 = H at hP hS ⊢
              refine lv_if_eq (tgt := 110) hx hb dX12_past_85 (by decide) (fun c9647 => ?_) (fun c9647 => ?_)
              · skip
                have t9648 := cv_eq (a := r9644.toInt) rfl (b := 0) (by decide) c9647
                refine lv_iconst (v := (-1)) hx hb dX12_past_110 (by decide) ?_
                have hP9 : va_P (dC, dI) classes (wM g c v F rc) H := hP
                exact W.iret (v := (-1)) hx hb hr (fun t ht hW => ⟨⟨(-1), (v, F, rc), rfl, ⟨hI, rfl, (fun _ _ => rfl), hF, hJ⟩, (by show va_P _ _ _ t.heap; rw [ht]; exact hP9)⟩, hS.F ht⟩) hS.2.2 dX12_past_111
              · skip
                have t9649 := cv_ne (a := r9644.toInt) rfl (b := 0) (by decide) c9647
                refine lv_iload hx hb dX12_past_88 (lv_at hl 7 rfl) ?_
                refine lv_iconst (v := 0) hx hb dX12_past_90 (by decide) ?_
                refine lv_ldc (v := 99999) hx hb hown (hwd _ wk_249) dX12_past_91 ?_
                refine va_calli (va_runS (As := [.int p4, .int 0, .int 99999]) (rest := []) ⟨hx, hb, hml, hown, hwd⟩ (c_X12_in l dC dI g c adK adV v F rc H.size p4 0 99999 hg hI ) (va_cwS 3 hwd (gT wk_254 wk_252 wk_253 wk_5) rfl rfl rfl (by decide +kernel) ⟨Nat.le_of_ble_eq_true rfl, Nat.le_of_ble_eq_true rfl⟩) ⟨PM.blind, fun U hU hW => ⟨rfl, PM.at hK hE hP hS hU hW⟩⟩ rfl rfl hl.1 rfl (lv_room (Nat.le_of_ble_eq_true rfl)) dX12_past_93 ⟨Nat.le_of_ble_eq_true rfl, Nat.le_of_ble_eq_true rfl⟩) hS (fun q _ h => (freeM hS) q h) (freeM hS) (fun r9650 u t H1 locs ht hvm hw hB hz1 hk1 hS => ?_)
                unfold BM at hB
                rw [ht] at hB
                have hP : va_P (dC, dI) classes (wM g c v F rc) H1 := hB
                have hw_r9650 : (r9650.toInt = 1 ∧ (0 : Int32).toInt ≤ p4.toInt ∧ p4.toInt ≤ (99999 : Int32).toInt) ∨ (r9650.toInt = 0 ∧ (p4.toInt < (0 : Int32).toInt ∨ (99999 : Int32).toInt < p4.toInt)) := hw
                clear hw
                have k9651 : (0 : Int32).toInt = 0 := by decide
                have k9652 : (99999 : Int32).toInt = 99999 := by decide
                clear hz1
                generalize H1 = H at hP hS ⊢
                refine lv_if_eq (tgt := 110) hx hb dX12_past_96 (by decide) (fun c9653 => ?_) (fun c9653 => ?_)
                · skip
                  have t9654 := cv_eq (a := r9650.toInt) rfl (b := 0) (by decide) c9653
                  refine lv_iconst (v := (-1)) hx hb dX12_past_110 (by decide) ?_
                  have hP9 : va_P (dC, dI) classes (wM g c v F rc) H := hP
                  exact W.iret (v := (-1)) hx hb hr (fun t ht hW => ⟨⟨(-1), (v, F, rc), rfl, ⟨hI, rfl, (fun _ _ => rfl), hF, hJ⟩, (by show va_P _ _ _ t.heap; rw [ht]; exact hP9)⟩, hS.F ht⟩) hS.2.2 dX12_past_111
                · skip
                  have t9655 := cv_ne (a := r9650.toInt) rfl (b := 0) (by decide) c9653
                  refine lv_iload hx hb dX12_past_99 (lv_at hl 8 rfl) ?_
                  refine lv_iconst (v := 0) hx hb dX12_past_101 (by decide) ?_
                  refine lv_ldc (v := 99999999) hx hb hown (hwd _ wk_824) dX12_past_102 ?_
                  refine va_calli (va_runS (As := [.int p5, .int 0, .int 99999999]) (rest := []) ⟨hx, hb, hml, hown, hwd⟩ (c_X12_in l dC dI g c adK adV v F rc H.size p5 0 99999999 hg hI ) (va_cwS 3 hwd (gT wk_254 wk_252 wk_253 wk_5) rfl rfl rfl (by decide +kernel) ⟨Nat.le_of_ble_eq_true rfl, Nat.le_of_ble_eq_true rfl⟩) ⟨PM.blind, fun U hU hW => ⟨rfl, PM.at hK hE hP hS hU hW⟩⟩ rfl rfl hl.1 rfl (lv_room (Nat.le_of_ble_eq_true rfl)) dX12_past_104 ⟨Nat.le_of_ble_eq_true rfl, Nat.le_of_ble_eq_true rfl⟩) hS (fun q _ h => (freeM hS) q h) (freeM hS) (fun r9656 u t H1 locs ht hvm hw hB hz1 hk1 hS => ?_)
                  unfold BM at hB
                  rw [ht] at hB
                  have hP : va_P (dC, dI) classes (wM g c v F rc) H1 := hB
                  have hw_r9656 : (r9656.toInt = 1 ∧ (0 : Int32).toInt ≤ p5.toInt ∧ p5.toInt ≤ (99999999 : Int32).toInt) ∨ (r9656.toInt = 0 ∧ (p5.toInt < (0 : Int32).toInt ∨ (99999999 : Int32).toInt < p5.toInt)) := hw
                  clear hw
                  have k9657 : (0 : Int32).toInt = 0 := by decide
                  have k9658 : (99999999 : Int32).toInt = 99999999 := by decide
                  clear hz1
                  generalize H1 = H at hP hS ⊢
                  refine lv_if_ne (tgt := 112) hx hb dX12_past_107 (by decide) (fun c9659 => ?_) (fun c9659 => ?_)
                  · skip
                    have t9660 := cv_ne (a := r9656.toInt) rfl (b := 0) (by decide) c9659
                    refine lv_iload hx hb dX12_past_112 (lv_at hl 7 rfl) ?_
                    refine lv_iload hx hb dX12_past_114 (lv_at hl 8 rfl) ?_
                    refine lv_ldc (v := 100000) hx hb hown (hwd _ wk_825) dX12_past_116 ?_
                    refine lv_idiv hx hb dX12_past_118 (by decide) ?_
                    refine lv_topi (fun z9661 e9662 => ?_)
                    refine lv_iadd hx hb dX12_past_119 ?_
                    refine lv_topi (fun z9664 e9665 => ?_)
                    try (have t9666 := tadd e9665 (a := p4.toInt) rfl (b := z9661.toInt) rfl (by omega))
                    refine lv_sipush (v := 500) hx hb dX12_past_120 (by decide) ?_
                    refine lv_isub hx hb dX12_past_123 ?_
                    refine lv_topi (fun z9667 e9668 => ?_)
                    try (have t9669 := tsub e9668 (a := z9664.toInt) rfl (b := 500) (by decide) (by omega))
                    refine lv_istore (lv' := [(9, .int z9667), (8, .int z9630), (7, .int z9627), (0, .ref (g 0)), (1, .int p0), (2, .int p1), (3, .int p2), (4, .int p3), (5, .int p4), (6, .int p5)]) hx hb dX12_past_124 hl (by decide) rfl (fun ls hl => ?_)
                    refine lv_iload hx hb dX12_past_126 (lv_at hl 0 rfl) ?_
                    refine lv_if_ge (tgt := 133) hx hb dX12_past_128 (by decide) (fun c9670 => ?_) (fun c9670 => ?_)
                    · skip
                      have t9671 := cv_le (a := 0) (by decide) (b := z9667.toInt) rfl c9670
                      refine lv_aload_n hx hb dX12_past_133 rfl (lv_at hl 3 rfl) ?_
                      refine va_get (D := (dC, dI)) (ci := 12) (v := .int (v 19)) (C := RX12) (T := TX12) (N := 63) hx hb hwd inA_X12 hown hK hP 0 rfl rfl 19 (by decide) (hwd _ wk_494) (fun _ h9 => h9) rfl dX12_past_134 ?_
                      have t9672 : 0 ≤ (v 19).toInt ∧ (v 19).toInt ≤ 500 := hI.1 19 _ _ rfl
                      refine lv_sipush (v := 500) hx hb dX12_past_137 (by decide) ?_
                      refine lv_icmp_ne (tgt := 146) hx hb dX12_past_140 (by decide) (fun c9673 => ?_) (fun c9673 => ?_)
                      · skip
                        have t9674 := cv_ne (a := (v 19).toInt) rfl (b := 500) (by decide) c9673
                        refine lv_aload_n hx hb dX12_past_146 rfl (lv_at hl 3 rfl) ?_
                        refine va_get (D := (dC, dI)) (ci := 12) (v := .ref (g 15)) (C := RX12) (T := TX12) (N := 63) hx hb hwd inA_X12 hown hK hP 0 rfl rfl 20 (by decide) (hwd _ wk_196) (fun _ h9 => h9) rfl dX12_past_147 ?_
                        refine lv_aload_n hx hb dX12_past_150 rfl (lv_at hl 3 rfl) ?_
                        refine va_get (D := (dC, dI)) (ci := 12) (v := .int (v 19)) (C := RX12) (T := TX12) (N := 63) hx hb hwd inA_X12 hown hK hP 0 rfl rfl 19 (by decide) (hwd _ wk_494) (fun _ h9 => h9) rfl dX12_past_151 ?_
                        have t9675 : 0 ≤ (v 19).toInt ∧ (v 19).toInt ≤ 500 := hI.1 19 _ _ rfl
                        refine lv_iload_n hx hb dX12_past_154 rfl (lv_at hl 4 rfl) ?_
                        refine va_iast hx hb hK hP (DM hg) hS 15 14 rfl rfl (i := (v 19)) (x := p0) (vin (a := (v 19).toInt) rfl (by omega)) dX12_past_155 (fun H locs hP _ hS => ?_)
                        have hP := va_P_eq (sM_15 g c _ _ _ _) hP
                        have hI := IM.store hI 15 (v 19 : Int32).toNatClampNeg p0 rfl (by omega)
                        have hF := frUF (k := 15) (f := upd (F 15) (v 19 : Int32).toNatClampNeg p0) (by decide) hF
                        have st9677 : (va_up F 15 (upd (F 15) (v 19 : Int32).toNatClampNeg p0)) 15 = upd (F 15) (v 19 : Int32).toNatClampNeg p0 := va_up_self _ _ _
                        have sn9678 : ∀ k9, k9 ≠ 15 → (va_up F 15 (upd (F 15) (v 19 : Int32).toNatClampNeg p0)) k9 = F k9 := fun k9 h9 => va_up_ne _ _ h9
                        have hP : va_P (dC, dI) classes (wM g c v (va_up F 15 (upd (F 15) (v 19 : Int32).toNatClampNeg p0)) rc) H := hP
                        generalize (va_up F 15 (upd (F 15) (v 19 : Int32).toNatClampNeg p0)) = F9676 at hP hI hF st9677 sn9678
                        refine lv_aload_n hx hb dX12_past_156 rfl (lv_at hl 3 rfl) ?_
                        refine va_get (D := (dC, dI)) (ci := 12) (v := .ref (g 16)) (C := RX12) (T := TX12) (N := 63) hx hb hwd inA_X12 hown hK hP 0 rfl rfl 21 (by decide) (hwd _ wk_197) (fun _ h9 => h9) rfl dX12_past_157 ?_
                        refine lv_aload_n hx hb dX12_past_160 rfl (lv_at hl 3 rfl) ?_
                        refine va_get (D := (dC, dI)) (ci := 12) (v := .int (v 19)) (C := RX12) (T := TX12) (N := 63) hx hb hwd inA_X12 hown hK hP 0 rfl rfl 19 (by decide) (hwd _ wk_494) (fun _ h9 => h9) rfl dX12_past_161 ?_
                        have t9679 : 0 ≤ (v 19).toInt ∧ (v 19).toInt ≤ 500 := hI.1 19 _ _ rfl
                        refine lv_iload_n hx hb dX12_past_164 rfl (lv_at hl 5 rfl) ?_
                        refine va_iast hx hb hK hP (DM hg) hS 16 15 rfl rfl (i := (v 19)) (x := p1) (vin (a := (v 19).toInt) rfl (by omega)) dX12_past_165 (fun H locs hP _ hS => ?_)
                        have hP := va_P_eq (sM_16 g c _ _ _ _) hP
                        have hI := IM.store hI 16 (v 19 : Int32).toNatClampNeg p1 rfl (by omega)
                        have hF := frUF (k := 16) (f := upd (F9676 16) (v 19 : Int32).toNatClampNeg p1) (by decide) hF
                        have st9681 : (va_up F9676 16 (upd (F9676 16) (v 19 : Int32).toNatClampNeg p1)) 16 = upd (F9676 16) (v 19 : Int32).toNatClampNeg p1 := va_up_self _ _ _
                        have sn9682 : ∀ k9, k9 ≠ 16 → (va_up F9676 16 (upd (F9676 16) (v 19 : Int32).toNatClampNeg p1)) k9 = F9676 k9 := fun k9 h9 => va_up_ne _ _ h9
                        have hP : va_P (dC, dI) classes (wM g c v (va_up F9676 16 (upd (F9676 16) (v 19 : Int32).toNatClampNeg p1)) rc) H := hP
                        generalize (va_up F9676 16 (upd (F9676 16) (v 19 : Int32).toNatClampNeg p1)) = F9680 at hP hI hF st9681 sn9682
                        refine lv_aload_n hx hb dX12_past_166 rfl (lv_at hl 3 rfl) ?_
                        refine va_get (D := (dC, dI)) (ci := 12) (v := .ref (g 17)) (C := RX12) (T := TX12) (N := 63) hx hb hwd inA_X12 hown hK hP 0 rfl rfl 22 (by decide) (hwd _ wk_198) (fun _ h9 => h9) rfl dX12_past_167 ?_
                        refine lv_aload_n hx hb dX12_past_170 rfl (lv_at hl 3 rfl) ?_
                        refine va_get (D := (dC, dI)) (ci := 12) (v := .int (v 19)) (C := RX12) (T := TX12) (N := 63) hx hb hwd inA_X12 hown hK hP 0 rfl rfl 19 (by decide) (hwd _ wk_494) (fun _ h9 => h9) rfl dX12_past_171 ?_
                        have t9683 : 0 ≤ (v 19).toInt ∧ (v 19).toInt ≤ 500 := hI.1 19 _ _ rfl
                        refine lv_iload hx hb dX12_past_174 (lv_at hl 2 rfl) ?_
                        refine lv_sipush (v := 9999) hx hb dX12_past_176 (by decide) ?_
                        refine lv_isub hx hb dX12_past_179 ?_
                        refine lv_topi (fun z9684 e9685 => ?_)
                        try (have t9686 := tsub e9685 (a := z9627.toInt) rfl (b := 9999) (by decide) (by omega))
                        refine va_iast hx hb hK hP (DM hg) hS 17 16 rfl rfl (i := (v 19)) (x := z9684) (vin (a := (v 19).toInt) rfl (by omega)) dX12_past_180 (fun H locs hP _ hS => ?_)
                        have hP := va_P_eq (sM_17 g c _ _ _ _) hP
                        have hI := IM.store0 hI 17 (v 19 : Int32).toNatClampNeg z9684 rfl
                        have hF := frUF (k := 17) (f := upd (F9680 17) (v 19 : Int32).toNatClampNeg z9684) (by decide) hF
                        have st9688 : (va_up F9680 17 (upd (F9680 17) (v 19 : Int32).toNatClampNeg z9684)) 17 = upd (F9680 17) (v 19 : Int32).toNatClampNeg z9684 := va_up_self _ _ _
                        have sn9689 : ∀ k9, k9 ≠ 17 → (va_up F9680 17 (upd (F9680 17) (v 19 : Int32).toNatClampNeg z9684)) k9 = F9680 k9 := fun k9 h9 => va_up_ne _ _ h9
                        have hP : va_P (dC, dI) classes (wM g c v (va_up F9680 17 (upd (F9680 17) (v 19 : Int32).toNatClampNeg z9684)) rc) H := hP
                        generalize (va_up F9680 17 (upd (F9680 17) (v 19 : Int32).toNatClampNeg z9684)) = F9687 at hP hI hF st9688 sn9689
                        refine lv_aload_n hx hb dX12_past_181 rfl (lv_at hl 3 rfl) ?_
                        refine va_get (D := (dC, dI)) (ci := 12) (v := .ref (g 18)) (C := RX12) (T := TX12) (N := 63) hx hb hwd inA_X12 hown hK hP 0 rfl rfl 23 (by decide) (hwd _ wk_199) (fun _ h9 => h9) rfl dX12_past_182 ?_
                        refine lv_aload_n hx hb dX12_past_185 rfl (lv_at hl 3 rfl) ?_
                        refine va_get (D := (dC, dI)) (ci := 12) (v := .int (v 19)) (C := RX12) (T := TX12) (N := 63) hx hb hwd inA_X12 hown hK hP 0 rfl rfl 19 (by decide) (hwd _ wk_494) (fun _ h9 => h9) rfl dX12_past_186 ?_
                        have t9690 : 0 ≤ (v 19).toInt ∧ (v 19).toInt ≤ 500 := hI.1 19 _ _ rfl
                        refine lv_iload hx hb dX12_past_189 (lv_at hl 1 rfl) ?_
                        refine lv_sipush (v := 9999) hx hb dX12_past_191 (by decide) ?_
                        refine lv_isub hx hb dX12_past_194 ?_
                        refine lv_topi (fun z9691 e9692 => ?_)
                        try (have t9693 := tsub e9692 (a := z9630.toInt) rfl (b := 9999) (by decide) (by omega))
                        refine va_iast hx hb hK hP (DM hg) hS 18 17 rfl rfl (i := (v 19)) (x := z9691) (vin (a := (v 19).toInt) rfl (by omega)) dX12_past_195 (fun H locs hP _ hS => ?_)
                        have hP := va_P_eq (sM_18 g c _ _ _ _) hP
                        have hI := IM.store0 hI 18 (v 19 : Int32).toNatClampNeg z9691 rfl
                        have hF := frUF (k := 18) (f := upd (F9687 18) (v 19 : Int32).toNatClampNeg z9691) (by decide) hF
                        have st9695 : (va_up F9687 18 (upd (F9687 18) (v 19 : Int32).toNatClampNeg z9691)) 18 = upd (F9687 18) (v 19 : Int32).toNatClampNeg z9691 := va_up_self _ _ _
                        have sn9696 : ∀ k9, k9 ≠ 18 → (va_up F9687 18 (upd (F9687 18) (v 19 : Int32).toNatClampNeg z9691)) k9 = F9687 k9 := fun k9 h9 => va_up_ne _ _ h9
                        have hP : va_P (dC, dI) classes (wM g c v (va_up F9687 18 (upd (F9687 18) (v 19 : Int32).toNatClampNeg z9691)) rc) H := hP
                        generalize (va_up F9687 18 (upd (F9687 18) (v 19 : Int32).toNatClampNeg z9691)) = F9694 at hP hI hF st9695 sn9696
                        refine lv_aload_n hx hb dX12_past_196 rfl (lv_at hl 3 rfl) ?_
                        refine va_get (D := (dC, dI)) (ci := 12) (v := .ref (g 19)) (C := RX12) (T := TX12) (N := 63) hx hb hwd inA_X12 hown hK hP 0 rfl rfl 24 (by decide) (hwd _ wk_200) (fun _ h9 => h9) rfl dX12_past_197 ?_
                        refine lv_aload_n hx hb dX12_past_200 rfl (lv_at hl 3 rfl) ?_
                        refine va_get (D := (dC, dI)) (ci := 12) (v := .int (v 19)) (C := RX12) (T := TX12) (N := 63) hx hb hwd inA_X12 hown hK hP 0 rfl rfl 19 (by decide) (hwd _ wk_494) (fun _ h9 => h9) rfl dX12_past_201 ?_
                        have t9697 : 0 ≤ (v 19).toInt ∧ (v 19).toInt ≤ 500 := hI.1 19 _ _ rfl
                        refine lv_iload hx hb dX12_past_204 (lv_at hl 7 rfl) ?_
                        refine va_iast hx hb hK hP (DM hg) hS 19 18 rfl rfl (i := (v 19)) (x := p3) (vin (a := (v 19).toInt) rfl (by omega)) dX12_past_206 (fun H locs hP _ hS => ?_)
                        have hP := va_P_eq (sM_19 g c _ _ _ _) hP
                        have hI := IM.store0 hI 19 (v 19 : Int32).toNatClampNeg p3 rfl
                        have hF := frUF (k := 19) (f := upd (F9694 19) (v 19 : Int32).toNatClampNeg p3) (by decide) hF
                        have st9699 : (va_up F9694 19 (upd (F9694 19) (v 19 : Int32).toNatClampNeg p3)) 19 = upd (F9694 19) (v 19 : Int32).toNatClampNeg p3 := va_up_self _ _ _
                        have sn9700 : ∀ k9, k9 ≠ 19 → (va_up F9694 19 (upd (F9694 19) (v 19 : Int32).toNatClampNeg p3)) k9 = F9694 k9 := fun k9 h9 => va_up_ne _ _ h9
                        have hP : va_P (dC, dI) classes (wM g c v (va_up F9694 19 (upd (F9694 19) (v 19 : Int32).toNatClampNeg p3)) rc) H := hP
                        generalize (va_up F9694 19 (upd (F9694 19) (v 19 : Int32).toNatClampNeg p3)) = F9698 at hP hI hF st9699 sn9700
                        refine lv_aload_n hx hb dX12_past_207 rfl (lv_at hl 3 rfl) ?_
                        refine va_get (D := (dC, dI)) (ci := 12) (v := .ref (g 20)) (C := RX12) (T := TX12) (N := 63) hx hb hwd inA_X12 hown hK hP 0 rfl rfl 25 (by decide) (hwd _ wk_201) (fun _ h9 => h9) rfl dX12_past_208 ?_
                        refine lv_aload_n hx hb dX12_past_211 rfl (lv_at hl 3 rfl) ?_
                        refine va_get (D := (dC, dI)) (ci := 12) (v := .int (v 19)) (C := RX12) (T := TX12) (N := 63) hx hb hwd inA_X12 hown hK hP 0 rfl rfl 19 (by decide) (hwd _ wk_494) (fun _ h9 => h9) rfl dX12_past_212 ?_
                        have t9701 : 0 ≤ (v 19).toInt ∧ (v 19).toInt ≤ 500 := hI.1 19 _ _ rfl
                        refine lv_iload hx hb dX12_past_215 (lv_at hl 9 rfl) ?_
                        refine lv_ldc (v := 100000) hx hb hown (hwd _ wk_825) dX12_past_217 ?_
                        refine lv_irem hx hb dX12_past_219 (by decide) ?_
                        refine lv_topi (fun z9702 e9703 => ?_)
                        refine va_iast hx hb hK hP (DM hg) hS 20 19 rfl rfl (i := (v 19)) (x := z9702) (vin (a := (v 19).toInt) rfl (by omega)) dX12_past_220 (fun H locs hP _ hS => ?_)
                        have hP := va_P_eq (sM_20 g c _ _ _ _) hP
                        have hI := IM.store0 hI 20 (v 19 : Int32).toNatClampNeg z9702 rfl
                        have hF := frUF (k := 20) (f := upd (F9698 20) (v 19 : Int32).toNatClampNeg z9702) (by decide) hF
                        have st9706 : (va_up F9698 20 (upd (F9698 20) (v 19 : Int32).toNatClampNeg z9702)) 20 = upd (F9698 20) (v 19 : Int32).toNatClampNeg z9702 := va_up_self _ _ _
                        have sn9707 : ∀ k9, k9 ≠ 20 → (va_up F9698 20 (upd (F9698 20) (v 19 : Int32).toNatClampNeg z9702)) k9 = F9698 k9 := fun k9 h9 => va_up_ne _ _ h9
                        have hP : va_P (dC, dI) classes (wM g c v (va_up F9698 20 (upd (F9698 20) (v 19 : Int32).toNatClampNeg z9702)) rc) H := hP
                        generalize (va_up F9698 20 (upd (F9698 20) (v 19 : Int32).toNatClampNeg z9702)) = F9705 at hP hI hF st9706 sn9707
                        refine lv_aload_n hx hb dX12_past_221 rfl (lv_at hl 3 rfl) ?_
                        refine va_get (D := (dC, dI)) (ci := 12) (v := .ref (g 21)) (C := RX12) (T := TX12) (N := 63) hx hb hwd inA_X12 hown hK hP 0 rfl rfl 26 (by decide) (hwd _ wk_202) (fun _ h9 => h9) rfl dX12_past_222 ?_
                        refine lv_aload_n hx hb dX12_past_225 rfl (lv_at hl 3 rfl) ?_
                        refine va_get (D := (dC, dI)) (ci := 12) (v := .int (v 19)) (C := RX12) (T := TX12) (N := 63) hx hb hwd inA_X12 hown hK hP 0 rfl rfl 19 (by decide) (hwd _ wk_494) (fun _ h9 => h9) rfl dX12_past_226 ?_
                        have t9708 : 0 ≤ (v 19).toInt ∧ (v 19).toInt ≤ 500 := hI.1 19 _ _ rfl
                        refine lv_iload hx hb dX12_past_229 (lv_at hl 8 rfl) ?_
                        refine va_iast hx hb hK hP (DM hg) hS 21 20 rfl rfl (i := (v 19)) (x := p4) (vin (a := (v 19).toInt) rfl (by omega)) dX12_past_231 (fun H locs hP _ hS => ?_)
                        have hP := va_P_eq (sM_21 g c _ _ _ _) hP
                        have hI := IM.store0 hI 21 (v 19 : Int32).toNatClampNeg p4 rfl
                        have hF := frUF (k := 21) (f := upd (F9705 21) (v 19 : Int32).toNatClampNeg p4) (by decide) hF
                        have st9710 : (va_up F9705 21 (upd (F9705 21) (v 19 : Int32).toNatClampNeg p4)) 21 = upd (F9705 21) (v 19 : Int32).toNatClampNeg p4 := va_up_self _ _ _
                        have sn9711 : ∀ k9, k9 ≠ 21 → (va_up F9705 21 (upd (F9705 21) (v 19 : Int32).toNatClampNeg p4)) k9 = F9705 k9 := fun k9 h9 => va_up_ne _ _ h9
                        have hP : va_P (dC, dI) classes (wM g c v (va_up F9705 21 (upd (F9705 21) (v 19 : Int32).toNatClampNeg p4)) rc) H := hP
                        generalize (va_up F9705 21 (upd (F9705 21) (v 19 : Int32).toNatClampNeg p4)) = F9709 at hP hI hF st9710 sn9711
                        refine lv_aload_n hx hb dX12_past_232 rfl (lv_at hl 3 rfl) ?_
                        refine va_get (D := (dC, dI)) (ci := 12) (v := .ref (g 22)) (C := RX12) (T := TX12) (N := 63) hx hb hwd inA_X12 hown hK hP 0 rfl rfl 27 (by decide) (hwd _ wk_203) (fun _ h9 => h9) rfl dX12_past_233 ?_
                        refine lv_aload_n hx hb dX12_past_236 rfl (lv_at hl 3 rfl) ?_
                        refine va_get (D := (dC, dI)) (ci := 12) (v := .int (v 19)) (C := RX12) (T := TX12) (N := 63) hx hb hwd inA_X12 hown hK hP 0 rfl rfl 19 (by decide) (hwd _ wk_494) (fun _ h9 => h9) rfl dX12_past_237 ?_
                        have t9712 : 0 ≤ (v 19).toInt ∧ (v 19).toInt ≤ 500 := hI.1 19 _ _ rfl
                        refine lv_iload hx hb dX12_past_240 (lv_at hl 0 rfl) ?_
                        refine va_iast hx hb hK hP (DM hg) hS 22 21 rfl rfl (i := (v 19)) (x := z9667) (vin (a := (v 19).toInt) rfl (by omega)) dX12_past_242 (fun H locs hP _ hS => ?_)
                        have hP := va_P_eq (sM_22 g c _ _ _ _) hP
                        have hI := IM.store0 hI 22 (v 19 : Int32).toNatClampNeg z9667 rfl
                        have hF := frUF (k := 22) (f := upd (F9709 22) (v 19 : Int32).toNatClampNeg z9667) (by decide) hF
                        have st9714 : (va_up F9709 22 (upd (F9709 22) (v 19 : Int32).toNatClampNeg z9667)) 22 = upd (F9709 22) (v 19 : Int32).toNatClampNeg z9667 := va_up_self _ _ _
                        have sn9715 : ∀ k9, k9 ≠ 22 → (va_up F9709 22 (upd (F9709 22) (v 19 : Int32).toNatClampNeg z9667)) k9 = F9709 k9 := fun k9 h9 => va_up_ne _ _ h9
                        have hP : va_P (dC, dI) classes (wM g c v (va_up F9709 22 (upd (F9709 22) (v 19 : Int32).toNatClampNeg z9667)) rc) H := hP
                        generalize (va_up F9709 22 (upd (F9709 22) (v 19 : Int32).toNatClampNeg z9667)) = F9713 at hP hI hF st9714 sn9715
                        refine lv_aload_n hx hb dX12_past_243 rfl (lv_at hl 3 rfl) ?_
                        refine va_get (D := (dC, dI)) (ci := 12) (v := .ref (g 23)) (C := RX12) (T := TX12) (N := 63) hx hb hwd inA_X12 hown hK hP 0 rfl rfl 28 (by decide) (hwd _ wk_204) (fun _ h9 => h9) rfl dX12_past_244 ?_
                        refine lv_aload_n hx hb dX12_past_247 rfl (lv_at hl 3 rfl) ?_
                        refine va_get (D := (dC, dI)) (ci := 12) (v := .int (v 19)) (C := RX12) (T := TX12) (N := 63) hx hb hwd inA_X12 hown hK hP 0 rfl rfl 19 (by decide) (hwd _ wk_494) (fun _ h9 => h9) rfl dX12_past_248 ?_
                        have t9716 : 0 ≤ (v 19).toInt ∧ (v 19).toInt ≤ 500 := hI.1 19 _ _ rfl
                        refine lv_iconst (v := 0) hx hb dX12_past_251 (by decide) ?_
                        refine va_zast hx hb hK hP (DM hg) hS 23 22 rfl rfl (i := (v 19)) (x := 0) (vin (a := (v 19).toInt) rfl (by omega)) dX12_past_252 (fun H locs hP _ hS => ?_)
                        have hP := va_P_eq (sM_23 g c _ _ _ _) hP
                        have hI := IM.store0 hI 23 (v 19 : Int32).toNatClampNeg (vp_nar .boolean 0) rfl
                        have hF := frUF (k := 23) (f := upd (F9713 23) (v 19 : Int32).toNatClampNeg (vp_nar .boolean 0)) (by decide) hF
                        have st9718 : (va_up F9713 23 (upd (F9713 23) (v 19 : Int32).toNatClampNeg (vp_nar .boolean 0))) 23 = upd (F9713 23) (v 19 : Int32).toNatClampNeg (vp_nar .boolean 0) := va_up_self _ _ _
                        have sn9719 : ∀ k9, k9 ≠ 23 → (va_up F9713 23 (upd (F9713 23) (v 19 : Int32).toNatClampNeg (vp_nar .boolean 0))) k9 = F9713 k9 := fun k9 h9 => va_up_ne _ _ h9
                        have hP : va_P (dC, dI) classes (wM g c v (va_up F9713 23 (upd (F9713 23) (v 19 : Int32).toNatClampNeg (vp_nar .boolean 0))) rc) H := hP
                        generalize (va_up F9713 23 (upd (F9713 23) (v 19 : Int32).toNatClampNeg (vp_nar .boolean 0))) = F9717 at hP hI hF st9718 sn9719
                        refine lv_aload_n hx hb dX12_past_253 rfl (lv_at hl 3 rfl) ?_
                        refine lv_dup hx hb dX12_past_254 rfl ?_
                        refine va_get (D := (dC, dI)) (ci := 12) (v := .int (v 19)) (C := RX12) (T := TX12) (N := 63) hx hb hwd inA_X12 hown hK hP 0 rfl rfl 19 (by decide) (hwd _ wk_494) (fun _ h9 => h9) rfl dX12_past_255 ?_
                        have t9720 : 0 ≤ (v 19).toInt ∧ (v 19).toInt ≤ 500 := hI.1 19 _ _ rfl
                        refine lv_iconst (v := 1) hx hb dX12_past_258 (by decide) ?_
                        refine lv_iadd hx hb dX12_past_259 ?_
                        refine lv_topi (fun z9721 e9722 => ?_)
                        try (have t9723 := tadd e9722 (a := (v 19).toInt) rfl (b := 1) (by decide) (by omega))
                        refine va_put (D := (dC, dI)) (ci := 12) (v := .int z9721) (ty := .int) (C := RX12) (T := TX12) (N := 63) (fs := fsM_0 g v rc) hx hb hwd inA_X12 tyX12 tyX12_ok nmX12 hown hK hP (DM hg) hS 0 rfl rfl 19 (by decide) (hwd _ wk_494) (fun _ h9 => h9) rfl (by decide +kernel) rfl rfl (Nat.le_of_ble_eq_true rfl) dX12_past_260 (fun H locs hP _ hS => ?_)
                        have hP := va_P_eq (pM_19 g c _ _ _ _) hP
                        have hI := IM.put hI 19 z9721 rfl (by omega)
                        refine lv_aload_n hx hb dX12_past_263 rfl (lv_at hl 3 rfl) ?_
                        refine lv_iload_n hx hb dX12_past_264 rfl (lv_at hl 4 rfl) ?_
                        have t9724 : 0 ≤ z9721.toInt ∧ z9721.toInt ≤ 500 := hI.1 19 _ _ rfl
                        refine va_calli (va_runV (As := [.int p0]) (rest := []) ⟨hx, hb, hml, hown, hwd⟩ (c_X12_staysOf l dC dI g c adK adV (va_up v 19 z9721) F9717 rc H.size p0 hg hI ) (cwV 1 hwd (gV wk_720 wk_717 wk_718 wk_719 wk_5) rfl rfl rfl (by decide +kernel) ⟨Nat.le_of_ble_eq_true rfl, Nat.le_of_ble_eq_true rfl⟩) ⟨PM.blind, va_recv hK hP (ci := 12) (q0 := 0) rfl rfl, fun U hU hW => ⟨rfl, PM.at hK hE hP hS hU hW⟩⟩ rfl rfl hl.1 rfl (lv_room (Nat.le_of_ble_eq_true rfl)) dX12_past_265 ⟨Nat.le_of_ble_eq_true rfl, Nat.le_of_ble_eq_true rfl⟩) hS (fun q _ h => (freeM hS) q h) (freeM hS) (fun r9725 u t H1 locs ht hvm hw hB hz1 hk1 hS => ?_)
                        unfold BM at hB
                        rw [ht] at hB
                        have hP : va_P (dC, dI) classes (wM g c (va_up v 19 z9721) F9717 rc) H1 := hB
                        replace hw : r9725.toInt = (cnt (stP (F9717 15) p0.toInt) z9721.toNatClampNeg : Int) := hw
                        have hw_r9725 := hw
                        clear hw
                        clear hz1
                        generalize H1 = H at hP hS ⊢
                        have rr_r9725 := i32_rng r9725
                        have hP9 : va_P (dC, dI) classes (wM g c (va_up v 19 z9721) F9717 rc) H := hP
                        exact W.iret (v := r9725) hx hb hr (fun t ht hW => ⟨⟨r9725, ((va_up v 19 z9721), F9717, rc), rfl, ⟨hI, rfl, (frU (by decide) (fun _ _ => rfl)), hF, (by show JO ((va_up v 19 z9721) 14) ((va_up v 19 z9721) 19) (F9717 13) (F9717 15) (F9717 18); rw [show (va_up v 19 z9721) 14 = v 14 from rfl, show (va_up v 19 z9721) 19 = z9721 from rfl, show F9717 13 = F 13 from (hF 13 (by decide))]; exact JO.past hJ (past_has (by omega) (by omega) ((sn9719 15 (by decide)).trans ((sn9715 15 (by decide)).trans ((sn9711 15 (by decide)).trans ((sn9707 15 (by decide)).trans ((sn9700 15 (by decide)).trans ((sn9696 15 (by decide)).trans ((sn9689 15 (by decide)).trans ((sn9682 15 (by decide)).trans st9677)))))))) ((sn9719 18 (by decide)).trans ((sn9715 18 (by decide)).trans ((sn9711 18 (by decide)).trans ((sn9707 18 (by decide)).trans ((sn9700 18 (by decide)).trans (st9695.trans (congrArg (fun f => upd f (v 19 : Int32).toNatClampNeg z9691) ((sn9689 18 (by decide)).trans ((sn9682 18 (by decide)).trans (sn9678 18 (by decide)))))))))))))⟩, (by show va_P _ _ _ t.heap; rw [ht]; exact hP9)⟩, hS.F ht⟩) hS.2.2 dX12_past_268
                      · skip
                        have t9726 := cv_eq (a := (v 19).toInt) rfl (b := 500) (by decide) c9673
                        refine lv_bipush (v := (-3)) hx hb dX12_past_143 (by decide) ?_
                        have hP9 : va_P (dC, dI) classes (wM g c v F rc) H := hP
                        exact W.iret (v := (-3)) hx hb hr (fun t ht hW => ⟨⟨(-3), (v, F, rc), rfl, ⟨hI, rfl, (fun _ _ => rfl), hF, hJ⟩, (by show va_P _ _ _ t.heap; rw [ht]; exact hP9)⟩, hS.F ht⟩) hS.2.2 dX12_past_145
                    · skip
                      have t9727 := cv_nle (a := 0) (by decide) (b := z9667.toInt) rfl c9670
                      refine lv_iconst (v := (-1)) hx hb dX12_past_131 (by decide) ?_
                      have hP9 : va_P (dC, dI) classes (wM g c v F rc) H := hP
                      exact W.iret (v := (-1)) hx hb hr (fun t ht hW => ⟨⟨(-1), (v, F, rc), rfl, ⟨hI, rfl, (fun _ _ => rfl), hF, hJ⟩, (by show va_P _ _ _ t.heap; rw [ht]; exact hP9)⟩, hS.F ht⟩) hS.2.2 dX12_past_132
                  · skip
                    have t9728 := cv_eq (a := r9656.toInt) rfl (b := 0) (by decide) c9659
                    refine lv_iconst (v := (-1)) hx hb dX12_past_110 (by decide) ?_
                    have hP9 : va_P (dC, dI) classes (wM g c v F rc) H := hP
                    exact W.iret (v := (-1)) hx hb hr (fun t ht hW => ⟨⟨(-1), (v, F, rc), rfl, ⟨hI, rfl, (fun _ _ => rfl), hF, hJ⟩, (by show va_P _ _ _ t.heap; rw [ht]; exact hP9)⟩, hS.F ht⟩) hS.2.2 dX12_past_111
        · skip
          have t9729 := cv_nle (a := 0) (by decide) (b := p2.toInt) rfl c9625
          refine lv_iconst (v := (-1)) hx hb dX12_past_36 (by decide) ?_
          have hP9 : va_P (dC, dI) classes (wM g c v F rc) H := hP
          exact W.iret (v := (-1)) hx hb hr (fun t ht hW => ⟨⟨(-1), (v, F, rc), rfl, ⟨hI, rfl, (fun _ _ => rfl), hF, hJ⟩, (by show va_P _ _ _ t.heap; rw [ht]; exact hP9)⟩, hS.F ht⟩) hS.2.2 dX12_past_37
      · skip
        have t9730 := cv_nle (a := 10) (by decide) (b := p1.toInt) rfl c9623
        refine lv_aload_n hx hb dX12_past_24 rfl (lv_at hl 0 rfl) ?_
        refine lv_iload_n hx hb dX12_past_25 rfl (lv_at hl 2 rfl) ?_
        have t9731 : 0 ≤ (v 6).toInt ∧ (v 6).toInt ≤ 10 := hI.1 6 _ _ rfl
        refine va_calli (va_runV (As := [.int p1]) (rest := []) ⟨hx, hb, hml, hown, hwd⟩ (c_X12_isPlane l dC dI g c adK adV v F rc H.size p1 hg hI ) (cwV 1 hwd (gV wk_305 wk_302 wk_303 wk_304 wk_5) rfl rfl rfl (by decide +kernel) ⟨Nat.le_of_ble_eq_true rfl, Nat.le_of_ble_eq_true rfl⟩) ⟨PM.blind, va_recv hK hP (ci := 12) (q0 := 0) rfl rfl, fun U hU hW => ⟨rfl, PM.at hK hE hP hS hU hW⟩⟩ rfl rfl hl.1 rfl (lv_room (Nat.le_of_ble_eq_true rfl)) dX12_past_26 ⟨Nat.le_of_ble_eq_true rfl, Nat.le_of_ble_eq_true rfl⟩) hS (fun q _ h => (freeM hS) q h) (freeM hS) (fun r9732 u t H1 locs ht hvm hw hB hz1 hk1 hS => ?_)
        unfold BM at hB
        rw [ht] at hB
        have hP : va_P (dC, dI) classes (wM g c v F rc) H1 := hB
        replace hw : (r9732.toInt = 1 ∧ 0 ≤ p1.toInt ∧ p1.toInt < (v 6).toInt) ∨ (r9732.toInt = 0 ∧ (p1.toInt < 0 ∨ (v 6).toInt ≤ p1.toInt)) := hw
        have hw_r9732 := hw
        clear hw
        clear hz1
        generalize H1 = H at hP hS ⊢
        refine lv_if_eq (tgt := 36) hx hb dX12_past_29 (by decide) (fun c9733 => ?_) (fun c9733 => ?_)
        · skip
          have t9734 := cv_eq (a := r9732.toInt) rfl (b := 0) (by decide) c9733
          refine lv_iconst (v := (-1)) hx hb dX12_past_36 (by decide) ?_
          have hP9 : va_P (dC, dI) classes (wM g c v F rc) H := hP
          exact W.iret (v := (-1)) hx hb hr (fun t ht hW => ⟨⟨(-1), (v, F, rc), rfl, ⟨hI, rfl, (fun _ _ => rfl), hF, hJ⟩, (by show va_P _ _ _ t.heap; rw [ht]; exact hP9)⟩, hS.F ht⟩) hS.2.2 dX12_past_37
        · skip
          have t9735 := cv_ne (a := r9732.toInt) rfl (b := 0) (by decide) c9733
          refine lv_iload_n hx hb dX12_past_32 rfl (lv_at hl 3 rfl) ?_
          refine lv_if_ge (tgt := 38) hx hb dX12_past_33 (by decide) (fun c9736 => ?_) (fun c9736 => ?_)
          · skip
            have t9737 := cv_le (a := 0) (by decide) (b := p2.toInt) rfl c9736
            refine lv_iload_n hx hb dX12_past_38 rfl (lv_at hl 3 rfl) ?_
            refine lv_sipush (v := 20000) hx hb dX12_past_39 (by decide) ?_
            refine lv_idiv hx hb dX12_past_42 (by decide) ?_
            refine lv_topi (fun z9738 e9739 => ?_)
            refine lv_istore (lv' := [(7, .int z9738), (0, .ref (g 0)), (1, .int p0), (2, .int p1), (3, .int p2), (4, .int p3), (5, .int p4), (6, .int p5)]) hx hb dX12_past_43 hl (by decide) rfl (fun ls hl => ?_)
            refine lv_iload_n hx hb dX12_past_45 rfl (lv_at hl 4 rfl) ?_
            refine lv_sipush (v := 20000) hx hb dX12_past_46 (by decide) ?_
            refine lv_irem hx hb dX12_past_49 (by decide) ?_
            refine lv_topi (fun z9741 e9742 => ?_)
            refine lv_istore (lv' := [(8, .int z9741), (7, .int z9738), (0, .ref (g 0)), (1, .int p0), (2, .int p1), (3, .int p2), (4, .int p3), (5, .int p4), (6, .int p5)]) hx hb dX12_past_50 hl (by decide) rfl (fun ls hl => ?_)
            refine lv_iload hx hb dX12_past_52 (lv_at hl 1 rfl) ?_
            refine lv_iconst (v := 0) hx hb dX12_past_54 (by decide) ?_
            refine lv_sipush (v := 9999) hx hb dX12_past_55 (by decide) ?_
            refine va_calli (va_runS (As := [.int z9738, .int 0, .int 9999]) (rest := []) ⟨hx, hb, hml, hown, hwd⟩ (c_X12_in l dC dI g c adK adV v F rc H.size z9738 0 9999 hg hI ) (va_cwS 3 hwd (gT wk_254 wk_252 wk_253 wk_5) rfl rfl rfl (by decide +kernel) ⟨Nat.le_of_ble_eq_true rfl, Nat.le_of_ble_eq_true rfl⟩) ⟨PM.blind, fun U hU hW => ⟨rfl, PM.at hK hE hP hS hU hW⟩⟩ rfl rfl hl.1 rfl (lv_room (Nat.le_of_ble_eq_true rfl)) dX12_past_58 ⟨Nat.le_of_ble_eq_true rfl, Nat.le_of_ble_eq_true rfl⟩) hS (fun q _ h => (freeM hS) q h) (freeM hS) (fun r9744 u t H1 locs ht hvm hw hB hz1 hk1 hS => ?_)
            unfold BM at hB
            rw [ht] at hB
            have hP : va_P (dC, dI) classes (wM g c v F rc) H1 := hB
            have hw_r9744 : (r9744.toInt = 1 ∧ (0 : Int32).toInt ≤ z9738.toInt ∧ z9738.toInt ≤ (9999 : Int32).toInt) ∨ (r9744.toInt = 0 ∧ (z9738.toInt < (0 : Int32).toInt ∨ (9999 : Int32).toInt < z9738.toInt)) := hw
            clear hw
            have k9745 : (0 : Int32).toInt = 0 := by decide
            have k9746 : (9999 : Int32).toInt = 9999 := by decide
            clear hz1
            generalize H1 = H at hP hS ⊢
            refine lv_if_eq (tgt := 110) hx hb dX12_past_61 (by decide) (fun c9747 => ?_) (fun c9747 => ?_)
            · skip
              have t9748 := cv_eq (a := r9744.toInt) rfl (b := 0) (by decide) c9747
              refine lv_iconst (v := (-1)) hx hb dX12_past_110 (by decide) ?_
              have hP9 : va_P (dC, dI) classes (wM g c v F rc) H := hP
              exact W.iret (v := (-1)) hx hb hr (fun t ht hW => ⟨⟨(-1), (v, F, rc), rfl, ⟨hI, rfl, (fun _ _ => rfl), hF, hJ⟩, (by show va_P _ _ _ t.heap; rw [ht]; exact hP9)⟩, hS.F ht⟩) hS.2.2 dX12_past_111
            · skip
              have t9749 := cv_ne (a := r9744.toInt) rfl (b := 0) (by decide) c9747
              refine lv_iload hx hb dX12_past_64 (lv_at hl 0 rfl) ?_
              refine lv_iload hx hb dX12_past_66 (lv_at hl 1 rfl) ?_
              refine lv_sipush (v := 9999) hx hb dX12_past_68 (by decide) ?_
              refine va_calli (va_runS (As := [.int z9741, .int z9738, .int 9999]) (rest := []) ⟨hx, hb, hml, hown, hwd⟩ (c_X12_in l dC dI g c adK adV v F rc H.size z9741 z9738 9999 hg hI ) (va_cwS 3 hwd (gT wk_254 wk_252 wk_253 wk_5) rfl rfl rfl (by decide +kernel) ⟨Nat.le_of_ble_eq_true rfl, Nat.le_of_ble_eq_true rfl⟩) ⟨PM.blind, fun U hU hW => ⟨rfl, PM.at hK hE hP hS hU hW⟩⟩ rfl rfl hl.1 rfl (lv_room (Nat.le_of_ble_eq_true rfl)) dX12_past_71 ⟨Nat.le_of_ble_eq_true rfl, Nat.le_of_ble_eq_true rfl⟩) hS (fun q _ h => (freeM hS) q h) (freeM hS) (fun r9750 u t H1 locs ht hvm hw hB hz1 hk1 hS => ?_)
              unfold BM at hB
              rw [ht] at hB
              have hP : va_P (dC, dI) classes (wM g c v F rc) H1 := hB
              have hw_r9750 : (r9750.toInt = 1 ∧ z9738.toInt ≤ z9741.toInt ∧ z9741.toInt ≤ (9999 : Int32).toInt) ∨ (r9750.toInt = 0 ∧ (z9741.toInt < z9738.toInt ∨ (9999 : Int32).toInt < z9741.toInt)) := hw
              clear hw
              have k9751 : (9999 : Int32).toInt = 9999 := by decide
              clear hz1
              generalize H1 = H at hP hS ⊢
              refine lv_if_eq (tgt := 110) hx hb dX12_past_74 (by decide) (fun c9752 => ?_) (fun c9752 => ?_)
              · skip
                have t9753 := cv_eq (a := r9750.toInt) rfl (b := 0) (by decide) c9752
                refine lv_iconst (v := (-1)) hx hb dX12_past_110 (by decide) ?_
                have hP9 : va_P (dC, dI) classes (wM g c v F rc) H := hP
                exact W.iret (v := (-1)) hx hb hr (fun t ht hW => ⟨⟨(-1), (v, F, rc), rfl, ⟨hI, rfl, (fun _ _ => rfl), hF, hJ⟩, (by show va_P _ _ _ t.heap; rw [ht]; exact hP9)⟩, hS.F ht⟩) hS.2.2 dX12_past_111
              · skip
                have t9754 := cv_ne (a := r9750.toInt) rfl (b := 0) (by decide) c9752
                refine lv_iload hx hb dX12_past_77 (lv_at hl 6 rfl) ?_
                refine lv_iconst (v := 0) hx hb dX12_past_79 (by decide) ?_
                refine lv_ldc (v := 99999) hx hb hown (hwd _ wk_249) dX12_past_80 ?_
                refine va_calli (va_runS (As := [.int p3, .int 0, .int 99999]) (rest := []) ⟨hx, hb, hml, hown, hwd⟩ (c_X12_in l dC dI g c adK adV v F rc H.size p3 0 99999 hg hI ) (va_cwS 3 hwd (gT wk_254 wk_252 wk_253 wk_5) rfl rfl rfl (by decide +kernel) ⟨Nat.le_of_ble_eq_true rfl, Nat.le_of_ble_eq_true rfl⟩) ⟨PM.blind, fun U hU hW => ⟨rfl, PM.at hK hE hP hS hU hW⟩⟩ rfl rfl hl.1 rfl (lv_room (Nat.le_of_ble_eq_true rfl)) dX12_past_82 ⟨Nat.le_of_ble_eq_true rfl, Nat.le_of_ble_eq_true rfl⟩) hS (fun q _ h => (freeM hS) q h) (freeM hS) (fun r9755 u t H1 locs ht hvm hw hB hz1 hk1 hS => ?_)
                unfold BM at hB
                rw [ht] at hB
                have hP : va_P (dC, dI) classes (wM g c v F rc) H1 := hB
                have hw_r9755 : (r9755.toInt = 1 ∧ (0 : Int32).toInt ≤ p3.toInt ∧ p3.toInt ≤ (99999 : Int32).toInt) ∨ (r9755.toInt = 0 ∧ (p3.toInt < (0 : Int32).toInt ∨ (99999 : Int32).toInt < p3.toInt)) := hw
                clear hw
                have k9756 : (0 : Int32).toInt = 0 := by decide
                have k9757 : (99999 : Int32).toInt = 99999 := by decide
                clear hz1
                generalize H1 = H at hP hS ⊢
                refine lv_if_eq (tgt := 110) hx hb dX12_past_85 (by decide) (fun c9758 => ?_) (fun c9758 => ?_)
                · skip
                  have t9759 := cv_eq (a := r9755.toInt) rfl (b := 0) (by decide) c9758
                  refine lv_iconst (v := (-1)) hx hb dX12_past_110 (by decide) ?_
                  have hP9 : va_P (dC, dI) classes (wM g c v F rc) H := hP
                  exact W.iret (v := (-1)) hx hb hr (fun t ht hW => ⟨⟨(-1), (v, F, rc), rfl, ⟨hI, rfl, (fun _ _ => rfl), hF, hJ⟩, (by show va_P _ _ _ t.heap; rw [ht]; exact hP9)⟩, hS.F ht⟩) hS.2.2 dX12_past_111
                · skip
                  have t9760 := cv_ne (a := r9755.toInt) rfl (b := 0) (by decide) c9758
                  refine lv_iload hx hb dX12_past_88 (lv_at hl 7 rfl) ?_
                  refine lv_iconst (v := 0) hx hb dX12_past_90 (by decide) ?_
                  refine lv_ldc (v := 99999) hx hb hown (hwd _ wk_249) dX12_past_91 ?_
                  refine va_calli (va_runS (As := [.int p4, .int 0, .int 99999]) (rest := []) ⟨hx, hb, hml, hown, hwd⟩ (c_X12_in l dC dI g c adK adV v F rc H.size p4 0 99999 hg hI ) (va_cwS 3 hwd (gT wk_254 wk_252 wk_253 wk_5) rfl rfl rfl (by decide +kernel) ⟨Nat.le_of_ble_eq_true rfl, Nat.le_of_ble_eq_true rfl⟩) ⟨PM.blind, fun U hU hW => ⟨rfl, PM.at hK hE hP hS hU hW⟩⟩ rfl rfl hl.1 rfl (lv_room (Nat.le_of_ble_eq_true rfl)) dX12_past_93 ⟨Nat.le_of_ble_eq_true rfl, Nat.le_of_ble_eq_true rfl⟩) hS (fun q _ h => (freeM hS) q h) (freeM hS) (fun r9761 u t H1 locs ht hvm hw hB hz1 hk1 hS => ?_)
                  unfold BM at hB
                  rw [ht] at hB
                  have hP : va_P (dC, dI) classes (wM g c v F rc) H1 := hB
                  have hw_r9761 : (r9761.toInt = 1 ∧ (0 : Int32).toInt ≤ p4.toInt ∧ p4.toInt ≤ (99999 : Int32).toInt) ∨ (r9761.toInt = 0 ∧ (p4.toInt < (0 : Int32).toInt ∨ (99999 : Int32).toInt < p4.toInt)) := hw
                  clear hw
                  have k9762 : (0 : Int32).toInt = 0 := by decide
                  have k9763 : (99999 : Int32).toInt = 99999 := by decide
                  clear hz1
                  generalize H1 = H at hP hS ⊢
                  refine lv_if_eq (tgt := 110) hx hb dX12_past_96 (by decide) (fun c9764 => ?_) (fun c9764 => ?_)
                  · skip
                    have t9765 := cv_eq (a := r9761.toInt) rfl (b := 0) (by decide) c9764
                    refine lv_iconst (v := (-1)) hx hb dX12_past_110 (by decide) ?_
                    have hP9 : va_P (dC, dI) classes (wM g c v F rc) H := hP
                    exact W.iret (v := (-1)) hx hb hr (fun t ht hW => ⟨⟨(-1), (v, F, rc), rfl, ⟨hI, rfl, (fun _ _ => rfl), hF, hJ⟩, (by show va_P _ _ _ t.heap; rw [ht]; exact hP9)⟩, hS.F ht⟩) hS.2.2 dX12_past_111
                  · skip
                    have t9766 := cv_ne (a := r9761.toInt) rfl (b := 0) (by decide) c9764
                    refine lv_iload hx hb dX12_past_99 (lv_at hl 8 rfl) ?_
                    refine lv_iconst (v := 0) hx hb dX12_past_101 (by decide) ?_
                    refine lv_ldc (v := 99999999) hx hb hown (hwd _ wk_824) dX12_past_102 ?_
                    refine va_calli (va_runS (As := [.int p5, .int 0, .int 99999999]) (rest := []) ⟨hx, hb, hml, hown, hwd⟩ (c_X12_in l dC dI g c adK adV v F rc H.size p5 0 99999999 hg hI ) (va_cwS 3 hwd (gT wk_254 wk_252 wk_253 wk_5) rfl rfl rfl (by decide +kernel) ⟨Nat.le_of_ble_eq_true rfl, Nat.le_of_ble_eq_true rfl⟩) ⟨PM.blind, fun U hU hW => ⟨rfl, PM.at hK hE hP hS hU hW⟩⟩ rfl rfl hl.1 rfl (lv_room (Nat.le_of_ble_eq_true rfl)) dX12_past_104 ⟨Nat.le_of_ble_eq_true rfl, Nat.le_of_ble_eq_true rfl⟩) hS (fun q _ h => (freeM hS) q h) (freeM hS) (fun r9767 u t H1 locs ht hvm hw hB hz1 hk1 hS => ?_)
                    unfold BM at hB
                    rw [ht] at hB
                    have hP : va_P (dC, dI) classes (wM g c v F rc) H1 := hB
                    have hw_r9767 : (r9767.toInt = 1 ∧ (0 : Int32).toInt ≤ p5.toInt ∧ p5.toInt ≤ (99999999 : Int32).toInt) ∨ (r9767.toInt = 0 ∧ (p5.toInt < (0 : Int32).toInt ∨ (99999999 : Int32).toInt < p5.toInt)) := hw
                    clear hw
                    have k9768 : (0 : Int32).toInt = 0 := by decide
                    have k9769 : (99999999 : Int32).toInt = 99999999 := by decide
                    clear hz1
                    generalize H1 = H at hP hS ⊢
                    refine lv_if_ne (tgt := 112) hx hb dX12_past_107 (by decide) (fun c9770 => ?_) (fun c9770 => ?_)
                    · skip
                      have t9771 := cv_ne (a := r9767.toInt) rfl (b := 0) (by decide) c9770
                      refine lv_iload hx hb dX12_past_112 (lv_at hl 7 rfl) ?_
                      refine lv_iload hx hb dX12_past_114 (lv_at hl 8 rfl) ?_
                      refine lv_ldc (v := 100000) hx hb hown (hwd _ wk_825) dX12_past_116 ?_
                      refine lv_idiv hx hb dX12_past_118 (by decide) ?_
                      refine lv_topi (fun z9772 e9773 => ?_)
                      refine lv_iadd hx hb dX12_past_119 ?_
                      refine lv_topi (fun z9775 e9776 => ?_)
                      try (have t9777 := tadd e9776 (a := p4.toInt) rfl (b := z9772.toInt) rfl (by omega))
                      refine lv_sipush (v := 500) hx hb dX12_past_120 (by decide) ?_
                      refine lv_isub hx hb dX12_past_123 ?_
                      refine lv_topi (fun z9778 e9779 => ?_)
                      try (have t9780 := tsub e9779 (a := z9775.toInt) rfl (b := 500) (by decide) (by omega))
                      refine lv_istore (lv' := [(9, .int z9778), (8, .int z9741), (7, .int z9738), (0, .ref (g 0)), (1, .int p0), (2, .int p1), (3, .int p2), (4, .int p3), (5, .int p4), (6, .int p5)]) hx hb dX12_past_124 hl (by decide) rfl (fun ls hl => ?_)
                      refine lv_iload hx hb dX12_past_126 (lv_at hl 0 rfl) ?_
                      refine lv_if_ge (tgt := 133) hx hb dX12_past_128 (by decide) (fun c9781 => ?_) (fun c9781 => ?_)
                      · skip
                        have t9782 := cv_le (a := 0) (by decide) (b := z9778.toInt) rfl c9781
                        refine lv_aload_n hx hb dX12_past_133 rfl (lv_at hl 3 rfl) ?_
                        refine va_get (D := (dC, dI)) (ci := 12) (v := .int (v 19)) (C := RX12) (T := TX12) (N := 63) hx hb hwd inA_X12 hown hK hP 0 rfl rfl 19 (by decide) (hwd _ wk_494) (fun _ h9 => h9) rfl dX12_past_134 ?_
                        have t9783 : 0 ≤ (v 19).toInt ∧ (v 19).toInt ≤ 500 := hI.1 19 _ _ rfl
                        refine lv_sipush (v := 500) hx hb dX12_past_137 (by decide) ?_
                        refine lv_icmp_ne (tgt := 146) hx hb dX12_past_140 (by decide) (fun c9784 => ?_) (fun c9784 => ?_)
                        · skip
                          have t9785 := cv_ne (a := (v 19).toInt) rfl (b := 500) (by decide) c9784
                          refine lv_aload_n hx hb dX12_past_146 rfl (lv_at hl 3 rfl) ?_
                          refine va_get (D := (dC, dI)) (ci := 12) (v := .ref (g 15)) (C := RX12) (T := TX12) (N := 63) hx hb hwd inA_X12 hown hK hP 0 rfl rfl 20 (by decide) (hwd _ wk_196) (fun _ h9 => h9) rfl dX12_past_147 ?_
                          refine lv_aload_n hx hb dX12_past_150 rfl (lv_at hl 3 rfl) ?_
                          refine va_get (D := (dC, dI)) (ci := 12) (v := .int (v 19)) (C := RX12) (T := TX12) (N := 63) hx hb hwd inA_X12 hown hK hP 0 rfl rfl 19 (by decide) (hwd _ wk_494) (fun _ h9 => h9) rfl dX12_past_151 ?_
                          have t9786 : 0 ≤ (v 19).toInt ∧ (v 19).toInt ≤ 500 := hI.1 19 _ _ rfl
                          refine lv_iload_n hx hb dX12_past_154 rfl (lv_at hl 4 rfl) ?_
                          refine va_iast hx hb hK hP (DM hg) hS 15 14 rfl rfl (i := (v 19)) (x := p0) (vin (a := (v 19).toInt) rfl (by omega)) dX12_past_155 (fun H locs hP _ hS => ?_)
                          have hP := va_P_eq (sM_15 g c _ _ _ _) hP
                          have hI := IM.store hI 15 (v 19 : Int32).toNatClampNeg p0 rfl (by omega)
                          have hF := frUF (k := 15) (f := upd (F 15) (v 19 : Int32).toNatClampNeg p0) (by decide) hF
                          have st9788 : (va_up F 15 (upd (F 15) (v 19 : Int32).toNatClampNeg p0)) 15 = upd (F 15) (v 19 : Int32).toNatClampNeg p0 := va_up_self _ _ _
                          have sn9789 : ∀ k9, k9 ≠ 15 → (va_up F 15 (upd (F 15) (v 19 : Int32).toNatClampNeg p0)) k9 = F k9 := fun k9 h9 => va_up_ne _ _ h9
                          have hP : va_P (dC, dI) classes (wM g c v (va_up F 15 (upd (F 15) (v 19 : Int32).toNatClampNeg p0)) rc) H := hP
                          generalize (va_up F 15 (upd (F 15) (v 19 : Int32).toNatClampNeg p0)) = F9787 at hP hI hF st9788 sn9789
                          refine lv_aload_n hx hb dX12_past_156 rfl (lv_at hl 3 rfl) ?_
                          refine va_get (D := (dC, dI)) (ci := 12) (v := .ref (g 16)) (C := RX12) (T := TX12) (N := 63) hx hb hwd inA_X12 hown hK hP 0 rfl rfl 21 (by decide) (hwd _ wk_197) (fun _ h9 => h9) rfl dX12_past_157 ?_
                          refine lv_aload_n hx hb dX12_past_160 rfl (lv_at hl 3 rfl) ?_
                          refine va_get (D := (dC, dI)) (ci := 12) (v := .int (v 19)) (C := RX12) (T := TX12) (N := 63) hx hb hwd inA_X12 hown hK hP 0 rfl rfl 19 (by decide) (hwd _ wk_494) (fun _ h9 => h9) rfl dX12_past_161 ?_
                          have t9790 : 0 ≤ (v 19).toInt ∧ (v 19).toInt ≤ 500 := hI.1 19 _ _ rfl
                          refine lv_iload_n hx hb dX12_past_164 rfl (lv_at hl 5 rfl) ?_
                          refine va_iast hx hb hK hP (DM hg) hS 16 15 rfl rfl (i := (v 19)) (x := p1) (vin (a := (v 19).toInt) rfl (by omega)) dX12_past_165 (fun H locs hP _ hS => ?_)
                          have hP := va_P_eq (sM_16 g c _ _ _ _) hP
                          have hI := IM.store hI 16 (v 19 : Int32).toNatClampNeg p1 rfl (by omega)
                          have hF := frUF (k := 16) (f := upd (F9787 16) (v 19 : Int32).toNatClampNeg p1) (by decide) hF
                          have st9792 : (va_up F9787 16 (upd (F9787 16) (v 19 : Int32).toNatClampNeg p1)) 16 = upd (F9787 16) (v 19 : Int32).toNatClampNeg p1 := va_up_self _ _ _
                          have sn9793 : ∀ k9, k9 ≠ 16 → (va_up F9787 16 (upd (F9787 16) (v 19 : Int32).toNatClampNeg p1)) k9 = F9787 k9 := fun k9 h9 => va_up_ne _ _ h9
                          have hP : va_P (dC, dI) classes (wM g c v (va_up F9787 16 (upd (F9787 16) (v 19 : Int32).toNatClampNeg p1)) rc) H := hP
                          generalize (va_up F9787 16 (upd (F9787 16) (v 19 : Int32).toNatClampNeg p1)) = F9791 at hP hI hF st9792 sn9793
                          refine lv_aload_n hx hb dX12_past_166 rfl (lv_at hl 3 rfl) ?_
                          refine va_get (D := (dC, dI)) (ci := 12) (v := .ref (g 17)) (C := RX12) (T := TX12) (N := 63) hx hb hwd inA_X12 hown hK hP 0 rfl rfl 22 (by decide) (hwd _ wk_198) (fun _ h9 => h9) rfl dX12_past_167 ?_
                          refine lv_aload_n hx hb dX12_past_170 rfl (lv_at hl 3 rfl) ?_
                          refine va_get (D := (dC, dI)) (ci := 12) (v := .int (v 19)) (C := RX12) (T := TX12) (N := 63) hx hb hwd inA_X12 hown hK hP 0 rfl rfl 19 (by decide) (hwd _ wk_494) (fun _ h9 => h9) rfl dX12_past_171 ?_
                          have t9794 : 0 ≤ (v 19).toInt ∧ (v 19).toInt ≤ 500 := hI.1 19 _ _ rfl
                          refine lv_iload hx hb dX12_past_174 (lv_at hl 2 rfl) ?_
                          refine lv_sipush (v := 9999) hx hb dX12_past_176 (by decide) ?_
                          refine lv_isub hx hb dX12_past_179 ?_
                          refine lv_topi (fun z9795 e9796 => ?_)
                          try (have t9797 := tsub e9796 (a := z9738.toInt) rfl (b := 9999) (by decide) (by omega))
                          refine va_iast hx hb hK hP (DM hg) hS 17 16 rfl rfl (i := (v 19)) (x := z9795) (vin (a := (v 19).toInt) rfl (by omega)) dX12_past_180 (fun H locs hP _ hS => ?_)
                          have hP := va_P_eq (sM_17 g c _ _ _ _) hP
                          have hI := IM.store0 hI 17 (v 19 : Int32).toNatClampNeg z9795 rfl
                          have hF := frUF (k := 17) (f := upd (F9791 17) (v 19 : Int32).toNatClampNeg z9795) (by decide) hF
                          have st9799 : (va_up F9791 17 (upd (F9791 17) (v 19 : Int32).toNatClampNeg z9795)) 17 = upd (F9791 17) (v 19 : Int32).toNatClampNeg z9795 := va_up_self _ _ _
                          have sn9800 : ∀ k9, k9 ≠ 17 → (va_up F9791 17 (upd (F9791 17) (v 19 : Int32).toNatClampNeg z9795)) k9 = F9791 k9 := fun k9 h9 => va_up_ne _ _ h9
                          have hP : va_P (dC, dI) classes (wM g c v (va_up F9791 17 (upd (F9791 17) (v 19 : Int32).toNatClampNeg z9795)) rc) H := hP
                          generalize (va_up F9791 17 (upd (F9791 17) (v 19 : Int32).toNatClampNeg z9795)) = F9798 at hP hI hF st9799 sn9800
                          refine lv_aload_n hx hb dX12_past_181 rfl (lv_at hl 3 rfl) ?_
                          refine va_get (D := (dC, dI)) (ci := 12) (v := .ref (g 18)) (C := RX12) (T := TX12) (N := 63) hx hb hwd inA_X12 hown hK hP 0 rfl rfl 23 (by decide) (hwd _ wk_199) (fun _ h9 => h9) rfl dX12_past_182 ?_
                          refine lv_aload_n hx hb dX12_past_185 rfl (lv_at hl 3 rfl) ?_
                          refine va_get (D := (dC, dI)) (ci := 12) (v := .int (v 19)) (C := RX12) (T := TX12) (N := 63) hx hb hwd inA_X12 hown hK hP 0 rfl rfl 19 (by decide) (hwd _ wk_494) (fun _ h9 => h9) rfl dX12_past_186 ?_
                          have t9801 : 0 ≤ (v 19).toInt ∧ (v 19).toInt ≤ 500 := hI.1 19 _ _ rfl
                          refine lv_iload hx hb dX12_past_189 (lv_at hl 1 rfl) ?_
                          refine lv_sipush (v := 9999) hx hb dX12_past_191 (by decide) ?_
                          refine lv_isub hx hb dX12_past_194 ?_
                          refine lv_topi (fun z9802 e9803 => ?_)
                          try (have t9804 := tsub e9803 (a := z9741.toInt) rfl (b := 9999) (by decide) (by omega))
                          refine va_iast hx hb hK hP (DM hg) hS 18 17 rfl rfl (i := (v 19)) (x := z9802) (vin (a := (v 19).toInt) rfl (by omega)) dX12_past_195 (fun H locs hP _ hS => ?_)
                          have hP := va_P_eq (sM_18 g c _ _ _ _) hP
                          have hI := IM.store0 hI 18 (v 19 : Int32).toNatClampNeg z9802 rfl
                          have hF := frUF (k := 18) (f := upd (F9798 18) (v 19 : Int32).toNatClampNeg z9802) (by decide) hF
                          have st9806 : (va_up F9798 18 (upd (F9798 18) (v 19 : Int32).toNatClampNeg z9802)) 18 = upd (F9798 18) (v 19 : Int32).toNatClampNeg z9802 := va_up_self _ _ _
                          have sn9807 : ∀ k9, k9 ≠ 18 → (va_up F9798 18 (upd (F9798 18) (v 19 : Int32).toNatClampNeg z9802)) k9 = F9798 k9 := fun k9 h9 => va_up_ne _ _ h9
                          have hP : va_P (dC, dI) classes (wM g c v (va_up F9798 18 (upd (F9798 18) (v 19 : Int32).toNatClampNeg z9802)) rc) H := hP
                          generalize (va_up F9798 18 (upd (F9798 18) (v 19 : Int32).toNatClampNeg z9802)) = F9805 at hP hI hF st9806 sn9807
                          refine lv_aload_n hx hb dX12_past_196 rfl (lv_at hl 3 rfl) ?_
                          refine va_get (D := (dC, dI)) (ci := 12) (v := .ref (g 19)) (C := RX12) (T := TX12) (N := 63) hx hb hwd inA_X12 hown hK hP 0 rfl rfl 24 (by decide) (hwd _ wk_200) (fun _ h9 => h9) rfl dX12_past_197 ?_
                          refine lv_aload_n hx hb dX12_past_200 rfl (lv_at hl 3 rfl) ?_
                          refine va_get (D := (dC, dI)) (ci := 12) (v := .int (v 19)) (C := RX12) (T := TX12) (N := 63) hx hb hwd inA_X12 hown hK hP 0 rfl rfl 19 (by decide) (hwd _ wk_494) (fun _ h9 => h9) rfl dX12_past_201 ?_
                          have t9808 : 0 ≤ (v 19).toInt ∧ (v 19).toInt ≤ 500 := hI.1 19 _ _ rfl
                          refine lv_iload hx hb dX12_past_204 (lv_at hl 7 rfl) ?_
                          refine va_iast hx hb hK hP (DM hg) hS 19 18 rfl rfl (i := (v 19)) (x := p3) (vin (a := (v 19).toInt) rfl (by omega)) dX12_past_206 (fun H locs hP _ hS => ?_)
                          have hP := va_P_eq (sM_19 g c _ _ _ _) hP
                          have hI := IM.store0 hI 19 (v 19 : Int32).toNatClampNeg p3 rfl
                          have hF := frUF (k := 19) (f := upd (F9805 19) (v 19 : Int32).toNatClampNeg p3) (by decide) hF
                          have st9810 : (va_up F9805 19 (upd (F9805 19) (v 19 : Int32).toNatClampNeg p3)) 19 = upd (F9805 19) (v 19 : Int32).toNatClampNeg p3 := va_up_self _ _ _
                          have sn9811 : ∀ k9, k9 ≠ 19 → (va_up F9805 19 (upd (F9805 19) (v 19 : Int32).toNatClampNeg p3)) k9 = F9805 k9 := fun k9 h9 => va_up_ne _ _ h9
                          have hP : va_P (dC, dI) classes (wM g c v (va_up F9805 19 (upd (F9805 19) (v 19 : Int32).toNatClampNeg p3)) rc) H := hP
                          generalize (va_up F9805 19 (upd (F9805 19) (v 19 : Int32).toNatClampNeg p3)) = F9809 at hP hI hF st9810 sn9811
                          refine lv_aload_n hx hb dX12_past_207 rfl (lv_at hl 3 rfl) ?_
                          refine va_get (D := (dC, dI)) (ci := 12) (v := .ref (g 20)) (C := RX12) (T := TX12) (N := 63) hx hb hwd inA_X12 hown hK hP 0 rfl rfl 25 (by decide) (hwd _ wk_201) (fun _ h9 => h9) rfl dX12_past_208 ?_
                          refine lv_aload_n hx hb dX12_past_211 rfl (lv_at hl 3 rfl) ?_
                          refine va_get (D := (dC, dI)) (ci := 12) (v := .int (v 19)) (C := RX12) (T := TX12) (N := 63) hx hb hwd inA_X12 hown hK hP 0 rfl rfl 19 (by decide) (hwd _ wk_494) (fun _ h9 => h9) rfl dX12_past_212 ?_
                          have t9812 : 0 ≤ (v 19).toInt ∧ (v 19).toInt ≤ 500 := hI.1 19 _ _ rfl
                          refine lv_iload hx hb dX12_past_215 (lv_at hl 9 rfl) ?_
                          refine lv_ldc (v := 100000) hx hb hown (hwd _ wk_825) dX12_past_217 ?_
                          refine lv_irem hx hb dX12_past_219 (by decide) ?_
                          refine lv_topi (fun z9813 e9814 => ?_)
                          refine va_iast hx hb hK hP (DM hg) hS 20 19 rfl rfl (i := (v 19)) (x := z9813) (vin (a := (v 19).toInt) rfl (by omega)) dX12_past_220 (fun H locs hP _ hS => ?_)
                          have hP := va_P_eq (sM_20 g c _ _ _ _) hP
                          have hI := IM.store0 hI 20 (v 19 : Int32).toNatClampNeg z9813 rfl
                          have hF := frUF (k := 20) (f := upd (F9809 20) (v 19 : Int32).toNatClampNeg z9813) (by decide) hF
                          have st9817 : (va_up F9809 20 (upd (F9809 20) (v 19 : Int32).toNatClampNeg z9813)) 20 = upd (F9809 20) (v 19 : Int32).toNatClampNeg z9813 := va_up_self _ _ _
                          have sn9818 : ∀ k9, k9 ≠ 20 → (va_up F9809 20 (upd (F9809 20) (v 19 : Int32).toNatClampNeg z9813)) k9 = F9809 k9 := fun k9 h9 => va_up_ne _ _ h9
                          have hP : va_P (dC, dI) classes (wM g c v (va_up F9809 20 (upd (F9809 20) (v 19 : Int32).toNatClampNeg z9813)) rc) H := hP
                          generalize (va_up F9809 20 (upd (F9809 20) (v 19 : Int32).toNatClampNeg z9813)) = F9816 at hP hI hF st9817 sn9818
                          refine lv_aload_n hx hb dX12_past_221 rfl (lv_at hl 3 rfl) ?_
                          refine va_get (D := (dC, dI)) (ci := 12) (v := .ref (g 21)) (C := RX12) (T := TX12) (N := 63) hx hb hwd inA_X12 hown hK hP 0 rfl rfl 26 (by decide) (hwd _ wk_202) (fun _ h9 => h9) rfl dX12_past_222 ?_
                          refine lv_aload_n hx hb dX12_past_225 rfl (lv_at hl 3 rfl) ?_
                          refine va_get (D := (dC, dI)) (ci := 12) (v := .int (v 19)) (C := RX12) (T := TX12) (N := 63) hx hb hwd inA_X12 hown hK hP 0 rfl rfl 19 (by decide) (hwd _ wk_494) (fun _ h9 => h9) rfl dX12_past_226 ?_
                          have t9819 : 0 ≤ (v 19).toInt ∧ (v 19).toInt ≤ 500 := hI.1 19 _ _ rfl
                          refine lv_iload hx hb dX12_past_229 (lv_at hl 8 rfl) ?_
                          refine va_iast hx hb hK hP (DM hg) hS 21 20 rfl rfl (i := (v 19)) (x := p4) (vin (a := (v 19).toInt) rfl (by omega)) dX12_past_231 (fun H locs hP _ hS => ?_)
                          have hP := va_P_eq (sM_21 g c _ _ _ _) hP
                          have hI := IM.store0 hI 21 (v 19 : Int32).toNatClampNeg p4 rfl
                          have hF := frUF (k := 21) (f := upd (F9816 21) (v 19 : Int32).toNatClampNeg p4) (by decide) hF
                          have st9821 : (va_up F9816 21 (upd (F9816 21) (v 19 : Int32).toNatClampNeg p4)) 21 = upd (F9816 21) (v 19 : Int32).toNatClampNeg p4 := va_up_self _ _ _
                          have sn9822 : ∀ k9, k9 ≠ 21 → (va_up F9816 21 (upd (F9816 21) (v 19 : Int32).toNatClampNeg p4)) k9 = F9816 k9 := fun k9 h9 => va_up_ne _ _ h9
                          have hP : va_P (dC, dI) classes (wM g c v (va_up F9816 21 (upd (F9816 21) (v 19 : Int32).toNatClampNeg p4)) rc) H := hP
                          generalize (va_up F9816 21 (upd (F9816 21) (v 19 : Int32).toNatClampNeg p4)) = F9820 at hP hI hF st9821 sn9822
                          refine lv_aload_n hx hb dX12_past_232 rfl (lv_at hl 3 rfl) ?_
                          refine va_get (D := (dC, dI)) (ci := 12) (v := .ref (g 22)) (C := RX12) (T := TX12) (N := 63) hx hb hwd inA_X12 hown hK hP 0 rfl rfl 27 (by decide) (hwd _ wk_203) (fun _ h9 => h9) rfl dX12_past_233 ?_
                          refine lv_aload_n hx hb dX12_past_236 rfl (lv_at hl 3 rfl) ?_
                          refine va_get (D := (dC, dI)) (ci := 12) (v := .int (v 19)) (C := RX12) (T := TX12) (N := 63) hx hb hwd inA_X12 hown hK hP 0 rfl rfl 19 (by decide) (hwd _ wk_494) (fun _ h9 => h9) rfl dX12_past_237 ?_
                          have t9823 : 0 ≤ (v 19).toInt ∧ (v 19).toInt ≤ 500 := hI.1 19 _ _ rfl
                          refine lv_iload hx hb dX12_past_240 (lv_at hl 0 rfl) ?_
                          refine va_iast hx hb hK hP (DM hg) hS 22 21 rfl rfl (i := (v 19)) (x := z9778) (vin (a := (v 19).toInt) rfl (by omega)) dX12_past_242 (fun H locs hP _ hS => ?_)
                          have hP := va_P_eq (sM_22 g c _ _ _ _) hP
                          have hI := IM.store0 hI 22 (v 19 : Int32).toNatClampNeg z9778 rfl
                          have hF := frUF (k := 22) (f := upd (F9820 22) (v 19 : Int32).toNatClampNeg z9778) (by decide) hF
                          have st9825 : (va_up F9820 22 (upd (F9820 22) (v 19 : Int32).toNatClampNeg z9778)) 22 = upd (F9820 22) (v 19 : Int32).toNatClampNeg z9778 := va_up_self _ _ _
                          have sn9826 : ∀ k9, k9 ≠ 22 → (va_up F9820 22 (upd (F9820 22) (v 19 : Int32).toNatClampNeg z9778)) k9 = F9820 k9 := fun k9 h9 => va_up_ne _ _ h9
                          have hP : va_P (dC, dI) classes (wM g c v (va_up F9820 22 (upd (F9820 22) (v 19 : Int32).toNatClampNeg z9778)) rc) H := hP
                          generalize (va_up F9820 22 (upd (F9820 22) (v 19 : Int32).toNatClampNeg z9778)) = F9824 at hP hI hF st9825 sn9826
                          refine lv_aload_n hx hb dX12_past_243 rfl (lv_at hl 3 rfl) ?_
                          refine va_get (D := (dC, dI)) (ci := 12) (v := .ref (g 23)) (C := RX12) (T := TX12) (N := 63) hx hb hwd inA_X12 hown hK hP 0 rfl rfl 28 (by decide) (hwd _ wk_204) (fun _ h9 => h9) rfl dX12_past_244 ?_
                          refine lv_aload_n hx hb dX12_past_247 rfl (lv_at hl 3 rfl) ?_
                          refine va_get (D := (dC, dI)) (ci := 12) (v := .int (v 19)) (C := RX12) (T := TX12) (N := 63) hx hb hwd inA_X12 hown hK hP 0 rfl rfl 19 (by decide) (hwd _ wk_494) (fun _ h9 => h9) rfl dX12_past_248 ?_
                          have t9827 : 0 ≤ (v 19).toInt ∧ (v 19).toInt ≤ 500 := hI.1 19 _ _ rfl
                          refine lv_iconst (v := 0) hx hb dX12_past_251 (by decide) ?_
                          refine va_zast hx hb hK hP (DM hg) hS 23 22 rfl rfl (i := (v 19)) (x := 0) (vin (a := (v 19).toInt) rfl (by omega)) dX12_past_252 (fun H locs hP _ hS => ?_)
                          have hP := va_P_eq (sM_23 g c _ _ _ _) hP
                          have hI := IM.store0 hI 23 (v 19 : Int32).toNatClampNeg (vp_nar .boolean 0) rfl
                          have hF := frUF (k := 23) (f := upd (F9824 23) (v 19 : Int32).toNatClampNeg (vp_nar .boolean 0)) (by decide) hF
                          have st9829 : (va_up F9824 23 (upd (F9824 23) (v 19 : Int32).toNatClampNeg (vp_nar .boolean 0))) 23 = upd (F9824 23) (v 19 : Int32).toNatClampNeg (vp_nar .boolean 0) := va_up_self _ _ _
                          have sn9830 : ∀ k9, k9 ≠ 23 → (va_up F9824 23 (upd (F9824 23) (v 19 : Int32).toNatClampNeg (vp_nar .boolean 0))) k9 = F9824 k9 := fun k9 h9 => va_up_ne _ _ h9
                          have hP : va_P (dC, dI) classes (wM g c v (va_up F9824 23 (upd (F9824 23) (v 19 : Int32).toNatClampNeg (vp_nar .boolean 0))) rc) H := hP
                          generalize (va_up F9824 23 (upd (F9824 23) (v 19 : Int32).toNatClampNeg (vp_nar .boolean 0))) = F9828 at hP hI hF st9829 sn9830
                          refine lv_aload_n hx hb dX12_past_253 rfl (lv_at hl 3 rfl) ?_
                          refine lv_dup hx hb dX12_past_254 rfl ?_
                          refine va_get (D := (dC, dI)) (ci := 12) (v := .int (v 19)) (C := RX12) (T := TX12) (N := 63) hx hb hwd inA_X12 hown hK hP 0 rfl rfl 19 (by decide) (hwd _ wk_494) (fun _ h9 => h9) rfl dX12_past_255 ?_
                          have t9831 : 0 ≤ (v 19).toInt ∧ (v 19).toInt ≤ 500 := hI.1 19 _ _ rfl
                          refine lv_iconst (v := 1) hx hb dX12_past_258 (by decide) ?_
                          refine lv_iadd hx hb dX12_past_259 ?_
                          refine lv_topi (fun z9832 e9833 => ?_)
                          try (have t9834 := tadd e9833 (a := (v 19).toInt) rfl (b := 1) (by decide) (by omega))
                          refine va_put (D := (dC, dI)) (ci := 12) (v := .int z9832) (ty := .int) (C := RX12) (T := TX12) (N := 63) (fs := fsM_0 g v rc) hx hb hwd inA_X12 tyX12 tyX12_ok nmX12 hown hK hP (DM hg) hS 0 rfl rfl 19 (by decide) (hwd _ wk_494) (fun _ h9 => h9) rfl (by decide +kernel) rfl rfl (Nat.le_of_ble_eq_true rfl) dX12_past_260 (fun H locs hP _ hS => ?_)
                          have hP := va_P_eq (pM_19 g c _ _ _ _) hP
                          have hI := IM.put hI 19 z9832 rfl (by omega)
                          refine lv_aload_n hx hb dX12_past_263 rfl (lv_at hl 3 rfl) ?_
                          refine lv_iload_n hx hb dX12_past_264 rfl (lv_at hl 4 rfl) ?_
                          have t9835 : 0 ≤ z9832.toInt ∧ z9832.toInt ≤ 500 := hI.1 19 _ _ rfl
                          refine va_calli (va_runV (As := [.int p0]) (rest := []) ⟨hx, hb, hml, hown, hwd⟩ (c_X12_staysOf l dC dI g c adK adV (va_up v 19 z9832) F9828 rc H.size p0 hg hI ) (cwV 1 hwd (gV wk_720 wk_717 wk_718 wk_719 wk_5) rfl rfl rfl (by decide +kernel) ⟨Nat.le_of_ble_eq_true rfl, Nat.le_of_ble_eq_true rfl⟩) ⟨PM.blind, va_recv hK hP (ci := 12) (q0 := 0) rfl rfl, fun U hU hW => ⟨rfl, PM.at hK hE hP hS hU hW⟩⟩ rfl rfl hl.1 rfl (lv_room (Nat.le_of_ble_eq_true rfl)) dX12_past_265 ⟨Nat.le_of_ble_eq_true rfl, Nat.le_of_ble_eq_true rfl⟩) hS (fun q _ h => (freeM hS) q h) (freeM hS) (fun r9836 u t H1 locs ht hvm hw hB hz1 hk1 hS => ?_)
                          unfold BM at hB
                          rw [ht] at hB
                          have hP : va_P (dC, dI) classes (wM g c (va_up v 19 z9832) F9828 rc) H1 := hB
                          replace hw : r9836.toInt = (cnt (stP (F9828 15) p0.toInt) z9832.toNatClampNeg : Int) := hw
                          have hw_r9836 := hw
                          clear hw
                          clear hz1
                          generalize H1 = H at hP hS ⊢
                          have rr_r9836 := i32_rng r9836
                          have hP9 : va_P (dC, dI) classes (wM g c (va_up v 19 z9832) F9828 rc) H := hP
                          exact W.iret (v := r9836) hx hb hr (fun t ht hW => ⟨⟨r9836, ((va_up v 19 z9832), F9828, rc), rfl, ⟨hI, rfl, (frU (by decide) (fun _ _ => rfl)), hF, (by show JO ((va_up v 19 z9832) 14) ((va_up v 19 z9832) 19) (F9828 13) (F9828 15) (F9828 18); rw [show (va_up v 19 z9832) 14 = v 14 from rfl, show (va_up v 19 z9832) 19 = z9832 from rfl, show F9828 13 = F 13 from (hF 13 (by decide))]; exact JO.past hJ (past_has (by omega) (by omega) ((sn9830 15 (by decide)).trans ((sn9826 15 (by decide)).trans ((sn9822 15 (by decide)).trans ((sn9818 15 (by decide)).trans ((sn9811 15 (by decide)).trans ((sn9807 15 (by decide)).trans ((sn9800 15 (by decide)).trans ((sn9793 15 (by decide)).trans st9788)))))))) ((sn9830 18 (by decide)).trans ((sn9826 18 (by decide)).trans ((sn9822 18 (by decide)).trans ((sn9818 18 (by decide)).trans ((sn9811 18 (by decide)).trans (st9806.trans (congrArg (fun f => upd f (v 19 : Int32).toNatClampNeg z9802) ((sn9800 18 (by decide)).trans ((sn9793 18 (by decide)).trans (sn9789 18 (by decide)))))))))))))⟩, (by show va_P _ _ _ t.heap; rw [ht]; exact hP9)⟩, hS.F ht⟩) hS.2.2 dX12_past_268
                        · skip
                          have t9837 := cv_eq (a := (v 19).toInt) rfl (b := 500) (by decide) c9784
                          refine lv_bipush (v := (-3)) hx hb dX12_past_143 (by decide) ?_
                          have hP9 : va_P (dC, dI) classes (wM g c v F rc) H := hP
                          exact W.iret (v := (-3)) hx hb hr (fun t ht hW => ⟨⟨(-3), (v, F, rc), rfl, ⟨hI, rfl, (fun _ _ => rfl), hF, hJ⟩, (by show va_P _ _ _ t.heap; rw [ht]; exact hP9)⟩, hS.F ht⟩) hS.2.2 dX12_past_145
                      · skip
                        have t9838 := cv_nle (a := 0) (by decide) (b := z9778.toInt) rfl c9781
                        refine lv_iconst (v := (-1)) hx hb dX12_past_131 (by decide) ?_
                        have hP9 : va_P (dC, dI) classes (wM g c v F rc) H := hP
                        exact W.iret (v := (-1)) hx hb hr (fun t ht hW => ⟨⟨(-1), (v, F, rc), rfl, ⟨hI, rfl, (fun _ _ => rfl), hF, hJ⟩, (by show va_P _ _ _ t.heap; rw [ht]; exact hP9)⟩, hS.F ht⟩) hS.2.2 dX12_past_132
                    · skip
                      have t9839 := cv_eq (a := r9767.toInt) rfl (b := 0) (by decide) c9770
                      refine lv_iconst (v := (-1)) hx hb dX12_past_110 (by decide) ?_
                      have hP9 : va_P (dC, dI) classes (wM g c v F rc) H := hP
                      exact W.iret (v := (-1)) hx hb hr (fun t ht hW => ⟨⟨(-1), (v, F, rc), rfl, ⟨hI, rfl, (fun _ _ => rfl), hF, hJ⟩, (by show va_P _ _ _ t.heap; rw [ht]; exact hP9)⟩, hS.F ht⟩) hS.2.2 dX12_past_111
          · skip
            have t9840 := cv_nle (a := 0) (by decide) (b := p2.toInt) rfl c9736
            refine lv_iconst (v := (-1)) hx hb dX12_past_36 (by decide) ?_
            have hP9 : va_P (dC, dI) classes (wM g c v F rc) H := hP
            exact W.iret (v := (-1)) hx hb hr (fun t ht hW => ⟨⟨(-1), (v, F, rc), rfl, ⟨hI, rfl, (fun _ _ => rfl), hF, hJ⟩, (by show va_P _ _ _ t.heap; rw [ht]; exact hP9)⟩, hS.F ht⟩) hS.2.2 dX12_past_37
set_option maxHeartbeats 8000000 in
set_option maxRecDepth 100000 in
theorem c_X12_feed (l : Launch) (dC : Nat → ClassId) (dI : Nat → Nat → Nat) (g : Nat → Nat) (c : Nat → ClassId) (adK adV : Nat → Nat) (v : Nat → Int32) (F : Nat → Nat → Int32) (rc sz : Nat) (p0 : Int32) (p1 : Int32) (hg : injM g) (hI : IM v F) : Met l yX12_feed (Cond.code yX12_feed cX12_feed 4 (some .int) :: wA) ({ frames := 2, cells := 0, slots := 0, locals := 80 }) (va_Pc [.ref (g 0), .int p0, .int p1] (PM dC dI g c adK adV v F rc sz)) (va_Qi (fun (r : Int32) (u : StM) => IM u.1 u.2.1 ∧ u.2.2 = rc ∧ (∀ k, k ∉ ([30] : List Nat) → u.1 k = v k) ∧ (∀ k, k ∉ ([24] : List Nat) → u.2.1 k = F k) ∧ True) (BM dC dI g c) (AM g sz)) 0 0 (AM g sz) := by
  refine Met.ofW (cc := cX12_feed) (maxL := 4) (ret := (some .int)) (by decide) rfl ?_
  intro p e s m args below meth c0 s₁ B hml hv
  obtain ⟨rfl, hsz, hP, hK, hE⟩ := hv
  have hx := B.exec
  have hb := B.bytes
  have hr := B.returns
  have hts := atoms_spec (ws := Cond.code yX12_feed cX12_feed 4 (some .int) :: wA) B.pre
  have hwd : ∀ w ∈ wA, w.before _ s = true := fun w h => hts w (List.mem_cons_of_mem _ h)
  have hown : s.vm.findClass RX12 = some m.cls := findClass_of_methodNamed B.named
  have hlocks := B.notSynchronized
  subst hsz
  have hl := lv_entry ([.ref (g 0), .int p0, .int p1]) (n := 4) (Nat.le_of_ble_eq_true rfl)
  rw [lg_entry_eq]
  generalize (lg_sl ([.ref (g 0), .int p0, .int p1]) ++ List.replicate (4 - (lg_sl ([.ref (g 0), .int p0, .int p1])).length) Slot.unset).toArray = ls at hl ⊢
  have hl : lv_has ls 4 [(0, .ref (g 0)), (1, .int p0), (2, .int p1)] := hl
  obtain ⟨H, eH⟩ : ∃ z, z = s.heap := ⟨_, rfl⟩
  have hP : va_P (dC, dI) classes (wM g c v F rc) H := by rw [eH]; exact hP
  have hS : va_S (AM g s.heap.size) s.heap H [] := by rw [eH]; exact va_S.rf
  refine my_heap eH ?_
  have hF : ∀ k, k ∉ ([24] : List Nat) → F k = F k := fun _ _ => rfl
  have rp0 := i32_rng p0
  have rp1 := i32_rng p1
  refine lv_iload_n hx hb dX12_feed_0 rfl (lv_at hl 1 rfl) ?_
  refine lv_iconst (v := 1) hx hb dX12_feed_1 (by decide) ?_
  refine lv_iconst (v := 4) hx hb dX12_feed_2 (by decide) ?_
  refine va_calli (va_runS (As := [.int p0, .int 1, .int 4]) (rest := []) ⟨hx, hb, hml, hown, hwd⟩ (c_X12_in l dC dI g c adK adV v F rc H.size p0 1 4 hg hI ) (va_cwS 3 hwd (gT wk_254 wk_252 wk_253 wk_5) rfl rfl rfl (by decide +kernel) ⟨Nat.le_of_ble_eq_true rfl, Nat.le_of_ble_eq_true rfl⟩) ⟨PM.blind, fun U hU hW => ⟨rfl, PM.at hK hE hP hS hU hW⟩⟩ rfl rfl hl.1 rfl (lv_room (Nat.le_of_ble_eq_true rfl)) dX12_feed_3 ⟨Nat.le_of_ble_eq_true rfl, Nat.le_of_ble_eq_true rfl⟩) hS (fun q _ h => (freeM hS) q h) (freeM hS) (fun r9878 u t H1 locs ht hvm hw hB hz1 hk1 hS => ?_)
  unfold BM at hB
  rw [ht] at hB
  have hP : va_P (dC, dI) classes (wM g c v F rc) H1 := hB
  have hw_r9878 : (r9878.toInt = 1 ∧ (1 : Int32).toInt ≤ p0.toInt ∧ p0.toInt ≤ (4 : Int32).toInt) ∨ (r9878.toInt = 0 ∧ (p0.toInt < (1 : Int32).toInt ∨ (4 : Int32).toInt < p0.toInt)) := hw
  clear hw
  have k9879 : (1 : Int32).toInt = 1 := by decide
  have k9880 : (4 : Int32).toInt = 4 := by decide
  clear hz1
  generalize H1 = H at hP hS ⊢
  refine lv_if_ne (tgt := 11) hx hb dX12_feed_6 (by decide) (fun c9881 => ?_) (fun c9881 => ?_)
  · skip
    have t9882 := cv_ne (a := r9878.toInt) rfl (b := 0) (by decide) c9881
    refine lv_aload_n hx hb dX12_feed_11 rfl (lv_at hl 0 rfl) ?_
    refine va_get (D := (dC, dI)) (ci := 12) (v := .int (v 30)) (C := RX12) (T := TX12) (N := 63) hx hb hwd inA_X12 hown hK hP 0 rfl rfl 30 (by decide) (hwd _ wk_839) (fun _ h9 => h9) rfl dX12_feed_12 ?_
    have t9883 : 0 ≤ (v 30).toInt ∧ (v 30).toInt ≤ 120 := hI.1 30 _ _ rfl
    refine lv_iload_n hx hb dX12_feed_15 rfl (lv_at hl 1 rfl) ?_
    refine lv_iadd hx hb dX12_feed_16 ?_
    refine lv_topi (fun z9884 e9885 => ?_)
    try (have t9886 := tadd e9885 (a := (v 30).toInt) rfl (b := p0.toInt) rfl (by omega))
    refine lv_bipush (v := 120) hx hb dX12_feed_17 (by decide) ?_
    refine lv_icmp_le (tgt := 25) hx hb dX12_feed_19 (by decide) (fun c9887 => ?_) (fun c9887 => ?_)
    · skip
      have t9888 := cv_le (a := z9884.toInt) rfl (b := 120) (by decide) c9887
      refine lv_iconst (v := 0) hx hb dX12_feed_25 (by decide) ?_
      refine lv_istore_n (lv' := [(3, .int 0), (0, .ref (g 0)), (1, .int p0), (2, .int p1)]) hx hb dX12_feed_26 rfl hl (by decide) rfl (fun ls hl => ?_)
      have lp9889 : ∀ (n : Nat) (x3_lp9889 : Int32) (v_lp9889 : Nat → Int32) (F_lp9889 : Nat → Nat → Int32) (H : Heap) (locs : List Loc) (ls : Array Slot), (0 ≤ x3_lp9889.toInt) → ((v_lp9889 30).toInt + p0.toInt ≤ 120 + x3_lp9889.toInt) → (2147483648 - x3_lp9889.toInt ≤ (n : Int)) → (∀ k, k ∉ ([30] : List Nat) → v_lp9889 k = v k) → IM v_lp9889 F_lp9889 → (∀ k, k ∉ ([24] : List Nat) → F_lp9889 k = F k) → va_P (dC, dI) classes (wM g c v_lp9889 F_lp9889 rc) H → va_S (AM g s.heap.size) s.heap H locs → lv_has ls 4 [(3, .int x3_lp9889), (0, .ref (g 0)), (1, .int p0), (2, .int p1)] → W p l e (headSpec (Cond.code yX12_feed cX12_feed 4 (some .int) :: wA) ({ frames := 2, cells := 0, slots := 0, locals := 80 })).room s m ([.ref (g 0), .int p0, .int p1] : List Value).toArray below meth c0 H locs 0 0 (MQ below (va_Qi (fun (r : Int32) (u : StM) => IM u.1 u.2.1 ∧ u.2.2 = rc ∧ (∀ k, k ∉ ([30] : List Nat) → u.1 k = v k) ∧ (∀ k, k ∉ ([24] : List Nat) → u.2.1 k = F k) ∧ True) (BM dC dI g c) (AM g s.heap.size)) ([.ref (g 0), .int p0, .int p1] : List Value).toArray s 0 0 (AM g s.heap.size)) (F0 m 27 ls []) := by
        intro n
        induction n with
        | zero =>
          intro x3_lp9889 v_lp9889 F_lp9889 H locs ls t9890 t9891 hm hf_lp9889 hI hF hP hS hl
          exfalso
          have := i32_rng x3_lp9889
          have hI1 := hI.1
          omega
        | succ n ih_lp9889 =>
          intro x3_lp9889 v_lp9889 F_lp9889 H locs ls t9890 t9891 hm hf_lp9889 hI hF hP hS hl
          have rx3_lp9889 := i32_rng x3_lp9889
          refine lv_iload_n hx hb dX12_feed_27 rfl (lv_at hl 0 rfl) ?_
          refine lv_iload_n hx hb dX12_feed_28 rfl (lv_at hl 2 rfl) ?_
          refine lv_icmp_ge (tgt := 64) hx hb dX12_feed_29 (by decide) (fun c9892 => ?_) (fun c9892 => ?_)
          · skip
            have t9893 := cv_le (a := p0.toInt) rfl (b := x3_lp9889.toInt) rfl c9892
            refine lv_aload_n hx hb dX12_feed_64 rfl (lv_at hl 1 rfl) ?_
            refine va_get (D := (dC, dI)) (ci := 12) (v := .int (v_lp9889 30)) (C := RX12) (T := TX12) (N := 63) hx hb hwd inA_X12 hown hK hP 0 rfl rfl 30 (by decide) (hwd _ wk_839) (fun _ h9 => h9) rfl dX12_feed_65 ?_
            have t9894 : 0 ≤ (v_lp9889 30).toInt ∧ (v_lp9889 30).toInt ≤ 120 := hI.1 30 _ _ rfl
            have hP9 : va_P (dC, dI) classes (wM g c v_lp9889 F_lp9889 rc) H := hP
            exact W.iret (v := v_lp9889 30) hx hb hr (fun t ht hW => ⟨⟨(v_lp9889 30), (v_lp9889, F_lp9889, rc), rfl, ⟨hI, rfl, (frC (by decide) hf_lp9889 (fun _ _ => rfl)), hF, trivial⟩, (by show va_P _ _ _ t.heap; rw [ht]; exact hP9)⟩, hS.F ht⟩) hS.2.2 dX12_feed_68
          · skip
            have t9895 := cv_nle (a := p0.toInt) rfl (b := x3_lp9889.toInt) rfl c9892
            refine lv_aload_n hx hb dX12_feed_32 rfl (lv_at hl 1 rfl) ?_
            refine va_get (D := (dC, dI)) (ci := 12) (v := .ref (g 24)) (C := RX12) (T := TX12) (N := 63) hx hb hwd inA_X12 hown hK hP 0 rfl rfl 29 (by decide) (hwd _ wk_206) (fun _ h9 => h9) rfl dX12_feed_33 ?_
            refine lv_aload_n hx hb dX12_feed_36 rfl (lv_at hl 1 rfl) ?_
            refine va_get (D := (dC, dI)) (ci := 12) (v := .int (v_lp9889 30)) (C := RX12) (T := TX12) (N := 63) hx hb hwd inA_X12 hown hK hP 0 rfl rfl 30 (by decide) (hwd _ wk_839) (fun _ h9 => h9) rfl dX12_feed_37 ?_
            have t9896 : 0 ≤ (v_lp9889 30).toInt ∧ (v_lp9889 30).toInt ≤ 120 := hI.1 30 _ _ rfl
            refine lv_iload_n hx hb dX12_feed_40 rfl (lv_at hl 3 rfl) ?_
            refine lv_bipush (v := 8) hx hb dX12_feed_41 (by decide) ?_
            refine lv_iload_n hx hb dX12_feed_43 rfl (lv_at hl 0 rfl) ?_
            refine lv_imul hx hb dX12_feed_44 ?_
            refine lv_topi (fun z9897 e9898 => ?_)
            try (have t9899 := tmul e9898 (a := 8) (by decide) (b := x3_lp9889.toInt) rfl (by omega))
            refine lv_ishr hx hb dX12_feed_45 ?_
            refine lv_topi (fun z9900 e9901 => ?_)
            refine lv_i2b hx hb dX12_feed_46 rfl ?_
            refine lv_topi (fun z9903 e9904 => ?_)
            refine va_bast hx hb hK hP (DM hg) hS 24 23 rfl rfl (i := (v_lp9889 30)) (x := z9903) (vin (a := (v_lp9889 30).toInt) rfl (by omega)) dX12_feed_47 (fun H locs hP _ hS => ?_)
            have hP := va_P_eq (sM_24 g c _ _ _ _) hP
            have hI := IM.store0 hI 24 (v_lp9889 30 : Int32).toNatClampNeg (vp_nar .byte z9903) rfl
            have hF := frUF (k := 24) (f := upd (F_lp9889 24) (v_lp9889 30 : Int32).toNatClampNeg (vp_nar .byte z9903)) (by decide) hF
            have hP : va_P (dC, dI) classes (wM g c v_lp9889 (va_up F_lp9889 24 (upd (F_lp9889 24) (v_lp9889 30 : Int32).toNatClampNeg (vp_nar .byte z9903))) rc) H := hP
            generalize (va_up F_lp9889 24 (upd (F_lp9889 24) (v_lp9889 30 : Int32).toNatClampNeg (vp_nar .byte z9903))) = F9905 at hP hI hF
            refine lv_aload_n hx hb dX12_feed_48 rfl (lv_at hl 1 rfl) ?_
            refine lv_dup hx hb dX12_feed_49 rfl ?_
            refine va_get (D := (dC, dI)) (ci := 12) (v := .int (v_lp9889 30)) (C := RX12) (T := TX12) (N := 63) hx hb hwd inA_X12 hown hK hP 0 rfl rfl 30 (by decide) (hwd _ wk_839) (fun _ h9 => h9) rfl dX12_feed_50 ?_
            have t9906 : 0 ≤ (v_lp9889 30).toInt ∧ (v_lp9889 30).toInt ≤ 120 := hI.1 30 _ _ rfl
            refine lv_iconst (v := 1) hx hb dX12_feed_53 (by decide) ?_
            refine lv_iadd hx hb dX12_feed_54 ?_
            refine lv_topi (fun z9907 e9908 => ?_)
            try (have t9909 := tadd e9908 (a := (v_lp9889 30).toInt) rfl (b := 1) (by decide) (by omega))
            refine va_put (D := (dC, dI)) (ci := 12) (v := .int z9907) (ty := .int) (C := RX12) (T := TX12) (N := 63) (fs := fsM_0 g v_lp9889 rc) hx hb hwd inA_X12 tyX12 tyX12_ok nmX12 hown hK hP (DM hg) hS 0 rfl rfl 30 (by decide) (hwd _ wk_839) (fun _ h9 => h9) rfl (by decide +kernel) rfl rfl (Nat.le_of_ble_eq_true rfl) dX12_feed_55 (fun H locs hP _ hS => ?_)
            have hP := va_P_eq (pM_30 g c _ _ _ _) hP
            have hI := IM.put hI 30 z9907 rfl (by omega)
            obtain ⟨z9910, e9911⟩ : ∃ y : Int32, y = x3_lp9889 + 1 := ⟨_, rfl⟩
            try (have t9912 := tadd e9911 rfl (b := 1) (by decide) (by omega))
            refine lv_iinc (v := z9910) (lv' := [(3, .int z9910), (0, .ref (g 0)), (1, .int p0), (2, .int p1)]) hx hb dX12_feed_58 hl (k := 0) rfl (by rw [e9911]; rfl) (by decide) rfl (fun ls hl => ?_)
            refine lv_goto (tgt := 27) hx hb dX12_feed_61 (by decide) ?_
            exact ih_lp9889 z9910 (va_up v_lp9889 30 z9907) F9905 _ _ _ (by omega) (by have h9 : (va_up v_lp9889 30 z9907) 30 = z9907 := rfl; (try rw [h9]); clear h9; omega) (by omega) (frU (by decide) hf_lp9889) hI hF hP hS (lv_sub hl [0, 1, 2, 3] rfl)
      obtain ⟨n9, hn9⟩ : ∃ n : Nat, 2147483648 - 0 ≤ (n : Int) := ⟨((2147483648 - 0 : Int)).toNat, by omega⟩
      exact lp9889 n9 0 v F H _ ls (by have : (0 : Int32).toInt = 0 := (by decide); omega) (by have h9 : v 30 = v 30 := rfl; (try rw [h9]); clear h9; have : (0 : Int32).toInt = 0 := (by decide); omega) (by have : (0 : Int32).toInt = 0 := (by decide); omega) (fun _ _ => rfl) hI hF hP hS hl
    · skip
      have t9913 := cv_nle (a := z9884.toInt) rfl (b := 120) (by decide) c9887
      refine lv_bipush (v := (-3)) hx hb dX12_feed_22 (by decide) ?_
      have hP9 : va_P (dC, dI) classes (wM g c v F rc) H := hP
      exact W.iret (v := (-3)) hx hb hr (fun t ht hW => ⟨⟨(-3), (v, F, rc), rfl, ⟨hI, rfl, (fun _ _ => rfl), hF, trivial⟩, (by show va_P _ _ _ t.heap; rw [ht]; exact hP9)⟩, hS.F ht⟩) hS.2.2 dX12_feed_24
  · skip
    have t9914 := cv_eq (a := r9878.toInt) rfl (b := 0) (by decide) c9881
    refine lv_iconst (v := (-1)) hx hb dX12_feed_9 (by decide) ?_
    have hP9 : va_P (dC, dI) classes (wM g c v F rc) H := hP
    exact W.iret (v := (-1)) hx hb hr (fun t ht hW => ⟨⟨(-1), (v, F, rc), rfl, ⟨hI, rfl, (fun _ _ => rfl), hF, trivial⟩, (by show va_P _ _ _ t.heap; rw [ht]; exact hP9)⟩, hS.F ht⟩) hS.2.2 dX12_feed_10
