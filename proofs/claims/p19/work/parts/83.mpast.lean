set_option maxHeartbeats 8000000 in
set_option maxRecDepth 100000 in
theorem c_X12_past (l : Launch) (dC : Nat → ClassId) (dI : Nat → Nat → Nat) (g : Nat → Nat) (c : Nat → ClassId) (adK adV : Nat → Nat) (v : Nat → Int32) (F : Nat → Nat → Int32) (rc sz : Nat) (p0 : Int32) (p1 : Int32) (p2 : Int32) (p3 : Int32) (p4 : Int32) (p5 : Int32) (hg : injM g) (hI : IM v F) (hJ : JO (v 14) (v 19) (F 13) (F 15) (F 18)) : Met l yX12_past (Cond.code yX12_past cX12_past 10 (some .int) :: wA) ({ frames := 3, cells := 0, slots := 0, locals := 120 }) (va_Pc [.ref (g 0), .int p0, .int p1, .int p2, .int p3, .int p4, .int p5] (PM dC dI g c adK adV v F rc sz)) (va_Qi (fun (r : Int32) (u : StM) => IM u.1 u.2.1 ∧ u.2.2 = rc ∧ (∀ k, k ∉ ([19] : List Nat) → u.1 k = v k) ∧ (∀ k, k ∉ ([15, 16, 17, 18, 19, 20, 21, 22, 23] : List Nat) → u.2.1 k = F k) ∧ JO (u.1 14) (u.1 19) (u.2.1 13) (u.2.1 15) (u.2.1 18)) (BM dC dI g c) (AM g sz)) 0 0 (AM g sz) := by
  refine Met.ofW (cc := cX12_past) (maxL := 10) (ret := (some .int)) (by decide) rfl ?_
  intro p e s m args below meth c0 s₁ B hml hv
  obtain ⟨rfl, hsz, hP, hK, hE⟩ := hv
  have hx := B.exec
  have hb := B.bytes
  have hr := B.returns
  have hts := atoms_spec (ws := Cond.code yX12_past cX12_past 10 (some .int) :: wA) B.pre
  have hwd : ∀ w ∈ wA, w.before _ s = true := fun w h => hts w (List.mem_cons_of_mem _ h)
  have hown : s.vm.findClass RX12 = some m.cls := findClass_of_methodNamed B.named
  have hlocks := B.notSynchronized
  subst hsz
  have hl := lv_entry ([.ref (g 0), .int p0, .int p1, .int p2, .int p3, .int p4, .int p5]) (n := 10) (Nat.le_of_ble_eq_true rfl)
  rw [lg_entry_eq]
  generalize (lg_sl ([.ref (g 0), .int p0, .int p1, .int p2, .int p3, .int p4, .int p5]) ++ List.replicate (10 - (lg_sl ([.ref (g 0), .int p0, .int p1, .int p2, .int p3, .int p4, .int p5])).length) Slot.unset).toArray = ls at hl ⊢
  have hl : lv_has ls 10 [(0, .ref (g 0)), (1, .int p0), (2, .int p1), (3, .int p2), (4, .int p3), (5, .int p4), (6, .int p5)] := hl
  obtain ⟨H, eH⟩ : ∃ z, z = s.heap := ⟨_, rfl⟩
  have hP : va_P (dC, dI) classes (wM g c v F rc) H := by rw [eH]; exact hP
  have hS : va_S (AM g s.heap.size) s.heap H [] := by rw [eH]; exact va_S.rf
  refine my_heap eH ?_
  have hF : ∀ k, k ∉ ([15, 16, 17, 18, 19, 20, 21, 22, 23] : List Nat) → F k = F k := fun _ _ => rfl
  have rp0 := i32_rng p0
  have rp1 := i32_rng p1
  have rp2 := i32_rng p2
  have rp3 := i32_rng p3
  have rp4 := i32_rng p4
  have rp5 := i32_rng p5
  have hb14 : 0 ≤ (v 14).toInt ∧ (v 14).toInt ≤ 100 := hI.1 14 _ _ rfl
  have hb19 : 0 ≤ (v 19).toInt ∧ (v 19).toInt ≤ 500 := hI.1 19 _ _ rfl
  refine lv_aload_n hx hb dX12_past_0 rfl (lv_at hl 0 rfl) ?_
  refine lv_iload_n hx hb dX12_past_1 rfl (lv_at hl 1 rfl) ?_
  have t7258 : 0 ≤ (v 14).toInt ∧ (v 14).toInt ≤ 100 := hI.1 14 _ _ rfl
  refine va_calli (va_runV (As := [.int p0]) (rest := []) ⟨hx, hb, hml, hown, hwd⟩ (c_X12_isPart l dC dI g c adK adV v F rc H.size p0 hg hI ) (cwV 1 hwd (gV wk_631 wk_628 wk_629 wk_630 wk_5) rfl rfl rfl (by decide +kernel) ⟨Nat.le_of_ble_eq_true rfl, Nat.le_of_ble_eq_true rfl⟩) ⟨PM.blind, va_recv hK hP (ci := 12) (q0 := 0) rfl rfl, fun U hU hW => ⟨rfl, PM.at hK hE hP hS hU hW⟩⟩ rfl rfl hl.1 rfl (lv_room (Nat.le_of_ble_eq_true rfl)) dX12_past_2 ⟨Nat.le_of_ble_eq_true rfl, Nat.le_of_ble_eq_true rfl⟩) hS (fun q _ h => (freeM hS) q h) (freeM hS) (fun r7259 u t H1 locs ht hvm hw hB hz1 hk1 hS => ?_)
  unfold BM at hB
  rw [ht] at hB
  have hP : va_P (dC, dI) classes (wM g c v F rc) H1 := hB
  replace hw : (r7259.toInt = 1 ∧ 0 ≤ p0.toInt ∧ p0.toInt < (v 14).toInt) ∨ (r7259.toInt = 0 ∧ (p0.toInt < 0 ∨ (v 14).toInt ≤ p0.toInt)) := hw
  have hw_r7259 := hw
  clear hw
  clear hz1
  generalize H1 = H at hP hS ⊢
  refine lv_if_eq (tgt := 36) hx hb dX12_past_5 (by decide) (fun c7260 => ?_) (fun c7260 => ?_)
  · skip
    have t7261 := cv_eq (a := r7259.toInt) rfl (b := 0) (by decide) c7260
    refine lv_iconst (v := (-1)) hx hb dX12_past_36 (by decide) ?_
    have hP9 : va_P (dC, dI) classes (wM g c v F rc) H := hP
    exact W.iret (v := (-1)) hx hb hr (fun t ht hW => ⟨⟨(-1), (v, F, rc), rfl, ⟨hI, rfl, (fun _ _ => rfl), hF, hJ⟩, (by show va_P _ _ _ t.heap; rw [ht]; exact hP9)⟩, hS.F ht⟩) hS.2.2 dX12_past_37
  · skip
    have t7262 := cv_ne (a := r7259.toInt) rfl (b := 0) (by decide) c7260
    refine lv_iload_n hx hb dX12_past_8 rfl (lv_at hl 2 rfl) ?_
    refine lv_iconst (v := 0) hx hb dX12_past_9 (by decide) ?_
    refine lv_bipush (v := 11) hx hb dX12_past_10 (by decide) ?_
    refine va_calli (va_runS (As := [.int p1, .int 0, .int 11]) (rest := []) ⟨hx, hb, hml, hown, hwd⟩ (c_X12_in l dC dI g c adK adV v F rc H.size p1 0 11 hg hI ) (va_cwS 3 hwd (gT wk_254 wk_252 wk_253 wk_5) rfl rfl rfl (by decide +kernel) ⟨Nat.le_of_ble_eq_true rfl, Nat.le_of_ble_eq_true rfl⟩) ⟨PM.blind, fun U hU hW => ⟨rfl, PM.at hK hE hP hS hU hW⟩⟩ rfl rfl hl.1 rfl (lv_room (Nat.le_of_ble_eq_true rfl)) dX12_past_12 ⟨Nat.le_of_ble_eq_true rfl, Nat.le_of_ble_eq_true rfl⟩) hS (fun q _ h => (freeM hS) q h) (freeM hS) (fun r7263 u t H1 locs ht hvm hw hB hz1 hk1 hS => ?_)
    unfold BM at hB
    rw [ht] at hB
    have hP : va_P (dC, dI) classes (wM g c v F rc) H1 := hB
    have hw_r7263 : (r7263.toInt = 1 ∧ (0 : Int32).toInt ≤ p1.toInt ∧ p1.toInt ≤ (11 : Int32).toInt) ∨ (r7263.toInt = 0 ∧ (p1.toInt < (0 : Int32).toInt ∨ (11 : Int32).toInt < p1.toInt)) := hw
    clear hw
    have k7264 : (0 : Int32).toInt = 0 := by decide
    have k7265 : (11 : Int32).toInt = 11 := by decide
    clear hz1
    generalize H1 = H at hP hS ⊢
    refine lv_if_eq (tgt := 36) hx hb dX12_past_15 (by decide) (fun c7266 => ?_) (fun c7266 => ?_)
    · skip
      have t7267 := cv_eq (a := r7263.toInt) rfl (b := 0) (by decide) c7266
      refine lv_iconst (v := (-1)) hx hb dX12_past_36 (by decide) ?_
      have hP9 : va_P (dC, dI) classes (wM g c v F rc) H := hP
      exact W.iret (v := (-1)) hx hb hr (fun t ht hW => ⟨⟨(-1), (v, F, rc), rfl, ⟨hI, rfl, (fun _ _ => rfl), hF, hJ⟩, (by show va_P _ _ _ t.heap; rw [ht]; exact hP9)⟩, hS.F ht⟩) hS.2.2 dX12_past_37
    · skip
      have t7268 := cv_ne (a := r7263.toInt) rfl (b := 0) (by decide) c7266
      refine lv_iload_n hx hb dX12_past_18 rfl (lv_at hl 2 rfl) ?_
      refine lv_bipush (v := 10) hx hb dX12_past_19 (by decide) ?_
      refine lv_icmp_ge (tgt := 32) hx hb dX12_past_21 (by decide) (fun c7269 => ?_) (fun c7269 => ?_)
      · skip
        have t7270 := cv_le (a := 10) (by decide) (b := p1.toInt) rfl c7269
        refine lv_iload_n hx hb dX12_past_32 rfl (lv_at hl 3 rfl) ?_
        refine lv_if_ge (tgt := 38) hx hb dX12_past_33 (by decide) (fun c7271 => ?_) (fun c7271 => ?_)
        · skip
          have t7272 := cv_le (a := 0) (by decide) (b := p2.toInt) rfl c7271
          refine lv_iload_n hx hb dX12_past_38 rfl (lv_at hl 3 rfl) ?_
          refine lv_sipush (v := 20000) hx hb dX12_past_39 (by decide) ?_
          refine lv_idiv hx hb dX12_past_42 (by decide) ?_
          refine lv_topi (fun z7273 e7274 => ?_)
          refine lv_istore (lv' := [(7, .int z7273), (0, .ref (g 0)), (1, .int p0), (2, .int p1), (3, .int p2), (4, .int p3), (5, .int p4), (6, .int p5)]) hx hb dX12_past_43 hl (by decide) rfl (fun ls hl => ?_)
          refine lv_iload_n hx hb dX12_past_45 rfl (lv_at hl 4 rfl) ?_
          refine lv_sipush (v := 20000) hx hb dX12_past_46 (by decide) ?_
          refine lv_irem hx hb dX12_past_49 (by decide) ?_
          refine lv_topi (fun z7276 e7277 => ?_)
          refine lv_istore (lv' := [(8, .int z7276), (7, .int z7273), (0, .ref (g 0)), (1, .int p0), (2, .int p1), (3, .int p2), (4, .int p3), (5, .int p4), (6, .int p5)]) hx hb dX12_past_50 hl (by decide) rfl (fun ls hl => ?_)
          refine lv_iload hx hb dX12_past_52 (lv_at hl 1 rfl) ?_
          refine lv_iconst (v := 0) hx hb dX12_past_54 (by decide) ?_
          refine lv_sipush (v := 9999) hx hb dX12_past_55 (by decide) ?_
          refine va_calli (va_runS (As := [.int z7273, .int 0, .int 9999]) (rest := []) ⟨hx, hb, hml, hown, hwd⟩ (c_X12_in l dC dI g c adK adV v F rc H.size z7273 0 9999 hg hI ) (va_cwS 3 hwd (gT wk_254 wk_252 wk_253 wk_5) rfl rfl rfl (by decide +kernel) ⟨Nat.le_of_ble_eq_true rfl, Nat.le_of_ble_eq_true rfl⟩) ⟨PM.blind, fun U hU hW => ⟨rfl, PM.at hK hE hP hS hU hW⟩⟩ rfl rfl hl.1 rfl (lv_room (Nat.le_of_ble_eq_true rfl)) dX12_past_58 ⟨Nat.le_of_ble_eq_true rfl, Nat.le_of_ble_eq_true rfl⟩) hS (fun q _ h => (freeM hS) q h) (freeM hS) (fun r7279 u t H1 locs ht hvm hw hB hz1 hk1 hS => ?_)
          unfold BM at hB
          rw [ht] at hB
          have hP : va_P (dC, dI) classes (wM g c v F rc) H1 := hB
          have hw_r7279 : (r7279.toInt = 1 ∧ (0 : Int32).toInt ≤ z7273.toInt ∧ z7273.toInt ≤ (9999 : Int32).toInt) ∨ (r7279.toInt = 0 ∧ (z7273.toInt < (0 : Int32).toInt ∨ (9999 : Int32).toInt < z7273.toInt)) := hw
          clear hw
          have k7280 : (0 : Int32).toInt = 0 := by decide
          have k7281 : (9999 : Int32).toInt = 9999 := by decide
          clear hz1
          generalize H1 = H at hP hS ⊢
          refine lv_if_eq (tgt := 110) hx hb dX12_past_61 (by decide) (fun c7282 => ?_) (fun c7282 => ?_)
          · skip
            have t7283 := cv_eq (a := r7279.toInt) rfl (b := 0) (by decide) c7282
            refine lv_iconst (v := (-1)) hx hb dX12_past_110 (by decide) ?_
            have hP9 : va_P (dC, dI) classes (wM g c v F rc) H := hP
            exact W.iret (v := (-1)) hx hb hr (fun t ht hW => ⟨⟨(-1), (v, F, rc), rfl, ⟨hI, rfl, (fun _ _ => rfl), hF, hJ⟩, (by show va_P _ _ _ t.heap; rw [ht]; exact hP9)⟩, hS.F ht⟩) hS.2.2 dX12_past_111
          · skip
            have t7284 := cv_ne (a := r7279.toInt) rfl (b := 0) (by decide) c7282
            refine lv_iload hx hb dX12_past_64 (lv_at hl 0 rfl) ?_
            refine lv_iload hx hb dX12_past_66 (lv_at hl 1 rfl) ?_
            refine lv_sipush (v := 9999) hx hb dX12_past_68 (by decide) ?_
            refine va_calli (va_runS (As := [.int z7276, .int z7273, .int 9999]) (rest := []) ⟨hx, hb, hml, hown, hwd⟩ (c_X12_in l dC dI g c adK adV v F rc H.size z7276 z7273 9999 hg hI ) (va_cwS 3 hwd (gT wk_254 wk_252 wk_253 wk_5) rfl rfl rfl (by decide +kernel) ⟨Nat.le_of_ble_eq_true rfl, Nat.le_of_ble_eq_true rfl⟩) ⟨PM.blind, fun U hU hW => ⟨rfl, PM.at hK hE hP hS hU hW⟩⟩ rfl rfl hl.1 rfl (lv_room (Nat.le_of_ble_eq_true rfl)) dX12_past_71 ⟨Nat.le_of_ble_eq_true rfl, Nat.le_of_ble_eq_true rfl⟩) hS (fun q _ h => (freeM hS) q h) (freeM hS) (fun r7285 u t H1 locs ht hvm hw hB hz1 hk1 hS => ?_)
            unfold BM at hB
            rw [ht] at hB
            have hP : va_P (dC, dI) classes (wM g c v F rc) H1 := hB
            have hw_r7285 : (r7285.toInt = 1 ∧ z7273.toInt ≤ z7276.toInt ∧ z7276.toInt ≤ (9999 : Int32).toInt) ∨ (r7285.toInt = 0 ∧ (z7276.toInt < z7273.toInt ∨ (9999 : Int32).toInt < z7276.toInt)) := hw
            clear hw
            have k7286 : (9999 : Int32).toInt = 9999 := by decide
            clear hz1
            generalize H1 = H at hP hS ⊢
            refine lv_if_eq (tgt := 110) hx hb dX12_past_74 (by decide) (fun c7287 => ?_) (fun c7287 => ?_)
            · skip
              have t7288 := cv_eq (a := r7285.toInt) rfl (b := 0) (by decide) c7287
              refine lv_iconst (v := (-1)) hx hb dX12_past_110 (by decide) ?_
              have hP9 : va_P (dC, dI) classes (wM g c v F rc) H := hP
              exact W.iret (v := (-1)) hx hb hr (fun t ht hW => ⟨⟨(-1), (v, F, rc), rfl, ⟨hI, rfl, (fun _ _ => rfl), hF, hJ⟩, (by show va_P _ _ _ t.heap; rw [ht]; exact hP9)⟩, hS.F ht⟩) hS.2.2 dX12_past_111
            · skip
              have t7289 := cv_ne (a := r7285.toInt) rfl (b := 0) (by decide) c7287
              refine lv_iload hx hb dX12_past_77 (lv_at hl 6 rfl) ?_
              refine lv_iconst (v := 0) hx hb dX12_past_79 (by decide) ?_
              refine lv_ldc (v := 99999) hx hb hown (hwd _ wk_249) dX12_past_80 ?_
              refine va_calli (va_runS (As := [.int p3, .int 0, .int 99999]) (rest := []) ⟨hx, hb, hml, hown, hwd⟩ (c_X12_in l dC dI g c adK adV v F rc H.size p3 0 99999 hg hI ) (va_cwS 3 hwd (gT wk_254 wk_252 wk_253 wk_5) rfl rfl rfl (by decide +kernel) ⟨Nat.le_of_ble_eq_true rfl, Nat.le_of_ble_eq_true rfl⟩) ⟨PM.blind, fun U hU hW => ⟨rfl, PM.at hK hE hP hS hU hW⟩⟩ rfl rfl hl.1 rfl (lv_room (Nat.le_of_ble_eq_true rfl)) dX12_past_82 ⟨Nat.le_of_ble_eq_true rfl, Nat.le_of_ble_eq_true rfl⟩) hS (fun q _ h => (freeM hS) q h) (freeM hS) (fun r7290 u t H1 locs ht hvm hw hB hz1 hk1 hS => ?_)
              unfold BM at hB
              rw [ht] at hB
              have hP : va_P (dC, dI) classes (wM g c v F rc) H1 := hB
              have hw_r7290 : (r7290.toInt = 1 ∧ (0 : Int32).toInt ≤ p3.toInt ∧ p3.toInt ≤ (99999 : Int32).toInt) ∨ (r7290.toInt = 0 ∧ (p3.toInt < (0 : Int32).toInt ∨ (99999 : Int32).toInt < p3.toInt)) := hw
              clear hw
              have k7291 : (0 : Int32).toInt = 0 := by decide
              have k7292 : (99999 : Int32).toInt = 99999 := by decide
              clear hz1
              generalize H1 = H at hP hS ⊢
              refine lv_if_eq (tgt := 110) hx hb dX12_past_85 (by decide) (fun c7293 => ?_) (fun c7293 => ?_)
              · skip
                have t7294 := cv_eq (a := r7290.toInt) rfl (b := 0) (by decide) c7293
                refine lv_iconst (v := (-1)) hx hb dX12_past_110 (by decide) ?_
                have hP9 : va_P (dC, dI) classes (wM g c v F rc) H := hP
                exact W.iret (v := (-1)) hx hb hr (fun t ht hW => ⟨⟨(-1), (v, F, rc), rfl, ⟨hI, rfl, (fun _ _ => rfl), hF, hJ⟩, (by show va_P _ _ _ t.heap; rw [ht]; exact hP9)⟩, hS.F ht⟩) hS.2.2 dX12_past_111
              · skip
                have t7295 := cv_ne (a := r7290.toInt) rfl (b := 0) (by decide) c7293
                refine lv_iload hx hb dX12_past_88 (lv_at hl 7 rfl) ?_
                refine lv_iconst (v := 0) hx hb dX12_past_90 (by decide) ?_
                refine lv_ldc (v := 99999) hx hb hown (hwd _ wk_249) dX12_past_91 ?_
                refine va_calli (va_runS (As := [.int p4, .int 0, .int 99999]) (rest := []) ⟨hx, hb, hml, hown, hwd⟩ (c_X12_in l dC dI g c adK adV v F rc H.size p4 0 99999 hg hI ) (va_cwS 3 hwd (gT wk_254 wk_252 wk_253 wk_5) rfl rfl rfl (by decide +kernel) ⟨Nat.le_of_ble_eq_true rfl, Nat.le_of_ble_eq_true rfl⟩) ⟨PM.blind, fun U hU hW => ⟨rfl, PM.at hK hE hP hS hU hW⟩⟩ rfl rfl hl.1 rfl (lv_room (Nat.le_of_ble_eq_true rfl)) dX12_past_93 ⟨Nat.le_of_ble_eq_true rfl, Nat.le_of_ble_eq_true rfl⟩) hS (fun q _ h => (freeM hS) q h) (freeM hS) (fun r7296 u t H1 locs ht hvm hw hB hz1 hk1 hS => ?_)
                unfold BM at hB
                rw [ht] at hB
                have hP : va_P (dC, dI) classes (wM g c v F rc) H1 := hB
                have hw_r7296 : (r7296.toInt = 1 ∧ (0 : Int32).toInt ≤ p4.toInt ∧ p4.toInt ≤ (99999 : Int32).toInt) ∨ (r7296.toInt = 0 ∧ (p4.toInt < (0 : Int32).toInt ∨ (99999 : Int32).toInt < p4.toInt)) := hw
                clear hw
                have k7297 : (0 : Int32).toInt = 0 := by decide
                have k7298 : (99999 : Int32).toInt = 99999 := by decide
                clear hz1
                generalize H1 = H at hP hS ⊢
                refine lv_if_eq (tgt := 110) hx hb dX12_past_96 (by decide) (fun c7299 => ?_) (fun c7299 => ?_)
                · skip
                  have t7300 := cv_eq (a := r7296.toInt) rfl (b := 0) (by decide) c7299
                  refine lv_iconst (v := (-1)) hx hb dX12_past_110 (by decide) ?_
                  have hP9 : va_P (dC, dI) classes (wM g c v F rc) H := hP
                  exact W.iret (v := (-1)) hx hb hr (fun t ht hW => ⟨⟨(-1), (v, F, rc), rfl, ⟨hI, rfl, (fun _ _ => rfl), hF, hJ⟩, (by show va_P _ _ _ t.heap; rw [ht]; exact hP9)⟩, hS.F ht⟩) hS.2.2 dX12_past_111
                · skip
                  have t7301 := cv_ne (a := r7296.toInt) rfl (b := 0) (by decide) c7299
                  refine lv_iload hx hb dX12_past_99 (lv_at hl 8 rfl) ?_
                  refine lv_iconst (v := 0) hx hb dX12_past_101 (by decide) ?_
                  refine lv_ldc (v := 99999999) hx hb hown (hwd _ wk_824) dX12_past_102 ?_
                  refine va_calli (va_runS (As := [.int p5, .int 0, .int 99999999]) (rest := []) ⟨hx, hb, hml, hown, hwd⟩ (c_X12_in l dC dI g c adK adV v F rc H.size p5 0 99999999 hg hI ) (va_cwS 3 hwd (gT wk_254 wk_252 wk_253 wk_5) rfl rfl rfl (by decide +kernel) ⟨Nat.le_of_ble_eq_true rfl, Nat.le_of_ble_eq_true rfl⟩) ⟨PM.blind, fun U hU hW => ⟨rfl, PM.at hK hE hP hS hU hW⟩⟩ rfl rfl hl.1 rfl (lv_room (Nat.le_of_ble_eq_true rfl)) dX12_past_104 ⟨Nat.le_of_ble_eq_true rfl, Nat.le_of_ble_eq_true rfl⟩) hS (fun q _ h => (freeM hS) q h) (freeM hS) (fun r7302 u t H1 locs ht hvm hw hB hz1 hk1 hS => ?_)
                  unfold BM at hB
                  rw [ht] at hB
                  have hP : va_P (dC, dI) classes (wM g c v F rc) H1 := hB
                  have hw_r7302 : (r7302.toInt = 1 ∧ (0 : Int32).toInt ≤ p5.toInt ∧ p5.toInt ≤ (99999999 : Int32).toInt) ∨ (r7302.toInt = 0 ∧ (p5.toInt < (0 : Int32).toInt ∨ (99999999 : Int32).toInt < p5.toInt)) := hw
                  clear hw
                  have k7303 : (0 : Int32).toInt = 0 := by decide
                  have k7304 : (99999999 : Int32).toInt = 99999999 := by decide
                  clear hz1
                  generalize H1 = H at hP hS ⊢
                  refine lv_if_ne (tgt := 112) hx hb dX12_past_107 (by decide) (fun c7305 => ?_) (fun c7305 => ?_)
                  · skip
                    have t7306 := cv_ne (a := r7302.toInt) rfl (b := 0) (by decide) c7305
                    refine lv_iload hx hb dX12_past_112 (lv_at hl 7 rfl) ?_
                    refine lv_iload hx hb dX12_past_114 (lv_at hl 8 rfl) ?_
                    refine lv_ldc (v := 100000) hx hb hown (hwd _ wk_825) dX12_past_116 ?_
                    refine lv_idiv hx hb dX12_past_118 (by decide) ?_
                    refine lv_topi (fun z7307 e7308 => ?_)
                    refine lv_iadd hx hb dX12_past_119 ?_
                    refine lv_topi (fun z7310 e7311 => ?_)
                    try (have t7312 := tadd e7311 (a := p4.toInt) rfl (b := z7307.toInt) rfl (by omega))
                    refine lv_sipush (v := 500) hx hb dX12_past_120 (by decide) ?_
                    refine lv_isub hx hb dX12_past_123 ?_
                    refine lv_topi (fun z7313 e7314 => ?_)
                    try (have t7315 := tsub e7314 (a := z7310.toInt) rfl (b := 500) (by decide) (by omega))
                    refine lv_istore (lv' := [(9, .int z7313), (8, .int z7276), (7, .int z7273), (0, .ref (g 0)), (1, .int p0), (2, .int p1), (3, .int p2), (4, .int p3), (5, .int p4), (6, .int p5)]) hx hb dX12_past_124 hl (by decide) rfl (fun ls hl => ?_)
                    refine lv_iload hx hb dX12_past_126 (lv_at hl 0 rfl) ?_
                    refine lv_if_ge (tgt := 133) hx hb dX12_past_128 (by decide) (fun c7316 => ?_) (fun c7316 => ?_)
                    · skip
                      have t7317 := cv_le (a := 0) (by decide) (b := z7313.toInt) rfl c7316
                      refine lv_aload_n hx hb dX12_past_133 rfl (lv_at hl 3 rfl) ?_
                      refine va_get (D := (dC, dI)) (ci := 12) (v := .int (v 19)) (C := RX12) (T := TX12) (N := 63) hx hb hwd inA_X12 hown hK hP 0 rfl rfl 19 (by decide) (hwd _ wk_494) (fun _ h9 => h9) rfl dX12_past_134 ?_
                      have t7318 : 0 ≤ (v 19).toInt ∧ (v 19).toInt ≤ 500 := hI.1 19 _ _ rfl
                      refine lv_sipush (v := 500) hx hb dX12_past_137 (by decide) ?_
                      refine lv_icmp_ne (tgt := 146) hx hb dX12_past_140 (by decide) (fun c7319 => ?_) (fun c7319 => ?_)
                      · skip
                        have t7320 := cv_ne (a := (v 19).toInt) rfl (b := 500) (by decide) c7319
                        refine lv_aload_n hx hb dX12_past_146 rfl (lv_at hl 3 rfl) ?_
                        refine va_get (D := (dC, dI)) (ci := 12) (v := .ref (g 15)) (C := RX12) (T := TX12) (N := 63) hx hb hwd inA_X12 hown hK hP 0 rfl rfl 20 (by decide) (hwd _ wk_196) (fun _ h9 => h9) rfl dX12_past_147 ?_
                        refine lv_aload_n hx hb dX12_past_150 rfl (lv_at hl 3 rfl) ?_
                        refine va_get (D := (dC, dI)) (ci := 12) (v := .int (v 19)) (C := RX12) (T := TX12) (N := 63) hx hb hwd inA_X12 hown hK hP 0 rfl rfl 19 (by decide) (hwd _ wk_494) (fun _ h9 => h9) rfl dX12_past_151 ?_
                        have t7321 : 0 ≤ (v 19).toInt ∧ (v 19).toInt ≤ 500 := hI.1 19 _ _ rfl
                        refine lv_iload_n hx hb dX12_past_154 rfl (lv_at hl 4 rfl) ?_
                        refine va_iast hx hb hK hP (DM hg) hS 15 14 rfl rfl (i := (v 19)) (x := p0) (vin (a := (v 19).toInt) rfl (by omega)) dX12_past_155 (fun H locs hP _ hS => ?_)
                        have hP := va_P_eq (sM_15 g c _ _ _ _) hP
                        have hI := IM.store hI 15 (v 19 : Int32).toNatClampNeg p0 rfl (by omega)
                        have hF := frUF (k := 15) (f := upd (F 15) (v 19 : Int32).toNatClampNeg p0) (by decide) hF
                        have st7323 : (va_up F 15 (upd (F 15) (v 19 : Int32).toNatClampNeg p0)) 15 = upd (F 15) (v 19 : Int32).toNatClampNeg p0 := va_up_self _ _ _
                        have sn7324 : ∀ k9, k9 ≠ 15 → (va_up F 15 (upd (F 15) (v 19 : Int32).toNatClampNeg p0)) k9 = F k9 := fun k9 h9 => va_up_ne _ _ h9
                        have hP : va_P (dC, dI) classes (wM g c v (va_up F 15 (upd (F 15) (v 19 : Int32).toNatClampNeg p0)) rc) H := hP
                        generalize (va_up F 15 (upd (F 15) (v 19 : Int32).toNatClampNeg p0)) = F7322 at hP hI hF st7323 sn7324
                        refine lv_aload_n hx hb dX12_past_156 rfl (lv_at hl 3 rfl) ?_
                        refine va_get (D := (dC, dI)) (ci := 12) (v := .ref (g 16)) (C := RX12) (T := TX12) (N := 63) hx hb hwd inA_X12 hown hK hP 0 rfl rfl 21 (by decide) (hwd _ wk_197) (fun _ h9 => h9) rfl dX12_past_157 ?_
                        refine lv_aload_n hx hb dX12_past_160 rfl (lv_at hl 3 rfl) ?_
                        refine va_get (D := (dC, dI)) (ci := 12) (v := .int (v 19)) (C := RX12) (T := TX12) (N := 63) hx hb hwd inA_X12 hown hK hP 0 rfl rfl 19 (by decide) (hwd _ wk_494) (fun _ h9 => h9) rfl dX12_past_161 ?_
                        have t7325 : 0 ≤ (v 19).toInt ∧ (v 19).toInt ≤ 500 := hI.1 19 _ _ rfl
                        refine lv_iload_n hx hb dX12_past_164 rfl (lv_at hl 5 rfl) ?_
                        refine va_iast hx hb hK hP (DM hg) hS 16 15 rfl rfl (i := (v 19)) (x := p1) (vin (a := (v 19).toInt) rfl (by omega)) dX12_past_165 (fun H locs hP _ hS => ?_)
                        have hP := va_P_eq (sM_16 g c _ _ _ _) hP
                        have hI := IM.store hI 16 (v 19 : Int32).toNatClampNeg p1 rfl (by omega)
                        have hF := frUF (k := 16) (f := upd (F7322 16) (v 19 : Int32).toNatClampNeg p1) (by decide) hF
                        have st7327 : (va_up F7322 16 (upd (F7322 16) (v 19 : Int32).toNatClampNeg p1)) 16 = upd (F7322 16) (v 19 : Int32).toNatClampNeg p1 := va_up_self _ _ _
                        have sn7328 : ∀ k9, k9 ≠ 16 → (va_up F7322 16 (upd (F7322 16) (v 19 : Int32).toNatClampNeg p1)) k9 = F7322 k9 := fun k9 h9 => va_up_ne _ _ h9
                        have hP : va_P (dC, dI) classes (wM g c v (va_up F7322 16 (upd (F7322 16) (v 19 : Int32).toNatClampNeg p1)) rc) H := hP
                        generalize (va_up F7322 16 (upd (F7322 16) (v 19 : Int32).toNatClampNeg p1)) = F7326 at hP hI hF st7327 sn7328
                        refine lv_aload_n hx hb dX12_past_166 rfl (lv_at hl 3 rfl) ?_
                        refine va_get (D := (dC, dI)) (ci := 12) (v := .ref (g 17)) (C := RX12) (T := TX12) (N := 63) hx hb hwd inA_X12 hown hK hP 0 rfl rfl 22 (by decide) (hwd _ wk_198) (fun _ h9 => h9) rfl dX12_past_167 ?_
                        refine lv_aload_n hx hb dX12_past_170 rfl (lv_at hl 3 rfl) ?_
                        refine va_get (D := (dC, dI)) (ci := 12) (v := .int (v 19)) (C := RX12) (T := TX12) (N := 63) hx hb hwd inA_X12 hown hK hP 0 rfl rfl 19 (by decide) (hwd _ wk_494) (fun _ h9 => h9) rfl dX12_past_171 ?_
                        have t7329 : 0 ≤ (v 19).toInt ∧ (v 19).toInt ≤ 500 := hI.1 19 _ _ rfl
                        refine lv_iload hx hb dX12_past_174 (lv_at hl 2 rfl) ?_
                        refine lv_sipush (v := 9999) hx hb dX12_past_176 (by decide) ?_
                        refine lv_isub hx hb dX12_past_179 ?_
                        refine lv_topi (fun z7330 e7331 => ?_)
                        try (have t7332 := tsub e7331 (a := z7273.toInt) rfl (b := 9999) (by decide) (by omega))
                        refine va_iast hx hb hK hP (DM hg) hS 17 16 rfl rfl (i := (v 19)) (x := z7330) (vin (a := (v 19).toInt) rfl (by omega)) dX12_past_180 (fun H locs hP _ hS => ?_)
                        have hP := va_P_eq (sM_17 g c _ _ _ _) hP
                        have hI := IM.store0 hI 17 (v 19 : Int32).toNatClampNeg z7330 rfl
                        have hF := frUF (k := 17) (f := upd (F7326 17) (v 19 : Int32).toNatClampNeg z7330) (by decide) hF
                        have st7334 : (va_up F7326 17 (upd (F7326 17) (v 19 : Int32).toNatClampNeg z7330)) 17 = upd (F7326 17) (v 19 : Int32).toNatClampNeg z7330 := va_up_self _ _ _
                        have sn7335 : ∀ k9, k9 ≠ 17 → (va_up F7326 17 (upd (F7326 17) (v 19 : Int32).toNatClampNeg z7330)) k9 = F7326 k9 := fun k9 h9 => va_up_ne _ _ h9
                        have hP : va_P (dC, dI) classes (wM g c v (va_up F7326 17 (upd (F7326 17) (v 19 : Int32).toNatClampNeg z7330)) rc) H := hP
                        generalize (va_up F7326 17 (upd (F7326 17) (v 19 : Int32).toNatClampNeg z7330)) = F7333 at hP hI hF st7334 sn7335
                        refine lv_aload_n hx hb dX12_past_181 rfl (lv_at hl 3 rfl) ?_
                        refine va_get (D := (dC, dI)) (ci := 12) (v := .ref (g 18)) (C := RX12) (T := TX12) (N := 63) hx hb hwd inA_X12 hown hK hP 0 rfl rfl 23 (by decide) (hwd _ wk_199) (fun _ h9 => h9) rfl dX12_past_182 ?_
                        refine lv_aload_n hx hb dX12_past_185 rfl (lv_at hl 3 rfl) ?_
                        refine va_get (D := (dC, dI)) (ci := 12) (v := .int (v 19)) (C := RX12) (T := TX12) (N := 63) hx hb hwd inA_X12 hown hK hP 0 rfl rfl 19 (by decide) (hwd _ wk_494) (fun _ h9 => h9) rfl dX12_past_186 ?_
                        have t7336 : 0 ≤ (v 19).toInt ∧ (v 19).toInt ≤ 500 := hI.1 19 _ _ rfl
                        refine lv_iload hx hb dX12_past_189 (lv_at hl 1 rfl) ?_
                        refine lv_sipush (v := 9999) hx hb dX12_past_191 (by decide) ?_
                        refine lv_isub hx hb dX12_past_194 ?_
                        refine lv_topi (fun z7337 e7338 => ?_)
                        try (have t7339 := tsub e7338 (a := z7276.toInt) rfl (b := 9999) (by decide) (by omega))
                        refine va_iast hx hb hK hP (DM hg) hS 18 17 rfl rfl (i := (v 19)) (x := z7337) (vin (a := (v 19).toInt) rfl (by omega)) dX12_past_195 (fun H locs hP _ hS => ?_)
                        have hP := va_P_eq (sM_18 g c _ _ _ _) hP
                        have hI := IM.store0 hI 18 (v 19 : Int32).toNatClampNeg z7337 rfl
                        have hF := frUF (k := 18) (f := upd (F7333 18) (v 19 : Int32).toNatClampNeg z7337) (by decide) hF
                        have st7341 : (va_up F7333 18 (upd (F7333 18) (v 19 : Int32).toNatClampNeg z7337)) 18 = upd (F7333 18) (v 19 : Int32).toNatClampNeg z7337 := va_up_self _ _ _
                        have sn7342 : ∀ k9, k9 ≠ 18 → (va_up F7333 18 (upd (F7333 18) (v 19 : Int32).toNatClampNeg z7337)) k9 = F7333 k9 := fun k9 h9 => va_up_ne _ _ h9
                        have hP : va_P (dC, dI) classes (wM g c v (va_up F7333 18 (upd (F7333 18) (v 19 : Int32).toNatClampNeg z7337)) rc) H := hP
                        generalize (va_up F7333 18 (upd (F7333 18) (v 19 : Int32).toNatClampNeg z7337)) = F7340 at hP hI hF st7341 sn7342
                        refine lv_aload_n hx hb dX12_past_196 rfl (lv_at hl 3 rfl) ?_
                        refine va_get (D := (dC, dI)) (ci := 12) (v := .ref (g 19)) (C := RX12) (T := TX12) (N := 63) hx hb hwd inA_X12 hown hK hP 0 rfl rfl 24 (by decide) (hwd _ wk_200) (fun _ h9 => h9) rfl dX12_past_197 ?_
                        refine lv_aload_n hx hb dX12_past_200 rfl (lv_at hl 3 rfl) ?_
                        refine va_get (D := (dC, dI)) (ci := 12) (v := .int (v 19)) (C := RX12) (T := TX12) (N := 63) hx hb hwd inA_X12 hown hK hP 0 rfl rfl 19 (by decide) (hwd _ wk_494) (fun _ h9 => h9) rfl dX12_past_201 ?_
                        have t7343 : 0 ≤ (v 19).toInt ∧ (v 19).toInt ≤ 500 := hI.1 19 _ _ rfl
                        refine lv_iload hx hb dX12_past_204 (lv_at hl 7 rfl) ?_
                        refine va_iast hx hb hK hP (DM hg) hS 19 18 rfl rfl (i := (v 19)) (x := p3) (vin (a := (v 19).toInt) rfl (by omega)) dX12_past_206 (fun H locs hP _ hS => ?_)
                        have hP := va_P_eq (sM_19 g c _ _ _ _) hP
                        have hI := IM.store0 hI 19 (v 19 : Int32).toNatClampNeg p3 rfl
                        have hF := frUF (k := 19) (f := upd (F7340 19) (v 19 : Int32).toNatClampNeg p3) (by decide) hF
                        have st7345 : (va_up F7340 19 (upd (F7340 19) (v 19 : Int32).toNatClampNeg p3)) 19 = upd (F7340 19) (v 19 : Int32).toNatClampNeg p3 := va_up_self _ _ _
                        have sn7346 : ∀ k9, k9 ≠ 19 → (va_up F7340 19 (upd (F7340 19) (v 19 : Int32).toNatClampNeg p3)) k9 = F7340 k9 := fun k9 h9 => va_up_ne _ _ h9
                        have hP : va_P (dC, dI) classes (wM g c v (va_up F7340 19 (upd (F7340 19) (v 19 : Int32).toNatClampNeg p3)) rc) H := hP
                        generalize (va_up F7340 19 (upd (F7340 19) (v 19 : Int32).toNatClampNeg p3)) = F7344 at hP hI hF st7345 sn7346
                        refine lv_aload_n hx hb dX12_past_207 rfl (lv_at hl 3 rfl) ?_
                        refine va_get (D := (dC, dI)) (ci := 12) (v := .ref (g 20)) (C := RX12) (T := TX12) (N := 63) hx hb hwd inA_X12 hown hK hP 0 rfl rfl 25 (by decide) (hwd _ wk_201) (fun _ h9 => h9) rfl dX12_past_208 ?_
                        refine lv_aload_n hx hb dX12_past_211 rfl (lv_at hl 3 rfl) ?_
                        refine va_get (D := (dC, dI)) (ci := 12) (v := .int (v 19)) (C := RX12) (T := TX12) (N := 63) hx hb hwd inA_X12 hown hK hP 0 rfl rfl 19 (by decide) (hwd _ wk_494) (fun _ h9 => h9) rfl dX12_past_212 ?_
                        have t7347 : 0 ≤ (v 19).toInt ∧ (v 19).toInt ≤ 500 := hI.1 19 _ _ rfl
                        refine lv_iload hx hb dX12_past_215 (lv_at hl 9 rfl) ?_
                        refine lv_ldc (v := 100000) hx hb hown (hwd _ wk_825) dX12_past_217 ?_
                        refine lv_irem hx hb dX12_past_219 (by decide) ?_
                        refine lv_topi (fun z7348 e7349 => ?_)
                        refine va_iast hx hb hK hP (DM hg) hS 20 19 rfl rfl (i := (v 19)) (x := z7348) (vin (a := (v 19).toInt) rfl (by omega)) dX12_past_220 (fun H locs hP _ hS => ?_)
                        have hP := va_P_eq (sM_20 g c _ _ _ _) hP
                        have hI := IM.store0 hI 20 (v 19 : Int32).toNatClampNeg z7348 rfl
                        have hF := frUF (k := 20) (f := upd (F7344 20) (v 19 : Int32).toNatClampNeg z7348) (by decide) hF
                        have st7352 : (va_up F7344 20 (upd (F7344 20) (v 19 : Int32).toNatClampNeg z7348)) 20 = upd (F7344 20) (v 19 : Int32).toNatClampNeg z7348 := va_up_self _ _ _
                        have sn7353 : ∀ k9, k9 ≠ 20 → (va_up F7344 20 (upd (F7344 20) (v 19 : Int32).toNatClampNeg z7348)) k9 = F7344 k9 := fun k9 h9 => va_up_ne _ _ h9
                        have hP : va_P (dC, dI) classes (wM g c v (va_up F7344 20 (upd (F7344 20) (v 19 : Int32).toNatClampNeg z7348)) rc) H := hP
                        generalize (va_up F7344 20 (upd (F7344 20) (v 19 : Int32).toNatClampNeg z7348)) = F7351 at hP hI hF st7352 sn7353
                        refine lv_aload_n hx hb dX12_past_221 rfl (lv_at hl 3 rfl) ?_
                        refine va_get (D := (dC, dI)) (ci := 12) (v := .ref (g 21)) (C := RX12) (T := TX12) (N := 63) hx hb hwd inA_X12 hown hK hP 0 rfl rfl 26 (by decide) (hwd _ wk_202) (fun _ h9 => h9) rfl dX12_past_222 ?_
                        refine lv_aload_n hx hb dX12_past_225 rfl (lv_at hl 3 rfl) ?_
                        refine va_get (D := (dC, dI)) (ci := 12) (v := .int (v 19)) (C := RX12) (T := TX12) (N := 63) hx hb hwd inA_X12 hown hK hP 0 rfl rfl 19 (by decide) (hwd _ wk_494) (fun _ h9 => h9) rfl dX12_past_226 ?_
                        have t7354 : 0 ≤ (v 19).toInt ∧ (v 19).toInt ≤ 500 := hI.1 19 _ _ rfl
                        refine lv_iload hx hb dX12_past_229 (lv_at hl 8 rfl) ?_
                        refine va_iast hx hb hK hP (DM hg) hS 21 20 rfl rfl (i := (v 19)) (x := p4) (vin (a := (v 19).toInt) rfl (by omega)) dX12_past_231 (fun H locs hP _ hS => ?_)
                        have hP := va_P_eq (sM_21 g c _ _ _ _) hP
                        have hI := IM.store0 hI 21 (v 19 : Int32).toNatClampNeg p4 rfl
                        have hF := frUF (k := 21) (f := upd (F7351 21) (v 19 : Int32).toNatClampNeg p4) (by decide) hF
                        have st7356 : (va_up F7351 21 (upd (F7351 21) (v 19 : Int32).toNatClampNeg p4)) 21 = upd (F7351 21) (v 19 : Int32).toNatClampNeg p4 := va_up_self _ _ _
                        have sn7357 : ∀ k9, k9 ≠ 21 → (va_up F7351 21 (upd (F7351 21) (v 19 : Int32).toNatClampNeg p4)) k9 = F7351 k9 := fun k9 h9 => va_up_ne _ _ h9
                        have hP : va_P (dC, dI) classes (wM g c v (va_up F7351 21 (upd (F7351 21) (v 19 : Int32).toNatClampNeg p4)) rc) H := hP
                        generalize (va_up F7351 21 (upd (F7351 21) (v 19 : Int32).toNatClampNeg p4)) = F7355 at hP hI hF st7356 sn7357
                        refine lv_aload_n hx hb dX12_past_232 rfl (lv_at hl 3 rfl) ?_
                        refine va_get (D := (dC, dI)) (ci := 12) (v := .ref (g 22)) (C := RX12) (T := TX12) (N := 63) hx hb hwd inA_X12 hown hK hP 0 rfl rfl 27 (by decide) (hwd _ wk_203) (fun _ h9 => h9) rfl dX12_past_233 ?_
                        refine lv_aload_n hx hb dX12_past_236 rfl (lv_at hl 3 rfl) ?_
                        refine va_get (D := (dC, dI)) (ci := 12) (v := .int (v 19)) (C := RX12) (T := TX12) (N := 63) hx hb hwd inA_X12 hown hK hP 0 rfl rfl 19 (by decide) (hwd _ wk_494) (fun _ h9 => h9) rfl dX12_past_237 ?_
                        have t7358 : 0 ≤ (v 19).toInt ∧ (v 19).toInt ≤ 500 := hI.1 19 _ _ rfl
                        refine lv_iload hx hb dX12_past_240 (lv_at hl 0 rfl) ?_
                        refine va_iast hx hb hK hP (DM hg) hS 22 21 rfl rfl (i := (v 19)) (x := z7313) (vin (a := (v 19).toInt) rfl (by omega)) dX12_past_242 (fun H locs hP _ hS => ?_)
                        have hP := va_P_eq (sM_22 g c _ _ _ _) hP
                        have hI := IM.store0 hI 22 (v 19 : Int32).toNatClampNeg z7313 rfl
                        have hF := frUF (k := 22) (f := upd (F7355 22) (v 19 : Int32).toNatClampNeg z7313) (by decide) hF
                        have st7360 : (va_up F7355 22 (upd (F7355 22) (v 19 : Int32).toNatClampNeg z7313)) 22 = upd (F7355 22) (v 19 : Int32).toNatClampNeg z7313 := va_up_self _ _ _
                        have sn7361 : ∀ k9, k9 ≠ 22 → (va_up F7355 22 (upd (F7355 22) (v 19 : Int32).toNatClampNeg z7313)) k9 = F7355 k9 := fun k9 h9 => va_up_ne _ _ h9
                        have hP : va_P (dC, dI) classes (wM g c v (va_up F7355 22 (upd (F7355 22) (v 19 : Int32).toNatClampNeg z7313)) rc) H := hP
                        generalize (va_up F7355 22 (upd (F7355 22) (v 19 : Int32).toNatClampNeg z7313)) = F7359 at hP hI hF st7360 sn7361
                        refine lv_aload_n hx hb dX12_past_243 rfl (lv_at hl 3 rfl) ?_
                        refine va_get (D := (dC, dI)) (ci := 12) (v := .ref (g 23)) (C := RX12) (T := TX12) (N := 63) hx hb hwd inA_X12 hown hK hP 0 rfl rfl 28 (by decide) (hwd _ wk_204) (fun _ h9 => h9) rfl dX12_past_244 ?_
                        refine lv_aload_n hx hb dX12_past_247 rfl (lv_at hl 3 rfl) ?_
                        refine va_get (D := (dC, dI)) (ci := 12) (v := .int (v 19)) (C := RX12) (T := TX12) (N := 63) hx hb hwd inA_X12 hown hK hP 0 rfl rfl 19 (by decide) (hwd _ wk_494) (fun _ h9 => h9) rfl dX12_past_248 ?_
                        have t7362 : 0 ≤ (v 19).toInt ∧ (v 19).toInt ≤ 500 := hI.1 19 _ _ rfl
                        refine lv_iconst (v := 0) hx hb dX12_past_251 (by decide) ?_
                        refine va_zast hx hb hK hP (DM hg) hS 23 22 rfl rfl (i := (v 19)) (x := 0) (vin (a := (v 19).toInt) rfl (by omega)) dX12_past_252 (fun H locs hP _ hS => ?_)
                        have hP := va_P_eq (sM_23 g c _ _ _ _) hP
                        have hI := IM.store0 hI 23 (v 19 : Int32).toNatClampNeg (vp_nar .boolean 0) rfl
                        have hF := frUF (k := 23) (f := upd (F7359 23) (v 19 : Int32).toNatClampNeg (vp_nar .boolean 0)) (by decide) hF
                        have st7364 : (va_up F7359 23 (upd (F7359 23) (v 19 : Int32).toNatClampNeg (vp_nar .boolean 0))) 23 = upd (F7359 23) (v 19 : Int32).toNatClampNeg (vp_nar .boolean 0) := va_up_self _ _ _
                        have sn7365 : ∀ k9, k9 ≠ 23 → (va_up F7359 23 (upd (F7359 23) (v 19 : Int32).toNatClampNeg (vp_nar .boolean 0))) k9 = F7359 k9 := fun k9 h9 => va_up_ne _ _ h9
                        have hP : va_P (dC, dI) classes (wM g c v (va_up F7359 23 (upd (F7359 23) (v 19 : Int32).toNatClampNeg (vp_nar .boolean 0))) rc) H := hP
                        generalize (va_up F7359 23 (upd (F7359 23) (v 19 : Int32).toNatClampNeg (vp_nar .boolean 0))) = F7363 at hP hI hF st7364 sn7365
                        refine lv_aload_n hx hb dX12_past_253 rfl (lv_at hl 3 rfl) ?_
                        refine lv_dup hx hb dX12_past_254 rfl ?_
                        refine va_get (D := (dC, dI)) (ci := 12) (v := .int (v 19)) (C := RX12) (T := TX12) (N := 63) hx hb hwd inA_X12 hown hK hP 0 rfl rfl 19 (by decide) (hwd _ wk_494) (fun _ h9 => h9) rfl dX12_past_255 ?_
                        have t7366 : 0 ≤ (v 19).toInt ∧ (v 19).toInt ≤ 500 := hI.1 19 _ _ rfl
                        refine lv_iconst (v := 1) hx hb dX12_past_258 (by decide) ?_
                        refine lv_iadd hx hb dX12_past_259 ?_
                        refine lv_topi (fun z7367 e7368 => ?_)
                        try (have t7369 := tadd e7368 (a := (v 19).toInt) rfl (b := 1) (by decide) (by omega))
                        refine va_put (D := (dC, dI)) (ci := 12) (v := .int z7367) (ty := .int) (C := RX12) (T := TX12) (N := 63) (fs := fsM_0 g v rc) hx hb hwd inA_X12 tyX12 tyX12_ok nmX12 hown hK hP (DM hg) hS 0 rfl rfl 19 (by decide) (hwd _ wk_494) (fun _ h9 => h9) rfl (by decide +kernel) rfl rfl (Nat.le_of_ble_eq_true rfl) dX12_past_260 (fun H locs hP _ hS => ?_)
                        have hP := va_P_eq (pM_19 g c _ _ _ _) hP
                        have hI := IM.put hI 19 z7367 rfl (by omega)
                        refine lv_aload_n hx hb dX12_past_263 rfl (lv_at hl 3 rfl) ?_
                        refine lv_iload_n hx hb dX12_past_264 rfl (lv_at hl 4 rfl) ?_
                        have t7370 : 0 ≤ z7367.toInt ∧ z7367.toInt ≤ 500 := hI.1 19 _ _ rfl
                        refine va_calli (va_runV (As := [.int p0]) (rest := []) ⟨hx, hb, hml, hown, hwd⟩ (c_X12_staysOf l dC dI g c adK adV (va_up v 19 z7367) F7363 rc H.size p0 hg hI ) (cwV 1 hwd (gV wk_720 wk_717 wk_718 wk_719 wk_5) rfl rfl rfl (by decide +kernel) ⟨Nat.le_of_ble_eq_true rfl, Nat.le_of_ble_eq_true rfl⟩) ⟨PM.blind, va_recv hK hP (ci := 12) (q0 := 0) rfl rfl, fun U hU hW => ⟨rfl, PM.at hK hE hP hS hU hW⟩⟩ rfl rfl hl.1 rfl (lv_room (Nat.le_of_ble_eq_true rfl)) dX12_past_265 ⟨Nat.le_of_ble_eq_true rfl, Nat.le_of_ble_eq_true rfl⟩) hS (fun q _ h => (freeM hS) q h) (freeM hS) (fun r7371 u t H1 locs ht hvm hw hB hz1 hk1 hS => ?_)
                        unfold BM at hB
                        rw [ht] at hB
                        have hP : va_P (dC, dI) classes (wM g c (va_up v 19 z7367) F7363 rc) H1 := hB
                        replace hw : r7371.toInt = (cnt (stP (F7363 15) p0.toInt) z7367.toNatClampNeg : Int) := hw
                        have hw_r7371 := hw
                        clear hw
                        clear hz1
                        generalize H1 = H at hP hS ⊢
                        have rr_r7371 := i32_rng r7371
                        have hP9 : va_P (dC, dI) classes (wM g c (va_up v 19 z7367) F7363 rc) H := hP
                        exact W.iret (v := r7371) hx hb hr (fun t ht hW => ⟨⟨r7371, ((va_up v 19 z7367), F7363, rc), rfl, ⟨hI, rfl, (frU (by decide) (fun _ _ => rfl)), hF, (by show JO ((va_up v 19 z7367) 14) ((va_up v 19 z7367) 19) (F7363 13) (F7363 15) (F7363 18); rw [show (va_up v 19 z7367) 14 = v 14 from rfl, show (va_up v 19 z7367) 19 = z7367 from rfl, show F7363 13 = F 13 from (hF 13 (by decide))]; exact JO.past hJ (past_has (by omega) (by omega) ((sn7365 15 (by decide)).trans ((sn7361 15 (by decide)).trans ((sn7357 15 (by decide)).trans ((sn7353 15 (by decide)).trans ((sn7346 15 (by decide)).trans ((sn7342 15 (by decide)).trans ((sn7335 15 (by decide)).trans ((sn7328 15 (by decide)).trans st7323)))))))) ((sn7365 18 (by decide)).trans ((sn7361 18 (by decide)).trans ((sn7357 18 (by decide)).trans ((sn7353 18 (by decide)).trans ((sn7346 18 (by decide)).trans (st7341.trans (congrArg (fun f => upd f (v 19 : Int32).toNatClampNeg z7337) ((sn7335 18 (by decide)).trans ((sn7328 18 (by decide)).trans (sn7324 18 (by decide)))))))))))))⟩, (by show va_P _ _ _ t.heap; rw [ht]; exact hP9)⟩, hS.F ht⟩) hS.2.2 dX12_past_268
                      · skip
                        have t7372 := cv_eq (a := (v 19).toInt) rfl (b := 500) (by decide) c7319
                        refine lv_bipush (v := (-3)) hx hb dX12_past_143 (by decide) ?_
                        have hP9 : va_P (dC, dI) classes (wM g c v F rc) H := hP
                        exact W.iret (v := (-3)) hx hb hr (fun t ht hW => ⟨⟨(-3), (v, F, rc), rfl, ⟨hI, rfl, (fun _ _ => rfl), hF, hJ⟩, (by show va_P _ _ _ t.heap; rw [ht]; exact hP9)⟩, hS.F ht⟩) hS.2.2 dX12_past_145
                    · skip
                      have t7373 := cv_nle (a := 0) (by decide) (b := z7313.toInt) rfl c7316
                      refine lv_iconst (v := (-1)) hx hb dX12_past_131 (by decide) ?_
                      have hP9 : va_P (dC, dI) classes (wM g c v F rc) H := hP
                      exact W.iret (v := (-1)) hx hb hr (fun t ht hW => ⟨⟨(-1), (v, F, rc), rfl, ⟨hI, rfl, (fun _ _ => rfl), hF, hJ⟩, (by show va_P _ _ _ t.heap; rw [ht]; exact hP9)⟩, hS.F ht⟩) hS.2.2 dX12_past_132
                  · skip
                    have t7374 := cv_eq (a := r7302.toInt) rfl (b := 0) (by decide) c7305
                    refine lv_iconst (v := (-1)) hx hb dX12_past_110 (by decide) ?_
                    have hP9 : va_P (dC, dI) classes (wM g c v F rc) H := hP
                    exact W.iret (v := (-1)) hx hb hr (fun t ht hW => ⟨⟨(-1), (v, F, rc), rfl, ⟨hI, rfl, (fun _ _ => rfl), hF, hJ⟩, (by show va_P _ _ _ t.heap; rw [ht]; exact hP9)⟩, hS.F ht⟩) hS.2.2 dX12_past_111
        · skip
          have t7375 := cv_nle (a := 0) (by decide) (b := p2.toInt) rfl c7271
          refine lv_iconst (v := (-1)) hx hb dX12_past_36 (by decide) ?_
          have hP9 : va_P (dC, dI) classes (wM g c v F rc) H := hP
          exact W.iret (v := (-1)) hx hb hr (fun t ht hW => ⟨⟨(-1), (v, F, rc), rfl, ⟨hI, rfl, (fun _ _ => rfl), hF, hJ⟩, (by show va_P _ _ _ t.heap; rw [ht]; exact hP9)⟩, hS.F ht⟩) hS.2.2 dX12_past_37
      · skip
        have t7376 := cv_nle (a := 10) (by decide) (b := p1.toInt) rfl c7269
        refine lv_aload_n hx hb dX12_past_24 rfl (lv_at hl 0 rfl) ?_
        refine lv_iload_n hx hb dX12_past_25 rfl (lv_at hl 2 rfl) ?_
        have t7377 : 0 ≤ (v 6).toInt ∧ (v 6).toInt ≤ 10 := hI.1 6 _ _ rfl
        refine va_calli (va_runV (As := [.int p1]) (rest := []) ⟨hx, hb, hml, hown, hwd⟩ (c_X12_isPlane l dC dI g c adK adV v F rc H.size p1 hg hI ) (cwV 1 hwd (gV wk_305 wk_302 wk_303 wk_304 wk_5) rfl rfl rfl (by decide +kernel) ⟨Nat.le_of_ble_eq_true rfl, Nat.le_of_ble_eq_true rfl⟩) ⟨PM.blind, va_recv hK hP (ci := 12) (q0 := 0) rfl rfl, fun U hU hW => ⟨rfl, PM.at hK hE hP hS hU hW⟩⟩ rfl rfl hl.1 rfl (lv_room (Nat.le_of_ble_eq_true rfl)) dX12_past_26 ⟨Nat.le_of_ble_eq_true rfl, Nat.le_of_ble_eq_true rfl⟩) hS (fun q _ h => (freeM hS) q h) (freeM hS) (fun r7378 u t H1 locs ht hvm hw hB hz1 hk1 hS => ?_)
        unfold BM at hB
        rw [ht] at hB
        have hP : va_P (dC, dI) classes (wM g c v F rc) H1 := hB
        replace hw : (r7378.toInt = 1 ∧ 0 ≤ p1.toInt ∧ p1.toInt < (v 6).toInt) ∨ (r7378.toInt = 0 ∧ (p1.toInt < 0 ∨ (v 6).toInt ≤ p1.toInt)) := hw
        have hw_r7378 := hw
        clear hw
        clear hz1
        generalize H1 = H at hP hS ⊢
        refine lv_if_eq (tgt := 36) hx hb dX12_past_29 (by decide) (fun c7379 => ?_) (fun c7379 => ?_)
        · skip
          have t7380 := cv_eq (a := r7378.toInt) rfl (b := 0) (by decide) c7379
          refine lv_iconst (v := (-1)) hx hb dX12_past_36 (by decide) ?_
          have hP9 : va_P (dC, dI) classes (wM g c v F rc) H := hP
          exact W.iret (v := (-1)) hx hb hr (fun t ht hW => ⟨⟨(-1), (v, F, rc), rfl, ⟨hI, rfl, (fun _ _ => rfl), hF, hJ⟩, (by show va_P _ _ _ t.heap; rw [ht]; exact hP9)⟩, hS.F ht⟩) hS.2.2 dX12_past_37
        · skip
          have t7381 := cv_ne (a := r7378.toInt) rfl (b := 0) (by decide) c7379
          refine lv_iload_n hx hb dX12_past_32 rfl (lv_at hl 3 rfl) ?_
          refine lv_if_ge (tgt := 38) hx hb dX12_past_33 (by decide) (fun c7382 => ?_) (fun c7382 => ?_)
          · skip
            have t7383 := cv_le (a := 0) (by decide) (b := p2.toInt) rfl c7382
            refine lv_iload_n hx hb dX12_past_38 rfl (lv_at hl 3 rfl) ?_
            refine lv_sipush (v := 20000) hx hb dX12_past_39 (by decide) ?_
            refine lv_idiv hx hb dX12_past_42 (by decide) ?_
            refine lv_topi (fun z7384 e7385 => ?_)
            refine lv_istore (lv' := [(7, .int z7384), (0, .ref (g 0)), (1, .int p0), (2, .int p1), (3, .int p2), (4, .int p3), (5, .int p4), (6, .int p5)]) hx hb dX12_past_43 hl (by decide) rfl (fun ls hl => ?_)
            refine lv_iload_n hx hb dX12_past_45 rfl (lv_at hl 4 rfl) ?_
            refine lv_sipush (v := 20000) hx hb dX12_past_46 (by decide) ?_
            refine lv_irem hx hb dX12_past_49 (by decide) ?_
            refine lv_topi (fun z7387 e7388 => ?_)
            refine lv_istore (lv' := [(8, .int z7387), (7, .int z7384), (0, .ref (g 0)), (1, .int p0), (2, .int p1), (3, .int p2), (4, .int p3), (5, .int p4), (6, .int p5)]) hx hb dX12_past_50 hl (by decide) rfl (fun ls hl => ?_)
            refine lv_iload hx hb dX12_past_52 (lv_at hl 1 rfl) ?_
            refine lv_iconst (v := 0) hx hb dX12_past_54 (by decide) ?_
            refine lv_sipush (v := 9999) hx hb dX12_past_55 (by decide) ?_
            refine va_calli (va_runS (As := [.int z7384, .int 0, .int 9999]) (rest := []) ⟨hx, hb, hml, hown, hwd⟩ (c_X12_in l dC dI g c adK adV v F rc H.size z7384 0 9999 hg hI ) (va_cwS 3 hwd (gT wk_254 wk_252 wk_253 wk_5) rfl rfl rfl (by decide +kernel) ⟨Nat.le_of_ble_eq_true rfl, Nat.le_of_ble_eq_true rfl⟩) ⟨PM.blind, fun U hU hW => ⟨rfl, PM.at hK hE hP hS hU hW⟩⟩ rfl rfl hl.1 rfl (lv_room (Nat.le_of_ble_eq_true rfl)) dX12_past_58 ⟨Nat.le_of_ble_eq_true rfl, Nat.le_of_ble_eq_true rfl⟩) hS (fun q _ h => (freeM hS) q h) (freeM hS) (fun r7390 u t H1 locs ht hvm hw hB hz1 hk1 hS => ?_)
            unfold BM at hB
            rw [ht] at hB
            have hP : va_P (dC, dI) classes (wM g c v F rc) H1 := hB
            have hw_r7390 : (r7390.toInt = 1 ∧ (0 : Int32).toInt ≤ z7384.toInt ∧ z7384.toInt ≤ (9999 : Int32).toInt) ∨ (r7390.toInt = 0 ∧ (z7384.toInt < (0 : Int32).toInt ∨ (9999 : Int32).toInt < z7384.toInt)) := hw
            clear hw
            have k7391 : (0 : Int32).toInt = 0 := by decide
            have k7392 : (9999 : Int32).toInt = 9999 := by decide
            clear hz1
            generalize H1 = H at hP hS ⊢
            refine lv_if_eq (tgt := 110) hx hb dX12_past_61 (by decide) (fun c7393 => ?_) (fun c7393 => ?_)
            · skip
              have t7394 := cv_eq (a := r7390.toInt) rfl (b := 0) (by decide) c7393
              refine lv_iconst (v := (-1)) hx hb dX12_past_110 (by decide) ?_
              have hP9 : va_P (dC, dI) classes (wM g c v F rc) H := hP
              exact W.iret (v := (-1)) hx hb hr (fun t ht hW => ⟨⟨(-1), (v, F, rc), rfl, ⟨hI, rfl, (fun _ _ => rfl), hF, hJ⟩, (by show va_P _ _ _ t.heap; rw [ht]; exact hP9)⟩, hS.F ht⟩) hS.2.2 dX12_past_111
            · skip
              have t7395 := cv_ne (a := r7390.toInt) rfl (b := 0) (by decide) c7393
              refine lv_iload hx hb dX12_past_64 (lv_at hl 0 rfl) ?_
              refine lv_iload hx hb dX12_past_66 (lv_at hl 1 rfl) ?_
              refine lv_sipush (v := 9999) hx hb dX12_past_68 (by decide) ?_
              refine va_calli (va_runS (As := [.int z7387, .int z7384, .int 9999]) (rest := []) ⟨hx, hb, hml, hown, hwd⟩ (c_X12_in l dC dI g c adK adV v F rc H.size z7387 z7384 9999 hg hI ) (va_cwS 3 hwd (gT wk_254 wk_252 wk_253 wk_5) rfl rfl rfl (by decide +kernel) ⟨Nat.le_of_ble_eq_true rfl, Nat.le_of_ble_eq_true rfl⟩) ⟨PM.blind, fun U hU hW => ⟨rfl, PM.at hK hE hP hS hU hW⟩⟩ rfl rfl hl.1 rfl (lv_room (Nat.le_of_ble_eq_true rfl)) dX12_past_71 ⟨Nat.le_of_ble_eq_true rfl, Nat.le_of_ble_eq_true rfl⟩) hS (fun q _ h => (freeM hS) q h) (freeM hS) (fun r7396 u t H1 locs ht hvm hw hB hz1 hk1 hS => ?_)
              unfold BM at hB
              rw [ht] at hB
              have hP : va_P (dC, dI) classes (wM g c v F rc) H1 := hB
              have hw_r7396 : (r7396.toInt = 1 ∧ z7384.toInt ≤ z7387.toInt ∧ z7387.toInt ≤ (9999 : Int32).toInt) ∨ (r7396.toInt = 0 ∧ (z7387.toInt < z7384.toInt ∨ (9999 : Int32).toInt < z7387.toInt)) := hw
              clear hw
              have k7397 : (9999 : Int32).toInt = 9999 := by decide
              clear hz1
              generalize H1 = H at hP hS ⊢
              refine lv_if_eq (tgt := 110) hx hb dX12_past_74 (by decide) (fun c7398 => ?_) (fun c7398 => ?_)
              · skip
                have t7399 := cv_eq (a := r7396.toInt) rfl (b := 0) (by decide) c7398
                refine lv_iconst (v := (-1)) hx hb dX12_past_110 (by decide) ?_
                have hP9 : va_P (dC, dI) classes (wM g c v F rc) H := hP
                exact W.iret (v := (-1)) hx hb hr (fun t ht hW => ⟨⟨(-1), (v, F, rc), rfl, ⟨hI, rfl, (fun _ _ => rfl), hF, hJ⟩, (by show va_P _ _ _ t.heap; rw [ht]; exact hP9)⟩, hS.F ht⟩) hS.2.2 dX12_past_111
              · skip
                have t7400 := cv_ne (a := r7396.toInt) rfl (b := 0) (by decide) c7398
                refine lv_iload hx hb dX12_past_77 (lv_at hl 6 rfl) ?_
                refine lv_iconst (v := 0) hx hb dX12_past_79 (by decide) ?_
                refine lv_ldc (v := 99999) hx hb hown (hwd _ wk_249) dX12_past_80 ?_
                refine va_calli (va_runS (As := [.int p3, .int 0, .int 99999]) (rest := []) ⟨hx, hb, hml, hown, hwd⟩ (c_X12_in l dC dI g c adK adV v F rc H.size p3 0 99999 hg hI ) (va_cwS 3 hwd (gT wk_254 wk_252 wk_253 wk_5) rfl rfl rfl (by decide +kernel) ⟨Nat.le_of_ble_eq_true rfl, Nat.le_of_ble_eq_true rfl⟩) ⟨PM.blind, fun U hU hW => ⟨rfl, PM.at hK hE hP hS hU hW⟩⟩ rfl rfl hl.1 rfl (lv_room (Nat.le_of_ble_eq_true rfl)) dX12_past_82 ⟨Nat.le_of_ble_eq_true rfl, Nat.le_of_ble_eq_true rfl⟩) hS (fun q _ h => (freeM hS) q h) (freeM hS) (fun r7401 u t H1 locs ht hvm hw hB hz1 hk1 hS => ?_)
                unfold BM at hB
                rw [ht] at hB
                have hP : va_P (dC, dI) classes (wM g c v F rc) H1 := hB
                have hw_r7401 : (r7401.toInt = 1 ∧ (0 : Int32).toInt ≤ p3.toInt ∧ p3.toInt ≤ (99999 : Int32).toInt) ∨ (r7401.toInt = 0 ∧ (p3.toInt < (0 : Int32).toInt ∨ (99999 : Int32).toInt < p3.toInt)) := hw
                clear hw
                have k7402 : (0 : Int32).toInt = 0 := by decide
                have k7403 : (99999 : Int32).toInt = 99999 := by decide
                clear hz1
                generalize H1 = H at hP hS ⊢
                refine lv_if_eq (tgt := 110) hx hb dX12_past_85 (by decide) (fun c7404 => ?_) (fun c7404 => ?_)
                · skip
                  have t7405 := cv_eq (a := r7401.toInt) rfl (b := 0) (by decide) c7404
                  refine lv_iconst (v := (-1)) hx hb dX12_past_110 (by decide) ?_
                  have hP9 : va_P (dC, dI) classes (wM g c v F rc) H := hP
                  exact W.iret (v := (-1)) hx hb hr (fun t ht hW => ⟨⟨(-1), (v, F, rc), rfl, ⟨hI, rfl, (fun _ _ => rfl), hF, hJ⟩, (by show va_P _ _ _ t.heap; rw [ht]; exact hP9)⟩, hS.F ht⟩) hS.2.2 dX12_past_111
                · skip
                  have t7406 := cv_ne (a := r7401.toInt) rfl (b := 0) (by decide) c7404
                  refine lv_iload hx hb dX12_past_88 (lv_at hl 7 rfl) ?_
                  refine lv_iconst (v := 0) hx hb dX12_past_90 (by decide) ?_
                  refine lv_ldc (v := 99999) hx hb hown (hwd _ wk_249) dX12_past_91 ?_
                  refine va_calli (va_runS (As := [.int p4, .int 0, .int 99999]) (rest := []) ⟨hx, hb, hml, hown, hwd⟩ (c_X12_in l dC dI g c adK adV v F rc H.size p4 0 99999 hg hI ) (va_cwS 3 hwd (gT wk_254 wk_252 wk_253 wk_5) rfl rfl rfl (by decide +kernel) ⟨Nat.le_of_ble_eq_true rfl, Nat.le_of_ble_eq_true rfl⟩) ⟨PM.blind, fun U hU hW => ⟨rfl, PM.at hK hE hP hS hU hW⟩⟩ rfl rfl hl.1 rfl (lv_room (Nat.le_of_ble_eq_true rfl)) dX12_past_93 ⟨Nat.le_of_ble_eq_true rfl, Nat.le_of_ble_eq_true rfl⟩) hS (fun q _ h => (freeM hS) q h) (freeM hS) (fun r7407 u t H1 locs ht hvm hw hB hz1 hk1 hS => ?_)
                  unfold BM at hB
                  rw [ht] at hB
                  have hP : va_P (dC, dI) classes (wM g c v F rc) H1 := hB
                  have hw_r7407 : (r7407.toInt = 1 ∧ (0 : Int32).toInt ≤ p4.toInt ∧ p4.toInt ≤ (99999 : Int32).toInt) ∨ (r7407.toInt = 0 ∧ (p4.toInt < (0 : Int32).toInt ∨ (99999 : Int32).toInt < p4.toInt)) := hw
                  clear hw
                  have k7408 : (0 : Int32).toInt = 0 := by decide
                  have k7409 : (99999 : Int32).toInt = 99999 := by decide
                  clear hz1
                  generalize H1 = H at hP hS ⊢
                  refine lv_if_eq (tgt := 110) hx hb dX12_past_96 (by decide) (fun c7410 => ?_) (fun c7410 => ?_)
                  · skip
                    have t7411 := cv_eq (a := r7407.toInt) rfl (b := 0) (by decide) c7410
                    refine lv_iconst (v := (-1)) hx hb dX12_past_110 (by decide) ?_
                    have hP9 : va_P (dC, dI) classes (wM g c v F rc) H := hP
                    exact W.iret (v := (-1)) hx hb hr (fun t ht hW => ⟨⟨(-1), (v, F, rc), rfl, ⟨hI, rfl, (fun _ _ => rfl), hF, hJ⟩, (by show va_P _ _ _ t.heap; rw [ht]; exact hP9)⟩, hS.F ht⟩) hS.2.2 dX12_past_111
                  · skip
                    have t7412 := cv_ne (a := r7407.toInt) rfl (b := 0) (by decide) c7410
                    refine lv_iload hx hb dX12_past_99 (lv_at hl 8 rfl) ?_
                    refine lv_iconst (v := 0) hx hb dX12_past_101 (by decide) ?_
                    refine lv_ldc (v := 99999999) hx hb hown (hwd _ wk_824) dX12_past_102 ?_
                    refine va_calli (va_runS (As := [.int p5, .int 0, .int 99999999]) (rest := []) ⟨hx, hb, hml, hown, hwd⟩ (c_X12_in l dC dI g c adK adV v F rc H.size p5 0 99999999 hg hI ) (va_cwS 3 hwd (gT wk_254 wk_252 wk_253 wk_5) rfl rfl rfl (by decide +kernel) ⟨Nat.le_of_ble_eq_true rfl, Nat.le_of_ble_eq_true rfl⟩) ⟨PM.blind, fun U hU hW => ⟨rfl, PM.at hK hE hP hS hU hW⟩⟩ rfl rfl hl.1 rfl (lv_room (Nat.le_of_ble_eq_true rfl)) dX12_past_104 ⟨Nat.le_of_ble_eq_true rfl, Nat.le_of_ble_eq_true rfl⟩) hS (fun q _ h => (freeM hS) q h) (freeM hS) (fun r7413 u t H1 locs ht hvm hw hB hz1 hk1 hS => ?_)
                    unfold BM at hB
                    rw [ht] at hB
                    have hP : va_P (dC, dI) classes (wM g c v F rc) H1 := hB
                    have hw_r7413 : (r7413.toInt = 1 ∧ (0 : Int32).toInt ≤ p5.toInt ∧ p5.toInt ≤ (99999999 : Int32).toInt) ∨ (r7413.toInt = 0 ∧ (p5.toInt < (0 : Int32).toInt ∨ (99999999 : Int32).toInt < p5.toInt)) := hw
                    clear hw
                    have k7414 : (0 : Int32).toInt = 0 := by decide
                    have k7415 : (99999999 : Int32).toInt = 99999999 := by decide
                    clear hz1
                    generalize H1 = H at hP hS ⊢
                    refine lv_if_ne (tgt := 112) hx hb dX12_past_107 (by decide) (fun c7416 => ?_) (fun c7416 => ?_)
                    · skip
                      have t7417 := cv_ne (a := r7413.toInt) rfl (b := 0) (by decide) c7416
                      refine lv_iload hx hb dX12_past_112 (lv_at hl 7 rfl) ?_
                      refine lv_iload hx hb dX12_past_114 (lv_at hl 8 rfl) ?_
                      refine lv_ldc (v := 100000) hx hb hown (hwd _ wk_825) dX12_past_116 ?_
                      refine lv_idiv hx hb dX12_past_118 (by decide) ?_
                      refine lv_topi (fun z7418 e7419 => ?_)
                      refine lv_iadd hx hb dX12_past_119 ?_
                      refine lv_topi (fun z7421 e7422 => ?_)
                      try (have t7423 := tadd e7422 (a := p4.toInt) rfl (b := z7418.toInt) rfl (by omega))
                      refine lv_sipush (v := 500) hx hb dX12_past_120 (by decide) ?_
                      refine lv_isub hx hb dX12_past_123 ?_
                      refine lv_topi (fun z7424 e7425 => ?_)
                      try (have t7426 := tsub e7425 (a := z7421.toInt) rfl (b := 500) (by decide) (by omega))
                      refine lv_istore (lv' := [(9, .int z7424), (8, .int z7387), (7, .int z7384), (0, .ref (g 0)), (1, .int p0), (2, .int p1), (3, .int p2), (4, .int p3), (5, .int p4), (6, .int p5)]) hx hb dX12_past_124 hl (by decide) rfl (fun ls hl => ?_)
                      refine lv_iload hx hb dX12_past_126 (lv_at hl 0 rfl) ?_
                      refine lv_if_ge (tgt := 133) hx hb dX12_past_128 (by decide) (fun c7427 => ?_) (fun c7427 => ?_)
                      · skip
                        have t7428 := cv_le (a := 0) (by decide) (b := z7424.toInt) rfl c7427
                        refine lv_aload_n hx hb dX12_past_133 rfl (lv_at hl 3 rfl) ?_
                        refine va_get (D := (dC, dI)) (ci := 12) (v := .int (v 19)) (C := RX12) (T := TX12) (N := 63) hx hb hwd inA_X12 hown hK hP 0 rfl rfl 19 (by decide) (hwd _ wk_494) (fun _ h9 => h9) rfl dX12_past_134 ?_
                        have t7429 : 0 ≤ (v 19).toInt ∧ (v 19).toInt ≤ 500 := hI.1 19 _ _ rfl
                        refine lv_sipush (v := 500) hx hb dX12_past_137 (by decide) ?_
                        refine lv_icmp_ne (tgt := 146) hx hb dX12_past_140 (by decide) (fun c7430 => ?_) (fun c7430 => ?_)
                        · skip
                          have t7431 := cv_ne (a := (v 19).toInt) rfl (b := 500) (by decide) c7430
                          refine lv_aload_n hx hb dX12_past_146 rfl (lv_at hl 3 rfl) ?_
                          refine va_get (D := (dC, dI)) (ci := 12) (v := .ref (g 15)) (C := RX12) (T := TX12) (N := 63) hx hb hwd inA_X12 hown hK hP 0 rfl rfl 20 (by decide) (hwd _ wk_196) (fun _ h9 => h9) rfl dX12_past_147 ?_
                          refine lv_aload_n hx hb dX12_past_150 rfl (lv_at hl 3 rfl) ?_
                          refine va_get (D := (dC, dI)) (ci := 12) (v := .int (v 19)) (C := RX12) (T := TX12) (N := 63) hx hb hwd inA_X12 hown hK hP 0 rfl rfl 19 (by decide) (hwd _ wk_494) (fun _ h9 => h9) rfl dX12_past_151 ?_
                          have t7432 : 0 ≤ (v 19).toInt ∧ (v 19).toInt ≤ 500 := hI.1 19 _ _ rfl
                          refine lv_iload_n hx hb dX12_past_154 rfl (lv_at hl 4 rfl) ?_
                          refine va_iast hx hb hK hP (DM hg) hS 15 14 rfl rfl (i := (v 19)) (x := p0) (vin (a := (v 19).toInt) rfl (by omega)) dX12_past_155 (fun H locs hP _ hS => ?_)
                          have hP := va_P_eq (sM_15 g c _ _ _ _) hP
                          have hI := IM.store hI 15 (v 19 : Int32).toNatClampNeg p0 rfl (by omega)
                          have hF := frUF (k := 15) (f := upd (F 15) (v 19 : Int32).toNatClampNeg p0) (by decide) hF
                          have st7434 : (va_up F 15 (upd (F 15) (v 19 : Int32).toNatClampNeg p0)) 15 = upd (F 15) (v 19 : Int32).toNatClampNeg p0 := va_up_self _ _ _
                          have sn7435 : ∀ k9, k9 ≠ 15 → (va_up F 15 (upd (F 15) (v 19 : Int32).toNatClampNeg p0)) k9 = F k9 := fun k9 h9 => va_up_ne _ _ h9
                          have hP : va_P (dC, dI) classes (wM g c v (va_up F 15 (upd (F 15) (v 19 : Int32).toNatClampNeg p0)) rc) H := hP
                          generalize (va_up F 15 (upd (F 15) (v 19 : Int32).toNatClampNeg p0)) = F7433 at hP hI hF st7434 sn7435
                          refine lv_aload_n hx hb dX12_past_156 rfl (lv_at hl 3 rfl) ?_
                          refine va_get (D := (dC, dI)) (ci := 12) (v := .ref (g 16)) (C := RX12) (T := TX12) (N := 63) hx hb hwd inA_X12 hown hK hP 0 rfl rfl 21 (by decide) (hwd _ wk_197) (fun _ h9 => h9) rfl dX12_past_157 ?_
                          refine lv_aload_n hx hb dX12_past_160 rfl (lv_at hl 3 rfl) ?_
                          refine va_get (D := (dC, dI)) (ci := 12) (v := .int (v 19)) (C := RX12) (T := TX12) (N := 63) hx hb hwd inA_X12 hown hK hP 0 rfl rfl 19 (by decide) (hwd _ wk_494) (fun _ h9 => h9) rfl dX12_past_161 ?_
                          have t7436 : 0 ≤ (v 19).toInt ∧ (v 19).toInt ≤ 500 := hI.1 19 _ _ rfl
                          refine lv_iload_n hx hb dX12_past_164 rfl (lv_at hl 5 rfl) ?_
                          refine va_iast hx hb hK hP (DM hg) hS 16 15 rfl rfl (i := (v 19)) (x := p1) (vin (a := (v 19).toInt) rfl (by omega)) dX12_past_165 (fun H locs hP _ hS => ?_)
                          have hP := va_P_eq (sM_16 g c _ _ _ _) hP
                          have hI := IM.store hI 16 (v 19 : Int32).toNatClampNeg p1 rfl (by omega)
                          have hF := frUF (k := 16) (f := upd (F7433 16) (v 19 : Int32).toNatClampNeg p1) (by decide) hF
                          have st7438 : (va_up F7433 16 (upd (F7433 16) (v 19 : Int32).toNatClampNeg p1)) 16 = upd (F7433 16) (v 19 : Int32).toNatClampNeg p1 := va_up_self _ _ _
                          have sn7439 : ∀ k9, k9 ≠ 16 → (va_up F7433 16 (upd (F7433 16) (v 19 : Int32).toNatClampNeg p1)) k9 = F7433 k9 := fun k9 h9 => va_up_ne _ _ h9
                          have hP : va_P (dC, dI) classes (wM g c v (va_up F7433 16 (upd (F7433 16) (v 19 : Int32).toNatClampNeg p1)) rc) H := hP
                          generalize (va_up F7433 16 (upd (F7433 16) (v 19 : Int32).toNatClampNeg p1)) = F7437 at hP hI hF st7438 sn7439
                          refine lv_aload_n hx hb dX12_past_166 rfl (lv_at hl 3 rfl) ?_
                          refine va_get (D := (dC, dI)) (ci := 12) (v := .ref (g 17)) (C := RX12) (T := TX12) (N := 63) hx hb hwd inA_X12 hown hK hP 0 rfl rfl 22 (by decide) (hwd _ wk_198) (fun _ h9 => h9) rfl dX12_past_167 ?_
                          refine lv_aload_n hx hb dX12_past_170 rfl (lv_at hl 3 rfl) ?_
                          refine va_get (D := (dC, dI)) (ci := 12) (v := .int (v 19)) (C := RX12) (T := TX12) (N := 63) hx hb hwd inA_X12 hown hK hP 0 rfl rfl 19 (by decide) (hwd _ wk_494) (fun _ h9 => h9) rfl dX12_past_171 ?_
                          have t7440 : 0 ≤ (v 19).toInt ∧ (v 19).toInt ≤ 500 := hI.1 19 _ _ rfl
                          refine lv_iload hx hb dX12_past_174 (lv_at hl 2 rfl) ?_
                          refine lv_sipush (v := 9999) hx hb dX12_past_176 (by decide) ?_
                          refine lv_isub hx hb dX12_past_179 ?_
                          refine lv_topi (fun z7441 e7442 => ?_)
                          try (have t7443 := tsub e7442 (a := z7384.toInt) rfl (b := 9999) (by decide) (by omega))
                          refine va_iast hx hb hK hP (DM hg) hS 17 16 rfl rfl (i := (v 19)) (x := z7441) (vin (a := (v 19).toInt) rfl (by omega)) dX12_past_180 (fun H locs hP _ hS => ?_)
                          have hP := va_P_eq (sM_17 g c _ _ _ _) hP
                          have hI := IM.store0 hI 17 (v 19 : Int32).toNatClampNeg z7441 rfl
                          have hF := frUF (k := 17) (f := upd (F7437 17) (v 19 : Int32).toNatClampNeg z7441) (by decide) hF
                          have st7445 : (va_up F7437 17 (upd (F7437 17) (v 19 : Int32).toNatClampNeg z7441)) 17 = upd (F7437 17) (v 19 : Int32).toNatClampNeg z7441 := va_up_self _ _ _
                          have sn7446 : ∀ k9, k9 ≠ 17 → (va_up F7437 17 (upd (F7437 17) (v 19 : Int32).toNatClampNeg z7441)) k9 = F7437 k9 := fun k9 h9 => va_up_ne _ _ h9
                          have hP : va_P (dC, dI) classes (wM g c v (va_up F7437 17 (upd (F7437 17) (v 19 : Int32).toNatClampNeg z7441)) rc) H := hP
                          generalize (va_up F7437 17 (upd (F7437 17) (v 19 : Int32).toNatClampNeg z7441)) = F7444 at hP hI hF st7445 sn7446
                          refine lv_aload_n hx hb dX12_past_181 rfl (lv_at hl 3 rfl) ?_
                          refine va_get (D := (dC, dI)) (ci := 12) (v := .ref (g 18)) (C := RX12) (T := TX12) (N := 63) hx hb hwd inA_X12 hown hK hP 0 rfl rfl 23 (by decide) (hwd _ wk_199) (fun _ h9 => h9) rfl dX12_past_182 ?_
                          refine lv_aload_n hx hb dX12_past_185 rfl (lv_at hl 3 rfl) ?_
                          refine va_get (D := (dC, dI)) (ci := 12) (v := .int (v 19)) (C := RX12) (T := TX12) (N := 63) hx hb hwd inA_X12 hown hK hP 0 rfl rfl 19 (by decide) (hwd _ wk_494) (fun _ h9 => h9) rfl dX12_past_186 ?_
                          have t7447 : 0 ≤ (v 19).toInt ∧ (v 19).toInt ≤ 500 := hI.1 19 _ _ rfl
                          refine lv_iload hx hb dX12_past_189 (lv_at hl 1 rfl) ?_
                          refine lv_sipush (v := 9999) hx hb dX12_past_191 (by decide) ?_
                          refine lv_isub hx hb dX12_past_194 ?_
                          refine lv_topi (fun z7448 e7449 => ?_)
                          try (have t7450 := tsub e7449 (a := z7387.toInt) rfl (b := 9999) (by decide) (by omega))
                          refine va_iast hx hb hK hP (DM hg) hS 18 17 rfl rfl (i := (v 19)) (x := z7448) (vin (a := (v 19).toInt) rfl (by omega)) dX12_past_195 (fun H locs hP _ hS => ?_)
                          have hP := va_P_eq (sM_18 g c _ _ _ _) hP
                          have hI := IM.store0 hI 18 (v 19 : Int32).toNatClampNeg z7448 rfl
                          have hF := frUF (k := 18) (f := upd (F7444 18) (v 19 : Int32).toNatClampNeg z7448) (by decide) hF
                          have st7452 : (va_up F7444 18 (upd (F7444 18) (v 19 : Int32).toNatClampNeg z7448)) 18 = upd (F7444 18) (v 19 : Int32).toNatClampNeg z7448 := va_up_self _ _ _
                          have sn7453 : ∀ k9, k9 ≠ 18 → (va_up F7444 18 (upd (F7444 18) (v 19 : Int32).toNatClampNeg z7448)) k9 = F7444 k9 := fun k9 h9 => va_up_ne _ _ h9
                          have hP : va_P (dC, dI) classes (wM g c v (va_up F7444 18 (upd (F7444 18) (v 19 : Int32).toNatClampNeg z7448)) rc) H := hP
                          generalize (va_up F7444 18 (upd (F7444 18) (v 19 : Int32).toNatClampNeg z7448)) = F7451 at hP hI hF st7452 sn7453
                          refine lv_aload_n hx hb dX12_past_196 rfl (lv_at hl 3 rfl) ?_
                          refine va_get (D := (dC, dI)) (ci := 12) (v := .ref (g 19)) (C := RX12) (T := TX12) (N := 63) hx hb hwd inA_X12 hown hK hP 0 rfl rfl 24 (by decide) (hwd _ wk_200) (fun _ h9 => h9) rfl dX12_past_197 ?_
                          refine lv_aload_n hx hb dX12_past_200 rfl (lv_at hl 3 rfl) ?_
                          refine va_get (D := (dC, dI)) (ci := 12) (v := .int (v 19)) (C := RX12) (T := TX12) (N := 63) hx hb hwd inA_X12 hown hK hP 0 rfl rfl 19 (by decide) (hwd _ wk_494) (fun _ h9 => h9) rfl dX12_past_201 ?_
                          have t7454 : 0 ≤ (v 19).toInt ∧ (v 19).toInt ≤ 500 := hI.1 19 _ _ rfl
                          refine lv_iload hx hb dX12_past_204 (lv_at hl 7 rfl) ?_
                          refine va_iast hx hb hK hP (DM hg) hS 19 18 rfl rfl (i := (v 19)) (x := p3) (vin (a := (v 19).toInt) rfl (by omega)) dX12_past_206 (fun H locs hP _ hS => ?_)
                          have hP := va_P_eq (sM_19 g c _ _ _ _) hP
                          have hI := IM.store0 hI 19 (v 19 : Int32).toNatClampNeg p3 rfl
                          have hF := frUF (k := 19) (f := upd (F7451 19) (v 19 : Int32).toNatClampNeg p3) (by decide) hF
                          have st7456 : (va_up F7451 19 (upd (F7451 19) (v 19 : Int32).toNatClampNeg p3)) 19 = upd (F7451 19) (v 19 : Int32).toNatClampNeg p3 := va_up_self _ _ _
                          have sn7457 : ∀ k9, k9 ≠ 19 → (va_up F7451 19 (upd (F7451 19) (v 19 : Int32).toNatClampNeg p3)) k9 = F7451 k9 := fun k9 h9 => va_up_ne _ _ h9
                          have hP : va_P (dC, dI) classes (wM g c v (va_up F7451 19 (upd (F7451 19) (v 19 : Int32).toNatClampNeg p3)) rc) H := hP
                          generalize (va_up F7451 19 (upd (F7451 19) (v 19 : Int32).toNatClampNeg p3)) = F7455 at hP hI hF st7456 sn7457
                          refine lv_aload_n hx hb dX12_past_207 rfl (lv_at hl 3 rfl) ?_
                          refine va_get (D := (dC, dI)) (ci := 12) (v := .ref (g 20)) (C := RX12) (T := TX12) (N := 63) hx hb hwd inA_X12 hown hK hP 0 rfl rfl 25 (by decide) (hwd _ wk_201) (fun _ h9 => h9) rfl dX12_past_208 ?_
                          refine lv_aload_n hx hb dX12_past_211 rfl (lv_at hl 3 rfl) ?_
                          refine va_get (D := (dC, dI)) (ci := 12) (v := .int (v 19)) (C := RX12) (T := TX12) (N := 63) hx hb hwd inA_X12 hown hK hP 0 rfl rfl 19 (by decide) (hwd _ wk_494) (fun _ h9 => h9) rfl dX12_past_212 ?_
                          have t7458 : 0 ≤ (v 19).toInt ∧ (v 19).toInt ≤ 500 := hI.1 19 _ _ rfl
                          refine lv_iload hx hb dX12_past_215 (lv_at hl 9 rfl) ?_
                          refine lv_ldc (v := 100000) hx hb hown (hwd _ wk_825) dX12_past_217 ?_
                          refine lv_irem hx hb dX12_past_219 (by decide) ?_
                          refine lv_topi (fun z7459 e7460 => ?_)
                          refine va_iast hx hb hK hP (DM hg) hS 20 19 rfl rfl (i := (v 19)) (x := z7459) (vin (a := (v 19).toInt) rfl (by omega)) dX12_past_220 (fun H locs hP _ hS => ?_)
                          have hP := va_P_eq (sM_20 g c _ _ _ _) hP
                          have hI := IM.store0 hI 20 (v 19 : Int32).toNatClampNeg z7459 rfl
                          have hF := frUF (k := 20) (f := upd (F7455 20) (v 19 : Int32).toNatClampNeg z7459) (by decide) hF
                          have st7463 : (va_up F7455 20 (upd (F7455 20) (v 19 : Int32).toNatClampNeg z7459)) 20 = upd (F7455 20) (v 19 : Int32).toNatClampNeg z7459 := va_up_self _ _ _
                          have sn7464 : ∀ k9, k9 ≠ 20 → (va_up F7455 20 (upd (F7455 20) (v 19 : Int32).toNatClampNeg z7459)) k9 = F7455 k9 := fun k9 h9 => va_up_ne _ _ h9
                          have hP : va_P (dC, dI) classes (wM g c v (va_up F7455 20 (upd (F7455 20) (v 19 : Int32).toNatClampNeg z7459)) rc) H := hP
                          generalize (va_up F7455 20 (upd (F7455 20) (v 19 : Int32).toNatClampNeg z7459)) = F7462 at hP hI hF st7463 sn7464
                          refine lv_aload_n hx hb dX12_past_221 rfl (lv_at hl 3 rfl) ?_
                          refine va_get (D := (dC, dI)) (ci := 12) (v := .ref (g 21)) (C := RX12) (T := TX12) (N := 63) hx hb hwd inA_X12 hown hK hP 0 rfl rfl 26 (by decide) (hwd _ wk_202) (fun _ h9 => h9) rfl dX12_past_222 ?_
                          refine lv_aload_n hx hb dX12_past_225 rfl (lv_at hl 3 rfl) ?_
                          refine va_get (D := (dC, dI)) (ci := 12) (v := .int (v 19)) (C := RX12) (T := TX12) (N := 63) hx hb hwd inA_X12 hown hK hP 0 rfl rfl 19 (by decide) (hwd _ wk_494) (fun _ h9 => h9) rfl dX12_past_226 ?_
                          have t7465 : 0 ≤ (v 19).toInt ∧ (v 19).toInt ≤ 500 := hI.1 19 _ _ rfl
                          refine lv_iload hx hb dX12_past_229 (lv_at hl 8 rfl) ?_
                          refine va_iast hx hb hK hP (DM hg) hS 21 20 rfl rfl (i := (v 19)) (x := p4) (vin (a := (v 19).toInt) rfl (by omega)) dX12_past_231 (fun H locs hP _ hS => ?_)
                          have hP := va_P_eq (sM_21 g c _ _ _ _) hP
                          have hI := IM.store0 hI 21 (v 19 : Int32).toNatClampNeg p4 rfl
                          have hF := frUF (k := 21) (f := upd (F7462 21) (v 19 : Int32).toNatClampNeg p4) (by decide) hF
                          have st7467 : (va_up F7462 21 (upd (F7462 21) (v 19 : Int32).toNatClampNeg p4)) 21 = upd (F7462 21) (v 19 : Int32).toNatClampNeg p4 := va_up_self _ _ _
                          have sn7468 : ∀ k9, k9 ≠ 21 → (va_up F7462 21 (upd (F7462 21) (v 19 : Int32).toNatClampNeg p4)) k9 = F7462 k9 := fun k9 h9 => va_up_ne _ _ h9
                          have hP : va_P (dC, dI) classes (wM g c v (va_up F7462 21 (upd (F7462 21) (v 19 : Int32).toNatClampNeg p4)) rc) H := hP
                          generalize (va_up F7462 21 (upd (F7462 21) (v 19 : Int32).toNatClampNeg p4)) = F7466 at hP hI hF st7467 sn7468
                          refine lv_aload_n hx hb dX12_past_232 rfl (lv_at hl 3 rfl) ?_
                          refine va_get (D := (dC, dI)) (ci := 12) (v := .ref (g 22)) (C := RX12) (T := TX12) (N := 63) hx hb hwd inA_X12 hown hK hP 0 rfl rfl 27 (by decide) (hwd _ wk_203) (fun _ h9 => h9) rfl dX12_past_233 ?_
                          refine lv_aload_n hx hb dX12_past_236 rfl (lv_at hl 3 rfl) ?_
                          refine va_get (D := (dC, dI)) (ci := 12) (v := .int (v 19)) (C := RX12) (T := TX12) (N := 63) hx hb hwd inA_X12 hown hK hP 0 rfl rfl 19 (by decide) (hwd _ wk_494) (fun _ h9 => h9) rfl dX12_past_237 ?_
                          have t7469 : 0 ≤ (v 19).toInt ∧ (v 19).toInt ≤ 500 := hI.1 19 _ _ rfl
                          refine lv_iload hx hb dX12_past_240 (lv_at hl 0 rfl) ?_
                          refine va_iast hx hb hK hP (DM hg) hS 22 21 rfl rfl (i := (v 19)) (x := z7424) (vin (a := (v 19).toInt) rfl (by omega)) dX12_past_242 (fun H locs hP _ hS => ?_)
                          have hP := va_P_eq (sM_22 g c _ _ _ _) hP
                          have hI := IM.store0 hI 22 (v 19 : Int32).toNatClampNeg z7424 rfl
                          have hF := frUF (k := 22) (f := upd (F7466 22) (v 19 : Int32).toNatClampNeg z7424) (by decide) hF
                          have st7471 : (va_up F7466 22 (upd (F7466 22) (v 19 : Int32).toNatClampNeg z7424)) 22 = upd (F7466 22) (v 19 : Int32).toNatClampNeg z7424 := va_up_self _ _ _
                          have sn7472 : ∀ k9, k9 ≠ 22 → (va_up F7466 22 (upd (F7466 22) (v 19 : Int32).toNatClampNeg z7424)) k9 = F7466 k9 := fun k9 h9 => va_up_ne _ _ h9
                          have hP : va_P (dC, dI) classes (wM g c v (va_up F7466 22 (upd (F7466 22) (v 19 : Int32).toNatClampNeg z7424)) rc) H := hP
                          generalize (va_up F7466 22 (upd (F7466 22) (v 19 : Int32).toNatClampNeg z7424)) = F7470 at hP hI hF st7471 sn7472
                          refine lv_aload_n hx hb dX12_past_243 rfl (lv_at hl 3 rfl) ?_
                          refine va_get (D := (dC, dI)) (ci := 12) (v := .ref (g 23)) (C := RX12) (T := TX12) (N := 63) hx hb hwd inA_X12 hown hK hP 0 rfl rfl 28 (by decide) (hwd _ wk_204) (fun _ h9 => h9) rfl dX12_past_244 ?_
                          refine lv_aload_n hx hb dX12_past_247 rfl (lv_at hl 3 rfl) ?_
                          refine va_get (D := (dC, dI)) (ci := 12) (v := .int (v 19)) (C := RX12) (T := TX12) (N := 63) hx hb hwd inA_X12 hown hK hP 0 rfl rfl 19 (by decide) (hwd _ wk_494) (fun _ h9 => h9) rfl dX12_past_248 ?_
                          have t7473 : 0 ≤ (v 19).toInt ∧ (v 19).toInt ≤ 500 := hI.1 19 _ _ rfl
                          refine lv_iconst (v := 0) hx hb dX12_past_251 (by decide) ?_
                          refine va_zast hx hb hK hP (DM hg) hS 23 22 rfl rfl (i := (v 19)) (x := 0) (vin (a := (v 19).toInt) rfl (by omega)) dX12_past_252 (fun H locs hP _ hS => ?_)
                          have hP := va_P_eq (sM_23 g c _ _ _ _) hP
                          have hI := IM.store0 hI 23 (v 19 : Int32).toNatClampNeg (vp_nar .boolean 0) rfl
                          have hF := frUF (k := 23) (f := upd (F7470 23) (v 19 : Int32).toNatClampNeg (vp_nar .boolean 0)) (by decide) hF
                          have st7475 : (va_up F7470 23 (upd (F7470 23) (v 19 : Int32).toNatClampNeg (vp_nar .boolean 0))) 23 = upd (F7470 23) (v 19 : Int32).toNatClampNeg (vp_nar .boolean 0) := va_up_self _ _ _
                          have sn7476 : ∀ k9, k9 ≠ 23 → (va_up F7470 23 (upd (F7470 23) (v 19 : Int32).toNatClampNeg (vp_nar .boolean 0))) k9 = F7470 k9 := fun k9 h9 => va_up_ne _ _ h9
                          have hP : va_P (dC, dI) classes (wM g c v (va_up F7470 23 (upd (F7470 23) (v 19 : Int32).toNatClampNeg (vp_nar .boolean 0))) rc) H := hP
                          generalize (va_up F7470 23 (upd (F7470 23) (v 19 : Int32).toNatClampNeg (vp_nar .boolean 0))) = F7474 at hP hI hF st7475 sn7476
                          refine lv_aload_n hx hb dX12_past_253 rfl (lv_at hl 3 rfl) ?_
                          refine lv_dup hx hb dX12_past_254 rfl ?_
                          refine va_get (D := (dC, dI)) (ci := 12) (v := .int (v 19)) (C := RX12) (T := TX12) (N := 63) hx hb hwd inA_X12 hown hK hP 0 rfl rfl 19 (by decide) (hwd _ wk_494) (fun _ h9 => h9) rfl dX12_past_255 ?_
                          have t7477 : 0 ≤ (v 19).toInt ∧ (v 19).toInt ≤ 500 := hI.1 19 _ _ rfl
                          refine lv_iconst (v := 1) hx hb dX12_past_258 (by decide) ?_
                          refine lv_iadd hx hb dX12_past_259 ?_
                          refine lv_topi (fun z7478 e7479 => ?_)
                          try (have t7480 := tadd e7479 (a := (v 19).toInt) rfl (b := 1) (by decide) (by omega))
                          refine va_put (D := (dC, dI)) (ci := 12) (v := .int z7478) (ty := .int) (C := RX12) (T := TX12) (N := 63) (fs := fsM_0 g v rc) hx hb hwd inA_X12 tyX12 tyX12_ok nmX12 hown hK hP (DM hg) hS 0 rfl rfl 19 (by decide) (hwd _ wk_494) (fun _ h9 => h9) rfl (by decide +kernel) rfl rfl (Nat.le_of_ble_eq_true rfl) dX12_past_260 (fun H locs hP _ hS => ?_)
                          have hP := va_P_eq (pM_19 g c _ _ _ _) hP
                          have hI := IM.put hI 19 z7478 rfl (by omega)
                          refine lv_aload_n hx hb dX12_past_263 rfl (lv_at hl 3 rfl) ?_
                          refine lv_iload_n hx hb dX12_past_264 rfl (lv_at hl 4 rfl) ?_
                          have t7481 : 0 ≤ z7478.toInt ∧ z7478.toInt ≤ 500 := hI.1 19 _ _ rfl
                          refine va_calli (va_runV (As := [.int p0]) (rest := []) ⟨hx, hb, hml, hown, hwd⟩ (c_X12_staysOf l dC dI g c adK adV (va_up v 19 z7478) F7474 rc H.size p0 hg hI ) (cwV 1 hwd (gV wk_720 wk_717 wk_718 wk_719 wk_5) rfl rfl rfl (by decide +kernel) ⟨Nat.le_of_ble_eq_true rfl, Nat.le_of_ble_eq_true rfl⟩) ⟨PM.blind, va_recv hK hP (ci := 12) (q0 := 0) rfl rfl, fun U hU hW => ⟨rfl, PM.at hK hE hP hS hU hW⟩⟩ rfl rfl hl.1 rfl (lv_room (Nat.le_of_ble_eq_true rfl)) dX12_past_265 ⟨Nat.le_of_ble_eq_true rfl, Nat.le_of_ble_eq_true rfl⟩) hS (fun q _ h => (freeM hS) q h) (freeM hS) (fun r7482 u t H1 locs ht hvm hw hB hz1 hk1 hS => ?_)
                          unfold BM at hB
                          rw [ht] at hB
                          have hP : va_P (dC, dI) classes (wM g c (va_up v 19 z7478) F7474 rc) H1 := hB
                          replace hw : r7482.toInt = (cnt (stP (F7474 15) p0.toInt) z7478.toNatClampNeg : Int) := hw
                          have hw_r7482 := hw
                          clear hw
                          clear hz1
                          generalize H1 = H at hP hS ⊢
                          have rr_r7482 := i32_rng r7482
                          have hP9 : va_P (dC, dI) classes (wM g c (va_up v 19 z7478) F7474 rc) H := hP
                          exact W.iret (v := r7482) hx hb hr (fun t ht hW => ⟨⟨r7482, ((va_up v 19 z7478), F7474, rc), rfl, ⟨hI, rfl, (frU (by decide) (fun _ _ => rfl)), hF, (by show JO ((va_up v 19 z7478) 14) ((va_up v 19 z7478) 19) (F7474 13) (F7474 15) (F7474 18); rw [show (va_up v 19 z7478) 14 = v 14 from rfl, show (va_up v 19 z7478) 19 = z7478 from rfl, show F7474 13 = F 13 from (hF 13 (by decide))]; exact JO.past hJ (past_has (by omega) (by omega) ((sn7476 15 (by decide)).trans ((sn7472 15 (by decide)).trans ((sn7468 15 (by decide)).trans ((sn7464 15 (by decide)).trans ((sn7457 15 (by decide)).trans ((sn7453 15 (by decide)).trans ((sn7446 15 (by decide)).trans ((sn7439 15 (by decide)).trans st7434)))))))) ((sn7476 18 (by decide)).trans ((sn7472 18 (by decide)).trans ((sn7468 18 (by decide)).trans ((sn7464 18 (by decide)).trans ((sn7457 18 (by decide)).trans (st7452.trans (congrArg (fun f => upd f (v 19 : Int32).toNatClampNeg z7448) ((sn7446 18 (by decide)).trans ((sn7439 18 (by decide)).trans (sn7435 18 (by decide)))))))))))))⟩, (by show va_P _ _ _ t.heap; rw [ht]; exact hP9)⟩, hS.F ht⟩) hS.2.2 dX12_past_268
                        · skip
                          have t7483 := cv_eq (a := (v 19).toInt) rfl (b := 500) (by decide) c7430
                          refine lv_bipush (v := (-3)) hx hb dX12_past_143 (by decide) ?_
                          have hP9 : va_P (dC, dI) classes (wM g c v F rc) H := hP
                          exact W.iret (v := (-3)) hx hb hr (fun t ht hW => ⟨⟨(-3), (v, F, rc), rfl, ⟨hI, rfl, (fun _ _ => rfl), hF, hJ⟩, (by show va_P _ _ _ t.heap; rw [ht]; exact hP9)⟩, hS.F ht⟩) hS.2.2 dX12_past_145
                      · skip
                        have t7484 := cv_nle (a := 0) (by decide) (b := z7424.toInt) rfl c7427
                        refine lv_iconst (v := (-1)) hx hb dX12_past_131 (by decide) ?_
                        have hP9 : va_P (dC, dI) classes (wM g c v F rc) H := hP
                        exact W.iret (v := (-1)) hx hb hr (fun t ht hW => ⟨⟨(-1), (v, F, rc), rfl, ⟨hI, rfl, (fun _ _ => rfl), hF, hJ⟩, (by show va_P _ _ _ t.heap; rw [ht]; exact hP9)⟩, hS.F ht⟩) hS.2.2 dX12_past_132
                    · skip
                      have t7485 := cv_eq (a := r7413.toInt) rfl (b := 0) (by decide) c7416
                      refine lv_iconst (v := (-1)) hx hb dX12_past_110 (by decide) ?_
                      have hP9 : va_P (dC, dI) classes (wM g c v F rc) H := hP
                      exact W.iret (v := (-1)) hx hb hr (fun t ht hW => ⟨⟨(-1), (v, F, rc), rfl, ⟨hI, rfl, (fun _ _ => rfl), hF, hJ⟩, (by show va_P _ _ _ t.heap; rw [ht]; exact hP9)⟩, hS.F ht⟩) hS.2.2 dX12_past_111
          · skip
            have t7486 := cv_nle (a := 0) (by decide) (b := p2.toInt) rfl c7382
            refine lv_iconst (v := (-1)) hx hb dX12_past_36 (by decide) ?_
            have hP9 : va_P (dC, dI) classes (wM g c v F rc) H := hP
            exact W.iret (v := (-1)) hx hb hr (fun t ht hW => ⟨⟨(-1), (v, F, rc), rfl, ⟨hI, rfl, (fun _ _ => rfl), hF, hJ⟩, (by show va_P _ _ _ t.heap; rw [ht]; exact hP9)⟩, hS.F ht⟩) hS.2.2 dX12_past_37
