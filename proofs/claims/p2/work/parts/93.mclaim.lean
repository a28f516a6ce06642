set_option maxHeartbeats 8000000 in
set_option maxRecDepth 100000 in
theorem c_X12_claim (l : Launch) (dC : Nat → ClassId) (dI : Nat → Nat → Nat) (g : Nat → Nat) (c : Nat → ClassId) (adK adV : Nat → Nat) (v : Nat → Int32) (F : Nat → Nat → Int32) (rc sz : Nat) (p0 : Int32) (p1 : Int32) (hg : injM g) (hI : IM v F) (hJ : JO (v 14) (v 19) (F 13) (F 15) (F 18)) : Met l yX12_claim (Cond.code yX12_claim cX12_claim 7 (some .int) :: wA) ({ frames := 3, cells := 0, slots := 0, locals := 120 }) (va_Pc [.ref (g 0), .int p0, .int p1] (PM dC dI g c adK adV v F rc sz)) (va_Qi (fun (r : Int32) (u : StM) => IM u.1 u.2.1 ∧ u.2.2 = rc ∧ (∀ k, k ∉ ([60] : List Nat) → u.1 k = v k) ∧ (∀ k, k ∉ ([10] : List Nat) → u.2.1 k = F k) ∧ True) (BM dC dI g c) (AM g sz)) 0 0 (AM g sz) := by
  refine Met.ofW (cc := cX12_claim) (maxL := 7) (ret := (some .int)) (by decide) rfl ?_
  intro p e s m args below meth c0 s₁ B hml hv
  obtain ⟨rfl, hsz, hP, hK, hE⟩ := hv
  have hx := B.exec
  have hb := B.bytes
  have hr := B.returns
  have hts := atoms_spec (ws := Cond.code yX12_claim cX12_claim 7 (some .int) :: wA) B.pre
  have hwd : ∀ w ∈ wA, w.before _ s = true := fun w h => hts w (List.mem_cons_of_mem _ h)
  have hown : s.vm.findClass RX12 = some m.cls := findClass_of_methodNamed B.named
  have hlocks := B.notSynchronized
  subst hsz
  have hl := lv_entry ([.ref (g 0), .int p0, .int p1]) (n := 7) (Nat.le_of_ble_eq_true rfl)
  rw [lg_entry_eq]
  generalize (lg_sl ([.ref (g 0), .int p0, .int p1]) ++ List.replicate (7 - (lg_sl ([.ref (g 0), .int p0, .int p1])).length) Slot.unset).toArray = ls at hl ⊢
  have hl : lv_has ls 7 [(0, .ref (g 0)), (1, .int p0), (2, .int p1)] := hl
  obtain ⟨H, eH⟩ : ∃ z, z = s.heap := ⟨_, rfl⟩
  have hP : va_P (dC, dI) classes (wM g c v F rc) H := by rw [eH]; exact hP
  have hS : va_S (AM g s.heap.size) s.heap H [] := by rw [eH]; exact va_S.rf
  refine my_heap eH ?_
  have hF : ∀ k, k ∉ ([10] : List Nat) → F k = F k := fun _ _ => rfl
  have rp0 := i32_rng p0
  have rp1 := i32_rng p1
  have hb14 : 0 ≤ (v 14).toInt ∧ (v 14).toInt ≤ 100 := hI.1 14 _ _ rfl
  have hb19 : 0 ≤ (v 19).toInt ∧ (v 19).toInt ≤ 500 := hI.1 19 _ _ rfl
  refine lv_aload_n hx hb dX12_claim_0 rfl (lv_at hl 0 rfl) ?_
  refine lv_iload_n hx hb dX12_claim_1 rfl (lv_at hl 1 rfl) ?_
  have t17376 : 0 ≤ (v 14).toInt ∧ (v 14).toInt ≤ 100 := hI.1 14 _ _ rfl
  refine va_calli (va_runV (As := [.int p0]) (rest := []) ⟨hx, hb, hml, hown, hwd⟩ (c_X12_isPart l dC dI g c adK adV v F rc H.size p0 hg hI ) (cwV 1 hwd (gV wk_631 wk_628 wk_629 wk_630 wk_5) rfl rfl rfl (by decide +kernel) ⟨Nat.le_of_ble_eq_true rfl, Nat.le_of_ble_eq_true rfl⟩) ⟨PM.blind, va_recv hK hP (ci := 12) (q0 := 0) rfl rfl, fun U hU hW => ⟨rfl, PM.at hK hE hP hS hU hW⟩⟩ rfl rfl hl.1 rfl (lv_room (Nat.le_of_ble_eq_true rfl)) dX12_claim_2 ⟨Nat.le_of_ble_eq_true rfl, Nat.le_of_ble_eq_true rfl⟩) hS (fun q _ h => (freeM hS) q h) (freeM hS) (fun r17377 u t H1 locs ht hvm hw hB hz1 hk1 hS => ?_)
  unfold BM at hB
  rw [ht] at hB
  have hP : va_P (dC, dI) classes (wM g c v F rc) H1 := hB
  replace hw : (r17377.toInt = 1 ∧ 0 ≤ p0.toInt ∧ p0.toInt < (v 14).toInt) ∨ (r17377.toInt = 0 ∧ (p0.toInt < 0 ∨ (v 14).toInt ≤ p0.toInt)) := hw
  have hw_r17377 := hw
  clear hw
  clear hz1
  generalize H1 = H at hP hS ⊢
  refine lv_if_eq (tgt := 18) hx hb dX12_claim_5 (by decide) (fun c17378 => ?_) (fun c17378 => ?_)
  · skip
    have t17379 := cv_eq (a := r17377.toInt) rfl (b := 0) (by decide) c17378
    refine lv_iconst (v := (-1)) hx hb dX12_claim_18 (by decide) ?_
    have hP9 : va_P (dC, dI) classes (wM g c v F rc) H := hP
    exact W.iret (v := (-1)) hx hb hr (fun t ht hW => ⟨⟨(-1), (v, F, rc), rfl, ⟨hI, rfl, (fun _ _ => rfl), hF, trivial⟩, (by show va_P _ _ _ t.heap; rw [ht]; exact hP9)⟩, hS.F ht⟩) hS.2.2 dX12_claim_19
  · skip
    have t17380 := cv_ne (a := r17377.toInt) rfl (b := 0) (by decide) c17378
    refine lv_iload_n hx hb dX12_claim_8 rfl (lv_at hl 2 rfl) ?_
    refine lv_iconst (v := 1) hx hb dX12_claim_9 (by decide) ?_
    refine lv_ldc (v := 999999) hx hb hown (hwd _ wk_250) dX12_claim_10 ?_
    refine va_calli (va_runS (As := [.int p1, .int 1, .int 999999]) (rest := []) ⟨hx, hb, hml, hown, hwd⟩ (c_X12_in l dC dI g c adK adV v F rc H.size p1 1 999999 hg hI ) (va_cwS 3 hwd (gT wk_254 wk_252 wk_253 wk_5) rfl rfl rfl (by decide +kernel) ⟨Nat.le_of_ble_eq_true rfl, Nat.le_of_ble_eq_true rfl⟩) ⟨PM.blind, fun U hU hW => ⟨rfl, PM.at hK hE hP hS hU hW⟩⟩ rfl rfl hl.1 rfl (lv_room (Nat.le_of_ble_eq_true rfl)) dX12_claim_12 ⟨Nat.le_of_ble_eq_true rfl, Nat.le_of_ble_eq_true rfl⟩) hS (fun q _ h => (freeM hS) q h) (freeM hS) (fun r17381 u t H1 locs ht hvm hw hB hz1 hk1 hS => ?_)
    unfold BM at hB
    rw [ht] at hB
    have hP : va_P (dC, dI) classes (wM g c v F rc) H1 := hB
    have hw_r17381 : (r17381.toInt = 1 ∧ (1 : Int32).toInt ≤ p1.toInt ∧ p1.toInt ≤ (999999 : Int32).toInt) ∨ (r17381.toInt = 0 ∧ (p1.toInt < (1 : Int32).toInt ∨ (999999 : Int32).toInt < p1.toInt)) := hw
    clear hw
    have k17382 : (1 : Int32).toInt = 1 := by decide
    have k17383 : (999999 : Int32).toInt = 999999 := by decide
    clear hz1
    generalize H1 = H at hP hS ⊢
    refine lv_if_ne (tgt := 20) hx hb dX12_claim_15 (by decide) (fun c17384 => ?_) (fun c17384 => ?_)
    · skip
      have t17385 := cv_ne (a := r17381.toInt) rfl (b := 0) (by decide) c17384
      refine lv_aload_n hx hb dX12_claim_20 rfl (lv_at hl 0 rfl) ?_
      refine va_get (D := (dC, dI)) (ci := 12) (v := .ref (g 13)) (C := RX12) (T := TX12) (N := 63) hx hb hwd inA_X12 hown hK hP 0 rfl rfl 17 (by decide) (hwd _ wk_194) (fun _ h9 => h9) rfl dX12_claim_21 ?_
      refine lv_iload_n hx hb dX12_claim_24 rfl (lv_at hl 1 rfl) ?_
      refine va_iald hx hb hK hP 13 12 rfl rfl (i := p0) (vin (a := p0.toInt) rfl (by omega)) dX12_claim_25 ?_
      refine lv_topi (fun z17386 e17387 => ?_)
      have t17388 : 0 ≤ z17386.toInt ∧ z17386.toInt ≤ 12 := by rw [e17387]; exact hI.2 13 _ _ rfl _
      have tzz17386 : z17386.toInt = (F 13 (p0 : Int32).toNatClampNeg).toInt := congrArg Int32.toInt e17387
      refine lv_bipush (v := 10) hx hb dX12_claim_26 (by decide) ?_
      refine lv_icmp_eq (tgt := 34) hx hb dX12_claim_28 (by decide) (fun c17389 => ?_) (fun c17389 => ?_)
      · skip
        have t17390 := cv_eq (a := z17386.toInt) rfl (b := 10) (by decide) c17389
        refine lv_aload_n hx hb dX12_claim_34 rfl (lv_at hl 0 rfl) ?_
        refine lv_iload_n hx hb dX12_claim_35 rfl (lv_at hl 1 rfl) ?_
        have t17391 : 0 ≤ (v 19).toInt ∧ (v 19).toInt ≤ 500 := hI.1 19 _ _ rfl
        refine va_calli (va_runV (As := [.int p0]) (rest := []) ⟨hx, hb, hml, hown, hwd⟩ (c_X12_openOf l dC dI g c adK adV v F rc H.size p0 hg hI ) (cwV 1 hwd (gV wk_639 wk_636 wk_637 wk_638 wk_5) rfl rfl rfl (by decide +kernel) ⟨Nat.le_of_ble_eq_true rfl, Nat.le_of_ble_eq_true rfl⟩) ⟨PM.blind, va_recv hK hP (ci := 12) (q0 := 0) rfl rfl, fun U hU hW => ⟨rfl, PM.at hK hE hP hS hU hW⟩⟩ rfl rfl hl.1 rfl (lv_room (Nat.le_of_ble_eq_true rfl)) dX12_claim_36 ⟨Nat.le_of_ble_eq_true rfl, Nat.le_of_ble_eq_true rfl⟩) hS (fun q _ h => (freeM hS) q h) (freeM hS) (fun r17392 u t H1 locs ht hvm hw hB hz1 hk1 hS => ?_)
        unfold BM at hB
        rw [ht] at hB
        have hP : va_P (dC, dI) classes (wM g c v F rc) H1 := hB
        replace hw : ((0 ≤ r17392.toInt ∧ r17392.toInt < (v 19).toInt) ∧ ((F 15 r17392.toNatClampNeg).toInt = p0.toInt ∧ (F 18 r17392.toNatClampNeg).toInt = 1000000)) ∨ (r17392.toInt = -1 ∧ ∀ s : Nat, (s : Int) < (v 19).toInt → ¬ ((F 15 s).toInt = p0.toInt ∧ (F 18 s).toInt = 1000000)) := hw
        have hw_r17392 := hw
        clear hw
        clear hz1
        generalize H1 = H at hP hS ⊢
        have ho_r17392 := hw_r17392.elim id (fun h => absurd (JO.at' hJ (i := p0) (by omega) (by omega) (by omega)) (no_hasO h.2))
        refine lv_istore_n (lv' := [(3, .int r17392), (0, .ref (g 0)), (1, .int p0), (2, .int p1)]) hx hb dX12_claim_39 rfl hl (by decide) rfl (fun ls hl => ?_)
        refine lv_iconst (v := (-1)) hx hb dX12_claim_40 (by decide) ?_
        refine lv_istore (lv' := [(4, .int (-1)), (3, .int r17392), (0, .ref (g 0)), (1, .int p0), (2, .int p1)]) hx hb dX12_claim_41 hl (by decide) rfl (fun ls hl => ?_)
        refine lv_iconst (v := 0) hx hb dX12_claim_43 (by decide) ?_
        refine lv_istore (lv' := [(5, .int 0), (4, .int (-1)), (3, .int r17392), (0, .ref (g 0)), (1, .int p0), (2, .int p1)]) hx hb dX12_claim_44 hl (by decide) rfl (fun ls hl => ?_)
        have lp17393 : ∀ (n : Nat) (x5_lp17393 : Int32) (x4_lp17393 : Int32) (v_lp17393 : Nat → Int32) (F_lp17393 : Nat → Nat → Int32) (H : Heap) (locs : List Loc) (ls : Array Slot), (0 ≤ x5_lp17393.toInt) → (-1 ≤ x4_lp17393.toInt) → (x4_lp17393.toInt ≤ 499) → (2147483648 - x5_lp17393.toInt ≤ (n : Int)) → (∀ k, k ∉ ([] : List Nat) → v_lp17393 k = v k) → IM v_lp17393 F_lp17393 → (∀ k, k ∉ ([10] : List Nat) → F_lp17393 k = F k) → va_P (dC, dI) classes (wM g c v_lp17393 F_lp17393 rc) H → va_S (AM g s.heap.size) s.heap H locs → lv_has ls 7 [(5, .int x5_lp17393), (4, .int x4_lp17393), (3, .int r17392), (0, .ref (g 0)), (1, .int p0), (2, .int p1)] → W p l e (headSpec (Cond.code yX12_claim cX12_claim 7 (some .int) :: wA) ({ frames := 3, cells := 0, slots := 0, locals := 120 })).room s m ([.ref (g 0), .int p0, .int p1] : List Value).toArray below meth c0 H locs 0 0 (MQ below (va_Qi (fun (r : Int32) (u : StM) => IM u.1 u.2.1 ∧ u.2.2 = rc ∧ (∀ k, k ∉ ([60] : List Nat) → u.1 k = v k) ∧ (∀ k, k ∉ ([10] : List Nat) → u.2.1 k = F k) ∧ True) (BM dC dI g c) (AM g s.heap.size)) ([.ref (g 0), .int p0, .int p1] : List Value).toArray s 0 0 (AM g s.heap.size)) (F0 m 46 ls []) := by
          intro n
          induction n with
          | zero =>
            intro x5_lp17393 x4_lp17393 v_lp17393 F_lp17393 H locs ls t17394 t17395 t17396 hm hf_lp17393 hI hF hP hS hl
            exfalso
            have := i32_rng x5_lp17393
            have := i32_rng x4_lp17393
            have hI1 := hI.1
            omega
          | succ n ih_lp17393 =>
            intro x5_lp17393 x4_lp17393 v_lp17393 F_lp17393 H locs ls t17394 t17395 t17396 hm hf_lp17393 hI hF hP hS hl
            have rx5_lp17393 := i32_rng x5_lp17393
            have rx4_lp17393 := i32_rng x4_lp17393
            refine lv_iload hx hb dX12_claim_46 (lv_at hl 0 rfl) ?_
            refine lv_aload_n hx hb dX12_claim_48 rfl (lv_at hl 3 rfl) ?_
            refine va_get (D := (dC, dI)) (ci := 12) (v := .int (v_lp17393 19)) (C := RX12) (T := TX12) (N := 63) hx hb hwd inA_X12 hown hK hP 0 rfl rfl 19 (by decide) (hwd _ wk_494) (fun _ h9 => h9) rfl dX12_claim_49 ?_
            refine my_top (v := v 19) (hf_lp17393 19 (by decide)) ?_
            have t17397 : 0 ≤ (v 19).toInt ∧ (v 19).toInt ≤ 500 := by have h9 := hI.1 19 _ _ rfl; rw [show v_lp17393 19 = v 19 from hf_lp17393 19 (by decide)] at h9; exact h9
            refine lv_icmp_ge (tgt := 108) hx hb dX12_claim_52 (by decide) (fun c17398 => ?_) (fun c17398 => ?_)
            · skip
              have t17399 := cv_le (a := (v 19).toInt) rfl (b := x5_lp17393.toInt) rfl c17398
              refine lv_iload hx hb dX12_claim_108 (lv_at hl 1 rfl) ?_
              refine lv_if_lt (tgt := 125) hx hb dX12_claim_110 (by decide) (fun c17400 => ?_) (fun c17400 => ?_)
              · skip
                have t17401 := cv_lt (a := x4_lp17393.toInt) rfl (b := 0) (by decide) c17400
                refine lv_bipush (v := (-2)) hx hb dX12_claim_125 (by decide) ?_
                have hP9 : va_P (dC, dI) classes (wM g c v_lp17393 F_lp17393 rc) H := hP
                exact W.iret (v := (-2)) hx hb hr (fun t ht hW => ⟨⟨(-2), (v_lp17393, F_lp17393, rc), rfl, ⟨hI, rfl, (frC (by decide) hf_lp17393 (fun _ _ => rfl)), hF, trivial⟩, (by show va_P _ _ _ t.heap; rw [ht]; exact hP9)⟩, hS.F ht⟩) hS.2.2 dX12_claim_127
              · skip
                have t17402 := cv_nlt (a := x4_lp17393.toInt) rfl (b := 0) (by decide) c17400
                refine lv_aload_n hx hb dX12_claim_113 rfl (lv_at hl 3 rfl) ?_
                refine va_get (D := (dC, dI)) (ci := 12) (v := .ref (g 16)) (C := RX12) (T := TX12) (N := 63) hx hb hwd inA_X12 hown hK hP 0 rfl rfl 21 (by decide) (hwd _ wk_197) (fun _ h9 => h9) rfl dX12_claim_114 ?_
                refine lv_iload hx hb dX12_claim_117 (lv_at hl 1 rfl) ?_
                refine va_iald hx hb hK hP 16 15 rfl rfl (i := x4_lp17393) (vin (a := x4_lp17393.toInt) rfl (by omega)) dX12_claim_119 ?_
                refine lv_topi (fun z17403 e17404 => ?_)
                have t17405 : 0 ≤ z17403.toInt ∧ z17403.toInt ≤ 11 := by rw [e17404]; exact hI.2 16 _ _ rfl _
                have e17404 : z17403 = F 16 (x4_lp17393 : Int32).toNatClampNeg := e17404.trans (congrFun (hF 16 (by decide)) _)
                have tzz17403 : z17403.toInt = (F 16 (x4_lp17393 : Int32).toNatClampNeg).toInt := congrArg Int32.toInt e17404
                refine lv_bipush (v := 10) hx hb dX12_claim_120 (by decide) ?_
                refine lv_icmp_lt (tgt := 128) hx hb dX12_claim_122 (by decide) (fun c17406 => ?_) (fun c17406 => ?_)
                · skip
                  have t17407 := cv_lt (a := z17403.toInt) rfl (b := 10) (by decide) c17406
                  refine lv_bipush (v := 10) hx hb dX12_claim_128 (by decide) ?_
                  refine lv_aload_n hx hb dX12_claim_130 rfl (lv_at hl 3 rfl) ?_
                  refine va_get (D := (dC, dI)) (ci := 12) (v := .ref (g 16)) (C := RX12) (T := TX12) (N := 63) hx hb hwd inA_X12 hown hK hP 0 rfl rfl 21 (by decide) (hwd _ wk_197) (fun _ h9 => h9) rfl dX12_claim_131 ?_
                  refine lv_iload hx hb dX12_claim_134 (lv_at hl 1 rfl) ?_
                  refine va_iald hx hb hK hP 16 15 rfl rfl (i := x4_lp17393) (vin (a := x4_lp17393.toInt) rfl (by omega)) dX12_claim_136 ?_
                  refine lv_topi (fun z17408 e17409 => ?_)
                  have t17410 : 0 ≤ z17408.toInt ∧ z17408.toInt ≤ 11 := by rw [e17409]; exact hI.2 16 _ _ rfl _
                  have e17409 : z17408 = F 16 (x4_lp17393 : Int32).toNatClampNeg := e17409.trans (congrFun (hF 16 (by decide)) _)
                  have tzz17408 : z17408.toInt = (F 16 (x4_lp17393 : Int32).toNatClampNeg).toInt := congrArg Int32.toInt e17409
                  refine lv_imul hx hb dX12_claim_137 ?_
                  refine lv_topi (fun z17411 e17412 => ?_)
                  try (have t17413 := tmul e17412 (a := 10) (by decide) (b := z17408.toInt) rfl (by omega))
                  refine lv_aload_n hx hb dX12_claim_138 rfl (lv_at hl 3 rfl) ?_
                  refine va_get (D := (dC, dI)) (ci := 12) (v := .ref (g 11)) (C := RX12) (T := TX12) (N := 63) hx hb hwd inA_X12 hown hK hP 0 rfl rfl 15 (by decide) (hwd _ wk_192) (fun _ h9 => h9) rfl dX12_claim_139 ?_
                  refine lv_iload_n hx hb dX12_claim_142 rfl (lv_at hl 4 rfl) ?_
                  refine va_iald hx hb hK hP 11 10 rfl rfl (i := p0) (vin (a := p0.toInt) rfl (by omega)) dX12_claim_143 ?_
                  refine lv_topi (fun z17414 e17415 => ?_)
                  have t17416 : 0 ≤ z17414.toInt ∧ z17414.toInt ≤ 9 := by rw [e17415]; exact hI.2 11 _ _ rfl _
                  have e17415 : z17414 = F 11 (p0 : Int32).toNatClampNeg := e17415.trans (congrFun (hF 11 (by decide)) _)
                  have tzz17414 : z17414.toInt = (F 11 (p0 : Int32).toNatClampNeg).toInt := congrArg Int32.toInt e17415
                  refine lv_iadd hx hb dX12_claim_144 ?_
                  refine lv_topi (fun z17417 e17418 => ?_)
                  try (have t17419 := tadd e17418 (a := z17411.toInt) rfl (b := z17414.toInt) rfl (by omega))
                  refine lv_istore (lv' := [(5, .int z17417), (4, .int x4_lp17393), (3, .int r17392), (0, .ref (g 0)), (1, .int p0), (2, .int p1)]) hx hb dX12_claim_145 hl (by decide) rfl (fun ls hl => ?_)
                  refine lv_iload_n hx hb dX12_claim_147 rfl (lv_at hl 5 rfl) ?_
                  refine lv_aload_n hx hb dX12_claim_148 rfl (lv_at hl 3 rfl) ?_
                  refine va_get (D := (dC, dI)) (ci := 12) (v := .ref (g 10)) (C := RX12) (T := TX12) (N := 63) hx hb hwd inA_X12 hown hK hP 0 rfl rfl 13 (by decide) (hwd _ wk_191) (fun _ h9 => h9) rfl dX12_claim_149 ?_
                  refine lv_iload hx hb dX12_claim_152 (lv_at hl 0 rfl) ?_
                  refine va_iald hx hb hK hP 10 9 rfl rfl (i := z17417) (vin (a := z17417.toInt) rfl (by omega)) dX12_claim_154 ?_
                  refine lv_topi (fun z17420 e17421 => ?_)
                  have tzz17420 : z17420.toInt = (F_lp17393 10 (z17417 : Int32).toNatClampNeg).toInt := congrArg Int32.toInt e17421
                  refine lv_icmp_ge (tgt := 162) hx hb dX12_claim_155 (by decide) (fun c17422 => ?_) (fun c17422 => ?_)
                  · skip
                    have t17423 := cv_le (a := z17420.toInt) rfl (b := p1.toInt) rfl c17422
                    refine lv_aload_n hx hb dX12_claim_162 rfl (lv_at hl 3 rfl) ?_
                    refine va_get (D := (dC, dI)) (ci := 12) (v := .ref (g 10)) (C := RX12) (T := TX12) (N := 63) hx hb hwd inA_X12 hown hK hP 0 rfl rfl 13 (by decide) (hwd _ wk_191) (fun _ h9 => h9) rfl dX12_claim_163 ?_
                    refine lv_iload hx hb dX12_claim_166 (lv_at hl 0 rfl) ?_
                    refine va_iald hx hb hK hP 10 9 rfl rfl (i := z17417) (vin (a := z17417.toInt) rfl (by omega)) dX12_claim_168 ?_
                    refine lv_topi (fun z17424 e17425 => ?_)
                    have tzz17424 : z17424.toInt = (F_lp17393 10 (z17417 : Int32).toNatClampNeg).toInt := congrArg Int32.toInt e17425
                    refine lv_istore (lv' := [(6, .int z17424), (5, .int z17417), (4, .int x4_lp17393), (3, .int r17392), (0, .ref (g 0)), (1, .int p0), (2, .int p1)]) hx hb dX12_claim_169 hl (by decide) rfl (fun ls hl => ?_)
                    refine lv_aload_n hx hb dX12_claim_171 rfl (lv_at hl 4 rfl) ?_
                    refine va_get (D := (dC, dI)) (ci := 12) (v := .ref (g 10)) (C := RX12) (T := TX12) (N := 63) hx hb hwd inA_X12 hown hK hP 0 rfl rfl 13 (by decide) (hwd _ wk_191) (fun _ h9 => h9) rfl dX12_claim_172 ?_
                    refine lv_iload hx hb dX12_claim_175 (lv_at hl 1 rfl) ?_
                    refine lv_dup2_11 hx hb dX12_claim_177 rfl rfl ?_
                    refine va_iald hx hb hK hP 10 9 rfl rfl (i := z17417) (vin (a := z17417.toInt) rfl (by omega)) dX12_claim_178 ?_
                    refine lv_topi (fun z17426 e17427 => ?_)
                    have tzz17426 : z17426.toInt = (F_lp17393 10 (z17417 : Int32).toNatClampNeg).toInt := congrArg Int32.toInt e17427
                    refine lv_iload hx hb dX12_claim_179 (lv_at hl 0 rfl) ?_
                    refine lv_isub hx hb dX12_claim_181 ?_
                    refine lv_topi (fun z17428 e17429 => ?_)
                    try (have t17430 := tsub e17429 (a := z17426.toInt) rfl (b := z17424.toInt) rfl (by omega))
                    refine va_iast hx hb hK hP (DM hg) hS 10 9 rfl rfl (i := z17417) (x := z17428) (vin (a := z17417.toInt) rfl (by omega)) dX12_claim_182 (fun H locs hP _ hS => ?_)
                    have hP := va_P_eq (sM_10 g c _ _ _ _) hP
                    have hI := IM.store0 hI 10 (z17417 : Int32).toNatClampNeg z17428 rfl
                    have hF := frUF (k := 10) (f := upd (F_lp17393 10) (z17417 : Int32).toNatClampNeg z17428) (by decide) hF
                    have st17432 : (va_up F_lp17393 10 (upd (F_lp17393 10) (z17417 : Int32).toNatClampNeg z17428)) 10 = upd (F_lp17393 10) (z17417 : Int32).toNatClampNeg z17428 := va_up_self _ _ _
                    have sn17433 : ∀ k9, k9 ≠ 10 → (va_up F_lp17393 10 (upd (F_lp17393 10) (z17417 : Int32).toNatClampNeg z17428)) k9 = F_lp17393 k9 := fun k9 h9 => va_up_ne _ _ h9
                    have hP : va_P (dC, dI) classes (wM g c v_lp17393 (va_up F_lp17393 10 (upd (F_lp17393 10) (z17417 : Int32).toNatClampNeg z17428)) rc) H := hP
                    generalize (va_up F_lp17393 10 (upd (F_lp17393 10) (z17417 : Int32).toNatClampNeg z17428)) = F17431 at hP hI hF st17432 sn17433
                    refine lv_aload_n hx hb dX12_claim_183 rfl (lv_at hl 4 rfl) ?_
                    refine lv_dup hx hb dX12_claim_184 rfl ?_
                    refine va_get (D := (dC, dI)) (ci := 12) (v := .int (v_lp17393 60)) (C := RX12) (T := TX12) (N := 63) hx hb hwd inA_X12 hown hK hP 0 rfl rfl 60 (by decide) (hwd _ wk_1348) (fun _ h9 => h9) rfl dX12_claim_185 ?_
                    refine my_top (v := v 60) (hf_lp17393 60 (by decide)) ?_
                    refine lv_iload hx hb dX12_claim_188 (lv_at hl 0 rfl) ?_
                    refine lv_iadd hx hb dX12_claim_190 ?_
                    refine lv_topi (fun z17434 e17435 => ?_)
                    try (have t17436 := tadd e17435 (a := (v 60).toInt) rfl (b := z17424.toInt) rfl (by omega))
                    refine va_put (D := (dC, dI)) (ci := 12) (v := .int z17434) (ty := .int) (C := RX12) (T := TX12) (N := 63) (fs := fsM_0 g v_lp17393 rc) hx hb hwd inA_X12 tyX12 tyX12_ok nmX12 hown hK hP (DM hg) hS 0 rfl rfl 60 (by decide) (hwd _ wk_1348) (fun _ h9 => h9) rfl (by decide +kernel) rfl rfl (Nat.le_of_ble_eq_true rfl) dX12_claim_191 (fun H locs hP _ hS => ?_)
                    have hP := va_P_eq (pM_60 g c _ _ _ _) hP
                    have hI := IM.put0 hI 60 z17434 rfl
                    refine lv_iload hx hb dX12_claim_194 (lv_at hl 0 rfl) ?_
                    have hP9 : va_P (dC, dI) classes (wM g c (va_up v_lp17393 60 z17434) F17431 rc) H := hP
                    exact W.iret (v := z17424) hx hb hr (fun t ht hW => ⟨⟨z17424, ((va_up v_lp17393 60 z17434), F17431, rc), rfl, ⟨hI, rfl, (frU (by decide) (frC (by decide) hf_lp17393 (fun _ _ => rfl))), hF, trivial⟩, (by show va_P _ _ _ t.heap; rw [ht]; exact hP9)⟩, hS.F ht⟩) hS.2.2 dX12_claim_196
                  · skip
                    have t17437 := cv_nle (a := z17420.toInt) rfl (b := p1.toInt) rfl c17422
                    refine lv_iload_n hx hb dX12_claim_158 rfl (lv_at hl 5 rfl) ?_
                    refine lv_goto (tgt := 169) hx hb dX12_claim_159 (by decide) ?_
                    refine lv_istore (lv' := [(6, .int p1), (5, .int z17417), (4, .int x4_lp17393), (3, .int r17392), (0, .ref (g 0)), (1, .int p0), (2, .int p1)]) hx hb dX12_claim_169 hl (by decide) rfl (fun ls hl => ?_)
                    refine lv_aload_n hx hb dX12_claim_171 rfl (lv_at hl 4 rfl) ?_
                    refine va_get (D := (dC, dI)) (ci := 12) (v := .ref (g 10)) (C := RX12) (T := TX12) (N := 63) hx hb hwd inA_X12 hown hK hP 0 rfl rfl 13 (by decide) (hwd _ wk_191) (fun _ h9 => h9) rfl dX12_claim_172 ?_
                    refine lv_iload hx hb dX12_claim_175 (lv_at hl 1 rfl) ?_
                    refine lv_dup2_11 hx hb dX12_claim_177 rfl rfl ?_
                    refine va_iald hx hb hK hP 10 9 rfl rfl (i := z17417) (vin (a := z17417.toInt) rfl (by omega)) dX12_claim_178 ?_
                    refine lv_topi (fun z17438 e17439 => ?_)
                    have tzz17438 : z17438.toInt = (F_lp17393 10 (z17417 : Int32).toNatClampNeg).toInt := congrArg Int32.toInt e17439
                    refine lv_iload hx hb dX12_claim_179 (lv_at hl 0 rfl) ?_
                    refine lv_isub hx hb dX12_claim_181 ?_
                    refine lv_topi (fun z17440 e17441 => ?_)
                    try (have t17442 := tsub e17441 (a := z17438.toInt) rfl (b := p1.toInt) rfl (by omega))
                    refine va_iast hx hb hK hP (DM hg) hS 10 9 rfl rfl (i := z17417) (x := z17440) (vin (a := z17417.toInt) rfl (by omega)) dX12_claim_182 (fun H locs hP _ hS => ?_)
                    have hP := va_P_eq (sM_10 g c _ _ _ _) hP
                    have hI := IM.store0 hI 10 (z17417 : Int32).toNatClampNeg z17440 rfl
                    have hF := frUF (k := 10) (f := upd (F_lp17393 10) (z17417 : Int32).toNatClampNeg z17440) (by decide) hF
                    have st17444 : (va_up F_lp17393 10 (upd (F_lp17393 10) (z17417 : Int32).toNatClampNeg z17440)) 10 = upd (F_lp17393 10) (z17417 : Int32).toNatClampNeg z17440 := va_up_self _ _ _
                    have sn17445 : ∀ k9, k9 ≠ 10 → (va_up F_lp17393 10 (upd (F_lp17393 10) (z17417 : Int32).toNatClampNeg z17440)) k9 = F_lp17393 k9 := fun k9 h9 => va_up_ne _ _ h9
                    have hP : va_P (dC, dI) classes (wM g c v_lp17393 (va_up F_lp17393 10 (upd (F_lp17393 10) (z17417 : Int32).toNatClampNeg z17440)) rc) H := hP
                    generalize (va_up F_lp17393 10 (upd (F_lp17393 10) (z17417 : Int32).toNatClampNeg z17440)) = F17443 at hP hI hF st17444 sn17445
                    refine lv_aload_n hx hb dX12_claim_183 rfl (lv_at hl 4 rfl) ?_
                    refine lv_dup hx hb dX12_claim_184 rfl ?_
                    refine va_get (D := (dC, dI)) (ci := 12) (v := .int (v_lp17393 60)) (C := RX12) (T := TX12) (N := 63) hx hb hwd inA_X12 hown hK hP 0 rfl rfl 60 (by decide) (hwd _ wk_1348) (fun _ h9 => h9) rfl dX12_claim_185 ?_
                    refine my_top (v := v 60) (hf_lp17393 60 (by decide)) ?_
                    refine lv_iload hx hb dX12_claim_188 (lv_at hl 0 rfl) ?_
                    refine lv_iadd hx hb dX12_claim_190 ?_
                    refine lv_topi (fun z17446 e17447 => ?_)
                    try (have t17448 := tadd e17447 (a := (v 60).toInt) rfl (b := p1.toInt) rfl (by omega))
                    refine va_put (D := (dC, dI)) (ci := 12) (v := .int z17446) (ty := .int) (C := RX12) (T := TX12) (N := 63) (fs := fsM_0 g v_lp17393 rc) hx hb hwd inA_X12 tyX12 tyX12_ok nmX12 hown hK hP (DM hg) hS 0 rfl rfl 60 (by decide) (hwd _ wk_1348) (fun _ h9 => h9) rfl (by decide +kernel) rfl rfl (Nat.le_of_ble_eq_true rfl) dX12_claim_191 (fun H locs hP _ hS => ?_)
                    have hP := va_P_eq (pM_60 g c _ _ _ _) hP
                    have hI := IM.put0 hI 60 z17446 rfl
                    refine lv_iload hx hb dX12_claim_194 (lv_at hl 0 rfl) ?_
                    have hP9 : va_P (dC, dI) classes (wM g c (va_up v_lp17393 60 z17446) F17443 rc) H := hP
                    exact W.iret (v := p1) hx hb hr (fun t ht hW => ⟨⟨p1, ((va_up v_lp17393 60 z17446), F17443, rc), rfl, ⟨hI, rfl, (frU (by decide) (frC (by decide) hf_lp17393 (fun _ _ => rfl))), hF, trivial⟩, (by show va_P _ _ _ t.heap; rw [ht]; exact hP9)⟩, hS.F ht⟩) hS.2.2 dX12_claim_196
                · skip
                  have t17449 := cv_nlt (a := z17403.toInt) rfl (b := 10) (by decide) c17406
                  refine lv_bipush (v := (-2)) hx hb dX12_claim_125 (by decide) ?_
                  have hP9 : va_P (dC, dI) classes (wM g c v_lp17393 F_lp17393 rc) H := hP
                  exact W.iret (v := (-2)) hx hb hr (fun t ht hW => ⟨⟨(-2), (v_lp17393, F_lp17393, rc), rfl, ⟨hI, rfl, (frC (by decide) hf_lp17393 (fun _ _ => rfl)), hF, trivial⟩, (by show va_P _ _ _ t.heap; rw [ht]; exact hP9)⟩, hS.F ht⟩) hS.2.2 dX12_claim_127
            · skip
              have t17450 := cv_nle (a := (v 19).toInt) rfl (b := x5_lp17393.toInt) rfl c17398
              refine lv_aload_n hx hb dX12_claim_55 rfl (lv_at hl 3 rfl) ?_
              refine va_get (D := (dC, dI)) (ci := 12) (v := .ref (g 15)) (C := RX12) (T := TX12) (N := 63) hx hb hwd inA_X12 hown hK hP 0 rfl rfl 20 (by decide) (hwd _ wk_196) (fun _ h9 => h9) rfl dX12_claim_56 ?_
              refine lv_iload hx hb dX12_claim_59 (lv_at hl 0 rfl) ?_
              refine va_iald hx hb hK hP 15 14 rfl rfl (i := x5_lp17393) (vin (a := x5_lp17393.toInt) rfl (by omega)) dX12_claim_61 ?_
              refine lv_topi (fun z17451 e17452 => ?_)
              have t17453 : 0 ≤ z17451.toInt ∧ z17451.toInt ≤ 99 := by rw [e17452]; exact hI.2 15 _ _ rfl _
              have e17452 : z17451 = F 15 (x5_lp17393 : Int32).toNatClampNeg := e17452.trans (congrFun (hF 15 (by decide)) _)
              have tzz17451 : z17451.toInt = (F 15 (x5_lp17393 : Int32).toNatClampNeg).toInt := congrArg Int32.toInt e17452
              refine lv_iload_n hx hb dX12_claim_62 rfl (lv_at hl 4 rfl) ?_
              refine lv_icmp_ne (tgt := 102) hx hb dX12_claim_63 (by decide) (fun c17454 => ?_) (fun c17454 => ?_)
              · skip
                have t17455 := cv_ne (a := z17451.toInt) rfl (b := p0.toInt) rfl c17454
                obtain ⟨z17456, e17457⟩ : ∃ y : Int32, y = x5_lp17393 + 1 := ⟨_, rfl⟩
                try (have t17458 := tadd e17457 rfl (b := 1) (by decide) (by omega))
                refine lv_iinc (v := z17456) (lv' := [(5, .int z17456), (4, .int x4_lp17393), (3, .int r17392), (0, .ref (g 0)), (1, .int p0), (2, .int p1)]) hx hb dX12_claim_102 hl (k := 0) rfl (by rw [e17457]; rfl) (by decide) rfl (fun ls hl => ?_)
                refine lv_goto (tgt := 46) hx hb dX12_claim_105 (by decide) ?_
                exact ih_lp17393 z17456 x4_lp17393 v_lp17393 F_lp17393 _ _ _ (by omega) (by omega) (by omega) (by omega) hf_lp17393 hI hF hP hS (lv_sub hl [0, 1, 2, 3, 4, 5] rfl)
              · skip
                have t17459 := cv_eq (a := z17451.toInt) rfl (b := p0.toInt) rfl c17454
                refine lv_iload hx hb dX12_claim_66 (lv_at hl 0 rfl) ?_
                refine lv_iload_n hx hb dX12_claim_68 rfl (lv_at hl 2 rfl) ?_
                refine lv_icmp_eq (tgt := 102) hx hb dX12_claim_69 (by decide) (fun c17460 => ?_) (fun c17460 => ?_)
                · skip
                  have t17461 := cv_eq (a := x5_lp17393.toInt) rfl (b := r17392.toInt) rfl c17460
                  obtain ⟨z17462, e17463⟩ : ∃ y : Int32, y = x5_lp17393 + 1 := ⟨_, rfl⟩
                  try (have t17464 := tadd e17463 rfl (b := 1) (by decide) (by omega))
                  refine lv_iinc (v := z17462) (lv' := [(5, .int z17462), (4, .int x4_lp17393), (3, .int r17392), (0, .ref (g 0)), (1, .int p0), (2, .int p1)]) hx hb dX12_claim_102 hl (k := 0) rfl (by rw [e17463]; rfl) (by decide) rfl (fun ls hl => ?_)
                  refine lv_goto (tgt := 46) hx hb dX12_claim_105 (by decide) ?_
                  exact ih_lp17393 z17462 x4_lp17393 v_lp17393 F_lp17393 _ _ _ (by omega) (by omega) (by omega) (by omega) hf_lp17393 hI hF hP hS (lv_sub hl [0, 1, 2, 3, 4, 5] rfl)
                · skip
                  have t17465 := cv_ne (a := x5_lp17393.toInt) rfl (b := r17392.toInt) rfl c17460
                  refine lv_aload_n hx hb dX12_claim_72 rfl (lv_at hl 3 rfl) ?_
                  refine lv_iload hx hb dX12_claim_73 (lv_at hl 0 rfl) ?_
                  refine lv_iload_n hx hb dX12_claim_75 rfl (lv_at hl 2 rfl) ?_
                  refine va_calli (va_runV (As := [.int x5_lp17393, .int r17392]) (rest := []) ⟨hx, hb, hml, hown, hwd⟩ (c_X12_isAhead l dC dI g c adK adV v_lp17393 F_lp17393 rc H.size x5_lp17393 r17392 hg hI (by omega) (by omega)) (cwV 2 hwd (gV wk_509 wk_506 wk_507 wk_508 wk_5) rfl rfl rfl (by decide +kernel) ⟨Nat.le_of_ble_eq_true rfl, Nat.le_of_ble_eq_true rfl⟩) ⟨PM.blind, va_recv hK hP (ci := 12) (q0 := 0) rfl rfl, fun U hU hW => ⟨rfl, PM.at hK hE hP hS hU hW⟩⟩ rfl rfl hl.1 rfl (lv_room (Nat.le_of_ble_eq_true rfl)) dX12_claim_76 ⟨Nat.le_of_ble_eq_true rfl, Nat.le_of_ble_eq_true rfl⟩) hS (fun q _ h => (freeM hS) q h) (freeM hS) (fun r17466 u t H1 locs ht hvm hw hB hz1 hk1 hS => ?_)
                  unfold BM at hB
                  rw [ht] at hB
                  have hP : va_P (dC, dI) classes (wM g c v_lp17393 F_lp17393 rc) H1 := hB
                  replace hw : (r17466.toInt = 1 ∧ ((F_lp17393 17 x5_lp17393.toNatClampNeg).toInt < (F_lp17393 17 r17392.toNatClampNeg).toInt ∨ ((F_lp17393 17 x5_lp17393.toNatClampNeg).toInt = (F_lp17393 17 r17392.toNatClampNeg).toInt ∧ x5_lp17393.toInt < r17392.toInt))) ∨ (r17466.toInt = 0 ∧ ¬ ((F_lp17393 17 x5_lp17393.toNatClampNeg).toInt < (F_lp17393 17 r17392.toNatClampNeg).toInt ∨ ((F_lp17393 17 x5_lp17393.toNatClampNeg).toInt = (F_lp17393 17 r17392.toNatClampNeg).toInt ∧ x5_lp17393.toInt < r17392.toInt))) := hw
                  have hw_r17466 := hw
                  clear hw
                  clear hz1
                  generalize H1 = H at hP hS ⊢
                  refine lv_if_eq (tgt := 102) hx hb dX12_claim_79 (by decide) (fun c17467 => ?_) (fun c17467 => ?_)
                  · skip
                    have t17468 := cv_eq (a := r17466.toInt) rfl (b := 0) (by decide) c17467
                    obtain ⟨z17469, e17470⟩ : ∃ y : Int32, y = x5_lp17393 + 1 := ⟨_, rfl⟩
                    try (have t17471 := tadd e17470 rfl (b := 1) (by decide) (by omega))
                    refine lv_iinc (v := z17469) (lv' := [(5, .int z17469), (4, .int x4_lp17393), (3, .int r17392), (0, .ref (g 0)), (1, .int p0), (2, .int p1)]) hx hb dX12_claim_102 hl (k := 0) rfl (by rw [e17470]; rfl) (by decide) rfl (fun ls hl => ?_)
                    refine lv_goto (tgt := 46) hx hb dX12_claim_105 (by decide) ?_
                    exact ih_lp17393 z17469 x4_lp17393 v_lp17393 F_lp17393 _ _ _ (by omega) (by omega) (by omega) (by omega) hf_lp17393 hI hF hP hS (lv_sub hl [0, 1, 2, 3, 4, 5] rfl)
                  · skip
                    have t17472 := cv_ne (a := r17466.toInt) rfl (b := 0) (by decide) c17467
                    refine lv_iload hx hb dX12_claim_82 (lv_at hl 1 rfl) ?_
                    refine lv_if_lt (tgt := 98) hx hb dX12_claim_84 (by decide) (fun c17473 => ?_) (fun c17473 => ?_)
                    · skip
                      have t17474 := cv_lt (a := x4_lp17393.toInt) rfl (b := 0) (by decide) c17473
                      refine lv_iload hx hb dX12_claim_98 (lv_at hl 0 rfl) ?_
                      refine lv_istore (lv' := [(4, .int x5_lp17393), (5, .int x5_lp17393), (3, .int r17392), (0, .ref (g 0)), (1, .int p0), (2, .int p1)]) hx hb dX12_claim_100 hl (by decide) rfl (fun ls hl => ?_)
                      obtain ⟨z17475, e17476⟩ : ∃ y : Int32, y = x5_lp17393 + 1 := ⟨_, rfl⟩
                      try (have t17477 := tadd e17476 rfl (b := 1) (by decide) (by omega))
                      refine lv_iinc (v := z17475) (lv' := [(5, .int z17475), (4, .int x5_lp17393), (3, .int r17392), (0, .ref (g 0)), (1, .int p0), (2, .int p1)]) hx hb dX12_claim_102 hl (k := 1) rfl (by rw [e17476]; rfl) (by decide) rfl (fun ls hl => ?_)
                      refine lv_goto (tgt := 46) hx hb dX12_claim_105 (by decide) ?_
                      exact ih_lp17393 z17475 x5_lp17393 v_lp17393 F_lp17393 _ _ _ (by omega) (by omega) (by omega) (by omega) hf_lp17393 hI hF hP hS (lv_sub hl [0, 1, 2, 3, 4, 5] rfl)
                    · skip
                      have t17478 := cv_nlt (a := x4_lp17393.toInt) rfl (b := 0) (by decide) c17473
                      refine lv_aload_n hx hb dX12_claim_87 rfl (lv_at hl 3 rfl) ?_
                      refine lv_iload hx hb dX12_claim_88 (lv_at hl 1 rfl) ?_
                      refine lv_iload hx hb dX12_claim_90 (lv_at hl 0 rfl) ?_
                      refine va_calli (va_runV (As := [.int x4_lp17393, .int x5_lp17393]) (rest := []) ⟨hx, hb, hml, hown, hwd⟩ (c_X12_isAhead l dC dI g c adK adV v_lp17393 F_lp17393 rc H.size x4_lp17393 x5_lp17393 hg hI (by omega) (by omega)) (cwV 2 hwd (gV wk_509 wk_506 wk_507 wk_508 wk_5) rfl rfl rfl (by decide +kernel) ⟨Nat.le_of_ble_eq_true rfl, Nat.le_of_ble_eq_true rfl⟩) ⟨PM.blind, va_recv hK hP (ci := 12) (q0 := 0) rfl rfl, fun U hU hW => ⟨rfl, PM.at hK hE hP hS hU hW⟩⟩ rfl rfl hl.1 rfl (lv_room (Nat.le_of_ble_eq_true rfl)) dX12_claim_92 ⟨Nat.le_of_ble_eq_true rfl, Nat.le_of_ble_eq_true rfl⟩) hS (fun q _ h => (freeM hS) q h) (freeM hS) (fun r17479 u t H1 locs ht hvm hw hB hz1 hk1 hS => ?_)
                      unfold BM at hB
                      rw [ht] at hB
                      have hP : va_P (dC, dI) classes (wM g c v_lp17393 F_lp17393 rc) H1 := hB
                      replace hw : (r17479.toInt = 1 ∧ ((F_lp17393 17 x4_lp17393.toNatClampNeg).toInt < (F_lp17393 17 x5_lp17393.toNatClampNeg).toInt ∨ ((F_lp17393 17 x4_lp17393.toNatClampNeg).toInt = (F_lp17393 17 x5_lp17393.toNatClampNeg).toInt ∧ x4_lp17393.toInt < x5_lp17393.toInt))) ∨ (r17479.toInt = 0 ∧ ¬ ((F_lp17393 17 x4_lp17393.toNatClampNeg).toInt < (F_lp17393 17 x5_lp17393.toNatClampNeg).toInt ∨ ((F_lp17393 17 x4_lp17393.toNatClampNeg).toInt = (F_lp17393 17 x5_lp17393.toNatClampNeg).toInt ∧ x4_lp17393.toInt < x5_lp17393.toInt))) := hw
                      have hw_r17479 := hw
                      clear hw
                      clear hz1
                      generalize H1 = H at hP hS ⊢
                      refine lv_if_eq (tgt := 102) hx hb dX12_claim_95 (by decide) (fun c17480 => ?_) (fun c17480 => ?_)
                      · skip
                        have t17481 := cv_eq (a := r17479.toInt) rfl (b := 0) (by decide) c17480
                        obtain ⟨z17482, e17483⟩ : ∃ y : Int32, y = x5_lp17393 + 1 := ⟨_, rfl⟩
                        try (have t17484 := tadd e17483 rfl (b := 1) (by decide) (by omega))
                        refine lv_iinc (v := z17482) (lv' := [(5, .int z17482), (4, .int x4_lp17393), (3, .int r17392), (0, .ref (g 0)), (1, .int p0), (2, .int p1)]) hx hb dX12_claim_102 hl (k := 0) rfl (by rw [e17483]; rfl) (by decide) rfl (fun ls hl => ?_)
                        refine lv_goto (tgt := 46) hx hb dX12_claim_105 (by decide) ?_
                        exact ih_lp17393 z17482 x4_lp17393 v_lp17393 F_lp17393 _ _ _ (by omega) (by omega) (by omega) (by omega) hf_lp17393 hI hF hP hS (lv_sub hl [0, 1, 2, 3, 4, 5] rfl)
                      · skip
                        have t17485 := cv_ne (a := r17479.toInt) rfl (b := 0) (by decide) c17480
                        refine lv_iload hx hb dX12_claim_98 (lv_at hl 0 rfl) ?_
                        refine lv_istore (lv' := [(4, .int x5_lp17393), (5, .int x5_lp17393), (3, .int r17392), (0, .ref (g 0)), (1, .int p0), (2, .int p1)]) hx hb dX12_claim_100 hl (by decide) rfl (fun ls hl => ?_)
                        obtain ⟨z17486, e17487⟩ : ∃ y : Int32, y = x5_lp17393 + 1 := ⟨_, rfl⟩
                        try (have t17488 := tadd e17487 rfl (b := 1) (by decide) (by omega))
                        refine lv_iinc (v := z17486) (lv' := [(5, .int z17486), (4, .int x5_lp17393), (3, .int r17392), (0, .ref (g 0)), (1, .int p0), (2, .int p1)]) hx hb dX12_claim_102 hl (k := 1) rfl (by rw [e17487]; rfl) (by decide) rfl (fun ls hl => ?_)
                        refine lv_goto (tgt := 46) hx hb dX12_claim_105 (by decide) ?_
                        exact ih_lp17393 z17486 x5_lp17393 v_lp17393 F_lp17393 _ _ _ (by omega) (by omega) (by omega) (by omega) hf_lp17393 hI hF hP hS (lv_sub hl [0, 1, 2, 3, 4, 5] rfl)
        obtain ⟨n9, hn9⟩ : ∃ n : Nat, 2147483648 - 0 ≤ (n : Int) := ⟨((2147483648 - 0 : Int)).toNat, by omega⟩
        exact lp17393 n9 0 (-1) v F H _ ls (by have : (0 : Int32).toInt = 0 := (by decide); have : ((-1) : Int32).toInt = (-1) := (by decide); omega) (by have : (0 : Int32).toInt = 0 := (by decide); have : ((-1) : Int32).toInt = (-1) := (by decide); omega) (by have : (0 : Int32).toInt = 0 := (by decide); have : ((-1) : Int32).toInt = (-1) := (by decide); omega) (by have : (0 : Int32).toInt = 0 := (by decide); have : ((-1) : Int32).toInt = (-1) := (by decide); omega) (fun _ _ => rfl) hI hF hP hS hl
      · skip
        have t17489 := cv_ne (a := z17386.toInt) rfl (b := 10) (by decide) c17389
        refine lv_bipush (v := (-2)) hx hb dX12_claim_31 (by decide) ?_
        have hP9 : va_P (dC, dI) classes (wM g c v F rc) H := hP
        exact W.iret (v := (-2)) hx hb hr (fun t ht hW => ⟨⟨(-2), (v, F, rc), rfl, ⟨hI, rfl, (fun _ _ => rfl), hF, trivial⟩, (by show va_P _ _ _ t.heap; rw [ht]; exact hP9)⟩, hS.F ht⟩) hS.2.2 dX12_claim_33
    · skip
      have t17490 := cv_eq (a := r17381.toInt) rfl (b := 0) (by decide) c17384
      refine lv_iconst (v := (-1)) hx hb dX12_claim_18 (by decide) ?_
      have hP9 : va_P (dC, dI) classes (wM g c v F rc) H := hP
      exact W.iret (v := (-1)) hx hb hr (fun t ht hW => ⟨⟨(-1), (v, F, rc), rfl, ⟨hI, rfl, (fun _ _ => rfl), hF, trivial⟩, (by show va_P _ _ _ t.heap; rw [ht]; exact hP9)⟩, hS.F ht⟩) hS.2.2 dX12_claim_19
