set_option maxHeartbeats 8000000 in
set_option maxRecDepth 100000 in
theorem c_X12_groundedBy (l : Launch) (dC : Nat → ClassId) (dI : Nat → Nat → Nat) (g : Nat → Nat) (c : Nat → ClassId) (adK adV : Nat → Nat) (v : Nat → Int32) (F : Nat → Nat → Int32) (rc sz : Nat) (p0 : Int32) (p1 : Int32) (hg : injM g) (hI : IM v F) (h0 : 0 ≤ p0.toInt ∧ p0.toInt ≤ 9) (hL : JL (v 31) (F 28) (F 29) (F 27)) : Met l yX12_groundedBy (Cond.code yX12_groundedBy cX12_groundedBy 5 (some .int) :: wA) ({ frames := 5, cells := 0, slots := 0, locals := 200 }) (va_Pc [.ref (g 0), .int p0, .int p1] (PM dC dI g c adK adV v F rc sz)) (va_Qi (fun (r : Int32) (u : StM) => IM u.1 u.2.1 ∧ u.2.2 = rc ∧ (∀ k, k ∉ ([] : List Nat) → u.1 k = v k) ∧ (∀ k, k ∉ ([30, 31] : List Nat) → u.2.1 k = F k) ∧ True) (BM dC dI g c) (AM g sz)) 0 0 (AM g sz) := by
  refine Met.ofW (cc := cX12_groundedBy) (maxL := 5) (ret := (some .int)) (by decide) rfl ?_
  intro p e s m args below meth c0 s₁ B hml hv
  obtain ⟨rfl, hsz, hP, hK, hE⟩ := hv
  have hx := B.exec
  have hb := B.bytes
  have hr := B.returns
  have hts := atoms_spec (ws := Cond.code yX12_groundedBy cX12_groundedBy 5 (some .int) :: wA) B.pre
  have hwd : ∀ w ∈ wA, w.before _ s = true := fun w h => hts w (List.mem_cons_of_mem _ h)
  have hown : s.vm.findClass RX12 = some m.cls := findClass_of_methodNamed B.named
  have hlocks := B.notSynchronized
  subst hsz
  have hl := lv_entry ([.ref (g 0), .int p0, .int p1]) (n := 5) (Nat.le_of_ble_eq_true rfl)
  rw [lg_entry_eq]
  generalize (lg_sl ([.ref (g 0), .int p0, .int p1]) ++ List.replicate (5 - (lg_sl ([.ref (g 0), .int p0, .int p1])).length) Slot.unset).toArray = ls at hl ⊢
  have hl : lv_has ls 5 [(0, .ref (g 0)), (1, .int p0), (2, .int p1)] := hl
  obtain ⟨H, eH⟩ : ∃ z, z = s.heap := ⟨_, rfl⟩
  have hP : va_P (dC, dI) classes (wM g c v F rc) H := by rw [eH]; exact hP
  have hS : va_S (AM g s.heap.size) s.heap H [] := by rw [eH]; exact va_S.rf
  refine my_heap eH ?_
  have hF : ∀ k, k ∉ ([30, 31] : List Nat) → F k = F k := fun _ _ => rfl
  have rp0 := i32_rng p0
  have rp1 := i32_rng p1
  have hb31 : 0 ≤ (v 31).toInt ∧ (v 31).toInt ≤ 10 := hI.1 31 _ _ rfl
  refine lv_iconst (v := 0) hx hb dX12_groundedBy_0 (by decide) ?_
  refine lv_istore_n (lv' := [(3, .int 0), (0, .ref (g 0)), (1, .int p0), (2, .int p1)]) hx hb dX12_groundedBy_1 rfl hl (by decide) rfl (fun ls hl => ?_)
  have lp26343 : ∀ (n : Nat) (x3_lp26343 : Int32) (v_lp26343 : Nat → Int32) (F_lp26343 : Nat → Nat → Int32) (H : Heap) (locs : List Loc) (ls : Array Slot), (0 ≤ x3_lp26343.toInt) → (2147483648 - x3_lp26343.toInt ≤ (n : Int)) → (∀ k, k ∉ ([] : List Nat) → v_lp26343 k = v k) → IM v_lp26343 F_lp26343 → (∀ k, k ∉ ([30, 31] : List Nat) → F_lp26343 k = F k) → va_P (dC, dI) classes (wM g c v_lp26343 F_lp26343 rc) H → va_S (AM g s.heap.size) s.heap H locs → lv_has ls 5 [(3, .int x3_lp26343), (0, .ref (g 0)), (1, .int p0), (2, .int p1)] → W p l e (headSpec (Cond.code yX12_groundedBy cX12_groundedBy 5 (some .int) :: wA) ({ frames := 5, cells := 0, slots := 0, locals := 200 })).room s m ([.ref (g 0), .int p0, .int p1] : List Value).toArray below meth c0 H locs 0 0 (MQ below (va_Qi (fun (r : Int32) (u : StM) => IM u.1 u.2.1 ∧ u.2.2 = rc ∧ (∀ k, k ∉ ([] : List Nat) → u.1 k = v k) ∧ (∀ k, k ∉ ([30, 31] : List Nat) → u.2.1 k = F k) ∧ True) (BM dC dI g c) (AM g s.heap.size)) ([.ref (g 0), .int p0, .int p1] : List Value).toArray s 0 0 (AM g s.heap.size)) (F0 m 2 ls []) := by
    intro n
    induction n with
    | zero =>
      intro x3_lp26343 v_lp26343 F_lp26343 H locs ls t26344 hm hf_lp26343 hI hF hP hS hl
      exfalso
      have := i32_rng x3_lp26343
      have hI1 := hI.1
      omega
    | succ n ih_lp26343 =>
      intro x3_lp26343 v_lp26343 F_lp26343 H locs ls t26344 hm hf_lp26343 hI hF hP hS hl
      have rx3_lp26343 := i32_rng x3_lp26343
      refine lv_iload_n hx hb dX12_groundedBy_2 rfl (lv_at hl 0 rfl) ?_
      refine lv_aload_n hx hb dX12_groundedBy_3 rfl (lv_at hl 1 rfl) ?_
      refine va_get (D := (dC, dI)) (ci := 12) (v := .int (v_lp26343 2)) (C := RX12) (T := TX12) (N := 63) hx hb hwd inA_X12 hown hK hP 0 rfl rfl 2 (by decide) (hwd _ wk_251) (fun _ h9 => h9) rfl dX12_groundedBy_4 ?_
      refine my_top (v := v 2) (hf_lp26343 2 (by decide)) ?_
      have t26345 : 0 ≤ (v 2).toInt ∧ (v 2).toInt ≤ 10 := by have h9 := hI.1 2 _ _ rfl; rw [show v_lp26343 2 = v 2 from hf_lp26343 2 (by decide)] at h9; exact h9
      refine lv_icmp_ge (tgt := 38) hx hb dX12_groundedBy_7 (by decide) (fun c26346 => ?_) (fun c26346 => ?_)
      · skip
        have t26347 := cv_le (a := (v 2).toInt) rfl (b := x3_lp26343.toInt) rfl c26346
        refine lv_iconst (v := 0) hx hb dX12_groundedBy_38 (by decide) ?_
        refine lv_istore_n (lv' := [(3, .int 0), (0, .ref (g 0)), (1, .int p0), (2, .int p1)]) hx hb dX12_groundedBy_39 rfl hl (by decide) rfl (fun ls hl => ?_)
        have lp26348 : ∀ (n : Nat) (x3_lp26348 : Int32) (v_lp26348 : Nat → Int32) (F_lp26348 : Nat → Nat → Int32) (H : Heap) (locs : List Loc) (ls : Array Slot), (0 ≤ x3_lp26348.toInt) → (2147483648 - x3_lp26348.toInt ≤ (n : Int)) → (∀ k, k ∉ ([] : List Nat) → v_lp26348 k = v_lp26343 k) → IM v_lp26348 F_lp26348 → (∀ k, k ∉ ([30, 31] : List Nat) → F_lp26348 k = F k) → va_P (dC, dI) classes (wM g c v_lp26348 F_lp26348 rc) H → va_S (AM g s.heap.size) s.heap H locs → lv_has ls 5 [(3, .int x3_lp26348), (0, .ref (g 0)), (1, .int p0), (2, .int p1)] → W p l e (headSpec (Cond.code yX12_groundedBy cX12_groundedBy 5 (some .int) :: wA) ({ frames := 5, cells := 0, slots := 0, locals := 200 })).room s m ([.ref (g 0), .int p0, .int p1] : List Value).toArray below meth c0 H locs 0 0 (MQ below (va_Qi (fun (r : Int32) (u : StM) => IM u.1 u.2.1 ∧ u.2.2 = rc ∧ (∀ k, k ∉ ([] : List Nat) → u.1 k = v k) ∧ (∀ k, k ∉ ([30, 31] : List Nat) → u.2.1 k = F k) ∧ True) (BM dC dI g c) (AM g s.heap.size)) ([.ref (g 0), .int p0, .int p1] : List Value).toArray s 0 0 (AM g s.heap.size)) (F0 m 40 ls []) := by
          intro n
          induction n with
          | zero =>
            intro x3_lp26348 v_lp26348 F_lp26348 H locs ls t26349 hm hf_lp26348 hI hF hP hS hl
            exfalso
            have := i32_rng x3_lp26348
            have hI1 := hI.1
            omega
          | succ n ih_lp26348 =>
            intro x3_lp26348 v_lp26348 F_lp26348 H locs ls t26349 hm hf_lp26348 hI hF hP hS hl
            have rx3_lp26348 := i32_rng x3_lp26348
            refine lv_iload_n hx hb dX12_groundedBy_40 rfl (lv_at hl 0 rfl) ?_
            refine lv_aload_n hx hb dX12_groundedBy_41 rfl (lv_at hl 1 rfl) ?_
            refine va_get (D := (dC, dI)) (ci := 12) (v := .int (v_lp26348 14)) (C := RX12) (T := TX12) (N := 63) hx hb hwd inA_X12 hown hK hP 0 rfl rfl 14 (by decide) (hwd _ wk_318) (fun _ h9 => h9) rfl dX12_groundedBy_42 ?_
            refine my_top (v := v 14) ((hf_lp26348 14 (by decide)).trans (hf_lp26343 14 (by decide))) ?_
            have t26350 : 0 ≤ (v 14).toInt ∧ (v 14).toInt ≤ 100 := by have h9 := hI.1 14 _ _ rfl; rw [show v_lp26348 14 = v 14 from (hf_lp26348 14 (by decide)).trans (hf_lp26343 14 (by decide))] at h9; exact h9
            refine lv_icmp_ge (tgt := 102) hx hb dX12_groundedBy_45 (by decide) (fun c26351 => ?_) (fun c26351 => ?_)
            · skip
              have t26352 := cv_le (a := (v 14).toInt) rfl (b := x3_lp26348.toInt) rfl c26351
              refine lv_iconst (v := 0) hx hb dX12_groundedBy_102 (by decide) ?_
              refine lv_istore_n (lv' := [(3, .int 0), (0, .ref (g 0)), (1, .int p0), (2, .int p1)]) hx hb dX12_groundedBy_103 rfl hl (by decide) rfl (fun ls hl => ?_)
              have lp26353 : ∀ (n : Nat) (x3_lp26353 : Int32) (v_lp26353 : Nat → Int32) (F_lp26353 : Nat → Nat → Int32) (H : Heap) (locs : List Loc) (ls : Array Slot), (0 ≤ x3_lp26353.toInt) → (2147483648 - x3_lp26353.toInt ≤ (n : Int)) → (∀ k, k ∉ ([] : List Nat) → v_lp26353 k = v_lp26348 k) → IM v_lp26353 F_lp26353 → (∀ k, k ∉ ([30, 31] : List Nat) → F_lp26353 k = F k) → va_P (dC, dI) classes (wM g c v_lp26353 F_lp26353 rc) H → va_S (AM g s.heap.size) s.heap H locs → lv_has ls 5 [(3, .int x3_lp26353), (0, .ref (g 0)), (1, .int p0), (2, .int p1)] → W p l e (headSpec (Cond.code yX12_groundedBy cX12_groundedBy 5 (some .int) :: wA) ({ frames := 5, cells := 0, slots := 0, locals := 200 })).room s m ([.ref (g 0), .int p0, .int p1] : List Value).toArray below meth c0 H locs 0 0 (MQ below (va_Qi (fun (r : Int32) (u : StM) => IM u.1 u.2.1 ∧ u.2.2 = rc ∧ (∀ k, k ∉ ([] : List Nat) → u.1 k = v k) ∧ (∀ k, k ∉ ([30, 31] : List Nat) → u.2.1 k = F k) ∧ True) (BM dC dI g c) (AM g s.heap.size)) ([.ref (g 0), .int p0, .int p1] : List Value).toArray s 0 0 (AM g s.heap.size)) (F0 m 104 ls []) := by
                intro n
                induction n with
                | zero =>
                  intro x3_lp26353 v_lp26353 F_lp26353 H locs ls t26354 hm hf_lp26353 hI hF hP hS hl
                  exfalso
                  have := i32_rng x3_lp26353
                  have hI1 := hI.1
                  omega
                | succ n ih_lp26353 =>
                  intro x3_lp26353 v_lp26353 F_lp26353 H locs ls t26354 hm hf_lp26353 hI hF hP hS hl
                  have rx3_lp26353 := i32_rng x3_lp26353
                  refine lv_iload_n hx hb dX12_groundedBy_104 rfl (lv_at hl 0 rfl) ?_
                  refine lv_aload_n hx hb dX12_groundedBy_105 rfl (lv_at hl 1 rfl) ?_
                  refine va_get (D := (dC, dI)) (ci := 12) (v := .int (v_lp26353 45)) (C := RX12) (T := TX12) (N := 63) hx hb hwd inA_X12 hown hK hP 0 rfl rfl 45 (by decide) (hwd _ wk_485) (fun _ h9 => h9) rfl dX12_groundedBy_106 ?_
                  refine my_top (v := v 45) ((hf_lp26353 45 (by decide)).trans ((hf_lp26348 45 (by decide)).trans (hf_lp26343 45 (by decide)))) ?_
                  have t26355 : 0 ≤ (v 45).toInt ∧ (v 45).toInt ≤ 20 := by have h9 := hI.1 45 _ _ rfl; rw [show v_lp26353 45 = v 45 from (hf_lp26353 45 (by decide)).trans ((hf_lp26348 45 (by decide)).trans (hf_lp26343 45 (by decide)))] at h9; exact h9
                  refine lv_icmp_ge (tgt := 156) hx hb dX12_groundedBy_109 (by decide) (fun c26356 => ?_) (fun c26356 => ?_)
                  · skip
                    have t26357 := cv_le (a := (v 45).toInt) rfl (b := x3_lp26353.toInt) rfl c26356
                    refine lv_iconst (v := 0) hx hb dX12_groundedBy_156 (by decide) ?_
                    have hP9 : va_P (dC, dI) classes (wM g c v_lp26353 F_lp26353 rc) H := hP
                    exact W.iret (v := 0) hx hb hr (fun t ht hW => ⟨⟨0, (v_lp26353, F_lp26353, rc), rfl, ⟨hI, rfl, (frC (by decide) hf_lp26353 (frC (by decide) hf_lp26348 (frC (by decide) hf_lp26343 (fun _ _ => rfl)))), hF, trivial⟩, (by show va_P _ _ _ t.heap; rw [ht]; exact hP9)⟩, hS.F ht⟩) hS.2.2 dX12_groundedBy_157
                  · skip
                    have t26358 := cv_nle (a := (v 45).toInt) rfl (b := x3_lp26353.toInt) rfl c26356
                    refine lv_aload_n hx hb dX12_groundedBy_112 rfl (lv_at hl 1 rfl) ?_
                    refine lv_iload_n hx hb dX12_groundedBy_113 rfl (lv_at hl 0 rfl) ?_
                    refine lv_iload_n hx hb dX12_groundedBy_114 rfl (lv_at hl 2 rfl) ?_
                    refine va_calli (va_runV (As := [.int x3_lp26353, .int p0]) (rest := []) ⟨hx, hb, hml, hown, hwd⟩ (c_X12_asks l dC dI g c adK adV v_lp26353 F_lp26353 rc H.size x3_lp26353 p0 hg hI (by omega) (by omega)) (cwV 2 hwd (gV wk_520 wk_517 wk_518 wk_519 wk_5) rfl rfl rfl (by decide +kernel) ⟨Nat.le_of_ble_eq_true rfl, Nat.le_of_ble_eq_true rfl⟩) ⟨PM.blind, va_recv hK hP (ci := 12) (q0 := 0) rfl rfl, fun U hU hW => ⟨rfl, PM.at hK hE hP hS hU hW⟩⟩ rfl rfl hl.1 rfl (lv_room (Nat.le_of_ble_eq_true rfl)) dX12_groundedBy_115 ⟨Nat.le_of_ble_eq_true rfl, Nat.le_of_ble_eq_true rfl⟩) hS (fun q _ h => (freeM hS) q h) (freeM hS) (fun r26359 u t H1 locs ht hvm hw hB hz1 hk1 hS => ?_)
                    unfold BM at hB
                    rw [ht] at hB
                    have hP : va_P (dC, dI) classes (wM g c v_lp26353 F_lp26353 rc) H1 := hB
                    have hw : 0 ≤ r26359.toInt ∧ r26359.toInt ≤ 1 := hw
                    have hw_r26359 := hw
                    generalize H1 = H at hP hS ⊢
                    refine lv_if_eq (tgt := 150) hx hb dX12_groundedBy_118 (by decide) (fun c26360 => ?_) (fun c26360 => ?_)
                    · skip
                      have t26361 := cv_eq (a := r26359.toInt) rfl (b := 0) (by decide) c26360
                      obtain ⟨z26362, e26363⟩ : ∃ y : Int32, y = x3_lp26353 + 1 := ⟨_, rfl⟩
                      try (have t26364 := tadd e26363 rfl (b := 1) (by decide) (by omega))
                      refine lv_iinc (v := z26362) (lv' := [(3, .int z26362), (0, .ref (g 0)), (1, .int p0), (2, .int p1)]) hx hb dX12_groundedBy_150 hl (k := 0) rfl (by rw [e26363]; rfl) (by decide) rfl (fun ls hl => ?_)
                      refine lv_goto (tgt := 104) hx hb dX12_groundedBy_153 (by decide) ?_
                      exact ih_lp26353 z26362 v_lp26353 F_lp26353 _ _ _ (by omega) (by omega) hf_lp26353 hI hF hP hS (lv_sub hl [0, 1, 2, 3] rfl)
                    · skip
                      have t26365 := cv_ne (a := r26359.toInt) rfl (b := 0) (by decide) c26360
                      refine lv_aload_n hx hb dX12_groundedBy_121 rfl (lv_at hl 1 rfl) ?_
                      refine va_get (D := (dC, dI)) (ci := 12) (v := .ref (g 34)) (C := RX12) (T := TX12) (N := 63) hx hb hwd inA_X12 hown hK hP 0 rfl rfl 48 (by decide) (hwd _ wk_216) (fun _ h9 => h9) rfl dX12_groundedBy_122 ?_
                      refine lv_bipush (v := 10) hx hb dX12_groundedBy_125 (by decide) ?_
                      refine lv_iload_n hx hb dX12_groundedBy_127 rfl (lv_at hl 0 rfl) ?_
                      refine lv_imul hx hb dX12_groundedBy_128 ?_
                      refine lv_topi (fun z26366 e26367 => ?_)
                      try (have t26368 := tmul e26367 (a := 10) (by decide) (b := x3_lp26353.toInt) rfl (by omega))
                      refine lv_iload_n hx hb dX12_groundedBy_129 rfl (lv_at hl 2 rfl) ?_
                      refine lv_iadd hx hb dX12_groundedBy_130 ?_
                      refine lv_topi (fun z26369 e26370 => ?_)
                      try (have t26371 := tadd e26370 (a := z26366.toInt) rfl (b := p0.toInt) rfl (by omega))
                      refine va_zald hx hb hK hP 34 33 rfl rfl (i := z26369) (vin (a := z26369.toInt) rfl (by omega)) dX12_groundedBy_131 ?_
                      refine lv_topi (fun z26372 e26373 => ?_)
                      have e26373 : z26372 = F 34 (z26369 : Int32).toNatClampNeg := e26373.trans (congrFun (hF 34 (by decide)) _)
                      refine lv_if_ne (tgt := 150) hx hb dX12_groundedBy_132 (by decide) (fun c26374 => ?_) (fun c26374 => ?_)
                      · skip
                        have t26375 := cv_ne (a := z26372.toInt) rfl (b := 0) (by decide) c26374
                        obtain ⟨z26376, e26377⟩ : ∃ y : Int32, y = x3_lp26353 + 1 := ⟨_, rfl⟩
                        try (have t26378 := tadd e26377 rfl (b := 1) (by decide) (by omega))
                        refine lv_iinc (v := z26376) (lv' := [(3, .int z26376), (0, .ref (g 0)), (1, .int p0), (2, .int p1)]) hx hb dX12_groundedBy_150 hl (k := 0) rfl (by rw [e26377]; rfl) (by decide) rfl (fun ls hl => ?_)
                        refine lv_goto (tgt := 104) hx hb dX12_groundedBy_153 (by decide) ?_
                        exact ih_lp26353 z26376 v_lp26353 F_lp26353 _ _ _ (by omega) (by omega) hf_lp26353 hI hF hP hS (lv_sub hl [0, 1, 2, 3] rfl)
                      · skip
                        have t26379 := cv_eq (a := z26372.toInt) rfl (b := 0) (by decide) c26374
                        refine lv_aload_n hx hb dX12_groundedBy_135 rfl (lv_at hl 1 rfl) ?_
                        refine va_get (D := (dC, dI)) (ci := 12) (v := .ref (g 33)) (C := RX12) (T := TX12) (N := 63) hx hb hwd inA_X12 hown hK hP 0 rfl rfl 47 (by decide) (hwd _ wk_215) (fun _ h9 => h9) rfl dX12_groundedBy_136 ?_
                        refine lv_iload_n hx hb dX12_groundedBy_139 rfl (lv_at hl 0 rfl) ?_
                        refine va_iald hx hb hK hP 33 32 rfl rfl (i := x3_lp26353) (vin (a := x3_lp26353.toInt) rfl (by omega)) dX12_groundedBy_140 ?_
                        refine lv_topi (fun z26380 e26381 => ?_)
                        have e26381 : z26380 = F 33 (x3_lp26353 : Int32).toNatClampNeg := e26381.trans (congrFun (hF 33 (by decide)) _)
                        refine lv_aload_n hx hb dX12_groundedBy_141 rfl (lv_at hl 1 rfl) ?_
                        refine va_get (D := (dC, dI)) (ci := 12) (v := .int (v_lp26353 1)) (C := RX12) (T := TX12) (N := 63) hx hb hwd inA_X12 hown hK hP 0 rfl rfl 1 (by decide) (hwd _ wk_332) (fun _ h9 => h9) rfl dX12_groundedBy_142 ?_
                        refine my_top (v := v 1) ((hf_lp26353 1 (by decide)).trans ((hf_lp26348 1 (by decide)).trans (hf_lp26343 1 (by decide)))) ?_
                        have t26382 : 0 ≤ (v 1).toInt ∧ (v 1).toInt ≤ 9999 := by have h9 := hI.1 1 _ _ rfl; rw [show v_lp26353 1 = v 1 from (hf_lp26353 1 (by decide)).trans ((hf_lp26348 1 (by decide)).trans (hf_lp26343 1 (by decide)))] at h9; exact h9
                        refine lv_icmp_ge (tgt := 150) hx hb dX12_groundedBy_145 (by decide) (fun c26383 => ?_) (fun c26383 => ?_)
                        · skip
                          have t26384 := cv_le (a := (v 1).toInt) rfl (b := z26380.toInt) rfl c26383
                          obtain ⟨z26385, e26386⟩ : ∃ y : Int32, y = x3_lp26353 + 1 := ⟨_, rfl⟩
                          try (have t26387 := tadd e26386 rfl (b := 1) (by decide) (by omega))
                          refine lv_iinc (v := z26385) (lv' := [(3, .int z26385), (0, .ref (g 0)), (1, .int p0), (2, .int p1)]) hx hb dX12_groundedBy_150 hl (k := 0) rfl (by rw [e26386]; rfl) (by decide) rfl (fun ls hl => ?_)
                          refine lv_goto (tgt := 104) hx hb dX12_groundedBy_153 (by decide) ?_
                          exact ih_lp26353 z26385 v_lp26353 F_lp26353 _ _ _ (by omega) (by omega) hf_lp26353 hI hF hP hS (lv_sub hl [0, 1, 2, 3] rfl)
                        · skip
                          have t26388 := cv_nle (a := (v 1).toInt) rfl (b := z26380.toInt) rfl c26383
                          refine lv_iconst (v := 3) hx hb dX12_groundedBy_148 (by decide) ?_
                          have hP9 : va_P (dC, dI) classes (wM g c v_lp26353 F_lp26353 rc) H := hP
                          exact W.iret (v := 3) hx hb hr (fun t ht hW => ⟨⟨3, (v_lp26353, F_lp26353, rc), rfl, ⟨hI, rfl, (frC (by decide) hf_lp26353 (frC (by decide) hf_lp26348 (frC (by decide) hf_lp26343 (fun _ _ => rfl)))), hF, trivial⟩, (by show va_P _ _ _ t.heap; rw [ht]; exact hP9)⟩, hS.F ht⟩) hS.2.2 dX12_groundedBy_149
              obtain ⟨n9, hn9⟩ : ∃ n : Nat, 2147483648 - 0 ≤ (n : Int) := ⟨((2147483648 - 0 : Int)).toNat, by omega⟩
              exact lp26353 n9 0 v_lp26348 F_lp26348 H _ ls (by have : (0 : Int32).toInt = 0 := (by decide); omega) (by have : (0 : Int32).toInt = 0 := (by decide); omega) (fun _ _ => rfl) hI hF hP hS hl
            · skip
              have t26389 := cv_nle (a := (v 14).toInt) rfl (b := x3_lp26348.toInt) rfl c26351
              refine lv_iconst (v := 0) hx hb dX12_groundedBy_48 (by decide) ?_
              refine lv_istore (lv' := [(4, .int 0), (3, .int x3_lp26348), (0, .ref (g 0)), (1, .int p0), (2, .int p1)]) hx hb dX12_groundedBy_49 hl (by decide) rfl (fun ls hl => ?_)
              have lp26390 : ∀ (n : Nat) (x4_lp26390 : Int32) (v_lp26390 : Nat → Int32) (F_lp26390 : Nat → Nat → Int32) (H : Heap) (locs : List Loc) (ls : Array Slot), (0 ≤ x4_lp26390.toInt) → (2147483648 - x4_lp26390.toInt ≤ (n : Int)) → (∀ k, k ∉ ([] : List Nat) → v_lp26390 k = v_lp26348 k) → IM v_lp26390 F_lp26390 → (∀ k, k ∉ ([30, 31] : List Nat) → F_lp26390 k = F k) → va_P (dC, dI) classes (wM g c v_lp26390 F_lp26390 rc) H → va_S (AM g s.heap.size) s.heap H locs → lv_has ls 5 [(4, .int x4_lp26390), (3, .int x3_lp26348), (0, .ref (g 0)), (1, .int p0), (2, .int p1)] → W p l e (headSpec (Cond.code yX12_groundedBy cX12_groundedBy 5 (some .int) :: wA) ({ frames := 5, cells := 0, slots := 0, locals := 200 })).room s m ([.ref (g 0), .int p0, .int p1] : List Value).toArray below meth c0 H locs 0 0 (MQ below (va_Qi (fun (r : Int32) (u : StM) => IM u.1 u.2.1 ∧ u.2.2 = rc ∧ (∀ k, k ∉ ([] : List Nat) → u.1 k = v k) ∧ (∀ k, k ∉ ([30, 31] : List Nat) → u.2.1 k = F k) ∧ True) (BM dC dI g c) (AM g s.heap.size)) ([.ref (g 0), .int p0, .int p1] : List Value).toArray s 0 0 (AM g s.heap.size)) (F0 m 51 ls []) := by
                intro n
                induction n with
                | zero =>
                  intro x4_lp26390 v_lp26390 F_lp26390 H locs ls t26391 hm hf_lp26390 hI hF hP hS hl
                  exfalso
                  have := i32_rng x4_lp26390
                  have hI1 := hI.1
                  omega
                | succ n ih_lp26390 =>
                  intro x4_lp26390 v_lp26390 F_lp26390 H locs ls t26391 hm hf_lp26390 hI hF hP hS hl
                  have rx4_lp26390 := i32_rng x4_lp26390
                  refine lv_iload hx hb dX12_groundedBy_51 (lv_at hl 0 rfl) ?_
                  refine lv_iconst (v := 3) hx hb dX12_groundedBy_53 (by decide) ?_
                  refine lv_icmp_ge (tgt := 96) hx hb dX12_groundedBy_54 (by decide) (fun c26392 => ?_) (fun c26392 => ?_)
                  · skip
                    have t26393 := cv_le (a := 3) (by decide) (b := x4_lp26390.toInt) rfl c26392
                    obtain ⟨z26394, e26395⟩ : ∃ y : Int32, y = x3_lp26348 + 1 := ⟨_, rfl⟩
                    try (have t26396 := tadd e26395 rfl (b := 1) (by decide) (by omega))
                    refine lv_iinc (v := z26394) (lv' := [(3, .int z26394), (4, .int x4_lp26390), (0, .ref (g 0)), (1, .int p0), (2, .int p1)]) hx hb dX12_groundedBy_96 hl (k := 1) rfl (by rw [e26395]; rfl) (by decide) rfl (fun ls hl => ?_)
                    refine lv_goto (tgt := 40) hx hb dX12_groundedBy_99 (by decide) ?_
                    exact ih_lp26348 z26394 v_lp26390 F_lp26390 _ _ _ (by omega) (by omega) (frC (by decide) hf_lp26390 hf_lp26348) hI hF hP hS (lv_sub hl [0, 2, 3, 4] rfl)
                  · skip
                    have t26397 := cv_nle (a := 3) (by decide) (b := x4_lp26390.toInt) rfl c26392
                    refine lv_aload_n hx hb dX12_groundedBy_57 rfl (lv_at hl 2 rfl) ?_
                    refine va_get (D := (dC, dI)) (ci := 12) (v := .ref (g 13)) (C := RX12) (T := TX12) (N := 63) hx hb hwd inA_X12 hown hK hP 0 rfl rfl 17 (by decide) (hwd _ wk_194) (fun _ h9 => h9) rfl dX12_groundedBy_58 ?_
                    refine lv_iload_n hx hb dX12_groundedBy_61 rfl (lv_at hl 1 rfl) ?_
                    refine va_iald hx hb hK hP 13 12 rfl rfl (i := x3_lp26348) (vin (a := x3_lp26348.toInt) rfl (by omega)) dX12_groundedBy_62 ?_
                    refine lv_topi (fun z26398 e26399 => ?_)
                    have t26400 : 0 ≤ z26398.toInt ∧ z26398.toInt ≤ 12 := by rw [e26399]; exact hI.2 13 _ _ rfl _
                    have e26399 : z26398 = F 13 (x3_lp26348 : Int32).toNatClampNeg := e26399.trans (congrFun (hF 13 (by decide)) _)
                    refine lv_iload_n hx hb dX12_groundedBy_63 rfl (lv_at hl 3 rfl) ?_
                    refine lv_icmp_ne (tgt := 90) hx hb dX12_groundedBy_64 (by decide) (fun c26401 => ?_) (fun c26401 => ?_)
                    · skip
                      have t26402 := cv_ne (a := z26398.toInt) rfl (b := p0.toInt) rfl c26401
                      obtain ⟨z26403, e26404⟩ : ∃ y : Int32, y = x4_lp26390 + 1 := ⟨_, rfl⟩
                      try (have t26405 := tadd e26404 rfl (b := 1) (by decide) (by omega))
                      refine lv_iinc (v := z26403) (lv' := [(4, .int z26403), (3, .int x3_lp26348), (0, .ref (g 0)), (1, .int p0), (2, .int p1)]) hx hb dX12_groundedBy_90 hl (k := 0) rfl (by rw [e26404]; rfl) (by decide) rfl (fun ls hl => ?_)
                      refine lv_goto (tgt := 51) hx hb dX12_groundedBy_93 (by decide) ?_
                      exact ih_lp26390 z26403 v_lp26390 F_lp26390 _ _ _ (by omega) (by omega) hf_lp26390 hI hF hP hS (lv_sub hl [0, 1, 2, 3, 4] rfl)
                    · skip
                      have t26406 := cv_eq (a := z26398.toInt) rfl (b := p0.toInt) rfl c26401
                      refine lv_aload_n hx hb dX12_groundedBy_67 rfl (lv_at hl 2 rfl) ?_
                      refine lv_iload_n hx hb dX12_groundedBy_68 rfl (lv_at hl 1 rfl) ?_
                      refine lv_iload hx hb dX12_groundedBy_69 (lv_at hl 0 rfl) ?_
                      refine va_calli (va_runV (As := [.int x3_lp26348, .int x4_lp26390]) (rest := []) ⟨hx, hb, hml, hown, hwd⟩ (c_X12_limitOf l dC dI g c adK adV v_lp26390 F_lp26390 rc H.size x3_lp26348 x4_lp26390 hg hI (by omega) (by omega)) (cwV 2 hwd (gV wk_489 wk_486 wk_487 wk_488 wk_5) rfl rfl rfl (by decide +kernel) ⟨Nat.le_of_ble_eq_true rfl, Nat.le_of_ble_eq_true rfl⟩) ⟨PM.blind, va_recv hK hP (ci := 12) (q0 := 0) rfl rfl, fun U hU hW => ⟨rfl, PM.at hK hE hP hS hU hW⟩⟩ rfl rfl hl.1 rfl (lv_room (Nat.le_of_ble_eq_true rfl)) dX12_groundedBy_71 ⟨Nat.le_of_ble_eq_true rfl, Nat.le_of_ble_eq_true rfl⟩) hS (fun q _ h => (freeM hS) q h) (freeM hS) (fun r26407 u t H1 locs ht hvm hw hB hz1 hk1 hS => ?_)
                      unfold BM at hB
                      rw [ht] at hB
                      have hP : va_P (dC, dI) classes (wM g c v_lp26390 F_lp26390 rc) H1 := hB
                      have hw : r26407.toInt = (F_lp26390 1 (limJ (F_lp26390 11) x3_lp26348 x4_lp26390)).toInt := hw
                      rw [hF 1 (by decide)] at hw
                      rw [hF 11 (by decide)] at hw
                      have hw_r26407 := hw
                      generalize H1 = H at hP hS ⊢
                      refine lv_if_le (tgt := 90) hx hb dX12_groundedBy_74 (by decide) (fun c26408 => ?_) (fun c26408 => ?_)
                      · skip
                        have t26409 := cv_le (a := r26407.toInt) rfl (b := 0) (by decide) c26408
                        obtain ⟨z26410, e26411⟩ : ∃ y : Int32, y = x4_lp26390 + 1 := ⟨_, rfl⟩
                        try (have t26412 := tadd e26411 rfl (b := 1) (by decide) (by omega))
                        refine lv_iinc (v := z26410) (lv' := [(4, .int z26410), (3, .int x3_lp26348), (0, .ref (g 0)), (1, .int p0), (2, .int p1)]) hx hb dX12_groundedBy_90 hl (k := 0) rfl (by rw [e26411]; rfl) (by decide) rfl (fun ls hl => ?_)
                        refine lv_goto (tgt := 51) hx hb dX12_groundedBy_93 (by decide) ?_
                        exact ih_lp26390 z26410 v_lp26390 F_lp26390 _ _ _ (by omega) (by omega) hf_lp26390 hI hF hP hS (lv_sub hl [0, 1, 2, 3, 4] rfl)
                      · skip
                        have t26413 := cv_nle (a := r26407.toInt) rfl (b := 0) (by decide) c26408
                        refine lv_aload_n hx hb dX12_groundedBy_77 rfl (lv_at hl 2 rfl) ?_
                        refine lv_iload_n hx hb dX12_groundedBy_78 rfl (lv_at hl 1 rfl) ?_
                        refine lv_iload hx hb dX12_groundedBy_79 (lv_at hl 0 rfl) ?_
                        refine lv_iload_n hx hb dX12_groundedBy_81 rfl (lv_at hl 4 rfl) ?_
                        refine va_calli (va_runV (As := [.int x3_lp26348, .int x4_lp26390, .int p1]) (rest := []) ⟨hx, hb, hml, hown, hwd⟩ (c_X12_leftOf l dC dI g c adK adV v_lp26390 F_lp26390 rc H.size x3_lp26348 x4_lp26390 p1 hg hI (by omega) (by omega) (JL.to hL (show v_lp26390 31 = v 31 from (hf_lp26390 31 (by decide)).trans ((hf_lp26348 31 (by decide)).trans (hf_lp26343 31 (by decide)))) (hF 28 (by decide)) (hF 29 (by decide)) (hF 27 (by decide)))) (cwV 3 hwd (gV wk_493 wk_490 wk_491 wk_492 wk_5) rfl rfl rfl (by decide +kernel) ⟨Nat.le_of_ble_eq_true rfl, Nat.le_of_ble_eq_true rfl⟩) ⟨PM.blind, va_recv hK hP (ci := 12) (q0 := 0) rfl rfl, fun U hU hW => ⟨rfl, PM.at hK hE hP hS hU hW⟩⟩ rfl rfl hl.1 rfl (lv_room (Nat.le_of_ble_eq_true rfl)) dX12_groundedBy_82 ⟨Nat.le_of_ble_eq_true rfl, Nat.le_of_ble_eq_true rfl⟩) hS (fun q _ h => (freeM hS) q h) (freeM hS) (fun r26414 u t H1 locs ht hvm hw hB hz1 hk1 hS => ?_)
                        unfold BM at hB
                        rw [ht] at hB
                        obtain ⟨v26415, F26416, rc9⟩ := u
                        obtain ⟨hI, hrc, hf26417, hG26418, hw⟩ := hw
                        dsimp only at hI hrc hB hf26417 hG26418 hw
                        have hF := frCF (by decide) hG26418 hF
                        rw [hrc] at hB
                        have hP : va_P (dC, dI) classes (wM g c v26415 F26416 rc) H1 := hB
                        generalize H1 = H at hP hS ⊢
                        have rr_r26414 := i32_rng r26414
                        refine lv_if_ge (tgt := 90) hx hb dX12_groundedBy_85 (by decide) (fun c26419 => ?_) (fun c26419 => ?_)
                        · skip
                          have t26420 := cv_le (a := 0) (by decide) (b := r26414.toInt) rfl c26419
                          obtain ⟨z26421, e26422⟩ : ∃ y : Int32, y = x4_lp26390 + 1 := ⟨_, rfl⟩
                          try (have t26423 := tadd e26422 rfl (b := 1) (by decide) (by omega))
                          refine lv_iinc (v := z26421) (lv' := [(4, .int z26421), (3, .int x3_lp26348), (0, .ref (g 0)), (1, .int p0), (2, .int p1)]) hx hb dX12_groundedBy_90 hl (k := 0) rfl (by rw [e26422]; rfl) (by decide) rfl (fun ls hl => ?_)
                          refine lv_goto (tgt := 51) hx hb dX12_groundedBy_93 (by decide) ?_
                          exact ih_lp26390 z26421 v26415 F26416 _ _ _ (by omega) (by omega) (frC (by decide) hf26417 hf_lp26390) hI hF hP hS (lv_sub hl [0, 1, 2, 3, 4] rfl)
                        · skip
                          have t26424 := cv_nle (a := 0) (by decide) (b := r26414.toInt) rfl c26419
                          refine lv_iconst (v := 2) hx hb dX12_groundedBy_88 (by decide) ?_
                          have hP9 : va_P (dC, dI) classes (wM g c v26415 F26416 rc) H := hP
                          exact W.iret (v := 2) hx hb hr (fun t ht hW => ⟨⟨2, (v26415, F26416, rc), rfl, ⟨hI, rfl, (frC (by decide) hf26417 (frC (by decide) hf_lp26390 (frC (by decide) hf_lp26348 (frC (by decide) hf_lp26343 (fun _ _ => rfl))))), hF, trivial⟩, (by show va_P _ _ _ t.heap; rw [ht]; exact hP9)⟩, hS.F ht⟩) hS.2.2 dX12_groundedBy_89
              obtain ⟨n9, hn9⟩ : ∃ n : Nat, 2147483648 - 0 ≤ (n : Int) := ⟨((2147483648 - 0 : Int)).toNat, by omega⟩
              exact lp26390 n9 0 v_lp26348 F_lp26348 H _ ls (by have : (0 : Int32).toInt = 0 := (by decide); omega) (by have : (0 : Int32).toInt = 0 := (by decide); omega) (fun _ _ => rfl) hI hF hP hS hl
        obtain ⟨n9, hn9⟩ : ∃ n : Nat, 2147483648 - 0 ≤ (n : Int) := ⟨((2147483648 - 0 : Int)).toNat, by omega⟩
        exact lp26348 n9 0 v_lp26343 F_lp26343 H _ ls (by have : (0 : Int32).toInt = 0 := (by decide); omega) (by have : (0 : Int32).toInt = 0 := (by decide); omega) (fun _ _ => rfl) hI hF hP hS hl
      · skip
        have t26425 := cv_nle (a := (v 2).toInt) rfl (b := x3_lp26343.toInt) rfl c26346
        refine lv_aload_n hx hb dX12_groundedBy_10 rfl (lv_at hl 1 rfl) ?_
        refine lv_iload_n hx hb dX12_groundedBy_11 rfl (lv_at hl 2 rfl) ?_
        refine lv_iload_n hx hb dX12_groundedBy_12 rfl (lv_at hl 0 rfl) ?_
        refine va_calli (va_runV (As := [.int p0, .int x3_lp26343]) (rest := []) ⟨hx, hb, hml, hown, hwd⟩ (c_X12_onIt l dC dI g c adK adV v_lp26343 F_lp26343 rc H.size p0 x3_lp26343 hg hI ) (cwV 2 hwd (gV wk_317 wk_314 wk_315 wk_316 wk_5) rfl rfl rfl (by decide +kernel) ⟨Nat.le_of_ble_eq_true rfl, Nat.le_of_ble_eq_true rfl⟩) ⟨PM.blind, va_recv hK hP (ci := 12) (q0 := 0) rfl rfl, fun U hU hW => ⟨rfl, PM.at hK hE hP hS hU hW⟩⟩ rfl rfl hl.1 rfl (lv_room (Nat.le_of_ble_eq_true rfl)) dX12_groundedBy_13 ⟨Nat.le_of_ble_eq_true rfl, Nat.le_of_ble_eq_true rfl⟩) hS (fun q _ h => (freeM hS) q h) (freeM hS) (fun r26426 u t H1 locs ht hvm hw hB hz1 hk1 hS => ?_)
        unfold BM at hB
        rw [ht] at hB
        have hP : va_P (dC, dI) classes (wM g c v_lp26343 F_lp26343 rc) H1 := hB
        generalize H1 = H at hP hS ⊢
        have rr_r26426 := i32_rng r26426
        refine lv_aload_n hx hb dX12_groundedBy_16 rfl (lv_at hl 1 rfl) ?_
        refine va_get (D := (dC, dI)) (ci := 12) (v := .ref (g 9)) (C := RX12) (T := TX12) (N := 63) hx hb hwd inA_X12 hown hK hP 0 rfl rfl 12 (by decide) (hwd _ wk_190) (fun _ h9 => h9) rfl dX12_groundedBy_17 ?_
        refine lv_bipush (v := 10) hx hb dX12_groundedBy_20 (by decide) ?_
        refine lv_iload_n hx hb dX12_groundedBy_22 rfl (lv_at hl 2 rfl) ?_
        refine lv_imul hx hb dX12_groundedBy_23 ?_
        refine lv_topi (fun z26427 e26428 => ?_)
        try (have t26429 := tmul e26428 (a := 10) (by decide) (b := p0.toInt) rfl (by omega))
        refine lv_iload_n hx hb dX12_groundedBy_24 rfl (lv_at hl 0 rfl) ?_
        refine lv_iadd hx hb dX12_groundedBy_25 ?_
        refine lv_topi (fun z26430 e26431 => ?_)
        try (have t26432 := tadd e26431 (a := z26427.toInt) rfl (b := x3_lp26343.toInt) rfl (by omega))
        refine va_iald hx hb hK hP 9 8 rfl rfl (i := z26430) (vin (a := z26430.toInt) rfl (by omega)) dX12_groundedBy_26 ?_
        refine lv_topi (fun z26433 e26434 => ?_)
        have e26434 : z26433 = F 9 (z26430 : Int32).toNatClampNeg := e26434.trans (congrFun (hF 9 (by decide)) _)
        refine lv_icmp_ge (tgt := 32) hx hb dX12_groundedBy_27 (by decide) (fun c26435 => ?_) (fun c26435 => ?_)
        · skip
          have t26436 := cv_le (a := z26433.toInt) rfl (b := r26426.toInt) rfl c26435
          obtain ⟨z26437, e26438⟩ : ∃ y : Int32, y = x3_lp26343 + 1 := ⟨_, rfl⟩
          try (have t26439 := tadd e26438 rfl (b := 1) (by decide) (by omega))
          refine lv_iinc (v := z26437) (lv' := [(3, .int z26437), (0, .ref (g 0)), (1, .int p0), (2, .int p1)]) hx hb dX12_groundedBy_32 hl (k := 0) rfl (by rw [e26438]; rfl) (by decide) rfl (fun ls hl => ?_)
          refine lv_goto (tgt := 2) hx hb dX12_groundedBy_35 (by decide) ?_
          exact ih_lp26343 z26437 v_lp26343 F_lp26343 _ _ _ (by omega) (by omega) hf_lp26343 hI hF hP hS (lv_sub hl [0, 1, 2, 3] rfl)
        · skip
          have t26440 := cv_nle (a := z26433.toInt) rfl (b := r26426.toInt) rfl c26435
          refine lv_iconst (v := 1) hx hb dX12_groundedBy_30 (by decide) ?_
          have hP9 : va_P (dC, dI) classes (wM g c v_lp26343 F_lp26343 rc) H := hP
          exact W.iret (v := 1) hx hb hr (fun t ht hW => ⟨⟨1, (v_lp26343, F_lp26343, rc), rfl, ⟨hI, rfl, (frC (by decide) hf_lp26343 (fun _ _ => rfl)), hF, trivial⟩, (by show va_P _ _ _ t.heap; rw [ht]; exact hP9)⟩, hS.F ht⟩) hS.2.2 dX12_groundedBy_31
  obtain ⟨n9, hn9⟩ : ∃ n : Nat, 2147483648 - 0 ≤ (n : Int) := ⟨((2147483648 - 0 : Int)).toNat, by omega⟩
  exact lp26343 n9 0 v F H _ ls (by have : (0 : Int32).toInt = 0 := (by decide); omega) (by have : (0 : Int32).toInt = 0 := (by decide); omega) (fun _ _ => rfl) hI hF hP hS hl
set_option maxHeartbeats 8000000 in
set_option maxRecDepth 100000 in
theorem c_X12_grounded (l : Launch) (dC : Nat → ClassId) (dI : Nat → Nat → Nat) (g : Nat → Nat) (c : Nat → ClassId) (adK adV : Nat → Nat) (v : Nat → Int32) (F : Nat → Nat → Int32) (rc sz : Nat) (p0 : Int32) (p1 : Int32) (hg : injM g) (hI : IM v F) (hL : JL (v 31) (F 28) (F 29) (F 27)) : Met l yX12_grounded (Cond.code yX12_grounded cX12_grounded 3 (some .int) :: wA) ({ frames := 6, cells := 0, slots := 0, locals := 240 }) (va_Pc [.ref (g 0), .int p0, .int p1] (PM dC dI g c adK adV v F rc sz)) (va_Qi (fun (r : Int32) (u : StM) => IM u.1 u.2.1 ∧ u.2.2 = rc ∧ (∀ k, k ∉ ([] : List Nat) → u.1 k = v k) ∧ (∀ k, k ∉ ([30, 31] : List Nat) → u.2.1 k = F k) ∧ True) (BM dC dI g c) (AM g sz)) 0 0 (AM g sz) := by
  refine Met.ofW (cc := cX12_grounded) (maxL := 3) (ret := (some .int)) (by decide) rfl ?_
  intro p e s m args below meth c0 s₁ B hml hv
  obtain ⟨rfl, hsz, hP, hK, hE⟩ := hv
  have hx := B.exec
  have hb := B.bytes
  have hr := B.returns
  have hts := atoms_spec (ws := Cond.code yX12_grounded cX12_grounded 3 (some .int) :: wA) B.pre
  have hwd : ∀ w ∈ wA, w.before _ s = true := fun w h => hts w (List.mem_cons_of_mem _ h)
  have hown : s.vm.findClass RX12 = some m.cls := findClass_of_methodNamed B.named
  have hlocks := B.notSynchronized
  subst hsz
  have hl := lv_entry ([.ref (g 0), .int p0, .int p1]) (n := 3) (Nat.le_of_ble_eq_true rfl)
  rw [lg_entry_eq]
  generalize (lg_sl ([.ref (g 0), .int p0, .int p1]) ++ List.replicate (3 - (lg_sl ([.ref (g 0), .int p0, .int p1])).length) Slot.unset).toArray = ls at hl ⊢
  have hl : lv_has ls 3 [(0, .ref (g 0)), (1, .int p0), (2, .int p1)] := hl
  obtain ⟨H, eH⟩ : ∃ z, z = s.heap := ⟨_, rfl⟩
  have hP : va_P (dC, dI) classes (wM g c v F rc) H := by rw [eH]; exact hP
  have hS : va_S (AM g s.heap.size) s.heap H [] := by rw [eH]; exact va_S.rf
  refine my_heap eH ?_
  have hF : ∀ k, k ∉ ([30, 31] : List Nat) → F k = F k := fun _ _ => rfl
  have rp0 := i32_rng p0
  have rp1 := i32_rng p1
  have hb31 : 0 ≤ (v 31).toInt ∧ (v 31).toInt ≤ 10 := hI.1 31 _ _ rfl
  refine lv_aload_n hx hb dX12_grounded_0 rfl (lv_at hl 0 rfl) ?_
  refine lv_iload_n hx hb dX12_grounded_1 rfl (lv_at hl 1 rfl) ?_
  have t26455 : 0 ≤ (v 6).toInt ∧ (v 6).toInt ≤ 10 := hI.1 6 _ _ rfl
  refine va_calli (va_runV (As := [.int p0]) (rest := []) ⟨hx, hb, hml, hown, hwd⟩ (c_X12_isPlane l dC dI g c adK adV v F rc H.size p0 hg hI ) (cwV 1 hwd (gV wk_305 wk_302 wk_303 wk_304 wk_5) rfl rfl rfl (by decide +kernel) ⟨Nat.le_of_ble_eq_true rfl, Nat.le_of_ble_eq_true rfl⟩) ⟨PM.blind, va_recv hK hP (ci := 12) (q0 := 0) rfl rfl, fun U hU hW => ⟨rfl, PM.at hK hE hP hS hU hW⟩⟩ rfl rfl hl.1 rfl (lv_room (Nat.le_of_ble_eq_true rfl)) dX12_grounded_2 ⟨Nat.le_of_ble_eq_true rfl, Nat.le_of_ble_eq_true rfl⟩) hS (fun q _ h => (freeM hS) q h) (freeM hS) (fun r26456 u t H1 locs ht hvm hw hB hz1 hk1 hS => ?_)
  unfold BM at hB
  rw [ht] at hB
  have hP : va_P (dC, dI) classes (wM g c v F rc) H1 := hB
  have hw : (r26456.toInt = 1 ∧ 0 ≤ p0.toInt ∧ p0.toInt < (v 6).toInt) ∨ (r26456.toInt = 0 ∧ (p0.toInt < 0 ∨ (v 6).toInt ≤ p0.toInt)) := hw
  have hw_r26456 := hw
  generalize H1 = H at hP hS ⊢
  refine lv_if_eq (tgt := 24) hx hb dX12_grounded_5 (by decide) (fun c26457 => ?_) (fun c26457 => ?_)
  · skip
    have t26458 := cv_eq (a := r26456.toInt) rfl (b := 0) (by decide) c26457
    refine lv_iconst (v := (-1)) hx hb dX12_grounded_24 (by decide) ?_
    have hP9 : va_P (dC, dI) classes (wM g c v F rc) H := hP
    exact W.iret (v := (-1)) hx hb hr (fun t ht hW => ⟨⟨(-1), (v, F, rc), rfl, ⟨hI, rfl, (fun _ _ => rfl), hF, trivial⟩, (by show va_P _ _ _ t.heap; rw [ht]; exact hP9)⟩, hS.F ht⟩) hS.2.2 dX12_grounded_25
  · skip
    have t26459 := cv_ne (a := r26456.toInt) rfl (b := 0) (by decide) c26457
    refine lv_iload_n hx hb dX12_grounded_8 rfl (lv_at hl 2 rfl) ?_
    refine va_calli (va_runS (As := [.int p1]) (rest := []) ⟨hx, hb, hml, hown, hwd⟩ (c_X12_isDay l dC dI g c adK adV v F rc H.size p1 hg hI ) (va_cwS 1 hwd (gT wk_556 wk_554 wk_555 wk_5) rfl rfl rfl (by decide +kernel) ⟨Nat.le_of_ble_eq_true rfl, Nat.le_of_ble_eq_true rfl⟩) ⟨PM.blind, fun U hU hW => ⟨rfl, PM.at hK hE hP hS hU hW⟩⟩ rfl rfl hl.1 rfl (lv_room (Nat.le_of_ble_eq_true rfl)) dX12_grounded_9 ⟨Nat.le_of_ble_eq_true rfl, Nat.le_of_ble_eq_true rfl⟩) hS (fun q _ h => (freeM hS) q h) (freeM hS) (fun r26460 u t H1 locs ht hvm hw hB hz1 hk1 hS => ?_)
    unfold BM at hB
    rw [ht] at hB
    have hP : va_P (dC, dI) classes (wM g c v F rc) H1 := hB
    have hw : (r26460.toInt = 1 ∧ 0 ≤ p1.toInt ∧ p1.toInt ≤ 9999) ∨ (r26460.toInt = 0 ∧ (p1.toInt < 0 ∨ 9999 < p1.toInt)) := hw
    have hw_r26460 := hw
    generalize H1 = H at hP hS ⊢
    refine lv_if_eq (tgt := 24) hx hb dX12_grounded_12 (by decide) (fun c26461 => ?_) (fun c26461 => ?_)
    · skip
      have t26462 := cv_eq (a := r26460.toInt) rfl (b := 0) (by decide) c26461
      refine lv_iconst (v := (-1)) hx hb dX12_grounded_24 (by decide) ?_
      have hP9 : va_P (dC, dI) classes (wM g c v F rc) H := hP
      exact W.iret (v := (-1)) hx hb hr (fun t ht hW => ⟨⟨(-1), (v, F, rc), rfl, ⟨hI, rfl, (fun _ _ => rfl), hF, trivial⟩, (by show va_P _ _ _ t.heap; rw [ht]; exact hP9)⟩, hS.F ht⟩) hS.2.2 dX12_grounded_25
    · skip
      have t26463 := cv_ne (a := r26460.toInt) rfl (b := 0) (by decide) c26461
      refine lv_aload_n hx hb dX12_grounded_15 rfl (lv_at hl 0 rfl) ?_
      refine lv_iload_n hx hb dX12_grounded_16 rfl (lv_at hl 1 rfl) ?_
      refine lv_iload_n hx hb dX12_grounded_17 rfl (lv_at hl 2 rfl) ?_
      refine va_calli (va_runV (As := [.int p0, .int p1]) (rest := []) ⟨hx, hb, hml, hown, hwd⟩ (c_X12_groundedBy l dC dI g c adK adV v F rc H.size p0 p1 hg hI (by omega) (JL.to hL (show v 31 = v 31 from rfl) rfl rfl rfl)) (cwV 2 hwd (gV wk_484 wk_481 wk_482 wk_483 wk_5) rfl rfl rfl (by decide +kernel) ⟨Nat.le_of_ble_eq_true rfl, Nat.le_of_ble_eq_true rfl⟩) ⟨PM.blind, va_recv hK hP (ci := 12) (q0 := 0) rfl rfl, fun U hU hW => ⟨rfl, PM.at hK hE hP hS hU hW⟩⟩ rfl rfl hl.1 rfl (lv_room (Nat.le_of_ble_eq_true rfl)) dX12_grounded_18 ⟨Nat.le_of_ble_eq_true rfl, Nat.le_of_ble_eq_true rfl⟩) hS (fun q _ h => (freeM hS) q h) (freeM hS) (fun r26464 u t H1 locs ht hvm hw hB hz1 hk1 hS => ?_)
      unfold BM at hB
      rw [ht] at hB
      obtain ⟨v26465, F26466, rc9⟩ := u
      obtain ⟨hI, hrc, hf26467, hG26468, hw⟩ := hw
      dsimp only at hI hrc hB hf26467 hG26468 hw
      have hF := frCF (by decide) hG26468 hF
      rw [hrc] at hB
      have hP : va_P (dC, dI) classes (wM g c v26465 F26466 rc) H1 := hB
      generalize H1 = H at hP hS ⊢
      have rr_r26464 := i32_rng r26464
      refine lv_goto (tgt := 25) hx hb dX12_grounded_21 (by decide) ?_
      have hP9 : va_P (dC, dI) classes (wM g c v26465 F26466 rc) H := hP
      exact W.iret (v := r26464) hx hb hr (fun t ht hW => ⟨⟨r26464, (v26465, F26466, rc), rfl, ⟨hI, rfl, (frC (by decide) hf26467 (fun _ _ => rfl)), hF, trivial⟩, (by show va_P _ _ _ t.heap; rw [ht]; exact hP9)⟩, hS.F ht⟩) hS.2.2 dX12_grounded_25
set_option maxHeartbeats 8000000 in
set_option maxRecDepth 100000 in
theorem c_X12_insure (l : Launch) (dC : Nat → ClassId) (dI : Nat → Nat → Nat) (g : Nat → Nat) (c : Nat → ClassId) (adK adV : Nat → Nat) (v : Nat → Int32) (F : Nat → Nat → Int32) (rc sz : Nat) (p0 : Int32) (hg : injM g) (hI : IM v F) (hL : JL (v 31) (F 28) (F 29) (F 27)) : Met l yX12_insure (Cond.code yX12_insure cX12_insure 3 (some .int) :: wA) ({ frames := 6, cells := 0, slots := 0, locals := 240 }) (va_Pc [.ref (g 0), .int p0] (PM dC dI g c adK adV v F rc sz)) (va_Qi (fun (r : Int32) (u : StM) => IM u.1 u.2.1 ∧ u.2.2 = rc ∧ (∀ k, k ∉ ([] : List Nat) → u.1 k = v k) ∧ (∀ k, k ∉ ([30, 31] : List Nat) → u.2.1 k = F k) ∧ True) (BM dC dI g c) (AM g sz)) 0 0 (AM g sz) := by
  refine Met.ofW (cc := cX12_insure) (maxL := 3) (ret := (some .int)) (by decide) rfl ?_
  intro p e s m args below meth c0 s₁ B hml hv
  obtain ⟨rfl, hsz, hP, hK, hE⟩ := hv
  have hx := B.exec
  have hb := B.bytes
  have hr := B.returns
  have hts := atoms_spec (ws := Cond.code yX12_insure cX12_insure 3 (some .int) :: wA) B.pre
  have hwd : ∀ w ∈ wA, w.before _ s = true := fun w h => hts w (List.mem_cons_of_mem _ h)
  have hown : s.vm.findClass RX12 = some m.cls := findClass_of_methodNamed B.named
  have hlocks := B.notSynchronized
  subst hsz
  have hl := lv_entry ([.ref (g 0), .int p0]) (n := 3) (Nat.le_of_ble_eq_true rfl)
  rw [lg_entry_eq]
  generalize (lg_sl ([.ref (g 0), .int p0]) ++ List.replicate (3 - (lg_sl ([.ref (g 0), .int p0])).length) Slot.unset).toArray = ls at hl ⊢
  have hl : lv_has ls 3 [(0, .ref (g 0)), (1, .int p0)] := hl
  obtain ⟨H, eH⟩ : ∃ z, z = s.heap := ⟨_, rfl⟩
  have hP : va_P (dC, dI) classes (wM g c v F rc) H := by rw [eH]; exact hP
  have hS : va_S (AM g s.heap.size) s.heap H [] := by rw [eH]; exact va_S.rf
  refine my_heap eH ?_
  have hF : ∀ k, k ∉ ([30, 31] : List Nat) → F k = F k := fun _ _ => rfl
  have rp0 := i32_rng p0
  have hb31 : 0 ≤ (v 31).toInt ∧ (v 31).toInt ≤ 10 := hI.1 31 _ _ rfl
  refine lv_aload_n hx hb dX12_insure_0 rfl (lv_at hl 0 rfl) ?_
  refine lv_iload_n hx hb dX12_insure_1 rfl (lv_at hl 1 rfl) ?_
  have t26512 : 0 ≤ (v 6).toInt ∧ (v 6).toInt ≤ 10 := hI.1 6 _ _ rfl
  refine va_calli (va_runV (As := [.int p0]) (rest := []) ⟨hx, hb, hml, hown, hwd⟩ (c_X12_isPlane l dC dI g c adK adV v F rc H.size p0 hg hI ) (cwV 1 hwd (gV wk_305 wk_302 wk_303 wk_304 wk_5) rfl rfl rfl (by decide +kernel) ⟨Nat.le_of_ble_eq_true rfl, Nat.le_of_ble_eq_true rfl⟩) ⟨PM.blind, va_recv hK hP (ci := 12) (q0 := 0) rfl rfl, fun U hU hW => ⟨rfl, PM.at hK hE hP hS hU hW⟩⟩ rfl rfl hl.1 rfl (lv_room (Nat.le_of_ble_eq_true rfl)) dX12_insure_2 ⟨Nat.le_of_ble_eq_true rfl, Nat.le_of_ble_eq_true rfl⟩) hS (fun q _ h => (freeM hS) q h) (freeM hS) (fun r26513 u t H1 locs ht hvm hw hB hz1 hk1 hS => ?_)
  unfold BM at hB
  rw [ht] at hB
  have hP : va_P (dC, dI) classes (wM g c v F rc) H1 := hB
  have hw : (r26513.toInt = 1 ∧ 0 ≤ p0.toInt ∧ p0.toInt < (v 6).toInt) ∨ (r26513.toInt = 0 ∧ (p0.toInt < 0 ∨ (v 6).toInt ≤ p0.toInt)) := hw
  have hw_r26513 := hw
  generalize H1 = H at hP hS ⊢
  refine lv_if_ne (tgt := 10) hx hb dX12_insure_5 (by decide) (fun c26514 => ?_) (fun c26514 => ?_)
  · skip
    have t26515 := cv_ne (a := r26513.toInt) rfl (b := 0) (by decide) c26514
    refine lv_aload_n hx hb dX12_insure_10 rfl (lv_at hl 0 rfl) ?_
    refine lv_iload_n hx hb dX12_insure_11 rfl (lv_at hl 1 rfl) ?_
    refine lv_aload_n hx hb dX12_insure_12 rfl (lv_at hl 0 rfl) ?_
    refine va_get (D := (dC, dI)) (ci := 12) (v := .int (v 1)) (C := RX12) (T := TX12) (N := 63) hx hb hwd inA_X12 hown hK hP 0 rfl rfl 1 (by decide) (hwd _ wk_332) (fun _ h9 => h9) rfl dX12_insure_13 ?_
    have t26516 : 0 ≤ (v 1).toInt ∧ (v 1).toInt ≤ 9999 := hI.1 1 _ _ rfl
    refine va_calli (va_runV (As := [.int p0, .int (v 1)]) (rest := []) ⟨hx, hb, hml, hown, hwd⟩ (c_X12_groundedBy l dC dI g c adK adV v F rc H.size p0 (v 1) hg hI (by omega) (JL.to hL (show v 31 = v 31 from rfl) rfl rfl rfl)) (cwV 2 hwd (gV wk_484 wk_481 wk_482 wk_483 wk_5) rfl rfl rfl (by decide +kernel) ⟨Nat.le_of_ble_eq_true rfl, Nat.le_of_ble_eq_true rfl⟩) ⟨PM.blind, va_recv hK hP (ci := 12) (q0 := 0) rfl rfl, fun U hU hW => ⟨rfl, PM.at hK hE hP hS hU hW⟩⟩ rfl rfl hl.1 rfl (lv_room (Nat.le_of_ble_eq_true rfl)) dX12_insure_16 ⟨Nat.le_of_ble_eq_true rfl, Nat.le_of_ble_eq_true rfl⟩) hS (fun q _ h => (freeM hS) q h) (freeM hS) (fun r26517 u t H1 locs ht hvm hw hB hz1 hk1 hS => ?_)
    unfold BM at hB
    rw [ht] at hB
    obtain ⟨v26518, F26519, rc9⟩ := u
    obtain ⟨hI, hrc, hf26520, hG26521, hw⟩ := hw
    dsimp only at hI hrc hB hf26520 hG26521 hw
    have hF := frCF (by decide) hG26521 hF
    rw [hrc] at hB
    have hP : va_P (dC, dI) classes (wM g c v26518 F26519 rc) H1 := hB
    generalize H1 = H at hP hS ⊢
    have rr_r26517 := i32_rng r26517
    refine lv_if_eq (tgt := 24) hx hb dX12_insure_19 (by decide) (fun c26522 => ?_) (fun c26522 => ?_)
    · skip
      have t26523 := cv_eq (a := r26517.toInt) rfl (b := 0) (by decide) c26522
      refine lv_aload_n hx hb dX12_insure_24 rfl (lv_at hl 0 rfl) ?_
      refine lv_iload_n hx hb dX12_insure_25 rfl (lv_at hl 1 rfl) ?_
      refine lv_aload_n hx hb dX12_insure_26 rfl (lv_at hl 0 rfl) ?_
      refine va_get (D := (dC, dI)) (ci := 12) (v := .int (v26518 1)) (C := RX12) (T := TX12) (N := 63) hx hb hwd inA_X12 hown hK hP 0 rfl rfl 1 (by decide) (hwd _ wk_332) (fun _ h9 => h9) rfl dX12_insure_27 ?_
      refine my_top (v := v 1) (hf26520 1 (by decide)) ?_
      have t26524 : 0 ≤ (v 1).toInt ∧ (v 1).toInt ≤ 9999 := by have h9 := hI.1 1 _ _ rfl; rw [show v26518 1 = v 1 from hf26520 1 (by decide)] at h9; exact h9
      refine va_calli (va_runV (As := [.int p0, .int (v 1)]) (rest := []) ⟨hx, hb, hml, hown, hwd⟩ (c_X12_halfOf l dC dI g c adK adV v26518 F26519 rc H.size p0 (v 1) hg hI (JL.to hL (show v26518 31 = v 31 from hf26520 31 (by decide)) (hF 28 (by decide)) (hF 29 (by decide)) (hF 27 (by decide)))) (cwV 2 hwd (gV wk_1378 wk_1375 wk_1376 wk_1377 wk_5) rfl rfl rfl (by decide +kernel) ⟨Nat.le_of_ble_eq_true rfl, Nat.le_of_ble_eq_true rfl⟩) ⟨PM.blind, va_recv hK hP (ci := 12) (q0 := 0) rfl rfl, fun U hU hW => ⟨rfl, PM.at hK hE hP hS hU hW⟩⟩ rfl rfl hl.1 rfl (lv_room (Nat.le_of_ble_eq_true rfl)) dX12_insure_30 ⟨Nat.le_of_ble_eq_true rfl, Nat.le_of_ble_eq_true rfl⟩) hS (fun q _ h => (freeM hS) q h) (freeM hS) (fun r26525 u t H1 locs ht hvm hw hB hz1 hk1 hS => ?_)
      unfold BM at hB
      rw [ht] at hB
      obtain ⟨v26526, F26527, rc9⟩ := u
      obtain ⟨hI, hrc, hf26528, hG26529, hw⟩ := hw
      dsimp only at hI hrc hB hf26528 hG26529 hw
      have hF := frCF (by decide) hG26529 hF
      rw [hrc] at hB
      have hP : va_P (dC, dI) classes (wM g c v26526 F26527 rc) H1 := hB
      generalize H1 = H at hP hS ⊢
      have rr_r26525 := i32_rng r26525
      refine lv_istore_n (lv' := [(2, .int r26525), (0, .ref (g 0)), (1, .int p0)]) hx hb dX12_insure_33 rfl hl (by decide) rfl (fun ls hl => ?_)
      refine lv_aload_n hx hb dX12_insure_34 rfl (lv_at hl 1 rfl) ?_
      refine va_get (D := (dC, dI)) (ci := 12) (v := .ref (g 4)) (C := RX12) (T := TX12) (N := 63) hx hb hwd inA_X12 hown hK hP 0 rfl rfl 7 (by decide) (hwd _ wk_185) (fun _ h9 => h9) rfl dX12_insure_35 ?_
      refine lv_iload_n hx hb dX12_insure_38 rfl (lv_at hl 2 rfl) ?_
      refine va_iald hx hb hK hP 4 3 rfl rfl (i := p0) (vin (a := p0.toInt) rfl (by omega)) dX12_insure_39 ?_
      refine lv_topi (fun z26530 e26531 => ?_)
      have e26531 : z26530 = F 4 (p0 : Int32).toNatClampNeg := e26531.trans (congrFun (hF 4 (by decide)) _)
      refine lv_iload_n hx hb dX12_insure_40 rfl (lv_at hl 0 rfl) ?_
      refine lv_if_ge (tgt := 48) hx hb dX12_insure_41 (by decide) (fun c26532 => ?_) (fun c26532 => ?_)
      · skip
        have t26533 := cv_le (a := 0) (by decide) (b := r26525.toInt) rfl c26532
        refine lv_iload_n hx hb dX12_insure_48 rfl (lv_at hl 0 rfl) ?_
        refine lv_iadd hx hb dX12_insure_49 ?_
        refine lv_topi (fun z26534 e26535 => ?_)
        try (have t26536 := tadd e26535 (a := z26530.toInt) rfl (b := r26525.toInt) rfl (by omega))
        refine lv_sipush (v := 999) hx hb dX12_insure_50 (by decide) ?_
        refine lv_iadd hx hb dX12_insure_53 ?_
        refine lv_topi (fun z26537 e26538 => ?_)
        try (have t26539 := tadd e26538 (a := z26534.toInt) rfl (b := 999) (by decide) (by omega))
        refine lv_sipush (v := 1000) hx hb dX12_insure_54 (by decide) ?_
        refine lv_idiv hx hb dX12_insure_57 (by decide) ?_
        refine lv_topi (fun z26540 e26541 => ?_)
        have hP9 : va_P (dC, dI) classes (wM g c v26526 F26527 rc) H := hP
        exact W.iret (v := z26540) hx hb hr (fun t ht hW => ⟨⟨z26540, (v26526, F26527, rc), rfl, ⟨hI, rfl, (frC (by decide) hf26528 (frC (by decide) hf26520 (fun _ _ => rfl))), hF, trivial⟩, (by show va_P _ _ _ t.heap; rw [ht]; exact hP9)⟩, hS.F ht⟩) hS.2.2 dX12_insure_58
      · skip
        have t26543 := cv_nle (a := 0) (by decide) (b := r26525.toInt) rfl c26532
        refine lv_iconst (v := 0) hx hb dX12_insure_44 (by decide) ?_
        refine lv_goto (tgt := 49) hx hb dX12_insure_45 (by decide) ?_
        refine lv_iadd hx hb dX12_insure_49 ?_
        refine lv_topi (fun z26544 e26545 => ?_)
        try (have t26546 := tadd e26545 (a := z26530.toInt) rfl (b := 0) (by decide) (by omega))
        refine lv_sipush (v := 999) hx hb dX12_insure_50 (by decide) ?_
        refine lv_iadd hx hb dX12_insure_53 ?_
        refine lv_topi (fun z26547 e26548 => ?_)
        try (have t26549 := tadd e26548 (a := z26544.toInt) rfl (b := 999) (by decide) (by omega))
        refine lv_sipush (v := 1000) hx hb dX12_insure_54 (by decide) ?_
        refine lv_idiv hx hb dX12_insure_57 (by decide) ?_
        refine lv_topi (fun z26550 e26551 => ?_)
        have hP9 : va_P (dC, dI) classes (wM g c v26526 F26527 rc) H := hP
        exact W.iret (v := z26550) hx hb hr (fun t ht hW => ⟨⟨z26550, (v26526, F26527, rc), rfl, ⟨hI, rfl, (frC (by decide) hf26528 (frC (by decide) hf26520 (fun _ _ => rfl))), hF, trivial⟩, (by show va_P _ _ _ t.heap; rw [ht]; exact hP9)⟩, hS.F ht⟩) hS.2.2 dX12_insure_58
    · skip
      have t26553 := cv_ne (a := r26517.toInt) rfl (b := 0) (by decide) c26522
      refine lv_iconst (v := 0) hx hb dX12_insure_22 (by decide) ?_
      have hP9 : va_P (dC, dI) classes (wM g c v26518 F26519 rc) H := hP
      exact W.iret (v := 0) hx hb hr (fun t ht hW => ⟨⟨0, (v26518, F26519, rc), rfl, ⟨hI, rfl, (frC (by decide) hf26520 (fun _ _ => rfl)), hF, trivial⟩, (by show va_P _ _ _ t.heap; rw [ht]; exact hP9)⟩, hS.F ht⟩) hS.2.2 dX12_insure_23
  · skip
    have t26554 := cv_eq (a := r26513.toInt) rfl (b := 0) (by decide) c26514
    refine lv_iconst (v := (-1)) hx hb dX12_insure_8 (by decide) ?_
    have hP9 : va_P (dC, dI) classes (wM g c v F rc) H := hP
    exact W.iret (v := (-1)) hx hb hr (fun t ht hW => ⟨⟨(-1), (v, F, rc), rfl, ⟨hI, rfl, (fun _ _ => rfl), hF, trivial⟩, (by show va_P _ _ _ t.heap; rw [ht]; exact hP9)⟩, hS.F ht⟩) hS.2.2 dX12_insure_9
set_option maxHeartbeats 8000000 in
set_option maxRecDepth 100000 in
theorem c_X12_fly (l : Launch) (dC : Nat → ClassId) (dI : Nat → Nat → Nat) (g : Nat → Nat) (c : Nat → ClassId) (adK adV : Nat → Nat) (v : Nat → Int32) (F : Nat → Nat → Int32) (rc sz : Nat) (p0 : Int32) (p1 : Int32) (p2 : Int32) (hg : injM g) (hI : IM v F) (hL : JL (v 31) (F 28) (F 29) (F 27)) : Met l yX12_fly (Cond.code yX12_fly cX12_fly 6 (some .int) :: wA) ({ frames := 6, cells := 0, slots := 0, locals := 240 }) (va_Pc [.ref (g 0), .int p0, .int p1, .int p2] (PM dC dI g c adK adV v F rc sz)) (va_Qi (fun (r : Int32) (u : StM) => IM u.1 u.2.1 ∧ u.2.2 = rc ∧ (∀ k, k ∉ ([] : List Nat) → u.1 k = v k) ∧ (∀ k, k ∉ ([5, 6, 10, 14, 30, 31] : List Nat) → u.2.1 k = F k) ∧ True) (BM dC dI g c) (AM g sz)) 0 0 (AM g sz) := by
  refine Met.ofW (cc := cX12_fly) (maxL := 6) (ret := (some .int)) (by decide) rfl ?_
  intro p e s m args below meth c0 s₁ B hml hv
  obtain ⟨rfl, hsz, hP, hK, hE⟩ := hv
  have hx := B.exec
  have hb := B.bytes
  have hr := B.returns
  have hts := atoms_spec (ws := Cond.code yX12_fly cX12_fly 6 (some .int) :: wA) B.pre
  have hwd : ∀ w ∈ wA, w.before _ s = true := fun w h => hts w (List.mem_cons_of_mem _ h)
  have hown : s.vm.findClass RX12 = some m.cls := findClass_of_methodNamed B.named
  have hlocks := B.notSynchronized
  subst hsz
  have hl := lv_entry ([.ref (g 0), .int p0, .int p1, .int p2]) (n := 6) (Nat.le_of_ble_eq_true rfl)
  rw [lg_entry_eq]
  generalize (lg_sl ([.ref (g 0), .int p0, .int p1, .int p2]) ++ List.replicate (6 - (lg_sl ([.ref (g 0), .int p0, .int p1, .int p2])).length) Slot.unset).toArray = ls at hl ⊢
  have hl : lv_has ls 6 [(0, .ref (g 0)), (1, .int p0), (2, .int p1), (3, .int p2)] := hl
  obtain ⟨H, eH⟩ : ∃ z, z = s.heap := ⟨_, rfl⟩
  have hP : va_P (dC, dI) classes (wM g c v F rc) H := by rw [eH]; exact hP
  have hS : va_S (AM g s.heap.size) s.heap H [] := by rw [eH]; exact va_S.rf
  refine my_heap eH ?_
  have hF : ∀ k, k ∉ ([5, 6, 10, 14, 30, 31] : List Nat) → F k = F k := fun _ _ => rfl
  have rp0 := i32_rng p0
  have rp1 := i32_rng p1
  have rp2 := i32_rng p2
  have hb31 : 0 ≤ (v 31).toInt ∧ (v 31).toInt ≤ 10 := hI.1 31 _ _ rfl
  refine lv_aload_n hx hb dX12_fly_0 rfl (lv_at hl 0 rfl) ?_
  refine lv_iload_n hx hb dX12_fly_1 rfl (lv_at hl 1 rfl) ?_
  have t26724 : 0 ≤ (v 6).toInt ∧ (v 6).toInt ≤ 10 := hI.1 6 _ _ rfl
  refine va_calli (va_runV (As := [.int p0]) (rest := []) ⟨hx, hb, hml, hown, hwd⟩ (c_X12_isPlane l dC dI g c adK adV v F rc H.size p0 hg hI ) (cwV 1 hwd (gV wk_305 wk_302 wk_303 wk_304 wk_5) rfl rfl rfl (by decide +kernel) ⟨Nat.le_of_ble_eq_true rfl, Nat.le_of_ble_eq_true rfl⟩) ⟨PM.blind, va_recv hK hP (ci := 12) (q0 := 0) rfl rfl, fun U hU hW => ⟨rfl, PM.at hK hE hP hS hU hW⟩⟩ rfl rfl hl.1 rfl (lv_room (Nat.le_of_ble_eq_true rfl)) dX12_fly_2 ⟨Nat.le_of_ble_eq_true rfl, Nat.le_of_ble_eq_true rfl⟩) hS (fun q _ h => (freeM hS) q h) (freeM hS) (fun r26725 u t H1 locs ht hvm hw hB hz1 hk1 hS => ?_)
  unfold BM at hB
  rw [ht] at hB
  have hP : va_P (dC, dI) classes (wM g c v F rc) H1 := hB
  have hw : (r26725.toInt = 1 ∧ 0 ≤ p0.toInt ∧ p0.toInt < (v 6).toInt) ∨ (r26725.toInt = 0 ∧ (p0.toInt < 0 ∨ (v 6).toInt ≤ p0.toInt)) := hw
  have hw_r26725 := hw
  generalize H1 = H at hP hS ⊢
  refine lv_if_eq (tgt := 30) hx hb dX12_fly_5 (by decide) (fun c26726 => ?_) (fun c26726 => ?_)
  · skip
    have t26727 := cv_eq (a := r26725.toInt) rfl (b := 0) (by decide) c26726
    refine lv_iconst (v := (-1)) hx hb dX12_fly_30 (by decide) ?_
    have hP9 : va_P (dC, dI) classes (wM g c v F rc) H := hP
    exact W.iret (v := (-1)) hx hb hr (fun t ht hW => ⟨⟨(-1), (v, F, rc), rfl, ⟨hI, rfl, (fun _ _ => rfl), hF, trivial⟩, (by show va_P _ _ _ t.heap; rw [ht]; exact hP9)⟩, hS.F ht⟩) hS.2.2 dX12_fly_31
  · skip
    have t26728 := cv_ne (a := r26725.toInt) rfl (b := 0) (by decide) c26726
    refine lv_iload_n hx hb dX12_fly_8 rfl (lv_at hl 2 rfl) ?_
    refine lv_iconst (v := 1) hx hb dX12_fly_9 (by decide) ?_
    refine lv_sipush (v := 999) hx hb dX12_fly_10 (by decide) ?_
    refine va_calli (va_runS (As := [.int p1, .int 1, .int 999]) (rest := []) ⟨hx, hb, hml, hown, hwd⟩ (c_X12_in l dC dI g c adK adV v F rc H.size p1 1 999 hg hI ) (va_cwS 3 hwd (gT wk_254 wk_252 wk_253 wk_5) rfl rfl rfl (by decide +kernel) ⟨Nat.le_of_ble_eq_true rfl, Nat.le_of_ble_eq_true rfl⟩) ⟨PM.blind, fun U hU hW => ⟨rfl, PM.at hK hE hP hS hU hW⟩⟩ rfl rfl hl.1 rfl (lv_room (Nat.le_of_ble_eq_true rfl)) dX12_fly_13 ⟨Nat.le_of_ble_eq_true rfl, Nat.le_of_ble_eq_true rfl⟩) hS (fun q _ h => (freeM hS) q h) (freeM hS) (fun r26729 u t H1 locs ht hvm hw hB hz1 hk1 hS => ?_)
    unfold BM at hB
    rw [ht] at hB
    have hP : va_P (dC, dI) classes (wM g c v F rc) H1 := hB
    have hw : (r26729.toInt = 1 ∧ (1 : Int32).toInt ≤ p1.toInt ∧ p1.toInt ≤ (999 : Int32).toInt) ∨ (r26729.toInt = 0 ∧ (p1.toInt < (1 : Int32).toInt ∨ (999 : Int32).toInt < p1.toInt)) := hw
    have hw_r26729 := hw
    have k26730 : (1 : Int32).toInt = 1 := by decide
    have k26731 : (999 : Int32).toInt = 999 := by decide
    generalize H1 = H at hP hS ⊢
    refine lv_if_eq (tgt := 30) hx hb dX12_fly_16 (by decide) (fun c26732 => ?_) (fun c26732 => ?_)
    · skip
      have t26733 := cv_eq (a := r26729.toInt) rfl (b := 0) (by decide) c26732
      refine lv_iconst (v := (-1)) hx hb dX12_fly_30 (by decide) ?_
      have hP9 : va_P (dC, dI) classes (wM g c v F rc) H := hP
      exact W.iret (v := (-1)) hx hb hr (fun t ht hW => ⟨⟨(-1), (v, F, rc), rfl, ⟨hI, rfl, (fun _ _ => rfl), hF, trivial⟩, (by show va_P _ _ _ t.heap; rw [ht]; exact hP9)⟩, hS.F ht⟩) hS.2.2 dX12_fly_31
    · skip
      have t26734 := cv_ne (a := r26729.toInt) rfl (b := 0) (by decide) c26732
      refine lv_iload_n hx hb dX12_fly_19 rfl (lv_at hl 3 rfl) ?_
      refine lv_iconst (v := 0) hx hb dX12_fly_20 (by decide) ?_
      refine lv_sipush (v := 999) hx hb dX12_fly_21 (by decide) ?_
      refine va_calli (va_runS (As := [.int p2, .int 0, .int 999]) (rest := []) ⟨hx, hb, hml, hown, hwd⟩ (c_X12_in l dC dI g c adK adV v F rc H.size p2 0 999 hg hI ) (va_cwS 3 hwd (gT wk_254 wk_252 wk_253 wk_5) rfl rfl rfl (by decide +kernel) ⟨Nat.le_of_ble_eq_true rfl, Nat.le_of_ble_eq_true rfl⟩) ⟨PM.blind, fun U hU hW => ⟨rfl, PM.at hK hE hP hS hU hW⟩⟩ rfl rfl hl.1 rfl (lv_room (Nat.le_of_ble_eq_true rfl)) dX12_fly_24 ⟨Nat.le_of_ble_eq_true rfl, Nat.le_of_ble_eq_true rfl⟩) hS (fun q _ h => (freeM hS) q h) (freeM hS) (fun r26735 u t H1 locs ht hvm hw hB hz1 hk1 hS => ?_)
      unfold BM at hB
      rw [ht] at hB
      have hP : va_P (dC, dI) classes (wM g c v F rc) H1 := hB
      have hw : (r26735.toInt = 1 ∧ (0 : Int32).toInt ≤ p2.toInt ∧ p2.toInt ≤ (999 : Int32).toInt) ∨ (r26735.toInt = 0 ∧ (p2.toInt < (0 : Int32).toInt ∨ (999 : Int32).toInt < p2.toInt)) := hw
      have hw_r26735 := hw
      have k26736 : (0 : Int32).toInt = 0 := by decide
      have k26737 : (999 : Int32).toInt = 999 := by decide
      generalize H1 = H at hP hS ⊢
      refine lv_if_ne (tgt := 32) hx hb dX12_fly_27 (by decide) (fun c26738 => ?_) (fun c26738 => ?_)
      · skip
        have t26739 := cv_ne (a := r26735.toInt) rfl (b := 0) (by decide) c26738
        refine lv_aload_n hx hb dX12_fly_32 rfl (lv_at hl 0 rfl) ?_
        refine lv_iload_n hx hb dX12_fly_33 rfl (lv_at hl 1 rfl) ?_
        refine va_calli (va_runV (As := [.int p0]) (rest := []) ⟨hx, hb, hml, hown, hwd⟩ (c_X12_isReturned l dC dI g c adK adV v F rc H.size p0 hg hI (by omega)) (cwV 1 hwd (gV wk_313 wk_310 wk_311 wk_312 wk_5) rfl rfl rfl (by decide +kernel) ⟨Nat.le_of_ble_eq_true rfl, Nat.le_of_ble_eq_true rfl⟩) ⟨PM.blind, va_recv hK hP (ci := 12) (q0 := 0) rfl rfl, fun U hU hW => ⟨rfl, PM.at hK hE hP hS hU hW⟩⟩ rfl rfl hl.1 rfl (lv_room (Nat.le_of_ble_eq_true rfl)) dX12_fly_34 ⟨Nat.le_of_ble_eq_true rfl, Nat.le_of_ble_eq_true rfl⟩) hS (fun q _ h => (freeM hS) q h) (freeM hS) (fun r26740 u t H1 locs ht hvm hw hB hz1 hk1 hS => ?_)
        unfold BM at hB
        rw [ht] at hB
        have hP : va_P (dC, dI) classes (wM g c v F rc) H1 := hB
        have hw : 0 ≤ r26740.toInt ∧ r26740.toInt ≤ 1 := hw
        have hw_r26740 := hw
        generalize H1 = H at hP hS ⊢
        refine lv_if_ne (tgt := 78) hx hb dX12_fly_37 (by decide) (fun c26741 => ?_) (fun c26741 => ?_)
        · skip
          have t26742 := cv_ne (a := r26740.toInt) rfl (b := 0) (by decide) c26741
          refine lv_bipush (v := (-2)) hx hb dX12_fly_78 (by decide) ?_
          have hP9 : va_P (dC, dI) classes (wM g c v F rc) H := hP
          exact W.iret (v := (-2)) hx hb hr (fun t ht hW => ⟨⟨(-2), (v, F, rc), rfl, ⟨hI, rfl, (fun _ _ => rfl), hF, trivial⟩, (by show va_P _ _ _ t.heap; rw [ht]; exact hP9)⟩, hS.F ht⟩) hS.2.2 dX12_fly_80
        · skip
          have t26743 := cv_eq (a := r26740.toInt) rfl (b := 0) (by decide) c26741
          refine lv_aload_n hx hb dX12_fly_40 rfl (lv_at hl 0 rfl) ?_
          refine lv_iload_n hx hb dX12_fly_41 rfl (lv_at hl 1 rfl) ?_
          refine lv_aload_n hx hb dX12_fly_42 rfl (lv_at hl 0 rfl) ?_
          refine va_get (D := (dC, dI)) (ci := 12) (v := .int (v 1)) (C := RX12) (T := TX12) (N := 63) hx hb hwd inA_X12 hown hK hP 0 rfl rfl 1 (by decide) (hwd _ wk_332) (fun _ h9 => h9) rfl dX12_fly_43 ?_
          have t26744 : 0 ≤ (v 1).toInt ∧ (v 1).toInt ≤ 9999 := hI.1 1 _ _ rfl
          refine va_calli (va_runV (As := [.int p0, .int (v 1)]) (rest := []) ⟨hx, hb, hml, hown, hwd⟩ (c_X12_groundedBy l dC dI g c adK adV v F rc H.size p0 (v 1) hg hI (by omega) (JL.to hL (show v 31 = v 31 from rfl) rfl rfl rfl)) (cwV 2 hwd (gV wk_484 wk_481 wk_482 wk_483 wk_5) rfl rfl rfl (by decide +kernel) ⟨Nat.le_of_ble_eq_true rfl, Nat.le_of_ble_eq_true rfl⟩) ⟨PM.blind, va_recv hK hP (ci := 12) (q0 := 0) rfl rfl, fun U hU hW => ⟨rfl, PM.at hK hE hP hS hU hW⟩⟩ rfl rfl hl.1 rfl (lv_room (Nat.le_of_ble_eq_true rfl)) dX12_fly_46 ⟨Nat.le_of_ble_eq_true rfl, Nat.le_of_ble_eq_true rfl⟩) hS (fun q _ h => (freeM hS) q h) (freeM hS) (fun r26745 u t H1 locs ht hvm hw hB hz1 hk1 hS => ?_)
          unfold BM at hB
          rw [ht] at hB
          obtain ⟨v26746, F26747, rc9⟩ := u
          obtain ⟨hI, hrc, hf26748, hG26749, hw⟩ := hw
          dsimp only at hI hrc hB hf26748 hG26749 hw
          have hF := frCF (by decide) hG26749 hF
          rw [hrc] at hB
          have hP : va_P (dC, dI) classes (wM g c v26746 F26747 rc) H1 := hB
          generalize H1 = H at hP hS ⊢
          have rr_r26745 := i32_rng r26745
          refine lv_if_ne (tgt := 78) hx hb dX12_fly_49 (by decide) (fun c26750 => ?_) (fun c26750 => ?_)
          · skip
            have t26751 := cv_ne (a := r26745.toInt) rfl (b := 0) (by decide) c26750
            refine lv_bipush (v := (-2)) hx hb dX12_fly_78 (by decide) ?_
            have hP9 : va_P (dC, dI) classes (wM g c v26746 F26747 rc) H := hP
            exact W.iret (v := (-2)) hx hb hr (fun t ht hW => ⟨⟨(-2), (v26746, F26747, rc), rfl, ⟨hI, rfl, (frC (by decide) hf26748 (fun _ _ => rfl)), hF, trivial⟩, (by show va_P _ _ _ t.heap; rw [ht]; exact hP9)⟩, hS.F ht⟩) hS.2.2 dX12_fly_80
          · skip
            have t26752 := cv_eq (a := r26745.toInt) rfl (b := 0) (by decide) c26750
            refine lv_aload_n hx hb dX12_fly_52 rfl (lv_at hl 0 rfl) ?_
            refine va_get (D := (dC, dI)) (ci := 12) (v := .ref (g 5)) (C := RX12) (T := TX12) (N := 63) hx hb hwd inA_X12 hown hK hP 0 rfl rfl 8 (by decide) (hwd _ wk_186) (fun _ h9 => h9) rfl dX12_fly_53 ?_
            refine lv_iload_n hx hb dX12_fly_56 rfl (lv_at hl 1 rfl) ?_
            refine va_iald hx hb hK hP 5 4 rfl rfl (i := p0) (vin (a := p0.toInt) rfl (by omega)) dX12_fly_57 ?_
            refine lv_topi (fun z26753 e26754 => ?_)
            refine lv_iload_n hx hb dX12_fly_58 rfl (lv_at hl 2 rfl) ?_
            refine lv_iadd hx hb dX12_fly_59 ?_
            refine lv_topi (fun z26755 e26756 => ?_)
            try (have t26757 := tadd e26756 (a := z26753.toInt) rfl (b := p1.toInt) rfl (by omega))
            refine lv_ldc (v := 999999) hx hb hown (hwd _ wk_250) dX12_fly_60 ?_
            refine lv_icmp_gt (tgt := 78) hx hb dX12_fly_62 (by decide) (fun c26758 => ?_) (fun c26758 => ?_)
            · skip
              have t26759 := cv_lt (a := 999999) (by decide) (b := z26755.toInt) rfl c26758
              refine lv_bipush (v := (-2)) hx hb dX12_fly_78 (by decide) ?_
              have hP9 : va_P (dC, dI) classes (wM g c v26746 F26747 rc) H := hP
              exact W.iret (v := (-2)) hx hb hr (fun t ht hW => ⟨⟨(-2), (v26746, F26747, rc), rfl, ⟨hI, rfl, (frC (by decide) hf26748 (fun _ _ => rfl)), hF, trivial⟩, (by show va_P _ _ _ t.heap; rw [ht]; exact hP9)⟩, hS.F ht⟩) hS.2.2 dX12_fly_80
            · skip
              have t26760 := cv_nlt (a := 999999) (by decide) (b := z26755.toInt) rfl c26758
              refine lv_aload_n hx hb dX12_fly_65 rfl (lv_at hl 0 rfl) ?_
              refine va_get (D := (dC, dI)) (ci := 12) (v := .ref (g 6)) (C := RX12) (T := TX12) (N := 63) hx hb hwd inA_X12 hown hK hP 0 rfl rfl 9 (by decide) (hwd _ wk_187) (fun _ h9 => h9) rfl dX12_fly_66 ?_
              refine lv_iload_n hx hb dX12_fly_69 rfl (lv_at hl 1 rfl) ?_
              refine va_iald hx hb hK hP 6 5 rfl rfl (i := p0) (vin (a := p0.toInt) rfl (by omega)) dX12_fly_70 ?_
              refine lv_topi (fun z26761 e26762 => ?_)
              refine lv_iload_n hx hb dX12_fly_71 rfl (lv_at hl 3 rfl) ?_
              refine lv_iadd hx hb dX12_fly_72 ?_
              refine lv_topi (fun z26763 e26764 => ?_)
              try (have t26765 := tadd e26764 (a := z26761.toInt) rfl (b := p2.toInt) rfl (by omega))
              refine lv_ldc (v := 999999) hx hb hown (hwd _ wk_250) dX12_fly_73 ?_
              refine lv_icmp_le (tgt := 81) hx hb dX12_fly_75 (by decide) (fun c26766 => ?_) (fun c26766 => ?_)
              · skip
                have t26767 := cv_le (a := z26763.toInt) rfl (b := 999999) (by decide) c26766
                refine lv_iconst (v := 0) hx hb dX12_fly_81 (by decide) ?_
                refine lv_istore (lv' := [(4, .int 0), (0, .ref (g 0)), (1, .int p0), (2, .int p1), (3, .int p2)]) hx hb dX12_fly_82 hl (by decide) rfl (fun ls hl => ?_)
                have lp26768 : ∀ (n : Nat) (x4_lp26768 : Int32) (v_lp26768 : Nat → Int32) (F_lp26768 : Nat → Nat → Int32) (H : Heap) (locs : List Loc) (ls : Array Slot), (0 ≤ x4_lp26768.toInt) → (2147483648 - x4_lp26768.toInt ≤ (n : Int)) → (∀ k, k ∉ ([] : List Nat) → v_lp26768 k = v26746 k) → IM v_lp26768 F_lp26768 → (∀ k, k ∉ ([5, 6, 10, 14, 30, 31] : List Nat) → F_lp26768 k = F k) → va_P (dC, dI) classes (wM g c v_lp26768 F_lp26768 rc) H → va_S (AM g s.heap.size) s.heap H locs → lv_has ls 6 [(4, .int x4_lp26768), (0, .ref (g 0)), (1, .int p0), (2, .int p1), (3, .int p2)] → W p l e (headSpec (Cond.code yX12_fly cX12_fly 6 (some .int) :: wA) ({ frames := 6, cells := 0, slots := 0, locals := 240 })).room s m ([.ref (g 0), .int p0, .int p1, .int p2] : List Value).toArray below meth c0 H locs 0 0 (MQ below (va_Qi (fun (r : Int32) (u : StM) => IM u.1 u.2.1 ∧ u.2.2 = rc ∧ (∀ k, k ∉ ([] : List Nat) → u.1 k = v k) ∧ (∀ k, k ∉ ([5, 6, 10, 14, 30, 31] : List Nat) → u.2.1 k = F k) ∧ True) (BM dC dI g c) (AM g s.heap.size)) ([.ref (g 0), .int p0, .int p1, .int p2] : List Value).toArray s 0 0 (AM g s.heap.size)) (F0 m 84 ls []) := by
                  intro n
                  induction n with
                  | zero =>
                    intro x4_lp26768 v_lp26768 F_lp26768 H locs ls t26769 hm hf_lp26768 hI hF hP hS hl
                    exfalso
                    have := i32_rng x4_lp26768
                    have hI1 := hI.1
                    omega
                  | succ n ih_lp26768 =>
                    intro x4_lp26768 v_lp26768 F_lp26768 H locs ls t26769 hm hf_lp26768 hI hF hP hS hl
                    have rx4_lp26768 := i32_rng x4_lp26768
                    refine lv_iload hx hb dX12_fly_84 (lv_at hl 0 rfl) ?_
                    refine lv_aload_n hx hb dX12_fly_86 rfl (lv_at hl 1 rfl) ?_
                    refine va_get (D := (dC, dI)) (ci := 12) (v := .int (v_lp26768 14)) (C := RX12) (T := TX12) (N := 63) hx hb hwd inA_X12 hown hK hP 0 rfl rfl 14 (by decide) (hwd _ wk_318) (fun _ h9 => h9) rfl dX12_fly_87 ?_
                    refine my_top (v := v 14) ((hf_lp26768 14 (by decide)).trans (hf26748 14 (by decide))) ?_
                    have t26770 : 0 ≤ (v 14).toInt ∧ (v 14).toInt ≤ 100 := by have h9 := hI.1 14 _ _ rfl; rw [show v_lp26768 14 = v 14 from (hf_lp26768 14 (by decide)).trans (hf26748 14 (by decide))] at h9; exact h9
                    refine lv_icmp_ge (tgt := 147) hx hb dX12_fly_90 (by decide) (fun c26771 => ?_) (fun c26771 => ?_)
                    · skip
                      have t26772 := cv_le (a := (v 14).toInt) rfl (b := x4_lp26768.toInt) rfl c26771
                      refine lv_aload_n hx hb dX12_fly_147 rfl (lv_at hl 1 rfl) ?_
                      refine va_get (D := (dC, dI)) (ci := 12) (v := .ref (g 5)) (C := RX12) (T := TX12) (N := 63) hx hb hwd inA_X12 hown hK hP 0 rfl rfl 8 (by decide) (hwd _ wk_186) (fun _ h9 => h9) rfl dX12_fly_148 ?_
                      refine lv_iload_n hx hb dX12_fly_151 rfl (lv_at hl 2 rfl) ?_
                      refine lv_dup2_11 hx hb dX12_fly_152 rfl rfl ?_
                      refine va_iald hx hb hK hP 5 4 rfl rfl (i := p0) (vin (a := p0.toInt) rfl (by omega)) dX12_fly_153 ?_
                      refine lv_topi (fun z26773 e26774 => ?_)
                      refine lv_iload_n hx hb dX12_fly_154 rfl (lv_at hl 3 rfl) ?_
                      refine lv_iadd hx hb dX12_fly_155 ?_
                      refine lv_topi (fun z26775 e26776 => ?_)
                      try (have t26777 := tadd e26776 (a := z26773.toInt) rfl (b := p1.toInt) rfl (by omega))
                      refine va_iast hx hb hK hP (DM hg) hS 5 4 rfl rfl (i := p0) (x := z26775) (vin (a := p0.toInt) rfl (by omega)) dX12_fly_156 (fun H locs hP _ hS => ?_)
                      have hP := va_P_eq (sM_5 g c _ _ _ _) hP
                      have hI := IM.store0 hI 5 (p0 : Int32).toNatClampNeg z26775 rfl
                      have hF := frUF (k := 5) (f := upd (F_lp26768 5) (p0 : Int32).toNatClampNeg z26775) (by decide) hF
                      have hP : va_P (dC, dI) classes (wM g c v_lp26768 (va_up F_lp26768 5 (upd (F_lp26768 5) (p0 : Int32).toNatClampNeg z26775)) rc) H := hP
                      generalize (va_up F_lp26768 5 (upd (F_lp26768 5) (p0 : Int32).toNatClampNeg z26775)) = F26778 at hP hI hF
                      refine lv_aload_n hx hb dX12_fly_157 rfl (lv_at hl 1 rfl) ?_
                      refine va_get (D := (dC, dI)) (ci := 12) (v := .ref (g 6)) (C := RX12) (T := TX12) (N := 63) hx hb hwd inA_X12 hown hK hP 0 rfl rfl 9 (by decide) (hwd _ wk_187) (fun _ h9 => h9) rfl dX12_fly_158 ?_
                      refine lv_iload_n hx hb dX12_fly_161 rfl (lv_at hl 2 rfl) ?_
                      refine lv_dup2_11 hx hb dX12_fly_162 rfl rfl ?_
                      refine va_iald hx hb hK hP 6 5 rfl rfl (i := p0) (vin (a := p0.toInt) rfl (by omega)) dX12_fly_163 ?_
                      refine lv_topi (fun z26779 e26780 => ?_)
                      refine lv_iload_n hx hb dX12_fly_164 rfl (lv_at hl 4 rfl) ?_
                      refine lv_iadd hx hb dX12_fly_165 ?_
                      refine lv_topi (fun z26781 e26782 => ?_)
                      try (have t26783 := tadd e26782 (a := z26779.toInt) rfl (b := p2.toInt) rfl (by omega))
                      refine va_iast hx hb hK hP (DM hg) hS 6 5 rfl rfl (i := p0) (x := z26781) (vin (a := p0.toInt) rfl (by omega)) dX12_fly_166 (fun H locs hP _ hS => ?_)
                      have hP := va_P_eq (sM_6 g c _ _ _ _) hP
                      have hI := IM.store0 hI 6 (p0 : Int32).toNatClampNeg z26781 rfl
                      have hF := frUF (k := 6) (f := upd (F26778 6) (p0 : Int32).toNatClampNeg z26781) (by decide) hF
                      have hP : va_P (dC, dI) classes (wM g c v_lp26768 (va_up F26778 6 (upd (F26778 6) (p0 : Int32).toNatClampNeg z26781)) rc) H := hP
                      generalize (va_up F26778 6 (upd (F26778 6) (p0 : Int32).toNatClampNeg z26781)) = F26784 at hP hI hF
                      refine lv_iconst (v := 0) hx hb dX12_fly_167 (by decide) ?_
                      refine lv_istore (lv' := [(4, .int 0), (0, .ref (g 0)), (1, .int p0), (2, .int p1), (3, .int p2)]) hx hb dX12_fly_168 hl (by decide) rfl (fun ls hl => ?_)
                      have lp26785 : ∀ (n : Nat) (x4_lp26785 : Int32) (v_lp26785 : Nat → Int32) (F_lp26785 : Nat → Nat → Int32) (H : Heap) (locs : List Loc) (ls : Array Slot), (0 ≤ x4_lp26785.toInt) → (2147483648 - x4_lp26785.toInt ≤ (n : Int)) → (∀ k, k ∉ ([] : List Nat) → v_lp26785 k = v_lp26768 k) → IM v_lp26785 F_lp26785 → (∀ k, k ∉ ([5, 6, 10, 14, 30, 31] : List Nat) → F_lp26785 k = F k) → va_P (dC, dI) classes (wM g c v_lp26785 F_lp26785 rc) H → va_S (AM g s.heap.size) s.heap H locs → lv_has ls 6 [(4, .int x4_lp26785), (0, .ref (g 0)), (1, .int p0), (2, .int p1), (3, .int p2)] → W p l e (headSpec (Cond.code yX12_fly cX12_fly 6 (some .int) :: wA) ({ frames := 6, cells := 0, slots := 0, locals := 240 })).room s m ([.ref (g 0), .int p0, .int p1, .int p2] : List Value).toArray below meth c0 H locs 0 0 (MQ below (va_Qi (fun (r : Int32) (u : StM) => IM u.1 u.2.1 ∧ u.2.2 = rc ∧ (∀ k, k ∉ ([] : List Nat) → u.1 k = v k) ∧ (∀ k, k ∉ ([5, 6, 10, 14, 30, 31] : List Nat) → u.2.1 k = F k) ∧ True) (BM dC dI g c) (AM g s.heap.size)) ([.ref (g 0), .int p0, .int p1, .int p2] : List Value).toArray s 0 0 (AM g s.heap.size)) (F0 m 170 ls []) := by
                        intro n
                        induction n with
                        | zero =>
                          intro x4_lp26785 v_lp26785 F_lp26785 H locs ls t26786 hm hf_lp26785 hI hF hP hS hl
                          exfalso
                          have := i32_rng x4_lp26785
                          have hI1 := hI.1
                          omega
                        | succ n ih_lp26785 =>
                          intro x4_lp26785 v_lp26785 F_lp26785 H locs ls t26786 hm hf_lp26785 hI hF hP hS hl
                          have rx4_lp26785 := i32_rng x4_lp26785
                          refine lv_iload hx hb dX12_fly_170 (lv_at hl 0 rfl) ?_
                          refine lv_aload_n hx hb dX12_fly_172 rfl (lv_at hl 1 rfl) ?_
                          refine va_get (D := (dC, dI)) (ci := 12) (v := .int (v_lp26785 14)) (C := RX12) (T := TX12) (N := 63) hx hb hwd inA_X12 hown hK hP 0 rfl rfl 14 (by decide) (hwd _ wk_318) (fun _ h9 => h9) rfl dX12_fly_173 ?_
                          refine my_top (v := v 14) ((hf_lp26785 14 (by decide)).trans ((hf_lp26768 14 (by decide)).trans (hf26748 14 (by decide)))) ?_
                          have t26787 : 0 ≤ (v 14).toInt ∧ (v 14).toInt ≤ 100 := by have h9 := hI.1 14 _ _ rfl; rw [show v_lp26785 14 = v 14 from (hf_lp26785 14 (by decide)).trans ((hf_lp26768 14 (by decide)).trans (hf26748 14 (by decide)))] at h9; exact h9
                          refine lv_icmp_ge (tgt := 275) hx hb dX12_fly_176 (by decide) (fun c26788 => ?_) (fun c26788 => ?_)
                          · skip
                            have t26789 := cv_le (a := (v 14).toInt) rfl (b := x4_lp26785.toInt) rfl c26788
                            refine lv_aload_n hx hb dX12_fly_275 rfl (lv_at hl 1 rfl) ?_
                            refine va_get (D := (dC, dI)) (ci := 12) (v := .ref (g 5)) (C := RX12) (T := TX12) (N := 63) hx hb hwd inA_X12 hown hK hP 0 rfl rfl 8 (by decide) (hwd _ wk_186) (fun _ h9 => h9) rfl dX12_fly_276 ?_
                            refine lv_iload_n hx hb dX12_fly_279 rfl (lv_at hl 2 rfl) ?_
                            refine va_iald hx hb hK hP 5 4 rfl rfl (i := p0) (vin (a := p0.toInt) rfl (by omega)) dX12_fly_280 ?_
                            refine lv_topi (fun z26790 e26791 => ?_)
                            have hP9 : va_P (dC, dI) classes (wM g c v_lp26785 F_lp26785 rc) H := hP
                            exact W.iret (v := z26790) hx hb hr (fun t ht hW => ⟨⟨z26790, (v_lp26785, F_lp26785, rc), rfl, ⟨hI, rfl, (frC (by decide) hf_lp26785 (frC (by decide) hf_lp26768 (frC (by decide) hf26748 (fun _ _ => rfl)))), hF, trivial⟩, (by show va_P _ _ _ t.heap; rw [ht]; exact hP9)⟩, hS.F ht⟩) hS.2.2 dX12_fly_281
                          · skip
                            have t26792 := cv_nle (a := (v 14).toInt) rfl (b := x4_lp26785.toInt) rfl c26788
                            refine lv_aload_n hx hb dX12_fly_179 rfl (lv_at hl 1 rfl) ?_
                            refine va_get (D := (dC, dI)) (ci := 12) (v := .ref (g 13)) (C := RX12) (T := TX12) (N := 63) hx hb hwd inA_X12 hown hK hP 0 rfl rfl 17 (by decide) (hwd _ wk_194) (fun _ h9 => h9) rfl dX12_fly_180 ?_
                            refine lv_iload hx hb dX12_fly_183 (lv_at hl 0 rfl) ?_
                            refine va_iald hx hb hK hP 13 12 rfl rfl (i := x4_lp26785) (vin (a := x4_lp26785.toInt) rfl (by omega)) dX12_fly_185 ?_
                            refine lv_topi (fun z26793 e26794 => ?_)
                            have t26795 : 0 ≤ z26793.toInt ∧ z26793.toInt ≤ 12 := by rw [e26794]; exact hI.2 13 _ _ rfl _
                            have e26794 : z26793 = F 13 (x4_lp26785 : Int32).toNatClampNeg := e26794.trans (congrFun (hF 13 (by decide)) _)
                            refine lv_iload_n hx hb dX12_fly_186 rfl (lv_at hl 2 rfl) ?_
                            refine lv_icmp_eq (tgt := 193) hx hb dX12_fly_187 (by decide) (fun c26796 => ?_) (fun c26796 => ?_)
                            · skip
                              have t26797 := cv_eq (a := z26793.toInt) rfl (b := p0.toInt) rfl c26796
                              refine lv_aload_n hx hb dX12_fly_193 rfl (lv_at hl 1 rfl) ?_
                              refine va_get (D := (dC, dI)) (ci := 12) (v := .ref (g 14)) (C := RX12) (T := TX12) (N := 63) hx hb hwd inA_X12 hown hK hP 0 rfl rfl 18 (by decide) (hwd _ wk_195) (fun _ h9 => h9) rfl dX12_fly_194 ?_
                              refine lv_iconst (v := 3) hx hb dX12_fly_197 (by decide) ?_
                              refine lv_iload hx hb dX12_fly_198 (lv_at hl 0 rfl) ?_
                              refine lv_imul hx hb dX12_fly_200 ?_
                              refine lv_topi (fun z26798 e26799 => ?_)
                              try (have t26800 := tmul e26799 (a := 3) (by decide) (b := x4_lp26785.toInt) rfl (by omega))
                              refine lv_dup2_11 hx hb dX12_fly_201 rfl rfl ?_
                              refine va_iald hx hb hK hP 14 13 rfl rfl (i := z26798) (vin (a := z26798.toInt) rfl (by omega)) dX12_fly_202 ?_
                              refine lv_topi (fun z26801 e26802 => ?_)
                              refine lv_iload_n hx hb dX12_fly_203 rfl (lv_at hl 3 rfl) ?_
                              refine lv_iadd hx hb dX12_fly_204 ?_
                              refine lv_topi (fun z26803 e26804 => ?_)
                              try (have t26805 := tadd e26804 (a := z26801.toInt) rfl (b := p1.toInt) rfl (by omega))
                              refine va_iast hx hb hK hP (DM hg) hS 14 13 rfl rfl (i := z26798) (x := z26803) (vin (a := z26798.toInt) rfl (by omega)) dX12_fly_205 (fun H locs hP _ hS => ?_)
                              have hP := va_P_eq (sM_14 g c _ _ _ _) hP
                              have hI := IM.store0 hI 14 (z26798 : Int32).toNatClampNeg z26803 rfl
                              have hF := frUF (k := 14) (f := upd (F_lp26785 14) (z26798 : Int32).toNatClampNeg z26803) (by decide) hF
                              have hP : va_P (dC, dI) classes (wM g c v_lp26785 (va_up F_lp26785 14 (upd (F_lp26785 14) (z26798 : Int32).toNatClampNeg z26803)) rc) H := hP
                              generalize (va_up F_lp26785 14 (upd (F_lp26785 14) (z26798 : Int32).toNatClampNeg z26803)) = F26806 at hP hI hF
                              refine lv_aload_n hx hb dX12_fly_206 rfl (lv_at hl 1 rfl) ?_
                              refine va_get (D := (dC, dI)) (ci := 12) (v := .ref (g 14)) (C := RX12) (T := TX12) (N := 63) hx hb hwd inA_X12 hown hK hP 0 rfl rfl 18 (by decide) (hwd _ wk_195) (fun _ h9 => h9) rfl dX12_fly_207 ?_
                              refine lv_iconst (v := 3) hx hb dX12_fly_210 (by decide) ?_
                              refine lv_iload hx hb dX12_fly_211 (lv_at hl 0 rfl) ?_
                              refine lv_imul hx hb dX12_fly_213 ?_
                              refine lv_topi (fun z26807 e26808 => ?_)
                              try (have t26809 := tmul e26808 (a := 3) (by decide) (b := x4_lp26785.toInt) rfl (by omega))
                              refine lv_iconst (v := 1) hx hb dX12_fly_214 (by decide) ?_
                              refine lv_iadd hx hb dX12_fly_215 ?_
                              refine lv_topi (fun z26810 e26811 => ?_)
                              try (have t26812 := tadd e26811 (a := z26807.toInt) rfl (b := 1) (by decide) (by omega))
                              refine lv_dup2_11 hx hb dX12_fly_216 rfl rfl ?_
                              refine va_iald hx hb hK hP 14 13 rfl rfl (i := z26810) (vin (a := z26810.toInt) rfl (by omega)) dX12_fly_217 ?_
                              refine lv_topi (fun z26813 e26814 => ?_)
                              refine lv_iload_n hx hb dX12_fly_218 rfl (lv_at hl 4 rfl) ?_
                              refine lv_iadd hx hb dX12_fly_219 ?_
                              refine lv_topi (fun z26815 e26816 => ?_)
                              try (have t26817 := tadd e26816 (a := z26813.toInt) rfl (b := p2.toInt) rfl (by omega))
                              refine va_iast hx hb hK hP (DM hg) hS 14 13 rfl rfl (i := z26810) (x := z26815) (vin (a := z26810.toInt) rfl (by omega)) dX12_fly_220 (fun H locs hP _ hS => ?_)
                              have hP := va_P_eq (sM_14 g c _ _ _ _) hP
                              have hI := IM.store0 hI 14 (z26810 : Int32).toNatClampNeg z26815 rfl
                              have hF := frUF (k := 14) (f := upd (F26806 14) (z26810 : Int32).toNatClampNeg z26815) (by decide) hF
                              have hP : va_P (dC, dI) classes (wM g c v_lp26785 (va_up F26806 14 (upd (F26806 14) (z26810 : Int32).toNatClampNeg z26815)) rc) H := hP
                              generalize (va_up F26806 14 (upd (F26806 14) (z26810 : Int32).toNatClampNeg z26815)) = F26818 at hP hI hF
                              refine lv_bipush (v := 10) hx hb dX12_fly_221 (by decide) ?_
                              refine lv_iload_n hx hb dX12_fly_223 rfl (lv_at hl 2 rfl) ?_
                              refine lv_imul hx hb dX12_fly_224 ?_
                              refine lv_topi (fun z26819 e26820 => ?_)
                              try (have t26821 := tmul e26820 (a := 10) (by decide) (b := p0.toInt) rfl (by omega))
                              refine lv_aload_n hx hb dX12_fly_225 rfl (lv_at hl 1 rfl) ?_
                              refine va_get (D := (dC, dI)) (ci := 12) (v := .ref (g 11)) (C := RX12) (T := TX12) (N := 63) hx hb hwd inA_X12 hown hK hP 0 rfl rfl 15 (by decide) (hwd _ wk_192) (fun _ h9 => h9) rfl dX12_fly_226 ?_
                              refine lv_iload hx hb dX12_fly_229 (lv_at hl 0 rfl) ?_
                              refine va_iald hx hb hK hP 11 10 rfl rfl (i := x4_lp26785) (vin (a := x4_lp26785.toInt) rfl (by omega)) dX12_fly_231 ?_
                              refine lv_topi (fun z26822 e26823 => ?_)
                              have t26824 : 0 ≤ z26822.toInt ∧ z26822.toInt ≤ 9 := by rw [e26823]; exact hI.2 11 _ _ rfl _
                              have e26823 : z26822 = F 11 (x4_lp26785 : Int32).toNatClampNeg := e26823.trans (congrFun (hF 11 (by decide)) _)
                              refine lv_iadd hx hb dX12_fly_232 ?_
                              refine lv_topi (fun z26825 e26826 => ?_)
                              try (have t26827 := tadd e26826 (a := z26819.toInt) rfl (b := z26822.toInt) rfl (by omega))
                              refine lv_istore (lv' := [(5, .int z26825), (4, .int x4_lp26785), (0, .ref (g 0)), (1, .int p0), (2, .int p1), (3, .int p2)]) hx hb dX12_fly_233 hl (by decide) rfl (fun ls hl => ?_)
                              refine lv_aload_n hx hb dX12_fly_235 rfl (lv_at hl 2 rfl) ?_
                              refine va_get (D := (dC, dI)) (ci := 12) (v := .ref (g 10)) (C := RX12) (T := TX12) (N := 63) hx hb hwd inA_X12 hown hK hP 0 rfl rfl 13 (by decide) (hwd _ wk_191) (fun _ h9 => h9) rfl dX12_fly_236 ?_
                              refine lv_iload hx hb dX12_fly_239 (lv_at hl 0 rfl) ?_
                              refine lv_aload_n hx hb dX12_fly_241 rfl (lv_at hl 2 rfl) ?_
                              refine va_get (D := (dC, dI)) (ci := 12) (v := .ref (g 10)) (C := RX12) (T := TX12) (N := 63) hx hb hwd inA_X12 hown hK hP 0 rfl rfl 13 (by decide) (hwd _ wk_191) (fun _ h9 => h9) rfl dX12_fly_242 ?_
                              refine lv_iload hx hb dX12_fly_245 (lv_at hl 0 rfl) ?_
                              refine va_iald hx hb hK hP 10 9 rfl rfl (i := z26825) (vin (a := z26825.toInt) rfl (by omega)) dX12_fly_247 ?_
                              refine lv_topi (fun z26828 e26829 => ?_)
                              refine lv_i2l hx hb dX12_fly_248 rfl ?_
                              refine lv_topl (fun z26830 e26831 => ?_)
                              refine lv_iload_n hx hb dX12_fly_249 rfl (lv_at hl 4 rfl) ?_
                              refine lv_aload_n hx hb dX12_fly_250 rfl (lv_at hl 2 rfl) ?_
                              refine va_get (D := (dC, dI)) (ci := 12) (v := .ref (g 3)) (C := RX12) (T := TX12) (N := 63) hx hb hwd inA_X12 hown hK hP 0 rfl rfl 5 (by decide) (hwd _ wk_184) (fun _ h9 => h9) rfl dX12_fly_251 ?_
                              refine lv_aload_n hx hb dX12_fly_254 rfl (lv_at hl 2 rfl) ?_
                              refine va_get (D := (dC, dI)) (ci := 12) (v := .ref (g 11)) (C := RX12) (T := TX12) (N := 63) hx hb hwd inA_X12 hown hK hP 0 rfl rfl 15 (by decide) (hwd _ wk_192) (fun _ h9 => h9) rfl dX12_fly_255 ?_
                              refine lv_iload hx hb dX12_fly_258 (lv_at hl 1 rfl) ?_
                              refine va_iald hx hb hK hP 11 10 rfl rfl (i := x4_lp26785) (vin (a := x4_lp26785.toInt) rfl (by omega)) dX12_fly_260 ?_
                              refine lv_topi (fun z26832 e26833 => ?_)
                              have t26834 : 0 ≤ z26832.toInt ∧ z26832.toInt ≤ 9 := by rw [e26833]; exact hI.2 11 _ _ rfl _
                              have e26833 : z26832 = F 11 (x4_lp26785 : Int32).toNatClampNeg := e26833.trans (congrFun (hF 11 (by decide)) _)
                              refine va_iald hx hb hK hP 3 2 rfl rfl (i := z26832) (vin (a := z26832.toInt) rfl (by omega)) dX12_fly_261 ?_
                              refine lv_topi (fun z26835 e26836 => ?_)
                              have e26836 : z26835 = F 3 (z26832 : Int32).toNatClampNeg := e26836.trans (congrFun (hF 3 (by decide)) _)
                              refine lv_imul hx hb dX12_fly_262 ?_
                              refine lv_topi (fun z26837 e26838 => ?_)
                              try (have t26839 := tmul e26838 (a := p1.toInt) rfl (b := z26835.toInt) rfl (by omega))
                              refine lv_i2l hx hb dX12_fly_263 rfl ?_
                              refine lv_topl (fun z26840 e26841 => ?_)
                              refine lv_ladd hx hb dX12_fly_264 ?_
                              refine lv_topl (fun z26842 e26843 => ?_)
                              refine va_calli (va_runS (As := [.long z26842]) (rest := [.int z26825, .ref (g 10)]) ⟨hx, hb, hml, hown, hwd⟩ (c_X12_held l dC dI g c adK adV v_lp26785 F26818 rc H.size z26842 hg hI ) (va_cwS 1 hwd (gT wk_523 wk_521 wk_522 wk_5) rfl rfl rfl (by decide +kernel) ⟨Nat.le_of_ble_eq_true rfl, Nat.le_of_ble_eq_true rfl⟩) ⟨PM.blind, fun U hU hW => ⟨rfl, PM.at hK hE hP hS hU hW⟩⟩ rfl rfl hl.1 rfl (lv_room (Nat.le_of_ble_eq_true rfl)) dX12_fly_265 ⟨Nat.le_of_ble_eq_true rfl, Nat.le_of_ble_eq_true rfl⟩) hS (fun q _ h => (freeM hS) q h) (freeM hS) (fun r26844 u t H1 locs ht hvm hw hB hz1 hk1 hS => ?_)
                              unfold BM at hB
                              rw [ht] at hB
                              have hP : va_P (dC, dI) classes (wM g c v_lp26785 F26818 rc) H1 := hB
                              generalize H1 = H at hP hS ⊢
                              have rr_r26844 := i32_rng r26844
                              refine va_iast hx hb hK hP (DM hg) hS 10 9 rfl rfl (i := z26825) (x := r26844) (vin (a := z26825.toInt) rfl (by omega)) dX12_fly_268 (fun H locs hP _ hS => ?_)
                              have hP := va_P_eq (sM_10 g c _ _ _ _) hP
                              have hI := IM.store0 hI 10 (z26825 : Int32).toNatClampNeg r26844 rfl
                              have hF := frUF (k := 10) (f := upd (F26818 10) (z26825 : Int32).toNatClampNeg r26844) (by decide) hF
                              have hP : va_P (dC, dI) classes (wM g c v_lp26785 (va_up F26818 10 (upd (F26818 10) (z26825 : Int32).toNatClampNeg r26844)) rc) H := hP
                              generalize (va_up F26818 10 (upd (F26818 10) (z26825 : Int32).toNatClampNeg r26844)) = F26845 at hP hI hF
                              obtain ⟨z26846, e26847⟩ : ∃ y : Int32, y = x4_lp26785 + 1 := ⟨_, rfl⟩
                              try (have t26848 := tadd e26847 rfl (b := 1) (by decide) (by omega))
                              refine lv_iinc (v := z26846) (lv' := [(4, .int z26846), (5, .int z26825), (0, .ref (g 0)), (1, .int p0), (2, .int p1), (3, .int p2)]) hx hb dX12_fly_269 hl (k := 1) rfl (by rw [e26847]; rfl) (by decide) rfl (fun ls hl => ?_)
                              refine lv_goto (tgt := 170) hx hb dX12_fly_272 (by decide) ?_
                              exact ih_lp26785 z26846 v_lp26785 F26845 _ _ _ (by omega) (by omega) hf_lp26785 hI hF hP hS (lv_sub hl [0, 2, 3, 4, 5] rfl)
                            · skip
                              have t26849 := cv_ne (a := z26793.toInt) rfl (b := p0.toInt) rfl c26796
                              refine lv_goto (tgt := 269) hx hb dX12_fly_190 (by decide) ?_
                              obtain ⟨z26850, e26851⟩ : ∃ y : Int32, y = x4_lp26785 + 1 := ⟨_, rfl⟩
                              try (have t26852 := tadd e26851 rfl (b := 1) (by decide) (by omega))
                              refine lv_iinc (v := z26850) (lv' := [(4, .int z26850), (0, .ref (g 0)), (1, .int p0), (2, .int p1), (3, .int p2)]) hx hb dX12_fly_269 hl (k := 0) rfl (by rw [e26851]; rfl) (by decide) rfl (fun ls hl => ?_)
                              refine lv_goto (tgt := 170) hx hb dX12_fly_272 (by decide) ?_
                              exact ih_lp26785 z26850 v_lp26785 F_lp26785 _ _ _ (by omega) (by omega) hf_lp26785 hI hF hP hS (lv_sub hl [0, 1, 2, 3, 4] rfl)
                      obtain ⟨n9, hn9⟩ : ∃ n : Nat, 2147483648 - 0 ≤ (n : Int) := ⟨((2147483648 - 0 : Int)).toNat, by omega⟩
                      exact lp26785 n9 0 v_lp26768 F26784 H _ ls (by have : (0 : Int32).toInt = 0 := (by decide); omega) (by have : (0 : Int32).toInt = 0 := (by decide); omega) (fun _ _ => rfl) hI hF hP hS hl
                    · skip
                      have t26853 := cv_nle (a := (v 14).toInt) rfl (b := x4_lp26768.toInt) rfl c26771
                      refine lv_aload_n hx hb dX12_fly_93 rfl (lv_at hl 1 rfl) ?_
                      refine va_get (D := (dC, dI)) (ci := 12) (v := .ref (g 13)) (C := RX12) (T := TX12) (N := 63) hx hb hwd inA_X12 hown hK hP 0 rfl rfl 17 (by decide) (hwd _ wk_194) (fun _ h9 => h9) rfl dX12_fly_94 ?_
                      refine lv_iload hx hb dX12_fly_97 (lv_at hl 0 rfl) ?_
                      refine va_iald hx hb hK hP 13 12 rfl rfl (i := x4_lp26768) (vin (a := x4_lp26768.toInt) rfl (by omega)) dX12_fly_99 ?_
                      refine lv_topi (fun z26854 e26855 => ?_)
                      have t26856 : 0 ≤ z26854.toInt ∧ z26854.toInt ≤ 12 := by rw [e26855]; exact hI.2 13 _ _ rfl _
                      have e26855 : z26854 = F 13 (x4_lp26768 : Int32).toNatClampNeg := e26855.trans (congrFun (hF 13 (by decide)) _)
                      refine lv_iload_n hx hb dX12_fly_100 rfl (lv_at hl 2 rfl) ?_
                      refine lv_icmp_ne (tgt := 141) hx hb dX12_fly_101 (by decide) (fun c26857 => ?_) (fun c26857 => ?_)
                      · skip
                        have t26858 := cv_ne (a := z26854.toInt) rfl (b := p0.toInt) rfl c26857
                        obtain ⟨z26859, e26860⟩ : ∃ y : Int32, y = x4_lp26768 + 1 := ⟨_, rfl⟩
                        try (have t26861 := tadd e26860 rfl (b := 1) (by decide) (by omega))
                        refine lv_iinc (v := z26859) (lv' := [(4, .int z26859), (0, .ref (g 0)), (1, .int p0), (2, .int p1), (3, .int p2)]) hx hb dX12_fly_141 hl (k := 0) rfl (by rw [e26860]; rfl) (by decide) rfl (fun ls hl => ?_)
                        refine lv_goto (tgt := 84) hx hb dX12_fly_144 (by decide) ?_
                        exact ih_lp26768 z26859 v_lp26768 F_lp26768 _ _ _ (by omega) (by omega) hf_lp26768 hI hF hP hS (lv_sub hl [0, 1, 2, 3, 4] rfl)
                      · skip
                        have t26862 := cv_eq (a := z26854.toInt) rfl (b := p0.toInt) rfl c26857
                        refine lv_aload_n hx hb dX12_fly_104 rfl (lv_at hl 1 rfl) ?_
                        refine va_get (D := (dC, dI)) (ci := 12) (v := .ref (g 14)) (C := RX12) (T := TX12) (N := 63) hx hb hwd inA_X12 hown hK hP 0 rfl rfl 18 (by decide) (hwd _ wk_195) (fun _ h9 => h9) rfl dX12_fly_105 ?_
                        refine lv_iconst (v := 3) hx hb dX12_fly_108 (by decide) ?_
                        refine lv_iload hx hb dX12_fly_109 (lv_at hl 0 rfl) ?_
                        refine lv_imul hx hb dX12_fly_111 ?_
                        refine lv_topi (fun z26863 e26864 => ?_)
                        try (have t26865 := tmul e26864 (a := 3) (by decide) (b := x4_lp26768.toInt) rfl (by omega))
                        refine va_iald hx hb hK hP 14 13 rfl rfl (i := z26863) (vin (a := z26863.toInt) rfl (by omega)) dX12_fly_112 ?_
                        refine lv_topi (fun z26866 e26867 => ?_)
                        refine lv_iload_n hx hb dX12_fly_113 rfl (lv_at hl 3 rfl) ?_
                        refine lv_iadd hx hb dX12_fly_114 ?_
                        refine lv_topi (fun z26868 e26869 => ?_)
                        try (have t26870 := tadd e26869 (a := z26866.toInt) rfl (b := p1.toInt) rfl (by omega))
                        refine lv_ldc (v := 999999) hx hb hown (hwd _ wk_250) dX12_fly_115 ?_
                        refine lv_icmp_gt (tgt := 138) hx hb dX12_fly_117 (by decide) (fun c26871 => ?_) (fun c26871 => ?_)
                        · skip
                          have t26872 := cv_lt (a := 999999) (by decide) (b := z26868.toInt) rfl c26871
                          refine lv_bipush (v := (-2)) hx hb dX12_fly_138 (by decide) ?_
                          have hP9 : va_P (dC, dI) classes (wM g c v_lp26768 F_lp26768 rc) H := hP
                          exact W.iret (v := (-2)) hx hb hr (fun t ht hW => ⟨⟨(-2), (v_lp26768, F_lp26768, rc), rfl, ⟨hI, rfl, (frC (by decide) hf_lp26768 (frC (by decide) hf26748 (fun _ _ => rfl))), hF, trivial⟩, (by show va_P _ _ _ t.heap; rw [ht]; exact hP9)⟩, hS.F ht⟩) hS.2.2 dX12_fly_140
                        · skip
                          have t26873 := cv_nlt (a := 999999) (by decide) (b := z26868.toInt) rfl c26871
                          refine lv_aload_n hx hb dX12_fly_120 rfl (lv_at hl 1 rfl) ?_
                          refine va_get (D := (dC, dI)) (ci := 12) (v := .ref (g 14)) (C := RX12) (T := TX12) (N := 63) hx hb hwd inA_X12 hown hK hP 0 rfl rfl 18 (by decide) (hwd _ wk_195) (fun _ h9 => h9) rfl dX12_fly_121 ?_
                          refine lv_iconst (v := 3) hx hb dX12_fly_124 (by decide) ?_
                          refine lv_iload hx hb dX12_fly_125 (lv_at hl 0 rfl) ?_
                          refine lv_imul hx hb dX12_fly_127 ?_
                          refine lv_topi (fun z26874 e26875 => ?_)
                          try (have t26876 := tmul e26875 (a := 3) (by decide) (b := x4_lp26768.toInt) rfl (by omega))
                          refine lv_iconst (v := 1) hx hb dX12_fly_128 (by decide) ?_
                          refine lv_iadd hx hb dX12_fly_129 ?_
                          refine lv_topi (fun z26877 e26878 => ?_)
                          try (have t26879 := tadd e26878 (a := z26874.toInt) rfl (b := 1) (by decide) (by omega))
                          refine va_iald hx hb hK hP 14 13 rfl rfl (i := z26877) (vin (a := z26877.toInt) rfl (by omega)) dX12_fly_130 ?_
                          refine lv_topi (fun z26880 e26881 => ?_)
                          refine lv_iload_n hx hb dX12_fly_131 rfl (lv_at hl 4 rfl) ?_
                          refine lv_iadd hx hb dX12_fly_132 ?_
                          refine lv_topi (fun z26882 e26883 => ?_)
                          try (have t26884 := tadd e26883 (a := z26880.toInt) rfl (b := p2.toInt) rfl (by omega))
                          refine lv_ldc (v := 999999) hx hb hown (hwd _ wk_250) dX12_fly_133 ?_
                          refine lv_icmp_le (tgt := 141) hx hb dX12_fly_135 (by decide) (fun c26885 => ?_) (fun c26885 => ?_)
                          · skip
                            have t26886 := cv_le (a := z26882.toInt) rfl (b := 999999) (by decide) c26885
                            obtain ⟨z26887, e26888⟩ : ∃ y : Int32, y = x4_lp26768 + 1 := ⟨_, rfl⟩
                            try (have t26889 := tadd e26888 rfl (b := 1) (by decide) (by omega))
                            refine lv_iinc (v := z26887) (lv' := [(4, .int z26887), (0, .ref (g 0)), (1, .int p0), (2, .int p1), (3, .int p2)]) hx hb dX12_fly_141 hl (k := 0) rfl (by rw [e26888]; rfl) (by decide) rfl (fun ls hl => ?_)
                            refine lv_goto (tgt := 84) hx hb dX12_fly_144 (by decide) ?_
                            exact ih_lp26768 z26887 v_lp26768 F_lp26768 _ _ _ (by omega) (by omega) hf_lp26768 hI hF hP hS (lv_sub hl [0, 1, 2, 3, 4] rfl)
                          · skip
                            have t26890 := cv_nle (a := z26882.toInt) rfl (b := 999999) (by decide) c26885
                            refine lv_bipush (v := (-2)) hx hb dX12_fly_138 (by decide) ?_
                            have hP9 : va_P (dC, dI) classes (wM g c v_lp26768 F_lp26768 rc) H := hP
                            exact W.iret (v := (-2)) hx hb hr (fun t ht hW => ⟨⟨(-2), (v_lp26768, F_lp26768, rc), rfl, ⟨hI, rfl, (frC (by decide) hf_lp26768 (frC (by decide) hf26748 (fun _ _ => rfl))), hF, trivial⟩, (by show va_P _ _ _ t.heap; rw [ht]; exact hP9)⟩, hS.F ht⟩) hS.2.2 dX12_fly_140
                obtain ⟨n9, hn9⟩ : ∃ n : Nat, 2147483648 - 0 ≤ (n : Int) := ⟨((2147483648 - 0 : Int)).toNat, by omega⟩
                exact lp26768 n9 0 v26746 F26747 H _ ls (by have : (0 : Int32).toInt = 0 := (by decide); omega) (by have : (0 : Int32).toInt = 0 := (by decide); omega) (fun _ _ => rfl) hI hF hP hS hl
              · skip
                have t26891 := cv_nle (a := z26763.toInt) rfl (b := 999999) (by decide) c26766
                refine lv_bipush (v := (-2)) hx hb dX12_fly_78 (by decide) ?_
                have hP9 : va_P (dC, dI) classes (wM g c v26746 F26747 rc) H := hP
                exact W.iret (v := (-2)) hx hb hr (fun t ht hW => ⟨⟨(-2), (v26746, F26747, rc), rfl, ⟨hI, rfl, (frC (by decide) hf26748 (fun _ _ => rfl)), hF, trivial⟩, (by show va_P _ _ _ t.heap; rw [ht]; exact hP9)⟩, hS.F ht⟩) hS.2.2 dX12_fly_80
      · skip
        have t26892 := cv_eq (a := r26735.toInt) rfl (b := 0) (by decide) c26738
        refine lv_iconst (v := (-1)) hx hb dX12_fly_30 (by decide) ?_
        have hP9 : va_P (dC, dI) classes (wM g c v F rc) H := hP
        exact W.iret (v := (-1)) hx hb hr (fun t ht hW => ⟨⟨(-1), (v, F, rc), rfl, ⟨hI, rfl, (fun _ _ => rfl), hF, trivial⟩, (by show va_P _ _ _ t.heap; rw [ht]; exact hP9)⟩, hS.F ht⟩) hS.2.2 dX12_fly_31
set_option maxHeartbeats 8000000 in
set_option maxRecDepth 100000 in
theorem c_X12_ofPlane (l : Launch) (dC : Nat → ClassId) (dI : Nat → Nat → Nat) (g : Nat → Nat) (c : Nat → ClassId) (adK adV : Nat → Nat) (v : Nat → Int32) (F : Nat → Nat → Int32) (rc sz : Nat) (p0 : Int32) (p1 : Int32) (hg : injM g) (hI : IM v F) : Met l yX12_ofPlane (Cond.code yX12_ofPlane cX12_ofPlane 5 (some .int) :: wA) ({ frames := 3, cells := 0, slots := 0, locals := 120 }) (va_Pc [.ref (g 0), .int p0, .int p1] (PM dC dI g c adK adV v F rc sz)) (va_Qi (fun (r : Int32) (u : Unit) => True) (fun (_ : Unit) => BM dC dI g c (v, F, rc)) (AM g sz)) 0 0 (AM g sz) := by
  refine Met.ofW (cc := cX12_ofPlane) (maxL := 5) (ret := (some .int)) (by decide) rfl ?_
  intro p e s m args below meth c0 s₁ B hml hv
  obtain ⟨rfl, hsz, hP, hK, hE⟩ := hv
  have hx := B.exec
  have hb := B.bytes
  have hr := B.returns
  have hts := atoms_spec (ws := Cond.code yX12_ofPlane cX12_ofPlane 5 (some .int) :: wA) B.pre
  have hwd : ∀ w ∈ wA, w.before _ s = true := fun w h => hts w (List.mem_cons_of_mem _ h)
  have hown : s.vm.findClass RX12 = some m.cls := findClass_of_methodNamed B.named
  have hlocks := B.notSynchronized
  subst hsz
  have hl := lv_entry ([.ref (g 0), .int p0, .int p1]) (n := 5) (Nat.le_of_ble_eq_true rfl)
  rw [lg_entry_eq]
  generalize (lg_sl ([.ref (g 0), .int p0, .int p1]) ++ List.replicate (5 - (lg_sl ([.ref (g 0), .int p0, .int p1])).length) Slot.unset).toArray = ls at hl ⊢
  have hl : lv_has ls 5 [(0, .ref (g 0)), (1, .int p0), (2, .int p1)] := hl
  obtain ⟨H, eH⟩ : ∃ z, z = s.heap := ⟨_, rfl⟩
  have hP : va_P (dC, dI) classes (wM g c v F rc) H := by rw [eH]; exact hP
  have hS : va_S (AM g s.heap.size) s.heap H [] := by rw [eH]; exact va_S.rf
  refine my_heap eH ?_
  have rp0 := i32_rng p0
  have rp1 := i32_rng p1
  refine lv_aload_n hx hb dX12_ofPlane_0 rfl (lv_at hl 0 rfl) ?_
  refine lv_iload_n hx hb dX12_ofPlane_1 rfl (lv_at hl 1 rfl) ?_
  have t26893 : 0 ≤ (v 6).toInt ∧ (v 6).toInt ≤ 10 := hI.1 6 _ _ rfl
  refine va_calli (va_runV (As := [.int p0]) (rest := []) ⟨hx, hb, hml, hown, hwd⟩ (c_X12_isPlane l dC dI g c adK adV v F rc H.size p0 hg hI ) (cwV 1 hwd (gV wk_305 wk_302 wk_303 wk_304 wk_5) rfl rfl rfl (by decide +kernel) ⟨Nat.le_of_ble_eq_true rfl, Nat.le_of_ble_eq_true rfl⟩) ⟨PM.blind, va_recv hK hP (ci := 12) (q0 := 0) rfl rfl, fun U hU hW => ⟨rfl, PM.at hK hE hP hS hU hW⟩⟩ rfl rfl hl.1 rfl (lv_room (Nat.le_of_ble_eq_true rfl)) dX12_ofPlane_2 ⟨Nat.le_of_ble_eq_true rfl, Nat.le_of_ble_eq_true rfl⟩) hS (fun q _ h => (freeM hS) q h) (freeM hS) (fun r26894 u t H1 locs ht hvm hw hB hz1 hk1 hS => ?_)
  unfold BM at hB
  rw [ht] at hB
  have hP : va_P (dC, dI) classes (wM g c v F rc) H1 := hB
  have hw : (r26894.toInt = 1 ∧ 0 ≤ p0.toInt ∧ p0.toInt < (v 6).toInt) ∨ (r26894.toInt = 0 ∧ (p0.toInt < 0 ∨ (v 6).toInt ≤ p0.toInt)) := hw
  have hw_r26894 := hw
  generalize H1 = H at hP hS ⊢
  refine lv_if_ne (tgt := 11) hx hb dX12_ofPlane_5 (by decide) (fun c26895 => ?_) (fun c26895 => ?_)
  · skip
    have t26896 := cv_ne (a := r26894.toInt) rfl (b := 0) (by decide) c26895
    refine lv_iconst (v := 0) hx hb dX12_ofPlane_11 (by decide) ?_
    refine lv_istore_n (lv' := [(3, .int 0), (0, .ref (g 0)), (1, .int p0), (2, .int p1)]) hx hb dX12_ofPlane_12 rfl hl (by decide) rfl (fun ls hl => ?_)
    refine lv_iload_n hx hb dX12_ofPlane_13 rfl (lv_at hl 3 rfl) ?_
    by_cases hlo26897 : p1.toInt < 0
    · refine lv_tableOut (tgt := 166) hx hb dX12_ofPlane_14 (Or.inl hlo26897) (by decide) ?_
      refine lv_ldc (v := (-2000000000)) hx hb hown (hwd _ wk_542) dX12_ofPlane_166 ?_
      have hP9 : va_P (dC, dI) classes (wM g c v F rc) H := hP
      exact W.iret (v := (-2000000000)) hx hb hr (fun t ht hW => ⟨⟨(-2000000000), (), rfl, trivial, (by show va_P _ _ _ t.heap; rw [ht]; exact hP9)⟩, hS.F ht⟩) hS.2.2 dX12_ofPlane_168
    by_cases hhi26898 : 8 < p1.toInt
    · refine lv_tableOut (tgt := 166) hx hb dX12_ofPlane_14 (Or.inr hhi26898) (by decide) ?_
      refine lv_ldc (v := (-2000000000)) hx hb hown (hwd _ wk_542) dX12_ofPlane_166 ?_
      have hP9 : va_P (dC, dI) classes (wM g c v F rc) H := hP
      exact W.iret (v := (-2000000000)) hx hb hr (fun t ht hW => ⟨⟨(-2000000000), (), rfl, trivial, (by show va_P _ _ _ t.heap; rw [ht]; exact hP9)⟩, hS.F ht⟩) hS.2.2 dX12_ofPlane_168
    rcases (show p1.toInt = 0 ∨ p1.toInt = 1 ∨ p1.toInt = 2 ∨ p1.toInt = 3 ∨ p1.toInt = 4 ∨ p1.toInt = 5 ∨ p1.toInt = 6 ∨ p1.toInt = 7 ∨ p1.toInt = 8 by omega) with hk | hk | hk | hk | hk | hk | hk | hk | hk
    · refine lv_tableIn (off := 50) (tgt := 64) hx hb dX12_ofPlane_14 hlo26897 hhi26898 (by rw [hk]; decide) (by decide) ?_
      refine lv_aload_n hx hb dX12_ofPlane_64 rfl (lv_at hl 1 rfl) ?_
      refine va_get (D := (dC, dI)) (ci := 12) (v := .ref (g 5)) (C := RX12) (T := TX12) (N := 63) hx hb hwd inA_X12 hown hK hP 0 rfl rfl 8 (by decide) (hwd _ wk_186) (fun _ h9 => h9) rfl dX12_ofPlane_65 ?_
      refine lv_iload_n hx hb dX12_ofPlane_68 rfl (lv_at hl 2 rfl) ?_
      refine va_iald hx hb hK hP 5 4 rfl rfl (i := p0) (vin (a := p0.toInt) rfl (by omega)) dX12_ofPlane_69 ?_
      refine lv_topi (fun z26899 e26900 => ?_)
      have hP9 : va_P (dC, dI) classes (wM g c v F rc) H := hP
      exact W.iret (v := z26899) hx hb hr (fun t ht hW => ⟨⟨z26899, (), rfl, trivial, (by show va_P _ _ _ t.heap; rw [ht]; exact hP9)⟩, hS.F ht⟩) hS.2.2 dX12_ofPlane_70
    · refine lv_tableIn (off := 57) (tgt := 71) hx hb dX12_ofPlane_14 hlo26897 hhi26898 (by rw [hk]; decide) (by decide) ?_
      refine lv_aload_n hx hb dX12_ofPlane_71 rfl (lv_at hl 1 rfl) ?_
      refine va_get (D := (dC, dI)) (ci := 12) (v := .ref (g 6)) (C := RX12) (T := TX12) (N := 63) hx hb hwd inA_X12 hown hK hP 0 rfl rfl 9 (by decide) (hwd _ wk_187) (fun _ h9 => h9) rfl dX12_ofPlane_72 ?_
      refine lv_iload_n hx hb dX12_ofPlane_75 rfl (lv_at hl 2 rfl) ?_
      refine va_iald hx hb hK hP 6 5 rfl rfl (i := p0) (vin (a := p0.toInt) rfl (by omega)) dX12_ofPlane_76 ?_
      refine lv_topi (fun z26901 e26902 => ?_)
      have hP9 : va_P (dC, dI) classes (wM g c v F rc) H := hP
      exact W.iret (v := z26901) hx hb hr (fun t ht hW => ⟨⟨z26901, (), rfl, trivial, (by show va_P _ _ _ t.heap; rw [ht]; exact hP9)⟩, hS.F ht⟩) hS.2.2 dX12_ofPlane_77
    · refine lv_tableIn (off := 64) (tgt := 78) hx hb dX12_ofPlane_14 hlo26897 hhi26898 (by rw [hk]; decide) (by decide) ?_
      refine lv_aload_n hx hb dX12_ofPlane_78 rfl (lv_at hl 1 rfl) ?_
      refine lv_iload_n hx hb dX12_ofPlane_79 rfl (lv_at hl 2 rfl) ?_
      refine va_calli (va_runV (As := [.int p0]) (rest := []) ⟨hx, hb, hml, hown, hwd⟩ (c_X12_isReturned l dC dI g c adK adV v F rc H.size p0 hg hI (by omega)) (cwV 1 hwd (gV wk_313 wk_310 wk_311 wk_312 wk_5) rfl rfl rfl (by decide +kernel) ⟨Nat.le_of_ble_eq_true rfl, Nat.le_of_ble_eq_true rfl⟩) ⟨PM.blind, va_recv hK hP (ci := 12) (q0 := 0) rfl rfl, fun U hU hW => ⟨rfl, PM.at hK hE hP hS hU hW⟩⟩ rfl rfl hl.1 rfl (lv_room (Nat.le_of_ble_eq_true rfl)) dX12_ofPlane_80 ⟨Nat.le_of_ble_eq_true rfl, Nat.le_of_ble_eq_true rfl⟩) hS (fun q _ h => (freeM hS) q h) (freeM hS) (fun r26903 u t H1 locs ht hvm hw hB hz1 hk1 hS => ?_)
      unfold BM at hB
      rw [ht] at hB
      have hP : va_P (dC, dI) classes (wM g c v F rc) H1 := hB
      have hw : 0 ≤ r26903.toInt ∧ r26903.toInt ≤ 1 := hw
      have hw_r26903 := hw
      generalize H1 = H at hP hS ⊢
      refine lv_if_eq (tgt := 90) hx hb dX12_ofPlane_83 (by decide) (fun c26904 => ?_) (fun c26904 => ?_)
      · skip
        have t26905 := cv_eq (a := r26903.toInt) rfl (b := 0) (by decide) c26904
        refine lv_iconst (v := 0) hx hb dX12_ofPlane_90 (by decide) ?_
        have hP9 : va_P (dC, dI) classes (wM g c v F rc) H := hP
        exact W.iret (v := 0) hx hb hr (fun t ht hW => ⟨⟨0, (), rfl, trivial, (by show va_P _ _ _ t.heap; rw [ht]; exact hP9)⟩, hS.F ht⟩) hS.2.2 dX12_ofPlane_91
      · skip
        have t26906 := cv_ne (a := r26903.toInt) rfl (b := 0) (by decide) c26904
        refine lv_iconst (v := 1) hx hb dX12_ofPlane_86 (by decide) ?_
        refine lv_goto (tgt := 91) hx hb dX12_ofPlane_87 (by decide) ?_
        have hP9 : va_P (dC, dI) classes (wM g c v F rc) H := hP
        exact W.iret (v := 1) hx hb hr (fun t ht hW => ⟨⟨1, (), rfl, trivial, (by show va_P _ _ _ t.heap; rw [ht]; exact hP9)⟩, hS.F ht⟩) hS.2.2 dX12_ofPlane_91
    · refine lv_tableIn (off := 78) (tgt := 92) hx hb dX12_ofPlane_14 hlo26897 hhi26898 (by rw [hk]; decide) (by decide) ?_
      refine lv_iconst (v := 0) hx hb dX12_ofPlane_92 (by decide) ?_
      refine lv_istore (lv' := [(4, .int 0), (3, .int 0), (0, .ref (g 0)), (1, .int p0), (2, .int p1)]) hx hb dX12_ofPlane_93 hl (by decide) rfl (fun ls hl => ?_)
      have lp26907 : ∀ (n : Nat) (x4_lp26907 : Int32) (x3_lp26907 : Int32) (H : Heap) (locs : List Loc) (ls : Array Slot), (0 ≤ x4_lp26907.toInt) → (2147483648 - x4_lp26907.toInt ≤ (n : Int)) → va_P (dC, dI) classes (wM g c v F rc) H → va_S (AM g s.heap.size) s.heap H locs → lv_has ls 5 [(4, .int x4_lp26907), (3, .int x3_lp26907), (0, .ref (g 0)), (1, .int p0), (2, .int p1)] → W p l e (headSpec (Cond.code yX12_ofPlane cX12_ofPlane 5 (some .int) :: wA) ({ frames := 3, cells := 0, slots := 0, locals := 120 })).room s m ([.ref (g 0), .int p0, .int p1] : List Value).toArray below meth c0 H locs 0 0 (MQ below (va_Qi (fun (r : Int32) (u : Unit) => True) (fun (_ : Unit) => BM dC dI g c (v, F, rc)) (AM g s.heap.size)) ([.ref (g 0), .int p0, .int p1] : List Value).toArray s 0 0 (AM g s.heap.size)) (F0 m 95 ls []) := by
        intro n
        induction n with
        | zero =>
          intro x4_lp26907 x3_lp26907 H locs ls t26908 hm hP hS hl
          exfalso
          have := i32_rng x4_lp26907
          have := i32_rng x3_lp26907
          omega
        | succ n ih_lp26907 =>
          intro x4_lp26907 x3_lp26907 H locs ls t26908 hm hP hS hl
          have rx4_lp26907 := i32_rng x4_lp26907
          have rx3_lp26907 := i32_rng x3_lp26907
          refine lv_iload hx hb dX12_ofPlane_95 (lv_at hl 0 rfl) ?_
          refine lv_aload_n hx hb dX12_ofPlane_97 rfl (lv_at hl 2 rfl) ?_
          refine va_get (D := (dC, dI)) (ci := 12) (v := .int (v 14)) (C := RX12) (T := TX12) (N := 63) hx hb hwd inA_X12 hown hK hP 0 rfl rfl 14 (by decide) (hwd _ wk_318) (fun _ h9 => h9) rfl dX12_ofPlane_98 ?_
          have t26909 : 0 ≤ (v 14).toInt ∧ (v 14).toInt ≤ 100 := hI.1 14 _ _ rfl
          refine lv_icmp_ge (tgt := 129) hx hb dX12_ofPlane_101 (by decide) (fun c26910 => ?_) (fun c26910 => ?_)
          · skip
            have t26911 := cv_le (a := (v 14).toInt) rfl (b := x4_lp26907.toInt) rfl c26910
            refine lv_iload_n hx hb dX12_ofPlane_129 rfl (lv_at hl 1 rfl) ?_
            have hP9 : va_P (dC, dI) classes (wM g c v F rc) H := hP
            exact W.iret (v := x3_lp26907) hx hb hr (fun t ht hW => ⟨⟨x3_lp26907, (), rfl, trivial, (by show va_P _ _ _ t.heap; rw [ht]; exact hP9)⟩, hS.F ht⟩) hS.2.2 dX12_ofPlane_130
          · skip
            have t26912 := cv_nle (a := (v 14).toInt) rfl (b := x4_lp26907.toInt) rfl c26910
            refine lv_iload_n hx hb dX12_ofPlane_104 rfl (lv_at hl 1 rfl) ?_
            refine lv_aload_n hx hb dX12_ofPlane_105 rfl (lv_at hl 2 rfl) ?_
            refine va_get (D := (dC, dI)) (ci := 12) (v := .ref (g 13)) (C := RX12) (T := TX12) (N := 63) hx hb hwd inA_X12 hown hK hP 0 rfl rfl 17 (by decide) (hwd _ wk_194) (fun _ h9 => h9) rfl dX12_ofPlane_106 ?_
            refine lv_iload hx hb dX12_ofPlane_109 (lv_at hl 0 rfl) ?_
            refine va_iald hx hb hK hP 13 12 rfl rfl (i := x4_lp26907) (vin (a := x4_lp26907.toInt) rfl (by omega)) dX12_ofPlane_111 ?_
            refine lv_topi (fun z26913 e26914 => ?_)
            have t26915 : 0 ≤ z26913.toInt ∧ z26913.toInt ≤ 12 := by rw [e26914]; exact hI.2 13 _ _ rfl _
            refine lv_iload_n hx hb dX12_ofPlane_112 rfl (lv_at hl 3 rfl) ?_
            refine lv_icmp_ne (tgt := 120) hx hb dX12_ofPlane_113 (by decide) (fun c26916 => ?_) (fun c26916 => ?_)
            · skip
              have t26917 := cv_ne (a := z26913.toInt) rfl (b := p0.toInt) rfl c26916
              refine lv_iconst (v := 0) hx hb dX12_ofPlane_120 (by decide) ?_
              refine lv_iadd hx hb dX12_ofPlane_121 ?_
              refine lv_topi (fun z26918 e26919 => ?_)
              try (have t26920 := tadd e26919 (a := x3_lp26907.toInt) rfl (b := 0) (by decide) (by omega))
              refine lv_istore_n (lv' := [(3, .int z26918), (4, .int x4_lp26907), (0, .ref (g 0)), (1, .int p0), (2, .int p1)]) hx hb dX12_ofPlane_122 rfl hl (by decide) rfl (fun ls hl => ?_)
              obtain ⟨z26921, e26922⟩ : ∃ y : Int32, y = x4_lp26907 + 1 := ⟨_, rfl⟩
              try (have t26923 := tadd e26922 rfl (b := 1) (by decide) (by omega))
              refine lv_iinc (v := z26921) (lv' := [(4, .int z26921), (3, .int z26918), (0, .ref (g 0)), (1, .int p0), (2, .int p1)]) hx hb dX12_ofPlane_123 hl (k := 1) rfl (by rw [e26922]; rfl) (by decide) rfl (fun ls hl => ?_)
              refine lv_goto (tgt := 95) hx hb dX12_ofPlane_126 (by decide) ?_
              exact ih_lp26907 z26921 z26918  _ _ _ (by omega) (by omega) hP hS (lv_sub hl [0, 1, 2, 3, 4] rfl)
            · skip
              have t26924 := cv_eq (a := z26913.toInt) rfl (b := p0.toInt) rfl c26916
              refine lv_iconst (v := 1) hx hb dX12_ofPlane_116 (by decide) ?_
              refine lv_goto (tgt := 121) hx hb dX12_ofPlane_117 (by decide) ?_
              refine lv_iadd hx hb dX12_ofPlane_121 ?_
              refine lv_topi (fun z26925 e26926 => ?_)
              try (have t26927 := tadd e26926 (a := x3_lp26907.toInt) rfl (b := 1) (by decide) (by omega))
              refine lv_istore_n (lv' := [(3, .int z26925), (4, .int x4_lp26907), (0, .ref (g 0)), (1, .int p0), (2, .int p1)]) hx hb dX12_ofPlane_122 rfl hl (by decide) rfl (fun ls hl => ?_)
              obtain ⟨z26928, e26929⟩ : ∃ y : Int32, y = x4_lp26907 + 1 := ⟨_, rfl⟩
              try (have t26930 := tadd e26929 rfl (b := 1) (by decide) (by omega))
              refine lv_iinc (v := z26928) (lv' := [(4, .int z26928), (3, .int z26925), (0, .ref (g 0)), (1, .int p0), (2, .int p1)]) hx hb dX12_ofPlane_123 hl (k := 1) rfl (by rw [e26929]; rfl) (by decide) rfl (fun ls hl => ?_)
              refine lv_goto (tgt := 95) hx hb dX12_ofPlane_126 (by decide) ?_
              exact ih_lp26907 z26928 z26925  _ _ _ (by omega) (by omega) hP hS (lv_sub hl [0, 1, 2, 3, 4] rfl)
      obtain ⟨n9, hn9⟩ : ∃ n : Nat, 2147483648 - 0 ≤ (n : Int) := ⟨((2147483648 - 0 : Int)).toNat, by omega⟩
      exact lp26907 n9 0 0  H _ ls (by have : (0 : Int32).toInt = 0 := (by decide); have : (0 : Int32).toInt = 0 := (by decide); omega) (by have : (0 : Int32).toInt = 0 := (by decide); have : (0 : Int32).toInt = 0 := (by decide); omega) hP hS hl
    · refine lv_tableIn (off := 117) (tgt := 131) hx hb dX12_ofPlane_14 hlo26897 hhi26898 (by rw [hk]; decide) (by decide) ?_
      refine lv_aload_n hx hb dX12_ofPlane_131 rfl (lv_at hl 1 rfl) ?_
      refine va_get (D := (dC, dI)) (ci := 12) (v := .ref (g 4)) (C := RX12) (T := TX12) (N := 63) hx hb hwd inA_X12 hown hK hP 0 rfl rfl 7 (by decide) (hwd _ wk_185) (fun _ h9 => h9) rfl dX12_ofPlane_132 ?_
      refine lv_iload_n hx hb dX12_ofPlane_135 rfl (lv_at hl 2 rfl) ?_
      refine va_iald hx hb hK hP 4 3 rfl rfl (i := p0) (vin (a := p0.toInt) rfl (by omega)) dX12_ofPlane_136 ?_
      refine lv_topi (fun z26931 e26932 => ?_)
      have hP9 : va_P (dC, dI) classes (wM g c v F rc) H := hP
      exact W.iret (v := z26931) hx hb hr (fun t ht hW => ⟨⟨z26931, (), rfl, trivial, (by show va_P _ _ _ t.heap; rw [ht]; exact hP9)⟩, hS.F ht⟩) hS.2.2 dX12_ofPlane_137
    · refine lv_tableIn (off := 124) (tgt := 138) hx hb dX12_ofPlane_14 hlo26897 hhi26898 (by rw [hk]; decide) (by decide) ?_
      refine lv_aload_n hx hb dX12_ofPlane_138 rfl (lv_at hl 1 rfl) ?_
      refine va_get (D := (dC, dI)) (ci := 12) (v := .ref (g 7)) (C := RX12) (T := TX12) (N := 63) hx hb hwd inA_X12 hown hK hP 0 rfl rfl 10 (by decide) (hwd _ wk_188) (fun _ h9 => h9) rfl dX12_ofPlane_139 ?_
      refine lv_iload_n hx hb dX12_ofPlane_142 rfl (lv_at hl 2 rfl) ?_
      refine va_iald hx hb hK hP 7 6 rfl rfl (i := p0) (vin (a := p0.toInt) rfl (by omega)) dX12_ofPlane_143 ?_
      refine lv_topi (fun z26933 e26934 => ?_)
      have hP9 : va_P (dC, dI) classes (wM g c v F rc) H := hP
      exact W.iret (v := z26933) hx hb hr (fun t ht hW => ⟨⟨z26933, (), rfl, trivial, (by show va_P _ _ _ t.heap; rw [ht]; exact hP9)⟩, hS.F ht⟩) hS.2.2 dX12_ofPlane_144
    · refine lv_tableIn (off := 131) (tgt := 145) hx hb dX12_ofPlane_14 hlo26897 hhi26898 (by rw [hk]; decide) (by decide) ?_
      refine lv_aload_n hx hb dX12_ofPlane_145 rfl (lv_at hl 1 rfl) ?_
      refine va_get (D := (dC, dI)) (ci := 12) (v := .ref (g 8)) (C := RX12) (T := TX12) (N := 63) hx hb hwd inA_X12 hown hK hP 0 rfl rfl 11 (by decide) (hwd _ wk_189) (fun _ h9 => h9) rfl dX12_ofPlane_146 ?_
      refine lv_iload_n hx hb dX12_ofPlane_149 rfl (lv_at hl 2 rfl) ?_
      refine va_iald hx hb hK hP 8 7 rfl rfl (i := p0) (vin (a := p0.toInt) rfl (by omega)) dX12_ofPlane_150 ?_
      refine lv_topi (fun z26935 e26936 => ?_)
      have hP9 : va_P (dC, dI) classes (wM g c v F rc) H := hP
      exact W.iret (v := z26935) hx hb hr (fun t ht hW => ⟨⟨z26935, (), rfl, trivial, (by show va_P _ _ _ t.heap; rw [ht]; exact hP9)⟩, hS.F ht⟩) hS.2.2 dX12_ofPlane_151
    · refine lv_tableIn (off := 138) (tgt := 152) hx hb dX12_ofPlane_14 hlo26897 hhi26898 (by rw [hk]; decide) (by decide) ?_
      refine lv_aload_n hx hb dX12_ofPlane_152 rfl (lv_at hl 1 rfl) ?_
      refine va_get (D := (dC, dI)) (ci := 12) (v := .ref (g 35)) (C := RX12) (T := TX12) (N := 63) hx hb hwd inA_X12 hown hK hP 0 rfl rfl 49 (by decide) (hwd _ wk_217) (fun _ h9 => h9) rfl dX12_ofPlane_153 ?_
      refine lv_iload_n hx hb dX12_ofPlane_156 rfl (lv_at hl 2 rfl) ?_
      refine va_iald hx hb hK hP 35 34 rfl rfl (i := p0) (vin (a := p0.toInt) rfl (by omega)) dX12_ofPlane_157 ?_
      refine lv_topi (fun z26937 e26938 => ?_)
      have hP9 : va_P (dC, dI) classes (wM g c v F rc) H := hP
      exact W.iret (v := z26937) hx hb hr (fun t ht hW => ⟨⟨z26937, (), rfl, trivial, (by show va_P _ _ _ t.heap; rw [ht]; exact hP9)⟩, hS.F ht⟩) hS.2.2 dX12_ofPlane_158
    · refine lv_tableIn (off := 145) (tgt := 159) hx hb dX12_ofPlane_14 hlo26897 hhi26898 (by rw [hk]; decide) (by decide) ?_
      refine lv_aload_n hx hb dX12_ofPlane_159 rfl (lv_at hl 1 rfl) ?_
      refine va_get (D := (dC, dI)) (ci := 12) (v := .ref (g 36)) (C := RX12) (T := TX12) (N := 63) hx hb hwd inA_X12 hown hK hP 0 rfl rfl 50 (by decide) (hwd _ wk_218) (fun _ h9 => h9) rfl dX12_ofPlane_160 ?_
      refine lv_iload_n hx hb dX12_ofPlane_163 rfl (lv_at hl 2 rfl) ?_
      refine va_iald hx hb hK hP 36 35 rfl rfl (i := p0) (vin (a := p0.toInt) rfl (by omega)) dX12_ofPlane_164 ?_
      refine lv_topi (fun z26939 e26940 => ?_)
      have hP9 : va_P (dC, dI) classes (wM g c v F rc) H := hP
      exact W.iret (v := z26939) hx hb hr (fun t ht hW => ⟨⟨z26939, (), rfl, trivial, (by show va_P _ _ _ t.heap; rw [ht]; exact hP9)⟩, hS.F ht⟩) hS.2.2 dX12_ofPlane_165
  · skip
    have t26941 := cv_eq (a := r26894.toInt) rfl (b := 0) (by decide) c26895
    refine lv_ldc (v := (-2000000000)) hx hb hown (hwd _ wk_542) dX12_ofPlane_8 ?_
    have hP9 : va_P (dC, dI) classes (wM g c v F rc) H := hP
    exact W.iret (v := (-2000000000)) hx hb hr (fun t ht hW => ⟨⟨(-2000000000), (), rfl, trivial, (by show va_P _ _ _ t.heap; rw [ht]; exact hP9)⟩, hS.F ht⟩) hS.2.2 dX12_ofPlane_10
