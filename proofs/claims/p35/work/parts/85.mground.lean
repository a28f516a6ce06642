set_option maxHeartbeats 8000000 in
set_option maxRecDepth 100000 in
theorem c_X12_groundedBy (l : Launch) (dC : Nat → ClassId) (dI : Nat → Nat → Nat) (g : Nat → Nat) (c : Nat → ClassId) (adK adV : Nat → Nat) (v : Nat → Int32) (F : Nat → Nat → Int32) (rc sz : Nat) (p0 : Int32) (p1 : Int32) (hg : injM g) (hI : IM v F) (h0 : 0 ≤ p0.toInt ∧ p0.toInt ≤ 9) (hL : JL (v 31) (F 28) (F 29) (F 27)) : Met l yX12_groundedBy (Cond.code yX12_groundedBy cX12_groundedBy 5 (some .int) :: wA) ({ frames := 5, cells := 0, slots := 0, locals := 200 }) (va_Pc [.ref (g 0), .int p0, .int p1] (PM dC dI g c adK adV v F rc sz)) (va_Qi (fun (r : Int32) (u : StM) => IM u.1 u.2.1 ∧ u.2.2 = rc ∧ (∀ k, k ∉ ([] : List Nat) → u.1 k = v k) ∧ (∀ k, k ∉ ([30, 31] : List Nat) → u.2.1 k = F k) ∧ True) (BM dC dI g c) (AM g sz)) 0 0 (AM g sz) := by
  refine Met.ofW (cc := cX12_groundedBy) (maxL := 5) (ret := (some .int)) (by decide) rfl ?_
  intro p e s m args below meth c0 s₁ B hml hv
  obtain ⟨rfl, hsz, hP, hK, hE⟩ := hv
  have hx := B.exec
  have hb := B.bytes
  have hr := B.returns
  have hts := atoms_spec (ws := Cond.code yX12_groundedBy cX12_groundedBy 5 (some .int) :: wA) B.pre
  have hwd : ∀ w ∈ wA, w.before _ s = true := fun w h => hts w (List.mem_cons_of_mem _ h)
  have hown : s.vm.findClass RX12 = some m.cls := findClass_of_methodNamed B.named
  have hlocks := B.notSynchronized
  subst hsz
  have hl := lv_entry ([.ref (g 0), .int p0, .int p1]) (n := 5) (Nat.le_of_ble_eq_true rfl)
  rw [lg_entry_eq]
  generalize (lg_sl ([.ref (g 0), .int p0, .int p1]) ++ List.replicate (5 - (lg_sl ([.ref (g 0), .int p0, .int p1])).length) Slot.unset).toArray = ls at hl ⊢
  have hl : lv_has ls 5 [(0, .ref (g 0)), (1, .int p0), (2, .int p1)] := hl
  obtain ⟨H, eH⟩ : ∃ z, z = s.heap := ⟨_, rfl⟩
  have hP : va_P (dC, dI) classes (wM g c v F rc) H := by rw [eH]; exact hP
  have hS : va_S (AM g s.heap.size) s.heap H [] := by rw [eH]; exact va_S.rf
  refine my_heap eH ?_
  have hF : ∀ k, k ∉ ([30, 31] : List Nat) → F k = F k := fun _ _ => rfl
  have rp0 := i32_rng p0
  have rp1 := i32_rng p1
  have hb31 : 0 ≤ (v 31).toInt ∧ (v 31).toInt ≤ 10 := hI.1 31 _ _ rfl
  refine lv_iconst (v := 0) hx hb dX12_groundedBy_0 (by decide) ?_
  refine lv_istore_n (lv' := [(3, .int 0), (0, .ref (g 0)), (1, .int p0), (2, .int p1)]) hx hb dX12_groundedBy_1 rfl hl (by decide) rfl (fun ls hl => ?_)
  have lp11566 : ∀ (n : Nat) (x3_lp11566 : Int32) (v_lp11566 : Nat → Int32) (F_lp11566 : Nat → Nat → Int32) (H : Heap) (locs : List Loc) (ls : Array Slot), (0 ≤ x3_lp11566.toInt) → (2147483648 - x3_lp11566.toInt ≤ (n : Int)) → (∀ k, k ∉ ([] : List Nat) → v_lp11566 k = v k) → IM v_lp11566 F_lp11566 → (∀ k, k ∉ ([30, 31] : List Nat) → F_lp11566 k = F k) → va_P (dC, dI) classes (wM g c v_lp11566 F_lp11566 rc) H → va_S (AM g s.heap.size) s.heap H locs → lv_has ls 5 [(3, .int x3_lp11566), (0, .ref (g 0)), (1, .int p0), (2, .int p1)] → W p l e (headSpec (Cond.code yX12_groundedBy cX12_groundedBy 5 (some .int) :: wA) ({ frames := 5, cells := 0, slots := 0, locals := 200 })).room s m ([.ref (g 0), .int p0, .int p1] : List Value).toArray below meth c0 H locs 0 0 (MQ below (va_Qi (fun (r : Int32) (u : StM) => IM u.1 u.2.1 ∧ u.2.2 = rc ∧ (∀ k, k ∉ ([] : List Nat) → u.1 k = v k) ∧ (∀ k, k ∉ ([30, 31] : List Nat) → u.2.1 k = F k) ∧ True) (BM dC dI g c) (AM g s.heap.size)) ([.ref (g 0), .int p0, .int p1] : List Value).toArray s 0 0 (AM g s.heap.size)) (F0 m 2 ls []) := by
    intro n
    induction n with
    | zero =>
      intro x3_lp11566 v_lp11566 F_lp11566 H locs ls t11567 hm hf_lp11566 hI hF hP hS hl
      exfalso
      have := i32_rng x3_lp11566
      have hI1 := hI.1
      omega
    | succ n ih_lp11566 =>
      intro x3_lp11566 v_lp11566 F_lp11566 H locs ls t11567 hm hf_lp11566 hI hF hP hS hl
      have rx3_lp11566 := i32_rng x3_lp11566
      refine lv_iload_n hx hb dX12_groundedBy_2 rfl (lv_at hl 0 rfl) ?_
      refine lv_aload_n hx hb dX12_groundedBy_3 rfl (lv_at hl 1 rfl) ?_
      refine va_get (D := (dC, dI)) (ci := 12) (v := .int (v_lp11566 2)) (C := RX12) (T := TX12) (N := 63) hx hb hwd inA_X12 hown hK hP 0 rfl rfl 2 (by decide) (hwd _ wk_251) (fun _ h9 => h9) rfl dX12_groundedBy_4 ?_
      refine my_top (v := v 2) (hf_lp11566 2 (by decide)) ?_
      have t11568 : 0 ≤ (v 2).toInt ∧ (v 2).toInt ≤ 10 := by have h9 := hI.1 2 _ _ rfl; rw [show v_lp11566 2 = v 2 from hf_lp11566 2 (by decide)] at h9; exact h9
      refine lv_icmp_ge (tgt := 38) hx hb dX12_groundedBy_7 (by decide) (fun c11569 => ?_) (fun c11569 => ?_)
      · skip
        have t11570 := cv_le (a := (v 2).toInt) rfl (b := x3_lp11566.toInt) rfl c11569
        refine lv_iconst (v := 0) hx hb dX12_groundedBy_38 (by decide) ?_
        refine lv_istore_n (lv' := [(3, .int 0), (0, .ref (g 0)), (1, .int p0), (2, .int p1)]) hx hb dX12_groundedBy_39 rfl hl (by decide) rfl (fun ls hl => ?_)
        have lp11571 : ∀ (n : Nat) (x3_lp11571 : Int32) (v_lp11571 : Nat → Int32) (F_lp11571 : Nat → Nat → Int32) (H : Heap) (locs : List Loc) (ls : Array Slot), (0 ≤ x3_lp11571.toInt) → (2147483648 - x3_lp11571.toInt ≤ (n : Int)) → (∀ k, k ∉ ([] : List Nat) → v_lp11571 k = v_lp11566 k) → IM v_lp11571 F_lp11571 → (∀ k, k ∉ ([30, 31] : List Nat) → F_lp11571 k = F k) → va_P (dC, dI) classes (wM g c v_lp11571 F_lp11571 rc) H → va_S (AM g s.heap.size) s.heap H locs → lv_has ls 5 [(3, .int x3_lp11571), (0, .ref (g 0)), (1, .int p0), (2, .int p1)] → W p l e (headSpec (Cond.code yX12_groundedBy cX12_groundedBy 5 (some .int) :: wA) ({ frames := 5, cells := 0, slots := 0, locals := 200 })).room s m ([.ref (g 0), .int p0, .int p1] : List Value).toArray below meth c0 H locs 0 0 (MQ below (va_Qi (fun (r : Int32) (u : StM) => IM u.1 u.2.1 ∧ u.2.2 = rc ∧ (∀ k, k ∉ ([] : List Nat) → u.1 k = v k) ∧ (∀ k, k ∉ ([30, 31] : List Nat) → u.2.1 k = F k) ∧ True) (BM dC dI g c) (AM g s.heap.size)) ([.ref (g 0), .int p0, .int p1] : List Value).toArray s 0 0 (AM g s.heap.size)) (F0 m 40 ls []) := by
          intro n
          induction n with
          | zero =>
            intro x3_lp11571 v_lp11571 F_lp11571 H locs ls t11572 hm hf_lp11571 hI hF hP hS hl
            exfalso
            have := i32_rng x3_lp11571
            have hI1 := hI.1
            omega
          | succ n ih_lp11571 =>
            intro x3_lp11571 v_lp11571 F_lp11571 H locs ls t11572 hm hf_lp11571 hI hF hP hS hl
            have rx3_lp11571 := i32_rng x3_lp11571
            refine lv_iload_n hx hb dX12_groundedBy_40 rfl (lv_at hl 0 rfl) ?_
            refine lv_aload_n hx hb dX12_groundedBy_41 rfl (lv_at hl 1 rfl) ?_
            refine va_get (D := (dC, dI)) (ci := 12) (v := .int (v_lp11571 14)) (C := RX12) (T := TX12) (N := 63) hx hb hwd inA_X12 hown hK hP 0 rfl rfl 14 (by decide) (hwd _ wk_318) (fun _ h9 => h9) rfl dX12_groundedBy_42 ?_
            refine my_top (v := v 14) ((hf_lp11571 14 (by decide)).trans (hf_lp11566 14 (by decide))) ?_
            have t11573 : 0 ≤ (v 14).toInt ∧ (v 14).toInt ≤ 100 := by have h9 := hI.1 14 _ _ rfl; rw [show v_lp11571 14 = v 14 from (hf_lp11571 14 (by decide)).trans (hf_lp11566 14 (by decide))] at h9; exact h9
            refine lv_icmp_ge (tgt := 102) hx hb dX12_groundedBy_45 (by decide) (fun c11574 => ?_) (fun c11574 => ?_)
            · skip
              have t11575 := cv_le (a := (v 14).toInt) rfl (b := x3_lp11571.toInt) rfl c11574
              refine lv_iconst (v := 0) hx hb dX12_groundedBy_102 (by decide) ?_
              refine lv_istore_n (lv' := [(3, .int 0), (0, .ref (g 0)), (1, .int p0), (2, .int p1)]) hx hb dX12_groundedBy_103 rfl hl (by decide) rfl (fun ls hl => ?_)
              have lp11576 : ∀ (n : Nat) (x3_lp11576 : Int32) (v_lp11576 : Nat → Int32) (F_lp11576 : Nat → Nat → Int32) (H : Heap) (locs : List Loc) (ls : Array Slot), (0 ≤ x3_lp11576.toInt) → (2147483648 - x3_lp11576.toInt ≤ (n : Int)) → (∀ k, k ∉ ([] : List Nat) → v_lp11576 k = v_lp11571 k) → IM v_lp11576 F_lp11576 → (∀ k, k ∉ ([30, 31] : List Nat) → F_lp11576 k = F k) → va_P (dC, dI) classes (wM g c v_lp11576 F_lp11576 rc) H → va_S (AM g s.heap.size) s.heap H locs → lv_has ls 5 [(3, .int x3_lp11576), (0, .ref (g 0)), (1, .int p0), (2, .int p1)] → W p l e (headSpec (Cond.code yX12_groundedBy cX12_groundedBy 5 (some .int) :: wA) ({ frames := 5, cells := 0, slots := 0, locals := 200 })).room s m ([.ref (g 0), .int p0, .int p1] : List Value).toArray below meth c0 H locs 0 0 (MQ below (va_Qi (fun (r : Int32) (u : StM) => IM u.1 u.2.1 ∧ u.2.2 = rc ∧ (∀ k, k ∉ ([] : List Nat) → u.1 k = v k) ∧ (∀ k, k ∉ ([30, 31] : List Nat) → u.2.1 k = F k) ∧ True) (BM dC dI g c) (AM g s.heap.size)) ([.ref (g 0), .int p0, .int p1] : List Value).toArray s 0 0 (AM g s.heap.size)) (F0 m 104 ls []) := by
                intro n
                induction n with
                | zero =>
                  intro x3_lp11576 v_lp11576 F_lp11576 H locs ls t11577 hm hf_lp11576 hI hF hP hS hl
                  exfalso
                  have := i32_rng x3_lp11576
                  have hI1 := hI.1
                  omega
                | succ n ih_lp11576 =>
                  intro x3_lp11576 v_lp11576 F_lp11576 H locs ls t11577 hm hf_lp11576 hI hF hP hS hl
                  have rx3_lp11576 := i32_rng x3_lp11576
                  refine lv_iload_n hx hb dX12_groundedBy_104 rfl (lv_at hl 0 rfl) ?_
                  refine lv_aload_n hx hb dX12_groundedBy_105 rfl (lv_at hl 1 rfl) ?_
                  refine va_get (D := (dC, dI)) (ci := 12) (v := .int (v_lp11576 45)) (C := RX12) (T := TX12) (N := 63) hx hb hwd inA_X12 hown hK hP 0 rfl rfl 45 (by decide) (hwd _ wk_485) (fun _ h9 => h9) rfl dX12_groundedBy_106 ?_
                  refine my_top (v := v 45) ((hf_lp11576 45 (by decide)).trans ((hf_lp11571 45 (by decide)).trans (hf_lp11566 45 (by decide)))) ?_
                  have t11578 : 0 ≤ (v 45).toInt ∧ (v 45).toInt ≤ 20 := by have h9 := hI.1 45 _ _ rfl; rw [show v_lp11576 45 = v 45 from (hf_lp11576 45 (by decide)).trans ((hf_lp11571 45 (by decide)).trans (hf_lp11566 45 (by decide)))] at h9; exact h9
                  refine lv_icmp_ge (tgt := 156) hx hb dX12_groundedBy_109 (by decide) (fun c11579 => ?_) (fun c11579 => ?_)
                  · skip
                    have t11580 := cv_le (a := (v 45).toInt) rfl (b := x3_lp11576.toInt) rfl c11579
                    refine lv_iconst (v := 0) hx hb dX12_groundedBy_156 (by decide) ?_
                    have hP9 : va_P (dC, dI) classes (wM g c v_lp11576 F_lp11576 rc) H := hP
                    exact W.iret (v := 0) hx hb hr (fun t ht hW => ⟨⟨0, (v_lp11576, F_lp11576, rc), rfl, ⟨hI, rfl, (frC (by decide) hf_lp11576 (frC (by decide) hf_lp11571 (frC (by decide) hf_lp11566 (fun _ _ => rfl)))), hF, trivial⟩, (by show va_P _ _ _ t.heap; rw [ht]; exact hP9)⟩, hS.F ht⟩) hS.2.2 dX12_groundedBy_157
                  · skip
                    have t11581 := cv_nle (a := (v 45).toInt) rfl (b := x3_lp11576.toInt) rfl c11579
                    refine lv_aload_n hx hb dX12_groundedBy_112 rfl (lv_at hl 1 rfl) ?_
                    refine lv_iload_n hx hb dX12_groundedBy_113 rfl (lv_at hl 0 rfl) ?_
                    refine lv_iload_n hx hb dX12_groundedBy_114 rfl (lv_at hl 2 rfl) ?_
                    refine va_calli (va_runV (As := [.int x3_lp11576, .int p0]) (rest := []) ⟨hx, hb, hml, hown, hwd⟩ (c_X12_asks l dC dI g c adK adV v_lp11576 F_lp11576 rc H.size x3_lp11576 p0 hg hI (by omega) (by omega)) (cwV 2 hwd (gV wk_520 wk_517 wk_518 wk_519 wk_5) rfl rfl rfl (by decide +kernel) ⟨Nat.le_of_ble_eq_true rfl, Nat.le_of_ble_eq_true rfl⟩) ⟨PM.blind, va_recv hK hP (ci := 12) (q0 := 0) rfl rfl, fun U hU hW => ⟨rfl, PM.at hK hE hP hS hU hW⟩⟩ rfl rfl hl.1 rfl (lv_room (Nat.le_of_ble_eq_true rfl)) dX12_groundedBy_115 ⟨Nat.le_of_ble_eq_true rfl, Nat.le_of_ble_eq_true rfl⟩) hS (fun q _ h => (freeM hS) q h) (freeM hS) (fun r11582 u t H1 locs ht hvm hw hB hz1 hk1 hS => ?_)
                    unfold BM at hB
                    rw [ht] at hB
                    have hP : va_P (dC, dI) classes (wM g c v_lp11576 F_lp11576 rc) H1 := hB
                    have hw_r11582 : 0 ≤ r11582.toInt ∧ r11582.toInt ≤ 1 := hw
                    clear hw
                    clear hz1
                    generalize H1 = H at hP hS ⊢
                    refine lv_if_eq (tgt := 150) hx hb dX12_groundedBy_118 (by decide) (fun c11583 => ?_) (fun c11583 => ?_)
                    · skip
                      have t11584 := cv_eq (a := r11582.toInt) rfl (b := 0) (by decide) c11583
                      obtain ⟨z11585, e11586⟩ : ∃ y : Int32, y = x3_lp11576 + 1 := ⟨_, rfl⟩
                      try (have t11587 := tadd e11586 rfl (b := 1) (by decide) (by omega))
                      refine lv_iinc (v := z11585) (lv' := [(3, .int z11585), (0, .ref (g 0)), (1, .int p0), (2, .int p1)]) hx hb dX12_groundedBy_150 hl (k := 0) rfl (by rw [e11586]; rfl) (by decide) rfl (fun ls hl => ?_)
                      refine lv_goto (tgt := 104) hx hb dX12_groundedBy_153 (by decide) ?_
                      exact ih_lp11576 z11585 v_lp11576 F_lp11576 _ _ _ (by omega) (by omega) hf_lp11576 hI hF hP hS (lv_sub hl [0, 1, 2, 3] rfl)
                    · skip
                      have t11588 := cv_ne (a := r11582.toInt) rfl (b := 0) (by decide) c11583
                      refine lv_aload_n hx hb dX12_groundedBy_121 rfl (lv_at hl 1 rfl) ?_
                      refine va_get (D := (dC, dI)) (ci := 12) (v := .ref (g 34)) (C := RX12) (T := TX12) (N := 63) hx hb hwd inA_X12 hown hK hP 0 rfl rfl 48 (by decide) (hwd _ wk_216) (fun _ h9 => h9) rfl dX12_groundedBy_122 ?_
                      refine lv_bipush (v := 10) hx hb dX12_groundedBy_125 (by decide) ?_
                      refine lv_iload_n hx hb dX12_groundedBy_127 rfl (lv_at hl 0 rfl) ?_
                      refine lv_imul hx hb dX12_groundedBy_128 ?_
                      refine lv_topi (fun z11589 e11590 => ?_)
                      try (have t11591 := tmul e11590 (a := 10) (by decide) (b := x3_lp11576.toInt) rfl (by omega))
                      refine lv_iload_n hx hb dX12_groundedBy_129 rfl (lv_at hl 2 rfl) ?_
                      refine lv_iadd hx hb dX12_groundedBy_130 ?_
                      refine lv_topi (fun z11592 e11593 => ?_)
                      try (have t11594 := tadd e11593 (a := z11589.toInt) rfl (b := p0.toInt) rfl (by omega))
                      refine va_zald hx hb hK hP 34 33 rfl rfl (i := z11592) (vin (a := z11592.toInt) rfl (by omega)) dX12_groundedBy_131 ?_
                      refine lv_topi (fun z11595 e11596 => ?_)
                      have e11596 : z11595 = F 34 (z11592 : Int32).toNatClampNeg := e11596.trans (congrFun (hF 34 (by decide)) _)
                      refine lv_if_ne (tgt := 150) hx hb dX12_groundedBy_132 (by decide) (fun c11597 => ?_) (fun c11597 => ?_)
                      · skip
                        have t11598 := cv_ne (a := z11595.toInt) rfl (b := 0) (by decide) c11597
                        obtain ⟨z11599, e11600⟩ : ∃ y : Int32, y = x3_lp11576 + 1 := ⟨_, rfl⟩
                        try (have t11601 := tadd e11600 rfl (b := 1) (by decide) (by omega))
                        refine lv_iinc (v := z11599) (lv' := [(3, .int z11599), (0, .ref (g 0)), (1, .int p0), (2, .int p1)]) hx hb dX12_groundedBy_150 hl (k := 0) rfl (by rw [e11600]; rfl) (by decide) rfl (fun ls hl => ?_)
                        refine lv_goto (tgt := 104) hx hb dX12_groundedBy_153 (by decide) ?_
                        exact ih_lp11576 z11599 v_lp11576 F_lp11576 _ _ _ (by omega) (by omega) hf_lp11576 hI hF hP hS (lv_sub hl [0, 1, 2, 3] rfl)
                      · skip
                        have t11602 := cv_eq (a := z11595.toInt) rfl (b := 0) (by decide) c11597
                        refine lv_aload_n hx hb dX12_groundedBy_135 rfl (lv_at hl 1 rfl) ?_
                        refine va_get (D := (dC, dI)) (ci := 12) (v := .ref (g 33)) (C := RX12) (T := TX12) (N := 63) hx hb hwd inA_X12 hown hK hP 0 rfl rfl 47 (by decide) (hwd _ wk_215) (fun _ h9 => h9) rfl dX12_groundedBy_136 ?_
                        refine lv_iload_n hx hb dX12_groundedBy_139 rfl (lv_at hl 0 rfl) ?_
                        refine va_iald hx hb hK hP 33 32 rfl rfl (i := x3_lp11576) (vin (a := x3_lp11576.toInt) rfl (by omega)) dX12_groundedBy_140 ?_
                        refine lv_topi (fun z11603 e11604 => ?_)
                        have e11604 : z11603 = F 33 (x3_lp11576 : Int32).toNatClampNeg := e11604.trans (congrFun (hF 33 (by decide)) _)
                        refine lv_aload_n hx hb dX12_groundedBy_141 rfl (lv_at hl 1 rfl) ?_
                        refine va_get (D := (dC, dI)) (ci := 12) (v := .int (v_lp11576 1)) (C := RX12) (T := TX12) (N := 63) hx hb hwd inA_X12 hown hK hP 0 rfl rfl 1 (by decide) (hwd _ wk_332) (fun _ h9 => h9) rfl dX12_groundedBy_142 ?_
                        refine my_top (v := v 1) ((hf_lp11576 1 (by decide)).trans ((hf_lp11571 1 (by decide)).trans (hf_lp11566 1 (by decide)))) ?_
                        have t11605 : 0 ≤ (v 1).toInt ∧ (v 1).toInt ≤ 9999 := by have h9 := hI.1 1 _ _ rfl; rw [show v_lp11576 1 = v 1 from (hf_lp11576 1 (by decide)).trans ((hf_lp11571 1 (by decide)).trans (hf_lp11566 1 (by decide)))] at h9; exact h9
                        refine lv_icmp_ge (tgt := 150) hx hb dX12_groundedBy_145 (by decide) (fun c11606 => ?_) (fun c11606 => ?_)
                        · skip
                          have t11607 := cv_le (a := (v 1).toInt) rfl (b := z11603.toInt) rfl c11606
                          obtain ⟨z11608, e11609⟩ : ∃ y : Int32, y = x3_lp11576 + 1 := ⟨_, rfl⟩
                          try (have t11610 := tadd e11609 rfl (b := 1) (by decide) (by omega))
                          refine lv_iinc (v := z11608) (lv' := [(3, .int z11608), (0, .ref (g 0)), (1, .int p0), (2, .int p1)]) hx hb dX12_groundedBy_150 hl (k := 0) rfl (by rw [e11609]; rfl) (by decide) rfl (fun ls hl => ?_)
                          refine lv_goto (tgt := 104) hx hb dX12_groundedBy_153 (by decide) ?_
                          exact ih_lp11576 z11608 v_lp11576 F_lp11576 _ _ _ (by omega) (by omega) hf_lp11576 hI hF hP hS (lv_sub hl [0, 1, 2, 3] rfl)
                        · skip
                          have t11611 := cv_nle (a := (v 1).toInt) rfl (b := z11603.toInt) rfl c11606
                          refine lv_iconst (v := 3) hx hb dX12_groundedBy_148 (by decide) ?_
                          have hP9 : va_P (dC, dI) classes (wM g c v_lp11576 F_lp11576 rc) H := hP
                          exact W.iret (v := 3) hx hb hr (fun t ht hW => ⟨⟨3, (v_lp11576, F_lp11576, rc), rfl, ⟨hI, rfl, (frC (by decide) hf_lp11576 (frC (by decide) hf_lp11571 (frC (by decide) hf_lp11566 (fun _ _ => rfl)))), hF, trivial⟩, (by show va_P _ _ _ t.heap; rw [ht]; exact hP9)⟩, hS.F ht⟩) hS.2.2 dX12_groundedBy_149
              obtain ⟨n9, hn9⟩ : ∃ n : Nat, 2147483648 - 0 ≤ (n : Int) := ⟨((2147483648 - 0 : Int)).toNat, by omega⟩
              exact lp11576 n9 0 v_lp11571 F_lp11571 H _ ls (by have : (0 : Int32).toInt = 0 := (by decide); omega) (by have : (0 : Int32).toInt = 0 := (by decide); omega) (fun _ _ => rfl) hI hF hP hS hl
            · skip
              have t11612 := cv_nle (a := (v 14).toInt) rfl (b := x3_lp11571.toInt) rfl c11574
              refine lv_iconst (v := 0) hx hb dX12_groundedBy_48 (by decide) ?_
              refine lv_istore (lv' := [(4, .int 0), (3, .int x3_lp11571), (0, .ref (g 0)), (1, .int p0), (2, .int p1)]) hx hb dX12_groundedBy_49 hl (by decide) rfl (fun ls hl => ?_)
              have lp11613 : ∀ (n : Nat) (x4_lp11613 : Int32) (v_lp11613 : Nat → Int32) (F_lp11613 : Nat → Nat → Int32) (H : Heap) (locs : List Loc) (ls : Array Slot), (0 ≤ x4_lp11613.toInt) → (2147483648 - x4_lp11613.toInt ≤ (n : Int)) → (∀ k, k ∉ ([] : List Nat) → v_lp11613 k = v_lp11571 k) → IM v_lp11613 F_lp11613 → (∀ k, k ∉ ([30, 31] : List Nat) → F_lp11613 k = F k) → va_P (dC, dI) classes (wM g c v_lp11613 F_lp11613 rc) H → va_S (AM g s.heap.size) s.heap H locs → lv_has ls 5 [(4, .int x4_lp11613), (3, .int x3_lp11571), (0, .ref (g 0)), (1, .int p0), (2, .int p1)] → W p l e (headSpec (Cond.code yX12_groundedBy cX12_groundedBy 5 (some .int) :: wA) ({ frames := 5, cells := 0, slots := 0, locals := 200 })).room s m ([.ref (g 0), .int p0, .int p1] : List Value).toArray below meth c0 H locs 0 0 (MQ below (va_Qi (fun (r : Int32) (u : StM) => IM u.1 u.2.1 ∧ u.2.2 = rc ∧ (∀ k, k ∉ ([] : List Nat) → u.1 k = v k) ∧ (∀ k, k ∉ ([30, 31] : List Nat) → u.2.1 k = F k) ∧ True) (BM dC dI g c) (AM g s.heap.size)) ([.ref (g 0), .int p0, .int p1] : List Value).toArray s 0 0 (AM g s.heap.size)) (F0 m 51 ls []) := by
                intro n
                induction n with
                | zero =>
                  intro x4_lp11613 v_lp11613 F_lp11613 H locs ls t11614 hm hf_lp11613 hI hF hP hS hl
                  exfalso
                  have := i32_rng x4_lp11613
                  have hI1 := hI.1
                  omega
                | succ n ih_lp11613 =>
                  intro x4_lp11613 v_lp11613 F_lp11613 H locs ls t11614 hm hf_lp11613 hI hF hP hS hl
                  have rx4_lp11613 := i32_rng x4_lp11613
                  refine lv_iload hx hb dX12_groundedBy_51 (lv_at hl 0 rfl) ?_
                  refine lv_iconst (v := 3) hx hb dX12_groundedBy_53 (by decide) ?_
                  refine lv_icmp_ge (tgt := 96) hx hb dX12_groundedBy_54 (by decide) (fun c11615 => ?_) (fun c11615 => ?_)
                  · skip
                    have t11616 := cv_le (a := 3) (by decide) (b := x4_lp11613.toInt) rfl c11615
                    obtain ⟨z11617, e11618⟩ : ∃ y : Int32, y = x3_lp11571 + 1 := ⟨_, rfl⟩
                    try (have t11619 := tadd e11618 rfl (b := 1) (by decide) (by omega))
                    refine lv_iinc (v := z11617) (lv' := [(3, .int z11617), (4, .int x4_lp11613), (0, .ref (g 0)), (1, .int p0), (2, .int p1)]) hx hb dX12_groundedBy_96 hl (k := 1) rfl (by rw [e11618]; rfl) (by decide) rfl (fun ls hl => ?_)
                    refine lv_goto (tgt := 40) hx hb dX12_groundedBy_99 (by decide) ?_
                    exact ih_lp11571 z11617 v_lp11613 F_lp11613 _ _ _ (by omega) (by omega) (frC (by decide) hf_lp11613 hf_lp11571) hI hF hP hS (lv_sub hl [0, 2, 3, 4] rfl)
                  · skip
                    have t11620 := cv_nle (a := 3) (by decide) (b := x4_lp11613.toInt) rfl c11615
                    refine lv_aload_n hx hb dX12_groundedBy_57 rfl (lv_at hl 2 rfl) ?_
                    refine va_get (D := (dC, dI)) (ci := 12) (v := .ref (g 13)) (C := RX12) (T := TX12) (N := 63) hx hb hwd inA_X12 hown hK hP 0 rfl rfl 17 (by decide) (hwd _ wk_194) (fun _ h9 => h9) rfl dX12_groundedBy_58 ?_
                    refine lv_iload_n hx hb dX12_groundedBy_61 rfl (lv_at hl 1 rfl) ?_
                    refine va_iald hx hb hK hP 13 12 rfl rfl (i := x3_lp11571) (vin (a := x3_lp11571.toInt) rfl (by omega)) dX12_groundedBy_62 ?_
                    refine lv_topi (fun z11621 e11622 => ?_)
                    have t11623 : 0 ≤ z11621.toInt ∧ z11621.toInt ≤ 12 := by rw [e11622]; exact hI.2 13 _ _ rfl _
                    have e11622 : z11621 = F 13 (x3_lp11571 : Int32).toNatClampNeg := e11622.trans (congrFun (hF 13 (by decide)) _)
                    refine lv_iload_n hx hb dX12_groundedBy_63 rfl (lv_at hl 3 rfl) ?_
                    refine lv_icmp_ne (tgt := 90) hx hb dX12_groundedBy_64 (by decide) (fun c11624 => ?_) (fun c11624 => ?_)
                    · skip
                      have t11625 := cv_ne (a := z11621.toInt) rfl (b := p0.toInt) rfl c11624
                      obtain ⟨z11626, e11627⟩ : ∃ y : Int32, y = x4_lp11613 + 1 := ⟨_, rfl⟩
                      try (have t11628 := tadd e11627 rfl (b := 1) (by decide) (by omega))
                      refine lv_iinc (v := z11626) (lv' := [(4, .int z11626), (3, .int x3_lp11571), (0, .ref (g 0)), (1, .int p0), (2, .int p1)]) hx hb dX12_groundedBy_90 hl (k := 0) rfl (by rw [e11627]; rfl) (by decide) rfl (fun ls hl => ?_)
                      refine lv_goto (tgt := 51) hx hb dX12_groundedBy_93 (by decide) ?_
                      exact ih_lp11613 z11626 v_lp11613 F_lp11613 _ _ _ (by omega) (by omega) hf_lp11613 hI hF hP hS (lv_sub hl [0, 1, 2, 3, 4] rfl)
                    · skip
                      have t11629 := cv_eq (a := z11621.toInt) rfl (b := p0.toInt) rfl c11624
                      refine lv_aload_n hx hb dX12_groundedBy_67 rfl (lv_at hl 2 rfl) ?_
                      refine lv_iload_n hx hb dX12_groundedBy_68 rfl (lv_at hl 1 rfl) ?_
                      refine lv_iload hx hb dX12_groundedBy_69 (lv_at hl 0 rfl) ?_
                      refine va_calli (va_runV (As := [.int x3_lp11571, .int x4_lp11613]) (rest := []) ⟨hx, hb, hml, hown, hwd⟩ (c_X12_limitOf l dC dI g c adK adV v_lp11613 F_lp11613 rc H.size x3_lp11571 x4_lp11613 hg hI (by omega) (by omega)) (cwV 2 hwd (gV wk_489 wk_486 wk_487 wk_488 wk_5) rfl rfl rfl (by decide +kernel) ⟨Nat.le_of_ble_eq_true rfl, Nat.le_of_ble_eq_true rfl⟩) ⟨PM.blind, va_recv hK hP (ci := 12) (q0 := 0) rfl rfl, fun U hU hW => ⟨rfl, PM.at hK hE hP hS hU hW⟩⟩ rfl rfl hl.1 rfl (lv_room (Nat.le_of_ble_eq_true rfl)) dX12_groundedBy_71 ⟨Nat.le_of_ble_eq_true rfl, Nat.le_of_ble_eq_true rfl⟩) hS (fun q _ h => (freeM hS) q h) (freeM hS) (fun r11630 u t H1 locs ht hvm hw hB hz1 hk1 hS => ?_)
                      unfold BM at hB
                      rw [ht] at hB
                      have hP : va_P (dC, dI) classes (wM g c v_lp11613 F_lp11613 rc) H1 := hB
                      replace hw : r11630.toInt = (F_lp11613 1 (limJ (F_lp11613 11) x3_lp11571 x4_lp11613)).toInt := hw
                      rw [hF 1 (by decide)] at hw
                      rw [hF 11 (by decide)] at hw
                      have hw_r11630 := hw
                      clear hw
                      clear hz1
                      generalize H1 = H at hP hS ⊢
                      refine lv_if_le (tgt := 90) hx hb dX12_groundedBy_74 (by decide) (fun c11631 => ?_) (fun c11631 => ?_)
                      · skip
                        have t11632 := cv_le (a := r11630.toInt) rfl (b := 0) (by decide) c11631
                        obtain ⟨z11633, e11634⟩ : ∃ y : Int32, y = x4_lp11613 + 1 := ⟨_, rfl⟩
                        try (have t11635 := tadd e11634 rfl (b := 1) (by decide) (by omega))
                        refine lv_iinc (v := z11633) (lv' := [(4, .int z11633), (3, .int x3_lp11571), (0, .ref (g 0)), (1, .int p0), (2, .int p1)]) hx hb dX12_groundedBy_90 hl (k := 0) rfl (by rw [e11634]; rfl) (by decide) rfl (fun ls hl => ?_)
                        refine lv_goto (tgt := 51) hx hb dX12_groundedBy_93 (by decide) ?_
                        exact ih_lp11613 z11633 v_lp11613 F_lp11613 _ _ _ (by omega) (by omega) hf_lp11613 hI hF hP hS (lv_sub hl [0, 1, 2, 3, 4] rfl)
                      · skip
                        have t11636 := cv_nle (a := r11630.toInt) rfl (b := 0) (by decide) c11631
                        refine lv_aload_n hx hb dX12_groundedBy_77 rfl (lv_at hl 2 rfl) ?_
                        refine lv_iload_n hx hb dX12_groundedBy_78 rfl (lv_at hl 1 rfl) ?_
                        refine lv_iload hx hb dX12_groundedBy_79 (lv_at hl 0 rfl) ?_
                        refine lv_iload_n hx hb dX12_groundedBy_81 rfl (lv_at hl 4 rfl) ?_
                        refine va_calli (va_runV (As := [.int x3_lp11571, .int x4_lp11613, .int p1]) (rest := []) ⟨hx, hb, hml, hown, hwd⟩ (c_X12_leftOf l dC dI g c adK adV v_lp11613 F_lp11613 rc H.size x3_lp11571 x4_lp11613 p1 hg hI (by omega) (by omega) (JL.to hL (show v_lp11613 31 = v 31 from (hf_lp11613 31 (by decide)).trans ((hf_lp11571 31 (by decide)).trans (hf_lp11566 31 (by decide)))) (hF 28 (by decide)) (hF 29 (by decide)) (hF 27 (by decide)))) (cwV 3 hwd (gV wk_493 wk_490 wk_491 wk_492 wk_5) rfl rfl rfl (by decide +kernel) ⟨Nat.le_of_ble_eq_true rfl, Nat.le_of_ble_eq_true rfl⟩) ⟨PM.blind, va_recv hK hP (ci := 12) (q0 := 0) rfl rfl, fun U hU hW => ⟨rfl, PM.at hK hE hP hS hU hW⟩⟩ rfl rfl hl.1 rfl (lv_room (Nat.le_of_ble_eq_true rfl)) dX12_groundedBy_82 ⟨Nat.le_of_ble_eq_true rfl, Nat.le_of_ble_eq_true rfl⟩) hS (fun q _ h => (freeM hS) q h) (freeM hS) (fun r11637 u t H1 locs ht hvm hw hB hz1 hk1 hS => ?_)
                        unfold BM at hB
                        rw [ht] at hB
                        obtain ⟨v11638, F11639, rc9⟩ := u
                        obtain ⟨hI, hrc, hf11640, hG11641, hw⟩ := hw
                        dsimp only at hI hrc hB hf11640 hG11641 hw
                        have hF := frCF (by decide) hG11641 hF
                        rw [hrc] at hB
                        have hP : va_P (dC, dI) classes (wM g c v11638 F11639 rc) H1 := hB
                        clear hz1
                        generalize H1 = H at hP hS ⊢
                        have rr_r11637 := i32_rng r11637
                        refine lv_if_ge (tgt := 90) hx hb dX12_groundedBy_85 (by decide) (fun c11642 => ?_) (fun c11642 => ?_)
                        · skip
                          have t11643 := cv_le (a := 0) (by decide) (b := r11637.toInt) rfl c11642
                          obtain ⟨z11644, e11645⟩ : ∃ y : Int32, y = x4_lp11613 + 1 := ⟨_, rfl⟩
                          try (have t11646 := tadd e11645 rfl (b := 1) (by decide) (by omega))
                          refine lv_iinc (v := z11644) (lv' := [(4, .int z11644), (3, .int x3_lp11571), (0, .ref (g 0)), (1, .int p0), (2, .int p1)]) hx hb dX12_groundedBy_90 hl (k := 0) rfl (by rw [e11645]; rfl) (by decide) rfl (fun ls hl => ?_)
                          refine lv_goto (tgt := 51) hx hb dX12_groundedBy_93 (by decide) ?_
                          exact ih_lp11613 z11644 v11638 F11639 _ _ _ (by omega) (by omega) (frC (by decide) hf11640 hf_lp11613) hI hF hP hS (lv_sub hl [0, 1, 2, 3, 4] rfl)
                        · skip
                          have t11647 := cv_nle (a := 0) (by decide) (b := r11637.toInt) rfl c11642
                          refine lv_iconst (v := 2) hx hb dX12_groundedBy_88 (by decide) ?_
                          have hP9 : va_P (dC, dI) classes (wM g c v11638 F11639 rc) H := hP
                          exact W.iret (v := 2) hx hb hr (fun t ht hW => ⟨⟨2, (v11638, F11639, rc), rfl, ⟨hI, rfl, (frC (by decide) hf11640 (frC (by decide) hf_lp11613 (frC (by decide) hf_lp11571 (frC (by decide) hf_lp11566 (fun _ _ => rfl))))), hF, trivial⟩, (by show va_P _ _ _ t.heap; rw [ht]; exact hP9)⟩, hS.F ht⟩) hS.2.2 dX12_groundedBy_89
              obtain ⟨n9, hn9⟩ : ∃ n : Nat, 2147483648 - 0 ≤ (n : Int) := ⟨((2147483648 - 0 : Int)).toNat, by omega⟩
              exact lp11613 n9 0 v_lp11571 F_lp11571 H _ ls (by have : (0 : Int32).toInt = 0 := (by decide); omega) (by have : (0 : Int32).toInt = 0 := (by decide); omega) (fun _ _ => rfl) hI hF hP hS hl
        obtain ⟨n9, hn9⟩ : ∃ n : Nat, 2147483648 - 0 ≤ (n : Int) := ⟨((2147483648 - 0 : Int)).toNat, by omega⟩
        exact lp11571 n9 0 v_lp11566 F_lp11566 H _ ls (by have : (0 : Int32).toInt = 0 := (by decide); omega) (by have : (0 : Int32).toInt = 0 := (by decide); omega) (fun _ _ => rfl) hI hF hP hS hl
      · skip
        have t11648 := cv_nle (a := (v 2).toInt) rfl (b := x3_lp11566.toInt) rfl c11569
        refine lv_aload_n hx hb dX12_groundedBy_10 rfl (lv_at hl 1 rfl) ?_
        refine lv_iload_n hx hb dX12_groundedBy_11 rfl (lv_at hl 2 rfl) ?_
        refine lv_iload_n hx hb dX12_groundedBy_12 rfl (lv_at hl 0 rfl) ?_
        refine va_calli (va_runV (As := [.int p0, .int x3_lp11566]) (rest := []) ⟨hx, hb, hml, hown, hwd⟩ (c_X12_onIt l dC dI g c adK adV v_lp11566 F_lp11566 rc H.size p0 x3_lp11566 hg hI ) (cwV 2 hwd (gV wk_317 wk_314 wk_315 wk_316 wk_5) rfl rfl rfl (by decide +kernel) ⟨Nat.le_of_ble_eq_true rfl, Nat.le_of_ble_eq_true rfl⟩) ⟨PM.blind, va_recv hK hP (ci := 12) (q0 := 0) rfl rfl, fun U hU hW => ⟨rfl, PM.at hK hE hP hS hU hW⟩⟩ rfl rfl hl.1 rfl (lv_room (Nat.le_of_ble_eq_true rfl)) dX12_groundedBy_13 ⟨Nat.le_of_ble_eq_true rfl, Nat.le_of_ble_eq_true rfl⟩) hS (fun q _ h => (freeM hS) q h) (freeM hS) (fun r11649 u t H1 locs ht hvm hw hB hz1 hk1 hS => ?_)
        unfold BM at hB
        rw [ht] at hB
        have hP : va_P (dC, dI) classes (wM g c v_lp11566 F_lp11566 rc) H1 := hB
        clear hz1
        generalize H1 = H at hP hS ⊢
        have rr_r11649 := i32_rng r11649
        refine lv_aload_n hx hb dX12_groundedBy_16 rfl (lv_at hl 1 rfl) ?_
        refine va_get (D := (dC, dI)) (ci := 12) (v := .ref (g 9)) (C := RX12) (T := TX12) (N := 63) hx hb hwd inA_X12 hown hK hP 0 rfl rfl 12 (by decide) (hwd _ wk_190) (fun _ h9 => h9) rfl dX12_groundedBy_17 ?_
        refine lv_bipush (v := 10) hx hb dX12_groundedBy_20 (by decide) ?_
        refine lv_iload_n hx hb dX12_groundedBy_22 rfl (lv_at hl 2 rfl) ?_
        refine lv_imul hx hb dX12_groundedBy_23 ?_
        refine lv_topi (fun z11650 e11651 => ?_)
        try (have t11652 := tmul e11651 (a := 10) (by decide) (b := p0.toInt) rfl (by omega))
        refine lv_iload_n hx hb dX12_groundedBy_24 rfl (lv_at hl 0 rfl) ?_
        refine lv_iadd hx hb dX12_groundedBy_25 ?_
        refine lv_topi (fun z11653 e11654 => ?_)
        try (have t11655 := tadd e11654 (a := z11650.toInt) rfl (b := x3_lp11566.toInt) rfl (by omega))
        refine va_iald hx hb hK hP 9 8 rfl rfl (i := z11653) (vin (a := z11653.toInt) rfl (by omega)) dX12_groundedBy_26 ?_
        refine lv_topi (fun z11656 e11657 => ?_)
        have e11657 : z11656 = F 9 (z11653 : Int32).toNatClampNeg := e11657.trans (congrFun (hF 9 (by decide)) _)
        refine lv_icmp_ge (tgt := 32) hx hb dX12_groundedBy_27 (by decide) (fun c11658 => ?_) (fun c11658 => ?_)
        · skip
          have t11659 := cv_le (a := z11656.toInt) rfl (b := r11649.toInt) rfl c11658
          obtain ⟨z11660, e11661⟩ : ∃ y : Int32, y = x3_lp11566 + 1 := ⟨_, rfl⟩
          try (have t11662 := tadd e11661 rfl (b := 1) (by decide) (by omega))
          refine lv_iinc (v := z11660) (lv' := [(3, .int z11660), (0, .ref (g 0)), (1, .int p0), (2, .int p1)]) hx hb dX12_groundedBy_32 hl (k := 0) rfl (by rw [e11661]; rfl) (by decide) rfl (fun ls hl => ?_)
          refine lv_goto (tgt := 2) hx hb dX12_groundedBy_35 (by decide) ?_
          exact ih_lp11566 z11660 v_lp11566 F_lp11566 _ _ _ (by omega) (by omega) hf_lp11566 hI hF hP hS (lv_sub hl [0, 1, 2, 3] rfl)
        · skip
          have t11663 := cv_nle (a := z11656.toInt) rfl (b := r11649.toInt) rfl c11658
          refine lv_iconst (v := 1) hx hb dX12_groundedBy_30 (by decide) ?_
          have hP9 : va_P (dC, dI) classes (wM g c v_lp11566 F_lp11566 rc) H := hP
          exact W.iret (v := 1) hx hb hr (fun t ht hW => ⟨⟨1, (v_lp11566, F_lp11566, rc), rfl, ⟨hI, rfl, (frC (by decide) hf_lp11566 (fun _ _ => rfl)), hF, trivial⟩, (by show va_P _ _ _ t.heap; rw [ht]; exact hP9)⟩, hS.F ht⟩) hS.2.2 dX12_groundedBy_31
  obtain ⟨n9, hn9⟩ : ∃ n : Nat, 2147483648 - 0 ≤ (n : Int) := ⟨((2147483648 - 0 : Int)).toNat, by omega⟩
  exact lp11566 n9 0 v F H _ ls (by have : (0 : Int32).toInt = 0 := (by decide); omega) (by have : (0 : Int32).toInt = 0 := (by decide); omega) (fun _ _ => rfl) hI hF hP hS hl
set_option maxHeartbeats 8000000 in
set_option maxRecDepth 100000 in
theorem c_X12_grounded (l : Launch) (dC : Nat → ClassId) (dI : Nat → Nat → Nat) (g : Nat → Nat) (c : Nat → ClassId) (adK adV : Nat → Nat) (v : Nat → Int32) (F : Nat → Nat → Int32) (rc sz : Nat) (p0 : Int32) (p1 : Int32) (hg : injM g) (hI : IM v F) (hL : JL (v 31) (F 28) (F 29) (F 27)) : Met l yX12_grounded (Cond.code yX12_grounded cX12_grounded 3 (some .int) :: wA) ({ frames := 6, cells := 0, slots := 0, locals := 240 }) (va_Pc [.ref (g 0), .int p0, .int p1] (PM dC dI g c adK adV v F rc sz)) (va_Qi (fun (r : Int32) (u : StM) => IM u.1 u.2.1 ∧ u.2.2 = rc ∧ (∀ k, k ∉ ([] : List Nat) → u.1 k = v k) ∧ (∀ k, k ∉ ([30, 31] : List Nat) → u.2.1 k = F k) ∧ True) (BM dC dI g c) (AM g sz)) 0 0 (AM g sz) := by
  refine Met.ofW (cc := cX12_grounded) (maxL := 3) (ret := (some .int)) (by decide) rfl ?_
  intro p e s m args below meth c0 s₁ B hml hv
  obtain ⟨rfl, hsz, hP, hK, hE⟩ := hv
  have hx := B.exec
  have hb := B.bytes
  have hr := B.returns
  have hts := atoms_spec (ws := Cond.code yX12_grounded cX12_grounded 3 (some .int) :: wA) B.pre
  have hwd : ∀ w ∈ wA, w.before _ s = true := fun w h => hts w (List.mem_cons_of_mem _ h)
  have hown : s.vm.findClass RX12 = some m.cls := findClass_of_methodNamed B.named
  have hlocks := B.notSynchronized
  subst hsz
  have hl := lv_entry ([.ref (g 0), .int p0, .int p1]) (n := 3) (Nat.le_of_ble_eq_true rfl)
  rw [lg_entry_eq]
  generalize (lg_sl ([.ref (g 0), .int p0, .int p1]) ++ List.replicate (3 - (lg_sl ([.ref (g 0), .int p0, .int p1])).length) Slot.unset).toArray = ls at hl ⊢
  have hl : lv_has ls 3 [(0, .ref (g 0)), (1, .int p0), (2, .int p1)] := hl
  obtain ⟨H, eH⟩ : ∃ z, z = s.heap := ⟨_, rfl⟩
  have hP : va_P (dC, dI) classes (wM g c v F rc) H := by rw [eH]; exact hP
  have hS : va_S (AM g s.heap.size) s.heap H [] := by rw [eH]; exact va_S.rf
  refine my_heap eH ?_
  have hF : ∀ k, k ∉ ([30, 31] : List Nat) → F k = F k := fun _ _ => rfl
  have rp0 := i32_rng p0
  have rp1 := i32_rng p1
  have hb31 : 0 ≤ (v 31).toInt ∧ (v 31).toInt ≤ 10 := hI.1 31 _ _ rfl
  refine lv_aload_n hx hb dX12_grounded_0 rfl (lv_at hl 0 rfl) ?_
  refine lv_iload_n hx hb dX12_grounded_1 rfl (lv_at hl 1 rfl) ?_
  have t11678 : 0 ≤ (v 6).toInt ∧ (v 6).toInt ≤ 10 := hI.1 6 _ _ rfl
  refine va_calli (va_runV (As := [.int p0]) (rest := []) ⟨hx, hb, hml, hown, hwd⟩ (c_X12_isPlane l dC dI g c adK adV v F rc H.size p0 hg hI ) (cwV 1 hwd (gV wk_305 wk_302 wk_303 wk_304 wk_5) rfl rfl rfl (by decide +kernel) ⟨Nat.le_of_ble_eq_true rfl, Nat.le_of_ble_eq_true rfl⟩) ⟨PM.blind, va_recv hK hP (ci := 12) (q0 := 0) rfl rfl, fun U hU hW => ⟨rfl, PM.at hK hE hP hS hU hW⟩⟩ rfl rfl hl.1 rfl (lv_room (Nat.le_of_ble_eq_true rfl)) dX12_grounded_2 ⟨Nat.le_of_ble_eq_true rfl, Nat.le_of_ble_eq_true rfl⟩) hS (fun q _ h => (freeM hS) q h) (freeM hS) (fun r11679 u t H1 locs ht hvm hw hB hz1 hk1 hS => ?_)
  unfold BM at hB
  rw [ht] at hB
  have hP : va_P (dC, dI) classes (wM g c v F rc) H1 := hB
  replace hw : (r11679.toInt = 1 ∧ 0 ≤ p0.toInt ∧ p0.toInt < (v 6).toInt) ∨ (r11679.toInt = 0 ∧ (p0.toInt < 0 ∨ (v 6).toInt ≤ p0.toInt)) := hw
  have hw_r11679 := hw
  clear hw
  clear hz1
  generalize H1 = H at hP hS ⊢
  refine lv_if_eq (tgt := 24) hx hb dX12_grounded_5 (by decide) (fun c11680 => ?_) (fun c11680 => ?_)
  · skip
    have t11681 := cv_eq (a := r11679.toInt) rfl (b := 0) (by decide) c11680
    refine lv_iconst (v := (-1)) hx hb dX12_grounded_24 (by decide) ?_
    have hP9 : va_P (dC, dI) classes (wM g c v F rc) H := hP
    exact W.iret (v := (-1)) hx hb hr (fun t ht hW => ⟨⟨(-1), (v, F, rc), rfl, ⟨hI, rfl, (fun _ _ => rfl), hF, trivial⟩, (by show va_P _ _ _ t.heap; rw [ht]; exact hP9)⟩, hS.F ht⟩) hS.2.2 dX12_grounded_25
  · skip
    have t11682 := cv_ne (a := r11679.toInt) rfl (b := 0) (by decide) c11680
    refine lv_iload_n hx hb dX12_grounded_8 rfl (lv_at hl 2 rfl) ?_
    refine va_calli (va_runS (As := [.int p1]) (rest := []) ⟨hx, hb, hml, hown, hwd⟩ (c_X12_isDay l dC dI g c adK adV v F rc H.size p1 hg hI ) (va_cwS 1 hwd (gT wk_556 wk_554 wk_555 wk_5) rfl rfl rfl (by decide +kernel) ⟨Nat.le_of_ble_eq_true rfl, Nat.le_of_ble_eq_true rfl⟩) ⟨PM.blind, fun U hU hW => ⟨rfl, PM.at hK hE hP hS hU hW⟩⟩ rfl rfl hl.1 rfl (lv_room (Nat.le_of_ble_eq_true rfl)) dX12_grounded_9 ⟨Nat.le_of_ble_eq_true rfl, Nat.le_of_ble_eq_true rfl⟩) hS (fun q _ h => (freeM hS) q h) (freeM hS) (fun r11683 u t H1 locs ht hvm hw hB hz1 hk1 hS => ?_)
    unfold BM at hB
    rw [ht] at hB
    have hP : va_P (dC, dI) classes (wM g c v F rc) H1 := hB
    have hw_r11683 : (r11683.toInt = 1 ∧ 0 ≤ p1.toInt ∧ p1.toInt ≤ 9999) ∨ (r11683.toInt = 0 ∧ (p1.toInt < 0 ∨ 9999 < p1.toInt)) := hw
    clear hw
    clear hz1
    generalize H1 = H at hP hS ⊢
    refine lv_if_eq (tgt := 24) hx hb dX12_grounded_12 (by decide) (fun c11684 => ?_) (fun c11684 => ?_)
    · skip
      have t11685 := cv_eq (a := r11683.toInt) rfl (b := 0) (by decide) c11684
      refine lv_iconst (v := (-1)) hx hb dX12_grounded_24 (by decide) ?_
      have hP9 : va_P (dC, dI) classes (wM g c v F rc) H := hP
      exact W.iret (v := (-1)) hx hb hr (fun t ht hW => ⟨⟨(-1), (v, F, rc), rfl, ⟨hI, rfl, (fun _ _ => rfl), hF, trivial⟩, (by show va_P _ _ _ t.heap; rw [ht]; exact hP9)⟩, hS.F ht⟩) hS.2.2 dX12_grounded_25
    · skip
      have t11686 := cv_ne (a := r11683.toInt) rfl (b := 0) (by decide) c11684
      refine lv_aload_n hx hb dX12_grounded_15 rfl (lv_at hl 0 rfl) ?_
      refine lv_iload_n hx hb dX12_grounded_16 rfl (lv_at hl 1 rfl) ?_
      refine lv_iload_n hx hb dX12_grounded_17 rfl (lv_at hl 2 rfl) ?_
      refine va_calli (va_runV (As := [.int p0, .int p1]) (rest := []) ⟨hx, hb, hml, hown, hwd⟩ (c_X12_groundedBy l dC dI g c adK adV v F rc H.size p0 p1 hg hI (by omega) (JL.to hL (show v 31 = v 31 from rfl) rfl rfl rfl)) (cwV 2 hwd (gV wk_484 wk_481 wk_482 wk_483 wk_5) rfl rfl rfl (by decide +kernel) ⟨Nat.le_of_ble_eq_true rfl, Nat.le_of_ble_eq_true rfl⟩) ⟨PM.blind, va_recv hK hP (ci := 12) (q0 := 0) rfl rfl, fun U hU hW => ⟨rfl, PM.at hK hE hP hS hU hW⟩⟩ rfl rfl hl.1 rfl (lv_room (Nat.le_of_ble_eq_true rfl)) dX12_grounded_18 ⟨Nat.le_of_ble_eq_true rfl, Nat.le_of_ble_eq_true rfl⟩) hS (fun q _ h => (freeM hS) q h) (freeM hS) (fun r11687 u t H1 locs ht hvm hw hB hz1 hk1 hS => ?_)
      unfold BM at hB
      rw [ht] at hB
      obtain ⟨v11688, F11689, rc9⟩ := u
      obtain ⟨hI, hrc, hf11690, hG11691, hw⟩ := hw
      dsimp only at hI hrc hB hf11690 hG11691 hw
      have hF := frCF (by decide) hG11691 hF
      rw [hrc] at hB
      have hP : va_P (dC, dI) classes (wM g c v11688 F11689 rc) H1 := hB
      clear hz1
      generalize H1 = H at hP hS ⊢
      have rr_r11687 := i32_rng r11687
      refine lv_goto (tgt := 25) hx hb dX12_grounded_21 (by decide) ?_
      have hP9 : va_P (dC, dI) classes (wM g c v11688 F11689 rc) H := hP
      exact W.iret (v := r11687) hx hb hr (fun t ht hW => ⟨⟨r11687, (v11688, F11689, rc), rfl, ⟨hI, rfl, (frC (by decide) hf11690 (fun _ _ => rfl)), hF, trivial⟩, (by show va_P _ _ _ t.heap; rw [ht]; exact hP9)⟩, hS.F ht⟩) hS.2.2 dX12_grounded_25
set_option maxHeartbeats 8000000 in
set_option maxRecDepth 100000 in
theorem c_X12_insure (l : Launch) (dC : Nat → ClassId) (dI : Nat → Nat → Nat) (g : Nat → Nat) (c : Nat → ClassId) (adK adV : Nat → Nat) (v : Nat → Int32) (F : Nat → Nat → Int32) (rc sz : Nat) (p0 : Int32) (hg : injM g) (hI : IM v F) (hL : JL (v 31) (F 28) (F 29) (F 27)) : Met l yX12_insure (Cond.code yX12_insure cX12_insure 3 (some .int) :: wA) ({ frames := 6, cells := 0, slots := 0, locals := 240 }) (va_Pc [.ref (g 0), .int p0] (PM dC dI g c adK adV v F rc sz)) (va_Qi (fun (r : Int32) (u : StM) => IM u.1 u.2.1 ∧ u.2.2 = rc ∧ (∀ k, k ∉ ([] : List Nat) → u.1 k = v k) ∧ (∀ k, k ∉ ([30, 31] : List Nat) → u.2.1 k = F k) ∧ True) (BM dC dI g c) (AM g sz)) 0 0 (AM g sz) := by
  refine Met.ofW (cc := cX12_insure) (maxL := 3) (ret := (some .int)) (by decide) rfl ?_
  intro p e s m args below meth c0 s₁ B hml hv
  obtain ⟨rfl, hsz, hP, hK, hE⟩ := hv
  have hx := B.exec
  have hb := B.bytes
  have hr := B.returns
  have hts := atoms_spec (ws := Cond.code yX12_insure cX12_insure 3 (some .int) :: wA) B.pre
  have hwd : ∀ w ∈ wA, w.before _ s = true := fun w h => hts w (List.mem_cons_of_mem _ h)
  have hown : s.vm.findClass RX12 = some m.cls := findClass_of_methodNamed B.named
  have hlocks := B.notSynchronized
  subst hsz
  have hl := lv_entry ([.ref (g 0), .int p0]) (n := 3) (Nat.le_of_ble_eq_true rfl)
  rw [lg_entry_eq]
  generalize (lg_sl ([.ref (g 0), .int p0]) ++ List.replicate (3 - (lg_sl ([.ref (g 0), .int p0])).length) Slot.unset).toArray = ls at hl ⊢
  have hl : lv_has ls 3 [(0, .ref (g 0)), (1, .int p0)] := hl
  obtain ⟨H, eH⟩ : ∃ z, z = s.heap := ⟨_, rfl⟩
  have hP : va_P (dC, dI) classes (wM g c v F rc) H := by rw [eH]; exact hP
  have hS : va_S (AM g s.heap.size) s.heap H [] := by rw [eH]; exact va_S.rf
  refine my_heap eH ?_
  have hF : ∀ k, k ∉ ([30, 31] : List Nat) → F k = F k := fun _ _ => rfl
  have rp0 := i32_rng p0
  have hb31 : 0 ≤ (v 31).toInt ∧ (v 31).toInt ≤ 10 := hI.1 31 _ _ rfl
  refine lv_aload_n hx hb dX12_insure_0 rfl (lv_at hl 0 rfl) ?_
  refine lv_iload_n hx hb dX12_insure_1 rfl (lv_at hl 1 rfl) ?_
  have t11735 : 0 ≤ (v 6).toInt ∧ (v 6).toInt ≤ 10 := hI.1 6 _ _ rfl
  refine va_calli (va_runV (As := [.int p0]) (rest := []) ⟨hx, hb, hml, hown, hwd⟩ (c_X12_isPlane l dC dI g c adK adV v F rc H.size p0 hg hI ) (cwV 1 hwd (gV wk_305 wk_302 wk_303 wk_304 wk_5) rfl rfl rfl (by decide +kernel) ⟨Nat.le_of_ble_eq_true rfl, Nat.le_of_ble_eq_true rfl⟩) ⟨PM.blind, va_recv hK hP (ci := 12) (q0 := 0) rfl rfl, fun U hU hW => ⟨rfl, PM.at hK hE hP hS hU hW⟩⟩ rfl rfl hl.1 rfl (lv_room (Nat.le_of_ble_eq_true rfl)) dX12_insure_2 ⟨Nat.le_of_ble_eq_true rfl, Nat.le_of_ble_eq_true rfl⟩) hS (fun q _ h => (freeM hS) q h) (freeM hS) (fun r11736 u t H1 locs ht hvm hw hB hz1 hk1 hS => ?_)
  unfold BM at hB
  rw [ht] at hB
  have hP : va_P (dC, dI) classes (wM g c v F rc) H1 := hB
  replace hw : (r11736.toInt = 1 ∧ 0 ≤ p0.toInt ∧ p0.toInt < (v 6).toInt) ∨ (r11736.toInt = 0 ∧ (p0.toInt < 0 ∨ (v 6).toInt ≤ p0.toInt)) := hw
  have hw_r11736 := hw
  clear hw
  clear hz1
  generalize H1 = H at hP hS ⊢
  refine lv_if_ne (tgt := 10) hx hb dX12_insure_5 (by decide) (fun c11737 => ?_) (fun c11737 => ?_)
  · skip
    have t11738 := cv_ne (a := r11736.toInt) rfl (b := 0) (by decide) c11737
    refine lv_aload_n hx hb dX12_insure_10 rfl (lv_at hl 0 rfl) ?_
    refine lv_iload_n hx hb dX12_insure_11 rfl (lv_at hl 1 rfl) ?_
    refine lv_aload_n hx hb dX12_insure_12 rfl (lv_at hl 0 rfl) ?_
    refine va_get (D := (dC, dI)) (ci := 12) (v := .int (v 1)) (C := RX12) (T := TX12) (N := 63) hx hb hwd inA_X12 hown hK hP 0 rfl rfl 1 (by decide) (hwd _ wk_332) (fun _ h9 => h9) rfl dX12_insure_13 ?_
    have t11739 : 0 ≤ (v 1).toInt ∧ (v 1).toInt ≤ 9999 := hI.1 1 _ _ rfl
    refine va_calli (va_runV (As := [.int p0, .int (v 1)]) (rest := []) ⟨hx, hb, hml, hown, hwd⟩ (c_X12_groundedBy l dC dI g c adK adV v F rc H.size p0 (v 1) hg hI (by omega) (JL.to hL (show v 31 = v 31 from rfl) rfl rfl rfl)) (cwV 2 hwd (gV wk_484 wk_481 wk_482 wk_483 wk_5) rfl rfl rfl (by decide +kernel) ⟨Nat.le_of_ble_eq_true rfl, Nat.le_of_ble_eq_true rfl⟩) ⟨PM.blind, va_recv hK hP (ci := 12) (q0 := 0) rfl rfl, fun U hU hW => ⟨rfl, PM.at hK hE hP hS hU hW⟩⟩ rfl rfl hl.1 rfl (lv_room (Nat.le_of_ble_eq_true rfl)) dX12_insure_16 ⟨Nat.le_of_ble_eq_true rfl, Nat.le_of_ble_eq_true rfl⟩) hS (fun q _ h => (freeM hS) q h) (freeM hS) (fun r11740 u t H1 locs ht hvm hw hB hz1 hk1 hS => ?_)
    unfold BM at hB
    rw [ht] at hB
    obtain ⟨v11741, F11742, rc9⟩ := u
    obtain ⟨hI, hrc, hf11743, hG11744, hw⟩ := hw
    dsimp only at hI hrc hB hf11743 hG11744 hw
    have hF := frCF (by decide) hG11744 hF
    rw [hrc] at hB
    have hP : va_P (dC, dI) classes (wM g c v11741 F11742 rc) H1 := hB
    clear hz1
    generalize H1 = H at hP hS ⊢
    have rr_r11740 := i32_rng r11740
    refine lv_if_eq (tgt := 24) hx hb dX12_insure_19 (by decide) (fun c11745 => ?_) (fun c11745 => ?_)
    · skip
      have t11746 := cv_eq (a := r11740.toInt) rfl (b := 0) (by decide) c11745
      refine lv_aload_n hx hb dX12_insure_24 rfl (lv_at hl 0 rfl) ?_
      refine lv_iload_n hx hb dX12_insure_25 rfl (lv_at hl 1 rfl) ?_
      refine lv_aload_n hx hb dX12_insure_26 rfl (lv_at hl 0 rfl) ?_
      refine va_get (D := (dC, dI)) (ci := 12) (v := .int (v11741 1)) (C := RX12) (T := TX12) (N := 63) hx hb hwd inA_X12 hown hK hP 0 rfl rfl 1 (by decide) (hwd _ wk_332) (fun _ h9 => h9) rfl dX12_insure_27 ?_
      refine my_top (v := v 1) (hf11743 1 (by decide)) ?_
      have t11747 : 0 ≤ (v 1).toInt ∧ (v 1).toInt ≤ 9999 := by have h9 := hI.1 1 _ _ rfl; rw [show v11741 1 = v 1 from hf11743 1 (by decide)] at h9; exact h9
      refine va_calli (va_runV (As := [.int p0, .int (v 1)]) (rest := []) ⟨hx, hb, hml, hown, hwd⟩ (c_X12_halfOf l dC dI g c adK adV v11741 F11742 rc H.size p0 (v 1) hg hI (JL.to hL (show v11741 31 = v 31 from hf11743 31 (by decide)) (hF 28 (by decide)) (hF 29 (by decide)) (hF 27 (by decide)))) (cwV 2 hwd (gV wk_1378 wk_1375 wk_1376 wk_1377 wk_5) rfl rfl rfl (by decide +kernel) ⟨Nat.le_of_ble_eq_true rfl, Nat.le_of_ble_eq_true rfl⟩) ⟨PM.blind, va_recv hK hP (ci := 12) (q0 := 0) rfl rfl, fun U hU hW => ⟨rfl, PM.at hK hE hP hS hU hW⟩⟩ rfl rfl hl.1 rfl (lv_room (Nat.le_of_ble_eq_true rfl)) dX12_insure_30 ⟨Nat.le_of_ble_eq_true rfl, Nat.le_of_ble_eq_true rfl⟩) hS (fun q _ h => (freeM hS) q h) (freeM hS) (fun r11748 u t H1 locs ht hvm hw hB hz1 hk1 hS => ?_)
      unfold BM at hB
      rw [ht] at hB
      obtain ⟨v11749, F11750, rc9⟩ := u
      obtain ⟨hI, hrc, hf11751, hG11752, hw⟩ := hw
      dsimp only at hI hrc hB hf11751 hG11752 hw
      have hF := frCF (by decide) hG11752 hF
      rw [hrc] at hB
      have hP : va_P (dC, dI) classes (wM g c v11749 F11750 rc) H1 := hB
      clear hz1
      generalize H1 = H at hP hS ⊢
      have rr_r11748 := i32_rng r11748
      refine lv_istore_n (lv' := [(2, .int r11748), (0, .ref (g 0)), (1, .int p0)]) hx hb dX12_insure_33 rfl hl (by decide) rfl (fun ls hl => ?_)
      refine lv_aload_n hx hb dX12_insure_34 rfl (lv_at hl 1 rfl) ?_
      refine va_get (D := (dC, dI)) (ci := 12) (v := .ref (g 4)) (C := RX12) (T := TX12) (N := 63) hx hb hwd inA_X12 hown hK hP 0 rfl rfl 7 (by decide) (hwd _ wk_185) (fun _ h9 => h9) rfl dX12_insure_35 ?_
      refine lv_iload_n hx hb dX12_insure_38 rfl (lv_at hl 2 rfl) ?_
      refine va_iald hx hb hK hP 4 3 rfl rfl (i := p0) (vin (a := p0.toInt) rfl (by omega)) dX12_insure_39 ?_
      refine lv_topi (fun z11753 e11754 => ?_)
      have e11754 : z11753 = F 4 (p0 : Int32).toNatClampNeg := e11754.trans (congrFun (hF 4 (by decide)) _)
      refine lv_iload_n hx hb dX12_insure_40 rfl (lv_at hl 0 rfl) ?_
      refine lv_if_ge (tgt := 48) hx hb dX12_insure_41 (by decide) (fun c11755 => ?_) (fun c11755 => ?_)
      · skip
        have t11756 := cv_le (a := 0) (by decide) (b := r11748.toInt) rfl c11755
        refine lv_iload_n hx hb dX12_insure_48 rfl (lv_at hl 0 rfl) ?_
        refine lv_iadd hx hb dX12_insure_49 ?_
        refine lv_topi (fun z11757 e11758 => ?_)
        try (have t11759 := tadd e11758 (a := z11753.toInt) rfl (b := r11748.toInt) rfl (by omega))
        refine lv_sipush (v := 999) hx hb dX12_insure_50 (by decide) ?_
        refine lv_iadd hx hb dX12_insure_53 ?_
        refine lv_topi (fun z11760 e11761 => ?_)
        try (have t11762 := tadd e11761 (a := z11757.toInt) rfl (b := 999) (by decide) (by omega))
        refine lv_sipush (v := 1000) hx hb dX12_insure_54 (by decide) ?_
        refine lv_idiv hx hb dX12_insure_57 (by decide) ?_
        refine lv_topi (fun z11763 e11764 => ?_)
        have hP9 : va_P (dC, dI) classes (wM g c v11749 F11750 rc) H := hP
        exact W.iret (v := z11763) hx hb hr (fun t ht hW => ⟨⟨z11763, (v11749, F11750, rc), rfl, ⟨hI, rfl, (frC (by decide) hf11751 (frC (by decide) hf11743 (fun _ _ => rfl))), hF, trivial⟩, (by show va_P _ _ _ t.heap; rw [ht]; exact hP9)⟩, hS.F ht⟩) hS.2.2 dX12_insure_58
      · skip
        have t11766 := cv_nle (a := 0) (by decide) (b := r11748.toInt) rfl c11755
        refine lv_iconst (v := 0) hx hb dX12_insure_44 (by decide) ?_
        refine lv_goto (tgt := 49) hx hb dX12_insure_45 (by decide) ?_
        refine lv_iadd hx hb dX12_insure_49 ?_
        refine lv_topi (fun z11767 e11768 => ?_)
        try (have t11769 := tadd e11768 (a := z11753.toInt) rfl (b := 0) (by decide) (by omega))
        refine lv_sipush (v := 999) hx hb dX12_insure_50 (by decide) ?_
        refine lv_iadd hx hb dX12_insure_53 ?_
        refine lv_topi (fun z11770 e11771 => ?_)
        try (have t11772 := tadd e11771 (a := z11767.toInt) rfl (b := 999) (by decide) (by omega))
        refine lv_sipush (v := 1000) hx hb dX12_insure_54 (by decide) ?_
        refine lv_idiv hx hb dX12_insure_57 (by decide) ?_
        refine lv_topi (fun z11773 e11774 => ?_)
        have hP9 : va_P (dC, dI) classes (wM g c v11749 F11750 rc) H := hP
        exact W.iret (v := z11773) hx hb hr (fun t ht hW => ⟨⟨z11773, (v11749, F11750, rc), rfl, ⟨hI, rfl, (frC (by decide) hf11751 (frC (by decide) hf11743 (fun _ _ => rfl))), hF, trivial⟩, (by show va_P _ _ _ t.heap; rw [ht]; exact hP9)⟩, hS.F ht⟩) hS.2.2 dX12_insure_58
    · skip
      have t11776 := cv_ne (a := r11740.toInt) rfl (b := 0) (by decide) c11745
      refine lv_iconst (v := 0) hx hb dX12_insure_22 (by decide) ?_
      have hP9 : va_P (dC, dI) classes (wM g c v11741 F11742 rc) H := hP
      exact W.iret (v := 0) hx hb hr (fun t ht hW => ⟨⟨0, (v11741, F11742, rc), rfl, ⟨hI, rfl, (frC (by decide) hf11743 (fun _ _ => rfl)), hF, trivial⟩, (by show va_P _ _ _ t.heap; rw [ht]; exact hP9)⟩, hS.F ht⟩) hS.2.2 dX12_insure_23
  · skip
    have t11777 := cv_eq (a := r11736.toInt) rfl (b := 0) (by decide) c11737
    refine lv_iconst (v := (-1)) hx hb dX12_insure_8 (by decide) ?_
    have hP9 : va_P (dC, dI) classes (wM g c v F rc) H := hP
    exact W.iret (v := (-1)) hx hb hr (fun t ht hW => ⟨⟨(-1), (v, F, rc), rfl, ⟨hI, rfl, (fun _ _ => rfl), hF, trivial⟩, (by show va_P _ _ _ t.heap; rw [ht]; exact hP9)⟩, hS.F ht⟩) hS.2.2 dX12_insure_9
set_option maxHeartbeats 8000000 in
set_option maxRecDepth 100000 in
theorem c_X12_fly (l : Launch) (dC : Nat → ClassId) (dI : Nat → Nat → Nat) (g : Nat → Nat) (c : Nat → ClassId) (adK adV : Nat → Nat) (v : Nat → Int32) (F : Nat → Nat → Int32) (rc sz : Nat) (p0 : Int32) (p1 : Int32) (p2 : Int32) (hg : injM g) (hI : IM v F) (hL : JL (v 31) (F 28) (F 29) (F 27)) : Met l yX12_fly (Cond.code yX12_fly cX12_fly 6 (some .int) :: wA) ({ frames := 6, cells := 0, slots := 0, locals := 240 }) (va_Pc [.ref (g 0), .int p0, .int p1, .int p2] (PM dC dI g c adK adV v F rc sz)) (va_Qi (fun (r : Int32) (u : StM) => IM u.1 u.2.1 ∧ u.2.2 = rc ∧ (∀ k, k ∉ ([] : List Nat) → u.1 k = v k) ∧ (∀ k, k ∉ ([5, 6, 10, 14, 30, 31] : List Nat) → u.2.1 k = F k) ∧ True) (BM dC dI g c) (AM g sz)) 0 0 (AM g sz) := by
  refine Met.ofW (cc := cX12_fly) (maxL := 6) (ret := (some .int)) (by decide) rfl ?_
  intro p e s m args below meth c0 s₁ B hml hv
  obtain ⟨rfl, hsz, hP, hK, hE⟩ := hv
  have hx := B.exec
  have hb := B.bytes
  have hr := B.returns
  have hts := atoms_spec (ws := Cond.code yX12_fly cX12_fly 6 (some .int) :: wA) B.pre
  have hwd : ∀ w ∈ wA, w.before _ s = true := fun w h => hts w (List.mem_cons_of_mem _ h)
  have hown : s.vm.findClass RX12 = some m.cls := findClass_of_methodNamed B.named
  have hlocks := B.notSynchronized
  subst hsz
  have hl := lv_entry ([.ref (g 0), .int p0, .int p1, .int p2]) (n := 6) (Nat.le_of_ble_eq_true rfl)
  rw [lg_entry_eq]
  generalize (lg_sl ([.ref (g 0), .int p0, .int p1, .int p2]) ++ List.replicate (6 - (lg_sl ([.ref (g 0), .int p0, .int p1, .int p2])).length) Slot.unset).toArray = ls at hl ⊢
  have hl : lv_has ls 6 [(0, .ref (g 0)), (1, .int p0), (2, .int p1), (3, .int p2)] := hl
  obtain ⟨H, eH⟩ : ∃ z, z = s.heap := ⟨_, rfl⟩
  have hP : va_P (dC, dI) classes (wM g c v F rc) H := by rw [eH]; exact hP
  have hS : va_S (AM g s.heap.size) s.heap H [] := by rw [eH]; exact va_S.rf
  refine my_heap eH ?_
  have hF : ∀ k, k ∉ ([5, 6, 10, 14, 30, 31] : List Nat) → F k = F k := fun _ _ => rfl
  have rp0 := i32_rng p0
  have rp1 := i32_rng p1
  have rp2 := i32_rng p2
  have hb31 : 0 ≤ (v 31).toInt ∧ (v 31).toInt ≤ 10 := hI.1 31 _ _ rfl
  refine lv_aload_n hx hb dX12_fly_0 rfl (lv_at hl 0 rfl) ?_
  refine lv_iload_n hx hb dX12_fly_1 rfl (lv_at hl 1 rfl) ?_
  have t11947 : 0 ≤ (v 6).toInt ∧ (v 6).toInt ≤ 10 := hI.1 6 _ _ rfl
  refine va_calli (va_runV (As := [.int p0]) (rest := []) ⟨hx, hb, hml, hown, hwd⟩ (c_X12_isPlane l dC dI g c adK adV v F rc H.size p0 hg hI ) (cwV 1 hwd (gV wk_305 wk_302 wk_303 wk_304 wk_5) rfl rfl rfl (by decide +kernel) ⟨Nat.le_of_ble_eq_true rfl, Nat.le_of_ble_eq_true rfl⟩) ⟨PM.blind, va_recv hK hP (ci := 12) (q0 := 0) rfl rfl, fun U hU hW => ⟨rfl, PM.at hK hE hP hS hU hW⟩⟩ rfl rfl hl.1 rfl (lv_room (Nat.le_of_ble_eq_true rfl)) dX12_fly_2 ⟨Nat.le_of_ble_eq_true rfl, Nat.le_of_ble_eq_true rfl⟩) hS (fun q _ h => (freeM hS) q h) (freeM hS) (fun r11948 u t H1 locs ht hvm hw hB hz1 hk1 hS => ?_)
  unfold BM at hB
  rw [ht] at hB
  have hP : va_P (dC, dI) classes (wM g c v F rc) H1 := hB
  replace hw : (r11948.toInt = 1 ∧ 0 ≤ p0.toInt ∧ p0.toInt < (v 6).toInt) ∨ (r11948.toInt = 0 ∧ (p0.toInt < 0 ∨ (v 6).toInt ≤ p0.toInt)) := hw
  have hw_r11948 := hw
  clear hw
  clear hz1
  generalize H1 = H at hP hS ⊢
  refine lv_if_eq (tgt := 30) hx hb dX12_fly_5 (by decide) (fun c11949 => ?_) (fun c11949 => ?_)
  · skip
    have t11950 := cv_eq (a := r11948.toInt) rfl (b := 0) (by decide) c11949
    refine lv_iconst (v := (-1)) hx hb dX12_fly_30 (by decide) ?_
    have hP9 : va_P (dC, dI) classes (wM g c v F rc) H := hP
    exact W.iret (v := (-1)) hx hb hr (fun t ht hW => ⟨⟨(-1), (v, F, rc), rfl, ⟨hI, rfl, (fun _ _ => rfl), hF, trivial⟩, (by show va_P _ _ _ t.heap; rw [ht]; exact hP9)⟩, hS.F ht⟩) hS.2.2 dX12_fly_31
  · skip
    have t11951 := cv_ne (a := r11948.toInt) rfl (b := 0) (by decide) c11949
    refine lv_iload_n hx hb dX12_fly_8 rfl (lv_at hl 2 rfl) ?_
    refine lv_iconst (v := 1) hx hb dX12_fly_9 (by decide) ?_
    refine lv_sipush (v := 999) hx hb dX12_fly_10 (by decide) ?_
    refine va_calli (va_runS (As := [.int p1, .int 1, .int 999]) (rest := []) ⟨hx, hb, hml, hown, hwd⟩ (c_X12_in l dC dI g c adK adV v F rc H.size p1 1 999 hg hI ) (va_cwS 3 hwd (gT wk_254 wk_252 wk_253 wk_5) rfl rfl rfl (by decide +kernel) ⟨Nat.le_of_ble_eq_true rfl, Nat.le_of_ble_eq_true rfl⟩) ⟨PM.blind, fun U hU hW => ⟨rfl, PM.at hK hE hP hS hU hW⟩⟩ rfl rfl hl.1 rfl (lv_room (Nat.le_of_ble_eq_true rfl)) dX12_fly_13 ⟨Nat.le_of_ble_eq_true rfl, Nat.le_of_ble_eq_true rfl⟩) hS (fun q _ h => (freeM hS) q h) (freeM hS) (fun r11952 u t H1 locs ht hvm hw hB hz1 hk1 hS => ?_)
    unfold BM at hB
    rw [ht] at hB
    have hP : va_P (dC, dI) classes (wM g c v F rc) H1 := hB
    have hw_r11952 : (r11952.toInt = 1 ∧ (1 : Int32).toInt ≤ p1.toInt ∧ p1.toInt ≤ (999 : Int32).toInt) ∨ (r11952.toInt = 0 ∧ (p1.toInt < (1 : Int32).toInt ∨ (999 : Int32).toInt < p1.toInt)) := hw
    clear hw
    have k11953 : (1 : Int32).toInt = 1 := by decide
    have k11954 : (999 : Int32).toInt = 999 := by decide
    clear hz1
    generalize H1 = H at hP hS ⊢
    refine lv_if_eq (tgt := 30) hx hb dX12_fly_16 (by decide) (fun c11955 => ?_) (fun c11955 => ?_)
    · skip
      have t11956 := cv_eq (a := r11952.toInt) rfl (b := 0) (by decide) c11955
      refine lv_iconst (v := (-1)) hx hb dX12_fly_30 (by decide) ?_
      have hP9 : va_P (dC, dI) classes (wM g c v F rc) H := hP
      exact W.iret (v := (-1)) hx hb hr (fun t ht hW => ⟨⟨(-1), (v, F, rc), rfl, ⟨hI, rfl, (fun _ _ => rfl), hF, trivial⟩, (by show va_P _ _ _ t.heap; rw [ht]; exact hP9)⟩, hS.F ht⟩) hS.2.2 dX12_fly_31
    · skip
      have t11957 := cv_ne (a := r11952.toInt) rfl (b := 0) (by decide) c11955
      refine lv_iload_n hx hb dX12_fly_19 rfl (lv_at hl 3 rfl) ?_
      refine lv_iconst (v := 0) hx hb dX12_fly_20 (by decide) ?_
      refine lv_sipush (v := 999) hx hb dX12_fly_21 (by decide) ?_
      refine va_calli (va_runS (As := [.int p2, .int 0, .int 999]) (rest := []) ⟨hx, hb, hml, hown, hwd⟩ (c_X12_in l dC dI g c adK adV v F rc H.size p2 0 999 hg hI ) (va_cwS 3 hwd (gT wk_254 wk_252 wk_253 wk_5) rfl rfl rfl (by decide +kernel) ⟨Nat.le_of_ble_eq_true rfl, Nat.le_of_ble_eq_true rfl⟩) ⟨PM.blind, fun U hU hW => ⟨rfl, PM.at hK hE hP hS hU hW⟩⟩ rfl rfl hl.1 rfl (lv_room (Nat.le_of_ble_eq_true rfl)) dX12_fly_24 ⟨Nat.le_of_ble_eq_true rfl, Nat.le_of_ble_eq_true rfl⟩) hS (fun q _ h => (freeM hS) q h) (freeM hS) (fun r11958 u t H1 locs ht hvm hw hB hz1 hk1 hS => ?_)
      unfold BM at hB
      rw [ht] at hB
      have hP : va_P (dC, dI) classes (wM g c v F rc) H1 := hB
      have hw_r11958 : (r11958.toInt = 1 ∧ (0 : Int32).toInt ≤ p2.toInt ∧ p2.toInt ≤ (999 : Int32).toInt) ∨ (r11958.toInt = 0 ∧ (p2.toInt < (0 : Int32).toInt ∨ (999 : Int32).toInt < p2.toInt)) := hw
      clear hw
      have k11959 : (0 : Int32).toInt = 0 := by decide
      have k11960 : (999 : Int32).toInt = 999 := by decide
      clear hz1
      generalize H1 = H at hP hS ⊢
      refine lv_if_ne (tgt := 32) hx hb dX12_fly_27 (by decide) (fun c11961 => ?_) (fun c11961 => ?_)
      · skip
        have t11962 := cv_ne (a := r11958.toInt) rfl (b := 0) (by decide) c11961
        refine lv_aload_n hx hb dX12_fly_32 rfl (lv_at hl 0 rfl) ?_
        refine lv_iload_n hx hb dX12_fly_33 rfl (lv_at hl 1 rfl) ?_
        refine va_calli (va_runV (As := [.int p0]) (rest := []) ⟨hx, hb, hml, hown, hwd⟩ (c_X12_isReturned l dC dI g c adK adV v F rc H.size p0 hg hI (by omega)) (cwV 1 hwd (gV wk_313 wk_310 wk_311 wk_312 wk_5) rfl rfl rfl (by decide +kernel) ⟨Nat.le_of_ble_eq_true rfl, Nat.le_of_ble_eq_true rfl⟩) ⟨PM.blind, va_recv hK hP (ci := 12) (q0 := 0) rfl rfl, fun U hU hW => ⟨rfl, PM.at hK hE hP hS hU hW⟩⟩ rfl rfl hl.1 rfl (lv_room (Nat.le_of_ble_eq_true rfl)) dX12_fly_34 ⟨Nat.le_of_ble_eq_true rfl, Nat.le_of_ble_eq_true rfl⟩) hS (fun q _ h => (freeM hS) q h) (freeM hS) (fun r11963 u t H1 locs ht hvm hw hB hz1 hk1 hS => ?_)
        unfold BM at hB
        rw [ht] at hB
        have hP : va_P (dC, dI) classes (wM g c v F rc) H1 := hB
        have hw_r11963 : 0 ≤ r11963.toInt ∧ r11963.toInt ≤ 1 := hw
        clear hw
        clear hz1
        generalize H1 = H at hP hS ⊢
        refine lv_if_ne (tgt := 78) hx hb dX12_fly_37 (by decide) (fun c11964 => ?_) (fun c11964 => ?_)
        · skip
          have t11965 := cv_ne (a := r11963.toInt) rfl (b := 0) (by decide) c11964
          refine lv_bipush (v := (-2)) hx hb dX12_fly_78 (by decide) ?_
          have hP9 : va_P (dC, dI) classes (wM g c v F rc) H := hP
          exact W.iret (v := (-2)) hx hb hr (fun t ht hW => ⟨⟨(-2), (v, F, rc), rfl, ⟨hI, rfl, (fun _ _ => rfl), hF, trivial⟩, (by show va_P _ _ _ t.heap; rw [ht]; exact hP9)⟩, hS.F ht⟩) hS.2.2 dX12_fly_80
        · skip
          have t11966 := cv_eq (a := r11963.toInt) rfl (b := 0) (by decide) c11964
          refine lv_aload_n hx hb dX12_fly_40 rfl (lv_at hl 0 rfl) ?_
          refine lv_iload_n hx hb dX12_fly_41 rfl (lv_at hl 1 rfl) ?_
          refine lv_aload_n hx hb dX12_fly_42 rfl (lv_at hl 0 rfl) ?_
          refine va_get (D := (dC, dI)) (ci := 12) (v := .int (v 1)) (C := RX12) (T := TX12) (N := 63) hx hb hwd inA_X12 hown hK hP 0 rfl rfl 1 (by decide) (hwd _ wk_332) (fun _ h9 => h9) rfl dX12_fly_43 ?_
          have t11967 : 0 ≤ (v 1).toInt ∧ (v 1).toInt ≤ 9999 := hI.1 1 _ _ rfl
          refine va_calli (va_runV (As := [.int p0, .int (v 1)]) (rest := []) ⟨hx, hb, hml, hown, hwd⟩ (c_X12_groundedBy l dC dI g c adK adV v F rc H.size p0 (v 1) hg hI (by omega) (JL.to hL (show v 31 = v 31 from rfl) rfl rfl rfl)) (cwV 2 hwd (gV wk_484 wk_481 wk_482 wk_483 wk_5) rfl rfl rfl (by decide +kernel) ⟨Nat.le_of_ble_eq_true rfl, Nat.le_of_ble_eq_true rfl⟩) ⟨PM.blind, va_recv hK hP (ci := 12) (q0 := 0) rfl rfl, fun U hU hW => ⟨rfl, PM.at hK hE hP hS hU hW⟩⟩ rfl rfl hl.1 rfl (lv_room (Nat.le_of_ble_eq_true rfl)) dX12_fly_46 ⟨Nat.le_of_ble_eq_true rfl, Nat.le_of_ble_eq_true rfl⟩) hS (fun q _ h => (freeM hS) q h) (freeM hS) (fun r11968 u t H1 locs ht hvm hw hB hz1 hk1 hS => ?_)
          unfold BM at hB
          rw [ht] at hB
          obtain ⟨v11969, F11970, rc9⟩ := u
          obtain ⟨hI, hrc, hf11971, hG11972, hw⟩ := hw
          dsimp only at hI hrc hB hf11971 hG11972 hw
          have hF := frCF (by decide) hG11972 hF
          rw [hrc] at hB
          have hP : va_P (dC, dI) classes (wM g c v11969 F11970 rc) H1 := hB
          clear hz1
          generalize H1 = H at hP hS ⊢
          have rr_r11968 := i32_rng r11968
          refine lv_if_ne (tgt := 78) hx hb dX12_fly_49 (by decide) (fun c11973 => ?_) (fun c11973 => ?_)
          · skip
            have t11974 := cv_ne (a := r11968.toInt) rfl (b := 0) (by decide) c11973
            refine lv_bipush (v := (-2)) hx hb dX12_fly_78 (by decide) ?_
            have hP9 : va_P (dC, dI) classes (wM g c v11969 F11970 rc) H := hP
            exact W.iret (v := (-2)) hx hb hr (fun t ht hW => ⟨⟨(-2), (v11969, F11970, rc), rfl, ⟨hI, rfl, (frC (by decide) hf11971 (fun _ _ => rfl)), hF, trivial⟩, (by show va_P _ _ _ t.heap; rw [ht]; exact hP9)⟩, hS.F ht⟩) hS.2.2 dX12_fly_80
          · skip
            have t11975 := cv_eq (a := r11968.toInt) rfl (b := 0) (by decide) c11973
            refine lv_aload_n hx hb dX12_fly_52 rfl (lv_at hl 0 rfl) ?_
            refine va_get (D := (dC, dI)) (ci := 12) (v := .ref (g 5)) (C := RX12) (T := TX12) (N := 63) hx hb hwd inA_X12 hown hK hP 0 rfl rfl 8 (by decide) (hwd _ wk_186) (fun _ h9 => h9) rfl dX12_fly_53 ?_
            refine lv_iload_n hx hb dX12_fly_56 rfl (lv_at hl 1 rfl) ?_
            refine va_iald hx hb hK hP 5 4 rfl rfl (i := p0) (vin (a := p0.toInt) rfl (by omega)) dX12_fly_57 ?_
            refine lv_topi (fun z11976 e11977 => ?_)
            refine lv_iload_n hx hb dX12_fly_58 rfl (lv_at hl 2 rfl) ?_
            refine lv_iadd hx hb dX12_fly_59 ?_
            refine lv_topi (fun z11978 e11979 => ?_)
            try (have t11980 := tadd e11979 (a := z11976.toInt) rfl (b := p1.toInt) rfl (by omega))
            refine lv_ldc (v := 999999) hx hb hown (hwd _ wk_250) dX12_fly_60 ?_
            refine lv_icmp_gt (tgt := 78) hx hb dX12_fly_62 (by decide) (fun c11981 => ?_) (fun c11981 => ?_)
            · skip
              have t11982 := cv_lt (a := 999999) (by decide) (b := z11978.toInt) rfl c11981
              refine lv_bipush (v := (-2)) hx hb dX12_fly_78 (by decide) ?_
              have hP9 : va_P (dC, dI) classes (wM g c v11969 F11970 rc) H := hP
              exact W.iret (v := (-2)) hx hb hr (fun t ht hW => ⟨⟨(-2), (v11969, F11970, rc), rfl, ⟨hI, rfl, (frC (by decide) hf11971 (fun _ _ => rfl)), hF, trivial⟩, (by show va_P _ _ _ t.heap; rw [ht]; exact hP9)⟩, hS.F ht⟩) hS.2.2 dX12_fly_80
            · skip
              have t11983 := cv_nlt (a := 999999) (by decide) (b := z11978.toInt) rfl c11981
              refine lv_aload_n hx hb dX12_fly_65 rfl (lv_at hl 0 rfl) ?_
              refine va_get (D := (dC, dI)) (ci := 12) (v := .ref (g 6)) (C := RX12) (T := TX12) (N := 63) hx hb hwd inA_X12 hown hK hP 0 rfl rfl 9 (by decide) (hwd _ wk_187) (fun _ h9 => h9) rfl dX12_fly_66 ?_
              refine lv_iload_n hx hb dX12_fly_69 rfl (lv_at hl 1 rfl) ?_
              refine va_iald hx hb hK hP 6 5 rfl rfl (i := p0) (vin (a := p0.toInt) rfl (by omega)) dX12_fly_70 ?_
              refine lv_topi (fun z11984 e11985 => ?_)
              refine lv_iload_n hx hb dX12_fly_71 rfl (lv_at hl 3 rfl) ?_
              refine lv_iadd hx hb dX12_fly_72 ?_
              refine lv_topi (fun z11986 e11987 => ?_)
              try (have t11988 := tadd e11987 (a := z11984.toInt) rfl (b := p2.toInt) rfl (by omega))
              refine lv_ldc (v := 999999) hx hb hown (hwd _ wk_250) dX12_fly_73 ?_
              refine lv_icmp_le (tgt := 81) hx hb dX12_fly_75 (by decide) (fun c11989 => ?_) (fun c11989 => ?_)
              · skip
                have t11990 := cv_le (a := z11986.toInt) rfl (b := 999999) (by decide) c11989
                refine lv_iconst (v := 0) hx hb dX12_fly_81 (by decide) ?_
                refine lv_istore (lv' := [(4, .int 0), (0, .ref (g 0)), (1, .int p0), (2, .int p1), (3, .int p2)]) hx hb dX12_fly_82 hl (by decide) rfl (fun ls hl => ?_)
                have lp11991 : ∀ (n : Nat) (x4_lp11991 : Int32) (v_lp11991 : Nat → Int32) (F_lp11991 : Nat → Nat → Int32) (H : Heap) (locs : List Loc) (ls : Array Slot), (0 ≤ x4_lp11991.toInt) → (2147483648 - x4_lp11991.toInt ≤ (n : Int)) → (∀ k, k ∉ ([] : List Nat) → v_lp11991 k = v11969 k) → IM v_lp11991 F_lp11991 → (∀ k, k ∉ ([5, 6, 10, 14, 30, 31] : List Nat) → F_lp11991 k = F k) → va_P (dC, dI) classes (wM g c v_lp11991 F_lp11991 rc) H → va_S (AM g s.heap.size) s.heap H locs → lv_has ls 6 [(4, .int x4_lp11991), (0, .ref (g 0)), (1, .int p0), (2, .int p1), (3, .int p2)] → W p l e (headSpec (Cond.code yX12_fly cX12_fly 6 (some .int) :: wA) ({ frames := 6, cells := 0, slots := 0, locals := 240 })).room s m ([.ref (g 0), .int p0, .int p1, .int p2] : List Value).toArray below meth c0 H locs 0 0 (MQ below (va_Qi (fun (r : Int32) (u : StM) => IM u.1 u.2.1 ∧ u.2.2 = rc ∧ (∀ k, k ∉ ([] : List Nat) → u.1 k = v k) ∧ (∀ k, k ∉ ([5, 6, 10, 14, 30, 31] : List Nat) → u.2.1 k = F k) ∧ True) (BM dC dI g c) (AM g s.heap.size)) ([.ref (g 0), .int p0, .int p1, .int p2] : List Value).toArray s 0 0 (AM g s.heap.size)) (F0 m 84 ls []) := by
                  intro n
                  induction n with
                  | zero =>
                    intro x4_lp11991 v_lp11991 F_lp11991 H locs ls t11992 hm hf_lp11991 hI hF hP hS hl
                    exfalso
                    have := i32_rng x4_lp11991
                    have hI1 := hI.1
                    omega
                  | succ n ih_lp11991 =>
                    intro x4_lp11991 v_lp11991 F_lp11991 H locs ls t11992 hm hf_lp11991 hI hF hP hS hl
                    have rx4_lp11991 := i32_rng x4_lp11991
                    refine lv_iload hx hb dX12_fly_84 (lv_at hl 0 rfl) ?_
                    refine lv_aload_n hx hb dX12_fly_86 rfl (lv_at hl 1 rfl) ?_
                    refine va_get (D := (dC, dI)) (ci := 12) (v := .int (v_lp11991 14)) (C := RX12) (T := TX12) (N := 63) hx hb hwd inA_X12 hown hK hP 0 rfl rfl 14 (by decide) (hwd _ wk_318) (fun _ h9 => h9) rfl dX12_fly_87 ?_
                    refine my_top (v := v 14) ((hf_lp11991 14 (by decide)).trans (hf11971 14 (by decide))) ?_
                    have t11993 : 0 ≤ (v 14).toInt ∧ (v 14).toInt ≤ 100 := by have h9 := hI.1 14 _ _ rfl; rw [show v_lp11991 14 = v 14 from (hf_lp11991 14 (by decide)).trans (hf11971 14 (by decide))] at h9; exact h9
                    refine lv_icmp_ge (tgt := 147) hx hb dX12_fly_90 (by decide) (fun c11994 => ?_) (fun c11994 => ?_)
                    · skip
                      have t11995 := cv_le (a := (v 14).toInt) rfl (b := x4_lp11991.toInt) rfl c11994
                      refine lv_aload_n hx hb dX12_fly_147 rfl (lv_at hl 1 rfl) ?_
                      refine va_get (D := (dC, dI)) (ci := 12) (v := .ref (g 5)) (C := RX12) (T := TX12) (N := 63) hx hb hwd inA_X12 hown hK hP 0 rfl rfl 8 (by decide) (hwd _ wk_186) (fun _ h9 => h9) rfl dX12_fly_148 ?_
                      refine lv_iload_n hx hb dX12_fly_151 rfl (lv_at hl 2 rfl) ?_
                      refine lv_dup2_11 hx hb dX12_fly_152 rfl rfl ?_
                      refine va_iald hx hb hK hP 5 4 rfl rfl (i := p0) (vin (a := p0.toInt) rfl (by omega)) dX12_fly_153 ?_
                      refine lv_topi (fun z11996 e11997 => ?_)
                      refine lv_iload_n hx hb dX12_fly_154 rfl (lv_at hl 3 rfl) ?_
                      refine lv_iadd hx hb dX12_fly_155 ?_
                      refine lv_topi (fun z11998 e11999 => ?_)
                      try (have t12000 := tadd e11999 (a := z11996.toInt) rfl (b := p1.toInt) rfl (by omega))
                      refine va_iast hx hb hK hP (DM hg) hS 5 4 rfl rfl (i := p0) (x := z11998) (vin (a := p0.toInt) rfl (by omega)) dX12_fly_156 (fun H locs hP _ hS => ?_)
                      have hP := va_P_eq (sM_5 g c _ _ _ _) hP
                      have hI := IM.store0 hI 5 (p0 : Int32).toNatClampNeg z11998 rfl
                      have hF := frUF (k := 5) (f := upd (F_lp11991 5) (p0 : Int32).toNatClampNeg z11998) (by decide) hF
                      have hP : va_P (dC, dI) classes (wM g c v_lp11991 (va_up F_lp11991 5 (upd (F_lp11991 5) (p0 : Int32).toNatClampNeg z11998)) rc) H := hP
                      generalize (va_up F_lp11991 5 (upd (F_lp11991 5) (p0 : Int32).toNatClampNeg z11998)) = F12001 at hP hI hF
                      refine lv_aload_n hx hb dX12_fly_157 rfl (lv_at hl 1 rfl) ?_
                      refine va_get (D := (dC, dI)) (ci := 12) (v := .ref (g 6)) (C := RX12) (T := TX12) (N := 63) hx hb hwd inA_X12 hown hK hP 0 rfl rfl 9 (by decide) (hwd _ wk_187) (fun _ h9 => h9) rfl dX12_fly_158 ?_
                      refine lv_iload_n hx hb dX12_fly_161 rfl (lv_at hl 2 rfl) ?_
                      refine lv_dup2_11 hx hb dX12_fly_162 rfl rfl ?_
                      refine va_iald hx hb hK hP 6 5 rfl rfl (i := p0) (vin (a := p0.toInt) rfl (by omega)) dX12_fly_163 ?_
                      refine lv_topi (fun z12002 e12003 => ?_)
                      refine lv_iload_n hx hb dX12_fly_164 rfl (lv_at hl 4 rfl) ?_
                      refine lv_iadd hx hb dX12_fly_165 ?_
                      refine lv_topi (fun z12004 e12005 => ?_)
                      try (have t12006 := tadd e12005 (a := z12002.toInt) rfl (b := p2.toInt) rfl (by omega))
                      refine va_iast hx hb hK hP (DM hg) hS 6 5 rfl rfl (i := p0) (x := z12004) (vin (a := p0.toInt) rfl (by omega)) dX12_fly_166 (fun H locs hP _ hS => ?_)
                      have hP := va_P_eq (sM_6 g c _ _ _ _) hP
                      have hI := IM.store0 hI 6 (p0 : Int32).toNatClampNeg z12004 rfl
                      have hF := frUF (k := 6) (f := upd (F12001 6) (p0 : Int32).toNatClampNeg z12004) (by decide) hF
                      have hP : va_P (dC, dI) classes (wM g c v_lp11991 (va_up F12001 6 (upd (F12001 6) (p0 : Int32).toNatClampNeg z12004)) rc) H := hP
                      generalize (va_up F12001 6 (upd (F12001 6) (p0 : Int32).toNatClampNeg z12004)) = F12007 at hP hI hF
                      refine lv_iconst (v := 0) hx hb dX12_fly_167 (by decide) ?_
                      refine lv_istore (lv' := [(4, .int 0), (0, .ref (g 0)), (1, .int p0), (2, .int p1), (3, .int p2)]) hx hb dX12_fly_168 hl (by decide) rfl (fun ls hl => ?_)
                      have lp12008 : ∀ (n : Nat) (x4_lp12008 : Int32) (v_lp12008 : Nat → Int32) (F_lp12008 : Nat → Nat → Int32) (H : Heap) (locs : List Loc) (ls : Array Slot), (0 ≤ x4_lp12008.toInt) → (2147483648 - x4_lp12008.toInt ≤ (n : Int)) → (∀ k, k ∉ ([] : List Nat) → v_lp12008 k = v_lp11991 k) → IM v_lp12008 F_lp12008 → (∀ k, k ∉ ([5, 6, 10, 14, 30, 31] : List Nat) → F_lp12008 k = F k) → va_P (dC, dI) classes (wM g c v_lp12008 F_lp12008 rc) H → va_S (AM g s.heap.size) s.heap H locs → lv_has ls 6 [(4, .int x4_lp12008), (0, .ref (g 0)), (1, .int p0), (2, .int p1), (3, .int p2)] → W p l e (headSpec (Cond.code yX12_fly cX12_fly 6 (some .int) :: wA) ({ frames := 6, cells := 0, slots := 0, locals := 240 })).room s m ([.ref (g 0), .int p0, .int p1, .int p2] : List Value).toArray below meth c0 H locs 0 0 (MQ below (va_Qi (fun (r : Int32) (u : StM) => IM u.1 u.2.1 ∧ u.2.2 = rc ∧ (∀ k, k ∉ ([] : List Nat) → u.1 k = v k) ∧ (∀ k, k ∉ ([5, 6, 10, 14, 30, 31] : List Nat) → u.2.1 k = F k) ∧ True) (BM dC dI g c) (AM g s.heap.size)) ([.ref (g 0), .int p0, .int p1, .int p2] : List Value).toArray s 0 0 (AM g s.heap.size)) (F0 m 170 ls []) := by
                        intro n
                        induction n with
                        | zero =>
                          intro x4_lp12008 v_lp12008 F_lp12008 H locs ls t12009 hm hf_lp12008 hI hF hP hS hl
                          exfalso
                          have := i32_rng x4_lp12008
                          have hI1 := hI.1
                          omega
                        | succ n ih_lp12008 =>
                          intro x4_lp12008 v_lp12008 F_lp12008 H locs ls t12009 hm hf_lp12008 hI hF hP hS hl
                          have rx4_lp12008 := i32_rng x4_lp12008
                          refine lv_iload hx hb dX12_fly_170 (lv_at hl 0 rfl) ?_
                          refine lv_aload_n hx hb dX12_fly_172 rfl (lv_at hl 1 rfl) ?_
                          refine va_get (D := (dC, dI)) (ci := 12) (v := .int (v_lp12008 14)) (C := RX12) (T := TX12) (N := 63) hx hb hwd inA_X12 hown hK hP 0 rfl rfl 14 (by decide) (hwd _ wk_318) (fun _ h9 => h9) rfl dX12_fly_173 ?_
                          refine my_top (v := v 14) ((hf_lp12008 14 (by decide)).trans ((hf_lp11991 14 (by decide)).trans (hf11971 14 (by decide)))) ?_
                          have t12010 : 0 ≤ (v 14).toInt ∧ (v 14).toInt ≤ 100 := by have h9 := hI.1 14 _ _ rfl; rw [show v_lp12008 14 = v 14 from (hf_lp12008 14 (by decide)).trans ((hf_lp11991 14 (by decide)).trans (hf11971 14 (by decide)))] at h9; exact h9
                          refine lv_icmp_ge (tgt := 275) hx hb dX12_fly_176 (by decide) (fun c12011 => ?_) (fun c12011 => ?_)
                          · skip
                            have t12012 := cv_le (a := (v 14).toInt) rfl (b := x4_lp12008.toInt) rfl c12011
                            refine lv_aload_n hx hb dX12_fly_275 rfl (lv_at hl 1 rfl) ?_
                            refine va_get (D := (dC, dI)) (ci := 12) (v := .ref (g 5)) (C := RX12) (T := TX12) (N := 63) hx hb hwd inA_X12 hown hK hP 0 rfl rfl 8 (by decide) (hwd _ wk_186) (fun _ h9 => h9) rfl dX12_fly_276 ?_
                            refine lv_iload_n hx hb dX12_fly_279 rfl (lv_at hl 2 rfl) ?_
                            refine va_iald hx hb hK hP 5 4 rfl rfl (i := p0) (vin (a := p0.toInt) rfl (by omega)) dX12_fly_280 ?_
                            refine lv_topi (fun z12013 e12014 => ?_)
                            have hP9 : va_P (dC, dI) classes (wM g c v_lp12008 F_lp12008 rc) H := hP
                            exact W.iret (v := z12013) hx hb hr (fun t ht hW => ⟨⟨z12013, (v_lp12008, F_lp12008, rc), rfl, ⟨hI, rfl, (frC (by decide) hf_lp12008 (frC (by decide) hf_lp11991 (frC (by decide) hf11971 (fun _ _ => rfl)))), hF, trivial⟩, (by show va_P _ _ _ t.heap; rw [ht]; exact hP9)⟩, hS.F ht⟩) hS.2.2 dX12_fly_281
                          · skip
                            have t12015 := cv_nle (a := (v 14).toInt) rfl (b := x4_lp12008.toInt) rfl c12011
                            refine lv_aload_n hx hb dX12_fly_179 rfl (lv_at hl 1 rfl) ?_
                            refine va_get (D := (dC, dI)) (ci := 12) (v := .ref (g 13)) (C := RX12) (T := TX12) (N := 63) hx hb hwd inA_X12 hown hK hP 0 rfl rfl 17 (by decide) (hwd _ wk_194) (fun _ h9 => h9) rfl dX12_fly_180 ?_
                            refine lv_iload hx hb dX12_fly_183 (lv_at hl 0 rfl) ?_
                            refine va_iald hx hb hK hP 13 12 rfl rfl (i := x4_lp12008) (vin (a := x4_lp12008.toInt) rfl (by omega)) dX12_fly_185 ?_
                            refine lv_topi (fun z12016 e12017 => ?_)
                            have t12018 : 0 ≤ z12016.toInt ∧ z12016.toInt ≤ 12 := by rw [e12017]; exact hI.2 13 _ _ rfl _
                            have e12017 : z12016 = F 13 (x4_lp12008 : Int32).toNatClampNeg := e12017.trans (congrFun (hF 13 (by decide)) _)
                            refine lv_iload_n hx hb dX12_fly_186 rfl (lv_at hl 2 rfl) ?_
                            refine lv_icmp_eq (tgt := 193) hx hb dX12_fly_187 (by decide) (fun c12019 => ?_) (fun c12019 => ?_)
                            · skip
                              have t12020 := cv_eq (a := z12016.toInt) rfl (b := p0.toInt) rfl c12019
                              refine lv_aload_n hx hb dX12_fly_193 rfl (lv_at hl 1 rfl) ?_
                              refine va_get (D := (dC, dI)) (ci := 12) (v := .ref (g 14)) (C := RX12) (T := TX12) (N := 63) hx hb hwd inA_X12 hown hK hP 0 rfl rfl 18 (by decide) (hwd _ wk_195) (fun _ h9 => h9) rfl dX12_fly_194 ?_
                              refine lv_iconst (v := 3) hx hb dX12_fly_197 (by decide) ?_
                              refine lv_iload hx hb dX12_fly_198 (lv_at hl 0 rfl) ?_
                              refine lv_imul hx hb dX12_fly_200 ?_
                              refine lv_topi (fun z12021 e12022 => ?_)
                              try (have t12023 := tmul e12022 (a := 3) (by decide) (b := x4_lp12008.toInt) rfl (by omega))
                              refine lv_dup2_11 hx hb dX12_fly_201 rfl rfl ?_
                              refine va_iald hx hb hK hP 14 13 rfl rfl (i := z12021) (vin (a := z12021.toInt) rfl (by omega)) dX12_fly_202 ?_
                              refine lv_topi (fun z12024 e12025 => ?_)
                              refine lv_iload_n hx hb dX12_fly_203 rfl (lv_at hl 3 rfl) ?_
                              refine lv_iadd hx hb dX12_fly_204 ?_
                              refine lv_topi (fun z12026 e12027 => ?_)
                              try (have t12028 := tadd e12027 (a := z12024.toInt) rfl (b := p1.toInt) rfl (by omega))
                              refine va_iast hx hb hK hP (DM hg) hS 14 13 rfl rfl (i := z12021) (x := z12026) (vin (a := z12021.toInt) rfl (by omega)) dX12_fly_205 (fun H locs hP _ hS => ?_)
                              have hP := va_P_eq (sM_14 g c _ _ _ _) hP
                              have hI := IM.store0 hI 14 (z12021 : Int32).toNatClampNeg z12026 rfl
                              have hF := frUF (k := 14) (f := upd (F_lp12008 14) (z12021 : Int32).toNatClampNeg z12026) (by decide) hF
                              have hP : va_P (dC, dI) classes (wM g c v_lp12008 (va_up F_lp12008 14 (upd (F_lp12008 14) (z12021 : Int32).toNatClampNeg z12026)) rc) H := hP
                              generalize (va_up F_lp12008 14 (upd (F_lp12008 14) (z12021 : Int32).toNatClampNeg z12026)) = F12029 at hP hI hF
                              refine lv_aload_n hx hb dX12_fly_206 rfl (lv_at hl 1 rfl) ?_
                              refine va_get (D := (dC, dI)) (ci := 12) (v := .ref (g 14)) (C := RX12) (T := TX12) (N := 63) hx hb hwd inA_X12 hown hK hP 0 rfl rfl 18 (by decide) (hwd _ wk_195) (fun _ h9 => h9) rfl dX12_fly_207 ?_
                              refine lv_iconst (v := 3) hx hb dX12_fly_210 (by decide) ?_
                              refine lv_iload hx hb dX12_fly_211 (lv_at hl 0 rfl) ?_
                              refine lv_imul hx hb dX12_fly_213 ?_
                              refine lv_topi (fun z12030 e12031 => ?_)
                              try (have t12032 := tmul e12031 (a := 3) (by decide) (b := x4_lp12008.toInt) rfl (by omega))
                              refine lv_iconst (v := 1) hx hb dX12_fly_214 (by decide) ?_
                              refine lv_iadd hx hb dX12_fly_215 ?_
                              refine lv_topi (fun z12033 e12034 => ?_)
                              try (have t12035 := tadd e12034 (a := z12030.toInt) rfl (b := 1) (by decide) (by omega))
                              refine lv_dup2_11 hx hb dX12_fly_216 rfl rfl ?_
                              refine va_iald hx hb hK hP 14 13 rfl rfl (i := z12033) (vin (a := z12033.toInt) rfl (by omega)) dX12_fly_217 ?_
                              refine lv_topi (fun z12036 e12037 => ?_)
                              refine lv_iload_n hx hb dX12_fly_218 rfl (lv_at hl 4 rfl) ?_
                              refine lv_iadd hx hb dX12_fly_219 ?_
                              refine lv_topi (fun z12038 e12039 => ?_)
                              try (have t12040 := tadd e12039 (a := z12036.toInt) rfl (b := p2.toInt) rfl (by omega))
                              refine va_iast hx hb hK hP (DM hg) hS 14 13 rfl rfl (i := z12033) (x := z12038) (vin (a := z12033.toInt) rfl (by omega)) dX12_fly_220 (fun H locs hP _ hS => ?_)
                              have hP := va_P_eq (sM_14 g c _ _ _ _) hP
                              have hI := IM.store0 hI 14 (z12033 : Int32).toNatClampNeg z12038 rfl
                              have hF := frUF (k := 14) (f := upd (F12029 14) (z12033 : Int32).toNatClampNeg z12038) (by decide) hF
                              have hP : va_P (dC, dI) classes (wM g c v_lp12008 (va_up F12029 14 (upd (F12029 14) (z12033 : Int32).toNatClampNeg z12038)) rc) H := hP
                              generalize (va_up F12029 14 (upd (F12029 14) (z12033 : Int32).toNatClampNeg z12038)) = F12041 at hP hI hF
                              refine lv_bipush (v := 10) hx hb dX12_fly_221 (by decide) ?_
                              refine lv_iload_n hx hb dX12_fly_223 rfl (lv_at hl 2 rfl) ?_
                              refine lv_imul hx hb dX12_fly_224 ?_
                              refine lv_topi (fun z12042 e12043 => ?_)
                              try (have t12044 := tmul e12043 (a := 10) (by decide) (b := p0.toInt) rfl (by omega))
                              refine lv_aload_n hx hb dX12_fly_225 rfl (lv_at hl 1 rfl) ?_
                              refine va_get (D := (dC, dI)) (ci := 12) (v := .ref (g 11)) (C := RX12) (T := TX12) (N := 63) hx hb hwd inA_X12 hown hK hP 0 rfl rfl 15 (by decide) (hwd _ wk_192) (fun _ h9 => h9) rfl dX12_fly_226 ?_
                              refine lv_iload hx hb dX12_fly_229 (lv_at hl 0 rfl) ?_
                              refine va_iald hx hb hK hP 11 10 rfl rfl (i := x4_lp12008) (vin (a := x4_lp12008.toInt) rfl (by omega)) dX12_fly_231 ?_
                              refine lv_topi (fun z12045 e12046 => ?_)
                              have t12047 : 0 ≤ z12045.toInt ∧ z12045.toInt ≤ 9 := by rw [e12046]; exact hI.2 11 _ _ rfl _
                              have e12046 : z12045 = F 11 (x4_lp12008 : Int32).toNatClampNeg := e12046.trans (congrFun (hF 11 (by decide)) _)
                              refine lv_iadd hx hb dX12_fly_232 ?_
                              refine lv_topi (fun z12048 e12049 => ?_)
                              try (have t12050 := tadd e12049 (a := z12042.toInt) rfl (b := z12045.toInt) rfl (by omega))
                              refine lv_istore (lv' := [(5, .int z12048), (4, .int x4_lp12008), (0, .ref (g 0)), (1, .int p0), (2, .int p1), (3, .int p2)]) hx hb dX12_fly_233 hl (by decide) rfl (fun ls hl => ?_)
                              refine lv_aload_n hx hb dX12_fly_235 rfl (lv_at hl 2 rfl) ?_
                              refine va_get (D := (dC, dI)) (ci := 12) (v := .ref (g 10)) (C := RX12) (T := TX12) (N := 63) hx hb hwd inA_X12 hown hK hP 0 rfl rfl 13 (by decide) (hwd _ wk_191) (fun _ h9 => h9) rfl dX12_fly_236 ?_
                              refine lv_iload hx hb dX12_fly_239 (lv_at hl 0 rfl) ?_
                              refine lv_aload_n hx hb dX12_fly_241 rfl (lv_at hl 2 rfl) ?_
                              refine va_get (D := (dC, dI)) (ci := 12) (v := .ref (g 10)) (C := RX12) (T := TX12) (N := 63) hx hb hwd inA_X12 hown hK hP 0 rfl rfl 13 (by decide) (hwd _ wk_191) (fun _ h9 => h9) rfl dX12_fly_242 ?_
                              refine lv_iload hx hb dX12_fly_245 (lv_at hl 0 rfl) ?_
                              refine va_iald hx hb hK hP 10 9 rfl rfl (i := z12048) (vin (a := z12048.toInt) rfl (by omega)) dX12_fly_247 ?_
                              refine lv_topi (fun z12051 e12052 => ?_)
                              refine lv_i2l hx hb dX12_fly_248 rfl ?_
                              refine lv_topl (fun z12053 e12054 => ?_)
                              refine lv_iload_n hx hb dX12_fly_249 rfl (lv_at hl 4 rfl) ?_
                              refine lv_aload_n hx hb dX12_fly_250 rfl (lv_at hl 2 rfl) ?_
                              refine va_get (D := (dC, dI)) (ci := 12) (v := .ref (g 3)) (C := RX12) (T := TX12) (N := 63) hx hb hwd inA_X12 hown hK hP 0 rfl rfl 5 (by decide) (hwd _ wk_184) (fun _ h9 => h9) rfl dX12_fly_251 ?_
                              refine lv_aload_n hx hb dX12_fly_254 rfl (lv_at hl 2 rfl) ?_
                              refine va_get (D := (dC, dI)) (ci := 12) (v := .ref (g 11)) (C := RX12) (T := TX12) (N := 63) hx hb hwd inA_X12 hown hK hP 0 rfl rfl 15 (by decide) (hwd _ wk_192) (fun _ h9 => h9) rfl dX12_fly_255 ?_
                              refine lv_iload hx hb dX12_fly_258 (lv_at hl 1 rfl) ?_
                              refine va_iald hx hb hK hP 11 10 rfl rfl (i := x4_lp12008) (vin (a := x4_lp12008.toInt) rfl (by omega)) dX12_fly_260 ?_
                              refine lv_topi (fun z12055 e12056 => ?_)
                              have t12057 : 0 ≤ z12055.toInt ∧ z12055.toInt ≤ 9 := by rw [e12056]; exact hI.2 11 _ _ rfl _
                              have e12056 : z12055 = F 11 (x4_lp12008 : Int32).toNatClampNeg := e12056.trans (congrFun (hF 11 (by decide)) _)
                              refine va_iald hx hb hK hP 3 2 rfl rfl (i := z12055) (vin (a := z12055.toInt) rfl (by omega)) dX12_fly_261 ?_
                              refine lv_topi (fun z12058 e12059 => ?_)
                              have e12059 : z12058 = F 3 (z12055 : Int32).toNatClampNeg := e12059.trans (congrFun (hF 3 (by decide)) _)
                              refine lv_imul hx hb dX12_fly_262 ?_
                              refine lv_topi (fun z12060 e12061 => ?_)
                              try (have t12062 := tmul e12061 (a := p1.toInt) rfl (b := z12058.toInt) rfl (by omega))
                              refine lv_i2l hx hb dX12_fly_263 rfl ?_
                              refine lv_topl (fun z12063 e12064 => ?_)
                              refine lv_ladd hx hb dX12_fly_264 ?_
                              refine lv_topl (fun z12065 e12066 => ?_)
                              refine va_calli (va_runS (As := [.long z12065]) (rest := [.int z12048, .ref (g 10)]) ⟨hx, hb, hml, hown, hwd⟩ (c_X12_held l dC dI g c adK adV v_lp12008 F12041 rc H.size z12065 hg hI ) (va_cwS 1 hwd (gT wk_523 wk_521 wk_522 wk_5) rfl rfl rfl (by decide +kernel) ⟨Nat.le_of_ble_eq_true rfl, Nat.le_of_ble_eq_true rfl⟩) ⟨PM.blind, fun U hU hW => ⟨rfl, PM.at hK hE hP hS hU hW⟩⟩ rfl rfl hl.1 rfl (lv_room (Nat.le_of_ble_eq_true rfl)) dX12_fly_265 ⟨Nat.le_of_ble_eq_true rfl, Nat.le_of_ble_eq_true rfl⟩) hS (fun q _ h => (freeM hS) q h) (freeM hS) (fun r12067 u t H1 locs ht hvm hw hB hz1 hk1 hS => ?_)
                              unfold BM at hB
                              rw [ht] at hB
                              have hP : va_P (dC, dI) classes (wM g c v_lp12008 F12041 rc) H1 := hB
                              clear hz1
                              generalize H1 = H at hP hS ⊢
                              have rr_r12067 := i32_rng r12067
                              refine va_iast hx hb hK hP (DM hg) hS 10 9 rfl rfl (i := z12048) (x := r12067) (vin (a := z12048.toInt) rfl (by omega)) dX12_fly_268 (fun H locs hP _ hS => ?_)
                              have hP := va_P_eq (sM_10 g c _ _ _ _) hP
                              have hI := IM.store0 hI 10 (z12048 : Int32).toNatClampNeg r12067 rfl
                              have hF := frUF (k := 10) (f := upd (F12041 10) (z12048 : Int32).toNatClampNeg r12067) (by decide) hF
                              have hP : va_P (dC, dI) classes (wM g c v_lp12008 (va_up F12041 10 (upd (F12041 10) (z12048 : Int32).toNatClampNeg r12067)) rc) H := hP
                              generalize (va_up F12041 10 (upd (F12041 10) (z12048 : Int32).toNatClampNeg r12067)) = F12068 at hP hI hF
                              obtain ⟨z12069, e12070⟩ : ∃ y : Int32, y = x4_lp12008 + 1 := ⟨_, rfl⟩
                              try (have t12071 := tadd e12070 rfl (b := 1) (by decide) (by omega))
                              refine lv_iinc (v := z12069) (lv' := [(4, .int z12069), (5, .int z12048), (0, .ref (g 0)), (1, .int p0), (2, .int p1), (3, .int p2)]) hx hb dX12_fly_269 hl (k := 1) rfl (by rw [e12070]; rfl) (by decide) rfl (fun ls hl => ?_)
                              refine lv_goto (tgt := 170) hx hb dX12_fly_272 (by decide) ?_
                              exact ih_lp12008 z12069 v_lp12008 F12068 _ _ _ (by omega) (by omega) hf_lp12008 hI hF hP hS (lv_sub hl [0, 2, 3, 4, 5] rfl)
                            · skip
                              have t12072 := cv_ne (a := z12016.toInt) rfl (b := p0.toInt) rfl c12019
                              refine lv_goto (tgt := 269) hx hb dX12_fly_190 (by decide) ?_
                              obtain ⟨z12073, e12074⟩ : ∃ y : Int32, y = x4_lp12008 + 1 := ⟨_, rfl⟩
                              try (have t12075 := tadd e12074 rfl (b := 1) (by decide) (by omega))
                              refine lv_iinc (v := z12073) (lv' := [(4, .int z12073), (0, .ref (g 0)), (1, .int p0), (2, .int p1), (3, .int p2)]) hx hb dX12_fly_269 hl (k := 0) rfl (by rw [e12074]; rfl) (by decide) rfl (fun ls hl => ?_)
                              refine lv_goto (tgt := 170) hx hb dX12_fly_272 (by decide) ?_
                              exact ih_lp12008 z12073 v_lp12008 F_lp12008 _ _ _ (by omega) (by omega) hf_lp12008 hI hF hP hS (lv_sub hl [0, 1, 2, 3, 4] rfl)
                      obtain ⟨n9, hn9⟩ : ∃ n : Nat, 2147483648 - 0 ≤ (n : Int) := ⟨((2147483648 - 0 : Int)).toNat, by omega⟩
                      exact lp12008 n9 0 v_lp11991 F12007 H _ ls (by have : (0 : Int32).toInt = 0 := (by decide); omega) (by have : (0 : Int32).toInt = 0 := (by decide); omega) (fun _ _ => rfl) hI hF hP hS hl
                    · skip
                      have t12076 := cv_nle (a := (v 14).toInt) rfl (b := x4_lp11991.toInt) rfl c11994
                      refine lv_aload_n hx hb dX12_fly_93 rfl (lv_at hl 1 rfl) ?_
                      refine va_get (D := (dC, dI)) (ci := 12) (v := .ref (g 13)) (C := RX12) (T := TX12) (N := 63) hx hb hwd inA_X12 hown hK hP 0 rfl rfl 17 (by decide) (hwd _ wk_194) (fun _ h9 => h9) rfl dX12_fly_94 ?_
                      refine lv_iload hx hb dX12_fly_97 (lv_at hl 0 rfl) ?_
                      refine va_iald hx hb hK hP 13 12 rfl rfl (i := x4_lp11991) (vin (a := x4_lp11991.toInt) rfl (by omega)) dX12_fly_99 ?_
                      refine lv_topi (fun z12077 e12078 => ?_)
                      have t12079 : 0 ≤ z12077.toInt ∧ z12077.toInt ≤ 12 := by rw [e12078]; exact hI.2 13 _ _ rfl _
                      have e12078 : z12077 = F 13 (x4_lp11991 : Int32).toNatClampNeg := e12078.trans (congrFun (hF 13 (by decide)) _)
                      refine lv_iload_n hx hb dX12_fly_100 rfl (lv_at hl 2 rfl) ?_
                      refine lv_icmp_ne (tgt := 141) hx hb dX12_fly_101 (by decide) (fun c12080 => ?_) (fun c12080 => ?_)
                      · skip
                        have t12081 := cv_ne (a := z12077.toInt) rfl (b := p0.toInt) rfl c12080
                        obtain ⟨z12082, e12083⟩ : ∃ y : Int32, y = x4_lp11991 + 1 := ⟨_, rfl⟩
                        try (have t12084 := tadd e12083 rfl (b := 1) (by decide) (by omega))
                        refine lv_iinc (v := z12082) (lv' := [(4, .int z12082), (0, .ref (g 0)), (1, .int p0), (2, .int p1), (3, .int p2)]) hx hb dX12_fly_141 hl (k := 0) rfl (by rw [e12083]; rfl) (by decide) rfl (fun ls hl => ?_)
                        refine lv_goto (tgt := 84) hx hb dX12_fly_144 (by decide) ?_
                        exact ih_lp11991 z12082 v_lp11991 F_lp11991 _ _ _ (by omega) (by omega) hf_lp11991 hI hF hP hS (lv_sub hl [0, 1, 2, 3, 4] rfl)
                      · skip
                        have t12085 := cv_eq (a := z12077.toInt) rfl (b := p0.toInt) rfl c12080
                        refine lv_aload_n hx hb dX12_fly_104 rfl (lv_at hl 1 rfl) ?_
                        refine va_get (D := (dC, dI)) (ci := 12) (v := .ref (g 14)) (C := RX12) (T := TX12) (N := 63) hx hb hwd inA_X12 hown hK hP 0 rfl rfl 18 (by decide) (hwd _ wk_195) (fun _ h9 => h9) rfl dX12_fly_105 ?_
                        refine lv_iconst (v := 3) hx hb dX12_fly_108 (by decide) ?_
                        refine lv_iload hx hb dX12_fly_109 (lv_at hl 0 rfl) ?_
                        refine lv_imul hx hb dX12_fly_111 ?_
                        refine lv_topi (fun z12086 e12087 => ?_)
                        try (have t12088 := tmul e12087 (a := 3) (by decide) (b := x4_lp11991.toInt) rfl (by omega))
                        refine va_iald hx hb hK hP 14 13 rfl rfl (i := z12086) (vin (a := z12086.toInt) rfl (by omega)) dX12_fly_112 ?_
                        refine lv_topi (fun z12089 e12090 => ?_)
                        refine lv_iload_n hx hb dX12_fly_113 rfl (lv_at hl 3 rfl) ?_
                        refine lv_iadd hx hb dX12_fly_114 ?_
                        refine lv_topi (fun z12091 e12092 => ?_)
                        try (have t12093 := tadd e12092 (a := z12089.toInt) rfl (b := p1.toInt) rfl (by omega))
                        refine lv_ldc (v := 999999) hx hb hown (hwd _ wk_250) dX12_fly_115 ?_
                        refine lv_icmp_gt (tgt := 138) hx hb dX12_fly_117 (by decide) (fun c12094 => ?_) (fun c12094 => ?_)
                        · skip
                          have t12095 := cv_lt (a := 999999) (by decide) (b := z12091.toInt) rfl c12094
                          refine lv_bipush (v := (-2)) hx hb dX12_fly_138 (by decide) ?_
                          have hP9 : va_P (dC, dI) classes (wM g c v_lp11991 F_lp11991 rc) H := hP
                          exact W.iret (v := (-2)) hx hb hr (fun t ht hW => ⟨⟨(-2), (v_lp11991, F_lp11991, rc), rfl, ⟨hI, rfl, (frC (by decide) hf_lp11991 (frC (by decide) hf11971 (fun _ _ => rfl))), hF, trivial⟩, (by show va_P _ _ _ t.heap; rw [ht]; exact hP9)⟩, hS.F ht⟩) hS.2.2 dX12_fly_140
                        · skip
                          have t12096 := cv_nlt (a := 999999) (by decide) (b := z12091.toInt) rfl c12094
                          refine lv_aload_n hx hb dX12_fly_120 rfl (lv_at hl 1 rfl) ?_
                          refine va_get (D := (dC, dI)) (ci := 12) (v := .ref (g 14)) (C := RX12) (T := TX12) (N := 63) hx hb hwd inA_X12 hown hK hP 0 rfl rfl 18 (by decide) (hwd _ wk_195) (fun _ h9 => h9) rfl dX12_fly_121 ?_
                          refine lv_iconst (v := 3) hx hb dX12_fly_124 (by decide) ?_
                          refine lv_iload hx hb dX12_fly_125 (lv_at hl 0 rfl) ?_
                          refine lv_imul hx hb dX12_fly_127 ?_
                          refine lv_topi (fun z12097 e12098 => ?_)
                          try (have t12099 := tmul e12098 (a := 3) (by decide) (b := x4_lp11991.toInt) rfl (by omega))
                          refine lv_iconst (v := 1) hx hb dX12_fly_128 (by decide) ?_
                          refine lv_iadd hx hb dX12_fly_129 ?_
                          refine lv_topi (fun z12100 e12101 => ?_)
                          try (have t12102 := tadd e12101 (a := z12097.toInt) rfl (b := 1) (by decide) (by omega))
                          refine va_iald hx hb hK hP 14 13 rfl rfl (i := z12100) (vin (a := z12100.toInt) rfl (by omega)) dX12_fly_130 ?_
                          refine lv_topi (fun z12103 e12104 => ?_)
                          refine lv_iload_n hx hb dX12_fly_131 rfl (lv_at hl 4 rfl) ?_
                          refine lv_iadd hx hb dX12_fly_132 ?_
                          refine lv_topi (fun z12105 e12106 => ?_)
                          try (have t12107 := tadd e12106 (a := z12103.toInt) rfl (b := p2.toInt) rfl (by omega))
                          refine lv_ldc (v := 999999) hx hb hown (hwd _ wk_250) dX12_fly_133 ?_
                          refine lv_icmp_le (tgt := 141) hx hb dX12_fly_135 (by decide) (fun c12108 => ?_) (fun c12108 => ?_)
                          · skip
                            have t12109 := cv_le (a := z12105.toInt) rfl (b := 999999) (by decide) c12108
                            obtain ⟨z12110, e12111⟩ : ∃ y : Int32, y = x4_lp11991 + 1 := ⟨_, rfl⟩
                            try (have t12112 := tadd e12111 rfl (b := 1) (by decide) (by omega))
                            refine lv_iinc (v := z12110) (lv' := [(4, .int z12110), (0, .ref (g 0)), (1, .int p0), (2, .int p1), (3, .int p2)]) hx hb dX12_fly_141 hl (k := 0) rfl (by rw [e12111]; rfl) (by decide) rfl (fun ls hl => ?_)
                            refine lv_goto (tgt := 84) hx hb dX12_fly_144 (by decide) ?_
                            exact ih_lp11991 z12110 v_lp11991 F_lp11991 _ _ _ (by omega) (by omega) hf_lp11991 hI hF hP hS (lv_sub hl [0, 1, 2, 3, 4] rfl)
                          · skip
                            have t12113 := cv_nle (a := z12105.toInt) rfl (b := 999999) (by decide) c12108
                            refine lv_bipush (v := (-2)) hx hb dX12_fly_138 (by decide) ?_
                            have hP9 : va_P (dC, dI) classes (wM g c v_lp11991 F_lp11991 rc) H := hP
                            exact W.iret (v := (-2)) hx hb hr (fun t ht hW => ⟨⟨(-2), (v_lp11991, F_lp11991, rc), rfl, ⟨hI, rfl, (frC (by decide) hf_lp11991 (frC (by decide) hf11971 (fun _ _ => rfl))), hF, trivial⟩, (by show va_P _ _ _ t.heap; rw [ht]; exact hP9)⟩, hS.F ht⟩) hS.2.2 dX12_fly_140
                obtain ⟨n9, hn9⟩ : ∃ n : Nat, 2147483648 - 0 ≤ (n : Int) := ⟨((2147483648 - 0 : Int)).toNat, by omega⟩
                exact lp11991 n9 0 v11969 F11970 H _ ls (by have : (0 : Int32).toInt = 0 := (by decide); omega) (by have : (0 : Int32).toInt = 0 := (by decide); omega) (fun _ _ => rfl) hI hF hP hS hl
              · skip
                have t12114 := cv_nle (a := z11986.toInt) rfl (b := 999999) (by decide) c11989
                refine lv_bipush (v := (-2)) hx hb dX12_fly_78 (by decide) ?_
                have hP9 : va_P (dC, dI) classes (wM g c v11969 F11970 rc) H := hP
                exact W.iret (v := (-2)) hx hb hr (fun t ht hW => ⟨⟨(-2), (v11969, F11970, rc), rfl, ⟨hI, rfl, (frC (by decide) hf11971 (fun _ _ => rfl)), hF, trivial⟩, (by show va_P _ _ _ t.heap; rw [ht]; exact hP9)⟩, hS.F ht⟩) hS.2.2 dX12_fly_80
      · skip
        have t12115 := cv_eq (a := r11958.toInt) rfl (b := 0) (by decide) c11961
        refine lv_iconst (v := (-1)) hx hb dX12_fly_30 (by decide) ?_
        have hP9 : va_P (dC, dI) classes (wM g c v F rc) H := hP
        exact W.iret (v := (-1)) hx hb hr (fun t ht hW => ⟨⟨(-1), (v, F, rc), rfl, ⟨hI, rfl, (fun _ _ => rfl), hF, trivial⟩, (by show va_P _ _ _ t.heap; rw [ht]; exact hP9)⟩, hS.F ht⟩) hS.2.2 dX12_fly_31
set_option maxHeartbeats 8000000 in
set_option maxRecDepth 100000 in
theorem c_X12_ofPlane (l : Launch) (dC : Nat → ClassId) (dI : Nat → Nat → Nat) (g : Nat → Nat) (c : Nat → ClassId) (adK adV : Nat → Nat) (v : Nat → Int32) (F : Nat → Nat → Int32) (rc sz : Nat) (p0 : Int32) (p1 : Int32) (hg : injM g) (hI : IM v F) : Met l yX12_ofPlane (Cond.code yX12_ofPlane cX12_ofPlane 5 (some .int) :: wA) ({ frames := 3, cells := 0, slots := 0, locals := 120 }) (va_Pc [.ref (g 0), .int p0, .int p1] (PM dC dI g c adK adV v F rc sz)) (va_Qi (fun (r : Int32) (u : Unit) => True) (fun (_ : Unit) => BM dC dI g c (v, F, rc)) (AM g sz)) 0 0 (AM g sz) := by
  refine Met.ofW (cc := cX12_ofPlane) (maxL := 5) (ret := (some .int)) (by decide) rfl ?_
  intro p e s m args below meth c0 s₁ B hml hv
  obtain ⟨rfl, hsz, hP, hK, hE⟩ := hv
  have hx := B.exec
  have hb := B.bytes
  have hr := B.returns
  have hts := atoms_spec (ws := Cond.code yX12_ofPlane cX12_ofPlane 5 (some .int) :: wA) B.pre
  have hwd : ∀ w ∈ wA, w.before _ s = true := fun w h => hts w (List.mem_cons_of_mem _ h)
  have hown : s.vm.findClass RX12 = some m.cls := findClass_of_methodNamed B.named
  have hlocks := B.notSynchronized
  subst hsz
  have hl := lv_entry ([.ref (g 0), .int p0, .int p1]) (n := 5) (Nat.le_of_ble_eq_true rfl)
  rw [lg_entry_eq]
  generalize (lg_sl ([.ref (g 0), .int p0, .int p1]) ++ List.replicate (5 - (lg_sl ([.ref (g 0), .int p0, .int p1])).length) Slot.unset).toArray = ls at hl ⊢
  have hl : lv_has ls 5 [(0, .ref (g 0)), (1, .int p0), (2, .int p1)] := hl
  obtain ⟨H, eH⟩ : ∃ z, z = s.heap := ⟨_, rfl⟩
  have hP : va_P (dC, dI) classes (wM g c v F rc) H := by rw [eH]; exact hP
  have hS : va_S (AM g s.heap.size) s.heap H [] := by rw [eH]; exact va_S.rf
  refine my_heap eH ?_
  have rp0 := i32_rng p0
  have rp1 := i32_rng p1
  refine lv_aload_n hx hb dX12_ofPlane_0 rfl (lv_at hl 0 rfl) ?_
  refine lv_iload_n hx hb dX12_ofPlane_1 rfl (lv_at hl 1 rfl) ?_
  have t12116 : 0 ≤ (v 6).toInt ∧ (v 6).toInt ≤ 10 := hI.1 6 _ _ rfl
  refine va_calli (va_runV (As := [.int p0]) (rest := []) ⟨hx, hb, hml, hown, hwd⟩ (c_X12_isPlane l dC dI g c adK adV v F rc H.size p0 hg hI ) (cwV 1 hwd (gV wk_305 wk_302 wk_303 wk_304 wk_5) rfl rfl rfl (by decide +kernel) ⟨Nat.le_of_ble_eq_true rfl, Nat.le_of_ble_eq_true rfl⟩) ⟨PM.blind, va_recv hK hP (ci := 12) (q0 := 0) rfl rfl, fun U hU hW => ⟨rfl, PM.at hK hE hP hS hU hW⟩⟩ rfl rfl hl.1 rfl (lv_room (Nat.le_of_ble_eq_true rfl)) dX12_ofPlane_2 ⟨Nat.le_of_ble_eq_true rfl, Nat.le_of_ble_eq_true rfl⟩) hS (fun q _ h => (freeM hS) q h) (freeM hS) (fun r12117 u t H1 locs ht hvm hw hB hz1 hk1 hS => ?_)
  unfold BM at hB
  rw [ht] at hB
  have hP : va_P (dC, dI) classes (wM g c v F rc) H1 := hB
  replace hw : (r12117.toInt = 1 ∧ 0 ≤ p0.toInt ∧ p0.toInt < (v 6).toInt) ∨ (r12117.toInt = 0 ∧ (p0.toInt < 0 ∨ (v 6).toInt ≤ p0.toInt)) := hw
  have hw_r12117 := hw
  clear hw
  clear hz1
  generalize H1 = H at hP hS ⊢
  refine lv_if_ne (tgt := 11) hx hb dX12_ofPlane_5 (by decide) (fun c12118 => ?_) (fun c12118 => ?_)
  · skip
    have t12119 := cv_ne (a := r12117.toInt) rfl (b := 0) (by decide) c12118
    refine lv_iconst (v := 0) hx hb dX12_ofPlane_11 (by decide) ?_
    refine lv_istore_n (lv' := [(3, .int 0), (0, .ref (g 0)), (1, .int p0), (2, .int p1)]) hx hb dX12_ofPlane_12 rfl hl (by decide) rfl (fun ls hl => ?_)
    refine lv_iload_n hx hb dX12_ofPlane_13 rfl (lv_at hl 3 rfl) ?_
    by_cases hlo12120 : p1.toInt < 0
    · refine lv_tableOut (tgt := 166) hx hb dX12_ofPlane_14 (Or.inl hlo12120) (by decide) ?_
      refine lv_ldc (v := (-2000000000)) hx hb hown (hwd _ wk_542) dX12_ofPlane_166 ?_
      have hP9 : va_P (dC, dI) classes (wM g c v F rc) H := hP
      exact W.iret (v := (-2000000000)) hx hb hr (fun t ht hW => ⟨⟨(-2000000000), (), rfl, trivial, (by show va_P _ _ _ t.heap; rw [ht]; exact hP9)⟩, hS.F ht⟩) hS.2.2 dX12_ofPlane_168
    by_cases hhi12121 : 8 < p1.toInt
    · refine lv_tableOut (tgt := 166) hx hb dX12_ofPlane_14 (Or.inr hhi12121) (by decide) ?_
      refine lv_ldc (v := (-2000000000)) hx hb hown (hwd _ wk_542) dX12_ofPlane_166 ?_
      have hP9 : va_P (dC, dI) classes (wM g c v F rc) H := hP
      exact W.iret (v := (-2000000000)) hx hb hr (fun t ht hW => ⟨⟨(-2000000000), (), rfl, trivial, (by show va_P _ _ _ t.heap; rw [ht]; exact hP9)⟩, hS.F ht⟩) hS.2.2 dX12_ofPlane_168
    rcases (show p1.toInt = 0 ∨ p1.toInt = 1 ∨ p1.toInt = 2 ∨ p1.toInt = 3 ∨ p1.toInt = 4 ∨ p1.toInt = 5 ∨ p1.toInt = 6 ∨ p1.toInt = 7 ∨ p1.toInt = 8 by omega) with hk | hk | hk | hk | hk | hk | hk | hk | hk
    · refine lv_tableIn (off := 50) (tgt := 64) hx hb dX12_ofPlane_14 hlo12120 hhi12121 (by rw [hk]; decide) (by decide) ?_
      refine lv_aload_n hx hb dX12_ofPlane_64 rfl (lv_at hl 1 rfl) ?_
      refine va_get (D := (dC, dI)) (ci := 12) (v := .ref (g 5)) (C := RX12) (T := TX12) (N := 63) hx hb hwd inA_X12 hown hK hP 0 rfl rfl 8 (by decide) (hwd _ wk_186) (fun _ h9 => h9) rfl dX12_ofPlane_65 ?_
      refine lv_iload_n hx hb dX12_ofPlane_68 rfl (lv_at hl 2 rfl) ?_
      refine va_iald hx hb hK hP 5 4 rfl rfl (i := p0) (vin (a := p0.toInt) rfl (by omega)) dX12_ofPlane_69 ?_
      refine lv_topi (fun z12122 e12123 => ?_)
      have hP9 : va_P (dC, dI) classes (wM g c v F rc) H := hP
      exact W.iret (v := z12122) hx hb hr (fun t ht hW => ⟨⟨z12122, (), rfl, trivial, (by show va_P _ _ _ t.heap; rw [ht]; exact hP9)⟩, hS.F ht⟩) hS.2.2 dX12_ofPlane_70
    · refine lv_tableIn (off := 57) (tgt := 71) hx hb dX12_ofPlane_14 hlo12120 hhi12121 (by rw [hk]; decide) (by decide) ?_
      refine lv_aload_n hx hb dX12_ofPlane_71 rfl (lv_at hl 1 rfl) ?_
      refine va_get (D := (dC, dI)) (ci := 12) (v := .ref (g 6)) (C := RX12) (T := TX12) (N := 63) hx hb hwd inA_X12 hown hK hP 0 rfl rfl 9 (by decide) (hwd _ wk_187) (fun _ h9 => h9) rfl dX12_ofPlane_72 ?_
      refine lv_iload_n hx hb dX12_ofPlane_75 rfl (lv_at hl 2 rfl) ?_
      refine va_iald hx hb hK hP 6 5 rfl rfl (i := p0) (vin (a := p0.toInt) rfl (by omega)) dX12_ofPlane_76 ?_
      refine lv_topi (fun z12124 e12125 => ?_)
      have hP9 : va_P (dC, dI) classes (wM g c v F rc) H := hP
      exact W.iret (v := z12124) hx hb hr (fun t ht hW => ⟨⟨z12124, (), rfl, trivial, (by show va_P _ _ _ t.heap; rw [ht]; exact hP9)⟩, hS.F ht⟩) hS.2.2 dX12_ofPlane_77
    · refine lv_tableIn (off := 64) (tgt := 78) hx hb dX12_ofPlane_14 hlo12120 hhi12121 (by rw [hk]; decide) (by decide) ?_
      refine lv_aload_n hx hb dX12_ofPlane_78 rfl (lv_at hl 1 rfl) ?_
      refine lv_iload_n hx hb dX12_ofPlane_79 rfl (lv_at hl 2 rfl) ?_
      refine va_calli (va_runV (As := [.int p0]) (rest := []) ⟨hx, hb, hml, hown, hwd⟩ (c_X12_isReturned l dC dI g c adK adV v F rc H.size p0 hg hI (by omega)) (cwV 1 hwd (gV wk_313 wk_310 wk_311 wk_312 wk_5) rfl rfl rfl (by decide +kernel) ⟨Nat.le_of_ble_eq_true rfl, Nat.le_of_ble_eq_true rfl⟩) ⟨PM.blind, va_recv hK hP (ci := 12) (q0 := 0) rfl rfl, fun U hU hW => ⟨rfl, PM.at hK hE hP hS hU hW⟩⟩ rfl rfl hl.1 rfl (lv_room (Nat.le_of_ble_eq_true rfl)) dX12_ofPlane_80 ⟨Nat.le_of_ble_eq_true rfl, Nat.le_of_ble_eq_true rfl⟩) hS (fun q _ h => (freeM hS) q h) (freeM hS) (fun r12126 u t H1 locs ht hvm hw hB hz1 hk1 hS => ?_)
      unfold BM at hB
      rw [ht] at hB
      have hP : va_P (dC, dI) classes (wM g c v F rc) H1 := hB
      have hw_r12126 : 0 ≤ r12126.toInt ∧ r12126.toInt ≤ 1 := hw
      clear hw
      clear hz1
      generalize H1 = H at hP hS ⊢
      refine lv_if_eq (tgt := 90) hx hb dX12_ofPlane_83 (by decide) (fun c12127 => ?_) (fun c12127 => ?_)
      · skip
        have t12128 := cv_eq (a := r12126.toInt) rfl (b := 0) (by decide) c12127
        refine lv_iconst (v := 0) hx hb dX12_ofPlane_90 (by decide) ?_
        have hP9 : va_P (dC, dI) classes (wM g c v F rc) H := hP
        exact W.iret (v := 0) hx hb hr (fun t ht hW => ⟨⟨0, (), rfl, trivial, (by show va_P _ _ _ t.heap; rw [ht]; exact hP9)⟩, hS.F ht⟩) hS.2.2 dX12_ofPlane_91
      · skip
        have t12129 := cv_ne (a := r12126.toInt) rfl (b := 0) (by decide) c12127
        refine lv_iconst (v := 1) hx hb dX12_ofPlane_86 (by decide) ?_
        refine lv_goto (tgt := 91) hx hb dX12_ofPlane_87 (by decide) ?_
        have hP9 : va_P (dC, dI) classes (wM g c v F rc) H := hP
        exact W.iret (v := 1) hx hb hr (fun t ht hW => ⟨⟨1, (), rfl, trivial, (by show va_P _ _ _ t.heap; rw [ht]; exact hP9)⟩, hS.F ht⟩) hS.2.2 dX12_ofPlane_91
    · refine lv_tableIn (off := 78) (tgt := 92) hx hb dX12_ofPlane_14 hlo12120 hhi12121 (by rw [hk]; decide) (by decide) ?_
      refine lv_iconst (v := 0) hx hb dX12_ofPlane_92 (by decide) ?_
      refine lv_istore (lv' := [(4, .int 0), (3, .int 0), (0, .ref (g 0)), (1, .int p0), (2, .int p1)]) hx hb dX12_ofPlane_93 hl (by decide) rfl (fun ls hl => ?_)
      have lp12130 : ∀ (n : Nat) (x4_lp12130 : Int32) (x3_lp12130 : Int32) (H : Heap) (locs : List Loc) (ls : Array Slot), (0 ≤ x4_lp12130.toInt) → (2147483648 - x4_lp12130.toInt ≤ (n : Int)) → va_P (dC, dI) classes (wM g c v F rc) H → va_S (AM g s.heap.size) s.heap H locs → lv_has ls 5 [(4, .int x4_lp12130), (3, .int x3_lp12130), (0, .ref (g 0)), (1, .int p0), (2, .int p1)] → W p l e (headSpec (Cond.code yX12_ofPlane cX12_ofPlane 5 (some .int) :: wA) ({ frames := 3, cells := 0, slots := 0, locals := 120 })).room s m ([.ref (g 0), .int p0, .int p1] : List Value).toArray below meth c0 H locs 0 0 (MQ below (va_Qi (fun (r : Int32) (u : Unit) => True) (fun (_ : Unit) => BM dC dI g c (v, F, rc)) (AM g s.heap.size)) ([.ref (g 0), .int p0, .int p1] : List Value).toArray s 0 0 (AM g s.heap.size)) (F0 m 95 ls []) := by
        intro n
        induction n with
        | zero =>
          intro x4_lp12130 x3_lp12130 H locs ls t12131 hm hP hS hl
          exfalso
          have := i32_rng x4_lp12130
          have := i32_rng x3_lp12130
          omega
        | succ n ih_lp12130 =>
          intro x4_lp12130 x3_lp12130 H locs ls t12131 hm hP hS hl
          have rx4_lp12130 := i32_rng x4_lp12130
          have rx3_lp12130 := i32_rng x3_lp12130
          refine lv_iload hx hb dX12_ofPlane_95 (lv_at hl 0 rfl) ?_
          refine lv_aload_n hx hb dX12_ofPlane_97 rfl (lv_at hl 2 rfl) ?_
          refine va_get (D := (dC, dI)) (ci := 12) (v := .int (v 14)) (C := RX12) (T := TX12) (N := 63) hx hb hwd inA_X12 hown hK hP 0 rfl rfl 14 (by decide) (hwd _ wk_318) (fun _ h9 => h9) rfl dX12_ofPlane_98 ?_
          have t12132 : 0 ≤ (v 14).toInt ∧ (v 14).toInt ≤ 100 := hI.1 14 _ _ rfl
          refine lv_icmp_ge (tgt := 129) hx hb dX12_ofPlane_101 (by decide) (fun c12133 => ?_) (fun c12133 => ?_)
          · skip
            have t12134 := cv_le (a := (v 14).toInt) rfl (b := x4_lp12130.toInt) rfl c12133
            refine lv_iload_n hx hb dX12_ofPlane_129 rfl (lv_at hl 1 rfl) ?_
            have hP9 : va_P (dC, dI) classes (wM g c v F rc) H := hP
            exact W.iret (v := x3_lp12130) hx hb hr (fun t ht hW => ⟨⟨x3_lp12130, (), rfl, trivial, (by show va_P _ _ _ t.heap; rw [ht]; exact hP9)⟩, hS.F ht⟩) hS.2.2 dX12_ofPlane_130
          · skip
            have t12135 := cv_nle (a := (v 14).toInt) rfl (b := x4_lp12130.toInt) rfl c12133
            refine lv_iload_n hx hb dX12_ofPlane_104 rfl (lv_at hl 1 rfl) ?_
            refine lv_aload_n hx hb dX12_ofPlane_105 rfl (lv_at hl 2 rfl) ?_
            refine va_get (D := (dC, dI)) (ci := 12) (v := .ref (g 13)) (C := RX12) (T := TX12) (N := 63) hx hb hwd inA_X12 hown hK hP 0 rfl rfl 17 (by decide) (hwd _ wk_194) (fun _ h9 => h9) rfl dX12_ofPlane_106 ?_
            refine lv_iload hx hb dX12_ofPlane_109 (lv_at hl 0 rfl) ?_
            refine va_iald hx hb hK hP 13 12 rfl rfl (i := x4_lp12130) (vin (a := x4_lp12130.toInt) rfl (by omega)) dX12_ofPlane_111 ?_
            refine lv_topi (fun z12136 e12137 => ?_)
            have t12138 : 0 ≤ z12136.toInt ∧ z12136.toInt ≤ 12 := by rw [e12137]; exact hI.2 13 _ _ rfl _
            refine lv_iload_n hx hb dX12_ofPlane_112 rfl (lv_at hl 3 rfl) ?_
            refine lv_icmp_ne (tgt := 120) hx hb dX12_ofPlane_113 (by decide) (fun c12139 => ?_) (fun c12139 => ?_)
            · skip
              have t12140 := cv_ne (a := z12136.toInt) rfl (b := p0.toInt) rfl c12139
              refine lv_iconst (v := 0) hx hb dX12_ofPlane_120 (by decide) ?_
              refine lv_iadd hx hb dX12_ofPlane_121 ?_
              refine lv_topi (fun z12141 e12142 => ?_)
              try (have t12143 := tadd e12142 (a := x3_lp12130.toInt) rfl (b := 0) (by decide) (by omega))
              refine lv_istore_n (lv' := [(3, .int z12141), (4, .int x4_lp12130), (0, .ref (g 0)), (1, .int p0), (2, .int p1)]) hx hb dX12_ofPlane_122 rfl hl (by decide) rfl (fun ls hl => ?_)
              obtain ⟨z12144, e12145⟩ : ∃ y : Int32, y = x4_lp12130 + 1 := ⟨_, rfl⟩
              try (have t12146 := tadd e12145 rfl (b := 1) (by decide) (by omega))
              refine lv_iinc (v := z12144) (lv' := [(4, .int z12144), (3, .int z12141), (0, .ref (g 0)), (1, .int p0), (2, .int p1)]) hx hb dX12_ofPlane_123 hl (k := 1) rfl (by rw [e12145]; rfl) (by decide) rfl (fun ls hl => ?_)
              refine lv_goto (tgt := 95) hx hb dX12_ofPlane_126 (by decide) ?_
              exact ih_lp12130 z12144 z12141  _ _ _ (by omega) (by omega) hP hS (lv_sub hl [0, 1, 2, 3, 4] rfl)
            · skip
              have t12147 := cv_eq (a := z12136.toInt) rfl (b := p0.toInt) rfl c12139
              refine lv_iconst (v := 1) hx hb dX12_ofPlane_116 (by decide) ?_
              refine lv_goto (tgt := 121) hx hb dX12_ofPlane_117 (by decide) ?_
              refine lv_iadd hx hb dX12_ofPlane_121 ?_
              refine lv_topi (fun z12148 e12149 => ?_)
              try (have t12150 := tadd e12149 (a := x3_lp12130.toInt) rfl (b := 1) (by decide) (by omega))
              refine lv_istore_n (lv' := [(3, .int z12148), (4, .int x4_lp12130), (0, .ref (g 0)), (1, .int p0), (2, .int p1)]) hx hb dX12_ofPlane_122 rfl hl (by decide) rfl (fun ls hl => ?_)
              obtain ⟨z12151, e12152⟩ : ∃ y : Int32, y = x4_lp12130 + 1 := ⟨_, rfl⟩
              try (have t12153 := tadd e12152 rfl (b := 1) (by decide) (by omega))
              refine lv_iinc (v := z12151) (lv' := [(4, .int z12151), (3, .int z12148), (0, .ref (g 0)), (1, .int p0), (2, .int p1)]) hx hb dX12_ofPlane_123 hl (k := 1) rfl (by rw [e12152]; rfl) (by decide) rfl (fun ls hl => ?_)
              refine lv_goto (tgt := 95) hx hb dX12_ofPlane_126 (by decide) ?_
              exact ih_lp12130 z12151 z12148  _ _ _ (by omega) (by omega) hP hS (lv_sub hl [0, 1, 2, 3, 4] rfl)
      obtain ⟨n9, hn9⟩ : ∃ n : Nat, 2147483648 - 0 ≤ (n : Int) := ⟨((2147483648 - 0 : Int)).toNat, by omega⟩
      exact lp12130 n9 0 0  H _ ls (by have : (0 : Int32).toInt = 0 := (by decide); have : (0 : Int32).toInt = 0 := (by decide); omega) (by have : (0 : Int32).toInt = 0 := (by decide); have : (0 : Int32).toInt = 0 := (by decide); omega) hP hS hl
    · refine lv_tableIn (off := 117) (tgt := 131) hx hb dX12_ofPlane_14 hlo12120 hhi12121 (by rw [hk]; decide) (by decide) ?_
      refine lv_aload_n hx hb dX12_ofPlane_131 rfl (lv_at hl 1 rfl) ?_
      refine va_get (D := (dC, dI)) (ci := 12) (v := .ref (g 4)) (C := RX12) (T := TX12) (N := 63) hx hb hwd inA_X12 hown hK hP 0 rfl rfl 7 (by decide) (hwd _ wk_185) (fun _ h9 => h9) rfl dX12_ofPlane_132 ?_
      refine lv_iload_n hx hb dX12_ofPlane_135 rfl (lv_at hl 2 rfl) ?_
      refine va_iald hx hb hK hP 4 3 rfl rfl (i := p0) (vin (a := p0.toInt) rfl (by omega)) dX12_ofPlane_136 ?_
      refine lv_topi (fun z12154 e12155 => ?_)
      have hP9 : va_P (dC, dI) classes (wM g c v F rc) H := hP
      exact W.iret (v := z12154) hx hb hr (fun t ht hW => ⟨⟨z12154, (), rfl, trivial, (by show va_P _ _ _ t.heap; rw [ht]; exact hP9)⟩, hS.F ht⟩) hS.2.2 dX12_ofPlane_137
    · refine lv_tableIn (off := 124) (tgt := 138) hx hb dX12_ofPlane_14 hlo12120 hhi12121 (by rw [hk]; decide) (by decide) ?_
      refine lv_aload_n hx hb dX12_ofPlane_138 rfl (lv_at hl 1 rfl) ?_
      refine va_get (D := (dC, dI)) (ci := 12) (v := .ref (g 7)) (C := RX12) (T := TX12) (N := 63) hx hb hwd inA_X12 hown hK hP 0 rfl rfl 10 (by decide) (hwd _ wk_188) (fun _ h9 => h9) rfl dX12_ofPlane_139 ?_
      refine lv_iload_n hx hb dX12_ofPlane_142 rfl (lv_at hl 2 rfl) ?_
      refine va_iald hx hb hK hP 7 6 rfl rfl (i := p0) (vin (a := p0.toInt) rfl (by omega)) dX12_ofPlane_143 ?_
      refine lv_topi (fun z12156 e12157 => ?_)
      have hP9 : va_P (dC, dI) classes (wM g c v F rc) H := hP
      exact W.iret (v := z12156) hx hb hr (fun t ht hW => ⟨⟨z12156, (), rfl, trivial, (by show va_P _ _ _ t.heap; rw [ht]; exact hP9)⟩, hS.F ht⟩) hS.2.2 dX12_ofPlane_144
    · refine lv_tableIn (off := 131) (tgt := 145) hx hb dX12_ofPlane_14 hlo12120 hhi12121 (by rw [hk]; decide) (by decide) ?_
      refine lv_aload_n hx hb dX12_ofPlane_145 rfl (lv_at hl 1 rfl) ?_
      refine va_get (D := (dC, dI)) (ci := 12) (v := .ref (g 8)) (C := RX12) (T := TX12) (N := 63) hx hb hwd inA_X12 hown hK hP 0 rfl rfl 11 (by decide) (hwd _ wk_189) (fun _ h9 => h9) rfl dX12_ofPlane_146 ?_
      refine lv_iload_n hx hb dX12_ofPlane_149 rfl (lv_at hl 2 rfl) ?_
      refine va_iald hx hb hK hP 8 7 rfl rfl (i := p0) (vin (a := p0.toInt) rfl (by omega)) dX12_ofPlane_150 ?_
      refine lv_topi (fun z12158 e12159 => ?_)
      have hP9 : va_P (dC, dI) classes (wM g c v F rc) H := hP
      exact W.iret (v := z12158) hx hb hr (fun t ht hW => ⟨⟨z12158, (), rfl, trivial, (by show va_P _ _ _ t.heap; rw [ht]; exact hP9)⟩, hS.F ht⟩) hS.2.2 dX12_ofPlane_151
    · refine lv_tableIn (off := 138) (tgt := 152) hx hb dX12_ofPlane_14 hlo12120 hhi12121 (by rw [hk]; decide) (by decide) ?_
      refine lv_aload_n hx hb dX12_ofPlane_152 rfl (lv_at hl 1 rfl) ?_
      refine va_get (D := (dC, dI)) (ci := 12) (v := .ref (g 35)) (C := RX12) (T := TX12) (N := 63) hx hb hwd inA_X12 hown hK hP 0 rfl rfl 49 (by decide) (hwd _ wk_217) (fun _ h9 => h9) rfl dX12_ofPlane_153 ?_
      refine lv_iload_n hx hb dX12_ofPlane_156 rfl (lv_at hl 2 rfl) ?_
      refine va_iald hx hb hK hP 35 34 rfl rfl (i := p0) (vin (a := p0.toInt) rfl (by omega)) dX12_ofPlane_157 ?_
      refine lv_topi (fun z12160 e12161 => ?_)
      have hP9 : va_P (dC, dI) classes (wM g c v F rc) H := hP
      exact W.iret (v := z12160) hx hb hr (fun t ht hW => ⟨⟨z12160, (), rfl, trivial, (by show va_P _ _ _ t.heap; rw [ht]; exact hP9)⟩, hS.F ht⟩) hS.2.2 dX12_ofPlane_158
    · refine lv_tableIn (off := 145) (tgt := 159) hx hb dX12_ofPlane_14 hlo12120 hhi12121 (by rw [hk]; decide) (by decide) ?_
      refine lv_aload_n hx hb dX12_ofPlane_159 rfl (lv_at hl 1 rfl) ?_
      refine va_get (D := (dC, dI)) (ci := 12) (v := .ref (g 36)) (C := RX12) (T := TX12) (N := 63) hx hb hwd inA_X12 hown hK hP 0 rfl rfl 50 (by decide) (hwd _ wk_218) (fun _ h9 => h9) rfl dX12_ofPlane_160 ?_
      refine lv_iload_n hx hb dX12_ofPlane_163 rfl (lv_at hl 2 rfl) ?_
      refine va_iald hx hb hK hP 36 35 rfl rfl (i := p0) (vin (a := p0.toInt) rfl (by omega)) dX12_ofPlane_164 ?_
      refine lv_topi (fun z12162 e12163 => ?_)
      have hP9 : va_P (dC, dI) classes (wM g c v F rc) H := hP
      exact W.iret (v := z12162) hx hb hr (fun t ht hW => ⟨⟨z12162, (), rfl, trivial, (by show va_P _ _ _ t.heap; rw [ht]; exact hP9)⟩, hS.F ht⟩) hS.2.2 dX12_ofPlane_165
  · skip
    have t12164 := cv_eq (a := r12117.toInt) rfl (b := 0) (by decide) c12118
    refine lv_ldc (v := (-2000000000)) hx hb hown (hwd _ wk_542) dX12_ofPlane_8 ?_
    have hP9 : va_P (dC, dI) classes (wM g c v F rc) H := hP
    exact W.iret (v := (-2000000000)) hx hb hr (fun t ht hW => ⟨⟨(-2000000000), (), rfl, trivial, (by show va_P _ _ _ t.heap; rw [ht]; exact hP9)⟩, hS.F ht⟩) hS.2.2 dX12_ofPlane_10
