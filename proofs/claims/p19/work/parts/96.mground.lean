set_option maxHeartbeats 8000000 in
set_option maxRecDepth 100000 in
theorem c_X12_groundedBy (l : Launch) (dC : Nat → ClassId) (dI : Nat → Nat → Nat) (g : Nat → Nat) (c : Nat → ClassId) (adK adV : Nat → Nat) (v : Nat → Int32) (F : Nat → Nat → Int32) (rc sz : Nat) (p0 : Int32) (p1 : Int32) (hg : injM g) (hI : IM v F) (h0 : 0 ≤ p0.toInt ∧ p0.toInt ≤ 9) (hL : JL (v 31) (F 28) (F 29) (F 27)) : Met l yX12_groundedBy (Cond.code yX12_groundedBy cX12_groundedBy 5 (some .int) :: wA) ({ frames := 5, cells := 0, slots := 0, locals := 200 }) (va_Pc [.ref (g 0), .int p0, .int p1] (PM dC dI g c adK adV v F rc sz)) (va_Qi (fun (r : Int32) (u : StM) => IM u.1 u.2.1 ∧ u.2.2 = rc ∧ (∀ k, k ∉ ([] : List Nat) → u.1 k = v k) ∧ (∀ k, k ∉ ([30, 31] : List Nat) → u.2.1 k = F k) ∧ True) (BM dC dI g c) (AM g sz)) 0 0 (AM g sz) := by
  refine Met.ofW (cc := cX12_groundedBy) (maxL := 5) (ret := (some .int)) (by decide) rfl ?_
  intro p e s m args below meth c0 s₁ B hml hv
  obtain ⟨rfl, hsz, hP, hK, hE⟩ := hv
  have hx := B.exec
  have hb := B.bytes
  have hr := B.returns
  have hts := atoms_spec (ws := Cond.code yX12_groundedBy cX12_groundedBy 5 (some .int) :: wA) B.pre
  have hwd : ∀ w ∈ wA, w.before _ s = true := fun w h => hts w (List.mem_cons_of_mem _ h)
  have hown : s.vm.findClass RX12 = some m.cls := findClass_of_methodNamed B.named
  have hlocks := B.notSynchronized
  subst hsz
  have hl := lv_entry ([.ref (g 0), .int p0, .int p1]) (n := 5) (Nat.le_of_ble_eq_true rfl)
  rw [lg_entry_eq]
  generalize (lg_sl ([.ref (g 0), .int p0, .int p1]) ++ List.replicate (5 - (lg_sl ([.ref (g 0), .int p0, .int p1])).length) Slot.unset).toArray = ls at hl ⊢
  have hl : lv_has ls 5 [(0, .ref (g 0)), (1, .int p0), (2, .int p1)] := hl
  obtain ⟨H, eH⟩ : ∃ z, z = s.heap := ⟨_, rfl⟩
  have hP : va_P (dC, dI) classes (wM g c v F rc) H := by rw [eH]; exact hP
  have hS : va_S (AM g s.heap.size) s.heap H [] := by rw [eH]; exact va_S.rf
  refine my_heap eH ?_
  have hF : ∀ k, k ∉ ([30, 31] : List Nat) → F k = F k := fun _ _ => rfl
  have rp0 := i32_rng p0
  have rp1 := i32_rng p1
  have hb31 : 0 ≤ (v 31).toInt ∧ (v 31).toInt ≤ 10 := hI.1 31 _ _ rfl
  refine lv_iconst (v := 0) hx hb dX12_groundedBy_0 (by decide) ?_
  refine lv_istore_n (lv' := [(3, .int 0), (0, .ref (g 0)), (1, .int p0), (2, .int p1)]) hx hb dX12_groundedBy_1 rfl hl (by decide) rfl (fun ls hl => ?_)
  have lp11720 : ∀ (n : Nat) (x3_lp11720 : Int32) (v_lp11720 : Nat → Int32) (F_lp11720 : Nat → Nat → Int32) (H : Heap) (locs : List Loc) (ls : Array Slot), (0 ≤ x3_lp11720.toInt) → (2147483648 - x3_lp11720.toInt ≤ (n : Int)) → (∀ k, k ∉ ([] : List Nat) → v_lp11720 k = v k) → IM v_lp11720 F_lp11720 → (∀ k, k ∉ ([30, 31] : List Nat) → F_lp11720 k = F k) → va_P (dC, dI) classes (wM g c v_lp11720 F_lp11720 rc) H → va_S (AM g s.heap.size) s.heap H locs → lv_has ls 5 [(3, .int x3_lp11720), (0, .ref (g 0)), (1, .int p0), (2, .int p1)] → W p l e (headSpec (Cond.code yX12_groundedBy cX12_groundedBy 5 (some .int) :: wA) ({ frames := 5, cells := 0, slots := 0, locals := 200 })).room s m ([.ref (g 0), .int p0, .int p1] : List Value).toArray below meth c0 H locs 0 0 (MQ below (va_Qi (fun (r : Int32) (u : StM) => IM u.1 u.2.1 ∧ u.2.2 = rc ∧ (∀ k, k ∉ ([] : List Nat) → u.1 k = v k) ∧ (∀ k, k ∉ ([30, 31] : List Nat) → u.2.1 k = F k) ∧ True) (BM dC dI g c) (AM g s.heap.size)) ([.ref (g 0), .int p0, .int p1] : List Value).toArray s 0 0 (AM g s.heap.size)) (F0 m 2 ls []) := by
    intro n
    induction n with
    | zero =>
      intro x3_lp11720 v_lp11720 F_lp11720 H locs ls t11721 hm hf_lp11720 hI hF hP hS hl
      exfalso
      have := i32_rng x3_lp11720
      have hI1 := hI.1
      omega
    | succ n ih_lp11720 =>
      intro x3_lp11720 v_lp11720 F_lp11720 H locs ls t11721 hm hf_lp11720 hI hF hP hS hl
      have rx3_lp11720 := i32_rng x3_lp11720
      refine lv_iload_n hx hb dX12_groundedBy_2 rfl (lv_at hl 0 rfl) ?_
      refine lv_aload_n hx hb dX12_groundedBy_3 rfl (lv_at hl 1 rfl) ?_
      refine va_get (D := (dC, dI)) (ci := 12) (v := .int (v_lp11720 2)) (C := RX12) (T := TX12) (N := 63) hx hb hwd inA_X12 hown hK hP 0 rfl rfl 2 (by decide) (hwd _ wk_251) (fun _ h9 => h9) rfl dX12_groundedBy_4 ?_
      refine my_top (v := v 2) (hf_lp11720 2 (by decide)) ?_
      have t11722 : 0 ≤ (v 2).toInt ∧ (v 2).toInt ≤ 10 := by have h9 := hI.1 2 _ _ rfl; rw [show v_lp11720 2 = v 2 from hf_lp11720 2 (by decide)] at h9; exact h9
      refine lv_icmp_ge (tgt := 38) hx hb dX12_groundedBy_7 (by decide) (fun c11723 => ?_) (fun c11723 => ?_)
      · skip
        have t11724 := cv_le (a := (v 2).toInt) rfl (b := x3_lp11720.toInt) rfl c11723
        refine lv_iconst (v := 0) hx hb dX12_groundedBy_38 (by decide) ?_
        refine lv_istore_n (lv' := [(3, .int 0), (0, .ref (g 0)), (1, .int p0), (2, .int p1)]) hx hb dX12_groundedBy_39 rfl hl (by decide) rfl (fun ls hl => ?_)
        have lp11725 : ∀ (n : Nat) (x3_lp11725 : Int32) (v_lp11725 : Nat → Int32) (F_lp11725 : Nat → Nat → Int32) (H : Heap) (locs : List Loc) (ls : Array Slot), (0 ≤ x3_lp11725.toInt) → (2147483648 - x3_lp11725.toInt ≤ (n : Int)) → (∀ k, k ∉ ([] : List Nat) → v_lp11725 k = v_lp11720 k) → IM v_lp11725 F_lp11725 → (∀ k, k ∉ ([30, 31] : List Nat) → F_lp11725 k = F k) → va_P (dC, dI) classes (wM g c v_lp11725 F_lp11725 rc) H → va_S (AM g s.heap.size) s.heap H locs → lv_has ls 5 [(3, .int x3_lp11725), (0, .ref (g 0)), (1, .int p0), (2, .int p1)] → W p l e (headSpec (Cond.code yX12_groundedBy cX12_groundedBy 5 (some .int) :: wA) ({ frames := 5, cells := 0, slots := 0, locals := 200 })).room s m ([.ref (g 0), .int p0, .int p1] : List Value).toArray below meth c0 H locs 0 0 (MQ below (va_Qi (fun (r : Int32) (u : StM) => IM u.1 u.2.1 ∧ u.2.2 = rc ∧ (∀ k, k ∉ ([] : List Nat) → u.1 k = v k) ∧ (∀ k, k ∉ ([30, 31] : List Nat) → u.2.1 k = F k) ∧ True) (BM dC dI g c) (AM g s.heap.size)) ([.ref (g 0), .int p0, .int p1] : List Value).toArray s 0 0 (AM g s.heap.size)) (F0 m 40 ls []) := by
          intro n
          induction n with
          | zero =>
            intro x3_lp11725 v_lp11725 F_lp11725 H locs ls t11726 hm hf_lp11725 hI hF hP hS hl
            exfalso
            have := i32_rng x3_lp11725
            have hI1 := hI.1
            omega
          | succ n ih_lp11725 =>
            intro x3_lp11725 v_lp11725 F_lp11725 H locs ls t11726 hm hf_lp11725 hI hF hP hS hl
            have rx3_lp11725 := i32_rng x3_lp11725
            refine lv_iload_n hx hb dX12_groundedBy_40 rfl (lv_at hl 0 rfl) ?_
            refine lv_aload_n hx hb dX12_groundedBy_41 rfl (lv_at hl 1 rfl) ?_
            refine va_get (D := (dC, dI)) (ci := 12) (v := .int (v_lp11725 14)) (C := RX12) (T := TX12) (N := 63) hx hb hwd inA_X12 hown hK hP 0 rfl rfl 14 (by decide) (hwd _ wk_318) (fun _ h9 => h9) rfl dX12_groundedBy_42 ?_
            refine my_top (v := v 14) ((hf_lp11725 14 (by decide)).trans (hf_lp11720 14 (by decide))) ?_
            have t11727 : 0 ≤ (v 14).toInt ∧ (v 14).toInt ≤ 100 := by have h9 := hI.1 14 _ _ rfl; rw [show v_lp11725 14 = v 14 from (hf_lp11725 14 (by decide)).trans (hf_lp11720 14 (by decide))] at h9; exact h9
            refine lv_icmp_ge (tgt := 102) hx hb dX12_groundedBy_45 (by decide) (fun c11728 => ?_) (fun c11728 => ?_)
            · skip
              have t11729 := cv_le (a := (v 14).toInt) rfl (b := x3_lp11725.toInt) rfl c11728
              refine lv_iconst (v := 0) hx hb dX12_groundedBy_102 (by decide) ?_
              refine lv_istore_n (lv' := [(3, .int 0), (0, .ref (g 0)), (1, .int p0), (2, .int p1)]) hx hb dX12_groundedBy_103 rfl hl (by decide) rfl (fun ls hl => ?_)
              have lp11730 : ∀ (n : Nat) (x3_lp11730 : Int32) (v_lp11730 : Nat → Int32) (F_lp11730 : Nat → Nat → Int32) (H : Heap) (locs : List Loc) (ls : Array Slot), (0 ≤ x3_lp11730.toInt) → (2147483648 - x3_lp11730.toInt ≤ (n : Int)) → (∀ k, k ∉ ([] : List Nat) → v_lp11730 k = v_lp11725 k) → IM v_lp11730 F_lp11730 → (∀ k, k ∉ ([30, 31] : List Nat) → F_lp11730 k = F k) → va_P (dC, dI) classes (wM g c v_lp11730 F_lp11730 rc) H → va_S (AM g s.heap.size) s.heap H locs → lv_has ls 5 [(3, .int x3_lp11730), (0, .ref (g 0)), (1, .int p0), (2, .int p1)] → W p l e (headSpec (Cond.code yX12_groundedBy cX12_groundedBy 5 (some .int) :: wA) ({ frames := 5, cells := 0, slots := 0, locals := 200 })).room s m ([.ref (g 0), .int p0, .int p1] : List Value).toArray below meth c0 H locs 0 0 (MQ below (va_Qi (fun (r : Int32) (u : StM) => IM u.1 u.2.1 ∧ u.2.2 = rc ∧ (∀ k, k ∉ ([] : List Nat) → u.1 k = v k) ∧ (∀ k, k ∉ ([30, 31] : List Nat) → u.2.1 k = F k) ∧ True) (BM dC dI g c) (AM g s.heap.size)) ([.ref (g 0), .int p0, .int p1] : List Value).toArray s 0 0 (AM g s.heap.size)) (F0 m 104 ls []) := by
                intro n
                induction n with
                | zero =>
                  intro x3_lp11730 v_lp11730 F_lp11730 H locs ls t11731 hm hf_lp11730 hI hF hP hS hl
                  exfalso
                  have := i32_rng x3_lp11730
                  have hI1 := hI.1
                  omega
                | succ n ih_lp11730 =>
                  intro x3_lp11730 v_lp11730 F_lp11730 H locs ls t11731 hm hf_lp11730 hI hF hP hS hl
                  have rx3_lp11730 := i32_rng x3_lp11730
                  refine lv_iload_n hx hb dX12_groundedBy_104 rfl (lv_at hl 0 rfl) ?_
                  refine lv_aload_n hx hb dX12_groundedBy_105 rfl (lv_at hl 1 rfl) ?_
                  refine va_get (D := (dC, dI)) (ci := 12) (v := .int (v_lp11730 45)) (C := RX12) (T := TX12) (N := 63) hx hb hwd inA_X12 hown hK hP 0 rfl rfl 45 (by decide) (hwd _ wk_485) (fun _ h9 => h9) rfl dX12_groundedBy_106 ?_
                  refine my_top (v := v 45) ((hf_lp11730 45 (by decide)).trans ((hf_lp11725 45 (by decide)).trans (hf_lp11720 45 (by decide)))) ?_
                  have t11732 : 0 ≤ (v 45).toInt ∧ (v 45).toInt ≤ 20 := by have h9 := hI.1 45 _ _ rfl; rw [show v_lp11730 45 = v 45 from (hf_lp11730 45 (by decide)).trans ((hf_lp11725 45 (by decide)).trans (hf_lp11720 45 (by decide)))] at h9; exact h9
                  refine lv_icmp_ge (tgt := 156) hx hb dX12_groundedBy_109 (by decide) (fun c11733 => ?_) (fun c11733 => ?_)
                  · skip
                    have t11734 := cv_le (a := (v 45).toInt) rfl (b := x3_lp11730.toInt) rfl c11733
                    refine lv_iconst (v := 0) hx hb dX12_groundedBy_156 (by decide) ?_
                    have hP9 : va_P (dC, dI) classes (wM g c v_lp11730 F_lp11730 rc) H := hP
                    exact W.iret (v := 0) hx hb hr (fun t ht hW => ⟨⟨0, (v_lp11730, F_lp11730, rc), rfl, ⟨hI, rfl, (frC (by decide) hf_lp11730 (frC (by decide) hf_lp11725 (frC (by decide) hf_lp11720 (fun _ _ => rfl)))), hF, trivial⟩, (by show va_P _ _ _ t.heap; rw [ht]; exact hP9)⟩, hS.F ht⟩) hS.2.2 dX12_groundedBy_157
                  · skip
                    have t11735 := cv_nle (a := (v 45).toInt) rfl (b := x3_lp11730.toInt) rfl c11733
                    refine lv_aload_n hx hb dX12_groundedBy_112 rfl (lv_at hl 1 rfl) ?_
                    refine lv_iload_n hx hb dX12_groundedBy_113 rfl (lv_at hl 0 rfl) ?_
                    refine lv_iload_n hx hb dX12_groundedBy_114 rfl (lv_at hl 2 rfl) ?_
                    refine va_calli (va_runV (As := [.int x3_lp11730, .int p0]) (rest := []) ⟨hx, hb, hml, hown, hwd⟩ (c_X12_asks l dC dI g c adK adV v_lp11730 F_lp11730 rc H.size x3_lp11730 p0 hg hI (by omega) (by omega)) (cwV 2 hwd (gV wk_520 wk_517 wk_518 wk_519 wk_5) rfl rfl rfl (by decide +kernel) ⟨Nat.le_of_ble_eq_true rfl, Nat.le_of_ble_eq_true rfl⟩) ⟨PM.blind, va_recv hK hP (ci := 12) (q0 := 0) rfl rfl, fun U hU hW => ⟨rfl, PM.at hK hE hP hS hU hW⟩⟩ rfl rfl hl.1 rfl (lv_room (Nat.le_of_ble_eq_true rfl)) dX12_groundedBy_115 ⟨Nat.le_of_ble_eq_true rfl, Nat.le_of_ble_eq_true rfl⟩) hS (fun q _ h => (freeM hS) q h) (freeM hS) (fun r11736 u t H1 locs ht hvm hw hB hz1 hk1 hS => ?_)
                    unfold BM at hB
                    rw [ht] at hB
                    have hP : va_P (dC, dI) classes (wM g c v_lp11730 F_lp11730 rc) H1 := hB
                    have hw_r11736 : 0 ≤ r11736.toInt ∧ r11736.toInt ≤ 1 := hw
                    clear hw
                    clear hz1
                    generalize H1 = H at hP hS ⊢
                    refine lv_if_eq (tgt := 150) hx hb dX12_groundedBy_118 (by decide) (fun c11737 => ?_) (fun c11737 => ?_)
                    · skip
                      have t11738 := cv_eq (a := r11736.toInt) rfl (b := 0) (by decide) c11737
                      obtain ⟨z11739, e11740⟩ : ∃ y : Int32, y = x3_lp11730 + 1 := ⟨_, rfl⟩
                      try (have t11741 := tadd e11740 rfl (b := 1) (by decide) (by omega))
                      refine lv_iinc (v := z11739) (lv' := [(3, .int z11739), (0, .ref (g 0)), (1, .int p0), (2, .int p1)]) hx hb dX12_groundedBy_150 hl (k := 0) rfl (by rw [e11740]; rfl) (by decide) rfl (fun ls hl => ?_)
                      refine lv_goto (tgt := 104) hx hb dX12_groundedBy_153 (by decide) ?_
                      exact ih_lp11730 z11739 v_lp11730 F_lp11730 _ _ _ (by omega) (by omega) hf_lp11730 hI hF hP hS (lv_sub hl [0, 1, 2, 3] rfl)
                    · skip
                      have t11742 := cv_ne (a := r11736.toInt) rfl (b := 0) (by decide) c11737
                      refine lv_aload_n hx hb dX12_groundedBy_121 rfl (lv_at hl 1 rfl) ?_
                      refine va_get (D := (dC, dI)) (ci := 12) (v := .ref (g 34)) (C := RX12) (T := TX12) (N := 63) hx hb hwd inA_X12 hown hK hP 0 rfl rfl 48 (by decide) (hwd _ wk_216) (fun _ h9 => h9) rfl dX12_groundedBy_122 ?_
                      refine lv_bipush (v := 10) hx hb dX12_groundedBy_125 (by decide) ?_
                      refine lv_iload_n hx hb dX12_groundedBy_127 rfl (lv_at hl 0 rfl) ?_
                      refine lv_imul hx hb dX12_groundedBy_128 ?_
                      refine lv_topi (fun z11743 e11744 => ?_)
                      try (have t11745 := tmul e11744 (a := 10) (by decide) (b := x3_lp11730.toInt) rfl (by omega))
                      refine lv_iload_n hx hb dX12_groundedBy_129 rfl (lv_at hl 2 rfl) ?_
                      refine lv_iadd hx hb dX12_groundedBy_130 ?_
                      refine lv_topi (fun z11746 e11747 => ?_)
                      try (have t11748 := tadd e11747 (a := z11743.toInt) rfl (b := p0.toInt) rfl (by omega))
                      refine va_zald hx hb hK hP 34 33 rfl rfl (i := z11746) (vin (a := z11746.toInt) rfl (by omega)) dX12_groundedBy_131 ?_
                      refine lv_topi (fun z11749 e11750 => ?_)
                      have e11750 : z11749 = F 34 (z11746 : Int32).toNatClampNeg := e11750.trans (congrFun (hF 34 (by decide)) _)
                      refine lv_if_ne (tgt := 150) hx hb dX12_groundedBy_132 (by decide) (fun c11751 => ?_) (fun c11751 => ?_)
                      · skip
                        have t11752 := cv_ne (a := z11749.toInt) rfl (b := 0) (by decide) c11751
                        obtain ⟨z11753, e11754⟩ : ∃ y : Int32, y = x3_lp11730 + 1 := ⟨_, rfl⟩
                        try (have t11755 := tadd e11754 rfl (b := 1) (by decide) (by omega))
                        refine lv_iinc (v := z11753) (lv' := [(3, .int z11753), (0, .ref (g 0)), (1, .int p0), (2, .int p1)]) hx hb dX12_groundedBy_150 hl (k := 0) rfl (by rw [e11754]; rfl) (by decide) rfl (fun ls hl => ?_)
                        refine lv_goto (tgt := 104) hx hb dX12_groundedBy_153 (by decide) ?_
                        exact ih_lp11730 z11753 v_lp11730 F_lp11730 _ _ _ (by omega) (by omega) hf_lp11730 hI hF hP hS (lv_sub hl [0, 1, 2, 3] rfl)
                      · skip
                        have t11756 := cv_eq (a := z11749.toInt) rfl (b := 0) (by decide) c11751
                        refine lv_aload_n hx hb dX12_groundedBy_135 rfl (lv_at hl 1 rfl) ?_
                        refine va_get (D := (dC, dI)) (ci := 12) (v := .ref (g 33)) (C := RX12) (T := TX12) (N := 63) hx hb hwd inA_X12 hown hK hP 0 rfl rfl 47 (by decide) (hwd _ wk_215) (fun _ h9 => h9) rfl dX12_groundedBy_136 ?_
                        refine lv_iload_n hx hb dX12_groundedBy_139 rfl (lv_at hl 0 rfl) ?_
                        refine va_iald hx hb hK hP 33 32 rfl rfl (i := x3_lp11730) (vin (a := x3_lp11730.toInt) rfl (by omega)) dX12_groundedBy_140 ?_
                        refine lv_topi (fun z11757 e11758 => ?_)
                        have e11758 : z11757 = F 33 (x3_lp11730 : Int32).toNatClampNeg := e11758.trans (congrFun (hF 33 (by decide)) _)
                        refine lv_aload_n hx hb dX12_groundedBy_141 rfl (lv_at hl 1 rfl) ?_
                        refine va_get (D := (dC, dI)) (ci := 12) (v := .int (v_lp11730 1)) (C := RX12) (T := TX12) (N := 63) hx hb hwd inA_X12 hown hK hP 0 rfl rfl 1 (by decide) (hwd _ wk_332) (fun _ h9 => h9) rfl dX12_groundedBy_142 ?_
                        refine my_top (v := v 1) ((hf_lp11730 1 (by decide)).trans ((hf_lp11725 1 (by decide)).trans (hf_lp11720 1 (by decide)))) ?_
                        have t11759 : 0 ≤ (v 1).toInt ∧ (v 1).toInt ≤ 9999 := by have h9 := hI.1 1 _ _ rfl; rw [show v_lp11730 1 = v 1 from (hf_lp11730 1 (by decide)).trans ((hf_lp11725 1 (by decide)).trans (hf_lp11720 1 (by decide)))] at h9; exact h9
                        refine lv_icmp_ge (tgt := 150) hx hb dX12_groundedBy_145 (by decide) (fun c11760 => ?_) (fun c11760 => ?_)
                        · skip
                          have t11761 := cv_le (a := (v 1).toInt) rfl (b := z11757.toInt) rfl c11760
                          obtain ⟨z11762, e11763⟩ : ∃ y : Int32, y = x3_lp11730 + 1 := ⟨_, rfl⟩
                          try (have t11764 := tadd e11763 rfl (b := 1) (by decide) (by omega))
                          refine lv_iinc (v := z11762) (lv' := [(3, .int z11762), (0, .ref (g 0)), (1, .int p0), (2, .int p1)]) hx hb dX12_groundedBy_150 hl (k := 0) rfl (by rw [e11763]; rfl) (by decide) rfl (fun ls hl => ?_)
                          refine lv_goto (tgt := 104) hx hb dX12_groundedBy_153 (by decide) ?_
                          exact ih_lp11730 z11762 v_lp11730 F_lp11730 _ _ _ (by omega) (by omega) hf_lp11730 hI hF hP hS (lv_sub hl [0, 1, 2, 3] rfl)
                        · skip
                          have t11765 := cv_nle (a := (v 1).toInt) rfl (b := z11757.toInt) rfl c11760
                          refine lv_iconst (v := 3) hx hb dX12_groundedBy_148 (by decide) ?_
                          have hP9 : va_P (dC, dI) classes (wM g c v_lp11730 F_lp11730 rc) H := hP
                          exact W.iret (v := 3) hx hb hr (fun t ht hW => ⟨⟨3, (v_lp11730, F_lp11730, rc), rfl, ⟨hI, rfl, (frC (by decide) hf_lp11730 (frC (by decide) hf_lp11725 (frC (by decide) hf_lp11720 (fun _ _ => rfl)))), hF, trivial⟩, (by show va_P _ _ _ t.heap; rw [ht]; exact hP9)⟩, hS.F ht⟩) hS.2.2 dX12_groundedBy_149
              obtain ⟨n9, hn9⟩ : ∃ n : Nat, 2147483648 - 0 ≤ (n : Int) := ⟨((2147483648 - 0 : Int)).toNat, by omega⟩
              exact lp11730 n9 0 v_lp11725 F_lp11725 H _ ls (by have : (0 : Int32).toInt = 0 := (by decide); omega) (by have : (0 : Int32).toInt = 0 := (by decide); omega) (fun _ _ => rfl) hI hF hP hS hl
            · skip
              have t11766 := cv_nle (a := (v 14).toInt) rfl (b := x3_lp11725.toInt) rfl c11728
              refine lv_iconst (v := 0) hx hb dX12_groundedBy_48 (by decide) ?_
              refine lv_istore (lv' := [(4, .int 0), (3, .int x3_lp11725), (0, .ref (g 0)), (1, .int p0), (2, .int p1)]) hx hb dX12_groundedBy_49 hl (by decide) rfl (fun ls hl => ?_)
              have lp11767 : ∀ (n : Nat) (x4_lp11767 : Int32) (v_lp11767 : Nat → Int32) (F_lp11767 : Nat → Nat → Int32) (H : Heap) (locs : List Loc) (ls : Array Slot), (0 ≤ x4_lp11767.toInt) → (2147483648 - x4_lp11767.toInt ≤ (n : Int)) → (∀ k, k ∉ ([] : List Nat) → v_lp11767 k = v_lp11725 k) → IM v_lp11767 F_lp11767 → (∀ k, k ∉ ([30, 31] : List Nat) → F_lp11767 k = F k) → va_P (dC, dI) classes (wM g c v_lp11767 F_lp11767 rc) H → va_S (AM g s.heap.size) s.heap H locs → lv_has ls 5 [(4, .int x4_lp11767), (3, .int x3_lp11725), (0, .ref (g 0)), (1, .int p0), (2, .int p1)] → W p l e (headSpec (Cond.code yX12_groundedBy cX12_groundedBy 5 (some .int) :: wA) ({ frames := 5, cells := 0, slots := 0, locals := 200 })).room s m ([.ref (g 0), .int p0, .int p1] : List Value).toArray below meth c0 H locs 0 0 (MQ below (va_Qi (fun (r : Int32) (u : StM) => IM u.1 u.2.1 ∧ u.2.2 = rc ∧ (∀ k, k ∉ ([] : List Nat) → u.1 k = v k) ∧ (∀ k, k ∉ ([30, 31] : List Nat) → u.2.1 k = F k) ∧ True) (BM dC dI g c) (AM g s.heap.size)) ([.ref (g 0), .int p0, .int p1] : List Value).toArray s 0 0 (AM g s.heap.size)) (F0 m 51 ls []) := by
                intro n
                induction n with
                | zero =>
                  intro x4_lp11767 v_lp11767 F_lp11767 H locs ls t11768 hm hf_lp11767 hI hF hP hS hl
                  exfalso
                  have := i32_rng x4_lp11767
                  have hI1 := hI.1
                  omega
                | succ n ih_lp11767 =>
                  intro x4_lp11767 v_lp11767 F_lp11767 H locs ls t11768 hm hf_lp11767 hI hF hP hS hl
                  have rx4_lp11767 := i32_rng x4_lp11767
                  refine lv_iload hx hb dX12_groundedBy_51 (lv_at hl 0 rfl) ?_
                  refine lv_iconst (v := 3) hx hb dX12_groundedBy_53 (by decide) ?_
                  refine lv_icmp_ge (tgt := 96) hx hb dX12_groundedBy_54 (by decide) (fun c11769 => ?_) (fun c11769 => ?_)
                  · skip
                    have t11770 := cv_le (a := 3) (by decide) (b := x4_lp11767.toInt) rfl c11769
                    obtain ⟨z11771, e11772⟩ : ∃ y : Int32, y = x3_lp11725 + 1 := ⟨_, rfl⟩
                    try (have t11773 := tadd e11772 rfl (b := 1) (by decide) (by omega))
                    refine lv_iinc (v := z11771) (lv' := [(3, .int z11771), (4, .int x4_lp11767), (0, .ref (g 0)), (1, .int p0), (2, .int p1)]) hx hb dX12_groundedBy_96 hl (k := 1) rfl (by rw [e11772]; rfl) (by decide) rfl (fun ls hl => ?_)
                    refine lv_goto (tgt := 40) hx hb dX12_groundedBy_99 (by decide) ?_
                    exact ih_lp11725 z11771 v_lp11767 F_lp11767 _ _ _ (by omega) (by omega) (frC (by decide) hf_lp11767 hf_lp11725) hI hF hP hS (lv_sub hl [0, 2, 3, 4] rfl)
                  · skip
                    have t11774 := cv_nle (a := 3) (by decide) (b := x4_lp11767.toInt) rfl c11769
                    refine lv_aload_n hx hb dX12_groundedBy_57 rfl (lv_at hl 2 rfl) ?_
                    refine va_get (D := (dC, dI)) (ci := 12) (v := .ref (g 13)) (C := RX12) (T := TX12) (N := 63) hx hb hwd inA_X12 hown hK hP 0 rfl rfl 17 (by decide) (hwd _ wk_194) (fun _ h9 => h9) rfl dX12_groundedBy_58 ?_
                    refine lv_iload_n hx hb dX12_groundedBy_61 rfl (lv_at hl 1 rfl) ?_
                    refine va_iald hx hb hK hP 13 12 rfl rfl (i := x3_lp11725) (vin (a := x3_lp11725.toInt) rfl (by omega)) dX12_groundedBy_62 ?_
                    refine lv_topi (fun z11775 e11776 => ?_)
                    have t11777 : 0 ≤ z11775.toInt ∧ z11775.toInt ≤ 12 := by rw [e11776]; exact hI.2 13 _ _ rfl _
                    have e11776 : z11775 = F 13 (x3_lp11725 : Int32).toNatClampNeg := e11776.trans (congrFun (hF 13 (by decide)) _)
                    refine lv_iload_n hx hb dX12_groundedBy_63 rfl (lv_at hl 3 rfl) ?_
                    refine lv_icmp_ne (tgt := 90) hx hb dX12_groundedBy_64 (by decide) (fun c11778 => ?_) (fun c11778 => ?_)
                    · skip
                      have t11779 := cv_ne (a := z11775.toInt) rfl (b := p0.toInt) rfl c11778
                      obtain ⟨z11780, e11781⟩ : ∃ y : Int32, y = x4_lp11767 + 1 := ⟨_, rfl⟩
                      try (have t11782 := tadd e11781 rfl (b := 1) (by decide) (by omega))
                      refine lv_iinc (v := z11780) (lv' := [(4, .int z11780), (3, .int x3_lp11725), (0, .ref (g 0)), (1, .int p0), (2, .int p1)]) hx hb dX12_groundedBy_90 hl (k := 0) rfl (by rw [e11781]; rfl) (by decide) rfl (fun ls hl => ?_)
                      refine lv_goto (tgt := 51) hx hb dX12_groundedBy_93 (by decide) ?_
                      exact ih_lp11767 z11780 v_lp11767 F_lp11767 _ _ _ (by omega) (by omega) hf_lp11767 hI hF hP hS (lv_sub hl [0, 1, 2, 3, 4] rfl)
                    · skip
                      have t11783 := cv_eq (a := z11775.toInt) rfl (b := p0.toInt) rfl c11778
                      refine lv_aload_n hx hb dX12_groundedBy_67 rfl (lv_at hl 2 rfl) ?_
                      refine lv_iload_n hx hb dX12_groundedBy_68 rfl (lv_at hl 1 rfl) ?_
                      refine lv_iload hx hb dX12_groundedBy_69 (lv_at hl 0 rfl) ?_
                      have hby1 : F_lp11767 1 = F 1 := hF 1 (by decide)
                      have hby11 : F_lp11767 11 = F 11 := hF 11 (by decide)
                      refine va_calli (va_runV (As := [.int x3_lp11725, .int x4_lp11767]) (rest := []) ⟨hx, hb, hml, hown, hwd⟩ (c_X12_limitOf l dC dI g c adK adV v_lp11767 F_lp11767 rc H.size x3_lp11725 x4_lp11767 hg hI (by omega) (by omega)) (cwV 2 hwd (gV wk_489 wk_486 wk_487 wk_488 wk_5) rfl rfl rfl (by decide +kernel) ⟨Nat.le_of_ble_eq_true rfl, Nat.le_of_ble_eq_true rfl⟩) ⟨PM.blind, va_recv hK hP (ci := 12) (q0 := 0) rfl rfl, fun U hU hW => ⟨rfl, PM.at hK hE hP hS hU hW⟩⟩ rfl rfl hl.1 rfl (lv_room (Nat.le_of_ble_eq_true rfl)) dX12_groundedBy_71 ⟨Nat.le_of_ble_eq_true rfl, Nat.le_of_ble_eq_true rfl⟩) hS (fun q _ h => (freeM hS) q h) (freeM hS) (fun r11784 u t H1 locs ht hvm hw hB hz1 hk1 hS => ?_)
                      unfold BM at hB
                      rw [ht] at hB
                      have hP : va_P (dC, dI) classes (wM g c v_lp11767 F_lp11767 rc) H1 := hB
                      replace hw : r11784.toInt = (F_lp11767 1 (limJ (F_lp11767 11) x3_lp11725 x4_lp11767)).toInt := hw
                      rw [hby1] at hw
                      rw [hby11] at hw
                      have hw_r11784 := hw
                      clear hw
                      clear hz1
                      generalize H1 = H at hP hS ⊢
                      refine lv_if_le (tgt := 90) hx hb dX12_groundedBy_74 (by decide) (fun c11785 => ?_) (fun c11785 => ?_)
                      · skip
                        have t11786 := cv_le (a := r11784.toInt) rfl (b := 0) (by decide) c11785
                        obtain ⟨z11787, e11788⟩ : ∃ y : Int32, y = x4_lp11767 + 1 := ⟨_, rfl⟩
                        try (have t11789 := tadd e11788 rfl (b := 1) (by decide) (by omega))
                        refine lv_iinc (v := z11787) (lv' := [(4, .int z11787), (3, .int x3_lp11725), (0, .ref (g 0)), (1, .int p0), (2, .int p1)]) hx hb dX12_groundedBy_90 hl (k := 0) rfl (by rw [e11788]; rfl) (by decide) rfl (fun ls hl => ?_)
                        refine lv_goto (tgt := 51) hx hb dX12_groundedBy_93 (by decide) ?_
                        exact ih_lp11767 z11787 v_lp11767 F_lp11767 _ _ _ (by omega) (by omega) hf_lp11767 hI hF hP hS (lv_sub hl [0, 1, 2, 3, 4] rfl)
                      · skip
                        have t11790 := cv_nle (a := r11784.toInt) rfl (b := 0) (by decide) c11785
                        refine lv_aload_n hx hb dX12_groundedBy_77 rfl (lv_at hl 2 rfl) ?_
                        refine lv_iload_n hx hb dX12_groundedBy_78 rfl (lv_at hl 1 rfl) ?_
                        refine lv_iload hx hb dX12_groundedBy_79 (lv_at hl 0 rfl) ?_
                        refine lv_iload_n hx hb dX12_groundedBy_81 rfl (lv_at hl 4 rfl) ?_
                        refine va_calli (va_runV (As := [.int x3_lp11725, .int x4_lp11767, .int p1]) (rest := []) ⟨hx, hb, hml, hown, hwd⟩ (c_X12_leftOf l dC dI g c adK adV v_lp11767 F_lp11767 rc H.size x3_lp11725 x4_lp11767 p1 hg hI (by omega) (by omega) (JL.to hL (show v_lp11767 31 = v 31 from (hf_lp11767 31 (by decide)).trans ((hf_lp11725 31 (by decide)).trans (hf_lp11720 31 (by decide)))) (hF 28 (by decide)) (hF 29 (by decide)) (hF 27 (by decide)))) (cwV 3 hwd (gV wk_493 wk_490 wk_491 wk_492 wk_5) rfl rfl rfl (by decide +kernel) ⟨Nat.le_of_ble_eq_true rfl, Nat.le_of_ble_eq_true rfl⟩) ⟨PM.blind, va_recv hK hP (ci := 12) (q0 := 0) rfl rfl, fun U hU hW => ⟨rfl, PM.at hK hE hP hS hU hW⟩⟩ rfl rfl hl.1 rfl (lv_room (Nat.le_of_ble_eq_true rfl)) dX12_groundedBy_82 ⟨Nat.le_of_ble_eq_true rfl, Nat.le_of_ble_eq_true rfl⟩) hS (fun q _ h => (freeM hS) q h) (freeM hS) (fun r11791 u t H1 locs ht hvm hw hB hz1 hk1 hS => ?_)
                        unfold BM at hB
                        rw [ht] at hB
                        obtain ⟨v11792, F11793, rc9⟩ := u
                        obtain ⟨hI, hrc, hf11794, hG11795, hw⟩ := hw
                        dsimp only at hI hrc hB hf11794 hG11795 hw
                        have hF := frCF (by decide) hG11795 hF
                        rw [hrc] at hB
                        have hP : va_P (dC, dI) classes (wM g c v11792 F11793 rc) H1 := hB
                        clear hz1
                        generalize H1 = H at hP hS ⊢
                        have rr_r11791 := i32_rng r11791
                        refine lv_if_ge (tgt := 90) hx hb dX12_groundedBy_85 (by decide) (fun c11796 => ?_) (fun c11796 => ?_)
                        · skip
                          have t11797 := cv_le (a := 0) (by decide) (b := r11791.toInt) rfl c11796
                          obtain ⟨z11798, e11799⟩ : ∃ y : Int32, y = x4_lp11767 + 1 := ⟨_, rfl⟩
                          try (have t11800 := tadd e11799 rfl (b := 1) (by decide) (by omega))
                          refine lv_iinc (v := z11798) (lv' := [(4, .int z11798), (3, .int x3_lp11725), (0, .ref (g 0)), (1, .int p0), (2, .int p1)]) hx hb dX12_groundedBy_90 hl (k := 0) rfl (by rw [e11799]; rfl) (by decide) rfl (fun ls hl => ?_)
                          refine lv_goto (tgt := 51) hx hb dX12_groundedBy_93 (by decide) ?_
                          exact ih_lp11767 z11798 v11792 F11793 _ _ _ (by omega) (by omega) (frC (by decide) hf11794 hf_lp11767) hI hF hP hS (lv_sub hl [0, 1, 2, 3, 4] rfl)
                        · skip
                          have t11801 := cv_nle (a := 0) (by decide) (b := r11791.toInt) rfl c11796
                          refine lv_iconst (v := 2) hx hb dX12_groundedBy_88 (by decide) ?_
                          have hP9 : va_P (dC, dI) classes (wM g c v11792 F11793 rc) H := hP
                          exact W.iret (v := 2) hx hb hr (fun t ht hW => ⟨⟨2, (v11792, F11793, rc), rfl, ⟨hI, rfl, (frC (by decide) hf11794 (frC (by decide) hf_lp11767 (frC (by decide) hf_lp11725 (frC (by decide) hf_lp11720 (fun _ _ => rfl))))), hF, trivial⟩, (by show va_P _ _ _ t.heap; rw [ht]; exact hP9)⟩, hS.F ht⟩) hS.2.2 dX12_groundedBy_89
              obtain ⟨n9, hn9⟩ : ∃ n : Nat, 2147483648 - 0 ≤ (n : Int) := ⟨((2147483648 - 0 : Int)).toNat, by omega⟩
              exact lp11767 n9 0 v_lp11725 F_lp11725 H _ ls (by have : (0 : Int32).toInt = 0 := (by decide); omega) (by have : (0 : Int32).toInt = 0 := (by decide); omega) (fun _ _ => rfl) hI hF hP hS hl
        obtain ⟨n9, hn9⟩ : ∃ n : Nat, 2147483648 - 0 ≤ (n : Int) := ⟨((2147483648 - 0 : Int)).toNat, by omega⟩
        exact lp11725 n9 0 v_lp11720 F_lp11720 H _ ls (by have : (0 : Int32).toInt = 0 := (by decide); omega) (by have : (0 : Int32).toInt = 0 := (by decide); omega) (fun _ _ => rfl) hI hF hP hS hl
      · skip
        have t11802 := cv_nle (a := (v 2).toInt) rfl (b := x3_lp11720.toInt) rfl c11723
        refine lv_aload_n hx hb dX12_groundedBy_10 rfl (lv_at hl 1 rfl) ?_
        refine lv_iload_n hx hb dX12_groundedBy_11 rfl (lv_at hl 2 rfl) ?_
        refine lv_iload_n hx hb dX12_groundedBy_12 rfl (lv_at hl 0 rfl) ?_
        refine va_calli (va_runV (As := [.int p0, .int x3_lp11720]) (rest := []) ⟨hx, hb, hml, hown, hwd⟩ (c_X12_onIt l dC dI g c adK adV v_lp11720 F_lp11720 rc H.size p0 x3_lp11720 hg hI ) (cwV 2 hwd (gV wk_317 wk_314 wk_315 wk_316 wk_5) rfl rfl rfl (by decide +kernel) ⟨Nat.le_of_ble_eq_true rfl, Nat.le_of_ble_eq_true rfl⟩) ⟨PM.blind, va_recv hK hP (ci := 12) (q0 := 0) rfl rfl, fun U hU hW => ⟨rfl, PM.at hK hE hP hS hU hW⟩⟩ rfl rfl hl.1 rfl (lv_room (Nat.le_of_ble_eq_true rfl)) dX12_groundedBy_13 ⟨Nat.le_of_ble_eq_true rfl, Nat.le_of_ble_eq_true rfl⟩) hS (fun q _ h => (freeM hS) q h) (freeM hS) (fun r11803 u t H1 locs ht hvm hw hB hz1 hk1 hS => ?_)
        unfold BM at hB
        rw [ht] at hB
        have hP : va_P (dC, dI) classes (wM g c v_lp11720 F_lp11720 rc) H1 := hB
        clear hz1
        generalize H1 = H at hP hS ⊢
        have rr_r11803 := i32_rng r11803
        refine lv_aload_n hx hb dX12_groundedBy_16 rfl (lv_at hl 1 rfl) ?_
        refine va_get (D := (dC, dI)) (ci := 12) (v := .ref (g 9)) (C := RX12) (T := TX12) (N := 63) hx hb hwd inA_X12 hown hK hP 0 rfl rfl 12 (by decide) (hwd _ wk_190) (fun _ h9 => h9) rfl dX12_groundedBy_17 ?_
        refine lv_bipush (v := 10) hx hb dX12_groundedBy_20 (by decide) ?_
        refine lv_iload_n hx hb dX12_groundedBy_22 rfl (lv_at hl 2 rfl) ?_
        refine lv_imul hx hb dX12_groundedBy_23 ?_
        refine lv_topi (fun z11804 e11805 => ?_)
        try (have t11806 := tmul e11805 (a := 10) (by decide) (b := p0.toInt) rfl (by omega))
        refine lv_iload_n hx hb dX12_groundedBy_24 rfl (lv_at hl 0 rfl) ?_
        refine lv_iadd hx hb dX12_groundedBy_25 ?_
        refine lv_topi (fun z11807 e11808 => ?_)
        try (have t11809 := tadd e11808 (a := z11804.toInt) rfl (b := x3_lp11720.toInt) rfl (by omega))
        refine va_iald hx hb hK hP 9 8 rfl rfl (i := z11807) (vin (a := z11807.toInt) rfl (by omega)) dX12_groundedBy_26 ?_
        refine lv_topi (fun z11810 e11811 => ?_)
        have e11811 : z11810 = F 9 (z11807 : Int32).toNatClampNeg := e11811.trans (congrFun (hF 9 (by decide)) _)
        refine lv_icmp_ge (tgt := 32) hx hb dX12_groundedBy_27 (by decide) (fun c11812 => ?_) (fun c11812 => ?_)
        · skip
          have t11813 := cv_le (a := z11810.toInt) rfl (b := r11803.toInt) rfl c11812
          obtain ⟨z11814, e11815⟩ : ∃ y : Int32, y = x3_lp11720 + 1 := ⟨_, rfl⟩
          try (have t11816 := tadd e11815 rfl (b := 1) (by decide) (by omega))
          refine lv_iinc (v := z11814) (lv' := [(3, .int z11814), (0, .ref (g 0)), (1, .int p0), (2, .int p1)]) hx hb dX12_groundedBy_32 hl (k := 0) rfl (by rw [e11815]; rfl) (by decide) rfl (fun ls hl => ?_)
          refine lv_goto (tgt := 2) hx hb dX12_groundedBy_35 (by decide) ?_
          exact ih_lp11720 z11814 v_lp11720 F_lp11720 _ _ _ (by omega) (by omega) hf_lp11720 hI hF hP hS (lv_sub hl [0, 1, 2, 3] rfl)
        · skip
          have t11817 := cv_nle (a := z11810.toInt) rfl (b := r11803.toInt) rfl c11812
          refine lv_iconst (v := 1) hx hb dX12_groundedBy_30 (by decide) ?_
          have hP9 : va_P (dC, dI) classes (wM g c v_lp11720 F_lp11720 rc) H := hP
          exact W.iret (v := 1) hx hb hr (fun t ht hW => ⟨⟨1, (v_lp11720, F_lp11720, rc), rfl, ⟨hI, rfl, (frC (by decide) hf_lp11720 (fun _ _ => rfl)), hF, trivial⟩, (by show va_P _ _ _ t.heap; rw [ht]; exact hP9)⟩, hS.F ht⟩) hS.2.2 dX12_groundedBy_31
  obtain ⟨n9, hn9⟩ : ∃ n : Nat, 2147483648 - 0 ≤ (n : Int) := ⟨((2147483648 - 0 : Int)).toNat, by omega⟩
  exact lp11720 n9 0 v F H _ ls (by have : (0 : Int32).toInt = 0 := (by decide); omega) (by have : (0 : Int32).toInt = 0 := (by decide); omega) (fun _ _ => rfl) hI hF hP hS hl
set_option maxHeartbeats 8000000 in
set_option maxRecDepth 100000 in
theorem c_X12_grounded (l : Launch) (dC : Nat → ClassId) (dI : Nat → Nat → Nat) (g : Nat → Nat) (c : Nat → ClassId) (adK adV : Nat → Nat) (v : Nat → Int32) (F : Nat → Nat → Int32) (rc sz : Nat) (p0 : Int32) (p1 : Int32) (hg : injM g) (hI : IM v F) (hL : JL (v 31) (F 28) (F 29) (F 27)) : Met l yX12_grounded (Cond.code yX12_grounded cX12_grounded 3 (some .int) :: wA) ({ frames := 6, cells := 0, slots := 0, locals := 240 }) (va_Pc [.ref (g 0), .int p0, .int p1] (PM dC dI g c adK adV v F rc sz)) (va_Qi (fun (r : Int32) (u : StM) => IM u.1 u.2.1 ∧ u.2.2 = rc ∧ (∀ k, k ∉ ([] : List Nat) → u.1 k = v k) ∧ (∀ k, k ∉ ([30, 31] : List Nat) → u.2.1 k = F k) ∧ True) (BM dC dI g c) (AM g sz)) 0 0 (AM g sz) := by
  refine Met.ofW (cc := cX12_grounded) (maxL := 3) (ret := (some .int)) (by decide) rfl ?_
  intro p e s m args below meth c0 s₁ B hml hv
  obtain ⟨rfl, hsz, hP, hK, hE⟩ := hv
  have hx := B.exec
  have hb := B.bytes
  have hr := B.returns
  have hts := atoms_spec (ws := Cond.code yX12_grounded cX12_grounded 3 (some .int) :: wA) B.pre
  have hwd : ∀ w ∈ wA, w.before _ s = true := fun w h => hts w (List.mem_cons_of_mem _ h)
  have hown : s.vm.findClass RX12 = some m.cls := findClass_of_methodNamed B.named
  have hlocks := B.notSynchronized
  subst hsz
  have hl := lv_entry ([.ref (g 0), .int p0, .int p1]) (n := 3) (Nat.le_of_ble_eq_true rfl)
  rw [lg_entry_eq]
  generalize (lg_sl ([.ref (g 0), .int p0, .int p1]) ++ List.replicate (3 - (lg_sl ([.ref (g 0), .int p0, .int p1])).length) Slot.unset).toArray = ls at hl ⊢
  have hl : lv_has ls 3 [(0, .ref (g 0)), (1, .int p0), (2, .int p1)] := hl
  obtain ⟨H, eH⟩ : ∃ z, z = s.heap := ⟨_, rfl⟩
  have hP : va_P (dC, dI) classes (wM g c v F rc) H := by rw [eH]; exact hP
  have hS : va_S (AM g s.heap.size) s.heap H [] := by rw [eH]; exact va_S.rf
  refine my_heap eH ?_
  have hF : ∀ k, k ∉ ([30, 31] : List Nat) → F k = F k := fun _ _ => rfl
  have rp0 := i32_rng p0
  have rp1 := i32_rng p1
  have hb31 : 0 ≤ (v 31).toInt ∧ (v 31).toInt ≤ 10 := hI.1 31 _ _ rfl
  refine lv_aload_n hx hb dX12_grounded_0 rfl (lv_at hl 0 rfl) ?_
  refine lv_iload_n hx hb dX12_grounded_1 rfl (lv_at hl 1 rfl) ?_
  have t11832 : 0 ≤ (v 6).toInt ∧ (v 6).toInt ≤ 10 := hI.1 6 _ _ rfl
  refine va_calli (va_runV (As := [.int p0]) (rest := []) ⟨hx, hb, hml, hown, hwd⟩ (c_X12_isPlane l dC dI g c adK adV v F rc H.size p0 hg hI ) (cwV 1 hwd (gV wk_305 wk_302 wk_303 wk_304 wk_5) rfl rfl rfl (by decide +kernel) ⟨Nat.le_of_ble_eq_true rfl, Nat.le_of_ble_eq_true rfl⟩) ⟨PM.blind, va_recv hK hP (ci := 12) (q0 := 0) rfl rfl, fun U hU hW => ⟨rfl, PM.at hK hE hP hS hU hW⟩⟩ rfl rfl hl.1 rfl (lv_room (Nat.le_of_ble_eq_true rfl)) dX12_grounded_2 ⟨Nat.le_of_ble_eq_true rfl, Nat.le_of_ble_eq_true rfl⟩) hS (fun q _ h => (freeM hS) q h) (freeM hS) (fun r11833 u t H1 locs ht hvm hw hB hz1 hk1 hS => ?_)
  unfold BM at hB
  rw [ht] at hB
  have hP : va_P (dC, dI) classes (wM g c v F rc) H1 := hB
  replace hw : (r11833.toInt = 1 ∧ 0 ≤ p0.toInt ∧ p0.toInt < (v 6).toInt) ∨ (r11833.toInt = 0 ∧ (p0.toInt < 0 ∨ (v 6).toInt ≤ p0.toInt)) := hw
  have hw_r11833 := hw
  clear hw
  clear hz1
  generalize H1 = H at hP hS ⊢
  refine lv_if_eq (tgt := 24) hx hb dX12_grounded_5 (by decide) (fun c11834 => ?_) (fun c11834 => ?_)
  · skip
    have t11835 := cv_eq (a := r11833.toInt) rfl (b := 0) (by decide) c11834
    refine lv_iconst (v := (-1)) hx hb dX12_grounded_24 (by decide) ?_
    have hP9 : va_P (dC, dI) classes (wM g c v F rc) H := hP
    exact W.iret (v := (-1)) hx hb hr (fun t ht hW => ⟨⟨(-1), (v, F, rc), rfl, ⟨hI, rfl, (fun _ _ => rfl), hF, trivial⟩, (by show va_P _ _ _ t.heap; rw [ht]; exact hP9)⟩, hS.F ht⟩) hS.2.2 dX12_grounded_25
  · skip
    have t11836 := cv_ne (a := r11833.toInt) rfl (b := 0) (by decide) c11834
    refine lv_iload_n hx hb dX12_grounded_8 rfl (lv_at hl 2 rfl) ?_
    refine va_calli (va_runS (As := [.int p1]) (rest := []) ⟨hx, hb, hml, hown, hwd⟩ (c_X12_isDay l dC dI g c adK adV v F rc H.size p1 hg hI ) (va_cwS 1 hwd (gT wk_556 wk_554 wk_555 wk_5) rfl rfl rfl (by decide +kernel) ⟨Nat.le_of_ble_eq_true rfl, Nat.le_of_ble_eq_true rfl⟩) ⟨PM.blind, fun U hU hW => ⟨rfl, PM.at hK hE hP hS hU hW⟩⟩ rfl rfl hl.1 rfl (lv_room (Nat.le_of_ble_eq_true rfl)) dX12_grounded_9 ⟨Nat.le_of_ble_eq_true rfl, Nat.le_of_ble_eq_true rfl⟩) hS (fun q _ h => (freeM hS) q h) (freeM hS) (fun r11837 u t H1 locs ht hvm hw hB hz1 hk1 hS => ?_)
    unfold BM at hB
    rw [ht] at hB
    have hP : va_P (dC, dI) classes (wM g c v F rc) H1 := hB
    have hw_r11837 : (r11837.toInt = 1 ∧ 0 ≤ p1.toInt ∧ p1.toInt ≤ 9999) ∨ (r11837.toInt = 0 ∧ (p1.toInt < 0 ∨ 9999 < p1.toInt)) := hw
    clear hw
    clear hz1
    generalize H1 = H at hP hS ⊢
    refine lv_if_eq (tgt := 24) hx hb dX12_grounded_12 (by decide) (fun c11838 => ?_) (fun c11838 => ?_)
    · skip
      have t11839 := cv_eq (a := r11837.toInt) rfl (b := 0) (by decide) c11838
      refine lv_iconst (v := (-1)) hx hb dX12_grounded_24 (by decide) ?_
      have hP9 : va_P (dC, dI) classes (wM g c v F rc) H := hP
      exact W.iret (v := (-1)) hx hb hr (fun t ht hW => ⟨⟨(-1), (v, F, rc), rfl, ⟨hI, rfl, (fun _ _ => rfl), hF, trivial⟩, (by show va_P _ _ _ t.heap; rw [ht]; exact hP9)⟩, hS.F ht⟩) hS.2.2 dX12_grounded_25
    · skip
      have t11840 := cv_ne (a := r11837.toInt) rfl (b := 0) (by decide) c11838
      refine lv_aload_n hx hb dX12_grounded_15 rfl (lv_at hl 0 rfl) ?_
      refine lv_iload_n hx hb dX12_grounded_16 rfl (lv_at hl 1 rfl) ?_
      refine lv_iload_n hx hb dX12_grounded_17 rfl (lv_at hl 2 rfl) ?_
      refine va_calli (va_runV (As := [.int p0, .int p1]) (rest := []) ⟨hx, hb, hml, hown, hwd⟩ (c_X12_groundedBy l dC dI g c adK adV v F rc H.size p0 p1 hg hI (by omega) (JL.to hL (show v 31 = v 31 from rfl) rfl rfl rfl)) (cwV 2 hwd (gV wk_484 wk_481 wk_482 wk_483 wk_5) rfl rfl rfl (by decide +kernel) ⟨Nat.le_of_ble_eq_true rfl, Nat.le_of_ble_eq_true rfl⟩) ⟨PM.blind, va_recv hK hP (ci := 12) (q0 := 0) rfl rfl, fun U hU hW => ⟨rfl, PM.at hK hE hP hS hU hW⟩⟩ rfl rfl hl.1 rfl (lv_room (Nat.le_of_ble_eq_true rfl)) dX12_grounded_18 ⟨Nat.le_of_ble_eq_true rfl, Nat.le_of_ble_eq_true rfl⟩) hS (fun q _ h => (freeM hS) q h) (freeM hS) (fun r11841 u t H1 locs ht hvm hw hB hz1 hk1 hS => ?_)
      unfold BM at hB
      rw [ht] at hB
      obtain ⟨v11842, F11843, rc9⟩ := u
      obtain ⟨hI, hrc, hf11844, hG11845, hw⟩ := hw
      dsimp only at hI hrc hB hf11844 hG11845 hw
      have hF := frCF (by decide) hG11845 hF
      rw [hrc] at hB
      have hP : va_P (dC, dI) classes (wM g c v11842 F11843 rc) H1 := hB
      clear hz1
      generalize H1 = H at hP hS ⊢
      have rr_r11841 := i32_rng r11841
      refine lv_goto (tgt := 25) hx hb dX12_grounded_21 (by decide) ?_
      have hP9 : va_P (dC, dI) classes (wM g c v11842 F11843 rc) H := hP
      exact W.iret (v := r11841) hx hb hr (fun t ht hW => ⟨⟨r11841, (v11842, F11843, rc), rfl, ⟨hI, rfl, (frC (by decide) hf11844 (fun _ _ => rfl)), hF, trivial⟩, (by show va_P _ _ _ t.heap; rw [ht]; exact hP9)⟩, hS.F ht⟩) hS.2.2 dX12_grounded_25
set_option maxHeartbeats 8000000 in
set_option maxRecDepth 100000 in
theorem c_X12_insure (l : Launch) (dC : Nat → ClassId) (dI : Nat → Nat → Nat) (g : Nat → Nat) (c : Nat → ClassId) (adK adV : Nat → Nat) (v : Nat → Int32) (F : Nat → Nat → Int32) (rc sz : Nat) (p0 : Int32) (hg : injM g) (hI : IM v F) (hL : JL (v 31) (F 28) (F 29) (F 27)) : Met l yX12_insure (Cond.code yX12_insure cX12_insure 3 (some .int) :: wA) ({ frames := 6, cells := 0, slots := 0, locals := 240 }) (va_Pc [.ref (g 0), .int p0] (PM dC dI g c adK adV v F rc sz)) (va_Qi (fun (r : Int32) (u : StM) => IM u.1 u.2.1 ∧ u.2.2 = rc ∧ (∀ k, k ∉ ([] : List Nat) → u.1 k = v k) ∧ (∀ k, k ∉ ([30, 31] : List Nat) → u.2.1 k = F k) ∧ True) (BM dC dI g c) (AM g sz)) 0 0 (AM g sz) := by
  refine Met.ofW (cc := cX12_insure) (maxL := 3) (ret := (some .int)) (by decide) rfl ?_
  intro p e s m args below meth c0 s₁ B hml hv
  obtain ⟨rfl, hsz, hP, hK, hE⟩ := hv
  have hx := B.exec
  have hb := B.bytes
  have hr := B.returns
  have hts := atoms_spec (ws := Cond.code yX12_insure cX12_insure 3 (some .int) :: wA) B.pre
  have hwd : ∀ w ∈ wA, w.before _ s = true := fun w h => hts w (List.mem_cons_of_mem _ h)
  have hown : s.vm.findClass RX12 = some m.cls := findClass_of_methodNamed B.named
  have hlocks := B.notSynchronized
  subst hsz
  have hl := lv_entry ([.ref (g 0), .int p0]) (n := 3) (Nat.le_of_ble_eq_true rfl)
  rw [lg_entry_eq]
  generalize (lg_sl ([.ref (g 0), .int p0]) ++ List.replicate (3 - (lg_sl ([.ref (g 0), .int p0])).length) Slot.unset).toArray = ls at hl ⊢
  have hl : lv_has ls 3 [(0, .ref (g 0)), (1, .int p0)] := hl
  obtain ⟨H, eH⟩ : ∃ z, z = s.heap := ⟨_, rfl⟩
  have hP : va_P (dC, dI) classes (wM g c v F rc) H := by rw [eH]; exact hP
  have hS : va_S (AM g s.heap.size) s.heap H [] := by rw [eH]; exact va_S.rf
  refine my_heap eH ?_
  have hF : ∀ k, k ∉ ([30, 31] : List Nat) → F k = F k := fun _ _ => rfl
  have rp0 := i32_rng p0
  have hb31 : 0 ≤ (v 31).toInt ∧ (v 31).toInt ≤ 10 := hI.1 31 _ _ rfl
  refine lv_aload_n hx hb dX12_insure_0 rfl (lv_at hl 0 rfl) ?_
  refine lv_iload_n hx hb dX12_insure_1 rfl (lv_at hl 1 rfl) ?_
  have t11889 : 0 ≤ (v 6).toInt ∧ (v 6).toInt ≤ 10 := hI.1 6 _ _ rfl
  refine va_calli (va_runV (As := [.int p0]) (rest := []) ⟨hx, hb, hml, hown, hwd⟩ (c_X12_isPlane l dC dI g c adK adV v F rc H.size p0 hg hI ) (cwV 1 hwd (gV wk_305 wk_302 wk_303 wk_304 wk_5) rfl rfl rfl (by decide +kernel) ⟨Nat.le_of_ble_eq_true rfl, Nat.le_of_ble_eq_true rfl⟩) ⟨PM.blind, va_recv hK hP (ci := 12) (q0 := 0) rfl rfl, fun U hU hW => ⟨rfl, PM.at hK hE hP hS hU hW⟩⟩ rfl rfl hl.1 rfl (lv_room (Nat.le_of_ble_eq_true rfl)) dX12_insure_2 ⟨Nat.le_of_ble_eq_true rfl, Nat.le_of_ble_eq_true rfl⟩) hS (fun q _ h => (freeM hS) q h) (freeM hS) (fun r11890 u t H1 locs ht hvm hw hB hz1 hk1 hS => ?_)
  unfold BM at hB
  rw [ht] at hB
  have hP : va_P (dC, dI) classes (wM g c v F rc) H1 := hB
  replace hw : (r11890.toInt = 1 ∧ 0 ≤ p0.toInt ∧ p0.toInt < (v 6).toInt) ∨ (r11890.toInt = 0 ∧ (p0.toInt < 0 ∨ (v 6).toInt ≤ p0.toInt)) := hw
  have hw_r11890 := hw
  clear hw
  clear hz1
  generalize H1 = H at hP hS ⊢
  refine lv_if_ne (tgt := 10) hx hb dX12_insure_5 (by decide) (fun c11891 => ?_) (fun c11891 => ?_)
  · skip
    have t11892 := cv_ne (a := r11890.toInt) rfl (b := 0) (by decide) c11891
    refine lv_aload_n hx hb dX12_insure_10 rfl (lv_at hl 0 rfl) ?_
    refine lv_iload_n hx hb dX12_insure_11 rfl (lv_at hl 1 rfl) ?_
    refine lv_aload_n hx hb dX12_insure_12 rfl (lv_at hl 0 rfl) ?_
    refine va_get (D := (dC, dI)) (ci := 12) (v := .int (v 1)) (C := RX12) (T := TX12) (N := 63) hx hb hwd inA_X12 hown hK hP 0 rfl rfl 1 (by decide) (hwd _ wk_332) (fun _ h9 => h9) rfl dX12_insure_13 ?_
    have t11893 : 0 ≤ (v 1).toInt ∧ (v 1).toInt ≤ 9999 := hI.1 1 _ _ rfl
    refine va_calli (va_runV (As := [.int p0, .int (v 1)]) (rest := []) ⟨hx, hb, hml, hown, hwd⟩ (c_X12_groundedBy l dC dI g c adK adV v F rc H.size p0 (v 1) hg hI (by omega) (JL.to hL (show v 31 = v 31 from rfl) rfl rfl rfl)) (cwV 2 hwd (gV wk_484 wk_481 wk_482 wk_483 wk_5) rfl rfl rfl (by decide +kernel) ⟨Nat.le_of_ble_eq_true rfl, Nat.le_of_ble_eq_true rfl⟩) ⟨PM.blind, va_recv hK hP (ci := 12) (q0 := 0) rfl rfl, fun U hU hW => ⟨rfl, PM.at hK hE hP hS hU hW⟩⟩ rfl rfl hl.1 rfl (lv_room (Nat.le_of_ble_eq_true rfl)) dX12_insure_16 ⟨Nat.le_of_ble_eq_true rfl, Nat.le_of_ble_eq_true rfl⟩) hS (fun q _ h => (freeM hS) q h) (freeM hS) (fun r11894 u t H1 locs ht hvm hw hB hz1 hk1 hS => ?_)
    unfold BM at hB
    rw [ht] at hB
    obtain ⟨v11895, F11896, rc9⟩ := u
    obtain ⟨hI, hrc, hf11897, hG11898, hw⟩ := hw
    dsimp only at hI hrc hB hf11897 hG11898 hw
    have hF := frCF (by decide) hG11898 hF
    rw [hrc] at hB
    have hP : va_P (dC, dI) classes (wM g c v11895 F11896 rc) H1 := hB
    clear hz1
    generalize H1 = H at hP hS ⊢
    have rr_r11894 := i32_rng r11894
    refine lv_if_eq (tgt := 24) hx hb dX12_insure_19 (by decide) (fun c11899 => ?_) (fun c11899 => ?_)
    · skip
      have t11900 := cv_eq (a := r11894.toInt) rfl (b := 0) (by decide) c11899
      refine lv_aload_n hx hb dX12_insure_24 rfl (lv_at hl 0 rfl) ?_
      refine lv_iload_n hx hb dX12_insure_25 rfl (lv_at hl 1 rfl) ?_
      refine lv_aload_n hx hb dX12_insure_26 rfl (lv_at hl 0 rfl) ?_
      refine va_get (D := (dC, dI)) (ci := 12) (v := .int (v11895 1)) (C := RX12) (T := TX12) (N := 63) hx hb hwd inA_X12 hown hK hP 0 rfl rfl 1 (by decide) (hwd _ wk_332) (fun _ h9 => h9) rfl dX12_insure_27 ?_
      refine my_top (v := v 1) (hf11897 1 (by decide)) ?_
      have t11901 : 0 ≤ (v 1).toInt ∧ (v 1).toInt ≤ 9999 := by have h9 := hI.1 1 _ _ rfl; rw [show v11895 1 = v 1 from hf11897 1 (by decide)] at h9; exact h9
      refine va_calli (va_runV (As := [.int p0, .int (v 1)]) (rest := []) ⟨hx, hb, hml, hown, hwd⟩ (c_X12_halfOf l dC dI g c adK adV v11895 F11896 rc H.size p0 (v 1) hg hI (JL.to hL (show v11895 31 = v 31 from hf11897 31 (by decide)) (hF 28 (by decide)) (hF 29 (by decide)) (hF 27 (by decide)))) (cwV 2 hwd (gV wk_1378 wk_1375 wk_1376 wk_1377 wk_5) rfl rfl rfl (by decide +kernel) ⟨Nat.le_of_ble_eq_true rfl, Nat.le_of_ble_eq_true rfl⟩) ⟨PM.blind, va_recv hK hP (ci := 12) (q0 := 0) rfl rfl, fun U hU hW => ⟨rfl, PM.at hK hE hP hS hU hW⟩⟩ rfl rfl hl.1 rfl (lv_room (Nat.le_of_ble_eq_true rfl)) dX12_insure_30 ⟨Nat.le_of_ble_eq_true rfl, Nat.le_of_ble_eq_true rfl⟩) hS (fun q _ h => (freeM hS) q h) (freeM hS) (fun r11902 u t H1 locs ht hvm hw hB hz1 hk1 hS => ?_)
      unfold BM at hB
      rw [ht] at hB
      obtain ⟨v11903, F11904, rc9⟩ := u
      obtain ⟨hI, hrc, hf11905, hG11906, hw⟩ := hw
      dsimp only at hI hrc hB hf11905 hG11906 hw
      have hF := frCF (by decide) hG11906 hF
      rw [hrc] at hB
      have hP : va_P (dC, dI) classes (wM g c v11903 F11904 rc) H1 := hB
      clear hz1
      generalize H1 = H at hP hS ⊢
      have rr_r11902 := i32_rng r11902
      refine lv_istore_n (lv' := [(2, .int r11902), (0, .ref (g 0)), (1, .int p0)]) hx hb dX12_insure_33 rfl hl (by decide) rfl (fun ls hl => ?_)
      refine lv_aload_n hx hb dX12_insure_34 rfl (lv_at hl 1 rfl) ?_
      refine va_get (D := (dC, dI)) (ci := 12) (v := .ref (g 4)) (C := RX12) (T := TX12) (N := 63) hx hb hwd inA_X12 hown hK hP 0 rfl rfl 7 (by decide) (hwd _ wk_185) (fun _ h9 => h9) rfl dX12_insure_35 ?_
      refine lv_iload_n hx hb dX12_insure_38 rfl (lv_at hl 2 rfl) ?_
      refine va_iald hx hb hK hP 4 3 rfl rfl (i := p0) (vin (a := p0.toInt) rfl (by omega)) dX12_insure_39 ?_
      refine lv_topi (fun z11907 e11908 => ?_)
      have e11908 : z11907 = F 4 (p0 : Int32).toNatClampNeg := e11908.trans (congrFun (hF 4 (by decide)) _)
      refine lv_iload_n hx hb dX12_insure_40 rfl (lv_at hl 0 rfl) ?_
      refine lv_if_ge (tgt := 48) hx hb dX12_insure_41 (by decide) (fun c11909 => ?_) (fun c11909 => ?_)
      · skip
        have t11910 := cv_le (a := 0) (by decide) (b := r11902.toInt) rfl c11909
        refine lv_iload_n hx hb dX12_insure_48 rfl (lv_at hl 0 rfl) ?_
        refine lv_iadd hx hb dX12_insure_49 ?_
        refine lv_topi (fun z11911 e11912 => ?_)
        try (have t11913 := tadd e11912 (a := z11907.toInt) rfl (b := r11902.toInt) rfl (by omega))
        refine lv_sipush (v := 999) hx hb dX12_insure_50 (by decide) ?_
        refine lv_iadd hx hb dX12_insure_53 ?_
        refine lv_topi (fun z11914 e11915 => ?_)
        try (have t11916 := tadd e11915 (a := z11911.toInt) rfl (b := 999) (by decide) (by omega))
        refine lv_sipush (v := 1000) hx hb dX12_insure_54 (by decide) ?_
        refine lv_idiv hx hb dX12_insure_57 (by decide) ?_
        refine lv_topi (fun z11917 e11918 => ?_)
        have hP9 : va_P (dC, dI) classes (wM g c v11903 F11904 rc) H := hP
        exact W.iret (v := z11917) hx hb hr (fun t ht hW => ⟨⟨z11917, (v11903, F11904, rc), rfl, ⟨hI, rfl, (frC (by decide) hf11905 (frC (by decide) hf11897 (fun _ _ => rfl))), hF, trivial⟩, (by show va_P _ _ _ t.heap; rw [ht]; exact hP9)⟩, hS.F ht⟩) hS.2.2 dX12_insure_58
      · skip
        have t11920 := cv_nle (a := 0) (by decide) (b := r11902.toInt) rfl c11909
        refine lv_iconst (v := 0) hx hb dX12_insure_44 (by decide) ?_
        refine lv_goto (tgt := 49) hx hb dX12_insure_45 (by decide) ?_
        refine lv_iadd hx hb dX12_insure_49 ?_
        refine lv_topi (fun z11921 e11922 => ?_)
        try (have t11923 := tadd e11922 (a := z11907.toInt) rfl (b := 0) (by decide) (by omega))
        refine lv_sipush (v := 999) hx hb dX12_insure_50 (by decide) ?_
        refine lv_iadd hx hb dX12_insure_53 ?_
        refine lv_topi (fun z11924 e11925 => ?_)
        try (have t11926 := tadd e11925 (a := z11921.toInt) rfl (b := 999) (by decide) (by omega))
        refine lv_sipush (v := 1000) hx hb dX12_insure_54 (by decide) ?_
        refine lv_idiv hx hb dX12_insure_57 (by decide) ?_
        refine lv_topi (fun z11927 e11928 => ?_)
        have hP9 : va_P (dC, dI) classes (wM g c v11903 F11904 rc) H := hP
        exact W.iret (v := z11927) hx hb hr (fun t ht hW => ⟨⟨z11927, (v11903, F11904, rc), rfl, ⟨hI, rfl, (frC (by decide) hf11905 (frC (by decide) hf11897 (fun _ _ => rfl))), hF, trivial⟩, (by show va_P _ _ _ t.heap; rw [ht]; exact hP9)⟩, hS.F ht⟩) hS.2.2 dX12_insure_58
    · skip
      have t11930 := cv_ne (a := r11894.toInt) rfl (b := 0) (by decide) c11899
      refine lv_iconst (v := 0) hx hb dX12_insure_22 (by decide) ?_
      have hP9 : va_P (dC, dI) classes (wM g c v11895 F11896 rc) H := hP
      exact W.iret (v := 0) hx hb hr (fun t ht hW => ⟨⟨0, (v11895, F11896, rc), rfl, ⟨hI, rfl, (frC (by decide) hf11897 (fun _ _ => rfl)), hF, trivial⟩, (by show va_P _ _ _ t.heap; rw [ht]; exact hP9)⟩, hS.F ht⟩) hS.2.2 dX12_insure_23
  · skip
    have t11931 := cv_eq (a := r11890.toInt) rfl (b := 0) (by decide) c11891
    refine lv_iconst (v := (-1)) hx hb dX12_insure_8 (by decide) ?_
    have hP9 : va_P (dC, dI) classes (wM g c v F rc) H := hP
    exact W.iret (v := (-1)) hx hb hr (fun t ht hW => ⟨⟨(-1), (v, F, rc), rfl, ⟨hI, rfl, (fun _ _ => rfl), hF, trivial⟩, (by show va_P _ _ _ t.heap; rw [ht]; exact hP9)⟩, hS.F ht⟩) hS.2.2 dX12_insure_9
set_option maxHeartbeats 8000000 in
set_option maxRecDepth 100000 in
theorem c_X12_fly (l : Launch) (dC : Nat → ClassId) (dI : Nat → Nat → Nat) (g : Nat → Nat) (c : Nat → ClassId) (adK adV : Nat → Nat) (v : Nat → Int32) (F : Nat → Nat → Int32) (rc sz : Nat) (p0 : Int32) (p1 : Int32) (p2 : Int32) (hg : injM g) (hI : IM v F) (hL : JL (v 31) (F 28) (F 29) (F 27)) : Met l yX12_fly (Cond.code yX12_fly cX12_fly 6 (some .int) :: wA) ({ frames := 6, cells := 0, slots := 0, locals := 240 }) (va_Pc [.ref (g 0), .int p0, .int p1, .int p2] (PM dC dI g c adK adV v F rc sz)) (va_Qi (fun (r : Int32) (u : StM) => IM u.1 u.2.1 ∧ u.2.2 = rc ∧ (∀ k, k ∉ ([] : List Nat) → u.1 k = v k) ∧ (∀ k, k ∉ ([5, 6, 10, 14, 30, 31] : List Nat) → u.2.1 k = F k) ∧ True) (BM dC dI g c) (AM g sz)) 0 0 (AM g sz) := by
  refine Met.ofW (cc := cX12_fly) (maxL := 6) (ret := (some .int)) (by decide) rfl ?_
  intro p e s m args below meth c0 s₁ B hml hv
  obtain ⟨rfl, hsz, hP, hK, hE⟩ := hv
  have hx := B.exec
  have hb := B.bytes
  have hr := B.returns
  have hts := atoms_spec (ws := Cond.code yX12_fly cX12_fly 6 (some .int) :: wA) B.pre
  have hwd : ∀ w ∈ wA, w.before _ s = true := fun w h => hts w (List.mem_cons_of_mem _ h)
  have hown : s.vm.findClass RX12 = some m.cls := findClass_of_methodNamed B.named
  have hlocks := B.notSynchronized
  subst hsz
  have hl := lv_entry ([.ref (g 0), .int p0, .int p1, .int p2]) (n := 6) (Nat.le_of_ble_eq_true rfl)
  rw [lg_entry_eq]
  generalize (lg_sl ([.ref (g 0), .int p0, .int p1, .int p2]) ++ List.replicate (6 - (lg_sl ([.ref (g 0), .int p0, .int p1, .int p2])).length) Slot.unset).toArray = ls at hl ⊢
  have hl : lv_has ls 6 [(0, .ref (g 0)), (1, .int p0), (2, .int p1), (3, .int p2)] := hl
  obtain ⟨H, eH⟩ : ∃ z, z = s.heap := ⟨_, rfl⟩
  have hP : va_P (dC, dI) classes (wM g c v F rc) H := by rw [eH]; exact hP
  have hS : va_S (AM g s.heap.size) s.heap H [] := by rw [eH]; exact va_S.rf
  refine my_heap eH ?_
  have hF : ∀ k, k ∉ ([5, 6, 10, 14, 30, 31] : List Nat) → F k = F k := fun _ _ => rfl
  have rp0 := i32_rng p0
  have rp1 := i32_rng p1
  have rp2 := i32_rng p2
  have hb31 : 0 ≤ (v 31).toInt ∧ (v 31).toInt ≤ 10 := hI.1 31 _ _ rfl
  refine lv_aload_n hx hb dX12_fly_0 rfl (lv_at hl 0 rfl) ?_
  refine lv_iload_n hx hb dX12_fly_1 rfl (lv_at hl 1 rfl) ?_
  have t12101 : 0 ≤ (v 6).toInt ∧ (v 6).toInt ≤ 10 := hI.1 6 _ _ rfl
  refine va_calli (va_runV (As := [.int p0]) (rest := []) ⟨hx, hb, hml, hown, hwd⟩ (c_X12_isPlane l dC dI g c adK adV v F rc H.size p0 hg hI ) (cwV 1 hwd (gV wk_305 wk_302 wk_303 wk_304 wk_5) rfl rfl rfl (by decide +kernel) ⟨Nat.le_of_ble_eq_true rfl, Nat.le_of_ble_eq_true rfl⟩) ⟨PM.blind, va_recv hK hP (ci := 12) (q0 := 0) rfl rfl, fun U hU hW => ⟨rfl, PM.at hK hE hP hS hU hW⟩⟩ rfl rfl hl.1 rfl (lv_room (Nat.le_of_ble_eq_true rfl)) dX12_fly_2 ⟨Nat.le_of_ble_eq_true rfl, Nat.le_of_ble_eq_true rfl⟩) hS (fun q _ h => (freeM hS) q h) (freeM hS) (fun r12102 u t H1 locs ht hvm hw hB hz1 hk1 hS => ?_)
  unfold BM at hB
  rw [ht] at hB
  have hP : va_P (dC, dI) classes (wM g c v F rc) H1 := hB
  replace hw : (r12102.toInt = 1 ∧ 0 ≤ p0.toInt ∧ p0.toInt < (v 6).toInt) ∨ (r12102.toInt = 0 ∧ (p0.toInt < 0 ∨ (v 6).toInt ≤ p0.toInt)) := hw
  have hw_r12102 := hw
  clear hw
  clear hz1
  generalize H1 = H at hP hS ⊢
  refine lv_if_eq (tgt := 30) hx hb dX12_fly_5 (by decide) (fun c12103 => ?_) (fun c12103 => ?_)
  · skip
    have t12104 := cv_eq (a := r12102.toInt) rfl (b := 0) (by decide) c12103
    refine lv_iconst (v := (-1)) hx hb dX12_fly_30 (by decide) ?_
    have hP9 : va_P (dC, dI) classes (wM g c v F rc) H := hP
    exact W.iret (v := (-1)) hx hb hr (fun t ht hW => ⟨⟨(-1), (v, F, rc), rfl, ⟨hI, rfl, (fun _ _ => rfl), hF, trivial⟩, (by show va_P _ _ _ t.heap; rw [ht]; exact hP9)⟩, hS.F ht⟩) hS.2.2 dX12_fly_31
  · skip
    have t12105 := cv_ne (a := r12102.toInt) rfl (b := 0) (by decide) c12103
    refine lv_iload_n hx hb dX12_fly_8 rfl (lv_at hl 2 rfl) ?_
    refine lv_iconst (v := 1) hx hb dX12_fly_9 (by decide) ?_
    refine lv_sipush (v := 999) hx hb dX12_fly_10 (by decide) ?_
    refine va_calli (va_runS (As := [.int p1, .int 1, .int 999]) (rest := []) ⟨hx, hb, hml, hown, hwd⟩ (c_X12_in l dC dI g c adK adV v F rc H.size p1 1 999 hg hI ) (va_cwS 3 hwd (gT wk_254 wk_252 wk_253 wk_5) rfl rfl rfl (by decide +kernel) ⟨Nat.le_of_ble_eq_true rfl, Nat.le_of_ble_eq_true rfl⟩) ⟨PM.blind, fun U hU hW => ⟨rfl, PM.at hK hE hP hS hU hW⟩⟩ rfl rfl hl.1 rfl (lv_room (Nat.le_of_ble_eq_true rfl)) dX12_fly_13 ⟨Nat.le_of_ble_eq_true rfl, Nat.le_of_ble_eq_true rfl⟩) hS (fun q _ h => (freeM hS) q h) (freeM hS) (fun r12106 u t H1 locs ht hvm hw hB hz1 hk1 hS => ?_)
    unfold BM at hB
    rw [ht] at hB
    have hP : va_P (dC, dI) classes (wM g c v F rc) H1 := hB
    have hw_r12106 : (r12106.toInt = 1 ∧ (1 : Int32).toInt ≤ p1.toInt ∧ p1.toInt ≤ (999 : Int32).toInt) ∨ (r12106.toInt = 0 ∧ (p1.toInt < (1 : Int32).toInt ∨ (999 : Int32).toInt < p1.toInt)) := hw
    clear hw
    have k12107 : (1 : Int32).toInt = 1 := by decide
    have k12108 : (999 : Int32).toInt = 999 := by decide
    clear hz1
    generalize H1 = H at hP hS ⊢
    refine lv_if_eq (tgt := 30) hx hb dX12_fly_16 (by decide) (fun c12109 => ?_) (fun c12109 => ?_)
    · skip
      have t12110 := cv_eq (a := r12106.toInt) rfl (b := 0) (by decide) c12109
      refine lv_iconst (v := (-1)) hx hb dX12_fly_30 (by decide) ?_
      have hP9 : va_P (dC, dI) classes (wM g c v F rc) H := hP
      exact W.iret (v := (-1)) hx hb hr (fun t ht hW => ⟨⟨(-1), (v, F, rc), rfl, ⟨hI, rfl, (fun _ _ => rfl), hF, trivial⟩, (by show va_P _ _ _ t.heap; rw [ht]; exact hP9)⟩, hS.F ht⟩) hS.2.2 dX12_fly_31
    · skip
      have t12111 := cv_ne (a := r12106.toInt) rfl (b := 0) (by decide) c12109
      refine lv_iload_n hx hb dX12_fly_19 rfl (lv_at hl 3 rfl) ?_
      refine lv_iconst (v := 0) hx hb dX12_fly_20 (by decide) ?_
      refine lv_sipush (v := 999) hx hb dX12_fly_21 (by decide) ?_
      refine va_calli (va_runS (As := [.int p2, .int 0, .int 999]) (rest := []) ⟨hx, hb, hml, hown, hwd⟩ (c_X12_in l dC dI g c adK adV v F rc H.size p2 0 999 hg hI ) (va_cwS 3 hwd (gT wk_254 wk_252 wk_253 wk_5) rfl rfl rfl (by decide +kernel) ⟨Nat.le_of_ble_eq_true rfl, Nat.le_of_ble_eq_true rfl⟩) ⟨PM.blind, fun U hU hW => ⟨rfl, PM.at hK hE hP hS hU hW⟩⟩ rfl rfl hl.1 rfl (lv_room (Nat.le_of_ble_eq_true rfl)) dX12_fly_24 ⟨Nat.le_of_ble_eq_true rfl, Nat.le_of_ble_eq_true rfl⟩) hS (fun q _ h => (freeM hS) q h) (freeM hS) (fun r12112 u t H1 locs ht hvm hw hB hz1 hk1 hS => ?_)
      unfold BM at hB
      rw [ht] at hB
      have hP : va_P (dC, dI) classes (wM g c v F rc) H1 := hB
      have hw_r12112 : (r12112.toInt = 1 ∧ (0 : Int32).toInt ≤ p2.toInt ∧ p2.toInt ≤ (999 : Int32).toInt) ∨ (r12112.toInt = 0 ∧ (p2.toInt < (0 : Int32).toInt ∨ (999 : Int32).toInt < p2.toInt)) := hw
      clear hw
      have k12113 : (0 : Int32).toInt = 0 := by decide
      have k12114 : (999 : Int32).toInt = 999 := by decide
      clear hz1
      generalize H1 = H at hP hS ⊢
      refine lv_if_ne (tgt := 32) hx hb dX12_fly_27 (by decide) (fun c12115 => ?_) (fun c12115 => ?_)
      · skip
        have t12116 := cv_ne (a := r12112.toInt) rfl (b := 0) (by decide) c12115
        refine lv_aload_n hx hb dX12_fly_32 rfl (lv_at hl 0 rfl) ?_
        refine lv_iload_n hx hb dX12_fly_33 rfl (lv_at hl 1 rfl) ?_
        refine va_calli (va_runV (As := [.int p0]) (rest := []) ⟨hx, hb, hml, hown, hwd⟩ (c_X12_isReturned l dC dI g c adK adV v F rc H.size p0 hg hI (by omega)) (cwV 1 hwd (gV wk_313 wk_310 wk_311 wk_312 wk_5) rfl rfl rfl (by decide +kernel) ⟨Nat.le_of_ble_eq_true rfl, Nat.le_of_ble_eq_true rfl⟩) ⟨PM.blind, va_recv hK hP (ci := 12) (q0 := 0) rfl rfl, fun U hU hW => ⟨rfl, PM.at hK hE hP hS hU hW⟩⟩ rfl rfl hl.1 rfl (lv_room (Nat.le_of_ble_eq_true rfl)) dX12_fly_34 ⟨Nat.le_of_ble_eq_true rfl, Nat.le_of_ble_eq_true rfl⟩) hS (fun q _ h => (freeM hS) q h) (freeM hS) (fun r12117 u t H1 locs ht hvm hw hB hz1 hk1 hS => ?_)
        unfold BM at hB
        rw [ht] at hB
        have hP : va_P (dC, dI) classes (wM g c v F rc) H1 := hB
        replace hw : (r12117.toInt = 1 ∧ 0 ≤ (F 8 p0.toNatClampNeg).toInt) ∨ (r12117.toInt = 0 ∧ (F 8 p0.toNatClampNeg).toInt < 0) := hw
        have hw_r12117 := hw
        clear hw
        clear hz1
        generalize H1 = H at hP hS ⊢
        refine lv_if_ne (tgt := 78) hx hb dX12_fly_37 (by decide) (fun c12118 => ?_) (fun c12118 => ?_)
        · skip
          have t12119 := cv_ne (a := r12117.toInt) rfl (b := 0) (by decide) c12118
          refine lv_bipush (v := (-2)) hx hb dX12_fly_78 (by decide) ?_
          have hP9 : va_P (dC, dI) classes (wM g c v F rc) H := hP
          exact W.iret (v := (-2)) hx hb hr (fun t ht hW => ⟨⟨(-2), (v, F, rc), rfl, ⟨hI, rfl, (fun _ _ => rfl), hF, trivial⟩, (by show va_P _ _ _ t.heap; rw [ht]; exact hP9)⟩, hS.F ht⟩) hS.2.2 dX12_fly_80
        · skip
          have t12120 := cv_eq (a := r12117.toInt) rfl (b := 0) (by decide) c12118
          refine lv_aload_n hx hb dX12_fly_40 rfl (lv_at hl 0 rfl) ?_
          refine lv_iload_n hx hb dX12_fly_41 rfl (lv_at hl 1 rfl) ?_
          refine lv_aload_n hx hb dX12_fly_42 rfl (lv_at hl 0 rfl) ?_
          refine va_get (D := (dC, dI)) (ci := 12) (v := .int (v 1)) (C := RX12) (T := TX12) (N := 63) hx hb hwd inA_X12 hown hK hP 0 rfl rfl 1 (by decide) (hwd _ wk_332) (fun _ h9 => h9) rfl dX12_fly_43 ?_
          have t12121 : 0 ≤ (v 1).toInt ∧ (v 1).toInt ≤ 9999 := hI.1 1 _ _ rfl
          refine va_calli (va_runV (As := [.int p0, .int (v 1)]) (rest := []) ⟨hx, hb, hml, hown, hwd⟩ (c_X12_groundedBy l dC dI g c adK adV v F rc H.size p0 (v 1) hg hI (by omega) (JL.to hL (show v 31 = v 31 from rfl) rfl rfl rfl)) (cwV 2 hwd (gV wk_484 wk_481 wk_482 wk_483 wk_5) rfl rfl rfl (by decide +kernel) ⟨Nat.le_of_ble_eq_true rfl, Nat.le_of_ble_eq_true rfl⟩) ⟨PM.blind, va_recv hK hP (ci := 12) (q0 := 0) rfl rfl, fun U hU hW => ⟨rfl, PM.at hK hE hP hS hU hW⟩⟩ rfl rfl hl.1 rfl (lv_room (Nat.le_of_ble_eq_true rfl)) dX12_fly_46 ⟨Nat.le_of_ble_eq_true rfl, Nat.le_of_ble_eq_true rfl⟩) hS (fun q _ h => (freeM hS) q h) (freeM hS) (fun r12122 u t H1 locs ht hvm hw hB hz1 hk1 hS => ?_)
          unfold BM at hB
          rw [ht] at hB
          obtain ⟨v12123, F12124, rc9⟩ := u
          obtain ⟨hI, hrc, hf12125, hG12126, hw⟩ := hw
          dsimp only at hI hrc hB hf12125 hG12126 hw
          have hF := frCF (by decide) hG12126 hF
          rw [hrc] at hB
          have hP : va_P (dC, dI) classes (wM g c v12123 F12124 rc) H1 := hB
          clear hz1
          generalize H1 = H at hP hS ⊢
          have rr_r12122 := i32_rng r12122
          refine lv_if_ne (tgt := 78) hx hb dX12_fly_49 (by decide) (fun c12127 => ?_) (fun c12127 => ?_)
          · skip
            have t12128 := cv_ne (a := r12122.toInt) rfl (b := 0) (by decide) c12127
            refine lv_bipush (v := (-2)) hx hb dX12_fly_78 (by decide) ?_
            have hP9 : va_P (dC, dI) classes (wM g c v12123 F12124 rc) H := hP
            exact W.iret (v := (-2)) hx hb hr (fun t ht hW => ⟨⟨(-2), (v12123, F12124, rc), rfl, ⟨hI, rfl, (frC (by decide) hf12125 (fun _ _ => rfl)), hF, trivial⟩, (by show va_P _ _ _ t.heap; rw [ht]; exact hP9)⟩, hS.F ht⟩) hS.2.2 dX12_fly_80
          · skip
            have t12129 := cv_eq (a := r12122.toInt) rfl (b := 0) (by decide) c12127
            refine lv_aload_n hx hb dX12_fly_52 rfl (lv_at hl 0 rfl) ?_
            refine va_get (D := (dC, dI)) (ci := 12) (v := .ref (g 5)) (C := RX12) (T := TX12) (N := 63) hx hb hwd inA_X12 hown hK hP 0 rfl rfl 8 (by decide) (hwd _ wk_186) (fun _ h9 => h9) rfl dX12_fly_53 ?_
            refine lv_iload_n hx hb dX12_fly_56 rfl (lv_at hl 1 rfl) ?_
            refine va_iald hx hb hK hP 5 4 rfl rfl (i := p0) (vin (a := p0.toInt) rfl (by omega)) dX12_fly_57 ?_
            refine lv_topi (fun z12130 e12131 => ?_)
            refine lv_iload_n hx hb dX12_fly_58 rfl (lv_at hl 2 rfl) ?_
            refine lv_iadd hx hb dX12_fly_59 ?_
            refine lv_topi (fun z12132 e12133 => ?_)
            try (have t12134 := tadd e12133 (a := z12130.toInt) rfl (b := p1.toInt) rfl (by omega))
            refine lv_ldc (v := 999999) hx hb hown (hwd _ wk_250) dX12_fly_60 ?_
            refine lv_icmp_gt (tgt := 78) hx hb dX12_fly_62 (by decide) (fun c12135 => ?_) (fun c12135 => ?_)
            · skip
              have t12136 := cv_lt (a := 999999) (by decide) (b := z12132.toInt) rfl c12135
              refine lv_bipush (v := (-2)) hx hb dX12_fly_78 (by decide) ?_
              have hP9 : va_P (dC, dI) classes (wM g c v12123 F12124 rc) H := hP
              exact W.iret (v := (-2)) hx hb hr (fun t ht hW => ⟨⟨(-2), (v12123, F12124, rc), rfl, ⟨hI, rfl, (frC (by decide) hf12125 (fun _ _ => rfl)), hF, trivial⟩, (by show va_P _ _ _ t.heap; rw [ht]; exact hP9)⟩, hS.F ht⟩) hS.2.2 dX12_fly_80
            · skip
              have t12137 := cv_nlt (a := 999999) (by decide) (b := z12132.toInt) rfl c12135
              refine lv_aload_n hx hb dX12_fly_65 rfl (lv_at hl 0 rfl) ?_
              refine va_get (D := (dC, dI)) (ci := 12) (v := .ref (g 6)) (C := RX12) (T := TX12) (N := 63) hx hb hwd inA_X12 hown hK hP 0 rfl rfl 9 (by decide) (hwd _ wk_187) (fun _ h9 => h9) rfl dX12_fly_66 ?_
              refine lv_iload_n hx hb dX12_fly_69 rfl (lv_at hl 1 rfl) ?_
              refine va_iald hx hb hK hP 6 5 rfl rfl (i := p0) (vin (a := p0.toInt) rfl (by omega)) dX12_fly_70 ?_
              refine lv_topi (fun z12138 e12139 => ?_)
              refine lv_iload_n hx hb dX12_fly_71 rfl (lv_at hl 3 rfl) ?_
              refine lv_iadd hx hb dX12_fly_72 ?_
              refine lv_topi (fun z12140 e12141 => ?_)
              try (have t12142 := tadd e12141 (a := z12138.toInt) rfl (b := p2.toInt) rfl (by omega))
              refine lv_ldc (v := 999999) hx hb hown (hwd _ wk_250) dX12_fly_73 ?_
              refine lv_icmp_le (tgt := 81) hx hb dX12_fly_75 (by decide) (fun c12143 => ?_) (fun c12143 => ?_)
              · skip
                have t12144 := cv_le (a := z12140.toInt) rfl (b := 999999) (by decide) c12143
                refine lv_iconst (v := 0) hx hb dX12_fly_81 (by decide) ?_
                refine lv_istore (lv' := [(4, .int 0), (0, .ref (g 0)), (1, .int p0), (2, .int p1), (3, .int p2)]) hx hb dX12_fly_82 hl (by decide) rfl (fun ls hl => ?_)
                have lp12145 : ∀ (n : Nat) (x4_lp12145 : Int32) (v_lp12145 : Nat → Int32) (F_lp12145 : Nat → Nat → Int32) (H : Heap) (locs : List Loc) (ls : Array Slot), (0 ≤ x4_lp12145.toInt) → (2147483648 - x4_lp12145.toInt ≤ (n : Int)) → (∀ k, k ∉ ([] : List Nat) → v_lp12145 k = v12123 k) → IM v_lp12145 F_lp12145 → (∀ k, k ∉ ([5, 6, 10, 14, 30, 31] : List Nat) → F_lp12145 k = F k) → va_P (dC, dI) classes (wM g c v_lp12145 F_lp12145 rc) H → va_S (AM g s.heap.size) s.heap H locs → lv_has ls 6 [(4, .int x4_lp12145), (0, .ref (g 0)), (1, .int p0), (2, .int p1), (3, .int p2)] → W p l e (headSpec (Cond.code yX12_fly cX12_fly 6 (some .int) :: wA) ({ frames := 6, cells := 0, slots := 0, locals := 240 })).room s m ([.ref (g 0), .int p0, .int p1, .int p2] : List Value).toArray below meth c0 H locs 0 0 (MQ below (va_Qi (fun (r : Int32) (u : StM) => IM u.1 u.2.1 ∧ u.2.2 = rc ∧ (∀ k, k ∉ ([] : List Nat) → u.1 k = v k) ∧ (∀ k, k ∉ ([5, 6, 10, 14, 30, 31] : List Nat) → u.2.1 k = F k) ∧ True) (BM dC dI g c) (AM g s.heap.size)) ([.ref (g 0), .int p0, .int p1, .int p2] : List Value).toArray s 0 0 (AM g s.heap.size)) (F0 m 84 ls []) := by
                  intro n
                  induction n with
                  | zero =>
                    intro x4_lp12145 v_lp12145 F_lp12145 H locs ls t12146 hm hf_lp12145 hI hF hP hS hl
                    exfalso
                    have := i32_rng x4_lp12145
                    have hI1 := hI.1
                    omega
                  | succ n ih_lp12145 =>
                    intro x4_lp12145 v_lp12145 F_lp12145 H locs ls t12146 hm hf_lp12145 hI hF hP hS hl
                    have rx4_lp12145 := i32_rng x4_lp12145
                    refine lv_iload hx hb dX12_fly_84 (lv_at hl 0 rfl) ?_
                    refine lv_aload_n hx hb dX12_fly_86 rfl (lv_at hl 1 rfl) ?_
                    refine va_get (D := (dC, dI)) (ci := 12) (v := .int (v_lp12145 14)) (C := RX12) (T := TX12) (N := 63) hx hb hwd inA_X12 hown hK hP 0 rfl rfl 14 (by decide) (hwd _ wk_318) (fun _ h9 => h9) rfl dX12_fly_87 ?_
                    refine my_top (v := v 14) ((hf_lp12145 14 (by decide)).trans (hf12125 14 (by decide))) ?_
                    have t12147 : 0 ≤ (v 14).toInt ∧ (v 14).toInt ≤ 100 := by have h9 := hI.1 14 _ _ rfl; rw [show v_lp12145 14 = v 14 from (hf_lp12145 14 (by decide)).trans (hf12125 14 (by decide))] at h9; exact h9
                    refine lv_icmp_ge (tgt := 147) hx hb dX12_fly_90 (by decide) (fun c12148 => ?_) (fun c12148 => ?_)
                    · skip
                      have t12149 := cv_le (a := (v 14).toInt) rfl (b := x4_lp12145.toInt) rfl c12148
                      refine lv_aload_n hx hb dX12_fly_147 rfl (lv_at hl 1 rfl) ?_
                      refine va_get (D := (dC, dI)) (ci := 12) (v := .ref (g 5)) (C := RX12) (T := TX12) (N := 63) hx hb hwd inA_X12 hown hK hP 0 rfl rfl 8 (by decide) (hwd _ wk_186) (fun _ h9 => h9) rfl dX12_fly_148 ?_
                      refine lv_iload_n hx hb dX12_fly_151 rfl (lv_at hl 2 rfl) ?_
                      refine lv_dup2_11 hx hb dX12_fly_152 rfl rfl ?_
                      refine va_iald hx hb hK hP 5 4 rfl rfl (i := p0) (vin (a := p0.toInt) rfl (by omega)) dX12_fly_153 ?_
                      refine lv_topi (fun z12150 e12151 => ?_)
                      refine lv_iload_n hx hb dX12_fly_154 rfl (lv_at hl 3 rfl) ?_
                      refine lv_iadd hx hb dX12_fly_155 ?_
                      refine lv_topi (fun z12152 e12153 => ?_)
                      try (have t12154 := tadd e12153 (a := z12150.toInt) rfl (b := p1.toInt) rfl (by omega))
                      refine va_iast hx hb hK hP (DM hg) hS 5 4 rfl rfl (i := p0) (x := z12152) (vin (a := p0.toInt) rfl (by omega)) dX12_fly_156 (fun H locs hP _ hS => ?_)
                      have hP := va_P_eq (sM_5 g c _ _ _ _) hP
                      have hI := IM.store0 hI 5 (p0 : Int32).toNatClampNeg z12152 rfl
                      have hF := frUF (k := 5) (f := upd (F_lp12145 5) (p0 : Int32).toNatClampNeg z12152) (by decide) hF
                      have hP : va_P (dC, dI) classes (wM g c v_lp12145 (va_up F_lp12145 5 (upd (F_lp12145 5) (p0 : Int32).toNatClampNeg z12152)) rc) H := hP
                      generalize (va_up F_lp12145 5 (upd (F_lp12145 5) (p0 : Int32).toNatClampNeg z12152)) = F12155 at hP hI hF
                      refine lv_aload_n hx hb dX12_fly_157 rfl (lv_at hl 1 rfl) ?_
                      refine va_get (D := (dC, dI)) (ci := 12) (v := .ref (g 6)) (C := RX12) (T := TX12) (N := 63) hx hb hwd inA_X12 hown hK hP 0 rfl rfl 9 (by decide) (hwd _ wk_187) (fun _ h9 => h9) rfl dX12_fly_158 ?_
                      refine lv_iload_n hx hb dX12_fly_161 rfl (lv_at hl 2 rfl) ?_
                      refine lv_dup2_11 hx hb dX12_fly_162 rfl rfl ?_
                      refine va_iald hx hb hK hP 6 5 rfl rfl (i := p0) (vin (a := p0.toInt) rfl (by omega)) dX12_fly_163 ?_
                      refine lv_topi (fun z12156 e12157 => ?_)
                      refine lv_iload_n hx hb dX12_fly_164 rfl (lv_at hl 4 rfl) ?_
                      refine lv_iadd hx hb dX12_fly_165 ?_
                      refine lv_topi (fun z12158 e12159 => ?_)
                      try (have t12160 := tadd e12159 (a := z12156.toInt) rfl (b := p2.toInt) rfl (by omega))
                      refine va_iast hx hb hK hP (DM hg) hS 6 5 rfl rfl (i := p0) (x := z12158) (vin (a := p0.toInt) rfl (by omega)) dX12_fly_166 (fun H locs hP _ hS => ?_)
                      have hP := va_P_eq (sM_6 g c _ _ _ _) hP
                      have hI := IM.store0 hI 6 (p0 : Int32).toNatClampNeg z12158 rfl
                      have hF := frUF (k := 6) (f := upd (F12155 6) (p0 : Int32).toNatClampNeg z12158) (by decide) hF
                      have hP : va_P (dC, dI) classes (wM g c v_lp12145 (va_up F12155 6 (upd (F12155 6) (p0 : Int32).toNatClampNeg z12158)) rc) H := hP
                      generalize (va_up F12155 6 (upd (F12155 6) (p0 : Int32).toNatClampNeg z12158)) = F12161 at hP hI hF
                      refine lv_iconst (v := 0) hx hb dX12_fly_167 (by decide) ?_
                      refine lv_istore (lv' := [(4, .int 0), (0, .ref (g 0)), (1, .int p0), (2, .int p1), (3, .int p2)]) hx hb dX12_fly_168 hl (by decide) rfl (fun ls hl => ?_)
                      have lp12162 : ∀ (n : Nat) (x4_lp12162 : Int32) (v_lp12162 : Nat → Int32) (F_lp12162 : Nat → Nat → Int32) (H : Heap) (locs : List Loc) (ls : Array Slot), (0 ≤ x4_lp12162.toInt) → (2147483648 - x4_lp12162.toInt ≤ (n : Int)) → (∀ k, k ∉ ([] : List Nat) → v_lp12162 k = v_lp12145 k) → IM v_lp12162 F_lp12162 → (∀ k, k ∉ ([5, 6, 10, 14, 30, 31] : List Nat) → F_lp12162 k = F k) → va_P (dC, dI) classes (wM g c v_lp12162 F_lp12162 rc) H → va_S (AM g s.heap.size) s.heap H locs → lv_has ls 6 [(4, .int x4_lp12162), (0, .ref (g 0)), (1, .int p0), (2, .int p1), (3, .int p2)] → W p l e (headSpec (Cond.code yX12_fly cX12_fly 6 (some .int) :: wA) ({ frames := 6, cells := 0, slots := 0, locals := 240 })).room s m ([.ref (g 0), .int p0, .int p1, .int p2] : List Value).toArray below meth c0 H locs 0 0 (MQ below (va_Qi (fun (r : Int32) (u : StM) => IM u.1 u.2.1 ∧ u.2.2 = rc ∧ (∀ k, k ∉ ([] : List Nat) → u.1 k = v k) ∧ (∀ k, k ∉ ([5, 6, 10, 14, 30, 31] : List Nat) → u.2.1 k = F k) ∧ True) (BM dC dI g c) (AM g s.heap.size)) ([.ref (g 0), .int p0, .int p1, .int p2] : List Value).toArray s 0 0 (AM g s.heap.size)) (F0 m 170 ls []) := by
                        intro n
                        induction n with
                        | zero =>
                          intro x4_lp12162 v_lp12162 F_lp12162 H locs ls t12163 hm hf_lp12162 hI hF hP hS hl
                          exfalso
                          have := i32_rng x4_lp12162
                          have hI1 := hI.1
                          omega
                        | succ n ih_lp12162 =>
                          intro x4_lp12162 v_lp12162 F_lp12162 H locs ls t12163 hm hf_lp12162 hI hF hP hS hl
                          have rx4_lp12162 := i32_rng x4_lp12162
                          refine lv_iload hx hb dX12_fly_170 (lv_at hl 0 rfl) ?_
                          refine lv_aload_n hx hb dX12_fly_172 rfl (lv_at hl 1 rfl) ?_
                          refine va_get (D := (dC, dI)) (ci := 12) (v := .int (v_lp12162 14)) (C := RX12) (T := TX12) (N := 63) hx hb hwd inA_X12 hown hK hP 0 rfl rfl 14 (by decide) (hwd _ wk_318) (fun _ h9 => h9) rfl dX12_fly_173 ?_
                          refine my_top (v := v 14) ((hf_lp12162 14 (by decide)).trans ((hf_lp12145 14 (by decide)).trans (hf12125 14 (by decide)))) ?_
                          have t12164 : 0 ≤ (v 14).toInt ∧ (v 14).toInt ≤ 100 := by have h9 := hI.1 14 _ _ rfl; rw [show v_lp12162 14 = v 14 from (hf_lp12162 14 (by decide)).trans ((hf_lp12145 14 (by decide)).trans (hf12125 14 (by decide)))] at h9; exact h9
                          refine lv_icmp_ge (tgt := 275) hx hb dX12_fly_176 (by decide) (fun c12165 => ?_) (fun c12165 => ?_)
                          · skip
                            have t12166 := cv_le (a := (v 14).toInt) rfl (b := x4_lp12162.toInt) rfl c12165
                            refine lv_aload_n hx hb dX12_fly_275 rfl (lv_at hl 1 rfl) ?_
                            refine va_get (D := (dC, dI)) (ci := 12) (v := .ref (g 5)) (C := RX12) (T := TX12) (N := 63) hx hb hwd inA_X12 hown hK hP 0 rfl rfl 8 (by decide) (hwd _ wk_186) (fun _ h9 => h9) rfl dX12_fly_276 ?_
                            refine lv_iload_n hx hb dX12_fly_279 rfl (lv_at hl 2 rfl) ?_
                            refine va_iald hx hb hK hP 5 4 rfl rfl (i := p0) (vin (a := p0.toInt) rfl (by omega)) dX12_fly_280 ?_
                            refine lv_topi (fun z12167 e12168 => ?_)
                            have hP9 : va_P (dC, dI) classes (wM g c v_lp12162 F_lp12162 rc) H := hP
                            exact W.iret (v := z12167) hx hb hr (fun t ht hW => ⟨⟨z12167, (v_lp12162, F_lp12162, rc), rfl, ⟨hI, rfl, (frC (by decide) hf_lp12162 (frC (by decide) hf_lp12145 (frC (by decide) hf12125 (fun _ _ => rfl)))), hF, trivial⟩, (by show va_P _ _ _ t.heap; rw [ht]; exact hP9)⟩, hS.F ht⟩) hS.2.2 dX12_fly_281
                          · skip
                            have t12169 := cv_nle (a := (v 14).toInt) rfl (b := x4_lp12162.toInt) rfl c12165
                            refine lv_aload_n hx hb dX12_fly_179 rfl (lv_at hl 1 rfl) ?_
                            refine va_get (D := (dC, dI)) (ci := 12) (v := .ref (g 13)) (C := RX12) (T := TX12) (N := 63) hx hb hwd inA_X12 hown hK hP 0 rfl rfl 17 (by decide) (hwd _ wk_194) (fun _ h9 => h9) rfl dX12_fly_180 ?_
                            refine lv_iload hx hb dX12_fly_183 (lv_at hl 0 rfl) ?_
                            refine va_iald hx hb hK hP 13 12 rfl rfl (i := x4_lp12162) (vin (a := x4_lp12162.toInt) rfl (by omega)) dX12_fly_185 ?_
                            refine lv_topi (fun z12170 e12171 => ?_)
                            have t12172 : 0 ≤ z12170.toInt ∧ z12170.toInt ≤ 12 := by rw [e12171]; exact hI.2 13 _ _ rfl _
                            have e12171 : z12170 = F 13 (x4_lp12162 : Int32).toNatClampNeg := e12171.trans (congrFun (hF 13 (by decide)) _)
                            refine lv_iload_n hx hb dX12_fly_186 rfl (lv_at hl 2 rfl) ?_
                            refine lv_icmp_eq (tgt := 193) hx hb dX12_fly_187 (by decide) (fun c12173 => ?_) (fun c12173 => ?_)
                            · skip
                              have t12174 := cv_eq (a := z12170.toInt) rfl (b := p0.toInt) rfl c12173
                              refine lv_aload_n hx hb dX12_fly_193 rfl (lv_at hl 1 rfl) ?_
                              refine va_get (D := (dC, dI)) (ci := 12) (v := .ref (g 14)) (C := RX12) (T := TX12) (N := 63) hx hb hwd inA_X12 hown hK hP 0 rfl rfl 18 (by decide) (hwd _ wk_195) (fun _ h9 => h9) rfl dX12_fly_194 ?_
                              refine lv_iconst (v := 3) hx hb dX12_fly_197 (by decide) ?_
                              refine lv_iload hx hb dX12_fly_198 (lv_at hl 0 rfl) ?_
                              refine lv_imul hx hb dX12_fly_200 ?_
                              refine lv_topi (fun z12175 e12176 => ?_)
                              try (have t12177 := tmul e12176 (a := 3) (by decide) (b := x4_lp12162.toInt) rfl (by omega))
                              refine lv_dup2_11 hx hb dX12_fly_201 rfl rfl ?_
                              refine va_iald hx hb hK hP 14 13 rfl rfl (i := z12175) (vin (a := z12175.toInt) rfl (by omega)) dX12_fly_202 ?_
                              refine lv_topi (fun z12178 e12179 => ?_)
                              refine lv_iload_n hx hb dX12_fly_203 rfl (lv_at hl 3 rfl) ?_
                              refine lv_iadd hx hb dX12_fly_204 ?_
                              refine lv_topi (fun z12180 e12181 => ?_)
                              try (have t12182 := tadd e12181 (a := z12178.toInt) rfl (b := p1.toInt) rfl (by omega))
                              refine va_iast hx hb hK hP (DM hg) hS 14 13 rfl rfl (i := z12175) (x := z12180) (vin (a := z12175.toInt) rfl (by omega)) dX12_fly_205 (fun H locs hP _ hS => ?_)
                              have hP := va_P_eq (sM_14 g c _ _ _ _) hP
                              have hI := IM.store0 hI 14 (z12175 : Int32).toNatClampNeg z12180 rfl
                              have hF := frUF (k := 14) (f := upd (F_lp12162 14) (z12175 : Int32).toNatClampNeg z12180) (by decide) hF
                              have hP : va_P (dC, dI) classes (wM g c v_lp12162 (va_up F_lp12162 14 (upd (F_lp12162 14) (z12175 : Int32).toNatClampNeg z12180)) rc) H := hP
                              generalize (va_up F_lp12162 14 (upd (F_lp12162 14) (z12175 : Int32).toNatClampNeg z12180)) = F12183 at hP hI hF
                              refine lv_aload_n hx hb dX12_fly_206 rfl (lv_at hl 1 rfl) ?_
                              refine va_get (D := (dC, dI)) (ci := 12) (v := .ref (g 14)) (C := RX12) (T := TX12) (N := 63) hx hb hwd inA_X12 hown hK hP 0 rfl rfl 18 (by decide) (hwd _ wk_195) (fun _ h9 => h9) rfl dX12_fly_207 ?_
                              refine lv_iconst (v := 3) hx hb dX12_fly_210 (by decide) ?_
                              refine lv_iload hx hb dX12_fly_211 (lv_at hl 0 rfl) ?_
                              refine lv_imul hx hb dX12_fly_213 ?_
                              refine lv_topi (fun z12184 e12185 => ?_)
                              try (have t12186 := tmul e12185 (a := 3) (by decide) (b := x4_lp12162.toInt) rfl (by omega))
                              refine lv_iconst (v := 1) hx hb dX12_fly_214 (by decide) ?_
                              refine lv_iadd hx hb dX12_fly_215 ?_
                              refine lv_topi (fun z12187 e12188 => ?_)
                              try (have t12189 := tadd e12188 (a := z12184.toInt) rfl (b := 1) (by decide) (by omega))
                              refine lv_dup2_11 hx hb dX12_fly_216 rfl rfl ?_
                              refine va_iald hx hb hK hP 14 13 rfl rfl (i := z12187) (vin (a := z12187.toInt) rfl (by omega)) dX12_fly_217 ?_
                              refine lv_topi (fun z12190 e12191 => ?_)
                              refine lv_iload_n hx hb dX12_fly_218 rfl (lv_at hl 4 rfl) ?_
                              refine lv_iadd hx hb dX12_fly_219 ?_
                              refine lv_topi (fun z12192 e12193 => ?_)
                              try (have t12194 := tadd e12193 (a := z12190.toInt) rfl (b := p2.toInt) rfl (by omega))
                              refine va_iast hx hb hK hP (DM hg) hS 14 13 rfl rfl (i := z12187) (x := z12192) (vin (a := z12187.toInt) rfl (by omega)) dX12_fly_220 (fun H locs hP _ hS => ?_)
                              have hP := va_P_eq (sM_14 g c _ _ _ _) hP
                              have hI := IM.store0 hI 14 (z12187 : Int32).toNatClampNeg z12192 rfl
                              have hF := frUF (k := 14) (f := upd (F12183 14) (z12187 : Int32).toNatClampNeg z12192) (by decide) hF
                              have hP : va_P (dC, dI) classes (wM g c v_lp12162 (va_up F12183 14 (upd (F12183 14) (z12187 : Int32).toNatClampNeg z12192)) rc) H := hP
                              generalize (va_up F12183 14 (upd (F12183 14) (z12187 : Int32).toNatClampNeg z12192)) = F12195 at hP hI hF
                              refine lv_bipush (v := 10) hx hb dX12_fly_221 (by decide) ?_
                              refine lv_iload_n hx hb dX12_fly_223 rfl (lv_at hl 2 rfl) ?_
                              refine lv_imul hx hb dX12_fly_224 ?_
                              refine lv_topi (fun z12196 e12197 => ?_)
                              try (have t12198 := tmul e12197 (a := 10) (by decide) (b := p0.toInt) rfl (by omega))
                              refine lv_aload_n hx hb dX12_fly_225 rfl (lv_at hl 1 rfl) ?_
                              refine va_get (D := (dC, dI)) (ci := 12) (v := .ref (g 11)) (C := RX12) (T := TX12) (N := 63) hx hb hwd inA_X12 hown hK hP 0 rfl rfl 15 (by decide) (hwd _ wk_192) (fun _ h9 => h9) rfl dX12_fly_226 ?_
                              refine lv_iload hx hb dX12_fly_229 (lv_at hl 0 rfl) ?_
                              refine va_iald hx hb hK hP 11 10 rfl rfl (i := x4_lp12162) (vin (a := x4_lp12162.toInt) rfl (by omega)) dX12_fly_231 ?_
                              refine lv_topi (fun z12199 e12200 => ?_)
                              have t12201 : 0 ≤ z12199.toInt ∧ z12199.toInt ≤ 9 := by rw [e12200]; exact hI.2 11 _ _ rfl _
                              have e12200 : z12199 = F 11 (x4_lp12162 : Int32).toNatClampNeg := e12200.trans (congrFun (hF 11 (by decide)) _)
                              refine lv_iadd hx hb dX12_fly_232 ?_
                              refine lv_topi (fun z12202 e12203 => ?_)
                              try (have t12204 := tadd e12203 (a := z12196.toInt) rfl (b := z12199.toInt) rfl (by omega))
                              refine lv_istore (lv' := [(5, .int z12202), (4, .int x4_lp12162), (0, .ref (g 0)), (1, .int p0), (2, .int p1), (3, .int p2)]) hx hb dX12_fly_233 hl (by decide) rfl (fun ls hl => ?_)
                              refine lv_aload_n hx hb dX12_fly_235 rfl (lv_at hl 2 rfl) ?_
                              refine va_get (D := (dC, dI)) (ci := 12) (v := .ref (g 10)) (C := RX12) (T := TX12) (N := 63) hx hb hwd inA_X12 hown hK hP 0 rfl rfl 13 (by decide) (hwd _ wk_191) (fun _ h9 => h9) rfl dX12_fly_236 ?_
                              refine lv_iload hx hb dX12_fly_239 (lv_at hl 0 rfl) ?_
                              refine lv_aload_n hx hb dX12_fly_241 rfl (lv_at hl 2 rfl) ?_
                              refine va_get (D := (dC, dI)) (ci := 12) (v := .ref (g 10)) (C := RX12) (T := TX12) (N := 63) hx hb hwd inA_X12 hown hK hP 0 rfl rfl 13 (by decide) (hwd _ wk_191) (fun _ h9 => h9) rfl dX12_fly_242 ?_
                              refine lv_iload hx hb dX12_fly_245 (lv_at hl 0 rfl) ?_
                              refine va_iald hx hb hK hP 10 9 rfl rfl (i := z12202) (vin (a := z12202.toInt) rfl (by omega)) dX12_fly_247 ?_
                              refine lv_topi (fun z12205 e12206 => ?_)
                              refine lv_i2l hx hb dX12_fly_248 rfl ?_
                              refine lv_topl (fun z12207 e12208 => ?_)
                              refine lv_iload_n hx hb dX12_fly_249 rfl (lv_at hl 4 rfl) ?_
                              refine lv_aload_n hx hb dX12_fly_250 rfl (lv_at hl 2 rfl) ?_
                              refine va_get (D := (dC, dI)) (ci := 12) (v := .ref (g 3)) (C := RX12) (T := TX12) (N := 63) hx hb hwd inA_X12 hown hK hP 0 rfl rfl 5 (by decide) (hwd _ wk_184) (fun _ h9 => h9) rfl dX12_fly_251 ?_
                              refine lv_aload_n hx hb dX12_fly_254 rfl (lv_at hl 2 rfl) ?_
                              refine va_get (D := (dC, dI)) (ci := 12) (v := .ref (g 11)) (C := RX12) (T := TX12) (N := 63) hx hb hwd inA_X12 hown hK hP 0 rfl rfl 15 (by decide) (hwd _ wk_192) (fun _ h9 => h9) rfl dX12_fly_255 ?_
                              refine lv_iload hx hb dX12_fly_258 (lv_at hl 1 rfl) ?_
                              refine va_iald hx hb hK hP 11 10 rfl rfl (i := x4_lp12162) (vin (a := x4_lp12162.toInt) rfl (by omega)) dX12_fly_260 ?_
                              refine lv_topi (fun z12209 e12210 => ?_)
                              have t12211 : 0 ≤ z12209.toInt ∧ z12209.toInt ≤ 9 := by rw [e12210]; exact hI.2 11 _ _ rfl _
                              have e12210 : z12209 = F 11 (x4_lp12162 : Int32).toNatClampNeg := e12210.trans (congrFun (hF 11 (by decide)) _)
                              refine va_iald hx hb hK hP 3 2 rfl rfl (i := z12209) (vin (a := z12209.toInt) rfl (by omega)) dX12_fly_261 ?_
                              refine lv_topi (fun z12212 e12213 => ?_)
                              have e12213 : z12212 = F 3 (z12209 : Int32).toNatClampNeg := e12213.trans (congrFun (hF 3 (by decide)) _)
                              refine lv_imul hx hb dX12_fly_262 ?_
                              refine lv_topi (fun z12214 e12215 => ?_)
                              try (have t12216 := tmul e12215 (a := p1.toInt) rfl (b := z12212.toInt) rfl (by omega))
                              refine lv_i2l hx hb dX12_fly_263 rfl ?_
                              refine lv_topl (fun z12217 e12218 => ?_)
                              refine lv_ladd hx hb dX12_fly_264 ?_
                              refine lv_topl (fun z12219 e12220 => ?_)
                              refine va_calli (va_runS (As := [.long z12219]) (rest := [.int z12202, .ref (g 10)]) ⟨hx, hb, hml, hown, hwd⟩ (c_X12_held l dC dI g c adK adV v_lp12162 F12195 rc H.size z12219 hg hI ) (va_cwS 1 hwd (gT wk_523 wk_521 wk_522 wk_5) rfl rfl rfl (by decide +kernel) ⟨Nat.le_of_ble_eq_true rfl, Nat.le_of_ble_eq_true rfl⟩) ⟨PM.blind, fun U hU hW => ⟨rfl, PM.at hK hE hP hS hU hW⟩⟩ rfl rfl hl.1 rfl (lv_room (Nat.le_of_ble_eq_true rfl)) dX12_fly_265 ⟨Nat.le_of_ble_eq_true rfl, Nat.le_of_ble_eq_true rfl⟩) hS (fun q _ h => (freeM hS) q h) (freeM hS) (fun r12221 u t H1 locs ht hvm hw hB hz1 hk1 hS => ?_)
                              unfold BM at hB
                              rw [ht] at hB
                              have hP : va_P (dC, dI) classes (wM g c v_lp12162 F12195 rc) H1 := hB
                              clear hz1
                              generalize H1 = H at hP hS ⊢
                              have rr_r12221 := i32_rng r12221
                              refine va_iast hx hb hK hP (DM hg) hS 10 9 rfl rfl (i := z12202) (x := r12221) (vin (a := z12202.toInt) rfl (by omega)) dX12_fly_268 (fun H locs hP _ hS => ?_)
                              have hP := va_P_eq (sM_10 g c _ _ _ _) hP
                              have hI := IM.store0 hI 10 (z12202 : Int32).toNatClampNeg r12221 rfl
                              have hF := frUF (k := 10) (f := upd (F12195 10) (z12202 : Int32).toNatClampNeg r12221) (by decide) hF
                              have hP : va_P (dC, dI) classes (wM g c v_lp12162 (va_up F12195 10 (upd (F12195 10) (z12202 : Int32).toNatClampNeg r12221)) rc) H := hP
                              generalize (va_up F12195 10 (upd (F12195 10) (z12202 : Int32).toNatClampNeg r12221)) = F12222 at hP hI hF
                              obtain ⟨z12223, e12224⟩ : ∃ y : Int32, y = x4_lp12162 + 1 := ⟨_, rfl⟩
                              try (have t12225 := tadd e12224 rfl (b := 1) (by decide) (by omega))
                              refine lv_iinc (v := z12223) (lv' := [(4, .int z12223), (5, .int z12202), (0, .ref (g 0)), (1, .int p0), (2, .int p1), (3, .int p2)]) hx hb dX12_fly_269 hl (k := 1) rfl (by rw [e12224]; rfl) (by decide) rfl (fun ls hl => ?_)
                              refine lv_goto (tgt := 170) hx hb dX12_fly_272 (by decide) ?_
                              exact ih_lp12162 z12223 v_lp12162 F12222 _ _ _ (by omega) (by omega) hf_lp12162 hI hF hP hS (lv_sub hl [0, 2, 3, 4, 5] rfl)
                            · skip
                              have t12226 := cv_ne (a := z12170.toInt) rfl (b := p0.toInt) rfl c12173
                              refine lv_goto (tgt := 269) hx hb dX12_fly_190 (by decide) ?_
                              obtain ⟨z12227, e12228⟩ : ∃ y : Int32, y = x4_lp12162 + 1 := ⟨_, rfl⟩
                              try (have t12229 := tadd e12228 rfl (b := 1) (by decide) (by omega))
                              refine lv_iinc (v := z12227) (lv' := [(4, .int z12227), (0, .ref (g 0)), (1, .int p0), (2, .int p1), (3, .int p2)]) hx hb dX12_fly_269 hl (k := 0) rfl (by rw [e12228]; rfl) (by decide) rfl (fun ls hl => ?_)
                              refine lv_goto (tgt := 170) hx hb dX12_fly_272 (by decide) ?_
                              exact ih_lp12162 z12227 v_lp12162 F_lp12162 _ _ _ (by omega) (by omega) hf_lp12162 hI hF hP hS (lv_sub hl [0, 1, 2, 3, 4] rfl)
                      obtain ⟨n9, hn9⟩ : ∃ n : Nat, 2147483648 - 0 ≤ (n : Int) := ⟨((2147483648 - 0 : Int)).toNat, by omega⟩
                      exact lp12162 n9 0 v_lp12145 F12161 H _ ls (by have : (0 : Int32).toInt = 0 := (by decide); omega) (by have : (0 : Int32).toInt = 0 := (by decide); omega) (fun _ _ => rfl) hI hF hP hS hl
                    · skip
                      have t12230 := cv_nle (a := (v 14).toInt) rfl (b := x4_lp12145.toInt) rfl c12148
                      refine lv_aload_n hx hb dX12_fly_93 rfl (lv_at hl 1 rfl) ?_
                      refine va_get (D := (dC, dI)) (ci := 12) (v := .ref (g 13)) (C := RX12) (T := TX12) (N := 63) hx hb hwd inA_X12 hown hK hP 0 rfl rfl 17 (by decide) (hwd _ wk_194) (fun _ h9 => h9) rfl dX12_fly_94 ?_
                      refine lv_iload hx hb dX12_fly_97 (lv_at hl 0 rfl) ?_
                      refine va_iald hx hb hK hP 13 12 rfl rfl (i := x4_lp12145) (vin (a := x4_lp12145.toInt) rfl (by omega)) dX12_fly_99 ?_
                      refine lv_topi (fun z12231 e12232 => ?_)
                      have t12233 : 0 ≤ z12231.toInt ∧ z12231.toInt ≤ 12 := by rw [e12232]; exact hI.2 13 _ _ rfl _
                      have e12232 : z12231 = F 13 (x4_lp12145 : Int32).toNatClampNeg := e12232.trans (congrFun (hF 13 (by decide)) _)
                      refine lv_iload_n hx hb dX12_fly_100 rfl (lv_at hl 2 rfl) ?_
                      refine lv_icmp_ne (tgt := 141) hx hb dX12_fly_101 (by decide) (fun c12234 => ?_) (fun c12234 => ?_)
                      · skip
                        have t12235 := cv_ne (a := z12231.toInt) rfl (b := p0.toInt) rfl c12234
                        obtain ⟨z12236, e12237⟩ : ∃ y : Int32, y = x4_lp12145 + 1 := ⟨_, rfl⟩
                        try (have t12238 := tadd e12237 rfl (b := 1) (by decide) (by omega))
                        refine lv_iinc (v := z12236) (lv' := [(4, .int z12236), (0, .ref (g 0)), (1, .int p0), (2, .int p1), (3, .int p2)]) hx hb dX12_fly_141 hl (k := 0) rfl (by rw [e12237]; rfl) (by decide) rfl (fun ls hl => ?_)
                        refine lv_goto (tgt := 84) hx hb dX12_fly_144 (by decide) ?_
                        exact ih_lp12145 z12236 v_lp12145 F_lp12145 _ _ _ (by omega) (by omega) hf_lp12145 hI hF hP hS (lv_sub hl [0, 1, 2, 3, 4] rfl)
                      · skip
                        have t12239 := cv_eq (a := z12231.toInt) rfl (b := p0.toInt) rfl c12234
                        refine lv_aload_n hx hb dX12_fly_104 rfl (lv_at hl 1 rfl) ?_
                        refine va_get (D := (dC, dI)) (ci := 12) (v := .ref (g 14)) (C := RX12) (T := TX12) (N := 63) hx hb hwd inA_X12 hown hK hP 0 rfl rfl 18 (by decide) (hwd _ wk_195) (fun _ h9 => h9) rfl dX12_fly_105 ?_
                        refine lv_iconst (v := 3) hx hb dX12_fly_108 (by decide) ?_
                        refine lv_iload hx hb dX12_fly_109 (lv_at hl 0 rfl) ?_
                        refine lv_imul hx hb dX12_fly_111 ?_
                        refine lv_topi (fun z12240 e12241 => ?_)
                        try (have t12242 := tmul e12241 (a := 3) (by decide) (b := x4_lp12145.toInt) rfl (by omega))
                        refine va_iald hx hb hK hP 14 13 rfl rfl (i := z12240) (vin (a := z12240.toInt) rfl (by omega)) dX12_fly_112 ?_
                        refine lv_topi (fun z12243 e12244 => ?_)
                        refine lv_iload_n hx hb dX12_fly_113 rfl (lv_at hl 3 rfl) ?_
                        refine lv_iadd hx hb dX12_fly_114 ?_
                        refine lv_topi (fun z12245 e12246 => ?_)
                        try (have t12247 := tadd e12246 (a := z12243.toInt) rfl (b := p1.toInt) rfl (by omega))
                        refine lv_ldc (v := 999999) hx hb hown (hwd _ wk_250) dX12_fly_115 ?_
                        refine lv_icmp_gt (tgt := 138) hx hb dX12_fly_117 (by decide) (fun c12248 => ?_) (fun c12248 => ?_)
                        · skip
                          have t12249 := cv_lt (a := 999999) (by decide) (b := z12245.toInt) rfl c12248
                          refine lv_bipush (v := (-2)) hx hb dX12_fly_138 (by decide) ?_
                          have hP9 : va_P (dC, dI) classes (wM g c v_lp12145 F_lp12145 rc) H := hP
                          exact W.iret (v := (-2)) hx hb hr (fun t ht hW => ⟨⟨(-2), (v_lp12145, F_lp12145, rc), rfl, ⟨hI, rfl, (frC (by decide) hf_lp12145 (frC (by decide) hf12125 (fun _ _ => rfl))), hF, trivial⟩, (by show va_P _ _ _ t.heap; rw [ht]; exact hP9)⟩, hS.F ht⟩) hS.2.2 dX12_fly_140
                        · skip
                          have t12250 := cv_nlt (a := 999999) (by decide) (b := z12245.toInt) rfl c12248
                          refine lv_aload_n hx hb dX12_fly_120 rfl (lv_at hl 1 rfl) ?_
                          refine va_get (D := (dC, dI)) (ci := 12) (v := .ref (g 14)) (C := RX12) (T := TX12) (N := 63) hx hb hwd inA_X12 hown hK hP 0 rfl rfl 18 (by decide) (hwd _ wk_195) (fun _ h9 => h9) rfl dX12_fly_121 ?_
                          refine lv_iconst (v := 3) hx hb dX12_fly_124 (by decide) ?_
                          refine lv_iload hx hb dX12_fly_125 (lv_at hl 0 rfl) ?_
                          refine lv_imul hx hb dX12_fly_127 ?_
                          refine lv_topi (fun z12251 e12252 => ?_)
                          try (have t12253 := tmul e12252 (a := 3) (by decide) (b := x4_lp12145.toInt) rfl (by omega))
                          refine lv_iconst (v := 1) hx hb dX12_fly_128 (by decide) ?_
                          refine lv_iadd hx hb dX12_fly_129 ?_
                          refine lv_topi (fun z12254 e12255 => ?_)
                          try (have t12256 := tadd e12255 (a := z12251.toInt) rfl (b := 1) (by decide) (by omega))
                          refine va_iald hx hb hK hP 14 13 rfl rfl (i := z12254) (vin (a := z12254.toInt) rfl (by omega)) dX12_fly_130 ?_
                          refine lv_topi (fun z12257 e12258 => ?_)
                          refine lv_iload_n hx hb dX12_fly_131 rfl (lv_at hl 4 rfl) ?_
                          refine lv_iadd hx hb dX12_fly_132 ?_
                          refine lv_topi (fun z12259 e12260 => ?_)
                          try (have t12261 := tadd e12260 (a := z12257.toInt) rfl (b := p2.toInt) rfl (by omega))
                          refine lv_ldc (v := 999999) hx hb hown (hwd _ wk_250) dX12_fly_133 ?_
                          refine lv_icmp_le (tgt := 141) hx hb dX12_fly_135 (by decide) (fun c12262 => ?_) (fun c12262 => ?_)
                          · skip
                            have t12263 := cv_le (a := z12259.toInt) rfl (b := 999999) (by decide) c12262
                            obtain ⟨z12264, e12265⟩ : ∃ y : Int32, y = x4_lp12145 + 1 := ⟨_, rfl⟩
                            try (have t12266 := tadd e12265 rfl (b := 1) (by decide) (by omega))
                            refine lv_iinc (v := z12264) (lv' := [(4, .int z12264), (0, .ref (g 0)), (1, .int p0), (2, .int p1), (3, .int p2)]) hx hb dX12_fly_141 hl (k := 0) rfl (by rw [e12265]; rfl) (by decide) rfl (fun ls hl => ?_)
                            refine lv_goto (tgt := 84) hx hb dX12_fly_144 (by decide) ?_
                            exact ih_lp12145 z12264 v_lp12145 F_lp12145 _ _ _ (by omega) (by omega) hf_lp12145 hI hF hP hS (lv_sub hl [0, 1, 2, 3, 4] rfl)
                          · skip
                            have t12267 := cv_nle (a := z12259.toInt) rfl (b := 999999) (by decide) c12262
                            refine lv_bipush (v := (-2)) hx hb dX12_fly_138 (by decide) ?_
                            have hP9 : va_P (dC, dI) classes (wM g c v_lp12145 F_lp12145 rc) H := hP
                            exact W.iret (v := (-2)) hx hb hr (fun t ht hW => ⟨⟨(-2), (v_lp12145, F_lp12145, rc), rfl, ⟨hI, rfl, (frC (by decide) hf_lp12145 (frC (by decide) hf12125 (fun _ _ => rfl))), hF, trivial⟩, (by show va_P _ _ _ t.heap; rw [ht]; exact hP9)⟩, hS.F ht⟩) hS.2.2 dX12_fly_140
                obtain ⟨n9, hn9⟩ : ∃ n : Nat, 2147483648 - 0 ≤ (n : Int) := ⟨((2147483648 - 0 : Int)).toNat, by omega⟩
                exact lp12145 n9 0 v12123 F12124 H _ ls (by have : (0 : Int32).toInt = 0 := (by decide); omega) (by have : (0 : Int32).toInt = 0 := (by decide); omega) (fun _ _ => rfl) hI hF hP hS hl
              · skip
                have t12268 := cv_nle (a := z12140.toInt) rfl (b := 999999) (by decide) c12143
                refine lv_bipush (v := (-2)) hx hb dX12_fly_78 (by decide) ?_
                have hP9 : va_P (dC, dI) classes (wM g c v12123 F12124 rc) H := hP
                exact W.iret (v := (-2)) hx hb hr (fun t ht hW => ⟨⟨(-2), (v12123, F12124, rc), rfl, ⟨hI, rfl, (frC (by decide) hf12125 (fun _ _ => rfl)), hF, trivial⟩, (by show va_P _ _ _ t.heap; rw [ht]; exact hP9)⟩, hS.F ht⟩) hS.2.2 dX12_fly_80
      · skip
        have t12269 := cv_eq (a := r12112.toInt) rfl (b := 0) (by decide) c12115
        refine lv_iconst (v := (-1)) hx hb dX12_fly_30 (by decide) ?_
        have hP9 : va_P (dC, dI) classes (wM g c v F rc) H := hP
        exact W.iret (v := (-1)) hx hb hr (fun t ht hW => ⟨⟨(-1), (v, F, rc), rfl, ⟨hI, rfl, (fun _ _ => rfl), hF, trivial⟩, (by show va_P _ _ _ t.heap; rw [ht]; exact hP9)⟩, hS.F ht⟩) hS.2.2 dX12_fly_31
set_option maxHeartbeats 8000000 in
set_option maxRecDepth 100000 in
theorem c_X12_ofPlane (l : Launch) (dC : Nat → ClassId) (dI : Nat → Nat → Nat) (g : Nat → Nat) (c : Nat → ClassId) (adK adV : Nat → Nat) (v : Nat → Int32) (F : Nat → Nat → Int32) (rc sz : Nat) (p0 : Int32) (p1 : Int32) (hg : injM g) (hI : IM v F) : Met l yX12_ofPlane (Cond.code yX12_ofPlane cX12_ofPlane 5 (some .int) :: wA) ({ frames := 3, cells := 0, slots := 0, locals := 120 }) (va_Pc [.ref (g 0), .int p0, .int p1] (PM dC dI g c adK adV v F rc sz)) (va_Qi (fun (r : Int32) (u : Unit) => True) (fun (_ : Unit) => BM dC dI g c (v, F, rc)) (AM g sz)) 0 0 (AM g sz) := by
  refine Met.ofW (cc := cX12_ofPlane) (maxL := 5) (ret := (some .int)) (by decide) rfl ?_
  intro p e s m args below meth c0 s₁ B hml hv
  obtain ⟨rfl, hsz, hP, hK, hE⟩ := hv
  have hx := B.exec
  have hb := B.bytes
  have hr := B.returns
  have hts := atoms_spec (ws := Cond.code yX12_ofPlane cX12_ofPlane 5 (some .int) :: wA) B.pre
  have hwd : ∀ w ∈ wA, w.before _ s = true := fun w h => hts w (List.mem_cons_of_mem _ h)
  have hown : s.vm.findClass RX12 = some m.cls := findClass_of_methodNamed B.named
  have hlocks := B.notSynchronized
  subst hsz
  have hl := lv_entry ([.ref (g 0), .int p0, .int p1]) (n := 5) (Nat.le_of_ble_eq_true rfl)
  rw [lg_entry_eq]
  generalize (lg_sl ([.ref (g 0), .int p0, .int p1]) ++ List.replicate (5 - (lg_sl ([.ref (g 0), .int p0, .int p1])).length) Slot.unset).toArray = ls at hl ⊢
  have hl : lv_has ls 5 [(0, .ref (g 0)), (1, .int p0), (2, .int p1)] := hl
  obtain ⟨H, eH⟩ : ∃ z, z = s.heap := ⟨_, rfl⟩
  have hP : va_P (dC, dI) classes (wM g c v F rc) H := by rw [eH]; exact hP
  have hS : va_S (AM g s.heap.size) s.heap H [] := by rw [eH]; exact va_S.rf
  refine my_heap eH ?_
  have rp0 := i32_rng p0
  have rp1 := i32_rng p1
  refine lv_aload_n hx hb dX12_ofPlane_0 rfl (lv_at hl 0 rfl) ?_
  refine lv_iload_n hx hb dX12_ofPlane_1 rfl (lv_at hl 1 rfl) ?_
  have t12270 : 0 ≤ (v 6).toInt ∧ (v 6).toInt ≤ 10 := hI.1 6 _ _ rfl
  refine va_calli (va_runV (As := [.int p0]) (rest := []) ⟨hx, hb, hml, hown, hwd⟩ (c_X12_isPlane l dC dI g c adK adV v F rc H.size p0 hg hI ) (cwV 1 hwd (gV wk_305 wk_302 wk_303 wk_304 wk_5) rfl rfl rfl (by decide +kernel) ⟨Nat.le_of_ble_eq_true rfl, Nat.le_of_ble_eq_true rfl⟩) ⟨PM.blind, va_recv hK hP (ci := 12) (q0 := 0) rfl rfl, fun U hU hW => ⟨rfl, PM.at hK hE hP hS hU hW⟩⟩ rfl rfl hl.1 rfl (lv_room (Nat.le_of_ble_eq_true rfl)) dX12_ofPlane_2 ⟨Nat.le_of_ble_eq_true rfl, Nat.le_of_ble_eq_true rfl⟩) hS (fun q _ h => (freeM hS) q h) (freeM hS) (fun r12271 u t H1 locs ht hvm hw hB hz1 hk1 hS => ?_)
  unfold BM at hB
  rw [ht] at hB
  have hP : va_P (dC, dI) classes (wM g c v F rc) H1 := hB
  replace hw : (r12271.toInt = 1 ∧ 0 ≤ p0.toInt ∧ p0.toInt < (v 6).toInt) ∨ (r12271.toInt = 0 ∧ (p0.toInt < 0 ∨ (v 6).toInt ≤ p0.toInt)) := hw
  have hw_r12271 := hw
  clear hw
  clear hz1
  generalize H1 = H at hP hS ⊢
  refine lv_if_ne (tgt := 11) hx hb dX12_ofPlane_5 (by decide) (fun c12272 => ?_) (fun c12272 => ?_)
  · skip
    have t12273 := cv_ne (a := r12271.toInt) rfl (b := 0) (by decide) c12272
    refine lv_iconst (v := 0) hx hb dX12_ofPlane_11 (by decide) ?_
    refine lv_istore_n (lv' := [(3, .int 0), (0, .ref (g 0)), (1, .int p0), (2, .int p1)]) hx hb dX12_ofPlane_12 rfl hl (by decide) rfl (fun ls hl => ?_)
    refine lv_iload_n hx hb dX12_ofPlane_13 rfl (lv_at hl 3 rfl) ?_
    by_cases hlo12274 : p1.toInt < 0
    · refine lv_tableOut (tgt := 166) hx hb dX12_ofPlane_14 (Or.inl hlo12274) (by decide) ?_
      refine lv_ldc (v := (-2000000000)) hx hb hown (hwd _ wk_542) dX12_ofPlane_166 ?_
      have hP9 : va_P (dC, dI) classes (wM g c v F rc) H := hP
      exact W.iret (v := (-2000000000)) hx hb hr (fun t ht hW => ⟨⟨(-2000000000), (), rfl, trivial, (by show va_P _ _ _ t.heap; rw [ht]; exact hP9)⟩, hS.F ht⟩) hS.2.2 dX12_ofPlane_168
    by_cases hhi12275 : 8 < p1.toInt
    · refine lv_tableOut (tgt := 166) hx hb dX12_ofPlane_14 (Or.inr hhi12275) (by decide) ?_
      refine lv_ldc (v := (-2000000000)) hx hb hown (hwd _ wk_542) dX12_ofPlane_166 ?_
      have hP9 : va_P (dC, dI) classes (wM g c v F rc) H := hP
      exact W.iret (v := (-2000000000)) hx hb hr (fun t ht hW => ⟨⟨(-2000000000), (), rfl, trivial, (by show va_P _ _ _ t.heap; rw [ht]; exact hP9)⟩, hS.F ht⟩) hS.2.2 dX12_ofPlane_168
    rcases (show p1.toInt = 0 ∨ p1.toInt = 1 ∨ p1.toInt = 2 ∨ p1.toInt = 3 ∨ p1.toInt = 4 ∨ p1.toInt = 5 ∨ p1.toInt = 6 ∨ p1.toInt = 7 ∨ p1.toInt = 8 by omega) with hk | hk | hk | hk | hk | hk | hk | hk | hk
    · refine lv_tableIn (off := 50) (tgt := 64) hx hb dX12_ofPlane_14 hlo12274 hhi12275 (by rw [hk]; decide) (by decide) ?_
      refine lv_aload_n hx hb dX12_ofPlane_64 rfl (lv_at hl 1 rfl) ?_
      refine va_get (D := (dC, dI)) (ci := 12) (v := .ref (g 5)) (C := RX12) (T := TX12) (N := 63) hx hb hwd inA_X12 hown hK hP 0 rfl rfl 8 (by decide) (hwd _ wk_186) (fun _ h9 => h9) rfl dX12_ofPlane_65 ?_
      refine lv_iload_n hx hb dX12_ofPlane_68 rfl (lv_at hl 2 rfl) ?_
      refine va_iald hx hb hK hP 5 4 rfl rfl (i := p0) (vin (a := p0.toInt) rfl (by omega)) dX12_ofPlane_69 ?_
      refine lv_topi (fun z12276 e12277 => ?_)
      have hP9 : va_P (dC, dI) classes (wM g c v F rc) H := hP
      exact W.iret (v := z12276) hx hb hr (fun t ht hW => ⟨⟨z12276, (), rfl, trivial, (by show va_P _ _ _ t.heap; rw [ht]; exact hP9)⟩, hS.F ht⟩) hS.2.2 dX12_ofPlane_70
    · refine lv_tableIn (off := 57) (tgt := 71) hx hb dX12_ofPlane_14 hlo12274 hhi12275 (by rw [hk]; decide) (by decide) ?_
      refine lv_aload_n hx hb dX12_ofPlane_71 rfl (lv_at hl 1 rfl) ?_
      refine va_get (D := (dC, dI)) (ci := 12) (v := .ref (g 6)) (C := RX12) (T := TX12) (N := 63) hx hb hwd inA_X12 hown hK hP 0 rfl rfl 9 (by decide) (hwd _ wk_187) (fun _ h9 => h9) rfl dX12_ofPlane_72 ?_
      refine lv_iload_n hx hb dX12_ofPlane_75 rfl (lv_at hl 2 rfl) ?_
      refine va_iald hx hb hK hP 6 5 rfl rfl (i := p0) (vin (a := p0.toInt) rfl (by omega)) dX12_ofPlane_76 ?_
      refine lv_topi (fun z12278 e12279 => ?_)
      have hP9 : va_P (dC, dI) classes (wM g c v F rc) H := hP
      exact W.iret (v := z12278) hx hb hr (fun t ht hW => ⟨⟨z12278, (), rfl, trivial, (by show va_P _ _ _ t.heap; rw [ht]; exact hP9)⟩, hS.F ht⟩) hS.2.2 dX12_ofPlane_77
    · refine lv_tableIn (off := 64) (tgt := 78) hx hb dX12_ofPlane_14 hlo12274 hhi12275 (by rw [hk]; decide) (by decide) ?_
      refine lv_aload_n hx hb dX12_ofPlane_78 rfl (lv_at hl 1 rfl) ?_
      refine lv_iload_n hx hb dX12_ofPlane_79 rfl (lv_at hl 2 rfl) ?_
      refine va_calli (va_runV (As := [.int p0]) (rest := []) ⟨hx, hb, hml, hown, hwd⟩ (c_X12_isReturned l dC dI g c adK adV v F rc H.size p0 hg hI (by omega)) (cwV 1 hwd (gV wk_313 wk_310 wk_311 wk_312 wk_5) rfl rfl rfl (by decide +kernel) ⟨Nat.le_of_ble_eq_true rfl, Nat.le_of_ble_eq_true rfl⟩) ⟨PM.blind, va_recv hK hP (ci := 12) (q0 := 0) rfl rfl, fun U hU hW => ⟨rfl, PM.at hK hE hP hS hU hW⟩⟩ rfl rfl hl.1 rfl (lv_room (Nat.le_of_ble_eq_true rfl)) dX12_ofPlane_80 ⟨Nat.le_of_ble_eq_true rfl, Nat.le_of_ble_eq_true rfl⟩) hS (fun q _ h => (freeM hS) q h) (freeM hS) (fun r12280 u t H1 locs ht hvm hw hB hz1 hk1 hS => ?_)
      unfold BM at hB
      rw [ht] at hB
      have hP : va_P (dC, dI) classes (wM g c v F rc) H1 := hB
      replace hw : (r12280.toInt = 1 ∧ 0 ≤ (F 8 p0.toNatClampNeg).toInt) ∨ (r12280.toInt = 0 ∧ (F 8 p0.toNatClampNeg).toInt < 0) := hw
      have hw_r12280 := hw
      clear hw
      clear hz1
      generalize H1 = H at hP hS ⊢
      refine lv_if_eq (tgt := 90) hx hb dX12_ofPlane_83 (by decide) (fun c12281 => ?_) (fun c12281 => ?_)
      · skip
        have t12282 := cv_eq (a := r12280.toInt) rfl (b := 0) (by decide) c12281
        refine lv_iconst (v := 0) hx hb dX12_ofPlane_90 (by decide) ?_
        have hP9 : va_P (dC, dI) classes (wM g c v F rc) H := hP
        exact W.iret (v := 0) hx hb hr (fun t ht hW => ⟨⟨0, (), rfl, trivial, (by show va_P _ _ _ t.heap; rw [ht]; exact hP9)⟩, hS.F ht⟩) hS.2.2 dX12_ofPlane_91
      · skip
        have t12283 := cv_ne (a := r12280.toInt) rfl (b := 0) (by decide) c12281
        refine lv_iconst (v := 1) hx hb dX12_ofPlane_86 (by decide) ?_
        refine lv_goto (tgt := 91) hx hb dX12_ofPlane_87 (by decide) ?_
        have hP9 : va_P (dC, dI) classes (wM g c v F rc) H := hP
        exact W.iret (v := 1) hx hb hr (fun t ht hW => ⟨⟨1, (), rfl, trivial, (by show va_P _ _ _ t.heap; rw [ht]; exact hP9)⟩, hS.F ht⟩) hS.2.2 dX12_ofPlane_91
    · refine lv_tableIn (off := 78) (tgt := 92) hx hb dX12_ofPlane_14 hlo12274 hhi12275 (by rw [hk]; decide) (by decide) ?_
      refine lv_iconst (v := 0) hx hb dX12_ofPlane_92 (by decide) ?_
      refine lv_istore (lv' := [(4, .int 0), (3, .int 0), (0, .ref (g 0)), (1, .int p0), (2, .int p1)]) hx hb dX12_ofPlane_93 hl (by decide) rfl (fun ls hl => ?_)
      have lp12284 : ∀ (n : Nat) (x4_lp12284 : Int32) (x3_lp12284 : Int32) (H : Heap) (locs : List Loc) (ls : Array Slot), (0 ≤ x4_lp12284.toInt) → (2147483648 - x4_lp12284.toInt ≤ (n : Int)) → va_P (dC, dI) classes (wM g c v F rc) H → va_S (AM g s.heap.size) s.heap H locs → lv_has ls 5 [(4, .int x4_lp12284), (3, .int x3_lp12284), (0, .ref (g 0)), (1, .int p0), (2, .int p1)] → W p l e (headSpec (Cond.code yX12_ofPlane cX12_ofPlane 5 (some .int) :: wA) ({ frames := 3, cells := 0, slots := 0, locals := 120 })).room s m ([.ref (g 0), .int p0, .int p1] : List Value).toArray below meth c0 H locs 0 0 (MQ below (va_Qi (fun (r : Int32) (u : Unit) => True) (fun (_ : Unit) => BM dC dI g c (v, F, rc)) (AM g s.heap.size)) ([.ref (g 0), .int p0, .int p1] : List Value).toArray s 0 0 (AM g s.heap.size)) (F0 m 95 ls []) := by
        intro n
        induction n with
        | zero =>
          intro x4_lp12284 x3_lp12284 H locs ls t12285 hm hP hS hl
          exfalso
          have := i32_rng x4_lp12284
          have := i32_rng x3_lp12284
          omega
        | succ n ih_lp12284 =>
          intro x4_lp12284 x3_lp12284 H locs ls t12285 hm hP hS hl
          have rx4_lp12284 := i32_rng x4_lp12284
          have rx3_lp12284 := i32_rng x3_lp12284
          refine lv_iload hx hb dX12_ofPlane_95 (lv_at hl 0 rfl) ?_
          refine lv_aload_n hx hb dX12_ofPlane_97 rfl (lv_at hl 2 rfl) ?_
          refine va_get (D := (dC, dI)) (ci := 12) (v := .int (v 14)) (C := RX12) (T := TX12) (N := 63) hx hb hwd inA_X12 hown hK hP 0 rfl rfl 14 (by decide) (hwd _ wk_318) (fun _ h9 => h9) rfl dX12_ofPlane_98 ?_
          have t12286 : 0 ≤ (v 14).toInt ∧ (v 14).toInt ≤ 100 := hI.1 14 _ _ rfl
          refine lv_icmp_ge (tgt := 129) hx hb dX12_ofPlane_101 (by decide) (fun c12287 => ?_) (fun c12287 => ?_)
          · skip
            have t12288 := cv_le (a := (v 14).toInt) rfl (b := x4_lp12284.toInt) rfl c12287
            refine lv_iload_n hx hb dX12_ofPlane_129 rfl (lv_at hl 1 rfl) ?_
            have hP9 : va_P (dC, dI) classes (wM g c v F rc) H := hP
            exact W.iret (v := x3_lp12284) hx hb hr (fun t ht hW => ⟨⟨x3_lp12284, (), rfl, trivial, (by show va_P _ _ _ t.heap; rw [ht]; exact hP9)⟩, hS.F ht⟩) hS.2.2 dX12_ofPlane_130
          · skip
            have t12289 := cv_nle (a := (v 14).toInt) rfl (b := x4_lp12284.toInt) rfl c12287
            refine lv_iload_n hx hb dX12_ofPlane_104 rfl (lv_at hl 1 rfl) ?_
            refine lv_aload_n hx hb dX12_ofPlane_105 rfl (lv_at hl 2 rfl) ?_
            refine va_get (D := (dC, dI)) (ci := 12) (v := .ref (g 13)) (C := RX12) (T := TX12) (N := 63) hx hb hwd inA_X12 hown hK hP 0 rfl rfl 17 (by decide) (hwd _ wk_194) (fun _ h9 => h9) rfl dX12_ofPlane_106 ?_
            refine lv_iload hx hb dX12_ofPlane_109 (lv_at hl 0 rfl) ?_
            refine va_iald hx hb hK hP 13 12 rfl rfl (i := x4_lp12284) (vin (a := x4_lp12284.toInt) rfl (by omega)) dX12_ofPlane_111 ?_
            refine lv_topi (fun z12290 e12291 => ?_)
            have t12292 : 0 ≤ z12290.toInt ∧ z12290.toInt ≤ 12 := by rw [e12291]; exact hI.2 13 _ _ rfl _
            refine lv_iload_n hx hb dX12_ofPlane_112 rfl (lv_at hl 3 rfl) ?_
            refine lv_icmp_ne (tgt := 120) hx hb dX12_ofPlane_113 (by decide) (fun c12293 => ?_) (fun c12293 => ?_)
            · skip
              have t12294 := cv_ne (a := z12290.toInt) rfl (b := p0.toInt) rfl c12293
              refine lv_iconst (v := 0) hx hb dX12_ofPlane_120 (by decide) ?_
              refine lv_iadd hx hb dX12_ofPlane_121 ?_
              refine lv_topi (fun z12295 e12296 => ?_)
              try (have t12297 := tadd e12296 (a := x3_lp12284.toInt) rfl (b := 0) (by decide) (by omega))
              refine lv_istore_n (lv' := [(3, .int z12295), (4, .int x4_lp12284), (0, .ref (g 0)), (1, .int p0), (2, .int p1)]) hx hb dX12_ofPlane_122 rfl hl (by decide) rfl (fun ls hl => ?_)
              obtain ⟨z12298, e12299⟩ : ∃ y : Int32, y = x4_lp12284 + 1 := ⟨_, rfl⟩
              try (have t12300 := tadd e12299 rfl (b := 1) (by decide) (by omega))
              refine lv_iinc (v := z12298) (lv' := [(4, .int z12298), (3, .int z12295), (0, .ref (g 0)), (1, .int p0), (2, .int p1)]) hx hb dX12_ofPlane_123 hl (k := 1) rfl (by rw [e12299]; rfl) (by decide) rfl (fun ls hl => ?_)
              refine lv_goto (tgt := 95) hx hb dX12_ofPlane_126 (by decide) ?_
              exact ih_lp12284 z12298 z12295  _ _ _ (by omega) (by omega) hP hS (lv_sub hl [0, 1, 2, 3, 4] rfl)
            · skip
              have t12301 := cv_eq (a := z12290.toInt) rfl (b := p0.toInt) rfl c12293
              refine lv_iconst (v := 1) hx hb dX12_ofPlane_116 (by decide) ?_
              refine lv_goto (tgt := 121) hx hb dX12_ofPlane_117 (by decide) ?_
              refine lv_iadd hx hb dX12_ofPlane_121 ?_
              refine lv_topi (fun z12302 e12303 => ?_)
              try (have t12304 := tadd e12303 (a := x3_lp12284.toInt) rfl (b := 1) (by decide) (by omega))
              refine lv_istore_n (lv' := [(3, .int z12302), (4, .int x4_lp12284), (0, .ref (g 0)), (1, .int p0), (2, .int p1)]) hx hb dX12_ofPlane_122 rfl hl (by decide) rfl (fun ls hl => ?_)
              obtain ⟨z12305, e12306⟩ : ∃ y : Int32, y = x4_lp12284 + 1 := ⟨_, rfl⟩
              try (have t12307 := tadd e12306 rfl (b := 1) (by decide) (by omega))
              refine lv_iinc (v := z12305) (lv' := [(4, .int z12305), (3, .int z12302), (0, .ref (g 0)), (1, .int p0), (2, .int p1)]) hx hb dX12_ofPlane_123 hl (k := 1) rfl (by rw [e12306]; rfl) (by decide) rfl (fun ls hl => ?_)
              refine lv_goto (tgt := 95) hx hb dX12_ofPlane_126 (by decide) ?_
              exact ih_lp12284 z12305 z12302  _ _ _ (by omega) (by omega) hP hS (lv_sub hl [0, 1, 2, 3, 4] rfl)
      obtain ⟨n9, hn9⟩ : ∃ n : Nat, 2147483648 - 0 ≤ (n : Int) := ⟨((2147483648 - 0 : Int)).toNat, by omega⟩
      exact lp12284 n9 0 0  H _ ls (by have : (0 : Int32).toInt = 0 := (by decide); have : (0 : Int32).toInt = 0 := (by decide); omega) (by have : (0 : Int32).toInt = 0 := (by decide); have : (0 : Int32).toInt = 0 := (by decide); omega) hP hS hl
    · refine lv_tableIn (off := 117) (tgt := 131) hx hb dX12_ofPlane_14 hlo12274 hhi12275 (by rw [hk]; decide) (by decide) ?_
      refine lv_aload_n hx hb dX12_ofPlane_131 rfl (lv_at hl 1 rfl) ?_
      refine va_get (D := (dC, dI)) (ci := 12) (v := .ref (g 4)) (C := RX12) (T := TX12) (N := 63) hx hb hwd inA_X12 hown hK hP 0 rfl rfl 7 (by decide) (hwd _ wk_185) (fun _ h9 => h9) rfl dX12_ofPlane_132 ?_
      refine lv_iload_n hx hb dX12_ofPlane_135 rfl (lv_at hl 2 rfl) ?_
      refine va_iald hx hb hK hP 4 3 rfl rfl (i := p0) (vin (a := p0.toInt) rfl (by omega)) dX12_ofPlane_136 ?_
      refine lv_topi (fun z12308 e12309 => ?_)
      have hP9 : va_P (dC, dI) classes (wM g c v F rc) H := hP
      exact W.iret (v := z12308) hx hb hr (fun t ht hW => ⟨⟨z12308, (), rfl, trivial, (by show va_P _ _ _ t.heap; rw [ht]; exact hP9)⟩, hS.F ht⟩) hS.2.2 dX12_ofPlane_137
    · refine lv_tableIn (off := 124) (tgt := 138) hx hb dX12_ofPlane_14 hlo12274 hhi12275 (by rw [hk]; decide) (by decide) ?_
      refine lv_aload_n hx hb dX12_ofPlane_138 rfl (lv_at hl 1 rfl) ?_
      refine va_get (D := (dC, dI)) (ci := 12) (v := .ref (g 7)) (C := RX12) (T := TX12) (N := 63) hx hb hwd inA_X12 hown hK hP 0 rfl rfl 10 (by decide) (hwd _ wk_188) (fun _ h9 => h9) rfl dX12_ofPlane_139 ?_
      refine lv_iload_n hx hb dX12_ofPlane_142 rfl (lv_at hl 2 rfl) ?_
      refine va_iald hx hb hK hP 7 6 rfl rfl (i := p0) (vin (a := p0.toInt) rfl (by omega)) dX12_ofPlane_143 ?_
      refine lv_topi (fun z12310 e12311 => ?_)
      have hP9 : va_P (dC, dI) classes (wM g c v F rc) H := hP
      exact W.iret (v := z12310) hx hb hr (fun t ht hW => ⟨⟨z12310, (), rfl, trivial, (by show va_P _ _ _ t.heap; rw [ht]; exact hP9)⟩, hS.F ht⟩) hS.2.2 dX12_ofPlane_144
    · refine lv_tableIn (off := 131) (tgt := 145) hx hb dX12_ofPlane_14 hlo12274 hhi12275 (by rw [hk]; decide) (by decide) ?_
      refine lv_aload_n hx hb dX12_ofPlane_145 rfl (lv_at hl 1 rfl) ?_
      refine va_get (D := (dC, dI)) (ci := 12) (v := .ref (g 8)) (C := RX12) (T := TX12) (N := 63) hx hb hwd inA_X12 hown hK hP 0 rfl rfl 11 (by decide) (hwd _ wk_189) (fun _ h9 => h9) rfl dX12_ofPlane_146 ?_
      refine lv_iload_n hx hb dX12_ofPlane_149 rfl (lv_at hl 2 rfl) ?_
      refine va_iald hx hb hK hP 8 7 rfl rfl (i := p0) (vin (a := p0.toInt) rfl (by omega)) dX12_ofPlane_150 ?_
      refine lv_topi (fun z12312 e12313 => ?_)
      have hP9 : va_P (dC, dI) classes (wM g c v F rc) H := hP
      exact W.iret (v := z12312) hx hb hr (fun t ht hW => ⟨⟨z12312, (), rfl, trivial, (by show va_P _ _ _ t.heap; rw [ht]; exact hP9)⟩, hS.F ht⟩) hS.2.2 dX12_ofPlane_151
    · refine lv_tableIn (off := 138) (tgt := 152) hx hb dX12_ofPlane_14 hlo12274 hhi12275 (by rw [hk]; decide) (by decide) ?_
      refine lv_aload_n hx hb dX12_ofPlane_152 rfl (lv_at hl 1 rfl) ?_
      refine va_get (D := (dC, dI)) (ci := 12) (v := .ref (g 35)) (C := RX12) (T := TX12) (N := 63) hx hb hwd inA_X12 hown hK hP 0 rfl rfl 49 (by decide) (hwd _ wk_217) (fun _ h9 => h9) rfl dX12_ofPlane_153 ?_
      refine lv_iload_n hx hb dX12_ofPlane_156 rfl (lv_at hl 2 rfl) ?_
      refine va_iald hx hb hK hP 35 34 rfl rfl (i := p0) (vin (a := p0.toInt) rfl (by omega)) dX12_ofPlane_157 ?_
      refine lv_topi (fun z12314 e12315 => ?_)
      have hP9 : va_P (dC, dI) classes (wM g c v F rc) H := hP
      exact W.iret (v := z12314) hx hb hr (fun t ht hW => ⟨⟨z12314, (), rfl, trivial, (by show va_P _ _ _ t.heap; rw [ht]; exact hP9)⟩, hS.F ht⟩) hS.2.2 dX12_ofPlane_158
    · refine lv_tableIn (off := 145) (tgt := 159) hx hb dX12_ofPlane_14 hlo12274 hhi12275 (by rw [hk]; decide) (by decide) ?_
      refine lv_aload_n hx hb dX12_ofPlane_159 rfl (lv_at hl 1 rfl) ?_
      refine va_get (D := (dC, dI)) (ci := 12) (v := .ref (g 36)) (C := RX12) (T := TX12) (N := 63) hx hb hwd inA_X12 hown hK hP 0 rfl rfl 50 (by decide) (hwd _ wk_218) (fun _ h9 => h9) rfl dX12_ofPlane_160 ?_
      refine lv_iload_n hx hb dX12_ofPlane_163 rfl (lv_at hl 2 rfl) ?_
      refine va_iald hx hb hK hP 36 35 rfl rfl (i := p0) (vin (a := p0.toInt) rfl (by omega)) dX12_ofPlane_164 ?_
      refine lv_topi (fun z12316 e12317 => ?_)
      have hP9 : va_P (dC, dI) classes (wM g c v F rc) H := hP
      exact W.iret (v := z12316) hx hb hr (fun t ht hW => ⟨⟨z12316, (), rfl, trivial, (by show va_P _ _ _ t.heap; rw [ht]; exact hP9)⟩, hS.F ht⟩) hS.2.2 dX12_ofPlane_165
  · skip
    have t12318 := cv_eq (a := r12271.toInt) rfl (b := 0) (by decide) c12272
    refine lv_ldc (v := (-2000000000)) hx hb hown (hwd _ wk_542) dX12_ofPlane_8 ?_
    have hP9 : va_P (dC, dI) classes (wM g c v F rc) H := hP
    exact W.iret (v := (-2000000000)) hx hb hr (fun t ht hW => ⟨⟨(-2000000000), (), rfl, trivial, (by show va_P _ _ _ t.heap; rw [ht]; exact hP9)⟩, hS.F ht⟩) hS.2.2 dX12_ofPlane_10
