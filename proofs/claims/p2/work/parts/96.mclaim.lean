set_option maxHeartbeats 8000000 in
set_option maxRecDepth 100000 in
theorem c_X12_claim (l : Launch) (dC : Nat → ClassId) (dI : Nat → Nat → Nat) (g : Nat → Nat) (c : Nat → ClassId) (adK adV : Nat → Nat) (v : Nat → Int32) (F : Nat → Nat → Int32) (rc sz : Nat) (p0 : Int32) (p1 : Int32) (hg : injM g) (hI : IM v F) (hJ : JO (v 14) (v 19) (F 13) (F 15) (F 18)) : Met l yX12_claim (Cond.code yX12_claim cX12_claim 7 (some .int) :: wA) ({ frames := 3, cells := 0, slots := 0, locals := 120 }) (va_Pc [.ref (g 0), .int p0, .int p1] (PM dC dI g c adK adV v F rc sz)) (va_Qi (fun (r : Int32) (u : StM) => IM u.1 u.2.1 ∧ u.2.2 = rc ∧ (∀ k, k ∉ ([60] : List Nat) → u.1 k = v k) ∧ (∀ k, k ∉ ([10] : List Nat) → u.2.1 k = F k) ∧ True) (BM dC dI g c) (AM g sz)) 0 0 (AM g sz) := by
  refine Met.ofW (cc := cX12_claim) (maxL := 7) (ret := (some .int)) (by decide) rfl ?_
  intro p e s m args below meth c0 s₁ B hml hv
  obtain ⟨rfl, hsz, hP, hK, hE⟩ := hv
  have hx := B.exec
  have hb := B.bytes
  have hr := B.returns
  have hts := atoms_spec (ws := Cond.code yX12_claim cX12_claim 7 (some .int) :: wA) B.pre
  have hwd : ∀ w ∈ wA, w.before _ s = true := fun w h => hts w (List.mem_cons_of_mem _ h)
  have hown : s.vm.findClass RX12 = some m.cls := findClass_of_methodNamed B.named
  have hlocks := B.notSynchronized
  subst hsz
  have hl := lv_entry ([.ref (g 0), .int p0, .int p1]) (n := 7) (Nat.le_of_ble_eq_true rfl)
  rw [lg_entry_eq]
  generalize (lg_sl ([.ref (g 0), .int p0, .int p1]) ++ List.replicate (7 - (lg_sl ([.ref (g 0), .int p0, .int p1])).length) Slot.unset).toArray = ls at hl ⊢
  have hl : lv_has ls 7 [(0, .ref (g 0)), (1, .int p0), (2, .int p1)] := hl
  obtain ⟨H, eH⟩ : ∃ z, z = s.heap := ⟨_, rfl⟩
  have hP : va_P (dC, dI) classes (wM g c v F rc) H := by rw [eH]; exact hP
  have hS : va_S (AM g s.heap.size) s.heap H [] := by rw [eH]; exact va_S.rf
  refine my_heap eH ?_
  have hF : ∀ k, k ∉ ([10] : List Nat) → F k = F k := fun _ _ => rfl
  have rp0 := i32_rng p0
  have rp1 := i32_rng p1
  have hb14 : 0 ≤ (v 14).toInt ∧ (v 14).toInt ≤ 100 := hI.1 14 _ _ rfl
  have hb19 : 0 ≤ (v 19).toInt ∧ (v 19).toInt ≤ 500 := hI.1 19 _ _ rfl
  refine lv_aload_n hx hb dX12_claim_0 rfl (lv_at hl 0 rfl) ?_
  refine lv_iload_n hx hb dX12_claim_1 rfl (lv_at hl 1 rfl) ?_
  have t29696 : 0 ≤ (v 14).toInt ∧ (v 14).toInt ≤ 100 := hI.1 14 _ _ rfl
  refine va_calli (va_runV (As := [.int p0]) (rest := []) ⟨hx, hb, hml, hown, hwd⟩ (c_X12_isPart l dC dI g c adK adV v F rc H.size p0 hg hI ) (cwV 1 hwd (gV wk_631 wk_628 wk_629 wk_630 wk_5) rfl rfl rfl (by decide +kernel) ⟨Nat.le_of_ble_eq_true rfl, Nat.le_of_ble_eq_true rfl⟩) ⟨PM.blind, va_recv hK hP (ci := 12) (q0 := 0) rfl rfl, fun U hU hW => ⟨rfl, PM.at hK hE hP hS hU hW⟩⟩ rfl rfl hl.1 rfl (lv_room (Nat.le_of_ble_eq_true rfl)) dX12_claim_2 ⟨Nat.le_of_ble_eq_true rfl, Nat.le_of_ble_eq_true rfl⟩) hS (fun q _ h => (freeM hS) q h) (freeM hS) (fun r29697 u t H1 locs ht hvm hw hB hz1 hk1 hS => ?_)
  unfold BM at hB
  rw [ht] at hB
  have hP : va_P (dC, dI) classes (wM g c v F rc) H1 := hB
  have hw : (r29697.toInt = 1 ∧ 0 ≤ p0.toInt ∧ p0.toInt < (v 14).toInt) ∨ (r29697.toInt = 0 ∧ (p0.toInt < 0 ∨ (v 14).toInt ≤ p0.toInt)) := hw
  have hw_r29697 := hw
  generalize H1 = H at hP hS ⊢
  refine lv_if_eq (tgt := 18) hx hb dX12_claim_5 (by decide) (fun c29698 => ?_) (fun c29698 => ?_)
  · skip
    have t29699 := cv_eq (a := r29697.toInt) rfl (b := 0) (by decide) c29698
    refine lv_iconst (v := (-1)) hx hb dX12_claim_18 (by decide) ?_
    have hP9 : va_P (dC, dI) classes (wM g c v F rc) H := hP
    exact W.iret (v := (-1)) hx hb hr (fun t ht hW => ⟨⟨(-1), (v, F, rc), rfl, ⟨hI, rfl, (fun _ _ => rfl), hF, trivial⟩, (by show va_P _ _ _ t.heap; rw [ht]; exact hP9)⟩, hS.F ht⟩) hS.2.2 dX12_claim_19
  · skip
    have t29700 := cv_ne (a := r29697.toInt) rfl (b := 0) (by decide) c29698
    refine lv_iload_n hx hb dX12_claim_8 rfl (lv_at hl 2 rfl) ?_
    refine lv_iconst (v := 1) hx hb dX12_claim_9 (by decide) ?_
    refine lv_ldc (v := 999999) hx hb hown (hwd _ wk_250) dX12_claim_10 ?_
    refine va_calli (va_runS (As := [.int p1, .int 1, .int 999999]) (rest := []) ⟨hx, hb, hml, hown, hwd⟩ (c_X12_in l dC dI g c adK adV v F rc H.size p1 1 999999 hg hI ) (va_cwS 3 hwd (gT wk_254 wk_252 wk_253 wk_5) rfl rfl rfl (by decide +kernel) ⟨Nat.le_of_ble_eq_true rfl, Nat.le_of_ble_eq_true rfl⟩) ⟨PM.blind, fun U hU hW => ⟨rfl, PM.at hK hE hP hS hU hW⟩⟩ rfl rfl hl.1 rfl (lv_room (Nat.le_of_ble_eq_true rfl)) dX12_claim_12 ⟨Nat.le_of_ble_eq_true rfl, Nat.le_of_ble_eq_true rfl⟩) hS (fun q _ h => (freeM hS) q h) (freeM hS) (fun r29701 u t H1 locs ht hvm hw hB hz1 hk1 hS => ?_)
    unfold BM at hB
    rw [ht] at hB
    have hP : va_P (dC, dI) classes (wM g c v F rc) H1 := hB
    have hw : (r29701.toInt = 1 ∧ (1 : Int32).toInt ≤ p1.toInt ∧ p1.toInt ≤ (999999 : Int32).toInt) ∨ (r29701.toInt = 0 ∧ (p1.toInt < (1 : Int32).toInt ∨ (999999 : Int32).toInt < p1.toInt)) := hw
    have hw_r29701 := hw
    have k29702 : (1 : Int32).toInt = 1 := by decide
    have k29703 : (999999 : Int32).toInt = 999999 := by decide
    generalize H1 = H at hP hS ⊢
    refine lv_if_ne (tgt := 20) hx hb dX12_claim_15 (by decide) (fun c29704 => ?_) (fun c29704 => ?_)
    · skip
      have t29705 := cv_ne (a := r29701.toInt) rfl (b := 0) (by decide) c29704
      refine lv_aload_n hx hb dX12_claim_20 rfl (lv_at hl 0 rfl) ?_
      refine va_get (D := (dC, dI)) (ci := 12) (v := .ref (g 13)) (C := RX12) (T := TX12) (N := 63) hx hb hwd inA_X12 hown hK hP 0 rfl rfl 17 (by decide) (hwd _ wk_194) (fun _ h9 => h9) rfl dX12_claim_21 ?_
      refine lv_iload_n hx hb dX12_claim_24 rfl (lv_at hl 1 rfl) ?_
      refine va_iald hx hb hK hP 13 12 rfl rfl (i := p0) (vin (a := p0.toInt) rfl (by omega)) dX12_claim_25 ?_
      refine lv_topi (fun z29706 e29707 => ?_)
      have t29708 : 0 ≤ z29706.toInt ∧ z29706.toInt ≤ 12 := by rw [e29707]; exact hI.2 13 _ _ rfl _
      have tzz29706 : z29706.toInt = (F 13 (p0 : Int32).toNatClampNeg).toInt := congrArg Int32.toInt e29707
      refine lv_bipush (v := 10) hx hb dX12_claim_26 (by decide) ?_
      refine lv_icmp_eq (tgt := 34) hx hb dX12_claim_28 (by decide) (fun c29709 => ?_) (fun c29709 => ?_)
      · skip
        have t29710 := cv_eq (a := z29706.toInt) rfl (b := 10) (by decide) c29709
        refine lv_aload_n hx hb dX12_claim_34 rfl (lv_at hl 0 rfl) ?_
        refine lv_iload_n hx hb dX12_claim_35 rfl (lv_at hl 1 rfl) ?_
        have t29711 : 0 ≤ (v 19).toInt ∧ (v 19).toInt ≤ 500 := hI.1 19 _ _ rfl
        refine va_calli (va_runV (As := [.int p0]) (rest := []) ⟨hx, hb, hml, hown, hwd⟩ (c_X12_openOf l dC dI g c adK adV v F rc H.size p0 hg hI ) (cwV 1 hwd (gV wk_639 wk_636 wk_637 wk_638 wk_5) rfl rfl rfl (by decide +kernel) ⟨Nat.le_of_ble_eq_true rfl, Nat.le_of_ble_eq_true rfl⟩) ⟨PM.blind, va_recv hK hP (ci := 12) (q0 := 0) rfl rfl, fun U hU hW => ⟨rfl, PM.at hK hE hP hS hU hW⟩⟩ rfl rfl hl.1 rfl (lv_room (Nat.le_of_ble_eq_true rfl)) dX12_claim_36 ⟨Nat.le_of_ble_eq_true rfl, Nat.le_of_ble_eq_true rfl⟩) hS (fun q _ h => (freeM hS) q h) (freeM hS) (fun r29712 u t H1 locs ht hvm hw hB hz1 hk1 hS => ?_)
        unfold BM at hB
        rw [ht] at hB
        have hP : va_P (dC, dI) classes (wM g c v F rc) H1 := hB
        have hw : ((0 ≤ r29712.toInt ∧ r29712.toInt < (v 19).toInt) ∧ ((F 15 r29712.toNatClampNeg).toInt = p0.toInt ∧ (F 18 r29712.toNatClampNeg).toInt = 1000000)) ∨ (r29712.toInt = -1 ∧ ∀ s : Nat, (s : Int) < (v 19).toInt → ¬ ((F 15 s).toInt = p0.toInt ∧ (F 18 s).toInt = 1000000)) := hw
        have hw_r29712 := hw
        generalize H1 = H at hP hS ⊢
        have ho_r29712 := hw_r29712.elim id (fun h => absurd (JO.at' hJ (i := p0) (by omega) (by omega) (by omega)) (no_hasO h.2))
        refine lv_istore_n (lv' := [(3, .int r29712), (0, .ref (g 0)), (1, .int p0), (2, .int p1)]) hx hb dX12_claim_39 rfl hl (by decide) rfl (fun ls hl => ?_)
        refine lv_iconst (v := (-1)) hx hb dX12_claim_40 (by decide) ?_
        refine lv_istore (lv' := [(4, .int (-1)), (3, .int r29712), (0, .ref (g 0)), (1, .int p0), (2, .int p1)]) hx hb dX12_claim_41 hl (by decide) rfl (fun ls hl => ?_)
        refine lv_iconst (v := 0) hx hb dX12_claim_43 (by decide) ?_
        refine lv_istore (lv' := [(5, .int 0), (4, .int (-1)), (3, .int r29712), (0, .ref (g 0)), (1, .int p0), (2, .int p1)]) hx hb dX12_claim_44 hl (by decide) rfl (fun ls hl => ?_)
        have lp29713 : ∀ (n : Nat) (x5_lp29713 : Int32) (x4_lp29713 : Int32) (v_lp29713 : Nat → Int32) (F_lp29713 : Nat → Nat → Int32) (H : Heap) (locs : List Loc) (ls : Array Slot), (0 ≤ x5_lp29713.toInt) → (-1 ≤ x4_lp29713.toInt) → (x4_lp29713.toInt ≤ 499) → (2147483648 - x5_lp29713.toInt ≤ (n : Int)) → (∀ k, k ∉ ([] : List Nat) → v_lp29713 k = v k) → IM v_lp29713 F_lp29713 → (∀ k, k ∉ ([10] : List Nat) → F_lp29713 k = F k) → va_P (dC, dI) classes (wM g c v_lp29713 F_lp29713 rc) H → va_S (AM g s.heap.size) s.heap H locs → lv_has ls 7 [(5, .int x5_lp29713), (4, .int x4_lp29713), (3, .int r29712), (0, .ref (g 0)), (1, .int p0), (2, .int p1)] → W p l e (headSpec (Cond.code yX12_claim cX12_claim 7 (some .int) :: wA) ({ frames := 3, cells := 0, slots := 0, locals := 120 })).room s m ([.ref (g 0), .int p0, .int p1] : List Value).toArray below meth c0 H locs 0 0 (MQ below (va_Qi (fun (r : Int32) (u : StM) => IM u.1 u.2.1 ∧ u.2.2 = rc ∧ (∀ k, k ∉ ([60] : List Nat) → u.1 k = v k) ∧ (∀ k, k ∉ ([10] : List Nat) → u.2.1 k = F k) ∧ True) (BM dC dI g c) (AM g s.heap.size)) ([.ref (g 0), .int p0, .int p1] : List Value).toArray s 0 0 (AM g s.heap.size)) (F0 m 46 ls []) := by
          intro n
          induction n with
          | zero =>
            intro x5_lp29713 x4_lp29713 v_lp29713 F_lp29713 H locs ls t29714 t29715 t29716 hm hf_lp29713 hI hF hP hS hl
            exfalso
            have := i32_rng x5_lp29713
            have := i32_rng x4_lp29713
            have hI1 := hI.1
            omega
          | succ n ih_lp29713 =>
            intro x5_lp29713 x4_lp29713 v_lp29713 F_lp29713 H locs ls t29714 t29715 t29716 hm hf_lp29713 hI hF hP hS hl
            have rx5_lp29713 := i32_rng x5_lp29713
            have rx4_lp29713 := i32_rng x4_lp29713
            refine lv_iload hx hb dX12_claim_46 (lv_at hl 0 rfl) ?_
            refine lv_aload_n hx hb dX12_claim_48 rfl (lv_at hl 3 rfl) ?_
            refine va_get (D := (dC, dI)) (ci := 12) (v := .int (v_lp29713 19)) (C := RX12) (T := TX12) (N := 63) hx hb hwd inA_X12 hown hK hP 0 rfl rfl 19 (by decide) (hwd _ wk_494) (fun _ h9 => h9) rfl dX12_claim_49 ?_
            refine my_top (v := v 19) (hf_lp29713 19 (by decide)) ?_
            have t29717 : 0 ≤ (v 19).toInt ∧ (v 19).toInt ≤ 500 := by have h9 := hI.1 19 _ _ rfl; rw [show v_lp29713 19 = v 19 from hf_lp29713 19 (by decide)] at h9; exact h9
            refine lv_icmp_ge (tgt := 108) hx hb dX12_claim_52 (by decide) (fun c29718 => ?_) (fun c29718 => ?_)
            · skip
              have t29719 := cv_le (a := (v 19).toInt) rfl (b := x5_lp29713.toInt) rfl c29718
              refine lv_iload hx hb dX12_claim_108 (lv_at hl 1 rfl) ?_
              refine lv_if_lt (tgt := 125) hx hb dX12_claim_110 (by decide) (fun c29720 => ?_) (fun c29720 => ?_)
              · skip
                have t29721 := cv_lt (a := x4_lp29713.toInt) rfl (b := 0) (by decide) c29720
                refine lv_bipush (v := (-2)) hx hb dX12_claim_125 (by decide) ?_
                have hP9 : va_P (dC, dI) classes (wM g c v_lp29713 F_lp29713 rc) H := hP
                exact W.iret (v := (-2)) hx hb hr (fun t ht hW => ⟨⟨(-2), (v_lp29713, F_lp29713, rc), rfl, ⟨hI, rfl, (frC (by decide) hf_lp29713 (fun _ _ => rfl)), hF, trivial⟩, (by show va_P _ _ _ t.heap; rw [ht]; exact hP9)⟩, hS.F ht⟩) hS.2.2 dX12_claim_127
              · skip
                have t29722 := cv_nlt (a := x4_lp29713.toInt) rfl (b := 0) (by decide) c29720
                refine lv_aload_n hx hb dX12_claim_113 rfl (lv_at hl 3 rfl) ?_
                refine va_get (D := (dC, dI)) (ci := 12) (v := .ref (g 16)) (C := RX12) (T := TX12) (N := 63) hx hb hwd inA_X12 hown hK hP 0 rfl rfl 21 (by decide) (hwd _ wk_197) (fun _ h9 => h9) rfl dX12_claim_114 ?_
                refine lv_iload hx hb dX12_claim_117 (lv_at hl 1 rfl) ?_
                refine va_iald hx hb hK hP 16 15 rfl rfl (i := x4_lp29713) (vin (a := x4_lp29713.toInt) rfl (by omega)) dX12_claim_119 ?_
                refine lv_topi (fun z29723 e29724 => ?_)
                have t29725 : 0 ≤ z29723.toInt ∧ z29723.toInt ≤ 11 := by rw [e29724]; exact hI.2 16 _ _ rfl _
                have e29724 : z29723 = F 16 (x4_lp29713 : Int32).toNatClampNeg := e29724.trans (congrFun (hF 16 (by decide)) _)
                have tzz29723 : z29723.toInt = (F 16 (x4_lp29713 : Int32).toNatClampNeg).toInt := congrArg Int32.toInt e29724
                refine lv_bipush (v := 10) hx hb dX12_claim_120 (by decide) ?_
                refine lv_icmp_lt (tgt := 128) hx hb dX12_claim_122 (by decide) (fun c29726 => ?_) (fun c29726 => ?_)
                · skip
                  have t29727 := cv_lt (a := z29723.toInt) rfl (b := 10) (by decide) c29726
                  refine lv_bipush (v := 10) hx hb dX12_claim_128 (by decide) ?_
                  refine lv_aload_n hx hb dX12_claim_130 rfl (lv_at hl 3 rfl) ?_
                  refine va_get (D := (dC, dI)) (ci := 12) (v := .ref (g 16)) (C := RX12) (T := TX12) (N := 63) hx hb hwd inA_X12 hown hK hP 0 rfl rfl 21 (by decide) (hwd _ wk_197) (fun _ h9 => h9) rfl dX12_claim_131 ?_
                  refine lv_iload hx hb dX12_claim_134 (lv_at hl 1 rfl) ?_
                  refine va_iald hx hb hK hP 16 15 rfl rfl (i := x4_lp29713) (vin (a := x4_lp29713.toInt) rfl (by omega)) dX12_claim_136 ?_
                  refine lv_topi (fun z29728 e29729 => ?_)
                  have t29730 : 0 ≤ z29728.toInt ∧ z29728.toInt ≤ 11 := by rw [e29729]; exact hI.2 16 _ _ rfl _
                  have e29729 : z29728 = F 16 (x4_lp29713 : Int32).toNatClampNeg := e29729.trans (congrFun (hF 16 (by decide)) _)
                  have tzz29728 : z29728.toInt = (F 16 (x4_lp29713 : Int32).toNatClampNeg).toInt := congrArg Int32.toInt e29729
                  refine lv_imul hx hb dX12_claim_137 ?_
                  refine lv_topi (fun z29731 e29732 => ?_)
                  try (have t29733 := tmul e29732 (a := 10) (by decide) (b := z29728.toInt) rfl (by omega))
                  refine lv_aload_n hx hb dX12_claim_138 rfl (lv_at hl 3 rfl) ?_
                  refine va_get (D := (dC, dI)) (ci := 12) (v := .ref (g 11)) (C := RX12) (T := TX12) (N := 63) hx hb hwd inA_X12 hown hK hP 0 rfl rfl 15 (by decide) (hwd _ wk_192) (fun _ h9 => h9) rfl dX12_claim_139 ?_
                  refine lv_iload_n hx hb dX12_claim_142 rfl (lv_at hl 4 rfl) ?_
                  refine va_iald hx hb hK hP 11 10 rfl rfl (i := p0) (vin (a := p0.toInt) rfl (by omega)) dX12_claim_143 ?_
                  refine lv_topi (fun z29734 e29735 => ?_)
                  have t29736 : 0 ≤ z29734.toInt ∧ z29734.toInt ≤ 9 := by rw [e29735]; exact hI.2 11 _ _ rfl _
                  have e29735 : z29734 = F 11 (p0 : Int32).toNatClampNeg := e29735.trans (congrFun (hF 11 (by decide)) _)
                  have tzz29734 : z29734.toInt = (F 11 (p0 : Int32).toNatClampNeg).toInt := congrArg Int32.toInt e29735
                  refine lv_iadd hx hb dX12_claim_144 ?_
                  refine lv_topi (fun z29737 e29738 => ?_)
                  try (have t29739 := tadd e29738 (a := z29731.toInt) rfl (b := z29734.toInt) rfl (by omega))
                  refine lv_istore (lv' := [(5, .int z29737), (4, .int x4_lp29713), (3, .int r29712), (0, .ref (g 0)), (1, .int p0), (2, .int p1)]) hx hb dX12_claim_145 hl (by decide) rfl (fun ls hl => ?_)
                  refine lv_iload_n hx hb dX12_claim_147 rfl (lv_at hl 5 rfl) ?_
                  refine lv_aload_n hx hb dX12_claim_148 rfl (lv_at hl 3 rfl) ?_
                  refine va_get (D := (dC, dI)) (ci := 12) (v := .ref (g 10)) (C := RX12) (T := TX12) (N := 63) hx hb hwd inA_X12 hown hK hP 0 rfl rfl 13 (by decide) (hwd _ wk_191) (fun _ h9 => h9) rfl dX12_claim_149 ?_
                  refine lv_iload hx hb dX12_claim_152 (lv_at hl 0 rfl) ?_
                  refine va_iald hx hb hK hP 10 9 rfl rfl (i := z29737) (vin (a := z29737.toInt) rfl (by omega)) dX12_claim_154 ?_
                  refine lv_topi (fun z29740 e29741 => ?_)
                  have tzz29740 : z29740.toInt = (F_lp29713 10 (z29737 : Int32).toNatClampNeg).toInt := congrArg Int32.toInt e29741
                  refine lv_icmp_ge (tgt := 162) hx hb dX12_claim_155 (by decide) (fun c29742 => ?_) (fun c29742 => ?_)
                  · skip
                    have t29743 := cv_le (a := z29740.toInt) rfl (b := p1.toInt) rfl c29742
                    refine lv_aload_n hx hb dX12_claim_162 rfl (lv_at hl 3 rfl) ?_
                    refine va_get (D := (dC, dI)) (ci := 12) (v := .ref (g 10)) (C := RX12) (T := TX12) (N := 63) hx hb hwd inA_X12 hown hK hP 0 rfl rfl 13 (by decide) (hwd _ wk_191) (fun _ h9 => h9) rfl dX12_claim_163 ?_
                    refine lv_iload hx hb dX12_claim_166 (lv_at hl 0 rfl) ?_
                    refine va_iald hx hb hK hP 10 9 rfl rfl (i := z29737) (vin (a := z29737.toInt) rfl (by omega)) dX12_claim_168 ?_
                    refine lv_topi (fun z29744 e29745 => ?_)
                    have tzz29744 : z29744.toInt = (F_lp29713 10 (z29737 : Int32).toNatClampNeg).toInt := congrArg Int32.toInt e29745
                    refine lv_istore (lv' := [(6, .int z29744), (5, .int z29737), (4, .int x4_lp29713), (3, .int r29712), (0, .ref (g 0)), (1, .int p0), (2, .int p1)]) hx hb dX12_claim_169 hl (by decide) rfl (fun ls hl => ?_)
                    refine lv_aload_n hx hb dX12_claim_171 rfl (lv_at hl 4 rfl) ?_
                    refine va_get (D := (dC, dI)) (ci := 12) (v := .ref (g 10)) (C := RX12) (T := TX12) (N := 63) hx hb hwd inA_X12 hown hK hP 0 rfl rfl 13 (by decide) (hwd _ wk_191) (fun _ h9 => h9) rfl dX12_claim_172 ?_
                    refine lv_iload hx hb dX12_claim_175 (lv_at hl 1 rfl) ?_
                    refine lv_dup2_11 hx hb dX12_claim_177 rfl rfl ?_
                    refine va_iald hx hb hK hP 10 9 rfl rfl (i := z29737) (vin (a := z29737.toInt) rfl (by omega)) dX12_claim_178 ?_
                    refine lv_topi (fun z29746 e29747 => ?_)
                    have tzz29746 : z29746.toInt = (F_lp29713 10 (z29737 : Int32).toNatClampNeg).toInt := congrArg Int32.toInt e29747
                    refine lv_iload hx hb dX12_claim_179 (lv_at hl 0 rfl) ?_
                    refine lv_isub hx hb dX12_claim_181 ?_
                    refine lv_topi (fun z29748 e29749 => ?_)
                    try (have t29750 := tsub e29749 (a := z29746.toInt) rfl (b := z29744.toInt) rfl (by omega))
                    refine va_iast hx hb hK hP (DM hg) hS 10 9 rfl rfl (i := z29737) (x := z29748) (vin (a := z29737.toInt) rfl (by omega)) dX12_claim_182 (fun H locs hP _ hS => ?_)
                    have hP := va_P_eq (sM_10 g c _ _ _ _) hP
                    have hI := IM.store0 hI 10 (z29737 : Int32).toNatClampNeg z29748 rfl
                    have hF := frUF (k := 10) (f := upd (F_lp29713 10) (z29737 : Int32).toNatClampNeg z29748) (by decide) hF
                    have st29752 : (va_up F_lp29713 10 (upd (F_lp29713 10) (z29737 : Int32).toNatClampNeg z29748)) 10 = upd (F_lp29713 10) (z29737 : Int32).toNatClampNeg z29748 := va_up_self _ _ _
                    have sn29753 : ∀ k9, k9 ≠ 10 → (va_up F_lp29713 10 (upd (F_lp29713 10) (z29737 : Int32).toNatClampNeg z29748)) k9 = F_lp29713 k9 := fun k9 h9 => va_up_ne _ _ h9
                    have hP : va_P (dC, dI) classes (wM g c v_lp29713 (va_up F_lp29713 10 (upd (F_lp29713 10) (z29737 : Int32).toNatClampNeg z29748)) rc) H := hP
                    generalize (va_up F_lp29713 10 (upd (F_lp29713 10) (z29737 : Int32).toNatClampNeg z29748)) = F29751 at hP hI hF st29752 sn29753
                    refine lv_aload_n hx hb dX12_claim_183 rfl (lv_at hl 4 rfl) ?_
                    refine lv_dup hx hb dX12_claim_184 rfl ?_
                    refine va_get (D := (dC, dI)) (ci := 12) (v := .int (v_lp29713 60)) (C := RX12) (T := TX12) (N := 63) hx hb hwd inA_X12 hown hK hP 0 rfl rfl 60 (by decide) (hwd _ wk_1348) (fun _ h9 => h9) rfl dX12_claim_185 ?_
                    refine my_top (v := v 60) (hf_lp29713 60 (by decide)) ?_
                    refine lv_iload hx hb dX12_claim_188 (lv_at hl 0 rfl) ?_
                    refine lv_iadd hx hb dX12_claim_190 ?_
                    refine lv_topi (fun z29754 e29755 => ?_)
                    try (have t29756 := tadd e29755 (a := (v 60).toInt) rfl (b := z29744.toInt) rfl (by omega))
                    refine va_put (D := (dC, dI)) (ci := 12) (v := .int z29754) (ty := .int) (C := RX12) (T := TX12) (N := 63) (fs := fsM_0 g v_lp29713 rc) hx hb hwd inA_X12 tyX12 tyX12_ok nmX12 hown hK hP (DM hg) hS 0 rfl rfl 60 (by decide) (hwd _ wk_1348) (fun _ h9 => h9) rfl (by decide +kernel) rfl rfl (Nat.le_of_ble_eq_true rfl) dX12_claim_191 (fun H locs hP _ hS => ?_)
                    have hP := va_P_eq (pM_60 g c _ _ _ _) hP
                    have hI := IM.put0 hI 60 z29754 rfl
                    refine lv_iload hx hb dX12_claim_194 (lv_at hl 0 rfl) ?_
                    have hP9 : va_P (dC, dI) classes (wM g c (va_up v_lp29713 60 z29754) F29751 rc) H := hP
                    exact W.iret (v := z29744) hx hb hr (fun t ht hW => ⟨⟨z29744, ((va_up v_lp29713 60 z29754), F29751, rc), rfl, ⟨hI, rfl, (frU (by decide) (frC (by decide) hf_lp29713 (fun _ _ => rfl))), hF, trivial⟩, (by show va_P _ _ _ t.heap; rw [ht]; exact hP9)⟩, hS.F ht⟩) hS.2.2 dX12_claim_196
                  · skip
                    have t29757 := cv_nle (a := z29740.toInt) rfl (b := p1.toInt) rfl c29742
                    refine lv_iload_n hx hb dX12_claim_158 rfl (lv_at hl 5 rfl) ?_
                    refine lv_goto (tgt := 169) hx hb dX12_claim_159 (by decide) ?_
                    refine lv_istore (lv' := [(6, .int p1), (5, .int z29737), (4, .int x4_lp29713), (3, .int r29712), (0, .ref (g 0)), (1, .int p0), (2, .int p1)]) hx hb dX12_claim_169 hl (by decide) rfl (fun ls hl => ?_)
                    refine lv_aload_n hx hb dX12_claim_171 rfl (lv_at hl 4 rfl) ?_
                    refine va_get (D := (dC, dI)) (ci := 12) (v := .ref (g 10)) (C := RX12) (T := TX12) (N := 63) hx hb hwd inA_X12 hown hK hP 0 rfl rfl 13 (by decide) (hwd _ wk_191) (fun _ h9 => h9) rfl dX12_claim_172 ?_
                    refine lv_iload hx hb dX12_claim_175 (lv_at hl 1 rfl) ?_
                    refine lv_dup2_11 hx hb dX12_claim_177 rfl rfl ?_
                    refine va_iald hx hb hK hP 10 9 rfl rfl (i := z29737) (vin (a := z29737.toInt) rfl (by omega)) dX12_claim_178 ?_
                    refine lv_topi (fun z29758 e29759 => ?_)
                    have tzz29758 : z29758.toInt = (F_lp29713 10 (z29737 : Int32).toNatClampNeg).toInt := congrArg Int32.toInt e29759
                    refine lv_iload hx hb dX12_claim_179 (lv_at hl 0 rfl) ?_
                    refine lv_isub hx hb dX12_claim_181 ?_
                    refine lv_topi (fun z29760 e29761 => ?_)
                    try (have t29762 := tsub e29761 (a := z29758.toInt) rfl (b := p1.toInt) rfl (by omega))
                    refine va_iast hx hb hK hP (DM hg) hS 10 9 rfl rfl (i := z29737) (x := z29760) (vin (a := z29737.toInt) rfl (by omega)) dX12_claim_182 (fun H locs hP _ hS => ?_)
                    have hP := va_P_eq (sM_10 g c _ _ _ _) hP
                    have hI := IM.store0 hI 10 (z29737 : Int32).toNatClampNeg z29760 rfl
                    have hF := frUF (k := 10) (f := upd (F_lp29713 10) (z29737 : Int32).toNatClampNeg z29760) (by decide) hF
                    have st29764 : (va_up F_lp29713 10 (upd (F_lp29713 10) (z29737 : Int32).toNatClampNeg z29760)) 10 = upd (F_lp29713 10) (z29737 : Int32).toNatClampNeg z29760 := va_up_self _ _ _
                    have sn29765 : ∀ k9, k9 ≠ 10 → (va_up F_lp29713 10 (upd (F_lp29713 10) (z29737 : Int32).toNatClampNeg z29760)) k9 = F_lp29713 k9 := fun k9 h9 => va_up_ne _ _ h9
                    have hP : va_P (dC, dI) classes (wM g c v_lp29713 (va_up F_lp29713 10 (upd (F_lp29713 10) (z29737 : Int32).toNatClampNeg z29760)) rc) H := hP
                    generalize (va_up F_lp29713 10 (upd (F_lp29713 10) (z29737 : Int32).toNatClampNeg z29760)) = F29763 at hP hI hF st29764 sn29765
                    refine lv_aload_n hx hb dX12_claim_183 rfl (lv_at hl 4 rfl) ?_
                    refine lv_dup hx hb dX12_claim_184 rfl ?_
                    refine va_get (D := (dC, dI)) (ci := 12) (v := .int (v_lp29713 60)) (C := RX12) (T := TX12) (N := 63) hx hb hwd inA_X12 hown hK hP 0 rfl rfl 60 (by decide) (hwd _ wk_1348) (fun _ h9 => h9) rfl dX12_claim_185 ?_
                    refine my_top (v := v 60) (hf_lp29713 60 (by decide)) ?_
                    refine lv_iload hx hb dX12_claim_188 (lv_at hl 0 rfl) ?_
                    refine lv_iadd hx hb dX12_claim_190 ?_
                    refine lv_topi (fun z29766 e29767 => ?_)
                    try (have t29768 := tadd e29767 (a := (v 60).toInt) rfl (b := p1.toInt) rfl (by omega))
                    refine va_put (D := (dC, dI)) (ci := 12) (v := .int z29766) (ty := .int) (C := RX12) (T := TX12) (N := 63) (fs := fsM_0 g v_lp29713 rc) hx hb hwd inA_X12 tyX12 tyX12_ok nmX12 hown hK hP (DM hg) hS 0 rfl rfl 60 (by decide) (hwd _ wk_1348) (fun _ h9 => h9) rfl (by decide +kernel) rfl rfl (Nat.le_of_ble_eq_true rfl) dX12_claim_191 (fun H locs hP _ hS => ?_)
                    have hP := va_P_eq (pM_60 g c _ _ _ _) hP
                    have hI := IM.put0 hI 60 z29766 rfl
                    refine lv_iload hx hb dX12_claim_194 (lv_at hl 0 rfl) ?_
                    have hP9 : va_P (dC, dI) classes (wM g c (va_up v_lp29713 60 z29766) F29763 rc) H := hP
                    exact W.iret (v := p1) hx hb hr (fun t ht hW => ⟨⟨p1, ((va_up v_lp29713 60 z29766), F29763, rc), rfl, ⟨hI, rfl, (frU (by decide) (frC (by decide) hf_lp29713 (fun _ _ => rfl))), hF, trivial⟩, (by show va_P _ _ _ t.heap; rw [ht]; exact hP9)⟩, hS.F ht⟩) hS.2.2 dX12_claim_196
                · skip
                  have t29769 := cv_nlt (a := z29723.toInt) rfl (b := 10) (by decide) c29726
                  refine lv_bipush (v := (-2)) hx hb dX12_claim_125 (by decide) ?_
                  have hP9 : va_P (dC, dI) classes (wM g c v_lp29713 F_lp29713 rc) H := hP
                  exact W.iret (v := (-2)) hx hb hr (fun t ht hW => ⟨⟨(-2), (v_lp29713, F_lp29713, rc), rfl, ⟨hI, rfl, (frC (by decide) hf_lp29713 (fun _ _ => rfl)), hF, trivial⟩, (by show va_P _ _ _ t.heap; rw [ht]; exact hP9)⟩, hS.F ht⟩) hS.2.2 dX12_claim_127
            · skip
              have t29770 := cv_nle (a := (v 19).toInt) rfl (b := x5_lp29713.toInt) rfl c29718
              refine lv_aload_n hx hb dX12_claim_55 rfl (lv_at hl 3 rfl) ?_
              refine va_get (D := (dC, dI)) (ci := 12) (v := .ref (g 15)) (C := RX12) (T := TX12) (N := 63) hx hb hwd inA_X12 hown hK hP 0 rfl rfl 20 (by decide) (hwd _ wk_196) (fun _ h9 => h9) rfl dX12_claim_56 ?_
              refine lv_iload hx hb dX12_claim_59 (lv_at hl 0 rfl) ?_
              refine va_iald hx hb hK hP 15 14 rfl rfl (i := x5_lp29713) (vin (a := x5_lp29713.toInt) rfl (by omega)) dX12_claim_61 ?_
              refine lv_topi (fun z29771 e29772 => ?_)
              have t29773 : 0 ≤ z29771.toInt ∧ z29771.toInt ≤ 99 := by rw [e29772]; exact hI.2 15 _ _ rfl _
              have e29772 : z29771 = F 15 (x5_lp29713 : Int32).toNatClampNeg := e29772.trans (congrFun (hF 15 (by decide)) _)
              have tzz29771 : z29771.toInt = (F 15 (x5_lp29713 : Int32).toNatClampNeg).toInt := congrArg Int32.toInt e29772
              refine lv_iload_n hx hb dX12_claim_62 rfl (lv_at hl 4 rfl) ?_
              refine lv_icmp_ne (tgt := 102) hx hb dX12_claim_63 (by decide) (fun c29774 => ?_) (fun c29774 => ?_)
              · skip
                have t29775 := cv_ne (a := z29771.toInt) rfl (b := p0.toInt) rfl c29774
                obtain ⟨z29776, e29777⟩ : ∃ y : Int32, y = x5_lp29713 + 1 := ⟨_, rfl⟩
                try (have t29778 := tadd e29777 rfl (b := 1) (by decide) (by omega))
                refine lv_iinc (v := z29776) (lv' := [(5, .int z29776), (4, .int x4_lp29713), (3, .int r29712), (0, .ref (g 0)), (1, .int p0), (2, .int p1)]) hx hb dX12_claim_102 hl (k := 0) rfl (by rw [e29777]; rfl) (by decide) rfl (fun ls hl => ?_)
                refine lv_goto (tgt := 46) hx hb dX12_claim_105 (by decide) ?_
                exact ih_lp29713 z29776 x4_lp29713 v_lp29713 F_lp29713 _ _ _ (by omega) (by omega) (by omega) (by omega) hf_lp29713 hI hF hP hS (lv_sub hl [0, 1, 2, 3, 4, 5] rfl)
              · skip
                have t29779 := cv_eq (a := z29771.toInt) rfl (b := p0.toInt) rfl c29774
                refine lv_iload hx hb dX12_claim_66 (lv_at hl 0 rfl) ?_
                refine lv_iload_n hx hb dX12_claim_68 rfl (lv_at hl 2 rfl) ?_
                refine lv_icmp_eq (tgt := 102) hx hb dX12_claim_69 (by decide) (fun c29780 => ?_) (fun c29780 => ?_)
                · skip
                  have t29781 := cv_eq (a := x5_lp29713.toInt) rfl (b := r29712.toInt) rfl c29780
                  obtain ⟨z29782, e29783⟩ : ∃ y : Int32, y = x5_lp29713 + 1 := ⟨_, rfl⟩
                  try (have t29784 := tadd e29783 rfl (b := 1) (by decide) (by omega))
                  refine lv_iinc (v := z29782) (lv' := [(5, .int z29782), (4, .int x4_lp29713), (3, .int r29712), (0, .ref (g 0)), (1, .int p0), (2, .int p1)]) hx hb dX12_claim_102 hl (k := 0) rfl (by rw [e29783]; rfl) (by decide) rfl (fun ls hl => ?_)
                  refine lv_goto (tgt := 46) hx hb dX12_claim_105 (by decide) ?_
                  exact ih_lp29713 z29782 x4_lp29713 v_lp29713 F_lp29713 _ _ _ (by omega) (by omega) (by omega) (by omega) hf_lp29713 hI hF hP hS (lv_sub hl [0, 1, 2, 3, 4, 5] rfl)
                · skip
                  have t29785 := cv_ne (a := x5_lp29713.toInt) rfl (b := r29712.toInt) rfl c29780
                  refine lv_aload_n hx hb dX12_claim_72 rfl (lv_at hl 3 rfl) ?_
                  refine lv_iload hx hb dX12_claim_73 (lv_at hl 0 rfl) ?_
                  refine lv_iload_n hx hb dX12_claim_75 rfl (lv_at hl 2 rfl) ?_
                  refine va_calli (va_runV (As := [.int x5_lp29713, .int r29712]) (rest := []) ⟨hx, hb, hml, hown, hwd⟩ (c_X12_isAhead l dC dI g c adK adV v_lp29713 F_lp29713 rc H.size x5_lp29713 r29712 hg hI (by omega) (by omega)) (cwV 2 hwd (gV wk_509 wk_506 wk_507 wk_508 wk_5) rfl rfl rfl (by decide +kernel) ⟨Nat.le_of_ble_eq_true rfl, Nat.le_of_ble_eq_true rfl⟩) ⟨PM.blind, va_recv hK hP (ci := 12) (q0 := 0) rfl rfl, fun U hU hW => ⟨rfl, PM.at hK hE hP hS hU hW⟩⟩ rfl rfl hl.1 rfl (lv_room (Nat.le_of_ble_eq_true rfl)) dX12_claim_76 ⟨Nat.le_of_ble_eq_true rfl, Nat.le_of_ble_eq_true rfl⟩) hS (fun q _ h => (freeM hS) q h) (freeM hS) (fun r29786 u t H1 locs ht hvm hw hB hz1 hk1 hS => ?_)
                  unfold BM at hB
                  rw [ht] at hB
                  have hP : va_P (dC, dI) classes (wM g c v_lp29713 F_lp29713 rc) H1 := hB
                  have hw : (r29786.toInt = 1 ∧ ((F_lp29713 17 x5_lp29713.toNatClampNeg).toInt < (F_lp29713 17 r29712.toNatClampNeg).toInt ∨ ((F_lp29713 17 x5_lp29713.toNatClampNeg).toInt = (F_lp29713 17 r29712.toNatClampNeg).toInt ∧ x5_lp29713.toInt < r29712.toInt))) ∨ (r29786.toInt = 0 ∧ ¬ ((F_lp29713 17 x5_lp29713.toNatClampNeg).toInt < (F_lp29713 17 r29712.toNatClampNeg).toInt ∨ ((F_lp29713 17 x5_lp29713.toNatClampNeg).toInt = (F_lp29713 17 r29712.toNatClampNeg).toInt ∧ x5_lp29713.toInt < r29712.toInt))) := hw
                  have hw_r29786 := hw
                  generalize H1 = H at hP hS ⊢
                  refine lv_if_eq (tgt := 102) hx hb dX12_claim_79 (by decide) (fun c29787 => ?_) (fun c29787 => ?_)
                  · skip
                    have t29788 := cv_eq (a := r29786.toInt) rfl (b := 0) (by decide) c29787
                    obtain ⟨z29789, e29790⟩ : ∃ y : Int32, y = x5_lp29713 + 1 := ⟨_, rfl⟩
                    try (have t29791 := tadd e29790 rfl (b := 1) (by decide) (by omega))
                    refine lv_iinc (v := z29789) (lv' := [(5, .int z29789), (4, .int x4_lp29713), (3, .int r29712), (0, .ref (g 0)), (1, .int p0), (2, .int p1)]) hx hb dX12_claim_102 hl (k := 0) rfl (by rw [e29790]; rfl) (by decide) rfl (fun ls hl => ?_)
                    refine lv_goto (tgt := 46) hx hb dX12_claim_105 (by decide) ?_
                    exact ih_lp29713 z29789 x4_lp29713 v_lp29713 F_lp29713 _ _ _ (by omega) (by omega) (by omega) (by omega) hf_lp29713 hI hF hP hS (lv_sub hl [0, 1, 2, 3, 4, 5] rfl)
                  · skip
                    have t29792 := cv_ne (a := r29786.toInt) rfl (b := 0) (by decide) c29787
                    refine lv_iload hx hb dX12_claim_82 (lv_at hl 1 rfl) ?_
                    refine lv_if_lt (tgt := 98) hx hb dX12_claim_84 (by decide) (fun c29793 => ?_) (fun c29793 => ?_)
                    · skip
                      have t29794 := cv_lt (a := x4_lp29713.toInt) rfl (b := 0) (by decide) c29793
                      refine lv_iload hx hb dX12_claim_98 (lv_at hl 0 rfl) ?_
                      refine lv_istore (lv' := [(4, .int x5_lp29713), (5, .int x5_lp29713), (3, .int r29712), (0, .ref (g 0)), (1, .int p0), (2, .int p1)]) hx hb dX12_claim_100 hl (by decide) rfl (fun ls hl => ?_)
                      obtain ⟨z29795, e29796⟩ : ∃ y : Int32, y = x5_lp29713 + 1 := ⟨_, rfl⟩
                      try (have t29797 := tadd e29796 rfl (b := 1) (by decide) (by omega))
                      refine lv_iinc (v := z29795) (lv' := [(5, .int z29795), (4, .int x5_lp29713), (3, .int r29712), (0, .ref (g 0)), (1, .int p0), (2, .int p1)]) hx hb dX12_claim_102 hl (k := 1) rfl (by rw [e29796]; rfl) (by decide) rfl (fun ls hl => ?_)
                      refine lv_goto (tgt := 46) hx hb dX12_claim_105 (by decide) ?_
                      exact ih_lp29713 z29795 x5_lp29713 v_lp29713 F_lp29713 _ _ _ (by omega) (by omega) (by omega) (by omega) hf_lp29713 hI hF hP hS (lv_sub hl [0, 1, 2, 3, 4, 5] rfl)
                    · skip
                      have t29798 := cv_nlt (a := x4_lp29713.toInt) rfl (b := 0) (by decide) c29793
                      refine lv_aload_n hx hb dX12_claim_87 rfl (lv_at hl 3 rfl) ?_
                      refine lv_iload hx hb dX12_claim_88 (lv_at hl 1 rfl) ?_
                      refine lv_iload hx hb dX12_claim_90 (lv_at hl 0 rfl) ?_
                      refine va_calli (va_runV (As := [.int x4_lp29713, .int x5_lp29713]) (rest := []) ⟨hx, hb, hml, hown, hwd⟩ (c_X12_isAhead l dC dI g c adK adV v_lp29713 F_lp29713 rc H.size x4_lp29713 x5_lp29713 hg hI (by omega) (by omega)) (cwV 2 hwd (gV wk_509 wk_506 wk_507 wk_508 wk_5) rfl rfl rfl (by decide +kernel) ⟨Nat.le_of_ble_eq_true rfl, Nat.le_of_ble_eq_true rfl⟩) ⟨PM.blind, va_recv hK hP (ci := 12) (q0 := 0) rfl rfl, fun U hU hW => ⟨rfl, PM.at hK hE hP hS hU hW⟩⟩ rfl rfl hl.1 rfl (lv_room (Nat.le_of_ble_eq_true rfl)) dX12_claim_92 ⟨Nat.le_of_ble_eq_true rfl, Nat.le_of_ble_eq_true rfl⟩) hS (fun q _ h => (freeM hS) q h) (freeM hS) (fun r29799 u t H1 locs ht hvm hw hB hz1 hk1 hS => ?_)
                      unfold BM at hB
                      rw [ht] at hB
                      have hP : va_P (dC, dI) classes (wM g c v_lp29713 F_lp29713 rc) H1 := hB
                      have hw : (r29799.toInt = 1 ∧ ((F_lp29713 17 x4_lp29713.toNatClampNeg).toInt < (F_lp29713 17 x5_lp29713.toNatClampNeg).toInt ∨ ((F_lp29713 17 x4_lp29713.toNatClampNeg).toInt = (F_lp29713 17 x5_lp29713.toNatClampNeg).toInt ∧ x4_lp29713.toInt < x5_lp29713.toInt))) ∨ (r29799.toInt = 0 ∧ ¬ ((F_lp29713 17 x4_lp29713.toNatClampNeg).toInt < (F_lp29713 17 x5_lp29713.toNatClampNeg).toInt ∨ ((F_lp29713 17 x4_lp29713.toNatClampNeg).toInt = (F_lp29713 17 x5_lp29713.toNatClampNeg).toInt ∧ x4_lp29713.toInt < x5_lp29713.toInt))) := hw
                      have hw_r29799 := hw
                      generalize H1 = H at hP hS ⊢
                      refine lv_if_eq (tgt := 102) hx hb dX12_claim_95 (by decide) (fun c29800 => ?_) (fun c29800 => ?_)
                      · skip
                        have t29801 := cv_eq (a := r29799.toInt) rfl (b := 0) (by decide) c29800
                        obtain ⟨z29802, e29803⟩ : ∃ y : Int32, y = x5_lp29713 + 1 := ⟨_, rfl⟩
                        try (have t29804 := tadd e29803 rfl (b := 1) (by decide) (by omega))
                        refine lv_iinc (v := z29802) (lv' := [(5, .int z29802), (4, .int x4_lp29713), (3, .int r29712), (0, .ref (g 0)), (1, .int p0), (2, .int p1)]) hx hb dX12_claim_102 hl (k := 0) rfl (by rw [e29803]; rfl) (by decide) rfl (fun ls hl => ?_)
                        refine lv_goto (tgt := 46) hx hb dX12_claim_105 (by decide) ?_
                        exact ih_lp29713 z29802 x4_lp29713 v_lp29713 F_lp29713 _ _ _ (by omega) (by omega) (by omega) (by omega) hf_lp29713 hI hF hP hS (lv_sub hl [0, 1, 2, 3, 4, 5] rfl)
                      · skip
                        have t29805 := cv_ne (a := r29799.toInt) rfl (b := 0) (by decide) c29800
                        refine lv_iload hx hb dX12_claim_98 (lv_at hl 0 rfl) ?_
                        refine lv_istore (lv' := [(4, .int x5_lp29713), (5, .int x5_lp29713), (3, .int r29712), (0, .ref (g 0)), (1, .int p0), (2, .int p1)]) hx hb dX12_claim_100 hl (by decide) rfl (fun ls hl => ?_)
                        obtain ⟨z29806, e29807⟩ : ∃ y : Int32, y = x5_lp29713 + 1 := ⟨_, rfl⟩
                        try (have t29808 := tadd e29807 rfl (b := 1) (by decide) (by omega))
                        refine lv_iinc (v := z29806) (lv' := [(5, .int z29806), (4, .int x5_lp29713), (3, .int r29712), (0, .ref (g 0)), (1, .int p0), (2, .int p1)]) hx hb dX12_claim_102 hl (k := 1) rfl (by rw [e29807]; rfl) (by decide) rfl (fun ls hl => ?_)
                        refine lv_goto (tgt := 46) hx hb dX12_claim_105 (by decide) ?_
                        exact ih_lp29713 z29806 x5_lp29713 v_lp29713 F_lp29713 _ _ _ (by omega) (by omega) (by omega) (by omega) hf_lp29713 hI hF hP hS (lv_sub hl [0, 1, 2, 3, 4, 5] rfl)
        obtain ⟨n9, hn9⟩ : ∃ n : Nat, 2147483648 - 0 ≤ (n : Int) := ⟨((2147483648 - 0 : Int)).toNat, by omega⟩
        exact lp29713 n9 0 (-1) v F H _ ls (by have : (0 : Int32).toInt = 0 := (by decide); have : ((-1) : Int32).toInt = (-1) := (by decide); omega) (by have : (0 : Int32).toInt = 0 := (by decide); have : ((-1) : Int32).toInt = (-1) := (by decide); omega) (by have : (0 : Int32).toInt = 0 := (by decide); have : ((-1) : Int32).toInt = (-1) := (by decide); omega) (by have : (0 : Int32).toInt = 0 := (by decide); have : ((-1) : Int32).toInt = (-1) := (by decide); omega) (fun _ _ => rfl) hI hF hP hS hl
      · skip
        have t29809 := cv_ne (a := z29706.toInt) rfl (b := 10) (by decide) c29709
        refine lv_bipush (v := (-2)) hx hb dX12_claim_31 (by decide) ?_
        have hP9 : va_P (dC, dI) classes (wM g c v F rc) H := hP
        exact W.iret (v := (-2)) hx hb hr (fun t ht hW => ⟨⟨(-2), (v, F, rc), rfl, ⟨hI, rfl, (fun _ _ => rfl), hF, trivial⟩, (by show va_P _ _ _ t.heap; rw [ht]; exact hP9)⟩, hS.F ht⟩) hS.2.2 dX12_claim_33
    · skip
      have t29810 := cv_eq (a := r29701.toInt) rfl (b := 0) (by decide) c29704
      refine lv_iconst (v := (-1)) hx hb dX12_claim_18 (by decide) ?_
      have hP9 : va_P (dC, dI) classes (wM g c v F rc) H := hP
      exact W.iret (v := (-1)) hx hb hr (fun t ht hW => ⟨⟨(-1), (v, F, rc), rfl, ⟨hI, rfl, (fun _ _ => rfl), hF, trivial⟩, (by show va_P _ _ _ t.heap; rw [ht]; exact hP9)⟩, hS.F ht⟩) hS.2.2 dX12_claim_19
