set_option maxHeartbeats 8000000 in
set_option maxRecDepth 100000 in
theorem c_X12_lacksOf (l : Launch) (dC : Nat → ClassId) (dI : Nat → Nat → Nat) (g : Nat → Nat) (c : Nat → ClassId) (adK adV : Nat → Nat) (v : Nat → Int32) (F : Nat → Nat → Int32) (rc sz : Nat) (p0 : Int32) (p1 : Int32) (p2 : Int32) (p3 : Int32) (hg : injM g) (hI : IM v F) (h0 : 0 ≤ p0.toInt ∧ p0.toInt ≤ 9) (h1 : 0 ≤ p1.toInt ∧ p1.toInt ≤ 30) (hL : JL (v 31) (F 28) (F 29) (F 27)) : Met l yX12_lacksOf (Cond.code yX12_lacksOf cX12_lacksOf 11 (some .int) :: wA) ({ frames := 5, cells := 0, slots := 0, locals := 200 }) (va_Pc [.ref (g 0), .int p0, .int p1, .int p2, .int p3] (PM dC dI g c adK adV v F rc sz)) (va_Qi (fun (r : Int32) (u : StM) => IM u.1 u.2.1 ∧ u.2.2 = rc ∧ (∀ k, k ∉ ([] : List Nat) → u.1 k = v k) ∧ (∀ k, k ∉ ([30, 31] : List Nat) → u.2.1 k = F k) ∧ True) (BM dC dI g c) (AM g sz)) 0 0 (AM g sz) := by
  refine Met.ofW (cc := cX12_lacksOf) (maxL := 11) (ret := (some .int)) (by decide) rfl ?_
  intro p e s m args below meth c0 s₁ B hml hv
  obtain ⟨rfl, hsz, hP, hK, hE⟩ := hv
  have hx := B.exec
  have hb := B.bytes
  have hr := B.returns
  have hts := atoms_spec (ws := Cond.code yX12_lacksOf cX12_lacksOf 11 (some .int) :: wA) B.pre
  have hwd : ∀ w ∈ wA, w.before _ s = true := fun w h => hts w (List.mem_cons_of_mem _ h)
  have hown : s.vm.findClass RX12 = some m.cls := findClass_of_methodNamed B.named
  have hlocks := B.notSynchronized
  subst hsz
  have hl := lv_entry ([.ref (g 0), .int p0, .int p1, .int p2, .int p3]) (n := 11) (Nat.le_of_ble_eq_true rfl)
  rw [lg_entry_eq]
  generalize (lg_sl ([.ref (g 0), .int p0, .int p1, .int p2, .int p3]) ++ List.replicate (11 - (lg_sl ([.ref (g 0), .int p0, .int p1, .int p2, .int p3])).length) Slot.unset).toArray = ls at hl ⊢
  have hl : lv_has ls 11 [(0, .ref (g 0)), (1, .int p0), (2, .int p1), (3, .int p2), (4, .int p3)] := hl
  obtain ⟨H, eH⟩ : ∃ z, z = s.heap := ⟨_, rfl⟩
  have hP : va_P (dC, dI) classes (wM g c v F rc) H := by rw [eH]; exact hP
  have hS : va_S (AM g s.heap.size) s.heap H [] := by rw [eH]; exact va_S.rf
  refine my_heap eH ?_
  have hF : ∀ k, k ∉ ([30, 31] : List Nat) → F k = F k := fun _ _ => rfl
  have rp0 := i32_rng p0
  have rp1 := i32_rng p1
  have rp2 := i32_rng p2
  have rp3 := i32_rng p3
  have hb31 : 0 ≤ (v 31).toInt ∧ (v 31).toInt ≤ 10 := hI.1 31 _ _ rfl
  refine lv_bipush (v := 32) hx hb dX12_lacksOf_0 (by decide) ?_
  refine lv_iload_n hx hb dX12_lacksOf_2 rfl (lv_at hl 1 rfl) ?_
  refine lv_imul hx hb dX12_lacksOf_3 ?_
  refine lv_topi (fun z27656 e27657 => ?_)
  try (have t27658 := tmul e27657 (a := 32) (by decide) (b := p0.toInt) rfl (by omega))
  refine lv_iload_n hx hb dX12_lacksOf_4 rfl (lv_at hl 2 rfl) ?_
  refine lv_iadd hx hb dX12_lacksOf_5 ?_
  refine lv_topi (fun z27659 e27660 => ?_)
  try (have t27661 := tadd e27660 (a := z27656.toInt) rfl (b := p1.toInt) rfl (by omega))
  refine lv_istore (lv' := [(5, .int z27659), (0, .ref (g 0)), (1, .int p0), (2, .int p1), (3, .int p2), (4, .int p3)]) hx hb dX12_lacksOf_6 hl (by decide) rfl (fun ls hl => ?_)
  refine lv_aload_n hx hb dX12_lacksOf_8 rfl (lv_at hl 1 rfl) ?_
  refine va_get (D := (dC, dI)) (ci := 12) (v := .ref (g 38)) (C := RX12) (T := TX12) (N := 63) hx hb hwd inA_X12 hown hK hP 0 rfl rfl 52 (by decide) (hwd _ wk_220) (fun _ h9 => h9) rfl dX12_lacksOf_9 ?_
  refine lv_iload hx hb dX12_lacksOf_12 (lv_at hl 0 rfl) ?_
  refine va_iald hx hb hK hP 38 37 rfl rfl (i := z27659) (vin (a := z27659.toInt) rfl (by omega)) dX12_lacksOf_14 ?_
  refine lv_topi (fun z27662 e27663 => ?_)
  refine lv_istore (lv' := [(6, .int z27662), (5, .int z27659), (0, .ref (g 0)), (1, .int p0), (2, .int p1), (3, .int p2), (4, .int p3)]) hx hb dX12_lacksOf_15 hl (by decide) rfl (fun ls hl => ?_)
  refine lv_iconst (v := 0) hx hb dX12_lacksOf_17 (by decide) ?_
  refine lv_istore (lv' := [(7, .int 0), (6, .int z27662), (5, .int z27659), (0, .ref (g 0)), (1, .int p0), (2, .int p1), (3, .int p2), (4, .int p3)]) hx hb dX12_lacksOf_18 hl (by decide) rfl (fun ls hl => ?_)
  refine lv_iload hx hb dX12_lacksOf_20 (lv_at hl 1 rfl) ?_
  by_cases hlo27664 : z27662.toInt < 100
  · refine lv_tableOut (tgt := 431) hx hb dX12_lacksOf_22 (Or.inl hlo27664) (by decide) ?_
    refine lv_aload_n hx hb dX12_lacksOf_431 rfl (lv_at hl 3 rfl) ?_
    refine lv_iload_n hx hb dX12_lacksOf_432 rfl (lv_at hl 4 rfl) ?_
    refine lv_iload_n hx hb dX12_lacksOf_433 rfl (lv_at hl 6 rfl) ?_
    refine va_calli (va_runV (As := [.int p0, .int p2]) (rest := []) ⟨hx, hb, hml, hown, hwd⟩ (c_X12_late l dC dI g c adK adV v F rc H.size p0 p2 hg hI (by omega)) (cwV 2 hwd (gV wk_1213 wk_1210 wk_1211 wk_1212 wk_5) rfl rfl rfl (by decide +kernel) ⟨Nat.le_of_ble_eq_true rfl, Nat.le_of_ble_eq_true rfl⟩) ⟨PM.blind, va_recv hK hP (ci := 12) (q0 := 0) rfl rfl, fun U hU hW => ⟨rfl, PM.at hK hE hP hS hU hW⟩⟩ rfl rfl hl.1 rfl (lv_room (Nat.le_of_ble_eq_true rfl)) dX12_lacksOf_434 ⟨Nat.le_of_ble_eq_true rfl, Nat.le_of_ble_eq_true rfl⟩) hS (fun q _ h => (freeM hS) q h) (freeM hS) (fun r27666 u t H1 locs ht hvm hw hB hz1 hk1 hS => ?_)
    unfold BM at hB
    rw [ht] at hB
    have hP : va_P (dC, dI) classes (wM g c v F rc) H1 := hB
    generalize H1 = H at hP hS ⊢
    have rr_r27666 := i32_rng r27666
    have hP9 : va_P (dC, dI) classes (wM g c v F rc) H := hP
    exact W.iret (v := r27666) hx hb hr (fun t ht hW => ⟨⟨r27666, (v, F, rc), rfl, ⟨hI, rfl, (fun _ _ => rfl), hF, trivial⟩, (by show va_P _ _ _ t.heap; rw [ht]; exact hP9)⟩, hS.F ht⟩) hS.2.2 dX12_lacksOf_437
  by_cases hhi27665 : 111 < z27662.toInt
  · refine lv_tableOut (tgt := 431) hx hb dX12_lacksOf_22 (Or.inr hhi27665) (by decide) ?_
    refine lv_aload_n hx hb dX12_lacksOf_431 rfl (lv_at hl 3 rfl) ?_
    refine lv_iload_n hx hb dX12_lacksOf_432 rfl (lv_at hl 4 rfl) ?_
    refine lv_iload_n hx hb dX12_lacksOf_433 rfl (lv_at hl 6 rfl) ?_
    refine va_calli (va_runV (As := [.int p0, .int p2]) (rest := []) ⟨hx, hb, hml, hown, hwd⟩ (c_X12_late l dC dI g c adK adV v F rc H.size p0 p2 hg hI (by omega)) (cwV 2 hwd (gV wk_1213 wk_1210 wk_1211 wk_1212 wk_5) rfl rfl rfl (by decide +kernel) ⟨Nat.le_of_ble_eq_true rfl, Nat.le_of_ble_eq_true rfl⟩) ⟨PM.blind, va_recv hK hP (ci := 12) (q0 := 0) rfl rfl, fun U hU hW => ⟨rfl, PM.at hK hE hP hS hU hW⟩⟩ rfl rfl hl.1 rfl (lv_room (Nat.le_of_ble_eq_true rfl)) dX12_lacksOf_434 ⟨Nat.le_of_ble_eq_true rfl, Nat.le_of_ble_eq_true rfl⟩) hS (fun q _ h => (freeM hS) q h) (freeM hS) (fun r27667 u t H1 locs ht hvm hw hB hz1 hk1 hS => ?_)
    unfold BM at hB
    rw [ht] at hB
    have hP : va_P (dC, dI) classes (wM g c v F rc) H1 := hB
    generalize H1 = H at hP hS ⊢
    have rr_r27667 := i32_rng r27667
    have hP9 : va_P (dC, dI) classes (wM g c v F rc) H := hP
    exact W.iret (v := r27667) hx hb hr (fun t ht hW => ⟨⟨r27667, (v, F, rc), rfl, ⟨hI, rfl, (fun _ _ => rfl), hF, trivial⟩, (by show va_P _ _ _ t.heap; rw [ht]; exact hP9)⟩, hS.F ht⟩) hS.2.2 dX12_lacksOf_437
  rcases (show z27662.toInt = 100 ∨ z27662.toInt = 101 ∨ z27662.toInt = 102 ∨ z27662.toInt = 103 ∨ z27662.toInt = 104 ∨ z27662.toInt = 105 ∨ z27662.toInt = 106 ∨ z27662.toInt = 107 ∨ z27662.toInt = 108 ∨ z27662.toInt = 109 ∨ z27662.toInt = 110 ∨ z27662.toInt = 111 by omega) with hk | hk | hk | hk | hk | hk | hk | hk | hk | hk | hk | hk
  · refine lv_tableIn (off := 62) (tgt := 84) hx hb dX12_lacksOf_22 hlo27664 hhi27665 (by rw [hk]; decide) (by decide) ?_
    refine lv_iload hx hb dX12_lacksOf_84 (lv_at hl 1 rfl) ?_
    refine lv_bipush (v := 104) hx hb dX12_lacksOf_86 (by decide) ?_
    refine lv_icmp_ne (tgt := 95) hx hb dX12_lacksOf_88 (by decide) (fun c27668 => ?_) (fun c27668 => ?_)
    · skip
      have t27669 := cv_ne (a := z27662.toInt) rfl (b := 104) (by decide) c27668
      refine lv_iload hx hb dX12_lacksOf_95 (lv_at hl 1 rfl) ?_
      refine lv_bipush (v := 108) hx hb dX12_lacksOf_97 (by decide) ?_
      refine lv_icmp_ne (tgt := 106) hx hb dX12_lacksOf_99 (by decide) (fun c27670 => ?_) (fun c27670 => ?_)
      · skip
        have t27671 := cv_ne (a := z27662.toInt) rfl (b := 108) (by decide) c27670
        refine lv_iconst (v := 2) hx hb dX12_lacksOf_106 (by decide) ?_
        refine lv_istore (lv' := [(8, .int 2), (7, .int 0), (6, .int z27662), (5, .int z27659), (0, .ref (g 0)), (1, .int p0), (2, .int p1), (3, .int p2), (4, .int p3)]) hx hb dX12_lacksOf_107 hl (by decide) rfl (fun ls hl => ?_)
        refine lv_iconst (v := 0) hx hb dX12_lacksOf_109 (by decide) ?_
        refine lv_istore (lv' := [(9, .int 0), (8, .int 2), (7, .int 0), (6, .int z27662), (5, .int z27659), (0, .ref (g 0)), (1, .int p0), (2, .int p1), (3, .int p2), (4, .int p3)]) hx hb dX12_lacksOf_110 hl (by decide) rfl (fun ls hl => ?_)
        have lp27672 : ∀ (n : Nat) (x9_lp27672 : Int32) (x7_lp27672 : Int32) (v_lp27672 : Nat → Int32) (F_lp27672 : Nat → Nat → Int32) (H : Heap) (locs : List Loc) (ls : Array Slot), (0 ≤ x9_lp27672.toInt) → (2147483648 - x9_lp27672.toInt ≤ (n : Int)) → (∀ k, k ∉ ([] : List Nat) → v_lp27672 k = v k) → IM v_lp27672 F_lp27672 → (∀ k, k ∉ ([30, 31] : List Nat) → F_lp27672 k = F k) → va_P (dC, dI) classes (wM g c v_lp27672 F_lp27672 rc) H → va_S (AM g s.heap.size) s.heap H locs → lv_has ls 11 [(9, .int x9_lp27672), (8, .int 2), (7, .int x7_lp27672), (6, .int z27662), (5, .int z27659), (0, .ref (g 0)), (1, .int p0), (2, .int p1), (3, .int p2), (4, .int p3)] → W p l e (headSpec (Cond.code yX12_lacksOf cX12_lacksOf 11 (some .int) :: wA) ({ frames := 5, cells := 0, slots := 0, locals := 200 })).room s m ([.ref (g 0), .int p0, .int p1, .int p2, .int p3] : List Value).toArray below meth c0 H locs 0 0 (MQ below (va_Qi (fun (r : Int32) (u : StM) => IM u.1 u.2.1 ∧ u.2.2 = rc ∧ (∀ k, k ∉ ([] : List Nat) → u.1 k = v k) ∧ (∀ k, k ∉ ([30, 31] : List Nat) → u.2.1 k = F k) ∧ True) (BM dC dI g c) (AM g s.heap.size)) ([.ref (g 0), .int p0, .int p1, .int p2, .int p3] : List Value).toArray s 0 0 (AM g s.heap.size)) (F0 m 112 ls []) := by
          intro n
          induction n with
          | zero =>
            intro x9_lp27672 x7_lp27672 v_lp27672 F_lp27672 H locs ls t27673 hm hf_lp27672 hI hF hP hS hl
            exfalso
            have := i32_rng x9_lp27672
            have := i32_rng x7_lp27672
            have hI1 := hI.1
            omega
          | succ n ih_lp27672 =>
            intro x9_lp27672 x7_lp27672 v_lp27672 F_lp27672 H locs ls t27673 hm hf_lp27672 hI hF hP hS hl
            have rx9_lp27672 := i32_rng x9_lp27672
            have rx7_lp27672 := i32_rng x7_lp27672
            refine lv_iload hx hb dX12_lacksOf_112 (lv_at hl 0 rfl) ?_
            refine lv_aload_n hx hb dX12_lacksOf_114 rfl (lv_at hl 5 rfl) ?_
            refine va_get (D := (dC, dI)) (ci := 12) (v := .int (v_lp27672 14)) (C := RX12) (T := TX12) (N := 63) hx hb hwd inA_X12 hown hK hP 0 rfl rfl 14 (by decide) (hwd _ wk_318) (fun _ h9 => h9) rfl dX12_lacksOf_115 ?_
            refine my_top (v := v 14) (hf_lp27672 14 (by decide)) ?_
            have t27674 : 0 ≤ (v 14).toInt ∧ (v 14).toInt ≤ 100 := by have h9 := hI.1 14 _ _ rfl; rw [show v_lp27672 14 = v 14 from hf_lp27672 14 (by decide)] at h9; exact h9
            refine lv_icmp_ge (tgt := 211) hx hb dX12_lacksOf_118 (by decide) (fun c27675 => ?_) (fun c27675 => ?_)
            · skip
              have t27676 := cv_le (a := (v 14).toInt) rfl (b := x9_lp27672.toInt) rfl c27675
              refine lv_iload hx hb dX12_lacksOf_211 (lv_at hl 2 rfl) ?_
              have hP9 : va_P (dC, dI) classes (wM g c v_lp27672 F_lp27672 rc) H := hP
              exact W.iret (v := x7_lp27672) hx hb hr (fun t ht hW => ⟨⟨x7_lp27672, (v_lp27672, F_lp27672, rc), rfl, ⟨hI, rfl, (frC (by decide) hf_lp27672 (fun _ _ => rfl)), hF, trivial⟩, (by show va_P _ _ _ t.heap; rw [ht]; exact hP9)⟩, hS.F ht⟩) hS.2.2 dX12_lacksOf_213
            · skip
              have t27677 := cv_nle (a := (v 14).toInt) rfl (b := x9_lp27672.toInt) rfl c27675
              refine lv_aload_n hx hb dX12_lacksOf_121 rfl (lv_at hl 5 rfl) ?_
              refine va_get (D := (dC, dI)) (ci := 12) (v := .ref (g 42)) (C := RX12) (T := TX12) (N := 63) hx hb hwd inA_X12 hown hK hP 0 rfl rfl 56 (by decide) (hwd _ wk_224) (fun _ h9 => h9) rfl dX12_lacksOf_122 ?_
              refine lv_iload hx hb dX12_lacksOf_125 (lv_at hl 0 rfl) ?_
              refine va_zald hx hb hK hP 42 41 rfl rfl (i := x9_lp27672) (vin (a := x9_lp27672.toInt) rfl (by omega)) dX12_lacksOf_127 ?_
              refine lv_topi (fun z27678 e27679 => ?_)
              have e27679 : z27678 = F 42 (x9_lp27672 : Int32).toNatClampNeg := e27679.trans (congrFun (hF 42 (by decide)) _)
              refine lv_if_eq (tgt := 205) hx hb dX12_lacksOf_128 (by decide) (fun c27680 => ?_) (fun c27680 => ?_)
              · skip
                have t27681 := cv_eq (a := z27678.toInt) rfl (b := 0) (by decide) c27680
                obtain ⟨z27682, e27683⟩ : ∃ y : Int32, y = x9_lp27672 + 1 := ⟨_, rfl⟩
                try (have t27684 := tadd e27683 rfl (b := 1) (by decide) (by omega))
                refine lv_iinc (v := z27682) (lv' := [(9, .int z27682), (8, .int 2), (7, .int x7_lp27672), (6, .int z27662), (5, .int z27659), (0, .ref (g 0)), (1, .int p0), (2, .int p1), (3, .int p2), (4, .int p3)]) hx hb dX12_lacksOf_205 hl (k := 0) rfl (by rw [e27683]; rfl) (by decide) rfl (fun ls hl => ?_)
                refine lv_goto (tgt := 112) hx hb dX12_lacksOf_208 (by decide) ?_
                exact ih_lp27672 z27682 x7_lp27672 v_lp27672 F_lp27672 _ _ _ (by omega) (by omega) hf_lp27672 hI hF hP hS (lv_sub hl [0, 1, 2, 3, 4, 5, 6, 7, 8, 9] rfl)
              · skip
                have t27685 := cv_ne (a := z27678.toInt) rfl (b := 0) (by decide) c27680
                refine lv_aload_n hx hb dX12_lacksOf_131 rfl (lv_at hl 5 rfl) ?_
                refine va_get (D := (dC, dI)) (ci := 12) (v := .ref (g 11)) (C := RX12) (T := TX12) (N := 63) hx hb hwd inA_X12 hown hK hP 0 rfl rfl 15 (by decide) (hwd _ wk_192) (fun _ h9 => h9) rfl dX12_lacksOf_132 ?_
                refine lv_iload hx hb dX12_lacksOf_135 (lv_at hl 0 rfl) ?_
                refine va_iald hx hb hK hP 11 10 rfl rfl (i := x9_lp27672) (vin (a := x9_lp27672.toInt) rfl (by omega)) dX12_lacksOf_137 ?_
                refine lv_topi (fun z27686 e27687 => ?_)
                have t27688 : 0 ≤ z27686.toInt ∧ z27686.toInt ≤ 9 := by rw [e27687]; exact hI.2 11 _ _ rfl _
                have e27687 : z27686 = F 11 (x9_lp27672 : Int32).toNatClampNeg := e27687.trans (congrFun (hF 11 (by decide)) _)
                refine lv_aload_n hx hb dX12_lacksOf_138 rfl (lv_at hl 5 rfl) ?_
                refine va_get (D := (dC, dI)) (ci := 12) (v := .ref (g 39)) (C := RX12) (T := TX12) (N := 63) hx hb hwd inA_X12 hown hK hP 0 rfl rfl 53 (by decide) (hwd _ wk_221) (fun _ h9 => h9) rfl dX12_lacksOf_139 ?_
                refine lv_iload hx hb dX12_lacksOf_142 (lv_at hl 4 rfl) ?_
                refine va_iald hx hb hK hP 39 38 rfl rfl (i := z27659) (vin (a := z27659.toInt) rfl (by omega)) dX12_lacksOf_144 ?_
                refine lv_topi (fun z27689 e27690 => ?_)
                have e27690 : z27689 = F 39 (z27659 : Int32).toNatClampNeg := e27690.trans (congrFun (hF 39 (by decide)) _)
                refine lv_icmp_ne (tgt := 205) hx hb dX12_lacksOf_145 (by decide) (fun c27691 => ?_) (fun c27691 => ?_)
                · skip
                  have t27692 := cv_ne (a := z27686.toInt) rfl (b := z27689.toInt) rfl c27691
                  obtain ⟨z27693, e27694⟩ : ∃ y : Int32, y = x9_lp27672 + 1 := ⟨_, rfl⟩
                  try (have t27695 := tadd e27694 rfl (b := 1) (by decide) (by omega))
                  refine lv_iinc (v := z27693) (lv' := [(9, .int z27693), (8, .int 2), (7, .int x7_lp27672), (6, .int z27662), (5, .int z27659), (0, .ref (g 0)), (1, .int p0), (2, .int p1), (3, .int p2), (4, .int p3)]) hx hb dX12_lacksOf_205 hl (k := 0) rfl (by rw [e27694]; rfl) (by decide) rfl (fun ls hl => ?_)
                  refine lv_goto (tgt := 112) hx hb dX12_lacksOf_208 (by decide) ?_
                  exact ih_lp27672 z27693 x7_lp27672 v_lp27672 F_lp27672 _ _ _ (by omega) (by omega) hf_lp27672 hI hF hP hS (lv_sub hl [0, 1, 2, 3, 4, 5, 6, 7, 8, 9] rfl)
                · skip
                  have t27696 := cv_eq (a := z27686.toInt) rfl (b := z27689.toInt) rfl c27691
                  refine lv_aload_n hx hb dX12_lacksOf_148 rfl (lv_at hl 5 rfl) ?_
                  refine lv_iload hx hb dX12_lacksOf_149 (lv_at hl 0 rfl) ?_
                  refine lv_iload hx hb dX12_lacksOf_151 (lv_at hl 1 rfl) ?_
                  refine va_calli (va_runV (As := [.int x9_lp27672, .int 2]) (rest := []) ⟨hx, hb, hml, hown, hwd⟩ (c_X12_limitOf l dC dI g c adK adV v_lp27672 F_lp27672 rc H.size x9_lp27672 2 hg hI (by omega) (by have : (2 : Int32).toInt = 2 := (by decide); omega)) (cwV 2 hwd (gV wk_489 wk_486 wk_487 wk_488 wk_5) rfl rfl rfl (by decide +kernel) ⟨Nat.le_of_ble_eq_true rfl, Nat.le_of_ble_eq_true rfl⟩) ⟨PM.blind, va_recv hK hP (ci := 12) (q0 := 0) rfl rfl, fun U hU hW => ⟨rfl, PM.at hK hE hP hS hU hW⟩⟩ rfl rfl hl.1 rfl (lv_room (Nat.le_of_ble_eq_true rfl)) dX12_lacksOf_153 ⟨Nat.le_of_ble_eq_true rfl, Nat.le_of_ble_eq_true rfl⟩) hS (fun q _ h => (freeM hS) q h) (freeM hS) (fun r27697 u t H1 locs ht hvm hw hB hz1 hk1 hS => ?_)
                  unfold BM at hB
                  rw [ht] at hB
                  have hP : va_P (dC, dI) classes (wM g c v_lp27672 F_lp27672 rc) H1 := hB
                  have hw : r27697.toInt = (F_lp27672 1 (limJ (F_lp27672 11) x9_lp27672 (2 : Int32))).toInt := hw
                  rw [hF 1 (by decide)] at hw
                  rw [hF 11 (by decide)] at hw
                  have hw_r27697 := hw
                  have k27698 : (2 : Int32).toInt = 2 := by decide
                  generalize H1 = H at hP hS ⊢
                  refine lv_if_ne (tgt := 162) hx hb dX12_lacksOf_156 (by decide) (fun c27699 => ?_) (fun c27699 => ?_)
                  · skip
                    have t27700 := cv_ne (a := r27697.toInt) rfl (b := 0) (by decide) c27699
                    refine lv_aload_n hx hb dX12_lacksOf_162 rfl (lv_at hl 5 rfl) ?_
                    refine lv_iload hx hb dX12_lacksOf_163 (lv_at hl 0 rfl) ?_
                    refine lv_iload hx hb dX12_lacksOf_165 (lv_at hl 1 rfl) ?_
                    refine lv_iload hx hb dX12_lacksOf_167 (lv_at hl 9 rfl) ?_
                    refine va_calli (va_runV (As := [.int x9_lp27672, .int 2, .int p3]) (rest := []) ⟨hx, hb, hml, hown, hwd⟩ (c_X12_leftOf l dC dI g c adK adV v_lp27672 F_lp27672 rc H.size x9_lp27672 2 p3 hg hI (by omega) (by have : (2 : Int32).toInt = 2 := (by decide); omega) (JL.to hL (show v_lp27672 31 = v 31 from hf_lp27672 31 (by decide)) (hF 28 (by decide)) (hF 29 (by decide)) (hF 27 (by decide)))) (cwV 3 hwd (gV wk_493 wk_490 wk_491 wk_492 wk_5) rfl rfl rfl (by decide +kernel) ⟨Nat.le_of_ble_eq_true rfl, Nat.le_of_ble_eq_true rfl⟩) ⟨PM.blind, va_recv hK hP (ci := 12) (q0 := 0) rfl rfl, fun U hU hW => ⟨rfl, PM.at hK hE hP hS hU hW⟩⟩ rfl rfl hl.1 rfl (lv_room (Nat.le_of_ble_eq_true rfl)) dX12_lacksOf_169 ⟨Nat.le_of_ble_eq_true rfl, Nat.le_of_ble_eq_true rfl⟩) hS (fun q _ h => (freeM hS) q h) (freeM hS) (fun r27701 u t H1 locs ht hvm hw hB hz1 hk1 hS => ?_)
                    unfold BM at hB
                    rw [ht] at hB
                    obtain ⟨v27702, F27703, rc9⟩ := u
                    obtain ⟨hI, hrc, hf27704, hG27705, hw⟩ := hw
                    dsimp only at hI hrc hB hf27704 hG27705 hw
                    have hF := frCF (by decide) hG27705 hF
                    rw [hrc] at hB
                    have hP : va_P (dC, dI) classes (wM g c v27702 F27703 rc) H1 := hB
                    generalize H1 = H at hP hS ⊢
                    have rr_r27701 := i32_rng r27701
                    refine lv_istore (lv' := [(10, .int r27701), (9, .int x9_lp27672), (8, .int 2), (7, .int x7_lp27672), (6, .int z27662), (5, .int z27659), (0, .ref (g 0)), (1, .int p0), (2, .int p1), (3, .int p2), (4, .int p3)]) hx hb dX12_lacksOf_172 hl (by decide) rfl (fun ls hl => ?_)
                    refine lv_iload hx hb dX12_lacksOf_174 (lv_at hl 3 rfl) ?_
                    refine lv_iload hx hb dX12_lacksOf_176 (lv_at hl 0 rfl) ?_
                    refine lv_aload_n hx hb dX12_lacksOf_178 rfl (lv_at hl 6 rfl) ?_
                    refine va_get (D := (dC, dI)) (ci := 12) (v := .ref (g 40)) (C := RX12) (T := TX12) (N := 63) hx hb hwd inA_X12 hown hK hP 0 rfl rfl 54 (by decide) (hwd _ wk_222) (fun _ h9 => h9) rfl dX12_lacksOf_179 ?_
                    refine lv_iload hx hb dX12_lacksOf_182 (lv_at hl 5 rfl) ?_
                    refine va_iald hx hb hK hP 40 39 rfl rfl (i := z27659) (vin (a := z27659.toInt) rfl (by omega)) dX12_lacksOf_184 ?_
                    refine lv_topi (fun z27706 e27707 => ?_)
                    have e27707 : z27706 = F 40 (z27659 : Int32).toNatClampNeg := e27707.trans (congrFun (hF 40 (by decide)) _)
                    refine lv_icmp_ge (tgt := 201) hx hb dX12_lacksOf_185 (by decide) (fun c27708 => ?_) (fun c27708 => ?_)
                    · skip
                      have t27709 := cv_le (a := z27706.toInt) rfl (b := r27701.toInt) rfl c27708
                      refine lv_iconst (v := 0) hx hb dX12_lacksOf_201 (by decide) ?_
                      refine lv_iadd hx hb dX12_lacksOf_202 ?_
                      refine lv_topi (fun z27710 e27711 => ?_)
                      try (have t27712 := tadd e27711 (a := x7_lp27672.toInt) rfl (b := 0) (by decide) (by omega))
                      refine lv_istore (lv' := [(7, .int z27710), (10, .int r27701), (9, .int x9_lp27672), (8, .int 2), (6, .int z27662), (5, .int z27659), (0, .ref (g 0)), (1, .int p0), (2, .int p1), (3, .int p2), (4, .int p3)]) hx hb dX12_lacksOf_203 hl (by decide) rfl (fun ls hl => ?_)
                      obtain ⟨z27713, e27714⟩ : ∃ y : Int32, y = x9_lp27672 + 1 := ⟨_, rfl⟩
                      try (have t27715 := tadd e27714 rfl (b := 1) (by decide) (by omega))
                      refine lv_iinc (v := z27713) (lv' := [(9, .int z27713), (7, .int z27710), (10, .int r27701), (8, .int 2), (6, .int z27662), (5, .int z27659), (0, .ref (g 0)), (1, .int p0), (2, .int p1), (3, .int p2), (4, .int p3)]) hx hb dX12_lacksOf_205 hl (k := 2) rfl (by rw [e27714]; rfl) (by decide) rfl (fun ls hl => ?_)
                      refine lv_goto (tgt := 112) hx hb dX12_lacksOf_208 (by decide) ?_
                      exact ih_lp27672 z27713 z27710 v27702 F27703 _ _ _ (by omega) (by omega) (frC (by decide) hf27704 hf_lp27672) hI hF hP hS (lv_sub hl [0, 3, 1, 4, 5, 6, 7, 8, 9, 10] rfl)
                    · skip
                      have t27716 := cv_nle (a := z27706.toInt) rfl (b := r27701.toInt) rfl c27708
                      refine lv_aload_n hx hb dX12_lacksOf_188 rfl (lv_at hl 6 rfl) ?_
                      refine va_get (D := (dC, dI)) (ci := 12) (v := .ref (g 40)) (C := RX12) (T := TX12) (N := 63) hx hb hwd inA_X12 hown hK hP 0 rfl rfl 54 (by decide) (hwd _ wk_222) (fun _ h9 => h9) rfl dX12_lacksOf_189 ?_
                      refine lv_iload hx hb dX12_lacksOf_192 (lv_at hl 5 rfl) ?_
                      refine va_iald hx hb hK hP 40 39 rfl rfl (i := z27659) (vin (a := z27659.toInt) rfl (by omega)) dX12_lacksOf_194 ?_
                      refine lv_topi (fun z27717 e27718 => ?_)
                      have e27718 : z27717 = F 40 (z27659 : Int32).toNatClampNeg := e27718.trans (congrFun (hF 40 (by decide)) _)
                      refine lv_iload hx hb dX12_lacksOf_195 (lv_at hl 0 rfl) ?_
                      refine lv_isub hx hb dX12_lacksOf_197 ?_
                      refine lv_topi (fun z27719 e27720 => ?_)
                      try (have t27721 := tsub e27720 (a := z27717.toInt) rfl (b := r27701.toInt) rfl (by omega))
                      refine lv_goto (tgt := 202) hx hb dX12_lacksOf_198 (by decide) ?_
                      refine lv_iadd hx hb dX12_lacksOf_202 ?_
                      refine lv_topi (fun z27722 e27723 => ?_)
                      try (have t27724 := tadd e27723 (a := x7_lp27672.toInt) rfl (b := z27719.toInt) rfl (by omega))
                      refine lv_istore (lv' := [(7, .int z27722), (10, .int r27701), (9, .int x9_lp27672), (8, .int 2), (6, .int z27662), (5, .int z27659), (0, .ref (g 0)), (1, .int p0), (2, .int p1), (3, .int p2), (4, .int p3)]) hx hb dX12_lacksOf_203 hl (by decide) rfl (fun ls hl => ?_)
                      obtain ⟨z27725, e27726⟩ : ∃ y : Int32, y = x9_lp27672 + 1 := ⟨_, rfl⟩
                      try (have t27727 := tadd e27726 rfl (b := 1) (by decide) (by omega))
                      refine lv_iinc (v := z27725) (lv' := [(9, .int z27725), (7, .int z27722), (10, .int r27701), (8, .int 2), (6, .int z27662), (5, .int z27659), (0, .ref (g 0)), (1, .int p0), (2, .int p1), (3, .int p2), (4, .int p3)]) hx hb dX12_lacksOf_205 hl (k := 2) rfl (by rw [e27726]; rfl) (by decide) rfl (fun ls hl => ?_)
                      refine lv_goto (tgt := 112) hx hb dX12_lacksOf_208 (by decide) ?_
                      exact ih_lp27672 z27725 z27722 v27702 F27703 _ _ _ (by omega) (by omega) (frC (by decide) hf27704 hf_lp27672) hI hF hP hS (lv_sub hl [0, 3, 1, 4, 5, 6, 7, 8, 9, 10] rfl)
                  · skip
                    have t27728 := cv_eq (a := r27697.toInt) rfl (b := 0) (by decide) c27699
                    refine lv_goto (tgt := 205) hx hb dX12_lacksOf_159 (by decide) ?_
                    obtain ⟨z27729, e27730⟩ : ∃ y : Int32, y = x9_lp27672 + 1 := ⟨_, rfl⟩
                    try (have t27731 := tadd e27730 rfl (b := 1) (by decide) (by omega))
                    refine lv_iinc (v := z27729) (lv' := [(9, .int z27729), (8, .int 2), (7, .int x7_lp27672), (6, .int z27662), (5, .int z27659), (0, .ref (g 0)), (1, .int p0), (2, .int p1), (3, .int p2), (4, .int p3)]) hx hb dX12_lacksOf_205 hl (k := 0) rfl (by rw [e27730]; rfl) (by decide) rfl (fun ls hl => ?_)
                    refine lv_goto (tgt := 112) hx hb dX12_lacksOf_208 (by decide) ?_
                    exact ih_lp27672 z27729 x7_lp27672 v_lp27672 F_lp27672 _ _ _ (by omega) (by omega) hf_lp27672 hI hF hP hS (lv_sub hl [0, 1, 2, 3, 4, 5, 6, 7, 8, 9] rfl)
        obtain ⟨n9, hn9⟩ : ∃ n : Nat, 2147483648 - 0 ≤ (n : Int) := ⟨((2147483648 - 0 : Int)).toNat, by omega⟩
        exact lp27672 n9 0 0 v F H _ ls (by have : (0 : Int32).toInt = 0 := (by decide); have : (0 : Int32).toInt = 0 := (by decide); omega) (by have : (0 : Int32).toInt = 0 := (by decide); have : (0 : Int32).toInt = 0 := (by decide); omega) (fun _ _ => rfl) hI hF hP hS hl
      · skip
        have t27732 := cv_eq (a := z27662.toInt) rfl (b := 108) (by decide) c27670
        refine lv_iconst (v := 1) hx hb dX12_lacksOf_102 (by decide) ?_
        refine lv_goto (tgt := 107) hx hb dX12_lacksOf_103 (by decide) ?_
        refine lv_istore (lv' := [(8, .int 1), (7, .int 0), (6, .int z27662), (5, .int z27659), (0, .ref (g 0)), (1, .int p0), (2, .int p1), (3, .int p2), (4, .int p3)]) hx hb dX12_lacksOf_107 hl (by decide) rfl (fun ls hl => ?_)
        refine lv_iconst (v := 0) hx hb dX12_lacksOf_109 (by decide) ?_
        refine lv_istore (lv' := [(9, .int 0), (8, .int 1), (7, .int 0), (6, .int z27662), (5, .int z27659), (0, .ref (g 0)), (1, .int p0), (2, .int p1), (3, .int p2), (4, .int p3)]) hx hb dX12_lacksOf_110 hl (by decide) rfl (fun ls hl => ?_)
        have lp27733 : ∀ (n : Nat) (x9_lp27733 : Int32) (x7_lp27733 : Int32) (v_lp27733 : Nat → Int32) (F_lp27733 : Nat → Nat → Int32) (H : Heap) (locs : List Loc) (ls : Array Slot), (0 ≤ x9_lp27733.toInt) → (2147483648 - x9_lp27733.toInt ≤ (n : Int)) → (∀ k, k ∉ ([] : List Nat) → v_lp27733 k = v k) → IM v_lp27733 F_lp27733 → (∀ k, k ∉ ([30, 31] : List Nat) → F_lp27733 k = F k) → va_P (dC, dI) classes (wM g c v_lp27733 F_lp27733 rc) H → va_S (AM g s.heap.size) s.heap H locs → lv_has ls 11 [(9, .int x9_lp27733), (8, .int 1), (7, .int x7_lp27733), (6, .int z27662), (5, .int z27659), (0, .ref (g 0)), (1, .int p0), (2, .int p1), (3, .int p2), (4, .int p3)] → W p l e (headSpec (Cond.code yX12_lacksOf cX12_lacksOf 11 (some .int) :: wA) ({ frames := 5, cells := 0, slots := 0, locals := 200 })).room s m ([.ref (g 0), .int p0, .int p1, .int p2, .int p3] : List Value).toArray below meth c0 H locs 0 0 (MQ below (va_Qi (fun (r : Int32) (u : StM) => IM u.1 u.2.1 ∧ u.2.2 = rc ∧ (∀ k, k ∉ ([] : List Nat) → u.1 k = v k) ∧ (∀ k, k ∉ ([30, 31] : List Nat) → u.2.1 k = F k) ∧ True) (BM dC dI g c) (AM g s.heap.size)) ([.ref (g 0), .int p0, .int p1, .int p2, .int p3] : List Value).toArray s 0 0 (AM g s.heap.size)) (F0 m 112 ls []) := by
          intro n
          induction n with
          | zero =>
            intro x9_lp27733 x7_lp27733 v_lp27733 F_lp27733 H locs ls t27734 hm hf_lp27733 hI hF hP hS hl
            exfalso
            have := i32_rng x9_lp27733
            have := i32_rng x7_lp27733
            have hI1 := hI.1
            omega
          | succ n ih_lp27733 =>
            intro x9_lp27733 x7_lp27733 v_lp27733 F_lp27733 H locs ls t27734 hm hf_lp27733 hI hF hP hS hl
            have rx9_lp27733 := i32_rng x9_lp27733
            have rx7_lp27733 := i32_rng x7_lp27733
            refine lv_iload hx hb dX12_lacksOf_112 (lv_at hl 0 rfl) ?_
            refine lv_aload_n hx hb dX12_lacksOf_114 rfl (lv_at hl 5 rfl) ?_
            refine va_get (D := (dC, dI)) (ci := 12) (v := .int (v_lp27733 14)) (C := RX12) (T := TX12) (N := 63) hx hb hwd inA_X12 hown hK hP 0 rfl rfl 14 (by decide) (hwd _ wk_318) (fun _ h9 => h9) rfl dX12_lacksOf_115 ?_
            refine my_top (v := v 14) (hf_lp27733 14 (by decide)) ?_
            have t27735 : 0 ≤ (v 14).toInt ∧ (v 14).toInt ≤ 100 := by have h9 := hI.1 14 _ _ rfl; rw [show v_lp27733 14 = v 14 from hf_lp27733 14 (by decide)] at h9; exact h9
            refine lv_icmp_ge (tgt := 211) hx hb dX12_lacksOf_118 (by decide) (fun c27736 => ?_) (fun c27736 => ?_)
            · skip
              have t27737 := cv_le (a := (v 14).toInt) rfl (b := x9_lp27733.toInt) rfl c27736
              refine lv_iload hx hb dX12_lacksOf_211 (lv_at hl 2 rfl) ?_
              have hP9 : va_P (dC, dI) classes (wM g c v_lp27733 F_lp27733 rc) H := hP
              exact W.iret (v := x7_lp27733) hx hb hr (fun t ht hW => ⟨⟨x7_lp27733, (v_lp27733, F_lp27733, rc), rfl, ⟨hI, rfl, (frC (by decide) hf_lp27733 (fun _ _ => rfl)), hF, trivial⟩, (by show va_P _ _ _ t.heap; rw [ht]; exact hP9)⟩, hS.F ht⟩) hS.2.2 dX12_lacksOf_213
            · skip
              have t27738 := cv_nle (a := (v 14).toInt) rfl (b := x9_lp27733.toInt) rfl c27736
              refine lv_aload_n hx hb dX12_lacksOf_121 rfl (lv_at hl 5 rfl) ?_
              refine va_get (D := (dC, dI)) (ci := 12) (v := .ref (g 42)) (C := RX12) (T := TX12) (N := 63) hx hb hwd inA_X12 hown hK hP 0 rfl rfl 56 (by decide) (hwd _ wk_224) (fun _ h9 => h9) rfl dX12_lacksOf_122 ?_
              refine lv_iload hx hb dX12_lacksOf_125 (lv_at hl 0 rfl) ?_
              refine va_zald hx hb hK hP 42 41 rfl rfl (i := x9_lp27733) (vin (a := x9_lp27733.toInt) rfl (by omega)) dX12_lacksOf_127 ?_
              refine lv_topi (fun z27739 e27740 => ?_)
              have e27740 : z27739 = F 42 (x9_lp27733 : Int32).toNatClampNeg := e27740.trans (congrFun (hF 42 (by decide)) _)
              refine lv_if_eq (tgt := 205) hx hb dX12_lacksOf_128 (by decide) (fun c27741 => ?_) (fun c27741 => ?_)
              · skip
                have t27742 := cv_eq (a := z27739.toInt) rfl (b := 0) (by decide) c27741
                obtain ⟨z27743, e27744⟩ : ∃ y : Int32, y = x9_lp27733 + 1 := ⟨_, rfl⟩
                try (have t27745 := tadd e27744 rfl (b := 1) (by decide) (by omega))
                refine lv_iinc (v := z27743) (lv' := [(9, .int z27743), (8, .int 1), (7, .int x7_lp27733), (6, .int z27662), (5, .int z27659), (0, .ref (g 0)), (1, .int p0), (2, .int p1), (3, .int p2), (4, .int p3)]) hx hb dX12_lacksOf_205 hl (k := 0) rfl (by rw [e27744]; rfl) (by decide) rfl (fun ls hl => ?_)
                refine lv_goto (tgt := 112) hx hb dX12_lacksOf_208 (by decide) ?_
                exact ih_lp27733 z27743 x7_lp27733 v_lp27733 F_lp27733 _ _ _ (by omega) (by omega) hf_lp27733 hI hF hP hS (lv_sub hl [0, 1, 2, 3, 4, 5, 6, 7, 8, 9] rfl)
              · skip
                have t27746 := cv_ne (a := z27739.toInt) rfl (b := 0) (by decide) c27741
                refine lv_aload_n hx hb dX12_lacksOf_131 rfl (lv_at hl 5 rfl) ?_
                refine va_get (D := (dC, dI)) (ci := 12) (v := .ref (g 11)) (C := RX12) (T := TX12) (N := 63) hx hb hwd inA_X12 hown hK hP 0 rfl rfl 15 (by decide) (hwd _ wk_192) (fun _ h9 => h9) rfl dX12_lacksOf_132 ?_
                refine lv_iload hx hb dX12_lacksOf_135 (lv_at hl 0 rfl) ?_
                refine va_iald hx hb hK hP 11 10 rfl rfl (i := x9_lp27733) (vin (a := x9_lp27733.toInt) rfl (by omega)) dX12_lacksOf_137 ?_
                refine lv_topi (fun z27747 e27748 => ?_)
                have t27749 : 0 ≤ z27747.toInt ∧ z27747.toInt ≤ 9 := by rw [e27748]; exact hI.2 11 _ _ rfl _
                have e27748 : z27747 = F 11 (x9_lp27733 : Int32).toNatClampNeg := e27748.trans (congrFun (hF 11 (by decide)) _)
                refine lv_aload_n hx hb dX12_lacksOf_138 rfl (lv_at hl 5 rfl) ?_
                refine va_get (D := (dC, dI)) (ci := 12) (v := .ref (g 39)) (C := RX12) (T := TX12) (N := 63) hx hb hwd inA_X12 hown hK hP 0 rfl rfl 53 (by decide) (hwd _ wk_221) (fun _ h9 => h9) rfl dX12_lacksOf_139 ?_
                refine lv_iload hx hb dX12_lacksOf_142 (lv_at hl 4 rfl) ?_
                refine va_iald hx hb hK hP 39 38 rfl rfl (i := z27659) (vin (a := z27659.toInt) rfl (by omega)) dX12_lacksOf_144 ?_
                refine lv_topi (fun z27750 e27751 => ?_)
                have e27751 : z27750 = F 39 (z27659 : Int32).toNatClampNeg := e27751.trans (congrFun (hF 39 (by decide)) _)
                refine lv_icmp_ne (tgt := 205) hx hb dX12_lacksOf_145 (by decide) (fun c27752 => ?_) (fun c27752 => ?_)
                · skip
                  have t27753 := cv_ne (a := z27747.toInt) rfl (b := z27750.toInt) rfl c27752
                  obtain ⟨z27754, e27755⟩ : ∃ y : Int32, y = x9_lp27733 + 1 := ⟨_, rfl⟩
                  try (have t27756 := tadd e27755 rfl (b := 1) (by decide) (by omega))
                  refine lv_iinc (v := z27754) (lv' := [(9, .int z27754), (8, .int 1), (7, .int x7_lp27733), (6, .int z27662), (5, .int z27659), (0, .ref (g 0)), (1, .int p0), (2, .int p1), (3, .int p2), (4, .int p3)]) hx hb dX12_lacksOf_205 hl (k := 0) rfl (by rw [e27755]; rfl) (by decide) rfl (fun ls hl => ?_)
                  refine lv_goto (tgt := 112) hx hb dX12_lacksOf_208 (by decide) ?_
                  exact ih_lp27733 z27754 x7_lp27733 v_lp27733 F_lp27733 _ _ _ (by omega) (by omega) hf_lp27733 hI hF hP hS (lv_sub hl [0, 1, 2, 3, 4, 5, 6, 7, 8, 9] rfl)
                · skip
                  have t27757 := cv_eq (a := z27747.toInt) rfl (b := z27750.toInt) rfl c27752
                  refine lv_aload_n hx hb dX12_lacksOf_148 rfl (lv_at hl 5 rfl) ?_
                  refine lv_iload hx hb dX12_lacksOf_149 (lv_at hl 0 rfl) ?_
                  refine lv_iload hx hb dX12_lacksOf_151 (lv_at hl 1 rfl) ?_
                  refine va_calli (va_runV (As := [.int x9_lp27733, .int 1]) (rest := []) ⟨hx, hb, hml, hown, hwd⟩ (c_X12_limitOf l dC dI g c adK adV v_lp27733 F_lp27733 rc H.size x9_lp27733 1 hg hI (by omega) (by have : (1 : Int32).toInt = 1 := (by decide); omega)) (cwV 2 hwd (gV wk_489 wk_486 wk_487 wk_488 wk_5) rfl rfl rfl (by decide +kernel) ⟨Nat.le_of_ble_eq_true rfl, Nat.le_of_ble_eq_true rfl⟩) ⟨PM.blind, va_recv hK hP (ci := 12) (q0 := 0) rfl rfl, fun U hU hW => ⟨rfl, PM.at hK hE hP hS hU hW⟩⟩ rfl rfl hl.1 rfl (lv_room (Nat.le_of_ble_eq_true rfl)) dX12_lacksOf_153 ⟨Nat.le_of_ble_eq_true rfl, Nat.le_of_ble_eq_true rfl⟩) hS (fun q _ h => (freeM hS) q h) (freeM hS) (fun r27758 u t H1 locs ht hvm hw hB hz1 hk1 hS => ?_)
                  unfold BM at hB
                  rw [ht] at hB
                  have hP : va_P (dC, dI) classes (wM g c v_lp27733 F_lp27733 rc) H1 := hB
                  have hw : r27758.toInt = (F_lp27733 1 (limJ (F_lp27733 11) x9_lp27733 (1 : Int32))).toInt := hw
                  rw [hF 1 (by decide)] at hw
                  rw [hF 11 (by decide)] at hw
                  have hw_r27758 := hw
                  have k27759 : (1 : Int32).toInt = 1 := by decide
                  generalize H1 = H at hP hS ⊢
                  refine lv_if_ne (tgt := 162) hx hb dX12_lacksOf_156 (by decide) (fun c27760 => ?_) (fun c27760 => ?_)
                  · skip
                    have t27761 := cv_ne (a := r27758.toInt) rfl (b := 0) (by decide) c27760
                    refine lv_aload_n hx hb dX12_lacksOf_162 rfl (lv_at hl 5 rfl) ?_
                    refine lv_iload hx hb dX12_lacksOf_163 (lv_at hl 0 rfl) ?_
                    refine lv_iload hx hb dX12_lacksOf_165 (lv_at hl 1 rfl) ?_
                    refine lv_iload hx hb dX12_lacksOf_167 (lv_at hl 9 rfl) ?_
                    refine va_calli (va_runV (As := [.int x9_lp27733, .int 1, .int p3]) (rest := []) ⟨hx, hb, hml, hown, hwd⟩ (c_X12_leftOf l dC dI g c adK adV v_lp27733 F_lp27733 rc H.size x9_lp27733 1 p3 hg hI (by omega) (by have : (1 : Int32).toInt = 1 := (by decide); omega) (JL.to hL (show v_lp27733 31 = v 31 from hf_lp27733 31 (by decide)) (hF 28 (by decide)) (hF 29 (by decide)) (hF 27 (by decide)))) (cwV 3 hwd (gV wk_493 wk_490 wk_491 wk_492 wk_5) rfl rfl rfl (by decide +kernel) ⟨Nat.le_of_ble_eq_true rfl, Nat.le_of_ble_eq_true rfl⟩) ⟨PM.blind, va_recv hK hP (ci := 12) (q0 := 0) rfl rfl, fun U hU hW => ⟨rfl, PM.at hK hE hP hS hU hW⟩⟩ rfl rfl hl.1 rfl (lv_room (Nat.le_of_ble_eq_true rfl)) dX12_lacksOf_169 ⟨Nat.le_of_ble_eq_true rfl, Nat.le_of_ble_eq_true rfl⟩) hS (fun q _ h => (freeM hS) q h) (freeM hS) (fun r27762 u t H1 locs ht hvm hw hB hz1 hk1 hS => ?_)
                    unfold BM at hB
                    rw [ht] at hB
                    obtain ⟨v27763, F27764, rc9⟩ := u
                    obtain ⟨hI, hrc, hf27765, hG27766, hw⟩ := hw
                    dsimp only at hI hrc hB hf27765 hG27766 hw
                    have hF := frCF (by decide) hG27766 hF
                    rw [hrc] at hB
                    have hP : va_P (dC, dI) classes (wM g c v27763 F27764 rc) H1 := hB
                    generalize H1 = H at hP hS ⊢
                    have rr_r27762 := i32_rng r27762
                    refine lv_istore (lv' := [(10, .int r27762), (9, .int x9_lp27733), (8, .int 1), (7, .int x7_lp27733), (6, .int z27662), (5, .int z27659), (0, .ref (g 0)), (1, .int p0), (2, .int p1), (3, .int p2), (4, .int p3)]) hx hb dX12_lacksOf_172 hl (by decide) rfl (fun ls hl => ?_)
                    refine lv_iload hx hb dX12_lacksOf_174 (lv_at hl 3 rfl) ?_
                    refine lv_iload hx hb dX12_lacksOf_176 (lv_at hl 0 rfl) ?_
                    refine lv_aload_n hx hb dX12_lacksOf_178 rfl (lv_at hl 6 rfl) ?_
                    refine va_get (D := (dC, dI)) (ci := 12) (v := .ref (g 40)) (C := RX12) (T := TX12) (N := 63) hx hb hwd inA_X12 hown hK hP 0 rfl rfl 54 (by decide) (hwd _ wk_222) (fun _ h9 => h9) rfl dX12_lacksOf_179 ?_
                    refine lv_iload hx hb dX12_lacksOf_182 (lv_at hl 5 rfl) ?_
                    refine va_iald hx hb hK hP 40 39 rfl rfl (i := z27659) (vin (a := z27659.toInt) rfl (by omega)) dX12_lacksOf_184 ?_
                    refine lv_topi (fun z27767 e27768 => ?_)
                    have e27768 : z27767 = F 40 (z27659 : Int32).toNatClampNeg := e27768.trans (congrFun (hF 40 (by decide)) _)
                    refine lv_icmp_ge (tgt := 201) hx hb dX12_lacksOf_185 (by decide) (fun c27769 => ?_) (fun c27769 => ?_)
                    · skip
                      have t27770 := cv_le (a := z27767.toInt) rfl (b := r27762.toInt) rfl c27769
                      refine lv_iconst (v := 0) hx hb dX12_lacksOf_201 (by decide) ?_
                      refine lv_iadd hx hb dX12_lacksOf_202 ?_
                      refine lv_topi (fun z27771 e27772 => ?_)
                      try (have t27773 := tadd e27772 (a := x7_lp27733.toInt) rfl (b := 0) (by decide) (by omega))
                      refine lv_istore (lv' := [(7, .int z27771), (10, .int r27762), (9, .int x9_lp27733), (8, .int 1), (6, .int z27662), (5, .int z27659), (0, .ref (g 0)), (1, .int p0), (2, .int p1), (3, .int p2), (4, .int p3)]) hx hb dX12_lacksOf_203 hl (by decide) rfl (fun ls hl => ?_)
                      obtain ⟨z27774, e27775⟩ : ∃ y : Int32, y = x9_lp27733 + 1 := ⟨_, rfl⟩
                      try (have t27776 := tadd e27775 rfl (b := 1) (by decide) (by omega))
                      refine lv_iinc (v := z27774) (lv' := [(9, .int z27774), (7, .int z27771), (10, .int r27762), (8, .int 1), (6, .int z27662), (5, .int z27659), (0, .ref (g 0)), (1, .int p0), (2, .int p1), (3, .int p2), (4, .int p3)]) hx hb dX12_lacksOf_205 hl (k := 2) rfl (by rw [e27775]; rfl) (by decide) rfl (fun ls hl => ?_)
                      refine lv_goto (tgt := 112) hx hb dX12_lacksOf_208 (by decide) ?_
                      exact ih_lp27733 z27774 z27771 v27763 F27764 _ _ _ (by omega) (by omega) (frC (by decide) hf27765 hf_lp27733) hI hF hP hS (lv_sub hl [0, 3, 1, 4, 5, 6, 7, 8, 9, 10] rfl)
                    · skip
                      have t27777 := cv_nle (a := z27767.toInt) rfl (b := r27762.toInt) rfl c27769
                      refine lv_aload_n hx hb dX12_lacksOf_188 rfl (lv_at hl 6 rfl) ?_
                      refine va_get (D := (dC, dI)) (ci := 12) (v := .ref (g 40)) (C := RX12) (T := TX12) (N := 63) hx hb hwd inA_X12 hown hK hP 0 rfl rfl 54 (by decide) (hwd _ wk_222) (fun _ h9 => h9) rfl dX12_lacksOf_189 ?_
                      refine lv_iload hx hb dX12_lacksOf_192 (lv_at hl 5 rfl) ?_
                      refine va_iald hx hb hK hP 40 39 rfl rfl (i := z27659) (vin (a := z27659.toInt) rfl (by omega)) dX12_lacksOf_194 ?_
                      refine lv_topi (fun z27778 e27779 => ?_)
                      have e27779 : z27778 = F 40 (z27659 : Int32).toNatClampNeg := e27779.trans (congrFun (hF 40 (by decide)) _)
                      refine lv_iload hx hb dX12_lacksOf_195 (lv_at hl 0 rfl) ?_
                      refine lv_isub hx hb dX12_lacksOf_197 ?_
                      refine lv_topi (fun z27780 e27781 => ?_)
                      try (have t27782 := tsub e27781 (a := z27778.toInt) rfl (b := r27762.toInt) rfl (by omega))
                      refine lv_goto (tgt := 202) hx hb dX12_lacksOf_198 (by decide) ?_
                      refine lv_iadd hx hb dX12_lacksOf_202 ?_
                      refine lv_topi (fun z27783 e27784 => ?_)
                      try (have t27785 := tadd e27784 (a := x7_lp27733.toInt) rfl (b := z27780.toInt) rfl (by omega))
                      refine lv_istore (lv' := [(7, .int z27783), (10, .int r27762), (9, .int x9_lp27733), (8, .int 1), (6, .int z27662), (5, .int z27659), (0, .ref (g 0)), (1, .int p0), (2, .int p1), (3, .int p2), (4, .int p3)]) hx hb dX12_lacksOf_203 hl (by decide) rfl (fun ls hl => ?_)
                      obtain ⟨z27786, e27787⟩ : ∃ y : Int32, y = x9_lp27733 + 1 := ⟨_, rfl⟩
                      try (have t27788 := tadd e27787 rfl (b := 1) (by decide) (by omega))
                      refine lv_iinc (v := z27786) (lv' := [(9, .int z27786), (7, .int z27783), (10, .int r27762), (8, .int 1), (6, .int z27662), (5, .int z27659), (0, .ref (g 0)), (1, .int p0), (2, .int p1), (3, .int p2), (4, .int p3)]) hx hb dX12_lacksOf_205 hl (k := 2) rfl (by rw [e27787]; rfl) (by decide) rfl (fun ls hl => ?_)
                      refine lv_goto (tgt := 112) hx hb dX12_lacksOf_208 (by decide) ?_
                      exact ih_lp27733 z27786 z27783 v27763 F27764 _ _ _ (by omega) (by omega) (frC (by decide) hf27765 hf_lp27733) hI hF hP hS (lv_sub hl [0, 3, 1, 4, 5, 6, 7, 8, 9, 10] rfl)
                  · skip
                    have t27789 := cv_eq (a := r27758.toInt) rfl (b := 0) (by decide) c27760
                    refine lv_goto (tgt := 205) hx hb dX12_lacksOf_159 (by decide) ?_
                    obtain ⟨z27790, e27791⟩ : ∃ y : Int32, y = x9_lp27733 + 1 := ⟨_, rfl⟩
                    try (have t27792 := tadd e27791 rfl (b := 1) (by decide) (by omega))
                    refine lv_iinc (v := z27790) (lv' := [(9, .int z27790), (8, .int 1), (7, .int x7_lp27733), (6, .int z27662), (5, .int z27659), (0, .ref (g 0)), (1, .int p0), (2, .int p1), (3, .int p2), (4, .int p3)]) hx hb dX12_lacksOf_205 hl (k := 0) rfl (by rw [e27791]; rfl) (by decide) rfl (fun ls hl => ?_)
                    refine lv_goto (tgt := 112) hx hb dX12_lacksOf_208 (by decide) ?_
                    exact ih_lp27733 z27790 x7_lp27733 v_lp27733 F_lp27733 _ _ _ (by omega) (by omega) hf_lp27733 hI hF hP hS (lv_sub hl [0, 1, 2, 3, 4, 5, 6, 7, 8, 9] rfl)
        obtain ⟨n9, hn9⟩ : ∃ n : Nat, 2147483648 - 0 ≤ (n : Int) := ⟨((2147483648 - 0 : Int)).toNat, by omega⟩
        exact lp27733 n9 0 0 v F H _ ls (by have : (0 : Int32).toInt = 0 := (by decide); have : (0 : Int32).toInt = 0 := (by decide); omega) (by have : (0 : Int32).toInt = 0 := (by decide); have : (0 : Int32).toInt = 0 := (by decide); omega) (fun _ _ => rfl) hI hF hP hS hl
    · skip
      have t27793 := cv_eq (a := z27662.toInt) rfl (b := 104) (by decide) c27668
      refine lv_iconst (v := 0) hx hb dX12_lacksOf_91 (by decide) ?_
      refine lv_goto (tgt := 107) hx hb dX12_lacksOf_92 (by decide) ?_
      refine lv_istore (lv' := [(8, .int 0), (7, .int 0), (6, .int z27662), (5, .int z27659), (0, .ref (g 0)), (1, .int p0), (2, .int p1), (3, .int p2), (4, .int p3)]) hx hb dX12_lacksOf_107 hl (by decide) rfl (fun ls hl => ?_)
      refine lv_iconst (v := 0) hx hb dX12_lacksOf_109 (by decide) ?_
      refine lv_istore (lv' := [(9, .int 0), (8, .int 0), (7, .int 0), (6, .int z27662), (5, .int z27659), (0, .ref (g 0)), (1, .int p0), (2, .int p1), (3, .int p2), (4, .int p3)]) hx hb dX12_lacksOf_110 hl (by decide) rfl (fun ls hl => ?_)
      have lp27794 : ∀ (n : Nat) (x9_lp27794 : Int32) (x7_lp27794 : Int32) (v_lp27794 : Nat → Int32) (F_lp27794 : Nat → Nat → Int32) (H : Heap) (locs : List Loc) (ls : Array Slot), (0 ≤ x9_lp27794.toInt) → (2147483648 - x9_lp27794.toInt ≤ (n : Int)) → (∀ k, k ∉ ([] : List Nat) → v_lp27794 k = v k) → IM v_lp27794 F_lp27794 → (∀ k, k ∉ ([30, 31] : List Nat) → F_lp27794 k = F k) → va_P (dC, dI) classes (wM g c v_lp27794 F_lp27794 rc) H → va_S (AM g s.heap.size) s.heap H locs → lv_has ls 11 [(9, .int x9_lp27794), (8, .int 0), (7, .int x7_lp27794), (6, .int z27662), (5, .int z27659), (0, .ref (g 0)), (1, .int p0), (2, .int p1), (3, .int p2), (4, .int p3)] → W p l e (headSpec (Cond.code yX12_lacksOf cX12_lacksOf 11 (some .int) :: wA) ({ frames := 5, cells := 0, slots := 0, locals := 200 })).room s m ([.ref (g 0), .int p0, .int p1, .int p2, .int p3] : List Value).toArray below meth c0 H locs 0 0 (MQ below (va_Qi (fun (r : Int32) (u : StM) => IM u.1 u.2.1 ∧ u.2.2 = rc ∧ (∀ k, k ∉ ([] : List Nat) → u.1 k = v k) ∧ (∀ k, k ∉ ([30, 31] : List Nat) → u.2.1 k = F k) ∧ True) (BM dC dI g c) (AM g s.heap.size)) ([.ref (g 0), .int p0, .int p1, .int p2, .int p3] : List Value).toArray s 0 0 (AM g s.heap.size)) (F0 m 112 ls []) := by
        intro n
        induction n with
        | zero =>
          intro x9_lp27794 x7_lp27794 v_lp27794 F_lp27794 H locs ls t27795 hm hf_lp27794 hI hF hP hS hl
          exfalso
          have := i32_rng x9_lp27794
          have := i32_rng x7_lp27794
          have hI1 := hI.1
          omega
        | succ n ih_lp27794 =>
          intro x9_lp27794 x7_lp27794 v_lp27794 F_lp27794 H locs ls t27795 hm hf_lp27794 hI hF hP hS hl
          have rx9_lp27794 := i32_rng x9_lp27794
          have rx7_lp27794 := i32_rng x7_lp27794
          refine lv_iload hx hb dX12_lacksOf_112 (lv_at hl 0 rfl) ?_
          refine lv_aload_n hx hb dX12_lacksOf_114 rfl (lv_at hl 5 rfl) ?_
          refine va_get (D := (dC, dI)) (ci := 12) (v := .int (v_lp27794 14)) (C := RX12) (T := TX12) (N := 63) hx hb hwd inA_X12 hown hK hP 0 rfl rfl 14 (by decide) (hwd _ wk_318) (fun _ h9 => h9) rfl dX12_lacksOf_115 ?_
          refine my_top (v := v 14) (hf_lp27794 14 (by decide)) ?_
          have t27796 : 0 ≤ (v 14).toInt ∧ (v 14).toInt ≤ 100 := by have h9 := hI.1 14 _ _ rfl; rw [show v_lp27794 14 = v 14 from hf_lp27794 14 (by decide)] at h9; exact h9
          refine lv_icmp_ge (tgt := 211) hx hb dX12_lacksOf_118 (by decide) (fun c27797 => ?_) (fun c27797 => ?_)
          · skip
            have t27798 := cv_le (a := (v 14).toInt) rfl (b := x9_lp27794.toInt) rfl c27797
            refine lv_iload hx hb dX12_lacksOf_211 (lv_at hl 2 rfl) ?_
            have hP9 : va_P (dC, dI) classes (wM g c v_lp27794 F_lp27794 rc) H := hP
            exact W.iret (v := x7_lp27794) hx hb hr (fun t ht hW => ⟨⟨x7_lp27794, (v_lp27794, F_lp27794, rc), rfl, ⟨hI, rfl, (frC (by decide) hf_lp27794 (fun _ _ => rfl)), hF, trivial⟩, (by show va_P _ _ _ t.heap; rw [ht]; exact hP9)⟩, hS.F ht⟩) hS.2.2 dX12_lacksOf_213
          · skip
            have t27799 := cv_nle (a := (v 14).toInt) rfl (b := x9_lp27794.toInt) rfl c27797
            refine lv_aload_n hx hb dX12_lacksOf_121 rfl (lv_at hl 5 rfl) ?_
            refine va_get (D := (dC, dI)) (ci := 12) (v := .ref (g 42)) (C := RX12) (T := TX12) (N := 63) hx hb hwd inA_X12 hown hK hP 0 rfl rfl 56 (by decide) (hwd _ wk_224) (fun _ h9 => h9) rfl dX12_lacksOf_122 ?_
            refine lv_iload hx hb dX12_lacksOf_125 (lv_at hl 0 rfl) ?_
            refine va_zald hx hb hK hP 42 41 rfl rfl (i := x9_lp27794) (vin (a := x9_lp27794.toInt) rfl (by omega)) dX12_lacksOf_127 ?_
            refine lv_topi (fun z27800 e27801 => ?_)
            have e27801 : z27800 = F 42 (x9_lp27794 : Int32).toNatClampNeg := e27801.trans (congrFun (hF 42 (by decide)) _)
            refine lv_if_eq (tgt := 205) hx hb dX12_lacksOf_128 (by decide) (fun c27802 => ?_) (fun c27802 => ?_)
            · skip
              have t27803 := cv_eq (a := z27800.toInt) rfl (b := 0) (by decide) c27802
              obtain ⟨z27804, e27805⟩ : ∃ y : Int32, y = x9_lp27794 + 1 := ⟨_, rfl⟩
              try (have t27806 := tadd e27805 rfl (b := 1) (by decide) (by omega))
              refine lv_iinc (v := z27804) (lv' := [(9, .int z27804), (8, .int 0), (7, .int x7_lp27794), (6, .int z27662), (5, .int z27659), (0, .ref (g 0)), (1, .int p0), (2, .int p1), (3, .int p2), (4, .int p3)]) hx hb dX12_lacksOf_205 hl (k := 0) rfl (by rw [e27805]; rfl) (by decide) rfl (fun ls hl => ?_)
              refine lv_goto (tgt := 112) hx hb dX12_lacksOf_208 (by decide) ?_
              exact ih_lp27794 z27804 x7_lp27794 v_lp27794 F_lp27794 _ _ _ (by omega) (by omega) hf_lp27794 hI hF hP hS (lv_sub hl [0, 1, 2, 3, 4, 5, 6, 7, 8, 9] rfl)
            · skip
              have t27807 := cv_ne (a := z27800.toInt) rfl (b := 0) (by decide) c27802
              refine lv_aload_n hx hb dX12_lacksOf_131 rfl (lv_at hl 5 rfl) ?_
              refine va_get (D := (dC, dI)) (ci := 12) (v := .ref (g 11)) (C := RX12) (T := TX12) (N := 63) hx hb hwd inA_X12 hown hK hP 0 rfl rfl 15 (by decide) (hwd _ wk_192) (fun _ h9 => h9) rfl dX12_lacksOf_132 ?_
              refine lv_iload hx hb dX12_lacksOf_135 (lv_at hl 0 rfl) ?_
              refine va_iald hx hb hK hP 11 10 rfl rfl (i := x9_lp27794) (vin (a := x9_lp27794.toInt) rfl (by omega)) dX12_lacksOf_137 ?_
              refine lv_topi (fun z27808 e27809 => ?_)
              have t27810 : 0 ≤ z27808.toInt ∧ z27808.toInt ≤ 9 := by rw [e27809]; exact hI.2 11 _ _ rfl _
              have e27809 : z27808 = F 11 (x9_lp27794 : Int32).toNatClampNeg := e27809.trans (congrFun (hF 11 (by decide)) _)
              refine lv_aload_n hx hb dX12_lacksOf_138 rfl (lv_at hl 5 rfl) ?_
              refine va_get (D := (dC, dI)) (ci := 12) (v := .ref (g 39)) (C := RX12) (T := TX12) (N := 63) hx hb hwd inA_X12 hown hK hP 0 rfl rfl 53 (by decide) (hwd _ wk_221) (fun _ h9 => h9) rfl dX12_lacksOf_139 ?_
              refine lv_iload hx hb dX12_lacksOf_142 (lv_at hl 4 rfl) ?_
              refine va_iald hx hb hK hP 39 38 rfl rfl (i := z27659) (vin (a := z27659.toInt) rfl (by omega)) dX12_lacksOf_144 ?_
              refine lv_topi (fun z27811 e27812 => ?_)
              have e27812 : z27811 = F 39 (z27659 : Int32).toNatClampNeg := e27812.trans (congrFun (hF 39 (by decide)) _)
              refine lv_icmp_ne (tgt := 205) hx hb dX12_lacksOf_145 (by decide) (fun c27813 => ?_) (fun c27813 => ?_)
              · skip
                have t27814 := cv_ne (a := z27808.toInt) rfl (b := z27811.toInt) rfl c27813
                obtain ⟨z27815, e27816⟩ : ∃ y : Int32, y = x9_lp27794 + 1 := ⟨_, rfl⟩
                try (have t27817 := tadd e27816 rfl (b := 1) (by decide) (by omega))
                refine lv_iinc (v := z27815) (lv' := [(9, .int z27815), (8, .int 0), (7, .int x7_lp27794), (6, .int z27662), (5, .int z27659), (0, .ref (g 0)), (1, .int p0), (2, .int p1), (3, .int p2), (4, .int p3)]) hx hb dX12_lacksOf_205 hl (k := 0) rfl (by rw [e27816]; rfl) (by decide) rfl (fun ls hl => ?_)
                refine lv_goto (tgt := 112) hx hb dX12_lacksOf_208 (by decide) ?_
                exact ih_lp27794 z27815 x7_lp27794 v_lp27794 F_lp27794 _ _ _ (by omega) (by omega) hf_lp27794 hI hF hP hS (lv_sub hl [0, 1, 2, 3, 4, 5, 6, 7, 8, 9] rfl)
              · skip
                have t27818 := cv_eq (a := z27808.toInt) rfl (b := z27811.toInt) rfl c27813
                refine lv_aload_n hx hb dX12_lacksOf_148 rfl (lv_at hl 5 rfl) ?_
                refine lv_iload hx hb dX12_lacksOf_149 (lv_at hl 0 rfl) ?_
                refine lv_iload hx hb dX12_lacksOf_151 (lv_at hl 1 rfl) ?_
                refine va_calli (va_runV (As := [.int x9_lp27794, .int 0]) (rest := []) ⟨hx, hb, hml, hown, hwd⟩ (c_X12_limitOf l dC dI g c adK adV v_lp27794 F_lp27794 rc H.size x9_lp27794 0 hg hI (by omega) (by have : (0 : Int32).toInt = 0 := (by decide); omega)) (cwV 2 hwd (gV wk_489 wk_486 wk_487 wk_488 wk_5) rfl rfl rfl (by decide +kernel) ⟨Nat.le_of_ble_eq_true rfl, Nat.le_of_ble_eq_true rfl⟩) ⟨PM.blind, va_recv hK hP (ci := 12) (q0 := 0) rfl rfl, fun U hU hW => ⟨rfl, PM.at hK hE hP hS hU hW⟩⟩ rfl rfl hl.1 rfl (lv_room (Nat.le_of_ble_eq_true rfl)) dX12_lacksOf_153 ⟨Nat.le_of_ble_eq_true rfl, Nat.le_of_ble_eq_true rfl⟩) hS (fun q _ h => (freeM hS) q h) (freeM hS) (fun r27819 u t H1 locs ht hvm hw hB hz1 hk1 hS => ?_)
                unfold BM at hB
                rw [ht] at hB
                have hP : va_P (dC, dI) classes (wM g c v_lp27794 F_lp27794 rc) H1 := hB
                have hw : r27819.toInt = (F_lp27794 1 (limJ (F_lp27794 11) x9_lp27794 (0 : Int32))).toInt := hw
                rw [hF 1 (by decide)] at hw
                rw [hF 11 (by decide)] at hw
                have hw_r27819 := hw
                have k27820 : (0 : Int32).toInt = 0 := by decide
                generalize H1 = H at hP hS ⊢
                refine lv_if_ne (tgt := 162) hx hb dX12_lacksOf_156 (by decide) (fun c27821 => ?_) (fun c27821 => ?_)
                · skip
                  have t27822 := cv_ne (a := r27819.toInt) rfl (b := 0) (by decide) c27821
                  refine lv_aload_n hx hb dX12_lacksOf_162 rfl (lv_at hl 5 rfl) ?_
                  refine lv_iload hx hb dX12_lacksOf_163 (lv_at hl 0 rfl) ?_
                  refine lv_iload hx hb dX12_lacksOf_165 (lv_at hl 1 rfl) ?_
                  refine lv_iload hx hb dX12_lacksOf_167 (lv_at hl 9 rfl) ?_
                  refine va_calli (va_runV (As := [.int x9_lp27794, .int 0, .int p3]) (rest := []) ⟨hx, hb, hml, hown, hwd⟩ (c_X12_leftOf l dC dI g c adK adV v_lp27794 F_lp27794 rc H.size x9_lp27794 0 p3 hg hI (by omega) (by have : (0 : Int32).toInt = 0 := (by decide); omega) (JL.to hL (show v_lp27794 31 = v 31 from hf_lp27794 31 (by decide)) (hF 28 (by decide)) (hF 29 (by decide)) (hF 27 (by decide)))) (cwV 3 hwd (gV wk_493 wk_490 wk_491 wk_492 wk_5) rfl rfl rfl (by decide +kernel) ⟨Nat.le_of_ble_eq_true rfl, Nat.le_of_ble_eq_true rfl⟩) ⟨PM.blind, va_recv hK hP (ci := 12) (q0 := 0) rfl rfl, fun U hU hW => ⟨rfl, PM.at hK hE hP hS hU hW⟩⟩ rfl rfl hl.1 rfl (lv_room (Nat.le_of_ble_eq_true rfl)) dX12_lacksOf_169 ⟨Nat.le_of_ble_eq_true rfl, Nat.le_of_ble_eq_true rfl⟩) hS (fun q _ h => (freeM hS) q h) (freeM hS) (fun r27823 u t H1 locs ht hvm hw hB hz1 hk1 hS => ?_)
                  unfold BM at hB
                  rw [ht] at hB
                  obtain ⟨v27824, F27825, rc9⟩ := u
                  obtain ⟨hI, hrc, hf27826, hG27827, hw⟩ := hw
                  dsimp only at hI hrc hB hf27826 hG27827 hw
                  have hF := frCF (by decide) hG27827 hF
                  rw [hrc] at hB
                  have hP : va_P (dC, dI) classes (wM g c v27824 F27825 rc) H1 := hB
                  generalize H1 = H at hP hS ⊢
                  have rr_r27823 := i32_rng r27823
                  refine lv_istore (lv' := [(10, .int r27823), (9, .int x9_lp27794), (8, .int 0), (7, .int x7_lp27794), (6, .int z27662), (5, .int z27659), (0, .ref (g 0)), (1, .int p0), (2, .int p1), (3, .int p2), (4, .int p3)]) hx hb dX12_lacksOf_172 hl (by decide) rfl (fun ls hl => ?_)
                  refine lv_iload hx hb dX12_lacksOf_174 (lv_at hl 3 rfl) ?_
                  refine lv_iload hx hb dX12_lacksOf_176 (lv_at hl 0 rfl) ?_
                  refine lv_aload_n hx hb dX12_lacksOf_178 rfl (lv_at hl 6 rfl) ?_
                  refine va_get (D := (dC, dI)) (ci := 12) (v := .ref (g 40)) (C := RX12) (T := TX12) (N := 63) hx hb hwd inA_X12 hown hK hP 0 rfl rfl 54 (by decide) (hwd _ wk_222) (fun _ h9 => h9) rfl dX12_lacksOf_179 ?_
                  refine lv_iload hx hb dX12_lacksOf_182 (lv_at hl 5 rfl) ?_
                  refine va_iald hx hb hK hP 40 39 rfl rfl (i := z27659) (vin (a := z27659.toInt) rfl (by omega)) dX12_lacksOf_184 ?_
                  refine lv_topi (fun z27828 e27829 => ?_)
                  have e27829 : z27828 = F 40 (z27659 : Int32).toNatClampNeg := e27829.trans (congrFun (hF 40 (by decide)) _)
                  refine lv_icmp_ge (tgt := 201) hx hb dX12_lacksOf_185 (by decide) (fun c27830 => ?_) (fun c27830 => ?_)
                  · skip
                    have t27831 := cv_le (a := z27828.toInt) rfl (b := r27823.toInt) rfl c27830
                    refine lv_iconst (v := 0) hx hb dX12_lacksOf_201 (by decide) ?_
                    refine lv_iadd hx hb dX12_lacksOf_202 ?_
                    refine lv_topi (fun z27832 e27833 => ?_)
                    try (have t27834 := tadd e27833 (a := x7_lp27794.toInt) rfl (b := 0) (by decide) (by omega))
                    refine lv_istore (lv' := [(7, .int z27832), (10, .int r27823), (9, .int x9_lp27794), (8, .int 0), (6, .int z27662), (5, .int z27659), (0, .ref (g 0)), (1, .int p0), (2, .int p1), (3, .int p2), (4, .int p3)]) hx hb dX12_lacksOf_203 hl (by decide) rfl (fun ls hl => ?_)
                    obtain ⟨z27835, e27836⟩ : ∃ y : Int32, y = x9_lp27794 + 1 := ⟨_, rfl⟩
                    try (have t27837 := tadd e27836 rfl (b := 1) (by decide) (by omega))
                    refine lv_iinc (v := z27835) (lv' := [(9, .int z27835), (7, .int z27832), (10, .int r27823), (8, .int 0), (6, .int z27662), (5, .int z27659), (0, .ref (g 0)), (1, .int p0), (2, .int p1), (3, .int p2), (4, .int p3)]) hx hb dX12_lacksOf_205 hl (k := 2) rfl (by rw [e27836]; rfl) (by decide) rfl (fun ls hl => ?_)
                    refine lv_goto (tgt := 112) hx hb dX12_lacksOf_208 (by decide) ?_
                    exact ih_lp27794 z27835 z27832 v27824 F27825 _ _ _ (by omega) (by omega) (frC (by decide) hf27826 hf_lp27794) hI hF hP hS (lv_sub hl [0, 3, 1, 4, 5, 6, 7, 8, 9, 10] rfl)
                  · skip
                    have t27838 := cv_nle (a := z27828.toInt) rfl (b := r27823.toInt) rfl c27830
                    refine lv_aload_n hx hb dX12_lacksOf_188 rfl (lv_at hl 6 rfl) ?_
                    refine va_get (D := (dC, dI)) (ci := 12) (v := .ref (g 40)) (C := RX12) (T := TX12) (N := 63) hx hb hwd inA_X12 hown hK hP 0 rfl rfl 54 (by decide) (hwd _ wk_222) (fun _ h9 => h9) rfl dX12_lacksOf_189 ?_
                    refine lv_iload hx hb dX12_lacksOf_192 (lv_at hl 5 rfl) ?_
                    refine va_iald hx hb hK hP 40 39 rfl rfl (i := z27659) (vin (a := z27659.toInt) rfl (by omega)) dX12_lacksOf_194 ?_
                    refine lv_topi (fun z27839 e27840 => ?_)
                    have e27840 : z27839 = F 40 (z27659 : Int32).toNatClampNeg := e27840.trans (congrFun (hF 40 (by decide)) _)
                    refine lv_iload hx hb dX12_lacksOf_195 (lv_at hl 0 rfl) ?_
                    refine lv_isub hx hb dX12_lacksOf_197 ?_
                    refine lv_topi (fun z27841 e27842 => ?_)
                    try (have t27843 := tsub e27842 (a := z27839.toInt) rfl (b := r27823.toInt) rfl (by omega))
                    refine lv_goto (tgt := 202) hx hb dX12_lacksOf_198 (by decide) ?_
                    refine lv_iadd hx hb dX12_lacksOf_202 ?_
                    refine lv_topi (fun z27844 e27845 => ?_)
                    try (have t27846 := tadd e27845 (a := x7_lp27794.toInt) rfl (b := z27841.toInt) rfl (by omega))
                    refine lv_istore (lv' := [(7, .int z27844), (10, .int r27823), (9, .int x9_lp27794), (8, .int 0), (6, .int z27662), (5, .int z27659), (0, .ref (g 0)), (1, .int p0), (2, .int p1), (3, .int p2), (4, .int p3)]) hx hb dX12_lacksOf_203 hl (by decide) rfl (fun ls hl => ?_)
                    obtain ⟨z27847, e27848⟩ : ∃ y : Int32, y = x9_lp27794 + 1 := ⟨_, rfl⟩
                    try (have t27849 := tadd e27848 rfl (b := 1) (by decide) (by omega))
                    refine lv_iinc (v := z27847) (lv' := [(9, .int z27847), (7, .int z27844), (10, .int r27823), (8, .int 0), (6, .int z27662), (5, .int z27659), (0, .ref (g 0)), (1, .int p0), (2, .int p1), (3, .int p2), (4, .int p3)]) hx hb dX12_lacksOf_205 hl (k := 2) rfl (by rw [e27848]; rfl) (by decide) rfl (fun ls hl => ?_)
                    refine lv_goto (tgt := 112) hx hb dX12_lacksOf_208 (by decide) ?_
                    exact ih_lp27794 z27847 z27844 v27824 F27825 _ _ _ (by omega) (by omega) (frC (by decide) hf27826 hf_lp27794) hI hF hP hS (lv_sub hl [0, 3, 1, 4, 5, 6, 7, 8, 9, 10] rfl)
                · skip
                  have t27850 := cv_eq (a := r27819.toInt) rfl (b := 0) (by decide) c27821
                  refine lv_goto (tgt := 205) hx hb dX12_lacksOf_159 (by decide) ?_
                  obtain ⟨z27851, e27852⟩ : ∃ y : Int32, y = x9_lp27794 + 1 := ⟨_, rfl⟩
                  try (have t27853 := tadd e27852 rfl (b := 1) (by decide) (by omega))
                  refine lv_iinc (v := z27851) (lv' := [(9, .int z27851), (8, .int 0), (7, .int x7_lp27794), (6, .int z27662), (5, .int z27659), (0, .ref (g 0)), (1, .int p0), (2, .int p1), (3, .int p2), (4, .int p3)]) hx hb dX12_lacksOf_205 hl (k := 0) rfl (by rw [e27852]; rfl) (by decide) rfl (fun ls hl => ?_)
                  refine lv_goto (tgt := 112) hx hb dX12_lacksOf_208 (by decide) ?_
                  exact ih_lp27794 z27851 x7_lp27794 v_lp27794 F_lp27794 _ _ _ (by omega) (by omega) hf_lp27794 hI hF hP hS (lv_sub hl [0, 1, 2, 3, 4, 5, 6, 7, 8, 9] rfl)
      obtain ⟨n9, hn9⟩ : ∃ n : Nat, 2147483648 - 0 ≤ (n : Int) := ⟨((2147483648 - 0 : Int)).toNat, by omega⟩
      exact lp27794 n9 0 0 v F H _ ls (by have : (0 : Int32).toInt = 0 := (by decide); have : (0 : Int32).toInt = 0 := (by decide); omega) (by have : (0 : Int32).toInt = 0 := (by decide); have : (0 : Int32).toInt = 0 := (by decide); omega) (fun _ _ => rfl) hI hF hP hS hl
  · refine lv_tableIn (off := 409) (tgt := 431) hx hb dX12_lacksOf_22 hlo27664 hhi27665 (by rw [hk]; decide) (by decide) ?_
    refine lv_aload_n hx hb dX12_lacksOf_431 rfl (lv_at hl 3 rfl) ?_
    refine lv_iload_n hx hb dX12_lacksOf_432 rfl (lv_at hl 4 rfl) ?_
    refine lv_iload_n hx hb dX12_lacksOf_433 rfl (lv_at hl 6 rfl) ?_
    refine va_calli (va_runV (As := [.int p0, .int p2]) (rest := []) ⟨hx, hb, hml, hown, hwd⟩ (c_X12_late l dC dI g c adK adV v F rc H.size p0 p2 hg hI (by omega)) (cwV 2 hwd (gV wk_1213 wk_1210 wk_1211 wk_1212 wk_5) rfl rfl rfl (by decide +kernel) ⟨Nat.le_of_ble_eq_true rfl, Nat.le_of_ble_eq_true rfl⟩) ⟨PM.blind, va_recv hK hP (ci := 12) (q0 := 0) rfl rfl, fun U hU hW => ⟨rfl, PM.at hK hE hP hS hU hW⟩⟩ rfl rfl hl.1 rfl (lv_room (Nat.le_of_ble_eq_true rfl)) dX12_lacksOf_434 ⟨Nat.le_of_ble_eq_true rfl, Nat.le_of_ble_eq_true rfl⟩) hS (fun q _ h => (freeM hS) q h) (freeM hS) (fun r27854 u t H1 locs ht hvm hw hB hz1 hk1 hS => ?_)
    unfold BM at hB
    rw [ht] at hB
    have hP : va_P (dC, dI) classes (wM g c v F rc) H1 := hB
    generalize H1 = H at hP hS ⊢
    have rr_r27854 := i32_rng r27854
    have hP9 : va_P (dC, dI) classes (wM g c v F rc) H := hP
    exact W.iret (v := r27854) hx hb hr (fun t ht hW => ⟨⟨r27854, (v, F, rc), rfl, ⟨hI, rfl, (fun _ _ => rfl), hF, trivial⟩, (by show va_P _ _ _ t.heap; rw [ht]; exact hP9)⟩, hS.F ht⟩) hS.2.2 dX12_lacksOf_437
  · refine lv_tableIn (off := 409) (tgt := 431) hx hb dX12_lacksOf_22 hlo27664 hhi27665 (by rw [hk]; decide) (by decide) ?_
    refine lv_aload_n hx hb dX12_lacksOf_431 rfl (lv_at hl 3 rfl) ?_
    refine lv_iload_n hx hb dX12_lacksOf_432 rfl (lv_at hl 4 rfl) ?_
    refine lv_iload_n hx hb dX12_lacksOf_433 rfl (lv_at hl 6 rfl) ?_
    refine va_calli (va_runV (As := [.int p0, .int p2]) (rest := []) ⟨hx, hb, hml, hown, hwd⟩ (c_X12_late l dC dI g c adK adV v F rc H.size p0 p2 hg hI (by omega)) (cwV 2 hwd (gV wk_1213 wk_1210 wk_1211 wk_1212 wk_5) rfl rfl rfl (by decide +kernel) ⟨Nat.le_of_ble_eq_true rfl, Nat.le_of_ble_eq_true rfl⟩) ⟨PM.blind, va_recv hK hP (ci := 12) (q0 := 0) rfl rfl, fun U hU hW => ⟨rfl, PM.at hK hE hP hS hU hW⟩⟩ rfl rfl hl.1 rfl (lv_room (Nat.le_of_ble_eq_true rfl)) dX12_lacksOf_434 ⟨Nat.le_of_ble_eq_true rfl, Nat.le_of_ble_eq_true rfl⟩) hS (fun q _ h => (freeM hS) q h) (freeM hS) (fun r27855 u t H1 locs ht hvm hw hB hz1 hk1 hS => ?_)
    unfold BM at hB
    rw [ht] at hB
    have hP : va_P (dC, dI) classes (wM g c v F rc) H1 := hB
    generalize H1 = H at hP hS ⊢
    have rr_r27855 := i32_rng r27855
    have hP9 : va_P (dC, dI) classes (wM g c v F rc) H := hP
    exact W.iret (v := r27855) hx hb hr (fun t ht hW => ⟨⟨r27855, (v, F, rc), rfl, ⟨hI, rfl, (fun _ _ => rfl), hF, trivial⟩, (by show va_P _ _ _ t.heap; rw [ht]; exact hP9)⟩, hS.F ht⟩) hS.2.2 dX12_lacksOf_437
  · refine lv_tableIn (off := 192) (tgt := 214) hx hb dX12_lacksOf_22 hlo27664 hhi27665 (by rw [hk]; decide) (by decide) ?_
    refine lv_iconst (v := 0) hx hb dX12_lacksOf_214 (by decide) ?_
    refine lv_istore (lv' := [(8, .int 0), (7, .int 0), (6, .int z27662), (5, .int z27659), (0, .ref (g 0)), (1, .int p0), (2, .int p1), (3, .int p2), (4, .int p3)]) hx hb dX12_lacksOf_215 hl (by decide) rfl (fun ls hl => ?_)
    have lp27856 : ∀ (n : Nat) (x8_lp27856 : Int32) (x7_lp27856 : Int32) (v_lp27856 : Nat → Int32) (F_lp27856 : Nat → Nat → Int32) (H : Heap) (locs : List Loc) (ls : Array Slot), (0 ≤ x8_lp27856.toInt) → (2147483648 - x8_lp27856.toInt ≤ (n : Int)) → (∀ k, k ∉ ([] : List Nat) → v_lp27856 k = v k) → IM v_lp27856 F_lp27856 → (∀ k, k ∉ ([30, 31] : List Nat) → F_lp27856 k = F k) → va_P (dC, dI) classes (wM g c v_lp27856 F_lp27856 rc) H → va_S (AM g s.heap.size) s.heap H locs → lv_has ls 11 [(8, .int x8_lp27856), (7, .int x7_lp27856), (6, .int z27662), (5, .int z27659), (0, .ref (g 0)), (1, .int p0), (2, .int p1), (3, .int p2), (4, .int p3)] → W p l e (headSpec (Cond.code yX12_lacksOf cX12_lacksOf 11 (some .int) :: wA) ({ frames := 5, cells := 0, slots := 0, locals := 200 })).room s m ([.ref (g 0), .int p0, .int p1, .int p2, .int p3] : List Value).toArray below meth c0 H locs 0 0 (MQ below (va_Qi (fun (r : Int32) (u : StM) => IM u.1 u.2.1 ∧ u.2.2 = rc ∧ (∀ k, k ∉ ([] : List Nat) → u.1 k = v k) ∧ (∀ k, k ∉ ([30, 31] : List Nat) → u.2.1 k = F k) ∧ True) (BM dC dI g c) (AM g s.heap.size)) ([.ref (g 0), .int p0, .int p1, .int p2, .int p3] : List Value).toArray s 0 0 (AM g s.heap.size)) (F0 m 217 ls []) := by
      intro n
      induction n with
      | zero =>
        intro x8_lp27856 x7_lp27856 v_lp27856 F_lp27856 H locs ls t27857 hm hf_lp27856 hI hF hP hS hl
        exfalso
        have := i32_rng x8_lp27856
        have := i32_rng x7_lp27856
        have hI1 := hI.1
        omega
      | succ n ih_lp27856 =>
        intro x8_lp27856 x7_lp27856 v_lp27856 F_lp27856 H locs ls t27857 hm hf_lp27856 hI hF hP hS hl
        have rx8_lp27856 := i32_rng x8_lp27856
        have rx7_lp27856 := i32_rng x7_lp27856
        refine lv_iload hx hb dX12_lacksOf_217 (lv_at hl 0 rfl) ?_
        refine lv_aload_n hx hb dX12_lacksOf_219 rfl (lv_at hl 4 rfl) ?_
        refine va_get (D := (dC, dI)) (ci := 12) (v := .int (v_lp27856 14)) (C := RX12) (T := TX12) (N := 63) hx hb hwd inA_X12 hown hK hP 0 rfl rfl 14 (by decide) (hwd _ wk_318) (fun _ h9 => h9) rfl dX12_lacksOf_220 ?_
        refine my_top (v := v 14) (hf_lp27856 14 (by decide)) ?_
        have t27858 : 0 ≤ (v 14).toInt ∧ (v 14).toInt ≤ 100 := by have h9 := hI.1 14 _ _ rfl; rw [show v_lp27856 14 = v 14 from hf_lp27856 14 (by decide)] at h9; exact h9
        refine lv_icmp_ge (tgt := 257) hx hb dX12_lacksOf_223 (by decide) (fun c27859 => ?_) (fun c27859 => ?_)
        · skip
          have t27860 := cv_le (a := (v 14).toInt) rfl (b := x8_lp27856.toInt) rfl c27859
          refine lv_iload hx hb dX12_lacksOf_257 (lv_at hl 1 rfl) ?_
          have hP9 : va_P (dC, dI) classes (wM g c v_lp27856 F_lp27856 rc) H := hP
          exact W.iret (v := x7_lp27856) hx hb hr (fun t ht hW => ⟨⟨x7_lp27856, (v_lp27856, F_lp27856, rc), rfl, ⟨hI, rfl, (frC (by decide) hf_lp27856 (fun _ _ => rfl)), hF, trivial⟩, (by show va_P _ _ _ t.heap; rw [ht]; exact hP9)⟩, hS.F ht⟩) hS.2.2 dX12_lacksOf_259
        · skip
          have t27861 := cv_nle (a := (v 14).toInt) rfl (b := x8_lp27856.toInt) rfl c27859
          refine lv_iload hx hb dX12_lacksOf_226 (lv_at hl 1 rfl) ?_
          refine lv_aload_n hx hb dX12_lacksOf_228 rfl (lv_at hl 4 rfl) ?_
          refine va_get (D := (dC, dI)) (ci := 12) (v := .ref (g 42)) (C := RX12) (T := TX12) (N := 63) hx hb hwd inA_X12 hown hK hP 0 rfl rfl 56 (by decide) (hwd _ wk_224) (fun _ h9 => h9) rfl dX12_lacksOf_229 ?_
          refine lv_iload hx hb dX12_lacksOf_232 (lv_at hl 0 rfl) ?_
          refine va_zald hx hb hK hP 42 41 rfl rfl (i := x8_lp27856) (vin (a := x8_lp27856.toInt) rfl (by omega)) dX12_lacksOf_234 ?_
          refine lv_topi (fun z27862 e27863 => ?_)
          have e27863 : z27862 = F 42 (x8_lp27856 : Int32).toNatClampNeg := e27863.trans (congrFun (hF 42 (by decide)) _)
          refine lv_if_eq (tgt := 247) hx hb dX12_lacksOf_235 (by decide) (fun c27864 => ?_) (fun c27864 => ?_)
          · skip
            have t27865 := cv_eq (a := z27862.toInt) rfl (b := 0) (by decide) c27864
            refine lv_iconst (v := 0) hx hb dX12_lacksOf_247 (by decide) ?_
            refine lv_iadd hx hb dX12_lacksOf_248 ?_
            refine lv_topi (fun z27866 e27867 => ?_)
            try (have t27868 := tadd e27867 (a := x7_lp27856.toInt) rfl (b := 0) (by decide) (by omega))
            refine lv_istore (lv' := [(7, .int z27866), (8, .int x8_lp27856), (6, .int z27662), (5, .int z27659), (0, .ref (g 0)), (1, .int p0), (2, .int p1), (3, .int p2), (4, .int p3)]) hx hb dX12_lacksOf_249 hl (by decide) rfl (fun ls hl => ?_)
            obtain ⟨z27869, e27870⟩ : ∃ y : Int32, y = x8_lp27856 + 1 := ⟨_, rfl⟩
            try (have t27871 := tadd e27870 rfl (b := 1) (by decide) (by omega))
            refine lv_iinc (v := z27869) (lv' := [(8, .int z27869), (7, .int z27866), (6, .int z27662), (5, .int z27659), (0, .ref (g 0)), (1, .int p0), (2, .int p1), (3, .int p2), (4, .int p3)]) hx hb dX12_lacksOf_251 hl (k := 1) rfl (by rw [e27870]; rfl) (by decide) rfl (fun ls hl => ?_)
            refine lv_goto (tgt := 217) hx hb dX12_lacksOf_254 (by decide) ?_
            exact ih_lp27856 z27869 z27866 v_lp27856 F_lp27856 _ _ _ (by omega) (by omega) hf_lp27856 hI hF hP hS (lv_sub hl [0, 1, 2, 3, 4, 5, 6, 7, 8] rfl)
          · skip
            have t27872 := cv_ne (a := z27862.toInt) rfl (b := 0) (by decide) c27864
            refine lv_aload_n hx hb dX12_lacksOf_238 rfl (lv_at hl 4 rfl) ?_
            refine lv_iload hx hb dX12_lacksOf_239 (lv_at hl 0 rfl) ?_
            refine va_calli (va_runV (As := [.int x8_lp27856]) (rest := [.int x7_lp27856]) ⟨hx, hb, hml, hown, hwd⟩ (c_X12_gapsOf l dC dI g c adK adV v_lp27856 F_lp27856 rc H.size x8_lp27856 hg hI ) (cwV 1 hwd (gV wk_724 wk_721 wk_722 wk_723 wk_5) rfl rfl rfl (by decide +kernel) ⟨Nat.le_of_ble_eq_true rfl, Nat.le_of_ble_eq_true rfl⟩) ⟨PM.blind, va_recv hK hP (ci := 12) (q0 := 0) rfl rfl, fun U hU hW => ⟨rfl, PM.at hK hE hP hS hU hW⟩⟩ rfl rfl hl.1 rfl (lv_room (Nat.le_of_ble_eq_true rfl)) dX12_lacksOf_241 ⟨Nat.le_of_ble_eq_true rfl, Nat.le_of_ble_eq_true rfl⟩) hS (fun q _ h => (freeM hS) q h) (freeM hS) (fun r27873 u t H1 locs ht hvm hw hB hz1 hk1 hS => ?_)
            unfold BM at hB
            rw [ht] at hB
            have hP : va_P (dC, dI) classes (wM g c v_lp27856 F_lp27856 rc) H1 := hB
            generalize H1 = H at hP hS ⊢
            have rr_r27873 := i32_rng r27873
            refine lv_goto (tgt := 248) hx hb dX12_lacksOf_244 (by decide) ?_
            refine lv_iadd hx hb dX12_lacksOf_248 ?_
            refine lv_topi (fun z27874 e27875 => ?_)
            try (have t27876 := tadd e27875 (a := x7_lp27856.toInt) rfl (b := r27873.toInt) rfl (by omega))
            refine lv_istore (lv' := [(7, .int z27874), (8, .int x8_lp27856), (6, .int z27662), (5, .int z27659), (0, .ref (g 0)), (1, .int p0), (2, .int p1), (3, .int p2), (4, .int p3)]) hx hb dX12_lacksOf_249 hl (by decide) rfl (fun ls hl => ?_)
            obtain ⟨z27877, e27878⟩ : ∃ y : Int32, y = x8_lp27856 + 1 := ⟨_, rfl⟩
            try (have t27879 := tadd e27878 rfl (b := 1) (by decide) (by omega))
            refine lv_iinc (v := z27877) (lv' := [(8, .int z27877), (7, .int z27874), (6, .int z27662), (5, .int z27659), (0, .ref (g 0)), (1, .int p0), (2, .int p1), (3, .int p2), (4, .int p3)]) hx hb dX12_lacksOf_251 hl (k := 1) rfl (by rw [e27878]; rfl) (by decide) rfl (fun ls hl => ?_)
            refine lv_goto (tgt := 217) hx hb dX12_lacksOf_254 (by decide) ?_
            exact ih_lp27856 z27877 z27874 v_lp27856 F_lp27856 _ _ _ (by omega) (by omega) hf_lp27856 hI hF hP hS (lv_sub hl [0, 1, 2, 3, 4, 5, 6, 7, 8] rfl)
    obtain ⟨n9, hn9⟩ : ∃ n : Nat, 2147483648 - 0 ≤ (n : Int) := ⟨((2147483648 - 0 : Int)).toNat, by omega⟩
    exact lp27856 n9 0 0 v F H _ ls (by have : (0 : Int32).toInt = 0 := (by decide); have : (0 : Int32).toInt = 0 := (by decide); omega) (by have : (0 : Int32).toInt = 0 := (by decide); have : (0 : Int32).toInt = 0 := (by decide); omega) (fun _ _ => rfl) hI hF hP hS hl
  · refine lv_tableIn (off := 62) (tgt := 84) hx hb dX12_lacksOf_22 hlo27664 hhi27665 (by rw [hk]; decide) (by decide) ?_
    refine lv_iload hx hb dX12_lacksOf_84 (lv_at hl 1 rfl) ?_
    refine lv_bipush (v := 104) hx hb dX12_lacksOf_86 (by decide) ?_
    refine lv_icmp_ne (tgt := 95) hx hb dX12_lacksOf_88 (by decide) (fun c27880 => ?_) (fun c27880 => ?_)
    · skip
      have t27881 := cv_ne (a := z27662.toInt) rfl (b := 104) (by decide) c27880
      refine lv_iload hx hb dX12_lacksOf_95 (lv_at hl 1 rfl) ?_
      refine lv_bipush (v := 108) hx hb dX12_lacksOf_97 (by decide) ?_
      refine lv_icmp_ne (tgt := 106) hx hb dX12_lacksOf_99 (by decide) (fun c27882 => ?_) (fun c27882 => ?_)
      · skip
        have t27883 := cv_ne (a := z27662.toInt) rfl (b := 108) (by decide) c27882
        refine lv_iconst (v := 2) hx hb dX12_lacksOf_106 (by decide) ?_
        refine lv_istore (lv' := [(8, .int 2), (7, .int 0), (6, .int z27662), (5, .int z27659), (0, .ref (g 0)), (1, .int p0), (2, .int p1), (3, .int p2), (4, .int p3)]) hx hb dX12_lacksOf_107 hl (by decide) rfl (fun ls hl => ?_)
        refine lv_iconst (v := 0) hx hb dX12_lacksOf_109 (by decide) ?_
        refine lv_istore (lv' := [(9, .int 0), (8, .int 2), (7, .int 0), (6, .int z27662), (5, .int z27659), (0, .ref (g 0)), (1, .int p0), (2, .int p1), (3, .int p2), (4, .int p3)]) hx hb dX12_lacksOf_110 hl (by decide) rfl (fun ls hl => ?_)
        have lp27884 : ∀ (n : Nat) (x9_lp27884 : Int32) (x7_lp27884 : Int32) (v_lp27884 : Nat → Int32) (F_lp27884 : Nat → Nat → Int32) (H : Heap) (locs : List Loc) (ls : Array Slot), (0 ≤ x9_lp27884.toInt) → (2147483648 - x9_lp27884.toInt ≤ (n : Int)) → (∀ k, k ∉ ([] : List Nat) → v_lp27884 k = v k) → IM v_lp27884 F_lp27884 → (∀ k, k ∉ ([30, 31] : List Nat) → F_lp27884 k = F k) → va_P (dC, dI) classes (wM g c v_lp27884 F_lp27884 rc) H → va_S (AM g s.heap.size) s.heap H locs → lv_has ls 11 [(9, .int x9_lp27884), (8, .int 2), (7, .int x7_lp27884), (6, .int z27662), (5, .int z27659), (0, .ref (g 0)), (1, .int p0), (2, .int p1), (3, .int p2), (4, .int p3)] → W p l e (headSpec (Cond.code yX12_lacksOf cX12_lacksOf 11 (some .int) :: wA) ({ frames := 5, cells := 0, slots := 0, locals := 200 })).room s m ([.ref (g 0), .int p0, .int p1, .int p2, .int p3] : List Value).toArray below meth c0 H locs 0 0 (MQ below (va_Qi (fun (r : Int32) (u : StM) => IM u.1 u.2.1 ∧ u.2.2 = rc ∧ (∀ k, k ∉ ([] : List Nat) → u.1 k = v k) ∧ (∀ k, k ∉ ([30, 31] : List Nat) → u.2.1 k = F k) ∧ True) (BM dC dI g c) (AM g s.heap.size)) ([.ref (g 0), .int p0, .int p1, .int p2, .int p3] : List Value).toArray s 0 0 (AM g s.heap.size)) (F0 m 112 ls []) := by
          intro n
          induction n with
          | zero =>
            intro x9_lp27884 x7_lp27884 v_lp27884 F_lp27884 H locs ls t27885 hm hf_lp27884 hI hF hP hS hl
            exfalso
            have := i32_rng x9_lp27884
            have := i32_rng x7_lp27884
            have hI1 := hI.1
            omega
          | succ n ih_lp27884 =>
            intro x9_lp27884 x7_lp27884 v_lp27884 F_lp27884 H locs ls t27885 hm hf_lp27884 hI hF hP hS hl
            have rx9_lp27884 := i32_rng x9_lp27884
            have rx7_lp27884 := i32_rng x7_lp27884
            refine lv_iload hx hb dX12_lacksOf_112 (lv_at hl 0 rfl) ?_
            refine lv_aload_n hx hb dX12_lacksOf_114 rfl (lv_at hl 5 rfl) ?_
            refine va_get (D := (dC, dI)) (ci := 12) (v := .int (v_lp27884 14)) (C := RX12) (T := TX12) (N := 63) hx hb hwd inA_X12 hown hK hP 0 rfl rfl 14 (by decide) (hwd _ wk_318) (fun _ h9 => h9) rfl dX12_lacksOf_115 ?_
            refine my_top (v := v 14) (hf_lp27884 14 (by decide)) ?_
            have t27886 : 0 ≤ (v 14).toInt ∧ (v 14).toInt ≤ 100 := by have h9 := hI.1 14 _ _ rfl; rw [show v_lp27884 14 = v 14 from hf_lp27884 14 (by decide)] at h9; exact h9
            refine lv_icmp_ge (tgt := 211) hx hb dX12_lacksOf_118 (by decide) (fun c27887 => ?_) (fun c27887 => ?_)
            · skip
              have t27888 := cv_le (a := (v 14).toInt) rfl (b := x9_lp27884.toInt) rfl c27887
              refine lv_iload hx hb dX12_lacksOf_211 (lv_at hl 2 rfl) ?_
              have hP9 : va_P (dC, dI) classes (wM g c v_lp27884 F_lp27884 rc) H := hP
              exact W.iret (v := x7_lp27884) hx hb hr (fun t ht hW => ⟨⟨x7_lp27884, (v_lp27884, F_lp27884, rc), rfl, ⟨hI, rfl, (frC (by decide) hf_lp27884 (fun _ _ => rfl)), hF, trivial⟩, (by show va_P _ _ _ t.heap; rw [ht]; exact hP9)⟩, hS.F ht⟩) hS.2.2 dX12_lacksOf_213
            · skip
              have t27889 := cv_nle (a := (v 14).toInt) rfl (b := x9_lp27884.toInt) rfl c27887
              refine lv_aload_n hx hb dX12_lacksOf_121 rfl (lv_at hl 5 rfl) ?_
              refine va_get (D := (dC, dI)) (ci := 12) (v := .ref (g 42)) (C := RX12) (T := TX12) (N := 63) hx hb hwd inA_X12 hown hK hP 0 rfl rfl 56 (by decide) (hwd _ wk_224) (fun _ h9 => h9) rfl dX12_lacksOf_122 ?_
              refine lv_iload hx hb dX12_lacksOf_125 (lv_at hl 0 rfl) ?_
              refine va_zald hx hb hK hP 42 41 rfl rfl (i := x9_lp27884) (vin (a := x9_lp27884.toInt) rfl (by omega)) dX12_lacksOf_127 ?_
              refine lv_topi (fun z27890 e27891 => ?_)
              have e27891 : z27890 = F 42 (x9_lp27884 : Int32).toNatClampNeg := e27891.trans (congrFun (hF 42 (by decide)) _)
              refine lv_if_eq (tgt := 205) hx hb dX12_lacksOf_128 (by decide) (fun c27892 => ?_) (fun c27892 => ?_)
              · skip
                have t27893 := cv_eq (a := z27890.toInt) rfl (b := 0) (by decide) c27892
                obtain ⟨z27894, e27895⟩ : ∃ y : Int32, y = x9_lp27884 + 1 := ⟨_, rfl⟩
                try (have t27896 := tadd e27895 rfl (b := 1) (by decide) (by omega))
                refine lv_iinc (v := z27894) (lv' := [(9, .int z27894), (8, .int 2), (7, .int x7_lp27884), (6, .int z27662), (5, .int z27659), (0, .ref (g 0)), (1, .int p0), (2, .int p1), (3, .int p2), (4, .int p3)]) hx hb dX12_lacksOf_205 hl (k := 0) rfl (by rw [e27895]; rfl) (by decide) rfl (fun ls hl => ?_)
                refine lv_goto (tgt := 112) hx hb dX12_lacksOf_208 (by decide) ?_
                exact ih_lp27884 z27894 x7_lp27884 v_lp27884 F_lp27884 _ _ _ (by omega) (by omega) hf_lp27884 hI hF hP hS (lv_sub hl [0, 1, 2, 3, 4, 5, 6, 7, 8, 9] rfl)
              · skip
                have t27897 := cv_ne (a := z27890.toInt) rfl (b := 0) (by decide) c27892
                refine lv_aload_n hx hb dX12_lacksOf_131 rfl (lv_at hl 5 rfl) ?_
                refine va_get (D := (dC, dI)) (ci := 12) (v := .ref (g 11)) (C := RX12) (T := TX12) (N := 63) hx hb hwd inA_X12 hown hK hP 0 rfl rfl 15 (by decide) (hwd _ wk_192) (fun _ h9 => h9) rfl dX12_lacksOf_132 ?_
                refine lv_iload hx hb dX12_lacksOf_135 (lv_at hl 0 rfl) ?_
                refine va_iald hx hb hK hP 11 10 rfl rfl (i := x9_lp27884) (vin (a := x9_lp27884.toInt) rfl (by omega)) dX12_lacksOf_137 ?_
                refine lv_topi (fun z27898 e27899 => ?_)
                have t27900 : 0 ≤ z27898.toInt ∧ z27898.toInt ≤ 9 := by rw [e27899]; exact hI.2 11 _ _ rfl _
                have e27899 : z27898 = F 11 (x9_lp27884 : Int32).toNatClampNeg := e27899.trans (congrFun (hF 11 (by decide)) _)
                refine lv_aload_n hx hb dX12_lacksOf_138 rfl (lv_at hl 5 rfl) ?_
                refine va_get (D := (dC, dI)) (ci := 12) (v := .ref (g 39)) (C := RX12) (T := TX12) (N := 63) hx hb hwd inA_X12 hown hK hP 0 rfl rfl 53 (by decide) (hwd _ wk_221) (fun _ h9 => h9) rfl dX12_lacksOf_139 ?_
                refine lv_iload hx hb dX12_lacksOf_142 (lv_at hl 4 rfl) ?_
                refine va_iald hx hb hK hP 39 38 rfl rfl (i := z27659) (vin (a := z27659.toInt) rfl (by omega)) dX12_lacksOf_144 ?_
                refine lv_topi (fun z27901 e27902 => ?_)
                have e27902 : z27901 = F 39 (z27659 : Int32).toNatClampNeg := e27902.trans (congrFun (hF 39 (by decide)) _)
                refine lv_icmp_ne (tgt := 205) hx hb dX12_lacksOf_145 (by decide) (fun c27903 => ?_) (fun c27903 => ?_)
                · skip
                  have t27904 := cv_ne (a := z27898.toInt) rfl (b := z27901.toInt) rfl c27903
                  obtain ⟨z27905, e27906⟩ : ∃ y : Int32, y = x9_lp27884 + 1 := ⟨_, rfl⟩
                  try (have t27907 := tadd e27906 rfl (b := 1) (by decide) (by omega))
                  refine lv_iinc (v := z27905) (lv' := [(9, .int z27905), (8, .int 2), (7, .int x7_lp27884), (6, .int z27662), (5, .int z27659), (0, .ref (g 0)), (1, .int p0), (2, .int p1), (3, .int p2), (4, .int p3)]) hx hb dX12_lacksOf_205 hl (k := 0) rfl (by rw [e27906]; rfl) (by decide) rfl (fun ls hl => ?_)
                  refine lv_goto (tgt := 112) hx hb dX12_lacksOf_208 (by decide) ?_
                  exact ih_lp27884 z27905 x7_lp27884 v_lp27884 F_lp27884 _ _ _ (by omega) (by omega) hf_lp27884 hI hF hP hS (lv_sub hl [0, 1, 2, 3, 4, 5, 6, 7, 8, 9] rfl)
                · skip
                  have t27908 := cv_eq (a := z27898.toInt) rfl (b := z27901.toInt) rfl c27903
                  refine lv_aload_n hx hb dX12_lacksOf_148 rfl (lv_at hl 5 rfl) ?_
                  refine lv_iload hx hb dX12_lacksOf_149 (lv_at hl 0 rfl) ?_
                  refine lv_iload hx hb dX12_lacksOf_151 (lv_at hl 1 rfl) ?_
                  refine va_calli (va_runV (As := [.int x9_lp27884, .int 2]) (rest := []) ⟨hx, hb, hml, hown, hwd⟩ (c_X12_limitOf l dC dI g c adK adV v_lp27884 F_lp27884 rc H.size x9_lp27884 2 hg hI (by omega) (by have : (2 : Int32).toInt = 2 := (by decide); omega)) (cwV 2 hwd (gV wk_489 wk_486 wk_487 wk_488 wk_5) rfl rfl rfl (by decide +kernel) ⟨Nat.le_of_ble_eq_true rfl, Nat.le_of_ble_eq_true rfl⟩) ⟨PM.blind, va_recv hK hP (ci := 12) (q0 := 0) rfl rfl, fun U hU hW => ⟨rfl, PM.at hK hE hP hS hU hW⟩⟩ rfl rfl hl.1 rfl (lv_room (Nat.le_of_ble_eq_true rfl)) dX12_lacksOf_153 ⟨Nat.le_of_ble_eq_true rfl, Nat.le_of_ble_eq_true rfl⟩) hS (fun q _ h => (freeM hS) q h) (freeM hS) (fun r27909 u t H1 locs ht hvm hw hB hz1 hk1 hS => ?_)
                  unfold BM at hB
                  rw [ht] at hB
                  have hP : va_P (dC, dI) classes (wM g c v_lp27884 F_lp27884 rc) H1 := hB
                  have hw : r27909.toInt = (F_lp27884 1 (limJ (F_lp27884 11) x9_lp27884 (2 : Int32))).toInt := hw
                  rw [hF 1 (by decide)] at hw
                  rw [hF 11 (by decide)] at hw
                  have hw_r27909 := hw
                  have k27910 : (2 : Int32).toInt = 2 := by decide
                  generalize H1 = H at hP hS ⊢
                  refine lv_if_ne (tgt := 162) hx hb dX12_lacksOf_156 (by decide) (fun c27911 => ?_) (fun c27911 => ?_)
                  · skip
                    have t27912 := cv_ne (a := r27909.toInt) rfl (b := 0) (by decide) c27911
                    refine lv_aload_n hx hb dX12_lacksOf_162 rfl (lv_at hl 5 rfl) ?_
                    refine lv_iload hx hb dX12_lacksOf_163 (lv_at hl 0 rfl) ?_
                    refine lv_iload hx hb dX12_lacksOf_165 (lv_at hl 1 rfl) ?_
                    refine lv_iload hx hb dX12_lacksOf_167 (lv_at hl 9 rfl) ?_
                    refine va_calli (va_runV (As := [.int x9_lp27884, .int 2, .int p3]) (rest := []) ⟨hx, hb, hml, hown, hwd⟩ (c_X12_leftOf l dC dI g c adK adV v_lp27884 F_lp27884 rc H.size x9_lp27884 2 p3 hg hI (by omega) (by have : (2 : Int32).toInt = 2 := (by decide); omega) (JL.to hL (show v_lp27884 31 = v 31 from hf_lp27884 31 (by decide)) (hF 28 (by decide)) (hF 29 (by decide)) (hF 27 (by decide)))) (cwV 3 hwd (gV wk_493 wk_490 wk_491 wk_492 wk_5) rfl rfl rfl (by decide +kernel) ⟨Nat.le_of_ble_eq_true rfl, Nat.le_of_ble_eq_true rfl⟩) ⟨PM.blind, va_recv hK hP (ci := 12) (q0 := 0) rfl rfl, fun U hU hW => ⟨rfl, PM.at hK hE hP hS hU hW⟩⟩ rfl rfl hl.1 rfl (lv_room (Nat.le_of_ble_eq_true rfl)) dX12_lacksOf_169 ⟨Nat.le_of_ble_eq_true rfl, Nat.le_of_ble_eq_true rfl⟩) hS (fun q _ h => (freeM hS) q h) (freeM hS) (fun r27913 u t H1 locs ht hvm hw hB hz1 hk1 hS => ?_)
                    unfold BM at hB
                    rw [ht] at hB
                    obtain ⟨v27914, F27915, rc9⟩ := u
                    obtain ⟨hI, hrc, hf27916, hG27917, hw⟩ := hw
                    dsimp only at hI hrc hB hf27916 hG27917 hw
                    have hF := frCF (by decide) hG27917 hF
                    rw [hrc] at hB
                    have hP : va_P (dC, dI) classes (wM g c v27914 F27915 rc) H1 := hB
                    generalize H1 = H at hP hS ⊢
                    have rr_r27913 := i32_rng r27913
                    refine lv_istore (lv' := [(10, .int r27913), (9, .int x9_lp27884), (8, .int 2), (7, .int x7_lp27884), (6, .int z27662), (5, .int z27659), (0, .ref (g 0)), (1, .int p0), (2, .int p1), (3, .int p2), (4, .int p3)]) hx hb dX12_lacksOf_172 hl (by decide) rfl (fun ls hl => ?_)
                    refine lv_iload hx hb dX12_lacksOf_174 (lv_at hl 3 rfl) ?_
                    refine lv_iload hx hb dX12_lacksOf_176 (lv_at hl 0 rfl) ?_
                    refine lv_aload_n hx hb dX12_lacksOf_178 rfl (lv_at hl 6 rfl) ?_
                    refine va_get (D := (dC, dI)) (ci := 12) (v := .ref (g 40)) (C := RX12) (T := TX12) (N := 63) hx hb hwd inA_X12 hown hK hP 0 rfl rfl 54 (by decide) (hwd _ wk_222) (fun _ h9 => h9) rfl dX12_lacksOf_179 ?_
                    refine lv_iload hx hb dX12_lacksOf_182 (lv_at hl 5 rfl) ?_
                    refine va_iald hx hb hK hP 40 39 rfl rfl (i := z27659) (vin (a := z27659.toInt) rfl (by omega)) dX12_lacksOf_184 ?_
                    refine lv_topi (fun z27918 e27919 => ?_)
                    have e27919 : z27918 = F 40 (z27659 : Int32).toNatClampNeg := e27919.trans (congrFun (hF 40 (by decide)) _)
                    refine lv_icmp_ge (tgt := 201) hx hb dX12_lacksOf_185 (by decide) (fun c27920 => ?_) (fun c27920 => ?_)
                    · skip
                      have t27921 := cv_le (a := z27918.toInt) rfl (b := r27913.toInt) rfl c27920
                      refine lv_iconst (v := 0) hx hb dX12_lacksOf_201 (by decide) ?_
                      refine lv_iadd hx hb dX12_lacksOf_202 ?_
                      refine lv_topi (fun z27922 e27923 => ?_)
                      try (have t27924 := tadd e27923 (a := x7_lp27884.toInt) rfl (b := 0) (by decide) (by omega))
                      refine lv_istore (lv' := [(7, .int z27922), (10, .int r27913), (9, .int x9_lp27884), (8, .int 2), (6, .int z27662), (5, .int z27659), (0, .ref (g 0)), (1, .int p0), (2, .int p1), (3, .int p2), (4, .int p3)]) hx hb dX12_lacksOf_203 hl (by decide) rfl (fun ls hl => ?_)
                      obtain ⟨z27925, e27926⟩ : ∃ y : Int32, y = x9_lp27884 + 1 := ⟨_, rfl⟩
                      try (have t27927 := tadd e27926 rfl (b := 1) (by decide) (by omega))
                      refine lv_iinc (v := z27925) (lv' := [(9, .int z27925), (7, .int z27922), (10, .int r27913), (8, .int 2), (6, .int z27662), (5, .int z27659), (0, .ref (g 0)), (1, .int p0), (2, .int p1), (3, .int p2), (4, .int p3)]) hx hb dX12_lacksOf_205 hl (k := 2) rfl (by rw [e27926]; rfl) (by decide) rfl (fun ls hl => ?_)
                      refine lv_goto (tgt := 112) hx hb dX12_lacksOf_208 (by decide) ?_
                      exact ih_lp27884 z27925 z27922 v27914 F27915 _ _ _ (by omega) (by omega) (frC (by decide) hf27916 hf_lp27884) hI hF hP hS (lv_sub hl [0, 3, 1, 4, 5, 6, 7, 8, 9, 10] rfl)
                    · skip
                      have t27928 := cv_nle (a := z27918.toInt) rfl (b := r27913.toInt) rfl c27920
                      refine lv_aload_n hx hb dX12_lacksOf_188 rfl (lv_at hl 6 rfl) ?_
                      refine va_get (D := (dC, dI)) (ci := 12) (v := .ref (g 40)) (C := RX12) (T := TX12) (N := 63) hx hb hwd inA_X12 hown hK hP 0 rfl rfl 54 (by decide) (hwd _ wk_222) (fun _ h9 => h9) rfl dX12_lacksOf_189 ?_
                      refine lv_iload hx hb dX12_lacksOf_192 (lv_at hl 5 rfl) ?_
                      refine va_iald hx hb hK hP 40 39 rfl rfl (i := z27659) (vin (a := z27659.toInt) rfl (by omega)) dX12_lacksOf_194 ?_
                      refine lv_topi (fun z27929 e27930 => ?_)
                      have e27930 : z27929 = F 40 (z27659 : Int32).toNatClampNeg := e27930.trans (congrFun (hF 40 (by decide)) _)
                      refine lv_iload hx hb dX12_lacksOf_195 (lv_at hl 0 rfl) ?_
                      refine lv_isub hx hb dX12_lacksOf_197 ?_
                      refine lv_topi (fun z27931 e27932 => ?_)
                      try (have t27933 := tsub e27932 (a := z27929.toInt) rfl (b := r27913.toInt) rfl (by omega))
                      refine lv_goto (tgt := 202) hx hb dX12_lacksOf_198 (by decide) ?_
                      refine lv_iadd hx hb dX12_lacksOf_202 ?_
                      refine lv_topi (fun z27934 e27935 => ?_)
                      try (have t27936 := tadd e27935 (a := x7_lp27884.toInt) rfl (b := z27931.toInt) rfl (by omega))
                      refine lv_istore (lv' := [(7, .int z27934), (10, .int r27913), (9, .int x9_lp27884), (8, .int 2), (6, .int z27662), (5, .int z27659), (0, .ref (g 0)), (1, .int p0), (2, .int p1), (3, .int p2), (4, .int p3)]) hx hb dX12_lacksOf_203 hl (by decide) rfl (fun ls hl => ?_)
                      obtain ⟨z27937, e27938⟩ : ∃ y : Int32, y = x9_lp27884 + 1 := ⟨_, rfl⟩
                      try (have t27939 := tadd e27938 rfl (b := 1) (by decide) (by omega))
                      refine lv_iinc (v := z27937) (lv' := [(9, .int z27937), (7, .int z27934), (10, .int r27913), (8, .int 2), (6, .int z27662), (5, .int z27659), (0, .ref (g 0)), (1, .int p0), (2, .int p1), (3, .int p2), (4, .int p3)]) hx hb dX12_lacksOf_205 hl (k := 2) rfl (by rw [e27938]; rfl) (by decide) rfl (fun ls hl => ?_)
                      refine lv_goto (tgt := 112) hx hb dX12_lacksOf_208 (by decide) ?_
                      exact ih_lp27884 z27937 z27934 v27914 F27915 _ _ _ (by omega) (by omega) (frC (by decide) hf27916 hf_lp27884) hI hF hP hS (lv_sub hl [0, 3, 1, 4, 5, 6, 7, 8, 9, 10] rfl)
                  · skip
                    have t27940 := cv_eq (a := r27909.toInt) rfl (b := 0) (by decide) c27911
                    refine lv_goto (tgt := 205) hx hb dX12_lacksOf_159 (by decide) ?_
                    obtain ⟨z27941, e27942⟩ : ∃ y : Int32, y = x9_lp27884 + 1 := ⟨_, rfl⟩
                    try (have t27943 := tadd e27942 rfl (b := 1) (by decide) (by omega))
                    refine lv_iinc (v := z27941) (lv' := [(9, .int z27941), (8, .int 2), (7, .int x7_lp27884), (6, .int z27662), (5, .int z27659), (0, .ref (g 0)), (1, .int p0), (2, .int p1), (3, .int p2), (4, .int p3)]) hx hb dX12_lacksOf_205 hl (k := 0) rfl (by rw [e27942]; rfl) (by decide) rfl (fun ls hl => ?_)
                    refine lv_goto (tgt := 112) hx hb dX12_lacksOf_208 (by decide) ?_
                    exact ih_lp27884 z27941 x7_lp27884 v_lp27884 F_lp27884 _ _ _ (by omega) (by omega) hf_lp27884 hI hF hP hS (lv_sub hl [0, 1, 2, 3, 4, 5, 6, 7, 8, 9] rfl)
        obtain ⟨n9, hn9⟩ : ∃ n : Nat, 2147483648 - 0 ≤ (n : Int) := ⟨((2147483648 - 0 : Int)).toNat, by omega⟩
        exact lp27884 n9 0 0 v F H _ ls (by have : (0 : Int32).toInt = 0 := (by decide); have : (0 : Int32).toInt = 0 := (by decide); omega) (by have : (0 : Int32).toInt = 0 := (by decide); have : (0 : Int32).toInt = 0 := (by decide); omega) (fun _ _ => rfl) hI hF hP hS hl
      · skip
        have t27944 := cv_eq (a := z27662.toInt) rfl (b := 108) (by decide) c27882
        refine lv_iconst (v := 1) hx hb dX12_lacksOf_102 (by decide) ?_
        refine lv_goto (tgt := 107) hx hb dX12_lacksOf_103 (by decide) ?_
        refine lv_istore (lv' := [(8, .int 1), (7, .int 0), (6, .int z27662), (5, .int z27659), (0, .ref (g 0)), (1, .int p0), (2, .int p1), (3, .int p2), (4, .int p3)]) hx hb dX12_lacksOf_107 hl (by decide) rfl (fun ls hl => ?_)
        refine lv_iconst (v := 0) hx hb dX12_lacksOf_109 (by decide) ?_
        refine lv_istore (lv' := [(9, .int 0), (8, .int 1), (7, .int 0), (6, .int z27662), (5, .int z27659), (0, .ref (g 0)), (1, .int p0), (2, .int p1), (3, .int p2), (4, .int p3)]) hx hb dX12_lacksOf_110 hl (by decide) rfl (fun ls hl => ?_)
        have lp27945 : ∀ (n : Nat) (x9_lp27945 : Int32) (x7_lp27945 : Int32) (v_lp27945 : Nat → Int32) (F_lp27945 : Nat → Nat → Int32) (H : Heap) (locs : List Loc) (ls : Array Slot), (0 ≤ x9_lp27945.toInt) → (2147483648 - x9_lp27945.toInt ≤ (n : Int)) → (∀ k, k ∉ ([] : List Nat) → v_lp27945 k = v k) → IM v_lp27945 F_lp27945 → (∀ k, k ∉ ([30, 31] : List Nat) → F_lp27945 k = F k) → va_P (dC, dI) classes (wM g c v_lp27945 F_lp27945 rc) H → va_S (AM g s.heap.size) s.heap H locs → lv_has ls 11 [(9, .int x9_lp27945), (8, .int 1), (7, .int x7_lp27945), (6, .int z27662), (5, .int z27659), (0, .ref (g 0)), (1, .int p0), (2, .int p1), (3, .int p2), (4, .int p3)] → W p l e (headSpec (Cond.code yX12_lacksOf cX12_lacksOf 11 (some .int) :: wA) ({ frames := 5, cells := 0, slots := 0, locals := 200 })).room s m ([.ref (g 0), .int p0, .int p1, .int p2, .int p3] : List Value).toArray below meth c0 H locs 0 0 (MQ below (va_Qi (fun (r : Int32) (u : StM) => IM u.1 u.2.1 ∧ u.2.2 = rc ∧ (∀ k, k ∉ ([] : List Nat) → u.1 k = v k) ∧ (∀ k, k ∉ ([30, 31] : List Nat) → u.2.1 k = F k) ∧ True) (BM dC dI g c) (AM g s.heap.size)) ([.ref (g 0), .int p0, .int p1, .int p2, .int p3] : List Value).toArray s 0 0 (AM g s.heap.size)) (F0 m 112 ls []) := by
          intro n
          induction n with
          | zero =>
            intro x9_lp27945 x7_lp27945 v_lp27945 F_lp27945 H locs ls t27946 hm hf_lp27945 hI hF hP hS hl
            exfalso
            have := i32_rng x9_lp27945
            have := i32_rng x7_lp27945
            have hI1 := hI.1
            omega
          | succ n ih_lp27945 =>
            intro x9_lp27945 x7_lp27945 v_lp27945 F_lp27945 H locs ls t27946 hm hf_lp27945 hI hF hP hS hl
            have rx9_lp27945 := i32_rng x9_lp27945
            have rx7_lp27945 := i32_rng x7_lp27945
            refine lv_iload hx hb dX12_lacksOf_112 (lv_at hl 0 rfl) ?_
            refine lv_aload_n hx hb dX12_lacksOf_114 rfl (lv_at hl 5 rfl) ?_
            refine va_get (D := (dC, dI)) (ci := 12) (v := .int (v_lp27945 14)) (C := RX12) (T := TX12) (N := 63) hx hb hwd inA_X12 hown hK hP 0 rfl rfl 14 (by decide) (hwd _ wk_318) (fun _ h9 => h9) rfl dX12_lacksOf_115 ?_
            refine my_top (v := v 14) (hf_lp27945 14 (by decide)) ?_
            have t27947 : 0 ≤ (v 14).toInt ∧ (v 14).toInt ≤ 100 := by have h9 := hI.1 14 _ _ rfl; rw [show v_lp27945 14 = v 14 from hf_lp27945 14 (by decide)] at h9; exact h9
            refine lv_icmp_ge (tgt := 211) hx hb dX12_lacksOf_118 (by decide) (fun c27948 => ?_) (fun c27948 => ?_)
            · skip
              have t27949 := cv_le (a := (v 14).toInt) rfl (b := x9_lp27945.toInt) rfl c27948
              refine lv_iload hx hb dX12_lacksOf_211 (lv_at hl 2 rfl) ?_
              have hP9 : va_P (dC, dI) classes (wM g c v_lp27945 F_lp27945 rc) H := hP
              exact W.iret (v := x7_lp27945) hx hb hr (fun t ht hW => ⟨⟨x7_lp27945, (v_lp27945, F_lp27945, rc), rfl, ⟨hI, rfl, (frC (by decide) hf_lp27945 (fun _ _ => rfl)), hF, trivial⟩, (by show va_P _ _ _ t.heap; rw [ht]; exact hP9)⟩, hS.F ht⟩) hS.2.2 dX12_lacksOf_213
            · skip
              have t27950 := cv_nle (a := (v 14).toInt) rfl (b := x9_lp27945.toInt) rfl c27948
              refine lv_aload_n hx hb dX12_lacksOf_121 rfl (lv_at hl 5 rfl) ?_
              refine va_get (D := (dC, dI)) (ci := 12) (v := .ref (g 42)) (C := RX12) (T := TX12) (N := 63) hx hb hwd inA_X12 hown hK hP 0 rfl rfl 56 (by decide) (hwd _ wk_224) (fun _ h9 => h9) rfl dX12_lacksOf_122 ?_
              refine lv_iload hx hb dX12_lacksOf_125 (lv_at hl 0 rfl) ?_
              refine va_zald hx hb hK hP 42 41 rfl rfl (i := x9_lp27945) (vin (a := x9_lp27945.toInt) rfl (by omega)) dX12_lacksOf_127 ?_
              refine lv_topi (fun z27951 e27952 => ?_)
              have e27952 : z27951 = F 42 (x9_lp27945 : Int32).toNatClampNeg := e27952.trans (congrFun (hF 42 (by decide)) _)
              refine lv_if_eq (tgt := 205) hx hb dX12_lacksOf_128 (by decide) (fun c27953 => ?_) (fun c27953 => ?_)
              · skip
                have t27954 := cv_eq (a := z27951.toInt) rfl (b := 0) (by decide) c27953
                obtain ⟨z27955, e27956⟩ : ∃ y : Int32, y = x9_lp27945 + 1 := ⟨_, rfl⟩
                try (have t27957 := tadd e27956 rfl (b := 1) (by decide) (by omega))
                refine lv_iinc (v := z27955) (lv' := [(9, .int z27955), (8, .int 1), (7, .int x7_lp27945), (6, .int z27662), (5, .int z27659), (0, .ref (g 0)), (1, .int p0), (2, .int p1), (3, .int p2), (4, .int p3)]) hx hb dX12_lacksOf_205 hl (k := 0) rfl (by rw [e27956]; rfl) (by decide) rfl (fun ls hl => ?_)
                refine lv_goto (tgt := 112) hx hb dX12_lacksOf_208 (by decide) ?_
                exact ih_lp27945 z27955 x7_lp27945 v_lp27945 F_lp27945 _ _ _ (by omega) (by omega) hf_lp27945 hI hF hP hS (lv_sub hl [0, 1, 2, 3, 4, 5, 6, 7, 8, 9] rfl)
              · skip
                have t27958 := cv_ne (a := z27951.toInt) rfl (b := 0) (by decide) c27953
                refine lv_aload_n hx hb dX12_lacksOf_131 rfl (lv_at hl 5 rfl) ?_
                refine va_get (D := (dC, dI)) (ci := 12) (v := .ref (g 11)) (C := RX12) (T := TX12) (N := 63) hx hb hwd inA_X12 hown hK hP 0 rfl rfl 15 (by decide) (hwd _ wk_192) (fun _ h9 => h9) rfl dX12_lacksOf_132 ?_
                refine lv_iload hx hb dX12_lacksOf_135 (lv_at hl 0 rfl) ?_
                refine va_iald hx hb hK hP 11 10 rfl rfl (i := x9_lp27945) (vin (a := x9_lp27945.toInt) rfl (by omega)) dX12_lacksOf_137 ?_
                refine lv_topi (fun z27959 e27960 => ?_)
                have t27961 : 0 ≤ z27959.toInt ∧ z27959.toInt ≤ 9 := by rw [e27960]; exact hI.2 11 _ _ rfl _
                have e27960 : z27959 = F 11 (x9_lp27945 : Int32).toNatClampNeg := e27960.trans (congrFun (hF 11 (by decide)) _)
                refine lv_aload_n hx hb dX12_lacksOf_138 rfl (lv_at hl 5 rfl) ?_
                refine va_get (D := (dC, dI)) (ci := 12) (v := .ref (g 39)) (C := RX12) (T := TX12) (N := 63) hx hb hwd inA_X12 hown hK hP 0 rfl rfl 53 (by decide) (hwd _ wk_221) (fun _ h9 => h9) rfl dX12_lacksOf_139 ?_
                refine lv_iload hx hb dX12_lacksOf_142 (lv_at hl 4 rfl) ?_
                refine va_iald hx hb hK hP 39 38 rfl rfl (i := z27659) (vin (a := z27659.toInt) rfl (by omega)) dX12_lacksOf_144 ?_
                refine lv_topi (fun z27962 e27963 => ?_)
                have e27963 : z27962 = F 39 (z27659 : Int32).toNatClampNeg := e27963.trans (congrFun (hF 39 (by decide)) _)
                refine lv_icmp_ne (tgt := 205) hx hb dX12_lacksOf_145 (by decide) (fun c27964 => ?_) (fun c27964 => ?_)
                · skip
                  have t27965 := cv_ne (a := z27959.toInt) rfl (b := z27962.toInt) rfl c27964
                  obtain ⟨z27966, e27967⟩ : ∃ y : Int32, y = x9_lp27945 + 1 := ⟨_, rfl⟩
                  try (have t27968 := tadd e27967 rfl (b := 1) (by decide) (by omega))
                  refine lv_iinc (v := z27966) (lv' := [(9, .int z27966), (8, .int 1), (7, .int x7_lp27945), (6, .int z27662), (5, .int z27659), (0, .ref (g 0)), (1, .int p0), (2, .int p1), (3, .int p2), (4, .int p3)]) hx hb dX12_lacksOf_205 hl (k := 0) rfl (by rw [e27967]; rfl) (by decide) rfl (fun ls hl => ?_)
                  refine lv_goto (tgt := 112) hx hb dX12_lacksOf_208 (by decide) ?_
                  exact ih_lp27945 z27966 x7_lp27945 v_lp27945 F_lp27945 _ _ _ (by omega) (by omega) hf_lp27945 hI hF hP hS (lv_sub hl [0, 1, 2, 3, 4, 5, 6, 7, 8, 9] rfl)
                · skip
                  have t27969 := cv_eq (a := z27959.toInt) rfl (b := z27962.toInt) rfl c27964
                  refine lv_aload_n hx hb dX12_lacksOf_148 rfl (lv_at hl 5 rfl) ?_
                  refine lv_iload hx hb dX12_lacksOf_149 (lv_at hl 0 rfl) ?_
                  refine lv_iload hx hb dX12_lacksOf_151 (lv_at hl 1 rfl) ?_
                  refine va_calli (va_runV (As := [.int x9_lp27945, .int 1]) (rest := []) ⟨hx, hb, hml, hown, hwd⟩ (c_X12_limitOf l dC dI g c adK adV v_lp27945 F_lp27945 rc H.size x9_lp27945 1 hg hI (by omega) (by have : (1 : Int32).toInt = 1 := (by decide); omega)) (cwV 2 hwd (gV wk_489 wk_486 wk_487 wk_488 wk_5) rfl rfl rfl (by decide +kernel) ⟨Nat.le_of_ble_eq_true rfl, Nat.le_of_ble_eq_true rfl⟩) ⟨PM.blind, va_recv hK hP (ci := 12) (q0 := 0) rfl rfl, fun U hU hW => ⟨rfl, PM.at hK hE hP hS hU hW⟩⟩ rfl rfl hl.1 rfl (lv_room (Nat.le_of_ble_eq_true rfl)) dX12_lacksOf_153 ⟨Nat.le_of_ble_eq_true rfl, Nat.le_of_ble_eq_true rfl⟩) hS (fun q _ h => (freeM hS) q h) (freeM hS) (fun r27970 u t H1 locs ht hvm hw hB hz1 hk1 hS => ?_)
                  unfold BM at hB
                  rw [ht] at hB
                  have hP : va_P (dC, dI) classes (wM g c v_lp27945 F_lp27945 rc) H1 := hB
                  have hw : r27970.toInt = (F_lp27945 1 (limJ (F_lp27945 11) x9_lp27945 (1 : Int32))).toInt := hw
                  rw [hF 1 (by decide)] at hw
                  rw [hF 11 (by decide)] at hw
                  have hw_r27970 := hw
                  have k27971 : (1 : Int32).toInt = 1 := by decide
                  generalize H1 = H at hP hS ⊢
                  refine lv_if_ne (tgt := 162) hx hb dX12_lacksOf_156 (by decide) (fun c27972 => ?_) (fun c27972 => ?_)
                  · skip
                    have t27973 := cv_ne (a := r27970.toInt) rfl (b := 0) (by decide) c27972
                    refine lv_aload_n hx hb dX12_lacksOf_162 rfl (lv_at hl 5 rfl) ?_
                    refine lv_iload hx hb dX12_lacksOf_163 (lv_at hl 0 rfl) ?_
                    refine lv_iload hx hb dX12_lacksOf_165 (lv_at hl 1 rfl) ?_
                    refine lv_iload hx hb dX12_lacksOf_167 (lv_at hl 9 rfl) ?_
                    refine va_calli (va_runV (As := [.int x9_lp27945, .int 1, .int p3]) (rest := []) ⟨hx, hb, hml, hown, hwd⟩ (c_X12_leftOf l dC dI g c adK adV v_lp27945 F_lp27945 rc H.size x9_lp27945 1 p3 hg hI (by omega) (by have : (1 : Int32).toInt = 1 := (by decide); omega) (JL.to hL (show v_lp27945 31 = v 31 from hf_lp27945 31 (by decide)) (hF 28 (by decide)) (hF 29 (by decide)) (hF 27 (by decide)))) (cwV 3 hwd (gV wk_493 wk_490 wk_491 wk_492 wk_5) rfl rfl rfl (by decide +kernel) ⟨Nat.le_of_ble_eq_true rfl, Nat.le_of_ble_eq_true rfl⟩) ⟨PM.blind, va_recv hK hP (ci := 12) (q0 := 0) rfl rfl, fun U hU hW => ⟨rfl, PM.at hK hE hP hS hU hW⟩⟩ rfl rfl hl.1 rfl (lv_room (Nat.le_of_ble_eq_true rfl)) dX12_lacksOf_169 ⟨Nat.le_of_ble_eq_true rfl, Nat.le_of_ble_eq_true rfl⟩) hS (fun q _ h => (freeM hS) q h) (freeM hS) (fun r27974 u t H1 locs ht hvm hw hB hz1 hk1 hS => ?_)
                    unfold BM at hB
                    rw [ht] at hB
                    obtain ⟨v27975, F27976, rc9⟩ := u
                    obtain ⟨hI, hrc, hf27977, hG27978, hw⟩ := hw
                    dsimp only at hI hrc hB hf27977 hG27978 hw
                    have hF := frCF (by decide) hG27978 hF
                    rw [hrc] at hB
                    have hP : va_P (dC, dI) classes (wM g c v27975 F27976 rc) H1 := hB
                    generalize H1 = H at hP hS ⊢
                    have rr_r27974 := i32_rng r27974
                    refine lv_istore (lv' := [(10, .int r27974), (9, .int x9_lp27945), (8, .int 1), (7, .int x7_lp27945), (6, .int z27662), (5, .int z27659), (0, .ref (g 0)), (1, .int p0), (2, .int p1), (3, .int p2), (4, .int p3)]) hx hb dX12_lacksOf_172 hl (by decide) rfl (fun ls hl => ?_)
                    refine lv_iload hx hb dX12_lacksOf_174 (lv_at hl 3 rfl) ?_
                    refine lv_iload hx hb dX12_lacksOf_176 (lv_at hl 0 rfl) ?_
                    refine lv_aload_n hx hb dX12_lacksOf_178 rfl (lv_at hl 6 rfl) ?_
                    refine va_get (D := (dC, dI)) (ci := 12) (v := .ref (g 40)) (C := RX12) (T := TX12) (N := 63) hx hb hwd inA_X12 hown hK hP 0 rfl rfl 54 (by decide) (hwd _ wk_222) (fun _ h9 => h9) rfl dX12_lacksOf_179 ?_
                    refine lv_iload hx hb dX12_lacksOf_182 (lv_at hl 5 rfl) ?_
                    refine va_iald hx hb hK hP 40 39 rfl rfl (i := z27659) (vin (a := z27659.toInt) rfl (by omega)) dX12_lacksOf_184 ?_
                    refine lv_topi (fun z27979 e27980 => ?_)
                    have e27980 : z27979 = F 40 (z27659 : Int32).toNatClampNeg := e27980.trans (congrFun (hF 40 (by decide)) _)
                    refine lv_icmp_ge (tgt := 201) hx hb dX12_lacksOf_185 (by decide) (fun c27981 => ?_) (fun c27981 => ?_)
                    · skip
                      have t27982 := cv_le (a := z27979.toInt) rfl (b := r27974.toInt) rfl c27981
                      refine lv_iconst (v := 0) hx hb dX12_lacksOf_201 (by decide) ?_
                      refine lv_iadd hx hb dX12_lacksOf_202 ?_
                      refine lv_topi (fun z27983 e27984 => ?_)
                      try (have t27985 := tadd e27984 (a := x7_lp27945.toInt) rfl (b := 0) (by decide) (by omega))
                      refine lv_istore (lv' := [(7, .int z27983), (10, .int r27974), (9, .int x9_lp27945), (8, .int 1), (6, .int z27662), (5, .int z27659), (0, .ref (g 0)), (1, .int p0), (2, .int p1), (3, .int p2), (4, .int p3)]) hx hb dX12_lacksOf_203 hl (by decide) rfl (fun ls hl => ?_)
                      obtain ⟨z27986, e27987⟩ : ∃ y : Int32, y = x9_lp27945 + 1 := ⟨_, rfl⟩
                      try (have t27988 := tadd e27987 rfl (b := 1) (by decide) (by omega))
                      refine lv_iinc (v := z27986) (lv' := [(9, .int z27986), (7, .int z27983), (10, .int r27974), (8, .int 1), (6, .int z27662), (5, .int z27659), (0, .ref (g 0)), (1, .int p0), (2, .int p1), (3, .int p2), (4, .int p3)]) hx hb dX12_lacksOf_205 hl (k := 2) rfl (by rw [e27987]; rfl) (by decide) rfl (fun ls hl => ?_)
                      refine lv_goto (tgt := 112) hx hb dX12_lacksOf_208 (by decide) ?_
                      exact ih_lp27945 z27986 z27983 v27975 F27976 _ _ _ (by omega) (by omega) (frC (by decide) hf27977 hf_lp27945) hI hF hP hS (lv_sub hl [0, 3, 1, 4, 5, 6, 7, 8, 9, 10] rfl)
                    · skip
                      have t27989 := cv_nle (a := z27979.toInt) rfl (b := r27974.toInt) rfl c27981
                      refine lv_aload_n hx hb dX12_lacksOf_188 rfl (lv_at hl 6 rfl) ?_
                      refine va_get (D := (dC, dI)) (ci := 12) (v := .ref (g 40)) (C := RX12) (T := TX12) (N := 63) hx hb hwd inA_X12 hown hK hP 0 rfl rfl 54 (by decide) (hwd _ wk_222) (fun _ h9 => h9) rfl dX12_lacksOf_189 ?_
                      refine lv_iload hx hb dX12_lacksOf_192 (lv_at hl 5 rfl) ?_
                      refine va_iald hx hb hK hP 40 39 rfl rfl (i := z27659) (vin (a := z27659.toInt) rfl (by omega)) dX12_lacksOf_194 ?_
                      refine lv_topi (fun z27990 e27991 => ?_)
                      have e27991 : z27990 = F 40 (z27659 : Int32).toNatClampNeg := e27991.trans (congrFun (hF 40 (by decide)) _)
                      refine lv_iload hx hb dX12_lacksOf_195 (lv_at hl 0 rfl) ?_
                      refine lv_isub hx hb dX12_lacksOf_197 ?_
                      refine lv_topi (fun z27992 e27993 => ?_)
                      try (have t27994 := tsub e27993 (a := z27990.toInt) rfl (b := r27974.toInt) rfl (by omega))
                      refine lv_goto (tgt := 202) hx hb dX12_lacksOf_198 (by decide) ?_
                      refine lv_iadd hx hb dX12_lacksOf_202 ?_
                      refine lv_topi (fun z27995 e27996 => ?_)
                      try (have t27997 := tadd e27996 (a := x7_lp27945.toInt) rfl (b := z27992.toInt) rfl (by omega))
                      refine lv_istore (lv' := [(7, .int z27995), (10, .int r27974), (9, .int x9_lp27945), (8, .int 1), (6, .int z27662), (5, .int z27659), (0, .ref (g 0)), (1, .int p0), (2, .int p1), (3, .int p2), (4, .int p3)]) hx hb dX12_lacksOf_203 hl (by decide) rfl (fun ls hl => ?_)
                      obtain ⟨z27998, e27999⟩ : ∃ y : Int32, y = x9_lp27945 + 1 := ⟨_, rfl⟩
                      try (have t28000 := tadd e27999 rfl (b := 1) (by decide) (by omega))
                      refine lv_iinc (v := z27998) (lv' := [(9, .int z27998), (7, .int z27995), (10, .int r27974), (8, .int 1), (6, .int z27662), (5, .int z27659), (0, .ref (g 0)), (1, .int p0), (2, .int p1), (3, .int p2), (4, .int p3)]) hx hb dX12_lacksOf_205 hl (k := 2) rfl (by rw [e27999]; rfl) (by decide) rfl (fun ls hl => ?_)
                      refine lv_goto (tgt := 112) hx hb dX12_lacksOf_208 (by decide) ?_
                      exact ih_lp27945 z27998 z27995 v27975 F27976 _ _ _ (by omega) (by omega) (frC (by decide) hf27977 hf_lp27945) hI hF hP hS (lv_sub hl [0, 3, 1, 4, 5, 6, 7, 8, 9, 10] rfl)
                  · skip
                    have t28001 := cv_eq (a := r27970.toInt) rfl (b := 0) (by decide) c27972
                    refine lv_goto (tgt := 205) hx hb dX12_lacksOf_159 (by decide) ?_
                    obtain ⟨z28002, e28003⟩ : ∃ y : Int32, y = x9_lp27945 + 1 := ⟨_, rfl⟩
                    try (have t28004 := tadd e28003 rfl (b := 1) (by decide) (by omega))
                    refine lv_iinc (v := z28002) (lv' := [(9, .int z28002), (8, .int 1), (7, .int x7_lp27945), (6, .int z27662), (5, .int z27659), (0, .ref (g 0)), (1, .int p0), (2, .int p1), (3, .int p2), (4, .int p3)]) hx hb dX12_lacksOf_205 hl (k := 0) rfl (by rw [e28003]; rfl) (by decide) rfl (fun ls hl => ?_)
                    refine lv_goto (tgt := 112) hx hb dX12_lacksOf_208 (by decide) ?_
                    exact ih_lp27945 z28002 x7_lp27945 v_lp27945 F_lp27945 _ _ _ (by omega) (by omega) hf_lp27945 hI hF hP hS (lv_sub hl [0, 1, 2, 3, 4, 5, 6, 7, 8, 9] rfl)
        obtain ⟨n9, hn9⟩ : ∃ n : Nat, 2147483648 - 0 ≤ (n : Int) := ⟨((2147483648 - 0 : Int)).toNat, by omega⟩
        exact lp27945 n9 0 0 v F H _ ls (by have : (0 : Int32).toInt = 0 := (by decide); have : (0 : Int32).toInt = 0 := (by decide); omega) (by have : (0 : Int32).toInt = 0 := (by decide); have : (0 : Int32).toInt = 0 := (by decide); omega) (fun _ _ => rfl) hI hF hP hS hl
    · skip
      have t28005 := cv_eq (a := z27662.toInt) rfl (b := 104) (by decide) c27880
      refine lv_iconst (v := 0) hx hb dX12_lacksOf_91 (by decide) ?_
      refine lv_goto (tgt := 107) hx hb dX12_lacksOf_92 (by decide) ?_
      refine lv_istore (lv' := [(8, .int 0), (7, .int 0), (6, .int z27662), (5, .int z27659), (0, .ref (g 0)), (1, .int p0), (2, .int p1), (3, .int p2), (4, .int p3)]) hx hb dX12_lacksOf_107 hl (by decide) rfl (fun ls hl => ?_)
      refine lv_iconst (v := 0) hx hb dX12_lacksOf_109 (by decide) ?_
      refine lv_istore (lv' := [(9, .int 0), (8, .int 0), (7, .int 0), (6, .int z27662), (5, .int z27659), (0, .ref (g 0)), (1, .int p0), (2, .int p1), (3, .int p2), (4, .int p3)]) hx hb dX12_lacksOf_110 hl (by decide) rfl (fun ls hl => ?_)
      have lp28006 : ∀ (n : Nat) (x9_lp28006 : Int32) (x7_lp28006 : Int32) (v_lp28006 : Nat → Int32) (F_lp28006 : Nat → Nat → Int32) (H : Heap) (locs : List Loc) (ls : Array Slot), (0 ≤ x9_lp28006.toInt) → (2147483648 - x9_lp28006.toInt ≤ (n : Int)) → (∀ k, k ∉ ([] : List Nat) → v_lp28006 k = v k) → IM v_lp28006 F_lp28006 → (∀ k, k ∉ ([30, 31] : List Nat) → F_lp28006 k = F k) → va_P (dC, dI) classes (wM g c v_lp28006 F_lp28006 rc) H → va_S (AM g s.heap.size) s.heap H locs → lv_has ls 11 [(9, .int x9_lp28006), (8, .int 0), (7, .int x7_lp28006), (6, .int z27662), (5, .int z27659), (0, .ref (g 0)), (1, .int p0), (2, .int p1), (3, .int p2), (4, .int p3)] → W p l e (headSpec (Cond.code yX12_lacksOf cX12_lacksOf 11 (some .int) :: wA) ({ frames := 5, cells := 0, slots := 0, locals := 200 })).room s m ([.ref (g 0), .int p0, .int p1, .int p2, .int p3] : List Value).toArray below meth c0 H locs 0 0 (MQ below (va_Qi (fun (r : Int32) (u : StM) => IM u.1 u.2.1 ∧ u.2.2 = rc ∧ (∀ k, k ∉ ([] : List Nat) → u.1 k = v k) ∧ (∀ k, k ∉ ([30, 31] : List Nat) → u.2.1 k = F k) ∧ True) (BM dC dI g c) (AM g s.heap.size)) ([.ref (g 0), .int p0, .int p1, .int p2, .int p3] : List Value).toArray s 0 0 (AM g s.heap.size)) (F0 m 112 ls []) := by
        intro n
        induction n with
        | zero =>
          intro x9_lp28006 x7_lp28006 v_lp28006 F_lp28006 H locs ls t28007 hm hf_lp28006 hI hF hP hS hl
          exfalso
          have := i32_rng x9_lp28006
          have := i32_rng x7_lp28006
          have hI1 := hI.1
          omega
        | succ n ih_lp28006 =>
          intro x9_lp28006 x7_lp28006 v_lp28006 F_lp28006 H locs ls t28007 hm hf_lp28006 hI hF hP hS hl
          have rx9_lp28006 := i32_rng x9_lp28006
          have rx7_lp28006 := i32_rng x7_lp28006
          refine lv_iload hx hb dX12_lacksOf_112 (lv_at hl 0 rfl) ?_
          refine lv_aload_n hx hb dX12_lacksOf_114 rfl (lv_at hl 5 rfl) ?_
          refine va_get (D := (dC, dI)) (ci := 12) (v := .int (v_lp28006 14)) (C := RX12) (T := TX12) (N := 63) hx hb hwd inA_X12 hown hK hP 0 rfl rfl 14 (by decide) (hwd _ wk_318) (fun _ h9 => h9) rfl dX12_lacksOf_115 ?_
          refine my_top (v := v 14) (hf_lp28006 14 (by decide)) ?_
          have t28008 : 0 ≤ (v 14).toInt ∧ (v 14).toInt ≤ 100 := by have h9 := hI.1 14 _ _ rfl; rw [show v_lp28006 14 = v 14 from hf_lp28006 14 (by decide)] at h9; exact h9
          refine lv_icmp_ge (tgt := 211) hx hb dX12_lacksOf_118 (by decide) (fun c28009 => ?_) (fun c28009 => ?_)
          · skip
            have t28010 := cv_le (a := (v 14).toInt) rfl (b := x9_lp28006.toInt) rfl c28009
            refine lv_iload hx hb dX12_lacksOf_211 (lv_at hl 2 rfl) ?_
            have hP9 : va_P (dC, dI) classes (wM g c v_lp28006 F_lp28006 rc) H := hP
            exact W.iret (v := x7_lp28006) hx hb hr (fun t ht hW => ⟨⟨x7_lp28006, (v_lp28006, F_lp28006, rc), rfl, ⟨hI, rfl, (frC (by decide) hf_lp28006 (fun _ _ => rfl)), hF, trivial⟩, (by show va_P _ _ _ t.heap; rw [ht]; exact hP9)⟩, hS.F ht⟩) hS.2.2 dX12_lacksOf_213
          · skip
            have t28011 := cv_nle (a := (v 14).toInt) rfl (b := x9_lp28006.toInt) rfl c28009
            refine lv_aload_n hx hb dX12_lacksOf_121 rfl (lv_at hl 5 rfl) ?_
            refine va_get (D := (dC, dI)) (ci := 12) (v := .ref (g 42)) (C := RX12) (T := TX12) (N := 63) hx hb hwd inA_X12 hown hK hP 0 rfl rfl 56 (by decide) (hwd _ wk_224) (fun _ h9 => h9) rfl dX12_lacksOf_122 ?_
            refine lv_iload hx hb dX12_lacksOf_125 (lv_at hl 0 rfl) ?_
            refine va_zald hx hb hK hP 42 41 rfl rfl (i := x9_lp28006) (vin (a := x9_lp28006.toInt) rfl (by omega)) dX12_lacksOf_127 ?_
            refine lv_topi (fun z28012 e28013 => ?_)
            have e28013 : z28012 = F 42 (x9_lp28006 : Int32).toNatClampNeg := e28013.trans (congrFun (hF 42 (by decide)) _)
            refine lv_if_eq (tgt := 205) hx hb dX12_lacksOf_128 (by decide) (fun c28014 => ?_) (fun c28014 => ?_)
            · skip
              have t28015 := cv_eq (a := z28012.toInt) rfl (b := 0) (by decide) c28014
              obtain ⟨z28016, e28017⟩ : ∃ y : Int32, y = x9_lp28006 + 1 := ⟨_, rfl⟩
              try (have t28018 := tadd e28017 rfl (b := 1) (by decide) (by omega))
              refine lv_iinc (v := z28016) (lv' := [(9, .int z28016), (8, .int 0), (7, .int x7_lp28006), (6, .int z27662), (5, .int z27659), (0, .ref (g 0)), (1, .int p0), (2, .int p1), (3, .int p2), (4, .int p3)]) hx hb dX12_lacksOf_205 hl (k := 0) rfl (by rw [e28017]; rfl) (by decide) rfl (fun ls hl => ?_)
              refine lv_goto (tgt := 112) hx hb dX12_lacksOf_208 (by decide) ?_
              exact ih_lp28006 z28016 x7_lp28006 v_lp28006 F_lp28006 _ _ _ (by omega) (by omega) hf_lp28006 hI hF hP hS (lv_sub hl [0, 1, 2, 3, 4, 5, 6, 7, 8, 9] rfl)
            · skip
              have t28019 := cv_ne (a := z28012.toInt) rfl (b := 0) (by decide) c28014
              refine lv_aload_n hx hb dX12_lacksOf_131 rfl (lv_at hl 5 rfl) ?_
              refine va_get (D := (dC, dI)) (ci := 12) (v := .ref (g 11)) (C := RX12) (T := TX12) (N := 63) hx hb hwd inA_X12 hown hK hP 0 rfl rfl 15 (by decide) (hwd _ wk_192) (fun _ h9 => h9) rfl dX12_lacksOf_132 ?_
              refine lv_iload hx hb dX12_lacksOf_135 (lv_at hl 0 rfl) ?_
              refine va_iald hx hb hK hP 11 10 rfl rfl (i := x9_lp28006) (vin (a := x9_lp28006.toInt) rfl (by omega)) dX12_lacksOf_137 ?_
              refine lv_topi (fun z28020 e28021 => ?_)
              have t28022 : 0 ≤ z28020.toInt ∧ z28020.toInt ≤ 9 := by rw [e28021]; exact hI.2 11 _ _ rfl _
              have e28021 : z28020 = F 11 (x9_lp28006 : Int32).toNatClampNeg := e28021.trans (congrFun (hF 11 (by decide)) _)
              refine lv_aload_n hx hb dX12_lacksOf_138 rfl (lv_at hl 5 rfl) ?_
              refine va_get (D := (dC, dI)) (ci := 12) (v := .ref (g 39)) (C := RX12) (T := TX12) (N := 63) hx hb hwd inA_X12 hown hK hP 0 rfl rfl 53 (by decide) (hwd _ wk_221) (fun _ h9 => h9) rfl dX12_lacksOf_139 ?_
              refine lv_iload hx hb dX12_lacksOf_142 (lv_at hl 4 rfl) ?_
              refine va_iald hx hb hK hP 39 38 rfl rfl (i := z27659) (vin (a := z27659.toInt) rfl (by omega)) dX12_lacksOf_144 ?_
              refine lv_topi (fun z28023 e28024 => ?_)
              have e28024 : z28023 = F 39 (z27659 : Int32).toNatClampNeg := e28024.trans (congrFun (hF 39 (by decide)) _)
              refine lv_icmp_ne (tgt := 205) hx hb dX12_lacksOf_145 (by decide) (fun c28025 => ?_) (fun c28025 => ?_)
              · skip
                have t28026 := cv_ne (a := z28020.toInt) rfl (b := z28023.toInt) rfl c28025
                obtain ⟨z28027, e28028⟩ : ∃ y : Int32, y = x9_lp28006 + 1 := ⟨_, rfl⟩
                try (have t28029 := tadd e28028 rfl (b := 1) (by decide) (by omega))
                refine lv_iinc (v := z28027) (lv' := [(9, .int z28027), (8, .int 0), (7, .int x7_lp28006), (6, .int z27662), (5, .int z27659), (0, .ref (g 0)), (1, .int p0), (2, .int p1), (3, .int p2), (4, .int p3)]) hx hb dX12_lacksOf_205 hl (k := 0) rfl (by rw [e28028]; rfl) (by decide) rfl (fun ls hl => ?_)
                refine lv_goto (tgt := 112) hx hb dX12_lacksOf_208 (by decide) ?_
                exact ih_lp28006 z28027 x7_lp28006 v_lp28006 F_lp28006 _ _ _ (by omega) (by omega) hf_lp28006 hI hF hP hS (lv_sub hl [0, 1, 2, 3, 4, 5, 6, 7, 8, 9] rfl)
              · skip
                have t28030 := cv_eq (a := z28020.toInt) rfl (b := z28023.toInt) rfl c28025
                refine lv_aload_n hx hb dX12_lacksOf_148 rfl (lv_at hl 5 rfl) ?_
                refine lv_iload hx hb dX12_lacksOf_149 (lv_at hl 0 rfl) ?_
                refine lv_iload hx hb dX12_lacksOf_151 (lv_at hl 1 rfl) ?_
                refine va_calli (va_runV (As := [.int x9_lp28006, .int 0]) (rest := []) ⟨hx, hb, hml, hown, hwd⟩ (c_X12_limitOf l dC dI g c adK adV v_lp28006 F_lp28006 rc H.size x9_lp28006 0 hg hI (by omega) (by have : (0 : Int32).toInt = 0 := (by decide); omega)) (cwV 2 hwd (gV wk_489 wk_486 wk_487 wk_488 wk_5) rfl rfl rfl (by decide +kernel) ⟨Nat.le_of_ble_eq_true rfl, Nat.le_of_ble_eq_true rfl⟩) ⟨PM.blind, va_recv hK hP (ci := 12) (q0 := 0) rfl rfl, fun U hU hW => ⟨rfl, PM.at hK hE hP hS hU hW⟩⟩ rfl rfl hl.1 rfl (lv_room (Nat.le_of_ble_eq_true rfl)) dX12_lacksOf_153 ⟨Nat.le_of_ble_eq_true rfl, Nat.le_of_ble_eq_true rfl⟩) hS (fun q _ h => (freeM hS) q h) (freeM hS) (fun r28031 u t H1 locs ht hvm hw hB hz1 hk1 hS => ?_)
                unfold BM at hB
                rw [ht] at hB
                have hP : va_P (dC, dI) classes (wM g c v_lp28006 F_lp28006 rc) H1 := hB
                have hw : r28031.toInt = (F_lp28006 1 (limJ (F_lp28006 11) x9_lp28006 (0 : Int32))).toInt := hw
                rw [hF 1 (by decide)] at hw
                rw [hF 11 (by decide)] at hw
                have hw_r28031 := hw
                have k28032 : (0 : Int32).toInt = 0 := by decide
                generalize H1 = H at hP hS ⊢
                refine lv_if_ne (tgt := 162) hx hb dX12_lacksOf_156 (by decide) (fun c28033 => ?_) (fun c28033 => ?_)
                · skip
                  have t28034 := cv_ne (a := r28031.toInt) rfl (b := 0) (by decide) c28033
                  refine lv_aload_n hx hb dX12_lacksOf_162 rfl (lv_at hl 5 rfl) ?_
                  refine lv_iload hx hb dX12_lacksOf_163 (lv_at hl 0 rfl) ?_
                  refine lv_iload hx hb dX12_lacksOf_165 (lv_at hl 1 rfl) ?_
                  refine lv_iload hx hb dX12_lacksOf_167 (lv_at hl 9 rfl) ?_
                  refine va_calli (va_runV (As := [.int x9_lp28006, .int 0, .int p3]) (rest := []) ⟨hx, hb, hml, hown, hwd⟩ (c_X12_leftOf l dC dI g c adK adV v_lp28006 F_lp28006 rc H.size x9_lp28006 0 p3 hg hI (by omega) (by have : (0 : Int32).toInt = 0 := (by decide); omega) (JL.to hL (show v_lp28006 31 = v 31 from hf_lp28006 31 (by decide)) (hF 28 (by decide)) (hF 29 (by decide)) (hF 27 (by decide)))) (cwV 3 hwd (gV wk_493 wk_490 wk_491 wk_492 wk_5) rfl rfl rfl (by decide +kernel) ⟨Nat.le_of_ble_eq_true rfl, Nat.le_of_ble_eq_true rfl⟩) ⟨PM.blind, va_recv hK hP (ci := 12) (q0 := 0) rfl rfl, fun U hU hW => ⟨rfl, PM.at hK hE hP hS hU hW⟩⟩ rfl rfl hl.1 rfl (lv_room (Nat.le_of_ble_eq_true rfl)) dX12_lacksOf_169 ⟨Nat.le_of_ble_eq_true rfl, Nat.le_of_ble_eq_true rfl⟩) hS (fun q _ h => (freeM hS) q h) (freeM hS) (fun r28035 u t H1 locs ht hvm hw hB hz1 hk1 hS => ?_)
                  unfold BM at hB
                  rw [ht] at hB
                  obtain ⟨v28036, F28037, rc9⟩ := u
                  obtain ⟨hI, hrc, hf28038, hG28039, hw⟩ := hw
                  dsimp only at hI hrc hB hf28038 hG28039 hw
                  have hF := frCF (by decide) hG28039 hF
                  rw [hrc] at hB
                  have hP : va_P (dC, dI) classes (wM g c v28036 F28037 rc) H1 := hB
                  generalize H1 = H at hP hS ⊢
                  have rr_r28035 := i32_rng r28035
                  refine lv_istore (lv' := [(10, .int r28035), (9, .int x9_lp28006), (8, .int 0), (7, .int x7_lp28006), (6, .int z27662), (5, .int z27659), (0, .ref (g 0)), (1, .int p0), (2, .int p1), (3, .int p2), (4, .int p3)]) hx hb dX12_lacksOf_172 hl (by decide) rfl (fun ls hl => ?_)
                  refine lv_iload hx hb dX12_lacksOf_174 (lv_at hl 3 rfl) ?_
                  refine lv_iload hx hb dX12_lacksOf_176 (lv_at hl 0 rfl) ?_
                  refine lv_aload_n hx hb dX12_lacksOf_178 rfl (lv_at hl 6 rfl) ?_
                  refine va_get (D := (dC, dI)) (ci := 12) (v := .ref (g 40)) (C := RX12) (T := TX12) (N := 63) hx hb hwd inA_X12 hown hK hP 0 rfl rfl 54 (by decide) (hwd _ wk_222) (fun _ h9 => h9) rfl dX12_lacksOf_179 ?_
                  refine lv_iload hx hb dX12_lacksOf_182 (lv_at hl 5 rfl) ?_
                  refine va_iald hx hb hK hP 40 39 rfl rfl (i := z27659) (vin (a := z27659.toInt) rfl (by omega)) dX12_lacksOf_184 ?_
                  refine lv_topi (fun z28040 e28041 => ?_)
                  have e28041 : z28040 = F 40 (z27659 : Int32).toNatClampNeg := e28041.trans (congrFun (hF 40 (by decide)) _)
                  refine lv_icmp_ge (tgt := 201) hx hb dX12_lacksOf_185 (by decide) (fun c28042 => ?_) (fun c28042 => ?_)
                  · skip
                    have t28043 := cv_le (a := z28040.toInt) rfl (b := r28035.toInt) rfl c28042
                    refine lv_iconst (v := 0) hx hb dX12_lacksOf_201 (by decide) ?_
                    refine lv_iadd hx hb dX12_lacksOf_202 ?_
                    refine lv_topi (fun z28044 e28045 => ?_)
                    try (have t28046 := tadd e28045 (a := x7_lp28006.toInt) rfl (b := 0) (by decide) (by omega))
                    refine lv_istore (lv' := [(7, .int z28044), (10, .int r28035), (9, .int x9_lp28006), (8, .int 0), (6, .int z27662), (5, .int z27659), (0, .ref (g 0)), (1, .int p0), (2, .int p1), (3, .int p2), (4, .int p3)]) hx hb dX12_lacksOf_203 hl (by decide) rfl (fun ls hl => ?_)
                    obtain ⟨z28047, e28048⟩ : ∃ y : Int32, y = x9_lp28006 + 1 := ⟨_, rfl⟩
                    try (have t28049 := tadd e28048 rfl (b := 1) (by decide) (by omega))
                    refine lv_iinc (v := z28047) (lv' := [(9, .int z28047), (7, .int z28044), (10, .int r28035), (8, .int 0), (6, .int z27662), (5, .int z27659), (0, .ref (g 0)), (1, .int p0), (2, .int p1), (3, .int p2), (4, .int p3)]) hx hb dX12_lacksOf_205 hl (k := 2) rfl (by rw [e28048]; rfl) (by decide) rfl (fun ls hl => ?_)
                    refine lv_goto (tgt := 112) hx hb dX12_lacksOf_208 (by decide) ?_
                    exact ih_lp28006 z28047 z28044 v28036 F28037 _ _ _ (by omega) (by omega) (frC (by decide) hf28038 hf_lp28006) hI hF hP hS (lv_sub hl [0, 3, 1, 4, 5, 6, 7, 8, 9, 10] rfl)
                  · skip
                    have t28050 := cv_nle (a := z28040.toInt) rfl (b := r28035.toInt) rfl c28042
                    refine lv_aload_n hx hb dX12_lacksOf_188 rfl (lv_at hl 6 rfl) ?_
                    refine va_get (D := (dC, dI)) (ci := 12) (v := .ref (g 40)) (C := RX12) (T := TX12) (N := 63) hx hb hwd inA_X12 hown hK hP 0 rfl rfl 54 (by decide) (hwd _ wk_222) (fun _ h9 => h9) rfl dX12_lacksOf_189 ?_
                    refine lv_iload hx hb dX12_lacksOf_192 (lv_at hl 5 rfl) ?_
                    refine va_iald hx hb hK hP 40 39 rfl rfl (i := z27659) (vin (a := z27659.toInt) rfl (by omega)) dX12_lacksOf_194 ?_
                    refine lv_topi (fun z28051 e28052 => ?_)
                    have e28052 : z28051 = F 40 (z27659 : Int32).toNatClampNeg := e28052.trans (congrFun (hF 40 (by decide)) _)
                    refine lv_iload hx hb dX12_lacksOf_195 (lv_at hl 0 rfl) ?_
                    refine lv_isub hx hb dX12_lacksOf_197 ?_
                    refine lv_topi (fun z28053 e28054 => ?_)
                    try (have t28055 := tsub e28054 (a := z28051.toInt) rfl (b := r28035.toInt) rfl (by omega))
                    refine lv_goto (tgt := 202) hx hb dX12_lacksOf_198 (by decide) ?_
                    refine lv_iadd hx hb dX12_lacksOf_202 ?_
                    refine lv_topi (fun z28056 e28057 => ?_)
                    try (have t28058 := tadd e28057 (a := x7_lp28006.toInt) rfl (b := z28053.toInt) rfl (by omega))
                    refine lv_istore (lv' := [(7, .int z28056), (10, .int r28035), (9, .int x9_lp28006), (8, .int 0), (6, .int z27662), (5, .int z27659), (0, .ref (g 0)), (1, .int p0), (2, .int p1), (3, .int p2), (4, .int p3)]) hx hb dX12_lacksOf_203 hl (by decide) rfl (fun ls hl => ?_)
                    obtain ⟨z28059, e28060⟩ : ∃ y : Int32, y = x9_lp28006 + 1 := ⟨_, rfl⟩
                    try (have t28061 := tadd e28060 rfl (b := 1) (by decide) (by omega))
                    refine lv_iinc (v := z28059) (lv' := [(9, .int z28059), (7, .int z28056), (10, .int r28035), (8, .int 0), (6, .int z27662), (5, .int z27659), (0, .ref (g 0)), (1, .int p0), (2, .int p1), (3, .int p2), (4, .int p3)]) hx hb dX12_lacksOf_205 hl (k := 2) rfl (by rw [e28060]; rfl) (by decide) rfl (fun ls hl => ?_)
                    refine lv_goto (tgt := 112) hx hb dX12_lacksOf_208 (by decide) ?_
                    exact ih_lp28006 z28059 z28056 v28036 F28037 _ _ _ (by omega) (by omega) (frC (by decide) hf28038 hf_lp28006) hI hF hP hS (lv_sub hl [0, 3, 1, 4, 5, 6, 7, 8, 9, 10] rfl)
                · skip
                  have t28062 := cv_eq (a := r28031.toInt) rfl (b := 0) (by decide) c28033
                  refine lv_goto (tgt := 205) hx hb dX12_lacksOf_159 (by decide) ?_
                  obtain ⟨z28063, e28064⟩ : ∃ y : Int32, y = x9_lp28006 + 1 := ⟨_, rfl⟩
                  try (have t28065 := tadd e28064 rfl (b := 1) (by decide) (by omega))
                  refine lv_iinc (v := z28063) (lv' := [(9, .int z28063), (8, .int 0), (7, .int x7_lp28006), (6, .int z27662), (5, .int z27659), (0, .ref (g 0)), (1, .int p0), (2, .int p1), (3, .int p2), (4, .int p3)]) hx hb dX12_lacksOf_205 hl (k := 0) rfl (by rw [e28064]; rfl) (by decide) rfl (fun ls hl => ?_)
                  refine lv_goto (tgt := 112) hx hb dX12_lacksOf_208 (by decide) ?_
                  exact ih_lp28006 z28063 x7_lp28006 v_lp28006 F_lp28006 _ _ _ (by omega) (by omega) hf_lp28006 hI hF hP hS (lv_sub hl [0, 1, 2, 3, 4, 5, 6, 7, 8, 9] rfl)
      obtain ⟨n9, hn9⟩ : ∃ n : Nat, 2147483648 - 0 ≤ (n : Int) := ⟨((2147483648 - 0 : Int)).toNat, by omega⟩
      exact lp28006 n9 0 0 v F H _ ls (by have : (0 : Int32).toInt = 0 := (by decide); have : (0 : Int32).toInt = 0 := (by decide); omega) (by have : (0 : Int32).toInt = 0 := (by decide); have : (0 : Int32).toInt = 0 := (by decide); omega) (fun _ _ => rfl) hI hF hP hS hl
  · refine lv_tableIn (off := 409) (tgt := 431) hx hb dX12_lacksOf_22 hlo27664 hhi27665 (by rw [hk]; decide) (by decide) ?_
    refine lv_aload_n hx hb dX12_lacksOf_431 rfl (lv_at hl 3 rfl) ?_
    refine lv_iload_n hx hb dX12_lacksOf_432 rfl (lv_at hl 4 rfl) ?_
    refine lv_iload_n hx hb dX12_lacksOf_433 rfl (lv_at hl 6 rfl) ?_
    refine va_calli (va_runV (As := [.int p0, .int p2]) (rest := []) ⟨hx, hb, hml, hown, hwd⟩ (c_X12_late l dC dI g c adK adV v F rc H.size p0 p2 hg hI (by omega)) (cwV 2 hwd (gV wk_1213 wk_1210 wk_1211 wk_1212 wk_5) rfl rfl rfl (by decide +kernel) ⟨Nat.le_of_ble_eq_true rfl, Nat.le_of_ble_eq_true rfl⟩) ⟨PM.blind, va_recv hK hP (ci := 12) (q0 := 0) rfl rfl, fun U hU hW => ⟨rfl, PM.at hK hE hP hS hU hW⟩⟩ rfl rfl hl.1 rfl (lv_room (Nat.le_of_ble_eq_true rfl)) dX12_lacksOf_434 ⟨Nat.le_of_ble_eq_true rfl, Nat.le_of_ble_eq_true rfl⟩) hS (fun q _ h => (freeM hS) q h) (freeM hS) (fun r28066 u t H1 locs ht hvm hw hB hz1 hk1 hS => ?_)
    unfold BM at hB
    rw [ht] at hB
    have hP : va_P (dC, dI) classes (wM g c v F rc) H1 := hB
    generalize H1 = H at hP hS ⊢
    have rr_r28066 := i32_rng r28066
    have hP9 : va_P (dC, dI) classes (wM g c v F rc) H := hP
    exact W.iret (v := r28066) hx hb hr (fun t ht hW => ⟨⟨r28066, (v, F, rc), rfl, ⟨hI, rfl, (fun _ _ => rfl), hF, trivial⟩, (by show va_P _ _ _ t.heap; rw [ht]; exact hP9)⟩, hS.F ht⟩) hS.2.2 dX12_lacksOf_437
  · refine lv_tableIn (off := 409) (tgt := 431) hx hb dX12_lacksOf_22 hlo27664 hhi27665 (by rw [hk]; decide) (by decide) ?_
    refine lv_aload_n hx hb dX12_lacksOf_431 rfl (lv_at hl 3 rfl) ?_
    refine lv_iload_n hx hb dX12_lacksOf_432 rfl (lv_at hl 4 rfl) ?_
    refine lv_iload_n hx hb dX12_lacksOf_433 rfl (lv_at hl 6 rfl) ?_
    refine va_calli (va_runV (As := [.int p0, .int p2]) (rest := []) ⟨hx, hb, hml, hown, hwd⟩ (c_X12_late l dC dI g c adK adV v F rc H.size p0 p2 hg hI (by omega)) (cwV 2 hwd (gV wk_1213 wk_1210 wk_1211 wk_1212 wk_5) rfl rfl rfl (by decide +kernel) ⟨Nat.le_of_ble_eq_true rfl, Nat.le_of_ble_eq_true rfl⟩) ⟨PM.blind, va_recv hK hP (ci := 12) (q0 := 0) rfl rfl, fun U hU hW => ⟨rfl, PM.at hK hE hP hS hU hW⟩⟩ rfl rfl hl.1 rfl (lv_room (Nat.le_of_ble_eq_true rfl)) dX12_lacksOf_434 ⟨Nat.le_of_ble_eq_true rfl, Nat.le_of_ble_eq_true rfl⟩) hS (fun q _ h => (freeM hS) q h) (freeM hS) (fun r28067 u t H1 locs ht hvm hw hB hz1 hk1 hS => ?_)
    unfold BM at hB
    rw [ht] at hB
    have hP : va_P (dC, dI) classes (wM g c v F rc) H1 := hB
    generalize H1 = H at hP hS ⊢
    have rr_r28067 := i32_rng r28067
    have hP9 : va_P (dC, dI) classes (wM g c v F rc) H := hP
    exact W.iret (v := r28067) hx hb hr (fun t ht hW => ⟨⟨r28067, (v, F, rc), rfl, ⟨hI, rfl, (fun _ _ => rfl), hF, trivial⟩, (by show va_P _ _ _ t.heap; rw [ht]; exact hP9)⟩, hS.F ht⟩) hS.2.2 dX12_lacksOf_437
  · refine lv_tableIn (off := 409) (tgt := 431) hx hb dX12_lacksOf_22 hlo27664 hhi27665 (by rw [hk]; decide) (by decide) ?_
    refine lv_aload_n hx hb dX12_lacksOf_431 rfl (lv_at hl 3 rfl) ?_
    refine lv_iload_n hx hb dX12_lacksOf_432 rfl (lv_at hl 4 rfl) ?_
    refine lv_iload_n hx hb dX12_lacksOf_433 rfl (lv_at hl 6 rfl) ?_
    refine va_calli (va_runV (As := [.int p0, .int p2]) (rest := []) ⟨hx, hb, hml, hown, hwd⟩ (c_X12_late l dC dI g c adK adV v F rc H.size p0 p2 hg hI (by omega)) (cwV 2 hwd (gV wk_1213 wk_1210 wk_1211 wk_1212 wk_5) rfl rfl rfl (by decide +kernel) ⟨Nat.le_of_ble_eq_true rfl, Nat.le_of_ble_eq_true rfl⟩) ⟨PM.blind, va_recv hK hP (ci := 12) (q0 := 0) rfl rfl, fun U hU hW => ⟨rfl, PM.at hK hE hP hS hU hW⟩⟩ rfl rfl hl.1 rfl (lv_room (Nat.le_of_ble_eq_true rfl)) dX12_lacksOf_434 ⟨Nat.le_of_ble_eq_true rfl, Nat.le_of_ble_eq_true rfl⟩) hS (fun q _ h => (freeM hS) q h) (freeM hS) (fun r28068 u t H1 locs ht hvm hw hB hz1 hk1 hS => ?_)
    unfold BM at hB
    rw [ht] at hB
    have hP : va_P (dC, dI) classes (wM g c v F rc) H1 := hB
    generalize H1 = H at hP hS ⊢
    have rr_r28068 := i32_rng r28068
    have hP9 : va_P (dC, dI) classes (wM g c v F rc) H := hP
    exact W.iret (v := r28068) hx hb hr (fun t ht hW => ⟨⟨r28068, (v, F, rc), rfl, ⟨hI, rfl, (fun _ _ => rfl), hF, trivial⟩, (by show va_P _ _ _ t.heap; rw [ht]; exact hP9)⟩, hS.F ht⟩) hS.2.2 dX12_lacksOf_437
  · refine lv_tableIn (off := 62) (tgt := 84) hx hb dX12_lacksOf_22 hlo27664 hhi27665 (by rw [hk]; decide) (by decide) ?_
    refine lv_iload hx hb dX12_lacksOf_84 (lv_at hl 1 rfl) ?_
    refine lv_bipush (v := 104) hx hb dX12_lacksOf_86 (by decide) ?_
    refine lv_icmp_ne (tgt := 95) hx hb dX12_lacksOf_88 (by decide) (fun c28069 => ?_) (fun c28069 => ?_)
    · skip
      have t28070 := cv_ne (a := z27662.toInt) rfl (b := 104) (by decide) c28069
      refine lv_iload hx hb dX12_lacksOf_95 (lv_at hl 1 rfl) ?_
      refine lv_bipush (v := 108) hx hb dX12_lacksOf_97 (by decide) ?_
      refine lv_icmp_ne (tgt := 106) hx hb dX12_lacksOf_99 (by decide) (fun c28071 => ?_) (fun c28071 => ?_)
      · skip
        have t28072 := cv_ne (a := z27662.toInt) rfl (b := 108) (by decide) c28071
        refine lv_iconst (v := 2) hx hb dX12_lacksOf_106 (by decide) ?_
        refine lv_istore (lv' := [(8, .int 2), (7, .int 0), (6, .int z27662), (5, .int z27659), (0, .ref (g 0)), (1, .int p0), (2, .int p1), (3, .int p2), (4, .int p3)]) hx hb dX12_lacksOf_107 hl (by decide) rfl (fun ls hl => ?_)
        refine lv_iconst (v := 0) hx hb dX12_lacksOf_109 (by decide) ?_
        refine lv_istore (lv' := [(9, .int 0), (8, .int 2), (7, .int 0), (6, .int z27662), (5, .int z27659), (0, .ref (g 0)), (1, .int p0), (2, .int p1), (3, .int p2), (4, .int p3)]) hx hb dX12_lacksOf_110 hl (by decide) rfl (fun ls hl => ?_)
        have lp28073 : ∀ (n : Nat) (x9_lp28073 : Int32) (x7_lp28073 : Int32) (v_lp28073 : Nat → Int32) (F_lp28073 : Nat → Nat → Int32) (H : Heap) (locs : List Loc) (ls : Array Slot), (0 ≤ x9_lp28073.toInt) → (2147483648 - x9_lp28073.toInt ≤ (n : Int)) → (∀ k, k ∉ ([] : List Nat) → v_lp28073 k = v k) → IM v_lp28073 F_lp28073 → (∀ k, k ∉ ([30, 31] : List Nat) → F_lp28073 k = F k) → va_P (dC, dI) classes (wM g c v_lp28073 F_lp28073 rc) H → va_S (AM g s.heap.size) s.heap H locs → lv_has ls 11 [(9, .int x9_lp28073), (8, .int 2), (7, .int x7_lp28073), (6, .int z27662), (5, .int z27659), (0, .ref (g 0)), (1, .int p0), (2, .int p1), (3, .int p2), (4, .int p3)] → W p l e (headSpec (Cond.code yX12_lacksOf cX12_lacksOf 11 (some .int) :: wA) ({ frames := 5, cells := 0, slots := 0, locals := 200 })).room s m ([.ref (g 0), .int p0, .int p1, .int p2, .int p3] : List Value).toArray below meth c0 H locs 0 0 (MQ below (va_Qi (fun (r : Int32) (u : StM) => IM u.1 u.2.1 ∧ u.2.2 = rc ∧ (∀ k, k ∉ ([] : List Nat) → u.1 k = v k) ∧ (∀ k, k ∉ ([30, 31] : List Nat) → u.2.1 k = F k) ∧ True) (BM dC dI g c) (AM g s.heap.size)) ([.ref (g 0), .int p0, .int p1, .int p2, .int p3] : List Value).toArray s 0 0 (AM g s.heap.size)) (F0 m 112 ls []) := by
          intro n
          induction n with
          | zero =>
            intro x9_lp28073 x7_lp28073 v_lp28073 F_lp28073 H locs ls t28074 hm hf_lp28073 hI hF hP hS hl
            exfalso
            have := i32_rng x9_lp28073
            have := i32_rng x7_lp28073
            have hI1 := hI.1
            omega
          | succ n ih_lp28073 =>
            intro x9_lp28073 x7_lp28073 v_lp28073 F_lp28073 H locs ls t28074 hm hf_lp28073 hI hF hP hS hl
            have rx9_lp28073 := i32_rng x9_lp28073
            have rx7_lp28073 := i32_rng x7_lp28073
            refine lv_iload hx hb dX12_lacksOf_112 (lv_at hl 0 rfl) ?_
            refine lv_aload_n hx hb dX12_lacksOf_114 rfl (lv_at hl 5 rfl) ?_
            refine va_get (D := (dC, dI)) (ci := 12) (v := .int (v_lp28073 14)) (C := RX12) (T := TX12) (N := 63) hx hb hwd inA_X12 hown hK hP 0 rfl rfl 14 (by decide) (hwd _ wk_318) (fun _ h9 => h9) rfl dX12_lacksOf_115 ?_
            refine my_top (v := v 14) (hf_lp28073 14 (by decide)) ?_
            have t28075 : 0 ≤ (v 14).toInt ∧ (v 14).toInt ≤ 100 := by have h9 := hI.1 14 _ _ rfl; rw [show v_lp28073 14 = v 14 from hf_lp28073 14 (by decide)] at h9; exact h9
            refine lv_icmp_ge (tgt := 211) hx hb dX12_lacksOf_118 (by decide) (fun c28076 => ?_) (fun c28076 => ?_)
            · skip
              have t28077 := cv_le (a := (v 14).toInt) rfl (b := x9_lp28073.toInt) rfl c28076
              refine lv_iload hx hb dX12_lacksOf_211 (lv_at hl 2 rfl) ?_
              have hP9 : va_P (dC, dI) classes (wM g c v_lp28073 F_lp28073 rc) H := hP
              exact W.iret (v := x7_lp28073) hx hb hr (fun t ht hW => ⟨⟨x7_lp28073, (v_lp28073, F_lp28073, rc), rfl, ⟨hI, rfl, (frC (by decide) hf_lp28073 (fun _ _ => rfl)), hF, trivial⟩, (by show va_P _ _ _ t.heap; rw [ht]; exact hP9)⟩, hS.F ht⟩) hS.2.2 dX12_lacksOf_213
            · skip
              have t28078 := cv_nle (a := (v 14).toInt) rfl (b := x9_lp28073.toInt) rfl c28076
              refine lv_aload_n hx hb dX12_lacksOf_121 rfl (lv_at hl 5 rfl) ?_
              refine va_get (D := (dC, dI)) (ci := 12) (v := .ref (g 42)) (C := RX12) (T := TX12) (N := 63) hx hb hwd inA_X12 hown hK hP 0 rfl rfl 56 (by decide) (hwd _ wk_224) (fun _ h9 => h9) rfl dX12_lacksOf_122 ?_
              refine lv_iload hx hb dX12_lacksOf_125 (lv_at hl 0 rfl) ?_
              refine va_zald hx hb hK hP 42 41 rfl rfl (i := x9_lp28073) (vin (a := x9_lp28073.toInt) rfl (by omega)) dX12_lacksOf_127 ?_
              refine lv_topi (fun z28079 e28080 => ?_)
              have e28080 : z28079 = F 42 (x9_lp28073 : Int32).toNatClampNeg := e28080.trans (congrFun (hF 42 (by decide)) _)
              refine lv_if_eq (tgt := 205) hx hb dX12_lacksOf_128 (by decide) (fun c28081 => ?_) (fun c28081 => ?_)
              · skip
                have t28082 := cv_eq (a := z28079.toInt) rfl (b := 0) (by decide) c28081
                obtain ⟨z28083, e28084⟩ : ∃ y : Int32, y = x9_lp28073 + 1 := ⟨_, rfl⟩
                try (have t28085 := tadd e28084 rfl (b := 1) (by decide) (by omega))
                refine lv_iinc (v := z28083) (lv' := [(9, .int z28083), (8, .int 2), (7, .int x7_lp28073), (6, .int z27662), (5, .int z27659), (0, .ref (g 0)), (1, .int p0), (2, .int p1), (3, .int p2), (4, .int p3)]) hx hb dX12_lacksOf_205 hl (k := 0) rfl (by rw [e28084]; rfl) (by decide) rfl (fun ls hl => ?_)
                refine lv_goto (tgt := 112) hx hb dX12_lacksOf_208 (by decide) ?_
                exact ih_lp28073 z28083 x7_lp28073 v_lp28073 F_lp28073 _ _ _ (by omega) (by omega) hf_lp28073 hI hF hP hS (lv_sub hl [0, 1, 2, 3, 4, 5, 6, 7, 8, 9] rfl)
              · skip
                have t28086 := cv_ne (a := z28079.toInt) rfl (b := 0) (by decide) c28081
                refine lv_aload_n hx hb dX12_lacksOf_131 rfl (lv_at hl 5 rfl) ?_
                refine va_get (D := (dC, dI)) (ci := 12) (v := .ref (g 11)) (C := RX12) (T := TX12) (N := 63) hx hb hwd inA_X12 hown hK hP 0 rfl rfl 15 (by decide) (hwd _ wk_192) (fun _ h9 => h9) rfl dX12_lacksOf_132 ?_
                refine lv_iload hx hb dX12_lacksOf_135 (lv_at hl 0 rfl) ?_
                refine va_iald hx hb hK hP 11 10 rfl rfl (i := x9_lp28073) (vin (a := x9_lp28073.toInt) rfl (by omega)) dX12_lacksOf_137 ?_
                refine lv_topi (fun z28087 e28088 => ?_)
                have t28089 : 0 ≤ z28087.toInt ∧ z28087.toInt ≤ 9 := by rw [e28088]; exact hI.2 11 _ _ rfl _
                have e28088 : z28087 = F 11 (x9_lp28073 : Int32).toNatClampNeg := e28088.trans (congrFun (hF 11 (by decide)) _)
                refine lv_aload_n hx hb dX12_lacksOf_138 rfl (lv_at hl 5 rfl) ?_
                refine va_get (D := (dC, dI)) (ci := 12) (v := .ref (g 39)) (C := RX12) (T := TX12) (N := 63) hx hb hwd inA_X12 hown hK hP 0 rfl rfl 53 (by decide) (hwd _ wk_221) (fun _ h9 => h9) rfl dX12_lacksOf_139 ?_
                refine lv_iload hx hb dX12_lacksOf_142 (lv_at hl 4 rfl) ?_
                refine va_iald hx hb hK hP 39 38 rfl rfl (i := z27659) (vin (a := z27659.toInt) rfl (by omega)) dX12_lacksOf_144 ?_
                refine lv_topi (fun z28090 e28091 => ?_)
                have e28091 : z28090 = F 39 (z27659 : Int32).toNatClampNeg := e28091.trans (congrFun (hF 39 (by decide)) _)
                refine lv_icmp_ne (tgt := 205) hx hb dX12_lacksOf_145 (by decide) (fun c28092 => ?_) (fun c28092 => ?_)
                · skip
                  have t28093 := cv_ne (a := z28087.toInt) rfl (b := z28090.toInt) rfl c28092
                  obtain ⟨z28094, e28095⟩ : ∃ y : Int32, y = x9_lp28073 + 1 := ⟨_, rfl⟩
                  try (have t28096 := tadd e28095 rfl (b := 1) (by decide) (by omega))
                  refine lv_iinc (v := z28094) (lv' := [(9, .int z28094), (8, .int 2), (7, .int x7_lp28073), (6, .int z27662), (5, .int z27659), (0, .ref (g 0)), (1, .int p0), (2, .int p1), (3, .int p2), (4, .int p3)]) hx hb dX12_lacksOf_205 hl (k := 0) rfl (by rw [e28095]; rfl) (by decide) rfl (fun ls hl => ?_)
                  refine lv_goto (tgt := 112) hx hb dX12_lacksOf_208 (by decide) ?_
                  exact ih_lp28073 z28094 x7_lp28073 v_lp28073 F_lp28073 _ _ _ (by omega) (by omega) hf_lp28073 hI hF hP hS (lv_sub hl [0, 1, 2, 3, 4, 5, 6, 7, 8, 9] rfl)
                · skip
                  have t28097 := cv_eq (a := z28087.toInt) rfl (b := z28090.toInt) rfl c28092
                  refine lv_aload_n hx hb dX12_lacksOf_148 rfl (lv_at hl 5 rfl) ?_
                  refine lv_iload hx hb dX12_lacksOf_149 (lv_at hl 0 rfl) ?_
                  refine lv_iload hx hb dX12_lacksOf_151 (lv_at hl 1 rfl) ?_
                  refine va_calli (va_runV (As := [.int x9_lp28073, .int 2]) (rest := []) ⟨hx, hb, hml, hown, hwd⟩ (c_X12_limitOf l dC dI g c adK adV v_lp28073 F_lp28073 rc H.size x9_lp28073 2 hg hI (by omega) (by have : (2 : Int32).toInt = 2 := (by decide); omega)) (cwV 2 hwd (gV wk_489 wk_486 wk_487 wk_488 wk_5) rfl rfl rfl (by decide +kernel) ⟨Nat.le_of_ble_eq_true rfl, Nat.le_of_ble_eq_true rfl⟩) ⟨PM.blind, va_recv hK hP (ci := 12) (q0 := 0) rfl rfl, fun U hU hW => ⟨rfl, PM.at hK hE hP hS hU hW⟩⟩ rfl rfl hl.1 rfl (lv_room (Nat.le_of_ble_eq_true rfl)) dX12_lacksOf_153 ⟨Nat.le_of_ble_eq_true rfl, Nat.le_of_ble_eq_true rfl⟩) hS (fun q _ h => (freeM hS) q h) (freeM hS) (fun r28098 u t H1 locs ht hvm hw hB hz1 hk1 hS => ?_)
                  unfold BM at hB
                  rw [ht] at hB
                  have hP : va_P (dC, dI) classes (wM g c v_lp28073 F_lp28073 rc) H1 := hB
                  have hw : r28098.toInt = (F_lp28073 1 (limJ (F_lp28073 11) x9_lp28073 (2 : Int32))).toInt := hw
                  rw [hF 1 (by decide)] at hw
                  rw [hF 11 (by decide)] at hw
                  have hw_r28098 := hw
                  have k28099 : (2 : Int32).toInt = 2 := by decide
                  generalize H1 = H at hP hS ⊢
                  refine lv_if_ne (tgt := 162) hx hb dX12_lacksOf_156 (by decide) (fun c28100 => ?_) (fun c28100 => ?_)
                  · skip
                    have t28101 := cv_ne (a := r28098.toInt) rfl (b := 0) (by decide) c28100
                    refine lv_aload_n hx hb dX12_lacksOf_162 rfl (lv_at hl 5 rfl) ?_
                    refine lv_iload hx hb dX12_lacksOf_163 (lv_at hl 0 rfl) ?_
                    refine lv_iload hx hb dX12_lacksOf_165 (lv_at hl 1 rfl) ?_
                    refine lv_iload hx hb dX12_lacksOf_167 (lv_at hl 9 rfl) ?_
                    refine va_calli (va_runV (As := [.int x9_lp28073, .int 2, .int p3]) (rest := []) ⟨hx, hb, hml, hown, hwd⟩ (c_X12_leftOf l dC dI g c adK adV v_lp28073 F_lp28073 rc H.size x9_lp28073 2 p3 hg hI (by omega) (by have : (2 : Int32).toInt = 2 := (by decide); omega) (JL.to hL (show v_lp28073 31 = v 31 from hf_lp28073 31 (by decide)) (hF 28 (by decide)) (hF 29 (by decide)) (hF 27 (by decide)))) (cwV 3 hwd (gV wk_493 wk_490 wk_491 wk_492 wk_5) rfl rfl rfl (by decide +kernel) ⟨Nat.le_of_ble_eq_true rfl, Nat.le_of_ble_eq_true rfl⟩) ⟨PM.blind, va_recv hK hP (ci := 12) (q0 := 0) rfl rfl, fun U hU hW => ⟨rfl, PM.at hK hE hP hS hU hW⟩⟩ rfl rfl hl.1 rfl (lv_room (Nat.le_of_ble_eq_true rfl)) dX12_lacksOf_169 ⟨Nat.le_of_ble_eq_true rfl, Nat.le_of_ble_eq_true rfl⟩) hS (fun q _ h => (freeM hS) q h) (freeM hS) (fun r28102 u t H1 locs ht hvm hw hB hz1 hk1 hS => ?_)
                    unfold BM at hB
                    rw [ht] at hB
                    obtain ⟨v28103, F28104, rc9⟩ := u
                    obtain ⟨hI, hrc, hf28105, hG28106, hw⟩ := hw
                    dsimp only at hI hrc hB hf28105 hG28106 hw
                    have hF := frCF (by decide) hG28106 hF
                    rw [hrc] at hB
                    have hP : va_P (dC, dI) classes (wM g c v28103 F28104 rc) H1 := hB
                    generalize H1 = H at hP hS ⊢
                    have rr_r28102 := i32_rng r28102
                    refine lv_istore (lv' := [(10, .int r28102), (9, .int x9_lp28073), (8, .int 2), (7, .int x7_lp28073), (6, .int z27662), (5, .int z27659), (0, .ref (g 0)), (1, .int p0), (2, .int p1), (3, .int p2), (4, .int p3)]) hx hb dX12_lacksOf_172 hl (by decide) rfl (fun ls hl => ?_)
                    refine lv_iload hx hb dX12_lacksOf_174 (lv_at hl 3 rfl) ?_
                    refine lv_iload hx hb dX12_lacksOf_176 (lv_at hl 0 rfl) ?_
                    refine lv_aload_n hx hb dX12_lacksOf_178 rfl (lv_at hl 6 rfl) ?_
                    refine va_get (D := (dC, dI)) (ci := 12) (v := .ref (g 40)) (C := RX12) (T := TX12) (N := 63) hx hb hwd inA_X12 hown hK hP 0 rfl rfl 54 (by decide) (hwd _ wk_222) (fun _ h9 => h9) rfl dX12_lacksOf_179 ?_
                    refine lv_iload hx hb dX12_lacksOf_182 (lv_at hl 5 rfl) ?_
                    refine va_iald hx hb hK hP 40 39 rfl rfl (i := z27659) (vin (a := z27659.toInt) rfl (by omega)) dX12_lacksOf_184 ?_
                    refine lv_topi (fun z28107 e28108 => ?_)
                    have e28108 : z28107 = F 40 (z27659 : Int32).toNatClampNeg := e28108.trans (congrFun (hF 40 (by decide)) _)
                    refine lv_icmp_ge (tgt := 201) hx hb dX12_lacksOf_185 (by decide) (fun c28109 => ?_) (fun c28109 => ?_)
                    · skip
                      have t28110 := cv_le (a := z28107.toInt) rfl (b := r28102.toInt) rfl c28109
                      refine lv_iconst (v := 0) hx hb dX12_lacksOf_201 (by decide) ?_
                      refine lv_iadd hx hb dX12_lacksOf_202 ?_
                      refine lv_topi (fun z28111 e28112 => ?_)
                      try (have t28113 := tadd e28112 (a := x7_lp28073.toInt) rfl (b := 0) (by decide) (by omega))
                      refine lv_istore (lv' := [(7, .int z28111), (10, .int r28102), (9, .int x9_lp28073), (8, .int 2), (6, .int z27662), (5, .int z27659), (0, .ref (g 0)), (1, .int p0), (2, .int p1), (3, .int p2), (4, .int p3)]) hx hb dX12_lacksOf_203 hl (by decide) rfl (fun ls hl => ?_)
                      obtain ⟨z28114, e28115⟩ : ∃ y : Int32, y = x9_lp28073 + 1 := ⟨_, rfl⟩
                      try (have t28116 := tadd e28115 rfl (b := 1) (by decide) (by omega))
                      refine lv_iinc (v := z28114) (lv' := [(9, .int z28114), (7, .int z28111), (10, .int r28102), (8, .int 2), (6, .int z27662), (5, .int z27659), (0, .ref (g 0)), (1, .int p0), (2, .int p1), (3, .int p2), (4, .int p3)]) hx hb dX12_lacksOf_205 hl (k := 2) rfl (by rw [e28115]; rfl) (by decide) rfl (fun ls hl => ?_)
                      refine lv_goto (tgt := 112) hx hb dX12_lacksOf_208 (by decide) ?_
                      exact ih_lp28073 z28114 z28111 v28103 F28104 _ _ _ (by omega) (by omega) (frC (by decide) hf28105 hf_lp28073) hI hF hP hS (lv_sub hl [0, 3, 1, 4, 5, 6, 7, 8, 9, 10] rfl)
                    · skip
                      have t28117 := cv_nle (a := z28107.toInt) rfl (b := r28102.toInt) rfl c28109
                      refine lv_aload_n hx hb dX12_lacksOf_188 rfl (lv_at hl 6 rfl) ?_
                      refine va_get (D := (dC, dI)) (ci := 12) (v := .ref (g 40)) (C := RX12) (T := TX12) (N := 63) hx hb hwd inA_X12 hown hK hP 0 rfl rfl 54 (by decide) (hwd _ wk_222) (fun _ h9 => h9) rfl dX12_lacksOf_189 ?_
                      refine lv_iload hx hb dX12_lacksOf_192 (lv_at hl 5 rfl) ?_
                      refine va_iald hx hb hK hP 40 39 rfl rfl (i := z27659) (vin (a := z27659.toInt) rfl (by omega)) dX12_lacksOf_194 ?_
                      refine lv_topi (fun z28118 e28119 => ?_)
                      have e28119 : z28118 = F 40 (z27659 : Int32).toNatClampNeg := e28119.trans (congrFun (hF 40 (by decide)) _)
                      refine lv_iload hx hb dX12_lacksOf_195 (lv_at hl 0 rfl) ?_
                      refine lv_isub hx hb dX12_lacksOf_197 ?_
                      refine lv_topi (fun z28120 e28121 => ?_)
                      try (have t28122 := tsub e28121 (a := z28118.toInt) rfl (b := r28102.toInt) rfl (by omega))
                      refine lv_goto (tgt := 202) hx hb dX12_lacksOf_198 (by decide) ?_
                      refine lv_iadd hx hb dX12_lacksOf_202 ?_
                      refine lv_topi (fun z28123 e28124 => ?_)
                      try (have t28125 := tadd e28124 (a := x7_lp28073.toInt) rfl (b := z28120.toInt) rfl (by omega))
                      refine lv_istore (lv' := [(7, .int z28123), (10, .int r28102), (9, .int x9_lp28073), (8, .int 2), (6, .int z27662), (5, .int z27659), (0, .ref (g 0)), (1, .int p0), (2, .int p1), (3, .int p2), (4, .int p3)]) hx hb dX12_lacksOf_203 hl (by decide) rfl (fun ls hl => ?_)
                      obtain ⟨z28126, e28127⟩ : ∃ y : Int32, y = x9_lp28073 + 1 := ⟨_, rfl⟩
                      try (have t28128 := tadd e28127 rfl (b := 1) (by decide) (by omega))
                      refine lv_iinc (v := z28126) (lv' := [(9, .int z28126), (7, .int z28123), (10, .int r28102), (8, .int 2), (6, .int z27662), (5, .int z27659), (0, .ref (g 0)), (1, .int p0), (2, .int p1), (3, .int p2), (4, .int p3)]) hx hb dX12_lacksOf_205 hl (k := 2) rfl (by rw [e28127]; rfl) (by decide) rfl (fun ls hl => ?_)
                      refine lv_goto (tgt := 112) hx hb dX12_lacksOf_208 (by decide) ?_
                      exact ih_lp28073 z28126 z28123 v28103 F28104 _ _ _ (by omega) (by omega) (frC (by decide) hf28105 hf_lp28073) hI hF hP hS (lv_sub hl [0, 3, 1, 4, 5, 6, 7, 8, 9, 10] rfl)
                  · skip
                    have t28129 := cv_eq (a := r28098.toInt) rfl (b := 0) (by decide) c28100
                    refine lv_goto (tgt := 205) hx hb dX12_lacksOf_159 (by decide) ?_
                    obtain ⟨z28130, e28131⟩ : ∃ y : Int32, y = x9_lp28073 + 1 := ⟨_, rfl⟩
                    try (have t28132 := tadd e28131 rfl (b := 1) (by decide) (by omega))
                    refine lv_iinc (v := z28130) (lv' := [(9, .int z28130), (8, .int 2), (7, .int x7_lp28073), (6, .int z27662), (5, .int z27659), (0, .ref (g 0)), (1, .int p0), (2, .int p1), (3, .int p2), (4, .int p3)]) hx hb dX12_lacksOf_205 hl (k := 0) rfl (by rw [e28131]; rfl) (by decide) rfl (fun ls hl => ?_)
                    refine lv_goto (tgt := 112) hx hb dX12_lacksOf_208 (by decide) ?_
                    exact ih_lp28073 z28130 x7_lp28073 v_lp28073 F_lp28073 _ _ _ (by omega) (by omega) hf_lp28073 hI hF hP hS (lv_sub hl [0, 1, 2, 3, 4, 5, 6, 7, 8, 9] rfl)
        obtain ⟨n9, hn9⟩ : ∃ n : Nat, 2147483648 - 0 ≤ (n : Int) := ⟨((2147483648 - 0 : Int)).toNat, by omega⟩
        exact lp28073 n9 0 0 v F H _ ls (by have : (0 : Int32).toInt = 0 := (by decide); have : (0 : Int32).toInt = 0 := (by decide); omega) (by have : (0 : Int32).toInt = 0 := (by decide); have : (0 : Int32).toInt = 0 := (by decide); omega) (fun _ _ => rfl) hI hF hP hS hl
      · skip
        have t28133 := cv_eq (a := z27662.toInt) rfl (b := 108) (by decide) c28071
        refine lv_iconst (v := 1) hx hb dX12_lacksOf_102 (by decide) ?_
        refine lv_goto (tgt := 107) hx hb dX12_lacksOf_103 (by decide) ?_
        refine lv_istore (lv' := [(8, .int 1), (7, .int 0), (6, .int z27662), (5, .int z27659), (0, .ref (g 0)), (1, .int p0), (2, .int p1), (3, .int p2), (4, .int p3)]) hx hb dX12_lacksOf_107 hl (by decide) rfl (fun ls hl => ?_)
        refine lv_iconst (v := 0) hx hb dX12_lacksOf_109 (by decide) ?_
        refine lv_istore (lv' := [(9, .int 0), (8, .int 1), (7, .int 0), (6, .int z27662), (5, .int z27659), (0, .ref (g 0)), (1, .int p0), (2, .int p1), (3, .int p2), (4, .int p3)]) hx hb dX12_lacksOf_110 hl (by decide) rfl (fun ls hl => ?_)
        have lp28134 : ∀ (n : Nat) (x9_lp28134 : Int32) (x7_lp28134 : Int32) (v_lp28134 : Nat → Int32) (F_lp28134 : Nat → Nat → Int32) (H : Heap) (locs : List Loc) (ls : Array Slot), (0 ≤ x9_lp28134.toInt) → (2147483648 - x9_lp28134.toInt ≤ (n : Int)) → (∀ k, k ∉ ([] : List Nat) → v_lp28134 k = v k) → IM v_lp28134 F_lp28134 → (∀ k, k ∉ ([30, 31] : List Nat) → F_lp28134 k = F k) → va_P (dC, dI) classes (wM g c v_lp28134 F_lp28134 rc) H → va_S (AM g s.heap.size) s.heap H locs → lv_has ls 11 [(9, .int x9_lp28134), (8, .int 1), (7, .int x7_lp28134), (6, .int z27662), (5, .int z27659), (0, .ref (g 0)), (1, .int p0), (2, .int p1), (3, .int p2), (4, .int p3)] → W p l e (headSpec (Cond.code yX12_lacksOf cX12_lacksOf 11 (some .int) :: wA) ({ frames := 5, cells := 0, slots := 0, locals := 200 })).room s m ([.ref (g 0), .int p0, .int p1, .int p2, .int p3] : List Value).toArray below meth c0 H locs 0 0 (MQ below (va_Qi (fun (r : Int32) (u : StM) => IM u.1 u.2.1 ∧ u.2.2 = rc ∧ (∀ k, k ∉ ([] : List Nat) → u.1 k = v k) ∧ (∀ k, k ∉ ([30, 31] : List Nat) → u.2.1 k = F k) ∧ True) (BM dC dI g c) (AM g s.heap.size)) ([.ref (g 0), .int p0, .int p1, .int p2, .int p3] : List Value).toArray s 0 0 (AM g s.heap.size)) (F0 m 112 ls []) := by
          intro n
          induction n with
          | zero =>
            intro x9_lp28134 x7_lp28134 v_lp28134 F_lp28134 H locs ls t28135 hm hf_lp28134 hI hF hP hS hl
            exfalso
            have := i32_rng x9_lp28134
            have := i32_rng x7_lp28134
            have hI1 := hI.1
            omega
          | succ n ih_lp28134 =>
            intro x9_lp28134 x7_lp28134 v_lp28134 F_lp28134 H locs ls t28135 hm hf_lp28134 hI hF hP hS hl
            have rx9_lp28134 := i32_rng x9_lp28134
            have rx7_lp28134 := i32_rng x7_lp28134
            refine lv_iload hx hb dX12_lacksOf_112 (lv_at hl 0 rfl) ?_
            refine lv_aload_n hx hb dX12_lacksOf_114 rfl (lv_at hl 5 rfl) ?_
            refine va_get (D := (dC, dI)) (ci := 12) (v := .int (v_lp28134 14)) (C := RX12) (T := TX12) (N := 63) hx hb hwd inA_X12 hown hK hP 0 rfl rfl 14 (by decide) (hwd _ wk_318) (fun _ h9 => h9) rfl dX12_lacksOf_115 ?_
            refine my_top (v := v 14) (hf_lp28134 14 (by decide)) ?_
            have t28136 : 0 ≤ (v 14).toInt ∧ (v 14).toInt ≤ 100 := by have h9 := hI.1 14 _ _ rfl; rw [show v_lp28134 14 = v 14 from hf_lp28134 14 (by decide)] at h9; exact h9
            refine lv_icmp_ge (tgt := 211) hx hb dX12_lacksOf_118 (by decide) (fun c28137 => ?_) (fun c28137 => ?_)
            · skip
              have t28138 := cv_le (a := (v 14).toInt) rfl (b := x9_lp28134.toInt) rfl c28137
              refine lv_iload hx hb dX12_lacksOf_211 (lv_at hl 2 rfl) ?_
              have hP9 : va_P (dC, dI) classes (wM g c v_lp28134 F_lp28134 rc) H := hP
              exact W.iret (v := x7_lp28134) hx hb hr (fun t ht hW => ⟨⟨x7_lp28134, (v_lp28134, F_lp28134, rc), rfl, ⟨hI, rfl, (frC (by decide) hf_lp28134 (fun _ _ => rfl)), hF, trivial⟩, (by show va_P _ _ _ t.heap; rw [ht]; exact hP9)⟩, hS.F ht⟩) hS.2.2 dX12_lacksOf_213
            · skip
              have t28139 := cv_nle (a := (v 14).toInt) rfl (b := x9_lp28134.toInt) rfl c28137
              refine lv_aload_n hx hb dX12_lacksOf_121 rfl (lv_at hl 5 rfl) ?_
              refine va_get (D := (dC, dI)) (ci := 12) (v := .ref (g 42)) (C := RX12) (T := TX12) (N := 63) hx hb hwd inA_X12 hown hK hP 0 rfl rfl 56 (by decide) (hwd _ wk_224) (fun _ h9 => h9) rfl dX12_lacksOf_122 ?_
              refine lv_iload hx hb dX12_lacksOf_125 (lv_at hl 0 rfl) ?_
              refine va_zald hx hb hK hP 42 41 rfl rfl (i := x9_lp28134) (vin (a := x9_lp28134.toInt) rfl (by omega)) dX12_lacksOf_127 ?_
              refine lv_topi (fun z28140 e28141 => ?_)
              have e28141 : z28140 = F 42 (x9_lp28134 : Int32).toNatClampNeg := e28141.trans (congrFun (hF 42 (by decide)) _)
              refine lv_if_eq (tgt := 205) hx hb dX12_lacksOf_128 (by decide) (fun c28142 => ?_) (fun c28142 => ?_)
              · skip
                have t28143 := cv_eq (a := z28140.toInt) rfl (b := 0) (by decide) c28142
                obtain ⟨z28144, e28145⟩ : ∃ y : Int32, y = x9_lp28134 + 1 := ⟨_, rfl⟩
                try (have t28146 := tadd e28145 rfl (b := 1) (by decide) (by omega))
                refine lv_iinc (v := z28144) (lv' := [(9, .int z28144), (8, .int 1), (7, .int x7_lp28134), (6, .int z27662), (5, .int z27659), (0, .ref (g 0)), (1, .int p0), (2, .int p1), (3, .int p2), (4, .int p3)]) hx hb dX12_lacksOf_205 hl (k := 0) rfl (by rw [e28145]; rfl) (by decide) rfl (fun ls hl => ?_)
                refine lv_goto (tgt := 112) hx hb dX12_lacksOf_208 (by decide) ?_
                exact ih_lp28134 z28144 x7_lp28134 v_lp28134 F_lp28134 _ _ _ (by omega) (by omega) hf_lp28134 hI hF hP hS (lv_sub hl [0, 1, 2, 3, 4, 5, 6, 7, 8, 9] rfl)
              · skip
                have t28147 := cv_ne (a := z28140.toInt) rfl (b := 0) (by decide) c28142
                refine lv_aload_n hx hb dX12_lacksOf_131 rfl (lv_at hl 5 rfl) ?_
                refine va_get (D := (dC, dI)) (ci := 12) (v := .ref (g 11)) (C := RX12) (T := TX12) (N := 63) hx hb hwd inA_X12 hown hK hP 0 rfl rfl 15 (by decide) (hwd _ wk_192) (fun _ h9 => h9) rfl dX12_lacksOf_132 ?_
                refine lv_iload hx hb dX12_lacksOf_135 (lv_at hl 0 rfl) ?_
                refine va_iald hx hb hK hP 11 10 rfl rfl (i := x9_lp28134) (vin (a := x9_lp28134.toInt) rfl (by omega)) dX12_lacksOf_137 ?_
                refine lv_topi (fun z28148 e28149 => ?_)
                have t28150 : 0 ≤ z28148.toInt ∧ z28148.toInt ≤ 9 := by rw [e28149]; exact hI.2 11 _ _ rfl _
                have e28149 : z28148 = F 11 (x9_lp28134 : Int32).toNatClampNeg := e28149.trans (congrFun (hF 11 (by decide)) _)
                refine lv_aload_n hx hb dX12_lacksOf_138 rfl (lv_at hl 5 rfl) ?_
                refine va_get (D := (dC, dI)) (ci := 12) (v := .ref (g 39)) (C := RX12) (T := TX12) (N := 63) hx hb hwd inA_X12 hown hK hP 0 rfl rfl 53 (by decide) (hwd _ wk_221) (fun _ h9 => h9) rfl dX12_lacksOf_139 ?_
                refine lv_iload hx hb dX12_lacksOf_142 (lv_at hl 4 rfl) ?_
                refine va_iald hx hb hK hP 39 38 rfl rfl (i := z27659) (vin (a := z27659.toInt) rfl (by omega)) dX12_lacksOf_144 ?_
                refine lv_topi (fun z28151 e28152 => ?_)
                have e28152 : z28151 = F 39 (z27659 : Int32).toNatClampNeg := e28152.trans (congrFun (hF 39 (by decide)) _)
                refine lv_icmp_ne (tgt := 205) hx hb dX12_lacksOf_145 (by decide) (fun c28153 => ?_) (fun c28153 => ?_)
                · skip
                  have t28154 := cv_ne (a := z28148.toInt) rfl (b := z28151.toInt) rfl c28153
                  obtain ⟨z28155, e28156⟩ : ∃ y : Int32, y = x9_lp28134 + 1 := ⟨_, rfl⟩
                  try (have t28157 := tadd e28156 rfl (b := 1) (by decide) (by omega))
                  refine lv_iinc (v := z28155) (lv' := [(9, .int z28155), (8, .int 1), (7, .int x7_lp28134), (6, .int z27662), (5, .int z27659), (0, .ref (g 0)), (1, .int p0), (2, .int p1), (3, .int p2), (4, .int p3)]) hx hb dX12_lacksOf_205 hl (k := 0) rfl (by rw [e28156]; rfl) (by decide) rfl (fun ls hl => ?_)
                  refine lv_goto (tgt := 112) hx hb dX12_lacksOf_208 (by decide) ?_
                  exact ih_lp28134 z28155 x7_lp28134 v_lp28134 F_lp28134 _ _ _ (by omega) (by omega) hf_lp28134 hI hF hP hS (lv_sub hl [0, 1, 2, 3, 4, 5, 6, 7, 8, 9] rfl)
                · skip
                  have t28158 := cv_eq (a := z28148.toInt) rfl (b := z28151.toInt) rfl c28153
                  refine lv_aload_n hx hb dX12_lacksOf_148 rfl (lv_at hl 5 rfl) ?_
                  refine lv_iload hx hb dX12_lacksOf_149 (lv_at hl 0 rfl) ?_
                  refine lv_iload hx hb dX12_lacksOf_151 (lv_at hl 1 rfl) ?_
                  refine va_calli (va_runV (As := [.int x9_lp28134, .int 1]) (rest := []) ⟨hx, hb, hml, hown, hwd⟩ (c_X12_limitOf l dC dI g c adK adV v_lp28134 F_lp28134 rc H.size x9_lp28134 1 hg hI (by omega) (by have : (1 : Int32).toInt = 1 := (by decide); omega)) (cwV 2 hwd (gV wk_489 wk_486 wk_487 wk_488 wk_5) rfl rfl rfl (by decide +kernel) ⟨Nat.le_of_ble_eq_true rfl, Nat.le_of_ble_eq_true rfl⟩) ⟨PM.blind, va_recv hK hP (ci := 12) (q0 := 0) rfl rfl, fun U hU hW => ⟨rfl, PM.at hK hE hP hS hU hW⟩⟩ rfl rfl hl.1 rfl (lv_room (Nat.le_of_ble_eq_true rfl)) dX12_lacksOf_153 ⟨Nat.le_of_ble_eq_true rfl, Nat.le_of_ble_eq_true rfl⟩) hS (fun q _ h => (freeM hS) q h) (freeM hS) (fun r28159 u t H1 locs ht hvm hw hB hz1 hk1 hS => ?_)
                  unfold BM at hB
                  rw [ht] at hB
                  have hP : va_P (dC, dI) classes (wM g c v_lp28134 F_lp28134 rc) H1 := hB
                  have hw : r28159.toInt = (F_lp28134 1 (limJ (F_lp28134 11) x9_lp28134 (1 : Int32))).toInt := hw
                  rw [hF 1 (by decide)] at hw
                  rw [hF 11 (by decide)] at hw
                  have hw_r28159 := hw
                  have k28160 : (1 : Int32).toInt = 1 := by decide
                  generalize H1 = H at hP hS ⊢
                  refine lv_if_ne (tgt := 162) hx hb dX12_lacksOf_156 (by decide) (fun c28161 => ?_) (fun c28161 => ?_)
                  · skip
                    have t28162 := cv_ne (a := r28159.toInt) rfl (b := 0) (by decide) c28161
                    refine lv_aload_n hx hb dX12_lacksOf_162 rfl (lv_at hl 5 rfl) ?_
                    refine lv_iload hx hb dX12_lacksOf_163 (lv_at hl 0 rfl) ?_
                    refine lv_iload hx hb dX12_lacksOf_165 (lv_at hl 1 rfl) ?_
                    refine lv_iload hx hb dX12_lacksOf_167 (lv_at hl 9 rfl) ?_
                    refine va_calli (va_runV (As := [.int x9_lp28134, .int 1, .int p3]) (rest := []) ⟨hx, hb, hml, hown, hwd⟩ (c_X12_leftOf l dC dI g c adK adV v_lp28134 F_lp28134 rc H.size x9_lp28134 1 p3 hg hI (by omega) (by have : (1 : Int32).toInt = 1 := (by decide); omega) (JL.to hL (show v_lp28134 31 = v 31 from hf_lp28134 31 (by decide)) (hF 28 (by decide)) (hF 29 (by decide)) (hF 27 (by decide)))) (cwV 3 hwd (gV wk_493 wk_490 wk_491 wk_492 wk_5) rfl rfl rfl (by decide +kernel) ⟨Nat.le_of_ble_eq_true rfl, Nat.le_of_ble_eq_true rfl⟩) ⟨PM.blind, va_recv hK hP (ci := 12) (q0 := 0) rfl rfl, fun U hU hW => ⟨rfl, PM.at hK hE hP hS hU hW⟩⟩ rfl rfl hl.1 rfl (lv_room (Nat.le_of_ble_eq_true rfl)) dX12_lacksOf_169 ⟨Nat.le_of_ble_eq_true rfl, Nat.le_of_ble_eq_true rfl⟩) hS (fun q _ h => (freeM hS) q h) (freeM hS) (fun r28163 u t H1 locs ht hvm hw hB hz1 hk1 hS => ?_)
                    unfold BM at hB
                    rw [ht] at hB
                    obtain ⟨v28164, F28165, rc9⟩ := u
                    obtain ⟨hI, hrc, hf28166, hG28167, hw⟩ := hw
                    dsimp only at hI hrc hB hf28166 hG28167 hw
                    have hF := frCF (by decide) hG28167 hF
                    rw [hrc] at hB
                    have hP : va_P (dC, dI) classes (wM g c v28164 F28165 rc) H1 := hB
                    generalize H1 = H at hP hS ⊢
                    have rr_r28163 := i32_rng r28163
                    refine lv_istore (lv' := [(10, .int r28163), (9, .int x9_lp28134), (8, .int 1), (7, .int x7_lp28134), (6, .int z27662), (5, .int z27659), (0, .ref (g 0)), (1, .int p0), (2, .int p1), (3, .int p2), (4, .int p3)]) hx hb dX12_lacksOf_172 hl (by decide) rfl (fun ls hl => ?_)
                    refine lv_iload hx hb dX12_lacksOf_174 (lv_at hl 3 rfl) ?_
                    refine lv_iload hx hb dX12_lacksOf_176 (lv_at hl 0 rfl) ?_
                    refine lv_aload_n hx hb dX12_lacksOf_178 rfl (lv_at hl 6 rfl) ?_
                    refine va_get (D := (dC, dI)) (ci := 12) (v := .ref (g 40)) (C := RX12) (T := TX12) (N := 63) hx hb hwd inA_X12 hown hK hP 0 rfl rfl 54 (by decide) (hwd _ wk_222) (fun _ h9 => h9) rfl dX12_lacksOf_179 ?_
                    refine lv_iload hx hb dX12_lacksOf_182 (lv_at hl 5 rfl) ?_
                    refine va_iald hx hb hK hP 40 39 rfl rfl (i := z27659) (vin (a := z27659.toInt) rfl (by omega)) dX12_lacksOf_184 ?_
                    refine lv_topi (fun z28168 e28169 => ?_)
                    have e28169 : z28168 = F 40 (z27659 : Int32).toNatClampNeg := e28169.trans (congrFun (hF 40 (by decide)) _)
                    refine lv_icmp_ge (tgt := 201) hx hb dX12_lacksOf_185 (by decide) (fun c28170 => ?_) (fun c28170 => ?_)
                    · skip
                      have t28171 := cv_le (a := z28168.toInt) rfl (b := r28163.toInt) rfl c28170
                      refine lv_iconst (v := 0) hx hb dX12_lacksOf_201 (by decide) ?_
                      refine lv_iadd hx hb dX12_lacksOf_202 ?_
                      refine lv_topi (fun z28172 e28173 => ?_)
                      try (have t28174 := tadd e28173 (a := x7_lp28134.toInt) rfl (b := 0) (by decide) (by omega))
                      refine lv_istore (lv' := [(7, .int z28172), (10, .int r28163), (9, .int x9_lp28134), (8, .int 1), (6, .int z27662), (5, .int z27659), (0, .ref (g 0)), (1, .int p0), (2, .int p1), (3, .int p2), (4, .int p3)]) hx hb dX12_lacksOf_203 hl (by decide) rfl (fun ls hl => ?_)
                      obtain ⟨z28175, e28176⟩ : ∃ y : Int32, y = x9_lp28134 + 1 := ⟨_, rfl⟩
                      try (have t28177 := tadd e28176 rfl (b := 1) (by decide) (by omega))
                      refine lv_iinc (v := z28175) (lv' := [(9, .int z28175), (7, .int z28172), (10, .int r28163), (8, .int 1), (6, .int z27662), (5, .int z27659), (0, .ref (g 0)), (1, .int p0), (2, .int p1), (3, .int p2), (4, .int p3)]) hx hb dX12_lacksOf_205 hl (k := 2) rfl (by rw [e28176]; rfl) (by decide) rfl (fun ls hl => ?_)
                      refine lv_goto (tgt := 112) hx hb dX12_lacksOf_208 (by decide) ?_
                      exact ih_lp28134 z28175 z28172 v28164 F28165 _ _ _ (by omega) (by omega) (frC (by decide) hf28166 hf_lp28134) hI hF hP hS (lv_sub hl [0, 3, 1, 4, 5, 6, 7, 8, 9, 10] rfl)
                    · skip
                      have t28178 := cv_nle (a := z28168.toInt) rfl (b := r28163.toInt) rfl c28170
                      refine lv_aload_n hx hb dX12_lacksOf_188 rfl (lv_at hl 6 rfl) ?_
                      refine va_get (D := (dC, dI)) (ci := 12) (v := .ref (g 40)) (C := RX12) (T := TX12) (N := 63) hx hb hwd inA_X12 hown hK hP 0 rfl rfl 54 (by decide) (hwd _ wk_222) (fun _ h9 => h9) rfl dX12_lacksOf_189 ?_
                      refine lv_iload hx hb dX12_lacksOf_192 (lv_at hl 5 rfl) ?_
                      refine va_iald hx hb hK hP 40 39 rfl rfl (i := z27659) (vin (a := z27659.toInt) rfl (by omega)) dX12_lacksOf_194 ?_
                      refine lv_topi (fun z28179 e28180 => ?_)
                      have e28180 : z28179 = F 40 (z27659 : Int32).toNatClampNeg := e28180.trans (congrFun (hF 40 (by decide)) _)
                      refine lv_iload hx hb dX12_lacksOf_195 (lv_at hl 0 rfl) ?_
                      refine lv_isub hx hb dX12_lacksOf_197 ?_
                      refine lv_topi (fun z28181 e28182 => ?_)
                      try (have t28183 := tsub e28182 (a := z28179.toInt) rfl (b := r28163.toInt) rfl (by omega))
                      refine lv_goto (tgt := 202) hx hb dX12_lacksOf_198 (by decide) ?_
                      refine lv_iadd hx hb dX12_lacksOf_202 ?_
                      refine lv_topi (fun z28184 e28185 => ?_)
                      try (have t28186 := tadd e28185 (a := x7_lp28134.toInt) rfl (b := z28181.toInt) rfl (by omega))
                      refine lv_istore (lv' := [(7, .int z28184), (10, .int r28163), (9, .int x9_lp28134), (8, .int 1), (6, .int z27662), (5, .int z27659), (0, .ref (g 0)), (1, .int p0), (2, .int p1), (3, .int p2), (4, .int p3)]) hx hb dX12_lacksOf_203 hl (by decide) rfl (fun ls hl => ?_)
                      obtain ⟨z28187, e28188⟩ : ∃ y : Int32, y = x9_lp28134 + 1 := ⟨_, rfl⟩
                      try (have t28189 := tadd e28188 rfl (b := 1) (by decide) (by omega))
                      refine lv_iinc (v := z28187) (lv' := [(9, .int z28187), (7, .int z28184), (10, .int r28163), (8, .int 1), (6, .int z27662), (5, .int z27659), (0, .ref (g 0)), (1, .int p0), (2, .int p1), (3, .int p2), (4, .int p3)]) hx hb dX12_lacksOf_205 hl (k := 2) rfl (by rw [e28188]; rfl) (by decide) rfl (fun ls hl => ?_)
                      refine lv_goto (tgt := 112) hx hb dX12_lacksOf_208 (by decide) ?_
                      exact ih_lp28134 z28187 z28184 v28164 F28165 _ _ _ (by omega) (by omega) (frC (by decide) hf28166 hf_lp28134) hI hF hP hS (lv_sub hl [0, 3, 1, 4, 5, 6, 7, 8, 9, 10] rfl)
                  · skip
                    have t28190 := cv_eq (a := r28159.toInt) rfl (b := 0) (by decide) c28161
                    refine lv_goto (tgt := 205) hx hb dX12_lacksOf_159 (by decide) ?_
                    obtain ⟨z28191, e28192⟩ : ∃ y : Int32, y = x9_lp28134 + 1 := ⟨_, rfl⟩
                    try (have t28193 := tadd e28192 rfl (b := 1) (by decide) (by omega))
                    refine lv_iinc (v := z28191) (lv' := [(9, .int z28191), (8, .int 1), (7, .int x7_lp28134), (6, .int z27662), (5, .int z27659), (0, .ref (g 0)), (1, .int p0), (2, .int p1), (3, .int p2), (4, .int p3)]) hx hb dX12_lacksOf_205 hl (k := 0) rfl (by rw [e28192]; rfl) (by decide) rfl (fun ls hl => ?_)
                    refine lv_goto (tgt := 112) hx hb dX12_lacksOf_208 (by decide) ?_
                    exact ih_lp28134 z28191 x7_lp28134 v_lp28134 F_lp28134 _ _ _ (by omega) (by omega) hf_lp28134 hI hF hP hS (lv_sub hl [0, 1, 2, 3, 4, 5, 6, 7, 8, 9] rfl)
        obtain ⟨n9, hn9⟩ : ∃ n : Nat, 2147483648 - 0 ≤ (n : Int) := ⟨((2147483648 - 0 : Int)).toNat, by omega⟩
        exact lp28134 n9 0 0 v F H _ ls (by have : (0 : Int32).toInt = 0 := (by decide); have : (0 : Int32).toInt = 0 := (by decide); omega) (by have : (0 : Int32).toInt = 0 := (by decide); have : (0 : Int32).toInt = 0 := (by decide); omega) (fun _ _ => rfl) hI hF hP hS hl
    · skip
      have t28194 := cv_eq (a := z27662.toInt) rfl (b := 104) (by decide) c28069
      refine lv_iconst (v := 0) hx hb dX12_lacksOf_91 (by decide) ?_
      refine lv_goto (tgt := 107) hx hb dX12_lacksOf_92 (by decide) ?_
      refine lv_istore (lv' := [(8, .int 0), (7, .int 0), (6, .int z27662), (5, .int z27659), (0, .ref (g 0)), (1, .int p0), (2, .int p1), (3, .int p2), (4, .int p3)]) hx hb dX12_lacksOf_107 hl (by decide) rfl (fun ls hl => ?_)
      refine lv_iconst (v := 0) hx hb dX12_lacksOf_109 (by decide) ?_
      refine lv_istore (lv' := [(9, .int 0), (8, .int 0), (7, .int 0), (6, .int z27662), (5, .int z27659), (0, .ref (g 0)), (1, .int p0), (2, .int p1), (3, .int p2), (4, .int p3)]) hx hb dX12_lacksOf_110 hl (by decide) rfl (fun ls hl => ?_)
      have lp28195 : ∀ (n : Nat) (x9_lp28195 : Int32) (x7_lp28195 : Int32) (v_lp28195 : Nat → Int32) (F_lp28195 : Nat → Nat → Int32) (H : Heap) (locs : List Loc) (ls : Array Slot), (0 ≤ x9_lp28195.toInt) → (2147483648 - x9_lp28195.toInt ≤ (n : Int)) → (∀ k, k ∉ ([] : List Nat) → v_lp28195 k = v k) → IM v_lp28195 F_lp28195 → (∀ k, k ∉ ([30, 31] : List Nat) → F_lp28195 k = F k) → va_P (dC, dI) classes (wM g c v_lp28195 F_lp28195 rc) H → va_S (AM g s.heap.size) s.heap H locs → lv_has ls 11 [(9, .int x9_lp28195), (8, .int 0), (7, .int x7_lp28195), (6, .int z27662), (5, .int z27659), (0, .ref (g 0)), (1, .int p0), (2, .int p1), (3, .int p2), (4, .int p3)] → W p l e (headSpec (Cond.code yX12_lacksOf cX12_lacksOf 11 (some .int) :: wA) ({ frames := 5, cells := 0, slots := 0, locals := 200 })).room s m ([.ref (g 0), .int p0, .int p1, .int p2, .int p3] : List Value).toArray below meth c0 H locs 0 0 (MQ below (va_Qi (fun (r : Int32) (u : StM) => IM u.1 u.2.1 ∧ u.2.2 = rc ∧ (∀ k, k ∉ ([] : List Nat) → u.1 k = v k) ∧ (∀ k, k ∉ ([30, 31] : List Nat) → u.2.1 k = F k) ∧ True) (BM dC dI g c) (AM g s.heap.size)) ([.ref (g 0), .int p0, .int p1, .int p2, .int p3] : List Value).toArray s 0 0 (AM g s.heap.size)) (F0 m 112 ls []) := by
        intro n
        induction n with
        | zero =>
          intro x9_lp28195 x7_lp28195 v_lp28195 F_lp28195 H locs ls t28196 hm hf_lp28195 hI hF hP hS hl
          exfalso
          have := i32_rng x9_lp28195
          have := i32_rng x7_lp28195
          have hI1 := hI.1
          omega
        | succ n ih_lp28195 =>
          intro x9_lp28195 x7_lp28195 v_lp28195 F_lp28195 H locs ls t28196 hm hf_lp28195 hI hF hP hS hl
          have rx9_lp28195 := i32_rng x9_lp28195
          have rx7_lp28195 := i32_rng x7_lp28195
          refine lv_iload hx hb dX12_lacksOf_112 (lv_at hl 0 rfl) ?_
          refine lv_aload_n hx hb dX12_lacksOf_114 rfl (lv_at hl 5 rfl) ?_
          refine va_get (D := (dC, dI)) (ci := 12) (v := .int (v_lp28195 14)) (C := RX12) (T := TX12) (N := 63) hx hb hwd inA_X12 hown hK hP 0 rfl rfl 14 (by decide) (hwd _ wk_318) (fun _ h9 => h9) rfl dX12_lacksOf_115 ?_
          refine my_top (v := v 14) (hf_lp28195 14 (by decide)) ?_
          have t28197 : 0 ≤ (v 14).toInt ∧ (v 14).toInt ≤ 100 := by have h9 := hI.1 14 _ _ rfl; rw [show v_lp28195 14 = v 14 from hf_lp28195 14 (by decide)] at h9; exact h9
          refine lv_icmp_ge (tgt := 211) hx hb dX12_lacksOf_118 (by decide) (fun c28198 => ?_) (fun c28198 => ?_)
          · skip
            have t28199 := cv_le (a := (v 14).toInt) rfl (b := x9_lp28195.toInt) rfl c28198
            refine lv_iload hx hb dX12_lacksOf_211 (lv_at hl 2 rfl) ?_
            have hP9 : va_P (dC, dI) classes (wM g c v_lp28195 F_lp28195 rc) H := hP
            exact W.iret (v := x7_lp28195) hx hb hr (fun t ht hW => ⟨⟨x7_lp28195, (v_lp28195, F_lp28195, rc), rfl, ⟨hI, rfl, (frC (by decide) hf_lp28195 (fun _ _ => rfl)), hF, trivial⟩, (by show va_P _ _ _ t.heap; rw [ht]; exact hP9)⟩, hS.F ht⟩) hS.2.2 dX12_lacksOf_213
          · skip
            have t28200 := cv_nle (a := (v 14).toInt) rfl (b := x9_lp28195.toInt) rfl c28198
            refine lv_aload_n hx hb dX12_lacksOf_121 rfl (lv_at hl 5 rfl) ?_
            refine va_get (D := (dC, dI)) (ci := 12) (v := .ref (g 42)) (C := RX12) (T := TX12) (N := 63) hx hb hwd inA_X12 hown hK hP 0 rfl rfl 56 (by decide) (hwd _ wk_224) (fun _ h9 => h9) rfl dX12_lacksOf_122 ?_
            refine lv_iload hx hb dX12_lacksOf_125 (lv_at hl 0 rfl) ?_
            refine va_zald hx hb hK hP 42 41 rfl rfl (i := x9_lp28195) (vin (a := x9_lp28195.toInt) rfl (by omega)) dX12_lacksOf_127 ?_
            refine lv_topi (fun z28201 e28202 => ?_)
            have e28202 : z28201 = F 42 (x9_lp28195 : Int32).toNatClampNeg := e28202.trans (congrFun (hF 42 (by decide)) _)
            refine lv_if_eq (tgt := 205) hx hb dX12_lacksOf_128 (by decide) (fun c28203 => ?_) (fun c28203 => ?_)
            · skip
              have t28204 := cv_eq (a := z28201.toInt) rfl (b := 0) (by decide) c28203
              obtain ⟨z28205, e28206⟩ : ∃ y : Int32, y = x9_lp28195 + 1 := ⟨_, rfl⟩
              try (have t28207 := tadd e28206 rfl (b := 1) (by decide) (by omega))
              refine lv_iinc (v := z28205) (lv' := [(9, .int z28205), (8, .int 0), (7, .int x7_lp28195), (6, .int z27662), (5, .int z27659), (0, .ref (g 0)), (1, .int p0), (2, .int p1), (3, .int p2), (4, .int p3)]) hx hb dX12_lacksOf_205 hl (k := 0) rfl (by rw [e28206]; rfl) (by decide) rfl (fun ls hl => ?_)
              refine lv_goto (tgt := 112) hx hb dX12_lacksOf_208 (by decide) ?_
              exact ih_lp28195 z28205 x7_lp28195 v_lp28195 F_lp28195 _ _ _ (by omega) (by omega) hf_lp28195 hI hF hP hS (lv_sub hl [0, 1, 2, 3, 4, 5, 6, 7, 8, 9] rfl)
            · skip
              have t28208 := cv_ne (a := z28201.toInt) rfl (b := 0) (by decide) c28203
              refine lv_aload_n hx hb dX12_lacksOf_131 rfl (lv_at hl 5 rfl) ?_
              refine va_get (D := (dC, dI)) (ci := 12) (v := .ref (g 11)) (C := RX12) (T := TX12) (N := 63) hx hb hwd inA_X12 hown hK hP 0 rfl rfl 15 (by decide) (hwd _ wk_192) (fun _ h9 => h9) rfl dX12_lacksOf_132 ?_
              refine lv_iload hx hb dX12_lacksOf_135 (lv_at hl 0 rfl) ?_
              refine va_iald hx hb hK hP 11 10 rfl rfl (i := x9_lp28195) (vin (a := x9_lp28195.toInt) rfl (by omega)) dX12_lacksOf_137 ?_
              refine lv_topi (fun z28209 e28210 => ?_)
              have t28211 : 0 ≤ z28209.toInt ∧ z28209.toInt ≤ 9 := by rw [e28210]; exact hI.2 11 _ _ rfl _
              have e28210 : z28209 = F 11 (x9_lp28195 : Int32).toNatClampNeg := e28210.trans (congrFun (hF 11 (by decide)) _)
              refine lv_aload_n hx hb dX12_lacksOf_138 rfl (lv_at hl 5 rfl) ?_
              refine va_get (D := (dC, dI)) (ci := 12) (v := .ref (g 39)) (C := RX12) (T := TX12) (N := 63) hx hb hwd inA_X12 hown hK hP 0 rfl rfl 53 (by decide) (hwd _ wk_221) (fun _ h9 => h9) rfl dX12_lacksOf_139 ?_
              refine lv_iload hx hb dX12_lacksOf_142 (lv_at hl 4 rfl) ?_
              refine va_iald hx hb hK hP 39 38 rfl rfl (i := z27659) (vin (a := z27659.toInt) rfl (by omega)) dX12_lacksOf_144 ?_
              refine lv_topi (fun z28212 e28213 => ?_)
              have e28213 : z28212 = F 39 (z27659 : Int32).toNatClampNeg := e28213.trans (congrFun (hF 39 (by decide)) _)
              refine lv_icmp_ne (tgt := 205) hx hb dX12_lacksOf_145 (by decide) (fun c28214 => ?_) (fun c28214 => ?_)
              · skip
                have t28215 := cv_ne (a := z28209.toInt) rfl (b := z28212.toInt) rfl c28214
                obtain ⟨z28216, e28217⟩ : ∃ y : Int32, y = x9_lp28195 + 1 := ⟨_, rfl⟩
                try (have t28218 := tadd e28217 rfl (b := 1) (by decide) (by omega))
                refine lv_iinc (v := z28216) (lv' := [(9, .int z28216), (8, .int 0), (7, .int x7_lp28195), (6, .int z27662), (5, .int z27659), (0, .ref (g 0)), (1, .int p0), (2, .int p1), (3, .int p2), (4, .int p3)]) hx hb dX12_lacksOf_205 hl (k := 0) rfl (by rw [e28217]; rfl) (by decide) rfl (fun ls hl => ?_)
                refine lv_goto (tgt := 112) hx hb dX12_lacksOf_208 (by decide) ?_
                exact ih_lp28195 z28216 x7_lp28195 v_lp28195 F_lp28195 _ _ _ (by omega) (by omega) hf_lp28195 hI hF hP hS (lv_sub hl [0, 1, 2, 3, 4, 5, 6, 7, 8, 9] rfl)
              · skip
                have t28219 := cv_eq (a := z28209.toInt) rfl (b := z28212.toInt) rfl c28214
                refine lv_aload_n hx hb dX12_lacksOf_148 rfl (lv_at hl 5 rfl) ?_
                refine lv_iload hx hb dX12_lacksOf_149 (lv_at hl 0 rfl) ?_
                refine lv_iload hx hb dX12_lacksOf_151 (lv_at hl 1 rfl) ?_
                refine va_calli (va_runV (As := [.int x9_lp28195, .int 0]) (rest := []) ⟨hx, hb, hml, hown, hwd⟩ (c_X12_limitOf l dC dI g c adK adV v_lp28195 F_lp28195 rc H.size x9_lp28195 0 hg hI (by omega) (by have : (0 : Int32).toInt = 0 := (by decide); omega)) (cwV 2 hwd (gV wk_489 wk_486 wk_487 wk_488 wk_5) rfl rfl rfl (by decide +kernel) ⟨Nat.le_of_ble_eq_true rfl, Nat.le_of_ble_eq_true rfl⟩) ⟨PM.blind, va_recv hK hP (ci := 12) (q0 := 0) rfl rfl, fun U hU hW => ⟨rfl, PM.at hK hE hP hS hU hW⟩⟩ rfl rfl hl.1 rfl (lv_room (Nat.le_of_ble_eq_true rfl)) dX12_lacksOf_153 ⟨Nat.le_of_ble_eq_true rfl, Nat.le_of_ble_eq_true rfl⟩) hS (fun q _ h => (freeM hS) q h) (freeM hS) (fun r28220 u t H1 locs ht hvm hw hB hz1 hk1 hS => ?_)
                unfold BM at hB
                rw [ht] at hB
                have hP : va_P (dC, dI) classes (wM g c v_lp28195 F_lp28195 rc) H1 := hB
                have hw : r28220.toInt = (F_lp28195 1 (limJ (F_lp28195 11) x9_lp28195 (0 : Int32))).toInt := hw
                rw [hF 1 (by decide)] at hw
                rw [hF 11 (by decide)] at hw
                have hw_r28220 := hw
                have k28221 : (0 : Int32).toInt = 0 := by decide
                generalize H1 = H at hP hS ⊢
                refine lv_if_ne (tgt := 162) hx hb dX12_lacksOf_156 (by decide) (fun c28222 => ?_) (fun c28222 => ?_)
                · skip
                  have t28223 := cv_ne (a := r28220.toInt) rfl (b := 0) (by decide) c28222
                  refine lv_aload_n hx hb dX12_lacksOf_162 rfl (lv_at hl 5 rfl) ?_
                  refine lv_iload hx hb dX12_lacksOf_163 (lv_at hl 0 rfl) ?_
                  refine lv_iload hx hb dX12_lacksOf_165 (lv_at hl 1 rfl) ?_
                  refine lv_iload hx hb dX12_lacksOf_167 (lv_at hl 9 rfl) ?_
                  refine va_calli (va_runV (As := [.int x9_lp28195, .int 0, .int p3]) (rest := []) ⟨hx, hb, hml, hown, hwd⟩ (c_X12_leftOf l dC dI g c adK adV v_lp28195 F_lp28195 rc H.size x9_lp28195 0 p3 hg hI (by omega) (by have : (0 : Int32).toInt = 0 := (by decide); omega) (JL.to hL (show v_lp28195 31 = v 31 from hf_lp28195 31 (by decide)) (hF 28 (by decide)) (hF 29 (by decide)) (hF 27 (by decide)))) (cwV 3 hwd (gV wk_493 wk_490 wk_491 wk_492 wk_5) rfl rfl rfl (by decide +kernel) ⟨Nat.le_of_ble_eq_true rfl, Nat.le_of_ble_eq_true rfl⟩) ⟨PM.blind, va_recv hK hP (ci := 12) (q0 := 0) rfl rfl, fun U hU hW => ⟨rfl, PM.at hK hE hP hS hU hW⟩⟩ rfl rfl hl.1 rfl (lv_room (Nat.le_of_ble_eq_true rfl)) dX12_lacksOf_169 ⟨Nat.le_of_ble_eq_true rfl, Nat.le_of_ble_eq_true rfl⟩) hS (fun q _ h => (freeM hS) q h) (freeM hS) (fun r28224 u t H1 locs ht hvm hw hB hz1 hk1 hS => ?_)
                  unfold BM at hB
                  rw [ht] at hB
                  obtain ⟨v28225, F28226, rc9⟩ := u
                  obtain ⟨hI, hrc, hf28227, hG28228, hw⟩ := hw
                  dsimp only at hI hrc hB hf28227 hG28228 hw
                  have hF := frCF (by decide) hG28228 hF
                  rw [hrc] at hB
                  have hP : va_P (dC, dI) classes (wM g c v28225 F28226 rc) H1 := hB
                  generalize H1 = H at hP hS ⊢
                  have rr_r28224 := i32_rng r28224
                  refine lv_istore (lv' := [(10, .int r28224), (9, .int x9_lp28195), (8, .int 0), (7, .int x7_lp28195), (6, .int z27662), (5, .int z27659), (0, .ref (g 0)), (1, .int p0), (2, .int p1), (3, .int p2), (4, .int p3)]) hx hb dX12_lacksOf_172 hl (by decide) rfl (fun ls hl => ?_)
                  refine lv_iload hx hb dX12_lacksOf_174 (lv_at hl 3 rfl) ?_
                  refine lv_iload hx hb dX12_lacksOf_176 (lv_at hl 0 rfl) ?_
                  refine lv_aload_n hx hb dX12_lacksOf_178 rfl (lv_at hl 6 rfl) ?_
                  refine va_get (D := (dC, dI)) (ci := 12) (v := .ref (g 40)) (C := RX12) (T := TX12) (N := 63) hx hb hwd inA_X12 hown hK hP 0 rfl rfl 54 (by decide) (hwd _ wk_222) (fun _ h9 => h9) rfl dX12_lacksOf_179 ?_
                  refine lv_iload hx hb dX12_lacksOf_182 (lv_at hl 5 rfl) ?_
                  refine va_iald hx hb hK hP 40 39 rfl rfl (i := z27659) (vin (a := z27659.toInt) rfl (by omega)) dX12_lacksOf_184 ?_
                  refine lv_topi (fun z28229 e28230 => ?_)
                  have e28230 : z28229 = F 40 (z27659 : Int32).toNatClampNeg := e28230.trans (congrFun (hF 40 (by decide)) _)
                  refine lv_icmp_ge (tgt := 201) hx hb dX12_lacksOf_185 (by decide) (fun c28231 => ?_) (fun c28231 => ?_)
                  · skip
                    have t28232 := cv_le (a := z28229.toInt) rfl (b := r28224.toInt) rfl c28231
                    refine lv_iconst (v := 0) hx hb dX12_lacksOf_201 (by decide) ?_
                    refine lv_iadd hx hb dX12_lacksOf_202 ?_
                    refine lv_topi (fun z28233 e28234 => ?_)
                    try (have t28235 := tadd e28234 (a := x7_lp28195.toInt) rfl (b := 0) (by decide) (by omega))
                    refine lv_istore (lv' := [(7, .int z28233), (10, .int r28224), (9, .int x9_lp28195), (8, .int 0), (6, .int z27662), (5, .int z27659), (0, .ref (g 0)), (1, .int p0), (2, .int p1), (3, .int p2), (4, .int p3)]) hx hb dX12_lacksOf_203 hl (by decide) rfl (fun ls hl => ?_)
                    obtain ⟨z28236, e28237⟩ : ∃ y : Int32, y = x9_lp28195 + 1 := ⟨_, rfl⟩
                    try (have t28238 := tadd e28237 rfl (b := 1) (by decide) (by omega))
                    refine lv_iinc (v := z28236) (lv' := [(9, .int z28236), (7, .int z28233), (10, .int r28224), (8, .int 0), (6, .int z27662), (5, .int z27659), (0, .ref (g 0)), (1, .int p0), (2, .int p1), (3, .int p2), (4, .int p3)]) hx hb dX12_lacksOf_205 hl (k := 2) rfl (by rw [e28237]; rfl) (by decide) rfl (fun ls hl => ?_)
                    refine lv_goto (tgt := 112) hx hb dX12_lacksOf_208 (by decide) ?_
                    exact ih_lp28195 z28236 z28233 v28225 F28226 _ _ _ (by omega) (by omega) (frC (by decide) hf28227 hf_lp28195) hI hF hP hS (lv_sub hl [0, 3, 1, 4, 5, 6, 7, 8, 9, 10] rfl)
                  · skip
                    have t28239 := cv_nle (a := z28229.toInt) rfl (b := r28224.toInt) rfl c28231
                    refine lv_aload_n hx hb dX12_lacksOf_188 rfl (lv_at hl 6 rfl) ?_
                    refine va_get (D := (dC, dI)) (ci := 12) (v := .ref (g 40)) (C := RX12) (T := TX12) (N := 63) hx hb hwd inA_X12 hown hK hP 0 rfl rfl 54 (by decide) (hwd _ wk_222) (fun _ h9 => h9) rfl dX12_lacksOf_189 ?_
                    refine lv_iload hx hb dX12_lacksOf_192 (lv_at hl 5 rfl) ?_
                    refine va_iald hx hb hK hP 40 39 rfl rfl (i := z27659) (vin (a := z27659.toInt) rfl (by omega)) dX12_lacksOf_194 ?_
                    refine lv_topi (fun z28240 e28241 => ?_)
                    have e28241 : z28240 = F 40 (z27659 : Int32).toNatClampNeg := e28241.trans (congrFun (hF 40 (by decide)) _)
                    refine lv_iload hx hb dX12_lacksOf_195 (lv_at hl 0 rfl) ?_
                    refine lv_isub hx hb dX12_lacksOf_197 ?_
                    refine lv_topi (fun z28242 e28243 => ?_)
                    try (have t28244 := tsub e28243 (a := z28240.toInt) rfl (b := r28224.toInt) rfl (by omega))
                    refine lv_goto (tgt := 202) hx hb dX12_lacksOf_198 (by decide) ?_
                    refine lv_iadd hx hb dX12_lacksOf_202 ?_
                    refine lv_topi (fun z28245 e28246 => ?_)
                    try (have t28247 := tadd e28246 (a := x7_lp28195.toInt) rfl (b := z28242.toInt) rfl (by omega))
                    refine lv_istore (lv' := [(7, .int z28245), (10, .int r28224), (9, .int x9_lp28195), (8, .int 0), (6, .int z27662), (5, .int z27659), (0, .ref (g 0)), (1, .int p0), (2, .int p1), (3, .int p2), (4, .int p3)]) hx hb dX12_lacksOf_203 hl (by decide) rfl (fun ls hl => ?_)
                    obtain ⟨z28248, e28249⟩ : ∃ y : Int32, y = x9_lp28195 + 1 := ⟨_, rfl⟩
                    try (have t28250 := tadd e28249 rfl (b := 1) (by decide) (by omega))
                    refine lv_iinc (v := z28248) (lv' := [(9, .int z28248), (7, .int z28245), (10, .int r28224), (8, .int 0), (6, .int z27662), (5, .int z27659), (0, .ref (g 0)), (1, .int p0), (2, .int p1), (3, .int p2), (4, .int p3)]) hx hb dX12_lacksOf_205 hl (k := 2) rfl (by rw [e28249]; rfl) (by decide) rfl (fun ls hl => ?_)
                    refine lv_goto (tgt := 112) hx hb dX12_lacksOf_208 (by decide) ?_
                    exact ih_lp28195 z28248 z28245 v28225 F28226 _ _ _ (by omega) (by omega) (frC (by decide) hf28227 hf_lp28195) hI hF hP hS (lv_sub hl [0, 3, 1, 4, 5, 6, 7, 8, 9, 10] rfl)
                · skip
                  have t28251 := cv_eq (a := r28220.toInt) rfl (b := 0) (by decide) c28222
                  refine lv_goto (tgt := 205) hx hb dX12_lacksOf_159 (by decide) ?_
                  obtain ⟨z28252, e28253⟩ : ∃ y : Int32, y = x9_lp28195 + 1 := ⟨_, rfl⟩
                  try (have t28254 := tadd e28253 rfl (b := 1) (by decide) (by omega))
                  refine lv_iinc (v := z28252) (lv' := [(9, .int z28252), (8, .int 0), (7, .int x7_lp28195), (6, .int z27662), (5, .int z27659), (0, .ref (g 0)), (1, .int p0), (2, .int p1), (3, .int p2), (4, .int p3)]) hx hb dX12_lacksOf_205 hl (k := 0) rfl (by rw [e28253]; rfl) (by decide) rfl (fun ls hl => ?_)
                  refine lv_goto (tgt := 112) hx hb dX12_lacksOf_208 (by decide) ?_
                  exact ih_lp28195 z28252 x7_lp28195 v_lp28195 F_lp28195 _ _ _ (by omega) (by omega) hf_lp28195 hI hF hP hS (lv_sub hl [0, 1, 2, 3, 4, 5, 6, 7, 8, 9] rfl)
      obtain ⟨n9, hn9⟩ : ∃ n : Nat, 2147483648 - 0 ≤ (n : Int) := ⟨((2147483648 - 0 : Int)).toNat, by omega⟩
      exact lp28195 n9 0 0 v F H _ ls (by have : (0 : Int32).toInt = 0 := (by decide); have : (0 : Int32).toInt = 0 := (by decide); omega) (by have : (0 : Int32).toInt = 0 := (by decide); have : (0 : Int32).toInt = 0 := (by decide); omega) (fun _ _ => rfl) hI hF hP hS hl
  · refine lv_tableIn (off := 294) (tgt := 316) hx hb dX12_lacksOf_22 hlo27664 hhi27665 (by rw [hk]; decide) (by decide) ?_
    refine lv_iconst (v := 0) hx hb dX12_lacksOf_316 (by decide) ?_
    refine lv_istore (lv' := [(8, .int 0), (7, .int 0), (6, .int z27662), (5, .int z27659), (0, .ref (g 0)), (1, .int p0), (2, .int p1), (3, .int p2), (4, .int p3)]) hx hb dX12_lacksOf_317 hl (by decide) rfl (fun ls hl => ?_)
    have lp28255 : ∀ (n : Nat) (x8_lp28255 : Int32) (x7_lp28255 : Int32) (v_lp28255 : Nat → Int32) (F_lp28255 : Nat → Nat → Int32) (H : Heap) (locs : List Loc) (ls : Array Slot), (0 ≤ x8_lp28255.toInt) → (2147483648 - x8_lp28255.toInt ≤ (n : Int)) → (∀ k, k ∉ ([] : List Nat) → v_lp28255 k = v k) → IM v_lp28255 F_lp28255 → (∀ k, k ∉ ([30, 31] : List Nat) → F_lp28255 k = F k) → va_P (dC, dI) classes (wM g c v_lp28255 F_lp28255 rc) H → va_S (AM g s.heap.size) s.heap H locs → lv_has ls 11 [(8, .int x8_lp28255), (7, .int x7_lp28255), (6, .int z27662), (5, .int z27659), (0, .ref (g 0)), (1, .int p0), (2, .int p1), (3, .int p2), (4, .int p3)] → W p l e (headSpec (Cond.code yX12_lacksOf cX12_lacksOf 11 (some .int) :: wA) ({ frames := 5, cells := 0, slots := 0, locals := 200 })).room s m ([.ref (g 0), .int p0, .int p1, .int p2, .int p3] : List Value).toArray below meth c0 H locs 0 0 (MQ below (va_Qi (fun (r : Int32) (u : StM) => IM u.1 u.2.1 ∧ u.2.2 = rc ∧ (∀ k, k ∉ ([] : List Nat) → u.1 k = v k) ∧ (∀ k, k ∉ ([30, 31] : List Nat) → u.2.1 k = F k) ∧ True) (BM dC dI g c) (AM g s.heap.size)) ([.ref (g 0), .int p0, .int p1, .int p2, .int p3] : List Value).toArray s 0 0 (AM g s.heap.size)) (F0 m 319 ls []) := by
      intro n
      induction n with
      | zero =>
        intro x8_lp28255 x7_lp28255 v_lp28255 F_lp28255 H locs ls t28256 hm hf_lp28255 hI hF hP hS hl
        exfalso
        have := i32_rng x8_lp28255
        have := i32_rng x7_lp28255
        have hI1 := hI.1
        omega
      | succ n ih_lp28255 =>
        intro x8_lp28255 x7_lp28255 v_lp28255 F_lp28255 H locs ls t28256 hm hf_lp28255 hI hF hP hS hl
        have rx8_lp28255 := i32_rng x8_lp28255
        have rx7_lp28255 := i32_rng x7_lp28255
        refine lv_iload hx hb dX12_lacksOf_319 (lv_at hl 0 rfl) ?_
        refine lv_aload_n hx hb dX12_lacksOf_321 rfl (lv_at hl 4 rfl) ?_
        refine va_get (D := (dC, dI)) (ci := 12) (v := .int (v_lp28255 2)) (C := RX12) (T := TX12) (N := 63) hx hb hwd inA_X12 hown hK hP 0 rfl rfl 2 (by decide) (hwd _ wk_251) (fun _ h9 => h9) rfl dX12_lacksOf_322 ?_
        refine my_top (v := v 2) (hf_lp28255 2 (by decide)) ?_
        have t28257 : 0 ≤ (v 2).toInt ∧ (v 2).toInt ≤ 10 := by have h9 := hI.1 2 _ _ rfl; rw [show v_lp28255 2 = v 2 from hf_lp28255 2 (by decide)] at h9; exact h9
        refine lv_icmp_ge (tgt := 428) hx hb dX12_lacksOf_325 (by decide) (fun c28258 => ?_) (fun c28258 => ?_)
        · skip
          have t28259 := cv_le (a := (v 2).toInt) rfl (b := x8_lp28255.toInt) rfl c28258
          refine lv_iload hx hb dX12_lacksOf_428 (lv_at hl 1 rfl) ?_
          have hP9 : va_P (dC, dI) classes (wM g c v_lp28255 F_lp28255 rc) H := hP
          exact W.iret (v := x7_lp28255) hx hb hr (fun t ht hW => ⟨⟨x7_lp28255, (v_lp28255, F_lp28255, rc), rfl, ⟨hI, rfl, (frC (by decide) hf_lp28255 (fun _ _ => rfl)), hF, trivial⟩, (by show va_P _ _ _ t.heap; rw [ht]; exact hP9)⟩, hS.F ht⟩) hS.2.2 dX12_lacksOf_430
        · skip
          have t28260 := cv_nle (a := (v 2).toInt) rfl (b := x8_lp28255.toInt) rfl c28258
          refine lv_iconst (v := 0) hx hb dX12_lacksOf_328 (by decide) ?_
          refine lv_istore (lv' := [(9, .int 0), (8, .int x8_lp28255), (7, .int x7_lp28255), (6, .int z27662), (5, .int z27659), (0, .ref (g 0)), (1, .int p0), (2, .int p1), (3, .int p2), (4, .int p3)]) hx hb dX12_lacksOf_329 hl (by decide) rfl (fun ls hl => ?_)
          refine lv_iconst (v := 0) hx hb dX12_lacksOf_331 (by decide) ?_
          refine lv_istore (lv' := [(10, .int 0), (9, .int 0), (8, .int x8_lp28255), (7, .int x7_lp28255), (6, .int z27662), (5, .int z27659), (0, .ref (g 0)), (1, .int p0), (2, .int p1), (3, .int p2), (4, .int p3)]) hx hb dX12_lacksOf_332 hl (by decide) rfl (fun ls hl => ?_)
          have lp28261 : ∀ (n : Nat) (x10_lp28261 : Int32) (x9_lp28261 : Int32) (v_lp28261 : Nat → Int32) (F_lp28261 : Nat → Nat → Int32) (H : Heap) (locs : List Loc) (ls : Array Slot), (0 ≤ x10_lp28261.toInt) → (2147483648 - x10_lp28261.toInt ≤ (n : Int)) → (∀ k, k ∉ ([] : List Nat) → v_lp28261 k = v_lp28255 k) → IM v_lp28261 F_lp28261 → (∀ k, k ∉ ([30, 31] : List Nat) → F_lp28261 k = F k) → va_P (dC, dI) classes (wM g c v_lp28261 F_lp28261 rc) H → va_S (AM g s.heap.size) s.heap H locs → lv_has ls 11 [(10, .int x10_lp28261), (9, .int x9_lp28261), (8, .int x8_lp28255), (7, .int x7_lp28255), (6, .int z27662), (5, .int z27659), (0, .ref (g 0)), (1, .int p0), (2, .int p1), (3, .int p2), (4, .int p3)] → W p l e (headSpec (Cond.code yX12_lacksOf cX12_lacksOf 11 (some .int) :: wA) ({ frames := 5, cells := 0, slots := 0, locals := 200 })).room s m ([.ref (g 0), .int p0, .int p1, .int p2, .int p3] : List Value).toArray below meth c0 H locs 0 0 (MQ below (va_Qi (fun (r : Int32) (u : StM) => IM u.1 u.2.1 ∧ u.2.2 = rc ∧ (∀ k, k ∉ ([] : List Nat) → u.1 k = v k) ∧ (∀ k, k ∉ ([30, 31] : List Nat) → u.2.1 k = F k) ∧ True) (BM dC dI g c) (AM g s.heap.size)) ([.ref (g 0), .int p0, .int p1, .int p2, .int p3] : List Value).toArray s 0 0 (AM g s.heap.size)) (F0 m 334 ls []) := by
            intro n
            induction n with
            | zero =>
              intro x10_lp28261 x9_lp28261 v_lp28261 F_lp28261 H locs ls t28262 hm hf_lp28261 hI hF hP hS hl
              exfalso
              have := i32_rng x10_lp28261
              have := i32_rng x9_lp28261
              have hI1 := hI.1
              omega
            | succ n ih_lp28261 =>
              intro x10_lp28261 x9_lp28261 v_lp28261 F_lp28261 H locs ls t28262 hm hf_lp28261 hI hF hP hS hl
              have rx10_lp28261 := i32_rng x10_lp28261
              have rx9_lp28261 := i32_rng x9_lp28261
              refine lv_iload hx hb dX12_lacksOf_334 (lv_at hl 0 rfl) ?_
              refine lv_aload_n hx hb dX12_lacksOf_336 rfl (lv_at hl 6 rfl) ?_
              refine va_get (D := (dC, dI)) (ci := 12) (v := .int (v_lp28261 14)) (C := RX12) (T := TX12) (N := 63) hx hb hwd inA_X12 hown hK hP 0 rfl rfl 14 (by decide) (hwd _ wk_318) (fun _ h9 => h9) rfl dX12_lacksOf_337 ?_
              refine my_top (v := v 14) ((hf_lp28261 14 (by decide)).trans (hf_lp28255 14 (by decide))) ?_
              have t28263 : 0 ≤ (v 14).toInt ∧ (v 14).toInt ≤ 100 := by have h9 := hI.1 14 _ _ rfl; rw [show v_lp28261 14 = v 14 from (hf_lp28261 14 (by decide)).trans (hf_lp28255 14 (by decide))] at h9; exact h9
              refine lv_icmp_ge (tgt := 381) hx hb dX12_lacksOf_340 (by decide) (fun c28264 => ?_) (fun c28264 => ?_)
              · skip
                have t28265 := cv_le (a := (v 14).toInt) rfl (b := x10_lp28261.toInt) rfl c28264
                refine lv_iload hx hb dX12_lacksOf_381 (lv_at hl 3 rfl) ?_
                refine lv_iload hx hb dX12_lacksOf_383 (lv_at hl 1 rfl) ?_
                refine lv_aload_n hx hb dX12_lacksOf_385 rfl (lv_at hl 6 rfl) ?_
                refine va_get (D := (dC, dI)) (ci := 12) (v := .ref (g 9)) (C := RX12) (T := TX12) (N := 63) hx hb hwd inA_X12 hown hK hP 0 rfl rfl 12 (by decide) (hwd _ wk_190) (fun _ h9 => h9) rfl dX12_lacksOf_386 ?_
                refine lv_bipush (v := 10) hx hb dX12_lacksOf_389 (by decide) ?_
                refine lv_iload_n hx hb dX12_lacksOf_391 rfl (lv_at hl 7 rfl) ?_
                refine lv_imul hx hb dX12_lacksOf_392 ?_
                refine lv_topi (fun z28266 e28267 => ?_)
                try (have t28268 := tmul e28267 (a := 10) (by decide) (b := p0.toInt) rfl (by omega))
                refine lv_iload hx hb dX12_lacksOf_393 (lv_at hl 2 rfl) ?_
                refine lv_iadd hx hb dX12_lacksOf_395 ?_
                refine lv_topi (fun z28269 e28270 => ?_)
                try (have t28271 := tadd e28270 (a := z28266.toInt) rfl (b := x8_lp28255.toInt) rfl (by omega))
                refine va_iald hx hb hK hP 9 8 rfl rfl (i := z28269) (vin (a := z28269.toInt) rfl (by omega)) dX12_lacksOf_396 ?_
                refine lv_topi (fun z28272 e28273 => ?_)
                have e28273 : z28272 = F 9 (z28269 : Int32).toNatClampNeg := e28273.trans (congrFun (hF 9 (by decide)) _)
                refine lv_icmp_ge (tgt := 418) hx hb dX12_lacksOf_397 (by decide) (fun c28274 => ?_) (fun c28274 => ?_)
                · skip
                  have t28275 := cv_le (a := z28272.toInt) rfl (b := x9_lp28261.toInt) rfl c28274
                  refine lv_iconst (v := 0) hx hb dX12_lacksOf_418 (by decide) ?_
                  refine lv_iadd hx hb dX12_lacksOf_419 ?_
                  refine lv_topi (fun z28276 e28277 => ?_)
                  try (have t28278 := tadd e28277 (a := x7_lp28255.toInt) rfl (b := 0) (by decide) (by omega))
                  refine lv_istore (lv' := [(7, .int z28276), (10, .int x10_lp28261), (9, .int x9_lp28261), (8, .int x8_lp28255), (6, .int z27662), (5, .int z27659), (0, .ref (g 0)), (1, .int p0), (2, .int p1), (3, .int p2), (4, .int p3)]) hx hb dX12_lacksOf_420 hl (by decide) rfl (fun ls hl => ?_)
                  obtain ⟨z28279, e28280⟩ : ∃ y : Int32, y = x8_lp28255 + 1 := ⟨_, rfl⟩
                  try (have t28281 := tadd e28280 rfl (b := 1) (by decide) (by omega))
                  refine lv_iinc (v := z28279) (lv' := [(8, .int z28279), (7, .int z28276), (10, .int x10_lp28261), (9, .int x9_lp28261), (6, .int z27662), (5, .int z27659), (0, .ref (g 0)), (1, .int p0), (2, .int p1), (3, .int p2), (4, .int p3)]) hx hb dX12_lacksOf_422 hl (k := 3) rfl (by rw [e28280]; rfl) (by decide) rfl (fun ls hl => ?_)
                  refine lv_goto (tgt := 319) hx hb dX12_lacksOf_425 (by decide) ?_
                  exact ih_lp28255 z28279 z28276 v_lp28261 F_lp28261 _ _ _ (by omega) (by omega) (frC (by decide) hf_lp28261 hf_lp28255) hI hF hP hS (lv_sub hl [0, 1, 4, 5, 6, 7, 8, 9, 10] rfl)
                · skip
                  have t28282 := cv_nle (a := z28272.toInt) rfl (b := x9_lp28261.toInt) rfl c28274
                  refine lv_aload_n hx hb dX12_lacksOf_400 rfl (lv_at hl 6 rfl) ?_
                  refine va_get (D := (dC, dI)) (ci := 12) (v := .ref (g 9)) (C := RX12) (T := TX12) (N := 63) hx hb hwd inA_X12 hown hK hP 0 rfl rfl 12 (by decide) (hwd _ wk_190) (fun _ h9 => h9) rfl dX12_lacksOf_401 ?_
                  refine lv_bipush (v := 10) hx hb dX12_lacksOf_404 (by decide) ?_
                  refine lv_iload_n hx hb dX12_lacksOf_406 rfl (lv_at hl 7 rfl) ?_
                  refine lv_imul hx hb dX12_lacksOf_407 ?_
                  refine lv_topi (fun z28283 e28284 => ?_)
                  try (have t28285 := tmul e28284 (a := 10) (by decide) (b := p0.toInt) rfl (by omega))
                  refine lv_iload hx hb dX12_lacksOf_408 (lv_at hl 2 rfl) ?_
                  refine lv_iadd hx hb dX12_lacksOf_410 ?_
                  refine lv_topi (fun z28286 e28287 => ?_)
                  try (have t28288 := tadd e28287 (a := z28283.toInt) rfl (b := x8_lp28255.toInt) rfl (by omega))
                  refine va_iald hx hb hK hP 9 8 rfl rfl (i := z28286) (vin (a := z28286.toInt) rfl (by omega)) dX12_lacksOf_411 ?_
                  refine lv_topi (fun z28289 e28290 => ?_)
                  have e28290 : z28289 = F 9 (z28286 : Int32).toNatClampNeg := e28290.trans (congrFun (hF 9 (by decide)) _)
                  refine lv_iload hx hb dX12_lacksOf_412 (lv_at hl 1 rfl) ?_
                  refine lv_isub hx hb dX12_lacksOf_414 ?_
                  refine lv_topi (fun z28291 e28292 => ?_)
                  try (have t28293 := tsub e28292 (a := z28289.toInt) rfl (b := x9_lp28261.toInt) rfl (by omega))
                  refine lv_goto (tgt := 419) hx hb dX12_lacksOf_415 (by decide) ?_
                  refine lv_iadd hx hb dX12_lacksOf_419 ?_
                  refine lv_topi (fun z28294 e28295 => ?_)
                  try (have t28296 := tadd e28295 (a := x7_lp28255.toInt) rfl (b := z28291.toInt) rfl (by omega))
                  refine lv_istore (lv' := [(7, .int z28294), (10, .int x10_lp28261), (9, .int x9_lp28261), (8, .int x8_lp28255), (6, .int z27662), (5, .int z27659), (0, .ref (g 0)), (1, .int p0), (2, .int p1), (3, .int p2), (4, .int p3)]) hx hb dX12_lacksOf_420 hl (by decide) rfl (fun ls hl => ?_)
                  obtain ⟨z28297, e28298⟩ : ∃ y : Int32, y = x8_lp28255 + 1 := ⟨_, rfl⟩
                  try (have t28299 := tadd e28298 rfl (b := 1) (by decide) (by omega))
                  refine lv_iinc (v := z28297) (lv' := [(8, .int z28297), (7, .int z28294), (10, .int x10_lp28261), (9, .int x9_lp28261), (6, .int z27662), (5, .int z27659), (0, .ref (g 0)), (1, .int p0), (2, .int p1), (3, .int p2), (4, .int p3)]) hx hb dX12_lacksOf_422 hl (k := 3) rfl (by rw [e28298]; rfl) (by decide) rfl (fun ls hl => ?_)
                  refine lv_goto (tgt := 319) hx hb dX12_lacksOf_425 (by decide) ?_
                  exact ih_lp28255 z28297 z28294 v_lp28261 F_lp28261 _ _ _ (by omega) (by omega) (frC (by decide) hf_lp28261 hf_lp28255) hI hF hP hS (lv_sub hl [0, 1, 4, 5, 6, 7, 8, 9, 10] rfl)
              · skip
                have t28300 := cv_nle (a := (v 14).toInt) rfl (b := x10_lp28261.toInt) rfl c28264
                refine lv_iload hx hb dX12_lacksOf_343 (lv_at hl 1 rfl) ?_
                refine lv_aload_n hx hb dX12_lacksOf_345 rfl (lv_at hl 6 rfl) ?_
                refine va_get (D := (dC, dI)) (ci := 12) (v := .ref (g 42)) (C := RX12) (T := TX12) (N := 63) hx hb hwd inA_X12 hown hK hP 0 rfl rfl 56 (by decide) (hwd _ wk_224) (fun _ h9 => h9) rfl dX12_lacksOf_346 ?_
                refine lv_iload hx hb dX12_lacksOf_349 (lv_at hl 0 rfl) ?_
                refine va_zald hx hb hK hP 42 41 rfl rfl (i := x10_lp28261) (vin (a := x10_lp28261.toInt) rfl (by omega)) dX12_lacksOf_351 ?_
                refine lv_topi (fun z28301 e28302 => ?_)
                have e28302 : z28301 = F 42 (x10_lp28261 : Int32).toNatClampNeg := e28302.trans (congrFun (hF 42 (by decide)) _)
                refine lv_if_eq (tgt := 371) hx hb dX12_lacksOf_352 (by decide) (fun c28303 => ?_) (fun c28303 => ?_)
                · skip
                  have t28304 := cv_eq (a := z28301.toInt) rfl (b := 0) (by decide) c28303
                  refine lv_iconst (v := 0) hx hb dX12_lacksOf_371 (by decide) ?_
                  refine lv_iadd hx hb dX12_lacksOf_372 ?_
                  refine lv_topi (fun z28305 e28306 => ?_)
                  try (have t28307 := tadd e28306 (a := x9_lp28261.toInt) rfl (b := 0) (by decide) (by omega))
                  refine lv_istore (lv' := [(9, .int z28305), (10, .int x10_lp28261), (8, .int x8_lp28255), (7, .int x7_lp28255), (6, .int z27662), (5, .int z27659), (0, .ref (g 0)), (1, .int p0), (2, .int p1), (3, .int p2), (4, .int p3)]) hx hb dX12_lacksOf_373 hl (by decide) rfl (fun ls hl => ?_)
                  obtain ⟨z28308, e28309⟩ : ∃ y : Int32, y = x10_lp28261 + 1 := ⟨_, rfl⟩
                  try (have t28310 := tadd e28309 rfl (b := 1) (by decide) (by omega))
                  refine lv_iinc (v := z28308) (lv' := [(10, .int z28308), (9, .int z28305), (8, .int x8_lp28255), (7, .int x7_lp28255), (6, .int z27662), (5, .int z27659), (0, .ref (g 0)), (1, .int p0), (2, .int p1), (3, .int p2), (4, .int p3)]) hx hb dX12_lacksOf_375 hl (k := 1) rfl (by rw [e28309]; rfl) (by decide) rfl (fun ls hl => ?_)
                  refine lv_goto (tgt := 334) hx hb dX12_lacksOf_378 (by decide) ?_
                  exact ih_lp28261 z28308 z28305 v_lp28261 F_lp28261 _ _ _ (by omega) (by omega) hf_lp28261 hI hF hP hS (lv_sub hl [0, 1, 2, 3, 4, 5, 6, 7, 8, 9, 10] rfl)
                · skip
                  have t28311 := cv_ne (a := z28301.toInt) rfl (b := 0) (by decide) c28303
                  refine lv_aload_n hx hb dX12_lacksOf_355 rfl (lv_at hl 6 rfl) ?_
                  refine va_get (D := (dC, dI)) (ci := 12) (v := .ref (g 11)) (C := RX12) (T := TX12) (N := 63) hx hb hwd inA_X12 hown hK hP 0 rfl rfl 15 (by decide) (hwd _ wk_192) (fun _ h9 => h9) rfl dX12_lacksOf_356 ?_
                  refine lv_iload hx hb dX12_lacksOf_359 (lv_at hl 0 rfl) ?_
                  refine va_iald hx hb hK hP 11 10 rfl rfl (i := x10_lp28261) (vin (a := x10_lp28261.toInt) rfl (by omega)) dX12_lacksOf_361 ?_
                  refine lv_topi (fun z28312 e28313 => ?_)
                  have t28314 : 0 ≤ z28312.toInt ∧ z28312.toInt ≤ 9 := by rw [e28313]; exact hI.2 11 _ _ rfl _
                  have e28313 : z28312 = F 11 (x10_lp28261 : Int32).toNatClampNeg := e28313.trans (congrFun (hF 11 (by decide)) _)
                  refine lv_iload hx hb dX12_lacksOf_362 (lv_at hl 2 rfl) ?_
                  refine lv_icmp_ne (tgt := 371) hx hb dX12_lacksOf_364 (by decide) (fun c28315 => ?_) (fun c28315 => ?_)
                  · skip
                    have t28316 := cv_ne (a := z28312.toInt) rfl (b := x8_lp28255.toInt) rfl c28315
                    refine lv_iconst (v := 0) hx hb dX12_lacksOf_371 (by decide) ?_
                    refine lv_iadd hx hb dX12_lacksOf_372 ?_
                    refine lv_topi (fun z28317 e28318 => ?_)
                    try (have t28319 := tadd e28318 (a := x9_lp28261.toInt) rfl (b := 0) (by decide) (by omega))
                    refine lv_istore (lv' := [(9, .int z28317), (10, .int x10_lp28261), (8, .int x8_lp28255), (7, .int x7_lp28255), (6, .int z27662), (5, .int z27659), (0, .ref (g 0)), (1, .int p0), (2, .int p1), (3, .int p2), (4, .int p3)]) hx hb dX12_lacksOf_373 hl (by decide) rfl (fun ls hl => ?_)
                    obtain ⟨z28320, e28321⟩ : ∃ y : Int32, y = x10_lp28261 + 1 := ⟨_, rfl⟩
                    try (have t28322 := tadd e28321 rfl (b := 1) (by decide) (by omega))
                    refine lv_iinc (v := z28320) (lv' := [(10, .int z28320), (9, .int z28317), (8, .int x8_lp28255), (7, .int x7_lp28255), (6, .int z27662), (5, .int z27659), (0, .ref (g 0)), (1, .int p0), (2, .int p1), (3, .int p2), (4, .int p3)]) hx hb dX12_lacksOf_375 hl (k := 1) rfl (by rw [e28321]; rfl) (by decide) rfl (fun ls hl => ?_)
                    refine lv_goto (tgt := 334) hx hb dX12_lacksOf_378 (by decide) ?_
                    exact ih_lp28261 z28320 z28317 v_lp28261 F_lp28261 _ _ _ (by omega) (by omega) hf_lp28261 hI hF hP hS (lv_sub hl [0, 1, 2, 3, 4, 5, 6, 7, 8, 9, 10] rfl)
                  · skip
                    have t28323 := cv_eq (a := z28312.toInt) rfl (b := x8_lp28255.toInt) rfl c28315
                    refine lv_iconst (v := 1) hx hb dX12_lacksOf_367 (by decide) ?_
                    refine lv_goto (tgt := 372) hx hb dX12_lacksOf_368 (by decide) ?_
                    refine lv_iadd hx hb dX12_lacksOf_372 ?_
                    refine lv_topi (fun z28324 e28325 => ?_)
                    try (have t28326 := tadd e28325 (a := x9_lp28261.toInt) rfl (b := 1) (by decide) (by omega))
                    refine lv_istore (lv' := [(9, .int z28324), (10, .int x10_lp28261), (8, .int x8_lp28255), (7, .int x7_lp28255), (6, .int z27662), (5, .int z27659), (0, .ref (g 0)), (1, .int p0), (2, .int p1), (3, .int p2), (4, .int p3)]) hx hb dX12_lacksOf_373 hl (by decide) rfl (fun ls hl => ?_)
                    obtain ⟨z28327, e28328⟩ : ∃ y : Int32, y = x10_lp28261 + 1 := ⟨_, rfl⟩
                    try (have t28329 := tadd e28328 rfl (b := 1) (by decide) (by omega))
                    refine lv_iinc (v := z28327) (lv' := [(10, .int z28327), (9, .int z28324), (8, .int x8_lp28255), (7, .int x7_lp28255), (6, .int z27662), (5, .int z27659), (0, .ref (g 0)), (1, .int p0), (2, .int p1), (3, .int p2), (4, .int p3)]) hx hb dX12_lacksOf_375 hl (k := 1) rfl (by rw [e28328]; rfl) (by decide) rfl (fun ls hl => ?_)
                    refine lv_goto (tgt := 334) hx hb dX12_lacksOf_378 (by decide) ?_
                    exact ih_lp28261 z28327 z28324 v_lp28261 F_lp28261 _ _ _ (by omega) (by omega) hf_lp28261 hI hF hP hS (lv_sub hl [0, 1, 2, 3, 4, 5, 6, 7, 8, 9, 10] rfl)
          obtain ⟨n9, hn9⟩ : ∃ n : Nat, 2147483648 - 0 ≤ (n : Int) := ⟨((2147483648 - 0 : Int)).toNat, by omega⟩
          exact lp28261 n9 0 0 v_lp28255 F_lp28255 H _ ls (by have : (0 : Int32).toInt = 0 := (by decide); have : (0 : Int32).toInt = 0 := (by decide); omega) (by have : (0 : Int32).toInt = 0 := (by decide); have : (0 : Int32).toInt = 0 := (by decide); omega) (fun _ _ => rfl) hI hF hP hS hl
    obtain ⟨n9, hn9⟩ : ∃ n : Nat, 2147483648 - 0 ≤ (n : Int) := ⟨((2147483648 - 0 : Int)).toNat, by omega⟩
    exact lp28255 n9 0 0 v F H _ ls (by have : (0 : Int32).toInt = 0 := (by decide); have : (0 : Int32).toInt = 0 := (by decide); omega) (by have : (0 : Int32).toInt = 0 := (by decide); have : (0 : Int32).toInt = 0 := (by decide); omega) (fun _ _ => rfl) hI hF hP hS hl
  · refine lv_tableIn (off := 409) (tgt := 431) hx hb dX12_lacksOf_22 hlo27664 hhi27665 (by rw [hk]; decide) (by decide) ?_
    refine lv_aload_n hx hb dX12_lacksOf_431 rfl (lv_at hl 3 rfl) ?_
    refine lv_iload_n hx hb dX12_lacksOf_432 rfl (lv_at hl 4 rfl) ?_
    refine lv_iload_n hx hb dX12_lacksOf_433 rfl (lv_at hl 6 rfl) ?_
    refine va_calli (va_runV (As := [.int p0, .int p2]) (rest := []) ⟨hx, hb, hml, hown, hwd⟩ (c_X12_late l dC dI g c adK adV v F rc H.size p0 p2 hg hI (by omega)) (cwV 2 hwd (gV wk_1213 wk_1210 wk_1211 wk_1212 wk_5) rfl rfl rfl (by decide +kernel) ⟨Nat.le_of_ble_eq_true rfl, Nat.le_of_ble_eq_true rfl⟩) ⟨PM.blind, va_recv hK hP (ci := 12) (q0 := 0) rfl rfl, fun U hU hW => ⟨rfl, PM.at hK hE hP hS hU hW⟩⟩ rfl rfl hl.1 rfl (lv_room (Nat.le_of_ble_eq_true rfl)) dX12_lacksOf_434 ⟨Nat.le_of_ble_eq_true rfl, Nat.le_of_ble_eq_true rfl⟩) hS (fun q _ h => (freeM hS) q h) (freeM hS) (fun r28330 u t H1 locs ht hvm hw hB hz1 hk1 hS => ?_)
    unfold BM at hB
    rw [ht] at hB
    have hP : va_P (dC, dI) classes (wM g c v F rc) H1 := hB
    generalize H1 = H at hP hS ⊢
    have rr_r28330 := i32_rng r28330
    have hP9 : va_P (dC, dI) classes (wM g c v F rc) H := hP
    exact W.iret (v := r28330) hx hb hr (fun t ht hW => ⟨⟨r28330, (v, F, rc), rfl, ⟨hI, rfl, (fun _ _ => rfl), hF, trivial⟩, (by show va_P _ _ _ t.heap; rw [ht]; exact hP9)⟩, hS.F ht⟩) hS.2.2 dX12_lacksOf_437
  · refine lv_tableIn (off := 238) (tgt := 260) hx hb dX12_lacksOf_22 hlo27664 hhi27665 (by rw [hk]; decide) (by decide) ?_
    refine lv_iconst (v := 0) hx hb dX12_lacksOf_260 (by decide) ?_
    refine lv_istore (lv' := [(8, .int 0), (7, .int 0), (6, .int z27662), (5, .int z27659), (0, .ref (g 0)), (1, .int p0), (2, .int p1), (3, .int p2), (4, .int p3)]) hx hb dX12_lacksOf_261 hl (by decide) rfl (fun ls hl => ?_)
    have lp28331 : ∀ (n : Nat) (x8_lp28331 : Int32) (x7_lp28331 : Int32) (v_lp28331 : Nat → Int32) (F_lp28331 : Nat → Nat → Int32) (H : Heap) (locs : List Loc) (ls : Array Slot), (0 ≤ x8_lp28331.toInt) → (2147483648 - x8_lp28331.toInt ≤ (n : Int)) → (∀ k, k ∉ ([] : List Nat) → v_lp28331 k = v k) → IM v_lp28331 F_lp28331 → (∀ k, k ∉ ([30, 31] : List Nat) → F_lp28331 k = F k) → va_P (dC, dI) classes (wM g c v_lp28331 F_lp28331 rc) H → va_S (AM g s.heap.size) s.heap H locs → lv_has ls 11 [(8, .int x8_lp28331), (7, .int x7_lp28331), (6, .int z27662), (5, .int z27659), (0, .ref (g 0)), (1, .int p0), (2, .int p1), (3, .int p2), (4, .int p3)] → W p l e (headSpec (Cond.code yX12_lacksOf cX12_lacksOf 11 (some .int) :: wA) ({ frames := 5, cells := 0, slots := 0, locals := 200 })).room s m ([.ref (g 0), .int p0, .int p1, .int p2, .int p3] : List Value).toArray below meth c0 H locs 0 0 (MQ below (va_Qi (fun (r : Int32) (u : StM) => IM u.1 u.2.1 ∧ u.2.2 = rc ∧ (∀ k, k ∉ ([] : List Nat) → u.1 k = v k) ∧ (∀ k, k ∉ ([30, 31] : List Nat) → u.2.1 k = F k) ∧ True) (BM dC dI g c) (AM g s.heap.size)) ([.ref (g 0), .int p0, .int p1, .int p2, .int p3] : List Value).toArray s 0 0 (AM g s.heap.size)) (F0 m 263 ls []) := by
      intro n
      induction n with
      | zero =>
        intro x8_lp28331 x7_lp28331 v_lp28331 F_lp28331 H locs ls t28332 hm hf_lp28331 hI hF hP hS hl
        exfalso
        have := i32_rng x8_lp28331
        have := i32_rng x7_lp28331
        have hI1 := hI.1
        omega
      | succ n ih_lp28331 =>
        intro x8_lp28331 x7_lp28331 v_lp28331 F_lp28331 H locs ls t28332 hm hf_lp28331 hI hF hP hS hl
        have rx8_lp28331 := i32_rng x8_lp28331
        have rx7_lp28331 := i32_rng x7_lp28331
        refine lv_iload hx hb dX12_lacksOf_263 (lv_at hl 0 rfl) ?_
        refine lv_aload_n hx hb dX12_lacksOf_265 rfl (lv_at hl 4 rfl) ?_
        refine va_get (D := (dC, dI)) (ci := 12) (v := .int (v_lp28331 45)) (C := RX12) (T := TX12) (N := 63) hx hb hwd inA_X12 hown hK hP 0 rfl rfl 45 (by decide) (hwd _ wk_485) (fun _ h9 => h9) rfl dX12_lacksOf_266 ?_
        refine my_top (v := v 45) (hf_lp28331 45 (by decide)) ?_
        have t28333 : 0 ≤ (v 45).toInt ∧ (v 45).toInt ≤ 20 := by have h9 := hI.1 45 _ _ rfl; rw [show v_lp28331 45 = v 45 from hf_lp28331 45 (by decide)] at h9; exact h9
        refine lv_icmp_ge (tgt := 313) hx hb dX12_lacksOf_269 (by decide) (fun c28334 => ?_) (fun c28334 => ?_)
        · skip
          have t28335 := cv_le (a := (v 45).toInt) rfl (b := x8_lp28331.toInt) rfl c28334
          refine lv_iload hx hb dX12_lacksOf_313 (lv_at hl 1 rfl) ?_
          have hP9 : va_P (dC, dI) classes (wM g c v_lp28331 F_lp28331 rc) H := hP
          exact W.iret (v := x7_lp28331) hx hb hr (fun t ht hW => ⟨⟨x7_lp28331, (v_lp28331, F_lp28331, rc), rfl, ⟨hI, rfl, (frC (by decide) hf_lp28331 (fun _ _ => rfl)), hF, trivial⟩, (by show va_P _ _ _ t.heap; rw [ht]; exact hP9)⟩, hS.F ht⟩) hS.2.2 dX12_lacksOf_315
        · skip
          have t28336 := cv_nle (a := (v 45).toInt) rfl (b := x8_lp28331.toInt) rfl c28334
          refine lv_iload hx hb dX12_lacksOf_272 (lv_at hl 1 rfl) ?_
          refine lv_aload_n hx hb dX12_lacksOf_274 rfl (lv_at hl 4 rfl) ?_
          refine lv_iload hx hb dX12_lacksOf_275 (lv_at hl 0 rfl) ?_
          refine lv_iload_n hx hb dX12_lacksOf_277 rfl (lv_at hl 5 rfl) ?_
          refine va_calli (va_runV (As := [.int x8_lp28331, .int p0]) (rest := [.int x7_lp28331]) ⟨hx, hb, hml, hown, hwd⟩ (c_X12_asks l dC dI g c adK adV v_lp28331 F_lp28331 rc H.size x8_lp28331 p0 hg hI (by omega) (by omega)) (cwV 2 hwd (gV wk_520 wk_517 wk_518 wk_519 wk_5) rfl rfl rfl (by decide +kernel) ⟨Nat.le_of_ble_eq_true rfl, Nat.le_of_ble_eq_true rfl⟩) ⟨PM.blind, va_recv hK hP (ci := 12) (q0 := 0) rfl rfl, fun U hU hW => ⟨rfl, PM.at hK hE hP hS hU hW⟩⟩ rfl rfl hl.1 rfl (lv_room (Nat.le_of_ble_eq_true rfl)) dX12_lacksOf_278 ⟨Nat.le_of_ble_eq_true rfl, Nat.le_of_ble_eq_true rfl⟩) hS (fun q _ h => (freeM hS) q h) (freeM hS) (fun r28337 u t H1 locs ht hvm hw hB hz1 hk1 hS => ?_)
          unfold BM at hB
          rw [ht] at hB
          have hP : va_P (dC, dI) classes (wM g c v_lp28331 F_lp28331 rc) H1 := hB
          have hw : 0 ≤ r28337.toInt ∧ r28337.toInt ≤ 1 := hw
          have hw_r28337 := hw
          generalize H1 = H at hP hS ⊢
          refine lv_if_eq (tgt := 303) hx hb dX12_lacksOf_281 (by decide) (fun c28338 => ?_) (fun c28338 => ?_)
          · skip
            have t28339 := cv_eq (a := r28337.toInt) rfl (b := 0) (by decide) c28338
            refine lv_iconst (v := 0) hx hb dX12_lacksOf_303 (by decide) ?_
            refine lv_iadd hx hb dX12_lacksOf_304 ?_
            refine lv_topi (fun z28340 e28341 => ?_)
            try (have t28342 := tadd e28341 (a := x7_lp28331.toInt) rfl (b := 0) (by decide) (by omega))
            refine lv_istore (lv' := [(7, .int z28340), (8, .int x8_lp28331), (6, .int z27662), (5, .int z27659), (0, .ref (g 0)), (1, .int p0), (2, .int p1), (3, .int p2), (4, .int p3)]) hx hb dX12_lacksOf_305 hl (by decide) rfl (fun ls hl => ?_)
            obtain ⟨z28343, e28344⟩ : ∃ y : Int32, y = x8_lp28331 + 1 := ⟨_, rfl⟩
            try (have t28345 := tadd e28344 rfl (b := 1) (by decide) (by omega))
            refine lv_iinc (v := z28343) (lv' := [(8, .int z28343), (7, .int z28340), (6, .int z27662), (5, .int z27659), (0, .ref (g 0)), (1, .int p0), (2, .int p1), (3, .int p2), (4, .int p3)]) hx hb dX12_lacksOf_307 hl (k := 1) rfl (by rw [e28344]; rfl) (by decide) rfl (fun ls hl => ?_)
            refine lv_goto (tgt := 263) hx hb dX12_lacksOf_310 (by decide) ?_
            exact ih_lp28331 z28343 z28340 v_lp28331 F_lp28331 _ _ _ (by omega) (by omega) hf_lp28331 hI hF hP hS (lv_sub hl [0, 1, 2, 3, 4, 5, 6, 7, 8] rfl)
          · skip
            have t28346 := cv_ne (a := r28337.toInt) rfl (b := 0) (by decide) c28338
            refine lv_aload_n hx hb dX12_lacksOf_284 rfl (lv_at hl 4 rfl) ?_
            refine va_get (D := (dC, dI)) (ci := 12) (v := .ref (g 34)) (C := RX12) (T := TX12) (N := 63) hx hb hwd inA_X12 hown hK hP 0 rfl rfl 48 (by decide) (hwd _ wk_216) (fun _ h9 => h9) rfl dX12_lacksOf_285 ?_
            refine lv_bipush (v := 10) hx hb dX12_lacksOf_288 (by decide) ?_
            refine lv_iload hx hb dX12_lacksOf_290 (lv_at hl 0 rfl) ?_
            refine lv_imul hx hb dX12_lacksOf_292 ?_
            refine lv_topi (fun z28347 e28348 => ?_)
            try (have t28349 := tmul e28348 (a := 10) (by decide) (b := x8_lp28331.toInt) rfl (by omega))
            refine lv_iload_n hx hb dX12_lacksOf_293 rfl (lv_at hl 5 rfl) ?_
            refine lv_iadd hx hb dX12_lacksOf_294 ?_
            refine lv_topi (fun z28350 e28351 => ?_)
            try (have t28352 := tadd e28351 (a := z28347.toInt) rfl (b := p0.toInt) rfl (by omega))
            refine va_zald hx hb hK hP 34 33 rfl rfl (i := z28350) (vin (a := z28350.toInt) rfl (by omega)) dX12_lacksOf_295 ?_
            refine lv_topi (fun z28353 e28354 => ?_)
            have e28354 : z28353 = F 34 (z28350 : Int32).toNatClampNeg := e28354.trans (congrFun (hF 34 (by decide)) _)
            refine lv_if_ne (tgt := 303) hx hb dX12_lacksOf_296 (by decide) (fun c28355 => ?_) (fun c28355 => ?_)
            · skip
              have t28356 := cv_ne (a := z28353.toInt) rfl (b := 0) (by decide) c28355
              refine lv_iconst (v := 0) hx hb dX12_lacksOf_303 (by decide) ?_
              refine lv_iadd hx hb dX12_lacksOf_304 ?_
              refine lv_topi (fun z28357 e28358 => ?_)
              try (have t28359 := tadd e28358 (a := x7_lp28331.toInt) rfl (b := 0) (by decide) (by omega))
              refine lv_istore (lv' := [(7, .int z28357), (8, .int x8_lp28331), (6, .int z27662), (5, .int z27659), (0, .ref (g 0)), (1, .int p0), (2, .int p1), (3, .int p2), (4, .int p3)]) hx hb dX12_lacksOf_305 hl (by decide) rfl (fun ls hl => ?_)
              obtain ⟨z28360, e28361⟩ : ∃ y : Int32, y = x8_lp28331 + 1 := ⟨_, rfl⟩
              try (have t28362 := tadd e28361 rfl (b := 1) (by decide) (by omega))
              refine lv_iinc (v := z28360) (lv' := [(8, .int z28360), (7, .int z28357), (6, .int z27662), (5, .int z27659), (0, .ref (g 0)), (1, .int p0), (2, .int p1), (3, .int p2), (4, .int p3)]) hx hb dX12_lacksOf_307 hl (k := 1) rfl (by rw [e28361]; rfl) (by decide) rfl (fun ls hl => ?_)
              refine lv_goto (tgt := 263) hx hb dX12_lacksOf_310 (by decide) ?_
              exact ih_lp28331 z28360 z28357 v_lp28331 F_lp28331 _ _ _ (by omega) (by omega) hf_lp28331 hI hF hP hS (lv_sub hl [0, 1, 2, 3, 4, 5, 6, 7, 8] rfl)
            · skip
              have t28363 := cv_eq (a := z28353.toInt) rfl (b := 0) (by decide) c28355
              refine lv_iconst (v := 1) hx hb dX12_lacksOf_299 (by decide) ?_
              refine lv_goto (tgt := 304) hx hb dX12_lacksOf_300 (by decide) ?_
              refine lv_iadd hx hb dX12_lacksOf_304 ?_
              refine lv_topi (fun z28364 e28365 => ?_)
              try (have t28366 := tadd e28365 (a := x7_lp28331.toInt) rfl (b := 1) (by decide) (by omega))
              refine lv_istore (lv' := [(7, .int z28364), (8, .int x8_lp28331), (6, .int z27662), (5, .int z27659), (0, .ref (g 0)), (1, .int p0), (2, .int p1), (3, .int p2), (4, .int p3)]) hx hb dX12_lacksOf_305 hl (by decide) rfl (fun ls hl => ?_)
              obtain ⟨z28367, e28368⟩ : ∃ y : Int32, y = x8_lp28331 + 1 := ⟨_, rfl⟩
              try (have t28369 := tadd e28368 rfl (b := 1) (by decide) (by omega))
              refine lv_iinc (v := z28367) (lv' := [(8, .int z28367), (7, .int z28364), (6, .int z27662), (5, .int z27659), (0, .ref (g 0)), (1, .int p0), (2, .int p1), (3, .int p2), (4, .int p3)]) hx hb dX12_lacksOf_307 hl (k := 1) rfl (by rw [e28368]; rfl) (by decide) rfl (fun ls hl => ?_)
              refine lv_goto (tgt := 263) hx hb dX12_lacksOf_310 (by decide) ?_
              exact ih_lp28331 z28367 z28364 v_lp28331 F_lp28331 _ _ _ (by omega) (by omega) hf_lp28331 hI hF hP hS (lv_sub hl [0, 1, 2, 3, 4, 5, 6, 7, 8] rfl)
    obtain ⟨n9, hn9⟩ : ∃ n : Nat, 2147483648 - 0 ≤ (n : Int) := ⟨((2147483648 - 0 : Int)).toNat, by omega⟩
    exact lp28331 n9 0 0 v F H _ ls (by have : (0 : Int32).toInt = 0 := (by decide); have : (0 : Int32).toInt = 0 := (by decide); omega) (by have : (0 : Int32).toInt = 0 := (by decide); have : (0 : Int32).toInt = 0 := (by decide); omega) (fun _ _ => rfl) hI hF hP hS hl
set_option maxHeartbeats 8000000 in
set_option maxRecDepth 100000 in
theorem c_X12_costOf (l : Launch) (dC : Nat → ClassId) (dI : Nat → Nat → Nat) (g : Nat → Nat) (c : Nat → ClassId) (adK adV : Nat → Nat) (v : Nat → Int32) (F : Nat → Nat → Int32) (rc sz : Nat) (p0 : Int32) (p1 : Int32) (p2 : Int32) (p3 : Int32) (hg : injM g) (hI : IM v F) (h0 : 0 ≤ p0.toInt ∧ p0.toInt ≤ 9) (h1 : 0 ≤ p1.toInt ∧ p1.toInt ≤ 30) (hL : JL (v 31) (F 28) (F 29) (F 27)) : Met l yX12_costOf (Cond.code yX12_costOf cX12_costOf 11 (some .int) :: wA) ({ frames := 6, cells := 0, slots := 0, locals := 240 }) (va_Pc [.ref (g 0), .int p0, .int p1, .int p2, .int p3] (PM dC dI g c adK adV v F rc sz)) (va_Qi (fun (r : Int32) (u : StM) => IM u.1 u.2.1 ∧ u.2.2 = rc ∧ (∀ k, k ∉ ([] : List Nat) → u.1 k = v k) ∧ (∀ k, k ∉ ([30, 31] : List Nat) → u.2.1 k = F k) ∧ True) (BM dC dI g c) (AM g sz)) 0 0 (AM g sz) := by
  refine Met.ofW (cc := cX12_costOf) (maxL := 11) (ret := (some .int)) (by decide) rfl ?_
  intro p e s m args below meth c0 s₁ B hml hv
  obtain ⟨rfl, hsz, hP, hK, hE⟩ := hv
  have hx := B.exec
  have hb := B.bytes
  have hr := B.returns
  have hts := atoms_spec (ws := Cond.code yX12_costOf cX12_costOf 11 (some .int) :: wA) B.pre
  have hwd : ∀ w ∈ wA, w.before _ s = true := fun w h => hts w (List.mem_cons_of_mem _ h)
  have hown : s.vm.findClass RX12 = some m.cls := findClass_of_methodNamed B.named
  have hlocks := B.notSynchronized
  subst hsz
  have hl := lv_entry ([.ref (g 0), .int p0, .int p1, .int p2, .int p3]) (n := 11) (Nat.le_of_ble_eq_true rfl)
  rw [lg_entry_eq]
  generalize (lg_sl ([.ref (g 0), .int p0, .int p1, .int p2, .int p3]) ++ List.replicate (11 - (lg_sl ([.ref (g 0), .int p0, .int p1, .int p2, .int p3])).length) Slot.unset).toArray = ls at hl ⊢
  have hl : lv_has ls 11 [(0, .ref (g 0)), (1, .int p0), (2, .int p1), (3, .int p2), (4, .int p3)] := hl
  obtain ⟨H, eH⟩ : ∃ z, z = s.heap := ⟨_, rfl⟩
  have hP : va_P (dC, dI) classes (wM g c v F rc) H := by rw [eH]; exact hP
  have hS : va_S (AM g s.heap.size) s.heap H [] := by rw [eH]; exact va_S.rf
  refine my_heap eH ?_
  have hF : ∀ k, k ∉ ([30, 31] : List Nat) → F k = F k := fun _ _ => rfl
  have rp0 := i32_rng p0
  have rp1 := i32_rng p1
  have rp2 := i32_rng p2
  have rp3 := i32_rng p3
  have hb31 : 0 ≤ (v 31).toInt ∧ (v 31).toInt ≤ 10 := hI.1 31 _ _ rfl
  refine lv_bipush (v := 32) hx hb dX12_costOf_0 (by decide) ?_
  refine lv_iload_n hx hb dX12_costOf_2 rfl (lv_at hl 1 rfl) ?_
  refine lv_imul hx hb dX12_costOf_3 ?_
  refine lv_topi (fun z28469 e28470 => ?_)
  try (have t28471 := tmul e28470 (a := 32) (by decide) (b := p0.toInt) rfl (by omega))
  refine lv_iload_n hx hb dX12_costOf_4 rfl (lv_at hl 2 rfl) ?_
  refine lv_iadd hx hb dX12_costOf_5 ?_
  refine lv_topi (fun z28472 e28473 => ?_)
  try (have t28474 := tadd e28473 (a := z28469.toInt) rfl (b := p1.toInt) rfl (by omega))
  refine lv_istore (lv' := [(5, .int z28472), (0, .ref (g 0)), (1, .int p0), (2, .int p1), (3, .int p2), (4, .int p3)]) hx hb dX12_costOf_6 hl (by decide) rfl (fun ls hl => ?_)
  refine lv_aload_n hx hb dX12_costOf_8 rfl (lv_at hl 1 rfl) ?_
  refine va_get (D := (dC, dI)) (ci := 12) (v := .ref (g 38)) (C := RX12) (T := TX12) (N := 63) hx hb hwd inA_X12 hown hK hP 0 rfl rfl 52 (by decide) (hwd _ wk_220) (fun _ h9 => h9) rfl dX12_costOf_9 ?_
  refine lv_iload hx hb dX12_costOf_12 (lv_at hl 0 rfl) ?_
  refine va_iald hx hb hK hP 38 37 rfl rfl (i := z28472) (vin (a := z28472.toInt) rfl (by omega)) dX12_costOf_14 ?_
  refine lv_topi (fun z28475 e28476 => ?_)
  refine lv_istore (lv' := [(6, .int z28475), (5, .int z28472), (0, .ref (g 0)), (1, .int p0), (2, .int p1), (3, .int p2), (4, .int p3)]) hx hb dX12_costOf_15 hl (by decide) rfl (fun ls hl => ?_)
  refine lv_aload_n hx hb dX12_costOf_17 rfl (lv_at hl 2 rfl) ?_
  refine lv_iload_n hx hb dX12_costOf_18 rfl (lv_at hl 3 rfl) ?_
  refine lv_iload_n hx hb dX12_costOf_19 rfl (lv_at hl 4 rfl) ?_
  refine lv_iload_n hx hb dX12_costOf_20 rfl (lv_at hl 5 rfl) ?_
  refine lv_iload hx hb dX12_costOf_21 (lv_at hl 6 rfl) ?_
  refine va_calli (va_runV (As := [.int p0, .int p1, .int p2, .int p3]) (rest := []) ⟨hx, hb, hml, hown, hwd⟩ (c_X12_lacksOf l dC dI g c adK adV v F rc H.size p0 p1 p2 p3 hg hI (by omega) (by omega) (JL.to hL (show v 31 = v 31 from rfl) rfl rfl rfl)) (cwV 4 hwd (gV wk_1209 wk_1206 wk_1207 wk_1208 wk_5) rfl rfl rfl (by decide +kernel) ⟨Nat.le_of_ble_eq_true rfl, Nat.le_of_ble_eq_true rfl⟩) ⟨PM.blind, va_recv hK hP (ci := 12) (q0 := 0) rfl rfl, fun U hU hW => ⟨rfl, PM.at hK hE hP hS hU hW⟩⟩ rfl rfl hl.1 rfl (lv_room (Nat.le_of_ble_eq_true rfl)) dX12_costOf_23 ⟨Nat.le_of_ble_eq_true rfl, Nat.le_of_ble_eq_true rfl⟩) hS (fun q _ h => (freeM hS) q h) (freeM hS) (fun r28477 u t H1 locs ht hvm hw hB hz1 hk1 hS => ?_)
  unfold BM at hB
  rw [ht] at hB
  obtain ⟨v28478, F28479, rc9⟩ := u
  obtain ⟨hI, hrc, hf28480, hG28481, hw⟩ := hw
  dsimp only at hI hrc hB hf28480 hG28481 hw
  have hF := frCF (by decide) hG28481 hF
  rw [hrc] at hB
  have hP : va_P (dC, dI) classes (wM g c v28478 F28479 rc) H1 := hB
  generalize H1 = H at hP hS ⊢
  have rr_r28477 := i32_rng r28477
  refine lv_i2l hx hb dX12_costOf_26 rfl ?_
  refine lv_topl (fun z28482 e28483 => ?_)
  refine lv_lstore (lv' := [(7, .long z28482), (6, .int z28475), (5, .int z28472), (0, .ref (g 0)), (1, .int p0), (2, .int p1), (3, .int p2), (4, .int p3)]) hx hb dX12_costOf_27 hl (by decide) rfl (fun ls hl => ?_)
  refine lv_iload hx hb dX12_costOf_29 (lv_at hl 1 rfl) ?_
  refine lv_bipush (v := 116) hx hb dX12_costOf_31 (by decide) ?_
  refine lv_icmp_ne (tgt := 106) hx hb dX12_costOf_33 (by decide) (fun c28484 => ?_) (fun c28484 => ?_)
  · skip
    have t28485 := cv_ne (a := z28475.toInt) rfl (b := 116) (by decide) c28484
    refine lv_lload hx hb dX12_costOf_106 (lv_at hl 0 rfl) ?_
    refine lv_iload hx hb dX12_costOf_108 (lv_at hl 1 rfl) ?_
    refine va_calli (va_runS (As := [.int z28475]) (rest := [.long z28482]) ⟨hx, hb, hml, hown, hwd⟩ (c_X12_numbersOf l dC dI g c adK adV v28478 F28479 rc H.size z28475 hg hI ) (va_cwS 1 hwd (gT wk_1134 wk_1132 wk_1133 wk_5) rfl rfl rfl (by decide +kernel) ⟨Nat.le_of_ble_eq_true rfl, Nat.le_of_ble_eq_true rfl⟩) ⟨PM.blind, fun U hU hW => ⟨rfl, PM.at hK hE hP hS hU hW⟩⟩ rfl rfl hl.1 rfl (lv_room (Nat.le_of_ble_eq_true rfl)) dX12_costOf_110 ⟨Nat.le_of_ble_eq_true rfl, Nat.le_of_ble_eq_true rfl⟩) hS (fun q _ h => (freeM hS) q h) (freeM hS) (fun r28486 u t H1 locs ht hvm hw hB hz1 hk1 hS => ?_)
    unfold BM at hB
    rw [ht] at hB
    have hP : va_P (dC, dI) classes (wM g c v28478 F28479 rc) H1 := hB
    have hw : (0 ≤ r28486.toInt ∧ r28486.toInt ≤ 3) ∧ (r28486.toInt = 0 ∨ 100 ≤ z28475.toInt) := hw
    have hw_r28486 := hw
    generalize H1 = H at hP hS ⊢
    refine lv_iconst (v := 3) hx hb dX12_costOf_113 (by decide) ?_
    refine lv_icmp_ne (tgt := 127) hx hb dX12_costOf_114 (by decide) (fun c28487 => ?_) (fun c28487 => ?_)
    · skip
      have t28488 := cv_ne (a := r28486.toInt) rfl (b := 3) (by decide) c28487
      refine lv_aload_n hx hb dX12_costOf_127 rfl (lv_at hl 3 rfl) ?_
      refine va_get (D := (dC, dI)) (ci := 12) (v := .ref (g 39)) (C := RX12) (T := TX12) (N := 63) hx hb hwd inA_X12 hown hK hP 0 rfl rfl 53 (by decide) (hwd _ wk_221) (fun _ h9 => h9) rfl dX12_costOf_128 ?_
      refine lv_iload hx hb dX12_costOf_131 (lv_at hl 2 rfl) ?_
      refine va_iald hx hb hK hP 39 38 rfl rfl (i := z28472) (vin (a := z28472.toInt) rfl (by omega)) dX12_costOf_133 ?_
      refine lv_topi (fun z28489 e28490 => ?_)
      have e28490 : z28489 = F 39 (z28472 : Int32).toNatClampNeg := e28490.trans (congrFun (hF 39 (by decide)) _)
      refine lv_i2l hx hb dX12_costOf_134 rfl ?_
      refine lv_topl (fun z28491 e28492 => ?_)
      refine lv_lmul hx hb dX12_costOf_135 ?_
      refine lv_topl (fun z28493 e28494 => ?_)
      refine va_calli (va_runS (As := [.long z28493]) (rest := []) ⟨hx, hb, hml, hown, hwd⟩ (c_X12_held l dC dI g c adK adV v28478 F28479 rc H.size z28493 hg hI ) (va_cwS 1 hwd (gT wk_523 wk_521 wk_522 wk_5) rfl rfl rfl (by decide +kernel) ⟨Nat.le_of_ble_eq_true rfl, Nat.le_of_ble_eq_true rfl⟩) ⟨PM.blind, fun U hU hW => ⟨rfl, PM.at hK hE hP hS hU hW⟩⟩ rfl rfl hl.1 rfl (lv_room (Nat.le_of_ble_eq_true rfl)) dX12_costOf_136 ⟨Nat.le_of_ble_eq_true rfl, Nat.le_of_ble_eq_true rfl⟩) hS (fun q _ h => (freeM hS) q h) (freeM hS) (fun r28495 u t H1 locs ht hvm hw hB hz1 hk1 hS => ?_)
      unfold BM at hB
      rw [ht] at hB
      have hP : va_P (dC, dI) classes (wM g c v28478 F28479 rc) H1 := hB
      generalize H1 = H at hP hS ⊢
      have rr_r28495 := i32_rng r28495
      have hP9 : va_P (dC, dI) classes (wM g c v28478 F28479 rc) H := hP
      exact W.iret (v := r28495) hx hb hr (fun t ht hW => ⟨⟨r28495, (v28478, F28479, rc), rfl, ⟨hI, rfl, (frC (by decide) hf28480 (fun _ _ => rfl)), hF, trivial⟩, (by show va_P _ _ _ t.heap; rw [ht]; exact hP9)⟩, hS.F ht⟩) hS.2.2 dX12_costOf_139
    · skip
      have t28496 := cv_eq (a := r28486.toInt) rfl (b := 3) (by decide) c28487
      refine lv_aload_n hx hb dX12_costOf_117 rfl (lv_at hl 3 rfl) ?_
      refine va_get (D := (dC, dI)) (ci := 12) (v := .ref (g 41)) (C := RX12) (T := TX12) (N := 63) hx hb hwd inA_X12 hown hK hP 0 rfl rfl 55 (by decide) (hwd _ wk_223) (fun _ h9 => h9) rfl dX12_costOf_118 ?_
      refine lv_iload hx hb dX12_costOf_121 (lv_at hl 2 rfl) ?_
      refine va_iald hx hb hK hP 41 40 rfl rfl (i := z28472) (vin (a := z28472.toInt) rfl (by omega)) dX12_costOf_123 ?_
      refine lv_topi (fun z28497 e28498 => ?_)
      have e28498 : z28497 = F 41 (z28472 : Int32).toNatClampNeg := e28498.trans (congrFun (hF 41 (by decide)) _)
      refine lv_goto (tgt := 134) hx hb dX12_costOf_124 (by decide) ?_
      refine lv_i2l hx hb dX12_costOf_134 rfl ?_
      refine lv_topl (fun z28499 e28500 => ?_)
      refine lv_lmul hx hb dX12_costOf_135 ?_
      refine lv_topl (fun z28501 e28502 => ?_)
      refine va_calli (va_runS (As := [.long z28501]) (rest := []) ⟨hx, hb, hml, hown, hwd⟩ (c_X12_held l dC dI g c adK adV v28478 F28479 rc H.size z28501 hg hI ) (va_cwS 1 hwd (gT wk_523 wk_521 wk_522 wk_5) rfl rfl rfl (by decide +kernel) ⟨Nat.le_of_ble_eq_true rfl, Nat.le_of_ble_eq_true rfl⟩) ⟨PM.blind, fun U hU hW => ⟨rfl, PM.at hK hE hP hS hU hW⟩⟩ rfl rfl hl.1 rfl (lv_room (Nat.le_of_ble_eq_true rfl)) dX12_costOf_136 ⟨Nat.le_of_ble_eq_true rfl, Nat.le_of_ble_eq_true rfl⟩) hS (fun q _ h => (freeM hS) q h) (freeM hS) (fun r28503 u t H1 locs ht hvm hw hB hz1 hk1 hS => ?_)
      unfold BM at hB
      rw [ht] at hB
      have hP : va_P (dC, dI) classes (wM g c v28478 F28479 rc) H1 := hB
      generalize H1 = H at hP hS ⊢
      have rr_r28503 := i32_rng r28503
      have hP9 : va_P (dC, dI) classes (wM g c v28478 F28479 rc) H := hP
      exact W.iret (v := r28503) hx hb hr (fun t ht hW => ⟨⟨r28503, (v28478, F28479, rc), rfl, ⟨hI, rfl, (frC (by decide) hf28480 (fun _ _ => rfl)), hF, trivial⟩, (by show va_P _ _ _ t.heap; rw [ht]; exact hP9)⟩, hS.F ht⟩) hS.2.2 dX12_costOf_139
  · skip
    have t28504 := cv_eq (a := z28475.toInt) rfl (b := 116) (by decide) c28484
    refine lv_lload hx hb dX12_costOf_36 (lv_at hl 0 rfl) ?_
    refine lv_aload_n hx hb dX12_costOf_38 rfl (lv_at hl 3 rfl) ?_
    refine va_get (D := (dC, dI)) (ci := 12) (v := .ref (g 39)) (C := RX12) (T := TX12) (N := 63) hx hb hwd inA_X12 hown hK hP 0 rfl rfl 53 (by decide) (hwd _ wk_221) (fun _ h9 => h9) rfl dX12_costOf_39 ?_
    refine lv_iload hx hb dX12_costOf_42 (lv_at hl 2 rfl) ?_
    refine va_iald hx hb hK hP 39 38 rfl rfl (i := z28472) (vin (a := z28472.toInt) rfl (by omega)) dX12_costOf_44 ?_
    refine lv_topi (fun z28505 e28506 => ?_)
    have e28506 : z28505 = F 39 (z28472 : Int32).toNatClampNeg := e28506.trans (congrFun (hF 39 (by decide)) _)
    refine lv_i2l hx hb dX12_costOf_45 rfl ?_
    refine lv_topl (fun z28507 e28508 => ?_)
    refine W.lcmp hx hb dX12_costOf_46 ?_
    refine lv_topi (fun z28509 e28510 => ?_)
    refine lv_if_ge (tgt := 55) hx hb dX12_costOf_47 (by decide) (fun c28511 => ?_) (fun c28511 => ?_)
    · skip
      have t28512 := cv_le (a := 0) (by decide) (b := z28509.toInt) rfl c28511
      refine lv_aload_n hx hb dX12_costOf_55 rfl (lv_at hl 3 rfl) ?_
      refine va_get (D := (dC, dI)) (ci := 12) (v := .ref (g 39)) (C := RX12) (T := TX12) (N := 63) hx hb hwd inA_X12 hown hK hP 0 rfl rfl 53 (by decide) (hwd _ wk_221) (fun _ h9 => h9) rfl dX12_costOf_56 ?_
      refine lv_iload hx hb dX12_costOf_59 (lv_at hl 2 rfl) ?_
      refine va_iald hx hb hK hP 39 38 rfl rfl (i := z28472) (vin (a := z28472.toInt) rfl (by omega)) dX12_costOf_61 ?_
      refine lv_topi (fun z28513 e28514 => ?_)
      have e28514 : z28513 = F 39 (z28472 : Int32).toNatClampNeg := e28514.trans (congrFun (hF 39 (by decide)) _)
      refine lv_i2l hx hb dX12_costOf_62 rfl ?_
      refine lv_topl (fun z28515 e28516 => ?_)
      refine lv_lstore (lv' := [(9, .long z28515), (7, .long z28482), (6, .int z28475), (5, .int z28472), (0, .ref (g 0)), (1, .int p0), (2, .int p1), (3, .int p2), (4, .int p3)]) hx hb dX12_costOf_63 hl (by decide) rfl (fun ls hl => ?_)
      refine lv_lload hx hb dX12_costOf_65 (lv_at hl 0 rfl) ?_
      refine lv_aload_n hx hb dX12_costOf_67 rfl (lv_at hl 4 rfl) ?_
      refine va_get (D := (dC, dI)) (ci := 12) (v := .ref (g 36)) (C := RX12) (T := TX12) (N := 63) hx hb hwd inA_X12 hown hK hP 0 rfl rfl 50 (by decide) (hwd _ wk_218) (fun _ h9 => h9) rfl dX12_costOf_68 ?_
      refine lv_iload_n hx hb dX12_costOf_71 rfl (lv_at hl 5 rfl) ?_
      refine va_iald hx hb hK hP 36 35 rfl rfl (i := p0) (vin (a := p0.toInt) rfl (by omega)) dX12_costOf_72 ?_
      refine lv_topi (fun z28517 e28518 => ?_)
      have e28518 : z28517 = F 36 (p0 : Int32).toNatClampNeg := e28518.trans (congrFun (hF 36 (by decide)) _)
      refine lv_i2l hx hb dX12_costOf_73 rfl ?_
      refine lv_topl (fun z28519 e28520 => ?_)
      refine lv_lmul hx hb dX12_costOf_74 ?_
      refine lv_topl (fun z28521 e28522 => ?_)
      refine lv_lload hx hb dX12_costOf_75 (lv_at hl 1 rfl) ?_
      refine lv_lload hx hb dX12_costOf_77 (lv_at hl 0 rfl) ?_
      refine lv_lsub hx hb dX12_costOf_79 ?_
      refine lv_topl (fun z28523 e28524 => ?_)
      refine lv_aload_n hx hb dX12_costOf_80 rfl (lv_at hl 4 rfl) ?_
      refine va_get (D := (dC, dI)) (ci := 12) (v := .ref (g 36)) (C := RX12) (T := TX12) (N := 63) hx hb hwd inA_X12 hown hK hP 0 rfl rfl 50 (by decide) (hwd _ wk_218) (fun _ h9 => h9) rfl dX12_costOf_81 ?_
      refine lv_iload_n hx hb dX12_costOf_84 rfl (lv_at hl 5 rfl) ?_
      refine va_iald hx hb hK hP 36 35 rfl rfl (i := p0) (vin (a := p0.toInt) rfl (by omega)) dX12_costOf_85 ?_
      refine lv_topi (fun z28525 e28526 => ?_)
      have e28526 : z28525 = F 36 (p0 : Int32).toNatClampNeg := e28526.trans (congrFun (hF 36 (by decide)) _)
      refine lv_i2l hx hb dX12_costOf_86 rfl ?_
      refine lv_topl (fun z28527 e28528 => ?_)
      refine lv_aload_n hx hb dX12_costOf_87 rfl (lv_at hl 4 rfl) ?_
      refine va_get (D := (dC, dI)) (ci := 12) (v := .ref (g 40)) (C := RX12) (T := TX12) (N := 63) hx hb hwd inA_X12 hown hK hP 0 rfl rfl 54 (by decide) (hwd _ wk_222) (fun _ h9 => h9) rfl dX12_costOf_88 ?_
      refine lv_iload hx hb dX12_costOf_91 (lv_at hl 3 rfl) ?_
      refine va_iald hx hb hK hP 40 39 rfl rfl (i := z28472) (vin (a := z28472.toInt) rfl (by omega)) dX12_costOf_93 ?_
      refine lv_topi (fun z28529 e28530 => ?_)
      have e28530 : z28529 = F 40 (z28472 : Int32).toNatClampNeg := e28530.trans (congrFun (hF 40 (by decide)) _)
      refine lv_i2l hx hb dX12_costOf_94 rfl ?_
      refine lv_topl (fun z28531 e28532 => ?_)
      refine lv_lmul hx hb dX12_costOf_95 ?_
      refine lv_topl (fun z28533 e28534 => ?_)
      refine lv_ldc2 (v := 100) hx hb hown (hwd _ wk_495) dX12_costOf_96 ?_
      refine lv_ldiv hx hb dX12_costOf_99 (by decide) ?_
      refine lv_topl (fun z28535 e28536 => ?_)
      refine lv_lmul hx hb dX12_costOf_100 ?_
      refine lv_topl (fun z28537 e28538 => ?_)
      refine lv_ladd hx hb dX12_costOf_101 ?_
      refine lv_topl (fun z28539 e28540 => ?_)
      refine va_calli (va_runS (As := [.long z28539]) (rest := []) ⟨hx, hb, hml, hown, hwd⟩ (c_X12_held l dC dI g c adK adV v28478 F28479 rc H.size z28539 hg hI ) (va_cwS 1 hwd (gT wk_523 wk_521 wk_522 wk_5) rfl rfl rfl (by decide +kernel) ⟨Nat.le_of_ble_eq_true rfl, Nat.le_of_ble_eq_true rfl⟩) ⟨PM.blind, fun U hU hW => ⟨rfl, PM.at hK hE hP hS hU hW⟩⟩ rfl rfl hl.1 rfl (lv_room (Nat.le_of_ble_eq_true rfl)) dX12_costOf_102 ⟨Nat.le_of_ble_eq_true rfl, Nat.le_of_ble_eq_true rfl⟩) hS (fun q _ h => (freeM hS) q h) (freeM hS) (fun r28541 u t H1 locs ht hvm hw hB hz1 hk1 hS => ?_)
      unfold BM at hB
      rw [ht] at hB
      have hP : va_P (dC, dI) classes (wM g c v28478 F28479 rc) H1 := hB
      generalize H1 = H at hP hS ⊢
      have rr_r28541 := i32_rng r28541
      have hP9 : va_P (dC, dI) classes (wM g c v28478 F28479 rc) H := hP
      exact W.iret (v := r28541) hx hb hr (fun t ht hW => ⟨⟨r28541, (v28478, F28479, rc), rfl, ⟨hI, rfl, (frC (by decide) hf28480 (fun _ _ => rfl)), hF, trivial⟩, (by show va_P _ _ _ t.heap; rw [ht]; exact hP9)⟩, hS.F ht⟩) hS.2.2 dX12_costOf_105
    · skip
      have t28542 := cv_nle (a := 0) (by decide) (b := z28509.toInt) rfl c28511
      refine lv_lload hx hb dX12_costOf_50 (lv_at hl 0 rfl) ?_
      refine lv_goto (tgt := 63) hx hb dX12_costOf_52 (by decide) ?_
      refine lv_lstore (lv' := [(9, .long z28482), (7, .long z28482), (6, .int z28475), (5, .int z28472), (0, .ref (g 0)), (1, .int p0), (2, .int p1), (3, .int p2), (4, .int p3)]) hx hb dX12_costOf_63 hl (by decide) rfl (fun ls hl => ?_)
      refine lv_lload hx hb dX12_costOf_65 (lv_at hl 0 rfl) ?_
      refine lv_aload_n hx hb dX12_costOf_67 rfl (lv_at hl 4 rfl) ?_
      refine va_get (D := (dC, dI)) (ci := 12) (v := .ref (g 36)) (C := RX12) (T := TX12) (N := 63) hx hb hwd inA_X12 hown hK hP 0 rfl rfl 50 (by decide) (hwd _ wk_218) (fun _ h9 => h9) rfl dX12_costOf_68 ?_
      refine lv_iload_n hx hb dX12_costOf_71 rfl (lv_at hl 5 rfl) ?_
      refine va_iald hx hb hK hP 36 35 rfl rfl (i := p0) (vin (a := p0.toInt) rfl (by omega)) dX12_costOf_72 ?_
      refine lv_topi (fun z28543 e28544 => ?_)
      have e28544 : z28543 = F 36 (p0 : Int32).toNatClampNeg := e28544.trans (congrFun (hF 36 (by decide)) _)
      refine lv_i2l hx hb dX12_costOf_73 rfl ?_
      refine lv_topl (fun z28545 e28546 => ?_)
      refine lv_lmul hx hb dX12_costOf_74 ?_
      refine lv_topl (fun z28547 e28548 => ?_)
      refine lv_lload hx hb dX12_costOf_75 (lv_at hl 1 rfl) ?_
      refine lv_lload hx hb dX12_costOf_77 (lv_at hl 0 rfl) ?_
      refine lv_lsub hx hb dX12_costOf_79 ?_
      refine lv_topl (fun z28549 e28550 => ?_)
      refine lv_aload_n hx hb dX12_costOf_80 rfl (lv_at hl 4 rfl) ?_
      refine va_get (D := (dC, dI)) (ci := 12) (v := .ref (g 36)) (C := RX12) (T := TX12) (N := 63) hx hb hwd inA_X12 hown hK hP 0 rfl rfl 50 (by decide) (hwd _ wk_218) (fun _ h9 => h9) rfl dX12_costOf_81 ?_
      refine lv_iload_n hx hb dX12_costOf_84 rfl (lv_at hl 5 rfl) ?_
      refine va_iald hx hb hK hP 36 35 rfl rfl (i := p0) (vin (a := p0.toInt) rfl (by omega)) dX12_costOf_85 ?_
      refine lv_topi (fun z28551 e28552 => ?_)
      have e28552 : z28551 = F 36 (p0 : Int32).toNatClampNeg := e28552.trans (congrFun (hF 36 (by decide)) _)
      refine lv_i2l hx hb dX12_costOf_86 rfl ?_
      refine lv_topl (fun z28553 e28554 => ?_)
      refine lv_aload_n hx hb dX12_costOf_87 rfl (lv_at hl 4 rfl) ?_
      refine va_get (D := (dC, dI)) (ci := 12) (v := .ref (g 40)) (C := RX12) (T := TX12) (N := 63) hx hb hwd inA_X12 hown hK hP 0 rfl rfl 54 (by decide) (hwd _ wk_222) (fun _ h9 => h9) rfl dX12_costOf_88 ?_
      refine lv_iload hx hb dX12_costOf_91 (lv_at hl 3 rfl) ?_
      refine va_iald hx hb hK hP 40 39 rfl rfl (i := z28472) (vin (a := z28472.toInt) rfl (by omega)) dX12_costOf_93 ?_
      refine lv_topi (fun z28555 e28556 => ?_)
      have e28556 : z28555 = F 40 (z28472 : Int32).toNatClampNeg := e28556.trans (congrFun (hF 40 (by decide)) _)
      refine lv_i2l hx hb dX12_costOf_94 rfl ?_
      refine lv_topl (fun z28557 e28558 => ?_)
      refine lv_lmul hx hb dX12_costOf_95 ?_
      refine lv_topl (fun z28559 e28560 => ?_)
      refine lv_ldc2 (v := 100) hx hb hown (hwd _ wk_495) dX12_costOf_96 ?_
      refine lv_ldiv hx hb dX12_costOf_99 (by decide) ?_
      refine lv_topl (fun z28561 e28562 => ?_)
      refine lv_lmul hx hb dX12_costOf_100 ?_
      refine lv_topl (fun z28563 e28564 => ?_)
      refine lv_ladd hx hb dX12_costOf_101 ?_
      refine lv_topl (fun z28565 e28566 => ?_)
      refine va_calli (va_runS (As := [.long z28565]) (rest := []) ⟨hx, hb, hml, hown, hwd⟩ (c_X12_held l dC dI g c adK adV v28478 F28479 rc H.size z28565 hg hI ) (va_cwS 1 hwd (gT wk_523 wk_521 wk_522 wk_5) rfl rfl rfl (by decide +kernel) ⟨Nat.le_of_ble_eq_true rfl, Nat.le_of_ble_eq_true rfl⟩) ⟨PM.blind, fun U hU hW => ⟨rfl, PM.at hK hE hP hS hU hW⟩⟩ rfl rfl hl.1 rfl (lv_room (Nat.le_of_ble_eq_true rfl)) dX12_costOf_102 ⟨Nat.le_of_ble_eq_true rfl, Nat.le_of_ble_eq_true rfl⟩) hS (fun q _ h => (freeM hS) q h) (freeM hS) (fun r28567 u t H1 locs ht hvm hw hB hz1 hk1 hS => ?_)
      unfold BM at hB
      rw [ht] at hB
      have hP : va_P (dC, dI) classes (wM g c v28478 F28479 rc) H1 := hB
      generalize H1 = H at hP hS ⊢
      have rr_r28567 := i32_rng r28567
      have hP9 : va_P (dC, dI) classes (wM g c v28478 F28479 rc) H := hP
      exact W.iret (v := r28567) hx hb hr (fun t ht hW => ⟨⟨r28567, (v28478, F28479, rc), rfl, ⟨hI, rfl, (frC (by decide) hf28480 (fun _ _ => rfl)), hF, trivial⟩, (by show va_P _ _ _ t.heap; rw [ht]; exact hP9)⟩, hS.F ht⟩) hS.2.2 dX12_costOf_105
set_option maxHeartbeats 8000000 in
set_option maxRecDepth 100000 in
theorem c_X12_costOfAll (l : Launch) (dC : Nat → ClassId) (dI : Nat → Nat → Nat) (g : Nat → Nat) (c : Nat → ClassId) (adK adV : Nat → Nat) (v : Nat → Int32) (F : Nat → Nat → Int32) (rc sz : Nat) (p0 : Int32) (p1 : Int32) (p2 : Int32) (hg : injM g) (hI : IM v F) (h0 : 0 ≤ p0.toInt ∧ p0.toInt ≤ 9) (hL : JL (v 31) (F 28) (F 29) (F 27)) : Met l yX12_costOfAll (Cond.code yX12_costOfAll cX12_costOfAll 7 (some .int) :: wA) ({ frames := 7, cells := 0, slots := 0, locals := 280 }) (va_Pc [.ref (g 0), .int p0, .int p1, .int p2] (PM dC dI g c adK adV v F rc sz)) (va_Qi (fun (r : Int32) (u : StM) => IM u.1 u.2.1 ∧ u.2.2 = rc ∧ (∀ k, k ∉ ([] : List Nat) → u.1 k = v k) ∧ (∀ k, k ∉ ([30, 31] : List Nat) → u.2.1 k = F k) ∧ True) (BM dC dI g c) (AM g sz)) 0 0 (AM g sz) := by
  refine Met.ofW (cc := cX12_costOfAll) (maxL := 7) (ret := (some .int)) (by decide) rfl ?_
  intro p e s m args below meth c0 s₁ B hml hv
  obtain ⟨rfl, hsz, hP, hK, hE⟩ := hv
  have hx := B.exec
  have hb := B.bytes
  have hr := B.returns
  have hts := atoms_spec (ws := Cond.code yX12_costOfAll cX12_costOfAll 7 (some .int) :: wA) B.pre
  have hwd : ∀ w ∈ wA, w.before _ s = true := fun w h => hts w (List.mem_cons_of_mem _ h)
  have hown : s.vm.findClass RX12 = some m.cls := findClass_of_methodNamed B.named
  have hlocks := B.notSynchronized
  subst hsz
  have hl := lv_entry ([.ref (g 0), .int p0, .int p1, .int p2]) (n := 7) (Nat.le_of_ble_eq_true rfl)
  rw [lg_entry_eq]
  generalize (lg_sl ([.ref (g 0), .int p0, .int p1, .int p2]) ++ List.replicate (7 - (lg_sl ([.ref (g 0), .int p0, .int p1, .int p2])).length) Slot.unset).toArray = ls at hl ⊢
  have hl : lv_has ls 7 [(0, .ref (g 0)), (1, .int p0), (2, .int p1), (3, .int p2)] := hl
  obtain ⟨H, eH⟩ : ∃ z, z = s.heap := ⟨_, rfl⟩
  have hP : va_P (dC, dI) classes (wM g c v F rc) H := by rw [eH]; exact hP
  have hS : va_S (AM g s.heap.size) s.heap H [] := by rw [eH]; exact va_S.rf
  refine my_heap eH ?_
  have hF : ∀ k, k ∉ ([30, 31] : List Nat) → F k = F k := fun _ _ => rfl
  have rp0 := i32_rng p0
  have rp1 := i32_rng p1
  have rp2 := i32_rng p2
  have hb31 : 0 ≤ (v 31).toInt ∧ (v 31).toInt ≤ 10 := hI.1 31 _ _ rfl
  refine lv_lconst (v := 0) hx hb dX12_costOfAll_0 (by decide) ?_
  refine lv_lstore (lv' := [(4, .long 0), (0, .ref (g 0)), (1, .int p0), (2, .int p1), (3, .int p2)]) hx hb dX12_costOfAll_1 hl (by decide) rfl (fun ls hl => ?_)
  refine lv_iconst (v := 0) hx hb dX12_costOfAll_3 (by decide) ?_
  refine lv_istore (lv' := [(6, .int 0), (4, .long 0), (0, .ref (g 0)), (1, .int p0), (2, .int p1), (3, .int p2)]) hx hb dX12_costOfAll_4 hl (by decide) rfl (fun ls hl => ?_)
  have lp28589 : ∀ (n : Nat) (x6_lp28589 : Int32) (x4_lp28589 : Int64) (v_lp28589 : Nat → Int32) (F_lp28589 : Nat → Nat → Int32) (H : Heap) (locs : List Loc) (ls : Array Slot), (0 ≤ x6_lp28589.toInt) → (2147483648 - x6_lp28589.toInt ≤ (n : Int)) → (∀ k, k ∉ ([] : List Nat) → v_lp28589 k = v k) → IM v_lp28589 F_lp28589 → (∀ k, k ∉ ([30, 31] : List Nat) → F_lp28589 k = F k) → va_P (dC, dI) classes (wM g c v_lp28589 F_lp28589 rc) H → va_S (AM g s.heap.size) s.heap H locs → lv_has ls 7 [(6, .int x6_lp28589), (4, .long x4_lp28589), (0, .ref (g 0)), (1, .int p0), (2, .int p1), (3, .int p2)] → W p l e (headSpec (Cond.code yX12_costOfAll cX12_costOfAll 7 (some .int) :: wA) ({ frames := 7, cells := 0, slots := 0, locals := 280 })).room s m ([.ref (g 0), .int p0, .int p1, .int p2] : List Value).toArray below meth c0 H locs 0 0 (MQ below (va_Qi (fun (r : Int32) (u : StM) => IM u.1 u.2.1 ∧ u.2.2 = rc ∧ (∀ k, k ∉ ([] : List Nat) → u.1 k = v k) ∧ (∀ k, k ∉ ([30, 31] : List Nat) → u.2.1 k = F k) ∧ True) (BM dC dI g c) (AM g s.heap.size)) ([.ref (g 0), .int p0, .int p1, .int p2] : List Value).toArray s 0 0 (AM g s.heap.size)) (F0 m 6 ls []) := by
    intro n
    induction n with
    | zero =>
      intro x6_lp28589 x4_lp28589 v_lp28589 F_lp28589 H locs ls t28590 hm hf_lp28589 hI hF hP hS hl
      exfalso
      have := i32_rng x6_lp28589
      have hI1 := hI.1
      omega
    | succ n ih_lp28589 =>
      intro x6_lp28589 x4_lp28589 v_lp28589 F_lp28589 H locs ls t28590 hm hf_lp28589 hI hF hP hS hl
      have rx6_lp28589 := i32_rng x6_lp28589
      refine lv_iload hx hb dX12_costOfAll_6 (lv_at hl 0 rfl) ?_
      refine lv_aload_n hx hb dX12_costOfAll_8 rfl (lv_at hl 2 rfl) ?_
      refine va_get (D := (dC, dI)) (ci := 12) (v := .ref (g 37)) (C := RX12) (T := TX12) (N := 63) hx hb hwd inA_X12 hown hK hP 0 rfl rfl 51 (by decide) (hwd _ wk_219) (fun _ h9 => h9) rfl dX12_costOfAll_9 ?_
      refine lv_iload_n hx hb dX12_costOfAll_12 rfl (lv_at hl 3 rfl) ?_
      refine va_iald hx hb hK hP 37 36 rfl rfl (i := p0) (vin (a := p0.toInt) rfl (by omega)) dX12_costOfAll_13 ?_
      refine lv_topi (fun z28591 e28592 => ?_)
      have t28593 : 0 ≤ z28591.toInt ∧ z28591.toInt ≤ 31 := by rw [e28592]; exact hI.2 37 _ _ rfl _
      have e28592 : z28591 = F 37 (p0 : Int32).toNatClampNeg := e28592.trans (congrFun (hF 37 (by decide)) _)
      refine lv_icmp_ge (tgt := 38) hx hb dX12_costOfAll_14 (by decide) (fun c28594 => ?_) (fun c28594 => ?_)
      · skip
        have t28595 := cv_le (a := z28591.toInt) rfl (b := x6_lp28589.toInt) rfl c28594
        refine lv_lload hx hb dX12_costOfAll_38 (lv_at hl 1 rfl) ?_
        refine va_calli (va_runS (As := [.long x4_lp28589]) (rest := []) ⟨hx, hb, hml, hown, hwd⟩ (c_X12_held l dC dI g c adK adV v_lp28589 F_lp28589 rc H.size x4_lp28589 hg hI ) (va_cwS 1 hwd (gT wk_523 wk_521 wk_522 wk_5) rfl rfl rfl (by decide +kernel) ⟨Nat.le_of_ble_eq_true rfl, Nat.le_of_ble_eq_true rfl⟩) ⟨PM.blind, fun U hU hW => ⟨rfl, PM.at hK hE hP hS hU hW⟩⟩ rfl rfl hl.1 rfl (lv_room (Nat.le_of_ble_eq_true rfl)) dX12_costOfAll_40 ⟨Nat.le_of_ble_eq_true rfl, Nat.le_of_ble_eq_true rfl⟩) hS (fun q _ h => (freeM hS) q h) (freeM hS) (fun r28596 u t H1 locs ht hvm hw hB hz1 hk1 hS => ?_)
        unfold BM at hB
        rw [ht] at hB
        have hP : va_P (dC, dI) classes (wM g c v_lp28589 F_lp28589 rc) H1 := hB
        generalize H1 = H at hP hS ⊢
        have rr_r28596 := i32_rng r28596
        have hP9 : va_P (dC, dI) classes (wM g c v_lp28589 F_lp28589 rc) H := hP
        exact W.iret (v := r28596) hx hb hr (fun t ht hW => ⟨⟨r28596, (v_lp28589, F_lp28589, rc), rfl, ⟨hI, rfl, (frC (by decide) hf_lp28589 (fun _ _ => rfl)), hF, trivial⟩, (by show va_P _ _ _ t.heap; rw [ht]; exact hP9)⟩, hS.F ht⟩) hS.2.2 dX12_costOfAll_43
      · skip
        have t28597 := cv_nle (a := z28591.toInt) rfl (b := x6_lp28589.toInt) rfl c28594
        refine lv_lload hx hb dX12_costOfAll_17 (lv_at hl 1 rfl) ?_
        refine lv_aload_n hx hb dX12_costOfAll_19 rfl (lv_at hl 2 rfl) ?_
        refine lv_iload_n hx hb dX12_costOfAll_20 rfl (lv_at hl 3 rfl) ?_
        refine lv_iload hx hb dX12_costOfAll_21 (lv_at hl 0 rfl) ?_
        refine lv_iload_n hx hb dX12_costOfAll_23 rfl (lv_at hl 4 rfl) ?_
        refine lv_iload_n hx hb dX12_costOfAll_24 rfl (lv_at hl 5 rfl) ?_
        refine va_calli (va_runV (As := [.int p0, .int x6_lp28589, .int p1, .int p2]) (rest := [.long x4_lp28589]) ⟨hx, hb, hml, hown, hwd⟩ (c_X12_costOf l dC dI g c adK adV v_lp28589 F_lp28589 rc H.size p0 x6_lp28589 p1 p2 hg hI (by omega) (by omega) (JL.to hL (show v_lp28589 31 = v 31 from hf_lp28589 31 (by decide)) (hF 28 (by decide)) (hF 29 (by decide)) (hF 27 (by decide)))) (cwV 4 hwd (gV wk_1251 wk_1248 wk_1249 wk_1250 wk_5) rfl rfl rfl (by decide +kernel) ⟨Nat.le_of_ble_eq_true rfl, Nat.le_of_ble_eq_true rfl⟩) ⟨PM.blind, va_recv hK hP (ci := 12) (q0 := 0) rfl rfl, fun U hU hW => ⟨rfl, PM.at hK hE hP hS hU hW⟩⟩ rfl rfl hl.1 rfl (lv_room (Nat.le_of_ble_eq_true rfl)) dX12_costOfAll_25 ⟨Nat.le_of_ble_eq_true rfl, Nat.le_of_ble_eq_true rfl⟩) hS (fun q _ h => (freeM hS) q h) (freeM hS) (fun r28598 u t H1 locs ht hvm hw hB hz1 hk1 hS => ?_)
        unfold BM at hB
        rw [ht] at hB
        obtain ⟨v28599, F28600, rc9⟩ := u
        obtain ⟨hI, hrc, hf28601, hG28602, hw⟩ := hw
        dsimp only at hI hrc hB hf28601 hG28602 hw
        have hF := frCF (by decide) hG28602 hF
        rw [hrc] at hB
        have hP : va_P (dC, dI) classes (wM g c v28599 F28600 rc) H1 := hB
        generalize H1 = H at hP hS ⊢
        have rr_r28598 := i32_rng r28598
        refine lv_i2l hx hb dX12_costOfAll_28 rfl ?_
        refine lv_topl (fun z28603 e28604 => ?_)
        refine lv_ladd hx hb dX12_costOfAll_29 ?_
        refine lv_topl (fun z28605 e28606 => ?_)
        refine lv_lstore (lv' := [(4, .long z28605), (6, .int x6_lp28589), (0, .ref (g 0)), (1, .int p0), (2, .int p1), (3, .int p2)]) hx hb dX12_costOfAll_30 hl (by decide) rfl (fun ls hl => ?_)
        obtain ⟨z28607, e28608⟩ : ∃ y : Int32, y = x6_lp28589 + 1 := ⟨_, rfl⟩
        try (have t28609 := tadd e28608 rfl (b := 1) (by decide) (by omega))
        refine lv_iinc (v := z28607) (lv' := [(6, .int z28607), (4, .long z28605), (0, .ref (g 0)), (1, .int p0), (2, .int p1), (3, .int p2)]) hx hb dX12_costOfAll_32 hl (k := 1) rfl (by rw [e28608]; rfl) (by decide) rfl (fun ls hl => ?_)
        refine lv_goto (tgt := 6) hx hb dX12_costOfAll_35 (by decide) ?_
        exact ih_lp28589 z28607 z28605 v28599 F28600 _ _ _ (by omega) (by omega) (frC (by decide) hf28601 hf_lp28589) hI hF hP hS (lv_sub hl [0, 1, 2, 3, 4, 5] rfl)
  obtain ⟨n9, hn9⟩ : ∃ n : Nat, 2147483648 - 0 ≤ (n : Int) := ⟨((2147483648 - 0 : Int)).toNat, by omega⟩
  exact lp28589 n9 0 0 v F H _ ls (by have : (0 : Int32).toInt = 0 := (by decide); omega) (by have : (0 : Int32).toInt = 0 := (by decide); omega) (fun _ _ => rfl) hI hF hP hS hl
set_option maxHeartbeats 8000000 in
set_option maxRecDepth 100000 in
theorem c_X12_lacks (l : Launch) (dC : Nat → ClassId) (dI : Nat → Nat → Nat) (g : Nat → Nat) (c : Nat → ClassId) (adK adV : Nat → Nat) (v : Nat → Int32) (F : Nat → Nat → Int32) (rc sz : Nat) (p0 : Int32) (p1 : Int32) (p2 : Int32) (p3 : Int32) (hg : injM g) (hI : IM v F) (hL : JL (v 31) (F 28) (F 29) (F 27)) : Met l yX12_lacks (Cond.code yX12_lacks cX12_lacks 5 (some .int) :: wA) ({ frames := 6, cells := 0, slots := 0, locals := 240 }) (va_Pc [.ref (g 0), .int p0, .int p1, .int p2, .int p3] (PM dC dI g c adK adV v F rc sz)) (va_Qi (fun (r : Int32) (u : StM) => IM u.1 u.2.1 ∧ u.2.2 = rc ∧ (∀ k, k ∉ ([] : List Nat) → u.1 k = v k) ∧ (∀ k, k ∉ ([30, 31, 42] : List Nat) → u.2.1 k = F k) ∧ True) (BM dC dI g c) (AM g sz)) 0 0 (AM g sz) := by
  refine Met.ofW (cc := cX12_lacks) (maxL := 5) (ret := (some .int)) (by decide) rfl ?_
  intro p e s m args below meth c0 s₁ B hml hv
  obtain ⟨rfl, hsz, hP, hK, hE⟩ := hv
  have hx := B.exec
  have hb := B.bytes
  have hr := B.returns
  have hts := atoms_spec (ws := Cond.code yX12_lacks cX12_lacks 5 (some .int) :: wA) B.pre
  have hwd : ∀ w ∈ wA, w.before _ s = true := fun w h => hts w (List.mem_cons_of_mem _ h)
  have hown : s.vm.findClass RX12 = some m.cls := findClass_of_methodNamed B.named
  have hlocks := B.notSynchronized
  subst hsz
  have hl := lv_entry ([.ref (g 0), .int p0, .int p1, .int p2, .int p3]) (n := 5) (Nat.le_of_ble_eq_true rfl)
  rw [lg_entry_eq]
  generalize (lg_sl ([.ref (g 0), .int p0, .int p1, .int p2, .int p3]) ++ List.replicate (5 - (lg_sl ([.ref (g 0), .int p0, .int p1, .int p2, .int p3])).length) Slot.unset).toArray = ls at hl ⊢
  have hl : lv_has ls 5 [(0, .ref (g 0)), (1, .int p0), (2, .int p1), (3, .int p2), (4, .int p3)] := hl
  obtain ⟨H, eH⟩ : ∃ z, z = s.heap := ⟨_, rfl⟩
  have hP : va_P (dC, dI) classes (wM g c v F rc) H := by rw [eH]; exact hP
  have hS : va_S (AM g s.heap.size) s.heap H [] := by rw [eH]; exact va_S.rf
  refine my_heap eH ?_
  have hF : ∀ k, k ∉ ([30, 31, 42] : List Nat) → F k = F k := fun _ _ => rfl
  have rp0 := i32_rng p0
  have rp1 := i32_rng p1
  have rp2 := i32_rng p2
  have rp3 := i32_rng p3
  have hb31 : 0 ≤ (v 31).toInt ∧ (v 31).toInt ≤ 10 := hI.1 31 _ _ rfl
  refine lv_aload_n hx hb dX12_lacks_0 rfl (lv_at hl 0 rfl) ?_
  refine lv_iload_n hx hb dX12_lacks_1 rfl (lv_at hl 1 rfl) ?_
  have t28649 : 0 ≤ (v 6).toInt ∧ (v 6).toInt ≤ 10 := hI.1 6 _ _ rfl
  refine va_calli (va_runV (As := [.int p0]) (rest := []) ⟨hx, hb, hml, hown, hwd⟩ (c_X12_isPlane l dC dI g c adK adV v F rc H.size p0 hg hI ) (cwV 1 hwd (gV wk_305 wk_302 wk_303 wk_304 wk_5) rfl rfl rfl (by decide +kernel) ⟨Nat.le_of_ble_eq_true rfl, Nat.le_of_ble_eq_true rfl⟩) ⟨PM.blind, va_recv hK hP (ci := 12) (q0 := 0) rfl rfl, fun U hU hW => ⟨rfl, PM.at hK hE hP hS hU hW⟩⟩ rfl rfl hl.1 rfl (lv_room (Nat.le_of_ble_eq_true rfl)) dX12_lacks_2 ⟨Nat.le_of_ble_eq_true rfl, Nat.le_of_ble_eq_true rfl⟩) hS (fun q _ h => (freeM hS) q h) (freeM hS) (fun r28650 u t H1 locs ht hvm hw hB hz1 hk1 hS => ?_)
  unfold BM at hB
  rw [ht] at hB
  have hP : va_P (dC, dI) classes (wM g c v F rc) H1 := hB
  have hw : (r28650.toInt = 1 ∧ 0 ≤ p0.toInt ∧ p0.toInt < (v 6).toInt) ∨ (r28650.toInt = 0 ∧ (p0.toInt < 0 ∨ (v 6).toInt ≤ p0.toInt)) := hw
  have hw_r28650 := hw
  generalize H1 = H at hP hS ⊢
  refine lv_if_eq (tgt := 47) hx hb dX12_lacks_5 (by decide) (fun c28651 => ?_) (fun c28651 => ?_)
  · skip
    have t28652 := cv_eq (a := r28650.toInt) rfl (b := 0) (by decide) c28651
    refine lv_iconst (v := (-1)) hx hb dX12_lacks_47 (by decide) ?_
    have hP9 : va_P (dC, dI) classes (wM g c v F rc) H := hP
    exact W.iret (v := (-1)) hx hb hr (fun t ht hW => ⟨⟨(-1), (v, F, rc), rfl, ⟨hI, rfl, (fun _ _ => rfl), hF, trivial⟩, (by show va_P _ _ _ t.heap; rw [ht]; exact hP9)⟩, hS.F ht⟩) hS.2.2 dX12_lacks_48
  · skip
    have t28653 := cv_ne (a := r28650.toInt) rfl (b := 0) (by decide) c28651
    refine lv_aload_n hx hb dX12_lacks_8 rfl (lv_at hl 0 rfl) ?_
    refine lv_iload_n hx hb dX12_lacks_9 rfl (lv_at hl 1 rfl) ?_
    refine va_calli (va_runV (As := [.int p0]) (rest := []) ⟨hx, hb, hml, hown, hwd⟩ (c_X12_hasContract l dC dI g c adK adV v F rc H.size p0 hg hI (by omega)) (cwV 1 hwd (gV wk_1201 wk_1198 wk_1199 wk_1200 wk_5) rfl rfl rfl (by decide +kernel) ⟨Nat.le_of_ble_eq_true rfl, Nat.le_of_ble_eq_true rfl⟩) ⟨PM.blind, va_recv hK hP (ci := 12) (q0 := 0) rfl rfl, fun U hU hW => ⟨rfl, PM.at hK hE hP hS hU hW⟩⟩ rfl rfl hl.1 rfl (lv_room (Nat.le_of_ble_eq_true rfl)) dX12_lacks_10 ⟨Nat.le_of_ble_eq_true rfl, Nat.le_of_ble_eq_true rfl⟩) hS (fun q _ h => (freeM hS) q h) (freeM hS) (fun r28654 u t H1 locs ht hvm hw hB hz1 hk1 hS => ?_)
    unfold BM at hB
    rw [ht] at hB
    have hP : va_P (dC, dI) classes (wM g c v F rc) H1 := hB
    have hw : 0 ≤ r28654.toInt ∧ r28654.toInt ≤ 1 := hw
    have hw_r28654 := hw
    generalize H1 = H at hP hS ⊢
    refine lv_if_eq (tgt := 47) hx hb dX12_lacks_13 (by decide) (fun c28655 => ?_) (fun c28655 => ?_)
    · skip
      have t28656 := cv_eq (a := r28654.toInt) rfl (b := 0) (by decide) c28655
      refine lv_iconst (v := (-1)) hx hb dX12_lacks_47 (by decide) ?_
      have hP9 : va_P (dC, dI) classes (wM g c v F rc) H := hP
      exact W.iret (v := (-1)) hx hb hr (fun t ht hW => ⟨⟨(-1), (v, F, rc), rfl, ⟨hI, rfl, (fun _ _ => rfl), hF, trivial⟩, (by show va_P _ _ _ t.heap; rw [ht]; exact hP9)⟩, hS.F ht⟩) hS.2.2 dX12_lacks_48
    · skip
      have t28657 := cv_ne (a := r28654.toInt) rfl (b := 0) (by decide) c28655
      refine lv_iload_n hx hb dX12_lacks_16 rfl (lv_at hl 2 rfl) ?_
      refine lv_iconst (v := 0) hx hb dX12_lacks_17 (by decide) ?_
      refine lv_aload_n hx hb dX12_lacks_18 rfl (lv_at hl 0 rfl) ?_
      refine va_get (D := (dC, dI)) (ci := 12) (v := .ref (g 37)) (C := RX12) (T := TX12) (N := 63) hx hb hwd inA_X12 hown hK hP 0 rfl rfl 51 (by decide) (hwd _ wk_219) (fun _ h9 => h9) rfl dX12_lacks_19 ?_
      refine lv_iload_n hx hb dX12_lacks_22 rfl (lv_at hl 1 rfl) ?_
      refine va_iald hx hb hK hP 37 36 rfl rfl (i := p0) (vin (a := p0.toInt) rfl (by omega)) dX12_lacks_23 ?_
      refine lv_topi (fun z28658 e28659 => ?_)
      have t28660 : 0 ≤ z28658.toInt ∧ z28658.toInt ≤ 31 := by rw [e28659]; exact hI.2 37 _ _ rfl _
      refine lv_iconst (v := 1) hx hb dX12_lacks_24 (by decide) ?_
      refine lv_isub hx hb dX12_lacks_25 ?_
      refine lv_topi (fun z28661 e28662 => ?_)
      try (have t28663 := tsub e28662 (a := z28658.toInt) rfl (b := 1) (by decide) (by omega))
      refine va_calli (va_runS (As := [.int p1, .int 0, .int z28661]) (rest := []) ⟨hx, hb, hml, hown, hwd⟩ (c_X12_in l dC dI g c adK adV v F rc H.size p1 0 z28661 hg hI ) (va_cwS 3 hwd (gT wk_254 wk_252 wk_253 wk_5) rfl rfl rfl (by decide +kernel) ⟨Nat.le_of_ble_eq_true rfl, Nat.le_of_ble_eq_true rfl⟩) ⟨PM.blind, fun U hU hW => ⟨rfl, PM.at hK hE hP hS hU hW⟩⟩ rfl rfl hl.1 rfl (lv_room (Nat.le_of_ble_eq_true rfl)) dX12_lacks_26 ⟨Nat.le_of_ble_eq_true rfl, Nat.le_of_ble_eq_true rfl⟩) hS (fun q _ h => (freeM hS) q h) (freeM hS) (fun r28664 u t H1 locs ht hvm hw hB hz1 hk1 hS => ?_)
      unfold BM at hB
      rw [ht] at hB
      have hP : va_P (dC, dI) classes (wM g c v F rc) H1 := hB
      have hw : (r28664.toInt = 1 ∧ (0 : Int32).toInt ≤ p1.toInt ∧ p1.toInt ≤ z28661.toInt) ∨ (r28664.toInt = 0 ∧ (p1.toInt < (0 : Int32).toInt ∨ z28661.toInt < p1.toInt)) := hw
      have hw_r28664 := hw
      have k28665 : (0 : Int32).toInt = 0 := by decide
      generalize H1 = H at hP hS ⊢
      refine lv_if_eq (tgt := 47) hx hb dX12_lacks_29 (by decide) (fun c28666 => ?_) (fun c28666 => ?_)
      · skip
        have t28667 := cv_eq (a := r28664.toInt) rfl (b := 0) (by decide) c28666
        refine lv_iconst (v := (-1)) hx hb dX12_lacks_47 (by decide) ?_
        have hP9 : va_P (dC, dI) classes (wM g c v F rc) H := hP
        exact W.iret (v := (-1)) hx hb hr (fun t ht hW => ⟨⟨(-1), (v, F, rc), rfl, ⟨hI, rfl, (fun _ _ => rfl), hF, trivial⟩, (by show va_P _ _ _ t.heap; rw [ht]; exact hP9)⟩, hS.F ht⟩) hS.2.2 dX12_lacks_48
      · skip
        have t28668 := cv_ne (a := r28664.toInt) rfl (b := 0) (by decide) c28666
        refine lv_iload_n hx hb dX12_lacks_32 rfl (lv_at hl 3 rfl) ?_
        refine va_calli (va_runS (As := [.int p2]) (rest := []) ⟨hx, hb, hml, hown, hwd⟩ (c_X12_isDay l dC dI g c adK adV v F rc H.size p2 hg hI ) (va_cwS 1 hwd (gT wk_556 wk_554 wk_555 wk_5) rfl rfl rfl (by decide +kernel) ⟨Nat.le_of_ble_eq_true rfl, Nat.le_of_ble_eq_true rfl⟩) ⟨PM.blind, fun U hU hW => ⟨rfl, PM.at hK hE hP hS hU hW⟩⟩ rfl rfl hl.1 rfl (lv_room (Nat.le_of_ble_eq_true rfl)) dX12_lacks_33 ⟨Nat.le_of_ble_eq_true rfl, Nat.le_of_ble_eq_true rfl⟩) hS (fun q _ h => (freeM hS) q h) (freeM hS) (fun r28669 u t H1 locs ht hvm hw hB hz1 hk1 hS => ?_)
        unfold BM at hB
        rw [ht] at hB
        have hP : va_P (dC, dI) classes (wM g c v F rc) H1 := hB
        have hw : (r28669.toInt = 1 ∧ 0 ≤ p2.toInt ∧ p2.toInt ≤ 9999) ∨ (r28669.toInt = 0 ∧ (p2.toInt < 0 ∨ 9999 < p2.toInt)) := hw
        have hw_r28669 := hw
        generalize H1 = H at hP hS ⊢
        refine lv_if_eq (tgt := 47) hx hb dX12_lacks_36 (by decide) (fun c28670 => ?_) (fun c28670 => ?_)
        · skip
          have t28671 := cv_eq (a := r28669.toInt) rfl (b := 0) (by decide) c28670
          refine lv_iconst (v := (-1)) hx hb dX12_lacks_47 (by decide) ?_
          have hP9 : va_P (dC, dI) classes (wM g c v F rc) H := hP
          exact W.iret (v := (-1)) hx hb hr (fun t ht hW => ⟨⟨(-1), (v, F, rc), rfl, ⟨hI, rfl, (fun _ _ => rfl), hF, trivial⟩, (by show va_P _ _ _ t.heap; rw [ht]; exact hP9)⟩, hS.F ht⟩) hS.2.2 dX12_lacks_48
        · skip
          have t28672 := cv_ne (a := r28669.toInt) rfl (b := 0) (by decide) c28670
          refine lv_iload hx hb dX12_lacks_39 (lv_at hl 4 rfl) ?_
          refine va_calli (va_runS (As := [.int p3]) (rest := []) ⟨hx, hb, hml, hown, hwd⟩ (c_X12_isDay l dC dI g c adK adV v F rc H.size p3 hg hI ) (va_cwS 1 hwd (gT wk_556 wk_554 wk_555 wk_5) rfl rfl rfl (by decide +kernel) ⟨Nat.le_of_ble_eq_true rfl, Nat.le_of_ble_eq_true rfl⟩) ⟨PM.blind, fun U hU hW => ⟨rfl, PM.at hK hE hP hS hU hW⟩⟩ rfl rfl hl.1 rfl (lv_room (Nat.le_of_ble_eq_true rfl)) dX12_lacks_41 ⟨Nat.le_of_ble_eq_true rfl, Nat.le_of_ble_eq_true rfl⟩) hS (fun q _ h => (freeM hS) q h) (freeM hS) (fun r28673 u t H1 locs ht hvm hw hB hz1 hk1 hS => ?_)
          unfold BM at hB
          rw [ht] at hB
          have hP : va_P (dC, dI) classes (wM g c v F rc) H1 := hB
          have hw : (r28673.toInt = 1 ∧ 0 ≤ p3.toInt ∧ p3.toInt ≤ 9999) ∨ (r28673.toInt = 0 ∧ (p3.toInt < 0 ∨ 9999 < p3.toInt)) := hw
          have hw_r28673 := hw
          generalize H1 = H at hP hS ⊢
          refine lv_if_ne (tgt := 49) hx hb dX12_lacks_44 (by decide) (fun c28674 => ?_) (fun c28674 => ?_)
          · skip
            have t28675 := cv_ne (a := r28673.toInt) rfl (b := 0) (by decide) c28674
            refine lv_aload_n hx hb dX12_lacks_49 rfl (lv_at hl 0 rfl) ?_
            refine lv_iload_n hx hb dX12_lacks_50 rfl (lv_at hl 1 rfl) ?_
            have t28676 : 0 ≤ (v 14).toInt ∧ (v 14).toInt ≤ 100 := hI.1 14 _ _ rfl
            refine va_callv (va_runV (As := [.int p0]) (rest := []) ⟨hx, hb, hml, hown, hwd⟩ (c_X12_board l dC dI g c adK adV v F rc H.size p0 hg hI ) (cwV 1 hwd (gV wk_1205 wk_1202 wk_1203 wk_1204 wk_5) rfl rfl rfl (by decide +kernel) ⟨Nat.le_of_ble_eq_true rfl, Nat.le_of_ble_eq_true rfl⟩) ⟨PM.blind, va_recv hK hP (ci := 12) (q0 := 0) rfl rfl, fun U hU hW => ⟨rfl, PM.at hK hE hP hS hU hW⟩⟩ rfl rfl hl.1 rfl (lv_room (Nat.le_of_ble_eq_true rfl)) dX12_lacks_51 ⟨Nat.le_of_ble_eq_true rfl, Nat.le_of_ble_eq_true rfl⟩) hS (fun q _ h => (freeM hS) q h) (freeM hS) (fun u t H1 locs ht hvm hw hB hz1 hk1 hS => ?_)
            unfold BM at hB
            rw [ht] at hB
            obtain ⟨v28678, F28679, rc9⟩ := u
            obtain ⟨hI, hrc, hf28680, hG28681, hw⟩ := hw
            dsimp only at hI hrc hB hf28680 hG28681 hw
            have hF := frCF (by decide) hG28681 hF
            rw [hrc] at hB
            have hP : va_P (dC, dI) classes (wM g c v28678 F28679 rc) H1 := hB
            have hw : ∀ j : Nat, (j : Int) < (v 14).toInt → (F28679 42 j).toInt ≠ 0 → (F 13 j).toInt = p0.toInt := hw
            have hw_r28677 := hw
            generalize H1 = H at hP hS ⊢
            refine lv_aload_n hx hb dX12_lacks_54 rfl (lv_at hl 0 rfl) ?_
            refine lv_iload_n hx hb dX12_lacks_55 rfl (lv_at hl 1 rfl) ?_
            refine lv_iload_n hx hb dX12_lacks_56 rfl (lv_at hl 2 rfl) ?_
            refine lv_iload_n hx hb dX12_lacks_57 rfl (lv_at hl 3 rfl) ?_
            refine lv_iload hx hb dX12_lacks_58 (lv_at hl 4 rfl) ?_
            refine va_calli (va_runV (As := [.int p0, .int p1, .int p2, .int p3]) (rest := []) ⟨hx, hb, hml, hown, hwd⟩ (c_X12_lacksOf l dC dI g c adK adV v28678 F28679 rc H.size p0 p1 p2 p3 hg hI (by omega) (by omega) (JL.to hL (show v28678 31 = v 31 from hf28680 31 (by decide)) (hF 28 (by decide)) (hF 29 (by decide)) (hF 27 (by decide)))) (cwV 4 hwd (gV wk_1209 wk_1206 wk_1207 wk_1208 wk_5) rfl rfl rfl (by decide +kernel) ⟨Nat.le_of_ble_eq_true rfl, Nat.le_of_ble_eq_true rfl⟩) ⟨PM.blind, va_recv hK hP (ci := 12) (q0 := 0) rfl rfl, fun U hU hW => ⟨rfl, PM.at hK hE hP hS hU hW⟩⟩ rfl rfl hl.1 rfl (lv_room (Nat.le_of_ble_eq_true rfl)) dX12_lacks_60 ⟨Nat.le_of_ble_eq_true rfl, Nat.le_of_ble_eq_true rfl⟩) hS (fun q _ h => (freeM hS) q h) (freeM hS) (fun r28682 u t H1 locs ht hvm hw hB hz1 hk1 hS => ?_)
            unfold BM at hB
            rw [ht] at hB
            obtain ⟨v28683, F28684, rc9⟩ := u
            obtain ⟨hI, hrc, hf28685, hG28686, hw⟩ := hw
            dsimp only at hI hrc hB hf28685 hG28686 hw
            have hF := frCF (by decide) hG28686 hF
            rw [hrc] at hB
            have hP : va_P (dC, dI) classes (wM g c v28683 F28684 rc) H1 := hB
            generalize H1 = H at hP hS ⊢
            have rr_r28682 := i32_rng r28682
            have hP9 : va_P (dC, dI) classes (wM g c v28683 F28684 rc) H := hP
            exact W.iret (v := r28682) hx hb hr (fun t ht hW => ⟨⟨r28682, (v28683, F28684, rc), rfl, ⟨hI, rfl, (frC (by decide) hf28685 (frC (by decide) hf28680 (fun _ _ => rfl))), hF, trivial⟩, (by show va_P _ _ _ t.heap; rw [ht]; exact hP9)⟩, hS.F ht⟩) hS.2.2 dX12_lacks_63
          · skip
            have t28687 := cv_eq (a := r28673.toInt) rfl (b := 0) (by decide) c28674
            refine lv_iconst (v := (-1)) hx hb dX12_lacks_47 (by decide) ?_
            have hP9 : va_P (dC, dI) classes (wM g c v F rc) H := hP
            exact W.iret (v := (-1)) hx hb hr (fun t ht hW => ⟨⟨(-1), (v, F, rc), rfl, ⟨hI, rfl, (fun _ _ => rfl), hF, trivial⟩, (by show va_P _ _ _ t.heap; rw [ht]; exact hP9)⟩, hS.F ht⟩) hS.2.2 dX12_lacks_48
set_option maxHeartbeats 8000000 in
set_option maxRecDepth 100000 in
theorem c_X12_costs (l : Launch) (dC : Nat → ClassId) (dI : Nat → Nat → Nat) (g : Nat → Nat) (c : Nat → ClassId) (adK adV : Nat → Nat) (v : Nat → Int32) (F : Nat → Nat → Int32) (rc sz : Nat) (p0 : Int32) (p1 : Int32) (p2 : Int32) (p3 : Int32) (hg : injM g) (hI : IM v F) (hL : JL (v 31) (F 28) (F 29) (F 27)) : Met l yX12_costs (Cond.code yX12_costs cX12_costs 5 (some .int) :: wA) ({ frames := 8, cells := 0, slots := 0, locals := 320 }) (va_Pc [.ref (g 0), .int p0, .int p1, .int p2, .int p3] (PM dC dI g c adK adV v F rc sz)) (va_Qi (fun (r : Int32) (u : StM) => IM u.1 u.2.1 ∧ u.2.2 = rc ∧ (∀ k, k ∉ ([] : List Nat) → u.1 k = v k) ∧ (∀ k, k ∉ ([30, 31, 42] : List Nat) → u.2.1 k = F k) ∧ True) (BM dC dI g c) (AM g sz)) 0 0 (AM g sz) := by
  refine Met.ofW (cc := cX12_costs) (maxL := 5) (ret := (some .int)) (by decide) rfl ?_
  intro p e s m args below meth c0 s₁ B hml hv
  obtain ⟨rfl, hsz, hP, hK, hE⟩ := hv
  have hx := B.exec
  have hb := B.bytes
  have hr := B.returns
  have hts := atoms_spec (ws := Cond.code yX12_costs cX12_costs 5 (some .int) :: wA) B.pre
  have hwd : ∀ w ∈ wA, w.before _ s = true := fun w h => hts w (List.mem_cons_of_mem _ h)
  have hown : s.vm.findClass RX12 = some m.cls := findClass_of_methodNamed B.named
  have hlocks := B.notSynchronized
  subst hsz
  have hl := lv_entry ([.ref (g 0), .int p0, .int p1, .int p2, .int p3]) (n := 5) (Nat.le_of_ble_eq_true rfl)
  rw [lg_entry_eq]
  generalize (lg_sl ([.ref (g 0), .int p0, .int p1, .int p2, .int p3]) ++ List.replicate (5 - (lg_sl ([.ref (g 0), .int p0, .int p1, .int p2, .int p3])).length) Slot.unset).toArray = ls at hl ⊢
  have hl : lv_has ls 5 [(0, .ref (g 0)), (1, .int p0), (2, .int p1), (3, .int p2), (4, .int p3)] := hl
  obtain ⟨H, eH⟩ : ∃ z, z = s.heap := ⟨_, rfl⟩
  have hP : va_P (dC, dI) classes (wM g c v F rc) H := by rw [eH]; exact hP
  have hS : va_S (AM g s.heap.size) s.heap H [] := by rw [eH]; exact va_S.rf
  refine my_heap eH ?_
  have hF : ∀ k, k ∉ ([30, 31, 42] : List Nat) → F k = F k := fun _ _ => rfl
  have rp0 := i32_rng p0
  have rp1 := i32_rng p1
  have rp2 := i32_rng p2
  have rp3 := i32_rng p3
  have hb31 : 0 ≤ (v 31).toInt ∧ (v 31).toInt ≤ 10 := hI.1 31 _ _ rfl
  refine lv_aload_n hx hb dX12_costs_0 rfl (lv_at hl 0 rfl) ?_
  refine lv_iload_n hx hb dX12_costs_1 rfl (lv_at hl 1 rfl) ?_
  have t28735 : 0 ≤ (v 6).toInt ∧ (v 6).toInt ≤ 10 := hI.1 6 _ _ rfl
  refine va_calli (va_runV (As := [.int p0]) (rest := []) ⟨hx, hb, hml, hown, hwd⟩ (c_X12_isPlane l dC dI g c adK adV v F rc H.size p0 hg hI ) (cwV 1 hwd (gV wk_305 wk_302 wk_303 wk_304 wk_5) rfl rfl rfl (by decide +kernel) ⟨Nat.le_of_ble_eq_true rfl, Nat.le_of_ble_eq_true rfl⟩) ⟨PM.blind, va_recv hK hP (ci := 12) (q0 := 0) rfl rfl, fun U hU hW => ⟨rfl, PM.at hK hE hP hS hU hW⟩⟩ rfl rfl hl.1 rfl (lv_room (Nat.le_of_ble_eq_true rfl)) dX12_costs_2 ⟨Nat.le_of_ble_eq_true rfl, Nat.le_of_ble_eq_true rfl⟩) hS (fun q _ h => (freeM hS) q h) (freeM hS) (fun r28736 u t H1 locs ht hvm hw hB hz1 hk1 hS => ?_)
  unfold BM at hB
  rw [ht] at hB
  have hP : va_P (dC, dI) classes (wM g c v F rc) H1 := hB
  have hw : (r28736.toInt = 1 ∧ 0 ≤ p0.toInt ∧ p0.toInt < (v 6).toInt) ∨ (r28736.toInt = 0 ∧ (p0.toInt < 0 ∨ (v 6).toInt ≤ p0.toInt)) := hw
  have hw_r28736 := hw
  generalize H1 = H at hP hS ⊢
  refine lv_if_eq (tgt := 47) hx hb dX12_costs_5 (by decide) (fun c28737 => ?_) (fun c28737 => ?_)
  · skip
    have t28738 := cv_eq (a := r28736.toInt) rfl (b := 0) (by decide) c28737
    refine lv_ldc (v := (-2000000000)) hx hb hown (hwd _ wk_542) dX12_costs_47 ?_
    have hP9 : va_P (dC, dI) classes (wM g c v F rc) H := hP
    exact W.iret (v := (-2000000000)) hx hb hr (fun t ht hW => ⟨⟨(-2000000000), (v, F, rc), rfl, ⟨hI, rfl, (fun _ _ => rfl), hF, trivial⟩, (by show va_P _ _ _ t.heap; rw [ht]; exact hP9)⟩, hS.F ht⟩) hS.2.2 dX12_costs_49
  · skip
    have t28739 := cv_ne (a := r28736.toInt) rfl (b := 0) (by decide) c28737
    refine lv_aload_n hx hb dX12_costs_8 rfl (lv_at hl 0 rfl) ?_
    refine lv_iload_n hx hb dX12_costs_9 rfl (lv_at hl 1 rfl) ?_
    refine va_calli (va_runV (As := [.int p0]) (rest := []) ⟨hx, hb, hml, hown, hwd⟩ (c_X12_hasContract l dC dI g c adK adV v F rc H.size p0 hg hI (by omega)) (cwV 1 hwd (gV wk_1201 wk_1198 wk_1199 wk_1200 wk_5) rfl rfl rfl (by decide +kernel) ⟨Nat.le_of_ble_eq_true rfl, Nat.le_of_ble_eq_true rfl⟩) ⟨PM.blind, va_recv hK hP (ci := 12) (q0 := 0) rfl rfl, fun U hU hW => ⟨rfl, PM.at hK hE hP hS hU hW⟩⟩ rfl rfl hl.1 rfl (lv_room (Nat.le_of_ble_eq_true rfl)) dX12_costs_10 ⟨Nat.le_of_ble_eq_true rfl, Nat.le_of_ble_eq_true rfl⟩) hS (fun q _ h => (freeM hS) q h) (freeM hS) (fun r28740 u t H1 locs ht hvm hw hB hz1 hk1 hS => ?_)
    unfold BM at hB
    rw [ht] at hB
    have hP : va_P (dC, dI) classes (wM g c v F rc) H1 := hB
    have hw : 0 ≤ r28740.toInt ∧ r28740.toInt ≤ 1 := hw
    have hw_r28740 := hw
    generalize H1 = H at hP hS ⊢
    refine lv_if_eq (tgt := 47) hx hb dX12_costs_13 (by decide) (fun c28741 => ?_) (fun c28741 => ?_)
    · skip
      have t28742 := cv_eq (a := r28740.toInt) rfl (b := 0) (by decide) c28741
      refine lv_ldc (v := (-2000000000)) hx hb hown (hwd _ wk_542) dX12_costs_47 ?_
      have hP9 : va_P (dC, dI) classes (wM g c v F rc) H := hP
      exact W.iret (v := (-2000000000)) hx hb hr (fun t ht hW => ⟨⟨(-2000000000), (v, F, rc), rfl, ⟨hI, rfl, (fun _ _ => rfl), hF, trivial⟩, (by show va_P _ _ _ t.heap; rw [ht]; exact hP9)⟩, hS.F ht⟩) hS.2.2 dX12_costs_49
    · skip
      have t28743 := cv_ne (a := r28740.toInt) rfl (b := 0) (by decide) c28741
      refine lv_iload_n hx hb dX12_costs_16 rfl (lv_at hl 2 rfl) ?_
      refine lv_iconst (v := (-1)) hx hb dX12_costs_17 (by decide) ?_
      refine lv_aload_n hx hb dX12_costs_18 rfl (lv_at hl 0 rfl) ?_
      refine va_get (D := (dC, dI)) (ci := 12) (v := .ref (g 37)) (C := RX12) (T := TX12) (N := 63) hx hb hwd inA_X12 hown hK hP 0 rfl rfl 51 (by decide) (hwd _ wk_219) (fun _ h9 => h9) rfl dX12_costs_19 ?_
      refine lv_iload_n hx hb dX12_costs_22 rfl (lv_at hl 1 rfl) ?_
      refine va_iald hx hb hK hP 37 36 rfl rfl (i := p0) (vin (a := p0.toInt) rfl (by omega)) dX12_costs_23 ?_
      refine lv_topi (fun z28744 e28745 => ?_)
      have t28746 : 0 ≤ z28744.toInt ∧ z28744.toInt ≤ 31 := by rw [e28745]; exact hI.2 37 _ _ rfl _
      refine lv_iconst (v := 1) hx hb dX12_costs_24 (by decide) ?_
      refine lv_isub hx hb dX12_costs_25 ?_
      refine lv_topi (fun z28747 e28748 => ?_)
      try (have t28749 := tsub e28748 (a := z28744.toInt) rfl (b := 1) (by decide) (by omega))
      refine va_calli (va_runS (As := [.int p1, .int (-1), .int z28747]) (rest := []) ⟨hx, hb, hml, hown, hwd⟩ (c_X12_in l dC dI g c adK adV v F rc H.size p1 (-1) z28747 hg hI ) (va_cwS 3 hwd (gT wk_254 wk_252 wk_253 wk_5) rfl rfl rfl (by decide +kernel) ⟨Nat.le_of_ble_eq_true rfl, Nat.le_of_ble_eq_true rfl⟩) ⟨PM.blind, fun U hU hW => ⟨rfl, PM.at hK hE hP hS hU hW⟩⟩ rfl rfl hl.1 rfl (lv_room (Nat.le_of_ble_eq_true rfl)) dX12_costs_26 ⟨Nat.le_of_ble_eq_true rfl, Nat.le_of_ble_eq_true rfl⟩) hS (fun q _ h => (freeM hS) q h) (freeM hS) (fun r28750 u t H1 locs ht hvm hw hB hz1 hk1 hS => ?_)
      unfold BM at hB
      rw [ht] at hB
      have hP : va_P (dC, dI) classes (wM g c v F rc) H1 := hB
      have hw : (r28750.toInt = 1 ∧ ((-1) : Int32).toInt ≤ p1.toInt ∧ p1.toInt ≤ z28747.toInt) ∨ (r28750.toInt = 0 ∧ (p1.toInt < ((-1) : Int32).toInt ∨ z28747.toInt < p1.toInt)) := hw
      have hw_r28750 := hw
      have k28751 : ((-1) : Int32).toInt = (-1) := by decide
      generalize H1 = H at hP hS ⊢
      refine lv_if_eq (tgt := 47) hx hb dX12_costs_29 (by decide) (fun c28752 => ?_) (fun c28752 => ?_)
      · skip
        have t28753 := cv_eq (a := r28750.toInt) rfl (b := 0) (by decide) c28752
        refine lv_ldc (v := (-2000000000)) hx hb hown (hwd _ wk_542) dX12_costs_47 ?_
        have hP9 : va_P (dC, dI) classes (wM g c v F rc) H := hP
        exact W.iret (v := (-2000000000)) hx hb hr (fun t ht hW => ⟨⟨(-2000000000), (v, F, rc), rfl, ⟨hI, rfl, (fun _ _ => rfl), hF, trivial⟩, (by show va_P _ _ _ t.heap; rw [ht]; exact hP9)⟩, hS.F ht⟩) hS.2.2 dX12_costs_49
      · skip
        have t28754 := cv_ne (a := r28750.toInt) rfl (b := 0) (by decide) c28752
        refine lv_iload_n hx hb dX12_costs_32 rfl (lv_at hl 3 rfl) ?_
        refine va_calli (va_runS (As := [.int p2]) (rest := []) ⟨hx, hb, hml, hown, hwd⟩ (c_X12_isDay l dC dI g c adK adV v F rc H.size p2 hg hI ) (va_cwS 1 hwd (gT wk_556 wk_554 wk_555 wk_5) rfl rfl rfl (by decide +kernel) ⟨Nat.le_of_ble_eq_true rfl, Nat.le_of_ble_eq_true rfl⟩) ⟨PM.blind, fun U hU hW => ⟨rfl, PM.at hK hE hP hS hU hW⟩⟩ rfl rfl hl.1 rfl (lv_room (Nat.le_of_ble_eq_true rfl)) dX12_costs_33 ⟨Nat.le_of_ble_eq_true rfl, Nat.le_of_ble_eq_true rfl⟩) hS (fun q _ h => (freeM hS) q h) (freeM hS) (fun r28755 u t H1 locs ht hvm hw hB hz1 hk1 hS => ?_)
        unfold BM at hB
        rw [ht] at hB
        have hP : va_P (dC, dI) classes (wM g c v F rc) H1 := hB
        have hw : (r28755.toInt = 1 ∧ 0 ≤ p2.toInt ∧ p2.toInt ≤ 9999) ∨ (r28755.toInt = 0 ∧ (p2.toInt < 0 ∨ 9999 < p2.toInt)) := hw
        have hw_r28755 := hw
        generalize H1 = H at hP hS ⊢
        refine lv_if_eq (tgt := 47) hx hb dX12_costs_36 (by decide) (fun c28756 => ?_) (fun c28756 => ?_)
        · skip
          have t28757 := cv_eq (a := r28755.toInt) rfl (b := 0) (by decide) c28756
          refine lv_ldc (v := (-2000000000)) hx hb hown (hwd _ wk_542) dX12_costs_47 ?_
          have hP9 : va_P (dC, dI) classes (wM g c v F rc) H := hP
          exact W.iret (v := (-2000000000)) hx hb hr (fun t ht hW => ⟨⟨(-2000000000), (v, F, rc), rfl, ⟨hI, rfl, (fun _ _ => rfl), hF, trivial⟩, (by show va_P _ _ _ t.heap; rw [ht]; exact hP9)⟩, hS.F ht⟩) hS.2.2 dX12_costs_49
        · skip
          have t28758 := cv_ne (a := r28755.toInt) rfl (b := 0) (by decide) c28756
          refine lv_iload hx hb dX12_costs_39 (lv_at hl 4 rfl) ?_
          refine va_calli (va_runS (As := [.int p3]) (rest := []) ⟨hx, hb, hml, hown, hwd⟩ (c_X12_isDay l dC dI g c adK adV v F rc H.size p3 hg hI ) (va_cwS 1 hwd (gT wk_556 wk_554 wk_555 wk_5) rfl rfl rfl (by decide +kernel) ⟨Nat.le_of_ble_eq_true rfl, Nat.le_of_ble_eq_true rfl⟩) ⟨PM.blind, fun U hU hW => ⟨rfl, PM.at hK hE hP hS hU hW⟩⟩ rfl rfl hl.1 rfl (lv_room (Nat.le_of_ble_eq_true rfl)) dX12_costs_41 ⟨Nat.le_of_ble_eq_true rfl, Nat.le_of_ble_eq_true rfl⟩) hS (fun q _ h => (freeM hS) q h) (freeM hS) (fun r28759 u t H1 locs ht hvm hw hB hz1 hk1 hS => ?_)
          unfold BM at hB
          rw [ht] at hB
          have hP : va_P (dC, dI) classes (wM g c v F rc) H1 := hB
          have hw : (r28759.toInt = 1 ∧ 0 ≤ p3.toInt ∧ p3.toInt ≤ 9999) ∨ (r28759.toInt = 0 ∧ (p3.toInt < 0 ∨ 9999 < p3.toInt)) := hw
          have hw_r28759 := hw
          generalize H1 = H at hP hS ⊢
          refine lv_if_ne (tgt := 50) hx hb dX12_costs_44 (by decide) (fun c28760 => ?_) (fun c28760 => ?_)
          · skip
            have t28761 := cv_ne (a := r28759.toInt) rfl (b := 0) (by decide) c28760
            refine lv_aload_n hx hb dX12_costs_50 rfl (lv_at hl 0 rfl) ?_
            refine lv_iload_n hx hb dX12_costs_51 rfl (lv_at hl 1 rfl) ?_
            have t28762 : 0 ≤ (v 14).toInt ∧ (v 14).toInt ≤ 100 := hI.1 14 _ _ rfl
            refine va_callv (va_runV (As := [.int p0]) (rest := []) ⟨hx, hb, hml, hown, hwd⟩ (c_X12_board l dC dI g c adK adV v F rc H.size p0 hg hI ) (cwV 1 hwd (gV wk_1205 wk_1202 wk_1203 wk_1204 wk_5) rfl rfl rfl (by decide +kernel) ⟨Nat.le_of_ble_eq_true rfl, Nat.le_of_ble_eq_true rfl⟩) ⟨PM.blind, va_recv hK hP (ci := 12) (q0 := 0) rfl rfl, fun U hU hW => ⟨rfl, PM.at hK hE hP hS hU hW⟩⟩ rfl rfl hl.1 rfl (lv_room (Nat.le_of_ble_eq_true rfl)) dX12_costs_52 ⟨Nat.le_of_ble_eq_true rfl, Nat.le_of_ble_eq_true rfl⟩) hS (fun q _ h => (freeM hS) q h) (freeM hS) (fun u t H1 locs ht hvm hw hB hz1 hk1 hS => ?_)
            unfold BM at hB
            rw [ht] at hB
            obtain ⟨v28764, F28765, rc9⟩ := u
            obtain ⟨hI, hrc, hf28766, hG28767, hw⟩ := hw
            dsimp only at hI hrc hB hf28766 hG28767 hw
            have hF := frCF (by decide) hG28767 hF
            rw [hrc] at hB
            have hP : va_P (dC, dI) classes (wM g c v28764 F28765 rc) H1 := hB
            have hw : ∀ j : Nat, (j : Int) < (v 14).toInt → (F28765 42 j).toInt ≠ 0 → (F 13 j).toInt = p0.toInt := hw
            have hw_r28763 := hw
            generalize H1 = H at hP hS ⊢
            refine lv_iload_n hx hb dX12_costs_55 rfl (lv_at hl 2 rfl) ?_
            refine lv_if_ge (tgt := 70) hx hb dX12_costs_56 (by decide) (fun c28768 => ?_) (fun c28768 => ?_)
            · skip
              have t28769 := cv_le (a := 0) (by decide) (b := p1.toInt) rfl c28768
              refine lv_aload_n hx hb dX12_costs_70 rfl (lv_at hl 0 rfl) ?_
              refine lv_iload_n hx hb dX12_costs_71 rfl (lv_at hl 1 rfl) ?_
              refine lv_iload_n hx hb dX12_costs_72 rfl (lv_at hl 2 rfl) ?_
              refine lv_iload_n hx hb dX12_costs_73 rfl (lv_at hl 3 rfl) ?_
              refine lv_iload hx hb dX12_costs_74 (lv_at hl 4 rfl) ?_
              refine va_calli (va_runV (As := [.int p0, .int p1, .int p2, .int p3]) (rest := []) ⟨hx, hb, hml, hown, hwd⟩ (c_X12_costOf l dC dI g c adK adV v28764 F28765 rc H.size p0 p1 p2 p3 hg hI (by omega) (by omega) (JL.to hL (show v28764 31 = v 31 from hf28766 31 (by decide)) (hF 28 (by decide)) (hF 29 (by decide)) (hF 27 (by decide)))) (cwV 4 hwd (gV wk_1251 wk_1248 wk_1249 wk_1250 wk_5) rfl rfl rfl (by decide +kernel) ⟨Nat.le_of_ble_eq_true rfl, Nat.le_of_ble_eq_true rfl⟩) ⟨PM.blind, va_recv hK hP (ci := 12) (q0 := 0) rfl rfl, fun U hU hW => ⟨rfl, PM.at hK hE hP hS hU hW⟩⟩ rfl rfl hl.1 rfl (lv_room (Nat.le_of_ble_eq_true rfl)) dX12_costs_76 ⟨Nat.le_of_ble_eq_true rfl, Nat.le_of_ble_eq_true rfl⟩) hS (fun q _ h => (freeM hS) q h) (freeM hS) (fun r28770 u t H1 locs ht hvm hw hB hz1 hk1 hS => ?_)
              unfold BM at hB
              rw [ht] at hB
              obtain ⟨v28771, F28772, rc9⟩ := u
              obtain ⟨hI, hrc, hf28773, hG28774, hw⟩ := hw
              dsimp only at hI hrc hB hf28773 hG28774 hw
              have hF := frCF (by decide) hG28774 hF
              rw [hrc] at hB
              have hP : va_P (dC, dI) classes (wM g c v28771 F28772 rc) H1 := hB
              generalize H1 = H at hP hS ⊢
              have rr_r28770 := i32_rng r28770
              have hP9 : va_P (dC, dI) classes (wM g c v28771 F28772 rc) H := hP
              exact W.iret (v := r28770) hx hb hr (fun t ht hW => ⟨⟨r28770, (v28771, F28772, rc), rfl, ⟨hI, rfl, (frC (by decide) hf28773 (frC (by decide) hf28766 (fun _ _ => rfl))), hF, trivial⟩, (by show va_P _ _ _ t.heap; rw [ht]; exact hP9)⟩, hS.F ht⟩) hS.2.2 dX12_costs_79
            · skip
              have t28775 := cv_nle (a := 0) (by decide) (b := p1.toInt) rfl c28768
              refine lv_aload_n hx hb dX12_costs_59 rfl (lv_at hl 0 rfl) ?_
              refine lv_iload_n hx hb dX12_costs_60 rfl (lv_at hl 1 rfl) ?_
              refine lv_iload_n hx hb dX12_costs_61 rfl (lv_at hl 3 rfl) ?_
              refine lv_iload hx hb dX12_costs_62 (lv_at hl 4 rfl) ?_
              refine va_calli (va_runV (As := [.int p0, .int p2, .int p3]) (rest := []) ⟨hx, hb, hml, hown, hwd⟩ (c_X12_costOfAll l dC dI g c adK adV v28764 F28765 rc H.size p0 p2 p3 hg hI (by omega) (JL.to hL (show v28764 31 = v 31 from hf28766 31 (by decide)) (hF 28 (by decide)) (hF 29 (by decide)) (hF 27 (by decide)))) (cwV 3 hwd (gV wk_1247 wk_1244 wk_1245 wk_1246 wk_5) rfl rfl rfl (by decide +kernel) ⟨Nat.le_of_ble_eq_true rfl, Nat.le_of_ble_eq_true rfl⟩) ⟨PM.blind, va_recv hK hP (ci := 12) (q0 := 0) rfl rfl, fun U hU hW => ⟨rfl, PM.at hK hE hP hS hU hW⟩⟩ rfl rfl hl.1 rfl (lv_room (Nat.le_of_ble_eq_true rfl)) dX12_costs_64 ⟨Nat.le_of_ble_eq_true rfl, Nat.le_of_ble_eq_true rfl⟩) hS (fun q _ h => (freeM hS) q h) (freeM hS) (fun r28776 u t H1 locs ht hvm hw hB hz1 hk1 hS => ?_)
              unfold BM at hB
              rw [ht] at hB
              obtain ⟨v28777, F28778, rc9⟩ := u
              obtain ⟨hI, hrc, hf28779, hG28780, hw⟩ := hw
              dsimp only at hI hrc hB hf28779 hG28780 hw
              have hF := frCF (by decide) hG28780 hF
              rw [hrc] at hB
              have hP : va_P (dC, dI) classes (wM g c v28777 F28778 rc) H1 := hB
              generalize H1 = H at hP hS ⊢
              have rr_r28776 := i32_rng r28776
              refine lv_goto (tgt := 79) hx hb dX12_costs_67 (by decide) ?_
              have hP9 : va_P (dC, dI) classes (wM g c v28777 F28778 rc) H := hP
              exact W.iret (v := r28776) hx hb hr (fun t ht hW => ⟨⟨r28776, (v28777, F28778, rc), rfl, ⟨hI, rfl, (frC (by decide) hf28779 (frC (by decide) hf28766 (fun _ _ => rfl))), hF, trivial⟩, (by show va_P _ _ _ t.heap; rw [ht]; exact hP9)⟩, hS.F ht⟩) hS.2.2 dX12_costs_79
          · skip
            have t28781 := cv_eq (a := r28759.toInt) rfl (b := 0) (by decide) c28760
            refine lv_ldc (v := (-2000000000)) hx hb hown (hwd _ wk_542) dX12_costs_47 ?_
            have hP9 : va_P (dC, dI) classes (wM g c v F rc) H := hP
            exact W.iret (v := (-2000000000)) hx hb hr (fun t ht hW => ⟨⟨(-2000000000), (v, F, rc), rfl, ⟨hI, rfl, (fun _ _ => rfl), hF, trivial⟩, (by show va_P _ _ _ t.heap; rw [ht]; exact hP9)⟩, hS.F ht⟩) hS.2.2 dX12_costs_49
set_option maxHeartbeats 8000000 in
set_option maxRecDepth 100000 in
theorem c_X12_count (l : Launch) (dC : Nat → ClassId) (dI : Nat → Nat → Nat) (g : Nat → Nat) (c : Nat → ClassId) (adK adV : Nat → Nat) (v : Nat → Int32) (F : Nat → Nat → Int32) (rc sz : Nat) (p0 : Int32) (hg : injM g) (hI : IM v F) : Met l yX12_count (Cond.code yX12_count cX12_count 4 (some .int) :: wA) ({ frames := 2, cells := 0, slots := 0, locals := 80 }) (va_Pc [.ref (g 0), .int p0] (PM dC dI g c adK adV v F rc sz)) (va_Qi (fun (r : Int32) (u : Unit) => True) (fun (_ : Unit) => BM dC dI g c (v, F, rc)) (AM g sz)) 0 0 (AM g sz) := by
  refine Met.ofW (cc := cX12_count) (maxL := 4) (ret := (some .int)) (by decide) rfl ?_
  intro p e s m args below meth c0 s₁ B hml hv
  obtain ⟨rfl, hsz, hP, hK, hE⟩ := hv
  have hx := B.exec
  have hb := B.bytes
  have hr := B.returns
  have hts := atoms_spec (ws := Cond.code yX12_count cX12_count 4 (some .int) :: wA) B.pre
  have hwd : ∀ w ∈ wA, w.before _ s = true := fun w h => hts w (List.mem_cons_of_mem _ h)
  have hown : s.vm.findClass RX12 = some m.cls := findClass_of_methodNamed B.named
  have hlocks := B.notSynchronized
  subst hsz
  have hl := lv_entry ([.ref (g 0), .int p0]) (n := 4) (Nat.le_of_ble_eq_true rfl)
  rw [lg_entry_eq]
  generalize (lg_sl ([.ref (g 0), .int p0]) ++ List.replicate (4 - (lg_sl ([.ref (g 0), .int p0])).length) Slot.unset).toArray = ls at hl ⊢
  have hl : lv_has ls 4 [(0, .ref (g 0)), (1, .int p0)] := hl
  obtain ⟨H, eH⟩ : ∃ z, z = s.heap := ⟨_, rfl⟩
  have hP : va_P (dC, dI) classes (wM g c v F rc) H := by rw [eH]; exact hP
  have hS : va_S (AM g s.heap.size) s.heap H [] := by rw [eH]; exact va_S.rf
  refine my_heap eH ?_
  have rp0 := i32_rng p0
  refine lv_iconst (v := 0) hx hb dX12_count_0 (by decide) ?_
  refine lv_istore_n (lv' := [(2, .int 0), (0, .ref (g 0)), (1, .int p0)]) hx hb dX12_count_1 rfl hl (by decide) rfl (fun ls hl => ?_)
  refine lv_iload_n hx hb dX12_count_2 rfl (lv_at hl 2 rfl) ?_
  by_cases hlo28782 : p0.toInt < 0
  · refine lv_tableOut (tgt := 168) hx hb dX12_count_3 (Or.inl hlo28782) (by decide) ?_
    refine lv_iconst (v := (-1)) hx hb dX12_count_168 (by decide) ?_
    have hP9 : va_P (dC, dI) classes (wM g c v F rc) H := hP
    exact W.iret (v := (-1)) hx hb hr (fun t ht hW => ⟨⟨(-1), (), rfl, trivial, (by show va_P _ _ _ t.heap; rw [ht]; exact hP9)⟩, hS.F ht⟩) hS.2.2 dX12_count_169
  by_cases hhi28783 : 12 < p0.toInt
  · refine lv_tableOut (tgt := 168) hx hb dX12_count_3 (Or.inr hhi28783) (by decide) ?_
    refine lv_iconst (v := (-1)) hx hb dX12_count_168 (by decide) ?_
    have hP9 : va_P (dC, dI) classes (wM g c v F rc) H := hP
    exact W.iret (v := (-1)) hx hb hr (fun t ht hW => ⟨⟨(-1), (), rfl, trivial, (by show va_P _ _ _ t.heap; rw [ht]; exact hP9)⟩, hS.F ht⟩) hS.2.2 dX12_count_169
  rcases (show p0.toInt = 0 ∨ p0.toInt = 1 ∨ p0.toInt = 2 ∨ p0.toInt = 3 ∨ p0.toInt = 4 ∨ p0.toInt = 5 ∨ p0.toInt = 6 ∨ p0.toInt = 7 ∨ p0.toInt = 8 ∨ p0.toInt = 9 ∨ p0.toInt = 10 ∨ p0.toInt = 11 ∨ p0.toInt = 12 by omega) with hk | hk | hk | hk | hk | hk | hk | hk | hk | hk | hk | hk | hk
  · refine lv_tableIn (off := 65) (tgt := 68) hx hb dX12_count_3 hlo28782 hhi28783 (by rw [hk]; decide) (by decide) ?_
    refine lv_aload_n hx hb dX12_count_68 rfl (lv_at hl 1 rfl) ?_
    refine va_get (D := (dC, dI)) (ci := 12) (v := .int (v 2)) (C := RX12) (T := TX12) (N := 63) hx hb hwd inA_X12 hown hK hP 0 rfl rfl 2 (by decide) (hwd _ wk_251) (fun _ h9 => h9) rfl dX12_count_69 ?_
    have t28784 : 0 ≤ (v 2).toInt ∧ (v 2).toInt ≤ 10 := hI.1 2 _ _ rfl
    have hP9 : va_P (dC, dI) classes (wM g c v F rc) H := hP
    exact W.iret (v := v 2) hx hb hr (fun t ht hW => ⟨⟨(v 2), (), rfl, trivial, (by show va_P _ _ _ t.heap; rw [ht]; exact hP9)⟩, hS.F ht⟩) hS.2.2 dX12_count_72
  · refine lv_tableIn (off := 70) (tgt := 73) hx hb dX12_count_3 hlo28782 hhi28783 (by rw [hk]; decide) (by decide) ?_
    refine lv_aload_n hx hb dX12_count_73 rfl (lv_at hl 1 rfl) ?_
    refine va_get (D := (dC, dI)) (ci := 12) (v := .int (v 6)) (C := RX12) (T := TX12) (N := 63) hx hb hwd inA_X12 hown hK hP 0 rfl rfl 6 (by decide) (hwd _ wk_268) (fun _ h9 => h9) rfl dX12_count_74 ?_
    have t28785 : 0 ≤ (v 6).toInt ∧ (v 6).toInt ≤ 10 := hI.1 6 _ _ rfl
    have hP9 : va_P (dC, dI) classes (wM g c v F rc) H := hP
    exact W.iret (v := v 6) hx hb hr (fun t ht hW => ⟨⟨(v 6), (), rfl, trivial, (by show va_P _ _ _ t.heap; rw [ht]; exact hP9)⟩, hS.F ht⟩) hS.2.2 dX12_count_77
  · refine lv_tableIn (off := 75) (tgt := 78) hx hb dX12_count_3 hlo28782 hhi28783 (by rw [hk]; decide) (by decide) ?_
    refine lv_aload_n hx hb dX12_count_78 rfl (lv_at hl 1 rfl) ?_
    refine va_get (D := (dC, dI)) (ci := 12) (v := .int (v 14)) (C := RX12) (T := TX12) (N := 63) hx hb hwd inA_X12 hown hK hP 0 rfl rfl 14 (by decide) (hwd _ wk_318) (fun _ h9 => h9) rfl dX12_count_79 ?_
    have t28786 : 0 ≤ (v 14).toInt ∧ (v 14).toInt ≤ 100 := hI.1 14 _ _ rfl
    have hP9 : va_P (dC, dI) classes (wM g c v F rc) H := hP
    exact W.iret (v := v 14) hx hb hr (fun t ht hW => ⟨⟨(v 14), (), rfl, trivial, (by show va_P _ _ _ t.heap; rw [ht]; exact hP9)⟩, hS.F ht⟩) hS.2.2 dX12_count_82
  · refine lv_tableIn (off := 80) (tgt := 83) hx hb dX12_count_3 hlo28782 hhi28783 (by rw [hk]; decide) (by decide) ?_
    refine lv_aload_n hx hb dX12_count_83 rfl (lv_at hl 1 rfl) ?_
    refine va_get (D := (dC, dI)) (ci := 12) (v := .int (v 1)) (C := RX12) (T := TX12) (N := 63) hx hb hwd inA_X12 hown hK hP 0 rfl rfl 1 (by decide) (hwd _ wk_332) (fun _ h9 => h9) rfl dX12_count_84 ?_
    have t28787 : 0 ≤ (v 1).toInt ∧ (v 1).toInt ≤ 9999 := hI.1 1 _ _ rfl
    have hP9 : va_P (dC, dI) classes (wM g c v F rc) H := hP
    exact W.iret (v := v 1) hx hb hr (fun t ht hW => ⟨⟨(v 1), (), rfl, trivial, (by show va_P _ _ _ t.heap; rw [ht]; exact hP9)⟩, hS.F ht⟩) hS.2.2 dX12_count_87
  · refine lv_tableIn (off := 85) (tgt := 88) hx hb dX12_count_3 hlo28782 hhi28783 (by rw [hk]; decide) (by decide) ?_
    refine lv_aload_n hx hb dX12_count_88 rfl (lv_at hl 1 rfl) ?_
    refine va_get (D := (dC, dI)) (ci := 12) (v := .int (v 31)) (C := RX12) (T := TX12) (N := 63) hx hb hwd inA_X12 hown hK hP 0 rfl rfl 31 (by decide) (hwd _ wk_505) (fun _ h9 => h9) rfl dX12_count_89 ?_
    have t28788 : 0 ≤ (v 31).toInt ∧ (v 31).toInt ≤ 10 := hI.1 31 _ _ rfl
    have hP9 : va_P (dC, dI) classes (wM g c v F rc) H := hP
    exact W.iret (v := v 31) hx hb hr (fun t ht hW => ⟨⟨(v 31), (), rfl, trivial, (by show va_P _ _ _ t.heap; rw [ht]; exact hP9)⟩, hS.F ht⟩) hS.2.2 dX12_count_92
  · refine lv_tableIn (off := 90) (tgt := 93) hx hb dX12_count_3 hlo28782 hhi28783 (by rw [hk]; decide) (by decide) ?_
    refine lv_aload_n hx hb dX12_count_93 rfl (lv_at hl 1 rfl) ?_
    refine va_get (D := (dC, dI)) (ci := 12) (v := .int (v 45)) (C := RX12) (T := TX12) (N := 63) hx hb hwd inA_X12 hown hK hP 0 rfl rfl 45 (by decide) (hwd _ wk_485) (fun _ h9 => h9) rfl dX12_count_94 ?_
    have t28789 : 0 ≤ (v 45).toInt ∧ (v 45).toInt ≤ 20 := hI.1 45 _ _ rfl
    have hP9 : va_P (dC, dI) classes (wM g c v F rc) H := hP
    exact W.iret (v := v 45) hx hb hr (fun t ht hW => ⟨⟨(v 45), (), rfl, trivial, (by show va_P _ _ _ t.heap; rw [ht]; exact hP9)⟩, hS.F ht⟩) hS.2.2 dX12_count_97
  · refine lv_tableIn (off := 95) (tgt := 98) hx hb dX12_count_3 hlo28782 hhi28783 (by rw [hk]; decide) (by decide) ?_
    refine lv_aload_n hx hb dX12_count_98 rfl (lv_at hl 1 rfl) ?_
    refine va_get (D := (dC, dI)) (ci := 12) (v := .int (v 19)) (C := RX12) (T := TX12) (N := 63) hx hb hwd inA_X12 hown hK hP 0 rfl rfl 19 (by decide) (hwd _ wk_494) (fun _ h9 => h9) rfl dX12_count_99 ?_
    have t28790 : 0 ≤ (v 19).toInt ∧ (v 19).toInt ≤ 500 := hI.1 19 _ _ rfl
    have hP9 : va_P (dC, dI) classes (wM g c v F rc) H := hP
    exact W.iret (v := v 19) hx hb hr (fun t ht hW => ⟨⟨(v 19), (), rfl, trivial, (by show va_P _ _ _ t.heap; rw [ht]; exact hP9)⟩, hS.F ht⟩) hS.2.2 dX12_count_102
  · refine lv_tableIn (off := 100) (tgt := 103) hx hb dX12_count_3 hlo28782 hhi28783 (by rw [hk]; decide) (by decide) ?_
    refine lv_aload_n hx hb dX12_count_103 rfl (lv_at hl 1 rfl) ?_
    refine va_get (D := (dC, dI)) (ci := 12) (v := .int (v 30)) (C := RX12) (T := TX12) (N := 63) hx hb hwd inA_X12 hown hK hP 0 rfl rfl 30 (by decide) (hwd _ wk_839) (fun _ h9 => h9) rfl dX12_count_104 ?_
    have t28791 : 0 ≤ (v 30).toInt ∧ (v 30).toInt ≤ 120 := hI.1 30 _ _ rfl
    have hP9 : va_P (dC, dI) classes (wM g c v F rc) H := hP
    exact W.iret (v := v 30) hx hb hr (fun t ht hW => ⟨⟨(v 30), (), rfl, trivial, (by show va_P _ _ _ t.heap; rw [ht]; exact hP9)⟩, hS.F ht⟩) hS.2.2 dX12_count_107
  · refine lv_tableIn (off := 105) (tgt := 108) hx hb dX12_count_3 hlo28782 hhi28783 (by rw [hk]; decide) (by decide) ?_
    refine lv_aload_n hx hb dX12_count_108 rfl (lv_at hl 1 rfl) ?_
    refine lv_bipush (v := 12) hx hb dX12_count_109 (by decide) ?_
    refine va_calli (va_runV (As := [.int 12]) (rest := []) ⟨hx, hb, hml, hown, hwd⟩ (c_X12_partsAt l dC dI g c adK adV v F rc H.size 12 hg hI ) (cwV 1 hwd (gV wk_1436 wk_1433 wk_1434 wk_1435 wk_5) rfl rfl rfl (by decide +kernel) ⟨Nat.le_of_ble_eq_true rfl, Nat.le_of_ble_eq_true rfl⟩) ⟨PM.blind, va_recv hK hP (ci := 12) (q0 := 0) rfl rfl, fun U hU hW => ⟨rfl, PM.at hK hE hP hS hU hW⟩⟩ rfl rfl hl.1 rfl (lv_room (Nat.le_of_ble_eq_true rfl)) dX12_count_111 ⟨Nat.le_of_ble_eq_true rfl, Nat.le_of_ble_eq_true rfl⟩) hS (fun q _ h => (freeM hS) q h) (freeM hS) (fun r28792 u t H1 locs ht hvm hw hB hz1 hk1 hS => ?_)
    unfold BM at hB
    rw [ht] at hB
    have hP : va_P (dC, dI) classes (wM g c v F rc) H1 := hB
    generalize H1 = H at hP hS ⊢
    have rr_r28792 := i32_rng r28792
    have hP9 : va_P (dC, dI) classes (wM g c v F rc) H := hP
    exact W.iret (v := r28792) hx hb hr (fun t ht hW => ⟨⟨r28792, (), rfl, trivial, (by show va_P _ _ _ t.heap; rw [ht]; exact hP9)⟩, hS.F ht⟩) hS.2.2 dX12_count_114
  · refine lv_tableIn (off := 112) (tgt := 115) hx hb dX12_count_3 hlo28782 hhi28783 (by rw [hk]; decide) (by decide) ?_
    refine lv_aload_n hx hb dX12_count_115 rfl (lv_at hl 1 rfl) ?_
    refine lv_bipush (v := 11) hx hb dX12_count_116 (by decide) ?_
    refine va_calli (va_runV (As := [.int 11]) (rest := []) ⟨hx, hb, hml, hown, hwd⟩ (c_X12_partsAt l dC dI g c adK adV v F rc H.size 11 hg hI ) (cwV 1 hwd (gV wk_1436 wk_1433 wk_1434 wk_1435 wk_5) rfl rfl rfl (by decide +kernel) ⟨Nat.le_of_ble_eq_true rfl, Nat.le_of_ble_eq_true rfl⟩) ⟨PM.blind, va_recv hK hP (ci := 12) (q0 := 0) rfl rfl, fun U hU hW => ⟨rfl, PM.at hK hE hP hS hU hW⟩⟩ rfl rfl hl.1 rfl (lv_room (Nat.le_of_ble_eq_true rfl)) dX12_count_118 ⟨Nat.le_of_ble_eq_true rfl, Nat.le_of_ble_eq_true rfl⟩) hS (fun q _ h => (freeM hS) q h) (freeM hS) (fun r28793 u t H1 locs ht hvm hw hB hz1 hk1 hS => ?_)
    unfold BM at hB
    rw [ht] at hB
    have hP : va_P (dC, dI) classes (wM g c v F rc) H1 := hB
    generalize H1 = H at hP hS ⊢
    have rr_r28793 := i32_rng r28793
    have hP9 : va_P (dC, dI) classes (wM g c v F rc) H := hP
    exact W.iret (v := r28793) hx hb hr (fun t ht hW => ⟨⟨r28793, (), rfl, trivial, (by show va_P _ _ _ t.heap; rw [ht]; exact hP9)⟩, hS.F ht⟩) hS.2.2 dX12_count_121
  · refine lv_tableIn (off := 119) (tgt := 122) hx hb dX12_count_3 hlo28782 hhi28783 (by rw [hk]; decide) (by decide) ?_
    refine lv_aload_n hx hb dX12_count_122 rfl (lv_at hl 1 rfl) ?_
    refine lv_bipush (v := 10) hx hb dX12_count_123 (by decide) ?_
    refine va_calli (va_runV (As := [.int 10]) (rest := []) ⟨hx, hb, hml, hown, hwd⟩ (c_X12_partsAt l dC dI g c adK adV v F rc H.size 10 hg hI ) (cwV 1 hwd (gV wk_1436 wk_1433 wk_1434 wk_1435 wk_5) rfl rfl rfl (by decide +kernel) ⟨Nat.le_of_ble_eq_true rfl, Nat.le_of_ble_eq_true rfl⟩) ⟨PM.blind, va_recv hK hP (ci := 12) (q0 := 0) rfl rfl, fun U hU hW => ⟨rfl, PM.at hK hE hP hS hU hW⟩⟩ rfl rfl hl.1 rfl (lv_room (Nat.le_of_ble_eq_true rfl)) dX12_count_125 ⟨Nat.le_of_ble_eq_true rfl, Nat.le_of_ble_eq_true rfl⟩) hS (fun q _ h => (freeM hS) q h) (freeM hS) (fun r28794 u t H1 locs ht hvm hw hB hz1 hk1 hS => ?_)
    unfold BM at hB
    rw [ht] at hB
    have hP : va_P (dC, dI) classes (wM g c v F rc) H1 := hB
    generalize H1 = H at hP hS ⊢
    have rr_r28794 := i32_rng r28794
    have hP9 : va_P (dC, dI) classes (wM g c v F rc) H := hP
    exact W.iret (v := r28794) hx hb hr (fun t ht hW => ⟨⟨r28794, (), rfl, trivial, (by show va_P _ _ _ t.heap; rw [ht]; exact hP9)⟩, hS.F ht⟩) hS.2.2 dX12_count_128
  · refine lv_tableIn (off := 126) (tgt := 129) hx hb dX12_count_3 hlo28782 hhi28783 (by rw [hk]; decide) (by decide) ?_
    refine lv_iconst (v := 0) hx hb dX12_count_129 (by decide) ?_
    refine lv_istore_n (lv' := [(3, .int 0), (2, .int 0), (0, .ref (g 0)), (1, .int p0)]) hx hb dX12_count_130 rfl hl (by decide) rfl (fun ls hl => ?_)
    have lp28795 : ∀ (n : Nat) (x3_lp28795 : Int32) (x2_lp28795 : Int32) (H : Heap) (locs : List Loc) (ls : Array Slot), (0 ≤ x3_lp28795.toInt) → (2147483648 - x3_lp28795.toInt ≤ (n : Int)) → va_P (dC, dI) classes (wM g c v F rc) H → va_S (AM g s.heap.size) s.heap H locs → lv_has ls 4 [(3, .int x3_lp28795), (2, .int x2_lp28795), (0, .ref (g 0)), (1, .int p0)] → W p l e (headSpec (Cond.code yX12_count cX12_count 4 (some .int) :: wA) ({ frames := 2, cells := 0, slots := 0, locals := 80 })).room s m ([.ref (g 0), .int p0] : List Value).toArray below meth c0 H locs 0 0 (MQ below (va_Qi (fun (r : Int32) (u : Unit) => True) (fun (_ : Unit) => BM dC dI g c (v, F, rc)) (AM g s.heap.size)) ([.ref (g 0), .int p0] : List Value).toArray s 0 0 (AM g s.heap.size)) (F0 m 131 ls []) := by
      intro n
      induction n with
      | zero =>
        intro x3_lp28795 x2_lp28795 H locs ls t28796 hm hP hS hl
        exfalso
        have := i32_rng x3_lp28795
        have := i32_rng x2_lp28795
        omega
      | succ n ih_lp28795 =>
        intro x3_lp28795 x2_lp28795 H locs ls t28796 hm hP hS hl
        have rx3_lp28795 := i32_rng x3_lp28795
        have rx2_lp28795 := i32_rng x2_lp28795
        refine lv_iload_n hx hb dX12_count_131 rfl (lv_at hl 0 rfl) ?_
        refine lv_aload_n hx hb dX12_count_132 rfl (lv_at hl 2 rfl) ?_
        refine va_get (D := (dC, dI)) (ci := 12) (v := .int (v 6)) (C := RX12) (T := TX12) (N := 63) hx hb hwd inA_X12 hown hK hP 0 rfl rfl 6 (by decide) (hwd _ wk_268) (fun _ h9 => h9) rfl dX12_count_133 ?_
        have t28797 : 0 ≤ (v 6).toInt ∧ (v 6).toInt ≤ 10 := hI.1 6 _ _ rfl
        refine lv_icmp_ge (tgt := 161) hx hb dX12_count_136 (by decide) (fun c28798 => ?_) (fun c28798 => ?_)
        · skip
          have t28799 := cv_le (a := (v 6).toInt) rfl (b := x3_lp28795.toInt) rfl c28798
          refine lv_iload_n hx hb dX12_count_161 rfl (lv_at hl 1 rfl) ?_
          have hP9 : va_P (dC, dI) classes (wM g c v F rc) H := hP
          exact W.iret (v := x2_lp28795) hx hb hr (fun t ht hW => ⟨⟨x2_lp28795, (), rfl, trivial, (by show va_P _ _ _ t.heap; rw [ht]; exact hP9)⟩, hS.F ht⟩) hS.2.2 dX12_count_162
        · skip
          have t28800 := cv_nle (a := (v 6).toInt) rfl (b := x3_lp28795.toInt) rfl c28798
          refine lv_iload_n hx hb dX12_count_139 rfl (lv_at hl 1 rfl) ?_
          refine lv_aload_n hx hb dX12_count_140 rfl (lv_at hl 2 rfl) ?_
          refine lv_iload_n hx hb dX12_count_141 rfl (lv_at hl 0 rfl) ?_
          refine va_calli (va_runV (As := [.int x3_lp28795]) (rest := [.int x2_lp28795]) ⟨hx, hb, hml, hown, hwd⟩ (c_X12_isReturned l dC dI g c adK adV v F rc H.size x3_lp28795 hg hI (by omega)) (cwV 1 hwd (gV wk_313 wk_310 wk_311 wk_312 wk_5) rfl rfl rfl (by decide +kernel) ⟨Nat.le_of_ble_eq_true rfl, Nat.le_of_ble_eq_true rfl⟩) ⟨PM.blind, va_recv hK hP (ci := 12) (q0 := 0) rfl rfl, fun U hU hW => ⟨rfl, PM.at hK hE hP hS hU hW⟩⟩ rfl rfl hl.1 rfl (lv_room (Nat.le_of_ble_eq_true rfl)) dX12_count_142 ⟨Nat.le_of_ble_eq_true rfl, Nat.le_of_ble_eq_true rfl⟩) hS (fun q _ h => (freeM hS) q h) (freeM hS) (fun r28801 u t H1 locs ht hvm hw hB hz1 hk1 hS => ?_)
          unfold BM at hB
          rw [ht] at hB
          have hP : va_P (dC, dI) classes (wM g c v F rc) H1 := hB
          have hw : 0 ≤ r28801.toInt ∧ r28801.toInt ≤ 1 := hw
          have hw_r28801 := hw
          generalize H1 = H at hP hS ⊢
          refine lv_if_eq (tgt := 152) hx hb dX12_count_145 (by decide) (fun c28802 => ?_) (fun c28802 => ?_)
          · skip
            have t28803 := cv_eq (a := r28801.toInt) rfl (b := 0) (by decide) c28802
            refine lv_iconst (v := 0) hx hb dX12_count_152 (by decide) ?_
            refine lv_iadd hx hb dX12_count_153 ?_
            refine lv_topi (fun z28804 e28805 => ?_)
            try (have t28806 := tadd e28805 (a := x2_lp28795.toInt) rfl (b := 0) (by decide) (by omega))
            refine lv_istore_n (lv' := [(2, .int z28804), (3, .int x3_lp28795), (0, .ref (g 0)), (1, .int p0)]) hx hb dX12_count_154 rfl hl (by decide) rfl (fun ls hl => ?_)
            obtain ⟨z28807, e28808⟩ : ∃ y : Int32, y = x3_lp28795 + 1 := ⟨_, rfl⟩
            try (have t28809 := tadd e28808 rfl (b := 1) (by decide) (by omega))
            refine lv_iinc (v := z28807) (lv' := [(3, .int z28807), (2, .int z28804), (0, .ref (g 0)), (1, .int p0)]) hx hb dX12_count_155 hl (k := 1) rfl (by rw [e28808]; rfl) (by decide) rfl (fun ls hl => ?_)
            refine lv_goto (tgt := 131) hx hb dX12_count_158 (by decide) ?_
            exact ih_lp28795 z28807 z28804  _ _ _ (by omega) (by omega) hP hS (lv_sub hl [0, 1, 2, 3] rfl)
          · skip
            have t28810 := cv_ne (a := r28801.toInt) rfl (b := 0) (by decide) c28802
            refine lv_iconst (v := 1) hx hb dX12_count_148 (by decide) ?_
            refine lv_goto (tgt := 153) hx hb dX12_count_149 (by decide) ?_
            refine lv_iadd hx hb dX12_count_153 ?_
            refine lv_topi (fun z28811 e28812 => ?_)
            try (have t28813 := tadd e28812 (a := x2_lp28795.toInt) rfl (b := 1) (by decide) (by omega))
            refine lv_istore_n (lv' := [(2, .int z28811), (3, .int x3_lp28795), (0, .ref (g 0)), (1, .int p0)]) hx hb dX12_count_154 rfl hl (by decide) rfl (fun ls hl => ?_)
            obtain ⟨z28814, e28815⟩ : ∃ y : Int32, y = x3_lp28795 + 1 := ⟨_, rfl⟩
            try (have t28816 := tadd e28815 rfl (b := 1) (by decide) (by omega))
            refine lv_iinc (v := z28814) (lv' := [(3, .int z28814), (2, .int z28811), (0, .ref (g 0)), (1, .int p0)]) hx hb dX12_count_155 hl (k := 1) rfl (by rw [e28815]; rfl) (by decide) rfl (fun ls hl => ?_)
            refine lv_goto (tgt := 131) hx hb dX12_count_158 (by decide) ?_
            exact ih_lp28795 z28814 z28811  _ _ _ (by omega) (by omega) hP hS (lv_sub hl [0, 1, 2, 3] rfl)
    obtain ⟨n9, hn9⟩ : ∃ n : Nat, 2147483648 - 0 ≤ (n : Int) := ⟨((2147483648 - 0 : Int)).toNat, by omega⟩
    exact lp28795 n9 0 0  H _ ls (by have : (0 : Int32).toInt = 0 := (by decide); have : (0 : Int32).toInt = 0 := (by decide); omega) (by have : (0 : Int32).toInt = 0 := (by decide); have : (0 : Int32).toInt = 0 := (by decide); omega) hP hS hl
  · refine lv_tableIn (off := 160) (tgt := 163) hx hb dX12_count_3 hlo28782 hhi28783 (by rw [hk]; decide) (by decide) ?_
    refine lv_aload_n hx hb dX12_count_163 rfl (lv_at hl 1 rfl) ?_
    refine va_get (D := (dC, dI)) (ci := 12) (v := .int (v 60)) (C := RX12) (T := TX12) (N := 63) hx hb hwd inA_X12 hown hK hP 0 rfl rfl 60 (by decide) (hwd _ wk_1348) (fun _ h9 => h9) rfl dX12_count_164 ?_
    have hP9 : va_P (dC, dI) classes (wM g c v F rc) H := hP
    exact W.iret (v := v 60) hx hb hr (fun t ht hW => ⟨⟨(v 60), (), rfl, trivial, (by show va_P _ _ _ t.heap; rw [ht]; exact hP9)⟩, hS.F ht⟩) hS.2.2 dX12_count_167
