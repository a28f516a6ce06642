set_option maxHeartbeats 8000000 in
set_option maxRecDepth 100000 in
theorem c_X12_isGap (l : Launch) (dC : Nat → ClassId) (dI : Nat → Nat → Nat) (g : Nat → Nat) (c : Nat → ClassId) (adK adV : Nat → Nat) (v : Nat → Int32) (F : Nat → Nat → Int32) (rc sz : Nat) (p0 : Int32) (hg : injM g) (hI : IM v F) (h0 : 0 ≤ p0.toInt ∧ p0.toInt ≤ 499) : Met l yX12_isGap (Cond.code yX12_isGap cX12_isGap 2 (some .boolean) :: wA) ({ frames := 1, cells := 0, slots := 0, locals := 40 }) (va_Pc [.ref (g 0), .int p0] (PM dC dI g c adK adV v F rc sz)) (va_Qi (fun (r : Int32) (u : Unit) => 0 ≤ r.toInt ∧ r.toInt ≤ 1) (fun (_ : Unit) => BM dC dI g c (v, F, rc)) (AM g sz)) 0 0 (AM g sz) := by
  refine Met.ofW (cc := cX12_isGap) (maxL := 2) (ret := (some .boolean)) (by decide) rfl ?_
  intro p e s m args below meth c0 s₁ B hml hv
  obtain ⟨rfl, hsz, hP, hK, hE⟩ := hv
  have hx := B.exec
  have hb := B.bytes
  have hr := B.returns
  have hts := atoms_spec (ws := Cond.code yX12_isGap cX12_isGap 2 (some .boolean) :: wA) B.pre
  have hwd : ∀ w ∈ wA, w.before _ s = true := fun w h => hts w (List.mem_cons_of_mem _ h)
  have hown : s.vm.findClass RX12 = some m.cls := findClass_of_methodNamed B.named
  have hlocks := B.notSynchronized
  subst hsz
  have hl := lv_entry ([.ref (g 0), .int p0]) (n := 2) (Nat.le_of_ble_eq_true rfl)
  rw [lg_entry_eq]
  generalize (lg_sl ([.ref (g 0), .int p0]) ++ List.replicate (2 - (lg_sl ([.ref (g 0), .int p0])).length) Slot.unset).toArray = ls at hl ⊢
  have hl : lv_has ls 2 [(0, .ref (g 0)), (1, .int p0)] := hl
  obtain ⟨H, eH⟩ : ∃ z, z = s.heap := ⟨_, rfl⟩
  have hP : va_P (dC, dI) classes (wM g c v F rc) H := by rw [eH]; exact hP
  have hS : va_S (AM g s.heap.size) s.heap H [] := by rw [eH]; exact va_S.rf
  refine my_heap eH ?_
  have rp0 := i32_rng p0
  refine lv_aload_n hx hb dX12_isGap_0 rfl (lv_at hl 0 rfl) ?_
  refine va_get (D := (dC, dI)) (ci := 12) (v := .ref (g 18)) (C := RX12) (T := TX12) (N := 63) hx hb hwd inA_X12 hown hK hP 0 rfl rfl 23 (by decide) (hwd _ wk_199) (fun _ h9 => h9) rfl dX12_isGap_1 ?_
  refine lv_iload_n hx hb dX12_isGap_4 rfl (lv_at hl 1 rfl) ?_
  refine va_iald hx hb hK hP 18 17 rfl rfl (i := p0) (vin (a := p0.toInt) rfl (by omega)) dX12_isGap_5 ?_
  refine lv_topi (fun z7766 e7767 => ?_)
  refine lv_ldc (v := 1000000) hx hb hown (hwd _ wk_500) dX12_isGap_6 ?_
  refine lv_icmp_eq (tgt := 24) hx hb dX12_isGap_8 (by decide) (fun c7768 => ?_) (fun c7768 => ?_)
  · skip
    have t7769 := cv_eq (a := z7766.toInt) rfl (b := 1000000) (by decide) c7768
    refine lv_iconst (v := 0) hx hb dX12_isGap_24 (by decide) ?_
    have hP9 : va_P (dC, dI) classes (wM g c v F rc) H := hP
    exact W.zret (v := 0) hx hb hr (rfl) (fun t ht hW => ⟨⟨0, (), rfl, by have : (0 : Int32).toInt = 0 := (by decide); omega, (by show va_P _ _ _ t.heap; rw [ht]; exact hP9)⟩, hS.F ht⟩) hS.2.2 dX12_isGap_25
  · skip
    have t7770 := cv_ne (a := z7766.toInt) rfl (b := 1000000) (by decide) c7768
    refine lv_aload_n hx hb dX12_isGap_11 rfl (lv_at hl 0 rfl) ?_
    refine va_get (D := (dC, dI)) (ci := 12) (v := .ref (g 23)) (C := RX12) (T := TX12) (N := 63) hx hb hwd inA_X12 hown hK hP 0 rfl rfl 28 (by decide) (hwd _ wk_204) (fun _ h9 => h9) rfl dX12_isGap_12 ?_
    refine lv_iload_n hx hb dX12_isGap_15 rfl (lv_at hl 1 rfl) ?_
    refine va_zald hx hb hK hP 23 22 rfl rfl (i := p0) (vin (a := p0.toInt) rfl (by omega)) dX12_isGap_16 ?_
    refine lv_topi (fun z7771 e7772 => ?_)
    refine lv_if_ne (tgt := 24) hx hb dX12_isGap_17 (by decide) (fun c7773 => ?_) (fun c7773 => ?_)
    · skip
      have t7774 := cv_ne (a := z7771.toInt) rfl (b := 0) (by decide) c7773
      refine lv_iconst (v := 0) hx hb dX12_isGap_24 (by decide) ?_
      have hP9 : va_P (dC, dI) classes (wM g c v F rc) H := hP
      exact W.zret (v := 0) hx hb hr (rfl) (fun t ht hW => ⟨⟨0, (), rfl, by have : (0 : Int32).toInt = 0 := (by decide); omega, (by show va_P _ _ _ t.heap; rw [ht]; exact hP9)⟩, hS.F ht⟩) hS.2.2 dX12_isGap_25
    · skip
      have t7775 := cv_eq (a := z7771.toInt) rfl (b := 0) (by decide) c7773
      refine lv_iconst (v := 1) hx hb dX12_isGap_20 (by decide) ?_
      refine lv_goto (tgt := 25) hx hb dX12_isGap_21 (by decide) ?_
      have hP9 : va_P (dC, dI) classes (wM g c v F rc) H := hP
      exact W.zret (v := 1) hx hb hr (rfl) (fun t ht hW => ⟨⟨1, (), rfl, by have : (1 : Int32).toInt = 1 := (by decide); omega, (by show va_P _ _ _ t.heap; rw [ht]; exact hP9)⟩, hS.F ht⟩) hS.2.2 dX12_isGap_25
set_option maxHeartbeats 8000000 in
set_option maxRecDepth 100000 in
theorem c_X12_gapsOf (l : Launch) (dC : Nat → ClassId) (dI : Nat → Nat → Nat) (g : Nat → Nat) (c : Nat → ClassId) (adK adV : Nat → Nat) (v : Nat → Int32) (F : Nat → Nat → Int32) (rc sz : Nat) (p0 : Int32) (hg : injM g) (hI : IM v F) : Met l yX12_gapsOf (Cond.code yX12_gapsOf cX12_gapsOf 4 (some .int) :: wA) ({ frames := 2, cells := 0, slots := 0, locals := 80 }) (va_Pc [.ref (g 0), .int p0] (PM dC dI g c adK adV v F rc sz)) (va_Qi (fun (r : Int32) (u : Unit) => True) (fun (_ : Unit) => BM dC dI g c (v, F, rc)) (AM g sz)) 0 0 (AM g sz) := by
  refine Met.ofW (cc := cX12_gapsOf) (maxL := 4) (ret := (some .int)) (by decide) rfl ?_
  intro p e s m args below meth c0 s₁ B hml hv
  obtain ⟨rfl, hsz, hP, hK, hE⟩ := hv
  have hx := B.exec
  have hb := B.bytes
  have hr := B.returns
  have hts := atoms_spec (ws := Cond.code yX12_gapsOf cX12_gapsOf 4 (some .int) :: wA) B.pre
  have hwd : ∀ w ∈ wA, w.before _ s = true := fun w h => hts w (List.mem_cons_of_mem _ h)
  have hown : s.vm.findClass RX12 = some m.cls := findClass_of_methodNamed B.named
  have hlocks := B.notSynchronized
  subst hsz
  have hl := lv_entry ([.ref (g 0), .int p0]) (n := 4) (Nat.le_of_ble_eq_true rfl)
  rw [lg_entry_eq]
  generalize (lg_sl ([.ref (g 0), .int p0]) ++ List.replicate (4 - (lg_sl ([.ref (g 0), .int p0])).length) Slot.unset).toArray = ls at hl ⊢
  have hl : lv_has ls 4 [(0, .ref (g 0)), (1, .int p0)] := hl
  obtain ⟨H, eH⟩ : ∃ z, z = s.heap := ⟨_, rfl⟩
  have hP : va_P (dC, dI) classes (wM g c v F rc) H := by rw [eH]; exact hP
  have hS : va_S (AM g s.heap.size) s.heap H [] := by rw [eH]; exact va_S.rf
  refine my_heap eH ?_
  have rp0 := i32_rng p0
  refine lv_iconst (v := 0) hx hb dX12_gapsOf_0 (by decide) ?_
  refine lv_istore_n (lv' := [(2, .int 0), (0, .ref (g 0)), (1, .int p0)]) hx hb dX12_gapsOf_1 rfl hl (by decide) rfl (fun ls hl => ?_)
  refine lv_iconst (v := 0) hx hb dX12_gapsOf_2 (by decide) ?_
  refine lv_istore_n (lv' := [(3, .int 0), (2, .int 0), (0, .ref (g 0)), (1, .int p0)]) hx hb dX12_gapsOf_3 rfl hl (by decide) rfl (fun ls hl => ?_)
  have lp7776 : ∀ (n : Nat) (x3_lp7776 : Int32) (x2_lp7776 : Int32) (H : Heap) (locs : List Loc) (ls : Array Slot), (0 ≤ x3_lp7776.toInt) → (2147483648 - x3_lp7776.toInt ≤ (n : Int)) → va_P (dC, dI) classes (wM g c v F rc) H → va_S (AM g s.heap.size) s.heap H locs → lv_has ls 4 [(3, .int x3_lp7776), (2, .int x2_lp7776), (0, .ref (g 0)), (1, .int p0)] → W p l e (headSpec (Cond.code yX12_gapsOf cX12_gapsOf 4 (some .int) :: wA) ({ frames := 2, cells := 0, slots := 0, locals := 80 })).room s m ([.ref (g 0), .int p0] : List Value).toArray below meth c0 H locs 0 0 (MQ below (va_Qi (fun (r : Int32) (u : Unit) => True) (fun (_ : Unit) => BM dC dI g c (v, F, rc)) (AM g s.heap.size)) ([.ref (g 0), .int p0] : List Value).toArray s 0 0 (AM g s.heap.size)) (F0 m 4 ls []) := by
    intro n
    induction n with
    | zero =>
      intro x3_lp7776 x2_lp7776 H locs ls t7777 hm hP hS hl
      exfalso
      have := i32_rng x3_lp7776
      have := i32_rng x2_lp7776
      omega
    | succ n ih_lp7776 =>
      intro x3_lp7776 x2_lp7776 H locs ls t7777 hm hP hS hl
      have rx3_lp7776 := i32_rng x3_lp7776
      have rx2_lp7776 := i32_rng x2_lp7776
      refine lv_iload_n hx hb dX12_gapsOf_4 rfl (lv_at hl 0 rfl) ?_
      refine lv_aload_n hx hb dX12_gapsOf_5 rfl (lv_at hl 2 rfl) ?_
      refine va_get (D := (dC, dI)) (ci := 12) (v := .int (v 19)) (C := RX12) (T := TX12) (N := 63) hx hb hwd inA_X12 hown hK hP 0 rfl rfl 19 (by decide) (hwd _ wk_494) (fun _ h9 => h9) rfl dX12_gapsOf_6 ?_
      have t7778 : 0 ≤ (v 19).toInt ∧ (v 19).toInt ≤ 500 := hI.1 19 _ _ rfl
      refine lv_icmp_ge (tgt := 44) hx hb dX12_gapsOf_9 (by decide) (fun c7779 => ?_) (fun c7779 => ?_)
      · skip
        have t7780 := cv_le (a := (v 19).toInt) rfl (b := x3_lp7776.toInt) rfl c7779
        refine lv_iload_n hx hb dX12_gapsOf_44 rfl (lv_at hl 1 rfl) ?_
        have hP9 : va_P (dC, dI) classes (wM g c v F rc) H := hP
        exact W.iret (v := x2_lp7776) hx hb hr (fun t ht hW => ⟨⟨x2_lp7776, (), rfl, trivial, (by show va_P _ _ _ t.heap; rw [ht]; exact hP9)⟩, hS.F ht⟩) hS.2.2 dX12_gapsOf_45
      · skip
        have t7781 := cv_nle (a := (v 19).toInt) rfl (b := x3_lp7776.toInt) rfl c7779
        refine lv_iload_n hx hb dX12_gapsOf_12 rfl (lv_at hl 1 rfl) ?_
        refine lv_aload_n hx hb dX12_gapsOf_13 rfl (lv_at hl 2 rfl) ?_
        refine va_get (D := (dC, dI)) (ci := 12) (v := .ref (g 15)) (C := RX12) (T := TX12) (N := 63) hx hb hwd inA_X12 hown hK hP 0 rfl rfl 20 (by decide) (hwd _ wk_196) (fun _ h9 => h9) rfl dX12_gapsOf_14 ?_
        refine lv_iload_n hx hb dX12_gapsOf_17 rfl (lv_at hl 0 rfl) ?_
        refine va_iald hx hb hK hP 15 14 rfl rfl (i := x3_lp7776) (vin (a := x3_lp7776.toInt) rfl (by omega)) dX12_gapsOf_18 ?_
        refine lv_topi (fun z7782 e7783 => ?_)
        have t7784 : 0 ≤ z7782.toInt ∧ z7782.toInt ≤ 99 := by rw [e7783]; exact hI.2 15 _ _ rfl _
        refine lv_iload_n hx hb dX12_gapsOf_19 rfl (lv_at hl 3 rfl) ?_
        refine lv_icmp_ne (tgt := 35) hx hb dX12_gapsOf_20 (by decide) (fun c7785 => ?_) (fun c7785 => ?_)
        · skip
          have t7786 := cv_ne (a := z7782.toInt) rfl (b := p0.toInt) rfl c7785
          refine lv_iconst (v := 0) hx hb dX12_gapsOf_35 (by decide) ?_
          refine lv_iadd hx hb dX12_gapsOf_36 ?_
          refine lv_topi (fun z7787 e7788 => ?_)
          try (have t7789 := tadd e7788 (a := x2_lp7776.toInt) rfl (b := 0) (by decide) (by omega))
          refine lv_istore_n (lv' := [(2, .int z7787), (3, .int x3_lp7776), (0, .ref (g 0)), (1, .int p0)]) hx hb dX12_gapsOf_37 rfl hl (by decide) rfl (fun ls hl => ?_)
          obtain ⟨z7790, e7791⟩ : ∃ y : Int32, y = x3_lp7776 + 1 := ⟨_, rfl⟩
          try (have t7792 := tadd e7791 rfl (b := 1) (by decide) (by omega))
          refine lv_iinc (v := z7790) (lv' := [(3, .int z7790), (2, .int z7787), (0, .ref (g 0)), (1, .int p0)]) hx hb dX12_gapsOf_38 hl (k := 1) rfl (by rw [e7791]; rfl) (by decide) rfl (fun ls hl => ?_)
          refine lv_goto (tgt := 4) hx hb dX12_gapsOf_41 (by decide) ?_
          exact ih_lp7776 z7790 z7787  _ _ _ (by omega) (by omega) hP hS (lv_sub hl [0, 1, 2, 3] rfl)
        · skip
          have t7793 := cv_eq (a := z7782.toInt) rfl (b := p0.toInt) rfl c7785
          refine lv_aload_n hx hb dX12_gapsOf_23 rfl (lv_at hl 2 rfl) ?_
          refine lv_iload_n hx hb dX12_gapsOf_24 rfl (lv_at hl 0 rfl) ?_
          refine va_calli (va_runV (As := [.int x3_lp7776]) (rest := [.int x2_lp7776]) ⟨hx, hb, hml, hown, hwd⟩ (c_X12_isGap l dC dI g c adK adV v F rc H.size x3_lp7776 hg hI (by omega)) (cwV 1 hwd (gV wk_499 wk_496 wk_497 wk_498 wk_5) rfl rfl rfl (by decide +kernel) ⟨Nat.le_of_ble_eq_true rfl, Nat.le_of_ble_eq_true rfl⟩) ⟨PM.blind, va_recv hK hP (ci := 12) (q0 := 0) rfl rfl, fun U hU hW => ⟨rfl, PM.at hK hE hP hS hU hW⟩⟩ rfl rfl hl.1 rfl (lv_room (Nat.le_of_ble_eq_true rfl)) dX12_gapsOf_25 ⟨Nat.le_of_ble_eq_true rfl, Nat.le_of_ble_eq_true rfl⟩) hS (fun q _ h => (freeM hS) q h) (freeM hS) (fun r7794 u t H1 locs ht hvm hw hB hz1 hk1 hS => ?_)
          unfold BM at hB
          rw [ht] at hB
          have hP : va_P (dC, dI) classes (wM g c v F rc) H1 := hB
          have hw : 0 ≤ r7794.toInt ∧ r7794.toInt ≤ 1 := hw
          have hw_r7794 := hw
          generalize H1 = H at hP hS ⊢
          refine lv_if_eq (tgt := 35) hx hb dX12_gapsOf_28 (by decide) (fun c7795 => ?_) (fun c7795 => ?_)
          · skip
            have t7796 := cv_eq (a := r7794.toInt) rfl (b := 0) (by decide) c7795
            refine lv_iconst (v := 0) hx hb dX12_gapsOf_35 (by decide) ?_
            refine lv_iadd hx hb dX12_gapsOf_36 ?_
            refine lv_topi (fun z7797 e7798 => ?_)
            try (have t7799 := tadd e7798 (a := x2_lp7776.toInt) rfl (b := 0) (by decide) (by omega))
            refine lv_istore_n (lv' := [(2, .int z7797), (3, .int x3_lp7776), (0, .ref (g 0)), (1, .int p0)]) hx hb dX12_gapsOf_37 rfl hl (by decide) rfl (fun ls hl => ?_)
            obtain ⟨z7800, e7801⟩ : ∃ y : Int32, y = x3_lp7776 + 1 := ⟨_, rfl⟩
            try (have t7802 := tadd e7801 rfl (b := 1) (by decide) (by omega))
            refine lv_iinc (v := z7800) (lv' := [(3, .int z7800), (2, .int z7797), (0, .ref (g 0)), (1, .int p0)]) hx hb dX12_gapsOf_38 hl (k := 1) rfl (by rw [e7801]; rfl) (by decide) rfl (fun ls hl => ?_)
            refine lv_goto (tgt := 4) hx hb dX12_gapsOf_41 (by decide) ?_
            exact ih_lp7776 z7800 z7797  _ _ _ (by omega) (by omega) hP hS (lv_sub hl [0, 1, 2, 3] rfl)
          · skip
            have t7803 := cv_ne (a := r7794.toInt) rfl (b := 0) (by decide) c7795
            refine lv_iconst (v := 1) hx hb dX12_gapsOf_31 (by decide) ?_
            refine lv_goto (tgt := 36) hx hb dX12_gapsOf_32 (by decide) ?_
            refine lv_iadd hx hb dX12_gapsOf_36 ?_
            refine lv_topi (fun z7804 e7805 => ?_)
            try (have t7806 := tadd e7805 (a := x2_lp7776.toInt) rfl (b := 1) (by decide) (by omega))
            refine lv_istore_n (lv' := [(2, .int z7804), (3, .int x3_lp7776), (0, .ref (g 0)), (1, .int p0)]) hx hb dX12_gapsOf_37 rfl hl (by decide) rfl (fun ls hl => ?_)
            obtain ⟨z7807, e7808⟩ : ∃ y : Int32, y = x3_lp7776 + 1 := ⟨_, rfl⟩
            try (have t7809 := tadd e7808 rfl (b := 1) (by decide) (by omega))
            refine lv_iinc (v := z7807) (lv' := [(3, .int z7807), (2, .int z7804), (0, .ref (g 0)), (1, .int p0)]) hx hb dX12_gapsOf_38 hl (k := 1) rfl (by rw [e7808]; rfl) (by decide) rfl (fun ls hl => ?_)
            refine lv_goto (tgt := 4) hx hb dX12_gapsOf_41 (by decide) ?_
            exact ih_lp7776 z7807 z7804  _ _ _ (by omega) (by omega) hP hS (lv_sub hl [0, 1, 2, 3] rfl)
  obtain ⟨n9, hn9⟩ : ∃ n : Nat, 2147483648 - 0 ≤ (n : Int) := ⟨((2147483648 - 0 : Int)).toNat, by omega⟩
  exact lp7776 n9 0 0  H _ ls (by have : (0 : Int32).toInt = 0 := (by decide); have : (0 : Int32).toInt = 0 := (by decide); omega) (by have : (0 : Int32).toInt = 0 := (by decide); have : (0 : Int32).toInt = 0 := (by decide); omega) hP hS hl
set_option maxHeartbeats 8000000 in
set_option maxRecDepth 100000 in
theorem c_X12_lastDay (l : Launch) (dC : Nat → ClassId) (dI : Nat → Nat → Nat) (g : Nat → Nat) (c : Nat → ClassId) (adK adV : Nat → Nat) (v : Nat → Int32) (F : Nat → Nat → Int32) (rc sz : Nat) (p0 : Int32) (hg : injM g) (hI : IM v F) (h0 : 0 ≤ p0.toInt ∧ p0.toInt ≤ 499) : Met l yX12_lastDay (Cond.code yX12_lastDay cX12_lastDay 2 (some .int) :: wA) ({ frames := 1, cells := 0, slots := 0, locals := 40 }) (va_Pc [.ref (g 0), .int p0] (PM dC dI g c adK adV v F rc sz)) (va_Qi (fun (r : Int32) (u : Unit) => True) (fun (_ : Unit) => BM dC dI g c (v, F, rc)) (AM g sz)) 0 0 (AM g sz) := by
  refine Met.ofW (cc := cX12_lastDay) (maxL := 2) (ret := (some .int)) (by decide) rfl ?_
  intro p e s m args below meth c0 s₁ B hml hv
  obtain ⟨rfl, hsz, hP, hK, hE⟩ := hv
  have hx := B.exec
  have hb := B.bytes
  have hr := B.returns
  have hts := atoms_spec (ws := Cond.code yX12_lastDay cX12_lastDay 2 (some .int) :: wA) B.pre
  have hwd : ∀ w ∈ wA, w.before _ s = true := fun w h => hts w (List.mem_cons_of_mem _ h)
  have hown : s.vm.findClass RX12 = some m.cls := findClass_of_methodNamed B.named
  have hlocks := B.notSynchronized
  subst hsz
  have hl := lv_entry ([.ref (g 0), .int p0]) (n := 2) (Nat.le_of_ble_eq_true rfl)
  rw [lg_entry_eq]
  generalize (lg_sl ([.ref (g 0), .int p0]) ++ List.replicate (2 - (lg_sl ([.ref (g 0), .int p0])).length) Slot.unset).toArray = ls at hl ⊢
  have hl : lv_has ls 2 [(0, .ref (g 0)), (1, .int p0)] := hl
  obtain ⟨H, eH⟩ : ∃ z, z = s.heap := ⟨_, rfl⟩
  have hP : va_P (dC, dI) classes (wM g c v F rc) H := by rw [eH]; exact hP
  have hS : va_S (AM g s.heap.size) s.heap H [] := by rw [eH]; exact va_S.rf
  refine my_heap eH ?_
  have rp0 := i32_rng p0
  refine lv_aload_n hx hb dX12_lastDay_0 rfl (lv_at hl 0 rfl) ?_
  refine va_get (D := (dC, dI)) (ci := 12) (v := .ref (g 18)) (C := RX12) (T := TX12) (N := 63) hx hb hwd inA_X12 hown hK hP 0 rfl rfl 23 (by decide) (hwd _ wk_199) (fun _ h9 => h9) rfl dX12_lastDay_1 ?_
  refine lv_iload_n hx hb dX12_lastDay_4 rfl (lv_at hl 1 rfl) ?_
  refine va_iald hx hb hK hP 18 17 rfl rfl (i := p0) (vin (a := p0.toInt) rfl (by omega)) dX12_lastDay_5 ?_
  refine lv_topi (fun z7810 e7811 => ?_)
  refine lv_ldc (v := 1000000) hx hb hown (hwd _ wk_500) dX12_lastDay_6 ?_
  refine lv_icmp_ne (tgt := 18) hx hb dX12_lastDay_8 (by decide) (fun c7812 => ?_) (fun c7812 => ?_)
  · skip
    have t7813 := cv_ne (a := z7810.toInt) rfl (b := 1000000) (by decide) c7812
    refine lv_aload_n hx hb dX12_lastDay_18 rfl (lv_at hl 0 rfl) ?_
    refine va_get (D := (dC, dI)) (ci := 12) (v := .ref (g 18)) (C := RX12) (T := TX12) (N := 63) hx hb hwd inA_X12 hown hK hP 0 rfl rfl 23 (by decide) (hwd _ wk_199) (fun _ h9 => h9) rfl dX12_lastDay_19 ?_
    refine lv_iload_n hx hb dX12_lastDay_22 rfl (lv_at hl 1 rfl) ?_
    refine va_iald hx hb hK hP 18 17 rfl rfl (i := p0) (vin (a := p0.toInt) rfl (by omega)) dX12_lastDay_23 ?_
    refine lv_topi (fun z7814 e7815 => ?_)
    have hP9 : va_P (dC, dI) classes (wM g c v F rc) H := hP
    exact W.iret (v := z7814) hx hb hr (fun t ht hW => ⟨⟨z7814, (), rfl, trivial, (by show va_P _ _ _ t.heap; rw [ht]; exact hP9)⟩, hS.F ht⟩) hS.2.2 dX12_lastDay_24
  · skip
    have t7816 := cv_eq (a := z7810.toInt) rfl (b := 1000000) (by decide) c7812
    refine lv_aload_n hx hb dX12_lastDay_11 rfl (lv_at hl 0 rfl) ?_
    refine va_get (D := (dC, dI)) (ci := 12) (v := .int (v 1)) (C := RX12) (T := TX12) (N := 63) hx hb hwd inA_X12 hown hK hP 0 rfl rfl 1 (by decide) (hwd _ wk_332) (fun _ h9 => h9) rfl dX12_lastDay_12 ?_
    have t7817 : 0 ≤ (v 1).toInt ∧ (v 1).toInt ≤ 9999 := hI.1 1 _ _ rfl
    refine lv_goto (tgt := 24) hx hb dX12_lastDay_15 (by decide) ?_
    have hP9 : va_P (dC, dI) classes (wM g c v F rc) H := hP
    exact W.iret (v := v 1) hx hb hr (fun t ht hW => ⟨⟨(v 1), (), rfl, trivial, (by show va_P _ _ _ t.heap; rw [ht]; exact hP9)⟩, hS.F ht⟩) hS.2.2 dX12_lastDay_24
set_option maxHeartbeats 8000000 in
set_option maxRecDepth 100000 in
theorem c_X12_hoursEnd (l : Launch) (dC : Nat → ClassId) (dI : Nat → Nat → Nat) (g : Nat → Nat) (c : Nat → ClassId) (adK adV : Nat → Nat) (v : Nat → Int32) (F : Nat → Nat → Int32) (rc sz : Nat) (p0 : Int32) (hg : injM g) (hI : IM v F) (h0 : 0 ≤ p0.toInt ∧ p0.toInt ≤ 499) : Met l yX12_hoursEnd (Cond.code yX12_hoursEnd cX12_hoursEnd 2 (some .int) :: wA) ({ frames := 1, cells := 0, slots := 0, locals := 40 }) (va_Pc [.ref (g 0), .int p0] (PM dC dI g c adK adV v F rc sz)) (va_Qi (fun (r : Int32) (u : Unit) => True) (fun (_ : Unit) => BM dC dI g c (v, F, rc)) (AM g sz)) 0 0 (AM g sz) := by
  refine Met.ofW (cc := cX12_hoursEnd) (maxL := 2) (ret := (some .int)) (by decide) rfl ?_
  intro p e s m args below meth c0 s₁ B hml hv
  obtain ⟨rfl, hsz, hP, hK, hE⟩ := hv
  have hx := B.exec
  have hb := B.bytes
  have hr := B.returns
  have hts := atoms_spec (ws := Cond.code yX12_hoursEnd cX12_hoursEnd 2 (some .int) :: wA) B.pre
  have hwd : ∀ w ∈ wA, w.before _ s = true := fun w h => hts w (List.mem_cons_of_mem _ h)
  have hown : s.vm.findClass RX12 = some m.cls := findClass_of_methodNamed B.named
  have hlocks := B.notSynchronized
  subst hsz
  have hl := lv_entry ([.ref (g 0), .int p0]) (n := 2) (Nat.le_of_ble_eq_true rfl)
  rw [lg_entry_eq]
  generalize (lg_sl ([.ref (g 0), .int p0]) ++ List.replicate (2 - (lg_sl ([.ref (g 0), .int p0])).length) Slot.unset).toArray = ls at hl ⊢
  have hl : lv_has ls 2 [(0, .ref (g 0)), (1, .int p0)] := hl
  obtain ⟨H, eH⟩ : ∃ z, z = s.heap := ⟨_, rfl⟩
  have hP : va_P (dC, dI) classes (wM g c v F rc) H := by rw [eH]; exact hP
  have hS : va_S (AM g s.heap.size) s.heap H [] := by rw [eH]; exact va_S.rf
  refine my_heap eH ?_
  have rp0 := i32_rng p0
  refine lv_aload_n hx hb dX12_hoursEnd_0 rfl (lv_at hl 0 rfl) ?_
  refine va_get (D := (dC, dI)) (ci := 12) (v := .ref (g 18)) (C := RX12) (T := TX12) (N := 63) hx hb hwd inA_X12 hown hK hP 0 rfl rfl 23 (by decide) (hwd _ wk_199) (fun _ h9 => h9) rfl dX12_hoursEnd_1 ?_
  refine lv_iload_n hx hb dX12_hoursEnd_4 rfl (lv_at hl 1 rfl) ?_
  refine va_iald hx hb hK hP 18 17 rfl rfl (i := p0) (vin (a := p0.toInt) rfl (by omega)) dX12_hoursEnd_5 ?_
  refine lv_topi (fun z7818 e7819 => ?_)
  refine lv_ldc (v := 1000000) hx hb hown (hwd _ wk_500) dX12_hoursEnd_6 ?_
  refine lv_icmp_ne (tgt := 27) hx hb dX12_hoursEnd_8 (by decide) (fun c7820 => ?_) (fun c7820 => ?_)
  · skip
    have t7821 := cv_ne (a := z7818.toInt) rfl (b := 1000000) (by decide) c7820
    refine lv_aload_n hx hb dX12_hoursEnd_27 rfl (lv_at hl 0 rfl) ?_
    refine va_get (D := (dC, dI)) (ci := 12) (v := .ref (g 20)) (C := RX12) (T := TX12) (N := 63) hx hb hwd inA_X12 hown hK hP 0 rfl rfl 25 (by decide) (hwd _ wk_201) (fun _ h9 => h9) rfl dX12_hoursEnd_28 ?_
    refine lv_iload_n hx hb dX12_hoursEnd_31 rfl (lv_at hl 1 rfl) ?_
    refine va_iald hx hb hK hP 20 19 rfl rfl (i := p0) (vin (a := p0.toInt) rfl (by omega)) dX12_hoursEnd_32 ?_
    refine lv_topi (fun z7822 e7823 => ?_)
    have hP9 : va_P (dC, dI) classes (wM g c v F rc) H := hP
    exact W.iret (v := z7822) hx hb hr (fun t ht hW => ⟨⟨z7822, (), rfl, trivial, (by show va_P _ _ _ t.heap; rw [ht]; exact hP9)⟩, hS.F ht⟩) hS.2.2 dX12_hoursEnd_33
  · skip
    have t7824 := cv_eq (a := z7818.toInt) rfl (b := 1000000) (by decide) c7820
    refine lv_aload_n hx hb dX12_hoursEnd_11 rfl (lv_at hl 0 rfl) ?_
    refine va_get (D := (dC, dI)) (ci := 12) (v := .ref (g 14)) (C := RX12) (T := TX12) (N := 63) hx hb hwd inA_X12 hown hK hP 0 rfl rfl 18 (by decide) (hwd _ wk_195) (fun _ h9 => h9) rfl dX12_hoursEnd_12 ?_
    refine lv_iconst (v := 3) hx hb dX12_hoursEnd_15 (by decide) ?_
    refine lv_aload_n hx hb dX12_hoursEnd_16 rfl (lv_at hl 0 rfl) ?_
    refine va_get (D := (dC, dI)) (ci := 12) (v := .ref (g 15)) (C := RX12) (T := TX12) (N := 63) hx hb hwd inA_X12 hown hK hP 0 rfl rfl 20 (by decide) (hwd _ wk_196) (fun _ h9 => h9) rfl dX12_hoursEnd_17 ?_
    refine lv_iload_n hx hb dX12_hoursEnd_20 rfl (lv_at hl 1 rfl) ?_
    refine va_iald hx hb hK hP 15 14 rfl rfl (i := p0) (vin (a := p0.toInt) rfl (by omega)) dX12_hoursEnd_21 ?_
    refine lv_topi (fun z7825 e7826 => ?_)
    have t7827 : 0 ≤ z7825.toInt ∧ z7825.toInt ≤ 99 := by rw [e7826]; exact hI.2 15 _ _ rfl _
    refine lv_imul hx hb dX12_hoursEnd_22 ?_
    refine lv_topi (fun z7828 e7829 => ?_)
    try (have t7830 := tmul e7829 (a := 3) (by decide) (b := z7825.toInt) rfl (by omega))
    refine va_iald hx hb hK hP 14 13 rfl rfl (i := z7828) (vin (a := z7828.toInt) rfl (by omega)) dX12_hoursEnd_23 ?_
    refine lv_topi (fun z7831 e7832 => ?_)
    refine lv_goto (tgt := 33) hx hb dX12_hoursEnd_24 (by decide) ?_
    have hP9 : va_P (dC, dI) classes (wM g c v F rc) H := hP
    exact W.iret (v := z7831) hx hb hr (fun t ht hW => ⟨⟨z7831, (), rfl, trivial, (by show va_P _ _ _ t.heap; rw [ht]; exact hP9)⟩, hS.F ht⟩) hS.2.2 dX12_hoursEnd_33
set_option maxHeartbeats 8000000 in
set_option maxRecDepth 100000 in
theorem c_X12_landingsEnd (l : Launch) (dC : Nat → ClassId) (dI : Nat → Nat → Nat) (g : Nat → Nat) (c : Nat → ClassId) (adK adV : Nat → Nat) (v : Nat → Int32) (F : Nat → Nat → Int32) (rc sz : Nat) (p0 : Int32) (hg : injM g) (hI : IM v F) (h0 : 0 ≤ p0.toInt ∧ p0.toInt ≤ 499) : Met l yX12_landingsEnd (Cond.code yX12_landingsEnd cX12_landingsEnd 2 (some .int) :: wA) ({ frames := 1, cells := 0, slots := 0, locals := 40 }) (va_Pc [.ref (g 0), .int p0] (PM dC dI g c adK adV v F rc sz)) (va_Qi (fun (r : Int32) (u : Unit) => True) (fun (_ : Unit) => BM dC dI g c (v, F, rc)) (AM g sz)) 0 0 (AM g sz) := by
  refine Met.ofW (cc := cX12_landingsEnd) (maxL := 2) (ret := (some .int)) (by decide) rfl ?_
  intro p e s m args below meth c0 s₁ B hml hv
  obtain ⟨rfl, hsz, hP, hK, hE⟩ := hv
  have hx := B.exec
  have hb := B.bytes
  have hr := B.returns
  have hts := atoms_spec (ws := Cond.code yX12_landingsEnd cX12_landingsEnd 2 (some .int) :: wA) B.pre
  have hwd : ∀ w ∈ wA, w.before _ s = true := fun w h => hts w (List.mem_cons_of_mem _ h)
  have hown : s.vm.findClass RX12 = some m.cls := findClass_of_methodNamed B.named
  have hlocks := B.notSynchronized
  subst hsz
  have hl := lv_entry ([.ref (g 0), .int p0]) (n := 2) (Nat.le_of_ble_eq_true rfl)
  rw [lg_entry_eq]
  generalize (lg_sl ([.ref (g 0), .int p0]) ++ List.replicate (2 - (lg_sl ([.ref (g 0), .int p0])).length) Slot.unset).toArray = ls at hl ⊢
  have hl : lv_has ls 2 [(0, .ref (g 0)), (1, .int p0)] := hl
  obtain ⟨H, eH⟩ : ∃ z, z = s.heap := ⟨_, rfl⟩
  have hP : va_P (dC, dI) classes (wM g c v F rc) H := by rw [eH]; exact hP
  have hS : va_S (AM g s.heap.size) s.heap H [] := by rw [eH]; exact va_S.rf
  refine my_heap eH ?_
  have rp0 := i32_rng p0
  refine lv_aload_n hx hb dX12_landingsEnd_0 rfl (lv_at hl 0 rfl) ?_
  refine va_get (D := (dC, dI)) (ci := 12) (v := .ref (g 18)) (C := RX12) (T := TX12) (N := 63) hx hb hwd inA_X12 hown hK hP 0 rfl rfl 23 (by decide) (hwd _ wk_199) (fun _ h9 => h9) rfl dX12_landingsEnd_1 ?_
  refine lv_iload_n hx hb dX12_landingsEnd_4 rfl (lv_at hl 1 rfl) ?_
  refine va_iald hx hb hK hP 18 17 rfl rfl (i := p0) (vin (a := p0.toInt) rfl (by omega)) dX12_landingsEnd_5 ?_
  refine lv_topi (fun z7833 e7834 => ?_)
  refine lv_ldc (v := 1000000) hx hb hown (hwd _ wk_500) dX12_landingsEnd_6 ?_
  refine lv_icmp_ne (tgt := 29) hx hb dX12_landingsEnd_8 (by decide) (fun c7835 => ?_) (fun c7835 => ?_)
  · skip
    have t7836 := cv_ne (a := z7833.toInt) rfl (b := 1000000) (by decide) c7835
    refine lv_aload_n hx hb dX12_landingsEnd_29 rfl (lv_at hl 0 rfl) ?_
    refine va_get (D := (dC, dI)) (ci := 12) (v := .ref (g 22)) (C := RX12) (T := TX12) (N := 63) hx hb hwd inA_X12 hown hK hP 0 rfl rfl 27 (by decide) (hwd _ wk_203) (fun _ h9 => h9) rfl dX12_landingsEnd_30 ?_
    refine lv_iload_n hx hb dX12_landingsEnd_33 rfl (lv_at hl 1 rfl) ?_
    refine va_iald hx hb hK hP 22 21 rfl rfl (i := p0) (vin (a := p0.toInt) rfl (by omega)) dX12_landingsEnd_34 ?_
    refine lv_topi (fun z7837 e7838 => ?_)
    have hP9 : va_P (dC, dI) classes (wM g c v F rc) H := hP
    exact W.iret (v := z7837) hx hb hr (fun t ht hW => ⟨⟨z7837, (), rfl, trivial, (by show va_P _ _ _ t.heap; rw [ht]; exact hP9)⟩, hS.F ht⟩) hS.2.2 dX12_landingsEnd_35
  · skip
    have t7839 := cv_eq (a := z7833.toInt) rfl (b := 1000000) (by decide) c7835
    refine lv_aload_n hx hb dX12_landingsEnd_11 rfl (lv_at hl 0 rfl) ?_
    refine va_get (D := (dC, dI)) (ci := 12) (v := .ref (g 14)) (C := RX12) (T := TX12) (N := 63) hx hb hwd inA_X12 hown hK hP 0 rfl rfl 18 (by decide) (hwd _ wk_195) (fun _ h9 => h9) rfl dX12_landingsEnd_12 ?_
    refine lv_iconst (v := 3) hx hb dX12_landingsEnd_15 (by decide) ?_
    refine lv_aload_n hx hb dX12_landingsEnd_16 rfl (lv_at hl 0 rfl) ?_
    refine va_get (D := (dC, dI)) (ci := 12) (v := .ref (g 15)) (C := RX12) (T := TX12) (N := 63) hx hb hwd inA_X12 hown hK hP 0 rfl rfl 20 (by decide) (hwd _ wk_196) (fun _ h9 => h9) rfl dX12_landingsEnd_17 ?_
    refine lv_iload_n hx hb dX12_landingsEnd_20 rfl (lv_at hl 1 rfl) ?_
    refine va_iald hx hb hK hP 15 14 rfl rfl (i := p0) (vin (a := p0.toInt) rfl (by omega)) dX12_landingsEnd_21 ?_
    refine lv_topi (fun z7840 e7841 => ?_)
    have t7842 : 0 ≤ z7840.toInt ∧ z7840.toInt ≤ 99 := by rw [e7841]; exact hI.2 15 _ _ rfl _
    refine lv_imul hx hb dX12_landingsEnd_22 ?_
    refine lv_topi (fun z7843 e7844 => ?_)
    try (have t7845 := tmul e7844 (a := 3) (by decide) (b := z7840.toInt) rfl (by omega))
    refine lv_iconst (v := 1) hx hb dX12_landingsEnd_23 (by decide) ?_
    refine lv_iadd hx hb dX12_landingsEnd_24 ?_
    refine lv_topi (fun z7846 e7847 => ?_)
    try (have t7848 := tadd e7847 (a := z7843.toInt) rfl (b := 1) (by decide) (by omega))
    refine va_iald hx hb hK hP 14 13 rfl rfl (i := z7846) (vin (a := z7846.toInt) rfl (by omega)) dX12_landingsEnd_25 ?_
    refine lv_topi (fun z7849 e7850 => ?_)
    refine lv_goto (tgt := 35) hx hb dX12_landingsEnd_26 (by decide) ?_
    have hP9 : va_P (dC, dI) classes (wM g c v F rc) H := hP
    exact W.iret (v := z7849) hx hb hr (fun t ht hW => ⟨⟨z7849, (), rfl, trivial, (by show va_P _ _ _ t.heap; rw [ht]; exact hP9)⟩, hS.F ht⟩) hS.2.2 dX12_landingsEnd_35
set_option maxHeartbeats 8000000 in
set_option maxRecDepth 100000 in
theorem c_X12_isAhead (l : Launch) (dC : Nat → ClassId) (dI : Nat → Nat → Nat) (g : Nat → Nat) (c : Nat → ClassId) (adK adV : Nat → Nat) (v : Nat → Int32) (F : Nat → Nat → Int32) (rc sz : Nat) (p0 : Int32) (p1 : Int32) (hg : injM g) (hI : IM v F) (h0 : 0 ≤ p0.toInt ∧ p0.toInt ≤ 499) (h1 : 0 ≤ p1.toInt ∧ p1.toInt ≤ 499) : Met l yX12_isAhead (Cond.code yX12_isAhead cX12_isAhead 3 (some .boolean) :: wA) ({ frames := 1, cells := 0, slots := 0, locals := 40 }) (va_Pc [.ref (g 0), .int p0, .int p1] (PM dC dI g c adK adV v F rc sz)) (va_Qi (fun (r : Int32) (u : Unit) => (r.toInt = 1 ∧ ((F 17 p0.toNatClampNeg).toInt < (F 17 p1.toNatClampNeg).toInt ∨ ((F 17 p0.toNatClampNeg).toInt = (F 17 p1.toNatClampNeg).toInt ∧ p0.toInt < p1.toInt))) ∨ (r.toInt = 0 ∧ ¬ ((F 17 p0.toNatClampNeg).toInt < (F 17 p1.toNatClampNeg).toInt ∨ ((F 17 p0.toNatClampNeg).toInt = (F 17 p1.toNatClampNeg).toInt ∧ p0.toInt < p1.toInt)))) (fun (_ : Unit) => BM dC dI g c (v, F, rc)) (AM g sz)) 0 0 (AM g sz) := by
  refine Met.ofW (cc := cX12_isAhead) (maxL := 3) (ret := (some .boolean)) (by decide) rfl ?_
  intro p e s m args below meth c0 s₁ B hml hv
  obtain ⟨rfl, hsz, hP, hK, hE⟩ := hv
  have hx := B.exec
  have hb := B.bytes
  have hr := B.returns
  have hts := atoms_spec (ws := Cond.code yX12_isAhead cX12_isAhead 3 (some .boolean) :: wA) B.pre
  have hwd : ∀ w ∈ wA, w.before _ s = true := fun w h => hts w (List.mem_cons_of_mem _ h)
  have hown : s.vm.findClass RX12 = some m.cls := findClass_of_methodNamed B.named
  have hlocks := B.notSynchronized
  subst hsz
  have hl := lv_entry ([.ref (g 0), .int p0, .int p1]) (n := 3) (Nat.le_of_ble_eq_true rfl)
  rw [lg_entry_eq]
  generalize (lg_sl ([.ref (g 0), .int p0, .int p1]) ++ List.replicate (3 - (lg_sl ([.ref (g 0), .int p0, .int p1])).length) Slot.unset).toArray = ls at hl ⊢
  have hl : lv_has ls 3 [(0, .ref (g 0)), (1, .int p0), (2, .int p1)] := hl
  obtain ⟨H, eH⟩ : ∃ z, z = s.heap := ⟨_, rfl⟩
  have hP : va_P (dC, dI) classes (wM g c v F rc) H := by rw [eH]; exact hP
  have hS : va_S (AM g s.heap.size) s.heap H [] := by rw [eH]; exact va_S.rf
  refine my_heap eH ?_
  have rp0 := i32_rng p0
  have rp1 := i32_rng p1
  refine lv_aload_n hx hb dX12_isAhead_0 rfl (lv_at hl 0 rfl) ?_
  refine va_get (D := (dC, dI)) (ci := 12) (v := .ref (g 17)) (C := RX12) (T := TX12) (N := 63) hx hb hwd inA_X12 hown hK hP 0 rfl rfl 22 (by decide) (hwd _ wk_198) (fun _ h9 => h9) rfl dX12_isAhead_1 ?_
  refine lv_iload_n hx hb dX12_isAhead_4 rfl (lv_at hl 1 rfl) ?_
  refine va_iald hx hb hK hP 17 16 rfl rfl (i := p0) (vin (a := p0.toInt) rfl (by omega)) dX12_isAhead_5 ?_
  refine lv_topi (fun z7851 e7852 => ?_)
  have tzz7851 : z7851.toInt = (F 17 (p0 : Int32).toNatClampNeg).toInt := congrArg Int32.toInt e7852
  refine lv_aload_n hx hb dX12_isAhead_6 rfl (lv_at hl 0 rfl) ?_
  refine va_get (D := (dC, dI)) (ci := 12) (v := .ref (g 17)) (C := RX12) (T := TX12) (N := 63) hx hb hwd inA_X12 hown hK hP 0 rfl rfl 22 (by decide) (hwd _ wk_198) (fun _ h9 => h9) rfl dX12_isAhead_7 ?_
  refine lv_iload_n hx hb dX12_isAhead_10 rfl (lv_at hl 2 rfl) ?_
  refine va_iald hx hb hK hP 17 16 rfl rfl (i := p1) (vin (a := p1.toInt) rfl (by omega)) dX12_isAhead_11 ?_
  refine lv_topi (fun z7853 e7854 => ?_)
  have tzz7853 : z7853.toInt = (F 17 (p1 : Int32).toNatClampNeg).toInt := congrArg Int32.toInt e7854
  refine lv_icmp_lt (tgt := 35) hx hb dX12_isAhead_12 (by decide) (fun c7855 => ?_) (fun c7855 => ?_)
  · skip
    have t7856 := cv_lt (a := z7851.toInt) rfl (b := z7853.toInt) rfl c7855
    refine lv_iconst (v := 1) hx hb dX12_isAhead_35 (by decide) ?_
    refine lv_goto (tgt := 40) hx hb dX12_isAhead_36 (by decide) ?_
    have hP9 : va_P (dC, dI) classes (wM g c v F rc) H := hP
    exact W.zret (v := 1) hx hb hr (rfl) (fun t ht hW => ⟨⟨1, (), rfl, (by show ((1 : Int32).toInt = 1 ∧ ((F 17 p0.toNatClampNeg).toInt < (F 17 p1.toNatClampNeg).toInt ∨ ((F 17 p0.toNatClampNeg).toInt = (F 17 p1.toNatClampNeg).toInt ∧ p0.toInt < p1.toInt))) ∨ ((1 : Int32).toInt = 0 ∧ ¬ ((F 17 p0.toNatClampNeg).toInt < (F 17 p1.toNatClampNeg).toInt ∨ ((F 17 p0.toNatClampNeg).toInt = (F 17 p1.toNatClampNeg).toInt ∧ p0.toInt < p1.toInt))); have : (1 : Int32).toInt = 1 := (by decide); omega), (by show va_P _ _ _ t.heap; rw [ht]; exact hP9)⟩, hS.F ht⟩) hS.2.2 dX12_isAhead_40
  · skip
    have t7857 := cv_nlt (a := z7851.toInt) rfl (b := z7853.toInt) rfl c7855
    refine lv_aload_n hx hb dX12_isAhead_15 rfl (lv_at hl 0 rfl) ?_
    refine va_get (D := (dC, dI)) (ci := 12) (v := .ref (g 17)) (C := RX12) (T := TX12) (N := 63) hx hb hwd inA_X12 hown hK hP 0 rfl rfl 22 (by decide) (hwd _ wk_198) (fun _ h9 => h9) rfl dX12_isAhead_16 ?_
    refine lv_iload_n hx hb dX12_isAhead_19 rfl (lv_at hl 1 rfl) ?_
    refine va_iald hx hb hK hP 17 16 rfl rfl (i := p0) (vin (a := p0.toInt) rfl (by omega)) dX12_isAhead_20 ?_
    refine lv_topi (fun z7858 e7859 => ?_)
    have tzz7858 : z7858.toInt = (F 17 (p0 : Int32).toNatClampNeg).toInt := congrArg Int32.toInt e7859
    refine lv_aload_n hx hb dX12_isAhead_21 rfl (lv_at hl 0 rfl) ?_
    refine va_get (D := (dC, dI)) (ci := 12) (v := .ref (g 17)) (C := RX12) (T := TX12) (N := 63) hx hb hwd inA_X12 hown hK hP 0 rfl rfl 22 (by decide) (hwd _ wk_198) (fun _ h9 => h9) rfl dX12_isAhead_22 ?_
    refine lv_iload_n hx hb dX12_isAhead_25 rfl (lv_at hl 2 rfl) ?_
    refine va_iald hx hb hK hP 17 16 rfl rfl (i := p1) (vin (a := p1.toInt) rfl (by omega)) dX12_isAhead_26 ?_
    refine lv_topi (fun z7860 e7861 => ?_)
    have tzz7860 : z7860.toInt = (F 17 (p1 : Int32).toNatClampNeg).toInt := congrArg Int32.toInt e7861
    refine lv_icmp_ne (tgt := 39) hx hb dX12_isAhead_27 (by decide) (fun c7862 => ?_) (fun c7862 => ?_)
    · skip
      have t7863 := cv_ne (a := z7858.toInt) rfl (b := z7860.toInt) rfl c7862
      refine lv_iconst (v := 0) hx hb dX12_isAhead_39 (by decide) ?_
      have hP9 : va_P (dC, dI) classes (wM g c v F rc) H := hP
      exact W.zret (v := 0) hx hb hr (rfl) (fun t ht hW => ⟨⟨0, (), rfl, (by show ((0 : Int32).toInt = 1 ∧ ((F 17 p0.toNatClampNeg).toInt < (F 17 p1.toNatClampNeg).toInt ∨ ((F 17 p0.toNatClampNeg).toInt = (F 17 p1.toNatClampNeg).toInt ∧ p0.toInt < p1.toInt))) ∨ ((0 : Int32).toInt = 0 ∧ ¬ ((F 17 p0.toNatClampNeg).toInt < (F 17 p1.toNatClampNeg).toInt ∨ ((F 17 p0.toNatClampNeg).toInt = (F 17 p1.toNatClampNeg).toInt ∧ p0.toInt < p1.toInt))); have : (0 : Int32).toInt = 0 := (by decide); omega), (by show va_P _ _ _ t.heap; rw [ht]; exact hP9)⟩, hS.F ht⟩) hS.2.2 dX12_isAhead_40
    · skip
      have t7864 := cv_eq (a := z7858.toInt) rfl (b := z7860.toInt) rfl c7862
      refine lv_iload_n hx hb dX12_isAhead_30 rfl (lv_at hl 1 rfl) ?_
      refine lv_iload_n hx hb dX12_isAhead_31 rfl (lv_at hl 2 rfl) ?_
      refine lv_icmp_ge (tgt := 39) hx hb dX12_isAhead_32 (by decide) (fun c7865 => ?_) (fun c7865 => ?_)
      · skip
        have t7866 := cv_le (a := p1.toInt) rfl (b := p0.toInt) rfl c7865
        refine lv_iconst (v := 0) hx hb dX12_isAhead_39 (by decide) ?_
        have hP9 : va_P (dC, dI) classes (wM g c v F rc) H := hP
        exact W.zret (v := 0) hx hb hr (rfl) (fun t ht hW => ⟨⟨0, (), rfl, (by show ((0 : Int32).toInt = 1 ∧ ((F 17 p0.toNatClampNeg).toInt < (F 17 p1.toNatClampNeg).toInt ∨ ((F 17 p0.toNatClampNeg).toInt = (F 17 p1.toNatClampNeg).toInt ∧ p0.toInt < p1.toInt))) ∨ ((0 : Int32).toInt = 0 ∧ ¬ ((F 17 p0.toNatClampNeg).toInt < (F 17 p1.toNatClampNeg).toInt ∨ ((F 17 p0.toNatClampNeg).toInt = (F 17 p1.toNatClampNeg).toInt ∧ p0.toInt < p1.toInt))); have : (0 : Int32).toInt = 0 := (by decide); omega), (by show va_P _ _ _ t.heap; rw [ht]; exact hP9)⟩, hS.F ht⟩) hS.2.2 dX12_isAhead_40
      · skip
        have t7867 := cv_nle (a := p1.toInt) rfl (b := p0.toInt) rfl c7865
        refine lv_iconst (v := 1) hx hb dX12_isAhead_35 (by decide) ?_
        refine lv_goto (tgt := 40) hx hb dX12_isAhead_36 (by decide) ?_
        have hP9 : va_P (dC, dI) classes (wM g c v F rc) H := hP
        exact W.zret (v := 1) hx hb hr (rfl) (fun t ht hW => ⟨⟨1, (), rfl, (by show ((1 : Int32).toInt = 1 ∧ ((F 17 p0.toNatClampNeg).toInt < (F 17 p1.toNatClampNeg).toInt ∨ ((F 17 p0.toNatClampNeg).toInt = (F 17 p1.toNatClampNeg).toInt ∧ p0.toInt < p1.toInt))) ∨ ((1 : Int32).toInt = 0 ∧ ¬ ((F 17 p0.toNatClampNeg).toInt < (F 17 p1.toNatClampNeg).toInt ∨ ((F 17 p0.toNatClampNeg).toInt = (F 17 p1.toNatClampNeg).toInt ∧ p0.toInt < p1.toInt))); have : (1 : Int32).toInt = 1 := (by decide); omega), (by show va_P _ _ _ t.heap; rw [ht]; exact hP9)⟩, hS.F ht⟩) hS.2.2 dX12_isAhead_40
set_option maxHeartbeats 8000000 in
set_option maxRecDepth 100000 in
theorem c_X12_areTwice (l : Launch) (dC : Nat → ClassId) (dI : Nat → Nat → Nat) (g : Nat → Nat) (c : Nat → ClassId) (adK adV : Nat → Nat) (v : Nat → Int32) (F : Nat → Nat → Int32) (rc sz : Nat) (p0 : Int32) (hg : injM g) (hI : IM v F) : Met l yX12_areTwice (Cond.code yX12_areTwice cX12_areTwice 4 (some .boolean) :: wA) ({ frames := 2, cells := 0, slots := 0, locals := 80 }) (va_Pc [.ref (g 0), .int p0] (PM dC dI g c adK adV v F rc sz)) (va_Qi (fun (r : Int32) (u : Unit) => 0 ≤ r.toInt ∧ r.toInt ≤ 1) (fun (_ : Unit) => BM dC dI g c (v, F, rc)) (AM g sz)) 0 0 (AM g sz) := by
  refine Met.ofW (cc := cX12_areTwice) (maxL := 4) (ret := (some .boolean)) (by decide) rfl ?_
  intro p e s m args below meth c0 s₁ B hml hv
  obtain ⟨rfl, hsz, hP, hK, hE⟩ := hv
  have hx := B.exec
  have hb := B.bytes
  have hr := B.returns
  have hts := atoms_spec (ws := Cond.code yX12_areTwice cX12_areTwice 4 (some .boolean) :: wA) B.pre
  have hwd : ∀ w ∈ wA, w.before _ s = true := fun w h => hts w (List.mem_cons_of_mem _ h)
  have hown : s.vm.findClass RX12 = some m.cls := findClass_of_methodNamed B.named
  have hlocks := B.notSynchronized
  subst hsz
  have hl := lv_entry ([.ref (g 0), .int p0]) (n := 4) (Nat.le_of_ble_eq_true rfl)
  rw [lg_entry_eq]
  generalize (lg_sl ([.ref (g 0), .int p0]) ++ List.replicate (4 - (lg_sl ([.ref (g 0), .int p0])).length) Slot.unset).toArray = ls at hl ⊢
  have hl : lv_has ls 4 [(0, .ref (g 0)), (1, .int p0)] := hl
  obtain ⟨H, eH⟩ : ∃ z, z = s.heap := ⟨_, rfl⟩
  have hP : va_P (dC, dI) classes (wM g c v F rc) H := by rw [eH]; exact hP
  have hS : va_S (AM g s.heap.size) s.heap H [] := by rw [eH]; exact va_S.rf
  refine my_heap eH ?_
  have rp0 := i32_rng p0
  refine lv_iconst (v := 0) hx hb dX12_areTwice_0 (by decide) ?_
  refine lv_istore_n (lv' := [(2, .int 0), (0, .ref (g 0)), (1, .int p0)]) hx hb dX12_areTwice_1 rfl hl (by decide) rfl (fun ls hl => ?_)
  have lp7868 : ∀ (n : Nat) (x2_lp7868 : Int32) (H : Heap) (locs : List Loc) (ls : Array Slot), (0 ≤ x2_lp7868.toInt) → (2147483648 - x2_lp7868.toInt ≤ (n : Int)) → va_P (dC, dI) classes (wM g c v F rc) H → va_S (AM g s.heap.size) s.heap H locs → lv_has ls 4 [(2, .int x2_lp7868), (0, .ref (g 0)), (1, .int p0)] → W p l e (headSpec (Cond.code yX12_areTwice cX12_areTwice 4 (some .boolean) :: wA) ({ frames := 2, cells := 0, slots := 0, locals := 80 })).room s m ([.ref (g 0), .int p0] : List Value).toArray below meth c0 H locs 0 0 (MQ below (va_Qi (fun (r : Int32) (u : Unit) => 0 ≤ r.toInt ∧ r.toInt ≤ 1) (fun (_ : Unit) => BM dC dI g c (v, F, rc)) (AM g s.heap.size)) ([.ref (g 0), .int p0] : List Value).toArray s 0 0 (AM g s.heap.size)) (F0 m 2 ls []) := by
    intro n
    induction n with
    | zero =>
      intro x2_lp7868 H locs ls t7869 hm hP hS hl
      exfalso
      have := i32_rng x2_lp7868
      omega
    | succ n ih_lp7868 =>
      intro x2_lp7868 H locs ls t7869 hm hP hS hl
      have rx2_lp7868 := i32_rng x2_lp7868
      refine lv_iload_n hx hb dX12_areTwice_2 rfl (lv_at hl 0 rfl) ?_
      refine lv_aload_n hx hb dX12_areTwice_3 rfl (lv_at hl 1 rfl) ?_
      refine va_get (D := (dC, dI)) (ci := 12) (v := .int (v 19)) (C := RX12) (T := TX12) (N := 63) hx hb hwd inA_X12 hown hK hP 0 rfl rfl 19 (by decide) (hwd _ wk_494) (fun _ h9 => h9) rfl dX12_areTwice_4 ?_
      have t7870 : 0 ≤ (v 19).toInt ∧ (v 19).toInt ≤ 500 := hI.1 19 _ _ rfl
      refine lv_icmp_ge (tgt := 100) hx hb dX12_areTwice_7 (by decide) (fun c7871 => ?_) (fun c7871 => ?_)
      · skip
        have t7872 := cv_le (a := (v 19).toInt) rfl (b := x2_lp7868.toInt) rfl c7871
        refine lv_iconst (v := 0) hx hb dX12_areTwice_100 (by decide) ?_
        have hP9 : va_P (dC, dI) classes (wM g c v F rc) H := hP
        exact W.zret (v := 0) hx hb hr (rfl) (fun t ht hW => ⟨⟨0, (), rfl, by have : (0 : Int32).toInt = 0 := (by decide); omega, (by show va_P _ _ _ t.heap; rw [ht]; exact hP9)⟩, hS.F ht⟩) hS.2.2 dX12_areTwice_101
      · skip
        have t7873 := cv_nle (a := (v 19).toInt) rfl (b := x2_lp7868.toInt) rfl c7871
        refine lv_aload_n hx hb dX12_areTwice_10 rfl (lv_at hl 1 rfl) ?_
        refine va_get (D := (dC, dI)) (ci := 12) (v := .ref (g 15)) (C := RX12) (T := TX12) (N := 63) hx hb hwd inA_X12 hown hK hP 0 rfl rfl 20 (by decide) (hwd _ wk_196) (fun _ h9 => h9) rfl dX12_areTwice_11 ?_
        refine lv_iload_n hx hb dX12_areTwice_14 rfl (lv_at hl 0 rfl) ?_
        refine va_iald hx hb hK hP 15 14 rfl rfl (i := x2_lp7868) (vin (a := x2_lp7868.toInt) rfl (by omega)) dX12_areTwice_15 ?_
        refine lv_topi (fun z7874 e7875 => ?_)
        have t7876 : 0 ≤ z7874.toInt ∧ z7874.toInt ≤ 99 := by rw [e7875]; exact hI.2 15 _ _ rfl _
        refine lv_iload_n hx hb dX12_areTwice_16 rfl (lv_at hl 2 rfl) ?_
        refine lv_icmp_eq (tgt := 23) hx hb dX12_areTwice_17 (by decide) (fun c7877 => ?_) (fun c7877 => ?_)
        · skip
          have t7878 := cv_eq (a := z7874.toInt) rfl (b := p0.toInt) rfl c7877
          refine lv_iconst (v := 0) hx hb dX12_areTwice_23 (by decide) ?_
          refine lv_istore_n (lv' := [(3, .int 0), (2, .int x2_lp7868), (0, .ref (g 0)), (1, .int p0)]) hx hb dX12_areTwice_24 rfl hl (by decide) rfl (fun ls hl => ?_)
          have lp7879 : ∀ (n : Nat) (x3_lp7879 : Int32) (H : Heap) (locs : List Loc) (ls : Array Slot), (0 ≤ x3_lp7879.toInt) → (2147483648 - x3_lp7879.toInt ≤ (n : Int)) → va_P (dC, dI) classes (wM g c v F rc) H → va_S (AM g s.heap.size) s.heap H locs → lv_has ls 4 [(3, .int x3_lp7879), (2, .int x2_lp7868), (0, .ref (g 0)), (1, .int p0)] → W p l e (headSpec (Cond.code yX12_areTwice cX12_areTwice 4 (some .boolean) :: wA) ({ frames := 2, cells := 0, slots := 0, locals := 80 })).room s m ([.ref (g 0), .int p0] : List Value).toArray below meth c0 H locs 0 0 (MQ below (va_Qi (fun (r : Int32) (u : Unit) => 0 ≤ r.toInt ∧ r.toInt ≤ 1) (fun (_ : Unit) => BM dC dI g c (v, F, rc)) (AM g s.heap.size)) ([.ref (g 0), .int p0] : List Value).toArray s 0 0 (AM g s.heap.size)) (F0 m 25 ls []) := by
            intro n
            induction n with
            | zero =>
              intro x3_lp7879 H locs ls t7880 hm hP hS hl
              exfalso
              have := i32_rng x3_lp7879
              omega
            | succ n ih_lp7879 =>
              intro x3_lp7879 H locs ls t7880 hm hP hS hl
              have rx3_lp7879 := i32_rng x3_lp7879
              refine lv_iload_n hx hb dX12_areTwice_25 rfl (lv_at hl 0 rfl) ?_
              refine lv_aload_n hx hb dX12_areTwice_26 rfl (lv_at hl 2 rfl) ?_
              refine va_get (D := (dC, dI)) (ci := 12) (v := .int (v 19)) (C := RX12) (T := TX12) (N := 63) hx hb hwd inA_X12 hown hK hP 0 rfl rfl 19 (by decide) (hwd _ wk_494) (fun _ h9 => h9) rfl dX12_areTwice_27 ?_
              have t7881 : 0 ≤ (v 19).toInt ∧ (v 19).toInt ≤ 500 := hI.1 19 _ _ rfl
              refine lv_icmp_ge (tgt := 94) hx hb dX12_areTwice_30 (by decide) (fun c7882 => ?_) (fun c7882 => ?_)
              · skip
                have t7883 := cv_le (a := (v 19).toInt) rfl (b := x3_lp7879.toInt) rfl c7882
                obtain ⟨z7884, e7885⟩ : ∃ y : Int32, y = x2_lp7868 + 1 := ⟨_, rfl⟩
                try (have t7886 := tadd e7885 rfl (b := 1) (by decide) (by omega))
                refine lv_iinc (v := z7884) (lv' := [(2, .int z7884), (3, .int x3_lp7879), (0, .ref (g 0)), (1, .int p0)]) hx hb dX12_areTwice_94 hl (k := 1) rfl (by rw [e7885]; rfl) (by decide) rfl (fun ls hl => ?_)
                refine lv_goto (tgt := 2) hx hb dX12_areTwice_97 (by decide) ?_
                exact ih_lp7868 z7884  _ _ _ (by omega) (by omega) hP hS (lv_sub hl [0, 2, 3] rfl)
              · skip
                have t7887 := cv_nle (a := (v 19).toInt) rfl (b := x3_lp7879.toInt) rfl c7882
                refine lv_aload_n hx hb dX12_areTwice_33 rfl (lv_at hl 2 rfl) ?_
                refine va_get (D := (dC, dI)) (ci := 12) (v := .ref (g 15)) (C := RX12) (T := TX12) (N := 63) hx hb hwd inA_X12 hown hK hP 0 rfl rfl 20 (by decide) (hwd _ wk_196) (fun _ h9 => h9) rfl dX12_areTwice_34 ?_
                refine lv_iload_n hx hb dX12_areTwice_37 rfl (lv_at hl 0 rfl) ?_
                refine va_iald hx hb hK hP 15 14 rfl rfl (i := x3_lp7879) (vin (a := x3_lp7879.toInt) rfl (by omega)) dX12_areTwice_38 ?_
                refine lv_topi (fun z7888 e7889 => ?_)
                have t7890 : 0 ≤ z7888.toInt ∧ z7888.toInt ≤ 99 := by rw [e7889]; exact hI.2 15 _ _ rfl _
                refine lv_iload_n hx hb dX12_areTwice_39 rfl (lv_at hl 3 rfl) ?_
                refine lv_icmp_ne (tgt := 88) hx hb dX12_areTwice_40 (by decide) (fun c7891 => ?_) (fun c7891 => ?_)
                · skip
                  have t7892 := cv_ne (a := z7888.toInt) rfl (b := p0.toInt) rfl c7891
                  obtain ⟨z7893, e7894⟩ : ∃ y : Int32, y = x3_lp7879 + 1 := ⟨_, rfl⟩
                  try (have t7895 := tadd e7894 rfl (b := 1) (by decide) (by omega))
                  refine lv_iinc (v := z7893) (lv' := [(3, .int z7893), (2, .int x2_lp7868), (0, .ref (g 0)), (1, .int p0)]) hx hb dX12_areTwice_88 hl (k := 0) rfl (by rw [e7894]; rfl) (by decide) rfl (fun ls hl => ?_)
                  refine lv_goto (tgt := 25) hx hb dX12_areTwice_91 (by decide) ?_
                  exact ih_lp7879 z7893  _ _ _ (by omega) (by omega) hP hS (lv_sub hl [0, 1, 2, 3] rfl)
                · skip
                  have t7896 := cv_eq (a := z7888.toInt) rfl (b := p0.toInt) rfl c7891
                  refine lv_aload_n hx hb dX12_areTwice_43 rfl (lv_at hl 2 rfl) ?_
                  refine va_get (D := (dC, dI)) (ci := 12) (v := .ref (g 16)) (C := RX12) (T := TX12) (N := 63) hx hb hwd inA_X12 hown hK hP 0 rfl rfl 21 (by decide) (hwd _ wk_197) (fun _ h9 => h9) rfl dX12_areTwice_44 ?_
                  refine lv_iload_n hx hb dX12_areTwice_47 rfl (lv_at hl 0 rfl) ?_
                  refine va_iald hx hb hK hP 16 15 rfl rfl (i := x3_lp7879) (vin (a := x3_lp7879.toInt) rfl (by omega)) dX12_areTwice_48 ?_
                  refine lv_topi (fun z7897 e7898 => ?_)
                  have t7899 : 0 ≤ z7897.toInt ∧ z7897.toInt ≤ 11 := by rw [e7898]; exact hI.2 16 _ _ rfl _
                  refine lv_aload_n hx hb dX12_areTwice_49 rfl (lv_at hl 2 rfl) ?_
                  refine va_get (D := (dC, dI)) (ci := 12) (v := .ref (g 16)) (C := RX12) (T := TX12) (N := 63) hx hb hwd inA_X12 hown hK hP 0 rfl rfl 21 (by decide) (hwd _ wk_197) (fun _ h9 => h9) rfl dX12_areTwice_50 ?_
                  refine lv_iload_n hx hb dX12_areTwice_53 rfl (lv_at hl 1 rfl) ?_
                  refine va_iald hx hb hK hP 16 15 rfl rfl (i := x2_lp7868) (vin (a := x2_lp7868.toInt) rfl (by omega)) dX12_areTwice_54 ?_
                  refine lv_topi (fun z7900 e7901 => ?_)
                  have t7902 : 0 ≤ z7900.toInt ∧ z7900.toInt ≤ 11 := by rw [e7901]; exact hI.2 16 _ _ rfl _
                  refine lv_icmp_eq (tgt := 88) hx hb dX12_areTwice_55 (by decide) (fun c7903 => ?_) (fun c7903 => ?_)
                  · skip
                    have t7904 := cv_eq (a := z7897.toInt) rfl (b := z7900.toInt) rfl c7903
                    obtain ⟨z7905, e7906⟩ : ∃ y : Int32, y = x3_lp7879 + 1 := ⟨_, rfl⟩
                    try (have t7907 := tadd e7906 rfl (b := 1) (by decide) (by omega))
                    refine lv_iinc (v := z7905) (lv' := [(3, .int z7905), (2, .int x2_lp7868), (0, .ref (g 0)), (1, .int p0)]) hx hb dX12_areTwice_88 hl (k := 0) rfl (by rw [e7906]; rfl) (by decide) rfl (fun ls hl => ?_)
                    refine lv_goto (tgt := 25) hx hb dX12_areTwice_91 (by decide) ?_
                    exact ih_lp7879 z7905  _ _ _ (by omega) (by omega) hP hS (lv_sub hl [0, 1, 2, 3] rfl)
                  · skip
                    have t7908 := cv_ne (a := z7897.toInt) rfl (b := z7900.toInt) rfl c7903
                    refine lv_aload_n hx hb dX12_areTwice_58 rfl (lv_at hl 2 rfl) ?_
                    refine va_get (D := (dC, dI)) (ci := 12) (v := .ref (g 17)) (C := RX12) (T := TX12) (N := 63) hx hb hwd inA_X12 hown hK hP 0 rfl rfl 22 (by decide) (hwd _ wk_198) (fun _ h9 => h9) rfl dX12_areTwice_59 ?_
                    refine lv_iload_n hx hb dX12_areTwice_62 rfl (lv_at hl 1 rfl) ?_
                    refine va_iald hx hb hK hP 17 16 rfl rfl (i := x2_lp7868) (vin (a := x2_lp7868.toInt) rfl (by omega)) dX12_areTwice_63 ?_
                    refine lv_topi (fun z7909 e7910 => ?_)
                    refine lv_aload_n hx hb dX12_areTwice_64 rfl (lv_at hl 2 rfl) ?_
                    refine lv_iload_n hx hb dX12_areTwice_65 rfl (lv_at hl 0 rfl) ?_
                    refine va_calli (va_runV (As := [.int x3_lp7879]) (rest := [.int z7909]) ⟨hx, hb, hml, hown, hwd⟩ (c_X12_lastDay l dC dI g c adK adV v F rc H.size x3_lp7879 hg hI (by omega)) (cwV 1 hwd (gV wk_736 wk_733 wk_734 wk_735 wk_5) rfl rfl rfl (by decide +kernel) ⟨Nat.le_of_ble_eq_true rfl, Nat.le_of_ble_eq_true rfl⟩) ⟨PM.blind, va_recv hK hP (ci := 12) (q0 := 0) rfl rfl, fun U hU hW => ⟨rfl, PM.at hK hE hP hS hU hW⟩⟩ rfl rfl hl.1 rfl (lv_room (Nat.le_of_ble_eq_true rfl)) dX12_areTwice_66 ⟨Nat.le_of_ble_eq_true rfl, Nat.le_of_ble_eq_true rfl⟩) hS (fun q _ h => (freeM hS) q h) (freeM hS) (fun r7911 u t H1 locs ht hvm hw hB hz1 hk1 hS => ?_)
                    unfold BM at hB
                    rw [ht] at hB
                    have hP : va_P (dC, dI) classes (wM g c v F rc) H1 := hB
                    generalize H1 = H at hP hS ⊢
                    have rr_r7911 := i32_rng r7911
                    refine lv_icmp_ge (tgt := 88) hx hb dX12_areTwice_69 (by decide) (fun c7912 => ?_) (fun c7912 => ?_)
                    · skip
                      have t7913 := cv_le (a := r7911.toInt) rfl (b := z7909.toInt) rfl c7912
                      obtain ⟨z7914, e7915⟩ : ∃ y : Int32, y = x3_lp7879 + 1 := ⟨_, rfl⟩
                      try (have t7916 := tadd e7915 rfl (b := 1) (by decide) (by omega))
                      refine lv_iinc (v := z7914) (lv' := [(3, .int z7914), (2, .int x2_lp7868), (0, .ref (g 0)), (1, .int p0)]) hx hb dX12_areTwice_88 hl (k := 0) rfl (by rw [e7915]; rfl) (by decide) rfl (fun ls hl => ?_)
                      refine lv_goto (tgt := 25) hx hb dX12_areTwice_91 (by decide) ?_
                      exact ih_lp7879 z7914  _ _ _ (by omega) (by omega) hP hS (lv_sub hl [0, 1, 2, 3] rfl)
                    · skip
                      have t7917 := cv_nle (a := r7911.toInt) rfl (b := z7909.toInt) rfl c7912
                      refine lv_aload_n hx hb dX12_areTwice_72 rfl (lv_at hl 2 rfl) ?_
                      refine va_get (D := (dC, dI)) (ci := 12) (v := .ref (g 17)) (C := RX12) (T := TX12) (N := 63) hx hb hwd inA_X12 hown hK hP 0 rfl rfl 22 (by decide) (hwd _ wk_198) (fun _ h9 => h9) rfl dX12_areTwice_73 ?_
                      refine lv_iload_n hx hb dX12_areTwice_76 rfl (lv_at hl 0 rfl) ?_
                      refine va_iald hx hb hK hP 17 16 rfl rfl (i := x3_lp7879) (vin (a := x3_lp7879.toInt) rfl (by omega)) dX12_areTwice_77 ?_
                      refine lv_topi (fun z7918 e7919 => ?_)
                      refine lv_aload_n hx hb dX12_areTwice_78 rfl (lv_at hl 2 rfl) ?_
                      refine lv_iload_n hx hb dX12_areTwice_79 rfl (lv_at hl 1 rfl) ?_
                      refine va_calli (va_runV (As := [.int x2_lp7868]) (rest := [.int z7918]) ⟨hx, hb, hml, hown, hwd⟩ (c_X12_lastDay l dC dI g c adK adV v F rc H.size x2_lp7868 hg hI (by omega)) (cwV 1 hwd (gV wk_736 wk_733 wk_734 wk_735 wk_5) rfl rfl rfl (by decide +kernel) ⟨Nat.le_of_ble_eq_true rfl, Nat.le_of_ble_eq_true rfl⟩) ⟨PM.blind, va_recv hK hP (ci := 12) (q0 := 0) rfl rfl, fun U hU hW => ⟨rfl, PM.at hK hE hP hS hU hW⟩⟩ rfl rfl hl.1 rfl (lv_room (Nat.le_of_ble_eq_true rfl)) dX12_areTwice_80 ⟨Nat.le_of_ble_eq_true rfl, Nat.le_of_ble_eq_true rfl⟩) hS (fun q _ h => (freeM hS) q h) (freeM hS) (fun r7920 u t H1 locs ht hvm hw hB hz1 hk1 hS => ?_)
                      unfold BM at hB
                      rw [ht] at hB
                      have hP : va_P (dC, dI) classes (wM g c v F rc) H1 := hB
                      generalize H1 = H at hP hS ⊢
                      have rr_r7920 := i32_rng r7920
                      refine lv_icmp_ge (tgt := 88) hx hb dX12_areTwice_83 (by decide) (fun c7921 => ?_) (fun c7921 => ?_)
                      · skip
                        have t7922 := cv_le (a := r7920.toInt) rfl (b := z7918.toInt) rfl c7921
                        obtain ⟨z7923, e7924⟩ : ∃ y : Int32, y = x3_lp7879 + 1 := ⟨_, rfl⟩
                        try (have t7925 := tadd e7924 rfl (b := 1) (by decide) (by omega))
                        refine lv_iinc (v := z7923) (lv' := [(3, .int z7923), (2, .int x2_lp7868), (0, .ref (g 0)), (1, .int p0)]) hx hb dX12_areTwice_88 hl (k := 0) rfl (by rw [e7924]; rfl) (by decide) rfl (fun ls hl => ?_)
                        refine lv_goto (tgt := 25) hx hb dX12_areTwice_91 (by decide) ?_
                        exact ih_lp7879 z7923  _ _ _ (by omega) (by omega) hP hS (lv_sub hl [0, 1, 2, 3] rfl)
                      · skip
                        have t7926 := cv_nle (a := r7920.toInt) rfl (b := z7918.toInt) rfl c7921
                        refine lv_iconst (v := 1) hx hb dX12_areTwice_86 (by decide) ?_
                        have hP9 : va_P (dC, dI) classes (wM g c v F rc) H := hP
                        exact W.zret (v := 1) hx hb hr (rfl) (fun t ht hW => ⟨⟨1, (), rfl, by have : (1 : Int32).toInt = 1 := (by decide); omega, (by show va_P _ _ _ t.heap; rw [ht]; exact hP9)⟩, hS.F ht⟩) hS.2.2 dX12_areTwice_87
          obtain ⟨n9, hn9⟩ : ∃ n : Nat, 2147483648 - 0 ≤ (n : Int) := ⟨((2147483648 - 0 : Int)).toNat, by omega⟩
          exact lp7879 n9 0  H _ ls (by have : (0 : Int32).toInt = 0 := (by decide); omega) (by have : (0 : Int32).toInt = 0 := (by decide); omega) hP hS hl
        · skip
          have t7927 := cv_ne (a := z7874.toInt) rfl (b := p0.toInt) rfl c7877
          refine lv_goto (tgt := 94) hx hb dX12_areTwice_20 (by decide) ?_
          obtain ⟨z7928, e7929⟩ : ∃ y : Int32, y = x2_lp7868 + 1 := ⟨_, rfl⟩
          try (have t7930 := tadd e7929 rfl (b := 1) (by decide) (by omega))
          refine lv_iinc (v := z7928) (lv' := [(2, .int z7928), (0, .ref (g 0)), (1, .int p0)]) hx hb dX12_areTwice_94 hl (k := 0) rfl (by rw [e7929]; rfl) (by decide) rfl (fun ls hl => ?_)
          refine lv_goto (tgt := 2) hx hb dX12_areTwice_97 (by decide) ?_
          exact ih_lp7868 z7928  _ _ _ (by omega) (by omega) hP hS (lv_sub hl [0, 1, 2] rfl)
  obtain ⟨n9, hn9⟩ : ∃ n : Nat, 2147483648 - 0 ≤ (n : Int) := ⟨((2147483648 - 0 : Int)).toNat, by omega⟩
  exact lp7868 n9 0  H _ ls (by have : (0 : Int32).toInt = 0 := (by decide); omega) (by have : (0 : Int32).toInt = 0 := (by decide); omega) hP hS hl
set_option maxHeartbeats 8000000 in
set_option maxRecDepth 100000 in
theorem c_X12_isDouble (l : Launch) (dC : Nat → ClassId) (dI : Nat → Nat → Nat) (g : Nat → Nat) (c : Nat → ClassId) (adK adV : Nat → Nat) (v : Nat → Int32) (F : Nat → Nat → Int32) (rc sz : Nat) (p0 : Int32) (hg : injM g) (hI : IM v F) (h0 : 0 ≤ p0.toInt ∧ p0.toInt ≤ 99) : Met l yX12_isDouble (Cond.code yX12_isDouble cX12_isDouble 3 (some .boolean) :: wA) ({ frames := 1, cells := 0, slots := 0, locals := 40 }) (va_Pc [.ref (g 0), .int p0] (PM dC dI g c adK adV v F rc sz)) (va_Qi (fun (r : Int32) (u : Unit) => 0 ≤ r.toInt ∧ r.toInt ≤ 1) (fun (_ : Unit) => BM dC dI g c (v, F, rc)) (AM g sz)) 0 0 (AM g sz) := by
  refine Met.ofW (cc := cX12_isDouble) (maxL := 3) (ret := (some .boolean)) (by decide) rfl ?_
  intro p e s m args below meth c0 s₁ B hml hv
  obtain ⟨rfl, hsz, hP, hK, hE⟩ := hv
  have hx := B.exec
  have hb := B.bytes
  have hr := B.returns
  have hts := atoms_spec (ws := Cond.code yX12_isDouble cX12_isDouble 3 (some .boolean) :: wA) B.pre
  have hwd : ∀ w ∈ wA, w.before _ s = true := fun w h => hts w (List.mem_cons_of_mem _ h)
  have hown : s.vm.findClass RX12 = some m.cls := findClass_of_methodNamed B.named
  have hlocks := B.notSynchronized
  subst hsz
  have hl := lv_entry ([.ref (g 0), .int p0]) (n := 3) (Nat.le_of_ble_eq_true rfl)
  rw [lg_entry_eq]
  generalize (lg_sl ([.ref (g 0), .int p0]) ++ List.replicate (3 - (lg_sl ([.ref (g 0), .int p0])).length) Slot.unset).toArray = ls at hl ⊢
  have hl : lv_has ls 3 [(0, .ref (g 0)), (1, .int p0)] := hl
  obtain ⟨H, eH⟩ : ∃ z, z = s.heap := ⟨_, rfl⟩
  have hP : va_P (dC, dI) classes (wM g c v F rc) H := by rw [eH]; exact hP
  have hS : va_S (AM g s.heap.size) s.heap H [] := by rw [eH]; exact va_S.rf
  refine my_heap eH ?_
  have rp0 := i32_rng p0
  refine lv_iconst (v := 0) hx hb dX12_isDouble_0 (by decide) ?_
  refine lv_istore_n (lv' := [(2, .int 0), (0, .ref (g 0)), (1, .int p0)]) hx hb dX12_isDouble_1 rfl hl (by decide) rfl (fun ls hl => ?_)
  have lp7931 : ∀ (n : Nat) (x2_lp7931 : Int32) (H : Heap) (locs : List Loc) (ls : Array Slot), (0 ≤ x2_lp7931.toInt) → (2147483648 - x2_lp7931.toInt ≤ (n : Int)) → va_P (dC, dI) classes (wM g c v F rc) H → va_S (AM g s.heap.size) s.heap H locs → lv_has ls 3 [(2, .int x2_lp7931), (0, .ref (g 0)), (1, .int p0)] → W p l e (headSpec (Cond.code yX12_isDouble cX12_isDouble 3 (some .boolean) :: wA) ({ frames := 1, cells := 0, slots := 0, locals := 40 })).room s m ([.ref (g 0), .int p0] : List Value).toArray below meth c0 H locs 0 0 (MQ below (va_Qi (fun (r : Int32) (u : Unit) => 0 ≤ r.toInt ∧ r.toInt ≤ 1) (fun (_ : Unit) => BM dC dI g c (v, F, rc)) (AM g s.heap.size)) ([.ref (g 0), .int p0] : List Value).toArray s 0 0 (AM g s.heap.size)) (F0 m 2 ls []) := by
    intro n
    induction n with
    | zero =>
      intro x2_lp7931 H locs ls t7932 hm hP hS hl
      exfalso
      have := i32_rng x2_lp7931
      omega
    | succ n ih_lp7931 =>
      intro x2_lp7931 H locs ls t7932 hm hP hS hl
      have rx2_lp7931 := i32_rng x2_lp7931
      refine lv_iload_n hx hb dX12_isDouble_2 rfl (lv_at hl 0 rfl) ?_
      refine lv_aload_n hx hb dX12_isDouble_3 rfl (lv_at hl 1 rfl) ?_
      refine va_get (D := (dC, dI)) (ci := 12) (v := .int (v 14)) (C := RX12) (T := TX12) (N := 63) hx hb hwd inA_X12 hown hK hP 0 rfl rfl 14 (by decide) (hwd _ wk_318) (fun _ h9 => h9) rfl dX12_isDouble_4 ?_
      have t7933 : 0 ≤ (v 14).toInt ∧ (v 14).toInt ≤ 100 := hI.1 14 _ _ rfl
      refine lv_icmp_ge (tgt := 64) hx hb dX12_isDouble_7 (by decide) (fun c7934 => ?_) (fun c7934 => ?_)
      · skip
        have t7935 := cv_le (a := (v 14).toInt) rfl (b := x2_lp7931.toInt) rfl c7934
        refine lv_iconst (v := 0) hx hb dX12_isDouble_64 (by decide) ?_
        have hP9 : va_P (dC, dI) classes (wM g c v F rc) H := hP
        exact W.zret (v := 0) hx hb hr (rfl) (fun t ht hW => ⟨⟨0, (), rfl, by have : (0 : Int32).toInt = 0 := (by decide); omega, (by show va_P _ _ _ t.heap; rw [ht]; exact hP9)⟩, hS.F ht⟩) hS.2.2 dX12_isDouble_65
      · skip
        have t7936 := cv_nle (a := (v 14).toInt) rfl (b := x2_lp7931.toInt) rfl c7934
        refine lv_iload_n hx hb dX12_isDouble_10 rfl (lv_at hl 0 rfl) ?_
        refine lv_iload_n hx hb dX12_isDouble_11 rfl (lv_at hl 2 rfl) ?_
        refine lv_icmp_eq (tgt := 58) hx hb dX12_isDouble_12 (by decide) (fun c7937 => ?_) (fun c7937 => ?_)
        · skip
          have t7938 := cv_eq (a := x2_lp7931.toInt) rfl (b := p0.toInt) rfl c7937
          obtain ⟨z7939, e7940⟩ : ∃ y : Int32, y = x2_lp7931 + 1 := ⟨_, rfl⟩
          try (have t7941 := tadd e7940 rfl (b := 1) (by decide) (by omega))
          refine lv_iinc (v := z7939) (lv' := [(2, .int z7939), (0, .ref (g 0)), (1, .int p0)]) hx hb dX12_isDouble_58 hl (k := 0) rfl (by rw [e7940]; rfl) (by decide) rfl (fun ls hl => ?_)
          refine lv_goto (tgt := 2) hx hb dX12_isDouble_61 (by decide) ?_
          exact ih_lp7931 z7939  _ _ _ (by omega) (by omega) hP hS (lv_sub hl [0, 1, 2] rfl)
        · skip
          have t7942 := cv_ne (a := x2_lp7931.toInt) rfl (b := p0.toInt) rfl c7937
          refine lv_aload_n hx hb dX12_isDouble_15 rfl (lv_at hl 1 rfl) ?_
          refine va_get (D := (dC, dI)) (ci := 12) (v := .ref (g 11)) (C := RX12) (T := TX12) (N := 63) hx hb hwd inA_X12 hown hK hP 0 rfl rfl 15 (by decide) (hwd _ wk_192) (fun _ h9 => h9) rfl dX12_isDouble_16 ?_
          refine lv_iload_n hx hb dX12_isDouble_19 rfl (lv_at hl 0 rfl) ?_
          refine va_iald hx hb hK hP 11 10 rfl rfl (i := x2_lp7931) (vin (a := x2_lp7931.toInt) rfl (by omega)) dX12_isDouble_20 ?_
          refine lv_topi (fun z7943 e7944 => ?_)
          have t7945 : 0 ≤ z7943.toInt ∧ z7943.toInt ≤ 9 := by rw [e7944]; exact hI.2 11 _ _ rfl _
          refine lv_aload_n hx hb dX12_isDouble_21 rfl (lv_at hl 1 rfl) ?_
          refine va_get (D := (dC, dI)) (ci := 12) (v := .ref (g 11)) (C := RX12) (T := TX12) (N := 63) hx hb hwd inA_X12 hown hK hP 0 rfl rfl 15 (by decide) (hwd _ wk_192) (fun _ h9 => h9) rfl dX12_isDouble_22 ?_
          refine lv_iload_n hx hb dX12_isDouble_25 rfl (lv_at hl 2 rfl) ?_
          refine va_iald hx hb hK hP 11 10 rfl rfl (i := p0) (vin (a := p0.toInt) rfl (by omega)) dX12_isDouble_26 ?_
          refine lv_topi (fun z7946 e7947 => ?_)
          have t7948 : 0 ≤ z7946.toInt ∧ z7946.toInt ≤ 9 := by rw [e7947]; exact hI.2 11 _ _ rfl _
          refine lv_icmp_ne (tgt := 58) hx hb dX12_isDouble_27 (by decide) (fun c7949 => ?_) (fun c7949 => ?_)
          · skip
            have t7950 := cv_ne (a := z7943.toInt) rfl (b := z7946.toInt) rfl c7949
            obtain ⟨z7951, e7952⟩ : ∃ y : Int32, y = x2_lp7931 + 1 := ⟨_, rfl⟩
            try (have t7953 := tadd e7952 rfl (b := 1) (by decide) (by omega))
            refine lv_iinc (v := z7951) (lv' := [(2, .int z7951), (0, .ref (g 0)), (1, .int p0)]) hx hb dX12_isDouble_58 hl (k := 0) rfl (by rw [e7952]; rfl) (by decide) rfl (fun ls hl => ?_)
            refine lv_goto (tgt := 2) hx hb dX12_isDouble_61 (by decide) ?_
            exact ih_lp7931 z7951  _ _ _ (by omega) (by omega) hP hS (lv_sub hl [0, 1, 2] rfl)
          · skip
            have t7954 := cv_eq (a := z7943.toInt) rfl (b := z7946.toInt) rfl c7949
            refine lv_aload_n hx hb dX12_isDouble_30 rfl (lv_at hl 1 rfl) ?_
            refine va_get (D := (dC, dI)) (ci := 12) (v := .ref (g 12)) (C := RX12) (T := TX12) (N := 63) hx hb hwd inA_X12 hown hK hP 0 rfl rfl 16 (by decide) (hwd _ wk_193) (fun _ h9 => h9) rfl dX12_isDouble_31 ?_
            refine lv_iload_n hx hb dX12_isDouble_34 rfl (lv_at hl 0 rfl) ?_
            refine va_iald hx hb hK hP 12 11 rfl rfl (i := x2_lp7931) (vin (a := x2_lp7931.toInt) rfl (by omega)) dX12_isDouble_35 ?_
            refine lv_topi (fun z7955 e7956 => ?_)
            refine lv_aload_n hx hb dX12_isDouble_36 rfl (lv_at hl 1 rfl) ?_
            refine va_get (D := (dC, dI)) (ci := 12) (v := .ref (g 12)) (C := RX12) (T := TX12) (N := 63) hx hb hwd inA_X12 hown hK hP 0 rfl rfl 16 (by decide) (hwd _ wk_193) (fun _ h9 => h9) rfl dX12_isDouble_37 ?_
            refine lv_iload_n hx hb dX12_isDouble_40 rfl (lv_at hl 2 rfl) ?_
            refine va_iald hx hb hK hP 12 11 rfl rfl (i := p0) (vin (a := p0.toInt) rfl (by omega)) dX12_isDouble_41 ?_
            refine lv_topi (fun z7957 e7958 => ?_)
            refine lv_icmp_ne (tgt := 58) hx hb dX12_isDouble_42 (by decide) (fun c7959 => ?_) (fun c7959 => ?_)
            · skip
              have t7960 := cv_ne (a := z7955.toInt) rfl (b := z7957.toInt) rfl c7959
              obtain ⟨z7961, e7962⟩ : ∃ y : Int32, y = x2_lp7931 + 1 := ⟨_, rfl⟩
              try (have t7963 := tadd e7962 rfl (b := 1) (by decide) (by omega))
              refine lv_iinc (v := z7961) (lv' := [(2, .int z7961), (0, .ref (g 0)), (1, .int p0)]) hx hb dX12_isDouble_58 hl (k := 0) rfl (by rw [e7962]; rfl) (by decide) rfl (fun ls hl => ?_)
              refine lv_goto (tgt := 2) hx hb dX12_isDouble_61 (by decide) ?_
              exact ih_lp7931 z7961  _ _ _ (by omega) (by omega) hP hS (lv_sub hl [0, 1, 2] rfl)
            · skip
              have t7964 := cv_eq (a := z7955.toInt) rfl (b := z7957.toInt) rfl c7959
              refine lv_aload_n hx hb dX12_isDouble_45 rfl (lv_at hl 1 rfl) ?_
              refine va_get (D := (dC, dI)) (ci := 12) (v := .ref (g 13)) (C := RX12) (T := TX12) (N := 63) hx hb hwd inA_X12 hown hK hP 0 rfl rfl 17 (by decide) (hwd _ wk_194) (fun _ h9 => h9) rfl dX12_isDouble_46 ?_
              refine lv_iload_n hx hb dX12_isDouble_49 rfl (lv_at hl 0 rfl) ?_
              refine va_iald hx hb hK hP 13 12 rfl rfl (i := x2_lp7931) (vin (a := x2_lp7931.toInt) rfl (by omega)) dX12_isDouble_50 ?_
              refine lv_topi (fun z7965 e7966 => ?_)
              have t7967 : 0 ≤ z7965.toInt ∧ z7965.toInt ≤ 12 := by rw [e7966]; exact hI.2 13 _ _ rfl _
              refine lv_bipush (v := 12) hx hb dX12_isDouble_51 (by decide) ?_
              refine lv_icmp_eq (tgt := 58) hx hb dX12_isDouble_53 (by decide) (fun c7968 => ?_) (fun c7968 => ?_)
              · skip
                have t7969 := cv_eq (a := z7965.toInt) rfl (b := 12) (by decide) c7968
                obtain ⟨z7970, e7971⟩ : ∃ y : Int32, y = x2_lp7931 + 1 := ⟨_, rfl⟩
                try (have t7972 := tadd e7971 rfl (b := 1) (by decide) (by omega))
                refine lv_iinc (v := z7970) (lv' := [(2, .int z7970), (0, .ref (g 0)), (1, .int p0)]) hx hb dX12_isDouble_58 hl (k := 0) rfl (by rw [e7971]; rfl) (by decide) rfl (fun ls hl => ?_)
                refine lv_goto (tgt := 2) hx hb dX12_isDouble_61 (by decide) ?_
                exact ih_lp7931 z7970  _ _ _ (by omega) (by omega) hP hS (lv_sub hl [0, 1, 2] rfl)
              · skip
                have t7973 := cv_ne (a := z7965.toInt) rfl (b := 12) (by decide) c7968
                refine lv_iconst (v := 1) hx hb dX12_isDouble_56 (by decide) ?_
                have hP9 : va_P (dC, dI) classes (wM g c v F rc) H := hP
                exact W.zret (v := 1) hx hb hr (rfl) (fun t ht hW => ⟨⟨1, (), rfl, by have : (1 : Int32).toInt = 1 := (by decide); omega, (by show va_P _ _ _ t.heap; rw [ht]; exact hP9)⟩, hS.F ht⟩) hS.2.2 dX12_isDouble_57
  obtain ⟨n9, hn9⟩ : ∃ n : Nat, 2147483648 - 0 ≤ (n : Int) := ⟨((2147483648 - 0 : Int)).toNat, by omega⟩
  exact lp7931 n9 0  H _ ls (by have : (0 : Int32).toInt = 0 := (by decide); omega) (by have : (0 : Int32).toInt = 0 := (by decide); omega) hP hS hl
set_option maxHeartbeats 8000000 in
set_option maxRecDepth 100000 in
theorem c_X12_repair (l : Launch) (dC : Nat → ClassId) (dI : Nat → Nat → Nat) (g : Nat → Nat) (c : Nat → ClassId) (adK adV : Nat → Nat) (v : Nat → Int32) (F : Nat → Nat → Int32) (rc sz : Nat) (p0 : Int32) (p1 : Int32) (hg : injM g) (hI : IM v F) : Met l yX12_repair (Cond.code yX12_repair cX12_repair 4 (some .int) :: wA) ({ frames := 3, cells := 0, slots := 0, locals := 120 }) (va_Pc [.ref (g 0), .int p0, .int p1] (PM dC dI g c adK adV v F rc sz)) (va_Qi (fun (r : Int32) (u : StM) => IM u.1 u.2.1 ∧ u.2.2 = rc ∧ (∀ k, k ∉ ([] : List Nat) → u.1 k = v k) ∧ (∀ k, k ∉ ([14] : List Nat) → u.2.1 k = F k) ∧ True) (BM dC dI g c) (AM g sz)) 0 0 (AM g sz) := by
  refine Met.ofW (cc := cX12_repair) (maxL := 4) (ret := (some .int)) (by decide) rfl ?_
  intro p e s m args below meth c0 s₁ B hml hv
  obtain ⟨rfl, hsz, hP, hK, hE⟩ := hv
  have hx := B.exec
  have hb := B.bytes
  have hr := B.returns
  have hts := atoms_spec (ws := Cond.code yX12_repair cX12_repair 4 (some .int) :: wA) B.pre
  have hwd : ∀ w ∈ wA, w.before _ s = true := fun w h => hts w (List.mem_cons_of_mem _ h)
  have hown : s.vm.findClass RX12 = some m.cls := findClass_of_methodNamed B.named
  have hlocks := B.notSynchronized
  subst hsz
  have hl := lv_entry ([.ref (g 0), .int p0, .int p1]) (n := 4) (Nat.le_of_ble_eq_true rfl)
  rw [lg_entry_eq]
  generalize (lg_sl ([.ref (g 0), .int p0, .int p1]) ++ List.replicate (4 - (lg_sl ([.ref (g 0), .int p0, .int p1])).length) Slot.unset).toArray = ls at hl ⊢
  have hl : lv_has ls 4 [(0, .ref (g 0)), (1, .int p0), (2, .int p1)] := hl
  obtain ⟨H, eH⟩ : ∃ z, z = s.heap := ⟨_, rfl⟩
  have hP : va_P (dC, dI) classes (wM g c v F rc) H := by rw [eH]; exact hP
  have hS : va_S (AM g s.heap.size) s.heap H [] := by rw [eH]; exact va_S.rf
  refine my_heap eH ?_
  have hF : ∀ k, k ∉ ([14] : List Nat) → F k = F k := fun _ _ => rfl
  have rp0 := i32_rng p0
  have rp1 := i32_rng p1
  refine lv_aload_n hx hb dX12_repair_0 rfl (lv_at hl 0 rfl) ?_
  refine lv_iload_n hx hb dX12_repair_1 rfl (lv_at hl 1 rfl) ?_
  refine va_calli (va_runV (As := [.int p0]) (rest := []) ⟨hx, hb, hml, hown, hwd⟩ (c_X12_isPart l dC dI g c adK adV v F rc H.size p0 hg hI ) (cwV 1 hwd (gV wk_631 wk_628 wk_629 wk_630 wk_5) rfl rfl rfl (by decide +kernel) ⟨Nat.le_of_ble_eq_true rfl, Nat.le_of_ble_eq_true rfl⟩) ⟨PM.blind, va_recv hK hP (ci := 12) (q0 := 0) rfl rfl, fun U hU hW => ⟨rfl, PM.at hK hE hP hS hU hW⟩⟩ rfl rfl hl.1 rfl (lv_room (Nat.le_of_ble_eq_true rfl)) dX12_repair_2 ⟨Nat.le_of_ble_eq_true rfl, Nat.le_of_ble_eq_true rfl⟩) hS (fun q _ h => (freeM hS) q h) (freeM hS) (fun r8017 u t H1 locs ht hvm hw hB hz1 hk1 hS => ?_)
  unfold BM at hB
  rw [ht] at hB
  have hP : va_P (dC, dI) classes (wM g c v F rc) H1 := hB
  have hw : (r8017.toInt = 1 ∧ 0 ≤ p0.toInt ∧ p0.toInt < (v 14).toInt) ∨ (r8017.toInt = 0 ∧ (p0.toInt < 0 ∨ (v 14).toInt ≤ p0.toInt)) := hw
  have hw_r8017 := hw
  generalize H1 = H at hP hS ⊢
  refine lv_if_eq (tgt := 18) hx hb dX12_repair_5 (by decide) (fun c8018 => ?_) (fun c8018 => ?_)
  · skip
    have t8019 := cv_eq (a := r8017.toInt) rfl (b := 0) (by decide) c8018
    refine lv_iconst (v := (-1)) hx hb dX12_repair_18 (by decide) ?_
    have hP9 : va_P (dC, dI) classes (wM g c v F rc) H := hP
    exact W.iret (v := (-1)) hx hb hr (fun t ht hW => ⟨⟨(-1), (v, F, rc), rfl, ⟨hI, rfl, (fun _ _ => rfl), hF, trivial⟩, (by show va_P _ _ _ t.heap; rw [ht]; exact hP9)⟩, hS.F ht⟩) hS.2.2 dX12_repair_19
  · skip
    have t8020 := cv_ne (a := r8017.toInt) rfl (b := 0) (by decide) c8018
    refine lv_iload_n hx hb dX12_repair_8 rfl (lv_at hl 2 rfl) ?_
    refine lv_iconst (v := 1) hx hb dX12_repair_9 (by decide) ?_
    refine lv_bipush (v := 7) hx hb dX12_repair_10 (by decide) ?_
    refine va_calli (va_runS (As := [.int p1, .int 1, .int 7]) (rest := []) ⟨hx, hb, hml, hown, hwd⟩ (c_X12_in l dC dI g c adK adV v F rc H.size p1 1 7 hg hI ) (va_cwS 3 hwd (gT wk_254 wk_252 wk_253 wk_5) rfl rfl rfl (by decide +kernel) ⟨Nat.le_of_ble_eq_true rfl, Nat.le_of_ble_eq_true rfl⟩) ⟨PM.blind, fun U hU hW => ⟨rfl, PM.at hK hE hP hS hU hW⟩⟩ rfl rfl hl.1 rfl (lv_room (Nat.le_of_ble_eq_true rfl)) dX12_repair_12 ⟨Nat.le_of_ble_eq_true rfl, Nat.le_of_ble_eq_true rfl⟩) hS (fun q _ h => (freeM hS) q h) (freeM hS) (fun r8021 u t H1 locs ht hvm hw hB hz1 hk1 hS => ?_)
    unfold BM at hB
    rw [ht] at hB
    have hP : va_P (dC, dI) classes (wM g c v F rc) H1 := hB
    have hw : (r8021.toInt = 1 ∧ (1 : Int32).toInt ≤ p1.toInt ∧ p1.toInt ≤ (7 : Int32).toInt) ∨ (r8021.toInt = 0 ∧ (p1.toInt < (1 : Int32).toInt ∨ (7 : Int32).toInt < p1.toInt)) := hw
    have hw_r8021 := hw
    have k8022 : (1 : Int32).toInt = 1 := by decide
    have k8023 : (7 : Int32).toInt = 7 := by decide
    generalize H1 = H at hP hS ⊢
    refine lv_if_ne (tgt := 20) hx hb dX12_repair_15 (by decide) (fun c8024 => ?_) (fun c8024 => ?_)
    · skip
      have t8025 := cv_ne (a := r8021.toInt) rfl (b := 0) (by decide) c8024
      refine lv_aload_n hx hb dX12_repair_20 rfl (lv_at hl 0 rfl) ?_
      refine va_get (D := (dC, dI)) (ci := 12) (v := .ref (g 13)) (C := RX12) (T := TX12) (N := 63) hx hb hwd inA_X12 hown hK hP 0 rfl rfl 17 (by decide) (hwd _ wk_194) (fun _ h9 => h9) rfl dX12_repair_21 ?_
      refine lv_iload_n hx hb dX12_repair_24 rfl (lv_at hl 1 rfl) ?_
      refine va_iald hx hb hK hP 13 12 rfl rfl (i := p0) (vin (a := p0.toInt) rfl (by omega)) dX12_repair_25 ?_
      refine lv_topi (fun z8026 e8027 => ?_)
      have t8028 : 0 ≤ z8026.toInt ∧ z8026.toInt ≤ 12 := by rw [e8027]; exact hI.2 13 _ _ rfl _
      refine lv_bipush (v := 10) hx hb dX12_repair_26 (by decide) ?_
      refine lv_icmp_eq (tgt := 34) hx hb dX12_repair_28 (by decide) (fun c8029 => ?_) (fun c8029 => ?_)
      · skip
        have t8030 := cv_eq (a := z8026.toInt) rfl (b := 10) (by decide) c8029
        refine lv_iconst (v := 0) hx hb dX12_repair_34 (by decide) ?_
        refine lv_istore_n (lv' := [(3, .int 0), (0, .ref (g 0)), (1, .int p0), (2, .int p1)]) hx hb dX12_repair_35 rfl hl (by decide) rfl (fun ls hl => ?_)
        have lp8031 : ∀ (n : Nat) (x3_lp8031 : Int32) (v_lp8031 : Nat → Int32) (F_lp8031 : Nat → Nat → Int32) (H : Heap) (locs : List Loc) (ls : Array Slot), (0 ≤ x3_lp8031.toInt) → (2147483648 - x3_lp8031.toInt ≤ (n : Int)) → (∀ k, k ∉ ([] : List Nat) → v_lp8031 k = v k) → IM v_lp8031 F_lp8031 → (∀ k, k ∉ ([14] : List Nat) → F_lp8031 k = F k) → va_P (dC, dI) classes (wM g c v_lp8031 F_lp8031 rc) H → va_S (AM g s.heap.size) s.heap H locs → lv_has ls 4 [(3, .int x3_lp8031), (0, .ref (g 0)), (1, .int p0), (2, .int p1)] → W p l e (headSpec (Cond.code yX12_repair cX12_repair 4 (some .int) :: wA) ({ frames := 3, cells := 0, slots := 0, locals := 120 })).room s m ([.ref (g 0), .int p0, .int p1] : List Value).toArray below meth c0 H locs 0 0 (MQ below (va_Qi (fun (r : Int32) (u : StM) => IM u.1 u.2.1 ∧ u.2.2 = rc ∧ (∀ k, k ∉ ([] : List Nat) → u.1 k = v k) ∧ (∀ k, k ∉ ([14] : List Nat) → u.2.1 k = F k) ∧ True) (BM dC dI g c) (AM g s.heap.size)) ([.ref (g 0), .int p0, .int p1] : List Value).toArray s 0 0 (AM g s.heap.size)) (F0 m 36 ls []) := by
          intro n
          induction n with
          | zero =>
            intro x3_lp8031 v_lp8031 F_lp8031 H locs ls t8032 hm hf_lp8031 hI hF hP hS hl
            exfalso
            have := i32_rng x3_lp8031
            have hI1 := hI.1
            omega
          | succ n ih_lp8031 =>
            intro x3_lp8031 v_lp8031 F_lp8031 H locs ls t8032 hm hf_lp8031 hI hF hP hS hl
            have rx3_lp8031 := i32_rng x3_lp8031
            refine lv_iload_n hx hb dX12_repair_36 rfl (lv_at hl 0 rfl) ?_
            refine lv_iconst (v := 3) hx hb dX12_repair_37 (by decide) ?_
            refine lv_icmp_ge (tgt := 67) hx hb dX12_repair_38 (by decide) (fun c8033 => ?_) (fun c8033 => ?_)
            · skip
              have t8034 := cv_le (a := 3) (by decide) (b := x3_lp8031.toInt) rfl c8033
              refine lv_iconst (v := 1) hx hb dX12_repair_67 (by decide) ?_
              have hP9 : va_P (dC, dI) classes (wM g c v_lp8031 F_lp8031 rc) H := hP
              exact W.iret (v := 1) hx hb hr (fun t ht hW => ⟨⟨1, (v_lp8031, F_lp8031, rc), rfl, ⟨hI, rfl, (frC (by decide) hf_lp8031 (fun _ _ => rfl)), hF, trivial⟩, (by show va_P _ _ _ t.heap; rw [ht]; exact hP9)⟩, hS.F ht⟩) hS.2.2 dX12_repair_68
            · skip
              have t8035 := cv_nle (a := 3) (by decide) (b := x3_lp8031.toInt) rfl c8033
              refine lv_iload_n hx hb dX12_repair_41 rfl (lv_at hl 3 rfl) ?_
              refine lv_iload_n hx hb dX12_repair_42 rfl (lv_at hl 0 rfl) ?_
              refine lv_ishr hx hb dX12_repair_43 ?_
              refine lv_topi (fun z8036 e8037 => ?_)
              refine lv_iconst (v := 1) hx hb dX12_repair_44 (by decide) ?_
              refine lv_iand hx hb dX12_repair_45 ?_
              refine lv_topi (fun z8039 e8040 => ?_)
              refine lv_iconst (v := 1) hx hb dX12_repair_46 (by decide) ?_
              refine lv_icmp_ne (tgt := 61) hx hb dX12_repair_47 (by decide) (fun c8042 => ?_) (fun c8042 => ?_)
              · skip
                have t8043 := cv_ne (a := z8039.toInt) rfl (b := 1) (by decide) c8042
                obtain ⟨z8044, e8045⟩ : ∃ y : Int32, y = x3_lp8031 + 1 := ⟨_, rfl⟩
                try (have t8046 := tadd e8045 rfl (b := 1) (by decide) (by omega))
                refine lv_iinc (v := z8044) (lv' := [(3, .int z8044), (0, .ref (g 0)), (1, .int p0), (2, .int p1)]) hx hb dX12_repair_61 hl (k := 0) rfl (by rw [e8045]; rfl) (by decide) rfl (fun ls hl => ?_)
                refine lv_goto (tgt := 36) hx hb dX12_repair_64 (by decide) ?_
                exact ih_lp8031 z8044 v_lp8031 F_lp8031 _ _ _ (by omega) (by omega) hf_lp8031 hI hF hP hS (lv_sub hl [0, 1, 2, 3] rfl)
              · skip
                have t8047 := cv_eq (a := z8039.toInt) rfl (b := 1) (by decide) c8042
                refine lv_aload_n hx hb dX12_repair_50 rfl (lv_at hl 1 rfl) ?_
                refine va_get (D := (dC, dI)) (ci := 12) (v := .ref (g 14)) (C := RX12) (T := TX12) (N := 63) hx hb hwd inA_X12 hown hK hP 0 rfl rfl 18 (by decide) (hwd _ wk_195) (fun _ h9 => h9) rfl dX12_repair_51 ?_
                refine lv_iconst (v := 3) hx hb dX12_repair_54 (by decide) ?_
                refine lv_iload_n hx hb dX12_repair_55 rfl (lv_at hl 2 rfl) ?_
                refine lv_imul hx hb dX12_repair_56 ?_
                refine lv_topi (fun z8048 e8049 => ?_)
                try (have t8050 := tmul e8049 (a := 3) (by decide) (b := p0.toInt) rfl (by omega))
                refine lv_iload_n hx hb dX12_repair_57 rfl (lv_at hl 0 rfl) ?_
                refine lv_iadd hx hb dX12_repair_58 ?_
                refine lv_topi (fun z8051 e8052 => ?_)
                try (have t8053 := tadd e8052 (a := z8048.toInt) rfl (b := x3_lp8031.toInt) rfl (by omega))
                refine lv_iconst (v := 0) hx hb dX12_repair_59 (by decide) ?_
                refine va_iast hx hb hK hP (DM hg) hS 14 13 rfl rfl (i := z8051) (x := 0) (vin (a := z8051.toInt) rfl (by omega)) dX12_repair_60 (fun H locs hP _ hS => ?_)
                have hP := va_P_eq (sM_14 g c _ _ _ _) hP
                have hI := IM.store0 hI 14 (z8051 : Int32).toNatClampNeg 0 rfl
                have hF := frUF (k := 14) (f := upd (F_lp8031 14) (z8051 : Int32).toNatClampNeg 0) (by decide) hF
                have hP : va_P (dC, dI) classes (wM g c v_lp8031 (va_up F_lp8031 14 (upd (F_lp8031 14) (z8051 : Int32).toNatClampNeg 0)) rc) H := hP
                generalize (va_up F_lp8031 14 (upd (F_lp8031 14) (z8051 : Int32).toNatClampNeg 0)) = F8054 at hP hI hF
                obtain ⟨z8055, e8056⟩ : ∃ y : Int32, y = x3_lp8031 + 1 := ⟨_, rfl⟩
                try (have t8057 := tadd e8056 rfl (b := 1) (by decide) (by omega))
                refine lv_iinc (v := z8055) (lv' := [(3, .int z8055), (0, .ref (g 0)), (1, .int p0), (2, .int p1)]) hx hb dX12_repair_61 hl (k := 0) rfl (by rw [e8056]; rfl) (by decide) rfl (fun ls hl => ?_)
                refine lv_goto (tgt := 36) hx hb dX12_repair_64 (by decide) ?_
                exact ih_lp8031 z8055 v_lp8031 F8054 _ _ _ (by omega) (by omega) hf_lp8031 hI hF hP hS (lv_sub hl [0, 1, 2, 3] rfl)
        obtain ⟨n9, hn9⟩ : ∃ n : Nat, 2147483648 - 0 ≤ (n : Int) := ⟨((2147483648 - 0 : Int)).toNat, by omega⟩
        exact lp8031 n9 0 v F H _ ls (by have : (0 : Int32).toInt = 0 := (by decide); omega) (by have : (0 : Int32).toInt = 0 := (by decide); omega) (fun _ _ => rfl) hI hF hP hS hl
      · skip
        have t8058 := cv_ne (a := z8026.toInt) rfl (b := 10) (by decide) c8029
        refine lv_bipush (v := (-2)) hx hb dX12_repair_31 (by decide) ?_
        have hP9 : va_P (dC, dI) classes (wM g c v F rc) H := hP
        exact W.iret (v := (-2)) hx hb hr (fun t ht hW => ⟨⟨(-2), (v, F, rc), rfl, ⟨hI, rfl, (fun _ _ => rfl), hF, trivial⟩, (by show va_P _ _ _ t.heap; rw [ht]; exact hP9)⟩, hS.F ht⟩) hS.2.2 dX12_repair_33
    · skip
      have t8059 := cv_eq (a := r8021.toInt) rfl (b := 0) (by decide) c8024
      refine lv_iconst (v := (-1)) hx hb dX12_repair_18 (by decide) ?_
      have hP9 : va_P (dC, dI) classes (wM g c v F rc) H := hP
      exact W.iret (v := (-1)) hx hb hr (fun t ht hW => ⟨⟨(-1), (v, F, rc), rfl, ⟨hI, rfl, (fun _ _ => rfl), hF, trivial⟩, (by show va_P _ _ _ t.heap; rw [ht]; exact hP9)⟩, hS.F ht⟩) hS.2.2 dX12_repair_19
set_option maxHeartbeats 8000000 in
set_option maxRecDepth 100000 in
theorem c_X12_late (l : Launch) (dC : Nat → ClassId) (dI : Nat → Nat → Nat) (g : Nat → Nat) (c : Nat → ClassId) (adK adV : Nat → Nat) (v : Nat → Int32) (F : Nat → Nat → Int32) (rc sz : Nat) (p0 : Int32) (p1 : Int32) (hg : injM g) (hI : IM v F) (h0 : 0 ≤ p0.toInt ∧ p0.toInt ≤ 9) : Met l yX12_late (Cond.code yX12_late cX12_late 3 (some .int) :: wA) ({ frames := 1, cells := 0, slots := 0, locals := 40 }) (va_Pc [.ref (g 0), .int p0, .int p1] (PM dC dI g c adK adV v F rc sz)) (va_Qi (fun (r : Int32) (u : Unit) => True) (fun (_ : Unit) => BM dC dI g c (v, F, rc)) (AM g sz)) 0 0 (AM g sz) := by
  refine Met.ofW (cc := cX12_late) (maxL := 3) (ret := (some .int)) (by decide) rfl ?_
  intro p e s m args below meth c0 s₁ B hml hv
  obtain ⟨rfl, hsz, hP, hK, hE⟩ := hv
  have hx := B.exec
  have hb := B.bytes
  have hr := B.returns
  have hts := atoms_spec (ws := Cond.code yX12_late cX12_late 3 (some .int) :: wA) B.pre
  have hwd : ∀ w ∈ wA, w.before _ s = true := fun w h => hts w (List.mem_cons_of_mem _ h)
  have hown : s.vm.findClass RX12 = some m.cls := findClass_of_methodNamed B.named
  have hlocks := B.notSynchronized
  subst hsz
  have hl := lv_entry ([.ref (g 0), .int p0, .int p1]) (n := 3) (Nat.le_of_ble_eq_true rfl)
  rw [lg_entry_eq]
  generalize (lg_sl ([.ref (g 0), .int p0, .int p1]) ++ List.replicate (3 - (lg_sl ([.ref (g 0), .int p0, .int p1])).length) Slot.unset).toArray = ls at hl ⊢
  have hl : lv_has ls 3 [(0, .ref (g 0)), (1, .int p0), (2, .int p1)] := hl
  obtain ⟨H, eH⟩ : ∃ z, z = s.heap := ⟨_, rfl⟩
  have hP : va_P (dC, dI) classes (wM g c v F rc) H := by rw [eH]; exact hP
  have hS : va_S (AM g s.heap.size) s.heap H [] := by rw [eH]; exact va_S.rf
  refine my_heap eH ?_
  have rp0 := i32_rng p0
  have rp1 := i32_rng p1
  refine lv_iload_n hx hb dX12_late_0 rfl (lv_at hl 2 rfl) ?_
  refine lv_aload_n hx hb dX12_late_1 rfl (lv_at hl 0 rfl) ?_
  refine va_get (D := (dC, dI)) (ci := 12) (v := .ref (g 35)) (C := RX12) (T := TX12) (N := 63) hx hb hwd inA_X12 hown hK hP 0 rfl rfl 49 (by decide) (hwd _ wk_217) (fun _ h9 => h9) rfl dX12_late_2 ?_
  refine lv_iload_n hx hb dX12_late_5 rfl (lv_at hl 1 rfl) ?_
  refine va_iald hx hb hK hP 35 34 rfl rfl (i := p0) (vin (a := p0.toInt) rfl (by omega)) dX12_late_6 ?_
  refine lv_topi (fun z8060 e8061 => ?_)
  refine lv_icmp_le (tgt := 21) hx hb dX12_late_7 (by decide) (fun c8062 => ?_) (fun c8062 => ?_)
  · skip
    have t8063 := cv_le (a := p1.toInt) rfl (b := z8060.toInt) rfl c8062
    refine lv_iconst (v := 0) hx hb dX12_late_21 (by decide) ?_
    have hP9 : va_P (dC, dI) classes (wM g c v F rc) H := hP
    exact W.iret (v := 0) hx hb hr (fun t ht hW => ⟨⟨0, (), rfl, trivial, (by show va_P _ _ _ t.heap; rw [ht]; exact hP9)⟩, hS.F ht⟩) hS.2.2 dX12_late_22
  · skip
    have t8064 := cv_nle (a := p1.toInt) rfl (b := z8060.toInt) rfl c8062
    refine lv_iload_n hx hb dX12_late_10 rfl (lv_at hl 2 rfl) ?_
    refine lv_aload_n hx hb dX12_late_11 rfl (lv_at hl 0 rfl) ?_
    refine va_get (D := (dC, dI)) (ci := 12) (v := .ref (g 35)) (C := RX12) (T := TX12) (N := 63) hx hb hwd inA_X12 hown hK hP 0 rfl rfl 49 (by decide) (hwd _ wk_217) (fun _ h9 => h9) rfl dX12_late_12 ?_
    refine lv_iload_n hx hb dX12_late_15 rfl (lv_at hl 1 rfl) ?_
    refine va_iald hx hb hK hP 35 34 rfl rfl (i := p0) (vin (a := p0.toInt) rfl (by omega)) dX12_late_16 ?_
    refine lv_topi (fun z8065 e8066 => ?_)
    refine lv_isub hx hb dX12_late_17 ?_
    refine lv_topi (fun z8067 e8068 => ?_)
    try (have t8069 := tsub e8068 (a := p1.toInt) rfl (b := z8065.toInt) rfl (by omega))
    refine lv_goto (tgt := 22) hx hb dX12_late_18 (by decide) ?_
    have hP9 : va_P (dC, dI) classes (wM g c v F rc) H := hP
    exact W.iret (v := z8067) hx hb hr (fun t ht hW => ⟨⟨z8067, (), rfl, trivial, (by show va_P _ _ _ t.heap; rw [ht]; exact hP9)⟩, hS.F ht⟩) hS.2.2 dX12_late_22
set_option maxHeartbeats 8000000 in
set_option maxRecDepth 100000 in
theorem c_X12_asks (l : Launch) (dC : Nat → ClassId) (dI : Nat → Nat → Nat) (g : Nat → Nat) (c : Nat → ClassId) (adK adV : Nat → Nat) (v : Nat → Int32) (F : Nat → Nat → Int32) (rc sz : Nat) (p0 : Int32) (p1 : Int32) (hg : injM g) (hI : IM v F) (h0 : 0 ≤ p0.toInt ∧ p0.toInt ≤ 19) (h1 : 0 ≤ p1.toInt ∧ p1.toInt ≤ 9) : Met l yX12_asks (Cond.code yX12_asks cX12_asks 3 (some .boolean) :: wA) ({ frames := 1, cells := 0, slots := 0, locals := 40 }) (va_Pc [.ref (g 0), .int p0, .int p1] (PM dC dI g c adK adV v F rc sz)) (va_Qi (fun (r : Int32) (u : Unit) => 0 ≤ r.toInt ∧ r.toInt ≤ 1) (fun (_ : Unit) => BM dC dI g c (v, F, rc)) (AM g sz)) 0 0 (AM g sz) := by
  refine Met.ofW (cc := cX12_asks) (maxL := 3) (ret := (some .boolean)) (by decide) rfl ?_
  intro p e s m args below meth c0 s₁ B hml hv
  obtain ⟨rfl, hsz, hP, hK, hE⟩ := hv
  have hx := B.exec
  have hb := B.bytes
  have hr := B.returns
  have hts := atoms_spec (ws := Cond.code yX12_asks cX12_asks 3 (some .boolean) :: wA) B.pre
  have hwd : ∀ w ∈ wA, w.before _ s = true := fun w h => hts w (List.mem_cons_of_mem _ h)
  have hown : s.vm.findClass RX12 = some m.cls := findClass_of_methodNamed B.named
  have hlocks := B.notSynchronized
  subst hsz
  have hl := lv_entry ([.ref (g 0), .int p0, .int p1]) (n := 3) (Nat.le_of_ble_eq_true rfl)
  rw [lg_entry_eq]
  generalize (lg_sl ([.ref (g 0), .int p0, .int p1]) ++ List.replicate (3 - (lg_sl ([.ref (g 0), .int p0, .int p1])).length) Slot.unset).toArray = ls at hl ⊢
  have hl : lv_has ls 3 [(0, .ref (g 0)), (1, .int p0), (2, .int p1)] := hl
  obtain ⟨H, eH⟩ : ∃ z, z = s.heap := ⟨_, rfl⟩
  have hP : va_P (dC, dI) classes (wM g c v F rc) H := by rw [eH]; exact hP
  have hS : va_S (AM g s.heap.size) s.heap H [] := by rw [eH]; exact va_S.rf
  refine my_heap eH ?_
  have rp0 := i32_rng p0
  have rp1 := i32_rng p1
  refine lv_aload_n hx hb dX12_asks_0 rfl (lv_at hl 0 rfl) ?_
  refine va_get (D := (dC, dI)) (ci := 12) (v := .ref (g 9)) (C := RX12) (T := TX12) (N := 63) hx hb hwd inA_X12 hown hK hP 0 rfl rfl 12 (by decide) (hwd _ wk_190) (fun _ h9 => h9) rfl dX12_asks_1 ?_
  refine lv_bipush (v := 10) hx hb dX12_asks_4 (by decide) ?_
  refine lv_iload_n hx hb dX12_asks_6 rfl (lv_at hl 2 rfl) ?_
  refine lv_imul hx hb dX12_asks_7 ?_
  refine lv_topi (fun z8070 e8071 => ?_)
  try (have t8072 := tmul e8071 (a := 10) (by decide) (b := p1.toInt) rfl (by omega))
  refine lv_aload_n hx hb dX12_asks_8 rfl (lv_at hl 0 rfl) ?_
  refine va_get (D := (dC, dI)) (ci := 12) (v := .ref (g 32)) (C := RX12) (T := TX12) (N := 63) hx hb hwd inA_X12 hown hK hP 0 rfl rfl 46 (by decide) (hwd _ wk_214) (fun _ h9 => h9) rfl dX12_asks_9 ?_
  refine lv_iload_n hx hb dX12_asks_12 rfl (lv_at hl 1 rfl) ?_
  refine va_iald hx hb hK hP 32 31 rfl rfl (i := p0) (vin (a := p0.toInt) rfl (by omega)) dX12_asks_13 ?_
  refine lv_topi (fun z8073 e8074 => ?_)
  have t8075 : 0 ≤ z8073.toInt ∧ z8073.toInt ≤ 9 := by rw [e8074]; exact hI.2 32 _ _ rfl _
  refine lv_iadd hx hb dX12_asks_14 ?_
  refine lv_topi (fun z8076 e8077 => ?_)
  try (have t8078 := tadd e8077 (a := z8070.toInt) rfl (b := z8073.toInt) rfl (by omega))
  refine va_iald hx hb hK hP 9 8 rfl rfl (i := z8076) (vin (a := z8076.toInt) rfl (by omega)) dX12_asks_15 ?_
  refine lv_topi (fun z8079 e8080 => ?_)
  refine lv_if_le (tgt := 23) hx hb dX12_asks_16 (by decide) (fun c8081 => ?_) (fun c8081 => ?_)
  · skip
    have t8082 := cv_le (a := z8079.toInt) rfl (b := 0) (by decide) c8081
    refine lv_iconst (v := 0) hx hb dX12_asks_23 (by decide) ?_
    have hP9 : va_P (dC, dI) classes (wM g c v F rc) H := hP
    exact W.zret (v := 0) hx hb hr (rfl) (fun t ht hW => ⟨⟨0, (), rfl, by have : (0 : Int32).toInt = 0 := (by decide); omega, (by show va_P _ _ _ t.heap; rw [ht]; exact hP9)⟩, hS.F ht⟩) hS.2.2 dX12_asks_24
  · skip
    have t8083 := cv_nle (a := z8079.toInt) rfl (b := 0) (by decide) c8081
    refine lv_iconst (v := 1) hx hb dX12_asks_19 (by decide) ?_
    refine lv_goto (tgt := 24) hx hb dX12_asks_20 (by decide) ?_
    have hP9 : va_P (dC, dI) classes (wM g c v F rc) H := hP
    exact W.zret (v := 1) hx hb hr (rfl) (fun t ht hW => ⟨⟨1, (), rfl, by have : (1 : Int32).toInt = 1 := (by decide); omega, (by show va_P _ _ _ t.heap; rw [ht]; exact hP9)⟩, hS.F ht⟩) hS.2.2 dX12_asks_24
set_option maxHeartbeats 8000000 in
set_option maxRecDepth 100000 in
theorem c_X12_done (l : Launch) (dC : Nat → ClassId) (dI : Nat → Nat → Nat) (g : Nat → Nat) (c : Nat → ClassId) (adK adV : Nat → Nat) (v : Nat → Int32) (F : Nat → Nat → Int32) (rc sz : Nat) (p0 : Int32) (p1 : Int32) (hg : injM g) (hI : IM v F) : Met l yX12_done (Cond.code yX12_done cX12_done 3 (some .int) :: wA) ({ frames := 3, cells := 0, slots := 0, locals := 120 }) (va_Pc [.ref (g 0), .int p0, .int p1] (PM dC dI g c adK adV v F rc sz)) (va_Qi (fun (r : Int32) (u : StM) => IM u.1 u.2.1 ∧ u.2.2 = rc ∧ (∀ k, k ∉ ([] : List Nat) → u.1 k = v k) ∧ (∀ k, k ∉ ([34] : List Nat) → u.2.1 k = F k) ∧ True) (BM dC dI g c) (AM g sz)) 0 0 (AM g sz) := by
  refine Met.ofW (cc := cX12_done) (maxL := 3) (ret := (some .int)) (by decide) rfl ?_
  intro p e s m args below meth c0 s₁ B hml hv
  obtain ⟨rfl, hsz, hP, hK, hE⟩ := hv
  have hx := B.exec
  have hb := B.bytes
  have hr := B.returns
  have hts := atoms_spec (ws := Cond.code yX12_done cX12_done 3 (some .int) :: wA) B.pre
  have hwd : ∀ w ∈ wA, w.before _ s = true := fun w h => hts w (List.mem_cons_of_mem _ h)
  have hown : s.vm.findClass RX12 = some m.cls := findClass_of_methodNamed B.named
  have hlocks := B.notSynchronized
  subst hsz
  have hl := lv_entry ([.ref (g 0), .int p0, .int p1]) (n := 3) (Nat.le_of_ble_eq_true rfl)
  rw [lg_entry_eq]
  generalize (lg_sl ([.ref (g 0), .int p0, .int p1]) ++ List.replicate (3 - (lg_sl ([.ref (g 0), .int p0, .int p1])).length) Slot.unset).toArray = ls at hl ⊢
  have hl : lv_has ls 3 [(0, .ref (g 0)), (1, .int p0), (2, .int p1)] := hl
  obtain ⟨H, eH⟩ : ∃ z, z = s.heap := ⟨_, rfl⟩
  have hP : va_P (dC, dI) classes (wM g c v F rc) H := by rw [eH]; exact hP
  have hS : va_S (AM g s.heap.size) s.heap H [] := by rw [eH]; exact va_S.rf
  refine my_heap eH ?_
  have hF : ∀ k, k ∉ ([34] : List Nat) → F k = F k := fun _ _ => rfl
  have rp0 := i32_rng p0
  have rp1 := i32_rng p1
  refine lv_iload_n hx hb dX12_done_0 rfl (lv_at hl 1 rfl) ?_
  refine lv_iconst (v := 0) hx hb dX12_done_1 (by decide) ?_
  refine lv_aload_n hx hb dX12_done_2 rfl (lv_at hl 0 rfl) ?_
  refine va_get (D := (dC, dI)) (ci := 12) (v := .int (v 45)) (C := RX12) (T := TX12) (N := 63) hx hb hwd inA_X12 hown hK hP 0 rfl rfl 45 (by decide) (hwd _ wk_485) (fun _ h9 => h9) rfl dX12_done_3 ?_
  have t8119 : 0 ≤ (v 45).toInt ∧ (v 45).toInt ≤ 20 := hI.1 45 _ _ rfl
  refine lv_iconst (v := 1) hx hb dX12_done_6 (by decide) ?_
  refine lv_isub hx hb dX12_done_7 ?_
  refine lv_topi (fun z8120 e8121 => ?_)
  try (have t8122 := tsub e8121 (a := (v 45).toInt) rfl (b := 1) (by decide) (by omega))
  refine va_calli (va_runS (As := [.int p0, .int 0, .int z8120]) (rest := []) ⟨hx, hb, hml, hown, hwd⟩ (c_X12_in l dC dI g c adK adV v F rc H.size p0 0 z8120 hg hI ) (va_cwS 3 hwd (gT wk_254 wk_252 wk_253 wk_5) rfl rfl rfl (by decide +kernel) ⟨Nat.le_of_ble_eq_true rfl, Nat.le_of_ble_eq_true rfl⟩) ⟨PM.blind, fun U hU hW => ⟨rfl, PM.at hK hE hP hS hU hW⟩⟩ rfl rfl hl.1 rfl (lv_room (Nat.le_of_ble_eq_true rfl)) dX12_done_8 ⟨Nat.le_of_ble_eq_true rfl, Nat.le_of_ble_eq_true rfl⟩) hS (fun q _ h => (freeM hS) q h) (freeM hS) (fun r8123 u t H1 locs ht hvm hw hB hz1 hk1 hS => ?_)
  unfold BM at hB
  rw [ht] at hB
  have hP : va_P (dC, dI) classes (wM g c v F rc) H1 := hB
  have hw : (r8123.toInt = 1 ∧ (0 : Int32).toInt ≤ p0.toInt ∧ p0.toInt ≤ z8120.toInt) ∨ (r8123.toInt = 0 ∧ (p0.toInt < (0 : Int32).toInt ∨ z8120.toInt < p0.toInt)) := hw
  have hw_r8123 := hw
  have k8124 : (0 : Int32).toInt = 0 := by decide
  generalize H1 = H at hP hS ⊢
  refine lv_if_eq (tgt := 22) hx hb dX12_done_11 (by decide) (fun c8125 => ?_) (fun c8125 => ?_)
  · skip
    have t8126 := cv_eq (a := r8123.toInt) rfl (b := 0) (by decide) c8125
    refine lv_iconst (v := (-1)) hx hb dX12_done_22 (by decide) ?_
    have hP9 : va_P (dC, dI) classes (wM g c v F rc) H := hP
    exact W.iret (v := (-1)) hx hb hr (fun t ht hW => ⟨⟨(-1), (v, F, rc), rfl, ⟨hI, rfl, (fun _ _ => rfl), hF, trivial⟩, (by show va_P _ _ _ t.heap; rw [ht]; exact hP9)⟩, hS.F ht⟩) hS.2.2 dX12_done_23
  · skip
    have t8127 := cv_ne (a := r8123.toInt) rfl (b := 0) (by decide) c8125
    refine lv_aload_n hx hb dX12_done_14 rfl (lv_at hl 0 rfl) ?_
    refine lv_iload_n hx hb dX12_done_15 rfl (lv_at hl 2 rfl) ?_
    refine va_calli (va_runV (As := [.int p1]) (rest := []) ⟨hx, hb, hml, hown, hwd⟩ (c_X12_isPlane l dC dI g c adK adV v F rc H.size p1 hg hI ) (cwV 1 hwd (gV wk_305 wk_302 wk_303 wk_304 wk_5) rfl rfl rfl (by decide +kernel) ⟨Nat.le_of_ble_eq_true rfl, Nat.le_of_ble_eq_true rfl⟩) ⟨PM.blind, va_recv hK hP (ci := 12) (q0 := 0) rfl rfl, fun U hU hW => ⟨rfl, PM.at hK hE hP hS hU hW⟩⟩ rfl rfl hl.1 rfl (lv_room (Nat.le_of_ble_eq_true rfl)) dX12_done_16 ⟨Nat.le_of_ble_eq_true rfl, Nat.le_of_ble_eq_true rfl⟩) hS (fun q _ h => (freeM hS) q h) (freeM hS) (fun r8128 u t H1 locs ht hvm hw hB hz1 hk1 hS => ?_)
    unfold BM at hB
    rw [ht] at hB
    have hP : va_P (dC, dI) classes (wM g c v F rc) H1 := hB
    have hw : (r8128.toInt = 1 ∧ 0 ≤ p1.toInt ∧ p1.toInt < (v 6).toInt) ∨ (r8128.toInt = 0 ∧ (p1.toInt < 0 ∨ (v 6).toInt ≤ p1.toInt)) := hw
    have hw_r8128 := hw
    generalize H1 = H at hP hS ⊢
    refine lv_if_ne (tgt := 24) hx hb dX12_done_19 (by decide) (fun c8129 => ?_) (fun c8129 => ?_)
    · skip
      have t8130 := cv_ne (a := r8128.toInt) rfl (b := 0) (by decide) c8129
      refine lv_aload_n hx hb dX12_done_24 rfl (lv_at hl 0 rfl) ?_
      refine va_get (D := (dC, dI)) (ci := 12) (v := .ref (g 34)) (C := RX12) (T := TX12) (N := 63) hx hb hwd inA_X12 hown hK hP 0 rfl rfl 48 (by decide) (hwd _ wk_216) (fun _ h9 => h9) rfl dX12_done_25 ?_
      refine lv_bipush (v := 10) hx hb dX12_done_28 (by decide) ?_
      refine lv_iload_n hx hb dX12_done_30 rfl (lv_at hl 1 rfl) ?_
      refine lv_imul hx hb dX12_done_31 ?_
      refine lv_topi (fun z8131 e8132 => ?_)
      try (have t8133 := tmul e8132 (a := 10) (by decide) (b := p0.toInt) rfl (by omega))
      refine lv_iload_n hx hb dX12_done_32 rfl (lv_at hl 2 rfl) ?_
      refine lv_iadd hx hb dX12_done_33 ?_
      refine lv_topi (fun z8134 e8135 => ?_)
      try (have t8136 := tadd e8135 (a := z8131.toInt) rfl (b := p1.toInt) rfl (by omega))
      refine va_zald hx hb hK hP 34 33 rfl rfl (i := z8134) (vin (a := z8134.toInt) rfl (by omega)) dX12_done_34 ?_
      refine lv_topi (fun z8137 e8138 => ?_)
      refine lv_if_ne (tgt := 47) hx hb dX12_done_35 (by decide) (fun c8139 => ?_) (fun c8139 => ?_)
      · skip
        have t8140 := cv_ne (a := z8137.toInt) rfl (b := 0) (by decide) c8139
        refine lv_bipush (v := (-2)) hx hb dX12_done_47 (by decide) ?_
        have hP9 : va_P (dC, dI) classes (wM g c v F rc) H := hP
        exact W.iret (v := (-2)) hx hb hr (fun t ht hW => ⟨⟨(-2), (v, F, rc), rfl, ⟨hI, rfl, (fun _ _ => rfl), hF, trivial⟩, (by show va_P _ _ _ t.heap; rw [ht]; exact hP9)⟩, hS.F ht⟩) hS.2.2 dX12_done_49
      · skip
        have t8141 := cv_eq (a := z8137.toInt) rfl (b := 0) (by decide) c8139
        refine lv_aload_n hx hb dX12_done_38 rfl (lv_at hl 0 rfl) ?_
        refine lv_iload_n hx hb dX12_done_39 rfl (lv_at hl 1 rfl) ?_
        refine lv_iload_n hx hb dX12_done_40 rfl (lv_at hl 2 rfl) ?_
        refine va_calli (va_runV (As := [.int p0, .int p1]) (rest := []) ⟨hx, hb, hml, hown, hwd⟩ (c_X12_asks l dC dI g c adK adV v F rc H.size p0 p1 hg hI (by omega) (by omega)) (cwV 2 hwd (gV wk_520 wk_517 wk_518 wk_519 wk_5) rfl rfl rfl (by decide +kernel) ⟨Nat.le_of_ble_eq_true rfl, Nat.le_of_ble_eq_true rfl⟩) ⟨PM.blind, va_recv hK hP (ci := 12) (q0 := 0) rfl rfl, fun U hU hW => ⟨rfl, PM.at hK hE hP hS hU hW⟩⟩ rfl rfl hl.1 rfl (lv_room (Nat.le_of_ble_eq_true rfl)) dX12_done_41 ⟨Nat.le_of_ble_eq_true rfl, Nat.le_of_ble_eq_true rfl⟩) hS (fun q _ h => (freeM hS) q h) (freeM hS) (fun r8142 u t H1 locs ht hvm hw hB hz1 hk1 hS => ?_)
        unfold BM at hB
        rw [ht] at hB
        have hP : va_P (dC, dI) classes (wM g c v F rc) H1 := hB
        have hw : 0 ≤ r8142.toInt ∧ r8142.toInt ≤ 1 := hw
        have hw_r8142 := hw
        generalize H1 = H at hP hS ⊢
        refine lv_if_ne (tgt := 50) hx hb dX12_done_44 (by decide) (fun c8143 => ?_) (fun c8143 => ?_)
        · skip
          have t8144 := cv_ne (a := r8142.toInt) rfl (b := 0) (by decide) c8143
          refine lv_aload_n hx hb dX12_done_50 rfl (lv_at hl 0 rfl) ?_
          refine va_get (D := (dC, dI)) (ci := 12) (v := .ref (g 34)) (C := RX12) (T := TX12) (N := 63) hx hb hwd inA_X12 hown hK hP 0 rfl rfl 48 (by decide) (hwd _ wk_216) (fun _ h9 => h9) rfl dX12_done_51 ?_
          refine lv_bipush (v := 10) hx hb dX12_done_54 (by decide) ?_
          refine lv_iload_n hx hb dX12_done_56 rfl (lv_at hl 1 rfl) ?_
          refine lv_imul hx hb dX12_done_57 ?_
          refine lv_topi (fun z8145 e8146 => ?_)
          try (have t8147 := tmul e8146 (a := 10) (by decide) (b := p0.toInt) rfl (by omega))
          refine lv_iload_n hx hb dX12_done_58 rfl (lv_at hl 2 rfl) ?_
          refine lv_iadd hx hb dX12_done_59 ?_
          refine lv_topi (fun z8148 e8149 => ?_)
          try (have t8150 := tadd e8149 (a := z8145.toInt) rfl (b := p1.toInt) rfl (by omega))
          refine lv_iconst (v := 1) hx hb dX12_done_60 (by decide) ?_
          refine va_zast hx hb hK hP (DM hg) hS 34 33 rfl rfl (i := z8148) (x := 1) (vin (a := z8148.toInt) rfl (by omega)) dX12_done_61 (fun H locs hP _ hS => ?_)
          have hP := va_P_eq (sM_34 g c _ _ _ _) hP
          have hI := IM.store0 hI 34 (z8148 : Int32).toNatClampNeg (vp_nar .boolean 1) rfl
          have hF := frUF (k := 34) (f := upd (F 34) (z8148 : Int32).toNatClampNeg (vp_nar .boolean 1)) (by decide) hF
          have hP : va_P (dC, dI) classes (wM g c v (va_up F 34 (upd (F 34) (z8148 : Int32).toNatClampNeg (vp_nar .boolean 1))) rc) H := hP
          generalize (va_up F 34 (upd (F 34) (z8148 : Int32).toNatClampNeg (vp_nar .boolean 1))) = F8151 at hP hI hF
          refine lv_iconst (v := 1) hx hb dX12_done_62 (by decide) ?_
          have hP9 : va_P (dC, dI) classes (wM g c v F8151 rc) H := hP
          exact W.iret (v := 1) hx hb hr (fun t ht hW => ⟨⟨1, (v, F8151, rc), rfl, ⟨hI, rfl, (fun _ _ => rfl), hF, trivial⟩, (by show va_P _ _ _ t.heap; rw [ht]; exact hP9)⟩, hS.F ht⟩) hS.2.2 dX12_done_63
        · skip
          have t8152 := cv_eq (a := r8142.toInt) rfl (b := 0) (by decide) c8143
          refine lv_bipush (v := (-2)) hx hb dX12_done_47 (by decide) ?_
          have hP9 : va_P (dC, dI) classes (wM g c v F rc) H := hP
          exact W.iret (v := (-2)) hx hb hr (fun t ht hW => ⟨⟨(-2), (v, F, rc), rfl, ⟨hI, rfl, (fun _ _ => rfl), hF, trivial⟩, (by show va_P _ _ _ t.heap; rw [ht]; exact hP9)⟩, hS.F ht⟩) hS.2.2 dX12_done_49
    · skip
      have t8153 := cv_eq (a := r8128.toInt) rfl (b := 0) (by decide) c8129
      refine lv_iconst (v := (-1)) hx hb dX12_done_22 (by decide) ?_
      have hP9 : va_P (dC, dI) classes (wM g c v F rc) H := hP
      exact W.iret (v := (-1)) hx hb hr (fun t ht hW => ⟨⟨(-1), (v, F, rc), rfl, ⟨hI, rfl, (fun _ _ => rfl), hF, trivial⟩, (by show va_P _ _ _ t.heap; rw [ht]; exact hP9)⟩, hS.F ht⟩) hS.2.2 dX12_done_23
set_option maxHeartbeats 8000000 in
set_option maxRecDepth 100000 in
theorem c_X12_board (l : Launch) (dC : Nat → ClassId) (dI : Nat → Nat → Nat) (g : Nat → Nat) (c : Nat → ClassId) (adK adV : Nat → Nat) (v : Nat → Int32) (F : Nat → Nat → Int32) (rc sz : Nat) (p0 : Int32) (hg : injM g) (hI : IM v F) : Met l yX12_board (Cond.code yX12_board cX12_board 3 none :: wA) ({ frames := 1, cells := 0, slots := 0, locals := 40 }) (va_Pc [.ref (g 0), .int p0] (PM dC dI g c adK adV v F rc sz)) (va_Qv (fun (u : StM) => IM u.1 u.2.1 ∧ u.2.2 = rc ∧ (∀ k, k ∉ ([] : List Nat) → u.1 k = v k) ∧ (∀ k, k ∉ ([42] : List Nat) → u.2.1 k = F k) ∧ (∀ j : Nat, (j : Int) < (v 14).toInt → (u.2.1 42 j).toInt ≠ 0 → (F 13 j).toInt = p0.toInt)) (BM dC dI g c) (AM g sz)) 0 0 (AM g sz) := by
  refine Met.ofW (cc := cX12_board) (maxL := 3) (ret := none) (by decide) rfl ?_
  intro p e s m args below meth c0 s₁ B hml hv
  obtain ⟨rfl, hsz, hP, hK, hE⟩ := hv
  have hx := B.exec
  have hb := B.bytes
  have hr := B.returns
  have hts := atoms_spec (ws := Cond.code yX12_board cX12_board 3 none :: wA) B.pre
  have hwd : ∀ w ∈ wA, w.before _ s = true := fun w h => hts w (List.mem_cons_of_mem _ h)
  have hown : s.vm.findClass RX12 = some m.cls := findClass_of_methodNamed B.named
  have hlocks := B.notSynchronized
  subst hsz
  have hl := lv_entry ([.ref (g 0), .int p0]) (n := 3) (Nat.le_of_ble_eq_true rfl)
  rw [lg_entry_eq]
  generalize (lg_sl ([.ref (g 0), .int p0]) ++ List.replicate (3 - (lg_sl ([.ref (g 0), .int p0])).length) Slot.unset).toArray = ls at hl ⊢
  have hl : lv_has ls 3 [(0, .ref (g 0)), (1, .int p0)] := hl
  obtain ⟨H, eH⟩ : ∃ z, z = s.heap := ⟨_, rfl⟩
  have hP : va_P (dC, dI) classes (wM g c v F rc) H := by rw [eH]; exact hP
  have hS : va_S (AM g s.heap.size) s.heap H [] := by rw [eH]; exact va_S.rf
  refine my_heap eH ?_
  have hF : ∀ k, k ∉ ([42] : List Nat) → F k = F k := fun _ _ => rfl
  have rp0 := i32_rng p0
  refine lv_iconst (v := 0) hx hb dX12_board_0 (by decide) ?_
  refine lv_istore_n (lv' := [(2, .int 0), (0, .ref (g 0)), (1, .int p0)]) hx hb dX12_board_1 rfl hl (by decide) rfl (fun ls hl => ?_)
  have lp8179 : ∀ (n : Nat) (x2_lp8179 : Int32) (v_lp8179 : Nat → Int32) (F_lp8179 : Nat → Nat → Int32) (H : Heap) (locs : List Loc) (ls : Array Slot), (0 ≤ x2_lp8179.toInt) → (∀ j : Nat, (j : Int) < x2_lp8179.toInt → (F_lp8179 42 j).toInt ≠ 0 → (F 13 j).toInt = p0.toInt) → (2147483648 - x2_lp8179.toInt ≤ (n : Int)) → (∀ k, k ∉ ([] : List Nat) → v_lp8179 k = v k) → IM v_lp8179 F_lp8179 → (∀ k, k ∉ ([42] : List Nat) → F_lp8179 k = F k) → va_P (dC, dI) classes (wM g c v_lp8179 F_lp8179 rc) H → va_S (AM g s.heap.size) s.heap H locs → lv_has ls 3 [(2, .int x2_lp8179), (0, .ref (g 0)), (1, .int p0)] → W p l e (headSpec (Cond.code yX12_board cX12_board 3 none :: wA) ({ frames := 1, cells := 0, slots := 0, locals := 40 })).room s m ([.ref (g 0), .int p0] : List Value).toArray below meth c0 H locs 0 0 (MQ below (va_Qv (fun (u : StM) => IM u.1 u.2.1 ∧ u.2.2 = rc ∧ (∀ k, k ∉ ([] : List Nat) → u.1 k = v k) ∧ (∀ k, k ∉ ([42] : List Nat) → u.2.1 k = F k) ∧ (∀ j : Nat, (j : Int) < (v 14).toInt → (u.2.1 42 j).toInt ≠ 0 → (F 13 j).toInt = p0.toInt)) (BM dC dI g c) (AM g s.heap.size)) ([.ref (g 0), .int p0] : List Value).toArray s 0 0 (AM g s.heap.size)) (F0 m 2 ls []) := by
    intro n
    induction n with
    | zero =>
      intro x2_lp8179 v_lp8179 F_lp8179 H locs ls t8180 t8181 hm hf_lp8179 hI hF hP hS hl
      exfalso
      have := i32_rng x2_lp8179
      have hI1 := hI.1
      omega
    | succ n ih_lp8179 =>
      intro x2_lp8179 v_lp8179 F_lp8179 H locs ls t8180 t8181 hm hf_lp8179 hI hF hP hS hl
      have rx2_lp8179 := i32_rng x2_lp8179
      refine lv_iload_n hx hb dX12_board_2 rfl (lv_at hl 0 rfl) ?_
      refine lv_aload_n hx hb dX12_board_3 rfl (lv_at hl 1 rfl) ?_
      refine va_get (D := (dC, dI)) (ci := 12) (v := .int (v_lp8179 14)) (C := RX12) (T := TX12) (N := 63) hx hb hwd inA_X12 hown hK hP 0 rfl rfl 14 (by decide) (hwd _ wk_318) (fun _ h9 => h9) rfl dX12_board_4 ?_
      refine my_top (v := v 14) (hf_lp8179 14 (by decide)) ?_
      have t8182 : 0 ≤ (v 14).toInt ∧ (v 14).toInt ≤ 100 := by have h9 := hI.1 14 _ _ rfl; rw [show v_lp8179 14 = v 14 from hf_lp8179 14 (by decide)] at h9; exact h9
      refine lv_icmp_ge (tgt := 37) hx hb dX12_board_7 (by decide) (fun c8183 => ?_) (fun c8183 => ?_)
      · skip
        have t8184 := cv_le (a := (v 14).toInt) rfl (b := x2_lp8179.toInt) rfl c8183
        have hP9 : va_P (dC, dI) classes (wM g c v_lp8179 F_lp8179 rc) H := hP
        exact W.vret hx hb hr (fun t ht hW => ⟨⟨(v_lp8179, F_lp8179, rc), rfl, ⟨hI, rfl, (frC (by decide) hf_lp8179 (fun _ _ => rfl)), hF, (fun j h1 h2 => t8181 j (by have h9 : v_lp8179 14 = v 14 := hf_lp8179 14 (by decide); omega) h2)⟩, (by show va_P _ _ _ t.heap; rw [ht]; exact hP9)⟩, hS.F ht⟩) hS.2.2 dX12_board_37
      · skip
        have t8185 := cv_nle (a := (v 14).toInt) rfl (b := x2_lp8179.toInt) rfl c8183
        refine lv_aload_n hx hb dX12_board_10 rfl (lv_at hl 1 rfl) ?_
        refine va_get (D := (dC, dI)) (ci := 12) (v := .ref (g 42)) (C := RX12) (T := TX12) (N := 63) hx hb hwd inA_X12 hown hK hP 0 rfl rfl 56 (by decide) (hwd _ wk_224) (fun _ h9 => h9) rfl dX12_board_11 ?_
        refine lv_iload_n hx hb dX12_board_14 rfl (lv_at hl 0 rfl) ?_
        refine lv_aload_n hx hb dX12_board_15 rfl (lv_at hl 1 rfl) ?_
        refine va_get (D := (dC, dI)) (ci := 12) (v := .ref (g 13)) (C := RX12) (T := TX12) (N := 63) hx hb hwd inA_X12 hown hK hP 0 rfl rfl 17 (by decide) (hwd _ wk_194) (fun _ h9 => h9) rfl dX12_board_16 ?_
        refine lv_iload_n hx hb dX12_board_19 rfl (lv_at hl 0 rfl) ?_
        refine va_iald hx hb hK hP 13 12 rfl rfl (i := x2_lp8179) (vin (a := x2_lp8179.toInt) rfl (by omega)) dX12_board_20 ?_
        refine lv_topi (fun z8186 e8187 => ?_)
        have t8188 : 0 ≤ z8186.toInt ∧ z8186.toInt ≤ 12 := by rw [e8187]; exact hI.2 13 _ _ rfl _
        have e8187 : z8186 = F 13 (x2_lp8179 : Int32).toNatClampNeg := e8187.trans (congrFun (hF 13 (by decide)) _)
        have tzz8186 : z8186.toInt = (F 13 (x2_lp8179 : Int32).toNatClampNeg).toInt := congrArg Int32.toInt e8187
        refine lv_iload_n hx hb dX12_board_21 rfl (lv_at hl 2 rfl) ?_
        refine lv_icmp_ne (tgt := 29) hx hb dX12_board_22 (by decide) (fun c8189 => ?_) (fun c8189 => ?_)
        · skip
          have t8190 := cv_ne (a := z8186.toInt) rfl (b := p0.toInt) rfl c8189
          refine lv_iconst (v := 0) hx hb dX12_board_29 (by decide) ?_
          refine va_zast hx hb hK hP (DM hg) hS 42 41 rfl rfl (i := x2_lp8179) (x := 0) (vin (a := x2_lp8179.toInt) rfl (by omega)) dX12_board_30 (fun H locs hP _ hS => ?_)
          have hP := va_P_eq (sM_42 g c _ _ _ _) hP
          have hI := IM.store0 hI 42 (x2_lp8179 : Int32).toNatClampNeg (vp_nar .boolean 0) rfl
          have hF := frUF (k := 42) (f := upd (F_lp8179 42) (x2_lp8179 : Int32).toNatClampNeg (vp_nar .boolean 0)) (by decide) hF
          have st8192 : (va_up F_lp8179 42 (upd (F_lp8179 42) (x2_lp8179 : Int32).toNatClampNeg (vp_nar .boolean 0))) 42 = upd (F_lp8179 42) (x2_lp8179 : Int32).toNatClampNeg (vp_nar .boolean 0) := va_up_self _ _ _
          have sn8193 : ∀ k9, k9 ≠ 42 → (va_up F_lp8179 42 (upd (F_lp8179 42) (x2_lp8179 : Int32).toNatClampNeg (vp_nar .boolean 0))) k9 = F_lp8179 k9 := fun k9 h9 => va_up_ne _ _ h9
          have hP : va_P (dC, dI) classes (wM g c v_lp8179 (va_up F_lp8179 42 (upd (F_lp8179 42) (x2_lp8179 : Int32).toNatClampNeg (vp_nar .boolean 0))) rc) H := hP
          generalize (va_up F_lp8179 42 (upd (F_lp8179 42) (x2_lp8179 : Int32).toNatClampNeg (vp_nar .boolean 0))) = F8191 at hP hI hF st8192 sn8193
          obtain ⟨z8194, e8195⟩ : ∃ y : Int32, y = x2_lp8179 + 1 := ⟨_, rfl⟩
          try (have t8196 := tadd e8195 rfl (b := 1) (by decide) (by omega))
          refine lv_iinc (v := z8194) (lv' := [(2, .int z8194), (0, .ref (g 0)), (1, .int p0)]) hx hb dX12_board_31 hl (k := 0) rfl (by rw [e8195]; rfl) (by decide) rfl (fun ls hl => ?_)
          refine lv_goto (tgt := 2) hx hb dX12_board_34 (by decide) ?_
          exact ih_lp8179 z8194 v_lp8179 F8191 _ _ _ (by omega) (bd_step (by omega) st8192 t8181 (by first | exact (fun _ => by omega) | exact (fun h => absurd (by decide) h))) (by omega) hf_lp8179 hI hF hP hS (lv_sub hl [0, 1, 2] rfl)
        · skip
          have t8197 := cv_eq (a := z8186.toInt) rfl (b := p0.toInt) rfl c8189
          refine lv_iconst (v := 1) hx hb dX12_board_25 (by decide) ?_
          refine lv_goto (tgt := 30) hx hb dX12_board_26 (by decide) ?_
          refine va_zast hx hb hK hP (DM hg) hS 42 41 rfl rfl (i := x2_lp8179) (x := 1) (vin (a := x2_lp8179.toInt) rfl (by omega)) dX12_board_30 (fun H locs hP _ hS => ?_)
          have hP := va_P_eq (sM_42 g c _ _ _ _) hP
          have hI := IM.store0 hI 42 (x2_lp8179 : Int32).toNatClampNeg (vp_nar .boolean 1) rfl
          have hF := frUF (k := 42) (f := upd (F_lp8179 42) (x2_lp8179 : Int32).toNatClampNeg (vp_nar .boolean 1)) (by decide) hF
          have st8199 : (va_up F_lp8179 42 (upd (F_lp8179 42) (x2_lp8179 : Int32).toNatClampNeg (vp_nar .boolean 1))) 42 = upd (F_lp8179 42) (x2_lp8179 : Int32).toNatClampNeg (vp_nar .boolean 1) := va_up_self _ _ _
          have sn8200 : ∀ k9, k9 ≠ 42 → (va_up F_lp8179 42 (upd (F_lp8179 42) (x2_lp8179 : Int32).toNatClampNeg (vp_nar .boolean 1))) k9 = F_lp8179 k9 := fun k9 h9 => va_up_ne _ _ h9
          have hP : va_P (dC, dI) classes (wM g c v_lp8179 (va_up F_lp8179 42 (upd (F_lp8179 42) (x2_lp8179 : Int32).toNatClampNeg (vp_nar .boolean 1))) rc) H := hP
          generalize (va_up F_lp8179 42 (upd (F_lp8179 42) (x2_lp8179 : Int32).toNatClampNeg (vp_nar .boolean 1))) = F8198 at hP hI hF st8199 sn8200
          obtain ⟨z8201, e8202⟩ : ∃ y : Int32, y = x2_lp8179 + 1 := ⟨_, rfl⟩
          try (have t8203 := tadd e8202 rfl (b := 1) (by decide) (by omega))
          refine lv_iinc (v := z8201) (lv' := [(2, .int z8201), (0, .ref (g 0)), (1, .int p0)]) hx hb dX12_board_31 hl (k := 0) rfl (by rw [e8202]; rfl) (by decide) rfl (fun ls hl => ?_)
          refine lv_goto (tgt := 2) hx hb dX12_board_34 (by decide) ?_
          exact ih_lp8179 z8201 v_lp8179 F8198 _ _ _ (by omega) (bd_step (by omega) st8199 t8181 (by first | exact (fun _ => by omega) | exact (fun h => absurd (by decide) h))) (by omega) hf_lp8179 hI hF hP hS (lv_sub hl [0, 1, 2] rfl)
  obtain ⟨n9, hn9⟩ : ∃ n : Nat, 2147483648 - 0 ≤ (n : Int) := ⟨((2147483648 - 0 : Int)).toNat, by omega⟩
  exact lp8179 n9 0 v F H _ ls (by have : (0 : Int32).toInt = 0 := (by decide); omega) (fun j h => absurd h (by have : (0 : Int32).toInt = 0 := (by decide); omega)) (by have : (0 : Int32).toInt = 0 := (by decide); omega) (fun _ _ => rfl) hI hF hP hS hl
