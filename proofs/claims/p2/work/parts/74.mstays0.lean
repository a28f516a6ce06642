set_option maxHeartbeats 8000000 in
set_option maxRecDepth 100000 in
theorem c_X12_isGap (l : Launch) (dC : Nat → ClassId) (dI : Nat → Nat → Nat) (g : Nat → Nat) (c : Nat → ClassId) (adK adV : Nat → Nat) (v : Nat → Int32) (F : Nat → Nat → Int32) (rc sz : Nat) (p0 : Int32) (hg : injM g) (hI : IM v F) (h0 : 0 ≤ p0.toInt ∧ p0.toInt ≤ 499) : Met l yX12_isGap (Cond.code yX12_isGap cX12_isGap 2 (some .boolean) :: wA) ({ frames := 1, cells := 0, slots := 0, locals := 40 }) (va_Pc [.ref (g 0), .int p0] (PM dC dI g c adK adV v F rc sz)) (va_Qi (fun (r : Int32) (u : Unit) => 0 ≤ r.toInt ∧ r.toInt ≤ 1) (fun (_ : Unit) => BM dC dI g c (v, F, rc)) (AM g sz)) 0 0 (AM g sz) := by
  refine Met.ofW (cc := cX12_isGap) (maxL := 2) (ret := (some .boolean)) (by decide) rfl ?_
  intro p e s m args below meth c0 s₁ B hml hv
  obtain ⟨rfl, hsz, hP, hK, hE⟩ := hv
  have hx := B.exec
  have hb := B.bytes
  have hr := B.returns
  have hts := atoms_spec (ws := Cond.code yX12_isGap cX12_isGap 2 (some .boolean) :: wA) B.pre
  have hwd : ∀ w ∈ wA, w.before _ s = true := fun w h => hts w (List.mem_cons_of_mem _ h)
  have hown : s.vm.findClass RX12 = some m.cls := findClass_of_methodNamed B.named
  have hlocks := B.notSynchronized
  subst hsz
  have hl := lv_entry ([.ref (g 0), .int p0]) (n := 2) (Nat.le_of_ble_eq_true rfl)
  rw [lg_entry_eq]
  generalize (lg_sl ([.ref (g 0), .int p0]) ++ List.replicate (2 - (lg_sl ([.ref (g 0), .int p0])).length) Slot.unset).toArray = ls at hl ⊢
  have hl : lv_has ls 2 [(0, .ref (g 0)), (1, .int p0)] := hl
  obtain ⟨H, eH⟩ : ∃ z, z = s.heap := ⟨_, rfl⟩
  have hP : va_P (dC, dI) classes (wM g c v F rc) H := by rw [eH]; exact hP
  have hS : va_S (AM g s.heap.size) s.heap H [] := by rw [eH]; exact va_S.rf
  refine my_heap eH ?_
  have rp0 := i32_rng p0
  refine lv_aload_n hx hb dX12_isGap_0 rfl (lv_at hl 0 rfl) ?_
  refine va_get (D := (dC, dI)) (ci := 12) (v := .ref (g 18)) (C := RX12) (T := TX12) (N := 63) hx hb hwd inA_X12 hown hK hP 0 rfl rfl 23 (by decide) (hwd _ wk_199) (fun _ h9 => h9) rfl dX12_isGap_1 ?_
  refine lv_iload_n hx hb dX12_isGap_4 rfl (lv_at hl 1 rfl) ?_
  refine va_iald hx hb hK hP 18 17 rfl rfl (i := p0) (vin (a := p0.toInt) rfl (by omega)) dX12_isGap_5 ?_
  refine lv_topi (fun z7776 e7777 => ?_)
  refine lv_ldc (v := 1000000) hx hb hown (hwd _ wk_500) dX12_isGap_6 ?_
  refine lv_icmp_eq (tgt := 24) hx hb dX12_isGap_8 (by decide) (fun c7778 => ?_) (fun c7778 => ?_)
  · skip
    have t7779 := cv_eq (a := z7776.toInt) rfl (b := 1000000) (by decide) c7778
    refine lv_iconst (v := 0) hx hb dX12_isGap_24 (by decide) ?_
    have hP9 : va_P (dC, dI) classes (wM g c v F rc) H := hP
    exact W.zret (v := 0) hx hb hr (rfl) (fun t ht hW => ⟨⟨0, (), rfl, by have : (0 : Int32).toInt = 0 := (by decide); omega, (by show va_P _ _ _ t.heap; rw [ht]; exact hP9)⟩, hS.F ht⟩) hS.2.2 dX12_isGap_25
  · skip
    have t7780 := cv_ne (a := z7776.toInt) rfl (b := 1000000) (by decide) c7778
    refine lv_aload_n hx hb dX12_isGap_11 rfl (lv_at hl 0 rfl) ?_
    refine va_get (D := (dC, dI)) (ci := 12) (v := .ref (g 23)) (C := RX12) (T := TX12) (N := 63) hx hb hwd inA_X12 hown hK hP 0 rfl rfl 28 (by decide) (hwd _ wk_204) (fun _ h9 => h9) rfl dX12_isGap_12 ?_
    refine lv_iload_n hx hb dX12_isGap_15 rfl (lv_at hl 1 rfl) ?_
    refine va_zald hx hb hK hP 23 22 rfl rfl (i := p0) (vin (a := p0.toInt) rfl (by omega)) dX12_isGap_16 ?_
    refine lv_topi (fun z7781 e7782 => ?_)
    refine lv_if_ne (tgt := 24) hx hb dX12_isGap_17 (by decide) (fun c7783 => ?_) (fun c7783 => ?_)
    · skip
      have t7784 := cv_ne (a := z7781.toInt) rfl (b := 0) (by decide) c7783
      refine lv_iconst (v := 0) hx hb dX12_isGap_24 (by decide) ?_
      have hP9 : va_P (dC, dI) classes (wM g c v F rc) H := hP
      exact W.zret (v := 0) hx hb hr (rfl) (fun t ht hW => ⟨⟨0, (), rfl, by have : (0 : Int32).toInt = 0 := (by decide); omega, (by show va_P _ _ _ t.heap; rw [ht]; exact hP9)⟩, hS.F ht⟩) hS.2.2 dX12_isGap_25
    · skip
      have t7785 := cv_eq (a := z7781.toInt) rfl (b := 0) (by decide) c7783
      refine lv_iconst (v := 1) hx hb dX12_isGap_20 (by decide) ?_
      refine lv_goto (tgt := 25) hx hb dX12_isGap_21 (by decide) ?_
      have hP9 : va_P (dC, dI) classes (wM g c v F rc) H := hP
      exact W.zret (v := 1) hx hb hr (rfl) (fun t ht hW => ⟨⟨1, (), rfl, by have : (1 : Int32).toInt = 1 := (by decide); omega, (by show va_P _ _ _ t.heap; rw [ht]; exact hP9)⟩, hS.F ht⟩) hS.2.2 dX12_isGap_25
set_option maxHeartbeats 8000000 in
set_option maxRecDepth 100000 in
theorem c_X12_gapsOf (l : Launch) (dC : Nat → ClassId) (dI : Nat → Nat → Nat) (g : Nat → Nat) (c : Nat → ClassId) (adK adV : Nat → Nat) (v : Nat → Int32) (F : Nat → Nat → Int32) (rc sz : Nat) (p0 : Int32) (hg : injM g) (hI : IM v F) : Met l yX12_gapsOf (Cond.code yX12_gapsOf cX12_gapsOf 4 (some .int) :: wA) ({ frames := 2, cells := 0, slots := 0, locals := 80 }) (va_Pc [.ref (g 0), .int p0] (PM dC dI g c adK adV v F rc sz)) (va_Qi (fun (r : Int32) (u : Unit) => True) (fun (_ : Unit) => BM dC dI g c (v, F, rc)) (AM g sz)) 0 0 (AM g sz) := by
  refine Met.ofW (cc := cX12_gapsOf) (maxL := 4) (ret := (some .int)) (by decide) rfl ?_
  intro p e s m args below meth c0 s₁ B hml hv
  obtain ⟨rfl, hsz, hP, hK, hE⟩ := hv
  have hx := B.exec
  have hb := B.bytes
  have hr := B.returns
  have hts := atoms_spec (ws := Cond.code yX12_gapsOf cX12_gapsOf 4 (some .int) :: wA) B.pre
  have hwd : ∀ w ∈ wA, w.before _ s = true := fun w h => hts w (List.mem_cons_of_mem _ h)
  have hown : s.vm.findClass RX12 = some m.cls := findClass_of_methodNamed B.named
  have hlocks := B.notSynchronized
  subst hsz
  have hl := lv_entry ([.ref (g 0), .int p0]) (n := 4) (Nat.le_of_ble_eq_true rfl)
  rw [lg_entry_eq]
  generalize (lg_sl ([.ref (g 0), .int p0]) ++ List.replicate (4 - (lg_sl ([.ref (g 0), .int p0])).length) Slot.unset).toArray = ls at hl ⊢
  have hl : lv_has ls 4 [(0, .ref (g 0)), (1, .int p0)] := hl
  obtain ⟨H, eH⟩ : ∃ z, z = s.heap := ⟨_, rfl⟩
  have hP : va_P (dC, dI) classes (wM g c v F rc) H := by rw [eH]; exact hP
  have hS : va_S (AM g s.heap.size) s.heap H [] := by rw [eH]; exact va_S.rf
  refine my_heap eH ?_
  have rp0 := i32_rng p0
  refine lv_iconst (v := 0) hx hb dX12_gapsOf_0 (by decide) ?_
  refine lv_istore_n (lv' := [(2, .int 0), (0, .ref (g 0)), (1, .int p0)]) hx hb dX12_gapsOf_1 rfl hl (by decide) rfl (fun ls hl => ?_)
  refine lv_iconst (v := 0) hx hb dX12_gapsOf_2 (by decide) ?_
  refine lv_istore_n (lv' := [(3, .int 0), (2, .int 0), (0, .ref (g 0)), (1, .int p0)]) hx hb dX12_gapsOf_3 rfl hl (by decide) rfl (fun ls hl => ?_)
  have lp7786 : ∀ (n : Nat) (x3_lp7786 : Int32) (x2_lp7786 : Int32) (H : Heap) (locs : List Loc) (ls : Array Slot), (0 ≤ x3_lp7786.toInt) → (2147483648 - x3_lp7786.toInt ≤ (n : Int)) → va_P (dC, dI) classes (wM g c v F rc) H → va_S (AM g s.heap.size) s.heap H locs → lv_has ls 4 [(3, .int x3_lp7786), (2, .int x2_lp7786), (0, .ref (g 0)), (1, .int p0)] → W p l e (headSpec (Cond.code yX12_gapsOf cX12_gapsOf 4 (some .int) :: wA) ({ frames := 2, cells := 0, slots := 0, locals := 80 })).room s m ([.ref (g 0), .int p0] : List Value).toArray below meth c0 H locs 0 0 (MQ below (va_Qi (fun (r : Int32) (u : Unit) => True) (fun (_ : Unit) => BM dC dI g c (v, F, rc)) (AM g s.heap.size)) ([.ref (g 0), .int p0] : List Value).toArray s 0 0 (AM g s.heap.size)) (F0 m 4 ls []) := by
    intro n
    induction n with
    | zero =>
      intro x3_lp7786 x2_lp7786 H locs ls t7787 hm hP hS hl
      exfalso
      have := i32_rng x3_lp7786
      have := i32_rng x2_lp7786
      omega
    | succ n ih_lp7786 =>
      intro x3_lp7786 x2_lp7786 H locs ls t7787 hm hP hS hl
      have rx3_lp7786 := i32_rng x3_lp7786
      have rx2_lp7786 := i32_rng x2_lp7786
      refine lv_iload_n hx hb dX12_gapsOf_4 rfl (lv_at hl 0 rfl) ?_
      refine lv_aload_n hx hb dX12_gapsOf_5 rfl (lv_at hl 2 rfl) ?_
      refine va_get (D := (dC, dI)) (ci := 12) (v := .int (v 19)) (C := RX12) (T := TX12) (N := 63) hx hb hwd inA_X12 hown hK hP 0 rfl rfl 19 (by decide) (hwd _ wk_494) (fun _ h9 => h9) rfl dX12_gapsOf_6 ?_
      have t7788 : 0 ≤ (v 19).toInt ∧ (v 19).toInt ≤ 500 := hI.1 19 _ _ rfl
      refine lv_icmp_ge (tgt := 44) hx hb dX12_gapsOf_9 (by decide) (fun c7789 => ?_) (fun c7789 => ?_)
      · skip
        have t7790 := cv_le (a := (v 19).toInt) rfl (b := x3_lp7786.toInt) rfl c7789
        refine lv_iload_n hx hb dX12_gapsOf_44 rfl (lv_at hl 1 rfl) ?_
        have hP9 : va_P (dC, dI) classes (wM g c v F rc) H := hP
        exact W.iret (v := x2_lp7786) hx hb hr (fun t ht hW => ⟨⟨x2_lp7786, (), rfl, trivial, (by show va_P _ _ _ t.heap; rw [ht]; exact hP9)⟩, hS.F ht⟩) hS.2.2 dX12_gapsOf_45
      · skip
        have t7791 := cv_nle (a := (v 19).toInt) rfl (b := x3_lp7786.toInt) rfl c7789
        refine lv_iload_n hx hb dX12_gapsOf_12 rfl (lv_at hl 1 rfl) ?_
        refine lv_aload_n hx hb dX12_gapsOf_13 rfl (lv_at hl 2 rfl) ?_
        refine va_get (D := (dC, dI)) (ci := 12) (v := .ref (g 15)) (C := RX12) (T := TX12) (N := 63) hx hb hwd inA_X12 hown hK hP 0 rfl rfl 20 (by decide) (hwd _ wk_196) (fun _ h9 => h9) rfl dX12_gapsOf_14 ?_
        refine lv_iload_n hx hb dX12_gapsOf_17 rfl (lv_at hl 0 rfl) ?_
        refine va_iald hx hb hK hP 15 14 rfl rfl (i := x3_lp7786) (vin (a := x3_lp7786.toInt) rfl (by omega)) dX12_gapsOf_18 ?_
        refine lv_topi (fun z7792 e7793 => ?_)
        have t7794 : 0 ≤ z7792.toInt ∧ z7792.toInt ≤ 99 := by rw [e7793]; exact hI.2 15 _ _ rfl _
        refine lv_iload_n hx hb dX12_gapsOf_19 rfl (lv_at hl 3 rfl) ?_
        refine lv_icmp_ne (tgt := 35) hx hb dX12_gapsOf_20 (by decide) (fun c7795 => ?_) (fun c7795 => ?_)
        · skip
          have t7796 := cv_ne (a := z7792.toInt) rfl (b := p0.toInt) rfl c7795
          refine lv_iconst (v := 0) hx hb dX12_gapsOf_35 (by decide) ?_
          refine lv_iadd hx hb dX12_gapsOf_36 ?_
          refine lv_topi (fun z7797 e7798 => ?_)
          try (have t7799 := tadd e7798 (a := x2_lp7786.toInt) rfl (b := 0) (by decide) (by omega))
          refine lv_istore_n (lv' := [(2, .int z7797), (3, .int x3_lp7786), (0, .ref (g 0)), (1, .int p0)]) hx hb dX12_gapsOf_37 rfl hl (by decide) rfl (fun ls hl => ?_)
          obtain ⟨z7800, e7801⟩ : ∃ y : Int32, y = x3_lp7786 + 1 := ⟨_, rfl⟩
          try (have t7802 := tadd e7801 rfl (b := 1) (by decide) (by omega))
          refine lv_iinc (v := z7800) (lv' := [(3, .int z7800), (2, .int z7797), (0, .ref (g 0)), (1, .int p0)]) hx hb dX12_gapsOf_38 hl (k := 1) rfl (by rw [e7801]; rfl) (by decide) rfl (fun ls hl => ?_)
          refine lv_goto (tgt := 4) hx hb dX12_gapsOf_41 (by decide) ?_
          exact ih_lp7786 z7800 z7797  _ _ _ (by omega) (by omega) hP hS (lv_sub hl [0, 1, 2, 3] rfl)
        · skip
          have t7803 := cv_eq (a := z7792.toInt) rfl (b := p0.toInt) rfl c7795
          refine lv_aload_n hx hb dX12_gapsOf_23 rfl (lv_at hl 2 rfl) ?_
          refine lv_iload_n hx hb dX12_gapsOf_24 rfl (lv_at hl 0 rfl) ?_
          refine va_calli (va_runV (As := [.int x3_lp7786]) (rest := [.int x2_lp7786]) ⟨hx, hb, hml, hown, hwd⟩ (c_X12_isGap l dC dI g c adK adV v F rc H.size x3_lp7786 hg hI (by omega)) (cwV 1 hwd (gV wk_499 wk_496 wk_497 wk_498 wk_5) rfl rfl rfl (by decide +kernel) ⟨Nat.le_of_ble_eq_true rfl, Nat.le_of_ble_eq_true rfl⟩) ⟨PM.blind, va_recv hK hP (ci := 12) (q0 := 0) rfl rfl, fun U hU hW => ⟨rfl, PM.at hK hE hP hS hU hW⟩⟩ rfl rfl hl.1 rfl (lv_room (Nat.le_of_ble_eq_true rfl)) dX12_gapsOf_25 ⟨Nat.le_of_ble_eq_true rfl, Nat.le_of_ble_eq_true rfl⟩) hS (fun q _ h => (freeM hS) q h) (freeM hS) (fun r7804 u t H1 locs ht hvm hw hB hz1 hk1 hS => ?_)
          unfold BM at hB
          rw [ht] at hB
          have hP : va_P (dC, dI) classes (wM g c v F rc) H1 := hB
          have hw_r7804 : 0 ≤ r7804.toInt ∧ r7804.toInt ≤ 1 := hw
          clear hw
          clear hz1
          generalize H1 = H at hP hS ⊢
          refine lv_if_eq (tgt := 35) hx hb dX12_gapsOf_28 (by decide) (fun c7805 => ?_) (fun c7805 => ?_)
          · skip
            have t7806 := cv_eq (a := r7804.toInt) rfl (b := 0) (by decide) c7805
            refine lv_iconst (v := 0) hx hb dX12_gapsOf_35 (by decide) ?_
            refine lv_iadd hx hb dX12_gapsOf_36 ?_
            refine lv_topi (fun z7807 e7808 => ?_)
            try (have t7809 := tadd e7808 (a := x2_lp7786.toInt) rfl (b := 0) (by decide) (by omega))
            refine lv_istore_n (lv' := [(2, .int z7807), (3, .int x3_lp7786), (0, .ref (g 0)), (1, .int p0)]) hx hb dX12_gapsOf_37 rfl hl (by decide) rfl (fun ls hl => ?_)
            obtain ⟨z7810, e7811⟩ : ∃ y : Int32, y = x3_lp7786 + 1 := ⟨_, rfl⟩
            try (have t7812 := tadd e7811 rfl (b := 1) (by decide) (by omega))
            refine lv_iinc (v := z7810) (lv' := [(3, .int z7810), (2, .int z7807), (0, .ref (g 0)), (1, .int p0)]) hx hb dX12_gapsOf_38 hl (k := 1) rfl (by rw [e7811]; rfl) (by decide) rfl (fun ls hl => ?_)
            refine lv_goto (tgt := 4) hx hb dX12_gapsOf_41 (by decide) ?_
            exact ih_lp7786 z7810 z7807  _ _ _ (by omega) (by omega) hP hS (lv_sub hl [0, 1, 2, 3] rfl)
          · skip
            have t7813 := cv_ne (a := r7804.toInt) rfl (b := 0) (by decide) c7805
            refine lv_iconst (v := 1) hx hb dX12_gapsOf_31 (by decide) ?_
            refine lv_goto (tgt := 36) hx hb dX12_gapsOf_32 (by decide) ?_
            refine lv_iadd hx hb dX12_gapsOf_36 ?_
            refine lv_topi (fun z7814 e7815 => ?_)
            try (have t7816 := tadd e7815 (a := x2_lp7786.toInt) rfl (b := 1) (by decide) (by omega))
            refine lv_istore_n (lv' := [(2, .int z7814), (3, .int x3_lp7786), (0, .ref (g 0)), (1, .int p0)]) hx hb dX12_gapsOf_37 rfl hl (by decide) rfl (fun ls hl => ?_)
            obtain ⟨z7817, e7818⟩ : ∃ y : Int32, y = x3_lp7786 + 1 := ⟨_, rfl⟩
            try (have t7819 := tadd e7818 rfl (b := 1) (by decide) (by omega))
            refine lv_iinc (v := z7817) (lv' := [(3, .int z7817), (2, .int z7814), (0, .ref (g 0)), (1, .int p0)]) hx hb dX12_gapsOf_38 hl (k := 1) rfl (by rw [e7818]; rfl) (by decide) rfl (fun ls hl => ?_)
            refine lv_goto (tgt := 4) hx hb dX12_gapsOf_41 (by decide) ?_
            exact ih_lp7786 z7817 z7814  _ _ _ (by omega) (by omega) hP hS (lv_sub hl [0, 1, 2, 3] rfl)
  obtain ⟨n9, hn9⟩ : ∃ n : Nat, 2147483648 - 0 ≤ (n : Int) := ⟨((2147483648 - 0 : Int)).toNat, by omega⟩
  exact lp7786 n9 0 0  H _ ls (by have : (0 : Int32).toInt = 0 := (by decide); have : (0 : Int32).toInt = 0 := (by decide); omega) (by have : (0 : Int32).toInt = 0 := (by decide); have : (0 : Int32).toInt = 0 := (by decide); omega) hP hS hl
set_option maxHeartbeats 8000000 in
set_option maxRecDepth 100000 in
theorem c_X12_lastDay (l : Launch) (dC : Nat → ClassId) (dI : Nat → Nat → Nat) (g : Nat → Nat) (c : Nat → ClassId) (adK adV : Nat → Nat) (v : Nat → Int32) (F : Nat → Nat → Int32) (rc sz : Nat) (p0 : Int32) (hg : injM g) (hI : IM v F) (h0 : 0 ≤ p0.toInt ∧ p0.toInt ≤ 499) : Met l yX12_lastDay (Cond.code yX12_lastDay cX12_lastDay 2 (some .int) :: wA) ({ frames := 1, cells := 0, slots := 0, locals := 40 }) (va_Pc [.ref (g 0), .int p0] (PM dC dI g c adK adV v F rc sz)) (va_Qi (fun (r : Int32) (u : Unit) => True) (fun (_ : Unit) => BM dC dI g c (v, F, rc)) (AM g sz)) 0 0 (AM g sz) := by
  refine Met.ofW (cc := cX12_lastDay) (maxL := 2) (ret := (some .int)) (by decide) rfl ?_
  intro p e s m args below meth c0 s₁ B hml hv
  obtain ⟨rfl, hsz, hP, hK, hE⟩ := hv
  have hx := B.exec
  have hb := B.bytes
  have hr := B.returns
  have hts := atoms_spec (ws := Cond.code yX12_lastDay cX12_lastDay 2 (some .int) :: wA) B.pre
  have hwd : ∀ w ∈ wA, w.before _ s = true := fun w h => hts w (List.mem_cons_of_mem _ h)
  have hown : s.vm.findClass RX12 = some m.cls := findClass_of_methodNamed B.named
  have hlocks := B.notSynchronized
  subst hsz
  have hl := lv_entry ([.ref (g 0), .int p0]) (n := 2) (Nat.le_of_ble_eq_true rfl)
  rw [lg_entry_eq]
  generalize (lg_sl ([.ref (g 0), .int p0]) ++ List.replicate (2 - (lg_sl ([.ref (g 0), .int p0])).length) Slot.unset).toArray = ls at hl ⊢
  have hl : lv_has ls 2 [(0, .ref (g 0)), (1, .int p0)] := hl
  obtain ⟨H, eH⟩ : ∃ z, z = s.heap := ⟨_, rfl⟩
  have hP : va_P (dC, dI) classes (wM g c v F rc) H := by rw [eH]; exact hP
  have hS : va_S (AM g s.heap.size) s.heap H [] := by rw [eH]; exact va_S.rf
  refine my_heap eH ?_
  have rp0 := i32_rng p0
  refine lv_aload_n hx hb dX12_lastDay_0 rfl (lv_at hl 0 rfl) ?_
  refine va_get (D := (dC, dI)) (ci := 12) (v := .ref (g 18)) (C := RX12) (T := TX12) (N := 63) hx hb hwd inA_X12 hown hK hP 0 rfl rfl 23 (by decide) (hwd _ wk_199) (fun _ h9 => h9) rfl dX12_lastDay_1 ?_
  refine lv_iload_n hx hb dX12_lastDay_4 rfl (lv_at hl 1 rfl) ?_
  refine va_iald hx hb hK hP 18 17 rfl rfl (i := p0) (vin (a := p0.toInt) rfl (by omega)) dX12_lastDay_5 ?_
  refine lv_topi (fun z7820 e7821 => ?_)
  refine lv_ldc (v := 1000000) hx hb hown (hwd _ wk_500) dX12_lastDay_6 ?_
  refine lv_icmp_ne (tgt := 18) hx hb dX12_lastDay_8 (by decide) (fun c7822 => ?_) (fun c7822 => ?_)
  · skip
    have t7823 := cv_ne (a := z7820.toInt) rfl (b := 1000000) (by decide) c7822
    refine lv_aload_n hx hb dX12_lastDay_18 rfl (lv_at hl 0 rfl) ?_
    refine va_get (D := (dC, dI)) (ci := 12) (v := .ref (g 18)) (C := RX12) (T := TX12) (N := 63) hx hb hwd inA_X12 hown hK hP 0 rfl rfl 23 (by decide) (hwd _ wk_199) (fun _ h9 => h9) rfl dX12_lastDay_19 ?_
    refine lv_iload_n hx hb dX12_lastDay_22 rfl (lv_at hl 1 rfl) ?_
    refine va_iald hx hb hK hP 18 17 rfl rfl (i := p0) (vin (a := p0.toInt) rfl (by omega)) dX12_lastDay_23 ?_
    refine lv_topi (fun z7824 e7825 => ?_)
    have hP9 : va_P (dC, dI) classes (wM g c v F rc) H := hP
    exact W.iret (v := z7824) hx hb hr (fun t ht hW => ⟨⟨z7824, (), rfl, trivial, (by show va_P _ _ _ t.heap; rw [ht]; exact hP9)⟩, hS.F ht⟩) hS.2.2 dX12_lastDay_24
  · skip
    have t7826 := cv_eq (a := z7820.toInt) rfl (b := 1000000) (by decide) c7822
    refine lv_aload_n hx hb dX12_lastDay_11 rfl (lv_at hl 0 rfl) ?_
    refine va_get (D := (dC, dI)) (ci := 12) (v := .int (v 1)) (C := RX12) (T := TX12) (N := 63) hx hb hwd inA_X12 hown hK hP 0 rfl rfl 1 (by decide) (hwd _ wk_332) (fun _ h9 => h9) rfl dX12_lastDay_12 ?_
    have t7827 : 0 ≤ (v 1).toInt ∧ (v 1).toInt ≤ 9999 := hI.1 1 _ _ rfl
    refine lv_goto (tgt := 24) hx hb dX12_lastDay_15 (by decide) ?_
    have hP9 : va_P (dC, dI) classes (wM g c v F rc) H := hP
    exact W.iret (v := v 1) hx hb hr (fun t ht hW => ⟨⟨(v 1), (), rfl, trivial, (by show va_P _ _ _ t.heap; rw [ht]; exact hP9)⟩, hS.F ht⟩) hS.2.2 dX12_lastDay_24
set_option maxHeartbeats 8000000 in
set_option maxRecDepth 100000 in
theorem c_X12_hoursEnd (l : Launch) (dC : Nat → ClassId) (dI : Nat → Nat → Nat) (g : Nat → Nat) (c : Nat → ClassId) (adK adV : Nat → Nat) (v : Nat → Int32) (F : Nat → Nat → Int32) (rc sz : Nat) (p0 : Int32) (hg : injM g) (hI : IM v F) (h0 : 0 ≤ p0.toInt ∧ p0.toInt ≤ 499) : Met l yX12_hoursEnd (Cond.code yX12_hoursEnd cX12_hoursEnd 2 (some .int) :: wA) ({ frames := 1, cells := 0, slots := 0, locals := 40 }) (va_Pc [.ref (g 0), .int p0] (PM dC dI g c adK adV v F rc sz)) (va_Qi (fun (r : Int32) (u : Unit) => True) (fun (_ : Unit) => BM dC dI g c (v, F, rc)) (AM g sz)) 0 0 (AM g sz) := by
  refine Met.ofW (cc := cX12_hoursEnd) (maxL := 2) (ret := (some .int)) (by decide) rfl ?_
  intro p e s m args below meth c0 s₁ B hml hv
  obtain ⟨rfl, hsz, hP, hK, hE⟩ := hv
  have hx := B.exec
  have hb := B.bytes
  have hr := B.returns
  have hts := atoms_spec (ws := Cond.code yX12_hoursEnd cX12_hoursEnd 2 (some .int) :: wA) B.pre
  have hwd : ∀ w ∈ wA, w.before _ s = true := fun w h => hts w (List.mem_cons_of_mem _ h)
  have hown : s.vm.findClass RX12 = some m.cls := findClass_of_methodNamed B.named
  have hlocks := B.notSynchronized
  subst hsz
  have hl := lv_entry ([.ref (g 0), .int p0]) (n := 2) (Nat.le_of_ble_eq_true rfl)
  rw [lg_entry_eq]
  generalize (lg_sl ([.ref (g 0), .int p0]) ++ List.replicate (2 - (lg_sl ([.ref (g 0), .int p0])).length) Slot.unset).toArray = ls at hl ⊢
  have hl : lv_has ls 2 [(0, .ref (g 0)), (1, .int p0)] := hl
  obtain ⟨H, eH⟩ : ∃ z, z = s.heap := ⟨_, rfl⟩
  have hP : va_P (dC, dI) classes (wM g c v F rc) H := by rw [eH]; exact hP
  have hS : va_S (AM g s.heap.size) s.heap H [] := by rw [eH]; exact va_S.rf
  refine my_heap eH ?_
  have rp0 := i32_rng p0
  refine lv_aload_n hx hb dX12_hoursEnd_0 rfl (lv_at hl 0 rfl) ?_
  refine va_get (D := (dC, dI)) (ci := 12) (v := .ref (g 18)) (C := RX12) (T := TX12) (N := 63) hx hb hwd inA_X12 hown hK hP 0 rfl rfl 23 (by decide) (hwd _ wk_199) (fun _ h9 => h9) rfl dX12_hoursEnd_1 ?_
  refine lv_iload_n hx hb dX12_hoursEnd_4 rfl (lv_at hl 1 rfl) ?_
  refine va_iald hx hb hK hP 18 17 rfl rfl (i := p0) (vin (a := p0.toInt) rfl (by omega)) dX12_hoursEnd_5 ?_
  refine lv_topi (fun z7828 e7829 => ?_)
  refine lv_ldc (v := 1000000) hx hb hown (hwd _ wk_500) dX12_hoursEnd_6 ?_
  refine lv_icmp_ne (tgt := 27) hx hb dX12_hoursEnd_8 (by decide) (fun c7830 => ?_) (fun c7830 => ?_)
  · skip
    have t7831 := cv_ne (a := z7828.toInt) rfl (b := 1000000) (by decide) c7830
    refine lv_aload_n hx hb dX12_hoursEnd_27 rfl (lv_at hl 0 rfl) ?_
    refine va_get (D := (dC, dI)) (ci := 12) (v := .ref (g 20)) (C := RX12) (T := TX12) (N := 63) hx hb hwd inA_X12 hown hK hP 0 rfl rfl 25 (by decide) (hwd _ wk_201) (fun _ h9 => h9) rfl dX12_hoursEnd_28 ?_
    refine lv_iload_n hx hb dX12_hoursEnd_31 rfl (lv_at hl 1 rfl) ?_
    refine va_iald hx hb hK hP 20 19 rfl rfl (i := p0) (vin (a := p0.toInt) rfl (by omega)) dX12_hoursEnd_32 ?_
    refine lv_topi (fun z7832 e7833 => ?_)
    have hP9 : va_P (dC, dI) classes (wM g c v F rc) H := hP
    exact W.iret (v := z7832) hx hb hr (fun t ht hW => ⟨⟨z7832, (), rfl, trivial, (by show va_P _ _ _ t.heap; rw [ht]; exact hP9)⟩, hS.F ht⟩) hS.2.2 dX12_hoursEnd_33
  · skip
    have t7834 := cv_eq (a := z7828.toInt) rfl (b := 1000000) (by decide) c7830
    refine lv_aload_n hx hb dX12_hoursEnd_11 rfl (lv_at hl 0 rfl) ?_
    refine va_get (D := (dC, dI)) (ci := 12) (v := .ref (g 14)) (C := RX12) (T := TX12) (N := 63) hx hb hwd inA_X12 hown hK hP 0 rfl rfl 18 (by decide) (hwd _ wk_195) (fun _ h9 => h9) rfl dX12_hoursEnd_12 ?_
    refine lv_iconst (v := 3) hx hb dX12_hoursEnd_15 (by decide) ?_
    refine lv_aload_n hx hb dX12_hoursEnd_16 rfl (lv_at hl 0 rfl) ?_
    refine va_get (D := (dC, dI)) (ci := 12) (v := .ref (g 15)) (C := RX12) (T := TX12) (N := 63) hx hb hwd inA_X12 hown hK hP 0 rfl rfl 20 (by decide) (hwd _ wk_196) (fun _ h9 => h9) rfl dX12_hoursEnd_17 ?_
    refine lv_iload_n hx hb dX12_hoursEnd_20 rfl (lv_at hl 1 rfl) ?_
    refine va_iald hx hb hK hP 15 14 rfl rfl (i := p0) (vin (a := p0.toInt) rfl (by omega)) dX12_hoursEnd_21 ?_
    refine lv_topi (fun z7835 e7836 => ?_)
    have t7837 : 0 ≤ z7835.toInt ∧ z7835.toInt ≤ 99 := by rw [e7836]; exact hI.2 15 _ _ rfl _
    refine lv_imul hx hb dX12_hoursEnd_22 ?_
    refine lv_topi (fun z7838 e7839 => ?_)
    try (have t7840 := tmul e7839 (a := 3) (by decide) (b := z7835.toInt) rfl (by omega))
    refine va_iald hx hb hK hP 14 13 rfl rfl (i := z7838) (vin (a := z7838.toInt) rfl (by omega)) dX12_hoursEnd_23 ?_
    refine lv_topi (fun z7841 e7842 => ?_)
    refine lv_goto (tgt := 33) hx hb dX12_hoursEnd_24 (by decide) ?_
    have hP9 : va_P (dC, dI) classes (wM g c v F rc) H := hP
    exact W.iret (v := z7841) hx hb hr (fun t ht hW => ⟨⟨z7841, (), rfl, trivial, (by show va_P _ _ _ t.heap; rw [ht]; exact hP9)⟩, hS.F ht⟩) hS.2.2 dX12_hoursEnd_33
set_option maxHeartbeats 8000000 in
set_option maxRecDepth 100000 in
theorem c_X12_landingsEnd (l : Launch) (dC : Nat → ClassId) (dI : Nat → Nat → Nat) (g : Nat → Nat) (c : Nat → ClassId) (adK adV : Nat → Nat) (v : Nat → Int32) (F : Nat → Nat → Int32) (rc sz : Nat) (p0 : Int32) (hg : injM g) (hI : IM v F) (h0 : 0 ≤ p0.toInt ∧ p0.toInt ≤ 499) : Met l yX12_landingsEnd (Cond.code yX12_landingsEnd cX12_landingsEnd 2 (some .int) :: wA) ({ frames := 1, cells := 0, slots := 0, locals := 40 }) (va_Pc [.ref (g 0), .int p0] (PM dC dI g c adK adV v F rc sz)) (va_Qi (fun (r : Int32) (u : Unit) => True) (fun (_ : Unit) => BM dC dI g c (v, F, rc)) (AM g sz)) 0 0 (AM g sz) := by
  refine Met.ofW (cc := cX12_landingsEnd) (maxL := 2) (ret := (some .int)) (by decide) rfl ?_
  intro p e s m args below meth c0 s₁ B hml hv
  obtain ⟨rfl, hsz, hP, hK, hE⟩ := hv
  have hx := B.exec
  have hb := B.bytes
  have hr := B.returns
  have hts := atoms_spec (ws := Cond.code yX12_landingsEnd cX12_landingsEnd 2 (some .int) :: wA) B.pre
  have hwd : ∀ w ∈ wA, w.before _ s = true := fun w h => hts w (List.mem_cons_of_mem _ h)
  have hown : s.vm.findClass RX12 = some m.cls := findClass_of_methodNamed B.named
  have hlocks := B.notSynchronized
  subst hsz
  have hl := lv_entry ([.ref (g 0), .int p0]) (n := 2) (Nat.le_of_ble_eq_true rfl)
  rw [lg_entry_eq]
  generalize (lg_sl ([.ref (g 0), .int p0]) ++ List.replicate (2 - (lg_sl ([.ref (g 0), .int p0])).length) Slot.unset).toArray = ls at hl ⊢
  have hl : lv_has ls 2 [(0, .ref (g 0)), (1, .int p0)] := hl
  obtain ⟨H, eH⟩ : ∃ z, z = s.heap := ⟨_, rfl⟩
  have hP : va_P (dC, dI) classes (wM g c v F rc) H := by rw [eH]; exact hP
  have hS : va_S (AM g s.heap.size) s.heap H [] := by rw [eH]; exact va_S.rf
  refine my_heap eH ?_
  have rp0 := i32_rng p0
  refine lv_aload_n hx hb dX12_landingsEnd_0 rfl (lv_at hl 0 rfl) ?_
  refine va_get (D := (dC, dI)) (ci := 12) (v := .ref (g 18)) (C := RX12) (T := TX12) (N := 63) hx hb hwd inA_X12 hown hK hP 0 rfl rfl 23 (by decide) (hwd _ wk_199) (fun _ h9 => h9) rfl dX12_landingsEnd_1 ?_
  refine lv_iload_n hx hb dX12_landingsEnd_4 rfl (lv_at hl 1 rfl) ?_
  refine va_iald hx hb hK hP 18 17 rfl rfl (i := p0) (vin (a := p0.toInt) rfl (by omega)) dX12_landingsEnd_5 ?_
  refine lv_topi (fun z7843 e7844 => ?_)
  refine lv_ldc (v := 1000000) hx hb hown (hwd _ wk_500) dX12_landingsEnd_6 ?_
  refine lv_icmp_ne (tgt := 29) hx hb dX12_landingsEnd_8 (by decide) (fun c7845 => ?_) (fun c7845 => ?_)
  · skip
    have t7846 := cv_ne (a := z7843.toInt) rfl (b := 1000000) (by decide) c7845
    refine lv_aload_n hx hb dX12_landingsEnd_29 rfl (lv_at hl 0 rfl) ?_
    refine va_get (D := (dC, dI)) (ci := 12) (v := .ref (g 22)) (C := RX12) (T := TX12) (N := 63) hx hb hwd inA_X12 hown hK hP 0 rfl rfl 27 (by decide) (hwd _ wk_203) (fun _ h9 => h9) rfl dX12_landingsEnd_30 ?_
    refine lv_iload_n hx hb dX12_landingsEnd_33 rfl (lv_at hl 1 rfl) ?_
    refine va_iald hx hb hK hP 22 21 rfl rfl (i := p0) (vin (a := p0.toInt) rfl (by omega)) dX12_landingsEnd_34 ?_
    refine lv_topi (fun z7847 e7848 => ?_)
    have hP9 : va_P (dC, dI) classes (wM g c v F rc) H := hP
    exact W.iret (v := z7847) hx hb hr (fun t ht hW => ⟨⟨z7847, (), rfl, trivial, (by show va_P _ _ _ t.heap; rw [ht]; exact hP9)⟩, hS.F ht⟩) hS.2.2 dX12_landingsEnd_35
  · skip
    have t7849 := cv_eq (a := z7843.toInt) rfl (b := 1000000) (by decide) c7845
    refine lv_aload_n hx hb dX12_landingsEnd_11 rfl (lv_at hl 0 rfl) ?_
    refine va_get (D := (dC, dI)) (ci := 12) (v := .ref (g 14)) (C := RX12) (T := TX12) (N := 63) hx hb hwd inA_X12 hown hK hP 0 rfl rfl 18 (by decide) (hwd _ wk_195) (fun _ h9 => h9) rfl dX12_landingsEnd_12 ?_
    refine lv_iconst (v := 3) hx hb dX12_landingsEnd_15 (by decide) ?_
    refine lv_aload_n hx hb dX12_landingsEnd_16 rfl (lv_at hl 0 rfl) ?_
    refine va_get (D := (dC, dI)) (ci := 12) (v := .ref (g 15)) (C := RX12) (T := TX12) (N := 63) hx hb hwd inA_X12 hown hK hP 0 rfl rfl 20 (by decide) (hwd _ wk_196) (fun _ h9 => h9) rfl dX12_landingsEnd_17 ?_
    refine lv_iload_n hx hb dX12_landingsEnd_20 rfl (lv_at hl 1 rfl) ?_
    refine va_iald hx hb hK hP 15 14 rfl rfl (i := p0) (vin (a := p0.toInt) rfl (by omega)) dX12_landingsEnd_21 ?_
    refine lv_topi (fun z7850 e7851 => ?_)
    have t7852 : 0 ≤ z7850.toInt ∧ z7850.toInt ≤ 99 := by rw [e7851]; exact hI.2 15 _ _ rfl _
    refine lv_imul hx hb dX12_landingsEnd_22 ?_
    refine lv_topi (fun z7853 e7854 => ?_)
    try (have t7855 := tmul e7854 (a := 3) (by decide) (b := z7850.toInt) rfl (by omega))
    refine lv_iconst (v := 1) hx hb dX12_landingsEnd_23 (by decide) ?_
    refine lv_iadd hx hb dX12_landingsEnd_24 ?_
    refine lv_topi (fun z7856 e7857 => ?_)
    try (have t7858 := tadd e7857 (a := z7853.toInt) rfl (b := 1) (by decide) (by omega))
    refine va_iald hx hb hK hP 14 13 rfl rfl (i := z7856) (vin (a := z7856.toInt) rfl (by omega)) dX12_landingsEnd_25 ?_
    refine lv_topi (fun z7859 e7860 => ?_)
    refine lv_goto (tgt := 35) hx hb dX12_landingsEnd_26 (by decide) ?_
    have hP9 : va_P (dC, dI) classes (wM g c v F rc) H := hP
    exact W.iret (v := z7859) hx hb hr (fun t ht hW => ⟨⟨z7859, (), rfl, trivial, (by show va_P _ _ _ t.heap; rw [ht]; exact hP9)⟩, hS.F ht⟩) hS.2.2 dX12_landingsEnd_35
set_option maxHeartbeats 8000000 in
set_option maxRecDepth 100000 in
theorem c_X12_isAhead (l : Launch) (dC : Nat → ClassId) (dI : Nat → Nat → Nat) (g : Nat → Nat) (c : Nat → ClassId) (adK adV : Nat → Nat) (v : Nat → Int32) (F : Nat → Nat → Int32) (rc sz : Nat) (p0 : Int32) (p1 : Int32) (hg : injM g) (hI : IM v F) (h0 : 0 ≤ p0.toInt ∧ p0.toInt ≤ 499) (h1 : 0 ≤ p1.toInt ∧ p1.toInt ≤ 499) : Met l yX12_isAhead (Cond.code yX12_isAhead cX12_isAhead 3 (some .boolean) :: wA) ({ frames := 1, cells := 0, slots := 0, locals := 40 }) (va_Pc [.ref (g 0), .int p0, .int p1] (PM dC dI g c adK adV v F rc sz)) (va_Qi (fun (r : Int32) (u : Unit) => (r.toInt = 1 ∧ ((F 17 p0.toNatClampNeg).toInt < (F 17 p1.toNatClampNeg).toInt ∨ ((F 17 p0.toNatClampNeg).toInt = (F 17 p1.toNatClampNeg).toInt ∧ p0.toInt < p1.toInt))) ∨ (r.toInt = 0 ∧ ¬ ((F 17 p0.toNatClampNeg).toInt < (F 17 p1.toNatClampNeg).toInt ∨ ((F 17 p0.toNatClampNeg).toInt = (F 17 p1.toNatClampNeg).toInt ∧ p0.toInt < p1.toInt)))) (fun (_ : Unit) => BM dC dI g c (v, F, rc)) (AM g sz)) 0 0 (AM g sz) := by
  refine Met.ofW (cc := cX12_isAhead) (maxL := 3) (ret := (some .boolean)) (by decide) rfl ?_
  intro p e s m args below meth c0 s₁ B hml hv
  obtain ⟨rfl, hsz, hP, hK, hE⟩ := hv
  have hx := B.exec
  have hb := B.bytes
  have hr := B.returns
  have hts := atoms_spec (ws := Cond.code yX12_isAhead cX12_isAhead 3 (some .boolean) :: wA) B.pre
  have hwd : ∀ w ∈ wA, w.before _ s = true := fun w h => hts w (List.mem_cons_of_mem _ h)
  have hown : s.vm.findClass RX12 = some m.cls := findClass_of_methodNamed B.named
  have hlocks := B.notSynchronized
  subst hsz
  have hl := lv_entry ([.ref (g 0), .int p0, .int p1]) (n := 3) (Nat.le_of_ble_eq_true rfl)
  rw [lg_entry_eq]
  generalize (lg_sl ([.ref (g 0), .int p0, .int p1]) ++ List.replicate (3 - (lg_sl ([.ref (g 0), .int p0, .int p1])).length) Slot.unset).toArray = ls at hl ⊢
  have hl : lv_has ls 3 [(0, .ref (g 0)), (1, .int p0), (2, .int p1)] := hl
  obtain ⟨H, eH⟩ : ∃ z, z = s.heap := ⟨_, rfl⟩
  have hP : va_P (dC, dI) classes (wM g c v F rc) H := by rw [eH]; exact hP
  have hS : va_S (AM g s.heap.size) s.heap H [] := by rw [eH]; exact va_S.rf
  refine my_heap eH ?_
  have rp0 := i32_rng p0
  have rp1 := i32_rng p1
  refine lv_aload_n hx hb dX12_isAhead_0 rfl (lv_at hl 0 rfl) ?_
  refine va_get (D := (dC, dI)) (ci := 12) (v := .ref (g 17)) (C := RX12) (T := TX12) (N := 63) hx hb hwd inA_X12 hown hK hP 0 rfl rfl 22 (by decide) (hwd _ wk_198) (fun _ h9 => h9) rfl dX12_isAhead_1 ?_
  refine lv_iload_n hx hb dX12_isAhead_4 rfl (lv_at hl 1 rfl) ?_
  refine va_iald hx hb hK hP 17 16 rfl rfl (i := p0) (vin (a := p0.toInt) rfl (by omega)) dX12_isAhead_5 ?_
  refine lv_topi (fun z7861 e7862 => ?_)
  have tzz7861 : z7861.toInt = (F 17 (p0 : Int32).toNatClampNeg).toInt := congrArg Int32.toInt e7862
  refine lv_aload_n hx hb dX12_isAhead_6 rfl (lv_at hl 0 rfl) ?_
  refine va_get (D := (dC, dI)) (ci := 12) (v := .ref (g 17)) (C := RX12) (T := TX12) (N := 63) hx hb hwd inA_X12 hown hK hP 0 rfl rfl 22 (by decide) (hwd _ wk_198) (fun _ h9 => h9) rfl dX12_isAhead_7 ?_
  refine lv_iload_n hx hb dX12_isAhead_10 rfl (lv_at hl 2 rfl) ?_
  refine va_iald hx hb hK hP 17 16 rfl rfl (i := p1) (vin (a := p1.toInt) rfl (by omega)) dX12_isAhead_11 ?_
  refine lv_topi (fun z7863 e7864 => ?_)
  have tzz7863 : z7863.toInt = (F 17 (p1 : Int32).toNatClampNeg).toInt := congrArg Int32.toInt e7864
  refine lv_icmp_lt (tgt := 35) hx hb dX12_isAhead_12 (by decide) (fun c7865 => ?_) (fun c7865 => ?_)
  · skip
    have t7866 := cv_lt (a := z7861.toInt) rfl (b := z7863.toInt) rfl c7865
    refine lv_iconst (v := 1) hx hb dX12_isAhead_35 (by decide) ?_
    refine lv_goto (tgt := 40) hx hb dX12_isAhead_36 (by decide) ?_
    have hP9 : va_P (dC, dI) classes (wM g c v F rc) H := hP
    exact W.zret (v := 1) hx hb hr (rfl) (fun t ht hW => ⟨⟨1, (), rfl, (by show ((1 : Int32).toInt = 1 ∧ ((F 17 p0.toNatClampNeg).toInt < (F 17 p1.toNatClampNeg).toInt ∨ ((F 17 p0.toNatClampNeg).toInt = (F 17 p1.toNatClampNeg).toInt ∧ p0.toInt < p1.toInt))) ∨ ((1 : Int32).toInt = 0 ∧ ¬ ((F 17 p0.toNatClampNeg).toInt < (F 17 p1.toNatClampNeg).toInt ∨ ((F 17 p0.toNatClampNeg).toInt = (F 17 p1.toNatClampNeg).toInt ∧ p0.toInt < p1.toInt))); have : (1 : Int32).toInt = 1 := (by decide); omega), (by show va_P _ _ _ t.heap; rw [ht]; exact hP9)⟩, hS.F ht⟩) hS.2.2 dX12_isAhead_40
  · skip
    have t7867 := cv_nlt (a := z7861.toInt) rfl (b := z7863.toInt) rfl c7865
    refine lv_aload_n hx hb dX12_isAhead_15 rfl (lv_at hl 0 rfl) ?_
    refine va_get (D := (dC, dI)) (ci := 12) (v := .ref (g 17)) (C := RX12) (T := TX12) (N := 63) hx hb hwd inA_X12 hown hK hP 0 rfl rfl 22 (by decide) (hwd _ wk_198) (fun _ h9 => h9) rfl dX12_isAhead_16 ?_
    refine lv_iload_n hx hb dX12_isAhead_19 rfl (lv_at hl 1 rfl) ?_
    refine va_iald hx hb hK hP 17 16 rfl rfl (i := p0) (vin (a := p0.toInt) rfl (by omega)) dX12_isAhead_20 ?_
    refine lv_topi (fun z7868 e7869 => ?_)
    have tzz7868 : z7868.toInt = (F 17 (p0 : Int32).toNatClampNeg).toInt := congrArg Int32.toInt e7869
    refine lv_aload_n hx hb dX12_isAhead_21 rfl (lv_at hl 0 rfl) ?_
    refine va_get (D := (dC, dI)) (ci := 12) (v := .ref (g 17)) (C := RX12) (T := TX12) (N := 63) hx hb hwd inA_X12 hown hK hP 0 rfl rfl 22 (by decide) (hwd _ wk_198) (fun _ h9 => h9) rfl dX12_isAhead_22 ?_
    refine lv_iload_n hx hb dX12_isAhead_25 rfl (lv_at hl 2 rfl) ?_
    refine va_iald hx hb hK hP 17 16 rfl rfl (i := p1) (vin (a := p1.toInt) rfl (by omega)) dX12_isAhead_26 ?_
    refine lv_topi (fun z7870 e7871 => ?_)
    have tzz7870 : z7870.toInt = (F 17 (p1 : Int32).toNatClampNeg).toInt := congrArg Int32.toInt e7871
    refine lv_icmp_ne (tgt := 39) hx hb dX12_isAhead_27 (by decide) (fun c7872 => ?_) (fun c7872 => ?_)
    · skip
      have t7873 := cv_ne (a := z7868.toInt) rfl (b := z7870.toInt) rfl c7872
      refine lv_iconst (v := 0) hx hb dX12_isAhead_39 (by decide) ?_
      have hP9 : va_P (dC, dI) classes (wM g c v F rc) H := hP
      exact W.zret (v := 0) hx hb hr (rfl) (fun t ht hW => ⟨⟨0, (), rfl, (by show ((0 : Int32).toInt = 1 ∧ ((F 17 p0.toNatClampNeg).toInt < (F 17 p1.toNatClampNeg).toInt ∨ ((F 17 p0.toNatClampNeg).toInt = (F 17 p1.toNatClampNeg).toInt ∧ p0.toInt < p1.toInt))) ∨ ((0 : Int32).toInt = 0 ∧ ¬ ((F 17 p0.toNatClampNeg).toInt < (F 17 p1.toNatClampNeg).toInt ∨ ((F 17 p0.toNatClampNeg).toInt = (F 17 p1.toNatClampNeg).toInt ∧ p0.toInt < p1.toInt))); have : (0 : Int32).toInt = 0 := (by decide); omega), (by show va_P _ _ _ t.heap; rw [ht]; exact hP9)⟩, hS.F ht⟩) hS.2.2 dX12_isAhead_40
    · skip
      have t7874 := cv_eq (a := z7868.toInt) rfl (b := z7870.toInt) rfl c7872
      refine lv_iload_n hx hb dX12_isAhead_30 rfl (lv_at hl 1 rfl) ?_
      refine lv_iload_n hx hb dX12_isAhead_31 rfl (lv_at hl 2 rfl) ?_
      refine lv_icmp_ge (tgt := 39) hx hb dX12_isAhead_32 (by decide) (fun c7875 => ?_) (fun c7875 => ?_)
      · skip
        have t7876 := cv_le (a := p1.toInt) rfl (b := p0.toInt) rfl c7875
        refine lv_iconst (v := 0) hx hb dX12_isAhead_39 (by decide) ?_
        have hP9 : va_P (dC, dI) classes (wM g c v F rc) H := hP
        exact W.zret (v := 0) hx hb hr (rfl) (fun t ht hW => ⟨⟨0, (), rfl, (by show ((0 : Int32).toInt = 1 ∧ ((F 17 p0.toNatClampNeg).toInt < (F 17 p1.toNatClampNeg).toInt ∨ ((F 17 p0.toNatClampNeg).toInt = (F 17 p1.toNatClampNeg).toInt ∧ p0.toInt < p1.toInt))) ∨ ((0 : Int32).toInt = 0 ∧ ¬ ((F 17 p0.toNatClampNeg).toInt < (F 17 p1.toNatClampNeg).toInt ∨ ((F 17 p0.toNatClampNeg).toInt = (F 17 p1.toNatClampNeg).toInt ∧ p0.toInt < p1.toInt))); have : (0 : Int32).toInt = 0 := (by decide); omega), (by show va_P _ _ _ t.heap; rw [ht]; exact hP9)⟩, hS.F ht⟩) hS.2.2 dX12_isAhead_40
      · skip
        have t7877 := cv_nle (a := p1.toInt) rfl (b := p0.toInt) rfl c7875
        refine lv_iconst (v := 1) hx hb dX12_isAhead_35 (by decide) ?_
        refine lv_goto (tgt := 40) hx hb dX12_isAhead_36 (by decide) ?_
        have hP9 : va_P (dC, dI) classes (wM g c v F rc) H := hP
        exact W.zret (v := 1) hx hb hr (rfl) (fun t ht hW => ⟨⟨1, (), rfl, (by show ((1 : Int32).toInt = 1 ∧ ((F 17 p0.toNatClampNeg).toInt < (F 17 p1.toNatClampNeg).toInt ∨ ((F 17 p0.toNatClampNeg).toInt = (F 17 p1.toNatClampNeg).toInt ∧ p0.toInt < p1.toInt))) ∨ ((1 : Int32).toInt = 0 ∧ ¬ ((F 17 p0.toNatClampNeg).toInt < (F 17 p1.toNatClampNeg).toInt ∨ ((F 17 p0.toNatClampNeg).toInt = (F 17 p1.toNatClampNeg).toInt ∧ p0.toInt < p1.toInt))); have : (1 : Int32).toInt = 1 := (by decide); omega), (by show va_P _ _ _ t.heap; rw [ht]; exact hP9)⟩, hS.F ht⟩) hS.2.2 dX12_isAhead_40
set_option maxHeartbeats 8000000 in
set_option maxRecDepth 100000 in
theorem c_X12_areTwice (l : Launch) (dC : Nat → ClassId) (dI : Nat → Nat → Nat) (g : Nat → Nat) (c : Nat → ClassId) (adK adV : Nat → Nat) (v : Nat → Int32) (F : Nat → Nat → Int32) (rc sz : Nat) (p0 : Int32) (hg : injM g) (hI : IM v F) : Met l yX12_areTwice (Cond.code yX12_areTwice cX12_areTwice 4 (some .boolean) :: wA) ({ frames := 2, cells := 0, slots := 0, locals := 80 }) (va_Pc [.ref (g 0), .int p0] (PM dC dI g c adK adV v F rc sz)) (va_Qi (fun (r : Int32) (u : Unit) => 0 ≤ r.toInt ∧ r.toInt ≤ 1) (fun (_ : Unit) => BM dC dI g c (v, F, rc)) (AM g sz)) 0 0 (AM g sz) := by
  refine Met.ofW (cc := cX12_areTwice) (maxL := 4) (ret := (some .boolean)) (by decide) rfl ?_
  intro p e s m args below meth c0 s₁ B hml hv
  obtain ⟨rfl, hsz, hP, hK, hE⟩ := hv
  have hx := B.exec
  have hb := B.bytes
  have hr := B.returns
  have hts := atoms_spec (ws := Cond.code yX12_areTwice cX12_areTwice 4 (some .boolean) :: wA) B.pre
  have hwd : ∀ w ∈ wA, w.before _ s = true := fun w h => hts w (List.mem_cons_of_mem _ h)
  have hown : s.vm.findClass RX12 = some m.cls := findClass_of_methodNamed B.named
  have hlocks := B.notSynchronized
  subst hsz
  have hl := lv_entry ([.ref (g 0), .int p0]) (n := 4) (Nat.le_of_ble_eq_true rfl)
  rw [lg_entry_eq]
  generalize (lg_sl ([.ref (g 0), .int p0]) ++ List.replicate (4 - (lg_sl ([.ref (g 0), .int p0])).length) Slot.unset).toArray = ls at hl ⊢
  have hl : lv_has ls 4 [(0, .ref (g 0)), (1, .int p0)] := hl
  obtain ⟨H, eH⟩ : ∃ z, z = s.heap := ⟨_, rfl⟩
  have hP : va_P (dC, dI) classes (wM g c v F rc) H := by rw [eH]; exact hP
  have hS : va_S (AM g s.heap.size) s.heap H [] := by rw [eH]; exact va_S.rf
  refine my_heap eH ?_
  have rp0 := i32_rng p0
  refine lv_iconst (v := 0) hx hb dX12_areTwice_0 (by decide) ?_
  refine lv_istore_n (lv' := [(2, .int 0), (0, .ref (g 0)), (1, .int p0)]) hx hb dX12_areTwice_1 rfl hl (by decide) rfl (fun ls hl => ?_)
  have lp7878 : ∀ (n : Nat) (x2_lp7878 : Int32) (H : Heap) (locs : List Loc) (ls : Array Slot), (0 ≤ x2_lp7878.toInt) → (2147483648 - x2_lp7878.toInt ≤ (n : Int)) → va_P (dC, dI) classes (wM g c v F rc) H → va_S (AM g s.heap.size) s.heap H locs → lv_has ls 4 [(2, .int x2_lp7878), (0, .ref (g 0)), (1, .int p0)] → W p l e (headSpec (Cond.code yX12_areTwice cX12_areTwice 4 (some .boolean) :: wA) ({ frames := 2, cells := 0, slots := 0, locals := 80 })).room s m ([.ref (g 0), .int p0] : List Value).toArray below meth c0 H locs 0 0 (MQ below (va_Qi (fun (r : Int32) (u : Unit) => 0 ≤ r.toInt ∧ r.toInt ≤ 1) (fun (_ : Unit) => BM dC dI g c (v, F, rc)) (AM g s.heap.size)) ([.ref (g 0), .int p0] : List Value).toArray s 0 0 (AM g s.heap.size)) (F0 m 2 ls []) := by
    intro n
    induction n with
    | zero =>
      intro x2_lp7878 H locs ls t7879 hm hP hS hl
      exfalso
      have := i32_rng x2_lp7878
      omega
    | succ n ih_lp7878 =>
      intro x2_lp7878 H locs ls t7879 hm hP hS hl
      have rx2_lp7878 := i32_rng x2_lp7878
      refine lv_iload_n hx hb dX12_areTwice_2 rfl (lv_at hl 0 rfl) ?_
      refine lv_aload_n hx hb dX12_areTwice_3 rfl (lv_at hl 1 rfl) ?_
      refine va_get (D := (dC, dI)) (ci := 12) (v := .int (v 19)) (C := RX12) (T := TX12) (N := 63) hx hb hwd inA_X12 hown hK hP 0 rfl rfl 19 (by decide) (hwd _ wk_494) (fun _ h9 => h9) rfl dX12_areTwice_4 ?_
      have t7880 : 0 ≤ (v 19).toInt ∧ (v 19).toInt ≤ 500 := hI.1 19 _ _ rfl
      refine lv_icmp_ge (tgt := 100) hx hb dX12_areTwice_7 (by decide) (fun c7881 => ?_) (fun c7881 => ?_)
      · skip
        have t7882 := cv_le (a := (v 19).toInt) rfl (b := x2_lp7878.toInt) rfl c7881
        refine lv_iconst (v := 0) hx hb dX12_areTwice_100 (by decide) ?_
        have hP9 : va_P (dC, dI) classes (wM g c v F rc) H := hP
        exact W.zret (v := 0) hx hb hr (rfl) (fun t ht hW => ⟨⟨0, (), rfl, by have : (0 : Int32).toInt = 0 := (by decide); omega, (by show va_P _ _ _ t.heap; rw [ht]; exact hP9)⟩, hS.F ht⟩) hS.2.2 dX12_areTwice_101
      · skip
        have t7883 := cv_nle (a := (v 19).toInt) rfl (b := x2_lp7878.toInt) rfl c7881
        refine lv_aload_n hx hb dX12_areTwice_10 rfl (lv_at hl 1 rfl) ?_
        refine va_get (D := (dC, dI)) (ci := 12) (v := .ref (g 15)) (C := RX12) (T := TX12) (N := 63) hx hb hwd inA_X12 hown hK hP 0 rfl rfl 20 (by decide) (hwd _ wk_196) (fun _ h9 => h9) rfl dX12_areTwice_11 ?_
        refine lv_iload_n hx hb dX12_areTwice_14 rfl (lv_at hl 0 rfl) ?_
        refine va_iald hx hb hK hP 15 14 rfl rfl (i := x2_lp7878) (vin (a := x2_lp7878.toInt) rfl (by omega)) dX12_areTwice_15 ?_
        refine lv_topi (fun z7884 e7885 => ?_)
        have t7886 : 0 ≤ z7884.toInt ∧ z7884.toInt ≤ 99 := by rw [e7885]; exact hI.2 15 _ _ rfl _
        refine lv_iload_n hx hb dX12_areTwice_16 rfl (lv_at hl 2 rfl) ?_
        refine lv_icmp_eq (tgt := 23) hx hb dX12_areTwice_17 (by decide) (fun c7887 => ?_) (fun c7887 => ?_)
        · skip
          have t7888 := cv_eq (a := z7884.toInt) rfl (b := p0.toInt) rfl c7887
          refine lv_iconst (v := 0) hx hb dX12_areTwice_23 (by decide) ?_
          refine lv_istore_n (lv' := [(3, .int 0), (2, .int x2_lp7878), (0, .ref (g 0)), (1, .int p0)]) hx hb dX12_areTwice_24 rfl hl (by decide) rfl (fun ls hl => ?_)
          have lp7889 : ∀ (n : Nat) (x3_lp7889 : Int32) (H : Heap) (locs : List Loc) (ls : Array Slot), (0 ≤ x3_lp7889.toInt) → (2147483648 - x3_lp7889.toInt ≤ (n : Int)) → va_P (dC, dI) classes (wM g c v F rc) H → va_S (AM g s.heap.size) s.heap H locs → lv_has ls 4 [(3, .int x3_lp7889), (2, .int x2_lp7878), (0, .ref (g 0)), (1, .int p0)] → W p l e (headSpec (Cond.code yX12_areTwice cX12_areTwice 4 (some .boolean) :: wA) ({ frames := 2, cells := 0, slots := 0, locals := 80 })).room s m ([.ref (g 0), .int p0] : List Value).toArray below meth c0 H locs 0 0 (MQ below (va_Qi (fun (r : Int32) (u : Unit) => 0 ≤ r.toInt ∧ r.toInt ≤ 1) (fun (_ : Unit) => BM dC dI g c (v, F, rc)) (AM g s.heap.size)) ([.ref (g 0), .int p0] : List Value).toArray s 0 0 (AM g s.heap.size)) (F0 m 25 ls []) := by
            intro n
            induction n with
            | zero =>
              intro x3_lp7889 H locs ls t7890 hm hP hS hl
              exfalso
              have := i32_rng x3_lp7889
              omega
            | succ n ih_lp7889 =>
              intro x3_lp7889 H locs ls t7890 hm hP hS hl
              have rx3_lp7889 := i32_rng x3_lp7889
              refine lv_iload_n hx hb dX12_areTwice_25 rfl (lv_at hl 0 rfl) ?_
              refine lv_aload_n hx hb dX12_areTwice_26 rfl (lv_at hl 2 rfl) ?_
              refine va_get (D := (dC, dI)) (ci := 12) (v := .int (v 19)) (C := RX12) (T := TX12) (N := 63) hx hb hwd inA_X12 hown hK hP 0 rfl rfl 19 (by decide) (hwd _ wk_494) (fun _ h9 => h9) rfl dX12_areTwice_27 ?_
              have t7891 : 0 ≤ (v 19).toInt ∧ (v 19).toInt ≤ 500 := hI.1 19 _ _ rfl
              refine lv_icmp_ge (tgt := 94) hx hb dX12_areTwice_30 (by decide) (fun c7892 => ?_) (fun c7892 => ?_)
              · skip
                have t7893 := cv_le (a := (v 19).toInt) rfl (b := x3_lp7889.toInt) rfl c7892
                obtain ⟨z7894, e7895⟩ : ∃ y : Int32, y = x2_lp7878 + 1 := ⟨_, rfl⟩
                try (have t7896 := tadd e7895 rfl (b := 1) (by decide) (by omega))
                refine lv_iinc (v := z7894) (lv' := [(2, .int z7894), (3, .int x3_lp7889), (0, .ref (g 0)), (1, .int p0)]) hx hb dX12_areTwice_94 hl (k := 1) rfl (by rw [e7895]; rfl) (by decide) rfl (fun ls hl => ?_)
                refine lv_goto (tgt := 2) hx hb dX12_areTwice_97 (by decide) ?_
                exact ih_lp7878 z7894  _ _ _ (by omega) (by omega) hP hS (lv_sub hl [0, 2, 3] rfl)
              · skip
                have t7897 := cv_nle (a := (v 19).toInt) rfl (b := x3_lp7889.toInt) rfl c7892
                refine lv_aload_n hx hb dX12_areTwice_33 rfl (lv_at hl 2 rfl) ?_
                refine va_get (D := (dC, dI)) (ci := 12) (v := .ref (g 15)) (C := RX12) (T := TX12) (N := 63) hx hb hwd inA_X12 hown hK hP 0 rfl rfl 20 (by decide) (hwd _ wk_196) (fun _ h9 => h9) rfl dX12_areTwice_34 ?_
                refine lv_iload_n hx hb dX12_areTwice_37 rfl (lv_at hl 0 rfl) ?_
                refine va_iald hx hb hK hP 15 14 rfl rfl (i := x3_lp7889) (vin (a := x3_lp7889.toInt) rfl (by omega)) dX12_areTwice_38 ?_
                refine lv_topi (fun z7898 e7899 => ?_)
                have t7900 : 0 ≤ z7898.toInt ∧ z7898.toInt ≤ 99 := by rw [e7899]; exact hI.2 15 _ _ rfl _
                refine lv_iload_n hx hb dX12_areTwice_39 rfl (lv_at hl 3 rfl) ?_
                refine lv_icmp_ne (tgt := 88) hx hb dX12_areTwice_40 (by decide) (fun c7901 => ?_) (fun c7901 => ?_)
                · skip
                  have t7902 := cv_ne (a := z7898.toInt) rfl (b := p0.toInt) rfl c7901
                  obtain ⟨z7903, e7904⟩ : ∃ y : Int32, y = x3_lp7889 + 1 := ⟨_, rfl⟩
                  try (have t7905 := tadd e7904 rfl (b := 1) (by decide) (by omega))
                  refine lv_iinc (v := z7903) (lv' := [(3, .int z7903), (2, .int x2_lp7878), (0, .ref (g 0)), (1, .int p0)]) hx hb dX12_areTwice_88 hl (k := 0) rfl (by rw [e7904]; rfl) (by decide) rfl (fun ls hl => ?_)
                  refine lv_goto (tgt := 25) hx hb dX12_areTwice_91 (by decide) ?_
                  exact ih_lp7889 z7903  _ _ _ (by omega) (by omega) hP hS (lv_sub hl [0, 1, 2, 3] rfl)
                · skip
                  have t7906 := cv_eq (a := z7898.toInt) rfl (b := p0.toInt) rfl c7901
                  refine lv_aload_n hx hb dX12_areTwice_43 rfl (lv_at hl 2 rfl) ?_
                  refine va_get (D := (dC, dI)) (ci := 12) (v := .ref (g 16)) (C := RX12) (T := TX12) (N := 63) hx hb hwd inA_X12 hown hK hP 0 rfl rfl 21 (by decide) (hwd _ wk_197) (fun _ h9 => h9) rfl dX12_areTwice_44 ?_
                  refine lv_iload_n hx hb dX12_areTwice_47 rfl (lv_at hl 0 rfl) ?_
                  refine va_iald hx hb hK hP 16 15 rfl rfl (i := x3_lp7889) (vin (a := x3_lp7889.toInt) rfl (by omega)) dX12_areTwice_48 ?_
                  refine lv_topi (fun z7907 e7908 => ?_)
                  have t7909 : 0 ≤ z7907.toInt ∧ z7907.toInt ≤ 11 := by rw [e7908]; exact hI.2 16 _ _ rfl _
                  refine lv_aload_n hx hb dX12_areTwice_49 rfl (lv_at hl 2 rfl) ?_
                  refine va_get (D := (dC, dI)) (ci := 12) (v := .ref (g 16)) (C := RX12) (T := TX12) (N := 63) hx hb hwd inA_X12 hown hK hP 0 rfl rfl 21 (by decide) (hwd _ wk_197) (fun _ h9 => h9) rfl dX12_areTwice_50 ?_
                  refine lv_iload_n hx hb dX12_areTwice_53 rfl (lv_at hl 1 rfl) ?_
                  refine va_iald hx hb hK hP 16 15 rfl rfl (i := x2_lp7878) (vin (a := x2_lp7878.toInt) rfl (by omega)) dX12_areTwice_54 ?_
                  refine lv_topi (fun z7910 e7911 => ?_)
                  have t7912 : 0 ≤ z7910.toInt ∧ z7910.toInt ≤ 11 := by rw [e7911]; exact hI.2 16 _ _ rfl _
                  refine lv_icmp_eq (tgt := 88) hx hb dX12_areTwice_55 (by decide) (fun c7913 => ?_) (fun c7913 => ?_)
                  · skip
                    have t7914 := cv_eq (a := z7907.toInt) rfl (b := z7910.toInt) rfl c7913
                    obtain ⟨z7915, e7916⟩ : ∃ y : Int32, y = x3_lp7889 + 1 := ⟨_, rfl⟩
                    try (have t7917 := tadd e7916 rfl (b := 1) (by decide) (by omega))
                    refine lv_iinc (v := z7915) (lv' := [(3, .int z7915), (2, .int x2_lp7878), (0, .ref (g 0)), (1, .int p0)]) hx hb dX12_areTwice_88 hl (k := 0) rfl (by rw [e7916]; rfl) (by decide) rfl (fun ls hl => ?_)
                    refine lv_goto (tgt := 25) hx hb dX12_areTwice_91 (by decide) ?_
                    exact ih_lp7889 z7915  _ _ _ (by omega) (by omega) hP hS (lv_sub hl [0, 1, 2, 3] rfl)
                  · skip
                    have t7918 := cv_ne (a := z7907.toInt) rfl (b := z7910.toInt) rfl c7913
                    refine lv_aload_n hx hb dX12_areTwice_58 rfl (lv_at hl 2 rfl) ?_
                    refine va_get (D := (dC, dI)) (ci := 12) (v := .ref (g 17)) (C := RX12) (T := TX12) (N := 63) hx hb hwd inA_X12 hown hK hP 0 rfl rfl 22 (by decide) (hwd _ wk_198) (fun _ h9 => h9) rfl dX12_areTwice_59 ?_
                    refine lv_iload_n hx hb dX12_areTwice_62 rfl (lv_at hl 1 rfl) ?_
                    refine va_iald hx hb hK hP 17 16 rfl rfl (i := x2_lp7878) (vin (a := x2_lp7878.toInt) rfl (by omega)) dX12_areTwice_63 ?_
                    refine lv_topi (fun z7919 e7920 => ?_)
                    refine lv_aload_n hx hb dX12_areTwice_64 rfl (lv_at hl 2 rfl) ?_
                    refine lv_iload_n hx hb dX12_areTwice_65 rfl (lv_at hl 0 rfl) ?_
                    refine va_calli (va_runV (As := [.int x3_lp7889]) (rest := [.int z7919]) ⟨hx, hb, hml, hown, hwd⟩ (c_X12_lastDay l dC dI g c adK adV v F rc H.size x3_lp7889 hg hI (by omega)) (cwV 1 hwd (gV wk_736 wk_733 wk_734 wk_735 wk_5) rfl rfl rfl (by decide +kernel) ⟨Nat.le_of_ble_eq_true rfl, Nat.le_of_ble_eq_true rfl⟩) ⟨PM.blind, va_recv hK hP (ci := 12) (q0 := 0) rfl rfl, fun U hU hW => ⟨rfl, PM.at hK hE hP hS hU hW⟩⟩ rfl rfl hl.1 rfl (lv_room (Nat.le_of_ble_eq_true rfl)) dX12_areTwice_66 ⟨Nat.le_of_ble_eq_true rfl, Nat.le_of_ble_eq_true rfl⟩) hS (fun q _ h => (freeM hS) q h) (freeM hS) (fun r7921 u t H1 locs ht hvm hw hB hz1 hk1 hS => ?_)
                    unfold BM at hB
                    rw [ht] at hB
                    have hP : va_P (dC, dI) classes (wM g c v F rc) H1 := hB
                    clear hz1
                    generalize H1 = H at hP hS ⊢
                    have rr_r7921 := i32_rng r7921
                    refine lv_icmp_ge (tgt := 88) hx hb dX12_areTwice_69 (by decide) (fun c7922 => ?_) (fun c7922 => ?_)
                    · skip
                      have t7923 := cv_le (a := r7921.toInt) rfl (b := z7919.toInt) rfl c7922
                      obtain ⟨z7924, e7925⟩ : ∃ y : Int32, y = x3_lp7889 + 1 := ⟨_, rfl⟩
                      try (have t7926 := tadd e7925 rfl (b := 1) (by decide) (by omega))
                      refine lv_iinc (v := z7924) (lv' := [(3, .int z7924), (2, .int x2_lp7878), (0, .ref (g 0)), (1, .int p0)]) hx hb dX12_areTwice_88 hl (k := 0) rfl (by rw [e7925]; rfl) (by decide) rfl (fun ls hl => ?_)
                      refine lv_goto (tgt := 25) hx hb dX12_areTwice_91 (by decide) ?_
                      exact ih_lp7889 z7924  _ _ _ (by omega) (by omega) hP hS (lv_sub hl [0, 1, 2, 3] rfl)
                    · skip
                      have t7927 := cv_nle (a := r7921.toInt) rfl (b := z7919.toInt) rfl c7922
                      refine lv_aload_n hx hb dX12_areTwice_72 rfl (lv_at hl 2 rfl) ?_
                      refine va_get (D := (dC, dI)) (ci := 12) (v := .ref (g 17)) (C := RX12) (T := TX12) (N := 63) hx hb hwd inA_X12 hown hK hP 0 rfl rfl 22 (by decide) (hwd _ wk_198) (fun _ h9 => h9) rfl dX12_areTwice_73 ?_
                      refine lv_iload_n hx hb dX12_areTwice_76 rfl (lv_at hl 0 rfl) ?_
                      refine va_iald hx hb hK hP 17 16 rfl rfl (i := x3_lp7889) (vin (a := x3_lp7889.toInt) rfl (by omega)) dX12_areTwice_77 ?_
                      refine lv_topi (fun z7928 e7929 => ?_)
                      refine lv_aload_n hx hb dX12_areTwice_78 rfl (lv_at hl 2 rfl) ?_
                      refine lv_iload_n hx hb dX12_areTwice_79 rfl (lv_at hl 1 rfl) ?_
                      refine va_calli (va_runV (As := [.int x2_lp7878]) (rest := [.int z7928]) ⟨hx, hb, hml, hown, hwd⟩ (c_X12_lastDay l dC dI g c adK adV v F rc H.size x2_lp7878 hg hI (by omega)) (cwV 1 hwd (gV wk_736 wk_733 wk_734 wk_735 wk_5) rfl rfl rfl (by decide +kernel) ⟨Nat.le_of_ble_eq_true rfl, Nat.le_of_ble_eq_true rfl⟩) ⟨PM.blind, va_recv hK hP (ci := 12) (q0 := 0) rfl rfl, fun U hU hW => ⟨rfl, PM.at hK hE hP hS hU hW⟩⟩ rfl rfl hl.1 rfl (lv_room (Nat.le_of_ble_eq_true rfl)) dX12_areTwice_80 ⟨Nat.le_of_ble_eq_true rfl, Nat.le_of_ble_eq_true rfl⟩) hS (fun q _ h => (freeM hS) q h) (freeM hS) (fun r7930 u t H1 locs ht hvm hw hB hz1 hk1 hS => ?_)
                      unfold BM at hB
                      rw [ht] at hB
                      have hP : va_P (dC, dI) classes (wM g c v F rc) H1 := hB
                      clear hz1
                      generalize H1 = H at hP hS ⊢
                      have rr_r7930 := i32_rng r7930
                      refine lv_icmp_ge (tgt := 88) hx hb dX12_areTwice_83 (by decide) (fun c7931 => ?_) (fun c7931 => ?_)
                      · skip
                        have t7932 := cv_le (a := r7930.toInt) rfl (b := z7928.toInt) rfl c7931
                        obtain ⟨z7933, e7934⟩ : ∃ y : Int32, y = x3_lp7889 + 1 := ⟨_, rfl⟩
                        try (have t7935 := tadd e7934 rfl (b := 1) (by decide) (by omega))
                        refine lv_iinc (v := z7933) (lv' := [(3, .int z7933), (2, .int x2_lp7878), (0, .ref (g 0)), (1, .int p0)]) hx hb dX12_areTwice_88 hl (k := 0) rfl (by rw [e7934]; rfl) (by decide) rfl (fun ls hl => ?_)
                        refine lv_goto (tgt := 25) hx hb dX12_areTwice_91 (by decide) ?_
                        exact ih_lp7889 z7933  _ _ _ (by omega) (by omega) hP hS (lv_sub hl [0, 1, 2, 3] rfl)
                      · skip
                        have t7936 := cv_nle (a := r7930.toInt) rfl (b := z7928.toInt) rfl c7931
                        refine lv_iconst (v := 1) hx hb dX12_areTwice_86 (by decide) ?_
                        have hP9 : va_P (dC, dI) classes (wM g c v F rc) H := hP
                        exact W.zret (v := 1) hx hb hr (rfl) (fun t ht hW => ⟨⟨1, (), rfl, by have : (1 : Int32).toInt = 1 := (by decide); omega, (by show va_P _ _ _ t.heap; rw [ht]; exact hP9)⟩, hS.F ht⟩) hS.2.2 dX12_areTwice_87
          obtain ⟨n9, hn9⟩ : ∃ n : Nat, 2147483648 - 0 ≤ (n : Int) := ⟨((2147483648 - 0 : Int)).toNat, by omega⟩
          exact lp7889 n9 0  H _ ls (by have : (0 : Int32).toInt = 0 := (by decide); omega) (by have : (0 : Int32).toInt = 0 := (by decide); omega) hP hS hl
        · skip
          have t7937 := cv_ne (a := z7884.toInt) rfl (b := p0.toInt) rfl c7887
          refine lv_goto (tgt := 94) hx hb dX12_areTwice_20 (by decide) ?_
          obtain ⟨z7938, e7939⟩ : ∃ y : Int32, y = x2_lp7878 + 1 := ⟨_, rfl⟩
          try (have t7940 := tadd e7939 rfl (b := 1) (by decide) (by omega))
          refine lv_iinc (v := z7938) (lv' := [(2, .int z7938), (0, .ref (g 0)), (1, .int p0)]) hx hb dX12_areTwice_94 hl (k := 0) rfl (by rw [e7939]; rfl) (by decide) rfl (fun ls hl => ?_)
          refine lv_goto (tgt := 2) hx hb dX12_areTwice_97 (by decide) ?_
          exact ih_lp7878 z7938  _ _ _ (by omega) (by omega) hP hS (lv_sub hl [0, 1, 2] rfl)
  obtain ⟨n9, hn9⟩ : ∃ n : Nat, 2147483648 - 0 ≤ (n : Int) := ⟨((2147483648 - 0 : Int)).toNat, by omega⟩
  exact lp7878 n9 0  H _ ls (by have : (0 : Int32).toInt = 0 := (by decide); omega) (by have : (0 : Int32).toInt = 0 := (by decide); omega) hP hS hl
set_option maxHeartbeats 8000000 in
set_option maxRecDepth 100000 in
theorem c_X12_isDouble (l : Launch) (dC : Nat → ClassId) (dI : Nat → Nat → Nat) (g : Nat → Nat) (c : Nat → ClassId) (adK adV : Nat → Nat) (v : Nat → Int32) (F : Nat → Nat → Int32) (rc sz : Nat) (p0 : Int32) (hg : injM g) (hI : IM v F) (h0 : 0 ≤ p0.toInt ∧ p0.toInt ≤ 99) : Met l yX12_isDouble (Cond.code yX12_isDouble cX12_isDouble 3 (some .boolean) :: wA) ({ frames := 1, cells := 0, slots := 0, locals := 40 }) (va_Pc [.ref (g 0), .int p0] (PM dC dI g c adK adV v F rc sz)) (va_Qi (fun (r : Int32) (u : Unit) => 0 ≤ r.toInt ∧ r.toInt ≤ 1) (fun (_ : Unit) => BM dC dI g c (v, F, rc)) (AM g sz)) 0 0 (AM g sz) := by
  refine Met.ofW (cc := cX12_isDouble) (maxL := 3) (ret := (some .boolean)) (by decide) rfl ?_
  intro p e s m args below meth c0 s₁ B hml hv
  obtain ⟨rfl, hsz, hP, hK, hE⟩ := hv
  have hx := B.exec
  have hb := B.bytes
  have hr := B.returns
  have hts := atoms_spec (ws := Cond.code yX12_isDouble cX12_isDouble 3 (some .boolean) :: wA) B.pre
  have hwd : ∀ w ∈ wA, w.before _ s = true := fun w h => hts w (List.mem_cons_of_mem _ h)
  have hown : s.vm.findClass RX12 = some m.cls := findClass_of_methodNamed B.named
  have hlocks := B.notSynchronized
  subst hsz
  have hl := lv_entry ([.ref (g 0), .int p0]) (n := 3) (Nat.le_of_ble_eq_true rfl)
  rw [lg_entry_eq]
  generalize (lg_sl ([.ref (g 0), .int p0]) ++ List.replicate (3 - (lg_sl ([.ref (g 0), .int p0])).length) Slot.unset).toArray = ls at hl ⊢
  have hl : lv_has ls 3 [(0, .ref (g 0)), (1, .int p0)] := hl
  obtain ⟨H, eH⟩ : ∃ z, z = s.heap := ⟨_, rfl⟩
  have hP : va_P (dC, dI) classes (wM g c v F rc) H := by rw [eH]; exact hP
  have hS : va_S (AM g s.heap.size) s.heap H [] := by rw [eH]; exact va_S.rf
  refine my_heap eH ?_
  have rp0 := i32_rng p0
  refine lv_iconst (v := 0) hx hb dX12_isDouble_0 (by decide) ?_
  refine lv_istore_n (lv' := [(2, .int 0), (0, .ref (g 0)), (1, .int p0)]) hx hb dX12_isDouble_1 rfl hl (by decide) rfl (fun ls hl => ?_)
  have lp7941 : ∀ (n : Nat) (x2_lp7941 : Int32) (H : Heap) (locs : List Loc) (ls : Array Slot), (0 ≤ x2_lp7941.toInt) → (2147483648 - x2_lp7941.toInt ≤ (n : Int)) → va_P (dC, dI) classes (wM g c v F rc) H → va_S (AM g s.heap.size) s.heap H locs → lv_has ls 3 [(2, .int x2_lp7941), (0, .ref (g 0)), (1, .int p0)] → W p l e (headSpec (Cond.code yX12_isDouble cX12_isDouble 3 (some .boolean) :: wA) ({ frames := 1, cells := 0, slots := 0, locals := 40 })).room s m ([.ref (g 0), .int p0] : List Value).toArray below meth c0 H locs 0 0 (MQ below (va_Qi (fun (r : Int32) (u : Unit) => 0 ≤ r.toInt ∧ r.toInt ≤ 1) (fun (_ : Unit) => BM dC dI g c (v, F, rc)) (AM g s.heap.size)) ([.ref (g 0), .int p0] : List Value).toArray s 0 0 (AM g s.heap.size)) (F0 m 2 ls []) := by
    intro n
    induction n with
    | zero =>
      intro x2_lp7941 H locs ls t7942 hm hP hS hl
      exfalso
      have := i32_rng x2_lp7941
      omega
    | succ n ih_lp7941 =>
      intro x2_lp7941 H locs ls t7942 hm hP hS hl
      have rx2_lp7941 := i32_rng x2_lp7941
      refine lv_iload_n hx hb dX12_isDouble_2 rfl (lv_at hl 0 rfl) ?_
      refine lv_aload_n hx hb dX12_isDouble_3 rfl (lv_at hl 1 rfl) ?_
      refine va_get (D := (dC, dI)) (ci := 12) (v := .int (v 14)) (C := RX12) (T := TX12) (N := 63) hx hb hwd inA_X12 hown hK hP 0 rfl rfl 14 (by decide) (hwd _ wk_318) (fun _ h9 => h9) rfl dX12_isDouble_4 ?_
      have t7943 : 0 ≤ (v 14).toInt ∧ (v 14).toInt ≤ 100 := hI.1 14 _ _ rfl
      refine lv_icmp_ge (tgt := 64) hx hb dX12_isDouble_7 (by decide) (fun c7944 => ?_) (fun c7944 => ?_)
      · skip
        have t7945 := cv_le (a := (v 14).toInt) rfl (b := x2_lp7941.toInt) rfl c7944
        refine lv_iconst (v := 0) hx hb dX12_isDouble_64 (by decide) ?_
        have hP9 : va_P (dC, dI) classes (wM g c v F rc) H := hP
        exact W.zret (v := 0) hx hb hr (rfl) (fun t ht hW => ⟨⟨0, (), rfl, by have : (0 : Int32).toInt = 0 := (by decide); omega, (by show va_P _ _ _ t.heap; rw [ht]; exact hP9)⟩, hS.F ht⟩) hS.2.2 dX12_isDouble_65
      · skip
        have t7946 := cv_nle (a := (v 14).toInt) rfl (b := x2_lp7941.toInt) rfl c7944
        refine lv_iload_n hx hb dX12_isDouble_10 rfl (lv_at hl 0 rfl) ?_
        refine lv_iload_n hx hb dX12_isDouble_11 rfl (lv_at hl 2 rfl) ?_
        refine lv_icmp_eq (tgt := 58) hx hb dX12_isDouble_12 (by decide) (fun c7947 => ?_) (fun c7947 => ?_)
        · skip
          have t7948 := cv_eq (a := x2_lp7941.toInt) rfl (b := p0.toInt) rfl c7947
          obtain ⟨z7949, e7950⟩ : ∃ y : Int32, y = x2_lp7941 + 1 := ⟨_, rfl⟩
          try (have t7951 := tadd e7950 rfl (b := 1) (by decide) (by omega))
          refine lv_iinc (v := z7949) (lv' := [(2, .int z7949), (0, .ref (g 0)), (1, .int p0)]) hx hb dX12_isDouble_58 hl (k := 0) rfl (by rw [e7950]; rfl) (by decide) rfl (fun ls hl => ?_)
          refine lv_goto (tgt := 2) hx hb dX12_isDouble_61 (by decide) ?_
          exact ih_lp7941 z7949  _ _ _ (by omega) (by omega) hP hS (lv_sub hl [0, 1, 2] rfl)
        · skip
          have t7952 := cv_ne (a := x2_lp7941.toInt) rfl (b := p0.toInt) rfl c7947
          refine lv_aload_n hx hb dX12_isDouble_15 rfl (lv_at hl 1 rfl) ?_
          refine va_get (D := (dC, dI)) (ci := 12) (v := .ref (g 11)) (C := RX12) (T := TX12) (N := 63) hx hb hwd inA_X12 hown hK hP 0 rfl rfl 15 (by decide) (hwd _ wk_192) (fun _ h9 => h9) rfl dX12_isDouble_16 ?_
          refine lv_iload_n hx hb dX12_isDouble_19 rfl (lv_at hl 0 rfl) ?_
          refine va_iald hx hb hK hP 11 10 rfl rfl (i := x2_lp7941) (vin (a := x2_lp7941.toInt) rfl (by omega)) dX12_isDouble_20 ?_
          refine lv_topi (fun z7953 e7954 => ?_)
          have t7955 : 0 ≤ z7953.toInt ∧ z7953.toInt ≤ 9 := by rw [e7954]; exact hI.2 11 _ _ rfl _
          refine lv_aload_n hx hb dX12_isDouble_21 rfl (lv_at hl 1 rfl) ?_
          refine va_get (D := (dC, dI)) (ci := 12) (v := .ref (g 11)) (C := RX12) (T := TX12) (N := 63) hx hb hwd inA_X12 hown hK hP 0 rfl rfl 15 (by decide) (hwd _ wk_192) (fun _ h9 => h9) rfl dX12_isDouble_22 ?_
          refine lv_iload_n hx hb dX12_isDouble_25 rfl (lv_at hl 2 rfl) ?_
          refine va_iald hx hb hK hP 11 10 rfl rfl (i := p0) (vin (a := p0.toInt) rfl (by omega)) dX12_isDouble_26 ?_
          refine lv_topi (fun z7956 e7957 => ?_)
          have t7958 : 0 ≤ z7956.toInt ∧ z7956.toInt ≤ 9 := by rw [e7957]; exact hI.2 11 _ _ rfl _
          refine lv_icmp_ne (tgt := 58) hx hb dX12_isDouble_27 (by decide) (fun c7959 => ?_) (fun c7959 => ?_)
          · skip
            have t7960 := cv_ne (a := z7953.toInt) rfl (b := z7956.toInt) rfl c7959
            obtain ⟨z7961, e7962⟩ : ∃ y : Int32, y = x2_lp7941 + 1 := ⟨_, rfl⟩
            try (have t7963 := tadd e7962 rfl (b := 1) (by decide) (by omega))
            refine lv_iinc (v := z7961) (lv' := [(2, .int z7961), (0, .ref (g 0)), (1, .int p0)]) hx hb dX12_isDouble_58 hl (k := 0) rfl (by rw [e7962]; rfl) (by decide) rfl (fun ls hl => ?_)
            refine lv_goto (tgt := 2) hx hb dX12_isDouble_61 (by decide) ?_
            exact ih_lp7941 z7961  _ _ _ (by omega) (by omega) hP hS (lv_sub hl [0, 1, 2] rfl)
          · skip
            have t7964 := cv_eq (a := z7953.toInt) rfl (b := z7956.toInt) rfl c7959
            refine lv_aload_n hx hb dX12_isDouble_30 rfl (lv_at hl 1 rfl) ?_
            refine va_get (D := (dC, dI)) (ci := 12) (v := .ref (g 12)) (C := RX12) (T := TX12) (N := 63) hx hb hwd inA_X12 hown hK hP 0 rfl rfl 16 (by decide) (hwd _ wk_193) (fun _ h9 => h9) rfl dX12_isDouble_31 ?_
            refine lv_iload_n hx hb dX12_isDouble_34 rfl (lv_at hl 0 rfl) ?_
            refine va_iald hx hb hK hP 12 11 rfl rfl (i := x2_lp7941) (vin (a := x2_lp7941.toInt) rfl (by omega)) dX12_isDouble_35 ?_
            refine lv_topi (fun z7965 e7966 => ?_)
            refine lv_aload_n hx hb dX12_isDouble_36 rfl (lv_at hl 1 rfl) ?_
            refine va_get (D := (dC, dI)) (ci := 12) (v := .ref (g 12)) (C := RX12) (T := TX12) (N := 63) hx hb hwd inA_X12 hown hK hP 0 rfl rfl 16 (by decide) (hwd _ wk_193) (fun _ h9 => h9) rfl dX12_isDouble_37 ?_
            refine lv_iload_n hx hb dX12_isDouble_40 rfl (lv_at hl 2 rfl) ?_
            refine va_iald hx hb hK hP 12 11 rfl rfl (i := p0) (vin (a := p0.toInt) rfl (by omega)) dX12_isDouble_41 ?_
            refine lv_topi (fun z7967 e7968 => ?_)
            refine lv_icmp_ne (tgt := 58) hx hb dX12_isDouble_42 (by decide) (fun c7969 => ?_) (fun c7969 => ?_)
            · skip
              have t7970 := cv_ne (a := z7965.toInt) rfl (b := z7967.toInt) rfl c7969
              obtain ⟨z7971, e7972⟩ : ∃ y : Int32, y = x2_lp7941 + 1 := ⟨_, rfl⟩
              try (have t7973 := tadd e7972 rfl (b := 1) (by decide) (by omega))
              refine lv_iinc (v := z7971) (lv' := [(2, .int z7971), (0, .ref (g 0)), (1, .int p0)]) hx hb dX12_isDouble_58 hl (k := 0) rfl (by rw [e7972]; rfl) (by decide) rfl (fun ls hl => ?_)
              refine lv_goto (tgt := 2) hx hb dX12_isDouble_61 (by decide) ?_
              exact ih_lp7941 z7971  _ _ _ (by omega) (by omega) hP hS (lv_sub hl [0, 1, 2] rfl)
            · skip
              have t7974 := cv_eq (a := z7965.toInt) rfl (b := z7967.toInt) rfl c7969
              refine lv_aload_n hx hb dX12_isDouble_45 rfl (lv_at hl 1 rfl) ?_
              refine va_get (D := (dC, dI)) (ci := 12) (v := .ref (g 13)) (C := RX12) (T := TX12) (N := 63) hx hb hwd inA_X12 hown hK hP 0 rfl rfl 17 (by decide) (hwd _ wk_194) (fun _ h9 => h9) rfl dX12_isDouble_46 ?_
              refine lv_iload_n hx hb dX12_isDouble_49 rfl (lv_at hl 0 rfl) ?_
              refine va_iald hx hb hK hP 13 12 rfl rfl (i := x2_lp7941) (vin (a := x2_lp7941.toInt) rfl (by omega)) dX12_isDouble_50 ?_
              refine lv_topi (fun z7975 e7976 => ?_)
              have t7977 : 0 ≤ z7975.toInt ∧ z7975.toInt ≤ 12 := by rw [e7976]; exact hI.2 13 _ _ rfl _
              refine lv_bipush (v := 12) hx hb dX12_isDouble_51 (by decide) ?_
              refine lv_icmp_eq (tgt := 58) hx hb dX12_isDouble_53 (by decide) (fun c7978 => ?_) (fun c7978 => ?_)
              · skip
                have t7979 := cv_eq (a := z7975.toInt) rfl (b := 12) (by decide) c7978
                obtain ⟨z7980, e7981⟩ : ∃ y : Int32, y = x2_lp7941 + 1 := ⟨_, rfl⟩
                try (have t7982 := tadd e7981 rfl (b := 1) (by decide) (by omega))
                refine lv_iinc (v := z7980) (lv' := [(2, .int z7980), (0, .ref (g 0)), (1, .int p0)]) hx hb dX12_isDouble_58 hl (k := 0) rfl (by rw [e7981]; rfl) (by decide) rfl (fun ls hl => ?_)
                refine lv_goto (tgt := 2) hx hb dX12_isDouble_61 (by decide) ?_
                exact ih_lp7941 z7980  _ _ _ (by omega) (by omega) hP hS (lv_sub hl [0, 1, 2] rfl)
              · skip
                have t7983 := cv_ne (a := z7975.toInt) rfl (b := 12) (by decide) c7978
                refine lv_iconst (v := 1) hx hb dX12_isDouble_56 (by decide) ?_
                have hP9 : va_P (dC, dI) classes (wM g c v F rc) H := hP
                exact W.zret (v := 1) hx hb hr (rfl) (fun t ht hW => ⟨⟨1, (), rfl, by have : (1 : Int32).toInt = 1 := (by decide); omega, (by show va_P _ _ _ t.heap; rw [ht]; exact hP9)⟩, hS.F ht⟩) hS.2.2 dX12_isDouble_57
  obtain ⟨n9, hn9⟩ : ∃ n : Nat, 2147483648 - 0 ≤ (n : Int) := ⟨((2147483648 - 0 : Int)).toNat, by omega⟩
  exact lp7941 n9 0  H _ ls (by have : (0 : Int32).toInt = 0 := (by decide); omega) (by have : (0 : Int32).toInt = 0 := (by decide); omega) hP hS hl
set_option maxHeartbeats 8000000 in
set_option maxRecDepth 100000 in
theorem c_X12_repair (l : Launch) (dC : Nat → ClassId) (dI : Nat → Nat → Nat) (g : Nat → Nat) (c : Nat → ClassId) (adK adV : Nat → Nat) (v : Nat → Int32) (F : Nat → Nat → Int32) (rc sz : Nat) (p0 : Int32) (p1 : Int32) (hg : injM g) (hI : IM v F) : Met l yX12_repair (Cond.code yX12_repair cX12_repair 4 (some .int) :: wA) ({ frames := 3, cells := 0, slots := 0, locals := 120 }) (va_Pc [.ref (g 0), .int p0, .int p1] (PM dC dI g c adK adV v F rc sz)) (va_Qi (fun (r : Int32) (u : StM) => IM u.1 u.2.1 ∧ u.2.2 = rc ∧ (∀ k, k ∉ ([] : List Nat) → u.1 k = v k) ∧ (∀ k, k ∉ ([14] : List Nat) → u.2.1 k = F k) ∧ True) (BM dC dI g c) (AM g sz)) 0 0 (AM g sz) := by
  refine Met.ofW (cc := cX12_repair) (maxL := 4) (ret := (some .int)) (by decide) rfl ?_
  intro p e s m args below meth c0 s₁ B hml hv
  obtain ⟨rfl, hsz, hP, hK, hE⟩ := hv
  have hx := B.exec
  have hb := B.bytes
  have hr := B.returns
  have hts := atoms_spec (ws := Cond.code yX12_repair cX12_repair 4 (some .int) :: wA) B.pre
  have hwd : ∀ w ∈ wA, w.before _ s = true := fun w h => hts w (List.mem_cons_of_mem _ h)
  have hown : s.vm.findClass RX12 = some m.cls := findClass_of_methodNamed B.named
  have hlocks := B.notSynchronized
  subst hsz
  have hl := lv_entry ([.ref (g 0), .int p0, .int p1]) (n := 4) (Nat.le_of_ble_eq_true rfl)
  rw [lg_entry_eq]
  generalize (lg_sl ([.ref (g 0), .int p0, .int p1]) ++ List.replicate (4 - (lg_sl ([.ref (g 0), .int p0, .int p1])).length) Slot.unset).toArray = ls at hl ⊢
  have hl : lv_has ls 4 [(0, .ref (g 0)), (1, .int p0), (2, .int p1)] := hl
  obtain ⟨H, eH⟩ : ∃ z, z = s.heap := ⟨_, rfl⟩
  have hP : va_P (dC, dI) classes (wM g c v F rc) H := by rw [eH]; exact hP
  have hS : va_S (AM g s.heap.size) s.heap H [] := by rw [eH]; exact va_S.rf
  refine my_heap eH ?_
  have hF : ∀ k, k ∉ ([14] : List Nat) → F k = F k := fun _ _ => rfl
  have rp0 := i32_rng p0
  have rp1 := i32_rng p1
  refine lv_aload_n hx hb dX12_repair_0 rfl (lv_at hl 0 rfl) ?_
  refine lv_iload_n hx hb dX12_repair_1 rfl (lv_at hl 1 rfl) ?_
  have t8028 : 0 ≤ (v 14).toInt ∧ (v 14).toInt ≤ 100 := hI.1 14 _ _ rfl
  refine va_calli (va_runV (As := [.int p0]) (rest := []) ⟨hx, hb, hml, hown, hwd⟩ (c_X12_isPart l dC dI g c adK adV v F rc H.size p0 hg hI ) (cwV 1 hwd (gV wk_631 wk_628 wk_629 wk_630 wk_5) rfl rfl rfl (by decide +kernel) ⟨Nat.le_of_ble_eq_true rfl, Nat.le_of_ble_eq_true rfl⟩) ⟨PM.blind, va_recv hK hP (ci := 12) (q0 := 0) rfl rfl, fun U hU hW => ⟨rfl, PM.at hK hE hP hS hU hW⟩⟩ rfl rfl hl.1 rfl (lv_room (Nat.le_of_ble_eq_true rfl)) dX12_repair_2 ⟨Nat.le_of_ble_eq_true rfl, Nat.le_of_ble_eq_true rfl⟩) hS (fun q _ h => (freeM hS) q h) (freeM hS) (fun r8029 u t H1 locs ht hvm hw hB hz1 hk1 hS => ?_)
  unfold BM at hB
  rw [ht] at hB
  have hP : va_P (dC, dI) classes (wM g c v F rc) H1 := hB
  replace hw : (r8029.toInt = 1 ∧ 0 ≤ p0.toInt ∧ p0.toInt < (v 14).toInt) ∨ (r8029.toInt = 0 ∧ (p0.toInt < 0 ∨ (v 14).toInt ≤ p0.toInt)) := hw
  have hw_r8029 := hw
  clear hw
  clear hz1
  generalize H1 = H at hP hS ⊢
  refine lv_if_eq (tgt := 18) hx hb dX12_repair_5 (by decide) (fun c8030 => ?_) (fun c8030 => ?_)
  · skip
    have t8031 := cv_eq (a := r8029.toInt) rfl (b := 0) (by decide) c8030
    refine lv_iconst (v := (-1)) hx hb dX12_repair_18 (by decide) ?_
    have hP9 : va_P (dC, dI) classes (wM g c v F rc) H := hP
    exact W.iret (v := (-1)) hx hb hr (fun t ht hW => ⟨⟨(-1), (v, F, rc), rfl, ⟨hI, rfl, (fun _ _ => rfl), hF, trivial⟩, (by show va_P _ _ _ t.heap; rw [ht]; exact hP9)⟩, hS.F ht⟩) hS.2.2 dX12_repair_19
  · skip
    have t8032 := cv_ne (a := r8029.toInt) rfl (b := 0) (by decide) c8030
    refine lv_iload_n hx hb dX12_repair_8 rfl (lv_at hl 2 rfl) ?_
    refine lv_iconst (v := 1) hx hb dX12_repair_9 (by decide) ?_
    refine lv_bipush (v := 7) hx hb dX12_repair_10 (by decide) ?_
    refine va_calli (va_runS (As := [.int p1, .int 1, .int 7]) (rest := []) ⟨hx, hb, hml, hown, hwd⟩ (c_X12_in l dC dI g c adK adV v F rc H.size p1 1 7 hg hI ) (va_cwS 3 hwd (gT wk_254 wk_252 wk_253 wk_5) rfl rfl rfl (by decide +kernel) ⟨Nat.le_of_ble_eq_true rfl, Nat.le_of_ble_eq_true rfl⟩) ⟨PM.blind, fun U hU hW => ⟨rfl, PM.at hK hE hP hS hU hW⟩⟩ rfl rfl hl.1 rfl (lv_room (Nat.le_of_ble_eq_true rfl)) dX12_repair_12 ⟨Nat.le_of_ble_eq_true rfl, Nat.le_of_ble_eq_true rfl⟩) hS (fun q _ h => (freeM hS) q h) (freeM hS) (fun r8033 u t H1 locs ht hvm hw hB hz1 hk1 hS => ?_)
    unfold BM at hB
    rw [ht] at hB
    have hP : va_P (dC, dI) classes (wM g c v F rc) H1 := hB
    have hw_r8033 : (r8033.toInt = 1 ∧ (1 : Int32).toInt ≤ p1.toInt ∧ p1.toInt ≤ (7 : Int32).toInt) ∨ (r8033.toInt = 0 ∧ (p1.toInt < (1 : Int32).toInt ∨ (7 : Int32).toInt < p1.toInt)) := hw
    clear hw
    have k8034 : (1 : Int32).toInt = 1 := by decide
    have k8035 : (7 : Int32).toInt = 7 := by decide
    clear hz1
    generalize H1 = H at hP hS ⊢
    refine lv_if_ne (tgt := 20) hx hb dX12_repair_15 (by decide) (fun c8036 => ?_) (fun c8036 => ?_)
    · skip
      have t8037 := cv_ne (a := r8033.toInt) rfl (b := 0) (by decide) c8036
      refine lv_aload_n hx hb dX12_repair_20 rfl (lv_at hl 0 rfl) ?_
      refine va_get (D := (dC, dI)) (ci := 12) (v := .ref (g 13)) (C := RX12) (T := TX12) (N := 63) hx hb hwd inA_X12 hown hK hP 0 rfl rfl 17 (by decide) (hwd _ wk_194) (fun _ h9 => h9) rfl dX12_repair_21 ?_
      refine lv_iload_n hx hb dX12_repair_24 rfl (lv_at hl 1 rfl) ?_
      refine va_iald hx hb hK hP 13 12 rfl rfl (i := p0) (vin (a := p0.toInt) rfl (by omega)) dX12_repair_25 ?_
      refine lv_topi (fun z8038 e8039 => ?_)
      have t8040 : 0 ≤ z8038.toInt ∧ z8038.toInt ≤ 12 := by rw [e8039]; exact hI.2 13 _ _ rfl _
      refine lv_bipush (v := 10) hx hb dX12_repair_26 (by decide) ?_
      refine lv_icmp_eq (tgt := 34) hx hb dX12_repair_28 (by decide) (fun c8041 => ?_) (fun c8041 => ?_)
      · skip
        have t8042 := cv_eq (a := z8038.toInt) rfl (b := 10) (by decide) c8041
        refine lv_iconst (v := 0) hx hb dX12_repair_34 (by decide) ?_
        refine lv_istore_n (lv' := [(3, .int 0), (0, .ref (g 0)), (1, .int p0), (2, .int p1)]) hx hb dX12_repair_35 rfl hl (by decide) rfl (fun ls hl => ?_)
        have lp8043 : ∀ (n : Nat) (x3_lp8043 : Int32) (v_lp8043 : Nat → Int32) (F_lp8043 : Nat → Nat → Int32) (H : Heap) (locs : List Loc) (ls : Array Slot), (0 ≤ x3_lp8043.toInt) → (2147483648 - x3_lp8043.toInt ≤ (n : Int)) → (∀ k, k ∉ ([] : List Nat) → v_lp8043 k = v k) → IM v_lp8043 F_lp8043 → (∀ k, k ∉ ([14] : List Nat) → F_lp8043 k = F k) → va_P (dC, dI) classes (wM g c v_lp8043 F_lp8043 rc) H → va_S (AM g s.heap.size) s.heap H locs → lv_has ls 4 [(3, .int x3_lp8043), (0, .ref (g 0)), (1, .int p0), (2, .int p1)] → W p l e (headSpec (Cond.code yX12_repair cX12_repair 4 (some .int) :: wA) ({ frames := 3, cells := 0, slots := 0, locals := 120 })).room s m ([.ref (g 0), .int p0, .int p1] : List Value).toArray below meth c0 H locs 0 0 (MQ below (va_Qi (fun (r : Int32) (u : StM) => IM u.1 u.2.1 ∧ u.2.2 = rc ∧ (∀ k, k ∉ ([] : List Nat) → u.1 k = v k) ∧ (∀ k, k ∉ ([14] : List Nat) → u.2.1 k = F k) ∧ True) (BM dC dI g c) (AM g s.heap.size)) ([.ref (g 0), .int p0, .int p1] : List Value).toArray s 0 0 (AM g s.heap.size)) (F0 m 36 ls []) := by
          intro n
          induction n with
          | zero =>
            intro x3_lp8043 v_lp8043 F_lp8043 H locs ls t8044 hm hf_lp8043 hI hF hP hS hl
            exfalso
            have := i32_rng x3_lp8043
            have hI1 := hI.1
            omega
          | succ n ih_lp8043 =>
            intro x3_lp8043 v_lp8043 F_lp8043 H locs ls t8044 hm hf_lp8043 hI hF hP hS hl
            have rx3_lp8043 := i32_rng x3_lp8043
            refine lv_iload_n hx hb dX12_repair_36 rfl (lv_at hl 0 rfl) ?_
            refine lv_iconst (v := 3) hx hb dX12_repair_37 (by decide) ?_
            refine lv_icmp_ge (tgt := 67) hx hb dX12_repair_38 (by decide) (fun c8045 => ?_) (fun c8045 => ?_)
            · skip
              have t8046 := cv_le (a := 3) (by decide) (b := x3_lp8043.toInt) rfl c8045
              refine lv_iconst (v := 1) hx hb dX12_repair_67 (by decide) ?_
              have hP9 : va_P (dC, dI) classes (wM g c v_lp8043 F_lp8043 rc) H := hP
              exact W.iret (v := 1) hx hb hr (fun t ht hW => ⟨⟨1, (v_lp8043, F_lp8043, rc), rfl, ⟨hI, rfl, (frC (by decide) hf_lp8043 (fun _ _ => rfl)), hF, trivial⟩, (by show va_P _ _ _ t.heap; rw [ht]; exact hP9)⟩, hS.F ht⟩) hS.2.2 dX12_repair_68
            · skip
              have t8047 := cv_nle (a := 3) (by decide) (b := x3_lp8043.toInt) rfl c8045
              refine lv_iload_n hx hb dX12_repair_41 rfl (lv_at hl 3 rfl) ?_
              refine lv_iload_n hx hb dX12_repair_42 rfl (lv_at hl 0 rfl) ?_
              refine lv_ishr hx hb dX12_repair_43 ?_
              refine lv_topi (fun z8048 e8049 => ?_)
              refine lv_iconst (v := 1) hx hb dX12_repair_44 (by decide) ?_
              refine lv_iand hx hb dX12_repair_45 ?_
              refine lv_topi (fun z8051 e8052 => ?_)
              refine lv_iconst (v := 1) hx hb dX12_repair_46 (by decide) ?_
              refine lv_icmp_ne (tgt := 61) hx hb dX12_repair_47 (by decide) (fun c8054 => ?_) (fun c8054 => ?_)
              · skip
                have t8055 := cv_ne (a := z8051.toInt) rfl (b := 1) (by decide) c8054
                obtain ⟨z8056, e8057⟩ : ∃ y : Int32, y = x3_lp8043 + 1 := ⟨_, rfl⟩
                try (have t8058 := tadd e8057 rfl (b := 1) (by decide) (by omega))
                refine lv_iinc (v := z8056) (lv' := [(3, .int z8056), (0, .ref (g 0)), (1, .int p0), (2, .int p1)]) hx hb dX12_repair_61 hl (k := 0) rfl (by rw [e8057]; rfl) (by decide) rfl (fun ls hl => ?_)
                refine lv_goto (tgt := 36) hx hb dX12_repair_64 (by decide) ?_
                exact ih_lp8043 z8056 v_lp8043 F_lp8043 _ _ _ (by omega) (by omega) hf_lp8043 hI hF hP hS (lv_sub hl [0, 1, 2, 3] rfl)
              · skip
                have t8059 := cv_eq (a := z8051.toInt) rfl (b := 1) (by decide) c8054
                refine lv_aload_n hx hb dX12_repair_50 rfl (lv_at hl 1 rfl) ?_
                refine va_get (D := (dC, dI)) (ci := 12) (v := .ref (g 14)) (C := RX12) (T := TX12) (N := 63) hx hb hwd inA_X12 hown hK hP 0 rfl rfl 18 (by decide) (hwd _ wk_195) (fun _ h9 => h9) rfl dX12_repair_51 ?_
                refine lv_iconst (v := 3) hx hb dX12_repair_54 (by decide) ?_
                refine lv_iload_n hx hb dX12_repair_55 rfl (lv_at hl 2 rfl) ?_
                refine lv_imul hx hb dX12_repair_56 ?_
                refine lv_topi (fun z8060 e8061 => ?_)
                try (have t8062 := tmul e8061 (a := 3) (by decide) (b := p0.toInt) rfl (by omega))
                refine lv_iload_n hx hb dX12_repair_57 rfl (lv_at hl 0 rfl) ?_
                refine lv_iadd hx hb dX12_repair_58 ?_
                refine lv_topi (fun z8063 e8064 => ?_)
                try (have t8065 := tadd e8064 (a := z8060.toInt) rfl (b := x3_lp8043.toInt) rfl (by omega))
                refine lv_iconst (v := 0) hx hb dX12_repair_59 (by decide) ?_
                refine va_iast hx hb hK hP (DM hg) hS 14 13 rfl rfl (i := z8063) (x := 0) (vin (a := z8063.toInt) rfl (by omega)) dX12_repair_60 (fun H locs hP _ hS => ?_)
                have hP := va_P_eq (sM_14 g c _ _ _ _) hP
                have hI := IM.store0 hI 14 (z8063 : Int32).toNatClampNeg 0 rfl
                have hF := frUF (k := 14) (f := upd (F_lp8043 14) (z8063 : Int32).toNatClampNeg 0) (by decide) hF
                have hP : va_P (dC, dI) classes (wM g c v_lp8043 (va_up F_lp8043 14 (upd (F_lp8043 14) (z8063 : Int32).toNatClampNeg 0)) rc) H := hP
                generalize (va_up F_lp8043 14 (upd (F_lp8043 14) (z8063 : Int32).toNatClampNeg 0)) = F8066 at hP hI hF
                obtain ⟨z8067, e8068⟩ : ∃ y : Int32, y = x3_lp8043 + 1 := ⟨_, rfl⟩
                try (have t8069 := tadd e8068 rfl (b := 1) (by decide) (by omega))
                refine lv_iinc (v := z8067) (lv' := [(3, .int z8067), (0, .ref (g 0)), (1, .int p0), (2, .int p1)]) hx hb dX12_repair_61 hl (k := 0) rfl (by rw [e8068]; rfl) (by decide) rfl (fun ls hl => ?_)
                refine lv_goto (tgt := 36) hx hb dX12_repair_64 (by decide) ?_
                exact ih_lp8043 z8067 v_lp8043 F8066 _ _ _ (by omega) (by omega) hf_lp8043 hI hF hP hS (lv_sub hl [0, 1, 2, 3] rfl)
        obtain ⟨n9, hn9⟩ : ∃ n : Nat, 2147483648 - 0 ≤ (n : Int) := ⟨((2147483648 - 0 : Int)).toNat, by omega⟩
        exact lp8043 n9 0 v F H _ ls (by have : (0 : Int32).toInt = 0 := (by decide); omega) (by have : (0 : Int32).toInt = 0 := (by decide); omega) (fun _ _ => rfl) hI hF hP hS hl
      · skip
        have t8070 := cv_ne (a := z8038.toInt) rfl (b := 10) (by decide) c8041
        refine lv_bipush (v := (-2)) hx hb dX12_repair_31 (by decide) ?_
        have hP9 : va_P (dC, dI) classes (wM g c v F rc) H := hP
        exact W.iret (v := (-2)) hx hb hr (fun t ht hW => ⟨⟨(-2), (v, F, rc), rfl, ⟨hI, rfl, (fun _ _ => rfl), hF, trivial⟩, (by show va_P _ _ _ t.heap; rw [ht]; exact hP9)⟩, hS.F ht⟩) hS.2.2 dX12_repair_33
    · skip
      have t8071 := cv_eq (a := r8033.toInt) rfl (b := 0) (by decide) c8036
      refine lv_iconst (v := (-1)) hx hb dX12_repair_18 (by decide) ?_
      have hP9 : va_P (dC, dI) classes (wM g c v F rc) H := hP
      exact W.iret (v := (-1)) hx hb hr (fun t ht hW => ⟨⟨(-1), (v, F, rc), rfl, ⟨hI, rfl, (fun _ _ => rfl), hF, trivial⟩, (by show va_P _ _ _ t.heap; rw [ht]; exact hP9)⟩, hS.F ht⟩) hS.2.2 dX12_repair_19
set_option maxHeartbeats 8000000 in
set_option maxRecDepth 100000 in
theorem c_X12_late (l : Launch) (dC : Nat → ClassId) (dI : Nat → Nat → Nat) (g : Nat → Nat) (c : Nat → ClassId) (adK adV : Nat → Nat) (v : Nat → Int32) (F : Nat → Nat → Int32) (rc sz : Nat) (p0 : Int32) (p1 : Int32) (hg : injM g) (hI : IM v F) (h0 : 0 ≤ p0.toInt ∧ p0.toInt ≤ 9) : Met l yX12_late (Cond.code yX12_late cX12_late 3 (some .int) :: wA) ({ frames := 1, cells := 0, slots := 0, locals := 40 }) (va_Pc [.ref (g 0), .int p0, .int p1] (PM dC dI g c adK adV v F rc sz)) (va_Qi (fun (r : Int32) (u : Unit) => True) (fun (_ : Unit) => BM dC dI g c (v, F, rc)) (AM g sz)) 0 0 (AM g sz) := by
  refine Met.ofW (cc := cX12_late) (maxL := 3) (ret := (some .int)) (by decide) rfl ?_
  intro p e s m args below meth c0 s₁ B hml hv
  obtain ⟨rfl, hsz, hP, hK, hE⟩ := hv
  have hx := B.exec
  have hb := B.bytes
  have hr := B.returns
  have hts := atoms_spec (ws := Cond.code yX12_late cX12_late 3 (some .int) :: wA) B.pre
  have hwd : ∀ w ∈ wA, w.before _ s = true := fun w h => hts w (List.mem_cons_of_mem _ h)
  have hown : s.vm.findClass RX12 = some m.cls := findClass_of_methodNamed B.named
  have hlocks := B.notSynchronized
  subst hsz
  have hl := lv_entry ([.ref (g 0), .int p0, .int p1]) (n := 3) (Nat.le_of_ble_eq_true rfl)
  rw [lg_entry_eq]
  generalize (lg_sl ([.ref (g 0), .int p0, .int p1]) ++ List.replicate (3 - (lg_sl ([.ref (g 0), .int p0, .int p1])).length) Slot.unset).toArray = ls at hl ⊢
  have hl : lv_has ls 3 [(0, .ref (g 0)), (1, .int p0), (2, .int p1)] := hl
  obtain ⟨H, eH⟩ : ∃ z, z = s.heap := ⟨_, rfl⟩
  have hP : va_P (dC, dI) classes (wM g c v F rc) H := by rw [eH]; exact hP
  have hS : va_S (AM g s.heap.size) s.heap H [] := by rw [eH]; exact va_S.rf
  refine my_heap eH ?_
  have rp0 := i32_rng p0
  have rp1 := i32_rng p1
  refine lv_iload_n hx hb dX12_late_0 rfl (lv_at hl 2 rfl) ?_
  refine lv_aload_n hx hb dX12_late_1 rfl (lv_at hl 0 rfl) ?_
  refine va_get (D := (dC, dI)) (ci := 12) (v := .ref (g 35)) (C := RX12) (T := TX12) (N := 63) hx hb hwd inA_X12 hown hK hP 0 rfl rfl 49 (by decide) (hwd _ wk_217) (fun _ h9 => h9) rfl dX12_late_2 ?_
  refine lv_iload_n hx hb dX12_late_5 rfl (lv_at hl 1 rfl) ?_
  refine va_iald hx hb hK hP 35 34 rfl rfl (i := p0) (vin (a := p0.toInt) rfl (by omega)) dX12_late_6 ?_
  refine lv_topi (fun z8072 e8073 => ?_)
  refine lv_icmp_le (tgt := 21) hx hb dX12_late_7 (by decide) (fun c8074 => ?_) (fun c8074 => ?_)
  · skip
    have t8075 := cv_le (a := p1.toInt) rfl (b := z8072.toInt) rfl c8074
    refine lv_iconst (v := 0) hx hb dX12_late_21 (by decide) ?_
    have hP9 : va_P (dC, dI) classes (wM g c v F rc) H := hP
    exact W.iret (v := 0) hx hb hr (fun t ht hW => ⟨⟨0, (), rfl, trivial, (by show va_P _ _ _ t.heap; rw [ht]; exact hP9)⟩, hS.F ht⟩) hS.2.2 dX12_late_22
  · skip
    have t8076 := cv_nle (a := p1.toInt) rfl (b := z8072.toInt) rfl c8074
    refine lv_iload_n hx hb dX12_late_10 rfl (lv_at hl 2 rfl) ?_
    refine lv_aload_n hx hb dX12_late_11 rfl (lv_at hl 0 rfl) ?_
    refine va_get (D := (dC, dI)) (ci := 12) (v := .ref (g 35)) (C := RX12) (T := TX12) (N := 63) hx hb hwd inA_X12 hown hK hP 0 rfl rfl 49 (by decide) (hwd _ wk_217) (fun _ h9 => h9) rfl dX12_late_12 ?_
    refine lv_iload_n hx hb dX12_late_15 rfl (lv_at hl 1 rfl) ?_
    refine va_iald hx hb hK hP 35 34 rfl rfl (i := p0) (vin (a := p0.toInt) rfl (by omega)) dX12_late_16 ?_
    refine lv_topi (fun z8077 e8078 => ?_)
    refine lv_isub hx hb dX12_late_17 ?_
    refine lv_topi (fun z8079 e8080 => ?_)
    try (have t8081 := tsub e8080 (a := p1.toInt) rfl (b := z8077.toInt) rfl (by omega))
    refine lv_goto (tgt := 22) hx hb dX12_late_18 (by decide) ?_
    have hP9 : va_P (dC, dI) classes (wM g c v F rc) H := hP
    exact W.iret (v := z8079) hx hb hr (fun t ht hW => ⟨⟨z8079, (), rfl, trivial, (by show va_P _ _ _ t.heap; rw [ht]; exact hP9)⟩, hS.F ht⟩) hS.2.2 dX12_late_22
set_option maxHeartbeats 8000000 in
set_option maxRecDepth 100000 in
theorem c_X12_asks (l : Launch) (dC : Nat → ClassId) (dI : Nat → Nat → Nat) (g : Nat → Nat) (c : Nat → ClassId) (adK adV : Nat → Nat) (v : Nat → Int32) (F : Nat → Nat → Int32) (rc sz : Nat) (p0 : Int32) (p1 : Int32) (hg : injM g) (hI : IM v F) (h0 : 0 ≤ p0.toInt ∧ p0.toInt ≤ 19) (h1 : 0 ≤ p1.toInt ∧ p1.toInt ≤ 9) : Met l yX12_asks (Cond.code yX12_asks cX12_asks 3 (some .boolean) :: wA) ({ frames := 1, cells := 0, slots := 0, locals := 40 }) (va_Pc [.ref (g 0), .int p0, .int p1] (PM dC dI g c adK adV v F rc sz)) (va_Qi (fun (r : Int32) (u : Unit) => 0 ≤ r.toInt ∧ r.toInt ≤ 1) (fun (_ : Unit) => BM dC dI g c (v, F, rc)) (AM g sz)) 0 0 (AM g sz) := by
  refine Met.ofW (cc := cX12_asks) (maxL := 3) (ret := (some .boolean)) (by decide) rfl ?_
  intro p e s m args below meth c0 s₁ B hml hv
  obtain ⟨rfl, hsz, hP, hK, hE⟩ := hv
  have hx := B.exec
  have hb := B.bytes
  have hr := B.returns
  have hts := atoms_spec (ws := Cond.code yX12_asks cX12_asks 3 (some .boolean) :: wA) B.pre
  have hwd : ∀ w ∈ wA, w.before _ s = true := fun w h => hts w (List.mem_cons_of_mem _ h)
  have hown : s.vm.findClass RX12 = some m.cls := findClass_of_methodNamed B.named
  have hlocks := B.notSynchronized
  subst hsz
  have hl := lv_entry ([.ref (g 0), .int p0, .int p1]) (n := 3) (Nat.le_of_ble_eq_true rfl)
  rw [lg_entry_eq]
  generalize (lg_sl ([.ref (g 0), .int p0, .int p1]) ++ List.replicate (3 - (lg_sl ([.ref (g 0), .int p0, .int p1])).length) Slot.unset).toArray = ls at hl ⊢
  have hl : lv_has ls 3 [(0, .ref (g 0)), (1, .int p0), (2, .int p1)] := hl
  obtain ⟨H, eH⟩ : ∃ z, z = s.heap := ⟨_, rfl⟩
  have hP : va_P (dC, dI) classes (wM g c v F rc) H := by rw [eH]; exact hP
  have hS : va_S (AM g s.heap.size) s.heap H [] := by rw [eH]; exact va_S.rf
  refine my_heap eH ?_
  have rp0 := i32_rng p0
  have rp1 := i32_rng p1
  refine lv_aload_n hx hb dX12_asks_0 rfl (lv_at hl 0 rfl) ?_
  refine va_get (D := (dC, dI)) (ci := 12) (v := .ref (g 9)) (C := RX12) (T := TX12) (N := 63) hx hb hwd inA_X12 hown hK hP 0 rfl rfl 12 (by decide) (hwd _ wk_190) (fun _ h9 => h9) rfl dX12_asks_1 ?_
  refine lv_bipush (v := 10) hx hb dX12_asks_4 (by decide) ?_
  refine lv_iload_n hx hb dX12_asks_6 rfl (lv_at hl 2 rfl) ?_
  refine lv_imul hx hb dX12_asks_7 ?_
  refine lv_topi (fun z8082 e8083 => ?_)
  try (have t8084 := tmul e8083 (a := 10) (by decide) (b := p1.toInt) rfl (by omega))
  refine lv_aload_n hx hb dX12_asks_8 rfl (lv_at hl 0 rfl) ?_
  refine va_get (D := (dC, dI)) (ci := 12) (v := .ref (g 32)) (C := RX12) (T := TX12) (N := 63) hx hb hwd inA_X12 hown hK hP 0 rfl rfl 46 (by decide) (hwd _ wk_214) (fun _ h9 => h9) rfl dX12_asks_9 ?_
  refine lv_iload_n hx hb dX12_asks_12 rfl (lv_at hl 1 rfl) ?_
  refine va_iald hx hb hK hP 32 31 rfl rfl (i := p0) (vin (a := p0.toInt) rfl (by omega)) dX12_asks_13 ?_
  refine lv_topi (fun z8085 e8086 => ?_)
  have t8087 : 0 ≤ z8085.toInt ∧ z8085.toInt ≤ 9 := by rw [e8086]; exact hI.2 32 _ _ rfl _
  refine lv_iadd hx hb dX12_asks_14 ?_
  refine lv_topi (fun z8088 e8089 => ?_)
  try (have t8090 := tadd e8089 (a := z8082.toInt) rfl (b := z8085.toInt) rfl (by omega))
  refine va_iald hx hb hK hP 9 8 rfl rfl (i := z8088) (vin (a := z8088.toInt) rfl (by omega)) dX12_asks_15 ?_
  refine lv_topi (fun z8091 e8092 => ?_)
  refine lv_if_le (tgt := 23) hx hb dX12_asks_16 (by decide) (fun c8093 => ?_) (fun c8093 => ?_)
  · skip
    have t8094 := cv_le (a := z8091.toInt) rfl (b := 0) (by decide) c8093
    refine lv_iconst (v := 0) hx hb dX12_asks_23 (by decide) ?_
    have hP9 : va_P (dC, dI) classes (wM g c v F rc) H := hP
    exact W.zret (v := 0) hx hb hr (rfl) (fun t ht hW => ⟨⟨0, (), rfl, by have : (0 : Int32).toInt = 0 := (by decide); omega, (by show va_P _ _ _ t.heap; rw [ht]; exact hP9)⟩, hS.F ht⟩) hS.2.2 dX12_asks_24
  · skip
    have t8095 := cv_nle (a := z8091.toInt) rfl (b := 0) (by decide) c8093
    refine lv_iconst (v := 1) hx hb dX12_asks_19 (by decide) ?_
    refine lv_goto (tgt := 24) hx hb dX12_asks_20 (by decide) ?_
    have hP9 : va_P (dC, dI) classes (wM g c v F rc) H := hP
    exact W.zret (v := 1) hx hb hr (rfl) (fun t ht hW => ⟨⟨1, (), rfl, by have : (1 : Int32).toInt = 1 := (by decide); omega, (by show va_P _ _ _ t.heap; rw [ht]; exact hP9)⟩, hS.F ht⟩) hS.2.2 dX12_asks_24
set_option maxHeartbeats 8000000 in
set_option maxRecDepth 100000 in
theorem c_X12_done (l : Launch) (dC : Nat → ClassId) (dI : Nat → Nat → Nat) (g : Nat → Nat) (c : Nat → ClassId) (adK adV : Nat → Nat) (v : Nat → Int32) (F : Nat → Nat → Int32) (rc sz : Nat) (p0 : Int32) (p1 : Int32) (hg : injM g) (hI : IM v F) : Met l yX12_done (Cond.code yX12_done cX12_done 3 (some .int) :: wA) ({ frames := 3, cells := 0, slots := 0, locals := 120 }) (va_Pc [.ref (g 0), .int p0, .int p1] (PM dC dI g c adK adV v F rc sz)) (va_Qi (fun (r : Int32) (u : StM) => IM u.1 u.2.1 ∧ u.2.2 = rc ∧ (∀ k, k ∉ ([] : List Nat) → u.1 k = v k) ∧ (∀ k, k ∉ ([34] : List Nat) → u.2.1 k = F k) ∧ True) (BM dC dI g c) (AM g sz)) 0 0 (AM g sz) := by
  refine Met.ofW (cc := cX12_done) (maxL := 3) (ret := (some .int)) (by decide) rfl ?_
  intro p e s m args below meth c0 s₁ B hml hv
  obtain ⟨rfl, hsz, hP, hK, hE⟩ := hv
  have hx := B.exec
  have hb := B.bytes
  have hr := B.returns
  have hts := atoms_spec (ws := Cond.code yX12_done cX12_done 3 (some .int) :: wA) B.pre
  have hwd : ∀ w ∈ wA, w.before _ s = true := fun w h => hts w (List.mem_cons_of_mem _ h)
  have hown : s.vm.findClass RX12 = some m.cls := findClass_of_methodNamed B.named
  have hlocks := B.notSynchronized
  subst hsz
  have hl := lv_entry ([.ref (g 0), .int p0, .int p1]) (n := 3) (Nat.le_of_ble_eq_true rfl)
  rw [lg_entry_eq]
  generalize (lg_sl ([.ref (g 0), .int p0, .int p1]) ++ List.replicate (3 - (lg_sl ([.ref (g 0), .int p0, .int p1])).length) Slot.unset).toArray = ls at hl ⊢
  have hl : lv_has ls 3 [(0, .ref (g 0)), (1, .int p0), (2, .int p1)] := hl
  obtain ⟨H, eH⟩ : ∃ z, z = s.heap := ⟨_, rfl⟩
  have hP : va_P (dC, dI) classes (wM g c v F rc) H := by rw [eH]; exact hP
  have hS : va_S (AM g s.heap.size) s.heap H [] := by rw [eH]; exact va_S.rf
  refine my_heap eH ?_
  have hF : ∀ k, k ∉ ([34] : List Nat) → F k = F k := fun _ _ => rfl
  have rp0 := i32_rng p0
  have rp1 := i32_rng p1
  refine lv_iload_n hx hb dX12_done_0 rfl (lv_at hl 1 rfl) ?_
  refine lv_iconst (v := 0) hx hb dX12_done_1 (by decide) ?_
  refine lv_aload_n hx hb dX12_done_2 rfl (lv_at hl 0 rfl) ?_
  refine va_get (D := (dC, dI)) (ci := 12) (v := .int (v 45)) (C := RX12) (T := TX12) (N := 63) hx hb hwd inA_X12 hown hK hP 0 rfl rfl 45 (by decide) (hwd _ wk_485) (fun _ h9 => h9) rfl dX12_done_3 ?_
  have t8132 : 0 ≤ (v 45).toInt ∧ (v 45).toInt ≤ 20 := hI.1 45 _ _ rfl
  refine lv_iconst (v := 1) hx hb dX12_done_6 (by decide) ?_
  refine lv_isub hx hb dX12_done_7 ?_
  refine lv_topi (fun z8133 e8134 => ?_)
  try (have t8135 := tsub e8134 (a := (v 45).toInt) rfl (b := 1) (by decide) (by omega))
  refine va_calli (va_runS (As := [.int p0, .int 0, .int z8133]) (rest := []) ⟨hx, hb, hml, hown, hwd⟩ (c_X12_in l dC dI g c adK adV v F rc H.size p0 0 z8133 hg hI ) (va_cwS 3 hwd (gT wk_254 wk_252 wk_253 wk_5) rfl rfl rfl (by decide +kernel) ⟨Nat.le_of_ble_eq_true rfl, Nat.le_of_ble_eq_true rfl⟩) ⟨PM.blind, fun U hU hW => ⟨rfl, PM.at hK hE hP hS hU hW⟩⟩ rfl rfl hl.1 rfl (lv_room (Nat.le_of_ble_eq_true rfl)) dX12_done_8 ⟨Nat.le_of_ble_eq_true rfl, Nat.le_of_ble_eq_true rfl⟩) hS (fun q _ h => (freeM hS) q h) (freeM hS) (fun r8136 u t H1 locs ht hvm hw hB hz1 hk1 hS => ?_)
  unfold BM at hB
  rw [ht] at hB
  have hP : va_P (dC, dI) classes (wM g c v F rc) H1 := hB
  have hw_r8136 : (r8136.toInt = 1 ∧ (0 : Int32).toInt ≤ p0.toInt ∧ p0.toInt ≤ z8133.toInt) ∨ (r8136.toInt = 0 ∧ (p0.toInt < (0 : Int32).toInt ∨ z8133.toInt < p0.toInt)) := hw
  clear hw
  have k8137 : (0 : Int32).toInt = 0 := by decide
  clear hz1
  generalize H1 = H at hP hS ⊢
  refine lv_if_eq (tgt := 22) hx hb dX12_done_11 (by decide) (fun c8138 => ?_) (fun c8138 => ?_)
  · skip
    have t8139 := cv_eq (a := r8136.toInt) rfl (b := 0) (by decide) c8138
    refine lv_iconst (v := (-1)) hx hb dX12_done_22 (by decide) ?_
    have hP9 : va_P (dC, dI) classes (wM g c v F rc) H := hP
    exact W.iret (v := (-1)) hx hb hr (fun t ht hW => ⟨⟨(-1), (v, F, rc), rfl, ⟨hI, rfl, (fun _ _ => rfl), hF, trivial⟩, (by show va_P _ _ _ t.heap; rw [ht]; exact hP9)⟩, hS.F ht⟩) hS.2.2 dX12_done_23
  · skip
    have t8140 := cv_ne (a := r8136.toInt) rfl (b := 0) (by decide) c8138
    refine lv_aload_n hx hb dX12_done_14 rfl (lv_at hl 0 rfl) ?_
    refine lv_iload_n hx hb dX12_done_15 rfl (lv_at hl 2 rfl) ?_
    have t8141 : 0 ≤ (v 6).toInt ∧ (v 6).toInt ≤ 10 := hI.1 6 _ _ rfl
    refine va_calli (va_runV (As := [.int p1]) (rest := []) ⟨hx, hb, hml, hown, hwd⟩ (c_X12_isPlane l dC dI g c adK adV v F rc H.size p1 hg hI ) (cwV 1 hwd (gV wk_305 wk_302 wk_303 wk_304 wk_5) rfl rfl rfl (by decide +kernel) ⟨Nat.le_of_ble_eq_true rfl, Nat.le_of_ble_eq_true rfl⟩) ⟨PM.blind, va_recv hK hP (ci := 12) (q0 := 0) rfl rfl, fun U hU hW => ⟨rfl, PM.at hK hE hP hS hU hW⟩⟩ rfl rfl hl.1 rfl (lv_room (Nat.le_of_ble_eq_true rfl)) dX12_done_16 ⟨Nat.le_of_ble_eq_true rfl, Nat.le_of_ble_eq_true rfl⟩) hS (fun q _ h => (freeM hS) q h) (freeM hS) (fun r8142 u t H1 locs ht hvm hw hB hz1 hk1 hS => ?_)
    unfold BM at hB
    rw [ht] at hB
    have hP : va_P (dC, dI) classes (wM g c v F rc) H1 := hB
    replace hw : (r8142.toInt = 1 ∧ 0 ≤ p1.toInt ∧ p1.toInt < (v 6).toInt) ∨ (r8142.toInt = 0 ∧ (p1.toInt < 0 ∨ (v 6).toInt ≤ p1.toInt)) := hw
    have hw_r8142 := hw
    clear hw
    clear hz1
    generalize H1 = H at hP hS ⊢
    refine lv_if_ne (tgt := 24) hx hb dX12_done_19 (by decide) (fun c8143 => ?_) (fun c8143 => ?_)
    · skip
      have t8144 := cv_ne (a := r8142.toInt) rfl (b := 0) (by decide) c8143
      refine lv_aload_n hx hb dX12_done_24 rfl (lv_at hl 0 rfl) ?_
      refine va_get (D := (dC, dI)) (ci := 12) (v := .ref (g 34)) (C := RX12) (T := TX12) (N := 63) hx hb hwd inA_X12 hown hK hP 0 rfl rfl 48 (by decide) (hwd _ wk_216) (fun _ h9 => h9) rfl dX12_done_25 ?_
      refine lv_bipush (v := 10) hx hb dX12_done_28 (by decide) ?_
      refine lv_iload_n hx hb dX12_done_30 rfl (lv_at hl 1 rfl) ?_
      refine lv_imul hx hb dX12_done_31 ?_
      refine lv_topi (fun z8145 e8146 => ?_)
      try (have t8147 := tmul e8146 (a := 10) (by decide) (b := p0.toInt) rfl (by omega))
      refine lv_iload_n hx hb dX12_done_32 rfl (lv_at hl 2 rfl) ?_
      refine lv_iadd hx hb dX12_done_33 ?_
      refine lv_topi (fun z8148 e8149 => ?_)
      try (have t8150 := tadd e8149 (a := z8145.toInt) rfl (b := p1.toInt) rfl (by omega))
      refine va_zald hx hb hK hP 34 33 rfl rfl (i := z8148) (vin (a := z8148.toInt) rfl (by omega)) dX12_done_34 ?_
      refine lv_topi (fun z8151 e8152 => ?_)
      refine lv_if_ne (tgt := 47) hx hb dX12_done_35 (by decide) (fun c8153 => ?_) (fun c8153 => ?_)
      · skip
        have t8154 := cv_ne (a := z8151.toInt) rfl (b := 0) (by decide) c8153
        refine lv_bipush (v := (-2)) hx hb dX12_done_47 (by decide) ?_
        have hP9 : va_P (dC, dI) classes (wM g c v F rc) H := hP
        exact W.iret (v := (-2)) hx hb hr (fun t ht hW => ⟨⟨(-2), (v, F, rc), rfl, ⟨hI, rfl, (fun _ _ => rfl), hF, trivial⟩, (by show va_P _ _ _ t.heap; rw [ht]; exact hP9)⟩, hS.F ht⟩) hS.2.2 dX12_done_49
      · skip
        have t8155 := cv_eq (a := z8151.toInt) rfl (b := 0) (by decide) c8153
        refine lv_aload_n hx hb dX12_done_38 rfl (lv_at hl 0 rfl) ?_
        refine lv_iload_n hx hb dX12_done_39 rfl (lv_at hl 1 rfl) ?_
        refine lv_iload_n hx hb dX12_done_40 rfl (lv_at hl 2 rfl) ?_
        refine va_calli (va_runV (As := [.int p0, .int p1]) (rest := []) ⟨hx, hb, hml, hown, hwd⟩ (c_X12_asks l dC dI g c adK adV v F rc H.size p0 p1 hg hI (by omega) (by omega)) (cwV 2 hwd (gV wk_520 wk_517 wk_518 wk_519 wk_5) rfl rfl rfl (by decide +kernel) ⟨Nat.le_of_ble_eq_true rfl, Nat.le_of_ble_eq_true rfl⟩) ⟨PM.blind, va_recv hK hP (ci := 12) (q0 := 0) rfl rfl, fun U hU hW => ⟨rfl, PM.at hK hE hP hS hU hW⟩⟩ rfl rfl hl.1 rfl (lv_room (Nat.le_of_ble_eq_true rfl)) dX12_done_41 ⟨Nat.le_of_ble_eq_true rfl, Nat.le_of_ble_eq_true rfl⟩) hS (fun q _ h => (freeM hS) q h) (freeM hS) (fun r8156 u t H1 locs ht hvm hw hB hz1 hk1 hS => ?_)
        unfold BM at hB
        rw [ht] at hB
        have hP : va_P (dC, dI) classes (wM g c v F rc) H1 := hB
        have hw_r8156 : 0 ≤ r8156.toInt ∧ r8156.toInt ≤ 1 := hw
        clear hw
        clear hz1
        generalize H1 = H at hP hS ⊢
        refine lv_if_ne (tgt := 50) hx hb dX12_done_44 (by decide) (fun c8157 => ?_) (fun c8157 => ?_)
        · skip
          have t8158 := cv_ne (a := r8156.toInt) rfl (b := 0) (by decide) c8157
          refine lv_aload_n hx hb dX12_done_50 rfl (lv_at hl 0 rfl) ?_
          refine va_get (D := (dC, dI)) (ci := 12) (v := .ref (g 34)) (C := RX12) (T := TX12) (N := 63) hx hb hwd inA_X12 hown hK hP 0 rfl rfl 48 (by decide) (hwd _ wk_216) (fun _ h9 => h9) rfl dX12_done_51 ?_
          refine lv_bipush (v := 10) hx hb dX12_done_54 (by decide) ?_
          refine lv_iload_n hx hb dX12_done_56 rfl (lv_at hl 1 rfl) ?_
          refine lv_imul hx hb dX12_done_57 ?_
          refine lv_topi (fun z8159 e8160 => ?_)
          try (have t8161 := tmul e8160 (a := 10) (by decide) (b := p0.toInt) rfl (by omega))
          refine lv_iload_n hx hb dX12_done_58 rfl (lv_at hl 2 rfl) ?_
          refine lv_iadd hx hb dX12_done_59 ?_
          refine lv_topi (fun z8162 e8163 => ?_)
          try (have t8164 := tadd e8163 (a := z8159.toInt) rfl (b := p1.toInt) rfl (by omega))
          refine lv_iconst (v := 1) hx hb dX12_done_60 (by decide) ?_
          refine va_zast hx hb hK hP (DM hg) hS 34 33 rfl rfl (i := z8162) (x := 1) (vin (a := z8162.toInt) rfl (by omega)) dX12_done_61 (fun H locs hP _ hS => ?_)
          have hP := va_P_eq (sM_34 g c _ _ _ _) hP
          have hI := IM.store0 hI 34 (z8162 : Int32).toNatClampNeg (vp_nar .boolean 1) rfl
          have hF := frUF (k := 34) (f := upd (F 34) (z8162 : Int32).toNatClampNeg (vp_nar .boolean 1)) (by decide) hF
          have hP : va_P (dC, dI) classes (wM g c v (va_up F 34 (upd (F 34) (z8162 : Int32).toNatClampNeg (vp_nar .boolean 1))) rc) H := hP
          generalize (va_up F 34 (upd (F 34) (z8162 : Int32).toNatClampNeg (vp_nar .boolean 1))) = F8165 at hP hI hF
          refine lv_iconst (v := 1) hx hb dX12_done_62 (by decide) ?_
          have hP9 : va_P (dC, dI) classes (wM g c v F8165 rc) H := hP
          exact W.iret (v := 1) hx hb hr (fun t ht hW => ⟨⟨1, (v, F8165, rc), rfl, ⟨hI, rfl, (fun _ _ => rfl), hF, trivial⟩, (by show va_P _ _ _ t.heap; rw [ht]; exact hP9)⟩, hS.F ht⟩) hS.2.2 dX12_done_63
        · skip
          have t8166 := cv_eq (a := r8156.toInt) rfl (b := 0) (by decide) c8157
          refine lv_bipush (v := (-2)) hx hb dX12_done_47 (by decide) ?_
          have hP9 : va_P (dC, dI) classes (wM g c v F rc) H := hP
          exact W.iret (v := (-2)) hx hb hr (fun t ht hW => ⟨⟨(-2), (v, F, rc), rfl, ⟨hI, rfl, (fun _ _ => rfl), hF, trivial⟩, (by show va_P _ _ _ t.heap; rw [ht]; exact hP9)⟩, hS.F ht⟩) hS.2.2 dX12_done_49
    · skip
      have t8167 := cv_eq (a := r8142.toInt) rfl (b := 0) (by decide) c8143
      refine lv_iconst (v := (-1)) hx hb dX12_done_22 (by decide) ?_
      have hP9 : va_P (dC, dI) classes (wM g c v F rc) H := hP
      exact W.iret (v := (-1)) hx hb hr (fun t ht hW => ⟨⟨(-1), (v, F, rc), rfl, ⟨hI, rfl, (fun _ _ => rfl), hF, trivial⟩, (by show va_P _ _ _ t.heap; rw [ht]; exact hP9)⟩, hS.F ht⟩) hS.2.2 dX12_done_23
set_option maxHeartbeats 8000000 in
set_option maxRecDepth 100000 in
theorem c_X12_board (l : Launch) (dC : Nat → ClassId) (dI : Nat → Nat → Nat) (g : Nat → Nat) (c : Nat → ClassId) (adK adV : Nat → Nat) (v : Nat → Int32) (F : Nat → Nat → Int32) (rc sz : Nat) (p0 : Int32) (hg : injM g) (hI : IM v F) : Met l yX12_board (Cond.code yX12_board cX12_board 3 none :: wA) ({ frames := 1, cells := 0, slots := 0, locals := 40 }) (va_Pc [.ref (g 0), .int p0] (PM dC dI g c adK adV v F rc sz)) (va_Qv (fun (u : StM) => IM u.1 u.2.1 ∧ u.2.2 = rc ∧ (∀ k, k ∉ ([] : List Nat) → u.1 k = v k) ∧ (∀ k, k ∉ ([42] : List Nat) → u.2.1 k = F k) ∧ (∀ j : Nat, (j : Int) < (v 14).toInt → (u.2.1 42 j).toInt ≠ 0 → (F 13 j).toInt = p0.toInt)) (BM dC dI g c) (AM g sz)) 0 0 (AM g sz) := by
  refine Met.ofW (cc := cX12_board) (maxL := 3) (ret := none) (by decide) rfl ?_
  intro p e s m args below meth c0 s₁ B hml hv
  obtain ⟨rfl, hsz, hP, hK, hE⟩ := hv
  have hx := B.exec
  have hb := B.bytes
  have hr := B.returns
  have hts := atoms_spec (ws := Cond.code yX12_board cX12_board 3 none :: wA) B.pre
  have hwd : ∀ w ∈ wA, w.before _ s = true := fun w h => hts w (List.mem_cons_of_mem _ h)
  have hown : s.vm.findClass RX12 = some m.cls := findClass_of_methodNamed B.named
  have hlocks := B.notSynchronized
  subst hsz
  have hl := lv_entry ([.ref (g 0), .int p0]) (n := 3) (Nat.le_of_ble_eq_true rfl)
  rw [lg_entry_eq]
  generalize (lg_sl ([.ref (g 0), .int p0]) ++ List.replicate (3 - (lg_sl ([.ref (g 0), .int p0])).length) Slot.unset).toArray = ls at hl ⊢
  have hl : lv_has ls 3 [(0, .ref (g 0)), (1, .int p0)] := hl
  obtain ⟨H, eH⟩ : ∃ z, z = s.heap := ⟨_, rfl⟩
  have hP : va_P (dC, dI) classes (wM g c v F rc) H := by rw [eH]; exact hP
  have hS : va_S (AM g s.heap.size) s.heap H [] := by rw [eH]; exact va_S.rf
  refine my_heap eH ?_
  have hF : ∀ k, k ∉ ([42] : List Nat) → F k = F k := fun _ _ => rfl
  have rp0 := i32_rng p0
  refine lv_iconst (v := 0) hx hb dX12_board_0 (by decide) ?_
  refine lv_istore_n (lv' := [(2, .int 0), (0, .ref (g 0)), (1, .int p0)]) hx hb dX12_board_1 rfl hl (by decide) rfl (fun ls hl => ?_)
  have lp8193 : ∀ (n : Nat) (x2_lp8193 : Int32) (v_lp8193 : Nat → Int32) (F_lp8193 : Nat → Nat → Int32) (H : Heap) (locs : List Loc) (ls : Array Slot), (0 ≤ x2_lp8193.toInt) → (∀ j : Nat, (j : Int) < x2_lp8193.toInt → (F_lp8193 42 j).toInt ≠ 0 → (F 13 j).toInt = p0.toInt) → (2147483648 - x2_lp8193.toInt ≤ (n : Int)) → (∀ k, k ∉ ([] : List Nat) → v_lp8193 k = v k) → IM v_lp8193 F_lp8193 → (∀ k, k ∉ ([42] : List Nat) → F_lp8193 k = F k) → va_P (dC, dI) classes (wM g c v_lp8193 F_lp8193 rc) H → va_S (AM g s.heap.size) s.heap H locs → lv_has ls 3 [(2, .int x2_lp8193), (0, .ref (g 0)), (1, .int p0)] → W p l e (headSpec (Cond.code yX12_board cX12_board 3 none :: wA) ({ frames := 1, cells := 0, slots := 0, locals := 40 })).room s m ([.ref (g 0), .int p0] : List Value).toArray below meth c0 H locs 0 0 (MQ below (va_Qv (fun (u : StM) => IM u.1 u.2.1 ∧ u.2.2 = rc ∧ (∀ k, k ∉ ([] : List Nat) → u.1 k = v k) ∧ (∀ k, k ∉ ([42] : List Nat) → u.2.1 k = F k) ∧ (∀ j : Nat, (j : Int) < (v 14).toInt → (u.2.1 42 j).toInt ≠ 0 → (F 13 j).toInt = p0.toInt)) (BM dC dI g c) (AM g s.heap.size)) ([.ref (g 0), .int p0] : List Value).toArray s 0 0 (AM g s.heap.size)) (F0 m 2 ls []) := by
    intro n
    induction n with
    | zero =>
      intro x2_lp8193 v_lp8193 F_lp8193 H locs ls t8194 t8195 hm hf_lp8193 hI hF hP hS hl
      exfalso
      have := i32_rng x2_lp8193
      have hI1 := hI.1
      omega
    | succ n ih_lp8193 =>
      intro x2_lp8193 v_lp8193 F_lp8193 H locs ls t8194 t8195 hm hf_lp8193 hI hF hP hS hl
      have rx2_lp8193 := i32_rng x2_lp8193
      refine lv_iload_n hx hb dX12_board_2 rfl (lv_at hl 0 rfl) ?_
      refine lv_aload_n hx hb dX12_board_3 rfl (lv_at hl 1 rfl) ?_
      refine va_get (D := (dC, dI)) (ci := 12) (v := .int (v_lp8193 14)) (C := RX12) (T := TX12) (N := 63) hx hb hwd inA_X12 hown hK hP 0 rfl rfl 14 (by decide) (hwd _ wk_318) (fun _ h9 => h9) rfl dX12_board_4 ?_
      refine my_top (v := v 14) (hf_lp8193 14 (by decide)) ?_
      have t8196 : 0 ≤ (v 14).toInt ∧ (v 14).toInt ≤ 100 := by have h9 := hI.1 14 _ _ rfl; rw [show v_lp8193 14 = v 14 from hf_lp8193 14 (by decide)] at h9; exact h9
      refine lv_icmp_ge (tgt := 37) hx hb dX12_board_7 (by decide) (fun c8197 => ?_) (fun c8197 => ?_)
      · skip
        have t8198 := cv_le (a := (v 14).toInt) rfl (b := x2_lp8193.toInt) rfl c8197
        have hP9 : va_P (dC, dI) classes (wM g c v_lp8193 F_lp8193 rc) H := hP
        exact W.vret hx hb hr (fun t ht hW => ⟨⟨(v_lp8193, F_lp8193, rc), rfl, ⟨hI, rfl, (frC (by decide) hf_lp8193 (fun _ _ => rfl)), hF, (fun j h1 h2 => t8195 j (by have h9 : v_lp8193 14 = v 14 := hf_lp8193 14 (by decide); omega) h2)⟩, (by show va_P _ _ _ t.heap; rw [ht]; exact hP9)⟩, hS.F ht⟩) hS.2.2 dX12_board_37
      · skip
        have t8199 := cv_nle (a := (v 14).toInt) rfl (b := x2_lp8193.toInt) rfl c8197
        refine lv_aload_n hx hb dX12_board_10 rfl (lv_at hl 1 rfl) ?_
        refine va_get (D := (dC, dI)) (ci := 12) (v := .ref (g 42)) (C := RX12) (T := TX12) (N := 63) hx hb hwd inA_X12 hown hK hP 0 rfl rfl 56 (by decide) (hwd _ wk_224) (fun _ h9 => h9) rfl dX12_board_11 ?_
        refine lv_iload_n hx hb dX12_board_14 rfl (lv_at hl 0 rfl) ?_
        refine lv_aload_n hx hb dX12_board_15 rfl (lv_at hl 1 rfl) ?_
        refine va_get (D := (dC, dI)) (ci := 12) (v := .ref (g 13)) (C := RX12) (T := TX12) (N := 63) hx hb hwd inA_X12 hown hK hP 0 rfl rfl 17 (by decide) (hwd _ wk_194) (fun _ h9 => h9) rfl dX12_board_16 ?_
        refine lv_iload_n hx hb dX12_board_19 rfl (lv_at hl 0 rfl) ?_
        refine va_iald hx hb hK hP 13 12 rfl rfl (i := x2_lp8193) (vin (a := x2_lp8193.toInt) rfl (by omega)) dX12_board_20 ?_
        refine lv_topi (fun z8200 e8201 => ?_)
        have t8202 : 0 ≤ z8200.toInt ∧ z8200.toInt ≤ 12 := by rw [e8201]; exact hI.2 13 _ _ rfl _
        have e8201 : z8200 = F 13 (x2_lp8193 : Int32).toNatClampNeg := e8201.trans (congrFun (hF 13 (by decide)) _)
        have tzz8200 : z8200.toInt = (F 13 (x2_lp8193 : Int32).toNatClampNeg).toInt := congrArg Int32.toInt e8201
        refine lv_iload_n hx hb dX12_board_21 rfl (lv_at hl 2 rfl) ?_
        refine lv_icmp_ne (tgt := 29) hx hb dX12_board_22 (by decide) (fun c8203 => ?_) (fun c8203 => ?_)
        · skip
          have t8204 := cv_ne (a := z8200.toInt) rfl (b := p0.toInt) rfl c8203
          refine lv_iconst (v := 0) hx hb dX12_board_29 (by decide) ?_
          refine va_zast hx hb hK hP (DM hg) hS 42 41 rfl rfl (i := x2_lp8193) (x := 0) (vin (a := x2_lp8193.toInt) rfl (by omega)) dX12_board_30 (fun H locs hP _ hS => ?_)
          have hP := va_P_eq (sM_42 g c _ _ _ _) hP
          have hI := IM.store0 hI 42 (x2_lp8193 : Int32).toNatClampNeg (vp_nar .boolean 0) rfl
          have hF := frUF (k := 42) (f := upd (F_lp8193 42) (x2_lp8193 : Int32).toNatClampNeg (vp_nar .boolean 0)) (by decide) hF
          have st8206 : (va_up F_lp8193 42 (upd (F_lp8193 42) (x2_lp8193 : Int32).toNatClampNeg (vp_nar .boolean 0))) 42 = upd (F_lp8193 42) (x2_lp8193 : Int32).toNatClampNeg (vp_nar .boolean 0) := va_up_self _ _ _
          have sn8207 : ∀ k9, k9 ≠ 42 → (va_up F_lp8193 42 (upd (F_lp8193 42) (x2_lp8193 : Int32).toNatClampNeg (vp_nar .boolean 0))) k9 = F_lp8193 k9 := fun k9 h9 => va_up_ne _ _ h9
          have hP : va_P (dC, dI) classes (wM g c v_lp8193 (va_up F_lp8193 42 (upd (F_lp8193 42) (x2_lp8193 : Int32).toNatClampNeg (vp_nar .boolean 0))) rc) H := hP
          generalize (va_up F_lp8193 42 (upd (F_lp8193 42) (x2_lp8193 : Int32).toNatClampNeg (vp_nar .boolean 0))) = F8205 at hP hI hF st8206 sn8207
          obtain ⟨z8208, e8209⟩ : ∃ y : Int32, y = x2_lp8193 + 1 := ⟨_, rfl⟩
          try (have t8210 := tadd e8209 rfl (b := 1) (by decide) (by omega))
          refine lv_iinc (v := z8208) (lv' := [(2, .int z8208), (0, .ref (g 0)), (1, .int p0)]) hx hb dX12_board_31 hl (k := 0) rfl (by rw [e8209]; rfl) (by decide) rfl (fun ls hl => ?_)
          refine lv_goto (tgt := 2) hx hb dX12_board_34 (by decide) ?_
          exact ih_lp8193 z8208 v_lp8193 F8205 _ _ _ (by omega) (bd_step (by omega) st8206 t8195 (by first | exact (fun _ => by omega) | exact (fun h => absurd (by decide) h))) (by omega) hf_lp8193 hI hF hP hS (lv_sub hl [0, 1, 2] rfl)
        · skip
          have t8211 := cv_eq (a := z8200.toInt) rfl (b := p0.toInt) rfl c8203
          refine lv_iconst (v := 1) hx hb dX12_board_25 (by decide) ?_
          refine lv_goto (tgt := 30) hx hb dX12_board_26 (by decide) ?_
          refine va_zast hx hb hK hP (DM hg) hS 42 41 rfl rfl (i := x2_lp8193) (x := 1) (vin (a := x2_lp8193.toInt) rfl (by omega)) dX12_board_30 (fun H locs hP _ hS => ?_)
          have hP := va_P_eq (sM_42 g c _ _ _ _) hP
          have hI := IM.store0 hI 42 (x2_lp8193 : Int32).toNatClampNeg (vp_nar .boolean 1) rfl
          have hF := frUF (k := 42) (f := upd (F_lp8193 42) (x2_lp8193 : Int32).toNatClampNeg (vp_nar .boolean 1)) (by decide) hF
          have st8213 : (va_up F_lp8193 42 (upd (F_lp8193 42) (x2_lp8193 : Int32).toNatClampNeg (vp_nar .boolean 1))) 42 = upd (F_lp8193 42) (x2_lp8193 : Int32).toNatClampNeg (vp_nar .boolean 1) := va_up_self _ _ _
          have sn8214 : ∀ k9, k9 ≠ 42 → (va_up F_lp8193 42 (upd (F_lp8193 42) (x2_lp8193 : Int32).toNatClampNeg (vp_nar .boolean 1))) k9 = F_lp8193 k9 := fun k9 h9 => va_up_ne _ _ h9
          have hP : va_P (dC, dI) classes (wM g c v_lp8193 (va_up F_lp8193 42 (upd (F_lp8193 42) (x2_lp8193 : Int32).toNatClampNeg (vp_nar .boolean 1))) rc) H := hP
          generalize (va_up F_lp8193 42 (upd (F_lp8193 42) (x2_lp8193 : Int32).toNatClampNeg (vp_nar .boolean 1))) = F8212 at hP hI hF st8213 sn8214
          obtain ⟨z8215, e8216⟩ : ∃ y : Int32, y = x2_lp8193 + 1 := ⟨_, rfl⟩
          try (have t8217 := tadd e8216 rfl (b := 1) (by decide) (by omega))
          refine lv_iinc (v := z8215) (lv' := [(2, .int z8215), (0, .ref (g 0)), (1, .int p0)]) hx hb dX12_board_31 hl (k := 0) rfl (by rw [e8216]; rfl) (by decide) rfl (fun ls hl => ?_)
          refine lv_goto (tgt := 2) hx hb dX12_board_34 (by decide) ?_
          exact ih_lp8193 z8215 v_lp8193 F8212 _ _ _ (by omega) (bd_step (by omega) st8213 t8195 (by first | exact (fun _ => by omega) | exact (fun h => absurd (by decide) h))) (by omega) hf_lp8193 hI hF hP hS (lv_sub hl [0, 1, 2] rfl)
  obtain ⟨n9, hn9⟩ : ∃ n : Nat, 2147483648 - 0 ≤ (n : Int) := ⟨((2147483648 - 0 : Int)).toNat, by omega⟩
  exact lp8193 n9 0 v F H _ ls (by have : (0 : Int32).toInt = 0 := (by decide); omega) (fun j h => absurd h (by have : (0 : Int32).toInt = 0 := (by decide); omega)) (by have : (0 : Int32).toInt = 0 := (by decide); omega) (fun _ _ => rfl) hI hF hP hS hl
