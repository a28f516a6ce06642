set_option maxHeartbeats 8000000 in
set_option maxRecDepth 100000 in
theorem c_X12_isGap (l : Launch) (dC : Nat → ClassId) (dI : Nat → Nat → Nat) (g : Nat → Nat) (c : Nat → ClassId) (adK adV : Nat → Nat) (v : Nat → Int32) (F : Nat → Nat → Int32) (rc sz : Nat) (p0 : Int32) (hg : injM g) (hI : IM v F) (h0 : 0 ≤ p0.toInt ∧ p0.toInt ≤ 499) : Met l yX12_isGap (Cond.code yX12_isGap cX12_isGap 2 (some .boolean) :: wA) ({ frames := 1, cells := 0, slots := 0, locals := 40 }) (va_Pc [.ref (g 0), .int p0] (PM dC dI g c adK adV v F rc sz)) (va_Qi (fun (r : Int32) (u : Unit) => 0 ≤ r.toInt ∧ r.toInt ≤ 1) (fun (_ : Unit) => BM dC dI g c (v, F, rc)) (AM g sz)) 0 0 (AM g sz) := by
  refine Met.ofW (cc := cX12_isGap) (maxL := 2) (ret := (some .boolean)) (by decide) rfl ?_
  intro p e s m args below meth c0 s₁ B hml hv
  obtain ⟨rfl, hsz, hP, hK, hE⟩ := hv
  have hx := B.exec
  have hb := B.bytes
  have hr := B.returns
  have hts := atoms_spec (ws := Cond.code yX12_isGap cX12_isGap 2 (some .boolean) :: wA) B.pre
  have hwd : ∀ w ∈ wA, w.before _ s = true := fun w h => hts w (List.mem_cons_of_mem _ h)
  have hown : s.vm.findClass RX12 = some m.cls := findClass_of_methodNamed B.named
  have hlocks := B.notSynchronized
  subst hsz
  have hl := lv_entry ([.ref (g 0), .int p0]) (n := 2) (Nat.le_of_ble_eq_true rfl)
  rw [lg_entry_eq]
  generalize (lg_sl ([.ref (g 0), .int p0]) ++ List.replicate (2 - (lg_sl ([.ref (g 0), .int p0])).length) Slot.unset).toArray = ls at hl ⊢
  have hl : lv_has ls 2 [(0, .ref (g 0)), (1, .int p0)] := hl
  obtain ⟨H, eH⟩ : ∃ z, z = s.heap := ⟨_, rfl⟩
  have hP : va_P (dC, dI) classes (wM g c v F rc) H := by rw [eH]; exact hP
  have hS : va_S (AM g s.heap.size) s.heap H [] := by rw [eH]; exact va_S.rf
  refine my_heap eH ?_
  have rp0 := i32_rng p0
  refine lv_aload_n hx hb dX12_isGap_0 rfl (lv_at hl 0 rfl) ?_
  refine va_get (D := (dC, dI)) (ci := 12) (v := .ref (g 18)) (C := RX12) (T := TX12) (N := 63) hx hb hwd inA_X12 hown hK hP 0 rfl rfl 23 (by decide) (hwd _ wk_199) (fun _ h9 => h9) rfl dX12_isGap_1 ?_
  refine lv_iload_n hx hb dX12_isGap_4 rfl (lv_at hl 1 rfl) ?_
  refine va_iald hx hb hK hP 18 17 rfl rfl (i := p0) (vin (a := p0.toInt) rfl (by omega)) dX12_isGap_5 ?_
  refine lv_topi (fun z5422 e5423 => ?_)
  refine lv_ldc (v := 1000000) hx hb hown (hwd _ wk_500) dX12_isGap_6 ?_
  refine lv_icmp_eq (tgt := 24) hx hb dX12_isGap_8 (by decide) (fun c5424 => ?_) (fun c5424 => ?_)
  · skip
    have t5425 := cv_eq (a := z5422.toInt) rfl (b := 1000000) (by decide) c5424
    refine lv_iconst (v := 0) hx hb dX12_isGap_24 (by decide) ?_
    have hP9 : va_P (dC, dI) classes (wM g c v F rc) H := hP
    exact W.zret (v := 0) hx hb hr (rfl) (fun t ht hW => ⟨⟨0, (), rfl, by have : (0 : Int32).toInt = 0 := (by decide); omega, (by show va_P _ _ _ t.heap; rw [ht]; exact hP9)⟩, hS.F ht⟩) hS.2.2 dX12_isGap_25
  · skip
    have t5426 := cv_ne (a := z5422.toInt) rfl (b := 1000000) (by decide) c5424
    refine lv_aload_n hx hb dX12_isGap_11 rfl (lv_at hl 0 rfl) ?_
    refine va_get (D := (dC, dI)) (ci := 12) (v := .ref (g 23)) (C := RX12) (T := TX12) (N := 63) hx hb hwd inA_X12 hown hK hP 0 rfl rfl 28 (by decide) (hwd _ wk_204) (fun _ h9 => h9) rfl dX12_isGap_12 ?_
    refine lv_iload_n hx hb dX12_isGap_15 rfl (lv_at hl 1 rfl) ?_
    refine va_zald hx hb hK hP 23 22 rfl rfl (i := p0) (vin (a := p0.toInt) rfl (by omega)) dX12_isGap_16 ?_
    refine lv_topi (fun z5427 e5428 => ?_)
    refine lv_if_ne (tgt := 24) hx hb dX12_isGap_17 (by decide) (fun c5429 => ?_) (fun c5429 => ?_)
    · skip
      have t5430 := cv_ne (a := z5427.toInt) rfl (b := 0) (by decide) c5429
      refine lv_iconst (v := 0) hx hb dX12_isGap_24 (by decide) ?_
      have hP9 : va_P (dC, dI) classes (wM g c v F rc) H := hP
      exact W.zret (v := 0) hx hb hr (rfl) (fun t ht hW => ⟨⟨0, (), rfl, by have : (0 : Int32).toInt = 0 := (by decide); omega, (by show va_P _ _ _ t.heap; rw [ht]; exact hP9)⟩, hS.F ht⟩) hS.2.2 dX12_isGap_25
    · skip
      have t5431 := cv_eq (a := z5427.toInt) rfl (b := 0) (by decide) c5429
      refine lv_iconst (v := 1) hx hb dX12_isGap_20 (by decide) ?_
      refine lv_goto (tgt := 25) hx hb dX12_isGap_21 (by decide) ?_
      have hP9 : va_P (dC, dI) classes (wM g c v F rc) H := hP
      exact W.zret (v := 1) hx hb hr (rfl) (fun t ht hW => ⟨⟨1, (), rfl, by have : (1 : Int32).toInt = 1 := (by decide); omega, (by show va_P _ _ _ t.heap; rw [ht]; exact hP9)⟩, hS.F ht⟩) hS.2.2 dX12_isGap_25
set_option maxHeartbeats 8000000 in
set_option maxRecDepth 100000 in
theorem c_X12_gapsOf (l : Launch) (dC : Nat → ClassId) (dI : Nat → Nat → Nat) (g : Nat → Nat) (c : Nat → ClassId) (adK adV : Nat → Nat) (v : Nat → Int32) (F : Nat → Nat → Int32) (rc sz : Nat) (p0 : Int32) (hg : injM g) (hI : IM v F) : Met l yX12_gapsOf (Cond.code yX12_gapsOf cX12_gapsOf 4 (some .int) :: wA) ({ frames := 2, cells := 0, slots := 0, locals := 80 }) (va_Pc [.ref (g 0), .int p0] (PM dC dI g c adK adV v F rc sz)) (va_Qi (fun (r : Int32) (u : Unit) => True) (fun (_ : Unit) => BM dC dI g c (v, F, rc)) (AM g sz)) 0 0 (AM g sz) := by
  refine Met.ofW (cc := cX12_gapsOf) (maxL := 4) (ret := (some .int)) (by decide) rfl ?_
  intro p e s m args below meth c0 s₁ B hml hv
  obtain ⟨rfl, hsz, hP, hK, hE⟩ := hv
  have hx := B.exec
  have hb := B.bytes
  have hr := B.returns
  have hts := atoms_spec (ws := Cond.code yX12_gapsOf cX12_gapsOf 4 (some .int) :: wA) B.pre
  have hwd : ∀ w ∈ wA, w.before _ s = true := fun w h => hts w (List.mem_cons_of_mem _ h)
  have hown : s.vm.findClass RX12 = some m.cls := findClass_of_methodNamed B.named
  have hlocks := B.notSynchronized
  subst hsz
  have hl := lv_entry ([.ref (g 0), .int p0]) (n := 4) (Nat.le_of_ble_eq_true rfl)
  rw [lg_entry_eq]
  generalize (lg_sl ([.ref (g 0), .int p0]) ++ List.replicate (4 - (lg_sl ([.ref (g 0), .int p0])).length) Slot.unset).toArray = ls at hl ⊢
  have hl : lv_has ls 4 [(0, .ref (g 0)), (1, .int p0)] := hl
  obtain ⟨H, eH⟩ : ∃ z, z = s.heap := ⟨_, rfl⟩
  have hP : va_P (dC, dI) classes (wM g c v F rc) H := by rw [eH]; exact hP
  have hS : va_S (AM g s.heap.size) s.heap H [] := by rw [eH]; exact va_S.rf
  refine my_heap eH ?_
  have rp0 := i32_rng p0
  refine lv_iconst (v := 0) hx hb dX12_gapsOf_0 (by decide) ?_
  refine lv_istore_n (lv' := [(2, .int 0), (0, .ref (g 0)), (1, .int p0)]) hx hb dX12_gapsOf_1 rfl hl (by decide) rfl (fun ls hl => ?_)
  refine lv_iconst (v := 0) hx hb dX12_gapsOf_2 (by decide) ?_
  refine lv_istore_n (lv' := [(3, .int 0), (2, .int 0), (0, .ref (g 0)), (1, .int p0)]) hx hb dX12_gapsOf_3 rfl hl (by decide) rfl (fun ls hl => ?_)
  have lp5432 : ∀ (n : Nat) (x3_lp5432 : Int32) (x2_lp5432 : Int32) (H : Heap) (locs : List Loc) (ls : Array Slot), (0 ≤ x3_lp5432.toInt) → (2147483648 - x3_lp5432.toInt ≤ (n : Int)) → va_P (dC, dI) classes (wM g c v F rc) H → va_S (AM g s.heap.size) s.heap H locs → lv_has ls 4 [(3, .int x3_lp5432), (2, .int x2_lp5432), (0, .ref (g 0)), (1, .int p0)] → W p l e (headSpec (Cond.code yX12_gapsOf cX12_gapsOf 4 (some .int) :: wA) ({ frames := 2, cells := 0, slots := 0, locals := 80 })).room s m ([.ref (g 0), .int p0] : List Value).toArray below meth c0 H locs 0 0 (MQ below (va_Qi (fun (r : Int32) (u : Unit) => True) (fun (_ : Unit) => BM dC dI g c (v, F, rc)) (AM g s.heap.size)) ([.ref (g 0), .int p0] : List Value).toArray s 0 0 (AM g s.heap.size)) (F0 m 4 ls []) := by
    intro n
    induction n with
    | zero =>
      intro x3_lp5432 x2_lp5432 H locs ls t5433 hm hP hS hl
      exfalso
      have := i32_rng x3_lp5432
      have := i32_rng x2_lp5432
      omega
    | succ n ih_lp5432 =>
      intro x3_lp5432 x2_lp5432 H locs ls t5433 hm hP hS hl
      have rx3_lp5432 := i32_rng x3_lp5432
      have rx2_lp5432 := i32_rng x2_lp5432
      refine lv_iload_n hx hb dX12_gapsOf_4 rfl (lv_at hl 0 rfl) ?_
      refine lv_aload_n hx hb dX12_gapsOf_5 rfl (lv_at hl 2 rfl) ?_
      refine va_get (D := (dC, dI)) (ci := 12) (v := .int (v 19)) (C := RX12) (T := TX12) (N := 63) hx hb hwd inA_X12 hown hK hP 0 rfl rfl 19 (by decide) (hwd _ wk_494) (fun _ h9 => h9) rfl dX12_gapsOf_6 ?_
      have t5434 : 0 ≤ (v 19).toInt ∧ (v 19).toInt ≤ 500 := hI.1 19 _ _ rfl
      refine lv_icmp_ge (tgt := 44) hx hb dX12_gapsOf_9 (by decide) (fun c5435 => ?_) (fun c5435 => ?_)
      · skip
        have t5436 := cv_le (a := (v 19).toInt) rfl (b := x3_lp5432.toInt) rfl c5435
        refine lv_iload_n hx hb dX12_gapsOf_44 rfl (lv_at hl 1 rfl) ?_
        have hP9 : va_P (dC, dI) classes (wM g c v F rc) H := hP
        exact W.iret (v := x2_lp5432) hx hb hr (fun t ht hW => ⟨⟨x2_lp5432, (), rfl, trivial, (by show va_P _ _ _ t.heap; rw [ht]; exact hP9)⟩, hS.F ht⟩) hS.2.2 dX12_gapsOf_45
      · skip
        have t5437 := cv_nle (a := (v 19).toInt) rfl (b := x3_lp5432.toInt) rfl c5435
        refine lv_iload_n hx hb dX12_gapsOf_12 rfl (lv_at hl 1 rfl) ?_
        refine lv_aload_n hx hb dX12_gapsOf_13 rfl (lv_at hl 2 rfl) ?_
        refine va_get (D := (dC, dI)) (ci := 12) (v := .ref (g 15)) (C := RX12) (T := TX12) (N := 63) hx hb hwd inA_X12 hown hK hP 0 rfl rfl 20 (by decide) (hwd _ wk_196) (fun _ h9 => h9) rfl dX12_gapsOf_14 ?_
        refine lv_iload_n hx hb dX12_gapsOf_17 rfl (lv_at hl 0 rfl) ?_
        refine va_iald hx hb hK hP 15 14 rfl rfl (i := x3_lp5432) (vin (a := x3_lp5432.toInt) rfl (by omega)) dX12_gapsOf_18 ?_
        refine lv_topi (fun z5438 e5439 => ?_)
        have t5440 : 0 ≤ z5438.toInt ∧ z5438.toInt ≤ 99 := by rw [e5439]; exact hI.2 15 _ _ rfl _
        refine lv_iload_n hx hb dX12_gapsOf_19 rfl (lv_at hl 3 rfl) ?_
        refine lv_icmp_ne (tgt := 35) hx hb dX12_gapsOf_20 (by decide) (fun c5441 => ?_) (fun c5441 => ?_)
        · skip
          have t5442 := cv_ne (a := z5438.toInt) rfl (b := p0.toInt) rfl c5441
          refine lv_iconst (v := 0) hx hb dX12_gapsOf_35 (by decide) ?_
          refine lv_iadd hx hb dX12_gapsOf_36 ?_
          refine lv_topi (fun z5443 e5444 => ?_)
          try (have t5445 := tadd e5444 (a := x2_lp5432.toInt) rfl (b := 0) (by decide) (by omega))
          refine lv_istore_n (lv' := [(2, .int z5443), (3, .int x3_lp5432), (0, .ref (g 0)), (1, .int p0)]) hx hb dX12_gapsOf_37 rfl hl (by decide) rfl (fun ls hl => ?_)
          obtain ⟨z5446, e5447⟩ : ∃ y : Int32, y = x3_lp5432 + 1 := ⟨_, rfl⟩
          try (have t5448 := tadd e5447 rfl (b := 1) (by decide) (by omega))
          refine lv_iinc (v := z5446) (lv' := [(3, .int z5446), (2, .int z5443), (0, .ref (g 0)), (1, .int p0)]) hx hb dX12_gapsOf_38 hl (k := 1) rfl (by rw [e5447]; rfl) (by decide) rfl (fun ls hl => ?_)
          refine lv_goto (tgt := 4) hx hb dX12_gapsOf_41 (by decide) ?_
          exact ih_lp5432 z5446 z5443  _ _ _ (by omega) (by omega) hP hS (lv_sub hl [0, 1, 2, 3] rfl)
        · skip
          have t5449 := cv_eq (a := z5438.toInt) rfl (b := p0.toInt) rfl c5441
          refine lv_aload_n hx hb dX12_gapsOf_23 rfl (lv_at hl 2 rfl) ?_
          refine lv_iload_n hx hb dX12_gapsOf_24 rfl (lv_at hl 0 rfl) ?_
          refine va_calli (va_runV (As := [.int x3_lp5432]) (rest := [.int x2_lp5432]) ⟨hx, hb, hml, hown, hwd⟩ (c_X12_isGap l dC dI g c adK adV v F rc H.size x3_lp5432 hg hI (by omega)) (cwV 1 hwd (gV wk_499 wk_496 wk_497 wk_498 wk_5) rfl rfl rfl (by decide +kernel) ⟨Nat.le_of_ble_eq_true rfl, Nat.le_of_ble_eq_true rfl⟩) ⟨PM.blind, va_recv hK hP (ci := 12) (q0 := 0) rfl rfl, fun U hU hW => ⟨rfl, PM.at hK hE hP hS hU hW⟩⟩ rfl rfl hl.1 rfl (lv_room (Nat.le_of_ble_eq_true rfl)) dX12_gapsOf_25 ⟨Nat.le_of_ble_eq_true rfl, Nat.le_of_ble_eq_true rfl⟩) hS (fun q _ h => (freeM hS) q h) (freeM hS) (fun r5450 u t H1 locs ht hvm hw hB hz1 hk1 hS => ?_)
          unfold BM at hB
          rw [ht] at hB
          have hP : va_P (dC, dI) classes (wM g c v F rc) H1 := hB
          have hw_r5450 : 0 ≤ r5450.toInt ∧ r5450.toInt ≤ 1 := hw
          clear hw
          clear hz1
          generalize H1 = H at hP hS ⊢
          refine lv_if_eq (tgt := 35) hx hb dX12_gapsOf_28 (by decide) (fun c5451 => ?_) (fun c5451 => ?_)
          · skip
            have t5452 := cv_eq (a := r5450.toInt) rfl (b := 0) (by decide) c5451
            refine lv_iconst (v := 0) hx hb dX12_gapsOf_35 (by decide) ?_
            refine lv_iadd hx hb dX12_gapsOf_36 ?_
            refine lv_topi (fun z5453 e5454 => ?_)
            try (have t5455 := tadd e5454 (a := x2_lp5432.toInt) rfl (b := 0) (by decide) (by omega))
            refine lv_istore_n (lv' := [(2, .int z5453), (3, .int x3_lp5432), (0, .ref (g 0)), (1, .int p0)]) hx hb dX12_gapsOf_37 rfl hl (by decide) rfl (fun ls hl => ?_)
            obtain ⟨z5456, e5457⟩ : ∃ y : Int32, y = x3_lp5432 + 1 := ⟨_, rfl⟩
            try (have t5458 := tadd e5457 rfl (b := 1) (by decide) (by omega))
            refine lv_iinc (v := z5456) (lv' := [(3, .int z5456), (2, .int z5453), (0, .ref (g 0)), (1, .int p0)]) hx hb dX12_gapsOf_38 hl (k := 1) rfl (by rw [e5457]; rfl) (by decide) rfl (fun ls hl => ?_)
            refine lv_goto (tgt := 4) hx hb dX12_gapsOf_41 (by decide) ?_
            exact ih_lp5432 z5456 z5453  _ _ _ (by omega) (by omega) hP hS (lv_sub hl [0, 1, 2, 3] rfl)
          · skip
            have t5459 := cv_ne (a := r5450.toInt) rfl (b := 0) (by decide) c5451
            refine lv_iconst (v := 1) hx hb dX12_gapsOf_31 (by decide) ?_
            refine lv_goto (tgt := 36) hx hb dX12_gapsOf_32 (by decide) ?_
            refine lv_iadd hx hb dX12_gapsOf_36 ?_
            refine lv_topi (fun z5460 e5461 => ?_)
            try (have t5462 := tadd e5461 (a := x2_lp5432.toInt) rfl (b := 1) (by decide) (by omega))
            refine lv_istore_n (lv' := [(2, .int z5460), (3, .int x3_lp5432), (0, .ref (g 0)), (1, .int p0)]) hx hb dX12_gapsOf_37 rfl hl (by decide) rfl (fun ls hl => ?_)
            obtain ⟨z5463, e5464⟩ : ∃ y : Int32, y = x3_lp5432 + 1 := ⟨_, rfl⟩
            try (have t5465 := tadd e5464 rfl (b := 1) (by decide) (by omega))
            refine lv_iinc (v := z5463) (lv' := [(3, .int z5463), (2, .int z5460), (0, .ref (g 0)), (1, .int p0)]) hx hb dX12_gapsOf_38 hl (k := 1) rfl (by rw [e5464]; rfl) (by decide) rfl (fun ls hl => ?_)
            refine lv_goto (tgt := 4) hx hb dX12_gapsOf_41 (by decide) ?_
            exact ih_lp5432 z5463 z5460  _ _ _ (by omega) (by omega) hP hS (lv_sub hl [0, 1, 2, 3] rfl)
  obtain ⟨n9, hn9⟩ : ∃ n : Nat, 2147483648 - 0 ≤ (n : Int) := ⟨((2147483648 - 0 : Int)).toNat, by omega⟩
  exact lp5432 n9 0 0  H _ ls (by have : (0 : Int32).toInt = 0 := (by decide); have : (0 : Int32).toInt = 0 := (by decide); omega) (by have : (0 : Int32).toInt = 0 := (by decide); have : (0 : Int32).toInt = 0 := (by decide); omega) hP hS hl
set_option maxHeartbeats 8000000 in
set_option maxRecDepth 100000 in
theorem c_X12_lastDay (l : Launch) (dC : Nat → ClassId) (dI : Nat → Nat → Nat) (g : Nat → Nat) (c : Nat → ClassId) (adK adV : Nat → Nat) (v : Nat → Int32) (F : Nat → Nat → Int32) (rc sz : Nat) (p0 : Int32) (hg : injM g) (hI : IM v F) (h0 : 0 ≤ p0.toInt ∧ p0.toInt ≤ 499) : Met l yX12_lastDay (Cond.code yX12_lastDay cX12_lastDay 2 (some .int) :: wA) ({ frames := 1, cells := 0, slots := 0, locals := 40 }) (va_Pc [.ref (g 0), .int p0] (PM dC dI g c adK adV v F rc sz)) (va_Qi (fun (r : Int32) (u : Unit) => True) (fun (_ : Unit) => BM dC dI g c (v, F, rc)) (AM g sz)) 0 0 (AM g sz) := by
  refine Met.ofW (cc := cX12_lastDay) (maxL := 2) (ret := (some .int)) (by decide) rfl ?_
  intro p e s m args below meth c0 s₁ B hml hv
  obtain ⟨rfl, hsz, hP, hK, hE⟩ := hv
  have hx := B.exec
  have hb := B.bytes
  have hr := B.returns
  have hts := atoms_spec (ws := Cond.code yX12_lastDay cX12_lastDay 2 (some .int) :: wA) B.pre
  have hwd : ∀ w ∈ wA, w.before _ s = true := fun w h => hts w (List.mem_cons_of_mem _ h)
  have hown : s.vm.findClass RX12 = some m.cls := findClass_of_methodNamed B.named
  have hlocks := B.notSynchronized
  subst hsz
  have hl := lv_entry ([.ref (g 0), .int p0]) (n := 2) (Nat.le_of_ble_eq_true rfl)
  rw [lg_entry_eq]
  generalize (lg_sl ([.ref (g 0), .int p0]) ++ List.replicate (2 - (lg_sl ([.ref (g 0), .int p0])).length) Slot.unset).toArray = ls at hl ⊢
  have hl : lv_has ls 2 [(0, .ref (g 0)), (1, .int p0)] := hl
  obtain ⟨H, eH⟩ : ∃ z, z = s.heap := ⟨_, rfl⟩
  have hP : va_P (dC, dI) classes (wM g c v F rc) H := by rw [eH]; exact hP
  have hS : va_S (AM g s.heap.size) s.heap H [] := by rw [eH]; exact va_S.rf
  refine my_heap eH ?_
  have rp0 := i32_rng p0
  refine lv_aload_n hx hb dX12_lastDay_0 rfl (lv_at hl 0 rfl) ?_
  refine va_get (D := (dC, dI)) (ci := 12) (v := .ref (g 18)) (C := RX12) (T := TX12) (N := 63) hx hb hwd inA_X12 hown hK hP 0 rfl rfl 23 (by decide) (hwd _ wk_199) (fun _ h9 => h9) rfl dX12_lastDay_1 ?_
  refine lv_iload_n hx hb dX12_lastDay_4 rfl (lv_at hl 1 rfl) ?_
  refine va_iald hx hb hK hP 18 17 rfl rfl (i := p0) (vin (a := p0.toInt) rfl (by omega)) dX12_lastDay_5 ?_
  refine lv_topi (fun z5466 e5467 => ?_)
  refine lv_ldc (v := 1000000) hx hb hown (hwd _ wk_500) dX12_lastDay_6 ?_
  refine lv_icmp_ne (tgt := 18) hx hb dX12_lastDay_8 (by decide) (fun c5468 => ?_) (fun c5468 => ?_)
  · skip
    have t5469 := cv_ne (a := z5466.toInt) rfl (b := 1000000) (by decide) c5468
    refine lv_aload_n hx hb dX12_lastDay_18 rfl (lv_at hl 0 rfl) ?_
    refine va_get (D := (dC, dI)) (ci := 12) (v := .ref (g 18)) (C := RX12) (T := TX12) (N := 63) hx hb hwd inA_X12 hown hK hP 0 rfl rfl 23 (by decide) (hwd _ wk_199) (fun _ h9 => h9) rfl dX12_lastDay_19 ?_
    refine lv_iload_n hx hb dX12_lastDay_22 rfl (lv_at hl 1 rfl) ?_
    refine va_iald hx hb hK hP 18 17 rfl rfl (i := p0) (vin (a := p0.toInt) rfl (by omega)) dX12_lastDay_23 ?_
    refine lv_topi (fun z5470 e5471 => ?_)
    have hP9 : va_P (dC, dI) classes (wM g c v F rc) H := hP
    exact W.iret (v := z5470) hx hb hr (fun t ht hW => ⟨⟨z5470, (), rfl, trivial, (by show va_P _ _ _ t.heap; rw [ht]; exact hP9)⟩, hS.F ht⟩) hS.2.2 dX12_lastDay_24
  · skip
    have t5472 := cv_eq (a := z5466.toInt) rfl (b := 1000000) (by decide) c5468
    refine lv_aload_n hx hb dX12_lastDay_11 rfl (lv_at hl 0 rfl) ?_
    refine va_get (D := (dC, dI)) (ci := 12) (v := .int (v 1)) (C := RX12) (T := TX12) (N := 63) hx hb hwd inA_X12 hown hK hP 0 rfl rfl 1 (by decide) (hwd _ wk_332) (fun _ h9 => h9) rfl dX12_lastDay_12 ?_
    have t5473 : 0 ≤ (v 1).toInt ∧ (v 1).toInt ≤ 9999 := hI.1 1 _ _ rfl
    refine lv_goto (tgt := 24) hx hb dX12_lastDay_15 (by decide) ?_
    have hP9 : va_P (dC, dI) classes (wM g c v F rc) H := hP
    exact W.iret (v := v 1) hx hb hr (fun t ht hW => ⟨⟨(v 1), (), rfl, trivial, (by show va_P _ _ _ t.heap; rw [ht]; exact hP9)⟩, hS.F ht⟩) hS.2.2 dX12_lastDay_24
set_option maxHeartbeats 8000000 in
set_option maxRecDepth 100000 in
theorem c_X12_hoursEnd (l : Launch) (dC : Nat → ClassId) (dI : Nat → Nat → Nat) (g : Nat → Nat) (c : Nat → ClassId) (adK adV : Nat → Nat) (v : Nat → Int32) (F : Nat → Nat → Int32) (rc sz : Nat) (p0 : Int32) (hg : injM g) (hI : IM v F) (h0 : 0 ≤ p0.toInt ∧ p0.toInt ≤ 499) : Met l yX12_hoursEnd (Cond.code yX12_hoursEnd cX12_hoursEnd 2 (some .int) :: wA) ({ frames := 1, cells := 0, slots := 0, locals := 40 }) (va_Pc [.ref (g 0), .int p0] (PM dC dI g c adK adV v F rc sz)) (va_Qi (fun (r : Int32) (u : Unit) => True) (fun (_ : Unit) => BM dC dI g c (v, F, rc)) (AM g sz)) 0 0 (AM g sz) := by
  refine Met.ofW (cc := cX12_hoursEnd) (maxL := 2) (ret := (some .int)) (by decide) rfl ?_
  intro p e s m args below meth c0 s₁ B hml hv
  obtain ⟨rfl, hsz, hP, hK, hE⟩ := hv
  have hx := B.exec
  have hb := B.bytes
  have hr := B.returns
  have hts := atoms_spec (ws := Cond.code yX12_hoursEnd cX12_hoursEnd 2 (some .int) :: wA) B.pre
  have hwd : ∀ w ∈ wA, w.before _ s = true := fun w h => hts w (List.mem_cons_of_mem _ h)
  have hown : s.vm.findClass RX12 = some m.cls := findClass_of_methodNamed B.named
  have hlocks := B.notSynchronized
  subst hsz
  have hl := lv_entry ([.ref (g 0), .int p0]) (n := 2) (Nat.le_of_ble_eq_true rfl)
  rw [lg_entry_eq]
  generalize (lg_sl ([.ref (g 0), .int p0]) ++ List.replicate (2 - (lg_sl ([.ref (g 0), .int p0])).length) Slot.unset).toArray = ls at hl ⊢
  have hl : lv_has ls 2 [(0, .ref (g 0)), (1, .int p0)] := hl
  obtain ⟨H, eH⟩ : ∃ z, z = s.heap := ⟨_, rfl⟩
  have hP : va_P (dC, dI) classes (wM g c v F rc) H := by rw [eH]; exact hP
  have hS : va_S (AM g s.heap.size) s.heap H [] := by rw [eH]; exact va_S.rf
  refine my_heap eH ?_
  have rp0 := i32_rng p0
  refine lv_aload_n hx hb dX12_hoursEnd_0 rfl (lv_at hl 0 rfl) ?_
  refine va_get (D := (dC, dI)) (ci := 12) (v := .ref (g 18)) (C := RX12) (T := TX12) (N := 63) hx hb hwd inA_X12 hown hK hP 0 rfl rfl 23 (by decide) (hwd _ wk_199) (fun _ h9 => h9) rfl dX12_hoursEnd_1 ?_
  refine lv_iload_n hx hb dX12_hoursEnd_4 rfl (lv_at hl 1 rfl) ?_
  refine va_iald hx hb hK hP 18 17 rfl rfl (i := p0) (vin (a := p0.toInt) rfl (by omega)) dX12_hoursEnd_5 ?_
  refine lv_topi (fun z5474 e5475 => ?_)
  refine lv_ldc (v := 1000000) hx hb hown (hwd _ wk_500) dX12_hoursEnd_6 ?_
  refine lv_icmp_ne (tgt := 27) hx hb dX12_hoursEnd_8 (by decide) (fun c5476 => ?_) (fun c5476 => ?_)
  · skip
    have t5477 := cv_ne (a := z5474.toInt) rfl (b := 1000000) (by decide) c5476
    refine lv_aload_n hx hb dX12_hoursEnd_27 rfl (lv_at hl 0 rfl) ?_
    refine va_get (D := (dC, dI)) (ci := 12) (v := .ref (g 20)) (C := RX12) (T := TX12) (N := 63) hx hb hwd inA_X12 hown hK hP 0 rfl rfl 25 (by decide) (hwd _ wk_201) (fun _ h9 => h9) rfl dX12_hoursEnd_28 ?_
    refine lv_iload_n hx hb dX12_hoursEnd_31 rfl (lv_at hl 1 rfl) ?_
    refine va_iald hx hb hK hP 20 19 rfl rfl (i := p0) (vin (a := p0.toInt) rfl (by omega)) dX12_hoursEnd_32 ?_
    refine lv_topi (fun z5478 e5479 => ?_)
    have hP9 : va_P (dC, dI) classes (wM g c v F rc) H := hP
    exact W.iret (v := z5478) hx hb hr (fun t ht hW => ⟨⟨z5478, (), rfl, trivial, (by show va_P _ _ _ t.heap; rw [ht]; exact hP9)⟩, hS.F ht⟩) hS.2.2 dX12_hoursEnd_33
  · skip
    have t5480 := cv_eq (a := z5474.toInt) rfl (b := 1000000) (by decide) c5476
    refine lv_aload_n hx hb dX12_hoursEnd_11 rfl (lv_at hl 0 rfl) ?_
    refine va_get (D := (dC, dI)) (ci := 12) (v := .ref (g 14)) (C := RX12) (T := TX12) (N := 63) hx hb hwd inA_X12 hown hK hP 0 rfl rfl 18 (by decide) (hwd _ wk_195) (fun _ h9 => h9) rfl dX12_hoursEnd_12 ?_
    refine lv_iconst (v := 3) hx hb dX12_hoursEnd_15 (by decide) ?_
    refine lv_aload_n hx hb dX12_hoursEnd_16 rfl (lv_at hl 0 rfl) ?_
    refine va_get (D := (dC, dI)) (ci := 12) (v := .ref (g 15)) (C := RX12) (T := TX12) (N := 63) hx hb hwd inA_X12 hown hK hP 0 rfl rfl 20 (by decide) (hwd _ wk_196) (fun _ h9 => h9) rfl dX12_hoursEnd_17 ?_
    refine lv_iload_n hx hb dX12_hoursEnd_20 rfl (lv_at hl 1 rfl) ?_
    refine va_iald hx hb hK hP 15 14 rfl rfl (i := p0) (vin (a := p0.toInt) rfl (by omega)) dX12_hoursEnd_21 ?_
    refine lv_topi (fun z5481 e5482 => ?_)
    have t5483 : 0 ≤ z5481.toInt ∧ z5481.toInt ≤ 99 := by rw [e5482]; exact hI.2 15 _ _ rfl _
    refine lv_imul hx hb dX12_hoursEnd_22 ?_
    refine lv_topi (fun z5484 e5485 => ?_)
    try (have t5486 := tmul e5485 (a := 3) (by decide) (b := z5481.toInt) rfl (by omega))
    refine va_iald hx hb hK hP 14 13 rfl rfl (i := z5484) (vin (a := z5484.toInt) rfl (by omega)) dX12_hoursEnd_23 ?_
    refine lv_topi (fun z5487 e5488 => ?_)
    refine lv_goto (tgt := 33) hx hb dX12_hoursEnd_24 (by decide) ?_
    have hP9 : va_P (dC, dI) classes (wM g c v F rc) H := hP
    exact W.iret (v := z5487) hx hb hr (fun t ht hW => ⟨⟨z5487, (), rfl, trivial, (by show va_P _ _ _ t.heap; rw [ht]; exact hP9)⟩, hS.F ht⟩) hS.2.2 dX12_hoursEnd_33
set_option maxHeartbeats 8000000 in
set_option maxRecDepth 100000 in
theorem c_X12_landingsEnd (l : Launch) (dC : Nat → ClassId) (dI : Nat → Nat → Nat) (g : Nat → Nat) (c : Nat → ClassId) (adK adV : Nat → Nat) (v : Nat → Int32) (F : Nat → Nat → Int32) (rc sz : Nat) (p0 : Int32) (hg : injM g) (hI : IM v F) (h0 : 0 ≤ p0.toInt ∧ p0.toInt ≤ 499) : Met l yX12_landingsEnd (Cond.code yX12_landingsEnd cX12_landingsEnd 2 (some .int) :: wA) ({ frames := 1, cells := 0, slots := 0, locals := 40 }) (va_Pc [.ref (g 0), .int p0] (PM dC dI g c adK adV v F rc sz)) (va_Qi (fun (r : Int32) (u : Unit) => True) (fun (_ : Unit) => BM dC dI g c (v, F, rc)) (AM g sz)) 0 0 (AM g sz) := by
  refine Met.ofW (cc := cX12_landingsEnd) (maxL := 2) (ret := (some .int)) (by decide) rfl ?_
  intro p e s m args below meth c0 s₁ B hml hv
  obtain ⟨rfl, hsz, hP, hK, hE⟩ := hv
  have hx := B.exec
  have hb := B.bytes
  have hr := B.returns
  have hts := atoms_spec (ws := Cond.code yX12_landingsEnd cX12_landingsEnd 2 (some .int) :: wA) B.pre
  have hwd : ∀ w ∈ wA, w.before _ s = true := fun w h => hts w (List.mem_cons_of_mem _ h)
  have hown : s.vm.findClass RX12 = some m.cls := findClass_of_methodNamed B.named
  have hlocks := B.notSynchronized
  subst hsz
  have hl := lv_entry ([.ref (g 0), .int p0]) (n := 2) (Nat.le_of_ble_eq_true rfl)
  rw [lg_entry_eq]
  generalize (lg_sl ([.ref (g 0), .int p0]) ++ List.replicate (2 - (lg_sl ([.ref (g 0), .int p0])).length) Slot.unset).toArray = ls at hl ⊢
  have hl : lv_has ls 2 [(0, .ref (g 0)), (1, .int p0)] := hl
  obtain ⟨H, eH⟩ : ∃ z, z = s.heap := ⟨_, rfl⟩
  have hP : va_P (dC, dI) classes (wM g c v F rc) H := by rw [eH]; exact hP
  have hS : va_S (AM g s.heap.size) s.heap H [] := by rw [eH]; exact va_S.rf
  refine my_heap eH ?_
  have rp0 := i32_rng p0
  refine lv_aload_n hx hb dX12_landingsEnd_0 rfl (lv_at hl 0 rfl) ?_
  refine va_get (D := (dC, dI)) (ci := 12) (v := .ref (g 18)) (C := RX12) (T := TX12) (N := 63) hx hb hwd inA_X12 hown hK hP 0 rfl rfl 23 (by decide) (hwd _ wk_199) (fun _ h9 => h9) rfl dX12_landingsEnd_1 ?_
  refine lv_iload_n hx hb dX12_landingsEnd_4 rfl (lv_at hl 1 rfl) ?_
  refine va_iald hx hb hK hP 18 17 rfl rfl (i := p0) (vin (a := p0.toInt) rfl (by omega)) dX12_landingsEnd_5 ?_
  refine lv_topi (fun z5489 e5490 => ?_)
  refine lv_ldc (v := 1000000) hx hb hown (hwd _ wk_500) dX12_landingsEnd_6 ?_
  refine lv_icmp_ne (tgt := 29) hx hb dX12_landingsEnd_8 (by decide) (fun c5491 => ?_) (fun c5491 => ?_)
  · skip
    have t5492 := cv_ne (a := z5489.toInt) rfl (b := 1000000) (by decide) c5491
    refine lv_aload_n hx hb dX12_landingsEnd_29 rfl (lv_at hl 0 rfl) ?_
    refine va_get (D := (dC, dI)) (ci := 12) (v := .ref (g 22)) (C := RX12) (T := TX12) (N := 63) hx hb hwd inA_X12 hown hK hP 0 rfl rfl 27 (by decide) (hwd _ wk_203) (fun _ h9 => h9) rfl dX12_landingsEnd_30 ?_
    refine lv_iload_n hx hb dX12_landingsEnd_33 rfl (lv_at hl 1 rfl) ?_
    refine va_iald hx hb hK hP 22 21 rfl rfl (i := p0) (vin (a := p0.toInt) rfl (by omega)) dX12_landingsEnd_34 ?_
    refine lv_topi (fun z5493 e5494 => ?_)
    have hP9 : va_P (dC, dI) classes (wM g c v F rc) H := hP
    exact W.iret (v := z5493) hx hb hr (fun t ht hW => ⟨⟨z5493, (), rfl, trivial, (by show va_P _ _ _ t.heap; rw [ht]; exact hP9)⟩, hS.F ht⟩) hS.2.2 dX12_landingsEnd_35
  · skip
    have t5495 := cv_eq (a := z5489.toInt) rfl (b := 1000000) (by decide) c5491
    refine lv_aload_n hx hb dX12_landingsEnd_11 rfl (lv_at hl 0 rfl) ?_
    refine va_get (D := (dC, dI)) (ci := 12) (v := .ref (g 14)) (C := RX12) (T := TX12) (N := 63) hx hb hwd inA_X12 hown hK hP 0 rfl rfl 18 (by decide) (hwd _ wk_195) (fun _ h9 => h9) rfl dX12_landingsEnd_12 ?_
    refine lv_iconst (v := 3) hx hb dX12_landingsEnd_15 (by decide) ?_
    refine lv_aload_n hx hb dX12_landingsEnd_16 rfl (lv_at hl 0 rfl) ?_
    refine va_get (D := (dC, dI)) (ci := 12) (v := .ref (g 15)) (C := RX12) (T := TX12) (N := 63) hx hb hwd inA_X12 hown hK hP 0 rfl rfl 20 (by decide) (hwd _ wk_196) (fun _ h9 => h9) rfl dX12_landingsEnd_17 ?_
    refine lv_iload_n hx hb dX12_landingsEnd_20 rfl (lv_at hl 1 rfl) ?_
    refine va_iald hx hb hK hP 15 14 rfl rfl (i := p0) (vin (a := p0.toInt) rfl (by omega)) dX12_landingsEnd_21 ?_
    refine lv_topi (fun z5496 e5497 => ?_)
    have t5498 : 0 ≤ z5496.toInt ∧ z5496.toInt ≤ 99 := by rw [e5497]; exact hI.2 15 _ _ rfl _
    refine lv_imul hx hb dX12_landingsEnd_22 ?_
    refine lv_topi (fun z5499 e5500 => ?_)
    try (have t5501 := tmul e5500 (a := 3) (by decide) (b := z5496.toInt) rfl (by omega))
    refine lv_iconst (v := 1) hx hb dX12_landingsEnd_23 (by decide) ?_
    refine lv_iadd hx hb dX12_landingsEnd_24 ?_
    refine lv_topi (fun z5502 e5503 => ?_)
    try (have t5504 := tadd e5503 (a := z5499.toInt) rfl (b := 1) (by decide) (by omega))
    refine va_iald hx hb hK hP 14 13 rfl rfl (i := z5502) (vin (a := z5502.toInt) rfl (by omega)) dX12_landingsEnd_25 ?_
    refine lv_topi (fun z5505 e5506 => ?_)
    refine lv_goto (tgt := 35) hx hb dX12_landingsEnd_26 (by decide) ?_
    have hP9 : va_P (dC, dI) classes (wM g c v F rc) H := hP
    exact W.iret (v := z5505) hx hb hr (fun t ht hW => ⟨⟨z5505, (), rfl, trivial, (by show va_P _ _ _ t.heap; rw [ht]; exact hP9)⟩, hS.F ht⟩) hS.2.2 dX12_landingsEnd_35
set_option maxHeartbeats 8000000 in
set_option maxRecDepth 100000 in
theorem c_X12_isAhead (l : Launch) (dC : Nat → ClassId) (dI : Nat → Nat → Nat) (g : Nat → Nat) (c : Nat → ClassId) (adK adV : Nat → Nat) (v : Nat → Int32) (F : Nat → Nat → Int32) (rc sz : Nat) (p0 : Int32) (p1 : Int32) (hg : injM g) (hI : IM v F) (h0 : 0 ≤ p0.toInt ∧ p0.toInt ≤ 499) (h1 : 0 ≤ p1.toInt ∧ p1.toInt ≤ 499) : Met l yX12_isAhead (Cond.code yX12_isAhead cX12_isAhead 3 (some .boolean) :: wA) ({ frames := 1, cells := 0, slots := 0, locals := 40 }) (va_Pc [.ref (g 0), .int p0, .int p1] (PM dC dI g c adK adV v F rc sz)) (va_Qi (fun (r : Int32) (u : Unit) => (r.toInt = 1 ∧ ((F 17 p0.toNatClampNeg).toInt < (F 17 p1.toNatClampNeg).toInt ∨ ((F 17 p0.toNatClampNeg).toInt = (F 17 p1.toNatClampNeg).toInt ∧ p0.toInt < p1.toInt))) ∨ (r.toInt = 0 ∧ ¬ ((F 17 p0.toNatClampNeg).toInt < (F 17 p1.toNatClampNeg).toInt ∨ ((F 17 p0.toNatClampNeg).toInt = (F 17 p1.toNatClampNeg).toInt ∧ p0.toInt < p1.toInt)))) (fun (_ : Unit) => BM dC dI g c (v, F, rc)) (AM g sz)) 0 0 (AM g sz) := by
  refine Met.ofW (cc := cX12_isAhead) (maxL := 3) (ret := (some .boolean)) (by decide) rfl ?_
  intro p e s m args below meth c0 s₁ B hml hv
  obtain ⟨rfl, hsz, hP, hK, hE⟩ := hv
  have hx := B.exec
  have hb := B.bytes
  have hr := B.returns
  have hts := atoms_spec (ws := Cond.code yX12_isAhead cX12_isAhead 3 (some .boolean) :: wA) B.pre
  have hwd : ∀ w ∈ wA, w.before _ s = true := fun w h => hts w (List.mem_cons_of_mem _ h)
  have hown : s.vm.findClass RX12 = some m.cls := findClass_of_methodNamed B.named
  have hlocks := B.notSynchronized
  subst hsz
  have hl := lv_entry ([.ref (g 0), .int p0, .int p1]) (n := 3) (Nat.le_of_ble_eq_true rfl)
  rw [lg_entry_eq]
  generalize (lg_sl ([.ref (g 0), .int p0, .int p1]) ++ List.replicate (3 - (lg_sl ([.ref (g 0), .int p0, .int p1])).length) Slot.unset).toArray = ls at hl ⊢
  have hl : lv_has ls 3 [(0, .ref (g 0)), (1, .int p0), (2, .int p1)] := hl
  obtain ⟨H, eH⟩ : ∃ z, z = s.heap := ⟨_, rfl⟩
  have hP : va_P (dC, dI) classes (wM g c v F rc) H := by rw [eH]; exact hP
  have hS : va_S (AM g s.heap.size) s.heap H [] := by rw [eH]; exact va_S.rf
  refine my_heap eH ?_
  have rp0 := i32_rng p0
  have rp1 := i32_rng p1
  refine lv_aload_n hx hb dX12_isAhead_0 rfl (lv_at hl 0 rfl) ?_
  refine va_get (D := (dC, dI)) (ci := 12) (v := .ref (g 17)) (C := RX12) (T := TX12) (N := 63) hx hb hwd inA_X12 hown hK hP 0 rfl rfl 22 (by decide) (hwd _ wk_198) (fun _ h9 => h9) rfl dX12_isAhead_1 ?_
  refine lv_iload_n hx hb dX12_isAhead_4 rfl (lv_at hl 1 rfl) ?_
  refine va_iald hx hb hK hP 17 16 rfl rfl (i := p0) (vin (a := p0.toInt) rfl (by omega)) dX12_isAhead_5 ?_
  refine lv_topi (fun z5507 e5508 => ?_)
  have tzz5507 : z5507.toInt = (F 17 (p0 : Int32).toNatClampNeg).toInt := congrArg Int32.toInt e5508
  refine lv_aload_n hx hb dX12_isAhead_6 rfl (lv_at hl 0 rfl) ?_
  refine va_get (D := (dC, dI)) (ci := 12) (v := .ref (g 17)) (C := RX12) (T := TX12) (N := 63) hx hb hwd inA_X12 hown hK hP 0 rfl rfl 22 (by decide) (hwd _ wk_198) (fun _ h9 => h9) rfl dX12_isAhead_7 ?_
  refine lv_iload_n hx hb dX12_isAhead_10 rfl (lv_at hl 2 rfl) ?_
  refine va_iald hx hb hK hP 17 16 rfl rfl (i := p1) (vin (a := p1.toInt) rfl (by omega)) dX12_isAhead_11 ?_
  refine lv_topi (fun z5509 e5510 => ?_)
  have tzz5509 : z5509.toInt = (F 17 (p1 : Int32).toNatClampNeg).toInt := congrArg Int32.toInt e5510
  refine lv_icmp_lt (tgt := 35) hx hb dX12_isAhead_12 (by decide) (fun c5511 => ?_) (fun c5511 => ?_)
  · skip
    have t5512 := cv_lt (a := z5507.toInt) rfl (b := z5509.toInt) rfl c5511
    refine lv_iconst (v := 1) hx hb dX12_isAhead_35 (by decide) ?_
    refine lv_goto (tgt := 40) hx hb dX12_isAhead_36 (by decide) ?_
    have hP9 : va_P (dC, dI) classes (wM g c v F rc) H := hP
    exact W.zret (v := 1) hx hb hr (rfl) (fun t ht hW => ⟨⟨1, (), rfl, (by show ((1 : Int32).toInt = 1 ∧ ((F 17 p0.toNatClampNeg).toInt < (F 17 p1.toNatClampNeg).toInt ∨ ((F 17 p0.toNatClampNeg).toInt = (F 17 p1.toNatClampNeg).toInt ∧ p0.toInt < p1.toInt))) ∨ ((1 : Int32).toInt = 0 ∧ ¬ ((F 17 p0.toNatClampNeg).toInt < (F 17 p1.toNatClampNeg).toInt ∨ ((F 17 p0.toNatClampNeg).toInt = (F 17 p1.toNatClampNeg).toInt ∧ p0.toInt < p1.toInt))); have : (1 : Int32).toInt = 1 := (by decide); omega), (by show va_P _ _ _ t.heap; rw [ht]; exact hP9)⟩, hS.F ht⟩) hS.2.2 dX12_isAhead_40
  · skip
    have t5513 := cv_nlt (a := z5507.toInt) rfl (b := z5509.toInt) rfl c5511
    refine lv_aload_n hx hb dX12_isAhead_15 rfl (lv_at hl 0 rfl) ?_
    refine va_get (D := (dC, dI)) (ci := 12) (v := .ref (g 17)) (C := RX12) (T := TX12) (N := 63) hx hb hwd inA_X12 hown hK hP 0 rfl rfl 22 (by decide) (hwd _ wk_198) (fun _ h9 => h9) rfl dX12_isAhead_16 ?_
    refine lv_iload_n hx hb dX12_isAhead_19 rfl (lv_at hl 1 rfl) ?_
    refine va_iald hx hb hK hP 17 16 rfl rfl (i := p0) (vin (a := p0.toInt) rfl (by omega)) dX12_isAhead_20 ?_
    refine lv_topi (fun z5514 e5515 => ?_)
    have tzz5514 : z5514.toInt = (F 17 (p0 : Int32).toNatClampNeg).toInt := congrArg Int32.toInt e5515
    refine lv_aload_n hx hb dX12_isAhead_21 rfl (lv_at hl 0 rfl) ?_
    refine va_get (D := (dC, dI)) (ci := 12) (v := .ref (g 17)) (C := RX12) (T := TX12) (N := 63) hx hb hwd inA_X12 hown hK hP 0 rfl rfl 22 (by decide) (hwd _ wk_198) (fun _ h9 => h9) rfl dX12_isAhead_22 ?_
    refine lv_iload_n hx hb dX12_isAhead_25 rfl (lv_at hl 2 rfl) ?_
    refine va_iald hx hb hK hP 17 16 rfl rfl (i := p1) (vin (a := p1.toInt) rfl (by omega)) dX12_isAhead_26 ?_
    refine lv_topi (fun z5516 e5517 => ?_)
    have tzz5516 : z5516.toInt = (F 17 (p1 : Int32).toNatClampNeg).toInt := congrArg Int32.toInt e5517
    refine lv_icmp_ne (tgt := 39) hx hb dX12_isAhead_27 (by decide) (fun c5518 => ?_) (fun c5518 => ?_)
    · skip
      have t5519 := cv_ne (a := z5514.toInt) rfl (b := z5516.toInt) rfl c5518
      refine lv_iconst (v := 0) hx hb dX12_isAhead_39 (by decide) ?_
      have hP9 : va_P (dC, dI) classes (wM g c v F rc) H := hP
      exact W.zret (v := 0) hx hb hr (rfl) (fun t ht hW => ⟨⟨0, (), rfl, (by show ((0 : Int32).toInt = 1 ∧ ((F 17 p0.toNatClampNeg).toInt < (F 17 p1.toNatClampNeg).toInt ∨ ((F 17 p0.toNatClampNeg).toInt = (F 17 p1.toNatClampNeg).toInt ∧ p0.toInt < p1.toInt))) ∨ ((0 : Int32).toInt = 0 ∧ ¬ ((F 17 p0.toNatClampNeg).toInt < (F 17 p1.toNatClampNeg).toInt ∨ ((F 17 p0.toNatClampNeg).toInt = (F 17 p1.toNatClampNeg).toInt ∧ p0.toInt < p1.toInt))); have : (0 : Int32).toInt = 0 := (by decide); omega), (by show va_P _ _ _ t.heap; rw [ht]; exact hP9)⟩, hS.F ht⟩) hS.2.2 dX12_isAhead_40
    · skip
      have t5520 := cv_eq (a := z5514.toInt) rfl (b := z5516.toInt) rfl c5518
      refine lv_iload_n hx hb dX12_isAhead_30 rfl (lv_at hl 1 rfl) ?_
      refine lv_iload_n hx hb dX12_isAhead_31 rfl (lv_at hl 2 rfl) ?_
      refine lv_icmp_ge (tgt := 39) hx hb dX12_isAhead_32 (by decide) (fun c5521 => ?_) (fun c5521 => ?_)
      · skip
        have t5522 := cv_le (a := p1.toInt) rfl (b := p0.toInt) rfl c5521
        refine lv_iconst (v := 0) hx hb dX12_isAhead_39 (by decide) ?_
        have hP9 : va_P (dC, dI) classes (wM g c v F rc) H := hP
        exact W.zret (v := 0) hx hb hr (rfl) (fun t ht hW => ⟨⟨0, (), rfl, (by show ((0 : Int32).toInt = 1 ∧ ((F 17 p0.toNatClampNeg).toInt < (F 17 p1.toNatClampNeg).toInt ∨ ((F 17 p0.toNatClampNeg).toInt = (F 17 p1.toNatClampNeg).toInt ∧ p0.toInt < p1.toInt))) ∨ ((0 : Int32).toInt = 0 ∧ ¬ ((F 17 p0.toNatClampNeg).toInt < (F 17 p1.toNatClampNeg).toInt ∨ ((F 17 p0.toNatClampNeg).toInt = (F 17 p1.toNatClampNeg).toInt ∧ p0.toInt < p1.toInt))); have : (0 : Int32).toInt = 0 := (by decide); omega), (by show va_P _ _ _ t.heap; rw [ht]; exact hP9)⟩, hS.F ht⟩) hS.2.2 dX12_isAhead_40
      · skip
        have t5523 := cv_nle (a := p1.toInt) rfl (b := p0.toInt) rfl c5521
        refine lv_iconst (v := 1) hx hb dX12_isAhead_35 (by decide) ?_
        refine lv_goto (tgt := 40) hx hb dX12_isAhead_36 (by decide) ?_
        have hP9 : va_P (dC, dI) classes (wM g c v F rc) H := hP
        exact W.zret (v := 1) hx hb hr (rfl) (fun t ht hW => ⟨⟨1, (), rfl, (by show ((1 : Int32).toInt = 1 ∧ ((F 17 p0.toNatClampNeg).toInt < (F 17 p1.toNatClampNeg).toInt ∨ ((F 17 p0.toNatClampNeg).toInt = (F 17 p1.toNatClampNeg).toInt ∧ p0.toInt < p1.toInt))) ∨ ((1 : Int32).toInt = 0 ∧ ¬ ((F 17 p0.toNatClampNeg).toInt < (F 17 p1.toNatClampNeg).toInt ∨ ((F 17 p0.toNatClampNeg).toInt = (F 17 p1.toNatClampNeg).toInt ∧ p0.toInt < p1.toInt))); have : (1 : Int32).toInt = 1 := (by decide); omega), (by show va_P _ _ _ t.heap; rw [ht]; exact hP9)⟩, hS.F ht⟩) hS.2.2 dX12_isAhead_40
set_option maxHeartbeats 8000000 in
set_option maxRecDepth 100000 in
theorem c_X12_areTwice (l : Launch) (dC : Nat → ClassId) (dI : Nat → Nat → Nat) (g : Nat → Nat) (c : Nat → ClassId) (adK adV : Nat → Nat) (v : Nat → Int32) (F : Nat → Nat → Int32) (rc sz : Nat) (p0 : Int32) (hg : injM g) (hI : IM v F) : Met l yX12_areTwice (Cond.code yX12_areTwice cX12_areTwice 4 (some .boolean) :: wA) ({ frames := 2, cells := 0, slots := 0, locals := 80 }) (va_Pc [.ref (g 0), .int p0] (PM dC dI g c adK adV v F rc sz)) (va_Qi (fun (r : Int32) (u : Unit) => 0 ≤ r.toInt ∧ r.toInt ≤ 1) (fun (_ : Unit) => BM dC dI g c (v, F, rc)) (AM g sz)) 0 0 (AM g sz) := by
  refine Met.ofW (cc := cX12_areTwice) (maxL := 4) (ret := (some .boolean)) (by decide) rfl ?_
  intro p e s m args below meth c0 s₁ B hml hv
  obtain ⟨rfl, hsz, hP, hK, hE⟩ := hv
  have hx := B.exec
  have hb := B.bytes
  have hr := B.returns
  have hts := atoms_spec (ws := Cond.code yX12_areTwice cX12_areTwice 4 (some .boolean) :: wA) B.pre
  have hwd : ∀ w ∈ wA, w.before _ s = true := fun w h => hts w (List.mem_cons_of_mem _ h)
  have hown : s.vm.findClass RX12 = some m.cls := findClass_of_methodNamed B.named
  have hlocks := B.notSynchronized
  subst hsz
  have hl := lv_entry ([.ref (g 0), .int p0]) (n := 4) (Nat.le_of_ble_eq_true rfl)
  rw [lg_entry_eq]
  generalize (lg_sl ([.ref (g 0), .int p0]) ++ List.replicate (4 - (lg_sl ([.ref (g 0), .int p0])).length) Slot.unset).toArray = ls at hl ⊢
  have hl : lv_has ls 4 [(0, .ref (g 0)), (1, .int p0)] := hl
  obtain ⟨H, eH⟩ : ∃ z, z = s.heap := ⟨_, rfl⟩
  have hP : va_P (dC, dI) classes (wM g c v F rc) H := by rw [eH]; exact hP
  have hS : va_S (AM g s.heap.size) s.heap H [] := by rw [eH]; exact va_S.rf
  refine my_heap eH ?_
  have rp0 := i32_rng p0
  refine lv_iconst (v := 0) hx hb dX12_areTwice_0 (by decide) ?_
  refine lv_istore_n (lv' := [(2, .int 0), (0, .ref (g 0)), (1, .int p0)]) hx hb dX12_areTwice_1 rfl hl (by decide) rfl (fun ls hl => ?_)
  have lp5524 : ∀ (n : Nat) (x2_lp5524 : Int32) (H : Heap) (locs : List Loc) (ls : Array Slot), (0 ≤ x2_lp5524.toInt) → (2147483648 - x2_lp5524.toInt ≤ (n : Int)) → va_P (dC, dI) classes (wM g c v F rc) H → va_S (AM g s.heap.size) s.heap H locs → lv_has ls 4 [(2, .int x2_lp5524), (0, .ref (g 0)), (1, .int p0)] → W p l e (headSpec (Cond.code yX12_areTwice cX12_areTwice 4 (some .boolean) :: wA) ({ frames := 2, cells := 0, slots := 0, locals := 80 })).room s m ([.ref (g 0), .int p0] : List Value).toArray below meth c0 H locs 0 0 (MQ below (va_Qi (fun (r : Int32) (u : Unit) => 0 ≤ r.toInt ∧ r.toInt ≤ 1) (fun (_ : Unit) => BM dC dI g c (v, F, rc)) (AM g s.heap.size)) ([.ref (g 0), .int p0] : List Value).toArray s 0 0 (AM g s.heap.size)) (F0 m 2 ls []) := by
    intro n
    induction n with
    | zero =>
      intro x2_lp5524 H locs ls t5525 hm hP hS hl
      exfalso
      have := i32_rng x2_lp5524
      omega
    | succ n ih_lp5524 =>
      intro x2_lp5524 H locs ls t5525 hm hP hS hl
      have rx2_lp5524 := i32_rng x2_lp5524
      refine lv_iload_n hx hb dX12_areTwice_2 rfl (lv_at hl 0 rfl) ?_
      refine lv_aload_n hx hb dX12_areTwice_3 rfl (lv_at hl 1 rfl) ?_
      refine va_get (D := (dC, dI)) (ci := 12) (v := .int (v 19)) (C := RX12) (T := TX12) (N := 63) hx hb hwd inA_X12 hown hK hP 0 rfl rfl 19 (by decide) (hwd _ wk_494) (fun _ h9 => h9) rfl dX12_areTwice_4 ?_
      have t5526 : 0 ≤ (v 19).toInt ∧ (v 19).toInt ≤ 500 := hI.1 19 _ _ rfl
      refine lv_icmp_ge (tgt := 100) hx hb dX12_areTwice_7 (by decide) (fun c5527 => ?_) (fun c5527 => ?_)
      · skip
        have t5528 := cv_le (a := (v 19).toInt) rfl (b := x2_lp5524.toInt) rfl c5527
        refine lv_iconst (v := 0) hx hb dX12_areTwice_100 (by decide) ?_
        have hP9 : va_P (dC, dI) classes (wM g c v F rc) H := hP
        exact W.zret (v := 0) hx hb hr (rfl) (fun t ht hW => ⟨⟨0, (), rfl, by have : (0 : Int32).toInt = 0 := (by decide); omega, (by show va_P _ _ _ t.heap; rw [ht]; exact hP9)⟩, hS.F ht⟩) hS.2.2 dX12_areTwice_101
      · skip
        have t5529 := cv_nle (a := (v 19).toInt) rfl (b := x2_lp5524.toInt) rfl c5527
        refine lv_aload_n hx hb dX12_areTwice_10 rfl (lv_at hl 1 rfl) ?_
        refine va_get (D := (dC, dI)) (ci := 12) (v := .ref (g 15)) (C := RX12) (T := TX12) (N := 63) hx hb hwd inA_X12 hown hK hP 0 rfl rfl 20 (by decide) (hwd _ wk_196) (fun _ h9 => h9) rfl dX12_areTwice_11 ?_
        refine lv_iload_n hx hb dX12_areTwice_14 rfl (lv_at hl 0 rfl) ?_
        refine va_iald hx hb hK hP 15 14 rfl rfl (i := x2_lp5524) (vin (a := x2_lp5524.toInt) rfl (by omega)) dX12_areTwice_15 ?_
        refine lv_topi (fun z5530 e5531 => ?_)
        have t5532 : 0 ≤ z5530.toInt ∧ z5530.toInt ≤ 99 := by rw [e5531]; exact hI.2 15 _ _ rfl _
        refine lv_iload_n hx hb dX12_areTwice_16 rfl (lv_at hl 2 rfl) ?_
        refine lv_icmp_eq (tgt := 23) hx hb dX12_areTwice_17 (by decide) (fun c5533 => ?_) (fun c5533 => ?_)
        · skip
          have t5534 := cv_eq (a := z5530.toInt) rfl (b := p0.toInt) rfl c5533
          refine lv_iconst (v := 0) hx hb dX12_areTwice_23 (by decide) ?_
          refine lv_istore_n (lv' := [(3, .int 0), (2, .int x2_lp5524), (0, .ref (g 0)), (1, .int p0)]) hx hb dX12_areTwice_24 rfl hl (by decide) rfl (fun ls hl => ?_)
          have lp5535 : ∀ (n : Nat) (x3_lp5535 : Int32) (H : Heap) (locs : List Loc) (ls : Array Slot), (0 ≤ x3_lp5535.toInt) → (2147483648 - x3_lp5535.toInt ≤ (n : Int)) → va_P (dC, dI) classes (wM g c v F rc) H → va_S (AM g s.heap.size) s.heap H locs → lv_has ls 4 [(3, .int x3_lp5535), (2, .int x2_lp5524), (0, .ref (g 0)), (1, .int p0)] → W p l e (headSpec (Cond.code yX12_areTwice cX12_areTwice 4 (some .boolean) :: wA) ({ frames := 2, cells := 0, slots := 0, locals := 80 })).room s m ([.ref (g 0), .int p0] : List Value).toArray below meth c0 H locs 0 0 (MQ below (va_Qi (fun (r : Int32) (u : Unit) => 0 ≤ r.toInt ∧ r.toInt ≤ 1) (fun (_ : Unit) => BM dC dI g c (v, F, rc)) (AM g s.heap.size)) ([.ref (g 0), .int p0] : List Value).toArray s 0 0 (AM g s.heap.size)) (F0 m 25 ls []) := by
            intro n
            induction n with
            | zero =>
              intro x3_lp5535 H locs ls t5536 hm hP hS hl
              exfalso
              have := i32_rng x3_lp5535
              omega
            | succ n ih_lp5535 =>
              intro x3_lp5535 H locs ls t5536 hm hP hS hl
              have rx3_lp5535 := i32_rng x3_lp5535
              refine lv_iload_n hx hb dX12_areTwice_25 rfl (lv_at hl 0 rfl) ?_
              refine lv_aload_n hx hb dX12_areTwice_26 rfl (lv_at hl 2 rfl) ?_
              refine va_get (D := (dC, dI)) (ci := 12) (v := .int (v 19)) (C := RX12) (T := TX12) (N := 63) hx hb hwd inA_X12 hown hK hP 0 rfl rfl 19 (by decide) (hwd _ wk_494) (fun _ h9 => h9) rfl dX12_areTwice_27 ?_
              have t5537 : 0 ≤ (v 19).toInt ∧ (v 19).toInt ≤ 500 := hI.1 19 _ _ rfl
              refine lv_icmp_ge (tgt := 94) hx hb dX12_areTwice_30 (by decide) (fun c5538 => ?_) (fun c5538 => ?_)
              · skip
                have t5539 := cv_le (a := (v 19).toInt) rfl (b := x3_lp5535.toInt) rfl c5538
                obtain ⟨z5540, e5541⟩ : ∃ y : Int32, y = x2_lp5524 + 1 := ⟨_, rfl⟩
                try (have t5542 := tadd e5541 rfl (b := 1) (by decide) (by omega))
                refine lv_iinc (v := z5540) (lv' := [(2, .int z5540), (3, .int x3_lp5535), (0, .ref (g 0)), (1, .int p0)]) hx hb dX12_areTwice_94 hl (k := 1) rfl (by rw [e5541]; rfl) (by decide) rfl (fun ls hl => ?_)
                refine lv_goto (tgt := 2) hx hb dX12_areTwice_97 (by decide) ?_
                exact ih_lp5524 z5540  _ _ _ (by omega) (by omega) hP hS (lv_sub hl [0, 2, 3] rfl)
              · skip
                have t5543 := cv_nle (a := (v 19).toInt) rfl (b := x3_lp5535.toInt) rfl c5538
                refine lv_aload_n hx hb dX12_areTwice_33 rfl (lv_at hl 2 rfl) ?_
                refine va_get (D := (dC, dI)) (ci := 12) (v := .ref (g 15)) (C := RX12) (T := TX12) (N := 63) hx hb hwd inA_X12 hown hK hP 0 rfl rfl 20 (by decide) (hwd _ wk_196) (fun _ h9 => h9) rfl dX12_areTwice_34 ?_
                refine lv_iload_n hx hb dX12_areTwice_37 rfl (lv_at hl 0 rfl) ?_
                refine va_iald hx hb hK hP 15 14 rfl rfl (i := x3_lp5535) (vin (a := x3_lp5535.toInt) rfl (by omega)) dX12_areTwice_38 ?_
                refine lv_topi (fun z5544 e5545 => ?_)
                have t5546 : 0 ≤ z5544.toInt ∧ z5544.toInt ≤ 99 := by rw [e5545]; exact hI.2 15 _ _ rfl _
                refine lv_iload_n hx hb dX12_areTwice_39 rfl (lv_at hl 3 rfl) ?_
                refine lv_icmp_ne (tgt := 88) hx hb dX12_areTwice_40 (by decide) (fun c5547 => ?_) (fun c5547 => ?_)
                · skip
                  have t5548 := cv_ne (a := z5544.toInt) rfl (b := p0.toInt) rfl c5547
                  obtain ⟨z5549, e5550⟩ : ∃ y : Int32, y = x3_lp5535 + 1 := ⟨_, rfl⟩
                  try (have t5551 := tadd e5550 rfl (b := 1) (by decide) (by omega))
                  refine lv_iinc (v := z5549) (lv' := [(3, .int z5549), (2, .int x2_lp5524), (0, .ref (g 0)), (1, .int p0)]) hx hb dX12_areTwice_88 hl (k := 0) rfl (by rw [e5550]; rfl) (by decide) rfl (fun ls hl => ?_)
                  refine lv_goto (tgt := 25) hx hb dX12_areTwice_91 (by decide) ?_
                  exact ih_lp5535 z5549  _ _ _ (by omega) (by omega) hP hS (lv_sub hl [0, 1, 2, 3] rfl)
                · skip
                  have t5552 := cv_eq (a := z5544.toInt) rfl (b := p0.toInt) rfl c5547
                  refine lv_aload_n hx hb dX12_areTwice_43 rfl (lv_at hl 2 rfl) ?_
                  refine va_get (D := (dC, dI)) (ci := 12) (v := .ref (g 16)) (C := RX12) (T := TX12) (N := 63) hx hb hwd inA_X12 hown hK hP 0 rfl rfl 21 (by decide) (hwd _ wk_197) (fun _ h9 => h9) rfl dX12_areTwice_44 ?_
                  refine lv_iload_n hx hb dX12_areTwice_47 rfl (lv_at hl 0 rfl) ?_
                  refine va_iald hx hb hK hP 16 15 rfl rfl (i := x3_lp5535) (vin (a := x3_lp5535.toInt) rfl (by omega)) dX12_areTwice_48 ?_
                  refine lv_topi (fun z5553 e5554 => ?_)
                  have t5555 : 0 ≤ z5553.toInt ∧ z5553.toInt ≤ 11 := by rw [e5554]; exact hI.2 16 _ _ rfl _
                  refine lv_aload_n hx hb dX12_areTwice_49 rfl (lv_at hl 2 rfl) ?_
                  refine va_get (D := (dC, dI)) (ci := 12) (v := .ref (g 16)) (C := RX12) (T := TX12) (N := 63) hx hb hwd inA_X12 hown hK hP 0 rfl rfl 21 (by decide) (hwd _ wk_197) (fun _ h9 => h9) rfl dX12_areTwice_50 ?_
                  refine lv_iload_n hx hb dX12_areTwice_53 rfl (lv_at hl 1 rfl) ?_
                  refine va_iald hx hb hK hP 16 15 rfl rfl (i := x2_lp5524) (vin (a := x2_lp5524.toInt) rfl (by omega)) dX12_areTwice_54 ?_
                  refine lv_topi (fun z5556 e5557 => ?_)
                  have t5558 : 0 ≤ z5556.toInt ∧ z5556.toInt ≤ 11 := by rw [e5557]; exact hI.2 16 _ _ rfl _
                  refine lv_icmp_eq (tgt := 88) hx hb dX12_areTwice_55 (by decide) (fun c5559 => ?_) (fun c5559 => ?_)
                  · skip
                    have t5560 := cv_eq (a := z5553.toInt) rfl (b := z5556.toInt) rfl c5559
                    obtain ⟨z5561, e5562⟩ : ∃ y : Int32, y = x3_lp5535 + 1 := ⟨_, rfl⟩
                    try (have t5563 := tadd e5562 rfl (b := 1) (by decide) (by omega))
                    refine lv_iinc (v := z5561) (lv' := [(3, .int z5561), (2, .int x2_lp5524), (0, .ref (g 0)), (1, .int p0)]) hx hb dX12_areTwice_88 hl (k := 0) rfl (by rw [e5562]; rfl) (by decide) rfl (fun ls hl => ?_)
                    refine lv_goto (tgt := 25) hx hb dX12_areTwice_91 (by decide) ?_
                    exact ih_lp5535 z5561  _ _ _ (by omega) (by omega) hP hS (lv_sub hl [0, 1, 2, 3] rfl)
                  · skip
                    have t5564 := cv_ne (a := z5553.toInt) rfl (b := z5556.toInt) rfl c5559
                    refine lv_aload_n hx hb dX12_areTwice_58 rfl (lv_at hl 2 rfl) ?_
                    refine va_get (D := (dC, dI)) (ci := 12) (v := .ref (g 17)) (C := RX12) (T := TX12) (N := 63) hx hb hwd inA_X12 hown hK hP 0 rfl rfl 22 (by decide) (hwd _ wk_198) (fun _ h9 => h9) rfl dX12_areTwice_59 ?_
                    refine lv_iload_n hx hb dX12_areTwice_62 rfl (lv_at hl 1 rfl) ?_
                    refine va_iald hx hb hK hP 17 16 rfl rfl (i := x2_lp5524) (vin (a := x2_lp5524.toInt) rfl (by omega)) dX12_areTwice_63 ?_
                    refine lv_topi (fun z5565 e5566 => ?_)
                    refine lv_aload_n hx hb dX12_areTwice_64 rfl (lv_at hl 2 rfl) ?_
                    refine lv_iload_n hx hb dX12_areTwice_65 rfl (lv_at hl 0 rfl) ?_
                    refine va_calli (va_runV (As := [.int x3_lp5535]) (rest := [.int z5565]) ⟨hx, hb, hml, hown, hwd⟩ (c_X12_lastDay l dC dI g c adK adV v F rc H.size x3_lp5535 hg hI (by omega)) (cwV 1 hwd (gV wk_736 wk_733 wk_734 wk_735 wk_5) rfl rfl rfl (by decide +kernel) ⟨Nat.le_of_ble_eq_true rfl, Nat.le_of_ble_eq_true rfl⟩) ⟨PM.blind, va_recv hK hP (ci := 12) (q0 := 0) rfl rfl, fun U hU hW => ⟨rfl, PM.at hK hE hP hS hU hW⟩⟩ rfl rfl hl.1 rfl (lv_room (Nat.le_of_ble_eq_true rfl)) dX12_areTwice_66 ⟨Nat.le_of_ble_eq_true rfl, Nat.le_of_ble_eq_true rfl⟩) hS (fun q _ h => (freeM hS) q h) (freeM hS) (fun r5567 u t H1 locs ht hvm hw hB hz1 hk1 hS => ?_)
                    unfold BM at hB
                    rw [ht] at hB
                    have hP : va_P (dC, dI) classes (wM g c v F rc) H1 := hB
                    clear hz1
                    generalize H1 = H at hP hS ⊢
                    have rr_r5567 := i32_rng r5567
                    refine lv_icmp_ge (tgt := 88) hx hb dX12_areTwice_69 (by decide) (fun c5568 => ?_) (fun c5568 => ?_)
                    · skip
                      have t5569 := cv_le (a := r5567.toInt) rfl (b := z5565.toInt) rfl c5568
                      obtain ⟨z5570, e5571⟩ : ∃ y : Int32, y = x3_lp5535 + 1 := ⟨_, rfl⟩
                      try (have t5572 := tadd e5571 rfl (b := 1) (by decide) (by omega))
                      refine lv_iinc (v := z5570) (lv' := [(3, .int z5570), (2, .int x2_lp5524), (0, .ref (g 0)), (1, .int p0)]) hx hb dX12_areTwice_88 hl (k := 0) rfl (by rw [e5571]; rfl) (by decide) rfl (fun ls hl => ?_)
                      refine lv_goto (tgt := 25) hx hb dX12_areTwice_91 (by decide) ?_
                      exact ih_lp5535 z5570  _ _ _ (by omega) (by omega) hP hS (lv_sub hl [0, 1, 2, 3] rfl)
                    · skip
                      have t5573 := cv_nle (a := r5567.toInt) rfl (b := z5565.toInt) rfl c5568
                      refine lv_aload_n hx hb dX12_areTwice_72 rfl (lv_at hl 2 rfl) ?_
                      refine va_get (D := (dC, dI)) (ci := 12) (v := .ref (g 17)) (C := RX12) (T := TX12) (N := 63) hx hb hwd inA_X12 hown hK hP 0 rfl rfl 22 (by decide) (hwd _ wk_198) (fun _ h9 => h9) rfl dX12_areTwice_73 ?_
                      refine lv_iload_n hx hb dX12_areTwice_76 rfl (lv_at hl 0 rfl) ?_
                      refine va_iald hx hb hK hP 17 16 rfl rfl (i := x3_lp5535) (vin (a := x3_lp5535.toInt) rfl (by omega)) dX12_areTwice_77 ?_
                      refine lv_topi (fun z5574 e5575 => ?_)
                      refine lv_aload_n hx hb dX12_areTwice_78 rfl (lv_at hl 2 rfl) ?_
                      refine lv_iload_n hx hb dX12_areTwice_79 rfl (lv_at hl 1 rfl) ?_
                      refine va_calli (va_runV (As := [.int x2_lp5524]) (rest := [.int z5574]) ⟨hx, hb, hml, hown, hwd⟩ (c_X12_lastDay l dC dI g c adK adV v F rc H.size x2_lp5524 hg hI (by omega)) (cwV 1 hwd (gV wk_736 wk_733 wk_734 wk_735 wk_5) rfl rfl rfl (by decide +kernel) ⟨Nat.le_of_ble_eq_true rfl, Nat.le_of_ble_eq_true rfl⟩) ⟨PM.blind, va_recv hK hP (ci := 12) (q0 := 0) rfl rfl, fun U hU hW => ⟨rfl, PM.at hK hE hP hS hU hW⟩⟩ rfl rfl hl.1 rfl (lv_room (Nat.le_of_ble_eq_true rfl)) dX12_areTwice_80 ⟨Nat.le_of_ble_eq_true rfl, Nat.le_of_ble_eq_true rfl⟩) hS (fun q _ h => (freeM hS) q h) (freeM hS) (fun r5576 u t H1 locs ht hvm hw hB hz1 hk1 hS => ?_)
                      unfold BM at hB
                      rw [ht] at hB
                      have hP : va_P (dC, dI) classes (wM g c v F rc) H1 := hB
                      clear hz1
                      generalize H1 = H at hP hS ⊢
                      have rr_r5576 := i32_rng r5576
                      refine lv_icmp_ge (tgt := 88) hx hb dX12_areTwice_83 (by decide) (fun c5577 => ?_) (fun c5577 => ?_)
                      · skip
                        have t5578 := cv_le (a := r5576.toInt) rfl (b := z5574.toInt) rfl c5577
                        obtain ⟨z5579, e5580⟩ : ∃ y : Int32, y = x3_lp5535 + 1 := ⟨_, rfl⟩
                        try (have t5581 := tadd e5580 rfl (b := 1) (by decide) (by omega))
                        refine lv_iinc (v := z5579) (lv' := [(3, .int z5579), (2, .int x2_lp5524), (0, .ref (g 0)), (1, .int p0)]) hx hb dX12_areTwice_88 hl (k := 0) rfl (by rw [e5580]; rfl) (by decide) rfl (fun ls hl => ?_)
                        refine lv_goto (tgt := 25) hx hb dX12_areTwice_91 (by decide) ?_
                        exact ih_lp5535 z5579  _ _ _ (by omega) (by omega) hP hS (lv_sub hl [0, 1, 2, 3] rfl)
                      · skip
                        have t5582 := cv_nle (a := r5576.toInt) rfl (b := z5574.toInt) rfl c5577
                        refine lv_iconst (v := 1) hx hb dX12_areTwice_86 (by decide) ?_
                        have hP9 : va_P (dC, dI) classes (wM g c v F rc) H := hP
                        exact W.zret (v := 1) hx hb hr (rfl) (fun t ht hW => ⟨⟨1, (), rfl, by have : (1 : Int32).toInt = 1 := (by decide); omega, (by show va_P _ _ _ t.heap; rw [ht]; exact hP9)⟩, hS.F ht⟩) hS.2.2 dX12_areTwice_87
          obtain ⟨n9, hn9⟩ : ∃ n : Nat, 2147483648 - 0 ≤ (n : Int) := ⟨((2147483648 - 0 : Int)).toNat, by omega⟩
          exact lp5535 n9 0  H _ ls (by have : (0 : Int32).toInt = 0 := (by decide); omega) (by have : (0 : Int32).toInt = 0 := (by decide); omega) hP hS hl
        · skip
          have t5583 := cv_ne (a := z5530.toInt) rfl (b := p0.toInt) rfl c5533
          refine lv_goto (tgt := 94) hx hb dX12_areTwice_20 (by decide) ?_
          obtain ⟨z5584, e5585⟩ : ∃ y : Int32, y = x2_lp5524 + 1 := ⟨_, rfl⟩
          try (have t5586 := tadd e5585 rfl (b := 1) (by decide) (by omega))
          refine lv_iinc (v := z5584) (lv' := [(2, .int z5584), (0, .ref (g 0)), (1, .int p0)]) hx hb dX12_areTwice_94 hl (k := 0) rfl (by rw [e5585]; rfl) (by decide) rfl (fun ls hl => ?_)
          refine lv_goto (tgt := 2) hx hb dX12_areTwice_97 (by decide) ?_
          exact ih_lp5524 z5584  _ _ _ (by omega) (by omega) hP hS (lv_sub hl [0, 1, 2] rfl)
  obtain ⟨n9, hn9⟩ : ∃ n : Nat, 2147483648 - 0 ≤ (n : Int) := ⟨((2147483648 - 0 : Int)).toNat, by omega⟩
  exact lp5524 n9 0  H _ ls (by have : (0 : Int32).toInt = 0 := (by decide); omega) (by have : (0 : Int32).toInt = 0 := (by decide); omega) hP hS hl
set_option maxHeartbeats 8000000 in
set_option maxRecDepth 100000 in
theorem c_X12_isDouble (l : Launch) (dC : Nat → ClassId) (dI : Nat → Nat → Nat) (g : Nat → Nat) (c : Nat → ClassId) (adK adV : Nat → Nat) (v : Nat → Int32) (F : Nat → Nat → Int32) (rc sz : Nat) (p0 : Int32) (hg : injM g) (hI : IM v F) (h0 : 0 ≤ p0.toInt ∧ p0.toInt ≤ 99) : Met l yX12_isDouble (Cond.code yX12_isDouble cX12_isDouble 3 (some .boolean) :: wA) ({ frames := 1, cells := 0, slots := 0, locals := 40 }) (va_Pc [.ref (g 0), .int p0] (PM dC dI g c adK adV v F rc sz)) (va_Qi (fun (r : Int32) (u : Unit) => 0 ≤ r.toInt ∧ r.toInt ≤ 1) (fun (_ : Unit) => BM dC dI g c (v, F, rc)) (AM g sz)) 0 0 (AM g sz) := by
  refine Met.ofW (cc := cX12_isDouble) (maxL := 3) (ret := (some .boolean)) (by decide) rfl ?_
  intro p e s m args below meth c0 s₁ B hml hv
  obtain ⟨rfl, hsz, hP, hK, hE⟩ := hv
  have hx := B.exec
  have hb := B.bytes
  have hr := B.returns
  have hts := atoms_spec (ws := Cond.code yX12_isDouble cX12_isDouble 3 (some .boolean) :: wA) B.pre
  have hwd : ∀ w ∈ wA, w.before _ s = true := fun w h => hts w (List.mem_cons_of_mem _ h)
  have hown : s.vm.findClass RX12 = some m.cls := findClass_of_methodNamed B.named
  have hlocks := B.notSynchronized
  subst hsz
  have hl := lv_entry ([.ref (g 0), .int p0]) (n := 3) (Nat.le_of_ble_eq_true rfl)
  rw [lg_entry_eq]
  generalize (lg_sl ([.ref (g 0), .int p0]) ++ List.replicate (3 - (lg_sl ([.ref (g 0), .int p0])).length) Slot.unset).toArray = ls at hl ⊢
  have hl : lv_has ls 3 [(0, .ref (g 0)), (1, .int p0)] := hl
  obtain ⟨H, eH⟩ : ∃ z, z = s.heap := ⟨_, rfl⟩
  have hP : va_P (dC, dI) classes (wM g c v F rc) H := by rw [eH]; exact hP
  have hS : va_S (AM g s.heap.size) s.heap H [] := by rw [eH]; exact va_S.rf
  refine my_heap eH ?_
  have rp0 := i32_rng p0
  refine lv_iconst (v := 0) hx hb dX12_isDouble_0 (by decide) ?_
  refine lv_istore_n (lv' := [(2, .int 0), (0, .ref (g 0)), (1, .int p0)]) hx hb dX12_isDouble_1 rfl hl (by decide) rfl (fun ls hl => ?_)
  have lp5587 : ∀ (n : Nat) (x2_lp5587 : Int32) (H : Heap) (locs : List Loc) (ls : Array Slot), (0 ≤ x2_lp5587.toInt) → (2147483648 - x2_lp5587.toInt ≤ (n : Int)) → va_P (dC, dI) classes (wM g c v F rc) H → va_S (AM g s.heap.size) s.heap H locs → lv_has ls 3 [(2, .int x2_lp5587), (0, .ref (g 0)), (1, .int p0)] → W p l e (headSpec (Cond.code yX12_isDouble cX12_isDouble 3 (some .boolean) :: wA) ({ frames := 1, cells := 0, slots := 0, locals := 40 })).room s m ([.ref (g 0), .int p0] : List Value).toArray below meth c0 H locs 0 0 (MQ below (va_Qi (fun (r : Int32) (u : Unit) => 0 ≤ r.toInt ∧ r.toInt ≤ 1) (fun (_ : Unit) => BM dC dI g c (v, F, rc)) (AM g s.heap.size)) ([.ref (g 0), .int p0] : List Value).toArray s 0 0 (AM g s.heap.size)) (F0 m 2 ls []) := by
    intro n
    induction n with
    | zero =>
      intro x2_lp5587 H locs ls t5588 hm hP hS hl
      exfalso
      have := i32_rng x2_lp5587
      omega
    | succ n ih_lp5587 =>
      intro x2_lp5587 H locs ls t5588 hm hP hS hl
      have rx2_lp5587 := i32_rng x2_lp5587
      refine lv_iload_n hx hb dX12_isDouble_2 rfl (lv_at hl 0 rfl) ?_
      refine lv_aload_n hx hb dX12_isDouble_3 rfl (lv_at hl 1 rfl) ?_
      refine va_get (D := (dC, dI)) (ci := 12) (v := .int (v 14)) (C := RX12) (T := TX12) (N := 63) hx hb hwd inA_X12 hown hK hP 0 rfl rfl 14 (by decide) (hwd _ wk_318) (fun _ h9 => h9) rfl dX12_isDouble_4 ?_
      have t5589 : 0 ≤ (v 14).toInt ∧ (v 14).toInt ≤ 100 := hI.1 14 _ _ rfl
      refine lv_icmp_ge (tgt := 64) hx hb dX12_isDouble_7 (by decide) (fun c5590 => ?_) (fun c5590 => ?_)
      · skip
        have t5591 := cv_le (a := (v 14).toInt) rfl (b := x2_lp5587.toInt) rfl c5590
        refine lv_iconst (v := 0) hx hb dX12_isDouble_64 (by decide) ?_
        have hP9 : va_P (dC, dI) classes (wM g c v F rc) H := hP
        exact W.zret (v := 0) hx hb hr (rfl) (fun t ht hW => ⟨⟨0, (), rfl, by have : (0 : Int32).toInt = 0 := (by decide); omega, (by show va_P _ _ _ t.heap; rw [ht]; exact hP9)⟩, hS.F ht⟩) hS.2.2 dX12_isDouble_65
      · skip
        have t5592 := cv_nle (a := (v 14).toInt) rfl (b := x2_lp5587.toInt) rfl c5590
        refine lv_iload_n hx hb dX12_isDouble_10 rfl (lv_at hl 0 rfl) ?_
        refine lv_iload_n hx hb dX12_isDouble_11 rfl (lv_at hl 2 rfl) ?_
        refine lv_icmp_eq (tgt := 58) hx hb dX12_isDouble_12 (by decide) (fun c5593 => ?_) (fun c5593 => ?_)
        · skip
          have t5594 := cv_eq (a := x2_lp5587.toInt) rfl (b := p0.toInt) rfl c5593
          obtain ⟨z5595, e5596⟩ : ∃ y : Int32, y = x2_lp5587 + 1 := ⟨_, rfl⟩
          try (have t5597 := tadd e5596 rfl (b := 1) (by decide) (by omega))
          refine lv_iinc (v := z5595) (lv' := [(2, .int z5595), (0, .ref (g 0)), (1, .int p0)]) hx hb dX12_isDouble_58 hl (k := 0) rfl (by rw [e5596]; rfl) (by decide) rfl (fun ls hl => ?_)
          refine lv_goto (tgt := 2) hx hb dX12_isDouble_61 (by decide) ?_
          exact ih_lp5587 z5595  _ _ _ (by omega) (by omega) hP hS (lv_sub hl [0, 1, 2] rfl)
        · skip
          have t5598 := cv_ne (a := x2_lp5587.toInt) rfl (b := p0.toInt) rfl c5593
          refine lv_aload_n hx hb dX12_isDouble_15 rfl (lv_at hl 1 rfl) ?_
          refine va_get (D := (dC, dI)) (ci := 12) (v := .ref (g 11)) (C := RX12) (T := TX12) (N := 63) hx hb hwd inA_X12 hown hK hP 0 rfl rfl 15 (by decide) (hwd _ wk_192) (fun _ h9 => h9) rfl dX12_isDouble_16 ?_
          refine lv_iload_n hx hb dX12_isDouble_19 rfl (lv_at hl 0 rfl) ?_
          refine va_iald hx hb hK hP 11 10 rfl rfl (i := x2_lp5587) (vin (a := x2_lp5587.toInt) rfl (by omega)) dX12_isDouble_20 ?_
          refine lv_topi (fun z5599 e5600 => ?_)
          have t5601 : 0 ≤ z5599.toInt ∧ z5599.toInt ≤ 9 := by rw [e5600]; exact hI.2 11 _ _ rfl _
          refine lv_aload_n hx hb dX12_isDouble_21 rfl (lv_at hl 1 rfl) ?_
          refine va_get (D := (dC, dI)) (ci := 12) (v := .ref (g 11)) (C := RX12) (T := TX12) (N := 63) hx hb hwd inA_X12 hown hK hP 0 rfl rfl 15 (by decide) (hwd _ wk_192) (fun _ h9 => h9) rfl dX12_isDouble_22 ?_
          refine lv_iload_n hx hb dX12_isDouble_25 rfl (lv_at hl 2 rfl) ?_
          refine va_iald hx hb hK hP 11 10 rfl rfl (i := p0) (vin (a := p0.toInt) rfl (by omega)) dX12_isDouble_26 ?_
          refine lv_topi (fun z5602 e5603 => ?_)
          have t5604 : 0 ≤ z5602.toInt ∧ z5602.toInt ≤ 9 := by rw [e5603]; exact hI.2 11 _ _ rfl _
          refine lv_icmp_ne (tgt := 58) hx hb dX12_isDouble_27 (by decide) (fun c5605 => ?_) (fun c5605 => ?_)
          · skip
            have t5606 := cv_ne (a := z5599.toInt) rfl (b := z5602.toInt) rfl c5605
            obtain ⟨z5607, e5608⟩ : ∃ y : Int32, y = x2_lp5587 + 1 := ⟨_, rfl⟩
            try (have t5609 := tadd e5608 rfl (b := 1) (by decide) (by omega))
            refine lv_iinc (v := z5607) (lv' := [(2, .int z5607), (0, .ref (g 0)), (1, .int p0)]) hx hb dX12_isDouble_58 hl (k := 0) rfl (by rw [e5608]; rfl) (by decide) rfl (fun ls hl => ?_)
            refine lv_goto (tgt := 2) hx hb dX12_isDouble_61 (by decide) ?_
            exact ih_lp5587 z5607  _ _ _ (by omega) (by omega) hP hS (lv_sub hl [0, 1, 2] rfl)
          · skip
            have t5610 := cv_eq (a := z5599.toInt) rfl (b := z5602.toInt) rfl c5605
            refine lv_aload_n hx hb dX12_isDouble_30 rfl (lv_at hl 1 rfl) ?_
            refine va_get (D := (dC, dI)) (ci := 12) (v := .ref (g 12)) (C := RX12) (T := TX12) (N := 63) hx hb hwd inA_X12 hown hK hP 0 rfl rfl 16 (by decide) (hwd _ wk_193) (fun _ h9 => h9) rfl dX12_isDouble_31 ?_
            refine lv_iload_n hx hb dX12_isDouble_34 rfl (lv_at hl 0 rfl) ?_
            refine va_iald hx hb hK hP 12 11 rfl rfl (i := x2_lp5587) (vin (a := x2_lp5587.toInt) rfl (by omega)) dX12_isDouble_35 ?_
            refine lv_topi (fun z5611 e5612 => ?_)
            refine lv_aload_n hx hb dX12_isDouble_36 rfl (lv_at hl 1 rfl) ?_
            refine va_get (D := (dC, dI)) (ci := 12) (v := .ref (g 12)) (C := RX12) (T := TX12) (N := 63) hx hb hwd inA_X12 hown hK hP 0 rfl rfl 16 (by decide) (hwd _ wk_193) (fun _ h9 => h9) rfl dX12_isDouble_37 ?_
            refine lv_iload_n hx hb dX12_isDouble_40 rfl (lv_at hl 2 rfl) ?_
            refine va_iald hx hb hK hP 12 11 rfl rfl (i := p0) (vin (a := p0.toInt) rfl (by omega)) dX12_isDouble_41 ?_
            refine lv_topi (fun z5613 e5614 => ?_)
            refine lv_icmp_ne (tgt := 58) hx hb dX12_isDouble_42 (by decide) (fun c5615 => ?_) (fun c5615 => ?_)
            · skip
              have t5616 := cv_ne (a := z5611.toInt) rfl (b := z5613.toInt) rfl c5615
              obtain ⟨z5617, e5618⟩ : ∃ y : Int32, y = x2_lp5587 + 1 := ⟨_, rfl⟩
              try (have t5619 := tadd e5618 rfl (b := 1) (by decide) (by omega))
              refine lv_iinc (v := z5617) (lv' := [(2, .int z5617), (0, .ref (g 0)), (1, .int p0)]) hx hb dX12_isDouble_58 hl (k := 0) rfl (by rw [e5618]; rfl) (by decide) rfl (fun ls hl => ?_)
              refine lv_goto (tgt := 2) hx hb dX12_isDouble_61 (by decide) ?_
              exact ih_lp5587 z5617  _ _ _ (by omega) (by omega) hP hS (lv_sub hl [0, 1, 2] rfl)
            · skip
              have t5620 := cv_eq (a := z5611.toInt) rfl (b := z5613.toInt) rfl c5615
              refine lv_aload_n hx hb dX12_isDouble_45 rfl (lv_at hl 1 rfl) ?_
              refine va_get (D := (dC, dI)) (ci := 12) (v := .ref (g 13)) (C := RX12) (T := TX12) (N := 63) hx hb hwd inA_X12 hown hK hP 0 rfl rfl 17 (by decide) (hwd _ wk_194) (fun _ h9 => h9) rfl dX12_isDouble_46 ?_
              refine lv_iload_n hx hb dX12_isDouble_49 rfl (lv_at hl 0 rfl) ?_
              refine va_iald hx hb hK hP 13 12 rfl rfl (i := x2_lp5587) (vin (a := x2_lp5587.toInt) rfl (by omega)) dX12_isDouble_50 ?_
              refine lv_topi (fun z5621 e5622 => ?_)
              have t5623 : 0 ≤ z5621.toInt ∧ z5621.toInt ≤ 12 := by rw [e5622]; exact hI.2 13 _ _ rfl _
              refine lv_bipush (v := 12) hx hb dX12_isDouble_51 (by decide) ?_
              refine lv_icmp_eq (tgt := 58) hx hb dX12_isDouble_53 (by decide) (fun c5624 => ?_) (fun c5624 => ?_)
              · skip
                have t5625 := cv_eq (a := z5621.toInt) rfl (b := 12) (by decide) c5624
                obtain ⟨z5626, e5627⟩ : ∃ y : Int32, y = x2_lp5587 + 1 := ⟨_, rfl⟩
                try (have t5628 := tadd e5627 rfl (b := 1) (by decide) (by omega))
                refine lv_iinc (v := z5626) (lv' := [(2, .int z5626), (0, .ref (g 0)), (1, .int p0)]) hx hb dX12_isDouble_58 hl (k := 0) rfl (by rw [e5627]; rfl) (by decide) rfl (fun ls hl => ?_)
                refine lv_goto (tgt := 2) hx hb dX12_isDouble_61 (by decide) ?_
                exact ih_lp5587 z5626  _ _ _ (by omega) (by omega) hP hS (lv_sub hl [0, 1, 2] rfl)
              · skip
                have t5629 := cv_ne (a := z5621.toInt) rfl (b := 12) (by decide) c5624
                refine lv_iconst (v := 1) hx hb dX12_isDouble_56 (by decide) ?_
                have hP9 : va_P (dC, dI) classes (wM g c v F rc) H := hP
                exact W.zret (v := 1) hx hb hr (rfl) (fun t ht hW => ⟨⟨1, (), rfl, by have : (1 : Int32).toInt = 1 := (by decide); omega, (by show va_P _ _ _ t.heap; rw [ht]; exact hP9)⟩, hS.F ht⟩) hS.2.2 dX12_isDouble_57
  obtain ⟨n9, hn9⟩ : ∃ n : Nat, 2147483648 - 0 ≤ (n : Int) := ⟨((2147483648 - 0 : Int)).toNat, by omega⟩
  exact lp5587 n9 0  H _ ls (by have : (0 : Int32).toInt = 0 := (by decide); omega) (by have : (0 : Int32).toInt = 0 := (by decide); omega) hP hS hl
set_option maxHeartbeats 8000000 in
set_option maxRecDepth 100000 in
theorem c_X12_repair (l : Launch) (dC : Nat → ClassId) (dI : Nat → Nat → Nat) (g : Nat → Nat) (c : Nat → ClassId) (adK adV : Nat → Nat) (v : Nat → Int32) (F : Nat → Nat → Int32) (rc sz : Nat) (p0 : Int32) (p1 : Int32) (hg : injM g) (hI : IM v F) : Met l yX12_repair (Cond.code yX12_repair cX12_repair 4 (some .int) :: wA) ({ frames := 3, cells := 0, slots := 0, locals := 120 }) (va_Pc [.ref (g 0), .int p0, .int p1] (PM dC dI g c adK adV v F rc sz)) (va_Qi (fun (r : Int32) (u : StM) => IM u.1 u.2.1 ∧ u.2.2 = rc ∧ (∀ k, k ∉ ([] : List Nat) → u.1 k = v k) ∧ (∀ k, k ∉ ([14] : List Nat) → u.2.1 k = F k) ∧ True) (BM dC dI g c) (AM g sz)) 0 0 (AM g sz) := by
  refine Met.ofW (cc := cX12_repair) (maxL := 4) (ret := (some .int)) (by decide) rfl ?_
  intro p e s m args below meth c0 s₁ B hml hv
  obtain ⟨rfl, hsz, hP, hK, hE⟩ := hv
  have hx := B.exec
  have hb := B.bytes
  have hr := B.returns
  have hts := atoms_spec (ws := Cond.code yX12_repair cX12_repair 4 (some .int) :: wA) B.pre
  have hwd : ∀ w ∈ wA, w.before _ s = true := fun w h => hts w (List.mem_cons_of_mem _ h)
  have hown : s.vm.findClass RX12 = some m.cls := findClass_of_methodNamed B.named
  have hlocks := B.notSynchronized
  subst hsz
  have hl := lv_entry ([.ref (g 0), .int p0, .int p1]) (n := 4) (Nat.le_of_ble_eq_true rfl)
  rw [lg_entry_eq]
  generalize (lg_sl ([.ref (g 0), .int p0, .int p1]) ++ List.replicate (4 - (lg_sl ([.ref (g 0), .int p0, .int p1])).length) Slot.unset).toArray = ls at hl ⊢
  have hl : lv_has ls 4 [(0, .ref (g 0)), (1, .int p0), (2, .int p1)] := hl
  obtain ⟨H, eH⟩ : ∃ z, z = s.heap := ⟨_, rfl⟩
  have hP : va_P (dC, dI) classes (wM g c v F rc) H := by rw [eH]; exact hP
  have hS : va_S (AM g s.heap.size) s.heap H [] := by rw [eH]; exact va_S.rf
  refine my_heap eH ?_
  have hF : ∀ k, k ∉ ([14] : List Nat) → F k = F k := fun _ _ => rfl
  have rp0 := i32_rng p0
  have rp1 := i32_rng p1
  refine lv_aload_n hx hb dX12_repair_0 rfl (lv_at hl 0 rfl) ?_
  refine lv_iload_n hx hb dX12_repair_1 rfl (lv_at hl 1 rfl) ?_
  have t5674 : 0 ≤ (v 14).toInt ∧ (v 14).toInt ≤ 100 := hI.1 14 _ _ rfl
  refine va_calli (va_runV (As := [.int p0]) (rest := []) ⟨hx, hb, hml, hown, hwd⟩ (c_X12_isPart l dC dI g c adK adV v F rc H.size p0 hg hI ) (cwV 1 hwd (gV wk_631 wk_628 wk_629 wk_630 wk_5) rfl rfl rfl (by decide +kernel) ⟨Nat.le_of_ble_eq_true rfl, Nat.le_of_ble_eq_true rfl⟩) ⟨PM.blind, va_recv hK hP (ci := 12) (q0 := 0) rfl rfl, fun U hU hW => ⟨rfl, PM.at hK hE hP hS hU hW⟩⟩ rfl rfl hl.1 rfl (lv_room (Nat.le_of_ble_eq_true rfl)) dX12_repair_2 ⟨Nat.le_of_ble_eq_true rfl, Nat.le_of_ble_eq_true rfl⟩) hS (fun q _ h => (freeM hS) q h) (freeM hS) (fun r5675 u t H1 locs ht hvm hw hB hz1 hk1 hS => ?_)
  unfold BM at hB
  rw [ht] at hB
  have hP : va_P (dC, dI) classes (wM g c v F rc) H1 := hB
  replace hw : (r5675.toInt = 1 ∧ 0 ≤ p0.toInt ∧ p0.toInt < (v 14).toInt) ∨ (r5675.toInt = 0 ∧ (p0.toInt < 0 ∨ (v 14).toInt ≤ p0.toInt)) := hw
  have hw_r5675 := hw
  clear hw
  clear hz1
  generalize H1 = H at hP hS ⊢
  refine lv_if_eq (tgt := 18) hx hb dX12_repair_5 (by decide) (fun c5676 => ?_) (fun c5676 => ?_)
  · skip
    have t5677 := cv_eq (a := r5675.toInt) rfl (b := 0) (by decide) c5676
    refine lv_iconst (v := (-1)) hx hb dX12_repair_18 (by decide) ?_
    have hP9 : va_P (dC, dI) classes (wM g c v F rc) H := hP
    exact W.iret (v := (-1)) hx hb hr (fun t ht hW => ⟨⟨(-1), (v, F, rc), rfl, ⟨hI, rfl, (fun _ _ => rfl), hF, trivial⟩, (by show va_P _ _ _ t.heap; rw [ht]; exact hP9)⟩, hS.F ht⟩) hS.2.2 dX12_repair_19
  · skip
    have t5678 := cv_ne (a := r5675.toInt) rfl (b := 0) (by decide) c5676
    refine lv_iload_n hx hb dX12_repair_8 rfl (lv_at hl 2 rfl) ?_
    refine lv_iconst (v := 1) hx hb dX12_repair_9 (by decide) ?_
    refine lv_bipush (v := 7) hx hb dX12_repair_10 (by decide) ?_
    refine va_calli (va_runS (As := [.int p1, .int 1, .int 7]) (rest := []) ⟨hx, hb, hml, hown, hwd⟩ (c_X12_in l dC dI g c adK adV v F rc H.size p1 1 7 hg hI ) (va_cwS 3 hwd (gT wk_254 wk_252 wk_253 wk_5) rfl rfl rfl (by decide +kernel) ⟨Nat.le_of_ble_eq_true rfl, Nat.le_of_ble_eq_true rfl⟩) ⟨PM.blind, fun U hU hW => ⟨rfl, PM.at hK hE hP hS hU hW⟩⟩ rfl rfl hl.1 rfl (lv_room (Nat.le_of_ble_eq_true rfl)) dX12_repair_12 ⟨Nat.le_of_ble_eq_true rfl, Nat.le_of_ble_eq_true rfl⟩) hS (fun q _ h => (freeM hS) q h) (freeM hS) (fun r5679 u t H1 locs ht hvm hw hB hz1 hk1 hS => ?_)
    unfold BM at hB
    rw [ht] at hB
    have hP : va_P (dC, dI) classes (wM g c v F rc) H1 := hB
    have hw_r5679 : (r5679.toInt = 1 ∧ (1 : Int32).toInt ≤ p1.toInt ∧ p1.toInt ≤ (7 : Int32).toInt) ∨ (r5679.toInt = 0 ∧ (p1.toInt < (1 : Int32).toInt ∨ (7 : Int32).toInt < p1.toInt)) := hw
    clear hw
    have k5680 : (1 : Int32).toInt = 1 := by decide
    have k5681 : (7 : Int32).toInt = 7 := by decide
    clear hz1
    generalize H1 = H at hP hS ⊢
    refine lv_if_ne (tgt := 20) hx hb dX12_repair_15 (by decide) (fun c5682 => ?_) (fun c5682 => ?_)
    · skip
      have t5683 := cv_ne (a := r5679.toInt) rfl (b := 0) (by decide) c5682
      refine lv_aload_n hx hb dX12_repair_20 rfl (lv_at hl 0 rfl) ?_
      refine va_get (D := (dC, dI)) (ci := 12) (v := .ref (g 13)) (C := RX12) (T := TX12) (N := 63) hx hb hwd inA_X12 hown hK hP 0 rfl rfl 17 (by decide) (hwd _ wk_194) (fun _ h9 => h9) rfl dX12_repair_21 ?_
      refine lv_iload_n hx hb dX12_repair_24 rfl (lv_at hl 1 rfl) ?_
      refine va_iald hx hb hK hP 13 12 rfl rfl (i := p0) (vin (a := p0.toInt) rfl (by omega)) dX12_repair_25 ?_
      refine lv_topi (fun z5684 e5685 => ?_)
      have t5686 : 0 ≤ z5684.toInt ∧ z5684.toInt ≤ 12 := by rw [e5685]; exact hI.2 13 _ _ rfl _
      refine lv_bipush (v := 10) hx hb dX12_repair_26 (by decide) ?_
      refine lv_icmp_eq (tgt := 34) hx hb dX12_repair_28 (by decide) (fun c5687 => ?_) (fun c5687 => ?_)
      · skip
        have t5688 := cv_eq (a := z5684.toInt) rfl (b := 10) (by decide) c5687
        refine lv_iconst (v := 0) hx hb dX12_repair_34 (by decide) ?_
        refine lv_istore_n (lv' := [(3, .int 0), (0, .ref (g 0)), (1, .int p0), (2, .int p1)]) hx hb dX12_repair_35 rfl hl (by decide) rfl (fun ls hl => ?_)
        have lp5689 : ∀ (n : Nat) (x3_lp5689 : Int32) (v_lp5689 : Nat → Int32) (F_lp5689 : Nat → Nat → Int32) (H : Heap) (locs : List Loc) (ls : Array Slot), (0 ≤ x3_lp5689.toInt) → (2147483648 - x3_lp5689.toInt ≤ (n : Int)) → (∀ k, k ∉ ([] : List Nat) → v_lp5689 k = v k) → IM v_lp5689 F_lp5689 → (∀ k, k ∉ ([14] : List Nat) → F_lp5689 k = F k) → va_P (dC, dI) classes (wM g c v_lp5689 F_lp5689 rc) H → va_S (AM g s.heap.size) s.heap H locs → lv_has ls 4 [(3, .int x3_lp5689), (0, .ref (g 0)), (1, .int p0), (2, .int p1)] → W p l e (headSpec (Cond.code yX12_repair cX12_repair 4 (some .int) :: wA) ({ frames := 3, cells := 0, slots := 0, locals := 120 })).room s m ([.ref (g 0), .int p0, .int p1] : List Value).toArray below meth c0 H locs 0 0 (MQ below (va_Qi (fun (r : Int32) (u : StM) => IM u.1 u.2.1 ∧ u.2.2 = rc ∧ (∀ k, k ∉ ([] : List Nat) → u.1 k = v k) ∧ (∀ k, k ∉ ([14] : List Nat) → u.2.1 k = F k) ∧ True) (BM dC dI g c) (AM g s.heap.size)) ([.ref (g 0), .int p0, .int p1] : List Value).toArray s 0 0 (AM g s.heap.size)) (F0 m 36 ls []) := by
          intro n
          induction n with
          | zero =>
            intro x3_lp5689 v_lp5689 F_lp5689 H locs ls t5690 hm hf_lp5689 hI hF hP hS hl
            exfalso
            have := i32_rng x3_lp5689
            have hI1 := hI.1
            omega
          | succ n ih_lp5689 =>
            intro x3_lp5689 v_lp5689 F_lp5689 H locs ls t5690 hm hf_lp5689 hI hF hP hS hl
            have rx3_lp5689 := i32_rng x3_lp5689
            refine lv_iload_n hx hb dX12_repair_36 rfl (lv_at hl 0 rfl) ?_
            refine lv_iconst (v := 3) hx hb dX12_repair_37 (by decide) ?_
            refine lv_icmp_ge (tgt := 67) hx hb dX12_repair_38 (by decide) (fun c5691 => ?_) (fun c5691 => ?_)
            · skip
              have t5692 := cv_le (a := 3) (by decide) (b := x3_lp5689.toInt) rfl c5691
              refine lv_iconst (v := 1) hx hb dX12_repair_67 (by decide) ?_
              have hP9 : va_P (dC, dI) classes (wM g c v_lp5689 F_lp5689 rc) H := hP
              exact W.iret (v := 1) hx hb hr (fun t ht hW => ⟨⟨1, (v_lp5689, F_lp5689, rc), rfl, ⟨hI, rfl, (frC (by decide) hf_lp5689 (fun _ _ => rfl)), hF, trivial⟩, (by show va_P _ _ _ t.heap; rw [ht]; exact hP9)⟩, hS.F ht⟩) hS.2.2 dX12_repair_68
            · skip
              have t5693 := cv_nle (a := 3) (by decide) (b := x3_lp5689.toInt) rfl c5691
              refine lv_iload_n hx hb dX12_repair_41 rfl (lv_at hl 3 rfl) ?_
              refine lv_iload_n hx hb dX12_repair_42 rfl (lv_at hl 0 rfl) ?_
              refine lv_ishr hx hb dX12_repair_43 ?_
              refine lv_topi (fun z5694 e5695 => ?_)
              refine lv_iconst (v := 1) hx hb dX12_repair_44 (by decide) ?_
              refine lv_iand hx hb dX12_repair_45 ?_
              refine lv_topi (fun z5697 e5698 => ?_)
              refine lv_iconst (v := 1) hx hb dX12_repair_46 (by decide) ?_
              refine lv_icmp_ne (tgt := 61) hx hb dX12_repair_47 (by decide) (fun c5700 => ?_) (fun c5700 => ?_)
              · skip
                have t5701 := cv_ne (a := z5697.toInt) rfl (b := 1) (by decide) c5700
                obtain ⟨z5702, e5703⟩ : ∃ y : Int32, y = x3_lp5689 + 1 := ⟨_, rfl⟩
                try (have t5704 := tadd e5703 rfl (b := 1) (by decide) (by omega))
                refine lv_iinc (v := z5702) (lv' := [(3, .int z5702), (0, .ref (g 0)), (1, .int p0), (2, .int p1)]) hx hb dX12_repair_61 hl (k := 0) rfl (by rw [e5703]; rfl) (by decide) rfl (fun ls hl => ?_)
                refine lv_goto (tgt := 36) hx hb dX12_repair_64 (by decide) ?_
                exact ih_lp5689 z5702 v_lp5689 F_lp5689 _ _ _ (by omega) (by omega) hf_lp5689 hI hF hP hS (lv_sub hl [0, 1, 2, 3] rfl)
              · skip
                have t5705 := cv_eq (a := z5697.toInt) rfl (b := 1) (by decide) c5700
                refine lv_aload_n hx hb dX12_repair_50 rfl (lv_at hl 1 rfl) ?_
                refine va_get (D := (dC, dI)) (ci := 12) (v := .ref (g 14)) (C := RX12) (T := TX12) (N := 63) hx hb hwd inA_X12 hown hK hP 0 rfl rfl 18 (by decide) (hwd _ wk_195) (fun _ h9 => h9) rfl dX12_repair_51 ?_
                refine lv_iconst (v := 3) hx hb dX12_repair_54 (by decide) ?_
                refine lv_iload_n hx hb dX12_repair_55 rfl (lv_at hl 2 rfl) ?_
                refine lv_imul hx hb dX12_repair_56 ?_
                refine lv_topi (fun z5706 e5707 => ?_)
                try (have t5708 := tmul e5707 (a := 3) (by decide) (b := p0.toInt) rfl (by omega))
                refine lv_iload_n hx hb dX12_repair_57 rfl (lv_at hl 0 rfl) ?_
                refine lv_iadd hx hb dX12_repair_58 ?_
                refine lv_topi (fun z5709 e5710 => ?_)
                try (have t5711 := tadd e5710 (a := z5706.toInt) rfl (b := x3_lp5689.toInt) rfl (by omega))
                refine lv_iconst (v := 0) hx hb dX12_repair_59 (by decide) ?_
                refine va_iast hx hb hK hP (DM hg) hS 14 13 rfl rfl (i := z5709) (x := 0) (vin (a := z5709.toInt) rfl (by omega)) dX12_repair_60 (fun H locs hP _ hS => ?_)
                have hP := va_P_eq (sM_14 g c _ _ _ _) hP
                have hI := IM.store0 hI 14 (z5709 : Int32).toNatClampNeg 0 rfl
                have hF := frUF (k := 14) (f := upd (F_lp5689 14) (z5709 : Int32).toNatClampNeg 0) (by decide) hF
                have hP : va_P (dC, dI) classes (wM g c v_lp5689 (va_up F_lp5689 14 (upd (F_lp5689 14) (z5709 : Int32).toNatClampNeg 0)) rc) H := hP
                generalize (va_up F_lp5689 14 (upd (F_lp5689 14) (z5709 : Int32).toNatClampNeg 0)) = F5712 at hP hI hF
                obtain ⟨z5713, e5714⟩ : ∃ y : Int32, y = x3_lp5689 + 1 := ⟨_, rfl⟩
                try (have t5715 := tadd e5714 rfl (b := 1) (by decide) (by omega))
                refine lv_iinc (v := z5713) (lv' := [(3, .int z5713), (0, .ref (g 0)), (1, .int p0), (2, .int p1)]) hx hb dX12_repair_61 hl (k := 0) rfl (by rw [e5714]; rfl) (by decide) rfl (fun ls hl => ?_)
                refine lv_goto (tgt := 36) hx hb dX12_repair_64 (by decide) ?_
                exact ih_lp5689 z5713 v_lp5689 F5712 _ _ _ (by omega) (by omega) hf_lp5689 hI hF hP hS (lv_sub hl [0, 1, 2, 3] rfl)
        obtain ⟨n9, hn9⟩ : ∃ n : Nat, 2147483648 - 0 ≤ (n : Int) := ⟨((2147483648 - 0 : Int)).toNat, by omega⟩
        exact lp5689 n9 0 v F H _ ls (by have : (0 : Int32).toInt = 0 := (by decide); omega) (by have : (0 : Int32).toInt = 0 := (by decide); omega) (fun _ _ => rfl) hI hF hP hS hl
      · skip
        have t5716 := cv_ne (a := z5684.toInt) rfl (b := 10) (by decide) c5687
        refine lv_bipush (v := (-2)) hx hb dX12_repair_31 (by decide) ?_
        have hP9 : va_P (dC, dI) classes (wM g c v F rc) H := hP
        exact W.iret (v := (-2)) hx hb hr (fun t ht hW => ⟨⟨(-2), (v, F, rc), rfl, ⟨hI, rfl, (fun _ _ => rfl), hF, trivial⟩, (by show va_P _ _ _ t.heap; rw [ht]; exact hP9)⟩, hS.F ht⟩) hS.2.2 dX12_repair_33
    · skip
      have t5717 := cv_eq (a := r5679.toInt) rfl (b := 0) (by decide) c5682
      refine lv_iconst (v := (-1)) hx hb dX12_repair_18 (by decide) ?_
      have hP9 : va_P (dC, dI) classes (wM g c v F rc) H := hP
      exact W.iret (v := (-1)) hx hb hr (fun t ht hW => ⟨⟨(-1), (v, F, rc), rfl, ⟨hI, rfl, (fun _ _ => rfl), hF, trivial⟩, (by show va_P _ _ _ t.heap; rw [ht]; exact hP9)⟩, hS.F ht⟩) hS.2.2 dX12_repair_19
set_option maxHeartbeats 8000000 in
set_option maxRecDepth 100000 in
theorem c_X12_late (l : Launch) (dC : Nat → ClassId) (dI : Nat → Nat → Nat) (g : Nat → Nat) (c : Nat → ClassId) (adK adV : Nat → Nat) (v : Nat → Int32) (F : Nat → Nat → Int32) (rc sz : Nat) (p0 : Int32) (p1 : Int32) (hg : injM g) (hI : IM v F) (h0 : 0 ≤ p0.toInt ∧ p0.toInt ≤ 9) : Met l yX12_late (Cond.code yX12_late cX12_late 3 (some .int) :: wA) ({ frames := 1, cells := 0, slots := 0, locals := 40 }) (va_Pc [.ref (g 0), .int p0, .int p1] (PM dC dI g c adK adV v F rc sz)) (va_Qi (fun (r : Int32) (u : Unit) => True) (fun (_ : Unit) => BM dC dI g c (v, F, rc)) (AM g sz)) 0 0 (AM g sz) := by
  refine Met.ofW (cc := cX12_late) (maxL := 3) (ret := (some .int)) (by decide) rfl ?_
  intro p e s m args below meth c0 s₁ B hml hv
  obtain ⟨rfl, hsz, hP, hK, hE⟩ := hv
  have hx := B.exec
  have hb := B.bytes
  have hr := B.returns
  have hts := atoms_spec (ws := Cond.code yX12_late cX12_late 3 (some .int) :: wA) B.pre
  have hwd : ∀ w ∈ wA, w.before _ s = true := fun w h => hts w (List.mem_cons_of_mem _ h)
  have hown : s.vm.findClass RX12 = some m.cls := findClass_of_methodNamed B.named
  have hlocks := B.notSynchronized
  subst hsz
  have hl := lv_entry ([.ref (g 0), .int p0, .int p1]) (n := 3) (Nat.le_of_ble_eq_true rfl)
  rw [lg_entry_eq]
  generalize (lg_sl ([.ref (g 0), .int p0, .int p1]) ++ List.replicate (3 - (lg_sl ([.ref (g 0), .int p0, .int p1])).length) Slot.unset).toArray = ls at hl ⊢
  have hl : lv_has ls 3 [(0, .ref (g 0)), (1, .int p0), (2, .int p1)] := hl
  obtain ⟨H, eH⟩ : ∃ z, z = s.heap := ⟨_, rfl⟩
  have hP : va_P (dC, dI) classes (wM g c v F rc) H := by rw [eH]; exact hP
  have hS : va_S (AM g s.heap.size) s.heap H [] := by rw [eH]; exact va_S.rf
  refine my_heap eH ?_
  have rp0 := i32_rng p0
  have rp1 := i32_rng p1
  refine lv_iload_n hx hb dX12_late_0 rfl (lv_at hl 2 rfl) ?_
  refine lv_aload_n hx hb dX12_late_1 rfl (lv_at hl 0 rfl) ?_
  refine va_get (D := (dC, dI)) (ci := 12) (v := .ref (g 35)) (C := RX12) (T := TX12) (N := 63) hx hb hwd inA_X12 hown hK hP 0 rfl rfl 49 (by decide) (hwd _ wk_217) (fun _ h9 => h9) rfl dX12_late_2 ?_
  refine lv_iload_n hx hb dX12_late_5 rfl (lv_at hl 1 rfl) ?_
  refine va_iald hx hb hK hP 35 34 rfl rfl (i := p0) (vin (a := p0.toInt) rfl (by omega)) dX12_late_6 ?_
  refine lv_topi (fun z5718 e5719 => ?_)
  refine lv_icmp_le (tgt := 21) hx hb dX12_late_7 (by decide) (fun c5720 => ?_) (fun c5720 => ?_)
  · skip
    have t5721 := cv_le (a := p1.toInt) rfl (b := z5718.toInt) rfl c5720
    refine lv_iconst (v := 0) hx hb dX12_late_21 (by decide) ?_
    have hP9 : va_P (dC, dI) classes (wM g c v F rc) H := hP
    exact W.iret (v := 0) hx hb hr (fun t ht hW => ⟨⟨0, (), rfl, trivial, (by show va_P _ _ _ t.heap; rw [ht]; exact hP9)⟩, hS.F ht⟩) hS.2.2 dX12_late_22
  · skip
    have t5722 := cv_nle (a := p1.toInt) rfl (b := z5718.toInt) rfl c5720
    refine lv_iload_n hx hb dX12_late_10 rfl (lv_at hl 2 rfl) ?_
    refine lv_aload_n hx hb dX12_late_11 rfl (lv_at hl 0 rfl) ?_
    refine va_get (D := (dC, dI)) (ci := 12) (v := .ref (g 35)) (C := RX12) (T := TX12) (N := 63) hx hb hwd inA_X12 hown hK hP 0 rfl rfl 49 (by decide) (hwd _ wk_217) (fun _ h9 => h9) rfl dX12_late_12 ?_
    refine lv_iload_n hx hb dX12_late_15 rfl (lv_at hl 1 rfl) ?_
    refine va_iald hx hb hK hP 35 34 rfl rfl (i := p0) (vin (a := p0.toInt) rfl (by omega)) dX12_late_16 ?_
    refine lv_topi (fun z5723 e5724 => ?_)
    refine lv_isub hx hb dX12_late_17 ?_
    refine lv_topi (fun z5725 e5726 => ?_)
    try (have t5727 := tsub e5726 (a := p1.toInt) rfl (b := z5723.toInt) rfl (by omega))
    refine lv_goto (tgt := 22) hx hb dX12_late_18 (by decide) ?_
    have hP9 : va_P (dC, dI) classes (wM g c v F rc) H := hP
    exact W.iret (v := z5725) hx hb hr (fun t ht hW => ⟨⟨z5725, (), rfl, trivial, (by show va_P _ _ _ t.heap; rw [ht]; exact hP9)⟩, hS.F ht⟩) hS.2.2 dX12_late_22
set_option maxHeartbeats 8000000 in
set_option maxRecDepth 100000 in
theorem c_X12_asks (l : Launch) (dC : Nat → ClassId) (dI : Nat → Nat → Nat) (g : Nat → Nat) (c : Nat → ClassId) (adK adV : Nat → Nat) (v : Nat → Int32) (F : Nat → Nat → Int32) (rc sz : Nat) (p0 : Int32) (p1 : Int32) (hg : injM g) (hI : IM v F) (h0 : 0 ≤ p0.toInt ∧ p0.toInt ≤ 19) (h1 : 0 ≤ p1.toInt ∧ p1.toInt ≤ 9) : Met l yX12_asks (Cond.code yX12_asks cX12_asks 3 (some .boolean) :: wA) ({ frames := 1, cells := 0, slots := 0, locals := 40 }) (va_Pc [.ref (g 0), .int p0, .int p1] (PM dC dI g c adK adV v F rc sz)) (va_Qi (fun (r : Int32) (u : Unit) => 0 ≤ r.toInt ∧ r.toInt ≤ 1) (fun (_ : Unit) => BM dC dI g c (v, F, rc)) (AM g sz)) 0 0 (AM g sz) := by
  refine Met.ofW (cc := cX12_asks) (maxL := 3) (ret := (some .boolean)) (by decide) rfl ?_
  intro p e s m args below meth c0 s₁ B hml hv
  obtain ⟨rfl, hsz, hP, hK, hE⟩ := hv
  have hx := B.exec
  have hb := B.bytes
  have hr := B.returns
  have hts := atoms_spec (ws := Cond.code yX12_asks cX12_asks 3 (some .boolean) :: wA) B.pre
  have hwd : ∀ w ∈ wA, w.before _ s = true := fun w h => hts w (List.mem_cons_of_mem _ h)
  have hown : s.vm.findClass RX12 = some m.cls := findClass_of_methodNamed B.named
  have hlocks := B.notSynchronized
  subst hsz
  have hl := lv_entry ([.ref (g 0), .int p0, .int p1]) (n := 3) (Nat.le_of_ble_eq_true rfl)
  rw [lg_entry_eq]
  generalize (lg_sl ([.ref (g 0), .int p0, .int p1]) ++ List.replicate (3 - (lg_sl ([.ref (g 0), .int p0, .int p1])).length) Slot.unset).toArray = ls at hl ⊢
  have hl : lv_has ls 3 [(0, .ref (g 0)), (1, .int p0), (2, .int p1)] := hl
  obtain ⟨H, eH⟩ : ∃ z, z = s.heap := ⟨_, rfl⟩
  have hP : va_P (dC, dI) classes (wM g c v F rc) H := by rw [eH]; exact hP
  have hS : va_S (AM g s.heap.size) s.heap H [] := by rw [eH]; exact va_S.rf
  refine my_heap eH ?_
  have rp0 := i32_rng p0
  have rp1 := i32_rng p1
  refine lv_aload_n hx hb dX12_asks_0 rfl (lv_at hl 0 rfl) ?_
  refine va_get (D := (dC, dI)) (ci := 12) (v := .ref (g 9)) (C := RX12) (T := TX12) (N := 63) hx hb hwd inA_X12 hown hK hP 0 rfl rfl 12 (by decide) (hwd _ wk_190) (fun _ h9 => h9) rfl dX12_asks_1 ?_
  refine lv_bipush (v := 10) hx hb dX12_asks_4 (by decide) ?_
  refine lv_iload_n hx hb dX12_asks_6 rfl (lv_at hl 2 rfl) ?_
  refine lv_imul hx hb dX12_asks_7 ?_
  refine lv_topi (fun z5728 e5729 => ?_)
  try (have t5730 := tmul e5729 (a := 10) (by decide) (b := p1.toInt) rfl (by omega))
  refine lv_aload_n hx hb dX12_asks_8 rfl (lv_at hl 0 rfl) ?_
  refine va_get (D := (dC, dI)) (ci := 12) (v := .ref (g 32)) (C := RX12) (T := TX12) (N := 63) hx hb hwd inA_X12 hown hK hP 0 rfl rfl 46 (by decide) (hwd _ wk_214) (fun _ h9 => h9) rfl dX12_asks_9 ?_
  refine lv_iload_n hx hb dX12_asks_12 rfl (lv_at hl 1 rfl) ?_
  refine va_iald hx hb hK hP 32 31 rfl rfl (i := p0) (vin (a := p0.toInt) rfl (by omega)) dX12_asks_13 ?_
  refine lv_topi (fun z5731 e5732 => ?_)
  have t5733 : 0 ≤ z5731.toInt ∧ z5731.toInt ≤ 9 := by rw [e5732]; exact hI.2 32 _ _ rfl _
  refine lv_iadd hx hb dX12_asks_14 ?_
  refine lv_topi (fun z5734 e5735 => ?_)
  try (have t5736 := tadd e5735 (a := z5728.toInt) rfl (b := z5731.toInt) rfl (by omega))
  refine va_iald hx hb hK hP 9 8 rfl rfl (i := z5734) (vin (a := z5734.toInt) rfl (by omega)) dX12_asks_15 ?_
  refine lv_topi (fun z5737 e5738 => ?_)
  refine lv_if_le (tgt := 23) hx hb dX12_asks_16 (by decide) (fun c5739 => ?_) (fun c5739 => ?_)
  · skip
    have t5740 := cv_le (a := z5737.toInt) rfl (b := 0) (by decide) c5739
    refine lv_iconst (v := 0) hx hb dX12_asks_23 (by decide) ?_
    have hP9 : va_P (dC, dI) classes (wM g c v F rc) H := hP
    exact W.zret (v := 0) hx hb hr (rfl) (fun t ht hW => ⟨⟨0, (), rfl, by have : (0 : Int32).toInt = 0 := (by decide); omega, (by show va_P _ _ _ t.heap; rw [ht]; exact hP9)⟩, hS.F ht⟩) hS.2.2 dX12_asks_24
  · skip
    have t5741 := cv_nle (a := z5737.toInt) rfl (b := 0) (by decide) c5739
    refine lv_iconst (v := 1) hx hb dX12_asks_19 (by decide) ?_
    refine lv_goto (tgt := 24) hx hb dX12_asks_20 (by decide) ?_
    have hP9 : va_P (dC, dI) classes (wM g c v F rc) H := hP
    exact W.zret (v := 1) hx hb hr (rfl) (fun t ht hW => ⟨⟨1, (), rfl, by have : (1 : Int32).toInt = 1 := (by decide); omega, (by show va_P _ _ _ t.heap; rw [ht]; exact hP9)⟩, hS.F ht⟩) hS.2.2 dX12_asks_24
set_option maxHeartbeats 8000000 in
set_option maxRecDepth 100000 in
theorem c_X12_done (l : Launch) (dC : Nat → ClassId) (dI : Nat → Nat → Nat) (g : Nat → Nat) (c : Nat → ClassId) (adK adV : Nat → Nat) (v : Nat → Int32) (F : Nat → Nat → Int32) (rc sz : Nat) (p0 : Int32) (p1 : Int32) (hg : injM g) (hI : IM v F) : Met l yX12_done (Cond.code yX12_done cX12_done 3 (some .int) :: wA) ({ frames := 3, cells := 0, slots := 0, locals := 120 }) (va_Pc [.ref (g 0), .int p0, .int p1] (PM dC dI g c adK adV v F rc sz)) (va_Qi (fun (r : Int32) (u : StM) => IM u.1 u.2.1 ∧ u.2.2 = rc ∧ (∀ k, k ∉ ([] : List Nat) → u.1 k = v k) ∧ (∀ k, k ∉ ([34] : List Nat) → u.2.1 k = F k) ∧ True) (BM dC dI g c) (AM g sz)) 0 0 (AM g sz) := by
  refine Met.ofW (cc := cX12_done) (maxL := 3) (ret := (some .int)) (by decide) rfl ?_
  intro p e s m args below meth c0 s₁ B hml hv
  obtain ⟨rfl, hsz, hP, hK, hE⟩ := hv
  have hx := B.exec
  have hb := B.bytes
  have hr := B.returns
  have hts := atoms_spec (ws := Cond.code yX12_done cX12_done 3 (some .int) :: wA) B.pre
  have hwd : ∀ w ∈ wA, w.before _ s = true := fun w h => hts w (List.mem_cons_of_mem _ h)
  have hown : s.vm.findClass RX12 = some m.cls := findClass_of_methodNamed B.named
  have hlocks := B.notSynchronized
  subst hsz
  have hl := lv_entry ([.ref (g 0), .int p0, .int p1]) (n := 3) (Nat.le_of_ble_eq_true rfl)
  rw [lg_entry_eq]
  generalize (lg_sl ([.ref (g 0), .int p0, .int p1]) ++ List.replicate (3 - (lg_sl ([.ref (g 0), .int p0, .int p1])).length) Slot.unset).toArray = ls at hl ⊢
  have hl : lv_has ls 3 [(0, .ref (g 0)), (1, .int p0), (2, .int p1)] := hl
  obtain ⟨H, eH⟩ : ∃ z, z = s.heap := ⟨_, rfl⟩
  have hP : va_P (dC, dI) classes (wM g c v F rc) H := by rw [eH]; exact hP
  have hS : va_S (AM g s.heap.size) s.heap H [] := by rw [eH]; exact va_S.rf
  refine my_heap eH ?_
  have hF : ∀ k, k ∉ ([34] : List Nat) → F k = F k := fun _ _ => rfl
  have rp0 := i32_rng p0
  have rp1 := i32_rng p1
  refine lv_iload_n hx hb dX12_done_0 rfl (lv_at hl 1 rfl) ?_
  refine lv_iconst (v := 0) hx hb dX12_done_1 (by decide) ?_
  refine lv_aload_n hx hb dX12_done_2 rfl (lv_at hl 0 rfl) ?_
  refine va_get (D := (dC, dI)) (ci := 12) (v := .int (v 45)) (C := RX12) (T := TX12) (N := 63) hx hb hwd inA_X12 hown hK hP 0 rfl rfl 45 (by decide) (hwd _ wk_485) (fun _ h9 => h9) rfl dX12_done_3 ?_
  have t5778 : 0 ≤ (v 45).toInt ∧ (v 45).toInt ≤ 20 := hI.1 45 _ _ rfl
  refine lv_iconst (v := 1) hx hb dX12_done_6 (by decide) ?_
  refine lv_isub hx hb dX12_done_7 ?_
  refine lv_topi (fun z5779 e5780 => ?_)
  try (have t5781 := tsub e5780 (a := (v 45).toInt) rfl (b := 1) (by decide) (by omega))
  refine va_calli (va_runS (As := [.int p0, .int 0, .int z5779]) (rest := []) ⟨hx, hb, hml, hown, hwd⟩ (c_X12_in l dC dI g c adK adV v F rc H.size p0 0 z5779 hg hI ) (va_cwS 3 hwd (gT wk_254 wk_252 wk_253 wk_5) rfl rfl rfl (by decide +kernel) ⟨Nat.le_of_ble_eq_true rfl, Nat.le_of_ble_eq_true rfl⟩) ⟨PM.blind, fun U hU hW => ⟨rfl, PM.at hK hE hP hS hU hW⟩⟩ rfl rfl hl.1 rfl (lv_room (Nat.le_of_ble_eq_true rfl)) dX12_done_8 ⟨Nat.le_of_ble_eq_true rfl, Nat.le_of_ble_eq_true rfl⟩) hS (fun q _ h => (freeM hS) q h) (freeM hS) (fun r5782 u t H1 locs ht hvm hw hB hz1 hk1 hS => ?_)
  unfold BM at hB
  rw [ht] at hB
  have hP : va_P (dC, dI) classes (wM g c v F rc) H1 := hB
  have hw_r5782 : (r5782.toInt = 1 ∧ (0 : Int32).toInt ≤ p0.toInt ∧ p0.toInt ≤ z5779.toInt) ∨ (r5782.toInt = 0 ∧ (p0.toInt < (0 : Int32).toInt ∨ z5779.toInt < p0.toInt)) := hw
  clear hw
  have k5783 : (0 : Int32).toInt = 0 := by decide
  clear hz1
  generalize H1 = H at hP hS ⊢
  refine lv_if_eq (tgt := 22) hx hb dX12_done_11 (by decide) (fun c5784 => ?_) (fun c5784 => ?_)
  · skip
    have t5785 := cv_eq (a := r5782.toInt) rfl (b := 0) (by decide) c5784
    refine lv_iconst (v := (-1)) hx hb dX12_done_22 (by decide) ?_
    have hP9 : va_P (dC, dI) classes (wM g c v F rc) H := hP
    exact W.iret (v := (-1)) hx hb hr (fun t ht hW => ⟨⟨(-1), (v, F, rc), rfl, ⟨hI, rfl, (fun _ _ => rfl), hF, trivial⟩, (by show va_P _ _ _ t.heap; rw [ht]; exact hP9)⟩, hS.F ht⟩) hS.2.2 dX12_done_23
  · skip
    have t5786 := cv_ne (a := r5782.toInt) rfl (b := 0) (by decide) c5784
    refine lv_aload_n hx hb dX12_done_14 rfl (lv_at hl 0 rfl) ?_
    refine lv_iload_n hx hb dX12_done_15 rfl (lv_at hl 2 rfl) ?_
    have t5787 : 0 ≤ (v 6).toInt ∧ (v 6).toInt ≤ 10 := hI.1 6 _ _ rfl
    refine va_calli (va_runV (As := [.int p1]) (rest := []) ⟨hx, hb, hml, hown, hwd⟩ (c_X12_isPlane l dC dI g c adK adV v F rc H.size p1 hg hI ) (cwV 1 hwd (gV wk_305 wk_302 wk_303 wk_304 wk_5) rfl rfl rfl (by decide +kernel) ⟨Nat.le_of_ble_eq_true rfl, Nat.le_of_ble_eq_true rfl⟩) ⟨PM.blind, va_recv hK hP (ci := 12) (q0 := 0) rfl rfl, fun U hU hW => ⟨rfl, PM.at hK hE hP hS hU hW⟩⟩ rfl rfl hl.1 rfl (lv_room (Nat.le_of_ble_eq_true rfl)) dX12_done_16 ⟨Nat.le_of_ble_eq_true rfl, Nat.le_of_ble_eq_true rfl⟩) hS (fun q _ h => (freeM hS) q h) (freeM hS) (fun r5788 u t H1 locs ht hvm hw hB hz1 hk1 hS => ?_)
    unfold BM at hB
    rw [ht] at hB
    have hP : va_P (dC, dI) classes (wM g c v F rc) H1 := hB
    replace hw : (r5788.toInt = 1 ∧ 0 ≤ p1.toInt ∧ p1.toInt < (v 6).toInt) ∨ (r5788.toInt = 0 ∧ (p1.toInt < 0 ∨ (v 6).toInt ≤ p1.toInt)) := hw
    have hw_r5788 := hw
    clear hw
    clear hz1
    generalize H1 = H at hP hS ⊢
    refine lv_if_ne (tgt := 24) hx hb dX12_done_19 (by decide) (fun c5789 => ?_) (fun c5789 => ?_)
    · skip
      have t5790 := cv_ne (a := r5788.toInt) rfl (b := 0) (by decide) c5789
      refine lv_aload_n hx hb dX12_done_24 rfl (lv_at hl 0 rfl) ?_
      refine va_get (D := (dC, dI)) (ci := 12) (v := .ref (g 34)) (C := RX12) (T := TX12) (N := 63) hx hb hwd inA_X12 hown hK hP 0 rfl rfl 48 (by decide) (hwd _ wk_216) (fun _ h9 => h9) rfl dX12_done_25 ?_
      refine lv_bipush (v := 10) hx hb dX12_done_28 (by decide) ?_
      refine lv_iload_n hx hb dX12_done_30 rfl (lv_at hl 1 rfl) ?_
      refine lv_imul hx hb dX12_done_31 ?_
      refine lv_topi (fun z5791 e5792 => ?_)
      try (have t5793 := tmul e5792 (a := 10) (by decide) (b := p0.toInt) rfl (by omega))
      refine lv_iload_n hx hb dX12_done_32 rfl (lv_at hl 2 rfl) ?_
      refine lv_iadd hx hb dX12_done_33 ?_
      refine lv_topi (fun z5794 e5795 => ?_)
      try (have t5796 := tadd e5795 (a := z5791.toInt) rfl (b := p1.toInt) rfl (by omega))
      refine va_zald hx hb hK hP 34 33 rfl rfl (i := z5794) (vin (a := z5794.toInt) rfl (by omega)) dX12_done_34 ?_
      refine lv_topi (fun z5797 e5798 => ?_)
      refine lv_if_ne (tgt := 47) hx hb dX12_done_35 (by decide) (fun c5799 => ?_) (fun c5799 => ?_)
      · skip
        have t5800 := cv_ne (a := z5797.toInt) rfl (b := 0) (by decide) c5799
        refine lv_bipush (v := (-2)) hx hb dX12_done_47 (by decide) ?_
        have hP9 : va_P (dC, dI) classes (wM g c v F rc) H := hP
        exact W.iret (v := (-2)) hx hb hr (fun t ht hW => ⟨⟨(-2), (v, F, rc), rfl, ⟨hI, rfl, (fun _ _ => rfl), hF, trivial⟩, (by show va_P _ _ _ t.heap; rw [ht]; exact hP9)⟩, hS.F ht⟩) hS.2.2 dX12_done_49
      · skip
        have t5801 := cv_eq (a := z5797.toInt) rfl (b := 0) (by decide) c5799
        refine lv_aload_n hx hb dX12_done_38 rfl (lv_at hl 0 rfl) ?_
        refine lv_iload_n hx hb dX12_done_39 rfl (lv_at hl 1 rfl) ?_
        refine lv_iload_n hx hb dX12_done_40 rfl (lv_at hl 2 rfl) ?_
        refine va_calli (va_runV (As := [.int p0, .int p1]) (rest := []) ⟨hx, hb, hml, hown, hwd⟩ (c_X12_asks l dC dI g c adK adV v F rc H.size p0 p1 hg hI (by omega) (by omega)) (cwV 2 hwd (gV wk_520 wk_517 wk_518 wk_519 wk_5) rfl rfl rfl (by decide +kernel) ⟨Nat.le_of_ble_eq_true rfl, Nat.le_of_ble_eq_true rfl⟩) ⟨PM.blind, va_recv hK hP (ci := 12) (q0 := 0) rfl rfl, fun U hU hW => ⟨rfl, PM.at hK hE hP hS hU hW⟩⟩ rfl rfl hl.1 rfl (lv_room (Nat.le_of_ble_eq_true rfl)) dX12_done_41 ⟨Nat.le_of_ble_eq_true rfl, Nat.le_of_ble_eq_true rfl⟩) hS (fun q _ h => (freeM hS) q h) (freeM hS) (fun r5802 u t H1 locs ht hvm hw hB hz1 hk1 hS => ?_)
        unfold BM at hB
        rw [ht] at hB
        have hP : va_P (dC, dI) classes (wM g c v F rc) H1 := hB
        have hw_r5802 : 0 ≤ r5802.toInt ∧ r5802.toInt ≤ 1 := hw
        clear hw
        clear hz1
        generalize H1 = H at hP hS ⊢
        refine lv_if_ne (tgt := 50) hx hb dX12_done_44 (by decide) (fun c5803 => ?_) (fun c5803 => ?_)
        · skip
          have t5804 := cv_ne (a := r5802.toInt) rfl (b := 0) (by decide) c5803
          refine lv_aload_n hx hb dX12_done_50 rfl (lv_at hl 0 rfl) ?_
          refine va_get (D := (dC, dI)) (ci := 12) (v := .ref (g 34)) (C := RX12) (T := TX12) (N := 63) hx hb hwd inA_X12 hown hK hP 0 rfl rfl 48 (by decide) (hwd _ wk_216) (fun _ h9 => h9) rfl dX12_done_51 ?_
          refine lv_bipush (v := 10) hx hb dX12_done_54 (by decide) ?_
          refine lv_iload_n hx hb dX12_done_56 rfl (lv_at hl 1 rfl) ?_
          refine lv_imul hx hb dX12_done_57 ?_
          refine lv_topi (fun z5805 e5806 => ?_)
          try (have t5807 := tmul e5806 (a := 10) (by decide) (b := p0.toInt) rfl (by omega))
          refine lv_iload_n hx hb dX12_done_58 rfl (lv_at hl 2 rfl) ?_
          refine lv_iadd hx hb dX12_done_59 ?_
          refine lv_topi (fun z5808 e5809 => ?_)
          try (have t5810 := tadd e5809 (a := z5805.toInt) rfl (b := p1.toInt) rfl (by omega))
          refine lv_iconst (v := 1) hx hb dX12_done_60 (by decide) ?_
          refine va_zast hx hb hK hP (DM hg) hS 34 33 rfl rfl (i := z5808) (x := 1) (vin (a := z5808.toInt) rfl (by omega)) dX12_done_61 (fun H locs hP _ hS => ?_)
          have hP := va_P_eq (sM_34 g c _ _ _ _) hP
          have hI := IM.store0 hI 34 (z5808 : Int32).toNatClampNeg (vp_nar .boolean 1) rfl
          have hF := frUF (k := 34) (f := upd (F 34) (z5808 : Int32).toNatClampNeg (vp_nar .boolean 1)) (by decide) hF
          have hP : va_P (dC, dI) classes (wM g c v (va_up F 34 (upd (F 34) (z5808 : Int32).toNatClampNeg (vp_nar .boolean 1))) rc) H := hP
          generalize (va_up F 34 (upd (F 34) (z5808 : Int32).toNatClampNeg (vp_nar .boolean 1))) = F5811 at hP hI hF
          refine lv_iconst (v := 1) hx hb dX12_done_62 (by decide) ?_
          have hP9 : va_P (dC, dI) classes (wM g c v F5811 rc) H := hP
          exact W.iret (v := 1) hx hb hr (fun t ht hW => ⟨⟨1, (v, F5811, rc), rfl, ⟨hI, rfl, (fun _ _ => rfl), hF, trivial⟩, (by show va_P _ _ _ t.heap; rw [ht]; exact hP9)⟩, hS.F ht⟩) hS.2.2 dX12_done_63
        · skip
          have t5812 := cv_eq (a := r5802.toInt) rfl (b := 0) (by decide) c5803
          refine lv_bipush (v := (-2)) hx hb dX12_done_47 (by decide) ?_
          have hP9 : va_P (dC, dI) classes (wM g c v F rc) H := hP
          exact W.iret (v := (-2)) hx hb hr (fun t ht hW => ⟨⟨(-2), (v, F, rc), rfl, ⟨hI, rfl, (fun _ _ => rfl), hF, trivial⟩, (by show va_P _ _ _ t.heap; rw [ht]; exact hP9)⟩, hS.F ht⟩) hS.2.2 dX12_done_49
    · skip
      have t5813 := cv_eq (a := r5788.toInt) rfl (b := 0) (by decide) c5789
      refine lv_iconst (v := (-1)) hx hb dX12_done_22 (by decide) ?_
      have hP9 : va_P (dC, dI) classes (wM g c v F rc) H := hP
      exact W.iret (v := (-1)) hx hb hr (fun t ht hW => ⟨⟨(-1), (v, F, rc), rfl, ⟨hI, rfl, (fun _ _ => rfl), hF, trivial⟩, (by show va_P _ _ _ t.heap; rw [ht]; exact hP9)⟩, hS.F ht⟩) hS.2.2 dX12_done_23
set_option maxHeartbeats 8000000 in
set_option maxRecDepth 100000 in
theorem c_X12_board (l : Launch) (dC : Nat → ClassId) (dI : Nat → Nat → Nat) (g : Nat → Nat) (c : Nat → ClassId) (adK adV : Nat → Nat) (v : Nat → Int32) (F : Nat → Nat → Int32) (rc sz : Nat) (p0 : Int32) (hg : injM g) (hI : IM v F) : Met l yX12_board (Cond.code yX12_board cX12_board 3 none :: wA) ({ frames := 1, cells := 0, slots := 0, locals := 40 }) (va_Pc [.ref (g 0), .int p0] (PM dC dI g c adK adV v F rc sz)) (va_Qv (fun (u : StM) => IM u.1 u.2.1 ∧ u.2.2 = rc ∧ (∀ k, k ∉ ([] : List Nat) → u.1 k = v k) ∧ (∀ k, k ∉ ([42] : List Nat) → u.2.1 k = F k) ∧ (∀ j : Nat, (j : Int) < (v 14).toInt → (u.2.1 42 j).toInt ≠ 0 → (F 13 j).toInt = p0.toInt)) (BM dC dI g c) (AM g sz)) 0 0 (AM g sz) := by
  refine Met.ofW (cc := cX12_board) (maxL := 3) (ret := none) (by decide) rfl ?_
  intro p e s m args below meth c0 s₁ B hml hv
  obtain ⟨rfl, hsz, hP, hK, hE⟩ := hv
  have hx := B.exec
  have hb := B.bytes
  have hr := B.returns
  have hts := atoms_spec (ws := Cond.code yX12_board cX12_board 3 none :: wA) B.pre
  have hwd : ∀ w ∈ wA, w.before _ s = true := fun w h => hts w (List.mem_cons_of_mem _ h)
  have hown : s.vm.findClass RX12 = some m.cls := findClass_of_methodNamed B.named
  have hlocks := B.notSynchronized
  subst hsz
  have hl := lv_entry ([.ref (g 0), .int p0]) (n := 3) (Nat.le_of_ble_eq_true rfl)
  rw [lg_entry_eq]
  generalize (lg_sl ([.ref (g 0), .int p0]) ++ List.replicate (3 - (lg_sl ([.ref (g 0), .int p0])).length) Slot.unset).toArray = ls at hl ⊢
  have hl : lv_has ls 3 [(0, .ref (g 0)), (1, .int p0)] := hl
  obtain ⟨H, eH⟩ : ∃ z, z = s.heap := ⟨_, rfl⟩
  have hP : va_P (dC, dI) classes (wM g c v F rc) H := by rw [eH]; exact hP
  have hS : va_S (AM g s.heap.size) s.heap H [] := by rw [eH]; exact va_S.rf
  refine my_heap eH ?_
  have hF : ∀ k, k ∉ ([42] : List Nat) → F k = F k := fun _ _ => rfl
  have rp0 := i32_rng p0
  refine lv_iconst (v := 0) hx hb dX12_board_0 (by decide) ?_
  refine lv_istore_n (lv' := [(2, .int 0), (0, .ref (g 0)), (1, .int p0)]) hx hb dX12_board_1 rfl hl (by decide) rfl (fun ls hl => ?_)
  have lp5839 : ∀ (n : Nat) (x2_lp5839 : Int32) (v_lp5839 : Nat → Int32) (F_lp5839 : Nat → Nat → Int32) (H : Heap) (locs : List Loc) (ls : Array Slot), (0 ≤ x2_lp5839.toInt) → (∀ j : Nat, (j : Int) < x2_lp5839.toInt → (F_lp5839 42 j).toInt ≠ 0 → (F 13 j).toInt = p0.toInt) → (2147483648 - x2_lp5839.toInt ≤ (n : Int)) → (∀ k, k ∉ ([] : List Nat) → v_lp5839 k = v k) → IM v_lp5839 F_lp5839 → (∀ k, k ∉ ([42] : List Nat) → F_lp5839 k = F k) → va_P (dC, dI) classes (wM g c v_lp5839 F_lp5839 rc) H → va_S (AM g s.heap.size) s.heap H locs → lv_has ls 3 [(2, .int x2_lp5839), (0, .ref (g 0)), (1, .int p0)] → W p l e (headSpec (Cond.code yX12_board cX12_board 3 none :: wA) ({ frames := 1, cells := 0, slots := 0, locals := 40 })).room s m ([.ref (g 0), .int p0] : List Value).toArray below meth c0 H locs 0 0 (MQ below (va_Qv (fun (u : StM) => IM u.1 u.2.1 ∧ u.2.2 = rc ∧ (∀ k, k ∉ ([] : List Nat) → u.1 k = v k) ∧ (∀ k, k ∉ ([42] : List Nat) → u.2.1 k = F k) ∧ (∀ j : Nat, (j : Int) < (v 14).toInt → (u.2.1 42 j).toInt ≠ 0 → (F 13 j).toInt = p0.toInt)) (BM dC dI g c) (AM g s.heap.size)) ([.ref (g 0), .int p0] : List Value).toArray s 0 0 (AM g s.heap.size)) (F0 m 2 ls []) := by
    intro n
    induction n with
    | zero =>
      intro x2_lp5839 v_lp5839 F_lp5839 H locs ls t5840 t5841 hm hf_lp5839 hI hF hP hS hl
      exfalso
      have := i32_rng x2_lp5839
      have hI1 := hI.1
      omega
    | succ n ih_lp5839 =>
      intro x2_lp5839 v_lp5839 F_lp5839 H locs ls t5840 t5841 hm hf_lp5839 hI hF hP hS hl
      have rx2_lp5839 := i32_rng x2_lp5839
      refine lv_iload_n hx hb dX12_board_2 rfl (lv_at hl 0 rfl) ?_
      refine lv_aload_n hx hb dX12_board_3 rfl (lv_at hl 1 rfl) ?_
      refine va_get (D := (dC, dI)) (ci := 12) (v := .int (v_lp5839 14)) (C := RX12) (T := TX12) (N := 63) hx hb hwd inA_X12 hown hK hP 0 rfl rfl 14 (by decide) (hwd _ wk_318) (fun _ h9 => h9) rfl dX12_board_4 ?_
      refine my_top (v := v 14) (hf_lp5839 14 (by decide)) ?_
      have t5842 : 0 ≤ (v 14).toInt ∧ (v 14).toInt ≤ 100 := by have h9 := hI.1 14 _ _ rfl; rw [show v_lp5839 14 = v 14 from hf_lp5839 14 (by decide)] at h9; exact h9
      refine lv_icmp_ge (tgt := 37) hx hb dX12_board_7 (by decide) (fun c5843 => ?_) (fun c5843 => ?_)
      · skip
        have t5844 := cv_le (a := (v 14).toInt) rfl (b := x2_lp5839.toInt) rfl c5843
        have hP9 : va_P (dC, dI) classes (wM g c v_lp5839 F_lp5839 rc) H := hP
        exact W.vret hx hb hr (fun t ht hW => ⟨⟨(v_lp5839, F_lp5839, rc), rfl, ⟨hI, rfl, (frC (by decide) hf_lp5839 (fun _ _ => rfl)), hF, (fun j h1 h2 => t5841 j (by have h9 : v_lp5839 14 = v 14 := hf_lp5839 14 (by decide); omega) h2)⟩, (by show va_P _ _ _ t.heap; rw [ht]; exact hP9)⟩, hS.F ht⟩) hS.2.2 dX12_board_37
      · skip
        have t5845 := cv_nle (a := (v 14).toInt) rfl (b := x2_lp5839.toInt) rfl c5843
        refine lv_aload_n hx hb dX12_board_10 rfl (lv_at hl 1 rfl) ?_
        refine va_get (D := (dC, dI)) (ci := 12) (v := .ref (g 42)) (C := RX12) (T := TX12) (N := 63) hx hb hwd inA_X12 hown hK hP 0 rfl rfl 56 (by decide) (hwd _ wk_224) (fun _ h9 => h9) rfl dX12_board_11 ?_
        refine lv_iload_n hx hb dX12_board_14 rfl (lv_at hl 0 rfl) ?_
        refine lv_aload_n hx hb dX12_board_15 rfl (lv_at hl 1 rfl) ?_
        refine va_get (D := (dC, dI)) (ci := 12) (v := .ref (g 13)) (C := RX12) (T := TX12) (N := 63) hx hb hwd inA_X12 hown hK hP 0 rfl rfl 17 (by decide) (hwd _ wk_194) (fun _ h9 => h9) rfl dX12_board_16 ?_
        refine lv_iload_n hx hb dX12_board_19 rfl (lv_at hl 0 rfl) ?_
        refine va_iald hx hb hK hP 13 12 rfl rfl (i := x2_lp5839) (vin (a := x2_lp5839.toInt) rfl (by omega)) dX12_board_20 ?_
        refine lv_topi (fun z5846 e5847 => ?_)
        have t5848 : 0 ≤ z5846.toInt ∧ z5846.toInt ≤ 12 := by rw [e5847]; exact hI.2 13 _ _ rfl _
        have e5847 : z5846 = F 13 (x2_lp5839 : Int32).toNatClampNeg := e5847.trans (congrFun (hF 13 (by decide)) _)
        have tzz5846 : z5846.toInt = (F 13 (x2_lp5839 : Int32).toNatClampNeg).toInt := congrArg Int32.toInt e5847
        refine lv_iload_n hx hb dX12_board_21 rfl (lv_at hl 2 rfl) ?_
        refine lv_icmp_ne (tgt := 29) hx hb dX12_board_22 (by decide) (fun c5849 => ?_) (fun c5849 => ?_)
        · skip
          have t5850 := cv_ne (a := z5846.toInt) rfl (b := p0.toInt) rfl c5849
          refine lv_iconst (v := 0) hx hb dX12_board_29 (by decide) ?_
          refine va_zast hx hb hK hP (DM hg) hS 42 41 rfl rfl (i := x2_lp5839) (x := 0) (vin (a := x2_lp5839.toInt) rfl (by omega)) dX12_board_30 (fun H locs hP _ hS => ?_)
          have hP := va_P_eq (sM_42 g c _ _ _ _) hP
          have hI := IM.store0 hI 42 (x2_lp5839 : Int32).toNatClampNeg (vp_nar .boolean 0) rfl
          have hF := frUF (k := 42) (f := upd (F_lp5839 42) (x2_lp5839 : Int32).toNatClampNeg (vp_nar .boolean 0)) (by decide) hF
          have st5852 : (va_up F_lp5839 42 (upd (F_lp5839 42) (x2_lp5839 : Int32).toNatClampNeg (vp_nar .boolean 0))) 42 = upd (F_lp5839 42) (x2_lp5839 : Int32).toNatClampNeg (vp_nar .boolean 0) := va_up_self _ _ _
          have sn5853 : ∀ k9, k9 ≠ 42 → (va_up F_lp5839 42 (upd (F_lp5839 42) (x2_lp5839 : Int32).toNatClampNeg (vp_nar .boolean 0))) k9 = F_lp5839 k9 := fun k9 h9 => va_up_ne _ _ h9
          have hP : va_P (dC, dI) classes (wM g c v_lp5839 (va_up F_lp5839 42 (upd (F_lp5839 42) (x2_lp5839 : Int32).toNatClampNeg (vp_nar .boolean 0))) rc) H := hP
          generalize (va_up F_lp5839 42 (upd (F_lp5839 42) (x2_lp5839 : Int32).toNatClampNeg (vp_nar .boolean 0))) = F5851 at hP hI hF st5852 sn5853
          obtain ⟨z5854, e5855⟩ : ∃ y : Int32, y = x2_lp5839 + 1 := ⟨_, rfl⟩
          try (have t5856 := tadd e5855 rfl (b := 1) (by decide) (by omega))
          refine lv_iinc (v := z5854) (lv' := [(2, .int z5854), (0, .ref (g 0)), (1, .int p0)]) hx hb dX12_board_31 hl (k := 0) rfl (by rw [e5855]; rfl) (by decide) rfl (fun ls hl => ?_)
          refine lv_goto (tgt := 2) hx hb dX12_board_34 (by decide) ?_
          exact ih_lp5839 z5854 v_lp5839 F5851 _ _ _ (by omega) (bd_step (by omega) st5852 t5841 (by first | exact (fun _ => by omega) | exact (fun h => absurd (by decide) h))) (by omega) hf_lp5839 hI hF hP hS (lv_sub hl [0, 1, 2] rfl)
        · skip
          have t5857 := cv_eq (a := z5846.toInt) rfl (b := p0.toInt) rfl c5849
          refine lv_iconst (v := 1) hx hb dX12_board_25 (by decide) ?_
          refine lv_goto (tgt := 30) hx hb dX12_board_26 (by decide) ?_
          refine va_zast hx hb hK hP (DM hg) hS 42 41 rfl rfl (i := x2_lp5839) (x := 1) (vin (a := x2_lp5839.toInt) rfl (by omega)) dX12_board_30 (fun H locs hP _ hS => ?_)
          have hP := va_P_eq (sM_42 g c _ _ _ _) hP
          have hI := IM.store0 hI 42 (x2_lp5839 : Int32).toNatClampNeg (vp_nar .boolean 1) rfl
          have hF := frUF (k := 42) (f := upd (F_lp5839 42) (x2_lp5839 : Int32).toNatClampNeg (vp_nar .boolean 1)) (by decide) hF
          have st5859 : (va_up F_lp5839 42 (upd (F_lp5839 42) (x2_lp5839 : Int32).toNatClampNeg (vp_nar .boolean 1))) 42 = upd (F_lp5839 42) (x2_lp5839 : Int32).toNatClampNeg (vp_nar .boolean 1) := va_up_self _ _ _
          have sn5860 : ∀ k9, k9 ≠ 42 → (va_up F_lp5839 42 (upd (F_lp5839 42) (x2_lp5839 : Int32).toNatClampNeg (vp_nar .boolean 1))) k9 = F_lp5839 k9 := fun k9 h9 => va_up_ne _ _ h9
          have hP : va_P (dC, dI) classes (wM g c v_lp5839 (va_up F_lp5839 42 (upd (F_lp5839 42) (x2_lp5839 : Int32).toNatClampNeg (vp_nar .boolean 1))) rc) H := hP
          generalize (va_up F_lp5839 42 (upd (F_lp5839 42) (x2_lp5839 : Int32).toNatClampNeg (vp_nar .boolean 1))) = F5858 at hP hI hF st5859 sn5860
          obtain ⟨z5861, e5862⟩ : ∃ y : Int32, y = x2_lp5839 + 1 := ⟨_, rfl⟩
          try (have t5863 := tadd e5862 rfl (b := 1) (by decide) (by omega))
          refine lv_iinc (v := z5861) (lv' := [(2, .int z5861), (0, .ref (g 0)), (1, .int p0)]) hx hb dX12_board_31 hl (k := 0) rfl (by rw [e5862]; rfl) (by decide) rfl (fun ls hl => ?_)
          refine lv_goto (tgt := 2) hx hb dX12_board_34 (by decide) ?_
          exact ih_lp5839 z5861 v_lp5839 F5858 _ _ _ (by omega) (bd_step (by omega) st5859 t5841 (by first | exact (fun _ => by omega) | exact (fun h => absurd (by decide) h))) (by omega) hf_lp5839 hI hF hP hS (lv_sub hl [0, 1, 2] rfl)
  obtain ⟨n9, hn9⟩ : ∃ n : Nat, 2147483648 - 0 ≤ (n : Int) := ⟨((2147483648 - 0 : Int)).toNat, by omega⟩
  exact lp5839 n9 0 v F H _ ls (by have : (0 : Int32).toInt = 0 := (by decide); omega) (fun j h => absurd h (by have : (0 : Int32).toInt = 0 := (by decide); omega)) (by have : (0 : Int32).toInt = 0 := (by decide); omega) (fun _ _ => rfl) hI hF hP hS hl
