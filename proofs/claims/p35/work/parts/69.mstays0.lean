set_option maxHeartbeats 8000000 in
set_option maxRecDepth 100000 in
theorem c_X12_isGap (l : Launch) (dC : Nat → ClassId) (dI : Nat → Nat → Nat) (g : Nat → Nat) (c : Nat → ClassId) (adK adV : Nat → Nat) (v : Nat → Int32) (F : Nat → Nat → Int32) (rc sz : Nat) (p0 : Int32) (hg : injM g) (hI : IM v F) (h0 : 0 ≤ p0.toInt ∧ p0.toInt ≤ 499) : Met l yX12_isGap (Cond.code yX12_isGap cX12_isGap 2 (some .boolean) :: wA) ({ frames := 1, cells := 0, slots := 0, locals := 40 }) (va_Pc [.ref (g 0), .int p0] (PM dC dI g c adK adV v F rc sz)) (va_Qi (fun (r : Int32) (u : Unit) => 0 ≤ r.toInt ∧ r.toInt ≤ 1) (fun (_ : Unit) => BM dC dI g c (v, F, rc)) (AM g sz)) 0 0 (AM g sz) := by
  refine Met.ofW (cc := cX12_isGap) (maxL := 2) (ret := (some .boolean)) (by decide) rfl ?_
  intro p e s m args below meth c0 s₁ B hml hv
  obtain ⟨rfl, hsz, hP, hK, hE⟩ := hv
  have hx := B.exec
  have hb := B.bytes
  have hr := B.returns
  have hts := atoms_spec (ws := Cond.code yX12_isGap cX12_isGap 2 (some .boolean) :: wA) B.pre
  have hwd : ∀ w ∈ wA, w.before _ s = true := fun w h => hts w (List.mem_cons_of_mem _ h)
  have hown : s.vm.findClass RX12 = some m.cls := findClass_of_methodNamed B.named
  have hlocks := B.notSynchronized
  subst hsz
  have hl := lv_entry ([.ref (g 0), .int p0]) (n := 2) (Nat.le_of_ble_eq_true rfl)
  rw [lg_entry_eq]
  generalize (lg_sl ([.ref (g 0), .int p0]) ++ List.replicate (2 - (lg_sl ([.ref (g 0), .int p0])).length) Slot.unset).toArray = ls at hl ⊢
  have hl : lv_has ls 2 [(0, .ref (g 0)), (1, .int p0)] := hl
  obtain ⟨H, eH⟩ : ∃ z, z = s.heap := ⟨_, rfl⟩
  have hP : va_P (dC, dI) classes (wM g c v F rc) H := by rw [eH]; exact hP
  have hS : va_S (AM g s.heap.size) s.heap H [] := by rw [eH]; exact va_S.rf
  refine my_heap eH ?_
  have rp0 := i32_rng p0
  refine lv_aload_n hx hb dX12_isGap_0 rfl (lv_at hl 0 rfl) ?_
  refine va_get (D := (dC, dI)) (ci := 12) (v := .ref (g 18)) (C := RX12) (T := TX12) (N := 63) hx hb hwd inA_X12 hown hK hP 0 rfl rfl 23 (by decide) (hwd _ wk_199) (fun _ h9 => h9) rfl dX12_isGap_1 ?_
  refine lv_iload_n hx hb dX12_isGap_4 rfl (lv_at hl 1 rfl) ?_
  refine va_iald hx hb hK hP 18 17 rfl rfl (i := p0) (vin (a := p0.toInt) rfl (by omega)) dX12_isGap_5 ?_
  refine lv_topi (fun z5319 e5320 => ?_)
  refine lv_ldc (v := 1000000) hx hb hown (hwd _ wk_500) dX12_isGap_6 ?_
  refine lv_icmp_eq (tgt := 24) hx hb dX12_isGap_8 (by decide) (fun c5321 => ?_) (fun c5321 => ?_)
  · skip
    have t5322 := cv_eq (a := z5319.toInt) rfl (b := 1000000) (by decide) c5321
    refine lv_iconst (v := 0) hx hb dX12_isGap_24 (by decide) ?_
    have hP9 : va_P (dC, dI) classes (wM g c v F rc) H := hP
    exact W.zret (v := 0) hx hb hr (rfl) (fun t ht hW => ⟨⟨0, (), rfl, by have : (0 : Int32).toInt = 0 := (by decide); omega, (by show va_P _ _ _ t.heap; rw [ht]; exact hP9)⟩, hS.F ht⟩) hS.2.2 dX12_isGap_25
  · skip
    have t5323 := cv_ne (a := z5319.toInt) rfl (b := 1000000) (by decide) c5321
    refine lv_aload_n hx hb dX12_isGap_11 rfl (lv_at hl 0 rfl) ?_
    refine va_get (D := (dC, dI)) (ci := 12) (v := .ref (g 23)) (C := RX12) (T := TX12) (N := 63) hx hb hwd inA_X12 hown hK hP 0 rfl rfl 28 (by decide) (hwd _ wk_204) (fun _ h9 => h9) rfl dX12_isGap_12 ?_
    refine lv_iload_n hx hb dX12_isGap_15 rfl (lv_at hl 1 rfl) ?_
    refine va_zald hx hb hK hP 23 22 rfl rfl (i := p0) (vin (a := p0.toInt) rfl (by omega)) dX12_isGap_16 ?_
    refine lv_topi (fun z5324 e5325 => ?_)
    refine lv_if_ne (tgt := 24) hx hb dX12_isGap_17 (by decide) (fun c5326 => ?_) (fun c5326 => ?_)
    · skip
      have t5327 := cv_ne (a := z5324.toInt) rfl (b := 0) (by decide) c5326
      refine lv_iconst (v := 0) hx hb dX12_isGap_24 (by decide) ?_
      have hP9 : va_P (dC, dI) classes (wM g c v F rc) H := hP
      exact W.zret (v := 0) hx hb hr (rfl) (fun t ht hW => ⟨⟨0, (), rfl, by have : (0 : Int32).toInt = 0 := (by decide); omega, (by show va_P _ _ _ t.heap; rw [ht]; exact hP9)⟩, hS.F ht⟩) hS.2.2 dX12_isGap_25
    · skip
      have t5328 := cv_eq (a := z5324.toInt) rfl (b := 0) (by decide) c5326
      refine lv_iconst (v := 1) hx hb dX12_isGap_20 (by decide) ?_
      refine lv_goto (tgt := 25) hx hb dX12_isGap_21 (by decide) ?_
      have hP9 : va_P (dC, dI) classes (wM g c v F rc) H := hP
      exact W.zret (v := 1) hx hb hr (rfl) (fun t ht hW => ⟨⟨1, (), rfl, by have : (1 : Int32).toInt = 1 := (by decide); omega, (by show va_P _ _ _ t.heap; rw [ht]; exact hP9)⟩, hS.F ht⟩) hS.2.2 dX12_isGap_25
set_option maxHeartbeats 8000000 in
set_option maxRecDepth 100000 in
theorem c_X12_gapsOf (l : Launch) (dC : Nat → ClassId) (dI : Nat → Nat → Nat) (g : Nat → Nat) (c : Nat → ClassId) (adK adV : Nat → Nat) (v : Nat → Int32) (F : Nat → Nat → Int32) (rc sz : Nat) (p0 : Int32) (hg : injM g) (hI : IM v F) : Met l yX12_gapsOf (Cond.code yX12_gapsOf cX12_gapsOf 4 (some .int) :: wA) ({ frames := 2, cells := 0, slots := 0, locals := 80 }) (va_Pc [.ref (g 0), .int p0] (PM dC dI g c adK adV v F rc sz)) (va_Qi (fun (r : Int32) (u : Unit) => True) (fun (_ : Unit) => BM dC dI g c (v, F, rc)) (AM g sz)) 0 0 (AM g sz) := by
  refine Met.ofW (cc := cX12_gapsOf) (maxL := 4) (ret := (some .int)) (by decide) rfl ?_
  intro p e s m args below meth c0 s₁ B hml hv
  obtain ⟨rfl, hsz, hP, hK, hE⟩ := hv
  have hx := B.exec
  have hb := B.bytes
  have hr := B.returns
  have hts := atoms_spec (ws := Cond.code yX12_gapsOf cX12_gapsOf 4 (some .int) :: wA) B.pre
  have hwd : ∀ w ∈ wA, w.before _ s = true := fun w h => hts w (List.mem_cons_of_mem _ h)
  have hown : s.vm.findClass RX12 = some m.cls := findClass_of_methodNamed B.named
  have hlocks := B.notSynchronized
  subst hsz
  have hl := lv_entry ([.ref (g 0), .int p0]) (n := 4) (Nat.le_of_ble_eq_true rfl)
  rw [lg_entry_eq]
  generalize (lg_sl ([.ref (g 0), .int p0]) ++ List.replicate (4 - (lg_sl ([.ref (g 0), .int p0])).length) Slot.unset).toArray = ls at hl ⊢
  have hl : lv_has ls 4 [(0, .ref (g 0)), (1, .int p0)] := hl
  obtain ⟨H, eH⟩ : ∃ z, z = s.heap := ⟨_, rfl⟩
  have hP : va_P (dC, dI) classes (wM g c v F rc) H := by rw [eH]; exact hP
  have hS : va_S (AM g s.heap.size) s.heap H [] := by rw [eH]; exact va_S.rf
  refine my_heap eH ?_
  have rp0 := i32_rng p0
  refine lv_iconst (v := 0) hx hb dX12_gapsOf_0 (by decide) ?_
  refine lv_istore_n (lv' := [(2, .int 0), (0, .ref (g 0)), (1, .int p0)]) hx hb dX12_gapsOf_1 rfl hl (by decide) rfl (fun ls hl => ?_)
  refine lv_iconst (v := 0) hx hb dX12_gapsOf_2 (by decide) ?_
  refine lv_istore_n (lv' := [(3, .int 0), (2, .int 0), (0, .ref (g 0)), (1, .int p0)]) hx hb dX12_gapsOf_3 rfl hl (by decide) rfl (fun ls hl => ?_)
  have lp5329 : ∀ (n : Nat) (x3_lp5329 : Int32) (x2_lp5329 : Int32) (H : Heap) (locs : List Loc) (ls : Array Slot), (0 ≤ x3_lp5329.toInt) → (2147483648 - x3_lp5329.toInt ≤ (n : Int)) → va_P (dC, dI) classes (wM g c v F rc) H → va_S (AM g s.heap.size) s.heap H locs → lv_has ls 4 [(3, .int x3_lp5329), (2, .int x2_lp5329), (0, .ref (g 0)), (1, .int p0)] → W p l e (headSpec (Cond.code yX12_gapsOf cX12_gapsOf 4 (some .int) :: wA) ({ frames := 2, cells := 0, slots := 0, locals := 80 })).room s m ([.ref (g 0), .int p0] : List Value).toArray below meth c0 H locs 0 0 (MQ below (va_Qi (fun (r : Int32) (u : Unit) => True) (fun (_ : Unit) => BM dC dI g c (v, F, rc)) (AM g s.heap.size)) ([.ref (g 0), .int p0] : List Value).toArray s 0 0 (AM g s.heap.size)) (F0 m 4 ls []) := by
    intro n
    induction n with
    | zero =>
      intro x3_lp5329 x2_lp5329 H locs ls t5330 hm hP hS hl
      exfalso
      have := i32_rng x3_lp5329
      have := i32_rng x2_lp5329
      omega
    | succ n ih_lp5329 =>
      intro x3_lp5329 x2_lp5329 H locs ls t5330 hm hP hS hl
      have rx3_lp5329 := i32_rng x3_lp5329
      have rx2_lp5329 := i32_rng x2_lp5329
      refine lv_iload_n hx hb dX12_gapsOf_4 rfl (lv_at hl 0 rfl) ?_
      refine lv_aload_n hx hb dX12_gapsOf_5 rfl (lv_at hl 2 rfl) ?_
      refine va_get (D := (dC, dI)) (ci := 12) (v := .int (v 19)) (C := RX12) (T := TX12) (N := 63) hx hb hwd inA_X12 hown hK hP 0 rfl rfl 19 (by decide) (hwd _ wk_494) (fun _ h9 => h9) rfl dX12_gapsOf_6 ?_
      have t5331 : 0 ≤ (v 19).toInt ∧ (v 19).toInt ≤ 500 := hI.1 19 _ _ rfl
      refine lv_icmp_ge (tgt := 44) hx hb dX12_gapsOf_9 (by decide) (fun c5332 => ?_) (fun c5332 => ?_)
      · skip
        have t5333 := cv_le (a := (v 19).toInt) rfl (b := x3_lp5329.toInt) rfl c5332
        refine lv_iload_n hx hb dX12_gapsOf_44 rfl (lv_at hl 1 rfl) ?_
        have hP9 : va_P (dC, dI) classes (wM g c v F rc) H := hP
        exact W.iret (v := x2_lp5329) hx hb hr (fun t ht hW => ⟨⟨x2_lp5329, (), rfl, trivial, (by show va_P _ _ _ t.heap; rw [ht]; exact hP9)⟩, hS.F ht⟩) hS.2.2 dX12_gapsOf_45
      · skip
        have t5334 := cv_nle (a := (v 19).toInt) rfl (b := x3_lp5329.toInt) rfl c5332
        refine lv_iload_n hx hb dX12_gapsOf_12 rfl (lv_at hl 1 rfl) ?_
        refine lv_aload_n hx hb dX12_gapsOf_13 rfl (lv_at hl 2 rfl) ?_
        refine va_get (D := (dC, dI)) (ci := 12) (v := .ref (g 15)) (C := RX12) (T := TX12) (N := 63) hx hb hwd inA_X12 hown hK hP 0 rfl rfl 20 (by decide) (hwd _ wk_196) (fun _ h9 => h9) rfl dX12_gapsOf_14 ?_
        refine lv_iload_n hx hb dX12_gapsOf_17 rfl (lv_at hl 0 rfl) ?_
        refine va_iald hx hb hK hP 15 14 rfl rfl (i := x3_lp5329) (vin (a := x3_lp5329.toInt) rfl (by omega)) dX12_gapsOf_18 ?_
        refine lv_topi (fun z5335 e5336 => ?_)
        have t5337 : 0 ≤ z5335.toInt ∧ z5335.toInt ≤ 99 := by rw [e5336]; exact hI.2 15 _ _ rfl _
        refine lv_iload_n hx hb dX12_gapsOf_19 rfl (lv_at hl 3 rfl) ?_
        refine lv_icmp_ne (tgt := 35) hx hb dX12_gapsOf_20 (by decide) (fun c5338 => ?_) (fun c5338 => ?_)
        · skip
          have t5339 := cv_ne (a := z5335.toInt) rfl (b := p0.toInt) rfl c5338
          refine lv_iconst (v := 0) hx hb dX12_gapsOf_35 (by decide) ?_
          refine lv_iadd hx hb dX12_gapsOf_36 ?_
          refine lv_topi (fun z5340 e5341 => ?_)
          try (have t5342 := tadd e5341 (a := x2_lp5329.toInt) rfl (b := 0) (by decide) (by omega))
          refine lv_istore_n (lv' := [(2, .int z5340), (3, .int x3_lp5329), (0, .ref (g 0)), (1, .int p0)]) hx hb dX12_gapsOf_37 rfl hl (by decide) rfl (fun ls hl => ?_)
          obtain ⟨z5343, e5344⟩ : ∃ y : Int32, y = x3_lp5329 + 1 := ⟨_, rfl⟩
          try (have t5345 := tadd e5344 rfl (b := 1) (by decide) (by omega))
          refine lv_iinc (v := z5343) (lv' := [(3, .int z5343), (2, .int z5340), (0, .ref (g 0)), (1, .int p0)]) hx hb dX12_gapsOf_38 hl (k := 1) rfl (by rw [e5344]; rfl) (by decide) rfl (fun ls hl => ?_)
          refine lv_goto (tgt := 4) hx hb dX12_gapsOf_41 (by decide) ?_
          exact ih_lp5329 z5343 z5340  _ _ _ (by omega) (by omega) hP hS (lv_sub hl [0, 1, 2, 3] rfl)
        · skip
          have t5346 := cv_eq (a := z5335.toInt) rfl (b := p0.toInt) rfl c5338
          refine lv_aload_n hx hb dX12_gapsOf_23 rfl (lv_at hl 2 rfl) ?_
          refine lv_iload_n hx hb dX12_gapsOf_24 rfl (lv_at hl 0 rfl) ?_
          refine va_calli (va_runV (As := [.int x3_lp5329]) (rest := [.int x2_lp5329]) ⟨hx, hb, hml, hown, hwd⟩ (c_X12_isGap l dC dI g c adK adV v F rc H.size x3_lp5329 hg hI (by omega)) (cwV 1 hwd (gV wk_499 wk_496 wk_497 wk_498 wk_5) rfl rfl rfl (by decide +kernel) ⟨Nat.le_of_ble_eq_true rfl, Nat.le_of_ble_eq_true rfl⟩) ⟨PM.blind, va_recv hK hP (ci := 12) (q0 := 0) rfl rfl, fun U hU hW => ⟨rfl, PM.at hK hE hP hS hU hW⟩⟩ rfl rfl hl.1 rfl (lv_room (Nat.le_of_ble_eq_true rfl)) dX12_gapsOf_25 ⟨Nat.le_of_ble_eq_true rfl, Nat.le_of_ble_eq_true rfl⟩) hS (fun q _ h => (freeM hS) q h) (freeM hS) (fun r5347 u t H1 locs ht hvm hw hB hz1 hk1 hS => ?_)
          unfold BM at hB
          rw [ht] at hB
          have hP : va_P (dC, dI) classes (wM g c v F rc) H1 := hB
          have hw_r5347 : 0 ≤ r5347.toInt ∧ r5347.toInt ≤ 1 := hw
          clear hw
          clear hz1
          generalize H1 = H at hP hS ⊢
          refine lv_if_eq (tgt := 35) hx hb dX12_gapsOf_28 (by decide) (fun c5348 => ?_) (fun c5348 => ?_)
          · skip
            have t5349 := cv_eq (a := r5347.toInt) rfl (b := 0) (by decide) c5348
            refine lv_iconst (v := 0) hx hb dX12_gapsOf_35 (by decide) ?_
            refine lv_iadd hx hb dX12_gapsOf_36 ?_
            refine lv_topi (fun z5350 e5351 => ?_)
            try (have t5352 := tadd e5351 (a := x2_lp5329.toInt) rfl (b := 0) (by decide) (by omega))
            refine lv_istore_n (lv' := [(2, .int z5350), (3, .int x3_lp5329), (0, .ref (g 0)), (1, .int p0)]) hx hb dX12_gapsOf_37 rfl hl (by decide) rfl (fun ls hl => ?_)
            obtain ⟨z5353, e5354⟩ : ∃ y : Int32, y = x3_lp5329 + 1 := ⟨_, rfl⟩
            try (have t5355 := tadd e5354 rfl (b := 1) (by decide) (by omega))
            refine lv_iinc (v := z5353) (lv' := [(3, .int z5353), (2, .int z5350), (0, .ref (g 0)), (1, .int p0)]) hx hb dX12_gapsOf_38 hl (k := 1) rfl (by rw [e5354]; rfl) (by decide) rfl (fun ls hl => ?_)
            refine lv_goto (tgt := 4) hx hb dX12_gapsOf_41 (by decide) ?_
            exact ih_lp5329 z5353 z5350  _ _ _ (by omega) (by omega) hP hS (lv_sub hl [0, 1, 2, 3] rfl)
          · skip
            have t5356 := cv_ne (a := r5347.toInt) rfl (b := 0) (by decide) c5348
            refine lv_iconst (v := 1) hx hb dX12_gapsOf_31 (by decide) ?_
            refine lv_goto (tgt := 36) hx hb dX12_gapsOf_32 (by decide) ?_
            refine lv_iadd hx hb dX12_gapsOf_36 ?_
            refine lv_topi (fun z5357 e5358 => ?_)
            try (have t5359 := tadd e5358 (a := x2_lp5329.toInt) rfl (b := 1) (by decide) (by omega))
            refine lv_istore_n (lv' := [(2, .int z5357), (3, .int x3_lp5329), (0, .ref (g 0)), (1, .int p0)]) hx hb dX12_gapsOf_37 rfl hl (by decide) rfl (fun ls hl => ?_)
            obtain ⟨z5360, e5361⟩ : ∃ y : Int32, y = x3_lp5329 + 1 := ⟨_, rfl⟩
            try (have t5362 := tadd e5361 rfl (b := 1) (by decide) (by omega))
            refine lv_iinc (v := z5360) (lv' := [(3, .int z5360), (2, .int z5357), (0, .ref (g 0)), (1, .int p0)]) hx hb dX12_gapsOf_38 hl (k := 1) rfl (by rw [e5361]; rfl) (by decide) rfl (fun ls hl => ?_)
            refine lv_goto (tgt := 4) hx hb dX12_gapsOf_41 (by decide) ?_
            exact ih_lp5329 z5360 z5357  _ _ _ (by omega) (by omega) hP hS (lv_sub hl [0, 1, 2, 3] rfl)
  obtain ⟨n9, hn9⟩ : ∃ n : Nat, 2147483648 - 0 ≤ (n : Int) := ⟨((2147483648 - 0 : Int)).toNat, by omega⟩
  exact lp5329 n9 0 0  H _ ls (by have : (0 : Int32).toInt = 0 := (by decide); have : (0 : Int32).toInt = 0 := (by decide); omega) (by have : (0 : Int32).toInt = 0 := (by decide); have : (0 : Int32).toInt = 0 := (by decide); omega) hP hS hl
set_option maxHeartbeats 8000000 in
set_option maxRecDepth 100000 in
theorem c_X12_lastDay (l : Launch) (dC : Nat → ClassId) (dI : Nat → Nat → Nat) (g : Nat → Nat) (c : Nat → ClassId) (adK adV : Nat → Nat) (v : Nat → Int32) (F : Nat → Nat → Int32) (rc sz : Nat) (p0 : Int32) (hg : injM g) (hI : IM v F) (h0 : 0 ≤ p0.toInt ∧ p0.toInt ≤ 499) : Met l yX12_lastDay (Cond.code yX12_lastDay cX12_lastDay 2 (some .int) :: wA) ({ frames := 1, cells := 0, slots := 0, locals := 40 }) (va_Pc [.ref (g 0), .int p0] (PM dC dI g c adK adV v F rc sz)) (va_Qi (fun (r : Int32) (u : Unit) => True) (fun (_ : Unit) => BM dC dI g c (v, F, rc)) (AM g sz)) 0 0 (AM g sz) := by
  refine Met.ofW (cc := cX12_lastDay) (maxL := 2) (ret := (some .int)) (by decide) rfl ?_
  intro p e s m args below meth c0 s₁ B hml hv
  obtain ⟨rfl, hsz, hP, hK, hE⟩ := hv
  have hx := B.exec
  have hb := B.bytes
  have hr := B.returns
  have hts := atoms_spec (ws := Cond.code yX12_lastDay cX12_lastDay 2 (some .int) :: wA) B.pre
  have hwd : ∀ w ∈ wA, w.before _ s = true := fun w h => hts w (List.mem_cons_of_mem _ h)
  have hown : s.vm.findClass RX12 = some m.cls := findClass_of_methodNamed B.named
  have hlocks := B.notSynchronized
  subst hsz
  have hl := lv_entry ([.ref (g 0), .int p0]) (n := 2) (Nat.le_of_ble_eq_true rfl)
  rw [lg_entry_eq]
  generalize (lg_sl ([.ref (g 0), .int p0]) ++ List.replicate (2 - (lg_sl ([.ref (g 0), .int p0])).length) Slot.unset).toArray = ls at hl ⊢
  have hl : lv_has ls 2 [(0, .ref (g 0)), (1, .int p0)] := hl
  obtain ⟨H, eH⟩ : ∃ z, z = s.heap := ⟨_, rfl⟩
  have hP : va_P (dC, dI) classes (wM g c v F rc) H := by rw [eH]; exact hP
  have hS : va_S (AM g s.heap.size) s.heap H [] := by rw [eH]; exact va_S.rf
  refine my_heap eH ?_
  have rp0 := i32_rng p0
  refine lv_aload_n hx hb dX12_lastDay_0 rfl (lv_at hl 0 rfl) ?_
  refine va_get (D := (dC, dI)) (ci := 12) (v := .ref (g 18)) (C := RX12) (T := TX12) (N := 63) hx hb hwd inA_X12 hown hK hP 0 rfl rfl 23 (by decide) (hwd _ wk_199) (fun _ h9 => h9) rfl dX12_lastDay_1 ?_
  refine lv_iload_n hx hb dX12_lastDay_4 rfl (lv_at hl 1 rfl) ?_
  refine va_iald hx hb hK hP 18 17 rfl rfl (i := p0) (vin (a := p0.toInt) rfl (by omega)) dX12_lastDay_5 ?_
  refine lv_topi (fun z5363 e5364 => ?_)
  refine lv_ldc (v := 1000000) hx hb hown (hwd _ wk_500) dX12_lastDay_6 ?_
  refine lv_icmp_ne (tgt := 18) hx hb dX12_lastDay_8 (by decide) (fun c5365 => ?_) (fun c5365 => ?_)
  · skip
    have t5366 := cv_ne (a := z5363.toInt) rfl (b := 1000000) (by decide) c5365
    refine lv_aload_n hx hb dX12_lastDay_18 rfl (lv_at hl 0 rfl) ?_
    refine va_get (D := (dC, dI)) (ci := 12) (v := .ref (g 18)) (C := RX12) (T := TX12) (N := 63) hx hb hwd inA_X12 hown hK hP 0 rfl rfl 23 (by decide) (hwd _ wk_199) (fun _ h9 => h9) rfl dX12_lastDay_19 ?_
    refine lv_iload_n hx hb dX12_lastDay_22 rfl (lv_at hl 1 rfl) ?_
    refine va_iald hx hb hK hP 18 17 rfl rfl (i := p0) (vin (a := p0.toInt) rfl (by omega)) dX12_lastDay_23 ?_
    refine lv_topi (fun z5367 e5368 => ?_)
    have hP9 : va_P (dC, dI) classes (wM g c v F rc) H := hP
    exact W.iret (v := z5367) hx hb hr (fun t ht hW => ⟨⟨z5367, (), rfl, trivial, (by show va_P _ _ _ t.heap; rw [ht]; exact hP9)⟩, hS.F ht⟩) hS.2.2 dX12_lastDay_24
  · skip
    have t5369 := cv_eq (a := z5363.toInt) rfl (b := 1000000) (by decide) c5365
    refine lv_aload_n hx hb dX12_lastDay_11 rfl (lv_at hl 0 rfl) ?_
    refine va_get (D := (dC, dI)) (ci := 12) (v := .int (v 1)) (C := RX12) (T := TX12) (N := 63) hx hb hwd inA_X12 hown hK hP 0 rfl rfl 1 (by decide) (hwd _ wk_332) (fun _ h9 => h9) rfl dX12_lastDay_12 ?_
    have t5370 : 0 ≤ (v 1).toInt ∧ (v 1).toInt ≤ 9999 := hI.1 1 _ _ rfl
    refine lv_goto (tgt := 24) hx hb dX12_lastDay_15 (by decide) ?_
    have hP9 : va_P (dC, dI) classes (wM g c v F rc) H := hP
    exact W.iret (v := v 1) hx hb hr (fun t ht hW => ⟨⟨(v 1), (), rfl, trivial, (by show va_P _ _ _ t.heap; rw [ht]; exact hP9)⟩, hS.F ht⟩) hS.2.2 dX12_lastDay_24
set_option maxHeartbeats 8000000 in
set_option maxRecDepth 100000 in
theorem c_X12_hoursEnd (l : Launch) (dC : Nat → ClassId) (dI : Nat → Nat → Nat) (g : Nat → Nat) (c : Nat → ClassId) (adK adV : Nat → Nat) (v : Nat → Int32) (F : Nat → Nat → Int32) (rc sz : Nat) (p0 : Int32) (hg : injM g) (hI : IM v F) (h0 : 0 ≤ p0.toInt ∧ p0.toInt ≤ 499) : Met l yX12_hoursEnd (Cond.code yX12_hoursEnd cX12_hoursEnd 2 (some .int) :: wA) ({ frames := 1, cells := 0, slots := 0, locals := 40 }) (va_Pc [.ref (g 0), .int p0] (PM dC dI g c adK adV v F rc sz)) (va_Qi (fun (r : Int32) (u : Unit) => True) (fun (_ : Unit) => BM dC dI g c (v, F, rc)) (AM g sz)) 0 0 (AM g sz) := by
  refine Met.ofW (cc := cX12_hoursEnd) (maxL := 2) (ret := (some .int)) (by decide) rfl ?_
  intro p e s m args below meth c0 s₁ B hml hv
  obtain ⟨rfl, hsz, hP, hK, hE⟩ := hv
  have hx := B.exec
  have hb := B.bytes
  have hr := B.returns
  have hts := atoms_spec (ws := Cond.code yX12_hoursEnd cX12_hoursEnd 2 (some .int) :: wA) B.pre
  have hwd : ∀ w ∈ wA, w.before _ s = true := fun w h => hts w (List.mem_cons_of_mem _ h)
  have hown : s.vm.findClass RX12 = some m.cls := findClass_of_methodNamed B.named
  have hlocks := B.notSynchronized
  subst hsz
  have hl := lv_entry ([.ref (g 0), .int p0]) (n := 2) (Nat.le_of_ble_eq_true rfl)
  rw [lg_entry_eq]
  generalize (lg_sl ([.ref (g 0), .int p0]) ++ List.replicate (2 - (lg_sl ([.ref (g 0), .int p0])).length) Slot.unset).toArray = ls at hl ⊢
  have hl : lv_has ls 2 [(0, .ref (g 0)), (1, .int p0)] := hl
  obtain ⟨H, eH⟩ : ∃ z, z = s.heap := ⟨_, rfl⟩
  have hP : va_P (dC, dI) classes (wM g c v F rc) H := by rw [eH]; exact hP
  have hS : va_S (AM g s.heap.size) s.heap H [] := by rw [eH]; exact va_S.rf
  refine my_heap eH ?_
  have rp0 := i32_rng p0
  refine lv_aload_n hx hb dX12_hoursEnd_0 rfl (lv_at hl 0 rfl) ?_
  refine va_get (D := (dC, dI)) (ci := 12) (v := .ref (g 18)) (C := RX12) (T := TX12) (N := 63) hx hb hwd inA_X12 hown hK hP 0 rfl rfl 23 (by decide) (hwd _ wk_199) (fun _ h9 => h9) rfl dX12_hoursEnd_1 ?_
  refine lv_iload_n hx hb dX12_hoursEnd_4 rfl (lv_at hl 1 rfl) ?_
  refine va_iald hx hb hK hP 18 17 rfl rfl (i := p0) (vin (a := p0.toInt) rfl (by omega)) dX12_hoursEnd_5 ?_
  refine lv_topi (fun z5371 e5372 => ?_)
  refine lv_ldc (v := 1000000) hx hb hown (hwd _ wk_500) dX12_hoursEnd_6 ?_
  refine lv_icmp_ne (tgt := 27) hx hb dX12_hoursEnd_8 (by decide) (fun c5373 => ?_) (fun c5373 => ?_)
  · skip
    have t5374 := cv_ne (a := z5371.toInt) rfl (b := 1000000) (by decide) c5373
    refine lv_aload_n hx hb dX12_hoursEnd_27 rfl (lv_at hl 0 rfl) ?_
    refine va_get (D := (dC, dI)) (ci := 12) (v := .ref (g 20)) (C := RX12) (T := TX12) (N := 63) hx hb hwd inA_X12 hown hK hP 0 rfl rfl 25 (by decide) (hwd _ wk_201) (fun _ h9 => h9) rfl dX12_hoursEnd_28 ?_
    refine lv_iload_n hx hb dX12_hoursEnd_31 rfl (lv_at hl 1 rfl) ?_
    refine va_iald hx hb hK hP 20 19 rfl rfl (i := p0) (vin (a := p0.toInt) rfl (by omega)) dX12_hoursEnd_32 ?_
    refine lv_topi (fun z5375 e5376 => ?_)
    have hP9 : va_P (dC, dI) classes (wM g c v F rc) H := hP
    exact W.iret (v := z5375) hx hb hr (fun t ht hW => ⟨⟨z5375, (), rfl, trivial, (by show va_P _ _ _ t.heap; rw [ht]; exact hP9)⟩, hS.F ht⟩) hS.2.2 dX12_hoursEnd_33
  · skip
    have t5377 := cv_eq (a := z5371.toInt) rfl (b := 1000000) (by decide) c5373
    refine lv_aload_n hx hb dX12_hoursEnd_11 rfl (lv_at hl 0 rfl) ?_
    refine va_get (D := (dC, dI)) (ci := 12) (v := .ref (g 14)) (C := RX12) (T := TX12) (N := 63) hx hb hwd inA_X12 hown hK hP 0 rfl rfl 18 (by decide) (hwd _ wk_195) (fun _ h9 => h9) rfl dX12_hoursEnd_12 ?_
    refine lv_iconst (v := 3) hx hb dX12_hoursEnd_15 (by decide) ?_
    refine lv_aload_n hx hb dX12_hoursEnd_16 rfl (lv_at hl 0 rfl) ?_
    refine va_get (D := (dC, dI)) (ci := 12) (v := .ref (g 15)) (C := RX12) (T := TX12) (N := 63) hx hb hwd inA_X12 hown hK hP 0 rfl rfl 20 (by decide) (hwd _ wk_196) (fun _ h9 => h9) rfl dX12_hoursEnd_17 ?_
    refine lv_iload_n hx hb dX12_hoursEnd_20 rfl (lv_at hl 1 rfl) ?_
    refine va_iald hx hb hK hP 15 14 rfl rfl (i := p0) (vin (a := p0.toInt) rfl (by omega)) dX12_hoursEnd_21 ?_
    refine lv_topi (fun z5378 e5379 => ?_)
    have t5380 : 0 ≤ z5378.toInt ∧ z5378.toInt ≤ 99 := by rw [e5379]; exact hI.2 15 _ _ rfl _
    refine lv_imul hx hb dX12_hoursEnd_22 ?_
    refine lv_topi (fun z5381 e5382 => ?_)
    try (have t5383 := tmul e5382 (a := 3) (by decide) (b := z5378.toInt) rfl (by omega))
    refine va_iald hx hb hK hP 14 13 rfl rfl (i := z5381) (vin (a := z5381.toInt) rfl (by omega)) dX12_hoursEnd_23 ?_
    refine lv_topi (fun z5384 e5385 => ?_)
    refine lv_goto (tgt := 33) hx hb dX12_hoursEnd_24 (by decide) ?_
    have hP9 : va_P (dC, dI) classes (wM g c v F rc) H := hP
    exact W.iret (v := z5384) hx hb hr (fun t ht hW => ⟨⟨z5384, (), rfl, trivial, (by show va_P _ _ _ t.heap; rw [ht]; exact hP9)⟩, hS.F ht⟩) hS.2.2 dX12_hoursEnd_33
set_option maxHeartbeats 8000000 in
set_option maxRecDepth 100000 in
theorem c_X12_landingsEnd (l : Launch) (dC : Nat → ClassId) (dI : Nat → Nat → Nat) (g : Nat → Nat) (c : Nat → ClassId) (adK adV : Nat → Nat) (v : Nat → Int32) (F : Nat → Nat → Int32) (rc sz : Nat) (p0 : Int32) (hg : injM g) (hI : IM v F) (h0 : 0 ≤ p0.toInt ∧ p0.toInt ≤ 499) : Met l yX12_landingsEnd (Cond.code yX12_landingsEnd cX12_landingsEnd 2 (some .int) :: wA) ({ frames := 1, cells := 0, slots := 0, locals := 40 }) (va_Pc [.ref (g 0), .int p0] (PM dC dI g c adK adV v F rc sz)) (va_Qi (fun (r : Int32) (u : Unit) => True) (fun (_ : Unit) => BM dC dI g c (v, F, rc)) (AM g sz)) 0 0 (AM g sz) := by
  refine Met.ofW (cc := cX12_landingsEnd) (maxL := 2) (ret := (some .int)) (by decide) rfl ?_
  intro p e s m args below meth c0 s₁ B hml hv
  obtain ⟨rfl, hsz, hP, hK, hE⟩ := hv
  have hx := B.exec
  have hb := B.bytes
  have hr := B.returns
  have hts := atoms_spec (ws := Cond.code yX12_landingsEnd cX12_landingsEnd 2 (some .int) :: wA) B.pre
  have hwd : ∀ w ∈ wA, w.before _ s = true := fun w h => hts w (List.mem_cons_of_mem _ h)
  have hown : s.vm.findClass RX12 = some m.cls := findClass_of_methodNamed B.named
  have hlocks := B.notSynchronized
  subst hsz
  have hl := lv_entry ([.ref (g 0), .int p0]) (n := 2) (Nat.le_of_ble_eq_true rfl)
  rw [lg_entry_eq]
  generalize (lg_sl ([.ref (g 0), .int p0]) ++ List.replicate (2 - (lg_sl ([.ref (g 0), .int p0])).length) Slot.unset).toArray = ls at hl ⊢
  have hl : lv_has ls 2 [(0, .ref (g 0)), (1, .int p0)] := hl
  obtain ⟨H, eH⟩ : ∃ z, z = s.heap := ⟨_, rfl⟩
  have hP : va_P (dC, dI) classes (wM g c v F rc) H := by rw [eH]; exact hP
  have hS : va_S (AM g s.heap.size) s.heap H [] := by rw [eH]; exact va_S.rf
  refine my_heap eH ?_
  have rp0 := i32_rng p0
  refine lv_aload_n hx hb dX12_landingsEnd_0 rfl (lv_at hl 0 rfl) ?_
  refine va_get (D := (dC, dI)) (ci := 12) (v := .ref (g 18)) (C := RX12) (T := TX12) (N := 63) hx hb hwd inA_X12 hown hK hP 0 rfl rfl 23 (by decide) (hwd _ wk_199) (fun _ h9 => h9) rfl dX12_landingsEnd_1 ?_
  refine lv_iload_n hx hb dX12_landingsEnd_4 rfl (lv_at hl 1 rfl) ?_
  refine va_iald hx hb hK hP 18 17 rfl rfl (i := p0) (vin (a := p0.toInt) rfl (by omega)) dX12_landingsEnd_5 ?_
  refine lv_topi (fun z5386 e5387 => ?_)
  refine lv_ldc (v := 1000000) hx hb hown (hwd _ wk_500) dX12_landingsEnd_6 ?_
  refine lv_icmp_ne (tgt := 29) hx hb dX12_landingsEnd_8 (by decide) (fun c5388 => ?_) (fun c5388 => ?_)
  · skip
    have t5389 := cv_ne (a := z5386.toInt) rfl (b := 1000000) (by decide) c5388
    refine lv_aload_n hx hb dX12_landingsEnd_29 rfl (lv_at hl 0 rfl) ?_
    refine va_get (D := (dC, dI)) (ci := 12) (v := .ref (g 22)) (C := RX12) (T := TX12) (N := 63) hx hb hwd inA_X12 hown hK hP 0 rfl rfl 27 (by decide) (hwd _ wk_203) (fun _ h9 => h9) rfl dX12_landingsEnd_30 ?_
    refine lv_iload_n hx hb dX12_landingsEnd_33 rfl (lv_at hl 1 rfl) ?_
    refine va_iald hx hb hK hP 22 21 rfl rfl (i := p0) (vin (a := p0.toInt) rfl (by omega)) dX12_landingsEnd_34 ?_
    refine lv_topi (fun z5390 e5391 => ?_)
    have hP9 : va_P (dC, dI) classes (wM g c v F rc) H := hP
    exact W.iret (v := z5390) hx hb hr (fun t ht hW => ⟨⟨z5390, (), rfl, trivial, (by show va_P _ _ _ t.heap; rw [ht]; exact hP9)⟩, hS.F ht⟩) hS.2.2 dX12_landingsEnd_35
  · skip
    have t5392 := cv_eq (a := z5386.toInt) rfl (b := 1000000) (by decide) c5388
    refine lv_aload_n hx hb dX12_landingsEnd_11 rfl (lv_at hl 0 rfl) ?_
    refine va_get (D := (dC, dI)) (ci := 12) (v := .ref (g 14)) (C := RX12) (T := TX12) (N := 63) hx hb hwd inA_X12 hown hK hP 0 rfl rfl 18 (by decide) (hwd _ wk_195) (fun _ h9 => h9) rfl dX12_landingsEnd_12 ?_
    refine lv_iconst (v := 3) hx hb dX12_landingsEnd_15 (by decide) ?_
    refine lv_aload_n hx hb dX12_landingsEnd_16 rfl (lv_at hl 0 rfl) ?_
    refine va_get (D := (dC, dI)) (ci := 12) (v := .ref (g 15)) (C := RX12) (T := TX12) (N := 63) hx hb hwd inA_X12 hown hK hP 0 rfl rfl 20 (by decide) (hwd _ wk_196) (fun _ h9 => h9) rfl dX12_landingsEnd_17 ?_
    refine lv_iload_n hx hb dX12_landingsEnd_20 rfl (lv_at hl 1 rfl) ?_
    refine va_iald hx hb hK hP 15 14 rfl rfl (i := p0) (vin (a := p0.toInt) rfl (by omega)) dX12_landingsEnd_21 ?_
    refine lv_topi (fun z5393 e5394 => ?_)
    have t5395 : 0 ≤ z5393.toInt ∧ z5393.toInt ≤ 99 := by rw [e5394]; exact hI.2 15 _ _ rfl _
    refine lv_imul hx hb dX12_landingsEnd_22 ?_
    refine lv_topi (fun z5396 e5397 => ?_)
    try (have t5398 := tmul e5397 (a := 3) (by decide) (b := z5393.toInt) rfl (by omega))
    refine lv_iconst (v := 1) hx hb dX12_landingsEnd_23 (by decide) ?_
    refine lv_iadd hx hb dX12_landingsEnd_24 ?_
    refine lv_topi (fun z5399 e5400 => ?_)
    try (have t5401 := tadd e5400 (a := z5396.toInt) rfl (b := 1) (by decide) (by omega))
    refine va_iald hx hb hK hP 14 13 rfl rfl (i := z5399) (vin (a := z5399.toInt) rfl (by omega)) dX12_landingsEnd_25 ?_
    refine lv_topi (fun z5402 e5403 => ?_)
    refine lv_goto (tgt := 35) hx hb dX12_landingsEnd_26 (by decide) ?_
    have hP9 : va_P (dC, dI) classes (wM g c v F rc) H := hP
    exact W.iret (v := z5402) hx hb hr (fun t ht hW => ⟨⟨z5402, (), rfl, trivial, (by show va_P _ _ _ t.heap; rw [ht]; exact hP9)⟩, hS.F ht⟩) hS.2.2 dX12_landingsEnd_35
set_option maxHeartbeats 8000000 in
set_option maxRecDepth 100000 in
theorem c_X12_isAhead (l : Launch) (dC : Nat → ClassId) (dI : Nat → Nat → Nat) (g : Nat → Nat) (c : Nat → ClassId) (adK adV : Nat → Nat) (v : Nat → Int32) (F : Nat → Nat → Int32) (rc sz : Nat) (p0 : Int32) (p1 : Int32) (hg : injM g) (hI : IM v F) (h0 : 0 ≤ p0.toInt ∧ p0.toInt ≤ 499) (h1 : 0 ≤ p1.toInt ∧ p1.toInt ≤ 499) : Met l yX12_isAhead (Cond.code yX12_isAhead cX12_isAhead 3 (some .boolean) :: wA) ({ frames := 1, cells := 0, slots := 0, locals := 40 }) (va_Pc [.ref (g 0), .int p0, .int p1] (PM dC dI g c adK adV v F rc sz)) (va_Qi (fun (r : Int32) (u : Unit) => (r.toInt = 1 ∧ ((F 17 p0.toNatClampNeg).toInt < (F 17 p1.toNatClampNeg).toInt ∨ ((F 17 p0.toNatClampNeg).toInt = (F 17 p1.toNatClampNeg).toInt ∧ p0.toInt < p1.toInt))) ∨ (r.toInt = 0 ∧ ¬ ((F 17 p0.toNatClampNeg).toInt < (F 17 p1.toNatClampNeg).toInt ∨ ((F 17 p0.toNatClampNeg).toInt = (F 17 p1.toNatClampNeg).toInt ∧ p0.toInt < p1.toInt)))) (fun (_ : Unit) => BM dC dI g c (v, F, rc)) (AM g sz)) 0 0 (AM g sz) := by
  refine Met.ofW (cc := cX12_isAhead) (maxL := 3) (ret := (some .boolean)) (by decide) rfl ?_
  intro p e s m args below meth c0 s₁ B hml hv
  obtain ⟨rfl, hsz, hP, hK, hE⟩ := hv
  have hx := B.exec
  have hb := B.bytes
  have hr := B.returns
  have hts := atoms_spec (ws := Cond.code yX12_isAhead cX12_isAhead 3 (some .boolean) :: wA) B.pre
  have hwd : ∀ w ∈ wA, w.before _ s = true := fun w h => hts w (List.mem_cons_of_mem _ h)
  have hown : s.vm.findClass RX12 = some m.cls := findClass_of_methodNamed B.named
  have hlocks := B.notSynchronized
  subst hsz
  have hl := lv_entry ([.ref (g 0), .int p0, .int p1]) (n := 3) (Nat.le_of_ble_eq_true rfl)
  rw [lg_entry_eq]
  generalize (lg_sl ([.ref (g 0), .int p0, .int p1]) ++ List.replicate (3 - (lg_sl ([.ref (g 0), .int p0, .int p1])).length) Slot.unset).toArray = ls at hl ⊢
  have hl : lv_has ls 3 [(0, .ref (g 0)), (1, .int p0), (2, .int p1)] := hl
  obtain ⟨H, eH⟩ : ∃ z, z = s.heap := ⟨_, rfl⟩
  have hP : va_P (dC, dI) classes (wM g c v F rc) H := by rw [eH]; exact hP
  have hS : va_S (AM g s.heap.size) s.heap H [] := by rw [eH]; exact va_S.rf
  refine my_heap eH ?_
  have rp0 := i32_rng p0
  have rp1 := i32_rng p1
  refine lv_aload_n hx hb dX12_isAhead_0 rfl (lv_at hl 0 rfl) ?_
  refine va_get (D := (dC, dI)) (ci := 12) (v := .ref (g 17)) (C := RX12) (T := TX12) (N := 63) hx hb hwd inA_X12 hown hK hP 0 rfl rfl 22 (by decide) (hwd _ wk_198) (fun _ h9 => h9) rfl dX12_isAhead_1 ?_
  refine lv_iload_n hx hb dX12_isAhead_4 rfl (lv_at hl 1 rfl) ?_
  refine va_iald hx hb hK hP 17 16 rfl rfl (i := p0) (vin (a := p0.toInt) rfl (by omega)) dX12_isAhead_5 ?_
  refine lv_topi (fun z5404 e5405 => ?_)
  have tzz5404 : z5404.toInt = (F 17 (p0 : Int32).toNatClampNeg).toInt := congrArg Int32.toInt e5405
  refine lv_aload_n hx hb dX12_isAhead_6 rfl (lv_at hl 0 rfl) ?_
  refine va_get (D := (dC, dI)) (ci := 12) (v := .ref (g 17)) (C := RX12) (T := TX12) (N := 63) hx hb hwd inA_X12 hown hK hP 0 rfl rfl 22 (by decide) (hwd _ wk_198) (fun _ h9 => h9) rfl dX12_isAhead_7 ?_
  refine lv_iload_n hx hb dX12_isAhead_10 rfl (lv_at hl 2 rfl) ?_
  refine va_iald hx hb hK hP 17 16 rfl rfl (i := p1) (vin (a := p1.toInt) rfl (by omega)) dX12_isAhead_11 ?_
  refine lv_topi (fun z5406 e5407 => ?_)
  have tzz5406 : z5406.toInt = (F 17 (p1 : Int32).toNatClampNeg).toInt := congrArg Int32.toInt e5407
  refine lv_icmp_lt (tgt := 35) hx hb dX12_isAhead_12 (by decide) (fun c5408 => ?_) (fun c5408 => ?_)
  · skip
    have t5409 := cv_lt (a := z5404.toInt) rfl (b := z5406.toInt) rfl c5408
    refine lv_iconst (v := 1) hx hb dX12_isAhead_35 (by decide) ?_
    refine lv_goto (tgt := 40) hx hb dX12_isAhead_36 (by decide) ?_
    have hP9 : va_P (dC, dI) classes (wM g c v F rc) H := hP
    exact W.zret (v := 1) hx hb hr (rfl) (fun t ht hW => ⟨⟨1, (), rfl, (by show ((1 : Int32).toInt = 1 ∧ ((F 17 p0.toNatClampNeg).toInt < (F 17 p1.toNatClampNeg).toInt ∨ ((F 17 p0.toNatClampNeg).toInt = (F 17 p1.toNatClampNeg).toInt ∧ p0.toInt < p1.toInt))) ∨ ((1 : Int32).toInt = 0 ∧ ¬ ((F 17 p0.toNatClampNeg).toInt < (F 17 p1.toNatClampNeg).toInt ∨ ((F 17 p0.toNatClampNeg).toInt = (F 17 p1.toNatClampNeg).toInt ∧ p0.toInt < p1.toInt))); have : (1 : Int32).toInt = 1 := (by decide); omega), (by show va_P _ _ _ t.heap; rw [ht]; exact hP9)⟩, hS.F ht⟩) hS.2.2 dX12_isAhead_40
  · skip
    have t5410 := cv_nlt (a := z5404.toInt) rfl (b := z5406.toInt) rfl c5408
    refine lv_aload_n hx hb dX12_isAhead_15 rfl (lv_at hl 0 rfl) ?_
    refine va_get (D := (dC, dI)) (ci := 12) (v := .ref (g 17)) (C := RX12) (T := TX12) (N := 63) hx hb hwd inA_X12 hown hK hP 0 rfl rfl 22 (by decide) (hwd _ wk_198) (fun _ h9 => h9) rfl dX12_isAhead_16 ?_
    refine lv_iload_n hx hb dX12_isAhead_19 rfl (lv_at hl 1 rfl) ?_
    refine va_iald hx hb hK hP 17 16 rfl rfl (i := p0) (vin (a := p0.toInt) rfl (by omega)) dX12_isAhead_20 ?_
    refine lv_topi (fun z5411 e5412 => ?_)
    have tzz5411 : z5411.toInt = (F 17 (p0 : Int32).toNatClampNeg).toInt := congrArg Int32.toInt e5412
    refine lv_aload_n hx hb dX12_isAhead_21 rfl (lv_at hl 0 rfl) ?_
    refine va_get (D := (dC, dI)) (ci := 12) (v := .ref (g 17)) (C := RX12) (T := TX12) (N := 63) hx hb hwd inA_X12 hown hK hP 0 rfl rfl 22 (by decide) (hwd _ wk_198) (fun _ h9 => h9) rfl dX12_isAhead_22 ?_
    refine lv_iload_n hx hb dX12_isAhead_25 rfl (lv_at hl 2 rfl) ?_
    refine va_iald hx hb hK hP 17 16 rfl rfl (i := p1) (vin (a := p1.toInt) rfl (by omega)) dX12_isAhead_26 ?_
    refine lv_topi (fun z5413 e5414 => ?_)
    have tzz5413 : z5413.toInt = (F 17 (p1 : Int32).toNatClampNeg).toInt := congrArg Int32.toInt e5414
    refine lv_icmp_ne (tgt := 39) hx hb dX12_isAhead_27 (by decide) (fun c5415 => ?_) (fun c5415 => ?_)
    · skip
      have t5416 := cv_ne (a := z5411.toInt) rfl (b := z5413.toInt) rfl c5415
      refine lv_iconst (v := 0) hx hb dX12_isAhead_39 (by decide) ?_
      have hP9 : va_P (dC, dI) classes (wM g c v F rc) H := hP
      exact W.zret (v := 0) hx hb hr (rfl) (fun t ht hW => ⟨⟨0, (), rfl, (by show ((0 : Int32).toInt = 1 ∧ ((F 17 p0.toNatClampNeg).toInt < (F 17 p1.toNatClampNeg).toInt ∨ ((F 17 p0.toNatClampNeg).toInt = (F 17 p1.toNatClampNeg).toInt ∧ p0.toInt < p1.toInt))) ∨ ((0 : Int32).toInt = 0 ∧ ¬ ((F 17 p0.toNatClampNeg).toInt < (F 17 p1.toNatClampNeg).toInt ∨ ((F 17 p0.toNatClampNeg).toInt = (F 17 p1.toNatClampNeg).toInt ∧ p0.toInt < p1.toInt))); have : (0 : Int32).toInt = 0 := (by decide); omega), (by show va_P _ _ _ t.heap; rw [ht]; exact hP9)⟩, hS.F ht⟩) hS.2.2 dX12_isAhead_40
    · skip
      have t5417 := cv_eq (a := z5411.toInt) rfl (b := z5413.toInt) rfl c5415
      refine lv_iload_n hx hb dX12_isAhead_30 rfl (lv_at hl 1 rfl) ?_
      refine lv_iload_n hx hb dX12_isAhead_31 rfl (lv_at hl 2 rfl) ?_
      refine lv_icmp_ge (tgt := 39) hx hb dX12_isAhead_32 (by decide) (fun c5418 => ?_) (fun c5418 => ?_)
      · skip
        have t5419 := cv_le (a := p1.toInt) rfl (b := p0.toInt) rfl c5418
        refine lv_iconst (v := 0) hx hb dX12_isAhead_39 (by decide) ?_
        have hP9 : va_P (dC, dI) classes (wM g c v F rc) H := hP
        exact W.zret (v := 0) hx hb hr (rfl) (fun t ht hW => ⟨⟨0, (), rfl, (by show ((0 : Int32).toInt = 1 ∧ ((F 17 p0.toNatClampNeg).toInt < (F 17 p1.toNatClampNeg).toInt ∨ ((F 17 p0.toNatClampNeg).toInt = (F 17 p1.toNatClampNeg).toInt ∧ p0.toInt < p1.toInt))) ∨ ((0 : Int32).toInt = 0 ∧ ¬ ((F 17 p0.toNatClampNeg).toInt < (F 17 p1.toNatClampNeg).toInt ∨ ((F 17 p0.toNatClampNeg).toInt = (F 17 p1.toNatClampNeg).toInt ∧ p0.toInt < p1.toInt))); have : (0 : Int32).toInt = 0 := (by decide); omega), (by show va_P _ _ _ t.heap; rw [ht]; exact hP9)⟩, hS.F ht⟩) hS.2.2 dX12_isAhead_40
      · skip
        have t5420 := cv_nle (a := p1.toInt) rfl (b := p0.toInt) rfl c5418
        refine lv_iconst (v := 1) hx hb dX12_isAhead_35 (by decide) ?_
        refine lv_goto (tgt := 40) hx hb dX12_isAhead_36 (by decide) ?_
        have hP9 : va_P (dC, dI) classes (wM g c v F rc) H := hP
        exact W.zret (v := 1) hx hb hr (rfl) (fun t ht hW => ⟨⟨1, (), rfl, (by show ((1 : Int32).toInt = 1 ∧ ((F 17 p0.toNatClampNeg).toInt < (F 17 p1.toNatClampNeg).toInt ∨ ((F 17 p0.toNatClampNeg).toInt = (F 17 p1.toNatClampNeg).toInt ∧ p0.toInt < p1.toInt))) ∨ ((1 : Int32).toInt = 0 ∧ ¬ ((F 17 p0.toNatClampNeg).toInt < (F 17 p1.toNatClampNeg).toInt ∨ ((F 17 p0.toNatClampNeg).toInt = (F 17 p1.toNatClampNeg).toInt ∧ p0.toInt < p1.toInt))); have : (1 : Int32).toInt = 1 := (by decide); omega), (by show va_P _ _ _ t.heap; rw [ht]; exact hP9)⟩, hS.F ht⟩) hS.2.2 dX12_isAhead_40
set_option maxHeartbeats 8000000 in
set_option maxRecDepth 100000 in
theorem c_X12_areTwice (l : Launch) (dC : Nat → ClassId) (dI : Nat → Nat → Nat) (g : Nat → Nat) (c : Nat → ClassId) (adK adV : Nat → Nat) (v : Nat → Int32) (F : Nat → Nat → Int32) (rc sz : Nat) (p0 : Int32) (hg : injM g) (hI : IM v F) : Met l yX12_areTwice (Cond.code yX12_areTwice cX12_areTwice 4 (some .boolean) :: wA) ({ frames := 2, cells := 0, slots := 0, locals := 80 }) (va_Pc [.ref (g 0), .int p0] (PM dC dI g c adK adV v F rc sz)) (va_Qi (fun (r : Int32) (u : Unit) => 0 ≤ r.toInt ∧ r.toInt ≤ 1) (fun (_ : Unit) => BM dC dI g c (v, F, rc)) (AM g sz)) 0 0 (AM g sz) := by
  refine Met.ofW (cc := cX12_areTwice) (maxL := 4) (ret := (some .boolean)) (by decide) rfl ?_
  intro p e s m args below meth c0 s₁ B hml hv
  obtain ⟨rfl, hsz, hP, hK, hE⟩ := hv
  have hx := B.exec
  have hb := B.bytes
  have hr := B.returns
  have hts := atoms_spec (ws := Cond.code yX12_areTwice cX12_areTwice 4 (some .boolean) :: wA) B.pre
  have hwd : ∀ w ∈ wA, w.before _ s = true := fun w h => hts w (List.mem_cons_of_mem _ h)
  have hown : s.vm.findClass RX12 = some m.cls := findClass_of_methodNamed B.named
  have hlocks := B.notSynchronized
  subst hsz
  have hl := lv_entry ([.ref (g 0), .int p0]) (n := 4) (Nat.le_of_ble_eq_true rfl)
  rw [lg_entry_eq]
  generalize (lg_sl ([.ref (g 0), .int p0]) ++ List.replicate (4 - (lg_sl ([.ref (g 0), .int p0])).length) Slot.unset).toArray = ls at hl ⊢
  have hl : lv_has ls 4 [(0, .ref (g 0)), (1, .int p0)] := hl
  obtain ⟨H, eH⟩ : ∃ z, z = s.heap := ⟨_, rfl⟩
  have hP : va_P (dC, dI) classes (wM g c v F rc) H := by rw [eH]; exact hP
  have hS : va_S (AM g s.heap.size) s.heap H [] := by rw [eH]; exact va_S.rf
  refine my_heap eH ?_
  have rp0 := i32_rng p0
  refine lv_iconst (v := 0) hx hb dX12_areTwice_0 (by decide) ?_
  refine lv_istore_n (lv' := [(2, .int 0), (0, .ref (g 0)), (1, .int p0)]) hx hb dX12_areTwice_1 rfl hl (by decide) rfl (fun ls hl => ?_)
  have lp5421 : ∀ (n : Nat) (x2_lp5421 : Int32) (H : Heap) (locs : List Loc) (ls : Array Slot), (0 ≤ x2_lp5421.toInt) → (2147483648 - x2_lp5421.toInt ≤ (n : Int)) → va_P (dC, dI) classes (wM g c v F rc) H → va_S (AM g s.heap.size) s.heap H locs → lv_has ls 4 [(2, .int x2_lp5421), (0, .ref (g 0)), (1, .int p0)] → W p l e (headSpec (Cond.code yX12_areTwice cX12_areTwice 4 (some .boolean) :: wA) ({ frames := 2, cells := 0, slots := 0, locals := 80 })).room s m ([.ref (g 0), .int p0] : List Value).toArray below meth c0 H locs 0 0 (MQ below (va_Qi (fun (r : Int32) (u : Unit) => 0 ≤ r.toInt ∧ r.toInt ≤ 1) (fun (_ : Unit) => BM dC dI g c (v, F, rc)) (AM g s.heap.size)) ([.ref (g 0), .int p0] : List Value).toArray s 0 0 (AM g s.heap.size)) (F0 m 2 ls []) := by
    intro n
    induction n with
    | zero =>
      intro x2_lp5421 H locs ls t5422 hm hP hS hl
      exfalso
      have := i32_rng x2_lp5421
      omega
    | succ n ih_lp5421 =>
      intro x2_lp5421 H locs ls t5422 hm hP hS hl
      have rx2_lp5421 := i32_rng x2_lp5421
      refine lv_iload_n hx hb dX12_areTwice_2 rfl (lv_at hl 0 rfl) ?_
      refine lv_aload_n hx hb dX12_areTwice_3 rfl (lv_at hl 1 rfl) ?_
      refine va_get (D := (dC, dI)) (ci := 12) (v := .int (v 19)) (C := RX12) (T := TX12) (N := 63) hx hb hwd inA_X12 hown hK hP 0 rfl rfl 19 (by decide) (hwd _ wk_494) (fun _ h9 => h9) rfl dX12_areTwice_4 ?_
      have t5423 : 0 ≤ (v 19).toInt ∧ (v 19).toInt ≤ 500 := hI.1 19 _ _ rfl
      refine lv_icmp_ge (tgt := 100) hx hb dX12_areTwice_7 (by decide) (fun c5424 => ?_) (fun c5424 => ?_)
      · skip
        have t5425 := cv_le (a := (v 19).toInt) rfl (b := x2_lp5421.toInt) rfl c5424
        refine lv_iconst (v := 0) hx hb dX12_areTwice_100 (by decide) ?_
        have hP9 : va_P (dC, dI) classes (wM g c v F rc) H := hP
        exact W.zret (v := 0) hx hb hr (rfl) (fun t ht hW => ⟨⟨0, (), rfl, by have : (0 : Int32).toInt = 0 := (by decide); omega, (by show va_P _ _ _ t.heap; rw [ht]; exact hP9)⟩, hS.F ht⟩) hS.2.2 dX12_areTwice_101
      · skip
        have t5426 := cv_nle (a := (v 19).toInt) rfl (b := x2_lp5421.toInt) rfl c5424
        refine lv_aload_n hx hb dX12_areTwice_10 rfl (lv_at hl 1 rfl) ?_
        refine va_get (D := (dC, dI)) (ci := 12) (v := .ref (g 15)) (C := RX12) (T := TX12) (N := 63) hx hb hwd inA_X12 hown hK hP 0 rfl rfl 20 (by decide) (hwd _ wk_196) (fun _ h9 => h9) rfl dX12_areTwice_11 ?_
        refine lv_iload_n hx hb dX12_areTwice_14 rfl (lv_at hl 0 rfl) ?_
        refine va_iald hx hb hK hP 15 14 rfl rfl (i := x2_lp5421) (vin (a := x2_lp5421.toInt) rfl (by omega)) dX12_areTwice_15 ?_
        refine lv_topi (fun z5427 e5428 => ?_)
        have t5429 : 0 ≤ z5427.toInt ∧ z5427.toInt ≤ 99 := by rw [e5428]; exact hI.2 15 _ _ rfl _
        refine lv_iload_n hx hb dX12_areTwice_16 rfl (lv_at hl 2 rfl) ?_
        refine lv_icmp_eq (tgt := 23) hx hb dX12_areTwice_17 (by decide) (fun c5430 => ?_) (fun c5430 => ?_)
        · skip
          have t5431 := cv_eq (a := z5427.toInt) rfl (b := p0.toInt) rfl c5430
          refine lv_iconst (v := 0) hx hb dX12_areTwice_23 (by decide) ?_
          refine lv_istore_n (lv' := [(3, .int 0), (2, .int x2_lp5421), (0, .ref (g 0)), (1, .int p0)]) hx hb dX12_areTwice_24 rfl hl (by decide) rfl (fun ls hl => ?_)
          have lp5432 : ∀ (n : Nat) (x3_lp5432 : Int32) (H : Heap) (locs : List Loc) (ls : Array Slot), (0 ≤ x3_lp5432.toInt) → (2147483648 - x3_lp5432.toInt ≤ (n : Int)) → va_P (dC, dI) classes (wM g c v F rc) H → va_S (AM g s.heap.size) s.heap H locs → lv_has ls 4 [(3, .int x3_lp5432), (2, .int x2_lp5421), (0, .ref (g 0)), (1, .int p0)] → W p l e (headSpec (Cond.code yX12_areTwice cX12_areTwice 4 (some .boolean) :: wA) ({ frames := 2, cells := 0, slots := 0, locals := 80 })).room s m ([.ref (g 0), .int p0] : List Value).toArray below meth c0 H locs 0 0 (MQ below (va_Qi (fun (r : Int32) (u : Unit) => 0 ≤ r.toInt ∧ r.toInt ≤ 1) (fun (_ : Unit) => BM dC dI g c (v, F, rc)) (AM g s.heap.size)) ([.ref (g 0), .int p0] : List Value).toArray s 0 0 (AM g s.heap.size)) (F0 m 25 ls []) := by
            intro n
            induction n with
            | zero =>
              intro x3_lp5432 H locs ls t5433 hm hP hS hl
              exfalso
              have := i32_rng x3_lp5432
              omega
            | succ n ih_lp5432 =>
              intro x3_lp5432 H locs ls t5433 hm hP hS hl
              have rx3_lp5432 := i32_rng x3_lp5432
              refine lv_iload_n hx hb dX12_areTwice_25 rfl (lv_at hl 0 rfl) ?_
              refine lv_aload_n hx hb dX12_areTwice_26 rfl (lv_at hl 2 rfl) ?_
              refine va_get (D := (dC, dI)) (ci := 12) (v := .int (v 19)) (C := RX12) (T := TX12) (N := 63) hx hb hwd inA_X12 hown hK hP 0 rfl rfl 19 (by decide) (hwd _ wk_494) (fun _ h9 => h9) rfl dX12_areTwice_27 ?_
              have t5434 : 0 ≤ (v 19).toInt ∧ (v 19).toInt ≤ 500 := hI.1 19 _ _ rfl
              refine lv_icmp_ge (tgt := 94) hx hb dX12_areTwice_30 (by decide) (fun c5435 => ?_) (fun c5435 => ?_)
              · skip
                have t5436 := cv_le (a := (v 19).toInt) rfl (b := x3_lp5432.toInt) rfl c5435
                obtain ⟨z5437, e5438⟩ : ∃ y : Int32, y = x2_lp5421 + 1 := ⟨_, rfl⟩
                try (have t5439 := tadd e5438 rfl (b := 1) (by decide) (by omega))
                refine lv_iinc (v := z5437) (lv' := [(2, .int z5437), (3, .int x3_lp5432), (0, .ref (g 0)), (1, .int p0)]) hx hb dX12_areTwice_94 hl (k := 1) rfl (by rw [e5438]; rfl) (by decide) rfl (fun ls hl => ?_)
                refine lv_goto (tgt := 2) hx hb dX12_areTwice_97 (by decide) ?_
                exact ih_lp5421 z5437  _ _ _ (by omega) (by omega) hP hS (lv_sub hl [0, 2, 3] rfl)
              · skip
                have t5440 := cv_nle (a := (v 19).toInt) rfl (b := x3_lp5432.toInt) rfl c5435
                refine lv_aload_n hx hb dX12_areTwice_33 rfl (lv_at hl 2 rfl) ?_
                refine va_get (D := (dC, dI)) (ci := 12) (v := .ref (g 15)) (C := RX12) (T := TX12) (N := 63) hx hb hwd inA_X12 hown hK hP 0 rfl rfl 20 (by decide) (hwd _ wk_196) (fun _ h9 => h9) rfl dX12_areTwice_34 ?_
                refine lv_iload_n hx hb dX12_areTwice_37 rfl (lv_at hl 0 rfl) ?_
                refine va_iald hx hb hK hP 15 14 rfl rfl (i := x3_lp5432) (vin (a := x3_lp5432.toInt) rfl (by omega)) dX12_areTwice_38 ?_
                refine lv_topi (fun z5441 e5442 => ?_)
                have t5443 : 0 ≤ z5441.toInt ∧ z5441.toInt ≤ 99 := by rw [e5442]; exact hI.2 15 _ _ rfl _
                refine lv_iload_n hx hb dX12_areTwice_39 rfl (lv_at hl 3 rfl) ?_
                refine lv_icmp_ne (tgt := 88) hx hb dX12_areTwice_40 (by decide) (fun c5444 => ?_) (fun c5444 => ?_)
                · skip
                  have t5445 := cv_ne (a := z5441.toInt) rfl (b := p0.toInt) rfl c5444
                  obtain ⟨z5446, e5447⟩ : ∃ y : Int32, y = x3_lp5432 + 1 := ⟨_, rfl⟩
                  try (have t5448 := tadd e5447 rfl (b := 1) (by decide) (by omega))
                  refine lv_iinc (v := z5446) (lv' := [(3, .int z5446), (2, .int x2_lp5421), (0, .ref (g 0)), (1, .int p0)]) hx hb dX12_areTwice_88 hl (k := 0) rfl (by rw [e5447]; rfl) (by decide) rfl (fun ls hl => ?_)
                  refine lv_goto (tgt := 25) hx hb dX12_areTwice_91 (by decide) ?_
                  exact ih_lp5432 z5446  _ _ _ (by omega) (by omega) hP hS (lv_sub hl [0, 1, 2, 3] rfl)
                · skip
                  have t5449 := cv_eq (a := z5441.toInt) rfl (b := p0.toInt) rfl c5444
                  refine lv_aload_n hx hb dX12_areTwice_43 rfl (lv_at hl 2 rfl) ?_
                  refine va_get (D := (dC, dI)) (ci := 12) (v := .ref (g 16)) (C := RX12) (T := TX12) (N := 63) hx hb hwd inA_X12 hown hK hP 0 rfl rfl 21 (by decide) (hwd _ wk_197) (fun _ h9 => h9) rfl dX12_areTwice_44 ?_
                  refine lv_iload_n hx hb dX12_areTwice_47 rfl (lv_at hl 0 rfl) ?_
                  refine va_iald hx hb hK hP 16 15 rfl rfl (i := x3_lp5432) (vin (a := x3_lp5432.toInt) rfl (by omega)) dX12_areTwice_48 ?_
                  refine lv_topi (fun z5450 e5451 => ?_)
                  have t5452 : 0 ≤ z5450.toInt ∧ z5450.toInt ≤ 11 := by rw [e5451]; exact hI.2 16 _ _ rfl _
                  refine lv_aload_n hx hb dX12_areTwice_49 rfl (lv_at hl 2 rfl) ?_
                  refine va_get (D := (dC, dI)) (ci := 12) (v := .ref (g 16)) (C := RX12) (T := TX12) (N := 63) hx hb hwd inA_X12 hown hK hP 0 rfl rfl 21 (by decide) (hwd _ wk_197) (fun _ h9 => h9) rfl dX12_areTwice_50 ?_
                  refine lv_iload_n hx hb dX12_areTwice_53 rfl (lv_at hl 1 rfl) ?_
                  refine va_iald hx hb hK hP 16 15 rfl rfl (i := x2_lp5421) (vin (a := x2_lp5421.toInt) rfl (by omega)) dX12_areTwice_54 ?_
                  refine lv_topi (fun z5453 e5454 => ?_)
                  have t5455 : 0 ≤ z5453.toInt ∧ z5453.toInt ≤ 11 := by rw [e5454]; exact hI.2 16 _ _ rfl _
                  refine lv_icmp_eq (tgt := 88) hx hb dX12_areTwice_55 (by decide) (fun c5456 => ?_) (fun c5456 => ?_)
                  · skip
                    have t5457 := cv_eq (a := z5450.toInt) rfl (b := z5453.toInt) rfl c5456
                    obtain ⟨z5458, e5459⟩ : ∃ y : Int32, y = x3_lp5432 + 1 := ⟨_, rfl⟩
                    try (have t5460 := tadd e5459 rfl (b := 1) (by decide) (by omega))
                    refine lv_iinc (v := z5458) (lv' := [(3, .int z5458), (2, .int x2_lp5421), (0, .ref (g 0)), (1, .int p0)]) hx hb dX12_areTwice_88 hl (k := 0) rfl (by rw [e5459]; rfl) (by decide) rfl (fun ls hl => ?_)
                    refine lv_goto (tgt := 25) hx hb dX12_areTwice_91 (by decide) ?_
                    exact ih_lp5432 z5458  _ _ _ (by omega) (by omega) hP hS (lv_sub hl [0, 1, 2, 3] rfl)
                  · skip
                    have t5461 := cv_ne (a := z5450.toInt) rfl (b := z5453.toInt) rfl c5456
                    refine lv_aload_n hx hb dX12_areTwice_58 rfl (lv_at hl 2 rfl) ?_
                    refine va_get (D := (dC, dI)) (ci := 12) (v := .ref (g 17)) (C := RX12) (T := TX12) (N := 63) hx hb hwd inA_X12 hown hK hP 0 rfl rfl 22 (by decide) (hwd _ wk_198) (fun _ h9 => h9) rfl dX12_areTwice_59 ?_
                    refine lv_iload_n hx hb dX12_areTwice_62 rfl (lv_at hl 1 rfl) ?_
                    refine va_iald hx hb hK hP 17 16 rfl rfl (i := x2_lp5421) (vin (a := x2_lp5421.toInt) rfl (by omega)) dX12_areTwice_63 ?_
                    refine lv_topi (fun z5462 e5463 => ?_)
                    refine lv_aload_n hx hb dX12_areTwice_64 rfl (lv_at hl 2 rfl) ?_
                    refine lv_iload_n hx hb dX12_areTwice_65 rfl (lv_at hl 0 rfl) ?_
                    refine va_calli (va_runV (As := [.int x3_lp5432]) (rest := [.int z5462]) ⟨hx, hb, hml, hown, hwd⟩ (c_X12_lastDay l dC dI g c adK adV v F rc H.size x3_lp5432 hg hI (by omega)) (cwV 1 hwd (gV wk_736 wk_733 wk_734 wk_735 wk_5) rfl rfl rfl (by decide +kernel) ⟨Nat.le_of_ble_eq_true rfl, Nat.le_of_ble_eq_true rfl⟩) ⟨PM.blind, va_recv hK hP (ci := 12) (q0 := 0) rfl rfl, fun U hU hW => ⟨rfl, PM.at hK hE hP hS hU hW⟩⟩ rfl rfl hl.1 rfl (lv_room (Nat.le_of_ble_eq_true rfl)) dX12_areTwice_66 ⟨Nat.le_of_ble_eq_true rfl, Nat.le_of_ble_eq_true rfl⟩) hS (fun q _ h => (freeM hS) q h) (freeM hS) (fun r5464 u t H1 locs ht hvm hw hB hz1 hk1 hS => ?_)
                    unfold BM at hB
                    rw [ht] at hB
                    have hP : va_P (dC, dI) classes (wM g c v F rc) H1 := hB
                    clear hz1
                    generalize H1 = H at hP hS ⊢
                    have rr_r5464 := i32_rng r5464
                    refine lv_icmp_ge (tgt := 88) hx hb dX12_areTwice_69 (by decide) (fun c5465 => ?_) (fun c5465 => ?_)
                    · skip
                      have t5466 := cv_le (a := r5464.toInt) rfl (b := z5462.toInt) rfl c5465
                      obtain ⟨z5467, e5468⟩ : ∃ y : Int32, y = x3_lp5432 + 1 := ⟨_, rfl⟩
                      try (have t5469 := tadd e5468 rfl (b := 1) (by decide) (by omega))
                      refine lv_iinc (v := z5467) (lv' := [(3, .int z5467), (2, .int x2_lp5421), (0, .ref (g 0)), (1, .int p0)]) hx hb dX12_areTwice_88 hl (k := 0) rfl (by rw [e5468]; rfl) (by decide) rfl (fun ls hl => ?_)
                      refine lv_goto (tgt := 25) hx hb dX12_areTwice_91 (by decide) ?_
                      exact ih_lp5432 z5467  _ _ _ (by omega) (by omega) hP hS (lv_sub hl [0, 1, 2, 3] rfl)
                    · skip
                      have t5470 := cv_nle (a := r5464.toInt) rfl (b := z5462.toInt) rfl c5465
                      refine lv_aload_n hx hb dX12_areTwice_72 rfl (lv_at hl 2 rfl) ?_
                      refine va_get (D := (dC, dI)) (ci := 12) (v := .ref (g 17)) (C := RX12) (T := TX12) (N := 63) hx hb hwd inA_X12 hown hK hP 0 rfl rfl 22 (by decide) (hwd _ wk_198) (fun _ h9 => h9) rfl dX12_areTwice_73 ?_
                      refine lv_iload_n hx hb dX12_areTwice_76 rfl (lv_at hl 0 rfl) ?_
                      refine va_iald hx hb hK hP 17 16 rfl rfl (i := x3_lp5432) (vin (a := x3_lp5432.toInt) rfl (by omega)) dX12_areTwice_77 ?_
                      refine lv_topi (fun z5471 e5472 => ?_)
                      refine lv_aload_n hx hb dX12_areTwice_78 rfl (lv_at hl 2 rfl) ?_
                      refine lv_iload_n hx hb dX12_areTwice_79 rfl (lv_at hl 1 rfl) ?_
                      refine va_calli (va_runV (As := [.int x2_lp5421]) (rest := [.int z5471]) ⟨hx, hb, hml, hown, hwd⟩ (c_X12_lastDay l dC dI g c adK adV v F rc H.size x2_lp5421 hg hI (by omega)) (cwV 1 hwd (gV wk_736 wk_733 wk_734 wk_735 wk_5) rfl rfl rfl (by decide +kernel) ⟨Nat.le_of_ble_eq_true rfl, Nat.le_of_ble_eq_true rfl⟩) ⟨PM.blind, va_recv hK hP (ci := 12) (q0 := 0) rfl rfl, fun U hU hW => ⟨rfl, PM.at hK hE hP hS hU hW⟩⟩ rfl rfl hl.1 rfl (lv_room (Nat.le_of_ble_eq_true rfl)) dX12_areTwice_80 ⟨Nat.le_of_ble_eq_true rfl, Nat.le_of_ble_eq_true rfl⟩) hS (fun q _ h => (freeM hS) q h) (freeM hS) (fun r5473 u t H1 locs ht hvm hw hB hz1 hk1 hS => ?_)
                      unfold BM at hB
                      rw [ht] at hB
                      have hP : va_P (dC, dI) classes (wM g c v F rc) H1 := hB
                      clear hz1
                      generalize H1 = H at hP hS ⊢
                      have rr_r5473 := i32_rng r5473
                      refine lv_icmp_ge (tgt := 88) hx hb dX12_areTwice_83 (by decide) (fun c5474 => ?_) (fun c5474 => ?_)
                      · skip
                        have t5475 := cv_le (a := r5473.toInt) rfl (b := z5471.toInt) rfl c5474
                        obtain ⟨z5476, e5477⟩ : ∃ y : Int32, y = x3_lp5432 + 1 := ⟨_, rfl⟩
                        try (have t5478 := tadd e5477 rfl (b := 1) (by decide) (by omega))
                        refine lv_iinc (v := z5476) (lv' := [(3, .int z5476), (2, .int x2_lp5421), (0, .ref (g 0)), (1, .int p0)]) hx hb dX12_areTwice_88 hl (k := 0) rfl (by rw [e5477]; rfl) (by decide) rfl (fun ls hl => ?_)
                        refine lv_goto (tgt := 25) hx hb dX12_areTwice_91 (by decide) ?_
                        exact ih_lp5432 z5476  _ _ _ (by omega) (by omega) hP hS (lv_sub hl [0, 1, 2, 3] rfl)
                      · skip
                        have t5479 := cv_nle (a := r5473.toInt) rfl (b := z5471.toInt) rfl c5474
                        refine lv_iconst (v := 1) hx hb dX12_areTwice_86 (by decide) ?_
                        have hP9 : va_P (dC, dI) classes (wM g c v F rc) H := hP
                        exact W.zret (v := 1) hx hb hr (rfl) (fun t ht hW => ⟨⟨1, (), rfl, by have : (1 : Int32).toInt = 1 := (by decide); omega, (by show va_P _ _ _ t.heap; rw [ht]; exact hP9)⟩, hS.F ht⟩) hS.2.2 dX12_areTwice_87
          obtain ⟨n9, hn9⟩ : ∃ n : Nat, 2147483648 - 0 ≤ (n : Int) := ⟨((2147483648 - 0 : Int)).toNat, by omega⟩
          exact lp5432 n9 0  H _ ls (by have : (0 : Int32).toInt = 0 := (by decide); omega) (by have : (0 : Int32).toInt = 0 := (by decide); omega) hP hS hl
        · skip
          have t5480 := cv_ne (a := z5427.toInt) rfl (b := p0.toInt) rfl c5430
          refine lv_goto (tgt := 94) hx hb dX12_areTwice_20 (by decide) ?_
          obtain ⟨z5481, e5482⟩ : ∃ y : Int32, y = x2_lp5421 + 1 := ⟨_, rfl⟩
          try (have t5483 := tadd e5482 rfl (b := 1) (by decide) (by omega))
          refine lv_iinc (v := z5481) (lv' := [(2, .int z5481), (0, .ref (g 0)), (1, .int p0)]) hx hb dX12_areTwice_94 hl (k := 0) rfl (by rw [e5482]; rfl) (by decide) rfl (fun ls hl => ?_)
          refine lv_goto (tgt := 2) hx hb dX12_areTwice_97 (by decide) ?_
          exact ih_lp5421 z5481  _ _ _ (by omega) (by omega) hP hS (lv_sub hl [0, 1, 2] rfl)
  obtain ⟨n9, hn9⟩ : ∃ n : Nat, 2147483648 - 0 ≤ (n : Int) := ⟨((2147483648 - 0 : Int)).toNat, by omega⟩
  exact lp5421 n9 0  H _ ls (by have : (0 : Int32).toInt = 0 := (by decide); omega) (by have : (0 : Int32).toInt = 0 := (by decide); omega) hP hS hl
set_option maxHeartbeats 8000000 in
set_option maxRecDepth 100000 in
theorem c_X12_isDouble (l : Launch) (dC : Nat → ClassId) (dI : Nat → Nat → Nat) (g : Nat → Nat) (c : Nat → ClassId) (adK adV : Nat → Nat) (v : Nat → Int32) (F : Nat → Nat → Int32) (rc sz : Nat) (p0 : Int32) (hg : injM g) (hI : IM v F) (h0 : 0 ≤ p0.toInt ∧ p0.toInt ≤ 99) : Met l yX12_isDouble (Cond.code yX12_isDouble cX12_isDouble 3 (some .boolean) :: wA) ({ frames := 1, cells := 0, slots := 0, locals := 40 }) (va_Pc [.ref (g 0), .int p0] (PM dC dI g c adK adV v F rc sz)) (va_Qi (fun (r : Int32) (u : Unit) => 0 ≤ r.toInt ∧ r.toInt ≤ 1) (fun (_ : Unit) => BM dC dI g c (v, F, rc)) (AM g sz)) 0 0 (AM g sz) := by
  refine Met.ofW (cc := cX12_isDouble) (maxL := 3) (ret := (some .boolean)) (by decide) rfl ?_
  intro p e s m args below meth c0 s₁ B hml hv
  obtain ⟨rfl, hsz, hP, hK, hE⟩ := hv
  have hx := B.exec
  have hb := B.bytes
  have hr := B.returns
  have hts := atoms_spec (ws := Cond.code yX12_isDouble cX12_isDouble 3 (some .boolean) :: wA) B.pre
  have hwd : ∀ w ∈ wA, w.before _ s = true := fun w h => hts w (List.mem_cons_of_mem _ h)
  have hown : s.vm.findClass RX12 = some m.cls := findClass_of_methodNamed B.named
  have hlocks := B.notSynchronized
  subst hsz
  have hl := lv_entry ([.ref (g 0), .int p0]) (n := 3) (Nat.le_of_ble_eq_true rfl)
  rw [lg_entry_eq]
  generalize (lg_sl ([.ref (g 0), .int p0]) ++ List.replicate (3 - (lg_sl ([.ref (g 0), .int p0])).length) Slot.unset).toArray = ls at hl ⊢
  have hl : lv_has ls 3 [(0, .ref (g 0)), (1, .int p0)] := hl
  obtain ⟨H, eH⟩ : ∃ z, z = s.heap := ⟨_, rfl⟩
  have hP : va_P (dC, dI) classes (wM g c v F rc) H := by rw [eH]; exact hP
  have hS : va_S (AM g s.heap.size) s.heap H [] := by rw [eH]; exact va_S.rf
  refine my_heap eH ?_
  have rp0 := i32_rng p0
  refine lv_iconst (v := 0) hx hb dX12_isDouble_0 (by decide) ?_
  refine lv_istore_n (lv' := [(2, .int 0), (0, .ref (g 0)), (1, .int p0)]) hx hb dX12_isDouble_1 rfl hl (by decide) rfl (fun ls hl => ?_)
  have lp5484 : ∀ (n : Nat) (x2_lp5484 : Int32) (H : Heap) (locs : List Loc) (ls : Array Slot), (0 ≤ x2_lp5484.toInt) → (2147483648 - x2_lp5484.toInt ≤ (n : Int)) → va_P (dC, dI) classes (wM g c v F rc) H → va_S (AM g s.heap.size) s.heap H locs → lv_has ls 3 [(2, .int x2_lp5484), (0, .ref (g 0)), (1, .int p0)] → W p l e (headSpec (Cond.code yX12_isDouble cX12_isDouble 3 (some .boolean) :: wA) ({ frames := 1, cells := 0, slots := 0, locals := 40 })).room s m ([.ref (g 0), .int p0] : List Value).toArray below meth c0 H locs 0 0 (MQ below (va_Qi (fun (r : Int32) (u : Unit) => 0 ≤ r.toInt ∧ r.toInt ≤ 1) (fun (_ : Unit) => BM dC dI g c (v, F, rc)) (AM g s.heap.size)) ([.ref (g 0), .int p0] : List Value).toArray s 0 0 (AM g s.heap.size)) (F0 m 2 ls []) := by
    intro n
    induction n with
    | zero =>
      intro x2_lp5484 H locs ls t5485 hm hP hS hl
      exfalso
      have := i32_rng x2_lp5484
      omega
    | succ n ih_lp5484 =>
      intro x2_lp5484 H locs ls t5485 hm hP hS hl
      have rx2_lp5484 := i32_rng x2_lp5484
      refine lv_iload_n hx hb dX12_isDouble_2 rfl (lv_at hl 0 rfl) ?_
      refine lv_aload_n hx hb dX12_isDouble_3 rfl (lv_at hl 1 rfl) ?_
      refine va_get (D := (dC, dI)) (ci := 12) (v := .int (v 14)) (C := RX12) (T := TX12) (N := 63) hx hb hwd inA_X12 hown hK hP 0 rfl rfl 14 (by decide) (hwd _ wk_318) (fun _ h9 => h9) rfl dX12_isDouble_4 ?_
      have t5486 : 0 ≤ (v 14).toInt ∧ (v 14).toInt ≤ 100 := hI.1 14 _ _ rfl
      refine lv_icmp_ge (tgt := 64) hx hb dX12_isDouble_7 (by decide) (fun c5487 => ?_) (fun c5487 => ?_)
      · skip
        have t5488 := cv_le (a := (v 14).toInt) rfl (b := x2_lp5484.toInt) rfl c5487
        refine lv_iconst (v := 0) hx hb dX12_isDouble_64 (by decide) ?_
        have hP9 : va_P (dC, dI) classes (wM g c v F rc) H := hP
        exact W.zret (v := 0) hx hb hr (rfl) (fun t ht hW => ⟨⟨0, (), rfl, by have : (0 : Int32).toInt = 0 := (by decide); omega, (by show va_P _ _ _ t.heap; rw [ht]; exact hP9)⟩, hS.F ht⟩) hS.2.2 dX12_isDouble_65
      · skip
        have t5489 := cv_nle (a := (v 14).toInt) rfl (b := x2_lp5484.toInt) rfl c5487
        refine lv_iload_n hx hb dX12_isDouble_10 rfl (lv_at hl 0 rfl) ?_
        refine lv_iload_n hx hb dX12_isDouble_11 rfl (lv_at hl 2 rfl) ?_
        refine lv_icmp_eq (tgt := 58) hx hb dX12_isDouble_12 (by decide) (fun c5490 => ?_) (fun c5490 => ?_)
        · skip
          have t5491 := cv_eq (a := x2_lp5484.toInt) rfl (b := p0.toInt) rfl c5490
          obtain ⟨z5492, e5493⟩ : ∃ y : Int32, y = x2_lp5484 + 1 := ⟨_, rfl⟩
          try (have t5494 := tadd e5493 rfl (b := 1) (by decide) (by omega))
          refine lv_iinc (v := z5492) (lv' := [(2, .int z5492), (0, .ref (g 0)), (1, .int p0)]) hx hb dX12_isDouble_58 hl (k := 0) rfl (by rw [e5493]; rfl) (by decide) rfl (fun ls hl => ?_)
          refine lv_goto (tgt := 2) hx hb dX12_isDouble_61 (by decide) ?_
          exact ih_lp5484 z5492  _ _ _ (by omega) (by omega) hP hS (lv_sub hl [0, 1, 2] rfl)
        · skip
          have t5495 := cv_ne (a := x2_lp5484.toInt) rfl (b := p0.toInt) rfl c5490
          refine lv_aload_n hx hb dX12_isDouble_15 rfl (lv_at hl 1 rfl) ?_
          refine va_get (D := (dC, dI)) (ci := 12) (v := .ref (g 11)) (C := RX12) (T := TX12) (N := 63) hx hb hwd inA_X12 hown hK hP 0 rfl rfl 15 (by decide) (hwd _ wk_192) (fun _ h9 => h9) rfl dX12_isDouble_16 ?_
          refine lv_iload_n hx hb dX12_isDouble_19 rfl (lv_at hl 0 rfl) ?_
          refine va_iald hx hb hK hP 11 10 rfl rfl (i := x2_lp5484) (vin (a := x2_lp5484.toInt) rfl (by omega)) dX12_isDouble_20 ?_
          refine lv_topi (fun z5496 e5497 => ?_)
          have t5498 : 0 ≤ z5496.toInt ∧ z5496.toInt ≤ 9 := by rw [e5497]; exact hI.2 11 _ _ rfl _
          refine lv_aload_n hx hb dX12_isDouble_21 rfl (lv_at hl 1 rfl) ?_
          refine va_get (D := (dC, dI)) (ci := 12) (v := .ref (g 11)) (C := RX12) (T := TX12) (N := 63) hx hb hwd inA_X12 hown hK hP 0 rfl rfl 15 (by decide) (hwd _ wk_192) (fun _ h9 => h9) rfl dX12_isDouble_22 ?_
          refine lv_iload_n hx hb dX12_isDouble_25 rfl (lv_at hl 2 rfl) ?_
          refine va_iald hx hb hK hP 11 10 rfl rfl (i := p0) (vin (a := p0.toInt) rfl (by omega)) dX12_isDouble_26 ?_
          refine lv_topi (fun z5499 e5500 => ?_)
          have t5501 : 0 ≤ z5499.toInt ∧ z5499.toInt ≤ 9 := by rw [e5500]; exact hI.2 11 _ _ rfl _
          refine lv_icmp_ne (tgt := 58) hx hb dX12_isDouble_27 (by decide) (fun c5502 => ?_) (fun c5502 => ?_)
          · skip
            have t5503 := cv_ne (a := z5496.toInt) rfl (b := z5499.toInt) rfl c5502
            obtain ⟨z5504, e5505⟩ : ∃ y : Int32, y = x2_lp5484 + 1 := ⟨_, rfl⟩
            try (have t5506 := tadd e5505 rfl (b := 1) (by decide) (by omega))
            refine lv_iinc (v := z5504) (lv' := [(2, .int z5504), (0, .ref (g 0)), (1, .int p0)]) hx hb dX12_isDouble_58 hl (k := 0) rfl (by rw [e5505]; rfl) (by decide) rfl (fun ls hl => ?_)
            refine lv_goto (tgt := 2) hx hb dX12_isDouble_61 (by decide) ?_
            exact ih_lp5484 z5504  _ _ _ (by omega) (by omega) hP hS (lv_sub hl [0, 1, 2] rfl)
          · skip
            have t5507 := cv_eq (a := z5496.toInt) rfl (b := z5499.toInt) rfl c5502
            refine lv_aload_n hx hb dX12_isDouble_30 rfl (lv_at hl 1 rfl) ?_
            refine va_get (D := (dC, dI)) (ci := 12) (v := .ref (g 12)) (C := RX12) (T := TX12) (N := 63) hx hb hwd inA_X12 hown hK hP 0 rfl rfl 16 (by decide) (hwd _ wk_193) (fun _ h9 => h9) rfl dX12_isDouble_31 ?_
            refine lv_iload_n hx hb dX12_isDouble_34 rfl (lv_at hl 0 rfl) ?_
            refine va_iald hx hb hK hP 12 11 rfl rfl (i := x2_lp5484) (vin (a := x2_lp5484.toInt) rfl (by omega)) dX12_isDouble_35 ?_
            refine lv_topi (fun z5508 e5509 => ?_)
            refine lv_aload_n hx hb dX12_isDouble_36 rfl (lv_at hl 1 rfl) ?_
            refine va_get (D := (dC, dI)) (ci := 12) (v := .ref (g 12)) (C := RX12) (T := TX12) (N := 63) hx hb hwd inA_X12 hown hK hP 0 rfl rfl 16 (by decide) (hwd _ wk_193) (fun _ h9 => h9) rfl dX12_isDouble_37 ?_
            refine lv_iload_n hx hb dX12_isDouble_40 rfl (lv_at hl 2 rfl) ?_
            refine va_iald hx hb hK hP 12 11 rfl rfl (i := p0) (vin (a := p0.toInt) rfl (by omega)) dX12_isDouble_41 ?_
            refine lv_topi (fun z5510 e5511 => ?_)
            refine lv_icmp_ne (tgt := 58) hx hb dX12_isDouble_42 (by decide) (fun c5512 => ?_) (fun c5512 => ?_)
            · skip
              have t5513 := cv_ne (a := z5508.toInt) rfl (b := z5510.toInt) rfl c5512
              obtain ⟨z5514, e5515⟩ : ∃ y : Int32, y = x2_lp5484 + 1 := ⟨_, rfl⟩
              try (have t5516 := tadd e5515 rfl (b := 1) (by decide) (by omega))
              refine lv_iinc (v := z5514) (lv' := [(2, .int z5514), (0, .ref (g 0)), (1, .int p0)]) hx hb dX12_isDouble_58 hl (k := 0) rfl (by rw [e5515]; rfl) (by decide) rfl (fun ls hl => ?_)
              refine lv_goto (tgt := 2) hx hb dX12_isDouble_61 (by decide) ?_
              exact ih_lp5484 z5514  _ _ _ (by omega) (by omega) hP hS (lv_sub hl [0, 1, 2] rfl)
            · skip
              have t5517 := cv_eq (a := z5508.toInt) rfl (b := z5510.toInt) rfl c5512
              refine lv_aload_n hx hb dX12_isDouble_45 rfl (lv_at hl 1 rfl) ?_
              refine va_get (D := (dC, dI)) (ci := 12) (v := .ref (g 13)) (C := RX12) (T := TX12) (N := 63) hx hb hwd inA_X12 hown hK hP 0 rfl rfl 17 (by decide) (hwd _ wk_194) (fun _ h9 => h9) rfl dX12_isDouble_46 ?_
              refine lv_iload_n hx hb dX12_isDouble_49 rfl (lv_at hl 0 rfl) ?_
              refine va_iald hx hb hK hP 13 12 rfl rfl (i := x2_lp5484) (vin (a := x2_lp5484.toInt) rfl (by omega)) dX12_isDouble_50 ?_
              refine lv_topi (fun z5518 e5519 => ?_)
              have t5520 : 0 ≤ z5518.toInt ∧ z5518.toInt ≤ 12 := by rw [e5519]; exact hI.2 13 _ _ rfl _
              refine lv_bipush (v := 12) hx hb dX12_isDouble_51 (by decide) ?_
              refine lv_icmp_eq (tgt := 58) hx hb dX12_isDouble_53 (by decide) (fun c5521 => ?_) (fun c5521 => ?_)
              · skip
                have t5522 := cv_eq (a := z5518.toInt) rfl (b := 12) (by decide) c5521
                obtain ⟨z5523, e5524⟩ : ∃ y : Int32, y = x2_lp5484 + 1 := ⟨_, rfl⟩
                try (have t5525 := tadd e5524 rfl (b := 1) (by decide) (by omega))
                refine lv_iinc (v := z5523) (lv' := [(2, .int z5523), (0, .ref (g 0)), (1, .int p0)]) hx hb dX12_isDouble_58 hl (k := 0) rfl (by rw [e5524]; rfl) (by decide) rfl (fun ls hl => ?_)
                refine lv_goto (tgt := 2) hx hb dX12_isDouble_61 (by decide) ?_
                exact ih_lp5484 z5523  _ _ _ (by omega) (by omega) hP hS (lv_sub hl [0, 1, 2] rfl)
              · skip
                have t5526 := cv_ne (a := z5518.toInt) rfl (b := 12) (by decide) c5521
                refine lv_iconst (v := 1) hx hb dX12_isDouble_56 (by decide) ?_
                have hP9 : va_P (dC, dI) classes (wM g c v F rc) H := hP
                exact W.zret (v := 1) hx hb hr (rfl) (fun t ht hW => ⟨⟨1, (), rfl, by have : (1 : Int32).toInt = 1 := (by decide); omega, (by show va_P _ _ _ t.heap; rw [ht]; exact hP9)⟩, hS.F ht⟩) hS.2.2 dX12_isDouble_57
  obtain ⟨n9, hn9⟩ : ∃ n : Nat, 2147483648 - 0 ≤ (n : Int) := ⟨((2147483648 - 0 : Int)).toNat, by omega⟩
  exact lp5484 n9 0  H _ ls (by have : (0 : Int32).toInt = 0 := (by decide); omega) (by have : (0 : Int32).toInt = 0 := (by decide); omega) hP hS hl
set_option maxHeartbeats 8000000 in
set_option maxRecDepth 100000 in
theorem c_X12_repair (l : Launch) (dC : Nat → ClassId) (dI : Nat → Nat → Nat) (g : Nat → Nat) (c : Nat → ClassId) (adK adV : Nat → Nat) (v : Nat → Int32) (F : Nat → Nat → Int32) (rc sz : Nat) (p0 : Int32) (p1 : Int32) (hg : injM g) (hI : IM v F) : Met l yX12_repair (Cond.code yX12_repair cX12_repair 4 (some .int) :: wA) ({ frames := 3, cells := 0, slots := 0, locals := 120 }) (va_Pc [.ref (g 0), .int p0, .int p1] (PM dC dI g c adK adV v F rc sz)) (va_Qi (fun (r : Int32) (u : StM) => IM u.1 u.2.1 ∧ u.2.2 = rc ∧ (∀ k, k ∉ ([] : List Nat) → u.1 k = v k) ∧ (∀ k, k ∉ ([14] : List Nat) → u.2.1 k = F k) ∧ True) (BM dC dI g c) (AM g sz)) 0 0 (AM g sz) := by
  refine Met.ofW (cc := cX12_repair) (maxL := 4) (ret := (some .int)) (by decide) rfl ?_
  intro p e s m args below meth c0 s₁ B hml hv
  obtain ⟨rfl, hsz, hP, hK, hE⟩ := hv
  have hx := B.exec
  have hb := B.bytes
  have hr := B.returns
  have hts := atoms_spec (ws := Cond.code yX12_repair cX12_repair 4 (some .int) :: wA) B.pre
  have hwd : ∀ w ∈ wA, w.before _ s = true := fun w h => hts w (List.mem_cons_of_mem _ h)
  have hown : s.vm.findClass RX12 = some m.cls := findClass_of_methodNamed B.named
  have hlocks := B.notSynchronized
  subst hsz
  have hl := lv_entry ([.ref (g 0), .int p0, .int p1]) (n := 4) (Nat.le_of_ble_eq_true rfl)
  rw [lg_entry_eq]
  generalize (lg_sl ([.ref (g 0), .int p0, .int p1]) ++ List.replicate (4 - (lg_sl ([.ref (g 0), .int p0, .int p1])).length) Slot.unset).toArray = ls at hl ⊢
  have hl : lv_has ls 4 [(0, .ref (g 0)), (1, .int p0), (2, .int p1)] := hl
  obtain ⟨H, eH⟩ : ∃ z, z = s.heap := ⟨_, rfl⟩
  have hP : va_P (dC, dI) classes (wM g c v F rc) H := by rw [eH]; exact hP
  have hS : va_S (AM g s.heap.size) s.heap H [] := by rw [eH]; exact va_S.rf
  refine my_heap eH ?_
  have hF : ∀ k, k ∉ ([14] : List Nat) → F k = F k := fun _ _ => rfl
  have rp0 := i32_rng p0
  have rp1 := i32_rng p1
  refine lv_aload_n hx hb dX12_repair_0 rfl (lv_at hl 0 rfl) ?_
  refine lv_iload_n hx hb dX12_repair_1 rfl (lv_at hl 1 rfl) ?_
  have t5571 : 0 ≤ (v 14).toInt ∧ (v 14).toInt ≤ 100 := hI.1 14 _ _ rfl
  refine va_calli (va_runV (As := [.int p0]) (rest := []) ⟨hx, hb, hml, hown, hwd⟩ (c_X12_isPart l dC dI g c adK adV v F rc H.size p0 hg hI ) (cwV 1 hwd (gV wk_631 wk_628 wk_629 wk_630 wk_5) rfl rfl rfl (by decide +kernel) ⟨Nat.le_of_ble_eq_true rfl, Nat.le_of_ble_eq_true rfl⟩) ⟨PM.blind, va_recv hK hP (ci := 12) (q0 := 0) rfl rfl, fun U hU hW => ⟨rfl, PM.at hK hE hP hS hU hW⟩⟩ rfl rfl hl.1 rfl (lv_room (Nat.le_of_ble_eq_true rfl)) dX12_repair_2 ⟨Nat.le_of_ble_eq_true rfl, Nat.le_of_ble_eq_true rfl⟩) hS (fun q _ h => (freeM hS) q h) (freeM hS) (fun r5572 u t H1 locs ht hvm hw hB hz1 hk1 hS => ?_)
  unfold BM at hB
  rw [ht] at hB
  have hP : va_P (dC, dI) classes (wM g c v F rc) H1 := hB
  replace hw : (r5572.toInt = 1 ∧ 0 ≤ p0.toInt ∧ p0.toInt < (v 14).toInt) ∨ (r5572.toInt = 0 ∧ (p0.toInt < 0 ∨ (v 14).toInt ≤ p0.toInt)) := hw
  have hw_r5572 := hw
  clear hw
  clear hz1
  generalize H1 = H at hP hS ⊢
  refine lv_if_eq (tgt := 18) hx hb dX12_repair_5 (by decide) (fun c5573 => ?_) (fun c5573 => ?_)
  · skip
    have t5574 := cv_eq (a := r5572.toInt) rfl (b := 0) (by decide) c5573
    refine lv_iconst (v := (-1)) hx hb dX12_repair_18 (by decide) ?_
    have hP9 : va_P (dC, dI) classes (wM g c v F rc) H := hP
    exact W.iret (v := (-1)) hx hb hr (fun t ht hW => ⟨⟨(-1), (v, F, rc), rfl, ⟨hI, rfl, (fun _ _ => rfl), hF, trivial⟩, (by show va_P _ _ _ t.heap; rw [ht]; exact hP9)⟩, hS.F ht⟩) hS.2.2 dX12_repair_19
  · skip
    have t5575 := cv_ne (a := r5572.toInt) rfl (b := 0) (by decide) c5573
    refine lv_iload_n hx hb dX12_repair_8 rfl (lv_at hl 2 rfl) ?_
    refine lv_iconst (v := 1) hx hb dX12_repair_9 (by decide) ?_
    refine lv_bipush (v := 7) hx hb dX12_repair_10 (by decide) ?_
    refine va_calli (va_runS (As := [.int p1, .int 1, .int 7]) (rest := []) ⟨hx, hb, hml, hown, hwd⟩ (c_X12_in l dC dI g c adK adV v F rc H.size p1 1 7 hg hI ) (va_cwS 3 hwd (gT wk_254 wk_252 wk_253 wk_5) rfl rfl rfl (by decide +kernel) ⟨Nat.le_of_ble_eq_true rfl, Nat.le_of_ble_eq_true rfl⟩) ⟨PM.blind, fun U hU hW => ⟨rfl, PM.at hK hE hP hS hU hW⟩⟩ rfl rfl hl.1 rfl (lv_room (Nat.le_of_ble_eq_true rfl)) dX12_repair_12 ⟨Nat.le_of_ble_eq_true rfl, Nat.le_of_ble_eq_true rfl⟩) hS (fun q _ h => (freeM hS) q h) (freeM hS) (fun r5576 u t H1 locs ht hvm hw hB hz1 hk1 hS => ?_)
    unfold BM at hB
    rw [ht] at hB
    have hP : va_P (dC, dI) classes (wM g c v F rc) H1 := hB
    have hw_r5576 : (r5576.toInt = 1 ∧ (1 : Int32).toInt ≤ p1.toInt ∧ p1.toInt ≤ (7 : Int32).toInt) ∨ (r5576.toInt = 0 ∧ (p1.toInt < (1 : Int32).toInt ∨ (7 : Int32).toInt < p1.toInt)) := hw
    clear hw
    have k5577 : (1 : Int32).toInt = 1 := by decide
    have k5578 : (7 : Int32).toInt = 7 := by decide
    clear hz1
    generalize H1 = H at hP hS ⊢
    refine lv_if_ne (tgt := 20) hx hb dX12_repair_15 (by decide) (fun c5579 => ?_) (fun c5579 => ?_)
    · skip
      have t5580 := cv_ne (a := r5576.toInt) rfl (b := 0) (by decide) c5579
      refine lv_aload_n hx hb dX12_repair_20 rfl (lv_at hl 0 rfl) ?_
      refine va_get (D := (dC, dI)) (ci := 12) (v := .ref (g 13)) (C := RX12) (T := TX12) (N := 63) hx hb hwd inA_X12 hown hK hP 0 rfl rfl 17 (by decide) (hwd _ wk_194) (fun _ h9 => h9) rfl dX12_repair_21 ?_
      refine lv_iload_n hx hb dX12_repair_24 rfl (lv_at hl 1 rfl) ?_
      refine va_iald hx hb hK hP 13 12 rfl rfl (i := p0) (vin (a := p0.toInt) rfl (by omega)) dX12_repair_25 ?_
      refine lv_topi (fun z5581 e5582 => ?_)
      have t5583 : 0 ≤ z5581.toInt ∧ z5581.toInt ≤ 12 := by rw [e5582]; exact hI.2 13 _ _ rfl _
      refine lv_bipush (v := 10) hx hb dX12_repair_26 (by decide) ?_
      refine lv_icmp_eq (tgt := 34) hx hb dX12_repair_28 (by decide) (fun c5584 => ?_) (fun c5584 => ?_)
      · skip
        have t5585 := cv_eq (a := z5581.toInt) rfl (b := 10) (by decide) c5584
        refine lv_iconst (v := 0) hx hb dX12_repair_34 (by decide) ?_
        refine lv_istore_n (lv' := [(3, .int 0), (0, .ref (g 0)), (1, .int p0), (2, .int p1)]) hx hb dX12_repair_35 rfl hl (by decide) rfl (fun ls hl => ?_)
        have lp5586 : ∀ (n : Nat) (x3_lp5586 : Int32) (v_lp5586 : Nat → Int32) (F_lp5586 : Nat → Nat → Int32) (H : Heap) (locs : List Loc) (ls : Array Slot), (0 ≤ x3_lp5586.toInt) → (2147483648 - x3_lp5586.toInt ≤ (n : Int)) → (∀ k, k ∉ ([] : List Nat) → v_lp5586 k = v k) → IM v_lp5586 F_lp5586 → (∀ k, k ∉ ([14] : List Nat) → F_lp5586 k = F k) → va_P (dC, dI) classes (wM g c v_lp5586 F_lp5586 rc) H → va_S (AM g s.heap.size) s.heap H locs → lv_has ls 4 [(3, .int x3_lp5586), (0, .ref (g 0)), (1, .int p0), (2, .int p1)] → W p l e (headSpec (Cond.code yX12_repair cX12_repair 4 (some .int) :: wA) ({ frames := 3, cells := 0, slots := 0, locals := 120 })).room s m ([.ref (g 0), .int p0, .int p1] : List Value).toArray below meth c0 H locs 0 0 (MQ below (va_Qi (fun (r : Int32) (u : StM) => IM u.1 u.2.1 ∧ u.2.2 = rc ∧ (∀ k, k ∉ ([] : List Nat) → u.1 k = v k) ∧ (∀ k, k ∉ ([14] : List Nat) → u.2.1 k = F k) ∧ True) (BM dC dI g c) (AM g s.heap.size)) ([.ref (g 0), .int p0, .int p1] : List Value).toArray s 0 0 (AM g s.heap.size)) (F0 m 36 ls []) := by
          intro n
          induction n with
          | zero =>
            intro x3_lp5586 v_lp5586 F_lp5586 H locs ls t5587 hm hf_lp5586 hI hF hP hS hl
            exfalso
            have := i32_rng x3_lp5586
            have hI1 := hI.1
            omega
          | succ n ih_lp5586 =>
            intro x3_lp5586 v_lp5586 F_lp5586 H locs ls t5587 hm hf_lp5586 hI hF hP hS hl
            have rx3_lp5586 := i32_rng x3_lp5586
            refine lv_iload_n hx hb dX12_repair_36 rfl (lv_at hl 0 rfl) ?_
            refine lv_iconst (v := 3) hx hb dX12_repair_37 (by decide) ?_
            refine lv_icmp_ge (tgt := 67) hx hb dX12_repair_38 (by decide) (fun c5588 => ?_) (fun c5588 => ?_)
            · skip
              have t5589 := cv_le (a := 3) (by decide) (b := x3_lp5586.toInt) rfl c5588
              refine lv_iconst (v := 1) hx hb dX12_repair_67 (by decide) ?_
              have hP9 : va_P (dC, dI) classes (wM g c v_lp5586 F_lp5586 rc) H := hP
              exact W.iret (v := 1) hx hb hr (fun t ht hW => ⟨⟨1, (v_lp5586, F_lp5586, rc), rfl, ⟨hI, rfl, (frC (by decide) hf_lp5586 (fun _ _ => rfl)), hF, trivial⟩, (by show va_P _ _ _ t.heap; rw [ht]; exact hP9)⟩, hS.F ht⟩) hS.2.2 dX12_repair_68
            · skip
              have t5590 := cv_nle (a := 3) (by decide) (b := x3_lp5586.toInt) rfl c5588
              refine lv_iload_n hx hb dX12_repair_41 rfl (lv_at hl 3 rfl) ?_
              refine lv_iload_n hx hb dX12_repair_42 rfl (lv_at hl 0 rfl) ?_
              refine lv_ishr hx hb dX12_repair_43 ?_
              refine lv_topi (fun z5591 e5592 => ?_)
              refine lv_iconst (v := 1) hx hb dX12_repair_44 (by decide) ?_
              refine lv_iand hx hb dX12_repair_45 ?_
              refine lv_topi (fun z5594 e5595 => ?_)
              refine lv_iconst (v := 1) hx hb dX12_repair_46 (by decide) ?_
              refine lv_icmp_ne (tgt := 61) hx hb dX12_repair_47 (by decide) (fun c5597 => ?_) (fun c5597 => ?_)
              · skip
                have t5598 := cv_ne (a := z5594.toInt) rfl (b := 1) (by decide) c5597
                obtain ⟨z5599, e5600⟩ : ∃ y : Int32, y = x3_lp5586 + 1 := ⟨_, rfl⟩
                try (have t5601 := tadd e5600 rfl (b := 1) (by decide) (by omega))
                refine lv_iinc (v := z5599) (lv' := [(3, .int z5599), (0, .ref (g 0)), (1, .int p0), (2, .int p1)]) hx hb dX12_repair_61 hl (k := 0) rfl (by rw [e5600]; rfl) (by decide) rfl (fun ls hl => ?_)
                refine lv_goto (tgt := 36) hx hb dX12_repair_64 (by decide) ?_
                exact ih_lp5586 z5599 v_lp5586 F_lp5586 _ _ _ (by omega) (by omega) hf_lp5586 hI hF hP hS (lv_sub hl [0, 1, 2, 3] rfl)
              · skip
                have t5602 := cv_eq (a := z5594.toInt) rfl (b := 1) (by decide) c5597
                refine lv_aload_n hx hb dX12_repair_50 rfl (lv_at hl 1 rfl) ?_
                refine va_get (D := (dC, dI)) (ci := 12) (v := .ref (g 14)) (C := RX12) (T := TX12) (N := 63) hx hb hwd inA_X12 hown hK hP 0 rfl rfl 18 (by decide) (hwd _ wk_195) (fun _ h9 => h9) rfl dX12_repair_51 ?_
                refine lv_iconst (v := 3) hx hb dX12_repair_54 (by decide) ?_
                refine lv_iload_n hx hb dX12_repair_55 rfl (lv_at hl 2 rfl) ?_
                refine lv_imul hx hb dX12_repair_56 ?_
                refine lv_topi (fun z5603 e5604 => ?_)
                try (have t5605 := tmul e5604 (a := 3) (by decide) (b := p0.toInt) rfl (by omega))
                refine lv_iload_n hx hb dX12_repair_57 rfl (lv_at hl 0 rfl) ?_
                refine lv_iadd hx hb dX12_repair_58 ?_
                refine lv_topi (fun z5606 e5607 => ?_)
                try (have t5608 := tadd e5607 (a := z5603.toInt) rfl (b := x3_lp5586.toInt) rfl (by omega))
                refine lv_iconst (v := 0) hx hb dX12_repair_59 (by decide) ?_
                refine va_iast hx hb hK hP (DM hg) hS 14 13 rfl rfl (i := z5606) (x := 0) (vin (a := z5606.toInt) rfl (by omega)) dX12_repair_60 (fun H locs hP _ hS => ?_)
                have hP := va_P_eq (sM_14 g c _ _ _ _) hP
                have hI := IM.store0 hI 14 (z5606 : Int32).toNatClampNeg 0 rfl
                have hF := frUF (k := 14) (f := upd (F_lp5586 14) (z5606 : Int32).toNatClampNeg 0) (by decide) hF
                have hP : va_P (dC, dI) classes (wM g c v_lp5586 (va_up F_lp5586 14 (upd (F_lp5586 14) (z5606 : Int32).toNatClampNeg 0)) rc) H := hP
                generalize (va_up F_lp5586 14 (upd (F_lp5586 14) (z5606 : Int32).toNatClampNeg 0)) = F5609 at hP hI hF
                obtain ⟨z5610, e5611⟩ : ∃ y : Int32, y = x3_lp5586 + 1 := ⟨_, rfl⟩
                try (have t5612 := tadd e5611 rfl (b := 1) (by decide) (by omega))
                refine lv_iinc (v := z5610) (lv' := [(3, .int z5610), (0, .ref (g 0)), (1, .int p0), (2, .int p1)]) hx hb dX12_repair_61 hl (k := 0) rfl (by rw [e5611]; rfl) (by decide) rfl (fun ls hl => ?_)
                refine lv_goto (tgt := 36) hx hb dX12_repair_64 (by decide) ?_
                exact ih_lp5586 z5610 v_lp5586 F5609 _ _ _ (by omega) (by omega) hf_lp5586 hI hF hP hS (lv_sub hl [0, 1, 2, 3] rfl)
        obtain ⟨n9, hn9⟩ : ∃ n : Nat, 2147483648 - 0 ≤ (n : Int) := ⟨((2147483648 - 0 : Int)).toNat, by omega⟩
        exact lp5586 n9 0 v F H _ ls (by have : (0 : Int32).toInt = 0 := (by decide); omega) (by have : (0 : Int32).toInt = 0 := (by decide); omega) (fun _ _ => rfl) hI hF hP hS hl
      · skip
        have t5613 := cv_ne (a := z5581.toInt) rfl (b := 10) (by decide) c5584
        refine lv_bipush (v := (-2)) hx hb dX12_repair_31 (by decide) ?_
        have hP9 : va_P (dC, dI) classes (wM g c v F rc) H := hP
        exact W.iret (v := (-2)) hx hb hr (fun t ht hW => ⟨⟨(-2), (v, F, rc), rfl, ⟨hI, rfl, (fun _ _ => rfl), hF, trivial⟩, (by show va_P _ _ _ t.heap; rw [ht]; exact hP9)⟩, hS.F ht⟩) hS.2.2 dX12_repair_33
    · skip
      have t5614 := cv_eq (a := r5576.toInt) rfl (b := 0) (by decide) c5579
      refine lv_iconst (v := (-1)) hx hb dX12_repair_18 (by decide) ?_
      have hP9 : va_P (dC, dI) classes (wM g c v F rc) H := hP
      exact W.iret (v := (-1)) hx hb hr (fun t ht hW => ⟨⟨(-1), (v, F, rc), rfl, ⟨hI, rfl, (fun _ _ => rfl), hF, trivial⟩, (by show va_P _ _ _ t.heap; rw [ht]; exact hP9)⟩, hS.F ht⟩) hS.2.2 dX12_repair_19
set_option maxHeartbeats 8000000 in
set_option maxRecDepth 100000 in
theorem c_X12_late (l : Launch) (dC : Nat → ClassId) (dI : Nat → Nat → Nat) (g : Nat → Nat) (c : Nat → ClassId) (adK adV : Nat → Nat) (v : Nat → Int32) (F : Nat → Nat → Int32) (rc sz : Nat) (p0 : Int32) (p1 : Int32) (hg : injM g) (hI : IM v F) (h0 : 0 ≤ p0.toInt ∧ p0.toInt ≤ 9) : Met l yX12_late (Cond.code yX12_late cX12_late 3 (some .int) :: wA) ({ frames := 1, cells := 0, slots := 0, locals := 40 }) (va_Pc [.ref (g 0), .int p0, .int p1] (PM dC dI g c adK adV v F rc sz)) (va_Qi (fun (r : Int32) (u : Unit) => True) (fun (_ : Unit) => BM dC dI g c (v, F, rc)) (AM g sz)) 0 0 (AM g sz) := by
  refine Met.ofW (cc := cX12_late) (maxL := 3) (ret := (some .int)) (by decide) rfl ?_
  intro p e s m args below meth c0 s₁ B hml hv
  obtain ⟨rfl, hsz, hP, hK, hE⟩ := hv
  have hx := B.exec
  have hb := B.bytes
  have hr := B.returns
  have hts := atoms_spec (ws := Cond.code yX12_late cX12_late 3 (some .int) :: wA) B.pre
  have hwd : ∀ w ∈ wA, w.before _ s = true := fun w h => hts w (List.mem_cons_of_mem _ h)
  have hown : s.vm.findClass RX12 = some m.cls := findClass_of_methodNamed B.named
  have hlocks := B.notSynchronized
  subst hsz
  have hl := lv_entry ([.ref (g 0), .int p0, .int p1]) (n := 3) (Nat.le_of_ble_eq_true rfl)
  rw [lg_entry_eq]
  generalize (lg_sl ([.ref (g 0), .int p0, .int p1]) ++ List.replicate (3 - (lg_sl ([.ref (g 0), .int p0, .int p1])).length) Slot.unset).toArray = ls at hl ⊢
  have hl : lv_has ls 3 [(0, .ref (g 0)), (1, .int p0), (2, .int p1)] := hl
  obtain ⟨H, eH⟩ : ∃ z, z = s.heap := ⟨_, rfl⟩
  have hP : va_P (dC, dI) classes (wM g c v F rc) H := by rw [eH]; exact hP
  have hS : va_S (AM g s.heap.size) s.heap H [] := by rw [eH]; exact va_S.rf
  refine my_heap eH ?_
  have rp0 := i32_rng p0
  have rp1 := i32_rng p1
  refine lv_iload_n hx hb dX12_late_0 rfl (lv_at hl 2 rfl) ?_
  refine lv_aload_n hx hb dX12_late_1 rfl (lv_at hl 0 rfl) ?_
  refine va_get (D := (dC, dI)) (ci := 12) (v := .ref (g 35)) (C := RX12) (T := TX12) (N := 63) hx hb hwd inA_X12 hown hK hP 0 rfl rfl 49 (by decide) (hwd _ wk_217) (fun _ h9 => h9) rfl dX12_late_2 ?_
  refine lv_iload_n hx hb dX12_late_5 rfl (lv_at hl 1 rfl) ?_
  refine va_iald hx hb hK hP 35 34 rfl rfl (i := p0) (vin (a := p0.toInt) rfl (by omega)) dX12_late_6 ?_
  refine lv_topi (fun z5615 e5616 => ?_)
  refine lv_icmp_le (tgt := 21) hx hb dX12_late_7 (by decide) (fun c5617 => ?_) (fun c5617 => ?_)
  · skip
    have t5618 := cv_le (a := p1.toInt) rfl (b := z5615.toInt) rfl c5617
    refine lv_iconst (v := 0) hx hb dX12_late_21 (by decide) ?_
    have hP9 : va_P (dC, dI) classes (wM g c v F rc) H := hP
    exact W.iret (v := 0) hx hb hr (fun t ht hW => ⟨⟨0, (), rfl, trivial, (by show va_P _ _ _ t.heap; rw [ht]; exact hP9)⟩, hS.F ht⟩) hS.2.2 dX12_late_22
  · skip
    have t5619 := cv_nle (a := p1.toInt) rfl (b := z5615.toInt) rfl c5617
    refine lv_iload_n hx hb dX12_late_10 rfl (lv_at hl 2 rfl) ?_
    refine lv_aload_n hx hb dX12_late_11 rfl (lv_at hl 0 rfl) ?_
    refine va_get (D := (dC, dI)) (ci := 12) (v := .ref (g 35)) (C := RX12) (T := TX12) (N := 63) hx hb hwd inA_X12 hown hK hP 0 rfl rfl 49 (by decide) (hwd _ wk_217) (fun _ h9 => h9) rfl dX12_late_12 ?_
    refine lv_iload_n hx hb dX12_late_15 rfl (lv_at hl 1 rfl) ?_
    refine va_iald hx hb hK hP 35 34 rfl rfl (i := p0) (vin (a := p0.toInt) rfl (by omega)) dX12_late_16 ?_
    refine lv_topi (fun z5620 e5621 => ?_)
    refine lv_isub hx hb dX12_late_17 ?_
    refine lv_topi (fun z5622 e5623 => ?_)
    try (have t5624 := tsub e5623 (a := p1.toInt) rfl (b := z5620.toInt) rfl (by omega))
    refine lv_goto (tgt := 22) hx hb dX12_late_18 (by decide) ?_
    have hP9 : va_P (dC, dI) classes (wM g c v F rc) H := hP
    exact W.iret (v := z5622) hx hb hr (fun t ht hW => ⟨⟨z5622, (), rfl, trivial, (by show va_P _ _ _ t.heap; rw [ht]; exact hP9)⟩, hS.F ht⟩) hS.2.2 dX12_late_22
set_option maxHeartbeats 8000000 in
set_option maxRecDepth 100000 in
theorem c_X12_asks (l : Launch) (dC : Nat → ClassId) (dI : Nat → Nat → Nat) (g : Nat → Nat) (c : Nat → ClassId) (adK adV : Nat → Nat) (v : Nat → Int32) (F : Nat → Nat → Int32) (rc sz : Nat) (p0 : Int32) (p1 : Int32) (hg : injM g) (hI : IM v F) (h0 : 0 ≤ p0.toInt ∧ p0.toInt ≤ 19) (h1 : 0 ≤ p1.toInt ∧ p1.toInt ≤ 9) : Met l yX12_asks (Cond.code yX12_asks cX12_asks 3 (some .boolean) :: wA) ({ frames := 1, cells := 0, slots := 0, locals := 40 }) (va_Pc [.ref (g 0), .int p0, .int p1] (PM dC dI g c adK adV v F rc sz)) (va_Qi (fun (r : Int32) (u : Unit) => 0 ≤ r.toInt ∧ r.toInt ≤ 1) (fun (_ : Unit) => BM dC dI g c (v, F, rc)) (AM g sz)) 0 0 (AM g sz) := by
  refine Met.ofW (cc := cX12_asks) (maxL := 3) (ret := (some .boolean)) (by decide) rfl ?_
  intro p e s m args below meth c0 s₁ B hml hv
  obtain ⟨rfl, hsz, hP, hK, hE⟩ := hv
  have hx := B.exec
  have hb := B.bytes
  have hr := B.returns
  have hts := atoms_spec (ws := Cond.code yX12_asks cX12_asks 3 (some .boolean) :: wA) B.pre
  have hwd : ∀ w ∈ wA, w.before _ s = true := fun w h => hts w (List.mem_cons_of_mem _ h)
  have hown : s.vm.findClass RX12 = some m.cls := findClass_of_methodNamed B.named
  have hlocks := B.notSynchronized
  subst hsz
  have hl := lv_entry ([.ref (g 0), .int p0, .int p1]) (n := 3) (Nat.le_of_ble_eq_true rfl)
  rw [lg_entry_eq]
  generalize (lg_sl ([.ref (g 0), .int p0, .int p1]) ++ List.replicate (3 - (lg_sl ([.ref (g 0), .int p0, .int p1])).length) Slot.unset).toArray = ls at hl ⊢
  have hl : lv_has ls 3 [(0, .ref (g 0)), (1, .int p0), (2, .int p1)] := hl
  obtain ⟨H, eH⟩ : ∃ z, z = s.heap := ⟨_, rfl⟩
  have hP : va_P (dC, dI) classes (wM g c v F rc) H := by rw [eH]; exact hP
  have hS : va_S (AM g s.heap.size) s.heap H [] := by rw [eH]; exact va_S.rf
  refine my_heap eH ?_
  have rp0 := i32_rng p0
  have rp1 := i32_rng p1
  refine lv_aload_n hx hb dX12_asks_0 rfl (lv_at hl 0 rfl) ?_
  refine va_get (D := (dC, dI)) (ci := 12) (v := .ref (g 9)) (C := RX12) (T := TX12) (N := 63) hx hb hwd inA_X12 hown hK hP 0 rfl rfl 12 (by decide) (hwd _ wk_190) (fun _ h9 => h9) rfl dX12_asks_1 ?_
  refine lv_bipush (v := 10) hx hb dX12_asks_4 (by decide) ?_
  refine lv_iload_n hx hb dX12_asks_6 rfl (lv_at hl 2 rfl) ?_
  refine lv_imul hx hb dX12_asks_7 ?_
  refine lv_topi (fun z5625 e5626 => ?_)
  try (have t5627 := tmul e5626 (a := 10) (by decide) (b := p1.toInt) rfl (by omega))
  refine lv_aload_n hx hb dX12_asks_8 rfl (lv_at hl 0 rfl) ?_
  refine va_get (D := (dC, dI)) (ci := 12) (v := .ref (g 32)) (C := RX12) (T := TX12) (N := 63) hx hb hwd inA_X12 hown hK hP 0 rfl rfl 46 (by decide) (hwd _ wk_214) (fun _ h9 => h9) rfl dX12_asks_9 ?_
  refine lv_iload_n hx hb dX12_asks_12 rfl (lv_at hl 1 rfl) ?_
  refine va_iald hx hb hK hP 32 31 rfl rfl (i := p0) (vin (a := p0.toInt) rfl (by omega)) dX12_asks_13 ?_
  refine lv_topi (fun z5628 e5629 => ?_)
  have t5630 : 0 ≤ z5628.toInt ∧ z5628.toInt ≤ 9 := by rw [e5629]; exact hI.2 32 _ _ rfl _
  refine lv_iadd hx hb dX12_asks_14 ?_
  refine lv_topi (fun z5631 e5632 => ?_)
  try (have t5633 := tadd e5632 (a := z5625.toInt) rfl (b := z5628.toInt) rfl (by omega))
  refine va_iald hx hb hK hP 9 8 rfl rfl (i := z5631) (vin (a := z5631.toInt) rfl (by omega)) dX12_asks_15 ?_
  refine lv_topi (fun z5634 e5635 => ?_)
  refine lv_if_le (tgt := 23) hx hb dX12_asks_16 (by decide) (fun c5636 => ?_) (fun c5636 => ?_)
  · skip
    have t5637 := cv_le (a := z5634.toInt) rfl (b := 0) (by decide) c5636
    refine lv_iconst (v := 0) hx hb dX12_asks_23 (by decide) ?_
    have hP9 : va_P (dC, dI) classes (wM g c v F rc) H := hP
    exact W.zret (v := 0) hx hb hr (rfl) (fun t ht hW => ⟨⟨0, (), rfl, by have : (0 : Int32).toInt = 0 := (by decide); omega, (by show va_P _ _ _ t.heap; rw [ht]; exact hP9)⟩, hS.F ht⟩) hS.2.2 dX12_asks_24
  · skip
    have t5638 := cv_nle (a := z5634.toInt) rfl (b := 0) (by decide) c5636
    refine lv_iconst (v := 1) hx hb dX12_asks_19 (by decide) ?_
    refine lv_goto (tgt := 24) hx hb dX12_asks_20 (by decide) ?_
    have hP9 : va_P (dC, dI) classes (wM g c v F rc) H := hP
    exact W.zret (v := 1) hx hb hr (rfl) (fun t ht hW => ⟨⟨1, (), rfl, by have : (1 : Int32).toInt = 1 := (by decide); omega, (by show va_P _ _ _ t.heap; rw [ht]; exact hP9)⟩, hS.F ht⟩) hS.2.2 dX12_asks_24
set_option maxHeartbeats 8000000 in
set_option maxRecDepth 100000 in
theorem c_X12_done (l : Launch) (dC : Nat → ClassId) (dI : Nat → Nat → Nat) (g : Nat → Nat) (c : Nat → ClassId) (adK adV : Nat → Nat) (v : Nat → Int32) (F : Nat → Nat → Int32) (rc sz : Nat) (p0 : Int32) (p1 : Int32) (hg : injM g) (hI : IM v F) : Met l yX12_done (Cond.code yX12_done cX12_done 3 (some .int) :: wA) ({ frames := 3, cells := 0, slots := 0, locals := 120 }) (va_Pc [.ref (g 0), .int p0, .int p1] (PM dC dI g c adK adV v F rc sz)) (va_Qi (fun (r : Int32) (u : StM) => IM u.1 u.2.1 ∧ u.2.2 = rc ∧ (∀ k, k ∉ ([] : List Nat) → u.1 k = v k) ∧ (∀ k, k ∉ ([34] : List Nat) → u.2.1 k = F k) ∧ True) (BM dC dI g c) (AM g sz)) 0 0 (AM g sz) := by
  refine Met.ofW (cc := cX12_done) (maxL := 3) (ret := (some .int)) (by decide) rfl ?_
  intro p e s m args below meth c0 s₁ B hml hv
  obtain ⟨rfl, hsz, hP, hK, hE⟩ := hv
  have hx := B.exec
  have hb := B.bytes
  have hr := B.returns
  have hts := atoms_spec (ws := Cond.code yX12_done cX12_done 3 (some .int) :: wA) B.pre
  have hwd : ∀ w ∈ wA, w.before _ s = true := fun w h => hts w (List.mem_cons_of_mem _ h)
  have hown : s.vm.findClass RX12 = some m.cls := findClass_of_methodNamed B.named
  have hlocks := B.notSynchronized
  subst hsz
  have hl := lv_entry ([.ref (g 0), .int p0, .int p1]) (n := 3) (Nat.le_of_ble_eq_true rfl)
  rw [lg_entry_eq]
  generalize (lg_sl ([.ref (g 0), .int p0, .int p1]) ++ List.replicate (3 - (lg_sl ([.ref (g 0), .int p0, .int p1])).length) Slot.unset).toArray = ls at hl ⊢
  have hl : lv_has ls 3 [(0, .ref (g 0)), (1, .int p0), (2, .int p1)] := hl
  obtain ⟨H, eH⟩ : ∃ z, z = s.heap := ⟨_, rfl⟩
  have hP : va_P (dC, dI) classes (wM g c v F rc) H := by rw [eH]; exact hP
  have hS : va_S (AM g s.heap.size) s.heap H [] := by rw [eH]; exact va_S.rf
  refine my_heap eH ?_
  have hF : ∀ k, k ∉ ([34] : List Nat) → F k = F k := fun _ _ => rfl
  have rp0 := i32_rng p0
  have rp1 := i32_rng p1
  refine lv_iload_n hx hb dX12_done_0 rfl (lv_at hl 1 rfl) ?_
  refine lv_iconst (v := 0) hx hb dX12_done_1 (by decide) ?_
  refine lv_aload_n hx hb dX12_done_2 rfl (lv_at hl 0 rfl) ?_
  refine va_get (D := (dC, dI)) (ci := 12) (v := .int (v 45)) (C := RX12) (T := TX12) (N := 63) hx hb hwd inA_X12 hown hK hP 0 rfl rfl 45 (by decide) (hwd _ wk_485) (fun _ h9 => h9) rfl dX12_done_3 ?_
  have t5675 : 0 ≤ (v 45).toInt ∧ (v 45).toInt ≤ 20 := hI.1 45 _ _ rfl
  refine lv_iconst (v := 1) hx hb dX12_done_6 (by decide) ?_
  refine lv_isub hx hb dX12_done_7 ?_
  refine lv_topi (fun z5676 e5677 => ?_)
  try (have t5678 := tsub e5677 (a := (v 45).toInt) rfl (b := 1) (by decide) (by omega))
  refine va_calli (va_runS (As := [.int p0, .int 0, .int z5676]) (rest := []) ⟨hx, hb, hml, hown, hwd⟩ (c_X12_in l dC dI g c adK adV v F rc H.size p0 0 z5676 hg hI ) (va_cwS 3 hwd (gT wk_254 wk_252 wk_253 wk_5) rfl rfl rfl (by decide +kernel) ⟨Nat.le_of_ble_eq_true rfl, Nat.le_of_ble_eq_true rfl⟩) ⟨PM.blind, fun U hU hW => ⟨rfl, PM.at hK hE hP hS hU hW⟩⟩ rfl rfl hl.1 rfl (lv_room (Nat.le_of_ble_eq_true rfl)) dX12_done_8 ⟨Nat.le_of_ble_eq_true rfl, Nat.le_of_ble_eq_true rfl⟩) hS (fun q _ h => (freeM hS) q h) (freeM hS) (fun r5679 u t H1 locs ht hvm hw hB hz1 hk1 hS => ?_)
  unfold BM at hB
  rw [ht] at hB
  have hP : va_P (dC, dI) classes (wM g c v F rc) H1 := hB
  have hw_r5679 : (r5679.toInt = 1 ∧ (0 : Int32).toInt ≤ p0.toInt ∧ p0.toInt ≤ z5676.toInt) ∨ (r5679.toInt = 0 ∧ (p0.toInt < (0 : Int32).toInt ∨ z5676.toInt < p0.toInt)) := hw
  clear hw
  have k5680 : (0 : Int32).toInt = 0 := by decide
  clear hz1
  generalize H1 = H at hP hS ⊢
  refine lv_if_eq (tgt := 22) hx hb dX12_done_11 (by decide) (fun c5681 => ?_) (fun c5681 => ?_)
  · skip
    have t5682 := cv_eq (a := r5679.toInt) rfl (b := 0) (by decide) c5681
    refine lv_iconst (v := (-1)) hx hb dX12_done_22 (by decide) ?_
    have hP9 : va_P (dC, dI) classes (wM g c v F rc) H := hP
    exact W.iret (v := (-1)) hx hb hr (fun t ht hW => ⟨⟨(-1), (v, F, rc), rfl, ⟨hI, rfl, (fun _ _ => rfl), hF, trivial⟩, (by show va_P _ _ _ t.heap; rw [ht]; exact hP9)⟩, hS.F ht⟩) hS.2.2 dX12_done_23
  · skip
    have t5683 := cv_ne (a := r5679.toInt) rfl (b := 0) (by decide) c5681
    refine lv_aload_n hx hb dX12_done_14 rfl (lv_at hl 0 rfl) ?_
    refine lv_iload_n hx hb dX12_done_15 rfl (lv_at hl 2 rfl) ?_
    have t5684 : 0 ≤ (v 6).toInt ∧ (v 6).toInt ≤ 10 := hI.1 6 _ _ rfl
    refine va_calli (va_runV (As := [.int p1]) (rest := []) ⟨hx, hb, hml, hown, hwd⟩ (c_X12_isPlane l dC dI g c adK adV v F rc H.size p1 hg hI ) (cwV 1 hwd (gV wk_305 wk_302 wk_303 wk_304 wk_5) rfl rfl rfl (by decide +kernel) ⟨Nat.le_of_ble_eq_true rfl, Nat.le_of_ble_eq_true rfl⟩) ⟨PM.blind, va_recv hK hP (ci := 12) (q0 := 0) rfl rfl, fun U hU hW => ⟨rfl, PM.at hK hE hP hS hU hW⟩⟩ rfl rfl hl.1 rfl (lv_room (Nat.le_of_ble_eq_true rfl)) dX12_done_16 ⟨Nat.le_of_ble_eq_true rfl, Nat.le_of_ble_eq_true rfl⟩) hS (fun q _ h => (freeM hS) q h) (freeM hS) (fun r5685 u t H1 locs ht hvm hw hB hz1 hk1 hS => ?_)
    unfold BM at hB
    rw [ht] at hB
    have hP : va_P (dC, dI) classes (wM g c v F rc) H1 := hB
    replace hw : (r5685.toInt = 1 ∧ 0 ≤ p1.toInt ∧ p1.toInt < (v 6).toInt) ∨ (r5685.toInt = 0 ∧ (p1.toInt < 0 ∨ (v 6).toInt ≤ p1.toInt)) := hw
    have hw_r5685 := hw
    clear hw
    clear hz1
    generalize H1 = H at hP hS ⊢
    refine lv_if_ne (tgt := 24) hx hb dX12_done_19 (by decide) (fun c5686 => ?_) (fun c5686 => ?_)
    · skip
      have t5687 := cv_ne (a := r5685.toInt) rfl (b := 0) (by decide) c5686
      refine lv_aload_n hx hb dX12_done_24 rfl (lv_at hl 0 rfl) ?_
      refine va_get (D := (dC, dI)) (ci := 12) (v := .ref (g 34)) (C := RX12) (T := TX12) (N := 63) hx hb hwd inA_X12 hown hK hP 0 rfl rfl 48 (by decide) (hwd _ wk_216) (fun _ h9 => h9) rfl dX12_done_25 ?_
      refine lv_bipush (v := 10) hx hb dX12_done_28 (by decide) ?_
      refine lv_iload_n hx hb dX12_done_30 rfl (lv_at hl 1 rfl) ?_
      refine lv_imul hx hb dX12_done_31 ?_
      refine lv_topi (fun z5688 e5689 => ?_)
      try (have t5690 := tmul e5689 (a := 10) (by decide) (b := p0.toInt) rfl (by omega))
      refine lv_iload_n hx hb dX12_done_32 rfl (lv_at hl 2 rfl) ?_
      refine lv_iadd hx hb dX12_done_33 ?_
      refine lv_topi (fun z5691 e5692 => ?_)
      try (have t5693 := tadd e5692 (a := z5688.toInt) rfl (b := p1.toInt) rfl (by omega))
      refine va_zald hx hb hK hP 34 33 rfl rfl (i := z5691) (vin (a := z5691.toInt) rfl (by omega)) dX12_done_34 ?_
      refine lv_topi (fun z5694 e5695 => ?_)
      refine lv_if_ne (tgt := 47) hx hb dX12_done_35 (by decide) (fun c5696 => ?_) (fun c5696 => ?_)
      · skip
        have t5697 := cv_ne (a := z5694.toInt) rfl (b := 0) (by decide) c5696
        refine lv_bipush (v := (-2)) hx hb dX12_done_47 (by decide) ?_
        have hP9 : va_P (dC, dI) classes (wM g c v F rc) H := hP
        exact W.iret (v := (-2)) hx hb hr (fun t ht hW => ⟨⟨(-2), (v, F, rc), rfl, ⟨hI, rfl, (fun _ _ => rfl), hF, trivial⟩, (by show va_P _ _ _ t.heap; rw [ht]; exact hP9)⟩, hS.F ht⟩) hS.2.2 dX12_done_49
      · skip
        have t5698 := cv_eq (a := z5694.toInt) rfl (b := 0) (by decide) c5696
        refine lv_aload_n hx hb dX12_done_38 rfl (lv_at hl 0 rfl) ?_
        refine lv_iload_n hx hb dX12_done_39 rfl (lv_at hl 1 rfl) ?_
        refine lv_iload_n hx hb dX12_done_40 rfl (lv_at hl 2 rfl) ?_
        refine va_calli (va_runV (As := [.int p0, .int p1]) (rest := []) ⟨hx, hb, hml, hown, hwd⟩ (c_X12_asks l dC dI g c adK adV v F rc H.size p0 p1 hg hI (by omega) (by omega)) (cwV 2 hwd (gV wk_520 wk_517 wk_518 wk_519 wk_5) rfl rfl rfl (by decide +kernel) ⟨Nat.le_of_ble_eq_true rfl, Nat.le_of_ble_eq_true rfl⟩) ⟨PM.blind, va_recv hK hP (ci := 12) (q0 := 0) rfl rfl, fun U hU hW => ⟨rfl, PM.at hK hE hP hS hU hW⟩⟩ rfl rfl hl.1 rfl (lv_room (Nat.le_of_ble_eq_true rfl)) dX12_done_41 ⟨Nat.le_of_ble_eq_true rfl, Nat.le_of_ble_eq_true rfl⟩) hS (fun q _ h => (freeM hS) q h) (freeM hS) (fun r5699 u t H1 locs ht hvm hw hB hz1 hk1 hS => ?_)
        unfold BM at hB
        rw [ht] at hB
        have hP : va_P (dC, dI) classes (wM g c v F rc) H1 := hB
        have hw_r5699 : 0 ≤ r5699.toInt ∧ r5699.toInt ≤ 1 := hw
        clear hw
        clear hz1
        generalize H1 = H at hP hS ⊢
        refine lv_if_ne (tgt := 50) hx hb dX12_done_44 (by decide) (fun c5700 => ?_) (fun c5700 => ?_)
        · skip
          have t5701 := cv_ne (a := r5699.toInt) rfl (b := 0) (by decide) c5700
          refine lv_aload_n hx hb dX12_done_50 rfl (lv_at hl 0 rfl) ?_
          refine va_get (D := (dC, dI)) (ci := 12) (v := .ref (g 34)) (C := RX12) (T := TX12) (N := 63) hx hb hwd inA_X12 hown hK hP 0 rfl rfl 48 (by decide) (hwd _ wk_216) (fun _ h9 => h9) rfl dX12_done_51 ?_
          refine lv_bipush (v := 10) hx hb dX12_done_54 (by decide) ?_
          refine lv_iload_n hx hb dX12_done_56 rfl (lv_at hl 1 rfl) ?_
          refine lv_imul hx hb dX12_done_57 ?_
          refine lv_topi (fun z5702 e5703 => ?_)
          try (have t5704 := tmul e5703 (a := 10) (by decide) (b := p0.toInt) rfl (by omega))
          refine lv_iload_n hx hb dX12_done_58 rfl (lv_at hl 2 rfl) ?_
          refine lv_iadd hx hb dX12_done_59 ?_
          refine lv_topi (fun z5705 e5706 => ?_)
          try (have t5707 := tadd e5706 (a := z5702.toInt) rfl (b := p1.toInt) rfl (by omega))
          refine lv_iconst (v := 1) hx hb dX12_done_60 (by decide) ?_
          refine va_zast hx hb hK hP (DM hg) hS 34 33 rfl rfl (i := z5705) (x := 1) (vin (a := z5705.toInt) rfl (by omega)) dX12_done_61 (fun H locs hP _ hS => ?_)
          have hP := va_P_eq (sM_34 g c _ _ _ _) hP
          have hI := IM.store0 hI 34 (z5705 : Int32).toNatClampNeg (vp_nar .boolean 1) rfl
          have hF := frUF (k := 34) (f := upd (F 34) (z5705 : Int32).toNatClampNeg (vp_nar .boolean 1)) (by decide) hF
          have hP : va_P (dC, dI) classes (wM g c v (va_up F 34 (upd (F 34) (z5705 : Int32).toNatClampNeg (vp_nar .boolean 1))) rc) H := hP
          generalize (va_up F 34 (upd (F 34) (z5705 : Int32).toNatClampNeg (vp_nar .boolean 1))) = F5708 at hP hI hF
          refine lv_iconst (v := 1) hx hb dX12_done_62 (by decide) ?_
          have hP9 : va_P (dC, dI) classes (wM g c v F5708 rc) H := hP
          exact W.iret (v := 1) hx hb hr (fun t ht hW => ⟨⟨1, (v, F5708, rc), rfl, ⟨hI, rfl, (fun _ _ => rfl), hF, trivial⟩, (by show va_P _ _ _ t.heap; rw [ht]; exact hP9)⟩, hS.F ht⟩) hS.2.2 dX12_done_63
        · skip
          have t5709 := cv_eq (a := r5699.toInt) rfl (b := 0) (by decide) c5700
          refine lv_bipush (v := (-2)) hx hb dX12_done_47 (by decide) ?_
          have hP9 : va_P (dC, dI) classes (wM g c v F rc) H := hP
          exact W.iret (v := (-2)) hx hb hr (fun t ht hW => ⟨⟨(-2), (v, F, rc), rfl, ⟨hI, rfl, (fun _ _ => rfl), hF, trivial⟩, (by show va_P _ _ _ t.heap; rw [ht]; exact hP9)⟩, hS.F ht⟩) hS.2.2 dX12_done_49
    · skip
      have t5710 := cv_eq (a := r5685.toInt) rfl (b := 0) (by decide) c5686
      refine lv_iconst (v := (-1)) hx hb dX12_done_22 (by decide) ?_
      have hP9 : va_P (dC, dI) classes (wM g c v F rc) H := hP
      exact W.iret (v := (-1)) hx hb hr (fun t ht hW => ⟨⟨(-1), (v, F, rc), rfl, ⟨hI, rfl, (fun _ _ => rfl), hF, trivial⟩, (by show va_P _ _ _ t.heap; rw [ht]; exact hP9)⟩, hS.F ht⟩) hS.2.2 dX12_done_23
set_option maxHeartbeats 8000000 in
set_option maxRecDepth 100000 in
theorem c_X12_board (l : Launch) (dC : Nat → ClassId) (dI : Nat → Nat → Nat) (g : Nat → Nat) (c : Nat → ClassId) (adK adV : Nat → Nat) (v : Nat → Int32) (F : Nat → Nat → Int32) (rc sz : Nat) (p0 : Int32) (hg : injM g) (hI : IM v F) : Met l yX12_board (Cond.code yX12_board cX12_board 3 none :: wA) ({ frames := 1, cells := 0, slots := 0, locals := 40 }) (va_Pc [.ref (g 0), .int p0] (PM dC dI g c adK adV v F rc sz)) (va_Qv (fun (u : StM) => IM u.1 u.2.1 ∧ u.2.2 = rc ∧ (∀ k, k ∉ ([] : List Nat) → u.1 k = v k) ∧ (∀ k, k ∉ ([42] : List Nat) → u.2.1 k = F k) ∧ (∀ j : Nat, (j : Int) < (v 14).toInt → (u.2.1 42 j).toInt ≠ 0 → (F 13 j).toInt = p0.toInt)) (BM dC dI g c) (AM g sz)) 0 0 (AM g sz) := by
  refine Met.ofW (cc := cX12_board) (maxL := 3) (ret := none) (by decide) rfl ?_
  intro p e s m args below meth c0 s₁ B hml hv
  obtain ⟨rfl, hsz, hP, hK, hE⟩ := hv
  have hx := B.exec
  have hb := B.bytes
  have hr := B.returns
  have hts := atoms_spec (ws := Cond.code yX12_board cX12_board 3 none :: wA) B.pre
  have hwd : ∀ w ∈ wA, w.before _ s = true := fun w h => hts w (List.mem_cons_of_mem _ h)
  have hown : s.vm.findClass RX12 = some m.cls := findClass_of_methodNamed B.named
  have hlocks := B.notSynchronized
  subst hsz
  have hl := lv_entry ([.ref (g 0), .int p0]) (n := 3) (Nat.le_of_ble_eq_true rfl)
  rw [lg_entry_eq]
  generalize (lg_sl ([.ref (g 0), .int p0]) ++ List.replicate (3 - (lg_sl ([.ref (g 0), .int p0])).length) Slot.unset).toArray = ls at hl ⊢
  have hl : lv_has ls 3 [(0, .ref (g 0)), (1, .int p0)] := hl
  obtain ⟨H, eH⟩ : ∃ z, z = s.heap := ⟨_, rfl⟩
  have hP : va_P (dC, dI) classes (wM g c v F rc) H := by rw [eH]; exact hP
  have hS : va_S (AM g s.heap.size) s.heap H [] := by rw [eH]; exact va_S.rf
  refine my_heap eH ?_
  have hF : ∀ k, k ∉ ([42] : List Nat) → F k = F k := fun _ _ => rfl
  have rp0 := i32_rng p0
  refine lv_iconst (v := 0) hx hb dX12_board_0 (by decide) ?_
  refine lv_istore_n (lv' := [(2, .int 0), (0, .ref (g 0)), (1, .int p0)]) hx hb dX12_board_1 rfl hl (by decide) rfl (fun ls hl => ?_)
  have lp5736 : ∀ (n : Nat) (x2_lp5736 : Int32) (v_lp5736 : Nat → Int32) (F_lp5736 : Nat → Nat → Int32) (H : Heap) (locs : List Loc) (ls : Array Slot), (0 ≤ x2_lp5736.toInt) → (∀ j : Nat, (j : Int) < x2_lp5736.toInt → (F_lp5736 42 j).toInt ≠ 0 → (F 13 j).toInt = p0.toInt) → (2147483648 - x2_lp5736.toInt ≤ (n : Int)) → (∀ k, k ∉ ([] : List Nat) → v_lp5736 k = v k) → IM v_lp5736 F_lp5736 → (∀ k, k ∉ ([42] : List Nat) → F_lp5736 k = F k) → va_P (dC, dI) classes (wM g c v_lp5736 F_lp5736 rc) H → va_S (AM g s.heap.size) s.heap H locs → lv_has ls 3 [(2, .int x2_lp5736), (0, .ref (g 0)), (1, .int p0)] → W p l e (headSpec (Cond.code yX12_board cX12_board 3 none :: wA) ({ frames := 1, cells := 0, slots := 0, locals := 40 })).room s m ([.ref (g 0), .int p0] : List Value).toArray below meth c0 H locs 0 0 (MQ below (va_Qv (fun (u : StM) => IM u.1 u.2.1 ∧ u.2.2 = rc ∧ (∀ k, k ∉ ([] : List Nat) → u.1 k = v k) ∧ (∀ k, k ∉ ([42] : List Nat) → u.2.1 k = F k) ∧ (∀ j : Nat, (j : Int) < (v 14).toInt → (u.2.1 42 j).toInt ≠ 0 → (F 13 j).toInt = p0.toInt)) (BM dC dI g c) (AM g s.heap.size)) ([.ref (g 0), .int p0] : List Value).toArray s 0 0 (AM g s.heap.size)) (F0 m 2 ls []) := by
    intro n
    induction n with
    | zero =>
      intro x2_lp5736 v_lp5736 F_lp5736 H locs ls t5737 t5738 hm hf_lp5736 hI hF hP hS hl
      exfalso
      have := i32_rng x2_lp5736
      have hI1 := hI.1
      omega
    | succ n ih_lp5736 =>
      intro x2_lp5736 v_lp5736 F_lp5736 H locs ls t5737 t5738 hm hf_lp5736 hI hF hP hS hl
      have rx2_lp5736 := i32_rng x2_lp5736
      refine lv_iload_n hx hb dX12_board_2 rfl (lv_at hl 0 rfl) ?_
      refine lv_aload_n hx hb dX12_board_3 rfl (lv_at hl 1 rfl) ?_
      refine va_get (D := (dC, dI)) (ci := 12) (v := .int (v_lp5736 14)) (C := RX12) (T := TX12) (N := 63) hx hb hwd inA_X12 hown hK hP 0 rfl rfl 14 (by decide) (hwd _ wk_318) (fun _ h9 => h9) rfl dX12_board_4 ?_
      refine my_top (v := v 14) (hf_lp5736 14 (by decide)) ?_
      have t5739 : 0 ≤ (v 14).toInt ∧ (v 14).toInt ≤ 100 := by have h9 := hI.1 14 _ _ rfl; rw [show v_lp5736 14 = v 14 from hf_lp5736 14 (by decide)] at h9; exact h9
      refine lv_icmp_ge (tgt := 37) hx hb dX12_board_7 (by decide) (fun c5740 => ?_) (fun c5740 => ?_)
      · skip
        have t5741 := cv_le (a := (v 14).toInt) rfl (b := x2_lp5736.toInt) rfl c5740
        have hP9 : va_P (dC, dI) classes (wM g c v_lp5736 F_lp5736 rc) H := hP
        exact W.vret hx hb hr (fun t ht hW => ⟨⟨(v_lp5736, F_lp5736, rc), rfl, ⟨hI, rfl, (frC (by decide) hf_lp5736 (fun _ _ => rfl)), hF, (fun j h1 h2 => t5738 j (by have h9 : v_lp5736 14 = v 14 := hf_lp5736 14 (by decide); omega) h2)⟩, (by show va_P _ _ _ t.heap; rw [ht]; exact hP9)⟩, hS.F ht⟩) hS.2.2 dX12_board_37
      · skip
        have t5742 := cv_nle (a := (v 14).toInt) rfl (b := x2_lp5736.toInt) rfl c5740
        refine lv_aload_n hx hb dX12_board_10 rfl (lv_at hl 1 rfl) ?_
        refine va_get (D := (dC, dI)) (ci := 12) (v := .ref (g 42)) (C := RX12) (T := TX12) (N := 63) hx hb hwd inA_X12 hown hK hP 0 rfl rfl 56 (by decide) (hwd _ wk_224) (fun _ h9 => h9) rfl dX12_board_11 ?_
        refine lv_iload_n hx hb dX12_board_14 rfl (lv_at hl 0 rfl) ?_
        refine lv_aload_n hx hb dX12_board_15 rfl (lv_at hl 1 rfl) ?_
        refine va_get (D := (dC, dI)) (ci := 12) (v := .ref (g 13)) (C := RX12) (T := TX12) (N := 63) hx hb hwd inA_X12 hown hK hP 0 rfl rfl 17 (by decide) (hwd _ wk_194) (fun _ h9 => h9) rfl dX12_board_16 ?_
        refine lv_iload_n hx hb dX12_board_19 rfl (lv_at hl 0 rfl) ?_
        refine va_iald hx hb hK hP 13 12 rfl rfl (i := x2_lp5736) (vin (a := x2_lp5736.toInt) rfl (by omega)) dX12_board_20 ?_
        refine lv_topi (fun z5743 e5744 => ?_)
        have t5745 : 0 ≤ z5743.toInt ∧ z5743.toInt ≤ 12 := by rw [e5744]; exact hI.2 13 _ _ rfl _
        have e5744 : z5743 = F 13 (x2_lp5736 : Int32).toNatClampNeg := e5744.trans (congrFun (hF 13 (by decide)) _)
        have tzz5743 : z5743.toInt = (F 13 (x2_lp5736 : Int32).toNatClampNeg).toInt := congrArg Int32.toInt e5744
        refine lv_iload_n hx hb dX12_board_21 rfl (lv_at hl 2 rfl) ?_
        refine lv_icmp_ne (tgt := 29) hx hb dX12_board_22 (by decide) (fun c5746 => ?_) (fun c5746 => ?_)
        · skip
          have t5747 := cv_ne (a := z5743.toInt) rfl (b := p0.toInt) rfl c5746
          refine lv_iconst (v := 0) hx hb dX12_board_29 (by decide) ?_
          refine va_zast hx hb hK hP (DM hg) hS 42 41 rfl rfl (i := x2_lp5736) (x := 0) (vin (a := x2_lp5736.toInt) rfl (by omega)) dX12_board_30 (fun H locs hP _ hS => ?_)
          have hP := va_P_eq (sM_42 g c _ _ _ _) hP
          have hI := IM.store0 hI 42 (x2_lp5736 : Int32).toNatClampNeg (vp_nar .boolean 0) rfl
          have hF := frUF (k := 42) (f := upd (F_lp5736 42) (x2_lp5736 : Int32).toNatClampNeg (vp_nar .boolean 0)) (by decide) hF
          have st5749 : (va_up F_lp5736 42 (upd (F_lp5736 42) (x2_lp5736 : Int32).toNatClampNeg (vp_nar .boolean 0))) 42 = upd (F_lp5736 42) (x2_lp5736 : Int32).toNatClampNeg (vp_nar .boolean 0) := va_up_self _ _ _
          have sn5750 : ∀ k9, k9 ≠ 42 → (va_up F_lp5736 42 (upd (F_lp5736 42) (x2_lp5736 : Int32).toNatClampNeg (vp_nar .boolean 0))) k9 = F_lp5736 k9 := fun k9 h9 => va_up_ne _ _ h9
          have hP : va_P (dC, dI) classes (wM g c v_lp5736 (va_up F_lp5736 42 (upd (F_lp5736 42) (x2_lp5736 : Int32).toNatClampNeg (vp_nar .boolean 0))) rc) H := hP
          generalize (va_up F_lp5736 42 (upd (F_lp5736 42) (x2_lp5736 : Int32).toNatClampNeg (vp_nar .boolean 0))) = F5748 at hP hI hF st5749 sn5750
          obtain ⟨z5751, e5752⟩ : ∃ y : Int32, y = x2_lp5736 + 1 := ⟨_, rfl⟩
          try (have t5753 := tadd e5752 rfl (b := 1) (by decide) (by omega))
          refine lv_iinc (v := z5751) (lv' := [(2, .int z5751), (0, .ref (g 0)), (1, .int p0)]) hx hb dX12_board_31 hl (k := 0) rfl (by rw [e5752]; rfl) (by decide) rfl (fun ls hl => ?_)
          refine lv_goto (tgt := 2) hx hb dX12_board_34 (by decide) ?_
          exact ih_lp5736 z5751 v_lp5736 F5748 _ _ _ (by omega) (bd_step (by omega) st5749 t5738 (by first | exact (fun _ => by omega) | exact (fun h => absurd (by decide) h))) (by omega) hf_lp5736 hI hF hP hS (lv_sub hl [0, 1, 2] rfl)
        · skip
          have t5754 := cv_eq (a := z5743.toInt) rfl (b := p0.toInt) rfl c5746
          refine lv_iconst (v := 1) hx hb dX12_board_25 (by decide) ?_
          refine lv_goto (tgt := 30) hx hb dX12_board_26 (by decide) ?_
          refine va_zast hx hb hK hP (DM hg) hS 42 41 rfl rfl (i := x2_lp5736) (x := 1) (vin (a := x2_lp5736.toInt) rfl (by omega)) dX12_board_30 (fun H locs hP _ hS => ?_)
          have hP := va_P_eq (sM_42 g c _ _ _ _) hP
          have hI := IM.store0 hI 42 (x2_lp5736 : Int32).toNatClampNeg (vp_nar .boolean 1) rfl
          have hF := frUF (k := 42) (f := upd (F_lp5736 42) (x2_lp5736 : Int32).toNatClampNeg (vp_nar .boolean 1)) (by decide) hF
          have st5756 : (va_up F_lp5736 42 (upd (F_lp5736 42) (x2_lp5736 : Int32).toNatClampNeg (vp_nar .boolean 1))) 42 = upd (F_lp5736 42) (x2_lp5736 : Int32).toNatClampNeg (vp_nar .boolean 1) := va_up_self _ _ _
          have sn5757 : ∀ k9, k9 ≠ 42 → (va_up F_lp5736 42 (upd (F_lp5736 42) (x2_lp5736 : Int32).toNatClampNeg (vp_nar .boolean 1))) k9 = F_lp5736 k9 := fun k9 h9 => va_up_ne _ _ h9
          have hP : va_P (dC, dI) classes (wM g c v_lp5736 (va_up F_lp5736 42 (upd (F_lp5736 42) (x2_lp5736 : Int32).toNatClampNeg (vp_nar .boolean 1))) rc) H := hP
          generalize (va_up F_lp5736 42 (upd (F_lp5736 42) (x2_lp5736 : Int32).toNatClampNeg (vp_nar .boolean 1))) = F5755 at hP hI hF st5756 sn5757
          obtain ⟨z5758, e5759⟩ : ∃ y : Int32, y = x2_lp5736 + 1 := ⟨_, rfl⟩
          try (have t5760 := tadd e5759 rfl (b := 1) (by decide) (by omega))
          refine lv_iinc (v := z5758) (lv' := [(2, .int z5758), (0, .ref (g 0)), (1, .int p0)]) hx hb dX12_board_31 hl (k := 0) rfl (by rw [e5759]; rfl) (by decide) rfl (fun ls hl => ?_)
          refine lv_goto (tgt := 2) hx hb dX12_board_34 (by decide) ?_
          exact ih_lp5736 z5758 v_lp5736 F5755 _ _ _ (by omega) (bd_step (by omega) st5756 t5738 (by first | exact (fun _ => by omega) | exact (fun h => absurd (by decide) h))) (by omega) hf_lp5736 hI hF hP hS (lv_sub hl [0, 1, 2] rfl)
  obtain ⟨n9, hn9⟩ : ∃ n : Nat, 2147483648 - 0 ≤ (n : Int) := ⟨((2147483648 - 0 : Int)).toNat, by omega⟩
  exact lp5736 n9 0 v F H _ ls (by have : (0 : Int32).toInt = 0 := (by decide); omega) (fun j h => absurd h (by have : (0 : Int32).toInt = 0 := (by decide); omega)) (by have : (0 : Int32).toInt = 0 := (by decide); omega) (fun _ _ => rfl) hI hF hP hS hl
