set_option maxHeartbeats 8000000 in
set_option maxRecDepth 100000 in
theorem c_X12_lacksOf (l : Launch) (dC : Nat → ClassId) (dI : Nat → Nat → Nat) (g : Nat → Nat) (c : Nat → ClassId) (adK adV : Nat → Nat) (v : Nat → Int32) (F : Nat → Nat → Int32) (rc sz : Nat) (p0 : Int32) (p1 : Int32) (p2 : Int32) (p3 : Int32) (hg : injM g) (hI : IM v F) (h0 : 0 ≤ p0.toInt ∧ p0.toInt ≤ 9) (h1 : 0 ≤ p1.toInt ∧ p1.toInt ≤ 30) (hL : JL (v 31) (F 28) (F 29) (F 27)) : Met l yX12_lacksOf (Cond.code yX12_lacksOf cX12_lacksOf 11 (some .int) :: wA) ({ frames := 5, cells := 0, slots := 0, locals := 200 }) (va_Pc [.ref (g 0), .int p0, .int p1, .int p2, .int p3] (PM dC dI g c adK adV v F rc sz)) (va_Qi (fun (r : Int32) (u : StM) => IM u.1 u.2.1 ∧ u.2.2 = rc ∧ (∀ k, k ∉ ([] : List Nat) → u.1 k = v k) ∧ (∀ k, k ∉ ([30, 31] : List Nat) → u.2.1 k = F k) ∧ True) (BM dC dI g c) (AM g sz)) 0 0 (AM g sz) := by
  refine Met.ofW (cc := cX12_lacksOf) (maxL := 11) (ret := (some .int)) (by decide) rfl ?_
  intro p e s m args below meth c0 s₁ B hml hv
  obtain ⟨rfl, hsz, hP, hK, hE⟩ := hv
  have hx := B.exec
  have hb := B.bytes
  have hr := B.returns
  have hts := atoms_spec (ws := Cond.code yX12_lacksOf cX12_lacksOf 11 (some .int) :: wA) B.pre
  have hwd : ∀ w ∈ wA, w.before _ s = true := fun w h => hts w (List.mem_cons_of_mem _ h)
  have hown : s.vm.findClass RX12 = some m.cls := findClass_of_methodNamed B.named
  have hlocks := B.notSynchronized
  subst hsz
  have hl := lv_entry ([.ref (g 0), .int p0, .int p1, .int p2, .int p3]) (n := 11) (Nat.le_of_ble_eq_true rfl)
  rw [lg_entry_eq]
  generalize (lg_sl ([.ref (g 0), .int p0, .int p1, .int p2, .int p3]) ++ List.replicate (11 - (lg_sl ([.ref (g 0), .int p0, .int p1, .int p2, .int p3])).length) Slot.unset).toArray = ls at hl ⊢
  have hl : lv_has ls 11 [(0, .ref (g 0)), (1, .int p0), (2, .int p1), (3, .int p2), (4, .int p3)] := hl
  obtain ⟨H, eH⟩ : ∃ z, z = s.heap := ⟨_, rfl⟩
  have hP : va_P (dC, dI) classes (wM g c v F rc) H := by rw [eH]; exact hP
  have hS : va_S (AM g s.heap.size) s.heap H [] := by rw [eH]; exact va_S.rf
  refine my_heap eH ?_
  have hF : ∀ k, k ∉ ([30, 31] : List Nat) → F k = F k := fun _ _ => rfl
  have rp0 := i32_rng p0
  have rp1 := i32_rng p1
  have rp2 := i32_rng p2
  have rp3 := i32_rng p3
  have hb31 : 0 ≤ (v 31).toInt ∧ (v 31).toInt ≤ 10 := hI.1 31 _ _ rfl
  refine lv_bipush (v := 32) hx hb dX12_lacksOf_0 (by decide) ?_
  refine lv_iload_n hx hb dX12_lacksOf_2 rfl (lv_at hl 1 rfl) ?_
  refine lv_imul hx hb dX12_lacksOf_3 ?_
  refine lv_topi (fun z15336 e15337 => ?_)
  try (have t15338 := tmul e15337 (a := 32) (by decide) (b := p0.toInt) rfl (by omega))
  refine lv_iload_n hx hb dX12_lacksOf_4 rfl (lv_at hl 2 rfl) ?_
  refine lv_iadd hx hb dX12_lacksOf_5 ?_
  refine lv_topi (fun z15339 e15340 => ?_)
  try (have t15341 := tadd e15340 (a := z15336.toInt) rfl (b := p1.toInt) rfl (by omega))
  refine lv_istore (lv' := [(5, .int z15339), (0, .ref (g 0)), (1, .int p0), (2, .int p1), (3, .int p2), (4, .int p3)]) hx hb dX12_lacksOf_6 hl (by decide) rfl (fun ls hl => ?_)
  refine lv_aload_n hx hb dX12_lacksOf_8 rfl (lv_at hl 1 rfl) ?_
  refine va_get (D := (dC, dI)) (ci := 12) (v := .ref (g 38)) (C := RX12) (T := TX12) (N := 63) hx hb hwd inA_X12 hown hK hP 0 rfl rfl 52 (by decide) (hwd _ wk_220) (fun _ h9 => h9) rfl dX12_lacksOf_9 ?_
  refine lv_iload hx hb dX12_lacksOf_12 (lv_at hl 0 rfl) ?_
  refine va_iald hx hb hK hP 38 37 rfl rfl (i := z15339) (vin (a := z15339.toInt) rfl (by omega)) dX12_lacksOf_14 ?_
  refine lv_topi (fun z15342 e15343 => ?_)
  refine lv_istore (lv' := [(6, .int z15342), (5, .int z15339), (0, .ref (g 0)), (1, .int p0), (2, .int p1), (3, .int p2), (4, .int p3)]) hx hb dX12_lacksOf_15 hl (by decide) rfl (fun ls hl => ?_)
  refine lv_iconst (v := 0) hx hb dX12_lacksOf_17 (by decide) ?_
  refine lv_istore (lv' := [(7, .int 0), (6, .int z15342), (5, .int z15339), (0, .ref (g 0)), (1, .int p0), (2, .int p1), (3, .int p2), (4, .int p3)]) hx hb dX12_lacksOf_18 hl (by decide) rfl (fun ls hl => ?_)
  refine lv_iload hx hb dX12_lacksOf_20 (lv_at hl 1 rfl) ?_
  by_cases hlo15344 : z15342.toInt < 100
  · refine lv_tableOut (tgt := 431) hx hb dX12_lacksOf_22 (Or.inl hlo15344) (by decide) ?_
    refine lv_aload_n hx hb dX12_lacksOf_431 rfl (lv_at hl 3 rfl) ?_
    refine lv_iload_n hx hb dX12_lacksOf_432 rfl (lv_at hl 4 rfl) ?_
    refine lv_iload_n hx hb dX12_lacksOf_433 rfl (lv_at hl 6 rfl) ?_
    refine va_calli (va_runV (As := [.int p0, .int p2]) (rest := []) ⟨hx, hb, hml, hown, hwd⟩ (c_X12_late l dC dI g c adK adV v F rc H.size p0 p2 hg hI (by omega)) (cwV 2 hwd (gV wk_1213 wk_1210 wk_1211 wk_1212 wk_5) rfl rfl rfl (by decide +kernel) ⟨Nat.le_of_ble_eq_true rfl, Nat.le_of_ble_eq_true rfl⟩) ⟨PM.blind, va_recv hK hP (ci := 12) (q0 := 0) rfl rfl, fun U hU hW => ⟨rfl, PM.at hK hE hP hS hU hW⟩⟩ rfl rfl hl.1 rfl (lv_room (Nat.le_of_ble_eq_true rfl)) dX12_lacksOf_434 ⟨Nat.le_of_ble_eq_true rfl, Nat.le_of_ble_eq_true rfl⟩) hS (fun q _ h => (freeM hS) q h) (freeM hS) (fun r15346 u t H1 locs ht hvm hw hB hz1 hk1 hS => ?_)
    unfold BM at hB
    rw [ht] at hB
    have hP : va_P (dC, dI) classes (wM g c v F rc) H1 := hB
    clear hz1
    generalize H1 = H at hP hS ⊢
    have rr_r15346 := i32_rng r15346
    have hP9 : va_P (dC, dI) classes (wM g c v F rc) H := hP
    exact W.iret (v := r15346) hx hb hr (fun t ht hW => ⟨⟨r15346, (v, F, rc), rfl, ⟨hI, rfl, (fun _ _ => rfl), hF, trivial⟩, (by show va_P _ _ _ t.heap; rw [ht]; exact hP9)⟩, hS.F ht⟩) hS.2.2 dX12_lacksOf_437
  by_cases hhi15345 : 111 < z15342.toInt
  · refine lv_tableOut (tgt := 431) hx hb dX12_lacksOf_22 (Or.inr hhi15345) (by decide) ?_
    refine lv_aload_n hx hb dX12_lacksOf_431 rfl (lv_at hl 3 rfl) ?_
    refine lv_iload_n hx hb dX12_lacksOf_432 rfl (lv_at hl 4 rfl) ?_
    refine lv_iload_n hx hb dX12_lacksOf_433 rfl (lv_at hl 6 rfl) ?_
    refine va_calli (va_runV (As := [.int p0, .int p2]) (rest := []) ⟨hx, hb, hml, hown, hwd⟩ (c_X12_late l dC dI g c adK adV v F rc H.size p0 p2 hg hI (by omega)) (cwV 2 hwd (gV wk_1213 wk_1210 wk_1211 wk_1212 wk_5) rfl rfl rfl (by decide +kernel) ⟨Nat.le_of_ble_eq_true rfl, Nat.le_of_ble_eq_true rfl⟩) ⟨PM.blind, va_recv hK hP (ci := 12) (q0 := 0) rfl rfl, fun U hU hW => ⟨rfl, PM.at hK hE hP hS hU hW⟩⟩ rfl rfl hl.1 rfl (lv_room (Nat.le_of_ble_eq_true rfl)) dX12_lacksOf_434 ⟨Nat.le_of_ble_eq_true rfl, Nat.le_of_ble_eq_true rfl⟩) hS (fun q _ h => (freeM hS) q h) (freeM hS) (fun r15347 u t H1 locs ht hvm hw hB hz1 hk1 hS => ?_)
    unfold BM at hB
    rw [ht] at hB
    have hP : va_P (dC, dI) classes (wM g c v F rc) H1 := hB
    clear hz1
    generalize H1 = H at hP hS ⊢
    have rr_r15347 := i32_rng r15347
    have hP9 : va_P (dC, dI) classes (wM g c v F rc) H := hP
    exact W.iret (v := r15347) hx hb hr (fun t ht hW => ⟨⟨r15347, (v, F, rc), rfl, ⟨hI, rfl, (fun _ _ => rfl), hF, trivial⟩, (by show va_P _ _ _ t.heap; rw [ht]; exact hP9)⟩, hS.F ht⟩) hS.2.2 dX12_lacksOf_437
  rcases (show z15342.toInt = 100 ∨ z15342.toInt = 101 ∨ z15342.toInt = 102 ∨ z15342.toInt = 103 ∨ z15342.toInt = 104 ∨ z15342.toInt = 105 ∨ z15342.toInt = 106 ∨ z15342.toInt = 107 ∨ z15342.toInt = 108 ∨ z15342.toInt = 109 ∨ z15342.toInt = 110 ∨ z15342.toInt = 111 by omega) with hk | hk | hk | hk | hk | hk | hk | hk | hk | hk | hk | hk
  · refine lv_tableIn (off := 62) (tgt := 84) hx hb dX12_lacksOf_22 hlo15344 hhi15345 (by rw [hk]; decide) (by decide) ?_
    refine lv_iload hx hb dX12_lacksOf_84 (lv_at hl 1 rfl) ?_
    refine lv_bipush (v := 104) hx hb dX12_lacksOf_86 (by decide) ?_
    refine lv_icmp_ne (tgt := 95) hx hb dX12_lacksOf_88 (by decide) (fun c15348 => ?_) (fun c15348 => ?_)
    · skip
      have t15349 := cv_ne (a := z15342.toInt) rfl (b := 104) (by decide) c15348
      refine lv_iload hx hb dX12_lacksOf_95 (lv_at hl 1 rfl) ?_
      refine lv_bipush (v := 108) hx hb dX12_lacksOf_97 (by decide) ?_
      refine lv_icmp_ne (tgt := 106) hx hb dX12_lacksOf_99 (by decide) (fun c15350 => ?_) (fun c15350 => ?_)
      · skip
        have t15351 := cv_ne (a := z15342.toInt) rfl (b := 108) (by decide) c15350
        refine lv_iconst (v := 2) hx hb dX12_lacksOf_106 (by decide) ?_
        refine lv_istore (lv' := [(8, .int 2), (7, .int 0), (6, .int z15342), (5, .int z15339), (0, .ref (g 0)), (1, .int p0), (2, .int p1), (3, .int p2), (4, .int p3)]) hx hb dX12_lacksOf_107 hl (by decide) rfl (fun ls hl => ?_)
        refine lv_iconst (v := 0) hx hb dX12_lacksOf_109 (by decide) ?_
        refine lv_istore (lv' := [(9, .int 0), (8, .int 2), (7, .int 0), (6, .int z15342), (5, .int z15339), (0, .ref (g 0)), (1, .int p0), (2, .int p1), (3, .int p2), (4, .int p3)]) hx hb dX12_lacksOf_110 hl (by decide) rfl (fun ls hl => ?_)
        have lp15352 : ∀ (n : Nat) (x9_lp15352 : Int32) (x7_lp15352 : Int32) (v_lp15352 : Nat → Int32) (F_lp15352 : Nat → Nat → Int32) (H : Heap) (locs : List Loc) (ls : Array Slot), (0 ≤ x9_lp15352.toInt) → (2147483648 - x9_lp15352.toInt ≤ (n : Int)) → (∀ k, k ∉ ([] : List Nat) → v_lp15352 k = v k) → IM v_lp15352 F_lp15352 → (∀ k, k ∉ ([30, 31] : List Nat) → F_lp15352 k = F k) → va_P (dC, dI) classes (wM g c v_lp15352 F_lp15352 rc) H → va_S (AM g s.heap.size) s.heap H locs → lv_has ls 11 [(9, .int x9_lp15352), (8, .int 2), (7, .int x7_lp15352), (6, .int z15342), (5, .int z15339), (0, .ref (g 0)), (1, .int p0), (2, .int p1), (3, .int p2), (4, .int p3)] → W p l e (headSpec (Cond.code yX12_lacksOf cX12_lacksOf 11 (some .int) :: wA) ({ frames := 5, cells := 0, slots := 0, locals := 200 })).room s m ([.ref (g 0), .int p0, .int p1, .int p2, .int p3] : List Value).toArray below meth c0 H locs 0 0 (MQ below (va_Qi (fun (r : Int32) (u : StM) => IM u.1 u.2.1 ∧ u.2.2 = rc ∧ (∀ k, k ∉ ([] : List Nat) → u.1 k = v k) ∧ (∀ k, k ∉ ([30, 31] : List Nat) → u.2.1 k = F k) ∧ True) (BM dC dI g c) (AM g s.heap.size)) ([.ref (g 0), .int p0, .int p1, .int p2, .int p3] : List Value).toArray s 0 0 (AM g s.heap.size)) (F0 m 112 ls []) := by
          intro n
          induction n with
          | zero =>
            intro x9_lp15352 x7_lp15352 v_lp15352 F_lp15352 H locs ls t15353 hm hf_lp15352 hI hF hP hS hl
            exfalso
            have := i32_rng x9_lp15352
            have := i32_rng x7_lp15352
            have hI1 := hI.1
            omega
          | succ n ih_lp15352 =>
            intro x9_lp15352 x7_lp15352 v_lp15352 F_lp15352 H locs ls t15353 hm hf_lp15352 hI hF hP hS hl
            have rx9_lp15352 := i32_rng x9_lp15352
            have rx7_lp15352 := i32_rng x7_lp15352
            refine lv_iload hx hb dX12_lacksOf_112 (lv_at hl 0 rfl) ?_
            refine lv_aload_n hx hb dX12_lacksOf_114 rfl (lv_at hl 5 rfl) ?_
            refine va_get (D := (dC, dI)) (ci := 12) (v := .int (v_lp15352 14)) (C := RX12) (T := TX12) (N := 63) hx hb hwd inA_X12 hown hK hP 0 rfl rfl 14 (by decide) (hwd _ wk_318) (fun _ h9 => h9) rfl dX12_lacksOf_115 ?_
            refine my_top (v := v 14) (hf_lp15352 14 (by decide)) ?_
            have t15354 : 0 ≤ (v 14).toInt ∧ (v 14).toInt ≤ 100 := by have h9 := hI.1 14 _ _ rfl; rw [show v_lp15352 14 = v 14 from hf_lp15352 14 (by decide)] at h9; exact h9
            refine lv_icmp_ge (tgt := 211) hx hb dX12_lacksOf_118 (by decide) (fun c15355 => ?_) (fun c15355 => ?_)
            · skip
              have t15356 := cv_le (a := (v 14).toInt) rfl (b := x9_lp15352.toInt) rfl c15355
              refine lv_iload hx hb dX12_lacksOf_211 (lv_at hl 2 rfl) ?_
              have hP9 : va_P (dC, dI) classes (wM g c v_lp15352 F_lp15352 rc) H := hP
              exact W.iret (v := x7_lp15352) hx hb hr (fun t ht hW => ⟨⟨x7_lp15352, (v_lp15352, F_lp15352, rc), rfl, ⟨hI, rfl, (frC (by decide) hf_lp15352 (fun _ _ => rfl)), hF, trivial⟩, (by show va_P _ _ _ t.heap; rw [ht]; exact hP9)⟩, hS.F ht⟩) hS.2.2 dX12_lacksOf_213
            · skip
              have t15357 := cv_nle (a := (v 14).toInt) rfl (b := x9_lp15352.toInt) rfl c15355
              refine lv_aload_n hx hb dX12_lacksOf_121 rfl (lv_at hl 5 rfl) ?_
              refine va_get (D := (dC, dI)) (ci := 12) (v := .ref (g 42)) (C := RX12) (T := TX12) (N := 63) hx hb hwd inA_X12 hown hK hP 0 rfl rfl 56 (by decide) (hwd _ wk_224) (fun _ h9 => h9) rfl dX12_lacksOf_122 ?_
              refine lv_iload hx hb dX12_lacksOf_125 (lv_at hl 0 rfl) ?_
              refine va_zald hx hb hK hP 42 41 rfl rfl (i := x9_lp15352) (vin (a := x9_lp15352.toInt) rfl (by omega)) dX12_lacksOf_127 ?_
              refine lv_topi (fun z15358 e15359 => ?_)
              have e15359 : z15358 = F 42 (x9_lp15352 : Int32).toNatClampNeg := e15359.trans (congrFun (hF 42 (by decide)) _)
              refine lv_if_eq (tgt := 205) hx hb dX12_lacksOf_128 (by decide) (fun c15360 => ?_) (fun c15360 => ?_)
              · skip
                have t15361 := cv_eq (a := z15358.toInt) rfl (b := 0) (by decide) c15360
                obtain ⟨z15362, e15363⟩ : ∃ y : Int32, y = x9_lp15352 + 1 := ⟨_, rfl⟩
                try (have t15364 := tadd e15363 rfl (b := 1) (by decide) (by omega))
                refine lv_iinc (v := z15362) (lv' := [(9, .int z15362), (8, .int 2), (7, .int x7_lp15352), (6, .int z15342), (5, .int z15339), (0, .ref (g 0)), (1, .int p0), (2, .int p1), (3, .int p2), (4, .int p3)]) hx hb dX12_lacksOf_205 hl (k := 0) rfl (by rw [e15363]; rfl) (by decide) rfl (fun ls hl => ?_)
                refine lv_goto (tgt := 112) hx hb dX12_lacksOf_208 (by decide) ?_
                exact ih_lp15352 z15362 x7_lp15352 v_lp15352 F_lp15352 _ _ _ (by omega) (by omega) hf_lp15352 hI hF hP hS (lv_sub hl [0, 1, 2, 3, 4, 5, 6, 7, 8, 9] rfl)
              · skip
                have t15365 := cv_ne (a := z15358.toInt) rfl (b := 0) (by decide) c15360
                refine lv_aload_n hx hb dX12_lacksOf_131 rfl (lv_at hl 5 rfl) ?_
                refine va_get (D := (dC, dI)) (ci := 12) (v := .ref (g 11)) (C := RX12) (T := TX12) (N := 63) hx hb hwd inA_X12 hown hK hP 0 rfl rfl 15 (by decide) (hwd _ wk_192) (fun _ h9 => h9) rfl dX12_lacksOf_132 ?_
                refine lv_iload hx hb dX12_lacksOf_135 (lv_at hl 0 rfl) ?_
                refine va_iald hx hb hK hP 11 10 rfl rfl (i := x9_lp15352) (vin (a := x9_lp15352.toInt) rfl (by omega)) dX12_lacksOf_137 ?_
                refine lv_topi (fun z15366 e15367 => ?_)
                have t15368 : 0 ≤ z15366.toInt ∧ z15366.toInt ≤ 9 := by rw [e15367]; exact hI.2 11 _ _ rfl _
                have e15367 : z15366 = F 11 (x9_lp15352 : Int32).toNatClampNeg := e15367.trans (congrFun (hF 11 (by decide)) _)
                refine lv_aload_n hx hb dX12_lacksOf_138 rfl (lv_at hl 5 rfl) ?_
                refine va_get (D := (dC, dI)) (ci := 12) (v := .ref (g 39)) (C := RX12) (T := TX12) (N := 63) hx hb hwd inA_X12 hown hK hP 0 rfl rfl 53 (by decide) (hwd _ wk_221) (fun _ h9 => h9) rfl dX12_lacksOf_139 ?_
                refine lv_iload hx hb dX12_lacksOf_142 (lv_at hl 4 rfl) ?_
                refine va_iald hx hb hK hP 39 38 rfl rfl (i := z15339) (vin (a := z15339.toInt) rfl (by omega)) dX12_lacksOf_144 ?_
                refine lv_topi (fun z15369 e15370 => ?_)
                have e15370 : z15369 = F 39 (z15339 : Int32).toNatClampNeg := e15370.trans (congrFun (hF 39 (by decide)) _)
                refine lv_icmp_ne (tgt := 205) hx hb dX12_lacksOf_145 (by decide) (fun c15371 => ?_) (fun c15371 => ?_)
                · skip
                  have t15372 := cv_ne (a := z15366.toInt) rfl (b := z15369.toInt) rfl c15371
                  obtain ⟨z15373, e15374⟩ : ∃ y : Int32, y = x9_lp15352 + 1 := ⟨_, rfl⟩
                  try (have t15375 := tadd e15374 rfl (b := 1) (by decide) (by omega))
                  refine lv_iinc (v := z15373) (lv' := [(9, .int z15373), (8, .int 2), (7, .int x7_lp15352), (6, .int z15342), (5, .int z15339), (0, .ref (g 0)), (1, .int p0), (2, .int p1), (3, .int p2), (4, .int p3)]) hx hb dX12_lacksOf_205 hl (k := 0) rfl (by rw [e15374]; rfl) (by decide) rfl (fun ls hl => ?_)
                  refine lv_goto (tgt := 112) hx hb dX12_lacksOf_208 (by decide) ?_
                  exact ih_lp15352 z15373 x7_lp15352 v_lp15352 F_lp15352 _ _ _ (by omega) (by omega) hf_lp15352 hI hF hP hS (lv_sub hl [0, 1, 2, 3, 4, 5, 6, 7, 8, 9] rfl)
                · skip
                  have t15376 := cv_eq (a := z15366.toInt) rfl (b := z15369.toInt) rfl c15371
                  refine lv_aload_n hx hb dX12_lacksOf_148 rfl (lv_at hl 5 rfl) ?_
                  refine lv_iload hx hb dX12_lacksOf_149 (lv_at hl 0 rfl) ?_
                  refine lv_iload hx hb dX12_lacksOf_151 (lv_at hl 1 rfl) ?_
                  refine va_calli (va_runV (As := [.int x9_lp15352, .int 2]) (rest := []) ⟨hx, hb, hml, hown, hwd⟩ (c_X12_limitOf l dC dI g c adK adV v_lp15352 F_lp15352 rc H.size x9_lp15352 2 hg hI (by omega) (by have : (2 : Int32).toInt = 2 := (by decide); omega)) (cwV 2 hwd (gV wk_489 wk_486 wk_487 wk_488 wk_5) rfl rfl rfl (by decide +kernel) ⟨Nat.le_of_ble_eq_true rfl, Nat.le_of_ble_eq_true rfl⟩) ⟨PM.blind, va_recv hK hP (ci := 12) (q0 := 0) rfl rfl, fun U hU hW => ⟨rfl, PM.at hK hE hP hS hU hW⟩⟩ rfl rfl hl.1 rfl (lv_room (Nat.le_of_ble_eq_true rfl)) dX12_lacksOf_153 ⟨Nat.le_of_ble_eq_true rfl, Nat.le_of_ble_eq_true rfl⟩) hS (fun q _ h => (freeM hS) q h) (freeM hS) (fun r15377 u t H1 locs ht hvm hw hB hz1 hk1 hS => ?_)
                  unfold BM at hB
                  rw [ht] at hB
                  have hP : va_P (dC, dI) classes (wM g c v_lp15352 F_lp15352 rc) H1 := hB
                  replace hw : r15377.toInt = (F_lp15352 1 (limJ (F_lp15352 11) x9_lp15352 (2 : Int32))).toInt := hw
                  rw [hF 1 (by decide)] at hw
                  rw [hF 11 (by decide)] at hw
                  have hw_r15377 := hw
                  clear hw
                  have k15378 : (2 : Int32).toInt = 2 := by decide
                  clear hz1
                  generalize H1 = H at hP hS ⊢
                  refine lv_if_ne (tgt := 162) hx hb dX12_lacksOf_156 (by decide) (fun c15379 => ?_) (fun c15379 => ?_)
                  · skip
                    have t15380 := cv_ne (a := r15377.toInt) rfl (b := 0) (by decide) c15379
                    refine lv_aload_n hx hb dX12_lacksOf_162 rfl (lv_at hl 5 rfl) ?_
                    refine lv_iload hx hb dX12_lacksOf_163 (lv_at hl 0 rfl) ?_
                    refine lv_iload hx hb dX12_lacksOf_165 (lv_at hl 1 rfl) ?_
                    refine lv_iload hx hb dX12_lacksOf_167 (lv_at hl 9 rfl) ?_
                    refine va_calli (va_runV (As := [.int x9_lp15352, .int 2, .int p3]) (rest := []) ⟨hx, hb, hml, hown, hwd⟩ (c_X12_leftOf l dC dI g c adK adV v_lp15352 F_lp15352 rc H.size x9_lp15352 2 p3 hg hI (by omega) (by have : (2 : Int32).toInt = 2 := (by decide); omega) (JL.to hL (show v_lp15352 31 = v 31 from hf_lp15352 31 (by decide)) (hF 28 (by decide)) (hF 29 (by decide)) (hF 27 (by decide)))) (cwV 3 hwd (gV wk_493 wk_490 wk_491 wk_492 wk_5) rfl rfl rfl (by decide +kernel) ⟨Nat.le_of_ble_eq_true rfl, Nat.le_of_ble_eq_true rfl⟩) ⟨PM.blind, va_recv hK hP (ci := 12) (q0 := 0) rfl rfl, fun U hU hW => ⟨rfl, PM.at hK hE hP hS hU hW⟩⟩ rfl rfl hl.1 rfl (lv_room (Nat.le_of_ble_eq_true rfl)) dX12_lacksOf_169 ⟨Nat.le_of_ble_eq_true rfl, Nat.le_of_ble_eq_true rfl⟩) hS (fun q _ h => (freeM hS) q h) (freeM hS) (fun r15381 u t H1 locs ht hvm hw hB hz1 hk1 hS => ?_)
                    unfold BM at hB
                    rw [ht] at hB
                    obtain ⟨v15382, F15383, rc9⟩ := u
                    obtain ⟨hI, hrc, hf15384, hG15385, hw⟩ := hw
                    dsimp only at hI hrc hB hf15384 hG15385 hw
                    have hF := frCF (by decide) hG15385 hF
                    rw [hrc] at hB
                    have hP : va_P (dC, dI) classes (wM g c v15382 F15383 rc) H1 := hB
                    clear hz1
                    generalize H1 = H at hP hS ⊢
                    have rr_r15381 := i32_rng r15381
                    refine lv_istore (lv' := [(10, .int r15381), (9, .int x9_lp15352), (8, .int 2), (7, .int x7_lp15352), (6, .int z15342), (5, .int z15339), (0, .ref (g 0)), (1, .int p0), (2, .int p1), (3, .int p2), (4, .int p3)]) hx hb dX12_lacksOf_172 hl (by decide) rfl (fun ls hl => ?_)
                    refine lv_iload hx hb dX12_lacksOf_174 (lv_at hl 3 rfl) ?_
                    refine lv_iload hx hb dX12_lacksOf_176 (lv_at hl 0 rfl) ?_
                    refine lv_aload_n hx hb dX12_lacksOf_178 rfl (lv_at hl 6 rfl) ?_
                    refine va_get (D := (dC, dI)) (ci := 12) (v := .ref (g 40)) (C := RX12) (T := TX12) (N := 63) hx hb hwd inA_X12 hown hK hP 0 rfl rfl 54 (by decide) (hwd _ wk_222) (fun _ h9 => h9) rfl dX12_lacksOf_179 ?_
                    refine lv_iload hx hb dX12_lacksOf_182 (lv_at hl 5 rfl) ?_
                    refine va_iald hx hb hK hP 40 39 rfl rfl (i := z15339) (vin (a := z15339.toInt) rfl (by omega)) dX12_lacksOf_184 ?_
                    refine lv_topi (fun z15386 e15387 => ?_)
                    have e15387 : z15386 = F 40 (z15339 : Int32).toNatClampNeg := e15387.trans (congrFun (hF 40 (by decide)) _)
                    refine lv_icmp_ge (tgt := 201) hx hb dX12_lacksOf_185 (by decide) (fun c15388 => ?_) (fun c15388 => ?_)
                    · skip
                      have t15389 := cv_le (a := z15386.toInt) rfl (b := r15381.toInt) rfl c15388
                      refine lv_iconst (v := 0) hx hb dX12_lacksOf_201 (by decide) ?_
                      refine lv_iadd hx hb dX12_lacksOf_202 ?_
                      refine lv_topi (fun z15390 e15391 => ?_)
                      try (have t15392 := tadd e15391 (a := x7_lp15352.toInt) rfl (b := 0) (by decide) (by omega))
                      refine lv_istore (lv' := [(7, .int z15390), (10, .int r15381), (9, .int x9_lp15352), (8, .int 2), (6, .int z15342), (5, .int z15339), (0, .ref (g 0)), (1, .int p0), (2, .int p1), (3, .int p2), (4, .int p3)]) hx hb dX12_lacksOf_203 hl (by decide) rfl (fun ls hl => ?_)
                      obtain ⟨z15393, e15394⟩ : ∃ y : Int32, y = x9_lp15352 + 1 := ⟨_, rfl⟩
                      try (have t15395 := tadd e15394 rfl (b := 1) (by decide) (by omega))
                      refine lv_iinc (v := z15393) (lv' := [(9, .int z15393), (7, .int z15390), (10, .int r15381), (8, .int 2), (6, .int z15342), (5, .int z15339), (0, .ref (g 0)), (1, .int p0), (2, .int p1), (3, .int p2), (4, .int p3)]) hx hb dX12_lacksOf_205 hl (k := 2) rfl (by rw [e15394]; rfl) (by decide) rfl (fun ls hl => ?_)
                      refine lv_goto (tgt := 112) hx hb dX12_lacksOf_208 (by decide) ?_
                      exact ih_lp15352 z15393 z15390 v15382 F15383 _ _ _ (by omega) (by omega) (frC (by decide) hf15384 hf_lp15352) hI hF hP hS (lv_sub hl [0, 3, 1, 4, 5, 6, 7, 8, 9, 10] rfl)
                    · skip
                      have t15396 := cv_nle (a := z15386.toInt) rfl (b := r15381.toInt) rfl c15388
                      refine lv_aload_n hx hb dX12_lacksOf_188 rfl (lv_at hl 6 rfl) ?_
                      refine va_get (D := (dC, dI)) (ci := 12) (v := .ref (g 40)) (C := RX12) (T := TX12) (N := 63) hx hb hwd inA_X12 hown hK hP 0 rfl rfl 54 (by decide) (hwd _ wk_222) (fun _ h9 => h9) rfl dX12_lacksOf_189 ?_
                      refine lv_iload hx hb dX12_lacksOf_192 (lv_at hl 5 rfl) ?_
                      refine va_iald hx hb hK hP 40 39 rfl rfl (i := z15339) (vin (a := z15339.toInt) rfl (by omega)) dX12_lacksOf_194 ?_
                      refine lv_topi (fun z15397 e15398 => ?_)
                      have e15398 : z15397 = F 40 (z15339 : Int32).toNatClampNeg := e15398.trans (congrFun (hF 40 (by decide)) _)
                      refine lv_iload hx hb dX12_lacksOf_195 (lv_at hl 0 rfl) ?_
                      refine lv_isub hx hb dX12_lacksOf_197 ?_
                      refine lv_topi (fun z15399 e15400 => ?_)
                      try (have t15401 := tsub e15400 (a := z15397.toInt) rfl (b := r15381.toInt) rfl (by omega))
                      refine lv_goto (tgt := 202) hx hb dX12_lacksOf_198 (by decide) ?_
                      refine lv_iadd hx hb dX12_lacksOf_202 ?_
                      refine lv_topi (fun z15402 e15403 => ?_)
                      try (have t15404 := tadd e15403 (a := x7_lp15352.toInt) rfl (b := z15399.toInt) rfl (by omega))
                      refine lv_istore (lv' := [(7, .int z15402), (10, .int r15381), (9, .int x9_lp15352), (8, .int 2), (6, .int z15342), (5, .int z15339), (0, .ref (g 0)), (1, .int p0), (2, .int p1), (3, .int p2), (4, .int p3)]) hx hb dX12_lacksOf_203 hl (by decide) rfl (fun ls hl => ?_)
                      obtain ⟨z15405, e15406⟩ : ∃ y : Int32, y = x9_lp15352 + 1 := ⟨_, rfl⟩
                      try (have t15407 := tadd e15406 rfl (b := 1) (by decide) (by omega))
                      refine lv_iinc (v := z15405) (lv' := [(9, .int z15405), (7, .int z15402), (10, .int r15381), (8, .int 2), (6, .int z15342), (5, .int z15339), (0, .ref (g 0)), (1, .int p0), (2, .int p1), (3, .int p2), (4, .int p3)]) hx hb dX12_lacksOf_205 hl (k := 2) rfl (by rw [e15406]; rfl) (by decide) rfl (fun ls hl => ?_)
                      refine lv_goto (tgt := 112) hx hb dX12_lacksOf_208 (by decide) ?_
                      exact ih_lp15352 z15405 z15402 v15382 F15383 _ _ _ (by omega) (by omega) (frC (by decide) hf15384 hf_lp15352) hI hF hP hS (lv_sub hl [0, 3, 1, 4, 5, 6, 7, 8, 9, 10] rfl)
                  · skip
                    have t15408 := cv_eq (a := r15377.toInt) rfl (b := 0) (by decide) c15379
                    refine lv_goto (tgt := 205) hx hb dX12_lacksOf_159 (by decide) ?_
                    obtain ⟨z15409, e15410⟩ : ∃ y : Int32, y = x9_lp15352 + 1 := ⟨_, rfl⟩
                    try (have t15411 := tadd e15410 rfl (b := 1) (by decide) (by omega))
                    refine lv_iinc (v := z15409) (lv' := [(9, .int z15409), (8, .int 2), (7, .int x7_lp15352), (6, .int z15342), (5, .int z15339), (0, .ref (g 0)), (1, .int p0), (2, .int p1), (3, .int p2), (4, .int p3)]) hx hb dX12_lacksOf_205 hl (k := 0) rfl (by rw [e15410]; rfl) (by decide) rfl (fun ls hl => ?_)
                    refine lv_goto (tgt := 112) hx hb dX12_lacksOf_208 (by decide) ?_
                    exact ih_lp15352 z15409 x7_lp15352 v_lp15352 F_lp15352 _ _ _ (by omega) (by omega) hf_lp15352 hI hF hP hS (lv_sub hl [0, 1, 2, 3, 4, 5, 6, 7, 8, 9] rfl)
        obtain ⟨n9, hn9⟩ : ∃ n : Nat, 2147483648 - 0 ≤ (n : Int) := ⟨((2147483648 - 0 : Int)).toNat, by omega⟩
        exact lp15352 n9 0 0 v F H _ ls (by have : (0 : Int32).toInt = 0 := (by decide); have : (0 : Int32).toInt = 0 := (by decide); omega) (by have : (0 : Int32).toInt = 0 := (by decide); have : (0 : Int32).toInt = 0 := (by decide); omega) (fun _ _ => rfl) hI hF hP hS hl
      · skip
        have t15412 := cv_eq (a := z15342.toInt) rfl (b := 108) (by decide) c15350
        refine lv_iconst (v := 1) hx hb dX12_lacksOf_102 (by decide) ?_
        refine lv_goto (tgt := 107) hx hb dX12_lacksOf_103 (by decide) ?_
        refine lv_istore (lv' := [(8, .int 1), (7, .int 0), (6, .int z15342), (5, .int z15339), (0, .ref (g 0)), (1, .int p0), (2, .int p1), (3, .int p2), (4, .int p3)]) hx hb dX12_lacksOf_107 hl (by decide) rfl (fun ls hl => ?_)
        refine lv_iconst (v := 0) hx hb dX12_lacksOf_109 (by decide) ?_
        refine lv_istore (lv' := [(9, .int 0), (8, .int 1), (7, .int 0), (6, .int z15342), (5, .int z15339), (0, .ref (g 0)), (1, .int p0), (2, .int p1), (3, .int p2), (4, .int p3)]) hx hb dX12_lacksOf_110 hl (by decide) rfl (fun ls hl => ?_)
        have lp15413 : ∀ (n : Nat) (x9_lp15413 : Int32) (x7_lp15413 : Int32) (v_lp15413 : Nat → Int32) (F_lp15413 : Nat → Nat → Int32) (H : Heap) (locs : List Loc) (ls : Array Slot), (0 ≤ x9_lp15413.toInt) → (2147483648 - x9_lp15413.toInt ≤ (n : Int)) → (∀ k, k ∉ ([] : List Nat) → v_lp15413 k = v k) → IM v_lp15413 F_lp15413 → (∀ k, k ∉ ([30, 31] : List Nat) → F_lp15413 k = F k) → va_P (dC, dI) classes (wM g c v_lp15413 F_lp15413 rc) H → va_S (AM g s.heap.size) s.heap H locs → lv_has ls 11 [(9, .int x9_lp15413), (8, .int 1), (7, .int x7_lp15413), (6, .int z15342), (5, .int z15339), (0, .ref (g 0)), (1, .int p0), (2, .int p1), (3, .int p2), (4, .int p3)] → W p l e (headSpec (Cond.code yX12_lacksOf cX12_lacksOf 11 (some .int) :: wA) ({ frames := 5, cells := 0, slots := 0, locals := 200 })).room s m ([.ref (g 0), .int p0, .int p1, .int p2, .int p3] : List Value).toArray below meth c0 H locs 0 0 (MQ below (va_Qi (fun (r : Int32) (u : StM) => IM u.1 u.2.1 ∧ u.2.2 = rc ∧ (∀ k, k ∉ ([] : List Nat) → u.1 k = v k) ∧ (∀ k, k ∉ ([30, 31] : List Nat) → u.2.1 k = F k) ∧ True) (BM dC dI g c) (AM g s.heap.size)) ([.ref (g 0), .int p0, .int p1, .int p2, .int p3] : List Value).toArray s 0 0 (AM g s.heap.size)) (F0 m 112 ls []) := by
          intro n
          induction n with
          | zero =>
            intro x9_lp15413 x7_lp15413 v_lp15413 F_lp15413 H locs ls t15414 hm hf_lp15413 hI hF hP hS hl
            exfalso
            have := i32_rng x9_lp15413
            have := i32_rng x7_lp15413
            have hI1 := hI.1
            omega
          | succ n ih_lp15413 =>
            intro x9_lp15413 x7_lp15413 v_lp15413 F_lp15413 H locs ls t15414 hm hf_lp15413 hI hF hP hS hl
            have rx9_lp15413 := i32_rng x9_lp15413
            have rx7_lp15413 := i32_rng x7_lp15413
            refine lv_iload hx hb dX12_lacksOf_112 (lv_at hl 0 rfl) ?_
            refine lv_aload_n hx hb dX12_lacksOf_114 rfl (lv_at hl 5 rfl) ?_
            refine va_get (D := (dC, dI)) (ci := 12) (v := .int (v_lp15413 14)) (C := RX12) (T := TX12) (N := 63) hx hb hwd inA_X12 hown hK hP 0 rfl rfl 14 (by decide) (hwd _ wk_318) (fun _ h9 => h9) rfl dX12_lacksOf_115 ?_
            refine my_top (v := v 14) (hf_lp15413 14 (by decide)) ?_
            have t15415 : 0 ≤ (v 14).toInt ∧ (v 14).toInt ≤ 100 := by have h9 := hI.1 14 _ _ rfl; rw [show v_lp15413 14 = v 14 from hf_lp15413 14 (by decide)] at h9; exact h9
            refine lv_icmp_ge (tgt := 211) hx hb dX12_lacksOf_118 (by decide) (fun c15416 => ?_) (fun c15416 => ?_)
            · skip
              have t15417 := cv_le (a := (v 14).toInt) rfl (b := x9_lp15413.toInt) rfl c15416
              refine lv_iload hx hb dX12_lacksOf_211 (lv_at hl 2 rfl) ?_
              have hP9 : va_P (dC, dI) classes (wM g c v_lp15413 F_lp15413 rc) H := hP
              exact W.iret (v := x7_lp15413) hx hb hr (fun t ht hW => ⟨⟨x7_lp15413, (v_lp15413, F_lp15413, rc), rfl, ⟨hI, rfl, (frC (by decide) hf_lp15413 (fun _ _ => rfl)), hF, trivial⟩, (by show va_P _ _ _ t.heap; rw [ht]; exact hP9)⟩, hS.F ht⟩) hS.2.2 dX12_lacksOf_213
            · skip
              have t15418 := cv_nle (a := (v 14).toInt) rfl (b := x9_lp15413.toInt) rfl c15416
              refine lv_aload_n hx hb dX12_lacksOf_121 rfl (lv_at hl 5 rfl) ?_
              refine va_get (D := (dC, dI)) (ci := 12) (v := .ref (g 42)) (C := RX12) (T := TX12) (N := 63) hx hb hwd inA_X12 hown hK hP 0 rfl rfl 56 (by decide) (hwd _ wk_224) (fun _ h9 => h9) rfl dX12_lacksOf_122 ?_
              refine lv_iload hx hb dX12_lacksOf_125 (lv_at hl 0 rfl) ?_
              refine va_zald hx hb hK hP 42 41 rfl rfl (i := x9_lp15413) (vin (a := x9_lp15413.toInt) rfl (by omega)) dX12_lacksOf_127 ?_
              refine lv_topi (fun z15419 e15420 => ?_)
              have e15420 : z15419 = F 42 (x9_lp15413 : Int32).toNatClampNeg := e15420.trans (congrFun (hF 42 (by decide)) _)
              refine lv_if_eq (tgt := 205) hx hb dX12_lacksOf_128 (by decide) (fun c15421 => ?_) (fun c15421 => ?_)
              · skip
                have t15422 := cv_eq (a := z15419.toInt) rfl (b := 0) (by decide) c15421
                obtain ⟨z15423, e15424⟩ : ∃ y : Int32, y = x9_lp15413 + 1 := ⟨_, rfl⟩
                try (have t15425 := tadd e15424 rfl (b := 1) (by decide) (by omega))
                refine lv_iinc (v := z15423) (lv' := [(9, .int z15423), (8, .int 1), (7, .int x7_lp15413), (6, .int z15342), (5, .int z15339), (0, .ref (g 0)), (1, .int p0), (2, .int p1), (3, .int p2), (4, .int p3)]) hx hb dX12_lacksOf_205 hl (k := 0) rfl (by rw [e15424]; rfl) (by decide) rfl (fun ls hl => ?_)
                refine lv_goto (tgt := 112) hx hb dX12_lacksOf_208 (by decide) ?_
                exact ih_lp15413 z15423 x7_lp15413 v_lp15413 F_lp15413 _ _ _ (by omega) (by omega) hf_lp15413 hI hF hP hS (lv_sub hl [0, 1, 2, 3, 4, 5, 6, 7, 8, 9] rfl)
              · skip
                have t15426 := cv_ne (a := z15419.toInt) rfl (b := 0) (by decide) c15421
                refine lv_aload_n hx hb dX12_lacksOf_131 rfl (lv_at hl 5 rfl) ?_
                refine va_get (D := (dC, dI)) (ci := 12) (v := .ref (g 11)) (C := RX12) (T := TX12) (N := 63) hx hb hwd inA_X12 hown hK hP 0 rfl rfl 15 (by decide) (hwd _ wk_192) (fun _ h9 => h9) rfl dX12_lacksOf_132 ?_
                refine lv_iload hx hb dX12_lacksOf_135 (lv_at hl 0 rfl) ?_
                refine va_iald hx hb hK hP 11 10 rfl rfl (i := x9_lp15413) (vin (a := x9_lp15413.toInt) rfl (by omega)) dX12_lacksOf_137 ?_
                refine lv_topi (fun z15427 e15428 => ?_)
                have t15429 : 0 ≤ z15427.toInt ∧ z15427.toInt ≤ 9 := by rw [e15428]; exact hI.2 11 _ _ rfl _
                have e15428 : z15427 = F 11 (x9_lp15413 : Int32).toNatClampNeg := e15428.trans (congrFun (hF 11 (by decide)) _)
                refine lv_aload_n hx hb dX12_lacksOf_138 rfl (lv_at hl 5 rfl) ?_
                refine va_get (D := (dC, dI)) (ci := 12) (v := .ref (g 39)) (C := RX12) (T := TX12) (N := 63) hx hb hwd inA_X12 hown hK hP 0 rfl rfl 53 (by decide) (hwd _ wk_221) (fun _ h9 => h9) rfl dX12_lacksOf_139 ?_
                refine lv_iload hx hb dX12_lacksOf_142 (lv_at hl 4 rfl) ?_
                refine va_iald hx hb hK hP 39 38 rfl rfl (i := z15339) (vin (a := z15339.toInt) rfl (by omega)) dX12_lacksOf_144 ?_
                refine lv_topi (fun z15430 e15431 => ?_)
                have e15431 : z15430 = F 39 (z15339 : Int32).toNatClampNeg := e15431.trans (congrFun (hF 39 (by decide)) _)
                refine lv_icmp_ne (tgt := 205) hx hb dX12_lacksOf_145 (by decide) (fun c15432 => ?_) (fun c15432 => ?_)
                · skip
                  have t15433 := cv_ne (a := z15427.toInt) rfl (b := z15430.toInt) rfl c15432
                  obtain ⟨z15434, e15435⟩ : ∃ y : Int32, y = x9_lp15413 + 1 := ⟨_, rfl⟩
                  try (have t15436 := tadd e15435 rfl (b := 1) (by decide) (by omega))
                  refine lv_iinc (v := z15434) (lv' := [(9, .int z15434), (8, .int 1), (7, .int x7_lp15413), (6, .int z15342), (5, .int z15339), (0, .ref (g 0)), (1, .int p0), (2, .int p1), (3, .int p2), (4, .int p3)]) hx hb dX12_lacksOf_205 hl (k := 0) rfl (by rw [e15435]; rfl) (by decide) rfl (fun ls hl => ?_)
                  refine lv_goto (tgt := 112) hx hb dX12_lacksOf_208 (by decide) ?_
                  exact ih_lp15413 z15434 x7_lp15413 v_lp15413 F_lp15413 _ _ _ (by omega) (by omega) hf_lp15413 hI hF hP hS (lv_sub hl [0, 1, 2, 3, 4, 5, 6, 7, 8, 9] rfl)
                · skip
                  have t15437 := cv_eq (a := z15427.toInt) rfl (b := z15430.toInt) rfl c15432
                  refine lv_aload_n hx hb dX12_lacksOf_148 rfl (lv_at hl 5 rfl) ?_
                  refine lv_iload hx hb dX12_lacksOf_149 (lv_at hl 0 rfl) ?_
                  refine lv_iload hx hb dX12_lacksOf_151 (lv_at hl 1 rfl) ?_
                  refine va_calli (va_runV (As := [.int x9_lp15413, .int 1]) (rest := []) ⟨hx, hb, hml, hown, hwd⟩ (c_X12_limitOf l dC dI g c adK adV v_lp15413 F_lp15413 rc H.size x9_lp15413 1 hg hI (by omega) (by have : (1 : Int32).toInt = 1 := (by decide); omega)) (cwV 2 hwd (gV wk_489 wk_486 wk_487 wk_488 wk_5) rfl rfl rfl (by decide +kernel) ⟨Nat.le_of_ble_eq_true rfl, Nat.le_of_ble_eq_true rfl⟩) ⟨PM.blind, va_recv hK hP (ci := 12) (q0 := 0) rfl rfl, fun U hU hW => ⟨rfl, PM.at hK hE hP hS hU hW⟩⟩ rfl rfl hl.1 rfl (lv_room (Nat.le_of_ble_eq_true rfl)) dX12_lacksOf_153 ⟨Nat.le_of_ble_eq_true rfl, Nat.le_of_ble_eq_true rfl⟩) hS (fun q _ h => (freeM hS) q h) (freeM hS) (fun r15438 u t H1 locs ht hvm hw hB hz1 hk1 hS => ?_)
                  unfold BM at hB
                  rw [ht] at hB
                  have hP : va_P (dC, dI) classes (wM g c v_lp15413 F_lp15413 rc) H1 := hB
                  replace hw : r15438.toInt = (F_lp15413 1 (limJ (F_lp15413 11) x9_lp15413 (1 : Int32))).toInt := hw
                  rw [hF 1 (by decide)] at hw
                  rw [hF 11 (by decide)] at hw
                  have hw_r15438 := hw
                  clear hw
                  have k15439 : (1 : Int32).toInt = 1 := by decide
                  clear hz1
                  generalize H1 = H at hP hS ⊢
                  refine lv_if_ne (tgt := 162) hx hb dX12_lacksOf_156 (by decide) (fun c15440 => ?_) (fun c15440 => ?_)
                  · skip
                    have t15441 := cv_ne (a := r15438.toInt) rfl (b := 0) (by decide) c15440
                    refine lv_aload_n hx hb dX12_lacksOf_162 rfl (lv_at hl 5 rfl) ?_
                    refine lv_iload hx hb dX12_lacksOf_163 (lv_at hl 0 rfl) ?_
                    refine lv_iload hx hb dX12_lacksOf_165 (lv_at hl 1 rfl) ?_
                    refine lv_iload hx hb dX12_lacksOf_167 (lv_at hl 9 rfl) ?_
                    refine va_calli (va_runV (As := [.int x9_lp15413, .int 1, .int p3]) (rest := []) ⟨hx, hb, hml, hown, hwd⟩ (c_X12_leftOf l dC dI g c adK adV v_lp15413 F_lp15413 rc H.size x9_lp15413 1 p3 hg hI (by omega) (by have : (1 : Int32).toInt = 1 := (by decide); omega) (JL.to hL (show v_lp15413 31 = v 31 from hf_lp15413 31 (by decide)) (hF 28 (by decide)) (hF 29 (by decide)) (hF 27 (by decide)))) (cwV 3 hwd (gV wk_493 wk_490 wk_491 wk_492 wk_5) rfl rfl rfl (by decide +kernel) ⟨Nat.le_of_ble_eq_true rfl, Nat.le_of_ble_eq_true rfl⟩) ⟨PM.blind, va_recv hK hP (ci := 12) (q0 := 0) rfl rfl, fun U hU hW => ⟨rfl, PM.at hK hE hP hS hU hW⟩⟩ rfl rfl hl.1 rfl (lv_room (Nat.le_of_ble_eq_true rfl)) dX12_lacksOf_169 ⟨Nat.le_of_ble_eq_true rfl, Nat.le_of_ble_eq_true rfl⟩) hS (fun q _ h => (freeM hS) q h) (freeM hS) (fun r15442 u t H1 locs ht hvm hw hB hz1 hk1 hS => ?_)
                    unfold BM at hB
                    rw [ht] at hB
                    obtain ⟨v15443, F15444, rc9⟩ := u
                    obtain ⟨hI, hrc, hf15445, hG15446, hw⟩ := hw
                    dsimp only at hI hrc hB hf15445 hG15446 hw
                    have hF := frCF (by decide) hG15446 hF
                    rw [hrc] at hB
                    have hP : va_P (dC, dI) classes (wM g c v15443 F15444 rc) H1 := hB
                    clear hz1
                    generalize H1 = H at hP hS ⊢
                    have rr_r15442 := i32_rng r15442
                    refine lv_istore (lv' := [(10, .int r15442), (9, .int x9_lp15413), (8, .int 1), (7, .int x7_lp15413), (6, .int z15342), (5, .int z15339), (0, .ref (g 0)), (1, .int p0), (2, .int p1), (3, .int p2), (4, .int p3)]) hx hb dX12_lacksOf_172 hl (by decide) rfl (fun ls hl => ?_)
                    refine lv_iload hx hb dX12_lacksOf_174 (lv_at hl 3 rfl) ?_
                    refine lv_iload hx hb dX12_lacksOf_176 (lv_at hl 0 rfl) ?_
                    refine lv_aload_n hx hb dX12_lacksOf_178 rfl (lv_at hl 6 rfl) ?_
                    refine va_get (D := (dC, dI)) (ci := 12) (v := .ref (g 40)) (C := RX12) (T := TX12) (N := 63) hx hb hwd inA_X12 hown hK hP 0 rfl rfl 54 (by decide) (hwd _ wk_222) (fun _ h9 => h9) rfl dX12_lacksOf_179 ?_
                    refine lv_iload hx hb dX12_lacksOf_182 (lv_at hl 5 rfl) ?_
                    refine va_iald hx hb hK hP 40 39 rfl rfl (i := z15339) (vin (a := z15339.toInt) rfl (by omega)) dX12_lacksOf_184 ?_
                    refine lv_topi (fun z15447 e15448 => ?_)
                    have e15448 : z15447 = F 40 (z15339 : Int32).toNatClampNeg := e15448.trans (congrFun (hF 40 (by decide)) _)
                    refine lv_icmp_ge (tgt := 201) hx hb dX12_lacksOf_185 (by decide) (fun c15449 => ?_) (fun c15449 => ?_)
                    · skip
                      have t15450 := cv_le (a := z15447.toInt) rfl (b := r15442.toInt) rfl c15449
                      refine lv_iconst (v := 0) hx hb dX12_lacksOf_201 (by decide) ?_
                      refine lv_iadd hx hb dX12_lacksOf_202 ?_
                      refine lv_topi (fun z15451 e15452 => ?_)
                      try (have t15453 := tadd e15452 (a := x7_lp15413.toInt) rfl (b := 0) (by decide) (by omega))
                      refine lv_istore (lv' := [(7, .int z15451), (10, .int r15442), (9, .int x9_lp15413), (8, .int 1), (6, .int z15342), (5, .int z15339), (0, .ref (g 0)), (1, .int p0), (2, .int p1), (3, .int p2), (4, .int p3)]) hx hb dX12_lacksOf_203 hl (by decide) rfl (fun ls hl => ?_)
                      obtain ⟨z15454, e15455⟩ : ∃ y : Int32, y = x9_lp15413 + 1 := ⟨_, rfl⟩
                      try (have t15456 := tadd e15455 rfl (b := 1) (by decide) (by omega))
                      refine lv_iinc (v := z15454) (lv' := [(9, .int z15454), (7, .int z15451), (10, .int r15442), (8, .int 1), (6, .int z15342), (5, .int z15339), (0, .ref (g 0)), (1, .int p0), (2, .int p1), (3, .int p2), (4, .int p3)]) hx hb dX12_lacksOf_205 hl (k := 2) rfl (by rw [e15455]; rfl) (by decide) rfl (fun ls hl => ?_)
                      refine lv_goto (tgt := 112) hx hb dX12_lacksOf_208 (by decide) ?_
                      exact ih_lp15413 z15454 z15451 v15443 F15444 _ _ _ (by omega) (by omega) (frC (by decide) hf15445 hf_lp15413) hI hF hP hS (lv_sub hl [0, 3, 1, 4, 5, 6, 7, 8, 9, 10] rfl)
                    · skip
                      have t15457 := cv_nle (a := z15447.toInt) rfl (b := r15442.toInt) rfl c15449
                      refine lv_aload_n hx hb dX12_lacksOf_188 rfl (lv_at hl 6 rfl) ?_
                      refine va_get (D := (dC, dI)) (ci := 12) (v := .ref (g 40)) (C := RX12) (T := TX12) (N := 63) hx hb hwd inA_X12 hown hK hP 0 rfl rfl 54 (by decide) (hwd _ wk_222) (fun _ h9 => h9) rfl dX12_lacksOf_189 ?_
                      refine lv_iload hx hb dX12_lacksOf_192 (lv_at hl 5 rfl) ?_
                      refine va_iald hx hb hK hP 40 39 rfl rfl (i := z15339) (vin (a := z15339.toInt) rfl (by omega)) dX12_lacksOf_194 ?_
                      refine lv_topi (fun z15458 e15459 => ?_)
                      have e15459 : z15458 = F 40 (z15339 : Int32).toNatClampNeg := e15459.trans (congrFun (hF 40 (by decide)) _)
                      refine lv_iload hx hb dX12_lacksOf_195 (lv_at hl 0 rfl) ?_
                      refine lv_isub hx hb dX12_lacksOf_197 ?_
                      refine lv_topi (fun z15460 e15461 => ?_)
                      try (have t15462 := tsub e15461 (a := z15458.toInt) rfl (b := r15442.toInt) rfl (by omega))
                      refine lv_goto (tgt := 202) hx hb dX12_lacksOf_198 (by decide) ?_
                      refine lv_iadd hx hb dX12_lacksOf_202 ?_
                      refine lv_topi (fun z15463 e15464 => ?_)
                      try (have t15465 := tadd e15464 (a := x7_lp15413.toInt) rfl (b := z15460.toInt) rfl (by omega))
                      refine lv_istore (lv' := [(7, .int z15463), (10, .int r15442), (9, .int x9_lp15413), (8, .int 1), (6, .int z15342), (5, .int z15339), (0, .ref (g 0)), (1, .int p0), (2, .int p1), (3, .int p2), (4, .int p3)]) hx hb dX12_lacksOf_203 hl (by decide) rfl (fun ls hl => ?_)
                      obtain ⟨z15466, e15467⟩ : ∃ y : Int32, y = x9_lp15413 + 1 := ⟨_, rfl⟩
                      try (have t15468 := tadd e15467 rfl (b := 1) (by decide) (by omega))
                      refine lv_iinc (v := z15466) (lv' := [(9, .int z15466), (7, .int z15463), (10, .int r15442), (8, .int 1), (6, .int z15342), (5, .int z15339), (0, .ref (g 0)), (1, .int p0), (2, .int p1), (3, .int p2), (4, .int p3)]) hx hb dX12_lacksOf_205 hl (k := 2) rfl (by rw [e15467]; rfl) (by decide) rfl (fun ls hl => ?_)
                      refine lv_goto (tgt := 112) hx hb dX12_lacksOf_208 (by decide) ?_
                      exact ih_lp15413 z15466 z15463 v15443 F15444 _ _ _ (by omega) (by omega) (frC (by decide) hf15445 hf_lp15413) hI hF hP hS (lv_sub hl [0, 3, 1, 4, 5, 6, 7, 8, 9, 10] rfl)
                  · skip
                    have t15469 := cv_eq (a := r15438.toInt) rfl (b := 0) (by decide) c15440
                    refine lv_goto (tgt := 205) hx hb dX12_lacksOf_159 (by decide) ?_
                    obtain ⟨z15470, e15471⟩ : ∃ y : Int32, y = x9_lp15413 + 1 := ⟨_, rfl⟩
                    try (have t15472 := tadd e15471 rfl (b := 1) (by decide) (by omega))
                    refine lv_iinc (v := z15470) (lv' := [(9, .int z15470), (8, .int 1), (7, .int x7_lp15413), (6, .int z15342), (5, .int z15339), (0, .ref (g 0)), (1, .int p0), (2, .int p1), (3, .int p2), (4, .int p3)]) hx hb dX12_lacksOf_205 hl (k := 0) rfl (by rw [e15471]; rfl) (by decide) rfl (fun ls hl => ?_)
                    refine lv_goto (tgt := 112) hx hb dX12_lacksOf_208 (by decide) ?_
                    exact ih_lp15413 z15470 x7_lp15413 v_lp15413 F_lp15413 _ _ _ (by omega) (by omega) hf_lp15413 hI hF hP hS (lv_sub hl [0, 1, 2, 3, 4, 5, 6, 7, 8, 9] rfl)
        obtain ⟨n9, hn9⟩ : ∃ n : Nat, 2147483648 - 0 ≤ (n : Int) := ⟨((2147483648 - 0 : Int)).toNat, by omega⟩
        exact lp15413 n9 0 0 v F H _ ls (by have : (0 : Int32).toInt = 0 := (by decide); have : (0 : Int32).toInt = 0 := (by decide); omega) (by have : (0 : Int32).toInt = 0 := (by decide); have : (0 : Int32).toInt = 0 := (by decide); omega) (fun _ _ => rfl) hI hF hP hS hl
    · skip
      have t15473 := cv_eq (a := z15342.toInt) rfl (b := 104) (by decide) c15348
      refine lv_iconst (v := 0) hx hb dX12_lacksOf_91 (by decide) ?_
      refine lv_goto (tgt := 107) hx hb dX12_lacksOf_92 (by decide) ?_
      refine lv_istore (lv' := [(8, .int 0), (7, .int 0), (6, .int z15342), (5, .int z15339), (0, .ref (g 0)), (1, .int p0), (2, .int p1), (3, .int p2), (4, .int p3)]) hx hb dX12_lacksOf_107 hl (by decide) rfl (fun ls hl => ?_)
      refine lv_iconst (v := 0) hx hb dX12_lacksOf_109 (by decide) ?_
      refine lv_istore (lv' := [(9, .int 0), (8, .int 0), (7, .int 0), (6, .int z15342), (5, .int z15339), (0, .ref (g 0)), (1, .int p0), (2, .int p1), (3, .int p2), (4, .int p3)]) hx hb dX12_lacksOf_110 hl (by decide) rfl (fun ls hl => ?_)
      have lp15474 : ∀ (n : Nat) (x9_lp15474 : Int32) (x7_lp15474 : Int32) (v_lp15474 : Nat → Int32) (F_lp15474 : Nat → Nat → Int32) (H : Heap) (locs : List Loc) (ls : Array Slot), (0 ≤ x9_lp15474.toInt) → (2147483648 - x9_lp15474.toInt ≤ (n : Int)) → (∀ k, k ∉ ([] : List Nat) → v_lp15474 k = v k) → IM v_lp15474 F_lp15474 → (∀ k, k ∉ ([30, 31] : List Nat) → F_lp15474 k = F k) → va_P (dC, dI) classes (wM g c v_lp15474 F_lp15474 rc) H → va_S (AM g s.heap.size) s.heap H locs → lv_has ls 11 [(9, .int x9_lp15474), (8, .int 0), (7, .int x7_lp15474), (6, .int z15342), (5, .int z15339), (0, .ref (g 0)), (1, .int p0), (2, .int p1), (3, .int p2), (4, .int p3)] → W p l e (headSpec (Cond.code yX12_lacksOf cX12_lacksOf 11 (some .int) :: wA) ({ frames := 5, cells := 0, slots := 0, locals := 200 })).room s m ([.ref (g 0), .int p0, .int p1, .int p2, .int p3] : List Value).toArray below meth c0 H locs 0 0 (MQ below (va_Qi (fun (r : Int32) (u : StM) => IM u.1 u.2.1 ∧ u.2.2 = rc ∧ (∀ k, k ∉ ([] : List Nat) → u.1 k = v k) ∧ (∀ k, k ∉ ([30, 31] : List Nat) → u.2.1 k = F k) ∧ True) (BM dC dI g c) (AM g s.heap.size)) ([.ref (g 0), .int p0, .int p1, .int p2, .int p3] : List Value).toArray s 0 0 (AM g s.heap.size)) (F0 m 112 ls []) := by
        intro n
        induction n with
        | zero =>
          intro x9_lp15474 x7_lp15474 v_lp15474 F_lp15474 H locs ls t15475 hm hf_lp15474 hI hF hP hS hl
          exfalso
          have := i32_rng x9_lp15474
          have := i32_rng x7_lp15474
          have hI1 := hI.1
          omega
        | succ n ih_lp15474 =>
          intro x9_lp15474 x7_lp15474 v_lp15474 F_lp15474 H locs ls t15475 hm hf_lp15474 hI hF hP hS hl
          have rx9_lp15474 := i32_rng x9_lp15474
          have rx7_lp15474 := i32_rng x7_lp15474
          refine lv_iload hx hb dX12_lacksOf_112 (lv_at hl 0 rfl) ?_
          refine lv_aload_n hx hb dX12_lacksOf_114 rfl (lv_at hl 5 rfl) ?_
          refine va_get (D := (dC, dI)) (ci := 12) (v := .int (v_lp15474 14)) (C := RX12) (T := TX12) (N := 63) hx hb hwd inA_X12 hown hK hP 0 rfl rfl 14 (by decide) (hwd _ wk_318) (fun _ h9 => h9) rfl dX12_lacksOf_115 ?_
          refine my_top (v := v 14) (hf_lp15474 14 (by decide)) ?_
          have t15476 : 0 ≤ (v 14).toInt ∧ (v 14).toInt ≤ 100 := by have h9 := hI.1 14 _ _ rfl; rw [show v_lp15474 14 = v 14 from hf_lp15474 14 (by decide)] at h9; exact h9
          refine lv_icmp_ge (tgt := 211) hx hb dX12_lacksOf_118 (by decide) (fun c15477 => ?_) (fun c15477 => ?_)
          · skip
            have t15478 := cv_le (a := (v 14).toInt) rfl (b := x9_lp15474.toInt) rfl c15477
            refine lv_iload hx hb dX12_lacksOf_211 (lv_at hl 2 rfl) ?_
            have hP9 : va_P (dC, dI) classes (wM g c v_lp15474 F_lp15474 rc) H := hP
            exact W.iret (v := x7_lp15474) hx hb hr (fun t ht hW => ⟨⟨x7_lp15474, (v_lp15474, F_lp15474, rc), rfl, ⟨hI, rfl, (frC (by decide) hf_lp15474 (fun _ _ => rfl)), hF, trivial⟩, (by show va_P _ _ _ t.heap; rw [ht]; exact hP9)⟩, hS.F ht⟩) hS.2.2 dX12_lacksOf_213
          · skip
            have t15479 := cv_nle (a := (v 14).toInt) rfl (b := x9_lp15474.toInt) rfl c15477
            refine lv_aload_n hx hb dX12_lacksOf_121 rfl (lv_at hl 5 rfl) ?_
            refine va_get (D := (dC, dI)) (ci := 12) (v := .ref (g 42)) (C := RX12) (T := TX12) (N := 63) hx hb hwd inA_X12 hown hK hP 0 rfl rfl 56 (by decide) (hwd _ wk_224) (fun _ h9 => h9) rfl dX12_lacksOf_122 ?_
            refine lv_iload hx hb dX12_lacksOf_125 (lv_at hl 0 rfl) ?_
            refine va_zald hx hb hK hP 42 41 rfl rfl (i := x9_lp15474) (vin (a := x9_lp15474.toInt) rfl (by omega)) dX12_lacksOf_127 ?_
            refine lv_topi (fun z15480 e15481 => ?_)
            have e15481 : z15480 = F 42 (x9_lp15474 : Int32).toNatClampNeg := e15481.trans (congrFun (hF 42 (by decide)) _)
            refine lv_if_eq (tgt := 205) hx hb dX12_lacksOf_128 (by decide) (fun c15482 => ?_) (fun c15482 => ?_)
            · skip
              have t15483 := cv_eq (a := z15480.toInt) rfl (b := 0) (by decide) c15482
              obtain ⟨z15484, e15485⟩ : ∃ y : Int32, y = x9_lp15474 + 1 := ⟨_, rfl⟩
              try (have t15486 := tadd e15485 rfl (b := 1) (by decide) (by omega))
              refine lv_iinc (v := z15484) (lv' := [(9, .int z15484), (8, .int 0), (7, .int x7_lp15474), (6, .int z15342), (5, .int z15339), (0, .ref (g 0)), (1, .int p0), (2, .int p1), (3, .int p2), (4, .int p3)]) hx hb dX12_lacksOf_205 hl (k := 0) rfl (by rw [e15485]; rfl) (by decide) rfl (fun ls hl => ?_)
              refine lv_goto (tgt := 112) hx hb dX12_lacksOf_208 (by decide) ?_
              exact ih_lp15474 z15484 x7_lp15474 v_lp15474 F_lp15474 _ _ _ (by omega) (by omega) hf_lp15474 hI hF hP hS (lv_sub hl [0, 1, 2, 3, 4, 5, 6, 7, 8, 9] rfl)
            · skip
              have t15487 := cv_ne (a := z15480.toInt) rfl (b := 0) (by decide) c15482
              refine lv_aload_n hx hb dX12_lacksOf_131 rfl (lv_at hl 5 rfl) ?_
              refine va_get (D := (dC, dI)) (ci := 12) (v := .ref (g 11)) (C := RX12) (T := TX12) (N := 63) hx hb hwd inA_X12 hown hK hP 0 rfl rfl 15 (by decide) (hwd _ wk_192) (fun _ h9 => h9) rfl dX12_lacksOf_132 ?_
              refine lv_iload hx hb dX12_lacksOf_135 (lv_at hl 0 rfl) ?_
              refine va_iald hx hb hK hP 11 10 rfl rfl (i := x9_lp15474) (vin (a := x9_lp15474.toInt) rfl (by omega)) dX12_lacksOf_137 ?_
              refine lv_topi (fun z15488 e15489 => ?_)
              have t15490 : 0 ≤ z15488.toInt ∧ z15488.toInt ≤ 9 := by rw [e15489]; exact hI.2 11 _ _ rfl _
              have e15489 : z15488 = F 11 (x9_lp15474 : Int32).toNatClampNeg := e15489.trans (congrFun (hF 11 (by decide)) _)
              refine lv_aload_n hx hb dX12_lacksOf_138 rfl (lv_at hl 5 rfl) ?_
              refine va_get (D := (dC, dI)) (ci := 12) (v := .ref (g 39)) (C := RX12) (T := TX12) (N := 63) hx hb hwd inA_X12 hown hK hP 0 rfl rfl 53 (by decide) (hwd _ wk_221) (fun _ h9 => h9) rfl dX12_lacksOf_139 ?_
              refine lv_iload hx hb dX12_lacksOf_142 (lv_at hl 4 rfl) ?_
              refine va_iald hx hb hK hP 39 38 rfl rfl (i := z15339) (vin (a := z15339.toInt) rfl (by omega)) dX12_lacksOf_144 ?_
              refine lv_topi (fun z15491 e15492 => ?_)
              have e15492 : z15491 = F 39 (z15339 : Int32).toNatClampNeg := e15492.trans (congrFun (hF 39 (by decide)) _)
              refine lv_icmp_ne (tgt := 205) hx hb dX12_lacksOf_145 (by decide) (fun c15493 => ?_) (fun c15493 => ?_)
              · skip
                have t15494 := cv_ne (a := z15488.toInt) rfl (b := z15491.toInt) rfl c15493
                obtain ⟨z15495, e15496⟩ : ∃ y : Int32, y = x9_lp15474 + 1 := ⟨_, rfl⟩
                try (have t15497 := tadd e15496 rfl (b := 1) (by decide) (by omega))
                refine lv_iinc (v := z15495) (lv' := [(9, .int z15495), (8, .int 0), (7, .int x7_lp15474), (6, .int z15342), (5, .int z15339), (0, .ref (g 0)), (1, .int p0), (2, .int p1), (3, .int p2), (4, .int p3)]) hx hb dX12_lacksOf_205 hl (k := 0) rfl (by rw [e15496]; rfl) (by decide) rfl (fun ls hl => ?_)
                refine lv_goto (tgt := 112) hx hb dX12_lacksOf_208 (by decide) ?_
                exact ih_lp15474 z15495 x7_lp15474 v_lp15474 F_lp15474 _ _ _ (by omega) (by omega) hf_lp15474 hI hF hP hS (lv_sub hl [0, 1, 2, 3, 4, 5, 6, 7, 8, 9] rfl)
              · skip
                have t15498 := cv_eq (a := z15488.toInt) rfl (b := z15491.toInt) rfl c15493
                refine lv_aload_n hx hb dX12_lacksOf_148 rfl (lv_at hl 5 rfl) ?_
                refine lv_iload hx hb dX12_lacksOf_149 (lv_at hl 0 rfl) ?_
                refine lv_iload hx hb dX12_lacksOf_151 (lv_at hl 1 rfl) ?_
                refine va_calli (va_runV (As := [.int x9_lp15474, .int 0]) (rest := []) ⟨hx, hb, hml, hown, hwd⟩ (c_X12_limitOf l dC dI g c adK adV v_lp15474 F_lp15474 rc H.size x9_lp15474 0 hg hI (by omega) (by have : (0 : Int32).toInt = 0 := (by decide); omega)) (cwV 2 hwd (gV wk_489 wk_486 wk_487 wk_488 wk_5) rfl rfl rfl (by decide +kernel) ⟨Nat.le_of_ble_eq_true rfl, Nat.le_of_ble_eq_true rfl⟩) ⟨PM.blind, va_recv hK hP (ci := 12) (q0 := 0) rfl rfl, fun U hU hW => ⟨rfl, PM.at hK hE hP hS hU hW⟩⟩ rfl rfl hl.1 rfl (lv_room (Nat.le_of_ble_eq_true rfl)) dX12_lacksOf_153 ⟨Nat.le_of_ble_eq_true rfl, Nat.le_of_ble_eq_true rfl⟩) hS (fun q _ h => (freeM hS) q h) (freeM hS) (fun r15499 u t H1 locs ht hvm hw hB hz1 hk1 hS => ?_)
                unfold BM at hB
                rw [ht] at hB
                have hP : va_P (dC, dI) classes (wM g c v_lp15474 F_lp15474 rc) H1 := hB
                replace hw : r15499.toInt = (F_lp15474 1 (limJ (F_lp15474 11) x9_lp15474 (0 : Int32))).toInt := hw
                rw [hF 1 (by decide)] at hw
                rw [hF 11 (by decide)] at hw
                have hw_r15499 := hw
                clear hw
                have k15500 : (0 : Int32).toInt = 0 := by decide
                clear hz1
                generalize H1 = H at hP hS ⊢
                refine lv_if_ne (tgt := 162) hx hb dX12_lacksOf_156 (by decide) (fun c15501 => ?_) (fun c15501 => ?_)
                · skip
                  have t15502 := cv_ne (a := r15499.toInt) rfl (b := 0) (by decide) c15501
                  refine lv_aload_n hx hb dX12_lacksOf_162 rfl (lv_at hl 5 rfl) ?_
                  refine lv_iload hx hb dX12_lacksOf_163 (lv_at hl 0 rfl) ?_
                  refine lv_iload hx hb dX12_lacksOf_165 (lv_at hl 1 rfl) ?_
                  refine lv_iload hx hb dX12_lacksOf_167 (lv_at hl 9 rfl) ?_
                  refine va_calli (va_runV (As := [.int x9_lp15474, .int 0, .int p3]) (rest := []) ⟨hx, hb, hml, hown, hwd⟩ (c_X12_leftOf l dC dI g c adK adV v_lp15474 F_lp15474 rc H.size x9_lp15474 0 p3 hg hI (by omega) (by have : (0 : Int32).toInt = 0 := (by decide); omega) (JL.to hL (show v_lp15474 31 = v 31 from hf_lp15474 31 (by decide)) (hF 28 (by decide)) (hF 29 (by decide)) (hF 27 (by decide)))) (cwV 3 hwd (gV wk_493 wk_490 wk_491 wk_492 wk_5) rfl rfl rfl (by decide +kernel) ⟨Nat.le_of_ble_eq_true rfl, Nat.le_of_ble_eq_true rfl⟩) ⟨PM.blind, va_recv hK hP (ci := 12) (q0 := 0) rfl rfl, fun U hU hW => ⟨rfl, PM.at hK hE hP hS hU hW⟩⟩ rfl rfl hl.1 rfl (lv_room (Nat.le_of_ble_eq_true rfl)) dX12_lacksOf_169 ⟨Nat.le_of_ble_eq_true rfl, Nat.le_of_ble_eq_true rfl⟩) hS (fun q _ h => (freeM hS) q h) (freeM hS) (fun r15503 u t H1 locs ht hvm hw hB hz1 hk1 hS => ?_)
                  unfold BM at hB
                  rw [ht] at hB
                  obtain ⟨v15504, F15505, rc9⟩ := u
                  obtain ⟨hI, hrc, hf15506, hG15507, hw⟩ := hw
                  dsimp only at hI hrc hB hf15506 hG15507 hw
                  have hF := frCF (by decide) hG15507 hF
                  rw [hrc] at hB
                  have hP : va_P (dC, dI) classes (wM g c v15504 F15505 rc) H1 := hB
                  clear hz1
                  generalize H1 = H at hP hS ⊢
                  have rr_r15503 := i32_rng r15503
                  refine lv_istore (lv' := [(10, .int r15503), (9, .int x9_lp15474), (8, .int 0), (7, .int x7_lp15474), (6, .int z15342), (5, .int z15339), (0, .ref (g 0)), (1, .int p0), (2, .int p1), (3, .int p2), (4, .int p3)]) hx hb dX12_lacksOf_172 hl (by decide) rfl (fun ls hl => ?_)
                  refine lv_iload hx hb dX12_lacksOf_174 (lv_at hl 3 rfl) ?_
                  refine lv_iload hx hb dX12_lacksOf_176 (lv_at hl 0 rfl) ?_
                  refine lv_aload_n hx hb dX12_lacksOf_178 rfl (lv_at hl 6 rfl) ?_
                  refine va_get (D := (dC, dI)) (ci := 12) (v := .ref (g 40)) (C := RX12) (T := TX12) (N := 63) hx hb hwd inA_X12 hown hK hP 0 rfl rfl 54 (by decide) (hwd _ wk_222) (fun _ h9 => h9) rfl dX12_lacksOf_179 ?_
                  refine lv_iload hx hb dX12_lacksOf_182 (lv_at hl 5 rfl) ?_
                  refine va_iald hx hb hK hP 40 39 rfl rfl (i := z15339) (vin (a := z15339.toInt) rfl (by omega)) dX12_lacksOf_184 ?_
                  refine lv_topi (fun z15508 e15509 => ?_)
                  have e15509 : z15508 = F 40 (z15339 : Int32).toNatClampNeg := e15509.trans (congrFun (hF 40 (by decide)) _)
                  refine lv_icmp_ge (tgt := 201) hx hb dX12_lacksOf_185 (by decide) (fun c15510 => ?_) (fun c15510 => ?_)
                  · skip
                    have t15511 := cv_le (a := z15508.toInt) rfl (b := r15503.toInt) rfl c15510
                    refine lv_iconst (v := 0) hx hb dX12_lacksOf_201 (by decide) ?_
                    refine lv_iadd hx hb dX12_lacksOf_202 ?_
                    refine lv_topi (fun z15512 e15513 => ?_)
                    try (have t15514 := tadd e15513 (a := x7_lp15474.toInt) rfl (b := 0) (by decide) (by omega))
                    refine lv_istore (lv' := [(7, .int z15512), (10, .int r15503), (9, .int x9_lp15474), (8, .int 0), (6, .int z15342), (5, .int z15339), (0, .ref (g 0)), (1, .int p0), (2, .int p1), (3, .int p2), (4, .int p3)]) hx hb dX12_lacksOf_203 hl (by decide) rfl (fun ls hl => ?_)
                    obtain ⟨z15515, e15516⟩ : ∃ y : Int32, y = x9_lp15474 + 1 := ⟨_, rfl⟩
                    try (have t15517 := tadd e15516 rfl (b := 1) (by decide) (by omega))
                    refine lv_iinc (v := z15515) (lv' := [(9, .int z15515), (7, .int z15512), (10, .int r15503), (8, .int 0), (6, .int z15342), (5, .int z15339), (0, .ref (g 0)), (1, .int p0), (2, .int p1), (3, .int p2), (4, .int p3)]) hx hb dX12_lacksOf_205 hl (k := 2) rfl (by rw [e15516]; rfl) (by decide) rfl (fun ls hl => ?_)
                    refine lv_goto (tgt := 112) hx hb dX12_lacksOf_208 (by decide) ?_
                    exact ih_lp15474 z15515 z15512 v15504 F15505 _ _ _ (by omega) (by omega) (frC (by decide) hf15506 hf_lp15474) hI hF hP hS (lv_sub hl [0, 3, 1, 4, 5, 6, 7, 8, 9, 10] rfl)
                  · skip
                    have t15518 := cv_nle (a := z15508.toInt) rfl (b := r15503.toInt) rfl c15510
                    refine lv_aload_n hx hb dX12_lacksOf_188 rfl (lv_at hl 6 rfl) ?_
                    refine va_get (D := (dC, dI)) (ci := 12) (v := .ref (g 40)) (C := RX12) (T := TX12) (N := 63) hx hb hwd inA_X12 hown hK hP 0 rfl rfl 54 (by decide) (hwd _ wk_222) (fun _ h9 => h9) rfl dX12_lacksOf_189 ?_
                    refine lv_iload hx hb dX12_lacksOf_192 (lv_at hl 5 rfl) ?_
                    refine va_iald hx hb hK hP 40 39 rfl rfl (i := z15339) (vin (a := z15339.toInt) rfl (by omega)) dX12_lacksOf_194 ?_
                    refine lv_topi (fun z15519 e15520 => ?_)
                    have e15520 : z15519 = F 40 (z15339 : Int32).toNatClampNeg := e15520.trans (congrFun (hF 40 (by decide)) _)
                    refine lv_iload hx hb dX12_lacksOf_195 (lv_at hl 0 rfl) ?_
                    refine lv_isub hx hb dX12_lacksOf_197 ?_
                    refine lv_topi (fun z15521 e15522 => ?_)
                    try (have t15523 := tsub e15522 (a := z15519.toInt) rfl (b := r15503.toInt) rfl (by omega))
                    refine lv_goto (tgt := 202) hx hb dX12_lacksOf_198 (by decide) ?_
                    refine lv_iadd hx hb dX12_lacksOf_202 ?_
                    refine lv_topi (fun z15524 e15525 => ?_)
                    try (have t15526 := tadd e15525 (a := x7_lp15474.toInt) rfl (b := z15521.toInt) rfl (by omega))
                    refine lv_istore (lv' := [(7, .int z15524), (10, .int r15503), (9, .int x9_lp15474), (8, .int 0), (6, .int z15342), (5, .int z15339), (0, .ref (g 0)), (1, .int p0), (2, .int p1), (3, .int p2), (4, .int p3)]) hx hb dX12_lacksOf_203 hl (by decide) rfl (fun ls hl => ?_)
                    obtain ⟨z15527, e15528⟩ : ∃ y : Int32, y = x9_lp15474 + 1 := ⟨_, rfl⟩
                    try (have t15529 := tadd e15528 rfl (b := 1) (by decide) (by omega))
                    refine lv_iinc (v := z15527) (lv' := [(9, .int z15527), (7, .int z15524), (10, .int r15503), (8, .int 0), (6, .int z15342), (5, .int z15339), (0, .ref (g 0)), (1, .int p0), (2, .int p1), (3, .int p2), (4, .int p3)]) hx hb dX12_lacksOf_205 hl (k := 2) rfl (by rw [e15528]; rfl) (by decide) rfl (fun ls hl => ?_)
                    refine lv_goto (tgt := 112) hx hb dX12_lacksOf_208 (by decide) ?_
                    exact ih_lp15474 z15527 z15524 v15504 F15505 _ _ _ (by omega) (by omega) (frC (by decide) hf15506 hf_lp15474) hI hF hP hS (lv_sub hl [0, 3, 1, 4, 5, 6, 7, 8, 9, 10] rfl)
                · skip
                  have t15530 := cv_eq (a := r15499.toInt) rfl (b := 0) (by decide) c15501
                  refine lv_goto (tgt := 205) hx hb dX12_lacksOf_159 (by decide) ?_
                  obtain ⟨z15531, e15532⟩ : ∃ y : Int32, y = x9_lp15474 + 1 := ⟨_, rfl⟩
                  try (have t15533 := tadd e15532 rfl (b := 1) (by decide) (by omega))
                  refine lv_iinc (v := z15531) (lv' := [(9, .int z15531), (8, .int 0), (7, .int x7_lp15474), (6, .int z15342), (5, .int z15339), (0, .ref (g 0)), (1, .int p0), (2, .int p1), (3, .int p2), (4, .int p3)]) hx hb dX12_lacksOf_205 hl (k := 0) rfl (by rw [e15532]; rfl) (by decide) rfl (fun ls hl => ?_)
                  refine lv_goto (tgt := 112) hx hb dX12_lacksOf_208 (by decide) ?_
                  exact ih_lp15474 z15531 x7_lp15474 v_lp15474 F_lp15474 _ _ _ (by omega) (by omega) hf_lp15474 hI hF hP hS (lv_sub hl [0, 1, 2, 3, 4, 5, 6, 7, 8, 9] rfl)
      obtain ⟨n9, hn9⟩ : ∃ n : Nat, 2147483648 - 0 ≤ (n : Int) := ⟨((2147483648 - 0 : Int)).toNat, by omega⟩
      exact lp15474 n9 0 0 v F H _ ls (by have : (0 : Int32).toInt = 0 := (by decide); have : (0 : Int32).toInt = 0 := (by decide); omega) (by have : (0 : Int32).toInt = 0 := (by decide); have : (0 : Int32).toInt = 0 := (by decide); omega) (fun _ _ => rfl) hI hF hP hS hl
  · refine lv_tableIn (off := 409) (tgt := 431) hx hb dX12_lacksOf_22 hlo15344 hhi15345 (by rw [hk]; decide) (by decide) ?_
    refine lv_aload_n hx hb dX12_lacksOf_431 rfl (lv_at hl 3 rfl) ?_
    refine lv_iload_n hx hb dX12_lacksOf_432 rfl (lv_at hl 4 rfl) ?_
    refine lv_iload_n hx hb dX12_lacksOf_433 rfl (lv_at hl 6 rfl) ?_
    refine va_calli (va_runV (As := [.int p0, .int p2]) (rest := []) ⟨hx, hb, hml, hown, hwd⟩ (c_X12_late l dC dI g c adK adV v F rc H.size p0 p2 hg hI (by omega)) (cwV 2 hwd (gV wk_1213 wk_1210 wk_1211 wk_1212 wk_5) rfl rfl rfl (by decide +kernel) ⟨Nat.le_of_ble_eq_true rfl, Nat.le_of_ble_eq_true rfl⟩) ⟨PM.blind, va_recv hK hP (ci := 12) (q0 := 0) rfl rfl, fun U hU hW => ⟨rfl, PM.at hK hE hP hS hU hW⟩⟩ rfl rfl hl.1 rfl (lv_room (Nat.le_of_ble_eq_true rfl)) dX12_lacksOf_434 ⟨Nat.le_of_ble_eq_true rfl, Nat.le_of_ble_eq_true rfl⟩) hS (fun q _ h => (freeM hS) q h) (freeM hS) (fun r15534 u t H1 locs ht hvm hw hB hz1 hk1 hS => ?_)
    unfold BM at hB
    rw [ht] at hB
    have hP : va_P (dC, dI) classes (wM g c v F rc) H1 := hB
    clear hz1
    generalize H1 = H at hP hS ⊢
    have rr_r15534 := i32_rng r15534
    have hP9 : va_P (dC, dI) classes (wM g c v F rc) H := hP
    exact W.iret (v := r15534) hx hb hr (fun t ht hW => ⟨⟨r15534, (v, F, rc), rfl, ⟨hI, rfl, (fun _ _ => rfl), hF, trivial⟩, (by show va_P _ _ _ t.heap; rw [ht]; exact hP9)⟩, hS.F ht⟩) hS.2.2 dX12_lacksOf_437
  · refine lv_tableIn (off := 409) (tgt := 431) hx hb dX12_lacksOf_22 hlo15344 hhi15345 (by rw [hk]; decide) (by decide) ?_
    refine lv_aload_n hx hb dX12_lacksOf_431 rfl (lv_at hl 3 rfl) ?_
    refine lv_iload_n hx hb dX12_lacksOf_432 rfl (lv_at hl 4 rfl) ?_
    refine lv_iload_n hx hb dX12_lacksOf_433 rfl (lv_at hl 6 rfl) ?_
    refine va_calli (va_runV (As := [.int p0, .int p2]) (rest := []) ⟨hx, hb, hml, hown, hwd⟩ (c_X12_late l dC dI g c adK adV v F rc H.size p0 p2 hg hI (by omega)) (cwV 2 hwd (gV wk_1213 wk_1210 wk_1211 wk_1212 wk_5) rfl rfl rfl (by decide +kernel) ⟨Nat.le_of_ble_eq_true rfl, Nat.le_of_ble_eq_true rfl⟩) ⟨PM.blind, va_recv hK hP (ci := 12) (q0 := 0) rfl rfl, fun U hU hW => ⟨rfl, PM.at hK hE hP hS hU hW⟩⟩ rfl rfl hl.1 rfl (lv_room (Nat.le_of_ble_eq_true rfl)) dX12_lacksOf_434 ⟨Nat.le_of_ble_eq_true rfl, Nat.le_of_ble_eq_true rfl⟩) hS (fun q _ h => (freeM hS) q h) (freeM hS) (fun r15535 u t H1 locs ht hvm hw hB hz1 hk1 hS => ?_)
    unfold BM at hB
    rw [ht] at hB
    have hP : va_P (dC, dI) classes (wM g c v F rc) H1 := hB
    clear hz1
    generalize H1 = H at hP hS ⊢
    have rr_r15535 := i32_rng r15535
    have hP9 : va_P (dC, dI) classes (wM g c v F rc) H := hP
    exact W.iret (v := r15535) hx hb hr (fun t ht hW => ⟨⟨r15535, (v, F, rc), rfl, ⟨hI, rfl, (fun _ _ => rfl), hF, trivial⟩, (by show va_P _ _ _ t.heap; rw [ht]; exact hP9)⟩, hS.F ht⟩) hS.2.2 dX12_lacksOf_437
  · refine lv_tableIn (off := 192) (tgt := 214) hx hb dX12_lacksOf_22 hlo15344 hhi15345 (by rw [hk]; decide) (by decide) ?_
    refine lv_iconst (v := 0) hx hb dX12_lacksOf_214 (by decide) ?_
    refine lv_istore (lv' := [(8, .int 0), (7, .int 0), (6, .int z15342), (5, .int z15339), (0, .ref (g 0)), (1, .int p0), (2, .int p1), (3, .int p2), (4, .int p3)]) hx hb dX12_lacksOf_215 hl (by decide) rfl (fun ls hl => ?_)
    have lp15536 : ∀ (n : Nat) (x8_lp15536 : Int32) (x7_lp15536 : Int32) (v_lp15536 : Nat → Int32) (F_lp15536 : Nat → Nat → Int32) (H : Heap) (locs : List Loc) (ls : Array Slot), (0 ≤ x8_lp15536.toInt) → (2147483648 - x8_lp15536.toInt ≤ (n : Int)) → (∀ k, k ∉ ([] : List Nat) → v_lp15536 k = v k) → IM v_lp15536 F_lp15536 → (∀ k, k ∉ ([30, 31] : List Nat) → F_lp15536 k = F k) → va_P (dC, dI) classes (wM g c v_lp15536 F_lp15536 rc) H → va_S (AM g s.heap.size) s.heap H locs → lv_has ls 11 [(8, .int x8_lp15536), (7, .int x7_lp15536), (6, .int z15342), (5, .int z15339), (0, .ref (g 0)), (1, .int p0), (2, .int p1), (3, .int p2), (4, .int p3)] → W p l e (headSpec (Cond.code yX12_lacksOf cX12_lacksOf 11 (some .int) :: wA) ({ frames := 5, cells := 0, slots := 0, locals := 200 })).room s m ([.ref (g 0), .int p0, .int p1, .int p2, .int p3] : List Value).toArray below meth c0 H locs 0 0 (MQ below (va_Qi (fun (r : Int32) (u : StM) => IM u.1 u.2.1 ∧ u.2.2 = rc ∧ (∀ k, k ∉ ([] : List Nat) → u.1 k = v k) ∧ (∀ k, k ∉ ([30, 31] : List Nat) → u.2.1 k = F k) ∧ True) (BM dC dI g c) (AM g s.heap.size)) ([.ref (g 0), .int p0, .int p1, .int p2, .int p3] : List Value).toArray s 0 0 (AM g s.heap.size)) (F0 m 217 ls []) := by
      intro n
      induction n with
      | zero =>
        intro x8_lp15536 x7_lp15536 v_lp15536 F_lp15536 H locs ls t15537 hm hf_lp15536 hI hF hP hS hl
        exfalso
        have := i32_rng x8_lp15536
        have := i32_rng x7_lp15536
        have hI1 := hI.1
        omega
      | succ n ih_lp15536 =>
        intro x8_lp15536 x7_lp15536 v_lp15536 F_lp15536 H locs ls t15537 hm hf_lp15536 hI hF hP hS hl
        have rx8_lp15536 := i32_rng x8_lp15536
        have rx7_lp15536 := i32_rng x7_lp15536
        refine lv_iload hx hb dX12_lacksOf_217 (lv_at hl 0 rfl) ?_
        refine lv_aload_n hx hb dX12_lacksOf_219 rfl (lv_at hl 4 rfl) ?_
        refine va_get (D := (dC, dI)) (ci := 12) (v := .int (v_lp15536 14)) (C := RX12) (T := TX12) (N := 63) hx hb hwd inA_X12 hown hK hP 0 rfl rfl 14 (by decide) (hwd _ wk_318) (fun _ h9 => h9) rfl dX12_lacksOf_220 ?_
        refine my_top (v := v 14) (hf_lp15536 14 (by decide)) ?_
        have t15538 : 0 ≤ (v 14).toInt ∧ (v 14).toInt ≤ 100 := by have h9 := hI.1 14 _ _ rfl; rw [show v_lp15536 14 = v 14 from hf_lp15536 14 (by decide)] at h9; exact h9
        refine lv_icmp_ge (tgt := 257) hx hb dX12_lacksOf_223 (by decide) (fun c15539 => ?_) (fun c15539 => ?_)
        · skip
          have t15540 := cv_le (a := (v 14).toInt) rfl (b := x8_lp15536.toInt) rfl c15539
          refine lv_iload hx hb dX12_lacksOf_257 (lv_at hl 1 rfl) ?_
          have hP9 : va_P (dC, dI) classes (wM g c v_lp15536 F_lp15536 rc) H := hP
          exact W.iret (v := x7_lp15536) hx hb hr (fun t ht hW => ⟨⟨x7_lp15536, (v_lp15536, F_lp15536, rc), rfl, ⟨hI, rfl, (frC (by decide) hf_lp15536 (fun _ _ => rfl)), hF, trivial⟩, (by show va_P _ _ _ t.heap; rw [ht]; exact hP9)⟩, hS.F ht⟩) hS.2.2 dX12_lacksOf_259
        · skip
          have t15541 := cv_nle (a := (v 14).toInt) rfl (b := x8_lp15536.toInt) rfl c15539
          refine lv_iload hx hb dX12_lacksOf_226 (lv_at hl 1 rfl) ?_
          refine lv_aload_n hx hb dX12_lacksOf_228 rfl (lv_at hl 4 rfl) ?_
          refine va_get (D := (dC, dI)) (ci := 12) (v := .ref (g 42)) (C := RX12) (T := TX12) (N := 63) hx hb hwd inA_X12 hown hK hP 0 rfl rfl 56 (by decide) (hwd _ wk_224) (fun _ h9 => h9) rfl dX12_lacksOf_229 ?_
          refine lv_iload hx hb dX12_lacksOf_232 (lv_at hl 0 rfl) ?_
          refine va_zald hx hb hK hP 42 41 rfl rfl (i := x8_lp15536) (vin (a := x8_lp15536.toInt) rfl (by omega)) dX12_lacksOf_234 ?_
          refine lv_topi (fun z15542 e15543 => ?_)
          have e15543 : z15542 = F 42 (x8_lp15536 : Int32).toNatClampNeg := e15543.trans (congrFun (hF 42 (by decide)) _)
          refine lv_if_eq (tgt := 247) hx hb dX12_lacksOf_235 (by decide) (fun c15544 => ?_) (fun c15544 => ?_)
          · skip
            have t15545 := cv_eq (a := z15542.toInt) rfl (b := 0) (by decide) c15544
            refine lv_iconst (v := 0) hx hb dX12_lacksOf_247 (by decide) ?_
            refine lv_iadd hx hb dX12_lacksOf_248 ?_
            refine lv_topi (fun z15546 e15547 => ?_)
            try (have t15548 := tadd e15547 (a := x7_lp15536.toInt) rfl (b := 0) (by decide) (by omega))
            refine lv_istore (lv' := [(7, .int z15546), (8, .int x8_lp15536), (6, .int z15342), (5, .int z15339), (0, .ref (g 0)), (1, .int p0), (2, .int p1), (3, .int p2), (4, .int p3)]) hx hb dX12_lacksOf_249 hl (by decide) rfl (fun ls hl => ?_)
            obtain ⟨z15549, e15550⟩ : ∃ y : Int32, y = x8_lp15536 + 1 := ⟨_, rfl⟩
            try (have t15551 := tadd e15550 rfl (b := 1) (by decide) (by omega))
            refine lv_iinc (v := z15549) (lv' := [(8, .int z15549), (7, .int z15546), (6, .int z15342), (5, .int z15339), (0, .ref (g 0)), (1, .int p0), (2, .int p1), (3, .int p2), (4, .int p3)]) hx hb dX12_lacksOf_251 hl (k := 1) rfl (by rw [e15550]; rfl) (by decide) rfl (fun ls hl => ?_)
            refine lv_goto (tgt := 217) hx hb dX12_lacksOf_254 (by decide) ?_
            exact ih_lp15536 z15549 z15546 v_lp15536 F_lp15536 _ _ _ (by omega) (by omega) hf_lp15536 hI hF hP hS (lv_sub hl [0, 1, 2, 3, 4, 5, 6, 7, 8] rfl)
          · skip
            have t15552 := cv_ne (a := z15542.toInt) rfl (b := 0) (by decide) c15544
            refine lv_aload_n hx hb dX12_lacksOf_238 rfl (lv_at hl 4 rfl) ?_
            refine lv_iload hx hb dX12_lacksOf_239 (lv_at hl 0 rfl) ?_
            refine va_calli (va_runV (As := [.int x8_lp15536]) (rest := [.int x7_lp15536]) ⟨hx, hb, hml, hown, hwd⟩ (c_X12_gapsOf l dC dI g c adK adV v_lp15536 F_lp15536 rc H.size x8_lp15536 hg hI ) (cwV 1 hwd (gV wk_724 wk_721 wk_722 wk_723 wk_5) rfl rfl rfl (by decide +kernel) ⟨Nat.le_of_ble_eq_true rfl, Nat.le_of_ble_eq_true rfl⟩) ⟨PM.blind, va_recv hK hP (ci := 12) (q0 := 0) rfl rfl, fun U hU hW => ⟨rfl, PM.at hK hE hP hS hU hW⟩⟩ rfl rfl hl.1 rfl (lv_room (Nat.le_of_ble_eq_true rfl)) dX12_lacksOf_241 ⟨Nat.le_of_ble_eq_true rfl, Nat.le_of_ble_eq_true rfl⟩) hS (fun q _ h => (freeM hS) q h) (freeM hS) (fun r15553 u t H1 locs ht hvm hw hB hz1 hk1 hS => ?_)
            unfold BM at hB
            rw [ht] at hB
            have hP : va_P (dC, dI) classes (wM g c v_lp15536 F_lp15536 rc) H1 := hB
            clear hz1
            generalize H1 = H at hP hS ⊢
            have rr_r15553 := i32_rng r15553
            refine lv_goto (tgt := 248) hx hb dX12_lacksOf_244 (by decide) ?_
            refine lv_iadd hx hb dX12_lacksOf_248 ?_
            refine lv_topi (fun z15554 e15555 => ?_)
            try (have t15556 := tadd e15555 (a := x7_lp15536.toInt) rfl (b := r15553.toInt) rfl (by omega))
            refine lv_istore (lv' := [(7, .int z15554), (8, .int x8_lp15536), (6, .int z15342), (5, .int z15339), (0, .ref (g 0)), (1, .int p0), (2, .int p1), (3, .int p2), (4, .int p3)]) hx hb dX12_lacksOf_249 hl (by decide) rfl (fun ls hl => ?_)
            obtain ⟨z15557, e15558⟩ : ∃ y : Int32, y = x8_lp15536 + 1 := ⟨_, rfl⟩
            try (have t15559 := tadd e15558 rfl (b := 1) (by decide) (by omega))
            refine lv_iinc (v := z15557) (lv' := [(8, .int z15557), (7, .int z15554), (6, .int z15342), (5, .int z15339), (0, .ref (g 0)), (1, .int p0), (2, .int p1), (3, .int p2), (4, .int p3)]) hx hb dX12_lacksOf_251 hl (k := 1) rfl (by rw [e15558]; rfl) (by decide) rfl (fun ls hl => ?_)
            refine lv_goto (tgt := 217) hx hb dX12_lacksOf_254 (by decide) ?_
            exact ih_lp15536 z15557 z15554 v_lp15536 F_lp15536 _ _ _ (by omega) (by omega) hf_lp15536 hI hF hP hS (lv_sub hl [0, 1, 2, 3, 4, 5, 6, 7, 8] rfl)
    obtain ⟨n9, hn9⟩ : ∃ n : Nat, 2147483648 - 0 ≤ (n : Int) := ⟨((2147483648 - 0 : Int)).toNat, by omega⟩
    exact lp15536 n9 0 0 v F H _ ls (by have : (0 : Int32).toInt = 0 := (by decide); have : (0 : Int32).toInt = 0 := (by decide); omega) (by have : (0 : Int32).toInt = 0 := (by decide); have : (0 : Int32).toInt = 0 := (by decide); omega) (fun _ _ => rfl) hI hF hP hS hl
  · refine lv_tableIn (off := 62) (tgt := 84) hx hb dX12_lacksOf_22 hlo15344 hhi15345 (by rw [hk]; decide) (by decide) ?_
    refine lv_iload hx hb dX12_lacksOf_84 (lv_at hl 1 rfl) ?_
    refine lv_bipush (v := 104) hx hb dX12_lacksOf_86 (by decide) ?_
    refine lv_icmp_ne (tgt := 95) hx hb dX12_lacksOf_88 (by decide) (fun c15560 => ?_) (fun c15560 => ?_)
    · skip
      have t15561 := cv_ne (a := z15342.toInt) rfl (b := 104) (by decide) c15560
      refine lv_iload hx hb dX12_lacksOf_95 (lv_at hl 1 rfl) ?_
      refine lv_bipush (v := 108) hx hb dX12_lacksOf_97 (by decide) ?_
      refine lv_icmp_ne (tgt := 106) hx hb dX12_lacksOf_99 (by decide) (fun c15562 => ?_) (fun c15562 => ?_)
      · skip
        have t15563 := cv_ne (a := z15342.toInt) rfl (b := 108) (by decide) c15562
        refine lv_iconst (v := 2) hx hb dX12_lacksOf_106 (by decide) ?_
        refine lv_istore (lv' := [(8, .int 2), (7, .int 0), (6, .int z15342), (5, .int z15339), (0, .ref (g 0)), (1, .int p0), (2, .int p1), (3, .int p2), (4, .int p3)]) hx hb dX12_lacksOf_107 hl (by decide) rfl (fun ls hl => ?_)
        refine lv_iconst (v := 0) hx hb dX12_lacksOf_109 (by decide) ?_
        refine lv_istore (lv' := [(9, .int 0), (8, .int 2), (7, .int 0), (6, .int z15342), (5, .int z15339), (0, .ref (g 0)), (1, .int p0), (2, .int p1), (3, .int p2), (4, .int p3)]) hx hb dX12_lacksOf_110 hl (by decide) rfl (fun ls hl => ?_)
        have lp15564 : ∀ (n : Nat) (x9_lp15564 : Int32) (x7_lp15564 : Int32) (v_lp15564 : Nat → Int32) (F_lp15564 : Nat → Nat → Int32) (H : Heap) (locs : List Loc) (ls : Array Slot), (0 ≤ x9_lp15564.toInt) → (2147483648 - x9_lp15564.toInt ≤ (n : Int)) → (∀ k, k ∉ ([] : List Nat) → v_lp15564 k = v k) → IM v_lp15564 F_lp15564 → (∀ k, k ∉ ([30, 31] : List Nat) → F_lp15564 k = F k) → va_P (dC, dI) classes (wM g c v_lp15564 F_lp15564 rc) H → va_S (AM g s.heap.size) s.heap H locs → lv_has ls 11 [(9, .int x9_lp15564), (8, .int 2), (7, .int x7_lp15564), (6, .int z15342), (5, .int z15339), (0, .ref (g 0)), (1, .int p0), (2, .int p1), (3, .int p2), (4, .int p3)] → W p l e (headSpec (Cond.code yX12_lacksOf cX12_lacksOf 11 (some .int) :: wA) ({ frames := 5, cells := 0, slots := 0, locals := 200 })).room s m ([.ref (g 0), .int p0, .int p1, .int p2, .int p3] : List Value).toArray below meth c0 H locs 0 0 (MQ below (va_Qi (fun (r : Int32) (u : StM) => IM u.1 u.2.1 ∧ u.2.2 = rc ∧ (∀ k, k ∉ ([] : List Nat) → u.1 k = v k) ∧ (∀ k, k ∉ ([30, 31] : List Nat) → u.2.1 k = F k) ∧ True) (BM dC dI g c) (AM g s.heap.size)) ([.ref (g 0), .int p0, .int p1, .int p2, .int p3] : List Value).toArray s 0 0 (AM g s.heap.size)) (F0 m 112 ls []) := by
          intro n
          induction n with
          | zero =>
            intro x9_lp15564 x7_lp15564 v_lp15564 F_lp15564 H locs ls t15565 hm hf_lp15564 hI hF hP hS hl
            exfalso
            have := i32_rng x9_lp15564
            have := i32_rng x7_lp15564
            have hI1 := hI.1
            omega
          | succ n ih_lp15564 =>
            intro x9_lp15564 x7_lp15564 v_lp15564 F_lp15564 H locs ls t15565 hm hf_lp15564 hI hF hP hS hl
            have rx9_lp15564 := i32_rng x9_lp15564
            have rx7_lp15564 := i32_rng x7_lp15564
            refine lv_iload hx hb dX12_lacksOf_112 (lv_at hl 0 rfl) ?_
            refine lv_aload_n hx hb dX12_lacksOf_114 rfl (lv_at hl 5 rfl) ?_
            refine va_get (D := (dC, dI)) (ci := 12) (v := .int (v_lp15564 14)) (C := RX12) (T := TX12) (N := 63) hx hb hwd inA_X12 hown hK hP 0 rfl rfl 14 (by decide) (hwd _ wk_318) (fun _ h9 => h9) rfl dX12_lacksOf_115 ?_
            refine my_top (v := v 14) (hf_lp15564 14 (by decide)) ?_
            have t15566 : 0 ≤ (v 14).toInt ∧ (v 14).toInt ≤ 100 := by have h9 := hI.1 14 _ _ rfl; rw [show v_lp15564 14 = v 14 from hf_lp15564 14 (by decide)] at h9; exact h9
            refine lv_icmp_ge (tgt := 211) hx hb dX12_lacksOf_118 (by decide) (fun c15567 => ?_) (fun c15567 => ?_)
            · skip
              have t15568 := cv_le (a := (v 14).toInt) rfl (b := x9_lp15564.toInt) rfl c15567
              refine lv_iload hx hb dX12_lacksOf_211 (lv_at hl 2 rfl) ?_
              have hP9 : va_P (dC, dI) classes (wM g c v_lp15564 F_lp15564 rc) H := hP
              exact W.iret (v := x7_lp15564) hx hb hr (fun t ht hW => ⟨⟨x7_lp15564, (v_lp15564, F_lp15564, rc), rfl, ⟨hI, rfl, (frC (by decide) hf_lp15564 (fun _ _ => rfl)), hF, trivial⟩, (by show va_P _ _ _ t.heap; rw [ht]; exact hP9)⟩, hS.F ht⟩) hS.2.2 dX12_lacksOf_213
            · skip
              have t15569 := cv_nle (a := (v 14).toInt) rfl (b := x9_lp15564.toInt) rfl c15567
              refine lv_aload_n hx hb dX12_lacksOf_121 rfl (lv_at hl 5 rfl) ?_
              refine va_get (D := (dC, dI)) (ci := 12) (v := .ref (g 42)) (C := RX12) (T := TX12) (N := 63) hx hb hwd inA_X12 hown hK hP 0 rfl rfl 56 (by decide) (hwd _ wk_224) (fun _ h9 => h9) rfl dX12_lacksOf_122 ?_
              refine lv_iload hx hb dX12_lacksOf_125 (lv_at hl 0 rfl) ?_
              refine va_zald hx hb hK hP 42 41 rfl rfl (i := x9_lp15564) (vin (a := x9_lp15564.toInt) rfl (by omega)) dX12_lacksOf_127 ?_
              refine lv_topi (fun z15570 e15571 => ?_)
              have e15571 : z15570 = F 42 (x9_lp15564 : Int32).toNatClampNeg := e15571.trans (congrFun (hF 42 (by decide)) _)
              refine lv_if_eq (tgt := 205) hx hb dX12_lacksOf_128 (by decide) (fun c15572 => ?_) (fun c15572 => ?_)
              · skip
                have t15573 := cv_eq (a := z15570.toInt) rfl (b := 0) (by decide) c15572
                obtain ⟨z15574, e15575⟩ : ∃ y : Int32, y = x9_lp15564 + 1 := ⟨_, rfl⟩
                try (have t15576 := tadd e15575 rfl (b := 1) (by decide) (by omega))
                refine lv_iinc (v := z15574) (lv' := [(9, .int z15574), (8, .int 2), (7, .int x7_lp15564), (6, .int z15342), (5, .int z15339), (0, .ref (g 0)), (1, .int p0), (2, .int p1), (3, .int p2), (4, .int p3)]) hx hb dX12_lacksOf_205 hl (k := 0) rfl (by rw [e15575]; rfl) (by decide) rfl (fun ls hl => ?_)
                refine lv_goto (tgt := 112) hx hb dX12_lacksOf_208 (by decide) ?_
                exact ih_lp15564 z15574 x7_lp15564 v_lp15564 F_lp15564 _ _ _ (by omega) (by omega) hf_lp15564 hI hF hP hS (lv_sub hl [0, 1, 2, 3, 4, 5, 6, 7, 8, 9] rfl)
              · skip
                have t15577 := cv_ne (a := z15570.toInt) rfl (b := 0) (by decide) c15572
                refine lv_aload_n hx hb dX12_lacksOf_131 rfl (lv_at hl 5 rfl) ?_
                refine va_get (D := (dC, dI)) (ci := 12) (v := .ref (g 11)) (C := RX12) (T := TX12) (N := 63) hx hb hwd inA_X12 hown hK hP 0 rfl rfl 15 (by decide) (hwd _ wk_192) (fun _ h9 => h9) rfl dX12_lacksOf_132 ?_
                refine lv_iload hx hb dX12_lacksOf_135 (lv_at hl 0 rfl) ?_
                refine va_iald hx hb hK hP 11 10 rfl rfl (i := x9_lp15564) (vin (a := x9_lp15564.toInt) rfl (by omega)) dX12_lacksOf_137 ?_
                refine lv_topi (fun z15578 e15579 => ?_)
                have t15580 : 0 ≤ z15578.toInt ∧ z15578.toInt ≤ 9 := by rw [e15579]; exact hI.2 11 _ _ rfl _
                have e15579 : z15578 = F 11 (x9_lp15564 : Int32).toNatClampNeg := e15579.trans (congrFun (hF 11 (by decide)) _)
                refine lv_aload_n hx hb dX12_lacksOf_138 rfl (lv_at hl 5 rfl) ?_
                refine va_get (D := (dC, dI)) (ci := 12) (v := .ref (g 39)) (C := RX12) (T := TX12) (N := 63) hx hb hwd inA_X12 hown hK hP 0 rfl rfl 53 (by decide) (hwd _ wk_221) (fun _ h9 => h9) rfl dX12_lacksOf_139 ?_
                refine lv_iload hx hb dX12_lacksOf_142 (lv_at hl 4 rfl) ?_
                refine va_iald hx hb hK hP 39 38 rfl rfl (i := z15339) (vin (a := z15339.toInt) rfl (by omega)) dX12_lacksOf_144 ?_
                refine lv_topi (fun z15581 e15582 => ?_)
                have e15582 : z15581 = F 39 (z15339 : Int32).toNatClampNeg := e15582.trans (congrFun (hF 39 (by decide)) _)
                refine lv_icmp_ne (tgt := 205) hx hb dX12_lacksOf_145 (by decide) (fun c15583 => ?_) (fun c15583 => ?_)
                · skip
                  have t15584 := cv_ne (a := z15578.toInt) rfl (b := z15581.toInt) rfl c15583
                  obtain ⟨z15585, e15586⟩ : ∃ y : Int32, y = x9_lp15564 + 1 := ⟨_, rfl⟩
                  try (have t15587 := tadd e15586 rfl (b := 1) (by decide) (by omega))
                  refine lv_iinc (v := z15585) (lv' := [(9, .int z15585), (8, .int 2), (7, .int x7_lp15564), (6, .int z15342), (5, .int z15339), (0, .ref (g 0)), (1, .int p0), (2, .int p1), (3, .int p2), (4, .int p3)]) hx hb dX12_lacksOf_205 hl (k := 0) rfl (by rw [e15586]; rfl) (by decide) rfl (fun ls hl => ?_)
                  refine lv_goto (tgt := 112) hx hb dX12_lacksOf_208 (by decide) ?_
                  exact ih_lp15564 z15585 x7_lp15564 v_lp15564 F_lp15564 _ _ _ (by omega) (by omega) hf_lp15564 hI hF hP hS (lv_sub hl [0, 1, 2, 3, 4, 5, 6, 7, 8, 9] rfl)
                · skip
                  have t15588 := cv_eq (a := z15578.toInt) rfl (b := z15581.toInt) rfl c15583
                  refine lv_aload_n hx hb dX12_lacksOf_148 rfl (lv_at hl 5 rfl) ?_
                  refine lv_iload hx hb dX12_lacksOf_149 (lv_at hl 0 rfl) ?_
                  refine lv_iload hx hb dX12_lacksOf_151 (lv_at hl 1 rfl) ?_
                  refine va_calli (va_runV (As := [.int x9_lp15564, .int 2]) (rest := []) ⟨hx, hb, hml, hown, hwd⟩ (c_X12_limitOf l dC dI g c adK adV v_lp15564 F_lp15564 rc H.size x9_lp15564 2 hg hI (by omega) (by have : (2 : Int32).toInt = 2 := (by decide); omega)) (cwV 2 hwd (gV wk_489 wk_486 wk_487 wk_488 wk_5) rfl rfl rfl (by decide +kernel) ⟨Nat.le_of_ble_eq_true rfl, Nat.le_of_ble_eq_true rfl⟩) ⟨PM.blind, va_recv hK hP (ci := 12) (q0 := 0) rfl rfl, fun U hU hW => ⟨rfl, PM.at hK hE hP hS hU hW⟩⟩ rfl rfl hl.1 rfl (lv_room (Nat.le_of_ble_eq_true rfl)) dX12_lacksOf_153 ⟨Nat.le_of_ble_eq_true rfl, Nat.le_of_ble_eq_true rfl⟩) hS (fun q _ h => (freeM hS) q h) (freeM hS) (fun r15589 u t H1 locs ht hvm hw hB hz1 hk1 hS => ?_)
                  unfold BM at hB
                  rw [ht] at hB
                  have hP : va_P (dC, dI) classes (wM g c v_lp15564 F_lp15564 rc) H1 := hB
                  replace hw : r15589.toInt = (F_lp15564 1 (limJ (F_lp15564 11) x9_lp15564 (2 : Int32))).toInt := hw
                  rw [hF 1 (by decide)] at hw
                  rw [hF 11 (by decide)] at hw
                  have hw_r15589 := hw
                  clear hw
                  have k15590 : (2 : Int32).toInt = 2 := by decide
                  clear hz1
                  generalize H1 = H at hP hS ⊢
                  refine lv_if_ne (tgt := 162) hx hb dX12_lacksOf_156 (by decide) (fun c15591 => ?_) (fun c15591 => ?_)
                  · skip
                    have t15592 := cv_ne (a := r15589.toInt) rfl (b := 0) (by decide) c15591
                    refine lv_aload_n hx hb dX12_lacksOf_162 rfl (lv_at hl 5 rfl) ?_
                    refine lv_iload hx hb dX12_lacksOf_163 (lv_at hl 0 rfl) ?_
                    refine lv_iload hx hb dX12_lacksOf_165 (lv_at hl 1 rfl) ?_
                    refine lv_iload hx hb dX12_lacksOf_167 (lv_at hl 9 rfl) ?_
                    refine va_calli (va_runV (As := [.int x9_lp15564, .int 2, .int p3]) (rest := []) ⟨hx, hb, hml, hown, hwd⟩ (c_X12_leftOf l dC dI g c adK adV v_lp15564 F_lp15564 rc H.size x9_lp15564 2 p3 hg hI (by omega) (by have : (2 : Int32).toInt = 2 := (by decide); omega) (JL.to hL (show v_lp15564 31 = v 31 from hf_lp15564 31 (by decide)) (hF 28 (by decide)) (hF 29 (by decide)) (hF 27 (by decide)))) (cwV 3 hwd (gV wk_493 wk_490 wk_491 wk_492 wk_5) rfl rfl rfl (by decide +kernel) ⟨Nat.le_of_ble_eq_true rfl, Nat.le_of_ble_eq_true rfl⟩) ⟨PM.blind, va_recv hK hP (ci := 12) (q0 := 0) rfl rfl, fun U hU hW => ⟨rfl, PM.at hK hE hP hS hU hW⟩⟩ rfl rfl hl.1 rfl (lv_room (Nat.le_of_ble_eq_true rfl)) dX12_lacksOf_169 ⟨Nat.le_of_ble_eq_true rfl, Nat.le_of_ble_eq_true rfl⟩) hS (fun q _ h => (freeM hS) q h) (freeM hS) (fun r15593 u t H1 locs ht hvm hw hB hz1 hk1 hS => ?_)
                    unfold BM at hB
                    rw [ht] at hB
                    obtain ⟨v15594, F15595, rc9⟩ := u
                    obtain ⟨hI, hrc, hf15596, hG15597, hw⟩ := hw
                    dsimp only at hI hrc hB hf15596 hG15597 hw
                    have hF := frCF (by decide) hG15597 hF
                    rw [hrc] at hB
                    have hP : va_P (dC, dI) classes (wM g c v15594 F15595 rc) H1 := hB
                    clear hz1
                    generalize H1 = H at hP hS ⊢
                    have rr_r15593 := i32_rng r15593
                    refine lv_istore (lv' := [(10, .int r15593), (9, .int x9_lp15564), (8, .int 2), (7, .int x7_lp15564), (6, .int z15342), (5, .int z15339), (0, .ref (g 0)), (1, .int p0), (2, .int p1), (3, .int p2), (4, .int p3)]) hx hb dX12_lacksOf_172 hl (by decide) rfl (fun ls hl => ?_)
                    refine lv_iload hx hb dX12_lacksOf_174 (lv_at hl 3 rfl) ?_
                    refine lv_iload hx hb dX12_lacksOf_176 (lv_at hl 0 rfl) ?_
                    refine lv_aload_n hx hb dX12_lacksOf_178 rfl (lv_at hl 6 rfl) ?_
                    refine va_get (D := (dC, dI)) (ci := 12) (v := .ref (g 40)) (C := RX12) (T := TX12) (N := 63) hx hb hwd inA_X12 hown hK hP 0 rfl rfl 54 (by decide) (hwd _ wk_222) (fun _ h9 => h9) rfl dX12_lacksOf_179 ?_
                    refine lv_iload hx hb dX12_lacksOf_182 (lv_at hl 5 rfl) ?_
                    refine va_iald hx hb hK hP 40 39 rfl rfl (i := z15339) (vin (a := z15339.toInt) rfl (by omega)) dX12_lacksOf_184 ?_
                    refine lv_topi (fun z15598 e15599 => ?_)
                    have e15599 : z15598 = F 40 (z15339 : Int32).toNatClampNeg := e15599.trans (congrFun (hF 40 (by decide)) _)
                    refine lv_icmp_ge (tgt := 201) hx hb dX12_lacksOf_185 (by decide) (fun c15600 => ?_) (fun c15600 => ?_)
                    · skip
                      have t15601 := cv_le (a := z15598.toInt) rfl (b := r15593.toInt) rfl c15600
                      refine lv_iconst (v := 0) hx hb dX12_lacksOf_201 (by decide) ?_
                      refine lv_iadd hx hb dX12_lacksOf_202 ?_
                      refine lv_topi (fun z15602 e15603 => ?_)
                      try (have t15604 := tadd e15603 (a := x7_lp15564.toInt) rfl (b := 0) (by decide) (by omega))
                      refine lv_istore (lv' := [(7, .int z15602), (10, .int r15593), (9, .int x9_lp15564), (8, .int 2), (6, .int z15342), (5, .int z15339), (0, .ref (g 0)), (1, .int p0), (2, .int p1), (3, .int p2), (4, .int p3)]) hx hb dX12_lacksOf_203 hl (by decide) rfl (fun ls hl => ?_)
                      obtain ⟨z15605, e15606⟩ : ∃ y : Int32, y = x9_lp15564 + 1 := ⟨_, rfl⟩
                      try (have t15607 := tadd e15606 rfl (b := 1) (by decide) (by omega))
                      refine lv_iinc (v := z15605) (lv' := [(9, .int z15605), (7, .int z15602), (10, .int r15593), (8, .int 2), (6, .int z15342), (5, .int z15339), (0, .ref (g 0)), (1, .int p0), (2, .int p1), (3, .int p2), (4, .int p3)]) hx hb dX12_lacksOf_205 hl (k := 2) rfl (by rw [e15606]; rfl) (by decide) rfl (fun ls hl => ?_)
                      refine lv_goto (tgt := 112) hx hb dX12_lacksOf_208 (by decide) ?_
                      exact ih_lp15564 z15605 z15602 v15594 F15595 _ _ _ (by omega) (by omega) (frC (by decide) hf15596 hf_lp15564) hI hF hP hS (lv_sub hl [0, 3, 1, 4, 5, 6, 7, 8, 9, 10] rfl)
                    · skip
                      have t15608 := cv_nle (a := z15598.toInt) rfl (b := r15593.toInt) rfl c15600
                      refine lv_aload_n hx hb dX12_lacksOf_188 rfl (lv_at hl 6 rfl) ?_
                      refine va_get (D := (dC, dI)) (ci := 12) (v := .ref (g 40)) (C := RX12) (T := TX12) (N := 63) hx hb hwd inA_X12 hown hK hP 0 rfl rfl 54 (by decide) (hwd _ wk_222) (fun _ h9 => h9) rfl dX12_lacksOf_189 ?_
                      refine lv_iload hx hb dX12_lacksOf_192 (lv_at hl 5 rfl) ?_
                      refine va_iald hx hb hK hP 40 39 rfl rfl (i := z15339) (vin (a := z15339.toInt) rfl (by omega)) dX12_lacksOf_194 ?_
                      refine lv_topi (fun z15609 e15610 => ?_)
                      have e15610 : z15609 = F 40 (z15339 : Int32).toNatClampNeg := e15610.trans (congrFun (hF 40 (by decide)) _)
                      refine lv_iload hx hb dX12_lacksOf_195 (lv_at hl 0 rfl) ?_
                      refine lv_isub hx hb dX12_lacksOf_197 ?_
                      refine lv_topi (fun z15611 e15612 => ?_)
                      try (have t15613 := tsub e15612 (a := z15609.toInt) rfl (b := r15593.toInt) rfl (by omega))
                      refine lv_goto (tgt := 202) hx hb dX12_lacksOf_198 (by decide) ?_
                      refine lv_iadd hx hb dX12_lacksOf_202 ?_
                      refine lv_topi (fun z15614 e15615 => ?_)
                      try (have t15616 := tadd e15615 (a := x7_lp15564.toInt) rfl (b := z15611.toInt) rfl (by omega))
                      refine lv_istore (lv' := [(7, .int z15614), (10, .int r15593), (9, .int x9_lp15564), (8, .int 2), (6, .int z15342), (5, .int z15339), (0, .ref (g 0)), (1, .int p0), (2, .int p1), (3, .int p2), (4, .int p3)]) hx hb dX12_lacksOf_203 hl (by decide) rfl (fun ls hl => ?_)
                      obtain ⟨z15617, e15618⟩ : ∃ y : Int32, y = x9_lp15564 + 1 := ⟨_, rfl⟩
                      try (have t15619 := tadd e15618 rfl (b := 1) (by decide) (by omega))
                      refine lv_iinc (v := z15617) (lv' := [(9, .int z15617), (7, .int z15614), (10, .int r15593), (8, .int 2), (6, .int z15342), (5, .int z15339), (0, .ref (g 0)), (1, .int p0), (2, .int p1), (3, .int p2), (4, .int p3)]) hx hb dX12_lacksOf_205 hl (k := 2) rfl (by rw [e15618]; rfl) (by decide) rfl (fun ls hl => ?_)
                      refine lv_goto (tgt := 112) hx hb dX12_lacksOf_208 (by decide) ?_
                      exact ih_lp15564 z15617 z15614 v15594 F15595 _ _ _ (by omega) (by omega) (frC (by decide) hf15596 hf_lp15564) hI hF hP hS (lv_sub hl [0, 3, 1, 4, 5, 6, 7, 8, 9, 10] rfl)
                  · skip
                    have t15620 := cv_eq (a := r15589.toInt) rfl (b := 0) (by decide) c15591
                    refine lv_goto (tgt := 205) hx hb dX12_lacksOf_159 (by decide) ?_
                    obtain ⟨z15621, e15622⟩ : ∃ y : Int32, y = x9_lp15564 + 1 := ⟨_, rfl⟩
                    try (have t15623 := tadd e15622 rfl (b := 1) (by decide) (by omega))
                    refine lv_iinc (v := z15621) (lv' := [(9, .int z15621), (8, .int 2), (7, .int x7_lp15564), (6, .int z15342), (5, .int z15339), (0, .ref (g 0)), (1, .int p0), (2, .int p1), (3, .int p2), (4, .int p3)]) hx hb dX12_lacksOf_205 hl (k := 0) rfl (by rw [e15622]; rfl) (by decide) rfl (fun ls hl => ?_)
                    refine lv_goto (tgt := 112) hx hb dX12_lacksOf_208 (by decide) ?_
                    exact ih_lp15564 z15621 x7_lp15564 v_lp15564 F_lp15564 _ _ _ (by omega) (by omega) hf_lp15564 hI hF hP hS (lv_sub hl [0, 1, 2, 3, 4, 5, 6, 7, 8, 9] rfl)
        obtain ⟨n9, hn9⟩ : ∃ n : Nat, 2147483648 - 0 ≤ (n : Int) := ⟨((2147483648 - 0 : Int)).toNat, by omega⟩
        exact lp15564 n9 0 0 v F H _ ls (by have : (0 : Int32).toInt = 0 := (by decide); have : (0 : Int32).toInt = 0 := (by decide); omega) (by have : (0 : Int32).toInt = 0 := (by decide); have : (0 : Int32).toInt = 0 := (by decide); omega) (fun _ _ => rfl) hI hF hP hS hl
      · skip
        have t15624 := cv_eq (a := z15342.toInt) rfl (b := 108) (by decide) c15562
        refine lv_iconst (v := 1) hx hb dX12_lacksOf_102 (by decide) ?_
        refine lv_goto (tgt := 107) hx hb dX12_lacksOf_103 (by decide) ?_
        refine lv_istore (lv' := [(8, .int 1), (7, .int 0), (6, .int z15342), (5, .int z15339), (0, .ref (g 0)), (1, .int p0), (2, .int p1), (3, .int p2), (4, .int p3)]) hx hb dX12_lacksOf_107 hl (by decide) rfl (fun ls hl => ?_)
        refine lv_iconst (v := 0) hx hb dX12_lacksOf_109 (by decide) ?_
        refine lv_istore (lv' := [(9, .int 0), (8, .int 1), (7, .int 0), (6, .int z15342), (5, .int z15339), (0, .ref (g 0)), (1, .int p0), (2, .int p1), (3, .int p2), (4, .int p3)]) hx hb dX12_lacksOf_110 hl (by decide) rfl (fun ls hl => ?_)
        have lp15625 : ∀ (n : Nat) (x9_lp15625 : Int32) (x7_lp15625 : Int32) (v_lp15625 : Nat → Int32) (F_lp15625 : Nat → Nat → Int32) (H : Heap) (locs : List Loc) (ls : Array Slot), (0 ≤ x9_lp15625.toInt) → (2147483648 - x9_lp15625.toInt ≤ (n : Int)) → (∀ k, k ∉ ([] : List Nat) → v_lp15625 k = v k) → IM v_lp15625 F_lp15625 → (∀ k, k ∉ ([30, 31] : List Nat) → F_lp15625 k = F k) → va_P (dC, dI) classes (wM g c v_lp15625 F_lp15625 rc) H → va_S (AM g s.heap.size) s.heap H locs → lv_has ls 11 [(9, .int x9_lp15625), (8, .int 1), (7, .int x7_lp15625), (6, .int z15342), (5, .int z15339), (0, .ref (g 0)), (1, .int p0), (2, .int p1), (3, .int p2), (4, .int p3)] → W p l e (headSpec (Cond.code yX12_lacksOf cX12_lacksOf 11 (some .int) :: wA) ({ frames := 5, cells := 0, slots := 0, locals := 200 })).room s m ([.ref (g 0), .int p0, .int p1, .int p2, .int p3] : List Value).toArray below meth c0 H locs 0 0 (MQ below (va_Qi (fun (r : Int32) (u : StM) => IM u.1 u.2.1 ∧ u.2.2 = rc ∧ (∀ k, k ∉ ([] : List Nat) → u.1 k = v k) ∧ (∀ k, k ∉ ([30, 31] : List Nat) → u.2.1 k = F k) ∧ True) (BM dC dI g c) (AM g s.heap.size)) ([.ref (g 0), .int p0, .int p1, .int p2, .int p3] : List Value).toArray s 0 0 (AM g s.heap.size)) (F0 m 112 ls []) := by
          intro n
          induction n with
          | zero =>
            intro x9_lp15625 x7_lp15625 v_lp15625 F_lp15625 H locs ls t15626 hm hf_lp15625 hI hF hP hS hl
            exfalso
            have := i32_rng x9_lp15625
            have := i32_rng x7_lp15625
            have hI1 := hI.1
            omega
          | succ n ih_lp15625 =>
            intro x9_lp15625 x7_lp15625 v_lp15625 F_lp15625 H locs ls t15626 hm hf_lp15625 hI hF hP hS hl
            have rx9_lp15625 := i32_rng x9_lp15625
            have rx7_lp15625 := i32_rng x7_lp15625
            refine lv_iload hx hb dX12_lacksOf_112 (lv_at hl 0 rfl) ?_
            refine lv_aload_n hx hb dX12_lacksOf_114 rfl (lv_at hl 5 rfl) ?_
            refine va_get (D := (dC, dI)) (ci := 12) (v := .int (v_lp15625 14)) (C := RX12) (T := TX12) (N := 63) hx hb hwd inA_X12 hown hK hP 0 rfl rfl 14 (by decide) (hwd _ wk_318) (fun _ h9 => h9) rfl dX12_lacksOf_115 ?_
            refine my_top (v := v 14) (hf_lp15625 14 (by decide)) ?_
            have t15627 : 0 ≤ (v 14).toInt ∧ (v 14).toInt ≤ 100 := by have h9 := hI.1 14 _ _ rfl; rw [show v_lp15625 14 = v 14 from hf_lp15625 14 (by decide)] at h9; exact h9
            refine lv_icmp_ge (tgt := 211) hx hb dX12_lacksOf_118 (by decide) (fun c15628 => ?_) (fun c15628 => ?_)
            · skip
              have t15629 := cv_le (a := (v 14).toInt) rfl (b := x9_lp15625.toInt) rfl c15628
              refine lv_iload hx hb dX12_lacksOf_211 (lv_at hl 2 rfl) ?_
              have hP9 : va_P (dC, dI) classes (wM g c v_lp15625 F_lp15625 rc) H := hP
              exact W.iret (v := x7_lp15625) hx hb hr (fun t ht hW => ⟨⟨x7_lp15625, (v_lp15625, F_lp15625, rc), rfl, ⟨hI, rfl, (frC (by decide) hf_lp15625 (fun _ _ => rfl)), hF, trivial⟩, (by show va_P _ _ _ t.heap; rw [ht]; exact hP9)⟩, hS.F ht⟩) hS.2.2 dX12_lacksOf_213
            · skip
              have t15630 := cv_nle (a := (v 14).toInt) rfl (b := x9_lp15625.toInt) rfl c15628
              refine lv_aload_n hx hb dX12_lacksOf_121 rfl (lv_at hl 5 rfl) ?_
              refine va_get (D := (dC, dI)) (ci := 12) (v := .ref (g 42)) (C := RX12) (T := TX12) (N := 63) hx hb hwd inA_X12 hown hK hP 0 rfl rfl 56 (by decide) (hwd _ wk_224) (fun _ h9 => h9) rfl dX12_lacksOf_122 ?_
              refine lv_iload hx hb dX12_lacksOf_125 (lv_at hl 0 rfl) ?_
              refine va_zald hx hb hK hP 42 41 rfl rfl (i := x9_lp15625) (vin (a := x9_lp15625.toInt) rfl (by omega)) dX12_lacksOf_127 ?_
              refine lv_topi (fun z15631 e15632 => ?_)
              have e15632 : z15631 = F 42 (x9_lp15625 : Int32).toNatClampNeg := e15632.trans (congrFun (hF 42 (by decide)) _)
              refine lv_if_eq (tgt := 205) hx hb dX12_lacksOf_128 (by decide) (fun c15633 => ?_) (fun c15633 => ?_)
              · skip
                have t15634 := cv_eq (a := z15631.toInt) rfl (b := 0) (by decide) c15633
                obtain ⟨z15635, e15636⟩ : ∃ y : Int32, y = x9_lp15625 + 1 := ⟨_, rfl⟩
                try (have t15637 := tadd e15636 rfl (b := 1) (by decide) (by omega))
                refine lv_iinc (v := z15635) (lv' := [(9, .int z15635), (8, .int 1), (7, .int x7_lp15625), (6, .int z15342), (5, .int z15339), (0, .ref (g 0)), (1, .int p0), (2, .int p1), (3, .int p2), (4, .int p3)]) hx hb dX12_lacksOf_205 hl (k := 0) rfl (by rw [e15636]; rfl) (by decide) rfl (fun ls hl => ?_)
                refine lv_goto (tgt := 112) hx hb dX12_lacksOf_208 (by decide) ?_
                exact ih_lp15625 z15635 x7_lp15625 v_lp15625 F_lp15625 _ _ _ (by omega) (by omega) hf_lp15625 hI hF hP hS (lv_sub hl [0, 1, 2, 3, 4, 5, 6, 7, 8, 9] rfl)
              · skip
                have t15638 := cv_ne (a := z15631.toInt) rfl (b := 0) (by decide) c15633
                refine lv_aload_n hx hb dX12_lacksOf_131 rfl (lv_at hl 5 rfl) ?_
                refine va_get (D := (dC, dI)) (ci := 12) (v := .ref (g 11)) (C := RX12) (T := TX12) (N := 63) hx hb hwd inA_X12 hown hK hP 0 rfl rfl 15 (by decide) (hwd _ wk_192) (fun _ h9 => h9) rfl dX12_lacksOf_132 ?_
                refine lv_iload hx hb dX12_lacksOf_135 (lv_at hl 0 rfl) ?_
                refine va_iald hx hb hK hP 11 10 rfl rfl (i := x9_lp15625) (vin (a := x9_lp15625.toInt) rfl (by omega)) dX12_lacksOf_137 ?_
                refine lv_topi (fun z15639 e15640 => ?_)
                have t15641 : 0 ≤ z15639.toInt ∧ z15639.toInt ≤ 9 := by rw [e15640]; exact hI.2 11 _ _ rfl _
                have e15640 : z15639 = F 11 (x9_lp15625 : Int32).toNatClampNeg := e15640.trans (congrFun (hF 11 (by decide)) _)
                refine lv_aload_n hx hb dX12_lacksOf_138 rfl (lv_at hl 5 rfl) ?_
                refine va_get (D := (dC, dI)) (ci := 12) (v := .ref (g 39)) (C := RX12) (T := TX12) (N := 63) hx hb hwd inA_X12 hown hK hP 0 rfl rfl 53 (by decide) (hwd _ wk_221) (fun _ h9 => h9) rfl dX12_lacksOf_139 ?_
                refine lv_iload hx hb dX12_lacksOf_142 (lv_at hl 4 rfl) ?_
                refine va_iald hx hb hK hP 39 38 rfl rfl (i := z15339) (vin (a := z15339.toInt) rfl (by omega)) dX12_lacksOf_144 ?_
                refine lv_topi (fun z15642 e15643 => ?_)
                have e15643 : z15642 = F 39 (z15339 : Int32).toNatClampNeg := e15643.trans (congrFun (hF 39 (by decide)) _)
                refine lv_icmp_ne (tgt := 205) hx hb dX12_lacksOf_145 (by decide) (fun c15644 => ?_) (fun c15644 => ?_)
                · skip
                  have t15645 := cv_ne (a := z15639.toInt) rfl (b := z15642.toInt) rfl c15644
                  obtain ⟨z15646, e15647⟩ : ∃ y : Int32, y = x9_lp15625 + 1 := ⟨_, rfl⟩
                  try (have t15648 := tadd e15647 rfl (b := 1) (by decide) (by omega))
                  refine lv_iinc (v := z15646) (lv' := [(9, .int z15646), (8, .int 1), (7, .int x7_lp15625), (6, .int z15342), (5, .int z15339), (0, .ref (g 0)), (1, .int p0), (2, .int p1), (3, .int p2), (4, .int p3)]) hx hb dX12_lacksOf_205 hl (k := 0) rfl (by rw [e15647]; rfl) (by decide) rfl (fun ls hl => ?_)
                  refine lv_goto (tgt := 112) hx hb dX12_lacksOf_208 (by decide) ?_
                  exact ih_lp15625 z15646 x7_lp15625 v_lp15625 F_lp15625 _ _ _ (by omega) (by omega) hf_lp15625 hI hF hP hS (lv_sub hl [0, 1, 2, 3, 4, 5, 6, 7, 8, 9] rfl)
                · skip
                  have t15649 := cv_eq (a := z15639.toInt) rfl (b := z15642.toInt) rfl c15644
                  refine lv_aload_n hx hb dX12_lacksOf_148 rfl (lv_at hl 5 rfl) ?_
                  refine lv_iload hx hb dX12_lacksOf_149 (lv_at hl 0 rfl) ?_
                  refine lv_iload hx hb dX12_lacksOf_151 (lv_at hl 1 rfl) ?_
                  refine va_calli (va_runV (As := [.int x9_lp15625, .int 1]) (rest := []) ⟨hx, hb, hml, hown, hwd⟩ (c_X12_limitOf l dC dI g c adK adV v_lp15625 F_lp15625 rc H.size x9_lp15625 1 hg hI (by omega) (by have : (1 : Int32).toInt = 1 := (by decide); omega)) (cwV 2 hwd (gV wk_489 wk_486 wk_487 wk_488 wk_5) rfl rfl rfl (by decide +kernel) ⟨Nat.le_of_ble_eq_true rfl, Nat.le_of_ble_eq_true rfl⟩) ⟨PM.blind, va_recv hK hP (ci := 12) (q0 := 0) rfl rfl, fun U hU hW => ⟨rfl, PM.at hK hE hP hS hU hW⟩⟩ rfl rfl hl.1 rfl (lv_room (Nat.le_of_ble_eq_true rfl)) dX12_lacksOf_153 ⟨Nat.le_of_ble_eq_true rfl, Nat.le_of_ble_eq_true rfl⟩) hS (fun q _ h => (freeM hS) q h) (freeM hS) (fun r15650 u t H1 locs ht hvm hw hB hz1 hk1 hS => ?_)
                  unfold BM at hB
                  rw [ht] at hB
                  have hP : va_P (dC, dI) classes (wM g c v_lp15625 F_lp15625 rc) H1 := hB
                  replace hw : r15650.toInt = (F_lp15625 1 (limJ (F_lp15625 11) x9_lp15625 (1 : Int32))).toInt := hw
                  rw [hF 1 (by decide)] at hw
                  rw [hF 11 (by decide)] at hw
                  have hw_r15650 := hw
                  clear hw
                  have k15651 : (1 : Int32).toInt = 1 := by decide
                  clear hz1
                  generalize H1 = H at hP hS ⊢
                  refine lv_if_ne (tgt := 162) hx hb dX12_lacksOf_156 (by decide) (fun c15652 => ?_) (fun c15652 => ?_)
                  · skip
                    have t15653 := cv_ne (a := r15650.toInt) rfl (b := 0) (by decide) c15652
                    refine lv_aload_n hx hb dX12_lacksOf_162 rfl (lv_at hl 5 rfl) ?_
                    refine lv_iload hx hb dX12_lacksOf_163 (lv_at hl 0 rfl) ?_
                    refine lv_iload hx hb dX12_lacksOf_165 (lv_at hl 1 rfl) ?_
                    refine lv_iload hx hb dX12_lacksOf_167 (lv_at hl 9 rfl) ?_
                    refine va_calli (va_runV (As := [.int x9_lp15625, .int 1, .int p3]) (rest := []) ⟨hx, hb, hml, hown, hwd⟩ (c_X12_leftOf l dC dI g c adK adV v_lp15625 F_lp15625 rc H.size x9_lp15625 1 p3 hg hI (by omega) (by have : (1 : Int32).toInt = 1 := (by decide); omega) (JL.to hL (show v_lp15625 31 = v 31 from hf_lp15625 31 (by decide)) (hF 28 (by decide)) (hF 29 (by decide)) (hF 27 (by decide)))) (cwV 3 hwd (gV wk_493 wk_490 wk_491 wk_492 wk_5) rfl rfl rfl (by decide +kernel) ⟨Nat.le_of_ble_eq_true rfl, Nat.le_of_ble_eq_true rfl⟩) ⟨PM.blind, va_recv hK hP (ci := 12) (q0 := 0) rfl rfl, fun U hU hW => ⟨rfl, PM.at hK hE hP hS hU hW⟩⟩ rfl rfl hl.1 rfl (lv_room (Nat.le_of_ble_eq_true rfl)) dX12_lacksOf_169 ⟨Nat.le_of_ble_eq_true rfl, Nat.le_of_ble_eq_true rfl⟩) hS (fun q _ h => (freeM hS) q h) (freeM hS) (fun r15654 u t H1 locs ht hvm hw hB hz1 hk1 hS => ?_)
                    unfold BM at hB
                    rw [ht] at hB
                    obtain ⟨v15655, F15656, rc9⟩ := u
                    obtain ⟨hI, hrc, hf15657, hG15658, hw⟩ := hw
                    dsimp only at hI hrc hB hf15657 hG15658 hw
                    have hF := frCF (by decide) hG15658 hF
                    rw [hrc] at hB
                    have hP : va_P (dC, dI) classes (wM g c v15655 F15656 rc) H1 := hB
                    clear hz1
                    generalize H1 = H at hP hS ⊢
                    have rr_r15654 := i32_rng r15654
                    refine lv_istore (lv' := [(10, .int r15654), (9, .int x9_lp15625), (8, .int 1), (7, .int x7_lp15625), (6, .int z15342), (5, .int z15339), (0, .ref (g 0)), (1, .int p0), (2, .int p1), (3, .int p2), (4, .int p3)]) hx hb dX12_lacksOf_172 hl (by decide) rfl (fun ls hl => ?_)
                    refine lv_iload hx hb dX12_lacksOf_174 (lv_at hl 3 rfl) ?_
                    refine lv_iload hx hb dX12_lacksOf_176 (lv_at hl 0 rfl) ?_
                    refine lv_aload_n hx hb dX12_lacksOf_178 rfl (lv_at hl 6 rfl) ?_
                    refine va_get (D := (dC, dI)) (ci := 12) (v := .ref (g 40)) (C := RX12) (T := TX12) (N := 63) hx hb hwd inA_X12 hown hK hP 0 rfl rfl 54 (by decide) (hwd _ wk_222) (fun _ h9 => h9) rfl dX12_lacksOf_179 ?_
                    refine lv_iload hx hb dX12_lacksOf_182 (lv_at hl 5 rfl) ?_
                    refine va_iald hx hb hK hP 40 39 rfl rfl (i := z15339) (vin (a := z15339.toInt) rfl (by omega)) dX12_lacksOf_184 ?_
                    refine lv_topi (fun z15659 e15660 => ?_)
                    have e15660 : z15659 = F 40 (z15339 : Int32).toNatClampNeg := e15660.trans (congrFun (hF 40 (by decide)) _)
                    refine lv_icmp_ge (tgt := 201) hx hb dX12_lacksOf_185 (by decide) (fun c15661 => ?_) (fun c15661 => ?_)
                    · skip
                      have t15662 := cv_le (a := z15659.toInt) rfl (b := r15654.toInt) rfl c15661
                      refine lv_iconst (v := 0) hx hb dX12_lacksOf_201 (by decide) ?_
                      refine lv_iadd hx hb dX12_lacksOf_202 ?_
                      refine lv_topi (fun z15663 e15664 => ?_)
                      try (have t15665 := tadd e15664 (a := x7_lp15625.toInt) rfl (b := 0) (by decide) (by omega))
                      refine lv_istore (lv' := [(7, .int z15663), (10, .int r15654), (9, .int x9_lp15625), (8, .int 1), (6, .int z15342), (5, .int z15339), (0, .ref (g 0)), (1, .int p0), (2, .int p1), (3, .int p2), (4, .int p3)]) hx hb dX12_lacksOf_203 hl (by decide) rfl (fun ls hl => ?_)
                      obtain ⟨z15666, e15667⟩ : ∃ y : Int32, y = x9_lp15625 + 1 := ⟨_, rfl⟩
                      try (have t15668 := tadd e15667 rfl (b := 1) (by decide) (by omega))
                      refine lv_iinc (v := z15666) (lv' := [(9, .int z15666), (7, .int z15663), (10, .int r15654), (8, .int 1), (6, .int z15342), (5, .int z15339), (0, .ref (g 0)), (1, .int p0), (2, .int p1), (3, .int p2), (4, .int p3)]) hx hb dX12_lacksOf_205 hl (k := 2) rfl (by rw [e15667]; rfl) (by decide) rfl (fun ls hl => ?_)
                      refine lv_goto (tgt := 112) hx hb dX12_lacksOf_208 (by decide) ?_
                      exact ih_lp15625 z15666 z15663 v15655 F15656 _ _ _ (by omega) (by omega) (frC (by decide) hf15657 hf_lp15625) hI hF hP hS (lv_sub hl [0, 3, 1, 4, 5, 6, 7, 8, 9, 10] rfl)
                    · skip
                      have t15669 := cv_nle (a := z15659.toInt) rfl (b := r15654.toInt) rfl c15661
                      refine lv_aload_n hx hb dX12_lacksOf_188 rfl (lv_at hl 6 rfl) ?_
                      refine va_get (D := (dC, dI)) (ci := 12) (v := .ref (g 40)) (C := RX12) (T := TX12) (N := 63) hx hb hwd inA_X12 hown hK hP 0 rfl rfl 54 (by decide) (hwd _ wk_222) (fun _ h9 => h9) rfl dX12_lacksOf_189 ?_
                      refine lv_iload hx hb dX12_lacksOf_192 (lv_at hl 5 rfl) ?_
                      refine va_iald hx hb hK hP 40 39 rfl rfl (i := z15339) (vin (a := z15339.toInt) rfl (by omega)) dX12_lacksOf_194 ?_
                      refine lv_topi (fun z15670 e15671 => ?_)
                      have e15671 : z15670 = F 40 (z15339 : Int32).toNatClampNeg := e15671.trans (congrFun (hF 40 (by decide)) _)
                      refine lv_iload hx hb dX12_lacksOf_195 (lv_at hl 0 rfl) ?_
                      refine lv_isub hx hb dX12_lacksOf_197 ?_
                      refine lv_topi (fun z15672 e15673 => ?_)
                      try (have t15674 := tsub e15673 (a := z15670.toInt) rfl (b := r15654.toInt) rfl (by omega))
                      refine lv_goto (tgt := 202) hx hb dX12_lacksOf_198 (by decide) ?_
                      refine lv_iadd hx hb dX12_lacksOf_202 ?_
                      refine lv_topi (fun z15675 e15676 => ?_)
                      try (have t15677 := tadd e15676 (a := x7_lp15625.toInt) rfl (b := z15672.toInt) rfl (by omega))
                      refine lv_istore (lv' := [(7, .int z15675), (10, .int r15654), (9, .int x9_lp15625), (8, .int 1), (6, .int z15342), (5, .int z15339), (0, .ref (g 0)), (1, .int p0), (2, .int p1), (3, .int p2), (4, .int p3)]) hx hb dX12_lacksOf_203 hl (by decide) rfl (fun ls hl => ?_)
                      obtain ⟨z15678, e15679⟩ : ∃ y : Int32, y = x9_lp15625 + 1 := ⟨_, rfl⟩
                      try (have t15680 := tadd e15679 rfl (b := 1) (by decide) (by omega))
                      refine lv_iinc (v := z15678) (lv' := [(9, .int z15678), (7, .int z15675), (10, .int r15654), (8, .int 1), (6, .int z15342), (5, .int z15339), (0, .ref (g 0)), (1, .int p0), (2, .int p1), (3, .int p2), (4, .int p3)]) hx hb dX12_lacksOf_205 hl (k := 2) rfl (by rw [e15679]; rfl) (by decide) rfl (fun ls hl => ?_)
                      refine lv_goto (tgt := 112) hx hb dX12_lacksOf_208 (by decide) ?_
                      exact ih_lp15625 z15678 z15675 v15655 F15656 _ _ _ (by omega) (by omega) (frC (by decide) hf15657 hf_lp15625) hI hF hP hS (lv_sub hl [0, 3, 1, 4, 5, 6, 7, 8, 9, 10] rfl)
                  · skip
                    have t15681 := cv_eq (a := r15650.toInt) rfl (b := 0) (by decide) c15652
                    refine lv_goto (tgt := 205) hx hb dX12_lacksOf_159 (by decide) ?_
                    obtain ⟨z15682, e15683⟩ : ∃ y : Int32, y = x9_lp15625 + 1 := ⟨_, rfl⟩
                    try (have t15684 := tadd e15683 rfl (b := 1) (by decide) (by omega))
                    refine lv_iinc (v := z15682) (lv' := [(9, .int z15682), (8, .int 1), (7, .int x7_lp15625), (6, .int z15342), (5, .int z15339), (0, .ref (g 0)), (1, .int p0), (2, .int p1), (3, .int p2), (4, .int p3)]) hx hb dX12_lacksOf_205 hl (k := 0) rfl (by rw [e15683]; rfl) (by decide) rfl (fun ls hl => ?_)
                    refine lv_goto (tgt := 112) hx hb dX12_lacksOf_208 (by decide) ?_
                    exact ih_lp15625 z15682 x7_lp15625 v_lp15625 F_lp15625 _ _ _ (by omega) (by omega) hf_lp15625 hI hF hP hS (lv_sub hl [0, 1, 2, 3, 4, 5, 6, 7, 8, 9] rfl)
        obtain ⟨n9, hn9⟩ : ∃ n : Nat, 2147483648 - 0 ≤ (n : Int) := ⟨((2147483648 - 0 : Int)).toNat, by omega⟩
        exact lp15625 n9 0 0 v F H _ ls (by have : (0 : Int32).toInt = 0 := (by decide); have : (0 : Int32).toInt = 0 := (by decide); omega) (by have : (0 : Int32).toInt = 0 := (by decide); have : (0 : Int32).toInt = 0 := (by decide); omega) (fun _ _ => rfl) hI hF hP hS hl
    · skip
      have t15685 := cv_eq (a := z15342.toInt) rfl (b := 104) (by decide) c15560
      refine lv_iconst (v := 0) hx hb dX12_lacksOf_91 (by decide) ?_
      refine lv_goto (tgt := 107) hx hb dX12_lacksOf_92 (by decide) ?_
      refine lv_istore (lv' := [(8, .int 0), (7, .int 0), (6, .int z15342), (5, .int z15339), (0, .ref (g 0)), (1, .int p0), (2, .int p1), (3, .int p2), (4, .int p3)]) hx hb dX12_lacksOf_107 hl (by decide) rfl (fun ls hl => ?_)
      refine lv_iconst (v := 0) hx hb dX12_lacksOf_109 (by decide) ?_
      refine lv_istore (lv' := [(9, .int 0), (8, .int 0), (7, .int 0), (6, .int z15342), (5, .int z15339), (0, .ref (g 0)), (1, .int p0), (2, .int p1), (3, .int p2), (4, .int p3)]) hx hb dX12_lacksOf_110 hl (by decide) rfl (fun ls hl => ?_)
      have lp15686 : ∀ (n : Nat) (x9_lp15686 : Int32) (x7_lp15686 : Int32) (v_lp15686 : Nat → Int32) (F_lp15686 : Nat → Nat → Int32) (H : Heap) (locs : List Loc) (ls : Array Slot), (0 ≤ x9_lp15686.toInt) → (2147483648 - x9_lp15686.toInt ≤ (n : Int)) → (∀ k, k ∉ ([] : List Nat) → v_lp15686 k = v k) → IM v_lp15686 F_lp15686 → (∀ k, k ∉ ([30, 31] : List Nat) → F_lp15686 k = F k) → va_P (dC, dI) classes (wM g c v_lp15686 F_lp15686 rc) H → va_S (AM g s.heap.size) s.heap H locs → lv_has ls 11 [(9, .int x9_lp15686), (8, .int 0), (7, .int x7_lp15686), (6, .int z15342), (5, .int z15339), (0, .ref (g 0)), (1, .int p0), (2, .int p1), (3, .int p2), (4, .int p3)] → W p l e (headSpec (Cond.code yX12_lacksOf cX12_lacksOf 11 (some .int) :: wA) ({ frames := 5, cells := 0, slots := 0, locals := 200 })).room s m ([.ref (g 0), .int p0, .int p1, .int p2, .int p3] : List Value).toArray below meth c0 H locs 0 0 (MQ below (va_Qi (fun (r : Int32) (u : StM) => IM u.1 u.2.1 ∧ u.2.2 = rc ∧ (∀ k, k ∉ ([] : List Nat) → u.1 k = v k) ∧ (∀ k, k ∉ ([30, 31] : List Nat) → u.2.1 k = F k) ∧ True) (BM dC dI g c) (AM g s.heap.size)) ([.ref (g 0), .int p0, .int p1, .int p2, .int p3] : List Value).toArray s 0 0 (AM g s.heap.size)) (F0 m 112 ls []) := by
        intro n
        induction n with
        | zero =>
          intro x9_lp15686 x7_lp15686 v_lp15686 F_lp15686 H locs ls t15687 hm hf_lp15686 hI hF hP hS hl
          exfalso
          have := i32_rng x9_lp15686
          have := i32_rng x7_lp15686
          have hI1 := hI.1
          omega
        | succ n ih_lp15686 =>
          intro x9_lp15686 x7_lp15686 v_lp15686 F_lp15686 H locs ls t15687 hm hf_lp15686 hI hF hP hS hl
          have rx9_lp15686 := i32_rng x9_lp15686
          have rx7_lp15686 := i32_rng x7_lp15686
          refine lv_iload hx hb dX12_lacksOf_112 (lv_at hl 0 rfl) ?_
          refine lv_aload_n hx hb dX12_lacksOf_114 rfl (lv_at hl 5 rfl) ?_
          refine va_get (D := (dC, dI)) (ci := 12) (v := .int (v_lp15686 14)) (C := RX12) (T := TX12) (N := 63) hx hb hwd inA_X12 hown hK hP 0 rfl rfl 14 (by decide) (hwd _ wk_318) (fun _ h9 => h9) rfl dX12_lacksOf_115 ?_
          refine my_top (v := v 14) (hf_lp15686 14 (by decide)) ?_
          have t15688 : 0 ≤ (v 14).toInt ∧ (v 14).toInt ≤ 100 := by have h9 := hI.1 14 _ _ rfl; rw [show v_lp15686 14 = v 14 from hf_lp15686 14 (by decide)] at h9; exact h9
          refine lv_icmp_ge (tgt := 211) hx hb dX12_lacksOf_118 (by decide) (fun c15689 => ?_) (fun c15689 => ?_)
          · skip
            have t15690 := cv_le (a := (v 14).toInt) rfl (b := x9_lp15686.toInt) rfl c15689
            refine lv_iload hx hb dX12_lacksOf_211 (lv_at hl 2 rfl) ?_
            have hP9 : va_P (dC, dI) classes (wM g c v_lp15686 F_lp15686 rc) H := hP
            exact W.iret (v := x7_lp15686) hx hb hr (fun t ht hW => ⟨⟨x7_lp15686, (v_lp15686, F_lp15686, rc), rfl, ⟨hI, rfl, (frC (by decide) hf_lp15686 (fun _ _ => rfl)), hF, trivial⟩, (by show va_P _ _ _ t.heap; rw [ht]; exact hP9)⟩, hS.F ht⟩) hS.2.2 dX12_lacksOf_213
          · skip
            have t15691 := cv_nle (a := (v 14).toInt) rfl (b := x9_lp15686.toInt) rfl c15689
            refine lv_aload_n hx hb dX12_lacksOf_121 rfl (lv_at hl 5 rfl) ?_
            refine va_get (D := (dC, dI)) (ci := 12) (v := .ref (g 42)) (C := RX12) (T := TX12) (N := 63) hx hb hwd inA_X12 hown hK hP 0 rfl rfl 56 (by decide) (hwd _ wk_224) (fun _ h9 => h9) rfl dX12_lacksOf_122 ?_
            refine lv_iload hx hb dX12_lacksOf_125 (lv_at hl 0 rfl) ?_
            refine va_zald hx hb hK hP 42 41 rfl rfl (i := x9_lp15686) (vin (a := x9_lp15686.toInt) rfl (by omega)) dX12_lacksOf_127 ?_
            refine lv_topi (fun z15692 e15693 => ?_)
            have e15693 : z15692 = F 42 (x9_lp15686 : Int32).toNatClampNeg := e15693.trans (congrFun (hF 42 (by decide)) _)
            refine lv_if_eq (tgt := 205) hx hb dX12_lacksOf_128 (by decide) (fun c15694 => ?_) (fun c15694 => ?_)
            · skip
              have t15695 := cv_eq (a := z15692.toInt) rfl (b := 0) (by decide) c15694
              obtain ⟨z15696, e15697⟩ : ∃ y : Int32, y = x9_lp15686 + 1 := ⟨_, rfl⟩
              try (have t15698 := tadd e15697 rfl (b := 1) (by decide) (by omega))
              refine lv_iinc (v := z15696) (lv' := [(9, .int z15696), (8, .int 0), (7, .int x7_lp15686), (6, .int z15342), (5, .int z15339), (0, .ref (g 0)), (1, .int p0), (2, .int p1), (3, .int p2), (4, .int p3)]) hx hb dX12_lacksOf_205 hl (k := 0) rfl (by rw [e15697]; rfl) (by decide) rfl (fun ls hl => ?_)
              refine lv_goto (tgt := 112) hx hb dX12_lacksOf_208 (by decide) ?_
              exact ih_lp15686 z15696 x7_lp15686 v_lp15686 F_lp15686 _ _ _ (by omega) (by omega) hf_lp15686 hI hF hP hS (lv_sub hl [0, 1, 2, 3, 4, 5, 6, 7, 8, 9] rfl)
            · skip
              have t15699 := cv_ne (a := z15692.toInt) rfl (b := 0) (by decide) c15694
              refine lv_aload_n hx hb dX12_lacksOf_131 rfl (lv_at hl 5 rfl) ?_
              refine va_get (D := (dC, dI)) (ci := 12) (v := .ref (g 11)) (C := RX12) (T := TX12) (N := 63) hx hb hwd inA_X12 hown hK hP 0 rfl rfl 15 (by decide) (hwd _ wk_192) (fun _ h9 => h9) rfl dX12_lacksOf_132 ?_
              refine lv_iload hx hb dX12_lacksOf_135 (lv_at hl 0 rfl) ?_
              refine va_iald hx hb hK hP 11 10 rfl rfl (i := x9_lp15686) (vin (a := x9_lp15686.toInt) rfl (by omega)) dX12_lacksOf_137 ?_
              refine lv_topi (fun z15700 e15701 => ?_)
              have t15702 : 0 ≤ z15700.toInt ∧ z15700.toInt ≤ 9 := by rw [e15701]; exact hI.2 11 _ _ rfl _
              have e15701 : z15700 = F 11 (x9_lp15686 : Int32).toNatClampNeg := e15701.trans (congrFun (hF 11 (by decide)) _)
              refine lv_aload_n hx hb dX12_lacksOf_138 rfl (lv_at hl 5 rfl) ?_
              refine va_get (D := (dC, dI)) (ci := 12) (v := .ref (g 39)) (C := RX12) (T := TX12) (N := 63) hx hb hwd inA_X12 hown hK hP 0 rfl rfl 53 (by decide) (hwd _ wk_221) (fun _ h9 => h9) rfl dX12_lacksOf_139 ?_
              refine lv_iload hx hb dX12_lacksOf_142 (lv_at hl 4 rfl) ?_
              refine va_iald hx hb hK hP 39 38 rfl rfl (i := z15339) (vin (a := z15339.toInt) rfl (by omega)) dX12_lacksOf_144 ?_
              refine lv_topi (fun z15703 e15704 => ?_)
              have e15704 : z15703 = F 39 (z15339 : Int32).toNatClampNeg := e15704.trans (congrFun (hF 39 (by decide)) _)
              refine lv_icmp_ne (tgt := 205) hx hb dX12_lacksOf_145 (by decide) (fun c15705 => ?_) (fun c15705 => ?_)
              · skip
                have t15706 := cv_ne (a := z15700.toInt) rfl (b := z15703.toInt) rfl c15705
                obtain ⟨z15707, e15708⟩ : ∃ y : Int32, y = x9_lp15686 + 1 := ⟨_, rfl⟩
                try (have t15709 := tadd e15708 rfl (b := 1) (by decide) (by omega))
                refine lv_iinc (v := z15707) (lv' := [(9, .int z15707), (8, .int 0), (7, .int x7_lp15686), (6, .int z15342), (5, .int z15339), (0, .ref (g 0)), (1, .int p0), (2, .int p1), (3, .int p2), (4, .int p3)]) hx hb dX12_lacksOf_205 hl (k := 0) rfl (by rw [e15708]; rfl) (by decide) rfl (fun ls hl => ?_)
                refine lv_goto (tgt := 112) hx hb dX12_lacksOf_208 (by decide) ?_
                exact ih_lp15686 z15707 x7_lp15686 v_lp15686 F_lp15686 _ _ _ (by omega) (by omega) hf_lp15686 hI hF hP hS (lv_sub hl [0, 1, 2, 3, 4, 5, 6, 7, 8, 9] rfl)
              · skip
                have t15710 := cv_eq (a := z15700.toInt) rfl (b := z15703.toInt) rfl c15705
                refine lv_aload_n hx hb dX12_lacksOf_148 rfl (lv_at hl 5 rfl) ?_
                refine lv_iload hx hb dX12_lacksOf_149 (lv_at hl 0 rfl) ?_
                refine lv_iload hx hb dX12_lacksOf_151 (lv_at hl 1 rfl) ?_
                refine va_calli (va_runV (As := [.int x9_lp15686, .int 0]) (rest := []) ⟨hx, hb, hml, hown, hwd⟩ (c_X12_limitOf l dC dI g c adK adV v_lp15686 F_lp15686 rc H.size x9_lp15686 0 hg hI (by omega) (by have : (0 : Int32).toInt = 0 := (by decide); omega)) (cwV 2 hwd (gV wk_489 wk_486 wk_487 wk_488 wk_5) rfl rfl rfl (by decide +kernel) ⟨Nat.le_of_ble_eq_true rfl, Nat.le_of_ble_eq_true rfl⟩) ⟨PM.blind, va_recv hK hP (ci := 12) (q0 := 0) rfl rfl, fun U hU hW => ⟨rfl, PM.at hK hE hP hS hU hW⟩⟩ rfl rfl hl.1 rfl (lv_room (Nat.le_of_ble_eq_true rfl)) dX12_lacksOf_153 ⟨Nat.le_of_ble_eq_true rfl, Nat.le_of_ble_eq_true rfl⟩) hS (fun q _ h => (freeM hS) q h) (freeM hS) (fun r15711 u t H1 locs ht hvm hw hB hz1 hk1 hS => ?_)
                unfold BM at hB
                rw [ht] at hB
                have hP : va_P (dC, dI) classes (wM g c v_lp15686 F_lp15686 rc) H1 := hB
                replace hw : r15711.toInt = (F_lp15686 1 (limJ (F_lp15686 11) x9_lp15686 (0 : Int32))).toInt := hw
                rw [hF 1 (by decide)] at hw
                rw [hF 11 (by decide)] at hw
                have hw_r15711 := hw
                clear hw
                have k15712 : (0 : Int32).toInt = 0 := by decide
                clear hz1
                generalize H1 = H at hP hS ⊢
                refine lv_if_ne (tgt := 162) hx hb dX12_lacksOf_156 (by decide) (fun c15713 => ?_) (fun c15713 => ?_)
                · skip
                  have t15714 := cv_ne (a := r15711.toInt) rfl (b := 0) (by decide) c15713
                  refine lv_aload_n hx hb dX12_lacksOf_162 rfl (lv_at hl 5 rfl) ?_
                  refine lv_iload hx hb dX12_lacksOf_163 (lv_at hl 0 rfl) ?_
                  refine lv_iload hx hb dX12_lacksOf_165 (lv_at hl 1 rfl) ?_
                  refine lv_iload hx hb dX12_lacksOf_167 (lv_at hl 9 rfl) ?_
                  refine va_calli (va_runV (As := [.int x9_lp15686, .int 0, .int p3]) (rest := []) ⟨hx, hb, hml, hown, hwd⟩ (c_X12_leftOf l dC dI g c adK adV v_lp15686 F_lp15686 rc H.size x9_lp15686 0 p3 hg hI (by omega) (by have : (0 : Int32).toInt = 0 := (by decide); omega) (JL.to hL (show v_lp15686 31 = v 31 from hf_lp15686 31 (by decide)) (hF 28 (by decide)) (hF 29 (by decide)) (hF 27 (by decide)))) (cwV 3 hwd (gV wk_493 wk_490 wk_491 wk_492 wk_5) rfl rfl rfl (by decide +kernel) ⟨Nat.le_of_ble_eq_true rfl, Nat.le_of_ble_eq_true rfl⟩) ⟨PM.blind, va_recv hK hP (ci := 12) (q0 := 0) rfl rfl, fun U hU hW => ⟨rfl, PM.at hK hE hP hS hU hW⟩⟩ rfl rfl hl.1 rfl (lv_room (Nat.le_of_ble_eq_true rfl)) dX12_lacksOf_169 ⟨Nat.le_of_ble_eq_true rfl, Nat.le_of_ble_eq_true rfl⟩) hS (fun q _ h => (freeM hS) q h) (freeM hS) (fun r15715 u t H1 locs ht hvm hw hB hz1 hk1 hS => ?_)
                  unfold BM at hB
                  rw [ht] at hB
                  obtain ⟨v15716, F15717, rc9⟩ := u
                  obtain ⟨hI, hrc, hf15718, hG15719, hw⟩ := hw
                  dsimp only at hI hrc hB hf15718 hG15719 hw
                  have hF := frCF (by decide) hG15719 hF
                  rw [hrc] at hB
                  have hP : va_P (dC, dI) classes (wM g c v15716 F15717 rc) H1 := hB
                  clear hz1
                  generalize H1 = H at hP hS ⊢
                  have rr_r15715 := i32_rng r15715
                  refine lv_istore (lv' := [(10, .int r15715), (9, .int x9_lp15686), (8, .int 0), (7, .int x7_lp15686), (6, .int z15342), (5, .int z15339), (0, .ref (g 0)), (1, .int p0), (2, .int p1), (3, .int p2), (4, .int p3)]) hx hb dX12_lacksOf_172 hl (by decide) rfl (fun ls hl => ?_)
                  refine lv_iload hx hb dX12_lacksOf_174 (lv_at hl 3 rfl) ?_
                  refine lv_iload hx hb dX12_lacksOf_176 (lv_at hl 0 rfl) ?_
                  refine lv_aload_n hx hb dX12_lacksOf_178 rfl (lv_at hl 6 rfl) ?_
                  refine va_get (D := (dC, dI)) (ci := 12) (v := .ref (g 40)) (C := RX12) (T := TX12) (N := 63) hx hb hwd inA_X12 hown hK hP 0 rfl rfl 54 (by decide) (hwd _ wk_222) (fun _ h9 => h9) rfl dX12_lacksOf_179 ?_
                  refine lv_iload hx hb dX12_lacksOf_182 (lv_at hl 5 rfl) ?_
                  refine va_iald hx hb hK hP 40 39 rfl rfl (i := z15339) (vin (a := z15339.toInt) rfl (by omega)) dX12_lacksOf_184 ?_
                  refine lv_topi (fun z15720 e15721 => ?_)
                  have e15721 : z15720 = F 40 (z15339 : Int32).toNatClampNeg := e15721.trans (congrFun (hF 40 (by decide)) _)
                  refine lv_icmp_ge (tgt := 201) hx hb dX12_lacksOf_185 (by decide) (fun c15722 => ?_) (fun c15722 => ?_)
                  · skip
                    have t15723 := cv_le (a := z15720.toInt) rfl (b := r15715.toInt) rfl c15722
                    refine lv_iconst (v := 0) hx hb dX12_lacksOf_201 (by decide) ?_
                    refine lv_iadd hx hb dX12_lacksOf_202 ?_
                    refine lv_topi (fun z15724 e15725 => ?_)
                    try (have t15726 := tadd e15725 (a := x7_lp15686.toInt) rfl (b := 0) (by decide) (by omega))
                    refine lv_istore (lv' := [(7, .int z15724), (10, .int r15715), (9, .int x9_lp15686), (8, .int 0), (6, .int z15342), (5, .int z15339), (0, .ref (g 0)), (1, .int p0), (2, .int p1), (3, .int p2), (4, .int p3)]) hx hb dX12_lacksOf_203 hl (by decide) rfl (fun ls hl => ?_)
                    obtain ⟨z15727, e15728⟩ : ∃ y : Int32, y = x9_lp15686 + 1 := ⟨_, rfl⟩
                    try (have t15729 := tadd e15728 rfl (b := 1) (by decide) (by omega))
                    refine lv_iinc (v := z15727) (lv' := [(9, .int z15727), (7, .int z15724), (10, .int r15715), (8, .int 0), (6, .int z15342), (5, .int z15339), (0, .ref (g 0)), (1, .int p0), (2, .int p1), (3, .int p2), (4, .int p3)]) hx hb dX12_lacksOf_205 hl (k := 2) rfl (by rw [e15728]; rfl) (by decide) rfl (fun ls hl => ?_)
                    refine lv_goto (tgt := 112) hx hb dX12_lacksOf_208 (by decide) ?_
                    exact ih_lp15686 z15727 z15724 v15716 F15717 _ _ _ (by omega) (by omega) (frC (by decide) hf15718 hf_lp15686) hI hF hP hS (lv_sub hl [0, 3, 1, 4, 5, 6, 7, 8, 9, 10] rfl)
                  · skip
                    have t15730 := cv_nle (a := z15720.toInt) rfl (b := r15715.toInt) rfl c15722
                    refine lv_aload_n hx hb dX12_lacksOf_188 rfl (lv_at hl 6 rfl) ?_
                    refine va_get (D := (dC, dI)) (ci := 12) (v := .ref (g 40)) (C := RX12) (T := TX12) (N := 63) hx hb hwd inA_X12 hown hK hP 0 rfl rfl 54 (by decide) (hwd _ wk_222) (fun _ h9 => h9) rfl dX12_lacksOf_189 ?_
                    refine lv_iload hx hb dX12_lacksOf_192 (lv_at hl 5 rfl) ?_
                    refine va_iald hx hb hK hP 40 39 rfl rfl (i := z15339) (vin (a := z15339.toInt) rfl (by omega)) dX12_lacksOf_194 ?_
                    refine lv_topi (fun z15731 e15732 => ?_)
                    have e15732 : z15731 = F 40 (z15339 : Int32).toNatClampNeg := e15732.trans (congrFun (hF 40 (by decide)) _)
                    refine lv_iload hx hb dX12_lacksOf_195 (lv_at hl 0 rfl) ?_
                    refine lv_isub hx hb dX12_lacksOf_197 ?_
                    refine lv_topi (fun z15733 e15734 => ?_)
                    try (have t15735 := tsub e15734 (a := z15731.toInt) rfl (b := r15715.toInt) rfl (by omega))
                    refine lv_goto (tgt := 202) hx hb dX12_lacksOf_198 (by decide) ?_
                    refine lv_iadd hx hb dX12_lacksOf_202 ?_
                    refine lv_topi (fun z15736 e15737 => ?_)
                    try (have t15738 := tadd e15737 (a := x7_lp15686.toInt) rfl (b := z15733.toInt) rfl (by omega))
                    refine lv_istore (lv' := [(7, .int z15736), (10, .int r15715), (9, .int x9_lp15686), (8, .int 0), (6, .int z15342), (5, .int z15339), (0, .ref (g 0)), (1, .int p0), (2, .int p1), (3, .int p2), (4, .int p3)]) hx hb dX12_lacksOf_203 hl (by decide) rfl (fun ls hl => ?_)
                    obtain ⟨z15739, e15740⟩ : ∃ y : Int32, y = x9_lp15686 + 1 := ⟨_, rfl⟩
                    try (have t15741 := tadd e15740 rfl (b := 1) (by decide) (by omega))
                    refine lv_iinc (v := z15739) (lv' := [(9, .int z15739), (7, .int z15736), (10, .int r15715), (8, .int 0), (6, .int z15342), (5, .int z15339), (0, .ref (g 0)), (1, .int p0), (2, .int p1), (3, .int p2), (4, .int p3)]) hx hb dX12_lacksOf_205 hl (k := 2) rfl (by rw [e15740]; rfl) (by decide) rfl (fun ls hl => ?_)
                    refine lv_goto (tgt := 112) hx hb dX12_lacksOf_208 (by decide) ?_
                    exact ih_lp15686 z15739 z15736 v15716 F15717 _ _ _ (by omega) (by omega) (frC (by decide) hf15718 hf_lp15686) hI hF hP hS (lv_sub hl [0, 3, 1, 4, 5, 6, 7, 8, 9, 10] rfl)
                · skip
                  have t15742 := cv_eq (a := r15711.toInt) rfl (b := 0) (by decide) c15713
                  refine lv_goto (tgt := 205) hx hb dX12_lacksOf_159 (by decide) ?_
                  obtain ⟨z15743, e15744⟩ : ∃ y : Int32, y = x9_lp15686 + 1 := ⟨_, rfl⟩
                  try (have t15745 := tadd e15744 rfl (b := 1) (by decide) (by omega))
                  refine lv_iinc (v := z15743) (lv' := [(9, .int z15743), (8, .int 0), (7, .int x7_lp15686), (6, .int z15342), (5, .int z15339), (0, .ref (g 0)), (1, .int p0), (2, .int p1), (3, .int p2), (4, .int p3)]) hx hb dX12_lacksOf_205 hl (k := 0) rfl (by rw [e15744]; rfl) (by decide) rfl (fun ls hl => ?_)
                  refine lv_goto (tgt := 112) hx hb dX12_lacksOf_208 (by decide) ?_
                  exact ih_lp15686 z15743 x7_lp15686 v_lp15686 F_lp15686 _ _ _ (by omega) (by omega) hf_lp15686 hI hF hP hS (lv_sub hl [0, 1, 2, 3, 4, 5, 6, 7, 8, 9] rfl)
      obtain ⟨n9, hn9⟩ : ∃ n : Nat, 2147483648 - 0 ≤ (n : Int) := ⟨((2147483648 - 0 : Int)).toNat, by omega⟩
      exact lp15686 n9 0 0 v F H _ ls (by have : (0 : Int32).toInt = 0 := (by decide); have : (0 : Int32).toInt = 0 := (by decide); omega) (by have : (0 : Int32).toInt = 0 := (by decide); have : (0 : Int32).toInt = 0 := (by decide); omega) (fun _ _ => rfl) hI hF hP hS hl
  · refine lv_tableIn (off := 409) (tgt := 431) hx hb dX12_lacksOf_22 hlo15344 hhi15345 (by rw [hk]; decide) (by decide) ?_
    refine lv_aload_n hx hb dX12_lacksOf_431 rfl (lv_at hl 3 rfl) ?_
    refine lv_iload_n hx hb dX12_lacksOf_432 rfl (lv_at hl 4 rfl) ?_
    refine lv_iload_n hx hb dX12_lacksOf_433 rfl (lv_at hl 6 rfl) ?_
    refine va_calli (va_runV (As := [.int p0, .int p2]) (rest := []) ⟨hx, hb, hml, hown, hwd⟩ (c_X12_late l dC dI g c adK adV v F rc H.size p0 p2 hg hI (by omega)) (cwV 2 hwd (gV wk_1213 wk_1210 wk_1211 wk_1212 wk_5) rfl rfl rfl (by decide +kernel) ⟨Nat.le_of_ble_eq_true rfl, Nat.le_of_ble_eq_true rfl⟩) ⟨PM.blind, va_recv hK hP (ci := 12) (q0 := 0) rfl rfl, fun U hU hW => ⟨rfl, PM.at hK hE hP hS hU hW⟩⟩ rfl rfl hl.1 rfl (lv_room (Nat.le_of_ble_eq_true rfl)) dX12_lacksOf_434 ⟨Nat.le_of_ble_eq_true rfl, Nat.le_of_ble_eq_true rfl⟩) hS (fun q _ h => (freeM hS) q h) (freeM hS) (fun r15746 u t H1 locs ht hvm hw hB hz1 hk1 hS => ?_)
    unfold BM at hB
    rw [ht] at hB
    have hP : va_P (dC, dI) classes (wM g c v F rc) H1 := hB
    clear hz1
    generalize H1 = H at hP hS ⊢
    have rr_r15746 := i32_rng r15746
    have hP9 : va_P (dC, dI) classes (wM g c v F rc) H := hP
    exact W.iret (v := r15746) hx hb hr (fun t ht hW => ⟨⟨r15746, (v, F, rc), rfl, ⟨hI, rfl, (fun _ _ => rfl), hF, trivial⟩, (by show va_P _ _ _ t.heap; rw [ht]; exact hP9)⟩, hS.F ht⟩) hS.2.2 dX12_lacksOf_437
  · refine lv_tableIn (off := 409) (tgt := 431) hx hb dX12_lacksOf_22 hlo15344 hhi15345 (by rw [hk]; decide) (by decide) ?_
    refine lv_aload_n hx hb dX12_lacksOf_431 rfl (lv_at hl 3 rfl) ?_
    refine lv_iload_n hx hb dX12_lacksOf_432 rfl (lv_at hl 4 rfl) ?_
    refine lv_iload_n hx hb dX12_lacksOf_433 rfl (lv_at hl 6 rfl) ?_
    refine va_calli (va_runV (As := [.int p0, .int p2]) (rest := []) ⟨hx, hb, hml, hown, hwd⟩ (c_X12_late l dC dI g c adK adV v F rc H.size p0 p2 hg hI (by omega)) (cwV 2 hwd (gV wk_1213 wk_1210 wk_1211 wk_1212 wk_5) rfl rfl rfl (by decide +kernel) ⟨Nat.le_of_ble_eq_true rfl, Nat.le_of_ble_eq_true rfl⟩) ⟨PM.blind, va_recv hK hP (ci := 12) (q0 := 0) rfl rfl, fun U hU hW => ⟨rfl, PM.at hK hE hP hS hU hW⟩⟩ rfl rfl hl.1 rfl (lv_room (Nat.le_of_ble_eq_true rfl)) dX12_lacksOf_434 ⟨Nat.le_of_ble_eq_true rfl, Nat.le_of_ble_eq_true rfl⟩) hS (fun q _ h => (freeM hS) q h) (freeM hS) (fun r15747 u t H1 locs ht hvm hw hB hz1 hk1 hS => ?_)
    unfold BM at hB
    rw [ht] at hB
    have hP : va_P (dC, dI) classes (wM g c v F rc) H1 := hB
    clear hz1
    generalize H1 = H at hP hS ⊢
    have rr_r15747 := i32_rng r15747
    have hP9 : va_P (dC, dI) classes (wM g c v F rc) H := hP
    exact W.iret (v := r15747) hx hb hr (fun t ht hW => ⟨⟨r15747, (v, F, rc), rfl, ⟨hI, rfl, (fun _ _ => rfl), hF, trivial⟩, (by show va_P _ _ _ t.heap; rw [ht]; exact hP9)⟩, hS.F ht⟩) hS.2.2 dX12_lacksOf_437
  · refine lv_tableIn (off := 409) (tgt := 431) hx hb dX12_lacksOf_22 hlo15344 hhi15345 (by rw [hk]; decide) (by decide) ?_
    refine lv_aload_n hx hb dX12_lacksOf_431 rfl (lv_at hl 3 rfl) ?_
    refine lv_iload_n hx hb dX12_lacksOf_432 rfl (lv_at hl 4 rfl) ?_
    refine lv_iload_n hx hb dX12_lacksOf_433 rfl (lv_at hl 6 rfl) ?_
    refine va_calli (va_runV (As := [.int p0, .int p2]) (rest := []) ⟨hx, hb, hml, hown, hwd⟩ (c_X12_late l dC dI g c adK adV v F rc H.size p0 p2 hg hI (by omega)) (cwV 2 hwd (gV wk_1213 wk_1210 wk_1211 wk_1212 wk_5) rfl rfl rfl (by decide +kernel) ⟨Nat.le_of_ble_eq_true rfl, Nat.le_of_ble_eq_true rfl⟩) ⟨PM.blind, va_recv hK hP (ci := 12) (q0 := 0) rfl rfl, fun U hU hW => ⟨rfl, PM.at hK hE hP hS hU hW⟩⟩ rfl rfl hl.1 rfl (lv_room (Nat.le_of_ble_eq_true rfl)) dX12_lacksOf_434 ⟨Nat.le_of_ble_eq_true rfl, Nat.le_of_ble_eq_true rfl⟩) hS (fun q _ h => (freeM hS) q h) (freeM hS) (fun r15748 u t H1 locs ht hvm hw hB hz1 hk1 hS => ?_)
    unfold BM at hB
    rw [ht] at hB
    have hP : va_P (dC, dI) classes (wM g c v F rc) H1 := hB
    clear hz1
    generalize H1 = H at hP hS ⊢
    have rr_r15748 := i32_rng r15748
    have hP9 : va_P (dC, dI) classes (wM g c v F rc) H := hP
    exact W.iret (v := r15748) hx hb hr (fun t ht hW => ⟨⟨r15748, (v, F, rc), rfl, ⟨hI, rfl, (fun _ _ => rfl), hF, trivial⟩, (by show va_P _ _ _ t.heap; rw [ht]; exact hP9)⟩, hS.F ht⟩) hS.2.2 dX12_lacksOf_437
  · refine lv_tableIn (off := 62) (tgt := 84) hx hb dX12_lacksOf_22 hlo15344 hhi15345 (by rw [hk]; decide) (by decide) ?_
    refine lv_iload hx hb dX12_lacksOf_84 (lv_at hl 1 rfl) ?_
    refine lv_bipush (v := 104) hx hb dX12_lacksOf_86 (by decide) ?_
    refine lv_icmp_ne (tgt := 95) hx hb dX12_lacksOf_88 (by decide) (fun c15749 => ?_) (fun c15749 => ?_)
    · skip
      have t15750 := cv_ne (a := z15342.toInt) rfl (b := 104) (by decide) c15749
      refine lv_iload hx hb dX12_lacksOf_95 (lv_at hl 1 rfl) ?_
      refine lv_bipush (v := 108) hx hb dX12_lacksOf_97 (by decide) ?_
      refine lv_icmp_ne (tgt := 106) hx hb dX12_lacksOf_99 (by decide) (fun c15751 => ?_) (fun c15751 => ?_)
      · skip
        have t15752 := cv_ne (a := z15342.toInt) rfl (b := 108) (by decide) c15751
        refine lv_iconst (v := 2) hx hb dX12_lacksOf_106 (by decide) ?_
        refine lv_istore (lv' := [(8, .int 2), (7, .int 0), (6, .int z15342), (5, .int z15339), (0, .ref (g 0)), (1, .int p0), (2, .int p1), (3, .int p2), (4, .int p3)]) hx hb dX12_lacksOf_107 hl (by decide) rfl (fun ls hl => ?_)
        refine lv_iconst (v := 0) hx hb dX12_lacksOf_109 (by decide) ?_
        refine lv_istore (lv' := [(9, .int 0), (8, .int 2), (7, .int 0), (6, .int z15342), (5, .int z15339), (0, .ref (g 0)), (1, .int p0), (2, .int p1), (3, .int p2), (4, .int p3)]) hx hb dX12_lacksOf_110 hl (by decide) rfl (fun ls hl => ?_)
        have lp15753 : ∀ (n : Nat) (x9_lp15753 : Int32) (x7_lp15753 : Int32) (v_lp15753 : Nat → Int32) (F_lp15753 : Nat → Nat → Int32) (H : Heap) (locs : List Loc) (ls : Array Slot), (0 ≤ x9_lp15753.toInt) → (2147483648 - x9_lp15753.toInt ≤ (n : Int)) → (∀ k, k ∉ ([] : List Nat) → v_lp15753 k = v k) → IM v_lp15753 F_lp15753 → (∀ k, k ∉ ([30, 31] : List Nat) → F_lp15753 k = F k) → va_P (dC, dI) classes (wM g c v_lp15753 F_lp15753 rc) H → va_S (AM g s.heap.size) s.heap H locs → lv_has ls 11 [(9, .int x9_lp15753), (8, .int 2), (7, .int x7_lp15753), (6, .int z15342), (5, .int z15339), (0, .ref (g 0)), (1, .int p0), (2, .int p1), (3, .int p2), (4, .int p3)] → W p l e (headSpec (Cond.code yX12_lacksOf cX12_lacksOf 11 (some .int) :: wA) ({ frames := 5, cells := 0, slots := 0, locals := 200 })).room s m ([.ref (g 0), .int p0, .int p1, .int p2, .int p3] : List Value).toArray below meth c0 H locs 0 0 (MQ below (va_Qi (fun (r : Int32) (u : StM) => IM u.1 u.2.1 ∧ u.2.2 = rc ∧ (∀ k, k ∉ ([] : List Nat) → u.1 k = v k) ∧ (∀ k, k ∉ ([30, 31] : List Nat) → u.2.1 k = F k) ∧ True) (BM dC dI g c) (AM g s.heap.size)) ([.ref (g 0), .int p0, .int p1, .int p2, .int p3] : List Value).toArray s 0 0 (AM g s.heap.size)) (F0 m 112 ls []) := by
          intro n
          induction n with
          | zero =>
            intro x9_lp15753 x7_lp15753 v_lp15753 F_lp15753 H locs ls t15754 hm hf_lp15753 hI hF hP hS hl
            exfalso
            have := i32_rng x9_lp15753
            have := i32_rng x7_lp15753
            have hI1 := hI.1
            omega
          | succ n ih_lp15753 =>
            intro x9_lp15753 x7_lp15753 v_lp15753 F_lp15753 H locs ls t15754 hm hf_lp15753 hI hF hP hS hl
            have rx9_lp15753 := i32_rng x9_lp15753
            have rx7_lp15753 := i32_rng x7_lp15753
            refine lv_iload hx hb dX12_lacksOf_112 (lv_at hl 0 rfl) ?_
            refine lv_aload_n hx hb dX12_lacksOf_114 rfl (lv_at hl 5 rfl) ?_
            refine va_get (D := (dC, dI)) (ci := 12) (v := .int (v_lp15753 14)) (C := RX12) (T := TX12) (N := 63) hx hb hwd inA_X12 hown hK hP 0 rfl rfl 14 (by decide) (hwd _ wk_318) (fun _ h9 => h9) rfl dX12_lacksOf_115 ?_
            refine my_top (v := v 14) (hf_lp15753 14 (by decide)) ?_
            have t15755 : 0 ≤ (v 14).toInt ∧ (v 14).toInt ≤ 100 := by have h9 := hI.1 14 _ _ rfl; rw [show v_lp15753 14 = v 14 from hf_lp15753 14 (by decide)] at h9; exact h9
            refine lv_icmp_ge (tgt := 211) hx hb dX12_lacksOf_118 (by decide) (fun c15756 => ?_) (fun c15756 => ?_)
            · skip
              have t15757 := cv_le (a := (v 14).toInt) rfl (b := x9_lp15753.toInt) rfl c15756
              refine lv_iload hx hb dX12_lacksOf_211 (lv_at hl 2 rfl) ?_
              have hP9 : va_P (dC, dI) classes (wM g c v_lp15753 F_lp15753 rc) H := hP
              exact W.iret (v := x7_lp15753) hx hb hr (fun t ht hW => ⟨⟨x7_lp15753, (v_lp15753, F_lp15753, rc), rfl, ⟨hI, rfl, (frC (by decide) hf_lp15753 (fun _ _ => rfl)), hF, trivial⟩, (by show va_P _ _ _ t.heap; rw [ht]; exact hP9)⟩, hS.F ht⟩) hS.2.2 dX12_lacksOf_213
            · skip
              have t15758 := cv_nle (a := (v 14).toInt) rfl (b := x9_lp15753.toInt) rfl c15756
              refine lv_aload_n hx hb dX12_lacksOf_121 rfl (lv_at hl 5 rfl) ?_
              refine va_get (D := (dC, dI)) (ci := 12) (v := .ref (g 42)) (C := RX12) (T := TX12) (N := 63) hx hb hwd inA_X12 hown hK hP 0 rfl rfl 56 (by decide) (hwd _ wk_224) (fun _ h9 => h9) rfl dX12_lacksOf_122 ?_
              refine lv_iload hx hb dX12_lacksOf_125 (lv_at hl 0 rfl) ?_
              refine va_zald hx hb hK hP 42 41 rfl rfl (i := x9_lp15753) (vin (a := x9_lp15753.toInt) rfl (by omega)) dX12_lacksOf_127 ?_
              refine lv_topi (fun z15759 e15760 => ?_)
              have e15760 : z15759 = F 42 (x9_lp15753 : Int32).toNatClampNeg := e15760.trans (congrFun (hF 42 (by decide)) _)
              refine lv_if_eq (tgt := 205) hx hb dX12_lacksOf_128 (by decide) (fun c15761 => ?_) (fun c15761 => ?_)
              · skip
                have t15762 := cv_eq (a := z15759.toInt) rfl (b := 0) (by decide) c15761
                obtain ⟨z15763, e15764⟩ : ∃ y : Int32, y = x9_lp15753 + 1 := ⟨_, rfl⟩
                try (have t15765 := tadd e15764 rfl (b := 1) (by decide) (by omega))
                refine lv_iinc (v := z15763) (lv' := [(9, .int z15763), (8, .int 2), (7, .int x7_lp15753), (6, .int z15342), (5, .int z15339), (0, .ref (g 0)), (1, .int p0), (2, .int p1), (3, .int p2), (4, .int p3)]) hx hb dX12_lacksOf_205 hl (k := 0) rfl (by rw [e15764]; rfl) (by decide) rfl (fun ls hl => ?_)
                refine lv_goto (tgt := 112) hx hb dX12_lacksOf_208 (by decide) ?_
                exact ih_lp15753 z15763 x7_lp15753 v_lp15753 F_lp15753 _ _ _ (by omega) (by omega) hf_lp15753 hI hF hP hS (lv_sub hl [0, 1, 2, 3, 4, 5, 6, 7, 8, 9] rfl)
              · skip
                have t15766 := cv_ne (a := z15759.toInt) rfl (b := 0) (by decide) c15761
                refine lv_aload_n hx hb dX12_lacksOf_131 rfl (lv_at hl 5 rfl) ?_
                refine va_get (D := (dC, dI)) (ci := 12) (v := .ref (g 11)) (C := RX12) (T := TX12) (N := 63) hx hb hwd inA_X12 hown hK hP 0 rfl rfl 15 (by decide) (hwd _ wk_192) (fun _ h9 => h9) rfl dX12_lacksOf_132 ?_
                refine lv_iload hx hb dX12_lacksOf_135 (lv_at hl 0 rfl) ?_
                refine va_iald hx hb hK hP 11 10 rfl rfl (i := x9_lp15753) (vin (a := x9_lp15753.toInt) rfl (by omega)) dX12_lacksOf_137 ?_
                refine lv_topi (fun z15767 e15768 => ?_)
                have t15769 : 0 ≤ z15767.toInt ∧ z15767.toInt ≤ 9 := by rw [e15768]; exact hI.2 11 _ _ rfl _
                have e15768 : z15767 = F 11 (x9_lp15753 : Int32).toNatClampNeg := e15768.trans (congrFun (hF 11 (by decide)) _)
                refine lv_aload_n hx hb dX12_lacksOf_138 rfl (lv_at hl 5 rfl) ?_
                refine va_get (D := (dC, dI)) (ci := 12) (v := .ref (g 39)) (C := RX12) (T := TX12) (N := 63) hx hb hwd inA_X12 hown hK hP 0 rfl rfl 53 (by decide) (hwd _ wk_221) (fun _ h9 => h9) rfl dX12_lacksOf_139 ?_
                refine lv_iload hx hb dX12_lacksOf_142 (lv_at hl 4 rfl) ?_
                refine va_iald hx hb hK hP 39 38 rfl rfl (i := z15339) (vin (a := z15339.toInt) rfl (by omega)) dX12_lacksOf_144 ?_
                refine lv_topi (fun z15770 e15771 => ?_)
                have e15771 : z15770 = F 39 (z15339 : Int32).toNatClampNeg := e15771.trans (congrFun (hF 39 (by decide)) _)
                refine lv_icmp_ne (tgt := 205) hx hb dX12_lacksOf_145 (by decide) (fun c15772 => ?_) (fun c15772 => ?_)
                · skip
                  have t15773 := cv_ne (a := z15767.toInt) rfl (b := z15770.toInt) rfl c15772
                  obtain ⟨z15774, e15775⟩ : ∃ y : Int32, y = x9_lp15753 + 1 := ⟨_, rfl⟩
                  try (have t15776 := tadd e15775 rfl (b := 1) (by decide) (by omega))
                  refine lv_iinc (v := z15774) (lv' := [(9, .int z15774), (8, .int 2), (7, .int x7_lp15753), (6, .int z15342), (5, .int z15339), (0, .ref (g 0)), (1, .int p0), (2, .int p1), (3, .int p2), (4, .int p3)]) hx hb dX12_lacksOf_205 hl (k := 0) rfl (by rw [e15775]; rfl) (by decide) rfl (fun ls hl => ?_)
                  refine lv_goto (tgt := 112) hx hb dX12_lacksOf_208 (by decide) ?_
                  exact ih_lp15753 z15774 x7_lp15753 v_lp15753 F_lp15753 _ _ _ (by omega) (by omega) hf_lp15753 hI hF hP hS (lv_sub hl [0, 1, 2, 3, 4, 5, 6, 7, 8, 9] rfl)
                · skip
                  have t15777 := cv_eq (a := z15767.toInt) rfl (b := z15770.toInt) rfl c15772
                  refine lv_aload_n hx hb dX12_lacksOf_148 rfl (lv_at hl 5 rfl) ?_
                  refine lv_iload hx hb dX12_lacksOf_149 (lv_at hl 0 rfl) ?_
                  refine lv_iload hx hb dX12_lacksOf_151 (lv_at hl 1 rfl) ?_
                  refine va_calli (va_runV (As := [.int x9_lp15753, .int 2]) (rest := []) ⟨hx, hb, hml, hown, hwd⟩ (c_X12_limitOf l dC dI g c adK adV v_lp15753 F_lp15753 rc H.size x9_lp15753 2 hg hI (by omega) (by have : (2 : Int32).toInt = 2 := (by decide); omega)) (cwV 2 hwd (gV wk_489 wk_486 wk_487 wk_488 wk_5) rfl rfl rfl (by decide +kernel) ⟨Nat.le_of_ble_eq_true rfl, Nat.le_of_ble_eq_true rfl⟩) ⟨PM.blind, va_recv hK hP (ci := 12) (q0 := 0) rfl rfl, fun U hU hW => ⟨rfl, PM.at hK hE hP hS hU hW⟩⟩ rfl rfl hl.1 rfl (lv_room (Nat.le_of_ble_eq_true rfl)) dX12_lacksOf_153 ⟨Nat.le_of_ble_eq_true rfl, Nat.le_of_ble_eq_true rfl⟩) hS (fun q _ h => (freeM hS) q h) (freeM hS) (fun r15778 u t H1 locs ht hvm hw hB hz1 hk1 hS => ?_)
                  unfold BM at hB
                  rw [ht] at hB
                  have hP : va_P (dC, dI) classes (wM g c v_lp15753 F_lp15753 rc) H1 := hB
                  replace hw : r15778.toInt = (F_lp15753 1 (limJ (F_lp15753 11) x9_lp15753 (2 : Int32))).toInt := hw
                  rw [hF 1 (by decide)] at hw
                  rw [hF 11 (by decide)] at hw
                  have hw_r15778 := hw
                  clear hw
                  have k15779 : (2 : Int32).toInt = 2 := by decide
                  clear hz1
                  generalize H1 = H at hP hS ⊢
                  refine lv_if_ne (tgt := 162) hx hb dX12_lacksOf_156 (by decide) (fun c15780 => ?_) (fun c15780 => ?_)
                  · skip
                    have t15781 := cv_ne (a := r15778.toInt) rfl (b := 0) (by decide) c15780
                    refine lv_aload_n hx hb dX12_lacksOf_162 rfl (lv_at hl 5 rfl) ?_
                    refine lv_iload hx hb dX12_lacksOf_163 (lv_at hl 0 rfl) ?_
                    refine lv_iload hx hb dX12_lacksOf_165 (lv_at hl 1 rfl) ?_
                    refine lv_iload hx hb dX12_lacksOf_167 (lv_at hl 9 rfl) ?_
                    refine va_calli (va_runV (As := [.int x9_lp15753, .int 2, .int p3]) (rest := []) ⟨hx, hb, hml, hown, hwd⟩ (c_X12_leftOf l dC dI g c adK adV v_lp15753 F_lp15753 rc H.size x9_lp15753 2 p3 hg hI (by omega) (by have : (2 : Int32).toInt = 2 := (by decide); omega) (JL.to hL (show v_lp15753 31 = v 31 from hf_lp15753 31 (by decide)) (hF 28 (by decide)) (hF 29 (by decide)) (hF 27 (by decide)))) (cwV 3 hwd (gV wk_493 wk_490 wk_491 wk_492 wk_5) rfl rfl rfl (by decide +kernel) ⟨Nat.le_of_ble_eq_true rfl, Nat.le_of_ble_eq_true rfl⟩) ⟨PM.blind, va_recv hK hP (ci := 12) (q0 := 0) rfl rfl, fun U hU hW => ⟨rfl, PM.at hK hE hP hS hU hW⟩⟩ rfl rfl hl.1 rfl (lv_room (Nat.le_of_ble_eq_true rfl)) dX12_lacksOf_169 ⟨Nat.le_of_ble_eq_true rfl, Nat.le_of_ble_eq_true rfl⟩) hS (fun q _ h => (freeM hS) q h) (freeM hS) (fun r15782 u t H1 locs ht hvm hw hB hz1 hk1 hS => ?_)
                    unfold BM at hB
                    rw [ht] at hB
                    obtain ⟨v15783, F15784, rc9⟩ := u
                    obtain ⟨hI, hrc, hf15785, hG15786, hw⟩ := hw
                    dsimp only at hI hrc hB hf15785 hG15786 hw
                    have hF := frCF (by decide) hG15786 hF
                    rw [hrc] at hB
                    have hP : va_P (dC, dI) classes (wM g c v15783 F15784 rc) H1 := hB
                    clear hz1
                    generalize H1 = H at hP hS ⊢
                    have rr_r15782 := i32_rng r15782
                    refine lv_istore (lv' := [(10, .int r15782), (9, .int x9_lp15753), (8, .int 2), (7, .int x7_lp15753), (6, .int z15342), (5, .int z15339), (0, .ref (g 0)), (1, .int p0), (2, .int p1), (3, .int p2), (4, .int p3)]) hx hb dX12_lacksOf_172 hl (by decide) rfl (fun ls hl => ?_)
                    refine lv_iload hx hb dX12_lacksOf_174 (lv_at hl 3 rfl) ?_
                    refine lv_iload hx hb dX12_lacksOf_176 (lv_at hl 0 rfl) ?_
                    refine lv_aload_n hx hb dX12_lacksOf_178 rfl (lv_at hl 6 rfl) ?_
                    refine va_get (D := (dC, dI)) (ci := 12) (v := .ref (g 40)) (C := RX12) (T := TX12) (N := 63) hx hb hwd inA_X12 hown hK hP 0 rfl rfl 54 (by decide) (hwd _ wk_222) (fun _ h9 => h9) rfl dX12_lacksOf_179 ?_
                    refine lv_iload hx hb dX12_lacksOf_182 (lv_at hl 5 rfl) ?_
                    refine va_iald hx hb hK hP 40 39 rfl rfl (i := z15339) (vin (a := z15339.toInt) rfl (by omega)) dX12_lacksOf_184 ?_
                    refine lv_topi (fun z15787 e15788 => ?_)
                    have e15788 : z15787 = F 40 (z15339 : Int32).toNatClampNeg := e15788.trans (congrFun (hF 40 (by decide)) _)
                    refine lv_icmp_ge (tgt := 201) hx hb dX12_lacksOf_185 (by decide) (fun c15789 => ?_) (fun c15789 => ?_)
                    · skip
                      have t15790 := cv_le (a := z15787.toInt) rfl (b := r15782.toInt) rfl c15789
                      refine lv_iconst (v := 0) hx hb dX12_lacksOf_201 (by decide) ?_
                      refine lv_iadd hx hb dX12_lacksOf_202 ?_
                      refine lv_topi (fun z15791 e15792 => ?_)
                      try (have t15793 := tadd e15792 (a := x7_lp15753.toInt) rfl (b := 0) (by decide) (by omega))
                      refine lv_istore (lv' := [(7, .int z15791), (10, .int r15782), (9, .int x9_lp15753), (8, .int 2), (6, .int z15342), (5, .int z15339), (0, .ref (g 0)), (1, .int p0), (2, .int p1), (3, .int p2), (4, .int p3)]) hx hb dX12_lacksOf_203 hl (by decide) rfl (fun ls hl => ?_)
                      obtain ⟨z15794, e15795⟩ : ∃ y : Int32, y = x9_lp15753 + 1 := ⟨_, rfl⟩
                      try (have t15796 := tadd e15795 rfl (b := 1) (by decide) (by omega))
                      refine lv_iinc (v := z15794) (lv' := [(9, .int z15794), (7, .int z15791), (10, .int r15782), (8, .int 2), (6, .int z15342), (5, .int z15339), (0, .ref (g 0)), (1, .int p0), (2, .int p1), (3, .int p2), (4, .int p3)]) hx hb dX12_lacksOf_205 hl (k := 2) rfl (by rw [e15795]; rfl) (by decide) rfl (fun ls hl => ?_)
                      refine lv_goto (tgt := 112) hx hb dX12_lacksOf_208 (by decide) ?_
                      exact ih_lp15753 z15794 z15791 v15783 F15784 _ _ _ (by omega) (by omega) (frC (by decide) hf15785 hf_lp15753) hI hF hP hS (lv_sub hl [0, 3, 1, 4, 5, 6, 7, 8, 9, 10] rfl)
                    · skip
                      have t15797 := cv_nle (a := z15787.toInt) rfl (b := r15782.toInt) rfl c15789
                      refine lv_aload_n hx hb dX12_lacksOf_188 rfl (lv_at hl 6 rfl) ?_
                      refine va_get (D := (dC, dI)) (ci := 12) (v := .ref (g 40)) (C := RX12) (T := TX12) (N := 63) hx hb hwd inA_X12 hown hK hP 0 rfl rfl 54 (by decide) (hwd _ wk_222) (fun _ h9 => h9) rfl dX12_lacksOf_189 ?_
                      refine lv_iload hx hb dX12_lacksOf_192 (lv_at hl 5 rfl) ?_
                      refine va_iald hx hb hK hP 40 39 rfl rfl (i := z15339) (vin (a := z15339.toInt) rfl (by omega)) dX12_lacksOf_194 ?_
                      refine lv_topi (fun z15798 e15799 => ?_)
                      have e15799 : z15798 = F 40 (z15339 : Int32).toNatClampNeg := e15799.trans (congrFun (hF 40 (by decide)) _)
                      refine lv_iload hx hb dX12_lacksOf_195 (lv_at hl 0 rfl) ?_
                      refine lv_isub hx hb dX12_lacksOf_197 ?_
                      refine lv_topi (fun z15800 e15801 => ?_)
                      try (have t15802 := tsub e15801 (a := z15798.toInt) rfl (b := r15782.toInt) rfl (by omega))
                      refine lv_goto (tgt := 202) hx hb dX12_lacksOf_198 (by decide) ?_
                      refine lv_iadd hx hb dX12_lacksOf_202 ?_
                      refine lv_topi (fun z15803 e15804 => ?_)
                      try (have t15805 := tadd e15804 (a := x7_lp15753.toInt) rfl (b := z15800.toInt) rfl (by omega))
                      refine lv_istore (lv' := [(7, .int z15803), (10, .int r15782), (9, .int x9_lp15753), (8, .int 2), (6, .int z15342), (5, .int z15339), (0, .ref (g 0)), (1, .int p0), (2, .int p1), (3, .int p2), (4, .int p3)]) hx hb dX12_lacksOf_203 hl (by decide) rfl (fun ls hl => ?_)
                      obtain ⟨z15806, e15807⟩ : ∃ y : Int32, y = x9_lp15753 + 1 := ⟨_, rfl⟩
                      try (have t15808 := tadd e15807 rfl (b := 1) (by decide) (by omega))
                      refine lv_iinc (v := z15806) (lv' := [(9, .int z15806), (7, .int z15803), (10, .int r15782), (8, .int 2), (6, .int z15342), (5, .int z15339), (0, .ref (g 0)), (1, .int p0), (2, .int p1), (3, .int p2), (4, .int p3)]) hx hb dX12_lacksOf_205 hl (k := 2) rfl (by rw [e15807]; rfl) (by decide) rfl (fun ls hl => ?_)
                      refine lv_goto (tgt := 112) hx hb dX12_lacksOf_208 (by decide) ?_
                      exact ih_lp15753 z15806 z15803 v15783 F15784 _ _ _ (by omega) (by omega) (frC (by decide) hf15785 hf_lp15753) hI hF hP hS (lv_sub hl [0, 3, 1, 4, 5, 6, 7, 8, 9, 10] rfl)
                  · skip
                    have t15809 := cv_eq (a := r15778.toInt) rfl (b := 0) (by decide) c15780
                    refine lv_goto (tgt := 205) hx hb dX12_lacksOf_159 (by decide) ?_
                    obtain ⟨z15810, e15811⟩ : ∃ y : Int32, y = x9_lp15753 + 1 := ⟨_, rfl⟩
                    try (have t15812 := tadd e15811 rfl (b := 1) (by decide) (by omega))
                    refine lv_iinc (v := z15810) (lv' := [(9, .int z15810), (8, .int 2), (7, .int x7_lp15753), (6, .int z15342), (5, .int z15339), (0, .ref (g 0)), (1, .int p0), (2, .int p1), (3, .int p2), (4, .int p3)]) hx hb dX12_lacksOf_205 hl (k := 0) rfl (by rw [e15811]; rfl) (by decide) rfl (fun ls hl => ?_)
                    refine lv_goto (tgt := 112) hx hb dX12_lacksOf_208 (by decide) ?_
                    exact ih_lp15753 z15810 x7_lp15753 v_lp15753 F_lp15753 _ _ _ (by omega) (by omega) hf_lp15753 hI hF hP hS (lv_sub hl [0, 1, 2, 3, 4, 5, 6, 7, 8, 9] rfl)
        obtain ⟨n9, hn9⟩ : ∃ n : Nat, 2147483648 - 0 ≤ (n : Int) := ⟨((2147483648 - 0 : Int)).toNat, by omega⟩
        exact lp15753 n9 0 0 v F H _ ls (by have : (0 : Int32).toInt = 0 := (by decide); have : (0 : Int32).toInt = 0 := (by decide); omega) (by have : (0 : Int32).toInt = 0 := (by decide); have : (0 : Int32).toInt = 0 := (by decide); omega) (fun _ _ => rfl) hI hF hP hS hl
      · skip
        have t15813 := cv_eq (a := z15342.toInt) rfl (b := 108) (by decide) c15751
        refine lv_iconst (v := 1) hx hb dX12_lacksOf_102 (by decide) ?_
        refine lv_goto (tgt := 107) hx hb dX12_lacksOf_103 (by decide) ?_
        refine lv_istore (lv' := [(8, .int 1), (7, .int 0), (6, .int z15342), (5, .int z15339), (0, .ref (g 0)), (1, .int p0), (2, .int p1), (3, .int p2), (4, .int p3)]) hx hb dX12_lacksOf_107 hl (by decide) rfl (fun ls hl => ?_)
        refine lv_iconst (v := 0) hx hb dX12_lacksOf_109 (by decide) ?_
        refine lv_istore (lv' := [(9, .int 0), (8, .int 1), (7, .int 0), (6, .int z15342), (5, .int z15339), (0, .ref (g 0)), (1, .int p0), (2, .int p1), (3, .int p2), (4, .int p3)]) hx hb dX12_lacksOf_110 hl (by decide) rfl (fun ls hl => ?_)
        have lp15814 : ∀ (n : Nat) (x9_lp15814 : Int32) (x7_lp15814 : Int32) (v_lp15814 : Nat → Int32) (F_lp15814 : Nat → Nat → Int32) (H : Heap) (locs : List Loc) (ls : Array Slot), (0 ≤ x9_lp15814.toInt) → (2147483648 - x9_lp15814.toInt ≤ (n : Int)) → (∀ k, k ∉ ([] : List Nat) → v_lp15814 k = v k) → IM v_lp15814 F_lp15814 → (∀ k, k ∉ ([30, 31] : List Nat) → F_lp15814 k = F k) → va_P (dC, dI) classes (wM g c v_lp15814 F_lp15814 rc) H → va_S (AM g s.heap.size) s.heap H locs → lv_has ls 11 [(9, .int x9_lp15814), (8, .int 1), (7, .int x7_lp15814), (6, .int z15342), (5, .int z15339), (0, .ref (g 0)), (1, .int p0), (2, .int p1), (3, .int p2), (4, .int p3)] → W p l e (headSpec (Cond.code yX12_lacksOf cX12_lacksOf 11 (some .int) :: wA) ({ frames := 5, cells := 0, slots := 0, locals := 200 })).room s m ([.ref (g 0), .int p0, .int p1, .int p2, .int p3] : List Value).toArray below meth c0 H locs 0 0 (MQ below (va_Qi (fun (r : Int32) (u : StM) => IM u.1 u.2.1 ∧ u.2.2 = rc ∧ (∀ k, k ∉ ([] : List Nat) → u.1 k = v k) ∧ (∀ k, k ∉ ([30, 31] : List Nat) → u.2.1 k = F k) ∧ True) (BM dC dI g c) (AM g s.heap.size)) ([.ref (g 0), .int p0, .int p1, .int p2, .int p3] : List Value).toArray s 0 0 (AM g s.heap.size)) (F0 m 112 ls []) := by
          intro n
          induction n with
          | zero =>
            intro x9_lp15814 x7_lp15814 v_lp15814 F_lp15814 H locs ls t15815 hm hf_lp15814 hI hF hP hS hl
            exfalso
            have := i32_rng x9_lp15814
            have := i32_rng x7_lp15814
            have hI1 := hI.1
            omega
          | succ n ih_lp15814 =>
            intro x9_lp15814 x7_lp15814 v_lp15814 F_lp15814 H locs ls t15815 hm hf_lp15814 hI hF hP hS hl
            have rx9_lp15814 := i32_rng x9_lp15814
            have rx7_lp15814 := i32_rng x7_lp15814
            refine lv_iload hx hb dX12_lacksOf_112 (lv_at hl 0 rfl) ?_
            refine lv_aload_n hx hb dX12_lacksOf_114 rfl (lv_at hl 5 rfl) ?_
            refine va_get (D := (dC, dI)) (ci := 12) (v := .int (v_lp15814 14)) (C := RX12) (T := TX12) (N := 63) hx hb hwd inA_X12 hown hK hP 0 rfl rfl 14 (by decide) (hwd _ wk_318) (fun _ h9 => h9) rfl dX12_lacksOf_115 ?_
            refine my_top (v := v 14) (hf_lp15814 14 (by decide)) ?_
            have t15816 : 0 ≤ (v 14).toInt ∧ (v 14).toInt ≤ 100 := by have h9 := hI.1 14 _ _ rfl; rw [show v_lp15814 14 = v 14 from hf_lp15814 14 (by decide)] at h9; exact h9
            refine lv_icmp_ge (tgt := 211) hx hb dX12_lacksOf_118 (by decide) (fun c15817 => ?_) (fun c15817 => ?_)
            · skip
              have t15818 := cv_le (a := (v 14).toInt) rfl (b := x9_lp15814.toInt) rfl c15817
              refine lv_iload hx hb dX12_lacksOf_211 (lv_at hl 2 rfl) ?_
              have hP9 : va_P (dC, dI) classes (wM g c v_lp15814 F_lp15814 rc) H := hP
              exact W.iret (v := x7_lp15814) hx hb hr (fun t ht hW => ⟨⟨x7_lp15814, (v_lp15814, F_lp15814, rc), rfl, ⟨hI, rfl, (frC (by decide) hf_lp15814 (fun _ _ => rfl)), hF, trivial⟩, (by show va_P _ _ _ t.heap; rw [ht]; exact hP9)⟩, hS.F ht⟩) hS.2.2 dX12_lacksOf_213
            · skip
              have t15819 := cv_nle (a := (v 14).toInt) rfl (b := x9_lp15814.toInt) rfl c15817
              refine lv_aload_n hx hb dX12_lacksOf_121 rfl (lv_at hl 5 rfl) ?_
              refine va_get (D := (dC, dI)) (ci := 12) (v := .ref (g 42)) (C := RX12) (T := TX12) (N := 63) hx hb hwd inA_X12 hown hK hP 0 rfl rfl 56 (by decide) (hwd _ wk_224) (fun _ h9 => h9) rfl dX12_lacksOf_122 ?_
              refine lv_iload hx hb dX12_lacksOf_125 (lv_at hl 0 rfl) ?_
              refine va_zald hx hb hK hP 42 41 rfl rfl (i := x9_lp15814) (vin (a := x9_lp15814.toInt) rfl (by omega)) dX12_lacksOf_127 ?_
              refine lv_topi (fun z15820 e15821 => ?_)
              have e15821 : z15820 = F 42 (x9_lp15814 : Int32).toNatClampNeg := e15821.trans (congrFun (hF 42 (by decide)) _)
              refine lv_if_eq (tgt := 205) hx hb dX12_lacksOf_128 (by decide) (fun c15822 => ?_) (fun c15822 => ?_)
              · skip
                have t15823 := cv_eq (a := z15820.toInt) rfl (b := 0) (by decide) c15822
                obtain ⟨z15824, e15825⟩ : ∃ y : Int32, y = x9_lp15814 + 1 := ⟨_, rfl⟩
                try (have t15826 := tadd e15825 rfl (b := 1) (by decide) (by omega))
                refine lv_iinc (v := z15824) (lv' := [(9, .int z15824), (8, .int 1), (7, .int x7_lp15814), (6, .int z15342), (5, .int z15339), (0, .ref (g 0)), (1, .int p0), (2, .int p1), (3, .int p2), (4, .int p3)]) hx hb dX12_lacksOf_205 hl (k := 0) rfl (by rw [e15825]; rfl) (by decide) rfl (fun ls hl => ?_)
                refine lv_goto (tgt := 112) hx hb dX12_lacksOf_208 (by decide) ?_
                exact ih_lp15814 z15824 x7_lp15814 v_lp15814 F_lp15814 _ _ _ (by omega) (by omega) hf_lp15814 hI hF hP hS (lv_sub hl [0, 1, 2, 3, 4, 5, 6, 7, 8, 9] rfl)
              · skip
                have t15827 := cv_ne (a := z15820.toInt) rfl (b := 0) (by decide) c15822
                refine lv_aload_n hx hb dX12_lacksOf_131 rfl (lv_at hl 5 rfl) ?_
                refine va_get (D := (dC, dI)) (ci := 12) (v := .ref (g 11)) (C := RX12) (T := TX12) (N := 63) hx hb hwd inA_X12 hown hK hP 0 rfl rfl 15 (by decide) (hwd _ wk_192) (fun _ h9 => h9) rfl dX12_lacksOf_132 ?_
                refine lv_iload hx hb dX12_lacksOf_135 (lv_at hl 0 rfl) ?_
                refine va_iald hx hb hK hP 11 10 rfl rfl (i := x9_lp15814) (vin (a := x9_lp15814.toInt) rfl (by omega)) dX12_lacksOf_137 ?_
                refine lv_topi (fun z15828 e15829 => ?_)
                have t15830 : 0 ≤ z15828.toInt ∧ z15828.toInt ≤ 9 := by rw [e15829]; exact hI.2 11 _ _ rfl _
                have e15829 : z15828 = F 11 (x9_lp15814 : Int32).toNatClampNeg := e15829.trans (congrFun (hF 11 (by decide)) _)
                refine lv_aload_n hx hb dX12_lacksOf_138 rfl (lv_at hl 5 rfl) ?_
                refine va_get (D := (dC, dI)) (ci := 12) (v := .ref (g 39)) (C := RX12) (T := TX12) (N := 63) hx hb hwd inA_X12 hown hK hP 0 rfl rfl 53 (by decide) (hwd _ wk_221) (fun _ h9 => h9) rfl dX12_lacksOf_139 ?_
                refine lv_iload hx hb dX12_lacksOf_142 (lv_at hl 4 rfl) ?_
                refine va_iald hx hb hK hP 39 38 rfl rfl (i := z15339) (vin (a := z15339.toInt) rfl (by omega)) dX12_lacksOf_144 ?_
                refine lv_topi (fun z15831 e15832 => ?_)
                have e15832 : z15831 = F 39 (z15339 : Int32).toNatClampNeg := e15832.trans (congrFun (hF 39 (by decide)) _)
                refine lv_icmp_ne (tgt := 205) hx hb dX12_lacksOf_145 (by decide) (fun c15833 => ?_) (fun c15833 => ?_)
                · skip
                  have t15834 := cv_ne (a := z15828.toInt) rfl (b := z15831.toInt) rfl c15833
                  obtain ⟨z15835, e15836⟩ : ∃ y : Int32, y = x9_lp15814 + 1 := ⟨_, rfl⟩
                  try (have t15837 := tadd e15836 rfl (b := 1) (by decide) (by omega))
                  refine lv_iinc (v := z15835) (lv' := [(9, .int z15835), (8, .int 1), (7, .int x7_lp15814), (6, .int z15342), (5, .int z15339), (0, .ref (g 0)), (1, .int p0), (2, .int p1), (3, .int p2), (4, .int p3)]) hx hb dX12_lacksOf_205 hl (k := 0) rfl (by rw [e15836]; rfl) (by decide) rfl (fun ls hl => ?_)
                  refine lv_goto (tgt := 112) hx hb dX12_lacksOf_208 (by decide) ?_
                  exact ih_lp15814 z15835 x7_lp15814 v_lp15814 F_lp15814 _ _ _ (by omega) (by omega) hf_lp15814 hI hF hP hS (lv_sub hl [0, 1, 2, 3, 4, 5, 6, 7, 8, 9] rfl)
                · skip
                  have t15838 := cv_eq (a := z15828.toInt) rfl (b := z15831.toInt) rfl c15833
                  refine lv_aload_n hx hb dX12_lacksOf_148 rfl (lv_at hl 5 rfl) ?_
                  refine lv_iload hx hb dX12_lacksOf_149 (lv_at hl 0 rfl) ?_
                  refine lv_iload hx hb dX12_lacksOf_151 (lv_at hl 1 rfl) ?_
                  refine va_calli (va_runV (As := [.int x9_lp15814, .int 1]) (rest := []) ⟨hx, hb, hml, hown, hwd⟩ (c_X12_limitOf l dC dI g c adK adV v_lp15814 F_lp15814 rc H.size x9_lp15814 1 hg hI (by omega) (by have : (1 : Int32).toInt = 1 := (by decide); omega)) (cwV 2 hwd (gV wk_489 wk_486 wk_487 wk_488 wk_5) rfl rfl rfl (by decide +kernel) ⟨Nat.le_of_ble_eq_true rfl, Nat.le_of_ble_eq_true rfl⟩) ⟨PM.blind, va_recv hK hP (ci := 12) (q0 := 0) rfl rfl, fun U hU hW => ⟨rfl, PM.at hK hE hP hS hU hW⟩⟩ rfl rfl hl.1 rfl (lv_room (Nat.le_of_ble_eq_true rfl)) dX12_lacksOf_153 ⟨Nat.le_of_ble_eq_true rfl, Nat.le_of_ble_eq_true rfl⟩) hS (fun q _ h => (freeM hS) q h) (freeM hS) (fun r15839 u t H1 locs ht hvm hw hB hz1 hk1 hS => ?_)
                  unfold BM at hB
                  rw [ht] at hB
                  have hP : va_P (dC, dI) classes (wM g c v_lp15814 F_lp15814 rc) H1 := hB
                  replace hw : r15839.toInt = (F_lp15814 1 (limJ (F_lp15814 11) x9_lp15814 (1 : Int32))).toInt := hw
                  rw [hF 1 (by decide)] at hw
                  rw [hF 11 (by decide)] at hw
                  have hw_r15839 := hw
                  clear hw
                  have k15840 : (1 : Int32).toInt = 1 := by decide
                  clear hz1
                  generalize H1 = H at hP hS ⊢
                  refine lv_if_ne (tgt := 162) hx hb dX12_lacksOf_156 (by decide) (fun c15841 => ?_) (fun c15841 => ?_)
                  · skip
                    have t15842 := cv_ne (a := r15839.toInt) rfl (b := 0) (by decide) c15841
                    refine lv_aload_n hx hb dX12_lacksOf_162 rfl (lv_at hl 5 rfl) ?_
                    refine lv_iload hx hb dX12_lacksOf_163 (lv_at hl 0 rfl) ?_
                    refine lv_iload hx hb dX12_lacksOf_165 (lv_at hl 1 rfl) ?_
                    refine lv_iload hx hb dX12_lacksOf_167 (lv_at hl 9 rfl) ?_
                    refine va_calli (va_runV (As := [.int x9_lp15814, .int 1, .int p3]) (rest := []) ⟨hx, hb, hml, hown, hwd⟩ (c_X12_leftOf l dC dI g c adK adV v_lp15814 F_lp15814 rc H.size x9_lp15814 1 p3 hg hI (by omega) (by have : (1 : Int32).toInt = 1 := (by decide); omega) (JL.to hL (show v_lp15814 31 = v 31 from hf_lp15814 31 (by decide)) (hF 28 (by decide)) (hF 29 (by decide)) (hF 27 (by decide)))) (cwV 3 hwd (gV wk_493 wk_490 wk_491 wk_492 wk_5) rfl rfl rfl (by decide +kernel) ⟨Nat.le_of_ble_eq_true rfl, Nat.le_of_ble_eq_true rfl⟩) ⟨PM.blind, va_recv hK hP (ci := 12) (q0 := 0) rfl rfl, fun U hU hW => ⟨rfl, PM.at hK hE hP hS hU hW⟩⟩ rfl rfl hl.1 rfl (lv_room (Nat.le_of_ble_eq_true rfl)) dX12_lacksOf_169 ⟨Nat.le_of_ble_eq_true rfl, Nat.le_of_ble_eq_true rfl⟩) hS (fun q _ h => (freeM hS) q h) (freeM hS) (fun r15843 u t H1 locs ht hvm hw hB hz1 hk1 hS => ?_)
                    unfold BM at hB
                    rw [ht] at hB
                    obtain ⟨v15844, F15845, rc9⟩ := u
                    obtain ⟨hI, hrc, hf15846, hG15847, hw⟩ := hw
                    dsimp only at hI hrc hB hf15846 hG15847 hw
                    have hF := frCF (by decide) hG15847 hF
                    rw [hrc] at hB
                    have hP : va_P (dC, dI) classes (wM g c v15844 F15845 rc) H1 := hB
                    clear hz1
                    generalize H1 = H at hP hS ⊢
                    have rr_r15843 := i32_rng r15843
                    refine lv_istore (lv' := [(10, .int r15843), (9, .int x9_lp15814), (8, .int 1), (7, .int x7_lp15814), (6, .int z15342), (5, .int z15339), (0, .ref (g 0)), (1, .int p0), (2, .int p1), (3, .int p2), (4, .int p3)]) hx hb dX12_lacksOf_172 hl (by decide) rfl (fun ls hl => ?_)
                    refine lv_iload hx hb dX12_lacksOf_174 (lv_at hl 3 rfl) ?_
                    refine lv_iload hx hb dX12_lacksOf_176 (lv_at hl 0 rfl) ?_
                    refine lv_aload_n hx hb dX12_lacksOf_178 rfl (lv_at hl 6 rfl) ?_
                    refine va_get (D := (dC, dI)) (ci := 12) (v := .ref (g 40)) (C := RX12) (T := TX12) (N := 63) hx hb hwd inA_X12 hown hK hP 0 rfl rfl 54 (by decide) (hwd _ wk_222) (fun _ h9 => h9) rfl dX12_lacksOf_179 ?_
                    refine lv_iload hx hb dX12_lacksOf_182 (lv_at hl 5 rfl) ?_
                    refine va_iald hx hb hK hP 40 39 rfl rfl (i := z15339) (vin (a := z15339.toInt) rfl (by omega)) dX12_lacksOf_184 ?_
                    refine lv_topi (fun z15848 e15849 => ?_)
                    have e15849 : z15848 = F 40 (z15339 : Int32).toNatClampNeg := e15849.trans (congrFun (hF 40 (by decide)) _)
                    refine lv_icmp_ge (tgt := 201) hx hb dX12_lacksOf_185 (by decide) (fun c15850 => ?_) (fun c15850 => ?_)
                    · skip
                      have t15851 := cv_le (a := z15848.toInt) rfl (b := r15843.toInt) rfl c15850
                      refine lv_iconst (v := 0) hx hb dX12_lacksOf_201 (by decide) ?_
                      refine lv_iadd hx hb dX12_lacksOf_202 ?_
                      refine lv_topi (fun z15852 e15853 => ?_)
                      try (have t15854 := tadd e15853 (a := x7_lp15814.toInt) rfl (b := 0) (by decide) (by omega))
                      refine lv_istore (lv' := [(7, .int z15852), (10, .int r15843), (9, .int x9_lp15814), (8, .int 1), (6, .int z15342), (5, .int z15339), (0, .ref (g 0)), (1, .int p0), (2, .int p1), (3, .int p2), (4, .int p3)]) hx hb dX12_lacksOf_203 hl (by decide) rfl (fun ls hl => ?_)
                      obtain ⟨z15855, e15856⟩ : ∃ y : Int32, y = x9_lp15814 + 1 := ⟨_, rfl⟩
                      try (have t15857 := tadd e15856 rfl (b := 1) (by decide) (by omega))
                      refine lv_iinc (v := z15855) (lv' := [(9, .int z15855), (7, .int z15852), (10, .int r15843), (8, .int 1), (6, .int z15342), (5, .int z15339), (0, .ref (g 0)), (1, .int p0), (2, .int p1), (3, .int p2), (4, .int p3)]) hx hb dX12_lacksOf_205 hl (k := 2) rfl (by rw [e15856]; rfl) (by decide) rfl (fun ls hl => ?_)
                      refine lv_goto (tgt := 112) hx hb dX12_lacksOf_208 (by decide) ?_
                      exact ih_lp15814 z15855 z15852 v15844 F15845 _ _ _ (by omega) (by omega) (frC (by decide) hf15846 hf_lp15814) hI hF hP hS (lv_sub hl [0, 3, 1, 4, 5, 6, 7, 8, 9, 10] rfl)
                    · skip
                      have t15858 := cv_nle (a := z15848.toInt) rfl (b := r15843.toInt) rfl c15850
                      refine lv_aload_n hx hb dX12_lacksOf_188 rfl (lv_at hl 6 rfl) ?_
                      refine va_get (D := (dC, dI)) (ci := 12) (v := .ref (g 40)) (C := RX12) (T := TX12) (N := 63) hx hb hwd inA_X12 hown hK hP 0 rfl rfl 54 (by decide) (hwd _ wk_222) (fun _ h9 => h9) rfl dX12_lacksOf_189 ?_
                      refine lv_iload hx hb dX12_lacksOf_192 (lv_at hl 5 rfl) ?_
                      refine va_iald hx hb hK hP 40 39 rfl rfl (i := z15339) (vin (a := z15339.toInt) rfl (by omega)) dX12_lacksOf_194 ?_
                      refine lv_topi (fun z15859 e15860 => ?_)
                      have e15860 : z15859 = F 40 (z15339 : Int32).toNatClampNeg := e15860.trans (congrFun (hF 40 (by decide)) _)
                      refine lv_iload hx hb dX12_lacksOf_195 (lv_at hl 0 rfl) ?_
                      refine lv_isub hx hb dX12_lacksOf_197 ?_
                      refine lv_topi (fun z15861 e15862 => ?_)
                      try (have t15863 := tsub e15862 (a := z15859.toInt) rfl (b := r15843.toInt) rfl (by omega))
                      refine lv_goto (tgt := 202) hx hb dX12_lacksOf_198 (by decide) ?_
                      refine lv_iadd hx hb dX12_lacksOf_202 ?_
                      refine lv_topi (fun z15864 e15865 => ?_)
                      try (have t15866 := tadd e15865 (a := x7_lp15814.toInt) rfl (b := z15861.toInt) rfl (by omega))
                      refine lv_istore (lv' := [(7, .int z15864), (10, .int r15843), (9, .int x9_lp15814), (8, .int 1), (6, .int z15342), (5, .int z15339), (0, .ref (g 0)), (1, .int p0), (2, .int p1), (3, .int p2), (4, .int p3)]) hx hb dX12_lacksOf_203 hl (by decide) rfl (fun ls hl => ?_)
                      obtain ⟨z15867, e15868⟩ : ∃ y : Int32, y = x9_lp15814 + 1 := ⟨_, rfl⟩
                      try (have t15869 := tadd e15868 rfl (b := 1) (by decide) (by omega))
                      refine lv_iinc (v := z15867) (lv' := [(9, .int z15867), (7, .int z15864), (10, .int r15843), (8, .int 1), (6, .int z15342), (5, .int z15339), (0, .ref (g 0)), (1, .int p0), (2, .int p1), (3, .int p2), (4, .int p3)]) hx hb dX12_lacksOf_205 hl (k := 2) rfl (by rw [e15868]; rfl) (by decide) rfl (fun ls hl => ?_)
                      refine lv_goto (tgt := 112) hx hb dX12_lacksOf_208 (by decide) ?_
                      exact ih_lp15814 z15867 z15864 v15844 F15845 _ _ _ (by omega) (by omega) (frC (by decide) hf15846 hf_lp15814) hI hF hP hS (lv_sub hl [0, 3, 1, 4, 5, 6, 7, 8, 9, 10] rfl)
                  · skip
                    have t15870 := cv_eq (a := r15839.toInt) rfl (b := 0) (by decide) c15841
                    refine lv_goto (tgt := 205) hx hb dX12_lacksOf_159 (by decide) ?_
                    obtain ⟨z15871, e15872⟩ : ∃ y : Int32, y = x9_lp15814 + 1 := ⟨_, rfl⟩
                    try (have t15873 := tadd e15872 rfl (b := 1) (by decide) (by omega))
                    refine lv_iinc (v := z15871) (lv' := [(9, .int z15871), (8, .int 1), (7, .int x7_lp15814), (6, .int z15342), (5, .int z15339), (0, .ref (g 0)), (1, .int p0), (2, .int p1), (3, .int p2), (4, .int p3)]) hx hb dX12_lacksOf_205 hl (k := 0) rfl (by rw [e15872]; rfl) (by decide) rfl (fun ls hl => ?_)
                    refine lv_goto (tgt := 112) hx hb dX12_lacksOf_208 (by decide) ?_
                    exact ih_lp15814 z15871 x7_lp15814 v_lp15814 F_lp15814 _ _ _ (by omega) (by omega) hf_lp15814 hI hF hP hS (lv_sub hl [0, 1, 2, 3, 4, 5, 6, 7, 8, 9] rfl)
        obtain ⟨n9, hn9⟩ : ∃ n : Nat, 2147483648 - 0 ≤ (n : Int) := ⟨((2147483648 - 0 : Int)).toNat, by omega⟩
        exact lp15814 n9 0 0 v F H _ ls (by have : (0 : Int32).toInt = 0 := (by decide); have : (0 : Int32).toInt = 0 := (by decide); omega) (by have : (0 : Int32).toInt = 0 := (by decide); have : (0 : Int32).toInt = 0 := (by decide); omega) (fun _ _ => rfl) hI hF hP hS hl
    · skip
      have t15874 := cv_eq (a := z15342.toInt) rfl (b := 104) (by decide) c15749
      refine lv_iconst (v := 0) hx hb dX12_lacksOf_91 (by decide) ?_
      refine lv_goto (tgt := 107) hx hb dX12_lacksOf_92 (by decide) ?_
      refine lv_istore (lv' := [(8, .int 0), (7, .int 0), (6, .int z15342), (5, .int z15339), (0, .ref (g 0)), (1, .int p0), (2, .int p1), (3, .int p2), (4, .int p3)]) hx hb dX12_lacksOf_107 hl (by decide) rfl (fun ls hl => ?_)
      refine lv_iconst (v := 0) hx hb dX12_lacksOf_109 (by decide) ?_
      refine lv_istore (lv' := [(9, .int 0), (8, .int 0), (7, .int 0), (6, .int z15342), (5, .int z15339), (0, .ref (g 0)), (1, .int p0), (2, .int p1), (3, .int p2), (4, .int p3)]) hx hb dX12_lacksOf_110 hl (by decide) rfl (fun ls hl => ?_)
      have lp15875 : ∀ (n : Nat) (x9_lp15875 : Int32) (x7_lp15875 : Int32) (v_lp15875 : Nat → Int32) (F_lp15875 : Nat → Nat → Int32) (H : Heap) (locs : List Loc) (ls : Array Slot), (0 ≤ x9_lp15875.toInt) → (2147483648 - x9_lp15875.toInt ≤ (n : Int)) → (∀ k, k ∉ ([] : List Nat) → v_lp15875 k = v k) → IM v_lp15875 F_lp15875 → (∀ k, k ∉ ([30, 31] : List Nat) → F_lp15875 k = F k) → va_P (dC, dI) classes (wM g c v_lp15875 F_lp15875 rc) H → va_S (AM g s.heap.size) s.heap H locs → lv_has ls 11 [(9, .int x9_lp15875), (8, .int 0), (7, .int x7_lp15875), (6, .int z15342), (5, .int z15339), (0, .ref (g 0)), (1, .int p0), (2, .int p1), (3, .int p2), (4, .int p3)] → W p l e (headSpec (Cond.code yX12_lacksOf cX12_lacksOf 11 (some .int) :: wA) ({ frames := 5, cells := 0, slots := 0, locals := 200 })).room s m ([.ref (g 0), .int p0, .int p1, .int p2, .int p3] : List Value).toArray below meth c0 H locs 0 0 (MQ below (va_Qi (fun (r : Int32) (u : StM) => IM u.1 u.2.1 ∧ u.2.2 = rc ∧ (∀ k, k ∉ ([] : List Nat) → u.1 k = v k) ∧ (∀ k, k ∉ ([30, 31] : List Nat) → u.2.1 k = F k) ∧ True) (BM dC dI g c) (AM g s.heap.size)) ([.ref (g 0), .int p0, .int p1, .int p2, .int p3] : List Value).toArray s 0 0 (AM g s.heap.size)) (F0 m 112 ls []) := by
        intro n
        induction n with
        | zero =>
          intro x9_lp15875 x7_lp15875 v_lp15875 F_lp15875 H locs ls t15876 hm hf_lp15875 hI hF hP hS hl
          exfalso
          have := i32_rng x9_lp15875
          have := i32_rng x7_lp15875
          have hI1 := hI.1
          omega
        | succ n ih_lp15875 =>
          intro x9_lp15875 x7_lp15875 v_lp15875 F_lp15875 H locs ls t15876 hm hf_lp15875 hI hF hP hS hl
          have rx9_lp15875 := i32_rng x9_lp15875
          have rx7_lp15875 := i32_rng x7_lp15875
          refine lv_iload hx hb dX12_lacksOf_112 (lv_at hl 0 rfl) ?_
          refine lv_aload_n hx hb dX12_lacksOf_114 rfl (lv_at hl 5 rfl) ?_
          refine va_get (D := (dC, dI)) (ci := 12) (v := .int (v_lp15875 14)) (C := RX12) (T := TX12) (N := 63) hx hb hwd inA_X12 hown hK hP 0 rfl rfl 14 (by decide) (hwd _ wk_318) (fun _ h9 => h9) rfl dX12_lacksOf_115 ?_
          refine my_top (v := v 14) (hf_lp15875 14 (by decide)) ?_
          have t15877 : 0 ≤ (v 14).toInt ∧ (v 14).toInt ≤ 100 := by have h9 := hI.1 14 _ _ rfl; rw [show v_lp15875 14 = v 14 from hf_lp15875 14 (by decide)] at h9; exact h9
          refine lv_icmp_ge (tgt := 211) hx hb dX12_lacksOf_118 (by decide) (fun c15878 => ?_) (fun c15878 => ?_)
          · skip
            have t15879 := cv_le (a := (v 14).toInt) rfl (b := x9_lp15875.toInt) rfl c15878
            refine lv_iload hx hb dX12_lacksOf_211 (lv_at hl 2 rfl) ?_
            have hP9 : va_P (dC, dI) classes (wM g c v_lp15875 F_lp15875 rc) H := hP
            exact W.iret (v := x7_lp15875) hx hb hr (fun t ht hW => ⟨⟨x7_lp15875, (v_lp15875, F_lp15875, rc), rfl, ⟨hI, rfl, (frC (by decide) hf_lp15875 (fun _ _ => rfl)), hF, trivial⟩, (by show va_P _ _ _ t.heap; rw [ht]; exact hP9)⟩, hS.F ht⟩) hS.2.2 dX12_lacksOf_213
          · skip
            have t15880 := cv_nle (a := (v 14).toInt) rfl (b := x9_lp15875.toInt) rfl c15878
            refine lv_aload_n hx hb dX12_lacksOf_121 rfl (lv_at hl 5 rfl) ?_
            refine va_get (D := (dC, dI)) (ci := 12) (v := .ref (g 42)) (C := RX12) (T := TX12) (N := 63) hx hb hwd inA_X12 hown hK hP 0 rfl rfl 56 (by decide) (hwd _ wk_224) (fun _ h9 => h9) rfl dX12_lacksOf_122 ?_
            refine lv_iload hx hb dX12_lacksOf_125 (lv_at hl 0 rfl) ?_
            refine va_zald hx hb hK hP 42 41 rfl rfl (i := x9_lp15875) (vin (a := x9_lp15875.toInt) rfl (by omega)) dX12_lacksOf_127 ?_
            refine lv_topi (fun z15881 e15882 => ?_)
            have e15882 : z15881 = F 42 (x9_lp15875 : Int32).toNatClampNeg := e15882.trans (congrFun (hF 42 (by decide)) _)
            refine lv_if_eq (tgt := 205) hx hb dX12_lacksOf_128 (by decide) (fun c15883 => ?_) (fun c15883 => ?_)
            · skip
              have t15884 := cv_eq (a := z15881.toInt) rfl (b := 0) (by decide) c15883
              obtain ⟨z15885, e15886⟩ : ∃ y : Int32, y = x9_lp15875 + 1 := ⟨_, rfl⟩
              try (have t15887 := tadd e15886 rfl (b := 1) (by decide) (by omega))
              refine lv_iinc (v := z15885) (lv' := [(9, .int z15885), (8, .int 0), (7, .int x7_lp15875), (6, .int z15342), (5, .int z15339), (0, .ref (g 0)), (1, .int p0), (2, .int p1), (3, .int p2), (4, .int p3)]) hx hb dX12_lacksOf_205 hl (k := 0) rfl (by rw [e15886]; rfl) (by decide) rfl (fun ls hl => ?_)
              refine lv_goto (tgt := 112) hx hb dX12_lacksOf_208 (by decide) ?_
              exact ih_lp15875 z15885 x7_lp15875 v_lp15875 F_lp15875 _ _ _ (by omega) (by omega) hf_lp15875 hI hF hP hS (lv_sub hl [0, 1, 2, 3, 4, 5, 6, 7, 8, 9] rfl)
            · skip
              have t15888 := cv_ne (a := z15881.toInt) rfl (b := 0) (by decide) c15883
              refine lv_aload_n hx hb dX12_lacksOf_131 rfl (lv_at hl 5 rfl) ?_
              refine va_get (D := (dC, dI)) (ci := 12) (v := .ref (g 11)) (C := RX12) (T := TX12) (N := 63) hx hb hwd inA_X12 hown hK hP 0 rfl rfl 15 (by decide) (hwd _ wk_192) (fun _ h9 => h9) rfl dX12_lacksOf_132 ?_
              refine lv_iload hx hb dX12_lacksOf_135 (lv_at hl 0 rfl) ?_
              refine va_iald hx hb hK hP 11 10 rfl rfl (i := x9_lp15875) (vin (a := x9_lp15875.toInt) rfl (by omega)) dX12_lacksOf_137 ?_
              refine lv_topi (fun z15889 e15890 => ?_)
              have t15891 : 0 ≤ z15889.toInt ∧ z15889.toInt ≤ 9 := by rw [e15890]; exact hI.2 11 _ _ rfl _
              have e15890 : z15889 = F 11 (x9_lp15875 : Int32).toNatClampNeg := e15890.trans (congrFun (hF 11 (by decide)) _)
              refine lv_aload_n hx hb dX12_lacksOf_138 rfl (lv_at hl 5 rfl) ?_
              refine va_get (D := (dC, dI)) (ci := 12) (v := .ref (g 39)) (C := RX12) (T := TX12) (N := 63) hx hb hwd inA_X12 hown hK hP 0 rfl rfl 53 (by decide) (hwd _ wk_221) (fun _ h9 => h9) rfl dX12_lacksOf_139 ?_
              refine lv_iload hx hb dX12_lacksOf_142 (lv_at hl 4 rfl) ?_
              refine va_iald hx hb hK hP 39 38 rfl rfl (i := z15339) (vin (a := z15339.toInt) rfl (by omega)) dX12_lacksOf_144 ?_
              refine lv_topi (fun z15892 e15893 => ?_)
              have e15893 : z15892 = F 39 (z15339 : Int32).toNatClampNeg := e15893.trans (congrFun (hF 39 (by decide)) _)
              refine lv_icmp_ne (tgt := 205) hx hb dX12_lacksOf_145 (by decide) (fun c15894 => ?_) (fun c15894 => ?_)
              · skip
                have t15895 := cv_ne (a := z15889.toInt) rfl (b := z15892.toInt) rfl c15894
                obtain ⟨z15896, e15897⟩ : ∃ y : Int32, y = x9_lp15875 + 1 := ⟨_, rfl⟩
                try (have t15898 := tadd e15897 rfl (b := 1) (by decide) (by omega))
                refine lv_iinc (v := z15896) (lv' := [(9, .int z15896), (8, .int 0), (7, .int x7_lp15875), (6, .int z15342), (5, .int z15339), (0, .ref (g 0)), (1, .int p0), (2, .int p1), (3, .int p2), (4, .int p3)]) hx hb dX12_lacksOf_205 hl (k := 0) rfl (by rw [e15897]; rfl) (by decide) rfl (fun ls hl => ?_)
                refine lv_goto (tgt := 112) hx hb dX12_lacksOf_208 (by decide) ?_
                exact ih_lp15875 z15896 x7_lp15875 v_lp15875 F_lp15875 _ _ _ (by omega) (by omega) hf_lp15875 hI hF hP hS (lv_sub hl [0, 1, 2, 3, 4, 5, 6, 7, 8, 9] rfl)
              · skip
                have t15899 := cv_eq (a := z15889.toInt) rfl (b := z15892.toInt) rfl c15894
                refine lv_aload_n hx hb dX12_lacksOf_148 rfl (lv_at hl 5 rfl) ?_
                refine lv_iload hx hb dX12_lacksOf_149 (lv_at hl 0 rfl) ?_
                refine lv_iload hx hb dX12_lacksOf_151 (lv_at hl 1 rfl) ?_
                refine va_calli (va_runV (As := [.int x9_lp15875, .int 0]) (rest := []) ⟨hx, hb, hml, hown, hwd⟩ (c_X12_limitOf l dC dI g c adK adV v_lp15875 F_lp15875 rc H.size x9_lp15875 0 hg hI (by omega) (by have : (0 : Int32).toInt = 0 := (by decide); omega)) (cwV 2 hwd (gV wk_489 wk_486 wk_487 wk_488 wk_5) rfl rfl rfl (by decide +kernel) ⟨Nat.le_of_ble_eq_true rfl, Nat.le_of_ble_eq_true rfl⟩) ⟨PM.blind, va_recv hK hP (ci := 12) (q0 := 0) rfl rfl, fun U hU hW => ⟨rfl, PM.at hK hE hP hS hU hW⟩⟩ rfl rfl hl.1 rfl (lv_room (Nat.le_of_ble_eq_true rfl)) dX12_lacksOf_153 ⟨Nat.le_of_ble_eq_true rfl, Nat.le_of_ble_eq_true rfl⟩) hS (fun q _ h => (freeM hS) q h) (freeM hS) (fun r15900 u t H1 locs ht hvm hw hB hz1 hk1 hS => ?_)
                unfold BM at hB
                rw [ht] at hB
                have hP : va_P (dC, dI) classes (wM g c v_lp15875 F_lp15875 rc) H1 := hB
                replace hw : r15900.toInt = (F_lp15875 1 (limJ (F_lp15875 11) x9_lp15875 (0 : Int32))).toInt := hw
                rw [hF 1 (by decide)] at hw
                rw [hF 11 (by decide)] at hw
                have hw_r15900 := hw
                clear hw
                have k15901 : (0 : Int32).toInt = 0 := by decide
                clear hz1
                generalize H1 = H at hP hS ⊢
                refine lv_if_ne (tgt := 162) hx hb dX12_lacksOf_156 (by decide) (fun c15902 => ?_) (fun c15902 => ?_)
                · skip
                  have t15903 := cv_ne (a := r15900.toInt) rfl (b := 0) (by decide) c15902
                  refine lv_aload_n hx hb dX12_lacksOf_162 rfl (lv_at hl 5 rfl) ?_
                  refine lv_iload hx hb dX12_lacksOf_163 (lv_at hl 0 rfl) ?_
                  refine lv_iload hx hb dX12_lacksOf_165 (lv_at hl 1 rfl) ?_
                  refine lv_iload hx hb dX12_lacksOf_167 (lv_at hl 9 rfl) ?_
                  refine va_calli (va_runV (As := [.int x9_lp15875, .int 0, .int p3]) (rest := []) ⟨hx, hb, hml, hown, hwd⟩ (c_X12_leftOf l dC dI g c adK adV v_lp15875 F_lp15875 rc H.size x9_lp15875 0 p3 hg hI (by omega) (by have : (0 : Int32).toInt = 0 := (by decide); omega) (JL.to hL (show v_lp15875 31 = v 31 from hf_lp15875 31 (by decide)) (hF 28 (by decide)) (hF 29 (by decide)) (hF 27 (by decide)))) (cwV 3 hwd (gV wk_493 wk_490 wk_491 wk_492 wk_5) rfl rfl rfl (by decide +kernel) ⟨Nat.le_of_ble_eq_true rfl, Nat.le_of_ble_eq_true rfl⟩) ⟨PM.blind, va_recv hK hP (ci := 12) (q0 := 0) rfl rfl, fun U hU hW => ⟨rfl, PM.at hK hE hP hS hU hW⟩⟩ rfl rfl hl.1 rfl (lv_room (Nat.le_of_ble_eq_true rfl)) dX12_lacksOf_169 ⟨Nat.le_of_ble_eq_true rfl, Nat.le_of_ble_eq_true rfl⟩) hS (fun q _ h => (freeM hS) q h) (freeM hS) (fun r15904 u t H1 locs ht hvm hw hB hz1 hk1 hS => ?_)
                  unfold BM at hB
                  rw [ht] at hB
                  obtain ⟨v15905, F15906, rc9⟩ := u
                  obtain ⟨hI, hrc, hf15907, hG15908, hw⟩ := hw
                  dsimp only at hI hrc hB hf15907 hG15908 hw
                  have hF := frCF (by decide) hG15908 hF
                  rw [hrc] at hB
                  have hP : va_P (dC, dI) classes (wM g c v15905 F15906 rc) H1 := hB
                  clear hz1
                  generalize H1 = H at hP hS ⊢
                  have rr_r15904 := i32_rng r15904
                  refine lv_istore (lv' := [(10, .int r15904), (9, .int x9_lp15875), (8, .int 0), (7, .int x7_lp15875), (6, .int z15342), (5, .int z15339), (0, .ref (g 0)), (1, .int p0), (2, .int p1), (3, .int p2), (4, .int p3)]) hx hb dX12_lacksOf_172 hl (by decide) rfl (fun ls hl => ?_)
                  refine lv_iload hx hb dX12_lacksOf_174 (lv_at hl 3 rfl) ?_
                  refine lv_iload hx hb dX12_lacksOf_176 (lv_at hl 0 rfl) ?_
                  refine lv_aload_n hx hb dX12_lacksOf_178 rfl (lv_at hl 6 rfl) ?_
                  refine va_get (D := (dC, dI)) (ci := 12) (v := .ref (g 40)) (C := RX12) (T := TX12) (N := 63) hx hb hwd inA_X12 hown hK hP 0 rfl rfl 54 (by decide) (hwd _ wk_222) (fun _ h9 => h9) rfl dX12_lacksOf_179 ?_
                  refine lv_iload hx hb dX12_lacksOf_182 (lv_at hl 5 rfl) ?_
                  refine va_iald hx hb hK hP 40 39 rfl rfl (i := z15339) (vin (a := z15339.toInt) rfl (by omega)) dX12_lacksOf_184 ?_
                  refine lv_topi (fun z15909 e15910 => ?_)
                  have e15910 : z15909 = F 40 (z15339 : Int32).toNatClampNeg := e15910.trans (congrFun (hF 40 (by decide)) _)
                  refine lv_icmp_ge (tgt := 201) hx hb dX12_lacksOf_185 (by decide) (fun c15911 => ?_) (fun c15911 => ?_)
                  · skip
                    have t15912 := cv_le (a := z15909.toInt) rfl (b := r15904.toInt) rfl c15911
                    refine lv_iconst (v := 0) hx hb dX12_lacksOf_201 (by decide) ?_
                    refine lv_iadd hx hb dX12_lacksOf_202 ?_
                    refine lv_topi (fun z15913 e15914 => ?_)
                    try (have t15915 := tadd e15914 (a := x7_lp15875.toInt) rfl (b := 0) (by decide) (by omega))
                    refine lv_istore (lv' := [(7, .int z15913), (10, .int r15904), (9, .int x9_lp15875), (8, .int 0), (6, .int z15342), (5, .int z15339), (0, .ref (g 0)), (1, .int p0), (2, .int p1), (3, .int p2), (4, .int p3)]) hx hb dX12_lacksOf_203 hl (by decide) rfl (fun ls hl => ?_)
                    obtain ⟨z15916, e15917⟩ : ∃ y : Int32, y = x9_lp15875 + 1 := ⟨_, rfl⟩
                    try (have t15918 := tadd e15917 rfl (b := 1) (by decide) (by omega))
                    refine lv_iinc (v := z15916) (lv' := [(9, .int z15916), (7, .int z15913), (10, .int r15904), (8, .int 0), (6, .int z15342), (5, .int z15339), (0, .ref (g 0)), (1, .int p0), (2, .int p1), (3, .int p2), (4, .int p3)]) hx hb dX12_lacksOf_205 hl (k := 2) rfl (by rw [e15917]; rfl) (by decide) rfl (fun ls hl => ?_)
                    refine lv_goto (tgt := 112) hx hb dX12_lacksOf_208 (by decide) ?_
                    exact ih_lp15875 z15916 z15913 v15905 F15906 _ _ _ (by omega) (by omega) (frC (by decide) hf15907 hf_lp15875) hI hF hP hS (lv_sub hl [0, 3, 1, 4, 5, 6, 7, 8, 9, 10] rfl)
                  · skip
                    have t15919 := cv_nle (a := z15909.toInt) rfl (b := r15904.toInt) rfl c15911
                    refine lv_aload_n hx hb dX12_lacksOf_188 rfl (lv_at hl 6 rfl) ?_
                    refine va_get (D := (dC, dI)) (ci := 12) (v := .ref (g 40)) (C := RX12) (T := TX12) (N := 63) hx hb hwd inA_X12 hown hK hP 0 rfl rfl 54 (by decide) (hwd _ wk_222) (fun _ h9 => h9) rfl dX12_lacksOf_189 ?_
                    refine lv_iload hx hb dX12_lacksOf_192 (lv_at hl 5 rfl) ?_
                    refine va_iald hx hb hK hP 40 39 rfl rfl (i := z15339) (vin (a := z15339.toInt) rfl (by omega)) dX12_lacksOf_194 ?_
                    refine lv_topi (fun z15920 e15921 => ?_)
                    have e15921 : z15920 = F 40 (z15339 : Int32).toNatClampNeg := e15921.trans (congrFun (hF 40 (by decide)) _)
                    refine lv_iload hx hb dX12_lacksOf_195 (lv_at hl 0 rfl) ?_
                    refine lv_isub hx hb dX12_lacksOf_197 ?_
                    refine lv_topi (fun z15922 e15923 => ?_)
                    try (have t15924 := tsub e15923 (a := z15920.toInt) rfl (b := r15904.toInt) rfl (by omega))
                    refine lv_goto (tgt := 202) hx hb dX12_lacksOf_198 (by decide) ?_
                    refine lv_iadd hx hb dX12_lacksOf_202 ?_
                    refine lv_topi (fun z15925 e15926 => ?_)
                    try (have t15927 := tadd e15926 (a := x7_lp15875.toInt) rfl (b := z15922.toInt) rfl (by omega))
                    refine lv_istore (lv' := [(7, .int z15925), (10, .int r15904), (9, .int x9_lp15875), (8, .int 0), (6, .int z15342), (5, .int z15339), (0, .ref (g 0)), (1, .int p0), (2, .int p1), (3, .int p2), (4, .int p3)]) hx hb dX12_lacksOf_203 hl (by decide) rfl (fun ls hl => ?_)
                    obtain ⟨z15928, e15929⟩ : ∃ y : Int32, y = x9_lp15875 + 1 := ⟨_, rfl⟩
                    try (have t15930 := tadd e15929 rfl (b := 1) (by decide) (by omega))
                    refine lv_iinc (v := z15928) (lv' := [(9, .int z15928), (7, .int z15925), (10, .int r15904), (8, .int 0), (6, .int z15342), (5, .int z15339), (0, .ref (g 0)), (1, .int p0), (2, .int p1), (3, .int p2), (4, .int p3)]) hx hb dX12_lacksOf_205 hl (k := 2) rfl (by rw [e15929]; rfl) (by decide) rfl (fun ls hl => ?_)
                    refine lv_goto (tgt := 112) hx hb dX12_lacksOf_208 (by decide) ?_
                    exact ih_lp15875 z15928 z15925 v15905 F15906 _ _ _ (by omega) (by omega) (frC (by decide) hf15907 hf_lp15875) hI hF hP hS (lv_sub hl [0, 3, 1, 4, 5, 6, 7, 8, 9, 10] rfl)
                · skip
                  have t15931 := cv_eq (a := r15900.toInt) rfl (b := 0) (by decide) c15902
                  refine lv_goto (tgt := 205) hx hb dX12_lacksOf_159 (by decide) ?_
                  obtain ⟨z15932, e15933⟩ : ∃ y : Int32, y = x9_lp15875 + 1 := ⟨_, rfl⟩
                  try (have t15934 := tadd e15933 rfl (b := 1) (by decide) (by omega))
                  refine lv_iinc (v := z15932) (lv' := [(9, .int z15932), (8, .int 0), (7, .int x7_lp15875), (6, .int z15342), (5, .int z15339), (0, .ref (g 0)), (1, .int p0), (2, .int p1), (3, .int p2), (4, .int p3)]) hx hb dX12_lacksOf_205 hl (k := 0) rfl (by rw [e15933]; rfl) (by decide) rfl (fun ls hl => ?_)
                  refine lv_goto (tgt := 112) hx hb dX12_lacksOf_208 (by decide) ?_
                  exact ih_lp15875 z15932 x7_lp15875 v_lp15875 F_lp15875 _ _ _ (by omega) (by omega) hf_lp15875 hI hF hP hS (lv_sub hl [0, 1, 2, 3, 4, 5, 6, 7, 8, 9] rfl)
      obtain ⟨n9, hn9⟩ : ∃ n : Nat, 2147483648 - 0 ≤ (n : Int) := ⟨((2147483648 - 0 : Int)).toNat, by omega⟩
      exact lp15875 n9 0 0 v F H _ ls (by have : (0 : Int32).toInt = 0 := (by decide); have : (0 : Int32).toInt = 0 := (by decide); omega) (by have : (0 : Int32).toInt = 0 := (by decide); have : (0 : Int32).toInt = 0 := (by decide); omega) (fun _ _ => rfl) hI hF hP hS hl
  · refine lv_tableIn (off := 294) (tgt := 316) hx hb dX12_lacksOf_22 hlo15344 hhi15345 (by rw [hk]; decide) (by decide) ?_
    refine lv_iconst (v := 0) hx hb dX12_lacksOf_316 (by decide) ?_
    refine lv_istore (lv' := [(8, .int 0), (7, .int 0), (6, .int z15342), (5, .int z15339), (0, .ref (g 0)), (1, .int p0), (2, .int p1), (3, .int p2), (4, .int p3)]) hx hb dX12_lacksOf_317 hl (by decide) rfl (fun ls hl => ?_)
    have lp15935 : ∀ (n : Nat) (x8_lp15935 : Int32) (x7_lp15935 : Int32) (v_lp15935 : Nat → Int32) (F_lp15935 : Nat → Nat → Int32) (H : Heap) (locs : List Loc) (ls : Array Slot), (0 ≤ x8_lp15935.toInt) → (2147483648 - x8_lp15935.toInt ≤ (n : Int)) → (∀ k, k ∉ ([] : List Nat) → v_lp15935 k = v k) → IM v_lp15935 F_lp15935 → (∀ k, k ∉ ([30, 31] : List Nat) → F_lp15935 k = F k) → va_P (dC, dI) classes (wM g c v_lp15935 F_lp15935 rc) H → va_S (AM g s.heap.size) s.heap H locs → lv_has ls 11 [(8, .int x8_lp15935), (7, .int x7_lp15935), (6, .int z15342), (5, .int z15339), (0, .ref (g 0)), (1, .int p0), (2, .int p1), (3, .int p2), (4, .int p3)] → W p l e (headSpec (Cond.code yX12_lacksOf cX12_lacksOf 11 (some .int) :: wA) ({ frames := 5, cells := 0, slots := 0, locals := 200 })).room s m ([.ref (g 0), .int p0, .int p1, .int p2, .int p3] : List Value).toArray below meth c0 H locs 0 0 (MQ below (va_Qi (fun (r : Int32) (u : StM) => IM u.1 u.2.1 ∧ u.2.2 = rc ∧ (∀ k, k ∉ ([] : List Nat) → u.1 k = v k) ∧ (∀ k, k ∉ ([30, 31] : List Nat) → u.2.1 k = F k) ∧ True) (BM dC dI g c) (AM g s.heap.size)) ([.ref (g 0), .int p0, .int p1, .int p2, .int p3] : List Value).toArray s 0 0 (AM g s.heap.size)) (F0 m 319 ls []) := by
      intro n
      induction n with
      | zero =>
        intro x8_lp15935 x7_lp15935 v_lp15935 F_lp15935 H locs ls t15936 hm hf_lp15935 hI hF hP hS hl
        exfalso
        have := i32_rng x8_lp15935
        have := i32_rng x7_lp15935
        have hI1 := hI.1
        omega
      | succ n ih_lp15935 =>
        intro x8_lp15935 x7_lp15935 v_lp15935 F_lp15935 H locs ls t15936 hm hf_lp15935 hI hF hP hS hl
        have rx8_lp15935 := i32_rng x8_lp15935
        have rx7_lp15935 := i32_rng x7_lp15935
        refine lv_iload hx hb dX12_lacksOf_319 (lv_at hl 0 rfl) ?_
        refine lv_aload_n hx hb dX12_lacksOf_321 rfl (lv_at hl 4 rfl) ?_
        refine va_get (D := (dC, dI)) (ci := 12) (v := .int (v_lp15935 2)) (C := RX12) (T := TX12) (N := 63) hx hb hwd inA_X12 hown hK hP 0 rfl rfl 2 (by decide) (hwd _ wk_251) (fun _ h9 => h9) rfl dX12_lacksOf_322 ?_
        refine my_top (v := v 2) (hf_lp15935 2 (by decide)) ?_
        have t15937 : 0 ≤ (v 2).toInt ∧ (v 2).toInt ≤ 10 := by have h9 := hI.1 2 _ _ rfl; rw [show v_lp15935 2 = v 2 from hf_lp15935 2 (by decide)] at h9; exact h9
        refine lv_icmp_ge (tgt := 428) hx hb dX12_lacksOf_325 (by decide) (fun c15938 => ?_) (fun c15938 => ?_)
        · skip
          have t15939 := cv_le (a := (v 2).toInt) rfl (b := x8_lp15935.toInt) rfl c15938
          refine lv_iload hx hb dX12_lacksOf_428 (lv_at hl 1 rfl) ?_
          have hP9 : va_P (dC, dI) classes (wM g c v_lp15935 F_lp15935 rc) H := hP
          exact W.iret (v := x7_lp15935) hx hb hr (fun t ht hW => ⟨⟨x7_lp15935, (v_lp15935, F_lp15935, rc), rfl, ⟨hI, rfl, (frC (by decide) hf_lp15935 (fun _ _ => rfl)), hF, trivial⟩, (by show va_P _ _ _ t.heap; rw [ht]; exact hP9)⟩, hS.F ht⟩) hS.2.2 dX12_lacksOf_430
        · skip
          have t15940 := cv_nle (a := (v 2).toInt) rfl (b := x8_lp15935.toInt) rfl c15938
          refine lv_iconst (v := 0) hx hb dX12_lacksOf_328 (by decide) ?_
          refine lv_istore (lv' := [(9, .int 0), (8, .int x8_lp15935), (7, .int x7_lp15935), (6, .int z15342), (5, .int z15339), (0, .ref (g 0)), (1, .int p0), (2, .int p1), (3, .int p2), (4, .int p3)]) hx hb dX12_lacksOf_329 hl (by decide) rfl (fun ls hl => ?_)
          refine lv_iconst (v := 0) hx hb dX12_lacksOf_331 (by decide) ?_
          refine lv_istore (lv' := [(10, .int 0), (9, .int 0), (8, .int x8_lp15935), (7, .int x7_lp15935), (6, .int z15342), (5, .int z15339), (0, .ref (g 0)), (1, .int p0), (2, .int p1), (3, .int p2), (4, .int p3)]) hx hb dX12_lacksOf_332 hl (by decide) rfl (fun ls hl => ?_)
          have lp15941 : ∀ (n : Nat) (x10_lp15941 : Int32) (x9_lp15941 : Int32) (v_lp15941 : Nat → Int32) (F_lp15941 : Nat → Nat → Int32) (H : Heap) (locs : List Loc) (ls : Array Slot), (0 ≤ x10_lp15941.toInt) → (2147483648 - x10_lp15941.toInt ≤ (n : Int)) → (∀ k, k ∉ ([] : List Nat) → v_lp15941 k = v_lp15935 k) → IM v_lp15941 F_lp15941 → (∀ k, k ∉ ([30, 31] : List Nat) → F_lp15941 k = F k) → va_P (dC, dI) classes (wM g c v_lp15941 F_lp15941 rc) H → va_S (AM g s.heap.size) s.heap H locs → lv_has ls 11 [(10, .int x10_lp15941), (9, .int x9_lp15941), (8, .int x8_lp15935), (7, .int x7_lp15935), (6, .int z15342), (5, .int z15339), (0, .ref (g 0)), (1, .int p0), (2, .int p1), (3, .int p2), (4, .int p3)] → W p l e (headSpec (Cond.code yX12_lacksOf cX12_lacksOf 11 (some .int) :: wA) ({ frames := 5, cells := 0, slots := 0, locals := 200 })).room s m ([.ref (g 0), .int p0, .int p1, .int p2, .int p3] : List Value).toArray below meth c0 H locs 0 0 (MQ below (va_Qi (fun (r : Int32) (u : StM) => IM u.1 u.2.1 ∧ u.2.2 = rc ∧ (∀ k, k ∉ ([] : List Nat) → u.1 k = v k) ∧ (∀ k, k ∉ ([30, 31] : List Nat) → u.2.1 k = F k) ∧ True) (BM dC dI g c) (AM g s.heap.size)) ([.ref (g 0), .int p0, .int p1, .int p2, .int p3] : List Value).toArray s 0 0 (AM g s.heap.size)) (F0 m 334 ls []) := by
            intro n
            induction n with
            | zero =>
              intro x10_lp15941 x9_lp15941 v_lp15941 F_lp15941 H locs ls t15942 hm hf_lp15941 hI hF hP hS hl
              exfalso
              have := i32_rng x10_lp15941
              have := i32_rng x9_lp15941
              have hI1 := hI.1
              omega
            | succ n ih_lp15941 =>
              intro x10_lp15941 x9_lp15941 v_lp15941 F_lp15941 H locs ls t15942 hm hf_lp15941 hI hF hP hS hl
              have rx10_lp15941 := i32_rng x10_lp15941
              have rx9_lp15941 := i32_rng x9_lp15941
              refine lv_iload hx hb dX12_lacksOf_334 (lv_at hl 0 rfl) ?_
              refine lv_aload_n hx hb dX12_lacksOf_336 rfl (lv_at hl 6 rfl) ?_
              refine va_get (D := (dC, dI)) (ci := 12) (v := .int (v_lp15941 14)) (C := RX12) (T := TX12) (N := 63) hx hb hwd inA_X12 hown hK hP 0 rfl rfl 14 (by decide) (hwd _ wk_318) (fun _ h9 => h9) rfl dX12_lacksOf_337 ?_
              refine my_top (v := v 14) ((hf_lp15941 14 (by decide)).trans (hf_lp15935 14 (by decide))) ?_
              have t15943 : 0 ≤ (v 14).toInt ∧ (v 14).toInt ≤ 100 := by have h9 := hI.1 14 _ _ rfl; rw [show v_lp15941 14 = v 14 from (hf_lp15941 14 (by decide)).trans (hf_lp15935 14 (by decide))] at h9; exact h9
              refine lv_icmp_ge (tgt := 381) hx hb dX12_lacksOf_340 (by decide) (fun c15944 => ?_) (fun c15944 => ?_)
              · skip
                have t15945 := cv_le (a := (v 14).toInt) rfl (b := x10_lp15941.toInt) rfl c15944
                refine lv_iload hx hb dX12_lacksOf_381 (lv_at hl 3 rfl) ?_
                refine lv_iload hx hb dX12_lacksOf_383 (lv_at hl 1 rfl) ?_
                refine lv_aload_n hx hb dX12_lacksOf_385 rfl (lv_at hl 6 rfl) ?_
                refine va_get (D := (dC, dI)) (ci := 12) (v := .ref (g 9)) (C := RX12) (T := TX12) (N := 63) hx hb hwd inA_X12 hown hK hP 0 rfl rfl 12 (by decide) (hwd _ wk_190) (fun _ h9 => h9) rfl dX12_lacksOf_386 ?_
                refine lv_bipush (v := 10) hx hb dX12_lacksOf_389 (by decide) ?_
                refine lv_iload_n hx hb dX12_lacksOf_391 rfl (lv_at hl 7 rfl) ?_
                refine lv_imul hx hb dX12_lacksOf_392 ?_
                refine lv_topi (fun z15946 e15947 => ?_)
                try (have t15948 := tmul e15947 (a := 10) (by decide) (b := p0.toInt) rfl (by omega))
                refine lv_iload hx hb dX12_lacksOf_393 (lv_at hl 2 rfl) ?_
                refine lv_iadd hx hb dX12_lacksOf_395 ?_
                refine lv_topi (fun z15949 e15950 => ?_)
                try (have t15951 := tadd e15950 (a := z15946.toInt) rfl (b := x8_lp15935.toInt) rfl (by omega))
                refine va_iald hx hb hK hP 9 8 rfl rfl (i := z15949) (vin (a := z15949.toInt) rfl (by omega)) dX12_lacksOf_396 ?_
                refine lv_topi (fun z15952 e15953 => ?_)
                have e15953 : z15952 = F 9 (z15949 : Int32).toNatClampNeg := e15953.trans (congrFun (hF 9 (by decide)) _)
                refine lv_icmp_ge (tgt := 418) hx hb dX12_lacksOf_397 (by decide) (fun c15954 => ?_) (fun c15954 => ?_)
                · skip
                  have t15955 := cv_le (a := z15952.toInt) rfl (b := x9_lp15941.toInt) rfl c15954
                  refine lv_iconst (v := 0) hx hb dX12_lacksOf_418 (by decide) ?_
                  refine lv_iadd hx hb dX12_lacksOf_419 ?_
                  refine lv_topi (fun z15956 e15957 => ?_)
                  try (have t15958 := tadd e15957 (a := x7_lp15935.toInt) rfl (b := 0) (by decide) (by omega))
                  refine lv_istore (lv' := [(7, .int z15956), (10, .int x10_lp15941), (9, .int x9_lp15941), (8, .int x8_lp15935), (6, .int z15342), (5, .int z15339), (0, .ref (g 0)), (1, .int p0), (2, .int p1), (3, .int p2), (4, .int p3)]) hx hb dX12_lacksOf_420 hl (by decide) rfl (fun ls hl => ?_)
                  obtain ⟨z15959, e15960⟩ : ∃ y : Int32, y = x8_lp15935 + 1 := ⟨_, rfl⟩
                  try (have t15961 := tadd e15960 rfl (b := 1) (by decide) (by omega))
                  refine lv_iinc (v := z15959) (lv' := [(8, .int z15959), (7, .int z15956), (10, .int x10_lp15941), (9, .int x9_lp15941), (6, .int z15342), (5, .int z15339), (0, .ref (g 0)), (1, .int p0), (2, .int p1), (3, .int p2), (4, .int p3)]) hx hb dX12_lacksOf_422 hl (k := 3) rfl (by rw [e15960]; rfl) (by decide) rfl (fun ls hl => ?_)
                  refine lv_goto (tgt := 319) hx hb dX12_lacksOf_425 (by decide) ?_
                  exact ih_lp15935 z15959 z15956 v_lp15941 F_lp15941 _ _ _ (by omega) (by omega) (frC (by decide) hf_lp15941 hf_lp15935) hI hF hP hS (lv_sub hl [0, 1, 4, 5, 6, 7, 8, 9, 10] rfl)
                · skip
                  have t15962 := cv_nle (a := z15952.toInt) rfl (b := x9_lp15941.toInt) rfl c15954
                  refine lv_aload_n hx hb dX12_lacksOf_400 rfl (lv_at hl 6 rfl) ?_
                  refine va_get (D := (dC, dI)) (ci := 12) (v := .ref (g 9)) (C := RX12) (T := TX12) (N := 63) hx hb hwd inA_X12 hown hK hP 0 rfl rfl 12 (by decide) (hwd _ wk_190) (fun _ h9 => h9) rfl dX12_lacksOf_401 ?_
                  refine lv_bipush (v := 10) hx hb dX12_lacksOf_404 (by decide) ?_
                  refine lv_iload_n hx hb dX12_lacksOf_406 rfl (lv_at hl 7 rfl) ?_
                  refine lv_imul hx hb dX12_lacksOf_407 ?_
                  refine lv_topi (fun z15963 e15964 => ?_)
                  try (have t15965 := tmul e15964 (a := 10) (by decide) (b := p0.toInt) rfl (by omega))
                  refine lv_iload hx hb dX12_lacksOf_408 (lv_at hl 2 rfl) ?_
                  refine lv_iadd hx hb dX12_lacksOf_410 ?_
                  refine lv_topi (fun z15966 e15967 => ?_)
                  try (have t15968 := tadd e15967 (a := z15963.toInt) rfl (b := x8_lp15935.toInt) rfl (by omega))
                  refine va_iald hx hb hK hP 9 8 rfl rfl (i := z15966) (vin (a := z15966.toInt) rfl (by omega)) dX12_lacksOf_411 ?_
                  refine lv_topi (fun z15969 e15970 => ?_)
                  have e15970 : z15969 = F 9 (z15966 : Int32).toNatClampNeg := e15970.trans (congrFun (hF 9 (by decide)) _)
                  refine lv_iload hx hb dX12_lacksOf_412 (lv_at hl 1 rfl) ?_
                  refine lv_isub hx hb dX12_lacksOf_414 ?_
                  refine lv_topi (fun z15971 e15972 => ?_)
                  try (have t15973 := tsub e15972 (a := z15969.toInt) rfl (b := x9_lp15941.toInt) rfl (by omega))
                  refine lv_goto (tgt := 419) hx hb dX12_lacksOf_415 (by decide) ?_
                  refine lv_iadd hx hb dX12_lacksOf_419 ?_
                  refine lv_topi (fun z15974 e15975 => ?_)
                  try (have t15976 := tadd e15975 (a := x7_lp15935.toInt) rfl (b := z15971.toInt) rfl (by omega))
                  refine lv_istore (lv' := [(7, .int z15974), (10, .int x10_lp15941), (9, .int x9_lp15941), (8, .int x8_lp15935), (6, .int z15342), (5, .int z15339), (0, .ref (g 0)), (1, .int p0), (2, .int p1), (3, .int p2), (4, .int p3)]) hx hb dX12_lacksOf_420 hl (by decide) rfl (fun ls hl => ?_)
                  obtain ⟨z15977, e15978⟩ : ∃ y : Int32, y = x8_lp15935 + 1 := ⟨_, rfl⟩
                  try (have t15979 := tadd e15978 rfl (b := 1) (by decide) (by omega))
                  refine lv_iinc (v := z15977) (lv' := [(8, .int z15977), (7, .int z15974), (10, .int x10_lp15941), (9, .int x9_lp15941), (6, .int z15342), (5, .int z15339), (0, .ref (g 0)), (1, .int p0), (2, .int p1), (3, .int p2), (4, .int p3)]) hx hb dX12_lacksOf_422 hl (k := 3) rfl (by rw [e15978]; rfl) (by decide) rfl (fun ls hl => ?_)
                  refine lv_goto (tgt := 319) hx hb dX12_lacksOf_425 (by decide) ?_
                  exact ih_lp15935 z15977 z15974 v_lp15941 F_lp15941 _ _ _ (by omega) (by omega) (frC (by decide) hf_lp15941 hf_lp15935) hI hF hP hS (lv_sub hl [0, 1, 4, 5, 6, 7, 8, 9, 10] rfl)
              · skip
                have t15980 := cv_nle (a := (v 14).toInt) rfl (b := x10_lp15941.toInt) rfl c15944
                refine lv_iload hx hb dX12_lacksOf_343 (lv_at hl 1 rfl) ?_
                refine lv_aload_n hx hb dX12_lacksOf_345 rfl (lv_at hl 6 rfl) ?_
                refine va_get (D := (dC, dI)) (ci := 12) (v := .ref (g 42)) (C := RX12) (T := TX12) (N := 63) hx hb hwd inA_X12 hown hK hP 0 rfl rfl 56 (by decide) (hwd _ wk_224) (fun _ h9 => h9) rfl dX12_lacksOf_346 ?_
                refine lv_iload hx hb dX12_lacksOf_349 (lv_at hl 0 rfl) ?_
                refine va_zald hx hb hK hP 42 41 rfl rfl (i := x10_lp15941) (vin (a := x10_lp15941.toInt) rfl (by omega)) dX12_lacksOf_351 ?_
                refine lv_topi (fun z15981 e15982 => ?_)
                have e15982 : z15981 = F 42 (x10_lp15941 : Int32).toNatClampNeg := e15982.trans (congrFun (hF 42 (by decide)) _)
                refine lv_if_eq (tgt := 371) hx hb dX12_lacksOf_352 (by decide) (fun c15983 => ?_) (fun c15983 => ?_)
                · skip
                  have t15984 := cv_eq (a := z15981.toInt) rfl (b := 0) (by decide) c15983
                  refine lv_iconst (v := 0) hx hb dX12_lacksOf_371 (by decide) ?_
                  refine lv_iadd hx hb dX12_lacksOf_372 ?_
                  refine lv_topi (fun z15985 e15986 => ?_)
                  try (have t15987 := tadd e15986 (a := x9_lp15941.toInt) rfl (b := 0) (by decide) (by omega))
                  refine lv_istore (lv' := [(9, .int z15985), (10, .int x10_lp15941), (8, .int x8_lp15935), (7, .int x7_lp15935), (6, .int z15342), (5, .int z15339), (0, .ref (g 0)), (1, .int p0), (2, .int p1), (3, .int p2), (4, .int p3)]) hx hb dX12_lacksOf_373 hl (by decide) rfl (fun ls hl => ?_)
                  obtain ⟨z15988, e15989⟩ : ∃ y : Int32, y = x10_lp15941 + 1 := ⟨_, rfl⟩
                  try (have t15990 := tadd e15989 rfl (b := 1) (by decide) (by omega))
                  refine lv_iinc (v := z15988) (lv' := [(10, .int z15988), (9, .int z15985), (8, .int x8_lp15935), (7, .int x7_lp15935), (6, .int z15342), (5, .int z15339), (0, .ref (g 0)), (1, .int p0), (2, .int p1), (3, .int p2), (4, .int p3)]) hx hb dX12_lacksOf_375 hl (k := 1) rfl (by rw [e15989]; rfl) (by decide) rfl (fun ls hl => ?_)
                  refine lv_goto (tgt := 334) hx hb dX12_lacksOf_378 (by decide) ?_
                  exact ih_lp15941 z15988 z15985 v_lp15941 F_lp15941 _ _ _ (by omega) (by omega) hf_lp15941 hI hF hP hS (lv_sub hl [0, 1, 2, 3, 4, 5, 6, 7, 8, 9, 10] rfl)
                · skip
                  have t15991 := cv_ne (a := z15981.toInt) rfl (b := 0) (by decide) c15983
                  refine lv_aload_n hx hb dX12_lacksOf_355 rfl (lv_at hl 6 rfl) ?_
                  refine va_get (D := (dC, dI)) (ci := 12) (v := .ref (g 11)) (C := RX12) (T := TX12) (N := 63) hx hb hwd inA_X12 hown hK hP 0 rfl rfl 15 (by decide) (hwd _ wk_192) (fun _ h9 => h9) rfl dX12_lacksOf_356 ?_
                  refine lv_iload hx hb dX12_lacksOf_359 (lv_at hl 0 rfl) ?_
                  refine va_iald hx hb hK hP 11 10 rfl rfl (i := x10_lp15941) (vin (a := x10_lp15941.toInt) rfl (by omega)) dX12_lacksOf_361 ?_
                  refine lv_topi (fun z15992 e15993 => ?_)
                  have t15994 : 0 ≤ z15992.toInt ∧ z15992.toInt ≤ 9 := by rw [e15993]; exact hI.2 11 _ _ rfl _
                  have e15993 : z15992 = F 11 (x10_lp15941 : Int32).toNatClampNeg := e15993.trans (congrFun (hF 11 (by decide)) _)
                  refine lv_iload hx hb dX12_lacksOf_362 (lv_at hl 2 rfl) ?_
                  refine lv_icmp_ne (tgt := 371) hx hb dX12_lacksOf_364 (by decide) (fun c15995 => ?_) (fun c15995 => ?_)
                  · skip
                    have t15996 := cv_ne (a := z15992.toInt) rfl (b := x8_lp15935.toInt) rfl c15995
                    refine lv_iconst (v := 0) hx hb dX12_lacksOf_371 (by decide) ?_
                    refine lv_iadd hx hb dX12_lacksOf_372 ?_
                    refine lv_topi (fun z15997 e15998 => ?_)
                    try (have t15999 := tadd e15998 (a := x9_lp15941.toInt) rfl (b := 0) (by decide) (by omega))
                    refine lv_istore (lv' := [(9, .int z15997), (10, .int x10_lp15941), (8, .int x8_lp15935), (7, .int x7_lp15935), (6, .int z15342), (5, .int z15339), (0, .ref (g 0)), (1, .int p0), (2, .int p1), (3, .int p2), (4, .int p3)]) hx hb dX12_lacksOf_373 hl (by decide) rfl (fun ls hl => ?_)
                    obtain ⟨z16000, e16001⟩ : ∃ y : Int32, y = x10_lp15941 + 1 := ⟨_, rfl⟩
                    try (have t16002 := tadd e16001 rfl (b := 1) (by decide) (by omega))
                    refine lv_iinc (v := z16000) (lv' := [(10, .int z16000), (9, .int z15997), (8, .int x8_lp15935), (7, .int x7_lp15935), (6, .int z15342), (5, .int z15339), (0, .ref (g 0)), (1, .int p0), (2, .int p1), (3, .int p2), (4, .int p3)]) hx hb dX12_lacksOf_375 hl (k := 1) rfl (by rw [e16001]; rfl) (by decide) rfl (fun ls hl => ?_)
                    refine lv_goto (tgt := 334) hx hb dX12_lacksOf_378 (by decide) ?_
                    exact ih_lp15941 z16000 z15997 v_lp15941 F_lp15941 _ _ _ (by omega) (by omega) hf_lp15941 hI hF hP hS (lv_sub hl [0, 1, 2, 3, 4, 5, 6, 7, 8, 9, 10] rfl)
                  · skip
                    have t16003 := cv_eq (a := z15992.toInt) rfl (b := x8_lp15935.toInt) rfl c15995
                    refine lv_iconst (v := 1) hx hb dX12_lacksOf_367 (by decide) ?_
                    refine lv_goto (tgt := 372) hx hb dX12_lacksOf_368 (by decide) ?_
                    refine lv_iadd hx hb dX12_lacksOf_372 ?_
                    refine lv_topi (fun z16004 e16005 => ?_)
                    try (have t16006 := tadd e16005 (a := x9_lp15941.toInt) rfl (b := 1) (by decide) (by omega))
                    refine lv_istore (lv' := [(9, .int z16004), (10, .int x10_lp15941), (8, .int x8_lp15935), (7, .int x7_lp15935), (6, .int z15342), (5, .int z15339), (0, .ref (g 0)), (1, .int p0), (2, .int p1), (3, .int p2), (4, .int p3)]) hx hb dX12_lacksOf_373 hl (by decide) rfl (fun ls hl => ?_)
                    obtain ⟨z16007, e16008⟩ : ∃ y : Int32, y = x10_lp15941 + 1 := ⟨_, rfl⟩
                    try (have t16009 := tadd e16008 rfl (b := 1) (by decide) (by omega))
                    refine lv_iinc (v := z16007) (lv' := [(10, .int z16007), (9, .int z16004), (8, .int x8_lp15935), (7, .int x7_lp15935), (6, .int z15342), (5, .int z15339), (0, .ref (g 0)), (1, .int p0), (2, .int p1), (3, .int p2), (4, .int p3)]) hx hb dX12_lacksOf_375 hl (k := 1) rfl (by rw [e16008]; rfl) (by decide) rfl (fun ls hl => ?_)
                    refine lv_goto (tgt := 334) hx hb dX12_lacksOf_378 (by decide) ?_
                    exact ih_lp15941 z16007 z16004 v_lp15941 F_lp15941 _ _ _ (by omega) (by omega) hf_lp15941 hI hF hP hS (lv_sub hl [0, 1, 2, 3, 4, 5, 6, 7, 8, 9, 10] rfl)
          obtain ⟨n9, hn9⟩ : ∃ n : Nat, 2147483648 - 0 ≤ (n : Int) := ⟨((2147483648 - 0 : Int)).toNat, by omega⟩
          exact lp15941 n9 0 0 v_lp15935 F_lp15935 H _ ls (by have : (0 : Int32).toInt = 0 := (by decide); have : (0 : Int32).toInt = 0 := (by decide); omega) (by have : (0 : Int32).toInt = 0 := (by decide); have : (0 : Int32).toInt = 0 := (by decide); omega) (fun _ _ => rfl) hI hF hP hS hl
    obtain ⟨n9, hn9⟩ : ∃ n : Nat, 2147483648 - 0 ≤ (n : Int) := ⟨((2147483648 - 0 : Int)).toNat, by omega⟩
    exact lp15935 n9 0 0 v F H _ ls (by have : (0 : Int32).toInt = 0 := (by decide); have : (0 : Int32).toInt = 0 := (by decide); omega) (by have : (0 : Int32).toInt = 0 := (by decide); have : (0 : Int32).toInt = 0 := (by decide); omega) (fun _ _ => rfl) hI hF hP hS hl
  · refine lv_tableIn (off := 409) (tgt := 431) hx hb dX12_lacksOf_22 hlo15344 hhi15345 (by rw [hk]; decide) (by decide) ?_
    refine lv_aload_n hx hb dX12_lacksOf_431 rfl (lv_at hl 3 rfl) ?_
    refine lv_iload_n hx hb dX12_lacksOf_432 rfl (lv_at hl 4 rfl) ?_
    refine lv_iload_n hx hb dX12_lacksOf_433 rfl (lv_at hl 6 rfl) ?_
    refine va_calli (va_runV (As := [.int p0, .int p2]) (rest := []) ⟨hx, hb, hml, hown, hwd⟩ (c_X12_late l dC dI g c adK adV v F rc H.size p0 p2 hg hI (by omega)) (cwV 2 hwd (gV wk_1213 wk_1210 wk_1211 wk_1212 wk_5) rfl rfl rfl (by decide +kernel) ⟨Nat.le_of_ble_eq_true rfl, Nat.le_of_ble_eq_true rfl⟩) ⟨PM.blind, va_recv hK hP (ci := 12) (q0 := 0) rfl rfl, fun U hU hW => ⟨rfl, PM.at hK hE hP hS hU hW⟩⟩ rfl rfl hl.1 rfl (lv_room (Nat.le_of_ble_eq_true rfl)) dX12_lacksOf_434 ⟨Nat.le_of_ble_eq_true rfl, Nat.le_of_ble_eq_true rfl⟩) hS (fun q _ h => (freeM hS) q h) (freeM hS) (fun r16010 u t H1 locs ht hvm hw hB hz1 hk1 hS => ?_)
    unfold BM at hB
    rw [ht] at hB
    have hP : va_P (dC, dI) classes (wM g c v F rc) H1 := hB
    clear hz1
    generalize H1 = H at hP hS ⊢
    have rr_r16010 := i32_rng r16010
    have hP9 : va_P (dC, dI) classes (wM g c v F rc) H := hP
    exact W.iret (v := r16010) hx hb hr (fun t ht hW => ⟨⟨r16010, (v, F, rc), rfl, ⟨hI, rfl, (fun _ _ => rfl), hF, trivial⟩, (by show va_P _ _ _ t.heap; rw [ht]; exact hP9)⟩, hS.F ht⟩) hS.2.2 dX12_lacksOf_437
  · refine lv_tableIn (off := 238) (tgt := 260) hx hb dX12_lacksOf_22 hlo15344 hhi15345 (by rw [hk]; decide) (by decide) ?_
    refine lv_iconst (v := 0) hx hb dX12_lacksOf_260 (by decide) ?_
    refine lv_istore (lv' := [(8, .int 0), (7, .int 0), (6, .int z15342), (5, .int z15339), (0, .ref (g 0)), (1, .int p0), (2, .int p1), (3, .int p2), (4, .int p3)]) hx hb dX12_lacksOf_261 hl (by decide) rfl (fun ls hl => ?_)
    have lp16011 : ∀ (n : Nat) (x8_lp16011 : Int32) (x7_lp16011 : Int32) (v_lp16011 : Nat → Int32) (F_lp16011 : Nat → Nat → Int32) (H : Heap) (locs : List Loc) (ls : Array Slot), (0 ≤ x8_lp16011.toInt) → (2147483648 - x8_lp16011.toInt ≤ (n : Int)) → (∀ k, k ∉ ([] : List Nat) → v_lp16011 k = v k) → IM v_lp16011 F_lp16011 → (∀ k, k ∉ ([30, 31] : List Nat) → F_lp16011 k = F k) → va_P (dC, dI) classes (wM g c v_lp16011 F_lp16011 rc) H → va_S (AM g s.heap.size) s.heap H locs → lv_has ls 11 [(8, .int x8_lp16011), (7, .int x7_lp16011), (6, .int z15342), (5, .int z15339), (0, .ref (g 0)), (1, .int p0), (2, .int p1), (3, .int p2), (4, .int p3)] → W p l e (headSpec (Cond.code yX12_lacksOf cX12_lacksOf 11 (some .int) :: wA) ({ frames := 5, cells := 0, slots := 0, locals := 200 })).room s m ([.ref (g 0), .int p0, .int p1, .int p2, .int p3] : List Value).toArray below meth c0 H locs 0 0 (MQ below (va_Qi (fun (r : Int32) (u : StM) => IM u.1 u.2.1 ∧ u.2.2 = rc ∧ (∀ k, k ∉ ([] : List Nat) → u.1 k = v k) ∧ (∀ k, k ∉ ([30, 31] : List Nat) → u.2.1 k = F k) ∧ True) (BM dC dI g c) (AM g s.heap.size)) ([.ref (g 0), .int p0, .int p1, .int p2, .int p3] : List Value).toArray s 0 0 (AM g s.heap.size)) (F0 m 263 ls []) := by
      intro n
      induction n with
      | zero =>
        intro x8_lp16011 x7_lp16011 v_lp16011 F_lp16011 H locs ls t16012 hm hf_lp16011 hI hF hP hS hl
        exfalso
        have := i32_rng x8_lp16011
        have := i32_rng x7_lp16011
        have hI1 := hI.1
        omega
      | succ n ih_lp16011 =>
        intro x8_lp16011 x7_lp16011 v_lp16011 F_lp16011 H locs ls t16012 hm hf_lp16011 hI hF hP hS hl
        have rx8_lp16011 := i32_rng x8_lp16011
        have rx7_lp16011 := i32_rng x7_lp16011
        refine lv_iload hx hb dX12_lacksOf_263 (lv_at hl 0 rfl) ?_
        refine lv_aload_n hx hb dX12_lacksOf_265 rfl (lv_at hl 4 rfl) ?_
        refine va_get (D := (dC, dI)) (ci := 12) (v := .int (v_lp16011 45)) (C := RX12) (T := TX12) (N := 63) hx hb hwd inA_X12 hown hK hP 0 rfl rfl 45 (by decide) (hwd _ wk_485) (fun _ h9 => h9) rfl dX12_lacksOf_266 ?_
        refine my_top (v := v 45) (hf_lp16011 45 (by decide)) ?_
        have t16013 : 0 ≤ (v 45).toInt ∧ (v 45).toInt ≤ 20 := by have h9 := hI.1 45 _ _ rfl; rw [show v_lp16011 45 = v 45 from hf_lp16011 45 (by decide)] at h9; exact h9
        refine lv_icmp_ge (tgt := 313) hx hb dX12_lacksOf_269 (by decide) (fun c16014 => ?_) (fun c16014 => ?_)
        · skip
          have t16015 := cv_le (a := (v 45).toInt) rfl (b := x8_lp16011.toInt) rfl c16014
          refine lv_iload hx hb dX12_lacksOf_313 (lv_at hl 1 rfl) ?_
          have hP9 : va_P (dC, dI) classes (wM g c v_lp16011 F_lp16011 rc) H := hP
          exact W.iret (v := x7_lp16011) hx hb hr (fun t ht hW => ⟨⟨x7_lp16011, (v_lp16011, F_lp16011, rc), rfl, ⟨hI, rfl, (frC (by decide) hf_lp16011 (fun _ _ => rfl)), hF, trivial⟩, (by show va_P _ _ _ t.heap; rw [ht]; exact hP9)⟩, hS.F ht⟩) hS.2.2 dX12_lacksOf_315
        · skip
          have t16016 := cv_nle (a := (v 45).toInt) rfl (b := x8_lp16011.toInt) rfl c16014
          refine lv_iload hx hb dX12_lacksOf_272 (lv_at hl 1 rfl) ?_
          refine lv_aload_n hx hb dX12_lacksOf_274 rfl (lv_at hl 4 rfl) ?_
          refine lv_iload hx hb dX12_lacksOf_275 (lv_at hl 0 rfl) ?_
          refine lv_iload_n hx hb dX12_lacksOf_277 rfl (lv_at hl 5 rfl) ?_
          refine va_calli (va_runV (As := [.int x8_lp16011, .int p0]) (rest := [.int x7_lp16011]) ⟨hx, hb, hml, hown, hwd⟩ (c_X12_asks l dC dI g c adK adV v_lp16011 F_lp16011 rc H.size x8_lp16011 p0 hg hI (by omega) (by omega)) (cwV 2 hwd (gV wk_520 wk_517 wk_518 wk_519 wk_5) rfl rfl rfl (by decide +kernel) ⟨Nat.le_of_ble_eq_true rfl, Nat.le_of_ble_eq_true rfl⟩) ⟨PM.blind, va_recv hK hP (ci := 12) (q0 := 0) rfl rfl, fun U hU hW => ⟨rfl, PM.at hK hE hP hS hU hW⟩⟩ rfl rfl hl.1 rfl (lv_room (Nat.le_of_ble_eq_true rfl)) dX12_lacksOf_278 ⟨Nat.le_of_ble_eq_true rfl, Nat.le_of_ble_eq_true rfl⟩) hS (fun q _ h => (freeM hS) q h) (freeM hS) (fun r16017 u t H1 locs ht hvm hw hB hz1 hk1 hS => ?_)
          unfold BM at hB
          rw [ht] at hB
          have hP : va_P (dC, dI) classes (wM g c v_lp16011 F_lp16011 rc) H1 := hB
          have hw_r16017 : 0 ≤ r16017.toInt ∧ r16017.toInt ≤ 1 := hw
          clear hw
          clear hz1
          generalize H1 = H at hP hS ⊢
          refine lv_if_eq (tgt := 303) hx hb dX12_lacksOf_281 (by decide) (fun c16018 => ?_) (fun c16018 => ?_)
          · skip
            have t16019 := cv_eq (a := r16017.toInt) rfl (b := 0) (by decide) c16018
            refine lv_iconst (v := 0) hx hb dX12_lacksOf_303 (by decide) ?_
            refine lv_iadd hx hb dX12_lacksOf_304 ?_
            refine lv_topi (fun z16020 e16021 => ?_)
            try (have t16022 := tadd e16021 (a := x7_lp16011.toInt) rfl (b := 0) (by decide) (by omega))
            refine lv_istore (lv' := [(7, .int z16020), (8, .int x8_lp16011), (6, .int z15342), (5, .int z15339), (0, .ref (g 0)), (1, .int p0), (2, .int p1), (3, .int p2), (4, .int p3)]) hx hb dX12_lacksOf_305 hl (by decide) rfl (fun ls hl => ?_)
            obtain ⟨z16023, e16024⟩ : ∃ y : Int32, y = x8_lp16011 + 1 := ⟨_, rfl⟩
            try (have t16025 := tadd e16024 rfl (b := 1) (by decide) (by omega))
            refine lv_iinc (v := z16023) (lv' := [(8, .int z16023), (7, .int z16020), (6, .int z15342), (5, .int z15339), (0, .ref (g 0)), (1, .int p0), (2, .int p1), (3, .int p2), (4, .int p3)]) hx hb dX12_lacksOf_307 hl (k := 1) rfl (by rw [e16024]; rfl) (by decide) rfl (fun ls hl => ?_)
            refine lv_goto (tgt := 263) hx hb dX12_lacksOf_310 (by decide) ?_
            exact ih_lp16011 z16023 z16020 v_lp16011 F_lp16011 _ _ _ (by omega) (by omega) hf_lp16011 hI hF hP hS (lv_sub hl [0, 1, 2, 3, 4, 5, 6, 7, 8] rfl)
          · skip
            have t16026 := cv_ne (a := r16017.toInt) rfl (b := 0) (by decide) c16018
            refine lv_aload_n hx hb dX12_lacksOf_284 rfl (lv_at hl 4 rfl) ?_
            refine va_get (D := (dC, dI)) (ci := 12) (v := .ref (g 34)) (C := RX12) (T := TX12) (N := 63) hx hb hwd inA_X12 hown hK hP 0 rfl rfl 48 (by decide) (hwd _ wk_216) (fun _ h9 => h9) rfl dX12_lacksOf_285 ?_
            refine lv_bipush (v := 10) hx hb dX12_lacksOf_288 (by decide) ?_
            refine lv_iload hx hb dX12_lacksOf_290 (lv_at hl 0 rfl) ?_
            refine lv_imul hx hb dX12_lacksOf_292 ?_
            refine lv_topi (fun z16027 e16028 => ?_)
            try (have t16029 := tmul e16028 (a := 10) (by decide) (b := x8_lp16011.toInt) rfl (by omega))
            refine lv_iload_n hx hb dX12_lacksOf_293 rfl (lv_at hl 5 rfl) ?_
            refine lv_iadd hx hb dX12_lacksOf_294 ?_
            refine lv_topi (fun z16030 e16031 => ?_)
            try (have t16032 := tadd e16031 (a := z16027.toInt) rfl (b := p0.toInt) rfl (by omega))
            refine va_zald hx hb hK hP 34 33 rfl rfl (i := z16030) (vin (a := z16030.toInt) rfl (by omega)) dX12_lacksOf_295 ?_
            refine lv_topi (fun z16033 e16034 => ?_)
            have e16034 : z16033 = F 34 (z16030 : Int32).toNatClampNeg := e16034.trans (congrFun (hF 34 (by decide)) _)
            refine lv_if_ne (tgt := 303) hx hb dX12_lacksOf_296 (by decide) (fun c16035 => ?_) (fun c16035 => ?_)
            · skip
              have t16036 := cv_ne (a := z16033.toInt) rfl (b := 0) (by decide) c16035
              refine lv_iconst (v := 0) hx hb dX12_lacksOf_303 (by decide) ?_
              refine lv_iadd hx hb dX12_lacksOf_304 ?_
              refine lv_topi (fun z16037 e16038 => ?_)
              try (have t16039 := tadd e16038 (a := x7_lp16011.toInt) rfl (b := 0) (by decide) (by omega))
              refine lv_istore (lv' := [(7, .int z16037), (8, .int x8_lp16011), (6, .int z15342), (5, .int z15339), (0, .ref (g 0)), (1, .int p0), (2, .int p1), (3, .int p2), (4, .int p3)]) hx hb dX12_lacksOf_305 hl (by decide) rfl (fun ls hl => ?_)
              obtain ⟨z16040, e16041⟩ : ∃ y : Int32, y = x8_lp16011 + 1 := ⟨_, rfl⟩
              try (have t16042 := tadd e16041 rfl (b := 1) (by decide) (by omega))
              refine lv_iinc (v := z16040) (lv' := [(8, .int z16040), (7, .int z16037), (6, .int z15342), (5, .int z15339), (0, .ref (g 0)), (1, .int p0), (2, .int p1), (3, .int p2), (4, .int p3)]) hx hb dX12_lacksOf_307 hl (k := 1) rfl (by rw [e16041]; rfl) (by decide) rfl (fun ls hl => ?_)
              refine lv_goto (tgt := 263) hx hb dX12_lacksOf_310 (by decide) ?_
              exact ih_lp16011 z16040 z16037 v_lp16011 F_lp16011 _ _ _ (by omega) (by omega) hf_lp16011 hI hF hP hS (lv_sub hl [0, 1, 2, 3, 4, 5, 6, 7, 8] rfl)
            · skip
              have t16043 := cv_eq (a := z16033.toInt) rfl (b := 0) (by decide) c16035
              refine lv_iconst (v := 1) hx hb dX12_lacksOf_299 (by decide) ?_
              refine lv_goto (tgt := 304) hx hb dX12_lacksOf_300 (by decide) ?_
              refine lv_iadd hx hb dX12_lacksOf_304 ?_
              refine lv_topi (fun z16044 e16045 => ?_)
              try (have t16046 := tadd e16045 (a := x7_lp16011.toInt) rfl (b := 1) (by decide) (by omega))
              refine lv_istore (lv' := [(7, .int z16044), (8, .int x8_lp16011), (6, .int z15342), (5, .int z15339), (0, .ref (g 0)), (1, .int p0), (2, .int p1), (3, .int p2), (4, .int p3)]) hx hb dX12_lacksOf_305 hl (by decide) rfl (fun ls hl => ?_)
              obtain ⟨z16047, e16048⟩ : ∃ y : Int32, y = x8_lp16011 + 1 := ⟨_, rfl⟩
              try (have t16049 := tadd e16048 rfl (b := 1) (by decide) (by omega))
              refine lv_iinc (v := z16047) (lv' := [(8, .int z16047), (7, .int z16044), (6, .int z15342), (5, .int z15339), (0, .ref (g 0)), (1, .int p0), (2, .int p1), (3, .int p2), (4, .int p3)]) hx hb dX12_lacksOf_307 hl (k := 1) rfl (by rw [e16048]; rfl) (by decide) rfl (fun ls hl => ?_)
              refine lv_goto (tgt := 263) hx hb dX12_lacksOf_310 (by decide) ?_
              exact ih_lp16011 z16047 z16044 v_lp16011 F_lp16011 _ _ _ (by omega) (by omega) hf_lp16011 hI hF hP hS (lv_sub hl [0, 1, 2, 3, 4, 5, 6, 7, 8] rfl)
    obtain ⟨n9, hn9⟩ : ∃ n : Nat, 2147483648 - 0 ≤ (n : Int) := ⟨((2147483648 - 0 : Int)).toNat, by omega⟩
    exact lp16011 n9 0 0 v F H _ ls (by have : (0 : Int32).toInt = 0 := (by decide); have : (0 : Int32).toInt = 0 := (by decide); omega) (by have : (0 : Int32).toInt = 0 := (by decide); have : (0 : Int32).toInt = 0 := (by decide); omega) (fun _ _ => rfl) hI hF hP hS hl
set_option maxHeartbeats 8000000 in
set_option maxRecDepth 100000 in
theorem c_X12_costOf (l : Launch) (dC : Nat → ClassId) (dI : Nat → Nat → Nat) (g : Nat → Nat) (c : Nat → ClassId) (adK adV : Nat → Nat) (v : Nat → Int32) (F : Nat → Nat → Int32) (rc sz : Nat) (p0 : Int32) (p1 : Int32) (p2 : Int32) (p3 : Int32) (hg : injM g) (hI : IM v F) (h0 : 0 ≤ p0.toInt ∧ p0.toInt ≤ 9) (h1 : 0 ≤ p1.toInt ∧ p1.toInt ≤ 30) (hL : JL (v 31) (F 28) (F 29) (F 27)) : Met l yX12_costOf (Cond.code yX12_costOf cX12_costOf 11 (some .int) :: wA) ({ frames := 6, cells := 0, slots := 0, locals := 240 }) (va_Pc [.ref (g 0), .int p0, .int p1, .int p2, .int p3] (PM dC dI g c adK adV v F rc sz)) (va_Qi (fun (r : Int32) (u : StM) => IM u.1 u.2.1 ∧ u.2.2 = rc ∧ (∀ k, k ∉ ([] : List Nat) → u.1 k = v k) ∧ (∀ k, k ∉ ([30, 31] : List Nat) → u.2.1 k = F k) ∧ True) (BM dC dI g c) (AM g sz)) 0 0 (AM g sz) := by
  refine Met.ofW (cc := cX12_costOf) (maxL := 11) (ret := (some .int)) (by decide) rfl ?_
  intro p e s m args below meth c0 s₁ B hml hv
  obtain ⟨rfl, hsz, hP, hK, hE⟩ := hv
  have hx := B.exec
  have hb := B.bytes
  have hr := B.returns
  have hts := atoms_spec (ws := Cond.code yX12_costOf cX12_costOf 11 (some .int) :: wA) B.pre
  have hwd : ∀ w ∈ wA, w.before _ s = true := fun w h => hts w (List.mem_cons_of_mem _ h)
  have hown : s.vm.findClass RX12 = some m.cls := findClass_of_methodNamed B.named
  have hlocks := B.notSynchronized
  subst hsz
  have hl := lv_entry ([.ref (g 0), .int p0, .int p1, .int p2, .int p3]) (n := 11) (Nat.le_of_ble_eq_true rfl)
  rw [lg_entry_eq]
  generalize (lg_sl ([.ref (g 0), .int p0, .int p1, .int p2, .int p3]) ++ List.replicate (11 - (lg_sl ([.ref (g 0), .int p0, .int p1, .int p2, .int p3])).length) Slot.unset).toArray = ls at hl ⊢
  have hl : lv_has ls 11 [(0, .ref (g 0)), (1, .int p0), (2, .int p1), (3, .int p2), (4, .int p3)] := hl
  obtain ⟨H, eH⟩ : ∃ z, z = s.heap := ⟨_, rfl⟩
  have hP : va_P (dC, dI) classes (wM g c v F rc) H := by rw [eH]; exact hP
  have hS : va_S (AM g s.heap.size) s.heap H [] := by rw [eH]; exact va_S.rf
  refine my_heap eH ?_
  have hF : ∀ k, k ∉ ([30, 31] : List Nat) → F k = F k := fun _ _ => rfl
  have rp0 := i32_rng p0
  have rp1 := i32_rng p1
  have rp2 := i32_rng p2
  have rp3 := i32_rng p3
  have hb31 : 0 ≤ (v 31).toInt ∧ (v 31).toInt ≤ 10 := hI.1 31 _ _ rfl
  refine lv_bipush (v := 32) hx hb dX12_costOf_0 (by decide) ?_
  refine lv_iload_n hx hb dX12_costOf_2 rfl (lv_at hl 1 rfl) ?_
  refine lv_imul hx hb dX12_costOf_3 ?_
  refine lv_topi (fun z16149 e16150 => ?_)
  try (have t16151 := tmul e16150 (a := 32) (by decide) (b := p0.toInt) rfl (by omega))
  refine lv_iload_n hx hb dX12_costOf_4 rfl (lv_at hl 2 rfl) ?_
  refine lv_iadd hx hb dX12_costOf_5 ?_
  refine lv_topi (fun z16152 e16153 => ?_)
  try (have t16154 := tadd e16153 (a := z16149.toInt) rfl (b := p1.toInt) rfl (by omega))
  refine lv_istore (lv' := [(5, .int z16152), (0, .ref (g 0)), (1, .int p0), (2, .int p1), (3, .int p2), (4, .int p3)]) hx hb dX12_costOf_6 hl (by decide) rfl (fun ls hl => ?_)
  refine lv_aload_n hx hb dX12_costOf_8 rfl (lv_at hl 1 rfl) ?_
  refine va_get (D := (dC, dI)) (ci := 12) (v := .ref (g 38)) (C := RX12) (T := TX12) (N := 63) hx hb hwd inA_X12 hown hK hP 0 rfl rfl 52 (by decide) (hwd _ wk_220) (fun _ h9 => h9) rfl dX12_costOf_9 ?_
  refine lv_iload hx hb dX12_costOf_12 (lv_at hl 0 rfl) ?_
  refine va_iald hx hb hK hP 38 37 rfl rfl (i := z16152) (vin (a := z16152.toInt) rfl (by omega)) dX12_costOf_14 ?_
  refine lv_topi (fun z16155 e16156 => ?_)
  refine lv_istore (lv' := [(6, .int z16155), (5, .int z16152), (0, .ref (g 0)), (1, .int p0), (2, .int p1), (3, .int p2), (4, .int p3)]) hx hb dX12_costOf_15 hl (by decide) rfl (fun ls hl => ?_)
  refine lv_aload_n hx hb dX12_costOf_17 rfl (lv_at hl 2 rfl) ?_
  refine lv_iload_n hx hb dX12_costOf_18 rfl (lv_at hl 3 rfl) ?_
  refine lv_iload_n hx hb dX12_costOf_19 rfl (lv_at hl 4 rfl) ?_
  refine lv_iload_n hx hb dX12_costOf_20 rfl (lv_at hl 5 rfl) ?_
  refine lv_iload hx hb dX12_costOf_21 (lv_at hl 6 rfl) ?_
  refine va_calli (va_runV (As := [.int p0, .int p1, .int p2, .int p3]) (rest := []) ⟨hx, hb, hml, hown, hwd⟩ (c_X12_lacksOf l dC dI g c adK adV v F rc H.size p0 p1 p2 p3 hg hI (by omega) (by omega) (JL.to hL (show v 31 = v 31 from rfl) rfl rfl rfl)) (cwV 4 hwd (gV wk_1209 wk_1206 wk_1207 wk_1208 wk_5) rfl rfl rfl (by decide +kernel) ⟨Nat.le_of_ble_eq_true rfl, Nat.le_of_ble_eq_true rfl⟩) ⟨PM.blind, va_recv hK hP (ci := 12) (q0 := 0) rfl rfl, fun U hU hW => ⟨rfl, PM.at hK hE hP hS hU hW⟩⟩ rfl rfl hl.1 rfl (lv_room (Nat.le_of_ble_eq_true rfl)) dX12_costOf_23 ⟨Nat.le_of_ble_eq_true rfl, Nat.le_of_ble_eq_true rfl⟩) hS (fun q _ h => (freeM hS) q h) (freeM hS) (fun r16157 u t H1 locs ht hvm hw hB hz1 hk1 hS => ?_)
  unfold BM at hB
  rw [ht] at hB
  obtain ⟨v16158, F16159, rc9⟩ := u
  obtain ⟨hI, hrc, hf16160, hG16161, hw⟩ := hw
  dsimp only at hI hrc hB hf16160 hG16161 hw
  have hF := frCF (by decide) hG16161 hF
  rw [hrc] at hB
  have hP : va_P (dC, dI) classes (wM g c v16158 F16159 rc) H1 := hB
  clear hz1
  generalize H1 = H at hP hS ⊢
  have rr_r16157 := i32_rng r16157
  refine lv_i2l hx hb dX12_costOf_26 rfl ?_
  refine lv_topl (fun z16162 e16163 => ?_)
  refine lv_lstore (lv' := [(7, .long z16162), (6, .int z16155), (5, .int z16152), (0, .ref (g 0)), (1, .int p0), (2, .int p1), (3, .int p2), (4, .int p3)]) hx hb dX12_costOf_27 hl (by decide) rfl (fun ls hl => ?_)
  refine lv_iload hx hb dX12_costOf_29 (lv_at hl 1 rfl) ?_
  refine lv_bipush (v := 116) hx hb dX12_costOf_31 (by decide) ?_
  refine lv_icmp_ne (tgt := 106) hx hb dX12_costOf_33 (by decide) (fun c16164 => ?_) (fun c16164 => ?_)
  · skip
    have t16165 := cv_ne (a := z16155.toInt) rfl (b := 116) (by decide) c16164
    refine lv_lload hx hb dX12_costOf_106 (lv_at hl 0 rfl) ?_
    refine lv_iload hx hb dX12_costOf_108 (lv_at hl 1 rfl) ?_
    refine va_calli (va_runS (As := [.int z16155]) (rest := [.long z16162]) ⟨hx, hb, hml, hown, hwd⟩ (c_X12_numbersOf l dC dI g c adK adV v16158 F16159 rc H.size z16155 hg hI ) (va_cwS 1 hwd (gT wk_1134 wk_1132 wk_1133 wk_5) rfl rfl rfl (by decide +kernel) ⟨Nat.le_of_ble_eq_true rfl, Nat.le_of_ble_eq_true rfl⟩) ⟨PM.blind, fun U hU hW => ⟨rfl, PM.at hK hE hP hS hU hW⟩⟩ rfl rfl hl.1 rfl (lv_room (Nat.le_of_ble_eq_true rfl)) dX12_costOf_110 ⟨Nat.le_of_ble_eq_true rfl, Nat.le_of_ble_eq_true rfl⟩) hS (fun q _ h => (freeM hS) q h) (freeM hS) (fun r16166 u t H1 locs ht hvm hw hB hz1 hk1 hS => ?_)
    unfold BM at hB
    rw [ht] at hB
    have hP : va_P (dC, dI) classes (wM g c v16158 F16159 rc) H1 := hB
    have hw_r16166 : (0 ≤ r16166.toInt ∧ r16166.toInt ≤ 3) ∧ (r16166.toInt = 0 ∨ 100 ≤ z16155.toInt) := hw
    clear hw
    clear hz1
    generalize H1 = H at hP hS ⊢
    refine lv_iconst (v := 3) hx hb dX12_costOf_113 (by decide) ?_
    refine lv_icmp_ne (tgt := 127) hx hb dX12_costOf_114 (by decide) (fun c16167 => ?_) (fun c16167 => ?_)
    · skip
      have t16168 := cv_ne (a := r16166.toInt) rfl (b := 3) (by decide) c16167
      refine lv_aload_n hx hb dX12_costOf_127 rfl (lv_at hl 3 rfl) ?_
      refine va_get (D := (dC, dI)) (ci := 12) (v := .ref (g 39)) (C := RX12) (T := TX12) (N := 63) hx hb hwd inA_X12 hown hK hP 0 rfl rfl 53 (by decide) (hwd _ wk_221) (fun _ h9 => h9) rfl dX12_costOf_128 ?_
      refine lv_iload hx hb dX12_costOf_131 (lv_at hl 2 rfl) ?_
      refine va_iald hx hb hK hP 39 38 rfl rfl (i := z16152) (vin (a := z16152.toInt) rfl (by omega)) dX12_costOf_133 ?_
      refine lv_topi (fun z16169 e16170 => ?_)
      have e16170 : z16169 = F 39 (z16152 : Int32).toNatClampNeg := e16170.trans (congrFun (hF 39 (by decide)) _)
      refine lv_i2l hx hb dX12_costOf_134 rfl ?_
      refine lv_topl (fun z16171 e16172 => ?_)
      refine lv_lmul hx hb dX12_costOf_135 ?_
      refine lv_topl (fun z16173 e16174 => ?_)
      refine va_calli (va_runS (As := [.long z16173]) (rest := []) ⟨hx, hb, hml, hown, hwd⟩ (c_X12_held l dC dI g c adK adV v16158 F16159 rc H.size z16173 hg hI ) (va_cwS 1 hwd (gT wk_523 wk_521 wk_522 wk_5) rfl rfl rfl (by decide +kernel) ⟨Nat.le_of_ble_eq_true rfl, Nat.le_of_ble_eq_true rfl⟩) ⟨PM.blind, fun U hU hW => ⟨rfl, PM.at hK hE hP hS hU hW⟩⟩ rfl rfl hl.1 rfl (lv_room (Nat.le_of_ble_eq_true rfl)) dX12_costOf_136 ⟨Nat.le_of_ble_eq_true rfl, Nat.le_of_ble_eq_true rfl⟩) hS (fun q _ h => (freeM hS) q h) (freeM hS) (fun r16175 u t H1 locs ht hvm hw hB hz1 hk1 hS => ?_)
      unfold BM at hB
      rw [ht] at hB
      have hP : va_P (dC, dI) classes (wM g c v16158 F16159 rc) H1 := hB
      clear hz1
      generalize H1 = H at hP hS ⊢
      have rr_r16175 := i32_rng r16175
      have hP9 : va_P (dC, dI) classes (wM g c v16158 F16159 rc) H := hP
      exact W.iret (v := r16175) hx hb hr (fun t ht hW => ⟨⟨r16175, (v16158, F16159, rc), rfl, ⟨hI, rfl, (frC (by decide) hf16160 (fun _ _ => rfl)), hF, trivial⟩, (by show va_P _ _ _ t.heap; rw [ht]; exact hP9)⟩, hS.F ht⟩) hS.2.2 dX12_costOf_139
    · skip
      have t16176 := cv_eq (a := r16166.toInt) rfl (b := 3) (by decide) c16167
      refine lv_aload_n hx hb dX12_costOf_117 rfl (lv_at hl 3 rfl) ?_
      refine va_get (D := (dC, dI)) (ci := 12) (v := .ref (g 41)) (C := RX12) (T := TX12) (N := 63) hx hb hwd inA_X12 hown hK hP 0 rfl rfl 55 (by decide) (hwd _ wk_223) (fun _ h9 => h9) rfl dX12_costOf_118 ?_
      refine lv_iload hx hb dX12_costOf_121 (lv_at hl 2 rfl) ?_
      refine va_iald hx hb hK hP 41 40 rfl rfl (i := z16152) (vin (a := z16152.toInt) rfl (by omega)) dX12_costOf_123 ?_
      refine lv_topi (fun z16177 e16178 => ?_)
      have e16178 : z16177 = F 41 (z16152 : Int32).toNatClampNeg := e16178.trans (congrFun (hF 41 (by decide)) _)
      refine lv_goto (tgt := 134) hx hb dX12_costOf_124 (by decide) ?_
      refine lv_i2l hx hb dX12_costOf_134 rfl ?_
      refine lv_topl (fun z16179 e16180 => ?_)
      refine lv_lmul hx hb dX12_costOf_135 ?_
      refine lv_topl (fun z16181 e16182 => ?_)
      refine va_calli (va_runS (As := [.long z16181]) (rest := []) ⟨hx, hb, hml, hown, hwd⟩ (c_X12_held l dC dI g c adK adV v16158 F16159 rc H.size z16181 hg hI ) (va_cwS 1 hwd (gT wk_523 wk_521 wk_522 wk_5) rfl rfl rfl (by decide +kernel) ⟨Nat.le_of_ble_eq_true rfl, Nat.le_of_ble_eq_true rfl⟩) ⟨PM.blind, fun U hU hW => ⟨rfl, PM.at hK hE hP hS hU hW⟩⟩ rfl rfl hl.1 rfl (lv_room (Nat.le_of_ble_eq_true rfl)) dX12_costOf_136 ⟨Nat.le_of_ble_eq_true rfl, Nat.le_of_ble_eq_true rfl⟩) hS (fun q _ h => (freeM hS) q h) (freeM hS) (fun r16183 u t H1 locs ht hvm hw hB hz1 hk1 hS => ?_)
      unfold BM at hB
      rw [ht] at hB
      have hP : va_P (dC, dI) classes (wM g c v16158 F16159 rc) H1 := hB
      clear hz1
      generalize H1 = H at hP hS ⊢
      have rr_r16183 := i32_rng r16183
      have hP9 : va_P (dC, dI) classes (wM g c v16158 F16159 rc) H := hP
      exact W.iret (v := r16183) hx hb hr (fun t ht hW => ⟨⟨r16183, (v16158, F16159, rc), rfl, ⟨hI, rfl, (frC (by decide) hf16160 (fun _ _ => rfl)), hF, trivial⟩, (by show va_P _ _ _ t.heap; rw [ht]; exact hP9)⟩, hS.F ht⟩) hS.2.2 dX12_costOf_139
  · skip
    have t16184 := cv_eq (a := z16155.toInt) rfl (b := 116) (by decide) c16164
    refine lv_lload hx hb dX12_costOf_36 (lv_at hl 0 rfl) ?_
    refine lv_aload_n hx hb dX12_costOf_38 rfl (lv_at hl 3 rfl) ?_
    refine va_get (D := (dC, dI)) (ci := 12) (v := .ref (g 39)) (C := RX12) (T := TX12) (N := 63) hx hb hwd inA_X12 hown hK hP 0 rfl rfl 53 (by decide) (hwd _ wk_221) (fun _ h9 => h9) rfl dX12_costOf_39 ?_
    refine lv_iload hx hb dX12_costOf_42 (lv_at hl 2 rfl) ?_
    refine va_iald hx hb hK hP 39 38 rfl rfl (i := z16152) (vin (a := z16152.toInt) rfl (by omega)) dX12_costOf_44 ?_
    refine lv_topi (fun z16185 e16186 => ?_)
    have e16186 : z16185 = F 39 (z16152 : Int32).toNatClampNeg := e16186.trans (congrFun (hF 39 (by decide)) _)
    refine lv_i2l hx hb dX12_costOf_45 rfl ?_
    refine lv_topl (fun z16187 e16188 => ?_)
    refine W.lcmp hx hb dX12_costOf_46 ?_
    refine lv_topi (fun z16189 e16190 => ?_)
    refine lv_if_ge (tgt := 55) hx hb dX12_costOf_47 (by decide) (fun c16191 => ?_) (fun c16191 => ?_)
    · skip
      have t16192 := cv_le (a := 0) (by decide) (b := z16189.toInt) rfl c16191
      refine lv_aload_n hx hb dX12_costOf_55 rfl (lv_at hl 3 rfl) ?_
      refine va_get (D := (dC, dI)) (ci := 12) (v := .ref (g 39)) (C := RX12) (T := TX12) (N := 63) hx hb hwd inA_X12 hown hK hP 0 rfl rfl 53 (by decide) (hwd _ wk_221) (fun _ h9 => h9) rfl dX12_costOf_56 ?_
      refine lv_iload hx hb dX12_costOf_59 (lv_at hl 2 rfl) ?_
      refine va_iald hx hb hK hP 39 38 rfl rfl (i := z16152) (vin (a := z16152.toInt) rfl (by omega)) dX12_costOf_61 ?_
      refine lv_topi (fun z16193 e16194 => ?_)
      have e16194 : z16193 = F 39 (z16152 : Int32).toNatClampNeg := e16194.trans (congrFun (hF 39 (by decide)) _)
      refine lv_i2l hx hb dX12_costOf_62 rfl ?_
      refine lv_topl (fun z16195 e16196 => ?_)
      refine lv_lstore (lv' := [(9, .long z16195), (7, .long z16162), (6, .int z16155), (5, .int z16152), (0, .ref (g 0)), (1, .int p0), (2, .int p1), (3, .int p2), (4, .int p3)]) hx hb dX12_costOf_63 hl (by decide) rfl (fun ls hl => ?_)
      refine lv_lload hx hb dX12_costOf_65 (lv_at hl 0 rfl) ?_
      refine lv_aload_n hx hb dX12_costOf_67 rfl (lv_at hl 4 rfl) ?_
      refine va_get (D := (dC, dI)) (ci := 12) (v := .ref (g 36)) (C := RX12) (T := TX12) (N := 63) hx hb hwd inA_X12 hown hK hP 0 rfl rfl 50 (by decide) (hwd _ wk_218) (fun _ h9 => h9) rfl dX12_costOf_68 ?_
      refine lv_iload_n hx hb dX12_costOf_71 rfl (lv_at hl 5 rfl) ?_
      refine va_iald hx hb hK hP 36 35 rfl rfl (i := p0) (vin (a := p0.toInt) rfl (by omega)) dX12_costOf_72 ?_
      refine lv_topi (fun z16197 e16198 => ?_)
      have e16198 : z16197 = F 36 (p0 : Int32).toNatClampNeg := e16198.trans (congrFun (hF 36 (by decide)) _)
      refine lv_i2l hx hb dX12_costOf_73 rfl ?_
      refine lv_topl (fun z16199 e16200 => ?_)
      refine lv_lmul hx hb dX12_costOf_74 ?_
      refine lv_topl (fun z16201 e16202 => ?_)
      refine lv_lload hx hb dX12_costOf_75 (lv_at hl 1 rfl) ?_
      refine lv_lload hx hb dX12_costOf_77 (lv_at hl 0 rfl) ?_
      refine lv_lsub hx hb dX12_costOf_79 ?_
      refine lv_topl (fun z16203 e16204 => ?_)
      refine lv_aload_n hx hb dX12_costOf_80 rfl (lv_at hl 4 rfl) ?_
      refine va_get (D := (dC, dI)) (ci := 12) (v := .ref (g 36)) (C := RX12) (T := TX12) (N := 63) hx hb hwd inA_X12 hown hK hP 0 rfl rfl 50 (by decide) (hwd _ wk_218) (fun _ h9 => h9) rfl dX12_costOf_81 ?_
      refine lv_iload_n hx hb dX12_costOf_84 rfl (lv_at hl 5 rfl) ?_
      refine va_iald hx hb hK hP 36 35 rfl rfl (i := p0) (vin (a := p0.toInt) rfl (by omega)) dX12_costOf_85 ?_
      refine lv_topi (fun z16205 e16206 => ?_)
      have e16206 : z16205 = F 36 (p0 : Int32).toNatClampNeg := e16206.trans (congrFun (hF 36 (by decide)) _)
      refine lv_i2l hx hb dX12_costOf_86 rfl ?_
      refine lv_topl (fun z16207 e16208 => ?_)
      refine lv_aload_n hx hb dX12_costOf_87 rfl (lv_at hl 4 rfl) ?_
      refine va_get (D := (dC, dI)) (ci := 12) (v := .ref (g 40)) (C := RX12) (T := TX12) (N := 63) hx hb hwd inA_X12 hown hK hP 0 rfl rfl 54 (by decide) (hwd _ wk_222) (fun _ h9 => h9) rfl dX12_costOf_88 ?_
      refine lv_iload hx hb dX12_costOf_91 (lv_at hl 3 rfl) ?_
      refine va_iald hx hb hK hP 40 39 rfl rfl (i := z16152) (vin (a := z16152.toInt) rfl (by omega)) dX12_costOf_93 ?_
      refine lv_topi (fun z16209 e16210 => ?_)
      have e16210 : z16209 = F 40 (z16152 : Int32).toNatClampNeg := e16210.trans (congrFun (hF 40 (by decide)) _)
      refine lv_i2l hx hb dX12_costOf_94 rfl ?_
      refine lv_topl (fun z16211 e16212 => ?_)
      refine lv_lmul hx hb dX12_costOf_95 ?_
      refine lv_topl (fun z16213 e16214 => ?_)
      refine lv_ldc2 (v := 100) hx hb hown (hwd _ wk_495) dX12_costOf_96 ?_
      refine lv_ldiv hx hb dX12_costOf_99 (by decide) ?_
      refine lv_topl (fun z16215 e16216 => ?_)
      refine lv_lmul hx hb dX12_costOf_100 ?_
      refine lv_topl (fun z16217 e16218 => ?_)
      refine lv_ladd hx hb dX12_costOf_101 ?_
      refine lv_topl (fun z16219 e16220 => ?_)
      refine va_calli (va_runS (As := [.long z16219]) (rest := []) ⟨hx, hb, hml, hown, hwd⟩ (c_X12_held l dC dI g c adK adV v16158 F16159 rc H.size z16219 hg hI ) (va_cwS 1 hwd (gT wk_523 wk_521 wk_522 wk_5) rfl rfl rfl (by decide +kernel) ⟨Nat.le_of_ble_eq_true rfl, Nat.le_of_ble_eq_true rfl⟩) ⟨PM.blind, fun U hU hW => ⟨rfl, PM.at hK hE hP hS hU hW⟩⟩ rfl rfl hl.1 rfl (lv_room (Nat.le_of_ble_eq_true rfl)) dX12_costOf_102 ⟨Nat.le_of_ble_eq_true rfl, Nat.le_of_ble_eq_true rfl⟩) hS (fun q _ h => (freeM hS) q h) (freeM hS) (fun r16221 u t H1 locs ht hvm hw hB hz1 hk1 hS => ?_)
      unfold BM at hB
      rw [ht] at hB
      have hP : va_P (dC, dI) classes (wM g c v16158 F16159 rc) H1 := hB
      clear hz1
      generalize H1 = H at hP hS ⊢
      have rr_r16221 := i32_rng r16221
      have hP9 : va_P (dC, dI) classes (wM g c v16158 F16159 rc) H := hP
      exact W.iret (v := r16221) hx hb hr (fun t ht hW => ⟨⟨r16221, (v16158, F16159, rc), rfl, ⟨hI, rfl, (frC (by decide) hf16160 (fun _ _ => rfl)), hF, trivial⟩, (by show va_P _ _ _ t.heap; rw [ht]; exact hP9)⟩, hS.F ht⟩) hS.2.2 dX12_costOf_105
    · skip
      have t16222 := cv_nle (a := 0) (by decide) (b := z16189.toInt) rfl c16191
      refine lv_lload hx hb dX12_costOf_50 (lv_at hl 0 rfl) ?_
      refine lv_goto (tgt := 63) hx hb dX12_costOf_52 (by decide) ?_
      refine lv_lstore (lv' := [(9, .long z16162), (7, .long z16162), (6, .int z16155), (5, .int z16152), (0, .ref (g 0)), (1, .int p0), (2, .int p1), (3, .int p2), (4, .int p3)]) hx hb dX12_costOf_63 hl (by decide) rfl (fun ls hl => ?_)
      refine lv_lload hx hb dX12_costOf_65 (lv_at hl 0 rfl) ?_
      refine lv_aload_n hx hb dX12_costOf_67 rfl (lv_at hl 4 rfl) ?_
      refine va_get (D := (dC, dI)) (ci := 12) (v := .ref (g 36)) (C := RX12) (T := TX12) (N := 63) hx hb hwd inA_X12 hown hK hP 0 rfl rfl 50 (by decide) (hwd _ wk_218) (fun _ h9 => h9) rfl dX12_costOf_68 ?_
      refine lv_iload_n hx hb dX12_costOf_71 rfl (lv_at hl 5 rfl) ?_
      refine va_iald hx hb hK hP 36 35 rfl rfl (i := p0) (vin (a := p0.toInt) rfl (by omega)) dX12_costOf_72 ?_
      refine lv_topi (fun z16223 e16224 => ?_)
      have e16224 : z16223 = F 36 (p0 : Int32).toNatClampNeg := e16224.trans (congrFun (hF 36 (by decide)) _)
      refine lv_i2l hx hb dX12_costOf_73 rfl ?_
      refine lv_topl (fun z16225 e16226 => ?_)
      refine lv_lmul hx hb dX12_costOf_74 ?_
      refine lv_topl (fun z16227 e16228 => ?_)
      refine lv_lload hx hb dX12_costOf_75 (lv_at hl 1 rfl) ?_
      refine lv_lload hx hb dX12_costOf_77 (lv_at hl 0 rfl) ?_
      refine lv_lsub hx hb dX12_costOf_79 ?_
      refine lv_topl (fun z16229 e16230 => ?_)
      refine lv_aload_n hx hb dX12_costOf_80 rfl (lv_at hl 4 rfl) ?_
      refine va_get (D := (dC, dI)) (ci := 12) (v := .ref (g 36)) (C := RX12) (T := TX12) (N := 63) hx hb hwd inA_X12 hown hK hP 0 rfl rfl 50 (by decide) (hwd _ wk_218) (fun _ h9 => h9) rfl dX12_costOf_81 ?_
      refine lv_iload_n hx hb dX12_costOf_84 rfl (lv_at hl 5 rfl) ?_
      refine va_iald hx hb hK hP 36 35 rfl rfl (i := p0) (vin (a := p0.toInt) rfl (by omega)) dX12_costOf_85 ?_
      refine lv_topi (fun z16231 e16232 => ?_)
      have e16232 : z16231 = F 36 (p0 : Int32).toNatClampNeg := e16232.trans (congrFun (hF 36 (by decide)) _)
      refine lv_i2l hx hb dX12_costOf_86 rfl ?_
      refine lv_topl (fun z16233 e16234 => ?_)
      refine lv_aload_n hx hb dX12_costOf_87 rfl (lv_at hl 4 rfl) ?_
      refine va_get (D := (dC, dI)) (ci := 12) (v := .ref (g 40)) (C := RX12) (T := TX12) (N := 63) hx hb hwd inA_X12 hown hK hP 0 rfl rfl 54 (by decide) (hwd _ wk_222) (fun _ h9 => h9) rfl dX12_costOf_88 ?_
      refine lv_iload hx hb dX12_costOf_91 (lv_at hl 3 rfl) ?_
      refine va_iald hx hb hK hP 40 39 rfl rfl (i := z16152) (vin (a := z16152.toInt) rfl (by omega)) dX12_costOf_93 ?_
      refine lv_topi (fun z16235 e16236 => ?_)
      have e16236 : z16235 = F 40 (z16152 : Int32).toNatClampNeg := e16236.trans (congrFun (hF 40 (by decide)) _)
      refine lv_i2l hx hb dX12_costOf_94 rfl ?_
      refine lv_topl (fun z16237 e16238 => ?_)
      refine lv_lmul hx hb dX12_costOf_95 ?_
      refine lv_topl (fun z16239 e16240 => ?_)
      refine lv_ldc2 (v := 100) hx hb hown (hwd _ wk_495) dX12_costOf_96 ?_
      refine lv_ldiv hx hb dX12_costOf_99 (by decide) ?_
      refine lv_topl (fun z16241 e16242 => ?_)
      refine lv_lmul hx hb dX12_costOf_100 ?_
      refine lv_topl (fun z16243 e16244 => ?_)
      refine lv_ladd hx hb dX12_costOf_101 ?_
      refine lv_topl (fun z16245 e16246 => ?_)
      refine va_calli (va_runS (As := [.long z16245]) (rest := []) ⟨hx, hb, hml, hown, hwd⟩ (c_X12_held l dC dI g c adK adV v16158 F16159 rc H.size z16245 hg hI ) (va_cwS 1 hwd (gT wk_523 wk_521 wk_522 wk_5) rfl rfl rfl (by decide +kernel) ⟨Nat.le_of_ble_eq_true rfl, Nat.le_of_ble_eq_true rfl⟩) ⟨PM.blind, fun U hU hW => ⟨rfl, PM.at hK hE hP hS hU hW⟩⟩ rfl rfl hl.1 rfl (lv_room (Nat.le_of_ble_eq_true rfl)) dX12_costOf_102 ⟨Nat.le_of_ble_eq_true rfl, Nat.le_of_ble_eq_true rfl⟩) hS (fun q _ h => (freeM hS) q h) (freeM hS) (fun r16247 u t H1 locs ht hvm hw hB hz1 hk1 hS => ?_)
      unfold BM at hB
      rw [ht] at hB
      have hP : va_P (dC, dI) classes (wM g c v16158 F16159 rc) H1 := hB
      clear hz1
      generalize H1 = H at hP hS ⊢
      have rr_r16247 := i32_rng r16247
      have hP9 : va_P (dC, dI) classes (wM g c v16158 F16159 rc) H := hP
      exact W.iret (v := r16247) hx hb hr (fun t ht hW => ⟨⟨r16247, (v16158, F16159, rc), rfl, ⟨hI, rfl, (frC (by decide) hf16160 (fun _ _ => rfl)), hF, trivial⟩, (by show va_P _ _ _ t.heap; rw [ht]; exact hP9)⟩, hS.F ht⟩) hS.2.2 dX12_costOf_105
set_option maxHeartbeats 8000000 in
set_option maxRecDepth 100000 in
theorem c_X12_costOfAll (l : Launch) (dC : Nat → ClassId) (dI : Nat → Nat → Nat) (g : Nat → Nat) (c : Nat → ClassId) (adK adV : Nat → Nat) (v : Nat → Int32) (F : Nat → Nat → Int32) (rc sz : Nat) (p0 : Int32) (p1 : Int32) (p2 : Int32) (hg : injM g) (hI : IM v F) (h0 : 0 ≤ p0.toInt ∧ p0.toInt ≤ 9) (hL : JL (v 31) (F 28) (F 29) (F 27)) : Met l yX12_costOfAll (Cond.code yX12_costOfAll cX12_costOfAll 7 (some .int) :: wA) ({ frames := 7, cells := 0, slots := 0, locals := 280 }) (va_Pc [.ref (g 0), .int p0, .int p1, .int p2] (PM dC dI g c adK adV v F rc sz)) (va_Qi (fun (r : Int32) (u : StM) => IM u.1 u.2.1 ∧ u.2.2 = rc ∧ (∀ k, k ∉ ([] : List Nat) → u.1 k = v k) ∧ (∀ k, k ∉ ([30, 31] : List Nat) → u.2.1 k = F k) ∧ True) (BM dC dI g c) (AM g sz)) 0 0 (AM g sz) := by
  refine Met.ofW (cc := cX12_costOfAll) (maxL := 7) (ret := (some .int)) (by decide) rfl ?_
  intro p e s m args below meth c0 s₁ B hml hv
  obtain ⟨rfl, hsz, hP, hK, hE⟩ := hv
  have hx := B.exec
  have hb := B.bytes
  have hr := B.returns
  have hts := atoms_spec (ws := Cond.code yX12_costOfAll cX12_costOfAll 7 (some .int) :: wA) B.pre
  have hwd : ∀ w ∈ wA, w.before _ s = true := fun w h => hts w (List.mem_cons_of_mem _ h)
  have hown : s.vm.findClass RX12 = some m.cls := findClass_of_methodNamed B.named
  have hlocks := B.notSynchronized
  subst hsz
  have hl := lv_entry ([.ref (g 0), .int p0, .int p1, .int p2]) (n := 7) (Nat.le_of_ble_eq_true rfl)
  rw [lg_entry_eq]
  generalize (lg_sl ([.ref (g 0), .int p0, .int p1, .int p2]) ++ List.replicate (7 - (lg_sl ([.ref (g 0), .int p0, .int p1, .int p2])).length) Slot.unset).toArray = ls at hl ⊢
  have hl : lv_has ls 7 [(0, .ref (g 0)), (1, .int p0), (2, .int p1), (3, .int p2)] := hl
  obtain ⟨H, eH⟩ : ∃ z, z = s.heap := ⟨_, rfl⟩
  have hP : va_P (dC, dI) classes (wM g c v F rc) H := by rw [eH]; exact hP
  have hS : va_S (AM g s.heap.size) s.heap H [] := by rw [eH]; exact va_S.rf
  refine my_heap eH ?_
  have hF : ∀ k, k ∉ ([30, 31] : List Nat) → F k = F k := fun _ _ => rfl
  have rp0 := i32_rng p0
  have rp1 := i32_rng p1
  have rp2 := i32_rng p2
  have hb31 : 0 ≤ (v 31).toInt ∧ (v 31).toInt ≤ 10 := hI.1 31 _ _ rfl
  refine lv_lconst (v := 0) hx hb dX12_costOfAll_0 (by decide) ?_
  refine lv_lstore (lv' := [(4, .long 0), (0, .ref (g 0)), (1, .int p0), (2, .int p1), (3, .int p2)]) hx hb dX12_costOfAll_1 hl (by decide) rfl (fun ls hl => ?_)
  refine lv_iconst (v := 0) hx hb dX12_costOfAll_3 (by decide) ?_
  refine lv_istore (lv' := [(6, .int 0), (4, .long 0), (0, .ref (g 0)), (1, .int p0), (2, .int p1), (3, .int p2)]) hx hb dX12_costOfAll_4 hl (by decide) rfl (fun ls hl => ?_)
  have lp16269 : ∀ (n : Nat) (x6_lp16269 : Int32) (x4_lp16269 : Int64) (v_lp16269 : Nat → Int32) (F_lp16269 : Nat → Nat → Int32) (H : Heap) (locs : List Loc) (ls : Array Slot), (0 ≤ x6_lp16269.toInt) → (2147483648 - x6_lp16269.toInt ≤ (n : Int)) → (∀ k, k ∉ ([] : List Nat) → v_lp16269 k = v k) → IM v_lp16269 F_lp16269 → (∀ k, k ∉ ([30, 31] : List Nat) → F_lp16269 k = F k) → va_P (dC, dI) classes (wM g c v_lp16269 F_lp16269 rc) H → va_S (AM g s.heap.size) s.heap H locs → lv_has ls 7 [(6, .int x6_lp16269), (4, .long x4_lp16269), (0, .ref (g 0)), (1, .int p0), (2, .int p1), (3, .int p2)] → W p l e (headSpec (Cond.code yX12_costOfAll cX12_costOfAll 7 (some .int) :: wA) ({ frames := 7, cells := 0, slots := 0, locals := 280 })).room s m ([.ref (g 0), .int p0, .int p1, .int p2] : List Value).toArray below meth c0 H locs 0 0 (MQ below (va_Qi (fun (r : Int32) (u : StM) => IM u.1 u.2.1 ∧ u.2.2 = rc ∧ (∀ k, k ∉ ([] : List Nat) → u.1 k = v k) ∧ (∀ k, k ∉ ([30, 31] : List Nat) → u.2.1 k = F k) ∧ True) (BM dC dI g c) (AM g s.heap.size)) ([.ref (g 0), .int p0, .int p1, .int p2] : List Value).toArray s 0 0 (AM g s.heap.size)) (F0 m 6 ls []) := by
    intro n
    induction n with
    | zero =>
      intro x6_lp16269 x4_lp16269 v_lp16269 F_lp16269 H locs ls t16270 hm hf_lp16269 hI hF hP hS hl
      exfalso
      have := i32_rng x6_lp16269
      have hI1 := hI.1
      omega
    | succ n ih_lp16269 =>
      intro x6_lp16269 x4_lp16269 v_lp16269 F_lp16269 H locs ls t16270 hm hf_lp16269 hI hF hP hS hl
      have rx6_lp16269 := i32_rng x6_lp16269
      refine lv_iload hx hb dX12_costOfAll_6 (lv_at hl 0 rfl) ?_
      refine lv_aload_n hx hb dX12_costOfAll_8 rfl (lv_at hl 2 rfl) ?_
      refine va_get (D := (dC, dI)) (ci := 12) (v := .ref (g 37)) (C := RX12) (T := TX12) (N := 63) hx hb hwd inA_X12 hown hK hP 0 rfl rfl 51 (by decide) (hwd _ wk_219) (fun _ h9 => h9) rfl dX12_costOfAll_9 ?_
      refine lv_iload_n hx hb dX12_costOfAll_12 rfl (lv_at hl 3 rfl) ?_
      refine va_iald hx hb hK hP 37 36 rfl rfl (i := p0) (vin (a := p0.toInt) rfl (by omega)) dX12_costOfAll_13 ?_
      refine lv_topi (fun z16271 e16272 => ?_)
      have t16273 : 0 ≤ z16271.toInt ∧ z16271.toInt ≤ 31 := by rw [e16272]; exact hI.2 37 _ _ rfl _
      have e16272 : z16271 = F 37 (p0 : Int32).toNatClampNeg := e16272.trans (congrFun (hF 37 (by decide)) _)
      refine lv_icmp_ge (tgt := 38) hx hb dX12_costOfAll_14 (by decide) (fun c16274 => ?_) (fun c16274 => ?_)
      · skip
        have t16275 := cv_le (a := z16271.toInt) rfl (b := x6_lp16269.toInt) rfl c16274
        refine lv_lload hx hb dX12_costOfAll_38 (lv_at hl 1 rfl) ?_
        refine va_calli (va_runS (As := [.long x4_lp16269]) (rest := []) ⟨hx, hb, hml, hown, hwd⟩ (c_X12_held l dC dI g c adK adV v_lp16269 F_lp16269 rc H.size x4_lp16269 hg hI ) (va_cwS 1 hwd (gT wk_523 wk_521 wk_522 wk_5) rfl rfl rfl (by decide +kernel) ⟨Nat.le_of_ble_eq_true rfl, Nat.le_of_ble_eq_true rfl⟩) ⟨PM.blind, fun U hU hW => ⟨rfl, PM.at hK hE hP hS hU hW⟩⟩ rfl rfl hl.1 rfl (lv_room (Nat.le_of_ble_eq_true rfl)) dX12_costOfAll_40 ⟨Nat.le_of_ble_eq_true rfl, Nat.le_of_ble_eq_true rfl⟩) hS (fun q _ h => (freeM hS) q h) (freeM hS) (fun r16276 u t H1 locs ht hvm hw hB hz1 hk1 hS => ?_)
        unfold BM at hB
        rw [ht] at hB
        have hP : va_P (dC, dI) classes (wM g c v_lp16269 F_lp16269 rc) H1 := hB
        clear hz1
        generalize H1 = H at hP hS ⊢
        have rr_r16276 := i32_rng r16276
        have hP9 : va_P (dC, dI) classes (wM g c v_lp16269 F_lp16269 rc) H := hP
        exact W.iret (v := r16276) hx hb hr (fun t ht hW => ⟨⟨r16276, (v_lp16269, F_lp16269, rc), rfl, ⟨hI, rfl, (frC (by decide) hf_lp16269 (fun _ _ => rfl)), hF, trivial⟩, (by show va_P _ _ _ t.heap; rw [ht]; exact hP9)⟩, hS.F ht⟩) hS.2.2 dX12_costOfAll_43
      · skip
        have t16277 := cv_nle (a := z16271.toInt) rfl (b := x6_lp16269.toInt) rfl c16274
        refine lv_lload hx hb dX12_costOfAll_17 (lv_at hl 1 rfl) ?_
        refine lv_aload_n hx hb dX12_costOfAll_19 rfl (lv_at hl 2 rfl) ?_
        refine lv_iload_n hx hb dX12_costOfAll_20 rfl (lv_at hl 3 rfl) ?_
        refine lv_iload hx hb dX12_costOfAll_21 (lv_at hl 0 rfl) ?_
        refine lv_iload_n hx hb dX12_costOfAll_23 rfl (lv_at hl 4 rfl) ?_
        refine lv_iload_n hx hb dX12_costOfAll_24 rfl (lv_at hl 5 rfl) ?_
        refine va_calli (va_runV (As := [.int p0, .int x6_lp16269, .int p1, .int p2]) (rest := [.long x4_lp16269]) ⟨hx, hb, hml, hown, hwd⟩ (c_X12_costOf l dC dI g c adK adV v_lp16269 F_lp16269 rc H.size p0 x6_lp16269 p1 p2 hg hI (by omega) (by omega) (JL.to hL (show v_lp16269 31 = v 31 from hf_lp16269 31 (by decide)) (hF 28 (by decide)) (hF 29 (by decide)) (hF 27 (by decide)))) (cwV 4 hwd (gV wk_1251 wk_1248 wk_1249 wk_1250 wk_5) rfl rfl rfl (by decide +kernel) ⟨Nat.le_of_ble_eq_true rfl, Nat.le_of_ble_eq_true rfl⟩) ⟨PM.blind, va_recv hK hP (ci := 12) (q0 := 0) rfl rfl, fun U hU hW => ⟨rfl, PM.at hK hE hP hS hU hW⟩⟩ rfl rfl hl.1 rfl (lv_room (Nat.le_of_ble_eq_true rfl)) dX12_costOfAll_25 ⟨Nat.le_of_ble_eq_true rfl, Nat.le_of_ble_eq_true rfl⟩) hS (fun q _ h => (freeM hS) q h) (freeM hS) (fun r16278 u t H1 locs ht hvm hw hB hz1 hk1 hS => ?_)
        unfold BM at hB
        rw [ht] at hB
        obtain ⟨v16279, F16280, rc9⟩ := u
        obtain ⟨hI, hrc, hf16281, hG16282, hw⟩ := hw
        dsimp only at hI hrc hB hf16281 hG16282 hw
        have hF := frCF (by decide) hG16282 hF
        rw [hrc] at hB
        have hP : va_P (dC, dI) classes (wM g c v16279 F16280 rc) H1 := hB
        clear hz1
        generalize H1 = H at hP hS ⊢
        have rr_r16278 := i32_rng r16278
        refine lv_i2l hx hb dX12_costOfAll_28 rfl ?_
        refine lv_topl (fun z16283 e16284 => ?_)
        refine lv_ladd hx hb dX12_costOfAll_29 ?_
        refine lv_topl (fun z16285 e16286 => ?_)
        refine lv_lstore (lv' := [(4, .long z16285), (6, .int x6_lp16269), (0, .ref (g 0)), (1, .int p0), (2, .int p1), (3, .int p2)]) hx hb dX12_costOfAll_30 hl (by decide) rfl (fun ls hl => ?_)
        obtain ⟨z16287, e16288⟩ : ∃ y : Int32, y = x6_lp16269 + 1 := ⟨_, rfl⟩
        try (have t16289 := tadd e16288 rfl (b := 1) (by decide) (by omega))
        refine lv_iinc (v := z16287) (lv' := [(6, .int z16287), (4, .long z16285), (0, .ref (g 0)), (1, .int p0), (2, .int p1), (3, .int p2)]) hx hb dX12_costOfAll_32 hl (k := 1) rfl (by rw [e16288]; rfl) (by decide) rfl (fun ls hl => ?_)
        refine lv_goto (tgt := 6) hx hb dX12_costOfAll_35 (by decide) ?_
        exact ih_lp16269 z16287 z16285 v16279 F16280 _ _ _ (by omega) (by omega) (frC (by decide) hf16281 hf_lp16269) hI hF hP hS (lv_sub hl [0, 1, 2, 3, 4, 5] rfl)
  obtain ⟨n9, hn9⟩ : ∃ n : Nat, 2147483648 - 0 ≤ (n : Int) := ⟨((2147483648 - 0 : Int)).toNat, by omega⟩
  exact lp16269 n9 0 0 v F H _ ls (by have : (0 : Int32).toInt = 0 := (by decide); omega) (by have : (0 : Int32).toInt = 0 := (by decide); omega) (fun _ _ => rfl) hI hF hP hS hl
set_option maxHeartbeats 8000000 in
set_option maxRecDepth 100000 in
theorem c_X12_lacks (l : Launch) (dC : Nat → ClassId) (dI : Nat → Nat → Nat) (g : Nat → Nat) (c : Nat → ClassId) (adK adV : Nat → Nat) (v : Nat → Int32) (F : Nat → Nat → Int32) (rc sz : Nat) (p0 : Int32) (p1 : Int32) (p2 : Int32) (p3 : Int32) (hg : injM g) (hI : IM v F) (hL : JL (v 31) (F 28) (F 29) (F 27)) : Met l yX12_lacks (Cond.code yX12_lacks cX12_lacks 5 (some .int) :: wA) ({ frames := 6, cells := 0, slots := 0, locals := 240 }) (va_Pc [.ref (g 0), .int p0, .int p1, .int p2, .int p3] (PM dC dI g c adK adV v F rc sz)) (va_Qi (fun (r : Int32) (u : StM) => IM u.1 u.2.1 ∧ u.2.2 = rc ∧ (∀ k, k ∉ ([] : List Nat) → u.1 k = v k) ∧ (∀ k, k ∉ ([30, 31, 42] : List Nat) → u.2.1 k = F k) ∧ True) (BM dC dI g c) (AM g sz)) 0 0 (AM g sz) := by
  refine Met.ofW (cc := cX12_lacks) (maxL := 5) (ret := (some .int)) (by decide) rfl ?_
  intro p e s m args below meth c0 s₁ B hml hv
  obtain ⟨rfl, hsz, hP, hK, hE⟩ := hv
  have hx := B.exec
  have hb := B.bytes
  have hr := B.returns
  have hts := atoms_spec (ws := Cond.code yX12_lacks cX12_lacks 5 (some .int) :: wA) B.pre
  have hwd : ∀ w ∈ wA, w.before _ s = true := fun w h => hts w (List.mem_cons_of_mem _ h)
  have hown : s.vm.findClass RX12 = some m.cls := findClass_of_methodNamed B.named
  have hlocks := B.notSynchronized
  subst hsz
  have hl := lv_entry ([.ref (g 0), .int p0, .int p1, .int p2, .int p3]) (n := 5) (Nat.le_of_ble_eq_true rfl)
  rw [lg_entry_eq]
  generalize (lg_sl ([.ref (g 0), .int p0, .int p1, .int p2, .int p3]) ++ List.replicate (5 - (lg_sl ([.ref (g 0), .int p0, .int p1, .int p2, .int p3])).length) Slot.unset).toArray = ls at hl ⊢
  have hl : lv_has ls 5 [(0, .ref (g 0)), (1, .int p0), (2, .int p1), (3, .int p2), (4, .int p3)] := hl
  obtain ⟨H, eH⟩ : ∃ z, z = s.heap := ⟨_, rfl⟩
  have hP : va_P (dC, dI) classes (wM g c v F rc) H := by rw [eH]; exact hP
  have hS : va_S (AM g s.heap.size) s.heap H [] := by rw [eH]; exact va_S.rf
  refine my_heap eH ?_
  have hF : ∀ k, k ∉ ([30, 31, 42] : List Nat) → F k = F k := fun _ _ => rfl
  have rp0 := i32_rng p0
  have rp1 := i32_rng p1
  have rp2 := i32_rng p2
  have rp3 := i32_rng p3
  have hb31 : 0 ≤ (v 31).toInt ∧ (v 31).toInt ≤ 10 := hI.1 31 _ _ rfl
  refine lv_aload_n hx hb dX12_lacks_0 rfl (lv_at hl 0 rfl) ?_
  refine lv_iload_n hx hb dX12_lacks_1 rfl (lv_at hl 1 rfl) ?_
  have t16329 : 0 ≤ (v 6).toInt ∧ (v 6).toInt ≤ 10 := hI.1 6 _ _ rfl
  refine va_calli (va_runV (As := [.int p0]) (rest := []) ⟨hx, hb, hml, hown, hwd⟩ (c_X12_isPlane l dC dI g c adK adV v F rc H.size p0 hg hI ) (cwV 1 hwd (gV wk_305 wk_302 wk_303 wk_304 wk_5) rfl rfl rfl (by decide +kernel) ⟨Nat.le_of_ble_eq_true rfl, Nat.le_of_ble_eq_true rfl⟩) ⟨PM.blind, va_recv hK hP (ci := 12) (q0 := 0) rfl rfl, fun U hU hW => ⟨rfl, PM.at hK hE hP hS hU hW⟩⟩ rfl rfl hl.1 rfl (lv_room (Nat.le_of_ble_eq_true rfl)) dX12_lacks_2 ⟨Nat.le_of_ble_eq_true rfl, Nat.le_of_ble_eq_true rfl⟩) hS (fun q _ h => (freeM hS) q h) (freeM hS) (fun r16330 u t H1 locs ht hvm hw hB hz1 hk1 hS => ?_)
  unfold BM at hB
  rw [ht] at hB
  have hP : va_P (dC, dI) classes (wM g c v F rc) H1 := hB
  replace hw : (r16330.toInt = 1 ∧ 0 ≤ p0.toInt ∧ p0.toInt < (v 6).toInt) ∨ (r16330.toInt = 0 ∧ (p0.toInt < 0 ∨ (v 6).toInt ≤ p0.toInt)) := hw
  have hw_r16330 := hw
  clear hw
  clear hz1
  generalize H1 = H at hP hS ⊢
  refine lv_if_eq (tgt := 47) hx hb dX12_lacks_5 (by decide) (fun c16331 => ?_) (fun c16331 => ?_)
  · skip
    have t16332 := cv_eq (a := r16330.toInt) rfl (b := 0) (by decide) c16331
    refine lv_iconst (v := (-1)) hx hb dX12_lacks_47 (by decide) ?_
    have hP9 : va_P (dC, dI) classes (wM g c v F rc) H := hP
    exact W.iret (v := (-1)) hx hb hr (fun t ht hW => ⟨⟨(-1), (v, F, rc), rfl, ⟨hI, rfl, (fun _ _ => rfl), hF, trivial⟩, (by show va_P _ _ _ t.heap; rw [ht]; exact hP9)⟩, hS.F ht⟩) hS.2.2 dX12_lacks_48
  · skip
    have t16333 := cv_ne (a := r16330.toInt) rfl (b := 0) (by decide) c16331
    refine lv_aload_n hx hb dX12_lacks_8 rfl (lv_at hl 0 rfl) ?_
    refine lv_iload_n hx hb dX12_lacks_9 rfl (lv_at hl 1 rfl) ?_
    refine va_calli (va_runV (As := [.int p0]) (rest := []) ⟨hx, hb, hml, hown, hwd⟩ (c_X12_hasContract l dC dI g c adK adV v F rc H.size p0 hg hI (by omega)) (cwV 1 hwd (gV wk_1201 wk_1198 wk_1199 wk_1200 wk_5) rfl rfl rfl (by decide +kernel) ⟨Nat.le_of_ble_eq_true rfl, Nat.le_of_ble_eq_true rfl⟩) ⟨PM.blind, va_recv hK hP (ci := 12) (q0 := 0) rfl rfl, fun U hU hW => ⟨rfl, PM.at hK hE hP hS hU hW⟩⟩ rfl rfl hl.1 rfl (lv_room (Nat.le_of_ble_eq_true rfl)) dX12_lacks_10 ⟨Nat.le_of_ble_eq_true rfl, Nat.le_of_ble_eq_true rfl⟩) hS (fun q _ h => (freeM hS) q h) (freeM hS) (fun r16334 u t H1 locs ht hvm hw hB hz1 hk1 hS => ?_)
    unfold BM at hB
    rw [ht] at hB
    have hP : va_P (dC, dI) classes (wM g c v F rc) H1 := hB
    have hw_r16334 : 0 ≤ r16334.toInt ∧ r16334.toInt ≤ 1 := hw
    clear hw
    clear hz1
    generalize H1 = H at hP hS ⊢
    refine lv_if_eq (tgt := 47) hx hb dX12_lacks_13 (by decide) (fun c16335 => ?_) (fun c16335 => ?_)
    · skip
      have t16336 := cv_eq (a := r16334.toInt) rfl (b := 0) (by decide) c16335
      refine lv_iconst (v := (-1)) hx hb dX12_lacks_47 (by decide) ?_
      have hP9 : va_P (dC, dI) classes (wM g c v F rc) H := hP
      exact W.iret (v := (-1)) hx hb hr (fun t ht hW => ⟨⟨(-1), (v, F, rc), rfl, ⟨hI, rfl, (fun _ _ => rfl), hF, trivial⟩, (by show va_P _ _ _ t.heap; rw [ht]; exact hP9)⟩, hS.F ht⟩) hS.2.2 dX12_lacks_48
    · skip
      have t16337 := cv_ne (a := r16334.toInt) rfl (b := 0) (by decide) c16335
      refine lv_iload_n hx hb dX12_lacks_16 rfl (lv_at hl 2 rfl) ?_
      refine lv_iconst (v := 0) hx hb dX12_lacks_17 (by decide) ?_
      refine lv_aload_n hx hb dX12_lacks_18 rfl (lv_at hl 0 rfl) ?_
      refine va_get (D := (dC, dI)) (ci := 12) (v := .ref (g 37)) (C := RX12) (T := TX12) (N := 63) hx hb hwd inA_X12 hown hK hP 0 rfl rfl 51 (by decide) (hwd _ wk_219) (fun _ h9 => h9) rfl dX12_lacks_19 ?_
      refine lv_iload_n hx hb dX12_lacks_22 rfl (lv_at hl 1 rfl) ?_
      refine va_iald hx hb hK hP 37 36 rfl rfl (i := p0) (vin (a := p0.toInt) rfl (by omega)) dX12_lacks_23 ?_
      refine lv_topi (fun z16338 e16339 => ?_)
      have t16340 : 0 ≤ z16338.toInt ∧ z16338.toInt ≤ 31 := by rw [e16339]; exact hI.2 37 _ _ rfl _
      refine lv_iconst (v := 1) hx hb dX12_lacks_24 (by decide) ?_
      refine lv_isub hx hb dX12_lacks_25 ?_
      refine lv_topi (fun z16341 e16342 => ?_)
      try (have t16343 := tsub e16342 (a := z16338.toInt) rfl (b := 1) (by decide) (by omega))
      refine va_calli (va_runS (As := [.int p1, .int 0, .int z16341]) (rest := []) ⟨hx, hb, hml, hown, hwd⟩ (c_X12_in l dC dI g c adK adV v F rc H.size p1 0 z16341 hg hI ) (va_cwS 3 hwd (gT wk_254 wk_252 wk_253 wk_5) rfl rfl rfl (by decide +kernel) ⟨Nat.le_of_ble_eq_true rfl, Nat.le_of_ble_eq_true rfl⟩) ⟨PM.blind, fun U hU hW => ⟨rfl, PM.at hK hE hP hS hU hW⟩⟩ rfl rfl hl.1 rfl (lv_room (Nat.le_of_ble_eq_true rfl)) dX12_lacks_26 ⟨Nat.le_of_ble_eq_true rfl, Nat.le_of_ble_eq_true rfl⟩) hS (fun q _ h => (freeM hS) q h) (freeM hS) (fun r16344 u t H1 locs ht hvm hw hB hz1 hk1 hS => ?_)
      unfold BM at hB
      rw [ht] at hB
      have hP : va_P (dC, dI) classes (wM g c v F rc) H1 := hB
      have hw_r16344 : (r16344.toInt = 1 ∧ (0 : Int32).toInt ≤ p1.toInt ∧ p1.toInt ≤ z16341.toInt) ∨ (r16344.toInt = 0 ∧ (p1.toInt < (0 : Int32).toInt ∨ z16341.toInt < p1.toInt)) := hw
      clear hw
      have k16345 : (0 : Int32).toInt = 0 := by decide
      clear hz1
      generalize H1 = H at hP hS ⊢
      refine lv_if_eq (tgt := 47) hx hb dX12_lacks_29 (by decide) (fun c16346 => ?_) (fun c16346 => ?_)
      · skip
        have t16347 := cv_eq (a := r16344.toInt) rfl (b := 0) (by decide) c16346
        refine lv_iconst (v := (-1)) hx hb dX12_lacks_47 (by decide) ?_
        have hP9 : va_P (dC, dI) classes (wM g c v F rc) H := hP
        exact W.iret (v := (-1)) hx hb hr (fun t ht hW => ⟨⟨(-1), (v, F, rc), rfl, ⟨hI, rfl, (fun _ _ => rfl), hF, trivial⟩, (by show va_P _ _ _ t.heap; rw [ht]; exact hP9)⟩, hS.F ht⟩) hS.2.2 dX12_lacks_48
      · skip
        have t16348 := cv_ne (a := r16344.toInt) rfl (b := 0) (by decide) c16346
        refine lv_iload_n hx hb dX12_lacks_32 rfl (lv_at hl 3 rfl) ?_
        refine va_calli (va_runS (As := [.int p2]) (rest := []) ⟨hx, hb, hml, hown, hwd⟩ (c_X12_isDay l dC dI g c adK adV v F rc H.size p2 hg hI ) (va_cwS 1 hwd (gT wk_556 wk_554 wk_555 wk_5) rfl rfl rfl (by decide +kernel) ⟨Nat.le_of_ble_eq_true rfl, Nat.le_of_ble_eq_true rfl⟩) ⟨PM.blind, fun U hU hW => ⟨rfl, PM.at hK hE hP hS hU hW⟩⟩ rfl rfl hl.1 rfl (lv_room (Nat.le_of_ble_eq_true rfl)) dX12_lacks_33 ⟨Nat.le_of_ble_eq_true rfl, Nat.le_of_ble_eq_true rfl⟩) hS (fun q _ h => (freeM hS) q h) (freeM hS) (fun r16349 u t H1 locs ht hvm hw hB hz1 hk1 hS => ?_)
        unfold BM at hB
        rw [ht] at hB
        have hP : va_P (dC, dI) classes (wM g c v F rc) H1 := hB
        have hw_r16349 : (r16349.toInt = 1 ∧ 0 ≤ p2.toInt ∧ p2.toInt ≤ 9999) ∨ (r16349.toInt = 0 ∧ (p2.toInt < 0 ∨ 9999 < p2.toInt)) := hw
        clear hw
        clear hz1
        generalize H1 = H at hP hS ⊢
        refine lv_if_eq (tgt := 47) hx hb dX12_lacks_36 (by decide) (fun c16350 => ?_) (fun c16350 => ?_)
        · skip
          have t16351 := cv_eq (a := r16349.toInt) rfl (b := 0) (by decide) c16350
          refine lv_iconst (v := (-1)) hx hb dX12_lacks_47 (by decide) ?_
          have hP9 : va_P (dC, dI) classes (wM g c v F rc) H := hP
          exact W.iret (v := (-1)) hx hb hr (fun t ht hW => ⟨⟨(-1), (v, F, rc), rfl, ⟨hI, rfl, (fun _ _ => rfl), hF, trivial⟩, (by show va_P _ _ _ t.heap; rw [ht]; exact hP9)⟩, hS.F ht⟩) hS.2.2 dX12_lacks_48
        · skip
          have t16352 := cv_ne (a := r16349.toInt) rfl (b := 0) (by decide) c16350
          refine lv_iload hx hb dX12_lacks_39 (lv_at hl 4 rfl) ?_
          refine va_calli (va_runS (As := [.int p3]) (rest := []) ⟨hx, hb, hml, hown, hwd⟩ (c_X12_isDay l dC dI g c adK adV v F rc H.size p3 hg hI ) (va_cwS 1 hwd (gT wk_556 wk_554 wk_555 wk_5) rfl rfl rfl (by decide +kernel) ⟨Nat.le_of_ble_eq_true rfl, Nat.le_of_ble_eq_true rfl⟩) ⟨PM.blind, fun U hU hW => ⟨rfl, PM.at hK hE hP hS hU hW⟩⟩ rfl rfl hl.1 rfl (lv_room (Nat.le_of_ble_eq_true rfl)) dX12_lacks_41 ⟨Nat.le_of_ble_eq_true rfl, Nat.le_of_ble_eq_true rfl⟩) hS (fun q _ h => (freeM hS) q h) (freeM hS) (fun r16353 u t H1 locs ht hvm hw hB hz1 hk1 hS => ?_)
          unfold BM at hB
          rw [ht] at hB
          have hP : va_P (dC, dI) classes (wM g c v F rc) H1 := hB
          have hw_r16353 : (r16353.toInt = 1 ∧ 0 ≤ p3.toInt ∧ p3.toInt ≤ 9999) ∨ (r16353.toInt = 0 ∧ (p3.toInt < 0 ∨ 9999 < p3.toInt)) := hw
          clear hw
          clear hz1
          generalize H1 = H at hP hS ⊢
          refine lv_if_ne (tgt := 49) hx hb dX12_lacks_44 (by decide) (fun c16354 => ?_) (fun c16354 => ?_)
          · skip
            have t16355 := cv_ne (a := r16353.toInt) rfl (b := 0) (by decide) c16354
            refine lv_aload_n hx hb dX12_lacks_49 rfl (lv_at hl 0 rfl) ?_
            refine lv_iload_n hx hb dX12_lacks_50 rfl (lv_at hl 1 rfl) ?_
            have t16356 : 0 ≤ (v 14).toInt ∧ (v 14).toInt ≤ 100 := hI.1 14 _ _ rfl
            refine va_callv (va_runV (As := [.int p0]) (rest := []) ⟨hx, hb, hml, hown, hwd⟩ (c_X12_board l dC dI g c adK adV v F rc H.size p0 hg hI ) (cwV 1 hwd (gV wk_1205 wk_1202 wk_1203 wk_1204 wk_5) rfl rfl rfl (by decide +kernel) ⟨Nat.le_of_ble_eq_true rfl, Nat.le_of_ble_eq_true rfl⟩) ⟨PM.blind, va_recv hK hP (ci := 12) (q0 := 0) rfl rfl, fun U hU hW => ⟨rfl, PM.at hK hE hP hS hU hW⟩⟩ rfl rfl hl.1 rfl (lv_room (Nat.le_of_ble_eq_true rfl)) dX12_lacks_51 ⟨Nat.le_of_ble_eq_true rfl, Nat.le_of_ble_eq_true rfl⟩) hS (fun q _ h => (freeM hS) q h) (freeM hS) (fun u t H1 locs ht hvm hw hB hz1 hk1 hS => ?_)
            unfold BM at hB
            rw [ht] at hB
            obtain ⟨v16358, F16359, rc9⟩ := u
            obtain ⟨hI, hrc, hf16360, hG16361, hw⟩ := hw
            dsimp only at hI hrc hB hf16360 hG16361 hw
            have hF := frCF (by decide) hG16361 hF
            rw [hrc] at hB
            have hP : va_P (dC, dI) classes (wM g c v16358 F16359 rc) H1 := hB
            replace hw : ∀ j : Nat, (j : Int) < (v 14).toInt → (F16359 42 j).toInt ≠ 0 → (F 13 j).toInt = p0.toInt := hw
            have hw_r16357 := hw
            clear hw
            clear hz1
            generalize H1 = H at hP hS ⊢
            refine lv_aload_n hx hb dX12_lacks_54 rfl (lv_at hl 0 rfl) ?_
            refine lv_iload_n hx hb dX12_lacks_55 rfl (lv_at hl 1 rfl) ?_
            refine lv_iload_n hx hb dX12_lacks_56 rfl (lv_at hl 2 rfl) ?_
            refine lv_iload_n hx hb dX12_lacks_57 rfl (lv_at hl 3 rfl) ?_
            refine lv_iload hx hb dX12_lacks_58 (lv_at hl 4 rfl) ?_
            refine va_calli (va_runV (As := [.int p0, .int p1, .int p2, .int p3]) (rest := []) ⟨hx, hb, hml, hown, hwd⟩ (c_X12_lacksOf l dC dI g c adK adV v16358 F16359 rc H.size p0 p1 p2 p3 hg hI (by omega) (by omega) (JL.to hL (show v16358 31 = v 31 from hf16360 31 (by decide)) (hF 28 (by decide)) (hF 29 (by decide)) (hF 27 (by decide)))) (cwV 4 hwd (gV wk_1209 wk_1206 wk_1207 wk_1208 wk_5) rfl rfl rfl (by decide +kernel) ⟨Nat.le_of_ble_eq_true rfl, Nat.le_of_ble_eq_true rfl⟩) ⟨PM.blind, va_recv hK hP (ci := 12) (q0 := 0) rfl rfl, fun U hU hW => ⟨rfl, PM.at hK hE hP hS hU hW⟩⟩ rfl rfl hl.1 rfl (lv_room (Nat.le_of_ble_eq_true rfl)) dX12_lacks_60 ⟨Nat.le_of_ble_eq_true rfl, Nat.le_of_ble_eq_true rfl⟩) hS (fun q _ h => (freeM hS) q h) (freeM hS) (fun r16362 u t H1 locs ht hvm hw hB hz1 hk1 hS => ?_)
            unfold BM at hB
            rw [ht] at hB
            obtain ⟨v16363, F16364, rc9⟩ := u
            obtain ⟨hI, hrc, hf16365, hG16366, hw⟩ := hw
            dsimp only at hI hrc hB hf16365 hG16366 hw
            have hF := frCF (by decide) hG16366 hF
            rw [hrc] at hB
            have hP : va_P (dC, dI) classes (wM g c v16363 F16364 rc) H1 := hB
            clear hz1
            generalize H1 = H at hP hS ⊢
            have rr_r16362 := i32_rng r16362
            have hP9 : va_P (dC, dI) classes (wM g c v16363 F16364 rc) H := hP
            exact W.iret (v := r16362) hx hb hr (fun t ht hW => ⟨⟨r16362, (v16363, F16364, rc), rfl, ⟨hI, rfl, (frC (by decide) hf16365 (frC (by decide) hf16360 (fun _ _ => rfl))), hF, trivial⟩, (by show va_P _ _ _ t.heap; rw [ht]; exact hP9)⟩, hS.F ht⟩) hS.2.2 dX12_lacks_63
          · skip
            have t16367 := cv_eq (a := r16353.toInt) rfl (b := 0) (by decide) c16354
            refine lv_iconst (v := (-1)) hx hb dX12_lacks_47 (by decide) ?_
            have hP9 : va_P (dC, dI) classes (wM g c v F rc) H := hP
            exact W.iret (v := (-1)) hx hb hr (fun t ht hW => ⟨⟨(-1), (v, F, rc), rfl, ⟨hI, rfl, (fun _ _ => rfl), hF, trivial⟩, (by show va_P _ _ _ t.heap; rw [ht]; exact hP9)⟩, hS.F ht⟩) hS.2.2 dX12_lacks_48
set_option maxHeartbeats 8000000 in
set_option maxRecDepth 100000 in
theorem c_X12_costs (l : Launch) (dC : Nat → ClassId) (dI : Nat → Nat → Nat) (g : Nat → Nat) (c : Nat → ClassId) (adK adV : Nat → Nat) (v : Nat → Int32) (F : Nat → Nat → Int32) (rc sz : Nat) (p0 : Int32) (p1 : Int32) (p2 : Int32) (p3 : Int32) (hg : injM g) (hI : IM v F) (hL : JL (v 31) (F 28) (F 29) (F 27)) : Met l yX12_costs (Cond.code yX12_costs cX12_costs 5 (some .int) :: wA) ({ frames := 8, cells := 0, slots := 0, locals := 320 }) (va_Pc [.ref (g 0), .int p0, .int p1, .int p2, .int p3] (PM dC dI g c adK adV v F rc sz)) (va_Qi (fun (r : Int32) (u : StM) => IM u.1 u.2.1 ∧ u.2.2 = rc ∧ (∀ k, k ∉ ([] : List Nat) → u.1 k = v k) ∧ (∀ k, k ∉ ([30, 31, 42] : List Nat) → u.2.1 k = F k) ∧ True) (BM dC dI g c) (AM g sz)) 0 0 (AM g sz) := by
  refine Met.ofW (cc := cX12_costs) (maxL := 5) (ret := (some .int)) (by decide) rfl ?_
  intro p e s m args below meth c0 s₁ B hml hv
  obtain ⟨rfl, hsz, hP, hK, hE⟩ := hv
  have hx := B.exec
  have hb := B.bytes
  have hr := B.returns
  have hts := atoms_spec (ws := Cond.code yX12_costs cX12_costs 5 (some .int) :: wA) B.pre
  have hwd : ∀ w ∈ wA, w.before _ s = true := fun w h => hts w (List.mem_cons_of_mem _ h)
  have hown : s.vm.findClass RX12 = some m.cls := findClass_of_methodNamed B.named
  have hlocks := B.notSynchronized
  subst hsz
  have hl := lv_entry ([.ref (g 0), .int p0, .int p1, .int p2, .int p3]) (n := 5) (Nat.le_of_ble_eq_true rfl)
  rw [lg_entry_eq]
  generalize (lg_sl ([.ref (g 0), .int p0, .int p1, .int p2, .int p3]) ++ List.replicate (5 - (lg_sl ([.ref (g 0), .int p0, .int p1, .int p2, .int p3])).length) Slot.unset).toArray = ls at hl ⊢
  have hl : lv_has ls 5 [(0, .ref (g 0)), (1, .int p0), (2, .int p1), (3, .int p2), (4, .int p3)] := hl
  obtain ⟨H, eH⟩ : ∃ z, z = s.heap := ⟨_, rfl⟩
  have hP : va_P (dC, dI) classes (wM g c v F rc) H := by rw [eH]; exact hP
  have hS : va_S (AM g s.heap.size) s.heap H [] := by rw [eH]; exact va_S.rf
  refine my_heap eH ?_
  have hF : ∀ k, k ∉ ([30, 31, 42] : List Nat) → F k = F k := fun _ _ => rfl
  have rp0 := i32_rng p0
  have rp1 := i32_rng p1
  have rp2 := i32_rng p2
  have rp3 := i32_rng p3
  have hb31 : 0 ≤ (v 31).toInt ∧ (v 31).toInt ≤ 10 := hI.1 31 _ _ rfl
  refine lv_aload_n hx hb dX12_costs_0 rfl (lv_at hl 0 rfl) ?_
  refine lv_iload_n hx hb dX12_costs_1 rfl (lv_at hl 1 rfl) ?_
  have t16415 : 0 ≤ (v 6).toInt ∧ (v 6).toInt ≤ 10 := hI.1 6 _ _ rfl
  refine va_calli (va_runV (As := [.int p0]) (rest := []) ⟨hx, hb, hml, hown, hwd⟩ (c_X12_isPlane l dC dI g c adK adV v F rc H.size p0 hg hI ) (cwV 1 hwd (gV wk_305 wk_302 wk_303 wk_304 wk_5) rfl rfl rfl (by decide +kernel) ⟨Nat.le_of_ble_eq_true rfl, Nat.le_of_ble_eq_true rfl⟩) ⟨PM.blind, va_recv hK hP (ci := 12) (q0 := 0) rfl rfl, fun U hU hW => ⟨rfl, PM.at hK hE hP hS hU hW⟩⟩ rfl rfl hl.1 rfl (lv_room (Nat.le_of_ble_eq_true rfl)) dX12_costs_2 ⟨Nat.le_of_ble_eq_true rfl, Nat.le_of_ble_eq_true rfl⟩) hS (fun q _ h => (freeM hS) q h) (freeM hS) (fun r16416 u t H1 locs ht hvm hw hB hz1 hk1 hS => ?_)
  unfold BM at hB
  rw [ht] at hB
  have hP : va_P (dC, dI) classes (wM g c v F rc) H1 := hB
  replace hw : (r16416.toInt = 1 ∧ 0 ≤ p0.toInt ∧ p0.toInt < (v 6).toInt) ∨ (r16416.toInt = 0 ∧ (p0.toInt < 0 ∨ (v 6).toInt ≤ p0.toInt)) := hw
  have hw_r16416 := hw
  clear hw
  clear hz1
  generalize H1 = H at hP hS ⊢
  refine lv_if_eq (tgt := 47) hx hb dX12_costs_5 (by decide) (fun c16417 => ?_) (fun c16417 => ?_)
  · skip
    have t16418 := cv_eq (a := r16416.toInt) rfl (b := 0) (by decide) c16417
    refine lv_ldc (v := (-2000000000)) hx hb hown (hwd _ wk_542) dX12_costs_47 ?_
    have hP9 : va_P (dC, dI) classes (wM g c v F rc) H := hP
    exact W.iret (v := (-2000000000)) hx hb hr (fun t ht hW => ⟨⟨(-2000000000), (v, F, rc), rfl, ⟨hI, rfl, (fun _ _ => rfl), hF, trivial⟩, (by show va_P _ _ _ t.heap; rw [ht]; exact hP9)⟩, hS.F ht⟩) hS.2.2 dX12_costs_49
  · skip
    have t16419 := cv_ne (a := r16416.toInt) rfl (b := 0) (by decide) c16417
    refine lv_aload_n hx hb dX12_costs_8 rfl (lv_at hl 0 rfl) ?_
    refine lv_iload_n hx hb dX12_costs_9 rfl (lv_at hl 1 rfl) ?_
    refine va_calli (va_runV (As := [.int p0]) (rest := []) ⟨hx, hb, hml, hown, hwd⟩ (c_X12_hasContract l dC dI g c adK adV v F rc H.size p0 hg hI (by omega)) (cwV 1 hwd (gV wk_1201 wk_1198 wk_1199 wk_1200 wk_5) rfl rfl rfl (by decide +kernel) ⟨Nat.le_of_ble_eq_true rfl, Nat.le_of_ble_eq_true rfl⟩) ⟨PM.blind, va_recv hK hP (ci := 12) (q0 := 0) rfl rfl, fun U hU hW => ⟨rfl, PM.at hK hE hP hS hU hW⟩⟩ rfl rfl hl.1 rfl (lv_room (Nat.le_of_ble_eq_true rfl)) dX12_costs_10 ⟨Nat.le_of_ble_eq_true rfl, Nat.le_of_ble_eq_true rfl⟩) hS (fun q _ h => (freeM hS) q h) (freeM hS) (fun r16420 u t H1 locs ht hvm hw hB hz1 hk1 hS => ?_)
    unfold BM at hB
    rw [ht] at hB
    have hP : va_P (dC, dI) classes (wM g c v F rc) H1 := hB
    have hw_r16420 : 0 ≤ r16420.toInt ∧ r16420.toInt ≤ 1 := hw
    clear hw
    clear hz1
    generalize H1 = H at hP hS ⊢
    refine lv_if_eq (tgt := 47) hx hb dX12_costs_13 (by decide) (fun c16421 => ?_) (fun c16421 => ?_)
    · skip
      have t16422 := cv_eq (a := r16420.toInt) rfl (b := 0) (by decide) c16421
      refine lv_ldc (v := (-2000000000)) hx hb hown (hwd _ wk_542) dX12_costs_47 ?_
      have hP9 : va_P (dC, dI) classes (wM g c v F rc) H := hP
      exact W.iret (v := (-2000000000)) hx hb hr (fun t ht hW => ⟨⟨(-2000000000), (v, F, rc), rfl, ⟨hI, rfl, (fun _ _ => rfl), hF, trivial⟩, (by show va_P _ _ _ t.heap; rw [ht]; exact hP9)⟩, hS.F ht⟩) hS.2.2 dX12_costs_49
    · skip
      have t16423 := cv_ne (a := r16420.toInt) rfl (b := 0) (by decide) c16421
      refine lv_iload_n hx hb dX12_costs_16 rfl (lv_at hl 2 rfl) ?_
      refine lv_iconst (v := (-1)) hx hb dX12_costs_17 (by decide) ?_
      refine lv_aload_n hx hb dX12_costs_18 rfl (lv_at hl 0 rfl) ?_
      refine va_get (D := (dC, dI)) (ci := 12) (v := .ref (g 37)) (C := RX12) (T := TX12) (N := 63) hx hb hwd inA_X12 hown hK hP 0 rfl rfl 51 (by decide) (hwd _ wk_219) (fun _ h9 => h9) rfl dX12_costs_19 ?_
      refine lv_iload_n hx hb dX12_costs_22 rfl (lv_at hl 1 rfl) ?_
      refine va_iald hx hb hK hP 37 36 rfl rfl (i := p0) (vin (a := p0.toInt) rfl (by omega)) dX12_costs_23 ?_
      refine lv_topi (fun z16424 e16425 => ?_)
      have t16426 : 0 ≤ z16424.toInt ∧ z16424.toInt ≤ 31 := by rw [e16425]; exact hI.2 37 _ _ rfl _
      refine lv_iconst (v := 1) hx hb dX12_costs_24 (by decide) ?_
      refine lv_isub hx hb dX12_costs_25 ?_
      refine lv_topi (fun z16427 e16428 => ?_)
      try (have t16429 := tsub e16428 (a := z16424.toInt) rfl (b := 1) (by decide) (by omega))
      refine va_calli (va_runS (As := [.int p1, .int (-1), .int z16427]) (rest := []) ⟨hx, hb, hml, hown, hwd⟩ (c_X12_in l dC dI g c adK adV v F rc H.size p1 (-1) z16427 hg hI ) (va_cwS 3 hwd (gT wk_254 wk_252 wk_253 wk_5) rfl rfl rfl (by decide +kernel) ⟨Nat.le_of_ble_eq_true rfl, Nat.le_of_ble_eq_true rfl⟩) ⟨PM.blind, fun U hU hW => ⟨rfl, PM.at hK hE hP hS hU hW⟩⟩ rfl rfl hl.1 rfl (lv_room (Nat.le_of_ble_eq_true rfl)) dX12_costs_26 ⟨Nat.le_of_ble_eq_true rfl, Nat.le_of_ble_eq_true rfl⟩) hS (fun q _ h => (freeM hS) q h) (freeM hS) (fun r16430 u t H1 locs ht hvm hw hB hz1 hk1 hS => ?_)
      unfold BM at hB
      rw [ht] at hB
      have hP : va_P (dC, dI) classes (wM g c v F rc) H1 := hB
      have hw_r16430 : (r16430.toInt = 1 ∧ ((-1) : Int32).toInt ≤ p1.toInt ∧ p1.toInt ≤ z16427.toInt) ∨ (r16430.toInt = 0 ∧ (p1.toInt < ((-1) : Int32).toInt ∨ z16427.toInt < p1.toInt)) := hw
      clear hw
      have k16431 : ((-1) : Int32).toInt = (-1) := by decide
      clear hz1
      generalize H1 = H at hP hS ⊢
      refine lv_if_eq (tgt := 47) hx hb dX12_costs_29 (by decide) (fun c16432 => ?_) (fun c16432 => ?_)
      · skip
        have t16433 := cv_eq (a := r16430.toInt) rfl (b := 0) (by decide) c16432
        refine lv_ldc (v := (-2000000000)) hx hb hown (hwd _ wk_542) dX12_costs_47 ?_
        have hP9 : va_P (dC, dI) classes (wM g c v F rc) H := hP
        exact W.iret (v := (-2000000000)) hx hb hr (fun t ht hW => ⟨⟨(-2000000000), (v, F, rc), rfl, ⟨hI, rfl, (fun _ _ => rfl), hF, trivial⟩, (by show va_P _ _ _ t.heap; rw [ht]; exact hP9)⟩, hS.F ht⟩) hS.2.2 dX12_costs_49
      · skip
        have t16434 := cv_ne (a := r16430.toInt) rfl (b := 0) (by decide) c16432
        refine lv_iload_n hx hb dX12_costs_32 rfl (lv_at hl 3 rfl) ?_
        refine va_calli (va_runS (As := [.int p2]) (rest := []) ⟨hx, hb, hml, hown, hwd⟩ (c_X12_isDay l dC dI g c adK adV v F rc H.size p2 hg hI ) (va_cwS 1 hwd (gT wk_556 wk_554 wk_555 wk_5) rfl rfl rfl (by decide +kernel) ⟨Nat.le_of_ble_eq_true rfl, Nat.le_of_ble_eq_true rfl⟩) ⟨PM.blind, fun U hU hW => ⟨rfl, PM.at hK hE hP hS hU hW⟩⟩ rfl rfl hl.1 rfl (lv_room (Nat.le_of_ble_eq_true rfl)) dX12_costs_33 ⟨Nat.le_of_ble_eq_true rfl, Nat.le_of_ble_eq_true rfl⟩) hS (fun q _ h => (freeM hS) q h) (freeM hS) (fun r16435 u t H1 locs ht hvm hw hB hz1 hk1 hS => ?_)
        unfold BM at hB
        rw [ht] at hB
        have hP : va_P (dC, dI) classes (wM g c v F rc) H1 := hB
        have hw_r16435 : (r16435.toInt = 1 ∧ 0 ≤ p2.toInt ∧ p2.toInt ≤ 9999) ∨ (r16435.toInt = 0 ∧ (p2.toInt < 0 ∨ 9999 < p2.toInt)) := hw
        clear hw
        clear hz1
        generalize H1 = H at hP hS ⊢
        refine lv_if_eq (tgt := 47) hx hb dX12_costs_36 (by decide) (fun c16436 => ?_) (fun c16436 => ?_)
        · skip
          have t16437 := cv_eq (a := r16435.toInt) rfl (b := 0) (by decide) c16436
          refine lv_ldc (v := (-2000000000)) hx hb hown (hwd _ wk_542) dX12_costs_47 ?_
          have hP9 : va_P (dC, dI) classes (wM g c v F rc) H := hP
          exact W.iret (v := (-2000000000)) hx hb hr (fun t ht hW => ⟨⟨(-2000000000), (v, F, rc), rfl, ⟨hI, rfl, (fun _ _ => rfl), hF, trivial⟩, (by show va_P _ _ _ t.heap; rw [ht]; exact hP9)⟩, hS.F ht⟩) hS.2.2 dX12_costs_49
        · skip
          have t16438 := cv_ne (a := r16435.toInt) rfl (b := 0) (by decide) c16436
          refine lv_iload hx hb dX12_costs_39 (lv_at hl 4 rfl) ?_
          refine va_calli (va_runS (As := [.int p3]) (rest := []) ⟨hx, hb, hml, hown, hwd⟩ (c_X12_isDay l dC dI g c adK adV v F rc H.size p3 hg hI ) (va_cwS 1 hwd (gT wk_556 wk_554 wk_555 wk_5) rfl rfl rfl (by decide +kernel) ⟨Nat.le_of_ble_eq_true rfl, Nat.le_of_ble_eq_true rfl⟩) ⟨PM.blind, fun U hU hW => ⟨rfl, PM.at hK hE hP hS hU hW⟩⟩ rfl rfl hl.1 rfl (lv_room (Nat.le_of_ble_eq_true rfl)) dX12_costs_41 ⟨Nat.le_of_ble_eq_true rfl, Nat.le_of_ble_eq_true rfl⟩) hS (fun q _ h => (freeM hS) q h) (freeM hS) (fun r16439 u t H1 locs ht hvm hw hB hz1 hk1 hS => ?_)
          unfold BM at hB
          rw [ht] at hB
          have hP : va_P (dC, dI) classes (wM g c v F rc) H1 := hB
          have hw_r16439 : (r16439.toInt = 1 ∧ 0 ≤ p3.toInt ∧ p3.toInt ≤ 9999) ∨ (r16439.toInt = 0 ∧ (p3.toInt < 0 ∨ 9999 < p3.toInt)) := hw
          clear hw
          clear hz1
          generalize H1 = H at hP hS ⊢
          refine lv_if_ne (tgt := 50) hx hb dX12_costs_44 (by decide) (fun c16440 => ?_) (fun c16440 => ?_)
          · skip
            have t16441 := cv_ne (a := r16439.toInt) rfl (b := 0) (by decide) c16440
            refine lv_aload_n hx hb dX12_costs_50 rfl (lv_at hl 0 rfl) ?_
            refine lv_iload_n hx hb dX12_costs_51 rfl (lv_at hl 1 rfl) ?_
            have t16442 : 0 ≤ (v 14).toInt ∧ (v 14).toInt ≤ 100 := hI.1 14 _ _ rfl
            refine va_callv (va_runV (As := [.int p0]) (rest := []) ⟨hx, hb, hml, hown, hwd⟩ (c_X12_board l dC dI g c adK adV v F rc H.size p0 hg hI ) (cwV 1 hwd (gV wk_1205 wk_1202 wk_1203 wk_1204 wk_5) rfl rfl rfl (by decide +kernel) ⟨Nat.le_of_ble_eq_true rfl, Nat.le_of_ble_eq_true rfl⟩) ⟨PM.blind, va_recv hK hP (ci := 12) (q0 := 0) rfl rfl, fun U hU hW => ⟨rfl, PM.at hK hE hP hS hU hW⟩⟩ rfl rfl hl.1 rfl (lv_room (Nat.le_of_ble_eq_true rfl)) dX12_costs_52 ⟨Nat.le_of_ble_eq_true rfl, Nat.le_of_ble_eq_true rfl⟩) hS (fun q _ h => (freeM hS) q h) (freeM hS) (fun u t H1 locs ht hvm hw hB hz1 hk1 hS => ?_)
            unfold BM at hB
            rw [ht] at hB
            obtain ⟨v16444, F16445, rc9⟩ := u
            obtain ⟨hI, hrc, hf16446, hG16447, hw⟩ := hw
            dsimp only at hI hrc hB hf16446 hG16447 hw
            have hF := frCF (by decide) hG16447 hF
            rw [hrc] at hB
            have hP : va_P (dC, dI) classes (wM g c v16444 F16445 rc) H1 := hB
            replace hw : ∀ j : Nat, (j : Int) < (v 14).toInt → (F16445 42 j).toInt ≠ 0 → (F 13 j).toInt = p0.toInt := hw
            have hw_r16443 := hw
            clear hw
            clear hz1
            generalize H1 = H at hP hS ⊢
            refine lv_iload_n hx hb dX12_costs_55 rfl (lv_at hl 2 rfl) ?_
            refine lv_if_ge (tgt := 70) hx hb dX12_costs_56 (by decide) (fun c16448 => ?_) (fun c16448 => ?_)
            · skip
              have t16449 := cv_le (a := 0) (by decide) (b := p1.toInt) rfl c16448
              refine lv_aload_n hx hb dX12_costs_70 rfl (lv_at hl 0 rfl) ?_
              refine lv_iload_n hx hb dX12_costs_71 rfl (lv_at hl 1 rfl) ?_
              refine lv_iload_n hx hb dX12_costs_72 rfl (lv_at hl 2 rfl) ?_
              refine lv_iload_n hx hb dX12_costs_73 rfl (lv_at hl 3 rfl) ?_
              refine lv_iload hx hb dX12_costs_74 (lv_at hl 4 rfl) ?_
              refine va_calli (va_runV (As := [.int p0, .int p1, .int p2, .int p3]) (rest := []) ⟨hx, hb, hml, hown, hwd⟩ (c_X12_costOf l dC dI g c adK adV v16444 F16445 rc H.size p0 p1 p2 p3 hg hI (by omega) (by omega) (JL.to hL (show v16444 31 = v 31 from hf16446 31 (by decide)) (hF 28 (by decide)) (hF 29 (by decide)) (hF 27 (by decide)))) (cwV 4 hwd (gV wk_1251 wk_1248 wk_1249 wk_1250 wk_5) rfl rfl rfl (by decide +kernel) ⟨Nat.le_of_ble_eq_true rfl, Nat.le_of_ble_eq_true rfl⟩) ⟨PM.blind, va_recv hK hP (ci := 12) (q0 := 0) rfl rfl, fun U hU hW => ⟨rfl, PM.at hK hE hP hS hU hW⟩⟩ rfl rfl hl.1 rfl (lv_room (Nat.le_of_ble_eq_true rfl)) dX12_costs_76 ⟨Nat.le_of_ble_eq_true rfl, Nat.le_of_ble_eq_true rfl⟩) hS (fun q _ h => (freeM hS) q h) (freeM hS) (fun r16450 u t H1 locs ht hvm hw hB hz1 hk1 hS => ?_)
              unfold BM at hB
              rw [ht] at hB
              obtain ⟨v16451, F16452, rc9⟩ := u
              obtain ⟨hI, hrc, hf16453, hG16454, hw⟩ := hw
              dsimp only at hI hrc hB hf16453 hG16454 hw
              have hF := frCF (by decide) hG16454 hF
              rw [hrc] at hB
              have hP : va_P (dC, dI) classes (wM g c v16451 F16452 rc) H1 := hB
              clear hz1
              generalize H1 = H at hP hS ⊢
              have rr_r16450 := i32_rng r16450
              have hP9 : va_P (dC, dI) classes (wM g c v16451 F16452 rc) H := hP
              exact W.iret (v := r16450) hx hb hr (fun t ht hW => ⟨⟨r16450, (v16451, F16452, rc), rfl, ⟨hI, rfl, (frC (by decide) hf16453 (frC (by decide) hf16446 (fun _ _ => rfl))), hF, trivial⟩, (by show va_P _ _ _ t.heap; rw [ht]; exact hP9)⟩, hS.F ht⟩) hS.2.2 dX12_costs_79
            · skip
              have t16455 := cv_nle (a := 0) (by decide) (b := p1.toInt) rfl c16448
              refine lv_aload_n hx hb dX12_costs_59 rfl (lv_at hl 0 rfl) ?_
              refine lv_iload_n hx hb dX12_costs_60 rfl (lv_at hl 1 rfl) ?_
              refine lv_iload_n hx hb dX12_costs_61 rfl (lv_at hl 3 rfl) ?_
              refine lv_iload hx hb dX12_costs_62 (lv_at hl 4 rfl) ?_
              refine va_calli (va_runV (As := [.int p0, .int p2, .int p3]) (rest := []) ⟨hx, hb, hml, hown, hwd⟩ (c_X12_costOfAll l dC dI g c adK adV v16444 F16445 rc H.size p0 p2 p3 hg hI (by omega) (JL.to hL (show v16444 31 = v 31 from hf16446 31 (by decide)) (hF 28 (by decide)) (hF 29 (by decide)) (hF 27 (by decide)))) (cwV 3 hwd (gV wk_1247 wk_1244 wk_1245 wk_1246 wk_5) rfl rfl rfl (by decide +kernel) ⟨Nat.le_of_ble_eq_true rfl, Nat.le_of_ble_eq_true rfl⟩) ⟨PM.blind, va_recv hK hP (ci := 12) (q0 := 0) rfl rfl, fun U hU hW => ⟨rfl, PM.at hK hE hP hS hU hW⟩⟩ rfl rfl hl.1 rfl (lv_room (Nat.le_of_ble_eq_true rfl)) dX12_costs_64 ⟨Nat.le_of_ble_eq_true rfl, Nat.le_of_ble_eq_true rfl⟩) hS (fun q _ h => (freeM hS) q h) (freeM hS) (fun r16456 u t H1 locs ht hvm hw hB hz1 hk1 hS => ?_)
              unfold BM at hB
              rw [ht] at hB
              obtain ⟨v16457, F16458, rc9⟩ := u
              obtain ⟨hI, hrc, hf16459, hG16460, hw⟩ := hw
              dsimp only at hI hrc hB hf16459 hG16460 hw
              have hF := frCF (by decide) hG16460 hF
              rw [hrc] at hB
              have hP : va_P (dC, dI) classes (wM g c v16457 F16458 rc) H1 := hB
              clear hz1
              generalize H1 = H at hP hS ⊢
              have rr_r16456 := i32_rng r16456
              refine lv_goto (tgt := 79) hx hb dX12_costs_67 (by decide) ?_
              have hP9 : va_P (dC, dI) classes (wM g c v16457 F16458 rc) H := hP
              exact W.iret (v := r16456) hx hb hr (fun t ht hW => ⟨⟨r16456, (v16457, F16458, rc), rfl, ⟨hI, rfl, (frC (by decide) hf16459 (frC (by decide) hf16446 (fun _ _ => rfl))), hF, trivial⟩, (by show va_P _ _ _ t.heap; rw [ht]; exact hP9)⟩, hS.F ht⟩) hS.2.2 dX12_costs_79
          · skip
            have t16461 := cv_eq (a := r16439.toInt) rfl (b := 0) (by decide) c16440
            refine lv_ldc (v := (-2000000000)) hx hb hown (hwd _ wk_542) dX12_costs_47 ?_
            have hP9 : va_P (dC, dI) classes (wM g c v F rc) H := hP
            exact W.iret (v := (-2000000000)) hx hb hr (fun t ht hW => ⟨⟨(-2000000000), (v, F, rc), rfl, ⟨hI, rfl, (fun _ _ => rfl), hF, trivial⟩, (by show va_P _ _ _ t.heap; rw [ht]; exact hP9)⟩, hS.F ht⟩) hS.2.2 dX12_costs_49
set_option maxHeartbeats 8000000 in
set_option maxRecDepth 100000 in
theorem c_X12_count (l : Launch) (dC : Nat → ClassId) (dI : Nat → Nat → Nat) (g : Nat → Nat) (c : Nat → ClassId) (adK adV : Nat → Nat) (v : Nat → Int32) (F : Nat → Nat → Int32) (rc sz : Nat) (p0 : Int32) (hg : injM g) (hI : IM v F) : Met l yX12_count (Cond.code yX12_count cX12_count 4 (some .int) :: wA) ({ frames := 2, cells := 0, slots := 0, locals := 80 }) (va_Pc [.ref (g 0), .int p0] (PM dC dI g c adK adV v F rc sz)) (va_Qi (fun (r : Int32) (u : Unit) => True) (fun (_ : Unit) => BM dC dI g c (v, F, rc)) (AM g sz)) 0 0 (AM g sz) := by
  refine Met.ofW (cc := cX12_count) (maxL := 4) (ret := (some .int)) (by decide) rfl ?_
  intro p e s m args below meth c0 s₁ B hml hv
  obtain ⟨rfl, hsz, hP, hK, hE⟩ := hv
  have hx := B.exec
  have hb := B.bytes
  have hr := B.returns
  have hts := atoms_spec (ws := Cond.code yX12_count cX12_count 4 (some .int) :: wA) B.pre
  have hwd : ∀ w ∈ wA, w.before _ s = true := fun w h => hts w (List.mem_cons_of_mem _ h)
  have hown : s.vm.findClass RX12 = some m.cls := findClass_of_methodNamed B.named
  have hlocks := B.notSynchronized
  subst hsz
  have hl := lv_entry ([.ref (g 0), .int p0]) (n := 4) (Nat.le_of_ble_eq_true rfl)
  rw [lg_entry_eq]
  generalize (lg_sl ([.ref (g 0), .int p0]) ++ List.replicate (4 - (lg_sl ([.ref (g 0), .int p0])).length) Slot.unset).toArray = ls at hl ⊢
  have hl : lv_has ls 4 [(0, .ref (g 0)), (1, .int p0)] := hl
  obtain ⟨H, eH⟩ : ∃ z, z = s.heap := ⟨_, rfl⟩
  have hP : va_P (dC, dI) classes (wM g c v F rc) H := by rw [eH]; exact hP
  have hS : va_S (AM g s.heap.size) s.heap H [] := by rw [eH]; exact va_S.rf
  refine my_heap eH ?_
  have rp0 := i32_rng p0
  refine lv_iconst (v := 0) hx hb dX12_count_0 (by decide) ?_
  refine lv_istore_n (lv' := [(2, .int 0), (0, .ref (g 0)), (1, .int p0)]) hx hb dX12_count_1 rfl hl (by decide) rfl (fun ls hl => ?_)
  refine lv_iload_n hx hb dX12_count_2 rfl (lv_at hl 2 rfl) ?_
  by_cases hlo16462 : p0.toInt < 0
  · refine lv_tableOut (tgt := 168) hx hb dX12_count_3 (Or.inl hlo16462) (by decide) ?_
    refine lv_iconst (v := (-1)) hx hb dX12_count_168 (by decide) ?_
    have hP9 : va_P (dC, dI) classes (wM g c v F rc) H := hP
    exact W.iret (v := (-1)) hx hb hr (fun t ht hW => ⟨⟨(-1), (), rfl, trivial, (by show va_P _ _ _ t.heap; rw [ht]; exact hP9)⟩, hS.F ht⟩) hS.2.2 dX12_count_169
  by_cases hhi16463 : 12 < p0.toInt
  · refine lv_tableOut (tgt := 168) hx hb dX12_count_3 (Or.inr hhi16463) (by decide) ?_
    refine lv_iconst (v := (-1)) hx hb dX12_count_168 (by decide) ?_
    have hP9 : va_P (dC, dI) classes (wM g c v F rc) H := hP
    exact W.iret (v := (-1)) hx hb hr (fun t ht hW => ⟨⟨(-1), (), rfl, trivial, (by show va_P _ _ _ t.heap; rw [ht]; exact hP9)⟩, hS.F ht⟩) hS.2.2 dX12_count_169
  rcases (show p0.toInt = 0 ∨ p0.toInt = 1 ∨ p0.toInt = 2 ∨ p0.toInt = 3 ∨ p0.toInt = 4 ∨ p0.toInt = 5 ∨ p0.toInt = 6 ∨ p0.toInt = 7 ∨ p0.toInt = 8 ∨ p0.toInt = 9 ∨ p0.toInt = 10 ∨ p0.toInt = 11 ∨ p0.toInt = 12 by omega) with hk | hk | hk | hk | hk | hk | hk | hk | hk | hk | hk | hk | hk
  · refine lv_tableIn (off := 65) (tgt := 68) hx hb dX12_count_3 hlo16462 hhi16463 (by rw [hk]; decide) (by decide) ?_
    refine lv_aload_n hx hb dX12_count_68 rfl (lv_at hl 1 rfl) ?_
    refine va_get (D := (dC, dI)) (ci := 12) (v := .int (v 2)) (C := RX12) (T := TX12) (N := 63) hx hb hwd inA_X12 hown hK hP 0 rfl rfl 2 (by decide) (hwd _ wk_251) (fun _ h9 => h9) rfl dX12_count_69 ?_
    have t16464 : 0 ≤ (v 2).toInt ∧ (v 2).toInt ≤ 10 := hI.1 2 _ _ rfl
    have hP9 : va_P (dC, dI) classes (wM g c v F rc) H := hP
    exact W.iret (v := v 2) hx hb hr (fun t ht hW => ⟨⟨(v 2), (), rfl, trivial, (by show va_P _ _ _ t.heap; rw [ht]; exact hP9)⟩, hS.F ht⟩) hS.2.2 dX12_count_72
  · refine lv_tableIn (off := 70) (tgt := 73) hx hb dX12_count_3 hlo16462 hhi16463 (by rw [hk]; decide) (by decide) ?_
    refine lv_aload_n hx hb dX12_count_73 rfl (lv_at hl 1 rfl) ?_
    refine va_get (D := (dC, dI)) (ci := 12) (v := .int (v 6)) (C := RX12) (T := TX12) (N := 63) hx hb hwd inA_X12 hown hK hP 0 rfl rfl 6 (by decide) (hwd _ wk_268) (fun _ h9 => h9) rfl dX12_count_74 ?_
    have t16465 : 0 ≤ (v 6).toInt ∧ (v 6).toInt ≤ 10 := hI.1 6 _ _ rfl
    have hP9 : va_P (dC, dI) classes (wM g c v F rc) H := hP
    exact W.iret (v := v 6) hx hb hr (fun t ht hW => ⟨⟨(v 6), (), rfl, trivial, (by show va_P _ _ _ t.heap; rw [ht]; exact hP9)⟩, hS.F ht⟩) hS.2.2 dX12_count_77
  · refine lv_tableIn (off := 75) (tgt := 78) hx hb dX12_count_3 hlo16462 hhi16463 (by rw [hk]; decide) (by decide) ?_
    refine lv_aload_n hx hb dX12_count_78 rfl (lv_at hl 1 rfl) ?_
    refine va_get (D := (dC, dI)) (ci := 12) (v := .int (v 14)) (C := RX12) (T := TX12) (N := 63) hx hb hwd inA_X12 hown hK hP 0 rfl rfl 14 (by decide) (hwd _ wk_318) (fun _ h9 => h9) rfl dX12_count_79 ?_
    have t16466 : 0 ≤ (v 14).toInt ∧ (v 14).toInt ≤ 100 := hI.1 14 _ _ rfl
    have hP9 : va_P (dC, dI) classes (wM g c v F rc) H := hP
    exact W.iret (v := v 14) hx hb hr (fun t ht hW => ⟨⟨(v 14), (), rfl, trivial, (by show va_P _ _ _ t.heap; rw [ht]; exact hP9)⟩, hS.F ht⟩) hS.2.2 dX12_count_82
  · refine lv_tableIn (off := 80) (tgt := 83) hx hb dX12_count_3 hlo16462 hhi16463 (by rw [hk]; decide) (by decide) ?_
    refine lv_aload_n hx hb dX12_count_83 rfl (lv_at hl 1 rfl) ?_
    refine va_get (D := (dC, dI)) (ci := 12) (v := .int (v 1)) (C := RX12) (T := TX12) (N := 63) hx hb hwd inA_X12 hown hK hP 0 rfl rfl 1 (by decide) (hwd _ wk_332) (fun _ h9 => h9) rfl dX12_count_84 ?_
    have t16467 : 0 ≤ (v 1).toInt ∧ (v 1).toInt ≤ 9999 := hI.1 1 _ _ rfl
    have hP9 : va_P (dC, dI) classes (wM g c v F rc) H := hP
    exact W.iret (v := v 1) hx hb hr (fun t ht hW => ⟨⟨(v 1), (), rfl, trivial, (by show va_P _ _ _ t.heap; rw [ht]; exact hP9)⟩, hS.F ht⟩) hS.2.2 dX12_count_87
  · refine lv_tableIn (off := 85) (tgt := 88) hx hb dX12_count_3 hlo16462 hhi16463 (by rw [hk]; decide) (by decide) ?_
    refine lv_aload_n hx hb dX12_count_88 rfl (lv_at hl 1 rfl) ?_
    refine va_get (D := (dC, dI)) (ci := 12) (v := .int (v 31)) (C := RX12) (T := TX12) (N := 63) hx hb hwd inA_X12 hown hK hP 0 rfl rfl 31 (by decide) (hwd _ wk_505) (fun _ h9 => h9) rfl dX12_count_89 ?_
    have t16468 : 0 ≤ (v 31).toInt ∧ (v 31).toInt ≤ 10 := hI.1 31 _ _ rfl
    have hP9 : va_P (dC, dI) classes (wM g c v F rc) H := hP
    exact W.iret (v := v 31) hx hb hr (fun t ht hW => ⟨⟨(v 31), (), rfl, trivial, (by show va_P _ _ _ t.heap; rw [ht]; exact hP9)⟩, hS.F ht⟩) hS.2.2 dX12_count_92
  · refine lv_tableIn (off := 90) (tgt := 93) hx hb dX12_count_3 hlo16462 hhi16463 (by rw [hk]; decide) (by decide) ?_
    refine lv_aload_n hx hb dX12_count_93 rfl (lv_at hl 1 rfl) ?_
    refine va_get (D := (dC, dI)) (ci := 12) (v := .int (v 45)) (C := RX12) (T := TX12) (N := 63) hx hb hwd inA_X12 hown hK hP 0 rfl rfl 45 (by decide) (hwd _ wk_485) (fun _ h9 => h9) rfl dX12_count_94 ?_
    have t16469 : 0 ≤ (v 45).toInt ∧ (v 45).toInt ≤ 20 := hI.1 45 _ _ rfl
    have hP9 : va_P (dC, dI) classes (wM g c v F rc) H := hP
    exact W.iret (v := v 45) hx hb hr (fun t ht hW => ⟨⟨(v 45), (), rfl, trivial, (by show va_P _ _ _ t.heap; rw [ht]; exact hP9)⟩, hS.F ht⟩) hS.2.2 dX12_count_97
  · refine lv_tableIn (off := 95) (tgt := 98) hx hb dX12_count_3 hlo16462 hhi16463 (by rw [hk]; decide) (by decide) ?_
    refine lv_aload_n hx hb dX12_count_98 rfl (lv_at hl 1 rfl) ?_
    refine va_get (D := (dC, dI)) (ci := 12) (v := .int (v 19)) (C := RX12) (T := TX12) (N := 63) hx hb hwd inA_X12 hown hK hP 0 rfl rfl 19 (by decide) (hwd _ wk_494) (fun _ h9 => h9) rfl dX12_count_99 ?_
    have t16470 : 0 ≤ (v 19).toInt ∧ (v 19).toInt ≤ 500 := hI.1 19 _ _ rfl
    have hP9 : va_P (dC, dI) classes (wM g c v F rc) H := hP
    exact W.iret (v := v 19) hx hb hr (fun t ht hW => ⟨⟨(v 19), (), rfl, trivial, (by show va_P _ _ _ t.heap; rw [ht]; exact hP9)⟩, hS.F ht⟩) hS.2.2 dX12_count_102
  · refine lv_tableIn (off := 100) (tgt := 103) hx hb dX12_count_3 hlo16462 hhi16463 (by rw [hk]; decide) (by decide) ?_
    refine lv_aload_n hx hb dX12_count_103 rfl (lv_at hl 1 rfl) ?_
    refine va_get (D := (dC, dI)) (ci := 12) (v := .int (v 30)) (C := RX12) (T := TX12) (N := 63) hx hb hwd inA_X12 hown hK hP 0 rfl rfl 30 (by decide) (hwd _ wk_839) (fun _ h9 => h9) rfl dX12_count_104 ?_
    have t16471 : 0 ≤ (v 30).toInt ∧ (v 30).toInt ≤ 120 := hI.1 30 _ _ rfl
    have hP9 : va_P (dC, dI) classes (wM g c v F rc) H := hP
    exact W.iret (v := v 30) hx hb hr (fun t ht hW => ⟨⟨(v 30), (), rfl, trivial, (by show va_P _ _ _ t.heap; rw [ht]; exact hP9)⟩, hS.F ht⟩) hS.2.2 dX12_count_107
  · refine lv_tableIn (off := 105) (tgt := 108) hx hb dX12_count_3 hlo16462 hhi16463 (by rw [hk]; decide) (by decide) ?_
    refine lv_aload_n hx hb dX12_count_108 rfl (lv_at hl 1 rfl) ?_
    refine lv_bipush (v := 12) hx hb dX12_count_109 (by decide) ?_
    refine va_calli (va_runV (As := [.int 12]) (rest := []) ⟨hx, hb, hml, hown, hwd⟩ (c_X12_partsAt l dC dI g c adK adV v F rc H.size 12 hg hI ) (cwV 1 hwd (gV wk_1436 wk_1433 wk_1434 wk_1435 wk_5) rfl rfl rfl (by decide +kernel) ⟨Nat.le_of_ble_eq_true rfl, Nat.le_of_ble_eq_true rfl⟩) ⟨PM.blind, va_recv hK hP (ci := 12) (q0 := 0) rfl rfl, fun U hU hW => ⟨rfl, PM.at hK hE hP hS hU hW⟩⟩ rfl rfl hl.1 rfl (lv_room (Nat.le_of_ble_eq_true rfl)) dX12_count_111 ⟨Nat.le_of_ble_eq_true rfl, Nat.le_of_ble_eq_true rfl⟩) hS (fun q _ h => (freeM hS) q h) (freeM hS) (fun r16472 u t H1 locs ht hvm hw hB hz1 hk1 hS => ?_)
    unfold BM at hB
    rw [ht] at hB
    have hP : va_P (dC, dI) classes (wM g c v F rc) H1 := hB
    clear hz1
    generalize H1 = H at hP hS ⊢
    have rr_r16472 := i32_rng r16472
    have hP9 : va_P (dC, dI) classes (wM g c v F rc) H := hP
    exact W.iret (v := r16472) hx hb hr (fun t ht hW => ⟨⟨r16472, (), rfl, trivial, (by show va_P _ _ _ t.heap; rw [ht]; exact hP9)⟩, hS.F ht⟩) hS.2.2 dX12_count_114
  · refine lv_tableIn (off := 112) (tgt := 115) hx hb dX12_count_3 hlo16462 hhi16463 (by rw [hk]; decide) (by decide) ?_
    refine lv_aload_n hx hb dX12_count_115 rfl (lv_at hl 1 rfl) ?_
    refine lv_bipush (v := 11) hx hb dX12_count_116 (by decide) ?_
    refine va_calli (va_runV (As := [.int 11]) (rest := []) ⟨hx, hb, hml, hown, hwd⟩ (c_X12_partsAt l dC dI g c adK adV v F rc H.size 11 hg hI ) (cwV 1 hwd (gV wk_1436 wk_1433 wk_1434 wk_1435 wk_5) rfl rfl rfl (by decide +kernel) ⟨Nat.le_of_ble_eq_true rfl, Nat.le_of_ble_eq_true rfl⟩) ⟨PM.blind, va_recv hK hP (ci := 12) (q0 := 0) rfl rfl, fun U hU hW => ⟨rfl, PM.at hK hE hP hS hU hW⟩⟩ rfl rfl hl.1 rfl (lv_room (Nat.le_of_ble_eq_true rfl)) dX12_count_118 ⟨Nat.le_of_ble_eq_true rfl, Nat.le_of_ble_eq_true rfl⟩) hS (fun q _ h => (freeM hS) q h) (freeM hS) (fun r16473 u t H1 locs ht hvm hw hB hz1 hk1 hS => ?_)
    unfold BM at hB
    rw [ht] at hB
    have hP : va_P (dC, dI) classes (wM g c v F rc) H1 := hB
    clear hz1
    generalize H1 = H at hP hS ⊢
    have rr_r16473 := i32_rng r16473
    have hP9 : va_P (dC, dI) classes (wM g c v F rc) H := hP
    exact W.iret (v := r16473) hx hb hr (fun t ht hW => ⟨⟨r16473, (), rfl, trivial, (by show va_P _ _ _ t.heap; rw [ht]; exact hP9)⟩, hS.F ht⟩) hS.2.2 dX12_count_121
  · refine lv_tableIn (off := 119) (tgt := 122) hx hb dX12_count_3 hlo16462 hhi16463 (by rw [hk]; decide) (by decide) ?_
    refine lv_aload_n hx hb dX12_count_122 rfl (lv_at hl 1 rfl) ?_
    refine lv_bipush (v := 10) hx hb dX12_count_123 (by decide) ?_
    refine va_calli (va_runV (As := [.int 10]) (rest := []) ⟨hx, hb, hml, hown, hwd⟩ (c_X12_partsAt l dC dI g c adK adV v F rc H.size 10 hg hI ) (cwV 1 hwd (gV wk_1436 wk_1433 wk_1434 wk_1435 wk_5) rfl rfl rfl (by decide +kernel) ⟨Nat.le_of_ble_eq_true rfl, Nat.le_of_ble_eq_true rfl⟩) ⟨PM.blind, va_recv hK hP (ci := 12) (q0 := 0) rfl rfl, fun U hU hW => ⟨rfl, PM.at hK hE hP hS hU hW⟩⟩ rfl rfl hl.1 rfl (lv_room (Nat.le_of_ble_eq_true rfl)) dX12_count_125 ⟨Nat.le_of_ble_eq_true rfl, Nat.le_of_ble_eq_true rfl⟩) hS (fun q _ h => (freeM hS) q h) (freeM hS) (fun r16474 u t H1 locs ht hvm hw hB hz1 hk1 hS => ?_)
    unfold BM at hB
    rw [ht] at hB
    have hP : va_P (dC, dI) classes (wM g c v F rc) H1 := hB
    clear hz1
    generalize H1 = H at hP hS ⊢
    have rr_r16474 := i32_rng r16474
    have hP9 : va_P (dC, dI) classes (wM g c v F rc) H := hP
    exact W.iret (v := r16474) hx hb hr (fun t ht hW => ⟨⟨r16474, (), rfl, trivial, (by show va_P _ _ _ t.heap; rw [ht]; exact hP9)⟩, hS.F ht⟩) hS.2.2 dX12_count_128
  · refine lv_tableIn (off := 126) (tgt := 129) hx hb dX12_count_3 hlo16462 hhi16463 (by rw [hk]; decide) (by decide) ?_
    refine lv_iconst (v := 0) hx hb dX12_count_129 (by decide) ?_
    refine lv_istore_n (lv' := [(3, .int 0), (2, .int 0), (0, .ref (g 0)), (1, .int p0)]) hx hb dX12_count_130 rfl hl (by decide) rfl (fun ls hl => ?_)
    have lp16475 : ∀ (n : Nat) (x3_lp16475 : Int32) (x2_lp16475 : Int32) (H : Heap) (locs : List Loc) (ls : Array Slot), (0 ≤ x3_lp16475.toInt) → (2147483648 - x3_lp16475.toInt ≤ (n : Int)) → va_P (dC, dI) classes (wM g c v F rc) H → va_S (AM g s.heap.size) s.heap H locs → lv_has ls 4 [(3, .int x3_lp16475), (2, .int x2_lp16475), (0, .ref (g 0)), (1, .int p0)] → W p l e (headSpec (Cond.code yX12_count cX12_count 4 (some .int) :: wA) ({ frames := 2, cells := 0, slots := 0, locals := 80 })).room s m ([.ref (g 0), .int p0] : List Value).toArray below meth c0 H locs 0 0 (MQ below (va_Qi (fun (r : Int32) (u : Unit) => True) (fun (_ : Unit) => BM dC dI g c (v, F, rc)) (AM g s.heap.size)) ([.ref (g 0), .int p0] : List Value).toArray s 0 0 (AM g s.heap.size)) (F0 m 131 ls []) := by
      intro n
      induction n with
      | zero =>
        intro x3_lp16475 x2_lp16475 H locs ls t16476 hm hP hS hl
        exfalso
        have := i32_rng x3_lp16475
        have := i32_rng x2_lp16475
        omega
      | succ n ih_lp16475 =>
        intro x3_lp16475 x2_lp16475 H locs ls t16476 hm hP hS hl
        have rx3_lp16475 := i32_rng x3_lp16475
        have rx2_lp16475 := i32_rng x2_lp16475
        refine lv_iload_n hx hb dX12_count_131 rfl (lv_at hl 0 rfl) ?_
        refine lv_aload_n hx hb dX12_count_132 rfl (lv_at hl 2 rfl) ?_
        refine va_get (D := (dC, dI)) (ci := 12) (v := .int (v 6)) (C := RX12) (T := TX12) (N := 63) hx hb hwd inA_X12 hown hK hP 0 rfl rfl 6 (by decide) (hwd _ wk_268) (fun _ h9 => h9) rfl dX12_count_133 ?_
        have t16477 : 0 ≤ (v 6).toInt ∧ (v 6).toInt ≤ 10 := hI.1 6 _ _ rfl
        refine lv_icmp_ge (tgt := 161) hx hb dX12_count_136 (by decide) (fun c16478 => ?_) (fun c16478 => ?_)
        · skip
          have t16479 := cv_le (a := (v 6).toInt) rfl (b := x3_lp16475.toInt) rfl c16478
          refine lv_iload_n hx hb dX12_count_161 rfl (lv_at hl 1 rfl) ?_
          have hP9 : va_P (dC, dI) classes (wM g c v F rc) H := hP
          exact W.iret (v := x2_lp16475) hx hb hr (fun t ht hW => ⟨⟨x2_lp16475, (), rfl, trivial, (by show va_P _ _ _ t.heap; rw [ht]; exact hP9)⟩, hS.F ht⟩) hS.2.2 dX12_count_162
        · skip
          have t16480 := cv_nle (a := (v 6).toInt) rfl (b := x3_lp16475.toInt) rfl c16478
          refine lv_iload_n hx hb dX12_count_139 rfl (lv_at hl 1 rfl) ?_
          refine lv_aload_n hx hb dX12_count_140 rfl (lv_at hl 2 rfl) ?_
          refine lv_iload_n hx hb dX12_count_141 rfl (lv_at hl 0 rfl) ?_
          refine va_calli (va_runV (As := [.int x3_lp16475]) (rest := [.int x2_lp16475]) ⟨hx, hb, hml, hown, hwd⟩ (c_X12_isReturned l dC dI g c adK adV v F rc H.size x3_lp16475 hg hI (by omega)) (cwV 1 hwd (gV wk_313 wk_310 wk_311 wk_312 wk_5) rfl rfl rfl (by decide +kernel) ⟨Nat.le_of_ble_eq_true rfl, Nat.le_of_ble_eq_true rfl⟩) ⟨PM.blind, va_recv hK hP (ci := 12) (q0 := 0) rfl rfl, fun U hU hW => ⟨rfl, PM.at hK hE hP hS hU hW⟩⟩ rfl rfl hl.1 rfl (lv_room (Nat.le_of_ble_eq_true rfl)) dX12_count_142 ⟨Nat.le_of_ble_eq_true rfl, Nat.le_of_ble_eq_true rfl⟩) hS (fun q _ h => (freeM hS) q h) (freeM hS) (fun r16481 u t H1 locs ht hvm hw hB hz1 hk1 hS => ?_)
          unfold BM at hB
          rw [ht] at hB
          have hP : va_P (dC, dI) classes (wM g c v F rc) H1 := hB
          have hw_r16481 : 0 ≤ r16481.toInt ∧ r16481.toInt ≤ 1 := hw
          clear hw
          clear hz1
          generalize H1 = H at hP hS ⊢
          refine lv_if_eq (tgt := 152) hx hb dX12_count_145 (by decide) (fun c16482 => ?_) (fun c16482 => ?_)
          · skip
            have t16483 := cv_eq (a := r16481.toInt) rfl (b := 0) (by decide) c16482
            refine lv_iconst (v := 0) hx hb dX12_count_152 (by decide) ?_
            refine lv_iadd hx hb dX12_count_153 ?_
            refine lv_topi (fun z16484 e16485 => ?_)
            try (have t16486 := tadd e16485 (a := x2_lp16475.toInt) rfl (b := 0) (by decide) (by omega))
            refine lv_istore_n (lv' := [(2, .int z16484), (3, .int x3_lp16475), (0, .ref (g 0)), (1, .int p0)]) hx hb dX12_count_154 rfl hl (by decide) rfl (fun ls hl => ?_)
            obtain ⟨z16487, e16488⟩ : ∃ y : Int32, y = x3_lp16475 + 1 := ⟨_, rfl⟩
            try (have t16489 := tadd e16488 rfl (b := 1) (by decide) (by omega))
            refine lv_iinc (v := z16487) (lv' := [(3, .int z16487), (2, .int z16484), (0, .ref (g 0)), (1, .int p0)]) hx hb dX12_count_155 hl (k := 1) rfl (by rw [e16488]; rfl) (by decide) rfl (fun ls hl => ?_)
            refine lv_goto (tgt := 131) hx hb dX12_count_158 (by decide) ?_
            exact ih_lp16475 z16487 z16484  _ _ _ (by omega) (by omega) hP hS (lv_sub hl [0, 1, 2, 3] rfl)
          · skip
            have t16490 := cv_ne (a := r16481.toInt) rfl (b := 0) (by decide) c16482
            refine lv_iconst (v := 1) hx hb dX12_count_148 (by decide) ?_
            refine lv_goto (tgt := 153) hx hb dX12_count_149 (by decide) ?_
            refine lv_iadd hx hb dX12_count_153 ?_
            refine lv_topi (fun z16491 e16492 => ?_)
            try (have t16493 := tadd e16492 (a := x2_lp16475.toInt) rfl (b := 1) (by decide) (by omega))
            refine lv_istore_n (lv' := [(2, .int z16491), (3, .int x3_lp16475), (0, .ref (g 0)), (1, .int p0)]) hx hb dX12_count_154 rfl hl (by decide) rfl (fun ls hl => ?_)
            obtain ⟨z16494, e16495⟩ : ∃ y : Int32, y = x3_lp16475 + 1 := ⟨_, rfl⟩
            try (have t16496 := tadd e16495 rfl (b := 1) (by decide) (by omega))
            refine lv_iinc (v := z16494) (lv' := [(3, .int z16494), (2, .int z16491), (0, .ref (g 0)), (1, .int p0)]) hx hb dX12_count_155 hl (k := 1) rfl (by rw [e16495]; rfl) (by decide) rfl (fun ls hl => ?_)
            refine lv_goto (tgt := 131) hx hb dX12_count_158 (by decide) ?_
            exact ih_lp16475 z16494 z16491  _ _ _ (by omega) (by omega) hP hS (lv_sub hl [0, 1, 2, 3] rfl)
    obtain ⟨n9, hn9⟩ : ∃ n : Nat, 2147483648 - 0 ≤ (n : Int) := ⟨((2147483648 - 0 : Int)).toNat, by omega⟩
    exact lp16475 n9 0 0  H _ ls (by have : (0 : Int32).toInt = 0 := (by decide); have : (0 : Int32).toInt = 0 := (by decide); omega) (by have : (0 : Int32).toInt = 0 := (by decide); have : (0 : Int32).toInt = 0 := (by decide); omega) hP hS hl
  · refine lv_tableIn (off := 160) (tgt := 163) hx hb dX12_count_3 hlo16462 hhi16463 (by rw [hk]; decide) (by decide) ?_
    refine lv_aload_n hx hb dX12_count_163 rfl (lv_at hl 1 rfl) ?_
    refine va_get (D := (dC, dI)) (ci := 12) (v := .int (v 60)) (C := RX12) (T := TX12) (N := 63) hx hb hwd inA_X12 hown hK hP 0 rfl rfl 60 (by decide) (hwd _ wk_1348) (fun _ h9 => h9) rfl dX12_count_164 ?_
    have hP9 : va_P (dC, dI) classes (wM g c v F rc) H := hP
    exact W.iret (v := v 60) hx hb hr (fun t ht hW => ⟨⟨(v 60), (), rfl, trivial, (by show va_P _ _ _ t.heap; rw [ht]; exact hP9)⟩, hS.F ht⟩) hS.2.2 dX12_count_167
