set_option maxHeartbeats 8000000 in
set_option maxRecDepth 100000 in
theorem c_X5_reckon (l : Launch) (dC : Nat → ClassId) (dI : Nat → Nat → Nat) (g : Nat → Nat) (c : Nat → ClassId) (adK adV : Nat → Nat) (v : Nat → Int32) (F : Nat → Nat → Int32) (rc sz : Nat) (p0 : Int32) (p1 : Int32) (hg : injX g) (hI : IX v F) (h0 : 0 ≤ p0.toInt ∧ p0.toInt ≤ 99) : Met l yX5_reckon (Cond.code yX5_reckon cX5_reckon 6 none :: wA) ({ frames := 5, cells := 0, slots := 0, locals := 200 }) (va_Pc [.ref (g 10), .int p0, .int p1] (PX dC dI g c adK adV v F rc sz)) (va_Qv (fun (u : StX) => IX u.1 u.2.1 ∧ alX u.1 u.2.1 = alX v F ∧ u.2.2 = rc ∧ (∀ k, k ∉ ([126] : List Nat) → u.1 k = v k) ∧ True) (BX dC dI g c) (AX g sz)) 0 0 (AX g sz) := by
  refine Met.ofW (cc := cX5_reckon) (maxL := 6) (ret := none) (by decide) rfl ?_
  intro p e s m args below meth c0 s₁ B hml hv
  obtain ⟨rfl, hsz, hP, hK, hE⟩ := hv
  have hx := B.exec
  have hb := B.bytes
  have hr := B.returns
  have hts := atoms_spec (ws := Cond.code yX5_reckon cX5_reckon 6 none :: wA) B.pre
  have hwd : ∀ w ∈ wA, w.before _ s = true := fun w h => hts w (List.mem_cons_of_mem _ h)
  have hown : s.vm.findClass RX5 = some m.cls := findClass_of_methodNamed B.named
  have hlocks := B.notSynchronized
  subst hsz
  have hl := lv_entry ([.ref (g 10), .int p0, .int p1]) (n := 6) (Nat.le_of_ble_eq_true rfl)
  rw [lg_entry_eq]
  generalize (lg_sl ([.ref (g 10), .int p0, .int p1]) ++ List.replicate (6 - (lg_sl ([.ref (g 10), .int p0, .int p1])).length) Slot.unset).toArray = ls at hl ⊢
  have hl : lv_has ls 6 [(0, .ref (g 10)), (1, .int p0), (2, .int p1)] := hl
  obtain ⟨H, eH⟩ : ∃ z, z = s.heap := ⟨_, rfl⟩
  have hP : va_P (dC, dI) classes (wX g c v F rc) H := by rw [eH]; exact hP
  have hS : va_S (AX g s.heap.size) s.heap H [] := by rw [eH]; exact va_S.rf
  refine my_heap eH ?_
  have hal : alX v F = alX v F := rfl
  have rp0 := i32_rng p0
  have rp1 := i32_rng p1
  refine lv_aload_n hx hb dX5_reckon_0 rfl (lv_at hl 0 rfl) ?_
  refine va_get (D := (dC, dI)) (ci := 5) (v := .ref (g 3)) (C := RX5) (T := TX5) (N := 6) hx hb hwd inA_X5 hown hK hP 10 rfl rfl 1 (by decide) (hwd _ wk_146) (fun _ h9 => h9) rfl dX5_reckon_1 ?_
  refine va_get (D := (dC, dI)) (ci := 7) (v := .ref (g 24)) (C := RX7) (T := TX7) (N := 7) hx hb hwd inA_X7 hown hK hP 3 rfl rfl 2 (by decide) (hwd _ wk_355) (fun _ h9 => h9) rfl dX5_reckon_4 ?_
  refine lv_iload_n hx hb dX5_reckon_7 rfl (lv_at hl 1 rfl) ?_
  refine va_iald hx hb hK hP 24 12 rfl rfl (i := p0) (vin (a := p0.toInt) rfl (by omega)) dX5_reckon_8 ?_
  refine lv_topi (fun z1351 e1352 => ?_)
  have t1353 : 0 ≤ z1351.toInt ∧ z1351.toInt ≤ 9 := by rw [e1352]; exact hI.2 24 _ _ rfl _
  refine lv_istore_n (lv' := [(3, .int z1351), (0, .ref (g 10)), (1, .int p0), (2, .int p1)]) hx hb dX5_reckon_9 rfl hl (by decide) rfl (fun ls hl => ?_)
  refine lv_iconst (v := 0) hx hb dX5_reckon_10 (by decide) ?_
  refine lv_istore (lv' := [(4, .int 0), (3, .int z1351), (0, .ref (g 10)), (1, .int p0), (2, .int p1)]) hx hb dX5_reckon_11 hl (by decide) rfl (fun ls hl => ?_)
  have lp1354 : ∀ (n : Nat) (x4_lp1354 : Int32) (v_lp1354 : Nat → Int32) (F_lp1354 : Nat → Nat → Int32) (H : Heap) (locs : List Loc) (ls : Array Slot), (0 ≤ x4_lp1354.toInt) → (2147483648 - x4_lp1354.toInt ≤ (n : Int)) → (∀ k, k ∉ ([] : List Nat) → v_lp1354 k = v k) → IX v_lp1354 F_lp1354 → alX v_lp1354 F_lp1354 = alX v F → va_P (dC, dI) classes (wX g c v_lp1354 F_lp1354 rc) H → va_S (AX g s.heap.size) s.heap H locs → lv_has ls 6 [(4, .int x4_lp1354), (3, .int z1351), (0, .ref (g 10)), (1, .int p0), (2, .int p1)] → W p l e (headSpec (Cond.code yX5_reckon cX5_reckon 6 none :: wA) ({ frames := 5, cells := 0, slots := 0, locals := 200 })).room s m ([.ref (g 10), .int p0, .int p1] : List Value).toArray below meth c0 H locs 0 0 (MQ below (va_Qv (fun (u : StX) => IX u.1 u.2.1 ∧ alX u.1 u.2.1 = alX v F ∧ u.2.2 = rc ∧ (∀ k, k ∉ ([126] : List Nat) → u.1 k = v k) ∧ True) (BX dC dI g c) (AX g s.heap.size)) ([.ref (g 10), .int p0, .int p1] : List Value).toArray s 0 0 (AX g s.heap.size)) (F0 m 13 ls []) := by
    intro n
    induction n with
    | zero =>
      intro x4_lp1354 v_lp1354 F_lp1354 H locs ls t1355 hm hf_lp1354 hI hal hP hS hl
      exfalso
      have := i32_rng x4_lp1354
      have hI1 := hI.1
      omega
    | succ n ih_lp1354 =>
      intro x4_lp1354 v_lp1354 F_lp1354 H locs ls t1355 hm hf_lp1354 hI hal hP hS hl
      have rx4_lp1354 := i32_rng x4_lp1354
      refine lv_iload hx hb dX5_reckon_13 (lv_at hl 0 rfl) ?_
      refine lv_iconst (v := 3) hx hb dX5_reckon_15 (by decide) ?_
      refine lv_icmp_ge (tgt := 53) hx hb dX5_reckon_16 (by decide) (fun c1356 => ?_) (fun c1356 => ?_)
      · skip
        have t1357 := cv_le (a := 3) (by decide) (b := x4_lp1354.toInt) rfl c1356
        refine lv_aload_n hx hb dX5_reckon_53 rfl (lv_at hl 2 rfl) ?_
        refine va_get (D := (dC, dI)) (ci := 5) (v := .ref (g 4)) (C := RX5) (T := TX5) (N := 6) hx hb hwd inA_X5 hown hK hP 10 rfl rfl 2 (by decide) (hwd _ wk_148) (fun _ h9 => h9) rfl dX5_reckon_54 ?_
        refine va_get (D := (dC, dI)) (ci := 9) (v := .ref (g 38)) (C := RX9) (T := TX9) (N := 11) hx hb hwd inA_X9 hown hK hP 4 rfl rfl 10 (by decide) (hwd _ wk_360) (fun _ h9 => h9) rfl dX5_reckon_57 ?_
        refine lv_iload_n hx hb dX5_reckon_60 rfl (lv_at hl 3 rfl) ?_
        refine va_iald hx hb hK hP 38 26 rfl rfl (i := p0) (vin (a := p0.toInt) rfl (by omega)) dX5_reckon_61 ?_
        refine lv_topi (fun z1358 e1359 => ?_)
        have t1360 : -1 ≤ z1358.toInt ∧ z1358.toInt ≤ 499 := by rw [e1359]; exact hI.2 38 _ _ rfl _
        refine lv_istore (lv' := [(4, .int z1358), (3, .int z1351), (0, .ref (g 10)), (1, .int p0), (2, .int p1)]) hx hb dX5_reckon_62 hl (by decide) rfl (fun ls hl => ?_)
        refine lv_iconst (v := 0) hx hb dX5_reckon_64 (by decide) ?_
        refine lv_istore (lv' := [(5, .int 0), (4, .int z1358), (3, .int z1351), (0, .ref (g 10)), (1, .int p0), (2, .int p1)]) hx hb dX5_reckon_65 hl (by decide) rfl (fun ls hl => ?_)
        have lp1361 : ∀ (n : Nat) (x5_lp1361 : Int32) (x4_lp1361 : Int32) (v_lp1361 : Nat → Int32) (F_lp1361 : Nat → Nat → Int32) (H : Heap) (locs : List Loc) (ls : Array Slot), (0 ≤ x5_lp1361.toInt) → (-1 ≤ x4_lp1361.toInt) → (x4_lp1361.toInt ≤ 499) → (2147483648 - x5_lp1361.toInt ≤ (n : Int)) → (∀ k, k ∉ ([126] : List Nat) → v_lp1361 k = v_lp1354 k) → IX v_lp1361 F_lp1361 → alX v_lp1361 F_lp1361 = alX v F → va_P (dC, dI) classes (wX g c v_lp1361 F_lp1361 rc) H → va_S (AX g s.heap.size) s.heap H locs → lv_has ls 6 [(5, .int x5_lp1361), (4, .int x4_lp1361), (3, .int z1351), (0, .ref (g 10)), (1, .int p0), (2, .int p1)] → W p l e (headSpec (Cond.code yX5_reckon cX5_reckon 6 none :: wA) ({ frames := 5, cells := 0, slots := 0, locals := 200 })).room s m ([.ref (g 10), .int p0, .int p1] : List Value).toArray below meth c0 H locs 0 0 (MQ below (va_Qv (fun (u : StX) => IX u.1 u.2.1 ∧ alX u.1 u.2.1 = alX v F ∧ u.2.2 = rc ∧ (∀ k, k ∉ ([126] : List Nat) → u.1 k = v k) ∧ True) (BX dC dI g c) (AX g s.heap.size)) ([.ref (g 10), .int p0, .int p1] : List Value).toArray s 0 0 (AX g s.heap.size)) (F0 m 67 ls []) := by
          intro n
          induction n with
          | zero =>
            intro x5_lp1361 x4_lp1361 v_lp1361 F_lp1361 H locs ls t1362 t1363 t1364 hm hf_lp1361 hI hal hP hS hl
            exfalso
            have := i32_rng x5_lp1361
            have := i32_rng x4_lp1361
            have hI1 := hI.1
            omega
          | succ n ih_lp1361 =>
            intro x5_lp1361 x4_lp1361 v_lp1361 F_lp1361 H locs ls t1362 t1363 t1364 hm hf_lp1361 hI hal hP hS hl
            have rx5_lp1361 := i32_rng x5_lp1361
            have rx4_lp1361 := i32_rng x4_lp1361
            refine lv_iload hx hb dX5_reckon_67 (lv_at hl 0 rfl) ?_
            refine lv_sipush (v := 500) hx hb dX5_reckon_69 (by decide) ?_
            refine lv_icmp_ge (tgt := 124) hx hb dX5_reckon_72 (by decide) (fun c1365 => ?_) (fun c1365 => ?_)
            · skip
              have t1366 := cv_le (a := 500) (by decide) (b := x5_lp1361.toInt) rfl c1365
              have hP9 : va_P (dC, dI) classes (wX g c v_lp1361 F_lp1361 rc) H := hP
              exact W.vret hx hb hr (fun t ht hW => ⟨⟨(v_lp1361, F_lp1361, rc), rfl, ⟨hI, hal, rfl, (frC (by decide) hf_lp1361 (frC (by decide) hf_lp1354 (fun _ _ => rfl))), trivial⟩, (by show va_P _ _ _ t.heap; rw [ht]; exact hP9)⟩, hS.F ht⟩) hS.2.2 dX5_reckon_124
            · skip
              have t1367 := cv_nle (a := 500) (by decide) (b := x5_lp1361.toInt) rfl c1365
              refine lv_iload hx hb dX5_reckon_75 (lv_at hl 1 rfl) ?_
              refine lv_iconst (v := (-1)) hx hb dX5_reckon_77 (by decide) ?_
              refine lv_icmp_eq (tgt := 124) hx hb dX5_reckon_78 (by decide) (fun c1368 => ?_) (fun c1368 => ?_)
              · skip
                have t1369 := cv_eq (a := x4_lp1361.toInt) rfl (b := (-1)) (by decide) c1368
                have hP9 : va_P (dC, dI) classes (wX g c v_lp1361 F_lp1361 rc) H := hP
                exact W.vret hx hb hr (fun t ht hW => ⟨⟨(v_lp1361, F_lp1361, rc), rfl, ⟨hI, hal, rfl, (frC (by decide) hf_lp1361 (frC (by decide) hf_lp1354 (fun _ _ => rfl))), trivial⟩, (by show va_P _ _ _ t.heap; rw [ht]; exact hP9)⟩, hS.F ht⟩) hS.2.2 dX5_reckon_124
              · skip
                have t1370 := cv_ne (a := x4_lp1361.toInt) rfl (b := (-1)) (by decide) c1368
                refine lv_aload_n hx hb dX5_reckon_81 rfl (lv_at hl 3 rfl) ?_
                refine va_get (D := (dC, dI)) (ci := 5) (v := .ref (g 4)) (C := RX5) (T := TX5) (N := 6) hx hb hwd inA_X5 hown hK hP 10 rfl rfl 2 (by decide) (hwd _ wk_148) (fun _ h9 => h9) rfl dX5_reckon_82 ?_
                refine lv_iload hx hb dX5_reckon_85 (lv_at hl 1 rfl) ?_
                refine va_calli (va_runV (As := [.int x4_lp1361]) (rest := []) ⟨hx, hb, hml, hown, hwd⟩ (c_X9_isGap l dC dI g c adK adV v_lp1361 F_lp1361 rc H.size x4_lp1361 hg hI (by omega)) (cwV 1 hwd (gV wk_373 wk_370 wk_371 wk_372 wk_22) rfl rfl rfl (by decide +kernel) ⟨Nat.le_of_ble_eq_true rfl, Nat.le_of_ble_eq_true rfl⟩) ⟨PX.blind, va_recv hK hP (ci := 9) (q0 := 4) rfl rfl, fun U hU hW => ⟨rfl, PX.at hK hE hP hS hU hW⟩⟩ rfl rfl hl.1 rfl (lv_room (Nat.le_of_ble_eq_true rfl)) dX5_reckon_87 ⟨Nat.le_of_ble_eq_true rfl, Nat.le_of_ble_eq_true rfl⟩) hS (fun q _ h => (freeX hS) q h) (freeX hS) (fun r1371 u t H1 locs ht hvm hw hB hz1 hk1 hS => ?_)
                unfold BX at hB
                rw [ht] at hB
                have hP : va_P (dC, dI) classes (wX g c v_lp1361 F_lp1361 rc) H1 := hB
                have hw : 0 ≤ r1371.toInt ∧ r1371.toInt ≤ 1 := hw
                generalize H1 = H at hP hS ⊢
                have hw_r1371 := hw
                refine lv_if_eq (tgt := 106) hx hb dX5_reckon_90 (by decide) (fun c1372 => ?_) (fun c1372 => ?_)
                · skip
                  have t1373 := cv_eq (a := r1371.toInt) rfl (b := 0) (by decide) c1372
                  refine lv_aload_n hx hb dX5_reckon_106 rfl (lv_at hl 3 rfl) ?_
                  refine va_get (D := (dC, dI)) (ci := 5) (v := .ref (g 4)) (C := RX5) (T := TX5) (N := 6) hx hb hwd inA_X5 hown hK hP 10 rfl rfl 2 (by decide) (hwd _ wk_148) (fun _ h9 => h9) rfl dX5_reckon_107 ?_
                  refine va_get (D := (dC, dI)) (ci := 9) (v := .ref (g 37)) (C := RX9) (T := TX9) (N := 11) hx hb hwd inA_X9 hown hK hP 4 rfl rfl 9 (by decide) (hwd _ wk_361) (fun _ h9 => h9) rfl dX5_reckon_110 ?_
                  refine lv_iload hx hb dX5_reckon_113 (lv_at hl 1 rfl) ?_
                  refine va_iald hx hb hK hP 37 25 rfl rfl (i := x4_lp1361) (vin (a := x4_lp1361.toInt) rfl (by omega)) dX5_reckon_115 ?_
                  refine lv_topi (fun z1374 e1375 => ?_)
                  have t1376 : -1 ≤ z1374.toInt ∧ z1374.toInt ≤ 499 := by rw [e1375]; exact hI.2 37 _ _ rfl _
                  refine lv_istore (lv' := [(4, .int z1374), (5, .int x5_lp1361), (3, .int z1351), (0, .ref (g 10)), (1, .int p0), (2, .int p1)]) hx hb dX5_reckon_116 hl (by decide) rfl (fun ls hl => ?_)
                  obtain ⟨z1377, e1378⟩ : ∃ y : Int32, y = x5_lp1361 + 1 := ⟨_, rfl⟩
                  try (have t1379 := tadd e1378 rfl (b := 1) (by decide) (by omega))
                  refine lv_iinc (v := z1377) (lv' := [(5, .int z1377), (4, .int z1374), (3, .int z1351), (0, .ref (g 10)), (1, .int p0), (2, .int p1)]) hx hb dX5_reckon_118 hl (k := 1) rfl (by rw [e1378]; rfl) (by decide) rfl (fun ls hl => ?_)
                  refine lv_goto (tgt := 67) hx hb dX5_reckon_121 (by decide) ?_
                  exact ih_lp1361 z1377 z1374 v_lp1361 F_lp1361 _ _ _ (by omega) (by omega) (by omega) (by omega) hf_lp1361 hI hal hP hS (lv_sub hl [0, 1, 2, 3, 4, 5] rfl)
                · skip
                  have t1380 := cv_ne (a := r1371.toInt) rfl (b := 0) (by decide) c1372
                  refine lv_aload_n hx hb dX5_reckon_93 rfl (lv_at hl 3 rfl) ?_
                  refine lv_iload_n hx hb dX5_reckon_94 rfl (lv_at hl 2 rfl) ?_
                  refine lv_aload_n hx hb dX5_reckon_95 rfl (lv_at hl 3 rfl) ?_
                  refine lv_iload_n hx hb dX5_reckon_96 rfl (lv_at hl 4 rfl) ?_
                  refine lv_iload hx hb dX5_reckon_97 (lv_at hl 1 rfl) ?_
                  refine lv_iload_n hx hb dX5_reckon_99 rfl (lv_at hl 5 rfl) ?_
                  refine va_calli (va_runV (As := [.int p0, .int x4_lp1361, .int p1]) (rest := [.int z1351, .ref (g 10)]) ⟨hx, hb, hml, hown, hwd⟩ (c_X5_hundredths l dC dI g c adK adV v_lp1361 F_lp1361 rc H.size p0 x4_lp1361 p1 hg hI (by omega) (by omega)) (cwV 3 hwd (gV wk_382 wk_379 wk_380 wk_381 wk_50) rfl rfl rfl (by decide +kernel) ⟨Nat.le_of_ble_eq_true rfl, Nat.le_of_ble_eq_true rfl⟩) ⟨PX.blind, va_recv hK hP (ci := 5) (q0 := 10) rfl rfl, fun U hU hW => ⟨rfl, PX.at hK hE hP hS hU hW⟩⟩ rfl rfl hl.1 rfl (lv_room (Nat.le_of_ble_eq_true rfl)) dX5_reckon_100 ⟨Nat.le_of_ble_eq_true rfl, Nat.le_of_ble_eq_true rfl⟩) hS (fun q _ h => (freeX hS) q h) (freeX hS) (fun r1381 u t H1 locs ht hvm hw hB hz1 hk1 hS => ?_)
                  unfold BX at hB
                  rw [ht] at hB
                  obtain ⟨v1382, F1383, rc9⟩ := u
                  obtain ⟨hI, hal9, hrc, hf1384, hw⟩ := hw
                  dsimp only at hI hal9 hrc hB hf1384 hw
                  rw [hrc] at hB
                  have hal := hal9.trans hal
                  have hP : va_P (dC, dI) classes (wX g c v1382 F1383 rc) H1 := hB
                  generalize H1 = H at hP hS ⊢
                  have rr_r1381 := i32_rng r1381
                  refine va_callv (va_runV (As := [.int z1351, .int r1381]) (rest := []) ⟨hx, hb, hml, hown, hwd⟩ (c_X5_takeAway l dC dI g c adK adV v1382 F1383 rc H.size z1351 r1381 hg hI (by omega)) (cwV 2 hwd (gV wk_427 wk_424 wk_425 wk_426 wk_50) rfl rfl rfl (by decide +kernel) ⟨Nat.le_of_ble_eq_true rfl, Nat.le_of_ble_eq_true rfl⟩) ⟨PX.blind, va_recv hK hP (ci := 5) (q0 := 10) rfl rfl, fun U hU hW => ⟨rfl, PX.at hK hE hP hS hU hW⟩⟩ rfl rfl hl.1 rfl (lv_room (Nat.le_of_ble_eq_true rfl)) dX5_reckon_103 ⟨Nat.le_of_ble_eq_true rfl, Nat.le_of_ble_eq_true rfl⟩) hS (fun q _ h => (freeX hS) q h) (freeX hS) (fun u t H1 locs ht hvm hw hB hz1 hk1 hS => ?_)
                  unfold BX at hB
                  rw [ht] at hB
                  obtain ⟨v1386, F1387, rc9⟩ := u
                  obtain ⟨hI, hal9, hrc, hf1388, hw⟩ := hw
                  dsimp only at hI hal9 hrc hB hf1388 hw
                  rw [hrc] at hB
                  have hal := hal9.trans hal
                  have hP : va_P (dC, dI) classes (wX g c v1386 F1387 rc) H1 := hB
                  generalize H1 = H at hP hS ⊢
                  refine lv_aload_n hx hb dX5_reckon_106 rfl (lv_at hl 3 rfl) ?_
                  refine va_get (D := (dC, dI)) (ci := 5) (v := .ref (g 4)) (C := RX5) (T := TX5) (N := 6) hx hb hwd inA_X5 hown hK hP 10 rfl rfl 2 (by decide) (hwd _ wk_148) (fun _ h9 => h9) rfl dX5_reckon_107 ?_
                  refine va_get (D := (dC, dI)) (ci := 9) (v := .ref (g 37)) (C := RX9) (T := TX9) (N := 11) hx hb hwd inA_X9 hown hK hP 4 rfl rfl 9 (by decide) (hwd _ wk_361) (fun _ h9 => h9) rfl dX5_reckon_110 ?_
                  refine lv_iload hx hb dX5_reckon_113 (lv_at hl 1 rfl) ?_
                  refine va_iald hx hb hK hP 37 25 rfl rfl (i := x4_lp1361) (vin (a := x4_lp1361.toInt) rfl (by omega)) dX5_reckon_115 ?_
                  refine lv_topi (fun z1389 e1390 => ?_)
                  have t1391 : -1 ≤ z1389.toInt ∧ z1389.toInt ≤ 499 := by rw [e1390]; exact hI.2 37 _ _ rfl _
                  refine lv_istore (lv' := [(4, .int z1389), (5, .int x5_lp1361), (3, .int z1351), (0, .ref (g 10)), (1, .int p0), (2, .int p1)]) hx hb dX5_reckon_116 hl (by decide) rfl (fun ls hl => ?_)
                  obtain ⟨z1392, e1393⟩ : ∃ y : Int32, y = x5_lp1361 + 1 := ⟨_, rfl⟩
                  try (have t1394 := tadd e1393 rfl (b := 1) (by decide) (by omega))
                  refine lv_iinc (v := z1392) (lv' := [(5, .int z1392), (4, .int z1389), (3, .int z1351), (0, .ref (g 10)), (1, .int p0), (2, .int p1)]) hx hb dX5_reckon_118 hl (k := 1) rfl (by rw [e1393]; rfl) (by decide) rfl (fun ls hl => ?_)
                  refine lv_goto (tgt := 67) hx hb dX5_reckon_121 (by decide) ?_
                  exact ih_lp1361 z1392 z1389 v1386 F1387 _ _ _ (by omega) (by omega) (by omega) (by omega) (frC (by decide) hf1388 (frC (by decide) hf1384 hf_lp1361)) hI hal hP hS (lv_sub hl [0, 1, 2, 3, 4, 5] rfl)
        obtain ⟨n9, hn9⟩ : ∃ n : Nat, 2147483648 - 0 ≤ (n : Int) := ⟨((2147483648 - 0 : Int)).toNat, by omega⟩
        exact lp1361 n9 0 z1358 v_lp1354 F_lp1354 H _ ls (by have : (0 : Int32).toInt = 0 := (by decide); omega) (by have : (0 : Int32).toInt = 0 := (by decide); omega) (by have : (0 : Int32).toInt = 0 := (by decide); omega) (by have : (0 : Int32).toInt = 0 := (by decide); omega) (fun _ _ => rfl) hI hal hP hS hl
      · skip
        have t1395 := cv_nle (a := 3) (by decide) (b := x4_lp1354.toInt) rfl c1356
        refine lv_aload_n hx hb dX5_reckon_19 rfl (lv_at hl 2 rfl) ?_
        refine va_get (D := (dC, dI)) (ci := 5) (v := .ref (g 74)) (C := RX5) (T := TX5) (N := 6) hx hb hwd inA_X5 hown hK hP 10 rfl rfl 5 (by decide) (hwd _ wk_144) (fun _ h9 => h9) rfl dX5_reckon_20 ?_
        refine lv_iload hx hb dX5_reckon_23 (lv_at hl 0 rfl) ?_
        refine lv_aload_n hx hb dX5_reckon_25 rfl (lv_at hl 2 rfl) ?_
        refine va_get (D := (dC, dI)) (ci := 5) (v := .ref (g 1)) (C := RX5) (T := TX5) (N := 6) hx hb hwd inA_X5 hown hK hP 10 rfl rfl 0 (by decide) (hwd _ wk_145) (fun _ h9 => h9) rfl dX5_reckon_26 ?_
        refine lv_iload_n hx hb dX5_reckon_29 rfl (lv_at hl 1 rfl) ?_
        refine lv_iload hx hb dX5_reckon_30 (lv_at hl 0 rfl) ?_
        refine va_calli (va_runV (As := [.int z1351, .int x4_lp1354]) (rest := [.int x4_lp1354, .ref (g 74)]) ⟨hx, hb, hml, hown, hwd⟩ (c_X2_limitOf l dC dI g c adK adV v_lp1354 F_lp1354 rc H.size z1351 x4_lp1354 hg hI (by omega) (by omega)) (cwV 2 hwd (gV wk_365 wk_362 wk_363 wk_364 wk_14) rfl rfl rfl (by decide +kernel) ⟨Nat.le_of_ble_eq_true rfl, Nat.le_of_ble_eq_true rfl⟩) ⟨PX.blind, va_recv hK hP (ci := 2) (q0 := 1) rfl rfl, fun U hU hW => ⟨rfl, PX.at hK hE hP hS hU hW⟩⟩ rfl rfl hl.1 rfl (lv_room (Nat.le_of_ble_eq_true rfl)) dX5_reckon_32 ⟨Nat.le_of_ble_eq_true rfl, Nat.le_of_ble_eq_true rfl⟩) hS (fun q _ h => (freeX hS) q h) (freeX hS) (fun r1396 u t H1 locs ht hvm hw hB hz1 hk1 hS => ?_)
        unfold BX at hB
        rw [ht] at hB
        have hP : va_P (dC, dI) classes (wX g c v_lp1354 F_lp1354 rc) H1 := hB
        generalize H1 = H at hP hS ⊢
        have rr_r1396 := i32_rng r1396
        refine lv_aload_n hx hb dX5_reckon_35 rfl (lv_at hl 2 rfl) ?_
        refine va_get (D := (dC, dI)) (ci := 5) (v := .ref (g 3)) (C := RX5) (T := TX5) (N := 6) hx hb hwd inA_X5 hown hK hP 10 rfl rfl 1 (by decide) (hwd _ wk_146) (fun _ h9 => h9) rfl dX5_reckon_36 ?_
        refine lv_iload_n hx hb dX5_reckon_39 rfl (lv_at hl 3 rfl) ?_
        refine lv_iload hx hb dX5_reckon_40 (lv_at hl 0 rfl) ?_
        refine va_calli (va_runV (As := [.int p0, .int x4_lp1354]) (rest := [.int r1396, .int x4_lp1354, .ref (g 74)]) ⟨hx, hb, hml, hown, hwd⟩ (c_X7_usedOf l dC dI g c adK adV v_lp1354 F_lp1354 rc H.size p0 x4_lp1354 hg hI (by omega) (by omega)) (cwV 2 hwd (gV wk_369 wk_366 wk_367 wk_368 wk_26) rfl rfl rfl (by decide +kernel) ⟨Nat.le_of_ble_eq_true rfl, Nat.le_of_ble_eq_true rfl⟩) ⟨PX.blind, va_recv hK hP (ci := 7) (q0 := 3) rfl rfl, fun U hU hW => ⟨rfl, PX.at hK hE hP hS hU hW⟩⟩ rfl rfl hl.1 rfl (lv_room (Nat.le_of_ble_eq_true rfl)) dX5_reckon_42 ⟨Nat.le_of_ble_eq_true rfl, Nat.le_of_ble_eq_true rfl⟩) hS (fun q _ h => (freeX hS) q h) (freeX hS) (fun r1397 u t H1 locs ht hvm hw hB hz1 hk1 hS => ?_)
        unfold BX at hB
        rw [ht] at hB
        have hP : va_P (dC, dI) classes (wX g c v_lp1354 F_lp1354 rc) H1 := hB
        generalize H1 = H at hP hS ⊢
        have rr_r1397 := i32_rng r1397
        refine lv_isub hx hb dX5_reckon_45 ?_
        refine lv_topi (fun z1398 e1399 => ?_)
        try (have t1400 := tsub e1399 (a := r1396.toInt) rfl (b := r1397.toInt) rfl (by omega))
        refine va_iast hx hb hK hP (DX hg) hS 74 62 rfl rfl (i := x4_lp1354) (x := z1398) (vin (a := x4_lp1354.toInt) rfl (by omega)) dX5_reckon_46 (fun H locs hP _ hS => ?_)
        have hP := va_P_eq (sX_74 g c _ _ _ _) hP
        have hI := IX.store0 hI 74 (x4_lp1354 : Int32).toNatClampNeg z1398 rfl
        have hal := (alX_F _ _ 74 (upd (F_lp1354 74) (x4_lp1354 : Int32).toNatClampNeg z1398) (by decide) (by decide) (by decide) (by decide) (by decide)).trans hal
        have hP : va_P (dC, dI) classes (wX g c v_lp1354 (va_up F_lp1354 74 (upd (F_lp1354 74) (x4_lp1354 : Int32).toNatClampNeg z1398)) rc) H := hP
        generalize (va_up F_lp1354 74 (upd (F_lp1354 74) (x4_lp1354 : Int32).toNatClampNeg z1398)) = F1401 at hP hI hal
        obtain ⟨z1402, e1403⟩ : ∃ y : Int32, y = x4_lp1354 + 1 := ⟨_, rfl⟩
        try (have t1404 := tadd e1403 rfl (b := 1) (by decide) (by omega))
        refine lv_iinc (v := z1402) (lv' := [(4, .int z1402), (3, .int z1351), (0, .ref (g 10)), (1, .int p0), (2, .int p1)]) hx hb dX5_reckon_47 hl (k := 0) rfl (by rw [e1403]; rfl) (by decide) rfl (fun ls hl => ?_)
        refine lv_goto (tgt := 13) hx hb dX5_reckon_50 (by decide) ?_
        exact ih_lp1354 z1402 v_lp1354 F1401 _ _ _ (by omega) (by omega) hf_lp1354 hI hal hP hS (lv_sub hl [0, 1, 2, 3, 4] rfl)
  obtain ⟨n9, hn9⟩ : ∃ n : Nat, 2147483648 - 0 ≤ (n : Int) := ⟨((2147483648 - 0 : Int)).toNat, by omega⟩
  exact lp1354 n9 0 v F H _ ls (by have : (0 : Int32).toInt = 0 := (by decide); omega) (by have : (0 : Int32).toInt = 0 := (by decide); omega) (fun _ _ => rfl) hI hal hP hS hl
