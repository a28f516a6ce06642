set_option maxHeartbeats 8000000 in
set_option maxRecDepth 100000 in
theorem c_X4_workOut (l : Launch) (dC : Nat → ClassId) (dI : Nat → Nat → Nat) (g : Nat → Nat) (c : Nat → ClassId) (adK adV : Nat → Nat) (v : Nat → Int32) (F : Nat → Nat → Int32) (rc sz : Nat) (p0 : Int32) (hg : injX g) (hI : IX v F) (h0 : 0 ≤ p0.toInt ∧ p0.toInt ≤ 9) : Met l yX4_workOut (Cond.code yX4_workOut cX4_workOut 7 (some .int) :: wA) ({ frames := 2, cells := 0, slots := 0, locals := 80 }) (va_Pc [.ref (g 6), .int p0, .ref (g 73)] (PX dC dI g c adK adV v F rc sz)) (va_Qi (fun (r : Int32) (u : StX) => IX u.1 u.2.1 ∧ alX u.1 u.2.1 = alX v F ∧ u.2.2 = rc ∧ (∀ k, k ∉ ([126] : List Nat) → u.1 k = v k) ∧ True) (BX dC dI g c) (AX g sz)) 0 0 (AX g sz) := by
  refine Met.ofW (cc := cX4_workOut) (maxL := 7) (ret := (some .int)) (by decide) rfl ?_
  intro p e s m args below meth c0 s₁ B hml hv
  obtain ⟨rfl, hsz, hP, hK, hE⟩ := hv
  have hx := B.exec
  have hb := B.bytes
  have hr := B.returns
  have hts := atoms_spec (ws := Cond.code yX4_workOut cX4_workOut 7 (some .int) :: wA) B.pre
  have hwd : ∀ w ∈ wA, w.before _ s = true := fun w h => hts w (List.mem_cons_of_mem _ h)
  have hown : s.vm.findClass RX4 = some m.cls := findClass_of_methodNamed B.named
  have hlocks := B.notSynchronized
  subst hsz
  have hl := lv_entry ([.ref (g 6), .int p0, .ref (g 73)]) (n := 7) (Nat.le_of_ble_eq_true rfl)
  rw [lg_entry_eq]
  generalize (lg_sl ([.ref (g 6), .int p0, .ref (g 73)]) ++ List.replicate (7 - (lg_sl ([.ref (g 6), .int p0, .ref (g 73)])).length) Slot.unset).toArray = ls at hl ⊢
  have hl : lv_has ls 7 [(0, .ref (g 6)), (1, .int p0), (2, .ref (g 73))] := hl
  obtain ⟨H, eH⟩ : ∃ z, z = s.heap := ⟨_, rfl⟩
  have hP : va_P (dC, dI) classes (wX g c v F rc) H := by rw [eH]; exact hP
  have hS : va_S (AX g s.heap.size) s.heap H [] := by rw [eH]; exact va_S.rf
  refine my_heap eH ?_
  have hal : alX v F = alX v F := rfl
  have rp0 := i32_rng p0
  refine lv_aload_n hx hb dX4_workOut_0 rfl (lv_at hl 0 rfl) ?_
  refine lv_iconst (v := 0) hx hb dX4_workOut_1 (by decide) ?_
  refine va_put (D := (dC, dI)) (ci := 4) (v := .int 0) (ty := .int) (C := RX4) (T := TX4) (N := 7) (fs := fsX_6 g v rc) hx hb hwd inA_X4 tyX4 tyX4_ok nmX4 hown hK hP (DX hg) hS 6 rfl rfl 6 (by decide) (hwd _ wk_411) (fun _ h9 => h9) rfl (by decide +kernel) rfl rfl (Nat.le_of_ble_eq_true rfl) dX4_workOut_2 (fun H locs hP _ hS => ?_)
  have hP := va_P_eq (pX_126 g c _ _ _ _) hP
  have hI := IX.put hI 126 0 rfl (by have : (0 : Int32).toInt = 0 := (by decide); omega)
  have hal := (alX_v _ _ 126 0 (by decide) (by decide) (by decide) (by decide)).trans hal
  refine lv_iconst (v := 0) hx hb dX4_workOut_5 (by decide) ?_
  refine lv_istore_n (lv' := [(3, .int 0), (0, .ref (g 6)), (1, .int p0), (2, .ref (g 73))]) hx hb dX4_workOut_6 rfl hl (by decide) rfl (fun ls hl => ?_)
  have lp1332 : ∀ (n : Nat) (x3_lp1332 : Int32) (v_lp1332 : Nat → Int32) (F_lp1332 : Nat → Nat → Int32) (H : Heap) (locs : List Loc) (ls : Array Slot), (0 ≤ x3_lp1332.toInt) → (x3_lp1332.toInt ≤ 2147483646) → (2147483648 - x3_lp1332.toInt ≤ (n : Int)) → (∀ k, k ∉ ([126] : List Nat) → v_lp1332 k = (va_up v 126 0) k) → IX v_lp1332 F_lp1332 → alX v_lp1332 F_lp1332 = alX v F → va_P (dC, dI) classes (wX g c v_lp1332 F_lp1332 rc) H → va_S (AX g s.heap.size) s.heap H locs → lv_has ls 7 [(3, .int x3_lp1332), (0, .ref (g 6)), (1, .int p0), (2, .ref (g 73))] → W p l e (headSpec (Cond.code yX4_workOut cX4_workOut 7 (some .int) :: wA) ({ frames := 2, cells := 0, slots := 0, locals := 80 })).room s m ([.ref (g 6), .int p0, .ref (g 73)] : List Value).toArray below meth c0 H locs 0 0 (MQ below (va_Qi (fun (r : Int32) (u : StX) => IX u.1 u.2.1 ∧ alX u.1 u.2.1 = alX v F ∧ u.2.2 = rc ∧ (∀ k, k ∉ ([126] : List Nat) → u.1 k = v k) ∧ True) (BX dC dI g c) (AX g s.heap.size)) ([.ref (g 6), .int p0, .ref (g 73)] : List Value).toArray s 0 0 (AX g s.heap.size)) (F0 m 7 ls []) := by
    intro n
    induction n with
    | zero =>
      intro x3_lp1332 v_lp1332 F_lp1332 H locs ls t1333 t1334 hm hf_lp1332 hI hal hP hS hl
      exfalso
      have := i32_rng x3_lp1332
      have hI1 := hI.1
      omega
    | succ n ih_lp1332 =>
      intro x3_lp1332 v_lp1332 F_lp1332 H locs ls t1333 t1334 hm hf_lp1332 hI hal hP hS hl
      have rx3_lp1332 := i32_rng x3_lp1332
      refine lv_iload_n hx hb dX4_workOut_7 rfl (lv_at hl 0 rfl) ?_
      refine lv_aload_n hx hb dX4_workOut_8 rfl (lv_at hl 1 rfl) ?_
      refine va_get (D := (dC, dI)) (ci := 4) (v := .ref (g 42)) (C := RX4) (T := TX4) (N := 7) hx hb hwd inA_X4 hown hK hP 6 rfl rfl 3 (by decide) (hwd _ wk_110) (fun _ h9 => h9) rfl dX4_workOut_9 ?_
      refine lv_iload_n hx hb dX4_workOut_12 rfl (lv_at hl 2 rfl) ?_
      refine va_iald hx hb hK hP 42 30 rfl rfl (i := p0) (vin (a := p0.toInt) rfl (by omega)) dX4_workOut_13 ?_
      refine lv_topi (fun z1335 e1336 => ?_)
      have t1337 : 0 ≤ z1335.toInt ∧ z1335.toInt ≤ 120 := by rw [e1336]; exact hI.2 42 _ _ rfl _
      refine lv_icmp_ge (tgt := 185) hx hb dX4_workOut_14 (by decide) (fun c1338 => ?_) (fun c1338 => ?_)
      · skip
        have t1339 := cv_le (a := z1335.toInt) rfl (b := x3_lp1332.toInt) rfl c1338
        refine lv_aload_n hx hb dX4_workOut_185 rfl (lv_at hl 1 rfl) ?_
        refine va_calli (va_runV (As := []) (rest := []) ⟨hx, hb, hml, hown, hwd⟩ (c_X4_pop l dC dI g c adK adV v_lp1332 F_lp1332 rc H.size  hg hI ) (cwV 0 hwd (gV wk_420 wk_417 wk_418 wk_419 wk_34) rfl rfl rfl (by decide +kernel) ⟨Nat.le_of_ble_eq_true rfl, Nat.le_of_ble_eq_true rfl⟩) ⟨PX.blind, va_recv hK hP (ci := 4) (q0 := 6) rfl rfl, fun U hU hW => ⟨rfl, PX.at hK hE hP hS hU hW⟩⟩ rfl rfl hl.1 rfl (lv_room (Nat.le_of_ble_eq_true rfl)) dX4_workOut_186 ⟨Nat.le_of_ble_eq_true rfl, Nat.le_of_ble_eq_true rfl⟩) hS (fun q _ h => (freeX hS) q h) (freeX hS) (fun r1340 u t H1 locs ht hvm hw hB hz1 hk1 hS => ?_)
        unfold BX at hB
        rw [ht] at hB
        obtain ⟨v1341, F1342, rc9⟩ := u
        obtain ⟨hI, hal9, hrc, hf1343, hw⟩ := hw
        dsimp only at hI hal9 hrc hB hf1343 hw
        rw [hrc] at hB
        have hal := hal9.trans hal
        have hP : va_P (dC, dI) classes (wX g c v1341 F1342 rc) H1 := hB
        generalize H1 = H at hP hS ⊢
        have rr_r1340 := i32_rng r1340
        have hP9 : va_P (dC, dI) classes (wX g c v1341 F1342 rc) H := hP
        exact W.iret (v := r1340) hx hb hr (fun t ht hW => ⟨⟨r1340, (v1341, F1342, rc), rfl, ⟨hI, hal, rfl, (frC (by decide) hf1343 (frC (by decide) hf_lp1332 (frU (by decide) (fun _ _ => rfl)))), trivial⟩, (by show va_P _ _ _ t.heap; rw [ht]; exact hP9)⟩, hS.F ht⟩) hS.2.2 dX4_workOut_189
      · skip
        have t1344 := cv_nle (a := z1335.toInt) rfl (b := x3_lp1332.toInt) rfl c1338
        refine lv_aload_n hx hb dX4_workOut_17 rfl (lv_at hl 1 rfl) ?_
        refine va_get (D := (dC, dI)) (ci := 4) (v := .ref (g 43)) (C := RX4) (T := TX4) (N := 7) hx hb hwd inA_X4 hown hK hP 6 rfl rfl 4 (by decide) (hwd _ wk_112) (fun _ h9 => h9) rfl dX4_workOut_18 ?_
        refine lv_iload_n hx hb dX4_workOut_21 rfl (lv_at hl 2 rfl) ?_
        refine my_aald hx hb hK hP 43 31 rfl rfl (i := p0) (vin (a := p0.toInt) rfl (by omega)) dX4_workOut_22 ?_
        have t1345 : (p0).toNatClampNeg < 10 := nclt (a := p0.toInt) rfl (by omega)
        refine my_any (v := .ref (g (44 + (p0).toNatClampNeg))) (by show va_rf (if _ < 10 then _ else _) = _; rw [if_pos t1345]; rfl) ?_
        refine lv_iload_n hx hb dX4_workOut_23 rfl (lv_at hl 0 rfl) ?_
        refine va_iald hx hb hK hP (44 + (p0).toNatClampNeg) (32 + (p0).toNatClampNeg) (rowW44 t1345) (rowT44 t1345) (i := x3_lp1332) (vin (a := x3_lp1332.toInt) rfl (by omega)) dX4_workOut_24 ?_
        refine lv_topi (fun z1346 e1347 => ?_)
        have t1348 : 0 ≤ z1346.toInt ∧ z1346.toInt ≤ 2147483647 := by rw [e1347]; exact hI.2 _ _ _ (rowA44 t1345) _
        refine lv_bipush (v := 15) hx hb dX4_workOut_25 (by decide) ?_
        refine lv_iand hx hb dX4_workOut_27 ?_
        refine lv_topi (fun z1349 e1350 => ?_)
        have taz1349 := i32_rng z1349
        refine lv_istore (lv' := [(4, .int z1349), (3, .int x3_lp1332), (0, .ref (g 6)), (1, .int p0), (2, .ref (g 73))]) hx hb dX4_workOut_28 hl (by decide) rfl (fun ls hl => ?_)
        refine lv_aload_n hx hb dX4_workOut_30 rfl (lv_at hl 2 rfl) ?_
        refine va_get (D := (dC, dI)) (ci := 4) (v := .ref (g 43)) (C := RX4) (T := TX4) (N := 7) hx hb hwd inA_X4 hown hK hP 6 rfl rfl 4 (by decide) (hwd _ wk_112) (fun _ h9 => h9) rfl dX4_workOut_31 ?_
        refine lv_iload_n hx hb dX4_workOut_34 rfl (lv_at hl 3 rfl) ?_
        refine my_aald hx hb hK hP 43 31 rfl rfl (i := p0) (vin (a := p0.toInt) rfl (by omega)) dX4_workOut_35 ?_
        have t1352 : (p0).toNatClampNeg < 10 := nclt (a := p0.toInt) rfl (by omega)
        refine my_any (v := .ref (g (44 + (p0).toNatClampNeg))) (by show va_rf (if _ < 10 then _ else _) = _; rw [if_pos t1352]; rfl) ?_
        refine lv_iload_n hx hb dX4_workOut_36 rfl (lv_at hl 1 rfl) ?_
        refine va_iald hx hb hK hP (44 + (p0).toNatClampNeg) (32 + (p0).toNatClampNeg) (rowW44 t1352) (rowT44 t1352) (i := x3_lp1332) (vin (a := x3_lp1332.toInt) rfl (by omega)) dX4_workOut_37 ?_
        refine lv_topi (fun z1353 e1354 => ?_)
        have t1355 : 0 ≤ z1353.toInt ∧ z1353.toInt ≤ 2147483647 := by rw [e1354]; exact hI.2 _ _ _ (rowA44 t1352) _
        refine lv_iconst (v := 4) hx hb dX4_workOut_38 (by decide) ?_
        refine lv_ishr hx hb dX4_workOut_39 ?_
        refine lv_topi (fun z1356 e1357 => ?_)
        have tvz1356 := tshr4 e1357 (by omega)
        refine lv_istore (lv' := [(5, .int z1356), (4, .int z1349), (3, .int x3_lp1332), (0, .ref (g 6)), (1, .int p0), (2, .ref (g 73))]) hx hb dX4_workOut_40 hl (by decide) rfl (fun ls hl => ?_)
        refine lv_iload hx hb dX4_workOut_42 (lv_at hl 1 rfl) ?_
        by_cases hlo1359 : z1349.toInt < 0
        · refine lv_tableOut (tgt := 158) hx hb dX4_workOut_44 (Or.inl hlo1359) (by decide) ?_
          refine lv_aload_n hx hb dX4_workOut_158 rfl (lv_at hl 3 rfl) ?_
          refine va_calli (va_runV (As := []) (rest := []) ⟨hx, hb, hml, hown, hwd⟩ (c_X4_pop l dC dI g c adK adV v_lp1332 F_lp1332 rc H.size  hg hI ) (cwV 0 hwd (gV wk_420 wk_417 wk_418 wk_419 wk_34) rfl rfl rfl (by decide +kernel) ⟨Nat.le_of_ble_eq_true rfl, Nat.le_of_ble_eq_true rfl⟩) ⟨PX.blind, va_recv hK hP (ci := 4) (q0 := 6) rfl rfl, fun U hU hW => ⟨rfl, PX.at hK hE hP hS hU hW⟩⟩ rfl rfl hl.1 rfl (lv_room (Nat.le_of_ble_eq_true rfl)) dX4_workOut_159 ⟨Nat.le_of_ble_eq_true rfl, Nat.le_of_ble_eq_true rfl⟩) hS (fun q _ h => (freeX hS) q h) (freeX hS) (fun r1361 u t H1 locs ht hvm hw hB hz1 hk1 hS => ?_)
          unfold BX at hB
          rw [ht] at hB
          obtain ⟨v1362, F1363, rc9⟩ := u
          obtain ⟨hI, hal9, hrc, hf1364, hw⟩ := hw
          dsimp only at hI hal9 hrc hB hf1364 hw
          rw [hrc] at hB
          have hal := hal9.trans hal
          have hP : va_P (dC, dI) classes (wX g c v1362 F1363 rc) H1 := hB
          generalize H1 = H at hP hS ⊢
          have rr_r1361 := i32_rng r1361
          refine lv_istore (lv' := [(6, .int r1361), (5, .int z1356), (4, .int z1349), (3, .int x3_lp1332), (0, .ref (g 6)), (1, .int p0), (2, .ref (g 73))]) hx hb dX4_workOut_162 hl (by decide) rfl (fun ls hl => ?_)
          refine lv_aload_n hx hb dX4_workOut_164 rfl (lv_at hl 4 rfl) ?_
          refine lv_iload hx hb dX4_workOut_165 (lv_at hl 2 rfl) ?_
          refine lv_aload_n hx hb dX4_workOut_167 rfl (lv_at hl 4 rfl) ?_
          refine va_calli (va_runV (As := []) (rest := [.int z1349, .ref (g 6)]) ⟨hx, hb, hml, hown, hwd⟩ (c_X4_pop l dC dI g c adK adV v1362 F1363 rc H.size  hg hI ) (cwV 0 hwd (gV wk_420 wk_417 wk_418 wk_419 wk_34) rfl rfl rfl (by decide +kernel) ⟨Nat.le_of_ble_eq_true rfl, Nat.le_of_ble_eq_true rfl⟩) ⟨PX.blind, va_recv hK hP (ci := 4) (q0 := 6) rfl rfl, fun U hU hW => ⟨rfl, PX.at hK hE hP hS hU hW⟩⟩ rfl rfl hl.1 rfl (lv_room (Nat.le_of_ble_eq_true rfl)) dX4_workOut_168 ⟨Nat.le_of_ble_eq_true rfl, Nat.le_of_ble_eq_true rfl⟩) hS (fun q _ h => (freeX hS) q h) (freeX hS) (fun r1365 u t H1 locs ht hvm hw hB hz1 hk1 hS => ?_)
          unfold BX at hB
          rw [ht] at hB
          obtain ⟨v1366, F1367, rc9⟩ := u
          obtain ⟨hI, hal9, hrc, hf1368, hw⟩ := hw
          dsimp only at hI hal9 hrc hB hf1368 hw
          rw [hrc] at hB
          have hal := hal9.trans hal
          have hP : va_P (dC, dI) classes (wX g c v1366 F1367 rc) H1 := hB
          generalize H1 = H at hP hS ⊢
          have rr_r1365 := i32_rng r1365
          refine lv_iload hx hb dX4_workOut_171 (lv_at hl 0 rfl) ?_
          refine va_calli (va_runS (As := [.int z1349, .int r1365, .int r1361]) (rest := [.ref (g 6)]) ⟨hx, hb, hml, hown, hwd⟩ (c_X4_join l dC dI g c adK adV v1366 F1367 rc H.size z1349 r1365 r1361 hg hI ) (va_cwS 3 hwd (gT wk_423 wk_421 wk_422 wk_34) rfl rfl rfl (by decide +kernel) ⟨Nat.le_of_ble_eq_true rfl, Nat.le_of_ble_eq_true rfl⟩) ⟨PX.blind, fun U hU hW => ⟨rfl, PX.at hK hE hP hS hU hW⟩⟩ rfl rfl hl.1 rfl (lv_room (Nat.le_of_ble_eq_true rfl)) dX4_workOut_173 ⟨Nat.le_of_ble_eq_true rfl, Nat.le_of_ble_eq_true rfl⟩) hS (fun q _ h => (freeX hS) q h) (freeX hS) (fun r1369 u t H1 locs ht hvm hw hB hz1 hk1 hS => ?_)
          unfold BX at hB
          rw [ht] at hB
          have hP : va_P (dC, dI) classes (wX g c v1366 F1367 rc) H1 := hB
          generalize H1 = H at hP hS ⊢
          have rr_r1369 := i32_rng r1369
          refine va_callv (va_runV (As := [.int r1369]) (rest := []) ⟨hx, hb, hml, hown, hwd⟩ (c_X4_push l dC dI g c adK adV v1366 F1367 rc H.size r1369 hg hI ) (cwV 1 hwd (gV wk_416 wk_413 wk_414 wk_415 wk_34) rfl rfl rfl (by decide +kernel) ⟨Nat.le_of_ble_eq_true rfl, Nat.le_of_ble_eq_true rfl⟩) ⟨PX.blind, va_recv hK hP (ci := 4) (q0 := 6) rfl rfl, fun U hU hW => ⟨rfl, PX.at hK hE hP hS hU hW⟩⟩ rfl rfl hl.1 rfl (lv_room (Nat.le_of_ble_eq_true rfl)) dX4_workOut_176 ⟨Nat.le_of_ble_eq_true rfl, Nat.le_of_ble_eq_true rfl⟩) hS (fun q _ h => (freeX hS) q h) (freeX hS) (fun u t H1 locs ht hvm hw hB hz1 hk1 hS => ?_)
          unfold BX at hB
          rw [ht] at hB
          obtain ⟨v1371, F1372, rc9⟩ := u
          obtain ⟨hI, hal9, hrc, hf1373, hw⟩ := hw
          dsimp only at hI hal9 hrc hB hf1373 hw
          rw [hrc] at hB
          have hal := hal9.trans hal
          have hP : va_P (dC, dI) classes (wX g c v1371 F1372 rc) H1 := hB
          generalize H1 = H at hP hS ⊢
          obtain ⟨z1374, e1375⟩ : ∃ y : Int32, y = x3_lp1332 + 1 := ⟨_, rfl⟩
          try (have t1376 := tadd e1375 rfl (b := 1) (by decide) (by omega))
          refine lv_iinc (v := z1374) (lv' := [(3, .int z1374), (6, .int r1361), (5, .int z1356), (4, .int z1349), (0, .ref (g 6)), (1, .int p0), (2, .ref (g 73))]) hx hb dX4_workOut_179 hl (k := 3) rfl (by rw [e1375]; rfl) (by decide) rfl (fun ls hl => ?_)
          refine lv_goto (tgt := 7) hx hb dX4_workOut_182 (by decide) ?_
          exact ih_lp1332 z1374 v1371 F1372 _ _ _ (by omega) (by omega) (by omega) (frC (by decide) hf1373 (frC (by decide) hf1368 (frC (by decide) hf1364 hf_lp1332))) hI hal hP hS (lv_sub hl [0, 4, 5, 6] rfl)
        by_cases hhi1360 : 4 < z1349.toInt
        · refine lv_tableOut (tgt := 158) hx hb dX4_workOut_44 (Or.inr hhi1360) (by decide) ?_
          refine lv_aload_n hx hb dX4_workOut_158 rfl (lv_at hl 3 rfl) ?_
          refine va_calli (va_runV (As := []) (rest := []) ⟨hx, hb, hml, hown, hwd⟩ (c_X4_pop l dC dI g c adK adV v_lp1332 F_lp1332 rc H.size  hg hI ) (cwV 0 hwd (gV wk_420 wk_417 wk_418 wk_419 wk_34) rfl rfl rfl (by decide +kernel) ⟨Nat.le_of_ble_eq_true rfl, Nat.le_of_ble_eq_true rfl⟩) ⟨PX.blind, va_recv hK hP (ci := 4) (q0 := 6) rfl rfl, fun U hU hW => ⟨rfl, PX.at hK hE hP hS hU hW⟩⟩ rfl rfl hl.1 rfl (lv_room (Nat.le_of_ble_eq_true rfl)) dX4_workOut_159 ⟨Nat.le_of_ble_eq_true rfl, Nat.le_of_ble_eq_true rfl⟩) hS (fun q _ h => (freeX hS) q h) (freeX hS) (fun r1377 u t H1 locs ht hvm hw hB hz1 hk1 hS => ?_)
          unfold BX at hB
          rw [ht] at hB
          obtain ⟨v1378, F1379, rc9⟩ := u
          obtain ⟨hI, hal9, hrc, hf1380, hw⟩ := hw
          dsimp only at hI hal9 hrc hB hf1380 hw
          rw [hrc] at hB
          have hal := hal9.trans hal
          have hP : va_P (dC, dI) classes (wX g c v1378 F1379 rc) H1 := hB
          generalize H1 = H at hP hS ⊢
          have rr_r1377 := i32_rng r1377
          refine lv_istore (lv' := [(6, .int r1377), (5, .int z1356), (4, .int z1349), (3, .int x3_lp1332), (0, .ref (g 6)), (1, .int p0), (2, .ref (g 73))]) hx hb dX4_workOut_162 hl (by decide) rfl (fun ls hl => ?_)
          refine lv_aload_n hx hb dX4_workOut_164 rfl (lv_at hl 4 rfl) ?_
          refine lv_iload hx hb dX4_workOut_165 (lv_at hl 2 rfl) ?_
          refine lv_aload_n hx hb dX4_workOut_167 rfl (lv_at hl 4 rfl) ?_
          refine va_calli (va_runV (As := []) (rest := [.int z1349, .ref (g 6)]) ⟨hx, hb, hml, hown, hwd⟩ (c_X4_pop l dC dI g c adK adV v1378 F1379 rc H.size  hg hI ) (cwV 0 hwd (gV wk_420 wk_417 wk_418 wk_419 wk_34) rfl rfl rfl (by decide +kernel) ⟨Nat.le_of_ble_eq_true rfl, Nat.le_of_ble_eq_true rfl⟩) ⟨PX.blind, va_recv hK hP (ci := 4) (q0 := 6) rfl rfl, fun U hU hW => ⟨rfl, PX.at hK hE hP hS hU hW⟩⟩ rfl rfl hl.1 rfl (lv_room (Nat.le_of_ble_eq_true rfl)) dX4_workOut_168 ⟨Nat.le_of_ble_eq_true rfl, Nat.le_of_ble_eq_true rfl⟩) hS (fun q _ h => (freeX hS) q h) (freeX hS) (fun r1381 u t H1 locs ht hvm hw hB hz1 hk1 hS => ?_)
          unfold BX at hB
          rw [ht] at hB
          obtain ⟨v1382, F1383, rc9⟩ := u
          obtain ⟨hI, hal9, hrc, hf1384, hw⟩ := hw
          dsimp only at hI hal9 hrc hB hf1384 hw
          rw [hrc] at hB
          have hal := hal9.trans hal
          have hP : va_P (dC, dI) classes (wX g c v1382 F1383 rc) H1 := hB
          generalize H1 = H at hP hS ⊢
          have rr_r1381 := i32_rng r1381
          refine lv_iload hx hb dX4_workOut_171 (lv_at hl 0 rfl) ?_
          refine va_calli (va_runS (As := [.int z1349, .int r1381, .int r1377]) (rest := [.ref (g 6)]) ⟨hx, hb, hml, hown, hwd⟩ (c_X4_join l dC dI g c adK adV v1382 F1383 rc H.size z1349 r1381 r1377 hg hI ) (va_cwS 3 hwd (gT wk_423 wk_421 wk_422 wk_34) rfl rfl rfl (by decide +kernel) ⟨Nat.le_of_ble_eq_true rfl, Nat.le_of_ble_eq_true rfl⟩) ⟨PX.blind, fun U hU hW => ⟨rfl, PX.at hK hE hP hS hU hW⟩⟩ rfl rfl hl.1 rfl (lv_room (Nat.le_of_ble_eq_true rfl)) dX4_workOut_173 ⟨Nat.le_of_ble_eq_true rfl, Nat.le_of_ble_eq_true rfl⟩) hS (fun q _ h => (freeX hS) q h) (freeX hS) (fun r1385 u t H1 locs ht hvm hw hB hz1 hk1 hS => ?_)
          unfold BX at hB
          rw [ht] at hB
          have hP : va_P (dC, dI) classes (wX g c v1382 F1383 rc) H1 := hB
          generalize H1 = H at hP hS ⊢
          have rr_r1385 := i32_rng r1385
          refine va_callv (va_runV (As := [.int r1385]) (rest := []) ⟨hx, hb, hml, hown, hwd⟩ (c_X4_push l dC dI g c adK adV v1382 F1383 rc H.size r1385 hg hI ) (cwV 1 hwd (gV wk_416 wk_413 wk_414 wk_415 wk_34) rfl rfl rfl (by decide +kernel) ⟨Nat.le_of_ble_eq_true rfl, Nat.le_of_ble_eq_true rfl⟩) ⟨PX.blind, va_recv hK hP (ci := 4) (q0 := 6) rfl rfl, fun U hU hW => ⟨rfl, PX.at hK hE hP hS hU hW⟩⟩ rfl rfl hl.1 rfl (lv_room (Nat.le_of_ble_eq_true rfl)) dX4_workOut_176 ⟨Nat.le_of_ble_eq_true rfl, Nat.le_of_ble_eq_true rfl⟩) hS (fun q _ h => (freeX hS) q h) (freeX hS) (fun u t H1 locs ht hvm hw hB hz1 hk1 hS => ?_)
          unfold BX at hB
          rw [ht] at hB
          obtain ⟨v1387, F1388, rc9⟩ := u
          obtain ⟨hI, hal9, hrc, hf1389, hw⟩ := hw
          dsimp only at hI hal9 hrc hB hf1389 hw
          rw [hrc] at hB
          have hal := hal9.trans hal
          have hP : va_P (dC, dI) classes (wX g c v1387 F1388 rc) H1 := hB
          generalize H1 = H at hP hS ⊢
          obtain ⟨z1390, e1391⟩ : ∃ y : Int32, y = x3_lp1332 + 1 := ⟨_, rfl⟩
          try (have t1392 := tadd e1391 rfl (b := 1) (by decide) (by omega))
          refine lv_iinc (v := z1390) (lv' := [(3, .int z1390), (6, .int r1377), (5, .int z1356), (4, .int z1349), (0, .ref (g 6)), (1, .int p0), (2, .ref (g 73))]) hx hb dX4_workOut_179 hl (k := 3) rfl (by rw [e1391]; rfl) (by decide) rfl (fun ls hl => ?_)
          refine lv_goto (tgt := 7) hx hb dX4_workOut_182 (by decide) ?_
          exact ih_lp1332 z1390 v1387 F1388 _ _ _ (by omega) (by omega) (by omega) (frC (by decide) hf1389 (frC (by decide) hf1384 (frC (by decide) hf1380 hf_lp1332))) hI hal hP hS (lv_sub hl [0, 4, 5, 6] rfl)
        rcases (show z1349.toInt = 0 ∨ z1349.toInt = 1 ∨ z1349.toInt = 2 ∨ z1349.toInt = 3 ∨ z1349.toInt = 4 by omega) with hk | hk | hk | hk | hk
        · refine lv_tableIn (off := 36) (tgt := 80) hx hb dX4_workOut_44 hlo1359 hhi1360 (by rw [hk]; decide) (by decide) ?_
          refine lv_aload_n hx hb dX4_workOut_80 rfl (lv_at hl 3 rfl) ?_
          refine lv_iload hx hb dX4_workOut_81 (lv_at hl 0 rfl) ?_
          refine va_callv (va_runV (As := [.int z1356]) (rest := []) ⟨hx, hb, hml, hown, hwd⟩ (c_X4_push l dC dI g c adK adV v_lp1332 F_lp1332 rc H.size z1356 hg hI ) (cwV 1 hwd (gV wk_416 wk_413 wk_414 wk_415 wk_34) rfl rfl rfl (by decide +kernel) ⟨Nat.le_of_ble_eq_true rfl, Nat.le_of_ble_eq_true rfl⟩) ⟨PX.blind, va_recv hK hP (ci := 4) (q0 := 6) rfl rfl, fun U hU hW => ⟨rfl, PX.at hK hE hP hS hU hW⟩⟩ rfl rfl hl.1 rfl (lv_room (Nat.le_of_ble_eq_true rfl)) dX4_workOut_83 ⟨Nat.le_of_ble_eq_true rfl, Nat.le_of_ble_eq_true rfl⟩) hS (fun q _ h => (freeX hS) q h) (freeX hS) (fun u t H1 locs ht hvm hw hB hz1 hk1 hS => ?_)
          unfold BX at hB
          rw [ht] at hB
          obtain ⟨v1394, F1395, rc9⟩ := u
          obtain ⟨hI, hal9, hrc, hf1396, hw⟩ := hw
          dsimp only at hI hal9 hrc hB hf1396 hw
          rw [hrc] at hB
          have hal := hal9.trans hal
          have hP : va_P (dC, dI) classes (wX g c v1394 F1395 rc) H1 := hB
          generalize H1 = H at hP hS ⊢
          refine lv_goto (tgt := 179) hx hb dX4_workOut_86 (by decide) ?_
          obtain ⟨z1397, e1398⟩ : ∃ y : Int32, y = x3_lp1332 + 1 := ⟨_, rfl⟩
          try (have t1399 := tadd e1398 rfl (b := 1) (by decide) (by omega))
          refine lv_iinc (v := z1397) (lv' := [(3, .int z1397), (5, .int z1356), (4, .int z1349), (0, .ref (g 6)), (1, .int p0), (2, .ref (g 73))]) hx hb dX4_workOut_179 hl (k := 2) rfl (by rw [e1398]; rfl) (by decide) rfl (fun ls hl => ?_)
          refine lv_goto (tgt := 7) hx hb dX4_workOut_182 (by decide) ?_
          exact ih_lp1332 z1397 v1394 F1395 _ _ _ (by omega) (by omega) (by omega) (frC (by decide) hf1396 hf_lp1332) hI hal hP hS (lv_sub hl [0, 3, 4, 5] rfl)
        · refine lv_tableIn (off := 45) (tgt := 89) hx hb dX4_workOut_44 hlo1359 hhi1360 (by rw [hk]; decide) (by decide) ?_
          refine lv_aload_n hx hb dX4_workOut_89 rfl (lv_at hl 3 rfl) ?_
          refine lv_iload hx hb dX4_workOut_90 (lv_at hl 0 rfl) ?_
          refine lv_aload_n hx hb dX4_workOut_92 rfl (lv_at hl 5 rfl) ?_
          refine va_alen (v := 6) hx hb hK hP 73 61 rfl rfl rfl dX4_workOut_93 ?_
          refine lv_icmp_ge (tgt := 104) hx hb dX4_workOut_94 (by decide) (fun c1400 => ?_) (fun c1400 => ?_)
          · skip
            have t1401 := cv_le (a := 6) (by decide) (b := z1356.toInt) rfl c1400
            refine lv_iconst (v := 0) hx hb dX4_workOut_104 (by decide) ?_
            refine va_callv (va_runV (As := [.int 0]) (rest := []) ⟨hx, hb, hml, hown, hwd⟩ (c_X4_push l dC dI g c adK adV v_lp1332 F_lp1332 rc H.size 0 hg hI ) (cwV 1 hwd (gV wk_416 wk_413 wk_414 wk_415 wk_34) rfl rfl rfl (by decide +kernel) ⟨Nat.le_of_ble_eq_true rfl, Nat.le_of_ble_eq_true rfl⟩) ⟨PX.blind, va_recv hK hP (ci := 4) (q0 := 6) rfl rfl, fun U hU hW => ⟨rfl, PX.at hK hE hP hS hU hW⟩⟩ rfl rfl hl.1 rfl (lv_room (Nat.le_of_ble_eq_true rfl)) dX4_workOut_105 ⟨Nat.le_of_ble_eq_true rfl, Nat.le_of_ble_eq_true rfl⟩) hS (fun q _ h => (freeX hS) q h) (freeX hS) (fun u t H1 locs ht hvm hw hB hz1 hk1 hS => ?_)
            unfold BX at hB
            rw [ht] at hB
            obtain ⟨v1403, F1404, rc9⟩ := u
            obtain ⟨hI, hal9, hrc, hf1405, hw⟩ := hw
            dsimp only at hI hal9 hrc hB hf1405 hw
            rw [hrc] at hB
            have hal := hal9.trans hal
            have hP : va_P (dC, dI) classes (wX g c v1403 F1404 rc) H1 := hB
            generalize H1 = H at hP hS ⊢
            refine lv_goto (tgt := 179) hx hb dX4_workOut_108 (by decide) ?_
            obtain ⟨z1406, e1407⟩ : ∃ y : Int32, y = x3_lp1332 + 1 := ⟨_, rfl⟩
            try (have t1408 := tadd e1407 rfl (b := 1) (by decide) (by omega))
            refine lv_iinc (v := z1406) (lv' := [(3, .int z1406), (5, .int z1356), (4, .int z1349), (0, .ref (g 6)), (1, .int p0), (2, .ref (g 73))]) hx hb dX4_workOut_179 hl (k := 2) rfl (by rw [e1407]; rfl) (by decide) rfl (fun ls hl => ?_)
            refine lv_goto (tgt := 7) hx hb dX4_workOut_182 (by decide) ?_
            exact ih_lp1332 z1406 v1403 F1404 _ _ _ (by omega) (by omega) (by omega) (frC (by decide) hf1405 hf_lp1332) hI hal hP hS (lv_sub hl [0, 3, 4, 5] rfl)
          · skip
            have t1409 := cv_nle (a := 6) (by decide) (b := z1356.toInt) rfl c1400
            refine lv_aload_n hx hb dX4_workOut_97 rfl (lv_at hl 5 rfl) ?_
            refine lv_iload hx hb dX4_workOut_98 (lv_at hl 0 rfl) ?_
            refine va_iald hx hb hK hP 73 61 rfl rfl (i := z1356) (vin (a := z1356.toInt) rfl (by omega)) dX4_workOut_100 ?_
            refine lv_topi (fun z1410 e1411 => ?_)
            refine lv_goto (tgt := 105) hx hb dX4_workOut_101 (by decide) ?_
            refine va_callv (va_runV (As := [.int z1410]) (rest := []) ⟨hx, hb, hml, hown, hwd⟩ (c_X4_push l dC dI g c adK adV v_lp1332 F_lp1332 rc H.size z1410 hg hI ) (cwV 1 hwd (gV wk_416 wk_413 wk_414 wk_415 wk_34) rfl rfl rfl (by decide +kernel) ⟨Nat.le_of_ble_eq_true rfl, Nat.le_of_ble_eq_true rfl⟩) ⟨PX.blind, va_recv hK hP (ci := 4) (q0 := 6) rfl rfl, fun U hU hW => ⟨rfl, PX.at hK hE hP hS hU hW⟩⟩ rfl rfl hl.1 rfl (lv_room (Nat.le_of_ble_eq_true rfl)) dX4_workOut_105 ⟨Nat.le_of_ble_eq_true rfl, Nat.le_of_ble_eq_true rfl⟩) hS (fun q _ h => (freeX hS) q h) (freeX hS) (fun u t H1 locs ht hvm hw hB hz1 hk1 hS => ?_)
            unfold BX at hB
            rw [ht] at hB
            obtain ⟨v1413, F1414, rc9⟩ := u
            obtain ⟨hI, hal9, hrc, hf1415, hw⟩ := hw
            dsimp only at hI hal9 hrc hB hf1415 hw
            rw [hrc] at hB
            have hal := hal9.trans hal
            have hP : va_P (dC, dI) classes (wX g c v1413 F1414 rc) H1 := hB
            generalize H1 = H at hP hS ⊢
            refine lv_goto (tgt := 179) hx hb dX4_workOut_108 (by decide) ?_
            obtain ⟨z1416, e1417⟩ : ∃ y : Int32, y = x3_lp1332 + 1 := ⟨_, rfl⟩
            try (have t1418 := tadd e1417 rfl (b := 1) (by decide) (by omega))
            refine lv_iinc (v := z1416) (lv' := [(3, .int z1416), (5, .int z1356), (4, .int z1349), (0, .ref (g 6)), (1, .int p0), (2, .ref (g 73))]) hx hb dX4_workOut_179 hl (k := 2) rfl (by rw [e1417]; rfl) (by decide) rfl (fun ls hl => ?_)
            refine lv_goto (tgt := 7) hx hb dX4_workOut_182 (by decide) ?_
            exact ih_lp1332 z1416 v1413 F1414 _ _ _ (by omega) (by omega) (by omega) (frC (by decide) hf1415 hf_lp1332) hI hal hP hS (lv_sub hl [0, 3, 4, 5] rfl)
        · refine lv_tableIn (off := 67) (tgt := 111) hx hb dX4_workOut_44 hlo1359 hhi1360 (by rw [hk]; decide) (by decide) ?_
          refine lv_aload_n hx hb dX4_workOut_111 rfl (lv_at hl 3 rfl) ?_
          refine lv_aload_n hx hb dX4_workOut_112 rfl (lv_at hl 3 rfl) ?_
          refine va_calli (va_runV (As := []) (rest := [.ref (g 6)]) ⟨hx, hb, hml, hown, hwd⟩ (c_X4_pop l dC dI g c adK adV v_lp1332 F_lp1332 rc H.size  hg hI ) (cwV 0 hwd (gV wk_420 wk_417 wk_418 wk_419 wk_34) rfl rfl rfl (by decide +kernel) ⟨Nat.le_of_ble_eq_true rfl, Nat.le_of_ble_eq_true rfl⟩) ⟨PX.blind, va_recv hK hP (ci := 4) (q0 := 6) rfl rfl, fun U hU hW => ⟨rfl, PX.at hK hE hP hS hU hW⟩⟩ rfl rfl hl.1 rfl (lv_room (Nat.le_of_ble_eq_true rfl)) dX4_workOut_113 ⟨Nat.le_of_ble_eq_true rfl, Nat.le_of_ble_eq_true rfl⟩) hS (fun q _ h => (freeX hS) q h) (freeX hS) (fun r1419 u t H1 locs ht hvm hw hB hz1 hk1 hS => ?_)
          unfold BX at hB
          rw [ht] at hB
          obtain ⟨v1420, F1421, rc9⟩ := u
          obtain ⟨hI, hal9, hrc, hf1422, hw⟩ := hw
          dsimp only at hI hal9 hrc hB hf1422 hw
          rw [hrc] at hB
          have hal := hal9.trans hal
          have hP : va_P (dC, dI) classes (wX g c v1420 F1421 rc) H1 := hB
          generalize H1 = H at hP hS ⊢
          have rr_r1419 := i32_rng r1419
          refine lv_ineg hx hb dX4_workOut_116 ?_
          refine lv_topi (fun z1423 e1424 => ?_)
          refine va_callv (va_runV (As := [.int z1423]) (rest := []) ⟨hx, hb, hml, hown, hwd⟩ (c_X4_push l dC dI g c adK adV v1420 F1421 rc H.size z1423 hg hI ) (cwV 1 hwd (gV wk_416 wk_413 wk_414 wk_415 wk_34) rfl rfl rfl (by decide +kernel) ⟨Nat.le_of_ble_eq_true rfl, Nat.le_of_ble_eq_true rfl⟩) ⟨PX.blind, va_recv hK hP (ci := 4) (q0 := 6) rfl rfl, fun U hU hW => ⟨rfl, PX.at hK hE hP hS hU hW⟩⟩ rfl rfl hl.1 rfl (lv_room (Nat.le_of_ble_eq_true rfl)) dX4_workOut_117 ⟨Nat.le_of_ble_eq_true rfl, Nat.le_of_ble_eq_true rfl⟩) hS (fun q _ h => (freeX hS) q h) (freeX hS) (fun u t H1 locs ht hvm hw hB hz1 hk1 hS => ?_)
          unfold BX at hB
          rw [ht] at hB
          obtain ⟨v1426, F1427, rc9⟩ := u
          obtain ⟨hI, hal9, hrc, hf1428, hw⟩ := hw
          dsimp only at hI hal9 hrc hB hf1428 hw
          rw [hrc] at hB
          have hal := hal9.trans hal
          have hP : va_P (dC, dI) classes (wX g c v1426 F1427 rc) H1 := hB
          generalize H1 = H at hP hS ⊢
          refine lv_goto (tgt := 179) hx hb dX4_workOut_120 (by decide) ?_
          obtain ⟨z1429, e1430⟩ : ∃ y : Int32, y = x3_lp1332 + 1 := ⟨_, rfl⟩
          try (have t1431 := tadd e1430 rfl (b := 1) (by decide) (by omega))
          refine lv_iinc (v := z1429) (lv' := [(3, .int z1429), (5, .int z1356), (4, .int z1349), (0, .ref (g 6)), (1, .int p0), (2, .ref (g 73))]) hx hb dX4_workOut_179 hl (k := 2) rfl (by rw [e1430]; rfl) (by decide) rfl (fun ls hl => ?_)
          refine lv_goto (tgt := 7) hx hb dX4_workOut_182 (by decide) ?_
          exact ih_lp1332 z1429 v1426 F1427 _ _ _ (by omega) (by omega) (by omega) (frC (by decide) hf1428 (frC (by decide) hf1422 hf_lp1332)) hI hal hP hS (lv_sub hl [0, 3, 4, 5] rfl)
        · refine lv_tableIn (off := 79) (tgt := 123) hx hb dX4_workOut_44 hlo1359 hhi1360 (by rw [hk]; decide) (by decide) ?_
          refine lv_iload_n hx hb dX4_workOut_123 rfl (lv_at hl 2 rfl) ?_
          refine lv_iload hx hb dX4_workOut_124 (lv_at hl 0 rfl) ?_
          refine lv_iconst (v := 1) hx hb dX4_workOut_126 (by decide) ?_
          refine lv_isub hx hb dX4_workOut_127 ?_
          refine lv_topi (fun z1432 e1433 => ?_)
          try (have t1434 := tsub e1433 (a := z1356.toInt) rfl (b := 1) (by decide) (by omega))
          refine va_mmax hx hb (by rw [hml]; exact hl.1.symm) hown (hwd _ wk_412) (hwd _ wk_395) (hwd _ wk_392) (hwd _ wk_396) (Nat.le_of_ble_eq_true rfl) (Nat.le_of_ble_eq_true rfl) (Nat.le_of_ble_eq_true rfl) (Nat.le_of_ble_eq_true rfl) dX4_workOut_128 ?_
          refine lv_topi (fun z1435 e1436 => ?_)
          have t1437 := tmax e1436 (a := x3_lp1332.toInt) rfl (b := z1432.toInt) rfl
          refine lv_istore_n (lv' := [(3, .int z1435), (5, .int z1356), (4, .int z1349), (0, .ref (g 6)), (1, .int p0), (2, .ref (g 73))]) hx hb dX4_workOut_131 rfl hl (by decide) rfl (fun ls hl => ?_)
          refine lv_goto (tgt := 179) hx hb dX4_workOut_132 (by decide) ?_
          obtain ⟨z1438, e1439⟩ : ∃ y : Int32, y = z1435 + 1 := ⟨_, rfl⟩
          try (have t1440 := tadd e1439 rfl (b := 1) (by decide) (by omega))
          refine lv_iinc (v := z1438) (lv' := [(3, .int z1438), (5, .int z1356), (4, .int z1349), (0, .ref (g 6)), (1, .int p0), (2, .ref (g 73))]) hx hb dX4_workOut_179 hl (k := 0) rfl (by rw [e1439]; rfl) (by decide) rfl (fun ls hl => ?_)
          refine lv_goto (tgt := 7) hx hb dX4_workOut_182 (by decide) ?_
          exact ih_lp1332 z1438 v_lp1332 F_lp1332 _ _ _ (by omega) (by omega) (by omega) hf_lp1332 hI hal hP hS (lv_sub hl [0, 3, 4, 5] rfl)
        · refine lv_tableIn (off := 91) (tgt := 135) hx hb dX4_workOut_44 hlo1359 hhi1360 (by rw [hk]; decide) (by decide) ?_
          refine lv_aload_n hx hb dX4_workOut_135 rfl (lv_at hl 3 rfl) ?_
          refine va_calli (va_runV (As := []) (rest := []) ⟨hx, hb, hml, hown, hwd⟩ (c_X4_pop l dC dI g c adK adV v_lp1332 F_lp1332 rc H.size  hg hI ) (cwV 0 hwd (gV wk_420 wk_417 wk_418 wk_419 wk_34) rfl rfl rfl (by decide +kernel) ⟨Nat.le_of_ble_eq_true rfl, Nat.le_of_ble_eq_true rfl⟩) ⟨PX.blind, va_recv hK hP (ci := 4) (q0 := 6) rfl rfl, fun U hU hW => ⟨rfl, PX.at hK hE hP hS hU hW⟩⟩ rfl rfl hl.1 rfl (lv_room (Nat.le_of_ble_eq_true rfl)) dX4_workOut_136 ⟨Nat.le_of_ble_eq_true rfl, Nat.le_of_ble_eq_true rfl⟩) hS (fun q _ h => (freeX hS) q h) (freeX hS) (fun r1441 u t H1 locs ht hvm hw hB hz1 hk1 hS => ?_)
          unfold BX at hB
          rw [ht] at hB
          obtain ⟨v1442, F1443, rc9⟩ := u
          obtain ⟨hI, hal9, hrc, hf1444, hw⟩ := hw
          dsimp only at hI hal9 hrc hB hf1444 hw
          rw [hrc] at hB
          have hal := hal9.trans hal
          have hP : va_P (dC, dI) classes (wX g c v1442 F1443 rc) H1 := hB
          generalize H1 = H at hP hS ⊢
          have rr_r1441 := i32_rng r1441
          refine lv_if_ne (tgt := 153) hx hb dX4_workOut_139 (by decide) (fun c1445 => ?_) (fun c1445 => ?_)
          · skip
            have t1446 := cv_ne (a := r1441.toInt) rfl (b := 0) (by decide) c1445
            refine lv_iload_n hx hb dX4_workOut_153 rfl (lv_at hl 2 rfl) ?_
            refine lv_istore_n (lv' := [(3, .int x3_lp1332), (5, .int z1356), (4, .int z1349), (0, .ref (g 6)), (1, .int p0), (2, .ref (g 73))]) hx hb dX4_workOut_154 rfl hl (by decide) rfl (fun ls hl => ?_)
            refine lv_goto (tgt := 179) hx hb dX4_workOut_155 (by decide) ?_
            obtain ⟨z1447, e1448⟩ : ∃ y : Int32, y = x3_lp1332 + 1 := ⟨_, rfl⟩
            try (have t1449 := tadd e1448 rfl (b := 1) (by decide) (by omega))
            refine lv_iinc (v := z1447) (lv' := [(3, .int z1447), (5, .int z1356), (4, .int z1349), (0, .ref (g 6)), (1, .int p0), (2, .ref (g 73))]) hx hb dX4_workOut_179 hl (k := 0) rfl (by rw [e1448]; rfl) (by decide) rfl (fun ls hl => ?_)
            refine lv_goto (tgt := 7) hx hb dX4_workOut_182 (by decide) ?_
            exact ih_lp1332 z1447 v1442 F1443 _ _ _ (by omega) (by omega) (by omega) (frC (by decide) hf1444 hf_lp1332) hI hal hP hS (lv_sub hl [0, 3, 4, 5] rfl)
          · skip
            have t1450 := cv_eq (a := r1441.toInt) rfl (b := 0) (by decide) c1445
            refine lv_iload_n hx hb dX4_workOut_142 rfl (lv_at hl 2 rfl) ?_
            refine lv_iload hx hb dX4_workOut_143 (lv_at hl 0 rfl) ?_
            refine lv_iconst (v := 1) hx hb dX4_workOut_145 (by decide) ?_
            refine lv_isub hx hb dX4_workOut_146 ?_
            refine lv_topi (fun z1451 e1452 => ?_)
            try (have t1453 := tsub e1452 (a := z1356.toInt) rfl (b := 1) (by decide) (by omega))
            refine va_mmax hx hb (by rw [hml]; exact hl.1.symm) hown (hwd _ wk_412) (hwd _ wk_395) (hwd _ wk_392) (hwd _ wk_396) (Nat.le_of_ble_eq_true rfl) (Nat.le_of_ble_eq_true rfl) (Nat.le_of_ble_eq_true rfl) (Nat.le_of_ble_eq_true rfl) dX4_workOut_147 ?_
            refine lv_topi (fun z1454 e1455 => ?_)
            have t1456 := tmax e1455 (a := x3_lp1332.toInt) rfl (b := z1451.toInt) rfl
            refine lv_goto (tgt := 154) hx hb dX4_workOut_150 (by decide) ?_
            refine lv_istore_n (lv' := [(3, .int z1454), (5, .int z1356), (4, .int z1349), (0, .ref (g 6)), (1, .int p0), (2, .ref (g 73))]) hx hb dX4_workOut_154 rfl hl (by decide) rfl (fun ls hl => ?_)
            refine lv_goto (tgt := 179) hx hb dX4_workOut_155 (by decide) ?_
            obtain ⟨z1457, e1458⟩ : ∃ y : Int32, y = z1454 + 1 := ⟨_, rfl⟩
            try (have t1459 := tadd e1458 rfl (b := 1) (by decide) (by omega))
            refine lv_iinc (v := z1457) (lv' := [(3, .int z1457), (5, .int z1356), (4, .int z1349), (0, .ref (g 6)), (1, .int p0), (2, .ref (g 73))]) hx hb dX4_workOut_179 hl (k := 0) rfl (by rw [e1458]; rfl) (by decide) rfl (fun ls hl => ?_)
            refine lv_goto (tgt := 7) hx hb dX4_workOut_182 (by decide) ?_
            exact ih_lp1332 z1457 v1442 F1443 _ _ _ (by omega) (by omega) (by omega) (frC (by decide) hf1444 hf_lp1332) hI hal hP hS (lv_sub hl [0, 3, 4, 5] rfl)
  obtain ⟨n9, hn9⟩ : ∃ n : Nat, 2147483648 - 0 ≤ (n : Int) := ⟨((2147483648 - 0 : Int)).toNat, by omega⟩
  exact lp1332 n9 0 (va_up v 126 0) F H _ ls (by have : (0 : Int32).toInt = 0 := (by decide); omega) (by have : (0 : Int32).toInt = 0 := (by decide); omega) (by have : (0 : Int32).toInt = 0 := (by decide); omega) (fun _ _ => rfl) hI hal hP hS hl
