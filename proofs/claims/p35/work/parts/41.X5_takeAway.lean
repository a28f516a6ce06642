set_option maxHeartbeats 8000000 in
set_option maxRecDepth 100000 in
theorem c_X5_takeAway (l : Launch) (dC : Nat → ClassId) (dI : Nat → Nat → Nat) (g : Nat → Nat) (c : Nat → ClassId) (adK adV : Nat → Nat) (v : Nat → Int32) (F : Nat → Nat → Int32) (rc sz : Nat) (p0 : Int32) (p1 : Int32) (hg : injX g) (hI : IX v F) (h0 : 0 ≤ p0.toInt ∧ p0.toInt ≤ 9) : Met l yX5_takeAway (Cond.code yX5_takeAway cX5_takeAway 4 none :: wA) ({ frames := 2, cells := 0, slots := 0, locals := 80 }) (va_Pc [.ref (g 10), .int p0, .int p1] (PX dC dI g c adK adV v F rc sz)) (va_Qv (fun (u : StX) => IX u.1 u.2.1 ∧ alX u.1 u.2.1 = alX v F ∧ u.2.2 = rc ∧ (∀ k, k ∉ ([] : List Nat) → u.1 k = v k) ∧ True) (BX dC dI g c) (AX g sz)) 0 0 (AX g sz) := by
  refine Met.ofW (cc := cX5_takeAway) (maxL := 4) (ret := none) (by decide) rfl ?_
  intro p e s m args below meth c0 s₁ B hml hv
  obtain ⟨rfl, hsz, hP, hK, hE⟩ := hv
  have hx := B.exec
  have hb := B.bytes
  have hr := B.returns
  have hts := atoms_spec (ws := Cond.code yX5_takeAway cX5_takeAway 4 none :: wA) B.pre
  have hwd : ∀ w ∈ wA, w.before _ s = true := fun w h => hts w (List.mem_cons_of_mem _ h)
  have hown : s.vm.findClass RX5 = some m.cls := findClass_of_methodNamed B.named
  have hlocks := B.notSynchronized
  subst hsz
  have hl := lv_entry ([.ref (g 10), .int p0, .int p1]) (n := 4) (Nat.le_of_ble_eq_true rfl)
  rw [lg_entry_eq]
  generalize (lg_sl ([.ref (g 10), .int p0, .int p1]) ++ List.replicate (4 - (lg_sl ([.ref (g 10), .int p0, .int p1])).length) Slot.unset).toArray = ls at hl ⊢
  have hl : lv_has ls 4 [(0, .ref (g 10)), (1, .int p0), (2, .int p1)] := hl
  obtain ⟨H, eH⟩ : ∃ z, z = s.heap := ⟨_, rfl⟩
  have hP : va_P (dC, dI) classes (wX g c v F rc) H := by rw [eH]; exact hP
  have hS : va_S (AX g s.heap.size) s.heap H [] := by rw [eH]; exact va_S.rf
  refine my_heap eH ?_
  have hal : alX v F = alX v F := rfl
  have rp0 := i32_rng p0
  have rp1 := i32_rng p1
  refine lv_iconst (v := 0) hx hb dX5_takeAway_0 (by decide) ?_
  refine lv_istore_n (lv' := [(3, .int 0), (0, .ref (g 10)), (1, .int p0), (2, .int p1)]) hx hb dX5_takeAway_1 rfl hl (by decide) rfl (fun ls hl => ?_)
  have lp1509 : ∀ (n : Nat) (x3_lp1509 : Int32) (v_lp1509 : Nat → Int32) (F_lp1509 : Nat → Nat → Int32) (H : Heap) (locs : List Loc) (ls : Array Slot), (0 ≤ x3_lp1509.toInt) → (2147483648 - x3_lp1509.toInt ≤ (n : Int)) → (∀ k, k ∉ ([] : List Nat) → v_lp1509 k = v k) → IX v_lp1509 F_lp1509 → alX v_lp1509 F_lp1509 = alX v F → va_P (dC, dI) classes (wX g c v_lp1509 F_lp1509 rc) H → va_S (AX g s.heap.size) s.heap H locs → lv_has ls 4 [(3, .int x3_lp1509), (0, .ref (g 10)), (1, .int p0), (2, .int p1)] → W p l e (headSpec (Cond.code yX5_takeAway cX5_takeAway 4 none :: wA) ({ frames := 2, cells := 0, slots := 0, locals := 80 })).room s m ([.ref (g 10), .int p0, .int p1] : List Value).toArray below meth c0 H locs 0 0 (MQ below (va_Qv (fun (u : StX) => IX u.1 u.2.1 ∧ alX u.1 u.2.1 = alX v F ∧ u.2.2 = rc ∧ (∀ k, k ∉ ([] : List Nat) → u.1 k = v k) ∧ True) (BX dC dI g c) (AX g s.heap.size)) ([.ref (g 10), .int p0, .int p1] : List Value).toArray s 0 0 (AX g s.heap.size)) (F0 m 2 ls []) := by
    intro n
    induction n with
    | zero =>
      intro x3_lp1509 v_lp1509 F_lp1509 H locs ls t1510 hm hf_lp1509 hI hal hP hS hl
      exfalso
      have := i32_rng x3_lp1509
      have hI1 := hI.1
      omega
    | succ n ih_lp1509 =>
      intro x3_lp1509 v_lp1509 F_lp1509 H locs ls t1510 hm hf_lp1509 hI hal hP hS hl
      have rx3_lp1509 := i32_rng x3_lp1509
      refine lv_iload_n hx hb dX5_takeAway_2 rfl (lv_at hl 0 rfl) ?_
      refine lv_iconst (v := 3) hx hb dX5_takeAway_3 (by decide) ?_
      refine lv_icmp_ge (tgt := 36) hx hb dX5_takeAway_4 (by decide) (fun c1511 => ?_) (fun c1511 => ?_)
      · skip
        have t1512 := cv_le (a := 3) (by decide) (b := x3_lp1509.toInt) rfl c1511
        have hP9 : va_P (dC, dI) classes (wX g c v_lp1509 F_lp1509 rc) H := hP
        exact W.vret hx hb hr (fun t ht hW => ⟨⟨(v_lp1509, F_lp1509, rc), rfl, ⟨hI, hal, rfl, (frC (by decide) hf_lp1509 (fun _ _ => rfl)), trivial⟩, (by show va_P _ _ _ t.heap; rw [ht]; exact hP9)⟩, hS.F ht⟩) hS.2.2 dX5_takeAway_36
      · skip
        have t1513 := cv_nle (a := 3) (by decide) (b := x3_lp1509.toInt) rfl c1511
        refine lv_aload_n hx hb dX5_takeAway_7 rfl (lv_at hl 1 rfl) ?_
        refine va_get (D := (dC, dI)) (ci := 5) (v := .ref (g 74)) (C := RX5) (T := TX5) (N := 6) hx hb hwd inA_X5 hown hK hP 10 rfl rfl 5 (by decide) (hwd _ wk_144) (fun _ h9 => h9) rfl dX5_takeAway_8 ?_
        refine lv_iload_n hx hb dX5_takeAway_11 rfl (lv_at hl 0 rfl) ?_
        refine lv_dup2_11 hx hb dX5_takeAway_12 rfl rfl ?_
        refine va_iald hx hb hK hP 74 62 rfl rfl (i := x3_lp1509) (vin (a := x3_lp1509.toInt) rfl (by omega)) dX5_takeAway_13 ?_
        refine lv_topi (fun z1514 e1515 => ?_)
        refine lv_aload_n hx hb dX5_takeAway_14 rfl (lv_at hl 1 rfl) ?_
        refine va_get (D := (dC, dI)) (ci := 5) (v := .ref (g 1)) (C := RX5) (T := TX5) (N := 6) hx hb hwd inA_X5 hown hK hP 10 rfl rfl 0 (by decide) (hwd _ wk_145) (fun _ h9 => h9) rfl dX5_takeAway_15 ?_
        refine lv_iload_n hx hb dX5_takeAway_18 rfl (lv_at hl 2 rfl) ?_
        refine lv_iload_n hx hb dX5_takeAway_19 rfl (lv_at hl 0 rfl) ?_
        refine va_calli (va_runV (As := [.int p0, .int x3_lp1509]) (rest := [.int z1514, .int x3_lp1509, .ref (g 74)]) ⟨hx, hb, hml, hown, hwd⟩ (c_X2_limitOf l dC dI g c adK adV v_lp1509 F_lp1509 rc H.size p0 x3_lp1509 hg hI (by omega) (by omega)) (cwV 2 hwd (gV wk_365 wk_362 wk_363 wk_364 wk_14) rfl rfl rfl (by decide +kernel) ⟨Nat.le_of_ble_eq_true rfl, Nat.le_of_ble_eq_true rfl⟩) ⟨PX.blind, va_recv hK hP (ci := 2) (q0 := 1) rfl rfl, fun U hU hW => ⟨rfl, PX.at hK hE hP hS hU hW⟩⟩ rfl rfl hl.1 rfl (lv_room (Nat.le_of_ble_eq_true rfl)) dX5_takeAway_20 ⟨Nat.le_of_ble_eq_true rfl, Nat.le_of_ble_eq_true rfl⟩) hS (fun q _ h => (freeX hS) q h) (freeX hS) (fun r1516 u t H1 locs ht hvm hw hB hz1 hk1 hS => ?_)
        unfold BX at hB
        rw [ht] at hB
        have hP : va_P (dC, dI) classes (wX g c v_lp1509 F_lp1509 rc) H1 := hB
        generalize H1 = H at hP hS ⊢
        have rr_r1516 := i32_rng r1516
        refine lv_iload_n hx hb dX5_takeAway_23 rfl (lv_at hl 3 rfl) ?_
        refine lv_imul hx hb dX5_takeAway_24 ?_
        refine lv_topi (fun z1517 e1518 => ?_)
        try (have t1519 := tmul e1518 (a := r1516.toInt) rfl (b := p1.toInt) rfl (by omega))
        refine lv_bipush (v := 100) hx hb dX5_takeAway_25 (by decide) ?_
        refine lv_idiv hx hb dX5_takeAway_27 (by decide) ?_
        refine lv_topi (fun z1520 e1521 => ?_)
        refine lv_isub hx hb dX5_takeAway_28 ?_
        refine lv_topi (fun z1523 e1524 => ?_)
        try (have t1525 := tsub e1524 (a := z1514.toInt) rfl (b := z1520.toInt) rfl (by omega))
        refine va_iast hx hb hK hP (DX hg) hS 74 62 rfl rfl (i := x3_lp1509) (x := z1523) (vin (a := x3_lp1509.toInt) rfl (by omega)) dX5_takeAway_29 (fun H locs hP _ hS => ?_)
        have hP := va_P_eq (sX_74 g c _ _ _ _) hP
        have hI := IX.store0 hI 74 (x3_lp1509 : Int32).toNatClampNeg z1523 rfl
        have hal := (alX_F _ _ 74 (upd (F_lp1509 74) (x3_lp1509 : Int32).toNatClampNeg z1523) (by decide) (by decide)).trans hal
        have hP : va_P (dC, dI) classes (wX g c v_lp1509 (va_up F_lp1509 74 (upd (F_lp1509 74) (x3_lp1509 : Int32).toNatClampNeg z1523)) rc) H := hP
        generalize (va_up F_lp1509 74 (upd (F_lp1509 74) (x3_lp1509 : Int32).toNatClampNeg z1523)) = F1526 at hP hI hal
        obtain ⟨z1527, e1528⟩ : ∃ y : Int32, y = x3_lp1509 + 1 := ⟨_, rfl⟩
        try (have t1529 := tadd e1528 rfl (b := 1) (by decide) (by omega))
        refine lv_iinc (v := z1527) (lv' := [(3, .int z1527), (0, .ref (g 10)), (1, .int p0), (2, .int p1)]) hx hb dX5_takeAway_30 hl (k := 0) rfl (by rw [e1528]; rfl) (by decide) rfl (fun ls hl => ?_)
        refine lv_goto (tgt := 2) hx hb dX5_takeAway_33 (by decide) ?_
        exact ih_lp1509 z1527 v_lp1509 F1526 _ _ _ (by omega) (by omega) hf_lp1509 hI hal hP hS (lv_sub hl [0, 1, 2, 3] rfl)
  obtain ⟨n9, hn9⟩ : ∃ n : Nat, 2147483648 - 0 ≤ (n : Int) := ⟨((2147483648 - 0 : Int)).toNat, by omega⟩
  exact lp1509 n9 0 v F H _ ls (by have : (0 : Int32).toInt = 0 := (by decide); omega) (by have : (0 : Int32).toInt = 0 := (by decide); omega) (fun _ _ => rfl) hI hal hP hS hl
