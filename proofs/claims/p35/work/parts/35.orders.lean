set_option maxHeartbeats 8000000 in
set_option maxRecDepth 100000 in
theorem c_X6_finish (l : Launch) (dC : Nat → ClassId) (dI : Nat → Nat → Nat) (g : Nat → Nat) (c : Nat → ClassId) (adK adV : Nat → Nat) (v : Nat → Int32) (F : Nat → Nat → Int32) (rc sz : Nat) (p0 : Int32) (p1 : Int32) (hg : injX g) (hI : IX v F) (h0 : 0 ≤ p0.toInt ∧ p0.toInt ≤ 19) (h1 : 0 ≤ p1.toInt ∧ p1.toInt ≤ 9) : Met l yX6_finish (Cond.code yX6_finish cX6_finish 3 none :: wA) ({ frames := 1, cells := 0, slots := 0, locals := 40 }) (va_Pc [.ref (g 8), .int p0, .int p1] (PX dC dI g c adK adV v F rc sz)) (va_Qv (fun (u : StX) => IX u.1 u.2.1 ∧ alX u.1 u.2.1 = alX v F ∧ u.2.2 = rc ∧ (∀ k, k ∉ ([] : List Nat) → u.1 k = v k) ∧ True) (BX dC dI g c) (AX g sz)) 0 0 (AX g sz) := by
  refine Met.ofW (cc := cX6_finish) (maxL := 3) (ret := none) (by decide) rfl ?_
  intro p e s m args below meth c0 s₁ B hml hv
  obtain ⟨rfl, hsz, hP, hK, hE⟩ := hv
  have hx := B.exec
  have hb := B.bytes
  have hr := B.returns
  have hts := atoms_spec (ws := Cond.code yX6_finish cX6_finish 3 none :: wA) B.pre
  have hwd : ∀ w ∈ wA, w.before _ s = true := fun w h => hts w (List.mem_cons_of_mem _ h)
  have hown : s.vm.findClass RX6 = some m.cls := findClass_of_methodNamed B.named
  have hlocks := B.notSynchronized
  subst hsz
  have hl := lv_entry ([.ref (g 8), .int p0, .int p1]) (n := 3) (Nat.le_of_ble_eq_true rfl)
  rw [lg_entry_eq]
  generalize (lg_sl ([.ref (g 8), .int p0, .int p1]) ++ List.replicate (3 - (lg_sl ([.ref (g 8), .int p0, .int p1])).length) Slot.unset).toArray = ls at hl ⊢
  have hl : lv_has ls 3 [(0, .ref (g 8)), (1, .int p0), (2, .int p1)] := hl
  obtain ⟨H, eH⟩ : ∃ z, z = s.heap := ⟨_, rfl⟩
  have hP : va_P (dC, dI) classes (wX g c v F rc) H := by rw [eH]; exact hP
  have hS : va_S (AX g s.heap.size) s.heap H [] := by rw [eH]; exact va_S.rf
  refine my_heap eH ?_
  have hal : alX v F = alX v F := rfl
  have rp0 := i32_rng p0
  have rp1 := i32_rng p1
  refine lv_aload_n hx hb dX6_finish_0 rfl (lv_at hl 0 rfl) ?_
  refine va_get (D := (dC, dI)) (ci := 6) (v := .ref (g 57)) (C := RX6) (T := TX6) (N := 5) hx hb hwd inA_X6 hown hK hP 8 rfl rfl 4 (by decide) (hwd _ wk_126) (fun _ h9 => h9) rfl dX6_finish_1 ?_
  refine lv_iload_n hx hb dX6_finish_4 rfl (lv_at hl 1 rfl) ?_
  refine lv_bipush (v := 10) hx hb dX6_finish_5 (by decide) ?_
  refine lv_imul hx hb dX6_finish_7 ?_
  refine lv_topi (fun z1071 e1072 => ?_)
  try (have t1073 := tmul e1072 (a := p0.toInt) rfl (b := 10) (by decide) (by omega))
  refine lv_iload_n hx hb dX6_finish_8 rfl (lv_at hl 2 rfl) ?_
  refine lv_iadd hx hb dX6_finish_9 ?_
  refine lv_topi (fun z1074 e1075 => ?_)
  try (have t1076 := tadd e1075 (a := z1071.toInt) rfl (b := p1.toInt) rfl (by omega))
  refine lv_iconst (v := 1) hx hb dX6_finish_10 (by decide) ?_
  refine va_zast hx hb hK hP (DX hg) hS 57 45 rfl rfl (i := z1074) (x := 1) (vin (a := z1074.toInt) rfl (by omega)) dX6_finish_11 (fun H locs hP _ hS => ?_)
  have hP := va_P_eq (sX_57 g c _ _ _ _) hP
  have hI := IX.store0 hI 57 (z1074 : Int32).toNatClampNeg (vp_nar .boolean 1) rfl
  have hal := (alX_F _ _ 57 (upd (F 57) (z1074 : Int32).toNatClampNeg (vp_nar .boolean 1)) (by decide) (by decide)).trans hal
  have hP : va_P (dC, dI) classes (wX g c v (va_up F 57 (upd (F 57) (z1074 : Int32).toNatClampNeg (vp_nar .boolean 1))) rc) H := hP
  generalize (va_up F 57 (upd (F 57) (z1074 : Int32).toNatClampNeg (vp_nar .boolean 1))) = F1077 at hP hI hal
  have hP9 : va_P (dC, dI) classes (wX g c v F1077 rc) H := hP
  exact W.vret hx hb hr (fun t ht hW => ⟨⟨(v, F1077, rc), rfl, ⟨hI, hal, rfl, (fun _ _ => rfl), trivial⟩, (by show va_P _ _ _ t.heap; rw [ht]; exact hP9)⟩, hS.F ht⟩) hS.2.2 dX6_finish_12
set_option maxHeartbeats 8000000 in
set_option maxRecDepth 100000 in
theorem c_X6_isDue (l : Launch) (dC : Nat → ClassId) (dI : Nat → Nat → Nat) (g : Nat → Nat) (c : Nat → ClassId) (adK adV : Nat → Nat) (v : Nat → Int32) (F : Nat → Nat → Int32) (rc sz : Nat) (p0 : Int32) (p1 : Int32) (hg : injX g) (hI : IX v F) (h0 : 0 ≤ p0.toInt ∧ p0.toInt ≤ 19) (h1 : 0 ≤ p1.toInt ∧ p1.toInt ≤ 9) : Met l yX6_isDue (Cond.code yX6_isDue cX6_isDue 3 (some .boolean) :: wA) ({ frames := 2, cells := 0, slots := 0, locals := 80 }) (va_Pc [.ref (g 8), .int p0, .int p1] (PX dC dI g c adK adV v F rc sz)) (va_Qi (fun (r : Int32) (u : Unit) => 0 ≤ r.toInt ∧ r.toInt ≤ 1) (fun (_ : Unit) => BX dC dI g c (v, F, rc)) (AX g sz)) 0 0 (AX g sz) := by
  refine Met.ofW (cc := cX6_isDue) (maxL := 3) (ret := (some .boolean)) (by decide) rfl ?_
  intro p e s m args below meth c0 s₁ B hml hv
  obtain ⟨rfl, hsz, hP, hK, hE⟩ := hv
  have hx := B.exec
  have hb := B.bytes
  have hr := B.returns
  have hts := atoms_spec (ws := Cond.code yX6_isDue cX6_isDue 3 (some .boolean) :: wA) B.pre
  have hwd : ∀ w ∈ wA, w.before _ s = true := fun w h => hts w (List.mem_cons_of_mem _ h)
  have hown : s.vm.findClass RX6 = some m.cls := findClass_of_methodNamed B.named
  have hlocks := B.notSynchronized
  subst hsz
  have hl := lv_entry ([.ref (g 8), .int p0, .int p1]) (n := 3) (Nat.le_of_ble_eq_true rfl)
  rw [lg_entry_eq]
  generalize (lg_sl ([.ref (g 8), .int p0, .int p1]) ++ List.replicate (3 - (lg_sl ([.ref (g 8), .int p0, .int p1])).length) Slot.unset).toArray = ls at hl ⊢
  have hl : lv_has ls 3 [(0, .ref (g 8)), (1, .int p0), (2, .int p1)] := hl
  obtain ⟨H, eH⟩ : ∃ z, z = s.heap := ⟨_, rfl⟩
  have hP : va_P (dC, dI) classes (wX g c v F rc) H := by rw [eH]; exact hP
  have hS : va_S (AX g s.heap.size) s.heap H [] := by rw [eH]; exact va_S.rf
  refine my_heap eH ?_
  have rp0 := i32_rng p0
  have rp1 := i32_rng p1
  refine lv_aload_n hx hb dX6_isDue_0 rfl (lv_at hl 0 rfl) ?_
  refine va_get (D := (dC, dI)) (ci := 6) (v := .ref (g 2)) (C := RX6) (T := TX6) (N := 5) hx hb hwd inA_X6 hown hK hP 8 rfl rfl 0 (by decide) (hwd _ wk_127) (fun _ h9 => h9) rfl dX6_isDue_1 ?_
  refine lv_iload_n hx hb dX6_isDue_4 rfl (lv_at hl 2 rfl) ?_
  refine lv_aload_n hx hb dX6_isDue_5 rfl (lv_at hl 0 rfl) ?_
  refine va_get (D := (dC, dI)) (ci := 6) (v := .ref (g 55)) (C := RX6) (T := TX6) (N := 5) hx hb hwd inA_X6 hown hK hP 8 rfl rfl 2 (by decide) (hwd _ wk_124) (fun _ h9 => h9) rfl dX6_isDue_6 ?_
  refine lv_iload_n hx hb dX6_isDue_9 rfl (lv_at hl 1 rfl) ?_
  refine va_iald hx hb hK hP 55 43 rfl rfl (i := p0) (vin (a := p0.toInt) rfl (by omega)) dX6_isDue_10 ?_
  refine lv_topi (fun z1078 e1079 => ?_)
  have t1080 : 0 ≤ z1078.toInt ∧ z1078.toInt ≤ 9 := by rw [e1079]; exact hI.2 55 _ _ rfl _
  refine va_calli (va_runV (As := [.int p1, .int z1078]) (rest := []) ⟨hx, hb, hml, hown, hwd⟩ (c_X8_needOf l dC dI g c adK adV v F rc H.size p1 z1078 hg hI (by omega) (by omega)) (cwV 2 hwd (gV wk_297 wk_437 wk_295 wk_296 wk_18) rfl rfl rfl (by decide +kernel) ⟨Nat.le_of_ble_eq_true rfl, Nat.le_of_ble_eq_true rfl⟩) ⟨PX.blind, va_recv hK hP (ci := 8) (q0 := 2) rfl rfl, fun U hU hW => ⟨rfl, PX.at hK hE hP hS hU hW⟩⟩ rfl rfl hl.1 rfl (lv_room (Nat.le_of_ble_eq_true rfl)) dX6_isDue_11 ⟨Nat.le_of_ble_eq_true rfl, Nat.le_of_ble_eq_true rfl⟩) hS (fun q _ h => (freeX hS) q h) (freeX hS) (fun r1081 u t H1 locs ht hvm hw hB hz1 hk1 hS => ?_)
  unfold BX at hB
  rw [ht] at hB
  have hP : va_P (dC, dI) classes (wX g c v F rc) H1 := hB
  generalize H1 = H at hP hS ⊢
  have rr_r1081 := i32_rng r1081
  refine lv_if_le (tgt := 35) hx hb dX6_isDue_14 (by decide) (fun c1082 => ?_) (fun c1082 => ?_)
  · skip
    have t1083 := cv_le (a := r1081.toInt) rfl (b := 0) (by decide) c1082
    refine lv_iconst (v := 0) hx hb dX6_isDue_35 (by decide) ?_
    have hP9 : va_P (dC, dI) classes (wX g c v F rc) H := hP
    exact W.zret (v := 0) hx hb hr (rfl) (fun t ht hW => ⟨⟨0, (), rfl, by have : (0 : Int32).toInt = 0 := (by decide); omega, (by show va_P _ _ _ t.heap; rw [ht]; exact hP9)⟩, hS.F ht⟩) hS.2.2 dX6_isDue_36
  · skip
    have t1084 := cv_nle (a := r1081.toInt) rfl (b := 0) (by decide) c1082
    refine lv_aload_n hx hb dX6_isDue_17 rfl (lv_at hl 0 rfl) ?_
    refine va_get (D := (dC, dI)) (ci := 6) (v := .ref (g 57)) (C := RX6) (T := TX6) (N := 5) hx hb hwd inA_X6 hown hK hP 8 rfl rfl 4 (by decide) (hwd _ wk_126) (fun _ h9 => h9) rfl dX6_isDue_18 ?_
    refine lv_iload_n hx hb dX6_isDue_21 rfl (lv_at hl 1 rfl) ?_
    refine lv_bipush (v := 10) hx hb dX6_isDue_22 (by decide) ?_
    refine lv_imul hx hb dX6_isDue_24 ?_
    refine lv_topi (fun z1085 e1086 => ?_)
    try (have t1087 := tmul e1086 (a := p0.toInt) rfl (b := 10) (by decide) (by omega))
    refine lv_iload_n hx hb dX6_isDue_25 rfl (lv_at hl 2 rfl) ?_
    refine lv_iadd hx hb dX6_isDue_26 ?_
    refine lv_topi (fun z1088 e1089 => ?_)
    try (have t1090 := tadd e1089 (a := z1085.toInt) rfl (b := p1.toInt) rfl (by omega))
    refine va_zald hx hb hK hP 57 45 rfl rfl (i := z1088) (vin (a := z1088.toInt) rfl (by omega)) dX6_isDue_27 ?_
    refine lv_topi (fun z1091 e1092 => ?_)
    refine lv_if_ne (tgt := 35) hx hb dX6_isDue_28 (by decide) (fun c1093 => ?_) (fun c1093 => ?_)
    · skip
      have t1094 := cv_ne (a := z1091.toInt) rfl (b := 0) (by decide) c1093
      refine lv_iconst (v := 0) hx hb dX6_isDue_35 (by decide) ?_
      have hP9 : va_P (dC, dI) classes (wX g c v F rc) H := hP
      exact W.zret (v := 0) hx hb hr (rfl) (fun t ht hW => ⟨⟨0, (), rfl, by have : (0 : Int32).toInt = 0 := (by decide); omega, (by show va_P _ _ _ t.heap; rw [ht]; exact hP9)⟩, hS.F ht⟩) hS.2.2 dX6_isDue_36
    · skip
      have t1095 := cv_eq (a := z1091.toInt) rfl (b := 0) (by decide) c1093
      refine lv_iconst (v := 1) hx hb dX6_isDue_31 (by decide) ?_
      refine lv_goto (tgt := 36) hx hb dX6_isDue_32 (by decide) ?_
      have hP9 : va_P (dC, dI) classes (wX g c v F rc) H := hP
      exact W.zret (v := 1) hx hb hr (rfl) (fun t ht hW => ⟨⟨1, (), rfl, by have : (1 : Int32).toInt = 1 := (by decide); omega, (by show va_P _ _ _ t.heap; rw [ht]; exact hP9)⟩, hS.F ht⟩) hS.2.2 dX6_isDue_36
set_option maxHeartbeats 8000000 in
set_option maxRecDepth 100000 in
theorem c_X6_countDue (l : Launch) (dC : Nat → ClassId) (dI : Nat → Nat → Nat) (g : Nat → Nat) (c : Nat → ClassId) (adK adV : Nat → Nat) (v : Nat → Int32) (F : Nat → Nat → Int32) (rc sz : Nat) (p0 : Int32) (hg : injX g) (hI : IX v F) (h0 : 0 ≤ p0.toInt ∧ p0.toInt ≤ 9) : Met l yX6_countDue (Cond.code yX6_countDue cX6_countDue 4 (some .int) :: wA) ({ frames := 3, cells := 0, slots := 0, locals := 120 }) (va_Pc [.ref (g 8), .int p0] (PX dC dI g c adK adV v F rc sz)) (va_Qi (fun (r : Int32) (u : Unit) => True) (fun (_ : Unit) => BX dC dI g c (v, F, rc)) (AX g sz)) 0 0 (AX g sz) := by
  refine Met.ofW (cc := cX6_countDue) (maxL := 4) (ret := (some .int)) (by decide) rfl ?_
  intro p e s m args below meth c0 s₁ B hml hv
  obtain ⟨rfl, hsz, hP, hK, hE⟩ := hv
  have hx := B.exec
  have hb := B.bytes
  have hr := B.returns
  have hts := atoms_spec (ws := Cond.code yX6_countDue cX6_countDue 4 (some .int) :: wA) B.pre
  have hwd : ∀ w ∈ wA, w.before _ s = true := fun w h => hts w (List.mem_cons_of_mem _ h)
  have hown : s.vm.findClass RX6 = some m.cls := findClass_of_methodNamed B.named
  have hlocks := B.notSynchronized
  subst hsz
  have hl := lv_entry ([.ref (g 8), .int p0]) (n := 4) (Nat.le_of_ble_eq_true rfl)
  rw [lg_entry_eq]
  generalize (lg_sl ([.ref (g 8), .int p0]) ++ List.replicate (4 - (lg_sl ([.ref (g 8), .int p0])).length) Slot.unset).toArray = ls at hl ⊢
  have hl : lv_has ls 4 [(0, .ref (g 8)), (1, .int p0)] := hl
  obtain ⟨H, eH⟩ : ∃ z, z = s.heap := ⟨_, rfl⟩
  have hP : va_P (dC, dI) classes (wX g c v F rc) H := by rw [eH]; exact hP
  have hS : va_S (AX g s.heap.size) s.heap H [] := by rw [eH]; exact va_S.rf
  refine my_heap eH ?_
  have rp0 := i32_rng p0
  refine lv_iconst (v := 0) hx hb dX6_countDue_0 (by decide) ?_
  refine lv_istore_n (lv' := [(2, .int 0), (0, .ref (g 8)), (1, .int p0)]) hx hb dX6_countDue_1 rfl hl (by decide) rfl (fun ls hl => ?_)
  refine lv_iconst (v := 0) hx hb dX6_countDue_2 (by decide) ?_
  refine lv_istore_n (lv' := [(3, .int 0), (2, .int 0), (0, .ref (g 8)), (1, .int p0)]) hx hb dX6_countDue_3 rfl hl (by decide) rfl (fun ls hl => ?_)
  have lp1096 : ∀ (n : Nat) (x3_lp1096 : Int32) (x2_lp1096 : Int32) (H : Heap) (locs : List Loc) (ls : Array Slot), (0 ≤ x3_lp1096.toInt) → (2147483648 - x3_lp1096.toInt ≤ (n : Int)) → va_P (dC, dI) classes (wX g c v F rc) H → va_S (AX g s.heap.size) s.heap H locs → lv_has ls 4 [(3, .int x3_lp1096), (2, .int x2_lp1096), (0, .ref (g 8)), (1, .int p0)] → W p l e (headSpec (Cond.code yX6_countDue cX6_countDue 4 (some .int) :: wA) ({ frames := 3, cells := 0, slots := 0, locals := 120 })).room s m ([.ref (g 8), .int p0] : List Value).toArray below meth c0 H locs 0 0 (MQ below (va_Qi (fun (r : Int32) (u : Unit) => True) (fun (_ : Unit) => BX dC dI g c (v, F, rc)) (AX g s.heap.size)) ([.ref (g 8), .int p0] : List Value).toArray s 0 0 (AX g s.heap.size)) (F0 m 4 ls []) := by
    intro n
    induction n with
    | zero =>
      intro x3_lp1096 x2_lp1096 H locs ls t1097 hm hP hS hl
      exfalso
      have := i32_rng x3_lp1096
      have := i32_rng x2_lp1096
      omega
    | succ n ih_lp1096 =>
      intro x3_lp1096 x2_lp1096 H locs ls t1097 hm hP hS hl
      have rx3_lp1096 := i32_rng x3_lp1096
      have rx2_lp1096 := i32_rng x2_lp1096
      refine lv_iload_n hx hb dX6_countDue_4 rfl (lv_at hl 0 rfl) ?_
      refine lv_aload_n hx hb dX6_countDue_5 rfl (lv_at hl 2 rfl) ?_
      refine va_get (D := (dC, dI)) (ci := 6) (v := .int (v 161)) (C := RX6) (T := TX6) (N := 5) hx hb hwd inA_X6 hown hK hP 8 rfl rfl 1 (by decide) (hwd _ wk_432) (fun _ h9 => h9) rfl dX6_countDue_6 ?_
      have t1098 : 0 ≤ (v 161).toInt ∧ (v 161).toInt ≤ 20 := hI.1 161 _ _ rfl
      refine lv_icmp_ge (tgt := 35) hx hb dX6_countDue_9 (by decide) (fun c1099 => ?_) (fun c1099 => ?_)
      · skip
        have t1100 := cv_le (a := (v 161).toInt) rfl (b := x3_lp1096.toInt) rfl c1099
        refine lv_iload_n hx hb dX6_countDue_35 rfl (lv_at hl 1 rfl) ?_
        have hP9 : va_P (dC, dI) classes (wX g c v F rc) H := hP
        exact W.iret (v := x2_lp1096) hx hb hr (fun t ht hW => ⟨⟨x2_lp1096, (), rfl, trivial, (by show va_P _ _ _ t.heap; rw [ht]; exact hP9)⟩, hS.F ht⟩) hS.2.2 dX6_countDue_36
      · skip
        have t1101 := cv_nle (a := (v 161).toInt) rfl (b := x3_lp1096.toInt) rfl c1099
        refine lv_iload_n hx hb dX6_countDue_12 rfl (lv_at hl 1 rfl) ?_
        refine lv_aload_n hx hb dX6_countDue_13 rfl (lv_at hl 2 rfl) ?_
        refine lv_iload_n hx hb dX6_countDue_14 rfl (lv_at hl 0 rfl) ?_
        refine lv_iload_n hx hb dX6_countDue_15 rfl (lv_at hl 3 rfl) ?_
        refine va_calli (va_runV (As := [.int x3_lp1096, .int p0]) (rest := [.int x2_lp1096]) ⟨hx, hb, hml, hown, hwd⟩ (c_X6_isDue l dC dI g c adK adV v F rc H.size x3_lp1096 p0 hg hI (by omega) (by omega)) (cwV 2 hwd (gV wk_436 wk_433 wk_434 wk_435 wk_42) rfl rfl rfl (by decide +kernel) ⟨Nat.le_of_ble_eq_true rfl, Nat.le_of_ble_eq_true rfl⟩) ⟨PX.blind, va_recv hK hP (ci := 6) (q0 := 8) rfl rfl, fun U hU hW => ⟨rfl, PX.at hK hE hP hS hU hW⟩⟩ rfl rfl hl.1 rfl (lv_room (Nat.le_of_ble_eq_true rfl)) dX6_countDue_16 ⟨Nat.le_of_ble_eq_true rfl, Nat.le_of_ble_eq_true rfl⟩) hS (fun q _ h => (freeX hS) q h) (freeX hS) (fun r1102 u t H1 locs ht hvm hw hB hz1 hk1 hS => ?_)
        unfold BX at hB
        rw [ht] at hB
        have hP : va_P (dC, dI) classes (wX g c v F rc) H1 := hB
        have hw : 0 ≤ r1102.toInt ∧ r1102.toInt ≤ 1 := hw
        generalize H1 = H at hP hS ⊢
        have hw_r1102 := hw
        refine lv_if_eq (tgt := 26) hx hb dX6_countDue_19 (by decide) (fun c1103 => ?_) (fun c1103 => ?_)
        · skip
          have t1104 := cv_eq (a := r1102.toInt) rfl (b := 0) (by decide) c1103
          refine lv_iconst (v := 0) hx hb dX6_countDue_26 (by decide) ?_
          refine lv_iadd hx hb dX6_countDue_27 ?_
          refine lv_topi (fun z1105 e1106 => ?_)
          try (have t1107 := tadd e1106 (a := x2_lp1096.toInt) rfl (b := 0) (by decide) (by omega))
          refine lv_istore_n (lv' := [(2, .int z1105), (3, .int x3_lp1096), (0, .ref (g 8)), (1, .int p0)]) hx hb dX6_countDue_28 rfl hl (by decide) rfl (fun ls hl => ?_)
          obtain ⟨z1108, e1109⟩ : ∃ y : Int32, y = x3_lp1096 + 1 := ⟨_, rfl⟩
          try (have t1110 := tadd e1109 rfl (b := 1) (by decide) (by omega))
          refine lv_iinc (v := z1108) (lv' := [(3, .int z1108), (2, .int z1105), (0, .ref (g 8)), (1, .int p0)]) hx hb dX6_countDue_29 hl (k := 1) rfl (by rw [e1109]; rfl) (by decide) rfl (fun ls hl => ?_)
          refine lv_goto (tgt := 4) hx hb dX6_countDue_32 (by decide) ?_
          exact ih_lp1096 z1108 z1105  _ _ _ (by omega) (by omega) hP hS (lv_sub hl [0, 1, 2, 3] rfl)
        · skip
          have t1111 := cv_ne (a := r1102.toInt) rfl (b := 0) (by decide) c1103
          refine lv_iconst (v := 1) hx hb dX6_countDue_22 (by decide) ?_
          refine lv_goto (tgt := 27) hx hb dX6_countDue_23 (by decide) ?_
          refine lv_iadd hx hb dX6_countDue_27 ?_
          refine lv_topi (fun z1112 e1113 => ?_)
          try (have t1114 := tadd e1113 (a := x2_lp1096.toInt) rfl (b := 1) (by decide) (by omega))
          refine lv_istore_n (lv' := [(2, .int z1112), (3, .int x3_lp1096), (0, .ref (g 8)), (1, .int p0)]) hx hb dX6_countDue_28 rfl hl (by decide) rfl (fun ls hl => ?_)
          obtain ⟨z1115, e1116⟩ : ∃ y : Int32, y = x3_lp1096 + 1 := ⟨_, rfl⟩
          try (have t1117 := tadd e1116 rfl (b := 1) (by decide) (by omega))
          refine lv_iinc (v := z1115) (lv' := [(3, .int z1115), (2, .int z1112), (0, .ref (g 8)), (1, .int p0)]) hx hb dX6_countDue_29 hl (k := 1) rfl (by rw [e1116]; rfl) (by decide) rfl (fun ls hl => ?_)
          refine lv_goto (tgt := 4) hx hb dX6_countDue_32 (by decide) ?_
          exact ih_lp1096 z1115 z1112  _ _ _ (by omega) (by omega) hP hS (lv_sub hl [0, 1, 2, 3] rfl)
  obtain ⟨n9, hn9⟩ : ∃ n : Nat, 2147483648 - 0 ≤ (n : Int) := ⟨((2147483648 - 0 : Int)).toNat, by omega⟩
  exact lp1096 n9 0 0  H _ ls (by have : (0 : Int32).toInt = 0 := (by decide); have : (0 : Int32).toInt = 0 := (by decide); omega) (by have : (0 : Int32).toInt = 0 := (by decide); have : (0 : Int32).toInt = 0 := (by decide); omega) hP hS hl
set_option maxHeartbeats 8000000 in
set_option maxRecDepth 100000 in
theorem c_X6_anyLate (l : Launch) (dC : Nat → ClassId) (dI : Nat → Nat → Nat) (g : Nat → Nat) (c : Nat → ClassId) (adK adV : Nat → Nat) (v : Nat → Int32) (F : Nat → Nat → Int32) (rc sz : Nat) (p0 : Int32) (p1 : Int32) (hg : injX g) (hI : IX v F) (h0 : 0 ≤ p0.toInt ∧ p0.toInt ≤ 9) : Met l yX6_anyLate (Cond.code yX6_anyLate cX6_anyLate 4 (some .boolean) :: wA) ({ frames := 3, cells := 0, slots := 0, locals := 120 }) (va_Pc [.ref (g 8), .int p0, .int p1] (PX dC dI g c adK adV v F rc sz)) (va_Qi (fun (r : Int32) (u : Unit) => 0 ≤ r.toInt ∧ r.toInt ≤ 1) (fun (_ : Unit) => BX dC dI g c (v, F, rc)) (AX g sz)) 0 0 (AX g sz) := by
  refine Met.ofW (cc := cX6_anyLate) (maxL := 4) (ret := (some .boolean)) (by decide) rfl ?_
  intro p e s m args below meth c0 s₁ B hml hv
  obtain ⟨rfl, hsz, hP, hK, hE⟩ := hv
  have hx := B.exec
  have hb := B.bytes
  have hr := B.returns
  have hts := atoms_spec (ws := Cond.code yX6_anyLate cX6_anyLate 4 (some .boolean) :: wA) B.pre
  have hwd : ∀ w ∈ wA, w.before _ s = true := fun w h => hts w (List.mem_cons_of_mem _ h)
  have hown : s.vm.findClass RX6 = some m.cls := findClass_of_methodNamed B.named
  have hlocks := B.notSynchronized
  subst hsz
  have hl := lv_entry ([.ref (g 8), .int p0, .int p1]) (n := 4) (Nat.le_of_ble_eq_true rfl)
  rw [lg_entry_eq]
  generalize (lg_sl ([.ref (g 8), .int p0, .int p1]) ++ List.replicate (4 - (lg_sl ([.ref (g 8), .int p0, .int p1])).length) Slot.unset).toArray = ls at hl ⊢
  have hl : lv_has ls 4 [(0, .ref (g 8)), (1, .int p0), (2, .int p1)] := hl
  obtain ⟨H, eH⟩ : ∃ z, z = s.heap := ⟨_, rfl⟩
  have hP : va_P (dC, dI) classes (wX g c v F rc) H := by rw [eH]; exact hP
  have hS : va_S (AX g s.heap.size) s.heap H [] := by rw [eH]; exact va_S.rf
  refine my_heap eH ?_
  have rp0 := i32_rng p0
  have rp1 := i32_rng p1
  refine lv_iconst (v := 0) hx hb dX6_anyLate_0 (by decide) ?_
  refine lv_istore_n (lv' := [(3, .int 0), (0, .ref (g 8)), (1, .int p0), (2, .int p1)]) hx hb dX6_anyLate_1 rfl hl (by decide) rfl (fun ls hl => ?_)
  have lp1118 : ∀ (n : Nat) (x3_lp1118 : Int32) (H : Heap) (locs : List Loc) (ls : Array Slot), (0 ≤ x3_lp1118.toInt) → (2147483648 - x3_lp1118.toInt ≤ (n : Int)) → va_P (dC, dI) classes (wX g c v F rc) H → va_S (AX g s.heap.size) s.heap H locs → lv_has ls 4 [(3, .int x3_lp1118), (0, .ref (g 8)), (1, .int p0), (2, .int p1)] → W p l e (headSpec (Cond.code yX6_anyLate cX6_anyLate 4 (some .boolean) :: wA) ({ frames := 3, cells := 0, slots := 0, locals := 120 })).room s m ([.ref (g 8), .int p0, .int p1] : List Value).toArray below meth c0 H locs 0 0 (MQ below (va_Qi (fun (r : Int32) (u : Unit) => 0 ≤ r.toInt ∧ r.toInt ≤ 1) (fun (_ : Unit) => BX dC dI g c (v, F, rc)) (AX g s.heap.size)) ([.ref (g 8), .int p0, .int p1] : List Value).toArray s 0 0 (AX g s.heap.size)) (F0 m 2 ls []) := by
    intro n
    induction n with
    | zero =>
      intro x3_lp1118 H locs ls t1119 hm hP hS hl
      exfalso
      have := i32_rng x3_lp1118
      omega
    | succ n ih_lp1118 =>
      intro x3_lp1118 H locs ls t1119 hm hP hS hl
      have rx3_lp1118 := i32_rng x3_lp1118
      refine lv_iload_n hx hb dX6_anyLate_2 rfl (lv_at hl 0 rfl) ?_
      refine lv_aload_n hx hb dX6_anyLate_3 rfl (lv_at hl 1 rfl) ?_
      refine va_get (D := (dC, dI)) (ci := 6) (v := .int (v 161)) (C := RX6) (T := TX6) (N := 5) hx hb hwd inA_X6 hown hK hP 8 rfl rfl 1 (by decide) (hwd _ wk_432) (fun _ h9 => h9) rfl dX6_anyLate_4 ?_
      have t1120 : 0 ≤ (v 161).toInt ∧ (v 161).toInt ≤ 20 := hI.1 161 _ _ rfl
      refine lv_icmp_ge (tgt := 37) hx hb dX6_anyLate_7 (by decide) (fun c1121 => ?_) (fun c1121 => ?_)
      · skip
        have t1122 := cv_le (a := (v 161).toInt) rfl (b := x3_lp1118.toInt) rfl c1121
        refine lv_iconst (v := 0) hx hb dX6_anyLate_37 (by decide) ?_
        have hP9 : va_P (dC, dI) classes (wX g c v F rc) H := hP
        exact W.zret (v := 0) hx hb hr (rfl) (fun t ht hW => ⟨⟨0, (), rfl, by have : (0 : Int32).toInt = 0 := (by decide); omega, (by show va_P _ _ _ t.heap; rw [ht]; exact hP9)⟩, hS.F ht⟩) hS.2.2 dX6_anyLate_38
      · skip
        have t1123 := cv_nle (a := (v 161).toInt) rfl (b := x3_lp1118.toInt) rfl c1121
        refine lv_aload_n hx hb dX6_anyLate_10 rfl (lv_at hl 1 rfl) ?_
        refine va_get (D := (dC, dI)) (ci := 6) (v := .ref (g 56)) (C := RX6) (T := TX6) (N := 5) hx hb hwd inA_X6 hown hK hP 8 rfl rfl 3 (by decide) (hwd _ wk_125) (fun _ h9 => h9) rfl dX6_anyLate_11 ?_
        refine lv_iload_n hx hb dX6_anyLate_14 rfl (lv_at hl 0 rfl) ?_
        refine va_iald hx hb hK hP 56 44 rfl rfl (i := x3_lp1118) (vin (a := x3_lp1118.toInt) rfl (by omega)) dX6_anyLate_15 ?_
        refine lv_topi (fun z1124 e1125 => ?_)
        refine lv_iload_n hx hb dX6_anyLate_16 rfl (lv_at hl 3 rfl) ?_
        refine lv_icmp_ge (tgt := 31) hx hb dX6_anyLate_17 (by decide) (fun c1126 => ?_) (fun c1126 => ?_)
        · skip
          have t1127 := cv_le (a := p1.toInt) rfl (b := z1124.toInt) rfl c1126
          obtain ⟨z1128, e1129⟩ : ∃ y : Int32, y = x3_lp1118 + 1 := ⟨_, rfl⟩
          try (have t1130 := tadd e1129 rfl (b := 1) (by decide) (by omega))
          refine lv_iinc (v := z1128) (lv' := [(3, .int z1128), (0, .ref (g 8)), (1, .int p0), (2, .int p1)]) hx hb dX6_anyLate_31 hl (k := 0) rfl (by rw [e1129]; rfl) (by decide) rfl (fun ls hl => ?_)
          refine lv_goto (tgt := 2) hx hb dX6_anyLate_34 (by decide) ?_
          exact ih_lp1118 z1128  _ _ _ (by omega) (by omega) hP hS (lv_sub hl [0, 1, 2, 3] rfl)
        · skip
          have t1131 := cv_nle (a := p1.toInt) rfl (b := z1124.toInt) rfl c1126
          refine lv_aload_n hx hb dX6_anyLate_20 rfl (lv_at hl 1 rfl) ?_
          refine lv_iload_n hx hb dX6_anyLate_21 rfl (lv_at hl 0 rfl) ?_
          refine lv_iload_n hx hb dX6_anyLate_22 rfl (lv_at hl 2 rfl) ?_
          refine va_calli (va_runV (As := [.int x3_lp1118, .int p0]) (rest := []) ⟨hx, hb, hml, hown, hwd⟩ (c_X6_isDue l dC dI g c adK adV v F rc H.size x3_lp1118 p0 hg hI (by omega) (by omega)) (cwV 2 hwd (gV wk_436 wk_433 wk_434 wk_435 wk_42) rfl rfl rfl (by decide +kernel) ⟨Nat.le_of_ble_eq_true rfl, Nat.le_of_ble_eq_true rfl⟩) ⟨PX.blind, va_recv hK hP (ci := 6) (q0 := 8) rfl rfl, fun U hU hW => ⟨rfl, PX.at hK hE hP hS hU hW⟩⟩ rfl rfl hl.1 rfl (lv_room (Nat.le_of_ble_eq_true rfl)) dX6_anyLate_23 ⟨Nat.le_of_ble_eq_true rfl, Nat.le_of_ble_eq_true rfl⟩) hS (fun q _ h => (freeX hS) q h) (freeX hS) (fun r1132 u t H1 locs ht hvm hw hB hz1 hk1 hS => ?_)
          unfold BX at hB
          rw [ht] at hB
          have hP : va_P (dC, dI) classes (wX g c v F rc) H1 := hB
          have hw : 0 ≤ r1132.toInt ∧ r1132.toInt ≤ 1 := hw
          generalize H1 = H at hP hS ⊢
          have hw_r1132 := hw
          refine lv_if_eq (tgt := 31) hx hb dX6_anyLate_26 (by decide) (fun c1133 => ?_) (fun c1133 => ?_)
          · skip
            have t1134 := cv_eq (a := r1132.toInt) rfl (b := 0) (by decide) c1133
            obtain ⟨z1135, e1136⟩ : ∃ y : Int32, y = x3_lp1118 + 1 := ⟨_, rfl⟩
            try (have t1137 := tadd e1136 rfl (b := 1) (by decide) (by omega))
            refine lv_iinc (v := z1135) (lv' := [(3, .int z1135), (0, .ref (g 8)), (1, .int p0), (2, .int p1)]) hx hb dX6_anyLate_31 hl (k := 0) rfl (by rw [e1136]; rfl) (by decide) rfl (fun ls hl => ?_)
            refine lv_goto (tgt := 2) hx hb dX6_anyLate_34 (by decide) ?_
            exact ih_lp1118 z1135  _ _ _ (by omega) (by omega) hP hS (lv_sub hl [0, 1, 2, 3] rfl)
          · skip
            have t1138 := cv_ne (a := r1132.toInt) rfl (b := 0) (by decide) c1133
            refine lv_iconst (v := 1) hx hb dX6_anyLate_29 (by decide) ?_
            have hP9 : va_P (dC, dI) classes (wX g c v F rc) H := hP
            exact W.zret (v := 1) hx hb hr (rfl) (fun t ht hW => ⟨⟨1, (), rfl, by have : (1 : Int32).toInt = 1 := (by decide); omega, (by show va_P _ _ _ t.heap; rw [ht]; exact hP9)⟩, hS.F ht⟩) hS.2.2 dX6_anyLate_30
  obtain ⟨n9, hn9⟩ : ∃ n : Nat, 2147483648 - 0 ≤ (n : Int) := ⟨((2147483648 - 0 : Int)).toNat, by omega⟩
  exact lp1118 n9 0  H _ ls (by have : (0 : Int32).toInt = 0 := (by decide); omega) (by have : (0 : Int32).toInt = 0 := (by decide); omega) hP hS hl
