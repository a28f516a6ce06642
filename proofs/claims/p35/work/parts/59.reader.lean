set_option maxHeartbeats 8000000 in
set_option maxRecDepth 100000 in
theorem c_X3_next (l : Launch) (dC : Nat → ClassId) (dI : Nat → Nat → Nat) (g : Nat → Nat) (c : Nat → ClassId) (adK adV : Nat → Nat) (v : Nat → Int32) (F : Nat → Nat → Int32) (nr sz : Nat) (hg : injX g) (hnr : nr < 10) (hI : IX v F) : Met l yX3_next (Cond.code yX3_next cX3_next 1 (some .int) :: wA) ({ frames := 2, cells := 0, slots := 0, locals := 80 }) (va_Pc [.ref (g 7)] (PX dC dI g c adK adV v F (g (44 + nr)) sz)) (va_Qi (fun (r : Int32) (u : Unit) => True) (fun (_ : Unit) => BX dC dI g c (v, F, (g (44 + nr)))) (AX g sz)) 0 0 (AX g sz) := by
  refine Met.ofW (cc := cX3_next) (maxL := 1) (ret := (some .int)) (by decide) rfl ?_
  intro p e s m args below meth c0 s₁ B hml hv
  obtain ⟨rfl, hsz, hP, hK, hE⟩ := hv
  have hx := B.exec
  have hb := B.bytes
  have hr := B.returns
  have hts := atoms_spec (ws := Cond.code yX3_next cX3_next 1 (some .int) :: wA) B.pre
  have hwd : ∀ w ∈ wA, w.before _ s = true := fun w h => hts w (List.mem_cons_of_mem _ h)
  have hown : s.vm.findClass RX3 = some m.cls := findClass_of_methodNamed B.named
  have hlocks := B.notSynchronized
  subst hsz
  have hl := lv_entry ([.ref (g 7)]) (n := 1) (Nat.le_of_ble_eq_true rfl)
  rw [lg_entry_eq]
  generalize (lg_sl ([.ref (g 7)]) ++ List.replicate (1 - (lg_sl ([.ref (g 7)])).length) Slot.unset).toArray = ls at hl ⊢
  have hl : lv_has ls 1 [(0, .ref (g 7))] := hl
  obtain ⟨H, eH⟩ : ∃ z, z = s.heap := ⟨_, rfl⟩
  have hP : va_P (dC, dI) classes (wX g c v F (g (44 + nr))) H := by rw [eH]; exact hP
  have hS : va_S (AX g s.heap.size) s.heap H [] := by rw [eH]; exact va_S.rf
  refine my_heap eH ?_
  refine lv_aload_n hx hb dX3_next_0 rfl (lv_at hl 0 rfl) ?_
  refine va_get (D := (dC, dI)) (ci := 3) (v := .int (v 144)) (C := RX3) (T := TX3) (N := 5) hx hb hwd inA_X3 hown hK hP 7 rfl rfl 4 (by decide) (hwd _ wk_854) (fun _ h9 => h9) rfl dX3_next_1 ?_
  refine lv_iconst (v := (-1)) hx hb dX3_next_4 (by decide) ?_
  refine lv_icmp_ne (tgt := 22) hx hb dX3_next_5 (by decide) (fun c3441 => ?_) (fun c3441 => ?_)
  · skip
    have t3442 := cv_ne (a := (v 144).toInt) rfl (b := (-1)) (by decide) c3441
    refine lv_iconst (v := (-1)) hx hb dX3_next_22 (by decide) ?_
    have hP9 : va_P (dC, dI) classes (wX g c v F (g (44 + nr))) H := hP
    exact W.iret (v := (-1)) hx hb hr (fun t ht hW => ⟨⟨(-1), (), rfl, trivial, (by show va_P _ _ _ t.heap; rw [ht]; exact hP9)⟩, hS.F ht⟩) hS.2.2 dX3_next_23
  · skip
    have t3443 := cv_eq (a := (v 144).toInt) rfl (b := (-1)) (by decide) c3441
    refine lv_aload_n hx hb dX3_next_8 rfl (lv_at hl 0 rfl) ?_
    refine va_get (D := (dC, dI)) (ci := 3) (v := .ref (g 5)) (C := RX3) (T := TX3) (N := 5) hx hb hwd inA_X3 hown hK hP 7 rfl rfl 0 (by decide) (hwd _ wk_118) (fun _ h9 => h9) rfl dX3_next_9 ?_
    refine lv_aload_n hx hb dX3_next_12 rfl (lv_at hl 0 rfl) ?_
    refine va_get (D := (dC, dI)) (ci := 3) (v := .int (v 143)) (C := RX3) (T := TX3) (N := 5) hx hb hwd inA_X3 hown hK hP 7 rfl rfl 3 (by decide) (hwd _ wk_853) (fun _ h9 => h9) rfl dX3_next_13 ?_
    refine va_calli (va_runV (As := [.int (v 143)]) (rest := []) ⟨hx, hb, hml, hown, hwd⟩ (c_X10_at l dC dI g c adK adV v F (g (44 + nr)) H.size (v 143) hg hI ) (cwV 1 hwd (gV wk_870 wk_867 wk_868 wk_869 wk_30) rfl rfl rfl (by decide +kernel) ⟨Nat.le_of_ble_eq_true rfl, Nat.le_of_ble_eq_true rfl⟩) ⟨PX.blind, va_recv hK hP (ci := 10) (q0 := 5) rfl rfl, fun U hU hW => ⟨rfl, PX.at hK hE hP hS hU hW⟩⟩ rfl rfl hl.1 rfl (lv_room (Nat.le_of_ble_eq_true rfl)) dX3_next_16 ⟨Nat.le_of_ble_eq_true rfl, Nat.le_of_ble_eq_true rfl⟩) hS (fun q _ h => (freeX hS) q h) (freeX hS) (fun r3444 u t H1 locs ht hvm hw hB hz1 hk1 hS => ?_)
    unfold BX at hB
    rw [ht] at hB
    have hP : va_P (dC, dI) classes (wX g c v F (g (44 + nr))) H1 := hB
    generalize H1 = H at hP hS ⊢
    have rr_r3444 := i32_rng r3444
    refine lv_goto (tgt := 23) hx hb dX3_next_19 (by decide) ?_
    have hP9 : va_P (dC, dI) classes (wX g c v F (g (44 + nr))) H := hP
    exact W.iret (v := r3444) hx hb hr (fun t ht hW => ⟨⟨r3444, (), rfl, trivial, (by show va_P _ _ _ t.heap; rw [ht]; exact hP9)⟩, hS.F ht⟩) hS.2.2 dX3_next_23
set_option maxHeartbeats 8000000 in
set_option maxRecDepth 100000 in
theorem c_X3_fail (l : Launch) (dC : Nat → ClassId) (dI : Nat → Nat → Nat) (g : Nat → Nat) (c : Nat → ClassId) (adK adV : Nat → Nat) (v : Nat → Int32) (F : Nat → Nat → Int32) (nr sz : Nat) (hg : injX g) (hnr : nr < 10) (hI : IX v F) : Met l yX3_fail (Cond.code yX3_fail cX3_fail 1 none :: wA) ({ frames := 1, cells := 0, slots := 0, locals := 40 }) (va_Pc [.ref (g 7)] (PX dC dI g c adK adV v F (g (44 + nr)) sz)) (va_Qv (fun (u : StX) => IX u.1 u.2.1 ∧ alX u.1 u.2.1 = alX v F ∧ u.2.2 = (g (44 + nr)) ∧ (∀ k, k ∉ ([144] : List Nat) → u.1 k = v k) ∧ True) (BX dC dI g c) (AX g sz)) 0 0 (AX g sz) := by
  refine Met.ofW (cc := cX3_fail) (maxL := 1) (ret := none) (by decide) rfl ?_
  intro p e s m args below meth c0 s₁ B hml hv
  obtain ⟨rfl, hsz, hP, hK, hE⟩ := hv
  have hx := B.exec
  have hb := B.bytes
  have hr := B.returns
  have hts := atoms_spec (ws := Cond.code yX3_fail cX3_fail 1 none :: wA) B.pre
  have hwd : ∀ w ∈ wA, w.before _ s = true := fun w h => hts w (List.mem_cons_of_mem _ h)
  have hown : s.vm.findClass RX3 = some m.cls := findClass_of_methodNamed B.named
  have hlocks := B.notSynchronized
  subst hsz
  have hl := lv_entry ([.ref (g 7)]) (n := 1) (Nat.le_of_ble_eq_true rfl)
  rw [lg_entry_eq]
  generalize (lg_sl ([.ref (g 7)]) ++ List.replicate (1 - (lg_sl ([.ref (g 7)])).length) Slot.unset).toArray = ls at hl ⊢
  have hl : lv_has ls 1 [(0, .ref (g 7))] := hl
  obtain ⟨H, eH⟩ : ∃ z, z = s.heap := ⟨_, rfl⟩
  have hP : va_P (dC, dI) classes (wX g c v F (g (44 + nr))) H := by rw [eH]; exact hP
  have hS : va_S (AX g s.heap.size) s.heap H [] := by rw [eH]; exact va_S.rf
  refine my_heap eH ?_
  have hal : alX v F = alX v F := rfl
  refine lv_aload_n hx hb dX3_fail_0 rfl (lv_at hl 0 rfl) ?_
  refine va_get (D := (dC, dI)) (ci := 3) (v := .int (v 144)) (C := RX3) (T := TX3) (N := 5) hx hb hwd inA_X3 hown hK hP 7 rfl rfl 4 (by decide) (hwd _ wk_854) (fun _ h9 => h9) rfl dX3_fail_1 ?_
  refine lv_iconst (v := (-1)) hx hb dX3_fail_4 (by decide) ?_
  refine lv_icmp_ne (tgt := 16) hx hb dX3_fail_5 (by decide) (fun c3445 => ?_) (fun c3445 => ?_)
  · skip
    have t3446 := cv_ne (a := (v 144).toInt) rfl (b := (-1)) (by decide) c3445
    have hP9 : va_P (dC, dI) classes (wX g c v F (g (44 + nr))) H := hP
    exact W.vret hx hb hr (fun t ht hW => ⟨⟨(v, F, (g (44 + nr))), rfl, ⟨hI, hal, rfl, (fun _ _ => rfl), trivial⟩, (by show va_P _ _ _ t.heap; rw [ht]; exact hP9)⟩, hS.F ht⟩) hS.2.2 dX3_fail_16
  · skip
    have t3447 := cv_eq (a := (v 144).toInt) rfl (b := (-1)) (by decide) c3445
    refine lv_aload_n hx hb dX3_fail_8 rfl (lv_at hl 0 rfl) ?_
    refine lv_aload_n hx hb dX3_fail_9 rfl (lv_at hl 0 rfl) ?_
    refine va_get (D := (dC, dI)) (ci := 3) (v := .int (v 143)) (C := RX3) (T := TX3) (N := 5) hx hb hwd inA_X3 hown hK hP 7 rfl rfl 3 (by decide) (hwd _ wk_853) (fun _ h9 => h9) rfl dX3_fail_10 ?_
    refine va_put (D := (dC, dI)) (ci := 3) (v := .int (v 143)) (ty := .int) (C := RX3) (T := TX3) (N := 5) (fs := fsX_7 g v (g (44 + nr))) hx hb hwd inA_X3 tyX3 tyX3_ok nmX3 hown hK hP (DX hg) hS 7 rfl rfl 4 (by decide) (hwd _ wk_854) (fun _ h9 => h9) rfl (by decide +kernel) rfl rfl (Nat.le_of_ble_eq_true rfl) dX3_fail_13 (fun H locs hP _ hS => ?_)
    have hP := va_P_eq (pX_144 g c _ _ _ _) hP
    have hI := IX.put0 hI 144 (v 143) rfl
    have hal := (alX_v _ _ 144 (v 143) (by decide) (by decide) (by decide) (by decide)).trans hal
    have hP9 : va_P (dC, dI) classes (wX g c (va_up v 144 (v 143)) F (g (44 + nr))) H := hP
    exact W.vret hx hb hr (fun t ht hW => ⟨⟨((va_up v 144 (v 143)), F, (g (44 + nr))), rfl, ⟨hI, hal, rfl, (frU (by decide) (fun _ _ => rfl)), trivial⟩, (by show va_P _ _ _ t.heap; rw [ht]; exact hP9)⟩, hS.F ht⟩) hS.2.2 dX3_fail_16
set_option maxHeartbeats 8000000 in
set_option maxRecDepth 100000 in
theorem c_X3_take (l : Launch) (dC : Nat → ClassId) (dI : Nat → Nat → Nat) (g : Nat → Nat) (c : Nat → ClassId) (adK adV : Nat → Nat) (v : Nat → Int32) (F : Nat → Nat → Int32) (nr sz : Nat) (p0 : Int32) (hg : injX g) (hnr : nr < 10) (hI : IX v F) : Met l yX3_take (Cond.code yX3_take cX3_take 2 none :: wA) ({ frames := 3, cells := 0, slots := 0, locals := 120 }) (va_Pc [.ref (g 7), .int p0] (PX dC dI g c adK adV v F (g (44 + nr)) sz)) (va_Qv (fun (u : StX) => IX u.1 u.2.1 ∧ alX u.1 u.2.1 = alX v F ∧ u.2.2 = (g (44 + nr)) ∧ (∀ k, k ∉ ([143, 144] : List Nat) → u.1 k = v k) ∧ True) (BX dC dI g c) (AX g sz)) 0 0 (AX g sz) := by
  refine Met.ofW (cc := cX3_take) (maxL := 2) (ret := none) (by decide) rfl ?_
  intro p e s m args below meth c0 s₁ B hml hv
  obtain ⟨rfl, hsz, hP, hK, hE⟩ := hv
  have hx := B.exec
  have hb := B.bytes
  have hr := B.returns
  have hts := atoms_spec (ws := Cond.code yX3_take cX3_take 2 none :: wA) B.pre
  have hwd : ∀ w ∈ wA, w.before _ s = true := fun w h => hts w (List.mem_cons_of_mem _ h)
  have hown : s.vm.findClass RX3 = some m.cls := findClass_of_methodNamed B.named
  have hlocks := B.notSynchronized
  subst hsz
  have hl := lv_entry ([.ref (g 7), .int p0]) (n := 2) (Nat.le_of_ble_eq_true rfl)
  rw [lg_entry_eq]
  generalize (lg_sl ([.ref (g 7), .int p0]) ++ List.replicate (2 - (lg_sl ([.ref (g 7), .int p0])).length) Slot.unset).toArray = ls at hl ⊢
  have hl : lv_has ls 2 [(0, .ref (g 7)), (1, .int p0)] := hl
  obtain ⟨H, eH⟩ : ∃ z, z = s.heap := ⟨_, rfl⟩
  have hP : va_P (dC, dI) classes (wX g c v F (g (44 + nr))) H := by rw [eH]; exact hP
  have hS : va_S (AX g s.heap.size) s.heap H [] := by rw [eH]; exact va_S.rf
  refine my_heap eH ?_
  have hal : alX v F = alX v F := rfl
  have rp0 := i32_rng p0
  refine lv_aload_n hx hb dX3_take_0 rfl (lv_at hl 0 rfl) ?_
  refine va_calli (va_runV (As := []) (rest := []) ⟨hx, hb, hml, hown, hwd⟩ (c_X3_next l dC dI g c adK adV v F nr H.size  hg hnr hI ) (cwV 0 hwd (gV wk_866 wk_863 wk_864 wk_865 wk_38) rfl rfl rfl (by decide +kernel) ⟨Nat.le_of_ble_eq_true rfl, Nat.le_of_ble_eq_true rfl⟩) ⟨PX.blind, va_recv hK hP (ci := 3) (q0 := 7) rfl rfl, fun U hU hW => ⟨rfl, PX.at hK hE hP hS hU hW⟩⟩ rfl rfl hl.1 rfl (lv_room (Nat.le_of_ble_eq_true rfl)) dX3_take_1 ⟨Nat.le_of_ble_eq_true rfl, Nat.le_of_ble_eq_true rfl⟩) hS (fun q _ h => (freeX hS) q h) (freeX hS) (fun r3448 u t H1 locs ht hvm hw hB hz1 hk1 hS => ?_)
  unfold BX at hB
  rw [ht] at hB
  have hP : va_P (dC, dI) classes (wX g c v F (g (44 + nr))) H1 := hB
  generalize H1 = H at hP hS ⊢
  have rr_r3448 := i32_rng r3448
  refine lv_iload_n hx hb dX3_take_4 rfl (lv_at hl 1 rfl) ?_
  refine lv_icmp_ne (tgt := 21) hx hb dX3_take_5 (by decide) (fun c3449 => ?_) (fun c3449 => ?_)
  · skip
    have t3450 := cv_ne (a := r3448.toInt) rfl (b := p0.toInt) rfl c3449
    refine lv_aload_n hx hb dX3_take_21 rfl (lv_at hl 0 rfl) ?_
    refine va_callv (va_runV (As := []) (rest := []) ⟨hx, hb, hml, hown, hwd⟩ (c_X3_fail l dC dI g c adK adV v F nr H.size  hg hnr hI ) (cwV 0 hwd (gV wk_878 wk_875 wk_876 wk_877 wk_38) rfl rfl rfl (by decide +kernel) ⟨Nat.le_of_ble_eq_true rfl, Nat.le_of_ble_eq_true rfl⟩) ⟨PX.blind, va_recv hK hP (ci := 3) (q0 := 7) rfl rfl, fun U hU hW => ⟨rfl, PX.at hK hE hP hS hU hW⟩⟩ rfl rfl hl.1 rfl (lv_room (Nat.le_of_ble_eq_true rfl)) dX3_take_22 ⟨Nat.le_of_ble_eq_true rfl, Nat.le_of_ble_eq_true rfl⟩) hS (fun q _ h => (freeX hS) q h) (freeX hS) (fun u t H1 locs ht hvm hw hB hz1 hk1 hS => ?_)
    unfold BX at hB
    rw [ht] at hB
    obtain ⟨v3452, F3453, rc9⟩ := u
    obtain ⟨hI, hal9, hrc, hf3454, hw⟩ := hw
    dsimp only at hI hal9 hrc hB hf3454 hw
    rw [hrc] at hB
    have hal := hal9.trans hal
    have hP : va_P (dC, dI) classes (wX g c v3452 F3453 (g (44 + nr))) H1 := hB
    generalize H1 = H at hP hS ⊢
    have hP9 : va_P (dC, dI) classes (wX g c v3452 F3453 (g (44 + nr))) H := hP
    exact W.vret hx hb hr (fun t ht hW => ⟨⟨(v3452, F3453, (g (44 + nr))), rfl, ⟨hI, hal, rfl, (frC (by decide) hf3454 (fun _ _ => rfl)), trivial⟩, (by show va_P _ _ _ t.heap; rw [ht]; exact hP9)⟩, hS.F ht⟩) hS.2.2 dX3_take_25
  · skip
    have t3455 := cv_eq (a := r3448.toInt) rfl (b := p0.toInt) rfl c3449
    refine lv_aload_n hx hb dX3_take_8 rfl (lv_at hl 0 rfl) ?_
    refine lv_dup hx hb dX3_take_9 rfl ?_
    refine va_get (D := (dC, dI)) (ci := 3) (v := .int (v 143)) (C := RX3) (T := TX3) (N := 5) hx hb hwd inA_X3 hown hK hP 7 rfl rfl 3 (by decide) (hwd _ wk_853) (fun _ h9 => h9) rfl dX3_take_10 ?_
    refine lv_iconst (v := 1) hx hb dX3_take_13 (by decide) ?_
    refine lv_iadd hx hb dX3_take_14 ?_
    refine lv_topi (fun z3456 e3457 => ?_)
    try (have t3458 := tadd e3457 (a := (v 143).toInt) rfl (b := 1) (by decide) (by omega))
    refine va_put (D := (dC, dI)) (ci := 3) (v := .int z3456) (ty := .int) (C := RX3) (T := TX3) (N := 5) (fs := fsX_7 g v (g (44 + nr))) hx hb hwd inA_X3 tyX3 tyX3_ok nmX3 hown hK hP (DX hg) hS 7 rfl rfl 3 (by decide) (hwd _ wk_853) (fun _ h9 => h9) rfl (by decide +kernel) rfl rfl (Nat.le_of_ble_eq_true rfl) dX3_take_15 (fun H locs hP _ hS => ?_)
    have hP := va_P_eq (pX_143 g c _ _ _ _) hP
    have hI := IX.put0 hI 143 z3456 rfl
    have hal := (alX_v _ _ 143 z3456 (by decide) (by decide) (by decide) (by decide)).trans hal
    refine lv_goto (tgt := 25) hx hb dX3_take_18 (by decide) ?_
    have hP9 : va_P (dC, dI) classes (wX g c (va_up v 143 z3456) F (g (44 + nr))) H := hP
    exact W.vret hx hb hr (fun t ht hW => ⟨⟨((va_up v 143 z3456), F, (g (44 + nr))), rfl, ⟨hI, hal, rfl, (frU (by decide) (fun _ _ => rfl)), trivial⟩, (by show va_P _ _ _ t.heap; rw [ht]; exact hP9)⟩, hS.F ht⟩) hS.2.2 dX3_take_25
set_option maxHeartbeats 8000000 in
set_option maxRecDepth 100000 in
theorem c_X3_opens (l : Launch) (dC : Nat → ClassId) (dI : Nat → Nat → Nat) (g : Nat → Nat) (c : Nat → ClassId) (adK adV : Nat → Nat) (v : Nat → Int32) (F : Nat → Nat → Int32) (nr sz : Nat) (p0 : Int32) (hg : injX g) (hnr : nr < 10) (hI : IX v F) : Met l yX3_opens (Cond.code yX3_opens cX3_opens 2 (some .boolean) :: wA) ({ frames := 2, cells := 0, slots := 0, locals := 80 }) (va_Pc [.ref (g 7), .int p0] (PX dC dI g c adK adV v F (g (44 + nr)) sz)) (va_Qi (fun (r : Int32) (u : StX) => IX u.1 u.2.1 ∧ alX u.1 u.2.1 = alX v F ∧ u.2.2 = (g (44 + nr)) ∧ (∀ k, k ∉ ([143, 144] : List Nat) → u.1 k = v k) ∧ ((r.toInt = 1 ∧ p0.toInt < 8) ∨ (r.toInt = 0 ∧ 8 ≤ p0.toInt))) (BX dC dI g c) (AX g sz)) 0 0 (AX g sz) := by
  refine Met.ofW (cc := cX3_opens) (maxL := 2) (ret := (some .boolean)) (by decide) rfl ?_
  intro p e s m args below meth c0 s₁ B hml hv
  obtain ⟨rfl, hsz, hP, hK, hE⟩ := hv
  have hx := B.exec
  have hb := B.bytes
  have hr := B.returns
  have hts := atoms_spec (ws := Cond.code yX3_opens cX3_opens 2 (some .boolean) :: wA) B.pre
  have hwd : ∀ w ∈ wA, w.before _ s = true := fun w h => hts w (List.mem_cons_of_mem _ h)
  have hown : s.vm.findClass RX3 = some m.cls := findClass_of_methodNamed B.named
  have hlocks := B.notSynchronized
  subst hsz
  have hl := lv_entry ([.ref (g 7), .int p0]) (n := 2) (Nat.le_of_ble_eq_true rfl)
  rw [lg_entry_eq]
  generalize (lg_sl ([.ref (g 7), .int p0]) ++ List.replicate (2 - (lg_sl ([.ref (g 7), .int p0])).length) Slot.unset).toArray = ls at hl ⊢
  have hl : lv_has ls 2 [(0, .ref (g 7)), (1, .int p0)] := hl
  obtain ⟨H, eH⟩ : ∃ z, z = s.heap := ⟨_, rfl⟩
  have hP : va_P (dC, dI) classes (wX g c v F (g (44 + nr))) H := by rw [eH]; exact hP
  have hS : va_S (AX g s.heap.size) s.heap H [] := by rw [eH]; exact va_S.rf
  refine my_heap eH ?_
  have hal : alX v F = alX v F := rfl
  have rp0 := i32_rng p0
  refine lv_iload_n hx hb dX3_opens_0 rfl (lv_at hl 1 rfl) ?_
  refine lv_bipush (v := 8) hx hb dX3_opens_1 (by decide) ?_
  refine lv_icmp_lt (tgt := 12) hx hb dX3_opens_3 (by decide) (fun c3459 => ?_) (fun c3459 => ?_)
  · skip
    have t3460 := cv_lt (a := p0.toInt) rfl (b := 8) (by decide) c3459
    refine lv_aload_n hx hb dX3_opens_12 rfl (lv_at hl 0 rfl) ?_
    refine lv_dup hx hb dX3_opens_13 rfl ?_
    refine va_get (D := (dC, dI)) (ci := 3) (v := .int (v 143)) (C := RX3) (T := TX3) (N := 5) hx hb hwd inA_X3 hown hK hP 7 rfl rfl 3 (by decide) (hwd _ wk_853) (fun _ h9 => h9) rfl dX3_opens_14 ?_
    refine lv_iconst (v := 1) hx hb dX3_opens_17 (by decide) ?_
    refine lv_iadd hx hb dX3_opens_18 ?_
    refine lv_topi (fun z3461 e3462 => ?_)
    try (have t3463 := tadd e3462 (a := (v 143).toInt) rfl (b := 1) (by decide) (by omega))
    refine va_put (D := (dC, dI)) (ci := 3) (v := .int z3461) (ty := .int) (C := RX3) (T := TX3) (N := 5) (fs := fsX_7 g v (g (44 + nr))) hx hb hwd inA_X3 tyX3 tyX3_ok nmX3 hown hK hP (DX hg) hS 7 rfl rfl 3 (by decide) (hwd _ wk_853) (fun _ h9 => h9) rfl (by decide +kernel) rfl rfl (Nat.le_of_ble_eq_true rfl) dX3_opens_19 (fun H locs hP _ hS => ?_)
    have hP := va_P_eq (pX_143 g c _ _ _ _) hP
    have hI := IX.put0 hI 143 z3461 rfl
    have hal := (alX_v _ _ 143 z3461 (by decide) (by decide) (by decide) (by decide)).trans hal
    refine lv_iconst (v := 1) hx hb dX3_opens_22 (by decide) ?_
    have hP9 : va_P (dC, dI) classes (wX g c (va_up v 143 z3461) F (g (44 + nr))) H := hP
    exact W.zret (v := 1) hx hb hr (rfl) (fun t ht hW => ⟨⟨1, ((va_up v 143 z3461), F, (g (44 + nr))), rfl, ⟨hI, hal, rfl, (frU (by decide) (fun _ _ => rfl)), by have : (1 : Int32).toInt = 1 := (by decide); omega⟩, (by show va_P _ _ _ t.heap; rw [ht]; exact hP9)⟩, hS.F ht⟩) hS.2.2 dX3_opens_23
  · skip
    have t3464 := cv_nlt (a := p0.toInt) rfl (b := 8) (by decide) c3459
    refine lv_aload_n hx hb dX3_opens_6 rfl (lv_at hl 0 rfl) ?_
    refine va_callv (va_runV (As := []) (rest := []) ⟨hx, hb, hml, hown, hwd⟩ (c_X3_fail l dC dI g c adK adV v F nr H.size  hg hnr hI ) (cwV 0 hwd (gV wk_878 wk_875 wk_876 wk_877 wk_38) rfl rfl rfl (by decide +kernel) ⟨Nat.le_of_ble_eq_true rfl, Nat.le_of_ble_eq_true rfl⟩) ⟨PX.blind, va_recv hK hP (ci := 3) (q0 := 7) rfl rfl, fun U hU hW => ⟨rfl, PX.at hK hE hP hS hU hW⟩⟩ rfl rfl hl.1 rfl (lv_room (Nat.le_of_ble_eq_true rfl)) dX3_opens_7 ⟨Nat.le_of_ble_eq_true rfl, Nat.le_of_ble_eq_true rfl⟩) hS (fun q _ h => (freeX hS) q h) (freeX hS) (fun u t H1 locs ht hvm hw hB hz1 hk1 hS => ?_)
    unfold BX at hB
    rw [ht] at hB
    obtain ⟨v3466, F3467, rc9⟩ := u
    obtain ⟨hI, hal9, hrc, hf3468, hw⟩ := hw
    dsimp only at hI hal9 hrc hB hf3468 hw
    rw [hrc] at hB
    have hal := hal9.trans hal
    have hP : va_P (dC, dI) classes (wX g c v3466 F3467 (g (44 + nr))) H1 := hB
    generalize H1 = H at hP hS ⊢
    refine lv_iconst (v := 0) hx hb dX3_opens_10 (by decide) ?_
    have hP9 : va_P (dC, dI) classes (wX g c v3466 F3467 (g (44 + nr))) H := hP
    exact W.zret (v := 0) hx hb hr (rfl) (fun t ht hW => ⟨⟨0, (v3466, F3467, (g (44 + nr))), rfl, ⟨hI, hal, rfl, (frC (by decide) hf3468 (fun _ _ => rfl)), by have : (0 : Int32).toInt = 0 := (by decide); omega⟩, (by show va_P _ _ _ t.heap; rw [ht]; exact hP9)⟩, hS.F ht⟩) hS.2.2 dX3_opens_11
set_option maxHeartbeats 8000000 in
set_option maxRecDepth 100000 in
theorem c_X3_put (l : Launch) (dC : Nat → ClassId) (dI : Nat → Nat → Nat) (g : Nat → Nat) (c : Nat → ClassId) (adK adV : Nat → Nat) (v : Nat → Int32) (F : Nat → Nat → Int32) (nr sz : Nat) (p0 : Int32) (p1 : Int32) (hg : injX g) (hnr : nr < 10) (hI : IX v F) (h0 : 0 ≤ p0.toInt ∧ p0.toInt ≤ 15) (h1 : 0 ≤ p1.toInt ∧ p1.toInt ≤ 134217727) : Met l yX3_put (Cond.code yX3_put cX3_put 3 (some .int) :: wA) ({ frames := 1, cells := 0, slots := 0, locals := 40 }) (va_Pc [.ref (g 7), .int p0, .int p1] (PX dC dI g c adK adV v F (g (44 + nr)) sz)) (va_Qi (fun (r : Int32) (u : StX) => IX u.1 u.2.1 ∧ alX u.1 u.2.1 = alX v F ∧ u.2.2 = (g (44 + nr)) ∧ (∀ k, k ∉ ([142] : List Nat) → u.1 k = v k) ∧ -1 ≤ r.toInt ∧ r.toInt ≤ 119) (BX dC dI g c) (AX g sz)) 0 0 (AX g sz) := by
  refine Met.ofW (cc := cX3_put) (maxL := 3) (ret := (some .int)) (by decide) rfl ?_
  intro p e s m args below meth c0 s₁ B hml hv
  obtain ⟨rfl, hsz, hP, hK, hE⟩ := hv
  have hx := B.exec
  have hb := B.bytes
  have hr := B.returns
  have hts := atoms_spec (ws := Cond.code yX3_put cX3_put 3 (some .int) :: wA) B.pre
  have hwd : ∀ w ∈ wA, w.before _ s = true := fun w h => hts w (List.mem_cons_of_mem _ h)
  have hown : s.vm.findClass RX3 = some m.cls := findClass_of_methodNamed B.named
  have hlocks := B.notSynchronized
  subst hsz
  have hl := lv_entry ([.ref (g 7), .int p0, .int p1]) (n := 3) (Nat.le_of_ble_eq_true rfl)
  rw [lg_entry_eq]
  generalize (lg_sl ([.ref (g 7), .int p0, .int p1]) ++ List.replicate (3 - (lg_sl ([.ref (g 7), .int p0, .int p1])).length) Slot.unset).toArray = ls at hl ⊢
  have hl : lv_has ls 3 [(0, .ref (g 7)), (1, .int p0), (2, .int p1)] := hl
  obtain ⟨H, eH⟩ : ∃ z, z = s.heap := ⟨_, rfl⟩
  have hP : va_P (dC, dI) classes (wX g c v F (g (44 + nr))) H := by rw [eH]; exact hP
  have hS : va_S (AX g s.heap.size) s.heap H [] := by rw [eH]; exact va_S.rf
  refine my_heap eH ?_
  have hal : alX v F = alX v F := rfl
  have rp0 := i32_rng p0
  have rp1 := i32_rng p1
  refine lv_aload_n hx hb dX3_put_0 rfl (lv_at hl 0 rfl) ?_
  refine va_get (D := (dC, dI)) (ci := 3) (v := .int (v 142)) (C := RX3) (T := TX3) (N := 5) hx hb hwd inA_X3 hown hK hP 7 rfl rfl 2 (by decide) (hwd _ wk_852) (fun _ h9 => h9) rfl dX3_put_1 ?_
  have t3469 : 0 ≤ (v 142).toInt ∧ (v 142).toInt ≤ 120 := hI.1 142 _ _ rfl
  refine lv_aload_n hx hb dX3_put_4 rfl (lv_at hl 0 rfl) ?_
  refine va_get (D := (dC, dI)) (ci := 3) (v := .ref (g (44 + nr))) (C := RX3) (T := TX3) (N := 5) hx hb hwd inA_X3 hown hK hP 7 rfl rfl 1 (by decide) (hwd _ wk_119) (fun _ h9 => h9) rfl dX3_put_5 ?_
  refine va_alen (v := 120) hx hb hK hP (44 + nr) (32 + nr) (rowW44 hnr) (rowT44 hnr) rfl dX3_put_8 ?_
  refine lv_icmp_ge (tgt := 36) hx hb dX3_put_9 (by decide) (fun c3470 => ?_) (fun c3470 => ?_)
  · skip
    have t3471 := cv_le (a := 120) (by decide) (b := (v 142).toInt) rfl c3470
    refine lv_aload_n hx hb dX3_put_36 rfl (lv_at hl 0 rfl) ?_
    refine va_get (D := (dC, dI)) (ci := 3) (v := .int (v 142)) (C := RX3) (T := TX3) (N := 5) hx hb hwd inA_X3 hown hK hP 7 rfl rfl 2 (by decide) (hwd _ wk_852) (fun _ h9 => h9) rfl dX3_put_37 ?_
    have t3472 : 0 ≤ (v 142).toInt ∧ (v 142).toInt ≤ 120 := hI.1 142 _ _ rfl
    refine lv_iconst (v := 1) hx hb dX3_put_40 (by decide) ?_
    refine lv_isub hx hb dX3_put_41 ?_
    refine lv_topi (fun z3473 e3474 => ?_)
    try (have t3475 := tsub e3474 (a := (v 142).toInt) rfl (b := 1) (by decide) (by omega))
    have hP9 : va_P (dC, dI) classes (wX g c v F (g (44 + nr))) H := hP
    exact W.iret (v := z3473) hx hb hr (fun t ht hW => ⟨⟨z3473, (v, F, (g (44 + nr))), rfl, ⟨hI, hal, rfl, (fun _ _ => rfl), by omega⟩, (by show va_P _ _ _ t.heap; rw [ht]; exact hP9)⟩, hS.F ht⟩) hS.2.2 dX3_put_42
  · skip
    have t3476 := cv_nle (a := 120) (by decide) (b := (v 142).toInt) rfl c3470
    refine lv_aload_n hx hb dX3_put_12 rfl (lv_at hl 0 rfl) ?_
    refine va_get (D := (dC, dI)) (ci := 3) (v := .ref (g (44 + nr))) (C := RX3) (T := TX3) (N := 5) hx hb hwd inA_X3 hown hK hP 7 rfl rfl 1 (by decide) (hwd _ wk_119) (fun _ h9 => h9) rfl dX3_put_13 ?_
    refine lv_aload_n hx hb dX3_put_16 rfl (lv_at hl 0 rfl) ?_
    refine va_get (D := (dC, dI)) (ci := 3) (v := .int (v 142)) (C := RX3) (T := TX3) (N := 5) hx hb hwd inA_X3 hown hK hP 7 rfl rfl 2 (by decide) (hwd _ wk_852) (fun _ h9 => h9) rfl dX3_put_17 ?_
    have t3477 : 0 ≤ (v 142).toInt ∧ (v 142).toInt ≤ 120 := hI.1 142 _ _ rfl
    refine lv_iload_n hx hb dX3_put_20 rfl (lv_at hl 1 rfl) ?_
    refine lv_iload_n hx hb dX3_put_21 rfl (lv_at hl 2 rfl) ?_
    refine lv_iconst (v := 4) hx hb dX3_put_22 (by decide) ?_
    refine lv_ishl hx hb dX3_put_23 ?_
    refine lv_topi (fun z3478 e3479 => ?_)
    have rr_z3478 := i32_rng z3478
    have tsz3478 := tshl4 e3479 (by omega)
    refine lv_ior hx hb dX3_put_24 ?_
    refine lv_topi (fun z3481 e3482 => ?_)
    have toz3481 := tor e3482 (by omega) (by omega)
    have trz3481 := i32_rng z3481
    refine va_iast hx hb hK hP (DX hg) hS (44 + nr) (32 + nr) (rowW44 hnr) (rowT44 hnr) (i := (v 142)) (x := z3481) (vin (a := (v 142).toInt) rfl (by omega)) dX3_put_25 (fun H locs hP _ hS => ?_)
    have hP := va_P_eq (sX_row44 g c _ _ _ hnr _) hP
    have hI := IX.store hI (44 + nr) (v 142 : Int32).toNatClampNeg z3481 (rowA44 hnr) (by omega)
    have hal := (alX_F _ _ (44 + nr) (upd (F (44 + nr)) (v 142 : Int32).toNatClampNeg z3481) (by omega) (by omega)).trans hal
    have hP : va_P (dC, dI) classes (wX g c v (va_up F (44 + nr) (upd (F (44 + nr)) (v 142 : Int32).toNatClampNeg z3481)) (g (44 + nr))) H := hP
    generalize (va_up F (44 + nr) (upd (F (44 + nr)) (v 142 : Int32).toNatClampNeg z3481)) = F3484 at hP hI hal
    refine lv_aload_n hx hb dX3_put_26 rfl (lv_at hl 0 rfl) ?_
    refine lv_dup hx hb dX3_put_27 rfl ?_
    refine va_get (D := (dC, dI)) (ci := 3) (v := .int (v 142)) (C := RX3) (T := TX3) (N := 5) hx hb hwd inA_X3 hown hK hP 7 rfl rfl 2 (by decide) (hwd _ wk_852) (fun _ h9 => h9) rfl dX3_put_28 ?_
    have t3485 : 0 ≤ (v 142).toInt ∧ (v 142).toInt ≤ 120 := hI.1 142 _ _ rfl
    refine lv_iconst (v := 1) hx hb dX3_put_31 (by decide) ?_
    refine lv_iadd hx hb dX3_put_32 ?_
    refine lv_topi (fun z3486 e3487 => ?_)
    try (have t3488 := tadd e3487 (a := (v 142).toInt) rfl (b := 1) (by decide) (by omega))
    refine va_put (D := (dC, dI)) (ci := 3) (v := .int z3486) (ty := .int) (C := RX3) (T := TX3) (N := 5) (fs := fsX_7 g v (g (44 + nr))) hx hb hwd inA_X3 tyX3 tyX3_ok nmX3 hown hK hP (DX hg) hS 7 rfl rfl 2 (by decide) (hwd _ wk_852) (fun _ h9 => h9) rfl (by decide +kernel) rfl rfl (Nat.le_of_ble_eq_true rfl) dX3_put_33 (fun H locs hP _ hS => ?_)
    have hP := va_P_eq (pX_142 g c _ _ _ _) hP
    have hI := IX.put hI 142 z3486 rfl (by omega)
    have hal := (alX_v _ _ 142 z3486 (by decide) (by decide) (by decide) (by decide)).trans hal
    refine lv_aload_n hx hb dX3_put_36 rfl (lv_at hl 0 rfl) ?_
    refine va_get (D := (dC, dI)) (ci := 3) (v := .int z3486) (C := RX3) (T := TX3) (N := 5) hx hb hwd inA_X3 hown hK hP 7 rfl rfl 2 (by decide) (hwd _ wk_852) (fun _ h9 => h9) rfl dX3_put_37 ?_
    have t3489 : 0 ≤ z3486.toInt ∧ z3486.toInt ≤ 120 := hI.1 142 _ _ rfl
    refine lv_iconst (v := 1) hx hb dX3_put_40 (by decide) ?_
    refine lv_isub hx hb dX3_put_41 ?_
    refine lv_topi (fun z3490 e3491 => ?_)
    try (have t3492 := tsub e3491 (a := z3486.toInt) rfl (b := 1) (by decide) (by omega))
    have hP9 : va_P (dC, dI) classes (wX g c (va_up v 142 z3486) F3484 (g (44 + nr))) H := hP
    exact W.iret (v := z3490) hx hb hr (fun t ht hW => ⟨⟨z3490, ((va_up v 142 z3486), F3484, (g (44 + nr))), rfl, ⟨hI, hal, rfl, (frU (by decide) (fun _ _ => rfl)), by omega⟩, (by show va_P _ _ _ t.heap; rw [ht]; exact hP9)⟩, hS.F ht⟩) hS.2.2 dX3_put_42
set_option maxHeartbeats 8000000 in
set_option maxRecDepth 100000 in
theorem c_X3_leadHere (l : Launch) (dC : Nat → ClassId) (dI : Nat → Nat → Nat) (g : Nat → Nat) (c : Nat → ClassId) (adK adV : Nat → Nat) (v : Nat → Int32) (F : Nat → Nat → Int32) (nr sz : Nat) (p0 : Int32) (hg : injX g) (hnr : nr < 10) (hI : IX v F) : Met l yX3_leadHere (Cond.code yX3_leadHere cX3_leadHere 2 none :: wA) ({ frames := 1, cells := 0, slots := 0, locals := 40 }) (va_Pc [.ref (g 7), .int p0] (PX dC dI g c adK adV v F (g (44 + nr)) sz)) (va_Qv (fun (u : StX) => IX u.1 u.2.1 ∧ alX u.1 u.2.1 = alX v F ∧ u.2.2 = (g (44 + nr)) ∧ (∀ k, k ∉ ([] : List Nat) → u.1 k = v k) ∧ True) (BX dC dI g c) (AX g sz)) 0 0 (AX g sz) := by
  refine Met.ofW (cc := cX3_leadHere) (maxL := 2) (ret := none) (by decide) rfl ?_
  intro p e s m args below meth c0 s₁ B hml hv
  obtain ⟨rfl, hsz, hP, hK, hE⟩ := hv
  have hx := B.exec
  have hb := B.bytes
  have hr := B.returns
  have hts := atoms_spec (ws := Cond.code yX3_leadHere cX3_leadHere 2 none :: wA) B.pre
  have hwd : ∀ w ∈ wA, w.before _ s = true := fun w h => hts w (List.mem_cons_of_mem _ h)
  have hown : s.vm.findClass RX3 = some m.cls := findClass_of_methodNamed B.named
  have hlocks := B.notSynchronized
  subst hsz
  have hl := lv_entry ([.ref (g 7), .int p0]) (n := 2) (Nat.le_of_ble_eq_true rfl)
  rw [lg_entry_eq]
  generalize (lg_sl ([.ref (g 7), .int p0]) ++ List.replicate (2 - (lg_sl ([.ref (g 7), .int p0])).length) Slot.unset).toArray = ls at hl ⊢
  have hl : lv_has ls 2 [(0, .ref (g 7)), (1, .int p0)] := hl
  obtain ⟨H, eH⟩ : ∃ z, z = s.heap := ⟨_, rfl⟩
  have hP : va_P (dC, dI) classes (wX g c v F (g (44 + nr))) H := by rw [eH]; exact hP
  have hS : va_S (AX g s.heap.size) s.heap H [] := by rw [eH]; exact va_S.rf
  refine my_heap eH ?_
  have hal : alX v F = alX v F := rfl
  have rp0 := i32_rng p0
  refine lv_iload_n hx hb dX3_leadHere_0 rfl (lv_at hl 1 rfl) ?_
  refine lv_if_lt (tgt := 35) hx hb dX3_leadHere_1 (by decide) (fun c3493 => ?_) (fun c3493 => ?_)
  · skip
    have t3494 := cv_lt (a := p0.toInt) rfl (b := 0) (by decide) c3493
    have hP9 : va_P (dC, dI) classes (wX g c v F (g (44 + nr))) H := hP
    exact W.vret hx hb hr (fun t ht hW => ⟨⟨(v, F, (g (44 + nr))), rfl, ⟨hI, hal, rfl, (fun _ _ => rfl), trivial⟩, (by show va_P _ _ _ t.heap; rw [ht]; exact hP9)⟩, hS.F ht⟩) hS.2.2 dX3_leadHere_35
  · skip
    have t3495 := cv_nlt (a := p0.toInt) rfl (b := 0) (by decide) c3493
    refine lv_iload_n hx hb dX3_leadHere_4 rfl (lv_at hl 1 rfl) ?_
    refine lv_aload_n hx hb dX3_leadHere_5 rfl (lv_at hl 0 rfl) ?_
    refine va_get (D := (dC, dI)) (ci := 3) (v := .ref (g (44 + nr))) (C := RX3) (T := TX3) (N := 5) hx hb hwd inA_X3 hown hK hP 7 rfl rfl 1 (by decide) (hwd _ wk_119) (fun _ h9 => h9) rfl dX3_leadHere_6 ?_
    refine va_alen (v := 120) hx hb hK hP (44 + nr) (32 + nr) (rowW44 hnr) (rowT44 hnr) rfl dX3_leadHere_9 ?_
    refine lv_icmp_ge (tgt := 35) hx hb dX3_leadHere_10 (by decide) (fun c3496 => ?_) (fun c3496 => ?_)
    · skip
      have t3497 := cv_le (a := 120) (by decide) (b := p0.toInt) rfl c3496
      have hP9 : va_P (dC, dI) classes (wX g c v F (g (44 + nr))) H := hP
      exact W.vret hx hb hr (fun t ht hW => ⟨⟨(v, F, (g (44 + nr))), rfl, ⟨hI, hal, rfl, (fun _ _ => rfl), trivial⟩, (by show va_P _ _ _ t.heap; rw [ht]; exact hP9)⟩, hS.F ht⟩) hS.2.2 dX3_leadHere_35
    · skip
      have t3498 := cv_nle (a := 120) (by decide) (b := p0.toInt) rfl c3496
      refine lv_aload_n hx hb dX3_leadHere_13 rfl (lv_at hl 0 rfl) ?_
      refine va_get (D := (dC, dI)) (ci := 3) (v := .ref (g (44 + nr))) (C := RX3) (T := TX3) (N := 5) hx hb hwd inA_X3 hown hK hP 7 rfl rfl 1 (by decide) (hwd _ wk_119) (fun _ h9 => h9) rfl dX3_leadHere_14 ?_
      refine lv_iload_n hx hb dX3_leadHere_17 rfl (lv_at hl 1 rfl) ?_
      refine lv_aload_n hx hb dX3_leadHere_18 rfl (lv_at hl 0 rfl) ?_
      refine va_get (D := (dC, dI)) (ci := 3) (v := .ref (g (44 + nr))) (C := RX3) (T := TX3) (N := 5) hx hb hwd inA_X3 hown hK hP 7 rfl rfl 1 (by decide) (hwd _ wk_119) (fun _ h9 => h9) rfl dX3_leadHere_19 ?_
      refine lv_iload_n hx hb dX3_leadHere_22 rfl (lv_at hl 1 rfl) ?_
      refine va_iald hx hb hK hP (44 + nr) (32 + nr) (rowW44 hnr) (rowT44 hnr) (i := p0) (vin (a := p0.toInt) rfl (by omega)) dX3_leadHere_23 ?_
      refine lv_topi (fun z3499 e3500 => ?_)
      have t3501 : 0 ≤ z3499.toInt ∧ z3499.toInt ≤ 2147483647 := by rw [e3500]; exact hI.2 _ _ _ (rowA44 hnr) _
      refine lv_bipush (v := 15) hx hb dX3_leadHere_24 (by decide) ?_
      refine lv_iand hx hb dX3_leadHere_26 ?_
      refine lv_topi (fun z3502 e3503 => ?_)
      have taz3502 := tand e3503 (by decide)
      refine lv_aload_n hx hb dX3_leadHere_27 rfl (lv_at hl 0 rfl) ?_
      refine va_get (D := (dC, dI)) (ci := 3) (v := .int (v 142)) (C := RX3) (T := TX3) (N := 5) hx hb hwd inA_X3 hown hK hP 7 rfl rfl 2 (by decide) (hwd _ wk_852) (fun _ h9 => h9) rfl dX3_leadHere_28 ?_
      have t3505 : 0 ≤ (v 142).toInt ∧ (v 142).toInt ≤ 120 := hI.1 142 _ _ rfl
      refine lv_iconst (v := 4) hx hb dX3_leadHere_31 (by decide) ?_
      refine lv_ishl hx hb dX3_leadHere_32 ?_
      refine lv_topi (fun z3506 e3507 => ?_)
      have rr_z3506 := i32_rng z3506
      have tsz3506 := tshl4 e3507 (by omega)
      refine lv_ior hx hb dX3_leadHere_33 ?_
      refine lv_topi (fun z3509 e3510 => ?_)
      have toz3509 := tor e3510 (by omega) (by omega)
      have trz3509 := i32_rng z3509
      refine va_iast hx hb hK hP (DX hg) hS (44 + nr) (32 + nr) (rowW44 hnr) (rowT44 hnr) (i := p0) (x := z3509) (vin (a := p0.toInt) rfl (by omega)) dX3_leadHere_34 (fun H locs hP _ hS => ?_)
      have hP := va_P_eq (sX_row44 g c _ _ _ hnr _) hP
      have hI := IX.store hI (44 + nr) (p0 : Int32).toNatClampNeg z3509 (rowA44 hnr) (by omega)
      have hal := (alX_F _ _ (44 + nr) (upd (F (44 + nr)) (p0 : Int32).toNatClampNeg z3509) (by omega) (by omega)).trans hal
      have hP : va_P (dC, dI) classes (wX g c v (va_up F (44 + nr) (upd (F (44 + nr)) (p0 : Int32).toNatClampNeg z3509)) (g (44 + nr))) H := hP
      generalize (va_up F (44 + nr) (upd (F (44 + nr)) (p0 : Int32).toNatClampNeg z3509)) = F3512 at hP hI hal
      have hP9 : va_P (dC, dI) classes (wX g c v F3512 (g (44 + nr))) H := hP
      exact W.vret hx hb hr (fun t ht hW => ⟨⟨(v, F3512, (g (44 + nr))), rfl, ⟨hI, hal, rfl, (fun _ _ => rfl), trivial⟩, (by show va_P _ _ _ t.heap; rw [ht]; exact hP9)⟩, hS.F ht⟩) hS.2.2 dX3_leadHere_35
set_option maxHeartbeats 8000000 in
set_option maxRecDepth 100000 in
theorem c_X3_readNumberOrName (l : Launch) (dC : Nat → ClassId) (dI : Nat → Nat → Nat) (g : Nat → Nat) (c : Nat → ClassId) (adK adV : Nat → Nat) (v : Nat → Int32) (F : Nat → Nat → Int32) (nr sz : Nat) (p0 : Int32) (hg : injX g) (hnr : nr < 10) (hI : IX v F) : Met l yX3_readNumberOrName (Cond.code yX3_readNumberOrName cX3_readNumberOrName 4 none :: wA) ({ frames := 5, cells := 0, slots := 0, locals := 200 }) (va_Pc [.ref (g 7), .int p0] (PX dC dI g c adK adV v F (g (44 + nr)) sz)) (va_Qv (fun (u : StX) => IX u.1 u.2.1 ∧ alX u.1 u.2.1 = alX v F ∧ u.2.2 = (g (44 + nr)) ∧ (∀ k, k ∉ ([142, 143, 144] : List Nat) → u.1 k = v k) ∧ True) (BX dC dI g c) (AX g sz)) 0 0 (AX g sz) := by
  refine Met.ofW (cc := cX3_readNumberOrName) (maxL := 4) (ret := none) (by decide) rfl ?_
  intro p e s m args below meth c0 s₁ B hml hv
  obtain ⟨rfl, hsz, hP, hK, hE⟩ := hv
  have hx := B.exec
  have hb := B.bytes
  have hr := B.returns
  have hts := atoms_spec (ws := Cond.code yX3_readNumberOrName cX3_readNumberOrName 4 none :: wA) B.pre
  have hwd : ∀ w ∈ wA, w.before _ s = true := fun w h => hts w (List.mem_cons_of_mem _ h)
  have hown : s.vm.findClass RX3 = some m.cls := findClass_of_methodNamed B.named
  have hlocks := B.notSynchronized
  subst hsz
  have hl := lv_entry ([.ref (g 7), .int p0]) (n := 4) (Nat.le_of_ble_eq_true rfl)
  rw [lg_entry_eq]
  generalize (lg_sl ([.ref (g 7), .int p0]) ++ List.replicate (4 - (lg_sl ([.ref (g 7), .int p0])).length) Slot.unset).toArray = ls at hl ⊢
  have hl : lv_has ls 4 [(0, .ref (g 7)), (1, .int p0)] := hl
  obtain ⟨H, eH⟩ : ∃ z, z = s.heap := ⟨_, rfl⟩
  have hP : va_P (dC, dI) classes (wX g c v F (g (44 + nr))) H := by rw [eH]; exact hP
  have hS : va_S (AX g s.heap.size) s.heap H [] := by rw [eH]; exact va_S.rf
  refine my_heap eH ?_
  have hal : alX v F = alX v F := rfl
  have rp0 := i32_rng p0
  refine lv_iload_n hx hb dX3_readNumberOrName_0 rfl (lv_at hl 1 rfl) ?_
  refine lv_iconst (v := (-1)) hx hb dX3_readNumberOrName_1 (by decide) ?_
  refine lv_icmp_ne (tgt := 9) hx hb dX3_readNumberOrName_2 (by decide) (fun c3513 => ?_) (fun c3513 => ?_)
  · skip
    have t3514 := cv_ne (a := p0.toInt) rfl (b := (-1)) (by decide) c3513
    refine va_ldcS hx hb hown hE.2.2.1 dX3_readNumberOrName_9 ?_
    refine lv_iload_n hx hb dX3_readNumberOrName_11 rfl (lv_at hl 1 rfl) ?_
    refine lv_i2c hx hb dX3_readNumberOrName_12 rfl ?_
    refine lv_topi (fun z3515 e3516 => ?_)
    refine va_calli (va_runV (As := [.int z3515]) (rest := []) ⟨hx, hb, hml, hown, hwd⟩ (c_J0_indexOf_0f7a4 l dC dI g c adK adV v F (g (44 + nr)) H.size z3515 hg hI ) (cwV 1 hwd (gV wk_906 wk_903 wk_904 wk_905 wk_153) rfl rfl rfl (by decide +kernel) ⟨Nat.le_of_ble_eq_true rfl, Nat.le_of_ble_eq_true rfl⟩) ⟨PX.blind, vk_recv hE.2.2.2.1 (i := 0) (by decide) hS, fun U hU hW => ⟨rfl, PX.at hK hE hP hS hU hW⟩⟩ rfl rfl hl.1 rfl (lv_room (Nat.le_of_ble_eq_true rfl)) dX3_readNumberOrName_13 ⟨Nat.le_of_ble_eq_true rfl, Nat.le_of_ble_eq_true rfl⟩) hS (fun q _ h => (freeX hS) q h) (freeX hS) (fun r3517 u t H1 locs ht hvm hw hB hz1 hk1 hS => ?_)
    unfold BX at hB
    rw [ht] at hB
    have hP : va_P (dC, dI) classes (wX g c v F (g (44 + nr))) H1 := hB
    have hw : -1 ≤ r3517.toInt ∧ r3517.toInt ≤ 5 := hw
    generalize H1 = H at hP hS ⊢
    have hw_r3517 := hw
    refine lv_istore_n (lv' := [(2, .int r3517), (0, .ref (g 7)), (1, .int p0)]) hx hb dX3_readNumberOrName_16 rfl hl (by decide) rfl (fun ls hl => ?_)
    refine lv_iload_n hx hb dX3_readNumberOrName_17 rfl (lv_at hl 2 rfl) ?_
    refine lv_iconst (v := (-1)) hx hb dX3_readNumberOrName_18 (by decide) ?_
    refine lv_icmp_ne (tgt := 26) hx hb dX3_readNumberOrName_19 (by decide) (fun c3518 => ?_) (fun c3518 => ?_)
    · skip
      have t3519 := cv_ne (a := p0.toInt) rfl (b := (-1)) (by decide) c3518
      refine lv_aload_n hx hb dX3_readNumberOrName_26 rfl (lv_at hl 1 rfl) ?_
      refine va_get (D := (dC, dI)) (ci := 3) (v := .ref (g 5)) (C := RX3) (T := TX3) (N := 5) hx hb hwd inA_X3 hown hK hP 7 rfl rfl 0 (by decide) (hwd _ wk_118) (fun _ h9 => h9) rfl dX3_readNumberOrName_27 ?_
      refine lv_aload_n hx hb dX3_readNumberOrName_30 rfl (lv_at hl 1 rfl) ?_
      refine va_get (D := (dC, dI)) (ci := 3) (v := .int (v 143)) (C := RX3) (T := TX3) (N := 5) hx hb hwd inA_X3 hown hK hP 7 rfl rfl 3 (by decide) (hwd _ wk_853) (fun _ h9 => h9) rfl dX3_readNumberOrName_31 ?_
      refine va_calli (va_runV (As := [.int (v 143)]) (rest := []) ⟨hx, hb, hml, hown, hwd⟩ (c_X10_digitsAt_e l dC dI g c adK adV v F (g (44 + nr)) H.size (v 143) hg hI ) (cwV 1 hwd (gV wk_979 wk_976 wk_977 wk_978 wk_30) rfl rfl rfl (by decide +kernel) ⟨Nat.le_of_ble_eq_true rfl, Nat.le_of_ble_eq_true rfl⟩) ⟨PX.blind, va_recv hK hP (ci := 10) (q0 := 5) rfl rfl, fun U hU hW => ⟨rfl, PX.at hK hE hP hS hU hW⟩⟩ rfl rfl hl.1 rfl (lv_room (Nat.le_of_ble_eq_true rfl)) dX3_readNumberOrName_34 ⟨Nat.le_of_ble_eq_true rfl, Nat.le_of_ble_eq_true rfl⟩) hS (fun q _ h => (freeX hS) q h) (freeX hS) (fun r3520 u t H1 locs ht hvm hw hB hz1 hk1 hS => ?_)
      unfold BX at hB
      rw [ht] at hB
      have hP : va_P (dC, dI) classes (wX g c v F (g (44 + nr))) H1 := hB
      have hw : (0 ≤ r3520.toInt ∧ r3520.toInt ≤ 5) ∧ (∀ k : Int32, 0 ≤ k.toInt → k.toInt < r3520.toInt → 48 ≤ (atX v F ((v 143) + k)).toInt ∧ (atX v F ((v 143) + k)).toInt ≤ 57) := hw
      generalize H1 = H at hP hS ⊢
      have hw_r3520 := hw
      refine lv_istore_n (lv' := [(3, .int r3520), (2, .int r3517), (0, .ref (g 7)), (1, .int p0)]) hx hb dX3_readNumberOrName_37 rfl hl (by decide) rfl (fun ls hl => ?_)
      refine lv_iload_n hx hb dX3_readNumberOrName_38 rfl (lv_at hl 1 rfl) ?_
      refine lv_if_lt (tgt := 62) hx hb dX3_readNumberOrName_39 (by decide) (fun c3521 => ?_) (fun c3521 => ?_)
      · skip
        have t3522 := cv_lt (a := r3517.toInt) rfl (b := 0) (by decide) c3521
        refine lv_iload_n hx hb dX3_readNumberOrName_62 rfl (lv_at hl 0 rfl) ?_
        refine lv_if_le (tgt := 97) hx hb dX3_readNumberOrName_63 (by decide) (fun c3523 => ?_) (fun c3523 => ?_)
        · skip
          have t3524 := cv_le (a := r3520.toInt) rfl (b := 0) (by decide) c3523
          refine lv_aload_n hx hb dX3_readNumberOrName_97 rfl (lv_at hl 2 rfl) ?_
          refine va_callv (va_runV (As := []) (rest := []) ⟨hx, hb, hml, hown, hwd⟩ (c_X3_fail l dC dI g c adK adV v F nr H.size  hg hnr hI ) (cwV 0 hwd (gV wk_878 wk_875 wk_876 wk_877 wk_38) rfl rfl rfl (by decide +kernel) ⟨Nat.le_of_ble_eq_true rfl, Nat.le_of_ble_eq_true rfl⟩) ⟨PX.blind, va_recv hK hP (ci := 3) (q0 := 7) rfl rfl, fun U hU hW => ⟨rfl, PX.at hK hE hP hS hU hW⟩⟩ rfl rfl hl.1 rfl (lv_room (Nat.le_of_ble_eq_true rfl)) dX3_readNumberOrName_98 ⟨Nat.le_of_ble_eq_true rfl, Nat.le_of_ble_eq_true rfl⟩) hS (fun q _ h => (freeX hS) q h) (freeX hS) (fun u t H1 locs ht hvm hw hB hz1 hk1 hS => ?_)
          unfold BX at hB
          rw [ht] at hB
          obtain ⟨v3526, F3527, rc9⟩ := u
          obtain ⟨hI, hal9, hrc, hf3528, hw⟩ := hw
          dsimp only at hI hal9 hrc hB hf3528 hw
          rw [hrc] at hB
          have hal := hal9.trans hal
          have hP : va_P (dC, dI) classes (wX g c v3526 F3527 (g (44 + nr))) H1 := hB
          generalize H1 = H at hP hS ⊢
          have hP9 : va_P (dC, dI) classes (wX g c v3526 F3527 (g (44 + nr))) H := hP
          exact W.vret hx hb hr (fun t ht hW => ⟨⟨(v3526, F3527, (g (44 + nr))), rfl, ⟨hI, hal, rfl, (frC (by decide) hf3528 (fun _ _ => rfl)), trivial⟩, (by show va_P _ _ _ t.heap; rw [ht]; exact hP9)⟩, hS.F ht⟩) hS.2.2 dX3_readNumberOrName_101
        · skip
          have t3529 := cv_nle (a := r3520.toInt) rfl (b := 0) (by decide) c3523
          refine lv_aload_n hx hb dX3_readNumberOrName_66 rfl (lv_at hl 2 rfl) ?_
          refine lv_iconst (v := 0) hx hb dX3_readNumberOrName_67 (by decide) ?_
          refine lv_aload_n hx hb dX3_readNumberOrName_68 rfl (lv_at hl 2 rfl) ?_
          refine va_get (D := (dC, dI)) (ci := 3) (v := .ref (g 5)) (C := RX3) (T := TX3) (N := 5) hx hb hwd inA_X3 hown hK hP 7 rfl rfl 0 (by decide) (hwd _ wk_118) (fun _ h9 => h9) rfl dX3_readNumberOrName_69 ?_
          refine lv_aload_n hx hb dX3_readNumberOrName_72 rfl (lv_at hl 2 rfl) ?_
          refine va_get (D := (dC, dI)) (ci := 3) (v := .int (v 143)) (C := RX3) (T := TX3) (N := 5) hx hb hwd inA_X3 hown hK hP 7 rfl rfl 3 (by decide) (hwd _ wk_853) (fun _ h9 => h9) rfl dX3_readNumberOrName_73 ?_
          refine lv_iload_n hx hb dX3_readNumberOrName_76 rfl (lv_at hl 0 rfl) ?_
          refine va_calli (va_runV (As := [.int (v 143), .int r3520]) (rest := [.int 0, .ref (g 7)]) ⟨hx, hb, hml, hown, hwd⟩ (c_X10_numberAt_e l dC dI g c adK adV v F (g (44 + nr)) H.size (v 143) r3520 hg hI (by omega) hw_r3520.2) (cwV 2 hwd (gV wk_988 wk_985 wk_986 wk_987 wk_30) rfl rfl rfl (by decide +kernel) ⟨Nat.le_of_ble_eq_true rfl, Nat.le_of_ble_eq_true rfl⟩) ⟨PX.blind, va_recv hK hP (ci := 10) (q0 := 5) rfl rfl, fun U hU hW => ⟨rfl, PX.at hK hE hP hS hU hW⟩⟩ rfl rfl hl.1 rfl (lv_room (Nat.le_of_ble_eq_true rfl)) dX3_readNumberOrName_77 ⟨Nat.le_of_ble_eq_true rfl, Nat.le_of_ble_eq_true rfl⟩) hS (fun q _ h => (freeX hS) q h) (freeX hS) (fun r3530 u t H1 locs ht hvm hw hB hz1 hk1 hS => ?_)
          unfold BX at hB
          rw [ht] at hB
          have hP : va_P (dC, dI) classes (wX g c v F (g (44 + nr))) H1 := hB
          have hw : 0 ≤ r3530.toInt ∧ r3530.toInt ≤ 99999 := hw
          generalize H1 = H at hP hS ⊢
          have hw_r3530 := hw
          refine va_calli (va_runV (As := [.int 0, .int r3530]) (rest := []) ⟨hx, hb, hml, hown, hwd⟩ (c_X3_put l dC dI g c adK adV v F nr H.size 0 r3530 hg hnr hI (by have : (0 : Int32).toInt = 0 := (by decide); omega) (by omega)) (cwV 2 hwd (gV wk_882 wk_879 wk_880 wk_881 wk_38) rfl rfl rfl (by decide +kernel) ⟨Nat.le_of_ble_eq_true rfl, Nat.le_of_ble_eq_true rfl⟩) ⟨PX.blind, va_recv hK hP (ci := 3) (q0 := 7) rfl rfl, fun U hU hW => ⟨rfl, PX.at hK hE hP hS hU hW⟩⟩ rfl rfl hl.1 rfl (lv_room (Nat.le_of_ble_eq_true rfl)) dX3_readNumberOrName_80 ⟨Nat.le_of_ble_eq_true rfl, Nat.le_of_ble_eq_true rfl⟩) hS (fun q _ h => (freeX hS) q h) (freeX hS) (fun r3531 u t H1 locs ht hvm hw hB hz1 hk1 hS => ?_)
          unfold BX at hB
          rw [ht] at hB
          obtain ⟨v3532, F3533, rc9⟩ := u
          obtain ⟨hI, hal9, hrc, hf3534, hw⟩ := hw
          dsimp only at hI hal9 hrc hB hf3534 hw
          rw [hrc] at hB
          have hal := hal9.trans hal
          have hP : va_P (dC, dI) classes (wX g c v3532 F3533 (g (44 + nr))) H1 := hB
          have hw : -1 ≤ r3531.toInt ∧ r3531.toInt ≤ 119 := hw
          have k3535 : (0 : Int32).toInt = 0 := by decide
          generalize H1 = H at hP hS ⊢
          have hw_r3531 := hw
          refine lv_pop hx hb dX3_readNumberOrName_83 rfl ?_
          refine lv_aload_n hx hb dX3_readNumberOrName_84 rfl (lv_at hl 2 rfl) ?_
          refine lv_dup hx hb dX3_readNumberOrName_85 rfl ?_
          refine va_get (D := (dC, dI)) (ci := 3) (v := .int (v3532 143)) (C := RX3) (T := TX3) (N := 5) hx hb hwd inA_X3 hown hK hP 7 rfl rfl 3 (by decide) (hwd _ wk_853) (fun _ h9 => h9) rfl dX3_readNumberOrName_86 ?_
          refine my_top (v := v 143) (hf3534 143 (by decide)) ?_
          refine lv_iload_n hx hb dX3_readNumberOrName_89 rfl (lv_at hl 0 rfl) ?_
          refine lv_iadd hx hb dX3_readNumberOrName_90 ?_
          refine lv_topi (fun z3536 e3537 => ?_)
          try (have t3538 := tadd e3537 (a := (v 143).toInt) rfl (b := r3520.toInt) rfl (by omega))
          refine va_put (D := (dC, dI)) (ci := 3) (v := .int z3536) (ty := .int) (C := RX3) (T := TX3) (N := 5) (fs := fsX_7 g v3532 (g (44 + nr))) hx hb hwd inA_X3 tyX3 tyX3_ok nmX3 hown hK hP (DX hg) hS 7 rfl rfl 3 (by decide) (hwd _ wk_853) (fun _ h9 => h9) rfl (by decide +kernel) rfl rfl (Nat.le_of_ble_eq_true rfl) dX3_readNumberOrName_91 (fun H locs hP _ hS => ?_)
          have hP := va_P_eq (pX_143 g c _ _ _ _) hP
          have hI := IX.put0 hI 143 z3536 rfl
          have hal := (alX_v _ _ 143 z3536 (by decide) (by decide) (by decide) (by decide)).trans hal
          refine lv_goto (tgt := 101) hx hb dX3_readNumberOrName_94 (by decide) ?_
          have hP9 : va_P (dC, dI) classes (wX g c (va_up v3532 143 z3536) F3533 (g (44 + nr))) H := hP
          exact W.vret hx hb hr (fun t ht hW => ⟨⟨((va_up v3532 143 z3536), F3533, (g (44 + nr))), rfl, ⟨hI, hal, rfl, (frU (by decide) (frC (by decide) hf3534 (fun _ _ => rfl))), trivial⟩, (by show va_P _ _ _ t.heap; rw [ht]; exact hP9)⟩, hS.F ht⟩) hS.2.2 dX3_readNumberOrName_101
      · skip
        have t3539 := cv_nlt (a := r3517.toInt) rfl (b := 0) (by decide) c3521
        refine lv_aload_n hx hb dX3_readNumberOrName_42 rfl (lv_at hl 2 rfl) ?_
        refine lv_iconst (v := 1) hx hb dX3_readNumberOrName_43 (by decide) ?_
        refine lv_iload_n hx hb dX3_readNumberOrName_44 rfl (lv_at hl 1 rfl) ?_
        refine va_calli (va_runV (As := [.int 1, .int r3517]) (rest := []) ⟨hx, hb, hml, hown, hwd⟩ (c_X3_put l dC dI g c adK adV v F nr H.size 1 r3517 hg hnr hI (by have : (1 : Int32).toInt = 1 := (by decide); omega) (by omega)) (cwV 2 hwd (gV wk_882 wk_879 wk_880 wk_881 wk_38) rfl rfl rfl (by decide +kernel) ⟨Nat.le_of_ble_eq_true rfl, Nat.le_of_ble_eq_true rfl⟩) ⟨PX.blind, va_recv hK hP (ci := 3) (q0 := 7) rfl rfl, fun U hU hW => ⟨rfl, PX.at hK hE hP hS hU hW⟩⟩ rfl rfl hl.1 rfl (lv_room (Nat.le_of_ble_eq_true rfl)) dX3_readNumberOrName_45 ⟨Nat.le_of_ble_eq_true rfl, Nat.le_of_ble_eq_true rfl⟩) hS (fun q _ h => (freeX hS) q h) (freeX hS) (fun r3540 u t H1 locs ht hvm hw hB hz1 hk1 hS => ?_)
        unfold BX at hB
        rw [ht] at hB
        obtain ⟨v3541, F3542, rc9⟩ := u
        obtain ⟨hI, hal9, hrc, hf3543, hw⟩ := hw
        dsimp only at hI hal9 hrc hB hf3543 hw
        rw [hrc] at hB
        have hal := hal9.trans hal
        have hP : va_P (dC, dI) classes (wX g c v3541 F3542 (g (44 + nr))) H1 := hB
        have hw : -1 ≤ r3540.toInt ∧ r3540.toInt ≤ 119 := hw
        have k3544 : (1 : Int32).toInt = 1 := by decide
        generalize H1 = H at hP hS ⊢
        have hw_r3540 := hw
        refine lv_pop hx hb dX3_readNumberOrName_48 rfl ?_
        refine lv_aload_n hx hb dX3_readNumberOrName_49 rfl (lv_at hl 2 rfl) ?_
        refine lv_dup hx hb dX3_readNumberOrName_50 rfl ?_
        refine va_get (D := (dC, dI)) (ci := 3) (v := .int (v3541 143)) (C := RX3) (T := TX3) (N := 5) hx hb hwd inA_X3 hown hK hP 7 rfl rfl 3 (by decide) (hwd _ wk_853) (fun _ h9 => h9) rfl dX3_readNumberOrName_51 ?_
        refine my_top (v := v 143) (hf3543 143 (by decide)) ?_
        refine lv_iconst (v := 1) hx hb dX3_readNumberOrName_54 (by decide) ?_
        refine lv_iadd hx hb dX3_readNumberOrName_55 ?_
        refine lv_topi (fun z3545 e3546 => ?_)
        try (have t3547 := tadd e3546 (a := (v 143).toInt) rfl (b := 1) (by decide) (by omega))
        refine va_put (D := (dC, dI)) (ci := 3) (v := .int z3545) (ty := .int) (C := RX3) (T := TX3) (N := 5) (fs := fsX_7 g v3541 (g (44 + nr))) hx hb hwd inA_X3 tyX3 tyX3_ok nmX3 hown hK hP (DX hg) hS 7 rfl rfl 3 (by decide) (hwd _ wk_853) (fun _ h9 => h9) rfl (by decide +kernel) rfl rfl (Nat.le_of_ble_eq_true rfl) dX3_readNumberOrName_56 (fun H locs hP _ hS => ?_)
        have hP := va_P_eq (pX_143 g c _ _ _ _) hP
        have hI := IX.put0 hI 143 z3545 rfl
        have hal := (alX_v _ _ 143 z3545 (by decide) (by decide) (by decide) (by decide)).trans hal
        refine lv_goto (tgt := 101) hx hb dX3_readNumberOrName_59 (by decide) ?_
        have hP9 : va_P (dC, dI) classes (wX g c (va_up v3541 143 z3545) F3542 (g (44 + nr))) H := hP
        exact W.vret hx hb hr (fun t ht hW => ⟨⟨((va_up v3541 143 z3545), F3542, (g (44 + nr))), rfl, ⟨hI, hal, rfl, (frU (by decide) (frC (by decide) hf3543 (fun _ _ => rfl))), trivial⟩, (by show va_P _ _ _ t.heap; rw [ht]; exact hP9)⟩, hS.F ht⟩) hS.2.2 dX3_readNumberOrName_101
    · skip
      have t3548 := cv_eq (a := p0.toInt) rfl (b := (-1)) (by decide) c3518
      refine lv_iconst (v := 0) hx hb dX3_readNumberOrName_22 (by decide) ?_
      refine lv_goto (tgt := 37) hx hb dX3_readNumberOrName_23 (by decide) ?_
      refine lv_istore_n (lv' := [(3, .int 0), (2, .int r3517), (0, .ref (g 7)), (1, .int p0)]) hx hb dX3_readNumberOrName_37 rfl hl (by decide) rfl (fun ls hl => ?_)
      refine lv_iload_n hx hb dX3_readNumberOrName_38 rfl (lv_at hl 1 rfl) ?_
      refine lv_if_lt (tgt := 62) hx hb dX3_readNumberOrName_39 (by decide) (fun c3549 => ?_) (fun c3549 => ?_)
      · skip
        have t3550 := cv_lt (a := r3517.toInt) rfl (b := 0) (by decide) c3549
        refine lv_iload_n hx hb dX3_readNumberOrName_62 rfl (lv_at hl 0 rfl) ?_
        refine lv_if_le (tgt := 97) hx hb dX3_readNumberOrName_63 (by decide) (fun c3551 => ?_) (fun c3551 => ?_)
        · skip
          refine lv_aload_n hx hb dX3_readNumberOrName_97 rfl (lv_at hl 2 rfl) ?_
          refine va_callv (va_runV (As := []) (rest := []) ⟨hx, hb, hml, hown, hwd⟩ (c_X3_fail l dC dI g c adK adV v F nr H.size  hg hnr hI ) (cwV 0 hwd (gV wk_878 wk_875 wk_876 wk_877 wk_38) rfl rfl rfl (by decide +kernel) ⟨Nat.le_of_ble_eq_true rfl, Nat.le_of_ble_eq_true rfl⟩) ⟨PX.blind, va_recv hK hP (ci := 3) (q0 := 7) rfl rfl, fun U hU hW => ⟨rfl, PX.at hK hE hP hS hU hW⟩⟩ rfl rfl hl.1 rfl (lv_room (Nat.le_of_ble_eq_true rfl)) dX3_readNumberOrName_98 ⟨Nat.le_of_ble_eq_true rfl, Nat.le_of_ble_eq_true rfl⟩) hS (fun q _ h => (freeX hS) q h) (freeX hS) (fun u t H1 locs ht hvm hw hB hz1 hk1 hS => ?_)
          unfold BX at hB
          rw [ht] at hB
          obtain ⟨v3553, F3554, rc9⟩ := u
          obtain ⟨hI, hal9, hrc, hf3555, hw⟩ := hw
          dsimp only at hI hal9 hrc hB hf3555 hw
          rw [hrc] at hB
          have hal := hal9.trans hal
          have hP : va_P (dC, dI) classes (wX g c v3553 F3554 (g (44 + nr))) H1 := hB
          generalize H1 = H at hP hS ⊢
          have hP9 : va_P (dC, dI) classes (wX g c v3553 F3554 (g (44 + nr))) H := hP
          exact W.vret hx hb hr (fun t ht hW => ⟨⟨(v3553, F3554, (g (44 + nr))), rfl, ⟨hI, hal, rfl, (frC (by decide) hf3555 (fun _ _ => rfl)), trivial⟩, (by show va_P _ _ _ t.heap; rw [ht]; exact hP9)⟩, hS.F ht⟩) hS.2.2 dX3_readNumberOrName_101
        · exact absurd c3551 (by decide)
      · skip
        have t3556 := cv_nlt (a := r3517.toInt) rfl (b := 0) (by decide) c3549
        refine lv_aload_n hx hb dX3_readNumberOrName_42 rfl (lv_at hl 2 rfl) ?_
        refine lv_iconst (v := 1) hx hb dX3_readNumberOrName_43 (by decide) ?_
        refine lv_iload_n hx hb dX3_readNumberOrName_44 rfl (lv_at hl 1 rfl) ?_
        refine va_calli (va_runV (As := [.int 1, .int r3517]) (rest := []) ⟨hx, hb, hml, hown, hwd⟩ (c_X3_put l dC dI g c adK adV v F nr H.size 1 r3517 hg hnr hI (by have : (1 : Int32).toInt = 1 := (by decide); omega) (by omega)) (cwV 2 hwd (gV wk_882 wk_879 wk_880 wk_881 wk_38) rfl rfl rfl (by decide +kernel) ⟨Nat.le_of_ble_eq_true rfl, Nat.le_of_ble_eq_true rfl⟩) ⟨PX.blind, va_recv hK hP (ci := 3) (q0 := 7) rfl rfl, fun U hU hW => ⟨rfl, PX.at hK hE hP hS hU hW⟩⟩ rfl rfl hl.1 rfl (lv_room (Nat.le_of_ble_eq_true rfl)) dX3_readNumberOrName_45 ⟨Nat.le_of_ble_eq_true rfl, Nat.le_of_ble_eq_true rfl⟩) hS (fun q _ h => (freeX hS) q h) (freeX hS) (fun r3557 u t H1 locs ht hvm hw hB hz1 hk1 hS => ?_)
        unfold BX at hB
        rw [ht] at hB
        obtain ⟨v3558, F3559, rc9⟩ := u
        obtain ⟨hI, hal9, hrc, hf3560, hw⟩ := hw
        dsimp only at hI hal9 hrc hB hf3560 hw
        rw [hrc] at hB
        have hal := hal9.trans hal
        have hP : va_P (dC, dI) classes (wX g c v3558 F3559 (g (44 + nr))) H1 := hB
        have hw : -1 ≤ r3557.toInt ∧ r3557.toInt ≤ 119 := hw
        have k3561 : (1 : Int32).toInt = 1 := by decide
        generalize H1 = H at hP hS ⊢
        have hw_r3557 := hw
        refine lv_pop hx hb dX3_readNumberOrName_48 rfl ?_
        refine lv_aload_n hx hb dX3_readNumberOrName_49 rfl (lv_at hl 2 rfl) ?_
        refine lv_dup hx hb dX3_readNumberOrName_50 rfl ?_
        refine va_get (D := (dC, dI)) (ci := 3) (v := .int (v3558 143)) (C := RX3) (T := TX3) (N := 5) hx hb hwd inA_X3 hown hK hP 7 rfl rfl 3 (by decide) (hwd _ wk_853) (fun _ h9 => h9) rfl dX3_readNumberOrName_51 ?_
        refine my_top (v := v 143) (hf3560 143 (by decide)) ?_
        refine lv_iconst (v := 1) hx hb dX3_readNumberOrName_54 (by decide) ?_
        refine lv_iadd hx hb dX3_readNumberOrName_55 ?_
        refine lv_topi (fun z3562 e3563 => ?_)
        try (have t3564 := tadd e3563 (a := (v 143).toInt) rfl (b := 1) (by decide) (by omega))
        refine va_put (D := (dC, dI)) (ci := 3) (v := .int z3562) (ty := .int) (C := RX3) (T := TX3) (N := 5) (fs := fsX_7 g v3558 (g (44 + nr))) hx hb hwd inA_X3 tyX3 tyX3_ok nmX3 hown hK hP (DX hg) hS 7 rfl rfl 3 (by decide) (hwd _ wk_853) (fun _ h9 => h9) rfl (by decide +kernel) rfl rfl (Nat.le_of_ble_eq_true rfl) dX3_readNumberOrName_56 (fun H locs hP _ hS => ?_)
        have hP := va_P_eq (pX_143 g c _ _ _ _) hP
        have hI := IX.put0 hI 143 z3562 rfl
        have hal := (alX_v _ _ 143 z3562 (by decide) (by decide) (by decide) (by decide)).trans hal
        refine lv_goto (tgt := 101) hx hb dX3_readNumberOrName_59 (by decide) ?_
        have hP9 : va_P (dC, dI) classes (wX g c (va_up v3558 143 z3562) F3559 (g (44 + nr))) H := hP
        exact W.vret hx hb hr (fun t ht hW => ⟨⟨((va_up v3558 143 z3562), F3559, (g (44 + nr))), rfl, ⟨hI, hal, rfl, (frU (by decide) (frC (by decide) hf3560 (fun _ _ => rfl))), trivial⟩, (by show va_P _ _ _ t.heap; rw [ht]; exact hP9)⟩, hS.F ht⟩) hS.2.2 dX3_readNumberOrName_101
  · skip
    have t3565 := cv_eq (a := p0.toInt) rfl (b := (-1)) (by decide) c3513
    refine lv_iconst (v := (-1)) hx hb dX3_readNumberOrName_5 (by decide) ?_
    refine lv_goto (tgt := 16) hx hb dX3_readNumberOrName_6 (by decide) ?_
    refine lv_istore_n (lv' := [(2, .int (-1)), (0, .ref (g 7)), (1, .int p0)]) hx hb dX3_readNumberOrName_16 rfl hl (by decide) rfl (fun ls hl => ?_)
    refine lv_iload_n hx hb dX3_readNumberOrName_17 rfl (lv_at hl 2 rfl) ?_
    refine lv_iconst (v := (-1)) hx hb dX3_readNumberOrName_18 (by decide) ?_
    refine lv_icmp_ne (tgt := 26) hx hb dX3_readNumberOrName_19 (by decide) (fun c3566 => ?_) (fun c3566 => ?_)
    · skip
      have t3567 := cv_ne (a := p0.toInt) rfl (b := (-1)) (by decide) c3566
      refine lv_aload_n hx hb dX3_readNumberOrName_26 rfl (lv_at hl 1 rfl) ?_
      refine va_get (D := (dC, dI)) (ci := 3) (v := .ref (g 5)) (C := RX3) (T := TX3) (N := 5) hx hb hwd inA_X3 hown hK hP 7 rfl rfl 0 (by decide) (hwd _ wk_118) (fun _ h9 => h9) rfl dX3_readNumberOrName_27 ?_
      refine lv_aload_n hx hb dX3_readNumberOrName_30 rfl (lv_at hl 1 rfl) ?_
      refine va_get (D := (dC, dI)) (ci := 3) (v := .int (v 143)) (C := RX3) (T := TX3) (N := 5) hx hb hwd inA_X3 hown hK hP 7 rfl rfl 3 (by decide) (hwd _ wk_853) (fun _ h9 => h9) rfl dX3_readNumberOrName_31 ?_
      refine va_calli (va_runV (As := [.int (v 143)]) (rest := []) ⟨hx, hb, hml, hown, hwd⟩ (c_X10_digitsAt_e l dC dI g c adK adV v F (g (44 + nr)) H.size (v 143) hg hI ) (cwV 1 hwd (gV wk_979 wk_976 wk_977 wk_978 wk_30) rfl rfl rfl (by decide +kernel) ⟨Nat.le_of_ble_eq_true rfl, Nat.le_of_ble_eq_true rfl⟩) ⟨PX.blind, va_recv hK hP (ci := 10) (q0 := 5) rfl rfl, fun U hU hW => ⟨rfl, PX.at hK hE hP hS hU hW⟩⟩ rfl rfl hl.1 rfl (lv_room (Nat.le_of_ble_eq_true rfl)) dX3_readNumberOrName_34 ⟨Nat.le_of_ble_eq_true rfl, Nat.le_of_ble_eq_true rfl⟩) hS (fun q _ h => (freeX hS) q h) (freeX hS) (fun r3568 u t H1 locs ht hvm hw hB hz1 hk1 hS => ?_)
      unfold BX at hB
      rw [ht] at hB
      have hP : va_P (dC, dI) classes (wX g c v F (g (44 + nr))) H1 := hB
      have hw : (0 ≤ r3568.toInt ∧ r3568.toInt ≤ 5) ∧ (∀ k : Int32, 0 ≤ k.toInt → k.toInt < r3568.toInt → 48 ≤ (atX v F ((v 143) + k)).toInt ∧ (atX v F ((v 143) + k)).toInt ≤ 57) := hw
      generalize H1 = H at hP hS ⊢
      have hw_r3568 := hw
      refine lv_istore_n (lv' := [(3, .int r3568), (2, .int (-1)), (0, .ref (g 7)), (1, .int p0)]) hx hb dX3_readNumberOrName_37 rfl hl (by decide) rfl (fun ls hl => ?_)
      refine lv_iload_n hx hb dX3_readNumberOrName_38 rfl (lv_at hl 1 rfl) ?_
      refine lv_if_lt (tgt := 62) hx hb dX3_readNumberOrName_39 (by decide) (fun c3569 => ?_) (fun c3569 => ?_)
      · skip
        refine lv_iload_n hx hb dX3_readNumberOrName_62 rfl (lv_at hl 0 rfl) ?_
        refine lv_if_le (tgt := 97) hx hb dX3_readNumberOrName_63 (by decide) (fun c3570 => ?_) (fun c3570 => ?_)
        · skip
          have t3571 := cv_le (a := r3568.toInt) rfl (b := 0) (by decide) c3570
          refine lv_aload_n hx hb dX3_readNumberOrName_97 rfl (lv_at hl 2 rfl) ?_
          refine va_callv (va_runV (As := []) (rest := []) ⟨hx, hb, hml, hown, hwd⟩ (c_X3_fail l dC dI g c adK adV v F nr H.size  hg hnr hI ) (cwV 0 hwd (gV wk_878 wk_875 wk_876 wk_877 wk_38) rfl rfl rfl (by decide +kernel) ⟨Nat.le_of_ble_eq_true rfl, Nat.le_of_ble_eq_true rfl⟩) ⟨PX.blind, va_recv hK hP (ci := 3) (q0 := 7) rfl rfl, fun U hU hW => ⟨rfl, PX.at hK hE hP hS hU hW⟩⟩ rfl rfl hl.1 rfl (lv_room (Nat.le_of_ble_eq_true rfl)) dX3_readNumberOrName_98 ⟨Nat.le_of_ble_eq_true rfl, Nat.le_of_ble_eq_true rfl⟩) hS (fun q _ h => (freeX hS) q h) (freeX hS) (fun u t H1 locs ht hvm hw hB hz1 hk1 hS => ?_)
          unfold BX at hB
          rw [ht] at hB
          obtain ⟨v3573, F3574, rc9⟩ := u
          obtain ⟨hI, hal9, hrc, hf3575, hw⟩ := hw
          dsimp only at hI hal9 hrc hB hf3575 hw
          rw [hrc] at hB
          have hal := hal9.trans hal
          have hP : va_P (dC, dI) classes (wX g c v3573 F3574 (g (44 + nr))) H1 := hB
          generalize H1 = H at hP hS ⊢
          have hP9 : va_P (dC, dI) classes (wX g c v3573 F3574 (g (44 + nr))) H := hP
          exact W.vret hx hb hr (fun t ht hW => ⟨⟨(v3573, F3574, (g (44 + nr))), rfl, ⟨hI, hal, rfl, (frC (by decide) hf3575 (fun _ _ => rfl)), trivial⟩, (by show va_P _ _ _ t.heap; rw [ht]; exact hP9)⟩, hS.F ht⟩) hS.2.2 dX3_readNumberOrName_101
        · skip
          have t3576 := cv_nle (a := r3568.toInt) rfl (b := 0) (by decide) c3570
          refine lv_aload_n hx hb dX3_readNumberOrName_66 rfl (lv_at hl 2 rfl) ?_
          refine lv_iconst (v := 0) hx hb dX3_readNumberOrName_67 (by decide) ?_
          refine lv_aload_n hx hb dX3_readNumberOrName_68 rfl (lv_at hl 2 rfl) ?_
          refine va_get (D := (dC, dI)) (ci := 3) (v := .ref (g 5)) (C := RX3) (T := TX3) (N := 5) hx hb hwd inA_X3 hown hK hP 7 rfl rfl 0 (by decide) (hwd _ wk_118) (fun _ h9 => h9) rfl dX3_readNumberOrName_69 ?_
          refine lv_aload_n hx hb dX3_readNumberOrName_72 rfl (lv_at hl 2 rfl) ?_
          refine va_get (D := (dC, dI)) (ci := 3) (v := .int (v 143)) (C := RX3) (T := TX3) (N := 5) hx hb hwd inA_X3 hown hK hP 7 rfl rfl 3 (by decide) (hwd _ wk_853) (fun _ h9 => h9) rfl dX3_readNumberOrName_73 ?_
          refine lv_iload_n hx hb dX3_readNumberOrName_76 rfl (lv_at hl 0 rfl) ?_
          refine va_calli (va_runV (As := [.int (v 143), .int r3568]) (rest := [.int 0, .ref (g 7)]) ⟨hx, hb, hml, hown, hwd⟩ (c_X10_numberAt_e l dC dI g c adK adV v F (g (44 + nr)) H.size (v 143) r3568 hg hI (by omega) hw_r3568.2) (cwV 2 hwd (gV wk_988 wk_985 wk_986 wk_987 wk_30) rfl rfl rfl (by decide +kernel) ⟨Nat.le_of_ble_eq_true rfl, Nat.le_of_ble_eq_true rfl⟩) ⟨PX.blind, va_recv hK hP (ci := 10) (q0 := 5) rfl rfl, fun U hU hW => ⟨rfl, PX.at hK hE hP hS hU hW⟩⟩ rfl rfl hl.1 rfl (lv_room (Nat.le_of_ble_eq_true rfl)) dX3_readNumberOrName_77 ⟨Nat.le_of_ble_eq_true rfl, Nat.le_of_ble_eq_true rfl⟩) hS (fun q _ h => (freeX hS) q h) (freeX hS) (fun r3577 u t H1 locs ht hvm hw hB hz1 hk1 hS => ?_)
          unfold BX at hB
          rw [ht] at hB
          have hP : va_P (dC, dI) classes (wX g c v F (g (44 + nr))) H1 := hB
          have hw : 0 ≤ r3577.toInt ∧ r3577.toInt ≤ 99999 := hw
          generalize H1 = H at hP hS ⊢
          have hw_r3577 := hw
          refine va_calli (va_runV (As := [.int 0, .int r3577]) (rest := []) ⟨hx, hb, hml, hown, hwd⟩ (c_X3_put l dC dI g c adK adV v F nr H.size 0 r3577 hg hnr hI (by have : (0 : Int32).toInt = 0 := (by decide); omega) (by omega)) (cwV 2 hwd (gV wk_882 wk_879 wk_880 wk_881 wk_38) rfl rfl rfl (by decide +kernel) ⟨Nat.le_of_ble_eq_true rfl, Nat.le_of_ble_eq_true rfl⟩) ⟨PX.blind, va_recv hK hP (ci := 3) (q0 := 7) rfl rfl, fun U hU hW => ⟨rfl, PX.at hK hE hP hS hU hW⟩⟩ rfl rfl hl.1 rfl (lv_room (Nat.le_of_ble_eq_true rfl)) dX3_readNumberOrName_80 ⟨Nat.le_of_ble_eq_true rfl, Nat.le_of_ble_eq_true rfl⟩) hS (fun q _ h => (freeX hS) q h) (freeX hS) (fun r3578 u t H1 locs ht hvm hw hB hz1 hk1 hS => ?_)
          unfold BX at hB
          rw [ht] at hB
          obtain ⟨v3579, F3580, rc9⟩ := u
          obtain ⟨hI, hal9, hrc, hf3581, hw⟩ := hw
          dsimp only at hI hal9 hrc hB hf3581 hw
          rw [hrc] at hB
          have hal := hal9.trans hal
          have hP : va_P (dC, dI) classes (wX g c v3579 F3580 (g (44 + nr))) H1 := hB
          have hw : -1 ≤ r3578.toInt ∧ r3578.toInt ≤ 119 := hw
          have k3582 : (0 : Int32).toInt = 0 := by decide
          generalize H1 = H at hP hS ⊢
          have hw_r3578 := hw
          refine lv_pop hx hb dX3_readNumberOrName_83 rfl ?_
          refine lv_aload_n hx hb dX3_readNumberOrName_84 rfl (lv_at hl 2 rfl) ?_
          refine lv_dup hx hb dX3_readNumberOrName_85 rfl ?_
          refine va_get (D := (dC, dI)) (ci := 3) (v := .int (v3579 143)) (C := RX3) (T := TX3) (N := 5) hx hb hwd inA_X3 hown hK hP 7 rfl rfl 3 (by decide) (hwd _ wk_853) (fun _ h9 => h9) rfl dX3_readNumberOrName_86 ?_
          refine my_top (v := v 143) (hf3581 143 (by decide)) ?_
          refine lv_iload_n hx hb dX3_readNumberOrName_89 rfl (lv_at hl 0 rfl) ?_
          refine lv_iadd hx hb dX3_readNumberOrName_90 ?_
          refine lv_topi (fun z3583 e3584 => ?_)
          try (have t3585 := tadd e3584 (a := (v 143).toInt) rfl (b := r3568.toInt) rfl (by omega))
          refine va_put (D := (dC, dI)) (ci := 3) (v := .int z3583) (ty := .int) (C := RX3) (T := TX3) (N := 5) (fs := fsX_7 g v3579 (g (44 + nr))) hx hb hwd inA_X3 tyX3 tyX3_ok nmX3 hown hK hP (DX hg) hS 7 rfl rfl 3 (by decide) (hwd _ wk_853) (fun _ h9 => h9) rfl (by decide +kernel) rfl rfl (Nat.le_of_ble_eq_true rfl) dX3_readNumberOrName_91 (fun H locs hP _ hS => ?_)
          have hP := va_P_eq (pX_143 g c _ _ _ _) hP
          have hI := IX.put0 hI 143 z3583 rfl
          have hal := (alX_v _ _ 143 z3583 (by decide) (by decide) (by decide) (by decide)).trans hal
          refine lv_goto (tgt := 101) hx hb dX3_readNumberOrName_94 (by decide) ?_
          have hP9 : va_P (dC, dI) classes (wX g c (va_up v3579 143 z3583) F3580 (g (44 + nr))) H := hP
          exact W.vret hx hb hr (fun t ht hW => ⟨⟨((va_up v3579 143 z3583), F3580, (g (44 + nr))), rfl, ⟨hI, hal, rfl, (frU (by decide) (frC (by decide) hf3581 (fun _ _ => rfl))), trivial⟩, (by show va_P _ _ _ t.heap; rw [ht]; exact hP9)⟩, hS.F ht⟩) hS.2.2 dX3_readNumberOrName_101
      · exact absurd c3569 (by decide)
    · skip
      have t3586 := cv_eq (a := p0.toInt) rfl (b := (-1)) (by decide) c3566
      refine lv_iconst (v := 0) hx hb dX3_readNumberOrName_22 (by decide) ?_
      refine lv_goto (tgt := 37) hx hb dX3_readNumberOrName_23 (by decide) ?_
      refine lv_istore_n (lv' := [(3, .int 0), (2, .int (-1)), (0, .ref (g 7)), (1, .int p0)]) hx hb dX3_readNumberOrName_37 rfl hl (by decide) rfl (fun ls hl => ?_)
      refine lv_iload_n hx hb dX3_readNumberOrName_38 rfl (lv_at hl 1 rfl) ?_
      refine lv_if_lt (tgt := 62) hx hb dX3_readNumberOrName_39 (by decide) (fun c3587 => ?_) (fun c3587 => ?_)
      · skip
        refine lv_iload_n hx hb dX3_readNumberOrName_62 rfl (lv_at hl 0 rfl) ?_
        refine lv_if_le (tgt := 97) hx hb dX3_readNumberOrName_63 (by decide) (fun c3588 => ?_) (fun c3588 => ?_)
        · skip
          refine lv_aload_n hx hb dX3_readNumberOrName_97 rfl (lv_at hl 2 rfl) ?_
          refine va_callv (va_runV (As := []) (rest := []) ⟨hx, hb, hml, hown, hwd⟩ (c_X3_fail l dC dI g c adK adV v F nr H.size  hg hnr hI ) (cwV 0 hwd (gV wk_878 wk_875 wk_876 wk_877 wk_38) rfl rfl rfl (by decide +kernel) ⟨Nat.le_of_ble_eq_true rfl, Nat.le_of_ble_eq_true rfl⟩) ⟨PX.blind, va_recv hK hP (ci := 3) (q0 := 7) rfl rfl, fun U hU hW => ⟨rfl, PX.at hK hE hP hS hU hW⟩⟩ rfl rfl hl.1 rfl (lv_room (Nat.le_of_ble_eq_true rfl)) dX3_readNumberOrName_98 ⟨Nat.le_of_ble_eq_true rfl, Nat.le_of_ble_eq_true rfl⟩) hS (fun q _ h => (freeX hS) q h) (freeX hS) (fun u t H1 locs ht hvm hw hB hz1 hk1 hS => ?_)
          unfold BX at hB
          rw [ht] at hB
          obtain ⟨v3590, F3591, rc9⟩ := u
          obtain ⟨hI, hal9, hrc, hf3592, hw⟩ := hw
          dsimp only at hI hal9 hrc hB hf3592 hw
          rw [hrc] at hB
          have hal := hal9.trans hal
          have hP : va_P (dC, dI) classes (wX g c v3590 F3591 (g (44 + nr))) H1 := hB
          generalize H1 = H at hP hS ⊢
          have hP9 : va_P (dC, dI) classes (wX g c v3590 F3591 (g (44 + nr))) H := hP
          exact W.vret hx hb hr (fun t ht hW => ⟨⟨(v3590, F3591, (g (44 + nr))), rfl, ⟨hI, hal, rfl, (frC (by decide) hf3592 (fun _ _ => rfl)), trivial⟩, (by show va_P _ _ _ t.heap; rw [ht]; exact hP9)⟩, hS.F ht⟩) hS.2.2 dX3_readNumberOrName_101
        · exact absurd c3588 (by decide)
      · exact absurd c3587 (by decide)
