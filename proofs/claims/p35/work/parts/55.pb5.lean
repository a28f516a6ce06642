set_option maxHeartbeats 8000000 in
set_option maxRecDepth 100000 in
theorem c_X11_order (l : Launch) (dC : Nat → ClassId) (dI : Nat → Nat → Nat) (g : Nat → Nat) (c : Nat → ClassId) (adK adV : Nat → Nat) (v : Nat → Int32) (F : Nat → Nat → Int32) (rc sz : Nat) (p0 : Int32) (p1 : Int32) (hg : injX g) (hI : IX v F) : Met l yX11_order (Cond.code yX11_order cX11_order 3 (some .int) :: wA) ({ frames := 3, cells := 0, slots := 0, locals := 120 }) (va_Pc [.ref (g 0), .int p0, .int p1] (PX dC dI g c adK adV v F rc sz)) (va_Qi (fun (r : Int32) (u : StX) => IX u.1 u.2.1 ∧ (∃ o : Int32, alX u.1 u.2.1 = alXS3 (alX v F) o) ∧ u.2.2 = rc ∧ (∀ k, k ∉ ([161] : List Nat) → u.1 k = v k) ∧ True) (BX dC dI g c) (AX g sz)) 0 0 (AX g sz) := by
  refine Met.ofW (cc := cX11_order) (maxL := 3) (ret := (some .int)) (by decide) rfl ?_
  intro p e s m args below meth c0 s₁ B hml hv
  obtain ⟨rfl, hsz, hP, hK, hE⟩ := hv
  have hx := B.exec
  have hb := B.bytes
  have hr := B.returns
  have hts := atoms_spec (ws := Cond.code yX11_order cX11_order 3 (some .int) :: wA) B.pre
  have hwd : ∀ w ∈ wA, w.before _ s = true := fun w h => hts w (List.mem_cons_of_mem _ h)
  have hown : s.vm.findClass RX11 = some m.cls := findClass_of_methodNamed B.named
  have hlocks := B.notSynchronized
  subst hsz
  have hl := lv_entry ([.ref (g 0), .int p0, .int p1]) (n := 3) (Nat.le_of_ble_eq_true rfl)
  rw [lg_entry_eq]
  generalize (lg_sl ([.ref (g 0), .int p0, .int p1]) ++ List.replicate (3 - (lg_sl ([.ref (g 0), .int p0, .int p1])).length) Slot.unset).toArray = ls at hl ⊢
  have hl : lv_has ls 3 [(0, .ref (g 0)), (1, .int p0), (2, .int p1)] := hl
  obtain ⟨H, eH⟩ : ∃ z, z = s.heap := ⟨_, rfl⟩
  have hP : va_P (dC, dI) classes (wX g c v F rc) H := by rw [eH]; exact hP
  have hS : va_S (AX g s.heap.size) s.heap H [] := by rw [eH]; exact va_S.rf
  refine my_heap eH ?_
  have hal : alX v F = alX v F := rfl
  have rp0 := i32_rng p0
  have rp1 := i32_rng p1
  refine lv_aload_n hx hb dX11_order_0 rfl (lv_at hl 0 rfl) ?_
  refine va_get (D := (dC, dI)) (ci := 11) (v := .ref (g 1)) (C := RX11) (T := TX11) (N := 14) hx hb hwd inA_X11 hown hK hP 0 rfl rfl 0 (by decide) (hwd _ wk_15) (fun _ h9 => h9) rfl dX11_order_1 ?_
  refine lv_iload_n hx hb dX11_order_4 rfl (lv_at hl 1 rfl) ?_
  refine va_calli (va_runV (As := [.int p0]) (rest := []) ⟨hx, hb, hml, hown, hwd⟩ (c_X2_has l dC dI g c adK adV v F rc H.size p0 hg hI ) (cwV 1 hwd (gV wk_280 wk_277 wk_278 wk_279 wk_14) rfl rfl rfl (by decide +kernel) ⟨Nat.le_of_ble_eq_true rfl, Nat.le_of_ble_eq_true rfl⟩) ⟨PX.blind, va_recv hK hP (ci := 2) (q0 := 1) rfl rfl, fun U hU hW => ⟨rfl, PX.at hK hE hP hS hU hW⟩⟩ rfl rfl hl.1 rfl (lv_room (Nat.le_of_ble_eq_true rfl)) dX11_order_5 ⟨Nat.le_of_ble_eq_true rfl, Nat.le_of_ble_eq_true rfl⟩) hS (fun q _ h => (freeX hS) q h) (freeX hS) (fun r3278 u t H1 locs ht hvm hw hB hz1 hk1 hS => ?_)
  unfold BX at hB
  rw [ht] at hB
  have hP : va_P (dC, dI) classes (wX g c v F rc) H1 := hB
  have hw : (0 ≤ r3278.toInt ∧ r3278.toInt ≤ 1) ∧ (r3278.toInt = 1 → 0 ≤ p0.toInt ∧ p0.toInt < 10) := hw
  generalize H1 = H at hP hS ⊢
  have hw_r3278 := hw
  refine lv_if_eq (tgt := 18) hx hb dX11_order_8 (by decide) (fun c3279 => ?_) (fun c3279 => ?_)
  · skip
    have t3280 := cv_eq (a := r3278.toInt) rfl (b := 0) (by decide) c3279
    refine lv_iconst (v := (-1)) hx hb dX11_order_18 (by decide) ?_
    have hP9 : va_P (dC, dI) classes (wX g c v F rc) H := hP
    exact W.iret (v := (-1)) hx hb hr (fun t ht hW => ⟨⟨(-1), (v, F, rc), rfl, ⟨hI, ⟨v 161, hal.trans rfl⟩, rfl, (fun _ _ => rfl), trivial⟩, (by show va_P _ _ _ t.heap; rw [ht]; exact hP9)⟩, hS.F ht⟩) hS.2.2 dX11_order_19
  · skip
    have t3281 := cv_ne (a := r3278.toInt) rfl (b := 0) (by decide) c3279
    refine lv_iload_n hx hb dX11_order_11 rfl (lv_at hl 2 rfl) ?_
    refine va_calli (va_runS (As := [.int p1]) (rest := []) ⟨hx, hb, hml, hown, hwd⟩ (c_X11_isDay l dC dI g c adK adV v F rc H.size p1 hg hI ) (va_cwS 1 hwd (gT wk_549 wk_547 wk_548 wk_2) rfl rfl rfl (by decide +kernel) ⟨Nat.le_of_ble_eq_true rfl, Nat.le_of_ble_eq_true rfl⟩) ⟨PX.blind, fun U hU hW => ⟨rfl, PX.at hK hE hP hS hU hW⟩⟩ rfl rfl hl.1 rfl (lv_room (Nat.le_of_ble_eq_true rfl)) dX11_order_12 ⟨Nat.le_of_ble_eq_true rfl, Nat.le_of_ble_eq_true rfl⟩) hS (fun q _ h => (freeX hS) q h) (freeX hS) (fun r3282 u t H1 locs ht hvm hw hB hz1 hk1 hS => ?_)
    unfold BX at hB
    rw [ht] at hB
    have hP : va_P (dC, dI) classes (wX g c v F rc) H1 := hB
    have hw : (r3282.toInt = 1 ∧ 0 ≤ p1.toInt ∧ p1.toInt ≤ 9999) ∨ (r3282.toInt = 0 ∧ (p1.toInt < 0 ∨ 9999 < p1.toInt)) := hw
    generalize H1 = H at hP hS ⊢
    have hw_r3282 := hw
    refine lv_if_ne (tgt := 20) hx hb dX11_order_15 (by decide) (fun c3283 => ?_) (fun c3283 => ?_)
    · skip
      have t3284 := cv_ne (a := r3282.toInt) rfl (b := 0) (by decide) c3283
      refine lv_aload_n hx hb dX11_order_20 rfl (lv_at hl 0 rfl) ?_
      refine va_get (D := (dC, dI)) (ci := 11) (v := .ref (g 8)) (C := RX11) (T := TX11) (N := 14) hx hb hwd inA_X11 hown hK hP 0 rfl rfl 7 (by decide) (hwd _ wk_43) (fun _ h9 => h9) rfl dX11_order_21 ?_
      refine lv_iload_n hx hb dX11_order_24 rfl (lv_at hl 1 rfl) ?_
      refine lv_iload_n hx hb dX11_order_25 rfl (lv_at hl 2 rfl) ?_
      refine va_calli (va_runV (As := [.int p0, .int p1]) (rest := []) ⟨hx, hb, hml, hown, hwd⟩ (c_X6_add l dC dI g c adK adV v F rc H.size p0 p1 hg hI (by omega)) (cwV 2 hwd (gV wk_1064 wk_1061 wk_1062 wk_1063 wk_42) rfl rfl rfl (by decide +kernel) ⟨Nat.le_of_ble_eq_true rfl, Nat.le_of_ble_eq_true rfl⟩) ⟨PX.blind, va_recv hK hP (ci := 6) (q0 := 8) rfl rfl, fun U hU hW => ⟨rfl, PX.at hK hE hP hS hU hW⟩⟩ rfl rfl hl.1 rfl (lv_room (Nat.le_of_ble_eq_true rfl)) dX11_order_26 ⟨Nat.le_of_ble_eq_true rfl, Nat.le_of_ble_eq_true rfl⟩) hS (fun q _ h => (freeX hS) q h) (freeX hS) (fun r3285 u t H1 locs ht hvm hw hB hz1 hk1 hS => ?_)
      unfold BX at hB
      rw [ht] at hB
      obtain ⟨v3286, F3287, rc9⟩ := u
      obtain ⟨hI, hal9, hrc, hf3288, hw⟩ := hw
      dsimp only at hI hal9 hrc hB hf3288 hw
      rw [hrc] at hB
      have hq3289 := hal9
      have hP : va_P (dC, dI) classes (wX g c v3286 F3287 rc) H1 := hB
      generalize H1 = H at hP hS ⊢
      have rr_r3285 := i32_rng r3285
      have hP9 : va_P (dC, dI) classes (wX g c v3286 F3287 rc) H := hP
      exact W.iret (v := r3285) hx hb hr (fun t ht hW => ⟨⟨r3285, (v3286, F3287, rc), rfl, ⟨hI, (hq3289.elim (fun h => ⟨v 161, h.2.2.trans rfl⟩) (fun h => ⟨_, h.2.2⟩)), rfl, (frC (by decide) hf3288 (fun _ _ => rfl)), trivial⟩, (by show va_P _ _ _ t.heap; rw [ht]; exact hP9)⟩, hS.F ht⟩) hS.2.2 dX11_order_29
    · skip
      have t3290 := cv_eq (a := r3282.toInt) rfl (b := 0) (by decide) c3283
      refine lv_iconst (v := (-1)) hx hb dX11_order_18 (by decide) ?_
      have hP9 : va_P (dC, dI) classes (wX g c v F rc) H := hP
      exact W.iret (v := (-1)) hx hb hr (fun t ht hW => ⟨⟨(-1), (v, F, rc), rfl, ⟨hI, ⟨v 161, hal.trans rfl⟩, rfl, (fun _ _ => rfl), trivial⟩, (by show va_P _ _ _ t.heap; rw [ht]; exact hP9)⟩, hS.F ht⟩) hS.2.2 dX11_order_19
set_option maxHeartbeats 8000000 in
set_option maxRecDepth 100000 in
theorem c_X8_addLink (l : Launch) (dC : Nat → ClassId) (dI : Nat → Nat → Nat) (g : Nat → Nat) (c : Nat → ClassId) (adK adV : Nat → Nat) (v : Nat → Int32) (F : Nat → Nat → Int32) (rc sz : Nat) (p0 : Int32) (p1 : Int32) (hg : injX g) (hI : IX v F) (h0 : 0 ≤ p0.toInt ∧ p0.toInt ≤ 9) : Met l yX8_addLink (Cond.code yX8_addLink cX8_addLink 3 (some .int) :: wA) ({ frames := 1, cells := 0, slots := 0, locals := 40 }) (va_Pc [.ref (g 2), .int p0, .int p1] (PX dC dI g c adK adV v F rc sz)) (va_Qi (fun (r : Int32) (u : StX) => IX u.1 u.2.1 ∧ (∃ f4 f5 : Nat → Int32, alX u.1 u.2.1 = alXS4 (alXS5 (alX v F) f5) f4) ∧ u.2.2 = rc ∧ (∀ k, k ∉ ([] : List Nat) → u.1 k = v k) ∧ True) (BX dC dI g c) (AX g sz)) 0 0 (AX g sz) := by
  refine Met.ofW (cc := cX8_addLink) (maxL := 3) (ret := (some .int)) (by decide) rfl ?_
  intro p e s m args below meth c0 s₁ B hml hv
  obtain ⟨rfl, hsz, hP, hK, hE⟩ := hv
  have hx := B.exec
  have hb := B.bytes
  have hr := B.returns
  have hts := atoms_spec (ws := Cond.code yX8_addLink cX8_addLink 3 (some .int) :: wA) B.pre
  have hwd : ∀ w ∈ wA, w.before _ s = true := fun w h => hts w (List.mem_cons_of_mem _ h)
  have hown : s.vm.findClass RX8 = some m.cls := findClass_of_methodNamed B.named
  have hlocks := B.notSynchronized
  subst hsz
  have hl := lv_entry ([.ref (g 2), .int p0, .int p1]) (n := 3) (Nat.le_of_ble_eq_true rfl)
  rw [lg_entry_eq]
  generalize (lg_sl ([.ref (g 2), .int p0, .int p1]) ++ List.replicate (3 - (lg_sl ([.ref (g 2), .int p0, .int p1])).length) Slot.unset).toArray = ls at hl ⊢
  have hl : lv_has ls 3 [(0, .ref (g 2)), (1, .int p0), (2, .int p1)] := hl
  obtain ⟨H, eH⟩ : ∃ z, z = s.heap := ⟨_, rfl⟩
  have hP : va_P (dC, dI) classes (wX g c v F rc) H := by rw [eH]; exact hP
  have hS : va_S (AX g s.heap.size) s.heap H [] := by rw [eH]; exact va_S.rf
  refine my_heap eH ?_
  have hal : alX v F = alX v F := rfl
  have rp0 := i32_rng p0
  have rp1 := i32_rng p1
  refine lv_aload_n hx hb dX8_addLink_0 rfl (lv_at hl 0 rfl) ?_
  refine va_get (D := (dC, dI)) (ci := 8) (v := .ref (g 20)) (C := RX8) (T := TX8) (N := 10) hx hb hwd inA_X8 hown hK hP 2 rfl rfl 6 (by decide) (hwd _ wk_73) (fun _ h9 => h9) rfl dX8_addLink_1 ?_
  refine lv_iload_n hx hb dX8_addLink_4 rfl (lv_at hl 1 rfl) ?_
  refine va_iald hx hb hK hP 20 8 rfl rfl (i := p0) (vin (a := p0.toInt) rfl (by omega)) dX8_addLink_5 ?_
  refine lv_topi (fun z3291 e3292 => ?_)
  have t3293 : 0 ≤ z3291.toInt ∧ z3291.toInt ≤ 4 := by rw [e3292]; exact hI.2 20 _ _ rfl _
  refine lv_iconst (v := 4) hx hb dX8_addLink_6 (by decide) ?_
  refine lv_icmp_lt (tgt := 13) hx hb dX8_addLink_7 (by decide) (fun c3294 => ?_) (fun c3294 => ?_)
  · skip
    have t3295 := cv_lt (a := z3291.toInt) rfl (b := 4) (by decide) c3294
    refine lv_aload_n hx hb dX8_addLink_13 rfl (lv_at hl 0 rfl) ?_
    refine va_get (D := (dC, dI)) (ci := 8) (v := .ref (g 21)) (C := RX8) (T := TX8) (N := 10) hx hb hwd inA_X8 hown hK hP 2 rfl rfl 7 (by decide) (hwd _ wk_74) (fun _ h9 => h9) rfl dX8_addLink_14 ?_
    refine lv_iload_n hx hb dX8_addLink_17 rfl (lv_at hl 1 rfl) ?_
    refine lv_iconst (v := 4) hx hb dX8_addLink_18 (by decide) ?_
    refine lv_imul hx hb dX8_addLink_19 ?_
    refine lv_topi (fun z3296 e3297 => ?_)
    try (have t3298 := tmul e3297 (a := p0.toInt) rfl (b := 4) (by decide) (by omega))
    refine lv_aload_n hx hb dX8_addLink_20 rfl (lv_at hl 0 rfl) ?_
    refine va_get (D := (dC, dI)) (ci := 8) (v := .ref (g 20)) (C := RX8) (T := TX8) (N := 10) hx hb hwd inA_X8 hown hK hP 2 rfl rfl 6 (by decide) (hwd _ wk_73) (fun _ h9 => h9) rfl dX8_addLink_21 ?_
    refine lv_iload_n hx hb dX8_addLink_24 rfl (lv_at hl 1 rfl) ?_
    refine va_iald hx hb hK hP 20 8 rfl rfl (i := p0) (vin (a := p0.toInt) rfl (by omega)) dX8_addLink_25 ?_
    refine lv_topi (fun z3299 e3300 => ?_)
    have t3301 := congrArg Int32.toInt ((show z3299 = F 20 (p0 : Int32).toNatClampNeg from e3300).trans (show z3291 = F 20 (p0 : Int32).toNatClampNeg from e3292).symm)
    have t3302 : 0 ≤ z3299.toInt ∧ z3299.toInt ≤ 4 := by rw [e3300]; exact hI.2 20 _ _ rfl _
    refine lv_iadd hx hb dX8_addLink_26 ?_
    refine lv_topi (fun z3303 e3304 => ?_)
    try (have t3305 := tadd e3304 (a := z3296.toInt) rfl (b := z3299.toInt) rfl (by omega))
    refine lv_iload_n hx hb dX8_addLink_27 rfl (lv_at hl 2 rfl) ?_
    refine va_iast hx hb hK hP (DX hg) hS 21 9 rfl rfl (i := z3303) (x := p1) (vin (a := z3303.toInt) rfl (by omega)) dX8_addLink_28 (fun H locs hP _ hS => ?_)
    have hP := va_P_eq (sX_21 g c _ _ _ _) hP
    have hI := IX.store0 hI 21 (z3303 : Int32).toNatClampNeg p1 rfl
    have hal := (alX_s5 _ _ (upd (F 21) (z3303 : Int32).toNatClampNeg p1)).trans (congrArg (fun t => alXS5 t (upd (F 21) (z3303 : Int32).toNatClampNeg p1)) hal)
    have hP : va_P (dC, dI) classes (wX g c v (va_up F 21 (upd (F 21) (z3303 : Int32).toNatClampNeg p1)) rc) H := hP
    refine lv_aload_n hx hb dX8_addLink_29 rfl (lv_at hl 0 rfl) ?_
    refine va_get (D := (dC, dI)) (ci := 8) (v := .ref (g 20)) (C := RX8) (T := TX8) (N := 10) hx hb hwd inA_X8 hown hK hP 2 rfl rfl 6 (by decide) (hwd _ wk_73) (fun _ h9 => h9) rfl dX8_addLink_30 ?_
    refine lv_iload_n hx hb dX8_addLink_33 rfl (lv_at hl 1 rfl) ?_
    refine lv_dup2_11 hx hb dX8_addLink_34 rfl rfl ?_
    refine va_iald hx hb hK hP 20 8 rfl rfl (i := p0) (vin (a := p0.toInt) rfl (by omega)) dX8_addLink_35 ?_
    refine lv_topi (fun z3306 e3307 => ?_)
    have t3308 := congrArg Int32.toInt ((show z3306 = F 20 (p0 : Int32).toNatClampNeg from e3307).trans (show z3291 = F 20 (p0 : Int32).toNatClampNeg from e3292).symm)
    have t3309 : 0 ≤ z3306.toInt ∧ z3306.toInt ≤ 4 := by rw [e3307]; exact hI.2 20 _ _ rfl _
    refine lv_iconst (v := 1) hx hb dX8_addLink_36 (by decide) ?_
    refine lv_iadd hx hb dX8_addLink_37 ?_
    refine lv_topi (fun z3310 e3311 => ?_)
    try (have t3312 := tadd e3311 (a := z3306.toInt) rfl (b := 1) (by decide) (by omega))
    refine va_iast hx hb hK hP (DX hg) hS 20 8 rfl rfl (i := p0) (x := z3310) (vin (a := p0.toInt) rfl (by omega)) dX8_addLink_38 (fun H locs hP _ hS => ?_)
    have hP := va_P_eq (sX_20 g c _ _ _ _) hP
    have hI := IX.store hI 20 (p0 : Int32).toNatClampNeg z3310 rfl (by omega)
    have hal := (alX_s4 _ _ (upd ((va_up F 21 (upd (F 21) (z3303 : Int32).toNatClampNeg p1)) 20) (p0 : Int32).toNatClampNeg z3310)).trans (congrArg (fun t => alXS4 t (upd ((va_up F 21 (upd (F 21) (z3303 : Int32).toNatClampNeg p1)) 20) (p0 : Int32).toNatClampNeg z3310)) hal)
    have hP : va_P (dC, dI) classes (wX g c v (va_up (va_up F 21 (upd (F 21) (z3303 : Int32).toNatClampNeg p1)) 20 (upd ((va_up F 21 (upd (F 21) (z3303 : Int32).toNatClampNeg p1)) 20) (p0 : Int32).toNatClampNeg z3310)) rc) H := hP
    refine lv_aload_n hx hb dX8_addLink_39 rfl (lv_at hl 0 rfl) ?_
    refine va_get (D := (dC, dI)) (ci := 8) (v := .ref (g 20)) (C := RX8) (T := TX8) (N := 10) hx hb hwd inA_X8 hown hK hP 2 rfl rfl 6 (by decide) (hwd _ wk_73) (fun _ h9 => h9) rfl dX8_addLink_40 ?_
    refine lv_iload_n hx hb dX8_addLink_43 rfl (lv_at hl 1 rfl) ?_
    refine va_iald hx hb hK hP 20 8 rfl rfl (i := p0) (vin (a := p0.toInt) rfl (by omega)) dX8_addLink_44 ?_
    refine lv_topi (fun z3313 e3314 => ?_)
    have t3315 : 0 ≤ z3313.toInt ∧ z3313.toInt ≤ 4 := by rw [e3314]; exact hI.2 20 _ _ rfl _
    have hP9 : va_P (dC, dI) classes (wX g c v (va_up (va_up F 21 (upd (F 21) (z3303 : Int32).toNatClampNeg p1)) 20 (upd ((va_up F 21 (upd (F 21) (z3303 : Int32).toNatClampNeg p1)) 20) (p0 : Int32).toNatClampNeg z3310)) rc) H := hP
    exact W.iret (v := z3313) hx hb hr (fun t ht hW => ⟨⟨z3313, (v, (va_up (va_up F 21 (upd (F 21) (z3303 : Int32).toNatClampNeg p1)) 20 (upd ((va_up F 21 (upd (F 21) (z3303 : Int32).toNatClampNeg p1)) 20) (p0 : Int32).toNatClampNeg z3310)), rc), rfl, ⟨hI, ⟨_, _, hal⟩, rfl, (fun _ _ => rfl), trivial⟩, (by show va_P _ _ _ t.heap; rw [ht]; exact hP9)⟩, hS.F ht⟩) hS.2.2 dX8_addLink_45
  · skip
    have t3316 := cv_nlt (a := z3291.toInt) rfl (b := 4) (by decide) c3294
    refine lv_bipush (v := (-3)) hx hb dX8_addLink_10 (by decide) ?_
    have hP9 : va_P (dC, dI) classes (wX g c v F rc) H := hP
    exact W.iret (v := (-3)) hx hb hr (fun t ht hW => ⟨⟨(-3), (v, F, rc), rfl, ⟨hI, ⟨F 20, F 21, hal.trans rfl⟩, rfl, (fun _ _ => rfl), trivial⟩, (by show va_P _ _ _ t.heap; rw [ht]; exact hP9)⟩, hS.F ht⟩) hS.2.2 dX8_addLink_12
set_option maxHeartbeats 8000000 in
set_option maxRecDepth 100000 in
theorem c_X11_link (l : Launch) (dC : Nat → ClassId) (dI : Nat → Nat → Nat) (g : Nat → Nat) (c : Nat → ClassId) (adK adV : Nat → Nat) (v : Nat → Int32) (F : Nat → Nat → Int32) (rc sz : Nat) (p0 : Int32) (p1 : Int32) (p2 : Int32) (hg : injX g) (hI : IX v F) : Met l yX11_link (Cond.code yX11_link cX11_link 4 (some .int) :: wA) ({ frames := 3, cells := 0, slots := 0, locals := 120 }) (va_Pc [.ref (g 0), .int p0, .int p1, .int p2] (PX dC dI g c adK adV v F rc sz)) (va_Qi (fun (r : Int32) (u : StX) => IX u.1 u.2.1 ∧ (∃ f4 f5 : Nat → Int32, alX u.1 u.2.1 = alXS4 (alXS5 (alX v F) f5) f4) ∧ u.2.2 = rc ∧ (∀ k, k ∉ ([] : List Nat) → u.1 k = v k) ∧ True) (BX dC dI g c) (AX g sz)) 0 0 (AX g sz) := by
  refine Met.ofW (cc := cX11_link) (maxL := 4) (ret := (some .int)) (by decide) rfl ?_
  intro p e s m args below meth c0 s₁ B hml hv
  obtain ⟨rfl, hsz, hP, hK, hE⟩ := hv
  have hx := B.exec
  have hb := B.bytes
  have hr := B.returns
  have hts := atoms_spec (ws := Cond.code yX11_link cX11_link 4 (some .int) :: wA) B.pre
  have hwd : ∀ w ∈ wA, w.before _ s = true := fun w h => hts w (List.mem_cons_of_mem _ h)
  have hown : s.vm.findClass RX11 = some m.cls := findClass_of_methodNamed B.named
  have hlocks := B.notSynchronized
  subst hsz
  have hl := lv_entry ([.ref (g 0), .int p0, .int p1, .int p2]) (n := 4) (Nat.le_of_ble_eq_true rfl)
  rw [lg_entry_eq]
  generalize (lg_sl ([.ref (g 0), .int p0, .int p1, .int p2]) ++ List.replicate (4 - (lg_sl ([.ref (g 0), .int p0, .int p1, .int p2])).length) Slot.unset).toArray = ls at hl ⊢
  have hl : lv_has ls 4 [(0, .ref (g 0)), (1, .int p0), (2, .int p1), (3, .int p2)] := hl
  obtain ⟨H, eH⟩ : ∃ z, z = s.heap := ⟨_, rfl⟩
  have hP : va_P (dC, dI) classes (wX g c v F rc) H := by rw [eH]; exact hP
  have hS : va_S (AX g s.heap.size) s.heap H [] := by rw [eH]; exact va_S.rf
  refine my_heap eH ?_
  have hal : alX v F = alX v F := rfl
  have rp0 := i32_rng p0
  have rp1 := i32_rng p1
  have rp2 := i32_rng p2
  refine lv_aload_n hx hb dX11_link_0 rfl (lv_at hl 0 rfl) ?_
  refine va_get (D := (dC, dI)) (ci := 11) (v := .ref (g 2)) (C := RX11) (T := TX11) (N := 14) hx hb hwd inA_X11 hown hK hP 0 rfl rfl 1 (by decide) (hwd _ wk_19) (fun _ h9 => h9) rfl dX11_link_1 ?_
  refine lv_iload_n hx hb dX11_link_4 rfl (lv_at hl 1 rfl) ?_
  refine va_calli (va_runV (As := [.int p0]) (rest := []) ⟨hx, hb, hml, hown, hwd⟩ (c_X8_has l dC dI g c adK adV v F rc H.size p0 hg hI ) (cwV 1 hwd (gV wk_276 wk_273 wk_274 wk_275 wk_18) rfl rfl rfl (by decide +kernel) ⟨Nat.le_of_ble_eq_true rfl, Nat.le_of_ble_eq_true rfl⟩) ⟨PX.blind, va_recv hK hP (ci := 8) (q0 := 2) rfl rfl, fun U hU hW => ⟨rfl, PX.at hK hE hP hS hU hW⟩⟩ rfl rfl hl.1 rfl (lv_room (Nat.le_of_ble_eq_true rfl)) dX11_link_5 ⟨Nat.le_of_ble_eq_true rfl, Nat.le_of_ble_eq_true rfl⟩) hS (fun q _ h => (freeX hS) q h) (freeX hS) (fun r3317 u t H1 locs ht hvm hw hB hz1 hk1 hS => ?_)
  unfold BX at hB
  rw [ht] at hB
  have hP : va_P (dC, dI) classes (wX g c v F rc) H1 := hB
  have hw : (0 ≤ r3317.toInt ∧ r3317.toInt ≤ 1) ∧ (r3317.toInt = 1 → 0 ≤ p0.toInt ∧ p0.toInt < 10) := hw
  generalize H1 = H at hP hS ⊢
  have hw_r3317 := hw
  refine lv_if_eq (tgt := 28) hx hb dX11_link_8 (by decide) (fun c3318 => ?_) (fun c3318 => ?_)
  · skip
    have t3319 := cv_eq (a := r3317.toInt) rfl (b := 0) (by decide) c3318
    refine lv_iconst (v := (-1)) hx hb dX11_link_28 (by decide) ?_
    have hP9 : va_P (dC, dI) classes (wX g c v F rc) H := hP
    exact W.iret (v := (-1)) hx hb hr (fun t ht hW => ⟨⟨(-1), (v, F, rc), rfl, ⟨hI, ⟨F 20, F 21, hal.trans rfl⟩, rfl, (fun _ _ => rfl), trivial⟩, (by show va_P _ _ _ t.heap; rw [ht]; exact hP9)⟩, hS.F ht⟩) hS.2.2 dX11_link_29
  · skip
    have t3320 := cv_ne (a := r3317.toInt) rfl (b := 0) (by decide) c3318
    refine lv_iload_n hx hb dX11_link_11 rfl (lv_at hl 2 rfl) ?_
    refine lv_iconst (v := 0) hx hb dX11_link_12 (by decide) ?_
    refine lv_bipush (v := 9) hx hb dX11_link_13 (by decide) ?_
    refine va_calli (va_runS (As := [.int p1, .int 0, .int 9]) (rest := []) ⟨hx, hb, hml, hown, hwd⟩ (c_X11_within l dC dI g c adK adV v F rc H.size p1 0 9 hg hI ) (va_cwS 3 hwd (gT wk_239 wk_237 wk_238 wk_2) rfl rfl rfl (by decide +kernel) ⟨Nat.le_of_ble_eq_true rfl, Nat.le_of_ble_eq_true rfl⟩) ⟨PX.blind, fun U hU hW => ⟨rfl, PX.at hK hE hP hS hU hW⟩⟩ rfl rfl hl.1 rfl (lv_room (Nat.le_of_ble_eq_true rfl)) dX11_link_15 ⟨Nat.le_of_ble_eq_true rfl, Nat.le_of_ble_eq_true rfl⟩) hS (fun q _ h => (freeX hS) q h) (freeX hS) (fun r3321 u t H1 locs ht hvm hw hB hz1 hk1 hS => ?_)
    unfold BX at hB
    rw [ht] at hB
    have hP : va_P (dC, dI) classes (wX g c v F rc) H1 := hB
    have hw : (r3321.toInt = 1 ∧ (0 : Int32).toInt ≤ p1.toInt ∧ p1.toInt ≤ (9 : Int32).toInt) ∨ (r3321.toInt = 0 ∧ (p1.toInt < (0 : Int32).toInt ∨ (9 : Int32).toInt < p1.toInt)) := hw
    have k3322 : (0 : Int32).toInt = 0 := by decide
    have k3323 : (9 : Int32).toInt = 9 := by decide
    generalize H1 = H at hP hS ⊢
    have hw_r3321 := hw
    refine lv_if_eq (tgt := 28) hx hb dX11_link_18 (by decide) (fun c3324 => ?_) (fun c3324 => ?_)
    · skip
      have t3325 := cv_eq (a := r3321.toInt) rfl (b := 0) (by decide) c3324
      refine lv_iconst (v := (-1)) hx hb dX11_link_28 (by decide) ?_
      have hP9 : va_P (dC, dI) classes (wX g c v F rc) H := hP
      exact W.iret (v := (-1)) hx hb hr (fun t ht hW => ⟨⟨(-1), (v, F, rc), rfl, ⟨hI, ⟨F 20, F 21, hal.trans rfl⟩, rfl, (fun _ _ => rfl), trivial⟩, (by show va_P _ _ _ t.heap; rw [ht]; exact hP9)⟩, hS.F ht⟩) hS.2.2 dX11_link_29
    · skip
      have t3326 := cv_ne (a := r3321.toInt) rfl (b := 0) (by decide) c3324
      refine lv_iload_n hx hb dX11_link_21 rfl (lv_at hl 3 rfl) ?_
      refine va_calli (va_runS (As := [.int p2]) (rest := []) ⟨hx, hb, hml, hown, hwd⟩ (c_X11_isTold l dC dI g c adK adV v F rc H.size p2 hg hI ) (va_cwS 1 hwd (gT wk_235 wk_233 wk_234 wk_2) rfl rfl rfl (by decide +kernel) ⟨Nat.le_of_ble_eq_true rfl, Nat.le_of_ble_eq_true rfl⟩) ⟨PX.blind, fun U hU hW => ⟨rfl, PX.at hK hE hP hS hU hW⟩⟩ rfl rfl hl.1 rfl (lv_room (Nat.le_of_ble_eq_true rfl)) dX11_link_22 ⟨Nat.le_of_ble_eq_true rfl, Nat.le_of_ble_eq_true rfl⟩) hS (fun q _ h => (freeX hS) q h) (freeX hS) (fun r3327 u t H1 locs ht hvm hw hB hz1 hk1 hS => ?_)
      unfold BX at hB
      rw [ht] at hB
      have hP : va_P (dC, dI) classes (wX g c v F rc) H1 := hB
      have hw : (r3327.toInt = 1 ∧ 0 ≤ p2.toInt ∧ p2.toInt ≤ 99999) ∨ (r3327.toInt = 0 ∧ (p2.toInt < 0 ∨ 99999 < p2.toInt)) := hw
      generalize H1 = H at hP hS ⊢
      have hw_r3327 := hw
      refine lv_if_ne (tgt := 30) hx hb dX11_link_25 (by decide) (fun c3328 => ?_) (fun c3328 => ?_)
      · skip
        have t3329 := cv_ne (a := r3327.toInt) rfl (b := 0) (by decide) c3328
        refine lv_aload_n hx hb dX11_link_30 rfl (lv_at hl 0 rfl) ?_
        refine va_get (D := (dC, dI)) (ci := 11) (v := .ref (g 2)) (C := RX11) (T := TX11) (N := 14) hx hb hwd inA_X11 hown hK hP 0 rfl rfl 1 (by decide) (hwd _ wk_19) (fun _ h9 => h9) rfl dX11_link_31 ?_
        refine lv_iload_n hx hb dX11_link_34 rfl (lv_at hl 1 rfl) ?_
        refine lv_iload_n hx hb dX11_link_35 rfl (lv_at hl 3 rfl) ?_
        refine va_calli (va_runV (As := [.int p0, .int p2]) (rest := []) ⟨hx, hb, hml, hown, hwd⟩ (c_X8_addLink l dC dI g c adK adV v F rc H.size p0 p2 hg hI (by omega)) (cwV 2 hwd (gV wk_1399 wk_1396 wk_1397 wk_1398 wk_18) rfl rfl rfl (by decide +kernel) ⟨Nat.le_of_ble_eq_true rfl, Nat.le_of_ble_eq_true rfl⟩) ⟨PX.blind, va_recv hK hP (ci := 8) (q0 := 2) rfl rfl, fun U hU hW => ⟨rfl, PX.at hK hE hP hS hU hW⟩⟩ rfl rfl hl.1 rfl (lv_room (Nat.le_of_ble_eq_true rfl)) dX11_link_36 ⟨Nat.le_of_ble_eq_true rfl, Nat.le_of_ble_eq_true rfl⟩) hS (fun q _ h => (freeX hS) q h) (freeX hS) (fun r3330 u t H1 locs ht hvm hw hB hz1 hk1 hS => ?_)
        unfold BX at hB
        rw [ht] at hB
        obtain ⟨v3331, F3332, rc9⟩ := u
        obtain ⟨hI, hal9, hrc, hf3333, hw⟩ := hw
        dsimp only at hI hal9 hrc hB hf3333 hw
        rw [hrc] at hB
        have hq3334 := hal9
        have hP : va_P (dC, dI) classes (wX g c v3331 F3332 rc) H1 := hB
        generalize H1 = H at hP hS ⊢
        have rr_r3330 := i32_rng r3330
        have hP9 : va_P (dC, dI) classes (wX g c v3331 F3332 rc) H := hP
        exact W.iret (v := r3330) hx hb hr (fun t ht hW => ⟨⟨r3330, (v3331, F3332, rc), rfl, ⟨hI, hq3334, rfl, (frC (by decide) hf3333 (fun _ _ => rfl)), trivial⟩, (by show va_P _ _ _ t.heap; rw [ht]; exact hP9)⟩, hS.F ht⟩) hS.2.2 dX11_link_39
      · skip
        have t3335 := cv_eq (a := r3327.toInt) rfl (b := 0) (by decide) c3328
        refine lv_iconst (v := (-1)) hx hb dX11_link_28 (by decide) ?_
        have hP9 : va_P (dC, dI) classes (wX g c v F rc) H := hP
        exact W.iret (v := (-1)) hx hb hr (fun t ht hW => ⟨⟨(-1), (v, F, rc), rfl, ⟨hI, ⟨F 20, F 21, hal.trans rfl⟩, rfl, (fun _ _ => rfl), trivial⟩, (by show va_P _ _ _ t.heap; rw [ht]; exact hP9)⟩, hS.F ht⟩) hS.2.2 dX11_link_29
