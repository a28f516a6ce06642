set_option maxHeartbeats 8000000 in
set_option maxRecDepth 100000 in
theorem c_X2_has_x (l : Launch) (dC : Nat → ClassId) (dI : Nat → Nat → Nat) (g : Nat → Nat) (c : Nat → ClassId) (adK adV : Nat → Nat) (v : Nat → Int32) (F : Nat → Nat → Int32) (rc sz : Nat) (p0 : Int32) (hg : injX g) (hI : IX v F) : Met l yX2_has (Cond.code yX2_has cX2_has 2 (some .boolean) :: wA) ({ frames := 1, cells := 0, slots := 0, locals := 40 }) (va_Pc [.ref (g 1), .int p0] (PX dC dI g c adK adV v F rc sz)) (va_Qi (fun (r : Int32) (u : Unit) => (r.toInt = 1 ∧ 0 ≤ p0.toInt ∧ p0.toInt < (v 20).toInt) ∨ (r.toInt = 0 ∧ (p0.toInt < 0 ∨ (v 20).toInt ≤ p0.toInt))) (fun (_ : Unit) => BX dC dI g c (v, F, rc)) (AX g sz)) 0 0 (AX g sz) := by
  refine Met.ofW (cc := cX2_has) (maxL := 2) (ret := (some .boolean)) (by decide) rfl ?_
  intro p e s m args below meth c0 s₁ B hml hv
  obtain ⟨rfl, hsz, hP, hK, hE⟩ := hv
  have hx := B.exec
  have hb := B.bytes
  have hr := B.returns
  have hts := atoms_spec (ws := Cond.code yX2_has cX2_has 2 (some .boolean) :: wA) B.pre
  have hwd : ∀ w ∈ wA, w.before _ s = true := fun w h => hts w (List.mem_cons_of_mem _ h)
  have hown : s.vm.findClass RX2 = some m.cls := findClass_of_methodNamed B.named
  have hlocks := B.notSynchronized
  subst hsz
  have hl := lv_entry ([.ref (g 1), .int p0]) (n := 2) (Nat.le_of_ble_eq_true rfl)
  rw [lg_entry_eq]
  generalize (lg_sl ([.ref (g 1), .int p0]) ++ List.replicate (2 - (lg_sl ([.ref (g 1), .int p0])).length) Slot.unset).toArray = ls at hl ⊢
  have hl : lv_has ls 2 [(0, .ref (g 1)), (1, .int p0)] := hl
  obtain ⟨H, eH⟩ : ∃ z, z = s.heap := ⟨_, rfl⟩
  have hP : va_P (dC, dI) classes (wX g c v F rc) H := by rw [eH]; exact hP
  have hS : va_S (AX g s.heap.size) s.heap H [] := by rw [eH]; exact va_S.rf
  refine my_heap eH ?_
  have rp0 := i32_rng p0
  refine lv_iload_n hx hb dX2_has_0 rfl (lv_at hl 1 rfl) ?_
  refine lv_if_lt (tgt := 16) hx hb dX2_has_1 (by decide) (fun c4266 => ?_) (fun c4266 => ?_)
  · skip
    have t4267 := cv_lt (a := p0.toInt) rfl (b := 0) (by decide) c4266
    refine lv_iconst (v := 0) hx hb dX2_has_16 (by decide) ?_
    have hP9 : va_P (dC, dI) classes (wX g c v F rc) H := hP
    exact W.zret (v := 0) hx hb hr (rfl) (fun t ht hW => ⟨⟨0, (), rfl, by have : (0 : Int32).toInt = 0 := (by decide); omega, (by show va_P _ _ _ t.heap; rw [ht]; exact hP9)⟩, hS.F ht⟩) hS.2.2 dX2_has_17
  · skip
    have t4268 := cv_nlt (a := p0.toInt) rfl (b := 0) (by decide) c4266
    refine lv_iload_n hx hb dX2_has_4 rfl (lv_at hl 1 rfl) ?_
    refine lv_aload_n hx hb dX2_has_5 rfl (lv_at hl 0 rfl) ?_
    refine va_get (D := (dC, dI)) (ci := 2) (v := .int (v 20)) (C := RX2) (T := TX2) (N := 4) hx hb hwd inA_X2 hown hK hP 1 rfl rfl 0 (by decide) (hwd _ wk_244) (fun _ h9 => h9) rfl dX2_has_6 ?_
    have t4269 : 0 ≤ (v 20).toInt ∧ (v 20).toInt ≤ 10 := hI.1 20 _ _ rfl
    refine lv_icmp_ge (tgt := 16) hx hb dX2_has_9 (by decide) (fun c4270 => ?_) (fun c4270 => ?_)
    · skip
      have t4271 := cv_le (a := (v 20).toInt) rfl (b := p0.toInt) rfl c4270
      refine lv_iconst (v := 0) hx hb dX2_has_16 (by decide) ?_
      have hP9 : va_P (dC, dI) classes (wX g c v F rc) H := hP
      exact W.zret (v := 0) hx hb hr (rfl) (fun t ht hW => ⟨⟨0, (), rfl, by have : (0 : Int32).toInt = 0 := (by decide); omega, (by show va_P _ _ _ t.heap; rw [ht]; exact hP9)⟩, hS.F ht⟩) hS.2.2 dX2_has_17
    · skip
      have t4272 := cv_nle (a := (v 20).toInt) rfl (b := p0.toInt) rfl c4270
      refine lv_iconst (v := 1) hx hb dX2_has_12 (by decide) ?_
      refine lv_goto (tgt := 17) hx hb dX2_has_13 (by decide) ?_
      have hP9 : va_P (dC, dI) classes (wX g c v F rc) H := hP
      exact W.zret (v := 1) hx hb hr (rfl) (fun t ht hW => ⟨⟨1, (), rfl, by have : (1 : Int32).toInt = 1 := (by decide); omega, (by show va_P _ _ _ t.heap; rw [ht]; exact hP9)⟩, hS.F ht⟩) hS.2.2 dX2_has_17
set_option maxHeartbeats 8000000 in
set_option maxRecDepth 100000 in
theorem c_X8_has_x (l : Launch) (dC : Nat → ClassId) (dI : Nat → Nat → Nat) (g : Nat → Nat) (c : Nat → ClassId) (adK adV : Nat → Nat) (v : Nat → Int32) (F : Nat → Nat → Int32) (rc sz : Nat) (p0 : Int32) (hg : injX g) (hI : IX v F) : Met l yX8_has (Cond.code yX8_has cX8_has 2 (some .boolean) :: wA) ({ frames := 1, cells := 0, slots := 0, locals := 40 }) (va_Pc [.ref (g 2), .int p0] (PX dC dI g c adK adV v F rc sz)) (va_Qi (fun (r : Int32) (u : Unit) => (r.toInt = 1 ∧ 0 ≤ p0.toInt ∧ p0.toInt < (v 40).toInt) ∨ (r.toInt = 0 ∧ (p0.toInt < 0 ∨ (v 40).toInt ≤ p0.toInt))) (fun (_ : Unit) => BX dC dI g c (v, F, rc)) (AX g sz)) 0 0 (AX g sz) := by
  refine Met.ofW (cc := cX8_has) (maxL := 2) (ret := (some .boolean)) (by decide) rfl ?_
  intro p e s m args below meth c0 s₁ B hml hv
  obtain ⟨rfl, hsz, hP, hK, hE⟩ := hv
  have hx := B.exec
  have hb := B.bytes
  have hr := B.returns
  have hts := atoms_spec (ws := Cond.code yX8_has cX8_has 2 (some .boolean) :: wA) B.pre
  have hwd : ∀ w ∈ wA, w.before _ s = true := fun w h => hts w (List.mem_cons_of_mem _ h)
  have hown : s.vm.findClass RX8 = some m.cls := findClass_of_methodNamed B.named
  have hlocks := B.notSynchronized
  subst hsz
  have hl := lv_entry ([.ref (g 2), .int p0]) (n := 2) (Nat.le_of_ble_eq_true rfl)
  rw [lg_entry_eq]
  generalize (lg_sl ([.ref (g 2), .int p0]) ++ List.replicate (2 - (lg_sl ([.ref (g 2), .int p0])).length) Slot.unset).toArray = ls at hl ⊢
  have hl : lv_has ls 2 [(0, .ref (g 2)), (1, .int p0)] := hl
  obtain ⟨H, eH⟩ : ∃ z, z = s.heap := ⟨_, rfl⟩
  have hP : va_P (dC, dI) classes (wX g c v F rc) H := by rw [eH]; exact hP
  have hS : va_S (AX g s.heap.size) s.heap H [] := by rw [eH]; exact va_S.rf
  refine my_heap eH ?_
  have rp0 := i32_rng p0
  refine lv_iload_n hx hb dX8_has_0 rfl (lv_at hl 1 rfl) ?_
  refine lv_if_lt (tgt := 16) hx hb dX8_has_1 (by decide) (fun c4273 => ?_) (fun c4273 => ?_)
  · skip
    have t4274 := cv_lt (a := p0.toInt) rfl (b := 0) (by decide) c4273
    refine lv_iconst (v := 0) hx hb dX8_has_16 (by decide) ?_
    have hP9 : va_P (dC, dI) classes (wX g c v F rc) H := hP
    exact W.zret (v := 0) hx hb hr (rfl) (fun t ht hW => ⟨⟨0, (), rfl, by have : (0 : Int32).toInt = 0 := (by decide); omega, (by show va_P _ _ _ t.heap; rw [ht]; exact hP9)⟩, hS.F ht⟩) hS.2.2 dX8_has_17
  · skip
    have t4275 := cv_nlt (a := p0.toInt) rfl (b := 0) (by decide) c4273
    refine lv_iload_n hx hb dX8_has_4 rfl (lv_at hl 1 rfl) ?_
    refine lv_aload_n hx hb dX8_has_5 rfl (lv_at hl 0 rfl) ?_
    refine va_get (D := (dC, dI)) (ci := 8) (v := .int (v 40)) (C := RX8) (T := TX8) (N := 10) hx hb hwd inA_X8 hown hK hP 2 rfl rfl 0 (by decide) (hwd _ wk_263) (fun _ h9 => h9) rfl dX8_has_6 ?_
    have t4276 : 0 ≤ (v 40).toInt ∧ (v 40).toInt ≤ 10 := hI.1 40 _ _ rfl
    refine lv_icmp_ge (tgt := 16) hx hb dX8_has_9 (by decide) (fun c4277 => ?_) (fun c4277 => ?_)
    · skip
      have t4278 := cv_le (a := (v 40).toInt) rfl (b := p0.toInt) rfl c4277
      refine lv_iconst (v := 0) hx hb dX8_has_16 (by decide) ?_
      have hP9 : va_P (dC, dI) classes (wX g c v F rc) H := hP
      exact W.zret (v := 0) hx hb hr (rfl) (fun t ht hW => ⟨⟨0, (), rfl, by have : (0 : Int32).toInt = 0 := (by decide); omega, (by show va_P _ _ _ t.heap; rw [ht]; exact hP9)⟩, hS.F ht⟩) hS.2.2 dX8_has_17
    · skip
      have t4279 := cv_nle (a := (v 40).toInt) rfl (b := p0.toInt) rfl c4277
      refine lv_iconst (v := 1) hx hb dX8_has_12 (by decide) ?_
      refine lv_goto (tgt := 17) hx hb dX8_has_13 (by decide) ?_
      have hP9 : va_P (dC, dI) classes (wX g c v F rc) H := hP
      exact W.zret (v := 1) hx hb hr (rfl) (fun t ht hW => ⟨⟨1, (), rfl, by have : (1 : Int32).toInt = 1 := (by decide); omega, (by show va_P _ _ _ t.heap; rw [ht]; exact hP9)⟩, hS.F ht⟩) hS.2.2 dX8_has_17
set_option maxHeartbeats 8000000 in
set_option maxRecDepth 100000 in
theorem c_X11_order_x (l : Launch) (dC : Nat → ClassId) (dI : Nat → Nat → Nat) (g : Nat → Nat) (c : Nat → ClassId) (adK adV : Nat → Nat) (v : Nat → Int32) (F : Nat → Nat → Int32) (rc sz : Nat) (p0 : Int32) (p1 : Int32) (hg : injX g) (hI : IX v F) : Met l yX11_order (Cond.code yX11_order cX11_order 3 (some .int) :: wA) ({ frames := 3, cells := 0, slots := 0, locals := 120 }) (va_Pc [.ref (g 0), .int p0, .int p1] (PX dC dI g c adK adV v F rc sz)) (va_Qi (fun (r : Int32) (u : StX) => IX u.1 u.2.1 ∧ ((¬ ((0 ≤ p0.toInt ∧ p0.toInt < (v 20).toInt) ∧ (0 ≤ p1.toInt ∧ p1.toInt ≤ 9999)) ∧ r.toInt = -1 ∧ alX u.1 u.2.1 = alX v F) ∨ (((0 ≤ p0.toInt ∧ p0.toInt < (v 20).toInt) ∧ (0 ≤ p1.toInt ∧ p1.toInt ≤ 9999)) ∧ ((20 ≤ (v 161).toInt ∧ r.toInt = -3 ∧ alX u.1 u.2.1 = alX v F) ∨ ((v 161).toInt < 20 ∧ r = v 161 ∧ alX u.1 u.2.1 = alXS3 (alX v F) (v 161 + 1))))) ∧ u.2.2 = rc ∧ (∀ k, k ∉ ([161] : List Nat) → u.1 k = v k) ∧ True) (BX dC dI g c) (AX g sz)) 0 0 (AX g sz) := by
  refine Met.ofW (cc := cX11_order) (maxL := 3) (ret := (some .int)) (by decide) rfl ?_
  intro p e s m args below meth c0 s₁ B hml hv
  obtain ⟨rfl, hsz, hP, hK, hE⟩ := hv
  have hx := B.exec
  have hb := B.bytes
  have hr := B.returns
  have hts := atoms_spec (ws := Cond.code yX11_order cX11_order 3 (some .int) :: wA) B.pre
  have hwd : ∀ w ∈ wA, w.before _ s = true := fun w h => hts w (List.mem_cons_of_mem _ h)
  have hown : s.vm.findClass RX11 = some m.cls := findClass_of_methodNamed B.named
  have hlocks := B.notSynchronized
  subst hsz
  have hl := lv_entry ([.ref (g 0), .int p0, .int p1]) (n := 3) (Nat.le_of_ble_eq_true rfl)
  rw [lg_entry_eq]
  generalize (lg_sl ([.ref (g 0), .int p0, .int p1]) ++ List.replicate (3 - (lg_sl ([.ref (g 0), .int p0, .int p1])).length) Slot.unset).toArray = ls at hl ⊢
  have hl : lv_has ls 3 [(0, .ref (g 0)), (1, .int p0), (2, .int p1)] := hl
  obtain ⟨H, eH⟩ : ∃ z, z = s.heap := ⟨_, rfl⟩
  have hP : va_P (dC, dI) classes (wX g c v F rc) H := by rw [eH]; exact hP
  have hS : va_S (AX g s.heap.size) s.heap H [] := by rw [eH]; exact va_S.rf
  refine my_heap eH ?_
  have hal : alX v F = alX v F := rfl
  have rp0 := i32_rng p0
  have rp1 := i32_rng p1
  have hbs : 0 ≤ (v 20).toInt ∧ (v 20).toInt ≤ 10 := hI.1 20 _ _ rfl
  refine lv_aload_n hx hb dX11_order_0 rfl (lv_at hl 0 rfl) ?_
  refine va_get (D := (dC, dI)) (ci := 11) (v := .ref (g 1)) (C := RX11) (T := TX11) (N := 14) hx hb hwd inA_X11 hown hK hP 0 rfl rfl 0 (by decide) (hwd _ wk_15) (fun _ h9 => h9) rfl dX11_order_1 ?_
  refine lv_iload_n hx hb dX11_order_4 rfl (lv_at hl 1 rfl) ?_
  refine va_calli (va_runV (As := [.int p0]) (rest := []) ⟨hx, hb, hml, hown, hwd⟩ (c_X2_has_x l dC dI g c adK adV v F rc H.size p0 hg hI ) (cwV 1 hwd (gV wk_280 wk_277 wk_278 wk_279 wk_14) rfl rfl rfl (by decide +kernel) ⟨Nat.le_of_ble_eq_true rfl, Nat.le_of_ble_eq_true rfl⟩) ⟨PX.blind, va_recv hK hP (ci := 2) (q0 := 1) rfl rfl, fun U hU hW => ⟨rfl, PX.at hK hE hP hS hU hW⟩⟩ rfl rfl hl.1 rfl (lv_room (Nat.le_of_ble_eq_true rfl)) dX11_order_5 ⟨Nat.le_of_ble_eq_true rfl, Nat.le_of_ble_eq_true rfl⟩) hS (fun q _ h => (freeX hS) q h) (freeX hS) (fun r4280 u t H1 locs ht hvm hw hB hz1 hk1 hS => ?_)
  unfold BX at hB
  rw [ht] at hB
  have hP : va_P (dC, dI) classes (wX g c v F rc) H1 := hB
  have hw : (r4280.toInt = 1 ∧ 0 ≤ p0.toInt ∧ p0.toInt < (v 20).toInt) ∨ (r4280.toInt = 0 ∧ (p0.toInt < 0 ∨ (v 20).toInt ≤ p0.toInt)) := hw
  generalize H1 = H at hP hS ⊢
  have hw_r4280 := hw
  refine lv_if_eq (tgt := 18) hx hb dX11_order_8 (by decide) (fun c4281 => ?_) (fun c4281 => ?_)
  · skip
    have t4282 := cv_eq (a := r4280.toInt) rfl (b := 0) (by decide) c4281
    refine lv_iconst (v := (-1)) hx hb dX11_order_18 (by decide) ?_
    have hP9 : va_P (dC, dI) classes (wX g c v F rc) H := hP
    exact W.iret (v := (-1)) hx hb hr (fun t ht hW => ⟨⟨(-1), (v, F, rc), rfl, ⟨hI, (Or.inl ⟨by omega, by decide, hal⟩), rfl, (fun _ _ => rfl), trivial⟩, (by show va_P _ _ _ t.heap; rw [ht]; exact hP9)⟩, hS.F ht⟩) hS.2.2 dX11_order_19
  · skip
    have t4283 := cv_ne (a := r4280.toInt) rfl (b := 0) (by decide) c4281
    refine lv_iload_n hx hb dX11_order_11 rfl (lv_at hl 2 rfl) ?_
    refine va_calli (va_runS (As := [.int p1]) (rest := []) ⟨hx, hb, hml, hown, hwd⟩ (c_X11_isDay l dC dI g c adK adV v F rc H.size p1 hg hI ) (va_cwS 1 hwd (gT wk_549 wk_547 wk_548 wk_2) rfl rfl rfl (by decide +kernel) ⟨Nat.le_of_ble_eq_true rfl, Nat.le_of_ble_eq_true rfl⟩) ⟨PX.blind, fun U hU hW => ⟨rfl, PX.at hK hE hP hS hU hW⟩⟩ rfl rfl hl.1 rfl (lv_room (Nat.le_of_ble_eq_true rfl)) dX11_order_12 ⟨Nat.le_of_ble_eq_true rfl, Nat.le_of_ble_eq_true rfl⟩) hS (fun q _ h => (freeX hS) q h) (freeX hS) (fun r4284 u t H1 locs ht hvm hw hB hz1 hk1 hS => ?_)
    unfold BX at hB
    rw [ht] at hB
    have hP : va_P (dC, dI) classes (wX g c v F rc) H1 := hB
    have hw : (r4284.toInt = 1 ∧ 0 ≤ p1.toInt ∧ p1.toInt ≤ 9999) ∨ (r4284.toInt = 0 ∧ (p1.toInt < 0 ∨ 9999 < p1.toInt)) := hw
    generalize H1 = H at hP hS ⊢
    have hw_r4284 := hw
    refine lv_if_ne (tgt := 20) hx hb dX11_order_15 (by decide) (fun c4285 => ?_) (fun c4285 => ?_)
    · skip
      have t4286 := cv_ne (a := r4284.toInt) rfl (b := 0) (by decide) c4285
      refine lv_aload_n hx hb dX11_order_20 rfl (lv_at hl 0 rfl) ?_
      refine va_get (D := (dC, dI)) (ci := 11) (v := .ref (g 8)) (C := RX11) (T := TX11) (N := 14) hx hb hwd inA_X11 hown hK hP 0 rfl rfl 7 (by decide) (hwd _ wk_43) (fun _ h9 => h9) rfl dX11_order_21 ?_
      refine lv_iload_n hx hb dX11_order_24 rfl (lv_at hl 1 rfl) ?_
      refine lv_iload_n hx hb dX11_order_25 rfl (lv_at hl 2 rfl) ?_
      refine va_calli (va_runV (As := [.int p0, .int p1]) (rest := []) ⟨hx, hb, hml, hown, hwd⟩ (c_X6_add l dC dI g c adK adV v F rc H.size p0 p1 hg hI (by omega)) (cwV 2 hwd (gV wk_1064 wk_1061 wk_1062 wk_1063 wk_42) rfl rfl rfl (by decide +kernel) ⟨Nat.le_of_ble_eq_true rfl, Nat.le_of_ble_eq_true rfl⟩) ⟨PX.blind, va_recv hK hP (ci := 6) (q0 := 8) rfl rfl, fun U hU hW => ⟨rfl, PX.at hK hE hP hS hU hW⟩⟩ rfl rfl hl.1 rfl (lv_room (Nat.le_of_ble_eq_true rfl)) dX11_order_26 ⟨Nat.le_of_ble_eq_true rfl, Nat.le_of_ble_eq_true rfl⟩) hS (fun q _ h => (freeX hS) q h) (freeX hS) (fun r4287 u t H1 locs ht hvm hw hB hz1 hk1 hS => ?_)
      unfold BX at hB
      rw [ht] at hB
      obtain ⟨v4288, F4289, rc9⟩ := u
      obtain ⟨hI, hal9, hrc, hf4290, hw⟩ := hw
      dsimp only at hI hal9 hrc hB hf4290 hw
      rw [hrc] at hB
      have hq4291 := hal9
      have hP : va_P (dC, dI) classes (wX g c v4288 F4289 rc) H1 := hB
      generalize H1 = H at hP hS ⊢
      have rr_r4287 := i32_rng r4287
      have hP9 : va_P (dC, dI) classes (wX g c v4288 F4289 rc) H := hP
      exact W.iret (v := r4287) hx hb hr (fun t ht hW => ⟨⟨r4287, (v4288, F4289, rc), rfl, ⟨hI, (Or.inr ⟨by omega, hq4291⟩), rfl, (frC (by decide) hf4290 (fun _ _ => rfl)), trivial⟩, (by show va_P _ _ _ t.heap; rw [ht]; exact hP9)⟩, hS.F ht⟩) hS.2.2 dX11_order_29
    · skip
      have t4292 := cv_eq (a := r4284.toInt) rfl (b := 0) (by decide) c4285
      refine lv_iconst (v := (-1)) hx hb dX11_order_18 (by decide) ?_
      have hP9 : va_P (dC, dI) classes (wX g c v F rc) H := hP
      exact W.iret (v := (-1)) hx hb hr (fun t ht hW => ⟨⟨(-1), (v, F, rc), rfl, ⟨hI, (Or.inl ⟨by omega, by decide, hal⟩), rfl, (fun _ _ => rfl), trivial⟩, (by show va_P _ _ _ t.heap; rw [ht]; exact hP9)⟩, hS.F ht⟩) hS.2.2 dX11_order_19
set_option maxHeartbeats 8000000 in
set_option maxRecDepth 100000 in
theorem c_X8_addLink_x (l : Launch) (dC : Nat → ClassId) (dI : Nat → Nat → Nat) (g : Nat → Nat) (c : Nat → ClassId) (adK adV : Nat → Nat) (v : Nat → Int32) (F : Nat → Nat → Int32) (rc sz : Nat) (p0 : Int32) (p1 : Int32) (hg : injX g) (hI : IX v F) (h0 : 0 ≤ p0.toInt ∧ p0.toInt ≤ 9) : Met l yX8_addLink (Cond.code yX8_addLink cX8_addLink 3 (some .int) :: wA) ({ frames := 1, cells := 0, slots := 0, locals := 40 }) (va_Pc [.ref (g 2), .int p0, .int p1] (PX dC dI g c adK adV v F rc sz)) (va_Qi (fun (r : Int32) (u : StX) => IX u.1 u.2.1 ∧ ((4 ≤ (F 20 p0.toNatClampNeg).toInt ∧ r.toInt = -3 ∧ alX u.1 u.2.1 = alX v F) ∨ ((F 20 p0.toNatClampNeg).toInt < 4 ∧ r.toInt = (F 20 p0.toNatClampNeg).toInt + 1 ∧ exL (fun (j : Nat) (x : Int32) => (j : Int) = 4 * p0.toInt + (F 20 p0.toNatClampNeg).toInt ∧ x.toInt = (F 20 p0.toNatClampNeg).toInt + 1 ∧ alX u.1 u.2.1 = alXS4 (alXS5 (alX v F) (upd (F 21) j p1)) (upd (F 20) p0.toNatClampNeg x)))) ∧ u.2.2 = rc ∧ (∀ k, k ∉ ([] : List Nat) → u.1 k = v k) ∧ True) (BX dC dI g c) (AX g sz)) 0 0 (AX g sz) := by
  refine Met.ofW (cc := cX8_addLink) (maxL := 3) (ret := (some .int)) (by decide) rfl ?_
  intro p e s m args below meth c0 s₁ B hml hv
  obtain ⟨rfl, hsz, hP, hK, hE⟩ := hv
  have hx := B.exec
  have hb := B.bytes
  have hr := B.returns
  have hts := atoms_spec (ws := Cond.code yX8_addLink cX8_addLink 3 (some .int) :: wA) B.pre
  have hwd : ∀ w ∈ wA, w.before _ s = true := fun w h => hts w (List.mem_cons_of_mem _ h)
  have hown : s.vm.findClass RX8 = some m.cls := findClass_of_methodNamed B.named
  have hlocks := B.notSynchronized
  subst hsz
  have hl := lv_entry ([.ref (g 2), .int p0, .int p1]) (n := 3) (Nat.le_of_ble_eq_true rfl)
  rw [lg_entry_eq]
  generalize (lg_sl ([.ref (g 2), .int p0, .int p1]) ++ List.replicate (3 - (lg_sl ([.ref (g 2), .int p0, .int p1])).length) Slot.unset).toArray = ls at hl ⊢
  have hl : lv_has ls 3 [(0, .ref (g 2)), (1, .int p0), (2, .int p1)] := hl
  obtain ⟨H, eH⟩ : ∃ z, z = s.heap := ⟨_, rfl⟩
  have hP : va_P (dC, dI) classes (wX g c v F rc) H := by rw [eH]; exact hP
  have hS : va_S (AX g s.heap.size) s.heap H [] := by rw [eH]; exact va_S.rf
  refine my_heap eH ?_
  have hal : alX v F = alX v F := rfl
  have rp0 := i32_rng p0
  have rp1 := i32_rng p1
  refine lv_aload_n hx hb dX8_addLink_0 rfl (lv_at hl 0 rfl) ?_
  refine va_get (D := (dC, dI)) (ci := 8) (v := .ref (g 20)) (C := RX8) (T := TX8) (N := 10) hx hb hwd inA_X8 hown hK hP 2 rfl rfl 6 (by decide) (hwd _ wk_73) (fun _ h9 => h9) rfl dX8_addLink_1 ?_
  refine lv_iload_n hx hb dX8_addLink_4 rfl (lv_at hl 1 rfl) ?_
  refine va_iald hx hb hK hP 20 8 rfl rfl (i := p0) (vin (a := p0.toInt) rfl (by omega)) dX8_addLink_5 ?_
  refine lv_topi (fun z4293 e4294 => ?_)
  have t4295 : 0 ≤ z4293.toInt ∧ z4293.toInt ≤ 4 := by rw [e4294]; exact hI.2 20 _ _ rfl _
  refine lv_iconst (v := 4) hx hb dX8_addLink_6 (by decide) ?_
  refine lv_icmp_lt (tgt := 13) hx hb dX8_addLink_7 (by decide) (fun c4296 => ?_) (fun c4296 => ?_)
  · skip
    have t4297 := cv_lt (a := z4293.toInt) rfl (b := 4) (by decide) c4296
    refine lv_aload_n hx hb dX8_addLink_13 rfl (lv_at hl 0 rfl) ?_
    refine va_get (D := (dC, dI)) (ci := 8) (v := .ref (g 21)) (C := RX8) (T := TX8) (N := 10) hx hb hwd inA_X8 hown hK hP 2 rfl rfl 7 (by decide) (hwd _ wk_74) (fun _ h9 => h9) rfl dX8_addLink_14 ?_
    refine lv_iload_n hx hb dX8_addLink_17 rfl (lv_at hl 1 rfl) ?_
    refine lv_iconst (v := 4) hx hb dX8_addLink_18 (by decide) ?_
    refine lv_imul hx hb dX8_addLink_19 ?_
    refine lv_topi (fun z4298 e4299 => ?_)
    try (have t4300 := tmul e4299 (a := p0.toInt) rfl (b := 4) (by decide) (by omega))
    refine lv_aload_n hx hb dX8_addLink_20 rfl (lv_at hl 0 rfl) ?_
    refine va_get (D := (dC, dI)) (ci := 8) (v := .ref (g 20)) (C := RX8) (T := TX8) (N := 10) hx hb hwd inA_X8 hown hK hP 2 rfl rfl 6 (by decide) (hwd _ wk_73) (fun _ h9 => h9) rfl dX8_addLink_21 ?_
    refine lv_iload_n hx hb dX8_addLink_24 rfl (lv_at hl 1 rfl) ?_
    refine va_iald hx hb hK hP 20 8 rfl rfl (i := p0) (vin (a := p0.toInt) rfl (by omega)) dX8_addLink_25 ?_
    refine lv_topi (fun z4301 e4302 => ?_)
    have t4303 := congrArg Int32.toInt ((show z4301 = F 20 (p0 : Int32).toNatClampNeg from e4302).trans (show z4293 = F 20 (p0 : Int32).toNatClampNeg from e4294).symm)
    have t4304 : 0 ≤ z4301.toInt ∧ z4301.toInt ≤ 4 := by rw [e4302]; exact hI.2 20 _ _ rfl _
    refine lv_iadd hx hb dX8_addLink_26 ?_
    refine lv_topi (fun z4305 e4306 => ?_)
    try (have t4307 := tadd e4306 (a := z4298.toInt) rfl (b := z4301.toInt) rfl (by omega))
    refine lv_iload_n hx hb dX8_addLink_27 rfl (lv_at hl 2 rfl) ?_
    refine va_iast hx hb hK hP (DX hg) hS 21 9 rfl rfl (i := z4305) (x := p1) (vin (a := z4305.toInt) rfl (by omega)) dX8_addLink_28 (fun H locs hP _ hS => ?_)
    have hP := va_P_eq (sX_21 g c _ _ _ _) hP
    have hI := IX.store0 hI 21 (z4305 : Int32).toNatClampNeg p1 rfl
    have hal := (alX_s5 _ _ (upd (F 21) (z4305 : Int32).toNatClampNeg p1)).trans (congrArg (fun t => alXS5 t (upd (F 21) (z4305 : Int32).toNatClampNeg p1)) hal)
    have hP : va_P (dC, dI) classes (wX g c v (va_up F 21 (upd (F 21) (z4305 : Int32).toNatClampNeg p1)) rc) H := hP
    refine lv_aload_n hx hb dX8_addLink_29 rfl (lv_at hl 0 rfl) ?_
    refine va_get (D := (dC, dI)) (ci := 8) (v := .ref (g 20)) (C := RX8) (T := TX8) (N := 10) hx hb hwd inA_X8 hown hK hP 2 rfl rfl 6 (by decide) (hwd _ wk_73) (fun _ h9 => h9) rfl dX8_addLink_30 ?_
    refine lv_iload_n hx hb dX8_addLink_33 rfl (lv_at hl 1 rfl) ?_
    refine lv_dup2_11 hx hb dX8_addLink_34 rfl rfl ?_
    refine va_iald hx hb hK hP 20 8 rfl rfl (i := p0) (vin (a := p0.toInt) rfl (by omega)) dX8_addLink_35 ?_
    refine lv_topi (fun z4308 e4309 => ?_)
    have t4310 := congrArg Int32.toInt ((show z4308 = F 20 (p0 : Int32).toNatClampNeg from e4309).trans (show z4293 = F 20 (p0 : Int32).toNatClampNeg from e4294).symm)
    have t4311 : 0 ≤ z4308.toInt ∧ z4308.toInt ≤ 4 := by rw [e4309]; exact hI.2 20 _ _ rfl _
    refine lv_iconst (v := 1) hx hb dX8_addLink_36 (by decide) ?_
    refine lv_iadd hx hb dX8_addLink_37 ?_
    refine lv_topi (fun z4312 e4313 => ?_)
    try (have t4314 := tadd e4313 (a := z4308.toInt) rfl (b := 1) (by decide) (by omega))
    refine va_iast hx hb hK hP (DX hg) hS 20 8 rfl rfl (i := p0) (x := z4312) (vin (a := p0.toInt) rfl (by omega)) dX8_addLink_38 (fun H locs hP _ hS => ?_)
    have hP := va_P_eq (sX_20 g c _ _ _ _) hP
    have hI := IX.store hI 20 (p0 : Int32).toNatClampNeg z4312 rfl (by omega)
    have hal := (alX_s4 _ _ (upd ((va_up F 21 (upd (F 21) (z4305 : Int32).toNatClampNeg p1)) 20) (p0 : Int32).toNatClampNeg z4312)).trans (congrArg (fun t => alXS4 t (upd ((va_up F 21 (upd (F 21) (z4305 : Int32).toNatClampNeg p1)) 20) (p0 : Int32).toNatClampNeg z4312)) hal)
    have hP : va_P (dC, dI) classes (wX g c v (va_up (va_up F 21 (upd (F 21) (z4305 : Int32).toNatClampNeg p1)) 20 (upd ((va_up F 21 (upd (F 21) (z4305 : Int32).toNatClampNeg p1)) 20) (p0 : Int32).toNatClampNeg z4312)) rc) H := hP
    refine lv_aload_n hx hb dX8_addLink_39 rfl (lv_at hl 0 rfl) ?_
    refine va_get (D := (dC, dI)) (ci := 8) (v := .ref (g 20)) (C := RX8) (T := TX8) (N := 10) hx hb hwd inA_X8 hown hK hP 2 rfl rfl 6 (by decide) (hwd _ wk_73) (fun _ h9 => h9) rfl dX8_addLink_40 ?_
    refine lv_iload_n hx hb dX8_addLink_43 rfl (lv_at hl 1 rfl) ?_
    refine va_iald hx hb hK hP 20 8 rfl rfl (i := p0) (vin (a := p0.toInt) rfl (by omega)) dX8_addLink_44 ?_
    refine lv_topi (fun z4315 e4316 => ?_)
    have t4317 : 0 ≤ z4315.toInt ∧ z4315.toInt ≤ 4 := by rw [e4316]; exact hI.2 20 _ _ rfl _
    have hP9 : va_P (dC, dI) classes (wX g c v (va_up (va_up F 21 (upd (F 21) (z4305 : Int32).toNatClampNeg p1)) 20 (upd ((va_up F 21 (upd (F 21) (z4305 : Int32).toNatClampNeg p1)) 20) (p0 : Int32).toNatClampNeg z4312)) rc) H := hP
    exact W.iret (v := z4315) hx hb hr (fun t ht hW => ⟨⟨z4315, (v, (va_up (va_up F 21 (upd (F 21) (z4305 : Int32).toNatClampNeg p1)) 20 (upd ((va_up F 21 (upd (F 21) (z4305 : Int32).toNatClampNeg p1)) 20) (p0 : Int32).toNatClampNeg z4312)), rc), rfl, ⟨hI, (Or.inr ⟨by have a1 : z4293.toInt = (F 20 p0.toNatClampNeg).toInt := congrArg Int32.toInt e4294; omega, by have a1 : z4293.toInt = (F 20 p0.toNatClampNeg).toInt := congrArg Int32.toInt e4294; have a3 : z4308.toInt = (F 20 p0.toNatClampNeg).toInt := congrArg Int32.toInt (e4309.trans (show _ = F 20 _ from rfl)); have a4 : z4315 = z4312 := e4316.trans (by simp [va_up, upd]); rw [a4]; omega, z4305.toNatClampNeg, z4312, by have a1 : z4293.toInt = (F 20 p0.toNatClampNeg).toInt := congrArg Int32.toInt e4294; have a2 : z4301.toInt = (F 20 p0.toNatClampNeg).toInt := congrArg Int32.toInt e4302; have a9 : ((z4305.toNatClampNeg : Nat) : Int) = z4305.toInt := (by show ((z4305.toInt.toNat : Nat) : Int) = _; omega); omega, by have a1 : z4293.toInt = (F 20 p0.toNatClampNeg).toInt := congrArg Int32.toInt e4294; have a3 : z4308.toInt = (F 20 p0.toNatClampNeg).toInt := congrArg Int32.toInt (e4309.trans (show _ = F 20 _ from rfl)); omega, hal⟩), rfl, (fun _ _ => rfl), trivial⟩, (by show va_P _ _ _ t.heap; rw [ht]; exact hP9)⟩, hS.F ht⟩) hS.2.2 dX8_addLink_45
  · skip
    have t4318 := cv_nlt (a := z4293.toInt) rfl (b := 4) (by decide) c4296
    refine lv_bipush (v := (-3)) hx hb dX8_addLink_10 (by decide) ?_
    have hP9 : va_P (dC, dI) classes (wX g c v F rc) H := hP
    exact W.iret (v := (-3)) hx hb hr (fun t ht hW => ⟨⟨(-3), (v, F, rc), rfl, ⟨hI, (Or.inl ⟨by have a1 : z4293.toInt = (F 20 p0.toNatClampNeg).toInt := congrArg Int32.toInt e4294; omega, by decide, hal⟩), rfl, (fun _ _ => rfl), trivial⟩, (by show va_P _ _ _ t.heap; rw [ht]; exact hP9)⟩, hS.F ht⟩) hS.2.2 dX8_addLink_12
set_option maxHeartbeats 8000000 in
set_option maxRecDepth 100000 in
theorem c_X11_link_x (l : Launch) (dC : Nat → ClassId) (dI : Nat → Nat → Nat) (g : Nat → Nat) (c : Nat → ClassId) (adK adV : Nat → Nat) (v : Nat → Int32) (F : Nat → Nat → Int32) (rc sz : Nat) (p0 : Int32) (p1 : Int32) (p2 : Int32) (hg : injX g) (hI : IX v F) : Met l yX11_link (Cond.code yX11_link cX11_link 4 (some .int) :: wA) ({ frames := 3, cells := 0, slots := 0, locals := 120 }) (va_Pc [.ref (g 0), .int p0, .int p1, .int p2] (PX dC dI g c adK adV v F rc sz)) (va_Qi (fun (r : Int32) (u : StX) => IX u.1 u.2.1 ∧ ((¬ ((0 ≤ p0.toInt ∧ p0.toInt < (v 40).toInt) ∧ (0 ≤ p1.toInt ∧ p1.toInt ≤ 9) ∧ (0 ≤ p2.toInt ∧ p2.toInt ≤ 99999)) ∧ r.toInt = -1 ∧ alX u.1 u.2.1 = alX v F) ∨ (((0 ≤ p0.toInt ∧ p0.toInt < (v 40).toInt) ∧ (0 ≤ p1.toInt ∧ p1.toInt ≤ 9) ∧ (0 ≤ p2.toInt ∧ p2.toInt ≤ 99999)) ∧ ((4 ≤ (F 20 p0.toNatClampNeg).toInt ∧ r.toInt = -3 ∧ alX u.1 u.2.1 = alX v F) ∨ ((F 20 p0.toNatClampNeg).toInt < 4 ∧ r.toInt = (F 20 p0.toNatClampNeg).toInt + 1 ∧ exL (fun (j : Nat) (x : Int32) => (j : Int) = 4 * p0.toInt + (F 20 p0.toNatClampNeg).toInt ∧ x.toInt = (F 20 p0.toNatClampNeg).toInt + 1 ∧ alX u.1 u.2.1 = alXS4 (alXS5 (alX v F) (upd (F 21) j p2)) (upd (F 20) p0.toNatClampNeg x)))))) ∧ u.2.2 = rc ∧ (∀ k, k ∉ ([] : List Nat) → u.1 k = v k) ∧ True) (BX dC dI g c) (AX g sz)) 0 0 (AX g sz) := by
  refine Met.ofW (cc := cX11_link) (maxL := 4) (ret := (some .int)) (by decide) rfl ?_
  intro p e s m args below meth c0 s₁ B hml hv
  obtain ⟨rfl, hsz, hP, hK, hE⟩ := hv
  have hx := B.exec
  have hb := B.bytes
  have hr := B.returns
  have hts := atoms_spec (ws := Cond.code yX11_link cX11_link 4 (some .int) :: wA) B.pre
  have hwd : ∀ w ∈ wA, w.before _ s = true := fun w h => hts w (List.mem_cons_of_mem _ h)
  have hown : s.vm.findClass RX11 = some m.cls := findClass_of_methodNamed B.named
  have hlocks := B.notSynchronized
  subst hsz
  have hl := lv_entry ([.ref (g 0), .int p0, .int p1, .int p2]) (n := 4) (Nat.le_of_ble_eq_true rfl)
  rw [lg_entry_eq]
  generalize (lg_sl ([.ref (g 0), .int p0, .int p1, .int p2]) ++ List.replicate (4 - (lg_sl ([.ref (g 0), .int p0, .int p1, .int p2])).length) Slot.unset).toArray = ls at hl ⊢
  have hl : lv_has ls 4 [(0, .ref (g 0)), (1, .int p0), (2, .int p1), (3, .int p2)] := hl
  obtain ⟨H, eH⟩ : ∃ z, z = s.heap := ⟨_, rfl⟩
  have hP : va_P (dC, dI) classes (wX g c v F rc) H := by rw [eH]; exact hP
  have hS : va_S (AX g s.heap.size) s.heap H [] := by rw [eH]; exact va_S.rf
  refine my_heap eH ?_
  have hal : alX v F = alX v F := rfl
  have rp0 := i32_rng p0
  have rp1 := i32_rng p1
  have rp2 := i32_rng p2
  have hbs : 0 ≤ (v 40).toInt ∧ (v 40).toInt ≤ 10 := hI.1 40 _ _ rfl
  refine lv_aload_n hx hb dX11_link_0 rfl (lv_at hl 0 rfl) ?_
  refine va_get (D := (dC, dI)) (ci := 11) (v := .ref (g 2)) (C := RX11) (T := TX11) (N := 14) hx hb hwd inA_X11 hown hK hP 0 rfl rfl 1 (by decide) (hwd _ wk_19) (fun _ h9 => h9) rfl dX11_link_1 ?_
  refine lv_iload_n hx hb dX11_link_4 rfl (lv_at hl 1 rfl) ?_
  refine va_calli (va_runV (As := [.int p0]) (rest := []) ⟨hx, hb, hml, hown, hwd⟩ (c_X8_has_x l dC dI g c adK adV v F rc H.size p0 hg hI ) (cwV 1 hwd (gV wk_276 wk_273 wk_274 wk_275 wk_18) rfl rfl rfl (by decide +kernel) ⟨Nat.le_of_ble_eq_true rfl, Nat.le_of_ble_eq_true rfl⟩) ⟨PX.blind, va_recv hK hP (ci := 8) (q0 := 2) rfl rfl, fun U hU hW => ⟨rfl, PX.at hK hE hP hS hU hW⟩⟩ rfl rfl hl.1 rfl (lv_room (Nat.le_of_ble_eq_true rfl)) dX11_link_5 ⟨Nat.le_of_ble_eq_true rfl, Nat.le_of_ble_eq_true rfl⟩) hS (fun q _ h => (freeX hS) q h) (freeX hS) (fun r4319 u t H1 locs ht hvm hw hB hz1 hk1 hS => ?_)
  unfold BX at hB
  rw [ht] at hB
  have hP : va_P (dC, dI) classes (wX g c v F rc) H1 := hB
  have hw : (r4319.toInt = 1 ∧ 0 ≤ p0.toInt ∧ p0.toInt < (v 40).toInt) ∨ (r4319.toInt = 0 ∧ (p0.toInt < 0 ∨ (v 40).toInt ≤ p0.toInt)) := hw
  generalize H1 = H at hP hS ⊢
  have hw_r4319 := hw
  refine lv_if_eq (tgt := 28) hx hb dX11_link_8 (by decide) (fun c4320 => ?_) (fun c4320 => ?_)
  · skip
    have t4321 := cv_eq (a := r4319.toInt) rfl (b := 0) (by decide) c4320
    refine lv_iconst (v := (-1)) hx hb dX11_link_28 (by decide) ?_
    have hP9 : va_P (dC, dI) classes (wX g c v F rc) H := hP
    exact W.iret (v := (-1)) hx hb hr (fun t ht hW => ⟨⟨(-1), (v, F, rc), rfl, ⟨hI, (Or.inl ⟨by omega, by decide, hal⟩), rfl, (fun _ _ => rfl), trivial⟩, (by show va_P _ _ _ t.heap; rw [ht]; exact hP9)⟩, hS.F ht⟩) hS.2.2 dX11_link_29
  · skip
    have t4322 := cv_ne (a := r4319.toInt) rfl (b := 0) (by decide) c4320
    refine lv_iload_n hx hb dX11_link_11 rfl (lv_at hl 2 rfl) ?_
    refine lv_iconst (v := 0) hx hb dX11_link_12 (by decide) ?_
    refine lv_bipush (v := 9) hx hb dX11_link_13 (by decide) ?_
    refine va_calli (va_runS (As := [.int p1, .int 0, .int 9]) (rest := []) ⟨hx, hb, hml, hown, hwd⟩ (c_X11_within l dC dI g c adK adV v F rc H.size p1 0 9 hg hI ) (va_cwS 3 hwd (gT wk_239 wk_237 wk_238 wk_2) rfl rfl rfl (by decide +kernel) ⟨Nat.le_of_ble_eq_true rfl, Nat.le_of_ble_eq_true rfl⟩) ⟨PX.blind, fun U hU hW => ⟨rfl, PX.at hK hE hP hS hU hW⟩⟩ rfl rfl hl.1 rfl (lv_room (Nat.le_of_ble_eq_true rfl)) dX11_link_15 ⟨Nat.le_of_ble_eq_true rfl, Nat.le_of_ble_eq_true rfl⟩) hS (fun q _ h => (freeX hS) q h) (freeX hS) (fun r4323 u t H1 locs ht hvm hw hB hz1 hk1 hS => ?_)
    unfold BX at hB
    rw [ht] at hB
    have hP : va_P (dC, dI) classes (wX g c v F rc) H1 := hB
    have hw : (r4323.toInt = 1 ∧ (0 : Int32).toInt ≤ p1.toInt ∧ p1.toInt ≤ (9 : Int32).toInt) ∨ (r4323.toInt = 0 ∧ (p1.toInt < (0 : Int32).toInt ∨ (9 : Int32).toInt < p1.toInt)) := hw
    have k4324 : (0 : Int32).toInt = 0 := by decide
    have k4325 : (9 : Int32).toInt = 9 := by decide
    generalize H1 = H at hP hS ⊢
    have hw_r4323 := hw
    refine lv_if_eq (tgt := 28) hx hb dX11_link_18 (by decide) (fun c4326 => ?_) (fun c4326 => ?_)
    · skip
      have t4327 := cv_eq (a := r4323.toInt) rfl (b := 0) (by decide) c4326
      refine lv_iconst (v := (-1)) hx hb dX11_link_28 (by decide) ?_
      have hP9 : va_P (dC, dI) classes (wX g c v F rc) H := hP
      exact W.iret (v := (-1)) hx hb hr (fun t ht hW => ⟨⟨(-1), (v, F, rc), rfl, ⟨hI, (Or.inl ⟨by omega, by decide, hal⟩), rfl, (fun _ _ => rfl), trivial⟩, (by show va_P _ _ _ t.heap; rw [ht]; exact hP9)⟩, hS.F ht⟩) hS.2.2 dX11_link_29
    · skip
      have t4328 := cv_ne (a := r4323.toInt) rfl (b := 0) (by decide) c4326
      refine lv_iload_n hx hb dX11_link_21 rfl (lv_at hl 3 rfl) ?_
      refine va_calli (va_runS (As := [.int p2]) (rest := []) ⟨hx, hb, hml, hown, hwd⟩ (c_X11_isTold l dC dI g c adK adV v F rc H.size p2 hg hI ) (va_cwS 1 hwd (gT wk_235 wk_233 wk_234 wk_2) rfl rfl rfl (by decide +kernel) ⟨Nat.le_of_ble_eq_true rfl, Nat.le_of_ble_eq_true rfl⟩) ⟨PX.blind, fun U hU hW => ⟨rfl, PX.at hK hE hP hS hU hW⟩⟩ rfl rfl hl.1 rfl (lv_room (Nat.le_of_ble_eq_true rfl)) dX11_link_22 ⟨Nat.le_of_ble_eq_true rfl, Nat.le_of_ble_eq_true rfl⟩) hS (fun q _ h => (freeX hS) q h) (freeX hS) (fun r4329 u t H1 locs ht hvm hw hB hz1 hk1 hS => ?_)
      unfold BX at hB
      rw [ht] at hB
      have hP : va_P (dC, dI) classes (wX g c v F rc) H1 := hB
      have hw : (r4329.toInt = 1 ∧ 0 ≤ p2.toInt ∧ p2.toInt ≤ 99999) ∨ (r4329.toInt = 0 ∧ (p2.toInt < 0 ∨ 99999 < p2.toInt)) := hw
      generalize H1 = H at hP hS ⊢
      have hw_r4329 := hw
      refine lv_if_ne (tgt := 30) hx hb dX11_link_25 (by decide) (fun c4330 => ?_) (fun c4330 => ?_)
      · skip
        have t4331 := cv_ne (a := r4329.toInt) rfl (b := 0) (by decide) c4330
        refine lv_aload_n hx hb dX11_link_30 rfl (lv_at hl 0 rfl) ?_
        refine va_get (D := (dC, dI)) (ci := 11) (v := .ref (g 2)) (C := RX11) (T := TX11) (N := 14) hx hb hwd inA_X11 hown hK hP 0 rfl rfl 1 (by decide) (hwd _ wk_19) (fun _ h9 => h9) rfl dX11_link_31 ?_
        refine lv_iload_n hx hb dX11_link_34 rfl (lv_at hl 1 rfl) ?_
        refine lv_iload_n hx hb dX11_link_35 rfl (lv_at hl 3 rfl) ?_
        refine va_calli (va_runV (As := [.int p0, .int p2]) (rest := []) ⟨hx, hb, hml, hown, hwd⟩ (c_X8_addLink_x l dC dI g c adK adV v F rc H.size p0 p2 hg hI (by omega)) (cwV 2 hwd (gV wk_1399 wk_1396 wk_1397 wk_1398 wk_18) rfl rfl rfl (by decide +kernel) ⟨Nat.le_of_ble_eq_true rfl, Nat.le_of_ble_eq_true rfl⟩) ⟨PX.blind, va_recv hK hP (ci := 8) (q0 := 2) rfl rfl, fun U hU hW => ⟨rfl, PX.at hK hE hP hS hU hW⟩⟩ rfl rfl hl.1 rfl (lv_room (Nat.le_of_ble_eq_true rfl)) dX11_link_36 ⟨Nat.le_of_ble_eq_true rfl, Nat.le_of_ble_eq_true rfl⟩) hS (fun q _ h => (freeX hS) q h) (freeX hS) (fun r4332 u t H1 locs ht hvm hw hB hz1 hk1 hS => ?_)
        unfold BX at hB
        rw [ht] at hB
        obtain ⟨v4333, F4334, rc9⟩ := u
        obtain ⟨hI, hal9, hrc, hf4335, hw⟩ := hw
        dsimp only at hI hal9 hrc hB hf4335 hw
        rw [hrc] at hB
        have hq4336 := hal9
        have hP : va_P (dC, dI) classes (wX g c v4333 F4334 rc) H1 := hB
        generalize H1 = H at hP hS ⊢
        have rr_r4332 := i32_rng r4332
        have hP9 : va_P (dC, dI) classes (wX g c v4333 F4334 rc) H := hP
        exact W.iret (v := r4332) hx hb hr (fun t ht hW => ⟨⟨r4332, (v4333, F4334, rc), rfl, ⟨hI, (Or.inr ⟨by omega, hq4336⟩), rfl, (frC (by decide) hf4335 (fun _ _ => rfl)), trivial⟩, (by show va_P _ _ _ t.heap; rw [ht]; exact hP9)⟩, hS.F ht⟩) hS.2.2 dX11_link_39
      · skip
        have t4337 := cv_eq (a := r4329.toInt) rfl (b := 0) (by decide) c4330
        refine lv_iconst (v := (-1)) hx hb dX11_link_28 (by decide) ?_
        have hP9 : va_P (dC, dI) classes (wX g c v F rc) H := hP
        exact W.iret (v := (-1)) hx hb hr (fun t ht hW => ⟨⟨(-1), (v, F, rc), rfl, ⟨hI, (Or.inl ⟨by omega, by decide, hal⟩), rfl, (fun _ _ => rfl), trivial⟩, (by show va_P _ _ _ t.heap; rw [ht]; exact hP9)⟩, hS.F ht⟩) hS.2.2 dX11_link_29
set_option maxHeartbeats 8000000 in
set_option maxRecDepth 100000 in
theorem c_X8_linkRent_x (l : Launch) (dC : Nat → ClassId) (dI : Nat → Nat → Nat) (g : Nat → Nat) (c : Nat → ClassId) (adK adV : Nat → Nat) (v : Nat → Int32) (F : Nat → Nat → Int32) (rc sz : Nat) (p0 : Int32) (p1 : Int32) (hg : injX g) (hI : IX v F) (h0 : 0 ≤ p0.toInt ∧ p0.toInt ≤ 9) : Met l yX8_linkRent (Cond.code yX8_linkRent cX8_linkRent 3 (some .int) :: wA) ({ frames := 1, cells := 0, slots := 0, locals := 40 }) (va_Pc [.ref (g 2), .int p0, .int p1] (PX dC dI g c adK adV v F rc sz)) (va_Qi (fun (r : Int32) (u : Unit) => r = lrF (F 20) (F 21) p0 p1) (fun (_ : Unit) => BX dC dI g c (v, F, rc)) (AX g sz)) 0 0 (AX g sz) := by
  refine Met.ofW (cc := cX8_linkRent) (maxL := 3) (ret := (some .int)) (by decide) rfl ?_
  intro p e s m args below meth c0 s₁ B hml hv
  obtain ⟨rfl, hsz, hP, hK, hE⟩ := hv
  have hx := B.exec
  have hb := B.bytes
  have hr := B.returns
  have hts := atoms_spec (ws := Cond.code yX8_linkRent cX8_linkRent 3 (some .int) :: wA) B.pre
  have hwd : ∀ w ∈ wA, w.before _ s = true := fun w h => hts w (List.mem_cons_of_mem _ h)
  have hown : s.vm.findClass RX8 = some m.cls := findClass_of_methodNamed B.named
  have hlocks := B.notSynchronized
  subst hsz
  have hl := lv_entry ([.ref (g 2), .int p0, .int p1]) (n := 3) (Nat.le_of_ble_eq_true rfl)
  rw [lg_entry_eq]
  generalize (lg_sl ([.ref (g 2), .int p0, .int p1]) ++ List.replicate (3 - (lg_sl ([.ref (g 2), .int p0, .int p1])).length) Slot.unset).toArray = ls at hl ⊢
  have hl : lv_has ls 3 [(0, .ref (g 2)), (1, .int p0), (2, .int p1)] := hl
  obtain ⟨H, eH⟩ : ∃ z, z = s.heap := ⟨_, rfl⟩
  have hP : va_P (dC, dI) classes (wX g c v F rc) H := by rw [eH]; exact hP
  have hS : va_S (AX g s.heap.size) s.heap H [] := by rw [eH]; exact va_S.rf
  refine my_heap eH ?_
  have rp0 := i32_rng p0
  have rp1 := i32_rng p1
  refine lv_iload_n hx hb dX8_linkRent_0 rfl (lv_at hl 2 rfl) ?_
  refine lv_if_lt (tgt := 27) hx hb dX8_linkRent_1 (by decide) (fun c4338 => ?_) (fun c4338 => ?_)
  · skip
    have t4339 := cv_lt (a := p1.toInt) rfl (b := 0) (by decide) c4338
    refine lv_iconst (v := 0) hx hb dX8_linkRent_27 (by decide) ?_
    have hP9 : va_P (dC, dI) classes (wX g c v F rc) H := hP
    exact W.iret (v := 0) hx hb hr (fun t ht hW => ⟨⟨0, (), rfl, (by exact (lr_out (by omega)).symm), (by show va_P _ _ _ t.heap; rw [ht]; exact hP9)⟩, hS.F ht⟩) hS.2.2 dX8_linkRent_28
  · skip
    have t4340 := cv_nlt (a := p1.toInt) rfl (b := 0) (by decide) c4338
    refine lv_iload_n hx hb dX8_linkRent_4 rfl (lv_at hl 2 rfl) ?_
    refine lv_aload_n hx hb dX8_linkRent_5 rfl (lv_at hl 0 rfl) ?_
    refine va_get (D := (dC, dI)) (ci := 8) (v := .ref (g 20)) (C := RX8) (T := TX8) (N := 10) hx hb hwd inA_X8 hown hK hP 2 rfl rfl 6 (by decide) (hwd _ wk_73) (fun _ h9 => h9) rfl dX8_linkRent_6 ?_
    refine lv_iload_n hx hb dX8_linkRent_9 rfl (lv_at hl 1 rfl) ?_
    refine va_iald hx hb hK hP 20 8 rfl rfl (i := p0) (vin (a := p0.toInt) rfl (by omega)) dX8_linkRent_10 ?_
    refine lv_topi (fun z4341 e4342 => ?_)
    have t4343 : 0 ≤ z4341.toInt ∧ z4341.toInt ≤ 4 := by rw [e4342]; exact hI.2 20 _ _ rfl _
    refine lv_icmp_ge (tgt := 27) hx hb dX8_linkRent_11 (by decide) (fun c4344 => ?_) (fun c4344 => ?_)
    · skip
      have t4345 := cv_le (a := z4341.toInt) rfl (b := p1.toInt) rfl c4344
      refine lv_iconst (v := 0) hx hb dX8_linkRent_27 (by decide) ?_
      have hP9 : va_P (dC, dI) classes (wX g c v F rc) H := hP
      exact W.iret (v := 0) hx hb hr (fun t ht hW => ⟨⟨0, (), rfl, (by have a_z4341 := congrArg Int32.toInt e4342; exact (lr_out (by omega)).symm), (by show va_P _ _ _ t.heap; rw [ht]; exact hP9)⟩, hS.F ht⟩) hS.2.2 dX8_linkRent_28
    · skip
      have t4346 := cv_nle (a := z4341.toInt) rfl (b := p1.toInt) rfl c4344
      refine lv_aload_n hx hb dX8_linkRent_14 rfl (lv_at hl 0 rfl) ?_
      refine va_get (D := (dC, dI)) (ci := 8) (v := .ref (g 21)) (C := RX8) (T := TX8) (N := 10) hx hb hwd inA_X8 hown hK hP 2 rfl rfl 7 (by decide) (hwd _ wk_74) (fun _ h9 => h9) rfl dX8_linkRent_15 ?_
      refine lv_iload_n hx hb dX8_linkRent_18 rfl (lv_at hl 1 rfl) ?_
      refine lv_iconst (v := 4) hx hb dX8_linkRent_19 (by decide) ?_
      refine lv_imul hx hb dX8_linkRent_20 ?_
      refine lv_topi (fun z4347 e4348 => ?_)
      try (have t4349 := tmul e4348 (a := p0.toInt) rfl (b := 4) (by decide) (by omega))
      refine lv_iload_n hx hb dX8_linkRent_21 rfl (lv_at hl 2 rfl) ?_
      refine lv_iadd hx hb dX8_linkRent_22 ?_
      refine lv_topi (fun z4350 e4351 => ?_)
      try (have t4352 := tadd e4351 (a := z4347.toInt) rfl (b := p1.toInt) rfl (by omega))
      refine va_iald hx hb hK hP 21 9 rfl rfl (i := z4350) (vin (a := z4350.toInt) rfl (by omega)) dX8_linkRent_23 ?_
      refine lv_topi (fun z4353 e4354 => ?_)
      refine lv_goto (tgt := 28) hx hb dX8_linkRent_24 (by decide) ?_
      have hP9 : va_P (dC, dI) classes (wX g c v F rc) H := hP
      exact W.iret (v := z4353) hx hb hr (fun t ht hW => ⟨⟨z4353, (), rfl, (by have a_z4341 := congrArg Int32.toInt e4342; have a_z4353 := congrArg Int32.toInt e4354; exact (lr_in (by omega) e4354 (by omega)).symm), (by show va_P _ _ _ t.heap; rw [ht]; exact hP9)⟩, hS.F ht⟩) hS.2.2 dX8_linkRent_28
set_option maxHeartbeats 8000000 in
set_option maxRecDepth 100000 in
theorem c_X11_net_x (l : Launch) (dC : Nat → ClassId) (dI : Nat → Nat → Nat) (g : Nat → Nat) (c : Nat → ClassId) (adK adV : Nat → Nat) (v : Nat → Int32) (F : Nat → Nat → Int32) (rc sz : Nat) (p0 : Int32) (p1 : Int32) (p2 : Int32) (hg : injX g) (hI : IX v F) : Met l yX11_net (Cond.code yX11_net cX11_net 4 (some .int) :: wA) ({ frames := 2, cells := 0, slots := 0, locals := 80 }) (va_Pc [.ref (g 0), .int p0, .int p1, .int p2] (PX dC dI g c adK adV v F rc sz)) (va_Qi (fun (r : Int32) (u : Unit) => r = netF (F 20) (F 21) (v 40) p0 p1 p2) (fun (_ : Unit) => BX dC dI g c (v, F, rc)) (AX g sz)) 0 0 (AX g sz) := by
  refine Met.ofW (cc := cX11_net) (maxL := 4) (ret := (some .int)) (by decide) rfl ?_
  intro p e s m args below meth c0 s₁ B hml hv
  obtain ⟨rfl, hsz, hP, hK, hE⟩ := hv
  have hx := B.exec
  have hb := B.bytes
  have hr := B.returns
  have hts := atoms_spec (ws := Cond.code yX11_net cX11_net 4 (some .int) :: wA) B.pre
  have hwd : ∀ w ∈ wA, w.before _ s = true := fun w h => hts w (List.mem_cons_of_mem _ h)
  have hown : s.vm.findClass RX11 = some m.cls := findClass_of_methodNamed B.named
  have hlocks := B.notSynchronized
  subst hsz
  have hl := lv_entry ([.ref (g 0), .int p0, .int p1, .int p2]) (n := 4) (Nat.le_of_ble_eq_true rfl)
  rw [lg_entry_eq]
  generalize (lg_sl ([.ref (g 0), .int p0, .int p1, .int p2]) ++ List.replicate (4 - (lg_sl ([.ref (g 0), .int p0, .int p1, .int p2])).length) Slot.unset).toArray = ls at hl ⊢
  have hl : lv_has ls 4 [(0, .ref (g 0)), (1, .int p0), (2, .int p1), (3, .int p2)] := hl
  obtain ⟨H, eH⟩ : ∃ z, z = s.heap := ⟨_, rfl⟩
  have hP : va_P (dC, dI) classes (wX g c v F rc) H := by rw [eH]; exact hP
  have hS : va_S (AX g s.heap.size) s.heap H [] := by rw [eH]; exact va_S.rf
  refine my_heap eH ?_
  have rp0 := i32_rng p0
  have rp1 := i32_rng p1
  have rp2 := i32_rng p2
  have hbs : 0 ≤ (v 40).toInt ∧ (v 40).toInt ≤ 10 := hI.1 40 _ _ rfl
  refine lv_aload_n hx hb dX11_net_0 rfl (lv_at hl 0 rfl) ?_
  refine va_get (D := (dC, dI)) (ci := 11) (v := .ref (g 2)) (C := RX11) (T := TX11) (N := 14) hx hb hwd inA_X11 hown hK hP 0 rfl rfl 1 (by decide) (hwd _ wk_19) (fun _ h9 => h9) rfl dX11_net_1 ?_
  refine lv_iload_n hx hb dX11_net_4 rfl (lv_at hl 1 rfl) ?_
  refine va_calli (va_runV (As := [.int p0]) (rest := []) ⟨hx, hb, hml, hown, hwd⟩ (c_X8_has_x l dC dI g c adK adV v F rc H.size p0 hg hI ) (cwV 1 hwd (gV wk_276 wk_273 wk_274 wk_275 wk_18) rfl rfl rfl (by decide +kernel) ⟨Nat.le_of_ble_eq_true rfl, Nat.le_of_ble_eq_true rfl⟩) ⟨PX.blind, va_recv hK hP (ci := 8) (q0 := 2) rfl rfl, fun U hU hW => ⟨rfl, PX.at hK hE hP hS hU hW⟩⟩ rfl rfl hl.1 rfl (lv_room (Nat.le_of_ble_eq_true rfl)) dX11_net_5 ⟨Nat.le_of_ble_eq_true rfl, Nat.le_of_ble_eq_true rfl⟩) hS (fun q _ h => (freeX hS) q h) (freeX hS) (fun r4355 u t H1 locs ht hvm hw hB hz1 hk1 hS => ?_)
  unfold BX at hB
  rw [ht] at hB
  have hP : va_P (dC, dI) classes (wX g c v F rc) H1 := hB
  have hw : (r4355.toInt = 1 ∧ 0 ≤ p0.toInt ∧ p0.toInt < (v 40).toInt) ∨ (r4355.toInt = 0 ∧ (p0.toInt < 0 ∨ (v 40).toInt ≤ p0.toInt)) := hw
  generalize H1 = H at hP hS ⊢
  have hw_r4355 := hw
  refine lv_if_eq (tgt := 41) hx hb dX11_net_8 (by decide) (fun c4356 => ?_) (fun c4356 => ?_)
  · skip
    have t4357 := cv_eq (a := r4355.toInt) rfl (b := 0) (by decide) c4356
    refine lv_ldc (v := (-2000000000)) hx hb hown (hwd _ wk_56) dX11_net_41 ?_
    have hP9 : va_P (dC, dI) classes (wX g c v F rc) H := hP
    exact W.iret (v := (-2000000000)) hx hb hr (fun t ht hW => ⟨⟨(-2000000000), (), rfl, (by unfold netF; rw [if_neg (by omega)]), (by show va_P _ _ _ t.heap; rw [ht]; exact hP9)⟩, hS.F ht⟩) hS.2.2 dX11_net_43
  · skip
    have t4358 := cv_ne (a := r4355.toInt) rfl (b := 0) (by decide) c4356
    refine lv_iload_n hx hb dX11_net_11 rfl (lv_at hl 3 rfl) ?_
    refine lv_iconst (v := 1) hx hb dX11_net_12 (by decide) ?_
    refine lv_sipush (v := 999) hx hb dX11_net_13 (by decide) ?_
    refine va_calli (va_runS (As := [.int p2, .int 1, .int 999]) (rest := []) ⟨hx, hb, hml, hown, hwd⟩ (c_X11_within l dC dI g c adK adV v F rc H.size p2 1 999 hg hI ) (va_cwS 3 hwd (gT wk_239 wk_237 wk_238 wk_2) rfl rfl rfl (by decide +kernel) ⟨Nat.le_of_ble_eq_true rfl, Nat.le_of_ble_eq_true rfl⟩) ⟨PX.blind, fun U hU hW => ⟨rfl, PX.at hK hE hP hS hU hW⟩⟩ rfl rfl hl.1 rfl (lv_room (Nat.le_of_ble_eq_true rfl)) dX11_net_16 ⟨Nat.le_of_ble_eq_true rfl, Nat.le_of_ble_eq_true rfl⟩) hS (fun q _ h => (freeX hS) q h) (freeX hS) (fun r4359 u t H1 locs ht hvm hw hB hz1 hk1 hS => ?_)
    unfold BX at hB
    rw [ht] at hB
    have hP : va_P (dC, dI) classes (wX g c v F rc) H1 := hB
    have hw : (r4359.toInt = 1 ∧ (1 : Int32).toInt ≤ p2.toInt ∧ p2.toInt ≤ (999 : Int32).toInt) ∨ (r4359.toInt = 0 ∧ (p2.toInt < (1 : Int32).toInt ∨ (999 : Int32).toInt < p2.toInt)) := hw
    have k4360 : (1 : Int32).toInt = 1 := by decide
    have k4361 : (999 : Int32).toInt = 999 := by decide
    generalize H1 = H at hP hS ⊢
    have hw_r4359 := hw
    refine lv_if_eq (tgt := 41) hx hb dX11_net_19 (by decide) (fun c4362 => ?_) (fun c4362 => ?_)
    · skip
      have t4363 := cv_eq (a := r4359.toInt) rfl (b := 0) (by decide) c4362
      refine lv_ldc (v := (-2000000000)) hx hb hown (hwd _ wk_56) dX11_net_41 ?_
      have hP9 : va_P (dC, dI) classes (wX g c v F rc) H := hP
      exact W.iret (v := (-2000000000)) hx hb hr (fun t ht hW => ⟨⟨(-2000000000), (), rfl, (by unfold netF; rw [if_neg (by omega)]), (by show va_P _ _ _ t.heap; rw [ht]; exact hP9)⟩, hS.F ht⟩) hS.2.2 dX11_net_43
    · skip
      have t4364 := cv_ne (a := r4359.toInt) rfl (b := 0) (by decide) c4362
      refine lv_iload_n hx hb dX11_net_22 rfl (lv_at hl 2 rfl) ?_
      refine lv_iconst (v := 0) hx hb dX11_net_23 (by decide) ?_
      refine lv_aload_n hx hb dX11_net_24 rfl (lv_at hl 0 rfl) ?_
      refine va_get (D := (dC, dI)) (ci := 11) (v := .ref (g 2)) (C := RX11) (T := TX11) (N := 14) hx hb hwd inA_X11 hown hK hP 0 rfl rfl 1 (by decide) (hwd _ wk_19) (fun _ h9 => h9) rfl dX11_net_25 ?_
      refine va_get (D := (dC, dI)) (ci := 8) (v := .ref (g 20)) (C := RX8) (T := TX8) (N := 10) hx hb hwd inA_X8 hown hK hP 2 rfl rfl 6 (by decide) (hwd _ wk_1408) (fun _ h9 => h9) rfl dX11_net_28 ?_
      refine lv_iload_n hx hb dX11_net_31 rfl (lv_at hl 1 rfl) ?_
      refine va_iald hx hb hK hP 20 8 rfl rfl (i := p0) (vin (a := p0.toInt) rfl (by omega)) dX11_net_32 ?_
      refine lv_topi (fun z4365 e4366 => ?_)
      have t4367 : 0 ≤ z4365.toInt ∧ z4365.toInt ≤ 4 := by rw [e4366]; exact hI.2 20 _ _ rfl _
      refine lv_iconst (v := 1) hx hb dX11_net_33 (by decide) ?_
      refine lv_isub hx hb dX11_net_34 ?_
      refine lv_topi (fun z4368 e4369 => ?_)
      try (have t4370 := tsub e4369 (a := z4365.toInt) rfl (b := 1) (by decide) (by omega))
      refine va_calli (va_runS (As := [.int p1, .int 0, .int z4368]) (rest := []) ⟨hx, hb, hml, hown, hwd⟩ (c_X11_within l dC dI g c adK adV v F rc H.size p1 0 z4368 hg hI ) (va_cwS 3 hwd (gT wk_239 wk_237 wk_238 wk_2) rfl rfl rfl (by decide +kernel) ⟨Nat.le_of_ble_eq_true rfl, Nat.le_of_ble_eq_true rfl⟩) ⟨PX.blind, fun U hU hW => ⟨rfl, PX.at hK hE hP hS hU hW⟩⟩ rfl rfl hl.1 rfl (lv_room (Nat.le_of_ble_eq_true rfl)) dX11_net_35 ⟨Nat.le_of_ble_eq_true rfl, Nat.le_of_ble_eq_true rfl⟩) hS (fun q _ h => (freeX hS) q h) (freeX hS) (fun r4371 u t H1 locs ht hvm hw hB hz1 hk1 hS => ?_)
      unfold BX at hB
      rw [ht] at hB
      have hP : va_P (dC, dI) classes (wX g c v F rc) H1 := hB
      have hw : (r4371.toInt = 1 ∧ (0 : Int32).toInt ≤ p1.toInt ∧ p1.toInt ≤ z4368.toInt) ∨ (r4371.toInt = 0 ∧ (p1.toInt < (0 : Int32).toInt ∨ z4368.toInt < p1.toInt)) := hw
      have k4372 : (0 : Int32).toInt = 0 := by decide
      generalize H1 = H at hP hS ⊢
      have hw_r4371 := hw
      refine lv_if_ne (tgt := 44) hx hb dX11_net_38 (by decide) (fun c4373 => ?_) (fun c4373 => ?_)
      · skip
        have t4374 := cv_ne (a := r4371.toInt) rfl (b := 0) (by decide) c4373
        refine lv_aload_n hx hb dX11_net_44 rfl (lv_at hl 0 rfl) ?_
        refine va_get (D := (dC, dI)) (ci := 11) (v := .ref (g 2)) (C := RX11) (T := TX11) (N := 14) hx hb hwd inA_X11 hown hK hP 0 rfl rfl 1 (by decide) (hwd _ wk_19) (fun _ h9 => h9) rfl dX11_net_45 ?_
        refine lv_iload_n hx hb dX11_net_48 rfl (lv_at hl 1 rfl) ?_
        refine lv_iload_n hx hb dX11_net_49 rfl (lv_at hl 2 rfl) ?_
        refine va_calli (va_runV (As := [.int p0, .int p1]) (rest := []) ⟨hx, hb, hml, hown, hwd⟩ (c_X8_linkRent_x l dC dI g c adK adV v F rc H.size p0 p1 hg hI (by omega)) (cwV 2 hwd (gV wk_1412 wk_1409 wk_1410 wk_1411 wk_18) rfl rfl rfl (by decide +kernel) ⟨Nat.le_of_ble_eq_true rfl, Nat.le_of_ble_eq_true rfl⟩) ⟨PX.blind, va_recv hK hP (ci := 8) (q0 := 2) rfl rfl, fun U hU hW => ⟨rfl, PX.at hK hE hP hS hU hW⟩⟩ rfl rfl hl.1 rfl (lv_room (Nat.le_of_ble_eq_true rfl)) dX11_net_50 ⟨Nat.le_of_ble_eq_true rfl, Nat.le_of_ble_eq_true rfl⟩) hS (fun q _ h => (freeX hS) q h) (freeX hS) (fun r4375 u t H1 locs ht hvm hw hB hz1 hk1 hS => ?_)
        unfold BX at hB
        rw [ht] at hB
        have hP : va_P (dC, dI) classes (wX g c v F rc) H1 := hB
        have hw : r4375 = lrF (F 20) (F 21) p0 p1 := hw
        generalize H1 = H at hP hS ⊢
        have hw_r4375 := hw
        refine lv_aload_n hx hb dX11_net_53 rfl (lv_at hl 0 rfl) ?_
        refine va_get (D := (dC, dI)) (ci := 11) (v := .ref (g 2)) (C := RX11) (T := TX11) (N := 14) hx hb hwd inA_X11 hown hK hP 0 rfl rfl 1 (by decide) (hwd _ wk_19) (fun _ h9 => h9) rfl dX11_net_54 ?_
        refine lv_iload_n hx hb dX11_net_57 rfl (lv_at hl 1 rfl) ?_
        refine lv_iload_n hx hb dX11_net_58 rfl (lv_at hl 2 rfl) ?_
        refine lv_iconst (v := 1) hx hb dX11_net_59 (by decide) ?_
        refine lv_iadd hx hb dX11_net_60 ?_
        refine lv_topi (fun z4376 e4377 => ?_)
        try (have t4378 := tadd e4377 (a := p1.toInt) rfl (b := 1) (by decide) (by omega))
        refine va_calli (va_runV (As := [.int p0, .int z4376]) (rest := [.int r4375]) ⟨hx, hb, hml, hown, hwd⟩ (c_X8_linkRent_x l dC dI g c adK adV v F rc H.size p0 z4376 hg hI (by omega)) (cwV 2 hwd (gV wk_1412 wk_1409 wk_1410 wk_1411 wk_18) rfl rfl rfl (by decide +kernel) ⟨Nat.le_of_ble_eq_true rfl, Nat.le_of_ble_eq_true rfl⟩) ⟨PX.blind, va_recv hK hP (ci := 8) (q0 := 2) rfl rfl, fun U hU hW => ⟨rfl, PX.at hK hE hP hS hU hW⟩⟩ rfl rfl hl.1 rfl (lv_room (Nat.le_of_ble_eq_true rfl)) dX11_net_61 ⟨Nat.le_of_ble_eq_true rfl, Nat.le_of_ble_eq_true rfl⟩) hS (fun q _ h => (freeX hS) q h) (freeX hS) (fun r4379 u t H1 locs ht hvm hw hB hz1 hk1 hS => ?_)
        unfold BX at hB
        rw [ht] at hB
        have hP : va_P (dC, dI) classes (wX g c v F rc) H1 := hB
        have hw : r4379 = lrF (F 20) (F 21) p0 z4376 := hw
        generalize H1 = H at hP hS ⊢
        have hw_r4379 := hw
        refine lv_isub hx hb dX11_net_64 ?_
        refine lv_topi (fun z4380 e4381 => ?_)
        try (have t4382 := tsub e4381 (a := r4375.toInt) rfl (b := r4379.toInt) rfl (by omega))
        refine lv_iload_n hx hb dX11_net_65 rfl (lv_at hl 3 rfl) ?_
        refine lv_imul hx hb dX11_net_66 ?_
        refine lv_topi (fun z4383 e4384 => ?_)
        try (have t4385 := tmul e4384 (a := z4380.toInt) rfl (b := p2.toInt) rfl (by omega))
        have hP9 : va_P (dC, dI) classes (wX g c v F rc) H := hP
        exact W.iret (v := z4383) hx hb hr (fun t ht hW => ⟨⟨z4383, (), rfl, (by have a_z4365 := congrArg Int32.toInt e4366; unfold netF; rw [if_pos (by omega), e4384, e4381, hw_r4375, hw_r4379, e4377]), (by show va_P _ _ _ t.heap; rw [ht]; exact hP9)⟩, hS.F ht⟩) hS.2.2 dX11_net_67
      · skip
        have t4386 := cv_eq (a := r4371.toInt) rfl (b := 0) (by decide) c4373
        refine lv_ldc (v := (-2000000000)) hx hb hown (hwd _ wk_56) dX11_net_41 ?_
        have hP9 : va_P (dC, dI) classes (wX g c v F rc) H := hP
        exact W.iret (v := (-2000000000)) hx hb hr (fun t ht hW => ⟨⟨(-2000000000), (), rfl, (by have a_z4365 := congrArg Int32.toInt e4366; unfold netF; rw [if_neg (by omega)]), (by show va_P _ _ _ t.heap; rw [ht]; exact hP9)⟩, hS.F ht⟩) hS.2.2 dX11_net_43
