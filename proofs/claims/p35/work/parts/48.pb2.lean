set_option maxHeartbeats 8000000 in
set_option maxRecDepth 100000 in
theorem c_X11_need (l : Launch) (dC : Nat → ClassId) (dI : Nat → Nat → Nat) (g : Nat → Nat) (c : Nat → ClassId) (adK adV : Nat → Nat) (v : Nat → Int32) (F : Nat → Nat → Int32) (rc sz : Nat) (p0 : Int32) (p1 : Int32) (p2 : Int32) (hg : injX g) (hI : IX v F) : Met l yX11_need (Cond.code yX11_need cX11_need 4 (some .int) :: wA) ({ frames := 3, cells := 0, slots := 0, locals := 120 }) (va_Pc [.ref (g 0), .int p0, .int p1, .int p2] (PX dC dI g c adK adV v F rc sz)) (va_Qi (fun (r : Int32) (u : StX) => IX u.1 u.2.1 ∧ alX u.1 u.2.1 = alX v F ∧ u.2.2 = rc ∧ (∀ k, k ∉ ([] : List Nat) → u.1 k = v k) ∧ True) (BX dC dI g c) (AX g sz)) 0 0 (AX g sz) := by
  refine Met.ofW (cc := cX11_need) (maxL := 4) (ret := (some .int)) (by decide) rfl ?_
  intro p e s m args below meth c0 s₁ B hml hv
  obtain ⟨rfl, hsz, hP, hK, hE⟩ := hv
  have hx := B.exec
  have hb := B.bytes
  have hr := B.returns
  have hts := atoms_spec (ws := Cond.code yX11_need cX11_need 4 (some .int) :: wA) B.pre
  have hwd : ∀ w ∈ wA, w.before _ s = true := fun w h => hts w (List.mem_cons_of_mem _ h)
  have hown : s.vm.findClass RX11 = some m.cls := findClass_of_methodNamed B.named
  have hlocks := B.notSynchronized
  subst hsz
  have hl := lv_entry ([.ref (g 0), .int p0, .int p1, .int p2]) (n := 4) (Nat.le_of_ble_eq_true rfl)
  rw [lg_entry_eq]
  generalize (lg_sl ([.ref (g 0), .int p0, .int p1, .int p2]) ++ List.replicate (4 - (lg_sl ([.ref (g 0), .int p0, .int p1, .int p2])).length) Slot.unset).toArray = ls at hl ⊢
  have hl : lv_has ls 4 [(0, .ref (g 0)), (1, .int p0), (2, .int p1), (3, .int p2)] := hl
  obtain ⟨H, eH⟩ : ∃ z, z = s.heap := ⟨_, rfl⟩
  have hP : va_P (dC, dI) classes (wX g c v F rc) H := by rw [eH]; exact hP
  have hS : va_S (AX g s.heap.size) s.heap H [] := by rw [eH]; exact va_S.rf
  refine my_heap eH ?_
  have hal : alX v F = alX v F := rfl
  have rp0 := i32_rng p0
  have rp1 := i32_rng p1
  have rp2 := i32_rng p2
  refine lv_aload_n hx hb dX11_need_0 rfl (lv_at hl 0 rfl) ?_
  refine va_get (D := (dC, dI)) (ci := 11) (v := .ref (g 2)) (C := RX11) (T := TX11) (N := 14) hx hb hwd inA_X11 hown hK hP 0 rfl rfl 1 (by decide) (hwd _ wk_19) (fun _ h9 => h9) rfl dX11_need_1 ?_
  refine lv_iload_n hx hb dX11_need_4 rfl (lv_at hl 1 rfl) ?_
  refine va_calli (va_runV (As := [.int p0]) (rest := []) ⟨hx, hb, hml, hown, hwd⟩ (c_X8_has l dC dI g c adK adV v F rc H.size p0 hg hI ) (cwV 1 hwd (gV wk_276 wk_273 wk_274 wk_275 wk_18) rfl rfl rfl (by decide +kernel) ⟨Nat.le_of_ble_eq_true rfl, Nat.le_of_ble_eq_true rfl⟩) ⟨PX.blind, va_recv hK hP (ci := 8) (q0 := 2) rfl rfl, fun U hU hW => ⟨rfl, PX.at hK hE hP hS hU hW⟩⟩ rfl rfl hl.1 rfl (lv_room (Nat.le_of_ble_eq_true rfl)) dX11_need_5 ⟨Nat.le_of_ble_eq_true rfl, Nat.le_of_ble_eq_true rfl⟩) hS (fun q _ h => (freeX hS) q h) (freeX hS) (fun r2262 u t H1 locs ht hvm hw hB hz1 hk1 hS => ?_)
  unfold BX at hB
  rw [ht] at hB
  have hP : va_P (dC, dI) classes (wX g c v F rc) H1 := hB
  have hw : (0 ≤ r2262.toInt ∧ r2262.toInt ≤ 1) ∧ (r2262.toInt = 1 → 0 ≤ p0.toInt ∧ p0.toInt < 10) := hw
  generalize H1 = H at hP hS ⊢
  have hw_r2262 := hw
  refine lv_if_eq (tgt := 31) hx hb dX11_need_8 (by decide) (fun c2263 => ?_) (fun c2263 => ?_)
  · skip
    have t2264 := cv_eq (a := r2262.toInt) rfl (b := 0) (by decide) c2263
    refine lv_iconst (v := (-1)) hx hb dX11_need_31 (by decide) ?_
    have hP9 : va_P (dC, dI) classes (wX g c v F rc) H := hP
    exact W.iret (v := (-1)) hx hb hr (fun t ht hW => ⟨⟨(-1), (v, F, rc), rfl, ⟨hI, hal, rfl, (fun _ _ => rfl), trivial⟩, (by show va_P _ _ _ t.heap; rw [ht]; exact hP9)⟩, hS.F ht⟩) hS.2.2 dX11_need_32
  · skip
    have t2265 := cv_ne (a := r2262.toInt) rfl (b := 0) (by decide) c2263
    refine lv_aload_n hx hb dX11_need_11 rfl (lv_at hl 0 rfl) ?_
    refine va_get (D := (dC, dI)) (ci := 11) (v := .ref (g 1)) (C := RX11) (T := TX11) (N := 14) hx hb hwd inA_X11 hown hK hP 0 rfl rfl 0 (by decide) (hwd _ wk_15) (fun _ h9 => h9) rfl dX11_need_12 ?_
    refine lv_iload_n hx hb dX11_need_15 rfl (lv_at hl 2 rfl) ?_
    refine va_calli (va_runV (As := [.int p1]) (rest := []) ⟨hx, hb, hml, hown, hwd⟩ (c_X2_has l dC dI g c adK adV v F rc H.size p1 hg hI ) (cwV 1 hwd (gV wk_280 wk_277 wk_278 wk_279 wk_14) rfl rfl rfl (by decide +kernel) ⟨Nat.le_of_ble_eq_true rfl, Nat.le_of_ble_eq_true rfl⟩) ⟨PX.blind, va_recv hK hP (ci := 2) (q0 := 1) rfl rfl, fun U hU hW => ⟨rfl, PX.at hK hE hP hS hU hW⟩⟩ rfl rfl hl.1 rfl (lv_room (Nat.le_of_ble_eq_true rfl)) dX11_need_16 ⟨Nat.le_of_ble_eq_true rfl, Nat.le_of_ble_eq_true rfl⟩) hS (fun q _ h => (freeX hS) q h) (freeX hS) (fun r2266 u t H1 locs ht hvm hw hB hz1 hk1 hS => ?_)
    unfold BX at hB
    rw [ht] at hB
    have hP : va_P (dC, dI) classes (wX g c v F rc) H1 := hB
    have hw : (0 ≤ r2266.toInt ∧ r2266.toInt ≤ 1) ∧ (r2266.toInt = 1 → 0 ≤ p1.toInt ∧ p1.toInt < 10) := hw
    generalize H1 = H at hP hS ⊢
    have hw_r2266 := hw
    refine lv_if_eq (tgt := 31) hx hb dX11_need_19 (by decide) (fun c2267 => ?_) (fun c2267 => ?_)
    · skip
      have t2268 := cv_eq (a := r2266.toInt) rfl (b := 0) (by decide) c2267
      refine lv_iconst (v := (-1)) hx hb dX11_need_31 (by decide) ?_
      have hP9 : va_P (dC, dI) classes (wX g c v F rc) H := hP
      exact W.iret (v := (-1)) hx hb hr (fun t ht hW => ⟨⟨(-1), (v, F, rc), rfl, ⟨hI, hal, rfl, (fun _ _ => rfl), trivial⟩, (by show va_P _ _ _ t.heap; rw [ht]; exact hP9)⟩, hS.F ht⟩) hS.2.2 dX11_need_32
    · skip
      have t2269 := cv_ne (a := r2266.toInt) rfl (b := 0) (by decide) c2267
      refine lv_iload_n hx hb dX11_need_22 rfl (lv_at hl 3 rfl) ?_
      refine lv_iconst (v := 0) hx hb dX11_need_23 (by decide) ?_
      refine lv_iconst (v := 3) hx hb dX11_need_24 (by decide) ?_
      refine va_calli (va_runS (As := [.int p2, .int 0, .int 3]) (rest := []) ⟨hx, hb, hml, hown, hwd⟩ (c_X11_within l dC dI g c adK adV v F rc H.size p2 0 3 hg hI ) (va_cwS 3 hwd (gT wk_239 wk_237 wk_238 wk_2) rfl rfl rfl (by decide +kernel) ⟨Nat.le_of_ble_eq_true rfl, Nat.le_of_ble_eq_true rfl⟩) ⟨PX.blind, fun U hU hW => ⟨rfl, PX.at hK hE hP hS hU hW⟩⟩ rfl rfl hl.1 rfl (lv_room (Nat.le_of_ble_eq_true rfl)) dX11_need_25 ⟨Nat.le_of_ble_eq_true rfl, Nat.le_of_ble_eq_true rfl⟩) hS (fun q _ h => (freeX hS) q h) (freeX hS) (fun r2270 u t H1 locs ht hvm hw hB hz1 hk1 hS => ?_)
      unfold BX at hB
      rw [ht] at hB
      have hP : va_P (dC, dI) classes (wX g c v F rc) H1 := hB
      have hw : (r2270.toInt = 1 ∧ (0 : Int32).toInt ≤ p2.toInt ∧ p2.toInt ≤ (3 : Int32).toInt) ∨ (r2270.toInt = 0 ∧ (p2.toInt < (0 : Int32).toInt ∨ (3 : Int32).toInt < p2.toInt)) := hw
      have k2271 : (0 : Int32).toInt = 0 := by decide
      have k2272 : (3 : Int32).toInt = 3 := by decide
      generalize H1 = H at hP hS ⊢
      have hw_r2270 := hw
      refine lv_if_ne (tgt := 33) hx hb dX11_need_28 (by decide) (fun c2273 => ?_) (fun c2273 => ?_)
      · skip
        have t2274 := cv_ne (a := r2270.toInt) rfl (b := 0) (by decide) c2273
        refine lv_aload_n hx hb dX11_need_33 rfl (lv_at hl 0 rfl) ?_
        refine va_get (D := (dC, dI)) (ci := 11) (v := .ref (g 2)) (C := RX11) (T := TX11) (N := 14) hx hb hwd inA_X11 hown hK hP 0 rfl rfl 1 (by decide) (hwd _ wk_19) (fun _ h9 => h9) rfl dX11_need_34 ?_
        refine lv_iload_n hx hb dX11_need_37 rfl (lv_at hl 1 rfl) ?_
        refine va_calli (va_runV (As := [.int p0]) (rest := []) ⟨hx, hb, hml, hown, hwd⟩ (c_X8_isBack l dC dI g c adK adV v F rc H.size p0 hg hI (by omega)) (cwV 1 hwd (gV wk_284 wk_281 wk_282 wk_283 wk_18) rfl rfl rfl (by decide +kernel) ⟨Nat.le_of_ble_eq_true rfl, Nat.le_of_ble_eq_true rfl⟩) ⟨PX.blind, va_recv hK hP (ci := 8) (q0 := 2) rfl rfl, fun U hU hW => ⟨rfl, PX.at hK hE hP hS hU hW⟩⟩ rfl rfl hl.1 rfl (lv_room (Nat.le_of_ble_eq_true rfl)) dX11_need_38 ⟨Nat.le_of_ble_eq_true rfl, Nat.le_of_ble_eq_true rfl⟩) hS (fun q _ h => (freeX hS) q h) (freeX hS) (fun r2275 u t H1 locs ht hvm hw hB hz1 hk1 hS => ?_)
        unfold BX at hB
        rw [ht] at hB
        have hP : va_P (dC, dI) classes (wX g c v F rc) H1 := hB
        have hw : 0 ≤ r2275.toInt ∧ r2275.toInt ≤ 1 := hw
        generalize H1 = H at hP hS ⊢
        have hw_r2275 := hw
        refine lv_if_ne (tgt := 57) hx hb dX11_need_41 (by decide) (fun c2276 => ?_) (fun c2276 => ?_)
        · skip
          have t2277 := cv_ne (a := r2275.toInt) rfl (b := 0) (by decide) c2276
          refine lv_bipush (v := (-2)) hx hb dX11_need_57 (by decide) ?_
          have hP9 : va_P (dC, dI) classes (wX g c v F rc) H := hP
          exact W.iret (v := (-2)) hx hb hr (fun t ht hW => ⟨⟨(-2), (v, F, rc), rfl, ⟨hI, hal, rfl, (fun _ _ => rfl), trivial⟩, (by show va_P _ _ _ t.heap; rw [ht]; exact hP9)⟩, hS.F ht⟩) hS.2.2 dX11_need_59
        · skip
          have t2278 := cv_eq (a := r2275.toInt) rfl (b := 0) (by decide) c2276
          refine lv_aload_n hx hb dX11_need_44 rfl (lv_at hl 0 rfl) ?_
          refine va_get (D := (dC, dI)) (ci := 11) (v := .ref (g 3)) (C := RX11) (T := TX11) (N := 14) hx hb hwd inA_X11 hown hK hP 0 rfl rfl 2 (by decide) (hwd _ wk_27) (fun _ h9 => h9) rfl dX11_need_45 ?_
          refine lv_iload_n hx hb dX11_need_48 rfl (lv_at hl 2 rfl) ?_
          refine lv_iload_n hx hb dX11_need_49 rfl (lv_at hl 1 rfl) ?_
          refine va_calli (va_runV (As := [.int p1, .int p0]) (rest := []) ⟨hx, hb, hml, hown, hwd⟩ (c_X7_ofKindAt l dC dI g c adK adV v F rc H.size p1 p0 hg hI ) (cwV 2 hwd (gV wk_288 wk_285 wk_286 wk_287 wk_26) rfl rfl rfl (by decide +kernel) ⟨Nat.le_of_ble_eq_true rfl, Nat.le_of_ble_eq_true rfl⟩) ⟨PX.blind, va_recv hK hP (ci := 7) (q0 := 3) rfl rfl, fun U hU hW => ⟨rfl, PX.at hK hE hP hS hU hW⟩⟩ rfl rfl hl.1 rfl (lv_room (Nat.le_of_ble_eq_true rfl)) dX11_need_50 ⟨Nat.le_of_ble_eq_true rfl, Nat.le_of_ble_eq_true rfl⟩) hS (fun q _ h => (freeX hS) q h) (freeX hS) (fun r2279 u t H1 locs ht hvm hw hB hz1 hk1 hS => ?_)
          unfold BX at hB
          rw [ht] at hB
          have hP : va_P (dC, dI) classes (wX g c v F rc) H1 := hB
          generalize H1 = H at hP hS ⊢
          have rr_r2279 := i32_rng r2279
          refine lv_iload_n hx hb dX11_need_53 rfl (lv_at hl 3 rfl) ?_
          refine lv_icmp_le (tgt := 60) hx hb dX11_need_54 (by decide) (fun c2280 => ?_) (fun c2280 => ?_)
          · skip
            have t2281 := cv_le (a := r2279.toInt) rfl (b := p2.toInt) rfl c2280
            refine lv_aload_n hx hb dX11_need_60 rfl (lv_at hl 0 rfl) ?_
            refine va_get (D := (dC, dI)) (ci := 11) (v := .ref (g 2)) (C := RX11) (T := TX11) (N := 14) hx hb hwd inA_X11 hown hK hP 0 rfl rfl 1 (by decide) (hwd _ wk_19) (fun _ h9 => h9) rfl dX11_need_61 ?_
            refine lv_iload_n hx hb dX11_need_64 rfl (lv_at hl 1 rfl) ?_
            refine lv_iload_n hx hb dX11_need_65 rfl (lv_at hl 2 rfl) ?_
            refine lv_iload_n hx hb dX11_need_66 rfl (lv_at hl 3 rfl) ?_
            refine va_calli (va_runV (As := [.int p0, .int p1, .int p2]) (rest := []) ⟨hx, hb, hml, hown, hwd⟩ (c_X8_changeNeed l dC dI g c adK adV v F rc H.size p0 p1 p2 hg hI (by omega) (by omega)) (cwV 3 hwd (gV wk_293 wk_290 wk_291 wk_292 wk_18) rfl rfl rfl (by decide +kernel) ⟨Nat.le_of_ble_eq_true rfl, Nat.le_of_ble_eq_true rfl⟩) ⟨PX.blind, va_recv hK hP (ci := 8) (q0 := 2) rfl rfl, fun U hU hW => ⟨rfl, PX.at hK hE hP hS hU hW⟩⟩ rfl rfl hl.1 rfl (lv_room (Nat.le_of_ble_eq_true rfl)) dX11_need_67 ⟨Nat.le_of_ble_eq_true rfl, Nat.le_of_ble_eq_true rfl⟩) hS (fun q _ h => (freeX hS) q h) (freeX hS) (fun r2282 u t H1 locs ht hvm hw hB hz1 hk1 hS => ?_)
            unfold BX at hB
            rw [ht] at hB
            obtain ⟨v2283, F2284, rc9⟩ := u
            obtain ⟨hI, hal9, hrc, hf2285, hw⟩ := hw
            dsimp only at hI hal9 hrc hB hf2285 hw
            rw [hrc] at hB
            have hal := hal9.trans hal
            have hP : va_P (dC, dI) classes (wX g c v2283 F2284 rc) H1 := hB
            generalize H1 = H at hP hS ⊢
            have rr_r2282 := i32_rng r2282
            have hP9 : va_P (dC, dI) classes (wX g c v2283 F2284 rc) H := hP
            exact W.iret (v := r2282) hx hb hr (fun t ht hW => ⟨⟨r2282, (v2283, F2284, rc), rfl, ⟨hI, hal, rfl, (frC (by decide) hf2285 (fun _ _ => rfl)), trivial⟩, (by show va_P _ _ _ t.heap; rw [ht]; exact hP9)⟩, hS.F ht⟩) hS.2.2 dX11_need_70
          · skip
            have t2286 := cv_nle (a := r2279.toInt) rfl (b := p2.toInt) rfl c2280
            refine lv_bipush (v := (-2)) hx hb dX11_need_57 (by decide) ?_
            have hP9 : va_P (dC, dI) classes (wX g c v F rc) H := hP
            exact W.iret (v := (-2)) hx hb hr (fun t ht hW => ⟨⟨(-2), (v, F, rc), rfl, ⟨hI, hal, rfl, (fun _ _ => rfl), trivial⟩, (by show va_P _ _ _ t.heap; rw [ht]; exact hP9)⟩, hS.F ht⟩) hS.2.2 dX11_need_59
      · skip
        have t2287 := cv_eq (a := r2270.toInt) rfl (b := 0) (by decide) c2273
        refine lv_iconst (v := (-1)) hx hb dX11_need_31 (by decide) ?_
        have hP9 : va_P (dC, dI) classes (wX g c v F rc) H := hP
        exact W.iret (v := (-1)) hx hb hr (fun t ht hW => ⟨⟨(-1), (v, F, rc), rfl, ⟨hI, hal, rfl, (fun _ _ => rfl), trivial⟩, (by show va_P _ _ _ t.heap; rw [ht]; exact hP9)⟩, hS.F ht⟩) hS.2.2 dX11_need_32
set_option maxHeartbeats 8000000 in
set_option maxRecDepth 100000 in
theorem c_X11_fly (l : Launch) (dC : Nat → ClassId) (dI : Nat → Nat → Nat) (g : Nat → Nat) (c : Nat → ClassId) (adK adV : Nat → Nat) (v : Nat → Int32) (F : Nat → Nat → Int32) (rc sz : Nat) (p0 : Int32) (p1 : Int32) (p2 : Int32) (hg : injX g) (hI : IX v F) : Met l yX11_fly (Cond.code yX11_fly cX11_fly 4 (some .int) :: wA) ({ frames := 8, cells := 0, slots := 0, locals := 320 }) (va_Pc [.ref (g 0), .int p0, .int p1, .int p2] (PX dC dI g c adK adV v F rc sz)) (va_Qi (fun (r : Int32) (u : StX) => IX u.1 u.2.1 ∧ alX u.1 u.2.1 = alX v F ∧ u.2.2 = rc ∧ (∀ k, k ∉ ([126] : List Nat) → u.1 k = v k) ∧ True) (BX dC dI g c) (AX g sz)) 0 0 (AX g sz) := by
  refine Met.ofW (cc := cX11_fly) (maxL := 4) (ret := (some .int)) (by decide) rfl ?_
  intro p e s m args below meth c0 s₁ B hml hv
  obtain ⟨rfl, hsz, hP, hK, hE⟩ := hv
  have hx := B.exec
  have hb := B.bytes
  have hr := B.returns
  have hts := atoms_spec (ws := Cond.code yX11_fly cX11_fly 4 (some .int) :: wA) B.pre
  have hwd : ∀ w ∈ wA, w.before _ s = true := fun w h => hts w (List.mem_cons_of_mem _ h)
  have hown : s.vm.findClass RX11 = some m.cls := findClass_of_methodNamed B.named
  have hlocks := B.notSynchronized
  subst hsz
  have hl := lv_entry ([.ref (g 0), .int p0, .int p1, .int p2]) (n := 4) (Nat.le_of_ble_eq_true rfl)
  rw [lg_entry_eq]
  generalize (lg_sl ([.ref (g 0), .int p0, .int p1, .int p2]) ++ List.replicate (4 - (lg_sl ([.ref (g 0), .int p0, .int p1, .int p2])).length) Slot.unset).toArray = ls at hl ⊢
  have hl : lv_has ls 4 [(0, .ref (g 0)), (1, .int p0), (2, .int p1), (3, .int p2)] := hl
  obtain ⟨H, eH⟩ : ∃ z, z = s.heap := ⟨_, rfl⟩
  have hP : va_P (dC, dI) classes (wX g c v F rc) H := by rw [eH]; exact hP
  have hS : va_S (AX g s.heap.size) s.heap H [] := by rw [eH]; exact va_S.rf
  refine my_heap eH ?_
  have hal : alX v F = alX v F := rfl
  have rp0 := i32_rng p0
  have rp1 := i32_rng p1
  have rp2 := i32_rng p2
  refine lv_aload_n hx hb dX11_fly_0 rfl (lv_at hl 0 rfl) ?_
  refine va_get (D := (dC, dI)) (ci := 11) (v := .ref (g 2)) (C := RX11) (T := TX11) (N := 14) hx hb hwd inA_X11 hown hK hP 0 rfl rfl 1 (by decide) (hwd _ wk_19) (fun _ h9 => h9) rfl dX11_fly_1 ?_
  refine lv_iload_n hx hb dX11_fly_4 rfl (lv_at hl 1 rfl) ?_
  refine va_calli (va_runV (As := [.int p0]) (rest := []) ⟨hx, hb, hml, hown, hwd⟩ (c_X8_has l dC dI g c adK adV v F rc H.size p0 hg hI ) (cwV 1 hwd (gV wk_276 wk_273 wk_274 wk_275 wk_18) rfl rfl rfl (by decide +kernel) ⟨Nat.le_of_ble_eq_true rfl, Nat.le_of_ble_eq_true rfl⟩) ⟨PX.blind, va_recv hK hP (ci := 8) (q0 := 2) rfl rfl, fun U hU hW => ⟨rfl, PX.at hK hE hP hS hU hW⟩⟩ rfl rfl hl.1 rfl (lv_room (Nat.le_of_ble_eq_true rfl)) dX11_fly_5 ⟨Nat.le_of_ble_eq_true rfl, Nat.le_of_ble_eq_true rfl⟩) hS (fun q _ h => (freeX hS) q h) (freeX hS) (fun r2288 u t H1 locs ht hvm hw hB hz1 hk1 hS => ?_)
  unfold BX at hB
  rw [ht] at hB
  have hP : va_P (dC, dI) classes (wX g c v F rc) H1 := hB
  have hw : (0 ≤ r2288.toInt ∧ r2288.toInt ≤ 1) ∧ (r2288.toInt = 1 → 0 ≤ p0.toInt ∧ p0.toInt < 10) := hw
  generalize H1 = H at hP hS ⊢
  have hw_r2288 := hw
  refine lv_if_eq (tgt := 33) hx hb dX11_fly_8 (by decide) (fun c2289 => ?_) (fun c2289 => ?_)
  · skip
    have t2290 := cv_eq (a := r2288.toInt) rfl (b := 0) (by decide) c2289
    refine lv_iconst (v := (-1)) hx hb dX11_fly_33 (by decide) ?_
    have hP9 : va_P (dC, dI) classes (wX g c v F rc) H := hP
    exact W.iret (v := (-1)) hx hb hr (fun t ht hW => ⟨⟨(-1), (v, F, rc), rfl, ⟨hI, hal, rfl, (fun _ _ => rfl), trivial⟩, (by show va_P _ _ _ t.heap; rw [ht]; exact hP9)⟩, hS.F ht⟩) hS.2.2 dX11_fly_34
  · skip
    have t2291 := cv_ne (a := r2288.toInt) rfl (b := 0) (by decide) c2289
    refine lv_iload_n hx hb dX11_fly_11 rfl (lv_at hl 2 rfl) ?_
    refine lv_iconst (v := 1) hx hb dX11_fly_12 (by decide) ?_
    refine lv_sipush (v := 999) hx hb dX11_fly_13 (by decide) ?_
    refine va_calli (va_runS (As := [.int p1, .int 1, .int 999]) (rest := []) ⟨hx, hb, hml, hown, hwd⟩ (c_X11_within l dC dI g c adK adV v F rc H.size p1 1 999 hg hI ) (va_cwS 3 hwd (gT wk_239 wk_237 wk_238 wk_2) rfl rfl rfl (by decide +kernel) ⟨Nat.le_of_ble_eq_true rfl, Nat.le_of_ble_eq_true rfl⟩) ⟨PX.blind, fun U hU hW => ⟨rfl, PX.at hK hE hP hS hU hW⟩⟩ rfl rfl hl.1 rfl (lv_room (Nat.le_of_ble_eq_true rfl)) dX11_fly_16 ⟨Nat.le_of_ble_eq_true rfl, Nat.le_of_ble_eq_true rfl⟩) hS (fun q _ h => (freeX hS) q h) (freeX hS) (fun r2292 u t H1 locs ht hvm hw hB hz1 hk1 hS => ?_)
    unfold BX at hB
    rw [ht] at hB
    have hP : va_P (dC, dI) classes (wX g c v F rc) H1 := hB
    have hw : (r2292.toInt = 1 ∧ (1 : Int32).toInt ≤ p1.toInt ∧ p1.toInt ≤ (999 : Int32).toInt) ∨ (r2292.toInt = 0 ∧ (p1.toInt < (1 : Int32).toInt ∨ (999 : Int32).toInt < p1.toInt)) := hw
    have k2293 : (1 : Int32).toInt = 1 := by decide
    have k2294 : (999 : Int32).toInt = 999 := by decide
    generalize H1 = H at hP hS ⊢
    have hw_r2292 := hw
    refine lv_if_eq (tgt := 33) hx hb dX11_fly_19 (by decide) (fun c2295 => ?_) (fun c2295 => ?_)
    · skip
      have t2296 := cv_eq (a := r2292.toInt) rfl (b := 0) (by decide) c2295
      refine lv_iconst (v := (-1)) hx hb dX11_fly_33 (by decide) ?_
      have hP9 : va_P (dC, dI) classes (wX g c v F rc) H := hP
      exact W.iret (v := (-1)) hx hb hr (fun t ht hW => ⟨⟨(-1), (v, F, rc), rfl, ⟨hI, hal, rfl, (fun _ _ => rfl), trivial⟩, (by show va_P _ _ _ t.heap; rw [ht]; exact hP9)⟩, hS.F ht⟩) hS.2.2 dX11_fly_34
    · skip
      have t2297 := cv_ne (a := r2292.toInt) rfl (b := 0) (by decide) c2295
      refine lv_iload_n hx hb dX11_fly_22 rfl (lv_at hl 3 rfl) ?_
      refine lv_iconst (v := 0) hx hb dX11_fly_23 (by decide) ?_
      refine lv_sipush (v := 999) hx hb dX11_fly_24 (by decide) ?_
      refine va_calli (va_runS (As := [.int p2, .int 0, .int 999]) (rest := []) ⟨hx, hb, hml, hown, hwd⟩ (c_X11_within l dC dI g c adK adV v F rc H.size p2 0 999 hg hI ) (va_cwS 3 hwd (gT wk_239 wk_237 wk_238 wk_2) rfl rfl rfl (by decide +kernel) ⟨Nat.le_of_ble_eq_true rfl, Nat.le_of_ble_eq_true rfl⟩) ⟨PX.blind, fun U hU hW => ⟨rfl, PX.at hK hE hP hS hU hW⟩⟩ rfl rfl hl.1 rfl (lv_room (Nat.le_of_ble_eq_true rfl)) dX11_fly_27 ⟨Nat.le_of_ble_eq_true rfl, Nat.le_of_ble_eq_true rfl⟩) hS (fun q _ h => (freeX hS) q h) (freeX hS) (fun r2298 u t H1 locs ht hvm hw hB hz1 hk1 hS => ?_)
      unfold BX at hB
      rw [ht] at hB
      have hP : va_P (dC, dI) classes (wX g c v F rc) H1 := hB
      have hw : (r2298.toInt = 1 ∧ (0 : Int32).toInt ≤ p2.toInt ∧ p2.toInt ≤ (999 : Int32).toInt) ∨ (r2298.toInt = 0 ∧ (p2.toInt < (0 : Int32).toInt ∨ (999 : Int32).toInt < p2.toInt)) := hw
      have k2299 : (0 : Int32).toInt = 0 := by decide
      have k2300 : (999 : Int32).toInt = 999 := by decide
      generalize H1 = H at hP hS ⊢
      have hw_r2298 := hw
      refine lv_if_ne (tgt := 35) hx hb dX11_fly_30 (by decide) (fun c2301 => ?_) (fun c2301 => ?_)
      · skip
        have t2302 := cv_ne (a := r2298.toInt) rfl (b := 0) (by decide) c2301
        refine lv_aload_n hx hb dX11_fly_35 rfl (lv_at hl 0 rfl) ?_
        refine va_get (D := (dC, dI)) (ci := 11) (v := .ref (g 2)) (C := RX11) (T := TX11) (N := 14) hx hb hwd inA_X11 hown hK hP 0 rfl rfl 1 (by decide) (hwd _ wk_19) (fun _ h9 => h9) rfl dX11_fly_36 ?_
        refine lv_iload_n hx hb dX11_fly_39 rfl (lv_at hl 1 rfl) ?_
        refine va_calli (va_runV (As := [.int p0]) (rest := []) ⟨hx, hb, hml, hown, hwd⟩ (c_X8_isBack l dC dI g c adK adV v F rc H.size p0 hg hI (by omega)) (cwV 1 hwd (gV wk_284 wk_281 wk_282 wk_283 wk_18) rfl rfl rfl (by decide +kernel) ⟨Nat.le_of_ble_eq_true rfl, Nat.le_of_ble_eq_true rfl⟩) ⟨PX.blind, va_recv hK hP (ci := 8) (q0 := 2) rfl rfl, fun U hU hW => ⟨rfl, PX.at hK hE hP hS hU hW⟩⟩ rfl rfl hl.1 rfl (lv_room (Nat.le_of_ble_eq_true rfl)) dX11_fly_40 ⟨Nat.le_of_ble_eq_true rfl, Nat.le_of_ble_eq_true rfl⟩) hS (fun q _ h => (freeX hS) q h) (freeX hS) (fun r2303 u t H1 locs ht hvm hw hB hz1 hk1 hS => ?_)
        unfold BX at hB
        rw [ht] at hB
        have hP : va_P (dC, dI) classes (wX g c v F rc) H1 := hB
        have hw : 0 ≤ r2303.toInt ∧ r2303.toInt ≤ 1 := hw
        generalize H1 = H at hP hS ⊢
        have hw_r2303 := hw
        refine lv_if_ne (tgt := 65) hx hb dX11_fly_43 (by decide) (fun c2304 => ?_) (fun c2304 => ?_)
        · skip
          have t2305 := cv_ne (a := r2303.toInt) rfl (b := 0) (by decide) c2304
          refine lv_bipush (v := (-2)) hx hb dX11_fly_65 (by decide) ?_
          have hP9 : va_P (dC, dI) classes (wX g c v F rc) H := hP
          exact W.iret (v := (-2)) hx hb hr (fun t ht hW => ⟨⟨(-2), (v, F, rc), rfl, ⟨hI, hal, rfl, (fun _ _ => rfl), trivial⟩, (by show va_P _ _ _ t.heap; rw [ht]; exact hP9)⟩, hS.F ht⟩) hS.2.2 dX11_fly_67
        · skip
          have t2306 := cv_eq (a := r2303.toInt) rfl (b := 0) (by decide) c2304
          refine lv_aload_n hx hb dX11_fly_46 rfl (lv_at hl 0 rfl) ?_
          refine va_get (D := (dC, dI)) (ci := 11) (v := .ref (g 11)) (C := RX11) (T := TX11) (N := 14) hx hb hwd inA_X11 hown hK hP 0 rfl rfl 10 (by decide) (hwd _ wk_55) (fun _ h9 => h9) rfl dX11_fly_47 ?_
          refine lv_iload_n hx hb dX11_fly_50 rfl (lv_at hl 1 rfl) ?_
          refine lv_aload_n hx hb dX11_fly_51 rfl (lv_at hl 0 rfl) ?_
          refine va_get (D := (dC, dI)) (ci := 11) (v := .int (v 11)) (C := RX11) (T := TX11) (N := 14) hx hb hwd inA_X11 hown hK hP 0 rfl rfl 11 (by decide) (hwd _ wk_323) (fun _ h9 => h9) rfl dX11_fly_52 ?_
          have t2307 : 0 ≤ (v 11).toInt ∧ (v 11).toInt ≤ 9999 := hI.1 11 _ _ rfl
          refine lv_aload_n hx hb dX11_fly_55 rfl (lv_at hl 0 rfl) ?_
          refine va_get (D := (dC, dI)) (ci := 11) (v := .int (v 11)) (C := RX11) (T := TX11) (N := 14) hx hb hwd inA_X11 hown hK hP 0 rfl rfl 11 (by decide) (hwd _ wk_323) (fun _ h9 => h9) rfl dX11_fly_56 ?_
          have t2308 : 0 ≤ (v 11).toInt ∧ (v 11).toInt ≤ 9999 := hI.1 11 _ _ rfl
          refine va_calli (va_runV (As := [.int p0, .int (v 11), .int (v 11)]) (rest := []) ⟨hx, hb, hml, hown, hwd⟩ (c_X1_groundOf l dC dI g c adK adV v F rc H.size p0 (v 11) (v 11) hg hI (by omega)) (cwV 3 hwd (gV wk_340 wk_337 wk_338 wk_339 wk_54) rfl rfl rfl (by decide +kernel) ⟨Nat.le_of_ble_eq_true rfl, Nat.le_of_ble_eq_true rfl⟩) ⟨PX.blind, va_recv hK hP (ci := 1) (q0 := 11) rfl rfl, fun U hU hW => ⟨rfl, PX.at hK hE hP hS hU hW⟩⟩ rfl rfl hl.1 rfl (lv_room (Nat.le_of_ble_eq_true rfl)) dX11_fly_59 ⟨Nat.le_of_ble_eq_true rfl, Nat.le_of_ble_eq_true rfl⟩) hS (fun q _ h => (freeX hS) q h) (freeX hS) (fun r2309 u t H1 locs ht hvm hw hB hz1 hk1 hS => ?_)
          unfold BX at hB
          rw [ht] at hB
          obtain ⟨v2310, F2311, rc9⟩ := u
          obtain ⟨hI, hal9, hrc, hf2312, hw⟩ := hw
          dsimp only at hI hal9 hrc hB hf2312 hw
          rw [hrc] at hB
          have hal := hal9.trans hal
          have hP : va_P (dC, dI) classes (wX g c v2310 F2311 rc) H1 := hB
          generalize H1 = H at hP hS ⊢
          have rr_r2309 := i32_rng r2309
          refine lv_if_eq (tgt := 68) hx hb dX11_fly_62 (by decide) (fun c2313 => ?_) (fun c2313 => ?_)
          · skip
            have t2314 := cv_eq (a := r2309.toInt) rfl (b := 0) (by decide) c2313
            refine lv_aload_n hx hb dX11_fly_68 rfl (lv_at hl 0 rfl) ?_
            refine va_get (D := (dC, dI)) (ci := 11) (v := .ref (g 2)) (C := RX11) (T := TX11) (N := 14) hx hb hwd inA_X11 hown hK hP 0 rfl rfl 1 (by decide) (hwd _ wk_19) (fun _ h9 => h9) rfl dX11_fly_69 ?_
            refine lv_iload_n hx hb dX11_fly_72 rfl (lv_at hl 1 rfl) ?_
            refine lv_iload_n hx hb dX11_fly_73 rfl (lv_at hl 2 rfl) ?_
            refine lv_iload_n hx hb dX11_fly_74 rfl (lv_at hl 3 rfl) ?_
            refine va_calli (va_runV (As := [.int p0, .int p1, .int p2]) (rest := []) ⟨hx, hb, hml, hown, hwd⟩ (c_X8_canFly l dC dI g c adK adV v2310 F2311 rc H.size p0 p1 p2 hg hI (by omega)) (cwV 3 hwd (gV wk_441 wk_438 wk_439 wk_440 wk_18) rfl rfl rfl (by decide +kernel) ⟨Nat.le_of_ble_eq_true rfl, Nat.le_of_ble_eq_true rfl⟩) ⟨PX.blind, va_recv hK hP (ci := 8) (q0 := 2) rfl rfl, fun U hU hW => ⟨rfl, PX.at hK hE hP hS hU hW⟩⟩ rfl rfl hl.1 rfl (lv_room (Nat.le_of_ble_eq_true rfl)) dX11_fly_75 ⟨Nat.le_of_ble_eq_true rfl, Nat.le_of_ble_eq_true rfl⟩) hS (fun q _ h => (freeX hS) q h) (freeX hS) (fun r2315 u t H1 locs ht hvm hw hB hz1 hk1 hS => ?_)
            unfold BX at hB
            rw [ht] at hB
            have hP : va_P (dC, dI) classes (wX g c v2310 F2311 rc) H1 := hB
            have hw : 0 ≤ r2315.toInt ∧ r2315.toInt ≤ 1 := hw
            generalize H1 = H at hP hS ⊢
            have hw_r2315 := hw
            refine lv_if_eq (tgt := 94) hx hb dX11_fly_78 (by decide) (fun c2316 => ?_) (fun c2316 => ?_)
            · skip
              have t2317 := cv_eq (a := r2315.toInt) rfl (b := 0) (by decide) c2316
              refine lv_bipush (v := (-2)) hx hb dX11_fly_94 (by decide) ?_
              have hP9 : va_P (dC, dI) classes (wX g c v2310 F2311 rc) H := hP
              exact W.iret (v := (-2)) hx hb hr (fun t ht hW => ⟨⟨(-2), (v2310, F2311, rc), rfl, ⟨hI, hal, rfl, (frC (by decide) hf2312 (fun _ _ => rfl)), trivial⟩, (by show va_P _ _ _ t.heap; rw [ht]; exact hP9)⟩, hS.F ht⟩) hS.2.2 dX11_fly_96
            · skip
              have t2318 := cv_ne (a := r2315.toInt) rfl (b := 0) (by decide) c2316
              refine lv_aload_n hx hb dX11_fly_81 rfl (lv_at hl 0 rfl) ?_
              refine va_get (D := (dC, dI)) (ci := 11) (v := .ref (g 3)) (C := RX11) (T := TX11) (N := 14) hx hb hwd inA_X11 hown hK hP 0 rfl rfl 2 (by decide) (hwd _ wk_27) (fun _ h9 => h9) rfl dX11_fly_82 ?_
              refine lv_iload_n hx hb dX11_fly_85 rfl (lv_at hl 1 rfl) ?_
              refine lv_iload_n hx hb dX11_fly_86 rfl (lv_at hl 2 rfl) ?_
              refine lv_iload_n hx hb dX11_fly_87 rfl (lv_at hl 3 rfl) ?_
              refine va_calli (va_runV (As := [.int p0, .int p1, .int p2]) (rest := []) ⟨hx, hb, hml, hown, hwd⟩ (c_X7_canFly l dC dI g c adK adV v2310 F2311 rc H.size p0 p1 p2 hg hI ) (cwV 3 hwd (gV wk_446 wk_443 wk_444 wk_445 wk_26) rfl rfl rfl (by decide +kernel) ⟨Nat.le_of_ble_eq_true rfl, Nat.le_of_ble_eq_true rfl⟩) ⟨PX.blind, va_recv hK hP (ci := 7) (q0 := 3) rfl rfl, fun U hU hW => ⟨rfl, PX.at hK hE hP hS hU hW⟩⟩ rfl rfl hl.1 rfl (lv_room (Nat.le_of_ble_eq_true rfl)) dX11_fly_88 ⟨Nat.le_of_ble_eq_true rfl, Nat.le_of_ble_eq_true rfl⟩) hS (fun q _ h => (freeX hS) q h) (freeX hS) (fun r2319 u t H1 locs ht hvm hw hB hz1 hk1 hS => ?_)
              unfold BX at hB
              rw [ht] at hB
              have hP : va_P (dC, dI) classes (wX g c v2310 F2311 rc) H1 := hB
              have hw : 0 ≤ r2319.toInt ∧ r2319.toInt ≤ 1 := hw
              generalize H1 = H at hP hS ⊢
              have hw_r2319 := hw
              refine lv_if_ne (tgt := 97) hx hb dX11_fly_91 (by decide) (fun c2320 => ?_) (fun c2320 => ?_)
              · skip
                have t2321 := cv_ne (a := r2319.toInt) rfl (b := 0) (by decide) c2320
                refine lv_aload_n hx hb dX11_fly_97 rfl (lv_at hl 0 rfl) ?_
                refine va_get (D := (dC, dI)) (ci := 11) (v := .ref (g 3)) (C := RX11) (T := TX11) (N := 14) hx hb hwd inA_X11 hown hK hP 0 rfl rfl 2 (by decide) (hwd _ wk_27) (fun _ h9 => h9) rfl dX11_fly_98 ?_
                refine lv_iload_n hx hb dX11_fly_101 rfl (lv_at hl 1 rfl) ?_
                refine lv_iload_n hx hb dX11_fly_102 rfl (lv_at hl 2 rfl) ?_
                refine lv_iload_n hx hb dX11_fly_103 rfl (lv_at hl 3 rfl) ?_
                refine va_callv (va_runV (As := [.int p0, .int p1, .int p2]) (rest := []) ⟨hx, hb, hml, hown, hwd⟩ (c_X7_wear l dC dI g c adK adV v2310 F2311 rc H.size p0 p1 p2 hg hI ) (cwV 3 hwd (gV wk_452 wk_449 wk_450 wk_451 wk_26) rfl rfl rfl (by decide +kernel) ⟨Nat.le_of_ble_eq_true rfl, Nat.le_of_ble_eq_true rfl⟩) ⟨PX.blind, va_recv hK hP (ci := 7) (q0 := 3) rfl rfl, fun U hU hW => ⟨rfl, PX.at hK hE hP hS hU hW⟩⟩ rfl rfl hl.1 rfl (lv_room (Nat.le_of_ble_eq_true rfl)) dX11_fly_104 ⟨Nat.le_of_ble_eq_true rfl, Nat.le_of_ble_eq_true rfl⟩) hS (fun q _ h => (freeX hS) q h) (freeX hS) (fun u t H1 locs ht hvm hw hB hz1 hk1 hS => ?_)
                unfold BX at hB
                rw [ht] at hB
                obtain ⟨v2323, F2324, rc9⟩ := u
                obtain ⟨hI, hal9, hrc, hf2325, hw⟩ := hw
                dsimp only at hI hal9 hrc hB hf2325 hw
                rw [hrc] at hB
                have hal := hal9.trans hal
                have hP : va_P (dC, dI) classes (wX g c v2323 F2324 rc) H1 := hB
                generalize H1 = H at hP hS ⊢
                refine lv_aload_n hx hb dX11_fly_107 rfl (lv_at hl 0 rfl) ?_
                refine lv_iload_n hx hb dX11_fly_108 rfl (lv_at hl 1 rfl) ?_
                refine lv_iload_n hx hb dX11_fly_109 rfl (lv_at hl 2 rfl) ?_
                refine va_callv (va_runV (As := [.int p0, .int p1]) (rest := []) ⟨hx, hb, hml, hown, hwd⟩ (c_X11_setReservesAside l dC dI g c adK adV v2323 F2324 rc H.size p0 p1 hg hI (by omega)) (cwV 2 hwd (gV wk_456 wk_453 wk_454 wk_455 wk_2) rfl rfl rfl (by decide +kernel) ⟨Nat.le_of_ble_eq_true rfl, Nat.le_of_ble_eq_true rfl⟩) ⟨PX.blind, va_recv hK hP (ci := 11) (q0 := 0) rfl rfl, fun U hU hW => ⟨rfl, PX.at hK hE hP hS hU hW⟩⟩ rfl rfl hl.1 rfl (lv_room (Nat.le_of_ble_eq_true rfl)) dX11_fly_110 ⟨Nat.le_of_ble_eq_true rfl, Nat.le_of_ble_eq_true rfl⟩) hS (fun q _ h => (freeX hS) q h) (freeX hS) (fun u t H1 locs ht hvm hw hB hz1 hk1 hS => ?_)
                unfold BX at hB
                rw [ht] at hB
                obtain ⟨v2327, F2328, rc9⟩ := u
                obtain ⟨hI, hal9, hrc, hf2329, hw⟩ := hw
                dsimp only at hI hal9 hrc hB hf2329 hw
                rw [hrc] at hB
                have hal := hal9.trans hal
                have hP : va_P (dC, dI) classes (wX g c v2327 F2328 rc) H1 := hB
                generalize H1 = H at hP hS ⊢
                refine lv_aload_n hx hb dX11_fly_113 rfl (lv_at hl 0 rfl) ?_
                refine va_get (D := (dC, dI)) (ci := 11) (v := .ref (g 2)) (C := RX11) (T := TX11) (N := 14) hx hb hwd inA_X11 hown hK hP 0 rfl rfl 1 (by decide) (hwd _ wk_19) (fun _ h9 => h9) rfl dX11_fly_114 ?_
                refine lv_iload_n hx hb dX11_fly_117 rfl (lv_at hl 1 rfl) ?_
                refine lv_iload_n hx hb dX11_fly_118 rfl (lv_at hl 2 rfl) ?_
                refine lv_iload_n hx hb dX11_fly_119 rfl (lv_at hl 3 rfl) ?_
                refine va_calli (va_runV (As := [.int p0, .int p1, .int p2]) (rest := []) ⟨hx, hb, hml, hown, hwd⟩ (c_X8_wear l dC dI g c adK adV v2327 F2328 rc H.size p0 p1 p2 hg hI (by omega)) (cwV 3 hwd (gV wk_476 wk_473 wk_474 wk_475 wk_18) rfl rfl rfl (by decide +kernel) ⟨Nat.le_of_ble_eq_true rfl, Nat.le_of_ble_eq_true rfl⟩) ⟨PX.blind, va_recv hK hP (ci := 8) (q0 := 2) rfl rfl, fun U hU hW => ⟨rfl, PX.at hK hE hP hS hU hW⟩⟩ rfl rfl hl.1 rfl (lv_room (Nat.le_of_ble_eq_true rfl)) dX11_fly_120 ⟨Nat.le_of_ble_eq_true rfl, Nat.le_of_ble_eq_true rfl⟩) hS (fun q _ h => (freeX hS) q h) (freeX hS) (fun r2330 u t H1 locs ht hvm hw hB hz1 hk1 hS => ?_)
                unfold BX at hB
                rw [ht] at hB
                obtain ⟨v2331, F2332, rc9⟩ := u
                obtain ⟨hI, hal9, hrc, hf2333, hw⟩ := hw
                dsimp only at hI hal9 hrc hB hf2333 hw
                rw [hrc] at hB
                have hal := hal9.trans hal
                have hP : va_P (dC, dI) classes (wX g c v2331 F2332 rc) H1 := hB
                generalize H1 = H at hP hS ⊢
                have rr_r2330 := i32_rng r2330
                have hP9 : va_P (dC, dI) classes (wX g c v2331 F2332 rc) H := hP
                exact W.iret (v := r2330) hx hb hr (fun t ht hW => ⟨⟨r2330, (v2331, F2332, rc), rfl, ⟨hI, hal, rfl, (frC (by decide) hf2333 (frC (by decide) hf2329 (frC (by decide) hf2325 (frC (by decide) hf2312 (fun _ _ => rfl))))), trivial⟩, (by show va_P _ _ _ t.heap; rw [ht]; exact hP9)⟩, hS.F ht⟩) hS.2.2 dX11_fly_123
              · skip
                have t2334 := cv_eq (a := r2319.toInt) rfl (b := 0) (by decide) c2320
                refine lv_bipush (v := (-2)) hx hb dX11_fly_94 (by decide) ?_
                have hP9 : va_P (dC, dI) classes (wX g c v2310 F2311 rc) H := hP
                exact W.iret (v := (-2)) hx hb hr (fun t ht hW => ⟨⟨(-2), (v2310, F2311, rc), rfl, ⟨hI, hal, rfl, (frC (by decide) hf2312 (fun _ _ => rfl)), trivial⟩, (by show va_P _ _ _ t.heap; rw [ht]; exact hP9)⟩, hS.F ht⟩) hS.2.2 dX11_fly_96
          · skip
            have t2335 := cv_ne (a := r2309.toInt) rfl (b := 0) (by decide) c2313
            refine lv_bipush (v := (-2)) hx hb dX11_fly_65 (by decide) ?_
            have hP9 : va_P (dC, dI) classes (wX g c v2310 F2311 rc) H := hP
            exact W.iret (v := (-2)) hx hb hr (fun t ht hW => ⟨⟨(-2), (v2310, F2311, rc), rfl, ⟨hI, hal, rfl, (frC (by decide) hf2312 (fun _ _ => rfl)), trivial⟩, (by show va_P _ _ _ t.heap; rw [ht]; exact hP9)⟩, hS.F ht⟩) hS.2.2 dX11_fly_67
      · skip
        have t2336 := cv_eq (a := r2298.toInt) rfl (b := 0) (by decide) c2301
        refine lv_iconst (v := (-1)) hx hb dX11_fly_33 (by decide) ?_
        have hP9 : va_P (dC, dI) classes (wX g c v F rc) H := hP
        exact W.iret (v := (-1)) hx hb hr (fun t ht hW => ⟨⟨(-1), (v, F, rc), rfl, ⟨hI, hal, rfl, (fun _ _ => rfl), trivial⟩, (by show va_P _ _ _ t.heap; rw [ht]; exact hP9)⟩, hS.F ht⟩) hS.2.2 dX11_fly_34
set_option maxHeartbeats 8000000 in
set_option maxRecDepth 100000 in
theorem c_X11_ofPlane (l : Launch) (dC : Nat → ClassId) (dI : Nat → Nat → Nat) (g : Nat → Nat) (c : Nat → ClassId) (adK adV : Nat → Nat) (v : Nat → Int32) (F : Nat → Nat → Int32) (rc sz : Nat) (p0 : Int32) (p1 : Int32) (hg : injX g) (hI : IX v F) : Met l yX11_ofPlane (Cond.code yX11_ofPlane cX11_ofPlane 3 (some .int) :: wA) ({ frames := 2, cells := 0, slots := 0, locals := 80 }) (va_Pc [.ref (g 0), .int p0, .int p1] (PX dC dI g c adK adV v F rc sz)) (va_Qi (fun (r : Int32) (u : Unit) => True) (fun (_ : Unit) => BX dC dI g c (v, F, rc)) (AX g sz)) 0 0 (AX g sz) := by
  refine Met.ofW (cc := cX11_ofPlane) (maxL := 3) (ret := (some .int)) (by decide) rfl ?_
  intro p e s m args below meth c0 s₁ B hml hv
  obtain ⟨rfl, hsz, hP, hK, hE⟩ := hv
  have hx := B.exec
  have hb := B.bytes
  have hr := B.returns
  have hts := atoms_spec (ws := Cond.code yX11_ofPlane cX11_ofPlane 3 (some .int) :: wA) B.pre
  have hwd : ∀ w ∈ wA, w.before _ s = true := fun w h => hts w (List.mem_cons_of_mem _ h)
  have hown : s.vm.findClass RX11 = some m.cls := findClass_of_methodNamed B.named
  have hlocks := B.notSynchronized
  subst hsz
  have hl := lv_entry ([.ref (g 0), .int p0, .int p1]) (n := 3) (Nat.le_of_ble_eq_true rfl)
  rw [lg_entry_eq]
  generalize (lg_sl ([.ref (g 0), .int p0, .int p1]) ++ List.replicate (3 - (lg_sl ([.ref (g 0), .int p0, .int p1])).length) Slot.unset).toArray = ls at hl ⊢
  have hl : lv_has ls 3 [(0, .ref (g 0)), (1, .int p0), (2, .int p1)] := hl
  obtain ⟨H, eH⟩ : ∃ z, z = s.heap := ⟨_, rfl⟩
  have hP : va_P (dC, dI) classes (wX g c v F rc) H := by rw [eH]; exact hP
  have hS : va_S (AX g s.heap.size) s.heap H [] := by rw [eH]; exact va_S.rf
  refine my_heap eH ?_
  have rp0 := i32_rng p0
  have rp1 := i32_rng p1
  refine lv_aload_n hx hb dX11_ofPlane_0 rfl (lv_at hl 0 rfl) ?_
  refine va_get (D := (dC, dI)) (ci := 11) (v := .ref (g 2)) (C := RX11) (T := TX11) (N := 14) hx hb hwd inA_X11 hown hK hP 0 rfl rfl 1 (by decide) (hwd _ wk_19) (fun _ h9 => h9) rfl dX11_ofPlane_1 ?_
  refine lv_iload_n hx hb dX11_ofPlane_4 rfl (lv_at hl 1 rfl) ?_
  refine va_calli (va_runV (As := [.int p0]) (rest := []) ⟨hx, hb, hml, hown, hwd⟩ (c_X8_has l dC dI g c adK adV v F rc H.size p0 hg hI ) (cwV 1 hwd (gV wk_276 wk_273 wk_274 wk_275 wk_18) rfl rfl rfl (by decide +kernel) ⟨Nat.le_of_ble_eq_true rfl, Nat.le_of_ble_eq_true rfl⟩) ⟨PX.blind, va_recv hK hP (ci := 8) (q0 := 2) rfl rfl, fun U hU hW => ⟨rfl, PX.at hK hE hP hS hU hW⟩⟩ rfl rfl hl.1 rfl (lv_room (Nat.le_of_ble_eq_true rfl)) dX11_ofPlane_5 ⟨Nat.le_of_ble_eq_true rfl, Nat.le_of_ble_eq_true rfl⟩) hS (fun q _ h => (freeX hS) q h) (freeX hS) (fun r2337 u t H1 locs ht hvm hw hB hz1 hk1 hS => ?_)
  unfold BX at hB
  rw [ht] at hB
  have hP : va_P (dC, dI) classes (wX g c v F rc) H1 := hB
  have hw : (0 ≤ r2337.toInt ∧ r2337.toInt ≤ 1) ∧ (r2337.toInt = 1 → 0 ≤ p0.toInt ∧ p0.toInt < 10) := hw
  generalize H1 = H at hP hS ⊢
  have hw_r2337 := hw
  refine lv_if_ne (tgt := 14) hx hb dX11_ofPlane_8 (by decide) (fun c2338 => ?_) (fun c2338 => ?_)
  · skip
    have t2339 := cv_ne (a := r2337.toInt) rfl (b := 0) (by decide) c2338
    refine lv_iload_n hx hb dX11_ofPlane_14 rfl (lv_at hl 2 rfl) ?_
    by_cases hlo2340 : p1.toInt < 0
    · refine lv_tableOut (tgt := 160) hx hb dX11_ofPlane_15 (Or.inl hlo2340) (by decide) ?_
      refine lv_ldc (v := (-2000000000)) hx hb hown (hwd _ wk_56) dX11_ofPlane_160 ?_
      have hP9 : va_P (dC, dI) classes (wX g c v F rc) H := hP
      exact W.iret (v := (-2000000000)) hx hb hr (fun t ht hW => ⟨⟨(-2000000000), (), rfl, trivial, (by show va_P _ _ _ t.heap; rw [ht]; exact hP9)⟩, hS.F ht⟩) hS.2.2 dX11_ofPlane_162
    by_cases hhi2341 : 8 < p1.toInt
    · refine lv_tableOut (tgt := 160) hx hb dX11_ofPlane_15 (Or.inr hhi2341) (by decide) ?_
      refine lv_ldc (v := (-2000000000)) hx hb hown (hwd _ wk_56) dX11_ofPlane_160 ?_
      have hP9 : va_P (dC, dI) classes (wX g c v F rc) H := hP
      exact W.iret (v := (-2000000000)) hx hb hr (fun t ht hW => ⟨⟨(-2000000000), (), rfl, trivial, (by show va_P _ _ _ t.heap; rw [ht]; exact hP9)⟩, hS.F ht⟩) hS.2.2 dX11_ofPlane_162
    rcases (show p1.toInt = 0 ∨ p1.toInt = 1 ∨ p1.toInt = 2 ∨ p1.toInt = 3 ∨ p1.toInt = 4 ∨ p1.toInt = 5 ∨ p1.toInt = 6 ∨ p1.toInt = 7 ∨ p1.toInt = 8 by omega) with hk | hk | hk | hk | hk | hk | hk | hk | hk
    · refine lv_tableIn (off := 49) (tgt := 64) hx hb dX11_ofPlane_15 hlo2340 hhi2341 (by rw [hk]; decide) (by decide) ?_
      refine lv_aload_n hx hb dX11_ofPlane_64 rfl (lv_at hl 0 rfl) ?_
      refine va_get (D := (dC, dI)) (ci := 11) (v := .ref (g 2)) (C := RX11) (T := TX11) (N := 14) hx hb hwd inA_X11 hown hK hP 0 rfl rfl 1 (by decide) (hwd _ wk_19) (fun _ h9 => h9) rfl dX11_ofPlane_65 ?_
      refine va_get (D := (dC, dI)) (ci := 8) (v := .ref (g 16)) (C := RX8) (T := TX8) (N := 10) hx hb hwd inA_X8 hown hK hP 2 rfl rfl 2 (by decide) (hwd _ wk_530) (fun _ h9 => h9) rfl dX11_ofPlane_68 ?_
      refine lv_iload_n hx hb dX11_ofPlane_71 rfl (lv_at hl 1 rfl) ?_
      refine va_iald hx hb hK hP 16 4 rfl rfl (i := p0) (vin (a := p0.toInt) rfl (by omega)) dX11_ofPlane_72 ?_
      refine lv_topi (fun z2342 e2343 => ?_)
      have hP9 : va_P (dC, dI) classes (wX g c v F rc) H := hP
      exact W.iret (v := z2342) hx hb hr (fun t ht hW => ⟨⟨z2342, (), rfl, trivial, (by show va_P _ _ _ t.heap; rw [ht]; exact hP9)⟩, hS.F ht⟩) hS.2.2 dX11_ofPlane_73
    · refine lv_tableIn (off := 59) (tgt := 74) hx hb dX11_ofPlane_15 hlo2340 hhi2341 (by rw [hk]; decide) (by decide) ?_
      refine lv_aload_n hx hb dX11_ofPlane_74 rfl (lv_at hl 0 rfl) ?_
      refine va_get (D := (dC, dI)) (ci := 11) (v := .ref (g 2)) (C := RX11) (T := TX11) (N := 14) hx hb hwd inA_X11 hown hK hP 0 rfl rfl 1 (by decide) (hwd _ wk_19) (fun _ h9 => h9) rfl dX11_ofPlane_75 ?_
      refine va_get (D := (dC, dI)) (ci := 8) (v := .ref (g 17)) (C := RX8) (T := TX8) (N := 10) hx hb hwd inA_X8 hown hK hP 2 rfl rfl 3 (by decide) (hwd _ wk_531) (fun _ h9 => h9) rfl dX11_ofPlane_78 ?_
      refine lv_iload_n hx hb dX11_ofPlane_81 rfl (lv_at hl 1 rfl) ?_
      refine va_iald hx hb hK hP 17 5 rfl rfl (i := p0) (vin (a := p0.toInt) rfl (by omega)) dX11_ofPlane_82 ?_
      refine lv_topi (fun z2344 e2345 => ?_)
      have hP9 : va_P (dC, dI) classes (wX g c v F rc) H := hP
      exact W.iret (v := z2344) hx hb hr (fun t ht hW => ⟨⟨z2344, (), rfl, trivial, (by show va_P _ _ _ t.heap; rw [ht]; exact hP9)⟩, hS.F ht⟩) hS.2.2 dX11_ofPlane_83
    · refine lv_tableIn (off := 69) (tgt := 84) hx hb dX11_ofPlane_15 hlo2340 hhi2341 (by rw [hk]; decide) (by decide) ?_
      refine lv_aload_n hx hb dX11_ofPlane_84 rfl (lv_at hl 0 rfl) ?_
      refine va_get (D := (dC, dI)) (ci := 11) (v := .ref (g 2)) (C := RX11) (T := TX11) (N := 14) hx hb hwd inA_X11 hown hK hP 0 rfl rfl 1 (by decide) (hwd _ wk_19) (fun _ h9 => h9) rfl dX11_ofPlane_85 ?_
      refine lv_iload_n hx hb dX11_ofPlane_88 rfl (lv_at hl 1 rfl) ?_
      refine va_calli (va_runV (As := [.int p0]) (rest := []) ⟨hx, hb, hml, hown, hwd⟩ (c_X8_isBack l dC dI g c adK adV v F rc H.size p0 hg hI (by omega)) (cwV 1 hwd (gV wk_284 wk_281 wk_282 wk_283 wk_18) rfl rfl rfl (by decide +kernel) ⟨Nat.le_of_ble_eq_true rfl, Nat.le_of_ble_eq_true rfl⟩) ⟨PX.blind, va_recv hK hP (ci := 8) (q0 := 2) rfl rfl, fun U hU hW => ⟨rfl, PX.at hK hE hP hS hU hW⟩⟩ rfl rfl hl.1 rfl (lv_room (Nat.le_of_ble_eq_true rfl)) dX11_ofPlane_89 ⟨Nat.le_of_ble_eq_true rfl, Nat.le_of_ble_eq_true rfl⟩) hS (fun q _ h => (freeX hS) q h) (freeX hS) (fun r2346 u t H1 locs ht hvm hw hB hz1 hk1 hS => ?_)
      unfold BX at hB
      rw [ht] at hB
      have hP : va_P (dC, dI) classes (wX g c v F rc) H1 := hB
      have hw : 0 ≤ r2346.toInt ∧ r2346.toInt ≤ 1 := hw
      generalize H1 = H at hP hS ⊢
      have hw_r2346 := hw
      refine lv_if_eq (tgt := 99) hx hb dX11_ofPlane_92 (by decide) (fun c2347 => ?_) (fun c2347 => ?_)
      · skip
        have t2348 := cv_eq (a := r2346.toInt) rfl (b := 0) (by decide) c2347
        refine lv_iconst (v := 0) hx hb dX11_ofPlane_99 (by decide) ?_
        have hP9 : va_P (dC, dI) classes (wX g c v F rc) H := hP
        exact W.iret (v := 0) hx hb hr (fun t ht hW => ⟨⟨0, (), rfl, trivial, (by show va_P _ _ _ t.heap; rw [ht]; exact hP9)⟩, hS.F ht⟩) hS.2.2 dX11_ofPlane_100
      · skip
        have t2349 := cv_ne (a := r2346.toInt) rfl (b := 0) (by decide) c2347
        refine lv_iconst (v := 1) hx hb dX11_ofPlane_95 (by decide) ?_
        refine lv_goto (tgt := 100) hx hb dX11_ofPlane_96 (by decide) ?_
        have hP9 : va_P (dC, dI) classes (wX g c v F rc) H := hP
        exact W.iret (v := 1) hx hb hr (fun t ht hW => ⟨⟨1, (), rfl, trivial, (by show va_P _ _ _ t.heap; rw [ht]; exact hP9)⟩, hS.F ht⟩) hS.2.2 dX11_ofPlane_100
    · refine lv_tableIn (off := 86) (tgt := 101) hx hb dX11_ofPlane_15 hlo2340 hhi2341 (by rw [hk]; decide) (by decide) ?_
      refine lv_aload_n hx hb dX11_ofPlane_101 rfl (lv_at hl 0 rfl) ?_
      refine va_get (D := (dC, dI)) (ci := 11) (v := .ref (g 3)) (C := RX11) (T := TX11) (N := 14) hx hb hwd inA_X11 hown hK hP 0 rfl rfl 2 (by decide) (hwd _ wk_27) (fun _ h9 => h9) rfl dX11_ofPlane_102 ?_
      refine lv_iload_n hx hb dX11_ofPlane_105 rfl (lv_at hl 1 rfl) ?_
      refine va_calli (va_runV (As := [.int p0]) (rest := []) ⟨hx, hb, hml, hown, hwd⟩ (c_X7_countAt l dC dI g c adK adV v F rc H.size p0 hg hI ) (cwV 1 hwd (gV wk_346 wk_537 wk_344 wk_345 wk_26) rfl rfl rfl (by decide +kernel) ⟨Nat.le_of_ble_eq_true rfl, Nat.le_of_ble_eq_true rfl⟩) ⟨PX.blind, va_recv hK hP (ci := 7) (q0 := 3) rfl rfl, fun U hU hW => ⟨rfl, PX.at hK hE hP hS hU hW⟩⟩ rfl rfl hl.1 rfl (lv_room (Nat.le_of_ble_eq_true rfl)) dX11_ofPlane_106 ⟨Nat.le_of_ble_eq_true rfl, Nat.le_of_ble_eq_true rfl⟩) hS (fun q _ h => (freeX hS) q h) (freeX hS) (fun r2350 u t H1 locs ht hvm hw hB hz1 hk1 hS => ?_)
      unfold BX at hB
      rw [ht] at hB
      have hP : va_P (dC, dI) classes (wX g c v F rc) H1 := hB
      generalize H1 = H at hP hS ⊢
      have rr_r2350 := i32_rng r2350
      have hP9 : va_P (dC, dI) classes (wX g c v F rc) H := hP
      exact W.iret (v := r2350) hx hb hr (fun t ht hW => ⟨⟨r2350, (), rfl, trivial, (by show va_P _ _ _ t.heap; rw [ht]; exact hP9)⟩, hS.F ht⟩) hS.2.2 dX11_ofPlane_109
    · refine lv_tableIn (off := 95) (tgt := 110) hx hb dX11_ofPlane_15 hlo2340 hhi2341 (by rw [hk]; decide) (by decide) ?_
      refine lv_aload_n hx hb dX11_ofPlane_110 rfl (lv_at hl 0 rfl) ?_
      refine va_get (D := (dC, dI)) (ci := 11) (v := .ref (g 2)) (C := RX11) (T := TX11) (N := 14) hx hb hwd inA_X11 hown hK hP 0 rfl rfl 1 (by decide) (hwd _ wk_19) (fun _ h9 => h9) rfl dX11_ofPlane_111 ?_
      refine va_get (D := (dC, dI)) (ci := 8) (v := .ref (g 15)) (C := RX8) (T := TX8) (N := 10) hx hb hwd inA_X8 hown hK hP 2 rfl rfl 1 (by decide) (hwd _ wk_532) (fun _ h9 => h9) rfl dX11_ofPlane_114 ?_
      refine lv_iload_n hx hb dX11_ofPlane_117 rfl (lv_at hl 1 rfl) ?_
      refine va_iald hx hb hK hP 15 3 rfl rfl (i := p0) (vin (a := p0.toInt) rfl (by omega)) dX11_ofPlane_118 ?_
      refine lv_topi (fun z2351 e2352 => ?_)
      have hP9 : va_P (dC, dI) classes (wX g c v F rc) H := hP
      exact W.iret (v := z2351) hx hb hr (fun t ht hW => ⟨⟨z2351, (), rfl, trivial, (by show va_P _ _ _ t.heap; rw [ht]; exact hP9)⟩, hS.F ht⟩) hS.2.2 dX11_ofPlane_119
    · refine lv_tableIn (off := 105) (tgt := 120) hx hb dX11_ofPlane_15 hlo2340 hhi2341 (by rw [hk]; decide) (by decide) ?_
      refine lv_aload_n hx hb dX11_ofPlane_120 rfl (lv_at hl 0 rfl) ?_
      refine va_get (D := (dC, dI)) (ci := 11) (v := .ref (g 2)) (C := RX11) (T := TX11) (N := 14) hx hb hwd inA_X11 hown hK hP 0 rfl rfl 1 (by decide) (hwd _ wk_19) (fun _ h9 => h9) rfl dX11_ofPlane_121 ?_
      refine va_get (D := (dC, dI)) (ci := 8) (v := .ref (g 18)) (C := RX8) (T := TX8) (N := 10) hx hb hwd inA_X8 hown hK hP 2 rfl rfl 4 (by decide) (hwd _ wk_533) (fun _ h9 => h9) rfl dX11_ofPlane_124 ?_
      refine lv_iload_n hx hb dX11_ofPlane_127 rfl (lv_at hl 1 rfl) ?_
      refine va_iald hx hb hK hP 18 6 rfl rfl (i := p0) (vin (a := p0.toInt) rfl (by omega)) dX11_ofPlane_128 ?_
      refine lv_topi (fun z2353 e2354 => ?_)
      have hP9 : va_P (dC, dI) classes (wX g c v F rc) H := hP
      exact W.iret (v := z2353) hx hb hr (fun t ht hW => ⟨⟨z2353, (), rfl, trivial, (by show va_P _ _ _ t.heap; rw [ht]; exact hP9)⟩, hS.F ht⟩) hS.2.2 dX11_ofPlane_129
    · refine lv_tableIn (off := 115) (tgt := 130) hx hb dX11_ofPlane_15 hlo2340 hhi2341 (by rw [hk]; decide) (by decide) ?_
      refine lv_aload_n hx hb dX11_ofPlane_130 rfl (lv_at hl 0 rfl) ?_
      refine va_get (D := (dC, dI)) (ci := 11) (v := .ref (g 2)) (C := RX11) (T := TX11) (N := 14) hx hb hwd inA_X11 hown hK hP 0 rfl rfl 1 (by decide) (hwd _ wk_19) (fun _ h9 => h9) rfl dX11_ofPlane_131 ?_
      refine va_get (D := (dC, dI)) (ci := 8) (v := .ref (g 19)) (C := RX8) (T := TX8) (N := 10) hx hb hwd inA_X8 hown hK hP 2 rfl rfl 5 (by decide) (hwd _ wk_534) (fun _ h9 => h9) rfl dX11_ofPlane_134 ?_
      refine lv_iload_n hx hb dX11_ofPlane_137 rfl (lv_at hl 1 rfl) ?_
      refine va_iald hx hb hK hP 19 7 rfl rfl (i := p0) (vin (a := p0.toInt) rfl (by omega)) dX11_ofPlane_138 ?_
      refine lv_topi (fun z2355 e2356 => ?_)
      have hP9 : va_P (dC, dI) classes (wX g c v F rc) H := hP
      exact W.iret (v := z2355) hx hb hr (fun t ht hW => ⟨⟨z2355, (), rfl, trivial, (by show va_P _ _ _ t.heap; rw [ht]; exact hP9)⟩, hS.F ht⟩) hS.2.2 dX11_ofPlane_139
    · refine lv_tableIn (off := 125) (tgt := 140) hx hb dX11_ofPlane_15 hlo2340 hhi2341 (by rw [hk]; decide) (by decide) ?_
      refine lv_aload_n hx hb dX11_ofPlane_140 rfl (lv_at hl 0 rfl) ?_
      refine va_get (D := (dC, dI)) (ci := 11) (v := .ref (g 9)) (C := RX11) (T := TX11) (N := 14) hx hb hwd inA_X11 hown hK hP 0 rfl rfl 8 (by decide) (hwd _ wk_47) (fun _ h9 => h9) rfl dX11_ofPlane_141 ?_
      refine va_get (D := (dC, dI)) (ci := 0) (v := .ref (g 59)) (C := RX0) (T := TX0) (N := 9) hx hb hwd inA_X0 hown hK hP 9 rfl rfl 2 (by decide) (hwd _ wk_535) (fun _ h9 => h9) rfl dX11_ofPlane_144 ?_
      refine lv_iload_n hx hb dX11_ofPlane_147 rfl (lv_at hl 1 rfl) ?_
      refine va_iald hx hb hK hP 59 47 rfl rfl (i := p0) (vin (a := p0.toInt) rfl (by omega)) dX11_ofPlane_148 ?_
      refine lv_topi (fun z2357 e2358 => ?_)
      have hP9 : va_P (dC, dI) classes (wX g c v F rc) H := hP
      exact W.iret (v := z2357) hx hb hr (fun t ht hW => ⟨⟨z2357, (), rfl, trivial, (by show va_P _ _ _ t.heap; rw [ht]; exact hP9)⟩, hS.F ht⟩) hS.2.2 dX11_ofPlane_149
    · refine lv_tableIn (off := 135) (tgt := 150) hx hb dX11_ofPlane_15 hlo2340 hhi2341 (by rw [hk]; decide) (by decide) ?_
      refine lv_aload_n hx hb dX11_ofPlane_150 rfl (lv_at hl 0 rfl) ?_
      refine va_get (D := (dC, dI)) (ci := 11) (v := .ref (g 9)) (C := RX11) (T := TX11) (N := 14) hx hb hwd inA_X11 hown hK hP 0 rfl rfl 8 (by decide) (hwd _ wk_47) (fun _ h9 => h9) rfl dX11_ofPlane_151 ?_
      refine va_get (D := (dC, dI)) (ci := 0) (v := .ref (g 60)) (C := RX0) (T := TX0) (N := 9) hx hb hwd inA_X0 hown hK hP 9 rfl rfl 3 (by decide) (hwd _ wk_536) (fun _ h9 => h9) rfl dX11_ofPlane_154 ?_
      refine lv_iload_n hx hb dX11_ofPlane_157 rfl (lv_at hl 1 rfl) ?_
      refine va_iald hx hb hK hP 60 48 rfl rfl (i := p0) (vin (a := p0.toInt) rfl (by omega)) dX11_ofPlane_158 ?_
      refine lv_topi (fun z2359 e2360 => ?_)
      have hP9 : va_P (dC, dI) classes (wX g c v F rc) H := hP
      exact W.iret (v := z2359) hx hb hr (fun t ht hW => ⟨⟨z2359, (), rfl, trivial, (by show va_P _ _ _ t.heap; rw [ht]; exact hP9)⟩, hS.F ht⟩) hS.2.2 dX11_ofPlane_159
  · skip
    have t2361 := cv_eq (a := r2337.toInt) rfl (b := 0) (by decide) c2338
    refine lv_ldc (v := (-2000000000)) hx hb hown (hwd _ wk_56) dX11_ofPlane_11 ?_
    have hP9 : va_P (dC, dI) classes (wX g c v F rc) H := hP
    exact W.iret (v := (-2000000000)) hx hb hr (fun t ht hW => ⟨⟨(-2000000000), (), rfl, trivial, (by show va_P _ _ _ t.heap; rw [ht]; exact hP9)⟩, hS.F ht⟩) hS.2.2 dX11_ofPlane_13
set_option maxHeartbeats 8000000 in
set_option maxRecDepth 100000 in
theorem c_X11_grounded (l : Launch) (dC : Nat → ClassId) (dI : Nat → Nat → Nat) (g : Nat → Nat) (c : Nat → ClassId) (adK adV : Nat → Nat) (v : Nat → Int32) (F : Nat → Nat → Int32) (rc sz : Nat) (p0 : Int32) (p1 : Int32) (hg : injX g) (hI : IX v F) : Met l yX11_grounded (Cond.code yX11_grounded cX11_grounded 3 (some .int) :: wA) ({ frames := 8, cells := 0, slots := 0, locals := 320 }) (va_Pc [.ref (g 0), .int p0, .int p1] (PX dC dI g c adK adV v F rc sz)) (va_Qi (fun (r : Int32) (u : StX) => IX u.1 u.2.1 ∧ alX u.1 u.2.1 = alX v F ∧ u.2.2 = rc ∧ (∀ k, k ∉ ([126] : List Nat) → u.1 k = v k) ∧ True) (BX dC dI g c) (AX g sz)) 0 0 (AX g sz) := by
  refine Met.ofW (cc := cX11_grounded) (maxL := 3) (ret := (some .int)) (by decide) rfl ?_
  intro p e s m args below meth c0 s₁ B hml hv
  obtain ⟨rfl, hsz, hP, hK, hE⟩ := hv
  have hx := B.exec
  have hb := B.bytes
  have hr := B.returns
  have hts := atoms_spec (ws := Cond.code yX11_grounded cX11_grounded 3 (some .int) :: wA) B.pre
  have hwd : ∀ w ∈ wA, w.before _ s = true := fun w h => hts w (List.mem_cons_of_mem _ h)
  have hown : s.vm.findClass RX11 = some m.cls := findClass_of_methodNamed B.named
  have hlocks := B.notSynchronized
  subst hsz
  have hl := lv_entry ([.ref (g 0), .int p0, .int p1]) (n := 3) (Nat.le_of_ble_eq_true rfl)
  rw [lg_entry_eq]
  generalize (lg_sl ([.ref (g 0), .int p0, .int p1]) ++ List.replicate (3 - (lg_sl ([.ref (g 0), .int p0, .int p1])).length) Slot.unset).toArray = ls at hl ⊢
  have hl : lv_has ls 3 [(0, .ref (g 0)), (1, .int p0), (2, .int p1)] := hl
  obtain ⟨H, eH⟩ : ∃ z, z = s.heap := ⟨_, rfl⟩
  have hP : va_P (dC, dI) classes (wX g c v F rc) H := by rw [eH]; exact hP
  have hS : va_S (AX g s.heap.size) s.heap H [] := by rw [eH]; exact va_S.rf
  refine my_heap eH ?_
  have hal : alX v F = alX v F := rfl
  have rp0 := i32_rng p0
  have rp1 := i32_rng p1
  refine lv_aload_n hx hb dX11_grounded_0 rfl (lv_at hl 0 rfl) ?_
  refine va_get (D := (dC, dI)) (ci := 11) (v := .ref (g 2)) (C := RX11) (T := TX11) (N := 14) hx hb hwd inA_X11 hown hK hP 0 rfl rfl 1 (by decide) (hwd _ wk_19) (fun _ h9 => h9) rfl dX11_grounded_1 ?_
  refine lv_iload_n hx hb dX11_grounded_4 rfl (lv_at hl 1 rfl) ?_
  refine va_calli (va_runV (As := [.int p0]) (rest := []) ⟨hx, hb, hml, hown, hwd⟩ (c_X8_has l dC dI g c adK adV v F rc H.size p0 hg hI ) (cwV 1 hwd (gV wk_276 wk_273 wk_274 wk_275 wk_18) rfl rfl rfl (by decide +kernel) ⟨Nat.le_of_ble_eq_true rfl, Nat.le_of_ble_eq_true rfl⟩) ⟨PX.blind, va_recv hK hP (ci := 8) (q0 := 2) rfl rfl, fun U hU hW => ⟨rfl, PX.at hK hE hP hS hU hW⟩⟩ rfl rfl hl.1 rfl (lv_room (Nat.le_of_ble_eq_true rfl)) dX11_grounded_5 ⟨Nat.le_of_ble_eq_true rfl, Nat.le_of_ble_eq_true rfl⟩) hS (fun q _ h => (freeX hS) q h) (freeX hS) (fun r2362 u t H1 locs ht hvm hw hB hz1 hk1 hS => ?_)
  unfold BX at hB
  rw [ht] at hB
  have hP : va_P (dC, dI) classes (wX g c v F rc) H1 := hB
  have hw : (0 ≤ r2362.toInt ∧ r2362.toInt ≤ 1) ∧ (r2362.toInt = 1 → 0 ≤ p0.toInt ∧ p0.toInt < 10) := hw
  generalize H1 = H at hP hS ⊢
  have hw_r2362 := hw
  refine lv_if_eq (tgt := 18) hx hb dX11_grounded_8 (by decide) (fun c2363 => ?_) (fun c2363 => ?_)
  · skip
    have t2364 := cv_eq (a := r2362.toInt) rfl (b := 0) (by decide) c2363
    refine lv_iconst (v := (-1)) hx hb dX11_grounded_18 (by decide) ?_
    have hP9 : va_P (dC, dI) classes (wX g c v F rc) H := hP
    exact W.iret (v := (-1)) hx hb hr (fun t ht hW => ⟨⟨(-1), (v, F, rc), rfl, ⟨hI, hal, rfl, (fun _ _ => rfl), trivial⟩, (by show va_P _ _ _ t.heap; rw [ht]; exact hP9)⟩, hS.F ht⟩) hS.2.2 dX11_grounded_19
  · skip
    have t2365 := cv_ne (a := r2362.toInt) rfl (b := 0) (by decide) c2363
    refine lv_iload_n hx hb dX11_grounded_11 rfl (lv_at hl 2 rfl) ?_
    refine va_calli (va_runS (As := [.int p1]) (rest := []) ⟨hx, hb, hml, hown, hwd⟩ (c_X11_isDay l dC dI g c adK adV v F rc H.size p1 hg hI ) (va_cwS 1 hwd (gT wk_549 wk_547 wk_548 wk_2) rfl rfl rfl (by decide +kernel) ⟨Nat.le_of_ble_eq_true rfl, Nat.le_of_ble_eq_true rfl⟩) ⟨PX.blind, fun U hU hW => ⟨rfl, PX.at hK hE hP hS hU hW⟩⟩ rfl rfl hl.1 rfl (lv_room (Nat.le_of_ble_eq_true rfl)) dX11_grounded_12 ⟨Nat.le_of_ble_eq_true rfl, Nat.le_of_ble_eq_true rfl⟩) hS (fun q _ h => (freeX hS) q h) (freeX hS) (fun r2366 u t H1 locs ht hvm hw hB hz1 hk1 hS => ?_)
    unfold BX at hB
    rw [ht] at hB
    have hP : va_P (dC, dI) classes (wX g c v F rc) H1 := hB
    have hw : (r2366.toInt = 1 ∧ 0 ≤ p1.toInt ∧ p1.toInt ≤ 9999) ∨ (r2366.toInt = 0 ∧ (p1.toInt < 0 ∨ 9999 < p1.toInt)) := hw
    generalize H1 = H at hP hS ⊢
    have hw_r2366 := hw
    refine lv_if_ne (tgt := 20) hx hb dX11_grounded_15 (by decide) (fun c2367 => ?_) (fun c2367 => ?_)
    · skip
      have t2368 := cv_ne (a := r2366.toInt) rfl (b := 0) (by decide) c2367
      refine lv_aload_n hx hb dX11_grounded_20 rfl (lv_at hl 0 rfl) ?_
      refine va_get (D := (dC, dI)) (ci := 11) (v := .ref (g 11)) (C := RX11) (T := TX11) (N := 14) hx hb hwd inA_X11 hown hK hP 0 rfl rfl 10 (by decide) (hwd _ wk_55) (fun _ h9 => h9) rfl dX11_grounded_21 ?_
      refine lv_iload_n hx hb dX11_grounded_24 rfl (lv_at hl 1 rfl) ?_
      refine lv_iload_n hx hb dX11_grounded_25 rfl (lv_at hl 2 rfl) ?_
      refine lv_aload_n hx hb dX11_grounded_26 rfl (lv_at hl 0 rfl) ?_
      refine va_get (D := (dC, dI)) (ci := 11) (v := .int (v 11)) (C := RX11) (T := TX11) (N := 14) hx hb hwd inA_X11 hown hK hP 0 rfl rfl 11 (by decide) (hwd _ wk_323) (fun _ h9 => h9) rfl dX11_grounded_27 ?_
      have t2369 : 0 ≤ (v 11).toInt ∧ (v 11).toInt ≤ 9999 := hI.1 11 _ _ rfl
      refine va_calli (va_runV (As := [.int p0, .int p1, .int (v 11)]) (rest := []) ⟨hx, hb, hml, hown, hwd⟩ (c_X1_groundOf l dC dI g c adK adV v F rc H.size p0 p1 (v 11) hg hI (by omega)) (cwV 3 hwd (gV wk_340 wk_337 wk_338 wk_339 wk_54) rfl rfl rfl (by decide +kernel) ⟨Nat.le_of_ble_eq_true rfl, Nat.le_of_ble_eq_true rfl⟩) ⟨PX.blind, va_recv hK hP (ci := 1) (q0 := 11) rfl rfl, fun U hU hW => ⟨rfl, PX.at hK hE hP hS hU hW⟩⟩ rfl rfl hl.1 rfl (lv_room (Nat.le_of_ble_eq_true rfl)) dX11_grounded_30 ⟨Nat.le_of_ble_eq_true rfl, Nat.le_of_ble_eq_true rfl⟩) hS (fun q _ h => (freeX hS) q h) (freeX hS) (fun r2370 u t H1 locs ht hvm hw hB hz1 hk1 hS => ?_)
      unfold BX at hB
      rw [ht] at hB
      obtain ⟨v2371, F2372, rc9⟩ := u
      obtain ⟨hI, hal9, hrc, hf2373, hw⟩ := hw
      dsimp only at hI hal9 hrc hB hf2373 hw
      rw [hrc] at hB
      have hal := hal9.trans hal
      have hP : va_P (dC, dI) classes (wX g c v2371 F2372 rc) H1 := hB
      generalize H1 = H at hP hS ⊢
      have rr_r2370 := i32_rng r2370
      have hP9 : va_P (dC, dI) classes (wX g c v2371 F2372 rc) H := hP
      exact W.iret (v := r2370) hx hb hr (fun t ht hW => ⟨⟨r2370, (v2371, F2372, rc), rfl, ⟨hI, hal, rfl, (frC (by decide) hf2373 (fun _ _ => rfl)), trivial⟩, (by show va_P _ _ _ t.heap; rw [ht]; exact hP9)⟩, hS.F ht⟩) hS.2.2 dX11_grounded_33
    · skip
      have t2374 := cv_eq (a := r2366.toInt) rfl (b := 0) (by decide) c2367
      refine lv_iconst (v := (-1)) hx hb dX11_grounded_18 (by decide) ?_
      have hP9 : va_P (dC, dI) classes (wX g c v F rc) H := hP
      exact W.iret (v := (-1)) hx hb hr (fun t ht hW => ⟨⟨(-1), (v, F, rc), rfl, ⟨hI, hal, rfl, (fun _ _ => rfl), trivial⟩, (by show va_P _ _ _ t.heap; rw [ht]; exact hP9)⟩, hS.F ht⟩) hS.2.2 dX11_grounded_19
set_option maxHeartbeats 8000000 in
set_option maxRecDepth 100000 in
theorem c_X11_part (l : Launch) (dC : Nat → ClassId) (dI : Nat → Nat → Nat) (g : Nat → Nat) (c : Nat → ClassId) (adK adV : Nat → Nat) (v : Nat → Int32) (F : Nat → Nat → Int32) (rc sz : Nat) (p0 : Int32) (p1 : Int32) (p2 : Int32) (p3 : Int32) (p4 : Int32) (hg : injX g) (hI : IX v F) : Met l yX11_part (Cond.code yX11_part cX11_part 7 (some .int) :: wA) ({ frames := 4, cells := 0, slots := 0, locals := 160 }) (va_Pc [.ref (g 0), .int p0, .int p1, .int p2, .int p3, .int p4] (PX dC dI g c adK adV v F rc sz)) (va_Qi (fun (r : Int32) (u : StX) => IX u.1 u.2.1 ∧ alX u.1 u.2.1 = alX v F ∧ u.2.2 = rc ∧ (∀ k, k ∉ ([61, 80] : List Nat) → u.1 k = v k) ∧ True) (BX dC dI g c) (AX g sz)) 0 0 (AX g sz) := by
  refine Met.ofW (cc := cX11_part) (maxL := 7) (ret := (some .int)) (by decide) rfl ?_
  intro p e s m args below meth c0 s₁ B hml hv
  obtain ⟨rfl, hsz, hP, hK, hE⟩ := hv
  have hx := B.exec
  have hb := B.bytes
  have hr := B.returns
  have hts := atoms_spec (ws := Cond.code yX11_part cX11_part 7 (some .int) :: wA) B.pre
  have hwd : ∀ w ∈ wA, w.before _ s = true := fun w h => hts w (List.mem_cons_of_mem _ h)
  have hown : s.vm.findClass RX11 = some m.cls := findClass_of_methodNamed B.named
  have hlocks := B.notSynchronized
  subst hsz
  have hl := lv_entry ([.ref (g 0), .int p0, .int p1, .int p2, .int p3, .int p4]) (n := 7) (Nat.le_of_ble_eq_true rfl)
  rw [lg_entry_eq]
  generalize (lg_sl ([.ref (g 0), .int p0, .int p1, .int p2, .int p3, .int p4]) ++ List.replicate (7 - (lg_sl ([.ref (g 0), .int p0, .int p1, .int p2, .int p3, .int p4])).length) Slot.unset).toArray = ls at hl ⊢
  have hl : lv_has ls 7 [(0, .ref (g 0)), (1, .int p0), (2, .int p1), (3, .int p2), (4, .int p3), (5, .int p4)] := hl
  obtain ⟨H, eH⟩ : ∃ z, z = s.heap := ⟨_, rfl⟩
  have hP : va_P (dC, dI) classes (wX g c v F rc) H := by rw [eH]; exact hP
  have hS : va_S (AX g s.heap.size) s.heap H [] := by rw [eH]; exact va_S.rf
  refine my_heap eH ?_
  have hal : alX v F = alX v F := rfl
  have rp0 := i32_rng p0
  have rp1 := i32_rng p1
  have rp2 := i32_rng p2
  have rp3 := i32_rng p3
  have rp4 := i32_rng p4
  refine lv_aload_n hx hb dX11_part_0 rfl (lv_at hl 0 rfl) ?_
  refine va_get (D := (dC, dI)) (ci := 11) (v := .ref (g 1)) (C := RX11) (T := TX11) (N := 14) hx hb hwd inA_X11 hown hK hP 0 rfl rfl 0 (by decide) (hwd _ wk_15) (fun _ h9 => h9) rfl dX11_part_1 ?_
  refine lv_iload_n hx hb dX11_part_4 rfl (lv_at hl 1 rfl) ?_
  refine va_calli (va_runV (As := [.int p0]) (rest := []) ⟨hx, hb, hml, hown, hwd⟩ (c_X2_has l dC dI g c adK adV v F rc H.size p0 hg hI ) (cwV 1 hwd (gV wk_280 wk_277 wk_278 wk_279 wk_14) rfl rfl rfl (by decide +kernel) ⟨Nat.le_of_ble_eq_true rfl, Nat.le_of_ble_eq_true rfl⟩) ⟨PX.blind, va_recv hK hP (ci := 2) (q0 := 1) rfl rfl, fun U hU hW => ⟨rfl, PX.at hK hE hP hS hU hW⟩⟩ rfl rfl hl.1 rfl (lv_room (Nat.le_of_ble_eq_true rfl)) dX11_part_5 ⟨Nat.le_of_ble_eq_true rfl, Nat.le_of_ble_eq_true rfl⟩) hS (fun q _ h => (freeX hS) q h) (freeX hS) (fun r2375 u t H1 locs ht hvm hw hB hz1 hk1 hS => ?_)
  unfold BX at hB
  rw [ht] at hB
  have hP : va_P (dC, dI) classes (wX g c v F rc) H1 := hB
  have hw : (0 ≤ r2375.toInt ∧ r2375.toInt ≤ 1) ∧ (r2375.toInt = 1 → 0 ≤ p0.toInt ∧ p0.toInt < 10) := hw
  generalize H1 = H at hP hS ⊢
  have hw_r2375 := hw
  refine lv_if_eq (tgt := 21) hx hb dX11_part_8 (by decide) (fun c2376 => ?_) (fun c2376 => ?_)
  · skip
    have t2377 := cv_eq (a := r2375.toInt) rfl (b := 0) (by decide) c2376
    refine lv_iconst (v := (-1)) hx hb dX11_part_21 (by decide) ?_
    have hP9 : va_P (dC, dI) classes (wX g c v F rc) H := hP
    exact W.iret (v := (-1)) hx hb hr (fun t ht hW => ⟨⟨(-1), (v, F, rc), rfl, ⟨hI, hal, rfl, (fun _ _ => rfl), trivial⟩, (by show va_P _ _ _ t.heap; rw [ht]; exact hP9)⟩, hS.F ht⟩) hS.2.2 dX11_part_22
  · skip
    have t2378 := cv_ne (a := r2375.toInt) rfl (b := 0) (by decide) c2376
    refine lv_iload_n hx hb dX11_part_11 rfl (lv_at hl 2 rfl) ?_
    refine lv_iconst (v := 1) hx hb dX11_part_12 (by decide) ?_
    refine lv_ldc (v := 99999) hx hb hown (hwd _ wk_236) dX11_part_13 ?_
    refine va_calli (va_runS (As := [.int p1, .int 1, .int 99999]) (rest := []) ⟨hx, hb, hml, hown, hwd⟩ (c_X11_within l dC dI g c adK adV v F rc H.size p1 1 99999 hg hI ) (va_cwS 3 hwd (gT wk_239 wk_237 wk_238 wk_2) rfl rfl rfl (by decide +kernel) ⟨Nat.le_of_ble_eq_true rfl, Nat.le_of_ble_eq_true rfl⟩) ⟨PX.blind, fun U hU hW => ⟨rfl, PX.at hK hE hP hS hU hW⟩⟩ rfl rfl hl.1 rfl (lv_room (Nat.le_of_ble_eq_true rfl)) dX11_part_15 ⟨Nat.le_of_ble_eq_true rfl, Nat.le_of_ble_eq_true rfl⟩) hS (fun q _ h => (freeX hS) q h) (freeX hS) (fun r2379 u t H1 locs ht hvm hw hB hz1 hk1 hS => ?_)
    unfold BX at hB
    rw [ht] at hB
    have hP : va_P (dC, dI) classes (wX g c v F rc) H1 := hB
    have hw : (r2379.toInt = 1 ∧ (1 : Int32).toInt ≤ p1.toInt ∧ p1.toInt ≤ (99999 : Int32).toInt) ∨ (r2379.toInt = 0 ∧ (p1.toInt < (1 : Int32).toInt ∨ (99999 : Int32).toInt < p1.toInt)) := hw
    have k2380 : (1 : Int32).toInt = 1 := by decide
    have k2381 : (99999 : Int32).toInt = 99999 := by decide
    generalize H1 = H at hP hS ⊢
    have hw_r2379 := hw
    refine lv_if_ne (tgt := 23) hx hb dX11_part_18 (by decide) (fun c2382 => ?_) (fun c2382 => ?_)
    · skip
      have t2383 := cv_ne (a := r2379.toInt) rfl (b := 0) (by decide) c2382
      refine lv_iload_n hx hb dX11_part_23 rfl (lv_at hl 3 rfl) ?_
      refine va_calli (va_runS (As := [.int p2]) (rest := []) ⟨hx, hb, hml, hown, hwd⟩ (c_X11_isTold l dC dI g c adK adV v F rc H.size p2 hg hI ) (va_cwS 1 hwd (gT wk_235 wk_233 wk_234 wk_2) rfl rfl rfl (by decide +kernel) ⟨Nat.le_of_ble_eq_true rfl, Nat.le_of_ble_eq_true rfl⟩) ⟨PX.blind, fun U hU hW => ⟨rfl, PX.at hK hE hP hS hU hW⟩⟩ rfl rfl hl.1 rfl (lv_room (Nat.le_of_ble_eq_true rfl)) dX11_part_24 ⟨Nat.le_of_ble_eq_true rfl, Nat.le_of_ble_eq_true rfl⟩) hS (fun q _ h => (freeX hS) q h) (freeX hS) (fun r2384 u t H1 locs ht hvm hw hB hz1 hk1 hS => ?_)
      unfold BX at hB
      rw [ht] at hB
      have hP : va_P (dC, dI) classes (wX g c v F rc) H1 := hB
      have hw : (r2384.toInt = 1 ∧ 0 ≤ p2.toInt ∧ p2.toInt ≤ 99999) ∨ (r2384.toInt = 0 ∧ (p2.toInt < 0 ∨ 99999 < p2.toInt)) := hw
      generalize H1 = H at hP hS ⊢
      have hw_r2384 := hw
      refine lv_if_eq (tgt := 46) hx hb dX11_part_27 (by decide) (fun c2385 => ?_) (fun c2385 => ?_)
      · skip
        have t2386 := cv_eq (a := r2384.toInt) rfl (b := 0) (by decide) c2385
        refine lv_iconst (v := (-1)) hx hb dX11_part_46 (by decide) ?_
        have hP9 : va_P (dC, dI) classes (wX g c v F rc) H := hP
        exact W.iret (v := (-1)) hx hb hr (fun t ht hW => ⟨⟨(-1), (v, F, rc), rfl, ⟨hI, hal, rfl, (fun _ _ => rfl), trivial⟩, (by show va_P _ _ _ t.heap; rw [ht]; exact hP9)⟩, hS.F ht⟩) hS.2.2 dX11_part_47
      · skip
        have t2387 := cv_ne (a := r2384.toInt) rfl (b := 0) (by decide) c2385
        refine lv_iload hx hb dX11_part_30 (lv_at hl 4 rfl) ?_
        refine va_calli (va_runS (As := [.int p3]) (rest := []) ⟨hx, hb, hml, hown, hwd⟩ (c_X11_isTold l dC dI g c adK adV v F rc H.size p3 hg hI ) (va_cwS 1 hwd (gT wk_235 wk_233 wk_234 wk_2) rfl rfl rfl (by decide +kernel) ⟨Nat.le_of_ble_eq_true rfl, Nat.le_of_ble_eq_true rfl⟩) ⟨PX.blind, fun U hU hW => ⟨rfl, PX.at hK hE hP hS hU hW⟩⟩ rfl rfl hl.1 rfl (lv_room (Nat.le_of_ble_eq_true rfl)) dX11_part_32 ⟨Nat.le_of_ble_eq_true rfl, Nat.le_of_ble_eq_true rfl⟩) hS (fun q _ h => (freeX hS) q h) (freeX hS) (fun r2388 u t H1 locs ht hvm hw hB hz1 hk1 hS => ?_)
        unfold BX at hB
        rw [ht] at hB
        have hP : va_P (dC, dI) classes (wX g c v F rc) H1 := hB
        have hw : (r2388.toInt = 1 ∧ 0 ≤ p3.toInt ∧ p3.toInt ≤ 99999) ∨ (r2388.toInt = 0 ∧ (p3.toInt < 0 ∨ 99999 < p3.toInt)) := hw
        generalize H1 = H at hP hS ⊢
        have hw_r2388 := hw
        refine lv_if_eq (tgt := 46) hx hb dX11_part_35 (by decide) (fun c2389 => ?_) (fun c2389 => ?_)
        · skip
          have t2390 := cv_eq (a := r2388.toInt) rfl (b := 0) (by decide) c2389
          refine lv_iconst (v := (-1)) hx hb dX11_part_46 (by decide) ?_
          have hP9 : va_P (dC, dI) classes (wX g c v F rc) H := hP
          exact W.iret (v := (-1)) hx hb hr (fun t ht hW => ⟨⟨(-1), (v, F, rc), rfl, ⟨hI, hal, rfl, (fun _ _ => rfl), trivial⟩, (by show va_P _ _ _ t.heap; rw [ht]; exact hP9)⟩, hS.F ht⟩) hS.2.2 dX11_part_47
        · skip
          have t2391 := cv_ne (a := r2388.toInt) rfl (b := 0) (by decide) c2389
          refine lv_iload hx hb dX11_part_38 (lv_at hl 5 rfl) ?_
          refine va_calli (va_runS (As := [.int p4]) (rest := []) ⟨hx, hb, hml, hown, hwd⟩ (c_X11_isTold l dC dI g c adK adV v F rc H.size p4 hg hI ) (va_cwS 1 hwd (gT wk_235 wk_233 wk_234 wk_2) rfl rfl rfl (by decide +kernel) ⟨Nat.le_of_ble_eq_true rfl, Nat.le_of_ble_eq_true rfl⟩) ⟨PX.blind, fun U hU hW => ⟨rfl, PX.at hK hE hP hS hU hW⟩⟩ rfl rfl hl.1 rfl (lv_room (Nat.le_of_ble_eq_true rfl)) dX11_part_40 ⟨Nat.le_of_ble_eq_true rfl, Nat.le_of_ble_eq_true rfl⟩) hS (fun q _ h => (freeX hS) q h) (freeX hS) (fun r2392 u t H1 locs ht hvm hw hB hz1 hk1 hS => ?_)
          unfold BX at hB
          rw [ht] at hB
          have hP : va_P (dC, dI) classes (wX g c v F rc) H1 := hB
          have hw : (r2392.toInt = 1 ∧ 0 ≤ p4.toInt ∧ p4.toInt ≤ 99999) ∨ (r2392.toInt = 0 ∧ (p4.toInt < 0 ∨ 99999 < p4.toInt)) := hw
          generalize H1 = H at hP hS ⊢
          have hw_r2392 := hw
          refine lv_if_ne (tgt := 48) hx hb dX11_part_43 (by decide) (fun c2393 => ?_) (fun c2393 => ?_)
          · skip
            have t2394 := cv_ne (a := r2392.toInt) rfl (b := 0) (by decide) c2393
            refine lv_aload_n hx hb dX11_part_48 rfl (lv_at hl 0 rfl) ?_
            refine va_get (D := (dC, dI)) (ci := 11) (v := .ref (g 3)) (C := RX11) (T := TX11) (N := 14) hx hb hwd inA_X11 hown hK hP 0 rfl rfl 2 (by decide) (hwd _ wk_27) (fun _ h9 => h9) rfl dX11_part_49 ?_
            refine va_get (D := (dC, dI)) (ci := 7) (v := .int (v 61)) (C := RX7) (T := TX7) (N := 7) hx hb hwd inA_X7 hown hK hP 3 rfl rfl 1 (by decide) (hwd _ wk_561) (fun _ h9 => h9) rfl dX11_part_52 ?_
            have t2395 : 0 ≤ (v 61).toInt ∧ (v 61).toInt ≤ 100 := hI.1 61 _ _ rfl
            refine lv_bipush (v := 100) hx hb dX11_part_55 (by decide) ?_
            refine lv_icmp_ge (tgt := 71) hx hb dX11_part_57 (by decide) (fun c2396 => ?_) (fun c2396 => ?_)
            · skip
              have t2397 := cv_le (a := 100) (by decide) (b := (v 61).toInt) rfl c2396
              refine lv_bipush (v := (-3)) hx hb dX11_part_71 (by decide) ?_
              have hP9 : va_P (dC, dI) classes (wX g c v F rc) H := hP
              exact W.iret (v := (-3)) hx hb hr (fun t ht hW => ⟨⟨(-3), (v, F, rc), rfl, ⟨hI, hal, rfl, (fun _ _ => rfl), trivial⟩, (by show va_P _ _ _ t.heap; rw [ht]; exact hP9)⟩, hS.F ht⟩) hS.2.2 dX11_part_73
            · skip
              have t2398 := cv_nle (a := 100) (by decide) (b := (v 61).toInt) rfl c2396
              refine lv_aload_n hx hb dX11_part_60 rfl (lv_at hl 0 rfl) ?_
              refine va_get (D := (dC, dI)) (ci := 11) (v := .ref (g 4)) (C := RX11) (T := TX11) (N := 14) hx hb hwd inA_X11 hown hK hP 0 rfl rfl 3 (by decide) (hwd _ wk_23) (fun _ h9 => h9) rfl dX11_part_61 ?_
              refine lv_iconst (v := 1) hx hb dX11_part_64 (by decide) ?_
              refine va_calli (va_runV (As := [.int 1]) (rest := []) ⟨hx, hb, hml, hown, hwd⟩ (c_X9_hasRoom l dC dI g c adK adV v F rc H.size 1 hg hI ) (cwV 1 hwd (gV wk_565 wk_562 wk_563 wk_564 wk_22) rfl rfl rfl (by decide +kernel) ⟨Nat.le_of_ble_eq_true rfl, Nat.le_of_ble_eq_true rfl⟩) ⟨PX.blind, va_recv hK hP (ci := 9) (q0 := 4) rfl rfl, fun U hU hW => ⟨rfl, PX.at hK hE hP hS hU hW⟩⟩ rfl rfl hl.1 rfl (lv_room (Nat.le_of_ble_eq_true rfl)) dX11_part_65 ⟨Nat.le_of_ble_eq_true rfl, Nat.le_of_ble_eq_true rfl⟩) hS (fun q _ h => (freeX hS) q h) (freeX hS) (fun r2399 u t H1 locs ht hvm hw hB hz1 hk1 hS => ?_)
              unfold BX at hB
              rw [ht] at hB
              have hP : va_P (dC, dI) classes (wX g c v F rc) H1 := hB
              have hw : 0 ≤ r2399.toInt ∧ r2399.toInt ≤ 1 := hw
              have k2400 : (1 : Int32).toInt = 1 := by decide
              generalize H1 = H at hP hS ⊢
              have hw_r2399 := hw
              refine lv_if_ne (tgt := 74) hx hb dX11_part_68 (by decide) (fun c2401 => ?_) (fun c2401 => ?_)
              · skip
                have t2402 := cv_ne (a := r2399.toInt) rfl (b := 0) (by decide) c2401
                refine lv_aload_n hx hb dX11_part_74 rfl (lv_at hl 0 rfl) ?_
                refine va_get (D := (dC, dI)) (ci := 11) (v := .ref (g 3)) (C := RX11) (T := TX11) (N := 14) hx hb hwd inA_X11 hown hK hP 0 rfl rfl 2 (by decide) (hwd _ wk_27) (fun _ h9 => h9) rfl dX11_part_75 ?_
                refine lv_iload_n hx hb dX11_part_78 rfl (lv_at hl 1 rfl) ?_
                refine lv_iload_n hx hb dX11_part_79 rfl (lv_at hl 2 rfl) ?_
                refine va_calli (va_runV (As := [.int p0, .int p1]) (rest := []) ⟨hx, hb, hml, hown, hwd⟩ (c_X7_add l dC dI g c adK adV v F rc H.size p0 p1 hg hI (by omega) (by have h9 : v 61 = v 61 := rfl; rw [h9]; omega)) (cwV 2 hwd (gV wk_570 wk_567 wk_568 wk_569 wk_26) rfl rfl rfl (by decide +kernel) ⟨Nat.le_of_ble_eq_true rfl, Nat.le_of_ble_eq_true rfl⟩) ⟨PX.blind, va_recv hK hP (ci := 7) (q0 := 3) rfl rfl, fun U hU hW => ⟨rfl, PX.at hK hE hP hS hU hW⟩⟩ rfl rfl hl.1 rfl (lv_room (Nat.le_of_ble_eq_true rfl)) dX11_part_80 ⟨Nat.le_of_ble_eq_true rfl, Nat.le_of_ble_eq_true rfl⟩) hS (fun q _ h => (freeX hS) q h) (freeX hS) (fun r2403 u t H1 locs ht hvm hw hB hz1 hk1 hS => ?_)
                unfold BX at hB
                rw [ht] at hB
                obtain ⟨v2404, F2405, rc9⟩ := u
                obtain ⟨hI, hal9, hrc, hf2406, hw⟩ := hw
                dsimp only at hI hal9 hrc hB hf2406 hw
                rw [hrc] at hB
                have hal := hal9.trans hal
                have hP : va_P (dC, dI) classes (wX g c v2404 F2405 rc) H1 := hB
                have hw : 0 ≤ r2403.toInt ∧ r2403.toInt ≤ 99 := hw
                generalize H1 = H at hP hS ⊢
                have hw_r2403 := hw
                refine lv_istore (lv' := [(6, .int r2403), (0, .ref (g 0)), (1, .int p0), (2, .int p1), (3, .int p2), (4, .int p3), (5, .int p4)]) hx hb dX11_part_83 hl (by decide) rfl (fun ls hl => ?_)
                refine lv_aload_n hx hb dX11_part_85 rfl (lv_at hl 1 rfl) ?_
                refine va_get (D := (dC, dI)) (ci := 11) (v := .ref (g 3)) (C := RX11) (T := TX11) (N := 14) hx hb hwd inA_X11 hown hK hP 0 rfl rfl 2 (by decide) (hwd _ wk_27) (fun _ h9 => h9) rfl dX11_part_86 ?_
                refine lv_iload hx hb dX11_part_89 (lv_at hl 0 rfl) ?_
                refine lv_iload_n hx hb dX11_part_91 rfl (lv_at hl 4 rfl) ?_
                refine lv_iload hx hb dX11_part_92 (lv_at hl 5 rfl) ?_
                refine lv_iload hx hb dX11_part_94 (lv_at hl 6 rfl) ?_
                refine va_callv (va_runV (As := [.int r2403, .int p2, .int p3, .int p4]) (rest := []) ⟨hx, hb, hml, hown, hwd⟩ (c_X7_setUsed l dC dI g c adK adV v2404 F2405 rc H.size r2403 p2 p3 p4 hg hI (by omega)) (cwV 4 hwd (gV wk_575 wk_572 wk_573 wk_574 wk_26) rfl rfl rfl (by decide +kernel) ⟨Nat.le_of_ble_eq_true rfl, Nat.le_of_ble_eq_true rfl⟩) ⟨PX.blind, va_recv hK hP (ci := 7) (q0 := 3) rfl rfl, fun U hU hW => ⟨rfl, PX.at hK hE hP hS hU hW⟩⟩ rfl rfl hl.1 rfl (lv_room (Nat.le_of_ble_eq_true rfl)) dX11_part_96 ⟨Nat.le_of_ble_eq_true rfl, Nat.le_of_ble_eq_true rfl⟩) hS (fun q _ h => (freeX hS) q h) (freeX hS) (fun u t H1 locs ht hvm hw hB hz1 hk1 hS => ?_)
                unfold BX at hB
                rw [ht] at hB
                obtain ⟨v2408, F2409, rc9⟩ := u
                obtain ⟨hI, hal9, hrc, hf2410, hw⟩ := hw
                dsimp only at hI hal9 hrc hB hf2410 hw
                rw [hrc] at hB
                have hal := hal9.trans hal
                have hP : va_P (dC, dI) classes (wX g c v2408 F2409 rc) H1 := hB
                generalize H1 = H at hP hS ⊢
                refine lv_aload_n hx hb dX11_part_99 rfl (lv_at hl 1 rfl) ?_
                refine va_get (D := (dC, dI)) (ci := 11) (v := .ref (g 3)) (C := RX11) (T := TX11) (N := 14) hx hb hwd inA_X11 hown hK hP 0 rfl rfl 2 (by decide) (hwd _ wk_27) (fun _ h9 => h9) rfl dX11_part_100 ?_
                refine lv_iload hx hb dX11_part_103 (lv_at hl 0 rfl) ?_
                refine lv_bipush (v := 11) hx hb dX11_part_105 (by decide) ?_
                refine lv_aload_n hx hb dX11_part_107 rfl (lv_at hl 1 rfl) ?_
                refine va_get (D := (dC, dI)) (ci := 11) (v := .int (v2408 11)) (C := RX11) (T := TX11) (N := 14) hx hb hwd inA_X11 hown hK hP 0 rfl rfl 11 (by decide) (hwd _ wk_323) (fun _ h9 => h9) rfl dX11_part_108 ?_
                refine my_top (v := v 11) ((hf2410 11 (by decide)).trans (hf2406 11 (by decide))) ?_
                have t2411 : 0 ≤ (v 11).toInt ∧ (v 11).toInt ≤ 9999 := by have h9 := hI.1 11 _ _ rfl; rw [show v2408 11 = v 11 from (hf2410 11 (by decide)).trans (hf2406 11 (by decide))] at h9; exact h9
                refine va_callv (va_runV (As := [.int r2403, .int 11, .int (v 11)]) (rest := []) ⟨hx, hb, hml, hown, hwd⟩ (c_X7_begin l dC dI g c adK adV v2408 F2409 rc H.size r2403 11 (v 11) hg hI (by omega)) (cwV 3 hwd (gV wk_579 wk_576 wk_577 wk_578 wk_26) rfl rfl rfl (by decide +kernel) ⟨Nat.le_of_ble_eq_true rfl, Nat.le_of_ble_eq_true rfl⟩) ⟨PX.blind, va_recv hK hP (ci := 7) (q0 := 3) rfl rfl, fun U hU hW => ⟨rfl, PX.at hK hE hP hS hU hW⟩⟩ rfl rfl hl.1 rfl (lv_room (Nat.le_of_ble_eq_true rfl)) dX11_part_111 ⟨Nat.le_of_ble_eq_true rfl, Nat.le_of_ble_eq_true rfl⟩) hS (fun q _ h => (freeX hS) q h) (freeX hS) (fun u t H1 locs ht hvm hw hB hz1 hk1 hS => ?_)
                unfold BX at hB
                rw [ht] at hB
                obtain ⟨v2413, F2414, rc9⟩ := u
                obtain ⟨hI, hal9, hrc, hf2415, hw⟩ := hw
                dsimp only at hI hal9 hrc hB hf2415 hw
                rw [hrc] at hB
                have hal := hal9.trans hal
                have hP : va_P (dC, dI) classes (wX g c v2413 F2414 rc) H1 := hB
                generalize H1 = H at hP hS ⊢
                refine lv_iload hx hb dX11_part_114 (lv_at hl 0 rfl) ?_
                have hP9 : va_P (dC, dI) classes (wX g c v2413 F2414 rc) H := hP
                exact W.iret (v := r2403) hx hb hr (fun t ht hW => ⟨⟨r2403, (v2413, F2414, rc), rfl, ⟨hI, hal, rfl, (frC (by decide) hf2415 (frC (by decide) hf2410 (frC (by decide) hf2406 (fun _ _ => rfl)))), trivial⟩, (by show va_P _ _ _ t.heap; rw [ht]; exact hP9)⟩, hS.F ht⟩) hS.2.2 dX11_part_116
              · skip
                have t2416 := cv_eq (a := r2399.toInt) rfl (b := 0) (by decide) c2401
                refine lv_bipush (v := (-3)) hx hb dX11_part_71 (by decide) ?_
                have hP9 : va_P (dC, dI) classes (wX g c v F rc) H := hP
                exact W.iret (v := (-3)) hx hb hr (fun t ht hW => ⟨⟨(-3), (v, F, rc), rfl, ⟨hI, hal, rfl, (fun _ _ => rfl), trivial⟩, (by show va_P _ _ _ t.heap; rw [ht]; exact hP9)⟩, hS.F ht⟩) hS.2.2 dX11_part_73
          · skip
            have t2417 := cv_eq (a := r2392.toInt) rfl (b := 0) (by decide) c2393
            refine lv_iconst (v := (-1)) hx hb dX11_part_46 (by decide) ?_
            have hP9 : va_P (dC, dI) classes (wX g c v F rc) H := hP
            exact W.iret (v := (-1)) hx hb hr (fun t ht hW => ⟨⟨(-1), (v, F, rc), rfl, ⟨hI, hal, rfl, (fun _ _ => rfl), trivial⟩, (by show va_P _ _ _ t.heap; rw [ht]; exact hP9)⟩, hS.F ht⟩) hS.2.2 dX11_part_47
    · skip
      have t2418 := cv_eq (a := r2379.toInt) rfl (b := 0) (by decide) c2382
      refine lv_iconst (v := (-1)) hx hb dX11_part_21 (by decide) ?_
      have hP9 : va_P (dC, dI) classes (wX g c v F rc) H := hP
      exact W.iret (v := (-1)) hx hb hr (fun t ht hW => ⟨⟨(-1), (v, F, rc), rfl, ⟨hI, hal, rfl, (fun _ _ => rfl), trivial⟩, (by show va_P _ _ _ t.heap; rw [ht]; exact hP9)⟩, hS.F ht⟩) hS.2.2 dX11_part_22
set_option maxHeartbeats 8000000 in
set_option maxRecDepth 100000 in
theorem c_X11_move (l : Launch) (dC : Nat → ClassId) (dI : Nat → Nat → Nat) (g : Nat → Nat) (c : Nat → ClassId) (adK adV : Nat → Nat) (v : Nat → Int32) (F : Nat → Nat → Int32) (rc sz : Nat) (p0 : Int32) (p1 : Int32) (hg : injX g) (hI : IX v F) : Met l yX11_move (Cond.code yX11_move cX11_move 3 (some .int) :: wA) ({ frames := 5, cells := 0, slots := 0, locals := 200 }) (va_Pc [.ref (g 0), .int p0, .int p1] (PX dC dI g c adK adV v F rc sz)) (va_Qi (fun (r : Int32) (u : StX) => IX u.1 u.2.1 ∧ alX u.1 u.2.1 = alX v F ∧ u.2.2 = rc ∧ (∀ k, k ∉ ([80] : List Nat) → u.1 k = v k) ∧ True) (BX dC dI g c) (AX g sz)) 0 0 (AX g sz) := by
  refine Met.ofW (cc := cX11_move) (maxL := 3) (ret := (some .int)) (by decide) rfl ?_
  intro p e s m args below meth c0 s₁ B hml hv
  obtain ⟨rfl, hsz, hP, hK, hE⟩ := hv
  have hx := B.exec
  have hb := B.bytes
  have hr := B.returns
  have hts := atoms_spec (ws := Cond.code yX11_move cX11_move 3 (some .int) :: wA) B.pre
  have hwd : ∀ w ∈ wA, w.before _ s = true := fun w h => hts w (List.mem_cons_of_mem _ h)
  have hown : s.vm.findClass RX11 = some m.cls := findClass_of_methodNamed B.named
  have hlocks := B.notSynchronized
  subst hsz
  have hl := lv_entry ([.ref (g 0), .int p0, .int p1]) (n := 3) (Nat.le_of_ble_eq_true rfl)
  rw [lg_entry_eq]
  generalize (lg_sl ([.ref (g 0), .int p0, .int p1]) ++ List.replicate (3 - (lg_sl ([.ref (g 0), .int p0, .int p1])).length) Slot.unset).toArray = ls at hl ⊢
  have hl : lv_has ls 3 [(0, .ref (g 0)), (1, .int p0), (2, .int p1)] := hl
  obtain ⟨H, eH⟩ : ∃ z, z = s.heap := ⟨_, rfl⟩
  have hP : va_P (dC, dI) classes (wX g c v F rc) H := by rw [eH]; exact hP
  have hS : va_S (AX g s.heap.size) s.heap H [] := by rw [eH]; exact va_S.rf
  refine my_heap eH ?_
  have hal : alX v F = alX v F := rfl
  have rp0 := i32_rng p0
  have rp1 := i32_rng p1
  refine lv_aload_n hx hb dX11_move_0 rfl (lv_at hl 0 rfl) ?_
  refine va_get (D := (dC, dI)) (ci := 11) (v := .ref (g 3)) (C := RX11) (T := TX11) (N := 14) hx hb hwd inA_X11 hown hK hP 0 rfl rfl 2 (by decide) (hwd _ wk_27) (fun _ h9 => h9) rfl dX11_move_1 ?_
  refine lv_iload_n hx hb dX11_move_4 rfl (lv_at hl 1 rfl) ?_
  refine va_calli (va_runV (As := [.int p0]) (rest := []) ⟨hx, hb, hml, hown, hwd⟩ (c_X7_has l dC dI g c adK adV v F rc H.size p0 hg hI ) (cwV 1 hwd (gV wk_605 wk_602 wk_603 wk_604 wk_26) rfl rfl rfl (by decide +kernel) ⟨Nat.le_of_ble_eq_true rfl, Nat.le_of_ble_eq_true rfl⟩) ⟨PX.blind, va_recv hK hP (ci := 7) (q0 := 3) rfl rfl, fun U hU hW => ⟨rfl, PX.at hK hE hP hS hU hW⟩⟩ rfl rfl hl.1 rfl (lv_room (Nat.le_of_ble_eq_true rfl)) dX11_move_5 ⟨Nat.le_of_ble_eq_true rfl, Nat.le_of_ble_eq_true rfl⟩) hS (fun q _ h => (freeX hS) q h) (freeX hS) (fun r2419 u t H1 locs ht hvm hw hB hz1 hk1 hS => ?_)
  unfold BX at hB
  rw [ht] at hB
  have hP : va_P (dC, dI) classes (wX g c v F rc) H1 := hB
  have hw : (0 ≤ r2419.toInt ∧ r2419.toInt ≤ 1) ∧ (r2419.toInt = 1 → 0 ≤ p0.toInt ∧ p0.toInt < 100) := hw
  generalize H1 = H at hP hS ⊢
  have hw_r2419 := hw
  refine lv_if_eq (tgt := 19) hx hb dX11_move_8 (by decide) (fun c2420 => ?_) (fun c2420 => ?_)
  · skip
    have t2421 := cv_eq (a := r2419.toInt) rfl (b := 0) (by decide) c2420
    refine lv_iconst (v := (-1)) hx hb dX11_move_19 (by decide) ?_
    have hP9 : va_P (dC, dI) classes (wX g c v F rc) H := hP
    exact W.iret (v := (-1)) hx hb hr (fun t ht hW => ⟨⟨(-1), (v, F, rc), rfl, ⟨hI, hal, rfl, (fun _ _ => rfl), trivial⟩, (by show va_P _ _ _ t.heap; rw [ht]; exact hP9)⟩, hS.F ht⟩) hS.2.2 dX11_move_20
  · skip
    have t2422 := cv_ne (a := r2419.toInt) rfl (b := 0) (by decide) c2420
    refine lv_aload_n hx hb dX11_move_11 rfl (lv_at hl 0 rfl) ?_
    refine lv_iload_n hx hb dX11_move_12 rfl (lv_at hl 2 rfl) ?_
    refine va_calli (va_runV (As := [.int p1]) (rest := []) ⟨hx, hb, hml, hown, hwd⟩ (c_X11_isPlace l dC dI g c adK adV v F rc H.size p1 hg hI ) (cwV 1 hwd (gV wk_609 wk_606 wk_607 wk_608 wk_2) rfl rfl rfl (by decide +kernel) ⟨Nat.le_of_ble_eq_true rfl, Nat.le_of_ble_eq_true rfl⟩) ⟨PX.blind, va_recv hK hP (ci := 11) (q0 := 0) rfl rfl, fun U hU hW => ⟨rfl, PX.at hK hE hP hS hU hW⟩⟩ rfl rfl hl.1 rfl (lv_room (Nat.le_of_ble_eq_true rfl)) dX11_move_13 ⟨Nat.le_of_ble_eq_true rfl, Nat.le_of_ble_eq_true rfl⟩) hS (fun q _ h => (freeX hS) q h) (freeX hS) (fun r2423 u t H1 locs ht hvm hw hB hz1 hk1 hS => ?_)
    unfold BX at hB
    rw [ht] at hB
    have hP : va_P (dC, dI) classes (wX g c v F rc) H1 := hB
    have hw : 0 ≤ r2423.toInt ∧ r2423.toInt ≤ 1 := hw
    generalize H1 = H at hP hS ⊢
    have hw_r2423 := hw
    refine lv_if_ne (tgt := 21) hx hb dX11_move_16 (by decide) (fun c2424 => ?_) (fun c2424 => ?_)
    · skip
      have t2425 := cv_ne (a := r2423.toInt) rfl (b := 0) (by decide) c2424
      refine lv_aload_n hx hb dX11_move_21 rfl (lv_at hl 0 rfl) ?_
      refine va_get (D := (dC, dI)) (ci := 11) (v := .ref (g 3)) (C := RX11) (T := TX11) (N := 14) hx hb hwd inA_X11 hown hK hP 0 rfl rfl 2 (by decide) (hwd _ wk_27) (fun _ h9 => h9) rfl dX11_move_22 ?_
      refine va_get (D := (dC, dI)) (ci := 7) (v := .ref (g 26)) (C := RX7) (T := TX7) (N := 7) hx hb hwd inA_X7 hown hK hP 3 rfl rfl 4 (by decide) (hwd _ wk_600) (fun _ h9 => h9) rfl dX11_move_25 ?_
      refine lv_iload_n hx hb dX11_move_28 rfl (lv_at hl 1 rfl) ?_
      refine va_iald hx hb hK hP 26 14 rfl rfl (i := p0) (vin (a := p0.toInt) rfl (by omega)) dX11_move_29 ?_
      refine lv_topi (fun z2426 e2427 => ?_)
      refine lv_iload_n hx hb dX11_move_30 rfl (lv_at hl 2 rfl) ?_
      refine lv_icmp_eq (tgt := 65) hx hb dX11_move_31 (by decide) (fun c2428 => ?_) (fun c2428 => ?_)
      · skip
        have t2429 := cv_eq (a := z2426.toInt) rfl (b := p1.toInt) rfl c2428
        refine lv_bipush (v := (-2)) hx hb dX11_move_65 (by decide) ?_
        have hP9 : va_P (dC, dI) classes (wX g c v F rc) H := hP
        exact W.iret (v := (-2)) hx hb hr (fun t ht hW => ⟨⟨(-2), (v, F, rc), rfl, ⟨hI, hal, rfl, (fun _ _ => rfl), trivial⟩, (by show va_P _ _ _ t.heap; rw [ht]; exact hP9)⟩, hS.F ht⟩) hS.2.2 dX11_move_67
      · skip
        have t2430 := cv_ne (a := z2426.toInt) rfl (b := p1.toInt) rfl c2428
        refine lv_aload_n hx hb dX11_move_34 rfl (lv_at hl 0 rfl) ?_
        refine va_get (D := (dC, dI)) (ci := 11) (v := .ref (g 3)) (C := RX11) (T := TX11) (N := 14) hx hb hwd inA_X11 hown hK hP 0 rfl rfl 2 (by decide) (hwd _ wk_27) (fun _ h9 => h9) rfl dX11_move_35 ?_
        refine va_get (D := (dC, dI)) (ci := 7) (v := .ref (g 26)) (C := RX7) (T := TX7) (N := 7) hx hb hwd inA_X7 hown hK hP 3 rfl rfl 4 (by decide) (hwd _ wk_600) (fun _ h9 => h9) rfl dX11_move_38 ?_
        refine lv_iload_n hx hb dX11_move_41 rfl (lv_at hl 1 rfl) ?_
        refine va_iald hx hb hK hP 26 14 rfl rfl (i := p0) (vin (a := p0.toInt) rfl (by omega)) dX11_move_42 ?_
        refine lv_topi (fun z2431 e2432 => ?_)
        refine lv_bipush (v := 12) hx hb dX11_move_43 (by decide) ?_
        refine lv_icmp_eq (tgt := 65) hx hb dX11_move_45 (by decide) (fun c2433 => ?_) (fun c2433 => ?_)
        · skip
          have t2434 := cv_eq (a := z2431.toInt) rfl (b := 12) (by decide) c2433
          refine lv_bipush (v := (-2)) hx hb dX11_move_65 (by decide) ?_
          have hP9 : va_P (dC, dI) classes (wX g c v F rc) H := hP
          exact W.iret (v := (-2)) hx hb hr (fun t ht hW => ⟨⟨(-2), (v, F, rc), rfl, ⟨hI, hal, rfl, (fun _ _ => rfl), trivial⟩, (by show va_P _ _ _ t.heap; rw [ht]; exact hP9)⟩, hS.F ht⟩) hS.2.2 dX11_move_67
        · skip
          have t2435 := cv_ne (a := z2431.toInt) rfl (b := 12) (by decide) c2433
          refine lv_aload_n hx hb dX11_move_48 rfl (lv_at hl 0 rfl) ?_
          refine lv_iload_n hx hb dX11_move_49 rfl (lv_at hl 2 rfl) ?_
          refine lv_aload_n hx hb dX11_move_50 rfl (lv_at hl 0 rfl) ?_
          refine va_get (D := (dC, dI)) (ci := 11) (v := .ref (g 3)) (C := RX11) (T := TX11) (N := 14) hx hb hwd inA_X11 hown hK hP 0 rfl rfl 2 (by decide) (hwd _ wk_27) (fun _ h9 => h9) rfl dX11_move_51 ?_
          refine va_get (D := (dC, dI)) (ci := 7) (v := .ref (g 24)) (C := RX7) (T := TX7) (N := 7) hx hb hwd inA_X7 hown hK hP 3 rfl rfl 2 (by decide) (hwd _ wk_601) (fun _ h9 => h9) rfl dX11_move_54 ?_
          refine lv_iload_n hx hb dX11_move_57 rfl (lv_at hl 1 rfl) ?_
          refine va_iald hx hb hK hP 24 12 rfl rfl (i := p0) (vin (a := p0.toInt) rfl (by omega)) dX11_move_58 ?_
          refine lv_topi (fun z2436 e2437 => ?_)
          have t2438 : 0 ≤ z2436.toInt ∧ z2436.toInt ≤ 9 := by rw [e2437]; exact hI.2 24 _ _ rfl _
          refine va_calli (va_runV (As := [.int p1, .int z2436]) (rest := []) ⟨hx, hb, hml, hown, hwd⟩ (c_X11_takes l dC dI g c adK adV v F rc H.size p1 z2436 hg hI (by omega)) (cwV 2 hwd (gV wk_613 wk_610 wk_611 wk_612 wk_2) rfl rfl rfl (by decide +kernel) ⟨Nat.le_of_ble_eq_true rfl, Nat.le_of_ble_eq_true rfl⟩) ⟨PX.blind, va_recv hK hP (ci := 11) (q0 := 0) rfl rfl, fun U hU hW => ⟨rfl, PX.at hK hE hP hS hU hW⟩⟩ rfl rfl hl.1 rfl (lv_room (Nat.le_of_ble_eq_true rfl)) dX11_move_59 ⟨Nat.le_of_ble_eq_true rfl, Nat.le_of_ble_eq_true rfl⟩) hS (fun q _ h => (freeX hS) q h) (freeX hS) (fun r2439 u t H1 locs ht hvm hw hB hz1 hk1 hS => ?_)
          unfold BX at hB
          rw [ht] at hB
          have hP : va_P (dC, dI) classes (wX g c v F rc) H1 := hB
          have hw : 0 ≤ r2439.toInt ∧ r2439.toInt ≤ 1 := hw
          generalize H1 = H at hP hS ⊢
          have hw_r2439 := hw
          refine lv_if_ne (tgt := 68) hx hb dX11_move_62 (by decide) (fun c2440 => ?_) (fun c2440 => ?_)
          · skip
            have t2441 := cv_ne (a := r2439.toInt) rfl (b := 0) (by decide) c2440
            refine lv_aload_n hx hb dX11_move_68 rfl (lv_at hl 0 rfl) ?_
            refine va_get (D := (dC, dI)) (ci := 11) (v := .ref (g 4)) (C := RX11) (T := TX11) (N := 14) hx hb hwd inA_X11 hown hK hP 0 rfl rfl 3 (by decide) (hwd _ wk_23) (fun _ h9 => h9) rfl dX11_move_69 ?_
            refine lv_iconst (v := 1) hx hb dX11_move_72 (by decide) ?_
            refine va_calli (va_runV (As := [.int 1]) (rest := []) ⟨hx, hb, hml, hown, hwd⟩ (c_X9_hasRoom l dC dI g c adK adV v F rc H.size 1 hg hI ) (cwV 1 hwd (gV wk_565 wk_562 wk_563 wk_564 wk_22) rfl rfl rfl (by decide +kernel) ⟨Nat.le_of_ble_eq_true rfl, Nat.le_of_ble_eq_true rfl⟩) ⟨PX.blind, va_recv hK hP (ci := 9) (q0 := 4) rfl rfl, fun U hU hW => ⟨rfl, PX.at hK hE hP hS hU hW⟩⟩ rfl rfl hl.1 rfl (lv_room (Nat.le_of_ble_eq_true rfl)) dX11_move_73 ⟨Nat.le_of_ble_eq_true rfl, Nat.le_of_ble_eq_true rfl⟩) hS (fun q _ h => (freeX hS) q h) (freeX hS) (fun r2442 u t H1 locs ht hvm hw hB hz1 hk1 hS => ?_)
            unfold BX at hB
            rw [ht] at hB
            have hP : va_P (dC, dI) classes (wX g c v F rc) H1 := hB
            have hw : 0 ≤ r2442.toInt ∧ r2442.toInt ≤ 1 := hw
            have k2443 : (1 : Int32).toInt = 1 := by decide
            generalize H1 = H at hP hS ⊢
            have hw_r2442 := hw
            refine lv_if_ne (tgt := 82) hx hb dX11_move_76 (by decide) (fun c2444 => ?_) (fun c2444 => ?_)
            · skip
              have t2445 := cv_ne (a := r2442.toInt) rfl (b := 0) (by decide) c2444
              refine lv_aload_n hx hb dX11_move_82 rfl (lv_at hl 0 rfl) ?_
              refine va_get (D := (dC, dI)) (ci := 11) (v := .ref (g 3)) (C := RX11) (T := TX11) (N := 14) hx hb hwd inA_X11 hown hK hP 0 rfl rfl 2 (by decide) (hwd _ wk_27) (fun _ h9 => h9) rfl dX11_move_83 ?_
              refine lv_iload_n hx hb dX11_move_86 rfl (lv_at hl 1 rfl) ?_
              refine lv_iload_n hx hb dX11_move_87 rfl (lv_at hl 2 rfl) ?_
              refine lv_aload_n hx hb dX11_move_88 rfl (lv_at hl 0 rfl) ?_
              refine va_get (D := (dC, dI)) (ci := 11) (v := .int (v 11)) (C := RX11) (T := TX11) (N := 14) hx hb hwd inA_X11 hown hK hP 0 rfl rfl 11 (by decide) (hwd _ wk_323) (fun _ h9 => h9) rfl dX11_move_89 ?_
              have t2446 : 0 ≤ (v 11).toInt ∧ (v 11).toInt ≤ 9999 := hI.1 11 _ _ rfl
              refine va_callv (va_runV (As := [.int p0, .int p1, .int (v 11)]) (rest := []) ⟨hx, hb, hml, hown, hwd⟩ (c_X7_go l dC dI g c adK adV v F rc H.size p0 p1 (v 11) hg hI (by omega)) (cwV 3 hwd (gV wk_618 wk_615 wk_616 wk_617 wk_26) rfl rfl rfl (by decide +kernel) ⟨Nat.le_of_ble_eq_true rfl, Nat.le_of_ble_eq_true rfl⟩) ⟨PX.blind, va_recv hK hP (ci := 7) (q0 := 3) rfl rfl, fun U hU hW => ⟨rfl, PX.at hK hE hP hS hU hW⟩⟩ rfl rfl hl.1 rfl (lv_room (Nat.le_of_ble_eq_true rfl)) dX11_move_92 ⟨Nat.le_of_ble_eq_true rfl, Nat.le_of_ble_eq_true rfl⟩) hS (fun q _ h => (freeX hS) q h) (freeX hS) (fun u t H1 locs ht hvm hw hB hz1 hk1 hS => ?_)
              unfold BX at hB
              rw [ht] at hB
              obtain ⟨v2448, F2449, rc9⟩ := u
              obtain ⟨hI, hal9, hrc, hf2450, hw⟩ := hw
              dsimp only at hI hal9 hrc hB hf2450 hw
              rw [hrc] at hB
              have hal := hal9.trans hal
              have hP : va_P (dC, dI) classes (wX g c v2448 F2449 rc) H1 := hB
              generalize H1 = H at hP hS ⊢
              refine lv_iconst (v := 1) hx hb dX11_move_95 (by decide) ?_
              have hP9 : va_P (dC, dI) classes (wX g c v2448 F2449 rc) H := hP
              exact W.iret (v := 1) hx hb hr (fun t ht hW => ⟨⟨1, (v2448, F2449, rc), rfl, ⟨hI, hal, rfl, (frC (by decide) hf2450 (fun _ _ => rfl)), trivial⟩, (by show va_P _ _ _ t.heap; rw [ht]; exact hP9)⟩, hS.F ht⟩) hS.2.2 dX11_move_96
            · skip
              have t2451 := cv_eq (a := r2442.toInt) rfl (b := 0) (by decide) c2444
              refine lv_bipush (v := (-3)) hx hb dX11_move_79 (by decide) ?_
              have hP9 : va_P (dC, dI) classes (wX g c v F rc) H := hP
              exact W.iret (v := (-3)) hx hb hr (fun t ht hW => ⟨⟨(-3), (v, F, rc), rfl, ⟨hI, hal, rfl, (fun _ _ => rfl), trivial⟩, (by show va_P _ _ _ t.heap; rw [ht]; exact hP9)⟩, hS.F ht⟩) hS.2.2 dX11_move_81
          · skip
            have t2452 := cv_eq (a := r2439.toInt) rfl (b := 0) (by decide) c2440
            refine lv_bipush (v := (-2)) hx hb dX11_move_65 (by decide) ?_
            have hP9 : va_P (dC, dI) classes (wX g c v F rc) H := hP
            exact W.iret (v := (-2)) hx hb hr (fun t ht hW => ⟨⟨(-2), (v, F, rc), rfl, ⟨hI, hal, rfl, (fun _ _ => rfl), trivial⟩, (by show va_P _ _ _ t.heap; rw [ht]; exact hP9)⟩, hS.F ht⟩) hS.2.2 dX11_move_67
    · skip
      have t2453 := cv_eq (a := r2423.toInt) rfl (b := 0) (by decide) c2424
      refine lv_iconst (v := (-1)) hx hb dX11_move_19 (by decide) ?_
      have hP9 : va_P (dC, dI) classes (wX g c v F rc) H := hP
      exact W.iret (v := (-1)) hx hb hr (fun t ht hW => ⟨⟨(-1), (v, F, rc), rfl, ⟨hI, hal, rfl, (fun _ _ => rfl), trivial⟩, (by show va_P _ _ _ t.heap; rw [ht]; exact hP9)⟩, hS.F ht⟩) hS.2.2 dX11_move_20
set_option maxHeartbeats 8000000 in
set_option maxRecDepth 100000 in
theorem c_X11_swap (l : Launch) (dC : Nat → ClassId) (dI : Nat → Nat → Nat) (g : Nat → Nat) (c : Nat → ClassId) (adK adV : Nat → Nat) (v : Nat → Int32) (F : Nat → Nat → Int32) (rc sz : Nat) (p0 : Int32) (p1 : Int32) (hg : injX g) (hI : IX v F) : Met l yX11_swap (Cond.code yX11_swap cX11_swap 4 (some .int) :: wA) ({ frames := 5, cells := 0, slots := 0, locals := 200 }) (va_Pc [.ref (g 0), .int p0, .int p1] (PX dC dI g c adK adV v F rc sz)) (va_Qi (fun (r : Int32) (u : StX) => IX u.1 u.2.1 ∧ alX u.1 u.2.1 = alX v F ∧ u.2.2 = rc ∧ (∀ k, k ∉ ([80] : List Nat) → u.1 k = v k) ∧ True) (BX dC dI g c) (AX g sz)) 0 0 (AX g sz) := by
  refine Met.ofW (cc := cX11_swap) (maxL := 4) (ret := (some .int)) (by decide) rfl ?_
  intro p e s m args below meth c0 s₁ B hml hv
  obtain ⟨rfl, hsz, hP, hK, hE⟩ := hv
  have hx := B.exec
  have hb := B.bytes
  have hr := B.returns
  have hts := atoms_spec (ws := Cond.code yX11_swap cX11_swap 4 (some .int) :: wA) B.pre
  have hwd : ∀ w ∈ wA, w.before _ s = true := fun w h => hts w (List.mem_cons_of_mem _ h)
  have hown : s.vm.findClass RX11 = some m.cls := findClass_of_methodNamed B.named
  have hlocks := B.notSynchronized
  subst hsz
  have hl := lv_entry ([.ref (g 0), .int p0, .int p1]) (n := 4) (Nat.le_of_ble_eq_true rfl)
  rw [lg_entry_eq]
  generalize (lg_sl ([.ref (g 0), .int p0, .int p1]) ++ List.replicate (4 - (lg_sl ([.ref (g 0), .int p0, .int p1])).length) Slot.unset).toArray = ls at hl ⊢
  have hl : lv_has ls 4 [(0, .ref (g 0)), (1, .int p0), (2, .int p1)] := hl
  obtain ⟨H, eH⟩ : ∃ z, z = s.heap := ⟨_, rfl⟩
  have hP : va_P (dC, dI) classes (wX g c v F rc) H := by rw [eH]; exact hP
  have hS : va_S (AX g s.heap.size) s.heap H [] := by rw [eH]; exact va_S.rf
  refine my_heap eH ?_
  have hal : alX v F = alX v F := rfl
  have rp0 := i32_rng p0
  have rp1 := i32_rng p1
  refine lv_aload_n hx hb dX11_swap_0 rfl (lv_at hl 0 rfl) ?_
  refine va_get (D := (dC, dI)) (ci := 11) (v := .ref (g 3)) (C := RX11) (T := TX11) (N := 14) hx hb hwd inA_X11 hown hK hP 0 rfl rfl 2 (by decide) (hwd _ wk_27) (fun _ h9 => h9) rfl dX11_swap_1 ?_
  refine lv_iload_n hx hb dX11_swap_4 rfl (lv_at hl 1 rfl) ?_
  refine va_calli (va_runV (As := [.int p0]) (rest := []) ⟨hx, hb, hml, hown, hwd⟩ (c_X7_has l dC dI g c adK adV v F rc H.size p0 hg hI ) (cwV 1 hwd (gV wk_605 wk_602 wk_603 wk_604 wk_26) rfl rfl rfl (by decide +kernel) ⟨Nat.le_of_ble_eq_true rfl, Nat.le_of_ble_eq_true rfl⟩) ⟨PX.blind, va_recv hK hP (ci := 7) (q0 := 3) rfl rfl, fun U hU hW => ⟨rfl, PX.at hK hE hP hS hU hW⟩⟩ rfl rfl hl.1 rfl (lv_room (Nat.le_of_ble_eq_true rfl)) dX11_swap_5 ⟨Nat.le_of_ble_eq_true rfl, Nat.le_of_ble_eq_true rfl⟩) hS (fun q _ h => (freeX hS) q h) (freeX hS) (fun r2454 u t H1 locs ht hvm hw hB hz1 hk1 hS => ?_)
  unfold BX at hB
  rw [ht] at hB
  have hP : va_P (dC, dI) classes (wX g c v F rc) H1 := hB
  have hw : (0 ≤ r2454.toInt ∧ r2454.toInt ≤ 1) ∧ (r2454.toInt = 1 → 0 ≤ p0.toInt ∧ p0.toInt < 100) := hw
  generalize H1 = H at hP hS ⊢
  have hw_r2454 := hw
  refine lv_if_eq (tgt := 22) hx hb dX11_swap_8 (by decide) (fun c2455 => ?_) (fun c2455 => ?_)
  · skip
    have t2456 := cv_eq (a := r2454.toInt) rfl (b := 0) (by decide) c2455
    refine lv_iconst (v := (-1)) hx hb dX11_swap_22 (by decide) ?_
    have hP9 : va_P (dC, dI) classes (wX g c v F rc) H := hP
    exact W.iret (v := (-1)) hx hb hr (fun t ht hW => ⟨⟨(-1), (v, F, rc), rfl, ⟨hI, hal, rfl, (fun _ _ => rfl), trivial⟩, (by show va_P _ _ _ t.heap; rw [ht]; exact hP9)⟩, hS.F ht⟩) hS.2.2 dX11_swap_23
  · skip
    have t2457 := cv_ne (a := r2454.toInt) rfl (b := 0) (by decide) c2455
    refine lv_aload_n hx hb dX11_swap_11 rfl (lv_at hl 0 rfl) ?_
    refine va_get (D := (dC, dI)) (ci := 11) (v := .ref (g 3)) (C := RX11) (T := TX11) (N := 14) hx hb hwd inA_X11 hown hK hP 0 rfl rfl 2 (by decide) (hwd _ wk_27) (fun _ h9 => h9) rfl dX11_swap_12 ?_
    refine lv_iload_n hx hb dX11_swap_15 rfl (lv_at hl 2 rfl) ?_
    refine va_calli (va_runV (As := [.int p1]) (rest := []) ⟨hx, hb, hml, hown, hwd⟩ (c_X7_has l dC dI g c adK adV v F rc H.size p1 hg hI ) (cwV 1 hwd (gV wk_605 wk_602 wk_603 wk_604 wk_26) rfl rfl rfl (by decide +kernel) ⟨Nat.le_of_ble_eq_true rfl, Nat.le_of_ble_eq_true rfl⟩) ⟨PX.blind, va_recv hK hP (ci := 7) (q0 := 3) rfl rfl, fun U hU hW => ⟨rfl, PX.at hK hE hP hS hU hW⟩⟩ rfl rfl hl.1 rfl (lv_room (Nat.le_of_ble_eq_true rfl)) dX11_swap_16 ⟨Nat.le_of_ble_eq_true rfl, Nat.le_of_ble_eq_true rfl⟩) hS (fun q _ h => (freeX hS) q h) (freeX hS) (fun r2458 u t H1 locs ht hvm hw hB hz1 hk1 hS => ?_)
    unfold BX at hB
    rw [ht] at hB
    have hP : va_P (dC, dI) classes (wX g c v F rc) H1 := hB
    have hw : (0 ≤ r2458.toInt ∧ r2458.toInt ≤ 1) ∧ (r2458.toInt = 1 → 0 ≤ p1.toInt ∧ p1.toInt < 100) := hw
    generalize H1 = H at hP hS ⊢
    have hw_r2458 := hw
    refine lv_if_ne (tgt := 24) hx hb dX11_swap_19 (by decide) (fun c2459 => ?_) (fun c2459 => ?_)
    · skip
      have t2460 := cv_ne (a := r2458.toInt) rfl (b := 0) (by decide) c2459
      refine lv_aload_n hx hb dX11_swap_24 rfl (lv_at hl 0 rfl) ?_
      refine va_get (D := (dC, dI)) (ci := 11) (v := .ref (g 3)) (C := RX11) (T := TX11) (N := 14) hx hb hwd inA_X11 hown hK hP 0 rfl rfl 2 (by decide) (hwd _ wk_27) (fun _ h9 => h9) rfl dX11_swap_25 ?_
      refine va_get (D := (dC, dI)) (ci := 7) (v := .ref (g 26)) (C := RX7) (T := TX7) (N := 7) hx hb hwd inA_X7 hown hK hP 3 rfl rfl 4 (by decide) (hwd _ wk_600) (fun _ h9 => h9) rfl dX11_swap_28 ?_
      refine lv_iload_n hx hb dX11_swap_31 rfl (lv_at hl 1 rfl) ?_
      refine va_iald hx hb hK hP 26 14 rfl rfl (i := p0) (vin (a := p0.toInt) rfl (by omega)) dX11_swap_32 ?_
      refine lv_topi (fun z2461 e2462 => ?_)
      refine lv_istore_n (lv' := [(3, .int z2461), (0, .ref (g 0)), (1, .int p0), (2, .int p1)]) hx hb dX11_swap_33 rfl hl (by decide) rfl (fun ls hl => ?_)
      refine lv_aload_n hx hb dX11_swap_34 rfl (lv_at hl 1 rfl) ?_
      refine va_get (D := (dC, dI)) (ci := 11) (v := .ref (g 2)) (C := RX11) (T := TX11) (N := 14) hx hb hwd inA_X11 hown hK hP 0 rfl rfl 1 (by decide) (hwd _ wk_19) (fun _ h9 => h9) rfl dX11_swap_35 ?_
      refine lv_iload_n hx hb dX11_swap_38 rfl (lv_at hl 0 rfl) ?_
      refine va_calli (va_runV (As := [.int z2461]) (rest := []) ⟨hx, hb, hml, hown, hwd⟩ (c_X8_has l dC dI g c adK adV v F rc H.size z2461 hg hI ) (cwV 1 hwd (gV wk_276 wk_273 wk_274 wk_275 wk_18) rfl rfl rfl (by decide +kernel) ⟨Nat.le_of_ble_eq_true rfl, Nat.le_of_ble_eq_true rfl⟩) ⟨PX.blind, va_recv hK hP (ci := 8) (q0 := 2) rfl rfl, fun U hU hW => ⟨rfl, PX.at hK hE hP hS hU hW⟩⟩ rfl rfl hl.1 rfl (lv_room (Nat.le_of_ble_eq_true rfl)) dX11_swap_39 ⟨Nat.le_of_ble_eq_true rfl, Nat.le_of_ble_eq_true rfl⟩) hS (fun q _ h => (freeX hS) q h) (freeX hS) (fun r2463 u t H1 locs ht hvm hw hB hz1 hk1 hS => ?_)
      unfold BX at hB
      rw [ht] at hB
      have hP : va_P (dC, dI) classes (wX g c v F rc) H1 := hB
      have hw : (0 ≤ r2463.toInt ∧ r2463.toInt ≤ 1) ∧ (r2463.toInt = 1 → 0 ≤ z2461.toInt ∧ z2461.toInt < 10) := hw
      generalize H1 = H at hP hS ⊢
      have hw_r2463 := hw
      refine lv_if_eq (tgt := 80) hx hb dX11_swap_42 (by decide) (fun c2464 => ?_) (fun c2464 => ?_)
      · skip
        have t2465 := cv_eq (a := r2463.toInt) rfl (b := 0) (by decide) c2464
        refine lv_bipush (v := (-2)) hx hb dX11_swap_80 (by decide) ?_
        have hP9 : va_P (dC, dI) classes (wX g c v F rc) H := hP
        exact W.iret (v := (-2)) hx hb hr (fun t ht hW => ⟨⟨(-2), (v, F, rc), rfl, ⟨hI, hal, rfl, (fun _ _ => rfl), trivial⟩, (by show va_P _ _ _ t.heap; rw [ht]; exact hP9)⟩, hS.F ht⟩) hS.2.2 dX11_swap_82
      · skip
        have t2466 := cv_ne (a := r2463.toInt) rfl (b := 0) (by decide) c2464
        refine lv_aload_n hx hb dX11_swap_45 rfl (lv_at hl 1 rfl) ?_
        refine va_get (D := (dC, dI)) (ci := 11) (v := .ref (g 3)) (C := RX11) (T := TX11) (N := 14) hx hb hwd inA_X11 hown hK hP 0 rfl rfl 2 (by decide) (hwd _ wk_27) (fun _ h9 => h9) rfl dX11_swap_46 ?_
        refine va_get (D := (dC, dI)) (ci := 7) (v := .ref (g 26)) (C := RX7) (T := TX7) (N := 7) hx hb hwd inA_X7 hown hK hP 3 rfl rfl 4 (by decide) (hwd _ wk_600) (fun _ h9 => h9) rfl dX11_swap_49 ?_
        refine lv_iload_n hx hb dX11_swap_52 rfl (lv_at hl 3 rfl) ?_
        refine va_iald hx hb hK hP 26 14 rfl rfl (i := p1) (vin (a := p1.toInt) rfl (by omega)) dX11_swap_53 ?_
        refine lv_topi (fun z2467 e2468 => ?_)
        refine lv_bipush (v := 11) hx hb dX11_swap_54 (by decide) ?_
        refine lv_icmp_ne (tgt := 80) hx hb dX11_swap_56 (by decide) (fun c2469 => ?_) (fun c2469 => ?_)
        · skip
          have t2470 := cv_ne (a := z2467.toInt) rfl (b := 11) (by decide) c2469
          refine lv_bipush (v := (-2)) hx hb dX11_swap_80 (by decide) ?_
          have hP9 : va_P (dC, dI) classes (wX g c v F rc) H := hP
          exact W.iret (v := (-2)) hx hb hr (fun t ht hW => ⟨⟨(-2), (v, F, rc), rfl, ⟨hI, hal, rfl, (fun _ _ => rfl), trivial⟩, (by show va_P _ _ _ t.heap; rw [ht]; exact hP9)⟩, hS.F ht⟩) hS.2.2 dX11_swap_82
        · skip
          have t2471 := cv_eq (a := z2467.toInt) rfl (b := 11) (by decide) c2469
          refine lv_aload_n hx hb dX11_swap_59 rfl (lv_at hl 1 rfl) ?_
          refine va_get (D := (dC, dI)) (ci := 11) (v := .ref (g 3)) (C := RX11) (T := TX11) (N := 14) hx hb hwd inA_X11 hown hK hP 0 rfl rfl 2 (by decide) (hwd _ wk_27) (fun _ h9 => h9) rfl dX11_swap_60 ?_
          refine va_get (D := (dC, dI)) (ci := 7) (v := .ref (g 24)) (C := RX7) (T := TX7) (N := 7) hx hb hwd inA_X7 hown hK hP 3 rfl rfl 2 (by decide) (hwd _ wk_601) (fun _ h9 => h9) rfl dX11_swap_63 ?_
          refine lv_iload_n hx hb dX11_swap_66 rfl (lv_at hl 2 rfl) ?_
          refine va_iald hx hb hK hP 24 12 rfl rfl (i := p0) (vin (a := p0.toInt) rfl (by omega)) dX11_swap_67 ?_
          refine lv_topi (fun z2472 e2473 => ?_)
          have t2474 : 0 ≤ z2472.toInt ∧ z2472.toInt ≤ 9 := by rw [e2473]; exact hI.2 24 _ _ rfl _
          refine lv_aload_n hx hb dX11_swap_68 rfl (lv_at hl 1 rfl) ?_
          refine va_get (D := (dC, dI)) (ci := 11) (v := .ref (g 3)) (C := RX11) (T := TX11) (N := 14) hx hb hwd inA_X11 hown hK hP 0 rfl rfl 2 (by decide) (hwd _ wk_27) (fun _ h9 => h9) rfl dX11_swap_69 ?_
          refine va_get (D := (dC, dI)) (ci := 7) (v := .ref (g 24)) (C := RX7) (T := TX7) (N := 7) hx hb hwd inA_X7 hown hK hP 3 rfl rfl 2 (by decide) (hwd _ wk_601) (fun _ h9 => h9) rfl dX11_swap_72 ?_
          refine lv_iload_n hx hb dX11_swap_75 rfl (lv_at hl 3 rfl) ?_
          refine va_iald hx hb hK hP 24 12 rfl rfl (i := p1) (vin (a := p1.toInt) rfl (by omega)) dX11_swap_76 ?_
          refine lv_topi (fun z2475 e2476 => ?_)
          have t2477 : 0 ≤ z2475.toInt ∧ z2475.toInt ≤ 9 := by rw [e2476]; exact hI.2 24 _ _ rfl _
          refine lv_icmp_eq (tgt := 83) hx hb dX11_swap_77 (by decide) (fun c2478 => ?_) (fun c2478 => ?_)
          · skip
            have t2479 := cv_eq (a := z2472.toInt) rfl (b := z2475.toInt) rfl c2478
            refine lv_aload_n hx hb dX11_swap_83 rfl (lv_at hl 1 rfl) ?_
            refine va_get (D := (dC, dI)) (ci := 11) (v := .ref (g 4)) (C := RX11) (T := TX11) (N := 14) hx hb hwd inA_X11 hown hK hP 0 rfl rfl 3 (by decide) (hwd _ wk_23) (fun _ h9 => h9) rfl dX11_swap_84 ?_
            refine lv_iconst (v := 2) hx hb dX11_swap_87 (by decide) ?_
            refine va_calli (va_runV (As := [.int 2]) (rest := []) ⟨hx, hb, hml, hown, hwd⟩ (c_X9_hasRoom l dC dI g c adK adV v F rc H.size 2 hg hI ) (cwV 1 hwd (gV wk_565 wk_562 wk_563 wk_564 wk_22) rfl rfl rfl (by decide +kernel) ⟨Nat.le_of_ble_eq_true rfl, Nat.le_of_ble_eq_true rfl⟩) ⟨PX.blind, va_recv hK hP (ci := 9) (q0 := 4) rfl rfl, fun U hU hW => ⟨rfl, PX.at hK hE hP hS hU hW⟩⟩ rfl rfl hl.1 rfl (lv_room (Nat.le_of_ble_eq_true rfl)) dX11_swap_88 ⟨Nat.le_of_ble_eq_true rfl, Nat.le_of_ble_eq_true rfl⟩) hS (fun q _ h => (freeX hS) q h) (freeX hS) (fun r2480 u t H1 locs ht hvm hw hB hz1 hk1 hS => ?_)
            unfold BX at hB
            rw [ht] at hB
            have hP : va_P (dC, dI) classes (wX g c v F rc) H1 := hB
            have hw : 0 ≤ r2480.toInt ∧ r2480.toInt ≤ 1 := hw
            have k2481 : (2 : Int32).toInt = 2 := by decide
            generalize H1 = H at hP hS ⊢
            have hw_r2480 := hw
            refine lv_if_ne (tgt := 97) hx hb dX11_swap_91 (by decide) (fun c2482 => ?_) (fun c2482 => ?_)
            · skip
              have t2483 := cv_ne (a := r2480.toInt) rfl (b := 0) (by decide) c2482
              refine lv_aload_n hx hb dX11_swap_97 rfl (lv_at hl 1 rfl) ?_
              refine va_get (D := (dC, dI)) (ci := 11) (v := .ref (g 3)) (C := RX11) (T := TX11) (N := 14) hx hb hwd inA_X11 hown hK hP 0 rfl rfl 2 (by decide) (hwd _ wk_27) (fun _ h9 => h9) rfl dX11_swap_98 ?_
              refine lv_iload_n hx hb dX11_swap_101 rfl (lv_at hl 2 rfl) ?_
              refine lv_bipush (v := 11) hx hb dX11_swap_102 (by decide) ?_
              refine lv_aload_n hx hb dX11_swap_104 rfl (lv_at hl 1 rfl) ?_
              refine va_get (D := (dC, dI)) (ci := 11) (v := .int (v 11)) (C := RX11) (T := TX11) (N := 14) hx hb hwd inA_X11 hown hK hP 0 rfl rfl 11 (by decide) (hwd _ wk_323) (fun _ h9 => h9) rfl dX11_swap_105 ?_
              have t2484 : 0 ≤ (v 11).toInt ∧ (v 11).toInt ≤ 9999 := hI.1 11 _ _ rfl
              refine va_callv (va_runV (As := [.int p0, .int 11, .int (v 11)]) (rest := []) ⟨hx, hb, hml, hown, hwd⟩ (c_X7_go l dC dI g c adK adV v F rc H.size p0 11 (v 11) hg hI (by omega)) (cwV 3 hwd (gV wk_618 wk_615 wk_616 wk_617 wk_26) rfl rfl rfl (by decide +kernel) ⟨Nat.le_of_ble_eq_true rfl, Nat.le_of_ble_eq_true rfl⟩) ⟨PX.blind, va_recv hK hP (ci := 7) (q0 := 3) rfl rfl, fun U hU hW => ⟨rfl, PX.at hK hE hP hS hU hW⟩⟩ rfl rfl hl.1 rfl (lv_room (Nat.le_of_ble_eq_true rfl)) dX11_swap_108 ⟨Nat.le_of_ble_eq_true rfl, Nat.le_of_ble_eq_true rfl⟩) hS (fun q _ h => (freeX hS) q h) (freeX hS) (fun u t H1 locs ht hvm hw hB hz1 hk1 hS => ?_)
              unfold BX at hB
              rw [ht] at hB
              obtain ⟨v2486, F2487, rc9⟩ := u
              obtain ⟨hI, hal9, hrc, hf2488, hw⟩ := hw
              dsimp only at hI hal9 hrc hB hf2488 hw
              rw [hrc] at hB
              have hal := hal9.trans hal
              have hP : va_P (dC, dI) classes (wX g c v2486 F2487 rc) H1 := hB
              generalize H1 = H at hP hS ⊢
              refine lv_aload_n hx hb dX11_swap_111 rfl (lv_at hl 1 rfl) ?_
              refine va_get (D := (dC, dI)) (ci := 11) (v := .ref (g 3)) (C := RX11) (T := TX11) (N := 14) hx hb hwd inA_X11 hown hK hP 0 rfl rfl 2 (by decide) (hwd _ wk_27) (fun _ h9 => h9) rfl dX11_swap_112 ?_
              refine lv_iload_n hx hb dX11_swap_115 rfl (lv_at hl 3 rfl) ?_
              refine lv_iload_n hx hb dX11_swap_116 rfl (lv_at hl 0 rfl) ?_
              refine lv_aload_n hx hb dX11_swap_117 rfl (lv_at hl 1 rfl) ?_
              refine va_get (D := (dC, dI)) (ci := 11) (v := .int (v2486 11)) (C := RX11) (T := TX11) (N := 14) hx hb hwd inA_X11 hown hK hP 0 rfl rfl 11 (by decide) (hwd _ wk_323) (fun _ h9 => h9) rfl dX11_swap_118 ?_
              refine my_top (v := v 11) (hf2488 11 (by decide)) ?_
              have t2489 : 0 ≤ (v 11).toInt ∧ (v 11).toInt ≤ 9999 := by have h9 := hI.1 11 _ _ rfl; rw [show v2486 11 = v 11 from hf2488 11 (by decide)] at h9; exact h9
              refine va_callv (va_runV (As := [.int p1, .int z2461, .int (v 11)]) (rest := []) ⟨hx, hb, hml, hown, hwd⟩ (c_X7_go l dC dI g c adK adV v2486 F2487 rc H.size p1 z2461 (v 11) hg hI (by omega)) (cwV 3 hwd (gV wk_618 wk_615 wk_616 wk_617 wk_26) rfl rfl rfl (by decide +kernel) ⟨Nat.le_of_ble_eq_true rfl, Nat.le_of_ble_eq_true rfl⟩) ⟨PX.blind, va_recv hK hP (ci := 7) (q0 := 3) rfl rfl, fun U hU hW => ⟨rfl, PX.at hK hE hP hS hU hW⟩⟩ rfl rfl hl.1 rfl (lv_room (Nat.le_of_ble_eq_true rfl)) dX11_swap_121 ⟨Nat.le_of_ble_eq_true rfl, Nat.le_of_ble_eq_true rfl⟩) hS (fun q _ h => (freeX hS) q h) (freeX hS) (fun u t H1 locs ht hvm hw hB hz1 hk1 hS => ?_)
              unfold BX at hB
              rw [ht] at hB
              obtain ⟨v2491, F2492, rc9⟩ := u
              obtain ⟨hI, hal9, hrc, hf2493, hw⟩ := hw
              dsimp only at hI hal9 hrc hB hf2493 hw
              rw [hrc] at hB
              have hal := hal9.trans hal
              have hP : va_P (dC, dI) classes (wX g c v2491 F2492 rc) H1 := hB
              generalize H1 = H at hP hS ⊢
              refine lv_iconst (v := 1) hx hb dX11_swap_124 (by decide) ?_
              have hP9 : va_P (dC, dI) classes (wX g c v2491 F2492 rc) H := hP
              exact W.iret (v := 1) hx hb hr (fun t ht hW => ⟨⟨1, (v2491, F2492, rc), rfl, ⟨hI, hal, rfl, (frC (by decide) hf2493 (frC (by decide) hf2488 (fun _ _ => rfl))), trivial⟩, (by show va_P _ _ _ t.heap; rw [ht]; exact hP9)⟩, hS.F ht⟩) hS.2.2 dX11_swap_125
            · skip
              have t2494 := cv_eq (a := r2480.toInt) rfl (b := 0) (by decide) c2482
              refine lv_bipush (v := (-3)) hx hb dX11_swap_94 (by decide) ?_
              have hP9 : va_P (dC, dI) classes (wX g c v F rc) H := hP
              exact W.iret (v := (-3)) hx hb hr (fun t ht hW => ⟨⟨(-3), (v, F, rc), rfl, ⟨hI, hal, rfl, (fun _ _ => rfl), trivial⟩, (by show va_P _ _ _ t.heap; rw [ht]; exact hP9)⟩, hS.F ht⟩) hS.2.2 dX11_swap_96
          · skip
            have t2495 := cv_ne (a := z2472.toInt) rfl (b := z2475.toInt) rfl c2478
            refine lv_bipush (v := (-2)) hx hb dX11_swap_80 (by decide) ?_
            have hP9 : va_P (dC, dI) classes (wX g c v F rc) H := hP
            exact W.iret (v := (-2)) hx hb hr (fun t ht hW => ⟨⟨(-2), (v, F, rc), rfl, ⟨hI, hal, rfl, (fun _ _ => rfl), trivial⟩, (by show va_P _ _ _ t.heap; rw [ht]; exact hP9)⟩, hS.F ht⟩) hS.2.2 dX11_swap_82
    · skip
      have t2496 := cv_eq (a := r2458.toInt) rfl (b := 0) (by decide) c2459
      refine lv_iconst (v := (-1)) hx hb dX11_swap_22 (by decide) ?_
      have hP9 : va_P (dC, dI) classes (wX g c v F rc) H := hP
      exact W.iret (v := (-1)) hx hb hr (fun t ht hW => ⟨⟨(-1), (v, F, rc), rfl, ⟨hI, hal, rfl, (fun _ _ => rfl), trivial⟩, (by show va_P _ _ _ t.heap; rw [ht]; exact hP9)⟩, hS.F ht⟩) hS.2.2 dX11_swap_23
set_option maxHeartbeats 8000000 in
set_option maxRecDepth 100000 in
theorem c_X11_repair (l : Launch) (dC : Nat → ClassId) (dI : Nat → Nat → Nat) (g : Nat → Nat) (c : Nat → ClassId) (adK adV : Nat → Nat) (v : Nat → Int32) (F : Nat → Nat → Int32) (rc sz : Nat) (p0 : Int32) (p1 : Int32) (hg : injX g) (hI : IX v F) : Met l yX11_repair (Cond.code yX11_repair cX11_repair 3 (some .int) :: wA) ({ frames := 2, cells := 0, slots := 0, locals := 80 }) (va_Pc [.ref (g 0), .int p0, .int p1] (PX dC dI g c adK adV v F rc sz)) (va_Qi (fun (r : Int32) (u : StX) => IX u.1 u.2.1 ∧ alX u.1 u.2.1 = alX v F ∧ u.2.2 = rc ∧ (∀ k, k ∉ ([] : List Nat) → u.1 k = v k) ∧ True) (BX dC dI g c) (AX g sz)) 0 0 (AX g sz) := by
  refine Met.ofW (cc := cX11_repair) (maxL := 3) (ret := (some .int)) (by decide) rfl ?_
  intro p e s m args below meth c0 s₁ B hml hv
  obtain ⟨rfl, hsz, hP, hK, hE⟩ := hv
  have hx := B.exec
  have hb := B.bytes
  have hr := B.returns
  have hts := atoms_spec (ws := Cond.code yX11_repair cX11_repair 3 (some .int) :: wA) B.pre
  have hwd : ∀ w ∈ wA, w.before _ s = true := fun w h => hts w (List.mem_cons_of_mem _ h)
  have hown : s.vm.findClass RX11 = some m.cls := findClass_of_methodNamed B.named
  have hlocks := B.notSynchronized
  subst hsz
  have hl := lv_entry ([.ref (g 0), .int p0, .int p1]) (n := 3) (Nat.le_of_ble_eq_true rfl)
  rw [lg_entry_eq]
  generalize (lg_sl ([.ref (g 0), .int p0, .int p1]) ++ List.replicate (3 - (lg_sl ([.ref (g 0), .int p0, .int p1])).length) Slot.unset).toArray = ls at hl ⊢
  have hl : lv_has ls 3 [(0, .ref (g 0)), (1, .int p0), (2, .int p1)] := hl
  obtain ⟨H, eH⟩ : ∃ z, z = s.heap := ⟨_, rfl⟩
  have hP : va_P (dC, dI) classes (wX g c v F rc) H := by rw [eH]; exact hP
  have hS : va_S (AX g s.heap.size) s.heap H [] := by rw [eH]; exact va_S.rf
  refine my_heap eH ?_
  have hal : alX v F = alX v F := rfl
  have rp0 := i32_rng p0
  have rp1 := i32_rng p1
  refine lv_aload_n hx hb dX11_repair_0 rfl (lv_at hl 0 rfl) ?_
  refine va_get (D := (dC, dI)) (ci := 11) (v := .ref (g 3)) (C := RX11) (T := TX11) (N := 14) hx hb hwd inA_X11 hown hK hP 0 rfl rfl 2 (by decide) (hwd _ wk_27) (fun _ h9 => h9) rfl dX11_repair_1 ?_
  refine lv_iload_n hx hb dX11_repair_4 rfl (lv_at hl 1 rfl) ?_
  refine va_calli (va_runV (As := [.int p0]) (rest := []) ⟨hx, hb, hml, hown, hwd⟩ (c_X7_has l dC dI g c adK adV v F rc H.size p0 hg hI ) (cwV 1 hwd (gV wk_605 wk_602 wk_603 wk_604 wk_26) rfl rfl rfl (by decide +kernel) ⟨Nat.le_of_ble_eq_true rfl, Nat.le_of_ble_eq_true rfl⟩) ⟨PX.blind, va_recv hK hP (ci := 7) (q0 := 3) rfl rfl, fun U hU hW => ⟨rfl, PX.at hK hE hP hS hU hW⟩⟩ rfl rfl hl.1 rfl (lv_room (Nat.le_of_ble_eq_true rfl)) dX11_repair_5 ⟨Nat.le_of_ble_eq_true rfl, Nat.le_of_ble_eq_true rfl⟩) hS (fun q _ h => (freeX hS) q h) (freeX hS) (fun r2497 u t H1 locs ht hvm hw hB hz1 hk1 hS => ?_)
  unfold BX at hB
  rw [ht] at hB
  have hP : va_P (dC, dI) classes (wX g c v F rc) H1 := hB
  have hw : (0 ≤ r2497.toInt ∧ r2497.toInt ≤ 1) ∧ (r2497.toInt = 1 → 0 ≤ p0.toInt ∧ p0.toInt < 100) := hw
  generalize H1 = H at hP hS ⊢
  have hw_r2497 := hw
  refine lv_if_eq (tgt := 21) hx hb dX11_repair_8 (by decide) (fun c2498 => ?_) (fun c2498 => ?_)
  · skip
    have t2499 := cv_eq (a := r2497.toInt) rfl (b := 0) (by decide) c2498
    refine lv_iconst (v := (-1)) hx hb dX11_repair_21 (by decide) ?_
    have hP9 : va_P (dC, dI) classes (wX g c v F rc) H := hP
    exact W.iret (v := (-1)) hx hb hr (fun t ht hW => ⟨⟨(-1), (v, F, rc), rfl, ⟨hI, hal, rfl, (fun _ _ => rfl), trivial⟩, (by show va_P _ _ _ t.heap; rw [ht]; exact hP9)⟩, hS.F ht⟩) hS.2.2 dX11_repair_22
  · skip
    have t2500 := cv_ne (a := r2497.toInt) rfl (b := 0) (by decide) c2498
    refine lv_iload_n hx hb dX11_repair_11 rfl (lv_at hl 2 rfl) ?_
    refine lv_iconst (v := 1) hx hb dX11_repair_12 (by decide) ?_
    refine lv_bipush (v := 7) hx hb dX11_repair_13 (by decide) ?_
    refine va_calli (va_runS (As := [.int p1, .int 1, .int 7]) (rest := []) ⟨hx, hb, hml, hown, hwd⟩ (c_X11_within l dC dI g c adK adV v F rc H.size p1 1 7 hg hI ) (va_cwS 3 hwd (gT wk_239 wk_237 wk_238 wk_2) rfl rfl rfl (by decide +kernel) ⟨Nat.le_of_ble_eq_true rfl, Nat.le_of_ble_eq_true rfl⟩) ⟨PX.blind, fun U hU hW => ⟨rfl, PX.at hK hE hP hS hU hW⟩⟩ rfl rfl hl.1 rfl (lv_room (Nat.le_of_ble_eq_true rfl)) dX11_repair_15 ⟨Nat.le_of_ble_eq_true rfl, Nat.le_of_ble_eq_true rfl⟩) hS (fun q _ h => (freeX hS) q h) (freeX hS) (fun r2501 u t H1 locs ht hvm hw hB hz1 hk1 hS => ?_)
    unfold BX at hB
    rw [ht] at hB
    have hP : va_P (dC, dI) classes (wX g c v F rc) H1 := hB
    have hw : (r2501.toInt = 1 ∧ (1 : Int32).toInt ≤ p1.toInt ∧ p1.toInt ≤ (7 : Int32).toInt) ∨ (r2501.toInt = 0 ∧ (p1.toInt < (1 : Int32).toInt ∨ (7 : Int32).toInt < p1.toInt)) := hw
    have k2502 : (1 : Int32).toInt = 1 := by decide
    have k2503 : (7 : Int32).toInt = 7 := by decide
    generalize H1 = H at hP hS ⊢
    have hw_r2501 := hw
    refine lv_if_ne (tgt := 23) hx hb dX11_repair_18 (by decide) (fun c2504 => ?_) (fun c2504 => ?_)
    · skip
      have t2505 := cv_ne (a := r2501.toInt) rfl (b := 0) (by decide) c2504
      refine lv_aload_n hx hb dX11_repair_23 rfl (lv_at hl 0 rfl) ?_
      refine va_get (D := (dC, dI)) (ci := 11) (v := .ref (g 3)) (C := RX11) (T := TX11) (N := 14) hx hb hwd inA_X11 hown hK hP 0 rfl rfl 2 (by decide) (hwd _ wk_27) (fun _ h9 => h9) rfl dX11_repair_24 ?_
      refine va_get (D := (dC, dI)) (ci := 7) (v := .ref (g 26)) (C := RX7) (T := TX7) (N := 7) hx hb hwd inA_X7 hown hK hP 3 rfl rfl 4 (by decide) (hwd _ wk_600) (fun _ h9 => h9) rfl dX11_repair_27 ?_
      refine lv_iload_n hx hb dX11_repair_30 rfl (lv_at hl 1 rfl) ?_
      refine va_iald hx hb hK hP 26 14 rfl rfl (i := p0) (vin (a := p0.toInt) rfl (by omega)) dX11_repair_31 ?_
      refine lv_topi (fun z2506 e2507 => ?_)
      refine lv_bipush (v := 10) hx hb dX11_repair_32 (by decide) ?_
      refine lv_icmp_eq (tgt := 40) hx hb dX11_repair_34 (by decide) (fun c2508 => ?_) (fun c2508 => ?_)
      · skip
        have t2509 := cv_eq (a := z2506.toInt) rfl (b := 10) (by decide) c2508
        refine lv_aload_n hx hb dX11_repair_40 rfl (lv_at hl 0 rfl) ?_
        refine va_get (D := (dC, dI)) (ci := 11) (v := .ref (g 3)) (C := RX11) (T := TX11) (N := 14) hx hb hwd inA_X11 hown hK hP 0 rfl rfl 2 (by decide) (hwd _ wk_27) (fun _ h9 => h9) rfl dX11_repair_41 ?_
        refine lv_iload_n hx hb dX11_repair_44 rfl (lv_at hl 1 rfl) ?_
        refine lv_iload_n hx hb dX11_repair_45 rfl (lv_at hl 2 rfl) ?_
        refine va_callv (va_runV (As := [.int p0, .int p1]) (rest := []) ⟨hx, hb, hml, hown, hwd⟩ (c_X7_renew l dC dI g c adK adV v F rc H.size p0 p1 hg hI (by omega)) (cwV 2 hwd (gV wk_655 wk_652 wk_653 wk_654 wk_26) rfl rfl rfl (by decide +kernel) ⟨Nat.le_of_ble_eq_true rfl, Nat.le_of_ble_eq_true rfl⟩) ⟨PX.blind, va_recv hK hP (ci := 7) (q0 := 3) rfl rfl, fun U hU hW => ⟨rfl, PX.at hK hE hP hS hU hW⟩⟩ rfl rfl hl.1 rfl (lv_room (Nat.le_of_ble_eq_true rfl)) dX11_repair_46 ⟨Nat.le_of_ble_eq_true rfl, Nat.le_of_ble_eq_true rfl⟩) hS (fun q _ h => (freeX hS) q h) (freeX hS) (fun u t H1 locs ht hvm hw hB hz1 hk1 hS => ?_)
        unfold BX at hB
        rw [ht] at hB
        obtain ⟨v2511, F2512, rc9⟩ := u
        obtain ⟨hI, hal9, hrc, hf2513, hw⟩ := hw
        dsimp only at hI hal9 hrc hB hf2513 hw
        rw [hrc] at hB
        have hal := hal9.trans hal
        have hP : va_P (dC, dI) classes (wX g c v2511 F2512 rc) H1 := hB
        generalize H1 = H at hP hS ⊢
        refine lv_iconst (v := 1) hx hb dX11_repair_49 (by decide) ?_
        have hP9 : va_P (dC, dI) classes (wX g c v2511 F2512 rc) H := hP
        exact W.iret (v := 1) hx hb hr (fun t ht hW => ⟨⟨1, (v2511, F2512, rc), rfl, ⟨hI, hal, rfl, (frC (by decide) hf2513 (fun _ _ => rfl)), trivial⟩, (by show va_P _ _ _ t.heap; rw [ht]; exact hP9)⟩, hS.F ht⟩) hS.2.2 dX11_repair_50
      · skip
        have t2514 := cv_ne (a := z2506.toInt) rfl (b := 10) (by decide) c2508
        refine lv_bipush (v := (-2)) hx hb dX11_repair_37 (by decide) ?_
        have hP9 : va_P (dC, dI) classes (wX g c v F rc) H := hP
        exact W.iret (v := (-2)) hx hb hr (fun t ht hW => ⟨⟨(-2), (v, F, rc), rfl, ⟨hI, hal, rfl, (fun _ _ => rfl), trivial⟩, (by show va_P _ _ _ t.heap; rw [ht]; exact hP9)⟩, hS.F ht⟩) hS.2.2 dX11_repair_39
    · skip
      have t2515 := cv_eq (a := r2501.toInt) rfl (b := 0) (by decide) c2504
      refine lv_iconst (v := (-1)) hx hb dX11_repair_21 (by decide) ?_
      have hP9 : va_P (dC, dI) classes (wX g c v F rc) H := hP
      exact W.iret (v := (-1)) hx hb hr (fun t ht hW => ⟨⟨(-1), (v, F, rc), rfl, ⟨hI, hal, rfl, (fun _ _ => rfl), trivial⟩, (by show va_P _ _ _ t.heap; rw [ht]; exact hP9)⟩, hS.F ht⟩) hS.2.2 dX11_repair_22
set_option maxHeartbeats 8000000 in
set_option maxRecDepth 100000 in
theorem c_X11_ofPart (l : Launch) (dC : Nat → ClassId) (dI : Nat → Nat → Nat) (g : Nat → Nat) (c : Nat → ClassId) (adK adV : Nat → Nat) (v : Nat → Int32) (F : Nat → Nat → Int32) (rc sz : Nat) (p0 : Int32) (p1 : Int32) (hg : injX g) (hI : IX v F) : Met l yX11_ofPart (Cond.code yX11_ofPart cX11_ofPart 3 (some .int) :: wA) ({ frames := 6, cells := 0, slots := 0, locals := 240 }) (va_Pc [.ref (g 0), .int p0, .int p1] (PX dC dI g c adK adV v F rc sz)) (va_Qi (fun (r : Int32) (u : Unit) => True) (fun (_ : Unit) => BX dC dI g c (v, F, rc)) (AX g sz)) 0 0 (AX g sz) := by
  refine Met.ofW (cc := cX11_ofPart) (maxL := 3) (ret := (some .int)) (by decide) rfl ?_
  intro p e s m args below meth c0 s₁ B hml hv
  obtain ⟨rfl, hsz, hP, hK, hE⟩ := hv
  have hx := B.exec
  have hb := B.bytes
  have hr := B.returns
  have hts := atoms_spec (ws := Cond.code yX11_ofPart cX11_ofPart 3 (some .int) :: wA) B.pre
  have hwd : ∀ w ∈ wA, w.before _ s = true := fun w h => hts w (List.mem_cons_of_mem _ h)
  have hown : s.vm.findClass RX11 = some m.cls := findClass_of_methodNamed B.named
  have hlocks := B.notSynchronized
  subst hsz
  have hl := lv_entry ([.ref (g 0), .int p0, .int p1]) (n := 3) (Nat.le_of_ble_eq_true rfl)
  rw [lg_entry_eq]
  generalize (lg_sl ([.ref (g 0), .int p0, .int p1]) ++ List.replicate (3 - (lg_sl ([.ref (g 0), .int p0, .int p1])).length) Slot.unset).toArray = ls at hl ⊢
  have hl : lv_has ls 3 [(0, .ref (g 0)), (1, .int p0), (2, .int p1)] := hl
  obtain ⟨H, eH⟩ : ∃ z, z = s.heap := ⟨_, rfl⟩
  have hP : va_P (dC, dI) classes (wX g c v F rc) H := by rw [eH]; exact hP
  have hS : va_S (AX g s.heap.size) s.heap H [] := by rw [eH]; exact va_S.rf
  refine my_heap eH ?_
  have rp0 := i32_rng p0
  have rp1 := i32_rng p1
  refine lv_aload_n hx hb dX11_ofPart_0 rfl (lv_at hl 0 rfl) ?_
  refine va_get (D := (dC, dI)) (ci := 11) (v := .ref (g 3)) (C := RX11) (T := TX11) (N := 14) hx hb hwd inA_X11 hown hK hP 0 rfl rfl 2 (by decide) (hwd _ wk_27) (fun _ h9 => h9) rfl dX11_ofPart_1 ?_
  refine lv_iload_n hx hb dX11_ofPart_4 rfl (lv_at hl 1 rfl) ?_
  refine va_calli (va_runV (As := [.int p0]) (rest := []) ⟨hx, hb, hml, hown, hwd⟩ (c_X7_has l dC dI g c adK adV v F rc H.size p0 hg hI ) (cwV 1 hwd (gV wk_605 wk_602 wk_603 wk_604 wk_26) rfl rfl rfl (by decide +kernel) ⟨Nat.le_of_ble_eq_true rfl, Nat.le_of_ble_eq_true rfl⟩) ⟨PX.blind, va_recv hK hP (ci := 7) (q0 := 3) rfl rfl, fun U hU hW => ⟨rfl, PX.at hK hE hP hS hU hW⟩⟩ rfl rfl hl.1 rfl (lv_room (Nat.le_of_ble_eq_true rfl)) dX11_ofPart_5 ⟨Nat.le_of_ble_eq_true rfl, Nat.le_of_ble_eq_true rfl⟩) hS (fun q _ h => (freeX hS) q h) (freeX hS) (fun r2516 u t H1 locs ht hvm hw hB hz1 hk1 hS => ?_)
  unfold BX at hB
  rw [ht] at hB
  have hP : va_P (dC, dI) classes (wX g c v F rc) H1 := hB
  have hw : (0 ≤ r2516.toInt ∧ r2516.toInt ≤ 1) ∧ (r2516.toInt = 1 → 0 ≤ p0.toInt ∧ p0.toInt < 100) := hw
  generalize H1 = H at hP hS ⊢
  have hw_r2516 := hw
  refine lv_if_ne (tgt := 14) hx hb dX11_ofPart_8 (by decide) (fun c2517 => ?_) (fun c2517 => ?_)
  · skip
    have t2518 := cv_ne (a := r2516.toInt) rfl (b := 0) (by decide) c2517
    refine lv_iload_n hx hb dX11_ofPart_14 rfl (lv_at hl 2 rfl) ?_
    by_cases hlo2519 : p1.toInt < 0
    · refine lv_tableOut (tgt := 155) hx hb dX11_ofPart_15 (Or.inl hlo2519) (by decide) ?_
      refine lv_ldc (v := (-2000000000)) hx hb hown (hwd _ wk_56) dX11_ofPart_155 ?_
      have hP9 : va_P (dC, dI) classes (wX g c v F rc) H := hP
      exact W.iret (v := (-2000000000)) hx hb hr (fun t ht hW => ⟨⟨(-2000000000), (), rfl, trivial, (by show va_P _ _ _ t.heap; rw [ht]; exact hP9)⟩, hS.F ht⟩) hS.2.2 dX11_ofPart_157
    by_cases hhi2520 : 8 < p1.toInt
    · refine lv_tableOut (tgt := 155) hx hb dX11_ofPart_15 (Or.inr hhi2520) (by decide) ?_
      refine lv_ldc (v := (-2000000000)) hx hb hown (hwd _ wk_56) dX11_ofPart_155 ?_
      have hP9 : va_P (dC, dI) classes (wX g c v F rc) H := hP
      exact W.iret (v := (-2000000000)) hx hb hr (fun t ht hW => ⟨⟨(-2000000000), (), rfl, trivial, (by show va_P _ _ _ t.heap; rw [ht]; exact hP9)⟩, hS.F ht⟩) hS.2.2 dX11_ofPart_157
    rcases (show p1.toInt = 0 ∨ p1.toInt = 1 ∨ p1.toInt = 2 ∨ p1.toInt = 3 ∨ p1.toInt = 4 ∨ p1.toInt = 5 ∨ p1.toInt = 6 ∨ p1.toInt = 7 ∨ p1.toInt = 8 by omega) with hk | hk | hk | hk | hk | hk | hk | hk | hk
    · refine lv_tableIn (off := 49) (tgt := 64) hx hb dX11_ofPart_15 hlo2519 hhi2520 (by rw [hk]; decide) (by decide) ?_
      refine lv_aload_n hx hb dX11_ofPart_64 rfl (lv_at hl 0 rfl) ?_
      refine va_get (D := (dC, dI)) (ci := 11) (v := .ref (g 3)) (C := RX11) (T := TX11) (N := 14) hx hb hwd inA_X11 hown hK hP 0 rfl rfl 2 (by decide) (hwd _ wk_27) (fun _ h9 => h9) rfl dX11_ofPart_65 ?_
      refine va_get (D := (dC, dI)) (ci := 7) (v := .ref (g 24)) (C := RX7) (T := TX7) (N := 7) hx hb hwd inA_X7 hown hK hP 3 rfl rfl 2 (by decide) (hwd _ wk_601) (fun _ h9 => h9) rfl dX11_ofPart_68 ?_
      refine lv_iload_n hx hb dX11_ofPart_71 rfl (lv_at hl 1 rfl) ?_
      refine va_iald hx hb hK hP 24 12 rfl rfl (i := p0) (vin (a := p0.toInt) rfl (by omega)) dX11_ofPart_72 ?_
      refine lv_topi (fun z2521 e2522 => ?_)
      have t2523 : 0 ≤ z2521.toInt ∧ z2521.toInt ≤ 9 := by rw [e2522]; exact hI.2 24 _ _ rfl _
      have hP9 : va_P (dC, dI) classes (wX g c v F rc) H := hP
      exact W.iret (v := z2521) hx hb hr (fun t ht hW => ⟨⟨z2521, (), rfl, trivial, (by show va_P _ _ _ t.heap; rw [ht]; exact hP9)⟩, hS.F ht⟩) hS.2.2 dX11_ofPart_73
    · refine lv_tableIn (off := 59) (tgt := 74) hx hb dX11_ofPart_15 hlo2519 hhi2520 (by rw [hk]; decide) (by decide) ?_
      refine lv_aload_n hx hb dX11_ofPart_74 rfl (lv_at hl 0 rfl) ?_
      refine va_get (D := (dC, dI)) (ci := 11) (v := .ref (g 3)) (C := RX11) (T := TX11) (N := 14) hx hb hwd inA_X11 hown hK hP 0 rfl rfl 2 (by decide) (hwd _ wk_27) (fun _ h9 => h9) rfl dX11_ofPart_75 ?_
      refine va_get (D := (dC, dI)) (ci := 7) (v := .ref (g 25)) (C := RX7) (T := TX7) (N := 7) hx hb hwd inA_X7 hown hK hP 3 rfl rfl 3 (by decide) (hwd _ wk_664) (fun _ h9 => h9) rfl dX11_ofPart_78 ?_
      refine lv_iload_n hx hb dX11_ofPart_81 rfl (lv_at hl 1 rfl) ?_
      refine va_iald hx hb hK hP 25 13 rfl rfl (i := p0) (vin (a := p0.toInt) rfl (by omega)) dX11_ofPart_82 ?_
      refine lv_topi (fun z2524 e2525 => ?_)
      have hP9 : va_P (dC, dI) classes (wX g c v F rc) H := hP
      exact W.iret (v := z2524) hx hb hr (fun t ht hW => ⟨⟨z2524, (), rfl, trivial, (by show va_P _ _ _ t.heap; rw [ht]; exact hP9)⟩, hS.F ht⟩) hS.2.2 dX11_ofPart_83
    · refine lv_tableIn (off := 69) (tgt := 84) hx hb dX11_ofPart_15 hlo2519 hhi2520 (by rw [hk]; decide) (by decide) ?_
      refine lv_aload_n hx hb dX11_ofPart_84 rfl (lv_at hl 0 rfl) ?_
      refine va_get (D := (dC, dI)) (ci := 11) (v := .ref (g 3)) (C := RX11) (T := TX11) (N := 14) hx hb hwd inA_X11 hown hK hP 0 rfl rfl 2 (by decide) (hwd _ wk_27) (fun _ h9 => h9) rfl dX11_ofPart_85 ?_
      refine va_get (D := (dC, dI)) (ci := 7) (v := .ref (g 26)) (C := RX7) (T := TX7) (N := 7) hx hb hwd inA_X7 hown hK hP 3 rfl rfl 4 (by decide) (hwd _ wk_600) (fun _ h9 => h9) rfl dX11_ofPart_88 ?_
      refine lv_iload_n hx hb dX11_ofPart_91 rfl (lv_at hl 1 rfl) ?_
      refine va_iald hx hb hK hP 26 14 rfl rfl (i := p0) (vin (a := p0.toInt) rfl (by omega)) dX11_ofPart_92 ?_
      refine lv_topi (fun z2526 e2527 => ?_)
      have hP9 : va_P (dC, dI) classes (wX g c v F rc) H := hP
      exact W.iret (v := z2526) hx hb hr (fun t ht hW => ⟨⟨z2526, (), rfl, trivial, (by show va_P _ _ _ t.heap; rw [ht]; exact hP9)⟩, hS.F ht⟩) hS.2.2 dX11_ofPart_93
    · refine lv_tableIn (off := 79) (tgt := 94) hx hb dX11_ofPart_15 hlo2519 hhi2520 (by rw [hk]; decide) (by decide) ?_
      refine lv_aload_n hx hb dX11_ofPart_94 rfl (lv_at hl 0 rfl) ?_
      refine va_get (D := (dC, dI)) (ci := 11) (v := .ref (g 3)) (C := RX11) (T := TX11) (N := 14) hx hb hwd inA_X11 hown hK hP 0 rfl rfl 2 (by decide) (hwd _ wk_27) (fun _ h9 => h9) rfl dX11_ofPart_95 ?_
      refine lv_iload_n hx hb dX11_ofPart_98 rfl (lv_at hl 1 rfl) ?_
      refine lv_iconst (v := 0) hx hb dX11_ofPart_99 (by decide) ?_
      refine va_calli (va_runV (As := [.int p0, .int 0]) (rest := []) ⟨hx, hb, hml, hown, hwd⟩ (c_X7_usedOf l dC dI g c adK adV v F rc H.size p0 0 hg hI (by omega) (by have : (0 : Int32).toInt = 0 := (by decide); omega)) (cwV 2 hwd (gV wk_369 wk_665 wk_367 wk_368 wk_26) rfl rfl rfl (by decide +kernel) ⟨Nat.le_of_ble_eq_true rfl, Nat.le_of_ble_eq_true rfl⟩) ⟨PX.blind, va_recv hK hP (ci := 7) (q0 := 3) rfl rfl, fun U hU hW => ⟨rfl, PX.at hK hE hP hS hU hW⟩⟩ rfl rfl hl.1 rfl (lv_room (Nat.le_of_ble_eq_true rfl)) dX11_ofPart_100 ⟨Nat.le_of_ble_eq_true rfl, Nat.le_of_ble_eq_true rfl⟩) hS (fun q _ h => (freeX hS) q h) (freeX hS) (fun r2528 u t H1 locs ht hvm hw hB hz1 hk1 hS => ?_)
      unfold BX at hB
      rw [ht] at hB
      have hP : va_P (dC, dI) classes (wX g c v F rc) H1 := hB
      generalize H1 = H at hP hS ⊢
      have rr_r2528 := i32_rng r2528
      have hP9 : va_P (dC, dI) classes (wX g c v F rc) H := hP
      exact W.iret (v := r2528) hx hb hr (fun t ht hW => ⟨⟨r2528, (), rfl, trivial, (by show va_P _ _ _ t.heap; rw [ht]; exact hP9)⟩, hS.F ht⟩) hS.2.2 dX11_ofPart_103
    · refine lv_tableIn (off := 89) (tgt := 104) hx hb dX11_ofPart_15 hlo2519 hhi2520 (by rw [hk]; decide) (by decide) ?_
      refine lv_aload_n hx hb dX11_ofPart_104 rfl (lv_at hl 0 rfl) ?_
      refine va_get (D := (dC, dI)) (ci := 11) (v := .ref (g 3)) (C := RX11) (T := TX11) (N := 14) hx hb hwd inA_X11 hown hK hP 0 rfl rfl 2 (by decide) (hwd _ wk_27) (fun _ h9 => h9) rfl dX11_ofPart_105 ?_
      refine lv_iload_n hx hb dX11_ofPart_108 rfl (lv_at hl 1 rfl) ?_
      refine lv_iconst (v := 1) hx hb dX11_ofPart_109 (by decide) ?_
      refine va_calli (va_runV (As := [.int p0, .int 1]) (rest := []) ⟨hx, hb, hml, hown, hwd⟩ (c_X7_usedOf l dC dI g c adK adV v F rc H.size p0 1 hg hI (by omega) (by have : (1 : Int32).toInt = 1 := (by decide); omega)) (cwV 2 hwd (gV wk_369 wk_665 wk_367 wk_368 wk_26) rfl rfl rfl (by decide +kernel) ⟨Nat.le_of_ble_eq_true rfl, Nat.le_of_ble_eq_true rfl⟩) ⟨PX.blind, va_recv hK hP (ci := 7) (q0 := 3) rfl rfl, fun U hU hW => ⟨rfl, PX.at hK hE hP hS hU hW⟩⟩ rfl rfl hl.1 rfl (lv_room (Nat.le_of_ble_eq_true rfl)) dX11_ofPart_110 ⟨Nat.le_of_ble_eq_true rfl, Nat.le_of_ble_eq_true rfl⟩) hS (fun q _ h => (freeX hS) q h) (freeX hS) (fun r2529 u t H1 locs ht hvm hw hB hz1 hk1 hS => ?_)
      unfold BX at hB
      rw [ht] at hB
      have hP : va_P (dC, dI) classes (wX g c v F rc) H1 := hB
      generalize H1 = H at hP hS ⊢
      have rr_r2529 := i32_rng r2529
      have hP9 : va_P (dC, dI) classes (wX g c v F rc) H := hP
      exact W.iret (v := r2529) hx hb hr (fun t ht hW => ⟨⟨r2529, (), rfl, trivial, (by show va_P _ _ _ t.heap; rw [ht]; exact hP9)⟩, hS.F ht⟩) hS.2.2 dX11_ofPart_113
    · refine lv_tableIn (off := 99) (tgt := 114) hx hb dX11_ofPart_15 hlo2519 hhi2520 (by rw [hk]; decide) (by decide) ?_
      refine lv_aload_n hx hb dX11_ofPart_114 rfl (lv_at hl 0 rfl) ?_
      refine va_get (D := (dC, dI)) (ci := 11) (v := .ref (g 3)) (C := RX11) (T := TX11) (N := 14) hx hb hwd inA_X11 hown hK hP 0 rfl rfl 2 (by decide) (hwd _ wk_27) (fun _ h9 => h9) rfl dX11_ofPart_115 ?_
      refine lv_iload_n hx hb dX11_ofPart_118 rfl (lv_at hl 1 rfl) ?_
      refine lv_iconst (v := 2) hx hb dX11_ofPart_119 (by decide) ?_
      refine va_calli (va_runV (As := [.int p0, .int 2]) (rest := []) ⟨hx, hb, hml, hown, hwd⟩ (c_X7_usedOf l dC dI g c adK adV v F rc H.size p0 2 hg hI (by omega) (by have : (2 : Int32).toInt = 2 := (by decide); omega)) (cwV 2 hwd (gV wk_369 wk_665 wk_367 wk_368 wk_26) rfl rfl rfl (by decide +kernel) ⟨Nat.le_of_ble_eq_true rfl, Nat.le_of_ble_eq_true rfl⟩) ⟨PX.blind, va_recv hK hP (ci := 7) (q0 := 3) rfl rfl, fun U hU hW => ⟨rfl, PX.at hK hE hP hS hU hW⟩⟩ rfl rfl hl.1 rfl (lv_room (Nat.le_of_ble_eq_true rfl)) dX11_ofPart_120 ⟨Nat.le_of_ble_eq_true rfl, Nat.le_of_ble_eq_true rfl⟩) hS (fun q _ h => (freeX hS) q h) (freeX hS) (fun r2530 u t H1 locs ht hvm hw hB hz1 hk1 hS => ?_)
      unfold BX at hB
      rw [ht] at hB
      have hP : va_P (dC, dI) classes (wX g c v F rc) H1 := hB
      generalize H1 = H at hP hS ⊢
      have rr_r2530 := i32_rng r2530
      have hP9 : va_P (dC, dI) classes (wX g c v F rc) H := hP
      exact W.iret (v := r2530) hx hb hr (fun t ht hW => ⟨⟨r2530, (), rfl, trivial, (by show va_P _ _ _ t.heap; rw [ht]; exact hP9)⟩, hS.F ht⟩) hS.2.2 dX11_ofPart_123
    · refine lv_tableIn (off := 109) (tgt := 124) hx hb dX11_ofPart_15 hlo2519 hhi2520 (by rw [hk]; decide) (by decide) ?_
      refine lv_aload_n hx hb dX11_ofPart_124 rfl (lv_at hl 0 rfl) ?_
      refine va_get (D := (dC, dI)) (ci := 11) (v := .ref (g 4)) (C := RX11) (T := TX11) (N := 14) hx hb hwd inA_X11 hown hK hP 0 rfl rfl 3 (by decide) (hwd _ wk_23) (fun _ h9 => h9) rfl dX11_ofPart_125 ?_
      refine lv_iload_n hx hb dX11_ofPart_128 rfl (lv_at hl 1 rfl) ?_
      refine va_calli (va_runV (As := [.int p0]) (rest := []) ⟨hx, hb, hml, hown, hwd⟩ (c_X9_countOf l dC dI g c adK adV v F rc H.size p0 hg hI (by omega)) (cwV 1 hwd (gV wk_669 wk_666 wk_667 wk_668 wk_22) rfl rfl rfl (by decide +kernel) ⟨Nat.le_of_ble_eq_true rfl, Nat.le_of_ble_eq_true rfl⟩) ⟨PX.blind, va_recv hK hP (ci := 9) (q0 := 4) rfl rfl, fun U hU hW => ⟨rfl, PX.at hK hE hP hS hU hW⟩⟩ rfl rfl hl.1 rfl (lv_room (Nat.le_of_ble_eq_true rfl)) dX11_ofPart_129 ⟨Nat.le_of_ble_eq_true rfl, Nat.le_of_ble_eq_true rfl⟩) hS (fun q _ h => (freeX hS) q h) (freeX hS) (fun r2531 u t H1 locs ht hvm hw hB hz1 hk1 hS => ?_)
      unfold BX at hB
      rw [ht] at hB
      have hP : va_P (dC, dI) classes (wX g c v F rc) H1 := hB
      generalize H1 = H at hP hS ⊢
      have rr_r2531 := i32_rng r2531
      have hP9 : va_P (dC, dI) classes (wX g c v F rc) H := hP
      exact W.iret (v := r2531) hx hb hr (fun t ht hW => ⟨⟨r2531, (), rfl, trivial, (by show va_P _ _ _ t.heap; rw [ht]; exact hP9)⟩, hS.F ht⟩) hS.2.2 dX11_ofPart_132
    · refine lv_tableIn (off := 118) (tgt := 133) hx hb dX11_ofPart_15 hlo2519 hhi2520 (by rw [hk]; decide) (by decide) ?_
      refine lv_aload_n hx hb dX11_ofPart_133 rfl (lv_at hl 0 rfl) ?_
      refine va_get (D := (dC, dI)) (ci := 11) (v := .ref (g 4)) (C := RX11) (T := TX11) (N := 14) hx hb hwd inA_X11 hown hK hP 0 rfl rfl 3 (by decide) (hwd _ wk_23) (fun _ h9 => h9) rfl dX11_ofPart_134 ?_
      refine lv_iload_n hx hb dX11_ofPart_137 rfl (lv_at hl 1 rfl) ?_
      refine va_calli (va_runV (As := [.int p0]) (rest := []) ⟨hx, hb, hml, hown, hwd⟩ (c_X9_gapsOf l dC dI g c adK adV v F rc H.size p0 hg hI (by omega)) (cwV 1 hwd (gV wk_673 wk_670 wk_671 wk_672 wk_22) rfl rfl rfl (by decide +kernel) ⟨Nat.le_of_ble_eq_true rfl, Nat.le_of_ble_eq_true rfl⟩) ⟨PX.blind, va_recv hK hP (ci := 9) (q0 := 4) rfl rfl, fun U hU hW => ⟨rfl, PX.at hK hE hP hS hU hW⟩⟩ rfl rfl hl.1 rfl (lv_room (Nat.le_of_ble_eq_true rfl)) dX11_ofPart_138 ⟨Nat.le_of_ble_eq_true rfl, Nat.le_of_ble_eq_true rfl⟩) hS (fun q _ h => (freeX hS) q h) (freeX hS) (fun r2532 u t H1 locs ht hvm hw hB hz1 hk1 hS => ?_)
      unfold BX at hB
      rw [ht] at hB
      have hP : va_P (dC, dI) classes (wX g c v F rc) H1 := hB
      generalize H1 = H at hP hS ⊢
      have rr_r2532 := i32_rng r2532
      have hP9 : va_P (dC, dI) classes (wX g c v F rc) H := hP
      exact W.iret (v := r2532) hx hb hr (fun t ht hW => ⟨⟨r2532, (), rfl, trivial, (by show va_P _ _ _ t.heap; rw [ht]; exact hP9)⟩, hS.F ht⟩) hS.2.2 dX11_ofPart_141
    · refine lv_tableIn (off := 127) (tgt := 142) hx hb dX11_ofPart_15 hlo2519 hhi2520 (by rw [hk]; decide) (by decide) ?_
      refine lv_aload_n hx hb dX11_ofPart_142 rfl (lv_at hl 0 rfl) ?_
      refine va_get (D := (dC, dI)) (ci := 11) (v := .ref (g 3)) (C := RX11) (T := TX11) (N := 14) hx hb hwd inA_X11 hown hK hP 0 rfl rfl 2 (by decide) (hwd _ wk_27) (fun _ h9 => h9) rfl dX11_ofPart_143 ?_
      refine lv_iload_n hx hb dX11_ofPart_146 rfl (lv_at hl 1 rfl) ?_
      refine lv_aload_n hx hb dX11_ofPart_147 rfl (lv_at hl 0 rfl) ?_
      refine va_get (D := (dC, dI)) (ci := 11) (v := .int (v 11)) (C := RX11) (T := TX11) (N := 14) hx hb hwd inA_X11 hown hK hP 0 rfl rfl 11 (by decide) (hwd _ wk_323) (fun _ h9 => h9) rfl dX11_ofPart_148 ?_
      have t2533 : 0 ≤ (v 11).toInt ∧ (v 11).toInt ≤ 9999 := hI.1 11 _ _ rfl
      refine va_calli (va_runV (As := [.int p0, .int (v 11)]) (rest := []) ⟨hx, hb, hml, hown, hwd⟩ (c_X7_whyCantBe l dC dI g c adK adV v F rc H.size p0 (v 11) hg hI (by omega)) (cwV 2 hwd (gV wk_677 wk_674 wk_675 wk_676 wk_26) rfl rfl rfl (by decide +kernel) ⟨Nat.le_of_ble_eq_true rfl, Nat.le_of_ble_eq_true rfl⟩) ⟨PX.blind, va_recv hK hP (ci := 7) (q0 := 3) rfl rfl, fun U hU hW => ⟨rfl, PX.at hK hE hP hS hU hW⟩⟩ rfl rfl hl.1 rfl (lv_room (Nat.le_of_ble_eq_true rfl)) dX11_ofPart_151 ⟨Nat.le_of_ble_eq_true rfl, Nat.le_of_ble_eq_true rfl⟩) hS (fun q _ h => (freeX hS) q h) (freeX hS) (fun r2534 u t H1 locs ht hvm hw hB hz1 hk1 hS => ?_)
      unfold BX at hB
      rw [ht] at hB
      have hP : va_P (dC, dI) classes (wX g c v F rc) H1 := hB
      generalize H1 = H at hP hS ⊢
      have rr_r2534 := i32_rng r2534
      have hP9 : va_P (dC, dI) classes (wX g c v F rc) H := hP
      exact W.iret (v := r2534) hx hb hr (fun t ht hW => ⟨⟨r2534, (), rfl, trivial, (by show va_P _ _ _ t.heap; rw [ht]; exact hP9)⟩, hS.F ht⟩) hS.2.2 dX11_ofPart_154
  · skip
    have t2535 := cv_eq (a := r2516.toInt) rfl (b := 0) (by decide) c2517
    refine lv_ldc (v := (-2000000000)) hx hb hown (hwd _ wk_56) dX11_ofPart_11 ?_
    have hP9 : va_P (dC, dI) classes (wX g c v F rc) H := hP
    exact W.iret (v := (-2000000000)) hx hb hr (fun t ht hW => ⟨⟨(-2000000000), (), rfl, trivial, (by show va_P _ _ _ t.heap; rw [ht]; exact hP9)⟩, hS.F ht⟩) hS.2.2 dX11_ofPart_13
set_option maxHeartbeats 8000000 in
set_option maxRecDepth 100000 in
theorem c_X11_left (l : Launch) (dC : Nat → ClassId) (dI : Nat → Nat → Nat) (g : Nat → Nat) (c : Nat → ClassId) (adK adV : Nat → Nat) (v : Nat → Int32) (F : Nat → Nat → Int32) (rc sz : Nat) (p0 : Int32) (p1 : Int32) (p2 : Int32) (hg : injX g) (hI : IX v F) : Met l yX11_left (Cond.code yX11_left cX11_left 4 (some .int) :: wA) ({ frames := 6, cells := 0, slots := 0, locals := 240 }) (va_Pc [.ref (g 0), .int p0, .int p1, .int p2] (PX dC dI g c adK adV v F rc sz)) (va_Qi (fun (r : Int32) (u : StX) => IX u.1 u.2.1 ∧ alX u.1 u.2.1 = alX v F ∧ u.2.2 = rc ∧ (∀ k, k ∉ ([126] : List Nat) → u.1 k = v k) ∧ True) (BX dC dI g c) (AX g sz)) 0 0 (AX g sz) := by
  refine Met.ofW (cc := cX11_left) (maxL := 4) (ret := (some .int)) (by decide) rfl ?_
  intro p e s m args below meth c0 s₁ B hml hv
  obtain ⟨rfl, hsz, hP, hK, hE⟩ := hv
  have hx := B.exec
  have hb := B.bytes
  have hr := B.returns
  have hts := atoms_spec (ws := Cond.code yX11_left cX11_left 4 (some .int) :: wA) B.pre
  have hwd : ∀ w ∈ wA, w.before _ s = true := fun w h => hts w (List.mem_cons_of_mem _ h)
  have hown : s.vm.findClass RX11 = some m.cls := findClass_of_methodNamed B.named
  have hlocks := B.notSynchronized
  subst hsz
  have hl := lv_entry ([.ref (g 0), .int p0, .int p1, .int p2]) (n := 4) (Nat.le_of_ble_eq_true rfl)
  rw [lg_entry_eq]
  generalize (lg_sl ([.ref (g 0), .int p0, .int p1, .int p2]) ++ List.replicate (4 - (lg_sl ([.ref (g 0), .int p0, .int p1, .int p2])).length) Slot.unset).toArray = ls at hl ⊢
  have hl : lv_has ls 4 [(0, .ref (g 0)), (1, .int p0), (2, .int p1), (3, .int p2)] := hl
  obtain ⟨H, eH⟩ : ∃ z, z = s.heap := ⟨_, rfl⟩
  have hP : va_P (dC, dI) classes (wX g c v F rc) H := by rw [eH]; exact hP
  have hS : va_S (AX g s.heap.size) s.heap H [] := by rw [eH]; exact va_S.rf
  refine my_heap eH ?_
  have hal : alX v F = alX v F := rfl
  have rp0 := i32_rng p0
  have rp1 := i32_rng p1
  have rp2 := i32_rng p2
  refine lv_aload_n hx hb dX11_left_0 rfl (lv_at hl 0 rfl) ?_
  refine va_get (D := (dC, dI)) (ci := 11) (v := .ref (g 3)) (C := RX11) (T := TX11) (N := 14) hx hb hwd inA_X11 hown hK hP 0 rfl rfl 2 (by decide) (hwd _ wk_27) (fun _ h9 => h9) rfl dX11_left_1 ?_
  refine lv_iload_n hx hb dX11_left_4 rfl (lv_at hl 1 rfl) ?_
  refine va_calli (va_runV (As := [.int p0]) (rest := []) ⟨hx, hb, hml, hown, hwd⟩ (c_X7_has l dC dI g c adK adV v F rc H.size p0 hg hI ) (cwV 1 hwd (gV wk_605 wk_602 wk_603 wk_604 wk_26) rfl rfl rfl (by decide +kernel) ⟨Nat.le_of_ble_eq_true rfl, Nat.le_of_ble_eq_true rfl⟩) ⟨PX.blind, va_recv hK hP (ci := 7) (q0 := 3) rfl rfl, fun U hU hW => ⟨rfl, PX.at hK hE hP hS hU hW⟩⟩ rfl rfl hl.1 rfl (lv_room (Nat.le_of_ble_eq_true rfl)) dX11_left_5 ⟨Nat.le_of_ble_eq_true rfl, Nat.le_of_ble_eq_true rfl⟩) hS (fun q _ h => (freeX hS) q h) (freeX hS) (fun r2536 u t H1 locs ht hvm hw hB hz1 hk1 hS => ?_)
  unfold BX at hB
  rw [ht] at hB
  have hP : va_P (dC, dI) classes (wX g c v F rc) H1 := hB
  have hw : (0 ≤ r2536.toInt ∧ r2536.toInt ≤ 1) ∧ (r2536.toInt = 1 → 0 ≤ p0.toInt ∧ p0.toInt < 100) := hw
  generalize H1 = H at hP hS ⊢
  have hw_r2536 := hw
  refine lv_if_eq (tgt := 27) hx hb dX11_left_8 (by decide) (fun c2537 => ?_) (fun c2537 => ?_)
  · skip
    have t2538 := cv_eq (a := r2536.toInt) rfl (b := 0) (by decide) c2537
    refine lv_ldc (v := (-2000000000)) hx hb hown (hwd _ wk_56) dX11_left_27 ?_
    have hP9 : va_P (dC, dI) classes (wX g c v F rc) H := hP
    exact W.iret (v := (-2000000000)) hx hb hr (fun t ht hW => ⟨⟨(-2000000000), (v, F, rc), rfl, ⟨hI, hal, rfl, (fun _ _ => rfl), trivial⟩, (by show va_P _ _ _ t.heap; rw [ht]; exact hP9)⟩, hS.F ht⟩) hS.2.2 dX11_left_29
  · skip
    have t2539 := cv_ne (a := r2536.toInt) rfl (b := 0) (by decide) c2537
    refine lv_iload_n hx hb dX11_left_11 rfl (lv_at hl 2 rfl) ?_
    refine lv_iconst (v := 0) hx hb dX11_left_12 (by decide) ?_
    refine lv_iconst (v := 2) hx hb dX11_left_13 (by decide) ?_
    refine va_calli (va_runS (As := [.int p1, .int 0, .int 2]) (rest := []) ⟨hx, hb, hml, hown, hwd⟩ (c_X11_within l dC dI g c adK adV v F rc H.size p1 0 2 hg hI ) (va_cwS 3 hwd (gT wk_239 wk_237 wk_238 wk_2) rfl rfl rfl (by decide +kernel) ⟨Nat.le_of_ble_eq_true rfl, Nat.le_of_ble_eq_true rfl⟩) ⟨PX.blind, fun U hU hW => ⟨rfl, PX.at hK hE hP hS hU hW⟩⟩ rfl rfl hl.1 rfl (lv_room (Nat.le_of_ble_eq_true rfl)) dX11_left_14 ⟨Nat.le_of_ble_eq_true rfl, Nat.le_of_ble_eq_true rfl⟩) hS (fun q _ h => (freeX hS) q h) (freeX hS) (fun r2540 u t H1 locs ht hvm hw hB hz1 hk1 hS => ?_)
    unfold BX at hB
    rw [ht] at hB
    have hP : va_P (dC, dI) classes (wX g c v F rc) H1 := hB
    have hw : (r2540.toInt = 1 ∧ (0 : Int32).toInt ≤ p1.toInt ∧ p1.toInt ≤ (2 : Int32).toInt) ∨ (r2540.toInt = 0 ∧ (p1.toInt < (0 : Int32).toInt ∨ (2 : Int32).toInt < p1.toInt)) := hw
    have k2541 : (0 : Int32).toInt = 0 := by decide
    have k2542 : (2 : Int32).toInt = 2 := by decide
    generalize H1 = H at hP hS ⊢
    have hw_r2540 := hw
    refine lv_if_eq (tgt := 27) hx hb dX11_left_17 (by decide) (fun c2543 => ?_) (fun c2543 => ?_)
    · skip
      have t2544 := cv_eq (a := r2540.toInt) rfl (b := 0) (by decide) c2543
      refine lv_ldc (v := (-2000000000)) hx hb hown (hwd _ wk_56) dX11_left_27 ?_
      have hP9 : va_P (dC, dI) classes (wX g c v F rc) H := hP
      exact W.iret (v := (-2000000000)) hx hb hr (fun t ht hW => ⟨⟨(-2000000000), (v, F, rc), rfl, ⟨hI, hal, rfl, (fun _ _ => rfl), trivial⟩, (by show va_P _ _ _ t.heap; rw [ht]; exact hP9)⟩, hS.F ht⟩) hS.2.2 dX11_left_29
    · skip
      have t2545 := cv_ne (a := r2540.toInt) rfl (b := 0) (by decide) c2543
      refine lv_iload_n hx hb dX11_left_20 rfl (lv_at hl 3 rfl) ?_
      refine va_calli (va_runS (As := [.int p2]) (rest := []) ⟨hx, hb, hml, hown, hwd⟩ (c_X11_isDay l dC dI g c adK adV v F rc H.size p2 hg hI ) (va_cwS 1 hwd (gT wk_549 wk_547 wk_548 wk_2) rfl rfl rfl (by decide +kernel) ⟨Nat.le_of_ble_eq_true rfl, Nat.le_of_ble_eq_true rfl⟩) ⟨PX.blind, fun U hU hW => ⟨rfl, PX.at hK hE hP hS hU hW⟩⟩ rfl rfl hl.1 rfl (lv_room (Nat.le_of_ble_eq_true rfl)) dX11_left_21 ⟨Nat.le_of_ble_eq_true rfl, Nat.le_of_ble_eq_true rfl⟩) hS (fun q _ h => (freeX hS) q h) (freeX hS) (fun r2546 u t H1 locs ht hvm hw hB hz1 hk1 hS => ?_)
      unfold BX at hB
      rw [ht] at hB
      have hP : va_P (dC, dI) classes (wX g c v F rc) H1 := hB
      have hw : (r2546.toInt = 1 ∧ 0 ≤ p2.toInt ∧ p2.toInt ≤ 9999) ∨ (r2546.toInt = 0 ∧ (p2.toInt < 0 ∨ 9999 < p2.toInt)) := hw
      generalize H1 = H at hP hS ⊢
      have hw_r2546 := hw
      refine lv_if_ne (tgt := 30) hx hb dX11_left_24 (by decide) (fun c2547 => ?_) (fun c2547 => ?_)
      · skip
        have t2548 := cv_ne (a := r2546.toInt) rfl (b := 0) (by decide) c2547
        refine lv_aload_n hx hb dX11_left_30 rfl (lv_at hl 0 rfl) ?_
        refine va_get (D := (dC, dI)) (ci := 11) (v := .ref (g 1)) (C := RX11) (T := TX11) (N := 14) hx hb hwd inA_X11 hown hK hP 0 rfl rfl 0 (by decide) (hwd _ wk_15) (fun _ h9 => h9) rfl dX11_left_31 ?_
        refine lv_aload_n hx hb dX11_left_34 rfl (lv_at hl 0 rfl) ?_
        refine va_get (D := (dC, dI)) (ci := 11) (v := .ref (g 3)) (C := RX11) (T := TX11) (N := 14) hx hb hwd inA_X11 hown hK hP 0 rfl rfl 2 (by decide) (hwd _ wk_27) (fun _ h9 => h9) rfl dX11_left_35 ?_
        refine va_get (D := (dC, dI)) (ci := 7) (v := .ref (g 24)) (C := RX7) (T := TX7) (N := 7) hx hb hwd inA_X7 hown hK hP 3 rfl rfl 2 (by decide) (hwd _ wk_601) (fun _ h9 => h9) rfl dX11_left_38 ?_
        refine lv_iload_n hx hb dX11_left_41 rfl (lv_at hl 1 rfl) ?_
        refine va_iald hx hb hK hP 24 12 rfl rfl (i := p0) (vin (a := p0.toInt) rfl (by omega)) dX11_left_42 ?_
        refine lv_topi (fun z2549 e2550 => ?_)
        have t2551 : 0 ≤ z2549.toInt ∧ z2549.toInt ≤ 9 := by rw [e2550]; exact hI.2 24 _ _ rfl _
        refine lv_iload_n hx hb dX11_left_43 rfl (lv_at hl 2 rfl) ?_
        refine va_calli (va_runV (As := [.int z2549, .int p1]) (rest := []) ⟨hx, hb, hml, hown, hwd⟩ (c_X2_limitOf l dC dI g c adK adV v F rc H.size z2549 p1 hg hI (by omega) (by omega)) (cwV 2 hwd (gV wk_365 wk_762 wk_363 wk_364 wk_14) rfl rfl rfl (by decide +kernel) ⟨Nat.le_of_ble_eq_true rfl, Nat.le_of_ble_eq_true rfl⟩) ⟨PX.blind, va_recv hK hP (ci := 2) (q0 := 1) rfl rfl, fun U hU hW => ⟨rfl, PX.at hK hE hP hS hU hW⟩⟩ rfl rfl hl.1 rfl (lv_room (Nat.le_of_ble_eq_true rfl)) dX11_left_44 ⟨Nat.le_of_ble_eq_true rfl, Nat.le_of_ble_eq_true rfl⟩) hS (fun q _ h => (freeX hS) q h) (freeX hS) (fun r2552 u t H1 locs ht hvm hw hB hz1 hk1 hS => ?_)
        unfold BX at hB
        rw [ht] at hB
        have hP : va_P (dC, dI) classes (wX g c v F rc) H1 := hB
        generalize H1 = H at hP hS ⊢
        have rr_r2552 := i32_rng r2552
        refine lv_if_ne (tgt := 53) hx hb dX11_left_47 (by decide) (fun c2553 => ?_) (fun c2553 => ?_)
        · skip
          have t2554 := cv_ne (a := r2552.toInt) rfl (b := 0) (by decide) c2553
          refine lv_aload_n hx hb dX11_left_53 rfl (lv_at hl 0 rfl) ?_
          refine va_get (D := (dC, dI)) (ci := 11) (v := .ref (g 10)) (C := RX11) (T := TX11) (N := 14) hx hb hwd inA_X11 hown hK hP 0 rfl rfl 9 (by decide) (hwd _ wk_51) (fun _ h9 => h9) rfl dX11_left_54 ?_
          refine lv_iload_n hx hb dX11_left_57 rfl (lv_at hl 1 rfl) ?_
          refine lv_iload_n hx hb dX11_left_58 rfl (lv_at hl 3 rfl) ?_
          refine va_callv (va_runV (As := [.int p0, .int p2]) (rest := []) ⟨hx, hb, hml, hown, hwd⟩ (c_X5_reckon l dC dI g c adK adV v F rc H.size p0 p2 hg hI (by omega)) (cwV 2 hwd (gV wk_359 wk_763 wk_357 wk_358 wk_50) rfl rfl rfl (by decide +kernel) ⟨Nat.le_of_ble_eq_true rfl, Nat.le_of_ble_eq_true rfl⟩) ⟨PX.blind, va_recv hK hP (ci := 5) (q0 := 10) rfl rfl, fun U hU hW => ⟨rfl, PX.at hK hE hP hS hU hW⟩⟩ rfl rfl hl.1 rfl (lv_room (Nat.le_of_ble_eq_true rfl)) dX11_left_59 ⟨Nat.le_of_ble_eq_true rfl, Nat.le_of_ble_eq_true rfl⟩) hS (fun q _ h => (freeX hS) q h) (freeX hS) (fun u t H1 locs ht hvm hw hB hz1 hk1 hS => ?_)
          unfold BX at hB
          rw [ht] at hB
          obtain ⟨v2556, F2557, rc9⟩ := u
          obtain ⟨hI, hal9, hrc, hf2558, hw⟩ := hw
          dsimp only at hI hal9 hrc hB hf2558 hw
          rw [hrc] at hB
          have hal := hal9.trans hal
          have hP : va_P (dC, dI) classes (wX g c v2556 F2557 rc) H1 := hB
          generalize H1 = H at hP hS ⊢
          refine lv_aload_n hx hb dX11_left_62 rfl (lv_at hl 0 rfl) ?_
          refine va_get (D := (dC, dI)) (ci := 11) (v := .ref (g 10)) (C := RX11) (T := TX11) (N := 14) hx hb hwd inA_X11 hown hK hP 0 rfl rfl 9 (by decide) (hwd _ wk_51) (fun _ h9 => h9) rfl dX11_left_63 ?_
          refine va_get (D := (dC, dI)) (ci := 5) (v := .ref (g 74)) (C := RX5) (T := TX5) (N := 6) hx hb hwd inA_X5 hown hK hP 10 rfl rfl 5 (by decide) (hwd _ wk_761) (fun _ h9 => h9) rfl dX11_left_66 ?_
          refine lv_iload_n hx hb dX11_left_69 rfl (lv_at hl 2 rfl) ?_
          refine va_iald hx hb hK hP 74 62 rfl rfl (i := p1) (vin (a := p1.toInt) rfl (by omega)) dX11_left_70 ?_
          refine lv_topi (fun z2559 e2560 => ?_)
          have hP9 : va_P (dC, dI) classes (wX g c v2556 F2557 rc) H := hP
          exact W.iret (v := z2559) hx hb hr (fun t ht hW => ⟨⟨z2559, (v2556, F2557, rc), rfl, ⟨hI, hal, rfl, (frC (by decide) hf2558 (fun _ _ => rfl)), trivial⟩, (by show va_P _ _ _ t.heap; rw [ht]; exact hP9)⟩, hS.F ht⟩) hS.2.2 dX11_left_71
        · skip
          have t2561 := cv_eq (a := r2552.toInt) rfl (b := 0) (by decide) c2553
          refine lv_ldc (v := (-2000000000)) hx hb hown (hwd _ wk_56) dX11_left_50 ?_
          have hP9 : va_P (dC, dI) classes (wX g c v F rc) H := hP
          exact W.iret (v := (-2000000000)) hx hb hr (fun t ht hW => ⟨⟨(-2000000000), (v, F, rc), rfl, ⟨hI, hal, rfl, (fun _ _ => rfl), trivial⟩, (by show va_P _ _ _ t.heap; rw [ht]; exact hP9)⟩, hS.F ht⟩) hS.2.2 dX11_left_52
      · skip
        have t2562 := cv_eq (a := r2546.toInt) rfl (b := 0) (by decide) c2547
        refine lv_ldc (v := (-2000000000)) hx hb hown (hwd _ wk_56) dX11_left_27 ?_
        have hP9 : va_P (dC, dI) classes (wX g c v F rc) H := hP
        exact W.iret (v := (-2000000000)) hx hb hr (fun t ht hW => ⟨⟨(-2000000000), (v, F, rc), rfl, ⟨hI, hal, rfl, (fun _ _ => rfl), trivial⟩, (by show va_P _ _ _ t.heap; rw [ht]; exact hP9)⟩, hS.F ht⟩) hS.2.2 dX11_left_29
set_option maxHeartbeats 8000000 in
set_option maxRecDepth 100000 in
theorem c_X11_least (l : Launch) (dC : Nat → ClassId) (dI : Nat → Nat → Nat) (g : Nat → Nat) (c : Nat → ClassId) (adK adV : Nat → Nat) (v : Nat → Int32) (F : Nat → Nat → Int32) (rc sz : Nat) (p0 : Int32) (p1 : Int32) (hg : injX g) (hI : IX v F) : Met l yX11_least (Cond.code yX11_least cX11_least 4 (some .int) :: wA) ({ frames := 7, cells := 0, slots := 0, locals := 280 }) (va_Pc [.ref (g 0), .int p0, .int p1] (PX dC dI g c adK adV v F rc sz)) (va_Qi (fun (r : Int32) (u : StX) => IX u.1 u.2.1 ∧ alX u.1 u.2.1 = alX v F ∧ u.2.2 = rc ∧ (∀ k, k ∉ ([126] : List Nat) → u.1 k = v k) ∧ True) (BX dC dI g c) (AX g sz)) 0 0 (AX g sz) := by
  refine Met.ofW (cc := cX11_least) (maxL := 4) (ret := (some .int)) (by decide) rfl ?_
  intro p e s m args below meth c0 s₁ B hml hv
  obtain ⟨rfl, hsz, hP, hK, hE⟩ := hv
  have hx := B.exec
  have hb := B.bytes
  have hr := B.returns
  have hts := atoms_spec (ws := Cond.code yX11_least cX11_least 4 (some .int) :: wA) B.pre
  have hwd : ∀ w ∈ wA, w.before _ s = true := fun w h => hts w (List.mem_cons_of_mem _ h)
  have hown : s.vm.findClass RX11 = some m.cls := findClass_of_methodNamed B.named
  have hlocks := B.notSynchronized
  subst hsz
  have hl := lv_entry ([.ref (g 0), .int p0, .int p1]) (n := 4) (Nat.le_of_ble_eq_true rfl)
  rw [lg_entry_eq]
  generalize (lg_sl ([.ref (g 0), .int p0, .int p1]) ++ List.replicate (4 - (lg_sl ([.ref (g 0), .int p0, .int p1])).length) Slot.unset).toArray = ls at hl ⊢
  have hl : lv_has ls 4 [(0, .ref (g 0)), (1, .int p0), (2, .int p1)] := hl
  obtain ⟨H, eH⟩ : ∃ z, z = s.heap := ⟨_, rfl⟩
  have hP : va_P (dC, dI) classes (wX g c v F rc) H := by rw [eH]; exact hP
  have hS : va_S (AX g s.heap.size) s.heap H [] := by rw [eH]; exact va_S.rf
  refine my_heap eH ?_
  have hal : alX v F = alX v F := rfl
  have rp0 := i32_rng p0
  have rp1 := i32_rng p1
  refine lv_aload_n hx hb dX11_least_0 rfl (lv_at hl 0 rfl) ?_
  refine va_get (D := (dC, dI)) (ci := 11) (v := .ref (g 3)) (C := RX11) (T := TX11) (N := 14) hx hb hwd inA_X11 hown hK hP 0 rfl rfl 2 (by decide) (hwd _ wk_27) (fun _ h9 => h9) rfl dX11_least_1 ?_
  refine lv_iload_n hx hb dX11_least_4 rfl (lv_at hl 1 rfl) ?_
  refine va_calli (va_runV (As := [.int p0]) (rest := []) ⟨hx, hb, hml, hown, hwd⟩ (c_X7_has l dC dI g c adK adV v F rc H.size p0 hg hI ) (cwV 1 hwd (gV wk_605 wk_602 wk_603 wk_604 wk_26) rfl rfl rfl (by decide +kernel) ⟨Nat.le_of_ble_eq_true rfl, Nat.le_of_ble_eq_true rfl⟩) ⟨PX.blind, va_recv hK hP (ci := 7) (q0 := 3) rfl rfl, fun U hU hW => ⟨rfl, PX.at hK hE hP hS hU hW⟩⟩ rfl rfl hl.1 rfl (lv_room (Nat.le_of_ble_eq_true rfl)) dX11_least_5 ⟨Nat.le_of_ble_eq_true rfl, Nat.le_of_ble_eq_true rfl⟩) hS (fun q _ h => (freeX hS) q h) (freeX hS) (fun r2563 u t H1 locs ht hvm hw hB hz1 hk1 hS => ?_)
  unfold BX at hB
  rw [ht] at hB
  have hP : va_P (dC, dI) classes (wX g c v F rc) H1 := hB
  have hw : (0 ≤ r2563.toInt ∧ r2563.toInt ≤ 1) ∧ (r2563.toInt = 1 → 0 ≤ p0.toInt ∧ p0.toInt < 100) := hw
  generalize H1 = H at hP hS ⊢
  have hw_r2563 := hw
  refine lv_if_eq (tgt := 18) hx hb dX11_least_8 (by decide) (fun c2564 => ?_) (fun c2564 => ?_)
  · skip
    have t2565 := cv_eq (a := r2563.toInt) rfl (b := 0) (by decide) c2564
    refine lv_iconst (v := (-1)) hx hb dX11_least_18 (by decide) ?_
    have hP9 : va_P (dC, dI) classes (wX g c v F rc) H := hP
    exact W.iret (v := (-1)) hx hb hr (fun t ht hW => ⟨⟨(-1), (v, F, rc), rfl, ⟨hI, hal, rfl, (fun _ _ => rfl), trivial⟩, (by show va_P _ _ _ t.heap; rw [ht]; exact hP9)⟩, hS.F ht⟩) hS.2.2 dX11_least_19
  · skip
    have t2566 := cv_ne (a := r2563.toInt) rfl (b := 0) (by decide) c2564
    refine lv_iload_n hx hb dX11_least_11 rfl (lv_at hl 2 rfl) ?_
    refine va_calli (va_runS (As := [.int p1]) (rest := []) ⟨hx, hb, hml, hown, hwd⟩ (c_X11_isDay l dC dI g c adK adV v F rc H.size p1 hg hI ) (va_cwS 1 hwd (gT wk_549 wk_547 wk_548 wk_2) rfl rfl rfl (by decide +kernel) ⟨Nat.le_of_ble_eq_true rfl, Nat.le_of_ble_eq_true rfl⟩) ⟨PX.blind, fun U hU hW => ⟨rfl, PX.at hK hE hP hS hU hW⟩⟩ rfl rfl hl.1 rfl (lv_room (Nat.le_of_ble_eq_true rfl)) dX11_least_12 ⟨Nat.le_of_ble_eq_true rfl, Nat.le_of_ble_eq_true rfl⟩) hS (fun q _ h => (freeX hS) q h) (freeX hS) (fun r2567 u t H1 locs ht hvm hw hB hz1 hk1 hS => ?_)
    unfold BX at hB
    rw [ht] at hB
    have hP : va_P (dC, dI) classes (wX g c v F rc) H1 := hB
    have hw : (r2567.toInt = 1 ∧ 0 ≤ p1.toInt ∧ p1.toInt ≤ 9999) ∨ (r2567.toInt = 0 ∧ (p1.toInt < 0 ∨ 9999 < p1.toInt)) := hw
    generalize H1 = H at hP hS ⊢
    have hw_r2567 := hw
    refine lv_if_ne (tgt := 20) hx hb dX11_least_15 (by decide) (fun c2568 => ?_) (fun c2568 => ?_)
    · skip
      have t2569 := cv_ne (a := r2567.toInt) rfl (b := 0) (by decide) c2568
      refine lv_aload_n hx hb dX11_least_20 rfl (lv_at hl 0 rfl) ?_
      refine va_get (D := (dC, dI)) (ci := 11) (v := .ref (g 10)) (C := RX11) (T := TX11) (N := 14) hx hb hwd inA_X11 hown hK hP 0 rfl rfl 9 (by decide) (hwd _ wk_51) (fun _ h9 => h9) rfl dX11_least_21 ?_
      refine lv_iload_n hx hb dX11_least_24 rfl (lv_at hl 1 rfl) ?_
      refine lv_iload_n hx hb dX11_least_25 rfl (lv_at hl 2 rfl) ?_
      refine va_calli (va_runV (As := [.int p0, .int p1]) (rest := []) ⟨hx, hb, hml, hown, hwd⟩ (c_X5_leastOf l dC dI g c adK adV v F rc H.size p0 p1 hg hI (by omega)) (cwV 2 hwd (gV wk_775 wk_772 wk_773 wk_774 wk_50) rfl rfl rfl (by decide +kernel) ⟨Nat.le_of_ble_eq_true rfl, Nat.le_of_ble_eq_true rfl⟩) ⟨PX.blind, va_recv hK hP (ci := 5) (q0 := 10) rfl rfl, fun U hU hW => ⟨rfl, PX.at hK hE hP hS hU hW⟩⟩ rfl rfl hl.1 rfl (lv_room (Nat.le_of_ble_eq_true rfl)) dX11_least_26 ⟨Nat.le_of_ble_eq_true rfl, Nat.le_of_ble_eq_true rfl⟩) hS (fun q _ h => (freeX hS) q h) (freeX hS) (fun r2570 u t H1 locs ht hvm hw hB hz1 hk1 hS => ?_)
      unfold BX at hB
      rw [ht] at hB
      obtain ⟨v2571, F2572, rc9⟩ := u
      obtain ⟨hI, hal9, hrc, hf2573, hw⟩ := hw
      dsimp only at hI hal9 hrc hB hf2573 hw
      rw [hrc] at hB
      have hal := hal9.trans hal
      have hP : va_P (dC, dI) classes (wX g c v2571 F2572 rc) H1 := hB
      have hw : -1 ≤ r2570.toInt ∧ r2570.toInt ≤ 2 := hw
      generalize H1 = H at hP hS ⊢
      have hw_r2570 := hw
      refine lv_istore_n (lv' := [(3, .int r2570), (0, .ref (g 0)), (1, .int p0), (2, .int p1)]) hx hb dX11_least_29 rfl hl (by decide) rfl (fun ls hl => ?_)
      refine lv_iload_n hx hb dX11_least_30 rfl (lv_at hl 0 rfl) ?_
      refine lv_iconst (v := (-1)) hx hb dX11_least_31 (by decide) ?_
      refine lv_icmp_ne (tgt := 40) hx hb dX11_least_32 (by decide) (fun c2574 => ?_) (fun c2574 => ?_)
      · skip
        have t2575 := cv_ne (a := r2570.toInt) rfl (b := (-1)) (by decide) c2574
        refine lv_iload_n hx hb dX11_least_40 rfl (lv_at hl 0 rfl) ?_
        have hP9 : va_P (dC, dI) classes (wX g c v2571 F2572 rc) H := hP
        exact W.iret (v := r2570) hx hb hr (fun t ht hW => ⟨⟨r2570, (v2571, F2572, rc), rfl, ⟨hI, hal, rfl, (frC (by decide) hf2573 (fun _ _ => rfl)), trivial⟩, (by show va_P _ _ _ t.heap; rw [ht]; exact hP9)⟩, hS.F ht⟩) hS.2.2 dX11_least_41
      · skip
        have t2576 := cv_eq (a := r2570.toInt) rfl (b := (-1)) (by decide) c2574
        refine lv_bipush (v := (-2)) hx hb dX11_least_35 (by decide) ?_
        refine lv_goto (tgt := 41) hx hb dX11_least_37 (by decide) ?_
        have hP9 : va_P (dC, dI) classes (wX g c v2571 F2572 rc) H := hP
        exact W.iret (v := (-2)) hx hb hr (fun t ht hW => ⟨⟨(-2), (v2571, F2572, rc), rfl, ⟨hI, hal, rfl, (frC (by decide) hf2573 (fun _ _ => rfl)), trivial⟩, (by show va_P _ _ _ t.heap; rw [ht]; exact hP9)⟩, hS.F ht⟩) hS.2.2 dX11_least_41
    · skip
      have t2577 := cv_eq (a := r2567.toInt) rfl (b := 0) (by decide) c2568
      refine lv_iconst (v := (-1)) hx hb dX11_least_18 (by decide) ?_
      have hP9 : va_P (dC, dI) classes (wX g c v F rc) H := hP
      exact W.iret (v := (-1)) hx hb hr (fun t ht hW => ⟨⟨(-1), (v, F, rc), rfl, ⟨hI, hal, rfl, (fun _ _ => rfl), trivial⟩, (by show va_P _ _ _ t.heap; rw [ht]; exact hP9)⟩, hS.F ht⟩) hS.2.2 dX11_least_19
set_option maxHeartbeats 8000000 in
set_option maxRecDepth 100000 in
theorem c_X11_stay (l : Launch) (dC : Nat → ClassId) (dI : Nat → Nat → Nat) (g : Nat → Nat) (c : Nat → ClassId) (adK adV : Nat → Nat) (v : Nat → Int32) (F : Nat → Nat → Int32) (rc sz : Nat) (p0 : Int32) (p1 : Int32) (p2 : Int32) (hg : injX g) (hI : IX v F) : Met l yX11_stay (Cond.code yX11_stay cX11_stay 5 (some .int) :: wA) ({ frames := 3, cells := 0, slots := 0, locals := 120 }) (va_Pc [.ref (g 0), .int p0, .int p1, .int p2] (PX dC dI g c adK adV v F rc sz)) (va_Qi (fun (r : Int32) (u : Unit) => True) (fun (_ : Unit) => BX dC dI g c (v, F, rc)) (AX g sz)) 0 0 (AX g sz) := by
  refine Met.ofW (cc := cX11_stay) (maxL := 5) (ret := (some .int)) (by decide) rfl ?_
  intro p e s m args below meth c0 s₁ B hml hv
  obtain ⟨rfl, hsz, hP, hK, hE⟩ := hv
  have hx := B.exec
  have hb := B.bytes
  have hr := B.returns
  have hts := atoms_spec (ws := Cond.code yX11_stay cX11_stay 5 (some .int) :: wA) B.pre
  have hwd : ∀ w ∈ wA, w.before _ s = true := fun w h => hts w (List.mem_cons_of_mem _ h)
  have hown : s.vm.findClass RX11 = some m.cls := findClass_of_methodNamed B.named
  have hlocks := B.notSynchronized
  subst hsz
  have hl := lv_entry ([.ref (g 0), .int p0, .int p1, .int p2]) (n := 5) (Nat.le_of_ble_eq_true rfl)
  rw [lg_entry_eq]
  generalize (lg_sl ([.ref (g 0), .int p0, .int p1, .int p2]) ++ List.replicate (5 - (lg_sl ([.ref (g 0), .int p0, .int p1, .int p2])).length) Slot.unset).toArray = ls at hl ⊢
  have hl : lv_has ls 5 [(0, .ref (g 0)), (1, .int p0), (2, .int p1), (3, .int p2)] := hl
  obtain ⟨H, eH⟩ : ∃ z, z = s.heap := ⟨_, rfl⟩
  have hP : va_P (dC, dI) classes (wX g c v F rc) H := by rw [eH]; exact hP
  have hS : va_S (AX g s.heap.size) s.heap H [] := by rw [eH]; exact va_S.rf
  refine my_heap eH ?_
  have rp0 := i32_rng p0
  have rp1 := i32_rng p1
  have rp2 := i32_rng p2
  refine lv_aload_n hx hb dX11_stay_0 rfl (lv_at hl 0 rfl) ?_
  refine lv_iload_n hx hb dX11_stay_1 rfl (lv_at hl 1 rfl) ?_
  refine lv_iload_n hx hb dX11_stay_2 rfl (lv_at hl 2 rfl) ?_
  refine va_calli (va_runV (As := [.int p0, .int p1]) (rest := []) ⟨hx, hb, hml, hown, hwd⟩ (c_X11_stayAt l dC dI g c adK adV v F rc H.size p0 p1 hg hI ) (cwV 2 hwd (gV wk_793 wk_790 wk_791 wk_792 wk_2) rfl rfl rfl (by decide +kernel) ⟨Nat.le_of_ble_eq_true rfl, Nat.le_of_ble_eq_true rfl⟩) ⟨PX.blind, va_recv hK hP (ci := 11) (q0 := 0) rfl rfl, fun U hU hW => ⟨rfl, PX.at hK hE hP hS hU hW⟩⟩ rfl rfl hl.1 rfl (lv_room (Nat.le_of_ble_eq_true rfl)) dX11_stay_3 ⟨Nat.le_of_ble_eq_true rfl, Nat.le_of_ble_eq_true rfl⟩) hS (fun q _ h => (freeX hS) q h) (freeX hS) (fun r2578 u t H1 locs ht hvm hw hB hz1 hk1 hS => ?_)
  unfold BX at hB
  rw [ht] at hB
  have hP : va_P (dC, dI) classes (wX g c v F rc) H1 := hB
  have hw : (-1 ≤ r2578.toInt ∧ r2578.toInt ≤ 499) ∧ (r2578.toInt = -1 ∨ (0 ≤ p0.toInt ∧ p0.toInt ≤ 99)) := hw
  generalize H1 = H at hP hS ⊢
  have hw_r2578 := hw
  refine lv_istore (lv' := [(4, .int r2578), (0, .ref (g 0)), (1, .int p0), (2, .int p1), (3, .int p2)]) hx hb dX11_stay_6 hl (by decide) rfl (fun ls hl => ?_)
  refine lv_iload hx hb dX11_stay_8 (lv_at hl 0 rfl) ?_
  refine lv_iconst (v := (-1)) hx hb dX11_stay_10 (by decide) ?_
  refine lv_icmp_ne (tgt := 17) hx hb dX11_stay_11 (by decide) (fun c2579 => ?_) (fun c2579 => ?_)
  · skip
    have t2580 := cv_ne (a := r2578.toInt) rfl (b := (-1)) (by decide) c2579
    refine lv_iload_n hx hb dX11_stay_17 rfl (lv_at hl 4 rfl) ?_
    by_cases hlo2581 : p2.toInt < 0
    · refine lv_tableOut (tgt := 162) hx hb dX11_stay_18 (Or.inl hlo2581) (by decide) ?_
      refine lv_ldc (v := (-2000000000)) hx hb hown (hwd _ wk_56) dX11_stay_162 ?_
      have hP9 : va_P (dC, dI) classes (wX g c v F rc) H := hP
      exact W.iret (v := (-2000000000)) hx hb hr (fun t ht hW => ⟨⟨(-2000000000), (), rfl, trivial, (by show va_P _ _ _ t.heap; rw [ht]; exact hP9)⟩, hS.F ht⟩) hS.2.2 dX11_stay_164
    by_cases hhi2582 : 7 < p2.toInt
    · refine lv_tableOut (tgt := 162) hx hb dX11_stay_18 (Or.inr hhi2582) (by decide) ?_
      refine lv_ldc (v := (-2000000000)) hx hb hown (hwd _ wk_56) dX11_stay_162 ?_
      have hP9 : va_P (dC, dI) classes (wX g c v F rc) H := hP
      exact W.iret (v := (-2000000000)) hx hb hr (fun t ht hW => ⟨⟨(-2000000000), (), rfl, trivial, (by show va_P _ _ _ t.heap; rw [ht]; exact hP9)⟩, hS.F ht⟩) hS.2.2 dX11_stay_164
    rcases (show p2.toInt = 0 ∨ p2.toInt = 1 ∨ p2.toInt = 2 ∨ p2.toInt = 3 ∨ p2.toInt = 4 ∨ p2.toInt = 5 ∨ p2.toInt = 6 ∨ p2.toInt = 7 by omega) with hk | hk | hk | hk | hk | hk | hk | hk
    · refine lv_tableIn (off := 46) (tgt := 64) hx hb dX11_stay_18 hlo2581 hhi2582 (by rw [hk]; decide) (by decide) ?_
      refine lv_aload_n hx hb dX11_stay_64 rfl (lv_at hl 1 rfl) ?_
      refine va_get (D := (dC, dI)) (ci := 11) (v := .ref (g 4)) (C := RX11) (T := TX11) (N := 14) hx hb hwd inA_X11 hown hK hP 0 rfl rfl 3 (by decide) (hwd _ wk_23) (fun _ h9 => h9) rfl dX11_stay_65 ?_
      refine va_get (D := (dC, dI)) (ci := 9) (v := .ref (g 29)) (C := RX9) (T := TX9) (N := 11) hx hb hwd inA_X9 hown hK hP 4 rfl rfl 1 (by decide) (hwd _ wk_786) (fun _ h9 => h9) rfl dX11_stay_68 ?_
      refine lv_iload hx hb dX11_stay_71 (lv_at hl 0 rfl) ?_
      refine va_iald hx hb hK hP 29 17 rfl rfl (i := r2578) (vin (a := r2578.toInt) rfl (by omega)) dX11_stay_73 ?_
      refine lv_topi (fun z2583 e2584 => ?_)
      have hP9 : va_P (dC, dI) classes (wX g c v F rc) H := hP
      exact W.iret (v := z2583) hx hb hr (fun t ht hW => ⟨⟨z2583, (), rfl, trivial, (by show va_P _ _ _ t.heap; rw [ht]; exact hP9)⟩, hS.F ht⟩) hS.2.2 dX11_stay_74
    · refine lv_tableIn (off := 57) (tgt := 75) hx hb dX11_stay_18 hlo2581 hhi2582 (by rw [hk]; decide) (by decide) ?_
      refine lv_aload_n hx hb dX11_stay_75 rfl (lv_at hl 1 rfl) ?_
      refine va_get (D := (dC, dI)) (ci := 11) (v := .ref (g 4)) (C := RX11) (T := TX11) (N := 14) hx hb hwd inA_X11 hown hK hP 0 rfl rfl 3 (by decide) (hwd _ wk_23) (fun _ h9 => h9) rfl dX11_stay_76 ?_
      refine va_get (D := (dC, dI)) (ci := 9) (v := .ref (g 30)) (C := RX9) (T := TX9) (N := 11) hx hb hwd inA_X9 hown hK hP 4 rfl rfl 2 (by decide) (hwd _ wk_787) (fun _ h9 => h9) rfl dX11_stay_79 ?_
      refine lv_iload hx hb dX11_stay_82 (lv_at hl 0 rfl) ?_
      refine va_iald hx hb hK hP 30 18 rfl rfl (i := r2578) (vin (a := r2578.toInt) rfl (by omega)) dX11_stay_84 ?_
      refine lv_topi (fun z2585 e2586 => ?_)
      have hP9 : va_P (dC, dI) classes (wX g c v F rc) H := hP
      exact W.iret (v := z2585) hx hb hr (fun t ht hW => ⟨⟨z2585, (), rfl, trivial, (by show va_P _ _ _ t.heap; rw [ht]; exact hP9)⟩, hS.F ht⟩) hS.2.2 dX11_stay_85
    · refine lv_tableIn (off := 68) (tgt := 86) hx hb dX11_stay_18 hlo2581 hhi2582 (by rw [hk]; decide) (by decide) ?_
      refine lv_aload_n hx hb dX11_stay_86 rfl (lv_at hl 1 rfl) ?_
      refine va_get (D := (dC, dI)) (ci := 11) (v := .ref (g 4)) (C := RX11) (T := TX11) (N := 14) hx hb hwd inA_X11 hown hK hP 0 rfl rfl 3 (by decide) (hwd _ wk_23) (fun _ h9 => h9) rfl dX11_stay_87 ?_
      refine va_get (D := (dC, dI)) (ci := 9) (v := .ref (g 31)) (C := RX9) (T := TX9) (N := 11) hx hb hwd inA_X9 hown hK hP 4 rfl rfl 3 (by decide) (hwd _ wk_788) (fun _ h9 => h9) rfl dX11_stay_90 ?_
      refine lv_iload hx hb dX11_stay_93 (lv_at hl 0 rfl) ?_
      refine va_iald hx hb hK hP 31 19 rfl rfl (i := r2578) (vin (a := r2578.toInt) rfl (by omega)) dX11_stay_95 ?_
      refine lv_topi (fun z2587 e2588 => ?_)
      have hP9 : va_P (dC, dI) classes (wX g c v F rc) H := hP
      exact W.iret (v := z2587) hx hb hr (fun t ht hW => ⟨⟨z2587, (), rfl, trivial, (by show va_P _ _ _ t.heap; rw [ht]; exact hP9)⟩, hS.F ht⟩) hS.2.2 dX11_stay_96
    · refine lv_tableIn (off := 79) (tgt := 97) hx hb dX11_stay_18 hlo2581 hhi2582 (by rw [hk]; decide) (by decide) ?_
      refine lv_aload_n hx hb dX11_stay_97 rfl (lv_at hl 1 rfl) ?_
      refine va_get (D := (dC, dI)) (ci := 11) (v := .ref (g 4)) (C := RX11) (T := TX11) (N := 14) hx hb hwd inA_X11 hown hK hP 0 rfl rfl 3 (by decide) (hwd _ wk_23) (fun _ h9 => h9) rfl dX11_stay_98 ?_
      refine lv_iload hx hb dX11_stay_101 (lv_at hl 0 rfl) ?_
      refine lv_iconst (v := 0) hx hb dX11_stay_103 (by decide) ?_
      refine va_calli (va_runV (As := [.int r2578, .int 0]) (rest := []) ⟨hx, hb, hml, hown, hwd⟩ (c_X9_usedAtStart l dC dI g c adK adV v F rc H.size r2578 0 hg hI (by omega)) (cwV 2 hwd (gV wk_708 wk_798 wk_706 wk_707 wk_22) rfl rfl rfl (by decide +kernel) ⟨Nat.le_of_ble_eq_true rfl, Nat.le_of_ble_eq_true rfl⟩) ⟨PX.blind, va_recv hK hP (ci := 9) (q0 := 4) rfl rfl, fun U hU hW => ⟨rfl, PX.at hK hE hP hS hU hW⟩⟩ rfl rfl hl.1 rfl (lv_room (Nat.le_of_ble_eq_true rfl)) dX11_stay_104 ⟨Nat.le_of_ble_eq_true rfl, Nat.le_of_ble_eq_true rfl⟩) hS (fun q _ h => (freeX hS) q h) (freeX hS) (fun r2589 u t H1 locs ht hvm hw hB hz1 hk1 hS => ?_)
      unfold BX at hB
      rw [ht] at hB
      have hP : va_P (dC, dI) classes (wX g c v F rc) H1 := hB
      generalize H1 = H at hP hS ⊢
      have rr_r2589 := i32_rng r2589
      have hP9 : va_P (dC, dI) classes (wX g c v F rc) H := hP
      exact W.iret (v := r2589) hx hb hr (fun t ht hW => ⟨⟨r2589, (), rfl, trivial, (by show va_P _ _ _ t.heap; rw [ht]; exact hP9)⟩, hS.F ht⟩) hS.2.2 dX11_stay_107
    · refine lv_tableIn (off := 90) (tgt := 108) hx hb dX11_stay_18 hlo2581 hhi2582 (by rw [hk]; decide) (by decide) ?_
      refine lv_aload_n hx hb dX11_stay_108 rfl (lv_at hl 1 rfl) ?_
      refine va_get (D := (dC, dI)) (ci := 11) (v := .ref (g 3)) (C := RX11) (T := TX11) (N := 14) hx hb hwd inA_X11 hown hK hP 0 rfl rfl 2 (by decide) (hwd _ wk_27) (fun _ h9 => h9) rfl dX11_stay_109 ?_
      refine lv_iload_n hx hb dX11_stay_112 rfl (lv_at hl 2 rfl) ?_
      refine lv_iload hx hb dX11_stay_113 (lv_at hl 0 rfl) ?_
      refine lv_iconst (v := 0) hx hb dX11_stay_115 (by decide) ?_
      refine va_calli (va_runV (As := [.int p0, .int r2578, .int 0]) (rest := []) ⟨hx, hb, hml, hown, hwd⟩ (c_X7_usedAtEnd l dC dI g c adK adV v F rc H.size p0 r2578 0 hg hI (by omega) (by omega) (by have : (0 : Int32).toInt = 0 := (by decide); omega)) (cwV 3 hwd (gV wk_699 wk_799 wk_697 wk_698 wk_26) rfl rfl rfl (by decide +kernel) ⟨Nat.le_of_ble_eq_true rfl, Nat.le_of_ble_eq_true rfl⟩) ⟨PX.blind, va_recv hK hP (ci := 7) (q0 := 3) rfl rfl, fun U hU hW => ⟨rfl, PX.at hK hE hP hS hU hW⟩⟩ rfl rfl hl.1 rfl (lv_room (Nat.le_of_ble_eq_true rfl)) dX11_stay_116 ⟨Nat.le_of_ble_eq_true rfl, Nat.le_of_ble_eq_true rfl⟩) hS (fun q _ h => (freeX hS) q h) (freeX hS) (fun r2590 u t H1 locs ht hvm hw hB hz1 hk1 hS => ?_)
      unfold BX at hB
      rw [ht] at hB
      have hP : va_P (dC, dI) classes (wX g c v F rc) H1 := hB
      generalize H1 = H at hP hS ⊢
      have rr_r2590 := i32_rng r2590
      have hP9 : va_P (dC, dI) classes (wX g c v F rc) H := hP
      exact W.iret (v := r2590) hx hb hr (fun t ht hW => ⟨⟨r2590, (), rfl, trivial, (by show va_P _ _ _ t.heap; rw [ht]; exact hP9)⟩, hS.F ht⟩) hS.2.2 dX11_stay_119
    · refine lv_tableIn (off := 102) (tgt := 120) hx hb dX11_stay_18 hlo2581 hhi2582 (by rw [hk]; decide) (by decide) ?_
      refine lv_aload_n hx hb dX11_stay_120 rfl (lv_at hl 1 rfl) ?_
      refine va_get (D := (dC, dI)) (ci := 11) (v := .ref (g 4)) (C := RX11) (T := TX11) (N := 14) hx hb hwd inA_X11 hown hK hP 0 rfl rfl 3 (by decide) (hwd _ wk_23) (fun _ h9 => h9) rfl dX11_stay_121 ?_
      refine lv_iload hx hb dX11_stay_124 (lv_at hl 0 rfl) ?_
      refine lv_iconst (v := 1) hx hb dX11_stay_126 (by decide) ?_
      refine va_calli (va_runV (As := [.int r2578, .int 1]) (rest := []) ⟨hx, hb, hml, hown, hwd⟩ (c_X9_usedAtStart l dC dI g c adK adV v F rc H.size r2578 1 hg hI (by omega)) (cwV 2 hwd (gV wk_708 wk_798 wk_706 wk_707 wk_22) rfl rfl rfl (by decide +kernel) ⟨Nat.le_of_ble_eq_true rfl, Nat.le_of_ble_eq_true rfl⟩) ⟨PX.blind, va_recv hK hP (ci := 9) (q0 := 4) rfl rfl, fun U hU hW => ⟨rfl, PX.at hK hE hP hS hU hW⟩⟩ rfl rfl hl.1 rfl (lv_room (Nat.le_of_ble_eq_true rfl)) dX11_stay_127 ⟨Nat.le_of_ble_eq_true rfl, Nat.le_of_ble_eq_true rfl⟩) hS (fun q _ h => (freeX hS) q h) (freeX hS) (fun r2591 u t H1 locs ht hvm hw hB hz1 hk1 hS => ?_)
      unfold BX at hB
      rw [ht] at hB
      have hP : va_P (dC, dI) classes (wX g c v F rc) H1 := hB
      generalize H1 = H at hP hS ⊢
      have rr_r2591 := i32_rng r2591
      have hP9 : va_P (dC, dI) classes (wX g c v F rc) H := hP
      exact W.iret (v := r2591) hx hb hr (fun t ht hW => ⟨⟨r2591, (), rfl, trivial, (by show va_P _ _ _ t.heap; rw [ht]; exact hP9)⟩, hS.F ht⟩) hS.2.2 dX11_stay_130
    · refine lv_tableIn (off := 113) (tgt := 131) hx hb dX11_stay_18 hlo2581 hhi2582 (by rw [hk]; decide) (by decide) ?_
      refine lv_aload_n hx hb dX11_stay_131 rfl (lv_at hl 1 rfl) ?_
      refine va_get (D := (dC, dI)) (ci := 11) (v := .ref (g 3)) (C := RX11) (T := TX11) (N := 14) hx hb hwd inA_X11 hown hK hP 0 rfl rfl 2 (by decide) (hwd _ wk_27) (fun _ h9 => h9) rfl dX11_stay_132 ?_
      refine lv_iload_n hx hb dX11_stay_135 rfl (lv_at hl 2 rfl) ?_
      refine lv_iload hx hb dX11_stay_136 (lv_at hl 0 rfl) ?_
      refine lv_iconst (v := 1) hx hb dX11_stay_138 (by decide) ?_
      refine va_calli (va_runV (As := [.int p0, .int r2578, .int 1]) (rest := []) ⟨hx, hb, hml, hown, hwd⟩ (c_X7_usedAtEnd l dC dI g c adK adV v F rc H.size p0 r2578 1 hg hI (by omega) (by omega) (by have : (1 : Int32).toInt = 1 := (by decide); omega)) (cwV 3 hwd (gV wk_699 wk_799 wk_697 wk_698 wk_26) rfl rfl rfl (by decide +kernel) ⟨Nat.le_of_ble_eq_true rfl, Nat.le_of_ble_eq_true rfl⟩) ⟨PX.blind, va_recv hK hP (ci := 7) (q0 := 3) rfl rfl, fun U hU hW => ⟨rfl, PX.at hK hE hP hS hU hW⟩⟩ rfl rfl hl.1 rfl (lv_room (Nat.le_of_ble_eq_true rfl)) dX11_stay_139 ⟨Nat.le_of_ble_eq_true rfl, Nat.le_of_ble_eq_true rfl⟩) hS (fun q _ h => (freeX hS) q h) (freeX hS) (fun r2592 u t H1 locs ht hvm hw hB hz1 hk1 hS => ?_)
      unfold BX at hB
      rw [ht] at hB
      have hP : va_P (dC, dI) classes (wX g c v F rc) H1 := hB
      generalize H1 = H at hP hS ⊢
      have rr_r2592 := i32_rng r2592
      have hP9 : va_P (dC, dI) classes (wX g c v F rc) H := hP
      exact W.iret (v := r2592) hx hb hr (fun t ht hW => ⟨⟨r2592, (), rfl, trivial, (by show va_P _ _ _ t.heap; rw [ht]; exact hP9)⟩, hS.F ht⟩) hS.2.2 dX11_stay_142
    · refine lv_tableIn (off := 125) (tgt := 143) hx hb dX11_stay_18 hlo2581 hhi2582 (by rw [hk]; decide) (by decide) ?_
      refine lv_aload_n hx hb dX11_stay_143 rfl (lv_at hl 1 rfl) ?_
      refine va_get (D := (dC, dI)) (ci := 11) (v := .ref (g 4)) (C := RX11) (T := TX11) (N := 14) hx hb hwd inA_X11 hown hK hP 0 rfl rfl 3 (by decide) (hwd _ wk_23) (fun _ h9 => h9) rfl dX11_stay_144 ?_
      refine va_get (D := (dC, dI)) (ci := 9) (v := .ref (g 36)) (C := RX9) (T := TX9) (N := 11) hx hb hwd inA_X9 hown hK hP 4 rfl rfl 8 (by decide) (hwd _ wk_789) (fun _ h9 => h9) rfl dX11_stay_147 ?_
      refine lv_iload hx hb dX11_stay_150 (lv_at hl 0 rfl) ?_
      refine va_zald hx hb hK hP 36 24 rfl rfl (i := r2578) (vin (a := r2578.toInt) rfl (by omega)) dX11_stay_152 ?_
      refine lv_topi (fun z2593 e2594 => ?_)
      refine lv_if_eq (tgt := 160) hx hb dX11_stay_153 (by decide) (fun c2595 => ?_) (fun c2595 => ?_)
      · skip
        have t2596 := cv_eq (a := z2593.toInt) rfl (b := 0) (by decide) c2595
        refine lv_iconst (v := 0) hx hb dX11_stay_160 (by decide) ?_
        have hP9 : va_P (dC, dI) classes (wX g c v F rc) H := hP
        exact W.iret (v := 0) hx hb hr (fun t ht hW => ⟨⟨0, (), rfl, trivial, (by show va_P _ _ _ t.heap; rw [ht]; exact hP9)⟩, hS.F ht⟩) hS.2.2 dX11_stay_161
      · skip
        have t2597 := cv_ne (a := z2593.toInt) rfl (b := 0) (by decide) c2595
        refine lv_iconst (v := 1) hx hb dX11_stay_156 (by decide) ?_
        refine lv_goto (tgt := 161) hx hb dX11_stay_157 (by decide) ?_
        have hP9 : va_P (dC, dI) classes (wX g c v F rc) H := hP
        exact W.iret (v := 1) hx hb hr (fun t ht hW => ⟨⟨1, (), rfl, trivial, (by show va_P _ _ _ t.heap; rw [ht]; exact hP9)⟩, hS.F ht⟩) hS.2.2 dX11_stay_161
  · skip
    have t2598 := cv_eq (a := r2578.toInt) rfl (b := (-1)) (by decide) c2579
    refine lv_ldc (v := (-2000000000)) hx hb hown (hwd _ wk_56) dX11_stay_14 ?_
    have hP9 : va_P (dC, dI) classes (wX g c v F rc) H := hP
    exact W.iret (v := (-2000000000)) hx hb hr (fun t ht hW => ⟨⟨(-2000000000), (), rfl, trivial, (by show va_P _ _ _ t.heap; rw [ht]; exact hP9)⟩, hS.F ht⟩) hS.2.2 dX11_stay_16
set_option maxHeartbeats 8000000 in
set_option maxRecDepth 100000 in
theorem c_X11_paper (l : Launch) (dC : Nat → ClassId) (dI : Nat → Nat → Nat) (g : Nat → Nat) (c : Nat → ClassId) (adK adV : Nat → Nat) (v : Nat → Int32) (F : Nat → Nat → Int32) (rc sz : Nat) (p0 : Int32) (p1 : Int32) (p2 : Int32) (hg : injX g) (hI : IX v F) : Met l yX11_paper (Cond.code yX11_paper cX11_paper 6 (some .int) :: wA) ({ frames := 3, cells := 0, slots := 0, locals := 120 }) (va_Pc [.ref (g 0), .int p0, .int p1, .int p2] (PX dC dI g c adK adV v F rc sz)) (va_Qi (fun (r : Int32) (u : StX) => IX u.1 u.2.1 ∧ alX u.1 u.2.1 = alX v F ∧ u.2.2 = rc ∧ (∀ k, k ∉ ([] : List Nat) → u.1 k = v k) ∧ True) (BX dC dI g c) (AX g sz)) 0 0 (AX g sz) := by
  refine Met.ofW (cc := cX11_paper) (maxL := 6) (ret := (some .int)) (by decide) rfl ?_
  intro p e s m args below meth c0 s₁ B hml hv
  obtain ⟨rfl, hsz, hP, hK, hE⟩ := hv
  have hx := B.exec
  have hb := B.bytes
  have hr := B.returns
  have hts := atoms_spec (ws := Cond.code yX11_paper cX11_paper 6 (some .int) :: wA) B.pre
  have hwd : ∀ w ∈ wA, w.before _ s = true := fun w h => hts w (List.mem_cons_of_mem _ h)
  have hown : s.vm.findClass RX11 = some m.cls := findClass_of_methodNamed B.named
  have hlocks := B.notSynchronized
  subst hsz
  have hl := lv_entry ([.ref (g 0), .int p0, .int p1, .int p2]) (n := 6) (Nat.le_of_ble_eq_true rfl)
  rw [lg_entry_eq]
  generalize (lg_sl ([.ref (g 0), .int p0, .int p1, .int p2]) ++ List.replicate (6 - (lg_sl ([.ref (g 0), .int p0, .int p1, .int p2])).length) Slot.unset).toArray = ls at hl ⊢
  have hl : lv_has ls 6 [(0, .ref (g 0)), (1, .int p0), (2, .int p1), (3, .int p2)] := hl
  obtain ⟨H, eH⟩ : ∃ z, z = s.heap := ⟨_, rfl⟩
  have hP : va_P (dC, dI) classes (wX g c v F rc) H := by rw [eH]; exact hP
  have hS : va_S (AX g s.heap.size) s.heap H [] := by rw [eH]; exact va_S.rf
  refine my_heap eH ?_
  have hal : alX v F = alX v F := rfl
  have rp0 := i32_rng p0
  have rp1 := i32_rng p1
  have rp2 := i32_rng p2
  refine lv_aload_n hx hb dX11_paper_0 rfl (lv_at hl 0 rfl) ?_
  refine lv_iload_n hx hb dX11_paper_1 rfl (lv_at hl 1 rfl) ?_
  refine lv_iload_n hx hb dX11_paper_2 rfl (lv_at hl 2 rfl) ?_
  refine va_calli (va_runV (As := [.int p0, .int p1]) (rest := []) ⟨hx, hb, hml, hown, hwd⟩ (c_X11_stayAt l dC dI g c adK adV v F rc H.size p0 p1 hg hI ) (cwV 2 hwd (gV wk_793 wk_790 wk_791 wk_792 wk_2) rfl rfl rfl (by decide +kernel) ⟨Nat.le_of_ble_eq_true rfl, Nat.le_of_ble_eq_true rfl⟩) ⟨PX.blind, va_recv hK hP (ci := 11) (q0 := 0) rfl rfl, fun U hU hW => ⟨rfl, PX.at hK hE hP hS hU hW⟩⟩ rfl rfl hl.1 rfl (lv_room (Nat.le_of_ble_eq_true rfl)) dX11_paper_3 ⟨Nat.le_of_ble_eq_true rfl, Nat.le_of_ble_eq_true rfl⟩) hS (fun q _ h => (freeX hS) q h) (freeX hS) (fun r2599 u t H1 locs ht hvm hw hB hz1 hk1 hS => ?_)
  unfold BX at hB
  rw [ht] at hB
  have hP : va_P (dC, dI) classes (wX g c v F rc) H1 := hB
  have hw : (-1 ≤ r2599.toInt ∧ r2599.toInt ≤ 499) ∧ (r2599.toInt = -1 ∨ (0 ≤ p0.toInt ∧ p0.toInt ≤ 99)) := hw
  generalize H1 = H at hP hS ⊢
  have hw_r2599 := hw
  refine lv_istore (lv' := [(4, .int r2599), (0, .ref (g 0)), (1, .int p0), (2, .int p1), (3, .int p2)]) hx hb dX11_paper_6 hl (by decide) rfl (fun ls hl => ?_)
  refine lv_iload hx hb dX11_paper_8 (lv_at hl 0 rfl) ?_
  refine lv_iconst (v := (-1)) hx hb dX11_paper_10 (by decide) ?_
  refine lv_icmp_eq (tgt := 23) hx hb dX11_paper_11 (by decide) (fun c2600 => ?_) (fun c2600 => ?_)
  · skip
    have t2601 := cv_eq (a := r2599.toInt) rfl (b := (-1)) (by decide) c2600
    refine lv_iconst (v := (-1)) hx hb dX11_paper_23 (by decide) ?_
    have hP9 : va_P (dC, dI) classes (wX g c v F rc) H := hP
    exact W.iret (v := (-1)) hx hb hr (fun t ht hW => ⟨⟨(-1), (v, F, rc), rfl, ⟨hI, hal, rfl, (fun _ _ => rfl), trivial⟩, (by show va_P _ _ _ t.heap; rw [ht]; exact hP9)⟩, hS.F ht⟩) hS.2.2 dX11_paper_24
  · skip
    have t2602 := cv_ne (a := r2599.toInt) rfl (b := (-1)) (by decide) c2600
    refine lv_iload_n hx hb dX11_paper_14 rfl (lv_at hl 4 rfl) ?_
    refine lv_iconst (v := 0) hx hb dX11_paper_15 (by decide) ?_
    refine lv_iconst (v := 1) hx hb dX11_paper_16 (by decide) ?_
    refine va_calli (va_runS (As := [.int p2, .int 0, .int 1]) (rest := []) ⟨hx, hb, hml, hown, hwd⟩ (c_X11_within l dC dI g c adK adV v F rc H.size p2 0 1 hg hI ) (va_cwS 3 hwd (gT wk_239 wk_237 wk_238 wk_2) rfl rfl rfl (by decide +kernel) ⟨Nat.le_of_ble_eq_true rfl, Nat.le_of_ble_eq_true rfl⟩) ⟨PX.blind, fun U hU hW => ⟨rfl, PX.at hK hE hP hS hU hW⟩⟩ rfl rfl hl.1 rfl (lv_room (Nat.le_of_ble_eq_true rfl)) dX11_paper_17 ⟨Nat.le_of_ble_eq_true rfl, Nat.le_of_ble_eq_true rfl⟩) hS (fun q _ h => (freeX hS) q h) (freeX hS) (fun r2603 u t H1 locs ht hvm hw hB hz1 hk1 hS => ?_)
    unfold BX at hB
    rw [ht] at hB
    have hP : va_P (dC, dI) classes (wX g c v F rc) H1 := hB
    have hw : (r2603.toInt = 1 ∧ (0 : Int32).toInt ≤ p2.toInt ∧ p2.toInt ≤ (1 : Int32).toInt) ∨ (r2603.toInt = 0 ∧ (p2.toInt < (0 : Int32).toInt ∨ (1 : Int32).toInt < p2.toInt)) := hw
    have k2604 : (0 : Int32).toInt = 0 := by decide
    have k2605 : (1 : Int32).toInt = 1 := by decide
    generalize H1 = H at hP hS ⊢
    have hw_r2603 := hw
    refine lv_if_ne (tgt := 25) hx hb dX11_paper_20 (by decide) (fun c2606 => ?_) (fun c2606 => ?_)
    · skip
      have t2607 := cv_ne (a := r2603.toInt) rfl (b := 0) (by decide) c2606
      refine lv_aload_n hx hb dX11_paper_25 rfl (lv_at hl 1 rfl) ?_
      refine va_get (D := (dC, dI)) (ci := 11) (v := .ref (g 4)) (C := RX11) (T := TX11) (N := 14) hx hb hwd inA_X11 hown hK hP 0 rfl rfl 3 (by decide) (hwd _ wk_23) (fun _ h9 => h9) rfl dX11_paper_26 ?_
      refine lv_iload hx hb dX11_paper_29 (lv_at hl 0 rfl) ?_
      refine va_calli (va_runV (As := [.int r2599]) (rest := []) ⟨hx, hb, hml, hown, hwd⟩ (c_X9_goesOn l dC dI g c adK adV v F rc H.size r2599 hg hI (by omega)) (cwV 1 hwd (gV wk_377 wk_808 wk_375 wk_376 wk_22) rfl rfl rfl (by decide +kernel) ⟨Nat.le_of_ble_eq_true rfl, Nat.le_of_ble_eq_true rfl⟩) ⟨PX.blind, va_recv hK hP (ci := 9) (q0 := 4) rfl rfl, fun U hU hW => ⟨rfl, PX.at hK hE hP hS hU hW⟩⟩ rfl rfl hl.1 rfl (lv_room (Nat.le_of_ble_eq_true rfl)) dX11_paper_31 ⟨Nat.le_of_ble_eq_true rfl, Nat.le_of_ble_eq_true rfl⟩) hS (fun q _ h => (freeX hS) q h) (freeX hS) (fun r2608 u t H1 locs ht hvm hw hB hz1 hk1 hS => ?_)
      unfold BX at hB
      rw [ht] at hB
      have hP : va_P (dC, dI) classes (wX g c v F rc) H1 := hB
      have hw : 0 ≤ r2608.toInt ∧ r2608.toInt ≤ 1 := hw
      generalize H1 = H at hP hS ⊢
      have hw_r2608 := hw
      refine lv_if_eq (tgt := 40) hx hb dX11_paper_34 (by decide) (fun c2609 => ?_) (fun c2609 => ?_)
      · skip
        have t2610 := cv_eq (a := r2608.toInt) rfl (b := 0) (by decide) c2609
        refine lv_aload_n hx hb dX11_paper_40 rfl (lv_at hl 1 rfl) ?_
        refine va_get (D := (dC, dI)) (ci := 11) (v := .ref (g 4)) (C := RX11) (T := TX11) (N := 14) hx hb hwd inA_X11 hown hK hP 0 rfl rfl 3 (by decide) (hwd _ wk_23) (fun _ h9 => h9) rfl dX11_paper_41 ?_
        refine va_get (D := (dC, dI)) (ci := 9) (v := .ref (g 36)) (C := RX9) (T := TX9) (N := 11) hx hb hwd inA_X9 hown hK hP 4 rfl rfl 8 (by decide) (hwd _ wk_789) (fun _ h9 => h9) rfl dX11_paper_44 ?_
        refine lv_iload hx hb dX11_paper_47 (lv_at hl 0 rfl) ?_
        refine va_zald hx hb hK hP 36 24 rfl rfl (i := r2599) (vin (a := r2599.toInt) rfl (by omega)) dX11_paper_49 ?_
        refine lv_topi (fun z2611 e2612 => ?_)
        refine lv_if_eq (tgt := 57) hx hb dX11_paper_50 (by decide) (fun c2613 => ?_) (fun c2613 => ?_)
        · skip
          have t2614 := cv_eq (a := z2611.toInt) rfl (b := 0) (by decide) c2613
          refine lv_iconst (v := 0) hx hb dX11_paper_57 (by decide) ?_
          refine lv_istore (lv' := [(5, .int 0), (4, .int r2599), (0, .ref (g 0)), (1, .int p0), (2, .int p1), (3, .int p2)]) hx hb dX11_paper_58 hl (by decide) rfl (fun ls hl => ?_)
          refine lv_aload_n hx hb dX11_paper_60 rfl (lv_at hl 2 rfl) ?_
          refine va_get (D := (dC, dI)) (ci := 11) (v := .ref (g 4)) (C := RX11) (T := TX11) (N := 14) hx hb hwd inA_X11 hown hK hP 0 rfl rfl 3 (by decide) (hwd _ wk_23) (fun _ h9 => h9) rfl dX11_paper_61 ?_
          refine va_get (D := (dC, dI)) (ci := 9) (v := .ref (g 36)) (C := RX9) (T := TX9) (N := 11) hx hb hwd inA_X9 hown hK hP 4 rfl rfl 8 (by decide) (hwd _ wk_789) (fun _ h9 => h9) rfl dX11_paper_64 ?_
          refine lv_iload hx hb dX11_paper_67 (lv_at hl 1 rfl) ?_
          refine lv_iload_n hx hb dX11_paper_69 rfl (lv_at hl 5 rfl) ?_
          refine lv_iconst (v := 1) hx hb dX11_paper_70 (by decide) ?_
          refine lv_icmp_ne (tgt := 78) hx hb dX11_paper_71 (by decide) (fun c2615 => ?_) (fun c2615 => ?_)
          · skip
            have t2616 := cv_ne (a := p2.toInt) rfl (b := 1) (by decide) c2615
            refine lv_iconst (v := 0) hx hb dX11_paper_78 (by decide) ?_
            refine va_zast hx hb hK hP (DX hg) hS 36 24 rfl rfl (i := r2599) (x := 0) (vin (a := r2599.toInt) rfl (by omega)) dX11_paper_79 (fun H locs hP _ hS => ?_)
            have hP := va_P_eq (sX_36 g c _ _ _ _) hP
            have hI := IX.store0 hI 36 (r2599 : Int32).toNatClampNeg (vp_nar .boolean 0) rfl
            have hal := (alX_F _ _ 36 (upd (F 36) (r2599 : Int32).toNatClampNeg (vp_nar .boolean 0)) (by decide) (by decide)).trans hal
            have hP : va_P (dC, dI) classes (wX g c v (va_up F 36 (upd (F 36) (r2599 : Int32).toNatClampNeg (vp_nar .boolean 0))) rc) H := hP
            generalize (va_up F 36 (upd (F 36) (r2599 : Int32).toNatClampNeg (vp_nar .boolean 0))) = F2617 at hP hI hal
            refine lv_iload hx hb dX11_paper_80 (lv_at hl 0 rfl) ?_
            have hP9 : va_P (dC, dI) classes (wX g c v F2617 rc) H := hP
            exact W.iret (v := 0) hx hb hr (fun t ht hW => ⟨⟨0, (v, F2617, rc), rfl, ⟨hI, hal, rfl, (fun _ _ => rfl), trivial⟩, (by show va_P _ _ _ t.heap; rw [ht]; exact hP9)⟩, hS.F ht⟩) hS.2.2 dX11_paper_82
          · skip
            have t2618 := cv_eq (a := p2.toInt) rfl (b := 1) (by decide) c2615
            refine lv_iconst (v := 1) hx hb dX11_paper_74 (by decide) ?_
            refine lv_goto (tgt := 79) hx hb dX11_paper_75 (by decide) ?_
            refine va_zast hx hb hK hP (DX hg) hS 36 24 rfl rfl (i := r2599) (x := 1) (vin (a := r2599.toInt) rfl (by omega)) dX11_paper_79 (fun H locs hP _ hS => ?_)
            have hP := va_P_eq (sX_36 g c _ _ _ _) hP
            have hI := IX.store0 hI 36 (r2599 : Int32).toNatClampNeg (vp_nar .boolean 1) rfl
            have hal := (alX_F _ _ 36 (upd (F 36) (r2599 : Int32).toNatClampNeg (vp_nar .boolean 1)) (by decide) (by decide)).trans hal
            have hP : va_P (dC, dI) classes (wX g c v (va_up F 36 (upd (F 36) (r2599 : Int32).toNatClampNeg (vp_nar .boolean 1))) rc) H := hP
            generalize (va_up F 36 (upd (F 36) (r2599 : Int32).toNatClampNeg (vp_nar .boolean 1))) = F2619 at hP hI hal
            refine lv_iload hx hb dX11_paper_80 (lv_at hl 0 rfl) ?_
            have hP9 : va_P (dC, dI) classes (wX g c v F2619 rc) H := hP
            exact W.iret (v := 0) hx hb hr (fun t ht hW => ⟨⟨0, (v, F2619, rc), rfl, ⟨hI, hal, rfl, (fun _ _ => rfl), trivial⟩, (by show va_P _ _ _ t.heap; rw [ht]; exact hP9)⟩, hS.F ht⟩) hS.2.2 dX11_paper_82
        · skip
          have t2620 := cv_ne (a := z2611.toInt) rfl (b := 0) (by decide) c2613
          refine lv_iconst (v := 1) hx hb dX11_paper_53 (by decide) ?_
          refine lv_goto (tgt := 58) hx hb dX11_paper_54 (by decide) ?_
          refine lv_istore (lv' := [(5, .int 1), (4, .int r2599), (0, .ref (g 0)), (1, .int p0), (2, .int p1), (3, .int p2)]) hx hb dX11_paper_58 hl (by decide) rfl (fun ls hl => ?_)
          refine lv_aload_n hx hb dX11_paper_60 rfl (lv_at hl 2 rfl) ?_
          refine va_get (D := (dC, dI)) (ci := 11) (v := .ref (g 4)) (C := RX11) (T := TX11) (N := 14) hx hb hwd inA_X11 hown hK hP 0 rfl rfl 3 (by decide) (hwd _ wk_23) (fun _ h9 => h9) rfl dX11_paper_61 ?_
          refine va_get (D := (dC, dI)) (ci := 9) (v := .ref (g 36)) (C := RX9) (T := TX9) (N := 11) hx hb hwd inA_X9 hown hK hP 4 rfl rfl 8 (by decide) (hwd _ wk_789) (fun _ h9 => h9) rfl dX11_paper_64 ?_
          refine lv_iload hx hb dX11_paper_67 (lv_at hl 1 rfl) ?_
          refine lv_iload_n hx hb dX11_paper_69 rfl (lv_at hl 5 rfl) ?_
          refine lv_iconst (v := 1) hx hb dX11_paper_70 (by decide) ?_
          refine lv_icmp_ne (tgt := 78) hx hb dX11_paper_71 (by decide) (fun c2621 => ?_) (fun c2621 => ?_)
          · skip
            have t2622 := cv_ne (a := p2.toInt) rfl (b := 1) (by decide) c2621
            refine lv_iconst (v := 0) hx hb dX11_paper_78 (by decide) ?_
            refine va_zast hx hb hK hP (DX hg) hS 36 24 rfl rfl (i := r2599) (x := 0) (vin (a := r2599.toInt) rfl (by omega)) dX11_paper_79 (fun H locs hP _ hS => ?_)
            have hP := va_P_eq (sX_36 g c _ _ _ _) hP
            have hI := IX.store0 hI 36 (r2599 : Int32).toNatClampNeg (vp_nar .boolean 0) rfl
            have hal := (alX_F _ _ 36 (upd (F 36) (r2599 : Int32).toNatClampNeg (vp_nar .boolean 0)) (by decide) (by decide)).trans hal
            have hP : va_P (dC, dI) classes (wX g c v (va_up F 36 (upd (F 36) (r2599 : Int32).toNatClampNeg (vp_nar .boolean 0))) rc) H := hP
            generalize (va_up F 36 (upd (F 36) (r2599 : Int32).toNatClampNeg (vp_nar .boolean 0))) = F2623 at hP hI hal
            refine lv_iload hx hb dX11_paper_80 (lv_at hl 0 rfl) ?_
            have hP9 : va_P (dC, dI) classes (wX g c v F2623 rc) H := hP
            exact W.iret (v := 1) hx hb hr (fun t ht hW => ⟨⟨1, (v, F2623, rc), rfl, ⟨hI, hal, rfl, (fun _ _ => rfl), trivial⟩, (by show va_P _ _ _ t.heap; rw [ht]; exact hP9)⟩, hS.F ht⟩) hS.2.2 dX11_paper_82
          · skip
            have t2624 := cv_eq (a := p2.toInt) rfl (b := 1) (by decide) c2621
            refine lv_iconst (v := 1) hx hb dX11_paper_74 (by decide) ?_
            refine lv_goto (tgt := 79) hx hb dX11_paper_75 (by decide) ?_
            refine va_zast hx hb hK hP (DX hg) hS 36 24 rfl rfl (i := r2599) (x := 1) (vin (a := r2599.toInt) rfl (by omega)) dX11_paper_79 (fun H locs hP _ hS => ?_)
            have hP := va_P_eq (sX_36 g c _ _ _ _) hP
            have hI := IX.store0 hI 36 (r2599 : Int32).toNatClampNeg (vp_nar .boolean 1) rfl
            have hal := (alX_F _ _ 36 (upd (F 36) (r2599 : Int32).toNatClampNeg (vp_nar .boolean 1)) (by decide) (by decide)).trans hal
            have hP : va_P (dC, dI) classes (wX g c v (va_up F 36 (upd (F 36) (r2599 : Int32).toNatClampNeg (vp_nar .boolean 1))) rc) H := hP
            generalize (va_up F 36 (upd (F 36) (r2599 : Int32).toNatClampNeg (vp_nar .boolean 1))) = F2625 at hP hI hal
            refine lv_iload hx hb dX11_paper_80 (lv_at hl 0 rfl) ?_
            have hP9 : va_P (dC, dI) classes (wX g c v F2625 rc) H := hP
            exact W.iret (v := 1) hx hb hr (fun t ht hW => ⟨⟨1, (v, F2625, rc), rfl, ⟨hI, hal, rfl, (fun _ _ => rfl), trivial⟩, (by show va_P _ _ _ t.heap; rw [ht]; exact hP9)⟩, hS.F ht⟩) hS.2.2 dX11_paper_82
      · skip
        have t2626 := cv_ne (a := r2608.toInt) rfl (b := 0) (by decide) c2609
        refine lv_bipush (v := (-2)) hx hb dX11_paper_37 (by decide) ?_
        have hP9 : va_P (dC, dI) classes (wX g c v F rc) H := hP
        exact W.iret (v := (-2)) hx hb hr (fun t ht hW => ⟨⟨(-2), (v, F, rc), rfl, ⟨hI, hal, rfl, (fun _ _ => rfl), trivial⟩, (by show va_P _ _ _ t.heap; rw [ht]; exact hP9)⟩, hS.F ht⟩) hS.2.2 dX11_paper_39
    · skip
      have t2627 := cv_eq (a := r2603.toInt) rfl (b := 0) (by decide) c2606
      refine lv_iconst (v := (-1)) hx hb dX11_paper_23 (by decide) ?_
      have hP9 : va_P (dC, dI) classes (wX g c v F rc) H := hP
      exact W.iret (v := (-1)) hx hb hr (fun t ht hW => ⟨⟨(-1), (v, F, rc), rfl, ⟨hI, hal, rfl, (fun _ _ => rfl), trivial⟩, (by show va_P _ _ _ t.heap; rw [ht]; exact hP9)⟩, hS.F ht⟩) hS.2.2 dX11_paper_24
set_option maxHeartbeats 8000000 in
set_option maxRecDepth 100000 in
theorem c_X11_past (l : Launch) (dC : Nat → ClassId) (dI : Nat → Nat → Nat) (g : Nat → Nat) (c : Nat → ClassId) (adK adV : Nat → Nat) (v : Nat → Int32) (F : Nat → Nat → Int32) (rc sz : Nat) (p0 : Int32) (p1 : Int32) (p2 : Int32) (p3 : Int32) (p4 : Int32) (p5 : Int32) (hg : injX g) (hI : IX v F) : Met l yX11_past (Cond.code yX11_past cX11_past 13 (some .int) :: wA) ({ frames := 3, cells := 0, slots := 0, locals := 120 }) (va_Pc [.ref (g 0), .int p0, .int p1, .int p2, .int p3, .int p4, .int p5] (PX dC dI g c adK adV v F rc sz)) (va_Qi (fun (r : Int32) (u : StX) => IX u.1 u.2.1 ∧ alX u.1 u.2.1 = alX v F ∧ u.2.2 = rc ∧ (∀ k, k ∉ ([80] : List Nat) → u.1 k = v k) ∧ True) (BX dC dI g c) (AX g sz)) 0 0 (AX g sz) := by
  refine Met.ofW (cc := cX11_past) (maxL := 13) (ret := (some .int)) (by decide) rfl ?_
  intro p e s m args below meth c0 s₁ B hml hv
  obtain ⟨rfl, hsz, hP, hK, hE⟩ := hv
  have hx := B.exec
  have hb := B.bytes
  have hr := B.returns
  have hts := atoms_spec (ws := Cond.code yX11_past cX11_past 13 (some .int) :: wA) B.pre
  have hwd : ∀ w ∈ wA, w.before _ s = true := fun w h => hts w (List.mem_cons_of_mem _ h)
  have hown : s.vm.findClass RX11 = some m.cls := findClass_of_methodNamed B.named
  have hlocks := B.notSynchronized
  subst hsz
  have hl := lv_entry ([.ref (g 0), .int p0, .int p1, .int p2, .int p3, .int p4, .int p5]) (n := 13) (Nat.le_of_ble_eq_true rfl)
  rw [lg_entry_eq]
  generalize (lg_sl ([.ref (g 0), .int p0, .int p1, .int p2, .int p3, .int p4, .int p5]) ++ List.replicate (13 - (lg_sl ([.ref (g 0), .int p0, .int p1, .int p2, .int p3, .int p4, .int p5])).length) Slot.unset).toArray = ls at hl ⊢
  have hl : lv_has ls 13 [(0, .ref (g 0)), (1, .int p0), (2, .int p1), (3, .int p2), (4, .int p3), (5, .int p4), (6, .int p5)] := hl
  obtain ⟨H, eH⟩ : ∃ z, z = s.heap := ⟨_, rfl⟩
  have hP : va_P (dC, dI) classes (wX g c v F rc) H := by rw [eH]; exact hP
  have hS : va_S (AX g s.heap.size) s.heap H [] := by rw [eH]; exact va_S.rf
  refine my_heap eH ?_
  have hal : alX v F = alX v F := rfl
  have rp0 := i32_rng p0
  have rp1 := i32_rng p1
  have rp2 := i32_rng p2
  have rp3 := i32_rng p3
  have rp4 := i32_rng p4
  have rp5 := i32_rng p5
  refine lv_aload_n hx hb dX11_past_0 rfl (lv_at hl 0 rfl) ?_
  refine va_get (D := (dC, dI)) (ci := 11) (v := .ref (g 3)) (C := RX11) (T := TX11) (N := 14) hx hb hwd inA_X11 hown hK hP 0 rfl rfl 2 (by decide) (hwd _ wk_27) (fun _ h9 => h9) rfl dX11_past_1 ?_
  refine lv_iload_n hx hb dX11_past_4 rfl (lv_at hl 1 rfl) ?_
  refine va_calli (va_runV (As := [.int p0]) (rest := []) ⟨hx, hb, hml, hown, hwd⟩ (c_X7_has l dC dI g c adK adV v F rc H.size p0 hg hI ) (cwV 1 hwd (gV wk_605 wk_602 wk_603 wk_604 wk_26) rfl rfl rfl (by decide +kernel) ⟨Nat.le_of_ble_eq_true rfl, Nat.le_of_ble_eq_true rfl⟩) ⟨PX.blind, va_recv hK hP (ci := 7) (q0 := 3) rfl rfl, fun U hU hW => ⟨rfl, PX.at hK hE hP hS hU hW⟩⟩ rfl rfl hl.1 rfl (lv_room (Nat.le_of_ble_eq_true rfl)) dX11_past_5 ⟨Nat.le_of_ble_eq_true rfl, Nat.le_of_ble_eq_true rfl⟩) hS (fun q _ h => (freeX hS) q h) (freeX hS) (fun r2628 u t H1 locs ht hvm hw hB hz1 hk1 hS => ?_)
  unfold BX at hB
  rw [ht] at hB
  have hP : va_P (dC, dI) classes (wX g c v F rc) H1 := hB
  have hw : (0 ≤ r2628.toInt ∧ r2628.toInt ≤ 1) ∧ (r2628.toInt = 1 → 0 ≤ p0.toInt ∧ p0.toInt < 100) := hw
  generalize H1 = H at hP hS ⊢
  have hw_r2628 := hw
  refine lv_if_eq (tgt := 35) hx hb dX11_past_8 (by decide) (fun c2629 => ?_) (fun c2629 => ?_)
  · skip
    have t2630 := cv_eq (a := r2628.toInt) rfl (b := 0) (by decide) c2629
    refine lv_iconst (v := (-1)) hx hb dX11_past_35 (by decide) ?_
    have hP9 : va_P (dC, dI) classes (wX g c v F rc) H := hP
    exact W.iret (v := (-1)) hx hb hr (fun t ht hW => ⟨⟨(-1), (v, F, rc), rfl, ⟨hI, hal, rfl, (fun _ _ => rfl), trivial⟩, (by show va_P _ _ _ t.heap; rw [ht]; exact hP9)⟩, hS.F ht⟩) hS.2.2 dX11_past_36
  · skip
    have t2631 := cv_ne (a := r2628.toInt) rfl (b := 0) (by decide) c2629
    refine lv_aload_n hx hb dX11_past_11 rfl (lv_at hl 0 rfl) ?_
    refine lv_iload_n hx hb dX11_past_12 rfl (lv_at hl 2 rfl) ?_
    refine va_calli (va_runV (As := [.int p1]) (rest := []) ⟨hx, hb, hml, hown, hwd⟩ (c_X11_isPlace l dC dI g c adK adV v F rc H.size p1 hg hI ) (cwV 1 hwd (gV wk_609 wk_606 wk_607 wk_608 wk_2) rfl rfl rfl (by decide +kernel) ⟨Nat.le_of_ble_eq_true rfl, Nat.le_of_ble_eq_true rfl⟩) ⟨PX.blind, va_recv hK hP (ci := 11) (q0 := 0) rfl rfl, fun U hU hW => ⟨rfl, PX.at hK hE hP hS hU hW⟩⟩ rfl rfl hl.1 rfl (lv_room (Nat.le_of_ble_eq_true rfl)) dX11_past_13 ⟨Nat.le_of_ble_eq_true rfl, Nat.le_of_ble_eq_true rfl⟩) hS (fun q _ h => (freeX hS) q h) (freeX hS) (fun r2632 u t H1 locs ht hvm hw hB hz1 hk1 hS => ?_)
    unfold BX at hB
    rw [ht] at hB
    have hP : va_P (dC, dI) classes (wX g c v F rc) H1 := hB
    have hw : 0 ≤ r2632.toInt ∧ r2632.toInt ≤ 1 := hw
    generalize H1 = H at hP hS ⊢
    have hw_r2632 := hw
    refine lv_if_eq (tgt := 35) hx hb dX11_past_16 (by decide) (fun c2633 => ?_) (fun c2633 => ?_)
    · skip
      have t2634 := cv_eq (a := r2632.toInt) rfl (b := 0) (by decide) c2633
      refine lv_iconst (v := (-1)) hx hb dX11_past_35 (by decide) ?_
      have hP9 : va_P (dC, dI) classes (wX g c v F rc) H := hP
      exact W.iret (v := (-1)) hx hb hr (fun t ht hW => ⟨⟨(-1), (v, F, rc), rfl, ⟨hI, hal, rfl, (fun _ _ => rfl), trivial⟩, (by show va_P _ _ _ t.heap; rw [ht]; exact hP9)⟩, hS.F ht⟩) hS.2.2 dX11_past_36
    · skip
      have t2635 := cv_ne (a := r2632.toInt) rfl (b := 0) (by decide) c2633
      refine lv_iload hx hb dX11_past_19 (lv_at hl 4 rfl) ?_
      refine va_calli (va_runS (As := [.int p3]) (rest := []) ⟨hx, hb, hml, hown, hwd⟩ (c_X11_isTold l dC dI g c adK adV v F rc H.size p3 hg hI ) (va_cwS 1 hwd (gT wk_235 wk_233 wk_234 wk_2) rfl rfl rfl (by decide +kernel) ⟨Nat.le_of_ble_eq_true rfl, Nat.le_of_ble_eq_true rfl⟩) ⟨PX.blind, fun U hU hW => ⟨rfl, PX.at hK hE hP hS hU hW⟩⟩ rfl rfl hl.1 rfl (lv_room (Nat.le_of_ble_eq_true rfl)) dX11_past_21 ⟨Nat.le_of_ble_eq_true rfl, Nat.le_of_ble_eq_true rfl⟩) hS (fun q _ h => (freeX hS) q h) (freeX hS) (fun r2636 u t H1 locs ht hvm hw hB hz1 hk1 hS => ?_)
      unfold BX at hB
      rw [ht] at hB
      have hP : va_P (dC, dI) classes (wX g c v F rc) H1 := hB
      have hw : (r2636.toInt = 1 ∧ 0 ≤ p3.toInt ∧ p3.toInt ≤ 99999) ∨ (r2636.toInt = 0 ∧ (p3.toInt < 0 ∨ 99999 < p3.toInt)) := hw
      generalize H1 = H at hP hS ⊢
      have hw_r2636 := hw
      refine lv_if_eq (tgt := 35) hx hb dX11_past_24 (by decide) (fun c2637 => ?_) (fun c2637 => ?_)
      · skip
        have t2638 := cv_eq (a := r2636.toInt) rfl (b := 0) (by decide) c2637
        refine lv_iconst (v := (-1)) hx hb dX11_past_35 (by decide) ?_
        have hP9 : va_P (dC, dI) classes (wX g c v F rc) H := hP
        exact W.iret (v := (-1)) hx hb hr (fun t ht hW => ⟨⟨(-1), (v, F, rc), rfl, ⟨hI, hal, rfl, (fun _ _ => rfl), trivial⟩, (by show va_P _ _ _ t.heap; rw [ht]; exact hP9)⟩, hS.F ht⟩) hS.2.2 dX11_past_36
      · skip
        have t2639 := cv_ne (a := r2636.toInt) rfl (b := 0) (by decide) c2637
        refine lv_iload hx hb dX11_past_27 (lv_at hl 5 rfl) ?_
        refine va_calli (va_runS (As := [.int p4]) (rest := []) ⟨hx, hb, hml, hown, hwd⟩ (c_X11_isTold l dC dI g c adK adV v F rc H.size p4 hg hI ) (va_cwS 1 hwd (gT wk_235 wk_233 wk_234 wk_2) rfl rfl rfl (by decide +kernel) ⟨Nat.le_of_ble_eq_true rfl, Nat.le_of_ble_eq_true rfl⟩) ⟨PX.blind, fun U hU hW => ⟨rfl, PX.at hK hE hP hS hU hW⟩⟩ rfl rfl hl.1 rfl (lv_room (Nat.le_of_ble_eq_true rfl)) dX11_past_29 ⟨Nat.le_of_ble_eq_true rfl, Nat.le_of_ble_eq_true rfl⟩) hS (fun q _ h => (freeX hS) q h) (freeX hS) (fun r2640 u t H1 locs ht hvm hw hB hz1 hk1 hS => ?_)
        unfold BX at hB
        rw [ht] at hB
        have hP : va_P (dC, dI) classes (wX g c v F rc) H1 := hB
        have hw : (r2640.toInt = 1 ∧ 0 ≤ p4.toInt ∧ p4.toInt ≤ 99999) ∨ (r2640.toInt = 0 ∧ (p4.toInt < 0 ∨ 99999 < p4.toInt)) := hw
        generalize H1 = H at hP hS ⊢
        have hw_r2640 := hw
        refine lv_if_ne (tgt := 37) hx hb dX11_past_32 (by decide) (fun c2641 => ?_) (fun c2641 => ?_)
        · skip
          have t2642 := cv_ne (a := r2640.toInt) rfl (b := 0) (by decide) c2641
          refine lv_iload_n hx hb dX11_past_37 rfl (lv_at hl 3 rfl) ?_
          refine lv_if_lt (tgt := 46) hx hb dX11_past_38 (by decide) (fun c2643 => ?_) (fun c2643 => ?_)
          · skip
            have t2644 := cv_lt (a := p2.toInt) rfl (b := 0) (by decide) c2643
            refine lv_iconst (v := (-1)) hx hb dX11_past_46 (by decide) ?_
            have hP9 : va_P (dC, dI) classes (wX g c v F rc) H := hP
            exact W.iret (v := (-1)) hx hb hr (fun t ht hW => ⟨⟨(-1), (v, F, rc), rfl, ⟨hI, hal, rfl, (fun _ _ => rfl), trivial⟩, (by show va_P _ _ _ t.heap; rw [ht]; exact hP9)⟩, hS.F ht⟩) hS.2.2 dX11_past_47
          · skip
            have t2645 := cv_nlt (a := p2.toInt) rfl (b := 0) (by decide) c2643
            refine lv_iload hx hb dX11_past_41 (lv_at hl 6 rfl) ?_
            refine lv_if_ge (tgt := 48) hx hb dX11_past_43 (by decide) (fun c2646 => ?_) (fun c2646 => ?_)
            · skip
              have t2647 := cv_le (a := 0) (by decide) (b := p5.toInt) rfl c2646
              refine lv_iload_n hx hb dX11_past_48 rfl (lv_at hl 3 rfl) ?_
              refine lv_sipush (v := 20000) hx hb dX11_past_49 (by decide) ?_
              refine lv_idiv hx hb dX11_past_52 (by decide) ?_
              refine lv_topi (fun z2648 e2649 => ?_)
              refine lv_istore (lv' := [(7, .int z2648), (0, .ref (g 0)), (1, .int p0), (2, .int p1), (3, .int p2), (4, .int p3), (5, .int p4), (6, .int p5)]) hx hb dX11_past_53 hl (by decide) rfl (fun ls hl => ?_)
              refine lv_iload_n hx hb dX11_past_55 rfl (lv_at hl 4 rfl) ?_
              refine lv_sipush (v := 20000) hx hb dX11_past_56 (by decide) ?_
              refine lv_irem hx hb dX11_past_59 (by decide) ?_
              refine lv_topi (fun z2651 e2652 => ?_)
              refine lv_istore (lv' := [(8, .int z2651), (7, .int z2648), (0, .ref (g 0)), (1, .int p0), (2, .int p1), (3, .int p2), (4, .int p3), (5, .int p4), (6, .int p5)]) hx hb dX11_past_60 hl (by decide) rfl (fun ls hl => ?_)
              refine lv_iload hx hb dX11_past_62 (lv_at hl 8 rfl) ?_
              refine lv_ldcw (v := 100000) hx hb hown (hwd _ wk_817) dX11_past_64 ?_
              refine lv_idiv hx hb dX11_past_67 (by decide) ?_
              refine lv_topi (fun z2654 e2655 => ?_)
              refine lv_sipush (v := 500) hx hb dX11_past_68 (by decide) ?_
              refine lv_isub hx hb dX11_past_71 ?_
              refine lv_topi (fun z2657 e2658 => ?_)
              try (have t2659 := tsub e2658 (a := z2654.toInt) rfl (b := 500) (by decide) (by omega))
              refine lv_istore (lv' := [(9, .int z2657), (8, .int z2651), (7, .int z2648), (0, .ref (g 0)), (1, .int p0), (2, .int p1), (3, .int p2), (4, .int p3), (5, .int p4), (6, .int p5)]) hx hb dX11_past_72 hl (by decide) rfl (fun ls hl => ?_)
              refine lv_iload hx hb dX11_past_74 (lv_at hl 9 rfl) ?_
              refine lv_ldcw (v := 100000) hx hb hown (hwd _ wk_817) dX11_past_76 ?_
              refine lv_irem hx hb dX11_past_79 (by decide) ?_
              refine lv_topi (fun z2660 e2661 => ?_)
              refine lv_istore (lv' := [(10, .int z2660), (9, .int z2657), (8, .int z2651), (7, .int z2648), (0, .ref (g 0)), (1, .int p0), (2, .int p1), (3, .int p2), (4, .int p3), (5, .int p4), (6, .int p5)]) hx hb dX11_past_80 hl (by decide) rfl (fun ls hl => ?_)
              refine lv_iload hx hb dX11_past_82 (lv_at hl 9 rfl) ?_
              refine lv_iload hx hb dX11_past_84 (lv_at hl 1 rfl) ?_
              refine lv_iadd hx hb dX11_past_86 ?_
              refine lv_topi (fun z2663 e2664 => ?_)
              try (have t2665 := tadd e2664 (a := p4.toInt) rfl (b := z2657.toInt) rfl (by omega))
              refine lv_istore (lv' := [(11, .int z2663), (10, .int z2660), (9, .int z2657), (8, .int z2651), (7, .int z2648), (0, .ref (g 0)), (1, .int p0), (2, .int p1), (3, .int p2), (4, .int p3), (5, .int p4), (6, .int p5)]) hx hb dX11_past_87 hl (by decide) rfl (fun ls hl => ?_)
              refine lv_iload hx hb dX11_past_89 (lv_at hl 3 rfl) ?_
              refine lv_sipush (v := 9999) hx hb dX11_past_91 (by decide) ?_
              refine lv_icmp_gt (tgt := 120) hx hb dX11_past_94 (by decide) (fun c2666 => ?_) (fun c2666 => ?_)
              · skip
                have t2667 := cv_lt (a := 9999) (by decide) (b := z2651.toInt) rfl c2666
                refine lv_iconst (v := (-1)) hx hb dX11_past_120 (by decide) ?_
                have hP9 : va_P (dC, dI) classes (wX g c v F rc) H := hP
                exact W.iret (v := (-1)) hx hb hr (fun t ht hW => ⟨⟨(-1), (v, F, rc), rfl, ⟨hI, hal, rfl, (fun _ _ => rfl), trivial⟩, (by show va_P _ _ _ t.heap; rw [ht]; exact hP9)⟩, hS.F ht⟩) hS.2.2 dX11_past_121
              · skip
                have t2668 := cv_nlt (a := 9999) (by decide) (b := z2651.toInt) rfl c2666
                refine lv_iload hx hb dX11_past_97 (lv_at hl 4 rfl) ?_
                refine lv_iload hx hb dX11_past_99 (lv_at hl 3 rfl) ?_
                refine lv_icmp_gt (tgt := 120) hx hb dX11_past_101 (by decide) (fun c2669 => ?_) (fun c2669 => ?_)
                · skip
                  have t2670 := cv_lt (a := z2651.toInt) rfl (b := z2648.toInt) rfl c2669
                  refine lv_iconst (v := (-1)) hx hb dX11_past_120 (by decide) ?_
                  have hP9 : va_P (dC, dI) classes (wX g c v F rc) H := hP
                  exact W.iret (v := (-1)) hx hb hr (fun t ht hW => ⟨⟨(-1), (v, F, rc), rfl, ⟨hI, hal, rfl, (fun _ _ => rfl), trivial⟩, (by show va_P _ _ _ t.heap; rw [ht]; exact hP9)⟩, hS.F ht⟩) hS.2.2 dX11_past_121
                · skip
                  have t2671 := cv_nlt (a := z2651.toInt) rfl (b := z2648.toInt) rfl c2669
                  refine lv_iload hx hb dX11_past_104 (lv_at hl 2 rfl) ?_
                  refine lv_sipush (v := 499) hx hb dX11_past_106 (by decide) ?_
                  refine lv_icmp_gt (tgt := 120) hx hb dX11_past_109 (by decide) (fun c2672 => ?_) (fun c2672 => ?_)
                  · skip
                    have t2673 := cv_lt (a := 499) (by decide) (b := z2657.toInt) rfl c2672
                    refine lv_iconst (v := (-1)) hx hb dX11_past_120 (by decide) ?_
                    have hP9 : va_P (dC, dI) classes (wX g c v F rc) H := hP
                    exact W.iret (v := (-1)) hx hb hr (fun t ht hW => ⟨⟨(-1), (v, F, rc), rfl, ⟨hI, hal, rfl, (fun _ _ => rfl), trivial⟩, (by show va_P _ _ _ t.heap; rw [ht]; exact hP9)⟩, hS.F ht⟩) hS.2.2 dX11_past_121
                  · skip
                    have t2674 := cv_nlt (a := 499) (by decide) (b := z2657.toInt) rfl c2672
                    refine lv_iload hx hb dX11_past_112 (lv_at hl 0 rfl) ?_
                    refine va_calli (va_runS (As := [.int z2663]) (rest := []) ⟨hx, hb, hml, hown, hwd⟩ (c_X11_isTold l dC dI g c adK adV v F rc H.size z2663 hg hI ) (va_cwS 1 hwd (gT wk_235 wk_233 wk_234 wk_2) rfl rfl rfl (by decide +kernel) ⟨Nat.le_of_ble_eq_true rfl, Nat.le_of_ble_eq_true rfl⟩) ⟨PX.blind, fun U hU hW => ⟨rfl, PX.at hK hE hP hS hU hW⟩⟩ rfl rfl hl.1 rfl (lv_room (Nat.le_of_ble_eq_true rfl)) dX11_past_114 ⟨Nat.le_of_ble_eq_true rfl, Nat.le_of_ble_eq_true rfl⟩) hS (fun q _ h => (freeX hS) q h) (freeX hS) (fun r2675 u t H1 locs ht hvm hw hB hz1 hk1 hS => ?_)
                    unfold BX at hB
                    rw [ht] at hB
                    have hP : va_P (dC, dI) classes (wX g c v F rc) H1 := hB
                    have hw : (r2675.toInt = 1 ∧ 0 ≤ z2663.toInt ∧ z2663.toInt ≤ 99999) ∨ (r2675.toInt = 0 ∧ (z2663.toInt < 0 ∨ 99999 < z2663.toInt)) := hw
                    generalize H1 = H at hP hS ⊢
                    have hw_r2675 := hw
                    refine lv_if_ne (tgt := 122) hx hb dX11_past_117 (by decide) (fun c2676 => ?_) (fun c2676 => ?_)
                    · skip
                      have t2677 := cv_ne (a := r2675.toInt) rfl (b := 0) (by decide) c2676
                      refine lv_aload_n hx hb dX11_past_122 rfl (lv_at hl 5 rfl) ?_
                      refine va_get (D := (dC, dI)) (ci := 11) (v := .ref (g 4)) (C := RX11) (T := TX11) (N := 14) hx hb hwd inA_X11 hown hK hP 0 rfl rfl 3 (by decide) (hwd _ wk_23) (fun _ h9 => h9) rfl dX11_past_123 ?_
                      refine lv_iconst (v := 1) hx hb dX11_past_126 (by decide) ?_
                      refine va_calli (va_runV (As := [.int 1]) (rest := []) ⟨hx, hb, hml, hown, hwd⟩ (c_X9_hasRoom l dC dI g c adK adV v F rc H.size 1 hg hI ) (cwV 1 hwd (gV wk_565 wk_562 wk_563 wk_564 wk_22) rfl rfl rfl (by decide +kernel) ⟨Nat.le_of_ble_eq_true rfl, Nat.le_of_ble_eq_true rfl⟩) ⟨PX.blind, va_recv hK hP (ci := 9) (q0 := 4) rfl rfl, fun U hU hW => ⟨rfl, PX.at hK hE hP hS hU hW⟩⟩ rfl rfl hl.1 rfl (lv_room (Nat.le_of_ble_eq_true rfl)) dX11_past_127 ⟨Nat.le_of_ble_eq_true rfl, Nat.le_of_ble_eq_true rfl⟩) hS (fun q _ h => (freeX hS) q h) (freeX hS) (fun r2678 u t H1 locs ht hvm hw hB hz1 hk1 hS => ?_)
                      unfold BX at hB
                      rw [ht] at hB
                      have hP : va_P (dC, dI) classes (wX g c v F rc) H1 := hB
                      have hw : 0 ≤ r2678.toInt ∧ r2678.toInt ≤ 1 := hw
                      have k2679 : (1 : Int32).toInt = 1 := by decide
                      generalize H1 = H at hP hS ⊢
                      have hw_r2678 := hw
                      refine lv_if_ne (tgt := 136) hx hb dX11_past_130 (by decide) (fun c2680 => ?_) (fun c2680 => ?_)
                      · skip
                        have t2681 := cv_ne (a := r2678.toInt) rfl (b := 0) (by decide) c2680
                        refine lv_aload_n hx hb dX11_past_136 rfl (lv_at hl 5 rfl) ?_
                        refine va_get (D := (dC, dI)) (ci := 11) (v := .ref (g 4)) (C := RX11) (T := TX11) (N := 14) hx hb hwd inA_X11 hown hK hP 0 rfl rfl 3 (by decide) (hwd _ wk_23) (fun _ h9 => h9) rfl dX11_past_137 ?_
                        refine lv_iload_n hx hb dX11_past_140 rfl (lv_at hl 6 rfl) ?_
                        refine lv_iload_n hx hb dX11_past_141 rfl (lv_at hl 7 rfl) ?_
                        refine lv_iload hx hb dX11_past_142 (lv_at hl 4 rfl) ?_
                        refine lv_sipush (v := 9999) hx hb dX11_past_144 (by decide) ?_
                        refine lv_isub hx hb dX11_past_147 ?_
                        refine lv_topi (fun z2682 e2683 => ?_)
                        try (have t2684 := tsub e2683 (a := z2648.toInt) rfl (b := 9999) (by decide) (by omega))
                        refine lv_iload hx hb dX11_past_148 (lv_at hl 9 rfl) ?_
                        refine lv_iload hx hb dX11_past_150 (lv_at hl 10 rfl) ?_
                        refine va_calli (va_runV (As := [.int p0, .int p1, .int z2682, .int p3, .int p4]) (rest := []) ⟨hx, hb, hml, hown, hwd⟩ (c_X9_add l dC dI g c adK adV v F rc H.size p0 p1 z2682 p3 p4 hg hI (by omega)) (cwV 5 hwd (gV wk_583 wk_818 wk_581 wk_582 wk_22) rfl rfl rfl (by decide +kernel) ⟨Nat.le_of_ble_eq_true rfl, Nat.le_of_ble_eq_true rfl⟩) ⟨PX.blind, va_recv hK hP (ci := 9) (q0 := 4) rfl rfl, fun U hU hW => ⟨rfl, PX.at hK hE hP hS hU hW⟩⟩ rfl rfl hl.1 rfl (lv_room (Nat.le_of_ble_eq_true rfl)) dX11_past_152 ⟨Nat.le_of_ble_eq_true rfl, Nat.le_of_ble_eq_true rfl⟩) hS (fun q _ h => (freeX hS) q h) (freeX hS) (fun r2685 u t H1 locs ht hvm hw hB hz1 hk1 hS => ?_)
                        unfold BX at hB
                        rw [ht] at hB
                        obtain ⟨v2686, F2687, rc9⟩ := u
                        obtain ⟨hI, hal9, hrc, hf2688, hw⟩ := hw
                        dsimp only at hI hal9 hrc hB hf2688 hw
                        rw [hrc] at hB
                        have hal := hal9.trans hal
                        have hP : va_P (dC, dI) classes (wX g c v2686 F2687 rc) H1 := hB
                        have hw : -1 ≤ r2685.toInt ∧ r2685.toInt ≤ 499 := hw
                        generalize H1 = H at hP hS ⊢
                        have hw_r2685 := hw
                        refine lv_istore (lv' := [(12, .int r2685), (11, .int z2663), (10, .int z2660), (9, .int z2657), (8, .int z2651), (7, .int z2648), (0, .ref (g 0)), (1, .int p0), (2, .int p1), (3, .int p2), (4, .int p3), (5, .int p4), (6, .int p5)]) hx hb dX11_past_155 hl (by decide) rfl (fun ls hl => ?_)
                        refine lv_aload_n hx hb dX11_past_157 rfl (lv_at hl 6 rfl) ?_
                        refine va_get (D := (dC, dI)) (ci := 11) (v := .ref (g 4)) (C := RX11) (T := TX11) (N := 14) hx hb hwd inA_X11 hown hK hP 0 rfl rfl 3 (by decide) (hwd _ wk_23) (fun _ h9 => h9) rfl dX11_past_158 ?_
                        refine lv_iload hx hb dX11_past_161 (lv_at hl 0 rfl) ?_
                        refine lv_iload hx hb dX11_past_163 (lv_at hl 4 rfl) ?_
                        refine lv_sipush (v := 9999) hx hb dX11_past_165 (by decide) ?_
                        refine lv_isub hx hb dX11_past_168 ?_
                        refine lv_topi (fun z2689 e2690 => ?_)
                        try (have t2691 := tsub e2690 (a := z2651.toInt) rfl (b := 9999) (by decide) (by omega))
                        refine lv_iload hx hb dX11_past_169 (lv_at hl 2 rfl) ?_
                        refine lv_iload hx hb dX11_past_171 (lv_at hl 1 rfl) ?_
                        refine va_callv (va_runV (As := [.int r2685, .int z2689, .int z2660, .int z2663]) (rest := []) ⟨hx, hb, hml, hown, hwd⟩ (c_X9_end l dC dI g c adK adV v2686 F2687 rc H.size r2685 z2689 z2660 z2663 hg hI ) (cwV 4 hwd (gV wk_622 wk_819 wk_620 wk_621 wk_22) rfl rfl rfl (by decide +kernel) ⟨Nat.le_of_ble_eq_true rfl, Nat.le_of_ble_eq_true rfl⟩) ⟨PX.blind, va_recv hK hP (ci := 9) (q0 := 4) rfl rfl, fun U hU hW => ⟨rfl, PX.at hK hE hP hS hU hW⟩⟩ rfl rfl hl.1 rfl (lv_room (Nat.le_of_ble_eq_true rfl)) dX11_past_173 ⟨Nat.le_of_ble_eq_true rfl, Nat.le_of_ble_eq_true rfl⟩) hS (fun q _ h => (freeX hS) q h) (freeX hS) (fun u t H1 locs ht hvm hw hB hz1 hk1 hS => ?_)
                        unfold BX at hB
                        rw [ht] at hB
                        obtain ⟨v2693, F2694, rc9⟩ := u
                        obtain ⟨hI, hal9, hrc, hf2695, hw⟩ := hw
                        dsimp only at hI hal9 hrc hB hf2695 hw
                        rw [hrc] at hB
                        have hal := hal9.trans hal
                        have hP : va_P (dC, dI) classes (wX g c v2693 F2694 rc) H1 := hB
                        generalize H1 = H at hP hS ⊢
                        refine lv_aload_n hx hb dX11_past_176 rfl (lv_at hl 6 rfl) ?_
                        refine va_get (D := (dC, dI)) (ci := 11) (v := .ref (g 4)) (C := RX11) (T := TX11) (N := 14) hx hb hwd inA_X11 hown hK hP 0 rfl rfl 3 (by decide) (hwd _ wk_23) (fun _ h9 => h9) rfl dX11_past_177 ?_
                        refine lv_iload_n hx hb dX11_past_180 rfl (lv_at hl 7 rfl) ?_
                        refine va_calli (va_runV (As := [.int p0]) (rest := []) ⟨hx, hb, hml, hown, hwd⟩ (c_X9_countOf l dC dI g c adK adV v2693 F2694 rc H.size p0 hg hI (by omega)) (cwV 1 hwd (gV wk_669 wk_666 wk_667 wk_668 wk_22) rfl rfl rfl (by decide +kernel) ⟨Nat.le_of_ble_eq_true rfl, Nat.le_of_ble_eq_true rfl⟩) ⟨PX.blind, va_recv hK hP (ci := 9) (q0 := 4) rfl rfl, fun U hU hW => ⟨rfl, PX.at hK hE hP hS hU hW⟩⟩ rfl rfl hl.1 rfl (lv_room (Nat.le_of_ble_eq_true rfl)) dX11_past_181 ⟨Nat.le_of_ble_eq_true rfl, Nat.le_of_ble_eq_true rfl⟩) hS (fun q _ h => (freeX hS) q h) (freeX hS) (fun r2696 u t H1 locs ht hvm hw hB hz1 hk1 hS => ?_)
                        unfold BX at hB
                        rw [ht] at hB
                        have hP : va_P (dC, dI) classes (wX g c v2693 F2694 rc) H1 := hB
                        generalize H1 = H at hP hS ⊢
                        have rr_r2696 := i32_rng r2696
                        have hP9 : va_P (dC, dI) classes (wX g c v2693 F2694 rc) H := hP
                        exact W.iret (v := r2696) hx hb hr (fun t ht hW => ⟨⟨r2696, (v2693, F2694, rc), rfl, ⟨hI, hal, rfl, (frC (by decide) hf2695 (frC (by decide) hf2688 (fun _ _ => rfl))), trivial⟩, (by show va_P _ _ _ t.heap; rw [ht]; exact hP9)⟩, hS.F ht⟩) hS.2.2 dX11_past_184
                      · skip
                        have t2697 := cv_eq (a := r2678.toInt) rfl (b := 0) (by decide) c2680
                        refine lv_bipush (v := (-3)) hx hb dX11_past_133 (by decide) ?_
                        have hP9 : va_P (dC, dI) classes (wX g c v F rc) H := hP
                        exact W.iret (v := (-3)) hx hb hr (fun t ht hW => ⟨⟨(-3), (v, F, rc), rfl, ⟨hI, hal, rfl, (fun _ _ => rfl), trivial⟩, (by show va_P _ _ _ t.heap; rw [ht]; exact hP9)⟩, hS.F ht⟩) hS.2.2 dX11_past_135
                    · skip
                      have t2698 := cv_eq (a := r2675.toInt) rfl (b := 0) (by decide) c2676
                      refine lv_iconst (v := (-1)) hx hb dX11_past_120 (by decide) ?_
                      have hP9 : va_P (dC, dI) classes (wX g c v F rc) H := hP
                      exact W.iret (v := (-1)) hx hb hr (fun t ht hW => ⟨⟨(-1), (v, F, rc), rfl, ⟨hI, hal, rfl, (fun _ _ => rfl), trivial⟩, (by show va_P _ _ _ t.heap; rw [ht]; exact hP9)⟩, hS.F ht⟩) hS.2.2 dX11_past_121
            · skip
              have t2699 := cv_nle (a := 0) (by decide) (b := p5.toInt) rfl c2646
              refine lv_iconst (v := (-1)) hx hb dX11_past_46 (by decide) ?_
              have hP9 : va_P (dC, dI) classes (wX g c v F rc) H := hP
              exact W.iret (v := (-1)) hx hb hr (fun t ht hW => ⟨⟨(-1), (v, F, rc), rfl, ⟨hI, hal, rfl, (fun _ _ => rfl), trivial⟩, (by show va_P _ _ _ t.heap; rw [ht]; exact hP9)⟩, hS.F ht⟩) hS.2.2 dX11_past_47
        · skip
          have t2700 := cv_eq (a := r2640.toInt) rfl (b := 0) (by decide) c2641
          refine lv_iconst (v := (-1)) hx hb dX11_past_35 (by decide) ?_
          have hP9 : va_P (dC, dI) classes (wX g c v F rc) H := hP
          exact W.iret (v := (-1)) hx hb hr (fun t ht hW => ⟨⟨(-1), (v, F, rc), rfl, ⟨hI, hal, rfl, (fun _ _ => rfl), trivial⟩, (by show va_P _ _ _ t.heap; rw [ht]; exact hP9)⟩, hS.F ht⟩) hS.2.2 dX11_past_36
