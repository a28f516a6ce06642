set_option maxHeartbeats 8000000 in
set_option maxRecDepth 100000 in
theorem c_X11_need (l : Launch) (dC : Nat → ClassId) (dI : Nat → Nat → Nat) (g : Nat → Nat) (c : Nat → ClassId) (adK adV : Nat → Nat) (v : Nat → Int32) (F : Nat → Nat → Int32) (rc sz : Nat) (p0 : Int32) (p1 : Int32) (p2 : Int32) (hg : injX g) (hI : IX v F) : Met l yX11_need (Cond.code yX11_need cX11_need 4 (some .int) :: wA) ({ frames := 3, cells := 0, slots := 0, locals := 120 }) (va_Pc [.ref (g 0), .int p0, .int p1, .int p2] (PX dC dI g c adK adV v F rc sz)) (va_Qi (fun (r : Int32) (u : StX) => IX u.1 u.2.1 ∧ alX u.1 u.2.1 = alX v F ∧ u.2.2 = rc ∧ (∀ k, k ∉ ([] : List Nat) → u.1 k = v k) ∧ True) (BX dC dI g c) (AX g sz)) 0 0 (AX g sz) := by
  refine Met.ofW (cc := cX11_need) (maxL := 4) (ret := (some .int)) (by decide) rfl ?_
  intro p e s m args below meth c0 s₁ B hml hv
  obtain ⟨rfl, hsz, hP, hK, hE⟩ := hv
  have hx := B.exec
  have hb := B.bytes
  have hr := B.returns
  have hts := atoms_spec (ws := Cond.code yX11_need cX11_need 4 (some .int) :: wA) B.pre
  have hwd : ∀ w ∈ wA, w.before _ s = true := fun w h => hts w (List.mem_cons_of_mem _ h)
  have hown : s.vm.findClass RX11 = some m.cls := findClass_of_methodNamed B.named
  have hlocks := B.notSynchronized
  subst hsz
  have hl := lv_entry ([.ref (g 0), .int p0, .int p1, .int p2]) (n := 4) (Nat.le_of_ble_eq_true rfl)
  rw [lg_entry_eq]
  generalize (lg_sl ([.ref (g 0), .int p0, .int p1, .int p2]) ++ List.replicate (4 - (lg_sl ([.ref (g 0), .int p0, .int p1, .int p2])).length) Slot.unset).toArray = ls at hl ⊢
  have hl : lv_has ls 4 [(0, .ref (g 0)), (1, .int p0), (2, .int p1), (3, .int p2)] := hl
  obtain ⟨H, eH⟩ : ∃ z, z = s.heap := ⟨_, rfl⟩
  have hP : va_P (dC, dI) classes (wX g c v F rc) H := by rw [eH]; exact hP
  have hS : va_S (AX g s.heap.size) s.heap H [] := by rw [eH]; exact va_S.rf
  refine my_heap eH ?_
  have hal : alX v F = alX v F := rfl
  have rp0 := i32_rng p0
  have rp1 := i32_rng p1
  have rp2 := i32_rng p2
  refine lv_aload_n hx hb dX11_need_0 rfl (lv_at hl 0 rfl) ?_
  refine va_get (D := (dC, dI)) (ci := 11) (v := .ref (g 2)) (C := RX11) (T := TX11) (N := 14) hx hb hwd inA_X11 hown hK hP 0 rfl rfl 1 (by decide) (hwd _ wk_19) (fun _ h9 => h9) rfl dX11_need_1 ?_
  refine lv_iload_n hx hb dX11_need_4 rfl (lv_at hl 1 rfl) ?_
  refine va_calli (va_runV (As := [.int p0]) (rest := []) ⟨hx, hb, hml, hown, hwd⟩ (c_X8_has l dC dI g c adK adV v F rc H.size p0 hg hI ) (cwV 1 hwd (gV wk_276 wk_273 wk_274 wk_275 wk_18) rfl rfl rfl (by decide +kernel) ⟨Nat.le_of_ble_eq_true rfl, Nat.le_of_ble_eq_true rfl⟩) ⟨PX.blind, va_recv hK hP (ci := 8) (q0 := 2) rfl rfl, fun U hU hW => ⟨rfl, PX.at hK hE hP hS hU hW⟩⟩ rfl rfl hl.1 rfl (lv_room (Nat.le_of_ble_eq_true rfl)) dX11_need_5 ⟨Nat.le_of_ble_eq_true rfl, Nat.le_of_ble_eq_true rfl⟩) hS (fun q _ h => (freeX hS) q h) (freeX hS) (fun r2083 u t H1 locs ht hvm hw hB hz1 hk1 hS => ?_)
  unfold BX at hB
  rw [ht] at hB
  have hP : va_P (dC, dI) classes (wX g c v F rc) H1 := hB
  have hw : (0 ≤ r2083.toInt ∧ r2083.toInt ≤ 1) ∧ (r2083.toInt = 1 → 0 ≤ p0.toInt ∧ p0.toInt < 10) := hw
  generalize H1 = H at hP hS ⊢
  have hw_r2083 := hw
  refine lv_if_eq (tgt := 31) hx hb dX11_need_8 (by decide) (fun c2084 => ?_) (fun c2084 => ?_)
  · skip
    have t2085 := cv_eq (a := r2083.toInt) rfl (b := 0) (by decide) c2084
    refine lv_iconst (v := (-1)) hx hb dX11_need_31 (by decide) ?_
    have hP9 : va_P (dC, dI) classes (wX g c v F rc) H := hP
    exact W.iret (v := (-1)) hx hb hr (fun t ht hW => ⟨⟨(-1), (v, F, rc), rfl, ⟨hI, hal, rfl, (fun _ _ => rfl), trivial⟩, (by show va_P _ _ _ t.heap; rw [ht]; exact hP9)⟩, hS.F ht⟩) hS.2.2 dX11_need_32
  · skip
    have t2086 := cv_ne (a := r2083.toInt) rfl (b := 0) (by decide) c2084
    refine lv_aload_n hx hb dX11_need_11 rfl (lv_at hl 0 rfl) ?_
    refine va_get (D := (dC, dI)) (ci := 11) (v := .ref (g 1)) (C := RX11) (T := TX11) (N := 14) hx hb hwd inA_X11 hown hK hP 0 rfl rfl 0 (by decide) (hwd _ wk_15) (fun _ h9 => h9) rfl dX11_need_12 ?_
    refine lv_iload_n hx hb dX11_need_15 rfl (lv_at hl 2 rfl) ?_
    refine va_calli (va_runV (As := [.int p1]) (rest := []) ⟨hx, hb, hml, hown, hwd⟩ (c_X2_has l dC dI g c adK adV v F rc H.size p1 hg hI ) (cwV 1 hwd (gV wk_280 wk_277 wk_278 wk_279 wk_14) rfl rfl rfl (by decide +kernel) ⟨Nat.le_of_ble_eq_true rfl, Nat.le_of_ble_eq_true rfl⟩) ⟨PX.blind, va_recv hK hP (ci := 2) (q0 := 1) rfl rfl, fun U hU hW => ⟨rfl, PX.at hK hE hP hS hU hW⟩⟩ rfl rfl hl.1 rfl (lv_room (Nat.le_of_ble_eq_true rfl)) dX11_need_16 ⟨Nat.le_of_ble_eq_true rfl, Nat.le_of_ble_eq_true rfl⟩) hS (fun q _ h => (freeX hS) q h) (freeX hS) (fun r2087 u t H1 locs ht hvm hw hB hz1 hk1 hS => ?_)
    unfold BX at hB
    rw [ht] at hB
    have hP : va_P (dC, dI) classes (wX g c v F rc) H1 := hB
    have hw : (0 ≤ r2087.toInt ∧ r2087.toInt ≤ 1) ∧ (r2087.toInt = 1 → 0 ≤ p1.toInt ∧ p1.toInt < 10) := hw
    generalize H1 = H at hP hS ⊢
    have hw_r2087 := hw
    refine lv_if_eq (tgt := 31) hx hb dX11_need_19 (by decide) (fun c2088 => ?_) (fun c2088 => ?_)
    · skip
      have t2089 := cv_eq (a := r2087.toInt) rfl (b := 0) (by decide) c2088
      refine lv_iconst (v := (-1)) hx hb dX11_need_31 (by decide) ?_
      have hP9 : va_P (dC, dI) classes (wX g c v F rc) H := hP
      exact W.iret (v := (-1)) hx hb hr (fun t ht hW => ⟨⟨(-1), (v, F, rc), rfl, ⟨hI, hal, rfl, (fun _ _ => rfl), trivial⟩, (by show va_P _ _ _ t.heap; rw [ht]; exact hP9)⟩, hS.F ht⟩) hS.2.2 dX11_need_32
    · skip
      have t2090 := cv_ne (a := r2087.toInt) rfl (b := 0) (by decide) c2088
      refine lv_iload_n hx hb dX11_need_22 rfl (lv_at hl 3 rfl) ?_
      refine lv_iconst (v := 0) hx hb dX11_need_23 (by decide) ?_
      refine lv_iconst (v := 3) hx hb dX11_need_24 (by decide) ?_
      refine va_calli (va_runS (As := [.int p2, .int 0, .int 3]) (rest := []) ⟨hx, hb, hml, hown, hwd⟩ (c_X11_within l dC dI g c adK adV v F rc H.size p2 0 3 hg hI ) (va_cwS 3 hwd (gT wk_239 wk_237 wk_238 wk_2) rfl rfl rfl (by decide +kernel) ⟨Nat.le_of_ble_eq_true rfl, Nat.le_of_ble_eq_true rfl⟩) ⟨PX.blind, fun U hU hW => ⟨rfl, PX.at hK hE hP hS hU hW⟩⟩ rfl rfl hl.1 rfl (lv_room (Nat.le_of_ble_eq_true rfl)) dX11_need_25 ⟨Nat.le_of_ble_eq_true rfl, Nat.le_of_ble_eq_true rfl⟩) hS (fun q _ h => (freeX hS) q h) (freeX hS) (fun r2091 u t H1 locs ht hvm hw hB hz1 hk1 hS => ?_)
      unfold BX at hB
      rw [ht] at hB
      have hP : va_P (dC, dI) classes (wX g c v F rc) H1 := hB
      have hw : (r2091.toInt = 1 ∧ (0 : Int32).toInt ≤ p2.toInt ∧ p2.toInt ≤ (3 : Int32).toInt) ∨ (r2091.toInt = 0 ∧ (p2.toInt < (0 : Int32).toInt ∨ (3 : Int32).toInt < p2.toInt)) := hw
      have k2092 : (0 : Int32).toInt = 0 := by decide
      have k2093 : (3 : Int32).toInt = 3 := by decide
      generalize H1 = H at hP hS ⊢
      have hw_r2091 := hw
      refine lv_if_ne (tgt := 33) hx hb dX11_need_28 (by decide) (fun c2094 => ?_) (fun c2094 => ?_)
      · skip
        have t2095 := cv_ne (a := r2091.toInt) rfl (b := 0) (by decide) c2094
        refine lv_aload_n hx hb dX11_need_33 rfl (lv_at hl 0 rfl) ?_
        refine va_get (D := (dC, dI)) (ci := 11) (v := .ref (g 2)) (C := RX11) (T := TX11) (N := 14) hx hb hwd inA_X11 hown hK hP 0 rfl rfl 1 (by decide) (hwd _ wk_19) (fun _ h9 => h9) rfl dX11_need_34 ?_
        refine lv_iload_n hx hb dX11_need_37 rfl (lv_at hl 1 rfl) ?_
        refine va_calli (va_runV (As := [.int p0]) (rest := []) ⟨hx, hb, hml, hown, hwd⟩ (c_X8_isBack l dC dI g c adK adV v F rc H.size p0 hg hI (by omega)) (cwV 1 hwd (gV wk_284 wk_281 wk_282 wk_283 wk_18) rfl rfl rfl (by decide +kernel) ⟨Nat.le_of_ble_eq_true rfl, Nat.le_of_ble_eq_true rfl⟩) ⟨PX.blind, va_recv hK hP (ci := 8) (q0 := 2) rfl rfl, fun U hU hW => ⟨rfl, PX.at hK hE hP hS hU hW⟩⟩ rfl rfl hl.1 rfl (lv_room (Nat.le_of_ble_eq_true rfl)) dX11_need_38 ⟨Nat.le_of_ble_eq_true rfl, Nat.le_of_ble_eq_true rfl⟩) hS (fun q _ h => (freeX hS) q h) (freeX hS) (fun r2096 u t H1 locs ht hvm hw hB hz1 hk1 hS => ?_)
        unfold BX at hB
        rw [ht] at hB
        have hP : va_P (dC, dI) classes (wX g c v F rc) H1 := hB
        have hw : 0 ≤ r2096.toInt ∧ r2096.toInt ≤ 1 := hw
        generalize H1 = H at hP hS ⊢
        have hw_r2096 := hw
        refine lv_if_ne (tgt := 57) hx hb dX11_need_41 (by decide) (fun c2097 => ?_) (fun c2097 => ?_)
        · skip
          have t2098 := cv_ne (a := r2096.toInt) rfl (b := 0) (by decide) c2097
          refine lv_bipush (v := (-2)) hx hb dX11_need_57 (by decide) ?_
          have hP9 : va_P (dC, dI) classes (wX g c v F rc) H := hP
          exact W.iret (v := (-2)) hx hb hr (fun t ht hW => ⟨⟨(-2), (v, F, rc), rfl, ⟨hI, hal, rfl, (fun _ _ => rfl), trivial⟩, (by show va_P _ _ _ t.heap; rw [ht]; exact hP9)⟩, hS.F ht⟩) hS.2.2 dX11_need_59
        · skip
          have t2099 := cv_eq (a := r2096.toInt) rfl (b := 0) (by decide) c2097
          refine lv_aload_n hx hb dX11_need_44 rfl (lv_at hl 0 rfl) ?_
          refine va_get (D := (dC, dI)) (ci := 11) (v := .ref (g 3)) (C := RX11) (T := TX11) (N := 14) hx hb hwd inA_X11 hown hK hP 0 rfl rfl 2 (by decide) (hwd _ wk_27) (fun _ h9 => h9) rfl dX11_need_45 ?_
          refine lv_iload_n hx hb dX11_need_48 rfl (lv_at hl 2 rfl) ?_
          refine lv_iload_n hx hb dX11_need_49 rfl (lv_at hl 1 rfl) ?_
          refine va_calli (va_runV (As := [.int p1, .int p0]) (rest := []) ⟨hx, hb, hml, hown, hwd⟩ (c_X7_ofKindAt l dC dI g c adK adV v F rc H.size p1 p0 hg hI ) (cwV 2 hwd (gV wk_288 wk_285 wk_286 wk_287 wk_26) rfl rfl rfl (by decide +kernel) ⟨Nat.le_of_ble_eq_true rfl, Nat.le_of_ble_eq_true rfl⟩) ⟨PX.blind, va_recv hK hP (ci := 7) (q0 := 3) rfl rfl, fun U hU hW => ⟨rfl, PX.at hK hE hP hS hU hW⟩⟩ rfl rfl hl.1 rfl (lv_room (Nat.le_of_ble_eq_true rfl)) dX11_need_50 ⟨Nat.le_of_ble_eq_true rfl, Nat.le_of_ble_eq_true rfl⟩) hS (fun q _ h => (freeX hS) q h) (freeX hS) (fun r2100 u t H1 locs ht hvm hw hB hz1 hk1 hS => ?_)
          unfold BX at hB
          rw [ht] at hB
          have hP : va_P (dC, dI) classes (wX g c v F rc) H1 := hB
          generalize H1 = H at hP hS ⊢
          have rr_r2100 := i32_rng r2100
          refine lv_iload_n hx hb dX11_need_53 rfl (lv_at hl 3 rfl) ?_
          refine lv_icmp_le (tgt := 60) hx hb dX11_need_54 (by decide) (fun c2101 => ?_) (fun c2101 => ?_)
          · skip
            have t2102 := cv_le (a := r2100.toInt) rfl (b := p2.toInt) rfl c2101
            refine lv_aload_n hx hb dX11_need_60 rfl (lv_at hl 0 rfl) ?_
            refine va_get (D := (dC, dI)) (ci := 11) (v := .ref (g 2)) (C := RX11) (T := TX11) (N := 14) hx hb hwd inA_X11 hown hK hP 0 rfl rfl 1 (by decide) (hwd _ wk_19) (fun _ h9 => h9) rfl dX11_need_61 ?_
            refine lv_iload_n hx hb dX11_need_64 rfl (lv_at hl 1 rfl) ?_
            refine lv_iload_n hx hb dX11_need_65 rfl (lv_at hl 2 rfl) ?_
            refine lv_iload_n hx hb dX11_need_66 rfl (lv_at hl 3 rfl) ?_
            refine va_calli (va_runV (As := [.int p0, .int p1, .int p2]) (rest := []) ⟨hx, hb, hml, hown, hwd⟩ (c_X8_changeNeed l dC dI g c adK adV v F rc H.size p0 p1 p2 hg hI (by omega) (by omega)) (cwV 3 hwd (gV wk_293 wk_290 wk_291 wk_292 wk_18) rfl rfl rfl (by decide +kernel) ⟨Nat.le_of_ble_eq_true rfl, Nat.le_of_ble_eq_true rfl⟩) ⟨PX.blind, va_recv hK hP (ci := 8) (q0 := 2) rfl rfl, fun U hU hW => ⟨rfl, PX.at hK hE hP hS hU hW⟩⟩ rfl rfl hl.1 rfl (lv_room (Nat.le_of_ble_eq_true rfl)) dX11_need_67 ⟨Nat.le_of_ble_eq_true rfl, Nat.le_of_ble_eq_true rfl⟩) hS (fun q _ h => (freeX hS) q h) (freeX hS) (fun r2103 u t H1 locs ht hvm hw hB hz1 hk1 hS => ?_)
            unfold BX at hB
            rw [ht] at hB
            obtain ⟨v2104, F2105, rc9⟩ := u
            obtain ⟨hI, hal9, hrc, hf2106, hw⟩ := hw
            dsimp only at hI hal9 hrc hB hf2106 hw
            rw [hrc] at hB
            have hal := hal9.trans hal
            have hP : va_P (dC, dI) classes (wX g c v2104 F2105 rc) H1 := hB
            generalize H1 = H at hP hS ⊢
            have rr_r2103 := i32_rng r2103
            have hP9 : va_P (dC, dI) classes (wX g c v2104 F2105 rc) H := hP
            exact W.iret (v := r2103) hx hb hr (fun t ht hW => ⟨⟨r2103, (v2104, F2105, rc), rfl, ⟨hI, hal, rfl, (frC (by decide) hf2106 (fun _ _ => rfl)), trivial⟩, (by show va_P _ _ _ t.heap; rw [ht]; exact hP9)⟩, hS.F ht⟩) hS.2.2 dX11_need_70
          · skip
            have t2107 := cv_nle (a := r2100.toInt) rfl (b := p2.toInt) rfl c2101
            refine lv_bipush (v := (-2)) hx hb dX11_need_57 (by decide) ?_
            have hP9 : va_P (dC, dI) classes (wX g c v F rc) H := hP
            exact W.iret (v := (-2)) hx hb hr (fun t ht hW => ⟨⟨(-2), (v, F, rc), rfl, ⟨hI, hal, rfl, (fun _ _ => rfl), trivial⟩, (by show va_P _ _ _ t.heap; rw [ht]; exact hP9)⟩, hS.F ht⟩) hS.2.2 dX11_need_59
      · skip
        have t2108 := cv_eq (a := r2091.toInt) rfl (b := 0) (by decide) c2094
        refine lv_iconst (v := (-1)) hx hb dX11_need_31 (by decide) ?_
        have hP9 : va_P (dC, dI) classes (wX g c v F rc) H := hP
        exact W.iret (v := (-1)) hx hb hr (fun t ht hW => ⟨⟨(-1), (v, F, rc), rfl, ⟨hI, hal, rfl, (fun _ _ => rfl), trivial⟩, (by show va_P _ _ _ t.heap; rw [ht]; exact hP9)⟩, hS.F ht⟩) hS.2.2 dX11_need_32
set_option maxHeartbeats 8000000 in
set_option maxRecDepth 100000 in
theorem c_X11_fly (l : Launch) (dC : Nat → ClassId) (dI : Nat → Nat → Nat) (g : Nat → Nat) (c : Nat → ClassId) (adK adV : Nat → Nat) (v : Nat → Int32) (F : Nat → Nat → Int32) (rc sz : Nat) (p0 : Int32) (p1 : Int32) (p2 : Int32) (hg : injX g) (hI : IX v F) : Met l yX11_fly (Cond.code yX11_fly cX11_fly 4 (some .int) :: wA) ({ frames := 8, cells := 0, slots := 0, locals := 320 }) (va_Pc [.ref (g 0), .int p0, .int p1, .int p2] (PX dC dI g c adK adV v F rc sz)) (va_Qi (fun (r : Int32) (u : StX) => IX u.1 u.2.1 ∧ alX u.1 u.2.1 = alX v F ∧ u.2.2 = rc ∧ (∀ k, k ∉ ([126] : List Nat) → u.1 k = v k) ∧ True) (BX dC dI g c) (AX g sz)) 0 0 (AX g sz) := by
  refine Met.ofW (cc := cX11_fly) (maxL := 4) (ret := (some .int)) (by decide) rfl ?_
  intro p e s m args below meth c0 s₁ B hml hv
  obtain ⟨rfl, hsz, hP, hK, hE⟩ := hv
  have hx := B.exec
  have hb := B.bytes
  have hr := B.returns
  have hts := atoms_spec (ws := Cond.code yX11_fly cX11_fly 4 (some .int) :: wA) B.pre
  have hwd : ∀ w ∈ wA, w.before _ s = true := fun w h => hts w (List.mem_cons_of_mem _ h)
  have hown : s.vm.findClass RX11 = some m.cls := findClass_of_methodNamed B.named
  have hlocks := B.notSynchronized
  subst hsz
  have hl := lv_entry ([.ref (g 0), .int p0, .int p1, .int p2]) (n := 4) (Nat.le_of_ble_eq_true rfl)
  rw [lg_entry_eq]
  generalize (lg_sl ([.ref (g 0), .int p0, .int p1, .int p2]) ++ List.replicate (4 - (lg_sl ([.ref (g 0), .int p0, .int p1, .int p2])).length) Slot.unset).toArray = ls at hl ⊢
  have hl : lv_has ls 4 [(0, .ref (g 0)), (1, .int p0), (2, .int p1), (3, .int p2)] := hl
  obtain ⟨H, eH⟩ : ∃ z, z = s.heap := ⟨_, rfl⟩
  have hP : va_P (dC, dI) classes (wX g c v F rc) H := by rw [eH]; exact hP
  have hS : va_S (AX g s.heap.size) s.heap H [] := by rw [eH]; exact va_S.rf
  refine my_heap eH ?_
  have hal : alX v F = alX v F := rfl
  have rp0 := i32_rng p0
  have rp1 := i32_rng p1
  have rp2 := i32_rng p2
  refine lv_aload_n hx hb dX11_fly_0 rfl (lv_at hl 0 rfl) ?_
  refine va_get (D := (dC, dI)) (ci := 11) (v := .ref (g 2)) (C := RX11) (T := TX11) (N := 14) hx hb hwd inA_X11 hown hK hP 0 rfl rfl 1 (by decide) (hwd _ wk_19) (fun _ h9 => h9) rfl dX11_fly_1 ?_
  refine lv_iload_n hx hb dX11_fly_4 rfl (lv_at hl 1 rfl) ?_
  refine va_calli (va_runV (As := [.int p0]) (rest := []) ⟨hx, hb, hml, hown, hwd⟩ (c_X8_has l dC dI g c adK adV v F rc H.size p0 hg hI ) (cwV 1 hwd (gV wk_276 wk_273 wk_274 wk_275 wk_18) rfl rfl rfl (by decide +kernel) ⟨Nat.le_of_ble_eq_true rfl, Nat.le_of_ble_eq_true rfl⟩) ⟨PX.blind, va_recv hK hP (ci := 8) (q0 := 2) rfl rfl, fun U hU hW => ⟨rfl, PX.at hK hE hP hS hU hW⟩⟩ rfl rfl hl.1 rfl (lv_room (Nat.le_of_ble_eq_true rfl)) dX11_fly_5 ⟨Nat.le_of_ble_eq_true rfl, Nat.le_of_ble_eq_true rfl⟩) hS (fun q _ h => (freeX hS) q h) (freeX hS) (fun r2109 u t H1 locs ht hvm hw hB hz1 hk1 hS => ?_)
  unfold BX at hB
  rw [ht] at hB
  have hP : va_P (dC, dI) classes (wX g c v F rc) H1 := hB
  have hw : (0 ≤ r2109.toInt ∧ r2109.toInt ≤ 1) ∧ (r2109.toInt = 1 → 0 ≤ p0.toInt ∧ p0.toInt < 10) := hw
  generalize H1 = H at hP hS ⊢
  have hw_r2109 := hw
  refine lv_if_eq (tgt := 33) hx hb dX11_fly_8 (by decide) (fun c2110 => ?_) (fun c2110 => ?_)
  · skip
    have t2111 := cv_eq (a := r2109.toInt) rfl (b := 0) (by decide) c2110
    refine lv_iconst (v := (-1)) hx hb dX11_fly_33 (by decide) ?_
    have hP9 : va_P (dC, dI) classes (wX g c v F rc) H := hP
    exact W.iret (v := (-1)) hx hb hr (fun t ht hW => ⟨⟨(-1), (v, F, rc), rfl, ⟨hI, hal, rfl, (fun _ _ => rfl), trivial⟩, (by show va_P _ _ _ t.heap; rw [ht]; exact hP9)⟩, hS.F ht⟩) hS.2.2 dX11_fly_34
  · skip
    have t2112 := cv_ne (a := r2109.toInt) rfl (b := 0) (by decide) c2110
    refine lv_iload_n hx hb dX11_fly_11 rfl (lv_at hl 2 rfl) ?_
    refine lv_iconst (v := 1) hx hb dX11_fly_12 (by decide) ?_
    refine lv_sipush (v := 999) hx hb dX11_fly_13 (by decide) ?_
    refine va_calli (va_runS (As := [.int p1, .int 1, .int 999]) (rest := []) ⟨hx, hb, hml, hown, hwd⟩ (c_X11_within l dC dI g c adK adV v F rc H.size p1 1 999 hg hI ) (va_cwS 3 hwd (gT wk_239 wk_237 wk_238 wk_2) rfl rfl rfl (by decide +kernel) ⟨Nat.le_of_ble_eq_true rfl, Nat.le_of_ble_eq_true rfl⟩) ⟨PX.blind, fun U hU hW => ⟨rfl, PX.at hK hE hP hS hU hW⟩⟩ rfl rfl hl.1 rfl (lv_room (Nat.le_of_ble_eq_true rfl)) dX11_fly_16 ⟨Nat.le_of_ble_eq_true rfl, Nat.le_of_ble_eq_true rfl⟩) hS (fun q _ h => (freeX hS) q h) (freeX hS) (fun r2113 u t H1 locs ht hvm hw hB hz1 hk1 hS => ?_)
    unfold BX at hB
    rw [ht] at hB
    have hP : va_P (dC, dI) classes (wX g c v F rc) H1 := hB
    have hw : (r2113.toInt = 1 ∧ (1 : Int32).toInt ≤ p1.toInt ∧ p1.toInt ≤ (999 : Int32).toInt) ∨ (r2113.toInt = 0 ∧ (p1.toInt < (1 : Int32).toInt ∨ (999 : Int32).toInt < p1.toInt)) := hw
    have k2114 : (1 : Int32).toInt = 1 := by decide
    have k2115 : (999 : Int32).toInt = 999 := by decide
    generalize H1 = H at hP hS ⊢
    have hw_r2113 := hw
    refine lv_if_eq (tgt := 33) hx hb dX11_fly_19 (by decide) (fun c2116 => ?_) (fun c2116 => ?_)
    · skip
      have t2117 := cv_eq (a := r2113.toInt) rfl (b := 0) (by decide) c2116
      refine lv_iconst (v := (-1)) hx hb dX11_fly_33 (by decide) ?_
      have hP9 : va_P (dC, dI) classes (wX g c v F rc) H := hP
      exact W.iret (v := (-1)) hx hb hr (fun t ht hW => ⟨⟨(-1), (v, F, rc), rfl, ⟨hI, hal, rfl, (fun _ _ => rfl), trivial⟩, (by show va_P _ _ _ t.heap; rw [ht]; exact hP9)⟩, hS.F ht⟩) hS.2.2 dX11_fly_34
    · skip
      have t2118 := cv_ne (a := r2113.toInt) rfl (b := 0) (by decide) c2116
      refine lv_iload_n hx hb dX11_fly_22 rfl (lv_at hl 3 rfl) ?_
      refine lv_iconst (v := 0) hx hb dX11_fly_23 (by decide) ?_
      refine lv_sipush (v := 999) hx hb dX11_fly_24 (by decide) ?_
      refine va_calli (va_runS (As := [.int p2, .int 0, .int 999]) (rest := []) ⟨hx, hb, hml, hown, hwd⟩ (c_X11_within l dC dI g c adK adV v F rc H.size p2 0 999 hg hI ) (va_cwS 3 hwd (gT wk_239 wk_237 wk_238 wk_2) rfl rfl rfl (by decide +kernel) ⟨Nat.le_of_ble_eq_true rfl, Nat.le_of_ble_eq_true rfl⟩) ⟨PX.blind, fun U hU hW => ⟨rfl, PX.at hK hE hP hS hU hW⟩⟩ rfl rfl hl.1 rfl (lv_room (Nat.le_of_ble_eq_true rfl)) dX11_fly_27 ⟨Nat.le_of_ble_eq_true rfl, Nat.le_of_ble_eq_true rfl⟩) hS (fun q _ h => (freeX hS) q h) (freeX hS) (fun r2119 u t H1 locs ht hvm hw hB hz1 hk1 hS => ?_)
      unfold BX at hB
      rw [ht] at hB
      have hP : va_P (dC, dI) classes (wX g c v F rc) H1 := hB
      have hw : (r2119.toInt = 1 ∧ (0 : Int32).toInt ≤ p2.toInt ∧ p2.toInt ≤ (999 : Int32).toInt) ∨ (r2119.toInt = 0 ∧ (p2.toInt < (0 : Int32).toInt ∨ (999 : Int32).toInt < p2.toInt)) := hw
      have k2120 : (0 : Int32).toInt = 0 := by decide
      have k2121 : (999 : Int32).toInt = 999 := by decide
      generalize H1 = H at hP hS ⊢
      have hw_r2119 := hw
      refine lv_if_ne (tgt := 35) hx hb dX11_fly_30 (by decide) (fun c2122 => ?_) (fun c2122 => ?_)
      · skip
        have t2123 := cv_ne (a := r2119.toInt) rfl (b := 0) (by decide) c2122
        refine lv_aload_n hx hb dX11_fly_35 rfl (lv_at hl 0 rfl) ?_
        refine va_get (D := (dC, dI)) (ci := 11) (v := .ref (g 2)) (C := RX11) (T := TX11) (N := 14) hx hb hwd inA_X11 hown hK hP 0 rfl rfl 1 (by decide) (hwd _ wk_19) (fun _ h9 => h9) rfl dX11_fly_36 ?_
        refine lv_iload_n hx hb dX11_fly_39 rfl (lv_at hl 1 rfl) ?_
        refine va_calli (va_runV (As := [.int p0]) (rest := []) ⟨hx, hb, hml, hown, hwd⟩ (c_X8_isBack l dC dI g c adK adV v F rc H.size p0 hg hI (by omega)) (cwV 1 hwd (gV wk_284 wk_281 wk_282 wk_283 wk_18) rfl rfl rfl (by decide +kernel) ⟨Nat.le_of_ble_eq_true rfl, Nat.le_of_ble_eq_true rfl⟩) ⟨PX.blind, va_recv hK hP (ci := 8) (q0 := 2) rfl rfl, fun U hU hW => ⟨rfl, PX.at hK hE hP hS hU hW⟩⟩ rfl rfl hl.1 rfl (lv_room (Nat.le_of_ble_eq_true rfl)) dX11_fly_40 ⟨Nat.le_of_ble_eq_true rfl, Nat.le_of_ble_eq_true rfl⟩) hS (fun q _ h => (freeX hS) q h) (freeX hS) (fun r2124 u t H1 locs ht hvm hw hB hz1 hk1 hS => ?_)
        unfold BX at hB
        rw [ht] at hB
        have hP : va_P (dC, dI) classes (wX g c v F rc) H1 := hB
        have hw : 0 ≤ r2124.toInt ∧ r2124.toInt ≤ 1 := hw
        generalize H1 = H at hP hS ⊢
        have hw_r2124 := hw
        refine lv_if_ne (tgt := 65) hx hb dX11_fly_43 (by decide) (fun c2125 => ?_) (fun c2125 => ?_)
        · skip
          have t2126 := cv_ne (a := r2124.toInt) rfl (b := 0) (by decide) c2125
          refine lv_bipush (v := (-2)) hx hb dX11_fly_65 (by decide) ?_
          have hP9 : va_P (dC, dI) classes (wX g c v F rc) H := hP
          exact W.iret (v := (-2)) hx hb hr (fun t ht hW => ⟨⟨(-2), (v, F, rc), rfl, ⟨hI, hal, rfl, (fun _ _ => rfl), trivial⟩, (by show va_P _ _ _ t.heap; rw [ht]; exact hP9)⟩, hS.F ht⟩) hS.2.2 dX11_fly_67
        · skip
          have t2127 := cv_eq (a := r2124.toInt) rfl (b := 0) (by decide) c2125
          refine lv_aload_n hx hb dX11_fly_46 rfl (lv_at hl 0 rfl) ?_
          refine va_get (D := (dC, dI)) (ci := 11) (v := .ref (g 11)) (C := RX11) (T := TX11) (N := 14) hx hb hwd inA_X11 hown hK hP 0 rfl rfl 10 (by decide) (hwd _ wk_55) (fun _ h9 => h9) rfl dX11_fly_47 ?_
          refine lv_iload_n hx hb dX11_fly_50 rfl (lv_at hl 1 rfl) ?_
          refine lv_aload_n hx hb dX11_fly_51 rfl (lv_at hl 0 rfl) ?_
          refine va_get (D := (dC, dI)) (ci := 11) (v := .int (v 11)) (C := RX11) (T := TX11) (N := 14) hx hb hwd inA_X11 hown hK hP 0 rfl rfl 11 (by decide) (hwd _ wk_323) (fun _ h9 => h9) rfl dX11_fly_52 ?_
          have t2128 : 0 ≤ (v 11).toInt ∧ (v 11).toInt ≤ 9999 := hI.1 11 _ _ rfl
          refine lv_aload_n hx hb dX11_fly_55 rfl (lv_at hl 0 rfl) ?_
          refine va_get (D := (dC, dI)) (ci := 11) (v := .int (v 11)) (C := RX11) (T := TX11) (N := 14) hx hb hwd inA_X11 hown hK hP 0 rfl rfl 11 (by decide) (hwd _ wk_323) (fun _ h9 => h9) rfl dX11_fly_56 ?_
          have t2129 : 0 ≤ (v 11).toInt ∧ (v 11).toInt ≤ 9999 := hI.1 11 _ _ rfl
          refine va_calli (va_runV (As := [.int p0, .int (v 11), .int (v 11)]) (rest := []) ⟨hx, hb, hml, hown, hwd⟩ (c_X1_groundOf l dC dI g c adK adV v F rc H.size p0 (v 11) (v 11) hg hI (by omega)) (cwV 3 hwd (gV wk_340 wk_337 wk_338 wk_339 wk_54) rfl rfl rfl (by decide +kernel) ⟨Nat.le_of_ble_eq_true rfl, Nat.le_of_ble_eq_true rfl⟩) ⟨PX.blind, va_recv hK hP (ci := 1) (q0 := 11) rfl rfl, fun U hU hW => ⟨rfl, PX.at hK hE hP hS hU hW⟩⟩ rfl rfl hl.1 rfl (lv_room (Nat.le_of_ble_eq_true rfl)) dX11_fly_59 ⟨Nat.le_of_ble_eq_true rfl, Nat.le_of_ble_eq_true rfl⟩) hS (fun q _ h => (freeX hS) q h) (freeX hS) (fun r2130 u t H1 locs ht hvm hw hB hz1 hk1 hS => ?_)
          unfold BX at hB
          rw [ht] at hB
          obtain ⟨v2131, F2132, rc9⟩ := u
          obtain ⟨hI, hal9, hrc, hf2133, hw⟩ := hw
          dsimp only at hI hal9 hrc hB hf2133 hw
          rw [hrc] at hB
          have hal := hal9.trans hal
          have hP : va_P (dC, dI) classes (wX g c v2131 F2132 rc) H1 := hB
          generalize H1 = H at hP hS ⊢
          have rr_r2130 := i32_rng r2130
          refine lv_if_eq (tgt := 68) hx hb dX11_fly_62 (by decide) (fun c2134 => ?_) (fun c2134 => ?_)
          · skip
            have t2135 := cv_eq (a := r2130.toInt) rfl (b := 0) (by decide) c2134
            refine lv_aload_n hx hb dX11_fly_68 rfl (lv_at hl 0 rfl) ?_
            refine va_get (D := (dC, dI)) (ci := 11) (v := .ref (g 2)) (C := RX11) (T := TX11) (N := 14) hx hb hwd inA_X11 hown hK hP 0 rfl rfl 1 (by decide) (hwd _ wk_19) (fun _ h9 => h9) rfl dX11_fly_69 ?_
            refine lv_iload_n hx hb dX11_fly_72 rfl (lv_at hl 1 rfl) ?_
            refine lv_iload_n hx hb dX11_fly_73 rfl (lv_at hl 2 rfl) ?_
            refine lv_iload_n hx hb dX11_fly_74 rfl (lv_at hl 3 rfl) ?_
            refine va_calli (va_runV (As := [.int p0, .int p1, .int p2]) (rest := []) ⟨hx, hb, hml, hown, hwd⟩ (c_X8_canFly l dC dI g c adK adV v2131 F2132 rc H.size p0 p1 p2 hg hI (by omega)) (cwV 3 hwd (gV wk_441 wk_438 wk_439 wk_440 wk_18) rfl rfl rfl (by decide +kernel) ⟨Nat.le_of_ble_eq_true rfl, Nat.le_of_ble_eq_true rfl⟩) ⟨PX.blind, va_recv hK hP (ci := 8) (q0 := 2) rfl rfl, fun U hU hW => ⟨rfl, PX.at hK hE hP hS hU hW⟩⟩ rfl rfl hl.1 rfl (lv_room (Nat.le_of_ble_eq_true rfl)) dX11_fly_75 ⟨Nat.le_of_ble_eq_true rfl, Nat.le_of_ble_eq_true rfl⟩) hS (fun q _ h => (freeX hS) q h) (freeX hS) (fun r2136 u t H1 locs ht hvm hw hB hz1 hk1 hS => ?_)
            unfold BX at hB
            rw [ht] at hB
            have hP : va_P (dC, dI) classes (wX g c v2131 F2132 rc) H1 := hB
            have hw : 0 ≤ r2136.toInt ∧ r2136.toInt ≤ 1 := hw
            generalize H1 = H at hP hS ⊢
            have hw_r2136 := hw
            refine lv_if_eq (tgt := 94) hx hb dX11_fly_78 (by decide) (fun c2137 => ?_) (fun c2137 => ?_)
            · skip
              have t2138 := cv_eq (a := r2136.toInt) rfl (b := 0) (by decide) c2137
              refine lv_bipush (v := (-2)) hx hb dX11_fly_94 (by decide) ?_
              have hP9 : va_P (dC, dI) classes (wX g c v2131 F2132 rc) H := hP
              exact W.iret (v := (-2)) hx hb hr (fun t ht hW => ⟨⟨(-2), (v2131, F2132, rc), rfl, ⟨hI, hal, rfl, (frC (by decide) hf2133 (fun _ _ => rfl)), trivial⟩, (by show va_P _ _ _ t.heap; rw [ht]; exact hP9)⟩, hS.F ht⟩) hS.2.2 dX11_fly_96
            · skip
              have t2139 := cv_ne (a := r2136.toInt) rfl (b := 0) (by decide) c2137
              refine lv_aload_n hx hb dX11_fly_81 rfl (lv_at hl 0 rfl) ?_
              refine va_get (D := (dC, dI)) (ci := 11) (v := .ref (g 3)) (C := RX11) (T := TX11) (N := 14) hx hb hwd inA_X11 hown hK hP 0 rfl rfl 2 (by decide) (hwd _ wk_27) (fun _ h9 => h9) rfl dX11_fly_82 ?_
              refine lv_iload_n hx hb dX11_fly_85 rfl (lv_at hl 1 rfl) ?_
              refine lv_iload_n hx hb dX11_fly_86 rfl (lv_at hl 2 rfl) ?_
              refine lv_iload_n hx hb dX11_fly_87 rfl (lv_at hl 3 rfl) ?_
              refine va_calli (va_runV (As := [.int p0, .int p1, .int p2]) (rest := []) ⟨hx, hb, hml, hown, hwd⟩ (c_X7_canFly l dC dI g c adK adV v2131 F2132 rc H.size p0 p1 p2 hg hI ) (cwV 3 hwd (gV wk_446 wk_443 wk_444 wk_445 wk_26) rfl rfl rfl (by decide +kernel) ⟨Nat.le_of_ble_eq_true rfl, Nat.le_of_ble_eq_true rfl⟩) ⟨PX.blind, va_recv hK hP (ci := 7) (q0 := 3) rfl rfl, fun U hU hW => ⟨rfl, PX.at hK hE hP hS hU hW⟩⟩ rfl rfl hl.1 rfl (lv_room (Nat.le_of_ble_eq_true rfl)) dX11_fly_88 ⟨Nat.le_of_ble_eq_true rfl, Nat.le_of_ble_eq_true rfl⟩) hS (fun q _ h => (freeX hS) q h) (freeX hS) (fun r2140 u t H1 locs ht hvm hw hB hz1 hk1 hS => ?_)
              unfold BX at hB
              rw [ht] at hB
              have hP : va_P (dC, dI) classes (wX g c v2131 F2132 rc) H1 := hB
              have hw : 0 ≤ r2140.toInt ∧ r2140.toInt ≤ 1 := hw
              generalize H1 = H at hP hS ⊢
              have hw_r2140 := hw
              refine lv_if_ne (tgt := 97) hx hb dX11_fly_91 (by decide) (fun c2141 => ?_) (fun c2141 => ?_)
              · skip
                have t2142 := cv_ne (a := r2140.toInt) rfl (b := 0) (by decide) c2141
                refine lv_aload_n hx hb dX11_fly_97 rfl (lv_at hl 0 rfl) ?_
                refine va_get (D := (dC, dI)) (ci := 11) (v := .ref (g 3)) (C := RX11) (T := TX11) (N := 14) hx hb hwd inA_X11 hown hK hP 0 rfl rfl 2 (by decide) (hwd _ wk_27) (fun _ h9 => h9) rfl dX11_fly_98 ?_
                refine lv_iload_n hx hb dX11_fly_101 rfl (lv_at hl 1 rfl) ?_
                refine lv_iload_n hx hb dX11_fly_102 rfl (lv_at hl 2 rfl) ?_
                refine lv_iload_n hx hb dX11_fly_103 rfl (lv_at hl 3 rfl) ?_
                refine va_callv (va_runV (As := [.int p0, .int p1, .int p2]) (rest := []) ⟨hx, hb, hml, hown, hwd⟩ (c_X7_wear l dC dI g c adK adV v2131 F2132 rc H.size p0 p1 p2 hg hI ) (cwV 3 hwd (gV wk_452 wk_449 wk_450 wk_451 wk_26) rfl rfl rfl (by decide +kernel) ⟨Nat.le_of_ble_eq_true rfl, Nat.le_of_ble_eq_true rfl⟩) ⟨PX.blind, va_recv hK hP (ci := 7) (q0 := 3) rfl rfl, fun U hU hW => ⟨rfl, PX.at hK hE hP hS hU hW⟩⟩ rfl rfl hl.1 rfl (lv_room (Nat.le_of_ble_eq_true rfl)) dX11_fly_104 ⟨Nat.le_of_ble_eq_true rfl, Nat.le_of_ble_eq_true rfl⟩) hS (fun q _ h => (freeX hS) q h) (freeX hS) (fun u t H1 locs ht hvm hw hB hz1 hk1 hS => ?_)
                unfold BX at hB
                rw [ht] at hB
                obtain ⟨v2144, F2145, rc9⟩ := u
                obtain ⟨hI, hal9, hrc, hf2146, hw⟩ := hw
                dsimp only at hI hal9 hrc hB hf2146 hw
                rw [hrc] at hB
                have hal := hal9.trans hal
                have hP : va_P (dC, dI) classes (wX g c v2144 F2145 rc) H1 := hB
                generalize H1 = H at hP hS ⊢
                refine lv_aload_n hx hb dX11_fly_107 rfl (lv_at hl 0 rfl) ?_
                refine lv_iload_n hx hb dX11_fly_108 rfl (lv_at hl 1 rfl) ?_
                refine lv_iload_n hx hb dX11_fly_109 rfl (lv_at hl 2 rfl) ?_
                refine va_callv (va_runV (As := [.int p0, .int p1]) (rest := []) ⟨hx, hb, hml, hown, hwd⟩ (c_X11_setReservesAside l dC dI g c adK adV v2144 F2145 rc H.size p0 p1 hg hI (by omega)) (cwV 2 hwd (gV wk_456 wk_453 wk_454 wk_455 wk_2) rfl rfl rfl (by decide +kernel) ⟨Nat.le_of_ble_eq_true rfl, Nat.le_of_ble_eq_true rfl⟩) ⟨PX.blind, va_recv hK hP (ci := 11) (q0 := 0) rfl rfl, fun U hU hW => ⟨rfl, PX.at hK hE hP hS hU hW⟩⟩ rfl rfl hl.1 rfl (lv_room (Nat.le_of_ble_eq_true rfl)) dX11_fly_110 ⟨Nat.le_of_ble_eq_true rfl, Nat.le_of_ble_eq_true rfl⟩) hS (fun q _ h => (freeX hS) q h) (freeX hS) (fun u t H1 locs ht hvm hw hB hz1 hk1 hS => ?_)
                unfold BX at hB
                rw [ht] at hB
                obtain ⟨v2148, F2149, rc9⟩ := u
                obtain ⟨hI, hal9, hrc, hf2150, hw⟩ := hw
                dsimp only at hI hal9 hrc hB hf2150 hw
                rw [hrc] at hB
                have hal := hal9.trans hal
                have hP : va_P (dC, dI) classes (wX g c v2148 F2149 rc) H1 := hB
                generalize H1 = H at hP hS ⊢
                refine lv_aload_n hx hb dX11_fly_113 rfl (lv_at hl 0 rfl) ?_
                refine va_get (D := (dC, dI)) (ci := 11) (v := .ref (g 2)) (C := RX11) (T := TX11) (N := 14) hx hb hwd inA_X11 hown hK hP 0 rfl rfl 1 (by decide) (hwd _ wk_19) (fun _ h9 => h9) rfl dX11_fly_114 ?_
                refine lv_iload_n hx hb dX11_fly_117 rfl (lv_at hl 1 rfl) ?_
                refine lv_iload_n hx hb dX11_fly_118 rfl (lv_at hl 2 rfl) ?_
                refine lv_iload_n hx hb dX11_fly_119 rfl (lv_at hl 3 rfl) ?_
                refine va_calli (va_runV (As := [.int p0, .int p1, .int p2]) (rest := []) ⟨hx, hb, hml, hown, hwd⟩ (c_X8_wear l dC dI g c adK adV v2148 F2149 rc H.size p0 p1 p2 hg hI (by omega)) (cwV 3 hwd (gV wk_476 wk_473 wk_474 wk_475 wk_18) rfl rfl rfl (by decide +kernel) ⟨Nat.le_of_ble_eq_true rfl, Nat.le_of_ble_eq_true rfl⟩) ⟨PX.blind, va_recv hK hP (ci := 8) (q0 := 2) rfl rfl, fun U hU hW => ⟨rfl, PX.at hK hE hP hS hU hW⟩⟩ rfl rfl hl.1 rfl (lv_room (Nat.le_of_ble_eq_true rfl)) dX11_fly_120 ⟨Nat.le_of_ble_eq_true rfl, Nat.le_of_ble_eq_true rfl⟩) hS (fun q _ h => (freeX hS) q h) (freeX hS) (fun r2151 u t H1 locs ht hvm hw hB hz1 hk1 hS => ?_)
                unfold BX at hB
                rw [ht] at hB
                obtain ⟨v2152, F2153, rc9⟩ := u
                obtain ⟨hI, hal9, hrc, hf2154, hw⟩ := hw
                dsimp only at hI hal9 hrc hB hf2154 hw
                rw [hrc] at hB
                have hal := hal9.trans hal
                have hP : va_P (dC, dI) classes (wX g c v2152 F2153 rc) H1 := hB
                generalize H1 = H at hP hS ⊢
                have rr_r2151 := i32_rng r2151
                have hP9 : va_P (dC, dI) classes (wX g c v2152 F2153 rc) H := hP
                exact W.iret (v := r2151) hx hb hr (fun t ht hW => ⟨⟨r2151, (v2152, F2153, rc), rfl, ⟨hI, hal, rfl, (frC (by decide) hf2154 (frC (by decide) hf2150 (frC (by decide) hf2146 (frC (by decide) hf2133 (fun _ _ => rfl))))), trivial⟩, (by show va_P _ _ _ t.heap; rw [ht]; exact hP9)⟩, hS.F ht⟩) hS.2.2 dX11_fly_123
              · skip
                have t2155 := cv_eq (a := r2140.toInt) rfl (b := 0) (by decide) c2141
                refine lv_bipush (v := (-2)) hx hb dX11_fly_94 (by decide) ?_
                have hP9 : va_P (dC, dI) classes (wX g c v2131 F2132 rc) H := hP
                exact W.iret (v := (-2)) hx hb hr (fun t ht hW => ⟨⟨(-2), (v2131, F2132, rc), rfl, ⟨hI, hal, rfl, (frC (by decide) hf2133 (fun _ _ => rfl)), trivial⟩, (by show va_P _ _ _ t.heap; rw [ht]; exact hP9)⟩, hS.F ht⟩) hS.2.2 dX11_fly_96
          · skip
            have t2156 := cv_ne (a := r2130.toInt) rfl (b := 0) (by decide) c2134
            refine lv_bipush (v := (-2)) hx hb dX11_fly_65 (by decide) ?_
            have hP9 : va_P (dC, dI) classes (wX g c v2131 F2132 rc) H := hP
            exact W.iret (v := (-2)) hx hb hr (fun t ht hW => ⟨⟨(-2), (v2131, F2132, rc), rfl, ⟨hI, hal, rfl, (frC (by decide) hf2133 (fun _ _ => rfl)), trivial⟩, (by show va_P _ _ _ t.heap; rw [ht]; exact hP9)⟩, hS.F ht⟩) hS.2.2 dX11_fly_67
      · skip
        have t2157 := cv_eq (a := r2119.toInt) rfl (b := 0) (by decide) c2122
        refine lv_iconst (v := (-1)) hx hb dX11_fly_33 (by decide) ?_
        have hP9 : va_P (dC, dI) classes (wX g c v F rc) H := hP
        exact W.iret (v := (-1)) hx hb hr (fun t ht hW => ⟨⟨(-1), (v, F, rc), rfl, ⟨hI, hal, rfl, (fun _ _ => rfl), trivial⟩, (by show va_P _ _ _ t.heap; rw [ht]; exact hP9)⟩, hS.F ht⟩) hS.2.2 dX11_fly_34
set_option maxHeartbeats 8000000 in
set_option maxRecDepth 100000 in
theorem c_X11_ofPlane (l : Launch) (dC : Nat → ClassId) (dI : Nat → Nat → Nat) (g : Nat → Nat) (c : Nat → ClassId) (adK adV : Nat → Nat) (v : Nat → Int32) (F : Nat → Nat → Int32) (rc sz : Nat) (p0 : Int32) (p1 : Int32) (hg : injX g) (hI : IX v F) : Met l yX11_ofPlane (Cond.code yX11_ofPlane cX11_ofPlane 3 (some .int) :: wA) ({ frames := 2, cells := 0, slots := 0, locals := 80 }) (va_Pc [.ref (g 0), .int p0, .int p1] (PX dC dI g c adK adV v F rc sz)) (va_Qi (fun (r : Int32) (u : Unit) => True) (fun (_ : Unit) => BX dC dI g c (v, F, rc)) (AX g sz)) 0 0 (AX g sz) := by
  refine Met.ofW (cc := cX11_ofPlane) (maxL := 3) (ret := (some .int)) (by decide) rfl ?_
  intro p e s m args below meth c0 s₁ B hml hv
  obtain ⟨rfl, hsz, hP, hK, hE⟩ := hv
  have hx := B.exec
  have hb := B.bytes
  have hr := B.returns
  have hts := atoms_spec (ws := Cond.code yX11_ofPlane cX11_ofPlane 3 (some .int) :: wA) B.pre
  have hwd : ∀ w ∈ wA, w.before _ s = true := fun w h => hts w (List.mem_cons_of_mem _ h)
  have hown : s.vm.findClass RX11 = some m.cls := findClass_of_methodNamed B.named
  have hlocks := B.notSynchronized
  subst hsz
  have hl := lv_entry ([.ref (g 0), .int p0, .int p1]) (n := 3) (Nat.le_of_ble_eq_true rfl)
  rw [lg_entry_eq]
  generalize (lg_sl ([.ref (g 0), .int p0, .int p1]) ++ List.replicate (3 - (lg_sl ([.ref (g 0), .int p0, .int p1])).length) Slot.unset).toArray = ls at hl ⊢
  have hl : lv_has ls 3 [(0, .ref (g 0)), (1, .int p0), (2, .int p1)] := hl
  obtain ⟨H, eH⟩ : ∃ z, z = s.heap := ⟨_, rfl⟩
  have hP : va_P (dC, dI) classes (wX g c v F rc) H := by rw [eH]; exact hP
  have hS : va_S (AX g s.heap.size) s.heap H [] := by rw [eH]; exact va_S.rf
  refine my_heap eH ?_
  have rp0 := i32_rng p0
  have rp1 := i32_rng p1
  refine lv_aload_n hx hb dX11_ofPlane_0 rfl (lv_at hl 0 rfl) ?_
  refine va_get (D := (dC, dI)) (ci := 11) (v := .ref (g 2)) (C := RX11) (T := TX11) (N := 14) hx hb hwd inA_X11 hown hK hP 0 rfl rfl 1 (by decide) (hwd _ wk_19) (fun _ h9 => h9) rfl dX11_ofPlane_1 ?_
  refine lv_iload_n hx hb dX11_ofPlane_4 rfl (lv_at hl 1 rfl) ?_
  refine va_calli (va_runV (As := [.int p0]) (rest := []) ⟨hx, hb, hml, hown, hwd⟩ (c_X8_has l dC dI g c adK adV v F rc H.size p0 hg hI ) (cwV 1 hwd (gV wk_276 wk_273 wk_274 wk_275 wk_18) rfl rfl rfl (by decide +kernel) ⟨Nat.le_of_ble_eq_true rfl, Nat.le_of_ble_eq_true rfl⟩) ⟨PX.blind, va_recv hK hP (ci := 8) (q0 := 2) rfl rfl, fun U hU hW => ⟨rfl, PX.at hK hE hP hS hU hW⟩⟩ rfl rfl hl.1 rfl (lv_room (Nat.le_of_ble_eq_true rfl)) dX11_ofPlane_5 ⟨Nat.le_of_ble_eq_true rfl, Nat.le_of_ble_eq_true rfl⟩) hS (fun q _ h => (freeX hS) q h) (freeX hS) (fun r2158 u t H1 locs ht hvm hw hB hz1 hk1 hS => ?_)
  unfold BX at hB
  rw [ht] at hB
  have hP : va_P (dC, dI) classes (wX g c v F rc) H1 := hB
  have hw : (0 ≤ r2158.toInt ∧ r2158.toInt ≤ 1) ∧ (r2158.toInt = 1 → 0 ≤ p0.toInt ∧ p0.toInt < 10) := hw
  generalize H1 = H at hP hS ⊢
  have hw_r2158 := hw
  refine lv_if_ne (tgt := 14) hx hb dX11_ofPlane_8 (by decide) (fun c2159 => ?_) (fun c2159 => ?_)
  · skip
    have t2160 := cv_ne (a := r2158.toInt) rfl (b := 0) (by decide) c2159
    refine lv_iload_n hx hb dX11_ofPlane_14 rfl (lv_at hl 2 rfl) ?_
    by_cases hlo2161 : p1.toInt < 0
    · refine lv_tableOut (tgt := 160) hx hb dX11_ofPlane_15 (Or.inl hlo2161) (by decide) ?_
      refine lv_ldc (v := (-2000000000)) hx hb hown (hwd _ wk_56) dX11_ofPlane_160 ?_
      have hP9 : va_P (dC, dI) classes (wX g c v F rc) H := hP
      exact W.iret (v := (-2000000000)) hx hb hr (fun t ht hW => ⟨⟨(-2000000000), (), rfl, trivial, (by show va_P _ _ _ t.heap; rw [ht]; exact hP9)⟩, hS.F ht⟩) hS.2.2 dX11_ofPlane_162
    by_cases hhi2162 : 8 < p1.toInt
    · refine lv_tableOut (tgt := 160) hx hb dX11_ofPlane_15 (Or.inr hhi2162) (by decide) ?_
      refine lv_ldc (v := (-2000000000)) hx hb hown (hwd _ wk_56) dX11_ofPlane_160 ?_
      have hP9 : va_P (dC, dI) classes (wX g c v F rc) H := hP
      exact W.iret (v := (-2000000000)) hx hb hr (fun t ht hW => ⟨⟨(-2000000000), (), rfl, trivial, (by show va_P _ _ _ t.heap; rw [ht]; exact hP9)⟩, hS.F ht⟩) hS.2.2 dX11_ofPlane_162
    rcases (show p1.toInt = 0 ∨ p1.toInt = 1 ∨ p1.toInt = 2 ∨ p1.toInt = 3 ∨ p1.toInt = 4 ∨ p1.toInt = 5 ∨ p1.toInt = 6 ∨ p1.toInt = 7 ∨ p1.toInt = 8 by omega) with hk | hk | hk | hk | hk | hk | hk | hk | hk
    · refine lv_tableIn (off := 49) (tgt := 64) hx hb dX11_ofPlane_15 hlo2161 hhi2162 (by rw [hk]; decide) (by decide) ?_
      refine lv_aload_n hx hb dX11_ofPlane_64 rfl (lv_at hl 0 rfl) ?_
      refine va_get (D := (dC, dI)) (ci := 11) (v := .ref (g 2)) (C := RX11) (T := TX11) (N := 14) hx hb hwd inA_X11 hown hK hP 0 rfl rfl 1 (by decide) (hwd _ wk_19) (fun _ h9 => h9) rfl dX11_ofPlane_65 ?_
      refine va_get (D := (dC, dI)) (ci := 8) (v := .ref (g 16)) (C := RX8) (T := TX8) (N := 10) hx hb hwd inA_X8 hown hK hP 2 rfl rfl 2 (by decide) (hwd _ wk_530) (fun _ h9 => h9) rfl dX11_ofPlane_68 ?_
      refine lv_iload_n hx hb dX11_ofPlane_71 rfl (lv_at hl 1 rfl) ?_
      refine va_iald hx hb hK hP 16 4 rfl rfl (i := p0) (vin (a := p0.toInt) rfl (by omega)) dX11_ofPlane_72 ?_
      refine lv_topi (fun z2163 e2164 => ?_)
      have hP9 : va_P (dC, dI) classes (wX g c v F rc) H := hP
      exact W.iret (v := z2163) hx hb hr (fun t ht hW => ⟨⟨z2163, (), rfl, trivial, (by show va_P _ _ _ t.heap; rw [ht]; exact hP9)⟩, hS.F ht⟩) hS.2.2 dX11_ofPlane_73
    · refine lv_tableIn (off := 59) (tgt := 74) hx hb dX11_ofPlane_15 hlo2161 hhi2162 (by rw [hk]; decide) (by decide) ?_
      refine lv_aload_n hx hb dX11_ofPlane_74 rfl (lv_at hl 0 rfl) ?_
      refine va_get (D := (dC, dI)) (ci := 11) (v := .ref (g 2)) (C := RX11) (T := TX11) (N := 14) hx hb hwd inA_X11 hown hK hP 0 rfl rfl 1 (by decide) (hwd _ wk_19) (fun _ h9 => h9) rfl dX11_ofPlane_75 ?_
      refine va_get (D := (dC, dI)) (ci := 8) (v := .ref (g 17)) (C := RX8) (T := TX8) (N := 10) hx hb hwd inA_X8 hown hK hP 2 rfl rfl 3 (by decide) (hwd _ wk_531) (fun _ h9 => h9) rfl dX11_ofPlane_78 ?_
      refine lv_iload_n hx hb dX11_ofPlane_81 rfl (lv_at hl 1 rfl) ?_
      refine va_iald hx hb hK hP 17 5 rfl rfl (i := p0) (vin (a := p0.toInt) rfl (by omega)) dX11_ofPlane_82 ?_
      refine lv_topi (fun z2165 e2166 => ?_)
      have hP9 : va_P (dC, dI) classes (wX g c v F rc) H := hP
      exact W.iret (v := z2165) hx hb hr (fun t ht hW => ⟨⟨z2165, (), rfl, trivial, (by show va_P _ _ _ t.heap; rw [ht]; exact hP9)⟩, hS.F ht⟩) hS.2.2 dX11_ofPlane_83
    · refine lv_tableIn (off := 69) (tgt := 84) hx hb dX11_ofPlane_15 hlo2161 hhi2162 (by rw [hk]; decide) (by decide) ?_
      refine lv_aload_n hx hb dX11_ofPlane_84 rfl (lv_at hl 0 rfl) ?_
      refine va_get (D := (dC, dI)) (ci := 11) (v := .ref (g 2)) (C := RX11) (T := TX11) (N := 14) hx hb hwd inA_X11 hown hK hP 0 rfl rfl 1 (by decide) (hwd _ wk_19) (fun _ h9 => h9) rfl dX11_ofPlane_85 ?_
      refine lv_iload_n hx hb dX11_ofPlane_88 rfl (lv_at hl 1 rfl) ?_
      refine va_calli (va_runV (As := [.int p0]) (rest := []) ⟨hx, hb, hml, hown, hwd⟩ (c_X8_isBack l dC dI g c adK adV v F rc H.size p0 hg hI (by omega)) (cwV 1 hwd (gV wk_284 wk_281 wk_282 wk_283 wk_18) rfl rfl rfl (by decide +kernel) ⟨Nat.le_of_ble_eq_true rfl, Nat.le_of_ble_eq_true rfl⟩) ⟨PX.blind, va_recv hK hP (ci := 8) (q0 := 2) rfl rfl, fun U hU hW => ⟨rfl, PX.at hK hE hP hS hU hW⟩⟩ rfl rfl hl.1 rfl (lv_room (Nat.le_of_ble_eq_true rfl)) dX11_ofPlane_89 ⟨Nat.le_of_ble_eq_true rfl, Nat.le_of_ble_eq_true rfl⟩) hS (fun q _ h => (freeX hS) q h) (freeX hS) (fun r2167 u t H1 locs ht hvm hw hB hz1 hk1 hS => ?_)
      unfold BX at hB
      rw [ht] at hB
      have hP : va_P (dC, dI) classes (wX g c v F rc) H1 := hB
      have hw : 0 ≤ r2167.toInt ∧ r2167.toInt ≤ 1 := hw
      generalize H1 = H at hP hS ⊢
      have hw_r2167 := hw
      refine lv_if_eq (tgt := 99) hx hb dX11_ofPlane_92 (by decide) (fun c2168 => ?_) (fun c2168 => ?_)
      · skip
        have t2169 := cv_eq (a := r2167.toInt) rfl (b := 0) (by decide) c2168
        refine lv_iconst (v := 0) hx hb dX11_ofPlane_99 (by decide) ?_
        have hP9 : va_P (dC, dI) classes (wX g c v F rc) H := hP
        exact W.iret (v := 0) hx hb hr (fun t ht hW => ⟨⟨0, (), rfl, trivial, (by show va_P _ _ _ t.heap; rw [ht]; exact hP9)⟩, hS.F ht⟩) hS.2.2 dX11_ofPlane_100
      · skip
        have t2170 := cv_ne (a := r2167.toInt) rfl (b := 0) (by decide) c2168
        refine lv_iconst (v := 1) hx hb dX11_ofPlane_95 (by decide) ?_
        refine lv_goto (tgt := 100) hx hb dX11_ofPlane_96 (by decide) ?_
        have hP9 : va_P (dC, dI) classes (wX g c v F rc) H := hP
        exact W.iret (v := 1) hx hb hr (fun t ht hW => ⟨⟨1, (), rfl, trivial, (by show va_P _ _ _ t.heap; rw [ht]; exact hP9)⟩, hS.F ht⟩) hS.2.2 dX11_ofPlane_100
    · refine lv_tableIn (off := 86) (tgt := 101) hx hb dX11_ofPlane_15 hlo2161 hhi2162 (by rw [hk]; decide) (by decide) ?_
      refine lv_aload_n hx hb dX11_ofPlane_101 rfl (lv_at hl 0 rfl) ?_
      refine va_get (D := (dC, dI)) (ci := 11) (v := .ref (g 3)) (C := RX11) (T := TX11) (N := 14) hx hb hwd inA_X11 hown hK hP 0 rfl rfl 2 (by decide) (hwd _ wk_27) (fun _ h9 => h9) rfl dX11_ofPlane_102 ?_
      refine lv_iload_n hx hb dX11_ofPlane_105 rfl (lv_at hl 1 rfl) ?_
      refine va_calli (va_runV (As := [.int p0]) (rest := []) ⟨hx, hb, hml, hown, hwd⟩ (c_X7_countAt l dC dI g c adK adV v F rc H.size p0 hg hI ) (cwV 1 hwd (gV wk_346 wk_537 wk_344 wk_345 wk_26) rfl rfl rfl (by decide +kernel) ⟨Nat.le_of_ble_eq_true rfl, Nat.le_of_ble_eq_true rfl⟩) ⟨PX.blind, va_recv hK hP (ci := 7) (q0 := 3) rfl rfl, fun U hU hW => ⟨rfl, PX.at hK hE hP hS hU hW⟩⟩ rfl rfl hl.1 rfl (lv_room (Nat.le_of_ble_eq_true rfl)) dX11_ofPlane_106 ⟨Nat.le_of_ble_eq_true rfl, Nat.le_of_ble_eq_true rfl⟩) hS (fun q _ h => (freeX hS) q h) (freeX hS) (fun r2171 u t H1 locs ht hvm hw hB hz1 hk1 hS => ?_)
      unfold BX at hB
      rw [ht] at hB
      have hP : va_P (dC, dI) classes (wX g c v F rc) H1 := hB
      generalize H1 = H at hP hS ⊢
      have rr_r2171 := i32_rng r2171
      have hP9 : va_P (dC, dI) classes (wX g c v F rc) H := hP
      exact W.iret (v := r2171) hx hb hr (fun t ht hW => ⟨⟨r2171, (), rfl, trivial, (by show va_P _ _ _ t.heap; rw [ht]; exact hP9)⟩, hS.F ht⟩) hS.2.2 dX11_ofPlane_109
    · refine lv_tableIn (off := 95) (tgt := 110) hx hb dX11_ofPlane_15 hlo2161 hhi2162 (by rw [hk]; decide) (by decide) ?_
      refine lv_aload_n hx hb dX11_ofPlane_110 rfl (lv_at hl 0 rfl) ?_
      refine va_get (D := (dC, dI)) (ci := 11) (v := .ref (g 2)) (C := RX11) (T := TX11) (N := 14) hx hb hwd inA_X11 hown hK hP 0 rfl rfl 1 (by decide) (hwd _ wk_19) (fun _ h9 => h9) rfl dX11_ofPlane_111 ?_
      refine va_get (D := (dC, dI)) (ci := 8) (v := .ref (g 15)) (C := RX8) (T := TX8) (N := 10) hx hb hwd inA_X8 hown hK hP 2 rfl rfl 1 (by decide) (hwd _ wk_532) (fun _ h9 => h9) rfl dX11_ofPlane_114 ?_
      refine lv_iload_n hx hb dX11_ofPlane_117 rfl (lv_at hl 1 rfl) ?_
      refine va_iald hx hb hK hP 15 3 rfl rfl (i := p0) (vin (a := p0.toInt) rfl (by omega)) dX11_ofPlane_118 ?_
      refine lv_topi (fun z2172 e2173 => ?_)
      have hP9 : va_P (dC, dI) classes (wX g c v F rc) H := hP
      exact W.iret (v := z2172) hx hb hr (fun t ht hW => ⟨⟨z2172, (), rfl, trivial, (by show va_P _ _ _ t.heap; rw [ht]; exact hP9)⟩, hS.F ht⟩) hS.2.2 dX11_ofPlane_119
    · refine lv_tableIn (off := 105) (tgt := 120) hx hb dX11_ofPlane_15 hlo2161 hhi2162 (by rw [hk]; decide) (by decide) ?_
      refine lv_aload_n hx hb dX11_ofPlane_120 rfl (lv_at hl 0 rfl) ?_
      refine va_get (D := (dC, dI)) (ci := 11) (v := .ref (g 2)) (C := RX11) (T := TX11) (N := 14) hx hb hwd inA_X11 hown hK hP 0 rfl rfl 1 (by decide) (hwd _ wk_19) (fun _ h9 => h9) rfl dX11_ofPlane_121 ?_
      refine va_get (D := (dC, dI)) (ci := 8) (v := .ref (g 18)) (C := RX8) (T := TX8) (N := 10) hx hb hwd inA_X8 hown hK hP 2 rfl rfl 4 (by decide) (hwd _ wk_533) (fun _ h9 => h9) rfl dX11_ofPlane_124 ?_
      refine lv_iload_n hx hb dX11_ofPlane_127 rfl (lv_at hl 1 rfl) ?_
      refine va_iald hx hb hK hP 18 6 rfl rfl (i := p0) (vin (a := p0.toInt) rfl (by omega)) dX11_ofPlane_128 ?_
      refine lv_topi (fun z2174 e2175 => ?_)
      have hP9 : va_P (dC, dI) classes (wX g c v F rc) H := hP
      exact W.iret (v := z2174) hx hb hr (fun t ht hW => ⟨⟨z2174, (), rfl, trivial, (by show va_P _ _ _ t.heap; rw [ht]; exact hP9)⟩, hS.F ht⟩) hS.2.2 dX11_ofPlane_129
    · refine lv_tableIn (off := 115) (tgt := 130) hx hb dX11_ofPlane_15 hlo2161 hhi2162 (by rw [hk]; decide) (by decide) ?_
      refine lv_aload_n hx hb dX11_ofPlane_130 rfl (lv_at hl 0 rfl) ?_
      refine va_get (D := (dC, dI)) (ci := 11) (v := .ref (g 2)) (C := RX11) (T := TX11) (N := 14) hx hb hwd inA_X11 hown hK hP 0 rfl rfl 1 (by decide) (hwd _ wk_19) (fun _ h9 => h9) rfl dX11_ofPlane_131 ?_
      refine va_get (D := (dC, dI)) (ci := 8) (v := .ref (g 19)) (C := RX8) (T := TX8) (N := 10) hx hb hwd inA_X8 hown hK hP 2 rfl rfl 5 (by decide) (hwd _ wk_534) (fun _ h9 => h9) rfl dX11_ofPlane_134 ?_
      refine lv_iload_n hx hb dX11_ofPlane_137 rfl (lv_at hl 1 rfl) ?_
      refine va_iald hx hb hK hP 19 7 rfl rfl (i := p0) (vin (a := p0.toInt) rfl (by omega)) dX11_ofPlane_138 ?_
      refine lv_topi (fun z2176 e2177 => ?_)
      have hP9 : va_P (dC, dI) classes (wX g c v F rc) H := hP
      exact W.iret (v := z2176) hx hb hr (fun t ht hW => ⟨⟨z2176, (), rfl, trivial, (by show va_P _ _ _ t.heap; rw [ht]; exact hP9)⟩, hS.F ht⟩) hS.2.2 dX11_ofPlane_139
    · refine lv_tableIn (off := 125) (tgt := 140) hx hb dX11_ofPlane_15 hlo2161 hhi2162 (by rw [hk]; decide) (by decide) ?_
      refine lv_aload_n hx hb dX11_ofPlane_140 rfl (lv_at hl 0 rfl) ?_
      refine va_get (D := (dC, dI)) (ci := 11) (v := .ref (g 9)) (C := RX11) (T := TX11) (N := 14) hx hb hwd inA_X11 hown hK hP 0 rfl rfl 8 (by decide) (hwd _ wk_47) (fun _ h9 => h9) rfl dX11_ofPlane_141 ?_
      refine va_get (D := (dC, dI)) (ci := 0) (v := .ref (g 59)) (C := RX0) (T := TX0) (N := 9) hx hb hwd inA_X0 hown hK hP 9 rfl rfl 2 (by decide) (hwd _ wk_535) (fun _ h9 => h9) rfl dX11_ofPlane_144 ?_
      refine lv_iload_n hx hb dX11_ofPlane_147 rfl (lv_at hl 1 rfl) ?_
      refine va_iald hx hb hK hP 59 47 rfl rfl (i := p0) (vin (a := p0.toInt) rfl (by omega)) dX11_ofPlane_148 ?_
      refine lv_topi (fun z2178 e2179 => ?_)
      have hP9 : va_P (dC, dI) classes (wX g c v F rc) H := hP
      exact W.iret (v := z2178) hx hb hr (fun t ht hW => ⟨⟨z2178, (), rfl, trivial, (by show va_P _ _ _ t.heap; rw [ht]; exact hP9)⟩, hS.F ht⟩) hS.2.2 dX11_ofPlane_149
    · refine lv_tableIn (off := 135) (tgt := 150) hx hb dX11_ofPlane_15 hlo2161 hhi2162 (by rw [hk]; decide) (by decide) ?_
      refine lv_aload_n hx hb dX11_ofPlane_150 rfl (lv_at hl 0 rfl) ?_
      refine va_get (D := (dC, dI)) (ci := 11) (v := .ref (g 9)) (C := RX11) (T := TX11) (N := 14) hx hb hwd inA_X11 hown hK hP 0 rfl rfl 8 (by decide) (hwd _ wk_47) (fun _ h9 => h9) rfl dX11_ofPlane_151 ?_
      refine va_get (D := (dC, dI)) (ci := 0) (v := .ref (g 60)) (C := RX0) (T := TX0) (N := 9) hx hb hwd inA_X0 hown hK hP 9 rfl rfl 3 (by decide) (hwd _ wk_536) (fun _ h9 => h9) rfl dX11_ofPlane_154 ?_
      refine lv_iload_n hx hb dX11_ofPlane_157 rfl (lv_at hl 1 rfl) ?_
      refine va_iald hx hb hK hP 60 48 rfl rfl (i := p0) (vin (a := p0.toInt) rfl (by omega)) dX11_ofPlane_158 ?_
      refine lv_topi (fun z2180 e2181 => ?_)
      have hP9 : va_P (dC, dI) classes (wX g c v F rc) H := hP
      exact W.iret (v := z2180) hx hb hr (fun t ht hW => ⟨⟨z2180, (), rfl, trivial, (by show va_P _ _ _ t.heap; rw [ht]; exact hP9)⟩, hS.F ht⟩) hS.2.2 dX11_ofPlane_159
  · skip
    have t2182 := cv_eq (a := r2158.toInt) rfl (b := 0) (by decide) c2159
    refine lv_ldc (v := (-2000000000)) hx hb hown (hwd _ wk_56) dX11_ofPlane_11 ?_
    have hP9 : va_P (dC, dI) classes (wX g c v F rc) H := hP
    exact W.iret (v := (-2000000000)) hx hb hr (fun t ht hW => ⟨⟨(-2000000000), (), rfl, trivial, (by show va_P _ _ _ t.heap; rw [ht]; exact hP9)⟩, hS.F ht⟩) hS.2.2 dX11_ofPlane_13
set_option maxHeartbeats 8000000 in
set_option maxRecDepth 100000 in
theorem c_X11_grounded (l : Launch) (dC : Nat → ClassId) (dI : Nat → Nat → Nat) (g : Nat → Nat) (c : Nat → ClassId) (adK adV : Nat → Nat) (v : Nat → Int32) (F : Nat → Nat → Int32) (rc sz : Nat) (p0 : Int32) (p1 : Int32) (hg : injX g) (hI : IX v F) : Met l yX11_grounded (Cond.code yX11_grounded cX11_grounded 3 (some .int) :: wA) ({ frames := 8, cells := 0, slots := 0, locals := 320 }) (va_Pc [.ref (g 0), .int p0, .int p1] (PX dC dI g c adK adV v F rc sz)) (va_Qi (fun (r : Int32) (u : StX) => IX u.1 u.2.1 ∧ alX u.1 u.2.1 = alX v F ∧ u.2.2 = rc ∧ (∀ k, k ∉ ([126] : List Nat) → u.1 k = v k) ∧ True) (BX dC dI g c) (AX g sz)) 0 0 (AX g sz) := by
  refine Met.ofW (cc := cX11_grounded) (maxL := 3) (ret := (some .int)) (by decide) rfl ?_
  intro p e s m args below meth c0 s₁ B hml hv
  obtain ⟨rfl, hsz, hP, hK, hE⟩ := hv
  have hx := B.exec
  have hb := B.bytes
  have hr := B.returns
  have hts := atoms_spec (ws := Cond.code yX11_grounded cX11_grounded 3 (some .int) :: wA) B.pre
  have hwd : ∀ w ∈ wA, w.before _ s = true := fun w h => hts w (List.mem_cons_of_mem _ h)
  have hown : s.vm.findClass RX11 = some m.cls := findClass_of_methodNamed B.named
  have hlocks := B.notSynchronized
  subst hsz
  have hl := lv_entry ([.ref (g 0), .int p0, .int p1]) (n := 3) (Nat.le_of_ble_eq_true rfl)
  rw [lg_entry_eq]
  generalize (lg_sl ([.ref (g 0), .int p0, .int p1]) ++ List.replicate (3 - (lg_sl ([.ref (g 0), .int p0, .int p1])).length) Slot.unset).toArray = ls at hl ⊢
  have hl : lv_has ls 3 [(0, .ref (g 0)), (1, .int p0), (2, .int p1)] := hl
  obtain ⟨H, eH⟩ : ∃ z, z = s.heap := ⟨_, rfl⟩
  have hP : va_P (dC, dI) classes (wX g c v F rc) H := by rw [eH]; exact hP
  have hS : va_S (AX g s.heap.size) s.heap H [] := by rw [eH]; exact va_S.rf
  refine my_heap eH ?_
  have hal : alX v F = alX v F := rfl
  have rp0 := i32_rng p0
  have rp1 := i32_rng p1
  refine lv_aload_n hx hb dX11_grounded_0 rfl (lv_at hl 0 rfl) ?_
  refine va_get (D := (dC, dI)) (ci := 11) (v := .ref (g 2)) (C := RX11) (T := TX11) (N := 14) hx hb hwd inA_X11 hown hK hP 0 rfl rfl 1 (by decide) (hwd _ wk_19) (fun _ h9 => h9) rfl dX11_grounded_1 ?_
  refine lv_iload_n hx hb dX11_grounded_4 rfl (lv_at hl 1 rfl) ?_
  refine va_calli (va_runV (As := [.int p0]) (rest := []) ⟨hx, hb, hml, hown, hwd⟩ (c_X8_has l dC dI g c adK adV v F rc H.size p0 hg hI ) (cwV 1 hwd (gV wk_276 wk_273 wk_274 wk_275 wk_18) rfl rfl rfl (by decide +kernel) ⟨Nat.le_of_ble_eq_true rfl, Nat.le_of_ble_eq_true rfl⟩) ⟨PX.blind, va_recv hK hP (ci := 8) (q0 := 2) rfl rfl, fun U hU hW => ⟨rfl, PX.at hK hE hP hS hU hW⟩⟩ rfl rfl hl.1 rfl (lv_room (Nat.le_of_ble_eq_true rfl)) dX11_grounded_5 ⟨Nat.le_of_ble_eq_true rfl, Nat.le_of_ble_eq_true rfl⟩) hS (fun q _ h => (freeX hS) q h) (freeX hS) (fun r2183 u t H1 locs ht hvm hw hB hz1 hk1 hS => ?_)
  unfold BX at hB
  rw [ht] at hB
  have hP : va_P (dC, dI) classes (wX g c v F rc) H1 := hB
  have hw : (0 ≤ r2183.toInt ∧ r2183.toInt ≤ 1) ∧ (r2183.toInt = 1 → 0 ≤ p0.toInt ∧ p0.toInt < 10) := hw
  generalize H1 = H at hP hS ⊢
  have hw_r2183 := hw
  refine lv_if_eq (tgt := 18) hx hb dX11_grounded_8 (by decide) (fun c2184 => ?_) (fun c2184 => ?_)
  · skip
    have t2185 := cv_eq (a := r2183.toInt) rfl (b := 0) (by decide) c2184
    refine lv_iconst (v := (-1)) hx hb dX11_grounded_18 (by decide) ?_
    have hP9 : va_P (dC, dI) classes (wX g c v F rc) H := hP
    exact W.iret (v := (-1)) hx hb hr (fun t ht hW => ⟨⟨(-1), (v, F, rc), rfl, ⟨hI, hal, rfl, (fun _ _ => rfl), trivial⟩, (by show va_P _ _ _ t.heap; rw [ht]; exact hP9)⟩, hS.F ht⟩) hS.2.2 dX11_grounded_19
  · skip
    have t2186 := cv_ne (a := r2183.toInt) rfl (b := 0) (by decide) c2184
    refine lv_iload_n hx hb dX11_grounded_11 rfl (lv_at hl 2 rfl) ?_
    refine va_calli (va_runS (As := [.int p1]) (rest := []) ⟨hx, hb, hml, hown, hwd⟩ (c_X11_isDay l dC dI g c adK adV v F rc H.size p1 hg hI ) (va_cwS 1 hwd (gT wk_549 wk_547 wk_548 wk_2) rfl rfl rfl (by decide +kernel) ⟨Nat.le_of_ble_eq_true rfl, Nat.le_of_ble_eq_true rfl⟩) ⟨PX.blind, fun U hU hW => ⟨rfl, PX.at hK hE hP hS hU hW⟩⟩ rfl rfl hl.1 rfl (lv_room (Nat.le_of_ble_eq_true rfl)) dX11_grounded_12 ⟨Nat.le_of_ble_eq_true rfl, Nat.le_of_ble_eq_true rfl⟩) hS (fun q _ h => (freeX hS) q h) (freeX hS) (fun r2187 u t H1 locs ht hvm hw hB hz1 hk1 hS => ?_)
    unfold BX at hB
    rw [ht] at hB
    have hP : va_P (dC, dI) classes (wX g c v F rc) H1 := hB
    have hw : (r2187.toInt = 1 ∧ 0 ≤ p1.toInt ∧ p1.toInt ≤ 9999) ∨ (r2187.toInt = 0 ∧ (p1.toInt < 0 ∨ 9999 < p1.toInt)) := hw
    generalize H1 = H at hP hS ⊢
    have hw_r2187 := hw
    refine lv_if_ne (tgt := 20) hx hb dX11_grounded_15 (by decide) (fun c2188 => ?_) (fun c2188 => ?_)
    · skip
      have t2189 := cv_ne (a := r2187.toInt) rfl (b := 0) (by decide) c2188
      refine lv_aload_n hx hb dX11_grounded_20 rfl (lv_at hl 0 rfl) ?_
      refine va_get (D := (dC, dI)) (ci := 11) (v := .ref (g 11)) (C := RX11) (T := TX11) (N := 14) hx hb hwd inA_X11 hown hK hP 0 rfl rfl 10 (by decide) (hwd _ wk_55) (fun _ h9 => h9) rfl dX11_grounded_21 ?_
      refine lv_iload_n hx hb dX11_grounded_24 rfl (lv_at hl 1 rfl) ?_
      refine lv_iload_n hx hb dX11_grounded_25 rfl (lv_at hl 2 rfl) ?_
      refine lv_aload_n hx hb dX11_grounded_26 rfl (lv_at hl 0 rfl) ?_
      refine va_get (D := (dC, dI)) (ci := 11) (v := .int (v 11)) (C := RX11) (T := TX11) (N := 14) hx hb hwd inA_X11 hown hK hP 0 rfl rfl 11 (by decide) (hwd _ wk_323) (fun _ h9 => h9) rfl dX11_grounded_27 ?_
      have t2190 : 0 ≤ (v 11).toInt ∧ (v 11).toInt ≤ 9999 := hI.1 11 _ _ rfl
      refine va_calli (va_runV (As := [.int p0, .int p1, .int (v 11)]) (rest := []) ⟨hx, hb, hml, hown, hwd⟩ (c_X1_groundOf l dC dI g c adK adV v F rc H.size p0 p1 (v 11) hg hI (by omega)) (cwV 3 hwd (gV wk_340 wk_337 wk_338 wk_339 wk_54) rfl rfl rfl (by decide +kernel) ⟨Nat.le_of_ble_eq_true rfl, Nat.le_of_ble_eq_true rfl⟩) ⟨PX.blind, va_recv hK hP (ci := 1) (q0 := 11) rfl rfl, fun U hU hW => ⟨rfl, PX.at hK hE hP hS hU hW⟩⟩ rfl rfl hl.1 rfl (lv_room (Nat.le_of_ble_eq_true rfl)) dX11_grounded_30 ⟨Nat.le_of_ble_eq_true rfl, Nat.le_of_ble_eq_true rfl⟩) hS (fun q _ h => (freeX hS) q h) (freeX hS) (fun r2191 u t H1 locs ht hvm hw hB hz1 hk1 hS => ?_)
      unfold BX at hB
      rw [ht] at hB
      obtain ⟨v2192, F2193, rc9⟩ := u
      obtain ⟨hI, hal9, hrc, hf2194, hw⟩ := hw
      dsimp only at hI hal9 hrc hB hf2194 hw
      rw [hrc] at hB
      have hal := hal9.trans hal
      have hP : va_P (dC, dI) classes (wX g c v2192 F2193 rc) H1 := hB
      generalize H1 = H at hP hS ⊢
      have rr_r2191 := i32_rng r2191
      have hP9 : va_P (dC, dI) classes (wX g c v2192 F2193 rc) H := hP
      exact W.iret (v := r2191) hx hb hr (fun t ht hW => ⟨⟨r2191, (v2192, F2193, rc), rfl, ⟨hI, hal, rfl, (frC (by decide) hf2194 (fun _ _ => rfl)), trivial⟩, (by show va_P _ _ _ t.heap; rw [ht]; exact hP9)⟩, hS.F ht⟩) hS.2.2 dX11_grounded_33
    · skip
      have t2195 := cv_eq (a := r2187.toInt) rfl (b := 0) (by decide) c2188
      refine lv_iconst (v := (-1)) hx hb dX11_grounded_18 (by decide) ?_
      have hP9 : va_P (dC, dI) classes (wX g c v F rc) H := hP
      exact W.iret (v := (-1)) hx hb hr (fun t ht hW => ⟨⟨(-1), (v, F, rc), rfl, ⟨hI, hal, rfl, (fun _ _ => rfl), trivial⟩, (by show va_P _ _ _ t.heap; rw [ht]; exact hP9)⟩, hS.F ht⟩) hS.2.2 dX11_grounded_19
set_option maxHeartbeats 8000000 in
set_option maxRecDepth 100000 in
theorem c_X11_part (l : Launch) (dC : Nat → ClassId) (dI : Nat → Nat → Nat) (g : Nat → Nat) (c : Nat → ClassId) (adK adV : Nat → Nat) (v : Nat → Int32) (F : Nat → Nat → Int32) (rc sz : Nat) (p0 : Int32) (p1 : Int32) (p2 : Int32) (p3 : Int32) (p4 : Int32) (hg : injX g) (hI : IX v F) : Met l yX11_part (Cond.code yX11_part cX11_part 7 (some .int) :: wA) ({ frames := 4, cells := 0, slots := 0, locals := 160 }) (va_Pc [.ref (g 0), .int p0, .int p1, .int p2, .int p3, .int p4] (PX dC dI g c adK adV v F rc sz)) (va_Qi (fun (r : Int32) (u : StX) => IX u.1 u.2.1 ∧ alX u.1 u.2.1 = alX v F ∧ u.2.2 = rc ∧ (∀ k, k ∉ ([61, 80] : List Nat) → u.1 k = v k) ∧ True) (BX dC dI g c) (AX g sz)) 0 0 (AX g sz) := by
  refine Met.ofW (cc := cX11_part) (maxL := 7) (ret := (some .int)) (by decide) rfl ?_
  intro p e s m args below meth c0 s₁ B hml hv
  obtain ⟨rfl, hsz, hP, hK, hE⟩ := hv
  have hx := B.exec
  have hb := B.bytes
  have hr := B.returns
  have hts := atoms_spec (ws := Cond.code yX11_part cX11_part 7 (some .int) :: wA) B.pre
  have hwd : ∀ w ∈ wA, w.before _ s = true := fun w h => hts w (List.mem_cons_of_mem _ h)
  have hown : s.vm.findClass RX11 = some m.cls := findClass_of_methodNamed B.named
  have hlocks := B.notSynchronized
  subst hsz
  have hl := lv_entry ([.ref (g 0), .int p0, .int p1, .int p2, .int p3, .int p4]) (n := 7) (Nat.le_of_ble_eq_true rfl)
  rw [lg_entry_eq]
  generalize (lg_sl ([.ref (g 0), .int p0, .int p1, .int p2, .int p3, .int p4]) ++ List.replicate (7 - (lg_sl ([.ref (g 0), .int p0, .int p1, .int p2, .int p3, .int p4])).length) Slot.unset).toArray = ls at hl ⊢
  have hl : lv_has ls 7 [(0, .ref (g 0)), (1, .int p0), (2, .int p1), (3, .int p2), (4, .int p3), (5, .int p4)] := hl
  obtain ⟨H, eH⟩ : ∃ z, z = s.heap := ⟨_, rfl⟩
  have hP : va_P (dC, dI) classes (wX g c v F rc) H := by rw [eH]; exact hP
  have hS : va_S (AX g s.heap.size) s.heap H [] := by rw [eH]; exact va_S.rf
  refine my_heap eH ?_
  have hal : alX v F = alX v F := rfl
  have rp0 := i32_rng p0
  have rp1 := i32_rng p1
  have rp2 := i32_rng p2
  have rp3 := i32_rng p3
  have rp4 := i32_rng p4
  refine lv_aload_n hx hb dX11_part_0 rfl (lv_at hl 0 rfl) ?_
  refine va_get (D := (dC, dI)) (ci := 11) (v := .ref (g 1)) (C := RX11) (T := TX11) (N := 14) hx hb hwd inA_X11 hown hK hP 0 rfl rfl 0 (by decide) (hwd _ wk_15) (fun _ h9 => h9) rfl dX11_part_1 ?_
  refine lv_iload_n hx hb dX11_part_4 rfl (lv_at hl 1 rfl) ?_
  refine va_calli (va_runV (As := [.int p0]) (rest := []) ⟨hx, hb, hml, hown, hwd⟩ (c_X2_has l dC dI g c adK adV v F rc H.size p0 hg hI ) (cwV 1 hwd (gV wk_280 wk_277 wk_278 wk_279 wk_14) rfl rfl rfl (by decide +kernel) ⟨Nat.le_of_ble_eq_true rfl, Nat.le_of_ble_eq_true rfl⟩) ⟨PX.blind, va_recv hK hP (ci := 2) (q0 := 1) rfl rfl, fun U hU hW => ⟨rfl, PX.at hK hE hP hS hU hW⟩⟩ rfl rfl hl.1 rfl (lv_room (Nat.le_of_ble_eq_true rfl)) dX11_part_5 ⟨Nat.le_of_ble_eq_true rfl, Nat.le_of_ble_eq_true rfl⟩) hS (fun q _ h => (freeX hS) q h) (freeX hS) (fun r2196 u t H1 locs ht hvm hw hB hz1 hk1 hS => ?_)
  unfold BX at hB
  rw [ht] at hB
  have hP : va_P (dC, dI) classes (wX g c v F rc) H1 := hB
  have hw : (0 ≤ r2196.toInt ∧ r2196.toInt ≤ 1) ∧ (r2196.toInt = 1 → 0 ≤ p0.toInt ∧ p0.toInt < 10) := hw
  generalize H1 = H at hP hS ⊢
  have hw_r2196 := hw
  refine lv_if_eq (tgt := 21) hx hb dX11_part_8 (by decide) (fun c2197 => ?_) (fun c2197 => ?_)
  · skip
    have t2198 := cv_eq (a := r2196.toInt) rfl (b := 0) (by decide) c2197
    refine lv_iconst (v := (-1)) hx hb dX11_part_21 (by decide) ?_
    have hP9 : va_P (dC, dI) classes (wX g c v F rc) H := hP
    exact W.iret (v := (-1)) hx hb hr (fun t ht hW => ⟨⟨(-1), (v, F, rc), rfl, ⟨hI, hal, rfl, (fun _ _ => rfl), trivial⟩, (by show va_P _ _ _ t.heap; rw [ht]; exact hP9)⟩, hS.F ht⟩) hS.2.2 dX11_part_22
  · skip
    have t2199 := cv_ne (a := r2196.toInt) rfl (b := 0) (by decide) c2197
    refine lv_iload_n hx hb dX11_part_11 rfl (lv_at hl 2 rfl) ?_
    refine lv_iconst (v := 1) hx hb dX11_part_12 (by decide) ?_
    refine lv_ldc (v := 99999) hx hb hown (hwd _ wk_236) dX11_part_13 ?_
    refine va_calli (va_runS (As := [.int p1, .int 1, .int 99999]) (rest := []) ⟨hx, hb, hml, hown, hwd⟩ (c_X11_within l dC dI g c adK adV v F rc H.size p1 1 99999 hg hI ) (va_cwS 3 hwd (gT wk_239 wk_237 wk_238 wk_2) rfl rfl rfl (by decide +kernel) ⟨Nat.le_of_ble_eq_true rfl, Nat.le_of_ble_eq_true rfl⟩) ⟨PX.blind, fun U hU hW => ⟨rfl, PX.at hK hE hP hS hU hW⟩⟩ rfl rfl hl.1 rfl (lv_room (Nat.le_of_ble_eq_true rfl)) dX11_part_15 ⟨Nat.le_of_ble_eq_true rfl, Nat.le_of_ble_eq_true rfl⟩) hS (fun q _ h => (freeX hS) q h) (freeX hS) (fun r2200 u t H1 locs ht hvm hw hB hz1 hk1 hS => ?_)
    unfold BX at hB
    rw [ht] at hB
    have hP : va_P (dC, dI) classes (wX g c v F rc) H1 := hB
    have hw : (r2200.toInt = 1 ∧ (1 : Int32).toInt ≤ p1.toInt ∧ p1.toInt ≤ (99999 : Int32).toInt) ∨ (r2200.toInt = 0 ∧ (p1.toInt < (1 : Int32).toInt ∨ (99999 : Int32).toInt < p1.toInt)) := hw
    have k2201 : (1 : Int32).toInt = 1 := by decide
    have k2202 : (99999 : Int32).toInt = 99999 := by decide
    generalize H1 = H at hP hS ⊢
    have hw_r2200 := hw
    refine lv_if_ne (tgt := 23) hx hb dX11_part_18 (by decide) (fun c2203 => ?_) (fun c2203 => ?_)
    · skip
      have t2204 := cv_ne (a := r2200.toInt) rfl (b := 0) (by decide) c2203
      refine lv_iload_n hx hb dX11_part_23 rfl (lv_at hl 3 rfl) ?_
      refine va_calli (va_runS (As := [.int p2]) (rest := []) ⟨hx, hb, hml, hown, hwd⟩ (c_X11_isTold l dC dI g c adK adV v F rc H.size p2 hg hI ) (va_cwS 1 hwd (gT wk_235 wk_233 wk_234 wk_2) rfl rfl rfl (by decide +kernel) ⟨Nat.le_of_ble_eq_true rfl, Nat.le_of_ble_eq_true rfl⟩) ⟨PX.blind, fun U hU hW => ⟨rfl, PX.at hK hE hP hS hU hW⟩⟩ rfl rfl hl.1 rfl (lv_room (Nat.le_of_ble_eq_true rfl)) dX11_part_24 ⟨Nat.le_of_ble_eq_true rfl, Nat.le_of_ble_eq_true rfl⟩) hS (fun q _ h => (freeX hS) q h) (freeX hS) (fun r2205 u t H1 locs ht hvm hw hB hz1 hk1 hS => ?_)
      unfold BX at hB
      rw [ht] at hB
      have hP : va_P (dC, dI) classes (wX g c v F rc) H1 := hB
      have hw : (r2205.toInt = 1 ∧ 0 ≤ p2.toInt ∧ p2.toInt ≤ 99999) ∨ (r2205.toInt = 0 ∧ (p2.toInt < 0 ∨ 99999 < p2.toInt)) := hw
      generalize H1 = H at hP hS ⊢
      have hw_r2205 := hw
      refine lv_if_eq (tgt := 46) hx hb dX11_part_27 (by decide) (fun c2206 => ?_) (fun c2206 => ?_)
      · skip
        have t2207 := cv_eq (a := r2205.toInt) rfl (b := 0) (by decide) c2206
        refine lv_iconst (v := (-1)) hx hb dX11_part_46 (by decide) ?_
        have hP9 : va_P (dC, dI) classes (wX g c v F rc) H := hP
        exact W.iret (v := (-1)) hx hb hr (fun t ht hW => ⟨⟨(-1), (v, F, rc), rfl, ⟨hI, hal, rfl, (fun _ _ => rfl), trivial⟩, (by show va_P _ _ _ t.heap; rw [ht]; exact hP9)⟩, hS.F ht⟩) hS.2.2 dX11_part_47
      · skip
        have t2208 := cv_ne (a := r2205.toInt) rfl (b := 0) (by decide) c2206
        refine lv_iload hx hb dX11_part_30 (lv_at hl 4 rfl) ?_
        refine va_calli (va_runS (As := [.int p3]) (rest := []) ⟨hx, hb, hml, hown, hwd⟩ (c_X11_isTold l dC dI g c adK adV v F rc H.size p3 hg hI ) (va_cwS 1 hwd (gT wk_235 wk_233 wk_234 wk_2) rfl rfl rfl (by decide +kernel) ⟨Nat.le_of_ble_eq_true rfl, Nat.le_of_ble_eq_true rfl⟩) ⟨PX.blind, fun U hU hW => ⟨rfl, PX.at hK hE hP hS hU hW⟩⟩ rfl rfl hl.1 rfl (lv_room (Nat.le_of_ble_eq_true rfl)) dX11_part_32 ⟨Nat.le_of_ble_eq_true rfl, Nat.le_of_ble_eq_true rfl⟩) hS (fun q _ h => (freeX hS) q h) (freeX hS) (fun r2209 u t H1 locs ht hvm hw hB hz1 hk1 hS => ?_)
        unfold BX at hB
        rw [ht] at hB
        have hP : va_P (dC, dI) classes (wX g c v F rc) H1 := hB
        have hw : (r2209.toInt = 1 ∧ 0 ≤ p3.toInt ∧ p3.toInt ≤ 99999) ∨ (r2209.toInt = 0 ∧ (p3.toInt < 0 ∨ 99999 < p3.toInt)) := hw
        generalize H1 = H at hP hS ⊢
        have hw_r2209 := hw
        refine lv_if_eq (tgt := 46) hx hb dX11_part_35 (by decide) (fun c2210 => ?_) (fun c2210 => ?_)
        · skip
          have t2211 := cv_eq (a := r2209.toInt) rfl (b := 0) (by decide) c2210
          refine lv_iconst (v := (-1)) hx hb dX11_part_46 (by decide) ?_
          have hP9 : va_P (dC, dI) classes (wX g c v F rc) H := hP
          exact W.iret (v := (-1)) hx hb hr (fun t ht hW => ⟨⟨(-1), (v, F, rc), rfl, ⟨hI, hal, rfl, (fun _ _ => rfl), trivial⟩, (by show va_P _ _ _ t.heap; rw [ht]; exact hP9)⟩, hS.F ht⟩) hS.2.2 dX11_part_47
        · skip
          have t2212 := cv_ne (a := r2209.toInt) rfl (b := 0) (by decide) c2210
          refine lv_iload hx hb dX11_part_38 (lv_at hl 5 rfl) ?_
          refine va_calli (va_runS (As := [.int p4]) (rest := []) ⟨hx, hb, hml, hown, hwd⟩ (c_X11_isTold l dC dI g c adK adV v F rc H.size p4 hg hI ) (va_cwS 1 hwd (gT wk_235 wk_233 wk_234 wk_2) rfl rfl rfl (by decide +kernel) ⟨Nat.le_of_ble_eq_true rfl, Nat.le_of_ble_eq_true rfl⟩) ⟨PX.blind, fun U hU hW => ⟨rfl, PX.at hK hE hP hS hU hW⟩⟩ rfl rfl hl.1 rfl (lv_room (Nat.le_of_ble_eq_true rfl)) dX11_part_40 ⟨Nat.le_of_ble_eq_true rfl, Nat.le_of_ble_eq_true rfl⟩) hS (fun q _ h => (freeX hS) q h) (freeX hS) (fun r2213 u t H1 locs ht hvm hw hB hz1 hk1 hS => ?_)
          unfold BX at hB
          rw [ht] at hB
          have hP : va_P (dC, dI) classes (wX g c v F rc) H1 := hB
          have hw : (r2213.toInt = 1 ∧ 0 ≤ p4.toInt ∧ p4.toInt ≤ 99999) ∨ (r2213.toInt = 0 ∧ (p4.toInt < 0 ∨ 99999 < p4.toInt)) := hw
          generalize H1 = H at hP hS ⊢
          have hw_r2213 := hw
          refine lv_if_ne (tgt := 48) hx hb dX11_part_43 (by decide) (fun c2214 => ?_) (fun c2214 => ?_)
          · skip
            have t2215 := cv_ne (a := r2213.toInt) rfl (b := 0) (by decide) c2214
            refine lv_aload_n hx hb dX11_part_48 rfl (lv_at hl 0 rfl) ?_
            refine va_get (D := (dC, dI)) (ci := 11) (v := .ref (g 3)) (C := RX11) (T := TX11) (N := 14) hx hb hwd inA_X11 hown hK hP 0 rfl rfl 2 (by decide) (hwd _ wk_27) (fun _ h9 => h9) rfl dX11_part_49 ?_
            refine va_get (D := (dC, dI)) (ci := 7) (v := .int (v 61)) (C := RX7) (T := TX7) (N := 7) hx hb hwd inA_X7 hown hK hP 3 rfl rfl 1 (by decide) (hwd _ wk_561) (fun _ h9 => h9) rfl dX11_part_52 ?_
            have t2216 : 0 ≤ (v 61).toInt ∧ (v 61).toInt ≤ 100 := hI.1 61 _ _ rfl
            refine lv_bipush (v := 100) hx hb dX11_part_55 (by decide) ?_
            refine lv_icmp_ge (tgt := 71) hx hb dX11_part_57 (by decide) (fun c2217 => ?_) (fun c2217 => ?_)
            · skip
              have t2218 := cv_le (a := 100) (by decide) (b := (v 61).toInt) rfl c2217
              refine lv_bipush (v := (-3)) hx hb dX11_part_71 (by decide) ?_
              have hP9 : va_P (dC, dI) classes (wX g c v F rc) H := hP
              exact W.iret (v := (-3)) hx hb hr (fun t ht hW => ⟨⟨(-3), (v, F, rc), rfl, ⟨hI, hal, rfl, (fun _ _ => rfl), trivial⟩, (by show va_P _ _ _ t.heap; rw [ht]; exact hP9)⟩, hS.F ht⟩) hS.2.2 dX11_part_73
            · skip
              have t2219 := cv_nle (a := 100) (by decide) (b := (v 61).toInt) rfl c2217
              refine lv_aload_n hx hb dX11_part_60 rfl (lv_at hl 0 rfl) ?_
              refine va_get (D := (dC, dI)) (ci := 11) (v := .ref (g 4)) (C := RX11) (T := TX11) (N := 14) hx hb hwd inA_X11 hown hK hP 0 rfl rfl 3 (by decide) (hwd _ wk_23) (fun _ h9 => h9) rfl dX11_part_61 ?_
              refine lv_iconst (v := 1) hx hb dX11_part_64 (by decide) ?_
              refine va_calli (va_runV (As := [.int 1]) (rest := []) ⟨hx, hb, hml, hown, hwd⟩ (c_X9_hasRoom l dC dI g c adK adV v F rc H.size 1 hg hI ) (cwV 1 hwd (gV wk_565 wk_562 wk_563 wk_564 wk_22) rfl rfl rfl (by decide +kernel) ⟨Nat.le_of_ble_eq_true rfl, Nat.le_of_ble_eq_true rfl⟩) ⟨PX.blind, va_recv hK hP (ci := 9) (q0 := 4) rfl rfl, fun U hU hW => ⟨rfl, PX.at hK hE hP hS hU hW⟩⟩ rfl rfl hl.1 rfl (lv_room (Nat.le_of_ble_eq_true rfl)) dX11_part_65 ⟨Nat.le_of_ble_eq_true rfl, Nat.le_of_ble_eq_true rfl⟩) hS (fun q _ h => (freeX hS) q h) (freeX hS) (fun r2220 u t H1 locs ht hvm hw hB hz1 hk1 hS => ?_)
              unfold BX at hB
              rw [ht] at hB
              have hP : va_P (dC, dI) classes (wX g c v F rc) H1 := hB
              have hw : 0 ≤ r2220.toInt ∧ r2220.toInt ≤ 1 := hw
              have k2221 : (1 : Int32).toInt = 1 := by decide
              generalize H1 = H at hP hS ⊢
              have hw_r2220 := hw
              refine lv_if_ne (tgt := 74) hx hb dX11_part_68 (by decide) (fun c2222 => ?_) (fun c2222 => ?_)
              · skip
                have t2223 := cv_ne (a := r2220.toInt) rfl (b := 0) (by decide) c2222
                refine lv_aload_n hx hb dX11_part_74 rfl (lv_at hl 0 rfl) ?_
                refine va_get (D := (dC, dI)) (ci := 11) (v := .ref (g 3)) (C := RX11) (T := TX11) (N := 14) hx hb hwd inA_X11 hown hK hP 0 rfl rfl 2 (by decide) (hwd _ wk_27) (fun _ h9 => h9) rfl dX11_part_75 ?_
                refine lv_iload_n hx hb dX11_part_78 rfl (lv_at hl 1 rfl) ?_
                refine lv_iload_n hx hb dX11_part_79 rfl (lv_at hl 2 rfl) ?_
                refine va_calli (va_runV (As := [.int p0, .int p1]) (rest := []) ⟨hx, hb, hml, hown, hwd⟩ (c_X7_add l dC dI g c adK adV v F rc H.size p0 p1 hg hI (by omega) (by have h9 : v 61 = v 61 := rfl; rw [h9]; omega)) (cwV 2 hwd (gV wk_570 wk_567 wk_568 wk_569 wk_26) rfl rfl rfl (by decide +kernel) ⟨Nat.le_of_ble_eq_true rfl, Nat.le_of_ble_eq_true rfl⟩) ⟨PX.blind, va_recv hK hP (ci := 7) (q0 := 3) rfl rfl, fun U hU hW => ⟨rfl, PX.at hK hE hP hS hU hW⟩⟩ rfl rfl hl.1 rfl (lv_room (Nat.le_of_ble_eq_true rfl)) dX11_part_80 ⟨Nat.le_of_ble_eq_true rfl, Nat.le_of_ble_eq_true rfl⟩) hS (fun q _ h => (freeX hS) q h) (freeX hS) (fun r2224 u t H1 locs ht hvm hw hB hz1 hk1 hS => ?_)
                unfold BX at hB
                rw [ht] at hB
                obtain ⟨v2225, F2226, rc9⟩ := u
                obtain ⟨hI, hal9, hrc, hf2227, hw⟩ := hw
                dsimp only at hI hal9 hrc hB hf2227 hw
                rw [hrc] at hB
                have hal := hal9.trans hal
                have hP : va_P (dC, dI) classes (wX g c v2225 F2226 rc) H1 := hB
                have hw : 0 ≤ r2224.toInt ∧ r2224.toInt ≤ 99 := hw
                generalize H1 = H at hP hS ⊢
                have hw_r2224 := hw
                refine lv_istore (lv' := [(6, .int r2224), (0, .ref (g 0)), (1, .int p0), (2, .int p1), (3, .int p2), (4, .int p3), (5, .int p4)]) hx hb dX11_part_83 hl (by decide) rfl (fun ls hl => ?_)
                refine lv_aload_n hx hb dX11_part_85 rfl (lv_at hl 1 rfl) ?_
                refine va_get (D := (dC, dI)) (ci := 11) (v := .ref (g 3)) (C := RX11) (T := TX11) (N := 14) hx hb hwd inA_X11 hown hK hP 0 rfl rfl 2 (by decide) (hwd _ wk_27) (fun _ h9 => h9) rfl dX11_part_86 ?_
                refine lv_iload hx hb dX11_part_89 (lv_at hl 0 rfl) ?_
                refine lv_iload_n hx hb dX11_part_91 rfl (lv_at hl 4 rfl) ?_
                refine lv_iload hx hb dX11_part_92 (lv_at hl 5 rfl) ?_
                refine lv_iload hx hb dX11_part_94 (lv_at hl 6 rfl) ?_
                refine va_callv (va_runV (As := [.int r2224, .int p2, .int p3, .int p4]) (rest := []) ⟨hx, hb, hml, hown, hwd⟩ (c_X7_setUsed l dC dI g c adK adV v2225 F2226 rc H.size r2224 p2 p3 p4 hg hI (by omega)) (cwV 4 hwd (gV wk_575 wk_572 wk_573 wk_574 wk_26) rfl rfl rfl (by decide +kernel) ⟨Nat.le_of_ble_eq_true rfl, Nat.le_of_ble_eq_true rfl⟩) ⟨PX.blind, va_recv hK hP (ci := 7) (q0 := 3) rfl rfl, fun U hU hW => ⟨rfl, PX.at hK hE hP hS hU hW⟩⟩ rfl rfl hl.1 rfl (lv_room (Nat.le_of_ble_eq_true rfl)) dX11_part_96 ⟨Nat.le_of_ble_eq_true rfl, Nat.le_of_ble_eq_true rfl⟩) hS (fun q _ h => (freeX hS) q h) (freeX hS) (fun u t H1 locs ht hvm hw hB hz1 hk1 hS => ?_)
                unfold BX at hB
                rw [ht] at hB
                obtain ⟨v2229, F2230, rc9⟩ := u
                obtain ⟨hI, hal9, hrc, hf2231, hw⟩ := hw
                dsimp only at hI hal9 hrc hB hf2231 hw
                rw [hrc] at hB
                have hal := hal9.trans hal
                have hP : va_P (dC, dI) classes (wX g c v2229 F2230 rc) H1 := hB
                generalize H1 = H at hP hS ⊢
                refine lv_aload_n hx hb dX11_part_99 rfl (lv_at hl 1 rfl) ?_
                refine va_get (D := (dC, dI)) (ci := 11) (v := .ref (g 3)) (C := RX11) (T := TX11) (N := 14) hx hb hwd inA_X11 hown hK hP 0 rfl rfl 2 (by decide) (hwd _ wk_27) (fun _ h9 => h9) rfl dX11_part_100 ?_
                refine lv_iload hx hb dX11_part_103 (lv_at hl 0 rfl) ?_
                refine lv_bipush (v := 11) hx hb dX11_part_105 (by decide) ?_
                refine lv_aload_n hx hb dX11_part_107 rfl (lv_at hl 1 rfl) ?_
                refine va_get (D := (dC, dI)) (ci := 11) (v := .int (v2229 11)) (C := RX11) (T := TX11) (N := 14) hx hb hwd inA_X11 hown hK hP 0 rfl rfl 11 (by decide) (hwd _ wk_323) (fun _ h9 => h9) rfl dX11_part_108 ?_
                refine my_top (v := v 11) ((hf2231 11 (by decide)).trans (hf2227 11 (by decide))) ?_
                have t2232 : 0 ≤ (v 11).toInt ∧ (v 11).toInt ≤ 9999 := by have h9 := hI.1 11 _ _ rfl; rw [show v2229 11 = v 11 from (hf2231 11 (by decide)).trans (hf2227 11 (by decide))] at h9; exact h9
                refine va_callv (va_runV (As := [.int r2224, .int 11, .int (v 11)]) (rest := []) ⟨hx, hb, hml, hown, hwd⟩ (c_X7_begin l dC dI g c adK adV v2229 F2230 rc H.size r2224 11 (v 11) hg hI (by omega)) (cwV 3 hwd (gV wk_579 wk_576 wk_577 wk_578 wk_26) rfl rfl rfl (by decide +kernel) ⟨Nat.le_of_ble_eq_true rfl, Nat.le_of_ble_eq_true rfl⟩) ⟨PX.blind, va_recv hK hP (ci := 7) (q0 := 3) rfl rfl, fun U hU hW => ⟨rfl, PX.at hK hE hP hS hU hW⟩⟩ rfl rfl hl.1 rfl (lv_room (Nat.le_of_ble_eq_true rfl)) dX11_part_111 ⟨Nat.le_of_ble_eq_true rfl, Nat.le_of_ble_eq_true rfl⟩) hS (fun q _ h => (freeX hS) q h) (freeX hS) (fun u t H1 locs ht hvm hw hB hz1 hk1 hS => ?_)
                unfold BX at hB
                rw [ht] at hB
                obtain ⟨v2234, F2235, rc9⟩ := u
                obtain ⟨hI, hal9, hrc, hf2236, hw⟩ := hw
                dsimp only at hI hal9 hrc hB hf2236 hw
                rw [hrc] at hB
                have hal := hal9.trans hal
                have hP : va_P (dC, dI) classes (wX g c v2234 F2235 rc) H1 := hB
                generalize H1 = H at hP hS ⊢
                refine lv_iload hx hb dX11_part_114 (lv_at hl 0 rfl) ?_
                have hP9 : va_P (dC, dI) classes (wX g c v2234 F2235 rc) H := hP
                exact W.iret (v := r2224) hx hb hr (fun t ht hW => ⟨⟨r2224, (v2234, F2235, rc), rfl, ⟨hI, hal, rfl, (frC (by decide) hf2236 (frC (by decide) hf2231 (frC (by decide) hf2227 (fun _ _ => rfl)))), trivial⟩, (by show va_P _ _ _ t.heap; rw [ht]; exact hP9)⟩, hS.F ht⟩) hS.2.2 dX11_part_116
              · skip
                have t2237 := cv_eq (a := r2220.toInt) rfl (b := 0) (by decide) c2222
                refine lv_bipush (v := (-3)) hx hb dX11_part_71 (by decide) ?_
                have hP9 : va_P (dC, dI) classes (wX g c v F rc) H := hP
                exact W.iret (v := (-3)) hx hb hr (fun t ht hW => ⟨⟨(-3), (v, F, rc), rfl, ⟨hI, hal, rfl, (fun _ _ => rfl), trivial⟩, (by show va_P _ _ _ t.heap; rw [ht]; exact hP9)⟩, hS.F ht⟩) hS.2.2 dX11_part_73
          · skip
            have t2238 := cv_eq (a := r2213.toInt) rfl (b := 0) (by decide) c2214
            refine lv_iconst (v := (-1)) hx hb dX11_part_46 (by decide) ?_
            have hP9 : va_P (dC, dI) classes (wX g c v F rc) H := hP
            exact W.iret (v := (-1)) hx hb hr (fun t ht hW => ⟨⟨(-1), (v, F, rc), rfl, ⟨hI, hal, rfl, (fun _ _ => rfl), trivial⟩, (by show va_P _ _ _ t.heap; rw [ht]; exact hP9)⟩, hS.F ht⟩) hS.2.2 dX11_part_47
    · skip
      have t2239 := cv_eq (a := r2200.toInt) rfl (b := 0) (by decide) c2203
      refine lv_iconst (v := (-1)) hx hb dX11_part_21 (by decide) ?_
      have hP9 : va_P (dC, dI) classes (wX g c v F rc) H := hP
      exact W.iret (v := (-1)) hx hb hr (fun t ht hW => ⟨⟨(-1), (v, F, rc), rfl, ⟨hI, hal, rfl, (fun _ _ => rfl), trivial⟩, (by show va_P _ _ _ t.heap; rw [ht]; exact hP9)⟩, hS.F ht⟩) hS.2.2 dX11_part_22
set_option maxHeartbeats 8000000 in
set_option maxRecDepth 100000 in
theorem c_X11_move (l : Launch) (dC : Nat → ClassId) (dI : Nat → Nat → Nat) (g : Nat → Nat) (c : Nat → ClassId) (adK adV : Nat → Nat) (v : Nat → Int32) (F : Nat → Nat → Int32) (rc sz : Nat) (p0 : Int32) (p1 : Int32) (hg : injX g) (hI : IX v F) : Met l yX11_move (Cond.code yX11_move cX11_move 3 (some .int) :: wA) ({ frames := 5, cells := 0, slots := 0, locals := 200 }) (va_Pc [.ref (g 0), .int p0, .int p1] (PX dC dI g c adK adV v F rc sz)) (va_Qi (fun (r : Int32) (u : StX) => IX u.1 u.2.1 ∧ alX u.1 u.2.1 = alX v F ∧ u.2.2 = rc ∧ (∀ k, k ∉ ([80] : List Nat) → u.1 k = v k) ∧ True) (BX dC dI g c) (AX g sz)) 0 0 (AX g sz) := by
  refine Met.ofW (cc := cX11_move) (maxL := 3) (ret := (some .int)) (by decide) rfl ?_
  intro p e s m args below meth c0 s₁ B hml hv
  obtain ⟨rfl, hsz, hP, hK, hE⟩ := hv
  have hx := B.exec
  have hb := B.bytes
  have hr := B.returns
  have hts := atoms_spec (ws := Cond.code yX11_move cX11_move 3 (some .int) :: wA) B.pre
  have hwd : ∀ w ∈ wA, w.before _ s = true := fun w h => hts w (List.mem_cons_of_mem _ h)
  have hown : s.vm.findClass RX11 = some m.cls := findClass_of_methodNamed B.named
  have hlocks := B.notSynchronized
  subst hsz
  have hl := lv_entry ([.ref (g 0), .int p0, .int p1]) (n := 3) (Nat.le_of_ble_eq_true rfl)
  rw [lg_entry_eq]
  generalize (lg_sl ([.ref (g 0), .int p0, .int p1]) ++ List.replicate (3 - (lg_sl ([.ref (g 0), .int p0, .int p1])).length) Slot.unset).toArray = ls at hl ⊢
  have hl : lv_has ls 3 [(0, .ref (g 0)), (1, .int p0), (2, .int p1)] := hl
  obtain ⟨H, eH⟩ : ∃ z, z = s.heap := ⟨_, rfl⟩
  have hP : va_P (dC, dI) classes (wX g c v F rc) H := by rw [eH]; exact hP
  have hS : va_S (AX g s.heap.size) s.heap H [] := by rw [eH]; exact va_S.rf
  refine my_heap eH ?_
  have hal : alX v F = alX v F := rfl
  have rp0 := i32_rng p0
  have rp1 := i32_rng p1
  refine lv_aload_n hx hb dX11_move_0 rfl (lv_at hl 0 rfl) ?_
  refine va_get (D := (dC, dI)) (ci := 11) (v := .ref (g 3)) (C := RX11) (T := TX11) (N := 14) hx hb hwd inA_X11 hown hK hP 0 rfl rfl 2 (by decide) (hwd _ wk_27) (fun _ h9 => h9) rfl dX11_move_1 ?_
  refine lv_iload_n hx hb dX11_move_4 rfl (lv_at hl 1 rfl) ?_
  refine va_calli (va_runV (As := [.int p0]) (rest := []) ⟨hx, hb, hml, hown, hwd⟩ (c_X7_has l dC dI g c adK adV v F rc H.size p0 hg hI ) (cwV 1 hwd (gV wk_605 wk_602 wk_603 wk_604 wk_26) rfl rfl rfl (by decide +kernel) ⟨Nat.le_of_ble_eq_true rfl, Nat.le_of_ble_eq_true rfl⟩) ⟨PX.blind, va_recv hK hP (ci := 7) (q0 := 3) rfl rfl, fun U hU hW => ⟨rfl, PX.at hK hE hP hS hU hW⟩⟩ rfl rfl hl.1 rfl (lv_room (Nat.le_of_ble_eq_true rfl)) dX11_move_5 ⟨Nat.le_of_ble_eq_true rfl, Nat.le_of_ble_eq_true rfl⟩) hS (fun q _ h => (freeX hS) q h) (freeX hS) (fun r2240 u t H1 locs ht hvm hw hB hz1 hk1 hS => ?_)
  unfold BX at hB
  rw [ht] at hB
  have hP : va_P (dC, dI) classes (wX g c v F rc) H1 := hB
  have hw : (0 ≤ r2240.toInt ∧ r2240.toInt ≤ 1) ∧ (r2240.toInt = 1 → 0 ≤ p0.toInt ∧ p0.toInt < 100) := hw
  generalize H1 = H at hP hS ⊢
  have hw_r2240 := hw
  refine lv_if_eq (tgt := 19) hx hb dX11_move_8 (by decide) (fun c2241 => ?_) (fun c2241 => ?_)
  · skip
    have t2242 := cv_eq (a := r2240.toInt) rfl (b := 0) (by decide) c2241
    refine lv_iconst (v := (-1)) hx hb dX11_move_19 (by decide) ?_
    have hP9 : va_P (dC, dI) classes (wX g c v F rc) H := hP
    exact W.iret (v := (-1)) hx hb hr (fun t ht hW => ⟨⟨(-1), (v, F, rc), rfl, ⟨hI, hal, rfl, (fun _ _ => rfl), trivial⟩, (by show va_P _ _ _ t.heap; rw [ht]; exact hP9)⟩, hS.F ht⟩) hS.2.2 dX11_move_20
  · skip
    have t2243 := cv_ne (a := r2240.toInt) rfl (b := 0) (by decide) c2241
    refine lv_aload_n hx hb dX11_move_11 rfl (lv_at hl 0 rfl) ?_
    refine lv_iload_n hx hb dX11_move_12 rfl (lv_at hl 2 rfl) ?_
    refine va_calli (va_runV (As := [.int p1]) (rest := []) ⟨hx, hb, hml, hown, hwd⟩ (c_X11_isPlace l dC dI g c adK adV v F rc H.size p1 hg hI ) (cwV 1 hwd (gV wk_609 wk_606 wk_607 wk_608 wk_2) rfl rfl rfl (by decide +kernel) ⟨Nat.le_of_ble_eq_true rfl, Nat.le_of_ble_eq_true rfl⟩) ⟨PX.blind, va_recv hK hP (ci := 11) (q0 := 0) rfl rfl, fun U hU hW => ⟨rfl, PX.at hK hE hP hS hU hW⟩⟩ rfl rfl hl.1 rfl (lv_room (Nat.le_of_ble_eq_true rfl)) dX11_move_13 ⟨Nat.le_of_ble_eq_true rfl, Nat.le_of_ble_eq_true rfl⟩) hS (fun q _ h => (freeX hS) q h) (freeX hS) (fun r2244 u t H1 locs ht hvm hw hB hz1 hk1 hS => ?_)
    unfold BX at hB
    rw [ht] at hB
    have hP : va_P (dC, dI) classes (wX g c v F rc) H1 := hB
    have hw : 0 ≤ r2244.toInt ∧ r2244.toInt ≤ 1 := hw
    generalize H1 = H at hP hS ⊢
    have hw_r2244 := hw
    refine lv_if_ne (tgt := 21) hx hb dX11_move_16 (by decide) (fun c2245 => ?_) (fun c2245 => ?_)
    · skip
      have t2246 := cv_ne (a := r2244.toInt) rfl (b := 0) (by decide) c2245
      refine lv_aload_n hx hb dX11_move_21 rfl (lv_at hl 0 rfl) ?_
      refine va_get (D := (dC, dI)) (ci := 11) (v := .ref (g 3)) (C := RX11) (T := TX11) (N := 14) hx hb hwd inA_X11 hown hK hP 0 rfl rfl 2 (by decide) (hwd _ wk_27) (fun _ h9 => h9) rfl dX11_move_22 ?_
      refine va_get (D := (dC, dI)) (ci := 7) (v := .ref (g 26)) (C := RX7) (T := TX7) (N := 7) hx hb hwd inA_X7 hown hK hP 3 rfl rfl 4 (by decide) (hwd _ wk_600) (fun _ h9 => h9) rfl dX11_move_25 ?_
      refine lv_iload_n hx hb dX11_move_28 rfl (lv_at hl 1 rfl) ?_
      refine va_iald hx hb hK hP 26 14 rfl rfl (i := p0) (vin (a := p0.toInt) rfl (by omega)) dX11_move_29 ?_
      refine lv_topi (fun z2247 e2248 => ?_)
      refine lv_iload_n hx hb dX11_move_30 rfl (lv_at hl 2 rfl) ?_
      refine lv_icmp_eq (tgt := 65) hx hb dX11_move_31 (by decide) (fun c2249 => ?_) (fun c2249 => ?_)
      · skip
        have t2250 := cv_eq (a := z2247.toInt) rfl (b := p1.toInt) rfl c2249
        refine lv_bipush (v := (-2)) hx hb dX11_move_65 (by decide) ?_
        have hP9 : va_P (dC, dI) classes (wX g c v F rc) H := hP
        exact W.iret (v := (-2)) hx hb hr (fun t ht hW => ⟨⟨(-2), (v, F, rc), rfl, ⟨hI, hal, rfl, (fun _ _ => rfl), trivial⟩, (by show va_P _ _ _ t.heap; rw [ht]; exact hP9)⟩, hS.F ht⟩) hS.2.2 dX11_move_67
      · skip
        have t2251 := cv_ne (a := z2247.toInt) rfl (b := p1.toInt) rfl c2249
        refine lv_aload_n hx hb dX11_move_34 rfl (lv_at hl 0 rfl) ?_
        refine va_get (D := (dC, dI)) (ci := 11) (v := .ref (g 3)) (C := RX11) (T := TX11) (N := 14) hx hb hwd inA_X11 hown hK hP 0 rfl rfl 2 (by decide) (hwd _ wk_27) (fun _ h9 => h9) rfl dX11_move_35 ?_
        refine va_get (D := (dC, dI)) (ci := 7) (v := .ref (g 26)) (C := RX7) (T := TX7) (N := 7) hx hb hwd inA_X7 hown hK hP 3 rfl rfl 4 (by decide) (hwd _ wk_600) (fun _ h9 => h9) rfl dX11_move_38 ?_
        refine lv_iload_n hx hb dX11_move_41 rfl (lv_at hl 1 rfl) ?_
        refine va_iald hx hb hK hP 26 14 rfl rfl (i := p0) (vin (a := p0.toInt) rfl (by omega)) dX11_move_42 ?_
        refine lv_topi (fun z2252 e2253 => ?_)
        refine lv_bipush (v := 12) hx hb dX11_move_43 (by decide) ?_
        refine lv_icmp_eq (tgt := 65) hx hb dX11_move_45 (by decide) (fun c2254 => ?_) (fun c2254 => ?_)
        · skip
          have t2255 := cv_eq (a := z2252.toInt) rfl (b := 12) (by decide) c2254
          refine lv_bipush (v := (-2)) hx hb dX11_move_65 (by decide) ?_
          have hP9 : va_P (dC, dI) classes (wX g c v F rc) H := hP
          exact W.iret (v := (-2)) hx hb hr (fun t ht hW => ⟨⟨(-2), (v, F, rc), rfl, ⟨hI, hal, rfl, (fun _ _ => rfl), trivial⟩, (by show va_P _ _ _ t.heap; rw [ht]; exact hP9)⟩, hS.F ht⟩) hS.2.2 dX11_move_67
        · skip
          have t2256 := cv_ne (a := z2252.toInt) rfl (b := 12) (by decide) c2254
          refine lv_aload_n hx hb dX11_move_48 rfl (lv_at hl 0 rfl) ?_
          refine lv_iload_n hx hb dX11_move_49 rfl (lv_at hl 2 rfl) ?_
          refine lv_aload_n hx hb dX11_move_50 rfl (lv_at hl 0 rfl) ?_
          refine va_get (D := (dC, dI)) (ci := 11) (v := .ref (g 3)) (C := RX11) (T := TX11) (N := 14) hx hb hwd inA_X11 hown hK hP 0 rfl rfl 2 (by decide) (hwd _ wk_27) (fun _ h9 => h9) rfl dX11_move_51 ?_
          refine va_get (D := (dC, dI)) (ci := 7) (v := .ref (g 24)) (C := RX7) (T := TX7) (N := 7) hx hb hwd inA_X7 hown hK hP 3 rfl rfl 2 (by decide) (hwd _ wk_601) (fun _ h9 => h9) rfl dX11_move_54 ?_
          refine lv_iload_n hx hb dX11_move_57 rfl (lv_at hl 1 rfl) ?_
          refine va_iald hx hb hK hP 24 12 rfl rfl (i := p0) (vin (a := p0.toInt) rfl (by omega)) dX11_move_58 ?_
          refine lv_topi (fun z2257 e2258 => ?_)
          have t2259 : 0 ≤ z2257.toInt ∧ z2257.toInt ≤ 9 := by rw [e2258]; exact hI.2 24 _ _ rfl _
          refine va_calli (va_runV (As := [.int p1, .int z2257]) (rest := []) ⟨hx, hb, hml, hown, hwd⟩ (c_X11_takes l dC dI g c adK adV v F rc H.size p1 z2257 hg hI (by omega)) (cwV 2 hwd (gV wk_613 wk_610 wk_611 wk_612 wk_2) rfl rfl rfl (by decide +kernel) ⟨Nat.le_of_ble_eq_true rfl, Nat.le_of_ble_eq_true rfl⟩) ⟨PX.blind, va_recv hK hP (ci := 11) (q0 := 0) rfl rfl, fun U hU hW => ⟨rfl, PX.at hK hE hP hS hU hW⟩⟩ rfl rfl hl.1 rfl (lv_room (Nat.le_of_ble_eq_true rfl)) dX11_move_59 ⟨Nat.le_of_ble_eq_true rfl, Nat.le_of_ble_eq_true rfl⟩) hS (fun q _ h => (freeX hS) q h) (freeX hS) (fun r2260 u t H1 locs ht hvm hw hB hz1 hk1 hS => ?_)
          unfold BX at hB
          rw [ht] at hB
          have hP : va_P (dC, dI) classes (wX g c v F rc) H1 := hB
          have hw : 0 ≤ r2260.toInt ∧ r2260.toInt ≤ 1 := hw
          generalize H1 = H at hP hS ⊢
          have hw_r2260 := hw
          refine lv_if_ne (tgt := 68) hx hb dX11_move_62 (by decide) (fun c2261 => ?_) (fun c2261 => ?_)
          · skip
            have t2262 := cv_ne (a := r2260.toInt) rfl (b := 0) (by decide) c2261
            refine lv_aload_n hx hb dX11_move_68 rfl (lv_at hl 0 rfl) ?_
            refine va_get (D := (dC, dI)) (ci := 11) (v := .ref (g 4)) (C := RX11) (T := TX11) (N := 14) hx hb hwd inA_X11 hown hK hP 0 rfl rfl 3 (by decide) (hwd _ wk_23) (fun _ h9 => h9) rfl dX11_move_69 ?_
            refine lv_iconst (v := 1) hx hb dX11_move_72 (by decide) ?_
            refine va_calli (va_runV (As := [.int 1]) (rest := []) ⟨hx, hb, hml, hown, hwd⟩ (c_X9_hasRoom l dC dI g c adK adV v F rc H.size 1 hg hI ) (cwV 1 hwd (gV wk_565 wk_562 wk_563 wk_564 wk_22) rfl rfl rfl (by decide +kernel) ⟨Nat.le_of_ble_eq_true rfl, Nat.le_of_ble_eq_true rfl⟩) ⟨PX.blind, va_recv hK hP (ci := 9) (q0 := 4) rfl rfl, fun U hU hW => ⟨rfl, PX.at hK hE hP hS hU hW⟩⟩ rfl rfl hl.1 rfl (lv_room (Nat.le_of_ble_eq_true rfl)) dX11_move_73 ⟨Nat.le_of_ble_eq_true rfl, Nat.le_of_ble_eq_true rfl⟩) hS (fun q _ h => (freeX hS) q h) (freeX hS) (fun r2263 u t H1 locs ht hvm hw hB hz1 hk1 hS => ?_)
            unfold BX at hB
            rw [ht] at hB
            have hP : va_P (dC, dI) classes (wX g c v F rc) H1 := hB
            have hw : 0 ≤ r2263.toInt ∧ r2263.toInt ≤ 1 := hw
            have k2264 : (1 : Int32).toInt = 1 := by decide
            generalize H1 = H at hP hS ⊢
            have hw_r2263 := hw
            refine lv_if_ne (tgt := 82) hx hb dX11_move_76 (by decide) (fun c2265 => ?_) (fun c2265 => ?_)
            · skip
              have t2266 := cv_ne (a := r2263.toInt) rfl (b := 0) (by decide) c2265
              refine lv_aload_n hx hb dX11_move_82 rfl (lv_at hl 0 rfl) ?_
              refine va_get (D := (dC, dI)) (ci := 11) (v := .ref (g 3)) (C := RX11) (T := TX11) (N := 14) hx hb hwd inA_X11 hown hK hP 0 rfl rfl 2 (by decide) (hwd _ wk_27) (fun _ h9 => h9) rfl dX11_move_83 ?_
              refine lv_iload_n hx hb dX11_move_86 rfl (lv_at hl 1 rfl) ?_
              refine lv_iload_n hx hb dX11_move_87 rfl (lv_at hl 2 rfl) ?_
              refine lv_aload_n hx hb dX11_move_88 rfl (lv_at hl 0 rfl) ?_
              refine va_get (D := (dC, dI)) (ci := 11) (v := .int (v 11)) (C := RX11) (T := TX11) (N := 14) hx hb hwd inA_X11 hown hK hP 0 rfl rfl 11 (by decide) (hwd _ wk_323) (fun _ h9 => h9) rfl dX11_move_89 ?_
              have t2267 : 0 ≤ (v 11).toInt ∧ (v 11).toInt ≤ 9999 := hI.1 11 _ _ rfl
              refine va_callv (va_runV (As := [.int p0, .int p1, .int (v 11)]) (rest := []) ⟨hx, hb, hml, hown, hwd⟩ (c_X7_go l dC dI g c adK adV v F rc H.size p0 p1 (v 11) hg hI (by omega)) (cwV 3 hwd (gV wk_618 wk_615 wk_616 wk_617 wk_26) rfl rfl rfl (by decide +kernel) ⟨Nat.le_of_ble_eq_true rfl, Nat.le_of_ble_eq_true rfl⟩) ⟨PX.blind, va_recv hK hP (ci := 7) (q0 := 3) rfl rfl, fun U hU hW => ⟨rfl, PX.at hK hE hP hS hU hW⟩⟩ rfl rfl hl.1 rfl (lv_room (Nat.le_of_ble_eq_true rfl)) dX11_move_92 ⟨Nat.le_of_ble_eq_true rfl, Nat.le_of_ble_eq_true rfl⟩) hS (fun q _ h => (freeX hS) q h) (freeX hS) (fun u t H1 locs ht hvm hw hB hz1 hk1 hS => ?_)
              unfold BX at hB
              rw [ht] at hB
              obtain ⟨v2269, F2270, rc9⟩ := u
              obtain ⟨hI, hal9, hrc, hf2271, hw⟩ := hw
              dsimp only at hI hal9 hrc hB hf2271 hw
              rw [hrc] at hB
              have hal := hal9.trans hal
              have hP : va_P (dC, dI) classes (wX g c v2269 F2270 rc) H1 := hB
              generalize H1 = H at hP hS ⊢
              refine lv_iconst (v := 1) hx hb dX11_move_95 (by decide) ?_
              have hP9 : va_P (dC, dI) classes (wX g c v2269 F2270 rc) H := hP
              exact W.iret (v := 1) hx hb hr (fun t ht hW => ⟨⟨1, (v2269, F2270, rc), rfl, ⟨hI, hal, rfl, (frC (by decide) hf2271 (fun _ _ => rfl)), trivial⟩, (by show va_P _ _ _ t.heap; rw [ht]; exact hP9)⟩, hS.F ht⟩) hS.2.2 dX11_move_96
            · skip
              have t2272 := cv_eq (a := r2263.toInt) rfl (b := 0) (by decide) c2265
              refine lv_bipush (v := (-3)) hx hb dX11_move_79 (by decide) ?_
              have hP9 : va_P (dC, dI) classes (wX g c v F rc) H := hP
              exact W.iret (v := (-3)) hx hb hr (fun t ht hW => ⟨⟨(-3), (v, F, rc), rfl, ⟨hI, hal, rfl, (fun _ _ => rfl), trivial⟩, (by show va_P _ _ _ t.heap; rw [ht]; exact hP9)⟩, hS.F ht⟩) hS.2.2 dX11_move_81
          · skip
            have t2273 := cv_eq (a := r2260.toInt) rfl (b := 0) (by decide) c2261
            refine lv_bipush (v := (-2)) hx hb dX11_move_65 (by decide) ?_
            have hP9 : va_P (dC, dI) classes (wX g c v F rc) H := hP
            exact W.iret (v := (-2)) hx hb hr (fun t ht hW => ⟨⟨(-2), (v, F, rc), rfl, ⟨hI, hal, rfl, (fun _ _ => rfl), trivial⟩, (by show va_P _ _ _ t.heap; rw [ht]; exact hP9)⟩, hS.F ht⟩) hS.2.2 dX11_move_67
    · skip
      have t2274 := cv_eq (a := r2244.toInt) rfl (b := 0) (by decide) c2245
      refine lv_iconst (v := (-1)) hx hb dX11_move_19 (by decide) ?_
      have hP9 : va_P (dC, dI) classes (wX g c v F rc) H := hP
      exact W.iret (v := (-1)) hx hb hr (fun t ht hW => ⟨⟨(-1), (v, F, rc), rfl, ⟨hI, hal, rfl, (fun _ _ => rfl), trivial⟩, (by show va_P _ _ _ t.heap; rw [ht]; exact hP9)⟩, hS.F ht⟩) hS.2.2 dX11_move_20
set_option maxHeartbeats 8000000 in
set_option maxRecDepth 100000 in
theorem c_X11_swap (l : Launch) (dC : Nat → ClassId) (dI : Nat → Nat → Nat) (g : Nat → Nat) (c : Nat → ClassId) (adK adV : Nat → Nat) (v : Nat → Int32) (F : Nat → Nat → Int32) (rc sz : Nat) (p0 : Int32) (p1 : Int32) (hg : injX g) (hI : IX v F) : Met l yX11_swap (Cond.code yX11_swap cX11_swap 4 (some .int) :: wA) ({ frames := 5, cells := 0, slots := 0, locals := 200 }) (va_Pc [.ref (g 0), .int p0, .int p1] (PX dC dI g c adK adV v F rc sz)) (va_Qi (fun (r : Int32) (u : StX) => IX u.1 u.2.1 ∧ alX u.1 u.2.1 = alX v F ∧ u.2.2 = rc ∧ (∀ k, k ∉ ([80] : List Nat) → u.1 k = v k) ∧ True) (BX dC dI g c) (AX g sz)) 0 0 (AX g sz) := by
  refine Met.ofW (cc := cX11_swap) (maxL := 4) (ret := (some .int)) (by decide) rfl ?_
  intro p e s m args below meth c0 s₁ B hml hv
  obtain ⟨rfl, hsz, hP, hK, hE⟩ := hv
  have hx := B.exec
  have hb := B.bytes
  have hr := B.returns
  have hts := atoms_spec (ws := Cond.code yX11_swap cX11_swap 4 (some .int) :: wA) B.pre
  have hwd : ∀ w ∈ wA, w.before _ s = true := fun w h => hts w (List.mem_cons_of_mem _ h)
  have hown : s.vm.findClass RX11 = some m.cls := findClass_of_methodNamed B.named
  have hlocks := B.notSynchronized
  subst hsz
  have hl := lv_entry ([.ref (g 0), .int p0, .int p1]) (n := 4) (Nat.le_of_ble_eq_true rfl)
  rw [lg_entry_eq]
  generalize (lg_sl ([.ref (g 0), .int p0, .int p1]) ++ List.replicate (4 - (lg_sl ([.ref (g 0), .int p0, .int p1])).length) Slot.unset).toArray = ls at hl ⊢
  have hl : lv_has ls 4 [(0, .ref (g 0)), (1, .int p0), (2, .int p1)] := hl
  obtain ⟨H, eH⟩ : ∃ z, z = s.heap := ⟨_, rfl⟩
  have hP : va_P (dC, dI) classes (wX g c v F rc) H := by rw [eH]; exact hP
  have hS : va_S (AX g s.heap.size) s.heap H [] := by rw [eH]; exact va_S.rf
  refine my_heap eH ?_
  have hal : alX v F = alX v F := rfl
  have rp0 := i32_rng p0
  have rp1 := i32_rng p1
  refine lv_aload_n hx hb dX11_swap_0 rfl (lv_at hl 0 rfl) ?_
  refine va_get (D := (dC, dI)) (ci := 11) (v := .ref (g 3)) (C := RX11) (T := TX11) (N := 14) hx hb hwd inA_X11 hown hK hP 0 rfl rfl 2 (by decide) (hwd _ wk_27) (fun _ h9 => h9) rfl dX11_swap_1 ?_
  refine lv_iload_n hx hb dX11_swap_4 rfl (lv_at hl 1 rfl) ?_
  refine va_calli (va_runV (As := [.int p0]) (rest := []) ⟨hx, hb, hml, hown, hwd⟩ (c_X7_has l dC dI g c adK adV v F rc H.size p0 hg hI ) (cwV 1 hwd (gV wk_605 wk_602 wk_603 wk_604 wk_26) rfl rfl rfl (by decide +kernel) ⟨Nat.le_of_ble_eq_true rfl, Nat.le_of_ble_eq_true rfl⟩) ⟨PX.blind, va_recv hK hP (ci := 7) (q0 := 3) rfl rfl, fun U hU hW => ⟨rfl, PX.at hK hE hP hS hU hW⟩⟩ rfl rfl hl.1 rfl (lv_room (Nat.le_of_ble_eq_true rfl)) dX11_swap_5 ⟨Nat.le_of_ble_eq_true rfl, Nat.le_of_ble_eq_true rfl⟩) hS (fun q _ h => (freeX hS) q h) (freeX hS) (fun r2275 u t H1 locs ht hvm hw hB hz1 hk1 hS => ?_)
  unfold BX at hB
  rw [ht] at hB
  have hP : va_P (dC, dI) classes (wX g c v F rc) H1 := hB
  have hw : (0 ≤ r2275.toInt ∧ r2275.toInt ≤ 1) ∧ (r2275.toInt = 1 → 0 ≤ p0.toInt ∧ p0.toInt < 100) := hw
  generalize H1 = H at hP hS ⊢
  have hw_r2275 := hw
  refine lv_if_eq (tgt := 22) hx hb dX11_swap_8 (by decide) (fun c2276 => ?_) (fun c2276 => ?_)
  · skip
    have t2277 := cv_eq (a := r2275.toInt) rfl (b := 0) (by decide) c2276
    refine lv_iconst (v := (-1)) hx hb dX11_swap_22 (by decide) ?_
    have hP9 : va_P (dC, dI) classes (wX g c v F rc) H := hP
    exact W.iret (v := (-1)) hx hb hr (fun t ht hW => ⟨⟨(-1), (v, F, rc), rfl, ⟨hI, hal, rfl, (fun _ _ => rfl), trivial⟩, (by show va_P _ _ _ t.heap; rw [ht]; exact hP9)⟩, hS.F ht⟩) hS.2.2 dX11_swap_23
  · skip
    have t2278 := cv_ne (a := r2275.toInt) rfl (b := 0) (by decide) c2276
    refine lv_aload_n hx hb dX11_swap_11 rfl (lv_at hl 0 rfl) ?_
    refine va_get (D := (dC, dI)) (ci := 11) (v := .ref (g 3)) (C := RX11) (T := TX11) (N := 14) hx hb hwd inA_X11 hown hK hP 0 rfl rfl 2 (by decide) (hwd _ wk_27) (fun _ h9 => h9) rfl dX11_swap_12 ?_
    refine lv_iload_n hx hb dX11_swap_15 rfl (lv_at hl 2 rfl) ?_
    refine va_calli (va_runV (As := [.int p1]) (rest := []) ⟨hx, hb, hml, hown, hwd⟩ (c_X7_has l dC dI g c adK adV v F rc H.size p1 hg hI ) (cwV 1 hwd (gV wk_605 wk_602 wk_603 wk_604 wk_26) rfl rfl rfl (by decide +kernel) ⟨Nat.le_of_ble_eq_true rfl, Nat.le_of_ble_eq_true rfl⟩) ⟨PX.blind, va_recv hK hP (ci := 7) (q0 := 3) rfl rfl, fun U hU hW => ⟨rfl, PX.at hK hE hP hS hU hW⟩⟩ rfl rfl hl.1 rfl (lv_room (Nat.le_of_ble_eq_true rfl)) dX11_swap_16 ⟨Nat.le_of_ble_eq_true rfl, Nat.le_of_ble_eq_true rfl⟩) hS (fun q _ h => (freeX hS) q h) (freeX hS) (fun r2279 u t H1 locs ht hvm hw hB hz1 hk1 hS => ?_)
    unfold BX at hB
    rw [ht] at hB
    have hP : va_P (dC, dI) classes (wX g c v F rc) H1 := hB
    have hw : (0 ≤ r2279.toInt ∧ r2279.toInt ≤ 1) ∧ (r2279.toInt = 1 → 0 ≤ p1.toInt ∧ p1.toInt < 100) := hw
    generalize H1 = H at hP hS ⊢
    have hw_r2279 := hw
    refine lv_if_ne (tgt := 24) hx hb dX11_swap_19 (by decide) (fun c2280 => ?_) (fun c2280 => ?_)
    · skip
      have t2281 := cv_ne (a := r2279.toInt) rfl (b := 0) (by decide) c2280
      refine lv_aload_n hx hb dX11_swap_24 rfl (lv_at hl 0 rfl) ?_
      refine va_get (D := (dC, dI)) (ci := 11) (v := .ref (g 3)) (C := RX11) (T := TX11) (N := 14) hx hb hwd inA_X11 hown hK hP 0 rfl rfl 2 (by decide) (hwd _ wk_27) (fun _ h9 => h9) rfl dX11_swap_25 ?_
      refine va_get (D := (dC, dI)) (ci := 7) (v := .ref (g 26)) (C := RX7) (T := TX7) (N := 7) hx hb hwd inA_X7 hown hK hP 3 rfl rfl 4 (by decide) (hwd _ wk_600) (fun _ h9 => h9) rfl dX11_swap_28 ?_
      refine lv_iload_n hx hb dX11_swap_31 rfl (lv_at hl 1 rfl) ?_
      refine va_iald hx hb hK hP 26 14 rfl rfl (i := p0) (vin (a := p0.toInt) rfl (by omega)) dX11_swap_32 ?_
      refine lv_topi (fun z2282 e2283 => ?_)
      refine lv_istore_n (lv' := [(3, .int z2282), (0, .ref (g 0)), (1, .int p0), (2, .int p1)]) hx hb dX11_swap_33 rfl hl (by decide) rfl (fun ls hl => ?_)
      refine lv_aload_n hx hb dX11_swap_34 rfl (lv_at hl 1 rfl) ?_
      refine va_get (D := (dC, dI)) (ci := 11) (v := .ref (g 2)) (C := RX11) (T := TX11) (N := 14) hx hb hwd inA_X11 hown hK hP 0 rfl rfl 1 (by decide) (hwd _ wk_19) (fun _ h9 => h9) rfl dX11_swap_35 ?_
      refine lv_iload_n hx hb dX11_swap_38 rfl (lv_at hl 0 rfl) ?_
      refine va_calli (va_runV (As := [.int z2282]) (rest := []) ⟨hx, hb, hml, hown, hwd⟩ (c_X8_has l dC dI g c adK adV v F rc H.size z2282 hg hI ) (cwV 1 hwd (gV wk_276 wk_273 wk_274 wk_275 wk_18) rfl rfl rfl (by decide +kernel) ⟨Nat.le_of_ble_eq_true rfl, Nat.le_of_ble_eq_true rfl⟩) ⟨PX.blind, va_recv hK hP (ci := 8) (q0 := 2) rfl rfl, fun U hU hW => ⟨rfl, PX.at hK hE hP hS hU hW⟩⟩ rfl rfl hl.1 rfl (lv_room (Nat.le_of_ble_eq_true rfl)) dX11_swap_39 ⟨Nat.le_of_ble_eq_true rfl, Nat.le_of_ble_eq_true rfl⟩) hS (fun q _ h => (freeX hS) q h) (freeX hS) (fun r2284 u t H1 locs ht hvm hw hB hz1 hk1 hS => ?_)
      unfold BX at hB
      rw [ht] at hB
      have hP : va_P (dC, dI) classes (wX g c v F rc) H1 := hB
      have hw : (0 ≤ r2284.toInt ∧ r2284.toInt ≤ 1) ∧ (r2284.toInt = 1 → 0 ≤ z2282.toInt ∧ z2282.toInt < 10) := hw
      generalize H1 = H at hP hS ⊢
      have hw_r2284 := hw
      refine lv_if_eq (tgt := 80) hx hb dX11_swap_42 (by decide) (fun c2285 => ?_) (fun c2285 => ?_)
      · skip
        have t2286 := cv_eq (a := r2284.toInt) rfl (b := 0) (by decide) c2285
        refine lv_bipush (v := (-2)) hx hb dX11_swap_80 (by decide) ?_
        have hP9 : va_P (dC, dI) classes (wX g c v F rc) H := hP
        exact W.iret (v := (-2)) hx hb hr (fun t ht hW => ⟨⟨(-2), (v, F, rc), rfl, ⟨hI, hal, rfl, (fun _ _ => rfl), trivial⟩, (by show va_P _ _ _ t.heap; rw [ht]; exact hP9)⟩, hS.F ht⟩) hS.2.2 dX11_swap_82
      · skip
        have t2287 := cv_ne (a := r2284.toInt) rfl (b := 0) (by decide) c2285
        refine lv_aload_n hx hb dX11_swap_45 rfl (lv_at hl 1 rfl) ?_
        refine va_get (D := (dC, dI)) (ci := 11) (v := .ref (g 3)) (C := RX11) (T := TX11) (N := 14) hx hb hwd inA_X11 hown hK hP 0 rfl rfl 2 (by decide) (hwd _ wk_27) (fun _ h9 => h9) rfl dX11_swap_46 ?_
        refine va_get (D := (dC, dI)) (ci := 7) (v := .ref (g 26)) (C := RX7) (T := TX7) (N := 7) hx hb hwd inA_X7 hown hK hP 3 rfl rfl 4 (by decide) (hwd _ wk_600) (fun _ h9 => h9) rfl dX11_swap_49 ?_
        refine lv_iload_n hx hb dX11_swap_52 rfl (lv_at hl 3 rfl) ?_
        refine va_iald hx hb hK hP 26 14 rfl rfl (i := p1) (vin (a := p1.toInt) rfl (by omega)) dX11_swap_53 ?_
        refine lv_topi (fun z2288 e2289 => ?_)
        refine lv_bipush (v := 11) hx hb dX11_swap_54 (by decide) ?_
        refine lv_icmp_ne (tgt := 80) hx hb dX11_swap_56 (by decide) (fun c2290 => ?_) (fun c2290 => ?_)
        · skip
          have t2291 := cv_ne (a := z2288.toInt) rfl (b := 11) (by decide) c2290
          refine lv_bipush (v := (-2)) hx hb dX11_swap_80 (by decide) ?_
          have hP9 : va_P (dC, dI) classes (wX g c v F rc) H := hP
          exact W.iret (v := (-2)) hx hb hr (fun t ht hW => ⟨⟨(-2), (v, F, rc), rfl, ⟨hI, hal, rfl, (fun _ _ => rfl), trivial⟩, (by show va_P _ _ _ t.heap; rw [ht]; exact hP9)⟩, hS.F ht⟩) hS.2.2 dX11_swap_82
        · skip
          have t2292 := cv_eq (a := z2288.toInt) rfl (b := 11) (by decide) c2290
          refine lv_aload_n hx hb dX11_swap_59 rfl (lv_at hl 1 rfl) ?_
          refine va_get (D := (dC, dI)) (ci := 11) (v := .ref (g 3)) (C := RX11) (T := TX11) (N := 14) hx hb hwd inA_X11 hown hK hP 0 rfl rfl 2 (by decide) (hwd _ wk_27) (fun _ h9 => h9) rfl dX11_swap_60 ?_
          refine va_get (D := (dC, dI)) (ci := 7) (v := .ref (g 24)) (C := RX7) (T := TX7) (N := 7) hx hb hwd inA_X7 hown hK hP 3 rfl rfl 2 (by decide) (hwd _ wk_601) (fun _ h9 => h9) rfl dX11_swap_63 ?_
          refine lv_iload_n hx hb dX11_swap_66 rfl (lv_at hl 2 rfl) ?_
          refine va_iald hx hb hK hP 24 12 rfl rfl (i := p0) (vin (a := p0.toInt) rfl (by omega)) dX11_swap_67 ?_
          refine lv_topi (fun z2293 e2294 => ?_)
          have t2295 : 0 ≤ z2293.toInt ∧ z2293.toInt ≤ 9 := by rw [e2294]; exact hI.2 24 _ _ rfl _
          refine lv_aload_n hx hb dX11_swap_68 rfl (lv_at hl 1 rfl) ?_
          refine va_get (D := (dC, dI)) (ci := 11) (v := .ref (g 3)) (C := RX11) (T := TX11) (N := 14) hx hb hwd inA_X11 hown hK hP 0 rfl rfl 2 (by decide) (hwd _ wk_27) (fun _ h9 => h9) rfl dX11_swap_69 ?_
          refine va_get (D := (dC, dI)) (ci := 7) (v := .ref (g 24)) (C := RX7) (T := TX7) (N := 7) hx hb hwd inA_X7 hown hK hP 3 rfl rfl 2 (by decide) (hwd _ wk_601) (fun _ h9 => h9) rfl dX11_swap_72 ?_
          refine lv_iload_n hx hb dX11_swap_75 rfl (lv_at hl 3 rfl) ?_
          refine va_iald hx hb hK hP 24 12 rfl rfl (i := p1) (vin (a := p1.toInt) rfl (by omega)) dX11_swap_76 ?_
          refine lv_topi (fun z2296 e2297 => ?_)
          have t2298 : 0 ≤ z2296.toInt ∧ z2296.toInt ≤ 9 := by rw [e2297]; exact hI.2 24 _ _ rfl _
          refine lv_icmp_eq (tgt := 83) hx hb dX11_swap_77 (by decide) (fun c2299 => ?_) (fun c2299 => ?_)
          · skip
            have t2300 := cv_eq (a := z2293.toInt) rfl (b := z2296.toInt) rfl c2299
            refine lv_aload_n hx hb dX11_swap_83 rfl (lv_at hl 1 rfl) ?_
            refine va_get (D := (dC, dI)) (ci := 11) (v := .ref (g 4)) (C := RX11) (T := TX11) (N := 14) hx hb hwd inA_X11 hown hK hP 0 rfl rfl 3 (by decide) (hwd _ wk_23) (fun _ h9 => h9) rfl dX11_swap_84 ?_
            refine lv_iconst (v := 2) hx hb dX11_swap_87 (by decide) ?_
            refine va_calli (va_runV (As := [.int 2]) (rest := []) ⟨hx, hb, hml, hown, hwd⟩ (c_X9_hasRoom l dC dI g c adK adV v F rc H.size 2 hg hI ) (cwV 1 hwd (gV wk_565 wk_562 wk_563 wk_564 wk_22) rfl rfl rfl (by decide +kernel) ⟨Nat.le_of_ble_eq_true rfl, Nat.le_of_ble_eq_true rfl⟩) ⟨PX.blind, va_recv hK hP (ci := 9) (q0 := 4) rfl rfl, fun U hU hW => ⟨rfl, PX.at hK hE hP hS hU hW⟩⟩ rfl rfl hl.1 rfl (lv_room (Nat.le_of_ble_eq_true rfl)) dX11_swap_88 ⟨Nat.le_of_ble_eq_true rfl, Nat.le_of_ble_eq_true rfl⟩) hS (fun q _ h => (freeX hS) q h) (freeX hS) (fun r2301 u t H1 locs ht hvm hw hB hz1 hk1 hS => ?_)
            unfold BX at hB
            rw [ht] at hB
            have hP : va_P (dC, dI) classes (wX g c v F rc) H1 := hB
            have hw : 0 ≤ r2301.toInt ∧ r2301.toInt ≤ 1 := hw
            have k2302 : (2 : Int32).toInt = 2 := by decide
            generalize H1 = H at hP hS ⊢
            have hw_r2301 := hw
            refine lv_if_ne (tgt := 97) hx hb dX11_swap_91 (by decide) (fun c2303 => ?_) (fun c2303 => ?_)
            · skip
              have t2304 := cv_ne (a := r2301.toInt) rfl (b := 0) (by decide) c2303
              refine lv_aload_n hx hb dX11_swap_97 rfl (lv_at hl 1 rfl) ?_
              refine va_get (D := (dC, dI)) (ci := 11) (v := .ref (g 3)) (C := RX11) (T := TX11) (N := 14) hx hb hwd inA_X11 hown hK hP 0 rfl rfl 2 (by decide) (hwd _ wk_27) (fun _ h9 => h9) rfl dX11_swap_98 ?_
              refine lv_iload_n hx hb dX11_swap_101 rfl (lv_at hl 2 rfl) ?_
              refine lv_bipush (v := 11) hx hb dX11_swap_102 (by decide) ?_
              refine lv_aload_n hx hb dX11_swap_104 rfl (lv_at hl 1 rfl) ?_
              refine va_get (D := (dC, dI)) (ci := 11) (v := .int (v 11)) (C := RX11) (T := TX11) (N := 14) hx hb hwd inA_X11 hown hK hP 0 rfl rfl 11 (by decide) (hwd _ wk_323) (fun _ h9 => h9) rfl dX11_swap_105 ?_
              have t2305 : 0 ≤ (v 11).toInt ∧ (v 11).toInt ≤ 9999 := hI.1 11 _ _ rfl
              refine va_callv (va_runV (As := [.int p0, .int 11, .int (v 11)]) (rest := []) ⟨hx, hb, hml, hown, hwd⟩ (c_X7_go l dC dI g c adK adV v F rc H.size p0 11 (v 11) hg hI (by omega)) (cwV 3 hwd (gV wk_618 wk_615 wk_616 wk_617 wk_26) rfl rfl rfl (by decide +kernel) ⟨Nat.le_of_ble_eq_true rfl, Nat.le_of_ble_eq_true rfl⟩) ⟨PX.blind, va_recv hK hP (ci := 7) (q0 := 3) rfl rfl, fun U hU hW => ⟨rfl, PX.at hK hE hP hS hU hW⟩⟩ rfl rfl hl.1 rfl (lv_room (Nat.le_of_ble_eq_true rfl)) dX11_swap_108 ⟨Nat.le_of_ble_eq_true rfl, Nat.le_of_ble_eq_true rfl⟩) hS (fun q _ h => (freeX hS) q h) (freeX hS) (fun u t H1 locs ht hvm hw hB hz1 hk1 hS => ?_)
              unfold BX at hB
              rw [ht] at hB
              obtain ⟨v2307, F2308, rc9⟩ := u
              obtain ⟨hI, hal9, hrc, hf2309, hw⟩ := hw
              dsimp only at hI hal9 hrc hB hf2309 hw
              rw [hrc] at hB
              have hal := hal9.trans hal
              have hP : va_P (dC, dI) classes (wX g c v2307 F2308 rc) H1 := hB
              generalize H1 = H at hP hS ⊢
              refine lv_aload_n hx hb dX11_swap_111 rfl (lv_at hl 1 rfl) ?_
              refine va_get (D := (dC, dI)) (ci := 11) (v := .ref (g 3)) (C := RX11) (T := TX11) (N := 14) hx hb hwd inA_X11 hown hK hP 0 rfl rfl 2 (by decide) (hwd _ wk_27) (fun _ h9 => h9) rfl dX11_swap_112 ?_
              refine lv_iload_n hx hb dX11_swap_115 rfl (lv_at hl 3 rfl) ?_
              refine lv_iload_n hx hb dX11_swap_116 rfl (lv_at hl 0 rfl) ?_
              refine lv_aload_n hx hb dX11_swap_117 rfl (lv_at hl 1 rfl) ?_
              refine va_get (D := (dC, dI)) (ci := 11) (v := .int (v2307 11)) (C := RX11) (T := TX11) (N := 14) hx hb hwd inA_X11 hown hK hP 0 rfl rfl 11 (by decide) (hwd _ wk_323) (fun _ h9 => h9) rfl dX11_swap_118 ?_
              refine my_top (v := v 11) (hf2309 11 (by decide)) ?_
              have t2310 : 0 ≤ (v 11).toInt ∧ (v 11).toInt ≤ 9999 := by have h9 := hI.1 11 _ _ rfl; rw [show v2307 11 = v 11 from hf2309 11 (by decide)] at h9; exact h9
              refine va_callv (va_runV (As := [.int p1, .int z2282, .int (v 11)]) (rest := []) ⟨hx, hb, hml, hown, hwd⟩ (c_X7_go l dC dI g c adK adV v2307 F2308 rc H.size p1 z2282 (v 11) hg hI (by omega)) (cwV 3 hwd (gV wk_618 wk_615 wk_616 wk_617 wk_26) rfl rfl rfl (by decide +kernel) ⟨Nat.le_of_ble_eq_true rfl, Nat.le_of_ble_eq_true rfl⟩) ⟨PX.blind, va_recv hK hP (ci := 7) (q0 := 3) rfl rfl, fun U hU hW => ⟨rfl, PX.at hK hE hP hS hU hW⟩⟩ rfl rfl hl.1 rfl (lv_room (Nat.le_of_ble_eq_true rfl)) dX11_swap_121 ⟨Nat.le_of_ble_eq_true rfl, Nat.le_of_ble_eq_true rfl⟩) hS (fun q _ h => (freeX hS) q h) (freeX hS) (fun u t H1 locs ht hvm hw hB hz1 hk1 hS => ?_)
              unfold BX at hB
              rw [ht] at hB
              obtain ⟨v2312, F2313, rc9⟩ := u
              obtain ⟨hI, hal9, hrc, hf2314, hw⟩ := hw
              dsimp only at hI hal9 hrc hB hf2314 hw
              rw [hrc] at hB
              have hal := hal9.trans hal
              have hP : va_P (dC, dI) classes (wX g c v2312 F2313 rc) H1 := hB
              generalize H1 = H at hP hS ⊢
              refine lv_iconst (v := 1) hx hb dX11_swap_124 (by decide) ?_
              have hP9 : va_P (dC, dI) classes (wX g c v2312 F2313 rc) H := hP
              exact W.iret (v := 1) hx hb hr (fun t ht hW => ⟨⟨1, (v2312, F2313, rc), rfl, ⟨hI, hal, rfl, (frC (by decide) hf2314 (frC (by decide) hf2309 (fun _ _ => rfl))), trivial⟩, (by show va_P _ _ _ t.heap; rw [ht]; exact hP9)⟩, hS.F ht⟩) hS.2.2 dX11_swap_125
            · skip
              have t2315 := cv_eq (a := r2301.toInt) rfl (b := 0) (by decide) c2303
              refine lv_bipush (v := (-3)) hx hb dX11_swap_94 (by decide) ?_
              have hP9 : va_P (dC, dI) classes (wX g c v F rc) H := hP
              exact W.iret (v := (-3)) hx hb hr (fun t ht hW => ⟨⟨(-3), (v, F, rc), rfl, ⟨hI, hal, rfl, (fun _ _ => rfl), trivial⟩, (by show va_P _ _ _ t.heap; rw [ht]; exact hP9)⟩, hS.F ht⟩) hS.2.2 dX11_swap_96
          · skip
            have t2316 := cv_ne (a := z2293.toInt) rfl (b := z2296.toInt) rfl c2299
            refine lv_bipush (v := (-2)) hx hb dX11_swap_80 (by decide) ?_
            have hP9 : va_P (dC, dI) classes (wX g c v F rc) H := hP
            exact W.iret (v := (-2)) hx hb hr (fun t ht hW => ⟨⟨(-2), (v, F, rc), rfl, ⟨hI, hal, rfl, (fun _ _ => rfl), trivial⟩, (by show va_P _ _ _ t.heap; rw [ht]; exact hP9)⟩, hS.F ht⟩) hS.2.2 dX11_swap_82
    · skip
      have t2317 := cv_eq (a := r2279.toInt) rfl (b := 0) (by decide) c2280
      refine lv_iconst (v := (-1)) hx hb dX11_swap_22 (by decide) ?_
      have hP9 : va_P (dC, dI) classes (wX g c v F rc) H := hP
      exact W.iret (v := (-1)) hx hb hr (fun t ht hW => ⟨⟨(-1), (v, F, rc), rfl, ⟨hI, hal, rfl, (fun _ _ => rfl), trivial⟩, (by show va_P _ _ _ t.heap; rw [ht]; exact hP9)⟩, hS.F ht⟩) hS.2.2 dX11_swap_23
set_option maxHeartbeats 8000000 in
set_option maxRecDepth 100000 in
theorem c_X11_repair (l : Launch) (dC : Nat → ClassId) (dI : Nat → Nat → Nat) (g : Nat → Nat) (c : Nat → ClassId) (adK adV : Nat → Nat) (v : Nat → Int32) (F : Nat → Nat → Int32) (rc sz : Nat) (p0 : Int32) (p1 : Int32) (hg : injX g) (hI : IX v F) : Met l yX11_repair (Cond.code yX11_repair cX11_repair 3 (some .int) :: wA) ({ frames := 2, cells := 0, slots := 0, locals := 80 }) (va_Pc [.ref (g 0), .int p0, .int p1] (PX dC dI g c adK adV v F rc sz)) (va_Qi (fun (r : Int32) (u : StX) => IX u.1 u.2.1 ∧ alX u.1 u.2.1 = alX v F ∧ u.2.2 = rc ∧ (∀ k, k ∉ ([] : List Nat) → u.1 k = v k) ∧ True) (BX dC dI g c) (AX g sz)) 0 0 (AX g sz) := by
  refine Met.ofW (cc := cX11_repair) (maxL := 3) (ret := (some .int)) (by decide) rfl ?_
  intro p e s m args below meth c0 s₁ B hml hv
  obtain ⟨rfl, hsz, hP, hK, hE⟩ := hv
  have hx := B.exec
  have hb := B.bytes
  have hr := B.returns
  have hts := atoms_spec (ws := Cond.code yX11_repair cX11_repair 3 (some .int) :: wA) B.pre
  have hwd : ∀ w ∈ wA, w.before _ s = true := fun w h => hts w (List.mem_cons_of_mem _ h)
  have hown : s.vm.findClass RX11 = some m.cls := findClass_of_methodNamed B.named
  have hlocks := B.notSynchronized
  subst hsz
  have hl := lv_entry ([.ref (g 0), .int p0, .int p1]) (n := 3) (Nat.le_of_ble_eq_true rfl)
  rw [lg_entry_eq]
  generalize (lg_sl ([.ref (g 0), .int p0, .int p1]) ++ List.replicate (3 - (lg_sl ([.ref (g 0), .int p0, .int p1])).length) Slot.unset).toArray = ls at hl ⊢
  have hl : lv_has ls 3 [(0, .ref (g 0)), (1, .int p0), (2, .int p1)] := hl
  obtain ⟨H, eH⟩ : ∃ z, z = s.heap := ⟨_, rfl⟩
  have hP : va_P (dC, dI) classes (wX g c v F rc) H := by rw [eH]; exact hP
  have hS : va_S (AX g s.heap.size) s.heap H [] := by rw [eH]; exact va_S.rf
  refine my_heap eH ?_
  have hal : alX v F = alX v F := rfl
  have rp0 := i32_rng p0
  have rp1 := i32_rng p1
  refine lv_aload_n hx hb dX11_repair_0 rfl (lv_at hl 0 rfl) ?_
  refine va_get (D := (dC, dI)) (ci := 11) (v := .ref (g 3)) (C := RX11) (T := TX11) (N := 14) hx hb hwd inA_X11 hown hK hP 0 rfl rfl 2 (by decide) (hwd _ wk_27) (fun _ h9 => h9) rfl dX11_repair_1 ?_
  refine lv_iload_n hx hb dX11_repair_4 rfl (lv_at hl 1 rfl) ?_
  refine va_calli (va_runV (As := [.int p0]) (rest := []) ⟨hx, hb, hml, hown, hwd⟩ (c_X7_has l dC dI g c adK adV v F rc H.size p0 hg hI ) (cwV 1 hwd (gV wk_605 wk_602 wk_603 wk_604 wk_26) rfl rfl rfl (by decide +kernel) ⟨Nat.le_of_ble_eq_true rfl, Nat.le_of_ble_eq_true rfl⟩) ⟨PX.blind, va_recv hK hP (ci := 7) (q0 := 3) rfl rfl, fun U hU hW => ⟨rfl, PX.at hK hE hP hS hU hW⟩⟩ rfl rfl hl.1 rfl (lv_room (Nat.le_of_ble_eq_true rfl)) dX11_repair_5 ⟨Nat.le_of_ble_eq_true rfl, Nat.le_of_ble_eq_true rfl⟩) hS (fun q _ h => (freeX hS) q h) (freeX hS) (fun r2318 u t H1 locs ht hvm hw hB hz1 hk1 hS => ?_)
  unfold BX at hB
  rw [ht] at hB
  have hP : va_P (dC, dI) classes (wX g c v F rc) H1 := hB
  have hw : (0 ≤ r2318.toInt ∧ r2318.toInt ≤ 1) ∧ (r2318.toInt = 1 → 0 ≤ p0.toInt ∧ p0.toInt < 100) := hw
  generalize H1 = H at hP hS ⊢
  have hw_r2318 := hw
  refine lv_if_eq (tgt := 21) hx hb dX11_repair_8 (by decide) (fun c2319 => ?_) (fun c2319 => ?_)
  · skip
    have t2320 := cv_eq (a := r2318.toInt) rfl (b := 0) (by decide) c2319
    refine lv_iconst (v := (-1)) hx hb dX11_repair_21 (by decide) ?_
    have hP9 : va_P (dC, dI) classes (wX g c v F rc) H := hP
    exact W.iret (v := (-1)) hx hb hr (fun t ht hW => ⟨⟨(-1), (v, F, rc), rfl, ⟨hI, hal, rfl, (fun _ _ => rfl), trivial⟩, (by show va_P _ _ _ t.heap; rw [ht]; exact hP9)⟩, hS.F ht⟩) hS.2.2 dX11_repair_22
  · skip
    have t2321 := cv_ne (a := r2318.toInt) rfl (b := 0) (by decide) c2319
    refine lv_iload_n hx hb dX11_repair_11 rfl (lv_at hl 2 rfl) ?_
    refine lv_iconst (v := 1) hx hb dX11_repair_12 (by decide) ?_
    refine lv_bipush (v := 7) hx hb dX11_repair_13 (by decide) ?_
    refine va_calli (va_runS (As := [.int p1, .int 1, .int 7]) (rest := []) ⟨hx, hb, hml, hown, hwd⟩ (c_X11_within l dC dI g c adK adV v F rc H.size p1 1 7 hg hI ) (va_cwS 3 hwd (gT wk_239 wk_237 wk_238 wk_2) rfl rfl rfl (by decide +kernel) ⟨Nat.le_of_ble_eq_true rfl, Nat.le_of_ble_eq_true rfl⟩) ⟨PX.blind, fun U hU hW => ⟨rfl, PX.at hK hE hP hS hU hW⟩⟩ rfl rfl hl.1 rfl (lv_room (Nat.le_of_ble_eq_true rfl)) dX11_repair_15 ⟨Nat.le_of_ble_eq_true rfl, Nat.le_of_ble_eq_true rfl⟩) hS (fun q _ h => (freeX hS) q h) (freeX hS) (fun r2322 u t H1 locs ht hvm hw hB hz1 hk1 hS => ?_)
    unfold BX at hB
    rw [ht] at hB
    have hP : va_P (dC, dI) classes (wX g c v F rc) H1 := hB
    have hw : (r2322.toInt = 1 ∧ (1 : Int32).toInt ≤ p1.toInt ∧ p1.toInt ≤ (7 : Int32).toInt) ∨ (r2322.toInt = 0 ∧ (p1.toInt < (1 : Int32).toInt ∨ (7 : Int32).toInt < p1.toInt)) := hw
    have k2323 : (1 : Int32).toInt = 1 := by decide
    have k2324 : (7 : Int32).toInt = 7 := by decide
    generalize H1 = H at hP hS ⊢
    have hw_r2322 := hw
    refine lv_if_ne (tgt := 23) hx hb dX11_repair_18 (by decide) (fun c2325 => ?_) (fun c2325 => ?_)
    · skip
      have t2326 := cv_ne (a := r2322.toInt) rfl (b := 0) (by decide) c2325
      refine lv_aload_n hx hb dX11_repair_23 rfl (lv_at hl 0 rfl) ?_
      refine va_get (D := (dC, dI)) (ci := 11) (v := .ref (g 3)) (C := RX11) (T := TX11) (N := 14) hx hb hwd inA_X11 hown hK hP 0 rfl rfl 2 (by decide) (hwd _ wk_27) (fun _ h9 => h9) rfl dX11_repair_24 ?_
      refine va_get (D := (dC, dI)) (ci := 7) (v := .ref (g 26)) (C := RX7) (T := TX7) (N := 7) hx hb hwd inA_X7 hown hK hP 3 rfl rfl 4 (by decide) (hwd _ wk_600) (fun _ h9 => h9) rfl dX11_repair_27 ?_
      refine lv_iload_n hx hb dX11_repair_30 rfl (lv_at hl 1 rfl) ?_
      refine va_iald hx hb hK hP 26 14 rfl rfl (i := p0) (vin (a := p0.toInt) rfl (by omega)) dX11_repair_31 ?_
      refine lv_topi (fun z2327 e2328 => ?_)
      refine lv_bipush (v := 10) hx hb dX11_repair_32 (by decide) ?_
      refine lv_icmp_eq (tgt := 40) hx hb dX11_repair_34 (by decide) (fun c2329 => ?_) (fun c2329 => ?_)
      · skip
        have t2330 := cv_eq (a := z2327.toInt) rfl (b := 10) (by decide) c2329
        refine lv_aload_n hx hb dX11_repair_40 rfl (lv_at hl 0 rfl) ?_
        refine va_get (D := (dC, dI)) (ci := 11) (v := .ref (g 3)) (C := RX11) (T := TX11) (N := 14) hx hb hwd inA_X11 hown hK hP 0 rfl rfl 2 (by decide) (hwd _ wk_27) (fun _ h9 => h9) rfl dX11_repair_41 ?_
        refine lv_iload_n hx hb dX11_repair_44 rfl (lv_at hl 1 rfl) ?_
        refine lv_iload_n hx hb dX11_repair_45 rfl (lv_at hl 2 rfl) ?_
        refine va_callv (va_runV (As := [.int p0, .int p1]) (rest := []) ⟨hx, hb, hml, hown, hwd⟩ (c_X7_renew l dC dI g c adK adV v F rc H.size p0 p1 hg hI (by omega)) (cwV 2 hwd (gV wk_655 wk_652 wk_653 wk_654 wk_26) rfl rfl rfl (by decide +kernel) ⟨Nat.le_of_ble_eq_true rfl, Nat.le_of_ble_eq_true rfl⟩) ⟨PX.blind, va_recv hK hP (ci := 7) (q0 := 3) rfl rfl, fun U hU hW => ⟨rfl, PX.at hK hE hP hS hU hW⟩⟩ rfl rfl hl.1 rfl (lv_room (Nat.le_of_ble_eq_true rfl)) dX11_repair_46 ⟨Nat.le_of_ble_eq_true rfl, Nat.le_of_ble_eq_true rfl⟩) hS (fun q _ h => (freeX hS) q h) (freeX hS) (fun u t H1 locs ht hvm hw hB hz1 hk1 hS => ?_)
        unfold BX at hB
        rw [ht] at hB
        obtain ⟨v2332, F2333, rc9⟩ := u
        obtain ⟨hI, hal9, hrc, hf2334, hw⟩ := hw
        dsimp only at hI hal9 hrc hB hf2334 hw
        rw [hrc] at hB
        have hal := hal9.trans hal
        have hP : va_P (dC, dI) classes (wX g c v2332 F2333 rc) H1 := hB
        generalize H1 = H at hP hS ⊢
        refine lv_iconst (v := 1) hx hb dX11_repair_49 (by decide) ?_
        have hP9 : va_P (dC, dI) classes (wX g c v2332 F2333 rc) H := hP
        exact W.iret (v := 1) hx hb hr (fun t ht hW => ⟨⟨1, (v2332, F2333, rc), rfl, ⟨hI, hal, rfl, (frC (by decide) hf2334 (fun _ _ => rfl)), trivial⟩, (by show va_P _ _ _ t.heap; rw [ht]; exact hP9)⟩, hS.F ht⟩) hS.2.2 dX11_repair_50
      · skip
        have t2335 := cv_ne (a := z2327.toInt) rfl (b := 10) (by decide) c2329
        refine lv_bipush (v := (-2)) hx hb dX11_repair_37 (by decide) ?_
        have hP9 : va_P (dC, dI) classes (wX g c v F rc) H := hP
        exact W.iret (v := (-2)) hx hb hr (fun t ht hW => ⟨⟨(-2), (v, F, rc), rfl, ⟨hI, hal, rfl, (fun _ _ => rfl), trivial⟩, (by show va_P _ _ _ t.heap; rw [ht]; exact hP9)⟩, hS.F ht⟩) hS.2.2 dX11_repair_39
    · skip
      have t2336 := cv_eq (a := r2322.toInt) rfl (b := 0) (by decide) c2325
      refine lv_iconst (v := (-1)) hx hb dX11_repair_21 (by decide) ?_
      have hP9 : va_P (dC, dI) classes (wX g c v F rc) H := hP
      exact W.iret (v := (-1)) hx hb hr (fun t ht hW => ⟨⟨(-1), (v, F, rc), rfl, ⟨hI, hal, rfl, (fun _ _ => rfl), trivial⟩, (by show va_P _ _ _ t.heap; rw [ht]; exact hP9)⟩, hS.F ht⟩) hS.2.2 dX11_repair_22
set_option maxHeartbeats 8000000 in
set_option maxRecDepth 100000 in
theorem c_X11_ofPart (l : Launch) (dC : Nat → ClassId) (dI : Nat → Nat → Nat) (g : Nat → Nat) (c : Nat → ClassId) (adK adV : Nat → Nat) (v : Nat → Int32) (F : Nat → Nat → Int32) (rc sz : Nat) (p0 : Int32) (p1 : Int32) (hg : injX g) (hI : IX v F) : Met l yX11_ofPart (Cond.code yX11_ofPart cX11_ofPart 3 (some .int) :: wA) ({ frames := 6, cells := 0, slots := 0, locals := 240 }) (va_Pc [.ref (g 0), .int p0, .int p1] (PX dC dI g c adK adV v F rc sz)) (va_Qi (fun (r : Int32) (u : Unit) => True) (fun (_ : Unit) => BX dC dI g c (v, F, rc)) (AX g sz)) 0 0 (AX g sz) := by
  refine Met.ofW (cc := cX11_ofPart) (maxL := 3) (ret := (some .int)) (by decide) rfl ?_
  intro p e s m args below meth c0 s₁ B hml hv
  obtain ⟨rfl, hsz, hP, hK, hE⟩ := hv
  have hx := B.exec
  have hb := B.bytes
  have hr := B.returns
  have hts := atoms_spec (ws := Cond.code yX11_ofPart cX11_ofPart 3 (some .int) :: wA) B.pre
  have hwd : ∀ w ∈ wA, w.before _ s = true := fun w h => hts w (List.mem_cons_of_mem _ h)
  have hown : s.vm.findClass RX11 = some m.cls := findClass_of_methodNamed B.named
  have hlocks := B.notSynchronized
  subst hsz
  have hl := lv_entry ([.ref (g 0), .int p0, .int p1]) (n := 3) (Nat.le_of_ble_eq_true rfl)
  rw [lg_entry_eq]
  generalize (lg_sl ([.ref (g 0), .int p0, .int p1]) ++ List.replicate (3 - (lg_sl ([.ref (g 0), .int p0, .int p1])).length) Slot.unset).toArray = ls at hl ⊢
  have hl : lv_has ls 3 [(0, .ref (g 0)), (1, .int p0), (2, .int p1)] := hl
  obtain ⟨H, eH⟩ : ∃ z, z = s.heap := ⟨_, rfl⟩
  have hP : va_P (dC, dI) classes (wX g c v F rc) H := by rw [eH]; exact hP
  have hS : va_S (AX g s.heap.size) s.heap H [] := by rw [eH]; exact va_S.rf
  refine my_heap eH ?_
  have rp0 := i32_rng p0
  have rp1 := i32_rng p1
  refine lv_aload_n hx hb dX11_ofPart_0 rfl (lv_at hl 0 rfl) ?_
  refine va_get (D := (dC, dI)) (ci := 11) (v := .ref (g 3)) (C := RX11) (T := TX11) (N := 14) hx hb hwd inA_X11 hown hK hP 0 rfl rfl 2 (by decide) (hwd _ wk_27) (fun _ h9 => h9) rfl dX11_ofPart_1 ?_
  refine lv_iload_n hx hb dX11_ofPart_4 rfl (lv_at hl 1 rfl) ?_
  refine va_calli (va_runV (As := [.int p0]) (rest := []) ⟨hx, hb, hml, hown, hwd⟩ (c_X7_has l dC dI g c adK adV v F rc H.size p0 hg hI ) (cwV 1 hwd (gV wk_605 wk_602 wk_603 wk_604 wk_26) rfl rfl rfl (by decide +kernel) ⟨Nat.le_of_ble_eq_true rfl, Nat.le_of_ble_eq_true rfl⟩) ⟨PX.blind, va_recv hK hP (ci := 7) (q0 := 3) rfl rfl, fun U hU hW => ⟨rfl, PX.at hK hE hP hS hU hW⟩⟩ rfl rfl hl.1 rfl (lv_room (Nat.le_of_ble_eq_true rfl)) dX11_ofPart_5 ⟨Nat.le_of_ble_eq_true rfl, Nat.le_of_ble_eq_true rfl⟩) hS (fun q _ h => (freeX hS) q h) (freeX hS) (fun r2337 u t H1 locs ht hvm hw hB hz1 hk1 hS => ?_)
  unfold BX at hB
  rw [ht] at hB
  have hP : va_P (dC, dI) classes (wX g c v F rc) H1 := hB
  have hw : (0 ≤ r2337.toInt ∧ r2337.toInt ≤ 1) ∧ (r2337.toInt = 1 → 0 ≤ p0.toInt ∧ p0.toInt < 100) := hw
  generalize H1 = H at hP hS ⊢
  have hw_r2337 := hw
  refine lv_if_ne (tgt := 14) hx hb dX11_ofPart_8 (by decide) (fun c2338 => ?_) (fun c2338 => ?_)
  · skip
    have t2339 := cv_ne (a := r2337.toInt) rfl (b := 0) (by decide) c2338
    refine lv_iload_n hx hb dX11_ofPart_14 rfl (lv_at hl 2 rfl) ?_
    by_cases hlo2340 : p1.toInt < 0
    · refine lv_tableOut (tgt := 155) hx hb dX11_ofPart_15 (Or.inl hlo2340) (by decide) ?_
      refine lv_ldc (v := (-2000000000)) hx hb hown (hwd _ wk_56) dX11_ofPart_155 ?_
      have hP9 : va_P (dC, dI) classes (wX g c v F rc) H := hP
      exact W.iret (v := (-2000000000)) hx hb hr (fun t ht hW => ⟨⟨(-2000000000), (), rfl, trivial, (by show va_P _ _ _ t.heap; rw [ht]; exact hP9)⟩, hS.F ht⟩) hS.2.2 dX11_ofPart_157
    by_cases hhi2341 : 8 < p1.toInt
    · refine lv_tableOut (tgt := 155) hx hb dX11_ofPart_15 (Or.inr hhi2341) (by decide) ?_
      refine lv_ldc (v := (-2000000000)) hx hb hown (hwd _ wk_56) dX11_ofPart_155 ?_
      have hP9 : va_P (dC, dI) classes (wX g c v F rc) H := hP
      exact W.iret (v := (-2000000000)) hx hb hr (fun t ht hW => ⟨⟨(-2000000000), (), rfl, trivial, (by show va_P _ _ _ t.heap; rw [ht]; exact hP9)⟩, hS.F ht⟩) hS.2.2 dX11_ofPart_157
    rcases (show p1.toInt = 0 ∨ p1.toInt = 1 ∨ p1.toInt = 2 ∨ p1.toInt = 3 ∨ p1.toInt = 4 ∨ p1.toInt = 5 ∨ p1.toInt = 6 ∨ p1.toInt = 7 ∨ p1.toInt = 8 by omega) with hk | hk | hk | hk | hk | hk | hk | hk | hk
    · refine lv_tableIn (off := 49) (tgt := 64) hx hb dX11_ofPart_15 hlo2340 hhi2341 (by rw [hk]; decide) (by decide) ?_
      refine lv_aload_n hx hb dX11_ofPart_64 rfl (lv_at hl 0 rfl) ?_
      refine va_get (D := (dC, dI)) (ci := 11) (v := .ref (g 3)) (C := RX11) (T := TX11) (N := 14) hx hb hwd inA_X11 hown hK hP 0 rfl rfl 2 (by decide) (hwd _ wk_27) (fun _ h9 => h9) rfl dX11_ofPart_65 ?_
      refine va_get (D := (dC, dI)) (ci := 7) (v := .ref (g 24)) (C := RX7) (T := TX7) (N := 7) hx hb hwd inA_X7 hown hK hP 3 rfl rfl 2 (by decide) (hwd _ wk_601) (fun _ h9 => h9) rfl dX11_ofPart_68 ?_
      refine lv_iload_n hx hb dX11_ofPart_71 rfl (lv_at hl 1 rfl) ?_
      refine va_iald hx hb hK hP 24 12 rfl rfl (i := p0) (vin (a := p0.toInt) rfl (by omega)) dX11_ofPart_72 ?_
      refine lv_topi (fun z2342 e2343 => ?_)
      have t2344 : 0 ≤ z2342.toInt ∧ z2342.toInt ≤ 9 := by rw [e2343]; exact hI.2 24 _ _ rfl _
      have hP9 : va_P (dC, dI) classes (wX g c v F rc) H := hP
      exact W.iret (v := z2342) hx hb hr (fun t ht hW => ⟨⟨z2342, (), rfl, trivial, (by show va_P _ _ _ t.heap; rw [ht]; exact hP9)⟩, hS.F ht⟩) hS.2.2 dX11_ofPart_73
    · refine lv_tableIn (off := 59) (tgt := 74) hx hb dX11_ofPart_15 hlo2340 hhi2341 (by rw [hk]; decide) (by decide) ?_
      refine lv_aload_n hx hb dX11_ofPart_74 rfl (lv_at hl 0 rfl) ?_
      refine va_get (D := (dC, dI)) (ci := 11) (v := .ref (g 3)) (C := RX11) (T := TX11) (N := 14) hx hb hwd inA_X11 hown hK hP 0 rfl rfl 2 (by decide) (hwd _ wk_27) (fun _ h9 => h9) rfl dX11_ofPart_75 ?_
      refine va_get (D := (dC, dI)) (ci := 7) (v := .ref (g 25)) (C := RX7) (T := TX7) (N := 7) hx hb hwd inA_X7 hown hK hP 3 rfl rfl 3 (by decide) (hwd _ wk_664) (fun _ h9 => h9) rfl dX11_ofPart_78 ?_
      refine lv_iload_n hx hb dX11_ofPart_81 rfl (lv_at hl 1 rfl) ?_
      refine va_iald hx hb hK hP 25 13 rfl rfl (i := p0) (vin (a := p0.toInt) rfl (by omega)) dX11_ofPart_82 ?_
      refine lv_topi (fun z2345 e2346 => ?_)
      have hP9 : va_P (dC, dI) classes (wX g c v F rc) H := hP
      exact W.iret (v := z2345) hx hb hr (fun t ht hW => ⟨⟨z2345, (), rfl, trivial, (by show va_P _ _ _ t.heap; rw [ht]; exact hP9)⟩, hS.F ht⟩) hS.2.2 dX11_ofPart_83
    · refine lv_tableIn (off := 69) (tgt := 84) hx hb dX11_ofPart_15 hlo2340 hhi2341 (by rw [hk]; decide) (by decide) ?_
      refine lv_aload_n hx hb dX11_ofPart_84 rfl (lv_at hl 0 rfl) ?_
      refine va_get (D := (dC, dI)) (ci := 11) (v := .ref (g 3)) (C := RX11) (T := TX11) (N := 14) hx hb hwd inA_X11 hown hK hP 0 rfl rfl 2 (by decide) (hwd _ wk_27) (fun _ h9 => h9) rfl dX11_ofPart_85 ?_
      refine va_get (D := (dC, dI)) (ci := 7) (v := .ref (g 26)) (C := RX7) (T := TX7) (N := 7) hx hb hwd inA_X7 hown hK hP 3 rfl rfl 4 (by decide) (hwd _ wk_600) (fun _ h9 => h9) rfl dX11_ofPart_88 ?_
      refine lv_iload_n hx hb dX11_ofPart_91 rfl (lv_at hl 1 rfl) ?_
      refine va_iald hx hb hK hP 26 14 rfl rfl (i := p0) (vin (a := p0.toInt) rfl (by omega)) dX11_ofPart_92 ?_
      refine lv_topi (fun z2347 e2348 => ?_)
      have hP9 : va_P (dC, dI) classes (wX g c v F rc) H := hP
      exact W.iret (v := z2347) hx hb hr (fun t ht hW => ⟨⟨z2347, (), rfl, trivial, (by show va_P _ _ _ t.heap; rw [ht]; exact hP9)⟩, hS.F ht⟩) hS.2.2 dX11_ofPart_93
    · refine lv_tableIn (off := 79) (tgt := 94) hx hb dX11_ofPart_15 hlo2340 hhi2341 (by rw [hk]; decide) (by decide) ?_
      refine lv_aload_n hx hb dX11_ofPart_94 rfl (lv_at hl 0 rfl) ?_
      refine va_get (D := (dC, dI)) (ci := 11) (v := .ref (g 3)) (C := RX11) (T := TX11) (N := 14) hx hb hwd inA_X11 hown hK hP 0 rfl rfl 2 (by decide) (hwd _ wk_27) (fun _ h9 => h9) rfl dX11_ofPart_95 ?_
      refine lv_iload_n hx hb dX11_ofPart_98 rfl (lv_at hl 1 rfl) ?_
      refine lv_iconst (v := 0) hx hb dX11_ofPart_99 (by decide) ?_
      refine va_calli (va_runV (As := [.int p0, .int 0]) (rest := []) ⟨hx, hb, hml, hown, hwd⟩ (c_X7_usedOf l dC dI g c adK adV v F rc H.size p0 0 hg hI (by omega) (by have : (0 : Int32).toInt = 0 := (by decide); omega)) (cwV 2 hwd (gV wk_369 wk_665 wk_367 wk_368 wk_26) rfl rfl rfl (by decide +kernel) ⟨Nat.le_of_ble_eq_true rfl, Nat.le_of_ble_eq_true rfl⟩) ⟨PX.blind, va_recv hK hP (ci := 7) (q0 := 3) rfl rfl, fun U hU hW => ⟨rfl, PX.at hK hE hP hS hU hW⟩⟩ rfl rfl hl.1 rfl (lv_room (Nat.le_of_ble_eq_true rfl)) dX11_ofPart_100 ⟨Nat.le_of_ble_eq_true rfl, Nat.le_of_ble_eq_true rfl⟩) hS (fun q _ h => (freeX hS) q h) (freeX hS) (fun r2349 u t H1 locs ht hvm hw hB hz1 hk1 hS => ?_)
      unfold BX at hB
      rw [ht] at hB
      have hP : va_P (dC, dI) classes (wX g c v F rc) H1 := hB
      generalize H1 = H at hP hS ⊢
      have rr_r2349 := i32_rng r2349
      have hP9 : va_P (dC, dI) classes (wX g c v F rc) H := hP
      exact W.iret (v := r2349) hx hb hr (fun t ht hW => ⟨⟨r2349, (), rfl, trivial, (by show va_P _ _ _ t.heap; rw [ht]; exact hP9)⟩, hS.F ht⟩) hS.2.2 dX11_ofPart_103
    · refine lv_tableIn (off := 89) (tgt := 104) hx hb dX11_ofPart_15 hlo2340 hhi2341 (by rw [hk]; decide) (by decide) ?_
      refine lv_aload_n hx hb dX11_ofPart_104 rfl (lv_at hl 0 rfl) ?_
      refine va_get (D := (dC, dI)) (ci := 11) (v := .ref (g 3)) (C := RX11) (T := TX11) (N := 14) hx hb hwd inA_X11 hown hK hP 0 rfl rfl 2 (by decide) (hwd _ wk_27) (fun _ h9 => h9) rfl dX11_ofPart_105 ?_
      refine lv_iload_n hx hb dX11_ofPart_108 rfl (lv_at hl 1 rfl) ?_
      refine lv_iconst (v := 1) hx hb dX11_ofPart_109 (by decide) ?_
      refine va_calli (va_runV (As := [.int p0, .int 1]) (rest := []) ⟨hx, hb, hml, hown, hwd⟩ (c_X7_usedOf l dC dI g c adK adV v F rc H.size p0 1 hg hI (by omega) (by have : (1 : Int32).toInt = 1 := (by decide); omega)) (cwV 2 hwd (gV wk_369 wk_665 wk_367 wk_368 wk_26) rfl rfl rfl (by decide +kernel) ⟨Nat.le_of_ble_eq_true rfl, Nat.le_of_ble_eq_true rfl⟩) ⟨PX.blind, va_recv hK hP (ci := 7) (q0 := 3) rfl rfl, fun U hU hW => ⟨rfl, PX.at hK hE hP hS hU hW⟩⟩ rfl rfl hl.1 rfl (lv_room (Nat.le_of_ble_eq_true rfl)) dX11_ofPart_110 ⟨Nat.le_of_ble_eq_true rfl, Nat.le_of_ble_eq_true rfl⟩) hS (fun q _ h => (freeX hS) q h) (freeX hS) (fun r2350 u t H1 locs ht hvm hw hB hz1 hk1 hS => ?_)
      unfold BX at hB
      rw [ht] at hB
      have hP : va_P (dC, dI) classes (wX g c v F rc) H1 := hB
      generalize H1 = H at hP hS ⊢
      have rr_r2350 := i32_rng r2350
      have hP9 : va_P (dC, dI) classes (wX g c v F rc) H := hP
      exact W.iret (v := r2350) hx hb hr (fun t ht hW => ⟨⟨r2350, (), rfl, trivial, (by show va_P _ _ _ t.heap; rw [ht]; exact hP9)⟩, hS.F ht⟩) hS.2.2 dX11_ofPart_113
    · refine lv_tableIn (off := 99) (tgt := 114) hx hb dX11_ofPart_15 hlo2340 hhi2341 (by rw [hk]; decide) (by decide) ?_
      refine lv_aload_n hx hb dX11_ofPart_114 rfl (lv_at hl 0 rfl) ?_
      refine va_get (D := (dC, dI)) (ci := 11) (v := .ref (g 3)) (C := RX11) (T := TX11) (N := 14) hx hb hwd inA_X11 hown hK hP 0 rfl rfl 2 (by decide) (hwd _ wk_27) (fun _ h9 => h9) rfl dX11_ofPart_115 ?_
      refine lv_iload_n hx hb dX11_ofPart_118 rfl (lv_at hl 1 rfl) ?_
      refine lv_iconst (v := 2) hx hb dX11_ofPart_119 (by decide) ?_
      refine va_calli (va_runV (As := [.int p0, .int 2]) (rest := []) ⟨hx, hb, hml, hown, hwd⟩ (c_X7_usedOf l dC dI g c adK adV v F rc H.size p0 2 hg hI (by omega) (by have : (2 : Int32).toInt = 2 := (by decide); omega)) (cwV 2 hwd (gV wk_369 wk_665 wk_367 wk_368 wk_26) rfl rfl rfl (by decide +kernel) ⟨Nat.le_of_ble_eq_true rfl, Nat.le_of_ble_eq_true rfl⟩) ⟨PX.blind, va_recv hK hP (ci := 7) (q0 := 3) rfl rfl, fun U hU hW => ⟨rfl, PX.at hK hE hP hS hU hW⟩⟩ rfl rfl hl.1 rfl (lv_room (Nat.le_of_ble_eq_true rfl)) dX11_ofPart_120 ⟨Nat.le_of_ble_eq_true rfl, Nat.le_of_ble_eq_true rfl⟩) hS (fun q _ h => (freeX hS) q h) (freeX hS) (fun r2351 u t H1 locs ht hvm hw hB hz1 hk1 hS => ?_)
      unfold BX at hB
      rw [ht] at hB
      have hP : va_P (dC, dI) classes (wX g c v F rc) H1 := hB
      generalize H1 = H at hP hS ⊢
      have rr_r2351 := i32_rng r2351
      have hP9 : va_P (dC, dI) classes (wX g c v F rc) H := hP
      exact W.iret (v := r2351) hx hb hr (fun t ht hW => ⟨⟨r2351, (), rfl, trivial, (by show va_P _ _ _ t.heap; rw [ht]; exact hP9)⟩, hS.F ht⟩) hS.2.2 dX11_ofPart_123
    · refine lv_tableIn (off := 109) (tgt := 124) hx hb dX11_ofPart_15 hlo2340 hhi2341 (by rw [hk]; decide) (by decide) ?_
      refine lv_aload_n hx hb dX11_ofPart_124 rfl (lv_at hl 0 rfl) ?_
      refine va_get (D := (dC, dI)) (ci := 11) (v := .ref (g 4)) (C := RX11) (T := TX11) (N := 14) hx hb hwd inA_X11 hown hK hP 0 rfl rfl 3 (by decide) (hwd _ wk_23) (fun _ h9 => h9) rfl dX11_ofPart_125 ?_
      refine lv_iload_n hx hb dX11_ofPart_128 rfl (lv_at hl 1 rfl) ?_
      refine va_calli (va_runV (As := [.int p0]) (rest := []) ⟨hx, hb, hml, hown, hwd⟩ (c_X9_countOf l dC dI g c adK adV v F rc H.size p0 hg hI (by omega)) (cwV 1 hwd (gV wk_669 wk_666 wk_667 wk_668 wk_22) rfl rfl rfl (by decide +kernel) ⟨Nat.le_of_ble_eq_true rfl, Nat.le_of_ble_eq_true rfl⟩) ⟨PX.blind, va_recv hK hP (ci := 9) (q0 := 4) rfl rfl, fun U hU hW => ⟨rfl, PX.at hK hE hP hS hU hW⟩⟩ rfl rfl hl.1 rfl (lv_room (Nat.le_of_ble_eq_true rfl)) dX11_ofPart_129 ⟨Nat.le_of_ble_eq_true rfl, Nat.le_of_ble_eq_true rfl⟩) hS (fun q _ h => (freeX hS) q h) (freeX hS) (fun r2352 u t H1 locs ht hvm hw hB hz1 hk1 hS => ?_)
      unfold BX at hB
      rw [ht] at hB
      have hP : va_P (dC, dI) classes (wX g c v F rc) H1 := hB
      generalize H1 = H at hP hS ⊢
      have rr_r2352 := i32_rng r2352
      have hP9 : va_P (dC, dI) classes (wX g c v F rc) H := hP
      exact W.iret (v := r2352) hx hb hr (fun t ht hW => ⟨⟨r2352, (), rfl, trivial, (by show va_P _ _ _ t.heap; rw [ht]; exact hP9)⟩, hS.F ht⟩) hS.2.2 dX11_ofPart_132
    · refine lv_tableIn (off := 118) (tgt := 133) hx hb dX11_ofPart_15 hlo2340 hhi2341 (by rw [hk]; decide) (by decide) ?_
      refine lv_aload_n hx hb dX11_ofPart_133 rfl (lv_at hl 0 rfl) ?_
      refine va_get (D := (dC, dI)) (ci := 11) (v := .ref (g 4)) (C := RX11) (T := TX11) (N := 14) hx hb hwd inA_X11 hown hK hP 0 rfl rfl 3 (by decide) (hwd _ wk_23) (fun _ h9 => h9) rfl dX11_ofPart_134 ?_
      refine lv_iload_n hx hb dX11_ofPart_137 rfl (lv_at hl 1 rfl) ?_
      refine va_calli (va_runV (As := [.int p0]) (rest := []) ⟨hx, hb, hml, hown, hwd⟩ (c_X9_gapsOf l dC dI g c adK adV v F rc H.size p0 hg hI (by omega)) (cwV 1 hwd (gV wk_673 wk_670 wk_671 wk_672 wk_22) rfl rfl rfl (by decide +kernel) ⟨Nat.le_of_ble_eq_true rfl, Nat.le_of_ble_eq_true rfl⟩) ⟨PX.blind, va_recv hK hP (ci := 9) (q0 := 4) rfl rfl, fun U hU hW => ⟨rfl, PX.at hK hE hP hS hU hW⟩⟩ rfl rfl hl.1 rfl (lv_room (Nat.le_of_ble_eq_true rfl)) dX11_ofPart_138 ⟨Nat.le_of_ble_eq_true rfl, Nat.le_of_ble_eq_true rfl⟩) hS (fun q _ h => (freeX hS) q h) (freeX hS) (fun r2353 u t H1 locs ht hvm hw hB hz1 hk1 hS => ?_)
      unfold BX at hB
      rw [ht] at hB
      have hP : va_P (dC, dI) classes (wX g c v F rc) H1 := hB
      generalize H1 = H at hP hS ⊢
      have rr_r2353 := i32_rng r2353
      have hP9 : va_P (dC, dI) classes (wX g c v F rc) H := hP
      exact W.iret (v := r2353) hx hb hr (fun t ht hW => ⟨⟨r2353, (), rfl, trivial, (by show va_P _ _ _ t.heap; rw [ht]; exact hP9)⟩, hS.F ht⟩) hS.2.2 dX11_ofPart_141
    · refine lv_tableIn (off := 127) (tgt := 142) hx hb dX11_ofPart_15 hlo2340 hhi2341 (by rw [hk]; decide) (by decide) ?_
      refine lv_aload_n hx hb dX11_ofPart_142 rfl (lv_at hl 0 rfl) ?_
      refine va_get (D := (dC, dI)) (ci := 11) (v := .ref (g 3)) (C := RX11) (T := TX11) (N := 14) hx hb hwd inA_X11 hown hK hP 0 rfl rfl 2 (by decide) (hwd _ wk_27) (fun _ h9 => h9) rfl dX11_ofPart_143 ?_
      refine lv_iload_n hx hb dX11_ofPart_146 rfl (lv_at hl 1 rfl) ?_
      refine lv_aload_n hx hb dX11_ofPart_147 rfl (lv_at hl 0 rfl) ?_
      refine va_get (D := (dC, dI)) (ci := 11) (v := .int (v 11)) (C := RX11) (T := TX11) (N := 14) hx hb hwd inA_X11 hown hK hP 0 rfl rfl 11 (by decide) (hwd _ wk_323) (fun _ h9 => h9) rfl dX11_ofPart_148 ?_
      have t2354 : 0 ≤ (v 11).toInt ∧ (v 11).toInt ≤ 9999 := hI.1 11 _ _ rfl
      refine va_calli (va_runV (As := [.int p0, .int (v 11)]) (rest := []) ⟨hx, hb, hml, hown, hwd⟩ (c_X7_whyCantBe l dC dI g c adK adV v F rc H.size p0 (v 11) hg hI (by omega)) (cwV 2 hwd (gV wk_677 wk_674 wk_675 wk_676 wk_26) rfl rfl rfl (by decide +kernel) ⟨Nat.le_of_ble_eq_true rfl, Nat.le_of_ble_eq_true rfl⟩) ⟨PX.blind, va_recv hK hP (ci := 7) (q0 := 3) rfl rfl, fun U hU hW => ⟨rfl, PX.at hK hE hP hS hU hW⟩⟩ rfl rfl hl.1 rfl (lv_room (Nat.le_of_ble_eq_true rfl)) dX11_ofPart_151 ⟨Nat.le_of_ble_eq_true rfl, Nat.le_of_ble_eq_true rfl⟩) hS (fun q _ h => (freeX hS) q h) (freeX hS) (fun r2355 u t H1 locs ht hvm hw hB hz1 hk1 hS => ?_)
      unfold BX at hB
      rw [ht] at hB
      have hP : va_P (dC, dI) classes (wX g c v F rc) H1 := hB
      generalize H1 = H at hP hS ⊢
      have rr_r2355 := i32_rng r2355
      have hP9 : va_P (dC, dI) classes (wX g c v F rc) H := hP
      exact W.iret (v := r2355) hx hb hr (fun t ht hW => ⟨⟨r2355, (), rfl, trivial, (by show va_P _ _ _ t.heap; rw [ht]; exact hP9)⟩, hS.F ht⟩) hS.2.2 dX11_ofPart_154
  · skip
    have t2356 := cv_eq (a := r2337.toInt) rfl (b := 0) (by decide) c2338
    refine lv_ldc (v := (-2000000000)) hx hb hown (hwd _ wk_56) dX11_ofPart_11 ?_
    have hP9 : va_P (dC, dI) classes (wX g c v F rc) H := hP
    exact W.iret (v := (-2000000000)) hx hb hr (fun t ht hW => ⟨⟨(-2000000000), (), rfl, trivial, (by show va_P _ _ _ t.heap; rw [ht]; exact hP9)⟩, hS.F ht⟩) hS.2.2 dX11_ofPart_13
set_option maxHeartbeats 8000000 in
set_option maxRecDepth 100000 in
theorem c_X11_left (l : Launch) (dC : Nat → ClassId) (dI : Nat → Nat → Nat) (g : Nat → Nat) (c : Nat → ClassId) (adK adV : Nat → Nat) (v : Nat → Int32) (F : Nat → Nat → Int32) (rc sz : Nat) (p0 : Int32) (p1 : Int32) (p2 : Int32) (hg : injX g) (hI : IX v F) : Met l yX11_left (Cond.code yX11_left cX11_left 4 (some .int) :: wA) ({ frames := 6, cells := 0, slots := 0, locals := 240 }) (va_Pc [.ref (g 0), .int p0, .int p1, .int p2] (PX dC dI g c adK adV v F rc sz)) (va_Qi (fun (r : Int32) (u : StX) => IX u.1 u.2.1 ∧ alX u.1 u.2.1 = alX v F ∧ u.2.2 = rc ∧ (∀ k, k ∉ ([126] : List Nat) → u.1 k = v k) ∧ True) (BX dC dI g c) (AX g sz)) 0 0 (AX g sz) := by
  refine Met.ofW (cc := cX11_left) (maxL := 4) (ret := (some .int)) (by decide) rfl ?_
  intro p e s m args below meth c0 s₁ B hml hv
  obtain ⟨rfl, hsz, hP, hK, hE⟩ := hv
  have hx := B.exec
  have hb := B.bytes
  have hr := B.returns
  have hts := atoms_spec (ws := Cond.code yX11_left cX11_left 4 (some .int) :: wA) B.pre
  have hwd : ∀ w ∈ wA, w.before _ s = true := fun w h => hts w (List.mem_cons_of_mem _ h)
  have hown : s.vm.findClass RX11 = some m.cls := findClass_of_methodNamed B.named
  have hlocks := B.notSynchronized
  subst hsz
  have hl := lv_entry ([.ref (g 0), .int p0, .int p1, .int p2]) (n := 4) (Nat.le_of_ble_eq_true rfl)
  rw [lg_entry_eq]
  generalize (lg_sl ([.ref (g 0), .int p0, .int p1, .int p2]) ++ List.replicate (4 - (lg_sl ([.ref (g 0), .int p0, .int p1, .int p2])).length) Slot.unset).toArray = ls at hl ⊢
  have hl : lv_has ls 4 [(0, .ref (g 0)), (1, .int p0), (2, .int p1), (3, .int p2)] := hl
  obtain ⟨H, eH⟩ : ∃ z, z = s.heap := ⟨_, rfl⟩
  have hP : va_P (dC, dI) classes (wX g c v F rc) H := by rw [eH]; exact hP
  have hS : va_S (AX g s.heap.size) s.heap H [] := by rw [eH]; exact va_S.rf
  refine my_heap eH ?_
  have hal : alX v F = alX v F := rfl
  have rp0 := i32_rng p0
  have rp1 := i32_rng p1
  have rp2 := i32_rng p2
  refine lv_aload_n hx hb dX11_left_0 rfl (lv_at hl 0 rfl) ?_
  refine va_get (D := (dC, dI)) (ci := 11) (v := .ref (g 3)) (C := RX11) (T := TX11) (N := 14) hx hb hwd inA_X11 hown hK hP 0 rfl rfl 2 (by decide) (hwd _ wk_27) (fun _ h9 => h9) rfl dX11_left_1 ?_
  refine lv_iload_n hx hb dX11_left_4 rfl (lv_at hl 1 rfl) ?_
  refine va_calli (va_runV (As := [.int p0]) (rest := []) ⟨hx, hb, hml, hown, hwd⟩ (c_X7_has l dC dI g c adK adV v F rc H.size p0 hg hI ) (cwV 1 hwd (gV wk_605 wk_602 wk_603 wk_604 wk_26) rfl rfl rfl (by decide +kernel) ⟨Nat.le_of_ble_eq_true rfl, Nat.le_of_ble_eq_true rfl⟩) ⟨PX.blind, va_recv hK hP (ci := 7) (q0 := 3) rfl rfl, fun U hU hW => ⟨rfl, PX.at hK hE hP hS hU hW⟩⟩ rfl rfl hl.1 rfl (lv_room (Nat.le_of_ble_eq_true rfl)) dX11_left_5 ⟨Nat.le_of_ble_eq_true rfl, Nat.le_of_ble_eq_true rfl⟩) hS (fun q _ h => (freeX hS) q h) (freeX hS) (fun r2357 u t H1 locs ht hvm hw hB hz1 hk1 hS => ?_)
  unfold BX at hB
  rw [ht] at hB
  have hP : va_P (dC, dI) classes (wX g c v F rc) H1 := hB
  have hw : (0 ≤ r2357.toInt ∧ r2357.toInt ≤ 1) ∧ (r2357.toInt = 1 → 0 ≤ p0.toInt ∧ p0.toInt < 100) := hw
  generalize H1 = H at hP hS ⊢
  have hw_r2357 := hw
  refine lv_if_eq (tgt := 27) hx hb dX11_left_8 (by decide) (fun c2358 => ?_) (fun c2358 => ?_)
  · skip
    have t2359 := cv_eq (a := r2357.toInt) rfl (b := 0) (by decide) c2358
    refine lv_ldc (v := (-2000000000)) hx hb hown (hwd _ wk_56) dX11_left_27 ?_
    have hP9 : va_P (dC, dI) classes (wX g c v F rc) H := hP
    exact W.iret (v := (-2000000000)) hx hb hr (fun t ht hW => ⟨⟨(-2000000000), (v, F, rc), rfl, ⟨hI, hal, rfl, (fun _ _ => rfl), trivial⟩, (by show va_P _ _ _ t.heap; rw [ht]; exact hP9)⟩, hS.F ht⟩) hS.2.2 dX11_left_29
  · skip
    have t2360 := cv_ne (a := r2357.toInt) rfl (b := 0) (by decide) c2358
    refine lv_iload_n hx hb dX11_left_11 rfl (lv_at hl 2 rfl) ?_
    refine lv_iconst (v := 0) hx hb dX11_left_12 (by decide) ?_
    refine lv_iconst (v := 2) hx hb dX11_left_13 (by decide) ?_
    refine va_calli (va_runS (As := [.int p1, .int 0, .int 2]) (rest := []) ⟨hx, hb, hml, hown, hwd⟩ (c_X11_within l dC dI g c adK adV v F rc H.size p1 0 2 hg hI ) (va_cwS 3 hwd (gT wk_239 wk_237 wk_238 wk_2) rfl rfl rfl (by decide +kernel) ⟨Nat.le_of_ble_eq_true rfl, Nat.le_of_ble_eq_true rfl⟩) ⟨PX.blind, fun U hU hW => ⟨rfl, PX.at hK hE hP hS hU hW⟩⟩ rfl rfl hl.1 rfl (lv_room (Nat.le_of_ble_eq_true rfl)) dX11_left_14 ⟨Nat.le_of_ble_eq_true rfl, Nat.le_of_ble_eq_true rfl⟩) hS (fun q _ h => (freeX hS) q h) (freeX hS) (fun r2361 u t H1 locs ht hvm hw hB hz1 hk1 hS => ?_)
    unfold BX at hB
    rw [ht] at hB
    have hP : va_P (dC, dI) classes (wX g c v F rc) H1 := hB
    have hw : (r2361.toInt = 1 ∧ (0 : Int32).toInt ≤ p1.toInt ∧ p1.toInt ≤ (2 : Int32).toInt) ∨ (r2361.toInt = 0 ∧ (p1.toInt < (0 : Int32).toInt ∨ (2 : Int32).toInt < p1.toInt)) := hw
    have k2362 : (0 : Int32).toInt = 0 := by decide
    have k2363 : (2 : Int32).toInt = 2 := by decide
    generalize H1 = H at hP hS ⊢
    have hw_r2361 := hw
    refine lv_if_eq (tgt := 27) hx hb dX11_left_17 (by decide) (fun c2364 => ?_) (fun c2364 => ?_)
    · skip
      have t2365 := cv_eq (a := r2361.toInt) rfl (b := 0) (by decide) c2364
      refine lv_ldc (v := (-2000000000)) hx hb hown (hwd _ wk_56) dX11_left_27 ?_
      have hP9 : va_P (dC, dI) classes (wX g c v F rc) H := hP
      exact W.iret (v := (-2000000000)) hx hb hr (fun t ht hW => ⟨⟨(-2000000000), (v, F, rc), rfl, ⟨hI, hal, rfl, (fun _ _ => rfl), trivial⟩, (by show va_P _ _ _ t.heap; rw [ht]; exact hP9)⟩, hS.F ht⟩) hS.2.2 dX11_left_29
    · skip
      have t2366 := cv_ne (a := r2361.toInt) rfl (b := 0) (by decide) c2364
      refine lv_iload_n hx hb dX11_left_20 rfl (lv_at hl 3 rfl) ?_
      refine va_calli (va_runS (As := [.int p2]) (rest := []) ⟨hx, hb, hml, hown, hwd⟩ (c_X11_isDay l dC dI g c adK adV v F rc H.size p2 hg hI ) (va_cwS 1 hwd (gT wk_549 wk_547 wk_548 wk_2) rfl rfl rfl (by decide +kernel) ⟨Nat.le_of_ble_eq_true rfl, Nat.le_of_ble_eq_true rfl⟩) ⟨PX.blind, fun U hU hW => ⟨rfl, PX.at hK hE hP hS hU hW⟩⟩ rfl rfl hl.1 rfl (lv_room (Nat.le_of_ble_eq_true rfl)) dX11_left_21 ⟨Nat.le_of_ble_eq_true rfl, Nat.le_of_ble_eq_true rfl⟩) hS (fun q _ h => (freeX hS) q h) (freeX hS) (fun r2367 u t H1 locs ht hvm hw hB hz1 hk1 hS => ?_)
      unfold BX at hB
      rw [ht] at hB
      have hP : va_P (dC, dI) classes (wX g c v F rc) H1 := hB
      have hw : (r2367.toInt = 1 ∧ 0 ≤ p2.toInt ∧ p2.toInt ≤ 9999) ∨ (r2367.toInt = 0 ∧ (p2.toInt < 0 ∨ 9999 < p2.toInt)) := hw
      generalize H1 = H at hP hS ⊢
      have hw_r2367 := hw
      refine lv_if_ne (tgt := 30) hx hb dX11_left_24 (by decide) (fun c2368 => ?_) (fun c2368 => ?_)
      · skip
        have t2369 := cv_ne (a := r2367.toInt) rfl (b := 0) (by decide) c2368
        refine lv_aload_n hx hb dX11_left_30 rfl (lv_at hl 0 rfl) ?_
        refine va_get (D := (dC, dI)) (ci := 11) (v := .ref (g 1)) (C := RX11) (T := TX11) (N := 14) hx hb hwd inA_X11 hown hK hP 0 rfl rfl 0 (by decide) (hwd _ wk_15) (fun _ h9 => h9) rfl dX11_left_31 ?_
        refine lv_aload_n hx hb dX11_left_34 rfl (lv_at hl 0 rfl) ?_
        refine va_get (D := (dC, dI)) (ci := 11) (v := .ref (g 3)) (C := RX11) (T := TX11) (N := 14) hx hb hwd inA_X11 hown hK hP 0 rfl rfl 2 (by decide) (hwd _ wk_27) (fun _ h9 => h9) rfl dX11_left_35 ?_
        refine va_get (D := (dC, dI)) (ci := 7) (v := .ref (g 24)) (C := RX7) (T := TX7) (N := 7) hx hb hwd inA_X7 hown hK hP 3 rfl rfl 2 (by decide) (hwd _ wk_601) (fun _ h9 => h9) rfl dX11_left_38 ?_
        refine lv_iload_n hx hb dX11_left_41 rfl (lv_at hl 1 rfl) ?_
        refine va_iald hx hb hK hP 24 12 rfl rfl (i := p0) (vin (a := p0.toInt) rfl (by omega)) dX11_left_42 ?_
        refine lv_topi (fun z2370 e2371 => ?_)
        have t2372 : 0 ≤ z2370.toInt ∧ z2370.toInt ≤ 9 := by rw [e2371]; exact hI.2 24 _ _ rfl _
        refine lv_iload_n hx hb dX11_left_43 rfl (lv_at hl 2 rfl) ?_
        refine va_calli (va_runV (As := [.int z2370, .int p1]) (rest := []) ⟨hx, hb, hml, hown, hwd⟩ (c_X2_limitOf l dC dI g c adK adV v F rc H.size z2370 p1 hg hI (by omega) (by omega)) (cwV 2 hwd (gV wk_365 wk_762 wk_363 wk_364 wk_14) rfl rfl rfl (by decide +kernel) ⟨Nat.le_of_ble_eq_true rfl, Nat.le_of_ble_eq_true rfl⟩) ⟨PX.blind, va_recv hK hP (ci := 2) (q0 := 1) rfl rfl, fun U hU hW => ⟨rfl, PX.at hK hE hP hS hU hW⟩⟩ rfl rfl hl.1 rfl (lv_room (Nat.le_of_ble_eq_true rfl)) dX11_left_44 ⟨Nat.le_of_ble_eq_true rfl, Nat.le_of_ble_eq_true rfl⟩) hS (fun q _ h => (freeX hS) q h) (freeX hS) (fun r2373 u t H1 locs ht hvm hw hB hz1 hk1 hS => ?_)
        unfold BX at hB
        rw [ht] at hB
        have hP : va_P (dC, dI) classes (wX g c v F rc) H1 := hB
        generalize H1 = H at hP hS ⊢
        have rr_r2373 := i32_rng r2373
        refine lv_if_ne (tgt := 53) hx hb dX11_left_47 (by decide) (fun c2374 => ?_) (fun c2374 => ?_)
        · skip
          have t2375 := cv_ne (a := r2373.toInt) rfl (b := 0) (by decide) c2374
          refine lv_aload_n hx hb dX11_left_53 rfl (lv_at hl 0 rfl) ?_
          refine va_get (D := (dC, dI)) (ci := 11) (v := .ref (g 10)) (C := RX11) (T := TX11) (N := 14) hx hb hwd inA_X11 hown hK hP 0 rfl rfl 9 (by decide) (hwd _ wk_51) (fun _ h9 => h9) rfl dX11_left_54 ?_
          refine lv_iload_n hx hb dX11_left_57 rfl (lv_at hl 1 rfl) ?_
          refine lv_iload_n hx hb dX11_left_58 rfl (lv_at hl 3 rfl) ?_
          refine va_callv (va_runV (As := [.int p0, .int p2]) (rest := []) ⟨hx, hb, hml, hown, hwd⟩ (c_X5_reckon l dC dI g c adK adV v F rc H.size p0 p2 hg hI (by omega)) (cwV 2 hwd (gV wk_359 wk_763 wk_357 wk_358 wk_50) rfl rfl rfl (by decide +kernel) ⟨Nat.le_of_ble_eq_true rfl, Nat.le_of_ble_eq_true rfl⟩) ⟨PX.blind, va_recv hK hP (ci := 5) (q0 := 10) rfl rfl, fun U hU hW => ⟨rfl, PX.at hK hE hP hS hU hW⟩⟩ rfl rfl hl.1 rfl (lv_room (Nat.le_of_ble_eq_true rfl)) dX11_left_59 ⟨Nat.le_of_ble_eq_true rfl, Nat.le_of_ble_eq_true rfl⟩) hS (fun q _ h => (freeX hS) q h) (freeX hS) (fun u t H1 locs ht hvm hw hB hz1 hk1 hS => ?_)
          unfold BX at hB
          rw [ht] at hB
          obtain ⟨v2377, F2378, rc9⟩ := u
          obtain ⟨hI, hal9, hrc, hf2379, hw⟩ := hw
          dsimp only at hI hal9 hrc hB hf2379 hw
          rw [hrc] at hB
          have hal := hal9.trans hal
          have hP : va_P (dC, dI) classes (wX g c v2377 F2378 rc) H1 := hB
          generalize H1 = H at hP hS ⊢
          refine lv_aload_n hx hb dX11_left_62 rfl (lv_at hl 0 rfl) ?_
          refine va_get (D := (dC, dI)) (ci := 11) (v := .ref (g 10)) (C := RX11) (T := TX11) (N := 14) hx hb hwd inA_X11 hown hK hP 0 rfl rfl 9 (by decide) (hwd _ wk_51) (fun _ h9 => h9) rfl dX11_left_63 ?_
          refine va_get (D := (dC, dI)) (ci := 5) (v := .ref (g 74)) (C := RX5) (T := TX5) (N := 6) hx hb hwd inA_X5 hown hK hP 10 rfl rfl 5 (by decide) (hwd _ wk_761) (fun _ h9 => h9) rfl dX11_left_66 ?_
          refine lv_iload_n hx hb dX11_left_69 rfl (lv_at hl 2 rfl) ?_
          refine va_iald hx hb hK hP 74 62 rfl rfl (i := p1) (vin (a := p1.toInt) rfl (by omega)) dX11_left_70 ?_
          refine lv_topi (fun z2380 e2381 => ?_)
          have hP9 : va_P (dC, dI) classes (wX g c v2377 F2378 rc) H := hP
          exact W.iret (v := z2380) hx hb hr (fun t ht hW => ⟨⟨z2380, (v2377, F2378, rc), rfl, ⟨hI, hal, rfl, (frC (by decide) hf2379 (fun _ _ => rfl)), trivial⟩, (by show va_P _ _ _ t.heap; rw [ht]; exact hP9)⟩, hS.F ht⟩) hS.2.2 dX11_left_71
        · skip
          have t2382 := cv_eq (a := r2373.toInt) rfl (b := 0) (by decide) c2374
          refine lv_ldc (v := (-2000000000)) hx hb hown (hwd _ wk_56) dX11_left_50 ?_
          have hP9 : va_P (dC, dI) classes (wX g c v F rc) H := hP
          exact W.iret (v := (-2000000000)) hx hb hr (fun t ht hW => ⟨⟨(-2000000000), (v, F, rc), rfl, ⟨hI, hal, rfl, (fun _ _ => rfl), trivial⟩, (by show va_P _ _ _ t.heap; rw [ht]; exact hP9)⟩, hS.F ht⟩) hS.2.2 dX11_left_52
      · skip
        have t2383 := cv_eq (a := r2367.toInt) rfl (b := 0) (by decide) c2368
        refine lv_ldc (v := (-2000000000)) hx hb hown (hwd _ wk_56) dX11_left_27 ?_
        have hP9 : va_P (dC, dI) classes (wX g c v F rc) H := hP
        exact W.iret (v := (-2000000000)) hx hb hr (fun t ht hW => ⟨⟨(-2000000000), (v, F, rc), rfl, ⟨hI, hal, rfl, (fun _ _ => rfl), trivial⟩, (by show va_P _ _ _ t.heap; rw [ht]; exact hP9)⟩, hS.F ht⟩) hS.2.2 dX11_left_29
set_option maxHeartbeats 8000000 in
set_option maxRecDepth 100000 in
theorem c_X11_least (l : Launch) (dC : Nat → ClassId) (dI : Nat → Nat → Nat) (g : Nat → Nat) (c : Nat → ClassId) (adK adV : Nat → Nat) (v : Nat → Int32) (F : Nat → Nat → Int32) (rc sz : Nat) (p0 : Int32) (p1 : Int32) (hg : injX g) (hI : IX v F) : Met l yX11_least (Cond.code yX11_least cX11_least 4 (some .int) :: wA) ({ frames := 7, cells := 0, slots := 0, locals := 280 }) (va_Pc [.ref (g 0), .int p0, .int p1] (PX dC dI g c adK adV v F rc sz)) (va_Qi (fun (r : Int32) (u : StX) => IX u.1 u.2.1 ∧ alX u.1 u.2.1 = alX v F ∧ u.2.2 = rc ∧ (∀ k, k ∉ ([126] : List Nat) → u.1 k = v k) ∧ True) (BX dC dI g c) (AX g sz)) 0 0 (AX g sz) := by
  refine Met.ofW (cc := cX11_least) (maxL := 4) (ret := (some .int)) (by decide) rfl ?_
  intro p e s m args below meth c0 s₁ B hml hv
  obtain ⟨rfl, hsz, hP, hK, hE⟩ := hv
  have hx := B.exec
  have hb := B.bytes
  have hr := B.returns
  have hts := atoms_spec (ws := Cond.code yX11_least cX11_least 4 (some .int) :: wA) B.pre
  have hwd : ∀ w ∈ wA, w.before _ s = true := fun w h => hts w (List.mem_cons_of_mem _ h)
  have hown : s.vm.findClass RX11 = some m.cls := findClass_of_methodNamed B.named
  have hlocks := B.notSynchronized
  subst hsz
  have hl := lv_entry ([.ref (g 0), .int p0, .int p1]) (n := 4) (Nat.le_of_ble_eq_true rfl)
  rw [lg_entry_eq]
  generalize (lg_sl ([.ref (g 0), .int p0, .int p1]) ++ List.replicate (4 - (lg_sl ([.ref (g 0), .int p0, .int p1])).length) Slot.unset).toArray = ls at hl ⊢
  have hl : lv_has ls 4 [(0, .ref (g 0)), (1, .int p0), (2, .int p1)] := hl
  obtain ⟨H, eH⟩ : ∃ z, z = s.heap := ⟨_, rfl⟩
  have hP : va_P (dC, dI) classes (wX g c v F rc) H := by rw [eH]; exact hP
  have hS : va_S (AX g s.heap.size) s.heap H [] := by rw [eH]; exact va_S.rf
  refine my_heap eH ?_
  have hal : alX v F = alX v F := rfl
  have rp0 := i32_rng p0
  have rp1 := i32_rng p1
  refine lv_aload_n hx hb dX11_least_0 rfl (lv_at hl 0 rfl) ?_
  refine va_get (D := (dC, dI)) (ci := 11) (v := .ref (g 3)) (C := RX11) (T := TX11) (N := 14) hx hb hwd inA_X11 hown hK hP 0 rfl rfl 2 (by decide) (hwd _ wk_27) (fun _ h9 => h9) rfl dX11_least_1 ?_
  refine lv_iload_n hx hb dX11_least_4 rfl (lv_at hl 1 rfl) ?_
  refine va_calli (va_runV (As := [.int p0]) (rest := []) ⟨hx, hb, hml, hown, hwd⟩ (c_X7_has l dC dI g c adK adV v F rc H.size p0 hg hI ) (cwV 1 hwd (gV wk_605 wk_602 wk_603 wk_604 wk_26) rfl rfl rfl (by decide +kernel) ⟨Nat.le_of_ble_eq_true rfl, Nat.le_of_ble_eq_true rfl⟩) ⟨PX.blind, va_recv hK hP (ci := 7) (q0 := 3) rfl rfl, fun U hU hW => ⟨rfl, PX.at hK hE hP hS hU hW⟩⟩ rfl rfl hl.1 rfl (lv_room (Nat.le_of_ble_eq_true rfl)) dX11_least_5 ⟨Nat.le_of_ble_eq_true rfl, Nat.le_of_ble_eq_true rfl⟩) hS (fun q _ h => (freeX hS) q h) (freeX hS) (fun r2384 u t H1 locs ht hvm hw hB hz1 hk1 hS => ?_)
  unfold BX at hB
  rw [ht] at hB
  have hP : va_P (dC, dI) classes (wX g c v F rc) H1 := hB
  have hw : (0 ≤ r2384.toInt ∧ r2384.toInt ≤ 1) ∧ (r2384.toInt = 1 → 0 ≤ p0.toInt ∧ p0.toInt < 100) := hw
  generalize H1 = H at hP hS ⊢
  have hw_r2384 := hw
  refine lv_if_eq (tgt := 18) hx hb dX11_least_8 (by decide) (fun c2385 => ?_) (fun c2385 => ?_)
  · skip
    have t2386 := cv_eq (a := r2384.toInt) rfl (b := 0) (by decide) c2385
    refine lv_iconst (v := (-1)) hx hb dX11_least_18 (by decide) ?_
    have hP9 : va_P (dC, dI) classes (wX g c v F rc) H := hP
    exact W.iret (v := (-1)) hx hb hr (fun t ht hW => ⟨⟨(-1), (v, F, rc), rfl, ⟨hI, hal, rfl, (fun _ _ => rfl), trivial⟩, (by show va_P _ _ _ t.heap; rw [ht]; exact hP9)⟩, hS.F ht⟩) hS.2.2 dX11_least_19
  · skip
    have t2387 := cv_ne (a := r2384.toInt) rfl (b := 0) (by decide) c2385
    refine lv_iload_n hx hb dX11_least_11 rfl (lv_at hl 2 rfl) ?_
    refine va_calli (va_runS (As := [.int p1]) (rest := []) ⟨hx, hb, hml, hown, hwd⟩ (c_X11_isDay l dC dI g c adK adV v F rc H.size p1 hg hI ) (va_cwS 1 hwd (gT wk_549 wk_547 wk_548 wk_2) rfl rfl rfl (by decide +kernel) ⟨Nat.le_of_ble_eq_true rfl, Nat.le_of_ble_eq_true rfl⟩) ⟨PX.blind, fun U hU hW => ⟨rfl, PX.at hK hE hP hS hU hW⟩⟩ rfl rfl hl.1 rfl (lv_room (Nat.le_of_ble_eq_true rfl)) dX11_least_12 ⟨Nat.le_of_ble_eq_true rfl, Nat.le_of_ble_eq_true rfl⟩) hS (fun q _ h => (freeX hS) q h) (freeX hS) (fun r2388 u t H1 locs ht hvm hw hB hz1 hk1 hS => ?_)
    unfold BX at hB
    rw [ht] at hB
    have hP : va_P (dC, dI) classes (wX g c v F rc) H1 := hB
    have hw : (r2388.toInt = 1 ∧ 0 ≤ p1.toInt ∧ p1.toInt ≤ 9999) ∨ (r2388.toInt = 0 ∧ (p1.toInt < 0 ∨ 9999 < p1.toInt)) := hw
    generalize H1 = H at hP hS ⊢
    have hw_r2388 := hw
    refine lv_if_ne (tgt := 20) hx hb dX11_least_15 (by decide) (fun c2389 => ?_) (fun c2389 => ?_)
    · skip
      have t2390 := cv_ne (a := r2388.toInt) rfl (b := 0) (by decide) c2389
      refine lv_aload_n hx hb dX11_least_20 rfl (lv_at hl 0 rfl) ?_
      refine va_get (D := (dC, dI)) (ci := 11) (v := .ref (g 10)) (C := RX11) (T := TX11) (N := 14) hx hb hwd inA_X11 hown hK hP 0 rfl rfl 9 (by decide) (hwd _ wk_51) (fun _ h9 => h9) rfl dX11_least_21 ?_
      refine lv_iload_n hx hb dX11_least_24 rfl (lv_at hl 1 rfl) ?_
      refine lv_iload_n hx hb dX11_least_25 rfl (lv_at hl 2 rfl) ?_
      refine va_calli (va_runV (As := [.int p0, .int p1]) (rest := []) ⟨hx, hb, hml, hown, hwd⟩ (c_X5_leastOf l dC dI g c adK adV v F rc H.size p0 p1 hg hI (by omega)) (cwV 2 hwd (gV wk_775 wk_772 wk_773 wk_774 wk_50) rfl rfl rfl (by decide +kernel) ⟨Nat.le_of_ble_eq_true rfl, Nat.le_of_ble_eq_true rfl⟩) ⟨PX.blind, va_recv hK hP (ci := 5) (q0 := 10) rfl rfl, fun U hU hW => ⟨rfl, PX.at hK hE hP hS hU hW⟩⟩ rfl rfl hl.1 rfl (lv_room (Nat.le_of_ble_eq_true rfl)) dX11_least_26 ⟨Nat.le_of_ble_eq_true rfl, Nat.le_of_ble_eq_true rfl⟩) hS (fun q _ h => (freeX hS) q h) (freeX hS) (fun r2391 u t H1 locs ht hvm hw hB hz1 hk1 hS => ?_)
      unfold BX at hB
      rw [ht] at hB
      obtain ⟨v2392, F2393, rc9⟩ := u
      obtain ⟨hI, hal9, hrc, hf2394, hw⟩ := hw
      dsimp only at hI hal9 hrc hB hf2394 hw
      rw [hrc] at hB
      have hal := hal9.trans hal
      have hP : va_P (dC, dI) classes (wX g c v2392 F2393 rc) H1 := hB
      have hw : -1 ≤ r2391.toInt ∧ r2391.toInt ≤ 2 := hw
      generalize H1 = H at hP hS ⊢
      have hw_r2391 := hw
      refine lv_istore_n (lv' := [(3, .int r2391), (0, .ref (g 0)), (1, .int p0), (2, .int p1)]) hx hb dX11_least_29 rfl hl (by decide) rfl (fun ls hl => ?_)
      refine lv_iload_n hx hb dX11_least_30 rfl (lv_at hl 0 rfl) ?_
      refine lv_iconst (v := (-1)) hx hb dX11_least_31 (by decide) ?_
      refine lv_icmp_ne (tgt := 40) hx hb dX11_least_32 (by decide) (fun c2395 => ?_) (fun c2395 => ?_)
      · skip
        have t2396 := cv_ne (a := r2391.toInt) rfl (b := (-1)) (by decide) c2395
        refine lv_iload_n hx hb dX11_least_40 rfl (lv_at hl 0 rfl) ?_
        have hP9 : va_P (dC, dI) classes (wX g c v2392 F2393 rc) H := hP
        exact W.iret (v := r2391) hx hb hr (fun t ht hW => ⟨⟨r2391, (v2392, F2393, rc), rfl, ⟨hI, hal, rfl, (frC (by decide) hf2394 (fun _ _ => rfl)), trivial⟩, (by show va_P _ _ _ t.heap; rw [ht]; exact hP9)⟩, hS.F ht⟩) hS.2.2 dX11_least_41
      · skip
        have t2397 := cv_eq (a := r2391.toInt) rfl (b := (-1)) (by decide) c2395
        refine lv_bipush (v := (-2)) hx hb dX11_least_35 (by decide) ?_
        refine lv_goto (tgt := 41) hx hb dX11_least_37 (by decide) ?_
        have hP9 : va_P (dC, dI) classes (wX g c v2392 F2393 rc) H := hP
        exact W.iret (v := (-2)) hx hb hr (fun t ht hW => ⟨⟨(-2), (v2392, F2393, rc), rfl, ⟨hI, hal, rfl, (frC (by decide) hf2394 (fun _ _ => rfl)), trivial⟩, (by show va_P _ _ _ t.heap; rw [ht]; exact hP9)⟩, hS.F ht⟩) hS.2.2 dX11_least_41
    · skip
      have t2398 := cv_eq (a := r2388.toInt) rfl (b := 0) (by decide) c2389
      refine lv_iconst (v := (-1)) hx hb dX11_least_18 (by decide) ?_
      have hP9 : va_P (dC, dI) classes (wX g c v F rc) H := hP
      exact W.iret (v := (-1)) hx hb hr (fun t ht hW => ⟨⟨(-1), (v, F, rc), rfl, ⟨hI, hal, rfl, (fun _ _ => rfl), trivial⟩, (by show va_P _ _ _ t.heap; rw [ht]; exact hP9)⟩, hS.F ht⟩) hS.2.2 dX11_least_19
set_option maxHeartbeats 8000000 in
set_option maxRecDepth 100000 in
theorem c_X11_stay (l : Launch) (dC : Nat → ClassId) (dI : Nat → Nat → Nat) (g : Nat → Nat) (c : Nat → ClassId) (adK adV : Nat → Nat) (v : Nat → Int32) (F : Nat → Nat → Int32) (rc sz : Nat) (p0 : Int32) (p1 : Int32) (p2 : Int32) (hg : injX g) (hI : IX v F) : Met l yX11_stay (Cond.code yX11_stay cX11_stay 5 (some .int) :: wA) ({ frames := 3, cells := 0, slots := 0, locals := 120 }) (va_Pc [.ref (g 0), .int p0, .int p1, .int p2] (PX dC dI g c adK adV v F rc sz)) (va_Qi (fun (r : Int32) (u : Unit) => True) (fun (_ : Unit) => BX dC dI g c (v, F, rc)) (AX g sz)) 0 0 (AX g sz) := by
  refine Met.ofW (cc := cX11_stay) (maxL := 5) (ret := (some .int)) (by decide) rfl ?_
  intro p e s m args below meth c0 s₁ B hml hv
  obtain ⟨rfl, hsz, hP, hK, hE⟩ := hv
  have hx := B.exec
  have hb := B.bytes
  have hr := B.returns
  have hts := atoms_spec (ws := Cond.code yX11_stay cX11_stay 5 (some .int) :: wA) B.pre
  have hwd : ∀ w ∈ wA, w.before _ s = true := fun w h => hts w (List.mem_cons_of_mem _ h)
  have hown : s.vm.findClass RX11 = some m.cls := findClass_of_methodNamed B.named
  have hlocks := B.notSynchronized
  subst hsz
  have hl := lv_entry ([.ref (g 0), .int p0, .int p1, .int p2]) (n := 5) (Nat.le_of_ble_eq_true rfl)
  rw [lg_entry_eq]
  generalize (lg_sl ([.ref (g 0), .int p0, .int p1, .int p2]) ++ List.replicate (5 - (lg_sl ([.ref (g 0), .int p0, .int p1, .int p2])).length) Slot.unset).toArray = ls at hl ⊢
  have hl : lv_has ls 5 [(0, .ref (g 0)), (1, .int p0), (2, .int p1), (3, .int p2)] := hl
  obtain ⟨H, eH⟩ : ∃ z, z = s.heap := ⟨_, rfl⟩
  have hP : va_P (dC, dI) classes (wX g c v F rc) H := by rw [eH]; exact hP
  have hS : va_S (AX g s.heap.size) s.heap H [] := by rw [eH]; exact va_S.rf
  refine my_heap eH ?_
  have rp0 := i32_rng p0
  have rp1 := i32_rng p1
  have rp2 := i32_rng p2
  refine lv_aload_n hx hb dX11_stay_0 rfl (lv_at hl 0 rfl) ?_
  refine lv_iload_n hx hb dX11_stay_1 rfl (lv_at hl 1 rfl) ?_
  refine lv_iload_n hx hb dX11_stay_2 rfl (lv_at hl 2 rfl) ?_
  refine va_calli (va_runV (As := [.int p0, .int p1]) (rest := []) ⟨hx, hb, hml, hown, hwd⟩ (c_X11_stayAt l dC dI g c adK adV v F rc H.size p0 p1 hg hI ) (cwV 2 hwd (gV wk_793 wk_790 wk_791 wk_792 wk_2) rfl rfl rfl (by decide +kernel) ⟨Nat.le_of_ble_eq_true rfl, Nat.le_of_ble_eq_true rfl⟩) ⟨PX.blind, va_recv hK hP (ci := 11) (q0 := 0) rfl rfl, fun U hU hW => ⟨rfl, PX.at hK hE hP hS hU hW⟩⟩ rfl rfl hl.1 rfl (lv_room (Nat.le_of_ble_eq_true rfl)) dX11_stay_3 ⟨Nat.le_of_ble_eq_true rfl, Nat.le_of_ble_eq_true rfl⟩) hS (fun q _ h => (freeX hS) q h) (freeX hS) (fun r2399 u t H1 locs ht hvm hw hB hz1 hk1 hS => ?_)
  unfold BX at hB
  rw [ht] at hB
  have hP : va_P (dC, dI) classes (wX g c v F rc) H1 := hB
  have hw : (-1 ≤ r2399.toInt ∧ r2399.toInt ≤ 499) ∧ (r2399.toInt = -1 ∨ (0 ≤ p0.toInt ∧ p0.toInt ≤ 99)) := hw
  generalize H1 = H at hP hS ⊢
  have hw_r2399 := hw
  refine lv_istore (lv' := [(4, .int r2399), (0, .ref (g 0)), (1, .int p0), (2, .int p1), (3, .int p2)]) hx hb dX11_stay_6 hl (by decide) rfl (fun ls hl => ?_)
  refine lv_iload hx hb dX11_stay_8 (lv_at hl 0 rfl) ?_
  refine lv_iconst (v := (-1)) hx hb dX11_stay_10 (by decide) ?_
  refine lv_icmp_ne (tgt := 17) hx hb dX11_stay_11 (by decide) (fun c2400 => ?_) (fun c2400 => ?_)
  · skip
    have t2401 := cv_ne (a := r2399.toInt) rfl (b := (-1)) (by decide) c2400
    refine lv_iload_n hx hb dX11_stay_17 rfl (lv_at hl 4 rfl) ?_
    by_cases hlo2402 : p2.toInt < 0
    · refine lv_tableOut (tgt := 162) hx hb dX11_stay_18 (Or.inl hlo2402) (by decide) ?_
      refine lv_ldc (v := (-2000000000)) hx hb hown (hwd _ wk_56) dX11_stay_162 ?_
      have hP9 : va_P (dC, dI) classes (wX g c v F rc) H := hP
      exact W.iret (v := (-2000000000)) hx hb hr (fun t ht hW => ⟨⟨(-2000000000), (), rfl, trivial, (by show va_P _ _ _ t.heap; rw [ht]; exact hP9)⟩, hS.F ht⟩) hS.2.2 dX11_stay_164
    by_cases hhi2403 : 7 < p2.toInt
    · refine lv_tableOut (tgt := 162) hx hb dX11_stay_18 (Or.inr hhi2403) (by decide) ?_
      refine lv_ldc (v := (-2000000000)) hx hb hown (hwd _ wk_56) dX11_stay_162 ?_
      have hP9 : va_P (dC, dI) classes (wX g c v F rc) H := hP
      exact W.iret (v := (-2000000000)) hx hb hr (fun t ht hW => ⟨⟨(-2000000000), (), rfl, trivial, (by show va_P _ _ _ t.heap; rw [ht]; exact hP9)⟩, hS.F ht⟩) hS.2.2 dX11_stay_164
    rcases (show p2.toInt = 0 ∨ p2.toInt = 1 ∨ p2.toInt = 2 ∨ p2.toInt = 3 ∨ p2.toInt = 4 ∨ p2.toInt = 5 ∨ p2.toInt = 6 ∨ p2.toInt = 7 by omega) with hk | hk | hk | hk | hk | hk | hk | hk
    · refine lv_tableIn (off := 46) (tgt := 64) hx hb dX11_stay_18 hlo2402 hhi2403 (by rw [hk]; decide) (by decide) ?_
      refine lv_aload_n hx hb dX11_stay_64 rfl (lv_at hl 1 rfl) ?_
      refine va_get (D := (dC, dI)) (ci := 11) (v := .ref (g 4)) (C := RX11) (T := TX11) (N := 14) hx hb hwd inA_X11 hown hK hP 0 rfl rfl 3 (by decide) (hwd _ wk_23) (fun _ h9 => h9) rfl dX11_stay_65 ?_
      refine va_get (D := (dC, dI)) (ci := 9) (v := .ref (g 29)) (C := RX9) (T := TX9) (N := 11) hx hb hwd inA_X9 hown hK hP 4 rfl rfl 1 (by decide) (hwd _ wk_786) (fun _ h9 => h9) rfl dX11_stay_68 ?_
      refine lv_iload hx hb dX11_stay_71 (lv_at hl 0 rfl) ?_
      refine va_iald hx hb hK hP 29 17 rfl rfl (i := r2399) (vin (a := r2399.toInt) rfl (by omega)) dX11_stay_73 ?_
      refine lv_topi (fun z2404 e2405 => ?_)
      have hP9 : va_P (dC, dI) classes (wX g c v F rc) H := hP
      exact W.iret (v := z2404) hx hb hr (fun t ht hW => ⟨⟨z2404, (), rfl, trivial, (by show va_P _ _ _ t.heap; rw [ht]; exact hP9)⟩, hS.F ht⟩) hS.2.2 dX11_stay_74
    · refine lv_tableIn (off := 57) (tgt := 75) hx hb dX11_stay_18 hlo2402 hhi2403 (by rw [hk]; decide) (by decide) ?_
      refine lv_aload_n hx hb dX11_stay_75 rfl (lv_at hl 1 rfl) ?_
      refine va_get (D := (dC, dI)) (ci := 11) (v := .ref (g 4)) (C := RX11) (T := TX11) (N := 14) hx hb hwd inA_X11 hown hK hP 0 rfl rfl 3 (by decide) (hwd _ wk_23) (fun _ h9 => h9) rfl dX11_stay_76 ?_
      refine va_get (D := (dC, dI)) (ci := 9) (v := .ref (g 30)) (C := RX9) (T := TX9) (N := 11) hx hb hwd inA_X9 hown hK hP 4 rfl rfl 2 (by decide) (hwd _ wk_787) (fun _ h9 => h9) rfl dX11_stay_79 ?_
      refine lv_iload hx hb dX11_stay_82 (lv_at hl 0 rfl) ?_
      refine va_iald hx hb hK hP 30 18 rfl rfl (i := r2399) (vin (a := r2399.toInt) rfl (by omega)) dX11_stay_84 ?_
      refine lv_topi (fun z2406 e2407 => ?_)
      have hP9 : va_P (dC, dI) classes (wX g c v F rc) H := hP
      exact W.iret (v := z2406) hx hb hr (fun t ht hW => ⟨⟨z2406, (), rfl, trivial, (by show va_P _ _ _ t.heap; rw [ht]; exact hP9)⟩, hS.F ht⟩) hS.2.2 dX11_stay_85
    · refine lv_tableIn (off := 68) (tgt := 86) hx hb dX11_stay_18 hlo2402 hhi2403 (by rw [hk]; decide) (by decide) ?_
      refine lv_aload_n hx hb dX11_stay_86 rfl (lv_at hl 1 rfl) ?_
      refine va_get (D := (dC, dI)) (ci := 11) (v := .ref (g 4)) (C := RX11) (T := TX11) (N := 14) hx hb hwd inA_X11 hown hK hP 0 rfl rfl 3 (by decide) (hwd _ wk_23) (fun _ h9 => h9) rfl dX11_stay_87 ?_
      refine va_get (D := (dC, dI)) (ci := 9) (v := .ref (g 31)) (C := RX9) (T := TX9) (N := 11) hx hb hwd inA_X9 hown hK hP 4 rfl rfl 3 (by decide) (hwd _ wk_788) (fun _ h9 => h9) rfl dX11_stay_90 ?_
      refine lv_iload hx hb dX11_stay_93 (lv_at hl 0 rfl) ?_
      refine va_iald hx hb hK hP 31 19 rfl rfl (i := r2399) (vin (a := r2399.toInt) rfl (by omega)) dX11_stay_95 ?_
      refine lv_topi (fun z2408 e2409 => ?_)
      have hP9 : va_P (dC, dI) classes (wX g c v F rc) H := hP
      exact W.iret (v := z2408) hx hb hr (fun t ht hW => ⟨⟨z2408, (), rfl, trivial, (by show va_P _ _ _ t.heap; rw [ht]; exact hP9)⟩, hS.F ht⟩) hS.2.2 dX11_stay_96
    · refine lv_tableIn (off := 79) (tgt := 97) hx hb dX11_stay_18 hlo2402 hhi2403 (by rw [hk]; decide) (by decide) ?_
      refine lv_aload_n hx hb dX11_stay_97 rfl (lv_at hl 1 rfl) ?_
      refine va_get (D := (dC, dI)) (ci := 11) (v := .ref (g 4)) (C := RX11) (T := TX11) (N := 14) hx hb hwd inA_X11 hown hK hP 0 rfl rfl 3 (by decide) (hwd _ wk_23) (fun _ h9 => h9) rfl dX11_stay_98 ?_
      refine lv_iload hx hb dX11_stay_101 (lv_at hl 0 rfl) ?_
      refine lv_iconst (v := 0) hx hb dX11_stay_103 (by decide) ?_
      refine va_calli (va_runV (As := [.int r2399, .int 0]) (rest := []) ⟨hx, hb, hml, hown, hwd⟩ (c_X9_usedAtStart l dC dI g c adK adV v F rc H.size r2399 0 hg hI (by omega)) (cwV 2 hwd (gV wk_708 wk_798 wk_706 wk_707 wk_22) rfl rfl rfl (by decide +kernel) ⟨Nat.le_of_ble_eq_true rfl, Nat.le_of_ble_eq_true rfl⟩) ⟨PX.blind, va_recv hK hP (ci := 9) (q0 := 4) rfl rfl, fun U hU hW => ⟨rfl, PX.at hK hE hP hS hU hW⟩⟩ rfl rfl hl.1 rfl (lv_room (Nat.le_of_ble_eq_true rfl)) dX11_stay_104 ⟨Nat.le_of_ble_eq_true rfl, Nat.le_of_ble_eq_true rfl⟩) hS (fun q _ h => (freeX hS) q h) (freeX hS) (fun r2410 u t H1 locs ht hvm hw hB hz1 hk1 hS => ?_)
      unfold BX at hB
      rw [ht] at hB
      have hP : va_P (dC, dI) classes (wX g c v F rc) H1 := hB
      generalize H1 = H at hP hS ⊢
      have rr_r2410 := i32_rng r2410
      have hP9 : va_P (dC, dI) classes (wX g c v F rc) H := hP
      exact W.iret (v := r2410) hx hb hr (fun t ht hW => ⟨⟨r2410, (), rfl, trivial, (by show va_P _ _ _ t.heap; rw [ht]; exact hP9)⟩, hS.F ht⟩) hS.2.2 dX11_stay_107
    · refine lv_tableIn (off := 90) (tgt := 108) hx hb dX11_stay_18 hlo2402 hhi2403 (by rw [hk]; decide) (by decide) ?_
      refine lv_aload_n hx hb dX11_stay_108 rfl (lv_at hl 1 rfl) ?_
      refine va_get (D := (dC, dI)) (ci := 11) (v := .ref (g 3)) (C := RX11) (T := TX11) (N := 14) hx hb hwd inA_X11 hown hK hP 0 rfl rfl 2 (by decide) (hwd _ wk_27) (fun _ h9 => h9) rfl dX11_stay_109 ?_
      refine lv_iload_n hx hb dX11_stay_112 rfl (lv_at hl 2 rfl) ?_
      refine lv_iload hx hb dX11_stay_113 (lv_at hl 0 rfl) ?_
      refine lv_iconst (v := 0) hx hb dX11_stay_115 (by decide) ?_
      refine va_calli (va_runV (As := [.int p0, .int r2399, .int 0]) (rest := []) ⟨hx, hb, hml, hown, hwd⟩ (c_X7_usedAtEnd l dC dI g c adK adV v F rc H.size p0 r2399 0 hg hI (by omega) (by omega) (by have : (0 : Int32).toInt = 0 := (by decide); omega)) (cwV 3 hwd (gV wk_699 wk_799 wk_697 wk_698 wk_26) rfl rfl rfl (by decide +kernel) ⟨Nat.le_of_ble_eq_true rfl, Nat.le_of_ble_eq_true rfl⟩) ⟨PX.blind, va_recv hK hP (ci := 7) (q0 := 3) rfl rfl, fun U hU hW => ⟨rfl, PX.at hK hE hP hS hU hW⟩⟩ rfl rfl hl.1 rfl (lv_room (Nat.le_of_ble_eq_true rfl)) dX11_stay_116 ⟨Nat.le_of_ble_eq_true rfl, Nat.le_of_ble_eq_true rfl⟩) hS (fun q _ h => (freeX hS) q h) (freeX hS) (fun r2411 u t H1 locs ht hvm hw hB hz1 hk1 hS => ?_)
      unfold BX at hB
      rw [ht] at hB
      have hP : va_P (dC, dI) classes (wX g c v F rc) H1 := hB
      generalize H1 = H at hP hS ⊢
      have rr_r2411 := i32_rng r2411
      have hP9 : va_P (dC, dI) classes (wX g c v F rc) H := hP
      exact W.iret (v := r2411) hx hb hr (fun t ht hW => ⟨⟨r2411, (), rfl, trivial, (by show va_P _ _ _ t.heap; rw [ht]; exact hP9)⟩, hS.F ht⟩) hS.2.2 dX11_stay_119
    · refine lv_tableIn (off := 102) (tgt := 120) hx hb dX11_stay_18 hlo2402 hhi2403 (by rw [hk]; decide) (by decide) ?_
      refine lv_aload_n hx hb dX11_stay_120 rfl (lv_at hl 1 rfl) ?_
      refine va_get (D := (dC, dI)) (ci := 11) (v := .ref (g 4)) (C := RX11) (T := TX11) (N := 14) hx hb hwd inA_X11 hown hK hP 0 rfl rfl 3 (by decide) (hwd _ wk_23) (fun _ h9 => h9) rfl dX11_stay_121 ?_
      refine lv_iload hx hb dX11_stay_124 (lv_at hl 0 rfl) ?_
      refine lv_iconst (v := 1) hx hb dX11_stay_126 (by decide) ?_
      refine va_calli (va_runV (As := [.int r2399, .int 1]) (rest := []) ⟨hx, hb, hml, hown, hwd⟩ (c_X9_usedAtStart l dC dI g c adK adV v F rc H.size r2399 1 hg hI (by omega)) (cwV 2 hwd (gV wk_708 wk_798 wk_706 wk_707 wk_22) rfl rfl rfl (by decide +kernel) ⟨Nat.le_of_ble_eq_true rfl, Nat.le_of_ble_eq_true rfl⟩) ⟨PX.blind, va_recv hK hP (ci := 9) (q0 := 4) rfl rfl, fun U hU hW => ⟨rfl, PX.at hK hE hP hS hU hW⟩⟩ rfl rfl hl.1 rfl (lv_room (Nat.le_of_ble_eq_true rfl)) dX11_stay_127 ⟨Nat.le_of_ble_eq_true rfl, Nat.le_of_ble_eq_true rfl⟩) hS (fun q _ h => (freeX hS) q h) (freeX hS) (fun r2412 u t H1 locs ht hvm hw hB hz1 hk1 hS => ?_)
      unfold BX at hB
      rw [ht] at hB
      have hP : va_P (dC, dI) classes (wX g c v F rc) H1 := hB
      generalize H1 = H at hP hS ⊢
      have rr_r2412 := i32_rng r2412
      have hP9 : va_P (dC, dI) classes (wX g c v F rc) H := hP
      exact W.iret (v := r2412) hx hb hr (fun t ht hW => ⟨⟨r2412, (), rfl, trivial, (by show va_P _ _ _ t.heap; rw [ht]; exact hP9)⟩, hS.F ht⟩) hS.2.2 dX11_stay_130
    · refine lv_tableIn (off := 113) (tgt := 131) hx hb dX11_stay_18 hlo2402 hhi2403 (by rw [hk]; decide) (by decide) ?_
      refine lv_aload_n hx hb dX11_stay_131 rfl (lv_at hl 1 rfl) ?_
      refine va_get (D := (dC, dI)) (ci := 11) (v := .ref (g 3)) (C := RX11) (T := TX11) (N := 14) hx hb hwd inA_X11 hown hK hP 0 rfl rfl 2 (by decide) (hwd _ wk_27) (fun _ h9 => h9) rfl dX11_stay_132 ?_
      refine lv_iload_n hx hb dX11_stay_135 rfl (lv_at hl 2 rfl) ?_
      refine lv_iload hx hb dX11_stay_136 (lv_at hl 0 rfl) ?_
      refine lv_iconst (v := 1) hx hb dX11_stay_138 (by decide) ?_
      refine va_calli (va_runV (As := [.int p0, .int r2399, .int 1]) (rest := []) ⟨hx, hb, hml, hown, hwd⟩ (c_X7_usedAtEnd l dC dI g c adK adV v F rc H.size p0 r2399 1 hg hI (by omega) (by omega) (by have : (1 : Int32).toInt = 1 := (by decide); omega)) (cwV 3 hwd (gV wk_699 wk_799 wk_697 wk_698 wk_26) rfl rfl rfl (by decide +kernel) ⟨Nat.le_of_ble_eq_true rfl, Nat.le_of_ble_eq_true rfl⟩) ⟨PX.blind, va_recv hK hP (ci := 7) (q0 := 3) rfl rfl, fun U hU hW => ⟨rfl, PX.at hK hE hP hS hU hW⟩⟩ rfl rfl hl.1 rfl (lv_room (Nat.le_of_ble_eq_true rfl)) dX11_stay_139 ⟨Nat.le_of_ble_eq_true rfl, Nat.le_of_ble_eq_true rfl⟩) hS (fun q _ h => (freeX hS) q h) (freeX hS) (fun r2413 u t H1 locs ht hvm hw hB hz1 hk1 hS => ?_)
      unfold BX at hB
      rw [ht] at hB
      have hP : va_P (dC, dI) classes (wX g c v F rc) H1 := hB
      generalize H1 = H at hP hS ⊢
      have rr_r2413 := i32_rng r2413
      have hP9 : va_P (dC, dI) classes (wX g c v F rc) H := hP
      exact W.iret (v := r2413) hx hb hr (fun t ht hW => ⟨⟨r2413, (), rfl, trivial, (by show va_P _ _ _ t.heap; rw [ht]; exact hP9)⟩, hS.F ht⟩) hS.2.2 dX11_stay_142
    · refine lv_tableIn (off := 125) (tgt := 143) hx hb dX11_stay_18 hlo2402 hhi2403 (by rw [hk]; decide) (by decide) ?_
      refine lv_aload_n hx hb dX11_stay_143 rfl (lv_at hl 1 rfl) ?_
      refine va_get (D := (dC, dI)) (ci := 11) (v := .ref (g 4)) (C := RX11) (T := TX11) (N := 14) hx hb hwd inA_X11 hown hK hP 0 rfl rfl 3 (by decide) (hwd _ wk_23) (fun _ h9 => h9) rfl dX11_stay_144 ?_
      refine va_get (D := (dC, dI)) (ci := 9) (v := .ref (g 36)) (C := RX9) (T := TX9) (N := 11) hx hb hwd inA_X9 hown hK hP 4 rfl rfl 8 (by decide) (hwd _ wk_789) (fun _ h9 => h9) rfl dX11_stay_147 ?_
      refine lv_iload hx hb dX11_stay_150 (lv_at hl 0 rfl) ?_
      refine va_zald hx hb hK hP 36 24 rfl rfl (i := r2399) (vin (a := r2399.toInt) rfl (by omega)) dX11_stay_152 ?_
      refine lv_topi (fun z2414 e2415 => ?_)
      refine lv_if_eq (tgt := 160) hx hb dX11_stay_153 (by decide) (fun c2416 => ?_) (fun c2416 => ?_)
      · skip
        have t2417 := cv_eq (a := z2414.toInt) rfl (b := 0) (by decide) c2416
        refine lv_iconst (v := 0) hx hb dX11_stay_160 (by decide) ?_
        have hP9 : va_P (dC, dI) classes (wX g c v F rc) H := hP
        exact W.iret (v := 0) hx hb hr (fun t ht hW => ⟨⟨0, (), rfl, trivial, (by show va_P _ _ _ t.heap; rw [ht]; exact hP9)⟩, hS.F ht⟩) hS.2.2 dX11_stay_161
      · skip
        have t2418 := cv_ne (a := z2414.toInt) rfl (b := 0) (by decide) c2416
        refine lv_iconst (v := 1) hx hb dX11_stay_156 (by decide) ?_
        refine lv_goto (tgt := 161) hx hb dX11_stay_157 (by decide) ?_
        have hP9 : va_P (dC, dI) classes (wX g c v F rc) H := hP
        exact W.iret (v := 1) hx hb hr (fun t ht hW => ⟨⟨1, (), rfl, trivial, (by show va_P _ _ _ t.heap; rw [ht]; exact hP9)⟩, hS.F ht⟩) hS.2.2 dX11_stay_161
  · skip
    have t2419 := cv_eq (a := r2399.toInt) rfl (b := (-1)) (by decide) c2400
    refine lv_ldc (v := (-2000000000)) hx hb hown (hwd _ wk_56) dX11_stay_14 ?_
    have hP9 : va_P (dC, dI) classes (wX g c v F rc) H := hP
    exact W.iret (v := (-2000000000)) hx hb hr (fun t ht hW => ⟨⟨(-2000000000), (), rfl, trivial, (by show va_P _ _ _ t.heap; rw [ht]; exact hP9)⟩, hS.F ht⟩) hS.2.2 dX11_stay_16
set_option maxHeartbeats 8000000 in
set_option maxRecDepth 100000 in
theorem c_X11_paper (l : Launch) (dC : Nat → ClassId) (dI : Nat → Nat → Nat) (g : Nat → Nat) (c : Nat → ClassId) (adK adV : Nat → Nat) (v : Nat → Int32) (F : Nat → Nat → Int32) (rc sz : Nat) (p0 : Int32) (p1 : Int32) (p2 : Int32) (hg : injX g) (hI : IX v F) : Met l yX11_paper (Cond.code yX11_paper cX11_paper 6 (some .int) :: wA) ({ frames := 3, cells := 0, slots := 0, locals := 120 }) (va_Pc [.ref (g 0), .int p0, .int p1, .int p2] (PX dC dI g c adK adV v F rc sz)) (va_Qi (fun (r : Int32) (u : StX) => IX u.1 u.2.1 ∧ alX u.1 u.2.1 = alX v F ∧ u.2.2 = rc ∧ (∀ k, k ∉ ([] : List Nat) → u.1 k = v k) ∧ True) (BX dC dI g c) (AX g sz)) 0 0 (AX g sz) := by
  refine Met.ofW (cc := cX11_paper) (maxL := 6) (ret := (some .int)) (by decide) rfl ?_
  intro p e s m args below meth c0 s₁ B hml hv
  obtain ⟨rfl, hsz, hP, hK, hE⟩ := hv
  have hx := B.exec
  have hb := B.bytes
  have hr := B.returns
  have hts := atoms_spec (ws := Cond.code yX11_paper cX11_paper 6 (some .int) :: wA) B.pre
  have hwd : ∀ w ∈ wA, w.before _ s = true := fun w h => hts w (List.mem_cons_of_mem _ h)
  have hown : s.vm.findClass RX11 = some m.cls := findClass_of_methodNamed B.named
  have hlocks := B.notSynchronized
  subst hsz
  have hl := lv_entry ([.ref (g 0), .int p0, .int p1, .int p2]) (n := 6) (Nat.le_of_ble_eq_true rfl)
  rw [lg_entry_eq]
  generalize (lg_sl ([.ref (g 0), .int p0, .int p1, .int p2]) ++ List.replicate (6 - (lg_sl ([.ref (g 0), .int p0, .int p1, .int p2])).length) Slot.unset).toArray = ls at hl ⊢
  have hl : lv_has ls 6 [(0, .ref (g 0)), (1, .int p0), (2, .int p1), (3, .int p2)] := hl
  obtain ⟨H, eH⟩ : ∃ z, z = s.heap := ⟨_, rfl⟩
  have hP : va_P (dC, dI) classes (wX g c v F rc) H := by rw [eH]; exact hP
  have hS : va_S (AX g s.heap.size) s.heap H [] := by rw [eH]; exact va_S.rf
  refine my_heap eH ?_
  have hal : alX v F = alX v F := rfl
  have rp0 := i32_rng p0
  have rp1 := i32_rng p1
  have rp2 := i32_rng p2
  refine lv_aload_n hx hb dX11_paper_0 rfl (lv_at hl 0 rfl) ?_
  refine lv_iload_n hx hb dX11_paper_1 rfl (lv_at hl 1 rfl) ?_
  refine lv_iload_n hx hb dX11_paper_2 rfl (lv_at hl 2 rfl) ?_
  refine va_calli (va_runV (As := [.int p0, .int p1]) (rest := []) ⟨hx, hb, hml, hown, hwd⟩ (c_X11_stayAt l dC dI g c adK adV v F rc H.size p0 p1 hg hI ) (cwV 2 hwd (gV wk_793 wk_790 wk_791 wk_792 wk_2) rfl rfl rfl (by decide +kernel) ⟨Nat.le_of_ble_eq_true rfl, Nat.le_of_ble_eq_true rfl⟩) ⟨PX.blind, va_recv hK hP (ci := 11) (q0 := 0) rfl rfl, fun U hU hW => ⟨rfl, PX.at hK hE hP hS hU hW⟩⟩ rfl rfl hl.1 rfl (lv_room (Nat.le_of_ble_eq_true rfl)) dX11_paper_3 ⟨Nat.le_of_ble_eq_true rfl, Nat.le_of_ble_eq_true rfl⟩) hS (fun q _ h => (freeX hS) q h) (freeX hS) (fun r2420 u t H1 locs ht hvm hw hB hz1 hk1 hS => ?_)
  unfold BX at hB
  rw [ht] at hB
  have hP : va_P (dC, dI) classes (wX g c v F rc) H1 := hB
  have hw : (-1 ≤ r2420.toInt ∧ r2420.toInt ≤ 499) ∧ (r2420.toInt = -1 ∨ (0 ≤ p0.toInt ∧ p0.toInt ≤ 99)) := hw
  generalize H1 = H at hP hS ⊢
  have hw_r2420 := hw
  refine lv_istore (lv' := [(4, .int r2420), (0, .ref (g 0)), (1, .int p0), (2, .int p1), (3, .int p2)]) hx hb dX11_paper_6 hl (by decide) rfl (fun ls hl => ?_)
  refine lv_iload hx hb dX11_paper_8 (lv_at hl 0 rfl) ?_
  refine lv_iconst (v := (-1)) hx hb dX11_paper_10 (by decide) ?_
  refine lv_icmp_eq (tgt := 23) hx hb dX11_paper_11 (by decide) (fun c2421 => ?_) (fun c2421 => ?_)
  · skip
    have t2422 := cv_eq (a := r2420.toInt) rfl (b := (-1)) (by decide) c2421
    refine lv_iconst (v := (-1)) hx hb dX11_paper_23 (by decide) ?_
    have hP9 : va_P (dC, dI) classes (wX g c v F rc) H := hP
    exact W.iret (v := (-1)) hx hb hr (fun t ht hW => ⟨⟨(-1), (v, F, rc), rfl, ⟨hI, hal, rfl, (fun _ _ => rfl), trivial⟩, (by show va_P _ _ _ t.heap; rw [ht]; exact hP9)⟩, hS.F ht⟩) hS.2.2 dX11_paper_24
  · skip
    have t2423 := cv_ne (a := r2420.toInt) rfl (b := (-1)) (by decide) c2421
    refine lv_iload_n hx hb dX11_paper_14 rfl (lv_at hl 4 rfl) ?_
    refine lv_iconst (v := 0) hx hb dX11_paper_15 (by decide) ?_
    refine lv_iconst (v := 1) hx hb dX11_paper_16 (by decide) ?_
    refine va_calli (va_runS (As := [.int p2, .int 0, .int 1]) (rest := []) ⟨hx, hb, hml, hown, hwd⟩ (c_X11_within l dC dI g c adK adV v F rc H.size p2 0 1 hg hI ) (va_cwS 3 hwd (gT wk_239 wk_237 wk_238 wk_2) rfl rfl rfl (by decide +kernel) ⟨Nat.le_of_ble_eq_true rfl, Nat.le_of_ble_eq_true rfl⟩) ⟨PX.blind, fun U hU hW => ⟨rfl, PX.at hK hE hP hS hU hW⟩⟩ rfl rfl hl.1 rfl (lv_room (Nat.le_of_ble_eq_true rfl)) dX11_paper_17 ⟨Nat.le_of_ble_eq_true rfl, Nat.le_of_ble_eq_true rfl⟩) hS (fun q _ h => (freeX hS) q h) (freeX hS) (fun r2424 u t H1 locs ht hvm hw hB hz1 hk1 hS => ?_)
    unfold BX at hB
    rw [ht] at hB
    have hP : va_P (dC, dI) classes (wX g c v F rc) H1 := hB
    have hw : (r2424.toInt = 1 ∧ (0 : Int32).toInt ≤ p2.toInt ∧ p2.toInt ≤ (1 : Int32).toInt) ∨ (r2424.toInt = 0 ∧ (p2.toInt < (0 : Int32).toInt ∨ (1 : Int32).toInt < p2.toInt)) := hw
    have k2425 : (0 : Int32).toInt = 0 := by decide
    have k2426 : (1 : Int32).toInt = 1 := by decide
    generalize H1 = H at hP hS ⊢
    have hw_r2424 := hw
    refine lv_if_ne (tgt := 25) hx hb dX11_paper_20 (by decide) (fun c2427 => ?_) (fun c2427 => ?_)
    · skip
      have t2428 := cv_ne (a := r2424.toInt) rfl (b := 0) (by decide) c2427
      refine lv_aload_n hx hb dX11_paper_25 rfl (lv_at hl 1 rfl) ?_
      refine va_get (D := (dC, dI)) (ci := 11) (v := .ref (g 4)) (C := RX11) (T := TX11) (N := 14) hx hb hwd inA_X11 hown hK hP 0 rfl rfl 3 (by decide) (hwd _ wk_23) (fun _ h9 => h9) rfl dX11_paper_26 ?_
      refine lv_iload hx hb dX11_paper_29 (lv_at hl 0 rfl) ?_
      refine va_calli (va_runV (As := [.int r2420]) (rest := []) ⟨hx, hb, hml, hown, hwd⟩ (c_X9_goesOn l dC dI g c adK adV v F rc H.size r2420 hg hI (by omega)) (cwV 1 hwd (gV wk_377 wk_808 wk_375 wk_376 wk_22) rfl rfl rfl (by decide +kernel) ⟨Nat.le_of_ble_eq_true rfl, Nat.le_of_ble_eq_true rfl⟩) ⟨PX.blind, va_recv hK hP (ci := 9) (q0 := 4) rfl rfl, fun U hU hW => ⟨rfl, PX.at hK hE hP hS hU hW⟩⟩ rfl rfl hl.1 rfl (lv_room (Nat.le_of_ble_eq_true rfl)) dX11_paper_31 ⟨Nat.le_of_ble_eq_true rfl, Nat.le_of_ble_eq_true rfl⟩) hS (fun q _ h => (freeX hS) q h) (freeX hS) (fun r2429 u t H1 locs ht hvm hw hB hz1 hk1 hS => ?_)
      unfold BX at hB
      rw [ht] at hB
      have hP : va_P (dC, dI) classes (wX g c v F rc) H1 := hB
      have hw : 0 ≤ r2429.toInt ∧ r2429.toInt ≤ 1 := hw
      generalize H1 = H at hP hS ⊢
      have hw_r2429 := hw
      refine lv_if_eq (tgt := 40) hx hb dX11_paper_34 (by decide) (fun c2430 => ?_) (fun c2430 => ?_)
      · skip
        have t2431 := cv_eq (a := r2429.toInt) rfl (b := 0) (by decide) c2430
        refine lv_aload_n hx hb dX11_paper_40 rfl (lv_at hl 1 rfl) ?_
        refine va_get (D := (dC, dI)) (ci := 11) (v := .ref (g 4)) (C := RX11) (T := TX11) (N := 14) hx hb hwd inA_X11 hown hK hP 0 rfl rfl 3 (by decide) (hwd _ wk_23) (fun _ h9 => h9) rfl dX11_paper_41 ?_
        refine va_get (D := (dC, dI)) (ci := 9) (v := .ref (g 36)) (C := RX9) (T := TX9) (N := 11) hx hb hwd inA_X9 hown hK hP 4 rfl rfl 8 (by decide) (hwd _ wk_789) (fun _ h9 => h9) rfl dX11_paper_44 ?_
        refine lv_iload hx hb dX11_paper_47 (lv_at hl 0 rfl) ?_
        refine va_zald hx hb hK hP 36 24 rfl rfl (i := r2420) (vin (a := r2420.toInt) rfl (by omega)) dX11_paper_49 ?_
        refine lv_topi (fun z2432 e2433 => ?_)
        refine lv_if_eq (tgt := 57) hx hb dX11_paper_50 (by decide) (fun c2434 => ?_) (fun c2434 => ?_)
        · skip
          have t2435 := cv_eq (a := z2432.toInt) rfl (b := 0) (by decide) c2434
          refine lv_iconst (v := 0) hx hb dX11_paper_57 (by decide) ?_
          refine lv_istore (lv' := [(5, .int 0), (4, .int r2420), (0, .ref (g 0)), (1, .int p0), (2, .int p1), (3, .int p2)]) hx hb dX11_paper_58 hl (by decide) rfl (fun ls hl => ?_)
          refine lv_aload_n hx hb dX11_paper_60 rfl (lv_at hl 2 rfl) ?_
          refine va_get (D := (dC, dI)) (ci := 11) (v := .ref (g 4)) (C := RX11) (T := TX11) (N := 14) hx hb hwd inA_X11 hown hK hP 0 rfl rfl 3 (by decide) (hwd _ wk_23) (fun _ h9 => h9) rfl dX11_paper_61 ?_
          refine va_get (D := (dC, dI)) (ci := 9) (v := .ref (g 36)) (C := RX9) (T := TX9) (N := 11) hx hb hwd inA_X9 hown hK hP 4 rfl rfl 8 (by decide) (hwd _ wk_789) (fun _ h9 => h9) rfl dX11_paper_64 ?_
          refine lv_iload hx hb dX11_paper_67 (lv_at hl 1 rfl) ?_
          refine lv_iload_n hx hb dX11_paper_69 rfl (lv_at hl 5 rfl) ?_
          refine lv_iconst (v := 1) hx hb dX11_paper_70 (by decide) ?_
          refine lv_icmp_ne (tgt := 78) hx hb dX11_paper_71 (by decide) (fun c2436 => ?_) (fun c2436 => ?_)
          · skip
            have t2437 := cv_ne (a := p2.toInt) rfl (b := 1) (by decide) c2436
            refine lv_iconst (v := 0) hx hb dX11_paper_78 (by decide) ?_
            refine va_zast hx hb hK hP (DX hg) hS 36 24 rfl rfl (i := r2420) (x := 0) (vin (a := r2420.toInt) rfl (by omega)) dX11_paper_79 (fun H locs hP _ hS => ?_)
            have hP := va_P_eq (sX_36 g c _ _ _ _) hP
            have hI := IX.store0 hI 36 (r2420 : Int32).toNatClampNeg (vp_nar .boolean 0) rfl
            have hal := (alX_F _ _ 36 (upd (F 36) (r2420 : Int32).toNatClampNeg (vp_nar .boolean 0)) (by decide) (by decide) (by decide) (by decide) (by decide)).trans hal
            have hP : va_P (dC, dI) classes (wX g c v (va_up F 36 (upd (F 36) (r2420 : Int32).toNatClampNeg (vp_nar .boolean 0))) rc) H := hP
            generalize (va_up F 36 (upd (F 36) (r2420 : Int32).toNatClampNeg (vp_nar .boolean 0))) = F2438 at hP hI hal
            refine lv_iload hx hb dX11_paper_80 (lv_at hl 0 rfl) ?_
            have hP9 : va_P (dC, dI) classes (wX g c v F2438 rc) H := hP
            exact W.iret (v := 0) hx hb hr (fun t ht hW => ⟨⟨0, (v, F2438, rc), rfl, ⟨hI, hal, rfl, (fun _ _ => rfl), trivial⟩, (by show va_P _ _ _ t.heap; rw [ht]; exact hP9)⟩, hS.F ht⟩) hS.2.2 dX11_paper_82
          · skip
            have t2439 := cv_eq (a := p2.toInt) rfl (b := 1) (by decide) c2436
            refine lv_iconst (v := 1) hx hb dX11_paper_74 (by decide) ?_
            refine lv_goto (tgt := 79) hx hb dX11_paper_75 (by decide) ?_
            refine va_zast hx hb hK hP (DX hg) hS 36 24 rfl rfl (i := r2420) (x := 1) (vin (a := r2420.toInt) rfl (by omega)) dX11_paper_79 (fun H locs hP _ hS => ?_)
            have hP := va_P_eq (sX_36 g c _ _ _ _) hP
            have hI := IX.store0 hI 36 (r2420 : Int32).toNatClampNeg (vp_nar .boolean 1) rfl
            have hal := (alX_F _ _ 36 (upd (F 36) (r2420 : Int32).toNatClampNeg (vp_nar .boolean 1)) (by decide) (by decide) (by decide) (by decide) (by decide)).trans hal
            have hP : va_P (dC, dI) classes (wX g c v (va_up F 36 (upd (F 36) (r2420 : Int32).toNatClampNeg (vp_nar .boolean 1))) rc) H := hP
            generalize (va_up F 36 (upd (F 36) (r2420 : Int32).toNatClampNeg (vp_nar .boolean 1))) = F2440 at hP hI hal
            refine lv_iload hx hb dX11_paper_80 (lv_at hl 0 rfl) ?_
            have hP9 : va_P (dC, dI) classes (wX g c v F2440 rc) H := hP
            exact W.iret (v := 0) hx hb hr (fun t ht hW => ⟨⟨0, (v, F2440, rc), rfl, ⟨hI, hal, rfl, (fun _ _ => rfl), trivial⟩, (by show va_P _ _ _ t.heap; rw [ht]; exact hP9)⟩, hS.F ht⟩) hS.2.2 dX11_paper_82
        · skip
          have t2441 := cv_ne (a := z2432.toInt) rfl (b := 0) (by decide) c2434
          refine lv_iconst (v := 1) hx hb dX11_paper_53 (by decide) ?_
          refine lv_goto (tgt := 58) hx hb dX11_paper_54 (by decide) ?_
          refine lv_istore (lv' := [(5, .int 1), (4, .int r2420), (0, .ref (g 0)), (1, .int p0), (2, .int p1), (3, .int p2)]) hx hb dX11_paper_58 hl (by decide) rfl (fun ls hl => ?_)
          refine lv_aload_n hx hb dX11_paper_60 rfl (lv_at hl 2 rfl) ?_
          refine va_get (D := (dC, dI)) (ci := 11) (v := .ref (g 4)) (C := RX11) (T := TX11) (N := 14) hx hb hwd inA_X11 hown hK hP 0 rfl rfl 3 (by decide) (hwd _ wk_23) (fun _ h9 => h9) rfl dX11_paper_61 ?_
          refine va_get (D := (dC, dI)) (ci := 9) (v := .ref (g 36)) (C := RX9) (T := TX9) (N := 11) hx hb hwd inA_X9 hown hK hP 4 rfl rfl 8 (by decide) (hwd _ wk_789) (fun _ h9 => h9) rfl dX11_paper_64 ?_
          refine lv_iload hx hb dX11_paper_67 (lv_at hl 1 rfl) ?_
          refine lv_iload_n hx hb dX11_paper_69 rfl (lv_at hl 5 rfl) ?_
          refine lv_iconst (v := 1) hx hb dX11_paper_70 (by decide) ?_
          refine lv_icmp_ne (tgt := 78) hx hb dX11_paper_71 (by decide) (fun c2442 => ?_) (fun c2442 => ?_)
          · skip
            have t2443 := cv_ne (a := p2.toInt) rfl (b := 1) (by decide) c2442
            refine lv_iconst (v := 0) hx hb dX11_paper_78 (by decide) ?_
            refine va_zast hx hb hK hP (DX hg) hS 36 24 rfl rfl (i := r2420) (x := 0) (vin (a := r2420.toInt) rfl (by omega)) dX11_paper_79 (fun H locs hP _ hS => ?_)
            have hP := va_P_eq (sX_36 g c _ _ _ _) hP
            have hI := IX.store0 hI 36 (r2420 : Int32).toNatClampNeg (vp_nar .boolean 0) rfl
            have hal := (alX_F _ _ 36 (upd (F 36) (r2420 : Int32).toNatClampNeg (vp_nar .boolean 0)) (by decide) (by decide) (by decide) (by decide) (by decide)).trans hal
            have hP : va_P (dC, dI) classes (wX g c v (va_up F 36 (upd (F 36) (r2420 : Int32).toNatClampNeg (vp_nar .boolean 0))) rc) H := hP
            generalize (va_up F 36 (upd (F 36) (r2420 : Int32).toNatClampNeg (vp_nar .boolean 0))) = F2444 at hP hI hal
            refine lv_iload hx hb dX11_paper_80 (lv_at hl 0 rfl) ?_
            have hP9 : va_P (dC, dI) classes (wX g c v F2444 rc) H := hP
            exact W.iret (v := 1) hx hb hr (fun t ht hW => ⟨⟨1, (v, F2444, rc), rfl, ⟨hI, hal, rfl, (fun _ _ => rfl), trivial⟩, (by show va_P _ _ _ t.heap; rw [ht]; exact hP9)⟩, hS.F ht⟩) hS.2.2 dX11_paper_82
          · skip
            have t2445 := cv_eq (a := p2.toInt) rfl (b := 1) (by decide) c2442
            refine lv_iconst (v := 1) hx hb dX11_paper_74 (by decide) ?_
            refine lv_goto (tgt := 79) hx hb dX11_paper_75 (by decide) ?_
            refine va_zast hx hb hK hP (DX hg) hS 36 24 rfl rfl (i := r2420) (x := 1) (vin (a := r2420.toInt) rfl (by omega)) dX11_paper_79 (fun H locs hP _ hS => ?_)
            have hP := va_P_eq (sX_36 g c _ _ _ _) hP
            have hI := IX.store0 hI 36 (r2420 : Int32).toNatClampNeg (vp_nar .boolean 1) rfl
            have hal := (alX_F _ _ 36 (upd (F 36) (r2420 : Int32).toNatClampNeg (vp_nar .boolean 1)) (by decide) (by decide) (by decide) (by decide) (by decide)).trans hal
            have hP : va_P (dC, dI) classes (wX g c v (va_up F 36 (upd (F 36) (r2420 : Int32).toNatClampNeg (vp_nar .boolean 1))) rc) H := hP
            generalize (va_up F 36 (upd (F 36) (r2420 : Int32).toNatClampNeg (vp_nar .boolean 1))) = F2446 at hP hI hal
            refine lv_iload hx hb dX11_paper_80 (lv_at hl 0 rfl) ?_
            have hP9 : va_P (dC, dI) classes (wX g c v F2446 rc) H := hP
            exact W.iret (v := 1) hx hb hr (fun t ht hW => ⟨⟨1, (v, F2446, rc), rfl, ⟨hI, hal, rfl, (fun _ _ => rfl), trivial⟩, (by show va_P _ _ _ t.heap; rw [ht]; exact hP9)⟩, hS.F ht⟩) hS.2.2 dX11_paper_82
      · skip
        have t2447 := cv_ne (a := r2429.toInt) rfl (b := 0) (by decide) c2430
        refine lv_bipush (v := (-2)) hx hb dX11_paper_37 (by decide) ?_
        have hP9 : va_P (dC, dI) classes (wX g c v F rc) H := hP
        exact W.iret (v := (-2)) hx hb hr (fun t ht hW => ⟨⟨(-2), (v, F, rc), rfl, ⟨hI, hal, rfl, (fun _ _ => rfl), trivial⟩, (by show va_P _ _ _ t.heap; rw [ht]; exact hP9)⟩, hS.F ht⟩) hS.2.2 dX11_paper_39
    · skip
      have t2448 := cv_eq (a := r2424.toInt) rfl (b := 0) (by decide) c2427
      refine lv_iconst (v := (-1)) hx hb dX11_paper_23 (by decide) ?_
      have hP9 : va_P (dC, dI) classes (wX g c v F rc) H := hP
      exact W.iret (v := (-1)) hx hb hr (fun t ht hW => ⟨⟨(-1), (v, F, rc), rfl, ⟨hI, hal, rfl, (fun _ _ => rfl), trivial⟩, (by show va_P _ _ _ t.heap; rw [ht]; exact hP9)⟩, hS.F ht⟩) hS.2.2 dX11_paper_24
set_option maxHeartbeats 8000000 in
set_option maxRecDepth 100000 in
theorem c_X11_past (l : Launch) (dC : Nat → ClassId) (dI : Nat → Nat → Nat) (g : Nat → Nat) (c : Nat → ClassId) (adK adV : Nat → Nat) (v : Nat → Int32) (F : Nat → Nat → Int32) (rc sz : Nat) (p0 : Int32) (p1 : Int32) (p2 : Int32) (p3 : Int32) (p4 : Int32) (p5 : Int32) (hg : injX g) (hI : IX v F) : Met l yX11_past (Cond.code yX11_past cX11_past 13 (some .int) :: wA) ({ frames := 3, cells := 0, slots := 0, locals := 120 }) (va_Pc [.ref (g 0), .int p0, .int p1, .int p2, .int p3, .int p4, .int p5] (PX dC dI g c adK adV v F rc sz)) (va_Qi (fun (r : Int32) (u : StX) => IX u.1 u.2.1 ∧ alX u.1 u.2.1 = alX v F ∧ u.2.2 = rc ∧ (∀ k, k ∉ ([80] : List Nat) → u.1 k = v k) ∧ True) (BX dC dI g c) (AX g sz)) 0 0 (AX g sz) := by
  refine Met.ofW (cc := cX11_past) (maxL := 13) (ret := (some .int)) (by decide) rfl ?_
  intro p e s m args below meth c0 s₁ B hml hv
  obtain ⟨rfl, hsz, hP, hK, hE⟩ := hv
  have hx := B.exec
  have hb := B.bytes
  have hr := B.returns
  have hts := atoms_spec (ws := Cond.code yX11_past cX11_past 13 (some .int) :: wA) B.pre
  have hwd : ∀ w ∈ wA, w.before _ s = true := fun w h => hts w (List.mem_cons_of_mem _ h)
  have hown : s.vm.findClass RX11 = some m.cls := findClass_of_methodNamed B.named
  have hlocks := B.notSynchronized
  subst hsz
  have hl := lv_entry ([.ref (g 0), .int p0, .int p1, .int p2, .int p3, .int p4, .int p5]) (n := 13) (Nat.le_of_ble_eq_true rfl)
  rw [lg_entry_eq]
  generalize (lg_sl ([.ref (g 0), .int p0, .int p1, .int p2, .int p3, .int p4, .int p5]) ++ List.replicate (13 - (lg_sl ([.ref (g 0), .int p0, .int p1, .int p2, .int p3, .int p4, .int p5])).length) Slot.unset).toArray = ls at hl ⊢
  have hl : lv_has ls 13 [(0, .ref (g 0)), (1, .int p0), (2, .int p1), (3, .int p2), (4, .int p3), (5, .int p4), (6, .int p5)] := hl
  obtain ⟨H, eH⟩ : ∃ z, z = s.heap := ⟨_, rfl⟩
  have hP : va_P (dC, dI) classes (wX g c v F rc) H := by rw [eH]; exact hP
  have hS : va_S (AX g s.heap.size) s.heap H [] := by rw [eH]; exact va_S.rf
  refine my_heap eH ?_
  have hal : alX v F = alX v F := rfl
  have rp0 := i32_rng p0
  have rp1 := i32_rng p1
  have rp2 := i32_rng p2
  have rp3 := i32_rng p3
  have rp4 := i32_rng p4
  have rp5 := i32_rng p5
  refine lv_aload_n hx hb dX11_past_0 rfl (lv_at hl 0 rfl) ?_
  refine va_get (D := (dC, dI)) (ci := 11) (v := .ref (g 3)) (C := RX11) (T := TX11) (N := 14) hx hb hwd inA_X11 hown hK hP 0 rfl rfl 2 (by decide) (hwd _ wk_27) (fun _ h9 => h9) rfl dX11_past_1 ?_
  refine lv_iload_n hx hb dX11_past_4 rfl (lv_at hl 1 rfl) ?_
  refine va_calli (va_runV (As := [.int p0]) (rest := []) ⟨hx, hb, hml, hown, hwd⟩ (c_X7_has l dC dI g c adK adV v F rc H.size p0 hg hI ) (cwV 1 hwd (gV wk_605 wk_602 wk_603 wk_604 wk_26) rfl rfl rfl (by decide +kernel) ⟨Nat.le_of_ble_eq_true rfl, Nat.le_of_ble_eq_true rfl⟩) ⟨PX.blind, va_recv hK hP (ci := 7) (q0 := 3) rfl rfl, fun U hU hW => ⟨rfl, PX.at hK hE hP hS hU hW⟩⟩ rfl rfl hl.1 rfl (lv_room (Nat.le_of_ble_eq_true rfl)) dX11_past_5 ⟨Nat.le_of_ble_eq_true rfl, Nat.le_of_ble_eq_true rfl⟩) hS (fun q _ h => (freeX hS) q h) (freeX hS) (fun r2449 u t H1 locs ht hvm hw hB hz1 hk1 hS => ?_)
  unfold BX at hB
  rw [ht] at hB
  have hP : va_P (dC, dI) classes (wX g c v F rc) H1 := hB
  have hw : (0 ≤ r2449.toInt ∧ r2449.toInt ≤ 1) ∧ (r2449.toInt = 1 → 0 ≤ p0.toInt ∧ p0.toInt < 100) := hw
  generalize H1 = H at hP hS ⊢
  have hw_r2449 := hw
  refine lv_if_eq (tgt := 35) hx hb dX11_past_8 (by decide) (fun c2450 => ?_) (fun c2450 => ?_)
  · skip
    have t2451 := cv_eq (a := r2449.toInt) rfl (b := 0) (by decide) c2450
    refine lv_iconst (v := (-1)) hx hb dX11_past_35 (by decide) ?_
    have hP9 : va_P (dC, dI) classes (wX g c v F rc) H := hP
    exact W.iret (v := (-1)) hx hb hr (fun t ht hW => ⟨⟨(-1), (v, F, rc), rfl, ⟨hI, hal, rfl, (fun _ _ => rfl), trivial⟩, (by show va_P _ _ _ t.heap; rw [ht]; exact hP9)⟩, hS.F ht⟩) hS.2.2 dX11_past_36
  · skip
    have t2452 := cv_ne (a := r2449.toInt) rfl (b := 0) (by decide) c2450
    refine lv_aload_n hx hb dX11_past_11 rfl (lv_at hl 0 rfl) ?_
    refine lv_iload_n hx hb dX11_past_12 rfl (lv_at hl 2 rfl) ?_
    refine va_calli (va_runV (As := [.int p1]) (rest := []) ⟨hx, hb, hml, hown, hwd⟩ (c_X11_isPlace l dC dI g c adK adV v F rc H.size p1 hg hI ) (cwV 1 hwd (gV wk_609 wk_606 wk_607 wk_608 wk_2) rfl rfl rfl (by decide +kernel) ⟨Nat.le_of_ble_eq_true rfl, Nat.le_of_ble_eq_true rfl⟩) ⟨PX.blind, va_recv hK hP (ci := 11) (q0 := 0) rfl rfl, fun U hU hW => ⟨rfl, PX.at hK hE hP hS hU hW⟩⟩ rfl rfl hl.1 rfl (lv_room (Nat.le_of_ble_eq_true rfl)) dX11_past_13 ⟨Nat.le_of_ble_eq_true rfl, Nat.le_of_ble_eq_true rfl⟩) hS (fun q _ h => (freeX hS) q h) (freeX hS) (fun r2453 u t H1 locs ht hvm hw hB hz1 hk1 hS => ?_)
    unfold BX at hB
    rw [ht] at hB
    have hP : va_P (dC, dI) classes (wX g c v F rc) H1 := hB
    have hw : 0 ≤ r2453.toInt ∧ r2453.toInt ≤ 1 := hw
    generalize H1 = H at hP hS ⊢
    have hw_r2453 := hw
    refine lv_if_eq (tgt := 35) hx hb dX11_past_16 (by decide) (fun c2454 => ?_) (fun c2454 => ?_)
    · skip
      have t2455 := cv_eq (a := r2453.toInt) rfl (b := 0) (by decide) c2454
      refine lv_iconst (v := (-1)) hx hb dX11_past_35 (by decide) ?_
      have hP9 : va_P (dC, dI) classes (wX g c v F rc) H := hP
      exact W.iret (v := (-1)) hx hb hr (fun t ht hW => ⟨⟨(-1), (v, F, rc), rfl, ⟨hI, hal, rfl, (fun _ _ => rfl), trivial⟩, (by show va_P _ _ _ t.heap; rw [ht]; exact hP9)⟩, hS.F ht⟩) hS.2.2 dX11_past_36
    · skip
      have t2456 := cv_ne (a := r2453.toInt) rfl (b := 0) (by decide) c2454
      refine lv_iload hx hb dX11_past_19 (lv_at hl 4 rfl) ?_
      refine va_calli (va_runS (As := [.int p3]) (rest := []) ⟨hx, hb, hml, hown, hwd⟩ (c_X11_isTold l dC dI g c adK adV v F rc H.size p3 hg hI ) (va_cwS 1 hwd (gT wk_235 wk_233 wk_234 wk_2) rfl rfl rfl (by decide +kernel) ⟨Nat.le_of_ble_eq_true rfl, Nat.le_of_ble_eq_true rfl⟩) ⟨PX.blind, fun U hU hW => ⟨rfl, PX.at hK hE hP hS hU hW⟩⟩ rfl rfl hl.1 rfl (lv_room (Nat.le_of_ble_eq_true rfl)) dX11_past_21 ⟨Nat.le_of_ble_eq_true rfl, Nat.le_of_ble_eq_true rfl⟩) hS (fun q _ h => (freeX hS) q h) (freeX hS) (fun r2457 u t H1 locs ht hvm hw hB hz1 hk1 hS => ?_)
      unfold BX at hB
      rw [ht] at hB
      have hP : va_P (dC, dI) classes (wX g c v F rc) H1 := hB
      have hw : (r2457.toInt = 1 ∧ 0 ≤ p3.toInt ∧ p3.toInt ≤ 99999) ∨ (r2457.toInt = 0 ∧ (p3.toInt < 0 ∨ 99999 < p3.toInt)) := hw
      generalize H1 = H at hP hS ⊢
      have hw_r2457 := hw
      refine lv_if_eq (tgt := 35) hx hb dX11_past_24 (by decide) (fun c2458 => ?_) (fun c2458 => ?_)
      · skip
        have t2459 := cv_eq (a := r2457.toInt) rfl (b := 0) (by decide) c2458
        refine lv_iconst (v := (-1)) hx hb dX11_past_35 (by decide) ?_
        have hP9 : va_P (dC, dI) classes (wX g c v F rc) H := hP
        exact W.iret (v := (-1)) hx hb hr (fun t ht hW => ⟨⟨(-1), (v, F, rc), rfl, ⟨hI, hal, rfl, (fun _ _ => rfl), trivial⟩, (by show va_P _ _ _ t.heap; rw [ht]; exact hP9)⟩, hS.F ht⟩) hS.2.2 dX11_past_36
      · skip
        have t2460 := cv_ne (a := r2457.toInt) rfl (b := 0) (by decide) c2458
        refine lv_iload hx hb dX11_past_27 (lv_at hl 5 rfl) ?_
        refine va_calli (va_runS (As := [.int p4]) (rest := []) ⟨hx, hb, hml, hown, hwd⟩ (c_X11_isTold l dC dI g c adK adV v F rc H.size p4 hg hI ) (va_cwS 1 hwd (gT wk_235 wk_233 wk_234 wk_2) rfl rfl rfl (by decide +kernel) ⟨Nat.le_of_ble_eq_true rfl, Nat.le_of_ble_eq_true rfl⟩) ⟨PX.blind, fun U hU hW => ⟨rfl, PX.at hK hE hP hS hU hW⟩⟩ rfl rfl hl.1 rfl (lv_room (Nat.le_of_ble_eq_true rfl)) dX11_past_29 ⟨Nat.le_of_ble_eq_true rfl, Nat.le_of_ble_eq_true rfl⟩) hS (fun q _ h => (freeX hS) q h) (freeX hS) (fun r2461 u t H1 locs ht hvm hw hB hz1 hk1 hS => ?_)
        unfold BX at hB
        rw [ht] at hB
        have hP : va_P (dC, dI) classes (wX g c v F rc) H1 := hB
        have hw : (r2461.toInt = 1 ∧ 0 ≤ p4.toInt ∧ p4.toInt ≤ 99999) ∨ (r2461.toInt = 0 ∧ (p4.toInt < 0 ∨ 99999 < p4.toInt)) := hw
        generalize H1 = H at hP hS ⊢
        have hw_r2461 := hw
        refine lv_if_ne (tgt := 37) hx hb dX11_past_32 (by decide) (fun c2462 => ?_) (fun c2462 => ?_)
        · skip
          have t2463 := cv_ne (a := r2461.toInt) rfl (b := 0) (by decide) c2462
          refine lv_iload_n hx hb dX11_past_37 rfl (lv_at hl 3 rfl) ?_
          refine lv_if_lt (tgt := 46) hx hb dX11_past_38 (by decide) (fun c2464 => ?_) (fun c2464 => ?_)
          · skip
            have t2465 := cv_lt (a := p2.toInt) rfl (b := 0) (by decide) c2464
            refine lv_iconst (v := (-1)) hx hb dX11_past_46 (by decide) ?_
            have hP9 : va_P (dC, dI) classes (wX g c v F rc) H := hP
            exact W.iret (v := (-1)) hx hb hr (fun t ht hW => ⟨⟨(-1), (v, F, rc), rfl, ⟨hI, hal, rfl, (fun _ _ => rfl), trivial⟩, (by show va_P _ _ _ t.heap; rw [ht]; exact hP9)⟩, hS.F ht⟩) hS.2.2 dX11_past_47
          · skip
            have t2466 := cv_nlt (a := p2.toInt) rfl (b := 0) (by decide) c2464
            refine lv_iload hx hb dX11_past_41 (lv_at hl 6 rfl) ?_
            refine lv_if_ge (tgt := 48) hx hb dX11_past_43 (by decide) (fun c2467 => ?_) (fun c2467 => ?_)
            · skip
              have t2468 := cv_le (a := 0) (by decide) (b := p5.toInt) rfl c2467
              refine lv_iload_n hx hb dX11_past_48 rfl (lv_at hl 3 rfl) ?_
              refine lv_sipush (v := 20000) hx hb dX11_past_49 (by decide) ?_
              refine lv_idiv hx hb dX11_past_52 (by decide) ?_
              refine lv_topi (fun z2469 e2470 => ?_)
              refine lv_istore (lv' := [(7, .int z2469), (0, .ref (g 0)), (1, .int p0), (2, .int p1), (3, .int p2), (4, .int p3), (5, .int p4), (6, .int p5)]) hx hb dX11_past_53 hl (by decide) rfl (fun ls hl => ?_)
              refine lv_iload_n hx hb dX11_past_55 rfl (lv_at hl 4 rfl) ?_
              refine lv_sipush (v := 20000) hx hb dX11_past_56 (by decide) ?_
              refine lv_irem hx hb dX11_past_59 (by decide) ?_
              refine lv_topi (fun z2472 e2473 => ?_)
              refine lv_istore (lv' := [(8, .int z2472), (7, .int z2469), (0, .ref (g 0)), (1, .int p0), (2, .int p1), (3, .int p2), (4, .int p3), (5, .int p4), (6, .int p5)]) hx hb dX11_past_60 hl (by decide) rfl (fun ls hl => ?_)
              refine lv_iload hx hb dX11_past_62 (lv_at hl 8 rfl) ?_
              refine lv_ldcw (v := 100000) hx hb hown (hwd _ wk_817) dX11_past_64 ?_
              refine lv_idiv hx hb dX11_past_67 (by decide) ?_
              refine lv_topi (fun z2475 e2476 => ?_)
              refine lv_sipush (v := 500) hx hb dX11_past_68 (by decide) ?_
              refine lv_isub hx hb dX11_past_71 ?_
              refine lv_topi (fun z2478 e2479 => ?_)
              try (have t2480 := tsub e2479 (a := z2475.toInt) rfl (b := 500) (by decide) (by omega))
              refine lv_istore (lv' := [(9, .int z2478), (8, .int z2472), (7, .int z2469), (0, .ref (g 0)), (1, .int p0), (2, .int p1), (3, .int p2), (4, .int p3), (5, .int p4), (6, .int p5)]) hx hb dX11_past_72 hl (by decide) rfl (fun ls hl => ?_)
              refine lv_iload hx hb dX11_past_74 (lv_at hl 9 rfl) ?_
              refine lv_ldcw (v := 100000) hx hb hown (hwd _ wk_817) dX11_past_76 ?_
              refine lv_irem hx hb dX11_past_79 (by decide) ?_
              refine lv_topi (fun z2481 e2482 => ?_)
              refine lv_istore (lv' := [(10, .int z2481), (9, .int z2478), (8, .int z2472), (7, .int z2469), (0, .ref (g 0)), (1, .int p0), (2, .int p1), (3, .int p2), (4, .int p3), (5, .int p4), (6, .int p5)]) hx hb dX11_past_80 hl (by decide) rfl (fun ls hl => ?_)
              refine lv_iload hx hb dX11_past_82 (lv_at hl 9 rfl) ?_
              refine lv_iload hx hb dX11_past_84 (lv_at hl 1 rfl) ?_
              refine lv_iadd hx hb dX11_past_86 ?_
              refine lv_topi (fun z2484 e2485 => ?_)
              try (have t2486 := tadd e2485 (a := p4.toInt) rfl (b := z2478.toInt) rfl (by omega))
              refine lv_istore (lv' := [(11, .int z2484), (10, .int z2481), (9, .int z2478), (8, .int z2472), (7, .int z2469), (0, .ref (g 0)), (1, .int p0), (2, .int p1), (3, .int p2), (4, .int p3), (5, .int p4), (6, .int p5)]) hx hb dX11_past_87 hl (by decide) rfl (fun ls hl => ?_)
              refine lv_iload hx hb dX11_past_89 (lv_at hl 3 rfl) ?_
              refine lv_sipush (v := 9999) hx hb dX11_past_91 (by decide) ?_
              refine lv_icmp_gt (tgt := 120) hx hb dX11_past_94 (by decide) (fun c2487 => ?_) (fun c2487 => ?_)
              · skip
                have t2488 := cv_lt (a := 9999) (by decide) (b := z2472.toInt) rfl c2487
                refine lv_iconst (v := (-1)) hx hb dX11_past_120 (by decide) ?_
                have hP9 : va_P (dC, dI) classes (wX g c v F rc) H := hP
                exact W.iret (v := (-1)) hx hb hr (fun t ht hW => ⟨⟨(-1), (v, F, rc), rfl, ⟨hI, hal, rfl, (fun _ _ => rfl), trivial⟩, (by show va_P _ _ _ t.heap; rw [ht]; exact hP9)⟩, hS.F ht⟩) hS.2.2 dX11_past_121
              · skip
                have t2489 := cv_nlt (a := 9999) (by decide) (b := z2472.toInt) rfl c2487
                refine lv_iload hx hb dX11_past_97 (lv_at hl 4 rfl) ?_
                refine lv_iload hx hb dX11_past_99 (lv_at hl 3 rfl) ?_
                refine lv_icmp_gt (tgt := 120) hx hb dX11_past_101 (by decide) (fun c2490 => ?_) (fun c2490 => ?_)
                · skip
                  have t2491 := cv_lt (a := z2472.toInt) rfl (b := z2469.toInt) rfl c2490
                  refine lv_iconst (v := (-1)) hx hb dX11_past_120 (by decide) ?_
                  have hP9 : va_P (dC, dI) classes (wX g c v F rc) H := hP
                  exact W.iret (v := (-1)) hx hb hr (fun t ht hW => ⟨⟨(-1), (v, F, rc), rfl, ⟨hI, hal, rfl, (fun _ _ => rfl), trivial⟩, (by show va_P _ _ _ t.heap; rw [ht]; exact hP9)⟩, hS.F ht⟩) hS.2.2 dX11_past_121
                · skip
                  have t2492 := cv_nlt (a := z2472.toInt) rfl (b := z2469.toInt) rfl c2490
                  refine lv_iload hx hb dX11_past_104 (lv_at hl 2 rfl) ?_
                  refine lv_sipush (v := 499) hx hb dX11_past_106 (by decide) ?_
                  refine lv_icmp_gt (tgt := 120) hx hb dX11_past_109 (by decide) (fun c2493 => ?_) (fun c2493 => ?_)
                  · skip
                    have t2494 := cv_lt (a := 499) (by decide) (b := z2478.toInt) rfl c2493
                    refine lv_iconst (v := (-1)) hx hb dX11_past_120 (by decide) ?_
                    have hP9 : va_P (dC, dI) classes (wX g c v F rc) H := hP
                    exact W.iret (v := (-1)) hx hb hr (fun t ht hW => ⟨⟨(-1), (v, F, rc), rfl, ⟨hI, hal, rfl, (fun _ _ => rfl), trivial⟩, (by show va_P _ _ _ t.heap; rw [ht]; exact hP9)⟩, hS.F ht⟩) hS.2.2 dX11_past_121
                  · skip
                    have t2495 := cv_nlt (a := 499) (by decide) (b := z2478.toInt) rfl c2493
                    refine lv_iload hx hb dX11_past_112 (lv_at hl 0 rfl) ?_
                    refine va_calli (va_runS (As := [.int z2484]) (rest := []) ⟨hx, hb, hml, hown, hwd⟩ (c_X11_isTold l dC dI g c adK adV v F rc H.size z2484 hg hI ) (va_cwS 1 hwd (gT wk_235 wk_233 wk_234 wk_2) rfl rfl rfl (by decide +kernel) ⟨Nat.le_of_ble_eq_true rfl, Nat.le_of_ble_eq_true rfl⟩) ⟨PX.blind, fun U hU hW => ⟨rfl, PX.at hK hE hP hS hU hW⟩⟩ rfl rfl hl.1 rfl (lv_room (Nat.le_of_ble_eq_true rfl)) dX11_past_114 ⟨Nat.le_of_ble_eq_true rfl, Nat.le_of_ble_eq_true rfl⟩) hS (fun q _ h => (freeX hS) q h) (freeX hS) (fun r2496 u t H1 locs ht hvm hw hB hz1 hk1 hS => ?_)
                    unfold BX at hB
                    rw [ht] at hB
                    have hP : va_P (dC, dI) classes (wX g c v F rc) H1 := hB
                    have hw : (r2496.toInt = 1 ∧ 0 ≤ z2484.toInt ∧ z2484.toInt ≤ 99999) ∨ (r2496.toInt = 0 ∧ (z2484.toInt < 0 ∨ 99999 < z2484.toInt)) := hw
                    generalize H1 = H at hP hS ⊢
                    have hw_r2496 := hw
                    refine lv_if_ne (tgt := 122) hx hb dX11_past_117 (by decide) (fun c2497 => ?_) (fun c2497 => ?_)
                    · skip
                      have t2498 := cv_ne (a := r2496.toInt) rfl (b := 0) (by decide) c2497
                      refine lv_aload_n hx hb dX11_past_122 rfl (lv_at hl 5 rfl) ?_
                      refine va_get (D := (dC, dI)) (ci := 11) (v := .ref (g 4)) (C := RX11) (T := TX11) (N := 14) hx hb hwd inA_X11 hown hK hP 0 rfl rfl 3 (by decide) (hwd _ wk_23) (fun _ h9 => h9) rfl dX11_past_123 ?_
                      refine lv_iconst (v := 1) hx hb dX11_past_126 (by decide) ?_
                      refine va_calli (va_runV (As := [.int 1]) (rest := []) ⟨hx, hb, hml, hown, hwd⟩ (c_X9_hasRoom l dC dI g c adK adV v F rc H.size 1 hg hI ) (cwV 1 hwd (gV wk_565 wk_562 wk_563 wk_564 wk_22) rfl rfl rfl (by decide +kernel) ⟨Nat.le_of_ble_eq_true rfl, Nat.le_of_ble_eq_true rfl⟩) ⟨PX.blind, va_recv hK hP (ci := 9) (q0 := 4) rfl rfl, fun U hU hW => ⟨rfl, PX.at hK hE hP hS hU hW⟩⟩ rfl rfl hl.1 rfl (lv_room (Nat.le_of_ble_eq_true rfl)) dX11_past_127 ⟨Nat.le_of_ble_eq_true rfl, Nat.le_of_ble_eq_true rfl⟩) hS (fun q _ h => (freeX hS) q h) (freeX hS) (fun r2499 u t H1 locs ht hvm hw hB hz1 hk1 hS => ?_)
                      unfold BX at hB
                      rw [ht] at hB
                      have hP : va_P (dC, dI) classes (wX g c v F rc) H1 := hB
                      have hw : 0 ≤ r2499.toInt ∧ r2499.toInt ≤ 1 := hw
                      have k2500 : (1 : Int32).toInt = 1 := by decide
                      generalize H1 = H at hP hS ⊢
                      have hw_r2499 := hw
                      refine lv_if_ne (tgt := 136) hx hb dX11_past_130 (by decide) (fun c2501 => ?_) (fun c2501 => ?_)
                      · skip
                        have t2502 := cv_ne (a := r2499.toInt) rfl (b := 0) (by decide) c2501
                        refine lv_aload_n hx hb dX11_past_136 rfl (lv_at hl 5 rfl) ?_
                        refine va_get (D := (dC, dI)) (ci := 11) (v := .ref (g 4)) (C := RX11) (T := TX11) (N := 14) hx hb hwd inA_X11 hown hK hP 0 rfl rfl 3 (by decide) (hwd _ wk_23) (fun _ h9 => h9) rfl dX11_past_137 ?_
                        refine lv_iload_n hx hb dX11_past_140 rfl (lv_at hl 6 rfl) ?_
                        refine lv_iload_n hx hb dX11_past_141 rfl (lv_at hl 7 rfl) ?_
                        refine lv_iload hx hb dX11_past_142 (lv_at hl 4 rfl) ?_
                        refine lv_sipush (v := 9999) hx hb dX11_past_144 (by decide) ?_
                        refine lv_isub hx hb dX11_past_147 ?_
                        refine lv_topi (fun z2503 e2504 => ?_)
                        try (have t2505 := tsub e2504 (a := z2469.toInt) rfl (b := 9999) (by decide) (by omega))
                        refine lv_iload hx hb dX11_past_148 (lv_at hl 9 rfl) ?_
                        refine lv_iload hx hb dX11_past_150 (lv_at hl 10 rfl) ?_
                        refine va_calli (va_runV (As := [.int p0, .int p1, .int z2503, .int p3, .int p4]) (rest := []) ⟨hx, hb, hml, hown, hwd⟩ (c_X9_add l dC dI g c adK adV v F rc H.size p0 p1 z2503 p3 p4 hg hI (by omega)) (cwV 5 hwd (gV wk_583 wk_818 wk_581 wk_582 wk_22) rfl rfl rfl (by decide +kernel) ⟨Nat.le_of_ble_eq_true rfl, Nat.le_of_ble_eq_true rfl⟩) ⟨PX.blind, va_recv hK hP (ci := 9) (q0 := 4) rfl rfl, fun U hU hW => ⟨rfl, PX.at hK hE hP hS hU hW⟩⟩ rfl rfl hl.1 rfl (lv_room (Nat.le_of_ble_eq_true rfl)) dX11_past_152 ⟨Nat.le_of_ble_eq_true rfl, Nat.le_of_ble_eq_true rfl⟩) hS (fun q _ h => (freeX hS) q h) (freeX hS) (fun r2506 u t H1 locs ht hvm hw hB hz1 hk1 hS => ?_)
                        unfold BX at hB
                        rw [ht] at hB
                        obtain ⟨v2507, F2508, rc9⟩ := u
                        obtain ⟨hI, hal9, hrc, hf2509, hw⟩ := hw
                        dsimp only at hI hal9 hrc hB hf2509 hw
                        rw [hrc] at hB
                        have hal := hal9.trans hal
                        have hP : va_P (dC, dI) classes (wX g c v2507 F2508 rc) H1 := hB
                        have hw : -1 ≤ r2506.toInt ∧ r2506.toInt ≤ 499 := hw
                        generalize H1 = H at hP hS ⊢
                        have hw_r2506 := hw
                        refine lv_istore (lv' := [(12, .int r2506), (11, .int z2484), (10, .int z2481), (9, .int z2478), (8, .int z2472), (7, .int z2469), (0, .ref (g 0)), (1, .int p0), (2, .int p1), (3, .int p2), (4, .int p3), (5, .int p4), (6, .int p5)]) hx hb dX11_past_155 hl (by decide) rfl (fun ls hl => ?_)
                        refine lv_aload_n hx hb dX11_past_157 rfl (lv_at hl 6 rfl) ?_
                        refine va_get (D := (dC, dI)) (ci := 11) (v := .ref (g 4)) (C := RX11) (T := TX11) (N := 14) hx hb hwd inA_X11 hown hK hP 0 rfl rfl 3 (by decide) (hwd _ wk_23) (fun _ h9 => h9) rfl dX11_past_158 ?_
                        refine lv_iload hx hb dX11_past_161 (lv_at hl 0 rfl) ?_
                        refine lv_iload hx hb dX11_past_163 (lv_at hl 4 rfl) ?_
                        refine lv_sipush (v := 9999) hx hb dX11_past_165 (by decide) ?_
                        refine lv_isub hx hb dX11_past_168 ?_
                        refine lv_topi (fun z2510 e2511 => ?_)
                        try (have t2512 := tsub e2511 (a := z2472.toInt) rfl (b := 9999) (by decide) (by omega))
                        refine lv_iload hx hb dX11_past_169 (lv_at hl 2 rfl) ?_
                        refine lv_iload hx hb dX11_past_171 (lv_at hl 1 rfl) ?_
                        refine va_callv (va_runV (As := [.int r2506, .int z2510, .int z2481, .int z2484]) (rest := []) ⟨hx, hb, hml, hown, hwd⟩ (c_X9_end l dC dI g c adK adV v2507 F2508 rc H.size r2506 z2510 z2481 z2484 hg hI ) (cwV 4 hwd (gV wk_622 wk_819 wk_620 wk_621 wk_22) rfl rfl rfl (by decide +kernel) ⟨Nat.le_of_ble_eq_true rfl, Nat.le_of_ble_eq_true rfl⟩) ⟨PX.blind, va_recv hK hP (ci := 9) (q0 := 4) rfl rfl, fun U hU hW => ⟨rfl, PX.at hK hE hP hS hU hW⟩⟩ rfl rfl hl.1 rfl (lv_room (Nat.le_of_ble_eq_true rfl)) dX11_past_173 ⟨Nat.le_of_ble_eq_true rfl, Nat.le_of_ble_eq_true rfl⟩) hS (fun q _ h => (freeX hS) q h) (freeX hS) (fun u t H1 locs ht hvm hw hB hz1 hk1 hS => ?_)
                        unfold BX at hB
                        rw [ht] at hB
                        obtain ⟨v2514, F2515, rc9⟩ := u
                        obtain ⟨hI, hal9, hrc, hf2516, hw⟩ := hw
                        dsimp only at hI hal9 hrc hB hf2516 hw
                        rw [hrc] at hB
                        have hal := hal9.trans hal
                        have hP : va_P (dC, dI) classes (wX g c v2514 F2515 rc) H1 := hB
                        generalize H1 = H at hP hS ⊢
                        refine lv_aload_n hx hb dX11_past_176 rfl (lv_at hl 6 rfl) ?_
                        refine va_get (D := (dC, dI)) (ci := 11) (v := .ref (g 4)) (C := RX11) (T := TX11) (N := 14) hx hb hwd inA_X11 hown hK hP 0 rfl rfl 3 (by decide) (hwd _ wk_23) (fun _ h9 => h9) rfl dX11_past_177 ?_
                        refine lv_iload_n hx hb dX11_past_180 rfl (lv_at hl 7 rfl) ?_
                        refine va_calli (va_runV (As := [.int p0]) (rest := []) ⟨hx, hb, hml, hown, hwd⟩ (c_X9_countOf l dC dI g c adK adV v2514 F2515 rc H.size p0 hg hI (by omega)) (cwV 1 hwd (gV wk_669 wk_666 wk_667 wk_668 wk_22) rfl rfl rfl (by decide +kernel) ⟨Nat.le_of_ble_eq_true rfl, Nat.le_of_ble_eq_true rfl⟩) ⟨PX.blind, va_recv hK hP (ci := 9) (q0 := 4) rfl rfl, fun U hU hW => ⟨rfl, PX.at hK hE hP hS hU hW⟩⟩ rfl rfl hl.1 rfl (lv_room (Nat.le_of_ble_eq_true rfl)) dX11_past_181 ⟨Nat.le_of_ble_eq_true rfl, Nat.le_of_ble_eq_true rfl⟩) hS (fun q _ h => (freeX hS) q h) (freeX hS) (fun r2517 u t H1 locs ht hvm hw hB hz1 hk1 hS => ?_)
                        unfold BX at hB
                        rw [ht] at hB
                        have hP : va_P (dC, dI) classes (wX g c v2514 F2515 rc) H1 := hB
                        generalize H1 = H at hP hS ⊢
                        have rr_r2517 := i32_rng r2517
                        have hP9 : va_P (dC, dI) classes (wX g c v2514 F2515 rc) H := hP
                        exact W.iret (v := r2517) hx hb hr (fun t ht hW => ⟨⟨r2517, (v2514, F2515, rc), rfl, ⟨hI, hal, rfl, (frC (by decide) hf2516 (frC (by decide) hf2509 (fun _ _ => rfl))), trivial⟩, (by show va_P _ _ _ t.heap; rw [ht]; exact hP9)⟩, hS.F ht⟩) hS.2.2 dX11_past_184
                      · skip
                        have t2518 := cv_eq (a := r2499.toInt) rfl (b := 0) (by decide) c2501
                        refine lv_bipush (v := (-3)) hx hb dX11_past_133 (by decide) ?_
                        have hP9 : va_P (dC, dI) classes (wX g c v F rc) H := hP
                        exact W.iret (v := (-3)) hx hb hr (fun t ht hW => ⟨⟨(-3), (v, F, rc), rfl, ⟨hI, hal, rfl, (fun _ _ => rfl), trivial⟩, (by show va_P _ _ _ t.heap; rw [ht]; exact hP9)⟩, hS.F ht⟩) hS.2.2 dX11_past_135
                    · skip
                      have t2519 := cv_eq (a := r2496.toInt) rfl (b := 0) (by decide) c2497
                      refine lv_iconst (v := (-1)) hx hb dX11_past_120 (by decide) ?_
                      have hP9 : va_P (dC, dI) classes (wX g c v F rc) H := hP
                      exact W.iret (v := (-1)) hx hb hr (fun t ht hW => ⟨⟨(-1), (v, F, rc), rfl, ⟨hI, hal, rfl, (fun _ _ => rfl), trivial⟩, (by show va_P _ _ _ t.heap; rw [ht]; exact hP9)⟩, hS.F ht⟩) hS.2.2 dX11_past_121
            · skip
              have t2520 := cv_nle (a := 0) (by decide) (b := p5.toInt) rfl c2467
              refine lv_iconst (v := (-1)) hx hb dX11_past_46 (by decide) ?_
              have hP9 : va_P (dC, dI) classes (wX g c v F rc) H := hP
              exact W.iret (v := (-1)) hx hb hr (fun t ht hW => ⟨⟨(-1), (v, F, rc), rfl, ⟨hI, hal, rfl, (fun _ _ => rfl), trivial⟩, (by show va_P _ _ _ t.heap; rw [ht]; exact hP9)⟩, hS.F ht⟩) hS.2.2 dX11_past_47
        · skip
          have t2521 := cv_eq (a := r2461.toInt) rfl (b := 0) (by decide) c2462
          refine lv_iconst (v := (-1)) hx hb dX11_past_35 (by decide) ?_
          have hP9 : va_P (dC, dI) classes (wX g c v F rc) H := hP
          exact W.iret (v := (-1)) hx hb hr (fun t ht hW => ⟨⟨(-1), (v, F, rc), rfl, ⟨hI, hal, rfl, (fun _ _ => rfl), trivial⟩, (by show va_P _ _ _ t.heap; rw [ht]; exact hP9)⟩, hS.F ht⟩) hS.2.2 dX11_past_36
