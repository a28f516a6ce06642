set_option maxHeartbeats 8000000 in
set_option maxRecDepth 100000 in
theorem c_X11_best (l : Launch) (dC : Nat → ClassId) (dI : Nat → Nat → Nat) (g : Nat → Nat) (c : Nat → ClassId) (adK adV : Nat → Nat) (v : Nat → Int32) (F : Nat → Nat → Int32) (rc sz : Nat) (p0 : Int32) (p1 : Int32) (hg : injX g) (hI : IX v F) : Met l yX11_best (Cond.code yX11_best cX11_best 4 (some .int) :: wA) ({ frames := 8, cells := 0, slots := 0, locals := 320 }) (va_Pc [.ref (g 0), .int p0, .int p1] (PX dC dI g c adK adV v F rc sz)) (va_Qi (fun (r : Int32) (u : StX) => IX u.1 u.2.1 ∧ alX u.1 u.2.1 = alX v F ∧ u.2.2 = rc ∧ (∀ k, k ∉ ([13, 126, 229, 231, 232] : List Nat) → u.1 k = v k) ∧ True) (BX dC dI g c) (AX g sz)) 0 0 (AX g sz) := by
  refine Met.ofW (cc := cX11_best) (maxL := 4) (ret := (some .int)) (by decide) rfl ?_
  intro p e s m args below meth c0 s₁ B hml hv
  obtain ⟨rfl, hsz, hP, hK, hE⟩ := hv
  have hx := B.exec
  have hb := B.bytes
  have hr := B.returns
  have hts := atoms_spec (ws := Cond.code yX11_best cX11_best 4 (some .int) :: wA) B.pre
  have hwd : ∀ w ∈ wA, w.before _ s = true := fun w h => hts w (List.mem_cons_of_mem _ h)
  have hown : s.vm.findClass RX11 = some m.cls := findClass_of_methodNamed B.named
  have hlocks := B.notSynchronized
  subst hsz
  have hl := lv_entry ([.ref (g 0), .int p0, .int p1]) (n := 4) (Nat.le_of_ble_eq_true rfl)
  rw [lg_entry_eq]
  generalize (lg_sl ([.ref (g 0), .int p0, .int p1]) ++ List.replicate (4 - (lg_sl ([.ref (g 0), .int p0, .int p1])).length) Slot.unset).toArray = ls at hl ⊢
  have hl : lv_has ls 4 [(0, .ref (g 0)), (1, .int p0), (2, .int p1)] := hl
  obtain ⟨H, eH⟩ : ∃ z, z = s.heap := ⟨_, rfl⟩
  have hP : va_P (dC, dI) classes (wX g c v F rc) H := by rw [eH]; exact hP
  have hS : va_S (AX g s.heap.size) s.heap H [] := by rw [eH]; exact va_S.rf
  refine my_heap eH ?_
  have hal : alX v F = alX v F := rfl
  have rp0 := i32_rng p0
  have rp1 := i32_rng p1
  refine lv_aload_n hx hb dX11_best_0 rfl (lv_at hl 0 rfl) ?_
  refine va_get (D := (dC, dI)) (ci := 11) (v := .ref (g 2)) (C := RX11) (T := TX11) (N := 14) hx hb hwd inA_X11 hown hK hP 0 rfl rfl 1 (by decide) (hwd _ wk_19) (fun _ h9 => h9) rfl dX11_best_1 ?_
  refine lv_iload_n hx hb dX11_best_4 rfl (lv_at hl 1 rfl) ?_
  refine va_calli (va_runV (As := [.int p0]) (rest := []) ⟨hx, hb, hml, hown, hwd⟩ (c_X8_has l dC dI g c adK adV v F rc H.size p0 hg hI ) (cwV 1 hwd (gV wk_276 wk_273 wk_274 wk_275 wk_18) rfl rfl rfl (by decide +kernel) ⟨Nat.le_of_ble_eq_true rfl, Nat.le_of_ble_eq_true rfl⟩) ⟨PX.blind, va_recv hK hP (ci := 8) (q0 := 2) rfl rfl, fun U hU hW => ⟨rfl, PX.at hK hE hP hS hU hW⟩⟩ rfl rfl hl.1 rfl (lv_room (Nat.le_of_ble_eq_true rfl)) dX11_best_5 ⟨Nat.le_of_ble_eq_true rfl, Nat.le_of_ble_eq_true rfl⟩) hS (fun q _ h => (freeX hS) q h) (freeX hS) (fun r3107 u t H1 locs ht hvm hw hB hz1 hk1 hS => ?_)
  unfold BX at hB
  rw [ht] at hB
  have hP : va_P (dC, dI) classes (wX g c v F rc) H1 := hB
  have hw : (0 ≤ r3107.toInt ∧ r3107.toInt ≤ 1) ∧ (r3107.toInt = 1 → 0 ≤ p0.toInt ∧ p0.toInt < 10) := hw
  generalize H1 = H at hP hS ⊢
  have hw_r3107 := hw
  refine lv_if_eq (tgt := 22) hx hb dX11_best_8 (by decide) (fun c3108 => ?_) (fun c3108 => ?_)
  · skip
    have t3109 := cv_eq (a := r3107.toInt) rfl (b := 0) (by decide) c3108
    refine lv_iconst (v := (-1)) hx hb dX11_best_22 (by decide) ?_
    have hP9 : va_P (dC, dI) classes (wX g c v F rc) H := hP
    exact W.iret (v := (-1)) hx hb hr (fun t ht hW => ⟨⟨(-1), (v, F, rc), rfl, ⟨hI, hal, rfl, (fun _ _ => rfl), trivial⟩, (by show va_P _ _ _ t.heap; rw [ht]; exact hP9)⟩, hS.F ht⟩) hS.2.2 dX11_best_23
  · skip
    have t3110 := cv_ne (a := r3107.toInt) rfl (b := 0) (by decide) c3108
    refine lv_aload_n hx hb dX11_best_11 rfl (lv_at hl 0 rfl) ?_
    refine va_get (D := (dC, dI)) (ci := 11) (v := .ref (g 1)) (C := RX11) (T := TX11) (N := 14) hx hb hwd inA_X11 hown hK hP 0 rfl rfl 0 (by decide) (hwd _ wk_15) (fun _ h9 => h9) rfl dX11_best_12 ?_
    refine lv_iload_n hx hb dX11_best_15 rfl (lv_at hl 2 rfl) ?_
    refine va_calli (va_runV (As := [.int p1]) (rest := []) ⟨hx, hb, hml, hown, hwd⟩ (c_X2_has l dC dI g c adK adV v F rc H.size p1 hg hI ) (cwV 1 hwd (gV wk_280 wk_277 wk_278 wk_279 wk_14) rfl rfl rfl (by decide +kernel) ⟨Nat.le_of_ble_eq_true rfl, Nat.le_of_ble_eq_true rfl⟩) ⟨PX.blind, va_recv hK hP (ci := 2) (q0 := 1) rfl rfl, fun U hU hW => ⟨rfl, PX.at hK hE hP hS hU hW⟩⟩ rfl rfl hl.1 rfl (lv_room (Nat.le_of_ble_eq_true rfl)) dX11_best_16 ⟨Nat.le_of_ble_eq_true rfl, Nat.le_of_ble_eq_true rfl⟩) hS (fun q _ h => (freeX hS) q h) (freeX hS) (fun r3111 u t H1 locs ht hvm hw hB hz1 hk1 hS => ?_)
    unfold BX at hB
    rw [ht] at hB
    have hP : va_P (dC, dI) classes (wX g c v F rc) H1 := hB
    have hw : (0 ≤ r3111.toInt ∧ r3111.toInt ≤ 1) ∧ (r3111.toInt = 1 → 0 ≤ p1.toInt ∧ p1.toInt < 10) := hw
    generalize H1 = H at hP hS ⊢
    have hw_r3111 := hw
    refine lv_if_ne (tgt := 24) hx hb dX11_best_19 (by decide) (fun c3112 => ?_) (fun c3112 => ?_)
    · skip
      have t3113 := cv_ne (a := r3111.toInt) rfl (b := 0) (by decide) c3112
      refine lv_aload_n hx hb dX11_best_24 rfl (lv_at hl 0 rfl) ?_
      refine va_get (D := (dC, dI)) (ci := 11) (v := .ref (g 9)) (C := RX11) (T := TX11) (N := 14) hx hb hwd inA_X11 hown hK hP 0 rfl rfl 8 (by decide) (hwd _ wk_47) (fun _ h9 => h9) rfl dX11_best_25 ?_
      refine lv_iload_n hx hb dX11_best_28 rfl (lv_at hl 1 rfl) ?_
      refine va_calli (va_runV (As := [.int p0]) (rest := []) ⟨hx, hb, hml, hown, hwd⟩ (c_X0_isSigned l dC dI g c adK adV v F rc H.size p0 hg hI (by omega)) (cwV 1 hwd (gV wk_1221 wk_1218 wk_1219 wk_1220 wk_46) rfl rfl rfl (by decide +kernel) ⟨Nat.le_of_ble_eq_true rfl, Nat.le_of_ble_eq_true rfl⟩) ⟨PX.blind, va_recv hK hP (ci := 0) (q0 := 9) rfl rfl, fun U hU hW => ⟨rfl, PX.at hK hE hP hS hU hW⟩⟩ rfl rfl hl.1 rfl (lv_room (Nat.le_of_ble_eq_true rfl)) dX11_best_29 ⟨Nat.le_of_ble_eq_true rfl, Nat.le_of_ble_eq_true rfl⟩) hS (fun q _ h => (freeX hS) q h) (freeX hS) (fun r3114 u t H1 locs ht hvm hw hB hz1 hk1 hS => ?_)
      unfold BX at hB
      rw [ht] at hB
      have hP : va_P (dC, dI) classes (wX g c v F rc) H1 := hB
      have hw : 0 ≤ r3114.toInt ∧ r3114.toInt ≤ 1 := hw
      generalize H1 = H at hP hS ⊢
      have hw_r3114 := hw
      refine lv_if_eq (tgt := 58) hx hb dX11_best_32 (by decide) (fun c3115 => ?_) (fun c3115 => ?_)
      · skip
        have t3116 := cv_eq (a := r3114.toInt) rfl (b := 0) (by decide) c3115
        refine lv_bipush (v := (-2)) hx hb dX11_best_58 (by decide) ?_
        have hP9 : va_P (dC, dI) classes (wX g c v F rc) H := hP
        exact W.iret (v := (-2)) hx hb hr (fun t ht hW => ⟨⟨(-2), (v, F, rc), rfl, ⟨hI, hal, rfl, (fun _ _ => rfl), trivial⟩, (by show va_P _ _ _ t.heap; rw [ht]; exact hP9)⟩, hS.F ht⟩) hS.2.2 dX11_best_60
      · skip
        have t3117 := cv_ne (a := r3114.toInt) rfl (b := 0) (by decide) c3115
        refine lv_aload_n hx hb dX11_best_35 rfl (lv_at hl 0 rfl) ?_
        refine va_get (D := (dC, dI)) (ci := 11) (v := .ref (g 2)) (C := RX11) (T := TX11) (N := 14) hx hb hwd inA_X11 hown hK hP 0 rfl rfl 1 (by decide) (hwd _ wk_19) (fun _ h9 => h9) rfl dX11_best_36 ?_
        refine lv_iload_n hx hb dX11_best_39 rfl (lv_at hl 1 rfl) ?_
        refine va_calli (va_runV (As := [.int p0]) (rest := []) ⟨hx, hb, hml, hown, hwd⟩ (c_X8_isBack l dC dI g c adK adV v F rc H.size p0 hg hI (by omega)) (cwV 1 hwd (gV wk_284 wk_281 wk_282 wk_283 wk_18) rfl rfl rfl (by decide +kernel) ⟨Nat.le_of_ble_eq_true rfl, Nat.le_of_ble_eq_true rfl⟩) ⟨PX.blind, va_recv hK hP (ci := 8) (q0 := 2) rfl rfl, fun U hU hW => ⟨rfl, PX.at hK hE hP hS hU hW⟩⟩ rfl rfl hl.1 rfl (lv_room (Nat.le_of_ble_eq_true rfl)) dX11_best_40 ⟨Nat.le_of_ble_eq_true rfl, Nat.le_of_ble_eq_true rfl⟩) hS (fun q _ h => (freeX hS) q h) (freeX hS) (fun r3118 u t H1 locs ht hvm hw hB hz1 hk1 hS => ?_)
        unfold BX at hB
        rw [ht] at hB
        have hP : va_P (dC, dI) classes (wX g c v F rc) H1 := hB
        have hw : 0 ≤ r3118.toInt ∧ r3118.toInt ≤ 1 := hw
        generalize H1 = H at hP hS ⊢
        have hw_r3118 := hw
        refine lv_if_ne (tgt := 58) hx hb dX11_best_43 (by decide) (fun c3119 => ?_) (fun c3119 => ?_)
        · skip
          have t3120 := cv_ne (a := r3118.toInt) rfl (b := 0) (by decide) c3119
          refine lv_bipush (v := (-2)) hx hb dX11_best_58 (by decide) ?_
          have hP9 : va_P (dC, dI) classes (wX g c v F rc) H := hP
          exact W.iret (v := (-2)) hx hb hr (fun t ht hW => ⟨⟨(-2), (v, F, rc), rfl, ⟨hI, hal, rfl, (fun _ _ => rfl), trivial⟩, (by show va_P _ _ _ t.heap; rw [ht]; exact hP9)⟩, hS.F ht⟩) hS.2.2 dX11_best_60
        · skip
          have t3121 := cv_eq (a := r3118.toInt) rfl (b := 0) (by decide) c3119
          refine lv_aload_n hx hb dX11_best_46 rfl (lv_at hl 0 rfl) ?_
          refine va_get (D := (dC, dI)) (ci := 11) (v := .ref (g 2)) (C := RX11) (T := TX11) (N := 14) hx hb hwd inA_X11 hown hK hP 0 rfl rfl 1 (by decide) (hwd _ wk_19) (fun _ h9 => h9) rfl dX11_best_47 ?_
          refine lv_iload_n hx hb dX11_best_50 rfl (lv_at hl 1 rfl) ?_
          refine lv_iload_n hx hb dX11_best_51 rfl (lv_at hl 2 rfl) ?_
          refine va_calli (va_runV (As := [.int p0, .int p1]) (rest := []) ⟨hx, hb, hml, hown, hwd⟩ (c_X8_needOf l dC dI g c adK adV v F rc H.size p0 p1 hg hI (by omega) (by omega)) (cwV 2 hwd (gV wk_297 wk_614 wk_295 wk_296 wk_18) rfl rfl rfl (by decide +kernel) ⟨Nat.le_of_ble_eq_true rfl, Nat.le_of_ble_eq_true rfl⟩) ⟨PX.blind, va_recv hK hP (ci := 8) (q0 := 2) rfl rfl, fun U hU hW => ⟨rfl, PX.at hK hE hP hS hU hW⟩⟩ rfl rfl hl.1 rfl (lv_room (Nat.le_of_ble_eq_true rfl)) dX11_best_52 ⟨Nat.le_of_ble_eq_true rfl, Nat.le_of_ble_eq_true rfl⟩) hS (fun q _ h => (freeX hS) q h) (freeX hS) (fun r3122 u t H1 locs ht hvm hw hB hz1 hk1 hS => ?_)
          unfold BX at hB
          rw [ht] at hB
          have hP : va_P (dC, dI) classes (wX g c v F rc) H1 := hB
          generalize H1 = H at hP hS ⊢
          have rr_r3122 := i32_rng r3122
          refine lv_if_ne (tgt := 61) hx hb dX11_best_55 (by decide) (fun c3123 => ?_) (fun c3123 => ?_)
          · skip
            have t3124 := cv_ne (a := r3122.toInt) rfl (b := 0) (by decide) c3123
            refine lv_aload_n hx hb dX11_best_61 rfl (lv_at hl 0 rfl) ?_
            refine va_get (D := (dC, dI)) (ci := 11) (v := .ref (g 3)) (C := RX11) (T := TX11) (N := 14) hx hb hwd inA_X11 hown hK hP 0 rfl rfl 2 (by decide) (hwd _ wk_27) (fun _ h9 => h9) rfl dX11_best_62 ?_
            refine lv_iload_n hx hb dX11_best_65 rfl (lv_at hl 2 rfl) ?_
            refine lv_iload_n hx hb dX11_best_66 rfl (lv_at hl 1 rfl) ?_
            refine va_calli (va_runV (As := [.int p1, .int p0]) (rest := []) ⟨hx, hb, hml, hown, hwd⟩ (c_X7_ofKindAt l dC dI g c adK adV v F rc H.size p1 p0 hg hI ) (cwV 2 hwd (gV wk_288 wk_285 wk_286 wk_287 wk_26) rfl rfl rfl (by decide +kernel) ⟨Nat.le_of_ble_eq_true rfl, Nat.le_of_ble_eq_true rfl⟩) ⟨PX.blind, va_recv hK hP (ci := 7) (q0 := 3) rfl rfl, fun U hU hW => ⟨rfl, PX.at hK hE hP hS hU hW⟩⟩ rfl rfl hl.1 rfl (lv_room (Nat.le_of_ble_eq_true rfl)) dX11_best_67 ⟨Nat.le_of_ble_eq_true rfl, Nat.le_of_ble_eq_true rfl⟩) hS (fun q _ h => (freeX hS) q h) (freeX hS) (fun r3125 u t H1 locs ht hvm hw hB hz1 hk1 hS => ?_)
            unfold BX at hB
            rw [ht] at hB
            have hP : va_P (dC, dI) classes (wX g c v F rc) H1 := hB
            generalize H1 = H at hP hS ⊢
            have rr_r3125 := i32_rng r3125
            refine lv_aload_n hx hb dX11_best_70 rfl (lv_at hl 0 rfl) ?_
            refine va_get (D := (dC, dI)) (ci := 11) (v := .ref (g 3)) (C := RX11) (T := TX11) (N := 14) hx hb hwd inA_X11 hown hK hP 0 rfl rfl 2 (by decide) (hwd _ wk_27) (fun _ h9 => h9) rfl dX11_best_71 ?_
            refine lv_iload_n hx hb dX11_best_74 rfl (lv_at hl 2 rfl) ?_
            refine lv_bipush (v := 11) hx hb dX11_best_75 (by decide) ?_
            refine va_calli (va_runV (As := [.int p1, .int 11]) (rest := [.int r3125]) ⟨hx, hb, hml, hown, hwd⟩ (c_X7_ofKindAt l dC dI g c adK adV v F rc H.size p1 11 hg hI ) (cwV 2 hwd (gV wk_288 wk_285 wk_286 wk_287 wk_26) rfl rfl rfl (by decide +kernel) ⟨Nat.le_of_ble_eq_true rfl, Nat.le_of_ble_eq_true rfl⟩) ⟨PX.blind, va_recv hK hP (ci := 7) (q0 := 3) rfl rfl, fun U hU hW => ⟨rfl, PX.at hK hE hP hS hU hW⟩⟩ rfl rfl hl.1 rfl (lv_room (Nat.le_of_ble_eq_true rfl)) dX11_best_77 ⟨Nat.le_of_ble_eq_true rfl, Nat.le_of_ble_eq_true rfl⟩) hS (fun q _ h => (freeX hS) q h) (freeX hS) (fun r3126 u t H1 locs ht hvm hw hB hz1 hk1 hS => ?_)
            unfold BX at hB
            rw [ht] at hB
            have hP : va_P (dC, dI) classes (wX g c v F rc) H1 := hB
            generalize H1 = H at hP hS ⊢
            have rr_r3126 := i32_rng r3126
            refine lv_iadd hx hb dX11_best_80 ?_
            refine lv_topi (fun z3127 e3128 => ?_)
            try (have t3129 := tadd e3128 (a := r3125.toInt) rfl (b := r3126.toInt) rfl (by omega))
            refine lv_bipush (v := 8) hx hb dX11_best_81 (by decide) ?_
            refine lv_icmp_le (tgt := 89) hx hb dX11_best_83 (by decide) (fun c3130 => ?_) (fun c3130 => ?_)
            · skip
              have t3131 := cv_le (a := z3127.toInt) rfl (b := 8) (by decide) c3130
              refine lv_aload_n hx hb dX11_best_89 rfl (lv_at hl 0 rfl) ?_
              refine va_get (D := (dC, dI)) (ci := 11) (v := .ref (g 11)) (C := RX11) (T := TX11) (N := 14) hx hb hwd inA_X11 hown hK hP 0 rfl rfl 10 (by decide) (hwd _ wk_55) (fun _ h9 => h9) rfl dX11_best_90 ?_
              refine lv_iload_n hx hb dX11_best_93 rfl (lv_at hl 1 rfl) ?_
              refine lv_iload_n hx hb dX11_best_94 rfl (lv_at hl 2 rfl) ?_
              refine lv_aload_n hx hb dX11_best_95 rfl (lv_at hl 0 rfl) ?_
              refine va_get (D := (dC, dI)) (ci := 11) (v := .int (v 11)) (C := RX11) (T := TX11) (N := 14) hx hb hwd inA_X11 hown hK hP 0 rfl rfl 11 (by decide) (hwd _ wk_323) (fun _ h9 => h9) rfl dX11_best_96 ?_
              have t3132 : 0 ≤ (v 11).toInt ∧ (v 11).toInt ≤ 9999 := hI.1 11 _ _ rfl
              refine va_callv (va_runV (As := [.int p0, .int p1, .int (v 11)]) (rest := []) ⟨hx, hb, hml, hown, hwd⟩ (c_X1_survey l dC dI g c adK adV v F rc H.size p0 p1 (v 11) hg hI ) (cwV 3 hwd (gV wk_1150 wk_1147 wk_1148 wk_1149 wk_54) rfl rfl rfl (by decide +kernel) ⟨Nat.le_of_ble_eq_true rfl, Nat.le_of_ble_eq_true rfl⟩) ⟨PX.blind, va_recv hK hP (ci := 1) (q0 := 11) rfl rfl, fun U hU hW => ⟨rfl, PX.at hK hE hP hS hU hW⟩⟩ rfl rfl hl.1 rfl (lv_room (Nat.le_of_ble_eq_true rfl)) dX11_best_99 ⟨Nat.le_of_ble_eq_true rfl, Nat.le_of_ble_eq_true rfl⟩) hS (fun q _ h => (freeX hS) q h) (freeX hS) (fun u t H1 locs ht hvm hw hB hz1 hk1 hS => ?_)
              unfold BX at hB
              rw [ht] at hB
              obtain ⟨v3134, F3135, rc9⟩ := u
              obtain ⟨hI, hal9, hrc, hf3136, hw⟩ := hw
              dsimp only at hI hal9 hrc hB hf3136 hw
              rw [hrc] at hB
              have hal := hal9.trans hal
              have hP : va_P (dC, dI) classes (wX g c v3134 F3135 rc) H1 := hB
              generalize H1 = H at hP hS ⊢
              refine lv_aload_n hx hb dX11_best_102 rfl (lv_at hl 0 rfl) ?_
              refine va_get (D := (dC, dI)) (ci := 11) (v := .ref (g 11)) (C := RX11) (T := TX11) (N := 14) hx hb hwd inA_X11 hown hK hP 0 rfl rfl 10 (by decide) (hwd _ wk_55) (fun _ h9 => h9) rfl dX11_best_103 ?_
              refine lv_iload_n hx hb dX11_best_106 rfl (lv_at hl 1 rfl) ?_
              refine lv_iload_n hx hb dX11_best_107 rfl (lv_at hl 2 rfl) ?_
              refine lv_aload_n hx hb dX11_best_108 rfl (lv_at hl 0 rfl) ?_
              refine va_get (D := (dC, dI)) (ci := 11) (v := .int (v3134 11)) (C := RX11) (T := TX11) (N := 14) hx hb hwd inA_X11 hown hK hP 0 rfl rfl 11 (by decide) (hwd _ wk_323) (fun _ h9 => h9) rfl dX11_best_109 ?_
              refine my_top (v := v 11) (hf3136 11 (by decide)) ?_
              have t3137 : 0 ≤ (v 11).toInt ∧ (v 11).toInt ≤ 9999 := by have h9 := hI.1 11 _ _ rfl; rw [show v3134 11 = v 11 from hf3136 11 (by decide)] at h9; exact h9
              refine va_callv (va_runV (As := [.int p0, .int p1, .int (v 11)]) (rest := []) ⟨hx, hb, hml, hown, hwd⟩ (c_X1_fillRow l dC dI g c adK adV v3134 F3135 rc H.size p0 p1 (v 11) hg hI (by omega)) (cwV 3 hwd (gV wk_1276 wk_1273 wk_1274 wk_1275 wk_54) rfl rfl rfl (by decide +kernel) ⟨Nat.le_of_ble_eq_true rfl, Nat.le_of_ble_eq_true rfl⟩) ⟨PX.blind, va_recv hK hP (ci := 1) (q0 := 11) rfl rfl, fun U hU hW => ⟨rfl, PX.at hK hE hP hS hU hW⟩⟩ rfl rfl hl.1 rfl (lv_room (Nat.le_of_ble_eq_true rfl)) dX11_best_112 ⟨Nat.le_of_ble_eq_true rfl, Nat.le_of_ble_eq_true rfl⟩) hS (fun q _ h => (freeX hS) q h) (freeX hS) (fun u t H1 locs ht hvm hw hB hz1 hk1 hS => ?_)
              unfold BX at hB
              rw [ht] at hB
              obtain ⟨v3139, F3140, rc9⟩ := u
              obtain ⟨hI, hal9, hrc, hf3141, hw⟩ := hw
              dsimp only at hI hal9 hrc hB hf3141 hw
              rw [hrc] at hB
              have hal := hal9.trans hal
              have hP : va_P (dC, dI) classes (wX g c v3139 F3140 rc) H1 := hB
              generalize H1 = H at hP hS ⊢
              refine lv_aload_n hx hb dX11_best_115 rfl (lv_at hl 0 rfl) ?_
              refine va_get (D := (dC, dI)) (ci := 11) (v := .ref (g 11)) (C := RX11) (T := TX11) (N := 14) hx hb hwd inA_X11 hown hK hP 0 rfl rfl 10 (by decide) (hwd _ wk_55) (fun _ h9 => h9) rfl dX11_best_116 ?_
              refine lv_iload_n hx hb dX11_best_119 rfl (lv_at hl 1 rfl) ?_
              refine lv_aload_n hx hb dX11_best_120 rfl (lv_at hl 0 rfl) ?_
              refine va_get (D := (dC, dI)) (ci := 11) (v := .ref (g 2)) (C := RX11) (T := TX11) (N := 14) hx hb hwd inA_X11 hown hK hP 0 rfl rfl 1 (by decide) (hwd _ wk_19) (fun _ h9 => h9) rfl dX11_best_121 ?_
              refine lv_iload_n hx hb dX11_best_124 rfl (lv_at hl 1 rfl) ?_
              refine lv_iload_n hx hb dX11_best_125 rfl (lv_at hl 2 rfl) ?_
              refine va_calli (va_runV (As := [.int p0, .int p1]) (rest := [.int p0, .ref (g 11)]) ⟨hx, hb, hml, hown, hwd⟩ (c_X8_needOf l dC dI g c adK adV v3139 F3140 rc H.size p0 p1 hg hI (by omega) (by omega)) (cwV 2 hwd (gV wk_297 wk_614 wk_295 wk_296 wk_18) rfl rfl rfl (by decide +kernel) ⟨Nat.le_of_ble_eq_true rfl, Nat.le_of_ble_eq_true rfl⟩) ⟨PX.blind, va_recv hK hP (ci := 8) (q0 := 2) rfl rfl, fun U hU hW => ⟨rfl, PX.at hK hE hP hS hU hW⟩⟩ rfl rfl hl.1 rfl (lv_room (Nat.le_of_ble_eq_true rfl)) dX11_best_126 ⟨Nat.le_of_ble_eq_true rfl, Nat.le_of_ble_eq_true rfl⟩) hS (fun q _ h => (freeX hS) q h) (freeX hS) (fun r3142 u t H1 locs ht hvm hw hB hz1 hk1 hS => ?_)
              unfold BX at hB
              rw [ht] at hB
              have hP : va_P (dC, dI) classes (wX g c v3139 F3140 rc) H1 := hB
              generalize H1 = H at hP hS ⊢
              have rr_r3142 := i32_rng r3142
              refine lv_aload_n hx hb dX11_best_129 rfl (lv_at hl 0 rfl) ?_
              refine va_get (D := (dC, dI)) (ci := 11) (v := .int (v3139 11)) (C := RX11) (T := TX11) (N := 14) hx hb hwd inA_X11 hown hK hP 0 rfl rfl 11 (by decide) (hwd _ wk_323) (fun _ h9 => h9) rfl dX11_best_130 ?_
              refine my_top (v := v 11) ((hf3141 11 (by decide)).trans (hf3136 11 (by decide))) ?_
              have t3143 : 0 ≤ (v 11).toInt ∧ (v 11).toInt ≤ 9999 := by have h9 := hI.1 11 _ _ rfl; rw [show v3139 11 = v 11 from (hf3141 11 (by decide)).trans (hf3136 11 (by decide))] at h9; exact h9
              refine va_calli (va_runV (As := [.int p0, .int r3142, .int (v 11)]) (rest := []) ⟨hx, hb, hml, hown, hwd⟩ (c_X1_choose l dC dI g c adK adV v3139 F3140 rc H.size p0 r3142 (v 11) hg hI (by omega)) (cwV 3 hwd (gV wk_1281 wk_1278 wk_1279 wk_1280 wk_54) rfl rfl rfl (by decide +kernel) ⟨Nat.le_of_ble_eq_true rfl, Nat.le_of_ble_eq_true rfl⟩) ⟨PX.blind, va_recv hK hP (ci := 1) (q0 := 11) rfl rfl, fun U hU hW => ⟨rfl, PX.at hK hE hP hS hU hW⟩⟩ rfl rfl hl.1 rfl (lv_room (Nat.le_of_ble_eq_true rfl)) dX11_best_133 ⟨Nat.le_of_ble_eq_true rfl, Nat.le_of_ble_eq_true rfl⟩) hS (fun q _ h => (freeX hS) q h) (freeX hS) (fun r3144 u t H1 locs ht hvm hw hB hz1 hk1 hS => ?_)
              unfold BX at hB
              rw [ht] at hB
              obtain ⟨v3145, F3146, rc9⟩ := u
              obtain ⟨hI, hal9, hrc, hf3147, hw⟩ := hw
              dsimp only at hI hal9 hrc hB hf3147 hw
              rw [hrc] at hB
              have hal := hal9.trans hal
              have hP : va_P (dC, dI) classes (wX g c v3145 F3146 rc) H1 := hB
              generalize H1 = H at hP hS ⊢
              have rr_r3144 := i32_rng r3144
              refine lv_istore_n (lv' := [(3, .int r3144), (0, .ref (g 0)), (1, .int p0), (2, .int p1)]) hx hb dX11_best_136 rfl hl (by decide) rfl (fun ls hl => ?_)
              refine lv_iload_n hx hb dX11_best_137 rfl (lv_at hl 0 rfl) ?_
              refine lv_if_eq (tgt := 152) hx hb dX11_best_138 (by decide) (fun c3148 => ?_) (fun c3148 => ?_)
              · skip
                have t3149 := cv_eq (a := r3144.toInt) rfl (b := 0) (by decide) c3148
                refine lv_iload_n hx hb dX11_best_152 rfl (lv_at hl 0 rfl) ?_
                have hP9 : va_P (dC, dI) classes (wX g c v3145 F3146 rc) H := hP
                exact W.iret (v := r3144) hx hb hr (fun t ht hW => ⟨⟨r3144, (v3145, F3146, rc), rfl, ⟨hI, hal, rfl, (frC (by decide) hf3147 (frC (by decide) hf3141 (frC (by decide) hf3136 (fun _ _ => rfl)))), trivial⟩, (by show va_P _ _ _ t.heap; rw [ht]; exact hP9)⟩, hS.F ht⟩) hS.2.2 dX11_best_153
              · skip
                have t3150 := cv_ne (a := r3144.toInt) rfl (b := 0) (by decide) c3148
                refine lv_aload_n hx hb dX11_best_141 rfl (lv_at hl 1 rfl) ?_
                refine lv_aload_n hx hb dX11_best_142 rfl (lv_at hl 1 rfl) ?_
                refine va_get (D := (dC, dI)) (ci := 11) (v := .ref (g 11)) (C := RX11) (T := TX11) (N := 14) hx hb hwd inA_X11 hown hK hP 0 rfl rfl 10 (by decide) (hwd _ wk_55) (fun _ h9 => h9) rfl dX11_best_143 ?_
                refine va_get (D := (dC, dI)) (ci := 1) (v := .int (v3145 232)) (C := RX1) (T := TX1) (N := 13) hx hb hwd inA_X1 hown hK hP 11 rfl rfl 12 (by decide) (hwd _ wk_1272) (fun _ h9 => h9) rfl dX11_best_146 ?_
                refine va_put (D := (dC, dI)) (ci := 11) (v := .int (v3145 232)) (ty := .int) (C := RX11) (T := TX11) (N := 14) (fs := fsX_0 g v3145 rc) hx hb hwd inA_X11 tyX11 tyX11_ok nmX11 hown hK hP (DX hg) hS 0 rfl rfl 13 (by decide) (hwd _ wk_57) (fun _ h9 => h9) rfl (by decide +kernel) rfl rfl (Nat.le_of_ble_eq_true rfl) dX11_best_149 (fun H locs hP _ hS => ?_)
                have hP := va_P_eq (pX_13 g c _ _ _ _) hP
                have hI := IX.put0 hI 13 (v3145 232) rfl
                have hal := (alX_v _ _ 13 (v3145 232) (by decide) (by decide) (by decide) (by decide)).trans hal
                refine lv_iload_n hx hb dX11_best_152 rfl (lv_at hl 0 rfl) ?_
                have hP9 : va_P (dC, dI) classes (wX g c (va_up v3145 13 (v3145 232)) F3146 rc) H := hP
                exact W.iret (v := r3144) hx hb hr (fun t ht hW => ⟨⟨r3144, ((va_up v3145 13 (v3145 232)), F3146, rc), rfl, ⟨hI, hal, rfl, (frU (by decide) (frC (by decide) hf3147 (frC (by decide) hf3141 (frC (by decide) hf3136 (fun _ _ => rfl))))), trivial⟩, (by show va_P _ _ _ t.heap; rw [ht]; exact hP9)⟩, hS.F ht⟩) hS.2.2 dX11_best_153
            · skip
              have t3151 := cv_nle (a := z3127.toInt) rfl (b := 8) (by decide) c3130
              refine lv_bipush (v := (-4)) hx hb dX11_best_86 (by decide) ?_
              have hP9 : va_P (dC, dI) classes (wX g c v F rc) H := hP
              exact W.iret (v := (-4)) hx hb hr (fun t ht hW => ⟨⟨(-4), (v, F, rc), rfl, ⟨hI, hal, rfl, (fun _ _ => rfl), trivial⟩, (by show va_P _ _ _ t.heap; rw [ht]; exact hP9)⟩, hS.F ht⟩) hS.2.2 dX11_best_88
          · skip
            have t3152 := cv_eq (a := r3122.toInt) rfl (b := 0) (by decide) c3123
            refine lv_bipush (v := (-2)) hx hb dX11_best_58 (by decide) ?_
            have hP9 : va_P (dC, dI) classes (wX g c v F rc) H := hP
            exact W.iret (v := (-2)) hx hb hr (fun t ht hW => ⟨⟨(-2), (v, F, rc), rfl, ⟨hI, hal, rfl, (fun _ _ => rfl), trivial⟩, (by show va_P _ _ _ t.heap; rw [ht]; exact hP9)⟩, hS.F ht⟩) hS.2.2 dX11_best_60
    · skip
      have t3153 := cv_eq (a := r3111.toInt) rfl (b := 0) (by decide) c3112
      refine lv_iconst (v := (-1)) hx hb dX11_best_22 (by decide) ?_
      have hP9 : va_P (dC, dI) classes (wX g c v F rc) H := hP
      exact W.iret (v := (-1)) hx hb hr (fun t ht hW => ⟨⟨(-1), (v, F, rc), rfl, ⟨hI, hal, rfl, (fun _ _ => rfl), trivial⟩, (by show va_P _ _ _ t.heap; rw [ht]; exact hP9)⟩, hS.F ht⟩) hS.2.2 dX11_best_23
