set_option maxHeartbeats 8000000 in
set_option maxRecDepth 100000 in
theorem c_X11_kind (l : Launch) (dC : Nat → ClassId) (dI : Nat → Nat → Nat) (g : Nat → Nat) (c : Nat → ClassId) (adK adV : Nat → Nat) (v : Nat → Int32) (F : Nat → Nat → Int32) (rc sz : Nat) (p0 : Int32) (p1 : Int32) (p2 : Int32) (p3 : Int32) (hg : injX g) (hI : IX v F) : Met l yX11_kind (Cond.code yX11_kind cX11_kind 5 (some .int) :: wA) ({ frames := 3, cells := 0, slots := 0, locals := 120 }) (va_Pc [.ref (g 0), .int p0, .int p1, .int p2, .int p3] (PX dC dI g c adK adV v F rc sz)) (va_Qi (fun (r : Int32) (u : StX) => IX u.1 u.2.1 ∧ ((¬ ((0 ≤ p0.toInt ∧ p0.toInt ≤ 99999) ∧ (0 ≤ p1.toInt ∧ p1.toInt ≤ 99999) ∧ (0 ≤ p2.toInt ∧ p2.toInt ≤ 99999) ∧ (0 ≤ p3.toInt ∧ p3.toInt ≤ 999999)) ∧ r.toInt = -1 ∧ alX u.1 u.2.1 = alX v F) ∨ (((0 ≤ p0.toInt ∧ p0.toInt ≤ 99999) ∧ (0 ≤ p1.toInt ∧ p1.toInt ≤ 99999) ∧ (0 ≤ p2.toInt ∧ p2.toInt ≤ 99999) ∧ (0 ≤ p3.toInt ∧ p3.toInt ≤ 999999)) ∧ ((10 ≤ (v 20).toInt ∧ r.toInt = -3 ∧ alX u.1 u.2.1 = alX v F) ∨ ((v 20).toInt < 10 ∧ r = v 20 ∧ alX u.1 u.2.1 = alXS0 (alX v F) (v 20 + 1))))) ∧ u.2.2 = rc ∧ (∀ k, k ∉ ([20] : List Nat) → u.1 k = v k) ∧ True) (BX dC dI g c) (AX g sz)) 0 0 (AX g sz) := by
  refine Met.ofW (cc := cX11_kind) (maxL := 5) (ret := (some .int)) (by decide) rfl ?_
  intro p e s m args below meth c0 s₁ B hml hv
  obtain ⟨rfl, hsz, hP, hK, hE⟩ := hv
  have hx := B.exec
  have hb := B.bytes
  have hr := B.returns
  have hts := atoms_spec (ws := Cond.code yX11_kind cX11_kind 5 (some .int) :: wA) B.pre
  have hwd : ∀ w ∈ wA, w.before _ s = true := fun w h => hts w (List.mem_cons_of_mem _ h)
  have hown : s.vm.findClass RX11 = some m.cls := findClass_of_methodNamed B.named
  have hlocks := B.notSynchronized
  subst hsz
  have hl := lv_entry ([.ref (g 0), .int p0, .int p1, .int p2, .int p3]) (n := 5) (Nat.le_of_ble_eq_true rfl)
  rw [lg_entry_eq]
  generalize (lg_sl ([.ref (g 0), .int p0, .int p1, .int p2, .int p3]) ++ List.replicate (5 - (lg_sl ([.ref (g 0), .int p0, .int p1, .int p2, .int p3])).length) Slot.unset).toArray = ls at hl ⊢
  have hl : lv_has ls 5 [(0, .ref (g 0)), (1, .int p0), (2, .int p1), (3, .int p2), (4, .int p3)] := hl
  obtain ⟨H, eH⟩ : ∃ z, z = s.heap := ⟨_, rfl⟩
  have hP : va_P (dC, dI) classes (wX g c v F rc) H := by rw [eH]; exact hP
  have hS : va_S (AX g s.heap.size) s.heap H [] := by rw [eH]; exact va_S.rf
  refine my_heap eH ?_
  have hal : alX v F = alX v F := rfl
  have rp0 := i32_rng p0
  have rp1 := i32_rng p1
  have rp2 := i32_rng p2
  have rp3 := i32_rng p3
  refine lv_iload_n hx hb dX11_kind_0 rfl (lv_at hl 1 rfl) ?_
  refine va_calli (va_runS (As := [.int p0]) (rest := []) ⟨hx, hb, hml, hown, hwd⟩ (c_X11_isTold l dC dI g c adK adV v F rc H.size p0 hg hI ) (va_cwS 1 hwd (gT wk_235 wk_233 wk_234 wk_2) rfl rfl rfl (by decide +kernel) ⟨Nat.le_of_ble_eq_true rfl, Nat.le_of_ble_eq_true rfl⟩) ⟨PX.blind, fun U hU hW => ⟨rfl, PX.at hK hE hP hS hU hW⟩⟩ rfl rfl hl.1 rfl (lv_room (Nat.le_of_ble_eq_true rfl)) dX11_kind_1 ⟨Nat.le_of_ble_eq_true rfl, Nat.le_of_ble_eq_true rfl⟩) hS (fun q _ h => (freeX hS) q h) (freeX hS) (fun r3222 u t H1 locs ht hvm hw hB hz1 hk1 hS => ?_)
  unfold BX at hB
  rw [ht] at hB
  have hP : va_P (dC, dI) classes (wX g c v F rc) H1 := hB
  have hw : (r3222.toInt = 1 ∧ 0 ≤ p0.toInt ∧ p0.toInt ≤ 99999) ∨ (r3222.toInt = 0 ∧ (p0.toInt < 0 ∨ 99999 < p0.toInt)) := hw
  generalize H1 = H at hP hS ⊢
  have hw_r3222 := hw
  refine lv_if_eq (tgt := 32) hx hb dX11_kind_4 (by decide) (fun c3223 => ?_) (fun c3223 => ?_)
  · skip
    have t3224 := cv_eq (a := r3222.toInt) rfl (b := 0) (by decide) c3223
    refine lv_iconst (v := (-1)) hx hb dX11_kind_32 (by decide) ?_
    have hP9 : va_P (dC, dI) classes (wX g c v F rc) H := hP
    exact W.iret (v := (-1)) hx hb hr (fun t ht hW => ⟨⟨(-1), (v, F, rc), rfl, ⟨hI, (Or.inl ⟨by omega, by decide, hal⟩), rfl, (fun _ _ => rfl), trivial⟩, (by show va_P _ _ _ t.heap; rw [ht]; exact hP9)⟩, hS.F ht⟩) hS.2.2 dX11_kind_33
  · skip
    have t3225 := cv_ne (a := r3222.toInt) rfl (b := 0) (by decide) c3223
    refine lv_iload_n hx hb dX11_kind_7 rfl (lv_at hl 2 rfl) ?_
    refine va_calli (va_runS (As := [.int p1]) (rest := []) ⟨hx, hb, hml, hown, hwd⟩ (c_X11_isTold l dC dI g c adK adV v F rc H.size p1 hg hI ) (va_cwS 1 hwd (gT wk_235 wk_233 wk_234 wk_2) rfl rfl rfl (by decide +kernel) ⟨Nat.le_of_ble_eq_true rfl, Nat.le_of_ble_eq_true rfl⟩) ⟨PX.blind, fun U hU hW => ⟨rfl, PX.at hK hE hP hS hU hW⟩⟩ rfl rfl hl.1 rfl (lv_room (Nat.le_of_ble_eq_true rfl)) dX11_kind_8 ⟨Nat.le_of_ble_eq_true rfl, Nat.le_of_ble_eq_true rfl⟩) hS (fun q _ h => (freeX hS) q h) (freeX hS) (fun r3226 u t H1 locs ht hvm hw hB hz1 hk1 hS => ?_)
    unfold BX at hB
    rw [ht] at hB
    have hP : va_P (dC, dI) classes (wX g c v F rc) H1 := hB
    have hw : (r3226.toInt = 1 ∧ 0 ≤ p1.toInt ∧ p1.toInt ≤ 99999) ∨ (r3226.toInt = 0 ∧ (p1.toInt < 0 ∨ 99999 < p1.toInt)) := hw
    generalize H1 = H at hP hS ⊢
    have hw_r3226 := hw
    refine lv_if_eq (tgt := 32) hx hb dX11_kind_11 (by decide) (fun c3227 => ?_) (fun c3227 => ?_)
    · skip
      have t3228 := cv_eq (a := r3226.toInt) rfl (b := 0) (by decide) c3227
      refine lv_iconst (v := (-1)) hx hb dX11_kind_32 (by decide) ?_
      have hP9 : va_P (dC, dI) classes (wX g c v F rc) H := hP
      exact W.iret (v := (-1)) hx hb hr (fun t ht hW => ⟨⟨(-1), (v, F, rc), rfl, ⟨hI, (Or.inl ⟨by omega, by decide, hal⟩), rfl, (fun _ _ => rfl), trivial⟩, (by show va_P _ _ _ t.heap; rw [ht]; exact hP9)⟩, hS.F ht⟩) hS.2.2 dX11_kind_33
    · skip
      have t3229 := cv_ne (a := r3226.toInt) rfl (b := 0) (by decide) c3227
      refine lv_iload_n hx hb dX11_kind_14 rfl (lv_at hl 3 rfl) ?_
      refine va_calli (va_runS (As := [.int p2]) (rest := []) ⟨hx, hb, hml, hown, hwd⟩ (c_X11_isTold l dC dI g c adK adV v F rc H.size p2 hg hI ) (va_cwS 1 hwd (gT wk_235 wk_233 wk_234 wk_2) rfl rfl rfl (by decide +kernel) ⟨Nat.le_of_ble_eq_true rfl, Nat.le_of_ble_eq_true rfl⟩) ⟨PX.blind, fun U hU hW => ⟨rfl, PX.at hK hE hP hS hU hW⟩⟩ rfl rfl hl.1 rfl (lv_room (Nat.le_of_ble_eq_true rfl)) dX11_kind_15 ⟨Nat.le_of_ble_eq_true rfl, Nat.le_of_ble_eq_true rfl⟩) hS (fun q _ h => (freeX hS) q h) (freeX hS) (fun r3230 u t H1 locs ht hvm hw hB hz1 hk1 hS => ?_)
      unfold BX at hB
      rw [ht] at hB
      have hP : va_P (dC, dI) classes (wX g c v F rc) H1 := hB
      have hw : (r3230.toInt = 1 ∧ 0 ≤ p2.toInt ∧ p2.toInt ≤ 99999) ∨ (r3230.toInt = 0 ∧ (p2.toInt < 0 ∨ 99999 < p2.toInt)) := hw
      generalize H1 = H at hP hS ⊢
      have hw_r3230 := hw
      refine lv_if_eq (tgt := 32) hx hb dX11_kind_18 (by decide) (fun c3231 => ?_) (fun c3231 => ?_)
      · skip
        have t3232 := cv_eq (a := r3230.toInt) rfl (b := 0) (by decide) c3231
        refine lv_iconst (v := (-1)) hx hb dX11_kind_32 (by decide) ?_
        have hP9 : va_P (dC, dI) classes (wX g c v F rc) H := hP
        exact W.iret (v := (-1)) hx hb hr (fun t ht hW => ⟨⟨(-1), (v, F, rc), rfl, ⟨hI, (Or.inl ⟨by omega, by decide, hal⟩), rfl, (fun _ _ => rfl), trivial⟩, (by show va_P _ _ _ t.heap; rw [ht]; exact hP9)⟩, hS.F ht⟩) hS.2.2 dX11_kind_33
      · skip
        have t3233 := cv_ne (a := r3230.toInt) rfl (b := 0) (by decide) c3231
        refine lv_iload hx hb dX11_kind_21 (lv_at hl 4 rfl) ?_
        refine lv_iconst (v := 0) hx hb dX11_kind_23 (by decide) ?_
        refine lv_ldc (v := 999999) hx hb hown (hwd _ wk_232) dX11_kind_24 ?_
        refine va_calli (va_runS (As := [.int p3, .int 0, .int 999999]) (rest := []) ⟨hx, hb, hml, hown, hwd⟩ (c_X11_within l dC dI g c adK adV v F rc H.size p3 0 999999 hg hI ) (va_cwS 3 hwd (gT wk_239 wk_237 wk_238 wk_2) rfl rfl rfl (by decide +kernel) ⟨Nat.le_of_ble_eq_true rfl, Nat.le_of_ble_eq_true rfl⟩) ⟨PX.blind, fun U hU hW => ⟨rfl, PX.at hK hE hP hS hU hW⟩⟩ rfl rfl hl.1 rfl (lv_room (Nat.le_of_ble_eq_true rfl)) dX11_kind_26 ⟨Nat.le_of_ble_eq_true rfl, Nat.le_of_ble_eq_true rfl⟩) hS (fun q _ h => (freeX hS) q h) (freeX hS) (fun r3234 u t H1 locs ht hvm hw hB hz1 hk1 hS => ?_)
        unfold BX at hB
        rw [ht] at hB
        have hP : va_P (dC, dI) classes (wX g c v F rc) H1 := hB
        have hw : (r3234.toInt = 1 ∧ (0 : Int32).toInt ≤ p3.toInt ∧ p3.toInt ≤ (999999 : Int32).toInt) ∨ (r3234.toInt = 0 ∧ (p3.toInt < (0 : Int32).toInt ∨ (999999 : Int32).toInt < p3.toInt)) := hw
        have k3235 : (0 : Int32).toInt = 0 := by decide
        have k3236 : (999999 : Int32).toInt = 999999 := by decide
        generalize H1 = H at hP hS ⊢
        have hw_r3234 := hw
        refine lv_if_ne (tgt := 34) hx hb dX11_kind_29 (by decide) (fun c3237 => ?_) (fun c3237 => ?_)
        · skip
          have t3238 := cv_ne (a := r3234.toInt) rfl (b := 0) (by decide) c3237
          refine lv_aload_n hx hb dX11_kind_34 rfl (lv_at hl 0 rfl) ?_
          refine va_get (D := (dC, dI)) (ci := 11) (v := .ref (g 1)) (C := RX11) (T := TX11) (N := 14) hx hb hwd inA_X11 hown hK hP 0 rfl rfl 0 (by decide) (hwd _ wk_15) (fun _ h9 => h9) rfl dX11_kind_35 ?_
          refine lv_iload_n hx hb dX11_kind_38 rfl (lv_at hl 1 rfl) ?_
          refine lv_iload_n hx hb dX11_kind_39 rfl (lv_at hl 2 rfl) ?_
          refine lv_iload_n hx hb dX11_kind_40 rfl (lv_at hl 3 rfl) ?_
          refine lv_iload hx hb dX11_kind_41 (lv_at hl 4 rfl) ?_
          refine va_calli (va_runV (As := [.int p0, .int p1, .int p2, .int p3]) (rest := []) ⟨hx, hb, hml, hown, hwd⟩ (c_X2_add l dC dI g c adK adV v F rc H.size p0 p1 p2 p3 hg hI ) (cwV 4 hwd (gV wk_243 wk_240 wk_241 wk_242 wk_14) rfl rfl rfl (by decide +kernel) ⟨Nat.le_of_ble_eq_true rfl, Nat.le_of_ble_eq_true rfl⟩) ⟨PX.blind, va_recv hK hP (ci := 2) (q0 := 1) rfl rfl, fun U hU hW => ⟨rfl, PX.at hK hE hP hS hU hW⟩⟩ rfl rfl hl.1 rfl (lv_room (Nat.le_of_ble_eq_true rfl)) dX11_kind_43 ⟨Nat.le_of_ble_eq_true rfl, Nat.le_of_ble_eq_true rfl⟩) hS (fun q _ h => (freeX hS) q h) (freeX hS) (fun r3239 u t H1 locs ht hvm hw hB hz1 hk1 hS => ?_)
          unfold BX at hB
          rw [ht] at hB
          obtain ⟨v3240, F3241, rc9⟩ := u
          obtain ⟨hI, hal9, hrc, hf3242, hw⟩ := hw
          dsimp only at hI hal9 hrc hB hf3242 hw
          rw [hrc] at hB
          have hq3243 := hal9
          have hP : va_P (dC, dI) classes (wX g c v3240 F3241 rc) H1 := hB
          generalize H1 = H at hP hS ⊢
          have rr_r3239 := i32_rng r3239
          have hP9 : va_P (dC, dI) classes (wX g c v3240 F3241 rc) H := hP
          exact W.iret (v := r3239) hx hb hr (fun t ht hW => ⟨⟨r3239, (v3240, F3241, rc), rfl, ⟨hI, (Or.inr ⟨by omega, hq3243⟩), rfl, (frC (by decide) hf3242 (fun _ _ => rfl)), trivial⟩, (by show va_P _ _ _ t.heap; rw [ht]; exact hP9)⟩, hS.F ht⟩) hS.2.2 dX11_kind_46
        · skip
          have t3244 := cv_eq (a := r3234.toInt) rfl (b := 0) (by decide) c3237
          refine lv_iconst (v := (-1)) hx hb dX11_kind_32 (by decide) ?_
          have hP9 : va_P (dC, dI) classes (wX g c v F rc) H := hP
          exact W.iret (v := (-1)) hx hb hr (fun t ht hW => ⟨⟨(-1), (v, F, rc), rfl, ⟨hI, (Or.inl ⟨by omega, by decide, hal⟩), rfl, (fun _ _ => rfl), trivial⟩, (by show va_P _ _ _ t.heap; rw [ht]; exact hP9)⟩, hS.F ht⟩) hS.2.2 dX11_kind_33
set_option maxHeartbeats 8000000 in
set_option maxRecDepth 100000 in
theorem c_X11_plane (l : Launch) (dC : Nat → ClassId) (dI : Nat → Nat → Nat) (g : Nat → Nat) (c : Nat → ClassId) (adK adV : Nat → Nat) (v : Nat → Int32) (F : Nat → Nat → Int32) (rc sz : Nat) (p0 : Int32) (hg : injX g) (hI : IX v F) : Met l yX11_plane (Cond.code yX11_plane cX11_plane 2 (some .int) :: wA) ({ frames := 2, cells := 0, slots := 0, locals := 80 }) (va_Pc [.ref (g 0), .int p0] (PX dC dI g c adK adV v F rc sz)) (va_Qi (fun (r : Int32) (u : StX) => IX u.1 u.2.1 ∧ ((¬ (0 ≤ p0.toInt ∧ p0.toInt ≤ 999999) ∧ r.toInt = -1 ∧ alX u.1 u.2.1 = alX v F) ∨ ((0 ≤ p0.toInt ∧ p0.toInt ≤ 999999) ∧ ((10 ≤ (v 40).toInt ∧ r.toInt = -3 ∧ alX u.1 u.2.1 = alX v F) ∨ ((v 40).toInt < 10 ∧ r = v 40 ∧ alX u.1 u.2.1 = alXS1 (alX v F) (v 40 + 1))))) ∧ u.2.2 = rc ∧ (∀ k, k ∉ ([40] : List Nat) → u.1 k = v k) ∧ True) (BX dC dI g c) (AX g sz)) 0 0 (AX g sz) := by
  refine Met.ofW (cc := cX11_plane) (maxL := 2) (ret := (some .int)) (by decide) rfl ?_
  intro p e s m args below meth c0 s₁ B hml hv
  obtain ⟨rfl, hsz, hP, hK, hE⟩ := hv
  have hx := B.exec
  have hb := B.bytes
  have hr := B.returns
  have hts := atoms_spec (ws := Cond.code yX11_plane cX11_plane 2 (some .int) :: wA) B.pre
  have hwd : ∀ w ∈ wA, w.before _ s = true := fun w h => hts w (List.mem_cons_of_mem _ h)
  have hown : s.vm.findClass RX11 = some m.cls := findClass_of_methodNamed B.named
  have hlocks := B.notSynchronized
  subst hsz
  have hl := lv_entry ([.ref (g 0), .int p0]) (n := 2) (Nat.le_of_ble_eq_true rfl)
  rw [lg_entry_eq]
  generalize (lg_sl ([.ref (g 0), .int p0]) ++ List.replicate (2 - (lg_sl ([.ref (g 0), .int p0])).length) Slot.unset).toArray = ls at hl ⊢
  have hl : lv_has ls 2 [(0, .ref (g 0)), (1, .int p0)] := hl
  obtain ⟨H, eH⟩ : ∃ z, z = s.heap := ⟨_, rfl⟩
  have hP : va_P (dC, dI) classes (wX g c v F rc) H := by rw [eH]; exact hP
  have hS : va_S (AX g s.heap.size) s.heap H [] := by rw [eH]; exact va_S.rf
  refine my_heap eH ?_
  have hal : alX v F = alX v F := rfl
  have rp0 := i32_rng p0
  refine lv_iload_n hx hb dX11_plane_0 rfl (lv_at hl 1 rfl) ?_
  refine lv_iconst (v := 0) hx hb dX11_plane_1 (by decide) ?_
  refine lv_ldc (v := 999999) hx hb hown (hwd _ wk_232) dX11_plane_2 ?_
  refine va_calli (va_runS (As := [.int p0, .int 0, .int 999999]) (rest := []) ⟨hx, hb, hml, hown, hwd⟩ (c_X11_within l dC dI g c adK adV v F rc H.size p0 0 999999 hg hI ) (va_cwS 3 hwd (gT wk_239 wk_237 wk_238 wk_2) rfl rfl rfl (by decide +kernel) ⟨Nat.le_of_ble_eq_true rfl, Nat.le_of_ble_eq_true rfl⟩) ⟨PX.blind, fun U hU hW => ⟨rfl, PX.at hK hE hP hS hU hW⟩⟩ rfl rfl hl.1 rfl (lv_room (Nat.le_of_ble_eq_true rfl)) dX11_plane_4 ⟨Nat.le_of_ble_eq_true rfl, Nat.le_of_ble_eq_true rfl⟩) hS (fun q _ h => (freeX hS) q h) (freeX hS) (fun r3245 u t H1 locs ht hvm hw hB hz1 hk1 hS => ?_)
  unfold BX at hB
  rw [ht] at hB
  have hP : va_P (dC, dI) classes (wX g c v F rc) H1 := hB
  have hw : (r3245.toInt = 1 ∧ (0 : Int32).toInt ≤ p0.toInt ∧ p0.toInt ≤ (999999 : Int32).toInt) ∨ (r3245.toInt = 0 ∧ (p0.toInt < (0 : Int32).toInt ∨ (999999 : Int32).toInt < p0.toInt)) := hw
  have k3246 : (0 : Int32).toInt = 0 := by decide
  have k3247 : (999999 : Int32).toInt = 999999 := by decide
  generalize H1 = H at hP hS ⊢
  have hw_r3245 := hw
  refine lv_if_ne (tgt := 12) hx hb dX11_plane_7 (by decide) (fun c3248 => ?_) (fun c3248 => ?_)
  · skip
    have t3249 := cv_ne (a := r3245.toInt) rfl (b := 0) (by decide) c3248
    refine lv_aload_n hx hb dX11_plane_12 rfl (lv_at hl 0 rfl) ?_
    refine va_get (D := (dC, dI)) (ci := 11) (v := .ref (g 2)) (C := RX11) (T := TX11) (N := 14) hx hb hwd inA_X11 hown hK hP 0 rfl rfl 1 (by decide) (hwd _ wk_19) (fun _ h9 => h9) rfl dX11_plane_13 ?_
    refine lv_iload_n hx hb dX11_plane_16 rfl (lv_at hl 1 rfl) ?_
    refine va_calli (va_runV (As := [.int p0]) (rest := []) ⟨hx, hb, hml, hown, hwd⟩ (c_X8_add l dC dI g c adK adV v F rc H.size p0 hg hI ) (cwV 1 hwd (gV wk_262 wk_259 wk_260 wk_261 wk_18) rfl rfl rfl (by decide +kernel) ⟨Nat.le_of_ble_eq_true rfl, Nat.le_of_ble_eq_true rfl⟩) ⟨PX.blind, va_recv hK hP (ci := 8) (q0 := 2) rfl rfl, fun U hU hW => ⟨rfl, PX.at hK hE hP hS hU hW⟩⟩ rfl rfl hl.1 rfl (lv_room (Nat.le_of_ble_eq_true rfl)) dX11_plane_17 ⟨Nat.le_of_ble_eq_true rfl, Nat.le_of_ble_eq_true rfl⟩) hS (fun q _ h => (freeX hS) q h) (freeX hS) (fun r3250 u t H1 locs ht hvm hw hB hz1 hk1 hS => ?_)
    unfold BX at hB
    rw [ht] at hB
    obtain ⟨v3251, F3252, rc9⟩ := u
    obtain ⟨hI, hal9, hrc, hf3253, hw⟩ := hw
    dsimp only at hI hal9 hrc hB hf3253 hw
    rw [hrc] at hB
    have hq3254 := hal9
    have hP : va_P (dC, dI) classes (wX g c v3251 F3252 rc) H1 := hB
    generalize H1 = H at hP hS ⊢
    have rr_r3250 := i32_rng r3250
    have hP9 : va_P (dC, dI) classes (wX g c v3251 F3252 rc) H := hP
    exact W.iret (v := r3250) hx hb hr (fun t ht hW => ⟨⟨r3250, (v3251, F3252, rc), rfl, ⟨hI, (Or.inr ⟨by omega, hq3254⟩), rfl, (frC (by decide) hf3253 (fun _ _ => rfl)), trivial⟩, (by show va_P _ _ _ t.heap; rw [ht]; exact hP9)⟩, hS.F ht⟩) hS.2.2 dX11_plane_20
  · skip
    have t3255 := cv_eq (a := r3245.toInt) rfl (b := 0) (by decide) c3248
    refine lv_iconst (v := (-1)) hx hb dX11_plane_10 (by decide) ?_
    have hP9 : va_P (dC, dI) classes (wX g c v F rc) H := hP
    exact W.iret (v := (-1)) hx hb hr (fun t ht hW => ⟨⟨(-1), (v, F, rc), rfl, ⟨hI, (Or.inl ⟨by omega, by decide, hal⟩), rfl, (fun _ _ => rfl), trivial⟩, (by show va_P _ _ _ t.heap; rw [ht]; exact hP9)⟩, hS.F ht⟩) hS.2.2 dX11_plane_11
set_option maxHeartbeats 8000000 in
set_option maxRecDepth 100000 in
theorem c_X11_days (l : Launch) (dC : Nat → ClassId) (dI : Nat → Nat → Nat) (g : Nat → Nat) (c : Nat → ClassId) (adK adV : Nat → Nat) (v : Nat → Int32) (F : Nat → Nat → Int32) (rc sz : Nat) (p0 : Int32) (hg : injX g) (hI : IX v F) : Met l yX11_days (Cond.code yX11_days cX11_days 2 (some .int) :: wA) ({ frames := 2, cells := 0, slots := 0, locals := 80 }) (va_Pc [.ref (g 0), .int p0] (PX dC dI g c adK adV v F rc sz)) (va_Qi (fun (r : Int32) (u : StX) => IX u.1 u.2.1 ∧ ((¬ (1 ≤ p0.toInt ∧ p0.toInt ≤ 400 ∧ (v 11).toInt + p0.toInt ≤ 9999) ∧ r.toInt = -1 ∧ alX u.1 u.2.1 = alX v F) ∨ ((1 ≤ p0.toInt ∧ p0.toInt ≤ 400 ∧ (v 11).toInt + p0.toInt ≤ 9999) ∧ r = v 11 + p0 ∧ alX u.1 u.2.1 = alXS2 (alX v F) (v 11 + p0))) ∧ u.2.2 = rc ∧ (∀ k, k ∉ ([11] : List Nat) → u.1 k = v k) ∧ True) (BX dC dI g c) (AX g sz)) 0 0 (AX g sz) := by
  refine Met.ofW (cc := cX11_days) (maxL := 2) (ret := (some .int)) (by decide) rfl ?_
  intro p e s m args below meth c0 s₁ B hml hv
  obtain ⟨rfl, hsz, hP, hK, hE⟩ := hv
  have hx := B.exec
  have hb := B.bytes
  have hr := B.returns
  have hts := atoms_spec (ws := Cond.code yX11_days cX11_days 2 (some .int) :: wA) B.pre
  have hwd : ∀ w ∈ wA, w.before _ s = true := fun w h => hts w (List.mem_cons_of_mem _ h)
  have hown : s.vm.findClass RX11 = some m.cls := findClass_of_methodNamed B.named
  have hlocks := B.notSynchronized
  subst hsz
  have hl := lv_entry ([.ref (g 0), .int p0]) (n := 2) (Nat.le_of_ble_eq_true rfl)
  rw [lg_entry_eq]
  generalize (lg_sl ([.ref (g 0), .int p0]) ++ List.replicate (2 - (lg_sl ([.ref (g 0), .int p0])).length) Slot.unset).toArray = ls at hl ⊢
  have hl : lv_has ls 2 [(0, .ref (g 0)), (1, .int p0)] := hl
  obtain ⟨H, eH⟩ : ∃ z, z = s.heap := ⟨_, rfl⟩
  have hP : va_P (dC, dI) classes (wX g c v F rc) H := by rw [eH]; exact hP
  have hS : va_S (AX g s.heap.size) s.heap H [] := by rw [eH]; exact va_S.rf
  refine my_heap eH ?_
  have hal : alX v F = alX v F := rfl
  have rp0 := i32_rng p0
  refine lv_iload_n hx hb dX11_days_0 rfl (lv_at hl 1 rfl) ?_
  refine lv_iconst (v := 1) hx hb dX11_days_1 (by decide) ?_
  refine lv_sipush (v := 400) hx hb dX11_days_2 (by decide) ?_
  refine va_calli (va_runS (As := [.int p0, .int 1, .int 400]) (rest := []) ⟨hx, hb, hml, hown, hwd⟩ (c_X11_within l dC dI g c adK adV v F rc H.size p0 1 400 hg hI ) (va_cwS 3 hwd (gT wk_239 wk_237 wk_238 wk_2) rfl rfl rfl (by decide +kernel) ⟨Nat.le_of_ble_eq_true rfl, Nat.le_of_ble_eq_true rfl⟩) ⟨PX.blind, fun U hU hW => ⟨rfl, PX.at hK hE hP hS hU hW⟩⟩ rfl rfl hl.1 rfl (lv_room (Nat.le_of_ble_eq_true rfl)) dX11_days_5 ⟨Nat.le_of_ble_eq_true rfl, Nat.le_of_ble_eq_true rfl⟩) hS (fun q _ h => (freeX hS) q h) (freeX hS) (fun r3256 u t H1 locs ht hvm hw hB hz1 hk1 hS => ?_)
  unfold BX at hB
  rw [ht] at hB
  have hP : va_P (dC, dI) classes (wX g c v F rc) H1 := hB
  have hw : (r3256.toInt = 1 ∧ (1 : Int32).toInt ≤ p0.toInt ∧ p0.toInt ≤ (400 : Int32).toInt) ∨ (r3256.toInt = 0 ∧ (p0.toInt < (1 : Int32).toInt ∨ (400 : Int32).toInt < p0.toInt)) := hw
  have k3257 : (1 : Int32).toInt = 1 := by decide
  have k3258 : (400 : Int32).toInt = 400 := by decide
  generalize H1 = H at hP hS ⊢
  have hw_r3256 := hw
  refine lv_if_eq (tgt := 23) hx hb dX11_days_8 (by decide) (fun c3259 => ?_) (fun c3259 => ?_)
  · skip
    have t3260 := cv_eq (a := r3256.toInt) rfl (b := 0) (by decide) c3259
    refine lv_iconst (v := (-1)) hx hb dX11_days_23 (by decide) ?_
    have hP9 : va_P (dC, dI) classes (wX g c v F rc) H := hP
    exact W.iret (v := (-1)) hx hb hr (fun t ht hW => ⟨⟨(-1), (v, F, rc), rfl, ⟨hI, (Or.inl ⟨by omega, by decide, hal⟩), rfl, (fun _ _ => rfl), trivial⟩, (by show va_P _ _ _ t.heap; rw [ht]; exact hP9)⟩, hS.F ht⟩) hS.2.2 dX11_days_24
  · skip
    have t3261 := cv_ne (a := r3256.toInt) rfl (b := 0) (by decide) c3259
    refine lv_aload_n hx hb dX11_days_11 rfl (lv_at hl 0 rfl) ?_
    refine va_get (D := (dC, dI)) (ci := 11) (v := .int (v 11)) (C := RX11) (T := TX11) (N := 14) hx hb hwd inA_X11 hown hK hP 0 rfl rfl 11 (by decide) (hwd _ wk_323) (fun _ h9 => h9) rfl dX11_days_12 ?_
    have t3262 : 0 ≤ (v 11).toInt ∧ (v 11).toInt ≤ 9999 := hI.1 11 _ _ rfl
    refine lv_iload_n hx hb dX11_days_15 rfl (lv_at hl 1 rfl) ?_
    refine lv_iadd hx hb dX11_days_16 ?_
    refine lv_topi (fun z3263 e3264 => ?_)
    try (have t3265 := tadd e3264 (a := (v 11).toInt) rfl (b := p0.toInt) rfl (by omega))
    refine lv_sipush (v := 9999) hx hb dX11_days_17 (by decide) ?_
    refine lv_icmp_le (tgt := 25) hx hb dX11_days_20 (by decide) (fun c3266 => ?_) (fun c3266 => ?_)
    · skip
      have t3267 := cv_le (a := z3263.toInt) rfl (b := 9999) (by decide) c3266
      refine lv_aload_n hx hb dX11_days_25 rfl (lv_at hl 0 rfl) ?_
      refine lv_dup hx hb dX11_days_26 rfl ?_
      refine va_get (D := (dC, dI)) (ci := 11) (v := .int (v 11)) (C := RX11) (T := TX11) (N := 14) hx hb hwd inA_X11 hown hK hP 0 rfl rfl 11 (by decide) (hwd _ wk_323) (fun _ h9 => h9) rfl dX11_days_27 ?_
      have t3268 : 0 ≤ (v 11).toInt ∧ (v 11).toInt ≤ 9999 := hI.1 11 _ _ rfl
      refine lv_iload_n hx hb dX11_days_30 rfl (lv_at hl 1 rfl) ?_
      refine lv_iadd hx hb dX11_days_31 ?_
      refine lv_topi (fun z3269 e3270 => ?_)
      try (have t3271 := tadd e3270 (a := (v 11).toInt) rfl (b := p0.toInt) rfl (by omega))
      refine va_put (D := (dC, dI)) (ci := 11) (v := .int z3269) (ty := .int) (C := RX11) (T := TX11) (N := 14) (fs := fsX_0 g v rc) hx hb hwd inA_X11 tyX11 tyX11_ok nmX11 hown hK hP (DX hg) hS 0 rfl rfl 11 (by decide) (hwd _ wk_323) (fun _ h9 => h9) rfl (by decide +kernel) rfl rfl (Nat.le_of_ble_eq_true rfl) dX11_days_32 (fun H locs hP _ hS => ?_)
      have hP := va_P_eq (pX_11 g c _ _ _ _) hP
      have hI := IX.put hI 11 z3269 rfl (by omega)
      have hal := (alX_s2 _ _ z3269).trans (congrArg (fun t => alXS2 t z3269) hal)
      refine lv_aload_n hx hb dX11_days_35 rfl (lv_at hl 0 rfl) ?_
      refine va_get (D := (dC, dI)) (ci := 11) (v := .ref (g 3)) (C := RX11) (T := TX11) (N := 14) hx hb hwd inA_X11 hown hK hP 0 rfl rfl 2 (by decide) (hwd _ wk_27) (fun _ h9 => h9) rfl dX11_days_36 ?_
      refine lv_iload_n hx hb dX11_days_39 rfl (lv_at hl 1 rfl) ?_
      refine va_callv (va_runV (As := [.int p0]) (rest := []) ⟨hx, hb, hml, hown, hwd⟩ (c_X7_age l dC dI g c adK adV (va_up v 11 z3269) F rc H.size p0 hg hI ) (cwV 1 hwd (gV wk_327 wk_324 wk_325 wk_326 wk_26) rfl rfl rfl (by decide +kernel) ⟨Nat.le_of_ble_eq_true rfl, Nat.le_of_ble_eq_true rfl⟩) ⟨PX.blind, va_recv hK hP (ci := 7) (q0 := 3) rfl rfl, fun U hU hW => ⟨rfl, PX.at hK hE hP hS hU hW⟩⟩ rfl rfl hl.1 rfl (lv_room (Nat.le_of_ble_eq_true rfl)) dX11_days_40 ⟨Nat.le_of_ble_eq_true rfl, Nat.le_of_ble_eq_true rfl⟩) hS (fun q _ h => (freeX hS) q h) (freeX hS) (fun u t H1 locs ht hvm hw hB hz1 hk1 hS => ?_)
      unfold BX at hB
      rw [ht] at hB
      obtain ⟨v3273, F3274, rc9⟩ := u
      obtain ⟨hI, hal9, hrc, hf3275, hw⟩ := hw
      dsimp only at hI hal9 hrc hB hf3275 hw
      rw [hrc] at hB
      have hal := hal9.trans hal
      have hP : va_P (dC, dI) classes (wX g c v3273 F3274 rc) H1 := hB
      generalize H1 = H at hP hS ⊢
      refine lv_aload_n hx hb dX11_days_43 rfl (lv_at hl 0 rfl) ?_
      refine va_get (D := (dC, dI)) (ci := 11) (v := .int (v3273 11)) (C := RX11) (T := TX11) (N := 14) hx hb hwd inA_X11 hown hK hP 0 rfl rfl 11 (by decide) (hwd _ wk_323) (fun _ h9 => h9) rfl dX11_days_44 ?_
      refine my_top (v := z3269) (hf3275 11 (by decide)) ?_
      have t3276 : 0 ≤ z3269.toInt ∧ z3269.toInt ≤ 9999 := by have h9 := hI.1 11 _ _ rfl; rw [show v3273 11 = z3269 from hf3275 11 (by decide)] at h9; exact h9
      have hP9 : va_P (dC, dI) classes (wX g c v3273 F3274 rc) H := hP
      exact W.iret (v := z3269) hx hb hr (fun t ht hW => ⟨⟨z3269, (v3273, F3274, rc), rfl, ⟨hI, (Or.inr ⟨by omega, e3270, hal.trans (by rw [e3270])⟩), rfl, (frC (by decide) hf3275 (frU (by decide) (fun _ _ => rfl))), trivial⟩, (by show va_P _ _ _ t.heap; rw [ht]; exact hP9)⟩, hS.F ht⟩) hS.2.2 dX11_days_47
    · skip
      have t3277 := cv_nle (a := z3263.toInt) rfl (b := 9999) (by decide) c3266
      refine lv_iconst (v := (-1)) hx hb dX11_days_23 (by decide) ?_
      have hP9 : va_P (dC, dI) classes (wX g c v F rc) H := hP
      exact W.iret (v := (-1)) hx hb hr (fun t ht hW => ⟨⟨(-1), (v, F, rc), rfl, ⟨hI, (Or.inl ⟨by omega, by decide, hal⟩), rfl, (fun _ _ => rfl), trivial⟩, (by show va_P _ _ _ t.heap; rw [ht]; exact hP9)⟩, hS.F ht⟩) hS.2.2 dX11_days_24
