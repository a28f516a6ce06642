set_option maxHeartbeats 8000000 in
set_option maxRecDepth 100000 in
theorem c_X3_read (l : Launch) (dC : Nat → ClassId) (dI : Nat → Nat → Nat) (g : Nat → Nat) (c : Nat → ClassId) (adK adV : Nat → Nat) (v : Nat → Int32) (F : Nat → Nat → Int32) (rc sz : Nat) (nr : Nat) (hg : injX g) (hnr : nr < 10) (hI : IX v F) : Met l yX3_read (Cond.code yX3_read cX3_read 2 (some .int) :: wA) ({ frames := 59, cells := 0, slots := 0, locals := 2360 }) (va_Pc [.ref (g 7), .ref (g (44 + nr))] (PX dC dI g c adK adV v F rc sz)) (va_Qi (fun (r : Int32) (u : StX) => IX u.1 u.2.1 ∧ alX u.1 u.2.1 = alX v F ∧ u.2.2 = g (44 + nr) ∧ (∀ k, k ∉ ([142, 143, 144] : List Nat) → u.1 k = v k) ∧ True) (BX dC dI g c) (AX g sz)) 0 0 (AX g sz) := by
  refine Met.ofW (cc := cX3_read) (maxL := 2) (ret := (some .int)) (by decide) rfl ?_
  intro p e s m args below meth c0 s₁ B hml hv
  obtain ⟨rfl, hsz, hP, hK, hE⟩ := hv
  have hx := B.exec
  have hb := B.bytes
  have hr := B.returns
  have hts := atoms_spec (ws := Cond.code yX3_read cX3_read 2 (some .int) :: wA) B.pre
  have hwd : ∀ w ∈ wA, w.before _ s = true := fun w h => hts w (List.mem_cons_of_mem _ h)
  have hown : s.vm.findClass RX3 = some m.cls := findClass_of_methodNamed B.named
  have hlocks := B.notSynchronized
  subst hsz
  have hl := lv_entry ([.ref (g 7), .ref (g (44 + nr))]) (n := 2) (Nat.le_of_ble_eq_true rfl)
  rw [lg_entry_eq]
  generalize (lg_sl ([.ref (g 7), .ref (g (44 + nr))]) ++ List.replicate (2 - (lg_sl ([.ref (g 7), .ref (g (44 + nr))])).length) Slot.unset).toArray = ls at hl ⊢
  have hl : lv_has ls 2 [(0, .ref (g 7)), (1, .ref (g (44 + nr)))] := hl
  obtain ⟨H, eH⟩ : ∃ z, z = s.heap := ⟨_, rfl⟩
  have hP : va_P (dC, dI) classes (wX g c v F rc) H := by rw [eH]; exact hP
  have hS : va_S (AX g s.heap.size) s.heap H [] := by rw [eH]; exact va_S.rf
  refine my_heap eH ?_
  have hal : alX v F = alX v F := rfl
  refine lv_aload_n hx hb dX3_read_0 rfl (lv_at hl 0 rfl) ?_
  refine lv_aload_n hx hb dX3_read_1 rfl (lv_at hl 1 rfl) ?_
  refine va_put (D := (dC, dI)) (ci := 3) (v := .ref (g (44 + nr))) (ty := .array .int) (C := RX3) (T := TX3) (N := 5) (fs := fsX_7 g v rc) hx hb hwd inA_X3 tyX3 tyX3_ok nmX3 hown hK hP (DX hg) hS 7 rfl rfl 1 (by decide) (hwd _ wk_119) (fun _ h9 => h9) rfl (by decide +kernel) rfl rfl (Nat.le_of_ble_eq_true rfl) dX3_read_2 (fun H locs hP _ hS => ?_)
  have hP := va_P_eq (pX_rc g c _ _ _ _) hP
  refine lv_aload_n hx hb dX3_read_5 rfl (lv_at hl 0 rfl) ?_
  refine lv_iconst (v := 0) hx hb dX3_read_6 (by decide) ?_
  refine va_put (D := (dC, dI)) (ci := 3) (v := .int 0) (ty := .int) (C := RX3) (T := TX3) (N := 5) (fs := fsX_7 g v (g (44 + nr))) hx hb hwd inA_X3 tyX3 tyX3_ok nmX3 hown hK hP (DX hg) hS 7 rfl rfl 2 (by decide) (hwd _ wk_852) (fun _ h9 => h9) rfl (by decide +kernel) rfl rfl (Nat.le_of_ble_eq_true rfl) dX3_read_7 (fun H locs hP _ hS => ?_)
  have hP := va_P_eq (pX_142 g c _ _ _ _) hP
  have hI := IX.put hI 142 0 rfl (by have : (0 : Int32).toInt = 0 := (by decide); omega)
  have hal := (alX_v _ _ 142 0 (by decide) (by decide) (by decide) (by decide)).trans hal
  refine lv_aload_n hx hb dX3_read_10 rfl (lv_at hl 0 rfl) ?_
  refine lv_iconst (v := 0) hx hb dX3_read_11 (by decide) ?_
  refine va_put (D := (dC, dI)) (ci := 3) (v := .int 0) (ty := .int) (C := RX3) (T := TX3) (N := 5) (fs := fsX_7 g (va_up v 142 0) (g (44 + nr))) hx hb hwd inA_X3 tyX3 tyX3_ok nmX3 hown hK hP (DX hg) hS 7 rfl rfl 3 (by decide) (hwd _ wk_853) (fun _ h9 => h9) rfl (by decide +kernel) rfl rfl (Nat.le_of_ble_eq_true rfl) dX3_read_12 (fun H locs hP _ hS => ?_)
  have hP := va_P_eq (pX_143 g c _ _ _ _) hP
  have hI := IX.put0 hI 143 0 rfl
  have hal := (alX_v _ _ 143 0 (by decide) (by decide) (by decide) (by decide)).trans hal
  refine lv_aload_n hx hb dX3_read_15 rfl (lv_at hl 0 rfl) ?_
  refine lv_iconst (v := (-1)) hx hb dX3_read_16 (by decide) ?_
  refine va_put (D := (dC, dI)) (ci := 3) (v := .int (-1)) (ty := .int) (C := RX3) (T := TX3) (N := 5) (fs := fsX_7 g (va_up (va_up v 142 0) 143 0) (g (44 + nr))) hx hb hwd inA_X3 tyX3 tyX3_ok nmX3 hown hK hP (DX hg) hS 7 rfl rfl 4 (by decide) (hwd _ wk_854) (fun _ h9 => h9) rfl (by decide +kernel) rfl rfl (Nat.le_of_ble_eq_true rfl) dX3_read_17 (fun H locs hP _ hS => ?_)
  have hP := va_P_eq (pX_144 g c _ _ _ _) hP
  have hI := IX.put0 hI 144 (-1) rfl
  have hal := (alX_v _ _ 144 (-1) (by decide) (by decide) (by decide) (by decide)).trans hal
  refine lv_aload_n hx hb dX3_read_20 rfl (lv_at hl 0 rfl) ?_
  refine lv_iconst (v := 0) hx hb dX3_read_21 (by decide) ?_
  refine va_callv (va_runV (As := [.int 0]) (rest := []) ⟨hx, hb, hml, hown, hwd⟩ (c_X3_readChoice_0 l dC dI g c adK adV (va_up (va_up (va_up v 142 0) 143 0) 144 (-1)) F nr H.size 0 hg hnr hI (by have : (0 : Int32).toInt = 0 := (by decide); omega)) (cwV 1 hwd (gV wk_859 wk_856 wk_857 wk_858 wk_38) rfl rfl rfl (by decide +kernel) ⟨Nat.le_of_ble_eq_true rfl, Nat.le_of_ble_eq_true rfl⟩) ⟨PX.blind, va_recv hK hP (ci := 3) (q0 := 7) rfl rfl, fun U hU hW => ⟨rfl, PX.at hK hE hP hS hU hW⟩⟩ rfl rfl hl.1 rfl (lv_room (Nat.le_of_ble_eq_true rfl)) dX3_read_22 ⟨Nat.le_of_ble_eq_true rfl, Nat.le_of_ble_eq_true rfl⟩) hS (fun q _ h => (freeX hS) q h) (freeX hS) (fun u t H1 locs ht hvm hw hB hz1 hk1 hS => ?_)
  unfold BX at hB
  rw [ht] at hB
  obtain ⟨v4368, F4369, rc9⟩ := u
  obtain ⟨hI, hal9, hrc, hf4370, hw⟩ := hw
  dsimp only at hI hal9 hrc hB hf4370 hw
  rw [hrc] at hB
  have hal := hal9.trans hal
  have hP : va_P (dC, dI) classes (wX g c v4368 F4369 (g (44 + nr))) H1 := hB
  generalize H1 = H at hP hS ⊢
  refine lv_aload_n hx hb dX3_read_25 rfl (lv_at hl 0 rfl) ?_
  refine va_get (D := (dC, dI)) (ci := 3) (v := .int (v4368 143)) (C := RX3) (T := TX3) (N := 5) hx hb hwd inA_X3 hown hK hP 7 rfl rfl 3 (by decide) (hwd _ wk_853) (fun _ h9 => h9) rfl dX3_read_26 ?_
  refine lv_aload_n hx hb dX3_read_29 rfl (lv_at hl 0 rfl) ?_
  refine va_get (D := (dC, dI)) (ci := 3) (v := .ref (g 5)) (C := RX3) (T := TX3) (N := 5) hx hb hwd inA_X3 hown hK hP 7 rfl rfl 0 (by decide) (hwd _ wk_118) (fun _ h9 => h9) rfl dX3_read_30 ?_
  refine va_get (D := (dC, dI)) (ci := 10) (v := .int (v4368 100)) (C := RX10) (T := TX10) (N := 2) hx hb hwd inA_X10 hown hK hP 5 rfl rfl 0 (by decide) (hwd _ wk_855) (fun _ h9 => h9) rfl dX3_read_33 ?_
  refine my_top (v := v 100) (hf4370 100 (by decide)) ?_
  have t4371 : 0 ≤ (v 100).toInt ∧ (v 100).toInt ≤ 120 := by have h9 := hI.1 100 _ _ rfl; rw [show v4368 100 = v 100 from hf4370 100 (by decide)] at h9; exact h9
  refine lv_icmp_ge (tgt := 43) hx hb dX3_read_36 (by decide) (fun c4372 => ?_) (fun c4372 => ?_)
  · skip
    have t4373 := cv_le (a := (v 100).toInt) rfl (b := (v4368 143).toInt) rfl c4372
    refine lv_aload_n hx hb dX3_read_43 rfl (lv_at hl 0 rfl) ?_
    refine va_get (D := (dC, dI)) (ci := 3) (v := .int (v4368 144)) (C := RX3) (T := TX3) (N := 5) hx hb hwd inA_X3 hown hK hP 7 rfl rfl 4 (by decide) (hwd _ wk_854) (fun _ h9 => h9) rfl dX3_read_44 ?_
    have hP9 : va_P (dC, dI) classes (wX g c v4368 F4369 (g (44 + nr))) H := hP
    exact W.iret (v := v4368 144) hx hb hr (fun t ht hW => ⟨⟨(v4368 144), (v4368, F4369, (g (44 + nr))), rfl, ⟨hI, hal, rfl, (frC (by decide) hf4370 (frU (by decide) (frU (by decide) (frU (by decide) (fun _ _ => rfl))))), trivial⟩, (by show va_P _ _ _ t.heap; rw [ht]; exact hP9)⟩, hS.F ht⟩) hS.2.2 dX3_read_47
  · skip
    have t4374 := cv_nle (a := (v 100).toInt) rfl (b := (v4368 143).toInt) rfl c4372
    refine lv_aload_n hx hb dX3_read_39 rfl (lv_at hl 0 rfl) ?_
    refine va_callv (va_runV (As := []) (rest := []) ⟨hx, hb, hml, hown, hwd⟩ (c_X3_fail l dC dI g c adK adV v4368 F4369 nr H.size  hg hnr hI ) (cwV 0 hwd (gV wk_878 wk_875 wk_876 wk_877 wk_38) rfl rfl rfl (by decide +kernel) ⟨Nat.le_of_ble_eq_true rfl, Nat.le_of_ble_eq_true rfl⟩) ⟨PX.blind, va_recv hK hP (ci := 3) (q0 := 7) rfl rfl, fun U hU hW => ⟨rfl, PX.at hK hE hP hS hU hW⟩⟩ rfl rfl hl.1 rfl (lv_room (Nat.le_of_ble_eq_true rfl)) dX3_read_40 ⟨Nat.le_of_ble_eq_true rfl, Nat.le_of_ble_eq_true rfl⟩) hS (fun q _ h => (freeX hS) q h) (freeX hS) (fun u t H1 locs ht hvm hw hB hz1 hk1 hS => ?_)
    unfold BX at hB
    rw [ht] at hB
    obtain ⟨v4376, F4377, rc9⟩ := u
    obtain ⟨hI, hal9, hrc, hf4378, hw⟩ := hw
    dsimp only at hI hal9 hrc hB hf4378 hw
    rw [hrc] at hB
    have hal := hal9.trans hal
    have hP : va_P (dC, dI) classes (wX g c v4376 F4377 (g (44 + nr))) H1 := hB
    generalize H1 = H at hP hS ⊢
    refine lv_aload_n hx hb dX3_read_43 rfl (lv_at hl 0 rfl) ?_
    refine va_get (D := (dC, dI)) (ci := 3) (v := .int (v4376 144)) (C := RX3) (T := TX3) (N := 5) hx hb hwd inA_X3 hown hK hP 7 rfl rfl 4 (by decide) (hwd _ wk_854) (fun _ h9 => h9) rfl dX3_read_44 ?_
    have hP9 : va_P (dC, dI) classes (wX g c v4376 F4377 (g (44 + nr))) H := hP
    exact W.iret (v := v4376 144) hx hb hr (fun t ht hW => ⟨⟨(v4376 144), (v4376, F4377, (g (44 + nr))), rfl, ⟨hI, hal, rfl, (frC (by decide) hf4378 (frC (by decide) hf4370 (frU (by decide) (frU (by decide) (frU (by decide) (fun _ _ => rfl)))))), trivial⟩, (by show va_P _ _ _ t.heap; rw [ht]; exact hP9)⟩, hS.F ht⟩) hS.2.2 dX3_read_47
set_option maxHeartbeats 8000000 in
set_option maxRecDepth 100000 in
theorem c_X11_law (l : Launch) (dC : Nat → ClassId) (dI : Nat → Nat → Nat) (g : Nat → Nat) (c : Nat → ClassId) (adK adV : Nat → Nat) (v : Nat → Int32) (F : Nat → Nat → Int32) (rc sz : Nat) (p0 : Int32) (hg : injX g) (hI : IX v F) : Met l yX11_law (Cond.code yX11_law cX11_law 3 (some .int) :: wA) ({ frames := 60, cells := 0, slots := 0, locals := 2400 }) (va_Pc [.ref (g 0), .int p0] (PX dC dI g c adK adV v F rc sz)) (va_Qi (fun (r : Int32) (u : StX) => IX u.1 u.2.1 ∧ alX u.1 u.2.1 = alX v F ∧ True ∧ (∀ k, k ∉ ([100, 120, 142, 143, 144] : List Nat) → u.1 k = v k) ∧ True) (BX dC dI g c) (AX g sz)) 0 0 (AX g sz) := by
  refine Met.ofW (cc := cX11_law) (maxL := 3) (ret := (some .int)) (by decide) rfl ?_
  intro p e s m args below meth c0 s₁ B hml hv
  obtain ⟨rfl, hsz, hP, hK, hE⟩ := hv
  have hx := B.exec
  have hb := B.bytes
  have hr := B.returns
  have hts := atoms_spec (ws := Cond.code yX11_law cX11_law 3 (some .int) :: wA) B.pre
  have hwd : ∀ w ∈ wA, w.before _ s = true := fun w h => hts w (List.mem_cons_of_mem _ h)
  have hown : s.vm.findClass RX11 = some m.cls := findClass_of_methodNamed B.named
  have hlocks := B.notSynchronized
  subst hsz
  have hl := lv_entry ([.ref (g 0), .int p0]) (n := 3) (Nat.le_of_ble_eq_true rfl)
  rw [lg_entry_eq]
  generalize (lg_sl ([.ref (g 0), .int p0]) ++ List.replicate (3 - (lg_sl ([.ref (g 0), .int p0])).length) Slot.unset).toArray = ls at hl ⊢
  have hl : lv_has ls 3 [(0, .ref (g 0)), (1, .int p0)] := hl
  obtain ⟨H, eH⟩ : ∃ z, z = s.heap := ⟨_, rfl⟩
  have hP : va_P (dC, dI) classes (wX g c v F rc) H := by rw [eH]; exact hP
  have hS : va_S (AX g s.heap.size) s.heap H [] := by rw [eH]; exact va_S.rf
  refine my_heap eH ?_
  have hal : alX v F = alX v F := rfl
  have rp0 := i32_rng p0
  refine lv_iload_n hx hb dX11_law_0 rfl (lv_at hl 1 rfl) ?_
  refine va_calli (va_runS (As := [.int p0]) (rest := []) ⟨hx, hb, hml, hown, hwd⟩ (c_X11_isDay l dC dI g c adK adV v F rc H.size p0 hg hI ) (va_cwS 1 hwd (gT wk_549 wk_547 wk_548 wk_2) rfl rfl rfl (by decide +kernel) ⟨Nat.le_of_ble_eq_true rfl, Nat.le_of_ble_eq_true rfl⟩) ⟨PX.blind, fun U hU hW => ⟨rfl, PX.at hK hE hP hS hU hW⟩⟩ rfl rfl hl.1 rfl (lv_room (Nat.le_of_ble_eq_true rfl)) dX11_law_1 ⟨Nat.le_of_ble_eq_true rfl, Nat.le_of_ble_eq_true rfl⟩) hS (fun q _ h => (freeX hS) q h) (freeX hS) (fun r4379 u t H1 locs ht hvm hw hB hz1 hk1 hS => ?_)
  unfold BX at hB
  rw [ht] at hB
  have hP : va_P (dC, dI) classes (wX g c v F rc) H1 := hB
  have hw : (r4379.toInt = 1 ∧ 0 ≤ p0.toInt ∧ p0.toInt ≤ 9999) ∨ (r4379.toInt = 0 ∧ (p0.toInt < 0 ∨ 9999 < p0.toInt)) := hw
  generalize H1 = H at hP hS ⊢
  have hw_r4379 := hw
  refine lv_if_ne (tgt := 9) hx hb dX11_law_4 (by decide) (fun c4380 => ?_) (fun c4380 => ?_)
  · skip
    have t4381 := cv_ne (a := r4379.toInt) rfl (b := 0) (by decide) c4380
    refine lv_aload_n hx hb dX11_law_9 rfl (lv_at hl 0 rfl) ?_
    refine va_get (D := (dC, dI)) (ci := 11) (v := .ref (g 6)) (C := RX11) (T := TX11) (N := 14) hx hb hwd inA_X11 hown hK hP 0 rfl rfl 5 (by decide) (hwd _ wk_35) (fun _ h9 => h9) rfl dX11_law_10 ?_
    refine va_get (D := (dC, dI)) (ci := 4) (v := .int (v 120)) (C := RX4) (T := TX4) (N := 7) hx hb hwd inA_X4 hown hK hP 6 rfl rfl 0 (by decide) (hwd _ wk_844) (fun _ h9 => h9) rfl dX11_law_13 ?_
    have t4382 : 0 ≤ (v 120).toInt ∧ (v 120).toInt ≤ 10 := hI.1 120 _ _ rfl
    refine lv_bipush (v := 10) hx hb dX11_law_16 (by decide) ?_
    refine lv_icmp_lt (tgt := 24) hx hb dX11_law_18 (by decide) (fun c4383 => ?_) (fun c4383 => ?_)
    · skip
      have t4384 := cv_lt (a := (v 120).toInt) rfl (b := 10) (by decide) c4383
      refine lv_aload_n hx hb dX11_law_24 rfl (lv_at hl 0 rfl) ?_
      refine va_get (D := (dC, dI)) (ci := 11) (v := .ref (g 7)) (C := RX11) (T := TX11) (N := 14) hx hb hwd inA_X11 hown hK hP 0 rfl rfl 6 (by decide) (hwd _ wk_39) (fun _ h9 => h9) rfl dX11_law_25 ?_
      refine lv_aload_n hx hb dX11_law_28 rfl (lv_at hl 0 rfl) ?_
      refine va_get (D := (dC, dI)) (ci := 11) (v := .ref (g 6)) (C := RX11) (T := TX11) (N := 14) hx hb hwd inA_X11 hown hK hP 0 rfl rfl 5 (by decide) (hwd _ wk_35) (fun _ h9 => h9) rfl dX11_law_29 ?_
      refine va_get (D := (dC, dI)) (ci := 4) (v := .ref (g 43)) (C := RX4) (T := TX4) (N := 7) hx hb hwd inA_X4 hown hK hP 6 rfl rfl 4 (by decide) (hwd _ wk_845) (fun _ h9 => h9) rfl dX11_law_32 ?_
      refine lv_aload_n hx hb dX11_law_35 rfl (lv_at hl 0 rfl) ?_
      refine va_get (D := (dC, dI)) (ci := 11) (v := .ref (g 6)) (C := RX11) (T := TX11) (N := 14) hx hb hwd inA_X11 hown hK hP 0 rfl rfl 5 (by decide) (hwd _ wk_35) (fun _ h9 => h9) rfl dX11_law_36 ?_
      refine va_get (D := (dC, dI)) (ci := 4) (v := .int (v 120)) (C := RX4) (T := TX4) (N := 7) hx hb hwd inA_X4 hown hK hP 6 rfl rfl 0 (by decide) (hwd _ wk_844) (fun _ h9 => h9) rfl dX11_law_39 ?_
      have t4385 : 0 ≤ (v 120).toInt ∧ (v 120).toInt ≤ 10 := hI.1 120 _ _ rfl
      refine my_aald hx hb hK hP 43 31 rfl rfl (i := (v 120)) (vin (a := (v 120).toInt) rfl (by omega)) dX11_law_42 ?_
      have t4386 : ((v 120)).toNatClampNeg < 10 := nclt (a := (v 120).toInt) rfl (by omega)
      refine my_any (v := .ref (g (44 + ((v 120)).toNatClampNeg))) (by show va_rf (if _ < 10 then _ else _) = _; rw [if_pos t4386]; rfl) ?_
      refine va_calli (va_runV (As := [.ref (g (44 + ((v 120)).toNatClampNeg))]) (rest := []) ⟨hx, hb, hml, hown, hwd⟩ (c_X3_read l dC dI g c adK adV v F rc H.size (((v 120)).toNatClampNeg)  hg t4386 hI ) (cwV 1 hwd (gV wk_851 wk_848 wk_849 wk_850 wk_38) rfl rfl rfl (by decide +kernel) ⟨Nat.le_of_ble_eq_true rfl, Nat.le_of_ble_eq_true rfl⟩) ⟨PX.blind, va_recv hK hP (ci := 3) (q0 := 7) rfl rfl, fun U hU hW => ⟨rfl, PX.at hK hE hP hS hU hW⟩⟩ rfl rfl hl.1 rfl (lv_room (Nat.le_of_ble_eq_true rfl)) dX11_law_43 ⟨Nat.le_of_ble_eq_true rfl, Nat.le_of_ble_eq_true rfl⟩) hS (fun q _ h => (freeX hS) q h) (freeX hS) (fun r4387 u t H1 locs ht hvm hw hB hz1 hk1 hS => ?_)
      unfold BX at hB
      rw [ht] at hB
      obtain ⟨v4388, F4389, rc9⟩ := u
      obtain ⟨hI, hal9, hrc, hf4390, hw⟩ := hw
      dsimp only at hI hal9 hrc hB hf4390 hw
      rw [hrc] at hB
      have hal := hal9.trans hal
      have hP : va_P (dC, dI) classes (wX g c v4388 F4389 (g (44 + ((v 120)).toNatClampNeg))) H1 := hB
      generalize H1 = H at hP hS ⊢
      have rr_r4387 := i32_rng r4387
      refine lv_istore_n (lv' := [(2, .int r4387), (0, .ref (g 0)), (1, .int p0)]) hx hb dX11_law_46 rfl hl (by decide) rfl (fun ls hl => ?_)
      refine lv_aload_n hx hb dX11_law_47 rfl (lv_at hl 1 rfl) ?_
      refine va_get (D := (dC, dI)) (ci := 11) (v := .ref (g 5)) (C := RX11) (T := TX11) (N := 14) hx hb hwd inA_X11 hown hK hP 0 rfl rfl 4 (by decide) (hwd _ wk_31) (fun _ h9 => h9) rfl dX11_law_48 ?_
      refine lv_iconst (v := 0) hx hb dX11_law_51 (by decide) ?_
      refine va_put (D := (dC, dI)) (ci := 10) (v := .int 0) (ty := .int) (C := RX10) (T := TX10) (N := 2) (fs := fsX_5 g v4388 (g (44 + ((v 120)).toNatClampNeg))) hx hb hwd inA_X10 tyX10 tyX10_ok nmX10 hown hK hP (DX hg) hS 5 rfl rfl 0 (by decide) (hwd _ wk_846) (fun _ h9 => h9) rfl (by decide +kernel) rfl rfl (Nat.le_of_ble_eq_true rfl) dX11_law_52 (fun H locs hP _ hS => ?_)
      have hP := va_P_eq (pX_100 g c _ _ _ _) hP
      have hI := IX.put hI 100 0 rfl (by have : (0 : Int32).toInt = 0 := (by decide); omega)
      have hal := (alX_v _ _ 100 0 (by decide) (by decide) (by decide) (by decide)).trans hal
      refine lv_iload_n hx hb dX11_law_55 rfl (lv_at hl 0 rfl) ?_
      refine lv_iconst (v := (-1)) hx hb dX11_law_56 (by decide) ?_
      refine lv_icmp_eq (tgt := 65) hx hb dX11_law_57 (by decide) (fun c4392 => ?_) (fun c4392 => ?_)
      · skip
        have t4393 := cv_eq (a := r4387.toInt) rfl (b := (-1)) (by decide) c4392
        refine lv_aload_n hx hb dX11_law_65 rfl (lv_at hl 1 rfl) ?_
        refine va_get (D := (dC, dI)) (ci := 11) (v := .ref (g 6)) (C := RX11) (T := TX11) (N := 14) hx hb hwd inA_X11 hown hK hP 0 rfl rfl 5 (by decide) (hwd _ wk_35) (fun _ h9 => h9) rfl dX11_law_66 ?_
        refine lv_aload_n hx hb dX11_law_69 rfl (lv_at hl 1 rfl) ?_
        refine va_get (D := (dC, dI)) (ci := 11) (v := .int (v4388 11)) (C := RX11) (T := TX11) (N := 14) hx hb hwd inA_X11 hown hK hP 0 rfl rfl 11 (by decide) (hwd _ wk_323) (fun _ h9 => h9) rfl dX11_law_70 ?_
        refine my_top (v := v 11) (hf4390 11 (by decide)) ?_
        have t4394 : 0 ≤ (v 11).toInt ∧ (v 11).toInt ≤ 9999 := by have h9 := hI.1 11 _ _ rfl; rw [show (va_up v4388 100 0) 11 = v 11 from hf4390 11 (by decide)] at h9; exact h9
        refine lv_iload_n hx hb dX11_law_73 rfl (lv_at hl 2 rfl) ?_
        refine lv_aload_n hx hb dX11_law_74 rfl (lv_at hl 1 rfl) ?_
        refine va_get (D := (dC, dI)) (ci := 11) (v := .ref (g 7)) (C := RX11) (T := TX11) (N := 14) hx hb hwd inA_X11 hown hK hP 0 rfl rfl 6 (by decide) (hwd _ wk_39) (fun _ h9 => h9) rfl dX11_law_75 ?_
        refine va_get (D := (dC, dI)) (ci := 3) (v := .int (v4388 142)) (C := RX3) (T := TX3) (N := 5) hx hb hwd inA_X3 hown hK hP 7 rfl rfl 2 (by decide) (hwd _ wk_847) (fun _ h9 => h9) rfl dX11_law_78 ?_
        have t4395 : 0 ≤ (v4388 142).toInt ∧ (v4388 142).toInt ≤ 120 := hI.1 142 _ _ rfl
        refine va_calli (va_runV (As := [.int (v 11), .int p0, .int (v4388 142)]) (rest := []) ⟨hx, hb, hml, hown, hwd⟩ (c_X4_add l dC dI g c adK adV (va_up v4388 100 0) F4389 (g (44 + ((v 120)).toNatClampNeg)) H.size (v 11) p0 (v4388 142) hg hI (by omega)) (cwV 3 hwd (gV wk_997 wk_994 wk_995 wk_996 wk_34) rfl rfl rfl (by decide +kernel) ⟨Nat.le_of_ble_eq_true rfl, Nat.le_of_ble_eq_true rfl⟩) ⟨PX.blind, va_recv hK hP (ci := 4) (q0 := 6) rfl rfl, fun U hU hW => ⟨rfl, PX.at hK hE hP hS hU hW⟩⟩ rfl rfl hl.1 rfl (lv_room (Nat.le_of_ble_eq_true rfl)) dX11_law_81 ⟨Nat.le_of_ble_eq_true rfl, Nat.le_of_ble_eq_true rfl⟩) hS (fun q _ h => (freeX hS) q h) (freeX hS) (fun r4396 u t H1 locs ht hvm hw hB hz1 hk1 hS => ?_)
        unfold BX at hB
        rw [ht] at hB
        obtain ⟨v4397, F4398, rc9⟩ := u
        obtain ⟨hI, hal9, hrc, hf4399, hw⟩ := hw
        dsimp only at hI hal9 hrc hB hf4399 hw
        rw [hrc] at hB
        have hal := hal9.trans hal
        have hP : va_P (dC, dI) classes (wX g c v4397 F4398 (g (44 + ((v 120)).toNatClampNeg))) H1 := hB
        generalize H1 = H at hP hS ⊢
        have rr_r4396 := i32_rng r4396
        have hP9 : va_P (dC, dI) classes (wX g c v4397 F4398 (g (44 + ((v 120)).toNatClampNeg))) H := hP
        exact W.iret (v := r4396) hx hb hr (fun t ht hW => ⟨⟨r4396, (v4397, F4398, (g (44 + ((v 120)).toNatClampNeg))), rfl, ⟨hI, hal, trivial, (frC (by decide) hf4399 (frU (by decide) (frC (by decide) hf4390 (fun _ _ => rfl)))), trivial⟩, (by show va_P _ _ _ t.heap; rw [ht]; exact hP9)⟩, hS.F ht⟩) hS.2.2 dX11_law_84
      · skip
        have t4400 := cv_ne (a := r4387.toInt) rfl (b := (-1)) (by decide) c4392
        refine lv_bipush (v := (-100)) hx hb dX11_law_60 (by decide) ?_
        refine lv_iload_n hx hb dX11_law_62 rfl (lv_at hl 0 rfl) ?_
        refine lv_isub hx hb dX11_law_63 ?_
        refine lv_topi (fun z4401 e4402 => ?_)
        try (have t4403 := tsub e4402 (a := (-100)) (by decide) (b := r4387.toInt) rfl (by omega))
        have hP9 : va_P (dC, dI) classes (wX g c (va_up v4388 100 0) F4389 (g (44 + ((v 120)).toNatClampNeg))) H := hP
        exact W.iret (v := z4401) hx hb hr (fun t ht hW => ⟨⟨z4401, ((va_up v4388 100 0), F4389, (g (44 + ((v 120)).toNatClampNeg))), rfl, ⟨hI, hal, trivial, (frU (by decide) (frC (by decide) hf4390 (fun _ _ => rfl))), trivial⟩, (by show va_P _ _ _ t.heap; rw [ht]; exact hP9)⟩, hS.F ht⟩) hS.2.2 dX11_law_64
    · skip
      have t4404 := cv_nlt (a := (v 120).toInt) rfl (b := 10) (by decide) c4383
      refine lv_bipush (v := (-3)) hx hb dX11_law_21 (by decide) ?_
      have hP9 : va_P (dC, dI) classes (wX g c v F rc) H := hP
      exact W.iret (v := (-3)) hx hb hr (fun t ht hW => ⟨⟨(-3), (v, F, rc), rfl, ⟨hI, hal, trivial, (fun _ _ => rfl), trivial⟩, (by show va_P _ _ _ t.heap; rw [ht]; exact hP9)⟩, hS.F ht⟩) hS.2.2 dX11_law_23
  · skip
    have t4405 := cv_eq (a := r4379.toInt) rfl (b := 0) (by decide) c4380
    refine lv_iconst (v := (-1)) hx hb dX11_law_7 (by decide) ?_
    have hP9 : va_P (dC, dI) classes (wX g c v F rc) H := hP
    exact W.iret (v := (-1)) hx hb hr (fun t ht hW => ⟨⟨(-1), (v, F, rc), rfl, ⟨hI, hal, trivial, (fun _ _ => rfl), trivial⟩, (by show va_P _ _ _ t.heap; rw [ht]; exact hP9)⟩, hS.F ht⟩) hS.2.2 dX11_law_8
