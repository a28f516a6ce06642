set_option maxHeartbeats 8000000 in
set_option maxRecDepth 100000 in
theorem c_X12_law (l : Launch) (dC : Nat → ClassId) (dI : Nat → Nat → Nat) (g : Nat → Nat) (c : Nat → ClassId) (adK adV : Nat → Nat) (v : Nat → Int32) (F : Nat → Nat → Int32) (rc sz : Nat) (p0 : Int32) (hg : injM g) (hI : IM v F) (hL : JL (v 31) (F 28) (F 29) (F 27)) : Met l yX12_law (Cond.code yX12_law cX12_law 2 (some .int) :: wA) ({ frames := 40, cells := 0, slots := 0, locals := 1600 }) (va_Pc [.ref (g 0), .int p0] (PM dC dI g c adK adV v F rc sz)) (va_Qi (fun (r : Int32) (u : StM) => IM u.1 u.2.1 ∧ u.2.2 = rc ∧ (∀ k, k ∉ ([30, 31, 37, 38, 39, 40, 41, 42] : List Nat) → u.1 k = v k) ∧ (∀ k, k ∉ ([25, 26, 27, 28, 29] : List Nat) → u.2.1 k = F k) ∧ JL (u.1 31) (u.2.1 28) (u.2.1 29) (u.2.1 27)) (BM dC dI g c) (AM g sz)) 0 0 (AM g sz) := by
  refine Met.ofW (cc := cX12_law) (maxL := 2) (ret := (some .int)) (by decide) rfl ?_
  intro p e s m args below meth c0 s₁ B hml hv
  obtain ⟨rfl, hsz, hP, hK, hE⟩ := hv
  have hx := B.exec
  have hb := B.bytes
  have hr := B.returns
  have hts := atoms_spec (ws := Cond.code yX12_law cX12_law 2 (some .int) :: wA) B.pre
  have hwd : ∀ w ∈ wA, w.before _ s = true := fun w h => hts w (List.mem_cons_of_mem _ h)
  have hown : s.vm.findClass RX12 = some m.cls := findClass_of_methodNamed B.named
  have hlocks := B.notSynchronized
  subst hsz
  have hl := lv_entry ([.ref (g 0), .int p0]) (n := 2) (Nat.le_of_ble_eq_true rfl)
  rw [lg_entry_eq]
  generalize (lg_sl ([.ref (g 0), .int p0]) ++ List.replicate (2 - (lg_sl ([.ref (g 0), .int p0])).length) Slot.unset).toArray = ls at hl ⊢
  have hl : lv_has ls 2 [(0, .ref (g 0)), (1, .int p0)] := hl
  obtain ⟨H, eH⟩ : ∃ z, z = s.heap := ⟨_, rfl⟩
  have hP : va_P (dC, dI) classes (wM g c v F rc) H := by rw [eH]; exact hP
  have hS : va_S (AM g s.heap.size) s.heap H [] := by rw [eH]; exact va_S.rf
  refine my_heap eH ?_
  have hF : ∀ k, k ∉ ([25, 26, 27, 28, 29] : List Nat) → F k = F k := fun _ _ => rfl
  have rp0 := i32_rng p0
  have hb31 : 0 ≤ (v 31).toInt ∧ (v 31).toInt ≤ 10 := hI.1 31 _ _ rfl
  have hI0 := hI
  refine lv_iload_n hx hb dX12_law_0 rfl (lv_at hl 1 rfl) ?_
  refine va_calli (va_runS (As := [.int p0]) (rest := []) ⟨hx, hb, hml, hown, hwd⟩ (c_X12_isDay l dC dI g c adK adV v F rc H.size p0 hg hI ) (va_cwS 1 hwd (gT wk_556 wk_554 wk_555 wk_5) rfl rfl rfl (by decide +kernel) ⟨Nat.le_of_ble_eq_true rfl, Nat.le_of_ble_eq_true rfl⟩) ⟨PM.blind, fun U hU hW => ⟨rfl, PM.at hK hE hP hS hU hW⟩⟩ rfl rfl hl.1 rfl (lv_room (Nat.le_of_ble_eq_true rfl)) dX12_law_1 ⟨Nat.le_of_ble_eq_true rfl, Nat.le_of_ble_eq_true rfl⟩) hS (fun q _ h => (freeM hS) q h) (freeM hS) (fun r12443 u t H1 locs ht hvm hw hB hz1 hk1 hS => ?_)
  unfold BM at hB
  rw [ht] at hB
  have hP : va_P (dC, dI) classes (wM g c v F rc) H1 := hB
  have hw_r12443 : (r12443.toInt = 1 ∧ 0 ≤ p0.toInt ∧ p0.toInt ≤ 9999) ∨ (r12443.toInt = 0 ∧ (p0.toInt < 0 ∨ 9999 < p0.toInt)) := hw
  clear hw
  clear hz1
  generalize H1 = H at hP hS ⊢
  refine lv_if_ne (tgt := 9) hx hb dX12_law_4 (by decide) (fun c12444 => ?_) (fun c12444 => ?_)
  · skip
    have t12445 := cv_ne (a := r12443.toInt) rfl (b := 0) (by decide) c12444
    refine lv_aload_n hx hb dX12_law_9 rfl (lv_at hl 0 rfl) ?_
    refine va_get (D := (dC, dI)) (ci := 12) (v := .int (v 31)) (C := RX12) (T := TX12) (N := 63) hx hb hwd inA_X12 hown hK hP 0 rfl rfl 31 (by decide) (hwd _ wk_505) (fun _ h9 => h9) rfl dX12_law_10 ?_
    have t12446 : 0 ≤ (v 31).toInt ∧ (v 31).toInt ≤ 10 := hI.1 31 _ _ rfl
    refine lv_bipush (v := 10) hx hb dX12_law_13 (by decide) ?_
    refine lv_icmp_ne (tgt := 21) hx hb dX12_law_15 (by decide) (fun c12447 => ?_) (fun c12447 => ?_)
    · skip
      have t12448 := cv_ne (a := (v 31).toInt) rfl (b := 10) (by decide) c12447
      refine lv_aload_n hx hb dX12_law_21 rfl (lv_at hl 0 rfl) ?_
      refine lv_aload_n hx hb dX12_law_22 rfl (lv_at hl 0 rfl) ?_
      refine va_get (D := (dC, dI)) (ci := 12) (v := .int (v 31)) (C := RX12) (T := TX12) (N := 63) hx hb hwd inA_X12 hown hK hP 0 rfl rfl 31 (by decide) (hwd _ wk_505) (fun _ h9 => h9) rfl dX12_law_23 ?_
      have t12449 : 0 ≤ (v 31).toInt ∧ (v 31).toInt ≤ 10 := hI.1 31 _ _ rfl
      refine va_put (D := (dC, dI)) (ci := 12) (v := .int (v 31)) (ty := .int) (C := RX12) (T := TX12) (N := 63) (fs := fsM_0 g v rc) hx hb hwd inA_X12 tyX12 tyX12_ok nmX12 hown hK hP (DM hg) hS 0 rfl rfl 37 (by decide) (hwd _ wk_1002) (fun _ h9 => h9) rfl (by decide +kernel) rfl rfl (Nat.le_of_ble_eq_true rfl) dX12_law_26 (fun H locs hP _ hS => ?_)
      have hP := va_P_eq (pM_37 g c _ _ _ _) hP
      have hI := IM.put hI 37 (v 31) rfl (by omega)
      refine lv_aload_n hx hb dX12_law_29 rfl (lv_at hl 0 rfl) ?_
      refine lv_iconst (v := 0) hx hb dX12_law_30 (by decide) ?_
      refine va_put (D := (dC, dI)) (ci := 12) (v := .int 0) (ty := .int) (C := RX12) (T := TX12) (N := 63) (fs := fsM_0 g (va_up v 37 (v 31)) rc) hx hb hwd inA_X12 tyX12 tyX12_ok nmX12 hown hK hP (DM hg) hS 0 rfl rfl 38 (by decide) (hwd _ wk_1003) (fun _ h9 => h9) rfl (by decide +kernel) rfl rfl (Nat.le_of_ble_eq_true rfl) dX12_law_31 (fun H locs hP _ hS => ?_)
      have hP := va_P_eq (pM_38 g c _ _ _ _) hP
      have hI := IM.put hI 38 0 rfl (by have : (0 : Int32).toInt = 0 := (by decide); omega)
      refine lv_aload_n hx hb dX12_law_34 rfl (lv_at hl 0 rfl) ?_
      refine lv_iconst (v := 0) hx hb dX12_law_35 (by decide) ?_
      refine va_put (D := (dC, dI)) (ci := 12) (v := .int 0) (ty := .int) (C := RX12) (T := TX12) (N := 63) (fs := fsM_0 g (va_up (va_up v 37 (v 31)) 38 0) rc) hx hb hwd inA_X12 tyX12 tyX12_ok nmX12 hown hK hP (DM hg) hS 0 rfl rfl 39 (by decide) (hwd _ wk_1004) (fun _ h9 => h9) rfl (by decide +kernel) rfl rfl (Nat.le_of_ble_eq_true rfl) dX12_law_36 (fun H locs hP _ hS => ?_)
      have hP := va_P_eq (pM_39 g c _ _ _ _) hP
      have hI := IM.put hI 39 0 rfl (by have : (0 : Int32).toInt = 0 := (by decide); omega)
      refine lv_aload_n hx hb dX12_law_39 rfl (lv_at hl 0 rfl) ?_
      refine lv_iconst (v := (-1)) hx hb dX12_law_40 (by decide) ?_
      refine va_put (D := (dC, dI)) (ci := 12) (v := .int (-1)) (ty := .int) (C := RX12) (T := TX12) (N := 63) (fs := fsM_0 g (va_up (va_up (va_up v 37 (v 31)) 38 0) 39 0) rc) hx hb hwd inA_X12 tyX12 tyX12_ok nmX12 hown hK hP (DM hg) hS 0 rfl rfl 40 (by decide) (hwd _ wk_1005) (fun _ h9 => h9) rfl (by decide +kernel) rfl rfl (Nat.le_of_ble_eq_true rfl) dX12_law_41 (fun H locs hP _ hS => ?_)
      have hP := va_P_eq (pM_40 g c _ _ _ _) hP
      have hI := IM.put0 hI 40 (-1) rfl
      refine lv_aload_n hx hb dX12_law_44 rfl (lv_at hl 0 rfl) ?_
      refine lv_iconst (v := 0) hx hb dX12_law_45 (by decide) ?_
      refine va_put (D := (dC, dI)) (ci := 12) (v := .int 0) (ty := .int) (C := RX12) (T := TX12) (N := 63) (fs := fsM_0 g (va_up (va_up (va_up (va_up v 37 (v 31)) 38 0) 39 0) 40 (-1)) rc) hx hb hwd inA_X12 tyX12 tyX12_ok nmX12 hown hK hP (DM hg) hS 0 rfl rfl 41 (by decide) (hwd _ wk_1006) (fun _ h9 => h9) rfl (by decide +kernel) rfl rfl (Nat.le_of_ble_eq_true rfl) dX12_law_46 (fun H locs hP _ hS => ?_)
      have hP := va_P_eq (pM_41 g c _ _ _ _) hP
      have hI := IM.put hI 41 0 rfl (by have : (0 : Int32).toInt = 0 := (by decide); omega)
      refine lv_aload_n hx hb dX12_law_49 rfl (lv_at hl 0 rfl) ?_
      have t12450 : 0 ≤ (v 30).toInt ∧ (v 30).toInt ≤ 120 := hI.1 30 _ _ rfl
      have t12451 : 0 ≤ (v 31).toInt ∧ (v 31).toInt ≤ 9 := hI.1 37 _ _ rfl
      refine va_callv (va_runV (As := []) (rest := []) ⟨hx, hb, hml, hown, hwd⟩ (c_X12_either_0 l dC dI g c adK adV (va_up (va_up (va_up (va_up (va_up v 37 (v 31)) 38 0) 39 0) 40 (-1)) 41 0) F rc H.size  0 hg hI (by have h9 : (va_up (va_up (va_up (va_up (va_up v 37 (v 31)) 38 0) 39 0) 40 (-1)) 41 0) 38 = 0 := rfl; (try rw [h9]); clear h9; have : (0 : Int32).toInt = 0 := (by decide); have h9 : (va_up (va_up (va_up (va_up (va_up v 37 (v 31)) 38 0) 39 0) 40 (-1)) 41 0) 39 = 0 := rfl; (try rw [h9]); clear h9; have : (0 : Int32).toInt = 0 := (by decide); have h9 : (va_up (va_up (va_up (va_up (va_up v 37 (v 31)) 38 0) 39 0) 40 (-1)) 41 0) 30 = v 30 := rfl; (try rw [h9]); clear h9; have h9 : (va_up (va_up (va_up (va_up (va_up v 37 (v 31)) 38 0) 39 0) 40 (-1)) 41 0) 40 = (-1) := rfl; (try rw [h9]); clear h9; have : ((-1) : Int32).toInt = (-1) := (by decide); have h9 : (va_up (va_up (va_up (va_up (va_up v 37 (v 31)) 38 0) 39 0) 40 (-1)) 41 0) 41 = 0 := rfl; (try rw [h9]); clear h9; have : (0 : Int32).toInt = 0 := (by decide); omega) (by rfl)) (cwV 0 hwd (gV wk_1010 wk_1007 wk_1008 wk_1009 wk_5) rfl rfl rfl (by decide +kernel) ⟨Nat.le_of_ble_eq_true rfl, Nat.le_of_ble_eq_true rfl⟩) ⟨PM.blind, va_recv hK hP (ci := 12) (q0 := 0) rfl rfl, fun U hU hW => ⟨rfl, PM.at hK hE hP hS hU hW⟩⟩ rfl rfl hl.1 rfl (lv_room (Nat.le_of_ble_eq_true rfl)) dX12_law_50 ⟨Nat.le_of_ble_eq_true rfl, Nat.le_of_ble_eq_true rfl⟩) hS (fun q _ h => (freeM hS) q h) (freeM hS) (fun u t H1 locs ht hvm hw hB hz1 hk1 hS => ?_)
      unfold BM at hB
      rw [ht] at hB
      obtain ⟨v12453, F12454, rc9⟩ := u
      obtain ⟨hI, hrc, hf12455, hG12456, hw⟩ := hw
      dsimp only at hI hrc hB hf12455 hG12456 hw
      have hF := frCF (by decide) hG12456 hF
      rw [hrc] at hB
      have hP : va_P (dC, dI) classes (wM g c v12453 F12454 rc) H1 := hB
      replace hw : ((0 : Int32).toInt ≤ (v12453 39).toInt ∧ (v12453 39).toInt ≤ (v 30).toInt ∧ (0 : Int32).toInt ≤ (v12453 38).toInt ∧ (v12453 38).toInt - (0 : Int32).toInt ≤ (v12453 39).toInt - (0 : Int32).toInt ∧ (0 : Int32).toInt ≤ (v12453 41).toInt ∧ ((v12453 40).toInt < 0 → (v12453 41).toInt = (0 : Int32).toInt)) ∧ keepL (v 31) (F 28) (F 29) (F12454 28) (F12454 29) ∧ ((v12453 40).toInt < 0 → dp (F12454 28) (F12454 29) (bI (v 31)) (v12453 38).toInt.toNat = some (0 + 1)) := hw
      have hw_r12452 := hw
      clear hw
      have t12457 : 0 ≤ (v12453 38).toInt ∧ (v12453 38).toInt ≤ 120 := hI.1 38 _ _ rfl
      have t12458 : 0 ≤ (v12453 39).toInt ∧ (v12453 39).toInt ≤ 120 := hI.1 39 _ _ rfl
      have t12459 : 0 ≤ (v12453 41).toInt ∧ (v12453 41).toInt ≤ 8 := hI.1 41 _ _ rfl
      clear hz1
      generalize H1 = H at hP hS ⊢
      refine lv_aload_n hx hb dX12_law_53 rfl (lv_at hl 0 rfl) ?_
      refine va_get (D := (dC, dI)) (ci := 12) (v := .int (v12453 39)) (C := RX12) (T := TX12) (N := 63) hx hb hwd inA_X12 hown hK hP 0 rfl rfl 39 (by decide) (hwd _ wk_1004) (fun _ h9 => h9) rfl dX12_law_54 ?_
      have t12460 : 0 ≤ (v12453 39).toInt ∧ (v12453 39).toInt ≤ 120 := hI.1 39 _ _ rfl
      refine lv_aload_n hx hb dX12_law_57 rfl (lv_at hl 0 rfl) ?_
      refine va_get (D := (dC, dI)) (ci := 12) (v := .int (v12453 30)) (C := RX12) (T := TX12) (N := 63) hx hb hwd inA_X12 hown hK hP 0 rfl rfl 30 (by decide) (hwd _ wk_839) (fun _ h9 => h9) rfl dX12_law_58 ?_
      refine my_top (v := v 30) (hf12455 30 (by decide)) ?_
      have t12461 : 0 ≤ (v 30).toInt ∧ (v 30).toInt ≤ 120 := by have h9 := hI.1 30 _ _ rfl; rw [show v12453 30 = v 30 from hf12455 30 (by decide)] at h9; exact h9
      refine lv_icmp_ge (tgt := 68) hx hb dX12_law_61 (by decide) (fun c12462 => ?_) (fun c12462 => ?_)
      · skip
        have t12463 := cv_le (a := (v 30).toInt) rfl (b := (v12453 39).toInt) rfl c12462
        refine lv_aload_n hx hb dX12_law_68 rfl (lv_at hl 0 rfl) ?_
        refine lv_iconst (v := 0) hx hb dX12_law_69 (by decide) ?_
        refine va_put (D := (dC, dI)) (ci := 12) (v := .int 0) (ty := .int) (C := RX12) (T := TX12) (N := 63) (fs := fsM_0 g v12453 rc) hx hb hwd inA_X12 tyX12 tyX12_ok nmX12 hown hK hP (DM hg) hS 0 rfl rfl 30 (by decide) (hwd _ wk_839) (fun _ h9 => h9) rfl (by decide +kernel) rfl rfl (Nat.le_of_ble_eq_true rfl) dX12_law_70 (fun H locs hP _ hS => ?_)
        have hP := va_P_eq (pM_30 g c _ _ _ _) hP
        have hI := IM.put hI 30 0 rfl (by have : (0 : Int32).toInt = 0 := (by decide); omega)
        refine lv_aload_n hx hb dX12_law_73 rfl (lv_at hl 0 rfl) ?_
        refine va_get (D := (dC, dI)) (ci := 12) (v := .int (v12453 40)) (C := RX12) (T := TX12) (N := 63) hx hb hwd inA_X12 hown hK hP 0 rfl rfl 40 (by decide) (hwd _ wk_1005) (fun _ h9 => h9) rfl dX12_law_74 ?_
        refine lv_if_lt (tgt := 88) hx hb dX12_law_77 (by decide) (fun c12464 => ?_) (fun c12464 => ?_)
        · skip
          have t12465 := cv_lt (a := (v12453 40).toInt) rfl (b := 0) (by decide) c12464
          refine lv_aload_n hx hb dX12_law_88 rfl (lv_at hl 0 rfl) ?_
          refine va_get (D := (dC, dI)) (ci := 12) (v := .ref (g 25)) (C := RX12) (T := TX12) (N := 63) hx hb hwd inA_X12 hown hK hP 0 rfl rfl 32 (by decide) (hwd _ wk_207) (fun _ h9 => h9) rfl dX12_law_89 ?_
          refine lv_aload_n hx hb dX12_law_92 rfl (lv_at hl 0 rfl) ?_
          refine va_get (D := (dC, dI)) (ci := 12) (v := .int (v12453 31)) (C := RX12) (T := TX12) (N := 63) hx hb hwd inA_X12 hown hK hP 0 rfl rfl 31 (by decide) (hwd _ wk_505) (fun _ h9 => h9) rfl dX12_law_93 ?_
          refine my_top (v := v 31) (hf12455 31 (by decide)) ?_
          have t12466 : 0 ≤ (v 31).toInt ∧ (v 31).toInt ≤ 10 := by have h9 := hI.1 31 _ _ rfl; rw [show (va_up v12453 30 0) 31 = v 31 from hf12455 31 (by decide)] at h9; exact h9
          refine lv_aload_n hx hb dX12_law_96 rfl (lv_at hl 0 rfl) ?_
          refine va_get (D := (dC, dI)) (ci := 12) (v := .int (v12453 1)) (C := RX12) (T := TX12) (N := 63) hx hb hwd inA_X12 hown hK hP 0 rfl rfl 1 (by decide) (hwd _ wk_332) (fun _ h9 => h9) rfl dX12_law_97 ?_
          refine my_top (v := v 1) (hf12455 1 (by decide)) ?_
          have t12467 : 0 ≤ (v 1).toInt ∧ (v 1).toInt ≤ 9999 := by have h9 := hI.1 1 _ _ rfl; rw [show (va_up v12453 30 0) 1 = v 1 from hf12455 1 (by decide)] at h9; exact h9
          refine va_iast hx hb hK hP (DM hg) hS 25 24 rfl rfl (i := (v 31)) (x := (v 1)) (vin (a := (v 31).toInt) rfl (by omega)) dX12_law_100 (fun H locs hP _ hS => ?_)
          have hP := va_P_eq (sM_25 g c _ _ _ _) hP
          have hI := IM.store0 hI 25 (v 31 : Int32).toNatClampNeg (v 1) rfl
          have hF := frUF (k := 25) (f := upd (F12454 25) (v 31 : Int32).toNatClampNeg (v 1)) (by decide) hF
          have st12469 : (va_up F12454 25 (upd (F12454 25) (v 31 : Int32).toNatClampNeg (v 1))) 25 = upd (F12454 25) (v 31 : Int32).toNatClampNeg (v 1) := va_up_self _ _ _
          have sn12470 : ∀ k9, k9 ≠ 25 → (va_up F12454 25 (upd (F12454 25) (v 31 : Int32).toNatClampNeg (v 1))) k9 = F12454 k9 := fun k9 h9 => va_up_ne _ _ h9
          have hP : va_P (dC, dI) classes (wM g c (va_up v12453 30 0) (va_up F12454 25 (upd (F12454 25) (v 31 : Int32).toNatClampNeg (v 1))) rc) H := hP
          generalize (va_up F12454 25 (upd (F12454 25) (v 31 : Int32).toNatClampNeg (v 1))) = F12468 at hP hI hF st12469 sn12470
          refine lv_aload_n hx hb dX12_law_101 rfl (lv_at hl 0 rfl) ?_
          refine va_get (D := (dC, dI)) (ci := 12) (v := .ref (g 26)) (C := RX12) (T := TX12) (N := 63) hx hb hwd inA_X12 hown hK hP 0 rfl rfl 33 (by decide) (hwd _ wk_208) (fun _ h9 => h9) rfl dX12_law_102 ?_
          refine lv_aload_n hx hb dX12_law_105 rfl (lv_at hl 0 rfl) ?_
          refine va_get (D := (dC, dI)) (ci := 12) (v := .int (v12453 31)) (C := RX12) (T := TX12) (N := 63) hx hb hwd inA_X12 hown hK hP 0 rfl rfl 31 (by decide) (hwd _ wk_505) (fun _ h9 => h9) rfl dX12_law_106 ?_
          refine my_top (v := v 31) (hf12455 31 (by decide)) ?_
          have t12471 : 0 ≤ (v 31).toInt ∧ (v 31).toInt ≤ 10 := by have h9 := hI.1 31 _ _ rfl; rw [show (va_up v12453 30 0) 31 = v 31 from hf12455 31 (by decide)] at h9; exact h9
          refine lv_iload_n hx hb dX12_law_109 rfl (lv_at hl 1 rfl) ?_
          refine va_iast hx hb hK hP (DM hg) hS 26 25 rfl rfl (i := (v 31)) (x := p0) (vin (a := (v 31).toInt) rfl (by omega)) dX12_law_110 (fun H locs hP _ hS => ?_)
          have hP := va_P_eq (sM_26 g c _ _ _ _) hP
          have hI := IM.store0 hI 26 (v 31 : Int32).toNatClampNeg p0 rfl
          have hF := frUF (k := 26) (f := upd (F12468 26) (v 31 : Int32).toNatClampNeg p0) (by decide) hF
          have st12473 : (va_up F12468 26 (upd (F12468 26) (v 31 : Int32).toNatClampNeg p0)) 26 = upd (F12468 26) (v 31 : Int32).toNatClampNeg p0 := va_up_self _ _ _
          have sn12474 : ∀ k9, k9 ≠ 26 → (va_up F12468 26 (upd (F12468 26) (v 31 : Int32).toNatClampNeg p0)) k9 = F12468 k9 := fun k9 h9 => va_up_ne _ _ h9
          have hP : va_P (dC, dI) classes (wM g c (va_up v12453 30 0) (va_up F12468 26 (upd (F12468 26) (v 31 : Int32).toNatClampNeg p0)) rc) H := hP
          generalize (va_up F12468 26 (upd (F12468 26) (v 31 : Int32).toNatClampNeg p0)) = F12472 at hP hI hF st12473 sn12474
          refine lv_aload_n hx hb dX12_law_111 rfl (lv_at hl 0 rfl) ?_
          refine va_get (D := (dC, dI)) (ci := 12) (v := .ref (g 27)) (C := RX12) (T := TX12) (N := 63) hx hb hwd inA_X12 hown hK hP 0 rfl rfl 34 (by decide) (hwd _ wk_209) (fun _ h9 => h9) rfl dX12_law_112 ?_
          refine lv_aload_n hx hb dX12_law_115 rfl (lv_at hl 0 rfl) ?_
          refine va_get (D := (dC, dI)) (ci := 12) (v := .int (v12453 31)) (C := RX12) (T := TX12) (N := 63) hx hb hwd inA_X12 hown hK hP 0 rfl rfl 31 (by decide) (hwd _ wk_505) (fun _ h9 => h9) rfl dX12_law_116 ?_
          refine my_top (v := v 31) (hf12455 31 (by decide)) ?_
          have t12475 : 0 ≤ (v 31).toInt ∧ (v 31).toInt ≤ 10 := by have h9 := hI.1 31 _ _ rfl; rw [show (va_up v12453 30 0) 31 = v 31 from hf12455 31 (by decide)] at h9; exact h9
          refine lv_aload_n hx hb dX12_law_119 rfl (lv_at hl 0 rfl) ?_
          refine va_get (D := (dC, dI)) (ci := 12) (v := .int (v12453 38)) (C := RX12) (T := TX12) (N := 63) hx hb hwd inA_X12 hown hK hP 0 rfl rfl 38 (by decide) (hwd _ wk_1003) (fun _ h9 => h9) rfl dX12_law_120 ?_
          have t12476 : 0 ≤ (v12453 38).toInt ∧ (v12453 38).toInt ≤ 120 := hI.1 38 _ _ rfl
          refine va_iast hx hb hK hP (DM hg) hS 27 26 rfl rfl (i := (v 31)) (x := (v12453 38)) (vin (a := (v 31).toInt) rfl (by omega)) dX12_law_123 (fun H locs hP _ hS => ?_)
          have hP := va_P_eq (sM_27 g c _ _ _ _) hP
          have hI := IM.store hI 27 (v 31 : Int32).toNatClampNeg (v12453 38) rfl (by omega)
          have hF := frUF (k := 27) (f := upd (F12472 27) (v 31 : Int32).toNatClampNeg (v12453 38)) (by decide) hF
          have st12478 : (va_up F12472 27 (upd (F12472 27) (v 31 : Int32).toNatClampNeg (v12453 38))) 27 = upd (F12472 27) (v 31 : Int32).toNatClampNeg (v12453 38) := va_up_self _ _ _
          have sn12479 : ∀ k9, k9 ≠ 27 → (va_up F12472 27 (upd (F12472 27) (v 31 : Int32).toNatClampNeg (v12453 38))) k9 = F12472 k9 := fun k9 h9 => va_up_ne _ _ h9
          have hP : va_P (dC, dI) classes (wM g c (va_up v12453 30 0) (va_up F12472 27 (upd (F12472 27) (v 31 : Int32).toNatClampNeg (v12453 38))) rc) H := hP
          generalize (va_up F12472 27 (upd (F12472 27) (v 31 : Int32).toNatClampNeg (v12453 38))) = F12477 at hP hI hF st12478 sn12479
          refine lv_aload_n hx hb dX12_law_124 rfl (lv_at hl 0 rfl) ?_
          refine lv_dup hx hb dX12_law_125 rfl ?_
          refine va_get (D := (dC, dI)) (ci := 12) (v := .int (v12453 31)) (C := RX12) (T := TX12) (N := 63) hx hb hwd inA_X12 hown hK hP 0 rfl rfl 31 (by decide) (hwd _ wk_505) (fun _ h9 => h9) rfl dX12_law_126 ?_
          refine my_top (v := v 31) (hf12455 31 (by decide)) ?_
          have t12480 : 0 ≤ (v 31).toInt ∧ (v 31).toInt ≤ 10 := by have h9 := hI.1 31 _ _ rfl; rw [show (va_up v12453 30 0) 31 = v 31 from hf12455 31 (by decide)] at h9; exact h9
          refine lv_iconst (v := 1) hx hb dX12_law_129 (by decide) ?_
          refine lv_iadd hx hb dX12_law_130 ?_
          refine lv_topi (fun z12481 e12482 => ?_)
          try (have t12483 := tadd e12482 (a := (v 31).toInt) rfl (b := 1) (by decide) (by omega))
          refine va_put (D := (dC, dI)) (ci := 12) (v := .int z12481) (ty := .int) (C := RX12) (T := TX12) (N := 63) (fs := fsM_0 g (va_up v12453 30 0) rc) hx hb hwd inA_X12 tyX12 tyX12_ok nmX12 hown hK hP (DM hg) hS 0 rfl rfl 31 (by decide) (hwd _ wk_505) (fun _ h9 => h9) rfl (by decide +kernel) rfl rfl (Nat.le_of_ble_eq_true rfl) dX12_law_131 (fun H locs hP _ hS => ?_)
          have hP := va_P_eq (pM_31 g c _ _ _ _) hP
          have hI := IM.put hI 31 z12481 rfl (by omega)
          refine lv_aload_n hx hb dX12_law_134 rfl (lv_at hl 0 rfl) ?_
          refine va_get (D := (dC, dI)) (ci := 12) (v := .int z12481) (C := RX12) (T := TX12) (N := 63) hx hb hwd inA_X12 hown hK hP 0 rfl rfl 31 (by decide) (hwd _ wk_505) (fun _ h9 => h9) rfl dX12_law_135 ?_
          have t12484 : 0 ≤ z12481.toInt ∧ z12481.toInt ≤ 10 := hI.1 31 _ _ rfl
          refine lv_iconst (v := 1) hx hb dX12_law_138 (by decide) ?_
          refine lv_isub hx hb dX12_law_139 ?_
          refine lv_topi (fun z12485 e12486 => ?_)
          try (have t12487 := tsub e12486 (a := z12481.toInt) rfl (b := 1) (by decide) (by omega))
          have hP9 : va_P (dC, dI) classes (wM g c (va_up (va_up v12453 30 0) 31 z12481) F12477 rc) H := hP
          exact W.iret (v := z12485) hx hb hr (fun t ht hW => ⟨⟨z12485, ((va_up (va_up v12453 30 0) 31 z12481), F12477, rc), rfl, ⟨hI, rfl, (frU (by decide) (frU (by decide) (frC (by decide) hf12455 (frU (by decide) (frU (by decide) (frU (by decide) (frU (by decide) (frU (by decide) (fun _ _ => rfl))))))))), hF, (by show JL ((va_up (va_up v12453 30 0) 31 z12481) 31) (F12477 28) (F12477 29) (F12477 27); rw [show (va_up (va_up v12453 30 0) 31 z12481) 31 = z12481 from rfl, show F12477 28 = F12454 28 from ((sn12479 28 (by decide)).trans ((sn12474 28 (by decide)).trans (sn12470 28 (by decide)))), show F12477 29 = F12454 29 from ((sn12479 29 (by decide)).trans ((sn12474 29 (by decide)).trans (sn12470 29 (by decide))))]; exact JL.add hL (by omega) (by omega) hw_r12452.2.1 (fun l _ => hI0.2 27 _ _ rfl l) ((st12478.trans (congrArg (fun f => upd f (v 31 : Int32).toNatClampNeg (v12453 38)) ((sn12474 27 (by decide)).trans (sn12470 27 (by decide))))).trans (congrArg (fun f => upd f (v 31 : Int32).toNatClampNeg (v12453 38)) (hG12456 27 (by decide)))) (hw_r12452.2.2 (by omega)))⟩, (by show va_P _ _ _ t.heap; rw [ht]; exact hP9)⟩, hS.F ht⟩) hS.2.2 dX12_law_140
        · skip
          have t12488 := cv_nlt (a := (v12453 40).toInt) rfl (b := 0) (by decide) c12464
          refine lv_bipush (v := (-100)) hx hb dX12_law_80 (by decide) ?_
          refine lv_aload_n hx hb dX12_law_82 rfl (lv_at hl 0 rfl) ?_
          refine va_get (D := (dC, dI)) (ci := 12) (v := .int (v12453 40)) (C := RX12) (T := TX12) (N := 63) hx hb hwd inA_X12 hown hK hP 0 rfl rfl 40 (by decide) (hwd _ wk_1005) (fun _ h9 => h9) rfl dX12_law_83 ?_
          refine lv_isub hx hb dX12_law_86 ?_
          refine lv_topi (fun z12489 e12490 => ?_)
          try (have t12491 := tsub e12490 (a := (-100)) (by decide) (b := (v12453 40).toInt) rfl (by omega))
          have hP9 : va_P (dC, dI) classes (wM g c (va_up v12453 30 0) F12454 rc) H := hP
          exact W.iret (v := z12489) hx hb hr (fun t ht hW => ⟨⟨z12489, ((va_up v12453 30 0), F12454, rc), rfl, ⟨hI, rfl, (frU (by decide) (frC (by decide) hf12455 (frU (by decide) (frU (by decide) (frU (by decide) (frU (by decide) (frU (by decide) (fun _ _ => rfl)))))))), hF, (by show JL ((va_up v12453 30 0) 31) (F12454 28) (F12454 29) (F12454 27); rw [show (va_up v12453 30 0) 31 = v 31 from hf12455 31 (by decide), show F12454 28 = F12454 28 from rfl, show F12454 29 = F12454 29 from rfl]; exact JL.keep hL hw_r12452.2.1 (fun l _ => hI0.2 27 _ _ rfl l) (hG12456 27 (by decide)))⟩, (by show va_P _ _ _ t.heap; rw [ht]; exact hP9)⟩, hS.F ht⟩) hS.2.2 dX12_law_87
      · skip
        have t12492 := cv_nle (a := (v 30).toInt) rfl (b := (v12453 39).toInt) rfl c12462
        refine lv_aload_n hx hb dX12_law_64 rfl (lv_at hl 0 rfl) ?_
        refine va_callv (va_runV (As := []) (rest := []) ⟨hx, hb, hml, hown, hwd⟩ (c_X12_wrong l dC dI g c adK adV v12453 F12454 rc H.size  hg hI ) (cwV 0 hwd (gV wk_1029 wk_1026 wk_1027 wk_1028 wk_5) rfl rfl rfl (by decide +kernel) ⟨Nat.le_of_ble_eq_true rfl, Nat.le_of_ble_eq_true rfl⟩) ⟨PM.blind, va_recv hK hP (ci := 12) (q0 := 0) rfl rfl, fun U hU hW => ⟨rfl, PM.at hK hE hP hS hU hW⟩⟩ rfl rfl hl.1 rfl (lv_room (Nat.le_of_ble_eq_true rfl)) dX12_law_65 ⟨Nat.le_of_ble_eq_true rfl, Nat.le_of_ble_eq_true rfl⟩) hS (fun q _ h => (freeM hS) q h) (freeM hS) (fun u t H1 locs ht hvm hw hB hz1 hk1 hS => ?_)
        unfold BM at hB
        rw [ht] at hB
        obtain ⟨v12494, F12495, rc9⟩ := u
        obtain ⟨hI, hrc, hf12496, hG12497, hw⟩ := hw
        dsimp only at hI hrc hB hf12496 hG12497 hw
        have hF := frCF (by decide) hG12497 hF
        rw [hrc] at hB
        have hP : va_P (dC, dI) classes (wM g c v12494 F12495 rc) H1 := hB
        replace hw : 0 ≤ (v12494 40).toInt := hw
        have hw_r12493 := hw
        clear hw
        clear hz1
        generalize H1 = H at hP hS ⊢
        refine lv_aload_n hx hb dX12_law_68 rfl (lv_at hl 0 rfl) ?_
        refine lv_iconst (v := 0) hx hb dX12_law_69 (by decide) ?_
        refine va_put (D := (dC, dI)) (ci := 12) (v := .int 0) (ty := .int) (C := RX12) (T := TX12) (N := 63) (fs := fsM_0 g v12494 rc) hx hb hwd inA_X12 tyX12 tyX12_ok nmX12 hown hK hP (DM hg) hS 0 rfl rfl 30 (by decide) (hwd _ wk_839) (fun _ h9 => h9) rfl (by decide +kernel) rfl rfl (Nat.le_of_ble_eq_true rfl) dX12_law_70 (fun H locs hP _ hS => ?_)
        have hP := va_P_eq (pM_30 g c _ _ _ _) hP
        have hI := IM.put hI 30 0 rfl (by have : (0 : Int32).toInt = 0 := (by decide); omega)
        refine lv_aload_n hx hb dX12_law_73 rfl (lv_at hl 0 rfl) ?_
        refine va_get (D := (dC, dI)) (ci := 12) (v := .int (v12494 40)) (C := RX12) (T := TX12) (N := 63) hx hb hwd inA_X12 hown hK hP 0 rfl rfl 40 (by decide) (hwd _ wk_1005) (fun _ h9 => h9) rfl dX12_law_74 ?_
        refine lv_if_lt (tgt := 88) hx hb dX12_law_77 (by decide) (fun c12498 => ?_) (fun c12498 => ?_)
        · skip
          have t12499 := cv_lt (a := (v12494 40).toInt) rfl (b := 0) (by decide) c12498
          refine lv_aload_n hx hb dX12_law_88 rfl (lv_at hl 0 rfl) ?_
          refine va_get (D := (dC, dI)) (ci := 12) (v := .ref (g 25)) (C := RX12) (T := TX12) (N := 63) hx hb hwd inA_X12 hown hK hP 0 rfl rfl 32 (by decide) (hwd _ wk_207) (fun _ h9 => h9) rfl dX12_law_89 ?_
          refine lv_aload_n hx hb dX12_law_92 rfl (lv_at hl 0 rfl) ?_
          refine va_get (D := (dC, dI)) (ci := 12) (v := .int (v12494 31)) (C := RX12) (T := TX12) (N := 63) hx hb hwd inA_X12 hown hK hP 0 rfl rfl 31 (by decide) (hwd _ wk_505) (fun _ h9 => h9) rfl dX12_law_93 ?_
          refine my_top (v := v 31) ((hf12496 31 (by decide)).trans (hf12455 31 (by decide))) ?_
          have t12500 : 0 ≤ (v 31).toInt ∧ (v 31).toInt ≤ 10 := by have h9 := hI.1 31 _ _ rfl; rw [show (va_up v12494 30 0) 31 = v 31 from (hf12496 31 (by decide)).trans (hf12455 31 (by decide))] at h9; exact h9
          refine lv_aload_n hx hb dX12_law_96 rfl (lv_at hl 0 rfl) ?_
          refine va_get (D := (dC, dI)) (ci := 12) (v := .int (v12494 1)) (C := RX12) (T := TX12) (N := 63) hx hb hwd inA_X12 hown hK hP 0 rfl rfl 1 (by decide) (hwd _ wk_332) (fun _ h9 => h9) rfl dX12_law_97 ?_
          refine my_top (v := v 1) ((hf12496 1 (by decide)).trans (hf12455 1 (by decide))) ?_
          have t12501 : 0 ≤ (v 1).toInt ∧ (v 1).toInt ≤ 9999 := by have h9 := hI.1 1 _ _ rfl; rw [show (va_up v12494 30 0) 1 = v 1 from (hf12496 1 (by decide)).trans (hf12455 1 (by decide))] at h9; exact h9
          refine va_iast hx hb hK hP (DM hg) hS 25 24 rfl rfl (i := (v 31)) (x := (v 1)) (vin (a := (v 31).toInt) rfl (by omega)) dX12_law_100 (fun H locs hP _ hS => ?_)
          have hP := va_P_eq (sM_25 g c _ _ _ _) hP
          have hI := IM.store0 hI 25 (v 31 : Int32).toNatClampNeg (v 1) rfl
          have hF := frUF (k := 25) (f := upd (F12495 25) (v 31 : Int32).toNatClampNeg (v 1)) (by decide) hF
          have st12503 : (va_up F12495 25 (upd (F12495 25) (v 31 : Int32).toNatClampNeg (v 1))) 25 = upd (F12495 25) (v 31 : Int32).toNatClampNeg (v 1) := va_up_self _ _ _
          have sn12504 : ∀ k9, k9 ≠ 25 → (va_up F12495 25 (upd (F12495 25) (v 31 : Int32).toNatClampNeg (v 1))) k9 = F12495 k9 := fun k9 h9 => va_up_ne _ _ h9
          have hP : va_P (dC, dI) classes (wM g c (va_up v12494 30 0) (va_up F12495 25 (upd (F12495 25) (v 31 : Int32).toNatClampNeg (v 1))) rc) H := hP
          generalize (va_up F12495 25 (upd (F12495 25) (v 31 : Int32).toNatClampNeg (v 1))) = F12502 at hP hI hF st12503 sn12504
          refine lv_aload_n hx hb dX12_law_101 rfl (lv_at hl 0 rfl) ?_
          refine va_get (D := (dC, dI)) (ci := 12) (v := .ref (g 26)) (C := RX12) (T := TX12) (N := 63) hx hb hwd inA_X12 hown hK hP 0 rfl rfl 33 (by decide) (hwd _ wk_208) (fun _ h9 => h9) rfl dX12_law_102 ?_
          refine lv_aload_n hx hb dX12_law_105 rfl (lv_at hl 0 rfl) ?_
          refine va_get (D := (dC, dI)) (ci := 12) (v := .int (v12494 31)) (C := RX12) (T := TX12) (N := 63) hx hb hwd inA_X12 hown hK hP 0 rfl rfl 31 (by decide) (hwd _ wk_505) (fun _ h9 => h9) rfl dX12_law_106 ?_
          refine my_top (v := v 31) ((hf12496 31 (by decide)).trans (hf12455 31 (by decide))) ?_
          have t12505 : 0 ≤ (v 31).toInt ∧ (v 31).toInt ≤ 10 := by have h9 := hI.1 31 _ _ rfl; rw [show (va_up v12494 30 0) 31 = v 31 from (hf12496 31 (by decide)).trans (hf12455 31 (by decide))] at h9; exact h9
          refine lv_iload_n hx hb dX12_law_109 rfl (lv_at hl 1 rfl) ?_
          refine va_iast hx hb hK hP (DM hg) hS 26 25 rfl rfl (i := (v 31)) (x := p0) (vin (a := (v 31).toInt) rfl (by omega)) dX12_law_110 (fun H locs hP _ hS => ?_)
          have hP := va_P_eq (sM_26 g c _ _ _ _) hP
          have hI := IM.store0 hI 26 (v 31 : Int32).toNatClampNeg p0 rfl
          have hF := frUF (k := 26) (f := upd (F12502 26) (v 31 : Int32).toNatClampNeg p0) (by decide) hF
          have st12507 : (va_up F12502 26 (upd (F12502 26) (v 31 : Int32).toNatClampNeg p0)) 26 = upd (F12502 26) (v 31 : Int32).toNatClampNeg p0 := va_up_self _ _ _
          have sn12508 : ∀ k9, k9 ≠ 26 → (va_up F12502 26 (upd (F12502 26) (v 31 : Int32).toNatClampNeg p0)) k9 = F12502 k9 := fun k9 h9 => va_up_ne _ _ h9
          have hP : va_P (dC, dI) classes (wM g c (va_up v12494 30 0) (va_up F12502 26 (upd (F12502 26) (v 31 : Int32).toNatClampNeg p0)) rc) H := hP
          generalize (va_up F12502 26 (upd (F12502 26) (v 31 : Int32).toNatClampNeg p0)) = F12506 at hP hI hF st12507 sn12508
          refine lv_aload_n hx hb dX12_law_111 rfl (lv_at hl 0 rfl) ?_
          refine va_get (D := (dC, dI)) (ci := 12) (v := .ref (g 27)) (C := RX12) (T := TX12) (N := 63) hx hb hwd inA_X12 hown hK hP 0 rfl rfl 34 (by decide) (hwd _ wk_209) (fun _ h9 => h9) rfl dX12_law_112 ?_
          refine lv_aload_n hx hb dX12_law_115 rfl (lv_at hl 0 rfl) ?_
          refine va_get (D := (dC, dI)) (ci := 12) (v := .int (v12494 31)) (C := RX12) (T := TX12) (N := 63) hx hb hwd inA_X12 hown hK hP 0 rfl rfl 31 (by decide) (hwd _ wk_505) (fun _ h9 => h9) rfl dX12_law_116 ?_
          refine my_top (v := v 31) ((hf12496 31 (by decide)).trans (hf12455 31 (by decide))) ?_
          have t12509 : 0 ≤ (v 31).toInt ∧ (v 31).toInt ≤ 10 := by have h9 := hI.1 31 _ _ rfl; rw [show (va_up v12494 30 0) 31 = v 31 from (hf12496 31 (by decide)).trans (hf12455 31 (by decide))] at h9; exact h9
          refine lv_aload_n hx hb dX12_law_119 rfl (lv_at hl 0 rfl) ?_
          refine va_get (D := (dC, dI)) (ci := 12) (v := .int (v12494 38)) (C := RX12) (T := TX12) (N := 63) hx hb hwd inA_X12 hown hK hP 0 rfl rfl 38 (by decide) (hwd _ wk_1003) (fun _ h9 => h9) rfl dX12_law_120 ?_
          refine my_top (v := v12453 38) (hf12496 38 (by decide)) ?_
          have t12510 : 0 ≤ (v12453 38).toInt ∧ (v12453 38).toInt ≤ 120 := by have h9 := hI.1 38 _ _ rfl; rw [show (va_up v12494 30 0) 38 = v12453 38 from hf12496 38 (by decide)] at h9; exact h9
          refine va_iast hx hb hK hP (DM hg) hS 27 26 rfl rfl (i := (v 31)) (x := (v12453 38)) (vin (a := (v 31).toInt) rfl (by omega)) dX12_law_123 (fun H locs hP _ hS => ?_)
          have hP := va_P_eq (sM_27 g c _ _ _ _) hP
          have hI := IM.store hI 27 (v 31 : Int32).toNatClampNeg (v12453 38) rfl (by omega)
          have hF := frUF (k := 27) (f := upd (F12506 27) (v 31 : Int32).toNatClampNeg (v12453 38)) (by decide) hF
          have st12512 : (va_up F12506 27 (upd (F12506 27) (v 31 : Int32).toNatClampNeg (v12453 38))) 27 = upd (F12506 27) (v 31 : Int32).toNatClampNeg (v12453 38) := va_up_self _ _ _
          have sn12513 : ∀ k9, k9 ≠ 27 → (va_up F12506 27 (upd (F12506 27) (v 31 : Int32).toNatClampNeg (v12453 38))) k9 = F12506 k9 := fun k9 h9 => va_up_ne _ _ h9
          have hP : va_P (dC, dI) classes (wM g c (va_up v12494 30 0) (va_up F12506 27 (upd (F12506 27) (v 31 : Int32).toNatClampNeg (v12453 38))) rc) H := hP
          generalize (va_up F12506 27 (upd (F12506 27) (v 31 : Int32).toNatClampNeg (v12453 38))) = F12511 at hP hI hF st12512 sn12513
          refine lv_aload_n hx hb dX12_law_124 rfl (lv_at hl 0 rfl) ?_
          refine lv_dup hx hb dX12_law_125 rfl ?_
          refine va_get (D := (dC, dI)) (ci := 12) (v := .int (v12494 31)) (C := RX12) (T := TX12) (N := 63) hx hb hwd inA_X12 hown hK hP 0 rfl rfl 31 (by decide) (hwd _ wk_505) (fun _ h9 => h9) rfl dX12_law_126 ?_
          refine my_top (v := v 31) ((hf12496 31 (by decide)).trans (hf12455 31 (by decide))) ?_
          have t12514 : 0 ≤ (v 31).toInt ∧ (v 31).toInt ≤ 10 := by have h9 := hI.1 31 _ _ rfl; rw [show (va_up v12494 30 0) 31 = v 31 from (hf12496 31 (by decide)).trans (hf12455 31 (by decide))] at h9; exact h9
          refine lv_iconst (v := 1) hx hb dX12_law_129 (by decide) ?_
          refine lv_iadd hx hb dX12_law_130 ?_
          refine lv_topi (fun z12515 e12516 => ?_)
          try (have t12517 := tadd e12516 (a := (v 31).toInt) rfl (b := 1) (by decide) (by omega))
          refine va_put (D := (dC, dI)) (ci := 12) (v := .int z12515) (ty := .int) (C := RX12) (T := TX12) (N := 63) (fs := fsM_0 g (va_up v12494 30 0) rc) hx hb hwd inA_X12 tyX12 tyX12_ok nmX12 hown hK hP (DM hg) hS 0 rfl rfl 31 (by decide) (hwd _ wk_505) (fun _ h9 => h9) rfl (by decide +kernel) rfl rfl (Nat.le_of_ble_eq_true rfl) dX12_law_131 (fun H locs hP _ hS => ?_)
          have hP := va_P_eq (pM_31 g c _ _ _ _) hP
          have hI := IM.put hI 31 z12515 rfl (by omega)
          refine lv_aload_n hx hb dX12_law_134 rfl (lv_at hl 0 rfl) ?_
          refine va_get (D := (dC, dI)) (ci := 12) (v := .int z12515) (C := RX12) (T := TX12) (N := 63) hx hb hwd inA_X12 hown hK hP 0 rfl rfl 31 (by decide) (hwd _ wk_505) (fun _ h9 => h9) rfl dX12_law_135 ?_
          have t12518 : 0 ≤ z12515.toInt ∧ z12515.toInt ≤ 10 := hI.1 31 _ _ rfl
          refine lv_iconst (v := 1) hx hb dX12_law_138 (by decide) ?_
          refine lv_isub hx hb dX12_law_139 ?_
          refine lv_topi (fun z12519 e12520 => ?_)
          try (have t12521 := tsub e12520 (a := z12515.toInt) rfl (b := 1) (by decide) (by omega))
          have hP9 : va_P (dC, dI) classes (wM g c (va_up (va_up v12494 30 0) 31 z12515) F12511 rc) H := hP
          exact W.iret (v := z12519) hx hb hr (fun t ht hW => ⟨⟨z12519, ((va_up (va_up v12494 30 0) 31 z12515), F12511, rc), rfl, ⟨hI, rfl, (frU (by decide) (frU (by decide) (frC (by decide) hf12496 (frC (by decide) hf12455 (frU (by decide) (frU (by decide) (frU (by decide) (frU (by decide) (frU (by decide) (fun _ _ => rfl)))))))))), hF, (by show JL ((va_up (va_up v12494 30 0) 31 z12515) 31) (F12511 28) (F12511 29) (F12511 27); rw [show (va_up (va_up v12494 30 0) 31 z12515) 31 = z12515 from rfl, show F12511 28 = F12454 28 from ((sn12513 28 (by decide)).trans ((sn12508 28 (by decide)).trans ((sn12504 28 (by decide)).trans (hG12497 28 (by decide))))), show F12511 29 = F12454 29 from ((sn12513 29 (by decide)).trans ((sn12508 29 (by decide)).trans ((sn12504 29 (by decide)).trans (hG12497 29 (by decide)))))]; exact JL.add hL (by omega) (by omega) hw_r12452.2.1 (fun l _ => hI0.2 27 _ _ rfl l) ((st12512.trans (congrArg (fun f => upd f (v 31 : Int32).toNatClampNeg (v12453 38)) ((sn12508 27 (by decide)).trans ((sn12504 27 (by decide)).trans (hG12497 27 (by decide)))))).trans (congrArg (fun f => upd f (v 31 : Int32).toNatClampNeg (v12453 38)) (hG12456 27 (by decide)))) (hw_r12452.2.2 (by omega)))⟩, (by show va_P _ _ _ t.heap; rw [ht]; exact hP9)⟩, hS.F ht⟩) hS.2.2 dX12_law_140
        · skip
          have t12522 := cv_nlt (a := (v12494 40).toInt) rfl (b := 0) (by decide) c12498
          refine lv_bipush (v := (-100)) hx hb dX12_law_80 (by decide) ?_
          refine lv_aload_n hx hb dX12_law_82 rfl (lv_at hl 0 rfl) ?_
          refine va_get (D := (dC, dI)) (ci := 12) (v := .int (v12494 40)) (C := RX12) (T := TX12) (N := 63) hx hb hwd inA_X12 hown hK hP 0 rfl rfl 40 (by decide) (hwd _ wk_1005) (fun _ h9 => h9) rfl dX12_law_83 ?_
          refine lv_isub hx hb dX12_law_86 ?_
          refine lv_topi (fun z12523 e12524 => ?_)
          try (have t12525 := tsub e12524 (a := (-100)) (by decide) (b := (v12494 40).toInt) rfl (by omega))
          have hP9 : va_P (dC, dI) classes (wM g c (va_up v12494 30 0) F12495 rc) H := hP
          exact W.iret (v := z12523) hx hb hr (fun t ht hW => ⟨⟨z12523, ((va_up v12494 30 0), F12495, rc), rfl, ⟨hI, rfl, (frU (by decide) (frC (by decide) hf12496 (frC (by decide) hf12455 (frU (by decide) (frU (by decide) (frU (by decide) (frU (by decide) (frU (by decide) (fun _ _ => rfl))))))))), hF, (by show JL ((va_up v12494 30 0) 31) (F12495 28) (F12495 29) (F12495 27); rw [show (va_up v12494 30 0) 31 = v 31 from (hf12496 31 (by decide)).trans (hf12455 31 (by decide)), show F12495 28 = F12454 28 from (hG12497 28 (by decide)), show F12495 29 = F12454 29 from (hG12497 29 (by decide))]; exact JL.keep hL hw_r12452.2.1 (fun l _ => hI0.2 27 _ _ rfl l) ((hG12497 27 (by decide)).trans (hG12456 27 (by decide))))⟩, (by show va_P _ _ _ t.heap; rw [ht]; exact hP9)⟩, hS.F ht⟩) hS.2.2 dX12_law_87
    · skip
      have t12526 := cv_eq (a := (v 31).toInt) rfl (b := 10) (by decide) c12447
      refine lv_bipush (v := (-3)) hx hb dX12_law_18 (by decide) ?_
      have hP9 : va_P (dC, dI) classes (wM g c v F rc) H := hP
      exact W.iret (v := (-3)) hx hb hr (fun t ht hW => ⟨⟨(-3), (v, F, rc), rfl, ⟨hI, rfl, (fun _ _ => rfl), hF, hL⟩, (by show va_P _ _ _ t.heap; rw [ht]; exact hP9)⟩, hS.F ht⟩) hS.2.2 dX12_law_20
  · skip
    have t12527 := cv_eq (a := r12443.toInt) rfl (b := 0) (by decide) c12444
    refine lv_iconst (v := (-1)) hx hb dX12_law_7 (by decide) ?_
    have hP9 : va_P (dC, dI) classes (wM g c v F rc) H := hP
    exact W.iret (v := (-1)) hx hb hr (fun t ht hW => ⟨⟨(-1), (v, F, rc), rfl, ⟨hI, rfl, (fun _ _ => rfl), hF, hL⟩, (by show va_P _ _ _ t.heap; rw [ht]; exact hP9)⟩, hS.F ht⟩) hS.2.2 dX12_law_8
set_option maxHeartbeats 8000000 in
set_option maxRecDepth 100000 in
theorem c_X12_works (l : Launch) (dC : Nat → ClassId) (dI : Nat → Nat → Nat) (g : Nat → Nat) (c : Nat → ClassId) (adK adV : Nat → Nat) (v : Nat → Int32) (F : Nat → Nat → Int32) (rc sz : Nat) (p0 : Int32) (hg : injM g) (hI : IM v F) (h0 : 0 ≤ p0.toInt ∧ p0.toInt ≤ 9) (hD : ∃ D, dp (F 28) (F 29) (bI p0) (F 27 p0.toNatClampNeg).toInt.toNat = some D) : Met l yX12_works (Cond.code yX12_works cX12_works 5 (some .int) :: wA) ({ frames := 2, cells := 0, slots := 0, locals := 80 }) (va_Pc [.ref (g 0), .int p0] (PM dC dI g c adK adV v F rc sz)) (va_Qi (fun (r : Int32) (u : StM) => IM u.1 u.2.1 ∧ u.2.2 = rc ∧ (∀ k, k ∉ ([] : List Nat) → u.1 k = v k) ∧ (∀ k, k ∉ ([30] : List Nat) → u.2.1 k = F k) ∧ True) (BM dC dI g c) (AM g sz)) 0 0 (AM g sz) := by
  refine Met.ofW (cc := cX12_works) (maxL := 5) (ret := (some .int)) (by decide) rfl ?_
  intro p e s m args below meth c0 s₁ B hml hv
  obtain ⟨rfl, hsz, hP, hK, hE⟩ := hv
  have hx := B.exec
  have hb := B.bytes
  have hr := B.returns
  have hts := atoms_spec (ws := Cond.code yX12_works cX12_works 5 (some .int) :: wA) B.pre
  have hwd : ∀ w ∈ wA, w.before _ s = true := fun w h => hts w (List.mem_cons_of_mem _ h)
  have hown : s.vm.findClass RX12 = some m.cls := findClass_of_methodNamed B.named
  have hlocks := B.notSynchronized
  subst hsz
  have hl := lv_entry ([.ref (g 0), .int p0]) (n := 5) (Nat.le_of_ble_eq_true rfl)
  rw [lg_entry_eq]
  generalize (lg_sl ([.ref (g 0), .int p0]) ++ List.replicate (5 - (lg_sl ([.ref (g 0), .int p0])).length) Slot.unset).toArray = ls at hl ⊢
  have hl : lv_has ls 5 [(0, .ref (g 0)), (1, .int p0)] := hl
  obtain ⟨H, eH⟩ : ∃ z, z = s.heap := ⟨_, rfl⟩
  have hP : va_P (dC, dI) classes (wM g c v F rc) H := by rw [eH]; exact hP
  have hS : va_S (AM g s.heap.size) s.heap H [] := by rw [eH]; exact va_S.rf
  refine my_heap eH ?_
  have hF : ∀ k, k ∉ ([30] : List Nat) → F k = F k := fun _ _ => rfl
  have rp0 := i32_rng p0
  refine lv_iconst (v := 0) hx hb dX12_works_0 (by decide) ?_
  refine lv_istore_n (lv' := [(2, .int 0), (0, .ref (g 0)), (1, .int p0)]) hx hb dX12_works_1 rfl hl (by decide) rfl (fun ls hl => ?_)
  refine lv_sipush (v := 130) hx hb dX12_works_2 (by decide) ?_
  refine lv_iload_n hx hb dX12_works_5 rfl (lv_at hl 2 rfl) ?_
  refine lv_imul hx hb dX12_works_6 ?_
  refine lv_topi (fun z12688 e12689 => ?_)
  try (have t12690 := tmul e12689 (a := 130) (by decide) (b := p0.toInt) rfl (by omega))
  refine lv_istore_n (lv' := [(3, .int z12688), (2, .int 0), (0, .ref (g 0)), (1, .int p0)]) hx hb dX12_works_7 rfl hl (by decide) rfl (fun ls hl => ?_)
  have lp12691 : ∀ (n : Nat) (x3_lp12691 : Int32) (x2_lp12691 : Int32) (v_lp12691 : Nat → Int32) (F_lp12691 : Nat → Nat → Int32) (H : Heap) (locs : List Loc) (ls : Array Slot), (0 ≤ x3_lp12691.toInt) → (x3_lp12691.toInt ≤ 1300) → (0 ≤ x2_lp12691.toInt) → (x2_lp12691.toInt ≤ 120) → (dpI (F 28) (F 29) (130 * p0.toInt) x3_lp12691.toInt x2_lp12691.toInt) → (2147483648 - x3_lp12691.toInt ≤ (n : Int)) → (∀ k, k ∉ ([] : List Nat) → v_lp12691 k = v k) → IM v_lp12691 F_lp12691 → (∀ k, k ∉ ([30] : List Nat) → F_lp12691 k = F k) → va_P (dC, dI) classes (wM g c v_lp12691 F_lp12691 rc) H → va_S (AM g s.heap.size) s.heap H locs → lv_has ls 5 [(3, .int x3_lp12691), (2, .int x2_lp12691), (0, .ref (g 0)), (1, .int p0)] → W p l e (headSpec (Cond.code yX12_works cX12_works 5 (some .int) :: wA) ({ frames := 2, cells := 0, slots := 0, locals := 80 })).room s m ([.ref (g 0), .int p0] : List Value).toArray below meth c0 H locs 0 0 (MQ below (va_Qi (fun (r : Int32) (u : StM) => IM u.1 u.2.1 ∧ u.2.2 = rc ∧ (∀ k, k ∉ ([] : List Nat) → u.1 k = v k) ∧ (∀ k, k ∉ ([30] : List Nat) → u.2.1 k = F k) ∧ True) (BM dC dI g c) (AM g s.heap.size)) ([.ref (g 0), .int p0] : List Value).toArray s 0 0 (AM g s.heap.size)) (F0 m 8 ls []) := by
    intro n
    induction n with
    | zero =>
      intro x3_lp12691 x2_lp12691 v_lp12691 F_lp12691 H locs ls t12692 t12693 t12694 t12695 t12696 hm hf_lp12691 hI hF hP hS hl
      exfalso
      have := i32_rng x3_lp12691
      have := i32_rng x2_lp12691
      have hI1 := hI.1
      omega
    | succ n ih_lp12691 =>
      intro x3_lp12691 x2_lp12691 v_lp12691 F_lp12691 H locs ls t12692 t12693 t12694 t12695 t12696 hm hf_lp12691 hI hF hP hS hl
      have rx3_lp12691 := i32_rng x3_lp12691
      have rx2_lp12691 := i32_rng x2_lp12691
      have hle := dpI.le t12696
      refine lv_iload_n hx hb dX12_works_8 rfl (lv_at hl 0 rfl) ?_
      refine lv_sipush (v := 130) hx hb dX12_works_9 (by decide) ?_
      refine lv_iload_n hx hb dX12_works_12 rfl (lv_at hl 3 rfl) ?_
      refine lv_imul hx hb dX12_works_13 ?_
      refine lv_topi (fun z12697 e12698 => ?_)
      try (have t12699 := tmul e12698 (a := 130) (by decide) (b := p0.toInt) rfl (by omega))
      refine lv_aload_n hx hb dX12_works_14 rfl (lv_at hl 2 rfl) ?_
      refine va_get (D := (dC, dI)) (ci := 12) (v := .ref (g 27)) (C := RX12) (T := TX12) (N := 63) hx hb hwd inA_X12 hown hK hP 0 rfl rfl 34 (by decide) (hwd _ wk_209) (fun _ h9 => h9) rfl dX12_works_15 ?_
      refine lv_iload_n hx hb dX12_works_18 rfl (lv_at hl 3 rfl) ?_
      refine va_iald hx hb hK hP 27 26 rfl rfl (i := p0) (vin (a := p0.toInt) rfl (by omega)) dX12_works_19 ?_
      refine lv_topi (fun z12700 e12701 => ?_)
      have t12702 : 0 ≤ z12700.toInt ∧ z12700.toInt ≤ 120 := by rw [e12701]; exact hI.2 27 _ _ rfl _
      have e12701 : z12700 = F 27 (p0 : Int32).toNatClampNeg := e12701.trans (congrFun (hF 27 (by decide)) _)
      have tzz12700 : z12700.toInt = (F 27 (p0 : Int32).toNatClampNeg).toInt := congrArg Int32.toInt e12701
      refine lv_iadd hx hb dX12_works_20 ?_
      refine lv_topi (fun z12703 e12704 => ?_)
      try (have t12705 := tadd e12704 (a := z12697.toInt) rfl (b := z12700.toInt) rfl (by omega))
      refine lv_icmp_ge (tgt := 192) hx hb dX12_works_21 (by decide) (fun c12706 => ?_) (fun c12706 => ?_)
      · skip
        have t12707 := cv_le (a := z12703.toInt) rfl (b := x3_lp12691.toInt) rfl c12706
        refine lv_aload_n hx hb dX12_works_192 rfl (lv_at hl 2 rfl) ?_
        refine va_get (D := (dC, dI)) (ci := 12) (v := .ref (g 30)) (C := RX12) (T := TX12) (N := 63) hx hb hwd inA_X12 hown hK hP 0 rfl rfl 43 (by decide) (hwd _ wk_212) (fun _ h9 => h9) rfl dX12_works_193 ?_
        refine lv_iconst (v := 0) hx hb dX12_works_196 (by decide) ?_
        refine va_iald hx hb hK hP 30 29 rfl rfl (i := 0) (vin (a := 0) (by decide) (by omega)) dX12_works_197 ?_
        refine lv_topi (fun z12708 e12709 => ?_)
        have tzz12708 : z12708.toInt = (F_lp12691 30 (0 : Int32).toNatClampNeg).toInt := congrArg Int32.toInt e12709
        have hP9 : va_P (dC, dI) classes (wM g c v_lp12691 F_lp12691 rc) H := hP
        exact W.iret (v := z12708) hx hb hr (fun t ht hW => ⟨⟨z12708, (v_lp12691, F_lp12691, rc), rfl, ⟨hI, rfl, (frC (by decide) hf_lp12691 (fun _ _ => rfl)), hF, trivial⟩, (by show va_P _ _ _ t.heap; rw [ht]; exact hP9)⟩, hS.F ht⟩) hS.2.2 dX12_works_198
      · skip
        have t12710 := cv_nle (a := z12703.toInt) rfl (b := x3_lp12691.toInt) rfl c12706
        refine lv_aload_n hx hb dX12_works_24 rfl (lv_at hl 2 rfl) ?_
        refine va_get (D := (dC, dI)) (ci := 12) (v := .ref (g 28)) (C := RX12) (T := TX12) (N := 63) hx hb hwd inA_X12 hown hK hP 0 rfl rfl 35 (by decide) (hwd _ wk_210) (fun _ h9 => h9) rfl dX12_works_25 ?_
        refine lv_iload_n hx hb dX12_works_28 rfl (lv_at hl 0 rfl) ?_
        refine va_iald hx hb hK hP 28 27 rfl rfl (i := x3_lp12691) (vin (a := x3_lp12691.toInt) rfl (by omega)) dX12_works_29 ?_
        refine lv_topi (fun z12711 e12712 => ?_)
        have e12712 : z12711 = F 28 (x3_lp12691 : Int32).toNatClampNeg := e12712.trans (congrFun (hF 28 (by decide)) _)
        have tzz12711 : z12711.toInt = (F 28 (x3_lp12691 : Int32).toNatClampNeg).toInt := congrArg Int32.toInt e12712
        obtain ⟨q9, hq9, hn9⟩ := dpI.next t12696 (m := (F 27 p0.toNatClampNeg).toInt) (by omega) hD
        have hnd := dpS_need hq9
        have hq0 : (0 : Int) ≤ (q9 : Int) := Int.natCast_nonneg _
        refine lv_istore (lv' := [(4, .int z12711), (3, .int x3_lp12691), (2, .int x2_lp12691), (0, .ref (g 0)), (1, .int p0)]) hx hb dX12_works_30 hl (by decide) rfl (fun ls hl => ?_)
        refine lv_iload hx hb dX12_works_32 (lv_at hl 0 rfl) ?_
        refine lv_iconst (v := 1) hx hb dX12_works_34 (by decide) ?_
        refine lv_icmp_eq (tgt := 44) hx hb dX12_works_35 (by decide) (fun c12713 => ?_) (fun c12713 => ?_)
        · skip
          have t12714 := cv_eq (a := z12711.toInt) rfl (b := 1) (by decide) c12713
          refine lv_aload_n hx hb dX12_works_44 rfl (lv_at hl 3 rfl) ?_
          refine va_get (D := (dC, dI)) (ci := 12) (v := .ref (g 30)) (C := RX12) (T := TX12) (N := 63) hx hb hwd inA_X12 hown hK hP 0 rfl rfl 43 (by decide) (hwd _ wk_212) (fun _ h9 => h9) rfl dX12_works_45 ?_
          refine lv_iload_n hx hb dX12_works_48 rfl (lv_at hl 2 rfl) ?_
          refine lv_iload hx hb dX12_works_49 (lv_at hl 0 rfl) ?_
          refine lv_iconst (v := 1) hx hb dX12_works_51 (by decide) ?_
          refine lv_icmp_ne (tgt := 64) hx hb dX12_works_52 (by decide) (fun c12715 => ?_) (fun c12715 => ?_)
          · skip
            have t12716 := cv_ne (a := z12711.toInt) rfl (b := 1) (by decide) c12715
            refine lv_aload_n hx hb dX12_works_64 rfl (lv_at hl 3 rfl) ?_
            refine va_get (D := (dC, dI)) (ci := 12) (v := .ref (g 31)) (C := RX12) (T := TX12) (N := 63) hx hb hwd inA_X12 hown hK hP 0 rfl rfl 44 (by decide) (hwd _ wk_213) (fun _ h9 => h9) rfl dX12_works_65 ?_
            refine lv_aload_n hx hb dX12_works_68 rfl (lv_at hl 3 rfl) ?_
            refine va_get (D := (dC, dI)) (ci := 12) (v := .ref (g 29)) (C := RX12) (T := TX12) (N := 63) hx hb hwd inA_X12 hown hK hP 0 rfl rfl 36 (by decide) (hwd _ wk_211) (fun _ h9 => h9) rfl dX12_works_69 ?_
            refine lv_iload_n hx hb dX12_works_72 rfl (lv_at hl 1 rfl) ?_
            refine va_iald hx hb hK hP 29 28 rfl rfl (i := x3_lp12691) (vin (a := x3_lp12691.toInt) rfl (by omega)) dX12_works_73 ?_
            refine lv_topi (fun z12717 e12718 => ?_)
            have e12718 : z12717 = F 29 (x3_lp12691 : Int32).toNatClampNeg := e12718.trans (congrFun (hF 29 (by decide)) _)
            have tzz12717 : z12717.toInt = (F 29 (x3_lp12691 : Int32).toNatClampNeg).toInt := congrArg Int32.toInt e12718
            refine va_iald hx hb hK hP 31 30 rfl rfl (i := z12717) (vin (a := z12717.toInt) rfl (by omega)) dX12_works_74 ?_
            refine lv_topi (fun z12719 e12720 => ?_)
            have e12720 : z12719 = F 31 (z12717 : Int32).toNatClampNeg := e12720.trans (congrFun (hF 31 (by decide)) _)
            have tzz12719 : z12719.toInt = (F 31 (z12717 : Int32).toNatClampNeg).toInt := congrArg Int32.toInt e12720
            refine va_iast hx hb hK hP (DM hg) hS 30 29 rfl rfl (i := x2_lp12691) (x := z12719) (vin (a := x2_lp12691.toInt) rfl (by omega)) dX12_works_75 (fun H locs hP _ hS => ?_)
            have hP := va_P_eq (sM_30 g c _ _ _ _) hP
            have hI := IM.store0 hI 30 (x2_lp12691 : Int32).toNatClampNeg z12719 rfl
            have hF := frUF (k := 30) (f := upd (F_lp12691 30) (x2_lp12691 : Int32).toNatClampNeg z12719) (by decide) hF
            have st12722 : (va_up F_lp12691 30 (upd (F_lp12691 30) (x2_lp12691 : Int32).toNatClampNeg z12719)) 30 = upd (F_lp12691 30) (x2_lp12691 : Int32).toNatClampNeg z12719 := va_up_self _ _ _
            have sn12723 : ∀ k9, k9 ≠ 30 → (va_up F_lp12691 30 (upd (F_lp12691 30) (x2_lp12691 : Int32).toNatClampNeg z12719)) k9 = F_lp12691 k9 := fun k9 h9 => va_up_ne _ _ h9
            have hP : va_P (dC, dI) classes (wM g c v_lp12691 (va_up F_lp12691 30 (upd (F_lp12691 30) (x2_lp12691 : Int32).toNatClampNeg z12719)) rc) H := hP
            generalize (va_up F_lp12691 30 (upd (F_lp12691 30) (x2_lp12691 : Int32).toNatClampNeg z12719)) = F12721 at hP hI hF st12722 sn12723
            obtain ⟨z12724, e12725⟩ : ∃ y : Int32, y = x2_lp12691 + 1 := ⟨_, rfl⟩
            try (have t12726 := tadd e12725 rfl (b := 1) (by decide) (by omega))
            refine lv_iinc (v := z12724) (lv' := [(2, .int z12724), (4, .int z12711), (3, .int x3_lp12691), (0, .ref (g 0)), (1, .int p0)]) hx hb dX12_works_76 hl (k := 2) rfl (by rw [e12725]; rfl) (by decide) rfl (fun ls hl => ?_)
            refine lv_goto (tgt := 186) hx hb dX12_works_79 (by decide) ?_
            obtain ⟨z12727, e12728⟩ : ∃ y : Int32, y = x3_lp12691 + 1 := ⟨_, rfl⟩
            try (have t12729 := tadd e12728 rfl (b := 1) (by decide) (by omega))
            refine lv_iinc (v := z12727) (lv' := [(3, .int z12727), (2, .int z12724), (4, .int z12711), (0, .ref (g 0)), (1, .int p0)]) hx hb dX12_works_186 hl (k := 2) rfl (by rw [e12728]; rfl) (by decide) rfl (fun ls hl => ?_)
            refine lv_goto (tgt := 8) hx hb dX12_works_189 (by decide) ?_
            exact ih_lp12691 z12727 z12724 v_lp12691 F12721 _ _ _ (by omega) (by omega) (by omega) (by omega) (dpI.to hn9 (by omega) (by omega)) (by omega) hf_lp12691 hI hF hP hS (lv_sub hl [0, 1, 3, 4] rfl)
          · skip
            have t12730 := cv_eq (a := z12711.toInt) rfl (b := 1) (by decide) c12715
            refine lv_aload_n hx hb dX12_works_55 rfl (lv_at hl 3 rfl) ?_
            refine va_get (D := (dC, dI)) (ci := 12) (v := .ref (g 29)) (C := RX12) (T := TX12) (N := 63) hx hb hwd inA_X12 hown hK hP 0 rfl rfl 36 (by decide) (hwd _ wk_211) (fun _ h9 => h9) rfl dX12_works_56 ?_
            refine lv_iload_n hx hb dX12_works_59 rfl (lv_at hl 1 rfl) ?_
            refine va_iald hx hb hK hP 29 28 rfl rfl (i := x3_lp12691) (vin (a := x3_lp12691.toInt) rfl (by omega)) dX12_works_60 ?_
            refine lv_topi (fun z12731 e12732 => ?_)
            have e12732 : z12731 = F 29 (x3_lp12691 : Int32).toNatClampNeg := e12732.trans (congrFun (hF 29 (by decide)) _)
            have tzz12731 : z12731.toInt = (F 29 (x3_lp12691 : Int32).toNatClampNeg).toInt := congrArg Int32.toInt e12732
            refine lv_goto (tgt := 75) hx hb dX12_works_61 (by decide) ?_
            refine va_iast hx hb hK hP (DM hg) hS 30 29 rfl rfl (i := x2_lp12691) (x := z12731) (vin (a := x2_lp12691.toInt) rfl (by omega)) dX12_works_75 (fun H locs hP _ hS => ?_)
            have hP := va_P_eq (sM_30 g c _ _ _ _) hP
            have hI := IM.store0 hI 30 (x2_lp12691 : Int32).toNatClampNeg z12731 rfl
            have hF := frUF (k := 30) (f := upd (F_lp12691 30) (x2_lp12691 : Int32).toNatClampNeg z12731) (by decide) hF
            have st12734 : (va_up F_lp12691 30 (upd (F_lp12691 30) (x2_lp12691 : Int32).toNatClampNeg z12731)) 30 = upd (F_lp12691 30) (x2_lp12691 : Int32).toNatClampNeg z12731 := va_up_self _ _ _
            have sn12735 : ∀ k9, k9 ≠ 30 → (va_up F_lp12691 30 (upd (F_lp12691 30) (x2_lp12691 : Int32).toNatClampNeg z12731)) k9 = F_lp12691 k9 := fun k9 h9 => va_up_ne _ _ h9
            have hP : va_P (dC, dI) classes (wM g c v_lp12691 (va_up F_lp12691 30 (upd (F_lp12691 30) (x2_lp12691 : Int32).toNatClampNeg z12731)) rc) H := hP
            generalize (va_up F_lp12691 30 (upd (F_lp12691 30) (x2_lp12691 : Int32).toNatClampNeg z12731)) = F12733 at hP hI hF st12734 sn12735
            obtain ⟨z12736, e12737⟩ : ∃ y : Int32, y = x2_lp12691 + 1 := ⟨_, rfl⟩
            try (have t12738 := tadd e12737 rfl (b := 1) (by decide) (by omega))
            refine lv_iinc (v := z12736) (lv' := [(2, .int z12736), (4, .int z12711), (3, .int x3_lp12691), (0, .ref (g 0)), (1, .int p0)]) hx hb dX12_works_76 hl (k := 2) rfl (by rw [e12737]; rfl) (by decide) rfl (fun ls hl => ?_)
            refine lv_goto (tgt := 186) hx hb dX12_works_79 (by decide) ?_
            obtain ⟨z12739, e12740⟩ : ∃ y : Int32, y = x3_lp12691 + 1 := ⟨_, rfl⟩
            try (have t12741 := tadd e12740 rfl (b := 1) (by decide) (by omega))
            refine lv_iinc (v := z12739) (lv' := [(3, .int z12739), (2, .int z12736), (4, .int z12711), (0, .ref (g 0)), (1, .int p0)]) hx hb dX12_works_186 hl (k := 2) rfl (by rw [e12740]; rfl) (by decide) rfl (fun ls hl => ?_)
            refine lv_goto (tgt := 8) hx hb dX12_works_189 (by decide) ?_
            exact ih_lp12691 z12739 z12736 v_lp12691 F12733 _ _ _ (by omega) (by omega) (by omega) (by omega) (dpI.to hn9 (by omega) (by omega)) (by omega) hf_lp12691 hI hF hP hS (lv_sub hl [0, 1, 3, 4] rfl)
        · skip
          have t12742 := cv_ne (a := z12711.toInt) rfl (b := 1) (by decide) c12713
          refine lv_iload hx hb dX12_works_38 (lv_at hl 0 rfl) ?_
          refine lv_iconst (v := 2) hx hb dX12_works_40 (by decide) ?_
          refine lv_icmp_ne (tgt := 82) hx hb dX12_works_41 (by decide) (fun c12743 => ?_) (fun c12743 => ?_)
          · skip
            have t12744 := cv_ne (a := z12711.toInt) rfl (b := 2) (by decide) c12743
            refine lv_iload hx hb dX12_works_82 (lv_at hl 0 rfl) ?_
            refine lv_iconst (v := 3) hx hb dX12_works_84 (by decide) ?_
            refine lv_icmp_ne (tgt := 108) hx hb dX12_works_85 (by decide) (fun c12745 => ?_) (fun c12745 => ?_)
            · skip
              have t12746 := cv_ne (a := z12711.toInt) rfl (b := 3) (by decide) c12745
              refine lv_iload hx hb dX12_works_108 (lv_at hl 0 rfl) ?_
              refine lv_iconst (v := 4) hx hb dX12_works_110 (by decide) ?_
              refine lv_icmp_ne (tgt := 156) hx hb dX12_works_111 (by decide) (fun c12747 => ?_) (fun c12747 => ?_)
              · skip
                have t12748 := cv_ne (a := z12711.toInt) rfl (b := 4) (by decide) c12747
                obtain ⟨z12749, e12750⟩ : ∃ y : Int32, y = x2_lp12691 + (-1) := ⟨_, rfl⟩
                try (have t12751 := tadd e12750 rfl (b := (-1)) (by decide) (by omega))
                refine lv_iinc (v := z12749) (lv' := [(2, .int z12749), (4, .int z12711), (3, .int x3_lp12691), (0, .ref (g 0)), (1, .int p0)]) hx hb dX12_works_156 hl (k := 2) rfl (by rw [e12750]; rfl) (by decide) rfl (fun ls hl => ?_)
                refine lv_aload_n hx hb dX12_works_159 rfl (lv_at hl 3 rfl) ?_
                refine va_get (D := (dC, dI)) (ci := 12) (v := .ref (g 30)) (C := RX12) (T := TX12) (N := 63) hx hb hwd inA_X12 hown hK hP 0 rfl rfl 43 (by decide) (hwd _ wk_212) (fun _ h9 => h9) rfl dX12_works_160 ?_
                refine lv_iload_n hx hb dX12_works_163 rfl (lv_at hl 0 rfl) ?_
                refine lv_iconst (v := 1) hx hb dX12_works_164 (by decide) ?_
                refine lv_isub hx hb dX12_works_165 ?_
                refine lv_topi (fun z12752 e12753 => ?_)
                try (have t12754 := tsub e12753 (a := z12749.toInt) rfl (b := 1) (by decide) (by omega))
                refine lv_iload hx hb dX12_works_166 (lv_at hl 1 rfl) ?_
                refine lv_aload_n hx hb dX12_works_168 rfl (lv_at hl 3 rfl) ?_
                refine va_get (D := (dC, dI)) (ci := 12) (v := .ref (g 30)) (C := RX12) (T := TX12) (N := 63) hx hb hwd inA_X12 hown hK hP 0 rfl rfl 43 (by decide) (hwd _ wk_212) (fun _ h9 => h9) rfl dX12_works_169 ?_
                refine lv_iload_n hx hb dX12_works_172 rfl (lv_at hl 0 rfl) ?_
                refine lv_iconst (v := 1) hx hb dX12_works_173 (by decide) ?_
                refine lv_isub hx hb dX12_works_174 ?_
                refine lv_topi (fun z12755 e12756 => ?_)
                try (have t12757 := tsub e12756 (a := z12749.toInt) rfl (b := 1) (by decide) (by omega))
                refine va_iald hx hb hK hP 30 29 rfl rfl (i := z12755) (vin (a := z12755.toInt) rfl (by omega)) dX12_works_175 ?_
                refine lv_topi (fun z12758 e12759 => ?_)
                have tzz12758 : z12758.toInt = (F_lp12691 30 (z12755 : Int32).toNatClampNeg).toInt := congrArg Int32.toInt e12759
                refine lv_aload_n hx hb dX12_works_176 rfl (lv_at hl 3 rfl) ?_
                refine va_get (D := (dC, dI)) (ci := 12) (v := .ref (g 30)) (C := RX12) (T := TX12) (N := 63) hx hb hwd inA_X12 hown hK hP 0 rfl rfl 43 (by decide) (hwd _ wk_212) (fun _ h9 => h9) rfl dX12_works_177 ?_
                refine lv_iload_n hx hb dX12_works_180 rfl (lv_at hl 0 rfl) ?_
                refine va_iald hx hb hK hP 30 29 rfl rfl (i := z12749) (vin (a := z12749.toInt) rfl (by omega)) dX12_works_181 ?_
                refine lv_topi (fun z12760 e12761 => ?_)
                have tzz12760 : z12760.toInt = (F_lp12691 30 (z12749 : Int32).toNatClampNeg).toInt := congrArg Int32.toInt e12761
                refine va_calli (va_runS (As := [.int z12711, .int z12758, .int z12760]) (rest := [.int z12752, .ref (g 30)]) ⟨hx, hb, hml, hown, hwd⟩ (c_X12_both l dC dI g c adK adV v_lp12691 F_lp12691 rc H.size z12711 z12758 z12760 hg hI ) (va_cwS 3 hwd (gT wk_516 wk_514 wk_515 wk_5) rfl rfl rfl (by decide +kernel) ⟨Nat.le_of_ble_eq_true rfl, Nat.le_of_ble_eq_true rfl⟩) ⟨PM.blind, fun U hU hW => ⟨rfl, PM.at hK hE hP hS hU hW⟩⟩ rfl rfl hl.1 rfl (lv_room (Nat.le_of_ble_eq_true rfl)) dX12_works_182 ⟨Nat.le_of_ble_eq_true rfl, Nat.le_of_ble_eq_true rfl⟩) hS (fun q _ h => (freeM hS) q h) (freeM hS) (fun r12762 u t H1 locs ht hvm hw hB hz1 hk1 hS => ?_)
                unfold BM at hB
                rw [ht] at hB
                have hP : va_P (dC, dI) classes (wM g c v_lp12691 F_lp12691 rc) H1 := hB
                clear hz1
                generalize H1 = H at hP hS ⊢
                have rr_r12762 := i32_rng r12762
                refine va_iast hx hb hK hP (DM hg) hS 30 29 rfl rfl (i := z12752) (x := r12762) (vin (a := z12752.toInt) rfl (by omega)) dX12_works_185 (fun H locs hP _ hS => ?_)
                have hP := va_P_eq (sM_30 g c _ _ _ _) hP
                have hI := IM.store0 hI 30 (z12752 : Int32).toNatClampNeg r12762 rfl
                have hF := frUF (k := 30) (f := upd (F_lp12691 30) (z12752 : Int32).toNatClampNeg r12762) (by decide) hF
                have st12764 : (va_up F_lp12691 30 (upd (F_lp12691 30) (z12752 : Int32).toNatClampNeg r12762)) 30 = upd (F_lp12691 30) (z12752 : Int32).toNatClampNeg r12762 := va_up_self _ _ _
                have sn12765 : ∀ k9, k9 ≠ 30 → (va_up F_lp12691 30 (upd (F_lp12691 30) (z12752 : Int32).toNatClampNeg r12762)) k9 = F_lp12691 k9 := fun k9 h9 => va_up_ne _ _ h9
                have hP : va_P (dC, dI) classes (wM g c v_lp12691 (va_up F_lp12691 30 (upd (F_lp12691 30) (z12752 : Int32).toNatClampNeg r12762)) rc) H := hP
                generalize (va_up F_lp12691 30 (upd (F_lp12691 30) (z12752 : Int32).toNatClampNeg r12762)) = F12763 at hP hI hF st12764 sn12765
                obtain ⟨z12766, e12767⟩ : ∃ y : Int32, y = x3_lp12691 + 1 := ⟨_, rfl⟩
                try (have t12768 := tadd e12767 rfl (b := 1) (by decide) (by omega))
                refine lv_iinc (v := z12766) (lv' := [(3, .int z12766), (2, .int z12749), (4, .int z12711), (0, .ref (g 0)), (1, .int p0)]) hx hb dX12_works_186 hl (k := 2) rfl (by rw [e12767]; rfl) (by decide) rfl (fun ls hl => ?_)
                refine lv_goto (tgt := 8) hx hb dX12_works_189 (by decide) ?_
                exact ih_lp12691 z12766 z12749 v_lp12691 F12763 _ _ _ (by omega) (by omega) (by omega) (by omega) (dpI.to hn9 (by omega) (by omega)) (by omega) hf_lp12691 hI hF hP hS (lv_sub hl [0, 1, 3, 4] rfl)
              · skip
                have t12769 := cv_eq (a := z12711.toInt) rfl (b := 4) (by decide) c12747
                obtain ⟨z12770, e12771⟩ : ∃ y : Int32, y = x2_lp12691 + (-2) := ⟨_, rfl⟩
                try (have t12772 := tadd e12771 rfl (b := (-2)) (by decide) (by omega))
                refine lv_iinc (v := z12770) (lv' := [(2, .int z12770), (4, .int z12711), (3, .int x3_lp12691), (0, .ref (g 0)), (1, .int p0)]) hx hb dX12_works_114 hl (k := 2) rfl (by rw [e12771]; rfl) (by decide) rfl (fun ls hl => ?_)
                refine lv_aload_n hx hb dX12_works_117 rfl (lv_at hl 3 rfl) ?_
                refine va_get (D := (dC, dI)) (ci := 12) (v := .ref (g 30)) (C := RX12) (T := TX12) (N := 63) hx hb hwd inA_X12 hown hK hP 0 rfl rfl 43 (by decide) (hwd _ wk_212) (fun _ h9 => h9) rfl dX12_works_118 ?_
                refine lv_iload_n hx hb dX12_works_121 rfl (lv_at hl 0 rfl) ?_
                refine lv_iconst (v := 1) hx hb dX12_works_122 (by decide) ?_
                refine lv_isub hx hb dX12_works_123 ?_
                refine lv_topi (fun z12773 e12774 => ?_)
                try (have t12775 := tsub e12774 (a := z12770.toInt) rfl (b := 1) (by decide) (by omega))
                refine lv_aload_n hx hb dX12_works_124 rfl (lv_at hl 3 rfl) ?_
                refine va_get (D := (dC, dI)) (ci := 12) (v := .ref (g 30)) (C := RX12) (T := TX12) (N := 63) hx hb hwd inA_X12 hown hK hP 0 rfl rfl 43 (by decide) (hwd _ wk_212) (fun _ h9 => h9) rfl dX12_works_125 ?_
                refine lv_iload_n hx hb dX12_works_128 rfl (lv_at hl 0 rfl) ?_
                refine lv_iconst (v := 1) hx hb dX12_works_129 (by decide) ?_
                refine lv_isub hx hb dX12_works_130 ?_
                refine lv_topi (fun z12776 e12777 => ?_)
                try (have t12778 := tsub e12777 (a := z12770.toInt) rfl (b := 1) (by decide) (by omega))
                refine va_iald hx hb hK hP 30 29 rfl rfl (i := z12776) (vin (a := z12776.toInt) rfl (by omega)) dX12_works_131 ?_
                refine lv_topi (fun z12779 e12780 => ?_)
                have tzz12779 : z12779.toInt = (F_lp12691 30 (z12776 : Int32).toNatClampNeg).toInt := congrArg Int32.toInt e12780
                refine lv_if_eq (tgt := 144) hx hb dX12_works_132 (by decide) (fun c12781 => ?_) (fun c12781 => ?_)
                · skip
                  have t12782 := cv_eq (a := z12779.toInt) rfl (b := 0) (by decide) c12781
                  refine lv_aload_n hx hb dX12_works_144 rfl (lv_at hl 3 rfl) ?_
                  refine va_get (D := (dC, dI)) (ci := 12) (v := .ref (g 30)) (C := RX12) (T := TX12) (N := 63) hx hb hwd inA_X12 hown hK hP 0 rfl rfl 43 (by decide) (hwd _ wk_212) (fun _ h9 => h9) rfl dX12_works_145 ?_
                  refine lv_iload_n hx hb dX12_works_148 rfl (lv_at hl 0 rfl) ?_
                  refine lv_iconst (v := 1) hx hb dX12_works_149 (by decide) ?_
                  refine lv_iadd hx hb dX12_works_150 ?_
                  refine lv_topi (fun z12783 e12784 => ?_)
                  try (have t12785 := tadd e12784 (a := z12770.toInt) rfl (b := 1) (by decide) (by omega))
                  refine va_iald hx hb hK hP 30 29 rfl rfl (i := z12783) (vin (a := z12783.toInt) rfl (by omega)) dX12_works_151 ?_
                  refine lv_topi (fun z12786 e12787 => ?_)
                  have tzz12786 : z12786.toInt = (F_lp12691 30 (z12783 : Int32).toNatClampNeg).toInt := congrArg Int32.toInt e12787
                  refine va_iast hx hb hK hP (DM hg) hS 30 29 rfl rfl (i := z12773) (x := z12786) (vin (a := z12773.toInt) rfl (by omega)) dX12_works_152 (fun H locs hP _ hS => ?_)
                  have hP := va_P_eq (sM_30 g c _ _ _ _) hP
                  have hI := IM.store0 hI 30 (z12773 : Int32).toNatClampNeg z12786 rfl
                  have hF := frUF (k := 30) (f := upd (F_lp12691 30) (z12773 : Int32).toNatClampNeg z12786) (by decide) hF
                  have st12789 : (va_up F_lp12691 30 (upd (F_lp12691 30) (z12773 : Int32).toNatClampNeg z12786)) 30 = upd (F_lp12691 30) (z12773 : Int32).toNatClampNeg z12786 := va_up_self _ _ _
                  have sn12790 : ∀ k9, k9 ≠ 30 → (va_up F_lp12691 30 (upd (F_lp12691 30) (z12773 : Int32).toNatClampNeg z12786)) k9 = F_lp12691 k9 := fun k9 h9 => va_up_ne _ _ h9
                  have hP : va_P (dC, dI) classes (wM g c v_lp12691 (va_up F_lp12691 30 (upd (F_lp12691 30) (z12773 : Int32).toNatClampNeg z12786)) rc) H := hP
                  generalize (va_up F_lp12691 30 (upd (F_lp12691 30) (z12773 : Int32).toNatClampNeg z12786)) = F12788 at hP hI hF st12789 sn12790
                  refine lv_goto (tgt := 186) hx hb dX12_works_153 (by decide) ?_
                  obtain ⟨z12791, e12792⟩ : ∃ y : Int32, y = x3_lp12691 + 1 := ⟨_, rfl⟩
                  try (have t12793 := tadd e12792 rfl (b := 1) (by decide) (by omega))
                  refine lv_iinc (v := z12791) (lv' := [(3, .int z12791), (2, .int z12770), (4, .int z12711), (0, .ref (g 0)), (1, .int p0)]) hx hb dX12_works_186 hl (k := 2) rfl (by rw [e12792]; rfl) (by decide) rfl (fun ls hl => ?_)
                  refine lv_goto (tgt := 8) hx hb dX12_works_189 (by decide) ?_
                  exact ih_lp12691 z12791 z12770 v_lp12691 F12788 _ _ _ (by omega) (by omega) (by omega) (by omega) (dpI.to hn9 (by omega) (by omega)) (by omega) hf_lp12691 hI hF hP hS (lv_sub hl [0, 1, 3, 4] rfl)
                · skip
                  have t12794 := cv_ne (a := z12779.toInt) rfl (b := 0) (by decide) c12781
                  refine lv_aload_n hx hb dX12_works_135 rfl (lv_at hl 3 rfl) ?_
                  refine va_get (D := (dC, dI)) (ci := 12) (v := .ref (g 30)) (C := RX12) (T := TX12) (N := 63) hx hb hwd inA_X12 hown hK hP 0 rfl rfl 43 (by decide) (hwd _ wk_212) (fun _ h9 => h9) rfl dX12_works_136 ?_
                  refine lv_iload_n hx hb dX12_works_139 rfl (lv_at hl 0 rfl) ?_
                  refine va_iald hx hb hK hP 30 29 rfl rfl (i := z12770) (vin (a := z12770.toInt) rfl (by omega)) dX12_works_140 ?_
                  refine lv_topi (fun z12795 e12796 => ?_)
                  have tzz12795 : z12795.toInt = (F_lp12691 30 (z12770 : Int32).toNatClampNeg).toInt := congrArg Int32.toInt e12796
                  refine lv_goto (tgt := 152) hx hb dX12_works_141 (by decide) ?_
                  refine va_iast hx hb hK hP (DM hg) hS 30 29 rfl rfl (i := z12773) (x := z12795) (vin (a := z12773.toInt) rfl (by omega)) dX12_works_152 (fun H locs hP _ hS => ?_)
                  have hP := va_P_eq (sM_30 g c _ _ _ _) hP
                  have hI := IM.store0 hI 30 (z12773 : Int32).toNatClampNeg z12795 rfl
                  have hF := frUF (k := 30) (f := upd (F_lp12691 30) (z12773 : Int32).toNatClampNeg z12795) (by decide) hF
                  have st12798 : (va_up F_lp12691 30 (upd (F_lp12691 30) (z12773 : Int32).toNatClampNeg z12795)) 30 = upd (F_lp12691 30) (z12773 : Int32).toNatClampNeg z12795 := va_up_self _ _ _
                  have sn12799 : ∀ k9, k9 ≠ 30 → (va_up F_lp12691 30 (upd (F_lp12691 30) (z12773 : Int32).toNatClampNeg z12795)) k9 = F_lp12691 k9 := fun k9 h9 => va_up_ne _ _ h9
                  have hP : va_P (dC, dI) classes (wM g c v_lp12691 (va_up F_lp12691 30 (upd (F_lp12691 30) (z12773 : Int32).toNatClampNeg z12795)) rc) H := hP
                  generalize (va_up F_lp12691 30 (upd (F_lp12691 30) (z12773 : Int32).toNatClampNeg z12795)) = F12797 at hP hI hF st12798 sn12799
                  refine lv_goto (tgt := 186) hx hb dX12_works_153 (by decide) ?_
                  obtain ⟨z12800, e12801⟩ : ∃ y : Int32, y = x3_lp12691 + 1 := ⟨_, rfl⟩
                  try (have t12802 := tadd e12801 rfl (b := 1) (by decide) (by omega))
                  refine lv_iinc (v := z12800) (lv' := [(3, .int z12800), (2, .int z12770), (4, .int z12711), (0, .ref (g 0)), (1, .int p0)]) hx hb dX12_works_186 hl (k := 2) rfl (by rw [e12801]; rfl) (by decide) rfl (fun ls hl => ?_)
                  refine lv_goto (tgt := 8) hx hb dX12_works_189 (by decide) ?_
                  exact ih_lp12691 z12800 z12770 v_lp12691 F12797 _ _ _ (by omega) (by omega) (by omega) (by omega) (dpI.to hn9 (by omega) (by omega)) (by omega) hf_lp12691 hI hF hP hS (lv_sub hl [0, 1, 3, 4] rfl)
            · skip
              have t12803 := cv_eq (a := z12711.toInt) rfl (b := 3) (by decide) c12745
              refine lv_aload_n hx hb dX12_works_88 rfl (lv_at hl 3 rfl) ?_
              refine va_get (D := (dC, dI)) (ci := 12) (v := .ref (g 30)) (C := RX12) (T := TX12) (N := 63) hx hb hwd inA_X12 hown hK hP 0 rfl rfl 43 (by decide) (hwd _ wk_212) (fun _ h9 => h9) rfl dX12_works_89 ?_
              refine lv_iload_n hx hb dX12_works_92 rfl (lv_at hl 2 rfl) ?_
              refine lv_iconst (v := 1) hx hb dX12_works_93 (by decide) ?_
              refine lv_isub hx hb dX12_works_94 ?_
              refine lv_topi (fun z12804 e12805 => ?_)
              try (have t12806 := tsub e12805 (a := x2_lp12691.toInt) rfl (b := 1) (by decide) (by omega))
              refine lv_aload_n hx hb dX12_works_95 rfl (lv_at hl 3 rfl) ?_
              refine va_get (D := (dC, dI)) (ci := 12) (v := .ref (g 30)) (C := RX12) (T := TX12) (N := 63) hx hb hwd inA_X12 hown hK hP 0 rfl rfl 43 (by decide) (hwd _ wk_212) (fun _ h9 => h9) rfl dX12_works_96 ?_
              refine lv_iload_n hx hb dX12_works_99 rfl (lv_at hl 2 rfl) ?_
              refine lv_iconst (v := 1) hx hb dX12_works_100 (by decide) ?_
              refine lv_isub hx hb dX12_works_101 ?_
              refine lv_topi (fun z12807 e12808 => ?_)
              try (have t12809 := tsub e12808 (a := x2_lp12691.toInt) rfl (b := 1) (by decide) (by omega))
              refine va_iald hx hb hK hP 30 29 rfl rfl (i := z12807) (vin (a := z12807.toInt) rfl (by omega)) dX12_works_102 ?_
              refine lv_topi (fun z12810 e12811 => ?_)
              have tzz12810 : z12810.toInt = (F_lp12691 30 (z12807 : Int32).toNatClampNeg).toInt := congrArg Int32.toInt e12811
              refine lv_ineg hx hb dX12_works_103 ?_
              refine lv_topi (fun z12812 e12813 => ?_)
              refine va_iast hx hb hK hP (DM hg) hS 30 29 rfl rfl (i := z12804) (x := z12812) (vin (a := z12804.toInt) rfl (by omega)) dX12_works_104 (fun H locs hP _ hS => ?_)
              have hP := va_P_eq (sM_30 g c _ _ _ _) hP
              have hI := IM.store0 hI 30 (z12804 : Int32).toNatClampNeg z12812 rfl
              have hF := frUF (k := 30) (f := upd (F_lp12691 30) (z12804 : Int32).toNatClampNeg z12812) (by decide) hF
              have st12815 : (va_up F_lp12691 30 (upd (F_lp12691 30) (z12804 : Int32).toNatClampNeg z12812)) 30 = upd (F_lp12691 30) (z12804 : Int32).toNatClampNeg z12812 := va_up_self _ _ _
              have sn12816 : ∀ k9, k9 ≠ 30 → (va_up F_lp12691 30 (upd (F_lp12691 30) (z12804 : Int32).toNatClampNeg z12812)) k9 = F_lp12691 k9 := fun k9 h9 => va_up_ne _ _ h9
              have hP : va_P (dC, dI) classes (wM g c v_lp12691 (va_up F_lp12691 30 (upd (F_lp12691 30) (z12804 : Int32).toNatClampNeg z12812)) rc) H := hP
              generalize (va_up F_lp12691 30 (upd (F_lp12691 30) (z12804 : Int32).toNatClampNeg z12812)) = F12814 at hP hI hF st12815 sn12816
              refine lv_goto (tgt := 186) hx hb dX12_works_105 (by decide) ?_
              obtain ⟨z12817, e12818⟩ : ∃ y : Int32, y = x3_lp12691 + 1 := ⟨_, rfl⟩
              try (have t12819 := tadd e12818 rfl (b := 1) (by decide) (by omega))
              refine lv_iinc (v := z12817) (lv' := [(3, .int z12817), (4, .int z12711), (2, .int x2_lp12691), (0, .ref (g 0)), (1, .int p0)]) hx hb dX12_works_186 hl (k := 1) rfl (by rw [e12818]; rfl) (by decide) rfl (fun ls hl => ?_)
              refine lv_goto (tgt := 8) hx hb dX12_works_189 (by decide) ?_
              exact ih_lp12691 z12817 x2_lp12691 v_lp12691 F12814 _ _ _ (by omega) (by omega) (by omega) (by omega) (dpI.to hn9 (by omega) (by omega)) (by omega) hf_lp12691 hI hF hP hS (lv_sub hl [0, 2, 3, 4] rfl)
          · skip
            have t12820 := cv_eq (a := z12711.toInt) rfl (b := 2) (by decide) c12743
            refine lv_aload_n hx hb dX12_works_44 rfl (lv_at hl 3 rfl) ?_
            refine va_get (D := (dC, dI)) (ci := 12) (v := .ref (g 30)) (C := RX12) (T := TX12) (N := 63) hx hb hwd inA_X12 hown hK hP 0 rfl rfl 43 (by decide) (hwd _ wk_212) (fun _ h9 => h9) rfl dX12_works_45 ?_
            refine lv_iload_n hx hb dX12_works_48 rfl (lv_at hl 2 rfl) ?_
            refine lv_iload hx hb dX12_works_49 (lv_at hl 0 rfl) ?_
            refine lv_iconst (v := 1) hx hb dX12_works_51 (by decide) ?_
            refine lv_icmp_ne (tgt := 64) hx hb dX12_works_52 (by decide) (fun c12821 => ?_) (fun c12821 => ?_)
            · skip
              have t12822 := cv_ne (a := z12711.toInt) rfl (b := 1) (by decide) c12821
              refine lv_aload_n hx hb dX12_works_64 rfl (lv_at hl 3 rfl) ?_
              refine va_get (D := (dC, dI)) (ci := 12) (v := .ref (g 31)) (C := RX12) (T := TX12) (N := 63) hx hb hwd inA_X12 hown hK hP 0 rfl rfl 44 (by decide) (hwd _ wk_213) (fun _ h9 => h9) rfl dX12_works_65 ?_
              refine lv_aload_n hx hb dX12_works_68 rfl (lv_at hl 3 rfl) ?_
              refine va_get (D := (dC, dI)) (ci := 12) (v := .ref (g 29)) (C := RX12) (T := TX12) (N := 63) hx hb hwd inA_X12 hown hK hP 0 rfl rfl 36 (by decide) (hwd _ wk_211) (fun _ h9 => h9) rfl dX12_works_69 ?_
              refine lv_iload_n hx hb dX12_works_72 rfl (lv_at hl 1 rfl) ?_
              refine va_iald hx hb hK hP 29 28 rfl rfl (i := x3_lp12691) (vin (a := x3_lp12691.toInt) rfl (by omega)) dX12_works_73 ?_
              refine lv_topi (fun z12823 e12824 => ?_)
              have e12824 : z12823 = F 29 (x3_lp12691 : Int32).toNatClampNeg := e12824.trans (congrFun (hF 29 (by decide)) _)
              have tzz12823 : z12823.toInt = (F 29 (x3_lp12691 : Int32).toNatClampNeg).toInt := congrArg Int32.toInt e12824
              refine va_iald hx hb hK hP 31 30 rfl rfl (i := z12823) (vin (a := z12823.toInt) rfl (by omega)) dX12_works_74 ?_
              refine lv_topi (fun z12825 e12826 => ?_)
              have e12826 : z12825 = F 31 (z12823 : Int32).toNatClampNeg := e12826.trans (congrFun (hF 31 (by decide)) _)
              have tzz12825 : z12825.toInt = (F 31 (z12823 : Int32).toNatClampNeg).toInt := congrArg Int32.toInt e12826
              refine va_iast hx hb hK hP (DM hg) hS 30 29 rfl rfl (i := x2_lp12691) (x := z12825) (vin (a := x2_lp12691.toInt) rfl (by omega)) dX12_works_75 (fun H locs hP _ hS => ?_)
              have hP := va_P_eq (sM_30 g c _ _ _ _) hP
              have hI := IM.store0 hI 30 (x2_lp12691 : Int32).toNatClampNeg z12825 rfl
              have hF := frUF (k := 30) (f := upd (F_lp12691 30) (x2_lp12691 : Int32).toNatClampNeg z12825) (by decide) hF
              have st12828 : (va_up F_lp12691 30 (upd (F_lp12691 30) (x2_lp12691 : Int32).toNatClampNeg z12825)) 30 = upd (F_lp12691 30) (x2_lp12691 : Int32).toNatClampNeg z12825 := va_up_self _ _ _
              have sn12829 : ∀ k9, k9 ≠ 30 → (va_up F_lp12691 30 (upd (F_lp12691 30) (x2_lp12691 : Int32).toNatClampNeg z12825)) k9 = F_lp12691 k9 := fun k9 h9 => va_up_ne _ _ h9
              have hP : va_P (dC, dI) classes (wM g c v_lp12691 (va_up F_lp12691 30 (upd (F_lp12691 30) (x2_lp12691 : Int32).toNatClampNeg z12825)) rc) H := hP
              generalize (va_up F_lp12691 30 (upd (F_lp12691 30) (x2_lp12691 : Int32).toNatClampNeg z12825)) = F12827 at hP hI hF st12828 sn12829
              obtain ⟨z12830, e12831⟩ : ∃ y : Int32, y = x2_lp12691 + 1 := ⟨_, rfl⟩
              try (have t12832 := tadd e12831 rfl (b := 1) (by decide) (by omega))
              refine lv_iinc (v := z12830) (lv' := [(2, .int z12830), (4, .int z12711), (3, .int x3_lp12691), (0, .ref (g 0)), (1, .int p0)]) hx hb dX12_works_76 hl (k := 2) rfl (by rw [e12831]; rfl) (by decide) rfl (fun ls hl => ?_)
              refine lv_goto (tgt := 186) hx hb dX12_works_79 (by decide) ?_
              obtain ⟨z12833, e12834⟩ : ∃ y : Int32, y = x3_lp12691 + 1 := ⟨_, rfl⟩
              try (have t12835 := tadd e12834 rfl (b := 1) (by decide) (by omega))
              refine lv_iinc (v := z12833) (lv' := [(3, .int z12833), (2, .int z12830), (4, .int z12711), (0, .ref (g 0)), (1, .int p0)]) hx hb dX12_works_186 hl (k := 2) rfl (by rw [e12834]; rfl) (by decide) rfl (fun ls hl => ?_)
              refine lv_goto (tgt := 8) hx hb dX12_works_189 (by decide) ?_
              exact ih_lp12691 z12833 z12830 v_lp12691 F12827 _ _ _ (by omega) (by omega) (by omega) (by omega) (dpI.to hn9 (by omega) (by omega)) (by omega) hf_lp12691 hI hF hP hS (lv_sub hl [0, 1, 3, 4] rfl)
            · skip
              have t12836 := cv_eq (a := z12711.toInt) rfl (b := 1) (by decide) c12821
              refine lv_aload_n hx hb dX12_works_55 rfl (lv_at hl 3 rfl) ?_
              refine va_get (D := (dC, dI)) (ci := 12) (v := .ref (g 29)) (C := RX12) (T := TX12) (N := 63) hx hb hwd inA_X12 hown hK hP 0 rfl rfl 36 (by decide) (hwd _ wk_211) (fun _ h9 => h9) rfl dX12_works_56 ?_
              refine lv_iload_n hx hb dX12_works_59 rfl (lv_at hl 1 rfl) ?_
              refine va_iald hx hb hK hP 29 28 rfl rfl (i := x3_lp12691) (vin (a := x3_lp12691.toInt) rfl (by omega)) dX12_works_60 ?_
              refine lv_topi (fun z12837 e12838 => ?_)
              have e12838 : z12837 = F 29 (x3_lp12691 : Int32).toNatClampNeg := e12838.trans (congrFun (hF 29 (by decide)) _)
              have tzz12837 : z12837.toInt = (F 29 (x3_lp12691 : Int32).toNatClampNeg).toInt := congrArg Int32.toInt e12838
              refine lv_goto (tgt := 75) hx hb dX12_works_61 (by decide) ?_
              refine va_iast hx hb hK hP (DM hg) hS 30 29 rfl rfl (i := x2_lp12691) (x := z12837) (vin (a := x2_lp12691.toInt) rfl (by omega)) dX12_works_75 (fun H locs hP _ hS => ?_)
              have hP := va_P_eq (sM_30 g c _ _ _ _) hP
              have hI := IM.store0 hI 30 (x2_lp12691 : Int32).toNatClampNeg z12837 rfl
              have hF := frUF (k := 30) (f := upd (F_lp12691 30) (x2_lp12691 : Int32).toNatClampNeg z12837) (by decide) hF
              have st12840 : (va_up F_lp12691 30 (upd (F_lp12691 30) (x2_lp12691 : Int32).toNatClampNeg z12837)) 30 = upd (F_lp12691 30) (x2_lp12691 : Int32).toNatClampNeg z12837 := va_up_self _ _ _
              have sn12841 : ∀ k9, k9 ≠ 30 → (va_up F_lp12691 30 (upd (F_lp12691 30) (x2_lp12691 : Int32).toNatClampNeg z12837)) k9 = F_lp12691 k9 := fun k9 h9 => va_up_ne _ _ h9
              have hP : va_P (dC, dI) classes (wM g c v_lp12691 (va_up F_lp12691 30 (upd (F_lp12691 30) (x2_lp12691 : Int32).toNatClampNeg z12837)) rc) H := hP
              generalize (va_up F_lp12691 30 (upd (F_lp12691 30) (x2_lp12691 : Int32).toNatClampNeg z12837)) = F12839 at hP hI hF st12840 sn12841
              obtain ⟨z12842, e12843⟩ : ∃ y : Int32, y = x2_lp12691 + 1 := ⟨_, rfl⟩
              try (have t12844 := tadd e12843 rfl (b := 1) (by decide) (by omega))
              refine lv_iinc (v := z12842) (lv' := [(2, .int z12842), (4, .int z12711), (3, .int x3_lp12691), (0, .ref (g 0)), (1, .int p0)]) hx hb dX12_works_76 hl (k := 2) rfl (by rw [e12843]; rfl) (by decide) rfl (fun ls hl => ?_)
              refine lv_goto (tgt := 186) hx hb dX12_works_79 (by decide) ?_
              obtain ⟨z12845, e12846⟩ : ∃ y : Int32, y = x3_lp12691 + 1 := ⟨_, rfl⟩
              try (have t12847 := tadd e12846 rfl (b := 1) (by decide) (by omega))
              refine lv_iinc (v := z12845) (lv' := [(3, .int z12845), (2, .int z12842), (4, .int z12711), (0, .ref (g 0)), (1, .int p0)]) hx hb dX12_works_186 hl (k := 2) rfl (by rw [e12846]; rfl) (by decide) rfl (fun ls hl => ?_)
              refine lv_goto (tgt := 8) hx hb dX12_works_189 (by decide) ?_
              exact ih_lp12691 z12845 z12842 v_lp12691 F12839 _ _ _ (by omega) (by omega) (by omega) (by omega) (dpI.to hn9 (by omega) (by omega)) (by omega) hf_lp12691 hI hF hP hS (lv_sub hl [0, 1, 3, 4] rfl)
  obtain ⟨n9, hn9⟩ : ∃ n : Nat, 2147483648 - z12688.toInt ≤ (n : Int) := ⟨((2147483648 - z12688.toInt : Int)).toNat, by omega⟩
  exact lp12691 n9 z12688 0 v F H _ ls (by have : (0 : Int32).toInt = 0 := (by decide); omega) (by have : (0 : Int32).toInt = 0 := (by decide); omega) (by have : (0 : Int32).toInt = 0 := (by decide); omega) (by have : (0 : Int32).toInt = 0 := (by decide); omega) (by refine ⟨by decide, by omega, by omega, ?_⟩; have e9 : (z12688.toInt - 130 * p0.toInt).toNat = 0 := (by omega); rw [e9]; rfl) (by have : (0 : Int32).toInt = 0 := (by decide); omega) (fun _ _ => rfl) hI hF hP hS hl
