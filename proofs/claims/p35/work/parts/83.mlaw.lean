set_option maxHeartbeats 8000000 in
set_option maxRecDepth 100000 in
theorem c_X12_law (l : Launch) (dC : Nat → ClassId) (dI : Nat → Nat → Nat) (g : Nat → Nat) (c : Nat → ClassId) (adK adV : Nat → Nat) (v : Nat → Int32) (F : Nat → Nat → Int32) (rc sz : Nat) (p0 : Int32) (hg : injM g) (hI : IM v F) (hL : JL (v 31) (F 28) (F 29) (F 27)) : Met l yX12_law (Cond.code yX12_law cX12_law 2 (some .int) :: wA) ({ frames := 40, cells := 0, slots := 0, locals := 1600 }) (va_Pc [.ref (g 0), .int p0] (PM dC dI g c adK adV v F rc sz)) (va_Qi (fun (r : Int32) (u : StM) => IM u.1 u.2.1 ∧ u.2.2 = rc ∧ (∀ k, k ∉ ([30, 31, 37, 38, 39, 40, 41, 42] : List Nat) → u.1 k = v k) ∧ (∀ k, k ∉ ([25, 26, 27, 28, 29] : List Nat) → u.2.1 k = F k) ∧ JL (u.1 31) (u.2.1 28) (u.2.1 29) (u.2.1 27)) (BM dC dI g c) (AM g sz)) 0 0 (AM g sz) := by
  refine Met.ofW (cc := cX12_law) (maxL := 2) (ret := (some .int)) (by decide) rfl ?_
  intro p e s m args below meth c0 s₁ B hml hv
  obtain ⟨rfl, hsz, hP, hK, hE⟩ := hv
  have hx := B.exec
  have hb := B.bytes
  have hr := B.returns
  have hts := atoms_spec (ws := Cond.code yX12_law cX12_law 2 (some .int) :: wA) B.pre
  have hwd : ∀ w ∈ wA, w.before _ s = true := fun w h => hts w (List.mem_cons_of_mem _ h)
  have hown : s.vm.findClass RX12 = some m.cls := findClass_of_methodNamed B.named
  have hlocks := B.notSynchronized
  subst hsz
  have hl := lv_entry ([.ref (g 0), .int p0]) (n := 2) (Nat.le_of_ble_eq_true rfl)
  rw [lg_entry_eq]
  generalize (lg_sl ([.ref (g 0), .int p0]) ++ List.replicate (2 - (lg_sl ([.ref (g 0), .int p0])).length) Slot.unset).toArray = ls at hl ⊢
  have hl : lv_has ls 2 [(0, .ref (g 0)), (1, .int p0)] := hl
  obtain ⟨H, eH⟩ : ∃ z, z = s.heap := ⟨_, rfl⟩
  have hP : va_P (dC, dI) classes (wM g c v F rc) H := by rw [eH]; exact hP
  have hS : va_S (AM g s.heap.size) s.heap H [] := by rw [eH]; exact va_S.rf
  refine my_heap eH ?_
  have hF : ∀ k, k ∉ ([25, 26, 27, 28, 29] : List Nat) → F k = F k := fun _ _ => rfl
  have rp0 := i32_rng p0
  have hb31 : 0 ≤ (v 31).toInt ∧ (v 31).toInt ≤ 10 := hI.1 31 _ _ rfl
  have hI0 := hI
  refine lv_iload_n hx hb dX12_law_0 rfl (lv_at hl 1 rfl) ?_
  refine va_calli (va_runS (As := [.int p0]) (rest := []) ⟨hx, hb, hml, hown, hwd⟩ (c_X12_isDay l dC dI g c adK adV v F rc H.size p0 hg hI ) (va_cwS 1 hwd (gT wk_556 wk_554 wk_555 wk_5) rfl rfl rfl (by decide +kernel) ⟨Nat.le_of_ble_eq_true rfl, Nat.le_of_ble_eq_true rfl⟩) ⟨PM.blind, fun U hU hW => ⟨rfl, PM.at hK hE hP hS hU hW⟩⟩ rfl rfl hl.1 rfl (lv_room (Nat.le_of_ble_eq_true rfl)) dX12_law_1 ⟨Nat.le_of_ble_eq_true rfl, Nat.le_of_ble_eq_true rfl⟩) hS (fun q _ h => (freeM hS) q h) (freeM hS) (fun r9986 u t H1 locs ht hvm hw hB hz1 hk1 hS => ?_)
  unfold BM at hB
  rw [ht] at hB
  have hP : va_P (dC, dI) classes (wM g c v F rc) H1 := hB
  have hw_r9986 : (r9986.toInt = 1 ∧ 0 ≤ p0.toInt ∧ p0.toInt ≤ 9999) ∨ (r9986.toInt = 0 ∧ (p0.toInt < 0 ∨ 9999 < p0.toInt)) := hw
  clear hw
  clear hz1
  generalize H1 = H at hP hS ⊢
  refine lv_if_ne (tgt := 9) hx hb dX12_law_4 (by decide) (fun c9987 => ?_) (fun c9987 => ?_)
  · skip
    have t9988 := cv_ne (a := r9986.toInt) rfl (b := 0) (by decide) c9987
    refine lv_aload_n hx hb dX12_law_9 rfl (lv_at hl 0 rfl) ?_
    refine va_get (D := (dC, dI)) (ci := 12) (v := .int (v 31)) (C := RX12) (T := TX12) (N := 63) hx hb hwd inA_X12 hown hK hP 0 rfl rfl 31 (by decide) (hwd _ wk_505) (fun _ h9 => h9) rfl dX12_law_10 ?_
    have t9989 : 0 ≤ (v 31).toInt ∧ (v 31).toInt ≤ 10 := hI.1 31 _ _ rfl
    refine lv_bipush (v := 10) hx hb dX12_law_13 (by decide) ?_
    refine lv_icmp_ne (tgt := 21) hx hb dX12_law_15 (by decide) (fun c9990 => ?_) (fun c9990 => ?_)
    · skip
      have t9991 := cv_ne (a := (v 31).toInt) rfl (b := 10) (by decide) c9990
      refine lv_aload_n hx hb dX12_law_21 rfl (lv_at hl 0 rfl) ?_
      refine lv_aload_n hx hb dX12_law_22 rfl (lv_at hl 0 rfl) ?_
      refine va_get (D := (dC, dI)) (ci := 12) (v := .int (v 31)) (C := RX12) (T := TX12) (N := 63) hx hb hwd inA_X12 hown hK hP 0 rfl rfl 31 (by decide) (hwd _ wk_505) (fun _ h9 => h9) rfl dX12_law_23 ?_
      have t9992 : 0 ≤ (v 31).toInt ∧ (v 31).toInt ≤ 10 := hI.1 31 _ _ rfl
      refine va_put (D := (dC, dI)) (ci := 12) (v := .int (v 31)) (ty := .int) (C := RX12) (T := TX12) (N := 63) (fs := fsM_0 g v rc) hx hb hwd inA_X12 tyX12 tyX12_ok nmX12 hown hK hP (DM hg) hS 0 rfl rfl 37 (by decide) (hwd _ wk_1002) (fun _ h9 => h9) rfl (by decide +kernel) rfl rfl (Nat.le_of_ble_eq_true rfl) dX12_law_26 (fun H locs hP _ hS => ?_)
      have hP := va_P_eq (pM_37 g c _ _ _ _) hP
      have hI := IM.put hI 37 (v 31) rfl (by omega)
      refine lv_aload_n hx hb dX12_law_29 rfl (lv_at hl 0 rfl) ?_
      refine lv_iconst (v := 0) hx hb dX12_law_30 (by decide) ?_
      refine va_put (D := (dC, dI)) (ci := 12) (v := .int 0) (ty := .int) (C := RX12) (T := TX12) (N := 63) (fs := fsM_0 g (va_up v 37 (v 31)) rc) hx hb hwd inA_X12 tyX12 tyX12_ok nmX12 hown hK hP (DM hg) hS 0 rfl rfl 38 (by decide) (hwd _ wk_1003) (fun _ h9 => h9) rfl (by decide +kernel) rfl rfl (Nat.le_of_ble_eq_true rfl) dX12_law_31 (fun H locs hP _ hS => ?_)
      have hP := va_P_eq (pM_38 g c _ _ _ _) hP
      have hI := IM.put hI 38 0 rfl (by have : (0 : Int32).toInt = 0 := (by decide); omega)
      refine lv_aload_n hx hb dX12_law_34 rfl (lv_at hl 0 rfl) ?_
      refine lv_iconst (v := 0) hx hb dX12_law_35 (by decide) ?_
      refine va_put (D := (dC, dI)) (ci := 12) (v := .int 0) (ty := .int) (C := RX12) (T := TX12) (N := 63) (fs := fsM_0 g (va_up (va_up v 37 (v 31)) 38 0) rc) hx hb hwd inA_X12 tyX12 tyX12_ok nmX12 hown hK hP (DM hg) hS 0 rfl rfl 39 (by decide) (hwd _ wk_1004) (fun _ h9 => h9) rfl (by decide +kernel) rfl rfl (Nat.le_of_ble_eq_true rfl) dX12_law_36 (fun H locs hP _ hS => ?_)
      have hP := va_P_eq (pM_39 g c _ _ _ _) hP
      have hI := IM.put hI 39 0 rfl (by have : (0 : Int32).toInt = 0 := (by decide); omega)
      refine lv_aload_n hx hb dX12_law_39 rfl (lv_at hl 0 rfl) ?_
      refine lv_iconst (v := (-1)) hx hb dX12_law_40 (by decide) ?_
      refine va_put (D := (dC, dI)) (ci := 12) (v := .int (-1)) (ty := .int) (C := RX12) (T := TX12) (N := 63) (fs := fsM_0 g (va_up (va_up (va_up v 37 (v 31)) 38 0) 39 0) rc) hx hb hwd inA_X12 tyX12 tyX12_ok nmX12 hown hK hP (DM hg) hS 0 rfl rfl 40 (by decide) (hwd _ wk_1005) (fun _ h9 => h9) rfl (by decide +kernel) rfl rfl (Nat.le_of_ble_eq_true rfl) dX12_law_41 (fun H locs hP _ hS => ?_)
      have hP := va_P_eq (pM_40 g c _ _ _ _) hP
      have hI := IM.put0 hI 40 (-1) rfl
      refine lv_aload_n hx hb dX12_law_44 rfl (lv_at hl 0 rfl) ?_
      refine lv_iconst (v := 0) hx hb dX12_law_45 (by decide) ?_
      refine va_put (D := (dC, dI)) (ci := 12) (v := .int 0) (ty := .int) (C := RX12) (T := TX12) (N := 63) (fs := fsM_0 g (va_up (va_up (va_up (va_up v 37 (v 31)) 38 0) 39 0) 40 (-1)) rc) hx hb hwd inA_X12 tyX12 tyX12_ok nmX12 hown hK hP (DM hg) hS 0 rfl rfl 41 (by decide) (hwd _ wk_1006) (fun _ h9 => h9) rfl (by decide +kernel) rfl rfl (Nat.le_of_ble_eq_true rfl) dX12_law_46 (fun H locs hP _ hS => ?_)
      have hP := va_P_eq (pM_41 g c _ _ _ _) hP
      have hI := IM.put hI 41 0 rfl (by have : (0 : Int32).toInt = 0 := (by decide); omega)
      refine lv_aload_n hx hb dX12_law_49 rfl (lv_at hl 0 rfl) ?_
      have t9993 : 0 ≤ (v 30).toInt ∧ (v 30).toInt ≤ 120 := hI.1 30 _ _ rfl
      have t9994 : 0 ≤ (v 31).toInt ∧ (v 31).toInt ≤ 9 := hI.1 37 _ _ rfl
      refine va_callv (va_runV (As := []) (rest := []) ⟨hx, hb, hml, hown, hwd⟩ (c_X12_either_0 l dC dI g c adK adV (va_up (va_up (va_up (va_up (va_up v 37 (v 31)) 38 0) 39 0) 40 (-1)) 41 0) F rc H.size  0 hg hI (by have h9 : (va_up (va_up (va_up (va_up (va_up v 37 (v 31)) 38 0) 39 0) 40 (-1)) 41 0) 38 = 0 := rfl; (try rw [h9]); clear h9; have : (0 : Int32).toInt = 0 := (by decide); have h9 : (va_up (va_up (va_up (va_up (va_up v 37 (v 31)) 38 0) 39 0) 40 (-1)) 41 0) 39 = 0 := rfl; (try rw [h9]); clear h9; have : (0 : Int32).toInt = 0 := (by decide); have h9 : (va_up (va_up (va_up (va_up (va_up v 37 (v 31)) 38 0) 39 0) 40 (-1)) 41 0) 30 = v 30 := rfl; (try rw [h9]); clear h9; have h9 : (va_up (va_up (va_up (va_up (va_up v 37 (v 31)) 38 0) 39 0) 40 (-1)) 41 0) 40 = (-1) := rfl; (try rw [h9]); clear h9; have : ((-1) : Int32).toInt = (-1) := (by decide); have h9 : (va_up (va_up (va_up (va_up (va_up v 37 (v 31)) 38 0) 39 0) 40 (-1)) 41 0) 41 = 0 := rfl; (try rw [h9]); clear h9; have : (0 : Int32).toInt = 0 := (by decide); omega) (by rfl)) (cwV 0 hwd (gV wk_1010 wk_1007 wk_1008 wk_1009 wk_5) rfl rfl rfl (by decide +kernel) ⟨Nat.le_of_ble_eq_true rfl, Nat.le_of_ble_eq_true rfl⟩) ⟨PM.blind, va_recv hK hP (ci := 12) (q0 := 0) rfl rfl, fun U hU hW => ⟨rfl, PM.at hK hE hP hS hU hW⟩⟩ rfl rfl hl.1 rfl (lv_room (Nat.le_of_ble_eq_true rfl)) dX12_law_50 ⟨Nat.le_of_ble_eq_true rfl, Nat.le_of_ble_eq_true rfl⟩) hS (fun q _ h => (freeM hS) q h) (freeM hS) (fun u t H1 locs ht hvm hw hB hz1 hk1 hS => ?_)
      unfold BM at hB
      rw [ht] at hB
      obtain ⟨v9996, F9997, rc9⟩ := u
      obtain ⟨hI, hrc, hf9998, hG9999, hw⟩ := hw
      dsimp only at hI hrc hB hf9998 hG9999 hw
      have hF := frCF (by decide) hG9999 hF
      rw [hrc] at hB
      have hP : va_P (dC, dI) classes (wM g c v9996 F9997 rc) H1 := hB
      replace hw : ((0 : Int32).toInt ≤ (v9996 39).toInt ∧ (v9996 39).toInt ≤ (v 30).toInt ∧ (0 : Int32).toInt ≤ (v9996 38).toInt ∧ (v9996 38).toInt - (0 : Int32).toInt ≤ (v9996 39).toInt - (0 : Int32).toInt ∧ (0 : Int32).toInt ≤ (v9996 41).toInt ∧ ((v9996 40).toInt < 0 → (v9996 41).toInt = (0 : Int32).toInt)) ∧ keepL (v 31) (F 28) (F 29) (F9997 28) (F9997 29) ∧ ((v9996 40).toInt < 0 → dp (F9997 28) (F9997 29) (bI (v 31)) (v9996 38).toInt.toNat = some (0 + 1)) := hw
      have hw_r9995 := hw
      clear hw
      have t10000 : 0 ≤ (v9996 38).toInt ∧ (v9996 38).toInt ≤ 120 := hI.1 38 _ _ rfl
      have t10001 : 0 ≤ (v9996 39).toInt ∧ (v9996 39).toInt ≤ 120 := hI.1 39 _ _ rfl
      have t10002 : 0 ≤ (v9996 41).toInt ∧ (v9996 41).toInt ≤ 8 := hI.1 41 _ _ rfl
      clear hz1
      generalize H1 = H at hP hS ⊢
      refine lv_aload_n hx hb dX12_law_53 rfl (lv_at hl 0 rfl) ?_
      refine va_get (D := (dC, dI)) (ci := 12) (v := .int (v9996 39)) (C := RX12) (T := TX12) (N := 63) hx hb hwd inA_X12 hown hK hP 0 rfl rfl 39 (by decide) (hwd _ wk_1004) (fun _ h9 => h9) rfl dX12_law_54 ?_
      have t10003 : 0 ≤ (v9996 39).toInt ∧ (v9996 39).toInt ≤ 120 := hI.1 39 _ _ rfl
      refine lv_aload_n hx hb dX12_law_57 rfl (lv_at hl 0 rfl) ?_
      refine va_get (D := (dC, dI)) (ci := 12) (v := .int (v9996 30)) (C := RX12) (T := TX12) (N := 63) hx hb hwd inA_X12 hown hK hP 0 rfl rfl 30 (by decide) (hwd _ wk_839) (fun _ h9 => h9) rfl dX12_law_58 ?_
      refine my_top (v := v 30) (hf9998 30 (by decide)) ?_
      have t10004 : 0 ≤ (v 30).toInt ∧ (v 30).toInt ≤ 120 := by have h9 := hI.1 30 _ _ rfl; rw [show v9996 30 = v 30 from hf9998 30 (by decide)] at h9; exact h9
      refine lv_icmp_ge (tgt := 68) hx hb dX12_law_61 (by decide) (fun c10005 => ?_) (fun c10005 => ?_)
      · skip
        have t10006 := cv_le (a := (v 30).toInt) rfl (b := (v9996 39).toInt) rfl c10005
        refine lv_aload_n hx hb dX12_law_68 rfl (lv_at hl 0 rfl) ?_
        refine lv_iconst (v := 0) hx hb dX12_law_69 (by decide) ?_
        refine va_put (D := (dC, dI)) (ci := 12) (v := .int 0) (ty := .int) (C := RX12) (T := TX12) (N := 63) (fs := fsM_0 g v9996 rc) hx hb hwd inA_X12 tyX12 tyX12_ok nmX12 hown hK hP (DM hg) hS 0 rfl rfl 30 (by decide) (hwd _ wk_839) (fun _ h9 => h9) rfl (by decide +kernel) rfl rfl (Nat.le_of_ble_eq_true rfl) dX12_law_70 (fun H locs hP _ hS => ?_)
        have hP := va_P_eq (pM_30 g c _ _ _ _) hP
        have hI := IM.put hI 30 0 rfl (by have : (0 : Int32).toInt = 0 := (by decide); omega)
        refine lv_aload_n hx hb dX12_law_73 rfl (lv_at hl 0 rfl) ?_
        refine va_get (D := (dC, dI)) (ci := 12) (v := .int (v9996 40)) (C := RX12) (T := TX12) (N := 63) hx hb hwd inA_X12 hown hK hP 0 rfl rfl 40 (by decide) (hwd _ wk_1005) (fun _ h9 => h9) rfl dX12_law_74 ?_
        refine lv_if_lt (tgt := 88) hx hb dX12_law_77 (by decide) (fun c10007 => ?_) (fun c10007 => ?_)
        · skip
          have t10008 := cv_lt (a := (v9996 40).toInt) rfl (b := 0) (by decide) c10007
          refine lv_aload_n hx hb dX12_law_88 rfl (lv_at hl 0 rfl) ?_
          refine va_get (D := (dC, dI)) (ci := 12) (v := .ref (g 25)) (C := RX12) (T := TX12) (N := 63) hx hb hwd inA_X12 hown hK hP 0 rfl rfl 32 (by decide) (hwd _ wk_207) (fun _ h9 => h9) rfl dX12_law_89 ?_
          refine lv_aload_n hx hb dX12_law_92 rfl (lv_at hl 0 rfl) ?_
          refine va_get (D := (dC, dI)) (ci := 12) (v := .int (v9996 31)) (C := RX12) (T := TX12) (N := 63) hx hb hwd inA_X12 hown hK hP 0 rfl rfl 31 (by decide) (hwd _ wk_505) (fun _ h9 => h9) rfl dX12_law_93 ?_
          refine my_top (v := v 31) (hf9998 31 (by decide)) ?_
          have t10009 : 0 ≤ (v 31).toInt ∧ (v 31).toInt ≤ 10 := by have h9 := hI.1 31 _ _ rfl; rw [show (va_up v9996 30 0) 31 = v 31 from hf9998 31 (by decide)] at h9; exact h9
          refine lv_aload_n hx hb dX12_law_96 rfl (lv_at hl 0 rfl) ?_
          refine va_get (D := (dC, dI)) (ci := 12) (v := .int (v9996 1)) (C := RX12) (T := TX12) (N := 63) hx hb hwd inA_X12 hown hK hP 0 rfl rfl 1 (by decide) (hwd _ wk_332) (fun _ h9 => h9) rfl dX12_law_97 ?_
          refine my_top (v := v 1) (hf9998 1 (by decide)) ?_
          have t10010 : 0 ≤ (v 1).toInt ∧ (v 1).toInt ≤ 9999 := by have h9 := hI.1 1 _ _ rfl; rw [show (va_up v9996 30 0) 1 = v 1 from hf9998 1 (by decide)] at h9; exact h9
          refine va_iast hx hb hK hP (DM hg) hS 25 24 rfl rfl (i := (v 31)) (x := (v 1)) (vin (a := (v 31).toInt) rfl (by omega)) dX12_law_100 (fun H locs hP _ hS => ?_)
          have hP := va_P_eq (sM_25 g c _ _ _ _) hP
          have hI := IM.store0 hI 25 (v 31 : Int32).toNatClampNeg (v 1) rfl
          have hF := frUF (k := 25) (f := upd (F9997 25) (v 31 : Int32).toNatClampNeg (v 1)) (by decide) hF
          have st10012 : (va_up F9997 25 (upd (F9997 25) (v 31 : Int32).toNatClampNeg (v 1))) 25 = upd (F9997 25) (v 31 : Int32).toNatClampNeg (v 1) := va_up_self _ _ _
          have sn10013 : ∀ k9, k9 ≠ 25 → (va_up F9997 25 (upd (F9997 25) (v 31 : Int32).toNatClampNeg (v 1))) k9 = F9997 k9 := fun k9 h9 => va_up_ne _ _ h9
          have hP : va_P (dC, dI) classes (wM g c (va_up v9996 30 0) (va_up F9997 25 (upd (F9997 25) (v 31 : Int32).toNatClampNeg (v 1))) rc) H := hP
          generalize (va_up F9997 25 (upd (F9997 25) (v 31 : Int32).toNatClampNeg (v 1))) = F10011 at hP hI hF st10012 sn10013
          refine lv_aload_n hx hb dX12_law_101 rfl (lv_at hl 0 rfl) ?_
          refine va_get (D := (dC, dI)) (ci := 12) (v := .ref (g 26)) (C := RX12) (T := TX12) (N := 63) hx hb hwd inA_X12 hown hK hP 0 rfl rfl 33 (by decide) (hwd _ wk_208) (fun _ h9 => h9) rfl dX12_law_102 ?_
          refine lv_aload_n hx hb dX12_law_105 rfl (lv_at hl 0 rfl) ?_
          refine va_get (D := (dC, dI)) (ci := 12) (v := .int (v9996 31)) (C := RX12) (T := TX12) (N := 63) hx hb hwd inA_X12 hown hK hP 0 rfl rfl 31 (by decide) (hwd _ wk_505) (fun _ h9 => h9) rfl dX12_law_106 ?_
          refine my_top (v := v 31) (hf9998 31 (by decide)) ?_
          have t10014 : 0 ≤ (v 31).toInt ∧ (v 31).toInt ≤ 10 := by have h9 := hI.1 31 _ _ rfl; rw [show (va_up v9996 30 0) 31 = v 31 from hf9998 31 (by decide)] at h9; exact h9
          refine lv_iload_n hx hb dX12_law_109 rfl (lv_at hl 1 rfl) ?_
          refine va_iast hx hb hK hP (DM hg) hS 26 25 rfl rfl (i := (v 31)) (x := p0) (vin (a := (v 31).toInt) rfl (by omega)) dX12_law_110 (fun H locs hP _ hS => ?_)
          have hP := va_P_eq (sM_26 g c _ _ _ _) hP
          have hI := IM.store0 hI 26 (v 31 : Int32).toNatClampNeg p0 rfl
          have hF := frUF (k := 26) (f := upd (F10011 26) (v 31 : Int32).toNatClampNeg p0) (by decide) hF
          have st10016 : (va_up F10011 26 (upd (F10011 26) (v 31 : Int32).toNatClampNeg p0)) 26 = upd (F10011 26) (v 31 : Int32).toNatClampNeg p0 := va_up_self _ _ _
          have sn10017 : ∀ k9, k9 ≠ 26 → (va_up F10011 26 (upd (F10011 26) (v 31 : Int32).toNatClampNeg p0)) k9 = F10011 k9 := fun k9 h9 => va_up_ne _ _ h9
          have hP : va_P (dC, dI) classes (wM g c (va_up v9996 30 0) (va_up F10011 26 (upd (F10011 26) (v 31 : Int32).toNatClampNeg p0)) rc) H := hP
          generalize (va_up F10011 26 (upd (F10011 26) (v 31 : Int32).toNatClampNeg p0)) = F10015 at hP hI hF st10016 sn10017
          refine lv_aload_n hx hb dX12_law_111 rfl (lv_at hl 0 rfl) ?_
          refine va_get (D := (dC, dI)) (ci := 12) (v := .ref (g 27)) (C := RX12) (T := TX12) (N := 63) hx hb hwd inA_X12 hown hK hP 0 rfl rfl 34 (by decide) (hwd _ wk_209) (fun _ h9 => h9) rfl dX12_law_112 ?_
          refine lv_aload_n hx hb dX12_law_115 rfl (lv_at hl 0 rfl) ?_
          refine va_get (D := (dC, dI)) (ci := 12) (v := .int (v9996 31)) (C := RX12) (T := TX12) (N := 63) hx hb hwd inA_X12 hown hK hP 0 rfl rfl 31 (by decide) (hwd _ wk_505) (fun _ h9 => h9) rfl dX12_law_116 ?_
          refine my_top (v := v 31) (hf9998 31 (by decide)) ?_
          have t10018 : 0 ≤ (v 31).toInt ∧ (v 31).toInt ≤ 10 := by have h9 := hI.1 31 _ _ rfl; rw [show (va_up v9996 30 0) 31 = v 31 from hf9998 31 (by decide)] at h9; exact h9
          refine lv_aload_n hx hb dX12_law_119 rfl (lv_at hl 0 rfl) ?_
          refine va_get (D := (dC, dI)) (ci := 12) (v := .int (v9996 38)) (C := RX12) (T := TX12) (N := 63) hx hb hwd inA_X12 hown hK hP 0 rfl rfl 38 (by decide) (hwd _ wk_1003) (fun _ h9 => h9) rfl dX12_law_120 ?_
          have t10019 : 0 ≤ (v9996 38).toInt ∧ (v9996 38).toInt ≤ 120 := hI.1 38 _ _ rfl
          refine va_iast hx hb hK hP (DM hg) hS 27 26 rfl rfl (i := (v 31)) (x := (v9996 38)) (vin (a := (v 31).toInt) rfl (by omega)) dX12_law_123 (fun H locs hP _ hS => ?_)
          have hP := va_P_eq (sM_27 g c _ _ _ _) hP
          have hI := IM.store hI 27 (v 31 : Int32).toNatClampNeg (v9996 38) rfl (by omega)
          have hF := frUF (k := 27) (f := upd (F10015 27) (v 31 : Int32).toNatClampNeg (v9996 38)) (by decide) hF
          have st10021 : (va_up F10015 27 (upd (F10015 27) (v 31 : Int32).toNatClampNeg (v9996 38))) 27 = upd (F10015 27) (v 31 : Int32).toNatClampNeg (v9996 38) := va_up_self _ _ _
          have sn10022 : ∀ k9, k9 ≠ 27 → (va_up F10015 27 (upd (F10015 27) (v 31 : Int32).toNatClampNeg (v9996 38))) k9 = F10015 k9 := fun k9 h9 => va_up_ne _ _ h9
          have hP : va_P (dC, dI) classes (wM g c (va_up v9996 30 0) (va_up F10015 27 (upd (F10015 27) (v 31 : Int32).toNatClampNeg (v9996 38))) rc) H := hP
          generalize (va_up F10015 27 (upd (F10015 27) (v 31 : Int32).toNatClampNeg (v9996 38))) = F10020 at hP hI hF st10021 sn10022
          refine lv_aload_n hx hb dX12_law_124 rfl (lv_at hl 0 rfl) ?_
          refine lv_dup hx hb dX12_law_125 rfl ?_
          refine va_get (D := (dC, dI)) (ci := 12) (v := .int (v9996 31)) (C := RX12) (T := TX12) (N := 63) hx hb hwd inA_X12 hown hK hP 0 rfl rfl 31 (by decide) (hwd _ wk_505) (fun _ h9 => h9) rfl dX12_law_126 ?_
          refine my_top (v := v 31) (hf9998 31 (by decide)) ?_
          have t10023 : 0 ≤ (v 31).toInt ∧ (v 31).toInt ≤ 10 := by have h9 := hI.1 31 _ _ rfl; rw [show (va_up v9996 30 0) 31 = v 31 from hf9998 31 (by decide)] at h9; exact h9
          refine lv_iconst (v := 1) hx hb dX12_law_129 (by decide) ?_
          refine lv_iadd hx hb dX12_law_130 ?_
          refine lv_topi (fun z10024 e10025 => ?_)
          try (have t10026 := tadd e10025 (a := (v 31).toInt) rfl (b := 1) (by decide) (by omega))
          refine va_put (D := (dC, dI)) (ci := 12) (v := .int z10024) (ty := .int) (C := RX12) (T := TX12) (N := 63) (fs := fsM_0 g (va_up v9996 30 0) rc) hx hb hwd inA_X12 tyX12 tyX12_ok nmX12 hown hK hP (DM hg) hS 0 rfl rfl 31 (by decide) (hwd _ wk_505) (fun _ h9 => h9) rfl (by decide +kernel) rfl rfl (Nat.le_of_ble_eq_true rfl) dX12_law_131 (fun H locs hP _ hS => ?_)
          have hP := va_P_eq (pM_31 g c _ _ _ _) hP
          have hI := IM.put hI 31 z10024 rfl (by omega)
          refine lv_aload_n hx hb dX12_law_134 rfl (lv_at hl 0 rfl) ?_
          refine va_get (D := (dC, dI)) (ci := 12) (v := .int z10024) (C := RX12) (T := TX12) (N := 63) hx hb hwd inA_X12 hown hK hP 0 rfl rfl 31 (by decide) (hwd _ wk_505) (fun _ h9 => h9) rfl dX12_law_135 ?_
          have t10027 : 0 ≤ z10024.toInt ∧ z10024.toInt ≤ 10 := hI.1 31 _ _ rfl
          refine lv_iconst (v := 1) hx hb dX12_law_138 (by decide) ?_
          refine lv_isub hx hb dX12_law_139 ?_
          refine lv_topi (fun z10028 e10029 => ?_)
          try (have t10030 := tsub e10029 (a := z10024.toInt) rfl (b := 1) (by decide) (by omega))
          have hP9 : va_P (dC, dI) classes (wM g c (va_up (va_up v9996 30 0) 31 z10024) F10020 rc) H := hP
          exact W.iret (v := z10028) hx hb hr (fun t ht hW => ⟨⟨z10028, ((va_up (va_up v9996 30 0) 31 z10024), F10020, rc), rfl, ⟨hI, rfl, (frU (by decide) (frU (by decide) (frC (by decide) hf9998 (frU (by decide) (frU (by decide) (frU (by decide) (frU (by decide) (frU (by decide) (fun _ _ => rfl))))))))), hF, (by show JL ((va_up (va_up v9996 30 0) 31 z10024) 31) (F10020 28) (F10020 29) (F10020 27); rw [show (va_up (va_up v9996 30 0) 31 z10024) 31 = z10024 from rfl, show F10020 28 = F9997 28 from ((sn10022 28 (by decide)).trans ((sn10017 28 (by decide)).trans (sn10013 28 (by decide)))), show F10020 29 = F9997 29 from ((sn10022 29 (by decide)).trans ((sn10017 29 (by decide)).trans (sn10013 29 (by decide))))]; exact JL.add hL (by omega) (by omega) hw_r9995.2.1 (fun l _ => hI0.2 27 _ _ rfl l) ((st10021.trans (congrArg (fun f => upd f (v 31 : Int32).toNatClampNeg (v9996 38)) ((sn10017 27 (by decide)).trans (sn10013 27 (by decide))))).trans (congrArg (fun f => upd f (v 31 : Int32).toNatClampNeg (v9996 38)) (hG9999 27 (by decide)))) (hw_r9995.2.2 (by omega)))⟩, (by show va_P _ _ _ t.heap; rw [ht]; exact hP9)⟩, hS.F ht⟩) hS.2.2 dX12_law_140
        · skip
          have t10031 := cv_nlt (a := (v9996 40).toInt) rfl (b := 0) (by decide) c10007
          refine lv_bipush (v := (-100)) hx hb dX12_law_80 (by decide) ?_
          refine lv_aload_n hx hb dX12_law_82 rfl (lv_at hl 0 rfl) ?_
          refine va_get (D := (dC, dI)) (ci := 12) (v := .int (v9996 40)) (C := RX12) (T := TX12) (N := 63) hx hb hwd inA_X12 hown hK hP 0 rfl rfl 40 (by decide) (hwd _ wk_1005) (fun _ h9 => h9) rfl dX12_law_83 ?_
          refine lv_isub hx hb dX12_law_86 ?_
          refine lv_topi (fun z10032 e10033 => ?_)
          try (have t10034 := tsub e10033 (a := (-100)) (by decide) (b := (v9996 40).toInt) rfl (by omega))
          have hP9 : va_P (dC, dI) classes (wM g c (va_up v9996 30 0) F9997 rc) H := hP
          exact W.iret (v := z10032) hx hb hr (fun t ht hW => ⟨⟨z10032, ((va_up v9996 30 0), F9997, rc), rfl, ⟨hI, rfl, (frU (by decide) (frC (by decide) hf9998 (frU (by decide) (frU (by decide) (frU (by decide) (frU (by decide) (frU (by decide) (fun _ _ => rfl)))))))), hF, (by show JL ((va_up v9996 30 0) 31) (F9997 28) (F9997 29) (F9997 27); rw [show (va_up v9996 30 0) 31 = v 31 from hf9998 31 (by decide), show F9997 28 = F9997 28 from rfl, show F9997 29 = F9997 29 from rfl]; exact JL.keep hL hw_r9995.2.1 (fun l _ => hI0.2 27 _ _ rfl l) (hG9999 27 (by decide)))⟩, (by show va_P _ _ _ t.heap; rw [ht]; exact hP9)⟩, hS.F ht⟩) hS.2.2 dX12_law_87
      · skip
        have t10035 := cv_nle (a := (v 30).toInt) rfl (b := (v9996 39).toInt) rfl c10005
        refine lv_aload_n hx hb dX12_law_64 rfl (lv_at hl 0 rfl) ?_
        refine va_callv (va_runV (As := []) (rest := []) ⟨hx, hb, hml, hown, hwd⟩ (c_X12_wrong l dC dI g c adK adV v9996 F9997 rc H.size  hg hI ) (cwV 0 hwd (gV wk_1029 wk_1026 wk_1027 wk_1028 wk_5) rfl rfl rfl (by decide +kernel) ⟨Nat.le_of_ble_eq_true rfl, Nat.le_of_ble_eq_true rfl⟩) ⟨PM.blind, va_recv hK hP (ci := 12) (q0 := 0) rfl rfl, fun U hU hW => ⟨rfl, PM.at hK hE hP hS hU hW⟩⟩ rfl rfl hl.1 rfl (lv_room (Nat.le_of_ble_eq_true rfl)) dX12_law_65 ⟨Nat.le_of_ble_eq_true rfl, Nat.le_of_ble_eq_true rfl⟩) hS (fun q _ h => (freeM hS) q h) (freeM hS) (fun u t H1 locs ht hvm hw hB hz1 hk1 hS => ?_)
        unfold BM at hB
        rw [ht] at hB
        obtain ⟨v10037, F10038, rc9⟩ := u
        obtain ⟨hI, hrc, hf10039, hG10040, hw⟩ := hw
        dsimp only at hI hrc hB hf10039 hG10040 hw
        have hF := frCF (by decide) hG10040 hF
        rw [hrc] at hB
        have hP : va_P (dC, dI) classes (wM g c v10037 F10038 rc) H1 := hB
        replace hw : 0 ≤ (v10037 40).toInt := hw
        have hw_r10036 := hw
        clear hw
        clear hz1
        generalize H1 = H at hP hS ⊢
        refine lv_aload_n hx hb dX12_law_68 rfl (lv_at hl 0 rfl) ?_
        refine lv_iconst (v := 0) hx hb dX12_law_69 (by decide) ?_
        refine va_put (D := (dC, dI)) (ci := 12) (v := .int 0) (ty := .int) (C := RX12) (T := TX12) (N := 63) (fs := fsM_0 g v10037 rc) hx hb hwd inA_X12 tyX12 tyX12_ok nmX12 hown hK hP (DM hg) hS 0 rfl rfl 30 (by decide) (hwd _ wk_839) (fun _ h9 => h9) rfl (by decide +kernel) rfl rfl (Nat.le_of_ble_eq_true rfl) dX12_law_70 (fun H locs hP _ hS => ?_)
        have hP := va_P_eq (pM_30 g c _ _ _ _) hP
        have hI := IM.put hI 30 0 rfl (by have : (0 : Int32).toInt = 0 := (by decide); omega)
        refine lv_aload_n hx hb dX12_law_73 rfl (lv_at hl 0 rfl) ?_
        refine va_get (D := (dC, dI)) (ci := 12) (v := .int (v10037 40)) (C := RX12) (T := TX12) (N := 63) hx hb hwd inA_X12 hown hK hP 0 rfl rfl 40 (by decide) (hwd _ wk_1005) (fun _ h9 => h9) rfl dX12_law_74 ?_
        refine lv_if_lt (tgt := 88) hx hb dX12_law_77 (by decide) (fun c10041 => ?_) (fun c10041 => ?_)
        · skip
          have t10042 := cv_lt (a := (v10037 40).toInt) rfl (b := 0) (by decide) c10041
          refine lv_aload_n hx hb dX12_law_88 rfl (lv_at hl 0 rfl) ?_
          refine va_get (D := (dC, dI)) (ci := 12) (v := .ref (g 25)) (C := RX12) (T := TX12) (N := 63) hx hb hwd inA_X12 hown hK hP 0 rfl rfl 32 (by decide) (hwd _ wk_207) (fun _ h9 => h9) rfl dX12_law_89 ?_
          refine lv_aload_n hx hb dX12_law_92 rfl (lv_at hl 0 rfl) ?_
          refine va_get (D := (dC, dI)) (ci := 12) (v := .int (v10037 31)) (C := RX12) (T := TX12) (N := 63) hx hb hwd inA_X12 hown hK hP 0 rfl rfl 31 (by decide) (hwd _ wk_505) (fun _ h9 => h9) rfl dX12_law_93 ?_
          refine my_top (v := v 31) ((hf10039 31 (by decide)).trans (hf9998 31 (by decide))) ?_
          have t10043 : 0 ≤ (v 31).toInt ∧ (v 31).toInt ≤ 10 := by have h9 := hI.1 31 _ _ rfl; rw [show (va_up v10037 30 0) 31 = v 31 from (hf10039 31 (by decide)).trans (hf9998 31 (by decide))] at h9; exact h9
          refine lv_aload_n hx hb dX12_law_96 rfl (lv_at hl 0 rfl) ?_
          refine va_get (D := (dC, dI)) (ci := 12) (v := .int (v10037 1)) (C := RX12) (T := TX12) (N := 63) hx hb hwd inA_X12 hown hK hP 0 rfl rfl 1 (by decide) (hwd _ wk_332) (fun _ h9 => h9) rfl dX12_law_97 ?_
          refine my_top (v := v 1) ((hf10039 1 (by decide)).trans (hf9998 1 (by decide))) ?_
          have t10044 : 0 ≤ (v 1).toInt ∧ (v 1).toInt ≤ 9999 := by have h9 := hI.1 1 _ _ rfl; rw [show (va_up v10037 30 0) 1 = v 1 from (hf10039 1 (by decide)).trans (hf9998 1 (by decide))] at h9; exact h9
          refine va_iast hx hb hK hP (DM hg) hS 25 24 rfl rfl (i := (v 31)) (x := (v 1)) (vin (a := (v 31).toInt) rfl (by omega)) dX12_law_100 (fun H locs hP _ hS => ?_)
          have hP := va_P_eq (sM_25 g c _ _ _ _) hP
          have hI := IM.store0 hI 25 (v 31 : Int32).toNatClampNeg (v 1) rfl
          have hF := frUF (k := 25) (f := upd (F10038 25) (v 31 : Int32).toNatClampNeg (v 1)) (by decide) hF
          have st10046 : (va_up F10038 25 (upd (F10038 25) (v 31 : Int32).toNatClampNeg (v 1))) 25 = upd (F10038 25) (v 31 : Int32).toNatClampNeg (v 1) := va_up_self _ _ _
          have sn10047 : ∀ k9, k9 ≠ 25 → (va_up F10038 25 (upd (F10038 25) (v 31 : Int32).toNatClampNeg (v 1))) k9 = F10038 k9 := fun k9 h9 => va_up_ne _ _ h9
          have hP : va_P (dC, dI) classes (wM g c (va_up v10037 30 0) (va_up F10038 25 (upd (F10038 25) (v 31 : Int32).toNatClampNeg (v 1))) rc) H := hP
          generalize (va_up F10038 25 (upd (F10038 25) (v 31 : Int32).toNatClampNeg (v 1))) = F10045 at hP hI hF st10046 sn10047
          refine lv_aload_n hx hb dX12_law_101 rfl (lv_at hl 0 rfl) ?_
          refine va_get (D := (dC, dI)) (ci := 12) (v := .ref (g 26)) (C := RX12) (T := TX12) (N := 63) hx hb hwd inA_X12 hown hK hP 0 rfl rfl 33 (by decide) (hwd _ wk_208) (fun _ h9 => h9) rfl dX12_law_102 ?_
          refine lv_aload_n hx hb dX12_law_105 rfl (lv_at hl 0 rfl) ?_
          refine va_get (D := (dC, dI)) (ci := 12) (v := .int (v10037 31)) (C := RX12) (T := TX12) (N := 63) hx hb hwd inA_X12 hown hK hP 0 rfl rfl 31 (by decide) (hwd _ wk_505) (fun _ h9 => h9) rfl dX12_law_106 ?_
          refine my_top (v := v 31) ((hf10039 31 (by decide)).trans (hf9998 31 (by decide))) ?_
          have t10048 : 0 ≤ (v 31).toInt ∧ (v 31).toInt ≤ 10 := by have h9 := hI.1 31 _ _ rfl; rw [show (va_up v10037 30 0) 31 = v 31 from (hf10039 31 (by decide)).trans (hf9998 31 (by decide))] at h9; exact h9
          refine lv_iload_n hx hb dX12_law_109 rfl (lv_at hl 1 rfl) ?_
          refine va_iast hx hb hK hP (DM hg) hS 26 25 rfl rfl (i := (v 31)) (x := p0) (vin (a := (v 31).toInt) rfl (by omega)) dX12_law_110 (fun H locs hP _ hS => ?_)
          have hP := va_P_eq (sM_26 g c _ _ _ _) hP
          have hI := IM.store0 hI 26 (v 31 : Int32).toNatClampNeg p0 rfl
          have hF := frUF (k := 26) (f := upd (F10045 26) (v 31 : Int32).toNatClampNeg p0) (by decide) hF
          have st10050 : (va_up F10045 26 (upd (F10045 26) (v 31 : Int32).toNatClampNeg p0)) 26 = upd (F10045 26) (v 31 : Int32).toNatClampNeg p0 := va_up_self _ _ _
          have sn10051 : ∀ k9, k9 ≠ 26 → (va_up F10045 26 (upd (F10045 26) (v 31 : Int32).toNatClampNeg p0)) k9 = F10045 k9 := fun k9 h9 => va_up_ne _ _ h9
          have hP : va_P (dC, dI) classes (wM g c (va_up v10037 30 0) (va_up F10045 26 (upd (F10045 26) (v 31 : Int32).toNatClampNeg p0)) rc) H := hP
          generalize (va_up F10045 26 (upd (F10045 26) (v 31 : Int32).toNatClampNeg p0)) = F10049 at hP hI hF st10050 sn10051
          refine lv_aload_n hx hb dX12_law_111 rfl (lv_at hl 0 rfl) ?_
          refine va_get (D := (dC, dI)) (ci := 12) (v := .ref (g 27)) (C := RX12) (T := TX12) (N := 63) hx hb hwd inA_X12 hown hK hP 0 rfl rfl 34 (by decide) (hwd _ wk_209) (fun _ h9 => h9) rfl dX12_law_112 ?_
          refine lv_aload_n hx hb dX12_law_115 rfl (lv_at hl 0 rfl) ?_
          refine va_get (D := (dC, dI)) (ci := 12) (v := .int (v10037 31)) (C := RX12) (T := TX12) (N := 63) hx hb hwd inA_X12 hown hK hP 0 rfl rfl 31 (by decide) (hwd _ wk_505) (fun _ h9 => h9) rfl dX12_law_116 ?_
          refine my_top (v := v 31) ((hf10039 31 (by decide)).trans (hf9998 31 (by decide))) ?_
          have t10052 : 0 ≤ (v 31).toInt ∧ (v 31).toInt ≤ 10 := by have h9 := hI.1 31 _ _ rfl; rw [show (va_up v10037 30 0) 31 = v 31 from (hf10039 31 (by decide)).trans (hf9998 31 (by decide))] at h9; exact h9
          refine lv_aload_n hx hb dX12_law_119 rfl (lv_at hl 0 rfl) ?_
          refine va_get (D := (dC, dI)) (ci := 12) (v := .int (v10037 38)) (C := RX12) (T := TX12) (N := 63) hx hb hwd inA_X12 hown hK hP 0 rfl rfl 38 (by decide) (hwd _ wk_1003) (fun _ h9 => h9) rfl dX12_law_120 ?_
          refine my_top (v := v9996 38) (hf10039 38 (by decide)) ?_
          have t10053 : 0 ≤ (v9996 38).toInt ∧ (v9996 38).toInt ≤ 120 := by have h9 := hI.1 38 _ _ rfl; rw [show (va_up v10037 30 0) 38 = v9996 38 from hf10039 38 (by decide)] at h9; exact h9
          refine va_iast hx hb hK hP (DM hg) hS 27 26 rfl rfl (i := (v 31)) (x := (v9996 38)) (vin (a := (v 31).toInt) rfl (by omega)) dX12_law_123 (fun H locs hP _ hS => ?_)
          have hP := va_P_eq (sM_27 g c _ _ _ _) hP
          have hI := IM.store hI 27 (v 31 : Int32).toNatClampNeg (v9996 38) rfl (by omega)
          have hF := frUF (k := 27) (f := upd (F10049 27) (v 31 : Int32).toNatClampNeg (v9996 38)) (by decide) hF
          have st10055 : (va_up F10049 27 (upd (F10049 27) (v 31 : Int32).toNatClampNeg (v9996 38))) 27 = upd (F10049 27) (v 31 : Int32).toNatClampNeg (v9996 38) := va_up_self _ _ _
          have sn10056 : ∀ k9, k9 ≠ 27 → (va_up F10049 27 (upd (F10049 27) (v 31 : Int32).toNatClampNeg (v9996 38))) k9 = F10049 k9 := fun k9 h9 => va_up_ne _ _ h9
          have hP : va_P (dC, dI) classes (wM g c (va_up v10037 30 0) (va_up F10049 27 (upd (F10049 27) (v 31 : Int32).toNatClampNeg (v9996 38))) rc) H := hP
          generalize (va_up F10049 27 (upd (F10049 27) (v 31 : Int32).toNatClampNeg (v9996 38))) = F10054 at hP hI hF st10055 sn10056
          refine lv_aload_n hx hb dX12_law_124 rfl (lv_at hl 0 rfl) ?_
          refine lv_dup hx hb dX12_law_125 rfl ?_
          refine va_get (D := (dC, dI)) (ci := 12) (v := .int (v10037 31)) (C := RX12) (T := TX12) (N := 63) hx hb hwd inA_X12 hown hK hP 0 rfl rfl 31 (by decide) (hwd _ wk_505) (fun _ h9 => h9) rfl dX12_law_126 ?_
          refine my_top (v := v 31) ((hf10039 31 (by decide)).trans (hf9998 31 (by decide))) ?_
          have t10057 : 0 ≤ (v 31).toInt ∧ (v 31).toInt ≤ 10 := by have h9 := hI.1 31 _ _ rfl; rw [show (va_up v10037 30 0) 31 = v 31 from (hf10039 31 (by decide)).trans (hf9998 31 (by decide))] at h9; exact h9
          refine lv_iconst (v := 1) hx hb dX12_law_129 (by decide) ?_
          refine lv_iadd hx hb dX12_law_130 ?_
          refine lv_topi (fun z10058 e10059 => ?_)
          try (have t10060 := tadd e10059 (a := (v 31).toInt) rfl (b := 1) (by decide) (by omega))
          refine va_put (D := (dC, dI)) (ci := 12) (v := .int z10058) (ty := .int) (C := RX12) (T := TX12) (N := 63) (fs := fsM_0 g (va_up v10037 30 0) rc) hx hb hwd inA_X12 tyX12 tyX12_ok nmX12 hown hK hP (DM hg) hS 0 rfl rfl 31 (by decide) (hwd _ wk_505) (fun _ h9 => h9) rfl (by decide +kernel) rfl rfl (Nat.le_of_ble_eq_true rfl) dX12_law_131 (fun H locs hP _ hS => ?_)
          have hP := va_P_eq (pM_31 g c _ _ _ _) hP
          have hI := IM.put hI 31 z10058 rfl (by omega)
          refine lv_aload_n hx hb dX12_law_134 rfl (lv_at hl 0 rfl) ?_
          refine va_get (D := (dC, dI)) (ci := 12) (v := .int z10058) (C := RX12) (T := TX12) (N := 63) hx hb hwd inA_X12 hown hK hP 0 rfl rfl 31 (by decide) (hwd _ wk_505) (fun _ h9 => h9) rfl dX12_law_135 ?_
          have t10061 : 0 ≤ z10058.toInt ∧ z10058.toInt ≤ 10 := hI.1 31 _ _ rfl
          refine lv_iconst (v := 1) hx hb dX12_law_138 (by decide) ?_
          refine lv_isub hx hb dX12_law_139 ?_
          refine lv_topi (fun z10062 e10063 => ?_)
          try (have t10064 := tsub e10063 (a := z10058.toInt) rfl (b := 1) (by decide) (by omega))
          have hP9 : va_P (dC, dI) classes (wM g c (va_up (va_up v10037 30 0) 31 z10058) F10054 rc) H := hP
          exact W.iret (v := z10062) hx hb hr (fun t ht hW => ⟨⟨z10062, ((va_up (va_up v10037 30 0) 31 z10058), F10054, rc), rfl, ⟨hI, rfl, (frU (by decide) (frU (by decide) (frC (by decide) hf10039 (frC (by decide) hf9998 (frU (by decide) (frU (by decide) (frU (by decide) (frU (by decide) (frU (by decide) (fun _ _ => rfl)))))))))), hF, (by show JL ((va_up (va_up v10037 30 0) 31 z10058) 31) (F10054 28) (F10054 29) (F10054 27); rw [show (va_up (va_up v10037 30 0) 31 z10058) 31 = z10058 from rfl, show F10054 28 = F9997 28 from ((sn10056 28 (by decide)).trans ((sn10051 28 (by decide)).trans ((sn10047 28 (by decide)).trans (hG10040 28 (by decide))))), show F10054 29 = F9997 29 from ((sn10056 29 (by decide)).trans ((sn10051 29 (by decide)).trans ((sn10047 29 (by decide)).trans (hG10040 29 (by decide)))))]; exact JL.add hL (by omega) (by omega) hw_r9995.2.1 (fun l _ => hI0.2 27 _ _ rfl l) ((st10055.trans (congrArg (fun f => upd f (v 31 : Int32).toNatClampNeg (v9996 38)) ((sn10051 27 (by decide)).trans ((sn10047 27 (by decide)).trans (hG10040 27 (by decide)))))).trans (congrArg (fun f => upd f (v 31 : Int32).toNatClampNeg (v9996 38)) (hG9999 27 (by decide)))) (hw_r9995.2.2 (by omega)))⟩, (by show va_P _ _ _ t.heap; rw [ht]; exact hP9)⟩, hS.F ht⟩) hS.2.2 dX12_law_140
        · skip
          have t10065 := cv_nlt (a := (v10037 40).toInt) rfl (b := 0) (by decide) c10041
          refine lv_bipush (v := (-100)) hx hb dX12_law_80 (by decide) ?_
          refine lv_aload_n hx hb dX12_law_82 rfl (lv_at hl 0 rfl) ?_
          refine va_get (D := (dC, dI)) (ci := 12) (v := .int (v10037 40)) (C := RX12) (T := TX12) (N := 63) hx hb hwd inA_X12 hown hK hP 0 rfl rfl 40 (by decide) (hwd _ wk_1005) (fun _ h9 => h9) rfl dX12_law_83 ?_
          refine lv_isub hx hb dX12_law_86 ?_
          refine lv_topi (fun z10066 e10067 => ?_)
          try (have t10068 := tsub e10067 (a := (-100)) (by decide) (b := (v10037 40).toInt) rfl (by omega))
          have hP9 : va_P (dC, dI) classes (wM g c (va_up v10037 30 0) F10038 rc) H := hP
          exact W.iret (v := z10066) hx hb hr (fun t ht hW => ⟨⟨z10066, ((va_up v10037 30 0), F10038, rc), rfl, ⟨hI, rfl, (frU (by decide) (frC (by decide) hf10039 (frC (by decide) hf9998 (frU (by decide) (frU (by decide) (frU (by decide) (frU (by decide) (frU (by decide) (fun _ _ => rfl))))))))), hF, (by show JL ((va_up v10037 30 0) 31) (F10038 28) (F10038 29) (F10038 27); rw [show (va_up v10037 30 0) 31 = v 31 from (hf10039 31 (by decide)).trans (hf9998 31 (by decide)), show F10038 28 = F9997 28 from (hG10040 28 (by decide)), show F10038 29 = F9997 29 from (hG10040 29 (by decide))]; exact JL.keep hL hw_r9995.2.1 (fun l _ => hI0.2 27 _ _ rfl l) ((hG10040 27 (by decide)).trans (hG9999 27 (by decide))))⟩, (by show va_P _ _ _ t.heap; rw [ht]; exact hP9)⟩, hS.F ht⟩) hS.2.2 dX12_law_87
    · skip
      have t10069 := cv_eq (a := (v 31).toInt) rfl (b := 10) (by decide) c9990
      refine lv_bipush (v := (-3)) hx hb dX12_law_18 (by decide) ?_
      have hP9 : va_P (dC, dI) classes (wM g c v F rc) H := hP
      exact W.iret (v := (-3)) hx hb hr (fun t ht hW => ⟨⟨(-3), (v, F, rc), rfl, ⟨hI, rfl, (fun _ _ => rfl), hF, hL⟩, (by show va_P _ _ _ t.heap; rw [ht]; exact hP9)⟩, hS.F ht⟩) hS.2.2 dX12_law_20
  · skip
    have t10070 := cv_eq (a := r9986.toInt) rfl (b := 0) (by decide) c9987
    refine lv_iconst (v := (-1)) hx hb dX12_law_7 (by decide) ?_
    have hP9 : va_P (dC, dI) classes (wM g c v F rc) H := hP
    exact W.iret (v := (-1)) hx hb hr (fun t ht hW => ⟨⟨(-1), (v, F, rc), rfl, ⟨hI, rfl, (fun _ _ => rfl), hF, hL⟩, (by show va_P _ _ _ t.heap; rw [ht]; exact hP9)⟩, hS.F ht⟩) hS.2.2 dX12_law_8
set_option maxHeartbeats 8000000 in
set_option maxRecDepth 100000 in
theorem c_X12_works (l : Launch) (dC : Nat → ClassId) (dI : Nat → Nat → Nat) (g : Nat → Nat) (c : Nat → ClassId) (adK adV : Nat → Nat) (v : Nat → Int32) (F : Nat → Nat → Int32) (rc sz : Nat) (p0 : Int32) (hg : injM g) (hI : IM v F) (h0 : 0 ≤ p0.toInt ∧ p0.toInt ≤ 9) (hD : ∃ D, dp (F 28) (F 29) (bI p0) (F 27 p0.toNatClampNeg).toInt.toNat = some D) : Met l yX12_works (Cond.code yX12_works cX12_works 5 (some .int) :: wA) ({ frames := 2, cells := 0, slots := 0, locals := 80 }) (va_Pc [.ref (g 0), .int p0] (PM dC dI g c adK adV v F rc sz)) (va_Qi (fun (r : Int32) (u : StM) => IM u.1 u.2.1 ∧ u.2.2 = rc ∧ (∀ k, k ∉ ([] : List Nat) → u.1 k = v k) ∧ (∀ k, k ∉ ([30] : List Nat) → u.2.1 k = F k) ∧ True) (BM dC dI g c) (AM g sz)) 0 0 (AM g sz) := by
  refine Met.ofW (cc := cX12_works) (maxL := 5) (ret := (some .int)) (by decide) rfl ?_
  intro p e s m args below meth c0 s₁ B hml hv
  obtain ⟨rfl, hsz, hP, hK, hE⟩ := hv
  have hx := B.exec
  have hb := B.bytes
  have hr := B.returns
  have hts := atoms_spec (ws := Cond.code yX12_works cX12_works 5 (some .int) :: wA) B.pre
  have hwd : ∀ w ∈ wA, w.before _ s = true := fun w h => hts w (List.mem_cons_of_mem _ h)
  have hown : s.vm.findClass RX12 = some m.cls := findClass_of_methodNamed B.named
  have hlocks := B.notSynchronized
  subst hsz
  have hl := lv_entry ([.ref (g 0), .int p0]) (n := 5) (Nat.le_of_ble_eq_true rfl)
  rw [lg_entry_eq]
  generalize (lg_sl ([.ref (g 0), .int p0]) ++ List.replicate (5 - (lg_sl ([.ref (g 0), .int p0])).length) Slot.unset).toArray = ls at hl ⊢
  have hl : lv_has ls 5 [(0, .ref (g 0)), (1, .int p0)] := hl
  obtain ⟨H, eH⟩ : ∃ z, z = s.heap := ⟨_, rfl⟩
  have hP : va_P (dC, dI) classes (wM g c v F rc) H := by rw [eH]; exact hP
  have hS : va_S (AM g s.heap.size) s.heap H [] := by rw [eH]; exact va_S.rf
  refine my_heap eH ?_
  have hF : ∀ k, k ∉ ([30] : List Nat) → F k = F k := fun _ _ => rfl
  have rp0 := i32_rng p0
  refine lv_iconst (v := 0) hx hb dX12_works_0 (by decide) ?_
  refine lv_istore_n (lv' := [(2, .int 0), (0, .ref (g 0)), (1, .int p0)]) hx hb dX12_works_1 rfl hl (by decide) rfl (fun ls hl => ?_)
  refine lv_sipush (v := 130) hx hb dX12_works_2 (by decide) ?_
  refine lv_iload_n hx hb dX12_works_5 rfl (lv_at hl 2 rfl) ?_
  refine lv_imul hx hb dX12_works_6 ?_
  refine lv_topi (fun z10231 e10232 => ?_)
  try (have t10233 := tmul e10232 (a := 130) (by decide) (b := p0.toInt) rfl (by omega))
  refine lv_istore_n (lv' := [(3, .int z10231), (2, .int 0), (0, .ref (g 0)), (1, .int p0)]) hx hb dX12_works_7 rfl hl (by decide) rfl (fun ls hl => ?_)
  have lp10234 : ∀ (n : Nat) (x3_lp10234 : Int32) (x2_lp10234 : Int32) (v_lp10234 : Nat → Int32) (F_lp10234 : Nat → Nat → Int32) (H : Heap) (locs : List Loc) (ls : Array Slot), (0 ≤ x3_lp10234.toInt) → (x3_lp10234.toInt ≤ 1300) → (0 ≤ x2_lp10234.toInt) → (x2_lp10234.toInt ≤ 120) → (dpI (F 28) (F 29) (130 * p0.toInt) x3_lp10234.toInt x2_lp10234.toInt) → (2147483648 - x3_lp10234.toInt ≤ (n : Int)) → (∀ k, k ∉ ([] : List Nat) → v_lp10234 k = v k) → IM v_lp10234 F_lp10234 → (∀ k, k ∉ ([30] : List Nat) → F_lp10234 k = F k) → va_P (dC, dI) classes (wM g c v_lp10234 F_lp10234 rc) H → va_S (AM g s.heap.size) s.heap H locs → lv_has ls 5 [(3, .int x3_lp10234), (2, .int x2_lp10234), (0, .ref (g 0)), (1, .int p0)] → W p l e (headSpec (Cond.code yX12_works cX12_works 5 (some .int) :: wA) ({ frames := 2, cells := 0, slots := 0, locals := 80 })).room s m ([.ref (g 0), .int p0] : List Value).toArray below meth c0 H locs 0 0 (MQ below (va_Qi (fun (r : Int32) (u : StM) => IM u.1 u.2.1 ∧ u.2.2 = rc ∧ (∀ k, k ∉ ([] : List Nat) → u.1 k = v k) ∧ (∀ k, k ∉ ([30] : List Nat) → u.2.1 k = F k) ∧ True) (BM dC dI g c) (AM g s.heap.size)) ([.ref (g 0), .int p0] : List Value).toArray s 0 0 (AM g s.heap.size)) (F0 m 8 ls []) := by
    intro n
    induction n with
    | zero =>
      intro x3_lp10234 x2_lp10234 v_lp10234 F_lp10234 H locs ls t10235 t10236 t10237 t10238 t10239 hm hf_lp10234 hI hF hP hS hl
      exfalso
      have := i32_rng x3_lp10234
      have := i32_rng x2_lp10234
      have hI1 := hI.1
      omega
    | succ n ih_lp10234 =>
      intro x3_lp10234 x2_lp10234 v_lp10234 F_lp10234 H locs ls t10235 t10236 t10237 t10238 t10239 hm hf_lp10234 hI hF hP hS hl
      have rx3_lp10234 := i32_rng x3_lp10234
      have rx2_lp10234 := i32_rng x2_lp10234
      have hle := dpI.le t10239
      refine lv_iload_n hx hb dX12_works_8 rfl (lv_at hl 0 rfl) ?_
      refine lv_sipush (v := 130) hx hb dX12_works_9 (by decide) ?_
      refine lv_iload_n hx hb dX12_works_12 rfl (lv_at hl 3 rfl) ?_
      refine lv_imul hx hb dX12_works_13 ?_
      refine lv_topi (fun z10240 e10241 => ?_)
      try (have t10242 := tmul e10241 (a := 130) (by decide) (b := p0.toInt) rfl (by omega))
      refine lv_aload_n hx hb dX12_works_14 rfl (lv_at hl 2 rfl) ?_
      refine va_get (D := (dC, dI)) (ci := 12) (v := .ref (g 27)) (C := RX12) (T := TX12) (N := 63) hx hb hwd inA_X12 hown hK hP 0 rfl rfl 34 (by decide) (hwd _ wk_209) (fun _ h9 => h9) rfl dX12_works_15 ?_
      refine lv_iload_n hx hb dX12_works_18 rfl (lv_at hl 3 rfl) ?_
      refine va_iald hx hb hK hP 27 26 rfl rfl (i := p0) (vin (a := p0.toInt) rfl (by omega)) dX12_works_19 ?_
      refine lv_topi (fun z10243 e10244 => ?_)
      have t10245 : 0 ≤ z10243.toInt ∧ z10243.toInt ≤ 120 := by rw [e10244]; exact hI.2 27 _ _ rfl _
      have e10244 : z10243 = F 27 (p0 : Int32).toNatClampNeg := e10244.trans (congrFun (hF 27 (by decide)) _)
      have tzz10243 : z10243.toInt = (F 27 (p0 : Int32).toNatClampNeg).toInt := congrArg Int32.toInt e10244
      refine lv_iadd hx hb dX12_works_20 ?_
      refine lv_topi (fun z10246 e10247 => ?_)
      try (have t10248 := tadd e10247 (a := z10240.toInt) rfl (b := z10243.toInt) rfl (by omega))
      refine lv_icmp_ge (tgt := 192) hx hb dX12_works_21 (by decide) (fun c10249 => ?_) (fun c10249 => ?_)
      · skip
        have t10250 := cv_le (a := z10246.toInt) rfl (b := x3_lp10234.toInt) rfl c10249
        refine lv_aload_n hx hb dX12_works_192 rfl (lv_at hl 2 rfl) ?_
        refine va_get (D := (dC, dI)) (ci := 12) (v := .ref (g 30)) (C := RX12) (T := TX12) (N := 63) hx hb hwd inA_X12 hown hK hP 0 rfl rfl 43 (by decide) (hwd _ wk_212) (fun _ h9 => h9) rfl dX12_works_193 ?_
        refine lv_iconst (v := 0) hx hb dX12_works_196 (by decide) ?_
        refine va_iald hx hb hK hP 30 29 rfl rfl (i := 0) (vin (a := 0) (by decide) (by omega)) dX12_works_197 ?_
        refine lv_topi (fun z10251 e10252 => ?_)
        have tzz10251 : z10251.toInt = (F_lp10234 30 (0 : Int32).toNatClampNeg).toInt := congrArg Int32.toInt e10252
        have hP9 : va_P (dC, dI) classes (wM g c v_lp10234 F_lp10234 rc) H := hP
        exact W.iret (v := z10251) hx hb hr (fun t ht hW => ⟨⟨z10251, (v_lp10234, F_lp10234, rc), rfl, ⟨hI, rfl, (frC (by decide) hf_lp10234 (fun _ _ => rfl)), hF, trivial⟩, (by show va_P _ _ _ t.heap; rw [ht]; exact hP9)⟩, hS.F ht⟩) hS.2.2 dX12_works_198
      · skip
        have t10253 := cv_nle (a := z10246.toInt) rfl (b := x3_lp10234.toInt) rfl c10249
        refine lv_aload_n hx hb dX12_works_24 rfl (lv_at hl 2 rfl) ?_
        refine va_get (D := (dC, dI)) (ci := 12) (v := .ref (g 28)) (C := RX12) (T := TX12) (N := 63) hx hb hwd inA_X12 hown hK hP 0 rfl rfl 35 (by decide) (hwd _ wk_210) (fun _ h9 => h9) rfl dX12_works_25 ?_
        refine lv_iload_n hx hb dX12_works_28 rfl (lv_at hl 0 rfl) ?_
        refine va_iald hx hb hK hP 28 27 rfl rfl (i := x3_lp10234) (vin (a := x3_lp10234.toInt) rfl (by omega)) dX12_works_29 ?_
        refine lv_topi (fun z10254 e10255 => ?_)
        have e10255 : z10254 = F 28 (x3_lp10234 : Int32).toNatClampNeg := e10255.trans (congrFun (hF 28 (by decide)) _)
        have tzz10254 : z10254.toInt = (F 28 (x3_lp10234 : Int32).toNatClampNeg).toInt := congrArg Int32.toInt e10255
        obtain ⟨q9, hq9, hn9⟩ := dpI.next t10239 (m := (F 27 p0.toNatClampNeg).toInt) (by omega) hD
        have hnd := dpS_need hq9
        have hq0 : (0 : Int) ≤ (q9 : Int) := Int.natCast_nonneg _
        refine lv_istore (lv' := [(4, .int z10254), (3, .int x3_lp10234), (2, .int x2_lp10234), (0, .ref (g 0)), (1, .int p0)]) hx hb dX12_works_30 hl (by decide) rfl (fun ls hl => ?_)
        refine lv_iload hx hb dX12_works_32 (lv_at hl 0 rfl) ?_
        refine lv_iconst (v := 1) hx hb dX12_works_34 (by decide) ?_
        refine lv_icmp_eq (tgt := 44) hx hb dX12_works_35 (by decide) (fun c10256 => ?_) (fun c10256 => ?_)
        · skip
          have t10257 := cv_eq (a := z10254.toInt) rfl (b := 1) (by decide) c10256
          refine lv_aload_n hx hb dX12_works_44 rfl (lv_at hl 3 rfl) ?_
          refine va_get (D := (dC, dI)) (ci := 12) (v := .ref (g 30)) (C := RX12) (T := TX12) (N := 63) hx hb hwd inA_X12 hown hK hP 0 rfl rfl 43 (by decide) (hwd _ wk_212) (fun _ h9 => h9) rfl dX12_works_45 ?_
          refine lv_iload_n hx hb dX12_works_48 rfl (lv_at hl 2 rfl) ?_
          refine lv_iload hx hb dX12_works_49 (lv_at hl 0 rfl) ?_
          refine lv_iconst (v := 1) hx hb dX12_works_51 (by decide) ?_
          refine lv_icmp_ne (tgt := 64) hx hb dX12_works_52 (by decide) (fun c10258 => ?_) (fun c10258 => ?_)
          · skip
            have t10259 := cv_ne (a := z10254.toInt) rfl (b := 1) (by decide) c10258
            refine lv_aload_n hx hb dX12_works_64 rfl (lv_at hl 3 rfl) ?_
            refine va_get (D := (dC, dI)) (ci := 12) (v := .ref (g 31)) (C := RX12) (T := TX12) (N := 63) hx hb hwd inA_X12 hown hK hP 0 rfl rfl 44 (by decide) (hwd _ wk_213) (fun _ h9 => h9) rfl dX12_works_65 ?_
            refine lv_aload_n hx hb dX12_works_68 rfl (lv_at hl 3 rfl) ?_
            refine va_get (D := (dC, dI)) (ci := 12) (v := .ref (g 29)) (C := RX12) (T := TX12) (N := 63) hx hb hwd inA_X12 hown hK hP 0 rfl rfl 36 (by decide) (hwd _ wk_211) (fun _ h9 => h9) rfl dX12_works_69 ?_
            refine lv_iload_n hx hb dX12_works_72 rfl (lv_at hl 1 rfl) ?_
            refine va_iald hx hb hK hP 29 28 rfl rfl (i := x3_lp10234) (vin (a := x3_lp10234.toInt) rfl (by omega)) dX12_works_73 ?_
            refine lv_topi (fun z10260 e10261 => ?_)
            have e10261 : z10260 = F 29 (x3_lp10234 : Int32).toNatClampNeg := e10261.trans (congrFun (hF 29 (by decide)) _)
            have tzz10260 : z10260.toInt = (F 29 (x3_lp10234 : Int32).toNatClampNeg).toInt := congrArg Int32.toInt e10261
            refine va_iald hx hb hK hP 31 30 rfl rfl (i := z10260) (vin (a := z10260.toInt) rfl (by omega)) dX12_works_74 ?_
            refine lv_topi (fun z10262 e10263 => ?_)
            have e10263 : z10262 = F 31 (z10260 : Int32).toNatClampNeg := e10263.trans (congrFun (hF 31 (by decide)) _)
            have tzz10262 : z10262.toInt = (F 31 (z10260 : Int32).toNatClampNeg).toInt := congrArg Int32.toInt e10263
            refine va_iast hx hb hK hP (DM hg) hS 30 29 rfl rfl (i := x2_lp10234) (x := z10262) (vin (a := x2_lp10234.toInt) rfl (by omega)) dX12_works_75 (fun H locs hP _ hS => ?_)
            have hP := va_P_eq (sM_30 g c _ _ _ _) hP
            have hI := IM.store0 hI 30 (x2_lp10234 : Int32).toNatClampNeg z10262 rfl
            have hF := frUF (k := 30) (f := upd (F_lp10234 30) (x2_lp10234 : Int32).toNatClampNeg z10262) (by decide) hF
            have st10265 : (va_up F_lp10234 30 (upd (F_lp10234 30) (x2_lp10234 : Int32).toNatClampNeg z10262)) 30 = upd (F_lp10234 30) (x2_lp10234 : Int32).toNatClampNeg z10262 := va_up_self _ _ _
            have sn10266 : ∀ k9, k9 ≠ 30 → (va_up F_lp10234 30 (upd (F_lp10234 30) (x2_lp10234 : Int32).toNatClampNeg z10262)) k9 = F_lp10234 k9 := fun k9 h9 => va_up_ne _ _ h9
            have hP : va_P (dC, dI) classes (wM g c v_lp10234 (va_up F_lp10234 30 (upd (F_lp10234 30) (x2_lp10234 : Int32).toNatClampNeg z10262)) rc) H := hP
            generalize (va_up F_lp10234 30 (upd (F_lp10234 30) (x2_lp10234 : Int32).toNatClampNeg z10262)) = F10264 at hP hI hF st10265 sn10266
            obtain ⟨z10267, e10268⟩ : ∃ y : Int32, y = x2_lp10234 + 1 := ⟨_, rfl⟩
            try (have t10269 := tadd e10268 rfl (b := 1) (by decide) (by omega))
            refine lv_iinc (v := z10267) (lv' := [(2, .int z10267), (4, .int z10254), (3, .int x3_lp10234), (0, .ref (g 0)), (1, .int p0)]) hx hb dX12_works_76 hl (k := 2) rfl (by rw [e10268]; rfl) (by decide) rfl (fun ls hl => ?_)
            refine lv_goto (tgt := 186) hx hb dX12_works_79 (by decide) ?_
            obtain ⟨z10270, e10271⟩ : ∃ y : Int32, y = x3_lp10234 + 1 := ⟨_, rfl⟩
            try (have t10272 := tadd e10271 rfl (b := 1) (by decide) (by omega))
            refine lv_iinc (v := z10270) (lv' := [(3, .int z10270), (2, .int z10267), (4, .int z10254), (0, .ref (g 0)), (1, .int p0)]) hx hb dX12_works_186 hl (k := 2) rfl (by rw [e10271]; rfl) (by decide) rfl (fun ls hl => ?_)
            refine lv_goto (tgt := 8) hx hb dX12_works_189 (by decide) ?_
            exact ih_lp10234 z10270 z10267 v_lp10234 F10264 _ _ _ (by omega) (by omega) (by omega) (by omega) (dpI.to hn9 (by omega) (by omega)) (by omega) hf_lp10234 hI hF hP hS (lv_sub hl [0, 1, 3, 4] rfl)
          · skip
            have t10273 := cv_eq (a := z10254.toInt) rfl (b := 1) (by decide) c10258
            refine lv_aload_n hx hb dX12_works_55 rfl (lv_at hl 3 rfl) ?_
            refine va_get (D := (dC, dI)) (ci := 12) (v := .ref (g 29)) (C := RX12) (T := TX12) (N := 63) hx hb hwd inA_X12 hown hK hP 0 rfl rfl 36 (by decide) (hwd _ wk_211) (fun _ h9 => h9) rfl dX12_works_56 ?_
            refine lv_iload_n hx hb dX12_works_59 rfl (lv_at hl 1 rfl) ?_
            refine va_iald hx hb hK hP 29 28 rfl rfl (i := x3_lp10234) (vin (a := x3_lp10234.toInt) rfl (by omega)) dX12_works_60 ?_
            refine lv_topi (fun z10274 e10275 => ?_)
            have e10275 : z10274 = F 29 (x3_lp10234 : Int32).toNatClampNeg := e10275.trans (congrFun (hF 29 (by decide)) _)
            have tzz10274 : z10274.toInt = (F 29 (x3_lp10234 : Int32).toNatClampNeg).toInt := congrArg Int32.toInt e10275
            refine lv_goto (tgt := 75) hx hb dX12_works_61 (by decide) ?_
            refine va_iast hx hb hK hP (DM hg) hS 30 29 rfl rfl (i := x2_lp10234) (x := z10274) (vin (a := x2_lp10234.toInt) rfl (by omega)) dX12_works_75 (fun H locs hP _ hS => ?_)
            have hP := va_P_eq (sM_30 g c _ _ _ _) hP
            have hI := IM.store0 hI 30 (x2_lp10234 : Int32).toNatClampNeg z10274 rfl
            have hF := frUF (k := 30) (f := upd (F_lp10234 30) (x2_lp10234 : Int32).toNatClampNeg z10274) (by decide) hF
            have st10277 : (va_up F_lp10234 30 (upd (F_lp10234 30) (x2_lp10234 : Int32).toNatClampNeg z10274)) 30 = upd (F_lp10234 30) (x2_lp10234 : Int32).toNatClampNeg z10274 := va_up_self _ _ _
            have sn10278 : ∀ k9, k9 ≠ 30 → (va_up F_lp10234 30 (upd (F_lp10234 30) (x2_lp10234 : Int32).toNatClampNeg z10274)) k9 = F_lp10234 k9 := fun k9 h9 => va_up_ne _ _ h9
            have hP : va_P (dC, dI) classes (wM g c v_lp10234 (va_up F_lp10234 30 (upd (F_lp10234 30) (x2_lp10234 : Int32).toNatClampNeg z10274)) rc) H := hP
            generalize (va_up F_lp10234 30 (upd (F_lp10234 30) (x2_lp10234 : Int32).toNatClampNeg z10274)) = F10276 at hP hI hF st10277 sn10278
            obtain ⟨z10279, e10280⟩ : ∃ y : Int32, y = x2_lp10234 + 1 := ⟨_, rfl⟩
            try (have t10281 := tadd e10280 rfl (b := 1) (by decide) (by omega))
            refine lv_iinc (v := z10279) (lv' := [(2, .int z10279), (4, .int z10254), (3, .int x3_lp10234), (0, .ref (g 0)), (1, .int p0)]) hx hb dX12_works_76 hl (k := 2) rfl (by rw [e10280]; rfl) (by decide) rfl (fun ls hl => ?_)
            refine lv_goto (tgt := 186) hx hb dX12_works_79 (by decide) ?_
            obtain ⟨z10282, e10283⟩ : ∃ y : Int32, y = x3_lp10234 + 1 := ⟨_, rfl⟩
            try (have t10284 := tadd e10283 rfl (b := 1) (by decide) (by omega))
            refine lv_iinc (v := z10282) (lv' := [(3, .int z10282), (2, .int z10279), (4, .int z10254), (0, .ref (g 0)), (1, .int p0)]) hx hb dX12_works_186 hl (k := 2) rfl (by rw [e10283]; rfl) (by decide) rfl (fun ls hl => ?_)
            refine lv_goto (tgt := 8) hx hb dX12_works_189 (by decide) ?_
            exact ih_lp10234 z10282 z10279 v_lp10234 F10276 _ _ _ (by omega) (by omega) (by omega) (by omega) (dpI.to hn9 (by omega) (by omega)) (by omega) hf_lp10234 hI hF hP hS (lv_sub hl [0, 1, 3, 4] rfl)
        · skip
          have t10285 := cv_ne (a := z10254.toInt) rfl (b := 1) (by decide) c10256
          refine lv_iload hx hb dX12_works_38 (lv_at hl 0 rfl) ?_
          refine lv_iconst (v := 2) hx hb dX12_works_40 (by decide) ?_
          refine lv_icmp_ne (tgt := 82) hx hb dX12_works_41 (by decide) (fun c10286 => ?_) (fun c10286 => ?_)
          · skip
            have t10287 := cv_ne (a := z10254.toInt) rfl (b := 2) (by decide) c10286
            refine lv_iload hx hb dX12_works_82 (lv_at hl 0 rfl) ?_
            refine lv_iconst (v := 3) hx hb dX12_works_84 (by decide) ?_
            refine lv_icmp_ne (tgt := 108) hx hb dX12_works_85 (by decide) (fun c10288 => ?_) (fun c10288 => ?_)
            · skip
              have t10289 := cv_ne (a := z10254.toInt) rfl (b := 3) (by decide) c10288
              refine lv_iload hx hb dX12_works_108 (lv_at hl 0 rfl) ?_
              refine lv_iconst (v := 4) hx hb dX12_works_110 (by decide) ?_
              refine lv_icmp_ne (tgt := 156) hx hb dX12_works_111 (by decide) (fun c10290 => ?_) (fun c10290 => ?_)
              · skip
                have t10291 := cv_ne (a := z10254.toInt) rfl (b := 4) (by decide) c10290
                obtain ⟨z10292, e10293⟩ : ∃ y : Int32, y = x2_lp10234 + (-1) := ⟨_, rfl⟩
                try (have t10294 := tadd e10293 rfl (b := (-1)) (by decide) (by omega))
                refine lv_iinc (v := z10292) (lv' := [(2, .int z10292), (4, .int z10254), (3, .int x3_lp10234), (0, .ref (g 0)), (1, .int p0)]) hx hb dX12_works_156 hl (k := 2) rfl (by rw [e10293]; rfl) (by decide) rfl (fun ls hl => ?_)
                refine lv_aload_n hx hb dX12_works_159 rfl (lv_at hl 3 rfl) ?_
                refine va_get (D := (dC, dI)) (ci := 12) (v := .ref (g 30)) (C := RX12) (T := TX12) (N := 63) hx hb hwd inA_X12 hown hK hP 0 rfl rfl 43 (by decide) (hwd _ wk_212) (fun _ h9 => h9) rfl dX12_works_160 ?_
                refine lv_iload_n hx hb dX12_works_163 rfl (lv_at hl 0 rfl) ?_
                refine lv_iconst (v := 1) hx hb dX12_works_164 (by decide) ?_
                refine lv_isub hx hb dX12_works_165 ?_
                refine lv_topi (fun z10295 e10296 => ?_)
                try (have t10297 := tsub e10296 (a := z10292.toInt) rfl (b := 1) (by decide) (by omega))
                refine lv_iload hx hb dX12_works_166 (lv_at hl 1 rfl) ?_
                refine lv_aload_n hx hb dX12_works_168 rfl (lv_at hl 3 rfl) ?_
                refine va_get (D := (dC, dI)) (ci := 12) (v := .ref (g 30)) (C := RX12) (T := TX12) (N := 63) hx hb hwd inA_X12 hown hK hP 0 rfl rfl 43 (by decide) (hwd _ wk_212) (fun _ h9 => h9) rfl dX12_works_169 ?_
                refine lv_iload_n hx hb dX12_works_172 rfl (lv_at hl 0 rfl) ?_
                refine lv_iconst (v := 1) hx hb dX12_works_173 (by decide) ?_
                refine lv_isub hx hb dX12_works_174 ?_
                refine lv_topi (fun z10298 e10299 => ?_)
                try (have t10300 := tsub e10299 (a := z10292.toInt) rfl (b := 1) (by decide) (by omega))
                refine va_iald hx hb hK hP 30 29 rfl rfl (i := z10298) (vin (a := z10298.toInt) rfl (by omega)) dX12_works_175 ?_
                refine lv_topi (fun z10301 e10302 => ?_)
                have tzz10301 : z10301.toInt = (F_lp10234 30 (z10298 : Int32).toNatClampNeg).toInt := congrArg Int32.toInt e10302
                refine lv_aload_n hx hb dX12_works_176 rfl (lv_at hl 3 rfl) ?_
                refine va_get (D := (dC, dI)) (ci := 12) (v := .ref (g 30)) (C := RX12) (T := TX12) (N := 63) hx hb hwd inA_X12 hown hK hP 0 rfl rfl 43 (by decide) (hwd _ wk_212) (fun _ h9 => h9) rfl dX12_works_177 ?_
                refine lv_iload_n hx hb dX12_works_180 rfl (lv_at hl 0 rfl) ?_
                refine va_iald hx hb hK hP 30 29 rfl rfl (i := z10292) (vin (a := z10292.toInt) rfl (by omega)) dX12_works_181 ?_
                refine lv_topi (fun z10303 e10304 => ?_)
                have tzz10303 : z10303.toInt = (F_lp10234 30 (z10292 : Int32).toNatClampNeg).toInt := congrArg Int32.toInt e10304
                refine va_calli (va_runS (As := [.int z10254, .int z10301, .int z10303]) (rest := [.int z10295, .ref (g 30)]) ⟨hx, hb, hml, hown, hwd⟩ (c_X12_both l dC dI g c adK adV v_lp10234 F_lp10234 rc H.size z10254 z10301 z10303 hg hI ) (va_cwS 3 hwd (gT wk_516 wk_514 wk_515 wk_5) rfl rfl rfl (by decide +kernel) ⟨Nat.le_of_ble_eq_true rfl, Nat.le_of_ble_eq_true rfl⟩) ⟨PM.blind, fun U hU hW => ⟨rfl, PM.at hK hE hP hS hU hW⟩⟩ rfl rfl hl.1 rfl (lv_room (Nat.le_of_ble_eq_true rfl)) dX12_works_182 ⟨Nat.le_of_ble_eq_true rfl, Nat.le_of_ble_eq_true rfl⟩) hS (fun q _ h => (freeM hS) q h) (freeM hS) (fun r10305 u t H1 locs ht hvm hw hB hz1 hk1 hS => ?_)
                unfold BM at hB
                rw [ht] at hB
                have hP : va_P (dC, dI) classes (wM g c v_lp10234 F_lp10234 rc) H1 := hB
                clear hz1
                generalize H1 = H at hP hS ⊢
                have rr_r10305 := i32_rng r10305
                refine va_iast hx hb hK hP (DM hg) hS 30 29 rfl rfl (i := z10295) (x := r10305) (vin (a := z10295.toInt) rfl (by omega)) dX12_works_185 (fun H locs hP _ hS => ?_)
                have hP := va_P_eq (sM_30 g c _ _ _ _) hP
                have hI := IM.store0 hI 30 (z10295 : Int32).toNatClampNeg r10305 rfl
                have hF := frUF (k := 30) (f := upd (F_lp10234 30) (z10295 : Int32).toNatClampNeg r10305) (by decide) hF
                have st10307 : (va_up F_lp10234 30 (upd (F_lp10234 30) (z10295 : Int32).toNatClampNeg r10305)) 30 = upd (F_lp10234 30) (z10295 : Int32).toNatClampNeg r10305 := va_up_self _ _ _
                have sn10308 : ∀ k9, k9 ≠ 30 → (va_up F_lp10234 30 (upd (F_lp10234 30) (z10295 : Int32).toNatClampNeg r10305)) k9 = F_lp10234 k9 := fun k9 h9 => va_up_ne _ _ h9
                have hP : va_P (dC, dI) classes (wM g c v_lp10234 (va_up F_lp10234 30 (upd (F_lp10234 30) (z10295 : Int32).toNatClampNeg r10305)) rc) H := hP
                generalize (va_up F_lp10234 30 (upd (F_lp10234 30) (z10295 : Int32).toNatClampNeg r10305)) = F10306 at hP hI hF st10307 sn10308
                obtain ⟨z10309, e10310⟩ : ∃ y : Int32, y = x3_lp10234 + 1 := ⟨_, rfl⟩
                try (have t10311 := tadd e10310 rfl (b := 1) (by decide) (by omega))
                refine lv_iinc (v := z10309) (lv' := [(3, .int z10309), (2, .int z10292), (4, .int z10254), (0, .ref (g 0)), (1, .int p0)]) hx hb dX12_works_186 hl (k := 2) rfl (by rw [e10310]; rfl) (by decide) rfl (fun ls hl => ?_)
                refine lv_goto (tgt := 8) hx hb dX12_works_189 (by decide) ?_
                exact ih_lp10234 z10309 z10292 v_lp10234 F10306 _ _ _ (by omega) (by omega) (by omega) (by omega) (dpI.to hn9 (by omega) (by omega)) (by omega) hf_lp10234 hI hF hP hS (lv_sub hl [0, 1, 3, 4] rfl)
              · skip
                have t10312 := cv_eq (a := z10254.toInt) rfl (b := 4) (by decide) c10290
                obtain ⟨z10313, e10314⟩ : ∃ y : Int32, y = x2_lp10234 + (-2) := ⟨_, rfl⟩
                try (have t10315 := tadd e10314 rfl (b := (-2)) (by decide) (by omega))
                refine lv_iinc (v := z10313) (lv' := [(2, .int z10313), (4, .int z10254), (3, .int x3_lp10234), (0, .ref (g 0)), (1, .int p0)]) hx hb dX12_works_114 hl (k := 2) rfl (by rw [e10314]; rfl) (by decide) rfl (fun ls hl => ?_)
                refine lv_aload_n hx hb dX12_works_117 rfl (lv_at hl 3 rfl) ?_
                refine va_get (D := (dC, dI)) (ci := 12) (v := .ref (g 30)) (C := RX12) (T := TX12) (N := 63) hx hb hwd inA_X12 hown hK hP 0 rfl rfl 43 (by decide) (hwd _ wk_212) (fun _ h9 => h9) rfl dX12_works_118 ?_
                refine lv_iload_n hx hb dX12_works_121 rfl (lv_at hl 0 rfl) ?_
                refine lv_iconst (v := 1) hx hb dX12_works_122 (by decide) ?_
                refine lv_isub hx hb dX12_works_123 ?_
                refine lv_topi (fun z10316 e10317 => ?_)
                try (have t10318 := tsub e10317 (a := z10313.toInt) rfl (b := 1) (by decide) (by omega))
                refine lv_aload_n hx hb dX12_works_124 rfl (lv_at hl 3 rfl) ?_
                refine va_get (D := (dC, dI)) (ci := 12) (v := .ref (g 30)) (C := RX12) (T := TX12) (N := 63) hx hb hwd inA_X12 hown hK hP 0 rfl rfl 43 (by decide) (hwd _ wk_212) (fun _ h9 => h9) rfl dX12_works_125 ?_
                refine lv_iload_n hx hb dX12_works_128 rfl (lv_at hl 0 rfl) ?_
                refine lv_iconst (v := 1) hx hb dX12_works_129 (by decide) ?_
                refine lv_isub hx hb dX12_works_130 ?_
                refine lv_topi (fun z10319 e10320 => ?_)
                try (have t10321 := tsub e10320 (a := z10313.toInt) rfl (b := 1) (by decide) (by omega))
                refine va_iald hx hb hK hP 30 29 rfl rfl (i := z10319) (vin (a := z10319.toInt) rfl (by omega)) dX12_works_131 ?_
                refine lv_topi (fun z10322 e10323 => ?_)
                have tzz10322 : z10322.toInt = (F_lp10234 30 (z10319 : Int32).toNatClampNeg).toInt := congrArg Int32.toInt e10323
                refine lv_if_eq (tgt := 144) hx hb dX12_works_132 (by decide) (fun c10324 => ?_) (fun c10324 => ?_)
                · skip
                  have t10325 := cv_eq (a := z10322.toInt) rfl (b := 0) (by decide) c10324
                  refine lv_aload_n hx hb dX12_works_144 rfl (lv_at hl 3 rfl) ?_
                  refine va_get (D := (dC, dI)) (ci := 12) (v := .ref (g 30)) (C := RX12) (T := TX12) (N := 63) hx hb hwd inA_X12 hown hK hP 0 rfl rfl 43 (by decide) (hwd _ wk_212) (fun _ h9 => h9) rfl dX12_works_145 ?_
                  refine lv_iload_n hx hb dX12_works_148 rfl (lv_at hl 0 rfl) ?_
                  refine lv_iconst (v := 1) hx hb dX12_works_149 (by decide) ?_
                  refine lv_iadd hx hb dX12_works_150 ?_
                  refine lv_topi (fun z10326 e10327 => ?_)
                  try (have t10328 := tadd e10327 (a := z10313.toInt) rfl (b := 1) (by decide) (by omega))
                  refine va_iald hx hb hK hP 30 29 rfl rfl (i := z10326) (vin (a := z10326.toInt) rfl (by omega)) dX12_works_151 ?_
                  refine lv_topi (fun z10329 e10330 => ?_)
                  have tzz10329 : z10329.toInt = (F_lp10234 30 (z10326 : Int32).toNatClampNeg).toInt := congrArg Int32.toInt e10330
                  refine va_iast hx hb hK hP (DM hg) hS 30 29 rfl rfl (i := z10316) (x := z10329) (vin (a := z10316.toInt) rfl (by omega)) dX12_works_152 (fun H locs hP _ hS => ?_)
                  have hP := va_P_eq (sM_30 g c _ _ _ _) hP
                  have hI := IM.store0 hI 30 (z10316 : Int32).toNatClampNeg z10329 rfl
                  have hF := frUF (k := 30) (f := upd (F_lp10234 30) (z10316 : Int32).toNatClampNeg z10329) (by decide) hF
                  have st10332 : (va_up F_lp10234 30 (upd (F_lp10234 30) (z10316 : Int32).toNatClampNeg z10329)) 30 = upd (F_lp10234 30) (z10316 : Int32).toNatClampNeg z10329 := va_up_self _ _ _
                  have sn10333 : ∀ k9, k9 ≠ 30 → (va_up F_lp10234 30 (upd (F_lp10234 30) (z10316 : Int32).toNatClampNeg z10329)) k9 = F_lp10234 k9 := fun k9 h9 => va_up_ne _ _ h9
                  have hP : va_P (dC, dI) classes (wM g c v_lp10234 (va_up F_lp10234 30 (upd (F_lp10234 30) (z10316 : Int32).toNatClampNeg z10329)) rc) H := hP
                  generalize (va_up F_lp10234 30 (upd (F_lp10234 30) (z10316 : Int32).toNatClampNeg z10329)) = F10331 at hP hI hF st10332 sn10333
                  refine lv_goto (tgt := 186) hx hb dX12_works_153 (by decide) ?_
                  obtain ⟨z10334, e10335⟩ : ∃ y : Int32, y = x3_lp10234 + 1 := ⟨_, rfl⟩
                  try (have t10336 := tadd e10335 rfl (b := 1) (by decide) (by omega))
                  refine lv_iinc (v := z10334) (lv' := [(3, .int z10334), (2, .int z10313), (4, .int z10254), (0, .ref (g 0)), (1, .int p0)]) hx hb dX12_works_186 hl (k := 2) rfl (by rw [e10335]; rfl) (by decide) rfl (fun ls hl => ?_)
                  refine lv_goto (tgt := 8) hx hb dX12_works_189 (by decide) ?_
                  exact ih_lp10234 z10334 z10313 v_lp10234 F10331 _ _ _ (by omega) (by omega) (by omega) (by omega) (dpI.to hn9 (by omega) (by omega)) (by omega) hf_lp10234 hI hF hP hS (lv_sub hl [0, 1, 3, 4] rfl)
                · skip
                  have t10337 := cv_ne (a := z10322.toInt) rfl (b := 0) (by decide) c10324
                  refine lv_aload_n hx hb dX12_works_135 rfl (lv_at hl 3 rfl) ?_
                  refine va_get (D := (dC, dI)) (ci := 12) (v := .ref (g 30)) (C := RX12) (T := TX12) (N := 63) hx hb hwd inA_X12 hown hK hP 0 rfl rfl 43 (by decide) (hwd _ wk_212) (fun _ h9 => h9) rfl dX12_works_136 ?_
                  refine lv_iload_n hx hb dX12_works_139 rfl (lv_at hl 0 rfl) ?_
                  refine va_iald hx hb hK hP 30 29 rfl rfl (i := z10313) (vin (a := z10313.toInt) rfl (by omega)) dX12_works_140 ?_
                  refine lv_topi (fun z10338 e10339 => ?_)
                  have tzz10338 : z10338.toInt = (F_lp10234 30 (z10313 : Int32).toNatClampNeg).toInt := congrArg Int32.toInt e10339
                  refine lv_goto (tgt := 152) hx hb dX12_works_141 (by decide) ?_
                  refine va_iast hx hb hK hP (DM hg) hS 30 29 rfl rfl (i := z10316) (x := z10338) (vin (a := z10316.toInt) rfl (by omega)) dX12_works_152 (fun H locs hP _ hS => ?_)
                  have hP := va_P_eq (sM_30 g c _ _ _ _) hP
                  have hI := IM.store0 hI 30 (z10316 : Int32).toNatClampNeg z10338 rfl
                  have hF := frUF (k := 30) (f := upd (F_lp10234 30) (z10316 : Int32).toNatClampNeg z10338) (by decide) hF
                  have st10341 : (va_up F_lp10234 30 (upd (F_lp10234 30) (z10316 : Int32).toNatClampNeg z10338)) 30 = upd (F_lp10234 30) (z10316 : Int32).toNatClampNeg z10338 := va_up_self _ _ _
                  have sn10342 : ∀ k9, k9 ≠ 30 → (va_up F_lp10234 30 (upd (F_lp10234 30) (z10316 : Int32).toNatClampNeg z10338)) k9 = F_lp10234 k9 := fun k9 h9 => va_up_ne _ _ h9
                  have hP : va_P (dC, dI) classes (wM g c v_lp10234 (va_up F_lp10234 30 (upd (F_lp10234 30) (z10316 : Int32).toNatClampNeg z10338)) rc) H := hP
                  generalize (va_up F_lp10234 30 (upd (F_lp10234 30) (z10316 : Int32).toNatClampNeg z10338)) = F10340 at hP hI hF st10341 sn10342
                  refine lv_goto (tgt := 186) hx hb dX12_works_153 (by decide) ?_
                  obtain ⟨z10343, e10344⟩ : ∃ y : Int32, y = x3_lp10234 + 1 := ⟨_, rfl⟩
                  try (have t10345 := tadd e10344 rfl (b := 1) (by decide) (by omega))
                  refine lv_iinc (v := z10343) (lv' := [(3, .int z10343), (2, .int z10313), (4, .int z10254), (0, .ref (g 0)), (1, .int p0)]) hx hb dX12_works_186 hl (k := 2) rfl (by rw [e10344]; rfl) (by decide) rfl (fun ls hl => ?_)
                  refine lv_goto (tgt := 8) hx hb dX12_works_189 (by decide) ?_
                  exact ih_lp10234 z10343 z10313 v_lp10234 F10340 _ _ _ (by omega) (by omega) (by omega) (by omega) (dpI.to hn9 (by omega) (by omega)) (by omega) hf_lp10234 hI hF hP hS (lv_sub hl [0, 1, 3, 4] rfl)
            · skip
              have t10346 := cv_eq (a := z10254.toInt) rfl (b := 3) (by decide) c10288
              refine lv_aload_n hx hb dX12_works_88 rfl (lv_at hl 3 rfl) ?_
              refine va_get (D := (dC, dI)) (ci := 12) (v := .ref (g 30)) (C := RX12) (T := TX12) (N := 63) hx hb hwd inA_X12 hown hK hP 0 rfl rfl 43 (by decide) (hwd _ wk_212) (fun _ h9 => h9) rfl dX12_works_89 ?_
              refine lv_iload_n hx hb dX12_works_92 rfl (lv_at hl 2 rfl) ?_
              refine lv_iconst (v := 1) hx hb dX12_works_93 (by decide) ?_
              refine lv_isub hx hb dX12_works_94 ?_
              refine lv_topi (fun z10347 e10348 => ?_)
              try (have t10349 := tsub e10348 (a := x2_lp10234.toInt) rfl (b := 1) (by decide) (by omega))
              refine lv_aload_n hx hb dX12_works_95 rfl (lv_at hl 3 rfl) ?_
              refine va_get (D := (dC, dI)) (ci := 12) (v := .ref (g 30)) (C := RX12) (T := TX12) (N := 63) hx hb hwd inA_X12 hown hK hP 0 rfl rfl 43 (by decide) (hwd _ wk_212) (fun _ h9 => h9) rfl dX12_works_96 ?_
              refine lv_iload_n hx hb dX12_works_99 rfl (lv_at hl 2 rfl) ?_
              refine lv_iconst (v := 1) hx hb dX12_works_100 (by decide) ?_
              refine lv_isub hx hb dX12_works_101 ?_
              refine lv_topi (fun z10350 e10351 => ?_)
              try (have t10352 := tsub e10351 (a := x2_lp10234.toInt) rfl (b := 1) (by decide) (by omega))
              refine va_iald hx hb hK hP 30 29 rfl rfl (i := z10350) (vin (a := z10350.toInt) rfl (by omega)) dX12_works_102 ?_
              refine lv_topi (fun z10353 e10354 => ?_)
              have tzz10353 : z10353.toInt = (F_lp10234 30 (z10350 : Int32).toNatClampNeg).toInt := congrArg Int32.toInt e10354
              refine lv_ineg hx hb dX12_works_103 ?_
              refine lv_topi (fun z10355 e10356 => ?_)
              refine va_iast hx hb hK hP (DM hg) hS 30 29 rfl rfl (i := z10347) (x := z10355) (vin (a := z10347.toInt) rfl (by omega)) dX12_works_104 (fun H locs hP _ hS => ?_)
              have hP := va_P_eq (sM_30 g c _ _ _ _) hP
              have hI := IM.store0 hI 30 (z10347 : Int32).toNatClampNeg z10355 rfl
              have hF := frUF (k := 30) (f := upd (F_lp10234 30) (z10347 : Int32).toNatClampNeg z10355) (by decide) hF
              have st10358 : (va_up F_lp10234 30 (upd (F_lp10234 30) (z10347 : Int32).toNatClampNeg z10355)) 30 = upd (F_lp10234 30) (z10347 : Int32).toNatClampNeg z10355 := va_up_self _ _ _
              have sn10359 : ∀ k9, k9 ≠ 30 → (va_up F_lp10234 30 (upd (F_lp10234 30) (z10347 : Int32).toNatClampNeg z10355)) k9 = F_lp10234 k9 := fun k9 h9 => va_up_ne _ _ h9
              have hP : va_P (dC, dI) classes (wM g c v_lp10234 (va_up F_lp10234 30 (upd (F_lp10234 30) (z10347 : Int32).toNatClampNeg z10355)) rc) H := hP
              generalize (va_up F_lp10234 30 (upd (F_lp10234 30) (z10347 : Int32).toNatClampNeg z10355)) = F10357 at hP hI hF st10358 sn10359
              refine lv_goto (tgt := 186) hx hb dX12_works_105 (by decide) ?_
              obtain ⟨z10360, e10361⟩ : ∃ y : Int32, y = x3_lp10234 + 1 := ⟨_, rfl⟩
              try (have t10362 := tadd e10361 rfl (b := 1) (by decide) (by omega))
              refine lv_iinc (v := z10360) (lv' := [(3, .int z10360), (4, .int z10254), (2, .int x2_lp10234), (0, .ref (g 0)), (1, .int p0)]) hx hb dX12_works_186 hl (k := 1) rfl (by rw [e10361]; rfl) (by decide) rfl (fun ls hl => ?_)
              refine lv_goto (tgt := 8) hx hb dX12_works_189 (by decide) ?_
              exact ih_lp10234 z10360 x2_lp10234 v_lp10234 F10357 _ _ _ (by omega) (by omega) (by omega) (by omega) (dpI.to hn9 (by omega) (by omega)) (by omega) hf_lp10234 hI hF hP hS (lv_sub hl [0, 2, 3, 4] rfl)
          · skip
            have t10363 := cv_eq (a := z10254.toInt) rfl (b := 2) (by decide) c10286
            refine lv_aload_n hx hb dX12_works_44 rfl (lv_at hl 3 rfl) ?_
            refine va_get (D := (dC, dI)) (ci := 12) (v := .ref (g 30)) (C := RX12) (T := TX12) (N := 63) hx hb hwd inA_X12 hown hK hP 0 rfl rfl 43 (by decide) (hwd _ wk_212) (fun _ h9 => h9) rfl dX12_works_45 ?_
            refine lv_iload_n hx hb dX12_works_48 rfl (lv_at hl 2 rfl) ?_
            refine lv_iload hx hb dX12_works_49 (lv_at hl 0 rfl) ?_
            refine lv_iconst (v := 1) hx hb dX12_works_51 (by decide) ?_
            refine lv_icmp_ne (tgt := 64) hx hb dX12_works_52 (by decide) (fun c10364 => ?_) (fun c10364 => ?_)
            · skip
              have t10365 := cv_ne (a := z10254.toInt) rfl (b := 1) (by decide) c10364
              refine lv_aload_n hx hb dX12_works_64 rfl (lv_at hl 3 rfl) ?_
              refine va_get (D := (dC, dI)) (ci := 12) (v := .ref (g 31)) (C := RX12) (T := TX12) (N := 63) hx hb hwd inA_X12 hown hK hP 0 rfl rfl 44 (by decide) (hwd _ wk_213) (fun _ h9 => h9) rfl dX12_works_65 ?_
              refine lv_aload_n hx hb dX12_works_68 rfl (lv_at hl 3 rfl) ?_
              refine va_get (D := (dC, dI)) (ci := 12) (v := .ref (g 29)) (C := RX12) (T := TX12) (N := 63) hx hb hwd inA_X12 hown hK hP 0 rfl rfl 36 (by decide) (hwd _ wk_211) (fun _ h9 => h9) rfl dX12_works_69 ?_
              refine lv_iload_n hx hb dX12_works_72 rfl (lv_at hl 1 rfl) ?_
              refine va_iald hx hb hK hP 29 28 rfl rfl (i := x3_lp10234) (vin (a := x3_lp10234.toInt) rfl (by omega)) dX12_works_73 ?_
              refine lv_topi (fun z10366 e10367 => ?_)
              have e10367 : z10366 = F 29 (x3_lp10234 : Int32).toNatClampNeg := e10367.trans (congrFun (hF 29 (by decide)) _)
              have tzz10366 : z10366.toInt = (F 29 (x3_lp10234 : Int32).toNatClampNeg).toInt := congrArg Int32.toInt e10367
              refine va_iald hx hb hK hP 31 30 rfl rfl (i := z10366) (vin (a := z10366.toInt) rfl (by omega)) dX12_works_74 ?_
              refine lv_topi (fun z10368 e10369 => ?_)
              have e10369 : z10368 = F 31 (z10366 : Int32).toNatClampNeg := e10369.trans (congrFun (hF 31 (by decide)) _)
              have tzz10368 : z10368.toInt = (F 31 (z10366 : Int32).toNatClampNeg).toInt := congrArg Int32.toInt e10369
              refine va_iast hx hb hK hP (DM hg) hS 30 29 rfl rfl (i := x2_lp10234) (x := z10368) (vin (a := x2_lp10234.toInt) rfl (by omega)) dX12_works_75 (fun H locs hP _ hS => ?_)
              have hP := va_P_eq (sM_30 g c _ _ _ _) hP
              have hI := IM.store0 hI 30 (x2_lp10234 : Int32).toNatClampNeg z10368 rfl
              have hF := frUF (k := 30) (f := upd (F_lp10234 30) (x2_lp10234 : Int32).toNatClampNeg z10368) (by decide) hF
              have st10371 : (va_up F_lp10234 30 (upd (F_lp10234 30) (x2_lp10234 : Int32).toNatClampNeg z10368)) 30 = upd (F_lp10234 30) (x2_lp10234 : Int32).toNatClampNeg z10368 := va_up_self _ _ _
              have sn10372 : ∀ k9, k9 ≠ 30 → (va_up F_lp10234 30 (upd (F_lp10234 30) (x2_lp10234 : Int32).toNatClampNeg z10368)) k9 = F_lp10234 k9 := fun k9 h9 => va_up_ne _ _ h9
              have hP : va_P (dC, dI) classes (wM g c v_lp10234 (va_up F_lp10234 30 (upd (F_lp10234 30) (x2_lp10234 : Int32).toNatClampNeg z10368)) rc) H := hP
              generalize (va_up F_lp10234 30 (upd (F_lp10234 30) (x2_lp10234 : Int32).toNatClampNeg z10368)) = F10370 at hP hI hF st10371 sn10372
              obtain ⟨z10373, e10374⟩ : ∃ y : Int32, y = x2_lp10234 + 1 := ⟨_, rfl⟩
              try (have t10375 := tadd e10374 rfl (b := 1) (by decide) (by omega))
              refine lv_iinc (v := z10373) (lv' := [(2, .int z10373), (4, .int z10254), (3, .int x3_lp10234), (0, .ref (g 0)), (1, .int p0)]) hx hb dX12_works_76 hl (k := 2) rfl (by rw [e10374]; rfl) (by decide) rfl (fun ls hl => ?_)
              refine lv_goto (tgt := 186) hx hb dX12_works_79 (by decide) ?_
              obtain ⟨z10376, e10377⟩ : ∃ y : Int32, y = x3_lp10234 + 1 := ⟨_, rfl⟩
              try (have t10378 := tadd e10377 rfl (b := 1) (by decide) (by omega))
              refine lv_iinc (v := z10376) (lv' := [(3, .int z10376), (2, .int z10373), (4, .int z10254), (0, .ref (g 0)), (1, .int p0)]) hx hb dX12_works_186 hl (k := 2) rfl (by rw [e10377]; rfl) (by decide) rfl (fun ls hl => ?_)
              refine lv_goto (tgt := 8) hx hb dX12_works_189 (by decide) ?_
              exact ih_lp10234 z10376 z10373 v_lp10234 F10370 _ _ _ (by omega) (by omega) (by omega) (by omega) (dpI.to hn9 (by omega) (by omega)) (by omega) hf_lp10234 hI hF hP hS (lv_sub hl [0, 1, 3, 4] rfl)
            · skip
              have t10379 := cv_eq (a := z10254.toInt) rfl (b := 1) (by decide) c10364
              refine lv_aload_n hx hb dX12_works_55 rfl (lv_at hl 3 rfl) ?_
              refine va_get (D := (dC, dI)) (ci := 12) (v := .ref (g 29)) (C := RX12) (T := TX12) (N := 63) hx hb hwd inA_X12 hown hK hP 0 rfl rfl 36 (by decide) (hwd _ wk_211) (fun _ h9 => h9) rfl dX12_works_56 ?_
              refine lv_iload_n hx hb dX12_works_59 rfl (lv_at hl 1 rfl) ?_
              refine va_iald hx hb hK hP 29 28 rfl rfl (i := x3_lp10234) (vin (a := x3_lp10234.toInt) rfl (by omega)) dX12_works_60 ?_
              refine lv_topi (fun z10380 e10381 => ?_)
              have e10381 : z10380 = F 29 (x3_lp10234 : Int32).toNatClampNeg := e10381.trans (congrFun (hF 29 (by decide)) _)
              have tzz10380 : z10380.toInt = (F 29 (x3_lp10234 : Int32).toNatClampNeg).toInt := congrArg Int32.toInt e10381
              refine lv_goto (tgt := 75) hx hb dX12_works_61 (by decide) ?_
              refine va_iast hx hb hK hP (DM hg) hS 30 29 rfl rfl (i := x2_lp10234) (x := z10380) (vin (a := x2_lp10234.toInt) rfl (by omega)) dX12_works_75 (fun H locs hP _ hS => ?_)
              have hP := va_P_eq (sM_30 g c _ _ _ _) hP
              have hI := IM.store0 hI 30 (x2_lp10234 : Int32).toNatClampNeg z10380 rfl
              have hF := frUF (k := 30) (f := upd (F_lp10234 30) (x2_lp10234 : Int32).toNatClampNeg z10380) (by decide) hF
              have st10383 : (va_up F_lp10234 30 (upd (F_lp10234 30) (x2_lp10234 : Int32).toNatClampNeg z10380)) 30 = upd (F_lp10234 30) (x2_lp10234 : Int32).toNatClampNeg z10380 := va_up_self _ _ _
              have sn10384 : ∀ k9, k9 ≠ 30 → (va_up F_lp10234 30 (upd (F_lp10234 30) (x2_lp10234 : Int32).toNatClampNeg z10380)) k9 = F_lp10234 k9 := fun k9 h9 => va_up_ne _ _ h9
              have hP : va_P (dC, dI) classes (wM g c v_lp10234 (va_up F_lp10234 30 (upd (F_lp10234 30) (x2_lp10234 : Int32).toNatClampNeg z10380)) rc) H := hP
              generalize (va_up F_lp10234 30 (upd (F_lp10234 30) (x2_lp10234 : Int32).toNatClampNeg z10380)) = F10382 at hP hI hF st10383 sn10384
              obtain ⟨z10385, e10386⟩ : ∃ y : Int32, y = x2_lp10234 + 1 := ⟨_, rfl⟩
              try (have t10387 := tadd e10386 rfl (b := 1) (by decide) (by omega))
              refine lv_iinc (v := z10385) (lv' := [(2, .int z10385), (4, .int z10254), (3, .int x3_lp10234), (0, .ref (g 0)), (1, .int p0)]) hx hb dX12_works_76 hl (k := 2) rfl (by rw [e10386]; rfl) (by decide) rfl (fun ls hl => ?_)
              refine lv_goto (tgt := 186) hx hb dX12_works_79 (by decide) ?_
              obtain ⟨z10388, e10389⟩ : ∃ y : Int32, y = x3_lp10234 + 1 := ⟨_, rfl⟩
              try (have t10390 := tadd e10389 rfl (b := 1) (by decide) (by omega))
              refine lv_iinc (v := z10388) (lv' := [(3, .int z10388), (2, .int z10385), (4, .int z10254), (0, .ref (g 0)), (1, .int p0)]) hx hb dX12_works_186 hl (k := 2) rfl (by rw [e10389]; rfl) (by decide) rfl (fun ls hl => ?_)
              refine lv_goto (tgt := 8) hx hb dX12_works_189 (by decide) ?_
              exact ih_lp10234 z10388 z10385 v_lp10234 F10382 _ _ _ (by omega) (by omega) (by omega) (by omega) (dpI.to hn9 (by omega) (by omega)) (by omega) hf_lp10234 hI hF hP hS (lv_sub hl [0, 1, 3, 4] rfl)
  obtain ⟨n9, hn9⟩ : ∃ n : Nat, 2147483648 - z10231.toInt ≤ (n : Int) := ⟨((2147483648 - z10231.toInt : Int)).toNat, by omega⟩
  exact lp10234 n9 z10231 0 v F H _ ls (by have : (0 : Int32).toInt = 0 := (by decide); omega) (by have : (0 : Int32).toInt = 0 := (by decide); omega) (by have : (0 : Int32).toInt = 0 := (by decide); omega) (by have : (0 : Int32).toInt = 0 := (by decide); omega) (by refine ⟨by decide, by omega, by omega, ?_⟩; have e9 : (z10231.toInt - 130 * p0.toInt).toNat = 0 := (by omega); rw [e9]; rfl) (by have : (0 : Int32).toInt = 0 := (by decide); omega) (fun _ _ => rfl) hI hF hP hS hl
