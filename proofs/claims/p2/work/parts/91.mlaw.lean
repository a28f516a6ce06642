set_option maxHeartbeats 8000000 in
set_option maxRecDepth 100000 in
theorem c_X12_law (l : Launch) (dC : Nat → ClassId) (dI : Nat → Nat → Nat) (g : Nat → Nat) (c : Nat → ClassId) (adK adV : Nat → Nat) (v : Nat → Int32) (F : Nat → Nat → Int32) (rc sz : Nat) (p0 : Int32) (hg : injM g) (hI : IM v F) (hL : JL (v 31) (F 28) (F 29) (F 27)) : Met l yX12_law (Cond.code yX12_law cX12_law 2 (some .int) :: wA) ({ frames := 39, cells := 0, slots := 0, locals := 1560 }) (va_Pc [.ref (g 0), .int p0] (PM dC dI g c adK adV v F rc sz)) (va_Qi (fun (r : Int32) (u : StM) => IM u.1 u.2.1 ∧ u.2.2 = rc ∧ (∀ k, k ∉ ([30, 31, 37, 38, 39, 40, 41, 42] : List Nat) → u.1 k = v k) ∧ (∀ k, k ∉ ([25, 26, 27, 28, 29] : List Nat) → u.2.1 k = F k) ∧ JL (u.1 31) (u.2.1 28) (u.2.1 29) (u.2.1 27)) (BM dC dI g c) (AM g sz)) 0 0 (AM g sz) := by
  refine Met.ofW (cc := cX12_law) (maxL := 2) (ret := (some .int)) (by decide) rfl ?_
  intro p e s m args below meth c0 s₁ B hml hv
  obtain ⟨rfl, hsz, hP, hK, hE⟩ := hv
  have hx := B.exec
  have hb := B.bytes
  have hr := B.returns
  have hts := atoms_spec (ws := Cond.code yX12_law cX12_law 2 (some .int) :: wA) B.pre
  have hwd : ∀ w ∈ wA, w.before _ s = true := fun w h => hts w (List.mem_cons_of_mem _ h)
  have hown : s.vm.findClass RX12 = some m.cls := findClass_of_methodNamed B.named
  have hlocks := B.notSynchronized
  subst hsz
  have hl := lv_entry ([.ref (g 0), .int p0]) (n := 2) (Nat.le_of_ble_eq_true rfl)
  rw [lg_entry_eq]
  generalize (lg_sl ([.ref (g 0), .int p0]) ++ List.replicate (2 - (lg_sl ([.ref (g 0), .int p0])).length) Slot.unset).toArray = ls at hl ⊢
  have hl : lv_has ls 2 [(0, .ref (g 0)), (1, .int p0)] := hl
  obtain ⟨H, eH⟩ : ∃ z, z = s.heap := ⟨_, rfl⟩
  have hP : va_P (dC, dI) classes (wM g c v F rc) H := by rw [eH]; exact hP
  have hS : va_S (AM g s.heap.size) s.heap H [] := by rw [eH]; exact va_S.rf
  refine my_heap eH ?_
  have hF : ∀ k, k ∉ ([25, 26, 27, 28, 29] : List Nat) → F k = F k := fun _ _ => rfl
  have rp0 := i32_rng p0
  have hb31 : 0 ≤ (v 31).toInt ∧ (v 31).toInt ≤ 10 := hI.1 31 _ _ rfl
  have hI0 := hI
  refine lv_iload_n hx hb dX12_law_0 rfl (lv_at hl 1 rfl) ?_
  refine va_calli (va_runS (As := [.int p0]) (rest := []) ⟨hx, hb, hml, hown, hwd⟩ (c_X12_isDay l dC dI g c adK adV v F rc H.size p0 hg hI ) (va_cwS 1 hwd (gT wk_556 wk_554 wk_555 wk_5) rfl rfl rfl (by decide +kernel) ⟨Nat.le_of_ble_eq_true rfl, Nat.le_of_ble_eq_true rfl⟩) ⟨PM.blind, fun U hU hW => ⟨rfl, PM.at hK hE hP hS hU hW⟩⟩ rfl rfl hl.1 rfl (lv_room (Nat.le_of_ble_eq_true rfl)) dX12_law_1 ⟨Nat.le_of_ble_eq_true rfl, Nat.le_of_ble_eq_true rfl⟩) hS (fun q _ h => (freeM hS) q h) (freeM hS) (fun r24763 u t H1 locs ht hvm hw hB hz1 hk1 hS => ?_)
  unfold BM at hB
  rw [ht] at hB
  have hP : va_P (dC, dI) classes (wM g c v F rc) H1 := hB
  have hw : (r24763.toInt = 1 ∧ 0 ≤ p0.toInt ∧ p0.toInt ≤ 9999) ∨ (r24763.toInt = 0 ∧ (p0.toInt < 0 ∨ 9999 < p0.toInt)) := hw
  have hw_r24763 := hw
  generalize H1 = H at hP hS ⊢
  refine lv_if_ne (tgt := 9) hx hb dX12_law_4 (by decide) (fun c24764 => ?_) (fun c24764 => ?_)
  · skip
    have t24765 := cv_ne (a := r24763.toInt) rfl (b := 0) (by decide) c24764
    refine lv_aload_n hx hb dX12_law_9 rfl (lv_at hl 0 rfl) ?_
    refine va_get (D := (dC, dI)) (ci := 12) (v := .int (v 31)) (C := RX12) (T := TX12) (N := 63) hx hb hwd inA_X12 hown hK hP 0 rfl rfl 31 (by decide) (hwd _ wk_505) (fun _ h9 => h9) rfl dX12_law_10 ?_
    have t24766 : 0 ≤ (v 31).toInt ∧ (v 31).toInt ≤ 10 := hI.1 31 _ _ rfl
    refine lv_bipush (v := 10) hx hb dX12_law_13 (by decide) ?_
    refine lv_icmp_ne (tgt := 21) hx hb dX12_law_15 (by decide) (fun c24767 => ?_) (fun c24767 => ?_)
    · skip
      have t24768 := cv_ne (a := (v 31).toInt) rfl (b := 10) (by decide) c24767
      refine lv_aload_n hx hb dX12_law_21 rfl (lv_at hl 0 rfl) ?_
      refine lv_aload_n hx hb dX12_law_22 rfl (lv_at hl 0 rfl) ?_
      refine va_get (D := (dC, dI)) (ci := 12) (v := .int (v 31)) (C := RX12) (T := TX12) (N := 63) hx hb hwd inA_X12 hown hK hP 0 rfl rfl 31 (by decide) (hwd _ wk_505) (fun _ h9 => h9) rfl dX12_law_23 ?_
      have t24769 : 0 ≤ (v 31).toInt ∧ (v 31).toInt ≤ 10 := hI.1 31 _ _ rfl
      refine va_put (D := (dC, dI)) (ci := 12) (v := .int (v 31)) (ty := .int) (C := RX12) (T := TX12) (N := 63) (fs := fsM_0 g v rc) hx hb hwd inA_X12 tyX12 tyX12_ok nmX12 hown hK hP (DM hg) hS 0 rfl rfl 37 (by decide) (hwd _ wk_1002) (fun _ h9 => h9) rfl (by decide +kernel) rfl rfl (Nat.le_of_ble_eq_true rfl) dX12_law_26 (fun H locs hP _ hS => ?_)
      have hP := va_P_eq (pM_37 g c _ _ _ _) hP
      have hI := IM.put hI 37 (v 31) rfl (by omega)
      refine lv_aload_n hx hb dX12_law_29 rfl (lv_at hl 0 rfl) ?_
      refine lv_iconst (v := 0) hx hb dX12_law_30 (by decide) ?_
      refine va_put (D := (dC, dI)) (ci := 12) (v := .int 0) (ty := .int) (C := RX12) (T := TX12) (N := 63) (fs := fsM_0 g (va_up v 37 (v 31)) rc) hx hb hwd inA_X12 tyX12 tyX12_ok nmX12 hown hK hP (DM hg) hS 0 rfl rfl 38 (by decide) (hwd _ wk_1003) (fun _ h9 => h9) rfl (by decide +kernel) rfl rfl (Nat.le_of_ble_eq_true rfl) dX12_law_31 (fun H locs hP _ hS => ?_)
      have hP := va_P_eq (pM_38 g c _ _ _ _) hP
      have hI := IM.put hI 38 0 rfl (by have : (0 : Int32).toInt = 0 := (by decide); omega)
      refine lv_aload_n hx hb dX12_law_34 rfl (lv_at hl 0 rfl) ?_
      refine lv_iconst (v := 0) hx hb dX12_law_35 (by decide) ?_
      refine va_put (D := (dC, dI)) (ci := 12) (v := .int 0) (ty := .int) (C := RX12) (T := TX12) (N := 63) (fs := fsM_0 g (va_up (va_up v 37 (v 31)) 38 0) rc) hx hb hwd inA_X12 tyX12 tyX12_ok nmX12 hown hK hP (DM hg) hS 0 rfl rfl 39 (by decide) (hwd _ wk_1004) (fun _ h9 => h9) rfl (by decide +kernel) rfl rfl (Nat.le_of_ble_eq_true rfl) dX12_law_36 (fun H locs hP _ hS => ?_)
      have hP := va_P_eq (pM_39 g c _ _ _ _) hP
      have hI := IM.put hI 39 0 rfl (by have : (0 : Int32).toInt = 0 := (by decide); omega)
      refine lv_aload_n hx hb dX12_law_39 rfl (lv_at hl 0 rfl) ?_
      refine lv_iconst (v := (-1)) hx hb dX12_law_40 (by decide) ?_
      refine va_put (D := (dC, dI)) (ci := 12) (v := .int (-1)) (ty := .int) (C := RX12) (T := TX12) (N := 63) (fs := fsM_0 g (va_up (va_up (va_up v 37 (v 31)) 38 0) 39 0) rc) hx hb hwd inA_X12 tyX12 tyX12_ok nmX12 hown hK hP (DM hg) hS 0 rfl rfl 40 (by decide) (hwd _ wk_1005) (fun _ h9 => h9) rfl (by decide +kernel) rfl rfl (Nat.le_of_ble_eq_true rfl) dX12_law_41 (fun H locs hP _ hS => ?_)
      have hP := va_P_eq (pM_40 g c _ _ _ _) hP
      have hI := IM.put0 hI 40 (-1) rfl
      refine lv_aload_n hx hb dX12_law_44 rfl (lv_at hl 0 rfl) ?_
      refine lv_iconst (v := 0) hx hb dX12_law_45 (by decide) ?_
      refine va_put (D := (dC, dI)) (ci := 12) (v := .int 0) (ty := .int) (C := RX12) (T := TX12) (N := 63) (fs := fsM_0 g (va_up (va_up (va_up (va_up v 37 (v 31)) 38 0) 39 0) 40 (-1)) rc) hx hb hwd inA_X12 tyX12 tyX12_ok nmX12 hown hK hP (DM hg) hS 0 rfl rfl 41 (by decide) (hwd _ wk_1006) (fun _ h9 => h9) rfl (by decide +kernel) rfl rfl (Nat.le_of_ble_eq_true rfl) dX12_law_46 (fun H locs hP _ hS => ?_)
      have hP := va_P_eq (pM_41 g c _ _ _ _) hP
      have hI := IM.put hI 41 0 rfl (by have : (0 : Int32).toInt = 0 := (by decide); omega)
      refine lv_aload_n hx hb dX12_law_49 rfl (lv_at hl 0 rfl) ?_
      have t24770 : 0 ≤ (v 30).toInt ∧ (v 30).toInt ≤ 120 := hI.1 30 _ _ rfl
      have t24771 : 0 ≤ (v 31).toInt ∧ (v 31).toInt ≤ 9 := hI.1 37 _ _ rfl
      refine va_callv (va_runV (As := []) (rest := []) ⟨hx, hb, hml, hown, hwd⟩ (c_X12_either_0 l dC dI g c adK adV (va_up (va_up (va_up (va_up (va_up v 37 (v 31)) 38 0) 39 0) 40 (-1)) 41 0) F rc H.size  0 hg hI (by have h9 : (va_up (va_up (va_up (va_up (va_up v 37 (v 31)) 38 0) 39 0) 40 (-1)) 41 0) 38 = 0 := rfl; (try rw [h9]); clear h9; have : (0 : Int32).toInt = 0 := (by decide); have h9 : (va_up (va_up (va_up (va_up (va_up v 37 (v 31)) 38 0) 39 0) 40 (-1)) 41 0) 39 = 0 := rfl; (try rw [h9]); clear h9; have : (0 : Int32).toInt = 0 := (by decide); have h9 : (va_up (va_up (va_up (va_up (va_up v 37 (v 31)) 38 0) 39 0) 40 (-1)) 41 0) 30 = v 30 := rfl; (try rw [h9]); clear h9; have h9 : (va_up (va_up (va_up (va_up (va_up v 37 (v 31)) 38 0) 39 0) 40 (-1)) 41 0) 40 = (-1) := rfl; (try rw [h9]); clear h9; have : ((-1) : Int32).toInt = (-1) := (by decide); have h9 : (va_up (va_up (va_up (va_up (va_up v 37 (v 31)) 38 0) 39 0) 40 (-1)) 41 0) 41 = 0 := rfl; (try rw [h9]); clear h9; have : (0 : Int32).toInt = 0 := (by decide); omega) (by rfl)) (cwV 0 hwd (gV wk_1010 wk_1007 wk_1008 wk_1009 wk_5) rfl rfl rfl (by decide +kernel) ⟨Nat.le_of_ble_eq_true rfl, Nat.le_of_ble_eq_true rfl⟩) ⟨PM.blind, va_recv hK hP (ci := 12) (q0 := 0) rfl rfl, fun U hU hW => ⟨rfl, PM.at hK hE hP hS hU hW⟩⟩ rfl rfl hl.1 rfl (lv_room (Nat.le_of_ble_eq_true rfl)) dX12_law_50 ⟨Nat.le_of_ble_eq_true rfl, Nat.le_of_ble_eq_true rfl⟩) hS (fun q _ h => (freeM hS) q h) (freeM hS) (fun u t H1 locs ht hvm hw hB hz1 hk1 hS => ?_)
      unfold BM at hB
      rw [ht] at hB
      obtain ⟨v24773, F24774, rc9⟩ := u
      obtain ⟨hI, hrc, hf24775, hG24776, hw⟩ := hw
      dsimp only at hI hrc hB hf24775 hG24776 hw
      have hF := frCF (by decide) hG24776 hF
      rw [hrc] at hB
      have hP : va_P (dC, dI) classes (wM g c v24773 F24774 rc) H1 := hB
      have hw : ((0 : Int32).toInt ≤ (v24773 39).toInt ∧ (v24773 39).toInt ≤ (v 30).toInt ∧ (0 : Int32).toInt ≤ (v24773 38).toInt ∧ (v24773 38).toInt - (0 : Int32).toInt ≤ (v24773 39).toInt - (0 : Int32).toInt ∧ (0 : Int32).toInt ≤ (v24773 41).toInt ∧ ((v24773 40).toInt < 0 → (v24773 41).toInt = (0 : Int32).toInt)) ∧ keepL (v 31) (F 28) (F 29) (F24774 28) (F24774 29) ∧ ((v24773 40).toInt < 0 → dp (F24774 28) (F24774 29) (bI (v 31)) (v24773 38).toInt.toNat = some (0 + 1)) := hw
      have hw_r24772 := hw
      have t24777 : 0 ≤ (v24773 38).toInt ∧ (v24773 38).toInt ≤ 120 := hI.1 38 _ _ rfl
      have t24778 : 0 ≤ (v24773 39).toInt ∧ (v24773 39).toInt ≤ 120 := hI.1 39 _ _ rfl
      have t24779 : 0 ≤ (v24773 41).toInt ∧ (v24773 41).toInt ≤ 8 := hI.1 41 _ _ rfl
      generalize H1 = H at hP hS ⊢
      refine lv_aload_n hx hb dX12_law_53 rfl (lv_at hl 0 rfl) ?_
      refine va_get (D := (dC, dI)) (ci := 12) (v := .int (v24773 39)) (C := RX12) (T := TX12) (N := 63) hx hb hwd inA_X12 hown hK hP 0 rfl rfl 39 (by decide) (hwd _ wk_1004) (fun _ h9 => h9) rfl dX12_law_54 ?_
      have t24780 : 0 ≤ (v24773 39).toInt ∧ (v24773 39).toInt ≤ 120 := hI.1 39 _ _ rfl
      refine lv_aload_n hx hb dX12_law_57 rfl (lv_at hl 0 rfl) ?_
      refine va_get (D := (dC, dI)) (ci := 12) (v := .int (v24773 30)) (C := RX12) (T := TX12) (N := 63) hx hb hwd inA_X12 hown hK hP 0 rfl rfl 30 (by decide) (hwd _ wk_839) (fun _ h9 => h9) rfl dX12_law_58 ?_
      refine my_top (v := v 30) (hf24775 30 (by decide)) ?_
      have t24781 : 0 ≤ (v 30).toInt ∧ (v 30).toInt ≤ 120 := by have h9 := hI.1 30 _ _ rfl; rw [show v24773 30 = v 30 from hf24775 30 (by decide)] at h9; exact h9
      refine lv_icmp_ge (tgt := 68) hx hb dX12_law_61 (by decide) (fun c24782 => ?_) (fun c24782 => ?_)
      · skip
        have t24783 := cv_le (a := (v 30).toInt) rfl (b := (v24773 39).toInt) rfl c24782
        refine lv_aload_n hx hb dX12_law_68 rfl (lv_at hl 0 rfl) ?_
        refine lv_iconst (v := 0) hx hb dX12_law_69 (by decide) ?_
        refine va_put (D := (dC, dI)) (ci := 12) (v := .int 0) (ty := .int) (C := RX12) (T := TX12) (N := 63) (fs := fsM_0 g v24773 rc) hx hb hwd inA_X12 tyX12 tyX12_ok nmX12 hown hK hP (DM hg) hS 0 rfl rfl 30 (by decide) (hwd _ wk_839) (fun _ h9 => h9) rfl (by decide +kernel) rfl rfl (Nat.le_of_ble_eq_true rfl) dX12_law_70 (fun H locs hP _ hS => ?_)
        have hP := va_P_eq (pM_30 g c _ _ _ _) hP
        have hI := IM.put hI 30 0 rfl (by have : (0 : Int32).toInt = 0 := (by decide); omega)
        refine lv_aload_n hx hb dX12_law_73 rfl (lv_at hl 0 rfl) ?_
        refine va_get (D := (dC, dI)) (ci := 12) (v := .int (v24773 40)) (C := RX12) (T := TX12) (N := 63) hx hb hwd inA_X12 hown hK hP 0 rfl rfl 40 (by decide) (hwd _ wk_1005) (fun _ h9 => h9) rfl dX12_law_74 ?_
        refine lv_if_lt (tgt := 88) hx hb dX12_law_77 (by decide) (fun c24784 => ?_) (fun c24784 => ?_)
        · skip
          have t24785 := cv_lt (a := (v24773 40).toInt) rfl (b := 0) (by decide) c24784
          refine lv_aload_n hx hb dX12_law_88 rfl (lv_at hl 0 rfl) ?_
          refine va_get (D := (dC, dI)) (ci := 12) (v := .ref (g 25)) (C := RX12) (T := TX12) (N := 63) hx hb hwd inA_X12 hown hK hP 0 rfl rfl 32 (by decide) (hwd _ wk_207) (fun _ h9 => h9) rfl dX12_law_89 ?_
          refine lv_aload_n hx hb dX12_law_92 rfl (lv_at hl 0 rfl) ?_
          refine va_get (D := (dC, dI)) (ci := 12) (v := .int (v24773 31)) (C := RX12) (T := TX12) (N := 63) hx hb hwd inA_X12 hown hK hP 0 rfl rfl 31 (by decide) (hwd _ wk_505) (fun _ h9 => h9) rfl dX12_law_93 ?_
          refine my_top (v := v 31) (hf24775 31 (by decide)) ?_
          have t24786 : 0 ≤ (v 31).toInt ∧ (v 31).toInt ≤ 10 := by have h9 := hI.1 31 _ _ rfl; rw [show (va_up v24773 30 0) 31 = v 31 from hf24775 31 (by decide)] at h9; exact h9
          refine lv_aload_n hx hb dX12_law_96 rfl (lv_at hl 0 rfl) ?_
          refine va_get (D := (dC, dI)) (ci := 12) (v := .int (v24773 1)) (C := RX12) (T := TX12) (N := 63) hx hb hwd inA_X12 hown hK hP 0 rfl rfl 1 (by decide) (hwd _ wk_332) (fun _ h9 => h9) rfl dX12_law_97 ?_
          refine my_top (v := v 1) (hf24775 1 (by decide)) ?_
          have t24787 : 0 ≤ (v 1).toInt ∧ (v 1).toInt ≤ 9999 := by have h9 := hI.1 1 _ _ rfl; rw [show (va_up v24773 30 0) 1 = v 1 from hf24775 1 (by decide)] at h9; exact h9
          refine va_iast hx hb hK hP (DM hg) hS 25 24 rfl rfl (i := (v 31)) (x := (v 1)) (vin (a := (v 31).toInt) rfl (by omega)) dX12_law_100 (fun H locs hP _ hS => ?_)
          have hP := va_P_eq (sM_25 g c _ _ _ _) hP
          have hI := IM.store0 hI 25 (v 31 : Int32).toNatClampNeg (v 1) rfl
          have hF := frUF (k := 25) (f := upd (F24774 25) (v 31 : Int32).toNatClampNeg (v 1)) (by decide) hF
          have st24789 : (va_up F24774 25 (upd (F24774 25) (v 31 : Int32).toNatClampNeg (v 1))) 25 = upd (F24774 25) (v 31 : Int32).toNatClampNeg (v 1) := va_up_self _ _ _
          have sn24790 : ∀ k9, k9 ≠ 25 → (va_up F24774 25 (upd (F24774 25) (v 31 : Int32).toNatClampNeg (v 1))) k9 = F24774 k9 := fun k9 h9 => va_up_ne _ _ h9
          have hP : va_P (dC, dI) classes (wM g c (va_up v24773 30 0) (va_up F24774 25 (upd (F24774 25) (v 31 : Int32).toNatClampNeg (v 1))) rc) H := hP
          generalize (va_up F24774 25 (upd (F24774 25) (v 31 : Int32).toNatClampNeg (v 1))) = F24788 at hP hI hF st24789 sn24790
          refine lv_aload_n hx hb dX12_law_101 rfl (lv_at hl 0 rfl) ?_
          refine va_get (D := (dC, dI)) (ci := 12) (v := .ref (g 26)) (C := RX12) (T := TX12) (N := 63) hx hb hwd inA_X12 hown hK hP 0 rfl rfl 33 (by decide) (hwd _ wk_208) (fun _ h9 => h9) rfl dX12_law_102 ?_
          refine lv_aload_n hx hb dX12_law_105 rfl (lv_at hl 0 rfl) ?_
          refine va_get (D := (dC, dI)) (ci := 12) (v := .int (v24773 31)) (C := RX12) (T := TX12) (N := 63) hx hb hwd inA_X12 hown hK hP 0 rfl rfl 31 (by decide) (hwd _ wk_505) (fun _ h9 => h9) rfl dX12_law_106 ?_
          refine my_top (v := v 31) (hf24775 31 (by decide)) ?_
          have t24791 : 0 ≤ (v 31).toInt ∧ (v 31).toInt ≤ 10 := by have h9 := hI.1 31 _ _ rfl; rw [show (va_up v24773 30 0) 31 = v 31 from hf24775 31 (by decide)] at h9; exact h9
          refine lv_iload_n hx hb dX12_law_109 rfl (lv_at hl 1 rfl) ?_
          refine va_iast hx hb hK hP (DM hg) hS 26 25 rfl rfl (i := (v 31)) (x := p0) (vin (a := (v 31).toInt) rfl (by omega)) dX12_law_110 (fun H locs hP _ hS => ?_)
          have hP := va_P_eq (sM_26 g c _ _ _ _) hP
          have hI := IM.store0 hI 26 (v 31 : Int32).toNatClampNeg p0 rfl
          have hF := frUF (k := 26) (f := upd (F24788 26) (v 31 : Int32).toNatClampNeg p0) (by decide) hF
          have st24793 : (va_up F24788 26 (upd (F24788 26) (v 31 : Int32).toNatClampNeg p0)) 26 = upd (F24788 26) (v 31 : Int32).toNatClampNeg p0 := va_up_self _ _ _
          have sn24794 : ∀ k9, k9 ≠ 26 → (va_up F24788 26 (upd (F24788 26) (v 31 : Int32).toNatClampNeg p0)) k9 = F24788 k9 := fun k9 h9 => va_up_ne _ _ h9
          have hP : va_P (dC, dI) classes (wM g c (va_up v24773 30 0) (va_up F24788 26 (upd (F24788 26) (v 31 : Int32).toNatClampNeg p0)) rc) H := hP
          generalize (va_up F24788 26 (upd (F24788 26) (v 31 : Int32).toNatClampNeg p0)) = F24792 at hP hI hF st24793 sn24794
          refine lv_aload_n hx hb dX12_law_111 rfl (lv_at hl 0 rfl) ?_
          refine va_get (D := (dC, dI)) (ci := 12) (v := .ref (g 27)) (C := RX12) (T := TX12) (N := 63) hx hb hwd inA_X12 hown hK hP 0 rfl rfl 34 (by decide) (hwd _ wk_209) (fun _ h9 => h9) rfl dX12_law_112 ?_
          refine lv_aload_n hx hb dX12_law_115 rfl (lv_at hl 0 rfl) ?_
          refine va_get (D := (dC, dI)) (ci := 12) (v := .int (v24773 31)) (C := RX12) (T := TX12) (N := 63) hx hb hwd inA_X12 hown hK hP 0 rfl rfl 31 (by decide) (hwd _ wk_505) (fun _ h9 => h9) rfl dX12_law_116 ?_
          refine my_top (v := v 31) (hf24775 31 (by decide)) ?_
          have t24795 : 0 ≤ (v 31).toInt ∧ (v 31).toInt ≤ 10 := by have h9 := hI.1 31 _ _ rfl; rw [show (va_up v24773 30 0) 31 = v 31 from hf24775 31 (by decide)] at h9; exact h9
          refine lv_aload_n hx hb dX12_law_119 rfl (lv_at hl 0 rfl) ?_
          refine va_get (D := (dC, dI)) (ci := 12) (v := .int (v24773 38)) (C := RX12) (T := TX12) (N := 63) hx hb hwd inA_X12 hown hK hP 0 rfl rfl 38 (by decide) (hwd _ wk_1003) (fun _ h9 => h9) rfl dX12_law_120 ?_
          have t24796 : 0 ≤ (v24773 38).toInt ∧ (v24773 38).toInt ≤ 120 := hI.1 38 _ _ rfl
          refine va_iast hx hb hK hP (DM hg) hS 27 26 rfl rfl (i := (v 31)) (x := (v24773 38)) (vin (a := (v 31).toInt) rfl (by omega)) dX12_law_123 (fun H locs hP _ hS => ?_)
          have hP := va_P_eq (sM_27 g c _ _ _ _) hP
          have hI := IM.store hI 27 (v 31 : Int32).toNatClampNeg (v24773 38) rfl (by omega)
          have hF := frUF (k := 27) (f := upd (F24792 27) (v 31 : Int32).toNatClampNeg (v24773 38)) (by decide) hF
          have st24798 : (va_up F24792 27 (upd (F24792 27) (v 31 : Int32).toNatClampNeg (v24773 38))) 27 = upd (F24792 27) (v 31 : Int32).toNatClampNeg (v24773 38) := va_up_self _ _ _
          have sn24799 : ∀ k9, k9 ≠ 27 → (va_up F24792 27 (upd (F24792 27) (v 31 : Int32).toNatClampNeg (v24773 38))) k9 = F24792 k9 := fun k9 h9 => va_up_ne _ _ h9
          have hP : va_P (dC, dI) classes (wM g c (va_up v24773 30 0) (va_up F24792 27 (upd (F24792 27) (v 31 : Int32).toNatClampNeg (v24773 38))) rc) H := hP
          generalize (va_up F24792 27 (upd (F24792 27) (v 31 : Int32).toNatClampNeg (v24773 38))) = F24797 at hP hI hF st24798 sn24799
          refine lv_aload_n hx hb dX12_law_124 rfl (lv_at hl 0 rfl) ?_
          refine lv_dup hx hb dX12_law_125 rfl ?_
          refine va_get (D := (dC, dI)) (ci := 12) (v := .int (v24773 31)) (C := RX12) (T := TX12) (N := 63) hx hb hwd inA_X12 hown hK hP 0 rfl rfl 31 (by decide) (hwd _ wk_505) (fun _ h9 => h9) rfl dX12_law_126 ?_
          refine my_top (v := v 31) (hf24775 31 (by decide)) ?_
          have t24800 : 0 ≤ (v 31).toInt ∧ (v 31).toInt ≤ 10 := by have h9 := hI.1 31 _ _ rfl; rw [show (va_up v24773 30 0) 31 = v 31 from hf24775 31 (by decide)] at h9; exact h9
          refine lv_iconst (v := 1) hx hb dX12_law_129 (by decide) ?_
          refine lv_iadd hx hb dX12_law_130 ?_
          refine lv_topi (fun z24801 e24802 => ?_)
          try (have t24803 := tadd e24802 (a := (v 31).toInt) rfl (b := 1) (by decide) (by omega))
          refine va_put (D := (dC, dI)) (ci := 12) (v := .int z24801) (ty := .int) (C := RX12) (T := TX12) (N := 63) (fs := fsM_0 g (va_up v24773 30 0) rc) hx hb hwd inA_X12 tyX12 tyX12_ok nmX12 hown hK hP (DM hg) hS 0 rfl rfl 31 (by decide) (hwd _ wk_505) (fun _ h9 => h9) rfl (by decide +kernel) rfl rfl (Nat.le_of_ble_eq_true rfl) dX12_law_131 (fun H locs hP _ hS => ?_)
          have hP := va_P_eq (pM_31 g c _ _ _ _) hP
          have hI := IM.put hI 31 z24801 rfl (by omega)
          refine lv_aload_n hx hb dX12_law_134 rfl (lv_at hl 0 rfl) ?_
          refine va_get (D := (dC, dI)) (ci := 12) (v := .int z24801) (C := RX12) (T := TX12) (N := 63) hx hb hwd inA_X12 hown hK hP 0 rfl rfl 31 (by decide) (hwd _ wk_505) (fun _ h9 => h9) rfl dX12_law_135 ?_
          have t24804 : 0 ≤ z24801.toInt ∧ z24801.toInt ≤ 10 := hI.1 31 _ _ rfl
          refine lv_iconst (v := 1) hx hb dX12_law_138 (by decide) ?_
          refine lv_isub hx hb dX12_law_139 ?_
          refine lv_topi (fun z24805 e24806 => ?_)
          try (have t24807 := tsub e24806 (a := z24801.toInt) rfl (b := 1) (by decide) (by omega))
          have hP9 : va_P (dC, dI) classes (wM g c (va_up (va_up v24773 30 0) 31 z24801) F24797 rc) H := hP
          exact W.iret (v := z24805) hx hb hr (fun t ht hW => ⟨⟨z24805, ((va_up (va_up v24773 30 0) 31 z24801), F24797, rc), rfl, ⟨hI, rfl, (frU (by decide) (frU (by decide) (frC (by decide) hf24775 (frU (by decide) (frU (by decide) (frU (by decide) (frU (by decide) (frU (by decide) (fun _ _ => rfl))))))))), hF, (by show JL ((va_up (va_up v24773 30 0) 31 z24801) 31) (F24797 28) (F24797 29) (F24797 27); rw [show (va_up (va_up v24773 30 0) 31 z24801) 31 = z24801 from rfl, show F24797 28 = F24774 28 from ((sn24799 28 (by decide)).trans ((sn24794 28 (by decide)).trans (sn24790 28 (by decide)))), show F24797 29 = F24774 29 from ((sn24799 29 (by decide)).trans ((sn24794 29 (by decide)).trans (sn24790 29 (by decide))))]; exact JL.add hL (by omega) (by omega) hw_r24772.2.1 (fun l _ => hI0.2 27 _ _ rfl l) ((st24798.trans (congrArg (fun f => upd f (v 31 : Int32).toNatClampNeg (v24773 38)) ((sn24794 27 (by decide)).trans (sn24790 27 (by decide))))).trans (congrArg (fun f => upd f (v 31 : Int32).toNatClampNeg (v24773 38)) (hG24776 27 (by decide)))) (hw_r24772.2.2 (by omega)))⟩, (by show va_P _ _ _ t.heap; rw [ht]; exact hP9)⟩, hS.F ht⟩) hS.2.2 dX12_law_140
        · skip
          have t24808 := cv_nlt (a := (v24773 40).toInt) rfl (b := 0) (by decide) c24784
          refine lv_bipush (v := (-100)) hx hb dX12_law_80 (by decide) ?_
          refine lv_aload_n hx hb dX12_law_82 rfl (lv_at hl 0 rfl) ?_
          refine va_get (D := (dC, dI)) (ci := 12) (v := .int (v24773 40)) (C := RX12) (T := TX12) (N := 63) hx hb hwd inA_X12 hown hK hP 0 rfl rfl 40 (by decide) (hwd _ wk_1005) (fun _ h9 => h9) rfl dX12_law_83 ?_
          refine lv_isub hx hb dX12_law_86 ?_
          refine lv_topi (fun z24809 e24810 => ?_)
          try (have t24811 := tsub e24810 (a := (-100)) (by decide) (b := (v24773 40).toInt) rfl (by omega))
          have hP9 : va_P (dC, dI) classes (wM g c (va_up v24773 30 0) F24774 rc) H := hP
          exact W.iret (v := z24809) hx hb hr (fun t ht hW => ⟨⟨z24809, ((va_up v24773 30 0), F24774, rc), rfl, ⟨hI, rfl, (frU (by decide) (frC (by decide) hf24775 (frU (by decide) (frU (by decide) (frU (by decide) (frU (by decide) (frU (by decide) (fun _ _ => rfl)))))))), hF, (by show JL ((va_up v24773 30 0) 31) (F24774 28) (F24774 29) (F24774 27); rw [show (va_up v24773 30 0) 31 = v 31 from hf24775 31 (by decide), show F24774 28 = F24774 28 from rfl, show F24774 29 = F24774 29 from rfl]; exact JL.keep hL hw_r24772.2.1 (fun l _ => hI0.2 27 _ _ rfl l) (hG24776 27 (by decide)))⟩, (by show va_P _ _ _ t.heap; rw [ht]; exact hP9)⟩, hS.F ht⟩) hS.2.2 dX12_law_87
      · skip
        have t24812 := cv_nle (a := (v 30).toInt) rfl (b := (v24773 39).toInt) rfl c24782
        refine lv_aload_n hx hb dX12_law_64 rfl (lv_at hl 0 rfl) ?_
        refine va_callv (va_runV (As := []) (rest := []) ⟨hx, hb, hml, hown, hwd⟩ (c_X12_wrong l dC dI g c adK adV v24773 F24774 rc H.size  hg hI ) (cwV 0 hwd (gV wk_1029 wk_1026 wk_1027 wk_1028 wk_5) rfl rfl rfl (by decide +kernel) ⟨Nat.le_of_ble_eq_true rfl, Nat.le_of_ble_eq_true rfl⟩) ⟨PM.blind, va_recv hK hP (ci := 12) (q0 := 0) rfl rfl, fun U hU hW => ⟨rfl, PM.at hK hE hP hS hU hW⟩⟩ rfl rfl hl.1 rfl (lv_room (Nat.le_of_ble_eq_true rfl)) dX12_law_65 ⟨Nat.le_of_ble_eq_true rfl, Nat.le_of_ble_eq_true rfl⟩) hS (fun q _ h => (freeM hS) q h) (freeM hS) (fun u t H1 locs ht hvm hw hB hz1 hk1 hS => ?_)
        unfold BM at hB
        rw [ht] at hB
        obtain ⟨v24814, F24815, rc9⟩ := u
        obtain ⟨hI, hrc, hf24816, hG24817, hw⟩ := hw
        dsimp only at hI hrc hB hf24816 hG24817 hw
        have hF := frCF (by decide) hG24817 hF
        rw [hrc] at hB
        have hP : va_P (dC, dI) classes (wM g c v24814 F24815 rc) H1 := hB
        have hw : 0 ≤ (v24814 40).toInt := hw
        have hw_r24813 := hw
        generalize H1 = H at hP hS ⊢
        refine lv_aload_n hx hb dX12_law_68 rfl (lv_at hl 0 rfl) ?_
        refine lv_iconst (v := 0) hx hb dX12_law_69 (by decide) ?_
        refine va_put (D := (dC, dI)) (ci := 12) (v := .int 0) (ty := .int) (C := RX12) (T := TX12) (N := 63) (fs := fsM_0 g v24814 rc) hx hb hwd inA_X12 tyX12 tyX12_ok nmX12 hown hK hP (DM hg) hS 0 rfl rfl 30 (by decide) (hwd _ wk_839) (fun _ h9 => h9) rfl (by decide +kernel) rfl rfl (Nat.le_of_ble_eq_true rfl) dX12_law_70 (fun H locs hP _ hS => ?_)
        have hP := va_P_eq (pM_30 g c _ _ _ _) hP
        have hI := IM.put hI 30 0 rfl (by have : (0 : Int32).toInt = 0 := (by decide); omega)
        refine lv_aload_n hx hb dX12_law_73 rfl (lv_at hl 0 rfl) ?_
        refine va_get (D := (dC, dI)) (ci := 12) (v := .int (v24814 40)) (C := RX12) (T := TX12) (N := 63) hx hb hwd inA_X12 hown hK hP 0 rfl rfl 40 (by decide) (hwd _ wk_1005) (fun _ h9 => h9) rfl dX12_law_74 ?_
        refine lv_if_lt (tgt := 88) hx hb dX12_law_77 (by decide) (fun c24818 => ?_) (fun c24818 => ?_)
        · skip
          have t24819 := cv_lt (a := (v24814 40).toInt) rfl (b := 0) (by decide) c24818
          refine lv_aload_n hx hb dX12_law_88 rfl (lv_at hl 0 rfl) ?_
          refine va_get (D := (dC, dI)) (ci := 12) (v := .ref (g 25)) (C := RX12) (T := TX12) (N := 63) hx hb hwd inA_X12 hown hK hP 0 rfl rfl 32 (by decide) (hwd _ wk_207) (fun _ h9 => h9) rfl dX12_law_89 ?_
          refine lv_aload_n hx hb dX12_law_92 rfl (lv_at hl 0 rfl) ?_
          refine va_get (D := (dC, dI)) (ci := 12) (v := .int (v24814 31)) (C := RX12) (T := TX12) (N := 63) hx hb hwd inA_X12 hown hK hP 0 rfl rfl 31 (by decide) (hwd _ wk_505) (fun _ h9 => h9) rfl dX12_law_93 ?_
          refine my_top (v := v 31) ((hf24816 31 (by decide)).trans (hf24775 31 (by decide))) ?_
          have t24820 : 0 ≤ (v 31).toInt ∧ (v 31).toInt ≤ 10 := by have h9 := hI.1 31 _ _ rfl; rw [show (va_up v24814 30 0) 31 = v 31 from (hf24816 31 (by decide)).trans (hf24775 31 (by decide))] at h9; exact h9
          refine lv_aload_n hx hb dX12_law_96 rfl (lv_at hl 0 rfl) ?_
          refine va_get (D := (dC, dI)) (ci := 12) (v := .int (v24814 1)) (C := RX12) (T := TX12) (N := 63) hx hb hwd inA_X12 hown hK hP 0 rfl rfl 1 (by decide) (hwd _ wk_332) (fun _ h9 => h9) rfl dX12_law_97 ?_
          refine my_top (v := v 1) ((hf24816 1 (by decide)).trans (hf24775 1 (by decide))) ?_
          have t24821 : 0 ≤ (v 1).toInt ∧ (v 1).toInt ≤ 9999 := by have h9 := hI.1 1 _ _ rfl; rw [show (va_up v24814 30 0) 1 = v 1 from (hf24816 1 (by decide)).trans (hf24775 1 (by decide))] at h9; exact h9
          refine va_iast hx hb hK hP (DM hg) hS 25 24 rfl rfl (i := (v 31)) (x := (v 1)) (vin (a := (v 31).toInt) rfl (by omega)) dX12_law_100 (fun H locs hP _ hS => ?_)
          have hP := va_P_eq (sM_25 g c _ _ _ _) hP
          have hI := IM.store0 hI 25 (v 31 : Int32).toNatClampNeg (v 1) rfl
          have hF := frUF (k := 25) (f := upd (F24815 25) (v 31 : Int32).toNatClampNeg (v 1)) (by decide) hF
          have st24823 : (va_up F24815 25 (upd (F24815 25) (v 31 : Int32).toNatClampNeg (v 1))) 25 = upd (F24815 25) (v 31 : Int32).toNatClampNeg (v 1) := va_up_self _ _ _
          have sn24824 : ∀ k9, k9 ≠ 25 → (va_up F24815 25 (upd (F24815 25) (v 31 : Int32).toNatClampNeg (v 1))) k9 = F24815 k9 := fun k9 h9 => va_up_ne _ _ h9
          have hP : va_P (dC, dI) classes (wM g c (va_up v24814 30 0) (va_up F24815 25 (upd (F24815 25) (v 31 : Int32).toNatClampNeg (v 1))) rc) H := hP
          generalize (va_up F24815 25 (upd (F24815 25) (v 31 : Int32).toNatClampNeg (v 1))) = F24822 at hP hI hF st24823 sn24824
          refine lv_aload_n hx hb dX12_law_101 rfl (lv_at hl 0 rfl) ?_
          refine va_get (D := (dC, dI)) (ci := 12) (v := .ref (g 26)) (C := RX12) (T := TX12) (N := 63) hx hb hwd inA_X12 hown hK hP 0 rfl rfl 33 (by decide) (hwd _ wk_208) (fun _ h9 => h9) rfl dX12_law_102 ?_
          refine lv_aload_n hx hb dX12_law_105 rfl (lv_at hl 0 rfl) ?_
          refine va_get (D := (dC, dI)) (ci := 12) (v := .int (v24814 31)) (C := RX12) (T := TX12) (N := 63) hx hb hwd inA_X12 hown hK hP 0 rfl rfl 31 (by decide) (hwd _ wk_505) (fun _ h9 => h9) rfl dX12_law_106 ?_
          refine my_top (v := v 31) ((hf24816 31 (by decide)).trans (hf24775 31 (by decide))) ?_
          have t24825 : 0 ≤ (v 31).toInt ∧ (v 31).toInt ≤ 10 := by have h9 := hI.1 31 _ _ rfl; rw [show (va_up v24814 30 0) 31 = v 31 from (hf24816 31 (by decide)).trans (hf24775 31 (by decide))] at h9; exact h9
          refine lv_iload_n hx hb dX12_law_109 rfl (lv_at hl 1 rfl) ?_
          refine va_iast hx hb hK hP (DM hg) hS 26 25 rfl rfl (i := (v 31)) (x := p0) (vin (a := (v 31).toInt) rfl (by omega)) dX12_law_110 (fun H locs hP _ hS => ?_)
          have hP := va_P_eq (sM_26 g c _ _ _ _) hP
          have hI := IM.store0 hI 26 (v 31 : Int32).toNatClampNeg p0 rfl
          have hF := frUF (k := 26) (f := upd (F24822 26) (v 31 : Int32).toNatClampNeg p0) (by decide) hF
          have st24827 : (va_up F24822 26 (upd (F24822 26) (v 31 : Int32).toNatClampNeg p0)) 26 = upd (F24822 26) (v 31 : Int32).toNatClampNeg p0 := va_up_self _ _ _
          have sn24828 : ∀ k9, k9 ≠ 26 → (va_up F24822 26 (upd (F24822 26) (v 31 : Int32).toNatClampNeg p0)) k9 = F24822 k9 := fun k9 h9 => va_up_ne _ _ h9
          have hP : va_P (dC, dI) classes (wM g c (va_up v24814 30 0) (va_up F24822 26 (upd (F24822 26) (v 31 : Int32).toNatClampNeg p0)) rc) H := hP
          generalize (va_up F24822 26 (upd (F24822 26) (v 31 : Int32).toNatClampNeg p0)) = F24826 at hP hI hF st24827 sn24828
          refine lv_aload_n hx hb dX12_law_111 rfl (lv_at hl 0 rfl) ?_
          refine va_get (D := (dC, dI)) (ci := 12) (v := .ref (g 27)) (C := RX12) (T := TX12) (N := 63) hx hb hwd inA_X12 hown hK hP 0 rfl rfl 34 (by decide) (hwd _ wk_209) (fun _ h9 => h9) rfl dX12_law_112 ?_
          refine lv_aload_n hx hb dX12_law_115 rfl (lv_at hl 0 rfl) ?_
          refine va_get (D := (dC, dI)) (ci := 12) (v := .int (v24814 31)) (C := RX12) (T := TX12) (N := 63) hx hb hwd inA_X12 hown hK hP 0 rfl rfl 31 (by decide) (hwd _ wk_505) (fun _ h9 => h9) rfl dX12_law_116 ?_
          refine my_top (v := v 31) ((hf24816 31 (by decide)).trans (hf24775 31 (by decide))) ?_
          have t24829 : 0 ≤ (v 31).toInt ∧ (v 31).toInt ≤ 10 := by have h9 := hI.1 31 _ _ rfl; rw [show (va_up v24814 30 0) 31 = v 31 from (hf24816 31 (by decide)).trans (hf24775 31 (by decide))] at h9; exact h9
          refine lv_aload_n hx hb dX12_law_119 rfl (lv_at hl 0 rfl) ?_
          refine va_get (D := (dC, dI)) (ci := 12) (v := .int (v24814 38)) (C := RX12) (T := TX12) (N := 63) hx hb hwd inA_X12 hown hK hP 0 rfl rfl 38 (by decide) (hwd _ wk_1003) (fun _ h9 => h9) rfl dX12_law_120 ?_
          refine my_top (v := v24773 38) (hf24816 38 (by decide)) ?_
          have t24830 : 0 ≤ (v24773 38).toInt ∧ (v24773 38).toInt ≤ 120 := by have h9 := hI.1 38 _ _ rfl; rw [show (va_up v24814 30 0) 38 = v24773 38 from hf24816 38 (by decide)] at h9; exact h9
          refine va_iast hx hb hK hP (DM hg) hS 27 26 rfl rfl (i := (v 31)) (x := (v24773 38)) (vin (a := (v 31).toInt) rfl (by omega)) dX12_law_123 (fun H locs hP _ hS => ?_)
          have hP := va_P_eq (sM_27 g c _ _ _ _) hP
          have hI := IM.store hI 27 (v 31 : Int32).toNatClampNeg (v24773 38) rfl (by omega)
          have hF := frUF (k := 27) (f := upd (F24826 27) (v 31 : Int32).toNatClampNeg (v24773 38)) (by decide) hF
          have st24832 : (va_up F24826 27 (upd (F24826 27) (v 31 : Int32).toNatClampNeg (v24773 38))) 27 = upd (F24826 27) (v 31 : Int32).toNatClampNeg (v24773 38) := va_up_self _ _ _
          have sn24833 : ∀ k9, k9 ≠ 27 → (va_up F24826 27 (upd (F24826 27) (v 31 : Int32).toNatClampNeg (v24773 38))) k9 = F24826 k9 := fun k9 h9 => va_up_ne _ _ h9
          have hP : va_P (dC, dI) classes (wM g c (va_up v24814 30 0) (va_up F24826 27 (upd (F24826 27) (v 31 : Int32).toNatClampNeg (v24773 38))) rc) H := hP
          generalize (va_up F24826 27 (upd (F24826 27) (v 31 : Int32).toNatClampNeg (v24773 38))) = F24831 at hP hI hF st24832 sn24833
          refine lv_aload_n hx hb dX12_law_124 rfl (lv_at hl 0 rfl) ?_
          refine lv_dup hx hb dX12_law_125 rfl ?_
          refine va_get (D := (dC, dI)) (ci := 12) (v := .int (v24814 31)) (C := RX12) (T := TX12) (N := 63) hx hb hwd inA_X12 hown hK hP 0 rfl rfl 31 (by decide) (hwd _ wk_505) (fun _ h9 => h9) rfl dX12_law_126 ?_
          refine my_top (v := v 31) ((hf24816 31 (by decide)).trans (hf24775 31 (by decide))) ?_
          have t24834 : 0 ≤ (v 31).toInt ∧ (v 31).toInt ≤ 10 := by have h9 := hI.1 31 _ _ rfl; rw [show (va_up v24814 30 0) 31 = v 31 from (hf24816 31 (by decide)).trans (hf24775 31 (by decide))] at h9; exact h9
          refine lv_iconst (v := 1) hx hb dX12_law_129 (by decide) ?_
          refine lv_iadd hx hb dX12_law_130 ?_
          refine lv_topi (fun z24835 e24836 => ?_)
          try (have t24837 := tadd e24836 (a := (v 31).toInt) rfl (b := 1) (by decide) (by omega))
          refine va_put (D := (dC, dI)) (ci := 12) (v := .int z24835) (ty := .int) (C := RX12) (T := TX12) (N := 63) (fs := fsM_0 g (va_up v24814 30 0) rc) hx hb hwd inA_X12 tyX12 tyX12_ok nmX12 hown hK hP (DM hg) hS 0 rfl rfl 31 (by decide) (hwd _ wk_505) (fun _ h9 => h9) rfl (by decide +kernel) rfl rfl (Nat.le_of_ble_eq_true rfl) dX12_law_131 (fun H locs hP _ hS => ?_)
          have hP := va_P_eq (pM_31 g c _ _ _ _) hP
          have hI := IM.put hI 31 z24835 rfl (by omega)
          refine lv_aload_n hx hb dX12_law_134 rfl (lv_at hl 0 rfl) ?_
          refine va_get (D := (dC, dI)) (ci := 12) (v := .int z24835) (C := RX12) (T := TX12) (N := 63) hx hb hwd inA_X12 hown hK hP 0 rfl rfl 31 (by decide) (hwd _ wk_505) (fun _ h9 => h9) rfl dX12_law_135 ?_
          have t24838 : 0 ≤ z24835.toInt ∧ z24835.toInt ≤ 10 := hI.1 31 _ _ rfl
          refine lv_iconst (v := 1) hx hb dX12_law_138 (by decide) ?_
          refine lv_isub hx hb dX12_law_139 ?_
          refine lv_topi (fun z24839 e24840 => ?_)
          try (have t24841 := tsub e24840 (a := z24835.toInt) rfl (b := 1) (by decide) (by omega))
          have hP9 : va_P (dC, dI) classes (wM g c (va_up (va_up v24814 30 0) 31 z24835) F24831 rc) H := hP
          exact W.iret (v := z24839) hx hb hr (fun t ht hW => ⟨⟨z24839, ((va_up (va_up v24814 30 0) 31 z24835), F24831, rc), rfl, ⟨hI, rfl, (frU (by decide) (frU (by decide) (frC (by decide) hf24816 (frC (by decide) hf24775 (frU (by decide) (frU (by decide) (frU (by decide) (frU (by decide) (frU (by decide) (fun _ _ => rfl)))))))))), hF, (by show JL ((va_up (va_up v24814 30 0) 31 z24835) 31) (F24831 28) (F24831 29) (F24831 27); rw [show (va_up (va_up v24814 30 0) 31 z24835) 31 = z24835 from rfl, show F24831 28 = F24774 28 from ((sn24833 28 (by decide)).trans ((sn24828 28 (by decide)).trans ((sn24824 28 (by decide)).trans (hG24817 28 (by decide))))), show F24831 29 = F24774 29 from ((sn24833 29 (by decide)).trans ((sn24828 29 (by decide)).trans ((sn24824 29 (by decide)).trans (hG24817 29 (by decide)))))]; exact JL.add hL (by omega) (by omega) hw_r24772.2.1 (fun l _ => hI0.2 27 _ _ rfl l) ((st24832.trans (congrArg (fun f => upd f (v 31 : Int32).toNatClampNeg (v24773 38)) ((sn24828 27 (by decide)).trans ((sn24824 27 (by decide)).trans (hG24817 27 (by decide)))))).trans (congrArg (fun f => upd f (v 31 : Int32).toNatClampNeg (v24773 38)) (hG24776 27 (by decide)))) (hw_r24772.2.2 (by omega)))⟩, (by show va_P _ _ _ t.heap; rw [ht]; exact hP9)⟩, hS.F ht⟩) hS.2.2 dX12_law_140
        · skip
          have t24842 := cv_nlt (a := (v24814 40).toInt) rfl (b := 0) (by decide) c24818
          refine lv_bipush (v := (-100)) hx hb dX12_law_80 (by decide) ?_
          refine lv_aload_n hx hb dX12_law_82 rfl (lv_at hl 0 rfl) ?_
          refine va_get (D := (dC, dI)) (ci := 12) (v := .int (v24814 40)) (C := RX12) (T := TX12) (N := 63) hx hb hwd inA_X12 hown hK hP 0 rfl rfl 40 (by decide) (hwd _ wk_1005) (fun _ h9 => h9) rfl dX12_law_83 ?_
          refine lv_isub hx hb dX12_law_86 ?_
          refine lv_topi (fun z24843 e24844 => ?_)
          try (have t24845 := tsub e24844 (a := (-100)) (by decide) (b := (v24814 40).toInt) rfl (by omega))
          have hP9 : va_P (dC, dI) classes (wM g c (va_up v24814 30 0) F24815 rc) H := hP
          exact W.iret (v := z24843) hx hb hr (fun t ht hW => ⟨⟨z24843, ((va_up v24814 30 0), F24815, rc), rfl, ⟨hI, rfl, (frU (by decide) (frC (by decide) hf24816 (frC (by decide) hf24775 (frU (by decide) (frU (by decide) (frU (by decide) (frU (by decide) (frU (by decide) (fun _ _ => rfl))))))))), hF, (by show JL ((va_up v24814 30 0) 31) (F24815 28) (F24815 29) (F24815 27); rw [show (va_up v24814 30 0) 31 = v 31 from (hf24816 31 (by decide)).trans (hf24775 31 (by decide)), show F24815 28 = F24774 28 from (hG24817 28 (by decide)), show F24815 29 = F24774 29 from (hG24817 29 (by decide))]; exact JL.keep hL hw_r24772.2.1 (fun l _ => hI0.2 27 _ _ rfl l) ((hG24817 27 (by decide)).trans (hG24776 27 (by decide))))⟩, (by show va_P _ _ _ t.heap; rw [ht]; exact hP9)⟩, hS.F ht⟩) hS.2.2 dX12_law_87
    · skip
      have t24846 := cv_eq (a := (v 31).toInt) rfl (b := 10) (by decide) c24767
      refine lv_bipush (v := (-3)) hx hb dX12_law_18 (by decide) ?_
      have hP9 : va_P (dC, dI) classes (wM g c v F rc) H := hP
      exact W.iret (v := (-3)) hx hb hr (fun t ht hW => ⟨⟨(-3), (v, F, rc), rfl, ⟨hI, rfl, (fun _ _ => rfl), hF, hL⟩, (by show va_P _ _ _ t.heap; rw [ht]; exact hP9)⟩, hS.F ht⟩) hS.2.2 dX12_law_20
  · skip
    have t24847 := cv_eq (a := r24763.toInt) rfl (b := 0) (by decide) c24764
    refine lv_iconst (v := (-1)) hx hb dX12_law_7 (by decide) ?_
    have hP9 : va_P (dC, dI) classes (wM g c v F rc) H := hP
    exact W.iret (v := (-1)) hx hb hr (fun t ht hW => ⟨⟨(-1), (v, F, rc), rfl, ⟨hI, rfl, (fun _ _ => rfl), hF, hL⟩, (by show va_P _ _ _ t.heap; rw [ht]; exact hP9)⟩, hS.F ht⟩) hS.2.2 dX12_law_8
set_option maxHeartbeats 8000000 in
set_option maxRecDepth 100000 in
theorem c_X12_works (l : Launch) (dC : Nat → ClassId) (dI : Nat → Nat → Nat) (g : Nat → Nat) (c : Nat → ClassId) (adK adV : Nat → Nat) (v : Nat → Int32) (F : Nat → Nat → Int32) (rc sz : Nat) (p0 : Int32) (hg : injM g) (hI : IM v F) (h0 : 0 ≤ p0.toInt ∧ p0.toInt ≤ 9) (hD : ∃ D, dp (F 28) (F 29) (bI p0) (F 27 p0.toNatClampNeg).toInt.toNat = some D) : Met l yX12_works (Cond.code yX12_works cX12_works 5 (some .int) :: wA) ({ frames := 2, cells := 0, slots := 0, locals := 80 }) (va_Pc [.ref (g 0), .int p0] (PM dC dI g c adK adV v F rc sz)) (va_Qi (fun (r : Int32) (u : StM) => IM u.1 u.2.1 ∧ u.2.2 = rc ∧ (∀ k, k ∉ ([] : List Nat) → u.1 k = v k) ∧ (∀ k, k ∉ ([30] : List Nat) → u.2.1 k = F k) ∧ True) (BM dC dI g c) (AM g sz)) 0 0 (AM g sz) := by
  refine Met.ofW (cc := cX12_works) (maxL := 5) (ret := (some .int)) (by decide) rfl ?_
  intro p e s m args below meth c0 s₁ B hml hv
  obtain ⟨rfl, hsz, hP, hK, hE⟩ := hv
  have hx := B.exec
  have hb := B.bytes
  have hr := B.returns
  have hts := atoms_spec (ws := Cond.code yX12_works cX12_works 5 (some .int) :: wA) B.pre
  have hwd : ∀ w ∈ wA, w.before _ s = true := fun w h => hts w (List.mem_cons_of_mem _ h)
  have hown : s.vm.findClass RX12 = some m.cls := findClass_of_methodNamed B.named
  have hlocks := B.notSynchronized
  subst hsz
  have hl := lv_entry ([.ref (g 0), .int p0]) (n := 5) (Nat.le_of_ble_eq_true rfl)
  rw [lg_entry_eq]
  generalize (lg_sl ([.ref (g 0), .int p0]) ++ List.replicate (5 - (lg_sl ([.ref (g 0), .int p0])).length) Slot.unset).toArray = ls at hl ⊢
  have hl : lv_has ls 5 [(0, .ref (g 0)), (1, .int p0)] := hl
  obtain ⟨H, eH⟩ : ∃ z, z = s.heap := ⟨_, rfl⟩
  have hP : va_P (dC, dI) classes (wM g c v F rc) H := by rw [eH]; exact hP
  have hS : va_S (AM g s.heap.size) s.heap H [] := by rw [eH]; exact va_S.rf
  refine my_heap eH ?_
  have hF : ∀ k, k ∉ ([30] : List Nat) → F k = F k := fun _ _ => rfl
  have rp0 := i32_rng p0
  refine lv_iconst (v := 0) hx hb dX12_works_0 (by decide) ?_
  refine lv_istore_n (lv' := [(2, .int 0), (0, .ref (g 0)), (1, .int p0)]) hx hb dX12_works_1 rfl hl (by decide) rfl (fun ls hl => ?_)
  refine lv_sipush (v := 130) hx hb dX12_works_2 (by decide) ?_
  refine lv_iload_n hx hb dX12_works_5 rfl (lv_at hl 2 rfl) ?_
  refine lv_imul hx hb dX12_works_6 ?_
  refine lv_topi (fun z25008 e25009 => ?_)
  try (have t25010 := tmul e25009 (a := 130) (by decide) (b := p0.toInt) rfl (by omega))
  refine lv_istore_n (lv' := [(3, .int z25008), (2, .int 0), (0, .ref (g 0)), (1, .int p0)]) hx hb dX12_works_7 rfl hl (by decide) rfl (fun ls hl => ?_)
  have lp25011 : ∀ (n : Nat) (x3_lp25011 : Int32) (x2_lp25011 : Int32) (v_lp25011 : Nat → Int32) (F_lp25011 : Nat → Nat → Int32) (H : Heap) (locs : List Loc) (ls : Array Slot), (0 ≤ x3_lp25011.toInt) → (x3_lp25011.toInt ≤ 1300) → (0 ≤ x2_lp25011.toInt) → (x2_lp25011.toInt ≤ 120) → (dpI (F 28) (F 29) (130 * p0.toInt) x3_lp25011.toInt x2_lp25011.toInt) → (2147483648 - x3_lp25011.toInt ≤ (n : Int)) → (∀ k, k ∉ ([] : List Nat) → v_lp25011 k = v k) → IM v_lp25011 F_lp25011 → (∀ k, k ∉ ([30] : List Nat) → F_lp25011 k = F k) → va_P (dC, dI) classes (wM g c v_lp25011 F_lp25011 rc) H → va_S (AM g s.heap.size) s.heap H locs → lv_has ls 5 [(3, .int x3_lp25011), (2, .int x2_lp25011), (0, .ref (g 0)), (1, .int p0)] → W p l e (headSpec (Cond.code yX12_works cX12_works 5 (some .int) :: wA) ({ frames := 2, cells := 0, slots := 0, locals := 80 })).room s m ([.ref (g 0), .int p0] : List Value).toArray below meth c0 H locs 0 0 (MQ below (va_Qi (fun (r : Int32) (u : StM) => IM u.1 u.2.1 ∧ u.2.2 = rc ∧ (∀ k, k ∉ ([] : List Nat) → u.1 k = v k) ∧ (∀ k, k ∉ ([30] : List Nat) → u.2.1 k = F k) ∧ True) (BM dC dI g c) (AM g s.heap.size)) ([.ref (g 0), .int p0] : List Value).toArray s 0 0 (AM g s.heap.size)) (F0 m 8 ls []) := by
    intro n
    induction n with
    | zero =>
      intro x3_lp25011 x2_lp25011 v_lp25011 F_lp25011 H locs ls t25012 t25013 t25014 t25015 t25016 hm hf_lp25011 hI hF hP hS hl
      exfalso
      have := i32_rng x3_lp25011
      have := i32_rng x2_lp25011
      have hI1 := hI.1
      omega
    | succ n ih_lp25011 =>
      intro x3_lp25011 x2_lp25011 v_lp25011 F_lp25011 H locs ls t25012 t25013 t25014 t25015 t25016 hm hf_lp25011 hI hF hP hS hl
      have rx3_lp25011 := i32_rng x3_lp25011
      have rx2_lp25011 := i32_rng x2_lp25011
      have hle := dpI.le t25016
      refine lv_iload_n hx hb dX12_works_8 rfl (lv_at hl 0 rfl) ?_
      refine lv_sipush (v := 130) hx hb dX12_works_9 (by decide) ?_
      refine lv_iload_n hx hb dX12_works_12 rfl (lv_at hl 3 rfl) ?_
      refine lv_imul hx hb dX12_works_13 ?_
      refine lv_topi (fun z25017 e25018 => ?_)
      try (have t25019 := tmul e25018 (a := 130) (by decide) (b := p0.toInt) rfl (by omega))
      refine lv_aload_n hx hb dX12_works_14 rfl (lv_at hl 2 rfl) ?_
      refine va_get (D := (dC, dI)) (ci := 12) (v := .ref (g 27)) (C := RX12) (T := TX12) (N := 63) hx hb hwd inA_X12 hown hK hP 0 rfl rfl 34 (by decide) (hwd _ wk_209) (fun _ h9 => h9) rfl dX12_works_15 ?_
      refine lv_iload_n hx hb dX12_works_18 rfl (lv_at hl 3 rfl) ?_
      refine va_iald hx hb hK hP 27 26 rfl rfl (i := p0) (vin (a := p0.toInt) rfl (by omega)) dX12_works_19 ?_
      refine lv_topi (fun z25020 e25021 => ?_)
      have t25022 : 0 ≤ z25020.toInt ∧ z25020.toInt ≤ 120 := by rw [e25021]; exact hI.2 27 _ _ rfl _
      have e25021 : z25020 = F 27 (p0 : Int32).toNatClampNeg := e25021.trans (congrFun (hF 27 (by decide)) _)
      have tzz25020 : z25020.toInt = (F 27 (p0 : Int32).toNatClampNeg).toInt := congrArg Int32.toInt e25021
      refine lv_iadd hx hb dX12_works_20 ?_
      refine lv_topi (fun z25023 e25024 => ?_)
      try (have t25025 := tadd e25024 (a := z25017.toInt) rfl (b := z25020.toInt) rfl (by omega))
      refine lv_icmp_ge (tgt := 192) hx hb dX12_works_21 (by decide) (fun c25026 => ?_) (fun c25026 => ?_)
      · skip
        have t25027 := cv_le (a := z25023.toInt) rfl (b := x3_lp25011.toInt) rfl c25026
        refine lv_aload_n hx hb dX12_works_192 rfl (lv_at hl 2 rfl) ?_
        refine va_get (D := (dC, dI)) (ci := 12) (v := .ref (g 30)) (C := RX12) (T := TX12) (N := 63) hx hb hwd inA_X12 hown hK hP 0 rfl rfl 43 (by decide) (hwd _ wk_212) (fun _ h9 => h9) rfl dX12_works_193 ?_
        refine lv_iconst (v := 0) hx hb dX12_works_196 (by decide) ?_
        refine va_iald hx hb hK hP 30 29 rfl rfl (i := 0) (vin (a := 0) (by decide) (by omega)) dX12_works_197 ?_
        refine lv_topi (fun z25028 e25029 => ?_)
        have tzz25028 : z25028.toInt = (F_lp25011 30 (0 : Int32).toNatClampNeg).toInt := congrArg Int32.toInt e25029
        have hP9 : va_P (dC, dI) classes (wM g c v_lp25011 F_lp25011 rc) H := hP
        exact W.iret (v := z25028) hx hb hr (fun t ht hW => ⟨⟨z25028, (v_lp25011, F_lp25011, rc), rfl, ⟨hI, rfl, (frC (by decide) hf_lp25011 (fun _ _ => rfl)), hF, trivial⟩, (by show va_P _ _ _ t.heap; rw [ht]; exact hP9)⟩, hS.F ht⟩) hS.2.2 dX12_works_198
      · skip
        have t25030 := cv_nle (a := z25023.toInt) rfl (b := x3_lp25011.toInt) rfl c25026
        refine lv_aload_n hx hb dX12_works_24 rfl (lv_at hl 2 rfl) ?_
        refine va_get (D := (dC, dI)) (ci := 12) (v := .ref (g 28)) (C := RX12) (T := TX12) (N := 63) hx hb hwd inA_X12 hown hK hP 0 rfl rfl 35 (by decide) (hwd _ wk_210) (fun _ h9 => h9) rfl dX12_works_25 ?_
        refine lv_iload_n hx hb dX12_works_28 rfl (lv_at hl 0 rfl) ?_
        refine va_iald hx hb hK hP 28 27 rfl rfl (i := x3_lp25011) (vin (a := x3_lp25011.toInt) rfl (by omega)) dX12_works_29 ?_
        refine lv_topi (fun z25031 e25032 => ?_)
        have e25032 : z25031 = F 28 (x3_lp25011 : Int32).toNatClampNeg := e25032.trans (congrFun (hF 28 (by decide)) _)
        have tzz25031 : z25031.toInt = (F 28 (x3_lp25011 : Int32).toNatClampNeg).toInt := congrArg Int32.toInt e25032
        obtain ⟨q9, hq9, hn9⟩ := dpI.next t25016 (m := (F 27 p0.toNatClampNeg).toInt) (by omega) hD
        have hnd := dpS_need hq9
        have hq0 : (0 : Int) ≤ (q9 : Int) := Int.natCast_nonneg _
        refine lv_istore (lv' := [(4, .int z25031), (3, .int x3_lp25011), (2, .int x2_lp25011), (0, .ref (g 0)), (1, .int p0)]) hx hb dX12_works_30 hl (by decide) rfl (fun ls hl => ?_)
        refine lv_iload hx hb dX12_works_32 (lv_at hl 0 rfl) ?_
        refine lv_iconst (v := 1) hx hb dX12_works_34 (by decide) ?_
        refine lv_icmp_eq (tgt := 44) hx hb dX12_works_35 (by decide) (fun c25033 => ?_) (fun c25033 => ?_)
        · skip
          have t25034 := cv_eq (a := z25031.toInt) rfl (b := 1) (by decide) c25033
          refine lv_aload_n hx hb dX12_works_44 rfl (lv_at hl 3 rfl) ?_
          refine va_get (D := (dC, dI)) (ci := 12) (v := .ref (g 30)) (C := RX12) (T := TX12) (N := 63) hx hb hwd inA_X12 hown hK hP 0 rfl rfl 43 (by decide) (hwd _ wk_212) (fun _ h9 => h9) rfl dX12_works_45 ?_
          refine lv_iload_n hx hb dX12_works_48 rfl (lv_at hl 2 rfl) ?_
          refine lv_iload hx hb dX12_works_49 (lv_at hl 0 rfl) ?_
          refine lv_iconst (v := 1) hx hb dX12_works_51 (by decide) ?_
          refine lv_icmp_ne (tgt := 64) hx hb dX12_works_52 (by decide) (fun c25035 => ?_) (fun c25035 => ?_)
          · skip
            have t25036 := cv_ne (a := z25031.toInt) rfl (b := 1) (by decide) c25035
            refine lv_aload_n hx hb dX12_works_64 rfl (lv_at hl 3 rfl) ?_
            refine va_get (D := (dC, dI)) (ci := 12) (v := .ref (g 31)) (C := RX12) (T := TX12) (N := 63) hx hb hwd inA_X12 hown hK hP 0 rfl rfl 44 (by decide) (hwd _ wk_213) (fun _ h9 => h9) rfl dX12_works_65 ?_
            refine lv_aload_n hx hb dX12_works_68 rfl (lv_at hl 3 rfl) ?_
            refine va_get (D := (dC, dI)) (ci := 12) (v := .ref (g 29)) (C := RX12) (T := TX12) (N := 63) hx hb hwd inA_X12 hown hK hP 0 rfl rfl 36 (by decide) (hwd _ wk_211) (fun _ h9 => h9) rfl dX12_works_69 ?_
            refine lv_iload_n hx hb dX12_works_72 rfl (lv_at hl 1 rfl) ?_
            refine va_iald hx hb hK hP 29 28 rfl rfl (i := x3_lp25011) (vin (a := x3_lp25011.toInt) rfl (by omega)) dX12_works_73 ?_
            refine lv_topi (fun z25037 e25038 => ?_)
            have e25038 : z25037 = F 29 (x3_lp25011 : Int32).toNatClampNeg := e25038.trans (congrFun (hF 29 (by decide)) _)
            have tzz25037 : z25037.toInt = (F 29 (x3_lp25011 : Int32).toNatClampNeg).toInt := congrArg Int32.toInt e25038
            refine va_iald hx hb hK hP 31 30 rfl rfl (i := z25037) (vin (a := z25037.toInt) rfl (by omega)) dX12_works_74 ?_
            refine lv_topi (fun z25039 e25040 => ?_)
            have e25040 : z25039 = F 31 (z25037 : Int32).toNatClampNeg := e25040.trans (congrFun (hF 31 (by decide)) _)
            have tzz25039 : z25039.toInt = (F 31 (z25037 : Int32).toNatClampNeg).toInt := congrArg Int32.toInt e25040
            refine va_iast hx hb hK hP (DM hg) hS 30 29 rfl rfl (i := x2_lp25011) (x := z25039) (vin (a := x2_lp25011.toInt) rfl (by omega)) dX12_works_75 (fun H locs hP _ hS => ?_)
            have hP := va_P_eq (sM_30 g c _ _ _ _) hP
            have hI := IM.store0 hI 30 (x2_lp25011 : Int32).toNatClampNeg z25039 rfl
            have hF := frUF (k := 30) (f := upd (F_lp25011 30) (x2_lp25011 : Int32).toNatClampNeg z25039) (by decide) hF
            have st25042 : (va_up F_lp25011 30 (upd (F_lp25011 30) (x2_lp25011 : Int32).toNatClampNeg z25039)) 30 = upd (F_lp25011 30) (x2_lp25011 : Int32).toNatClampNeg z25039 := va_up_self _ _ _
            have sn25043 : ∀ k9, k9 ≠ 30 → (va_up F_lp25011 30 (upd (F_lp25011 30) (x2_lp25011 : Int32).toNatClampNeg z25039)) k9 = F_lp25011 k9 := fun k9 h9 => va_up_ne _ _ h9
            have hP : va_P (dC, dI) classes (wM g c v_lp25011 (va_up F_lp25011 30 (upd (F_lp25011 30) (x2_lp25011 : Int32).toNatClampNeg z25039)) rc) H := hP
            generalize (va_up F_lp25011 30 (upd (F_lp25011 30) (x2_lp25011 : Int32).toNatClampNeg z25039)) = F25041 at hP hI hF st25042 sn25043
            obtain ⟨z25044, e25045⟩ : ∃ y : Int32, y = x2_lp25011 + 1 := ⟨_, rfl⟩
            try (have t25046 := tadd e25045 rfl (b := 1) (by decide) (by omega))
            refine lv_iinc (v := z25044) (lv' := [(2, .int z25044), (4, .int z25031), (3, .int x3_lp25011), (0, .ref (g 0)), (1, .int p0)]) hx hb dX12_works_76 hl (k := 2) rfl (by rw [e25045]; rfl) (by decide) rfl (fun ls hl => ?_)
            refine lv_goto (tgt := 186) hx hb dX12_works_79 (by decide) ?_
            obtain ⟨z25047, e25048⟩ : ∃ y : Int32, y = x3_lp25011 + 1 := ⟨_, rfl⟩
            try (have t25049 := tadd e25048 rfl (b := 1) (by decide) (by omega))
            refine lv_iinc (v := z25047) (lv' := [(3, .int z25047), (2, .int z25044), (4, .int z25031), (0, .ref (g 0)), (1, .int p0)]) hx hb dX12_works_186 hl (k := 2) rfl (by rw [e25048]; rfl) (by decide) rfl (fun ls hl => ?_)
            refine lv_goto (tgt := 8) hx hb dX12_works_189 (by decide) ?_
            exact ih_lp25011 z25047 z25044 v_lp25011 F25041 _ _ _ (by omega) (by omega) (by omega) (by omega) (dpI.to hn9 (by omega) (by omega)) (by omega) hf_lp25011 hI hF hP hS (lv_sub hl [0, 1, 3, 4] rfl)
          · skip
            have t25050 := cv_eq (a := z25031.toInt) rfl (b := 1) (by decide) c25035
            refine lv_aload_n hx hb dX12_works_55 rfl (lv_at hl 3 rfl) ?_
            refine va_get (D := (dC, dI)) (ci := 12) (v := .ref (g 29)) (C := RX12) (T := TX12) (N := 63) hx hb hwd inA_X12 hown hK hP 0 rfl rfl 36 (by decide) (hwd _ wk_211) (fun _ h9 => h9) rfl dX12_works_56 ?_
            refine lv_iload_n hx hb dX12_works_59 rfl (lv_at hl 1 rfl) ?_
            refine va_iald hx hb hK hP 29 28 rfl rfl (i := x3_lp25011) (vin (a := x3_lp25011.toInt) rfl (by omega)) dX12_works_60 ?_
            refine lv_topi (fun z25051 e25052 => ?_)
            have e25052 : z25051 = F 29 (x3_lp25011 : Int32).toNatClampNeg := e25052.trans (congrFun (hF 29 (by decide)) _)
            have tzz25051 : z25051.toInt = (F 29 (x3_lp25011 : Int32).toNatClampNeg).toInt := congrArg Int32.toInt e25052
            refine lv_goto (tgt := 75) hx hb dX12_works_61 (by decide) ?_
            refine va_iast hx hb hK hP (DM hg) hS 30 29 rfl rfl (i := x2_lp25011) (x := z25051) (vin (a := x2_lp25011.toInt) rfl (by omega)) dX12_works_75 (fun H locs hP _ hS => ?_)
            have hP := va_P_eq (sM_30 g c _ _ _ _) hP
            have hI := IM.store0 hI 30 (x2_lp25011 : Int32).toNatClampNeg z25051 rfl
            have hF := frUF (k := 30) (f := upd (F_lp25011 30) (x2_lp25011 : Int32).toNatClampNeg z25051) (by decide) hF
            have st25054 : (va_up F_lp25011 30 (upd (F_lp25011 30) (x2_lp25011 : Int32).toNatClampNeg z25051)) 30 = upd (F_lp25011 30) (x2_lp25011 : Int32).toNatClampNeg z25051 := va_up_self _ _ _
            have sn25055 : ∀ k9, k9 ≠ 30 → (va_up F_lp25011 30 (upd (F_lp25011 30) (x2_lp25011 : Int32).toNatClampNeg z25051)) k9 = F_lp25011 k9 := fun k9 h9 => va_up_ne _ _ h9
            have hP : va_P (dC, dI) classes (wM g c v_lp25011 (va_up F_lp25011 30 (upd (F_lp25011 30) (x2_lp25011 : Int32).toNatClampNeg z25051)) rc) H := hP
            generalize (va_up F_lp25011 30 (upd (F_lp25011 30) (x2_lp25011 : Int32).toNatClampNeg z25051)) = F25053 at hP hI hF st25054 sn25055
            obtain ⟨z25056, e25057⟩ : ∃ y : Int32, y = x2_lp25011 + 1 := ⟨_, rfl⟩
            try (have t25058 := tadd e25057 rfl (b := 1) (by decide) (by omega))
            refine lv_iinc (v := z25056) (lv' := [(2, .int z25056), (4, .int z25031), (3, .int x3_lp25011), (0, .ref (g 0)), (1, .int p0)]) hx hb dX12_works_76 hl (k := 2) rfl (by rw [e25057]; rfl) (by decide) rfl (fun ls hl => ?_)
            refine lv_goto (tgt := 186) hx hb dX12_works_79 (by decide) ?_
            obtain ⟨z25059, e25060⟩ : ∃ y : Int32, y = x3_lp25011 + 1 := ⟨_, rfl⟩
            try (have t25061 := tadd e25060 rfl (b := 1) (by decide) (by omega))
            refine lv_iinc (v := z25059) (lv' := [(3, .int z25059), (2, .int z25056), (4, .int z25031), (0, .ref (g 0)), (1, .int p0)]) hx hb dX12_works_186 hl (k := 2) rfl (by rw [e25060]; rfl) (by decide) rfl (fun ls hl => ?_)
            refine lv_goto (tgt := 8) hx hb dX12_works_189 (by decide) ?_
            exact ih_lp25011 z25059 z25056 v_lp25011 F25053 _ _ _ (by omega) (by omega) (by omega) (by omega) (dpI.to hn9 (by omega) (by omega)) (by omega) hf_lp25011 hI hF hP hS (lv_sub hl [0, 1, 3, 4] rfl)
        · skip
          have t25062 := cv_ne (a := z25031.toInt) rfl (b := 1) (by decide) c25033
          refine lv_iload hx hb dX12_works_38 (lv_at hl 0 rfl) ?_
          refine lv_iconst (v := 2) hx hb dX12_works_40 (by decide) ?_
          refine lv_icmp_ne (tgt := 82) hx hb dX12_works_41 (by decide) (fun c25063 => ?_) (fun c25063 => ?_)
          · skip
            have t25064 := cv_ne (a := z25031.toInt) rfl (b := 2) (by decide) c25063
            refine lv_iload hx hb dX12_works_82 (lv_at hl 0 rfl) ?_
            refine lv_iconst (v := 3) hx hb dX12_works_84 (by decide) ?_
            refine lv_icmp_ne (tgt := 108) hx hb dX12_works_85 (by decide) (fun c25065 => ?_) (fun c25065 => ?_)
            · skip
              have t25066 := cv_ne (a := z25031.toInt) rfl (b := 3) (by decide) c25065
              refine lv_iload hx hb dX12_works_108 (lv_at hl 0 rfl) ?_
              refine lv_iconst (v := 4) hx hb dX12_works_110 (by decide) ?_
              refine lv_icmp_ne (tgt := 156) hx hb dX12_works_111 (by decide) (fun c25067 => ?_) (fun c25067 => ?_)
              · skip
                have t25068 := cv_ne (a := z25031.toInt) rfl (b := 4) (by decide) c25067
                obtain ⟨z25069, e25070⟩ : ∃ y : Int32, y = x2_lp25011 + (-1) := ⟨_, rfl⟩
                try (have t25071 := tadd e25070 rfl (b := (-1)) (by decide) (by omega))
                refine lv_iinc (v := z25069) (lv' := [(2, .int z25069), (4, .int z25031), (3, .int x3_lp25011), (0, .ref (g 0)), (1, .int p0)]) hx hb dX12_works_156 hl (k := 2) rfl (by rw [e25070]; rfl) (by decide) rfl (fun ls hl => ?_)
                refine lv_aload_n hx hb dX12_works_159 rfl (lv_at hl 3 rfl) ?_
                refine va_get (D := (dC, dI)) (ci := 12) (v := .ref (g 30)) (C := RX12) (T := TX12) (N := 63) hx hb hwd inA_X12 hown hK hP 0 rfl rfl 43 (by decide) (hwd _ wk_212) (fun _ h9 => h9) rfl dX12_works_160 ?_
                refine lv_iload_n hx hb dX12_works_163 rfl (lv_at hl 0 rfl) ?_
                refine lv_iconst (v := 1) hx hb dX12_works_164 (by decide) ?_
                refine lv_isub hx hb dX12_works_165 ?_
                refine lv_topi (fun z25072 e25073 => ?_)
                try (have t25074 := tsub e25073 (a := z25069.toInt) rfl (b := 1) (by decide) (by omega))
                refine lv_iload hx hb dX12_works_166 (lv_at hl 1 rfl) ?_
                refine lv_aload_n hx hb dX12_works_168 rfl (lv_at hl 3 rfl) ?_
                refine va_get (D := (dC, dI)) (ci := 12) (v := .ref (g 30)) (C := RX12) (T := TX12) (N := 63) hx hb hwd inA_X12 hown hK hP 0 rfl rfl 43 (by decide) (hwd _ wk_212) (fun _ h9 => h9) rfl dX12_works_169 ?_
                refine lv_iload_n hx hb dX12_works_172 rfl (lv_at hl 0 rfl) ?_
                refine lv_iconst (v := 1) hx hb dX12_works_173 (by decide) ?_
                refine lv_isub hx hb dX12_works_174 ?_
                refine lv_topi (fun z25075 e25076 => ?_)
                try (have t25077 := tsub e25076 (a := z25069.toInt) rfl (b := 1) (by decide) (by omega))
                refine va_iald hx hb hK hP 30 29 rfl rfl (i := z25075) (vin (a := z25075.toInt) rfl (by omega)) dX12_works_175 ?_
                refine lv_topi (fun z25078 e25079 => ?_)
                have tzz25078 : z25078.toInt = (F_lp25011 30 (z25075 : Int32).toNatClampNeg).toInt := congrArg Int32.toInt e25079
                refine lv_aload_n hx hb dX12_works_176 rfl (lv_at hl 3 rfl) ?_
                refine va_get (D := (dC, dI)) (ci := 12) (v := .ref (g 30)) (C := RX12) (T := TX12) (N := 63) hx hb hwd inA_X12 hown hK hP 0 rfl rfl 43 (by decide) (hwd _ wk_212) (fun _ h9 => h9) rfl dX12_works_177 ?_
                refine lv_iload_n hx hb dX12_works_180 rfl (lv_at hl 0 rfl) ?_
                refine va_iald hx hb hK hP 30 29 rfl rfl (i := z25069) (vin (a := z25069.toInt) rfl (by omega)) dX12_works_181 ?_
                refine lv_topi (fun z25080 e25081 => ?_)
                have tzz25080 : z25080.toInt = (F_lp25011 30 (z25069 : Int32).toNatClampNeg).toInt := congrArg Int32.toInt e25081
                refine va_calli (va_runS (As := [.int z25031, .int z25078, .int z25080]) (rest := [.int z25072, .ref (g 30)]) ⟨hx, hb, hml, hown, hwd⟩ (c_X12_both l dC dI g c adK adV v_lp25011 F_lp25011 rc H.size z25031 z25078 z25080 hg hI ) (va_cwS 3 hwd (gT wk_516 wk_514 wk_515 wk_5) rfl rfl rfl (by decide +kernel) ⟨Nat.le_of_ble_eq_true rfl, Nat.le_of_ble_eq_true rfl⟩) ⟨PM.blind, fun U hU hW => ⟨rfl, PM.at hK hE hP hS hU hW⟩⟩ rfl rfl hl.1 rfl (lv_room (Nat.le_of_ble_eq_true rfl)) dX12_works_182 ⟨Nat.le_of_ble_eq_true rfl, Nat.le_of_ble_eq_true rfl⟩) hS (fun q _ h => (freeM hS) q h) (freeM hS) (fun r25082 u t H1 locs ht hvm hw hB hz1 hk1 hS => ?_)
                unfold BM at hB
                rw [ht] at hB
                have hP : va_P (dC, dI) classes (wM g c v_lp25011 F_lp25011 rc) H1 := hB
                generalize H1 = H at hP hS ⊢
                have rr_r25082 := i32_rng r25082
                refine va_iast hx hb hK hP (DM hg) hS 30 29 rfl rfl (i := z25072) (x := r25082) (vin (a := z25072.toInt) rfl (by omega)) dX12_works_185 (fun H locs hP _ hS => ?_)
                have hP := va_P_eq (sM_30 g c _ _ _ _) hP
                have hI := IM.store0 hI 30 (z25072 : Int32).toNatClampNeg r25082 rfl
                have hF := frUF (k := 30) (f := upd (F_lp25011 30) (z25072 : Int32).toNatClampNeg r25082) (by decide) hF
                have st25084 : (va_up F_lp25011 30 (upd (F_lp25011 30) (z25072 : Int32).toNatClampNeg r25082)) 30 = upd (F_lp25011 30) (z25072 : Int32).toNatClampNeg r25082 := va_up_self _ _ _
                have sn25085 : ∀ k9, k9 ≠ 30 → (va_up F_lp25011 30 (upd (F_lp25011 30) (z25072 : Int32).toNatClampNeg r25082)) k9 = F_lp25011 k9 := fun k9 h9 => va_up_ne _ _ h9
                have hP : va_P (dC, dI) classes (wM g c v_lp25011 (va_up F_lp25011 30 (upd (F_lp25011 30) (z25072 : Int32).toNatClampNeg r25082)) rc) H := hP
                generalize (va_up F_lp25011 30 (upd (F_lp25011 30) (z25072 : Int32).toNatClampNeg r25082)) = F25083 at hP hI hF st25084 sn25085
                obtain ⟨z25086, e25087⟩ : ∃ y : Int32, y = x3_lp25011 + 1 := ⟨_, rfl⟩
                try (have t25088 := tadd e25087 rfl (b := 1) (by decide) (by omega))
                refine lv_iinc (v := z25086) (lv' := [(3, .int z25086), (2, .int z25069), (4, .int z25031), (0, .ref (g 0)), (1, .int p0)]) hx hb dX12_works_186 hl (k := 2) rfl (by rw [e25087]; rfl) (by decide) rfl (fun ls hl => ?_)
                refine lv_goto (tgt := 8) hx hb dX12_works_189 (by decide) ?_
                exact ih_lp25011 z25086 z25069 v_lp25011 F25083 _ _ _ (by omega) (by omega) (by omega) (by omega) (dpI.to hn9 (by omega) (by omega)) (by omega) hf_lp25011 hI hF hP hS (lv_sub hl [0, 1, 3, 4] rfl)
              · skip
                have t25089 := cv_eq (a := z25031.toInt) rfl (b := 4) (by decide) c25067
                obtain ⟨z25090, e25091⟩ : ∃ y : Int32, y = x2_lp25011 + (-2) := ⟨_, rfl⟩
                try (have t25092 := tadd e25091 rfl (b := (-2)) (by decide) (by omega))
                refine lv_iinc (v := z25090) (lv' := [(2, .int z25090), (4, .int z25031), (3, .int x3_lp25011), (0, .ref (g 0)), (1, .int p0)]) hx hb dX12_works_114 hl (k := 2) rfl (by rw [e25091]; rfl) (by decide) rfl (fun ls hl => ?_)
                refine lv_aload_n hx hb dX12_works_117 rfl (lv_at hl 3 rfl) ?_
                refine va_get (D := (dC, dI)) (ci := 12) (v := .ref (g 30)) (C := RX12) (T := TX12) (N := 63) hx hb hwd inA_X12 hown hK hP 0 rfl rfl 43 (by decide) (hwd _ wk_212) (fun _ h9 => h9) rfl dX12_works_118 ?_
                refine lv_iload_n hx hb dX12_works_121 rfl (lv_at hl 0 rfl) ?_
                refine lv_iconst (v := 1) hx hb dX12_works_122 (by decide) ?_
                refine lv_isub hx hb dX12_works_123 ?_
                refine lv_topi (fun z25093 e25094 => ?_)
                try (have t25095 := tsub e25094 (a := z25090.toInt) rfl (b := 1) (by decide) (by omega))
                refine lv_aload_n hx hb dX12_works_124 rfl (lv_at hl 3 rfl) ?_
                refine va_get (D := (dC, dI)) (ci := 12) (v := .ref (g 30)) (C := RX12) (T := TX12) (N := 63) hx hb hwd inA_X12 hown hK hP 0 rfl rfl 43 (by decide) (hwd _ wk_212) (fun _ h9 => h9) rfl dX12_works_125 ?_
                refine lv_iload_n hx hb dX12_works_128 rfl (lv_at hl 0 rfl) ?_
                refine lv_iconst (v := 1) hx hb dX12_works_129 (by decide) ?_
                refine lv_isub hx hb dX12_works_130 ?_
                refine lv_topi (fun z25096 e25097 => ?_)
                try (have t25098 := tsub e25097 (a := z25090.toInt) rfl (b := 1) (by decide) (by omega))
                refine va_iald hx hb hK hP 30 29 rfl rfl (i := z25096) (vin (a := z25096.toInt) rfl (by omega)) dX12_works_131 ?_
                refine lv_topi (fun z25099 e25100 => ?_)
                have tzz25099 : z25099.toInt = (F_lp25011 30 (z25096 : Int32).toNatClampNeg).toInt := congrArg Int32.toInt e25100
                refine lv_if_eq (tgt := 144) hx hb dX12_works_132 (by decide) (fun c25101 => ?_) (fun c25101 => ?_)
                · skip
                  have t25102 := cv_eq (a := z25099.toInt) rfl (b := 0) (by decide) c25101
                  refine lv_aload_n hx hb dX12_works_144 rfl (lv_at hl 3 rfl) ?_
                  refine va_get (D := (dC, dI)) (ci := 12) (v := .ref (g 30)) (C := RX12) (T := TX12) (N := 63) hx hb hwd inA_X12 hown hK hP 0 rfl rfl 43 (by decide) (hwd _ wk_212) (fun _ h9 => h9) rfl dX12_works_145 ?_
                  refine lv_iload_n hx hb dX12_works_148 rfl (lv_at hl 0 rfl) ?_
                  refine lv_iconst (v := 1) hx hb dX12_works_149 (by decide) ?_
                  refine lv_iadd hx hb dX12_works_150 ?_
                  refine lv_topi (fun z25103 e25104 => ?_)
                  try (have t25105 := tadd e25104 (a := z25090.toInt) rfl (b := 1) (by decide) (by omega))
                  refine va_iald hx hb hK hP 30 29 rfl rfl (i := z25103) (vin (a := z25103.toInt) rfl (by omega)) dX12_works_151 ?_
                  refine lv_topi (fun z25106 e25107 => ?_)
                  have tzz25106 : z25106.toInt = (F_lp25011 30 (z25103 : Int32).toNatClampNeg).toInt := congrArg Int32.toInt e25107
                  refine va_iast hx hb hK hP (DM hg) hS 30 29 rfl rfl (i := z25093) (x := z25106) (vin (a := z25093.toInt) rfl (by omega)) dX12_works_152 (fun H locs hP _ hS => ?_)
                  have hP := va_P_eq (sM_30 g c _ _ _ _) hP
                  have hI := IM.store0 hI 30 (z25093 : Int32).toNatClampNeg z25106 rfl
                  have hF := frUF (k := 30) (f := upd (F_lp25011 30) (z25093 : Int32).toNatClampNeg z25106) (by decide) hF
                  have st25109 : (va_up F_lp25011 30 (upd (F_lp25011 30) (z25093 : Int32).toNatClampNeg z25106)) 30 = upd (F_lp25011 30) (z25093 : Int32).toNatClampNeg z25106 := va_up_self _ _ _
                  have sn25110 : ∀ k9, k9 ≠ 30 → (va_up F_lp25011 30 (upd (F_lp25011 30) (z25093 : Int32).toNatClampNeg z25106)) k9 = F_lp25011 k9 := fun k9 h9 => va_up_ne _ _ h9
                  have hP : va_P (dC, dI) classes (wM g c v_lp25011 (va_up F_lp25011 30 (upd (F_lp25011 30) (z25093 : Int32).toNatClampNeg z25106)) rc) H := hP
                  generalize (va_up F_lp25011 30 (upd (F_lp25011 30) (z25093 : Int32).toNatClampNeg z25106)) = F25108 at hP hI hF st25109 sn25110
                  refine lv_goto (tgt := 186) hx hb dX12_works_153 (by decide) ?_
                  obtain ⟨z25111, e25112⟩ : ∃ y : Int32, y = x3_lp25011 + 1 := ⟨_, rfl⟩
                  try (have t25113 := tadd e25112 rfl (b := 1) (by decide) (by omega))
                  refine lv_iinc (v := z25111) (lv' := [(3, .int z25111), (2, .int z25090), (4, .int z25031), (0, .ref (g 0)), (1, .int p0)]) hx hb dX12_works_186 hl (k := 2) rfl (by rw [e25112]; rfl) (by decide) rfl (fun ls hl => ?_)
                  refine lv_goto (tgt := 8) hx hb dX12_works_189 (by decide) ?_
                  exact ih_lp25011 z25111 z25090 v_lp25011 F25108 _ _ _ (by omega) (by omega) (by omega) (by omega) (dpI.to hn9 (by omega) (by omega)) (by omega) hf_lp25011 hI hF hP hS (lv_sub hl [0, 1, 3, 4] rfl)
                · skip
                  have t25114 := cv_ne (a := z25099.toInt) rfl (b := 0) (by decide) c25101
                  refine lv_aload_n hx hb dX12_works_135 rfl (lv_at hl 3 rfl) ?_
                  refine va_get (D := (dC, dI)) (ci := 12) (v := .ref (g 30)) (C := RX12) (T := TX12) (N := 63) hx hb hwd inA_X12 hown hK hP 0 rfl rfl 43 (by decide) (hwd _ wk_212) (fun _ h9 => h9) rfl dX12_works_136 ?_
                  refine lv_iload_n hx hb dX12_works_139 rfl (lv_at hl 0 rfl) ?_
                  refine va_iald hx hb hK hP 30 29 rfl rfl (i := z25090) (vin (a := z25090.toInt) rfl (by omega)) dX12_works_140 ?_
                  refine lv_topi (fun z25115 e25116 => ?_)
                  have tzz25115 : z25115.toInt = (F_lp25011 30 (z25090 : Int32).toNatClampNeg).toInt := congrArg Int32.toInt e25116
                  refine lv_goto (tgt := 152) hx hb dX12_works_141 (by decide) ?_
                  refine va_iast hx hb hK hP (DM hg) hS 30 29 rfl rfl (i := z25093) (x := z25115) (vin (a := z25093.toInt) rfl (by omega)) dX12_works_152 (fun H locs hP _ hS => ?_)
                  have hP := va_P_eq (sM_30 g c _ _ _ _) hP
                  have hI := IM.store0 hI 30 (z25093 : Int32).toNatClampNeg z25115 rfl
                  have hF := frUF (k := 30) (f := upd (F_lp25011 30) (z25093 : Int32).toNatClampNeg z25115) (by decide) hF
                  have st25118 : (va_up F_lp25011 30 (upd (F_lp25011 30) (z25093 : Int32).toNatClampNeg z25115)) 30 = upd (F_lp25011 30) (z25093 : Int32).toNatClampNeg z25115 := va_up_self _ _ _
                  have sn25119 : ∀ k9, k9 ≠ 30 → (va_up F_lp25011 30 (upd (F_lp25011 30) (z25093 : Int32).toNatClampNeg z25115)) k9 = F_lp25011 k9 := fun k9 h9 => va_up_ne _ _ h9
                  have hP : va_P (dC, dI) classes (wM g c v_lp25011 (va_up F_lp25011 30 (upd (F_lp25011 30) (z25093 : Int32).toNatClampNeg z25115)) rc) H := hP
                  generalize (va_up F_lp25011 30 (upd (F_lp25011 30) (z25093 : Int32).toNatClampNeg z25115)) = F25117 at hP hI hF st25118 sn25119
                  refine lv_goto (tgt := 186) hx hb dX12_works_153 (by decide) ?_
                  obtain ⟨z25120, e25121⟩ : ∃ y : Int32, y = x3_lp25011 + 1 := ⟨_, rfl⟩
                  try (have t25122 := tadd e25121 rfl (b := 1) (by decide) (by omega))
                  refine lv_iinc (v := z25120) (lv' := [(3, .int z25120), (2, .int z25090), (4, .int z25031), (0, .ref (g 0)), (1, .int p0)]) hx hb dX12_works_186 hl (k := 2) rfl (by rw [e25121]; rfl) (by decide) rfl (fun ls hl => ?_)
                  refine lv_goto (tgt := 8) hx hb dX12_works_189 (by decide) ?_
                  exact ih_lp25011 z25120 z25090 v_lp25011 F25117 _ _ _ (by omega) (by omega) (by omega) (by omega) (dpI.to hn9 (by omega) (by omega)) (by omega) hf_lp25011 hI hF hP hS (lv_sub hl [0, 1, 3, 4] rfl)
            · skip
              have t25123 := cv_eq (a := z25031.toInt) rfl (b := 3) (by decide) c25065
              refine lv_aload_n hx hb dX12_works_88 rfl (lv_at hl 3 rfl) ?_
              refine va_get (D := (dC, dI)) (ci := 12) (v := .ref (g 30)) (C := RX12) (T := TX12) (N := 63) hx hb hwd inA_X12 hown hK hP 0 rfl rfl 43 (by decide) (hwd _ wk_212) (fun _ h9 => h9) rfl dX12_works_89 ?_
              refine lv_iload_n hx hb dX12_works_92 rfl (lv_at hl 2 rfl) ?_
              refine lv_iconst (v := 1) hx hb dX12_works_93 (by decide) ?_
              refine lv_isub hx hb dX12_works_94 ?_
              refine lv_topi (fun z25124 e25125 => ?_)
              try (have t25126 := tsub e25125 (a := x2_lp25011.toInt) rfl (b := 1) (by decide) (by omega))
              refine lv_aload_n hx hb dX12_works_95 rfl (lv_at hl 3 rfl) ?_
              refine va_get (D := (dC, dI)) (ci := 12) (v := .ref (g 30)) (C := RX12) (T := TX12) (N := 63) hx hb hwd inA_X12 hown hK hP 0 rfl rfl 43 (by decide) (hwd _ wk_212) (fun _ h9 => h9) rfl dX12_works_96 ?_
              refine lv_iload_n hx hb dX12_works_99 rfl (lv_at hl 2 rfl) ?_
              refine lv_iconst (v := 1) hx hb dX12_works_100 (by decide) ?_
              refine lv_isub hx hb dX12_works_101 ?_
              refine lv_topi (fun z25127 e25128 => ?_)
              try (have t25129 := tsub e25128 (a := x2_lp25011.toInt) rfl (b := 1) (by decide) (by omega))
              refine va_iald hx hb hK hP 30 29 rfl rfl (i := z25127) (vin (a := z25127.toInt) rfl (by omega)) dX12_works_102 ?_
              refine lv_topi (fun z25130 e25131 => ?_)
              have tzz25130 : z25130.toInt = (F_lp25011 30 (z25127 : Int32).toNatClampNeg).toInt := congrArg Int32.toInt e25131
              refine lv_ineg hx hb dX12_works_103 ?_
              refine lv_topi (fun z25132 e25133 => ?_)
              refine va_iast hx hb hK hP (DM hg) hS 30 29 rfl rfl (i := z25124) (x := z25132) (vin (a := z25124.toInt) rfl (by omega)) dX12_works_104 (fun H locs hP _ hS => ?_)
              have hP := va_P_eq (sM_30 g c _ _ _ _) hP
              have hI := IM.store0 hI 30 (z25124 : Int32).toNatClampNeg z25132 rfl
              have hF := frUF (k := 30) (f := upd (F_lp25011 30) (z25124 : Int32).toNatClampNeg z25132) (by decide) hF
              have st25135 : (va_up F_lp25011 30 (upd (F_lp25011 30) (z25124 : Int32).toNatClampNeg z25132)) 30 = upd (F_lp25011 30) (z25124 : Int32).toNatClampNeg z25132 := va_up_self _ _ _
              have sn25136 : ∀ k9, k9 ≠ 30 → (va_up F_lp25011 30 (upd (F_lp25011 30) (z25124 : Int32).toNatClampNeg z25132)) k9 = F_lp25011 k9 := fun k9 h9 => va_up_ne _ _ h9
              have hP : va_P (dC, dI) classes (wM g c v_lp25011 (va_up F_lp25011 30 (upd (F_lp25011 30) (z25124 : Int32).toNatClampNeg z25132)) rc) H := hP
              generalize (va_up F_lp25011 30 (upd (F_lp25011 30) (z25124 : Int32).toNatClampNeg z25132)) = F25134 at hP hI hF st25135 sn25136
              refine lv_goto (tgt := 186) hx hb dX12_works_105 (by decide) ?_
              obtain ⟨z25137, e25138⟩ : ∃ y : Int32, y = x3_lp25011 + 1 := ⟨_, rfl⟩
              try (have t25139 := tadd e25138 rfl (b := 1) (by decide) (by omega))
              refine lv_iinc (v := z25137) (lv' := [(3, .int z25137), (4, .int z25031), (2, .int x2_lp25011), (0, .ref (g 0)), (1, .int p0)]) hx hb dX12_works_186 hl (k := 1) rfl (by rw [e25138]; rfl) (by decide) rfl (fun ls hl => ?_)
              refine lv_goto (tgt := 8) hx hb dX12_works_189 (by decide) ?_
              exact ih_lp25011 z25137 x2_lp25011 v_lp25011 F25134 _ _ _ (by omega) (by omega) (by omega) (by omega) (dpI.to hn9 (by omega) (by omega)) (by omega) hf_lp25011 hI hF hP hS (lv_sub hl [0, 2, 3, 4] rfl)
          · skip
            have t25140 := cv_eq (a := z25031.toInt) rfl (b := 2) (by decide) c25063
            refine lv_aload_n hx hb dX12_works_44 rfl (lv_at hl 3 rfl) ?_
            refine va_get (D := (dC, dI)) (ci := 12) (v := .ref (g 30)) (C := RX12) (T := TX12) (N := 63) hx hb hwd inA_X12 hown hK hP 0 rfl rfl 43 (by decide) (hwd _ wk_212) (fun _ h9 => h9) rfl dX12_works_45 ?_
            refine lv_iload_n hx hb dX12_works_48 rfl (lv_at hl 2 rfl) ?_
            refine lv_iload hx hb dX12_works_49 (lv_at hl 0 rfl) ?_
            refine lv_iconst (v := 1) hx hb dX12_works_51 (by decide) ?_
            refine lv_icmp_ne (tgt := 64) hx hb dX12_works_52 (by decide) (fun c25141 => ?_) (fun c25141 => ?_)
            · skip
              have t25142 := cv_ne (a := z25031.toInt) rfl (b := 1) (by decide) c25141
              refine lv_aload_n hx hb dX12_works_64 rfl (lv_at hl 3 rfl) ?_
              refine va_get (D := (dC, dI)) (ci := 12) (v := .ref (g 31)) (C := RX12) (T := TX12) (N := 63) hx hb hwd inA_X12 hown hK hP 0 rfl rfl 44 (by decide) (hwd _ wk_213) (fun _ h9 => h9) rfl dX12_works_65 ?_
              refine lv_aload_n hx hb dX12_works_68 rfl (lv_at hl 3 rfl) ?_
              refine va_get (D := (dC, dI)) (ci := 12) (v := .ref (g 29)) (C := RX12) (T := TX12) (N := 63) hx hb hwd inA_X12 hown hK hP 0 rfl rfl 36 (by decide) (hwd _ wk_211) (fun _ h9 => h9) rfl dX12_works_69 ?_
              refine lv_iload_n hx hb dX12_works_72 rfl (lv_at hl 1 rfl) ?_
              refine va_iald hx hb hK hP 29 28 rfl rfl (i := x3_lp25011) (vin (a := x3_lp25011.toInt) rfl (by omega)) dX12_works_73 ?_
              refine lv_topi (fun z25143 e25144 => ?_)
              have e25144 : z25143 = F 29 (x3_lp25011 : Int32).toNatClampNeg := e25144.trans (congrFun (hF 29 (by decide)) _)
              have tzz25143 : z25143.toInt = (F 29 (x3_lp25011 : Int32).toNatClampNeg).toInt := congrArg Int32.toInt e25144
              refine va_iald hx hb hK hP 31 30 rfl rfl (i := z25143) (vin (a := z25143.toInt) rfl (by omega)) dX12_works_74 ?_
              refine lv_topi (fun z25145 e25146 => ?_)
              have e25146 : z25145 = F 31 (z25143 : Int32).toNatClampNeg := e25146.trans (congrFun (hF 31 (by decide)) _)
              have tzz25145 : z25145.toInt = (F 31 (z25143 : Int32).toNatClampNeg).toInt := congrArg Int32.toInt e25146
              refine va_iast hx hb hK hP (DM hg) hS 30 29 rfl rfl (i := x2_lp25011) (x := z25145) (vin (a := x2_lp25011.toInt) rfl (by omega)) dX12_works_75 (fun H locs hP _ hS => ?_)
              have hP := va_P_eq (sM_30 g c _ _ _ _) hP
              have hI := IM.store0 hI 30 (x2_lp25011 : Int32).toNatClampNeg z25145 rfl
              have hF := frUF (k := 30) (f := upd (F_lp25011 30) (x2_lp25011 : Int32).toNatClampNeg z25145) (by decide) hF
              have st25148 : (va_up F_lp25011 30 (upd (F_lp25011 30) (x2_lp25011 : Int32).toNatClampNeg z25145)) 30 = upd (F_lp25011 30) (x2_lp25011 : Int32).toNatClampNeg z25145 := va_up_self _ _ _
              have sn25149 : ∀ k9, k9 ≠ 30 → (va_up F_lp25011 30 (upd (F_lp25011 30) (x2_lp25011 : Int32).toNatClampNeg z25145)) k9 = F_lp25011 k9 := fun k9 h9 => va_up_ne _ _ h9
              have hP : va_P (dC, dI) classes (wM g c v_lp25011 (va_up F_lp25011 30 (upd (F_lp25011 30) (x2_lp25011 : Int32).toNatClampNeg z25145)) rc) H := hP
              generalize (va_up F_lp25011 30 (upd (F_lp25011 30) (x2_lp25011 : Int32).toNatClampNeg z25145)) = F25147 at hP hI hF st25148 sn25149
              obtain ⟨z25150, e25151⟩ : ∃ y : Int32, y = x2_lp25011 + 1 := ⟨_, rfl⟩
              try (have t25152 := tadd e25151 rfl (b := 1) (by decide) (by omega))
              refine lv_iinc (v := z25150) (lv' := [(2, .int z25150), (4, .int z25031), (3, .int x3_lp25011), (0, .ref (g 0)), (1, .int p0)]) hx hb dX12_works_76 hl (k := 2) rfl (by rw [e25151]; rfl) (by decide) rfl (fun ls hl => ?_)
              refine lv_goto (tgt := 186) hx hb dX12_works_79 (by decide) ?_
              obtain ⟨z25153, e25154⟩ : ∃ y : Int32, y = x3_lp25011 + 1 := ⟨_, rfl⟩
              try (have t25155 := tadd e25154 rfl (b := 1) (by decide) (by omega))
              refine lv_iinc (v := z25153) (lv' := [(3, .int z25153), (2, .int z25150), (4, .int z25031), (0, .ref (g 0)), (1, .int p0)]) hx hb dX12_works_186 hl (k := 2) rfl (by rw [e25154]; rfl) (by decide) rfl (fun ls hl => ?_)
              refine lv_goto (tgt := 8) hx hb dX12_works_189 (by decide) ?_
              exact ih_lp25011 z25153 z25150 v_lp25011 F25147 _ _ _ (by omega) (by omega) (by omega) (by omega) (dpI.to hn9 (by omega) (by omega)) (by omega) hf_lp25011 hI hF hP hS (lv_sub hl [0, 1, 3, 4] rfl)
            · skip
              have t25156 := cv_eq (a := z25031.toInt) rfl (b := 1) (by decide) c25141
              refine lv_aload_n hx hb dX12_works_55 rfl (lv_at hl 3 rfl) ?_
              refine va_get (D := (dC, dI)) (ci := 12) (v := .ref (g 29)) (C := RX12) (T := TX12) (N := 63) hx hb hwd inA_X12 hown hK hP 0 rfl rfl 36 (by decide) (hwd _ wk_211) (fun _ h9 => h9) rfl dX12_works_56 ?_
              refine lv_iload_n hx hb dX12_works_59 rfl (lv_at hl 1 rfl) ?_
              refine va_iald hx hb hK hP 29 28 rfl rfl (i := x3_lp25011) (vin (a := x3_lp25011.toInt) rfl (by omega)) dX12_works_60 ?_
              refine lv_topi (fun z25157 e25158 => ?_)
              have e25158 : z25157 = F 29 (x3_lp25011 : Int32).toNatClampNeg := e25158.trans (congrFun (hF 29 (by decide)) _)
              have tzz25157 : z25157.toInt = (F 29 (x3_lp25011 : Int32).toNatClampNeg).toInt := congrArg Int32.toInt e25158
              refine lv_goto (tgt := 75) hx hb dX12_works_61 (by decide) ?_
              refine va_iast hx hb hK hP (DM hg) hS 30 29 rfl rfl (i := x2_lp25011) (x := z25157) (vin (a := x2_lp25011.toInt) rfl (by omega)) dX12_works_75 (fun H locs hP _ hS => ?_)
              have hP := va_P_eq (sM_30 g c _ _ _ _) hP
              have hI := IM.store0 hI 30 (x2_lp25011 : Int32).toNatClampNeg z25157 rfl
              have hF := frUF (k := 30) (f := upd (F_lp25011 30) (x2_lp25011 : Int32).toNatClampNeg z25157) (by decide) hF
              have st25160 : (va_up F_lp25011 30 (upd (F_lp25011 30) (x2_lp25011 : Int32).toNatClampNeg z25157)) 30 = upd (F_lp25011 30) (x2_lp25011 : Int32).toNatClampNeg z25157 := va_up_self _ _ _
              have sn25161 : ∀ k9, k9 ≠ 30 → (va_up F_lp25011 30 (upd (F_lp25011 30) (x2_lp25011 : Int32).toNatClampNeg z25157)) k9 = F_lp25011 k9 := fun k9 h9 => va_up_ne _ _ h9
              have hP : va_P (dC, dI) classes (wM g c v_lp25011 (va_up F_lp25011 30 (upd (F_lp25011 30) (x2_lp25011 : Int32).toNatClampNeg z25157)) rc) H := hP
              generalize (va_up F_lp25011 30 (upd (F_lp25011 30) (x2_lp25011 : Int32).toNatClampNeg z25157)) = F25159 at hP hI hF st25160 sn25161
              obtain ⟨z25162, e25163⟩ : ∃ y : Int32, y = x2_lp25011 + 1 := ⟨_, rfl⟩
              try (have t25164 := tadd e25163 rfl (b := 1) (by decide) (by omega))
              refine lv_iinc (v := z25162) (lv' := [(2, .int z25162), (4, .int z25031), (3, .int x3_lp25011), (0, .ref (g 0)), (1, .int p0)]) hx hb dX12_works_76 hl (k := 2) rfl (by rw [e25163]; rfl) (by decide) rfl (fun ls hl => ?_)
              refine lv_goto (tgt := 186) hx hb dX12_works_79 (by decide) ?_
              obtain ⟨z25165, e25166⟩ : ∃ y : Int32, y = x3_lp25011 + 1 := ⟨_, rfl⟩
              try (have t25167 := tadd e25166 rfl (b := 1) (by decide) (by omega))
              refine lv_iinc (v := z25165) (lv' := [(3, .int z25165), (2, .int z25162), (4, .int z25031), (0, .ref (g 0)), (1, .int p0)]) hx hb dX12_works_186 hl (k := 2) rfl (by rw [e25166]; rfl) (by decide) rfl (fun ls hl => ?_)
              refine lv_goto (tgt := 8) hx hb dX12_works_189 (by decide) ?_
              exact ih_lp25011 z25165 z25162 v_lp25011 F25159 _ _ _ (by omega) (by omega) (by omega) (by omega) (dpI.to hn9 (by omega) (by omega)) (by omega) hf_lp25011 hI hF hP hS (lv_sub hl [0, 1, 3, 4] rfl)
  obtain ⟨n9, hn9⟩ : ∃ n : Nat, 2147483648 - z25008.toInt ≤ (n : Int) := ⟨((2147483648 - z25008.toInt : Int)).toNat, by omega⟩
  exact lp25011 n9 z25008 0 v F H _ ls (by have : (0 : Int32).toInt = 0 := (by decide); omega) (by have : (0 : Int32).toInt = 0 := (by decide); omega) (by have : (0 : Int32).toInt = 0 := (by decide); omega) (by have : (0 : Int32).toInt = 0 := (by decide); omega) (by refine ⟨by decide, by omega, by omega, ?_⟩; have e9 : (z25008.toInt - 130 * p0.toInt).toNat = 0 := (by omega); rw [e9]; rfl) (by have : (0 : Int32).toInt = 0 := (by decide); omega) (fun _ _ => rfl) hI hF hP hS hl
