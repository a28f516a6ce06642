set_option maxHeartbeats 8000000 in
set_option maxRecDepth 100000 in
theorem c_X12_law (l : Launch) (dC : Nat → ClassId) (dI : Nat → Nat → Nat) (g : Nat → Nat) (c : Nat → ClassId) (adK adV : Nat → Nat) (v : Nat → Int32) (F : Nat → Nat → Int32) (rc sz : Nat) (p0 : Int32) (hg : injM g) (hI : IM v F) (hL : JL (v 31) (F 28) (F 29) (F 27)) : Met l yX12_law (Cond.code yX12_law cX12_law 2 (some .int) :: wA) ({ frames := 40, cells := 0, slots := 0, locals := 1600 }) (va_Pc [.ref (g 0), .int p0] (PM dC dI g c adK adV v F rc sz)) (va_Qi (fun (r : Int32) (u : StM) => IM u.1 u.2.1 ∧ u.2.2 = rc ∧ (∀ k, k ∉ ([30, 31, 37, 38, 39, 40, 41, 42] : List Nat) → u.1 k = v k) ∧ (∀ k, k ∉ ([25, 26, 27, 28, 29] : List Nat) → u.2.1 k = F k) ∧ (JL (u.1 31) (u.2.1 28) (u.2.1 29) (u.2.1 27) ∧ ((¬ (0 ≤ p0.toInt ∧ p0.toInt ≤ 9999) ∧ r.toInt = -1 ∧ (u.1 31).toInt = (v 31).toInt ∧ (u.1 30).toInt = (v 30).toInt) ∨ ((0 ≤ p0.toInt ∧ p0.toInt ≤ 9999) ∧ (v 31).toInt = 10 ∧ r.toInt = -3 ∧ (u.1 31).toInt = (v 31).toInt ∧ (u.1 30).toInt = (v 30).toInt) ∨ ((0 ≤ p0.toInt ∧ p0.toInt ≤ 9999) ∧ (v 31).toInt < 10 ∧ (u.1 30).toInt = 0 ∧ lans false (v 30) (F 24) (v 31).toInt r.toInt (u.1 31).toInt)))) (BM dC dI g c) (AM g sz)) 0 0 (AM g sz) := by
  refine Met.ofW (cc := cX12_law) (maxL := 2) (ret := (some .int)) (by decide) rfl ?_
  intro p e s m args below meth c0 s₁ B hml hv
  obtain ⟨rfl, hsz, hP, hK, hE⟩ := hv
  have hx := B.exec
  have hb := B.bytes
  have hr := B.returns
  have hts := atoms_spec (ws := Cond.code yX12_law cX12_law 2 (some .int) :: wA) B.pre
  have hwd : ∀ w ∈ wA, w.before _ s = true := fun w h => hts w (List.mem_cons_of_mem _ h)
  have hown : s.vm.findClass RX12 = some m.cls := findClass_of_methodNamed B.named
  have hlocks := B.notSynchronized
  subst hsz
  have hl := lv_entry ([.ref (g 0), .int p0]) (n := 2) (Nat.le_of_ble_eq_true rfl)
  rw [lg_entry_eq]
  generalize (lg_sl ([.ref (g 0), .int p0]) ++ List.replicate (2 - (lg_sl ([.ref (g 0), .int p0])).length) Slot.unset).toArray = ls at hl ⊢
  have hl : lv_has ls 2 [(0, .ref (g 0)), (1, .int p0)] := hl
  obtain ⟨H, eH⟩ : ∃ z, z = s.heap := ⟨_, rfl⟩
  have hP : va_P (dC, dI) classes (wM g c v F rc) H := by rw [eH]; exact hP
  have hS : va_S (AM g s.heap.size) s.heap H [] := by rw [eH]; exact va_S.rf
  refine my_heap eH ?_
  have hF : ∀ k, k ∉ ([25, 26, 27, 28, 29] : List Nat) → F k = F k := fun _ _ => rfl
  have rp0 := i32_rng p0
  have hb31 : 0 ≤ (v 31).toInt ∧ (v 31).toInt ≤ 10 := hI.1 31 _ _ rfl
  have hI0 := hI
  have hb31 : 0 ≤ (v 31).toInt ∧ (v 31).toInt ≤ 10 := hI.1 31 _ _ rfl
  refine lv_iload_n hx hb dX12_law_0 rfl (lv_at hl 1 rfl) ?_
  refine va_calli (va_runS (As := [.int p0]) (rest := []) ⟨hx, hb, hml, hown, hwd⟩ (c_X12_isDay l dC dI g c adK adV v F rc H.size p0 hg hI ) (va_cwS 1 hwd (gT wk_556 wk_554 wk_555 wk_5) rfl rfl rfl (by decide +kernel) ⟨Nat.le_of_ble_eq_true rfl, Nat.le_of_ble_eq_true rfl⟩) ⟨PM.blind, fun U hU hW => ⟨rfl, PM.at hK hE hP hS hU hW⟩⟩ rfl rfl hl.1 rfl (lv_room (Nat.le_of_ble_eq_true rfl)) dX12_law_1 ⟨Nat.le_of_ble_eq_true rfl, Nat.le_of_ble_eq_true rfl⟩) hS (fun q _ h => (freeM hS) q h) (freeM hS) (fun r10139 u t H1 locs ht hvm hw hB hz1 hk1 hS => ?_)
  unfold BM at hB
  rw [ht] at hB
  have hP : va_P (dC, dI) classes (wM g c v F rc) H1 := hB
  have hw_r10139 : (r10139.toInt = 1 ∧ 0 ≤ p0.toInt ∧ p0.toInt ≤ 9999) ∨ (r10139.toInt = 0 ∧ (p0.toInt < 0 ∨ 9999 < p0.toInt)) := hw
  clear hw
  clear hz1
  generalize H1 = H at hP hS ⊢
  refine lv_if_ne (tgt := 9) hx hb dX12_law_4 (by decide) (fun c10140 => ?_) (fun c10140 => ?_)
  · skip
    have t10141 := cv_ne (a := r10139.toInt) rfl (b := 0) (by decide) c10140
    refine lv_aload_n hx hb dX12_law_9 rfl (lv_at hl 0 rfl) ?_
    refine va_get (D := (dC, dI)) (ci := 12) (v := .int (v 31)) (C := RX12) (T := TX12) (N := 63) hx hb hwd inA_X12 hown hK hP 0 rfl rfl 31 (by decide) (hwd _ wk_505) (fun _ h9 => h9) rfl dX12_law_10 ?_
    have t10142 : 0 ≤ (v 31).toInt ∧ (v 31).toInt ≤ 10 := hI.1 31 _ _ rfl
    refine lv_bipush (v := 10) hx hb dX12_law_13 (by decide) ?_
    refine lv_icmp_ne (tgt := 21) hx hb dX12_law_15 (by decide) (fun c10143 => ?_) (fun c10143 => ?_)
    · skip
      have t10144 := cv_ne (a := (v 31).toInt) rfl (b := 10) (by decide) c10143
      refine lv_aload_n hx hb dX12_law_21 rfl (lv_at hl 0 rfl) ?_
      refine lv_aload_n hx hb dX12_law_22 rfl (lv_at hl 0 rfl) ?_
      refine va_get (D := (dC, dI)) (ci := 12) (v := .int (v 31)) (C := RX12) (T := TX12) (N := 63) hx hb hwd inA_X12 hown hK hP 0 rfl rfl 31 (by decide) (hwd _ wk_505) (fun _ h9 => h9) rfl dX12_law_23 ?_
      have t10145 : 0 ≤ (v 31).toInt ∧ (v 31).toInt ≤ 10 := hI.1 31 _ _ rfl
      refine va_put (D := (dC, dI)) (ci := 12) (v := .int (v 31)) (ty := .int) (C := RX12) (T := TX12) (N := 63) (fs := fsM_0 g v rc) hx hb hwd inA_X12 tyX12 tyX12_ok nmX12 hown hK hP (DM hg) hS 0 rfl rfl 37 (by decide) (hwd _ wk_1002) (fun _ h9 => h9) rfl (by decide +kernel) rfl rfl (Nat.le_of_ble_eq_true rfl) dX12_law_26 (fun H locs hP _ hS => ?_)
      have hP := va_P_eq (pM_37 g c _ _ _ _) hP
      have hI := IM.put hI 37 (v 31) rfl (by omega)
      refine lv_aload_n hx hb dX12_law_29 rfl (lv_at hl 0 rfl) ?_
      refine lv_iconst (v := 0) hx hb dX12_law_30 (by decide) ?_
      refine va_put (D := (dC, dI)) (ci := 12) (v := .int 0) (ty := .int) (C := RX12) (T := TX12) (N := 63) (fs := fsM_0 g (va_up v 37 (v 31)) rc) hx hb hwd inA_X12 tyX12 tyX12_ok nmX12 hown hK hP (DM hg) hS 0 rfl rfl 38 (by decide) (hwd _ wk_1003) (fun _ h9 => h9) rfl (by decide +kernel) rfl rfl (Nat.le_of_ble_eq_true rfl) dX12_law_31 (fun H locs hP _ hS => ?_)
      have hP := va_P_eq (pM_38 g c _ _ _ _) hP
      have hI := IM.put hI 38 0 rfl (by have : (0 : Int32).toInt = 0 := (by decide); omega)
      refine lv_aload_n hx hb dX12_law_34 rfl (lv_at hl 0 rfl) ?_
      refine lv_iconst (v := 0) hx hb dX12_law_35 (by decide) ?_
      refine va_put (D := (dC, dI)) (ci := 12) (v := .int 0) (ty := .int) (C := RX12) (T := TX12) (N := 63) (fs := fsM_0 g (va_up (va_up v 37 (v 31)) 38 0) rc) hx hb hwd inA_X12 tyX12 tyX12_ok nmX12 hown hK hP (DM hg) hS 0 rfl rfl 39 (by decide) (hwd _ wk_1004) (fun _ h9 => h9) rfl (by decide +kernel) rfl rfl (Nat.le_of_ble_eq_true rfl) dX12_law_36 (fun H locs hP _ hS => ?_)
      have hP := va_P_eq (pM_39 g c _ _ _ _) hP
      have hI := IM.put hI 39 0 rfl (by have : (0 : Int32).toInt = 0 := (by decide); omega)
      refine lv_aload_n hx hb dX12_law_39 rfl (lv_at hl 0 rfl) ?_
      refine lv_iconst (v := (-1)) hx hb dX12_law_40 (by decide) ?_
      refine va_put (D := (dC, dI)) (ci := 12) (v := .int (-1)) (ty := .int) (C := RX12) (T := TX12) (N := 63) (fs := fsM_0 g (va_up (va_up (va_up v 37 (v 31)) 38 0) 39 0) rc) hx hb hwd inA_X12 tyX12 tyX12_ok nmX12 hown hK hP (DM hg) hS 0 rfl rfl 40 (by decide) (hwd _ wk_1005) (fun _ h9 => h9) rfl (by decide +kernel) rfl rfl (Nat.le_of_ble_eq_true rfl) dX12_law_41 (fun H locs hP _ hS => ?_)
      have hP := va_P_eq (pM_40 g c _ _ _ _) hP
      have hI := IM.put0 hI 40 (-1) rfl
      refine lv_aload_n hx hb dX12_law_44 rfl (lv_at hl 0 rfl) ?_
      refine lv_iconst (v := 0) hx hb dX12_law_45 (by decide) ?_
      refine va_put (D := (dC, dI)) (ci := 12) (v := .int 0) (ty := .int) (C := RX12) (T := TX12) (N := 63) (fs := fsM_0 g (va_up (va_up (va_up (va_up v 37 (v 31)) 38 0) 39 0) 40 (-1)) rc) hx hb hwd inA_X12 tyX12 tyX12_ok nmX12 hown hK hP (DM hg) hS 0 rfl rfl 41 (by decide) (hwd _ wk_1006) (fun _ h9 => h9) rfl (by decide +kernel) rfl rfl (Nat.le_of_ble_eq_true rfl) dX12_law_46 (fun H locs hP _ hS => ?_)
      have hP := va_P_eq (pM_41 g c _ _ _ _) hP
      have hI := IM.put hI 41 0 rfl (by have : (0 : Int32).toInt = 0 := (by decide); omega)
      refine lv_aload_n hx hb dX12_law_49 rfl (lv_at hl 0 rfl) ?_
      have t10146 : 0 ≤ (v 30).toInt ∧ (v 30).toInt ≤ 120 := hI.1 30 _ _ rfl
      have t10147 : 0 ≤ (v 31).toInt ∧ (v 31).toInt ≤ 9 := hI.1 37 _ _ rfl
      refine va_callv (va_runV (As := []) (rest := []) ⟨hx, hb, hml, hown, hwd⟩ (c_X12_either_0 l dC dI g c adK adV (va_up (va_up (va_up (va_up (va_up v 37 (v 31)) 38 0) 39 0) 40 (-1)) 41 0) F rc H.size  0 hg hI (by have h9 : (va_up (va_up (va_up (va_up (va_up v 37 (v 31)) 38 0) 39 0) 40 (-1)) 41 0) 38 = 0 := rfl; (try rw [h9]); clear h9; have : (0 : Int32).toInt = 0 := (by decide); have h9 : (va_up (va_up (va_up (va_up (va_up v 37 (v 31)) 38 0) 39 0) 40 (-1)) 41 0) 39 = 0 := rfl; (try rw [h9]); clear h9; have : (0 : Int32).toInt = 0 := (by decide); have h9 : (va_up (va_up (va_up (va_up (va_up v 37 (v 31)) 38 0) 39 0) 40 (-1)) 41 0) 30 = v 30 := rfl; (try rw [h9]); clear h9; have h9 : (va_up (va_up (va_up (va_up (va_up v 37 (v 31)) 38 0) 39 0) 40 (-1)) 41 0) 40 = (-1) := rfl; (try rw [h9]); clear h9; have : ((-1) : Int32).toInt = (-1) := (by decide); have h9 : (va_up (va_up (va_up (va_up (va_up v 37 (v 31)) 38 0) 39 0) 40 (-1)) 41 0) 41 = 0 := rfl; (try rw [h9]); clear h9; have : (0 : Int32).toInt = 0 := (by decide); omega) (by rfl)) (cwV 0 hwd (gV wk_1010 wk_1007 wk_1008 wk_1009 wk_5) rfl rfl rfl (by decide +kernel) ⟨Nat.le_of_ble_eq_true rfl, Nat.le_of_ble_eq_true rfl⟩) ⟨PM.blind, va_recv hK hP (ci := 12) (q0 := 0) rfl rfl, fun U hU hW => ⟨rfl, PM.at hK hE hP hS hU hW⟩⟩ rfl rfl hl.1 rfl (lv_room (Nat.le_of_ble_eq_true rfl)) dX12_law_50 ⟨Nat.le_of_ble_eq_true rfl, Nat.le_of_ble_eq_true rfl⟩) hS (fun q _ h => (freeM hS) q h) (freeM hS) (fun u t H1 locs ht hvm hw hB hz1 hk1 hS => ?_)
      unfold BM at hB
      rw [ht] at hB
      obtain ⟨v10149, F10150, rc9⟩ := u
      obtain ⟨hI, hrc, hf10151, hG10152, hw⟩ := hw
      dsimp only at hI hrc hB hf10151 hG10152 hw
      have hF := frCF (by decide) hG10152 hF
      rw [hrc] at hB
      have hP : va_P (dC, dI) classes (wM g c v10149 F10150 rc) H1 := hB
      replace hw : ((v10149 40).toInt ≤ (v10149 39).toInt ∧ (0 : Int32).toInt ≤ (v10149 39).toInt ∧ (v10149 39).toInt ≤ (v 30).toInt ∧ (0 : Int32).toInt ≤ (v10149 38).toInt ∧ (v10149 38).toInt - (0 : Int32).toInt ≤ (v10149 39).toInt - (0 : Int32).toInt ∧ (0 : Int32).toInt ≤ (v10149 41).toInt ∧ ((v10149 40).toInt < 0 → (v10149 41).toInt = (0 : Int32).toInt)) ∧ keepL (v 31) (F 28) (F 29) (F10150 28) (F10150 29) ∧ ((v10149 40).toInt < 0 → dp (F10150 28) (F10150 29) (bI (v 31)) (v10149 38).toInt.toNat = some (0 + 1)) ∧ rd false (v 30) (F 24) 6 (0 : Int32).toInt (0 : Int32).toInt (v10149 40).toInt (v10149 39).toInt := hw
      have hw_r10148 := hw
      clear hw
      have t10153 : 0 ≤ (v10149 38).toInt ∧ (v10149 38).toInt ≤ 120 := hI.1 38 _ _ rfl
      have t10154 : 0 ≤ (v10149 39).toInt ∧ (v10149 39).toInt ≤ 120 := hI.1 39 _ _ rfl
      have t10155 : 0 ≤ (v10149 41).toInt ∧ (v10149 41).toInt ≤ 8 := hI.1 41 _ _ rfl
      clear hz1
      generalize H1 = H at hP hS ⊢
      refine lv_aload_n hx hb dX12_law_53 rfl (lv_at hl 0 rfl) ?_
      refine va_get (D := (dC, dI)) (ci := 12) (v := .int (v10149 39)) (C := RX12) (T := TX12) (N := 63) hx hb hwd inA_X12 hown hK hP 0 rfl rfl 39 (by decide) (hwd _ wk_1004) (fun _ h9 => h9) rfl dX12_law_54 ?_
      have t10156 : 0 ≤ (v10149 39).toInt ∧ (v10149 39).toInt ≤ 120 := hI.1 39 _ _ rfl
      refine lv_aload_n hx hb dX12_law_57 rfl (lv_at hl 0 rfl) ?_
      refine va_get (D := (dC, dI)) (ci := 12) (v := .int (v10149 30)) (C := RX12) (T := TX12) (N := 63) hx hb hwd inA_X12 hown hK hP 0 rfl rfl 30 (by decide) (hwd _ wk_839) (fun _ h9 => h9) rfl dX12_law_58 ?_
      refine my_top (v := v 30) (hf10151 30 (by decide)) ?_
      have t10157 : 0 ≤ (v 30).toInt ∧ (v 30).toInt ≤ 120 := by have h9 := hI.1 30 _ _ rfl; rw [show v10149 30 = v 30 from hf10151 30 (by decide)] at h9; exact h9
      refine lv_icmp_ge (tgt := 68) hx hb dX12_law_61 (by decide) (fun c10158 => ?_) (fun c10158 => ?_)
      · skip
        have t10159 := cv_le (a := (v 30).toInt) rfl (b := (v10149 39).toInt) rfl c10158
        refine lv_aload_n hx hb dX12_law_68 rfl (lv_at hl 0 rfl) ?_
        refine lv_iconst (v := 0) hx hb dX12_law_69 (by decide) ?_
        refine va_put (D := (dC, dI)) (ci := 12) (v := .int 0) (ty := .int) (C := RX12) (T := TX12) (N := 63) (fs := fsM_0 g v10149 rc) hx hb hwd inA_X12 tyX12 tyX12_ok nmX12 hown hK hP (DM hg) hS 0 rfl rfl 30 (by decide) (hwd _ wk_839) (fun _ h9 => h9) rfl (by decide +kernel) rfl rfl (Nat.le_of_ble_eq_true rfl) dX12_law_70 (fun H locs hP _ hS => ?_)
        have hP := va_P_eq (pM_30 g c _ _ _ _) hP
        have hI := IM.put hI 30 0 rfl (by have : (0 : Int32).toInt = 0 := (by decide); omega)
        refine lv_aload_n hx hb dX12_law_73 rfl (lv_at hl 0 rfl) ?_
        refine va_get (D := (dC, dI)) (ci := 12) (v := .int (v10149 40)) (C := RX12) (T := TX12) (N := 63) hx hb hwd inA_X12 hown hK hP 0 rfl rfl 40 (by decide) (hwd _ wk_1005) (fun _ h9 => h9) rfl dX12_law_74 ?_
        refine lv_if_lt (tgt := 88) hx hb dX12_law_77 (by decide) (fun c10160 => ?_) (fun c10160 => ?_)
        · skip
          have t10161 := cv_lt (a := (v10149 40).toInt) rfl (b := 0) (by decide) c10160
          refine lv_aload_n hx hb dX12_law_88 rfl (lv_at hl 0 rfl) ?_
          refine va_get (D := (dC, dI)) (ci := 12) (v := .ref (g 25)) (C := RX12) (T := TX12) (N := 63) hx hb hwd inA_X12 hown hK hP 0 rfl rfl 32 (by decide) (hwd _ wk_207) (fun _ h9 => h9) rfl dX12_law_89 ?_
          refine lv_aload_n hx hb dX12_law_92 rfl (lv_at hl 0 rfl) ?_
          refine va_get (D := (dC, dI)) (ci := 12) (v := .int (v10149 31)) (C := RX12) (T := TX12) (N := 63) hx hb hwd inA_X12 hown hK hP 0 rfl rfl 31 (by decide) (hwd _ wk_505) (fun _ h9 => h9) rfl dX12_law_93 ?_
          refine my_top (v := v 31) (hf10151 31 (by decide)) ?_
          have t10162 : 0 ≤ (v 31).toInt ∧ (v 31).toInt ≤ 10 := by have h9 := hI.1 31 _ _ rfl; rw [show (va_up v10149 30 0) 31 = v 31 from hf10151 31 (by decide)] at h9; exact h9
          refine lv_aload_n hx hb dX12_law_96 rfl (lv_at hl 0 rfl) ?_
          refine va_get (D := (dC, dI)) (ci := 12) (v := .int (v10149 1)) (C := RX12) (T := TX12) (N := 63) hx hb hwd inA_X12 hown hK hP 0 rfl rfl 1 (by decide) (hwd _ wk_332) (fun _ h9 => h9) rfl dX12_law_97 ?_
          refine my_top (v := v 1) (hf10151 1 (by decide)) ?_
          have t10163 : 0 ≤ (v 1).toInt ∧ (v 1).toInt ≤ 9999 := by have h9 := hI.1 1 _ _ rfl; rw [show (va_up v10149 30 0) 1 = v 1 from hf10151 1 (by decide)] at h9; exact h9
          refine va_iast hx hb hK hP (DM hg) hS 25 24 rfl rfl (i := (v 31)) (x := (v 1)) (vin (a := (v 31).toInt) rfl (by omega)) dX12_law_100 (fun H locs hP _ hS => ?_)
          have hP := va_P_eq (sM_25 g c _ _ _ _) hP
          have hI := IM.store0 hI 25 (v 31 : Int32).toNatClampNeg (v 1) rfl
          have hF := frUF (k := 25) (f := upd (F10150 25) (v 31 : Int32).toNatClampNeg (v 1)) (by decide) hF
          have st10165 : (va_up F10150 25 (upd (F10150 25) (v 31 : Int32).toNatClampNeg (v 1))) 25 = upd (F10150 25) (v 31 : Int32).toNatClampNeg (v 1) := va_up_self _ _ _
          have sn10166 : ∀ k9, k9 ≠ 25 → (va_up F10150 25 (upd (F10150 25) (v 31 : Int32).toNatClampNeg (v 1))) k9 = F10150 k9 := fun k9 h9 => va_up_ne _ _ h9
          have hP : va_P (dC, dI) classes (wM g c (va_up v10149 30 0) (va_up F10150 25 (upd (F10150 25) (v 31 : Int32).toNatClampNeg (v 1))) rc) H := hP
          generalize (va_up F10150 25 (upd (F10150 25) (v 31 : Int32).toNatClampNeg (v 1))) = F10164 at hP hI hF st10165 sn10166
          refine lv_aload_n hx hb dX12_law_101 rfl (lv_at hl 0 rfl) ?_
          refine va_get (D := (dC, dI)) (ci := 12) (v := .ref (g 26)) (C := RX12) (T := TX12) (N := 63) hx hb hwd inA_X12 hown hK hP 0 rfl rfl 33 (by decide) (hwd _ wk_208) (fun _ h9 => h9) rfl dX12_law_102 ?_
          refine lv_aload_n hx hb dX12_law_105 rfl (lv_at hl 0 rfl) ?_
          refine va_get (D := (dC, dI)) (ci := 12) (v := .int (v10149 31)) (C := RX12) (T := TX12) (N := 63) hx hb hwd inA_X12 hown hK hP 0 rfl rfl 31 (by decide) (hwd _ wk_505) (fun _ h9 => h9) rfl dX12_law_106 ?_
          refine my_top (v := v 31) (hf10151 31 (by decide)) ?_
          have t10167 : 0 ≤ (v 31).toInt ∧ (v 31).toInt ≤ 10 := by have h9 := hI.1 31 _ _ rfl; rw [show (va_up v10149 30 0) 31 = v 31 from hf10151 31 (by decide)] at h9; exact h9
          refine lv_iload_n hx hb dX12_law_109 rfl (lv_at hl 1 rfl) ?_
          refine va_iast hx hb hK hP (DM hg) hS 26 25 rfl rfl (i := (v 31)) (x := p0) (vin (a := (v 31).toInt) rfl (by omega)) dX12_law_110 (fun H locs hP _ hS => ?_)
          have hP := va_P_eq (sM_26 g c _ _ _ _) hP
          have hI := IM.store0 hI 26 (v 31 : Int32).toNatClampNeg p0 rfl
          have hF := frUF (k := 26) (f := upd (F10164 26) (v 31 : Int32).toNatClampNeg p0) (by decide) hF
          have st10169 : (va_up F10164 26 (upd (F10164 26) (v 31 : Int32).toNatClampNeg p0)) 26 = upd (F10164 26) (v 31 : Int32).toNatClampNeg p0 := va_up_self _ _ _
          have sn10170 : ∀ k9, k9 ≠ 26 → (va_up F10164 26 (upd (F10164 26) (v 31 : Int32).toNatClampNeg p0)) k9 = F10164 k9 := fun k9 h9 => va_up_ne _ _ h9
          have hP : va_P (dC, dI) classes (wM g c (va_up v10149 30 0) (va_up F10164 26 (upd (F10164 26) (v 31 : Int32).toNatClampNeg p0)) rc) H := hP
          generalize (va_up F10164 26 (upd (F10164 26) (v 31 : Int32).toNatClampNeg p0)) = F10168 at hP hI hF st10169 sn10170
          refine lv_aload_n hx hb dX12_law_111 rfl (lv_at hl 0 rfl) ?_
          refine va_get (D := (dC, dI)) (ci := 12) (v := .ref (g 27)) (C := RX12) (T := TX12) (N := 63) hx hb hwd inA_X12 hown hK hP 0 rfl rfl 34 (by decide) (hwd _ wk_209) (fun _ h9 => h9) rfl dX12_law_112 ?_
          refine lv_aload_n hx hb dX12_law_115 rfl (lv_at hl 0 rfl) ?_
          refine va_get (D := (dC, dI)) (ci := 12) (v := .int (v10149 31)) (C := RX12) (T := TX12) (N := 63) hx hb hwd inA_X12 hown hK hP 0 rfl rfl 31 (by decide) (hwd _ wk_505) (fun _ h9 => h9) rfl dX12_law_116 ?_
          refine my_top (v := v 31) (hf10151 31 (by decide)) ?_
          have t10171 : 0 ≤ (v 31).toInt ∧ (v 31).toInt ≤ 10 := by have h9 := hI.1 31 _ _ rfl; rw [show (va_up v10149 30 0) 31 = v 31 from hf10151 31 (by decide)] at h9; exact h9
          refine lv_aload_n hx hb dX12_law_119 rfl (lv_at hl 0 rfl) ?_
          refine va_get (D := (dC, dI)) (ci := 12) (v := .int (v10149 38)) (C := RX12) (T := TX12) (N := 63) hx hb hwd inA_X12 hown hK hP 0 rfl rfl 38 (by decide) (hwd _ wk_1003) (fun _ h9 => h9) rfl dX12_law_120 ?_
          have t10172 : 0 ≤ (v10149 38).toInt ∧ (v10149 38).toInt ≤ 120 := hI.1 38 _ _ rfl
          refine va_iast hx hb hK hP (DM hg) hS 27 26 rfl rfl (i := (v 31)) (x := (v10149 38)) (vin (a := (v 31).toInt) rfl (by omega)) dX12_law_123 (fun H locs hP _ hS => ?_)
          have hP := va_P_eq (sM_27 g c _ _ _ _) hP
          have hI := IM.store hI 27 (v 31 : Int32).toNatClampNeg (v10149 38) rfl (by omega)
          have hF := frUF (k := 27) (f := upd (F10168 27) (v 31 : Int32).toNatClampNeg (v10149 38)) (by decide) hF
          have st10174 : (va_up F10168 27 (upd (F10168 27) (v 31 : Int32).toNatClampNeg (v10149 38))) 27 = upd (F10168 27) (v 31 : Int32).toNatClampNeg (v10149 38) := va_up_self _ _ _
          have sn10175 : ∀ k9, k9 ≠ 27 → (va_up F10168 27 (upd (F10168 27) (v 31 : Int32).toNatClampNeg (v10149 38))) k9 = F10168 k9 := fun k9 h9 => va_up_ne _ _ h9
          have hP : va_P (dC, dI) classes (wM g c (va_up v10149 30 0) (va_up F10168 27 (upd (F10168 27) (v 31 : Int32).toNatClampNeg (v10149 38))) rc) H := hP
          generalize (va_up F10168 27 (upd (F10168 27) (v 31 : Int32).toNatClampNeg (v10149 38))) = F10173 at hP hI hF st10174 sn10175
          refine lv_aload_n hx hb dX12_law_124 rfl (lv_at hl 0 rfl) ?_
          refine lv_dup hx hb dX12_law_125 rfl ?_
          refine va_get (D := (dC, dI)) (ci := 12) (v := .int (v10149 31)) (C := RX12) (T := TX12) (N := 63) hx hb hwd inA_X12 hown hK hP 0 rfl rfl 31 (by decide) (hwd _ wk_505) (fun _ h9 => h9) rfl dX12_law_126 ?_
          refine my_top (v := v 31) (hf10151 31 (by decide)) ?_
          have t10176 : 0 ≤ (v 31).toInt ∧ (v 31).toInt ≤ 10 := by have h9 := hI.1 31 _ _ rfl; rw [show (va_up v10149 30 0) 31 = v 31 from hf10151 31 (by decide)] at h9; exact h9
          refine lv_iconst (v := 1) hx hb dX12_law_129 (by decide) ?_
          refine lv_iadd hx hb dX12_law_130 ?_
          refine lv_topi (fun z10177 e10178 => ?_)
          try (have t10179 := tadd e10178 (a := (v 31).toInt) rfl (b := 1) (by decide) (by omega))
          refine va_put (D := (dC, dI)) (ci := 12) (v := .int z10177) (ty := .int) (C := RX12) (T := TX12) (N := 63) (fs := fsM_0 g (va_up v10149 30 0) rc) hx hb hwd inA_X12 tyX12 tyX12_ok nmX12 hown hK hP (DM hg) hS 0 rfl rfl 31 (by decide) (hwd _ wk_505) (fun _ h9 => h9) rfl (by decide +kernel) rfl rfl (Nat.le_of_ble_eq_true rfl) dX12_law_131 (fun H locs hP _ hS => ?_)
          have hP := va_P_eq (pM_31 g c _ _ _ _) hP
          have hI := IM.put hI 31 z10177 rfl (by omega)
          refine lv_aload_n hx hb dX12_law_134 rfl (lv_at hl 0 rfl) ?_
          refine va_get (D := (dC, dI)) (ci := 12) (v := .int z10177) (C := RX12) (T := TX12) (N := 63) hx hb hwd inA_X12 hown hK hP 0 rfl rfl 31 (by decide) (hwd _ wk_505) (fun _ h9 => h9) rfl dX12_law_135 ?_
          have t10180 : 0 ≤ z10177.toInt ∧ z10177.toInt ≤ 10 := hI.1 31 _ _ rfl
          refine lv_iconst (v := 1) hx hb dX12_law_138 (by decide) ?_
          refine lv_isub hx hb dX12_law_139 ?_
          refine lv_topi (fun z10181 e10182 => ?_)
          try (have t10183 := tsub e10182 (a := z10177.toInt) rfl (b := 1) (by decide) (by omega))
          have hP9 : va_P (dC, dI) classes (wM g c (va_up (va_up v10149 30 0) 31 z10177) F10173 rc) H := hP
          exact W.iret (v := z10181) hx hb hr (fun t ht hW => ⟨⟨z10181, ((va_up (va_up v10149 30 0) 31 z10177), F10173, rc), rfl, ⟨hI, rfl, (frU (by decide) (frU (by decide) (frC (by decide) hf10151 (frU (by decide) (frU (by decide) (frU (by decide) (frU (by decide) (frU (by decide) (fun _ _ => rfl))))))))), hF, ⟨(by show JL ((va_up (va_up v10149 30 0) 31 z10177) 31) (F10173 28) (F10173 29) (F10173 27); rw [show (va_up (va_up v10149 30 0) 31 z10177) 31 = z10177 from rfl, show F10173 28 = F10150 28 from ((sn10175 28 (by decide)).trans ((sn10170 28 (by decide)).trans (sn10166 28 (by decide)))), show F10173 29 = F10150 29 from ((sn10175 29 (by decide)).trans ((sn10170 29 (by decide)).trans (sn10166 29 (by decide))))]; exact JL.add hL (by omega) (by omega) hw_r10148.2.1 (fun l _ => hI0.2 27 _ _ rfl l) ((st10174.trans (congrArg (fun f => upd f (v 31 : Int32).toNatClampNeg (v10149 38)) ((sn10170 27 (by decide)).trans (sn10166 27 (by decide))))).trans (congrArg (fun f => upd f (v 31 : Int32).toNatClampNeg (v10149 38)) (hG10152 27 (by decide)))) (hw_r10148.2.2.1 (by omega))), (by show (¬ (0 ≤ p0.toInt ∧ p0.toInt ≤ 9999) ∧ z10181.toInt = -1 ∧ z10177.toInt = (v 31).toInt ∧ (0 : Int32).toInt = (v 30).toInt) ∨ ((0 ≤ p0.toInt ∧ p0.toInt ≤ 9999) ∧ (v 31).toInt = 10 ∧ z10181.toInt = -3 ∧ z10177.toInt = (v 31).toInt ∧ (0 : Int32).toInt = (v 30).toInt) ∨ ((0 ≤ p0.toInt ∧ p0.toInt ≤ 9999) ∧ (v 31).toInt < 10 ∧ (0 : Int32).toInt = 0 ∧ lans false (v 30) (F 24) (v 31).toInt z10181.toInt z10177.toInt); have : (0 : Int32).toInt = 0 := (by decide); exact Or.inr (Or.inr ⟨by omega, by omega, by omega, lans.mk (f2 := (v10149 40).toInt) hw_r10148.2.2.2 (by decide) (by decide) (by omega) (by omega)⟩))⟩⟩, (by show va_P _ _ _ t.heap; rw [ht]; exact hP9)⟩, hS.F ht⟩) hS.2.2 dX12_law_140
        · skip
          have t10184 := cv_nlt (a := (v10149 40).toInt) rfl (b := 0) (by decide) c10160
          refine lv_bipush (v := (-100)) hx hb dX12_law_80 (by decide) ?_
          refine lv_aload_n hx hb dX12_law_82 rfl (lv_at hl 0 rfl) ?_
          refine va_get (D := (dC, dI)) (ci := 12) (v := .int (v10149 40)) (C := RX12) (T := TX12) (N := 63) hx hb hwd inA_X12 hown hK hP 0 rfl rfl 40 (by decide) (hwd _ wk_1005) (fun _ h9 => h9) rfl dX12_law_83 ?_
          refine lv_isub hx hb dX12_law_86 ?_
          refine lv_topi (fun z10185 e10186 => ?_)
          try (have t10187 := tsub e10186 (a := (-100)) (by decide) (b := (v10149 40).toInt) rfl (by omega))
          have hP9 : va_P (dC, dI) classes (wM g c (va_up v10149 30 0) F10150 rc) H := hP
          exact W.iret (v := z10185) hx hb hr (fun t ht hW => ⟨⟨z10185, ((va_up v10149 30 0), F10150, rc), rfl, ⟨hI, rfl, (frU (by decide) (frC (by decide) hf10151 (frU (by decide) (frU (by decide) (frU (by decide) (frU (by decide) (frU (by decide) (fun _ _ => rfl)))))))), hF, ⟨(by show JL ((va_up v10149 30 0) 31) (F10150 28) (F10150 29) (F10150 27); rw [show (va_up v10149 30 0) 31 = v 31 from hf10151 31 (by decide), show F10150 28 = F10150 28 from rfl, show F10150 29 = F10150 29 from rfl]; exact JL.keep hL hw_r10148.2.1 (fun l _ => hI0.2 27 _ _ rfl l) (hG10152 27 (by decide))), (by show (¬ (0 ≤ p0.toInt ∧ p0.toInt ≤ 9999) ∧ z10185.toInt = -1 ∧ ((va_up v10149 30 0) 31).toInt = (v 31).toInt ∧ (0 : Int32).toInt = (v 30).toInt) ∨ ((0 ≤ p0.toInt ∧ p0.toInt ≤ 9999) ∧ (v 31).toInt = 10 ∧ z10185.toInt = -3 ∧ ((va_up v10149 30 0) 31).toInt = (v 31).toInt ∧ (0 : Int32).toInt = (v 30).toInt) ∨ ((0 ≤ p0.toInt ∧ p0.toInt ≤ 9999) ∧ (v 31).toInt < 10 ∧ (0 : Int32).toInt = 0 ∧ lans false (v 30) (F 24) (v 31).toInt z10185.toInt ((va_up v10149 30 0) 31).toInt); rw [show (va_up v10149 30 0) 31 = v 31 from hf10151 31 (by decide)]; have : (0 : Int32).toInt = 0 := (by decide); exact Or.inr (Or.inr ⟨by omega, by omega, by omega, lans.mk (f2 := (v10149 40).toInt) hw_r10148.2.2.2 (by decide) (by decide) (by omega) (by omega)⟩))⟩⟩, (by show va_P _ _ _ t.heap; rw [ht]; exact hP9)⟩, hS.F ht⟩) hS.2.2 dX12_law_87
      · skip
        have t10188 := cv_nle (a := (v 30).toInt) rfl (b := (v10149 39).toInt) rfl c10158
        refine lv_aload_n hx hb dX12_law_64 rfl (lv_at hl 0 rfl) ?_
        have t10189 : 0 ≤ (v10149 39).toInt ∧ (v10149 39).toInt ≤ 120 := hI.1 39 _ _ rfl
        refine va_callv (va_runV (As := []) (rest := []) ⟨hx, hb, hml, hown, hwd⟩ (c_X12_wrong l dC dI g c adK adV v10149 F10150 rc H.size  hg hI ) (cwV 0 hwd (gV wk_1029 wk_1026 wk_1027 wk_1028 wk_5) rfl rfl rfl (by decide +kernel) ⟨Nat.le_of_ble_eq_true rfl, Nat.le_of_ble_eq_true rfl⟩) ⟨PM.blind, va_recv hK hP (ci := 12) (q0 := 0) rfl rfl, fun U hU hW => ⟨rfl, PM.at hK hE hP hS hU hW⟩⟩ rfl rfl hl.1 rfl (lv_room (Nat.le_of_ble_eq_true rfl)) dX12_law_65 ⟨Nat.le_of_ble_eq_true rfl, Nat.le_of_ble_eq_true rfl⟩) hS (fun q _ h => (freeM hS) q h) (freeM hS) (fun u t H1 locs ht hvm hw hB hz1 hk1 hS => ?_)
        unfold BM at hB
        rw [ht] at hB
        obtain ⟨v10191, F10192, rc9⟩ := u
        obtain ⟨hI, hrc, hf10193, hG10194, hw⟩ := hw
        dsimp only at hI hrc hB hf10193 hG10194 hw
        have hF := frCF (by decide) hG10194 hF
        rw [hrc] at hB
        have hP : va_P (dC, dI) classes (wM g c v10191 F10192 rc) H1 := hB
        replace hw : ((v10149 40).toInt < 0 ∧ (v10191 40).toInt = (v10149 39).toInt) ∨ (0 ≤ (v10149 40).toInt ∧ (v10191 40).toInt = (v10149 40).toInt) := hw
        have hw_r10190 := hw
        clear hw
        clear hz1
        generalize H1 = H at hP hS ⊢
        refine lv_aload_n hx hb dX12_law_68 rfl (lv_at hl 0 rfl) ?_
        refine lv_iconst (v := 0) hx hb dX12_law_69 (by decide) ?_
        refine va_put (D := (dC, dI)) (ci := 12) (v := .int 0) (ty := .int) (C := RX12) (T := TX12) (N := 63) (fs := fsM_0 g v10191 rc) hx hb hwd inA_X12 tyX12 tyX12_ok nmX12 hown hK hP (DM hg) hS 0 rfl rfl 30 (by decide) (hwd _ wk_839) (fun _ h9 => h9) rfl (by decide +kernel) rfl rfl (Nat.le_of_ble_eq_true rfl) dX12_law_70 (fun H locs hP _ hS => ?_)
        have hP := va_P_eq (pM_30 g c _ _ _ _) hP
        have hI := IM.put hI 30 0 rfl (by have : (0 : Int32).toInt = 0 := (by decide); omega)
        refine lv_aload_n hx hb dX12_law_73 rfl (lv_at hl 0 rfl) ?_
        refine va_get (D := (dC, dI)) (ci := 12) (v := .int (v10191 40)) (C := RX12) (T := TX12) (N := 63) hx hb hwd inA_X12 hown hK hP 0 rfl rfl 40 (by decide) (hwd _ wk_1005) (fun _ h9 => h9) rfl dX12_law_74 ?_
        refine lv_if_lt (tgt := 88) hx hb dX12_law_77 (by decide) (fun c10195 => ?_) (fun c10195 => ?_)
        · skip
          have t10196 := cv_lt (a := (v10191 40).toInt) rfl (b := 0) (by decide) c10195
          refine lv_aload_n hx hb dX12_law_88 rfl (lv_at hl 0 rfl) ?_
          refine va_get (D := (dC, dI)) (ci := 12) (v := .ref (g 25)) (C := RX12) (T := TX12) (N := 63) hx hb hwd inA_X12 hown hK hP 0 rfl rfl 32 (by decide) (hwd _ wk_207) (fun _ h9 => h9) rfl dX12_law_89 ?_
          refine lv_aload_n hx hb dX12_law_92 rfl (lv_at hl 0 rfl) ?_
          refine va_get (D := (dC, dI)) (ci := 12) (v := .int (v10191 31)) (C := RX12) (T := TX12) (N := 63) hx hb hwd inA_X12 hown hK hP 0 rfl rfl 31 (by decide) (hwd _ wk_505) (fun _ h9 => h9) rfl dX12_law_93 ?_
          refine my_top (v := v 31) ((hf10193 31 (by decide)).trans (hf10151 31 (by decide))) ?_
          have t10197 : 0 ≤ (v 31).toInt ∧ (v 31).toInt ≤ 10 := by have h9 := hI.1 31 _ _ rfl; rw [show (va_up v10191 30 0) 31 = v 31 from (hf10193 31 (by decide)).trans (hf10151 31 (by decide))] at h9; exact h9
          refine lv_aload_n hx hb dX12_law_96 rfl (lv_at hl 0 rfl) ?_
          refine va_get (D := (dC, dI)) (ci := 12) (v := .int (v10191 1)) (C := RX12) (T := TX12) (N := 63) hx hb hwd inA_X12 hown hK hP 0 rfl rfl 1 (by decide) (hwd _ wk_332) (fun _ h9 => h9) rfl dX12_law_97 ?_
          refine my_top (v := v 1) ((hf10193 1 (by decide)).trans (hf10151 1 (by decide))) ?_
          have t10198 : 0 ≤ (v 1).toInt ∧ (v 1).toInt ≤ 9999 := by have h9 := hI.1 1 _ _ rfl; rw [show (va_up v10191 30 0) 1 = v 1 from (hf10193 1 (by decide)).trans (hf10151 1 (by decide))] at h9; exact h9
          refine va_iast hx hb hK hP (DM hg) hS 25 24 rfl rfl (i := (v 31)) (x := (v 1)) (vin (a := (v 31).toInt) rfl (by omega)) dX12_law_100 (fun H locs hP _ hS => ?_)
          have hP := va_P_eq (sM_25 g c _ _ _ _) hP
          have hI := IM.store0 hI 25 (v 31 : Int32).toNatClampNeg (v 1) rfl
          have hF := frUF (k := 25) (f := upd (F10192 25) (v 31 : Int32).toNatClampNeg (v 1)) (by decide) hF
          have st10200 : (va_up F10192 25 (upd (F10192 25) (v 31 : Int32).toNatClampNeg (v 1))) 25 = upd (F10192 25) (v 31 : Int32).toNatClampNeg (v 1) := va_up_self _ _ _
          have sn10201 : ∀ k9, k9 ≠ 25 → (va_up F10192 25 (upd (F10192 25) (v 31 : Int32).toNatClampNeg (v 1))) k9 = F10192 k9 := fun k9 h9 => va_up_ne _ _ h9
          have hP : va_P (dC, dI) classes (wM g c (va_up v10191 30 0) (va_up F10192 25 (upd (F10192 25) (v 31 : Int32).toNatClampNeg (v 1))) rc) H := hP
          generalize (va_up F10192 25 (upd (F10192 25) (v 31 : Int32).toNatClampNeg (v 1))) = F10199 at hP hI hF st10200 sn10201
          refine lv_aload_n hx hb dX12_law_101 rfl (lv_at hl 0 rfl) ?_
          refine va_get (D := (dC, dI)) (ci := 12) (v := .ref (g 26)) (C := RX12) (T := TX12) (N := 63) hx hb hwd inA_X12 hown hK hP 0 rfl rfl 33 (by decide) (hwd _ wk_208) (fun _ h9 => h9) rfl dX12_law_102 ?_
          refine lv_aload_n hx hb dX12_law_105 rfl (lv_at hl 0 rfl) ?_
          refine va_get (D := (dC, dI)) (ci := 12) (v := .int (v10191 31)) (C := RX12) (T := TX12) (N := 63) hx hb hwd inA_X12 hown hK hP 0 rfl rfl 31 (by decide) (hwd _ wk_505) (fun _ h9 => h9) rfl dX12_law_106 ?_
          refine my_top (v := v 31) ((hf10193 31 (by decide)).trans (hf10151 31 (by decide))) ?_
          have t10202 : 0 ≤ (v 31).toInt ∧ (v 31).toInt ≤ 10 := by have h9 := hI.1 31 _ _ rfl; rw [show (va_up v10191 30 0) 31 = v 31 from (hf10193 31 (by decide)).trans (hf10151 31 (by decide))] at h9; exact h9
          refine lv_iload_n hx hb dX12_law_109 rfl (lv_at hl 1 rfl) ?_
          refine va_iast hx hb hK hP (DM hg) hS 26 25 rfl rfl (i := (v 31)) (x := p0) (vin (a := (v 31).toInt) rfl (by omega)) dX12_law_110 (fun H locs hP _ hS => ?_)
          have hP := va_P_eq (sM_26 g c _ _ _ _) hP
          have hI := IM.store0 hI 26 (v 31 : Int32).toNatClampNeg p0 rfl
          have hF := frUF (k := 26) (f := upd (F10199 26) (v 31 : Int32).toNatClampNeg p0) (by decide) hF
          have st10204 : (va_up F10199 26 (upd (F10199 26) (v 31 : Int32).toNatClampNeg p0)) 26 = upd (F10199 26) (v 31 : Int32).toNatClampNeg p0 := va_up_self _ _ _
          have sn10205 : ∀ k9, k9 ≠ 26 → (va_up F10199 26 (upd (F10199 26) (v 31 : Int32).toNatClampNeg p0)) k9 = F10199 k9 := fun k9 h9 => va_up_ne _ _ h9
          have hP : va_P (dC, dI) classes (wM g c (va_up v10191 30 0) (va_up F10199 26 (upd (F10199 26) (v 31 : Int32).toNatClampNeg p0)) rc) H := hP
          generalize (va_up F10199 26 (upd (F10199 26) (v 31 : Int32).toNatClampNeg p0)) = F10203 at hP hI hF st10204 sn10205
          refine lv_aload_n hx hb dX12_law_111 rfl (lv_at hl 0 rfl) ?_
          refine va_get (D := (dC, dI)) (ci := 12) (v := .ref (g 27)) (C := RX12) (T := TX12) (N := 63) hx hb hwd inA_X12 hown hK hP 0 rfl rfl 34 (by decide) (hwd _ wk_209) (fun _ h9 => h9) rfl dX12_law_112 ?_
          refine lv_aload_n hx hb dX12_law_115 rfl (lv_at hl 0 rfl) ?_
          refine va_get (D := (dC, dI)) (ci := 12) (v := .int (v10191 31)) (C := RX12) (T := TX12) (N := 63) hx hb hwd inA_X12 hown hK hP 0 rfl rfl 31 (by decide) (hwd _ wk_505) (fun _ h9 => h9) rfl dX12_law_116 ?_
          refine my_top (v := v 31) ((hf10193 31 (by decide)).trans (hf10151 31 (by decide))) ?_
          have t10206 : 0 ≤ (v 31).toInt ∧ (v 31).toInt ≤ 10 := by have h9 := hI.1 31 _ _ rfl; rw [show (va_up v10191 30 0) 31 = v 31 from (hf10193 31 (by decide)).trans (hf10151 31 (by decide))] at h9; exact h9
          refine lv_aload_n hx hb dX12_law_119 rfl (lv_at hl 0 rfl) ?_
          refine va_get (D := (dC, dI)) (ci := 12) (v := .int (v10191 38)) (C := RX12) (T := TX12) (N := 63) hx hb hwd inA_X12 hown hK hP 0 rfl rfl 38 (by decide) (hwd _ wk_1003) (fun _ h9 => h9) rfl dX12_law_120 ?_
          refine my_top (v := v10149 38) (hf10193 38 (by decide)) ?_
          have t10207 : 0 ≤ (v10149 38).toInt ∧ (v10149 38).toInt ≤ 120 := by have h9 := hI.1 38 _ _ rfl; rw [show (va_up v10191 30 0) 38 = v10149 38 from hf10193 38 (by decide)] at h9; exact h9
          refine va_iast hx hb hK hP (DM hg) hS 27 26 rfl rfl (i := (v 31)) (x := (v10149 38)) (vin (a := (v 31).toInt) rfl (by omega)) dX12_law_123 (fun H locs hP _ hS => ?_)
          have hP := va_P_eq (sM_27 g c _ _ _ _) hP
          have hI := IM.store hI 27 (v 31 : Int32).toNatClampNeg (v10149 38) rfl (by omega)
          have hF := frUF (k := 27) (f := upd (F10203 27) (v 31 : Int32).toNatClampNeg (v10149 38)) (by decide) hF
          have st10209 : (va_up F10203 27 (upd (F10203 27) (v 31 : Int32).toNatClampNeg (v10149 38))) 27 = upd (F10203 27) (v 31 : Int32).toNatClampNeg (v10149 38) := va_up_self _ _ _
          have sn10210 : ∀ k9, k9 ≠ 27 → (va_up F10203 27 (upd (F10203 27) (v 31 : Int32).toNatClampNeg (v10149 38))) k9 = F10203 k9 := fun k9 h9 => va_up_ne _ _ h9
          have hP : va_P (dC, dI) classes (wM g c (va_up v10191 30 0) (va_up F10203 27 (upd (F10203 27) (v 31 : Int32).toNatClampNeg (v10149 38))) rc) H := hP
          generalize (va_up F10203 27 (upd (F10203 27) (v 31 : Int32).toNatClampNeg (v10149 38))) = F10208 at hP hI hF st10209 sn10210
          refine lv_aload_n hx hb dX12_law_124 rfl (lv_at hl 0 rfl) ?_
          refine lv_dup hx hb dX12_law_125 rfl ?_
          refine va_get (D := (dC, dI)) (ci := 12) (v := .int (v10191 31)) (C := RX12) (T := TX12) (N := 63) hx hb hwd inA_X12 hown hK hP 0 rfl rfl 31 (by decide) (hwd _ wk_505) (fun _ h9 => h9) rfl dX12_law_126 ?_
          refine my_top (v := v 31) ((hf10193 31 (by decide)).trans (hf10151 31 (by decide))) ?_
          have t10211 : 0 ≤ (v 31).toInt ∧ (v 31).toInt ≤ 10 := by have h9 := hI.1 31 _ _ rfl; rw [show (va_up v10191 30 0) 31 = v 31 from (hf10193 31 (by decide)).trans (hf10151 31 (by decide))] at h9; exact h9
          refine lv_iconst (v := 1) hx hb dX12_law_129 (by decide) ?_
          refine lv_iadd hx hb dX12_law_130 ?_
          refine lv_topi (fun z10212 e10213 => ?_)
          try (have t10214 := tadd e10213 (a := (v 31).toInt) rfl (b := 1) (by decide) (by omega))
          refine va_put (D := (dC, dI)) (ci := 12) (v := .int z10212) (ty := .int) (C := RX12) (T := TX12) (N := 63) (fs := fsM_0 g (va_up v10191 30 0) rc) hx hb hwd inA_X12 tyX12 tyX12_ok nmX12 hown hK hP (DM hg) hS 0 rfl rfl 31 (by decide) (hwd _ wk_505) (fun _ h9 => h9) rfl (by decide +kernel) rfl rfl (Nat.le_of_ble_eq_true rfl) dX12_law_131 (fun H locs hP _ hS => ?_)
          have hP := va_P_eq (pM_31 g c _ _ _ _) hP
          have hI := IM.put hI 31 z10212 rfl (by omega)
          refine lv_aload_n hx hb dX12_law_134 rfl (lv_at hl 0 rfl) ?_
          refine va_get (D := (dC, dI)) (ci := 12) (v := .int z10212) (C := RX12) (T := TX12) (N := 63) hx hb hwd inA_X12 hown hK hP 0 rfl rfl 31 (by decide) (hwd _ wk_505) (fun _ h9 => h9) rfl dX12_law_135 ?_
          have t10215 : 0 ≤ z10212.toInt ∧ z10212.toInt ≤ 10 := hI.1 31 _ _ rfl
          refine lv_iconst (v := 1) hx hb dX12_law_138 (by decide) ?_
          refine lv_isub hx hb dX12_law_139 ?_
          refine lv_topi (fun z10216 e10217 => ?_)
          try (have t10218 := tsub e10217 (a := z10212.toInt) rfl (b := 1) (by decide) (by omega))
          have hP9 : va_P (dC, dI) classes (wM g c (va_up (va_up v10191 30 0) 31 z10212) F10208 rc) H := hP
          exact W.iret (v := z10216) hx hb hr (fun t ht hW => ⟨⟨z10216, ((va_up (va_up v10191 30 0) 31 z10212), F10208, rc), rfl, ⟨hI, rfl, (frU (by decide) (frU (by decide) (frC (by decide) hf10193 (frC (by decide) hf10151 (frU (by decide) (frU (by decide) (frU (by decide) (frU (by decide) (frU (by decide) (fun _ _ => rfl)))))))))), hF, ⟨(by show JL ((va_up (va_up v10191 30 0) 31 z10212) 31) (F10208 28) (F10208 29) (F10208 27); rw [show (va_up (va_up v10191 30 0) 31 z10212) 31 = z10212 from rfl, show F10208 28 = F10150 28 from ((sn10210 28 (by decide)).trans ((sn10205 28 (by decide)).trans ((sn10201 28 (by decide)).trans (hG10194 28 (by decide))))), show F10208 29 = F10150 29 from ((sn10210 29 (by decide)).trans ((sn10205 29 (by decide)).trans ((sn10201 29 (by decide)).trans (hG10194 29 (by decide)))))]; exact JL.add hL (by omega) (by omega) hw_r10148.2.1 (fun l _ => hI0.2 27 _ _ rfl l) ((st10209.trans (congrArg (fun f => upd f (v 31 : Int32).toNatClampNeg (v10149 38)) ((sn10205 27 (by decide)).trans ((sn10201 27 (by decide)).trans (hG10194 27 (by decide)))))).trans (congrArg (fun f => upd f (v 31 : Int32).toNatClampNeg (v10149 38)) (hG10152 27 (by decide)))) (hw_r10148.2.2.1 (by omega))), (by show (¬ (0 ≤ p0.toInt ∧ p0.toInt ≤ 9999) ∧ z10216.toInt = -1 ∧ z10212.toInt = (v 31).toInt ∧ (0 : Int32).toInt = (v 30).toInt) ∨ ((0 ≤ p0.toInt ∧ p0.toInt ≤ 9999) ∧ (v 31).toInt = 10 ∧ z10216.toInt = -3 ∧ z10212.toInt = (v 31).toInt ∧ (0 : Int32).toInt = (v 30).toInt) ∨ ((0 ≤ p0.toInt ∧ p0.toInt ≤ 9999) ∧ (v 31).toInt < 10 ∧ (0 : Int32).toInt = 0 ∧ lans false (v 30) (F 24) (v 31).toInt z10216.toInt z10212.toInt); have : (0 : Int32).toInt = 0 := (by decide); exact Or.inr (Or.inr ⟨by omega, by omega, by omega, lans.mk (f2 := (v10191 40).toInt) hw_r10148.2.2.2 (by decide) (by decide) (by omega) (by omega)⟩))⟩⟩, (by show va_P _ _ _ t.heap; rw [ht]; exact hP9)⟩, hS.F ht⟩) hS.2.2 dX12_law_140
        · skip
          have t10219 := cv_nlt (a := (v10191 40).toInt) rfl (b := 0) (by decide) c10195
          refine lv_bipush (v := (-100)) hx hb dX12_law_80 (by decide) ?_
          refine lv_aload_n hx hb dX12_law_82 rfl (lv_at hl 0 rfl) ?_
          refine va_get (D := (dC, dI)) (ci := 12) (v := .int (v10191 40)) (C := RX12) (T := TX12) (N := 63) hx hb hwd inA_X12 hown hK hP 0 rfl rfl 40 (by decide) (hwd _ wk_1005) (fun _ h9 => h9) rfl dX12_law_83 ?_
          refine lv_isub hx hb dX12_law_86 ?_
          refine lv_topi (fun z10220 e10221 => ?_)
          try (have t10222 := tsub e10221 (a := (-100)) (by decide) (b := (v10191 40).toInt) rfl (by omega))
          have hP9 : va_P (dC, dI) classes (wM g c (va_up v10191 30 0) F10192 rc) H := hP
          exact W.iret (v := z10220) hx hb hr (fun t ht hW => ⟨⟨z10220, ((va_up v10191 30 0), F10192, rc), rfl, ⟨hI, rfl, (frU (by decide) (frC (by decide) hf10193 (frC (by decide) hf10151 (frU (by decide) (frU (by decide) (frU (by decide) (frU (by decide) (frU (by decide) (fun _ _ => rfl))))))))), hF, ⟨(by show JL ((va_up v10191 30 0) 31) (F10192 28) (F10192 29) (F10192 27); rw [show (va_up v10191 30 0) 31 = v 31 from (hf10193 31 (by decide)).trans (hf10151 31 (by decide)), show F10192 28 = F10150 28 from (hG10194 28 (by decide)), show F10192 29 = F10150 29 from (hG10194 29 (by decide))]; exact JL.keep hL hw_r10148.2.1 (fun l _ => hI0.2 27 _ _ rfl l) ((hG10194 27 (by decide)).trans (hG10152 27 (by decide)))), (by show (¬ (0 ≤ p0.toInt ∧ p0.toInt ≤ 9999) ∧ z10220.toInt = -1 ∧ ((va_up v10191 30 0) 31).toInt = (v 31).toInt ∧ (0 : Int32).toInt = (v 30).toInt) ∨ ((0 ≤ p0.toInt ∧ p0.toInt ≤ 9999) ∧ (v 31).toInt = 10 ∧ z10220.toInt = -3 ∧ ((va_up v10191 30 0) 31).toInt = (v 31).toInt ∧ (0 : Int32).toInt = (v 30).toInt) ∨ ((0 ≤ p0.toInt ∧ p0.toInt ≤ 9999) ∧ (v 31).toInt < 10 ∧ (0 : Int32).toInt = 0 ∧ lans false (v 30) (F 24) (v 31).toInt z10220.toInt ((va_up v10191 30 0) 31).toInt); rw [show (va_up v10191 30 0) 31 = v 31 from (hf10193 31 (by decide)).trans (hf10151 31 (by decide))]; have : (0 : Int32).toInt = 0 := (by decide); exact Or.inr (Or.inr ⟨by omega, by omega, by omega, lans.mk (f2 := (v10191 40).toInt) hw_r10148.2.2.2 (by decide) (by decide) (by omega) (by omega)⟩))⟩⟩, (by show va_P _ _ _ t.heap; rw [ht]; exact hP9)⟩, hS.F ht⟩) hS.2.2 dX12_law_87
    · skip
      have t10223 := cv_eq (a := (v 31).toInt) rfl (b := 10) (by decide) c10143
      refine lv_bipush (v := (-3)) hx hb dX12_law_18 (by decide) ?_
      have hP9 : va_P (dC, dI) classes (wM g c v F rc) H := hP
      exact W.iret (v := (-3)) hx hb hr (fun t ht hW => ⟨⟨(-3), (v, F, rc), rfl, ⟨hI, rfl, (fun _ _ => rfl), hF, ⟨hL, (by show (¬ (0 ≤ p0.toInt ∧ p0.toInt ≤ 9999) ∧ ((-3) : Int32).toInt = -1 ∧ (v 31).toInt = (v 31).toInt ∧ (v 30).toInt = (v 30).toInt) ∨ ((0 ≤ p0.toInt ∧ p0.toInt ≤ 9999) ∧ (v 31).toInt = 10 ∧ ((-3) : Int32).toInt = -3 ∧ (v 31).toInt = (v 31).toInt ∧ (v 30).toInt = (v 30).toInt) ∨ ((0 ≤ p0.toInt ∧ p0.toInt ≤ 9999) ∧ (v 31).toInt < 10 ∧ (v 30).toInt = 0 ∧ lans false (v 30) (F 24) (v 31).toInt ((-3) : Int32).toInt (v 31).toInt); have : ((-3) : Int32).toInt = (-3) := (by decide); omega)⟩⟩, (by show va_P _ _ _ t.heap; rw [ht]; exact hP9)⟩, hS.F ht⟩) hS.2.2 dX12_law_20
  · skip
    have t10224 := cv_eq (a := r10139.toInt) rfl (b := 0) (by decide) c10140
    refine lv_iconst (v := (-1)) hx hb dX12_law_7 (by decide) ?_
    have hP9 : va_P (dC, dI) classes (wM g c v F rc) H := hP
    exact W.iret (v := (-1)) hx hb hr (fun t ht hW => ⟨⟨(-1), (v, F, rc), rfl, ⟨hI, rfl, (fun _ _ => rfl), hF, ⟨hL, (by show (¬ (0 ≤ p0.toInt ∧ p0.toInt ≤ 9999) ∧ ((-1) : Int32).toInt = -1 ∧ (v 31).toInt = (v 31).toInt ∧ (v 30).toInt = (v 30).toInt) ∨ ((0 ≤ p0.toInt ∧ p0.toInt ≤ 9999) ∧ (v 31).toInt = 10 ∧ ((-1) : Int32).toInt = -3 ∧ (v 31).toInt = (v 31).toInt ∧ (v 30).toInt = (v 30).toInt) ∨ ((0 ≤ p0.toInt ∧ p0.toInt ≤ 9999) ∧ (v 31).toInt < 10 ∧ (v 30).toInt = 0 ∧ lans false (v 30) (F 24) (v 31).toInt ((-1) : Int32).toInt (v 31).toInt); have : ((-1) : Int32).toInt = (-1) := (by decide); omega)⟩⟩, (by show va_P _ _ _ t.heap; rw [ht]; exact hP9)⟩, hS.F ht⟩) hS.2.2 dX12_law_8
set_option maxHeartbeats 8000000 in
set_option maxRecDepth 100000 in
theorem c_X12_works (l : Launch) (dC : Nat → ClassId) (dI : Nat → Nat → Nat) (g : Nat → Nat) (c : Nat → ClassId) (adK adV : Nat → Nat) (v : Nat → Int32) (F : Nat → Nat → Int32) (rc sz : Nat) (p0 : Int32) (hg : injM g) (hI : IM v F) (h0 : 0 ≤ p0.toInt ∧ p0.toInt ≤ 9) (hD : ∃ D, dp (F 28) (F 29) (bI p0) (F 27 p0.toNatClampNeg).toInt.toNat = some D) : Met l yX12_works (Cond.code yX12_works cX12_works 5 (some .int) :: wA) ({ frames := 2, cells := 0, slots := 0, locals := 80 }) (va_Pc [.ref (g 0), .int p0] (PM dC dI g c adK adV v F rc sz)) (va_Qi (fun (r : Int32) (u : StM) => IM u.1 u.2.1 ∧ u.2.2 = rc ∧ (∀ k, k ∉ ([] : List Nat) → u.1 k = v k) ∧ (∀ k, k ∉ ([30] : List Nat) → u.2.1 k = F k) ∧ True) (BM dC dI g c) (AM g sz)) 0 0 (AM g sz) := by
  refine Met.ofW (cc := cX12_works) (maxL := 5) (ret := (some .int)) (by decide) rfl ?_
  intro p e s m args below meth c0 s₁ B hml hv
  obtain ⟨rfl, hsz, hP, hK, hE⟩ := hv
  have hx := B.exec
  have hb := B.bytes
  have hr := B.returns
  have hts := atoms_spec (ws := Cond.code yX12_works cX12_works 5 (some .int) :: wA) B.pre
  have hwd : ∀ w ∈ wA, w.before _ s = true := fun w h => hts w (List.mem_cons_of_mem _ h)
  have hown : s.vm.findClass RX12 = some m.cls := findClass_of_methodNamed B.named
  have hlocks := B.notSynchronized
  subst hsz
  have hl := lv_entry ([.ref (g 0), .int p0]) (n := 5) (Nat.le_of_ble_eq_true rfl)
  rw [lg_entry_eq]
  generalize (lg_sl ([.ref (g 0), .int p0]) ++ List.replicate (5 - (lg_sl ([.ref (g 0), .int p0])).length) Slot.unset).toArray = ls at hl ⊢
  have hl : lv_has ls 5 [(0, .ref (g 0)), (1, .int p0)] := hl
  obtain ⟨H, eH⟩ : ∃ z, z = s.heap := ⟨_, rfl⟩
  have hP : va_P (dC, dI) classes (wM g c v F rc) H := by rw [eH]; exact hP
  have hS : va_S (AM g s.heap.size) s.heap H [] := by rw [eH]; exact va_S.rf
  refine my_heap eH ?_
  have hF : ∀ k, k ∉ ([30] : List Nat) → F k = F k := fun _ _ => rfl
  have rp0 := i32_rng p0
  refine lv_iconst (v := 0) hx hb dX12_works_0 (by decide) ?_
  refine lv_istore_n (lv' := [(2, .int 0), (0, .ref (g 0)), (1, .int p0)]) hx hb dX12_works_1 rfl hl (by decide) rfl (fun ls hl => ?_)
  refine lv_sipush (v := 130) hx hb dX12_works_2 (by decide) ?_
  refine lv_iload_n hx hb dX12_works_5 rfl (lv_at hl 2 rfl) ?_
  refine lv_imul hx hb dX12_works_6 ?_
  refine lv_topi (fun z10385 e10386 => ?_)
  try (have t10387 := tmul e10386 (a := 130) (by decide) (b := p0.toInt) rfl (by omega))
  refine lv_istore_n (lv' := [(3, .int z10385), (2, .int 0), (0, .ref (g 0)), (1, .int p0)]) hx hb dX12_works_7 rfl hl (by decide) rfl (fun ls hl => ?_)
  have lp10388 : ∀ (n : Nat) (x3_lp10388 : Int32) (x2_lp10388 : Int32) (v_lp10388 : Nat → Int32) (F_lp10388 : Nat → Nat → Int32) (H : Heap) (locs : List Loc) (ls : Array Slot), (0 ≤ x3_lp10388.toInt) → (x3_lp10388.toInt ≤ 1300) → (0 ≤ x2_lp10388.toInt) → (x2_lp10388.toInt ≤ 120) → (dpI (F 28) (F 29) (130 * p0.toInt) x3_lp10388.toInt x2_lp10388.toInt) → (2147483648 - x3_lp10388.toInt ≤ (n : Int)) → (∀ k, k ∉ ([] : List Nat) → v_lp10388 k = v k) → IM v_lp10388 F_lp10388 → (∀ k, k ∉ ([30] : List Nat) → F_lp10388 k = F k) → va_P (dC, dI) classes (wM g c v_lp10388 F_lp10388 rc) H → va_S (AM g s.heap.size) s.heap H locs → lv_has ls 5 [(3, .int x3_lp10388), (2, .int x2_lp10388), (0, .ref (g 0)), (1, .int p0)] → W p l e (headSpec (Cond.code yX12_works cX12_works 5 (some .int) :: wA) ({ frames := 2, cells := 0, slots := 0, locals := 80 })).room s m ([.ref (g 0), .int p0] : List Value).toArray below meth c0 H locs 0 0 (MQ below (va_Qi (fun (r : Int32) (u : StM) => IM u.1 u.2.1 ∧ u.2.2 = rc ∧ (∀ k, k ∉ ([] : List Nat) → u.1 k = v k) ∧ (∀ k, k ∉ ([30] : List Nat) → u.2.1 k = F k) ∧ True) (BM dC dI g c) (AM g s.heap.size)) ([.ref (g 0), .int p0] : List Value).toArray s 0 0 (AM g s.heap.size)) (F0 m 8 ls []) := by
    intro n
    induction n with
    | zero =>
      intro x3_lp10388 x2_lp10388 v_lp10388 F_lp10388 H locs ls t10389 t10390 t10391 t10392 t10393 hm hf_lp10388 hI hF hP hS hl
      exfalso
      have := i32_rng x3_lp10388
      have := i32_rng x2_lp10388
      have hI1 := hI.1
      omega
    | succ n ih_lp10388 =>
      intro x3_lp10388 x2_lp10388 v_lp10388 F_lp10388 H locs ls t10389 t10390 t10391 t10392 t10393 hm hf_lp10388 hI hF hP hS hl
      have rx3_lp10388 := i32_rng x3_lp10388
      have rx2_lp10388 := i32_rng x2_lp10388
      have hle := dpI.le t10393
      refine lv_iload_n hx hb dX12_works_8 rfl (lv_at hl 0 rfl) ?_
      refine lv_sipush (v := 130) hx hb dX12_works_9 (by decide) ?_
      refine lv_iload_n hx hb dX12_works_12 rfl (lv_at hl 3 rfl) ?_
      refine lv_imul hx hb dX12_works_13 ?_
      refine lv_topi (fun z10394 e10395 => ?_)
      try (have t10396 := tmul e10395 (a := 130) (by decide) (b := p0.toInt) rfl (by omega))
      refine lv_aload_n hx hb dX12_works_14 rfl (lv_at hl 2 rfl) ?_
      refine va_get (D := (dC, dI)) (ci := 12) (v := .ref (g 27)) (C := RX12) (T := TX12) (N := 63) hx hb hwd inA_X12 hown hK hP 0 rfl rfl 34 (by decide) (hwd _ wk_209) (fun _ h9 => h9) rfl dX12_works_15 ?_
      refine lv_iload_n hx hb dX12_works_18 rfl (lv_at hl 3 rfl) ?_
      refine va_iald hx hb hK hP 27 26 rfl rfl (i := p0) (vin (a := p0.toInt) rfl (by omega)) dX12_works_19 ?_
      refine lv_topi (fun z10397 e10398 => ?_)
      have t10399 : 0 ≤ z10397.toInt ∧ z10397.toInt ≤ 120 := by rw [e10398]; exact hI.2 27 _ _ rfl _
      have e10398 : z10397 = F 27 (p0 : Int32).toNatClampNeg := e10398.trans (congrFun (hF 27 (by decide)) _)
      have tzz10397 : z10397.toInt = (F 27 (p0 : Int32).toNatClampNeg).toInt := congrArg Int32.toInt e10398
      refine lv_iadd hx hb dX12_works_20 ?_
      refine lv_topi (fun z10400 e10401 => ?_)
      try (have t10402 := tadd e10401 (a := z10394.toInt) rfl (b := z10397.toInt) rfl (by omega))
      refine lv_icmp_ge (tgt := 192) hx hb dX12_works_21 (by decide) (fun c10403 => ?_) (fun c10403 => ?_)
      · skip
        have t10404 := cv_le (a := z10400.toInt) rfl (b := x3_lp10388.toInt) rfl c10403
        refine lv_aload_n hx hb dX12_works_192 rfl (lv_at hl 2 rfl) ?_
        refine va_get (D := (dC, dI)) (ci := 12) (v := .ref (g 30)) (C := RX12) (T := TX12) (N := 63) hx hb hwd inA_X12 hown hK hP 0 rfl rfl 43 (by decide) (hwd _ wk_212) (fun _ h9 => h9) rfl dX12_works_193 ?_
        refine lv_iconst (v := 0) hx hb dX12_works_196 (by decide) ?_
        refine va_iald hx hb hK hP 30 29 rfl rfl (i := 0) (vin (a := 0) (by decide) (by omega)) dX12_works_197 ?_
        refine lv_topi (fun z10405 e10406 => ?_)
        have tzz10405 : z10405.toInt = (F_lp10388 30 (0 : Int32).toNatClampNeg).toInt := congrArg Int32.toInt e10406
        have hP9 : va_P (dC, dI) classes (wM g c v_lp10388 F_lp10388 rc) H := hP
        exact W.iret (v := z10405) hx hb hr (fun t ht hW => ⟨⟨z10405, (v_lp10388, F_lp10388, rc), rfl, ⟨hI, rfl, (frC (by decide) hf_lp10388 (fun _ _ => rfl)), hF, trivial⟩, (by show va_P _ _ _ t.heap; rw [ht]; exact hP9)⟩, hS.F ht⟩) hS.2.2 dX12_works_198
      · skip
        have t10407 := cv_nle (a := z10400.toInt) rfl (b := x3_lp10388.toInt) rfl c10403
        refine lv_aload_n hx hb dX12_works_24 rfl (lv_at hl 2 rfl) ?_
        refine va_get (D := (dC, dI)) (ci := 12) (v := .ref (g 28)) (C := RX12) (T := TX12) (N := 63) hx hb hwd inA_X12 hown hK hP 0 rfl rfl 35 (by decide) (hwd _ wk_210) (fun _ h9 => h9) rfl dX12_works_25 ?_
        refine lv_iload_n hx hb dX12_works_28 rfl (lv_at hl 0 rfl) ?_
        refine va_iald hx hb hK hP 28 27 rfl rfl (i := x3_lp10388) (vin (a := x3_lp10388.toInt) rfl (by omega)) dX12_works_29 ?_
        refine lv_topi (fun z10408 e10409 => ?_)
        have e10409 : z10408 = F 28 (x3_lp10388 : Int32).toNatClampNeg := e10409.trans (congrFun (hF 28 (by decide)) _)
        have tzz10408 : z10408.toInt = (F 28 (x3_lp10388 : Int32).toNatClampNeg).toInt := congrArg Int32.toInt e10409
        obtain ⟨q9, hq9, hn9⟩ := dpI.next t10393 (m := (F 27 p0.toNatClampNeg).toInt) (by omega) hD
        have hnd := dpS_need hq9
        have hq0 : (0 : Int) ≤ (q9 : Int) := Int.natCast_nonneg _
        refine lv_istore (lv' := [(4, .int z10408), (3, .int x3_lp10388), (2, .int x2_lp10388), (0, .ref (g 0)), (1, .int p0)]) hx hb dX12_works_30 hl (by decide) rfl (fun ls hl => ?_)
        refine lv_iload hx hb dX12_works_32 (lv_at hl 0 rfl) ?_
        refine lv_iconst (v := 1) hx hb dX12_works_34 (by decide) ?_
        refine lv_icmp_eq (tgt := 44) hx hb dX12_works_35 (by decide) (fun c10410 => ?_) (fun c10410 => ?_)
        · skip
          have t10411 := cv_eq (a := z10408.toInt) rfl (b := 1) (by decide) c10410
          refine lv_aload_n hx hb dX12_works_44 rfl (lv_at hl 3 rfl) ?_
          refine va_get (D := (dC, dI)) (ci := 12) (v := .ref (g 30)) (C := RX12) (T := TX12) (N := 63) hx hb hwd inA_X12 hown hK hP 0 rfl rfl 43 (by decide) (hwd _ wk_212) (fun _ h9 => h9) rfl dX12_works_45 ?_
          refine lv_iload_n hx hb dX12_works_48 rfl (lv_at hl 2 rfl) ?_
          refine lv_iload hx hb dX12_works_49 (lv_at hl 0 rfl) ?_
          refine lv_iconst (v := 1) hx hb dX12_works_51 (by decide) ?_
          refine lv_icmp_ne (tgt := 64) hx hb dX12_works_52 (by decide) (fun c10412 => ?_) (fun c10412 => ?_)
          · skip
            have t10413 := cv_ne (a := z10408.toInt) rfl (b := 1) (by decide) c10412
            refine lv_aload_n hx hb dX12_works_64 rfl (lv_at hl 3 rfl) ?_
            refine va_get (D := (dC, dI)) (ci := 12) (v := .ref (g 31)) (C := RX12) (T := TX12) (N := 63) hx hb hwd inA_X12 hown hK hP 0 rfl rfl 44 (by decide) (hwd _ wk_213) (fun _ h9 => h9) rfl dX12_works_65 ?_
            refine lv_aload_n hx hb dX12_works_68 rfl (lv_at hl 3 rfl) ?_
            refine va_get (D := (dC, dI)) (ci := 12) (v := .ref (g 29)) (C := RX12) (T := TX12) (N := 63) hx hb hwd inA_X12 hown hK hP 0 rfl rfl 36 (by decide) (hwd _ wk_211) (fun _ h9 => h9) rfl dX12_works_69 ?_
            refine lv_iload_n hx hb dX12_works_72 rfl (lv_at hl 1 rfl) ?_
            refine va_iald hx hb hK hP 29 28 rfl rfl (i := x3_lp10388) (vin (a := x3_lp10388.toInt) rfl (by omega)) dX12_works_73 ?_
            refine lv_topi (fun z10414 e10415 => ?_)
            have e10415 : z10414 = F 29 (x3_lp10388 : Int32).toNatClampNeg := e10415.trans (congrFun (hF 29 (by decide)) _)
            have tzz10414 : z10414.toInt = (F 29 (x3_lp10388 : Int32).toNatClampNeg).toInt := congrArg Int32.toInt e10415
            refine va_iald hx hb hK hP 31 30 rfl rfl (i := z10414) (vin (a := z10414.toInt) rfl (by omega)) dX12_works_74 ?_
            refine lv_topi (fun z10416 e10417 => ?_)
            have e10417 : z10416 = F 31 (z10414 : Int32).toNatClampNeg := e10417.trans (congrFun (hF 31 (by decide)) _)
            have tzz10416 : z10416.toInt = (F 31 (z10414 : Int32).toNatClampNeg).toInt := congrArg Int32.toInt e10417
            refine va_iast hx hb hK hP (DM hg) hS 30 29 rfl rfl (i := x2_lp10388) (x := z10416) (vin (a := x2_lp10388.toInt) rfl (by omega)) dX12_works_75 (fun H locs hP _ hS => ?_)
            have hP := va_P_eq (sM_30 g c _ _ _ _) hP
            have hI := IM.store0 hI 30 (x2_lp10388 : Int32).toNatClampNeg z10416 rfl
            have hF := frUF (k := 30) (f := upd (F_lp10388 30) (x2_lp10388 : Int32).toNatClampNeg z10416) (by decide) hF
            have st10419 : (va_up F_lp10388 30 (upd (F_lp10388 30) (x2_lp10388 : Int32).toNatClampNeg z10416)) 30 = upd (F_lp10388 30) (x2_lp10388 : Int32).toNatClampNeg z10416 := va_up_self _ _ _
            have sn10420 : ∀ k9, k9 ≠ 30 → (va_up F_lp10388 30 (upd (F_lp10388 30) (x2_lp10388 : Int32).toNatClampNeg z10416)) k9 = F_lp10388 k9 := fun k9 h9 => va_up_ne _ _ h9
            have hP : va_P (dC, dI) classes (wM g c v_lp10388 (va_up F_lp10388 30 (upd (F_lp10388 30) (x2_lp10388 : Int32).toNatClampNeg z10416)) rc) H := hP
            generalize (va_up F_lp10388 30 (upd (F_lp10388 30) (x2_lp10388 : Int32).toNatClampNeg z10416)) = F10418 at hP hI hF st10419 sn10420
            obtain ⟨z10421, e10422⟩ : ∃ y : Int32, y = x2_lp10388 + 1 := ⟨_, rfl⟩
            try (have t10423 := tadd e10422 rfl (b := 1) (by decide) (by omega))
            refine lv_iinc (v := z10421) (lv' := [(2, .int z10421), (4, .int z10408), (3, .int x3_lp10388), (0, .ref (g 0)), (1, .int p0)]) hx hb dX12_works_76 hl (k := 2) rfl (by rw [e10422]; rfl) (by decide) rfl (fun ls hl => ?_)
            refine lv_goto (tgt := 186) hx hb dX12_works_79 (by decide) ?_
            obtain ⟨z10424, e10425⟩ : ∃ y : Int32, y = x3_lp10388 + 1 := ⟨_, rfl⟩
            try (have t10426 := tadd e10425 rfl (b := 1) (by decide) (by omega))
            refine lv_iinc (v := z10424) (lv' := [(3, .int z10424), (2, .int z10421), (4, .int z10408), (0, .ref (g 0)), (1, .int p0)]) hx hb dX12_works_186 hl (k := 2) rfl (by rw [e10425]; rfl) (by decide) rfl (fun ls hl => ?_)
            refine lv_goto (tgt := 8) hx hb dX12_works_189 (by decide) ?_
            exact ih_lp10388 z10424 z10421 v_lp10388 F10418 _ _ _ (by omega) (by omega) (by omega) (by omega) (dpI.to hn9 (by omega) (by omega)) (by omega) hf_lp10388 hI hF hP hS (lv_sub hl [0, 1, 3, 4] rfl)
          · skip
            have t10427 := cv_eq (a := z10408.toInt) rfl (b := 1) (by decide) c10412
            refine lv_aload_n hx hb dX12_works_55 rfl (lv_at hl 3 rfl) ?_
            refine va_get (D := (dC, dI)) (ci := 12) (v := .ref (g 29)) (C := RX12) (T := TX12) (N := 63) hx hb hwd inA_X12 hown hK hP 0 rfl rfl 36 (by decide) (hwd _ wk_211) (fun _ h9 => h9) rfl dX12_works_56 ?_
            refine lv_iload_n hx hb dX12_works_59 rfl (lv_at hl 1 rfl) ?_
            refine va_iald hx hb hK hP 29 28 rfl rfl (i := x3_lp10388) (vin (a := x3_lp10388.toInt) rfl (by omega)) dX12_works_60 ?_
            refine lv_topi (fun z10428 e10429 => ?_)
            have e10429 : z10428 = F 29 (x3_lp10388 : Int32).toNatClampNeg := e10429.trans (congrFun (hF 29 (by decide)) _)
            have tzz10428 : z10428.toInt = (F 29 (x3_lp10388 : Int32).toNatClampNeg).toInt := congrArg Int32.toInt e10429
            refine lv_goto (tgt := 75) hx hb dX12_works_61 (by decide) ?_
            refine va_iast hx hb hK hP (DM hg) hS 30 29 rfl rfl (i := x2_lp10388) (x := z10428) (vin (a := x2_lp10388.toInt) rfl (by omega)) dX12_works_75 (fun H locs hP _ hS => ?_)
            have hP := va_P_eq (sM_30 g c _ _ _ _) hP
            have hI := IM.store0 hI 30 (x2_lp10388 : Int32).toNatClampNeg z10428 rfl
            have hF := frUF (k := 30) (f := upd (F_lp10388 30) (x2_lp10388 : Int32).toNatClampNeg z10428) (by decide) hF
            have st10431 : (va_up F_lp10388 30 (upd (F_lp10388 30) (x2_lp10388 : Int32).toNatClampNeg z10428)) 30 = upd (F_lp10388 30) (x2_lp10388 : Int32).toNatClampNeg z10428 := va_up_self _ _ _
            have sn10432 : ∀ k9, k9 ≠ 30 → (va_up F_lp10388 30 (upd (F_lp10388 30) (x2_lp10388 : Int32).toNatClampNeg z10428)) k9 = F_lp10388 k9 := fun k9 h9 => va_up_ne _ _ h9
            have hP : va_P (dC, dI) classes (wM g c v_lp10388 (va_up F_lp10388 30 (upd (F_lp10388 30) (x2_lp10388 : Int32).toNatClampNeg z10428)) rc) H := hP
            generalize (va_up F_lp10388 30 (upd (F_lp10388 30) (x2_lp10388 : Int32).toNatClampNeg z10428)) = F10430 at hP hI hF st10431 sn10432
            obtain ⟨z10433, e10434⟩ : ∃ y : Int32, y = x2_lp10388 + 1 := ⟨_, rfl⟩
            try (have t10435 := tadd e10434 rfl (b := 1) (by decide) (by omega))
            refine lv_iinc (v := z10433) (lv' := [(2, .int z10433), (4, .int z10408), (3, .int x3_lp10388), (0, .ref (g 0)), (1, .int p0)]) hx hb dX12_works_76 hl (k := 2) rfl (by rw [e10434]; rfl) (by decide) rfl (fun ls hl => ?_)
            refine lv_goto (tgt := 186) hx hb dX12_works_79 (by decide) ?_
            obtain ⟨z10436, e10437⟩ : ∃ y : Int32, y = x3_lp10388 + 1 := ⟨_, rfl⟩
            try (have t10438 := tadd e10437 rfl (b := 1) (by decide) (by omega))
            refine lv_iinc (v := z10436) (lv' := [(3, .int z10436), (2, .int z10433), (4, .int z10408), (0, .ref (g 0)), (1, .int p0)]) hx hb dX12_works_186 hl (k := 2) rfl (by rw [e10437]; rfl) (by decide) rfl (fun ls hl => ?_)
            refine lv_goto (tgt := 8) hx hb dX12_works_189 (by decide) ?_
            exact ih_lp10388 z10436 z10433 v_lp10388 F10430 _ _ _ (by omega) (by omega) (by omega) (by omega) (dpI.to hn9 (by omega) (by omega)) (by omega) hf_lp10388 hI hF hP hS (lv_sub hl [0, 1, 3, 4] rfl)
        · skip
          have t10439 := cv_ne (a := z10408.toInt) rfl (b := 1) (by decide) c10410
          refine lv_iload hx hb dX12_works_38 (lv_at hl 0 rfl) ?_
          refine lv_iconst (v := 2) hx hb dX12_works_40 (by decide) ?_
          refine lv_icmp_ne (tgt := 82) hx hb dX12_works_41 (by decide) (fun c10440 => ?_) (fun c10440 => ?_)
          · skip
            have t10441 := cv_ne (a := z10408.toInt) rfl (b := 2) (by decide) c10440
            refine lv_iload hx hb dX12_works_82 (lv_at hl 0 rfl) ?_
            refine lv_iconst (v := 3) hx hb dX12_works_84 (by decide) ?_
            refine lv_icmp_ne (tgt := 108) hx hb dX12_works_85 (by decide) (fun c10442 => ?_) (fun c10442 => ?_)
            · skip
              have t10443 := cv_ne (a := z10408.toInt) rfl (b := 3) (by decide) c10442
              refine lv_iload hx hb dX12_works_108 (lv_at hl 0 rfl) ?_
              refine lv_iconst (v := 4) hx hb dX12_works_110 (by decide) ?_
              refine lv_icmp_ne (tgt := 156) hx hb dX12_works_111 (by decide) (fun c10444 => ?_) (fun c10444 => ?_)
              · skip
                have t10445 := cv_ne (a := z10408.toInt) rfl (b := 4) (by decide) c10444
                obtain ⟨z10446, e10447⟩ : ∃ y : Int32, y = x2_lp10388 + (-1) := ⟨_, rfl⟩
                try (have t10448 := tadd e10447 rfl (b := (-1)) (by decide) (by omega))
                refine lv_iinc (v := z10446) (lv' := [(2, .int z10446), (4, .int z10408), (3, .int x3_lp10388), (0, .ref (g 0)), (1, .int p0)]) hx hb dX12_works_156 hl (k := 2) rfl (by rw [e10447]; rfl) (by decide) rfl (fun ls hl => ?_)
                refine lv_aload_n hx hb dX12_works_159 rfl (lv_at hl 3 rfl) ?_
                refine va_get (D := (dC, dI)) (ci := 12) (v := .ref (g 30)) (C := RX12) (T := TX12) (N := 63) hx hb hwd inA_X12 hown hK hP 0 rfl rfl 43 (by decide) (hwd _ wk_212) (fun _ h9 => h9) rfl dX12_works_160 ?_
                refine lv_iload_n hx hb dX12_works_163 rfl (lv_at hl 0 rfl) ?_
                refine lv_iconst (v := 1) hx hb dX12_works_164 (by decide) ?_
                refine lv_isub hx hb dX12_works_165 ?_
                refine lv_topi (fun z10449 e10450 => ?_)
                try (have t10451 := tsub e10450 (a := z10446.toInt) rfl (b := 1) (by decide) (by omega))
                refine lv_iload hx hb dX12_works_166 (lv_at hl 1 rfl) ?_
                refine lv_aload_n hx hb dX12_works_168 rfl (lv_at hl 3 rfl) ?_
                refine va_get (D := (dC, dI)) (ci := 12) (v := .ref (g 30)) (C := RX12) (T := TX12) (N := 63) hx hb hwd inA_X12 hown hK hP 0 rfl rfl 43 (by decide) (hwd _ wk_212) (fun _ h9 => h9) rfl dX12_works_169 ?_
                refine lv_iload_n hx hb dX12_works_172 rfl (lv_at hl 0 rfl) ?_
                refine lv_iconst (v := 1) hx hb dX12_works_173 (by decide) ?_
                refine lv_isub hx hb dX12_works_174 ?_
                refine lv_topi (fun z10452 e10453 => ?_)
                try (have t10454 := tsub e10453 (a := z10446.toInt) rfl (b := 1) (by decide) (by omega))
                refine va_iald hx hb hK hP 30 29 rfl rfl (i := z10452) (vin (a := z10452.toInt) rfl (by omega)) dX12_works_175 ?_
                refine lv_topi (fun z10455 e10456 => ?_)
                have tzz10455 : z10455.toInt = (F_lp10388 30 (z10452 : Int32).toNatClampNeg).toInt := congrArg Int32.toInt e10456
                refine lv_aload_n hx hb dX12_works_176 rfl (lv_at hl 3 rfl) ?_
                refine va_get (D := (dC, dI)) (ci := 12) (v := .ref (g 30)) (C := RX12) (T := TX12) (N := 63) hx hb hwd inA_X12 hown hK hP 0 rfl rfl 43 (by decide) (hwd _ wk_212) (fun _ h9 => h9) rfl dX12_works_177 ?_
                refine lv_iload_n hx hb dX12_works_180 rfl (lv_at hl 0 rfl) ?_
                refine va_iald hx hb hK hP 30 29 rfl rfl (i := z10446) (vin (a := z10446.toInt) rfl (by omega)) dX12_works_181 ?_
                refine lv_topi (fun z10457 e10458 => ?_)
                have tzz10457 : z10457.toInt = (F_lp10388 30 (z10446 : Int32).toNatClampNeg).toInt := congrArg Int32.toInt e10458
                refine va_calli (va_runS (As := [.int z10408, .int z10455, .int z10457]) (rest := [.int z10449, .ref (g 30)]) ⟨hx, hb, hml, hown, hwd⟩ (c_X12_both l dC dI g c adK adV v_lp10388 F_lp10388 rc H.size z10408 z10455 z10457 hg hI ) (va_cwS 3 hwd (gT wk_516 wk_514 wk_515 wk_5) rfl rfl rfl (by decide +kernel) ⟨Nat.le_of_ble_eq_true rfl, Nat.le_of_ble_eq_true rfl⟩) ⟨PM.blind, fun U hU hW => ⟨rfl, PM.at hK hE hP hS hU hW⟩⟩ rfl rfl hl.1 rfl (lv_room (Nat.le_of_ble_eq_true rfl)) dX12_works_182 ⟨Nat.le_of_ble_eq_true rfl, Nat.le_of_ble_eq_true rfl⟩) hS (fun q _ h => (freeM hS) q h) (freeM hS) (fun r10459 u t H1 locs ht hvm hw hB hz1 hk1 hS => ?_)
                unfold BM at hB
                rw [ht] at hB
                have hP : va_P (dC, dI) classes (wM g c v_lp10388 F_lp10388 rc) H1 := hB
                clear hz1
                generalize H1 = H at hP hS ⊢
                have rr_r10459 := i32_rng r10459
                refine va_iast hx hb hK hP (DM hg) hS 30 29 rfl rfl (i := z10449) (x := r10459) (vin (a := z10449.toInt) rfl (by omega)) dX12_works_185 (fun H locs hP _ hS => ?_)
                have hP := va_P_eq (sM_30 g c _ _ _ _) hP
                have hI := IM.store0 hI 30 (z10449 : Int32).toNatClampNeg r10459 rfl
                have hF := frUF (k := 30) (f := upd (F_lp10388 30) (z10449 : Int32).toNatClampNeg r10459) (by decide) hF
                have st10461 : (va_up F_lp10388 30 (upd (F_lp10388 30) (z10449 : Int32).toNatClampNeg r10459)) 30 = upd (F_lp10388 30) (z10449 : Int32).toNatClampNeg r10459 := va_up_self _ _ _
                have sn10462 : ∀ k9, k9 ≠ 30 → (va_up F_lp10388 30 (upd (F_lp10388 30) (z10449 : Int32).toNatClampNeg r10459)) k9 = F_lp10388 k9 := fun k9 h9 => va_up_ne _ _ h9
                have hP : va_P (dC, dI) classes (wM g c v_lp10388 (va_up F_lp10388 30 (upd (F_lp10388 30) (z10449 : Int32).toNatClampNeg r10459)) rc) H := hP
                generalize (va_up F_lp10388 30 (upd (F_lp10388 30) (z10449 : Int32).toNatClampNeg r10459)) = F10460 at hP hI hF st10461 sn10462
                obtain ⟨z10463, e10464⟩ : ∃ y : Int32, y = x3_lp10388 + 1 := ⟨_, rfl⟩
                try (have t10465 := tadd e10464 rfl (b := 1) (by decide) (by omega))
                refine lv_iinc (v := z10463) (lv' := [(3, .int z10463), (2, .int z10446), (4, .int z10408), (0, .ref (g 0)), (1, .int p0)]) hx hb dX12_works_186 hl (k := 2) rfl (by rw [e10464]; rfl) (by decide) rfl (fun ls hl => ?_)
                refine lv_goto (tgt := 8) hx hb dX12_works_189 (by decide) ?_
                exact ih_lp10388 z10463 z10446 v_lp10388 F10460 _ _ _ (by omega) (by omega) (by omega) (by omega) (dpI.to hn9 (by omega) (by omega)) (by omega) hf_lp10388 hI hF hP hS (lv_sub hl [0, 1, 3, 4] rfl)
              · skip
                have t10466 := cv_eq (a := z10408.toInt) rfl (b := 4) (by decide) c10444
                obtain ⟨z10467, e10468⟩ : ∃ y : Int32, y = x2_lp10388 + (-2) := ⟨_, rfl⟩
                try (have t10469 := tadd e10468 rfl (b := (-2)) (by decide) (by omega))
                refine lv_iinc (v := z10467) (lv' := [(2, .int z10467), (4, .int z10408), (3, .int x3_lp10388), (0, .ref (g 0)), (1, .int p0)]) hx hb dX12_works_114 hl (k := 2) rfl (by rw [e10468]; rfl) (by decide) rfl (fun ls hl => ?_)
                refine lv_aload_n hx hb dX12_works_117 rfl (lv_at hl 3 rfl) ?_
                refine va_get (D := (dC, dI)) (ci := 12) (v := .ref (g 30)) (C := RX12) (T := TX12) (N := 63) hx hb hwd inA_X12 hown hK hP 0 rfl rfl 43 (by decide) (hwd _ wk_212) (fun _ h9 => h9) rfl dX12_works_118 ?_
                refine lv_iload_n hx hb dX12_works_121 rfl (lv_at hl 0 rfl) ?_
                refine lv_iconst (v := 1) hx hb dX12_works_122 (by decide) ?_
                refine lv_isub hx hb dX12_works_123 ?_
                refine lv_topi (fun z10470 e10471 => ?_)
                try (have t10472 := tsub e10471 (a := z10467.toInt) rfl (b := 1) (by decide) (by omega))
                refine lv_aload_n hx hb dX12_works_124 rfl (lv_at hl 3 rfl) ?_
                refine va_get (D := (dC, dI)) (ci := 12) (v := .ref (g 30)) (C := RX12) (T := TX12) (N := 63) hx hb hwd inA_X12 hown hK hP 0 rfl rfl 43 (by decide) (hwd _ wk_212) (fun _ h9 => h9) rfl dX12_works_125 ?_
                refine lv_iload_n hx hb dX12_works_128 rfl (lv_at hl 0 rfl) ?_
                refine lv_iconst (v := 1) hx hb dX12_works_129 (by decide) ?_
                refine lv_isub hx hb dX12_works_130 ?_
                refine lv_topi (fun z10473 e10474 => ?_)
                try (have t10475 := tsub e10474 (a := z10467.toInt) rfl (b := 1) (by decide) (by omega))
                refine va_iald hx hb hK hP 30 29 rfl rfl (i := z10473) (vin (a := z10473.toInt) rfl (by omega)) dX12_works_131 ?_
                refine lv_topi (fun z10476 e10477 => ?_)
                have tzz10476 : z10476.toInt = (F_lp10388 30 (z10473 : Int32).toNatClampNeg).toInt := congrArg Int32.toInt e10477
                refine lv_if_eq (tgt := 144) hx hb dX12_works_132 (by decide) (fun c10478 => ?_) (fun c10478 => ?_)
                · skip
                  have t10479 := cv_eq (a := z10476.toInt) rfl (b := 0) (by decide) c10478
                  refine lv_aload_n hx hb dX12_works_144 rfl (lv_at hl 3 rfl) ?_
                  refine va_get (D := (dC, dI)) (ci := 12) (v := .ref (g 30)) (C := RX12) (T := TX12) (N := 63) hx hb hwd inA_X12 hown hK hP 0 rfl rfl 43 (by decide) (hwd _ wk_212) (fun _ h9 => h9) rfl dX12_works_145 ?_
                  refine lv_iload_n hx hb dX12_works_148 rfl (lv_at hl 0 rfl) ?_
                  refine lv_iconst (v := 1) hx hb dX12_works_149 (by decide) ?_
                  refine lv_iadd hx hb dX12_works_150 ?_
                  refine lv_topi (fun z10480 e10481 => ?_)
                  try (have t10482 := tadd e10481 (a := z10467.toInt) rfl (b := 1) (by decide) (by omega))
                  refine va_iald hx hb hK hP 30 29 rfl rfl (i := z10480) (vin (a := z10480.toInt) rfl (by omega)) dX12_works_151 ?_
                  refine lv_topi (fun z10483 e10484 => ?_)
                  have tzz10483 : z10483.toInt = (F_lp10388 30 (z10480 : Int32).toNatClampNeg).toInt := congrArg Int32.toInt e10484
                  refine va_iast hx hb hK hP (DM hg) hS 30 29 rfl rfl (i := z10470) (x := z10483) (vin (a := z10470.toInt) rfl (by omega)) dX12_works_152 (fun H locs hP _ hS => ?_)
                  have hP := va_P_eq (sM_30 g c _ _ _ _) hP
                  have hI := IM.store0 hI 30 (z10470 : Int32).toNatClampNeg z10483 rfl
                  have hF := frUF (k := 30) (f := upd (F_lp10388 30) (z10470 : Int32).toNatClampNeg z10483) (by decide) hF
                  have st10486 : (va_up F_lp10388 30 (upd (F_lp10388 30) (z10470 : Int32).toNatClampNeg z10483)) 30 = upd (F_lp10388 30) (z10470 : Int32).toNatClampNeg z10483 := va_up_self _ _ _
                  have sn10487 : ∀ k9, k9 ≠ 30 → (va_up F_lp10388 30 (upd (F_lp10388 30) (z10470 : Int32).toNatClampNeg z10483)) k9 = F_lp10388 k9 := fun k9 h9 => va_up_ne _ _ h9
                  have hP : va_P (dC, dI) classes (wM g c v_lp10388 (va_up F_lp10388 30 (upd (F_lp10388 30) (z10470 : Int32).toNatClampNeg z10483)) rc) H := hP
                  generalize (va_up F_lp10388 30 (upd (F_lp10388 30) (z10470 : Int32).toNatClampNeg z10483)) = F10485 at hP hI hF st10486 sn10487
                  refine lv_goto (tgt := 186) hx hb dX12_works_153 (by decide) ?_
                  obtain ⟨z10488, e10489⟩ : ∃ y : Int32, y = x3_lp10388 + 1 := ⟨_, rfl⟩
                  try (have t10490 := tadd e10489 rfl (b := 1) (by decide) (by omega))
                  refine lv_iinc (v := z10488) (lv' := [(3, .int z10488), (2, .int z10467), (4, .int z10408), (0, .ref (g 0)), (1, .int p0)]) hx hb dX12_works_186 hl (k := 2) rfl (by rw [e10489]; rfl) (by decide) rfl (fun ls hl => ?_)
                  refine lv_goto (tgt := 8) hx hb dX12_works_189 (by decide) ?_
                  exact ih_lp10388 z10488 z10467 v_lp10388 F10485 _ _ _ (by omega) (by omega) (by omega) (by omega) (dpI.to hn9 (by omega) (by omega)) (by omega) hf_lp10388 hI hF hP hS (lv_sub hl [0, 1, 3, 4] rfl)
                · skip
                  have t10491 := cv_ne (a := z10476.toInt) rfl (b := 0) (by decide) c10478
                  refine lv_aload_n hx hb dX12_works_135 rfl (lv_at hl 3 rfl) ?_
                  refine va_get (D := (dC, dI)) (ci := 12) (v := .ref (g 30)) (C := RX12) (T := TX12) (N := 63) hx hb hwd inA_X12 hown hK hP 0 rfl rfl 43 (by decide) (hwd _ wk_212) (fun _ h9 => h9) rfl dX12_works_136 ?_
                  refine lv_iload_n hx hb dX12_works_139 rfl (lv_at hl 0 rfl) ?_
                  refine va_iald hx hb hK hP 30 29 rfl rfl (i := z10467) (vin (a := z10467.toInt) rfl (by omega)) dX12_works_140 ?_
                  refine lv_topi (fun z10492 e10493 => ?_)
                  have tzz10492 : z10492.toInt = (F_lp10388 30 (z10467 : Int32).toNatClampNeg).toInt := congrArg Int32.toInt e10493
                  refine lv_goto (tgt := 152) hx hb dX12_works_141 (by decide) ?_
                  refine va_iast hx hb hK hP (DM hg) hS 30 29 rfl rfl (i := z10470) (x := z10492) (vin (a := z10470.toInt) rfl (by omega)) dX12_works_152 (fun H locs hP _ hS => ?_)
                  have hP := va_P_eq (sM_30 g c _ _ _ _) hP
                  have hI := IM.store0 hI 30 (z10470 : Int32).toNatClampNeg z10492 rfl
                  have hF := frUF (k := 30) (f := upd (F_lp10388 30) (z10470 : Int32).toNatClampNeg z10492) (by decide) hF
                  have st10495 : (va_up F_lp10388 30 (upd (F_lp10388 30) (z10470 : Int32).toNatClampNeg z10492)) 30 = upd (F_lp10388 30) (z10470 : Int32).toNatClampNeg z10492 := va_up_self _ _ _
                  have sn10496 : ∀ k9, k9 ≠ 30 → (va_up F_lp10388 30 (upd (F_lp10388 30) (z10470 : Int32).toNatClampNeg z10492)) k9 = F_lp10388 k9 := fun k9 h9 => va_up_ne _ _ h9
                  have hP : va_P (dC, dI) classes (wM g c v_lp10388 (va_up F_lp10388 30 (upd (F_lp10388 30) (z10470 : Int32).toNatClampNeg z10492)) rc) H := hP
                  generalize (va_up F_lp10388 30 (upd (F_lp10388 30) (z10470 : Int32).toNatClampNeg z10492)) = F10494 at hP hI hF st10495 sn10496
                  refine lv_goto (tgt := 186) hx hb dX12_works_153 (by decide) ?_
                  obtain ⟨z10497, e10498⟩ : ∃ y : Int32, y = x3_lp10388 + 1 := ⟨_, rfl⟩
                  try (have t10499 := tadd e10498 rfl (b := 1) (by decide) (by omega))
                  refine lv_iinc (v := z10497) (lv' := [(3, .int z10497), (2, .int z10467), (4, .int z10408), (0, .ref (g 0)), (1, .int p0)]) hx hb dX12_works_186 hl (k := 2) rfl (by rw [e10498]; rfl) (by decide) rfl (fun ls hl => ?_)
                  refine lv_goto (tgt := 8) hx hb dX12_works_189 (by decide) ?_
                  exact ih_lp10388 z10497 z10467 v_lp10388 F10494 _ _ _ (by omega) (by omega) (by omega) (by omega) (dpI.to hn9 (by omega) (by omega)) (by omega) hf_lp10388 hI hF hP hS (lv_sub hl [0, 1, 3, 4] rfl)
            · skip
              have t10500 := cv_eq (a := z10408.toInt) rfl (b := 3) (by decide) c10442
              refine lv_aload_n hx hb dX12_works_88 rfl (lv_at hl 3 rfl) ?_
              refine va_get (D := (dC, dI)) (ci := 12) (v := .ref (g 30)) (C := RX12) (T := TX12) (N := 63) hx hb hwd inA_X12 hown hK hP 0 rfl rfl 43 (by decide) (hwd _ wk_212) (fun _ h9 => h9) rfl dX12_works_89 ?_
              refine lv_iload_n hx hb dX12_works_92 rfl (lv_at hl 2 rfl) ?_
              refine lv_iconst (v := 1) hx hb dX12_works_93 (by decide) ?_
              refine lv_isub hx hb dX12_works_94 ?_
              refine lv_topi (fun z10501 e10502 => ?_)
              try (have t10503 := tsub e10502 (a := x2_lp10388.toInt) rfl (b := 1) (by decide) (by omega))
              refine lv_aload_n hx hb dX12_works_95 rfl (lv_at hl 3 rfl) ?_
              refine va_get (D := (dC, dI)) (ci := 12) (v := .ref (g 30)) (C := RX12) (T := TX12) (N := 63) hx hb hwd inA_X12 hown hK hP 0 rfl rfl 43 (by decide) (hwd _ wk_212) (fun _ h9 => h9) rfl dX12_works_96 ?_
              refine lv_iload_n hx hb dX12_works_99 rfl (lv_at hl 2 rfl) ?_
              refine lv_iconst (v := 1) hx hb dX12_works_100 (by decide) ?_
              refine lv_isub hx hb dX12_works_101 ?_
              refine lv_topi (fun z10504 e10505 => ?_)
              try (have t10506 := tsub e10505 (a := x2_lp10388.toInt) rfl (b := 1) (by decide) (by omega))
              refine va_iald hx hb hK hP 30 29 rfl rfl (i := z10504) (vin (a := z10504.toInt) rfl (by omega)) dX12_works_102 ?_
              refine lv_topi (fun z10507 e10508 => ?_)
              have tzz10507 : z10507.toInt = (F_lp10388 30 (z10504 : Int32).toNatClampNeg).toInt := congrArg Int32.toInt e10508
              refine lv_ineg hx hb dX12_works_103 ?_
              refine lv_topi (fun z10509 e10510 => ?_)
              refine va_iast hx hb hK hP (DM hg) hS 30 29 rfl rfl (i := z10501) (x := z10509) (vin (a := z10501.toInt) rfl (by omega)) dX12_works_104 (fun H locs hP _ hS => ?_)
              have hP := va_P_eq (sM_30 g c _ _ _ _) hP
              have hI := IM.store0 hI 30 (z10501 : Int32).toNatClampNeg z10509 rfl
              have hF := frUF (k := 30) (f := upd (F_lp10388 30) (z10501 : Int32).toNatClampNeg z10509) (by decide) hF
              have st10512 : (va_up F_lp10388 30 (upd (F_lp10388 30) (z10501 : Int32).toNatClampNeg z10509)) 30 = upd (F_lp10388 30) (z10501 : Int32).toNatClampNeg z10509 := va_up_self _ _ _
              have sn10513 : ∀ k9, k9 ≠ 30 → (va_up F_lp10388 30 (upd (F_lp10388 30) (z10501 : Int32).toNatClampNeg z10509)) k9 = F_lp10388 k9 := fun k9 h9 => va_up_ne _ _ h9
              have hP : va_P (dC, dI) classes (wM g c v_lp10388 (va_up F_lp10388 30 (upd (F_lp10388 30) (z10501 : Int32).toNatClampNeg z10509)) rc) H := hP
              generalize (va_up F_lp10388 30 (upd (F_lp10388 30) (z10501 : Int32).toNatClampNeg z10509)) = F10511 at hP hI hF st10512 sn10513
              refine lv_goto (tgt := 186) hx hb dX12_works_105 (by decide) ?_
              obtain ⟨z10514, e10515⟩ : ∃ y : Int32, y = x3_lp10388 + 1 := ⟨_, rfl⟩
              try (have t10516 := tadd e10515 rfl (b := 1) (by decide) (by omega))
              refine lv_iinc (v := z10514) (lv' := [(3, .int z10514), (4, .int z10408), (2, .int x2_lp10388), (0, .ref (g 0)), (1, .int p0)]) hx hb dX12_works_186 hl (k := 1) rfl (by rw [e10515]; rfl) (by decide) rfl (fun ls hl => ?_)
              refine lv_goto (tgt := 8) hx hb dX12_works_189 (by decide) ?_
              exact ih_lp10388 z10514 x2_lp10388 v_lp10388 F10511 _ _ _ (by omega) (by omega) (by omega) (by omega) (dpI.to hn9 (by omega) (by omega)) (by omega) hf_lp10388 hI hF hP hS (lv_sub hl [0, 2, 3, 4] rfl)
          · skip
            have t10517 := cv_eq (a := z10408.toInt) rfl (b := 2) (by decide) c10440
            refine lv_aload_n hx hb dX12_works_44 rfl (lv_at hl 3 rfl) ?_
            refine va_get (D := (dC, dI)) (ci := 12) (v := .ref (g 30)) (C := RX12) (T := TX12) (N := 63) hx hb hwd inA_X12 hown hK hP 0 rfl rfl 43 (by decide) (hwd _ wk_212) (fun _ h9 => h9) rfl dX12_works_45 ?_
            refine lv_iload_n hx hb dX12_works_48 rfl (lv_at hl 2 rfl) ?_
            refine lv_iload hx hb dX12_works_49 (lv_at hl 0 rfl) ?_
            refine lv_iconst (v := 1) hx hb dX12_works_51 (by decide) ?_
            refine lv_icmp_ne (tgt := 64) hx hb dX12_works_52 (by decide) (fun c10518 => ?_) (fun c10518 => ?_)
            · skip
              have t10519 := cv_ne (a := z10408.toInt) rfl (b := 1) (by decide) c10518
              refine lv_aload_n hx hb dX12_works_64 rfl (lv_at hl 3 rfl) ?_
              refine va_get (D := (dC, dI)) (ci := 12) (v := .ref (g 31)) (C := RX12) (T := TX12) (N := 63) hx hb hwd inA_X12 hown hK hP 0 rfl rfl 44 (by decide) (hwd _ wk_213) (fun _ h9 => h9) rfl dX12_works_65 ?_
              refine lv_aload_n hx hb dX12_works_68 rfl (lv_at hl 3 rfl) ?_
              refine va_get (D := (dC, dI)) (ci := 12) (v := .ref (g 29)) (C := RX12) (T := TX12) (N := 63) hx hb hwd inA_X12 hown hK hP 0 rfl rfl 36 (by decide) (hwd _ wk_211) (fun _ h9 => h9) rfl dX12_works_69 ?_
              refine lv_iload_n hx hb dX12_works_72 rfl (lv_at hl 1 rfl) ?_
              refine va_iald hx hb hK hP 29 28 rfl rfl (i := x3_lp10388) (vin (a := x3_lp10388.toInt) rfl (by omega)) dX12_works_73 ?_
              refine lv_topi (fun z10520 e10521 => ?_)
              have e10521 : z10520 = F 29 (x3_lp10388 : Int32).toNatClampNeg := e10521.trans (congrFun (hF 29 (by decide)) _)
              have tzz10520 : z10520.toInt = (F 29 (x3_lp10388 : Int32).toNatClampNeg).toInt := congrArg Int32.toInt e10521
              refine va_iald hx hb hK hP 31 30 rfl rfl (i := z10520) (vin (a := z10520.toInt) rfl (by omega)) dX12_works_74 ?_
              refine lv_topi (fun z10522 e10523 => ?_)
              have e10523 : z10522 = F 31 (z10520 : Int32).toNatClampNeg := e10523.trans (congrFun (hF 31 (by decide)) _)
              have tzz10522 : z10522.toInt = (F 31 (z10520 : Int32).toNatClampNeg).toInt := congrArg Int32.toInt e10523
              refine va_iast hx hb hK hP (DM hg) hS 30 29 rfl rfl (i := x2_lp10388) (x := z10522) (vin (a := x2_lp10388.toInt) rfl (by omega)) dX12_works_75 (fun H locs hP _ hS => ?_)
              have hP := va_P_eq (sM_30 g c _ _ _ _) hP
              have hI := IM.store0 hI 30 (x2_lp10388 : Int32).toNatClampNeg z10522 rfl
              have hF := frUF (k := 30) (f := upd (F_lp10388 30) (x2_lp10388 : Int32).toNatClampNeg z10522) (by decide) hF
              have st10525 : (va_up F_lp10388 30 (upd (F_lp10388 30) (x2_lp10388 : Int32).toNatClampNeg z10522)) 30 = upd (F_lp10388 30) (x2_lp10388 : Int32).toNatClampNeg z10522 := va_up_self _ _ _
              have sn10526 : ∀ k9, k9 ≠ 30 → (va_up F_lp10388 30 (upd (F_lp10388 30) (x2_lp10388 : Int32).toNatClampNeg z10522)) k9 = F_lp10388 k9 := fun k9 h9 => va_up_ne _ _ h9
              have hP : va_P (dC, dI) classes (wM g c v_lp10388 (va_up F_lp10388 30 (upd (F_lp10388 30) (x2_lp10388 : Int32).toNatClampNeg z10522)) rc) H := hP
              generalize (va_up F_lp10388 30 (upd (F_lp10388 30) (x2_lp10388 : Int32).toNatClampNeg z10522)) = F10524 at hP hI hF st10525 sn10526
              obtain ⟨z10527, e10528⟩ : ∃ y : Int32, y = x2_lp10388 + 1 := ⟨_, rfl⟩
              try (have t10529 := tadd e10528 rfl (b := 1) (by decide) (by omega))
              refine lv_iinc (v := z10527) (lv' := [(2, .int z10527), (4, .int z10408), (3, .int x3_lp10388), (0, .ref (g 0)), (1, .int p0)]) hx hb dX12_works_76 hl (k := 2) rfl (by rw [e10528]; rfl) (by decide) rfl (fun ls hl => ?_)
              refine lv_goto (tgt := 186) hx hb dX12_works_79 (by decide) ?_
              obtain ⟨z10530, e10531⟩ : ∃ y : Int32, y = x3_lp10388 + 1 := ⟨_, rfl⟩
              try (have t10532 := tadd e10531 rfl (b := 1) (by decide) (by omega))
              refine lv_iinc (v := z10530) (lv' := [(3, .int z10530), (2, .int z10527), (4, .int z10408), (0, .ref (g 0)), (1, .int p0)]) hx hb dX12_works_186 hl (k := 2) rfl (by rw [e10531]; rfl) (by decide) rfl (fun ls hl => ?_)
              refine lv_goto (tgt := 8) hx hb dX12_works_189 (by decide) ?_
              exact ih_lp10388 z10530 z10527 v_lp10388 F10524 _ _ _ (by omega) (by omega) (by omega) (by omega) (dpI.to hn9 (by omega) (by omega)) (by omega) hf_lp10388 hI hF hP hS (lv_sub hl [0, 1, 3, 4] rfl)
            · skip
              have t10533 := cv_eq (a := z10408.toInt) rfl (b := 1) (by decide) c10518
              refine lv_aload_n hx hb dX12_works_55 rfl (lv_at hl 3 rfl) ?_
              refine va_get (D := (dC, dI)) (ci := 12) (v := .ref (g 29)) (C := RX12) (T := TX12) (N := 63) hx hb hwd inA_X12 hown hK hP 0 rfl rfl 36 (by decide) (hwd _ wk_211) (fun _ h9 => h9) rfl dX12_works_56 ?_
              refine lv_iload_n hx hb dX12_works_59 rfl (lv_at hl 1 rfl) ?_
              refine va_iald hx hb hK hP 29 28 rfl rfl (i := x3_lp10388) (vin (a := x3_lp10388.toInt) rfl (by omega)) dX12_works_60 ?_
              refine lv_topi (fun z10534 e10535 => ?_)
              have e10535 : z10534 = F 29 (x3_lp10388 : Int32).toNatClampNeg := e10535.trans (congrFun (hF 29 (by decide)) _)
              have tzz10534 : z10534.toInt = (F 29 (x3_lp10388 : Int32).toNatClampNeg).toInt := congrArg Int32.toInt e10535
              refine lv_goto (tgt := 75) hx hb dX12_works_61 (by decide) ?_
              refine va_iast hx hb hK hP (DM hg) hS 30 29 rfl rfl (i := x2_lp10388) (x := z10534) (vin (a := x2_lp10388.toInt) rfl (by omega)) dX12_works_75 (fun H locs hP _ hS => ?_)
              have hP := va_P_eq (sM_30 g c _ _ _ _) hP
              have hI := IM.store0 hI 30 (x2_lp10388 : Int32).toNatClampNeg z10534 rfl
              have hF := frUF (k := 30) (f := upd (F_lp10388 30) (x2_lp10388 : Int32).toNatClampNeg z10534) (by decide) hF
              have st10537 : (va_up F_lp10388 30 (upd (F_lp10388 30) (x2_lp10388 : Int32).toNatClampNeg z10534)) 30 = upd (F_lp10388 30) (x2_lp10388 : Int32).toNatClampNeg z10534 := va_up_self _ _ _
              have sn10538 : ∀ k9, k9 ≠ 30 → (va_up F_lp10388 30 (upd (F_lp10388 30) (x2_lp10388 : Int32).toNatClampNeg z10534)) k9 = F_lp10388 k9 := fun k9 h9 => va_up_ne _ _ h9
              have hP : va_P (dC, dI) classes (wM g c v_lp10388 (va_up F_lp10388 30 (upd (F_lp10388 30) (x2_lp10388 : Int32).toNatClampNeg z10534)) rc) H := hP
              generalize (va_up F_lp10388 30 (upd (F_lp10388 30) (x2_lp10388 : Int32).toNatClampNeg z10534)) = F10536 at hP hI hF st10537 sn10538
              obtain ⟨z10539, e10540⟩ : ∃ y : Int32, y = x2_lp10388 + 1 := ⟨_, rfl⟩
              try (have t10541 := tadd e10540 rfl (b := 1) (by decide) (by omega))
              refine lv_iinc (v := z10539) (lv' := [(2, .int z10539), (4, .int z10408), (3, .int x3_lp10388), (0, .ref (g 0)), (1, .int p0)]) hx hb dX12_works_76 hl (k := 2) rfl (by rw [e10540]; rfl) (by decide) rfl (fun ls hl => ?_)
              refine lv_goto (tgt := 186) hx hb dX12_works_79 (by decide) ?_
              obtain ⟨z10542, e10543⟩ : ∃ y : Int32, y = x3_lp10388 + 1 := ⟨_, rfl⟩
              try (have t10544 := tadd e10543 rfl (b := 1) (by decide) (by omega))
              refine lv_iinc (v := z10542) (lv' := [(3, .int z10542), (2, .int z10539), (4, .int z10408), (0, .ref (g 0)), (1, .int p0)]) hx hb dX12_works_186 hl (k := 2) rfl (by rw [e10543]; rfl) (by decide) rfl (fun ls hl => ?_)
              refine lv_goto (tgt := 8) hx hb dX12_works_189 (by decide) ?_
              exact ih_lp10388 z10542 z10539 v_lp10388 F10536 _ _ _ (by omega) (by omega) (by omega) (by omega) (dpI.to hn9 (by omega) (by omega)) (by omega) hf_lp10388 hI hF hP hS (lv_sub hl [0, 1, 3, 4] rfl)
  obtain ⟨n9, hn9⟩ : ∃ n : Nat, 2147483648 - z10385.toInt ≤ (n : Int) := ⟨((2147483648 - z10385.toInt : Int)).toNat, by omega⟩
  exact lp10388 n9 z10385 0 v F H _ ls (by have : (0 : Int32).toInt = 0 := (by decide); omega) (by have : (0 : Int32).toInt = 0 := (by decide); omega) (by have : (0 : Int32).toInt = 0 := (by decide); omega) (by have : (0 : Int32).toInt = 0 := (by decide); omega) (by refine ⟨by decide, by omega, by omega, ?_⟩; have e9 : (z10385.toInt - 130 * p0.toInt).toNat = 0 := (by omega); rw [e9]; rfl) (by have : (0 : Int32).toInt = 0 := (by decide); omega) (fun _ _ => rfl) hI hF hP hS hl
