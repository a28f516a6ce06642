set_option maxHeartbeats 8000000 in
set_option maxRecDepth 100000 in
theorem c_X12_part (l : Launch) (dC : Nat → ClassId) (dI : Nat → Nat → Nat) (g : Nat → Nat) (c : Nat → ClassId) (adK adV : Nat → Nat) (v : Nat → Int32) (F : Nat → Nat → Int32) (rc sz : Nat) (p0 : Int32) (p1 : Int32) (p2 : Int32) (p3 : Int32) (p4 : Int32) (hg : injM g) (hI : IM v F) (hJ : JO (v 14) (v 19) (F 13) (F 15) (F 18)) : Met l yX12_part (Cond.code yX12_part cX12_part 7 (some .int) :: wA) ({ frames := 3, cells := 0, slots := 0, locals := 120 }) (va_Pc [.ref (g 0), .int p0, .int p1, .int p2, .int p3, .int p4] (PM dC dI g c adK adV v F rc sz)) (va_Qi (fun (r : Int32) (u : StM) => IM u.1 u.2.1 ∧ u.2.2 = rc ∧ (∀ k, k ∉ ([14, 19] : List Nat) → u.1 k = v k) ∧ (∀ k, k ∉ ([11, 12, 13, 14, 15, 16, 17, 18, 19, 21, 23] : List Nat) → u.2.1 k = F k) ∧ JO (u.1 14) (u.1 19) (u.2.1 13) (u.2.1 15) (u.2.1 18)) (BM dC dI g c) (AM g sz)) 0 0 (AM g sz) := by
  refine Met.ofW (cc := cX12_part) (maxL := 7) (ret := (some .int)) (by decide) rfl ?_
  intro p e s m args below meth c0 s₁ B hml hv
  obtain ⟨rfl, hsz, hP, hK, hE⟩ := hv
  have hx := B.exec
  have hb := B.bytes
  have hr := B.returns
  have hts := atoms_spec (ws := Cond.code yX12_part cX12_part 7 (some .int) :: wA) B.pre
  have hwd : ∀ w ∈ wA, w.before _ s = true := fun w h => hts w (List.mem_cons_of_mem _ h)
  have hown : s.vm.findClass RX12 = some m.cls := findClass_of_methodNamed B.named
  have hlocks := B.notSynchronized
  subst hsz
  have hl := lv_entry ([.ref (g 0), .int p0, .int p1, .int p2, .int p3, .int p4]) (n := 7) (Nat.le_of_ble_eq_true rfl)
  rw [lg_entry_eq]
  generalize (lg_sl ([.ref (g 0), .int p0, .int p1, .int p2, .int p3, .int p4]) ++ List.replicate (7 - (lg_sl ([.ref (g 0), .int p0, .int p1, .int p2, .int p3, .int p4])).length) Slot.unset).toArray = ls at hl ⊢
  have hl : lv_has ls 7 [(0, .ref (g 0)), (1, .int p0), (2, .int p1), (3, .int p2), (4, .int p3), (5, .int p4)] := hl
  obtain ⟨H, eH⟩ : ∃ z, z = s.heap := ⟨_, rfl⟩
  have hP : va_P (dC, dI) classes (wM g c v F rc) H := by rw [eH]; exact hP
  have hS : va_S (AM g s.heap.size) s.heap H [] := by rw [eH]; exact va_S.rf
  refine my_heap eH ?_
  have hF : ∀ k, k ∉ ([11, 12, 13, 14, 15, 16, 17, 18, 19, 21, 23] : List Nat) → F k = F k := fun _ _ => rfl
  have rp0 := i32_rng p0
  have rp1 := i32_rng p1
  have rp2 := i32_rng p2
  have rp3 := i32_rng p3
  have rp4 := i32_rng p4
  have hb14 : 0 ≤ (v 14).toInt ∧ (v 14).toInt ≤ 100 := hI.1 14 _ _ rfl
  have hb19 : 0 ≤ (v 19).toInt ∧ (v 19).toInt ≤ 500 := hI.1 19 _ _ rfl
  refine lv_aload_n hx hb dX12_part_0 rfl (lv_at hl 0 rfl) ?_
  refine lv_iload_n hx hb dX12_part_1 rfl (lv_at hl 1 rfl) ?_
  have t6013 : 0 ≤ (v 2).toInt ∧ (v 2).toInt ≤ 10 := hI.1 2 _ _ rfl
  refine va_calli (va_runV (As := [.int p0]) (rest := []) ⟨hx, hb, hml, hown, hwd⟩ (c_X12_isKind l dC dI g c adK adV v F rc H.size p0 hg hI ) (cwV 1 hwd (gV wk_309 wk_306 wk_307 wk_308 wk_5) rfl rfl rfl (by decide +kernel) ⟨Nat.le_of_ble_eq_true rfl, Nat.le_of_ble_eq_true rfl⟩) ⟨PM.blind, va_recv hK hP (ci := 12) (q0 := 0) rfl rfl, fun U hU hW => ⟨rfl, PM.at hK hE hP hS hU hW⟩⟩ rfl rfl hl.1 rfl (lv_room (Nat.le_of_ble_eq_true rfl)) dX12_part_2 ⟨Nat.le_of_ble_eq_true rfl, Nat.le_of_ble_eq_true rfl⟩) hS (fun q _ h => (freeM hS) q h) (freeM hS) (fun r6014 u t H1 locs ht hvm hw hB hz1 hk1 hS => ?_)
  unfold BM at hB
  rw [ht] at hB
  have hP : va_P (dC, dI) classes (wM g c v F rc) H1 := hB
  replace hw : (r6014.toInt = 1 ∧ 0 ≤ p0.toInt ∧ p0.toInt < (v 2).toInt) ∨ (r6014.toInt = 0 ∧ (p0.toInt < 0 ∨ (v 2).toInt ≤ p0.toInt)) := hw
  have hw_r6014 := hw
  clear hw
  clear hz1
  generalize H1 = H at hP hS ⊢
  refine lv_if_eq (tgt := 50) hx hb dX12_part_5 (by decide) (fun c6015 => ?_) (fun c6015 => ?_)
  · skip
    have t6016 := cv_eq (a := r6014.toInt) rfl (b := 0) (by decide) c6015
    refine lv_iconst (v := (-1)) hx hb dX12_part_50 (by decide) ?_
    have hP9 : va_P (dC, dI) classes (wM g c v F rc) H := hP
    exact W.iret (v := (-1)) hx hb hr (fun t ht hW => ⟨⟨(-1), (v, F, rc), rfl, ⟨hI, rfl, (fun _ _ => rfl), hF, hJ⟩, (by show va_P _ _ _ t.heap; rw [ht]; exact hP9)⟩, hS.F ht⟩) hS.2.2 dX12_part_51
  · skip
    have t6017 := cv_ne (a := r6014.toInt) rfl (b := 0) (by decide) c6015
    refine lv_iload_n hx hb dX12_part_8 rfl (lv_at hl 2 rfl) ?_
    refine lv_iconst (v := 1) hx hb dX12_part_9 (by decide) ?_
    refine lv_ldc (v := 99999) hx hb hown (hwd _ wk_249) dX12_part_10 ?_
    refine va_calli (va_runS (As := [.int p1, .int 1, .int 99999]) (rest := []) ⟨hx, hb, hml, hown, hwd⟩ (c_X12_in l dC dI g c adK adV v F rc H.size p1 1 99999 hg hI ) (va_cwS 3 hwd (gT wk_254 wk_252 wk_253 wk_5) rfl rfl rfl (by decide +kernel) ⟨Nat.le_of_ble_eq_true rfl, Nat.le_of_ble_eq_true rfl⟩) ⟨PM.blind, fun U hU hW => ⟨rfl, PM.at hK hE hP hS hU hW⟩⟩ rfl rfl hl.1 rfl (lv_room (Nat.le_of_ble_eq_true rfl)) dX12_part_12 ⟨Nat.le_of_ble_eq_true rfl, Nat.le_of_ble_eq_true rfl⟩) hS (fun q _ h => (freeM hS) q h) (freeM hS) (fun r6018 u t H1 locs ht hvm hw hB hz1 hk1 hS => ?_)
    unfold BM at hB
    rw [ht] at hB
    have hP : va_P (dC, dI) classes (wM g c v F rc) H1 := hB
    have hw_r6018 : (r6018.toInt = 1 ∧ (1 : Int32).toInt ≤ p1.toInt ∧ p1.toInt ≤ (99999 : Int32).toInt) ∨ (r6018.toInt = 0 ∧ (p1.toInt < (1 : Int32).toInt ∨ (99999 : Int32).toInt < p1.toInt)) := hw
    clear hw
    have k6019 : (1 : Int32).toInt = 1 := by decide
    have k6020 : (99999 : Int32).toInt = 99999 := by decide
    clear hz1
    generalize H1 = H at hP hS ⊢
    refine lv_if_eq (tgt := 50) hx hb dX12_part_15 (by decide) (fun c6021 => ?_) (fun c6021 => ?_)
    · skip
      have t6022 := cv_eq (a := r6018.toInt) rfl (b := 0) (by decide) c6021
      refine lv_iconst (v := (-1)) hx hb dX12_part_50 (by decide) ?_
      have hP9 : va_P (dC, dI) classes (wM g c v F rc) H := hP
      exact W.iret (v := (-1)) hx hb hr (fun t ht hW => ⟨⟨(-1), (v, F, rc), rfl, ⟨hI, rfl, (fun _ _ => rfl), hF, hJ⟩, (by show va_P _ _ _ t.heap; rw [ht]; exact hP9)⟩, hS.F ht⟩) hS.2.2 dX12_part_51
    · skip
      have t6023 := cv_ne (a := r6018.toInt) rfl (b := 0) (by decide) c6021
      refine lv_iload_n hx hb dX12_part_18 rfl (lv_at hl 3 rfl) ?_
      refine lv_iconst (v := 0) hx hb dX12_part_19 (by decide) ?_
      refine lv_ldc (v := 99999) hx hb hown (hwd _ wk_249) dX12_part_20 ?_
      refine va_calli (va_runS (As := [.int p2, .int 0, .int 99999]) (rest := []) ⟨hx, hb, hml, hown, hwd⟩ (c_X12_in l dC dI g c adK adV v F rc H.size p2 0 99999 hg hI ) (va_cwS 3 hwd (gT wk_254 wk_252 wk_253 wk_5) rfl rfl rfl (by decide +kernel) ⟨Nat.le_of_ble_eq_true rfl, Nat.le_of_ble_eq_true rfl⟩) ⟨PM.blind, fun U hU hW => ⟨rfl, PM.at hK hE hP hS hU hW⟩⟩ rfl rfl hl.1 rfl (lv_room (Nat.le_of_ble_eq_true rfl)) dX12_part_22 ⟨Nat.le_of_ble_eq_true rfl, Nat.le_of_ble_eq_true rfl⟩) hS (fun q _ h => (freeM hS) q h) (freeM hS) (fun r6024 u t H1 locs ht hvm hw hB hz1 hk1 hS => ?_)
      unfold BM at hB
      rw [ht] at hB
      have hP : va_P (dC, dI) classes (wM g c v F rc) H1 := hB
      have hw_r6024 : (r6024.toInt = 1 ∧ (0 : Int32).toInt ≤ p2.toInt ∧ p2.toInt ≤ (99999 : Int32).toInt) ∨ (r6024.toInt = 0 ∧ (p2.toInt < (0 : Int32).toInt ∨ (99999 : Int32).toInt < p2.toInt)) := hw
      clear hw
      have k6025 : (0 : Int32).toInt = 0 := by decide
      have k6026 : (99999 : Int32).toInt = 99999 := by decide
      clear hz1
      generalize H1 = H at hP hS ⊢
      refine lv_if_eq (tgt := 50) hx hb dX12_part_25 (by decide) (fun c6027 => ?_) (fun c6027 => ?_)
      · skip
        have t6028 := cv_eq (a := r6024.toInt) rfl (b := 0) (by decide) c6027
        refine lv_iconst (v := (-1)) hx hb dX12_part_50 (by decide) ?_
        have hP9 : va_P (dC, dI) classes (wM g c v F rc) H := hP
        exact W.iret (v := (-1)) hx hb hr (fun t ht hW => ⟨⟨(-1), (v, F, rc), rfl, ⟨hI, rfl, (fun _ _ => rfl), hF, hJ⟩, (by show va_P _ _ _ t.heap; rw [ht]; exact hP9)⟩, hS.F ht⟩) hS.2.2 dX12_part_51
      · skip
        have t6029 := cv_ne (a := r6024.toInt) rfl (b := 0) (by decide) c6027
        refine lv_iload hx hb dX12_part_28 (lv_at hl 4 rfl) ?_
        refine lv_iconst (v := 0) hx hb dX12_part_30 (by decide) ?_
        refine lv_ldc (v := 99999) hx hb hown (hwd _ wk_249) dX12_part_31 ?_
        refine va_calli (va_runS (As := [.int p3, .int 0, .int 99999]) (rest := []) ⟨hx, hb, hml, hown, hwd⟩ (c_X12_in l dC dI g c adK adV v F rc H.size p3 0 99999 hg hI ) (va_cwS 3 hwd (gT wk_254 wk_252 wk_253 wk_5) rfl rfl rfl (by decide +kernel) ⟨Nat.le_of_ble_eq_true rfl, Nat.le_of_ble_eq_true rfl⟩) ⟨PM.blind, fun U hU hW => ⟨rfl, PM.at hK hE hP hS hU hW⟩⟩ rfl rfl hl.1 rfl (lv_room (Nat.le_of_ble_eq_true rfl)) dX12_part_33 ⟨Nat.le_of_ble_eq_true rfl, Nat.le_of_ble_eq_true rfl⟩) hS (fun q _ h => (freeM hS) q h) (freeM hS) (fun r6030 u t H1 locs ht hvm hw hB hz1 hk1 hS => ?_)
        unfold BM at hB
        rw [ht] at hB
        have hP : va_P (dC, dI) classes (wM g c v F rc) H1 := hB
        have hw_r6030 : (r6030.toInt = 1 ∧ (0 : Int32).toInt ≤ p3.toInt ∧ p3.toInt ≤ (99999 : Int32).toInt) ∨ (r6030.toInt = 0 ∧ (p3.toInt < (0 : Int32).toInt ∨ (99999 : Int32).toInt < p3.toInt)) := hw
        clear hw
        have k6031 : (0 : Int32).toInt = 0 := by decide
        have k6032 : (99999 : Int32).toInt = 99999 := by decide
        clear hz1
        generalize H1 = H at hP hS ⊢
        refine lv_if_eq (tgt := 50) hx hb dX12_part_36 (by decide) (fun c6033 => ?_) (fun c6033 => ?_)
        · skip
          have t6034 := cv_eq (a := r6030.toInt) rfl (b := 0) (by decide) c6033
          refine lv_iconst (v := (-1)) hx hb dX12_part_50 (by decide) ?_
          have hP9 : va_P (dC, dI) classes (wM g c v F rc) H := hP
          exact W.iret (v := (-1)) hx hb hr (fun t ht hW => ⟨⟨(-1), (v, F, rc), rfl, ⟨hI, rfl, (fun _ _ => rfl), hF, hJ⟩, (by show va_P _ _ _ t.heap; rw [ht]; exact hP9)⟩, hS.F ht⟩) hS.2.2 dX12_part_51
        · skip
          have t6035 := cv_ne (a := r6030.toInt) rfl (b := 0) (by decide) c6033
          refine lv_iload hx hb dX12_part_39 (lv_at hl 5 rfl) ?_
          refine lv_iconst (v := 0) hx hb dX12_part_41 (by decide) ?_
          refine lv_ldc (v := 99999) hx hb hown (hwd _ wk_249) dX12_part_42 ?_
          refine va_calli (va_runS (As := [.int p4, .int 0, .int 99999]) (rest := []) ⟨hx, hb, hml, hown, hwd⟩ (c_X12_in l dC dI g c adK adV v F rc H.size p4 0 99999 hg hI ) (va_cwS 3 hwd (gT wk_254 wk_252 wk_253 wk_5) rfl rfl rfl (by decide +kernel) ⟨Nat.le_of_ble_eq_true rfl, Nat.le_of_ble_eq_true rfl⟩) ⟨PM.blind, fun U hU hW => ⟨rfl, PM.at hK hE hP hS hU hW⟩⟩ rfl rfl hl.1 rfl (lv_room (Nat.le_of_ble_eq_true rfl)) dX12_part_44 ⟨Nat.le_of_ble_eq_true rfl, Nat.le_of_ble_eq_true rfl⟩) hS (fun q _ h => (freeM hS) q h) (freeM hS) (fun r6036 u t H1 locs ht hvm hw hB hz1 hk1 hS => ?_)
          unfold BM at hB
          rw [ht] at hB
          have hP : va_P (dC, dI) classes (wM g c v F rc) H1 := hB
          have hw_r6036 : (r6036.toInt = 1 ∧ (0 : Int32).toInt ≤ p4.toInt ∧ p4.toInt ≤ (99999 : Int32).toInt) ∨ (r6036.toInt = 0 ∧ (p4.toInt < (0 : Int32).toInt ∨ (99999 : Int32).toInt < p4.toInt)) := hw
          clear hw
          have k6037 : (0 : Int32).toInt = 0 := by decide
          have k6038 : (99999 : Int32).toInt = 99999 := by decide
          clear hz1
          generalize H1 = H at hP hS ⊢
          refine lv_if_ne (tgt := 52) hx hb dX12_part_47 (by decide) (fun c6039 => ?_) (fun c6039 => ?_)
          · skip
            have t6040 := cv_ne (a := r6036.toInt) rfl (b := 0) (by decide) c6039
            refine lv_aload_n hx hb dX12_part_52 rfl (lv_at hl 0 rfl) ?_
            refine va_get (D := (dC, dI)) (ci := 12) (v := .int (v 14)) (C := RX12) (T := TX12) (N := 63) hx hb hwd inA_X12 hown hK hP 0 rfl rfl 14 (by decide) (hwd _ wk_318) (fun _ h9 => h9) rfl dX12_part_53 ?_
            have t6041 : 0 ≤ (v 14).toInt ∧ (v 14).toInt ≤ 100 := hI.1 14 _ _ rfl
            refine lv_bipush (v := 100) hx hb dX12_part_56 (by decide) ?_
            refine lv_icmp_eq (tgt := 71) hx hb dX12_part_58 (by decide) (fun c6042 => ?_) (fun c6042 => ?_)
            · skip
              have t6043 := cv_eq (a := (v 14).toInt) rfl (b := 100) (by decide) c6042
              refine lv_bipush (v := (-3)) hx hb dX12_part_71 (by decide) ?_
              have hP9 : va_P (dC, dI) classes (wM g c v F rc) H := hP
              exact W.iret (v := (-3)) hx hb hr (fun t ht hW => ⟨⟨(-3), (v, F, rc), rfl, ⟨hI, rfl, (fun _ _ => rfl), hF, hJ⟩, (by show va_P _ _ _ t.heap; rw [ht]; exact hP9)⟩, hS.F ht⟩) hS.2.2 dX12_part_73
            · skip
              have t6044 := cv_ne (a := (v 14).toInt) rfl (b := 100) (by decide) c6042
              refine lv_aload_n hx hb dX12_part_61 rfl (lv_at hl 0 rfl) ?_
              refine va_get (D := (dC, dI)) (ci := 12) (v := .int (v 19)) (C := RX12) (T := TX12) (N := 63) hx hb hwd inA_X12 hown hK hP 0 rfl rfl 19 (by decide) (hwd _ wk_494) (fun _ h9 => h9) rfl dX12_part_62 ?_
              have t6045 : 0 ≤ (v 19).toInt ∧ (v 19).toInt ≤ 500 := hI.1 19 _ _ rfl
              refine lv_sipush (v := 500) hx hb dX12_part_65 (by decide) ?_
              refine lv_icmp_ne (tgt := 74) hx hb dX12_part_68 (by decide) (fun c6046 => ?_) (fun c6046 => ?_)
              · skip
                have t6047 := cv_ne (a := (v 19).toInt) rfl (b := 500) (by decide) c6046
                refine lv_aload_n hx hb dX12_part_74 rfl (lv_at hl 0 rfl) ?_
                refine va_get (D := (dC, dI)) (ci := 12) (v := .int (v 14)) (C := RX12) (T := TX12) (N := 63) hx hb hwd inA_X12 hown hK hP 0 rfl rfl 14 (by decide) (hwd _ wk_318) (fun _ h9 => h9) rfl dX12_part_75 ?_
                have t6048 : 0 ≤ (v 14).toInt ∧ (v 14).toInt ≤ 100 := hI.1 14 _ _ rfl
                refine lv_istore (lv' := [(6, .int (v 14)), (0, .ref (g 0)), (1, .int p0), (2, .int p1), (3, .int p2), (4, .int p3), (5, .int p4)]) hx hb dX12_part_78 hl (by decide) rfl (fun ls hl => ?_)
                refine lv_aload_n hx hb dX12_part_80 rfl (lv_at hl 1 rfl) ?_
                refine va_get (D := (dC, dI)) (ci := 12) (v := .ref (g 11)) (C := RX12) (T := TX12) (N := 63) hx hb hwd inA_X12 hown hK hP 0 rfl rfl 15 (by decide) (hwd _ wk_192) (fun _ h9 => h9) rfl dX12_part_81 ?_
                refine lv_iload hx hb dX12_part_84 (lv_at hl 0 rfl) ?_
                refine lv_iload_n hx hb dX12_part_86 rfl (lv_at hl 2 rfl) ?_
                refine va_iast hx hb hK hP (DM hg) hS 11 10 rfl rfl (i := (v 14)) (x := p0) (vin (a := (v 14).toInt) rfl (by omega)) dX12_part_87 (fun H locs hP _ hS => ?_)
                have hP := va_P_eq (sM_11 g c _ _ _ _) hP
                have hI := IM.store hI 11 (v 14 : Int32).toNatClampNeg p0 rfl (by omega)
                have hF := frUF (k := 11) (f := upd (F 11) (v 14 : Int32).toNatClampNeg p0) (by decide) hF
                have st6050 : (va_up F 11 (upd (F 11) (v 14 : Int32).toNatClampNeg p0)) 11 = upd (F 11) (v 14 : Int32).toNatClampNeg p0 := va_up_self _ _ _
                have sn6051 : ∀ k9, k9 ≠ 11 → (va_up F 11 (upd (F 11) (v 14 : Int32).toNatClampNeg p0)) k9 = F k9 := fun k9 h9 => va_up_ne _ _ h9
                have hP : va_P (dC, dI) classes (wM g c v (va_up F 11 (upd (F 11) (v 14 : Int32).toNatClampNeg p0)) rc) H := hP
                generalize (va_up F 11 (upd (F 11) (v 14 : Int32).toNatClampNeg p0)) = F6049 at hP hI hF st6050 sn6051
                refine lv_aload_n hx hb dX12_part_88 rfl (lv_at hl 1 rfl) ?_
                refine va_get (D := (dC, dI)) (ci := 12) (v := .ref (g 12)) (C := RX12) (T := TX12) (N := 63) hx hb hwd inA_X12 hown hK hP 0 rfl rfl 16 (by decide) (hwd _ wk_193) (fun _ h9 => h9) rfl dX12_part_89 ?_
                refine lv_iload hx hb dX12_part_92 (lv_at hl 0 rfl) ?_
                refine lv_iload_n hx hb dX12_part_94 rfl (lv_at hl 3 rfl) ?_
                refine va_iast hx hb hK hP (DM hg) hS 12 11 rfl rfl (i := (v 14)) (x := p1) (vin (a := (v 14).toInt) rfl (by omega)) dX12_part_95 (fun H locs hP _ hS => ?_)
                have hP := va_P_eq (sM_12 g c _ _ _ _) hP
                have hI := IM.store0 hI 12 (v 14 : Int32).toNatClampNeg p1 rfl
                have hF := frUF (k := 12) (f := upd (F6049 12) (v 14 : Int32).toNatClampNeg p1) (by decide) hF
                have st6053 : (va_up F6049 12 (upd (F6049 12) (v 14 : Int32).toNatClampNeg p1)) 12 = upd (F6049 12) (v 14 : Int32).toNatClampNeg p1 := va_up_self _ _ _
                have sn6054 : ∀ k9, k9 ≠ 12 → (va_up F6049 12 (upd (F6049 12) (v 14 : Int32).toNatClampNeg p1)) k9 = F6049 k9 := fun k9 h9 => va_up_ne _ _ h9
                have hP : va_P (dC, dI) classes (wM g c v (va_up F6049 12 (upd (F6049 12) (v 14 : Int32).toNatClampNeg p1)) rc) H := hP
                generalize (va_up F6049 12 (upd (F6049 12) (v 14 : Int32).toNatClampNeg p1)) = F6052 at hP hI hF st6053 sn6054
                refine lv_aload_n hx hb dX12_part_96 rfl (lv_at hl 1 rfl) ?_
                refine va_get (D := (dC, dI)) (ci := 12) (v := .ref (g 14)) (C := RX12) (T := TX12) (N := 63) hx hb hwd inA_X12 hown hK hP 0 rfl rfl 18 (by decide) (hwd _ wk_195) (fun _ h9 => h9) rfl dX12_part_97 ?_
                refine lv_iconst (v := 3) hx hb dX12_part_100 (by decide) ?_
                refine lv_iload hx hb dX12_part_101 (lv_at hl 0 rfl) ?_
                refine lv_imul hx hb dX12_part_103 ?_
                refine lv_topi (fun z6055 e6056 => ?_)
                try (have t6057 := tmul e6056 (a := 3) (by decide) (b := (v 14).toInt) rfl (by omega))
                refine lv_iload_n hx hb dX12_part_104 rfl (lv_at hl 4 rfl) ?_
                refine va_iast hx hb hK hP (DM hg) hS 14 13 rfl rfl (i := z6055) (x := p2) (vin (a := z6055.toInt) rfl (by omega)) dX12_part_105 (fun H locs hP _ hS => ?_)
                have hP := va_P_eq (sM_14 g c _ _ _ _) hP
                have hI := IM.store0 hI 14 (z6055 : Int32).toNatClampNeg p2 rfl
                have hF := frUF (k := 14) (f := upd (F6052 14) (z6055 : Int32).toNatClampNeg p2) (by decide) hF
                have st6059 : (va_up F6052 14 (upd (F6052 14) (z6055 : Int32).toNatClampNeg p2)) 14 = upd (F6052 14) (z6055 : Int32).toNatClampNeg p2 := va_up_self _ _ _
                have sn6060 : ∀ k9, k9 ≠ 14 → (va_up F6052 14 (upd (F6052 14) (z6055 : Int32).toNatClampNeg p2)) k9 = F6052 k9 := fun k9 h9 => va_up_ne _ _ h9
                have hP : va_P (dC, dI) classes (wM g c v (va_up F6052 14 (upd (F6052 14) (z6055 : Int32).toNatClampNeg p2)) rc) H := hP
                generalize (va_up F6052 14 (upd (F6052 14) (z6055 : Int32).toNatClampNeg p2)) = F6058 at hP hI hF st6059 sn6060
                refine lv_aload_n hx hb dX12_part_106 rfl (lv_at hl 1 rfl) ?_
                refine va_get (D := (dC, dI)) (ci := 12) (v := .ref (g 14)) (C := RX12) (T := TX12) (N := 63) hx hb hwd inA_X12 hown hK hP 0 rfl rfl 18 (by decide) (hwd _ wk_195) (fun _ h9 => h9) rfl dX12_part_107 ?_
                refine lv_iconst (v := 3) hx hb dX12_part_110 (by decide) ?_
                refine lv_iload hx hb dX12_part_111 (lv_at hl 0 rfl) ?_
                refine lv_imul hx hb dX12_part_113 ?_
                refine lv_topi (fun z6061 e6062 => ?_)
                try (have t6063 := tmul e6062 (a := 3) (by decide) (b := (v 14).toInt) rfl (by omega))
                refine lv_iconst (v := 1) hx hb dX12_part_114 (by decide) ?_
                refine lv_iadd hx hb dX12_part_115 ?_
                refine lv_topi (fun z6064 e6065 => ?_)
                try (have t6066 := tadd e6065 (a := z6061.toInt) rfl (b := 1) (by decide) (by omega))
                refine lv_iload hx hb dX12_part_116 (lv_at hl 5 rfl) ?_
                refine va_iast hx hb hK hP (DM hg) hS 14 13 rfl rfl (i := z6064) (x := p3) (vin (a := z6064.toInt) rfl (by omega)) dX12_part_118 (fun H locs hP _ hS => ?_)
                have hP := va_P_eq (sM_14 g c _ _ _ _) hP
                have hI := IM.store0 hI 14 (z6064 : Int32).toNatClampNeg p3 rfl
                have hF := frUF (k := 14) (f := upd (F6058 14) (z6064 : Int32).toNatClampNeg p3) (by decide) hF
                have st6068 : (va_up F6058 14 (upd (F6058 14) (z6064 : Int32).toNatClampNeg p3)) 14 = upd (F6058 14) (z6064 : Int32).toNatClampNeg p3 := va_up_self _ _ _
                have sn6069 : ∀ k9, k9 ≠ 14 → (va_up F6058 14 (upd (F6058 14) (z6064 : Int32).toNatClampNeg p3)) k9 = F6058 k9 := fun k9 h9 => va_up_ne _ _ h9
                have hP : va_P (dC, dI) classes (wM g c v (va_up F6058 14 (upd (F6058 14) (z6064 : Int32).toNatClampNeg p3)) rc) H := hP
                generalize (va_up F6058 14 (upd (F6058 14) (z6064 : Int32).toNatClampNeg p3)) = F6067 at hP hI hF st6068 sn6069
                refine lv_aload_n hx hb dX12_part_119 rfl (lv_at hl 1 rfl) ?_
                refine va_get (D := (dC, dI)) (ci := 12) (v := .ref (g 14)) (C := RX12) (T := TX12) (N := 63) hx hb hwd inA_X12 hown hK hP 0 rfl rfl 18 (by decide) (hwd _ wk_195) (fun _ h9 => h9) rfl dX12_part_120 ?_
                refine lv_iconst (v := 3) hx hb dX12_part_123 (by decide) ?_
                refine lv_iload hx hb dX12_part_124 (lv_at hl 0 rfl) ?_
                refine lv_imul hx hb dX12_part_126 ?_
                refine lv_topi (fun z6070 e6071 => ?_)
                try (have t6072 := tmul e6071 (a := 3) (by decide) (b := (v 14).toInt) rfl (by omega))
                refine lv_iconst (v := 2) hx hb dX12_part_127 (by decide) ?_
                refine lv_iadd hx hb dX12_part_128 ?_
                refine lv_topi (fun z6073 e6074 => ?_)
                try (have t6075 := tadd e6074 (a := z6070.toInt) rfl (b := 2) (by decide) (by omega))
                refine lv_iload hx hb dX12_part_129 (lv_at hl 6 rfl) ?_
                refine va_iast hx hb hK hP (DM hg) hS 14 13 rfl rfl (i := z6073) (x := p4) (vin (a := z6073.toInt) rfl (by omega)) dX12_part_131 (fun H locs hP _ hS => ?_)
                have hP := va_P_eq (sM_14 g c _ _ _ _) hP
                have hI := IM.store0 hI 14 (z6073 : Int32).toNatClampNeg p4 rfl
                have hF := frUF (k := 14) (f := upd (F6067 14) (z6073 : Int32).toNatClampNeg p4) (by decide) hF
                have st6077 : (va_up F6067 14 (upd (F6067 14) (z6073 : Int32).toNatClampNeg p4)) 14 = upd (F6067 14) (z6073 : Int32).toNatClampNeg p4 := va_up_self _ _ _
                have sn6078 : ∀ k9, k9 ≠ 14 → (va_up F6067 14 (upd (F6067 14) (z6073 : Int32).toNatClampNeg p4)) k9 = F6067 k9 := fun k9 h9 => va_up_ne _ _ h9
                have hP : va_P (dC, dI) classes (wM g c v (va_up F6067 14 (upd (F6067 14) (z6073 : Int32).toNatClampNeg p4)) rc) H := hP
                generalize (va_up F6067 14 (upd (F6067 14) (z6073 : Int32).toNatClampNeg p4)) = F6076 at hP hI hF st6077 sn6078
                refine lv_aload_n hx hb dX12_part_132 rfl (lv_at hl 1 rfl) ?_
                refine lv_dup hx hb dX12_part_133 rfl ?_
                refine va_get (D := (dC, dI)) (ci := 12) (v := .int (v 14)) (C := RX12) (T := TX12) (N := 63) hx hb hwd inA_X12 hown hK hP 0 rfl rfl 14 (by decide) (hwd _ wk_318) (fun _ h9 => h9) rfl dX12_part_134 ?_
                have t6079 : 0 ≤ (v 14).toInt ∧ (v 14).toInt ≤ 100 := hI.1 14 _ _ rfl
                refine lv_iconst (v := 1) hx hb dX12_part_137 (by decide) ?_
                refine lv_iadd hx hb dX12_part_138 ?_
                refine lv_topi (fun z6080 e6081 => ?_)
                try (have t6082 := tadd e6081 (a := (v 14).toInt) rfl (b := 1) (by decide) (by omega))
                refine va_put (D := (dC, dI)) (ci := 12) (v := .int z6080) (ty := .int) (C := RX12) (T := TX12) (N := 63) (fs := fsM_0 g v rc) hx hb hwd inA_X12 tyX12 tyX12_ok nmX12 hown hK hP (DM hg) hS 0 rfl rfl 14 (by decide) (hwd _ wk_318) (fun _ h9 => h9) rfl (by decide +kernel) rfl rfl (Nat.le_of_ble_eq_true rfl) dX12_part_139 (fun H locs hP _ hS => ?_)
                have hP := va_P_eq (pM_14 g c _ _ _ _) hP
                have hI := IM.put hI 14 z6080 rfl (by omega)
                refine lv_aload_n hx hb dX12_part_142 rfl (lv_at hl 1 rfl) ?_
                refine lv_iload hx hb dX12_part_143 (lv_at hl 0 rfl) ?_
                refine lv_bipush (v := 11) hx hb dX12_part_145 (by decide) ?_
                have t6083 : 0 ≤ (v 19).toInt ∧ (v 19).toInt ≤ 500 := hI.1 19 _ _ rfl
                refine va_callv (va_runV (As := [.int (v 14), .int 11]) (rest := []) ⟨hx, hb, hml, hown, hwd⟩ (c_X12_begin l dC dI g c adK adV (va_up v 14 z6080) F6076 rc H.size (v 14) 11 hg hI (by omega) (by have : (11 : Int32).toInt = 11 := (by decide); omega) (by have h9 : (va_up v 14 z6080) 19 = v 19 := rfl; rw [h9]; omega)) (cwV 2 hwd (gV wk_595 wk_592 wk_593 wk_594 wk_5) rfl rfl rfl (by decide +kernel) ⟨Nat.le_of_ble_eq_true rfl, Nat.le_of_ble_eq_true rfl⟩) ⟨PM.blind, va_recv hK hP (ci := 12) (q0 := 0) rfl rfl, fun U hU hW => ⟨rfl, PM.at hK hE hP hS hU hW⟩⟩ rfl rfl hl.1 rfl (lv_room (Nat.le_of_ble_eq_true rfl)) dX12_part_147 ⟨Nat.le_of_ble_eq_true rfl, Nat.le_of_ble_eq_true rfl⟩) hS (fun q _ h => (freeM hS) q h) (freeM hS) (fun u t H1 locs ht hvm hw hB hz1 hk1 hS => ?_)
                unfold BM at hB
                rw [ht] at hB
                obtain ⟨v6085, F6086, rc9⟩ := u
                obtain ⟨hI, hrc, hf6087, hG6088, hw⟩ := hw
                dsimp only at hI hrc hB hf6087 hG6088 hw
                have hF := frCF (by decide) hG6088 hF
                rw [hrc] at hB
                have hP : va_P (dC, dI) classes (wM g c v6085 F6086 rc) H1 := hB
                replace hw : (v6085 19).toInt = (v 19).toInt + 1 ∧ (F6086 13 = upd (F6076 13) (v 14).toNatClampNeg (11 : Int32)) ∧ (∀ j : Int, (j = (v 14).toInt ∨ hasO (v 19) (F6076 15) (F6076 18) j) → hasO (v6085 19) (F6086 15) (F6086 18) j) := hw
                have hw_r6084 := hw
                clear hw
                have t6089 : 0 ≤ (v6085 19).toInt ∧ (v6085 19).toInt ≤ 500 := hI.1 19 _ _ rfl
                have k6090 : (11 : Int32).toInt = 11 := by decide
                clear hz1
                generalize H1 = H at hP hS ⊢
                refine lv_iload hx hb dX12_part_150 (lv_at hl 0 rfl) ?_
                have hP9 : va_P (dC, dI) classes (wM g c v6085 F6086 rc) H := hP
                exact W.iret (v := v 14) hx hb hr (fun t ht hW => ⟨⟨(v 14), (v6085, F6086, rc), rfl, ⟨hI, rfl, (frC (by decide) hf6087 (frU (by decide) (fun _ _ => rfl))), hF, (by have q9 := hw_r6084; rw [show F6076 13 = F 13 from ((sn6078 13 (by decide)).trans ((sn6069 13 (by decide)).trans ((sn6060 13 (by decide)).trans ((sn6054 13 (by decide)).trans (sn6051 13 (by decide)))))), show F6076 15 = F 15 from ((sn6078 15 (by decide)).trans ((sn6069 15 (by decide)).trans ((sn6060 15 (by decide)).trans ((sn6054 15 (by decide)).trans (sn6051 15 (by decide)))))), show F6076 18 = F 18 from ((sn6078 18 (by decide)).trans ((sn6069 18 (by decide)).trans ((sn6060 18 (by decide)).trans ((sn6054 18 (by decide)).trans (sn6051 18 (by decide))))))] at q9; show JO (v6085 14) (v6085 19) (F6086 13) (F6086 15) (F6086 18); rw [show v6085 14 = z6080 from hf6087 14 (by decide)]; exact JO.new hJ (by omega) rfl (by omega) q9.2.2 q9.2.1)⟩, (by show va_P _ _ _ t.heap; rw [ht]; exact hP9)⟩, hS.F ht⟩) hS.2.2 dX12_part_152
              · skip
                have t6091 := cv_eq (a := (v 19).toInt) rfl (b := 500) (by decide) c6046
                refine lv_bipush (v := (-3)) hx hb dX12_part_71 (by decide) ?_
                have hP9 : va_P (dC, dI) classes (wM g c v F rc) H := hP
                exact W.iret (v := (-3)) hx hb hr (fun t ht hW => ⟨⟨(-3), (v, F, rc), rfl, ⟨hI, rfl, (fun _ _ => rfl), hF, hJ⟩, (by show va_P _ _ _ t.heap; rw [ht]; exact hP9)⟩, hS.F ht⟩) hS.2.2 dX12_part_73
          · skip
            have t6092 := cv_eq (a := r6036.toInt) rfl (b := 0) (by decide) c6039
            refine lv_iconst (v := (-1)) hx hb dX12_part_50 (by decide) ?_
            have hP9 : va_P (dC, dI) classes (wM g c v F rc) H := hP
            exact W.iret (v := (-1)) hx hb hr (fun t ht hW => ⟨⟨(-1), (v, F, rc), rfl, ⟨hI, rfl, (fun _ _ => rfl), hF, hJ⟩, (by show va_P _ _ _ t.heap; rw [ht]; exact hP9)⟩, hS.F ht⟩) hS.2.2 dX12_part_51
set_option maxHeartbeats 8000000 in
set_option maxRecDepth 100000 in
theorem c_X12_move (l : Launch) (dC : Nat → ClassId) (dI : Nat → Nat → Nat) (g : Nat → Nat) (c : Nat → ClassId) (adK adV : Nat → Nat) (v : Nat → Int32) (F : Nat → Nat → Int32) (rc sz : Nat) (p0 : Int32) (p1 : Int32) (hg : injM g) (hI : IM v F) (hJ : JO (v 14) (v 19) (F 13) (F 15) (F 18)) : Met l yX12_move (Cond.code yX12_move cX12_move 3 (some .int) :: wA) ({ frames := 3, cells := 0, slots := 0, locals := 120 }) (va_Pc [.ref (g 0), .int p0, .int p1] (PM dC dI g c adK adV v F rc sz)) (va_Qi (fun (r : Int32) (u : StM) => IM u.1 u.2.1 ∧ u.2.2 = rc ∧ (∀ k, k ∉ ([19] : List Nat) → u.1 k = v k) ∧ (∀ k, k ∉ ([13, 15, 16, 17, 18, 19, 20, 21, 22, 23] : List Nat) → u.2.1 k = F k) ∧ JO (u.1 14) (u.1 19) (u.2.1 13) (u.2.1 15) (u.2.1 18)) (BM dC dI g c) (AM g sz)) 0 0 (AM g sz) := by
  refine Met.ofW (cc := cX12_move) (maxL := 3) (ret := (some .int)) (by decide) rfl ?_
  intro p e s m args below meth c0 s₁ B hml hv
  obtain ⟨rfl, hsz, hP, hK, hE⟩ := hv
  have hx := B.exec
  have hb := B.bytes
  have hr := B.returns
  have hts := atoms_spec (ws := Cond.code yX12_move cX12_move 3 (some .int) :: wA) B.pre
  have hwd : ∀ w ∈ wA, w.before _ s = true := fun w h => hts w (List.mem_cons_of_mem _ h)
  have hown : s.vm.findClass RX12 = some m.cls := findClass_of_methodNamed B.named
  have hlocks := B.notSynchronized
  subst hsz
  have hl := lv_entry ([.ref (g 0), .int p0, .int p1]) (n := 3) (Nat.le_of_ble_eq_true rfl)
  rw [lg_entry_eq]
  generalize (lg_sl ([.ref (g 0), .int p0, .int p1]) ++ List.replicate (3 - (lg_sl ([.ref (g 0), .int p0, .int p1])).length) Slot.unset).toArray = ls at hl ⊢
  have hl : lv_has ls 3 [(0, .ref (g 0)), (1, .int p0), (2, .int p1)] := hl
  obtain ⟨H, eH⟩ : ∃ z, z = s.heap := ⟨_, rfl⟩
  have hP : va_P (dC, dI) classes (wM g c v F rc) H := by rw [eH]; exact hP
  have hS : va_S (AM g s.heap.size) s.heap H [] := by rw [eH]; exact va_S.rf
  refine my_heap eH ?_
  have hF : ∀ k, k ∉ ([13, 15, 16, 17, 18, 19, 20, 21, 22, 23] : List Nat) → F k = F k := fun _ _ => rfl
  have rp0 := i32_rng p0
  have rp1 := i32_rng p1
  have hb14 : 0 ≤ (v 14).toInt ∧ (v 14).toInt ≤ 100 := hI.1 14 _ _ rfl
  have hb19 : 0 ≤ (v 19).toInt ∧ (v 19).toInt ≤ 500 := hI.1 19 _ _ rfl
  refine lv_aload_n hx hb dX12_move_0 rfl (lv_at hl 0 rfl) ?_
  refine lv_iload_n hx hb dX12_move_1 rfl (lv_at hl 1 rfl) ?_
  have t6258 : 0 ≤ (v 14).toInt ∧ (v 14).toInt ≤ 100 := hI.1 14 _ _ rfl
  refine va_calli (va_runV (As := [.int p0]) (rest := []) ⟨hx, hb, hml, hown, hwd⟩ (c_X12_isPart l dC dI g c adK adV v F rc H.size p0 hg hI ) (cwV 1 hwd (gV wk_631 wk_628 wk_629 wk_630 wk_5) rfl rfl rfl (by decide +kernel) ⟨Nat.le_of_ble_eq_true rfl, Nat.le_of_ble_eq_true rfl⟩) ⟨PM.blind, va_recv hK hP (ci := 12) (q0 := 0) rfl rfl, fun U hU hW => ⟨rfl, PM.at hK hE hP hS hU hW⟩⟩ rfl rfl hl.1 rfl (lv_room (Nat.le_of_ble_eq_true rfl)) dX12_move_2 ⟨Nat.le_of_ble_eq_true rfl, Nat.le_of_ble_eq_true rfl⟩) hS (fun q _ h => (freeM hS) q h) (freeM hS) (fun r6259 u t H1 locs ht hvm hw hB hz1 hk1 hS => ?_)
  unfold BM at hB
  rw [ht] at hB
  have hP : va_P (dC, dI) classes (wM g c v F rc) H1 := hB
  replace hw : (r6259.toInt = 1 ∧ 0 ≤ p0.toInt ∧ p0.toInt < (v 14).toInt) ∨ (r6259.toInt = 0 ∧ (p0.toInt < 0 ∨ (v 14).toInt ≤ p0.toInt)) := hw
  have hw_r6259 := hw
  clear hw
  clear hz1
  generalize H1 = H at hP hS ⊢
  refine lv_if_eq (tgt := 32) hx hb dX12_move_5 (by decide) (fun c6260 => ?_) (fun c6260 => ?_)
  · skip
    have t6261 := cv_eq (a := r6259.toInt) rfl (b := 0) (by decide) c6260
    refine lv_iconst (v := (-1)) hx hb dX12_move_32 (by decide) ?_
    have hP9 : va_P (dC, dI) classes (wM g c v F rc) H := hP
    exact W.iret (v := (-1)) hx hb hr (fun t ht hW => ⟨⟨(-1), (v, F, rc), rfl, ⟨hI, rfl, (fun _ _ => rfl), hF, hJ⟩, (by show va_P _ _ _ t.heap; rw [ht]; exact hP9)⟩, hS.F ht⟩) hS.2.2 dX12_move_33
  · skip
    have t6262 := cv_ne (a := r6259.toInt) rfl (b := 0) (by decide) c6260
    refine lv_iload_n hx hb dX12_move_8 rfl (lv_at hl 2 rfl) ?_
    refine lv_iconst (v := 0) hx hb dX12_move_9 (by decide) ?_
    refine lv_bipush (v := 11) hx hb dX12_move_10 (by decide) ?_
    refine va_calli (va_runS (As := [.int p1, .int 0, .int 11]) (rest := []) ⟨hx, hb, hml, hown, hwd⟩ (c_X12_in l dC dI g c adK adV v F rc H.size p1 0 11 hg hI ) (va_cwS 3 hwd (gT wk_254 wk_252 wk_253 wk_5) rfl rfl rfl (by decide +kernel) ⟨Nat.le_of_ble_eq_true rfl, Nat.le_of_ble_eq_true rfl⟩) ⟨PM.blind, fun U hU hW => ⟨rfl, PM.at hK hE hP hS hU hW⟩⟩ rfl rfl hl.1 rfl (lv_room (Nat.le_of_ble_eq_true rfl)) dX12_move_12 ⟨Nat.le_of_ble_eq_true rfl, Nat.le_of_ble_eq_true rfl⟩) hS (fun q _ h => (freeM hS) q h) (freeM hS) (fun r6263 u t H1 locs ht hvm hw hB hz1 hk1 hS => ?_)
    unfold BM at hB
    rw [ht] at hB
    have hP : va_P (dC, dI) classes (wM g c v F rc) H1 := hB
    have hw_r6263 : (r6263.toInt = 1 ∧ (0 : Int32).toInt ≤ p1.toInt ∧ p1.toInt ≤ (11 : Int32).toInt) ∨ (r6263.toInt = 0 ∧ (p1.toInt < (0 : Int32).toInt ∨ (11 : Int32).toInt < p1.toInt)) := hw
    clear hw
    have k6264 : (0 : Int32).toInt = 0 := by decide
    have k6265 : (11 : Int32).toInt = 11 := by decide
    clear hz1
    generalize H1 = H at hP hS ⊢
    refine lv_if_eq (tgt := 32) hx hb dX12_move_15 (by decide) (fun c6266 => ?_) (fun c6266 => ?_)
    · skip
      have t6267 := cv_eq (a := r6263.toInt) rfl (b := 0) (by decide) c6266
      refine lv_iconst (v := (-1)) hx hb dX12_move_32 (by decide) ?_
      have hP9 : va_P (dC, dI) classes (wM g c v F rc) H := hP
      exact W.iret (v := (-1)) hx hb hr (fun t ht hW => ⟨⟨(-1), (v, F, rc), rfl, ⟨hI, rfl, (fun _ _ => rfl), hF, hJ⟩, (by show va_P _ _ _ t.heap; rw [ht]; exact hP9)⟩, hS.F ht⟩) hS.2.2 dX12_move_33
    · skip
      have t6268 := cv_ne (a := r6263.toInt) rfl (b := 0) (by decide) c6266
      refine lv_iload_n hx hb dX12_move_18 rfl (lv_at hl 2 rfl) ?_
      refine lv_bipush (v := 10) hx hb dX12_move_19 (by decide) ?_
      refine lv_icmp_ge (tgt := 34) hx hb dX12_move_21 (by decide) (fun c6269 => ?_) (fun c6269 => ?_)
      · skip
        have t6270 := cv_le (a := 10) (by decide) (b := p1.toInt) rfl c6269
        refine lv_aload_n hx hb dX12_move_34 rfl (lv_at hl 0 rfl) ?_
        refine va_get (D := (dC, dI)) (ci := 12) (v := .ref (g 13)) (C := RX12) (T := TX12) (N := 63) hx hb hwd inA_X12 hown hK hP 0 rfl rfl 17 (by decide) (hwd _ wk_194) (fun _ h9 => h9) rfl dX12_move_35 ?_
        refine lv_iload_n hx hb dX12_move_38 rfl (lv_at hl 1 rfl) ?_
        refine va_iald hx hb hK hP 13 12 rfl rfl (i := p0) (vin (a := p0.toInt) rfl (by omega)) dX12_move_39 ?_
        refine lv_topi (fun z6271 e6272 => ?_)
        have t6273 : 0 ≤ z6271.toInt ∧ z6271.toInt ≤ 12 := by rw [e6272]; exact hI.2 13 _ _ rfl _
        have tzz6271 : z6271.toInt = (F 13 (p0 : Int32).toNatClampNeg).toInt := congrArg Int32.toInt e6272
        refine lv_iload_n hx hb dX12_move_40 rfl (lv_at hl 2 rfl) ?_
        refine lv_icmp_eq (tgt := 55) hx hb dX12_move_41 (by decide) (fun c6274 => ?_) (fun c6274 => ?_)
        · skip
          have t6275 := cv_eq (a := z6271.toInt) rfl (b := p1.toInt) rfl c6274
          refine lv_bipush (v := (-2)) hx hb dX12_move_55 (by decide) ?_
          have hP9 : va_P (dC, dI) classes (wM g c v F rc) H := hP
          exact W.iret (v := (-2)) hx hb hr (fun t ht hW => ⟨⟨(-2), (v, F, rc), rfl, ⟨hI, rfl, (fun _ _ => rfl), hF, hJ⟩, (by show va_P _ _ _ t.heap; rw [ht]; exact hP9)⟩, hS.F ht⟩) hS.2.2 dX12_move_57
        · skip
          have t6276 := cv_ne (a := z6271.toInt) rfl (b := p1.toInt) rfl c6274
          refine lv_aload_n hx hb dX12_move_44 rfl (lv_at hl 0 rfl) ?_
          refine va_get (D := (dC, dI)) (ci := 12) (v := .ref (g 13)) (C := RX12) (T := TX12) (N := 63) hx hb hwd inA_X12 hown hK hP 0 rfl rfl 17 (by decide) (hwd _ wk_194) (fun _ h9 => h9) rfl dX12_move_45 ?_
          refine lv_iload_n hx hb dX12_move_48 rfl (lv_at hl 1 rfl) ?_
          refine va_iald hx hb hK hP 13 12 rfl rfl (i := p0) (vin (a := p0.toInt) rfl (by omega)) dX12_move_49 ?_
          refine lv_topi (fun z6277 e6278 => ?_)
          have t6279 : 0 ≤ z6277.toInt ∧ z6277.toInt ≤ 12 := by rw [e6278]; exact hI.2 13 _ _ rfl _
          have tzz6277 : z6277.toInt = (F 13 (p0 : Int32).toNatClampNeg).toInt := congrArg Int32.toInt e6278
          refine lv_bipush (v := 12) hx hb dX12_move_50 (by decide) ?_
          refine lv_icmp_ne (tgt := 58) hx hb dX12_move_52 (by decide) (fun c6280 => ?_) (fun c6280 => ?_)
          · skip
            have t6281 := cv_ne (a := z6277.toInt) rfl (b := 12) (by decide) c6280
            refine lv_iload_n hx hb dX12_move_58 rfl (lv_at hl 2 rfl) ?_
            refine lv_bipush (v := 10) hx hb dX12_move_59 (by decide) ?_
            refine lv_icmp_ge (tgt := 105) hx hb dX12_move_61 (by decide) (fun c6282 => ?_) (fun c6282 => ?_)
            · skip
              have t6283 := cv_le (a := 10) (by decide) (b := p1.toInt) rfl c6282
              refine lv_aload_n hx hb dX12_move_105 rfl (lv_at hl 0 rfl) ?_
              refine va_get (D := (dC, dI)) (ci := 12) (v := .int (v 19)) (C := RX12) (T := TX12) (N := 63) hx hb hwd inA_X12 hown hK hP 0 rfl rfl 19 (by decide) (hwd _ wk_494) (fun _ h9 => h9) rfl dX12_move_106 ?_
              have t6284 : 0 ≤ (v 19).toInt ∧ (v 19).toInt ≤ 500 := hI.1 19 _ _ rfl
              refine lv_sipush (v := 500) hx hb dX12_move_109 (by decide) ?_
              refine lv_icmp_ne (tgt := 118) hx hb dX12_move_112 (by decide) (fun c6285 => ?_) (fun c6285 => ?_)
              · skip
                have t6286 := cv_ne (a := (v 19).toInt) rfl (b := 500) (by decide) c6285
                refine lv_aload_n hx hb dX12_move_118 rfl (lv_at hl 0 rfl) ?_
                refine lv_iload_n hx hb dX12_move_119 rfl (lv_at hl 1 rfl) ?_
                have t6287 : 0 ≤ (v 19).toInt ∧ (v 19).toInt ≤ 500 := hI.1 19 _ _ rfl
                refine va_callv (va_runV (As := [.int p0]) (rest := []) ⟨hx, hb, hml, hown, hwd⟩ (c_X12_endStay l dC dI g c adK adV v F rc H.size p0 hg hI (by omega) (JO.at' hJ (i := p0) (by omega) (by omega) (by omega))) (cwV 1 hwd (gV wk_635 wk_632 wk_633 wk_634 wk_5) rfl rfl rfl (by decide +kernel) ⟨Nat.le_of_ble_eq_true rfl, Nat.le_of_ble_eq_true rfl⟩) ⟨PM.blind, va_recv hK hP (ci := 12) (q0 := 0) rfl rfl, fun U hU hW => ⟨rfl, PM.at hK hE hP hS hU hW⟩⟩ rfl rfl hl.1 rfl (lv_room (Nat.le_of_ble_eq_true rfl)) dX12_move_120 ⟨Nat.le_of_ble_eq_true rfl, Nat.le_of_ble_eq_true rfl⟩) hS (fun q _ h => (freeM hS) q h) (freeM hS) (fun u t H1 locs ht hvm hw hB hz1 hk1 hS => ?_)
                unfold BM at hB
                rw [ht] at hB
                obtain ⟨v6289, F6290, rc9⟩ := u
                obtain ⟨hI, hrc, hf6291, hG6292, hw⟩ := hw
                dsimp only at hI hrc hB hf6291 hG6292 hw
                have hF := frCF (by decide) hG6292 hF
                rw [hrc] at hB
                have hP : va_P (dC, dI) classes (wM g c v6289 F6290 rc) H1 := hB
                replace hw : ∀ j : Int, j ≠ p0.toInt → hasO (v 19) (F 15) (F 18) j → hasO (v6289 19) (F6290 15) (F6290 18) j := hw
                rw [show v6289 19 = v 19 from hf6291 19 (by decide)] at hw
                have hw_r6288 := hw
                clear hw
                have t6293 : 0 ≤ (v 19).toInt ∧ (v 19).toInt ≤ 500 := by have h9 := hI.1 19 _ _ rfl; rw [show v6289 19 = v 19 from hf6291 19 (by decide)] at h9; exact h9
                clear hz1
                generalize H1 = H at hP hS ⊢
                refine lv_aload_n hx hb dX12_move_123 rfl (lv_at hl 0 rfl) ?_
                refine lv_iload_n hx hb dX12_move_124 rfl (lv_at hl 1 rfl) ?_
                refine lv_iload_n hx hb dX12_move_125 rfl (lv_at hl 2 rfl) ?_
                have t6294 : 0 ≤ (v 19).toInt ∧ (v 19).toInt ≤ 500 := by have h9 := hI.1 19 _ _ rfl; rw [show v6289 19 = v 19 from hf6291 19 (by decide)] at h9; exact h9
                refine va_callv (va_runV (As := [.int p0, .int p1]) (rest := []) ⟨hx, hb, hml, hown, hwd⟩ (c_X12_begin l dC dI g c adK adV v6289 F6290 rc H.size p0 p1 hg hI (by omega) (by omega) (by have h9 : v6289 19 = v 19 := hf6291 19 (by decide); rw [h9]; omega)) (cwV 2 hwd (gV wk_595 wk_592 wk_593 wk_594 wk_5) rfl rfl rfl (by decide +kernel) ⟨Nat.le_of_ble_eq_true rfl, Nat.le_of_ble_eq_true rfl⟩) ⟨PM.blind, va_recv hK hP (ci := 12) (q0 := 0) rfl rfl, fun U hU hW => ⟨rfl, PM.at hK hE hP hS hU hW⟩⟩ rfl rfl hl.1 rfl (lv_room (Nat.le_of_ble_eq_true rfl)) dX12_move_126 ⟨Nat.le_of_ble_eq_true rfl, Nat.le_of_ble_eq_true rfl⟩) hS (fun q _ h => (freeM hS) q h) (freeM hS) (fun u t H1 locs ht hvm hw hB hz1 hk1 hS => ?_)
                unfold BM at hB
                rw [ht] at hB
                obtain ⟨v6296, F6297, rc9⟩ := u
                obtain ⟨hI, hrc, hf6298, hG6299, hw⟩ := hw
                dsimp only at hI hrc hB hf6298 hG6299 hw
                have hF := frCF (by decide) hG6299 hF
                rw [hrc] at hB
                have hP : va_P (dC, dI) classes (wM g c v6296 F6297 rc) H1 := hB
                replace hw : (v6296 19).toInt = (v6289 19).toInt + 1 ∧ (F6297 13 = upd (F6290 13) p0.toNatClampNeg p1) ∧ (∀ j : Int, (j = p0.toInt ∨ hasO (v6289 19) (F6290 15) (F6290 18) j) → hasO (v6296 19) (F6297 15) (F6297 18) j) := hw
                rw [show v6289 19 = v 19 from hf6291 19 (by decide)] at hw
                have hw_r6295 := hw
                clear hw
                have t6300 : 0 ≤ (v6296 19).toInt ∧ (v6296 19).toInt ≤ 500 := hI.1 19 _ _ rfl
                clear hz1
                generalize H1 = H at hP hS ⊢
                refine lv_iconst (v := 1) hx hb dX12_move_129 (by decide) ?_
                have hP9 : va_P (dC, dI) classes (wM g c v6296 F6297 rc) H := hP
                exact W.iret (v := 1) hx hb hr (fun t ht hW => ⟨⟨1, (v6296, F6297, rc), rfl, ⟨hI, rfl, (frC (by decide) hf6298 (frC (by decide) hf6291 (fun _ _ => rfl))), hF, (by show JO (v6296 14) (v6296 19) (F6297 13) (F6297 15) (F6297 18); rw [show v6296 14 = v 14 from (hf6298 14 (by decide)).trans (hf6291 14 (by decide))]; exact JO.go hJ hw_r6288 hw_r6295.2.2 (hw_r6295.2.1.trans (congrArg (fun f => upd f _ _) (hG6292 13 (by decide)))) (by omega))⟩, (by show va_P _ _ _ t.heap; rw [ht]; exact hP9)⟩, hS.F ht⟩) hS.2.2 dX12_move_130
              · skip
                have t6301 := cv_eq (a := (v 19).toInt) rfl (b := 500) (by decide) c6285
                refine lv_bipush (v := (-3)) hx hb dX12_move_115 (by decide) ?_
                have hP9 : va_P (dC, dI) classes (wM g c v F rc) H := hP
                exact W.iret (v := (-3)) hx hb hr (fun t ht hW => ⟨⟨(-3), (v, F, rc), rfl, ⟨hI, rfl, (fun _ _ => rfl), hF, hJ⟩, (by show va_P _ _ _ t.heap; rw [ht]; exact hP9)⟩, hS.F ht⟩) hS.2.2 dX12_move_117
            · skip
              have t6302 := cv_nle (a := 10) (by decide) (b := p1.toInt) rfl c6282
              refine lv_aload_n hx hb dX12_move_64 rfl (lv_at hl 0 rfl) ?_
              refine lv_iload_n hx hb dX12_move_65 rfl (lv_at hl 2 rfl) ?_
              refine va_calli (va_runV (As := [.int p1]) (rest := []) ⟨hx, hb, hml, hown, hwd⟩ (c_X12_isReturned l dC dI g c adK adV v F rc H.size p1 hg hI (by omega)) (cwV 1 hwd (gV wk_313 wk_310 wk_311 wk_312 wk_5) rfl rfl rfl (by decide +kernel) ⟨Nat.le_of_ble_eq_true rfl, Nat.le_of_ble_eq_true rfl⟩) ⟨PM.blind, va_recv hK hP (ci := 12) (q0 := 0) rfl rfl, fun U hU hW => ⟨rfl, PM.at hK hE hP hS hU hW⟩⟩ rfl rfl hl.1 rfl (lv_room (Nat.le_of_ble_eq_true rfl)) dX12_move_66 ⟨Nat.le_of_ble_eq_true rfl, Nat.le_of_ble_eq_true rfl⟩) hS (fun q _ h => (freeM hS) q h) (freeM hS) (fun r6303 u t H1 locs ht hvm hw hB hz1 hk1 hS => ?_)
              unfold BM at hB
              rw [ht] at hB
              have hP : va_P (dC, dI) classes (wM g c v F rc) H1 := hB
              have hw_r6303 : 0 ≤ r6303.toInt ∧ r6303.toInt ≤ 1 := hw
              clear hw
              clear hz1
              generalize H1 = H at hP hS ⊢
              refine lv_if_ne (tgt := 102) hx hb dX12_move_69 (by decide) (fun c6304 => ?_) (fun c6304 => ?_)
              · skip
                have t6305 := cv_ne (a := r6303.toInt) rfl (b := 0) (by decide) c6304
                refine lv_bipush (v := (-2)) hx hb dX12_move_102 (by decide) ?_
                have hP9 : va_P (dC, dI) classes (wM g c v F rc) H := hP
                exact W.iret (v := (-2)) hx hb hr (fun t ht hW => ⟨⟨(-2), (v, F, rc), rfl, ⟨hI, rfl, (fun _ _ => rfl), hF, hJ⟩, (by show va_P _ _ _ t.heap; rw [ht]; exact hP9)⟩, hS.F ht⟩) hS.2.2 dX12_move_104
              · skip
                have t6306 := cv_eq (a := r6303.toInt) rfl (b := 0) (by decide) c6304
                refine lv_aload_n hx hb dX12_move_72 rfl (lv_at hl 0 rfl) ?_
                refine lv_iload_n hx hb dX12_move_73 rfl (lv_at hl 2 rfl) ?_
                refine lv_aload_n hx hb dX12_move_74 rfl (lv_at hl 0 rfl) ?_
                refine va_get (D := (dC, dI)) (ci := 12) (v := .ref (g 11)) (C := RX12) (T := TX12) (N := 63) hx hb hwd inA_X12 hown hK hP 0 rfl rfl 15 (by decide) (hwd _ wk_192) (fun _ h9 => h9) rfl dX12_move_75 ?_
                refine lv_iload_n hx hb dX12_move_78 rfl (lv_at hl 1 rfl) ?_
                refine va_iald hx hb hK hP 11 10 rfl rfl (i := p0) (vin (a := p0.toInt) rfl (by omega)) dX12_move_79 ?_
                refine lv_topi (fun z6307 e6308 => ?_)
                have t6309 : 0 ≤ z6307.toInt ∧ z6307.toInt ≤ 9 := by rw [e6308]; exact hI.2 11 _ _ rfl _
                have tzz6307 : z6307.toInt = (F 11 (p0 : Int32).toNatClampNeg).toInt := congrArg Int32.toInt e6308
                refine va_calli (va_runV (As := [.int p1, .int z6307]) (rest := []) ⟨hx, hb, hml, hown, hwd⟩ (c_X12_onIt l dC dI g c adK adV v F rc H.size p1 z6307 hg hI ) (cwV 2 hwd (gV wk_317 wk_314 wk_315 wk_316 wk_5) rfl rfl rfl (by decide +kernel) ⟨Nat.le_of_ble_eq_true rfl, Nat.le_of_ble_eq_true rfl⟩) ⟨PM.blind, va_recv hK hP (ci := 12) (q0 := 0) rfl rfl, fun U hU hW => ⟨rfl, PM.at hK hE hP hS hU hW⟩⟩ rfl rfl hl.1 rfl (lv_room (Nat.le_of_ble_eq_true rfl)) dX12_move_80 ⟨Nat.le_of_ble_eq_true rfl, Nat.le_of_ble_eq_true rfl⟩) hS (fun q _ h => (freeM hS) q h) (freeM hS) (fun r6310 u t H1 locs ht hvm hw hB hz1 hk1 hS => ?_)
                unfold BM at hB
                rw [ht] at hB
                have hP : va_P (dC, dI) classes (wM g c v F rc) H1 := hB
                clear hz1
                generalize H1 = H at hP hS ⊢
                have rr_r6310 := i32_rng r6310
                refine lv_aload_n hx hb dX12_move_83 rfl (lv_at hl 0 rfl) ?_
                refine va_get (D := (dC, dI)) (ci := 12) (v := .ref (g 9)) (C := RX12) (T := TX12) (N := 63) hx hb hwd inA_X12 hown hK hP 0 rfl rfl 12 (by decide) (hwd _ wk_190) (fun _ h9 => h9) rfl dX12_move_84 ?_
                refine lv_bipush (v := 10) hx hb dX12_move_87 (by decide) ?_
                refine lv_iload_n hx hb dX12_move_89 rfl (lv_at hl 2 rfl) ?_
                refine lv_imul hx hb dX12_move_90 ?_
                refine lv_topi (fun z6311 e6312 => ?_)
                try (have t6313 := tmul e6312 (a := 10) (by decide) (b := p1.toInt) rfl (by omega))
                refine lv_aload_n hx hb dX12_move_91 rfl (lv_at hl 0 rfl) ?_
                refine va_get (D := (dC, dI)) (ci := 12) (v := .ref (g 11)) (C := RX12) (T := TX12) (N := 63) hx hb hwd inA_X12 hown hK hP 0 rfl rfl 15 (by decide) (hwd _ wk_192) (fun _ h9 => h9) rfl dX12_move_92 ?_
                refine lv_iload_n hx hb dX12_move_95 rfl (lv_at hl 1 rfl) ?_
                refine va_iald hx hb hK hP 11 10 rfl rfl (i := p0) (vin (a := p0.toInt) rfl (by omega)) dX12_move_96 ?_
                refine lv_topi (fun z6314 e6315 => ?_)
                have t6316 : 0 ≤ z6314.toInt ∧ z6314.toInt ≤ 9 := by rw [e6315]; exact hI.2 11 _ _ rfl _
                have tzz6314 : z6314.toInt = (F 11 (p0 : Int32).toNatClampNeg).toInt := congrArg Int32.toInt e6315
                refine lv_iadd hx hb dX12_move_97 ?_
                refine lv_topi (fun z6317 e6318 => ?_)
                try (have t6319 := tadd e6318 (a := z6311.toInt) rfl (b := z6314.toInt) rfl (by omega))
                refine va_iald hx hb hK hP 9 8 rfl rfl (i := z6317) (vin (a := z6317.toInt) rfl (by omega)) dX12_move_98 ?_
                refine lv_topi (fun z6320 e6321 => ?_)
                have tzz6320 : z6320.toInt = (F 9 (z6317 : Int32).toNatClampNeg).toInt := congrArg Int32.toInt e6321
                refine lv_icmp_lt (tgt := 105) hx hb dX12_move_99 (by decide) (fun c6322 => ?_) (fun c6322 => ?_)
                · skip
                  have t6323 := cv_lt (a := r6310.toInt) rfl (b := z6320.toInt) rfl c6322
                  refine lv_aload_n hx hb dX12_move_105 rfl (lv_at hl 0 rfl) ?_
                  refine va_get (D := (dC, dI)) (ci := 12) (v := .int (v 19)) (C := RX12) (T := TX12) (N := 63) hx hb hwd inA_X12 hown hK hP 0 rfl rfl 19 (by decide) (hwd _ wk_494) (fun _ h9 => h9) rfl dX12_move_106 ?_
                  have t6324 : 0 ≤ (v 19).toInt ∧ (v 19).toInt ≤ 500 := hI.1 19 _ _ rfl
                  refine lv_sipush (v := 500) hx hb dX12_move_109 (by decide) ?_
                  refine lv_icmp_ne (tgt := 118) hx hb dX12_move_112 (by decide) (fun c6325 => ?_) (fun c6325 => ?_)
                  · skip
                    have t6326 := cv_ne (a := (v 19).toInt) rfl (b := 500) (by decide) c6325
                    refine lv_aload_n hx hb dX12_move_118 rfl (lv_at hl 0 rfl) ?_
                    refine lv_iload_n hx hb dX12_move_119 rfl (lv_at hl 1 rfl) ?_
                    have t6327 : 0 ≤ (v 19).toInt ∧ (v 19).toInt ≤ 500 := hI.1 19 _ _ rfl
                    refine va_callv (va_runV (As := [.int p0]) (rest := []) ⟨hx, hb, hml, hown, hwd⟩ (c_X12_endStay l dC dI g c adK adV v F rc H.size p0 hg hI (by omega) (JO.at' hJ (i := p0) (by omega) (by omega) (by omega))) (cwV 1 hwd (gV wk_635 wk_632 wk_633 wk_634 wk_5) rfl rfl rfl (by decide +kernel) ⟨Nat.le_of_ble_eq_true rfl, Nat.le_of_ble_eq_true rfl⟩) ⟨PM.blind, va_recv hK hP (ci := 12) (q0 := 0) rfl rfl, fun U hU hW => ⟨rfl, PM.at hK hE hP hS hU hW⟩⟩ rfl rfl hl.1 rfl (lv_room (Nat.le_of_ble_eq_true rfl)) dX12_move_120 ⟨Nat.le_of_ble_eq_true rfl, Nat.le_of_ble_eq_true rfl⟩) hS (fun q _ h => (freeM hS) q h) (freeM hS) (fun u t H1 locs ht hvm hw hB hz1 hk1 hS => ?_)
                    unfold BM at hB
                    rw [ht] at hB
                    obtain ⟨v6329, F6330, rc9⟩ := u
                    obtain ⟨hI, hrc, hf6331, hG6332, hw⟩ := hw
                    dsimp only at hI hrc hB hf6331 hG6332 hw
                    have hF := frCF (by decide) hG6332 hF
                    rw [hrc] at hB
                    have hP : va_P (dC, dI) classes (wM g c v6329 F6330 rc) H1 := hB
                    replace hw : ∀ j : Int, j ≠ p0.toInt → hasO (v 19) (F 15) (F 18) j → hasO (v6329 19) (F6330 15) (F6330 18) j := hw
                    rw [show v6329 19 = v 19 from hf6331 19 (by decide)] at hw
                    have hw_r6328 := hw
                    clear hw
                    have t6333 : 0 ≤ (v 19).toInt ∧ (v 19).toInt ≤ 500 := by have h9 := hI.1 19 _ _ rfl; rw [show v6329 19 = v 19 from hf6331 19 (by decide)] at h9; exact h9
                    clear hz1
                    generalize H1 = H at hP hS ⊢
                    refine lv_aload_n hx hb dX12_move_123 rfl (lv_at hl 0 rfl) ?_
                    refine lv_iload_n hx hb dX12_move_124 rfl (lv_at hl 1 rfl) ?_
                    refine lv_iload_n hx hb dX12_move_125 rfl (lv_at hl 2 rfl) ?_
                    have t6334 : 0 ≤ (v 19).toInt ∧ (v 19).toInt ≤ 500 := by have h9 := hI.1 19 _ _ rfl; rw [show v6329 19 = v 19 from hf6331 19 (by decide)] at h9; exact h9
                    refine va_callv (va_runV (As := [.int p0, .int p1]) (rest := []) ⟨hx, hb, hml, hown, hwd⟩ (c_X12_begin l dC dI g c adK adV v6329 F6330 rc H.size p0 p1 hg hI (by omega) (by omega) (by have h9 : v6329 19 = v 19 := hf6331 19 (by decide); rw [h9]; omega)) (cwV 2 hwd (gV wk_595 wk_592 wk_593 wk_594 wk_5) rfl rfl rfl (by decide +kernel) ⟨Nat.le_of_ble_eq_true rfl, Nat.le_of_ble_eq_true rfl⟩) ⟨PM.blind, va_recv hK hP (ci := 12) (q0 := 0) rfl rfl, fun U hU hW => ⟨rfl, PM.at hK hE hP hS hU hW⟩⟩ rfl rfl hl.1 rfl (lv_room (Nat.le_of_ble_eq_true rfl)) dX12_move_126 ⟨Nat.le_of_ble_eq_true rfl, Nat.le_of_ble_eq_true rfl⟩) hS (fun q _ h => (freeM hS) q h) (freeM hS) (fun u t H1 locs ht hvm hw hB hz1 hk1 hS => ?_)
                    unfold BM at hB
                    rw [ht] at hB
                    obtain ⟨v6336, F6337, rc9⟩ := u
                    obtain ⟨hI, hrc, hf6338, hG6339, hw⟩ := hw
                    dsimp only at hI hrc hB hf6338 hG6339 hw
                    have hF := frCF (by decide) hG6339 hF
                    rw [hrc] at hB
                    have hP : va_P (dC, dI) classes (wM g c v6336 F6337 rc) H1 := hB
                    replace hw : (v6336 19).toInt = (v6329 19).toInt + 1 ∧ (F6337 13 = upd (F6330 13) p0.toNatClampNeg p1) ∧ (∀ j : Int, (j = p0.toInt ∨ hasO (v6329 19) (F6330 15) (F6330 18) j) → hasO (v6336 19) (F6337 15) (F6337 18) j) := hw
                    rw [show v6329 19 = v 19 from hf6331 19 (by decide)] at hw
                    have hw_r6335 := hw
                    clear hw
                    have t6340 : 0 ≤ (v6336 19).toInt ∧ (v6336 19).toInt ≤ 500 := hI.1 19 _ _ rfl
                    clear hz1
                    generalize H1 = H at hP hS ⊢
                    refine lv_iconst (v := 1) hx hb dX12_move_129 (by decide) ?_
                    have hP9 : va_P (dC, dI) classes (wM g c v6336 F6337 rc) H := hP
                    exact W.iret (v := 1) hx hb hr (fun t ht hW => ⟨⟨1, (v6336, F6337, rc), rfl, ⟨hI, rfl, (frC (by decide) hf6338 (frC (by decide) hf6331 (fun _ _ => rfl))), hF, (by show JO (v6336 14) (v6336 19) (F6337 13) (F6337 15) (F6337 18); rw [show v6336 14 = v 14 from (hf6338 14 (by decide)).trans (hf6331 14 (by decide))]; exact JO.go hJ hw_r6328 hw_r6335.2.2 (hw_r6335.2.1.trans (congrArg (fun f => upd f _ _) (hG6332 13 (by decide)))) (by omega))⟩, (by show va_P _ _ _ t.heap; rw [ht]; exact hP9)⟩, hS.F ht⟩) hS.2.2 dX12_move_130
                  · skip
                    have t6341 := cv_eq (a := (v 19).toInt) rfl (b := 500) (by decide) c6325
                    refine lv_bipush (v := (-3)) hx hb dX12_move_115 (by decide) ?_
                    have hP9 : va_P (dC, dI) classes (wM g c v F rc) H := hP
                    exact W.iret (v := (-3)) hx hb hr (fun t ht hW => ⟨⟨(-3), (v, F, rc), rfl, ⟨hI, rfl, (fun _ _ => rfl), hF, hJ⟩, (by show va_P _ _ _ t.heap; rw [ht]; exact hP9)⟩, hS.F ht⟩) hS.2.2 dX12_move_117
                · skip
                  have t6342 := cv_nlt (a := r6310.toInt) rfl (b := z6320.toInt) rfl c6322
                  refine lv_bipush (v := (-2)) hx hb dX12_move_102 (by decide) ?_
                  have hP9 : va_P (dC, dI) classes (wM g c v F rc) H := hP
                  exact W.iret (v := (-2)) hx hb hr (fun t ht hW => ⟨⟨(-2), (v, F, rc), rfl, ⟨hI, rfl, (fun _ _ => rfl), hF, hJ⟩, (by show va_P _ _ _ t.heap; rw [ht]; exact hP9)⟩, hS.F ht⟩) hS.2.2 dX12_move_104
          · skip
            have t6343 := cv_eq (a := z6277.toInt) rfl (b := 12) (by decide) c6280
            refine lv_bipush (v := (-2)) hx hb dX12_move_55 (by decide) ?_
            have hP9 : va_P (dC, dI) classes (wM g c v F rc) H := hP
            exact W.iret (v := (-2)) hx hb hr (fun t ht hW => ⟨⟨(-2), (v, F, rc), rfl, ⟨hI, rfl, (fun _ _ => rfl), hF, hJ⟩, (by show va_P _ _ _ t.heap; rw [ht]; exact hP9)⟩, hS.F ht⟩) hS.2.2 dX12_move_57
      · skip
        have t6344 := cv_nle (a := 10) (by decide) (b := p1.toInt) rfl c6269
        refine lv_aload_n hx hb dX12_move_24 rfl (lv_at hl 0 rfl) ?_
        refine lv_iload_n hx hb dX12_move_25 rfl (lv_at hl 2 rfl) ?_
        have t6345 : 0 ≤ (v 6).toInt ∧ (v 6).toInt ≤ 10 := hI.1 6 _ _ rfl
        refine va_calli (va_runV (As := [.int p1]) (rest := []) ⟨hx, hb, hml, hown, hwd⟩ (c_X12_isPlane l dC dI g c adK adV v F rc H.size p1 hg hI ) (cwV 1 hwd (gV wk_305 wk_302 wk_303 wk_304 wk_5) rfl rfl rfl (by decide +kernel) ⟨Nat.le_of_ble_eq_true rfl, Nat.le_of_ble_eq_true rfl⟩) ⟨PM.blind, va_recv hK hP (ci := 12) (q0 := 0) rfl rfl, fun U hU hW => ⟨rfl, PM.at hK hE hP hS hU hW⟩⟩ rfl rfl hl.1 rfl (lv_room (Nat.le_of_ble_eq_true rfl)) dX12_move_26 ⟨Nat.le_of_ble_eq_true rfl, Nat.le_of_ble_eq_true rfl⟩) hS (fun q _ h => (freeM hS) q h) (freeM hS) (fun r6346 u t H1 locs ht hvm hw hB hz1 hk1 hS => ?_)
        unfold BM at hB
        rw [ht] at hB
        have hP : va_P (dC, dI) classes (wM g c v F rc) H1 := hB
        replace hw : (r6346.toInt = 1 ∧ 0 ≤ p1.toInt ∧ p1.toInt < (v 6).toInt) ∨ (r6346.toInt = 0 ∧ (p1.toInt < 0 ∨ (v 6).toInt ≤ p1.toInt)) := hw
        have hw_r6346 := hw
        clear hw
        clear hz1
        generalize H1 = H at hP hS ⊢
        refine lv_if_ne (tgt := 34) hx hb dX12_move_29 (by decide) (fun c6347 => ?_) (fun c6347 => ?_)
        · skip
          have t6348 := cv_ne (a := r6346.toInt) rfl (b := 0) (by decide) c6347
          refine lv_aload_n hx hb dX12_move_34 rfl (lv_at hl 0 rfl) ?_
          refine va_get (D := (dC, dI)) (ci := 12) (v := .ref (g 13)) (C := RX12) (T := TX12) (N := 63) hx hb hwd inA_X12 hown hK hP 0 rfl rfl 17 (by decide) (hwd _ wk_194) (fun _ h9 => h9) rfl dX12_move_35 ?_
          refine lv_iload_n hx hb dX12_move_38 rfl (lv_at hl 1 rfl) ?_
          refine va_iald hx hb hK hP 13 12 rfl rfl (i := p0) (vin (a := p0.toInt) rfl (by omega)) dX12_move_39 ?_
          refine lv_topi (fun z6349 e6350 => ?_)
          have t6351 : 0 ≤ z6349.toInt ∧ z6349.toInt ≤ 12 := by rw [e6350]; exact hI.2 13 _ _ rfl _
          have tzz6349 : z6349.toInt = (F 13 (p0 : Int32).toNatClampNeg).toInt := congrArg Int32.toInt e6350
          refine lv_iload_n hx hb dX12_move_40 rfl (lv_at hl 2 rfl) ?_
          refine lv_icmp_eq (tgt := 55) hx hb dX12_move_41 (by decide) (fun c6352 => ?_) (fun c6352 => ?_)
          · skip
            have t6353 := cv_eq (a := z6349.toInt) rfl (b := p1.toInt) rfl c6352
            refine lv_bipush (v := (-2)) hx hb dX12_move_55 (by decide) ?_
            have hP9 : va_P (dC, dI) classes (wM g c v F rc) H := hP
            exact W.iret (v := (-2)) hx hb hr (fun t ht hW => ⟨⟨(-2), (v, F, rc), rfl, ⟨hI, rfl, (fun _ _ => rfl), hF, hJ⟩, (by show va_P _ _ _ t.heap; rw [ht]; exact hP9)⟩, hS.F ht⟩) hS.2.2 dX12_move_57
          · skip
            have t6354 := cv_ne (a := z6349.toInt) rfl (b := p1.toInt) rfl c6352
            refine lv_aload_n hx hb dX12_move_44 rfl (lv_at hl 0 rfl) ?_
            refine va_get (D := (dC, dI)) (ci := 12) (v := .ref (g 13)) (C := RX12) (T := TX12) (N := 63) hx hb hwd inA_X12 hown hK hP 0 rfl rfl 17 (by decide) (hwd _ wk_194) (fun _ h9 => h9) rfl dX12_move_45 ?_
            refine lv_iload_n hx hb dX12_move_48 rfl (lv_at hl 1 rfl) ?_
            refine va_iald hx hb hK hP 13 12 rfl rfl (i := p0) (vin (a := p0.toInt) rfl (by omega)) dX12_move_49 ?_
            refine lv_topi (fun z6355 e6356 => ?_)
            have t6357 : 0 ≤ z6355.toInt ∧ z6355.toInt ≤ 12 := by rw [e6356]; exact hI.2 13 _ _ rfl _
            have tzz6355 : z6355.toInt = (F 13 (p0 : Int32).toNatClampNeg).toInt := congrArg Int32.toInt e6356
            refine lv_bipush (v := 12) hx hb dX12_move_50 (by decide) ?_
            refine lv_icmp_ne (tgt := 58) hx hb dX12_move_52 (by decide) (fun c6358 => ?_) (fun c6358 => ?_)
            · skip
              have t6359 := cv_ne (a := z6355.toInt) rfl (b := 12) (by decide) c6358
              refine lv_iload_n hx hb dX12_move_58 rfl (lv_at hl 2 rfl) ?_
              refine lv_bipush (v := 10) hx hb dX12_move_59 (by decide) ?_
              refine lv_icmp_ge (tgt := 105) hx hb dX12_move_61 (by decide) (fun c6360 => ?_) (fun c6360 => ?_)
              · skip
                have t6361 := cv_le (a := 10) (by decide) (b := p1.toInt) rfl c6360
                refine lv_aload_n hx hb dX12_move_105 rfl (lv_at hl 0 rfl) ?_
                refine va_get (D := (dC, dI)) (ci := 12) (v := .int (v 19)) (C := RX12) (T := TX12) (N := 63) hx hb hwd inA_X12 hown hK hP 0 rfl rfl 19 (by decide) (hwd _ wk_494) (fun _ h9 => h9) rfl dX12_move_106 ?_
                have t6362 : 0 ≤ (v 19).toInt ∧ (v 19).toInt ≤ 500 := hI.1 19 _ _ rfl
                refine lv_sipush (v := 500) hx hb dX12_move_109 (by decide) ?_
                refine lv_icmp_ne (tgt := 118) hx hb dX12_move_112 (by decide) (fun c6363 => ?_) (fun c6363 => ?_)
                · skip
                  have t6364 := cv_ne (a := (v 19).toInt) rfl (b := 500) (by decide) c6363
                  refine lv_aload_n hx hb dX12_move_118 rfl (lv_at hl 0 rfl) ?_
                  refine lv_iload_n hx hb dX12_move_119 rfl (lv_at hl 1 rfl) ?_
                  have t6365 : 0 ≤ (v 19).toInt ∧ (v 19).toInt ≤ 500 := hI.1 19 _ _ rfl
                  refine va_callv (va_runV (As := [.int p0]) (rest := []) ⟨hx, hb, hml, hown, hwd⟩ (c_X12_endStay l dC dI g c adK adV v F rc H.size p0 hg hI (by omega) (JO.at' hJ (i := p0) (by omega) (by omega) (by omega))) (cwV 1 hwd (gV wk_635 wk_632 wk_633 wk_634 wk_5) rfl rfl rfl (by decide +kernel) ⟨Nat.le_of_ble_eq_true rfl, Nat.le_of_ble_eq_true rfl⟩) ⟨PM.blind, va_recv hK hP (ci := 12) (q0 := 0) rfl rfl, fun U hU hW => ⟨rfl, PM.at hK hE hP hS hU hW⟩⟩ rfl rfl hl.1 rfl (lv_room (Nat.le_of_ble_eq_true rfl)) dX12_move_120 ⟨Nat.le_of_ble_eq_true rfl, Nat.le_of_ble_eq_true rfl⟩) hS (fun q _ h => (freeM hS) q h) (freeM hS) (fun u t H1 locs ht hvm hw hB hz1 hk1 hS => ?_)
                  unfold BM at hB
                  rw [ht] at hB
                  obtain ⟨v6367, F6368, rc9⟩ := u
                  obtain ⟨hI, hrc, hf6369, hG6370, hw⟩ := hw
                  dsimp only at hI hrc hB hf6369 hG6370 hw
                  have hF := frCF (by decide) hG6370 hF
                  rw [hrc] at hB
                  have hP : va_P (dC, dI) classes (wM g c v6367 F6368 rc) H1 := hB
                  replace hw : ∀ j : Int, j ≠ p0.toInt → hasO (v 19) (F 15) (F 18) j → hasO (v6367 19) (F6368 15) (F6368 18) j := hw
                  rw [show v6367 19 = v 19 from hf6369 19 (by decide)] at hw
                  have hw_r6366 := hw
                  clear hw
                  have t6371 : 0 ≤ (v 19).toInt ∧ (v 19).toInt ≤ 500 := by have h9 := hI.1 19 _ _ rfl; rw [show v6367 19 = v 19 from hf6369 19 (by decide)] at h9; exact h9
                  clear hz1
                  generalize H1 = H at hP hS ⊢
                  refine lv_aload_n hx hb dX12_move_123 rfl (lv_at hl 0 rfl) ?_
                  refine lv_iload_n hx hb dX12_move_124 rfl (lv_at hl 1 rfl) ?_
                  refine lv_iload_n hx hb dX12_move_125 rfl (lv_at hl 2 rfl) ?_
                  have t6372 : 0 ≤ (v 19).toInt ∧ (v 19).toInt ≤ 500 := by have h9 := hI.1 19 _ _ rfl; rw [show v6367 19 = v 19 from hf6369 19 (by decide)] at h9; exact h9
                  refine va_callv (va_runV (As := [.int p0, .int p1]) (rest := []) ⟨hx, hb, hml, hown, hwd⟩ (c_X12_begin l dC dI g c adK adV v6367 F6368 rc H.size p0 p1 hg hI (by omega) (by omega) (by have h9 : v6367 19 = v 19 := hf6369 19 (by decide); rw [h9]; omega)) (cwV 2 hwd (gV wk_595 wk_592 wk_593 wk_594 wk_5) rfl rfl rfl (by decide +kernel) ⟨Nat.le_of_ble_eq_true rfl, Nat.le_of_ble_eq_true rfl⟩) ⟨PM.blind, va_recv hK hP (ci := 12) (q0 := 0) rfl rfl, fun U hU hW => ⟨rfl, PM.at hK hE hP hS hU hW⟩⟩ rfl rfl hl.1 rfl (lv_room (Nat.le_of_ble_eq_true rfl)) dX12_move_126 ⟨Nat.le_of_ble_eq_true rfl, Nat.le_of_ble_eq_true rfl⟩) hS (fun q _ h => (freeM hS) q h) (freeM hS) (fun u t H1 locs ht hvm hw hB hz1 hk1 hS => ?_)
                  unfold BM at hB
                  rw [ht] at hB
                  obtain ⟨v6374, F6375, rc9⟩ := u
                  obtain ⟨hI, hrc, hf6376, hG6377, hw⟩ := hw
                  dsimp only at hI hrc hB hf6376 hG6377 hw
                  have hF := frCF (by decide) hG6377 hF
                  rw [hrc] at hB
                  have hP : va_P (dC, dI) classes (wM g c v6374 F6375 rc) H1 := hB
                  replace hw : (v6374 19).toInt = (v6367 19).toInt + 1 ∧ (F6375 13 = upd (F6368 13) p0.toNatClampNeg p1) ∧ (∀ j : Int, (j = p0.toInt ∨ hasO (v6367 19) (F6368 15) (F6368 18) j) → hasO (v6374 19) (F6375 15) (F6375 18) j) := hw
                  rw [show v6367 19 = v 19 from hf6369 19 (by decide)] at hw
                  have hw_r6373 := hw
                  clear hw
                  have t6378 : 0 ≤ (v6374 19).toInt ∧ (v6374 19).toInt ≤ 500 := hI.1 19 _ _ rfl
                  clear hz1
                  generalize H1 = H at hP hS ⊢
                  refine lv_iconst (v := 1) hx hb dX12_move_129 (by decide) ?_
                  have hP9 : va_P (dC, dI) classes (wM g c v6374 F6375 rc) H := hP
                  exact W.iret (v := 1) hx hb hr (fun t ht hW => ⟨⟨1, (v6374, F6375, rc), rfl, ⟨hI, rfl, (frC (by decide) hf6376 (frC (by decide) hf6369 (fun _ _ => rfl))), hF, (by show JO (v6374 14) (v6374 19) (F6375 13) (F6375 15) (F6375 18); rw [show v6374 14 = v 14 from (hf6376 14 (by decide)).trans (hf6369 14 (by decide))]; exact JO.go hJ hw_r6366 hw_r6373.2.2 (hw_r6373.2.1.trans (congrArg (fun f => upd f _ _) (hG6370 13 (by decide)))) (by omega))⟩, (by show va_P _ _ _ t.heap; rw [ht]; exact hP9)⟩, hS.F ht⟩) hS.2.2 dX12_move_130
                · skip
                  have t6379 := cv_eq (a := (v 19).toInt) rfl (b := 500) (by decide) c6363
                  refine lv_bipush (v := (-3)) hx hb dX12_move_115 (by decide) ?_
                  have hP9 : va_P (dC, dI) classes (wM g c v F rc) H := hP
                  exact W.iret (v := (-3)) hx hb hr (fun t ht hW => ⟨⟨(-3), (v, F, rc), rfl, ⟨hI, rfl, (fun _ _ => rfl), hF, hJ⟩, (by show va_P _ _ _ t.heap; rw [ht]; exact hP9)⟩, hS.F ht⟩) hS.2.2 dX12_move_117
              · skip
                have t6380 := cv_nle (a := 10) (by decide) (b := p1.toInt) rfl c6360
                refine lv_aload_n hx hb dX12_move_64 rfl (lv_at hl 0 rfl) ?_
                refine lv_iload_n hx hb dX12_move_65 rfl (lv_at hl 2 rfl) ?_
                refine va_calli (va_runV (As := [.int p1]) (rest := []) ⟨hx, hb, hml, hown, hwd⟩ (c_X12_isReturned l dC dI g c adK adV v F rc H.size p1 hg hI (by omega)) (cwV 1 hwd (gV wk_313 wk_310 wk_311 wk_312 wk_5) rfl rfl rfl (by decide +kernel) ⟨Nat.le_of_ble_eq_true rfl, Nat.le_of_ble_eq_true rfl⟩) ⟨PM.blind, va_recv hK hP (ci := 12) (q0 := 0) rfl rfl, fun U hU hW => ⟨rfl, PM.at hK hE hP hS hU hW⟩⟩ rfl rfl hl.1 rfl (lv_room (Nat.le_of_ble_eq_true rfl)) dX12_move_66 ⟨Nat.le_of_ble_eq_true rfl, Nat.le_of_ble_eq_true rfl⟩) hS (fun q _ h => (freeM hS) q h) (freeM hS) (fun r6381 u t H1 locs ht hvm hw hB hz1 hk1 hS => ?_)
                unfold BM at hB
                rw [ht] at hB
                have hP : va_P (dC, dI) classes (wM g c v F rc) H1 := hB
                have hw_r6381 : 0 ≤ r6381.toInt ∧ r6381.toInt ≤ 1 := hw
                clear hw
                clear hz1
                generalize H1 = H at hP hS ⊢
                refine lv_if_ne (tgt := 102) hx hb dX12_move_69 (by decide) (fun c6382 => ?_) (fun c6382 => ?_)
                · skip
                  have t6383 := cv_ne (a := r6381.toInt) rfl (b := 0) (by decide) c6382
                  refine lv_bipush (v := (-2)) hx hb dX12_move_102 (by decide) ?_
                  have hP9 : va_P (dC, dI) classes (wM g c v F rc) H := hP
                  exact W.iret (v := (-2)) hx hb hr (fun t ht hW => ⟨⟨(-2), (v, F, rc), rfl, ⟨hI, rfl, (fun _ _ => rfl), hF, hJ⟩, (by show va_P _ _ _ t.heap; rw [ht]; exact hP9)⟩, hS.F ht⟩) hS.2.2 dX12_move_104
                · skip
                  have t6384 := cv_eq (a := r6381.toInt) rfl (b := 0) (by decide) c6382
                  refine lv_aload_n hx hb dX12_move_72 rfl (lv_at hl 0 rfl) ?_
                  refine lv_iload_n hx hb dX12_move_73 rfl (lv_at hl 2 rfl) ?_
                  refine lv_aload_n hx hb dX12_move_74 rfl (lv_at hl 0 rfl) ?_
                  refine va_get (D := (dC, dI)) (ci := 12) (v := .ref (g 11)) (C := RX12) (T := TX12) (N := 63) hx hb hwd inA_X12 hown hK hP 0 rfl rfl 15 (by decide) (hwd _ wk_192) (fun _ h9 => h9) rfl dX12_move_75 ?_
                  refine lv_iload_n hx hb dX12_move_78 rfl (lv_at hl 1 rfl) ?_
                  refine va_iald hx hb hK hP 11 10 rfl rfl (i := p0) (vin (a := p0.toInt) rfl (by omega)) dX12_move_79 ?_
                  refine lv_topi (fun z6385 e6386 => ?_)
                  have t6387 : 0 ≤ z6385.toInt ∧ z6385.toInt ≤ 9 := by rw [e6386]; exact hI.2 11 _ _ rfl _
                  have tzz6385 : z6385.toInt = (F 11 (p0 : Int32).toNatClampNeg).toInt := congrArg Int32.toInt e6386
                  refine va_calli (va_runV (As := [.int p1, .int z6385]) (rest := []) ⟨hx, hb, hml, hown, hwd⟩ (c_X12_onIt l dC dI g c adK adV v F rc H.size p1 z6385 hg hI ) (cwV 2 hwd (gV wk_317 wk_314 wk_315 wk_316 wk_5) rfl rfl rfl (by decide +kernel) ⟨Nat.le_of_ble_eq_true rfl, Nat.le_of_ble_eq_true rfl⟩) ⟨PM.blind, va_recv hK hP (ci := 12) (q0 := 0) rfl rfl, fun U hU hW => ⟨rfl, PM.at hK hE hP hS hU hW⟩⟩ rfl rfl hl.1 rfl (lv_room (Nat.le_of_ble_eq_true rfl)) dX12_move_80 ⟨Nat.le_of_ble_eq_true rfl, Nat.le_of_ble_eq_true rfl⟩) hS (fun q _ h => (freeM hS) q h) (freeM hS) (fun r6388 u t H1 locs ht hvm hw hB hz1 hk1 hS => ?_)
                  unfold BM at hB
                  rw [ht] at hB
                  have hP : va_P (dC, dI) classes (wM g c v F rc) H1 := hB
                  clear hz1
                  generalize H1 = H at hP hS ⊢
                  have rr_r6388 := i32_rng r6388
                  refine lv_aload_n hx hb dX12_move_83 rfl (lv_at hl 0 rfl) ?_
                  refine va_get (D := (dC, dI)) (ci := 12) (v := .ref (g 9)) (C := RX12) (T := TX12) (N := 63) hx hb hwd inA_X12 hown hK hP 0 rfl rfl 12 (by decide) (hwd _ wk_190) (fun _ h9 => h9) rfl dX12_move_84 ?_
                  refine lv_bipush (v := 10) hx hb dX12_move_87 (by decide) ?_
                  refine lv_iload_n hx hb dX12_move_89 rfl (lv_at hl 2 rfl) ?_
                  refine lv_imul hx hb dX12_move_90 ?_
                  refine lv_topi (fun z6389 e6390 => ?_)
                  try (have t6391 := tmul e6390 (a := 10) (by decide) (b := p1.toInt) rfl (by omega))
                  refine lv_aload_n hx hb dX12_move_91 rfl (lv_at hl 0 rfl) ?_
                  refine va_get (D := (dC, dI)) (ci := 12) (v := .ref (g 11)) (C := RX12) (T := TX12) (N := 63) hx hb hwd inA_X12 hown hK hP 0 rfl rfl 15 (by decide) (hwd _ wk_192) (fun _ h9 => h9) rfl dX12_move_92 ?_
                  refine lv_iload_n hx hb dX12_move_95 rfl (lv_at hl 1 rfl) ?_
                  refine va_iald hx hb hK hP 11 10 rfl rfl (i := p0) (vin (a := p0.toInt) rfl (by omega)) dX12_move_96 ?_
                  refine lv_topi (fun z6392 e6393 => ?_)
                  have t6394 : 0 ≤ z6392.toInt ∧ z6392.toInt ≤ 9 := by rw [e6393]; exact hI.2 11 _ _ rfl _
                  have tzz6392 : z6392.toInt = (F 11 (p0 : Int32).toNatClampNeg).toInt := congrArg Int32.toInt e6393
                  refine lv_iadd hx hb dX12_move_97 ?_
                  refine lv_topi (fun z6395 e6396 => ?_)
                  try (have t6397 := tadd e6396 (a := z6389.toInt) rfl (b := z6392.toInt) rfl (by omega))
                  refine va_iald hx hb hK hP 9 8 rfl rfl (i := z6395) (vin (a := z6395.toInt) rfl (by omega)) dX12_move_98 ?_
                  refine lv_topi (fun z6398 e6399 => ?_)
                  have tzz6398 : z6398.toInt = (F 9 (z6395 : Int32).toNatClampNeg).toInt := congrArg Int32.toInt e6399
                  refine lv_icmp_lt (tgt := 105) hx hb dX12_move_99 (by decide) (fun c6400 => ?_) (fun c6400 => ?_)
                  · skip
                    have t6401 := cv_lt (a := r6388.toInt) rfl (b := z6398.toInt) rfl c6400
                    refine lv_aload_n hx hb dX12_move_105 rfl (lv_at hl 0 rfl) ?_
                    refine va_get (D := (dC, dI)) (ci := 12) (v := .int (v 19)) (C := RX12) (T := TX12) (N := 63) hx hb hwd inA_X12 hown hK hP 0 rfl rfl 19 (by decide) (hwd _ wk_494) (fun _ h9 => h9) rfl dX12_move_106 ?_
                    have t6402 : 0 ≤ (v 19).toInt ∧ (v 19).toInt ≤ 500 := hI.1 19 _ _ rfl
                    refine lv_sipush (v := 500) hx hb dX12_move_109 (by decide) ?_
                    refine lv_icmp_ne (tgt := 118) hx hb dX12_move_112 (by decide) (fun c6403 => ?_) (fun c6403 => ?_)
                    · skip
                      have t6404 := cv_ne (a := (v 19).toInt) rfl (b := 500) (by decide) c6403
                      refine lv_aload_n hx hb dX12_move_118 rfl (lv_at hl 0 rfl) ?_
                      refine lv_iload_n hx hb dX12_move_119 rfl (lv_at hl 1 rfl) ?_
                      have t6405 : 0 ≤ (v 19).toInt ∧ (v 19).toInt ≤ 500 := hI.1 19 _ _ rfl
                      refine va_callv (va_runV (As := [.int p0]) (rest := []) ⟨hx, hb, hml, hown, hwd⟩ (c_X12_endStay l dC dI g c adK adV v F rc H.size p0 hg hI (by omega) (JO.at' hJ (i := p0) (by omega) (by omega) (by omega))) (cwV 1 hwd (gV wk_635 wk_632 wk_633 wk_634 wk_5) rfl rfl rfl (by decide +kernel) ⟨Nat.le_of_ble_eq_true rfl, Nat.le_of_ble_eq_true rfl⟩) ⟨PM.blind, va_recv hK hP (ci := 12) (q0 := 0) rfl rfl, fun U hU hW => ⟨rfl, PM.at hK hE hP hS hU hW⟩⟩ rfl rfl hl.1 rfl (lv_room (Nat.le_of_ble_eq_true rfl)) dX12_move_120 ⟨Nat.le_of_ble_eq_true rfl, Nat.le_of_ble_eq_true rfl⟩) hS (fun q _ h => (freeM hS) q h) (freeM hS) (fun u t H1 locs ht hvm hw hB hz1 hk1 hS => ?_)
                      unfold BM at hB
                      rw [ht] at hB
                      obtain ⟨v6407, F6408, rc9⟩ := u
                      obtain ⟨hI, hrc, hf6409, hG6410, hw⟩ := hw
                      dsimp only at hI hrc hB hf6409 hG6410 hw
                      have hF := frCF (by decide) hG6410 hF
                      rw [hrc] at hB
                      have hP : va_P (dC, dI) classes (wM g c v6407 F6408 rc) H1 := hB
                      replace hw : ∀ j : Int, j ≠ p0.toInt → hasO (v 19) (F 15) (F 18) j → hasO (v6407 19) (F6408 15) (F6408 18) j := hw
                      rw [show v6407 19 = v 19 from hf6409 19 (by decide)] at hw
                      have hw_r6406 := hw
                      clear hw
                      have t6411 : 0 ≤ (v 19).toInt ∧ (v 19).toInt ≤ 500 := by have h9 := hI.1 19 _ _ rfl; rw [show v6407 19 = v 19 from hf6409 19 (by decide)] at h9; exact h9
                      clear hz1
                      generalize H1 = H at hP hS ⊢
                      refine lv_aload_n hx hb dX12_move_123 rfl (lv_at hl 0 rfl) ?_
                      refine lv_iload_n hx hb dX12_move_124 rfl (lv_at hl 1 rfl) ?_
                      refine lv_iload_n hx hb dX12_move_125 rfl (lv_at hl 2 rfl) ?_
                      have t6412 : 0 ≤ (v 19).toInt ∧ (v 19).toInt ≤ 500 := by have h9 := hI.1 19 _ _ rfl; rw [show v6407 19 = v 19 from hf6409 19 (by decide)] at h9; exact h9
                      refine va_callv (va_runV (As := [.int p0, .int p1]) (rest := []) ⟨hx, hb, hml, hown, hwd⟩ (c_X12_begin l dC dI g c adK adV v6407 F6408 rc H.size p0 p1 hg hI (by omega) (by omega) (by have h9 : v6407 19 = v 19 := hf6409 19 (by decide); rw [h9]; omega)) (cwV 2 hwd (gV wk_595 wk_592 wk_593 wk_594 wk_5) rfl rfl rfl (by decide +kernel) ⟨Nat.le_of_ble_eq_true rfl, Nat.le_of_ble_eq_true rfl⟩) ⟨PM.blind, va_recv hK hP (ci := 12) (q0 := 0) rfl rfl, fun U hU hW => ⟨rfl, PM.at hK hE hP hS hU hW⟩⟩ rfl rfl hl.1 rfl (lv_room (Nat.le_of_ble_eq_true rfl)) dX12_move_126 ⟨Nat.le_of_ble_eq_true rfl, Nat.le_of_ble_eq_true rfl⟩) hS (fun q _ h => (freeM hS) q h) (freeM hS) (fun u t H1 locs ht hvm hw hB hz1 hk1 hS => ?_)
                      unfold BM at hB
                      rw [ht] at hB
                      obtain ⟨v6414, F6415, rc9⟩ := u
                      obtain ⟨hI, hrc, hf6416, hG6417, hw⟩ := hw
                      dsimp only at hI hrc hB hf6416 hG6417 hw
                      have hF := frCF (by decide) hG6417 hF
                      rw [hrc] at hB
                      have hP : va_P (dC, dI) classes (wM g c v6414 F6415 rc) H1 := hB
                      replace hw : (v6414 19).toInt = (v6407 19).toInt + 1 ∧ (F6415 13 = upd (F6408 13) p0.toNatClampNeg p1) ∧ (∀ j : Int, (j = p0.toInt ∨ hasO (v6407 19) (F6408 15) (F6408 18) j) → hasO (v6414 19) (F6415 15) (F6415 18) j) := hw
                      rw [show v6407 19 = v 19 from hf6409 19 (by decide)] at hw
                      have hw_r6413 := hw
                      clear hw
                      have t6418 : 0 ≤ (v6414 19).toInt ∧ (v6414 19).toInt ≤ 500 := hI.1 19 _ _ rfl
                      clear hz1
                      generalize H1 = H at hP hS ⊢
                      refine lv_iconst (v := 1) hx hb dX12_move_129 (by decide) ?_
                      have hP9 : va_P (dC, dI) classes (wM g c v6414 F6415 rc) H := hP
                      exact W.iret (v := 1) hx hb hr (fun t ht hW => ⟨⟨1, (v6414, F6415, rc), rfl, ⟨hI, rfl, (frC (by decide) hf6416 (frC (by decide) hf6409 (fun _ _ => rfl))), hF, (by show JO (v6414 14) (v6414 19) (F6415 13) (F6415 15) (F6415 18); rw [show v6414 14 = v 14 from (hf6416 14 (by decide)).trans (hf6409 14 (by decide))]; exact JO.go hJ hw_r6406 hw_r6413.2.2 (hw_r6413.2.1.trans (congrArg (fun f => upd f _ _) (hG6410 13 (by decide)))) (by omega))⟩, (by show va_P _ _ _ t.heap; rw [ht]; exact hP9)⟩, hS.F ht⟩) hS.2.2 dX12_move_130
                    · skip
                      have t6419 := cv_eq (a := (v 19).toInt) rfl (b := 500) (by decide) c6403
                      refine lv_bipush (v := (-3)) hx hb dX12_move_115 (by decide) ?_
                      have hP9 : va_P (dC, dI) classes (wM g c v F rc) H := hP
                      exact W.iret (v := (-3)) hx hb hr (fun t ht hW => ⟨⟨(-3), (v, F, rc), rfl, ⟨hI, rfl, (fun _ _ => rfl), hF, hJ⟩, (by show va_P _ _ _ t.heap; rw [ht]; exact hP9)⟩, hS.F ht⟩) hS.2.2 dX12_move_117
                  · skip
                    have t6420 := cv_nlt (a := r6388.toInt) rfl (b := z6398.toInt) rfl c6400
                    refine lv_bipush (v := (-2)) hx hb dX12_move_102 (by decide) ?_
                    have hP9 : va_P (dC, dI) classes (wM g c v F rc) H := hP
                    exact W.iret (v := (-2)) hx hb hr (fun t ht hW => ⟨⟨(-2), (v, F, rc), rfl, ⟨hI, rfl, (fun _ _ => rfl), hF, hJ⟩, (by show va_P _ _ _ t.heap; rw [ht]; exact hP9)⟩, hS.F ht⟩) hS.2.2 dX12_move_104
            · skip
              have t6421 := cv_eq (a := z6355.toInt) rfl (b := 12) (by decide) c6358
              refine lv_bipush (v := (-2)) hx hb dX12_move_55 (by decide) ?_
              have hP9 : va_P (dC, dI) classes (wM g c v F rc) H := hP
              exact W.iret (v := (-2)) hx hb hr (fun t ht hW => ⟨⟨(-2), (v, F, rc), rfl, ⟨hI, rfl, (fun _ _ => rfl), hF, hJ⟩, (by show va_P _ _ _ t.heap; rw [ht]; exact hP9)⟩, hS.F ht⟩) hS.2.2 dX12_move_57
        · skip
          have t6422 := cv_eq (a := r6346.toInt) rfl (b := 0) (by decide) c6347
          refine lv_iconst (v := (-1)) hx hb dX12_move_32 (by decide) ?_
          have hP9 : va_P (dC, dI) classes (wM g c v F rc) H := hP
          exact W.iret (v := (-1)) hx hb hr (fun t ht hW => ⟨⟨(-1), (v, F, rc), rfl, ⟨hI, rfl, (fun _ _ => rfl), hF, hJ⟩, (by show va_P _ _ _ t.heap; rw [ht]; exact hP9)⟩, hS.F ht⟩) hS.2.2 dX12_move_33
theorem swq {f : Nat → Int32} {j k : Nat} {x : Int32} (hx : x.toInt ≠ 12) (hk : (f k).toInt ≠ 12) : (upd f j x k).toInt ≠ 12 := by
  by_cases e : k = j
  · rw [e, mu_at]; exact hx
  · rw [mu_ne _ _ e]; exact hk
set_option maxHeartbeats 8000000 in
set_option maxRecDepth 100000 in
theorem c_X12_swap (l : Launch) (dC : Nat → ClassId) (dI : Nat → Nat → Nat) (g : Nat → Nat) (c : Nat → ClassId) (adK adV : Nat → Nat) (v : Nat → Int32) (F : Nat → Nat → Int32) (rc sz : Nat) (p0 : Int32) (p1 : Int32) (hg : injM g) (hI : IM v F) (hJ : JO (v 14) (v 19) (F 13) (F 15) (F 18)) : Met l yX12_swap (Cond.code yX12_swap cX12_swap 4 (some .int) :: wA) ({ frames := 3, cells := 0, slots := 0, locals := 120 }) (va_Pc [.ref (g 0), .int p0, .int p1] (PM dC dI g c adK adV v F rc sz)) (va_Qi (fun (r : Int32) (u : StM) => IM u.1 u.2.1 ∧ u.2.2 = rc ∧ (∀ k, k ∉ ([19] : List Nat) → u.1 k = v k) ∧ (∀ k, k ∉ ([13, 15, 16, 17, 18, 19, 20, 21, 22, 23] : List Nat) → u.2.1 k = F k) ∧ JO (u.1 14) (u.1 19) (u.2.1 13) (u.2.1 15) (u.2.1 18)) (BM dC dI g c) (AM g sz)) 0 0 (AM g sz) := by
  refine Met.ofW (cc := cX12_swap) (maxL := 4) (ret := (some .int)) (by decide) rfl ?_
  intro p e s m args below meth c0 s₁ B hml hv
  obtain ⟨rfl, hsz, hP, hK, hE⟩ := hv
  have hx := B.exec
  have hb := B.bytes
  have hr := B.returns
  have hts := atoms_spec (ws := Cond.code yX12_swap cX12_swap 4 (some .int) :: wA) B.pre
  have hwd : ∀ w ∈ wA, w.before _ s = true := fun w h => hts w (List.mem_cons_of_mem _ h)
  have hown : s.vm.findClass RX12 = some m.cls := findClass_of_methodNamed B.named
  have hlocks := B.notSynchronized
  subst hsz
  have hl := lv_entry ([.ref (g 0), .int p0, .int p1]) (n := 4) (Nat.le_of_ble_eq_true rfl)
  rw [lg_entry_eq]
  generalize (lg_sl ([.ref (g 0), .int p0, .int p1]) ++ List.replicate (4 - (lg_sl ([.ref (g 0), .int p0, .int p1])).length) Slot.unset).toArray = ls at hl ⊢
  have hl : lv_has ls 4 [(0, .ref (g 0)), (1, .int p0), (2, .int p1)] := hl
  obtain ⟨H, eH⟩ : ∃ z, z = s.heap := ⟨_, rfl⟩
  have hP : va_P (dC, dI) classes (wM g c v F rc) H := by rw [eH]; exact hP
  have hS : va_S (AM g s.heap.size) s.heap H [] := by rw [eH]; exact va_S.rf
  refine my_heap eH ?_
  have hF : ∀ k, k ∉ ([13, 15, 16, 17, 18, 19, 20, 21, 22, 23] : List Nat) → F k = F k := fun _ _ => rfl
  have rp0 := i32_rng p0
  have rp1 := i32_rng p1
  have hb14 : 0 ≤ (v 14).toInt ∧ (v 14).toInt ≤ 100 := hI.1 14 _ _ rfl
  have hb19 : 0 ≤ (v 19).toInt ∧ (v 19).toInt ≤ 500 := hI.1 19 _ _ rfl
  refine lv_aload_n hx hb dX12_swap_0 rfl (lv_at hl 0 rfl) ?_
  refine lv_iload_n hx hb dX12_swap_1 rfl (lv_at hl 1 rfl) ?_
  have t6493 : 0 ≤ (v 14).toInt ∧ (v 14).toInt ≤ 100 := hI.1 14 _ _ rfl
  refine va_calli (va_runV (As := [.int p0]) (rest := []) ⟨hx, hb, hml, hown, hwd⟩ (c_X12_isPart l dC dI g c adK adV v F rc H.size p0 hg hI ) (cwV 1 hwd (gV wk_631 wk_628 wk_629 wk_630 wk_5) rfl rfl rfl (by decide +kernel) ⟨Nat.le_of_ble_eq_true rfl, Nat.le_of_ble_eq_true rfl⟩) ⟨PM.blind, va_recv hK hP (ci := 12) (q0 := 0) rfl rfl, fun U hU hW => ⟨rfl, PM.at hK hE hP hS hU hW⟩⟩ rfl rfl hl.1 rfl (lv_room (Nat.le_of_ble_eq_true rfl)) dX12_swap_2 ⟨Nat.le_of_ble_eq_true rfl, Nat.le_of_ble_eq_true rfl⟩) hS (fun q _ h => (freeM hS) q h) (freeM hS) (fun r6494 u t H1 locs ht hvm hw hB hz1 hk1 hS => ?_)
  unfold BM at hB
  rw [ht] at hB
  have hP : va_P (dC, dI) classes (wM g c v F rc) H1 := hB
  replace hw : (r6494.toInt = 1 ∧ 0 ≤ p0.toInt ∧ p0.toInt < (v 14).toInt) ∨ (r6494.toInt = 0 ∧ (p0.toInt < 0 ∨ (v 14).toInt ≤ p0.toInt)) := hw
  have hw_r6494 := hw
  clear hw
  clear hz1
  generalize H1 = H at hP hS ⊢
  refine lv_if_eq (tgt := 16) hx hb dX12_swap_5 (by decide) (fun c6495 => ?_) (fun c6495 => ?_)
  · skip
    have t6496 := cv_eq (a := r6494.toInt) rfl (b := 0) (by decide) c6495
    refine lv_iconst (v := (-1)) hx hb dX12_swap_16 (by decide) ?_
    have hP9 : va_P (dC, dI) classes (wM g c v F rc) H := hP
    exact W.iret (v := (-1)) hx hb hr (fun t ht hW => ⟨⟨(-1), (v, F, rc), rfl, ⟨hI, rfl, (fun _ _ => rfl), hF, hJ⟩, (by show va_P _ _ _ t.heap; rw [ht]; exact hP9)⟩, hS.F ht⟩) hS.2.2 dX12_swap_17
  · skip
    have t6497 := cv_ne (a := r6494.toInt) rfl (b := 0) (by decide) c6495
    refine lv_aload_n hx hb dX12_swap_8 rfl (lv_at hl 0 rfl) ?_
    refine lv_iload_n hx hb dX12_swap_9 rfl (lv_at hl 2 rfl) ?_
    have t6498 : 0 ≤ (v 14).toInt ∧ (v 14).toInt ≤ 100 := hI.1 14 _ _ rfl
    refine va_calli (va_runV (As := [.int p1]) (rest := []) ⟨hx, hb, hml, hown, hwd⟩ (c_X12_isPart l dC dI g c adK adV v F rc H.size p1 hg hI ) (cwV 1 hwd (gV wk_631 wk_628 wk_629 wk_630 wk_5) rfl rfl rfl (by decide +kernel) ⟨Nat.le_of_ble_eq_true rfl, Nat.le_of_ble_eq_true rfl⟩) ⟨PM.blind, va_recv hK hP (ci := 12) (q0 := 0) rfl rfl, fun U hU hW => ⟨rfl, PM.at hK hE hP hS hU hW⟩⟩ rfl rfl hl.1 rfl (lv_room (Nat.le_of_ble_eq_true rfl)) dX12_swap_10 ⟨Nat.le_of_ble_eq_true rfl, Nat.le_of_ble_eq_true rfl⟩) hS (fun q _ h => (freeM hS) q h) (freeM hS) (fun r6499 u t H1 locs ht hvm hw hB hz1 hk1 hS => ?_)
    unfold BM at hB
    rw [ht] at hB
    have hP : va_P (dC, dI) classes (wM g c v F rc) H1 := hB
    replace hw : (r6499.toInt = 1 ∧ 0 ≤ p1.toInt ∧ p1.toInt < (v 14).toInt) ∨ (r6499.toInt = 0 ∧ (p1.toInt < 0 ∨ (v 14).toInt ≤ p1.toInt)) := hw
    have hw_r6499 := hw
    clear hw
    clear hz1
    generalize H1 = H at hP hS ⊢
    refine lv_if_ne (tgt := 18) hx hb dX12_swap_13 (by decide) (fun c6500 => ?_) (fun c6500 => ?_)
    · skip
      have t6501 := cv_ne (a := r6499.toInt) rfl (b := 0) (by decide) c6500
      refine lv_aload_n hx hb dX12_swap_18 rfl (lv_at hl 0 rfl) ?_
      refine va_get (D := (dC, dI)) (ci := 12) (v := .ref (g 13)) (C := RX12) (T := TX12) (N := 63) hx hb hwd inA_X12 hown hK hP 0 rfl rfl 17 (by decide) (hwd _ wk_194) (fun _ h9 => h9) rfl dX12_swap_19 ?_
      refine lv_iload_n hx hb dX12_swap_22 rfl (lv_at hl 1 rfl) ?_
      refine va_iald hx hb hK hP 13 12 rfl rfl (i := p0) (vin (a := p0.toInt) rfl (by omega)) dX12_swap_23 ?_
      refine lv_topi (fun z6502 e6503 => ?_)
      have t6504 : 0 ≤ z6502.toInt ∧ z6502.toInt ≤ 12 := by rw [e6503]; exact hI.2 13 _ _ rfl _
      have tzz6502 : z6502.toInt = (F 13 (p0 : Int32).toNatClampNeg).toInt := congrArg Int32.toInt e6503
      refine lv_bipush (v := 10) hx hb dX12_swap_24 (by decide) ?_
      refine lv_icmp_ge (tgt := 55) hx hb dX12_swap_26 (by decide) (fun c6505 => ?_) (fun c6505 => ?_)
      · skip
        have t6506 := cv_le (a := 10) (by decide) (b := z6502.toInt) rfl c6505
        refine lv_bipush (v := (-2)) hx hb dX12_swap_55 (by decide) ?_
        have hP9 : va_P (dC, dI) classes (wM g c v F rc) H := hP
        exact W.iret (v := (-2)) hx hb hr (fun t ht hW => ⟨⟨(-2), (v, F, rc), rfl, ⟨hI, rfl, (fun _ _ => rfl), hF, hJ⟩, (by show va_P _ _ _ t.heap; rw [ht]; exact hP9)⟩, hS.F ht⟩) hS.2.2 dX12_swap_57
      · skip
        have t6507 := cv_nle (a := 10) (by decide) (b := z6502.toInt) rfl c6505
        refine lv_aload_n hx hb dX12_swap_29 rfl (lv_at hl 0 rfl) ?_
        refine va_get (D := (dC, dI)) (ci := 12) (v := .ref (g 13)) (C := RX12) (T := TX12) (N := 63) hx hb hwd inA_X12 hown hK hP 0 rfl rfl 17 (by decide) (hwd _ wk_194) (fun _ h9 => h9) rfl dX12_swap_30 ?_
        refine lv_iload_n hx hb dX12_swap_33 rfl (lv_at hl 2 rfl) ?_
        refine va_iald hx hb hK hP 13 12 rfl rfl (i := p1) (vin (a := p1.toInt) rfl (by omega)) dX12_swap_34 ?_
        refine lv_topi (fun z6508 e6509 => ?_)
        have t6510 : 0 ≤ z6508.toInt ∧ z6508.toInt ≤ 12 := by rw [e6509]; exact hI.2 13 _ _ rfl _
        have tzz6508 : z6508.toInt = (F 13 (p1 : Int32).toNatClampNeg).toInt := congrArg Int32.toInt e6509
        refine lv_bipush (v := 11) hx hb dX12_swap_35 (by decide) ?_
        refine lv_icmp_ne (tgt := 55) hx hb dX12_swap_37 (by decide) (fun c6511 => ?_) (fun c6511 => ?_)
        · skip
          have t6512 := cv_ne (a := z6508.toInt) rfl (b := 11) (by decide) c6511
          refine lv_bipush (v := (-2)) hx hb dX12_swap_55 (by decide) ?_
          have hP9 : va_P (dC, dI) classes (wM g c v F rc) H := hP
          exact W.iret (v := (-2)) hx hb hr (fun t ht hW => ⟨⟨(-2), (v, F, rc), rfl, ⟨hI, rfl, (fun _ _ => rfl), hF, hJ⟩, (by show va_P _ _ _ t.heap; rw [ht]; exact hP9)⟩, hS.F ht⟩) hS.2.2 dX12_swap_57
        · skip
          have t6513 := cv_eq (a := z6508.toInt) rfl (b := 11) (by decide) c6511
          refine lv_aload_n hx hb dX12_swap_40 rfl (lv_at hl 0 rfl) ?_
          refine va_get (D := (dC, dI)) (ci := 12) (v := .ref (g 11)) (C := RX12) (T := TX12) (N := 63) hx hb hwd inA_X12 hown hK hP 0 rfl rfl 15 (by decide) (hwd _ wk_192) (fun _ h9 => h9) rfl dX12_swap_41 ?_
          refine lv_iload_n hx hb dX12_swap_44 rfl (lv_at hl 1 rfl) ?_
          refine va_iald hx hb hK hP 11 10 rfl rfl (i := p0) (vin (a := p0.toInt) rfl (by omega)) dX12_swap_45 ?_
          refine lv_topi (fun z6514 e6515 => ?_)
          have t6516 : 0 ≤ z6514.toInt ∧ z6514.toInt ≤ 9 := by rw [e6515]; exact hI.2 11 _ _ rfl _
          have tzz6514 : z6514.toInt = (F 11 (p0 : Int32).toNatClampNeg).toInt := congrArg Int32.toInt e6515
          refine lv_aload_n hx hb dX12_swap_46 rfl (lv_at hl 0 rfl) ?_
          refine va_get (D := (dC, dI)) (ci := 12) (v := .ref (g 11)) (C := RX12) (T := TX12) (N := 63) hx hb hwd inA_X12 hown hK hP 0 rfl rfl 15 (by decide) (hwd _ wk_192) (fun _ h9 => h9) rfl dX12_swap_47 ?_
          refine lv_iload_n hx hb dX12_swap_50 rfl (lv_at hl 2 rfl) ?_
          refine va_iald hx hb hK hP 11 10 rfl rfl (i := p1) (vin (a := p1.toInt) rfl (by omega)) dX12_swap_51 ?_
          refine lv_topi (fun z6517 e6518 => ?_)
          have t6519 : 0 ≤ z6517.toInt ∧ z6517.toInt ≤ 9 := by rw [e6518]; exact hI.2 11 _ _ rfl _
          have tzz6517 : z6517.toInt = (F 11 (p1 : Int32).toNatClampNeg).toInt := congrArg Int32.toInt e6518
          refine lv_icmp_eq (tgt := 58) hx hb dX12_swap_52 (by decide) (fun c6520 => ?_) (fun c6520 => ?_)
          · skip
            have t6521 := cv_eq (a := z6514.toInt) rfl (b := z6517.toInt) rfl c6520
            refine lv_aload_n hx hb dX12_swap_58 rfl (lv_at hl 0 rfl) ?_
            refine va_get (D := (dC, dI)) (ci := 12) (v := .int (v 19)) (C := RX12) (T := TX12) (N := 63) hx hb hwd inA_X12 hown hK hP 0 rfl rfl 19 (by decide) (hwd _ wk_494) (fun _ h9 => h9) rfl dX12_swap_59 ?_
            have t6522 : 0 ≤ (v 19).toInt ∧ (v 19).toInt ≤ 500 := hI.1 19 _ _ rfl
            refine lv_iconst (v := 2) hx hb dX12_swap_62 (by decide) ?_
            refine lv_iadd hx hb dX12_swap_63 ?_
            refine lv_topi (fun z6523 e6524 => ?_)
            try (have t6525 := tadd e6524 (a := (v 19).toInt) rfl (b := 2) (by decide) (by omega))
            refine lv_sipush (v := 500) hx hb dX12_swap_64 (by decide) ?_
            refine lv_icmp_le (tgt := 73) hx hb dX12_swap_67 (by decide) (fun c6526 => ?_) (fun c6526 => ?_)
            · skip
              have t6527 := cv_le (a := z6523.toInt) rfl (b := 500) (by decide) c6526
              refine lv_aload_n hx hb dX12_swap_73 rfl (lv_at hl 0 rfl) ?_
              refine va_get (D := (dC, dI)) (ci := 12) (v := .ref (g 13)) (C := RX12) (T := TX12) (N := 63) hx hb hwd inA_X12 hown hK hP 0 rfl rfl 17 (by decide) (hwd _ wk_194) (fun _ h9 => h9) rfl dX12_swap_74 ?_
              refine lv_iload_n hx hb dX12_swap_77 rfl (lv_at hl 1 rfl) ?_
              refine va_iald hx hb hK hP 13 12 rfl rfl (i := p0) (vin (a := p0.toInt) rfl (by omega)) dX12_swap_78 ?_
              refine lv_topi (fun z6528 e6529 => ?_)
              have t6530 : 0 ≤ z6528.toInt ∧ z6528.toInt ≤ 12 := by rw [e6529]; exact hI.2 13 _ _ rfl _
              have tzz6528 : z6528.toInt = (F 13 (p0 : Int32).toNatClampNeg).toInt := congrArg Int32.toInt e6529
              refine lv_istore_n (lv' := [(3, .int z6528), (0, .ref (g 0)), (1, .int p0), (2, .int p1)]) hx hb dX12_swap_79 rfl hl (by decide) rfl (fun ls hl => ?_)
              refine lv_aload_n hx hb dX12_swap_80 rfl (lv_at hl 1 rfl) ?_
              refine lv_iload_n hx hb dX12_swap_81 rfl (lv_at hl 2 rfl) ?_
              have t6531 : 0 ≤ (v 19).toInt ∧ (v 19).toInt ≤ 500 := hI.1 19 _ _ rfl
              refine va_callv (va_runV (As := [.int p0]) (rest := []) ⟨hx, hb, hml, hown, hwd⟩ (c_X12_endStay l dC dI g c adK adV v F rc H.size p0 hg hI (by omega) (JO.at' hJ (i := p0) (by omega) (by omega) (by omega))) (cwV 1 hwd (gV wk_635 wk_632 wk_633 wk_634 wk_5) rfl rfl rfl (by decide +kernel) ⟨Nat.le_of_ble_eq_true rfl, Nat.le_of_ble_eq_true rfl⟩) ⟨PM.blind, va_recv hK hP (ci := 12) (q0 := 0) rfl rfl, fun U hU hW => ⟨rfl, PM.at hK hE hP hS hU hW⟩⟩ rfl rfl hl.1 rfl (lv_room (Nat.le_of_ble_eq_true rfl)) dX12_swap_82 ⟨Nat.le_of_ble_eq_true rfl, Nat.le_of_ble_eq_true rfl⟩) hS (fun q _ h => (freeM hS) q h) (freeM hS) (fun u t H1 locs ht hvm hw hB hz1 hk1 hS => ?_)
              unfold BM at hB
              rw [ht] at hB
              obtain ⟨v6533, F6534, rc9⟩ := u
              obtain ⟨hI, hrc, hf6535, hG6536, hw⟩ := hw
              dsimp only at hI hrc hB hf6535 hG6536 hw
              have hF := frCF (by decide) hG6536 hF
              rw [hrc] at hB
              have hP : va_P (dC, dI) classes (wM g c v6533 F6534 rc) H1 := hB
              replace hw : ∀ j : Int, j ≠ p0.toInt → hasO (v 19) (F 15) (F 18) j → hasO (v6533 19) (F6534 15) (F6534 18) j := hw
              rw [show v6533 19 = v 19 from hf6535 19 (by decide)] at hw
              have hw_r6532 := hw
              clear hw
              have t6537 : 0 ≤ (v 19).toInt ∧ (v 19).toInt ≤ 500 := by have h9 := hI.1 19 _ _ rfl; rw [show v6533 19 = v 19 from hf6535 19 (by decide)] at h9; exact h9
              clear hz1
              generalize H1 = H at hP hS ⊢
              refine lv_aload_n hx hb dX12_swap_85 rfl (lv_at hl 1 rfl) ?_
              refine lv_iload_n hx hb dX12_swap_86 rfl (lv_at hl 2 rfl) ?_
              refine lv_bipush (v := 11) hx hb dX12_swap_87 (by decide) ?_
              have t6538 : 0 ≤ (v 19).toInt ∧ (v 19).toInt ≤ 500 := by have h9 := hI.1 19 _ _ rfl; rw [show v6533 19 = v 19 from hf6535 19 (by decide)] at h9; exact h9
              refine va_callv (va_runV (As := [.int p0, .int 11]) (rest := []) ⟨hx, hb, hml, hown, hwd⟩ (c_X12_begin l dC dI g c adK adV v6533 F6534 rc H.size p0 11 hg hI (by omega) (by have : (11 : Int32).toInt = 11 := (by decide); omega) (by have h9 : v6533 19 = v 19 := hf6535 19 (by decide); rw [h9]; omega)) (cwV 2 hwd (gV wk_595 wk_592 wk_593 wk_594 wk_5) rfl rfl rfl (by decide +kernel) ⟨Nat.le_of_ble_eq_true rfl, Nat.le_of_ble_eq_true rfl⟩) ⟨PM.blind, va_recv hK hP (ci := 12) (q0 := 0) rfl rfl, fun U hU hW => ⟨rfl, PM.at hK hE hP hS hU hW⟩⟩ rfl rfl hl.1 rfl (lv_room (Nat.le_of_ble_eq_true rfl)) dX12_swap_89 ⟨Nat.le_of_ble_eq_true rfl, Nat.le_of_ble_eq_true rfl⟩) hS (fun q _ h => (freeM hS) q h) (freeM hS) (fun u t H1 locs ht hvm hw hB hz1 hk1 hS => ?_)
              unfold BM at hB
              rw [ht] at hB
              obtain ⟨v6540, F6541, rc9⟩ := u
              obtain ⟨hI, hrc, hf6542, hG6543, hw⟩ := hw
              dsimp only at hI hrc hB hf6542 hG6543 hw
              have hF := frCF (by decide) hG6543 hF
              rw [hrc] at hB
              have hP : va_P (dC, dI) classes (wM g c v6540 F6541 rc) H1 := hB
              replace hw : (v6540 19).toInt = (v6533 19).toInt + 1 ∧ (F6541 13 = upd (F6534 13) p0.toNatClampNeg (11 : Int32)) ∧ (∀ j : Int, (j = p0.toInt ∨ hasO (v6533 19) (F6534 15) (F6534 18) j) → hasO (v6540 19) (F6541 15) (F6541 18) j) := hw
              rw [show v6533 19 = v 19 from hf6535 19 (by decide)] at hw
              have hw_r6539 := hw
              clear hw
              have t6544 : 0 ≤ (v6540 19).toInt ∧ (v6540 19).toInt ≤ 500 := hI.1 19 _ _ rfl
              have k6545 : (11 : Int32).toInt = 11 := by decide
              clear hz1
              generalize H1 = H at hP hS ⊢
              refine lv_aload_n hx hb dX12_swap_92 rfl (lv_at hl 1 rfl) ?_
              refine lv_iload_n hx hb dX12_swap_93 rfl (lv_at hl 3 rfl) ?_
              have t6546 : 0 ≤ (v6540 19).toInt ∧ (v6540 19).toInt ≤ 500 := hI.1 19 _ _ rfl
              refine va_callv (va_runV (As := [.int p1]) (rest := []) ⟨hx, hb, hml, hown, hwd⟩ (c_X12_endStay l dC dI g c adK adV v6540 F6541 rc H.size p1 hg hI (by omega) (JO.at' (JO.go hJ hw_r6532 hw_r6539.2.2 (hw_r6539.2.1.trans (congrArg (fun f => upd f _ _) (hG6536 13 (by decide)))) (by omega)) (i := p1) (by omega) (by omega) (by rw [hw_r6539.2.1, hG6536 13 (by decide)]; exact swq (by decide) (by omega)))) (cwV 1 hwd (gV wk_635 wk_632 wk_633 wk_634 wk_5) rfl rfl rfl (by decide +kernel) ⟨Nat.le_of_ble_eq_true rfl, Nat.le_of_ble_eq_true rfl⟩) ⟨PM.blind, va_recv hK hP (ci := 12) (q0 := 0) rfl rfl, fun U hU hW => ⟨rfl, PM.at hK hE hP hS hU hW⟩⟩ rfl rfl hl.1 rfl (lv_room (Nat.le_of_ble_eq_true rfl)) dX12_swap_94 ⟨Nat.le_of_ble_eq_true rfl, Nat.le_of_ble_eq_true rfl⟩) hS (fun q _ h => (freeM hS) q h) (freeM hS) (fun u t H1 locs ht hvm hw hB hz1 hk1 hS => ?_)
              unfold BM at hB
              rw [ht] at hB
              obtain ⟨v6548, F6549, rc9⟩ := u
              obtain ⟨hI, hrc, hf6550, hG6551, hw⟩ := hw
              dsimp only at hI hrc hB hf6550 hG6551 hw
              have hF := frCF (by decide) hG6551 hF
              rw [hrc] at hB
              have hP : va_P (dC, dI) classes (wM g c v6548 F6549 rc) H1 := hB
              replace hw : ∀ j : Int, j ≠ p1.toInt → hasO (v6540 19) (F6541 15) (F6541 18) j → hasO (v6548 19) (F6549 15) (F6549 18) j := hw
              rw [show v6548 19 = v6540 19 from hf6550 19 (by decide)] at hw
              have hw_r6547 := hw
              clear hw
              have t6552 : 0 ≤ (v6540 19).toInt ∧ (v6540 19).toInt ≤ 500 := by have h9 := hI.1 19 _ _ rfl; rw [show v6548 19 = v6540 19 from hf6550 19 (by decide)] at h9; exact h9
              clear hz1
              generalize H1 = H at hP hS ⊢
              refine lv_aload_n hx hb dX12_swap_97 rfl (lv_at hl 1 rfl) ?_
              refine lv_iload_n hx hb dX12_swap_98 rfl (lv_at hl 3 rfl) ?_
              refine lv_iload_n hx hb dX12_swap_99 rfl (lv_at hl 0 rfl) ?_
              have t6553 : 0 ≤ (v6540 19).toInt ∧ (v6540 19).toInt ≤ 500 := by have h9 := hI.1 19 _ _ rfl; rw [show v6548 19 = v6540 19 from hf6550 19 (by decide)] at h9; exact h9
              refine va_callv (va_runV (As := [.int p1, .int z6528]) (rest := []) ⟨hx, hb, hml, hown, hwd⟩ (c_X12_begin l dC dI g c adK adV v6548 F6549 rc H.size p1 z6528 hg hI (by omega) (by omega) (by have h9 : v6548 19 = v6540 19 := hf6550 19 (by decide); rw [h9]; omega)) (cwV 2 hwd (gV wk_595 wk_592 wk_593 wk_594 wk_5) rfl rfl rfl (by decide +kernel) ⟨Nat.le_of_ble_eq_true rfl, Nat.le_of_ble_eq_true rfl⟩) ⟨PM.blind, va_recv hK hP (ci := 12) (q0 := 0) rfl rfl, fun U hU hW => ⟨rfl, PM.at hK hE hP hS hU hW⟩⟩ rfl rfl hl.1 rfl (lv_room (Nat.le_of_ble_eq_true rfl)) dX12_swap_100 ⟨Nat.le_of_ble_eq_true rfl, Nat.le_of_ble_eq_true rfl⟩) hS (fun q _ h => (freeM hS) q h) (freeM hS) (fun u t H1 locs ht hvm hw hB hz1 hk1 hS => ?_)
              unfold BM at hB
              rw [ht] at hB
              obtain ⟨v6555, F6556, rc9⟩ := u
              obtain ⟨hI, hrc, hf6557, hG6558, hw⟩ := hw
              dsimp only at hI hrc hB hf6557 hG6558 hw
              have hF := frCF (by decide) hG6558 hF
              rw [hrc] at hB
              have hP : va_P (dC, dI) classes (wM g c v6555 F6556 rc) H1 := hB
              replace hw : (v6555 19).toInt = (v6548 19).toInt + 1 ∧ (F6556 13 = upd (F6549 13) p1.toNatClampNeg z6528) ∧ (∀ j : Int, (j = p1.toInt ∨ hasO (v6548 19) (F6549 15) (F6549 18) j) → hasO (v6555 19) (F6556 15) (F6556 18) j) := hw
              rw [show v6548 19 = v6540 19 from hf6550 19 (by decide)] at hw
              have hw_r6554 := hw
              clear hw
              have t6559 : 0 ≤ (v6555 19).toInt ∧ (v6555 19).toInt ≤ 500 := hI.1 19 _ _ rfl
              clear hz1
              generalize H1 = H at hP hS ⊢
              refine lv_iconst (v := 1) hx hb dX12_swap_103 (by decide) ?_
              have hP9 : va_P (dC, dI) classes (wM g c v6555 F6556 rc) H := hP
              exact W.iret (v := 1) hx hb hr (fun t ht hW => ⟨⟨1, (v6555, F6556, rc), rfl, ⟨hI, rfl, (frC (by decide) hf6557 (frC (by decide) hf6550 (frC (by decide) hf6542 (frC (by decide) hf6535 (fun _ _ => rfl))))), hF, (by show JO (v6555 14) (v6555 19) (F6556 13) (F6556 15) (F6556 18); rw [show v6555 14 = v 14 from (hf6557 14 (by decide)).trans ((hf6550 14 (by decide)).trans ((hf6542 14 (by decide)).trans (hf6535 14 (by decide))))]; exact JO.go (JO.go hJ hw_r6532 hw_r6539.2.2 (hw_r6539.2.1.trans (congrArg (fun f => upd f _ _) (hG6536 13 (by decide)))) (by omega)) hw_r6547 hw_r6554.2.2 (hw_r6554.2.1.trans (congrArg (fun f => upd f _ _) (hG6551 13 (by decide)))) (by omega))⟩, (by show va_P _ _ _ t.heap; rw [ht]; exact hP9)⟩, hS.F ht⟩) hS.2.2 dX12_swap_104
            · skip
              have t6560 := cv_nle (a := z6523.toInt) rfl (b := 500) (by decide) c6526
              refine lv_bipush (v := (-3)) hx hb dX12_swap_70 (by decide) ?_
              have hP9 : va_P (dC, dI) classes (wM g c v F rc) H := hP
              exact W.iret (v := (-3)) hx hb hr (fun t ht hW => ⟨⟨(-3), (v, F, rc), rfl, ⟨hI, rfl, (fun _ _ => rfl), hF, hJ⟩, (by show va_P _ _ _ t.heap; rw [ht]; exact hP9)⟩, hS.F ht⟩) hS.2.2 dX12_swap_72
          · skip
            have t6561 := cv_ne (a := z6514.toInt) rfl (b := z6517.toInt) rfl c6520
            refine lv_bipush (v := (-2)) hx hb dX12_swap_55 (by decide) ?_
            have hP9 : va_P (dC, dI) classes (wM g c v F rc) H := hP
            exact W.iret (v := (-2)) hx hb hr (fun t ht hW => ⟨⟨(-2), (v, F, rc), rfl, ⟨hI, rfl, (fun _ _ => rfl), hF, hJ⟩, (by show va_P _ _ _ t.heap; rw [ht]; exact hP9)⟩, hS.F ht⟩) hS.2.2 dX12_swap_57
    · skip
      have t6562 := cv_eq (a := r6499.toInt) rfl (b := 0) (by decide) c6500
      refine lv_iconst (v := (-1)) hx hb dX12_swap_16 (by decide) ?_
      have hP9 : va_P (dC, dI) classes (wM g c v F rc) H := hP
      exact W.iret (v := (-1)) hx hb hr (fun t ht hW => ⟨⟨(-1), (v, F, rc), rfl, ⟨hI, rfl, (fun _ _ => rfl), hF, hJ⟩, (by show va_P _ _ _ t.heap; rw [ht]; exact hP9)⟩, hS.F ht⟩) hS.2.2 dX12_swap_17
