set_option maxHeartbeats 8000000 in
set_option maxRecDepth 100000 in
theorem c_X12_part (l : Launch) (dC : Nat → ClassId) (dI : Nat → Nat → Nat) (g : Nat → Nat) (c : Nat → ClassId) (adK adV : Nat → Nat) (v : Nat → Int32) (F : Nat → Nat → Int32) (rc sz : Nat) (p0 : Int32) (p1 : Int32) (p2 : Int32) (p3 : Int32) (p4 : Int32) (hg : injM g) (hI : IM v F) (hJ : JO (v 14) (v 19) (F 13) (F 15) (F 18)) : Met l yX12_part (Cond.code yX12_part cX12_part 7 (some .int) :: wA) ({ frames := 3, cells := 0, slots := 0, locals := 120 }) (va_Pc [.ref (g 0), .int p0, .int p1, .int p2, .int p3, .int p4] (PM dC dI g c adK adV v F rc sz)) (va_Qi (fun (r : Int32) (u : StM) => IM u.1 u.2.1 ∧ u.2.2 = rc ∧ (∀ k, k ∉ ([14, 19] : List Nat) → u.1 k = v k) ∧ (∀ k, k ∉ ([11, 12, 13, 14, 15, 16, 17, 18, 19, 21, 23] : List Nat) → u.2.1 k = F k) ∧ JO (u.1 14) (u.1 19) (u.2.1 13) (u.2.1 15) (u.2.1 18)) (BM dC dI g c) (AM g sz)) 0 0 (AM g sz) := by
  refine Met.ofW (cc := cX12_part) (maxL := 7) (ret := (some .int)) (by decide) rfl ?_
  intro p e s m args below meth c0 s₁ B hml hv
  obtain ⟨rfl, hsz, hP, hK, hE⟩ := hv
  have hx := B.exec
  have hb := B.bytes
  have hr := B.returns
  have hts := atoms_spec (ws := Cond.code yX12_part cX12_part 7 (some .int) :: wA) B.pre
  have hwd : ∀ w ∈ wA, w.before _ s = true := fun w h => hts w (List.mem_cons_of_mem _ h)
  have hown : s.vm.findClass RX12 = some m.cls := findClass_of_methodNamed B.named
  have hlocks := B.notSynchronized
  subst hsz
  have hl := lv_entry ([.ref (g 0), .int p0, .int p1, .int p2, .int p3, .int p4]) (n := 7) (Nat.le_of_ble_eq_true rfl)
  rw [lg_entry_eq]
  generalize (lg_sl ([.ref (g 0), .int p0, .int p1, .int p2, .int p3, .int p4]) ++ List.replicate (7 - (lg_sl ([.ref (g 0), .int p0, .int p1, .int p2, .int p3, .int p4])).length) Slot.unset).toArray = ls at hl ⊢
  have hl : lv_has ls 7 [(0, .ref (g 0)), (1, .int p0), (2, .int p1), (3, .int p2), (4, .int p3), (5, .int p4)] := hl
  obtain ⟨H, eH⟩ : ∃ z, z = s.heap := ⟨_, rfl⟩
  have hP : va_P (dC, dI) classes (wM g c v F rc) H := by rw [eH]; exact hP
  have hS : va_S (AM g s.heap.size) s.heap H [] := by rw [eH]; exact va_S.rf
  refine my_heap eH ?_
  have hF : ∀ k, k ∉ ([11, 12, 13, 14, 15, 16, 17, 18, 19, 21, 23] : List Nat) → F k = F k := fun _ _ => rfl
  have rp0 := i32_rng p0
  have rp1 := i32_rng p1
  have rp2 := i32_rng p2
  have rp3 := i32_rng p3
  have rp4 := i32_rng p4
  have hb14 : 0 ≤ (v 14).toInt ∧ (v 14).toInt ≤ 100 := hI.1 14 _ _ rfl
  have hb19 : 0 ≤ (v 19).toInt ∧ (v 19).toInt ≤ 500 := hI.1 19 _ _ rfl
  refine lv_aload_n hx hb dX12_part_0 rfl (lv_at hl 0 rfl) ?_
  refine lv_iload_n hx hb dX12_part_1 rfl (lv_at hl 1 rfl) ?_
  have t6116 : 0 ≤ (v 2).toInt ∧ (v 2).toInt ≤ 10 := hI.1 2 _ _ rfl
  refine va_calli (va_runV (As := [.int p0]) (rest := []) ⟨hx, hb, hml, hown, hwd⟩ (c_X12_isKind l dC dI g c adK adV v F rc H.size p0 hg hI ) (cwV 1 hwd (gV wk_309 wk_306 wk_307 wk_308 wk_5) rfl rfl rfl (by decide +kernel) ⟨Nat.le_of_ble_eq_true rfl, Nat.le_of_ble_eq_true rfl⟩) ⟨PM.blind, va_recv hK hP (ci := 12) (q0 := 0) rfl rfl, fun U hU hW => ⟨rfl, PM.at hK hE hP hS hU hW⟩⟩ rfl rfl hl.1 rfl (lv_room (Nat.le_of_ble_eq_true rfl)) dX12_part_2 ⟨Nat.le_of_ble_eq_true rfl, Nat.le_of_ble_eq_true rfl⟩) hS (fun q _ h => (freeM hS) q h) (freeM hS) (fun r6117 u t H1 locs ht hvm hw hB hz1 hk1 hS => ?_)
  unfold BM at hB
  rw [ht] at hB
  have hP : va_P (dC, dI) classes (wM g c v F rc) H1 := hB
  replace hw : (r6117.toInt = 1 ∧ 0 ≤ p0.toInt ∧ p0.toInt < (v 2).toInt) ∨ (r6117.toInt = 0 ∧ (p0.toInt < 0 ∨ (v 2).toInt ≤ p0.toInt)) := hw
  have hw_r6117 := hw
  clear hw
  clear hz1
  generalize H1 = H at hP hS ⊢
  refine lv_if_eq (tgt := 50) hx hb dX12_part_5 (by decide) (fun c6118 => ?_) (fun c6118 => ?_)
  · skip
    have t6119 := cv_eq (a := r6117.toInt) rfl (b := 0) (by decide) c6118
    refine lv_iconst (v := (-1)) hx hb dX12_part_50 (by decide) ?_
    have hP9 : va_P (dC, dI) classes (wM g c v F rc) H := hP
    exact W.iret (v := (-1)) hx hb hr (fun t ht hW => ⟨⟨(-1), (v, F, rc), rfl, ⟨hI, rfl, (fun _ _ => rfl), hF, hJ⟩, (by show va_P _ _ _ t.heap; rw [ht]; exact hP9)⟩, hS.F ht⟩) hS.2.2 dX12_part_51
  · skip
    have t6120 := cv_ne (a := r6117.toInt) rfl (b := 0) (by decide) c6118
    refine lv_iload_n hx hb dX12_part_8 rfl (lv_at hl 2 rfl) ?_
    refine lv_iconst (v := 1) hx hb dX12_part_9 (by decide) ?_
    refine lv_ldc (v := 99999) hx hb hown (hwd _ wk_249) dX12_part_10 ?_
    refine va_calli (va_runS (As := [.int p1, .int 1, .int 99999]) (rest := []) ⟨hx, hb, hml, hown, hwd⟩ (c_X12_in l dC dI g c adK adV v F rc H.size p1 1 99999 hg hI ) (va_cwS 3 hwd (gT wk_254 wk_252 wk_253 wk_5) rfl rfl rfl (by decide +kernel) ⟨Nat.le_of_ble_eq_true rfl, Nat.le_of_ble_eq_true rfl⟩) ⟨PM.blind, fun U hU hW => ⟨rfl, PM.at hK hE hP hS hU hW⟩⟩ rfl rfl hl.1 rfl (lv_room (Nat.le_of_ble_eq_true rfl)) dX12_part_12 ⟨Nat.le_of_ble_eq_true rfl, Nat.le_of_ble_eq_true rfl⟩) hS (fun q _ h => (freeM hS) q h) (freeM hS) (fun r6121 u t H1 locs ht hvm hw hB hz1 hk1 hS => ?_)
    unfold BM at hB
    rw [ht] at hB
    have hP : va_P (dC, dI) classes (wM g c v F rc) H1 := hB
    have hw_r6121 : (r6121.toInt = 1 ∧ (1 : Int32).toInt ≤ p1.toInt ∧ p1.toInt ≤ (99999 : Int32).toInt) ∨ (r6121.toInt = 0 ∧ (p1.toInt < (1 : Int32).toInt ∨ (99999 : Int32).toInt < p1.toInt)) := hw
    clear hw
    have k6122 : (1 : Int32).toInt = 1 := by decide
    have k6123 : (99999 : Int32).toInt = 99999 := by decide
    clear hz1
    generalize H1 = H at hP hS ⊢
    refine lv_if_eq (tgt := 50) hx hb dX12_part_15 (by decide) (fun c6124 => ?_) (fun c6124 => ?_)
    · skip
      have t6125 := cv_eq (a := r6121.toInt) rfl (b := 0) (by decide) c6124
      refine lv_iconst (v := (-1)) hx hb dX12_part_50 (by decide) ?_
      have hP9 : va_P (dC, dI) classes (wM g c v F rc) H := hP
      exact W.iret (v := (-1)) hx hb hr (fun t ht hW => ⟨⟨(-1), (v, F, rc), rfl, ⟨hI, rfl, (fun _ _ => rfl), hF, hJ⟩, (by show va_P _ _ _ t.heap; rw [ht]; exact hP9)⟩, hS.F ht⟩) hS.2.2 dX12_part_51
    · skip
      have t6126 := cv_ne (a := r6121.toInt) rfl (b := 0) (by decide) c6124
      refine lv_iload_n hx hb dX12_part_18 rfl (lv_at hl 3 rfl) ?_
      refine lv_iconst (v := 0) hx hb dX12_part_19 (by decide) ?_
      refine lv_ldc (v := 99999) hx hb hown (hwd _ wk_249) dX12_part_20 ?_
      refine va_calli (va_runS (As := [.int p2, .int 0, .int 99999]) (rest := []) ⟨hx, hb, hml, hown, hwd⟩ (c_X12_in l dC dI g c adK adV v F rc H.size p2 0 99999 hg hI ) (va_cwS 3 hwd (gT wk_254 wk_252 wk_253 wk_5) rfl rfl rfl (by decide +kernel) ⟨Nat.le_of_ble_eq_true rfl, Nat.le_of_ble_eq_true rfl⟩) ⟨PM.blind, fun U hU hW => ⟨rfl, PM.at hK hE hP hS hU hW⟩⟩ rfl rfl hl.1 rfl (lv_room (Nat.le_of_ble_eq_true rfl)) dX12_part_22 ⟨Nat.le_of_ble_eq_true rfl, Nat.le_of_ble_eq_true rfl⟩) hS (fun q _ h => (freeM hS) q h) (freeM hS) (fun r6127 u t H1 locs ht hvm hw hB hz1 hk1 hS => ?_)
      unfold BM at hB
      rw [ht] at hB
      have hP : va_P (dC, dI) classes (wM g c v F rc) H1 := hB
      have hw_r6127 : (r6127.toInt = 1 ∧ (0 : Int32).toInt ≤ p2.toInt ∧ p2.toInt ≤ (99999 : Int32).toInt) ∨ (r6127.toInt = 0 ∧ (p2.toInt < (0 : Int32).toInt ∨ (99999 : Int32).toInt < p2.toInt)) := hw
      clear hw
      have k6128 : (0 : Int32).toInt = 0 := by decide
      have k6129 : (99999 : Int32).toInt = 99999 := by decide
      clear hz1
      generalize H1 = H at hP hS ⊢
      refine lv_if_eq (tgt := 50) hx hb dX12_part_25 (by decide) (fun c6130 => ?_) (fun c6130 => ?_)
      · skip
        have t6131 := cv_eq (a := r6127.toInt) rfl (b := 0) (by decide) c6130
        refine lv_iconst (v := (-1)) hx hb dX12_part_50 (by decide) ?_
        have hP9 : va_P (dC, dI) classes (wM g c v F rc) H := hP
        exact W.iret (v := (-1)) hx hb hr (fun t ht hW => ⟨⟨(-1), (v, F, rc), rfl, ⟨hI, rfl, (fun _ _ => rfl), hF, hJ⟩, (by show va_P _ _ _ t.heap; rw [ht]; exact hP9)⟩, hS.F ht⟩) hS.2.2 dX12_part_51
      · skip
        have t6132 := cv_ne (a := r6127.toInt) rfl (b := 0) (by decide) c6130
        refine lv_iload hx hb dX12_part_28 (lv_at hl 4 rfl) ?_
        refine lv_iconst (v := 0) hx hb dX12_part_30 (by decide) ?_
        refine lv_ldc (v := 99999) hx hb hown (hwd _ wk_249) dX12_part_31 ?_
        refine va_calli (va_runS (As := [.int p3, .int 0, .int 99999]) (rest := []) ⟨hx, hb, hml, hown, hwd⟩ (c_X12_in l dC dI g c adK adV v F rc H.size p3 0 99999 hg hI ) (va_cwS 3 hwd (gT wk_254 wk_252 wk_253 wk_5) rfl rfl rfl (by decide +kernel) ⟨Nat.le_of_ble_eq_true rfl, Nat.le_of_ble_eq_true rfl⟩) ⟨PM.blind, fun U hU hW => ⟨rfl, PM.at hK hE hP hS hU hW⟩⟩ rfl rfl hl.1 rfl (lv_room (Nat.le_of_ble_eq_true rfl)) dX12_part_33 ⟨Nat.le_of_ble_eq_true rfl, Nat.le_of_ble_eq_true rfl⟩) hS (fun q _ h => (freeM hS) q h) (freeM hS) (fun r6133 u t H1 locs ht hvm hw hB hz1 hk1 hS => ?_)
        unfold BM at hB
        rw [ht] at hB
        have hP : va_P (dC, dI) classes (wM g c v F rc) H1 := hB
        have hw_r6133 : (r6133.toInt = 1 ∧ (0 : Int32).toInt ≤ p3.toInt ∧ p3.toInt ≤ (99999 : Int32).toInt) ∨ (r6133.toInt = 0 ∧ (p3.toInt < (0 : Int32).toInt ∨ (99999 : Int32).toInt < p3.toInt)) := hw
        clear hw
        have k6134 : (0 : Int32).toInt = 0 := by decide
        have k6135 : (99999 : Int32).toInt = 99999 := by decide
        clear hz1
        generalize H1 = H at hP hS ⊢
        refine lv_if_eq (tgt := 50) hx hb dX12_part_36 (by decide) (fun c6136 => ?_) (fun c6136 => ?_)
        · skip
          have t6137 := cv_eq (a := r6133.toInt) rfl (b := 0) (by decide) c6136
          refine lv_iconst (v := (-1)) hx hb dX12_part_50 (by decide) ?_
          have hP9 : va_P (dC, dI) classes (wM g c v F rc) H := hP
          exact W.iret (v := (-1)) hx hb hr (fun t ht hW => ⟨⟨(-1), (v, F, rc), rfl, ⟨hI, rfl, (fun _ _ => rfl), hF, hJ⟩, (by show va_P _ _ _ t.heap; rw [ht]; exact hP9)⟩, hS.F ht⟩) hS.2.2 dX12_part_51
        · skip
          have t6138 := cv_ne (a := r6133.toInt) rfl (b := 0) (by decide) c6136
          refine lv_iload hx hb dX12_part_39 (lv_at hl 5 rfl) ?_
          refine lv_iconst (v := 0) hx hb dX12_part_41 (by decide) ?_
          refine lv_ldc (v := 99999) hx hb hown (hwd _ wk_249) dX12_part_42 ?_
          refine va_calli (va_runS (As := [.int p4, .int 0, .int 99999]) (rest := []) ⟨hx, hb, hml, hown, hwd⟩ (c_X12_in l dC dI g c adK adV v F rc H.size p4 0 99999 hg hI ) (va_cwS 3 hwd (gT wk_254 wk_252 wk_253 wk_5) rfl rfl rfl (by decide +kernel) ⟨Nat.le_of_ble_eq_true rfl, Nat.le_of_ble_eq_true rfl⟩) ⟨PM.blind, fun U hU hW => ⟨rfl, PM.at hK hE hP hS hU hW⟩⟩ rfl rfl hl.1 rfl (lv_room (Nat.le_of_ble_eq_true rfl)) dX12_part_44 ⟨Nat.le_of_ble_eq_true rfl, Nat.le_of_ble_eq_true rfl⟩) hS (fun q _ h => (freeM hS) q h) (freeM hS) (fun r6139 u t H1 locs ht hvm hw hB hz1 hk1 hS => ?_)
          unfold BM at hB
          rw [ht] at hB
          have hP : va_P (dC, dI) classes (wM g c v F rc) H1 := hB
          have hw_r6139 : (r6139.toInt = 1 ∧ (0 : Int32).toInt ≤ p4.toInt ∧ p4.toInt ≤ (99999 : Int32).toInt) ∨ (r6139.toInt = 0 ∧ (p4.toInt < (0 : Int32).toInt ∨ (99999 : Int32).toInt < p4.toInt)) := hw
          clear hw
          have k6140 : (0 : Int32).toInt = 0 := by decide
          have k6141 : (99999 : Int32).toInt = 99999 := by decide
          clear hz1
          generalize H1 = H at hP hS ⊢
          refine lv_if_ne (tgt := 52) hx hb dX12_part_47 (by decide) (fun c6142 => ?_) (fun c6142 => ?_)
          · skip
            have t6143 := cv_ne (a := r6139.toInt) rfl (b := 0) (by decide) c6142
            refine lv_aload_n hx hb dX12_part_52 rfl (lv_at hl 0 rfl) ?_
            refine va_get (D := (dC, dI)) (ci := 12) (v := .int (v 14)) (C := RX12) (T := TX12) (N := 63) hx hb hwd inA_X12 hown hK hP 0 rfl rfl 14 (by decide) (hwd _ wk_318) (fun _ h9 => h9) rfl dX12_part_53 ?_
            have t6144 : 0 ≤ (v 14).toInt ∧ (v 14).toInt ≤ 100 := hI.1 14 _ _ rfl
            refine lv_bipush (v := 100) hx hb dX12_part_56 (by decide) ?_
            refine lv_icmp_eq (tgt := 71) hx hb dX12_part_58 (by decide) (fun c6145 => ?_) (fun c6145 => ?_)
            · skip
              have t6146 := cv_eq (a := (v 14).toInt) rfl (b := 100) (by decide) c6145
              refine lv_bipush (v := (-3)) hx hb dX12_part_71 (by decide) ?_
              have hP9 : va_P (dC, dI) classes (wM g c v F rc) H := hP
              exact W.iret (v := (-3)) hx hb hr (fun t ht hW => ⟨⟨(-3), (v, F, rc), rfl, ⟨hI, rfl, (fun _ _ => rfl), hF, hJ⟩, (by show va_P _ _ _ t.heap; rw [ht]; exact hP9)⟩, hS.F ht⟩) hS.2.2 dX12_part_73
            · skip
              have t6147 := cv_ne (a := (v 14).toInt) rfl (b := 100) (by decide) c6145
              refine lv_aload_n hx hb dX12_part_61 rfl (lv_at hl 0 rfl) ?_
              refine va_get (D := (dC, dI)) (ci := 12) (v := .int (v 19)) (C := RX12) (T := TX12) (N := 63) hx hb hwd inA_X12 hown hK hP 0 rfl rfl 19 (by decide) (hwd _ wk_494) (fun _ h9 => h9) rfl dX12_part_62 ?_
              have t6148 : 0 ≤ (v 19).toInt ∧ (v 19).toInt ≤ 500 := hI.1 19 _ _ rfl
              refine lv_sipush (v := 500) hx hb dX12_part_65 (by decide) ?_
              refine lv_icmp_ne (tgt := 74) hx hb dX12_part_68 (by decide) (fun c6149 => ?_) (fun c6149 => ?_)
              · skip
                have t6150 := cv_ne (a := (v 19).toInt) rfl (b := 500) (by decide) c6149
                refine lv_aload_n hx hb dX12_part_74 rfl (lv_at hl 0 rfl) ?_
                refine va_get (D := (dC, dI)) (ci := 12) (v := .int (v 14)) (C := RX12) (T := TX12) (N := 63) hx hb hwd inA_X12 hown hK hP 0 rfl rfl 14 (by decide) (hwd _ wk_318) (fun _ h9 => h9) rfl dX12_part_75 ?_
                have t6151 : 0 ≤ (v 14).toInt ∧ (v 14).toInt ≤ 100 := hI.1 14 _ _ rfl
                refine lv_istore (lv' := [(6, .int (v 14)), (0, .ref (g 0)), (1, .int p0), (2, .int p1), (3, .int p2), (4, .int p3), (5, .int p4)]) hx hb dX12_part_78 hl (by decide) rfl (fun ls hl => ?_)
                refine lv_aload_n hx hb dX12_part_80 rfl (lv_at hl 1 rfl) ?_
                refine va_get (D := (dC, dI)) (ci := 12) (v := .ref (g 11)) (C := RX12) (T := TX12) (N := 63) hx hb hwd inA_X12 hown hK hP 0 rfl rfl 15 (by decide) (hwd _ wk_192) (fun _ h9 => h9) rfl dX12_part_81 ?_
                refine lv_iload hx hb dX12_part_84 (lv_at hl 0 rfl) ?_
                refine lv_iload_n hx hb dX12_part_86 rfl (lv_at hl 2 rfl) ?_
                refine va_iast hx hb hK hP (DM hg) hS 11 10 rfl rfl (i := (v 14)) (x := p0) (vin (a := (v 14).toInt) rfl (by omega)) dX12_part_87 (fun H locs hP _ hS => ?_)
                have hP := va_P_eq (sM_11 g c _ _ _ _) hP
                have hI := IM.store hI 11 (v 14 : Int32).toNatClampNeg p0 rfl (by omega)
                have hF := frUF (k := 11) (f := upd (F 11) (v 14 : Int32).toNatClampNeg p0) (by decide) hF
                have st6153 : (va_up F 11 (upd (F 11) (v 14 : Int32).toNatClampNeg p0)) 11 = upd (F 11) (v 14 : Int32).toNatClampNeg p0 := va_up_self _ _ _
                have sn6154 : ∀ k9, k9 ≠ 11 → (va_up F 11 (upd (F 11) (v 14 : Int32).toNatClampNeg p0)) k9 = F k9 := fun k9 h9 => va_up_ne _ _ h9
                have hP : va_P (dC, dI) classes (wM g c v (va_up F 11 (upd (F 11) (v 14 : Int32).toNatClampNeg p0)) rc) H := hP
                generalize (va_up F 11 (upd (F 11) (v 14 : Int32).toNatClampNeg p0)) = F6152 at hP hI hF st6153 sn6154
                refine lv_aload_n hx hb dX12_part_88 rfl (lv_at hl 1 rfl) ?_
                refine va_get (D := (dC, dI)) (ci := 12) (v := .ref (g 12)) (C := RX12) (T := TX12) (N := 63) hx hb hwd inA_X12 hown hK hP 0 rfl rfl 16 (by decide) (hwd _ wk_193) (fun _ h9 => h9) rfl dX12_part_89 ?_
                refine lv_iload hx hb dX12_part_92 (lv_at hl 0 rfl) ?_
                refine lv_iload_n hx hb dX12_part_94 rfl (lv_at hl 3 rfl) ?_
                refine va_iast hx hb hK hP (DM hg) hS 12 11 rfl rfl (i := (v 14)) (x := p1) (vin (a := (v 14).toInt) rfl (by omega)) dX12_part_95 (fun H locs hP _ hS => ?_)
                have hP := va_P_eq (sM_12 g c _ _ _ _) hP
                have hI := IM.store0 hI 12 (v 14 : Int32).toNatClampNeg p1 rfl
                have hF := frUF (k := 12) (f := upd (F6152 12) (v 14 : Int32).toNatClampNeg p1) (by decide) hF
                have st6156 : (va_up F6152 12 (upd (F6152 12) (v 14 : Int32).toNatClampNeg p1)) 12 = upd (F6152 12) (v 14 : Int32).toNatClampNeg p1 := va_up_self _ _ _
                have sn6157 : ∀ k9, k9 ≠ 12 → (va_up F6152 12 (upd (F6152 12) (v 14 : Int32).toNatClampNeg p1)) k9 = F6152 k9 := fun k9 h9 => va_up_ne _ _ h9
                have hP : va_P (dC, dI) classes (wM g c v (va_up F6152 12 (upd (F6152 12) (v 14 : Int32).toNatClampNeg p1)) rc) H := hP
                generalize (va_up F6152 12 (upd (F6152 12) (v 14 : Int32).toNatClampNeg p1)) = F6155 at hP hI hF st6156 sn6157
                refine lv_aload_n hx hb dX12_part_96 rfl (lv_at hl 1 rfl) ?_
                refine va_get (D := (dC, dI)) (ci := 12) (v := .ref (g 14)) (C := RX12) (T := TX12) (N := 63) hx hb hwd inA_X12 hown hK hP 0 rfl rfl 18 (by decide) (hwd _ wk_195) (fun _ h9 => h9) rfl dX12_part_97 ?_
                refine lv_iconst (v := 3) hx hb dX12_part_100 (by decide) ?_
                refine lv_iload hx hb dX12_part_101 (lv_at hl 0 rfl) ?_
                refine lv_imul hx hb dX12_part_103 ?_
                refine lv_topi (fun z6158 e6159 => ?_)
                try (have t6160 := tmul e6159 (a := 3) (by decide) (b := (v 14).toInt) rfl (by omega))
                refine lv_iload_n hx hb dX12_part_104 rfl (lv_at hl 4 rfl) ?_
                refine va_iast hx hb hK hP (DM hg) hS 14 13 rfl rfl (i := z6158) (x := p2) (vin (a := z6158.toInt) rfl (by omega)) dX12_part_105 (fun H locs hP _ hS => ?_)
                have hP := va_P_eq (sM_14 g c _ _ _ _) hP
                have hI := IM.store0 hI 14 (z6158 : Int32).toNatClampNeg p2 rfl
                have hF := frUF (k := 14) (f := upd (F6155 14) (z6158 : Int32).toNatClampNeg p2) (by decide) hF
                have st6162 : (va_up F6155 14 (upd (F6155 14) (z6158 : Int32).toNatClampNeg p2)) 14 = upd (F6155 14) (z6158 : Int32).toNatClampNeg p2 := va_up_self _ _ _
                have sn6163 : ∀ k9, k9 ≠ 14 → (va_up F6155 14 (upd (F6155 14) (z6158 : Int32).toNatClampNeg p2)) k9 = F6155 k9 := fun k9 h9 => va_up_ne _ _ h9
                have hP : va_P (dC, dI) classes (wM g c v (va_up F6155 14 (upd (F6155 14) (z6158 : Int32).toNatClampNeg p2)) rc) H := hP
                generalize (va_up F6155 14 (upd (F6155 14) (z6158 : Int32).toNatClampNeg p2)) = F6161 at hP hI hF st6162 sn6163
                refine lv_aload_n hx hb dX12_part_106 rfl (lv_at hl 1 rfl) ?_
                refine va_get (D := (dC, dI)) (ci := 12) (v := .ref (g 14)) (C := RX12) (T := TX12) (N := 63) hx hb hwd inA_X12 hown hK hP 0 rfl rfl 18 (by decide) (hwd _ wk_195) (fun _ h9 => h9) rfl dX12_part_107 ?_
                refine lv_iconst (v := 3) hx hb dX12_part_110 (by decide) ?_
                refine lv_iload hx hb dX12_part_111 (lv_at hl 0 rfl) ?_
                refine lv_imul hx hb dX12_part_113 ?_
                refine lv_topi (fun z6164 e6165 => ?_)
                try (have t6166 := tmul e6165 (a := 3) (by decide) (b := (v 14).toInt) rfl (by omega))
                refine lv_iconst (v := 1) hx hb dX12_part_114 (by decide) ?_
                refine lv_iadd hx hb dX12_part_115 ?_
                refine lv_topi (fun z6167 e6168 => ?_)
                try (have t6169 := tadd e6168 (a := z6164.toInt) rfl (b := 1) (by decide) (by omega))
                refine lv_iload hx hb dX12_part_116 (lv_at hl 5 rfl) ?_
                refine va_iast hx hb hK hP (DM hg) hS 14 13 rfl rfl (i := z6167) (x := p3) (vin (a := z6167.toInt) rfl (by omega)) dX12_part_118 (fun H locs hP _ hS => ?_)
                have hP := va_P_eq (sM_14 g c _ _ _ _) hP
                have hI := IM.store0 hI 14 (z6167 : Int32).toNatClampNeg p3 rfl
                have hF := frUF (k := 14) (f := upd (F6161 14) (z6167 : Int32).toNatClampNeg p3) (by decide) hF
                have st6171 : (va_up F6161 14 (upd (F6161 14) (z6167 : Int32).toNatClampNeg p3)) 14 = upd (F6161 14) (z6167 : Int32).toNatClampNeg p3 := va_up_self _ _ _
                have sn6172 : ∀ k9, k9 ≠ 14 → (va_up F6161 14 (upd (F6161 14) (z6167 : Int32).toNatClampNeg p3)) k9 = F6161 k9 := fun k9 h9 => va_up_ne _ _ h9
                have hP : va_P (dC, dI) classes (wM g c v (va_up F6161 14 (upd (F6161 14) (z6167 : Int32).toNatClampNeg p3)) rc) H := hP
                generalize (va_up F6161 14 (upd (F6161 14) (z6167 : Int32).toNatClampNeg p3)) = F6170 at hP hI hF st6171 sn6172
                refine lv_aload_n hx hb dX12_part_119 rfl (lv_at hl 1 rfl) ?_
                refine va_get (D := (dC, dI)) (ci := 12) (v := .ref (g 14)) (C := RX12) (T := TX12) (N := 63) hx hb hwd inA_X12 hown hK hP 0 rfl rfl 18 (by decide) (hwd _ wk_195) (fun _ h9 => h9) rfl dX12_part_120 ?_
                refine lv_iconst (v := 3) hx hb dX12_part_123 (by decide) ?_
                refine lv_iload hx hb dX12_part_124 (lv_at hl 0 rfl) ?_
                refine lv_imul hx hb dX12_part_126 ?_
                refine lv_topi (fun z6173 e6174 => ?_)
                try (have t6175 := tmul e6174 (a := 3) (by decide) (b := (v 14).toInt) rfl (by omega))
                refine lv_iconst (v := 2) hx hb dX12_part_127 (by decide) ?_
                refine lv_iadd hx hb dX12_part_128 ?_
                refine lv_topi (fun z6176 e6177 => ?_)
                try (have t6178 := tadd e6177 (a := z6173.toInt) rfl (b := 2) (by decide) (by omega))
                refine lv_iload hx hb dX12_part_129 (lv_at hl 6 rfl) ?_
                refine va_iast hx hb hK hP (DM hg) hS 14 13 rfl rfl (i := z6176) (x := p4) (vin (a := z6176.toInt) rfl (by omega)) dX12_part_131 (fun H locs hP _ hS => ?_)
                have hP := va_P_eq (sM_14 g c _ _ _ _) hP
                have hI := IM.store0 hI 14 (z6176 : Int32).toNatClampNeg p4 rfl
                have hF := frUF (k := 14) (f := upd (F6170 14) (z6176 : Int32).toNatClampNeg p4) (by decide) hF
                have st6180 : (va_up F6170 14 (upd (F6170 14) (z6176 : Int32).toNatClampNeg p4)) 14 = upd (F6170 14) (z6176 : Int32).toNatClampNeg p4 := va_up_self _ _ _
                have sn6181 : ∀ k9, k9 ≠ 14 → (va_up F6170 14 (upd (F6170 14) (z6176 : Int32).toNatClampNeg p4)) k9 = F6170 k9 := fun k9 h9 => va_up_ne _ _ h9
                have hP : va_P (dC, dI) classes (wM g c v (va_up F6170 14 (upd (F6170 14) (z6176 : Int32).toNatClampNeg p4)) rc) H := hP
                generalize (va_up F6170 14 (upd (F6170 14) (z6176 : Int32).toNatClampNeg p4)) = F6179 at hP hI hF st6180 sn6181
                refine lv_aload_n hx hb dX12_part_132 rfl (lv_at hl 1 rfl) ?_
                refine lv_dup hx hb dX12_part_133 rfl ?_
                refine va_get (D := (dC, dI)) (ci := 12) (v := .int (v 14)) (C := RX12) (T := TX12) (N := 63) hx hb hwd inA_X12 hown hK hP 0 rfl rfl 14 (by decide) (hwd _ wk_318) (fun _ h9 => h9) rfl dX12_part_134 ?_
                have t6182 : 0 ≤ (v 14).toInt ∧ (v 14).toInt ≤ 100 := hI.1 14 _ _ rfl
                refine lv_iconst (v := 1) hx hb dX12_part_137 (by decide) ?_
                refine lv_iadd hx hb dX12_part_138 ?_
                refine lv_topi (fun z6183 e6184 => ?_)
                try (have t6185 := tadd e6184 (a := (v 14).toInt) rfl (b := 1) (by decide) (by omega))
                refine va_put (D := (dC, dI)) (ci := 12) (v := .int z6183) (ty := .int) (C := RX12) (T := TX12) (N := 63) (fs := fsM_0 g v rc) hx hb hwd inA_X12 tyX12 tyX12_ok nmX12 hown hK hP (DM hg) hS 0 rfl rfl 14 (by decide) (hwd _ wk_318) (fun _ h9 => h9) rfl (by decide +kernel) rfl rfl (Nat.le_of_ble_eq_true rfl) dX12_part_139 (fun H locs hP _ hS => ?_)
                have hP := va_P_eq (pM_14 g c _ _ _ _) hP
                have hI := IM.put hI 14 z6183 rfl (by omega)
                refine lv_aload_n hx hb dX12_part_142 rfl (lv_at hl 1 rfl) ?_
                refine lv_iload hx hb dX12_part_143 (lv_at hl 0 rfl) ?_
                refine lv_bipush (v := 11) hx hb dX12_part_145 (by decide) ?_
                have t6186 : 0 ≤ (v 19).toInt ∧ (v 19).toInt ≤ 500 := hI.1 19 _ _ rfl
                refine va_callv (va_runV (As := [.int (v 14), .int 11]) (rest := []) ⟨hx, hb, hml, hown, hwd⟩ (c_X12_begin l dC dI g c adK adV (va_up v 14 z6183) F6179 rc H.size (v 14) 11 hg hI (by omega) (by have : (11 : Int32).toInt = 11 := (by decide); omega) (by have h9 : (va_up v 14 z6183) 19 = v 19 := rfl; rw [h9]; omega)) (cwV 2 hwd (gV wk_595 wk_592 wk_593 wk_594 wk_5) rfl rfl rfl (by decide +kernel) ⟨Nat.le_of_ble_eq_true rfl, Nat.le_of_ble_eq_true rfl⟩) ⟨PM.blind, va_recv hK hP (ci := 12) (q0 := 0) rfl rfl, fun U hU hW => ⟨rfl, PM.at hK hE hP hS hU hW⟩⟩ rfl rfl hl.1 rfl (lv_room (Nat.le_of_ble_eq_true rfl)) dX12_part_147 ⟨Nat.le_of_ble_eq_true rfl, Nat.le_of_ble_eq_true rfl⟩) hS (fun q _ h => (freeM hS) q h) (freeM hS) (fun u t H1 locs ht hvm hw hB hz1 hk1 hS => ?_)
                unfold BM at hB
                rw [ht] at hB
                obtain ⟨v6188, F6189, rc9⟩ := u
                obtain ⟨hI, hrc, hf6190, hG6191, hw⟩ := hw
                dsimp only at hI hrc hB hf6190 hG6191 hw
                have hF := frCF (by decide) hG6191 hF
                rw [hrc] at hB
                have hP : va_P (dC, dI) classes (wM g c v6188 F6189 rc) H1 := hB
                replace hw : (v6188 19).toInt = (v 19).toInt + 1 ∧ (F6189 13 = upd (F6179 13) (v 14).toNatClampNeg (11 : Int32)) ∧ (∀ j : Int, (j = (v 14).toInt ∨ hasO (v 19) (F6179 15) (F6179 18) j) → hasO (v6188 19) (F6189 15) (F6189 18) j) := hw
                have hw_r6187 := hw
                clear hw
                have t6192 : 0 ≤ (v6188 19).toInt ∧ (v6188 19).toInt ≤ 500 := hI.1 19 _ _ rfl
                have k6193 : (11 : Int32).toInt = 11 := by decide
                clear hz1
                generalize H1 = H at hP hS ⊢
                refine lv_iload hx hb dX12_part_150 (lv_at hl 0 rfl) ?_
                have hP9 : va_P (dC, dI) classes (wM g c v6188 F6189 rc) H := hP
                exact W.iret (v := v 14) hx hb hr (fun t ht hW => ⟨⟨(v 14), (v6188, F6189, rc), rfl, ⟨hI, rfl, (frC (by decide) hf6190 (frU (by decide) (fun _ _ => rfl))), hF, (by have q9 := hw_r6187; rw [show F6179 13 = F 13 from ((sn6181 13 (by decide)).trans ((sn6172 13 (by decide)).trans ((sn6163 13 (by decide)).trans ((sn6157 13 (by decide)).trans (sn6154 13 (by decide)))))), show F6179 15 = F 15 from ((sn6181 15 (by decide)).trans ((sn6172 15 (by decide)).trans ((sn6163 15 (by decide)).trans ((sn6157 15 (by decide)).trans (sn6154 15 (by decide)))))), show F6179 18 = F 18 from ((sn6181 18 (by decide)).trans ((sn6172 18 (by decide)).trans ((sn6163 18 (by decide)).trans ((sn6157 18 (by decide)).trans (sn6154 18 (by decide))))))] at q9; show JO (v6188 14) (v6188 19) (F6189 13) (F6189 15) (F6189 18); rw [show v6188 14 = z6183 from hf6190 14 (by decide)]; exact JO.new hJ (by omega) rfl (by omega) q9.2.2 q9.2.1)⟩, (by show va_P _ _ _ t.heap; rw [ht]; exact hP9)⟩, hS.F ht⟩) hS.2.2 dX12_part_152
              · skip
                have t6194 := cv_eq (a := (v 19).toInt) rfl (b := 500) (by decide) c6149
                refine lv_bipush (v := (-3)) hx hb dX12_part_71 (by decide) ?_
                have hP9 : va_P (dC, dI) classes (wM g c v F rc) H := hP
                exact W.iret (v := (-3)) hx hb hr (fun t ht hW => ⟨⟨(-3), (v, F, rc), rfl, ⟨hI, rfl, (fun _ _ => rfl), hF, hJ⟩, (by show va_P _ _ _ t.heap; rw [ht]; exact hP9)⟩, hS.F ht⟩) hS.2.2 dX12_part_73
          · skip
            have t6195 := cv_eq (a := r6139.toInt) rfl (b := 0) (by decide) c6142
            refine lv_iconst (v := (-1)) hx hb dX12_part_50 (by decide) ?_
            have hP9 : va_P (dC, dI) classes (wM g c v F rc) H := hP
            exact W.iret (v := (-1)) hx hb hr (fun t ht hW => ⟨⟨(-1), (v, F, rc), rfl, ⟨hI, rfl, (fun _ _ => rfl), hF, hJ⟩, (by show va_P _ _ _ t.heap; rw [ht]; exact hP9)⟩, hS.F ht⟩) hS.2.2 dX12_part_51
set_option maxHeartbeats 8000000 in
set_option maxRecDepth 100000 in
theorem c_X12_move (l : Launch) (dC : Nat → ClassId) (dI : Nat → Nat → Nat) (g : Nat → Nat) (c : Nat → ClassId) (adK adV : Nat → Nat) (v : Nat → Int32) (F : Nat → Nat → Int32) (rc sz : Nat) (p0 : Int32) (p1 : Int32) (hg : injM g) (hI : IM v F) (hJ : JO (v 14) (v 19) (F 13) (F 15) (F 18)) : Met l yX12_move (Cond.code yX12_move cX12_move 3 (some .int) :: wA) ({ frames := 3, cells := 0, slots := 0, locals := 120 }) (va_Pc [.ref (g 0), .int p0, .int p1] (PM dC dI g c adK adV v F rc sz)) (va_Qi (fun (r : Int32) (u : StM) => IM u.1 u.2.1 ∧ u.2.2 = rc ∧ (∀ k, k ∉ ([19] : List Nat) → u.1 k = v k) ∧ (∀ k, k ∉ ([13, 15, 16, 17, 18, 19, 20, 21, 22, 23] : List Nat) → u.2.1 k = F k) ∧ JO (u.1 14) (u.1 19) (u.2.1 13) (u.2.1 15) (u.2.1 18)) (BM dC dI g c) (AM g sz)) 0 0 (AM g sz) := by
  refine Met.ofW (cc := cX12_move) (maxL := 3) (ret := (some .int)) (by decide) rfl ?_
  intro p e s m args below meth c0 s₁ B hml hv
  obtain ⟨rfl, hsz, hP, hK, hE⟩ := hv
  have hx := B.exec
  have hb := B.bytes
  have hr := B.returns
  have hts := atoms_spec (ws := Cond.code yX12_move cX12_move 3 (some .int) :: wA) B.pre
  have hwd : ∀ w ∈ wA, w.before _ s = true := fun w h => hts w (List.mem_cons_of_mem _ h)
  have hown : s.vm.findClass RX12 = some m.cls := findClass_of_methodNamed B.named
  have hlocks := B.notSynchronized
  subst hsz
  have hl := lv_entry ([.ref (g 0), .int p0, .int p1]) (n := 3) (Nat.le_of_ble_eq_true rfl)
  rw [lg_entry_eq]
  generalize (lg_sl ([.ref (g 0), .int p0, .int p1]) ++ List.replicate (3 - (lg_sl ([.ref (g 0), .int p0, .int p1])).length) Slot.unset).toArray = ls at hl ⊢
  have hl : lv_has ls 3 [(0, .ref (g 0)), (1, .int p0), (2, .int p1)] := hl
  obtain ⟨H, eH⟩ : ∃ z, z = s.heap := ⟨_, rfl⟩
  have hP : va_P (dC, dI) classes (wM g c v F rc) H := by rw [eH]; exact hP
  have hS : va_S (AM g s.heap.size) s.heap H [] := by rw [eH]; exact va_S.rf
  refine my_heap eH ?_
  have hF : ∀ k, k ∉ ([13, 15, 16, 17, 18, 19, 20, 21, 22, 23] : List Nat) → F k = F k := fun _ _ => rfl
  have rp0 := i32_rng p0
  have rp1 := i32_rng p1
  have hb14 : 0 ≤ (v 14).toInt ∧ (v 14).toInt ≤ 100 := hI.1 14 _ _ rfl
  have hb19 : 0 ≤ (v 19).toInt ∧ (v 19).toInt ≤ 500 := hI.1 19 _ _ rfl
  refine lv_aload_n hx hb dX12_move_0 rfl (lv_at hl 0 rfl) ?_
  refine lv_iload_n hx hb dX12_move_1 rfl (lv_at hl 1 rfl) ?_
  have t6361 : 0 ≤ (v 14).toInt ∧ (v 14).toInt ≤ 100 := hI.1 14 _ _ rfl
  refine va_calli (va_runV (As := [.int p0]) (rest := []) ⟨hx, hb, hml, hown, hwd⟩ (c_X12_isPart l dC dI g c adK adV v F rc H.size p0 hg hI ) (cwV 1 hwd (gV wk_631 wk_628 wk_629 wk_630 wk_5) rfl rfl rfl (by decide +kernel) ⟨Nat.le_of_ble_eq_true rfl, Nat.le_of_ble_eq_true rfl⟩) ⟨PM.blind, va_recv hK hP (ci := 12) (q0 := 0) rfl rfl, fun U hU hW => ⟨rfl, PM.at hK hE hP hS hU hW⟩⟩ rfl rfl hl.1 rfl (lv_room (Nat.le_of_ble_eq_true rfl)) dX12_move_2 ⟨Nat.le_of_ble_eq_true rfl, Nat.le_of_ble_eq_true rfl⟩) hS (fun q _ h => (freeM hS) q h) (freeM hS) (fun r6362 u t H1 locs ht hvm hw hB hz1 hk1 hS => ?_)
  unfold BM at hB
  rw [ht] at hB
  have hP : va_P (dC, dI) classes (wM g c v F rc) H1 := hB
  replace hw : (r6362.toInt = 1 ∧ 0 ≤ p0.toInt ∧ p0.toInt < (v 14).toInt) ∨ (r6362.toInt = 0 ∧ (p0.toInt < 0 ∨ (v 14).toInt ≤ p0.toInt)) := hw
  have hw_r6362 := hw
  clear hw
  clear hz1
  generalize H1 = H at hP hS ⊢
  refine lv_if_eq (tgt := 32) hx hb dX12_move_5 (by decide) (fun c6363 => ?_) (fun c6363 => ?_)
  · skip
    have t6364 := cv_eq (a := r6362.toInt) rfl (b := 0) (by decide) c6363
    refine lv_iconst (v := (-1)) hx hb dX12_move_32 (by decide) ?_
    have hP9 : va_P (dC, dI) classes (wM g c v F rc) H := hP
    exact W.iret (v := (-1)) hx hb hr (fun t ht hW => ⟨⟨(-1), (v, F, rc), rfl, ⟨hI, rfl, (fun _ _ => rfl), hF, hJ⟩, (by show va_P _ _ _ t.heap; rw [ht]; exact hP9)⟩, hS.F ht⟩) hS.2.2 dX12_move_33
  · skip
    have t6365 := cv_ne (a := r6362.toInt) rfl (b := 0) (by decide) c6363
    refine lv_iload_n hx hb dX12_move_8 rfl (lv_at hl 2 rfl) ?_
    refine lv_iconst (v := 0) hx hb dX12_move_9 (by decide) ?_
    refine lv_bipush (v := 11) hx hb dX12_move_10 (by decide) ?_
    refine va_calli (va_runS (As := [.int p1, .int 0, .int 11]) (rest := []) ⟨hx, hb, hml, hown, hwd⟩ (c_X12_in l dC dI g c adK adV v F rc H.size p1 0 11 hg hI ) (va_cwS 3 hwd (gT wk_254 wk_252 wk_253 wk_5) rfl rfl rfl (by decide +kernel) ⟨Nat.le_of_ble_eq_true rfl, Nat.le_of_ble_eq_true rfl⟩) ⟨PM.blind, fun U hU hW => ⟨rfl, PM.at hK hE hP hS hU hW⟩⟩ rfl rfl hl.1 rfl (lv_room (Nat.le_of_ble_eq_true rfl)) dX12_move_12 ⟨Nat.le_of_ble_eq_true rfl, Nat.le_of_ble_eq_true rfl⟩) hS (fun q _ h => (freeM hS) q h) (freeM hS) (fun r6366 u t H1 locs ht hvm hw hB hz1 hk1 hS => ?_)
    unfold BM at hB
    rw [ht] at hB
    have hP : va_P (dC, dI) classes (wM g c v F rc) H1 := hB
    have hw_r6366 : (r6366.toInt = 1 ∧ (0 : Int32).toInt ≤ p1.toInt ∧ p1.toInt ≤ (11 : Int32).toInt) ∨ (r6366.toInt = 0 ∧ (p1.toInt < (0 : Int32).toInt ∨ (11 : Int32).toInt < p1.toInt)) := hw
    clear hw
    have k6367 : (0 : Int32).toInt = 0 := by decide
    have k6368 : (11 : Int32).toInt = 11 := by decide
    clear hz1
    generalize H1 = H at hP hS ⊢
    refine lv_if_eq (tgt := 32) hx hb dX12_move_15 (by decide) (fun c6369 => ?_) (fun c6369 => ?_)
    · skip
      have t6370 := cv_eq (a := r6366.toInt) rfl (b := 0) (by decide) c6369
      refine lv_iconst (v := (-1)) hx hb dX12_move_32 (by decide) ?_
      have hP9 : va_P (dC, dI) classes (wM g c v F rc) H := hP
      exact W.iret (v := (-1)) hx hb hr (fun t ht hW => ⟨⟨(-1), (v, F, rc), rfl, ⟨hI, rfl, (fun _ _ => rfl), hF, hJ⟩, (by show va_P _ _ _ t.heap; rw [ht]; exact hP9)⟩, hS.F ht⟩) hS.2.2 dX12_move_33
    · skip
      have t6371 := cv_ne (a := r6366.toInt) rfl (b := 0) (by decide) c6369
      refine lv_iload_n hx hb dX12_move_18 rfl (lv_at hl 2 rfl) ?_
      refine lv_bipush (v := 10) hx hb dX12_move_19 (by decide) ?_
      refine lv_icmp_ge (tgt := 34) hx hb dX12_move_21 (by decide) (fun c6372 => ?_) (fun c6372 => ?_)
      · skip
        have t6373 := cv_le (a := 10) (by decide) (b := p1.toInt) rfl c6372
        refine lv_aload_n hx hb dX12_move_34 rfl (lv_at hl 0 rfl) ?_
        refine va_get (D := (dC, dI)) (ci := 12) (v := .ref (g 13)) (C := RX12) (T := TX12) (N := 63) hx hb hwd inA_X12 hown hK hP 0 rfl rfl 17 (by decide) (hwd _ wk_194) (fun _ h9 => h9) rfl dX12_move_35 ?_
        refine lv_iload_n hx hb dX12_move_38 rfl (lv_at hl 1 rfl) ?_
        refine va_iald hx hb hK hP 13 12 rfl rfl (i := p0) (vin (a := p0.toInt) rfl (by omega)) dX12_move_39 ?_
        refine lv_topi (fun z6374 e6375 => ?_)
        have t6376 : 0 ≤ z6374.toInt ∧ z6374.toInt ≤ 12 := by rw [e6375]; exact hI.2 13 _ _ rfl _
        have tzz6374 : z6374.toInt = (F 13 (p0 : Int32).toNatClampNeg).toInt := congrArg Int32.toInt e6375
        refine lv_iload_n hx hb dX12_move_40 rfl (lv_at hl 2 rfl) ?_
        refine lv_icmp_eq (tgt := 55) hx hb dX12_move_41 (by decide) (fun c6377 => ?_) (fun c6377 => ?_)
        · skip
          have t6378 := cv_eq (a := z6374.toInt) rfl (b := p1.toInt) rfl c6377
          refine lv_bipush (v := (-2)) hx hb dX12_move_55 (by decide) ?_
          have hP9 : va_P (dC, dI) classes (wM g c v F rc) H := hP
          exact W.iret (v := (-2)) hx hb hr (fun t ht hW => ⟨⟨(-2), (v, F, rc), rfl, ⟨hI, rfl, (fun _ _ => rfl), hF, hJ⟩, (by show va_P _ _ _ t.heap; rw [ht]; exact hP9)⟩, hS.F ht⟩) hS.2.2 dX12_move_57
        · skip
          have t6379 := cv_ne (a := z6374.toInt) rfl (b := p1.toInt) rfl c6377
          refine lv_aload_n hx hb dX12_move_44 rfl (lv_at hl 0 rfl) ?_
          refine va_get (D := (dC, dI)) (ci := 12) (v := .ref (g 13)) (C := RX12) (T := TX12) (N := 63) hx hb hwd inA_X12 hown hK hP 0 rfl rfl 17 (by decide) (hwd _ wk_194) (fun _ h9 => h9) rfl dX12_move_45 ?_
          refine lv_iload_n hx hb dX12_move_48 rfl (lv_at hl 1 rfl) ?_
          refine va_iald hx hb hK hP 13 12 rfl rfl (i := p0) (vin (a := p0.toInt) rfl (by omega)) dX12_move_49 ?_
          refine lv_topi (fun z6380 e6381 => ?_)
          have t6382 : 0 ≤ z6380.toInt ∧ z6380.toInt ≤ 12 := by rw [e6381]; exact hI.2 13 _ _ rfl _
          have tzz6380 : z6380.toInt = (F 13 (p0 : Int32).toNatClampNeg).toInt := congrArg Int32.toInt e6381
          refine lv_bipush (v := 12) hx hb dX12_move_50 (by decide) ?_
          refine lv_icmp_ne (tgt := 58) hx hb dX12_move_52 (by decide) (fun c6383 => ?_) (fun c6383 => ?_)
          · skip
            have t6384 := cv_ne (a := z6380.toInt) rfl (b := 12) (by decide) c6383
            refine lv_iload_n hx hb dX12_move_58 rfl (lv_at hl 2 rfl) ?_
            refine lv_bipush (v := 10) hx hb dX12_move_59 (by decide) ?_
            refine lv_icmp_ge (tgt := 105) hx hb dX12_move_61 (by decide) (fun c6385 => ?_) (fun c6385 => ?_)
            · skip
              have t6386 := cv_le (a := 10) (by decide) (b := p1.toInt) rfl c6385
              refine lv_aload_n hx hb dX12_move_105 rfl (lv_at hl 0 rfl) ?_
              refine va_get (D := (dC, dI)) (ci := 12) (v := .int (v 19)) (C := RX12) (T := TX12) (N := 63) hx hb hwd inA_X12 hown hK hP 0 rfl rfl 19 (by decide) (hwd _ wk_494) (fun _ h9 => h9) rfl dX12_move_106 ?_
              have t6387 : 0 ≤ (v 19).toInt ∧ (v 19).toInt ≤ 500 := hI.1 19 _ _ rfl
              refine lv_sipush (v := 500) hx hb dX12_move_109 (by decide) ?_
              refine lv_icmp_ne (tgt := 118) hx hb dX12_move_112 (by decide) (fun c6388 => ?_) (fun c6388 => ?_)
              · skip
                have t6389 := cv_ne (a := (v 19).toInt) rfl (b := 500) (by decide) c6388
                refine lv_aload_n hx hb dX12_move_118 rfl (lv_at hl 0 rfl) ?_
                refine lv_iload_n hx hb dX12_move_119 rfl (lv_at hl 1 rfl) ?_
                have t6390 : 0 ≤ (v 19).toInt ∧ (v 19).toInt ≤ 500 := hI.1 19 _ _ rfl
                refine va_callv (va_runV (As := [.int p0]) (rest := []) ⟨hx, hb, hml, hown, hwd⟩ (c_X12_endStay l dC dI g c adK adV v F rc H.size p0 hg hI (by omega) (JO.at' hJ (i := p0) (by omega) (by omega) (by omega))) (cwV 1 hwd (gV wk_635 wk_632 wk_633 wk_634 wk_5) rfl rfl rfl (by decide +kernel) ⟨Nat.le_of_ble_eq_true rfl, Nat.le_of_ble_eq_true rfl⟩) ⟨PM.blind, va_recv hK hP (ci := 12) (q0 := 0) rfl rfl, fun U hU hW => ⟨rfl, PM.at hK hE hP hS hU hW⟩⟩ rfl rfl hl.1 rfl (lv_room (Nat.le_of_ble_eq_true rfl)) dX12_move_120 ⟨Nat.le_of_ble_eq_true rfl, Nat.le_of_ble_eq_true rfl⟩) hS (fun q _ h => (freeM hS) q h) (freeM hS) (fun u t H1 locs ht hvm hw hB hz1 hk1 hS => ?_)
                unfold BM at hB
                rw [ht] at hB
                obtain ⟨v6392, F6393, rc9⟩ := u
                obtain ⟨hI, hrc, hf6394, hG6395, hw⟩ := hw
                dsimp only at hI hrc hB hf6394 hG6395 hw
                have hF := frCF (by decide) hG6395 hF
                rw [hrc] at hB
                have hP : va_P (dC, dI) classes (wM g c v6392 F6393 rc) H1 := hB
                replace hw : ∀ j : Int, j ≠ p0.toInt → hasO (v 19) (F 15) (F 18) j → hasO (v6392 19) (F6393 15) (F6393 18) j := hw
                rw [show v6392 19 = v 19 from hf6394 19 (by decide)] at hw
                have hw_r6391 := hw
                clear hw
                have t6396 : 0 ≤ (v 19).toInt ∧ (v 19).toInt ≤ 500 := by have h9 := hI.1 19 _ _ rfl; rw [show v6392 19 = v 19 from hf6394 19 (by decide)] at h9; exact h9
                clear hz1
                generalize H1 = H at hP hS ⊢
                refine lv_aload_n hx hb dX12_move_123 rfl (lv_at hl 0 rfl) ?_
                refine lv_iload_n hx hb dX12_move_124 rfl (lv_at hl 1 rfl) ?_
                refine lv_iload_n hx hb dX12_move_125 rfl (lv_at hl 2 rfl) ?_
                have t6397 : 0 ≤ (v 19).toInt ∧ (v 19).toInt ≤ 500 := by have h9 := hI.1 19 _ _ rfl; rw [show v6392 19 = v 19 from hf6394 19 (by decide)] at h9; exact h9
                refine va_callv (va_runV (As := [.int p0, .int p1]) (rest := []) ⟨hx, hb, hml, hown, hwd⟩ (c_X12_begin l dC dI g c adK adV v6392 F6393 rc H.size p0 p1 hg hI (by omega) (by omega) (by have h9 : v6392 19 = v 19 := hf6394 19 (by decide); rw [h9]; omega)) (cwV 2 hwd (gV wk_595 wk_592 wk_593 wk_594 wk_5) rfl rfl rfl (by decide +kernel) ⟨Nat.le_of_ble_eq_true rfl, Nat.le_of_ble_eq_true rfl⟩) ⟨PM.blind, va_recv hK hP (ci := 12) (q0 := 0) rfl rfl, fun U hU hW => ⟨rfl, PM.at hK hE hP hS hU hW⟩⟩ rfl rfl hl.1 rfl (lv_room (Nat.le_of_ble_eq_true rfl)) dX12_move_126 ⟨Nat.le_of_ble_eq_true rfl, Nat.le_of_ble_eq_true rfl⟩) hS (fun q _ h => (freeM hS) q h) (freeM hS) (fun u t H1 locs ht hvm hw hB hz1 hk1 hS => ?_)
                unfold BM at hB
                rw [ht] at hB
                obtain ⟨v6399, F6400, rc9⟩ := u
                obtain ⟨hI, hrc, hf6401, hG6402, hw⟩ := hw
                dsimp only at hI hrc hB hf6401 hG6402 hw
                have hF := frCF (by decide) hG6402 hF
                rw [hrc] at hB
                have hP : va_P (dC, dI) classes (wM g c v6399 F6400 rc) H1 := hB
                replace hw : (v6399 19).toInt = (v6392 19).toInt + 1 ∧ (F6400 13 = upd (F6393 13) p0.toNatClampNeg p1) ∧ (∀ j : Int, (j = p0.toInt ∨ hasO (v6392 19) (F6393 15) (F6393 18) j) → hasO (v6399 19) (F6400 15) (F6400 18) j) := hw
                rw [show v6392 19 = v 19 from hf6394 19 (by decide)] at hw
                have hw_r6398 := hw
                clear hw
                have t6403 : 0 ≤ (v6399 19).toInt ∧ (v6399 19).toInt ≤ 500 := hI.1 19 _ _ rfl
                clear hz1
                generalize H1 = H at hP hS ⊢
                refine lv_iconst (v := 1) hx hb dX12_move_129 (by decide) ?_
                have hP9 : va_P (dC, dI) classes (wM g c v6399 F6400 rc) H := hP
                exact W.iret (v := 1) hx hb hr (fun t ht hW => ⟨⟨1, (v6399, F6400, rc), rfl, ⟨hI, rfl, (frC (by decide) hf6401 (frC (by decide) hf6394 (fun _ _ => rfl))), hF, (by show JO (v6399 14) (v6399 19) (F6400 13) (F6400 15) (F6400 18); rw [show v6399 14 = v 14 from (hf6401 14 (by decide)).trans (hf6394 14 (by decide))]; exact JO.go hJ hw_r6391 hw_r6398.2.2 (hw_r6398.2.1.trans (congrArg (fun f => upd f _ _) (hG6395 13 (by decide)))) (by omega))⟩, (by show va_P _ _ _ t.heap; rw [ht]; exact hP9)⟩, hS.F ht⟩) hS.2.2 dX12_move_130
              · skip
                have t6404 := cv_eq (a := (v 19).toInt) rfl (b := 500) (by decide) c6388
                refine lv_bipush (v := (-3)) hx hb dX12_move_115 (by decide) ?_
                have hP9 : va_P (dC, dI) classes (wM g c v F rc) H := hP
                exact W.iret (v := (-3)) hx hb hr (fun t ht hW => ⟨⟨(-3), (v, F, rc), rfl, ⟨hI, rfl, (fun _ _ => rfl), hF, hJ⟩, (by show va_P _ _ _ t.heap; rw [ht]; exact hP9)⟩, hS.F ht⟩) hS.2.2 dX12_move_117
            · skip
              have t6405 := cv_nle (a := 10) (by decide) (b := p1.toInt) rfl c6385
              refine lv_aload_n hx hb dX12_move_64 rfl (lv_at hl 0 rfl) ?_
              refine lv_iload_n hx hb dX12_move_65 rfl (lv_at hl 2 rfl) ?_
              refine va_calli (va_runV (As := [.int p1]) (rest := []) ⟨hx, hb, hml, hown, hwd⟩ (c_X12_isReturned l dC dI g c adK adV v F rc H.size p1 hg hI (by omega)) (cwV 1 hwd (gV wk_313 wk_310 wk_311 wk_312 wk_5) rfl rfl rfl (by decide +kernel) ⟨Nat.le_of_ble_eq_true rfl, Nat.le_of_ble_eq_true rfl⟩) ⟨PM.blind, va_recv hK hP (ci := 12) (q0 := 0) rfl rfl, fun U hU hW => ⟨rfl, PM.at hK hE hP hS hU hW⟩⟩ rfl rfl hl.1 rfl (lv_room (Nat.le_of_ble_eq_true rfl)) dX12_move_66 ⟨Nat.le_of_ble_eq_true rfl, Nat.le_of_ble_eq_true rfl⟩) hS (fun q _ h => (freeM hS) q h) (freeM hS) (fun r6406 u t H1 locs ht hvm hw hB hz1 hk1 hS => ?_)
              unfold BM at hB
              rw [ht] at hB
              have hP : va_P (dC, dI) classes (wM g c v F rc) H1 := hB
              replace hw : (r6406.toInt = 1 ∧ 0 ≤ (F 8 p1.toNatClampNeg).toInt) ∨ (r6406.toInt = 0 ∧ (F 8 p1.toNatClampNeg).toInt < 0) := hw
              have hw_r6406 := hw
              clear hw
              clear hz1
              generalize H1 = H at hP hS ⊢
              refine lv_if_ne (tgt := 102) hx hb dX12_move_69 (by decide) (fun c6407 => ?_) (fun c6407 => ?_)
              · skip
                have t6408 := cv_ne (a := r6406.toInt) rfl (b := 0) (by decide) c6407
                refine lv_bipush (v := (-2)) hx hb dX12_move_102 (by decide) ?_
                have hP9 : va_P (dC, dI) classes (wM g c v F rc) H := hP
                exact W.iret (v := (-2)) hx hb hr (fun t ht hW => ⟨⟨(-2), (v, F, rc), rfl, ⟨hI, rfl, (fun _ _ => rfl), hF, hJ⟩, (by show va_P _ _ _ t.heap; rw [ht]; exact hP9)⟩, hS.F ht⟩) hS.2.2 dX12_move_104
              · skip
                have t6409 := cv_eq (a := r6406.toInt) rfl (b := 0) (by decide) c6407
                refine lv_aload_n hx hb dX12_move_72 rfl (lv_at hl 0 rfl) ?_
                refine lv_iload_n hx hb dX12_move_73 rfl (lv_at hl 2 rfl) ?_
                refine lv_aload_n hx hb dX12_move_74 rfl (lv_at hl 0 rfl) ?_
                refine va_get (D := (dC, dI)) (ci := 12) (v := .ref (g 11)) (C := RX12) (T := TX12) (N := 63) hx hb hwd inA_X12 hown hK hP 0 rfl rfl 15 (by decide) (hwd _ wk_192) (fun _ h9 => h9) rfl dX12_move_75 ?_
                refine lv_iload_n hx hb dX12_move_78 rfl (lv_at hl 1 rfl) ?_
                refine va_iald hx hb hK hP 11 10 rfl rfl (i := p0) (vin (a := p0.toInt) rfl (by omega)) dX12_move_79 ?_
                refine lv_topi (fun z6410 e6411 => ?_)
                have t6412 : 0 ≤ z6410.toInt ∧ z6410.toInt ≤ 9 := by rw [e6411]; exact hI.2 11 _ _ rfl _
                have tzz6410 : z6410.toInt = (F 11 (p0 : Int32).toNatClampNeg).toInt := congrArg Int32.toInt e6411
                refine va_calli (va_runV (As := [.int p1, .int z6410]) (rest := []) ⟨hx, hb, hml, hown, hwd⟩ (c_X12_onIt l dC dI g c adK adV v F rc H.size p1 z6410 hg hI ) (cwV 2 hwd (gV wk_317 wk_314 wk_315 wk_316 wk_5) rfl rfl rfl (by decide +kernel) ⟨Nat.le_of_ble_eq_true rfl, Nat.le_of_ble_eq_true rfl⟩) ⟨PM.blind, va_recv hK hP (ci := 12) (q0 := 0) rfl rfl, fun U hU hW => ⟨rfl, PM.at hK hE hP hS hU hW⟩⟩ rfl rfl hl.1 rfl (lv_room (Nat.le_of_ble_eq_true rfl)) dX12_move_80 ⟨Nat.le_of_ble_eq_true rfl, Nat.le_of_ble_eq_true rfl⟩) hS (fun q _ h => (freeM hS) q h) (freeM hS) (fun r6413 u t H1 locs ht hvm hw hB hz1 hk1 hS => ?_)
                unfold BM at hB
                rw [ht] at hB
                have hP : va_P (dC, dI) classes (wM g c v F rc) H1 := hB
                clear hz1
                generalize H1 = H at hP hS ⊢
                have rr_r6413 := i32_rng r6413
                refine lv_aload_n hx hb dX12_move_83 rfl (lv_at hl 0 rfl) ?_
                refine va_get (D := (dC, dI)) (ci := 12) (v := .ref (g 9)) (C := RX12) (T := TX12) (N := 63) hx hb hwd inA_X12 hown hK hP 0 rfl rfl 12 (by decide) (hwd _ wk_190) (fun _ h9 => h9) rfl dX12_move_84 ?_
                refine lv_bipush (v := 10) hx hb dX12_move_87 (by decide) ?_
                refine lv_iload_n hx hb dX12_move_89 rfl (lv_at hl 2 rfl) ?_
                refine lv_imul hx hb dX12_move_90 ?_
                refine lv_topi (fun z6414 e6415 => ?_)
                try (have t6416 := tmul e6415 (a := 10) (by decide) (b := p1.toInt) rfl (by omega))
                refine lv_aload_n hx hb dX12_move_91 rfl (lv_at hl 0 rfl) ?_
                refine va_get (D := (dC, dI)) (ci := 12) (v := .ref (g 11)) (C := RX12) (T := TX12) (N := 63) hx hb hwd inA_X12 hown hK hP 0 rfl rfl 15 (by decide) (hwd _ wk_192) (fun _ h9 => h9) rfl dX12_move_92 ?_
                refine lv_iload_n hx hb dX12_move_95 rfl (lv_at hl 1 rfl) ?_
                refine va_iald hx hb hK hP 11 10 rfl rfl (i := p0) (vin (a := p0.toInt) rfl (by omega)) dX12_move_96 ?_
                refine lv_topi (fun z6417 e6418 => ?_)
                have t6419 : 0 ≤ z6417.toInt ∧ z6417.toInt ≤ 9 := by rw [e6418]; exact hI.2 11 _ _ rfl _
                have tzz6417 : z6417.toInt = (F 11 (p0 : Int32).toNatClampNeg).toInt := congrArg Int32.toInt e6418
                refine lv_iadd hx hb dX12_move_97 ?_
                refine lv_topi (fun z6420 e6421 => ?_)
                try (have t6422 := tadd e6421 (a := z6414.toInt) rfl (b := z6417.toInt) rfl (by omega))
                refine va_iald hx hb hK hP 9 8 rfl rfl (i := z6420) (vin (a := z6420.toInt) rfl (by omega)) dX12_move_98 ?_
                refine lv_topi (fun z6423 e6424 => ?_)
                have tzz6423 : z6423.toInt = (F 9 (z6420 : Int32).toNatClampNeg).toInt := congrArg Int32.toInt e6424
                refine lv_icmp_lt (tgt := 105) hx hb dX12_move_99 (by decide) (fun c6425 => ?_) (fun c6425 => ?_)
                · skip
                  have t6426 := cv_lt (a := r6413.toInt) rfl (b := z6423.toInt) rfl c6425
                  refine lv_aload_n hx hb dX12_move_105 rfl (lv_at hl 0 rfl) ?_
                  refine va_get (D := (dC, dI)) (ci := 12) (v := .int (v 19)) (C := RX12) (T := TX12) (N := 63) hx hb hwd inA_X12 hown hK hP 0 rfl rfl 19 (by decide) (hwd _ wk_494) (fun _ h9 => h9) rfl dX12_move_106 ?_
                  have t6427 : 0 ≤ (v 19).toInt ∧ (v 19).toInt ≤ 500 := hI.1 19 _ _ rfl
                  refine lv_sipush (v := 500) hx hb dX12_move_109 (by decide) ?_
                  refine lv_icmp_ne (tgt := 118) hx hb dX12_move_112 (by decide) (fun c6428 => ?_) (fun c6428 => ?_)
                  · skip
                    have t6429 := cv_ne (a := (v 19).toInt) rfl (b := 500) (by decide) c6428
                    refine lv_aload_n hx hb dX12_move_118 rfl (lv_at hl 0 rfl) ?_
                    refine lv_iload_n hx hb dX12_move_119 rfl (lv_at hl 1 rfl) ?_
                    have t6430 : 0 ≤ (v 19).toInt ∧ (v 19).toInt ≤ 500 := hI.1 19 _ _ rfl
                    refine va_callv (va_runV (As := [.int p0]) (rest := []) ⟨hx, hb, hml, hown, hwd⟩ (c_X12_endStay l dC dI g c adK adV v F rc H.size p0 hg hI (by omega) (JO.at' hJ (i := p0) (by omega) (by omega) (by omega))) (cwV 1 hwd (gV wk_635 wk_632 wk_633 wk_634 wk_5) rfl rfl rfl (by decide +kernel) ⟨Nat.le_of_ble_eq_true rfl, Nat.le_of_ble_eq_true rfl⟩) ⟨PM.blind, va_recv hK hP (ci := 12) (q0 := 0) rfl rfl, fun U hU hW => ⟨rfl, PM.at hK hE hP hS hU hW⟩⟩ rfl rfl hl.1 rfl (lv_room (Nat.le_of_ble_eq_true rfl)) dX12_move_120 ⟨Nat.le_of_ble_eq_true rfl, Nat.le_of_ble_eq_true rfl⟩) hS (fun q _ h => (freeM hS) q h) (freeM hS) (fun u t H1 locs ht hvm hw hB hz1 hk1 hS => ?_)
                    unfold BM at hB
                    rw [ht] at hB
                    obtain ⟨v6432, F6433, rc9⟩ := u
                    obtain ⟨hI, hrc, hf6434, hG6435, hw⟩ := hw
                    dsimp only at hI hrc hB hf6434 hG6435 hw
                    have hF := frCF (by decide) hG6435 hF
                    rw [hrc] at hB
                    have hP : va_P (dC, dI) classes (wM g c v6432 F6433 rc) H1 := hB
                    replace hw : ∀ j : Int, j ≠ p0.toInt → hasO (v 19) (F 15) (F 18) j → hasO (v6432 19) (F6433 15) (F6433 18) j := hw
                    rw [show v6432 19 = v 19 from hf6434 19 (by decide)] at hw
                    have hw_r6431 := hw
                    clear hw
                    have t6436 : 0 ≤ (v 19).toInt ∧ (v 19).toInt ≤ 500 := by have h9 := hI.1 19 _ _ rfl; rw [show v6432 19 = v 19 from hf6434 19 (by decide)] at h9; exact h9
                    clear hz1
                    generalize H1 = H at hP hS ⊢
                    refine lv_aload_n hx hb dX12_move_123 rfl (lv_at hl 0 rfl) ?_
                    refine lv_iload_n hx hb dX12_move_124 rfl (lv_at hl 1 rfl) ?_
                    refine lv_iload_n hx hb dX12_move_125 rfl (lv_at hl 2 rfl) ?_
                    have t6437 : 0 ≤ (v 19).toInt ∧ (v 19).toInt ≤ 500 := by have h9 := hI.1 19 _ _ rfl; rw [show v6432 19 = v 19 from hf6434 19 (by decide)] at h9; exact h9
                    refine va_callv (va_runV (As := [.int p0, .int p1]) (rest := []) ⟨hx, hb, hml, hown, hwd⟩ (c_X12_begin l dC dI g c adK adV v6432 F6433 rc H.size p0 p1 hg hI (by omega) (by omega) (by have h9 : v6432 19 = v 19 := hf6434 19 (by decide); rw [h9]; omega)) (cwV 2 hwd (gV wk_595 wk_592 wk_593 wk_594 wk_5) rfl rfl rfl (by decide +kernel) ⟨Nat.le_of_ble_eq_true rfl, Nat.le_of_ble_eq_true rfl⟩) ⟨PM.blind, va_recv hK hP (ci := 12) (q0 := 0) rfl rfl, fun U hU hW => ⟨rfl, PM.at hK hE hP hS hU hW⟩⟩ rfl rfl hl.1 rfl (lv_room (Nat.le_of_ble_eq_true rfl)) dX12_move_126 ⟨Nat.le_of_ble_eq_true rfl, Nat.le_of_ble_eq_true rfl⟩) hS (fun q _ h => (freeM hS) q h) (freeM hS) (fun u t H1 locs ht hvm hw hB hz1 hk1 hS => ?_)
                    unfold BM at hB
                    rw [ht] at hB
                    obtain ⟨v6439, F6440, rc9⟩ := u
                    obtain ⟨hI, hrc, hf6441, hG6442, hw⟩ := hw
                    dsimp only at hI hrc hB hf6441 hG6442 hw
                    have hF := frCF (by decide) hG6442 hF
                    rw [hrc] at hB
                    have hP : va_P (dC, dI) classes (wM g c v6439 F6440 rc) H1 := hB
                    replace hw : (v6439 19).toInt = (v6432 19).toInt + 1 ∧ (F6440 13 = upd (F6433 13) p0.toNatClampNeg p1) ∧ (∀ j : Int, (j = p0.toInt ∨ hasO (v6432 19) (F6433 15) (F6433 18) j) → hasO (v6439 19) (F6440 15) (F6440 18) j) := hw
                    rw [show v6432 19 = v 19 from hf6434 19 (by decide)] at hw
                    have hw_r6438 := hw
                    clear hw
                    have t6443 : 0 ≤ (v6439 19).toInt ∧ (v6439 19).toInt ≤ 500 := hI.1 19 _ _ rfl
                    clear hz1
                    generalize H1 = H at hP hS ⊢
                    refine lv_iconst (v := 1) hx hb dX12_move_129 (by decide) ?_
                    have hP9 : va_P (dC, dI) classes (wM g c v6439 F6440 rc) H := hP
                    exact W.iret (v := 1) hx hb hr (fun t ht hW => ⟨⟨1, (v6439, F6440, rc), rfl, ⟨hI, rfl, (frC (by decide) hf6441 (frC (by decide) hf6434 (fun _ _ => rfl))), hF, (by show JO (v6439 14) (v6439 19) (F6440 13) (F6440 15) (F6440 18); rw [show v6439 14 = v 14 from (hf6441 14 (by decide)).trans (hf6434 14 (by decide))]; exact JO.go hJ hw_r6431 hw_r6438.2.2 (hw_r6438.2.1.trans (congrArg (fun f => upd f _ _) (hG6435 13 (by decide)))) (by omega))⟩, (by show va_P _ _ _ t.heap; rw [ht]; exact hP9)⟩, hS.F ht⟩) hS.2.2 dX12_move_130
                  · skip
                    have t6444 := cv_eq (a := (v 19).toInt) rfl (b := 500) (by decide) c6428
                    refine lv_bipush (v := (-3)) hx hb dX12_move_115 (by decide) ?_
                    have hP9 : va_P (dC, dI) classes (wM g c v F rc) H := hP
                    exact W.iret (v := (-3)) hx hb hr (fun t ht hW => ⟨⟨(-3), (v, F, rc), rfl, ⟨hI, rfl, (fun _ _ => rfl), hF, hJ⟩, (by show va_P _ _ _ t.heap; rw [ht]; exact hP9)⟩, hS.F ht⟩) hS.2.2 dX12_move_117
                · skip
                  have t6445 := cv_nlt (a := r6413.toInt) rfl (b := z6423.toInt) rfl c6425
                  refine lv_bipush (v := (-2)) hx hb dX12_move_102 (by decide) ?_
                  have hP9 : va_P (dC, dI) classes (wM g c v F rc) H := hP
                  exact W.iret (v := (-2)) hx hb hr (fun t ht hW => ⟨⟨(-2), (v, F, rc), rfl, ⟨hI, rfl, (fun _ _ => rfl), hF, hJ⟩, (by show va_P _ _ _ t.heap; rw [ht]; exact hP9)⟩, hS.F ht⟩) hS.2.2 dX12_move_104
          · skip
            have t6446 := cv_eq (a := z6380.toInt) rfl (b := 12) (by decide) c6383
            refine lv_bipush (v := (-2)) hx hb dX12_move_55 (by decide) ?_
            have hP9 : va_P (dC, dI) classes (wM g c v F rc) H := hP
            exact W.iret (v := (-2)) hx hb hr (fun t ht hW => ⟨⟨(-2), (v, F, rc), rfl, ⟨hI, rfl, (fun _ _ => rfl), hF, hJ⟩, (by show va_P _ _ _ t.heap; rw [ht]; exact hP9)⟩, hS.F ht⟩) hS.2.2 dX12_move_57
      · skip
        have t6447 := cv_nle (a := 10) (by decide) (b := p1.toInt) rfl c6372
        refine lv_aload_n hx hb dX12_move_24 rfl (lv_at hl 0 rfl) ?_
        refine lv_iload_n hx hb dX12_move_25 rfl (lv_at hl 2 rfl) ?_
        have t6448 : 0 ≤ (v 6).toInt ∧ (v 6).toInt ≤ 10 := hI.1 6 _ _ rfl
        refine va_calli (va_runV (As := [.int p1]) (rest := []) ⟨hx, hb, hml, hown, hwd⟩ (c_X12_isPlane l dC dI g c adK adV v F rc H.size p1 hg hI ) (cwV 1 hwd (gV wk_305 wk_302 wk_303 wk_304 wk_5) rfl rfl rfl (by decide +kernel) ⟨Nat.le_of_ble_eq_true rfl, Nat.le_of_ble_eq_true rfl⟩) ⟨PM.blind, va_recv hK hP (ci := 12) (q0 := 0) rfl rfl, fun U hU hW => ⟨rfl, PM.at hK hE hP hS hU hW⟩⟩ rfl rfl hl.1 rfl (lv_room (Nat.le_of_ble_eq_true rfl)) dX12_move_26 ⟨Nat.le_of_ble_eq_true rfl, Nat.le_of_ble_eq_true rfl⟩) hS (fun q _ h => (freeM hS) q h) (freeM hS) (fun r6449 u t H1 locs ht hvm hw hB hz1 hk1 hS => ?_)
        unfold BM at hB
        rw [ht] at hB
        have hP : va_P (dC, dI) classes (wM g c v F rc) H1 := hB
        replace hw : (r6449.toInt = 1 ∧ 0 ≤ p1.toInt ∧ p1.toInt < (v 6).toInt) ∨ (r6449.toInt = 0 ∧ (p1.toInt < 0 ∨ (v 6).toInt ≤ p1.toInt)) := hw
        have hw_r6449 := hw
        clear hw
        clear hz1
        generalize H1 = H at hP hS ⊢
        refine lv_if_ne (tgt := 34) hx hb dX12_move_29 (by decide) (fun c6450 => ?_) (fun c6450 => ?_)
        · skip
          have t6451 := cv_ne (a := r6449.toInt) rfl (b := 0) (by decide) c6450
          refine lv_aload_n hx hb dX12_move_34 rfl (lv_at hl 0 rfl) ?_
          refine va_get (D := (dC, dI)) (ci := 12) (v := .ref (g 13)) (C := RX12) (T := TX12) (N := 63) hx hb hwd inA_X12 hown hK hP 0 rfl rfl 17 (by decide) (hwd _ wk_194) (fun _ h9 => h9) rfl dX12_move_35 ?_
          refine lv_iload_n hx hb dX12_move_38 rfl (lv_at hl 1 rfl) ?_
          refine va_iald hx hb hK hP 13 12 rfl rfl (i := p0) (vin (a := p0.toInt) rfl (by omega)) dX12_move_39 ?_
          refine lv_topi (fun z6452 e6453 => ?_)
          have t6454 : 0 ≤ z6452.toInt ∧ z6452.toInt ≤ 12 := by rw [e6453]; exact hI.2 13 _ _ rfl _
          have tzz6452 : z6452.toInt = (F 13 (p0 : Int32).toNatClampNeg).toInt := congrArg Int32.toInt e6453
          refine lv_iload_n hx hb dX12_move_40 rfl (lv_at hl 2 rfl) ?_
          refine lv_icmp_eq (tgt := 55) hx hb dX12_move_41 (by decide) (fun c6455 => ?_) (fun c6455 => ?_)
          · skip
            have t6456 := cv_eq (a := z6452.toInt) rfl (b := p1.toInt) rfl c6455
            refine lv_bipush (v := (-2)) hx hb dX12_move_55 (by decide) ?_
            have hP9 : va_P (dC, dI) classes (wM g c v F rc) H := hP
            exact W.iret (v := (-2)) hx hb hr (fun t ht hW => ⟨⟨(-2), (v, F, rc), rfl, ⟨hI, rfl, (fun _ _ => rfl), hF, hJ⟩, (by show va_P _ _ _ t.heap; rw [ht]; exact hP9)⟩, hS.F ht⟩) hS.2.2 dX12_move_57
          · skip
            have t6457 := cv_ne (a := z6452.toInt) rfl (b := p1.toInt) rfl c6455
            refine lv_aload_n hx hb dX12_move_44 rfl (lv_at hl 0 rfl) ?_
            refine va_get (D := (dC, dI)) (ci := 12) (v := .ref (g 13)) (C := RX12) (T := TX12) (N := 63) hx hb hwd inA_X12 hown hK hP 0 rfl rfl 17 (by decide) (hwd _ wk_194) (fun _ h9 => h9) rfl dX12_move_45 ?_
            refine lv_iload_n hx hb dX12_move_48 rfl (lv_at hl 1 rfl) ?_
            refine va_iald hx hb hK hP 13 12 rfl rfl (i := p0) (vin (a := p0.toInt) rfl (by omega)) dX12_move_49 ?_
            refine lv_topi (fun z6458 e6459 => ?_)
            have t6460 : 0 ≤ z6458.toInt ∧ z6458.toInt ≤ 12 := by rw [e6459]; exact hI.2 13 _ _ rfl _
            have tzz6458 : z6458.toInt = (F 13 (p0 : Int32).toNatClampNeg).toInt := congrArg Int32.toInt e6459
            refine lv_bipush (v := 12) hx hb dX12_move_50 (by decide) ?_
            refine lv_icmp_ne (tgt := 58) hx hb dX12_move_52 (by decide) (fun c6461 => ?_) (fun c6461 => ?_)
            · skip
              have t6462 := cv_ne (a := z6458.toInt) rfl (b := 12) (by decide) c6461
              refine lv_iload_n hx hb dX12_move_58 rfl (lv_at hl 2 rfl) ?_
              refine lv_bipush (v := 10) hx hb dX12_move_59 (by decide) ?_
              refine lv_icmp_ge (tgt := 105) hx hb dX12_move_61 (by decide) (fun c6463 => ?_) (fun c6463 => ?_)
              · skip
                have t6464 := cv_le (a := 10) (by decide) (b := p1.toInt) rfl c6463
                refine lv_aload_n hx hb dX12_move_105 rfl (lv_at hl 0 rfl) ?_
                refine va_get (D := (dC, dI)) (ci := 12) (v := .int (v 19)) (C := RX12) (T := TX12) (N := 63) hx hb hwd inA_X12 hown hK hP 0 rfl rfl 19 (by decide) (hwd _ wk_494) (fun _ h9 => h9) rfl dX12_move_106 ?_
                have t6465 : 0 ≤ (v 19).toInt ∧ (v 19).toInt ≤ 500 := hI.1 19 _ _ rfl
                refine lv_sipush (v := 500) hx hb dX12_move_109 (by decide) ?_
                refine lv_icmp_ne (tgt := 118) hx hb dX12_move_112 (by decide) (fun c6466 => ?_) (fun c6466 => ?_)
                · skip
                  have t6467 := cv_ne (a := (v 19).toInt) rfl (b := 500) (by decide) c6466
                  refine lv_aload_n hx hb dX12_move_118 rfl (lv_at hl 0 rfl) ?_
                  refine lv_iload_n hx hb dX12_move_119 rfl (lv_at hl 1 rfl) ?_
                  have t6468 : 0 ≤ (v 19).toInt ∧ (v 19).toInt ≤ 500 := hI.1 19 _ _ rfl
                  refine va_callv (va_runV (As := [.int p0]) (rest := []) ⟨hx, hb, hml, hown, hwd⟩ (c_X12_endStay l dC dI g c adK adV v F rc H.size p0 hg hI (by omega) (JO.at' hJ (i := p0) (by omega) (by omega) (by omega))) (cwV 1 hwd (gV wk_635 wk_632 wk_633 wk_634 wk_5) rfl rfl rfl (by decide +kernel) ⟨Nat.le_of_ble_eq_true rfl, Nat.le_of_ble_eq_true rfl⟩) ⟨PM.blind, va_recv hK hP (ci := 12) (q0 := 0) rfl rfl, fun U hU hW => ⟨rfl, PM.at hK hE hP hS hU hW⟩⟩ rfl rfl hl.1 rfl (lv_room (Nat.le_of_ble_eq_true rfl)) dX12_move_120 ⟨Nat.le_of_ble_eq_true rfl, Nat.le_of_ble_eq_true rfl⟩) hS (fun q _ h => (freeM hS) q h) (freeM hS) (fun u t H1 locs ht hvm hw hB hz1 hk1 hS => ?_)
                  unfold BM at hB
                  rw [ht] at hB
                  obtain ⟨v6470, F6471, rc9⟩ := u
                  obtain ⟨hI, hrc, hf6472, hG6473, hw⟩ := hw
                  dsimp only at hI hrc hB hf6472 hG6473 hw
                  have hF := frCF (by decide) hG6473 hF
                  rw [hrc] at hB
                  have hP : va_P (dC, dI) classes (wM g c v6470 F6471 rc) H1 := hB
                  replace hw : ∀ j : Int, j ≠ p0.toInt → hasO (v 19) (F 15) (F 18) j → hasO (v6470 19) (F6471 15) (F6471 18) j := hw
                  rw [show v6470 19 = v 19 from hf6472 19 (by decide)] at hw
                  have hw_r6469 := hw
                  clear hw
                  have t6474 : 0 ≤ (v 19).toInt ∧ (v 19).toInt ≤ 500 := by have h9 := hI.1 19 _ _ rfl; rw [show v6470 19 = v 19 from hf6472 19 (by decide)] at h9; exact h9
                  clear hz1
                  generalize H1 = H at hP hS ⊢
                  refine lv_aload_n hx hb dX12_move_123 rfl (lv_at hl 0 rfl) ?_
                  refine lv_iload_n hx hb dX12_move_124 rfl (lv_at hl 1 rfl) ?_
                  refine lv_iload_n hx hb dX12_move_125 rfl (lv_at hl 2 rfl) ?_
                  have t6475 : 0 ≤ (v 19).toInt ∧ (v 19).toInt ≤ 500 := by have h9 := hI.1 19 _ _ rfl; rw [show v6470 19 = v 19 from hf6472 19 (by decide)] at h9; exact h9
                  refine va_callv (va_runV (As := [.int p0, .int p1]) (rest := []) ⟨hx, hb, hml, hown, hwd⟩ (c_X12_begin l dC dI g c adK adV v6470 F6471 rc H.size p0 p1 hg hI (by omega) (by omega) (by have h9 : v6470 19 = v 19 := hf6472 19 (by decide); rw [h9]; omega)) (cwV 2 hwd (gV wk_595 wk_592 wk_593 wk_594 wk_5) rfl rfl rfl (by decide +kernel) ⟨Nat.le_of_ble_eq_true rfl, Nat.le_of_ble_eq_true rfl⟩) ⟨PM.blind, va_recv hK hP (ci := 12) (q0 := 0) rfl rfl, fun U hU hW => ⟨rfl, PM.at hK hE hP hS hU hW⟩⟩ rfl rfl hl.1 rfl (lv_room (Nat.le_of_ble_eq_true rfl)) dX12_move_126 ⟨Nat.le_of_ble_eq_true rfl, Nat.le_of_ble_eq_true rfl⟩) hS (fun q _ h => (freeM hS) q h) (freeM hS) (fun u t H1 locs ht hvm hw hB hz1 hk1 hS => ?_)
                  unfold BM at hB
                  rw [ht] at hB
                  obtain ⟨v6477, F6478, rc9⟩ := u
                  obtain ⟨hI, hrc, hf6479, hG6480, hw⟩ := hw
                  dsimp only at hI hrc hB hf6479 hG6480 hw
                  have hF := frCF (by decide) hG6480 hF
                  rw [hrc] at hB
                  have hP : va_P (dC, dI) classes (wM g c v6477 F6478 rc) H1 := hB
                  replace hw : (v6477 19).toInt = (v6470 19).toInt + 1 ∧ (F6478 13 = upd (F6471 13) p0.toNatClampNeg p1) ∧ (∀ j : Int, (j = p0.toInt ∨ hasO (v6470 19) (F6471 15) (F6471 18) j) → hasO (v6477 19) (F6478 15) (F6478 18) j) := hw
                  rw [show v6470 19 = v 19 from hf6472 19 (by decide)] at hw
                  have hw_r6476 := hw
                  clear hw
                  have t6481 : 0 ≤ (v6477 19).toInt ∧ (v6477 19).toInt ≤ 500 := hI.1 19 _ _ rfl
                  clear hz1
                  generalize H1 = H at hP hS ⊢
                  refine lv_iconst (v := 1) hx hb dX12_move_129 (by decide) ?_
                  have hP9 : va_P (dC, dI) classes (wM g c v6477 F6478 rc) H := hP
                  exact W.iret (v := 1) hx hb hr (fun t ht hW => ⟨⟨1, (v6477, F6478, rc), rfl, ⟨hI, rfl, (frC (by decide) hf6479 (frC (by decide) hf6472 (fun _ _ => rfl))), hF, (by show JO (v6477 14) (v6477 19) (F6478 13) (F6478 15) (F6478 18); rw [show v6477 14 = v 14 from (hf6479 14 (by decide)).trans (hf6472 14 (by decide))]; exact JO.go hJ hw_r6469 hw_r6476.2.2 (hw_r6476.2.1.trans (congrArg (fun f => upd f _ _) (hG6473 13 (by decide)))) (by omega))⟩, (by show va_P _ _ _ t.heap; rw [ht]; exact hP9)⟩, hS.F ht⟩) hS.2.2 dX12_move_130
                · skip
                  have t6482 := cv_eq (a := (v 19).toInt) rfl (b := 500) (by decide) c6466
                  refine lv_bipush (v := (-3)) hx hb dX12_move_115 (by decide) ?_
                  have hP9 : va_P (dC, dI) classes (wM g c v F rc) H := hP
                  exact W.iret (v := (-3)) hx hb hr (fun t ht hW => ⟨⟨(-3), (v, F, rc), rfl, ⟨hI, rfl, (fun _ _ => rfl), hF, hJ⟩, (by show va_P _ _ _ t.heap; rw [ht]; exact hP9)⟩, hS.F ht⟩) hS.2.2 dX12_move_117
              · skip
                have t6483 := cv_nle (a := 10) (by decide) (b := p1.toInt) rfl c6463
                refine lv_aload_n hx hb dX12_move_64 rfl (lv_at hl 0 rfl) ?_
                refine lv_iload_n hx hb dX12_move_65 rfl (lv_at hl 2 rfl) ?_
                refine va_calli (va_runV (As := [.int p1]) (rest := []) ⟨hx, hb, hml, hown, hwd⟩ (c_X12_isReturned l dC dI g c adK adV v F rc H.size p1 hg hI (by omega)) (cwV 1 hwd (gV wk_313 wk_310 wk_311 wk_312 wk_5) rfl rfl rfl (by decide +kernel) ⟨Nat.le_of_ble_eq_true rfl, Nat.le_of_ble_eq_true rfl⟩) ⟨PM.blind, va_recv hK hP (ci := 12) (q0 := 0) rfl rfl, fun U hU hW => ⟨rfl, PM.at hK hE hP hS hU hW⟩⟩ rfl rfl hl.1 rfl (lv_room (Nat.le_of_ble_eq_true rfl)) dX12_move_66 ⟨Nat.le_of_ble_eq_true rfl, Nat.le_of_ble_eq_true rfl⟩) hS (fun q _ h => (freeM hS) q h) (freeM hS) (fun r6484 u t H1 locs ht hvm hw hB hz1 hk1 hS => ?_)
                unfold BM at hB
                rw [ht] at hB
                have hP : va_P (dC, dI) classes (wM g c v F rc) H1 := hB
                replace hw : (r6484.toInt = 1 ∧ 0 ≤ (F 8 p1.toNatClampNeg).toInt) ∨ (r6484.toInt = 0 ∧ (F 8 p1.toNatClampNeg).toInt < 0) := hw
                have hw_r6484 := hw
                clear hw
                clear hz1
                generalize H1 = H at hP hS ⊢
                refine lv_if_ne (tgt := 102) hx hb dX12_move_69 (by decide) (fun c6485 => ?_) (fun c6485 => ?_)
                · skip
                  have t6486 := cv_ne (a := r6484.toInt) rfl (b := 0) (by decide) c6485
                  refine lv_bipush (v := (-2)) hx hb dX12_move_102 (by decide) ?_
                  have hP9 : va_P (dC, dI) classes (wM g c v F rc) H := hP
                  exact W.iret (v := (-2)) hx hb hr (fun t ht hW => ⟨⟨(-2), (v, F, rc), rfl, ⟨hI, rfl, (fun _ _ => rfl), hF, hJ⟩, (by show va_P _ _ _ t.heap; rw [ht]; exact hP9)⟩, hS.F ht⟩) hS.2.2 dX12_move_104
                · skip
                  have t6487 := cv_eq (a := r6484.toInt) rfl (b := 0) (by decide) c6485
                  refine lv_aload_n hx hb dX12_move_72 rfl (lv_at hl 0 rfl) ?_
                  refine lv_iload_n hx hb dX12_move_73 rfl (lv_at hl 2 rfl) ?_
                  refine lv_aload_n hx hb dX12_move_74 rfl (lv_at hl 0 rfl) ?_
                  refine va_get (D := (dC, dI)) (ci := 12) (v := .ref (g 11)) (C := RX12) (T := TX12) (N := 63) hx hb hwd inA_X12 hown hK hP 0 rfl rfl 15 (by decide) (hwd _ wk_192) (fun _ h9 => h9) rfl dX12_move_75 ?_
                  refine lv_iload_n hx hb dX12_move_78 rfl (lv_at hl 1 rfl) ?_
                  refine va_iald hx hb hK hP 11 10 rfl rfl (i := p0) (vin (a := p0.toInt) rfl (by omega)) dX12_move_79 ?_
                  refine lv_topi (fun z6488 e6489 => ?_)
                  have t6490 : 0 ≤ z6488.toInt ∧ z6488.toInt ≤ 9 := by rw [e6489]; exact hI.2 11 _ _ rfl _
                  have tzz6488 : z6488.toInt = (F 11 (p0 : Int32).toNatClampNeg).toInt := congrArg Int32.toInt e6489
                  refine va_calli (va_runV (As := [.int p1, .int z6488]) (rest := []) ⟨hx, hb, hml, hown, hwd⟩ (c_X12_onIt l dC dI g c adK adV v F rc H.size p1 z6488 hg hI ) (cwV 2 hwd (gV wk_317 wk_314 wk_315 wk_316 wk_5) rfl rfl rfl (by decide +kernel) ⟨Nat.le_of_ble_eq_true rfl, Nat.le_of_ble_eq_true rfl⟩) ⟨PM.blind, va_recv hK hP (ci := 12) (q0 := 0) rfl rfl, fun U hU hW => ⟨rfl, PM.at hK hE hP hS hU hW⟩⟩ rfl rfl hl.1 rfl (lv_room (Nat.le_of_ble_eq_true rfl)) dX12_move_80 ⟨Nat.le_of_ble_eq_true rfl, Nat.le_of_ble_eq_true rfl⟩) hS (fun q _ h => (freeM hS) q h) (freeM hS) (fun r6491 u t H1 locs ht hvm hw hB hz1 hk1 hS => ?_)
                  unfold BM at hB
                  rw [ht] at hB
                  have hP : va_P (dC, dI) classes (wM g c v F rc) H1 := hB
                  clear hz1
                  generalize H1 = H at hP hS ⊢
                  have rr_r6491 := i32_rng r6491
                  refine lv_aload_n hx hb dX12_move_83 rfl (lv_at hl 0 rfl) ?_
                  refine va_get (D := (dC, dI)) (ci := 12) (v := .ref (g 9)) (C := RX12) (T := TX12) (N := 63) hx hb hwd inA_X12 hown hK hP 0 rfl rfl 12 (by decide) (hwd _ wk_190) (fun _ h9 => h9) rfl dX12_move_84 ?_
                  refine lv_bipush (v := 10) hx hb dX12_move_87 (by decide) ?_
                  refine lv_iload_n hx hb dX12_move_89 rfl (lv_at hl 2 rfl) ?_
                  refine lv_imul hx hb dX12_move_90 ?_
                  refine lv_topi (fun z6492 e6493 => ?_)
                  try (have t6494 := tmul e6493 (a := 10) (by decide) (b := p1.toInt) rfl (by omega))
                  refine lv_aload_n hx hb dX12_move_91 rfl (lv_at hl 0 rfl) ?_
                  refine va_get (D := (dC, dI)) (ci := 12) (v := .ref (g 11)) (C := RX12) (T := TX12) (N := 63) hx hb hwd inA_X12 hown hK hP 0 rfl rfl 15 (by decide) (hwd _ wk_192) (fun _ h9 => h9) rfl dX12_move_92 ?_
                  refine lv_iload_n hx hb dX12_move_95 rfl (lv_at hl 1 rfl) ?_
                  refine va_iald hx hb hK hP 11 10 rfl rfl (i := p0) (vin (a := p0.toInt) rfl (by omega)) dX12_move_96 ?_
                  refine lv_topi (fun z6495 e6496 => ?_)
                  have t6497 : 0 ≤ z6495.toInt ∧ z6495.toInt ≤ 9 := by rw [e6496]; exact hI.2 11 _ _ rfl _
                  have tzz6495 : z6495.toInt = (F 11 (p0 : Int32).toNatClampNeg).toInt := congrArg Int32.toInt e6496
                  refine lv_iadd hx hb dX12_move_97 ?_
                  refine lv_topi (fun z6498 e6499 => ?_)
                  try (have t6500 := tadd e6499 (a := z6492.toInt) rfl (b := z6495.toInt) rfl (by omega))
                  refine va_iald hx hb hK hP 9 8 rfl rfl (i := z6498) (vin (a := z6498.toInt) rfl (by omega)) dX12_move_98 ?_
                  refine lv_topi (fun z6501 e6502 => ?_)
                  have tzz6501 : z6501.toInt = (F 9 (z6498 : Int32).toNatClampNeg).toInt := congrArg Int32.toInt e6502
                  refine lv_icmp_lt (tgt := 105) hx hb dX12_move_99 (by decide) (fun c6503 => ?_) (fun c6503 => ?_)
                  · skip
                    have t6504 := cv_lt (a := r6491.toInt) rfl (b := z6501.toInt) rfl c6503
                    refine lv_aload_n hx hb dX12_move_105 rfl (lv_at hl 0 rfl) ?_
                    refine va_get (D := (dC, dI)) (ci := 12) (v := .int (v 19)) (C := RX12) (T := TX12) (N := 63) hx hb hwd inA_X12 hown hK hP 0 rfl rfl 19 (by decide) (hwd _ wk_494) (fun _ h9 => h9) rfl dX12_move_106 ?_
                    have t6505 : 0 ≤ (v 19).toInt ∧ (v 19).toInt ≤ 500 := hI.1 19 _ _ rfl
                    refine lv_sipush (v := 500) hx hb dX12_move_109 (by decide) ?_
                    refine lv_icmp_ne (tgt := 118) hx hb dX12_move_112 (by decide) (fun c6506 => ?_) (fun c6506 => ?_)
                    · skip
                      have t6507 := cv_ne (a := (v 19).toInt) rfl (b := 500) (by decide) c6506
                      refine lv_aload_n hx hb dX12_move_118 rfl (lv_at hl 0 rfl) ?_
                      refine lv_iload_n hx hb dX12_move_119 rfl (lv_at hl 1 rfl) ?_
                      have t6508 : 0 ≤ (v 19).toInt ∧ (v 19).toInt ≤ 500 := hI.1 19 _ _ rfl
                      refine va_callv (va_runV (As := [.int p0]) (rest := []) ⟨hx, hb, hml, hown, hwd⟩ (c_X12_endStay l dC dI g c adK adV v F rc H.size p0 hg hI (by omega) (JO.at' hJ (i := p0) (by omega) (by omega) (by omega))) (cwV 1 hwd (gV wk_635 wk_632 wk_633 wk_634 wk_5) rfl rfl rfl (by decide +kernel) ⟨Nat.le_of_ble_eq_true rfl, Nat.le_of_ble_eq_true rfl⟩) ⟨PM.blind, va_recv hK hP (ci := 12) (q0 := 0) rfl rfl, fun U hU hW => ⟨rfl, PM.at hK hE hP hS hU hW⟩⟩ rfl rfl hl.1 rfl (lv_room (Nat.le_of_ble_eq_true rfl)) dX12_move_120 ⟨Nat.le_of_ble_eq_true rfl, Nat.le_of_ble_eq_true rfl⟩) hS (fun q _ h => (freeM hS) q h) (freeM hS) (fun u t H1 locs ht hvm hw hB hz1 hk1 hS => ?_)
                      unfold BM at hB
                      rw [ht] at hB
                      obtain ⟨v6510, F6511, rc9⟩ := u
                      obtain ⟨hI, hrc, hf6512, hG6513, hw⟩ := hw
                      dsimp only at hI hrc hB hf6512 hG6513 hw
                      have hF := frCF (by decide) hG6513 hF
                      rw [hrc] at hB
                      have hP : va_P (dC, dI) classes (wM g c v6510 F6511 rc) H1 := hB
                      replace hw : ∀ j : Int, j ≠ p0.toInt → hasO (v 19) (F 15) (F 18) j → hasO (v6510 19) (F6511 15) (F6511 18) j := hw
                      rw [show v6510 19 = v 19 from hf6512 19 (by decide)] at hw
                      have hw_r6509 := hw
                      clear hw
                      have t6514 : 0 ≤ (v 19).toInt ∧ (v 19).toInt ≤ 500 := by have h9 := hI.1 19 _ _ rfl; rw [show v6510 19 = v 19 from hf6512 19 (by decide)] at h9; exact h9
                      clear hz1
                      generalize H1 = H at hP hS ⊢
                      refine lv_aload_n hx hb dX12_move_123 rfl (lv_at hl 0 rfl) ?_
                      refine lv_iload_n hx hb dX12_move_124 rfl (lv_at hl 1 rfl) ?_
                      refine lv_iload_n hx hb dX12_move_125 rfl (lv_at hl 2 rfl) ?_
                      have t6515 : 0 ≤ (v 19).toInt ∧ (v 19).toInt ≤ 500 := by have h9 := hI.1 19 _ _ rfl; rw [show v6510 19 = v 19 from hf6512 19 (by decide)] at h9; exact h9
                      refine va_callv (va_runV (As := [.int p0, .int p1]) (rest := []) ⟨hx, hb, hml, hown, hwd⟩ (c_X12_begin l dC dI g c adK adV v6510 F6511 rc H.size p0 p1 hg hI (by omega) (by omega) (by have h9 : v6510 19 = v 19 := hf6512 19 (by decide); rw [h9]; omega)) (cwV 2 hwd (gV wk_595 wk_592 wk_593 wk_594 wk_5) rfl rfl rfl (by decide +kernel) ⟨Nat.le_of_ble_eq_true rfl, Nat.le_of_ble_eq_true rfl⟩) ⟨PM.blind, va_recv hK hP (ci := 12) (q0 := 0) rfl rfl, fun U hU hW => ⟨rfl, PM.at hK hE hP hS hU hW⟩⟩ rfl rfl hl.1 rfl (lv_room (Nat.le_of_ble_eq_true rfl)) dX12_move_126 ⟨Nat.le_of_ble_eq_true rfl, Nat.le_of_ble_eq_true rfl⟩) hS (fun q _ h => (freeM hS) q h) (freeM hS) (fun u t H1 locs ht hvm hw hB hz1 hk1 hS => ?_)
                      unfold BM at hB
                      rw [ht] at hB
                      obtain ⟨v6517, F6518, rc9⟩ := u
                      obtain ⟨hI, hrc, hf6519, hG6520, hw⟩ := hw
                      dsimp only at hI hrc hB hf6519 hG6520 hw
                      have hF := frCF (by decide) hG6520 hF
                      rw [hrc] at hB
                      have hP : va_P (dC, dI) classes (wM g c v6517 F6518 rc) H1 := hB
                      replace hw : (v6517 19).toInt = (v6510 19).toInt + 1 ∧ (F6518 13 = upd (F6511 13) p0.toNatClampNeg p1) ∧ (∀ j : Int, (j = p0.toInt ∨ hasO (v6510 19) (F6511 15) (F6511 18) j) → hasO (v6517 19) (F6518 15) (F6518 18) j) := hw
                      rw [show v6510 19 = v 19 from hf6512 19 (by decide)] at hw
                      have hw_r6516 := hw
                      clear hw
                      have t6521 : 0 ≤ (v6517 19).toInt ∧ (v6517 19).toInt ≤ 500 := hI.1 19 _ _ rfl
                      clear hz1
                      generalize H1 = H at hP hS ⊢
                      refine lv_iconst (v := 1) hx hb dX12_move_129 (by decide) ?_
                      have hP9 : va_P (dC, dI) classes (wM g c v6517 F6518 rc) H := hP
                      exact W.iret (v := 1) hx hb hr (fun t ht hW => ⟨⟨1, (v6517, F6518, rc), rfl, ⟨hI, rfl, (frC (by decide) hf6519 (frC (by decide) hf6512 (fun _ _ => rfl))), hF, (by show JO (v6517 14) (v6517 19) (F6518 13) (F6518 15) (F6518 18); rw [show v6517 14 = v 14 from (hf6519 14 (by decide)).trans (hf6512 14 (by decide))]; exact JO.go hJ hw_r6509 hw_r6516.2.2 (hw_r6516.2.1.trans (congrArg (fun f => upd f _ _) (hG6513 13 (by decide)))) (by omega))⟩, (by show va_P _ _ _ t.heap; rw [ht]; exact hP9)⟩, hS.F ht⟩) hS.2.2 dX12_move_130
                    · skip
                      have t6522 := cv_eq (a := (v 19).toInt) rfl (b := 500) (by decide) c6506
                      refine lv_bipush (v := (-3)) hx hb dX12_move_115 (by decide) ?_
                      have hP9 : va_P (dC, dI) classes (wM g c v F rc) H := hP
                      exact W.iret (v := (-3)) hx hb hr (fun t ht hW => ⟨⟨(-3), (v, F, rc), rfl, ⟨hI, rfl, (fun _ _ => rfl), hF, hJ⟩, (by show va_P _ _ _ t.heap; rw [ht]; exact hP9)⟩, hS.F ht⟩) hS.2.2 dX12_move_117
                  · skip
                    have t6523 := cv_nlt (a := r6491.toInt) rfl (b := z6501.toInt) rfl c6503
                    refine lv_bipush (v := (-2)) hx hb dX12_move_102 (by decide) ?_
                    have hP9 : va_P (dC, dI) classes (wM g c v F rc) H := hP
                    exact W.iret (v := (-2)) hx hb hr (fun t ht hW => ⟨⟨(-2), (v, F, rc), rfl, ⟨hI, rfl, (fun _ _ => rfl), hF, hJ⟩, (by show va_P _ _ _ t.heap; rw [ht]; exact hP9)⟩, hS.F ht⟩) hS.2.2 dX12_move_104
            · skip
              have t6524 := cv_eq (a := z6458.toInt) rfl (b := 12) (by decide) c6461
              refine lv_bipush (v := (-2)) hx hb dX12_move_55 (by decide) ?_
              have hP9 : va_P (dC, dI) classes (wM g c v F rc) H := hP
              exact W.iret (v := (-2)) hx hb hr (fun t ht hW => ⟨⟨(-2), (v, F, rc), rfl, ⟨hI, rfl, (fun _ _ => rfl), hF, hJ⟩, (by show va_P _ _ _ t.heap; rw [ht]; exact hP9)⟩, hS.F ht⟩) hS.2.2 dX12_move_57
        · skip
          have t6525 := cv_eq (a := r6449.toInt) rfl (b := 0) (by decide) c6450
          refine lv_iconst (v := (-1)) hx hb dX12_move_32 (by decide) ?_
          have hP9 : va_P (dC, dI) classes (wM g c v F rc) H := hP
          exact W.iret (v := (-1)) hx hb hr (fun t ht hW => ⟨⟨(-1), (v, F, rc), rfl, ⟨hI, rfl, (fun _ _ => rfl), hF, hJ⟩, (by show va_P _ _ _ t.heap; rw [ht]; exact hP9)⟩, hS.F ht⟩) hS.2.2 dX12_move_33
theorem swq {f : Nat → Int32} {j k : Nat} {x : Int32} (hx : x.toInt ≠ 12) (hk : (f k).toInt ≠ 12) : (upd f j x k).toInt ≠ 12 := by
  by_cases e : k = j
  · rw [e, mu_at]; exact hx
  · rw [mu_ne _ _ e]; exact hk
set_option maxHeartbeats 8000000 in
set_option maxRecDepth 100000 in
theorem c_X12_swap (l : Launch) (dC : Nat → ClassId) (dI : Nat → Nat → Nat) (g : Nat → Nat) (c : Nat → ClassId) (adK adV : Nat → Nat) (v : Nat → Int32) (F : Nat → Nat → Int32) (rc sz : Nat) (p0 : Int32) (p1 : Int32) (hg : injM g) (hI : IM v F) (hJ : JO (v 14) (v 19) (F 13) (F 15) (F 18)) : Met l yX12_swap (Cond.code yX12_swap cX12_swap 4 (some .int) :: wA) ({ frames := 3, cells := 0, slots := 0, locals := 120 }) (va_Pc [.ref (g 0), .int p0, .int p1] (PM dC dI g c adK adV v F rc sz)) (va_Qi (fun (r : Int32) (u : StM) => IM u.1 u.2.1 ∧ u.2.2 = rc ∧ (∀ k, k ∉ ([19] : List Nat) → u.1 k = v k) ∧ (∀ k, k ∉ ([13, 15, 16, 17, 18, 19, 20, 21, 22, 23] : List Nat) → u.2.1 k = F k) ∧ JO (u.1 14) (u.1 19) (u.2.1 13) (u.2.1 15) (u.2.1 18)) (BM dC dI g c) (AM g sz)) 0 0 (AM g sz) := by
  refine Met.ofW (cc := cX12_swap) (maxL := 4) (ret := (some .int)) (by decide) rfl ?_
  intro p e s m args below meth c0 s₁ B hml hv
  obtain ⟨rfl, hsz, hP, hK, hE⟩ := hv
  have hx := B.exec
  have hb := B.bytes
  have hr := B.returns
  have hts := atoms_spec (ws := Cond.code yX12_swap cX12_swap 4 (some .int) :: wA) B.pre
  have hwd : ∀ w ∈ wA, w.before _ s = true := fun w h => hts w (List.mem_cons_of_mem _ h)
  have hown : s.vm.findClass RX12 = some m.cls := findClass_of_methodNamed B.named
  have hlocks := B.notSynchronized
  subst hsz
  have hl := lv_entry ([.ref (g 0), .int p0, .int p1]) (n := 4) (Nat.le_of_ble_eq_true rfl)
  rw [lg_entry_eq]
  generalize (lg_sl ([.ref (g 0), .int p0, .int p1]) ++ List.replicate (4 - (lg_sl ([.ref (g 0), .int p0, .int p1])).length) Slot.unset).toArray = ls at hl ⊢
  have hl : lv_has ls 4 [(0, .ref (g 0)), (1, .int p0), (2, .int p1)] := hl
  obtain ⟨H, eH⟩ : ∃ z, z = s.heap := ⟨_, rfl⟩
  have hP : va_P (dC, dI) classes (wM g c v F rc) H := by rw [eH]; exact hP
  have hS : va_S (AM g s.heap.size) s.heap H [] := by rw [eH]; exact va_S.rf
  refine my_heap eH ?_
  have hF : ∀ k, k ∉ ([13, 15, 16, 17, 18, 19, 20, 21, 22, 23] : List Nat) → F k = F k := fun _ _ => rfl
  have rp0 := i32_rng p0
  have rp1 := i32_rng p1
  have hb14 : 0 ≤ (v 14).toInt ∧ (v 14).toInt ≤ 100 := hI.1 14 _ _ rfl
  have hb19 : 0 ≤ (v 19).toInt ∧ (v 19).toInt ≤ 500 := hI.1 19 _ _ rfl
  refine lv_aload_n hx hb dX12_swap_0 rfl (lv_at hl 0 rfl) ?_
  refine lv_iload_n hx hb dX12_swap_1 rfl (lv_at hl 1 rfl) ?_
  have t6596 : 0 ≤ (v 14).toInt ∧ (v 14).toInt ≤ 100 := hI.1 14 _ _ rfl
  refine va_calli (va_runV (As := [.int p0]) (rest := []) ⟨hx, hb, hml, hown, hwd⟩ (c_X12_isPart l dC dI g c adK adV v F rc H.size p0 hg hI ) (cwV 1 hwd (gV wk_631 wk_628 wk_629 wk_630 wk_5) rfl rfl rfl (by decide +kernel) ⟨Nat.le_of_ble_eq_true rfl, Nat.le_of_ble_eq_true rfl⟩) ⟨PM.blind, va_recv hK hP (ci := 12) (q0 := 0) rfl rfl, fun U hU hW => ⟨rfl, PM.at hK hE hP hS hU hW⟩⟩ rfl rfl hl.1 rfl (lv_room (Nat.le_of_ble_eq_true rfl)) dX12_swap_2 ⟨Nat.le_of_ble_eq_true rfl, Nat.le_of_ble_eq_true rfl⟩) hS (fun q _ h => (freeM hS) q h) (freeM hS) (fun r6597 u t H1 locs ht hvm hw hB hz1 hk1 hS => ?_)
  unfold BM at hB
  rw [ht] at hB
  have hP : va_P (dC, dI) classes (wM g c v F rc) H1 := hB
  replace hw : (r6597.toInt = 1 ∧ 0 ≤ p0.toInt ∧ p0.toInt < (v 14).toInt) ∨ (r6597.toInt = 0 ∧ (p0.toInt < 0 ∨ (v 14).toInt ≤ p0.toInt)) := hw
  have hw_r6597 := hw
  clear hw
  clear hz1
  generalize H1 = H at hP hS ⊢
  refine lv_if_eq (tgt := 16) hx hb dX12_swap_5 (by decide) (fun c6598 => ?_) (fun c6598 => ?_)
  · skip
    have t6599 := cv_eq (a := r6597.toInt) rfl (b := 0) (by decide) c6598
    refine lv_iconst (v := (-1)) hx hb dX12_swap_16 (by decide) ?_
    have hP9 : va_P (dC, dI) classes (wM g c v F rc) H := hP
    exact W.iret (v := (-1)) hx hb hr (fun t ht hW => ⟨⟨(-1), (v, F, rc), rfl, ⟨hI, rfl, (fun _ _ => rfl), hF, hJ⟩, (by show va_P _ _ _ t.heap; rw [ht]; exact hP9)⟩, hS.F ht⟩) hS.2.2 dX12_swap_17
  · skip
    have t6600 := cv_ne (a := r6597.toInt) rfl (b := 0) (by decide) c6598
    refine lv_aload_n hx hb dX12_swap_8 rfl (lv_at hl 0 rfl) ?_
    refine lv_iload_n hx hb dX12_swap_9 rfl (lv_at hl 2 rfl) ?_
    have t6601 : 0 ≤ (v 14).toInt ∧ (v 14).toInt ≤ 100 := hI.1 14 _ _ rfl
    refine va_calli (va_runV (As := [.int p1]) (rest := []) ⟨hx, hb, hml, hown, hwd⟩ (c_X12_isPart l dC dI g c adK adV v F rc H.size p1 hg hI ) (cwV 1 hwd (gV wk_631 wk_628 wk_629 wk_630 wk_5) rfl rfl rfl (by decide +kernel) ⟨Nat.le_of_ble_eq_true rfl, Nat.le_of_ble_eq_true rfl⟩) ⟨PM.blind, va_recv hK hP (ci := 12) (q0 := 0) rfl rfl, fun U hU hW => ⟨rfl, PM.at hK hE hP hS hU hW⟩⟩ rfl rfl hl.1 rfl (lv_room (Nat.le_of_ble_eq_true rfl)) dX12_swap_10 ⟨Nat.le_of_ble_eq_true rfl, Nat.le_of_ble_eq_true rfl⟩) hS (fun q _ h => (freeM hS) q h) (freeM hS) (fun r6602 u t H1 locs ht hvm hw hB hz1 hk1 hS => ?_)
    unfold BM at hB
    rw [ht] at hB
    have hP : va_P (dC, dI) classes (wM g c v F rc) H1 := hB
    replace hw : (r6602.toInt = 1 ∧ 0 ≤ p1.toInt ∧ p1.toInt < (v 14).toInt) ∨ (r6602.toInt = 0 ∧ (p1.toInt < 0 ∨ (v 14).toInt ≤ p1.toInt)) := hw
    have hw_r6602 := hw
    clear hw
    clear hz1
    generalize H1 = H at hP hS ⊢
    refine lv_if_ne (tgt := 18) hx hb dX12_swap_13 (by decide) (fun c6603 => ?_) (fun c6603 => ?_)
    · skip
      have t6604 := cv_ne (a := r6602.toInt) rfl (b := 0) (by decide) c6603
      refine lv_aload_n hx hb dX12_swap_18 rfl (lv_at hl 0 rfl) ?_
      refine va_get (D := (dC, dI)) (ci := 12) (v := .ref (g 13)) (C := RX12) (T := TX12) (N := 63) hx hb hwd inA_X12 hown hK hP 0 rfl rfl 17 (by decide) (hwd _ wk_194) (fun _ h9 => h9) rfl dX12_swap_19 ?_
      refine lv_iload_n hx hb dX12_swap_22 rfl (lv_at hl 1 rfl) ?_
      refine va_iald hx hb hK hP 13 12 rfl rfl (i := p0) (vin (a := p0.toInt) rfl (by omega)) dX12_swap_23 ?_
      refine lv_topi (fun z6605 e6606 => ?_)
      have t6607 : 0 ≤ z6605.toInt ∧ z6605.toInt ≤ 12 := by rw [e6606]; exact hI.2 13 _ _ rfl _
      have tzz6605 : z6605.toInt = (F 13 (p0 : Int32).toNatClampNeg).toInt := congrArg Int32.toInt e6606
      refine lv_bipush (v := 10) hx hb dX12_swap_24 (by decide) ?_
      refine lv_icmp_ge (tgt := 55) hx hb dX12_swap_26 (by decide) (fun c6608 => ?_) (fun c6608 => ?_)
      · skip
        have t6609 := cv_le (a := 10) (by decide) (b := z6605.toInt) rfl c6608
        refine lv_bipush (v := (-2)) hx hb dX12_swap_55 (by decide) ?_
        have hP9 : va_P (dC, dI) classes (wM g c v F rc) H := hP
        exact W.iret (v := (-2)) hx hb hr (fun t ht hW => ⟨⟨(-2), (v, F, rc), rfl, ⟨hI, rfl, (fun _ _ => rfl), hF, hJ⟩, (by show va_P _ _ _ t.heap; rw [ht]; exact hP9)⟩, hS.F ht⟩) hS.2.2 dX12_swap_57
      · skip
        have t6610 := cv_nle (a := 10) (by decide) (b := z6605.toInt) rfl c6608
        refine lv_aload_n hx hb dX12_swap_29 rfl (lv_at hl 0 rfl) ?_
        refine va_get (D := (dC, dI)) (ci := 12) (v := .ref (g 13)) (C := RX12) (T := TX12) (N := 63) hx hb hwd inA_X12 hown hK hP 0 rfl rfl 17 (by decide) (hwd _ wk_194) (fun _ h9 => h9) rfl dX12_swap_30 ?_
        refine lv_iload_n hx hb dX12_swap_33 rfl (lv_at hl 2 rfl) ?_
        refine va_iald hx hb hK hP 13 12 rfl rfl (i := p1) (vin (a := p1.toInt) rfl (by omega)) dX12_swap_34 ?_
        refine lv_topi (fun z6611 e6612 => ?_)
        have t6613 : 0 ≤ z6611.toInt ∧ z6611.toInt ≤ 12 := by rw [e6612]; exact hI.2 13 _ _ rfl _
        have tzz6611 : z6611.toInt = (F 13 (p1 : Int32).toNatClampNeg).toInt := congrArg Int32.toInt e6612
        refine lv_bipush (v := 11) hx hb dX12_swap_35 (by decide) ?_
        refine lv_icmp_ne (tgt := 55) hx hb dX12_swap_37 (by decide) (fun c6614 => ?_) (fun c6614 => ?_)
        · skip
          have t6615 := cv_ne (a := z6611.toInt) rfl (b := 11) (by decide) c6614
          refine lv_bipush (v := (-2)) hx hb dX12_swap_55 (by decide) ?_
          have hP9 : va_P (dC, dI) classes (wM g c v F rc) H := hP
          exact W.iret (v := (-2)) hx hb hr (fun t ht hW => ⟨⟨(-2), (v, F, rc), rfl, ⟨hI, rfl, (fun _ _ => rfl), hF, hJ⟩, (by show va_P _ _ _ t.heap; rw [ht]; exact hP9)⟩, hS.F ht⟩) hS.2.2 dX12_swap_57
        · skip
          have t6616 := cv_eq (a := z6611.toInt) rfl (b := 11) (by decide) c6614
          refine lv_aload_n hx hb dX12_swap_40 rfl (lv_at hl 0 rfl) ?_
          refine va_get (D := (dC, dI)) (ci := 12) (v := .ref (g 11)) (C := RX12) (T := TX12) (N := 63) hx hb hwd inA_X12 hown hK hP 0 rfl rfl 15 (by decide) (hwd _ wk_192) (fun _ h9 => h9) rfl dX12_swap_41 ?_
          refine lv_iload_n hx hb dX12_swap_44 rfl (lv_at hl 1 rfl) ?_
          refine va_iald hx hb hK hP 11 10 rfl rfl (i := p0) (vin (a := p0.toInt) rfl (by omega)) dX12_swap_45 ?_
          refine lv_topi (fun z6617 e6618 => ?_)
          have t6619 : 0 ≤ z6617.toInt ∧ z6617.toInt ≤ 9 := by rw [e6618]; exact hI.2 11 _ _ rfl _
          have tzz6617 : z6617.toInt = (F 11 (p0 : Int32).toNatClampNeg).toInt := congrArg Int32.toInt e6618
          refine lv_aload_n hx hb dX12_swap_46 rfl (lv_at hl 0 rfl) ?_
          refine va_get (D := (dC, dI)) (ci := 12) (v := .ref (g 11)) (C := RX12) (T := TX12) (N := 63) hx hb hwd inA_X12 hown hK hP 0 rfl rfl 15 (by decide) (hwd _ wk_192) (fun _ h9 => h9) rfl dX12_swap_47 ?_
          refine lv_iload_n hx hb dX12_swap_50 rfl (lv_at hl 2 rfl) ?_
          refine va_iald hx hb hK hP 11 10 rfl rfl (i := p1) (vin (a := p1.toInt) rfl (by omega)) dX12_swap_51 ?_
          refine lv_topi (fun z6620 e6621 => ?_)
          have t6622 : 0 ≤ z6620.toInt ∧ z6620.toInt ≤ 9 := by rw [e6621]; exact hI.2 11 _ _ rfl _
          have tzz6620 : z6620.toInt = (F 11 (p1 : Int32).toNatClampNeg).toInt := congrArg Int32.toInt e6621
          refine lv_icmp_eq (tgt := 58) hx hb dX12_swap_52 (by decide) (fun c6623 => ?_) (fun c6623 => ?_)
          · skip
            have t6624 := cv_eq (a := z6617.toInt) rfl (b := z6620.toInt) rfl c6623
            refine lv_aload_n hx hb dX12_swap_58 rfl (lv_at hl 0 rfl) ?_
            refine va_get (D := (dC, dI)) (ci := 12) (v := .int (v 19)) (C := RX12) (T := TX12) (N := 63) hx hb hwd inA_X12 hown hK hP 0 rfl rfl 19 (by decide) (hwd _ wk_494) (fun _ h9 => h9) rfl dX12_swap_59 ?_
            have t6625 : 0 ≤ (v 19).toInt ∧ (v 19).toInt ≤ 500 := hI.1 19 _ _ rfl
            refine lv_iconst (v := 2) hx hb dX12_swap_62 (by decide) ?_
            refine lv_iadd hx hb dX12_swap_63 ?_
            refine lv_topi (fun z6626 e6627 => ?_)
            try (have t6628 := tadd e6627 (a := (v 19).toInt) rfl (b := 2) (by decide) (by omega))
            refine lv_sipush (v := 500) hx hb dX12_swap_64 (by decide) ?_
            refine lv_icmp_le (tgt := 73) hx hb dX12_swap_67 (by decide) (fun c6629 => ?_) (fun c6629 => ?_)
            · skip
              have t6630 := cv_le (a := z6626.toInt) rfl (b := 500) (by decide) c6629
              refine lv_aload_n hx hb dX12_swap_73 rfl (lv_at hl 0 rfl) ?_
              refine va_get (D := (dC, dI)) (ci := 12) (v := .ref (g 13)) (C := RX12) (T := TX12) (N := 63) hx hb hwd inA_X12 hown hK hP 0 rfl rfl 17 (by decide) (hwd _ wk_194) (fun _ h9 => h9) rfl dX12_swap_74 ?_
              refine lv_iload_n hx hb dX12_swap_77 rfl (lv_at hl 1 rfl) ?_
              refine va_iald hx hb hK hP 13 12 rfl rfl (i := p0) (vin (a := p0.toInt) rfl (by omega)) dX12_swap_78 ?_
              refine lv_topi (fun z6631 e6632 => ?_)
              have t6633 : 0 ≤ z6631.toInt ∧ z6631.toInt ≤ 12 := by rw [e6632]; exact hI.2 13 _ _ rfl _
              have tzz6631 : z6631.toInt = (F 13 (p0 : Int32).toNatClampNeg).toInt := congrArg Int32.toInt e6632
              refine lv_istore_n (lv' := [(3, .int z6631), (0, .ref (g 0)), (1, .int p0), (2, .int p1)]) hx hb dX12_swap_79 rfl hl (by decide) rfl (fun ls hl => ?_)
              refine lv_aload_n hx hb dX12_swap_80 rfl (lv_at hl 1 rfl) ?_
              refine lv_iload_n hx hb dX12_swap_81 rfl (lv_at hl 2 rfl) ?_
              have t6634 : 0 ≤ (v 19).toInt ∧ (v 19).toInt ≤ 500 := hI.1 19 _ _ rfl
              refine va_callv (va_runV (As := [.int p0]) (rest := []) ⟨hx, hb, hml, hown, hwd⟩ (c_X12_endStay l dC dI g c adK adV v F rc H.size p0 hg hI (by omega) (JO.at' hJ (i := p0) (by omega) (by omega) (by omega))) (cwV 1 hwd (gV wk_635 wk_632 wk_633 wk_634 wk_5) rfl rfl rfl (by decide +kernel) ⟨Nat.le_of_ble_eq_true rfl, Nat.le_of_ble_eq_true rfl⟩) ⟨PM.blind, va_recv hK hP (ci := 12) (q0 := 0) rfl rfl, fun U hU hW => ⟨rfl, PM.at hK hE hP hS hU hW⟩⟩ rfl rfl hl.1 rfl (lv_room (Nat.le_of_ble_eq_true rfl)) dX12_swap_82 ⟨Nat.le_of_ble_eq_true rfl, Nat.le_of_ble_eq_true rfl⟩) hS (fun q _ h => (freeM hS) q h) (freeM hS) (fun u t H1 locs ht hvm hw hB hz1 hk1 hS => ?_)
              unfold BM at hB
              rw [ht] at hB
              obtain ⟨v6636, F6637, rc9⟩ := u
              obtain ⟨hI, hrc, hf6638, hG6639, hw⟩ := hw
              dsimp only at hI hrc hB hf6638 hG6639 hw
              have hF := frCF (by decide) hG6639 hF
              rw [hrc] at hB
              have hP : va_P (dC, dI) classes (wM g c v6636 F6637 rc) H1 := hB
              replace hw : ∀ j : Int, j ≠ p0.toInt → hasO (v 19) (F 15) (F 18) j → hasO (v6636 19) (F6637 15) (F6637 18) j := hw
              rw [show v6636 19 = v 19 from hf6638 19 (by decide)] at hw
              have hw_r6635 := hw
              clear hw
              have t6640 : 0 ≤ (v 19).toInt ∧ (v 19).toInt ≤ 500 := by have h9 := hI.1 19 _ _ rfl; rw [show v6636 19 = v 19 from hf6638 19 (by decide)] at h9; exact h9
              clear hz1
              generalize H1 = H at hP hS ⊢
              refine lv_aload_n hx hb dX12_swap_85 rfl (lv_at hl 1 rfl) ?_
              refine lv_iload_n hx hb dX12_swap_86 rfl (lv_at hl 2 rfl) ?_
              refine lv_bipush (v := 11) hx hb dX12_swap_87 (by decide) ?_
              have t6641 : 0 ≤ (v 19).toInt ∧ (v 19).toInt ≤ 500 := by have h9 := hI.1 19 _ _ rfl; rw [show v6636 19 = v 19 from hf6638 19 (by decide)] at h9; exact h9
              refine va_callv (va_runV (As := [.int p0, .int 11]) (rest := []) ⟨hx, hb, hml, hown, hwd⟩ (c_X12_begin l dC dI g c adK adV v6636 F6637 rc H.size p0 11 hg hI (by omega) (by have : (11 : Int32).toInt = 11 := (by decide); omega) (by have h9 : v6636 19 = v 19 := hf6638 19 (by decide); rw [h9]; omega)) (cwV 2 hwd (gV wk_595 wk_592 wk_593 wk_594 wk_5) rfl rfl rfl (by decide +kernel) ⟨Nat.le_of_ble_eq_true rfl, Nat.le_of_ble_eq_true rfl⟩) ⟨PM.blind, va_recv hK hP (ci := 12) (q0 := 0) rfl rfl, fun U hU hW => ⟨rfl, PM.at hK hE hP hS hU hW⟩⟩ rfl rfl hl.1 rfl (lv_room (Nat.le_of_ble_eq_true rfl)) dX12_swap_89 ⟨Nat.le_of_ble_eq_true rfl, Nat.le_of_ble_eq_true rfl⟩) hS (fun q _ h => (freeM hS) q h) (freeM hS) (fun u t H1 locs ht hvm hw hB hz1 hk1 hS => ?_)
              unfold BM at hB
              rw [ht] at hB
              obtain ⟨v6643, F6644, rc9⟩ := u
              obtain ⟨hI, hrc, hf6645, hG6646, hw⟩ := hw
              dsimp only at hI hrc hB hf6645 hG6646 hw
              have hF := frCF (by decide) hG6646 hF
              rw [hrc] at hB
              have hP : va_P (dC, dI) classes (wM g c v6643 F6644 rc) H1 := hB
              replace hw : (v6643 19).toInt = (v6636 19).toInt + 1 ∧ (F6644 13 = upd (F6637 13) p0.toNatClampNeg (11 : Int32)) ∧ (∀ j : Int, (j = p0.toInt ∨ hasO (v6636 19) (F6637 15) (F6637 18) j) → hasO (v6643 19) (F6644 15) (F6644 18) j) := hw
              rw [show v6636 19 = v 19 from hf6638 19 (by decide)] at hw
              have hw_r6642 := hw
              clear hw
              have t6647 : 0 ≤ (v6643 19).toInt ∧ (v6643 19).toInt ≤ 500 := hI.1 19 _ _ rfl
              have k6648 : (11 : Int32).toInt = 11 := by decide
              clear hz1
              generalize H1 = H at hP hS ⊢
              refine lv_aload_n hx hb dX12_swap_92 rfl (lv_at hl 1 rfl) ?_
              refine lv_iload_n hx hb dX12_swap_93 rfl (lv_at hl 3 rfl) ?_
              have t6649 : 0 ≤ (v6643 19).toInt ∧ (v6643 19).toInt ≤ 500 := hI.1 19 _ _ rfl
              refine va_callv (va_runV (As := [.int p1]) (rest := []) ⟨hx, hb, hml, hown, hwd⟩ (c_X12_endStay l dC dI g c adK adV v6643 F6644 rc H.size p1 hg hI (by omega) (JO.at' (JO.go hJ hw_r6635 hw_r6642.2.2 (hw_r6642.2.1.trans (congrArg (fun f => upd f _ _) (hG6639 13 (by decide)))) (by omega)) (i := p1) (by omega) (by omega) (by rw [hw_r6642.2.1, hG6639 13 (by decide)]; exact swq (by decide) (by omega)))) (cwV 1 hwd (gV wk_635 wk_632 wk_633 wk_634 wk_5) rfl rfl rfl (by decide +kernel) ⟨Nat.le_of_ble_eq_true rfl, Nat.le_of_ble_eq_true rfl⟩) ⟨PM.blind, va_recv hK hP (ci := 12) (q0 := 0) rfl rfl, fun U hU hW => ⟨rfl, PM.at hK hE hP hS hU hW⟩⟩ rfl rfl hl.1 rfl (lv_room (Nat.le_of_ble_eq_true rfl)) dX12_swap_94 ⟨Nat.le_of_ble_eq_true rfl, Nat.le_of_ble_eq_true rfl⟩) hS (fun q _ h => (freeM hS) q h) (freeM hS) (fun u t H1 locs ht hvm hw hB hz1 hk1 hS => ?_)
              unfold BM at hB
              rw [ht] at hB
              obtain ⟨v6651, F6652, rc9⟩ := u
              obtain ⟨hI, hrc, hf6653, hG6654, hw⟩ := hw
              dsimp only at hI hrc hB hf6653 hG6654 hw
              have hF := frCF (by decide) hG6654 hF
              rw [hrc] at hB
              have hP : va_P (dC, dI) classes (wM g c v6651 F6652 rc) H1 := hB
              replace hw : ∀ j : Int, j ≠ p1.toInt → hasO (v6643 19) (F6644 15) (F6644 18) j → hasO (v6651 19) (F6652 15) (F6652 18) j := hw
              rw [show v6651 19 = v6643 19 from hf6653 19 (by decide)] at hw
              have hw_r6650 := hw
              clear hw
              have t6655 : 0 ≤ (v6643 19).toInt ∧ (v6643 19).toInt ≤ 500 := by have h9 := hI.1 19 _ _ rfl; rw [show v6651 19 = v6643 19 from hf6653 19 (by decide)] at h9; exact h9
              clear hz1
              generalize H1 = H at hP hS ⊢
              refine lv_aload_n hx hb dX12_swap_97 rfl (lv_at hl 1 rfl) ?_
              refine lv_iload_n hx hb dX12_swap_98 rfl (lv_at hl 3 rfl) ?_
              refine lv_iload_n hx hb dX12_swap_99 rfl (lv_at hl 0 rfl) ?_
              have t6656 : 0 ≤ (v6643 19).toInt ∧ (v6643 19).toInt ≤ 500 := by have h9 := hI.1 19 _ _ rfl; rw [show v6651 19 = v6643 19 from hf6653 19 (by decide)] at h9; exact h9
              refine va_callv (va_runV (As := [.int p1, .int z6631]) (rest := []) ⟨hx, hb, hml, hown, hwd⟩ (c_X12_begin l dC dI g c adK adV v6651 F6652 rc H.size p1 z6631 hg hI (by omega) (by omega) (by have h9 : v6651 19 = v6643 19 := hf6653 19 (by decide); rw [h9]; omega)) (cwV 2 hwd (gV wk_595 wk_592 wk_593 wk_594 wk_5) rfl rfl rfl (by decide +kernel) ⟨Nat.le_of_ble_eq_true rfl, Nat.le_of_ble_eq_true rfl⟩) ⟨PM.blind, va_recv hK hP (ci := 12) (q0 := 0) rfl rfl, fun U hU hW => ⟨rfl, PM.at hK hE hP hS hU hW⟩⟩ rfl rfl hl.1 rfl (lv_room (Nat.le_of_ble_eq_true rfl)) dX12_swap_100 ⟨Nat.le_of_ble_eq_true rfl, Nat.le_of_ble_eq_true rfl⟩) hS (fun q _ h => (freeM hS) q h) (freeM hS) (fun u t H1 locs ht hvm hw hB hz1 hk1 hS => ?_)
              unfold BM at hB
              rw [ht] at hB
              obtain ⟨v6658, F6659, rc9⟩ := u
              obtain ⟨hI, hrc, hf6660, hG6661, hw⟩ := hw
              dsimp only at hI hrc hB hf6660 hG6661 hw
              have hF := frCF (by decide) hG6661 hF
              rw [hrc] at hB
              have hP : va_P (dC, dI) classes (wM g c v6658 F6659 rc) H1 := hB
              replace hw : (v6658 19).toInt = (v6651 19).toInt + 1 ∧ (F6659 13 = upd (F6652 13) p1.toNatClampNeg z6631) ∧ (∀ j : Int, (j = p1.toInt ∨ hasO (v6651 19) (F6652 15) (F6652 18) j) → hasO (v6658 19) (F6659 15) (F6659 18) j) := hw
              rw [show v6651 19 = v6643 19 from hf6653 19 (by decide)] at hw
              have hw_r6657 := hw
              clear hw
              have t6662 : 0 ≤ (v6658 19).toInt ∧ (v6658 19).toInt ≤ 500 := hI.1 19 _ _ rfl
              clear hz1
              generalize H1 = H at hP hS ⊢
              refine lv_iconst (v := 1) hx hb dX12_swap_103 (by decide) ?_
              have hP9 : va_P (dC, dI) classes (wM g c v6658 F6659 rc) H := hP
              exact W.iret (v := 1) hx hb hr (fun t ht hW => ⟨⟨1, (v6658, F6659, rc), rfl, ⟨hI, rfl, (frC (by decide) hf6660 (frC (by decide) hf6653 (frC (by decide) hf6645 (frC (by decide) hf6638 (fun _ _ => rfl))))), hF, (by show JO (v6658 14) (v6658 19) (F6659 13) (F6659 15) (F6659 18); rw [show v6658 14 = v 14 from (hf6660 14 (by decide)).trans ((hf6653 14 (by decide)).trans ((hf6645 14 (by decide)).trans (hf6638 14 (by decide))))]; exact JO.go (JO.go hJ hw_r6635 hw_r6642.2.2 (hw_r6642.2.1.trans (congrArg (fun f => upd f _ _) (hG6639 13 (by decide)))) (by omega)) hw_r6650 hw_r6657.2.2 (hw_r6657.2.1.trans (congrArg (fun f => upd f _ _) (hG6654 13 (by decide)))) (by omega))⟩, (by show va_P _ _ _ t.heap; rw [ht]; exact hP9)⟩, hS.F ht⟩) hS.2.2 dX12_swap_104
            · skip
              have t6663 := cv_nle (a := z6626.toInt) rfl (b := 500) (by decide) c6629
              refine lv_bipush (v := (-3)) hx hb dX12_swap_70 (by decide) ?_
              have hP9 : va_P (dC, dI) classes (wM g c v F rc) H := hP
              exact W.iret (v := (-3)) hx hb hr (fun t ht hW => ⟨⟨(-3), (v, F, rc), rfl, ⟨hI, rfl, (fun _ _ => rfl), hF, hJ⟩, (by show va_P _ _ _ t.heap; rw [ht]; exact hP9)⟩, hS.F ht⟩) hS.2.2 dX12_swap_72
          · skip
            have t6664 := cv_ne (a := z6617.toInt) rfl (b := z6620.toInt) rfl c6623
            refine lv_bipush (v := (-2)) hx hb dX12_swap_55 (by decide) ?_
            have hP9 : va_P (dC, dI) classes (wM g c v F rc) H := hP
            exact W.iret (v := (-2)) hx hb hr (fun t ht hW => ⟨⟨(-2), (v, F, rc), rfl, ⟨hI, rfl, (fun _ _ => rfl), hF, hJ⟩, (by show va_P _ _ _ t.heap; rw [ht]; exact hP9)⟩, hS.F ht⟩) hS.2.2 dX12_swap_57
    · skip
      have t6665 := cv_eq (a := r6602.toInt) rfl (b := 0) (by decide) c6603
      refine lv_iconst (v := (-1)) hx hb dX12_swap_16 (by decide) ?_
      have hP9 : va_P (dC, dI) classes (wM g c v F rc) H := hP
      exact W.iret (v := (-1)) hx hb hr (fun t ht hW => ⟨⟨(-1), (v, F, rc), rfl, ⟨hI, rfl, (fun _ _ => rfl), hF, hJ⟩, (by show va_P _ _ _ t.heap; rw [ht]; exact hP9)⟩, hS.F ht⟩) hS.2.2 dX12_swap_17
