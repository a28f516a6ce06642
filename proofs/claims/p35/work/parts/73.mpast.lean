set_option maxHeartbeats 8000000 in
set_option maxRecDepth 100000 in
theorem c_X12_past (l : Launch) (dC : Nat → ClassId) (dI : Nat → Nat → Nat) (g : Nat → Nat) (c : Nat → ClassId) (adK adV : Nat → Nat) (v : Nat → Int32) (F : Nat → Nat → Int32) (rc sz : Nat) (p0 : Int32) (p1 : Int32) (p2 : Int32) (p3 : Int32) (p4 : Int32) (p5 : Int32) (hg : injM g) (hI : IM v F) (hJ : JO (v 14) (v 19) (F 13) (F 15) (F 18)) : Met l yX12_past (Cond.code yX12_past cX12_past 10 (some .int) :: wA) ({ frames := 3, cells := 0, slots := 0, locals := 120 }) (va_Pc [.ref (g 0), .int p0, .int p1, .int p2, .int p3, .int p4, .int p5] (PM dC dI g c adK adV v F rc sz)) (va_Qi (fun (r : Int32) (u : StM) => IM u.1 u.2.1 ∧ u.2.2 = rc ∧ (∀ k, k ∉ ([19] : List Nat) → u.1 k = v k) ∧ (∀ k, k ∉ ([15, 16, 17, 18, 19, 20, 21, 22, 23] : List Nat) → u.2.1 k = F k) ∧ JO (u.1 14) (u.1 19) (u.2.1 13) (u.2.1 15) (u.2.1 18)) (BM dC dI g c) (AM g sz)) 0 0 (AM g sz) := by
  refine Met.ofW (cc := cX12_past) (maxL := 10) (ret := (some .int)) (by decide) rfl ?_
  intro p e s m args below meth c0 s₁ B hml hv
  obtain ⟨rfl, hsz, hP, hK, hE⟩ := hv
  have hx := B.exec
  have hb := B.bytes
  have hr := B.returns
  have hts := atoms_spec (ws := Cond.code yX12_past cX12_past 10 (some .int) :: wA) B.pre
  have hwd : ∀ w ∈ wA, w.before _ s = true := fun w h => hts w (List.mem_cons_of_mem _ h)
  have hown : s.vm.findClass RX12 = some m.cls := findClass_of_methodNamed B.named
  have hlocks := B.notSynchronized
  subst hsz
  have hl := lv_entry ([.ref (g 0), .int p0, .int p1, .int p2, .int p3, .int p4, .int p5]) (n := 10) (Nat.le_of_ble_eq_true rfl)
  rw [lg_entry_eq]
  generalize (lg_sl ([.ref (g 0), .int p0, .int p1, .int p2, .int p3, .int p4, .int p5]) ++ List.replicate (10 - (lg_sl ([.ref (g 0), .int p0, .int p1, .int p2, .int p3, .int p4, .int p5])).length) Slot.unset).toArray = ls at hl ⊢
  have hl : lv_has ls 10 [(0, .ref (g 0)), (1, .int p0), (2, .int p1), (3, .int p2), (4, .int p3), (5, .int p4), (6, .int p5)] := hl
  obtain ⟨H, eH⟩ : ∃ z, z = s.heap := ⟨_, rfl⟩
  have hP : va_P (dC, dI) classes (wM g c v F rc) H := by rw [eH]; exact hP
  have hS : va_S (AM g s.heap.size) s.heap H [] := by rw [eH]; exact va_S.rf
  refine my_heap eH ?_
  have hF : ∀ k, k ∉ ([15, 16, 17, 18, 19, 20, 21, 22, 23] : List Nat) → F k = F k := fun _ _ => rfl
  have rp0 := i32_rng p0
  have rp1 := i32_rng p1
  have rp2 := i32_rng p2
  have rp3 := i32_rng p3
  have rp4 := i32_rng p4
  have rp5 := i32_rng p5
  have hb14 : 0 ≤ (v 14).toInt ∧ (v 14).toInt ≤ 100 := hI.1 14 _ _ rfl
  have hb19 : 0 ≤ (v 19).toInt ∧ (v 19).toInt ≤ 500 := hI.1 19 _ _ rfl
  refine lv_aload_n hx hb dX12_past_0 rfl (lv_at hl 0 rfl) ?_
  refine lv_iload_n hx hb dX12_past_1 rfl (lv_at hl 1 rfl) ?_
  have t7155 : 0 ≤ (v 14).toInt ∧ (v 14).toInt ≤ 100 := hI.1 14 _ _ rfl
  refine va_calli (va_runV (As := [.int p0]) (rest := []) ⟨hx, hb, hml, hown, hwd⟩ (c_X12_isPart l dC dI g c adK adV v F rc H.size p0 hg hI ) (cwV 1 hwd (gV wk_631 wk_628 wk_629 wk_630 wk_5) rfl rfl rfl (by decide +kernel) ⟨Nat.le_of_ble_eq_true rfl, Nat.le_of_ble_eq_true rfl⟩) ⟨PM.blind, va_recv hK hP (ci := 12) (q0 := 0) rfl rfl, fun U hU hW => ⟨rfl, PM.at hK hE hP hS hU hW⟩⟩ rfl rfl hl.1 rfl (lv_room (Nat.le_of_ble_eq_true rfl)) dX12_past_2 ⟨Nat.le_of_ble_eq_true rfl, Nat.le_of_ble_eq_true rfl⟩) hS (fun q _ h => (freeM hS) q h) (freeM hS) (fun r7156 u t H1 locs ht hvm hw hB hz1 hk1 hS => ?_)
  unfold BM at hB
  rw [ht] at hB
  have hP : va_P (dC, dI) classes (wM g c v F rc) H1 := hB
  replace hw : (r7156.toInt = 1 ∧ 0 ≤ p0.toInt ∧ p0.toInt < (v 14).toInt) ∨ (r7156.toInt = 0 ∧ (p0.toInt < 0 ∨ (v 14).toInt ≤ p0.toInt)) := hw
  have hw_r7156 := hw
  clear hw
  clear hz1
  generalize H1 = H at hP hS ⊢
  refine lv_if_eq (tgt := 36) hx hb dX12_past_5 (by decide) (fun c7157 => ?_) (fun c7157 => ?_)
  · skip
    have t7158 := cv_eq (a := r7156.toInt) rfl (b := 0) (by decide) c7157
    refine lv_iconst (v := (-1)) hx hb dX12_past_36 (by decide) ?_
    have hP9 : va_P (dC, dI) classes (wM g c v F rc) H := hP
    exact W.iret (v := (-1)) hx hb hr (fun t ht hW => ⟨⟨(-1), (v, F, rc), rfl, ⟨hI, rfl, (fun _ _ => rfl), hF, hJ⟩, (by show va_P _ _ _ t.heap; rw [ht]; exact hP9)⟩, hS.F ht⟩) hS.2.2 dX12_past_37
  · skip
    have t7159 := cv_ne (a := r7156.toInt) rfl (b := 0) (by decide) c7157
    refine lv_iload_n hx hb dX12_past_8 rfl (lv_at hl 2 rfl) ?_
    refine lv_iconst (v := 0) hx hb dX12_past_9 (by decide) ?_
    refine lv_bipush (v := 11) hx hb dX12_past_10 (by decide) ?_
    refine va_calli (va_runS (As := [.int p1, .int 0, .int 11]) (rest := []) ⟨hx, hb, hml, hown, hwd⟩ (c_X12_in l dC dI g c adK adV v F rc H.size p1 0 11 hg hI ) (va_cwS 3 hwd (gT wk_254 wk_252 wk_253 wk_5) rfl rfl rfl (by decide +kernel) ⟨Nat.le_of_ble_eq_true rfl, Nat.le_of_ble_eq_true rfl⟩) ⟨PM.blind, fun U hU hW => ⟨rfl, PM.at hK hE hP hS hU hW⟩⟩ rfl rfl hl.1 rfl (lv_room (Nat.le_of_ble_eq_true rfl)) dX12_past_12 ⟨Nat.le_of_ble_eq_true rfl, Nat.le_of_ble_eq_true rfl⟩) hS (fun q _ h => (freeM hS) q h) (freeM hS) (fun r7160 u t H1 locs ht hvm hw hB hz1 hk1 hS => ?_)
    unfold BM at hB
    rw [ht] at hB
    have hP : va_P (dC, dI) classes (wM g c v F rc) H1 := hB
    have hw_r7160 : (r7160.toInt = 1 ∧ (0 : Int32).toInt ≤ p1.toInt ∧ p1.toInt ≤ (11 : Int32).toInt) ∨ (r7160.toInt = 0 ∧ (p1.toInt < (0 : Int32).toInt ∨ (11 : Int32).toInt < p1.toInt)) := hw
    clear hw
    have k7161 : (0 : Int32).toInt = 0 := by decide
    have k7162 : (11 : Int32).toInt = 11 := by decide
    clear hz1
    generalize H1 = H at hP hS ⊢
    refine lv_if_eq (tgt := 36) hx hb dX12_past_15 (by decide) (fun c7163 => ?_) (fun c7163 => ?_)
    · skip
      have t7164 := cv_eq (a := r7160.toInt) rfl (b := 0) (by decide) c7163
      refine lv_iconst (v := (-1)) hx hb dX12_past_36 (by decide) ?_
      have hP9 : va_P (dC, dI) classes (wM g c v F rc) H := hP
      exact W.iret (v := (-1)) hx hb hr (fun t ht hW => ⟨⟨(-1), (v, F, rc), rfl, ⟨hI, rfl, (fun _ _ => rfl), hF, hJ⟩, (by show va_P _ _ _ t.heap; rw [ht]; exact hP9)⟩, hS.F ht⟩) hS.2.2 dX12_past_37
    · skip
      have t7165 := cv_ne (a := r7160.toInt) rfl (b := 0) (by decide) c7163
      refine lv_iload_n hx hb dX12_past_18 rfl (lv_at hl 2 rfl) ?_
      refine lv_bipush (v := 10) hx hb dX12_past_19 (by decide) ?_
      refine lv_icmp_ge (tgt := 32) hx hb dX12_past_21 (by decide) (fun c7166 => ?_) (fun c7166 => ?_)
      · skip
        have t7167 := cv_le (a := 10) (by decide) (b := p1.toInt) rfl c7166
        refine lv_iload_n hx hb dX12_past_32 rfl (lv_at hl 3 rfl) ?_
        refine lv_if_ge (tgt := 38) hx hb dX12_past_33 (by decide) (fun c7168 => ?_) (fun c7168 => ?_)
        · skip
          have t7169 := cv_le (a := 0) (by decide) (b := p2.toInt) rfl c7168
          refine lv_iload_n hx hb dX12_past_38 rfl (lv_at hl 3 rfl) ?_
          refine lv_sipush (v := 20000) hx hb dX12_past_39 (by decide) ?_
          refine lv_idiv hx hb dX12_past_42 (by decide) ?_
          refine lv_topi (fun z7170 e7171 => ?_)
          refine lv_istore (lv' := [(7, .int z7170), (0, .ref (g 0)), (1, .int p0), (2, .int p1), (3, .int p2), (4, .int p3), (5, .int p4), (6, .int p5)]) hx hb dX12_past_43 hl (by decide) rfl (fun ls hl => ?_)
          refine lv_iload_n hx hb dX12_past_45 rfl (lv_at hl 4 rfl) ?_
          refine lv_sipush (v := 20000) hx hb dX12_past_46 (by decide) ?_
          refine lv_irem hx hb dX12_past_49 (by decide) ?_
          refine lv_topi (fun z7173 e7174 => ?_)
          refine lv_istore (lv' := [(8, .int z7173), (7, .int z7170), (0, .ref (g 0)), (1, .int p0), (2, .int p1), (3, .int p2), (4, .int p3), (5, .int p4), (6, .int p5)]) hx hb dX12_past_50 hl (by decide) rfl (fun ls hl => ?_)
          refine lv_iload hx hb dX12_past_52 (lv_at hl 1 rfl) ?_
          refine lv_iconst (v := 0) hx hb dX12_past_54 (by decide) ?_
          refine lv_sipush (v := 9999) hx hb dX12_past_55 (by decide) ?_
          refine va_calli (va_runS (As := [.int z7170, .int 0, .int 9999]) (rest := []) ⟨hx, hb, hml, hown, hwd⟩ (c_X12_in l dC dI g c adK adV v F rc H.size z7170 0 9999 hg hI ) (va_cwS 3 hwd (gT wk_254 wk_252 wk_253 wk_5) rfl rfl rfl (by decide +kernel) ⟨Nat.le_of_ble_eq_true rfl, Nat.le_of_ble_eq_true rfl⟩) ⟨PM.blind, fun U hU hW => ⟨rfl, PM.at hK hE hP hS hU hW⟩⟩ rfl rfl hl.1 rfl (lv_room (Nat.le_of_ble_eq_true rfl)) dX12_past_58 ⟨Nat.le_of_ble_eq_true rfl, Nat.le_of_ble_eq_true rfl⟩) hS (fun q _ h => (freeM hS) q h) (freeM hS) (fun r7176 u t H1 locs ht hvm hw hB hz1 hk1 hS => ?_)
          unfold BM at hB
          rw [ht] at hB
          have hP : va_P (dC, dI) classes (wM g c v F rc) H1 := hB
          have hw_r7176 : (r7176.toInt = 1 ∧ (0 : Int32).toInt ≤ z7170.toInt ∧ z7170.toInt ≤ (9999 : Int32).toInt) ∨ (r7176.toInt = 0 ∧ (z7170.toInt < (0 : Int32).toInt ∨ (9999 : Int32).toInt < z7170.toInt)) := hw
          clear hw
          have k7177 : (0 : Int32).toInt = 0 := by decide
          have k7178 : (9999 : Int32).toInt = 9999 := by decide
          clear hz1
          generalize H1 = H at hP hS ⊢
          refine lv_if_eq (tgt := 110) hx hb dX12_past_61 (by decide) (fun c7179 => ?_) (fun c7179 => ?_)
          · skip
            have t7180 := cv_eq (a := r7176.toInt) rfl (b := 0) (by decide) c7179
            refine lv_iconst (v := (-1)) hx hb dX12_past_110 (by decide) ?_
            have hP9 : va_P (dC, dI) classes (wM g c v F rc) H := hP
            exact W.iret (v := (-1)) hx hb hr (fun t ht hW => ⟨⟨(-1), (v, F, rc), rfl, ⟨hI, rfl, (fun _ _ => rfl), hF, hJ⟩, (by show va_P _ _ _ t.heap; rw [ht]; exact hP9)⟩, hS.F ht⟩) hS.2.2 dX12_past_111
          · skip
            have t7181 := cv_ne (a := r7176.toInt) rfl (b := 0) (by decide) c7179
            refine lv_iload hx hb dX12_past_64 (lv_at hl 0 rfl) ?_
            refine lv_iload hx hb dX12_past_66 (lv_at hl 1 rfl) ?_
            refine lv_sipush (v := 9999) hx hb dX12_past_68 (by decide) ?_
            refine va_calli (va_runS (As := [.int z7173, .int z7170, .int 9999]) (rest := []) ⟨hx, hb, hml, hown, hwd⟩ (c_X12_in l dC dI g c adK adV v F rc H.size z7173 z7170 9999 hg hI ) (va_cwS 3 hwd (gT wk_254 wk_252 wk_253 wk_5) rfl rfl rfl (by decide +kernel) ⟨Nat.le_of_ble_eq_true rfl, Nat.le_of_ble_eq_true rfl⟩) ⟨PM.blind, fun U hU hW => ⟨rfl, PM.at hK hE hP hS hU hW⟩⟩ rfl rfl hl.1 rfl (lv_room (Nat.le_of_ble_eq_true rfl)) dX12_past_71 ⟨Nat.le_of_ble_eq_true rfl, Nat.le_of_ble_eq_true rfl⟩) hS (fun q _ h => (freeM hS) q h) (freeM hS) (fun r7182 u t H1 locs ht hvm hw hB hz1 hk1 hS => ?_)
            unfold BM at hB
            rw [ht] at hB
            have hP : va_P (dC, dI) classes (wM g c v F rc) H1 := hB
            have hw_r7182 : (r7182.toInt = 1 ∧ z7170.toInt ≤ z7173.toInt ∧ z7173.toInt ≤ (9999 : Int32).toInt) ∨ (r7182.toInt = 0 ∧ (z7173.toInt < z7170.toInt ∨ (9999 : Int32).toInt < z7173.toInt)) := hw
            clear hw
            have k7183 : (9999 : Int32).toInt = 9999 := by decide
            clear hz1
            generalize H1 = H at hP hS ⊢
            refine lv_if_eq (tgt := 110) hx hb dX12_past_74 (by decide) (fun c7184 => ?_) (fun c7184 => ?_)
            · skip
              have t7185 := cv_eq (a := r7182.toInt) rfl (b := 0) (by decide) c7184
              refine lv_iconst (v := (-1)) hx hb dX12_past_110 (by decide) ?_
              have hP9 : va_P (dC, dI) classes (wM g c v F rc) H := hP
              exact W.iret (v := (-1)) hx hb hr (fun t ht hW => ⟨⟨(-1), (v, F, rc), rfl, ⟨hI, rfl, (fun _ _ => rfl), hF, hJ⟩, (by show va_P _ _ _ t.heap; rw [ht]; exact hP9)⟩, hS.F ht⟩) hS.2.2 dX12_past_111
            · skip
              have t7186 := cv_ne (a := r7182.toInt) rfl (b := 0) (by decide) c7184
              refine lv_iload hx hb dX12_past_77 (lv_at hl 6 rfl) ?_
              refine lv_iconst (v := 0) hx hb dX12_past_79 (by decide) ?_
              refine lv_ldc (v := 99999) hx hb hown (hwd _ wk_249) dX12_past_80 ?_
              refine va_calli (va_runS (As := [.int p3, .int 0, .int 99999]) (rest := []) ⟨hx, hb, hml, hown, hwd⟩ (c_X12_in l dC dI g c adK adV v F rc H.size p3 0 99999 hg hI ) (va_cwS 3 hwd (gT wk_254 wk_252 wk_253 wk_5) rfl rfl rfl (by decide +kernel) ⟨Nat.le_of_ble_eq_true rfl, Nat.le_of_ble_eq_true rfl⟩) ⟨PM.blind, fun U hU hW => ⟨rfl, PM.at hK hE hP hS hU hW⟩⟩ rfl rfl hl.1 rfl (lv_room (Nat.le_of_ble_eq_true rfl)) dX12_past_82 ⟨Nat.le_of_ble_eq_true rfl, Nat.le_of_ble_eq_true rfl⟩) hS (fun q _ h => (freeM hS) q h) (freeM hS) (fun r7187 u t H1 locs ht hvm hw hB hz1 hk1 hS => ?_)
              unfold BM at hB
              rw [ht] at hB
              have hP : va_P (dC, dI) classes (wM g c v F rc) H1 := hB
              have hw_r7187 : (r7187.toInt = 1 ∧ (0 : Int32).toInt ≤ p3.toInt ∧ p3.toInt ≤ (99999 : Int32).toInt) ∨ (r7187.toInt = 0 ∧ (p3.toInt < (0 : Int32).toInt ∨ (99999 : Int32).toInt < p3.toInt)) := hw
              clear hw
              have k7188 : (0 : Int32).toInt = 0 := by decide
              have k7189 : (99999 : Int32).toInt = 99999 := by decide
              clear hz1
              generalize H1 = H at hP hS ⊢
              refine lv_if_eq (tgt := 110) hx hb dX12_past_85 (by decide) (fun c7190 => ?_) (fun c7190 => ?_)
              · skip
                have t7191 := cv_eq (a := r7187.toInt) rfl (b := 0) (by decide) c7190
                refine lv_iconst (v := (-1)) hx hb dX12_past_110 (by decide) ?_
                have hP9 : va_P (dC, dI) classes (wM g c v F rc) H := hP
                exact W.iret (v := (-1)) hx hb hr (fun t ht hW => ⟨⟨(-1), (v, F, rc), rfl, ⟨hI, rfl, (fun _ _ => rfl), hF, hJ⟩, (by show va_P _ _ _ t.heap; rw [ht]; exact hP9)⟩, hS.F ht⟩) hS.2.2 dX12_past_111
              · skip
                have t7192 := cv_ne (a := r7187.toInt) rfl (b := 0) (by decide) c7190
                refine lv_iload hx hb dX12_past_88 (lv_at hl 7 rfl) ?_
                refine lv_iconst (v := 0) hx hb dX12_past_90 (by decide) ?_
                refine lv_ldc (v := 99999) hx hb hown (hwd _ wk_249) dX12_past_91 ?_
                refine va_calli (va_runS (As := [.int p4, .int 0, .int 99999]) (rest := []) ⟨hx, hb, hml, hown, hwd⟩ (c_X12_in l dC dI g c adK adV v F rc H.size p4 0 99999 hg hI ) (va_cwS 3 hwd (gT wk_254 wk_252 wk_253 wk_5) rfl rfl rfl (by decide +kernel) ⟨Nat.le_of_ble_eq_true rfl, Nat.le_of_ble_eq_true rfl⟩) ⟨PM.blind, fun U hU hW => ⟨rfl, PM.at hK hE hP hS hU hW⟩⟩ rfl rfl hl.1 rfl (lv_room (Nat.le_of_ble_eq_true rfl)) dX12_past_93 ⟨Nat.le_of_ble_eq_true rfl, Nat.le_of_ble_eq_true rfl⟩) hS (fun q _ h => (freeM hS) q h) (freeM hS) (fun r7193 u t H1 locs ht hvm hw hB hz1 hk1 hS => ?_)
                unfold BM at hB
                rw [ht] at hB
                have hP : va_P (dC, dI) classes (wM g c v F rc) H1 := hB
                have hw_r7193 : (r7193.toInt = 1 ∧ (0 : Int32).toInt ≤ p4.toInt ∧ p4.toInt ≤ (99999 : Int32).toInt) ∨ (r7193.toInt = 0 ∧ (p4.toInt < (0 : Int32).toInt ∨ (99999 : Int32).toInt < p4.toInt)) := hw
                clear hw
                have k7194 : (0 : Int32).toInt = 0 := by decide
                have k7195 : (99999 : Int32).toInt = 99999 := by decide
                clear hz1
                generalize H1 = H at hP hS ⊢
                refine lv_if_eq (tgt := 110) hx hb dX12_past_96 (by decide) (fun c7196 => ?_) (fun c7196 => ?_)
                · skip
                  have t7197 := cv_eq (a := r7193.toInt) rfl (b := 0) (by decide) c7196
                  refine lv_iconst (v := (-1)) hx hb dX12_past_110 (by decide) ?_
                  have hP9 : va_P (dC, dI) classes (wM g c v F rc) H := hP
                  exact W.iret (v := (-1)) hx hb hr (fun t ht hW => ⟨⟨(-1), (v, F, rc), rfl, ⟨hI, rfl, (fun _ _ => rfl), hF, hJ⟩, (by show va_P _ _ _ t.heap; rw [ht]; exact hP9)⟩, hS.F ht⟩) hS.2.2 dX12_past_111
                · skip
                  have t7198 := cv_ne (a := r7193.toInt) rfl (b := 0) (by decide) c7196
                  refine lv_iload hx hb dX12_past_99 (lv_at hl 8 rfl) ?_
                  refine lv_iconst (v := 0) hx hb dX12_past_101 (by decide) ?_
                  refine lv_ldc (v := 99999999) hx hb hown (hwd _ wk_824) dX12_past_102 ?_
                  refine va_calli (va_runS (As := [.int p5, .int 0, .int 99999999]) (rest := []) ⟨hx, hb, hml, hown, hwd⟩ (c_X12_in l dC dI g c adK adV v F rc H.size p5 0 99999999 hg hI ) (va_cwS 3 hwd (gT wk_254 wk_252 wk_253 wk_5) rfl rfl rfl (by decide +kernel) ⟨Nat.le_of_ble_eq_true rfl, Nat.le_of_ble_eq_true rfl⟩) ⟨PM.blind, fun U hU hW => ⟨rfl, PM.at hK hE hP hS hU hW⟩⟩ rfl rfl hl.1 rfl (lv_room (Nat.le_of_ble_eq_true rfl)) dX12_past_104 ⟨Nat.le_of_ble_eq_true rfl, Nat.le_of_ble_eq_true rfl⟩) hS (fun q _ h => (freeM hS) q h) (freeM hS) (fun r7199 u t H1 locs ht hvm hw hB hz1 hk1 hS => ?_)
                  unfold BM at hB
                  rw [ht] at hB
                  have hP : va_P (dC, dI) classes (wM g c v F rc) H1 := hB
                  have hw_r7199 : (r7199.toInt = 1 ∧ (0 : Int32).toInt ≤ p5.toInt ∧ p5.toInt ≤ (99999999 : Int32).toInt) ∨ (r7199.toInt = 0 ∧ (p5.toInt < (0 : Int32).toInt ∨ (99999999 : Int32).toInt < p5.toInt)) := hw
                  clear hw
                  have k7200 : (0 : Int32).toInt = 0 := by decide
                  have k7201 : (99999999 : Int32).toInt = 99999999 := by decide
                  clear hz1
                  generalize H1 = H at hP hS ⊢
                  refine lv_if_ne (tgt := 112) hx hb dX12_past_107 (by decide) (fun c7202 => ?_) (fun c7202 => ?_)
                  · skip
                    have t7203 := cv_ne (a := r7199.toInt) rfl (b := 0) (by decide) c7202
                    refine lv_iload hx hb dX12_past_112 (lv_at hl 7 rfl) ?_
                    refine lv_iload hx hb dX12_past_114 (lv_at hl 8 rfl) ?_
                    refine lv_ldc (v := 100000) hx hb hown (hwd _ wk_825) dX12_past_116 ?_
                    refine lv_idiv hx hb dX12_past_118 (by decide) ?_
                    refine lv_topi (fun z7204 e7205 => ?_)
                    refine lv_iadd hx hb dX12_past_119 ?_
                    refine lv_topi (fun z7207 e7208 => ?_)
                    try (have t7209 := tadd e7208 (a := p4.toInt) rfl (b := z7204.toInt) rfl (by omega))
                    refine lv_sipush (v := 500) hx hb dX12_past_120 (by decide) ?_
                    refine lv_isub hx hb dX12_past_123 ?_
                    refine lv_topi (fun z7210 e7211 => ?_)
                    try (have t7212 := tsub e7211 (a := z7207.toInt) rfl (b := 500) (by decide) (by omega))
                    refine lv_istore (lv' := [(9, .int z7210), (8, .int z7173), (7, .int z7170), (0, .ref (g 0)), (1, .int p0), (2, .int p1), (3, .int p2), (4, .int p3), (5, .int p4), (6, .int p5)]) hx hb dX12_past_124 hl (by decide) rfl (fun ls hl => ?_)
                    refine lv_iload hx hb dX12_past_126 (lv_at hl 0 rfl) ?_
                    refine lv_if_ge (tgt := 133) hx hb dX12_past_128 (by decide) (fun c7213 => ?_) (fun c7213 => ?_)
                    · skip
                      have t7214 := cv_le (a := 0) (by decide) (b := z7210.toInt) rfl c7213
                      refine lv_aload_n hx hb dX12_past_133 rfl (lv_at hl 3 rfl) ?_
                      refine va_get (D := (dC, dI)) (ci := 12) (v := .int (v 19)) (C := RX12) (T := TX12) (N := 63) hx hb hwd inA_X12 hown hK hP 0 rfl rfl 19 (by decide) (hwd _ wk_494) (fun _ h9 => h9) rfl dX12_past_134 ?_
                      have t7215 : 0 ≤ (v 19).toInt ∧ (v 19).toInt ≤ 500 := hI.1 19 _ _ rfl
                      refine lv_sipush (v := 500) hx hb dX12_past_137 (by decide) ?_
                      refine lv_icmp_ne (tgt := 146) hx hb dX12_past_140 (by decide) (fun c7216 => ?_) (fun c7216 => ?_)
                      · skip
                        have t7217 := cv_ne (a := (v 19).toInt) rfl (b := 500) (by decide) c7216
                        refine lv_aload_n hx hb dX12_past_146 rfl (lv_at hl 3 rfl) ?_
                        refine va_get (D := (dC, dI)) (ci := 12) (v := .ref (g 15)) (C := RX12) (T := TX12) (N := 63) hx hb hwd inA_X12 hown hK hP 0 rfl rfl 20 (by decide) (hwd _ wk_196) (fun _ h9 => h9) rfl dX12_past_147 ?_
                        refine lv_aload_n hx hb dX12_past_150 rfl (lv_at hl 3 rfl) ?_
                        refine va_get (D := (dC, dI)) (ci := 12) (v := .int (v 19)) (C := RX12) (T := TX12) (N := 63) hx hb hwd inA_X12 hown hK hP 0 rfl rfl 19 (by decide) (hwd _ wk_494) (fun _ h9 => h9) rfl dX12_past_151 ?_
                        have t7218 : 0 ≤ (v 19).toInt ∧ (v 19).toInt ≤ 500 := hI.1 19 _ _ rfl
                        refine lv_iload_n hx hb dX12_past_154 rfl (lv_at hl 4 rfl) ?_
                        refine va_iast hx hb hK hP (DM hg) hS 15 14 rfl rfl (i := (v 19)) (x := p0) (vin (a := (v 19).toInt) rfl (by omega)) dX12_past_155 (fun H locs hP _ hS => ?_)
                        have hP := va_P_eq (sM_15 g c _ _ _ _) hP
                        have hI := IM.store hI 15 (v 19 : Int32).toNatClampNeg p0 rfl (by omega)
                        have hF := frUF (k := 15) (f := upd (F 15) (v 19 : Int32).toNatClampNeg p0) (by decide) hF
                        have st7220 : (va_up F 15 (upd (F 15) (v 19 : Int32).toNatClampNeg p0)) 15 = upd (F 15) (v 19 : Int32).toNatClampNeg p0 := va_up_self _ _ _
                        have sn7221 : ∀ k9, k9 ≠ 15 → (va_up F 15 (upd (F 15) (v 19 : Int32).toNatClampNeg p0)) k9 = F k9 := fun k9 h9 => va_up_ne _ _ h9
                        have hP : va_P (dC, dI) classes (wM g c v (va_up F 15 (upd (F 15) (v 19 : Int32).toNatClampNeg p0)) rc) H := hP
                        generalize (va_up F 15 (upd (F 15) (v 19 : Int32).toNatClampNeg p0)) = F7219 at hP hI hF st7220 sn7221
                        refine lv_aload_n hx hb dX12_past_156 rfl (lv_at hl 3 rfl) ?_
                        refine va_get (D := (dC, dI)) (ci := 12) (v := .ref (g 16)) (C := RX12) (T := TX12) (N := 63) hx hb hwd inA_X12 hown hK hP 0 rfl rfl 21 (by decide) (hwd _ wk_197) (fun _ h9 => h9) rfl dX12_past_157 ?_
                        refine lv_aload_n hx hb dX12_past_160 rfl (lv_at hl 3 rfl) ?_
                        refine va_get (D := (dC, dI)) (ci := 12) (v := .int (v 19)) (C := RX12) (T := TX12) (N := 63) hx hb hwd inA_X12 hown hK hP 0 rfl rfl 19 (by decide) (hwd _ wk_494) (fun _ h9 => h9) rfl dX12_past_161 ?_
                        have t7222 : 0 ≤ (v 19).toInt ∧ (v 19).toInt ≤ 500 := hI.1 19 _ _ rfl
                        refine lv_iload_n hx hb dX12_past_164 rfl (lv_at hl 5 rfl) ?_
                        refine va_iast hx hb hK hP (DM hg) hS 16 15 rfl rfl (i := (v 19)) (x := p1) (vin (a := (v 19).toInt) rfl (by omega)) dX12_past_165 (fun H locs hP _ hS => ?_)
                        have hP := va_P_eq (sM_16 g c _ _ _ _) hP
                        have hI := IM.store hI 16 (v 19 : Int32).toNatClampNeg p1 rfl (by omega)
                        have hF := frUF (k := 16) (f := upd (F7219 16) (v 19 : Int32).toNatClampNeg p1) (by decide) hF
                        have st7224 : (va_up F7219 16 (upd (F7219 16) (v 19 : Int32).toNatClampNeg p1)) 16 = upd (F7219 16) (v 19 : Int32).toNatClampNeg p1 := va_up_self _ _ _
                        have sn7225 : ∀ k9, k9 ≠ 16 → (va_up F7219 16 (upd (F7219 16) (v 19 : Int32).toNatClampNeg p1)) k9 = F7219 k9 := fun k9 h9 => va_up_ne _ _ h9
                        have hP : va_P (dC, dI) classes (wM g c v (va_up F7219 16 (upd (F7219 16) (v 19 : Int32).toNatClampNeg p1)) rc) H := hP
                        generalize (va_up F7219 16 (upd (F7219 16) (v 19 : Int32).toNatClampNeg p1)) = F7223 at hP hI hF st7224 sn7225
                        refine lv_aload_n hx hb dX12_past_166 rfl (lv_at hl 3 rfl) ?_
                        refine va_get (D := (dC, dI)) (ci := 12) (v := .ref (g 17)) (C := RX12) (T := TX12) (N := 63) hx hb hwd inA_X12 hown hK hP 0 rfl rfl 22 (by decide) (hwd _ wk_198) (fun _ h9 => h9) rfl dX12_past_167 ?_
                        refine lv_aload_n hx hb dX12_past_170 rfl (lv_at hl 3 rfl) ?_
                        refine va_get (D := (dC, dI)) (ci := 12) (v := .int (v 19)) (C := RX12) (T := TX12) (N := 63) hx hb hwd inA_X12 hown hK hP 0 rfl rfl 19 (by decide) (hwd _ wk_494) (fun _ h9 => h9) rfl dX12_past_171 ?_
                        have t7226 : 0 ≤ (v 19).toInt ∧ (v 19).toInt ≤ 500 := hI.1 19 _ _ rfl
                        refine lv_iload hx hb dX12_past_174 (lv_at hl 2 rfl) ?_
                        refine lv_sipush (v := 9999) hx hb dX12_past_176 (by decide) ?_
                        refine lv_isub hx hb dX12_past_179 ?_
                        refine lv_topi (fun z7227 e7228 => ?_)
                        try (have t7229 := tsub e7228 (a := z7170.toInt) rfl (b := 9999) (by decide) (by omega))
                        refine va_iast hx hb hK hP (DM hg) hS 17 16 rfl rfl (i := (v 19)) (x := z7227) (vin (a := (v 19).toInt) rfl (by omega)) dX12_past_180 (fun H locs hP _ hS => ?_)
                        have hP := va_P_eq (sM_17 g c _ _ _ _) hP
                        have hI := IM.store0 hI 17 (v 19 : Int32).toNatClampNeg z7227 rfl
                        have hF := frUF (k := 17) (f := upd (F7223 17) (v 19 : Int32).toNatClampNeg z7227) (by decide) hF
                        have st7231 : (va_up F7223 17 (upd (F7223 17) (v 19 : Int32).toNatClampNeg z7227)) 17 = upd (F7223 17) (v 19 : Int32).toNatClampNeg z7227 := va_up_self _ _ _
                        have sn7232 : ∀ k9, k9 ≠ 17 → (va_up F7223 17 (upd (F7223 17) (v 19 : Int32).toNatClampNeg z7227)) k9 = F7223 k9 := fun k9 h9 => va_up_ne _ _ h9
                        have hP : va_P (dC, dI) classes (wM g c v (va_up F7223 17 (upd (F7223 17) (v 19 : Int32).toNatClampNeg z7227)) rc) H := hP
                        generalize (va_up F7223 17 (upd (F7223 17) (v 19 : Int32).toNatClampNeg z7227)) = F7230 at hP hI hF st7231 sn7232
                        refine lv_aload_n hx hb dX12_past_181 rfl (lv_at hl 3 rfl) ?_
                        refine va_get (D := (dC, dI)) (ci := 12) (v := .ref (g 18)) (C := RX12) (T := TX12) (N := 63) hx hb hwd inA_X12 hown hK hP 0 rfl rfl 23 (by decide) (hwd _ wk_199) (fun _ h9 => h9) rfl dX12_past_182 ?_
                        refine lv_aload_n hx hb dX12_past_185 rfl (lv_at hl 3 rfl) ?_
                        refine va_get (D := (dC, dI)) (ci := 12) (v := .int (v 19)) (C := RX12) (T := TX12) (N := 63) hx hb hwd inA_X12 hown hK hP 0 rfl rfl 19 (by decide) (hwd _ wk_494) (fun _ h9 => h9) rfl dX12_past_186 ?_
                        have t7233 : 0 ≤ (v 19).toInt ∧ (v 19).toInt ≤ 500 := hI.1 19 _ _ rfl
                        refine lv_iload hx hb dX12_past_189 (lv_at hl 1 rfl) ?_
                        refine lv_sipush (v := 9999) hx hb dX12_past_191 (by decide) ?_
                        refine lv_isub hx hb dX12_past_194 ?_
                        refine lv_topi (fun z7234 e7235 => ?_)
                        try (have t7236 := tsub e7235 (a := z7173.toInt) rfl (b := 9999) (by decide) (by omega))
                        refine va_iast hx hb hK hP (DM hg) hS 18 17 rfl rfl (i := (v 19)) (x := z7234) (vin (a := (v 19).toInt) rfl (by omega)) dX12_past_195 (fun H locs hP _ hS => ?_)
                        have hP := va_P_eq (sM_18 g c _ _ _ _) hP
                        have hI := IM.store0 hI 18 (v 19 : Int32).toNatClampNeg z7234 rfl
                        have hF := frUF (k := 18) (f := upd (F7230 18) (v 19 : Int32).toNatClampNeg z7234) (by decide) hF
                        have st7238 : (va_up F7230 18 (upd (F7230 18) (v 19 : Int32).toNatClampNeg z7234)) 18 = upd (F7230 18) (v 19 : Int32).toNatClampNeg z7234 := va_up_self _ _ _
                        have sn7239 : ∀ k9, k9 ≠ 18 → (va_up F7230 18 (upd (F7230 18) (v 19 : Int32).toNatClampNeg z7234)) k9 = F7230 k9 := fun k9 h9 => va_up_ne _ _ h9
                        have hP : va_P (dC, dI) classes (wM g c v (va_up F7230 18 (upd (F7230 18) (v 19 : Int32).toNatClampNeg z7234)) rc) H := hP
                        generalize (va_up F7230 18 (upd (F7230 18) (v 19 : Int32).toNatClampNeg z7234)) = F7237 at hP hI hF st7238 sn7239
                        refine lv_aload_n hx hb dX12_past_196 rfl (lv_at hl 3 rfl) ?_
                        refine va_get (D := (dC, dI)) (ci := 12) (v := .ref (g 19)) (C := RX12) (T := TX12) (N := 63) hx hb hwd inA_X12 hown hK hP 0 rfl rfl 24 (by decide) (hwd _ wk_200) (fun _ h9 => h9) rfl dX12_past_197 ?_
                        refine lv_aload_n hx hb dX12_past_200 rfl (lv_at hl 3 rfl) ?_
                        refine va_get (D := (dC, dI)) (ci := 12) (v := .int (v 19)) (C := RX12) (T := TX12) (N := 63) hx hb hwd inA_X12 hown hK hP 0 rfl rfl 19 (by decide) (hwd _ wk_494) (fun _ h9 => h9) rfl dX12_past_201 ?_
                        have t7240 : 0 ≤ (v 19).toInt ∧ (v 19).toInt ≤ 500 := hI.1 19 _ _ rfl
                        refine lv_iload hx hb dX12_past_204 (lv_at hl 7 rfl) ?_
                        refine va_iast hx hb hK hP (DM hg) hS 19 18 rfl rfl (i := (v 19)) (x := p3) (vin (a := (v 19).toInt) rfl (by omega)) dX12_past_206 (fun H locs hP _ hS => ?_)
                        have hP := va_P_eq (sM_19 g c _ _ _ _) hP
                        have hI := IM.store0 hI 19 (v 19 : Int32).toNatClampNeg p3 rfl
                        have hF := frUF (k := 19) (f := upd (F7237 19) (v 19 : Int32).toNatClampNeg p3) (by decide) hF
                        have st7242 : (va_up F7237 19 (upd (F7237 19) (v 19 : Int32).toNatClampNeg p3)) 19 = upd (F7237 19) (v 19 : Int32).toNatClampNeg p3 := va_up_self _ _ _
                        have sn7243 : ∀ k9, k9 ≠ 19 → (va_up F7237 19 (upd (F7237 19) (v 19 : Int32).toNatClampNeg p3)) k9 = F7237 k9 := fun k9 h9 => va_up_ne _ _ h9
                        have hP : va_P (dC, dI) classes (wM g c v (va_up F7237 19 (upd (F7237 19) (v 19 : Int32).toNatClampNeg p3)) rc) H := hP
                        generalize (va_up F7237 19 (upd (F7237 19) (v 19 : Int32).toNatClampNeg p3)) = F7241 at hP hI hF st7242 sn7243
                        refine lv_aload_n hx hb dX12_past_207 rfl (lv_at hl 3 rfl) ?_
                        refine va_get (D := (dC, dI)) (ci := 12) (v := .ref (g 20)) (C := RX12) (T := TX12) (N := 63) hx hb hwd inA_X12 hown hK hP 0 rfl rfl 25 (by decide) (hwd _ wk_201) (fun _ h9 => h9) rfl dX12_past_208 ?_
                        refine lv_aload_n hx hb dX12_past_211 rfl (lv_at hl 3 rfl) ?_
                        refine va_get (D := (dC, dI)) (ci := 12) (v := .int (v 19)) (C := RX12) (T := TX12) (N := 63) hx hb hwd inA_X12 hown hK hP 0 rfl rfl 19 (by decide) (hwd _ wk_494) (fun _ h9 => h9) rfl dX12_past_212 ?_
                        have t7244 : 0 ≤ (v 19).toInt ∧ (v 19).toInt ≤ 500 := hI.1 19 _ _ rfl
                        refine lv_iload hx hb dX12_past_215 (lv_at hl 9 rfl) ?_
                        refine lv_ldc (v := 100000) hx hb hown (hwd _ wk_825) dX12_past_217 ?_
                        refine lv_irem hx hb dX12_past_219 (by decide) ?_
                        refine lv_topi (fun z7245 e7246 => ?_)
                        refine va_iast hx hb hK hP (DM hg) hS 20 19 rfl rfl (i := (v 19)) (x := z7245) (vin (a := (v 19).toInt) rfl (by omega)) dX12_past_220 (fun H locs hP _ hS => ?_)
                        have hP := va_P_eq (sM_20 g c _ _ _ _) hP
                        have hI := IM.store0 hI 20 (v 19 : Int32).toNatClampNeg z7245 rfl
                        have hF := frUF (k := 20) (f := upd (F7241 20) (v 19 : Int32).toNatClampNeg z7245) (by decide) hF
                        have st7249 : (va_up F7241 20 (upd (F7241 20) (v 19 : Int32).toNatClampNeg z7245)) 20 = upd (F7241 20) (v 19 : Int32).toNatClampNeg z7245 := va_up_self _ _ _
                        have sn7250 : ∀ k9, k9 ≠ 20 → (va_up F7241 20 (upd (F7241 20) (v 19 : Int32).toNatClampNeg z7245)) k9 = F7241 k9 := fun k9 h9 => va_up_ne _ _ h9
                        have hP : va_P (dC, dI) classes (wM g c v (va_up F7241 20 (upd (F7241 20) (v 19 : Int32).toNatClampNeg z7245)) rc) H := hP
                        generalize (va_up F7241 20 (upd (F7241 20) (v 19 : Int32).toNatClampNeg z7245)) = F7248 at hP hI hF st7249 sn7250
                        refine lv_aload_n hx hb dX12_past_221 rfl (lv_at hl 3 rfl) ?_
                        refine va_get (D := (dC, dI)) (ci := 12) (v := .ref (g 21)) (C := RX12) (T := TX12) (N := 63) hx hb hwd inA_X12 hown hK hP 0 rfl rfl 26 (by decide) (hwd _ wk_202) (fun _ h9 => h9) rfl dX12_past_222 ?_
                        refine lv_aload_n hx hb dX12_past_225 rfl (lv_at hl 3 rfl) ?_
                        refine va_get (D := (dC, dI)) (ci := 12) (v := .int (v 19)) (C := RX12) (T := TX12) (N := 63) hx hb hwd inA_X12 hown hK hP 0 rfl rfl 19 (by decide) (hwd _ wk_494) (fun _ h9 => h9) rfl dX12_past_226 ?_
                        have t7251 : 0 ≤ (v 19).toInt ∧ (v 19).toInt ≤ 500 := hI.1 19 _ _ rfl
                        refine lv_iload hx hb dX12_past_229 (lv_at hl 8 rfl) ?_
                        refine va_iast hx hb hK hP (DM hg) hS 21 20 rfl rfl (i := (v 19)) (x := p4) (vin (a := (v 19).toInt) rfl (by omega)) dX12_past_231 (fun H locs hP _ hS => ?_)
                        have hP := va_P_eq (sM_21 g c _ _ _ _) hP
                        have hI := IM.store0 hI 21 (v 19 : Int32).toNatClampNeg p4 rfl
                        have hF := frUF (k := 21) (f := upd (F7248 21) (v 19 : Int32).toNatClampNeg p4) (by decide) hF
                        have st7253 : (va_up F7248 21 (upd (F7248 21) (v 19 : Int32).toNatClampNeg p4)) 21 = upd (F7248 21) (v 19 : Int32).toNatClampNeg p4 := va_up_self _ _ _
                        have sn7254 : ∀ k9, k9 ≠ 21 → (va_up F7248 21 (upd (F7248 21) (v 19 : Int32).toNatClampNeg p4)) k9 = F7248 k9 := fun k9 h9 => va_up_ne _ _ h9
                        have hP : va_P (dC, dI) classes (wM g c v (va_up F7248 21 (upd (F7248 21) (v 19 : Int32).toNatClampNeg p4)) rc) H := hP
                        generalize (va_up F7248 21 (upd (F7248 21) (v 19 : Int32).toNatClampNeg p4)) = F7252 at hP hI hF st7253 sn7254
                        refine lv_aload_n hx hb dX12_past_232 rfl (lv_at hl 3 rfl) ?_
                        refine va_get (D := (dC, dI)) (ci := 12) (v := .ref (g 22)) (C := RX12) (T := TX12) (N := 63) hx hb hwd inA_X12 hown hK hP 0 rfl rfl 27 (by decide) (hwd _ wk_203) (fun _ h9 => h9) rfl dX12_past_233 ?_
                        refine lv_aload_n hx hb dX12_past_236 rfl (lv_at hl 3 rfl) ?_
                        refine va_get (D := (dC, dI)) (ci := 12) (v := .int (v 19)) (C := RX12) (T := TX12) (N := 63) hx hb hwd inA_X12 hown hK hP 0 rfl rfl 19 (by decide) (hwd _ wk_494) (fun _ h9 => h9) rfl dX12_past_237 ?_
                        have t7255 : 0 ≤ (v 19).toInt ∧ (v 19).toInt ≤ 500 := hI.1 19 _ _ rfl
                        refine lv_iload hx hb dX12_past_240 (lv_at hl 0 rfl) ?_
                        refine va_iast hx hb hK hP (DM hg) hS 22 21 rfl rfl (i := (v 19)) (x := z7210) (vin (a := (v 19).toInt) rfl (by omega)) dX12_past_242 (fun H locs hP _ hS => ?_)
                        have hP := va_P_eq (sM_22 g c _ _ _ _) hP
                        have hI := IM.store0 hI 22 (v 19 : Int32).toNatClampNeg z7210 rfl
                        have hF := frUF (k := 22) (f := upd (F7252 22) (v 19 : Int32).toNatClampNeg z7210) (by decide) hF
                        have st7257 : (va_up F7252 22 (upd (F7252 22) (v 19 : Int32).toNatClampNeg z7210)) 22 = upd (F7252 22) (v 19 : Int32).toNatClampNeg z7210 := va_up_self _ _ _
                        have sn7258 : ∀ k9, k9 ≠ 22 → (va_up F7252 22 (upd (F7252 22) (v 19 : Int32).toNatClampNeg z7210)) k9 = F7252 k9 := fun k9 h9 => va_up_ne _ _ h9
                        have hP : va_P (dC, dI) classes (wM g c v (va_up F7252 22 (upd (F7252 22) (v 19 : Int32).toNatClampNeg z7210)) rc) H := hP
                        generalize (va_up F7252 22 (upd (F7252 22) (v 19 : Int32).toNatClampNeg z7210)) = F7256 at hP hI hF st7257 sn7258
                        refine lv_aload_n hx hb dX12_past_243 rfl (lv_at hl 3 rfl) ?_
                        refine va_get (D := (dC, dI)) (ci := 12) (v := .ref (g 23)) (C := RX12) (T := TX12) (N := 63) hx hb hwd inA_X12 hown hK hP 0 rfl rfl 28 (by decide) (hwd _ wk_204) (fun _ h9 => h9) rfl dX12_past_244 ?_
                        refine lv_aload_n hx hb dX12_past_247 rfl (lv_at hl 3 rfl) ?_
                        refine va_get (D := (dC, dI)) (ci := 12) (v := .int (v 19)) (C := RX12) (T := TX12) (N := 63) hx hb hwd inA_X12 hown hK hP 0 rfl rfl 19 (by decide) (hwd _ wk_494) (fun _ h9 => h9) rfl dX12_past_248 ?_
                        have t7259 : 0 ≤ (v 19).toInt ∧ (v 19).toInt ≤ 500 := hI.1 19 _ _ rfl
                        refine lv_iconst (v := 0) hx hb dX12_past_251 (by decide) ?_
                        refine va_zast hx hb hK hP (DM hg) hS 23 22 rfl rfl (i := (v 19)) (x := 0) (vin (a := (v 19).toInt) rfl (by omega)) dX12_past_252 (fun H locs hP _ hS => ?_)
                        have hP := va_P_eq (sM_23 g c _ _ _ _) hP
                        have hI := IM.store0 hI 23 (v 19 : Int32).toNatClampNeg (vp_nar .boolean 0) rfl
                        have hF := frUF (k := 23) (f := upd (F7256 23) (v 19 : Int32).toNatClampNeg (vp_nar .boolean 0)) (by decide) hF
                        have st7261 : (va_up F7256 23 (upd (F7256 23) (v 19 : Int32).toNatClampNeg (vp_nar .boolean 0))) 23 = upd (F7256 23) (v 19 : Int32).toNatClampNeg (vp_nar .boolean 0) := va_up_self _ _ _
                        have sn7262 : ∀ k9, k9 ≠ 23 → (va_up F7256 23 (upd (F7256 23) (v 19 : Int32).toNatClampNeg (vp_nar .boolean 0))) k9 = F7256 k9 := fun k9 h9 => va_up_ne _ _ h9
                        have hP : va_P (dC, dI) classes (wM g c v (va_up F7256 23 (upd (F7256 23) (v 19 : Int32).toNatClampNeg (vp_nar .boolean 0))) rc) H := hP
                        generalize (va_up F7256 23 (upd (F7256 23) (v 19 : Int32).toNatClampNeg (vp_nar .boolean 0))) = F7260 at hP hI hF st7261 sn7262
                        refine lv_aload_n hx hb dX12_past_253 rfl (lv_at hl 3 rfl) ?_
                        refine lv_dup hx hb dX12_past_254 rfl ?_
                        refine va_get (D := (dC, dI)) (ci := 12) (v := .int (v 19)) (C := RX12) (T := TX12) (N := 63) hx hb hwd inA_X12 hown hK hP 0 rfl rfl 19 (by decide) (hwd _ wk_494) (fun _ h9 => h9) rfl dX12_past_255 ?_
                        have t7263 : 0 ≤ (v 19).toInt ∧ (v 19).toInt ≤ 500 := hI.1 19 _ _ rfl
                        refine lv_iconst (v := 1) hx hb dX12_past_258 (by decide) ?_
                        refine lv_iadd hx hb dX12_past_259 ?_
                        refine lv_topi (fun z7264 e7265 => ?_)
                        try (have t7266 := tadd e7265 (a := (v 19).toInt) rfl (b := 1) (by decide) (by omega))
                        refine va_put (D := (dC, dI)) (ci := 12) (v := .int z7264) (ty := .int) (C := RX12) (T := TX12) (N := 63) (fs := fsM_0 g v rc) hx hb hwd inA_X12 tyX12 tyX12_ok nmX12 hown hK hP (DM hg) hS 0 rfl rfl 19 (by decide) (hwd _ wk_494) (fun _ h9 => h9) rfl (by decide +kernel) rfl rfl (Nat.le_of_ble_eq_true rfl) dX12_past_260 (fun H locs hP _ hS => ?_)
                        have hP := va_P_eq (pM_19 g c _ _ _ _) hP
                        have hI := IM.put hI 19 z7264 rfl (by omega)
                        refine lv_aload_n hx hb dX12_past_263 rfl (lv_at hl 3 rfl) ?_
                        refine lv_iload_n hx hb dX12_past_264 rfl (lv_at hl 4 rfl) ?_
                        have t7267 : 0 ≤ z7264.toInt ∧ z7264.toInt ≤ 500 := hI.1 19 _ _ rfl
                        refine va_calli (va_runV (As := [.int p0]) (rest := []) ⟨hx, hb, hml, hown, hwd⟩ (c_X12_staysOf l dC dI g c adK adV (va_up v 19 z7264) F7260 rc H.size p0 hg hI ) (cwV 1 hwd (gV wk_720 wk_717 wk_718 wk_719 wk_5) rfl rfl rfl (by decide +kernel) ⟨Nat.le_of_ble_eq_true rfl, Nat.le_of_ble_eq_true rfl⟩) ⟨PM.blind, va_recv hK hP (ci := 12) (q0 := 0) rfl rfl, fun U hU hW => ⟨rfl, PM.at hK hE hP hS hU hW⟩⟩ rfl rfl hl.1 rfl (lv_room (Nat.le_of_ble_eq_true rfl)) dX12_past_265 ⟨Nat.le_of_ble_eq_true rfl, Nat.le_of_ble_eq_true rfl⟩) hS (fun q _ h => (freeM hS) q h) (freeM hS) (fun r7268 u t H1 locs ht hvm hw hB hz1 hk1 hS => ?_)
                        unfold BM at hB
                        rw [ht] at hB
                        have hP : va_P (dC, dI) classes (wM g c (va_up v 19 z7264) F7260 rc) H1 := hB
                        replace hw : r7268.toInt = (cnt (stP (F7260 15) p0.toInt) z7264.toNatClampNeg : Int) := hw
                        have hw_r7268 := hw
                        clear hw
                        clear hz1
                        generalize H1 = H at hP hS ⊢
                        have rr_r7268 := i32_rng r7268
                        have hP9 : va_P (dC, dI) classes (wM g c (va_up v 19 z7264) F7260 rc) H := hP
                        exact W.iret (v := r7268) hx hb hr (fun t ht hW => ⟨⟨r7268, ((va_up v 19 z7264), F7260, rc), rfl, ⟨hI, rfl, (frU (by decide) (fun _ _ => rfl)), hF, (by show JO ((va_up v 19 z7264) 14) ((va_up v 19 z7264) 19) (F7260 13) (F7260 15) (F7260 18); rw [show (va_up v 19 z7264) 14 = v 14 from rfl, show (va_up v 19 z7264) 19 = z7264 from rfl, show F7260 13 = F 13 from (hF 13 (by decide))]; exact JO.past hJ (past_has (by omega) (by omega) ((sn7262 15 (by decide)).trans ((sn7258 15 (by decide)).trans ((sn7254 15 (by decide)).trans ((sn7250 15 (by decide)).trans ((sn7243 15 (by decide)).trans ((sn7239 15 (by decide)).trans ((sn7232 15 (by decide)).trans ((sn7225 15 (by decide)).trans st7220)))))))) ((sn7262 18 (by decide)).trans ((sn7258 18 (by decide)).trans ((sn7254 18 (by decide)).trans ((sn7250 18 (by decide)).trans ((sn7243 18 (by decide)).trans (st7238.trans (congrArg (fun f => upd f (v 19 : Int32).toNatClampNeg z7234) ((sn7232 18 (by decide)).trans ((sn7225 18 (by decide)).trans (sn7221 18 (by decide)))))))))))))⟩, (by show va_P _ _ _ t.heap; rw [ht]; exact hP9)⟩, hS.F ht⟩) hS.2.2 dX12_past_268
                      · skip
                        have t7269 := cv_eq (a := (v 19).toInt) rfl (b := 500) (by decide) c7216
                        refine lv_bipush (v := (-3)) hx hb dX12_past_143 (by decide) ?_
                        have hP9 : va_P (dC, dI) classes (wM g c v F rc) H := hP
                        exact W.iret (v := (-3)) hx hb hr (fun t ht hW => ⟨⟨(-3), (v, F, rc), rfl, ⟨hI, rfl, (fun _ _ => rfl), hF, hJ⟩, (by show va_P _ _ _ t.heap; rw [ht]; exact hP9)⟩, hS.F ht⟩) hS.2.2 dX12_past_145
                    · skip
                      have t7270 := cv_nle (a := 0) (by decide) (b := z7210.toInt) rfl c7213
                      refine lv_iconst (v := (-1)) hx hb dX12_past_131 (by decide) ?_
                      have hP9 : va_P (dC, dI) classes (wM g c v F rc) H := hP
                      exact W.iret (v := (-1)) hx hb hr (fun t ht hW => ⟨⟨(-1), (v, F, rc), rfl, ⟨hI, rfl, (fun _ _ => rfl), hF, hJ⟩, (by show va_P _ _ _ t.heap; rw [ht]; exact hP9)⟩, hS.F ht⟩) hS.2.2 dX12_past_132
                  · skip
                    have t7271 := cv_eq (a := r7199.toInt) rfl (b := 0) (by decide) c7202
                    refine lv_iconst (v := (-1)) hx hb dX12_past_110 (by decide) ?_
                    have hP9 : va_P (dC, dI) classes (wM g c v F rc) H := hP
                    exact W.iret (v := (-1)) hx hb hr (fun t ht hW => ⟨⟨(-1), (v, F, rc), rfl, ⟨hI, rfl, (fun _ _ => rfl), hF, hJ⟩, (by show va_P _ _ _ t.heap; rw [ht]; exact hP9)⟩, hS.F ht⟩) hS.2.2 dX12_past_111
        · skip
          have t7272 := cv_nle (a := 0) (by decide) (b := p2.toInt) rfl c7168
          refine lv_iconst (v := (-1)) hx hb dX12_past_36 (by decide) ?_
          have hP9 : va_P (dC, dI) classes (wM g c v F rc) H := hP
          exact W.iret (v := (-1)) hx hb hr (fun t ht hW => ⟨⟨(-1), (v, F, rc), rfl, ⟨hI, rfl, (fun _ _ => rfl), hF, hJ⟩, (by show va_P _ _ _ t.heap; rw [ht]; exact hP9)⟩, hS.F ht⟩) hS.2.2 dX12_past_37
      · skip
        have t7273 := cv_nle (a := 10) (by decide) (b := p1.toInt) rfl c7166
        refine lv_aload_n hx hb dX12_past_24 rfl (lv_at hl 0 rfl) ?_
        refine lv_iload_n hx hb dX12_past_25 rfl (lv_at hl 2 rfl) ?_
        have t7274 : 0 ≤ (v 6).toInt ∧ (v 6).toInt ≤ 10 := hI.1 6 _ _ rfl
        refine va_calli (va_runV (As := [.int p1]) (rest := []) ⟨hx, hb, hml, hown, hwd⟩ (c_X12_isPlane l dC dI g c adK adV v F rc H.size p1 hg hI ) (cwV 1 hwd (gV wk_305 wk_302 wk_303 wk_304 wk_5) rfl rfl rfl (by decide +kernel) ⟨Nat.le_of_ble_eq_true rfl, Nat.le_of_ble_eq_true rfl⟩) ⟨PM.blind, va_recv hK hP (ci := 12) (q0 := 0) rfl rfl, fun U hU hW => ⟨rfl, PM.at hK hE hP hS hU hW⟩⟩ rfl rfl hl.1 rfl (lv_room (Nat.le_of_ble_eq_true rfl)) dX12_past_26 ⟨Nat.le_of_ble_eq_true rfl, Nat.le_of_ble_eq_true rfl⟩) hS (fun q _ h => (freeM hS) q h) (freeM hS) (fun r7275 u t H1 locs ht hvm hw hB hz1 hk1 hS => ?_)
        unfold BM at hB
        rw [ht] at hB
        have hP : va_P (dC, dI) classes (wM g c v F rc) H1 := hB
        replace hw : (r7275.toInt = 1 ∧ 0 ≤ p1.toInt ∧ p1.toInt < (v 6).toInt) ∨ (r7275.toInt = 0 ∧ (p1.toInt < 0 ∨ (v 6).toInt ≤ p1.toInt)) := hw
        have hw_r7275 := hw
        clear hw
        clear hz1
        generalize H1 = H at hP hS ⊢
        refine lv_if_eq (tgt := 36) hx hb dX12_past_29 (by decide) (fun c7276 => ?_) (fun c7276 => ?_)
        · skip
          have t7277 := cv_eq (a := r7275.toInt) rfl (b := 0) (by decide) c7276
          refine lv_iconst (v := (-1)) hx hb dX12_past_36 (by decide) ?_
          have hP9 : va_P (dC, dI) classes (wM g c v F rc) H := hP
          exact W.iret (v := (-1)) hx hb hr (fun t ht hW => ⟨⟨(-1), (v, F, rc), rfl, ⟨hI, rfl, (fun _ _ => rfl), hF, hJ⟩, (by show va_P _ _ _ t.heap; rw [ht]; exact hP9)⟩, hS.F ht⟩) hS.2.2 dX12_past_37
        · skip
          have t7278 := cv_ne (a := r7275.toInt) rfl (b := 0) (by decide) c7276
          refine lv_iload_n hx hb dX12_past_32 rfl (lv_at hl 3 rfl) ?_
          refine lv_if_ge (tgt := 38) hx hb dX12_past_33 (by decide) (fun c7279 => ?_) (fun c7279 => ?_)
          · skip
            have t7280 := cv_le (a := 0) (by decide) (b := p2.toInt) rfl c7279
            refine lv_iload_n hx hb dX12_past_38 rfl (lv_at hl 3 rfl) ?_
            refine lv_sipush (v := 20000) hx hb dX12_past_39 (by decide) ?_
            refine lv_idiv hx hb dX12_past_42 (by decide) ?_
            refine lv_topi (fun z7281 e7282 => ?_)
            refine lv_istore (lv' := [(7, .int z7281), (0, .ref (g 0)), (1, .int p0), (2, .int p1), (3, .int p2), (4, .int p3), (5, .int p4), (6, .int p5)]) hx hb dX12_past_43 hl (by decide) rfl (fun ls hl => ?_)
            refine lv_iload_n hx hb dX12_past_45 rfl (lv_at hl 4 rfl) ?_
            refine lv_sipush (v := 20000) hx hb dX12_past_46 (by decide) ?_
            refine lv_irem hx hb dX12_past_49 (by decide) ?_
            refine lv_topi (fun z7284 e7285 => ?_)
            refine lv_istore (lv' := [(8, .int z7284), (7, .int z7281), (0, .ref (g 0)), (1, .int p0), (2, .int p1), (3, .int p2), (4, .int p3), (5, .int p4), (6, .int p5)]) hx hb dX12_past_50 hl (by decide) rfl (fun ls hl => ?_)
            refine lv_iload hx hb dX12_past_52 (lv_at hl 1 rfl) ?_
            refine lv_iconst (v := 0) hx hb dX12_past_54 (by decide) ?_
            refine lv_sipush (v := 9999) hx hb dX12_past_55 (by decide) ?_
            refine va_calli (va_runS (As := [.int z7281, .int 0, .int 9999]) (rest := []) ⟨hx, hb, hml, hown, hwd⟩ (c_X12_in l dC dI g c adK adV v F rc H.size z7281 0 9999 hg hI ) (va_cwS 3 hwd (gT wk_254 wk_252 wk_253 wk_5) rfl rfl rfl (by decide +kernel) ⟨Nat.le_of_ble_eq_true rfl, Nat.le_of_ble_eq_true rfl⟩) ⟨PM.blind, fun U hU hW => ⟨rfl, PM.at hK hE hP hS hU hW⟩⟩ rfl rfl hl.1 rfl (lv_room (Nat.le_of_ble_eq_true rfl)) dX12_past_58 ⟨Nat.le_of_ble_eq_true rfl, Nat.le_of_ble_eq_true rfl⟩) hS (fun q _ h => (freeM hS) q h) (freeM hS) (fun r7287 u t H1 locs ht hvm hw hB hz1 hk1 hS => ?_)
            unfold BM at hB
            rw [ht] at hB
            have hP : va_P (dC, dI) classes (wM g c v F rc) H1 := hB
            have hw_r7287 : (r7287.toInt = 1 ∧ (0 : Int32).toInt ≤ z7281.toInt ∧ z7281.toInt ≤ (9999 : Int32).toInt) ∨ (r7287.toInt = 0 ∧ (z7281.toInt < (0 : Int32).toInt ∨ (9999 : Int32).toInt < z7281.toInt)) := hw
            clear hw
            have k7288 : (0 : Int32).toInt = 0 := by decide
            have k7289 : (9999 : Int32).toInt = 9999 := by decide
            clear hz1
            generalize H1 = H at hP hS ⊢
            refine lv_if_eq (tgt := 110) hx hb dX12_past_61 (by decide) (fun c7290 => ?_) (fun c7290 => ?_)
            · skip
              have t7291 := cv_eq (a := r7287.toInt) rfl (b := 0) (by decide) c7290
              refine lv_iconst (v := (-1)) hx hb dX12_past_110 (by decide) ?_
              have hP9 : va_P (dC, dI) classes (wM g c v F rc) H := hP
              exact W.iret (v := (-1)) hx hb hr (fun t ht hW => ⟨⟨(-1), (v, F, rc), rfl, ⟨hI, rfl, (fun _ _ => rfl), hF, hJ⟩, (by show va_P _ _ _ t.heap; rw [ht]; exact hP9)⟩, hS.F ht⟩) hS.2.2 dX12_past_111
            · skip
              have t7292 := cv_ne (a := r7287.toInt) rfl (b := 0) (by decide) c7290
              refine lv_iload hx hb dX12_past_64 (lv_at hl 0 rfl) ?_
              refine lv_iload hx hb dX12_past_66 (lv_at hl 1 rfl) ?_
              refine lv_sipush (v := 9999) hx hb dX12_past_68 (by decide) ?_
              refine va_calli (va_runS (As := [.int z7284, .int z7281, .int 9999]) (rest := []) ⟨hx, hb, hml, hown, hwd⟩ (c_X12_in l dC dI g c adK adV v F rc H.size z7284 z7281 9999 hg hI ) (va_cwS 3 hwd (gT wk_254 wk_252 wk_253 wk_5) rfl rfl rfl (by decide +kernel) ⟨Nat.le_of_ble_eq_true rfl, Nat.le_of_ble_eq_true rfl⟩) ⟨PM.blind, fun U hU hW => ⟨rfl, PM.at hK hE hP hS hU hW⟩⟩ rfl rfl hl.1 rfl (lv_room (Nat.le_of_ble_eq_true rfl)) dX12_past_71 ⟨Nat.le_of_ble_eq_true rfl, Nat.le_of_ble_eq_true rfl⟩) hS (fun q _ h => (freeM hS) q h) (freeM hS) (fun r7293 u t H1 locs ht hvm hw hB hz1 hk1 hS => ?_)
              unfold BM at hB
              rw [ht] at hB
              have hP : va_P (dC, dI) classes (wM g c v F rc) H1 := hB
              have hw_r7293 : (r7293.toInt = 1 ∧ z7281.toInt ≤ z7284.toInt ∧ z7284.toInt ≤ (9999 : Int32).toInt) ∨ (r7293.toInt = 0 ∧ (z7284.toInt < z7281.toInt ∨ (9999 : Int32).toInt < z7284.toInt)) := hw
              clear hw
              have k7294 : (9999 : Int32).toInt = 9999 := by decide
              clear hz1
              generalize H1 = H at hP hS ⊢
              refine lv_if_eq (tgt := 110) hx hb dX12_past_74 (by decide) (fun c7295 => ?_) (fun c7295 => ?_)
              · skip
                have t7296 := cv_eq (a := r7293.toInt) rfl (b := 0) (by decide) c7295
                refine lv_iconst (v := (-1)) hx hb dX12_past_110 (by decide) ?_
                have hP9 : va_P (dC, dI) classes (wM g c v F rc) H := hP
                exact W.iret (v := (-1)) hx hb hr (fun t ht hW => ⟨⟨(-1), (v, F, rc), rfl, ⟨hI, rfl, (fun _ _ => rfl), hF, hJ⟩, (by show va_P _ _ _ t.heap; rw [ht]; exact hP9)⟩, hS.F ht⟩) hS.2.2 dX12_past_111
              · skip
                have t7297 := cv_ne (a := r7293.toInt) rfl (b := 0) (by decide) c7295
                refine lv_iload hx hb dX12_past_77 (lv_at hl 6 rfl) ?_
                refine lv_iconst (v := 0) hx hb dX12_past_79 (by decide) ?_
                refine lv_ldc (v := 99999) hx hb hown (hwd _ wk_249) dX12_past_80 ?_
                refine va_calli (va_runS (As := [.int p3, .int 0, .int 99999]) (rest := []) ⟨hx, hb, hml, hown, hwd⟩ (c_X12_in l dC dI g c adK adV v F rc H.size p3 0 99999 hg hI ) (va_cwS 3 hwd (gT wk_254 wk_252 wk_253 wk_5) rfl rfl rfl (by decide +kernel) ⟨Nat.le_of_ble_eq_true rfl, Nat.le_of_ble_eq_true rfl⟩) ⟨PM.blind, fun U hU hW => ⟨rfl, PM.at hK hE hP hS hU hW⟩⟩ rfl rfl hl.1 rfl (lv_room (Nat.le_of_ble_eq_true rfl)) dX12_past_82 ⟨Nat.le_of_ble_eq_true rfl, Nat.le_of_ble_eq_true rfl⟩) hS (fun q _ h => (freeM hS) q h) (freeM hS) (fun r7298 u t H1 locs ht hvm hw hB hz1 hk1 hS => ?_)
                unfold BM at hB
                rw [ht] at hB
                have hP : va_P (dC, dI) classes (wM g c v F rc) H1 := hB
                have hw_r7298 : (r7298.toInt = 1 ∧ (0 : Int32).toInt ≤ p3.toInt ∧ p3.toInt ≤ (99999 : Int32).toInt) ∨ (r7298.toInt = 0 ∧ (p3.toInt < (0 : Int32).toInt ∨ (99999 : Int32).toInt < p3.toInt)) := hw
                clear hw
                have k7299 : (0 : Int32).toInt = 0 := by decide
                have k7300 : (99999 : Int32).toInt = 99999 := by decide
                clear hz1
                generalize H1 = H at hP hS ⊢
                refine lv_if_eq (tgt := 110) hx hb dX12_past_85 (by decide) (fun c7301 => ?_) (fun c7301 => ?_)
                · skip
                  have t7302 := cv_eq (a := r7298.toInt) rfl (b := 0) (by decide) c7301
                  refine lv_iconst (v := (-1)) hx hb dX12_past_110 (by decide) ?_
                  have hP9 : va_P (dC, dI) classes (wM g c v F rc) H := hP
                  exact W.iret (v := (-1)) hx hb hr (fun t ht hW => ⟨⟨(-1), (v, F, rc), rfl, ⟨hI, rfl, (fun _ _ => rfl), hF, hJ⟩, (by show va_P _ _ _ t.heap; rw [ht]; exact hP9)⟩, hS.F ht⟩) hS.2.2 dX12_past_111
                · skip
                  have t7303 := cv_ne (a := r7298.toInt) rfl (b := 0) (by decide) c7301
                  refine lv_iload hx hb dX12_past_88 (lv_at hl 7 rfl) ?_
                  refine lv_iconst (v := 0) hx hb dX12_past_90 (by decide) ?_
                  refine lv_ldc (v := 99999) hx hb hown (hwd _ wk_249) dX12_past_91 ?_
                  refine va_calli (va_runS (As := [.int p4, .int 0, .int 99999]) (rest := []) ⟨hx, hb, hml, hown, hwd⟩ (c_X12_in l dC dI g c adK adV v F rc H.size p4 0 99999 hg hI ) (va_cwS 3 hwd (gT wk_254 wk_252 wk_253 wk_5) rfl rfl rfl (by decide +kernel) ⟨Nat.le_of_ble_eq_true rfl, Nat.le_of_ble_eq_true rfl⟩) ⟨PM.blind, fun U hU hW => ⟨rfl, PM.at hK hE hP hS hU hW⟩⟩ rfl rfl hl.1 rfl (lv_room (Nat.le_of_ble_eq_true rfl)) dX12_past_93 ⟨Nat.le_of_ble_eq_true rfl, Nat.le_of_ble_eq_true rfl⟩) hS (fun q _ h => (freeM hS) q h) (freeM hS) (fun r7304 u t H1 locs ht hvm hw hB hz1 hk1 hS => ?_)
                  unfold BM at hB
                  rw [ht] at hB
                  have hP : va_P (dC, dI) classes (wM g c v F rc) H1 := hB
                  have hw_r7304 : (r7304.toInt = 1 ∧ (0 : Int32).toInt ≤ p4.toInt ∧ p4.toInt ≤ (99999 : Int32).toInt) ∨ (r7304.toInt = 0 ∧ (p4.toInt < (0 : Int32).toInt ∨ (99999 : Int32).toInt < p4.toInt)) := hw
                  clear hw
                  have k7305 : (0 : Int32).toInt = 0 := by decide
                  have k7306 : (99999 : Int32).toInt = 99999 := by decide
                  clear hz1
                  generalize H1 = H at hP hS ⊢
                  refine lv_if_eq (tgt := 110) hx hb dX12_past_96 (by decide) (fun c7307 => ?_) (fun c7307 => ?_)
                  · skip
                    have t7308 := cv_eq (a := r7304.toInt) rfl (b := 0) (by decide) c7307
                    refine lv_iconst (v := (-1)) hx hb dX12_past_110 (by decide) ?_
                    have hP9 : va_P (dC, dI) classes (wM g c v F rc) H := hP
                    exact W.iret (v := (-1)) hx hb hr (fun t ht hW => ⟨⟨(-1), (v, F, rc), rfl, ⟨hI, rfl, (fun _ _ => rfl), hF, hJ⟩, (by show va_P _ _ _ t.heap; rw [ht]; exact hP9)⟩, hS.F ht⟩) hS.2.2 dX12_past_111
                  · skip
                    have t7309 := cv_ne (a := r7304.toInt) rfl (b := 0) (by decide) c7307
                    refine lv_iload hx hb dX12_past_99 (lv_at hl 8 rfl) ?_
                    refine lv_iconst (v := 0) hx hb dX12_past_101 (by decide) ?_
                    refine lv_ldc (v := 99999999) hx hb hown (hwd _ wk_824) dX12_past_102 ?_
                    refine va_calli (va_runS (As := [.int p5, .int 0, .int 99999999]) (rest := []) ⟨hx, hb, hml, hown, hwd⟩ (c_X12_in l dC dI g c adK adV v F rc H.size p5 0 99999999 hg hI ) (va_cwS 3 hwd (gT wk_254 wk_252 wk_253 wk_5) rfl rfl rfl (by decide +kernel) ⟨Nat.le_of_ble_eq_true rfl, Nat.le_of_ble_eq_true rfl⟩) ⟨PM.blind, fun U hU hW => ⟨rfl, PM.at hK hE hP hS hU hW⟩⟩ rfl rfl hl.1 rfl (lv_room (Nat.le_of_ble_eq_true rfl)) dX12_past_104 ⟨Nat.le_of_ble_eq_true rfl, Nat.le_of_ble_eq_true rfl⟩) hS (fun q _ h => (freeM hS) q h) (freeM hS) (fun r7310 u t H1 locs ht hvm hw hB hz1 hk1 hS => ?_)
                    unfold BM at hB
                    rw [ht] at hB
                    have hP : va_P (dC, dI) classes (wM g c v F rc) H1 := hB
                    have hw_r7310 : (r7310.toInt = 1 ∧ (0 : Int32).toInt ≤ p5.toInt ∧ p5.toInt ≤ (99999999 : Int32).toInt) ∨ (r7310.toInt = 0 ∧ (p5.toInt < (0 : Int32).toInt ∨ (99999999 : Int32).toInt < p5.toInt)) := hw
                    clear hw
                    have k7311 : (0 : Int32).toInt = 0 := by decide
                    have k7312 : (99999999 : Int32).toInt = 99999999 := by decide
                    clear hz1
                    generalize H1 = H at hP hS ⊢
                    refine lv_if_ne (tgt := 112) hx hb dX12_past_107 (by decide) (fun c7313 => ?_) (fun c7313 => ?_)
                    · skip
                      have t7314 := cv_ne (a := r7310.toInt) rfl (b := 0) (by decide) c7313
                      refine lv_iload hx hb dX12_past_112 (lv_at hl 7 rfl) ?_
                      refine lv_iload hx hb dX12_past_114 (lv_at hl 8 rfl) ?_
                      refine lv_ldc (v := 100000) hx hb hown (hwd _ wk_825) dX12_past_116 ?_
                      refine lv_idiv hx hb dX12_past_118 (by decide) ?_
                      refine lv_topi (fun z7315 e7316 => ?_)
                      refine lv_iadd hx hb dX12_past_119 ?_
                      refine lv_topi (fun z7318 e7319 => ?_)
                      try (have t7320 := tadd e7319 (a := p4.toInt) rfl (b := z7315.toInt) rfl (by omega))
                      refine lv_sipush (v := 500) hx hb dX12_past_120 (by decide) ?_
                      refine lv_isub hx hb dX12_past_123 ?_
                      refine lv_topi (fun z7321 e7322 => ?_)
                      try (have t7323 := tsub e7322 (a := z7318.toInt) rfl (b := 500) (by decide) (by omega))
                      refine lv_istore (lv' := [(9, .int z7321), (8, .int z7284), (7, .int z7281), (0, .ref (g 0)), (1, .int p0), (2, .int p1), (3, .int p2), (4, .int p3), (5, .int p4), (6, .int p5)]) hx hb dX12_past_124 hl (by decide) rfl (fun ls hl => ?_)
                      refine lv_iload hx hb dX12_past_126 (lv_at hl 0 rfl) ?_
                      refine lv_if_ge (tgt := 133) hx hb dX12_past_128 (by decide) (fun c7324 => ?_) (fun c7324 => ?_)
                      · skip
                        have t7325 := cv_le (a := 0) (by decide) (b := z7321.toInt) rfl c7324
                        refine lv_aload_n hx hb dX12_past_133 rfl (lv_at hl 3 rfl) ?_
                        refine va_get (D := (dC, dI)) (ci := 12) (v := .int (v 19)) (C := RX12) (T := TX12) (N := 63) hx hb hwd inA_X12 hown hK hP 0 rfl rfl 19 (by decide) (hwd _ wk_494) (fun _ h9 => h9) rfl dX12_past_134 ?_
                        have t7326 : 0 ≤ (v 19).toInt ∧ (v 19).toInt ≤ 500 := hI.1 19 _ _ rfl
                        refine lv_sipush (v := 500) hx hb dX12_past_137 (by decide) ?_
                        refine lv_icmp_ne (tgt := 146) hx hb dX12_past_140 (by decide) (fun c7327 => ?_) (fun c7327 => ?_)
                        · skip
                          have t7328 := cv_ne (a := (v 19).toInt) rfl (b := 500) (by decide) c7327
                          refine lv_aload_n hx hb dX12_past_146 rfl (lv_at hl 3 rfl) ?_
                          refine va_get (D := (dC, dI)) (ci := 12) (v := .ref (g 15)) (C := RX12) (T := TX12) (N := 63) hx hb hwd inA_X12 hown hK hP 0 rfl rfl 20 (by decide) (hwd _ wk_196) (fun _ h9 => h9) rfl dX12_past_147 ?_
                          refine lv_aload_n hx hb dX12_past_150 rfl (lv_at hl 3 rfl) ?_
                          refine va_get (D := (dC, dI)) (ci := 12) (v := .int (v 19)) (C := RX12) (T := TX12) (N := 63) hx hb hwd inA_X12 hown hK hP 0 rfl rfl 19 (by decide) (hwd _ wk_494) (fun _ h9 => h9) rfl dX12_past_151 ?_
                          have t7329 : 0 ≤ (v 19).toInt ∧ (v 19).toInt ≤ 500 := hI.1 19 _ _ rfl
                          refine lv_iload_n hx hb dX12_past_154 rfl (lv_at hl 4 rfl) ?_
                          refine va_iast hx hb hK hP (DM hg) hS 15 14 rfl rfl (i := (v 19)) (x := p0) (vin (a := (v 19).toInt) rfl (by omega)) dX12_past_155 (fun H locs hP _ hS => ?_)
                          have hP := va_P_eq (sM_15 g c _ _ _ _) hP
                          have hI := IM.store hI 15 (v 19 : Int32).toNatClampNeg p0 rfl (by omega)
                          have hF := frUF (k := 15) (f := upd (F 15) (v 19 : Int32).toNatClampNeg p0) (by decide) hF
                          have st7331 : (va_up F 15 (upd (F 15) (v 19 : Int32).toNatClampNeg p0)) 15 = upd (F 15) (v 19 : Int32).toNatClampNeg p0 := va_up_self _ _ _
                          have sn7332 : ∀ k9, k9 ≠ 15 → (va_up F 15 (upd (F 15) (v 19 : Int32).toNatClampNeg p0)) k9 = F k9 := fun k9 h9 => va_up_ne _ _ h9
                          have hP : va_P (dC, dI) classes (wM g c v (va_up F 15 (upd (F 15) (v 19 : Int32).toNatClampNeg p0)) rc) H := hP
                          generalize (va_up F 15 (upd (F 15) (v 19 : Int32).toNatClampNeg p0)) = F7330 at hP hI hF st7331 sn7332
                          refine lv_aload_n hx hb dX12_past_156 rfl (lv_at hl 3 rfl) ?_
                          refine va_get (D := (dC, dI)) (ci := 12) (v := .ref (g 16)) (C := RX12) (T := TX12) (N := 63) hx hb hwd inA_X12 hown hK hP 0 rfl rfl 21 (by decide) (hwd _ wk_197) (fun _ h9 => h9) rfl dX12_past_157 ?_
                          refine lv_aload_n hx hb dX12_past_160 rfl (lv_at hl 3 rfl) ?_
                          refine va_get (D := (dC, dI)) (ci := 12) (v := .int (v 19)) (C := RX12) (T := TX12) (N := 63) hx hb hwd inA_X12 hown hK hP 0 rfl rfl 19 (by decide) (hwd _ wk_494) (fun _ h9 => h9) rfl dX12_past_161 ?_
                          have t7333 : 0 ≤ (v 19).toInt ∧ (v 19).toInt ≤ 500 := hI.1 19 _ _ rfl
                          refine lv_iload_n hx hb dX12_past_164 rfl (lv_at hl 5 rfl) ?_
                          refine va_iast hx hb hK hP (DM hg) hS 16 15 rfl rfl (i := (v 19)) (x := p1) (vin (a := (v 19).toInt) rfl (by omega)) dX12_past_165 (fun H locs hP _ hS => ?_)
                          have hP := va_P_eq (sM_16 g c _ _ _ _) hP
                          have hI := IM.store hI 16 (v 19 : Int32).toNatClampNeg p1 rfl (by omega)
                          have hF := frUF (k := 16) (f := upd (F7330 16) (v 19 : Int32).toNatClampNeg p1) (by decide) hF
                          have st7335 : (va_up F7330 16 (upd (F7330 16) (v 19 : Int32).toNatClampNeg p1)) 16 = upd (F7330 16) (v 19 : Int32).toNatClampNeg p1 := va_up_self _ _ _
                          have sn7336 : ∀ k9, k9 ≠ 16 → (va_up F7330 16 (upd (F7330 16) (v 19 : Int32).toNatClampNeg p1)) k9 = F7330 k9 := fun k9 h9 => va_up_ne _ _ h9
                          have hP : va_P (dC, dI) classes (wM g c v (va_up F7330 16 (upd (F7330 16) (v 19 : Int32).toNatClampNeg p1)) rc) H := hP
                          generalize (va_up F7330 16 (upd (F7330 16) (v 19 : Int32).toNatClampNeg p1)) = F7334 at hP hI hF st7335 sn7336
                          refine lv_aload_n hx hb dX12_past_166 rfl (lv_at hl 3 rfl) ?_
                          refine va_get (D := (dC, dI)) (ci := 12) (v := .ref (g 17)) (C := RX12) (T := TX12) (N := 63) hx hb hwd inA_X12 hown hK hP 0 rfl rfl 22 (by decide) (hwd _ wk_198) (fun _ h9 => h9) rfl dX12_past_167 ?_
                          refine lv_aload_n hx hb dX12_past_170 rfl (lv_at hl 3 rfl) ?_
                          refine va_get (D := (dC, dI)) (ci := 12) (v := .int (v 19)) (C := RX12) (T := TX12) (N := 63) hx hb hwd inA_X12 hown hK hP 0 rfl rfl 19 (by decide) (hwd _ wk_494) (fun _ h9 => h9) rfl dX12_past_171 ?_
                          have t7337 : 0 ≤ (v 19).toInt ∧ (v 19).toInt ≤ 500 := hI.1 19 _ _ rfl
                          refine lv_iload hx hb dX12_past_174 (lv_at hl 2 rfl) ?_
                          refine lv_sipush (v := 9999) hx hb dX12_past_176 (by decide) ?_
                          refine lv_isub hx hb dX12_past_179 ?_
                          refine lv_topi (fun z7338 e7339 => ?_)
                          try (have t7340 := tsub e7339 (a := z7281.toInt) rfl (b := 9999) (by decide) (by omega))
                          refine va_iast hx hb hK hP (DM hg) hS 17 16 rfl rfl (i := (v 19)) (x := z7338) (vin (a := (v 19).toInt) rfl (by omega)) dX12_past_180 (fun H locs hP _ hS => ?_)
                          have hP := va_P_eq (sM_17 g c _ _ _ _) hP
                          have hI := IM.store0 hI 17 (v 19 : Int32).toNatClampNeg z7338 rfl
                          have hF := frUF (k := 17) (f := upd (F7334 17) (v 19 : Int32).toNatClampNeg z7338) (by decide) hF
                          have st7342 : (va_up F7334 17 (upd (F7334 17) (v 19 : Int32).toNatClampNeg z7338)) 17 = upd (F7334 17) (v 19 : Int32).toNatClampNeg z7338 := va_up_self _ _ _
                          have sn7343 : ∀ k9, k9 ≠ 17 → (va_up F7334 17 (upd (F7334 17) (v 19 : Int32).toNatClampNeg z7338)) k9 = F7334 k9 := fun k9 h9 => va_up_ne _ _ h9
                          have hP : va_P (dC, dI) classes (wM g c v (va_up F7334 17 (upd (F7334 17) (v 19 : Int32).toNatClampNeg z7338)) rc) H := hP
                          generalize (va_up F7334 17 (upd (F7334 17) (v 19 : Int32).toNatClampNeg z7338)) = F7341 at hP hI hF st7342 sn7343
                          refine lv_aload_n hx hb dX12_past_181 rfl (lv_at hl 3 rfl) ?_
                          refine va_get (D := (dC, dI)) (ci := 12) (v := .ref (g 18)) (C := RX12) (T := TX12) (N := 63) hx hb hwd inA_X12 hown hK hP 0 rfl rfl 23 (by decide) (hwd _ wk_199) (fun _ h9 => h9) rfl dX12_past_182 ?_
                          refine lv_aload_n hx hb dX12_past_185 rfl (lv_at hl 3 rfl) ?_
                          refine va_get (D := (dC, dI)) (ci := 12) (v := .int (v 19)) (C := RX12) (T := TX12) (N := 63) hx hb hwd inA_X12 hown hK hP 0 rfl rfl 19 (by decide) (hwd _ wk_494) (fun _ h9 => h9) rfl dX12_past_186 ?_
                          have t7344 : 0 ≤ (v 19).toInt ∧ (v 19).toInt ≤ 500 := hI.1 19 _ _ rfl
                          refine lv_iload hx hb dX12_past_189 (lv_at hl 1 rfl) ?_
                          refine lv_sipush (v := 9999) hx hb dX12_past_191 (by decide) ?_
                          refine lv_isub hx hb dX12_past_194 ?_
                          refine lv_topi (fun z7345 e7346 => ?_)
                          try (have t7347 := tsub e7346 (a := z7284.toInt) rfl (b := 9999) (by decide) (by omega))
                          refine va_iast hx hb hK hP (DM hg) hS 18 17 rfl rfl (i := (v 19)) (x := z7345) (vin (a := (v 19).toInt) rfl (by omega)) dX12_past_195 (fun H locs hP _ hS => ?_)
                          have hP := va_P_eq (sM_18 g c _ _ _ _) hP
                          have hI := IM.store0 hI 18 (v 19 : Int32).toNatClampNeg z7345 rfl
                          have hF := frUF (k := 18) (f := upd (F7341 18) (v 19 : Int32).toNatClampNeg z7345) (by decide) hF
                          have st7349 : (va_up F7341 18 (upd (F7341 18) (v 19 : Int32).toNatClampNeg z7345)) 18 = upd (F7341 18) (v 19 : Int32).toNatClampNeg z7345 := va_up_self _ _ _
                          have sn7350 : ∀ k9, k9 ≠ 18 → (va_up F7341 18 (upd (F7341 18) (v 19 : Int32).toNatClampNeg z7345)) k9 = F7341 k9 := fun k9 h9 => va_up_ne _ _ h9
                          have hP : va_P (dC, dI) classes (wM g c v (va_up F7341 18 (upd (F7341 18) (v 19 : Int32).toNatClampNeg z7345)) rc) H := hP
                          generalize (va_up F7341 18 (upd (F7341 18) (v 19 : Int32).toNatClampNeg z7345)) = F7348 at hP hI hF st7349 sn7350
                          refine lv_aload_n hx hb dX12_past_196 rfl (lv_at hl 3 rfl) ?_
                          refine va_get (D := (dC, dI)) (ci := 12) (v := .ref (g 19)) (C := RX12) (T := TX12) (N := 63) hx hb hwd inA_X12 hown hK hP 0 rfl rfl 24 (by decide) (hwd _ wk_200) (fun _ h9 => h9) rfl dX12_past_197 ?_
                          refine lv_aload_n hx hb dX12_past_200 rfl (lv_at hl 3 rfl) ?_
                          refine va_get (D := (dC, dI)) (ci := 12) (v := .int (v 19)) (C := RX12) (T := TX12) (N := 63) hx hb hwd inA_X12 hown hK hP 0 rfl rfl 19 (by decide) (hwd _ wk_494) (fun _ h9 => h9) rfl dX12_past_201 ?_
                          have t7351 : 0 ≤ (v 19).toInt ∧ (v 19).toInt ≤ 500 := hI.1 19 _ _ rfl
                          refine lv_iload hx hb dX12_past_204 (lv_at hl 7 rfl) ?_
                          refine va_iast hx hb hK hP (DM hg) hS 19 18 rfl rfl (i := (v 19)) (x := p3) (vin (a := (v 19).toInt) rfl (by omega)) dX12_past_206 (fun H locs hP _ hS => ?_)
                          have hP := va_P_eq (sM_19 g c _ _ _ _) hP
                          have hI := IM.store0 hI 19 (v 19 : Int32).toNatClampNeg p3 rfl
                          have hF := frUF (k := 19) (f := upd (F7348 19) (v 19 : Int32).toNatClampNeg p3) (by decide) hF
                          have st7353 : (va_up F7348 19 (upd (F7348 19) (v 19 : Int32).toNatClampNeg p3)) 19 = upd (F7348 19) (v 19 : Int32).toNatClampNeg p3 := va_up_self _ _ _
                          have sn7354 : ∀ k9, k9 ≠ 19 → (va_up F7348 19 (upd (F7348 19) (v 19 : Int32).toNatClampNeg p3)) k9 = F7348 k9 := fun k9 h9 => va_up_ne _ _ h9
                          have hP : va_P (dC, dI) classes (wM g c v (va_up F7348 19 (upd (F7348 19) (v 19 : Int32).toNatClampNeg p3)) rc) H := hP
                          generalize (va_up F7348 19 (upd (F7348 19) (v 19 : Int32).toNatClampNeg p3)) = F7352 at hP hI hF st7353 sn7354
                          refine lv_aload_n hx hb dX12_past_207 rfl (lv_at hl 3 rfl) ?_
                          refine va_get (D := (dC, dI)) (ci := 12) (v := .ref (g 20)) (C := RX12) (T := TX12) (N := 63) hx hb hwd inA_X12 hown hK hP 0 rfl rfl 25 (by decide) (hwd _ wk_201) (fun _ h9 => h9) rfl dX12_past_208 ?_
                          refine lv_aload_n hx hb dX12_past_211 rfl (lv_at hl 3 rfl) ?_
                          refine va_get (D := (dC, dI)) (ci := 12) (v := .int (v 19)) (C := RX12) (T := TX12) (N := 63) hx hb hwd inA_X12 hown hK hP 0 rfl rfl 19 (by decide) (hwd _ wk_494) (fun _ h9 => h9) rfl dX12_past_212 ?_
                          have t7355 : 0 ≤ (v 19).toInt ∧ (v 19).toInt ≤ 500 := hI.1 19 _ _ rfl
                          refine lv_iload hx hb dX12_past_215 (lv_at hl 9 rfl) ?_
                          refine lv_ldc (v := 100000) hx hb hown (hwd _ wk_825) dX12_past_217 ?_
                          refine lv_irem hx hb dX12_past_219 (by decide) ?_
                          refine lv_topi (fun z7356 e7357 => ?_)
                          refine va_iast hx hb hK hP (DM hg) hS 20 19 rfl rfl (i := (v 19)) (x := z7356) (vin (a := (v 19).toInt) rfl (by omega)) dX12_past_220 (fun H locs hP _ hS => ?_)
                          have hP := va_P_eq (sM_20 g c _ _ _ _) hP
                          have hI := IM.store0 hI 20 (v 19 : Int32).toNatClampNeg z7356 rfl
                          have hF := frUF (k := 20) (f := upd (F7352 20) (v 19 : Int32).toNatClampNeg z7356) (by decide) hF
                          have st7360 : (va_up F7352 20 (upd (F7352 20) (v 19 : Int32).toNatClampNeg z7356)) 20 = upd (F7352 20) (v 19 : Int32).toNatClampNeg z7356 := va_up_self _ _ _
                          have sn7361 : ∀ k9, k9 ≠ 20 → (va_up F7352 20 (upd (F7352 20) (v 19 : Int32).toNatClampNeg z7356)) k9 = F7352 k9 := fun k9 h9 => va_up_ne _ _ h9
                          have hP : va_P (dC, dI) classes (wM g c v (va_up F7352 20 (upd (F7352 20) (v 19 : Int32).toNatClampNeg z7356)) rc) H := hP
                          generalize (va_up F7352 20 (upd (F7352 20) (v 19 : Int32).toNatClampNeg z7356)) = F7359 at hP hI hF st7360 sn7361
                          refine lv_aload_n hx hb dX12_past_221 rfl (lv_at hl 3 rfl) ?_
                          refine va_get (D := (dC, dI)) (ci := 12) (v := .ref (g 21)) (C := RX12) (T := TX12) (N := 63) hx hb hwd inA_X12 hown hK hP 0 rfl rfl 26 (by decide) (hwd _ wk_202) (fun _ h9 => h9) rfl dX12_past_222 ?_
                          refine lv_aload_n hx hb dX12_past_225 rfl (lv_at hl 3 rfl) ?_
                          refine va_get (D := (dC, dI)) (ci := 12) (v := .int (v 19)) (C := RX12) (T := TX12) (N := 63) hx hb hwd inA_X12 hown hK hP 0 rfl rfl 19 (by decide) (hwd _ wk_494) (fun _ h9 => h9) rfl dX12_past_226 ?_
                          have t7362 : 0 ≤ (v 19).toInt ∧ (v 19).toInt ≤ 500 := hI.1 19 _ _ rfl
                          refine lv_iload hx hb dX12_past_229 (lv_at hl 8 rfl) ?_
                          refine va_iast hx hb hK hP (DM hg) hS 21 20 rfl rfl (i := (v 19)) (x := p4) (vin (a := (v 19).toInt) rfl (by omega)) dX12_past_231 (fun H locs hP _ hS => ?_)
                          have hP := va_P_eq (sM_21 g c _ _ _ _) hP
                          have hI := IM.store0 hI 21 (v 19 : Int32).toNatClampNeg p4 rfl
                          have hF := frUF (k := 21) (f := upd (F7359 21) (v 19 : Int32).toNatClampNeg p4) (by decide) hF
                          have st7364 : (va_up F7359 21 (upd (F7359 21) (v 19 : Int32).toNatClampNeg p4)) 21 = upd (F7359 21) (v 19 : Int32).toNatClampNeg p4 := va_up_self _ _ _
                          have sn7365 : ∀ k9, k9 ≠ 21 → (va_up F7359 21 (upd (F7359 21) (v 19 : Int32).toNatClampNeg p4)) k9 = F7359 k9 := fun k9 h9 => va_up_ne _ _ h9
                          have hP : va_P (dC, dI) classes (wM g c v (va_up F7359 21 (upd (F7359 21) (v 19 : Int32).toNatClampNeg p4)) rc) H := hP
                          generalize (va_up F7359 21 (upd (F7359 21) (v 19 : Int32).toNatClampNeg p4)) = F7363 at hP hI hF st7364 sn7365
                          refine lv_aload_n hx hb dX12_past_232 rfl (lv_at hl 3 rfl) ?_
                          refine va_get (D := (dC, dI)) (ci := 12) (v := .ref (g 22)) (C := RX12) (T := TX12) (N := 63) hx hb hwd inA_X12 hown hK hP 0 rfl rfl 27 (by decide) (hwd _ wk_203) (fun _ h9 => h9) rfl dX12_past_233 ?_
                          refine lv_aload_n hx hb dX12_past_236 rfl (lv_at hl 3 rfl) ?_
                          refine va_get (D := (dC, dI)) (ci := 12) (v := .int (v 19)) (C := RX12) (T := TX12) (N := 63) hx hb hwd inA_X12 hown hK hP 0 rfl rfl 19 (by decide) (hwd _ wk_494) (fun _ h9 => h9) rfl dX12_past_237 ?_
                          have t7366 : 0 ≤ (v 19).toInt ∧ (v 19).toInt ≤ 500 := hI.1 19 _ _ rfl
                          refine lv_iload hx hb dX12_past_240 (lv_at hl 0 rfl) ?_
                          refine va_iast hx hb hK hP (DM hg) hS 22 21 rfl rfl (i := (v 19)) (x := z7321) (vin (a := (v 19).toInt) rfl (by omega)) dX12_past_242 (fun H locs hP _ hS => ?_)
                          have hP := va_P_eq (sM_22 g c _ _ _ _) hP
                          have hI := IM.store0 hI 22 (v 19 : Int32).toNatClampNeg z7321 rfl
                          have hF := frUF (k := 22) (f := upd (F7363 22) (v 19 : Int32).toNatClampNeg z7321) (by decide) hF
                          have st7368 : (va_up F7363 22 (upd (F7363 22) (v 19 : Int32).toNatClampNeg z7321)) 22 = upd (F7363 22) (v 19 : Int32).toNatClampNeg z7321 := va_up_self _ _ _
                          have sn7369 : ∀ k9, k9 ≠ 22 → (va_up F7363 22 (upd (F7363 22) (v 19 : Int32).toNatClampNeg z7321)) k9 = F7363 k9 := fun k9 h9 => va_up_ne _ _ h9
                          have hP : va_P (dC, dI) classes (wM g c v (va_up F7363 22 (upd (F7363 22) (v 19 : Int32).toNatClampNeg z7321)) rc) H := hP
                          generalize (va_up F7363 22 (upd (F7363 22) (v 19 : Int32).toNatClampNeg z7321)) = F7367 at hP hI hF st7368 sn7369
                          refine lv_aload_n hx hb dX12_past_243 rfl (lv_at hl 3 rfl) ?_
                          refine va_get (D := (dC, dI)) (ci := 12) (v := .ref (g 23)) (C := RX12) (T := TX12) (N := 63) hx hb hwd inA_X12 hown hK hP 0 rfl rfl 28 (by decide) (hwd _ wk_204) (fun _ h9 => h9) rfl dX12_past_244 ?_
                          refine lv_aload_n hx hb dX12_past_247 rfl (lv_at hl 3 rfl) ?_
                          refine va_get (D := (dC, dI)) (ci := 12) (v := .int (v 19)) (C := RX12) (T := TX12) (N := 63) hx hb hwd inA_X12 hown hK hP 0 rfl rfl 19 (by decide) (hwd _ wk_494) (fun _ h9 => h9) rfl dX12_past_248 ?_
                          have t7370 : 0 ≤ (v 19).toInt ∧ (v 19).toInt ≤ 500 := hI.1 19 _ _ rfl
                          refine lv_iconst (v := 0) hx hb dX12_past_251 (by decide) ?_
                          refine va_zast hx hb hK hP (DM hg) hS 23 22 rfl rfl (i := (v 19)) (x := 0) (vin (a := (v 19).toInt) rfl (by omega)) dX12_past_252 (fun H locs hP _ hS => ?_)
                          have hP := va_P_eq (sM_23 g c _ _ _ _) hP
                          have hI := IM.store0 hI 23 (v 19 : Int32).toNatClampNeg (vp_nar .boolean 0) rfl
                          have hF := frUF (k := 23) (f := upd (F7367 23) (v 19 : Int32).toNatClampNeg (vp_nar .boolean 0)) (by decide) hF
                          have st7372 : (va_up F7367 23 (upd (F7367 23) (v 19 : Int32).toNatClampNeg (vp_nar .boolean 0))) 23 = upd (F7367 23) (v 19 : Int32).toNatClampNeg (vp_nar .boolean 0) := va_up_self _ _ _
                          have sn7373 : ∀ k9, k9 ≠ 23 → (va_up F7367 23 (upd (F7367 23) (v 19 : Int32).toNatClampNeg (vp_nar .boolean 0))) k9 = F7367 k9 := fun k9 h9 => va_up_ne _ _ h9
                          have hP : va_P (dC, dI) classes (wM g c v (va_up F7367 23 (upd (F7367 23) (v 19 : Int32).toNatClampNeg (vp_nar .boolean 0))) rc) H := hP
                          generalize (va_up F7367 23 (upd (F7367 23) (v 19 : Int32).toNatClampNeg (vp_nar .boolean 0))) = F7371 at hP hI hF st7372 sn7373
                          refine lv_aload_n hx hb dX12_past_253 rfl (lv_at hl 3 rfl) ?_
                          refine lv_dup hx hb dX12_past_254 rfl ?_
                          refine va_get (D := (dC, dI)) (ci := 12) (v := .int (v 19)) (C := RX12) (T := TX12) (N := 63) hx hb hwd inA_X12 hown hK hP 0 rfl rfl 19 (by decide) (hwd _ wk_494) (fun _ h9 => h9) rfl dX12_past_255 ?_
                          have t7374 : 0 ≤ (v 19).toInt ∧ (v 19).toInt ≤ 500 := hI.1 19 _ _ rfl
                          refine lv_iconst (v := 1) hx hb dX12_past_258 (by decide) ?_
                          refine lv_iadd hx hb dX12_past_259 ?_
                          refine lv_topi (fun z7375 e7376 => ?_)
                          try (have t7377 := tadd e7376 (a := (v 19).toInt) rfl (b := 1) (by decide) (by omega))
                          refine va_put (D := (dC, dI)) (ci := 12) (v := .int z7375) (ty := .int) (C := RX12) (T := TX12) (N := 63) (fs := fsM_0 g v rc) hx hb hwd inA_X12 tyX12 tyX12_ok nmX12 hown hK hP (DM hg) hS 0 rfl rfl 19 (by decide) (hwd _ wk_494) (fun _ h9 => h9) rfl (by decide +kernel) rfl rfl (Nat.le_of_ble_eq_true rfl) dX12_past_260 (fun H locs hP _ hS => ?_)
                          have hP := va_P_eq (pM_19 g c _ _ _ _) hP
                          have hI := IM.put hI 19 z7375 rfl (by omega)
                          refine lv_aload_n hx hb dX12_past_263 rfl (lv_at hl 3 rfl) ?_
                          refine lv_iload_n hx hb dX12_past_264 rfl (lv_at hl 4 rfl) ?_
                          have t7378 : 0 ≤ z7375.toInt ∧ z7375.toInt ≤ 500 := hI.1 19 _ _ rfl
                          refine va_calli (va_runV (As := [.int p0]) (rest := []) ⟨hx, hb, hml, hown, hwd⟩ (c_X12_staysOf l dC dI g c adK adV (va_up v 19 z7375) F7371 rc H.size p0 hg hI ) (cwV 1 hwd (gV wk_720 wk_717 wk_718 wk_719 wk_5) rfl rfl rfl (by decide +kernel) ⟨Nat.le_of_ble_eq_true rfl, Nat.le_of_ble_eq_true rfl⟩) ⟨PM.blind, va_recv hK hP (ci := 12) (q0 := 0) rfl rfl, fun U hU hW => ⟨rfl, PM.at hK hE hP hS hU hW⟩⟩ rfl rfl hl.1 rfl (lv_room (Nat.le_of_ble_eq_true rfl)) dX12_past_265 ⟨Nat.le_of_ble_eq_true rfl, Nat.le_of_ble_eq_true rfl⟩) hS (fun q _ h => (freeM hS) q h) (freeM hS) (fun r7379 u t H1 locs ht hvm hw hB hz1 hk1 hS => ?_)
                          unfold BM at hB
                          rw [ht] at hB
                          have hP : va_P (dC, dI) classes (wM g c (va_up v 19 z7375) F7371 rc) H1 := hB
                          replace hw : r7379.toInt = (cnt (stP (F7371 15) p0.toInt) z7375.toNatClampNeg : Int) := hw
                          have hw_r7379 := hw
                          clear hw
                          clear hz1
                          generalize H1 = H at hP hS ⊢
                          have rr_r7379 := i32_rng r7379
                          have hP9 : va_P (dC, dI) classes (wM g c (va_up v 19 z7375) F7371 rc) H := hP
                          exact W.iret (v := r7379) hx hb hr (fun t ht hW => ⟨⟨r7379, ((va_up v 19 z7375), F7371, rc), rfl, ⟨hI, rfl, (frU (by decide) (fun _ _ => rfl)), hF, (by show JO ((va_up v 19 z7375) 14) ((va_up v 19 z7375) 19) (F7371 13) (F7371 15) (F7371 18); rw [show (va_up v 19 z7375) 14 = v 14 from rfl, show (va_up v 19 z7375) 19 = z7375 from rfl, show F7371 13 = F 13 from (hF 13 (by decide))]; exact JO.past hJ (past_has (by omega) (by omega) ((sn7373 15 (by decide)).trans ((sn7369 15 (by decide)).trans ((sn7365 15 (by decide)).trans ((sn7361 15 (by decide)).trans ((sn7354 15 (by decide)).trans ((sn7350 15 (by decide)).trans ((sn7343 15 (by decide)).trans ((sn7336 15 (by decide)).trans st7331)))))))) ((sn7373 18 (by decide)).trans ((sn7369 18 (by decide)).trans ((sn7365 18 (by decide)).trans ((sn7361 18 (by decide)).trans ((sn7354 18 (by decide)).trans (st7349.trans (congrArg (fun f => upd f (v 19 : Int32).toNatClampNeg z7345) ((sn7343 18 (by decide)).trans ((sn7336 18 (by decide)).trans (sn7332 18 (by decide)))))))))))))⟩, (by show va_P _ _ _ t.heap; rw [ht]; exact hP9)⟩, hS.F ht⟩) hS.2.2 dX12_past_268
                        · skip
                          have t7380 := cv_eq (a := (v 19).toInt) rfl (b := 500) (by decide) c7327
                          refine lv_bipush (v := (-3)) hx hb dX12_past_143 (by decide) ?_
                          have hP9 : va_P (dC, dI) classes (wM g c v F rc) H := hP
                          exact W.iret (v := (-3)) hx hb hr (fun t ht hW => ⟨⟨(-3), (v, F, rc), rfl, ⟨hI, rfl, (fun _ _ => rfl), hF, hJ⟩, (by show va_P _ _ _ t.heap; rw [ht]; exact hP9)⟩, hS.F ht⟩) hS.2.2 dX12_past_145
                      · skip
                        have t7381 := cv_nle (a := 0) (by decide) (b := z7321.toInt) rfl c7324
                        refine lv_iconst (v := (-1)) hx hb dX12_past_131 (by decide) ?_
                        have hP9 : va_P (dC, dI) classes (wM g c v F rc) H := hP
                        exact W.iret (v := (-1)) hx hb hr (fun t ht hW => ⟨⟨(-1), (v, F, rc), rfl, ⟨hI, rfl, (fun _ _ => rfl), hF, hJ⟩, (by show va_P _ _ _ t.heap; rw [ht]; exact hP9)⟩, hS.F ht⟩) hS.2.2 dX12_past_132
                    · skip
                      have t7382 := cv_eq (a := r7310.toInt) rfl (b := 0) (by decide) c7313
                      refine lv_iconst (v := (-1)) hx hb dX12_past_110 (by decide) ?_
                      have hP9 : va_P (dC, dI) classes (wM g c v F rc) H := hP
                      exact W.iret (v := (-1)) hx hb hr (fun t ht hW => ⟨⟨(-1), (v, F, rc), rfl, ⟨hI, rfl, (fun _ _ => rfl), hF, hJ⟩, (by show va_P _ _ _ t.heap; rw [ht]; exact hP9)⟩, hS.F ht⟩) hS.2.2 dX12_past_111
          · skip
            have t7383 := cv_nle (a := 0) (by decide) (b := p2.toInt) rfl c7279
            refine lv_iconst (v := (-1)) hx hb dX12_past_36 (by decide) ?_
            have hP9 : va_P (dC, dI) classes (wM g c v F rc) H := hP
            exact W.iret (v := (-1)) hx hb hr (fun t ht hW => ⟨⟨(-1), (v, F, rc), rfl, ⟨hI, rfl, (fun _ _ => rfl), hF, hJ⟩, (by show va_P _ _ _ t.heap; rw [ht]; exact hP9)⟩, hS.F ht⟩) hS.2.2 dX12_past_37
set_option maxHeartbeats 8000000 in
set_option maxRecDepth 100000 in
theorem c_X12_feed (l : Launch) (dC : Nat → ClassId) (dI : Nat → Nat → Nat) (g : Nat → Nat) (c : Nat → ClassId) (adK adV : Nat → Nat) (v : Nat → Int32) (F : Nat → Nat → Int32) (rc sz : Nat) (p0 : Int32) (p1 : Int32) (hg : injM g) (hI : IM v F) : Met l yX12_feed (Cond.code yX12_feed cX12_feed 4 (some .int) :: wA) ({ frames := 2, cells := 0, slots := 0, locals := 80 }) (va_Pc [.ref (g 0), .int p0, .int p1] (PM dC dI g c adK adV v F rc sz)) (va_Qi (fun (r : Int32) (u : StM) => IM u.1 u.2.1 ∧ u.2.2 = rc ∧ (∀ k, k ∉ ([30] : List Nat) → u.1 k = v k) ∧ (∀ k, k ∉ ([24] : List Nat) → u.2.1 k = F k) ∧ True) (BM dC dI g c) (AM g sz)) 0 0 (AM g sz) := by
  refine Met.ofW (cc := cX12_feed) (maxL := 4) (ret := (some .int)) (by decide) rfl ?_
  intro p e s m args below meth c0 s₁ B hml hv
  obtain ⟨rfl, hsz, hP, hK, hE⟩ := hv
  have hx := B.exec
  have hb := B.bytes
  have hr := B.returns
  have hts := atoms_spec (ws := Cond.code yX12_feed cX12_feed 4 (some .int) :: wA) B.pre
  have hwd : ∀ w ∈ wA, w.before _ s = true := fun w h => hts w (List.mem_cons_of_mem _ h)
  have hown : s.vm.findClass RX12 = some m.cls := findClass_of_methodNamed B.named
  have hlocks := B.notSynchronized
  subst hsz
  have hl := lv_entry ([.ref (g 0), .int p0, .int p1]) (n := 4) (Nat.le_of_ble_eq_true rfl)
  rw [lg_entry_eq]
  generalize (lg_sl ([.ref (g 0), .int p0, .int p1]) ++ List.replicate (4 - (lg_sl ([.ref (g 0), .int p0, .int p1])).length) Slot.unset).toArray = ls at hl ⊢
  have hl : lv_has ls 4 [(0, .ref (g 0)), (1, .int p0), (2, .int p1)] := hl
  obtain ⟨H, eH⟩ : ∃ z, z = s.heap := ⟨_, rfl⟩
  have hP : va_P (dC, dI) classes (wM g c v F rc) H := by rw [eH]; exact hP
  have hS : va_S (AM g s.heap.size) s.heap H [] := by rw [eH]; exact va_S.rf
  refine my_heap eH ?_
  have hF : ∀ k, k ∉ ([24] : List Nat) → F k = F k := fun _ _ => rfl
  have rp0 := i32_rng p0
  have rp1 := i32_rng p1
  refine lv_iload_n hx hb dX12_feed_0 rfl (lv_at hl 1 rfl) ?_
  refine lv_iconst (v := 1) hx hb dX12_feed_1 (by decide) ?_
  refine lv_iconst (v := 4) hx hb dX12_feed_2 (by decide) ?_
  refine va_calli (va_runS (As := [.int p0, .int 1, .int 4]) (rest := []) ⟨hx, hb, hml, hown, hwd⟩ (c_X12_in l dC dI g c adK adV v F rc H.size p0 1 4 hg hI ) (va_cwS 3 hwd (gT wk_254 wk_252 wk_253 wk_5) rfl rfl rfl (by decide +kernel) ⟨Nat.le_of_ble_eq_true rfl, Nat.le_of_ble_eq_true rfl⟩) ⟨PM.blind, fun U hU hW => ⟨rfl, PM.at hK hE hP hS hU hW⟩⟩ rfl rfl hl.1 rfl (lv_room (Nat.le_of_ble_eq_true rfl)) dX12_feed_3 ⟨Nat.le_of_ble_eq_true rfl, Nat.le_of_ble_eq_true rfl⟩) hS (fun q _ h => (freeM hS) q h) (freeM hS) (fun r7421 u t H1 locs ht hvm hw hB hz1 hk1 hS => ?_)
  unfold BM at hB
  rw [ht] at hB
  have hP : va_P (dC, dI) classes (wM g c v F rc) H1 := hB
  have hw_r7421 : (r7421.toInt = 1 ∧ (1 : Int32).toInt ≤ p0.toInt ∧ p0.toInt ≤ (4 : Int32).toInt) ∨ (r7421.toInt = 0 ∧ (p0.toInt < (1 : Int32).toInt ∨ (4 : Int32).toInt < p0.toInt)) := hw
  clear hw
  have k7422 : (1 : Int32).toInt = 1 := by decide
  have k7423 : (4 : Int32).toInt = 4 := by decide
  clear hz1
  generalize H1 = H at hP hS ⊢
  refine lv_if_ne (tgt := 11) hx hb dX12_feed_6 (by decide) (fun c7424 => ?_) (fun c7424 => ?_)
  · skip
    have t7425 := cv_ne (a := r7421.toInt) rfl (b := 0) (by decide) c7424
    refine lv_aload_n hx hb dX12_feed_11 rfl (lv_at hl 0 rfl) ?_
    refine va_get (D := (dC, dI)) (ci := 12) (v := .int (v 30)) (C := RX12) (T := TX12) (N := 63) hx hb hwd inA_X12 hown hK hP 0 rfl rfl 30 (by decide) (hwd _ wk_839) (fun _ h9 => h9) rfl dX12_feed_12 ?_
    have t7426 : 0 ≤ (v 30).toInt ∧ (v 30).toInt ≤ 120 := hI.1 30 _ _ rfl
    refine lv_iload_n hx hb dX12_feed_15 rfl (lv_at hl 1 rfl) ?_
    refine lv_iadd hx hb dX12_feed_16 ?_
    refine lv_topi (fun z7427 e7428 => ?_)
    try (have t7429 := tadd e7428 (a := (v 30).toInt) rfl (b := p0.toInt) rfl (by omega))
    refine lv_bipush (v := 120) hx hb dX12_feed_17 (by decide) ?_
    refine lv_icmp_le (tgt := 25) hx hb dX12_feed_19 (by decide) (fun c7430 => ?_) (fun c7430 => ?_)
    · skip
      have t7431 := cv_le (a := z7427.toInt) rfl (b := 120) (by decide) c7430
      refine lv_iconst (v := 0) hx hb dX12_feed_25 (by decide) ?_
      refine lv_istore_n (lv' := [(3, .int 0), (0, .ref (g 0)), (1, .int p0), (2, .int p1)]) hx hb dX12_feed_26 rfl hl (by decide) rfl (fun ls hl => ?_)
      have lp7432 : ∀ (n : Nat) (x3_lp7432 : Int32) (v_lp7432 : Nat → Int32) (F_lp7432 : Nat → Nat → Int32) (H : Heap) (locs : List Loc) (ls : Array Slot), (0 ≤ x3_lp7432.toInt) → ((v_lp7432 30).toInt + p0.toInt ≤ 120 + x3_lp7432.toInt) → (2147483648 - x3_lp7432.toInt ≤ (n : Int)) → (∀ k, k ∉ ([30] : List Nat) → v_lp7432 k = v k) → IM v_lp7432 F_lp7432 → (∀ k, k ∉ ([24] : List Nat) → F_lp7432 k = F k) → va_P (dC, dI) classes (wM g c v_lp7432 F_lp7432 rc) H → va_S (AM g s.heap.size) s.heap H locs → lv_has ls 4 [(3, .int x3_lp7432), (0, .ref (g 0)), (1, .int p0), (2, .int p1)] → W p l e (headSpec (Cond.code yX12_feed cX12_feed 4 (some .int) :: wA) ({ frames := 2, cells := 0, slots := 0, locals := 80 })).room s m ([.ref (g 0), .int p0, .int p1] : List Value).toArray below meth c0 H locs 0 0 (MQ below (va_Qi (fun (r : Int32) (u : StM) => IM u.1 u.2.1 ∧ u.2.2 = rc ∧ (∀ k, k ∉ ([30] : List Nat) → u.1 k = v k) ∧ (∀ k, k ∉ ([24] : List Nat) → u.2.1 k = F k) ∧ True) (BM dC dI g c) (AM g s.heap.size)) ([.ref (g 0), .int p0, .int p1] : List Value).toArray s 0 0 (AM g s.heap.size)) (F0 m 27 ls []) := by
        intro n
        induction n with
        | zero =>
          intro x3_lp7432 v_lp7432 F_lp7432 H locs ls t7433 t7434 hm hf_lp7432 hI hF hP hS hl
          exfalso
          have := i32_rng x3_lp7432
          have hI1 := hI.1
          omega
        | succ n ih_lp7432 =>
          intro x3_lp7432 v_lp7432 F_lp7432 H locs ls t7433 t7434 hm hf_lp7432 hI hF hP hS hl
          have rx3_lp7432 := i32_rng x3_lp7432
          refine lv_iload_n hx hb dX12_feed_27 rfl (lv_at hl 0 rfl) ?_
          refine lv_iload_n hx hb dX12_feed_28 rfl (lv_at hl 2 rfl) ?_
          refine lv_icmp_ge (tgt := 64) hx hb dX12_feed_29 (by decide) (fun c7435 => ?_) (fun c7435 => ?_)
          · skip
            have t7436 := cv_le (a := p0.toInt) rfl (b := x3_lp7432.toInt) rfl c7435
            refine lv_aload_n hx hb dX12_feed_64 rfl (lv_at hl 1 rfl) ?_
            refine va_get (D := (dC, dI)) (ci := 12) (v := .int (v_lp7432 30)) (C := RX12) (T := TX12) (N := 63) hx hb hwd inA_X12 hown hK hP 0 rfl rfl 30 (by decide) (hwd _ wk_839) (fun _ h9 => h9) rfl dX12_feed_65 ?_
            have t7437 : 0 ≤ (v_lp7432 30).toInt ∧ (v_lp7432 30).toInt ≤ 120 := hI.1 30 _ _ rfl
            have hP9 : va_P (dC, dI) classes (wM g c v_lp7432 F_lp7432 rc) H := hP
            exact W.iret (v := v_lp7432 30) hx hb hr (fun t ht hW => ⟨⟨(v_lp7432 30), (v_lp7432, F_lp7432, rc), rfl, ⟨hI, rfl, (frC (by decide) hf_lp7432 (fun _ _ => rfl)), hF, trivial⟩, (by show va_P _ _ _ t.heap; rw [ht]; exact hP9)⟩, hS.F ht⟩) hS.2.2 dX12_feed_68
          · skip
            have t7438 := cv_nle (a := p0.toInt) rfl (b := x3_lp7432.toInt) rfl c7435
            refine lv_aload_n hx hb dX12_feed_32 rfl (lv_at hl 1 rfl) ?_
            refine va_get (D := (dC, dI)) (ci := 12) (v := .ref (g 24)) (C := RX12) (T := TX12) (N := 63) hx hb hwd inA_X12 hown hK hP 0 rfl rfl 29 (by decide) (hwd _ wk_206) (fun _ h9 => h9) rfl dX12_feed_33 ?_
            refine lv_aload_n hx hb dX12_feed_36 rfl (lv_at hl 1 rfl) ?_
            refine va_get (D := (dC, dI)) (ci := 12) (v := .int (v_lp7432 30)) (C := RX12) (T := TX12) (N := 63) hx hb hwd inA_X12 hown hK hP 0 rfl rfl 30 (by decide) (hwd _ wk_839) (fun _ h9 => h9) rfl dX12_feed_37 ?_
            have t7439 : 0 ≤ (v_lp7432 30).toInt ∧ (v_lp7432 30).toInt ≤ 120 := hI.1 30 _ _ rfl
            refine lv_iload_n hx hb dX12_feed_40 rfl (lv_at hl 3 rfl) ?_
            refine lv_bipush (v := 8) hx hb dX12_feed_41 (by decide) ?_
            refine lv_iload_n hx hb dX12_feed_43 rfl (lv_at hl 0 rfl) ?_
            refine lv_imul hx hb dX12_feed_44 ?_
            refine lv_topi (fun z7440 e7441 => ?_)
            try (have t7442 := tmul e7441 (a := 8) (by decide) (b := x3_lp7432.toInt) rfl (by omega))
            refine lv_ishr hx hb dX12_feed_45 ?_
            refine lv_topi (fun z7443 e7444 => ?_)
            refine lv_i2b hx hb dX12_feed_46 rfl ?_
            refine lv_topi (fun z7446 e7447 => ?_)
            refine va_bast hx hb hK hP (DM hg) hS 24 23 rfl rfl (i := (v_lp7432 30)) (x := z7446) (vin (a := (v_lp7432 30).toInt) rfl (by omega)) dX12_feed_47 (fun H locs hP _ hS => ?_)
            have hP := va_P_eq (sM_24 g c _ _ _ _) hP
            have hI := IM.store0 hI 24 (v_lp7432 30 : Int32).toNatClampNeg (vp_nar .byte z7446) rfl
            have hF := frUF (k := 24) (f := upd (F_lp7432 24) (v_lp7432 30 : Int32).toNatClampNeg (vp_nar .byte z7446)) (by decide) hF
            have hP : va_P (dC, dI) classes (wM g c v_lp7432 (va_up F_lp7432 24 (upd (F_lp7432 24) (v_lp7432 30 : Int32).toNatClampNeg (vp_nar .byte z7446))) rc) H := hP
            generalize (va_up F_lp7432 24 (upd (F_lp7432 24) (v_lp7432 30 : Int32).toNatClampNeg (vp_nar .byte z7446))) = F7448 at hP hI hF
            refine lv_aload_n hx hb dX12_feed_48 rfl (lv_at hl 1 rfl) ?_
            refine lv_dup hx hb dX12_feed_49 rfl ?_
            refine va_get (D := (dC, dI)) (ci := 12) (v := .int (v_lp7432 30)) (C := RX12) (T := TX12) (N := 63) hx hb hwd inA_X12 hown hK hP 0 rfl rfl 30 (by decide) (hwd _ wk_839) (fun _ h9 => h9) rfl dX12_feed_50 ?_
            have t7449 : 0 ≤ (v_lp7432 30).toInt ∧ (v_lp7432 30).toInt ≤ 120 := hI.1 30 _ _ rfl
            refine lv_iconst (v := 1) hx hb dX12_feed_53 (by decide) ?_
            refine lv_iadd hx hb dX12_feed_54 ?_
            refine lv_topi (fun z7450 e7451 => ?_)
            try (have t7452 := tadd e7451 (a := (v_lp7432 30).toInt) rfl (b := 1) (by decide) (by omega))
            refine va_put (D := (dC, dI)) (ci := 12) (v := .int z7450) (ty := .int) (C := RX12) (T := TX12) (N := 63) (fs := fsM_0 g v_lp7432 rc) hx hb hwd inA_X12 tyX12 tyX12_ok nmX12 hown hK hP (DM hg) hS 0 rfl rfl 30 (by decide) (hwd _ wk_839) (fun _ h9 => h9) rfl (by decide +kernel) rfl rfl (Nat.le_of_ble_eq_true rfl) dX12_feed_55 (fun H locs hP _ hS => ?_)
            have hP := va_P_eq (pM_30 g c _ _ _ _) hP
            have hI := IM.put hI 30 z7450 rfl (by omega)
            obtain ⟨z7453, e7454⟩ : ∃ y : Int32, y = x3_lp7432 + 1 := ⟨_, rfl⟩
            try (have t7455 := tadd e7454 rfl (b := 1) (by decide) (by omega))
            refine lv_iinc (v := z7453) (lv' := [(3, .int z7453), (0, .ref (g 0)), (1, .int p0), (2, .int p1)]) hx hb dX12_feed_58 hl (k := 0) rfl (by rw [e7454]; rfl) (by decide) rfl (fun ls hl => ?_)
            refine lv_goto (tgt := 27) hx hb dX12_feed_61 (by decide) ?_
            exact ih_lp7432 z7453 (va_up v_lp7432 30 z7450) F7448 _ _ _ (by omega) (by have h9 : (va_up v_lp7432 30 z7450) 30 = z7450 := rfl; (try rw [h9]); clear h9; omega) (by omega) (frU (by decide) hf_lp7432) hI hF hP hS (lv_sub hl [0, 1, 2, 3] rfl)
      obtain ⟨n9, hn9⟩ : ∃ n : Nat, 2147483648 - 0 ≤ (n : Int) := ⟨((2147483648 - 0 : Int)).toNat, by omega⟩
      exact lp7432 n9 0 v F H _ ls (by have : (0 : Int32).toInt = 0 := (by decide); omega) (by have h9 : v 30 = v 30 := rfl; (try rw [h9]); clear h9; have : (0 : Int32).toInt = 0 := (by decide); omega) (by have : (0 : Int32).toInt = 0 := (by decide); omega) (fun _ _ => rfl) hI hF hP hS hl
    · skip
      have t7456 := cv_nle (a := z7427.toInt) rfl (b := 120) (by decide) c7430
      refine lv_bipush (v := (-3)) hx hb dX12_feed_22 (by decide) ?_
      have hP9 : va_P (dC, dI) classes (wM g c v F rc) H := hP
      exact W.iret (v := (-3)) hx hb hr (fun t ht hW => ⟨⟨(-3), (v, F, rc), rfl, ⟨hI, rfl, (fun _ _ => rfl), hF, trivial⟩, (by show va_P _ _ _ t.heap; rw [ht]; exact hP9)⟩, hS.F ht⟩) hS.2.2 dX12_feed_24
  · skip
    have t7457 := cv_eq (a := r7421.toInt) rfl (b := 0) (by decide) c7424
    refine lv_iconst (v := (-1)) hx hb dX12_feed_9 (by decide) ?_
    have hP9 : va_P (dC, dI) classes (wM g c v F rc) H := hP
    exact W.iret (v := (-1)) hx hb hr (fun t ht hW => ⟨⟨(-1), (v, F, rc), rfl, ⟨hI, rfl, (fun _ _ => rfl), hF, trivial⟩, (by show va_P _ _ _ t.heap; rw [ht]; exact hP9)⟩, hS.F ht⟩) hS.2.2 dX12_feed_10
