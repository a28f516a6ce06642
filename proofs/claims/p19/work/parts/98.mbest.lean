set_option maxHeartbeats 8000000 in
set_option maxRecDepth 100000 in
theorem c_X12_best (l : Launch) (dC : Nat → ClassId) (dI : Nat → Nat → Nat) (g : Nat → Nat) (c : Nat → ClassId) (adK adV : Nat → Nat) (v : Nat → Int32) (F : Nat → Nat → Int32) (rc sz : Nat) (p0 : Int32) (p1 : Int32) (hg : injM g) (hI : IM v F) (hL : JL (v 31) (F 28) (F 29) (F 27)) : Met l yX12_best (Cond.code yX12_best cX12_best 12 (some .int) :: wA) ({ frames := 8, cells := 0, slots := 0, locals := 320 }) (va_Pc [.ref (g 0), .int p0, .int p1] (PM dC dI g c adK adV v F rc sz)) (va_Qi (fun (r : Int32) (u : StM) => IM u.1 u.2.1 ∧ u.2.2 = rc ∧ (∀ k, k ∉ ([57, 58] : List Nat) → u.1 k = v k) ∧ (∀ k, k ∉ ([30, 31, 42, 43] : List Nat) → u.2.1 k = F k) ∧ True) (BM dC dI g c) (AM g sz)) 0 0 (AM g sz) := by
  refine Met.ofW (cc := cX12_best) (maxL := 12) (ret := (some .int)) (by decide) rfl ?_
  intro p e s m args below meth c0 s₁ B hml hv
  obtain ⟨rfl, hsz, hP, hK, hE⟩ := hv
  have hx := B.exec
  have hb := B.bytes
  have hr := B.returns
  have hts := atoms_spec (ws := Cond.code yX12_best cX12_best 12 (some .int) :: wA) B.pre
  have hwd : ∀ w ∈ wA, w.before _ s = true := fun w h => hts w (List.mem_cons_of_mem _ h)
  have hown : s.vm.findClass RX12 = some m.cls := findClass_of_methodNamed B.named
  have hlocks := B.notSynchronized
  subst hsz
  have hl := lv_entry ([.ref (g 0), .int p0, .int p1]) (n := 12) (Nat.le_of_ble_eq_true rfl)
  rw [lg_entry_eq]
  generalize (lg_sl ([.ref (g 0), .int p0, .int p1]) ++ List.replicate (12 - (lg_sl ([.ref (g 0), .int p0, .int p1])).length) Slot.unset).toArray = ls at hl ⊢
  have hl : lv_has ls 12 [(0, .ref (g 0)), (1, .int p0), (2, .int p1)] := hl
  obtain ⟨H, eH⟩ : ∃ z, z = s.heap := ⟨_, rfl⟩
  have hP : va_P (dC, dI) classes (wM g c v F rc) H := by rw [eH]; exact hP
  have hS : va_S (AM g s.heap.size) s.heap H [] := by rw [eH]; exact va_S.rf
  refine my_heap eH ?_
  have hF : ∀ k, k ∉ ([30, 31, 42, 43] : List Nat) → F k = F k := fun _ _ => rfl
  have rp0 := i32_rng p0
  have rp1 := i32_rng p1
  have hb31 : 0 ≤ (v 31).toInt ∧ (v 31).toInt ≤ 10 := hI.1 31 _ _ rfl
  refine lv_aload_n hx hb dX12_best_0 rfl (lv_at hl 0 rfl) ?_
  refine lv_iload_n hx hb dX12_best_1 rfl (lv_at hl 1 rfl) ?_
  have t14576 : 0 ≤ (v 6).toInt ∧ (v 6).toInt ≤ 10 := hI.1 6 _ _ rfl
  refine va_calli (va_runV (As := [.int p0]) (rest := []) ⟨hx, hb, hml, hown, hwd⟩ (c_X12_isPlane l dC dI g c adK adV v F rc H.size p0 hg hI ) (cwV 1 hwd (gV wk_305 wk_302 wk_303 wk_304 wk_5) rfl rfl rfl (by decide +kernel) ⟨Nat.le_of_ble_eq_true rfl, Nat.le_of_ble_eq_true rfl⟩) ⟨PM.blind, va_recv hK hP (ci := 12) (q0 := 0) rfl rfl, fun U hU hW => ⟨rfl, PM.at hK hE hP hS hU hW⟩⟩ rfl rfl hl.1 rfl (lv_room (Nat.le_of_ble_eq_true rfl)) dX12_best_2 ⟨Nat.le_of_ble_eq_true rfl, Nat.le_of_ble_eq_true rfl⟩) hS (fun q _ h => (freeM hS) q h) (freeM hS) (fun r14577 u t H1 locs ht hvm hw hB hz1 hk1 hS => ?_)
  unfold BM at hB
  rw [ht] at hB
  have hP : va_P (dC, dI) classes (wM g c v F rc) H1 := hB
  replace hw : (r14577.toInt = 1 ∧ 0 ≤ p0.toInt ∧ p0.toInt < (v 6).toInt) ∨ (r14577.toInt = 0 ∧ (p0.toInt < 0 ∨ (v 6).toInt ≤ p0.toInt)) := hw
  have hw_r14577 := hw
  clear hw
  clear hz1
  generalize H1 = H at hP hS ⊢
  refine lv_if_eq (tgt := 16) hx hb dX12_best_5 (by decide) (fun c14578 => ?_) (fun c14578 => ?_)
  · skip
    have t14579 := cv_eq (a := r14577.toInt) rfl (b := 0) (by decide) c14578
    refine lv_iconst (v := (-1)) hx hb dX12_best_16 (by decide) ?_
    have hP9 : va_P (dC, dI) classes (wM g c v F rc) H := hP
    exact W.iret (v := (-1)) hx hb hr (fun t ht hW => ⟨⟨(-1), (v, F, rc), rfl, ⟨hI, rfl, (fun _ _ => rfl), hF, trivial⟩, (by show va_P _ _ _ t.heap; rw [ht]; exact hP9)⟩, hS.F ht⟩) hS.2.2 dX12_best_17
  · skip
    have t14580 := cv_ne (a := r14577.toInt) rfl (b := 0) (by decide) c14578
    refine lv_aload_n hx hb dX12_best_8 rfl (lv_at hl 0 rfl) ?_
    refine lv_iload_n hx hb dX12_best_9 rfl (lv_at hl 2 rfl) ?_
    have t14581 : 0 ≤ (v 2).toInt ∧ (v 2).toInt ≤ 10 := hI.1 2 _ _ rfl
    refine va_calli (va_runV (As := [.int p1]) (rest := []) ⟨hx, hb, hml, hown, hwd⟩ (c_X12_isKind l dC dI g c adK adV v F rc H.size p1 hg hI ) (cwV 1 hwd (gV wk_309 wk_306 wk_307 wk_308 wk_5) rfl rfl rfl (by decide +kernel) ⟨Nat.le_of_ble_eq_true rfl, Nat.le_of_ble_eq_true rfl⟩) ⟨PM.blind, va_recv hK hP (ci := 12) (q0 := 0) rfl rfl, fun U hU hW => ⟨rfl, PM.at hK hE hP hS hU hW⟩⟩ rfl rfl hl.1 rfl (lv_room (Nat.le_of_ble_eq_true rfl)) dX12_best_10 ⟨Nat.le_of_ble_eq_true rfl, Nat.le_of_ble_eq_true rfl⟩) hS (fun q _ h => (freeM hS) q h) (freeM hS) (fun r14582 u t H1 locs ht hvm hw hB hz1 hk1 hS => ?_)
    unfold BM at hB
    rw [ht] at hB
    have hP : va_P (dC, dI) classes (wM g c v F rc) H1 := hB
    replace hw : (r14582.toInt = 1 ∧ 0 ≤ p1.toInt ∧ p1.toInt < (v 2).toInt) ∨ (r14582.toInt = 0 ∧ (p1.toInt < 0 ∨ (v 2).toInt ≤ p1.toInt)) := hw
    have hw_r14582 := hw
    clear hw
    clear hz1
    generalize H1 = H at hP hS ⊢
    refine lv_if_ne (tgt := 18) hx hb dX12_best_13 (by decide) (fun c14583 => ?_) (fun c14583 => ?_)
    · skip
      have t14584 := cv_ne (a := r14582.toInt) rfl (b := 0) (by decide) c14583
      refine lv_aload_n hx hb dX12_best_18 rfl (lv_at hl 0 rfl) ?_
      refine lv_iload_n hx hb dX12_best_19 rfl (lv_at hl 1 rfl) ?_
      refine va_calli (va_runV (As := [.int p0]) (rest := []) ⟨hx, hb, hml, hown, hwd⟩ (c_X12_hasContract l dC dI g c adK adV v F rc H.size p0 hg hI (by omega)) (cwV 1 hwd (gV wk_1201 wk_1198 wk_1199 wk_1200 wk_5) rfl rfl rfl (by decide +kernel) ⟨Nat.le_of_ble_eq_true rfl, Nat.le_of_ble_eq_true rfl⟩) ⟨PM.blind, va_recv hK hP (ci := 12) (q0 := 0) rfl rfl, fun U hU hW => ⟨rfl, PM.at hK hE hP hS hU hW⟩⟩ rfl rfl hl.1 rfl (lv_room (Nat.le_of_ble_eq_true rfl)) dX12_best_20 ⟨Nat.le_of_ble_eq_true rfl, Nat.le_of_ble_eq_true rfl⟩) hS (fun q _ h => (freeM hS) q h) (freeM hS) (fun r14585 u t H1 locs ht hvm hw hB hz1 hk1 hS => ?_)
      unfold BM at hB
      rw [ht] at hB
      have hP : va_P (dC, dI) classes (wM g c v F rc) H1 := hB
      replace hw : (r14585.toInt = 1 ∧ 0 ≤ (F 35 p0.toNatClampNeg).toInt) ∨ (r14585.toInt = 0 ∧ (F 35 p0.toNatClampNeg).toInt < 0) := hw
      have hw_r14585 := hw
      clear hw
      clear hz1
      generalize H1 = H at hP hS ⊢
      refine lv_if_eq (tgt := 48) hx hb dX12_best_23 (by decide) (fun c14586 => ?_) (fun c14586 => ?_)
      · skip
        have t14587 := cv_eq (a := r14585.toInt) rfl (b := 0) (by decide) c14586
        refine lv_bipush (v := (-2)) hx hb dX12_best_48 (by decide) ?_
        have hP9 : va_P (dC, dI) classes (wM g c v F rc) H := hP
        exact W.iret (v := (-2)) hx hb hr (fun t ht hW => ⟨⟨(-2), (v, F, rc), rfl, ⟨hI, rfl, (fun _ _ => rfl), hF, trivial⟩, (by show va_P _ _ _ t.heap; rw [ht]; exact hP9)⟩, hS.F ht⟩) hS.2.2 dX12_best_50
      · skip
        have t14588 := cv_ne (a := r14585.toInt) rfl (b := 0) (by decide) c14586
        refine lv_aload_n hx hb dX12_best_26 rfl (lv_at hl 0 rfl) ?_
        refine lv_iload_n hx hb dX12_best_27 rfl (lv_at hl 1 rfl) ?_
        refine va_calli (va_runV (As := [.int p0]) (rest := []) ⟨hx, hb, hml, hown, hwd⟩ (c_X12_isReturned l dC dI g c adK adV v F rc H.size p0 hg hI (by omega)) (cwV 1 hwd (gV wk_313 wk_310 wk_311 wk_312 wk_5) rfl rfl rfl (by decide +kernel) ⟨Nat.le_of_ble_eq_true rfl, Nat.le_of_ble_eq_true rfl⟩) ⟨PM.blind, va_recv hK hP (ci := 12) (q0 := 0) rfl rfl, fun U hU hW => ⟨rfl, PM.at hK hE hP hS hU hW⟩⟩ rfl rfl hl.1 rfl (lv_room (Nat.le_of_ble_eq_true rfl)) dX12_best_28 ⟨Nat.le_of_ble_eq_true rfl, Nat.le_of_ble_eq_true rfl⟩) hS (fun q _ h => (freeM hS) q h) (freeM hS) (fun r14589 u t H1 locs ht hvm hw hB hz1 hk1 hS => ?_)
        unfold BM at hB
        rw [ht] at hB
        have hP : va_P (dC, dI) classes (wM g c v F rc) H1 := hB
        replace hw : (r14589.toInt = 1 ∧ 0 ≤ (F 8 p0.toNatClampNeg).toInt) ∨ (r14589.toInt = 0 ∧ (F 8 p0.toNatClampNeg).toInt < 0) := hw
        have hw_r14589 := hw
        clear hw
        clear hz1
        generalize H1 = H at hP hS ⊢
        refine lv_if_ne (tgt := 48) hx hb dX12_best_31 (by decide) (fun c14590 => ?_) (fun c14590 => ?_)
        · skip
          have t14591 := cv_ne (a := r14589.toInt) rfl (b := 0) (by decide) c14590
          refine lv_bipush (v := (-2)) hx hb dX12_best_48 (by decide) ?_
          have hP9 : va_P (dC, dI) classes (wM g c v F rc) H := hP
          exact W.iret (v := (-2)) hx hb hr (fun t ht hW => ⟨⟨(-2), (v, F, rc), rfl, ⟨hI, rfl, (fun _ _ => rfl), hF, trivial⟩, (by show va_P _ _ _ t.heap; rw [ht]; exact hP9)⟩, hS.F ht⟩) hS.2.2 dX12_best_50
        · skip
          have t14592 := cv_eq (a := r14589.toInt) rfl (b := 0) (by decide) c14590
          refine lv_aload_n hx hb dX12_best_34 rfl (lv_at hl 0 rfl) ?_
          refine va_get (D := (dC, dI)) (ci := 12) (v := .ref (g 9)) (C := RX12) (T := TX12) (N := 63) hx hb hwd inA_X12 hown hK hP 0 rfl rfl 12 (by decide) (hwd _ wk_190) (fun _ h9 => h9) rfl dX12_best_35 ?_
          refine lv_bipush (v := 10) hx hb dX12_best_38 (by decide) ?_
          refine lv_iload_n hx hb dX12_best_40 rfl (lv_at hl 1 rfl) ?_
          refine lv_imul hx hb dX12_best_41 ?_
          refine lv_topi (fun z14593 e14594 => ?_)
          try (have t14595 := tmul e14594 (a := 10) (by decide) (b := p0.toInt) rfl (by omega))
          refine lv_iload_n hx hb dX12_best_42 rfl (lv_at hl 2 rfl) ?_
          refine lv_iadd hx hb dX12_best_43 ?_
          refine lv_topi (fun z14596 e14597 => ?_)
          try (have t14598 := tadd e14597 (a := z14593.toInt) rfl (b := p1.toInt) rfl (by omega))
          refine va_iald hx hb hK hP 9 8 rfl rfl (i := z14596) (vin (a := z14596.toInt) rfl (by omega)) dX12_best_44 ?_
          refine lv_topi (fun z14599 e14600 => ?_)
          refine lv_if_ne (tgt := 51) hx hb dX12_best_45 (by decide) (fun c14601 => ?_) (fun c14601 => ?_)
          · skip
            have t14602 := cv_ne (a := z14599.toInt) rfl (b := 0) (by decide) c14601
            refine lv_iconst (v := 0) hx hb dX12_best_51 (by decide) ?_
            refine lv_istore_n (lv' := [(3, .int 0), (0, .ref (g 0)), (1, .int p0), (2, .int p1)]) hx hb dX12_best_52 rfl hl (by decide) rfl (fun ls hl => ?_)
            refine lv_iconst (v := 0) hx hb dX12_best_53 (by decide) ?_
            refine lv_istore (lv' := [(4, .int 0), (3, .int 0), (0, .ref (g 0)), (1, .int p0), (2, .int p1)]) hx hb dX12_best_54 hl (by decide) rfl (fun ls hl => ?_)
            refine lv_iconst (v := 0) hx hb dX12_best_56 (by decide) ?_
            refine lv_istore (lv' := [(5, .int 0), (4, .int 0), (3, .int 0), (0, .ref (g 0)), (1, .int p0), (2, .int p1)]) hx hb dX12_best_57 hl (by decide) rfl (fun ls hl => ?_)
            have lp14603 : ∀ (n : Nat) (x5_lp14603 : Int32) (x4_lp14603 : Int32) (x3_lp14603 : Int32) (v_lp14603 : Nat → Int32) (F_lp14603 : Nat → Nat → Int32) (H : Heap) (locs : List Loc) (ls : Array Slot), (0 ≤ x5_lp14603.toInt) → (0 ≤ x3_lp14603.toInt) → (x3_lp14603.toInt ≤ 8) → (2147483648 - x5_lp14603.toInt ≤ (n : Int)) → (∀ k, k ∉ ([] : List Nat) → v_lp14603 k = v k) → IM v_lp14603 F_lp14603 → (∀ k, k ∉ ([30, 31, 42, 43] : List Nat) → F_lp14603 k = F k) → va_P (dC, dI) classes (wM g c v_lp14603 F_lp14603 rc) H → va_S (AM g s.heap.size) s.heap H locs → lv_has ls 12 [(5, .int x5_lp14603), (4, .int x4_lp14603), (3, .int x3_lp14603), (0, .ref (g 0)), (1, .int p0), (2, .int p1)] → W p l e (headSpec (Cond.code yX12_best cX12_best 12 (some .int) :: wA) ({ frames := 8, cells := 0, slots := 0, locals := 320 })).room s m ([.ref (g 0), .int p0, .int p1] : List Value).toArray below meth c0 H locs 0 0 (MQ below (va_Qi (fun (r : Int32) (u : StM) => IM u.1 u.2.1 ∧ u.2.2 = rc ∧ (∀ k, k ∉ ([57, 58] : List Nat) → u.1 k = v k) ∧ (∀ k, k ∉ ([30, 31, 42, 43] : List Nat) → u.2.1 k = F k) ∧ True) (BM dC dI g c) (AM g s.heap.size)) ([.ref (g 0), .int p0, .int p1] : List Value).toArray s 0 0 (AM g s.heap.size)) (F0 m 59 ls []) := by
              intro n
              induction n with
              | zero =>
                intro x5_lp14603 x4_lp14603 x3_lp14603 v_lp14603 F_lp14603 H locs ls t14604 t14605 t14606 hm hf_lp14603 hI hF hP hS hl
                exfalso
                have := i32_rng x5_lp14603
                have := i32_rng x4_lp14603
                have := i32_rng x3_lp14603
                have hI1 := hI.1
                omega
              | succ n ih_lp14603 =>
                intro x5_lp14603 x4_lp14603 x3_lp14603 v_lp14603 F_lp14603 H locs ls t14604 t14605 t14606 hm hf_lp14603 hI hF hP hS hl
                have rx5_lp14603 := i32_rng x5_lp14603
                have rx4_lp14603 := i32_rng x4_lp14603
                have rx3_lp14603 := i32_rng x3_lp14603
                refine lv_iload hx hb dX12_best_59 (lv_at hl 0 rfl) ?_
                refine lv_aload_n hx hb dX12_best_61 rfl (lv_at hl 3 rfl) ?_
                refine va_get (D := (dC, dI)) (ci := 12) (v := .int (v_lp14603 14)) (C := RX12) (T := TX12) (N := 63) hx hb hwd inA_X12 hown hK hP 0 rfl rfl 14 (by decide) (hwd _ wk_318) (fun _ h9 => h9) rfl dX12_best_62 ?_
                refine my_top (v := v 14) (hf_lp14603 14 (by decide)) ?_
                have t14607 : 0 ≤ (v 14).toInt ∧ (v 14).toInt ≤ 100 := by have h9 := hI.1 14 _ _ rfl; rw [show v_lp14603 14 = v 14 from hf_lp14603 14 (by decide)] at h9; exact h9
                refine lv_icmp_ge (tgt := 154) hx hb dX12_best_65 (by decide) (fun c14608 => ?_) (fun c14608 => ?_)
                · skip
                  have t14609 := cv_le (a := (v 14).toInt) rfl (b := x5_lp14603.toInt) rfl c14608
                  refine lv_aload_n hx hb dX12_best_154 rfl (lv_at hl 3 rfl) ?_
                  refine va_get (D := (dC, dI)) (ci := 12) (v := .ref (g 9)) (C := RX12) (T := TX12) (N := 63) hx hb hwd inA_X12 hown hK hP 0 rfl rfl 12 (by decide) (hwd _ wk_190) (fun _ h9 => h9) rfl dX12_best_155 ?_
                  refine lv_bipush (v := 10) hx hb dX12_best_158 (by decide) ?_
                  refine lv_iload_n hx hb dX12_best_160 rfl (lv_at hl 4 rfl) ?_
                  refine lv_imul hx hb dX12_best_161 ?_
                  refine lv_topi (fun z14610 e14611 => ?_)
                  try (have t14612 := tmul e14611 (a := 10) (by decide) (b := p0.toInt) rfl (by omega))
                  refine lv_iload_n hx hb dX12_best_162 rfl (lv_at hl 5 rfl) ?_
                  refine lv_iadd hx hb dX12_best_163 ?_
                  refine lv_topi (fun z14613 e14614 => ?_)
                  try (have t14615 := tadd e14614 (a := z14610.toInt) rfl (b := p1.toInt) rfl (by omega))
                  refine va_iald hx hb hK hP 9 8 rfl rfl (i := z14613) (vin (a := z14613.toInt) rfl (by omega)) dX12_best_164 ?_
                  refine lv_topi (fun z14616 e14617 => ?_)
                  have e14617 : z14616 = F 9 (z14613 : Int32).toNatClampNeg := e14617.trans (congrFun (hF 9 (by decide)) _)
                  refine lv_iload_n hx hb dX12_best_165 rfl (lv_at hl 2 rfl) ?_
                  refine lv_icmp_ge (tgt := 183) hx hb dX12_best_166 (by decide) (fun c14618 => ?_) (fun c14618 => ?_)
                  · skip
                    have t14619 := cv_le (a := x3_lp14603.toInt) rfl (b := z14616.toInt) rfl c14618
                    refine lv_iload_n hx hb dX12_best_183 rfl (lv_at hl 2 rfl) ?_
                    refine lv_istore (lv' := [(5, .int x3_lp14603), (4, .int x4_lp14603), (3, .int x3_lp14603), (0, .ref (g 0)), (1, .int p0), (2, .int p1)]) hx hb dX12_best_184 hl (by decide) rfl (fun ls hl => ?_)
                    refine lv_aload_n hx hb dX12_best_186 rfl (lv_at hl 3 rfl) ?_
                    refine lv_iload_n hx hb dX12_best_187 rfl (lv_at hl 4 rfl) ?_
                    have t14620 : 0 ≤ (v 14).toInt ∧ (v 14).toInt ≤ 100 := by have h9 := hI.1 14 _ _ rfl; rw [show v_lp14603 14 = v 14 from hf_lp14603 14 (by decide)] at h9; exact h9
                    refine va_callv (va_runV (As := [.int p0]) (rest := []) ⟨hx, hb, hml, hown, hwd⟩ (c_X12_board l dC dI g c adK adV v_lp14603 F_lp14603 rc H.size p0 hg hI ) (cwV 1 hwd (gV wk_1205 wk_1202 wk_1203 wk_1204 wk_5) rfl rfl rfl (by decide +kernel) ⟨Nat.le_of_ble_eq_true rfl, Nat.le_of_ble_eq_true rfl⟩) ⟨PM.blind, va_recv hK hP (ci := 12) (q0 := 0) rfl rfl, fun U hU hW => ⟨rfl, PM.at hK hE hP hS hU hW⟩⟩ rfl rfl hl.1 rfl (lv_room (Nat.le_of_ble_eq_true rfl)) dX12_best_188 ⟨Nat.le_of_ble_eq_true rfl, Nat.le_of_ble_eq_true rfl⟩) hS (fun q _ h => (freeM hS) q h) (freeM hS) (fun u t H1 locs ht hvm hw hB hz1 hk1 hS => ?_)
                    unfold BM at hB
                    rw [ht] at hB
                    obtain ⟨v14622, F14623, rc9⟩ := u
                    obtain ⟨hI, hrc, hf14624, hG14625, hw⟩ := hw
                    dsimp only at hI hrc hB hf14624 hG14625 hw
                    have hF := frCF (by decide) hG14625 hF
                    rw [hrc] at hB
                    have hP : va_P (dC, dI) classes (wM g c v14622 F14623 rc) H1 := hB
                    replace hw : ∀ j : Nat, (j : Int) < (v_lp14603 14).toInt → (F14623 42 j).toInt ≠ 0 → (F_lp14603 13 j).toInt = p0.toInt := hw
                    rw [show v_lp14603 14 = v 14 from hf_lp14603 14 (by decide)] at hw
                    have hw_r14621 := hw
                    clear hw
                    clear hz1
                    generalize H1 = H at hP hS ⊢
                    refine lv_iconst (v := (-1)) hx hb dX12_best_191 (by decide) ?_
                    refine lv_istore (lv' := [(6, .int (-1)), (5, .int x3_lp14603), (4, .int x4_lp14603), (3, .int x3_lp14603), (0, .ref (g 0)), (1, .int p0), (2, .int p1)]) hx hb dX12_best_192 hl (by decide) rfl (fun ls hl => ?_)
                    refine lv_iconst (v := 0) hx hb dX12_best_194 (by decide) ?_
                    refine lv_istore (lv' := [(7, .int 0), (6, .int (-1)), (5, .int x3_lp14603), (4, .int x4_lp14603), (3, .int x3_lp14603), (0, .ref (g 0)), (1, .int p0), (2, .int p1)]) hx hb dX12_best_195 hl (by decide) rfl (fun ls hl => ?_)
                    refine lv_iconst (v := 0) hx hb dX12_best_197 (by decide) ?_
                    refine lv_istore (lv' := [(8, .int 0), (7, .int 0), (6, .int (-1)), (5, .int x3_lp14603), (4, .int x4_lp14603), (3, .int x3_lp14603), (0, .ref (g 0)), (1, .int p0), (2, .int p1)]) hx hb dX12_best_198 hl (by decide) rfl (fun ls hl => ?_)
                    have lp14626 : ∀ (n : Nat) (x8_lp14626 : Int32) (x7_lp14626 : Int32) (x6_lp14626 : Int32) (v_lp14626 : Nat → Int32) (F_lp14626 : Nat → Nat → Int32) (H : Heap) (locs : List Loc) (ls : Array Slot), (0 ≤ x8_lp14626.toInt) → (2147483648 - x8_lp14626.toInt ≤ (n : Int)) → (∀ k, k ∉ ([] : List Nat) → v_lp14626 k = v14622 k) → IM v_lp14626 F_lp14626 → (∀ k, k ∉ ([30, 31, 42, 43] : List Nat) → F_lp14626 k = F k) → va_P (dC, dI) classes (wM g c v_lp14626 F_lp14626 rc) H → va_S (AM g s.heap.size) s.heap H locs → lv_has ls 12 [(8, .int x8_lp14626), (7, .int x7_lp14626), (6, .int x6_lp14626), (5, .int x3_lp14603), (4, .int x4_lp14603), (3, .int x3_lp14603), (0, .ref (g 0)), (1, .int p0), (2, .int p1)] → W p l e (headSpec (Cond.code yX12_best cX12_best 12 (some .int) :: wA) ({ frames := 8, cells := 0, slots := 0, locals := 320 })).room s m ([.ref (g 0), .int p0, .int p1] : List Value).toArray below meth c0 H locs 0 0 (MQ below (va_Qi (fun (r : Int32) (u : StM) => IM u.1 u.2.1 ∧ u.2.2 = rc ∧ (∀ k, k ∉ ([57, 58] : List Nat) → u.1 k = v k) ∧ (∀ k, k ∉ ([30, 31, 42, 43] : List Nat) → u.2.1 k = F k) ∧ True) (BM dC dI g c) (AM g s.heap.size)) ([.ref (g 0), .int p0, .int p1] : List Value).toArray s 0 0 (AM g s.heap.size)) (F0 m 200 ls []) := by
                      intro n
                      induction n with
                      | zero =>
                        intro x8_lp14626 x7_lp14626 x6_lp14626 v_lp14626 F_lp14626 H locs ls t14627 hm hf_lp14626 hI hF hP hS hl
                        exfalso
                        have := i32_rng x8_lp14626
                        have := i32_rng x7_lp14626
                        have := i32_rng x6_lp14626
                        have hI1 := hI.1
                        omega
                      | succ n ih_lp14626 =>
                        intro x8_lp14626 x7_lp14626 x6_lp14626 v_lp14626 F_lp14626 H locs ls t14627 hm hf_lp14626 hI hF hP hS hl
                        have rx8_lp14626 := i32_rng x8_lp14626
                        have rx7_lp14626 := i32_rng x7_lp14626
                        have rx6_lp14626 := i32_rng x6_lp14626
                        refine lv_iload hx hb dX12_best_200 (lv_at hl 0 rfl) ?_
                        refine lv_iconst (v := 1) hx hb dX12_best_202 (by decide) ?_
                        refine lv_iload_n hx hb dX12_best_203 rfl (lv_at hl 5 rfl) ?_
                        refine lv_ishl hx hb dX12_best_204 ?_
                        refine lv_topi (fun z14628 e14629 => ?_)
                        have rr_z14628 := i32_rng z14628
                        refine lv_icmp_ge (tgt := 367) hx hb dX12_best_205 (by decide) (fun c14631 => ?_) (fun c14631 => ?_)
                        · skip
                          have t14632 := cv_le (a := z14628.toInt) rfl (b := x8_lp14626.toInt) rfl c14631
                          refine lv_aload_n hx hb dX12_best_367 rfl (lv_at hl 6 rfl) ?_
                          refine lv_iconst (v := 1) hx hb dX12_best_368 (by decide) ?_
                          refine va_put (D := (dC, dI)) (ci := 12) (v := .int 1) (ty := .boolean) (C := RX12) (T := TX12) (N := 63) (fs := fsM_0 g v_lp14626 rc) hx hb hwd inA_X12 tyX12 tyX12_ok nmX12 hown hK hP (DM hg) hS 0 rfl rfl 57 (by decide) (hwd _ wk_1304) (fun _ h9 => h9) rfl (by decide +kernel) rfl rfl (Nat.le_of_ble_eq_true rfl) dX12_best_369 (fun H locs hP _ hS => ?_)
                          have hP := va_P_eq (pM_57 g c _ _ _ _) hP
                          have hI := IM.put0 hI 57 1 rfl
                          refine lv_aload_n hx hb dX12_best_372 rfl (lv_at hl 6 rfl) ?_
                          refine lv_iload hx hb dX12_best_373 (lv_at hl 1 rfl) ?_
                          refine va_put (D := (dC, dI)) (ci := 12) (v := .int x7_lp14626) (ty := .int) (C := RX12) (T := TX12) (N := 63) (fs := fsM_0 g (va_up v_lp14626 57 1) rc) hx hb hwd inA_X12 tyX12 tyX12_ok nmX12 hown hK hP (DM hg) hS 0 rfl rfl 58 (by decide) (hwd _ wk_1305) (fun _ h9 => h9) rfl (by decide +kernel) rfl rfl (Nat.le_of_ble_eq_true rfl) dX12_best_375 (fun H locs hP _ hS => ?_)
                          have hP := va_P_eq (pM_58 g c _ _ _ _) hP
                          have hI := IM.put0 hI 58 x7_lp14626 rfl
                          refine lv_iload hx hb dX12_best_378 (lv_at hl 2 rfl) ?_
                          have hP9 : va_P (dC, dI) classes (wM g c (va_up (va_up v_lp14626 57 1) 58 x7_lp14626) F_lp14626 rc) H := hP
                          exact W.iret (v := x6_lp14626) hx hb hr (fun t ht hW => ⟨⟨x6_lp14626, ((va_up (va_up v_lp14626 57 1) 58 x7_lp14626), F_lp14626, rc), rfl, ⟨hI, rfl, (frU (by decide) (frU (by decide) (frC (by decide) hf_lp14626 (frC (by decide) hf14624 (frC (by decide) hf_lp14603 (fun _ _ => rfl)))))), hF, trivial⟩, (by show va_P _ _ _ t.heap; rw [ht]; exact hP9)⟩, hS.F ht⟩) hS.2.2 dX12_best_380
                        · skip
                          have t14633 := cv_nle (a := z14628.toInt) rfl (b := x8_lp14626.toInt) rfl c14631
                          refine lv_iload hx hb dX12_best_208 (lv_at hl 0 rfl) ?_
                          refine va_calli (va_runS (As := [.int x8_lp14626]) (rest := []) ⟨hx, hb, hml, hown, hwd⟩ (c_X12_bitsOf l dC dI g c adK adV v_lp14626 F_lp14626 rc H.size x8_lp14626 hg hI ) (va_cwS 1 hwd (gT wk_1308 wk_1306 wk_1307 wk_5) rfl rfl rfl (by decide +kernel) ⟨Nat.le_of_ble_eq_true rfl, Nat.le_of_ble_eq_true rfl⟩) ⟨PM.blind, fun U hU hW => ⟨rfl, PM.at hK hE hP hS hU hW⟩⟩ rfl rfl hl.1 rfl (lv_room (Nat.le_of_ble_eq_true rfl)) dX12_best_210 ⟨Nat.le_of_ble_eq_true rfl, Nat.le_of_ble_eq_true rfl⟩) hS (fun q _ h => (freeM hS) q h) (freeM hS) (fun r14634 u t H1 locs ht hvm hw hB hz1 hk1 hS => ?_)
                          unfold BM at hB
                          rw [ht] at hB
                          have hP : va_P (dC, dI) classes (wM g c v_lp14626 F_lp14626 rc) H1 := hB
                          clear hz1
                          generalize H1 = H at hP hS ⊢
                          have rr_r14634 := i32_rng r14634
                          refine lv_iload hx hb dX12_best_213 (lv_at hl 3 rfl) ?_
                          refine lv_icmp_eq (tgt := 221) hx hb dX12_best_215 (by decide) (fun c14635 => ?_) (fun c14635 => ?_)
                          · skip
                            have t14636 := cv_eq (a := r14634.toInt) rfl (b := x3_lp14603.toInt) rfl c14635
                            refine lv_iconst (v := 0) hx hb dX12_best_221 (by decide) ?_
                            refine lv_istore (lv' := [(9, .int 0), (8, .int x8_lp14626), (7, .int x7_lp14626), (6, .int x6_lp14626), (5, .int x3_lp14603), (4, .int x4_lp14603), (3, .int x3_lp14603), (0, .ref (g 0)), (1, .int p0), (2, .int p1)]) hx hb dX12_best_222 hl (by decide) rfl (fun ls hl => ?_)
                            have lp14637 : ∀ (n : Nat) (x9_lp14637 : Int32) (v_lp14637 : Nat → Int32) (F_lp14637 : Nat → Nat → Int32) (H : Heap) (locs : List Loc) (ls : Array Slot), (0 ≤ x9_lp14637.toInt) → (2147483648 - x9_lp14637.toInt ≤ (n : Int)) → (∀ k, k ∉ ([] : List Nat) → v_lp14637 k = v_lp14626 k) → IM v_lp14637 F_lp14637 → (∀ k, k ∉ ([30, 31, 42, 43] : List Nat) → F_lp14637 k = F k) → va_P (dC, dI) classes (wM g c v_lp14637 F_lp14637 rc) H → va_S (AM g s.heap.size) s.heap H locs → lv_has ls 12 [(9, .int x9_lp14637), (8, .int x8_lp14626), (7, .int x7_lp14626), (6, .int x6_lp14626), (5, .int x3_lp14603), (4, .int x4_lp14603), (3, .int x3_lp14603), (0, .ref (g 0)), (1, .int p0), (2, .int p1)] → W p l e (headSpec (Cond.code yX12_best cX12_best 12 (some .int) :: wA) ({ frames := 8, cells := 0, slots := 0, locals := 320 })).room s m ([.ref (g 0), .int p0, .int p1] : List Value).toArray below meth c0 H locs 0 0 (MQ below (va_Qi (fun (r : Int32) (u : StM) => IM u.1 u.2.1 ∧ u.2.2 = rc ∧ (∀ k, k ∉ ([57, 58] : List Nat) → u.1 k = v k) ∧ (∀ k, k ∉ ([30, 31, 42, 43] : List Nat) → u.2.1 k = F k) ∧ True) (BM dC dI g c) (AM g s.heap.size)) ([.ref (g 0), .int p0, .int p1] : List Value).toArray s 0 0 (AM g s.heap.size)) (F0 m 224 ls []) := by
                              intro n
                              induction n with
                              | zero =>
                                intro x9_lp14637 v_lp14637 F_lp14637 H locs ls t14638 hm hf_lp14637 hI hF hP hS hl
                                exfalso
                                have := i32_rng x9_lp14637
                                have hI1 := hI.1
                                omega
                              | succ n ih_lp14637 =>
                                intro x9_lp14637 v_lp14637 F_lp14637 H locs ls t14638 hm hf_lp14637 hI hF hP hS hl
                                have rx9_lp14637 := i32_rng x9_lp14637
                                refine lv_iload hx hb dX12_best_224 (lv_at hl 0 rfl) ?_
                                refine lv_iload_n hx hb dX12_best_226 rfl (lv_at hl 6 rfl) ?_
                                refine lv_icmp_ge (tgt := 264) hx hb dX12_best_227 (by decide) (fun c14639 => ?_) (fun c14639 => ?_)
                                · skip
                                  have t14640 := cv_le (a := x3_lp14603.toInt) rfl (b := x9_lp14637.toInt) rfl c14639
                                  refine lv_aload_n hx hb dX12_best_264 rfl (lv_at hl 7 rfl) ?_
                                  refine lv_iload_n hx hb dX12_best_265 rfl (lv_at hl 8 rfl) ?_
                                  refine lv_aload_n hx hb dX12_best_266 rfl (lv_at hl 7 rfl) ?_
                                  refine va_get (D := (dC, dI)) (ci := 12) (v := .int (v_lp14637 1)) (C := RX12) (T := TX12) (N := 63) hx hb hwd inA_X12 hown hK hP 0 rfl rfl 1 (by decide) (hwd _ wk_332) (fun _ h9 => h9) rfl dX12_best_267 ?_
                                  refine my_top (v := v 1) ((hf_lp14637 1 (by decide)).trans ((hf_lp14626 1 (by decide)).trans ((hf14624 1 (by decide)).trans (hf_lp14603 1 (by decide))))) ?_
                                  have t14641 : 0 ≤ (v 1).toInt ∧ (v 1).toInt ≤ 9999 := by have h9 := hI.1 1 _ _ rfl; rw [show v_lp14637 1 = v 1 from (hf_lp14637 1 (by decide)).trans ((hf_lp14626 1 (by decide)).trans ((hf14624 1 (by decide)).trans (hf_lp14603 1 (by decide))))] at h9; exact h9
                                  refine lv_aload_n hx hb dX12_best_270 rfl (lv_at hl 7 rfl) ?_
                                  refine va_get (D := (dC, dI)) (ci := 12) (v := .int (v_lp14637 1)) (C := RX12) (T := TX12) (N := 63) hx hb hwd inA_X12 hown hK hP 0 rfl rfl 1 (by decide) (hwd _ wk_332) (fun _ h9 => h9) rfl dX12_best_271 ?_
                                  refine my_top (v := v 1) ((hf_lp14637 1 (by decide)).trans ((hf_lp14626 1 (by decide)).trans ((hf14624 1 (by decide)).trans (hf_lp14603 1 (by decide))))) ?_
                                  have t14642 : 0 ≤ (v 1).toInt ∧ (v 1).toInt ≤ 9999 := by have h9 := hI.1 1 _ _ rfl; rw [show v_lp14637 1 = v 1 from (hf_lp14637 1 (by decide)).trans ((hf_lp14626 1 (by decide)).trans ((hf14624 1 (by decide)).trans (hf_lp14603 1 (by decide))))] at h9; exact h9
                                  refine va_calli (va_runV (As := [.int p0, .int (v 1), .int (v 1)]) (rest := []) ⟨hx, hb, hml, hown, hwd⟩ (c_X12_costOfAll l dC dI g c adK adV v_lp14637 F_lp14637 rc H.size p0 (v 1) (v 1) hg hI (by omega) (JL.to hL (show v_lp14637 31 = v 31 from (hf_lp14637 31 (by decide)).trans ((hf_lp14626 31 (by decide)).trans ((hf14624 31 (by decide)).trans (hf_lp14603 31 (by decide))))) (hF 28 (by decide)) (hF 29 (by decide)) (hF 27 (by decide)))) (cwV 3 hwd (gV wk_1247 wk_1244 wk_1245 wk_1246 wk_5) rfl rfl rfl (by decide +kernel) ⟨Nat.le_of_ble_eq_true rfl, Nat.le_of_ble_eq_true rfl⟩) ⟨PM.blind, va_recv hK hP (ci := 12) (q0 := 0) rfl rfl, fun U hU hW => ⟨rfl, PM.at hK hE hP hS hU hW⟩⟩ rfl rfl hl.1 rfl (lv_room (Nat.le_of_ble_eq_true rfl)) dX12_best_274 ⟨Nat.le_of_ble_eq_true rfl, Nat.le_of_ble_eq_true rfl⟩) hS (fun q _ h => (freeM hS) q h) (freeM hS) (fun r14643 u t H1 locs ht hvm hw hB hz1 hk1 hS => ?_)
                                  unfold BM at hB
                                  rw [ht] at hB
                                  obtain ⟨v14644, F14645, rc9⟩ := u
                                  obtain ⟨hI, hrc, hf14646, hG14647, hw⟩ := hw
                                  dsimp only at hI hrc hB hf14646 hG14647 hw
                                  have hF := frCF (by decide) hG14647 hF
                                  rw [hrc] at hB
                                  have hP : va_P (dC, dI) classes (wM g c v14644 F14645 rc) H1 := hB
                                  clear hz1
                                  generalize H1 = H at hP hS ⊢
                                  have rr_r14643 := i32_rng r14643
                                  refine lv_istore (lv' := [(9, .int r14643), (8, .int x8_lp14626), (7, .int x7_lp14626), (6, .int x6_lp14626), (5, .int x3_lp14603), (4, .int x4_lp14603), (3, .int x3_lp14603), (0, .ref (g 0)), (1, .int p0), (2, .int p1)]) hx hb dX12_best_277 hl (by decide) rfl (fun ls hl => ?_)
                                  refine lv_iload hx hb dX12_best_279 (lv_at hl 3 rfl) ?_
                                  refine lv_if_lt (tgt := 353) hx hb dX12_best_281 (by decide) (fun c14648 => ?_) (fun c14648 => ?_)
                                  · skip
                                    have t14649 := cv_lt (a := x6_lp14626.toInt) rfl (b := 0) (by decide) c14648
                                    refine lv_iload hx hb dX12_best_353 (lv_at hl 1 rfl) ?_
                                    refine lv_istore (lv' := [(6, .int x8_lp14626), (9, .int r14643), (8, .int x8_lp14626), (7, .int x7_lp14626), (5, .int x3_lp14603), (4, .int x4_lp14603), (3, .int x3_lp14603), (0, .ref (g 0)), (1, .int p0), (2, .int p1)]) hx hb dX12_best_355 hl (by decide) rfl (fun ls hl => ?_)
                                    refine lv_iload hx hb dX12_best_357 (lv_at hl 1 rfl) ?_
                                    refine lv_istore (lv' := [(7, .int r14643), (6, .int x8_lp14626), (9, .int r14643), (8, .int x8_lp14626), (5, .int x3_lp14603), (4, .int x4_lp14603), (3, .int x3_lp14603), (0, .ref (g 0)), (1, .int p0), (2, .int p1)]) hx hb dX12_best_359 hl (by decide) rfl (fun ls hl => ?_)
                                    obtain ⟨z14650, e14651⟩ : ∃ y : Int32, y = x8_lp14626 + 1 := ⟨_, rfl⟩
                                    try (have t14652 := tadd e14651 rfl (b := 1) (by decide) (by omega))
                                    refine lv_iinc (v := z14650) (lv' := [(8, .int z14650), (7, .int r14643), (6, .int x8_lp14626), (9, .int r14643), (5, .int x3_lp14603), (4, .int x4_lp14603), (3, .int x3_lp14603), (0, .ref (g 0)), (1, .int p0), (2, .int p1)]) hx hb dX12_best_361 hl (k := 3) rfl (by rw [e14651]; rfl) (by decide) rfl (fun ls hl => ?_)
                                    refine lv_goto (tgt := 200) hx hb dX12_best_364 (by decide) ?_
                                    exact ih_lp14626 z14650 r14643 x8_lp14626 v14644 F14645 _ _ _ (by omega) (by omega) (frC (by decide) hf14646 (frC (by decide) hf_lp14637 hf_lp14626)) hI hF hP hS (lv_sub hl [0, 1, 2, 4, 5, 6, 7, 8, 9] rfl)
                                  · skip
                                    have t14653 := cv_nlt (a := x6_lp14626.toInt) rfl (b := 0) (by decide) c14648
                                    refine lv_iload hx hb dX12_best_284 (lv_at hl 1 rfl) ?_
                                    refine lv_iload hx hb dX12_best_286 (lv_at hl 5 rfl) ?_
                                    refine lv_iconst (v := (-1)) hx hb dX12_best_288 (by decide) ?_
                                    refine lv_ixor hx hb dX12_best_289 ?_
                                    refine lv_topi (fun z14654 e14655 => ?_)
                                    refine lv_iand hx hb dX12_best_290 ?_
                                    refine lv_topi (fun z14657 e14658 => ?_)
                                    refine va_calli (va_runS (As := [.int z14657]) (rest := []) ⟨hx, hb, hml, hown, hwd⟩ (c_X12_bitsOf l dC dI g c adK adV v14644 F14645 rc H.size z14657 hg hI ) (va_cwS 1 hwd (gT wk_1308 wk_1306 wk_1307 wk_5) rfl rfl rfl (by decide +kernel) ⟨Nat.le_of_ble_eq_true rfl, Nat.le_of_ble_eq_true rfl⟩) ⟨PM.blind, fun U hU hW => ⟨rfl, PM.at hK hE hP hS hU hW⟩⟩ rfl rfl hl.1 rfl (lv_room (Nat.le_of_ble_eq_true rfl)) dX12_best_291 ⟨Nat.le_of_ble_eq_true rfl, Nat.le_of_ble_eq_true rfl⟩) hS (fun q _ h => (freeM hS) q h) (freeM hS) (fun r14660 u t H1 locs ht hvm hw hB hz1 hk1 hS => ?_)
                                    unfold BM at hB
                                    rw [ht] at hB
                                    have hP : va_P (dC, dI) classes (wM g c v14644 F14645 rc) H1 := hB
                                    clear hz1
                                    generalize H1 = H at hP hS ⊢
                                    have rr_r14660 := i32_rng r14660
                                    refine lv_iload hx hb dX12_best_294 (lv_at hl 3 rfl) ?_
                                    refine lv_iload hx hb dX12_best_296 (lv_at hl 5 rfl) ?_
                                    refine lv_iconst (v := (-1)) hx hb dX12_best_298 (by decide) ?_
                                    refine lv_ixor hx hb dX12_best_299 ?_
                                    refine lv_topi (fun z14661 e14662 => ?_)
                                    refine lv_iand hx hb dX12_best_300 ?_
                                    refine lv_topi (fun z14664 e14665 => ?_)
                                    refine va_calli (va_runS (As := [.int z14664]) (rest := [.int r14660]) ⟨hx, hb, hml, hown, hwd⟩ (c_X12_bitsOf l dC dI g c adK adV v14644 F14645 rc H.size z14664 hg hI ) (va_cwS 1 hwd (gT wk_1308 wk_1306 wk_1307 wk_5) rfl rfl rfl (by decide +kernel) ⟨Nat.le_of_ble_eq_true rfl, Nat.le_of_ble_eq_true rfl⟩) ⟨PM.blind, fun U hU hW => ⟨rfl, PM.at hK hE hP hS hU hW⟩⟩ rfl rfl hl.1 rfl (lv_room (Nat.le_of_ble_eq_true rfl)) dX12_best_301 ⟨Nat.le_of_ble_eq_true rfl, Nat.le_of_ble_eq_true rfl⟩) hS (fun q _ h => (freeM hS) q h) (freeM hS) (fun r14667 u t H1 locs ht hvm hw hB hz1 hk1 hS => ?_)
                                    unfold BM at hB
                                    rw [ht] at hB
                                    have hP : va_P (dC, dI) classes (wM g c v14644 F14645 rc) H1 := hB
                                    clear hz1
                                    generalize H1 = H at hP hS ⊢
                                    have rr_r14667 := i32_rng r14667
                                    refine lv_isub hx hb dX12_best_304 ?_
                                    refine lv_topi (fun z14668 e14669 => ?_)
                                    try (have t14670 := tsub e14669 (a := r14660.toInt) rfl (b := r14667.toInt) rfl (by omega))
                                    refine lv_istore (lv' := [(10, .int z14668), (9, .int r14643), (8, .int x8_lp14626), (7, .int x7_lp14626), (6, .int x6_lp14626), (5, .int x3_lp14603), (4, .int x4_lp14603), (3, .int x3_lp14603), (0, .ref (g 0)), (1, .int p0), (2, .int p1)]) hx hb dX12_best_305 hl (by decide) rfl (fun ls hl => ?_)
                                    refine lv_iload hx hb dX12_best_307 (lv_at hl 2 rfl) ?_
                                    refine lv_iload hx hb dX12_best_309 (lv_at hl 4 rfl) ?_
                                    refine lv_ixor hx hb dX12_best_311 ?_
                                    refine lv_topi (fun z14671 e14672 => ?_)
                                    refine lv_istore (lv' := [(11, .int z14671), (10, .int z14668), (9, .int r14643), (8, .int x8_lp14626), (7, .int x7_lp14626), (6, .int x6_lp14626), (5, .int x3_lp14603), (4, .int x4_lp14603), (3, .int x3_lp14603), (0, .ref (g 0)), (1, .int p0), (2, .int p1)]) hx hb dX12_best_312 hl (by decide) rfl (fun ls hl => ?_)
                                    refine lv_iload hx hb dX12_best_314 (lv_at hl 2 rfl) ?_
                                    refine lv_iload hx hb dX12_best_316 (lv_at hl 4 rfl) ?_
                                    refine lv_icmp_gt (tgt := 361) hx hb dX12_best_318 (by decide) (fun c14674 => ?_) (fun c14674 => ?_)
                                    · skip
                                      have t14675 := cv_lt (a := x7_lp14626.toInt) rfl (b := r14643.toInt) rfl c14674
                                      obtain ⟨z14676, e14677⟩ : ∃ y : Int32, y = x8_lp14626 + 1 := ⟨_, rfl⟩
                                      try (have t14678 := tadd e14677 rfl (b := 1) (by decide) (by omega))
                                      refine lv_iinc (v := z14676) (lv' := [(8, .int z14676), (11, .int z14671), (10, .int z14668), (9, .int r14643), (7, .int x7_lp14626), (6, .int x6_lp14626), (5, .int x3_lp14603), (4, .int x4_lp14603), (3, .int x3_lp14603), (0, .ref (g 0)), (1, .int p0), (2, .int p1)]) hx hb dX12_best_361 hl (k := 3) rfl (by rw [e14677]; rfl) (by decide) rfl (fun ls hl => ?_)
                                      refine lv_goto (tgt := 200) hx hb dX12_best_364 (by decide) ?_
                                      exact ih_lp14626 z14676 x7_lp14626 x6_lp14626 v14644 F14645 _ _ _ (by omega) (by omega) (frC (by decide) hf14646 (frC (by decide) hf_lp14637 hf_lp14626)) hI hF hP hS (lv_sub hl [0, 4, 5, 6, 7, 8, 9, 10, 11] rfl)
                                    · skip
                                      have t14679 := cv_nlt (a := x7_lp14626.toInt) rfl (b := r14643.toInt) rfl c14674
                                      refine lv_iload hx hb dX12_best_321 (lv_at hl 2 rfl) ?_
                                      refine lv_iload hx hb dX12_best_323 (lv_at hl 4 rfl) ?_
                                      refine lv_icmp_ne (tgt := 353) hx hb dX12_best_325 (by decide) (fun c14680 => ?_) (fun c14680 => ?_)
                                      · skip
                                        have t14681 := cv_ne (a := r14643.toInt) rfl (b := x7_lp14626.toInt) rfl c14680
                                        refine lv_iload hx hb dX12_best_353 (lv_at hl 3 rfl) ?_
                                        refine lv_istore (lv' := [(6, .int x8_lp14626), (11, .int z14671), (10, .int z14668), (9, .int r14643), (8, .int x8_lp14626), (7, .int x7_lp14626), (5, .int x3_lp14603), (4, .int x4_lp14603), (3, .int x3_lp14603), (0, .ref (g 0)), (1, .int p0), (2, .int p1)]) hx hb dX12_best_355 hl (by decide) rfl (fun ls hl => ?_)
                                        refine lv_iload hx hb dX12_best_357 (lv_at hl 3 rfl) ?_
                                        refine lv_istore (lv' := [(7, .int r14643), (6, .int x8_lp14626), (11, .int z14671), (10, .int z14668), (9, .int r14643), (8, .int x8_lp14626), (5, .int x3_lp14603), (4, .int x4_lp14603), (3, .int x3_lp14603), (0, .ref (g 0)), (1, .int p0), (2, .int p1)]) hx hb dX12_best_359 hl (by decide) rfl (fun ls hl => ?_)
                                        obtain ⟨z14682, e14683⟩ : ∃ y : Int32, y = x8_lp14626 + 1 := ⟨_, rfl⟩
                                        try (have t14684 := tadd e14683 rfl (b := 1) (by decide) (by omega))
                                        refine lv_iinc (v := z14682) (lv' := [(8, .int z14682), (7, .int r14643), (6, .int x8_lp14626), (11, .int z14671), (10, .int z14668), (9, .int r14643), (5, .int x3_lp14603), (4, .int x4_lp14603), (3, .int x3_lp14603), (0, .ref (g 0)), (1, .int p0), (2, .int p1)]) hx hb dX12_best_361 hl (k := 5) rfl (by rw [e14683]; rfl) (by decide) rfl (fun ls hl => ?_)
                                        refine lv_goto (tgt := 200) hx hb dX12_best_364 (by decide) ?_
                                        exact ih_lp14626 z14682 r14643 x8_lp14626 v14644 F14645 _ _ _ (by omega) (by omega) (frC (by decide) hf14646 (frC (by decide) hf_lp14637 hf_lp14626)) hI hF hP hS (lv_sub hl [0, 1, 2, 6, 7, 8, 9, 10, 11] rfl)
                                      · skip
                                        have t14685 := cv_eq (a := r14643.toInt) rfl (b := x7_lp14626.toInt) rfl c14680
                                        refine lv_iload hx hb dX12_best_328 (lv_at hl 1 rfl) ?_
                                        refine lv_if_gt (tgt := 361) hx hb dX12_best_330 (by decide) (fun c14686 => ?_) (fun c14686 => ?_)
                                        · skip
                                          have t14687 := cv_lt (a := 0) (by decide) (b := z14668.toInt) rfl c14686
                                          obtain ⟨z14688, e14689⟩ : ∃ y : Int32, y = x8_lp14626 + 1 := ⟨_, rfl⟩
                                          try (have t14690 := tadd e14689 rfl (b := 1) (by decide) (by omega))
                                          refine lv_iinc (v := z14688) (lv' := [(8, .int z14688), (11, .int z14671), (10, .int z14668), (9, .int r14643), (7, .int x7_lp14626), (6, .int x6_lp14626), (5, .int x3_lp14603), (4, .int x4_lp14603), (3, .int x3_lp14603), (0, .ref (g 0)), (1, .int p0), (2, .int p1)]) hx hb dX12_best_361 hl (k := 3) rfl (by rw [e14689]; rfl) (by decide) rfl (fun ls hl => ?_)
                                          refine lv_goto (tgt := 200) hx hb dX12_best_364 (by decide) ?_
                                          exact ih_lp14626 z14688 x7_lp14626 x6_lp14626 v14644 F14645 _ _ _ (by omega) (by omega) (frC (by decide) hf14646 (frC (by decide) hf_lp14637 hf_lp14626)) hI hF hP hS (lv_sub hl [0, 4, 5, 6, 7, 8, 9, 10, 11] rfl)
                                        · skip
                                          have t14691 := cv_nlt (a := 0) (by decide) (b := z14668.toInt) rfl c14686
                                          refine lv_iload hx hb dX12_best_333 (lv_at hl 1 rfl) ?_
                                          refine lv_if_ne (tgt := 353) hx hb dX12_best_335 (by decide) (fun c14692 => ?_) (fun c14692 => ?_)
                                          · skip
                                            have t14693 := cv_ne (a := z14668.toInt) rfl (b := 0) (by decide) c14692
                                            refine lv_iload hx hb dX12_best_353 (lv_at hl 3 rfl) ?_
                                            refine lv_istore (lv' := [(6, .int x8_lp14626), (11, .int z14671), (10, .int z14668), (9, .int r14643), (8, .int x8_lp14626), (7, .int x7_lp14626), (5, .int x3_lp14603), (4, .int x4_lp14603), (3, .int x3_lp14603), (0, .ref (g 0)), (1, .int p0), (2, .int p1)]) hx hb dX12_best_355 hl (by decide) rfl (fun ls hl => ?_)
                                            refine lv_iload hx hb dX12_best_357 (lv_at hl 3 rfl) ?_
                                            refine lv_istore (lv' := [(7, .int r14643), (6, .int x8_lp14626), (11, .int z14671), (10, .int z14668), (9, .int r14643), (8, .int x8_lp14626), (5, .int x3_lp14603), (4, .int x4_lp14603), (3, .int x3_lp14603), (0, .ref (g 0)), (1, .int p0), (2, .int p1)]) hx hb dX12_best_359 hl (by decide) rfl (fun ls hl => ?_)
                                            obtain ⟨z14694, e14695⟩ : ∃ y : Int32, y = x8_lp14626 + 1 := ⟨_, rfl⟩
                                            try (have t14696 := tadd e14695 rfl (b := 1) (by decide) (by omega))
                                            refine lv_iinc (v := z14694) (lv' := [(8, .int z14694), (7, .int r14643), (6, .int x8_lp14626), (11, .int z14671), (10, .int z14668), (9, .int r14643), (5, .int x3_lp14603), (4, .int x4_lp14603), (3, .int x3_lp14603), (0, .ref (g 0)), (1, .int p0), (2, .int p1)]) hx hb dX12_best_361 hl (k := 5) rfl (by rw [e14695]; rfl) (by decide) rfl (fun ls hl => ?_)
                                            refine lv_goto (tgt := 200) hx hb dX12_best_364 (by decide) ?_
                                            exact ih_lp14626 z14694 r14643 x8_lp14626 v14644 F14645 _ _ _ (by omega) (by omega) (frC (by decide) hf14646 (frC (by decide) hf_lp14637 hf_lp14626)) hI hF hP hS (lv_sub hl [0, 1, 2, 6, 7, 8, 9, 10, 11] rfl)
                                          · skip
                                            have t14697 := cv_eq (a := z14668.toInt) rfl (b := 0) (by decide) c14692
                                            refine lv_iload hx hb dX12_best_338 (lv_at hl 3 rfl) ?_
                                            refine lv_iload hx hb dX12_best_340 (lv_at hl 0 rfl) ?_
                                            refine lv_iand hx hb dX12_best_342 ?_
                                            refine lv_topi (fun z14698 e14699 => ?_)
                                            refine lv_iload hx hb dX12_best_343 (lv_at hl 0 rfl) ?_
                                            refine lv_ineg hx hb dX12_best_345 ?_
                                            refine lv_topi (fun z14701 e14702 => ?_)
                                            refine lv_iand hx hb dX12_best_346 ?_
                                            refine lv_topi (fun z14703 e14704 => ?_)
                                            refine lv_if_ne (tgt := 353) hx hb dX12_best_347 (by decide) (fun c14706 => ?_) (fun c14706 => ?_)
                                            · skip
                                              have t14707 := cv_ne (a := z14703.toInt) rfl (b := 0) (by decide) c14706
                                              refine lv_iload hx hb dX12_best_353 (lv_at hl 3 rfl) ?_
                                              refine lv_istore (lv' := [(6, .int x8_lp14626), (11, .int z14671), (10, .int z14668), (9, .int r14643), (8, .int x8_lp14626), (7, .int x7_lp14626), (5, .int x3_lp14603), (4, .int x4_lp14603), (3, .int x3_lp14603), (0, .ref (g 0)), (1, .int p0), (2, .int p1)]) hx hb dX12_best_355 hl (by decide) rfl (fun ls hl => ?_)
                                              refine lv_iload hx hb dX12_best_357 (lv_at hl 3 rfl) ?_
                                              refine lv_istore (lv' := [(7, .int r14643), (6, .int x8_lp14626), (11, .int z14671), (10, .int z14668), (9, .int r14643), (8, .int x8_lp14626), (5, .int x3_lp14603), (4, .int x4_lp14603), (3, .int x3_lp14603), (0, .ref (g 0)), (1, .int p0), (2, .int p1)]) hx hb dX12_best_359 hl (by decide) rfl (fun ls hl => ?_)
                                              obtain ⟨z14708, e14709⟩ : ∃ y : Int32, y = x8_lp14626 + 1 := ⟨_, rfl⟩
                                              try (have t14710 := tadd e14709 rfl (b := 1) (by decide) (by omega))
                                              refine lv_iinc (v := z14708) (lv' := [(8, .int z14708), (7, .int r14643), (6, .int x8_lp14626), (11, .int z14671), (10, .int z14668), (9, .int r14643), (5, .int x3_lp14603), (4, .int x4_lp14603), (3, .int x3_lp14603), (0, .ref (g 0)), (1, .int p0), (2, .int p1)]) hx hb dX12_best_361 hl (k := 5) rfl (by rw [e14709]; rfl) (by decide) rfl (fun ls hl => ?_)
                                              refine lv_goto (tgt := 200) hx hb dX12_best_364 (by decide) ?_
                                              exact ih_lp14626 z14708 r14643 x8_lp14626 v14644 F14645 _ _ _ (by omega) (by omega) (frC (by decide) hf14646 (frC (by decide) hf_lp14637 hf_lp14626)) hI hF hP hS (lv_sub hl [0, 1, 2, 6, 7, 8, 9, 10, 11] rfl)
                                            · skip
                                              have t14711 := cv_eq (a := z14703.toInt) rfl (b := 0) (by decide) c14706
                                              refine lv_goto (tgt := 361) hx hb dX12_best_350 (by decide) ?_
                                              obtain ⟨z14712, e14713⟩ : ∃ y : Int32, y = x8_lp14626 + 1 := ⟨_, rfl⟩
                                              try (have t14714 := tadd e14713 rfl (b := 1) (by decide) (by omega))
                                              refine lv_iinc (v := z14712) (lv' := [(8, .int z14712), (11, .int z14671), (10, .int z14668), (9, .int r14643), (7, .int x7_lp14626), (6, .int x6_lp14626), (5, .int x3_lp14603), (4, .int x4_lp14603), (3, .int x3_lp14603), (0, .ref (g 0)), (1, .int p0), (2, .int p1)]) hx hb dX12_best_361 hl (k := 3) rfl (by rw [e14713]; rfl) (by decide) rfl (fun ls hl => ?_)
                                              refine lv_goto (tgt := 200) hx hb dX12_best_364 (by decide) ?_
                                              exact ih_lp14626 z14712 x7_lp14626 x6_lp14626 v14644 F14645 _ _ _ (by omega) (by omega) (frC (by decide) hf14646 (frC (by decide) hf_lp14637 hf_lp14626)) hI hF hP hS (lv_sub hl [0, 4, 5, 6, 7, 8, 9, 10, 11] rfl)
                                · skip
                                  have t14715 := cv_nle (a := x3_lp14603.toInt) rfl (b := x9_lp14637.toInt) rfl c14639
                                  refine lv_aload_n hx hb dX12_best_230 rfl (lv_at hl 7 rfl) ?_
                                  refine va_get (D := (dC, dI)) (ci := 12) (v := .ref (g 42)) (C := RX12) (T := TX12) (N := 63) hx hb hwd inA_X12 hown hK hP 0 rfl rfl 56 (by decide) (hwd _ wk_224) (fun _ h9 => h9) rfl dX12_best_231 ?_
                                  refine lv_aload_n hx hb dX12_best_234 rfl (lv_at hl 7 rfl) ?_
                                  refine va_get (D := (dC, dI)) (ci := 12) (v := .ref (g 43)) (C := RX12) (T := TX12) (N := 63) hx hb hwd inA_X12 hown hK hP 0 rfl rfl 59 (by decide) (hwd _ wk_225) (fun _ h9 => h9) rfl dX12_best_235 ?_
                                  refine lv_iload hx hb dX12_best_238 (lv_at hl 0 rfl) ?_
                                  refine va_iald hx hb hK hP 43 42 rfl rfl (i := x9_lp14637) (vin (a := x9_lp14637.toInt) rfl (by omega)) dX12_best_240 ?_
                                  refine lv_topi (fun z14716 e14717 => ?_)
                                  have t14718 : 0 ≤ z14716.toInt ∧ z14716.toInt ≤ 99 := by rw [e14717]; exact hI.2 43 _ _ rfl _
                                  refine lv_iload hx hb dX12_best_241 (lv_at hl 1 rfl) ?_
                                  refine lv_iload hx hb dX12_best_243 (lv_at hl 0 rfl) ?_
                                  refine lv_ishr hx hb dX12_best_245 ?_
                                  refine lv_topi (fun z14719 e14720 => ?_)
                                  refine lv_iconst (v := 1) hx hb dX12_best_246 (by decide) ?_
                                  refine lv_iand hx hb dX12_best_247 ?_
                                  refine lv_topi (fun z14722 e14723 => ?_)
                                  refine lv_iconst (v := 1) hx hb dX12_best_248 (by decide) ?_
                                  refine lv_icmp_ne (tgt := 256) hx hb dX12_best_249 (by decide) (fun c14725 => ?_) (fun c14725 => ?_)
                                  · skip
                                    have t14726 := cv_ne (a := z14722.toInt) rfl (b := 1) (by decide) c14725
                                    refine lv_iconst (v := 0) hx hb dX12_best_256 (by decide) ?_
                                    refine va_zast hx hb hK hP (DM hg) hS 42 41 rfl rfl (i := z14716) (x := 0) (vin (a := z14716.toInt) rfl (by omega)) dX12_best_257 (fun H locs hP _ hS => ?_)
                                    have hP := va_P_eq (sM_42 g c _ _ _ _) hP
                                    have hI := IM.store0 hI 42 (z14716 : Int32).toNatClampNeg (vp_nar .boolean 0) rfl
                                    have hF := frUF (k := 42) (f := upd (F_lp14637 42) (z14716 : Int32).toNatClampNeg (vp_nar .boolean 0)) (by decide) hF
                                    have hP : va_P (dC, dI) classes (wM g c v_lp14637 (va_up F_lp14637 42 (upd (F_lp14637 42) (z14716 : Int32).toNatClampNeg (vp_nar .boolean 0))) rc) H := hP
                                    generalize (va_up F_lp14637 42 (upd (F_lp14637 42) (z14716 : Int32).toNatClampNeg (vp_nar .boolean 0))) = F14727 at hP hI hF
                                    obtain ⟨z14728, e14729⟩ : ∃ y : Int32, y = x9_lp14637 + 1 := ⟨_, rfl⟩
                                    try (have t14730 := tadd e14729 rfl (b := 1) (by decide) (by omega))
                                    refine lv_iinc (v := z14728) (lv' := [(9, .int z14728), (8, .int x8_lp14626), (7, .int x7_lp14626), (6, .int x6_lp14626), (5, .int x3_lp14603), (4, .int x4_lp14603), (3, .int x3_lp14603), (0, .ref (g 0)), (1, .int p0), (2, .int p1)]) hx hb dX12_best_258 hl (k := 0) rfl (by rw [e14729]; rfl) (by decide) rfl (fun ls hl => ?_)
                                    refine lv_goto (tgt := 224) hx hb dX12_best_261 (by decide) ?_
                                    exact ih_lp14637 z14728 v_lp14637 F14727 _ _ _ (by omega) (by omega) hf_lp14637 hI hF hP hS (lv_sub hl [0, 1, 2, 3, 4, 5, 6, 7, 8, 9] rfl)
                                  · skip
                                    have t14731 := cv_eq (a := z14722.toInt) rfl (b := 1) (by decide) c14725
                                    refine lv_iconst (v := 1) hx hb dX12_best_252 (by decide) ?_
                                    refine lv_goto (tgt := 257) hx hb dX12_best_253 (by decide) ?_
                                    refine va_zast hx hb hK hP (DM hg) hS 42 41 rfl rfl (i := z14716) (x := 1) (vin (a := z14716.toInt) rfl (by omega)) dX12_best_257 (fun H locs hP _ hS => ?_)
                                    have hP := va_P_eq (sM_42 g c _ _ _ _) hP
                                    have hI := IM.store0 hI 42 (z14716 : Int32).toNatClampNeg (vp_nar .boolean 1) rfl
                                    have hF := frUF (k := 42) (f := upd (F_lp14637 42) (z14716 : Int32).toNatClampNeg (vp_nar .boolean 1)) (by decide) hF
                                    have hP : va_P (dC, dI) classes (wM g c v_lp14637 (va_up F_lp14637 42 (upd (F_lp14637 42) (z14716 : Int32).toNatClampNeg (vp_nar .boolean 1))) rc) H := hP
                                    generalize (va_up F_lp14637 42 (upd (F_lp14637 42) (z14716 : Int32).toNatClampNeg (vp_nar .boolean 1))) = F14732 at hP hI hF
                                    obtain ⟨z14733, e14734⟩ : ∃ y : Int32, y = x9_lp14637 + 1 := ⟨_, rfl⟩
                                    try (have t14735 := tadd e14734 rfl (b := 1) (by decide) (by omega))
                                    refine lv_iinc (v := z14733) (lv' := [(9, .int z14733), (8, .int x8_lp14626), (7, .int x7_lp14626), (6, .int x6_lp14626), (5, .int x3_lp14603), (4, .int x4_lp14603), (3, .int x3_lp14603), (0, .ref (g 0)), (1, .int p0), (2, .int p1)]) hx hb dX12_best_258 hl (k := 0) rfl (by rw [e14734]; rfl) (by decide) rfl (fun ls hl => ?_)
                                    refine lv_goto (tgt := 224) hx hb dX12_best_261 (by decide) ?_
                                    exact ih_lp14637 z14733 v_lp14637 F14732 _ _ _ (by omega) (by omega) hf_lp14637 hI hF hP hS (lv_sub hl [0, 1, 2, 3, 4, 5, 6, 7, 8, 9] rfl)
                            obtain ⟨n9, hn9⟩ : ∃ n : Nat, 2147483648 - 0 ≤ (n : Int) := ⟨((2147483648 - 0 : Int)).toNat, by omega⟩
                            exact lp14637 n9 0 v_lp14626 F_lp14626 H _ ls (by have : (0 : Int32).toInt = 0 := (by decide); omega) (by have : (0 : Int32).toInt = 0 := (by decide); omega) (fun _ _ => rfl) hI hF hP hS hl
                          · skip
                            have t14736 := cv_ne (a := r14634.toInt) rfl (b := x3_lp14603.toInt) rfl c14635
                            refine lv_goto (tgt := 361) hx hb dX12_best_218 (by decide) ?_
                            obtain ⟨z14737, e14738⟩ : ∃ y : Int32, y = x8_lp14626 + 1 := ⟨_, rfl⟩
                            try (have t14739 := tadd e14738 rfl (b := 1) (by decide) (by omega))
                            refine lv_iinc (v := z14737) (lv' := [(8, .int z14737), (7, .int x7_lp14626), (6, .int x6_lp14626), (5, .int x3_lp14603), (4, .int x4_lp14603), (3, .int x3_lp14603), (0, .ref (g 0)), (1, .int p0), (2, .int p1)]) hx hb dX12_best_361 hl (k := 0) rfl (by rw [e14738]; rfl) (by decide) rfl (fun ls hl => ?_)
                            refine lv_goto (tgt := 200) hx hb dX12_best_364 (by decide) ?_
                            exact ih_lp14626 z14737 x7_lp14626 x6_lp14626 v_lp14626 F_lp14626 _ _ _ (by omega) (by omega) hf_lp14626 hI hF hP hS (lv_sub hl [0, 1, 2, 3, 4, 5, 6, 7, 8] rfl)
                    obtain ⟨n9, hn9⟩ : ∃ n : Nat, 2147483648 - 0 ≤ (n : Int) := ⟨((2147483648 - 0 : Int)).toNat, by omega⟩
                    exact lp14626 n9 0 0 (-1) v14622 F14623 H _ ls (by have : (0 : Int32).toInt = 0 := (by decide); have : (0 : Int32).toInt = 0 := (by decide); have : ((-1) : Int32).toInt = (-1) := (by decide); omega) (by have : (0 : Int32).toInt = 0 := (by decide); have : (0 : Int32).toInt = 0 := (by decide); have : ((-1) : Int32).toInt = (-1) := (by decide); omega) (fun _ _ => rfl) hI hF hP hS hl
                  · skip
                    have t14740 := cv_nle (a := x3_lp14603.toInt) rfl (b := z14616.toInt) rfl c14618
                    refine lv_aload_n hx hb dX12_best_169 rfl (lv_at hl 3 rfl) ?_
                    refine va_get (D := (dC, dI)) (ci := 12) (v := .ref (g 9)) (C := RX12) (T := TX12) (N := 63) hx hb hwd inA_X12 hown hK hP 0 rfl rfl 12 (by decide) (hwd _ wk_190) (fun _ h9 => h9) rfl dX12_best_170 ?_
                    refine lv_bipush (v := 10) hx hb dX12_best_173 (by decide) ?_
                    refine lv_iload_n hx hb dX12_best_175 rfl (lv_at hl 4 rfl) ?_
                    refine lv_imul hx hb dX12_best_176 ?_
                    refine lv_topi (fun z14741 e14742 => ?_)
                    try (have t14743 := tmul e14742 (a := 10) (by decide) (b := p0.toInt) rfl (by omega))
                    refine lv_iload_n hx hb dX12_best_177 rfl (lv_at hl 5 rfl) ?_
                    refine lv_iadd hx hb dX12_best_178 ?_
                    refine lv_topi (fun z14744 e14745 => ?_)
                    try (have t14746 := tadd e14745 (a := z14741.toInt) rfl (b := p1.toInt) rfl (by omega))
                    refine va_iald hx hb hK hP 9 8 rfl rfl (i := z14744) (vin (a := z14744.toInt) rfl (by omega)) dX12_best_179 ?_
                    refine lv_topi (fun z14747 e14748 => ?_)
                    have e14748 : z14747 = F 9 (z14744 : Int32).toNatClampNeg := e14748.trans (congrFun (hF 9 (by decide)) _)
                    refine lv_goto (tgt := 184) hx hb dX12_best_180 (by decide) ?_
                    refine lv_istore (lv' := [(5, .int z14747), (4, .int x4_lp14603), (3, .int x3_lp14603), (0, .ref (g 0)), (1, .int p0), (2, .int p1)]) hx hb dX12_best_184 hl (by decide) rfl (fun ls hl => ?_)
                    refine lv_aload_n hx hb dX12_best_186 rfl (lv_at hl 3 rfl) ?_
                    refine lv_iload_n hx hb dX12_best_187 rfl (lv_at hl 4 rfl) ?_
                    have t14749 : 0 ≤ (v 14).toInt ∧ (v 14).toInt ≤ 100 := by have h9 := hI.1 14 _ _ rfl; rw [show v_lp14603 14 = v 14 from hf_lp14603 14 (by decide)] at h9; exact h9
                    refine va_callv (va_runV (As := [.int p0]) (rest := []) ⟨hx, hb, hml, hown, hwd⟩ (c_X12_board l dC dI g c adK adV v_lp14603 F_lp14603 rc H.size p0 hg hI ) (cwV 1 hwd (gV wk_1205 wk_1202 wk_1203 wk_1204 wk_5) rfl rfl rfl (by decide +kernel) ⟨Nat.le_of_ble_eq_true rfl, Nat.le_of_ble_eq_true rfl⟩) ⟨PM.blind, va_recv hK hP (ci := 12) (q0 := 0) rfl rfl, fun U hU hW => ⟨rfl, PM.at hK hE hP hS hU hW⟩⟩ rfl rfl hl.1 rfl (lv_room (Nat.le_of_ble_eq_true rfl)) dX12_best_188 ⟨Nat.le_of_ble_eq_true rfl, Nat.le_of_ble_eq_true rfl⟩) hS (fun q _ h => (freeM hS) q h) (freeM hS) (fun u t H1 locs ht hvm hw hB hz1 hk1 hS => ?_)
                    unfold BM at hB
                    rw [ht] at hB
                    obtain ⟨v14751, F14752, rc9⟩ := u
                    obtain ⟨hI, hrc, hf14753, hG14754, hw⟩ := hw
                    dsimp only at hI hrc hB hf14753 hG14754 hw
                    have hF := frCF (by decide) hG14754 hF
                    rw [hrc] at hB
                    have hP : va_P (dC, dI) classes (wM g c v14751 F14752 rc) H1 := hB
                    replace hw : ∀ j : Nat, (j : Int) < (v_lp14603 14).toInt → (F14752 42 j).toInt ≠ 0 → (F_lp14603 13 j).toInt = p0.toInt := hw
                    rw [show v_lp14603 14 = v 14 from hf_lp14603 14 (by decide)] at hw
                    have hw_r14750 := hw
                    clear hw
                    clear hz1
                    generalize H1 = H at hP hS ⊢
                    refine lv_iconst (v := (-1)) hx hb dX12_best_191 (by decide) ?_
                    refine lv_istore (lv' := [(6, .int (-1)), (5, .int z14747), (4, .int x4_lp14603), (3, .int x3_lp14603), (0, .ref (g 0)), (1, .int p0), (2, .int p1)]) hx hb dX12_best_192 hl (by decide) rfl (fun ls hl => ?_)
                    refine lv_iconst (v := 0) hx hb dX12_best_194 (by decide) ?_
                    refine lv_istore (lv' := [(7, .int 0), (6, .int (-1)), (5, .int z14747), (4, .int x4_lp14603), (3, .int x3_lp14603), (0, .ref (g 0)), (1, .int p0), (2, .int p1)]) hx hb dX12_best_195 hl (by decide) rfl (fun ls hl => ?_)
                    refine lv_iconst (v := 0) hx hb dX12_best_197 (by decide) ?_
                    refine lv_istore (lv' := [(8, .int 0), (7, .int 0), (6, .int (-1)), (5, .int z14747), (4, .int x4_lp14603), (3, .int x3_lp14603), (0, .ref (g 0)), (1, .int p0), (2, .int p1)]) hx hb dX12_best_198 hl (by decide) rfl (fun ls hl => ?_)
                    have lp14755 : ∀ (n : Nat) (x8_lp14755 : Int32) (x7_lp14755 : Int32) (x6_lp14755 : Int32) (v_lp14755 : Nat → Int32) (F_lp14755 : Nat → Nat → Int32) (H : Heap) (locs : List Loc) (ls : Array Slot), (0 ≤ x8_lp14755.toInt) → (2147483648 - x8_lp14755.toInt ≤ (n : Int)) → (∀ k, k ∉ ([] : List Nat) → v_lp14755 k = v14751 k) → IM v_lp14755 F_lp14755 → (∀ k, k ∉ ([30, 31, 42, 43] : List Nat) → F_lp14755 k = F k) → va_P (dC, dI) classes (wM g c v_lp14755 F_lp14755 rc) H → va_S (AM g s.heap.size) s.heap H locs → lv_has ls 12 [(8, .int x8_lp14755), (7, .int x7_lp14755), (6, .int x6_lp14755), (5, .int z14747), (4, .int x4_lp14603), (3, .int x3_lp14603), (0, .ref (g 0)), (1, .int p0), (2, .int p1)] → W p l e (headSpec (Cond.code yX12_best cX12_best 12 (some .int) :: wA) ({ frames := 8, cells := 0, slots := 0, locals := 320 })).room s m ([.ref (g 0), .int p0, .int p1] : List Value).toArray below meth c0 H locs 0 0 (MQ below (va_Qi (fun (r : Int32) (u : StM) => IM u.1 u.2.1 ∧ u.2.2 = rc ∧ (∀ k, k ∉ ([57, 58] : List Nat) → u.1 k = v k) ∧ (∀ k, k ∉ ([30, 31, 42, 43] : List Nat) → u.2.1 k = F k) ∧ True) (BM dC dI g c) (AM g s.heap.size)) ([.ref (g 0), .int p0, .int p1] : List Value).toArray s 0 0 (AM g s.heap.size)) (F0 m 200 ls []) := by
                      intro n
                      induction n with
                      | zero =>
                        intro x8_lp14755 x7_lp14755 x6_lp14755 v_lp14755 F_lp14755 H locs ls t14756 hm hf_lp14755 hI hF hP hS hl
                        exfalso
                        have := i32_rng x8_lp14755
                        have := i32_rng x7_lp14755
                        have := i32_rng x6_lp14755
                        have hI1 := hI.1
                        omega
                      | succ n ih_lp14755 =>
                        intro x8_lp14755 x7_lp14755 x6_lp14755 v_lp14755 F_lp14755 H locs ls t14756 hm hf_lp14755 hI hF hP hS hl
                        have rx8_lp14755 := i32_rng x8_lp14755
                        have rx7_lp14755 := i32_rng x7_lp14755
                        have rx6_lp14755 := i32_rng x6_lp14755
                        refine lv_iload hx hb dX12_best_200 (lv_at hl 0 rfl) ?_
                        refine lv_iconst (v := 1) hx hb dX12_best_202 (by decide) ?_
                        refine lv_iload_n hx hb dX12_best_203 rfl (lv_at hl 5 rfl) ?_
                        refine lv_ishl hx hb dX12_best_204 ?_
                        refine lv_topi (fun z14757 e14758 => ?_)
                        have rr_z14757 := i32_rng z14757
                        refine lv_icmp_ge (tgt := 367) hx hb dX12_best_205 (by decide) (fun c14760 => ?_) (fun c14760 => ?_)
                        · skip
                          have t14761 := cv_le (a := z14757.toInt) rfl (b := x8_lp14755.toInt) rfl c14760
                          refine lv_aload_n hx hb dX12_best_367 rfl (lv_at hl 6 rfl) ?_
                          refine lv_iconst (v := 1) hx hb dX12_best_368 (by decide) ?_
                          refine va_put (D := (dC, dI)) (ci := 12) (v := .int 1) (ty := .boolean) (C := RX12) (T := TX12) (N := 63) (fs := fsM_0 g v_lp14755 rc) hx hb hwd inA_X12 tyX12 tyX12_ok nmX12 hown hK hP (DM hg) hS 0 rfl rfl 57 (by decide) (hwd _ wk_1304) (fun _ h9 => h9) rfl (by decide +kernel) rfl rfl (Nat.le_of_ble_eq_true rfl) dX12_best_369 (fun H locs hP _ hS => ?_)
                          have hP := va_P_eq (pM_57 g c _ _ _ _) hP
                          have hI := IM.put0 hI 57 1 rfl
                          refine lv_aload_n hx hb dX12_best_372 rfl (lv_at hl 6 rfl) ?_
                          refine lv_iload hx hb dX12_best_373 (lv_at hl 1 rfl) ?_
                          refine va_put (D := (dC, dI)) (ci := 12) (v := .int x7_lp14755) (ty := .int) (C := RX12) (T := TX12) (N := 63) (fs := fsM_0 g (va_up v_lp14755 57 1) rc) hx hb hwd inA_X12 tyX12 tyX12_ok nmX12 hown hK hP (DM hg) hS 0 rfl rfl 58 (by decide) (hwd _ wk_1305) (fun _ h9 => h9) rfl (by decide +kernel) rfl rfl (Nat.le_of_ble_eq_true rfl) dX12_best_375 (fun H locs hP _ hS => ?_)
                          have hP := va_P_eq (pM_58 g c _ _ _ _) hP
                          have hI := IM.put0 hI 58 x7_lp14755 rfl
                          refine lv_iload hx hb dX12_best_378 (lv_at hl 2 rfl) ?_
                          have hP9 : va_P (dC, dI) classes (wM g c (va_up (va_up v_lp14755 57 1) 58 x7_lp14755) F_lp14755 rc) H := hP
                          exact W.iret (v := x6_lp14755) hx hb hr (fun t ht hW => ⟨⟨x6_lp14755, ((va_up (va_up v_lp14755 57 1) 58 x7_lp14755), F_lp14755, rc), rfl, ⟨hI, rfl, (frU (by decide) (frU (by decide) (frC (by decide) hf_lp14755 (frC (by decide) hf14753 (frC (by decide) hf_lp14603 (fun _ _ => rfl)))))), hF, trivial⟩, (by show va_P _ _ _ t.heap; rw [ht]; exact hP9)⟩, hS.F ht⟩) hS.2.2 dX12_best_380
                        · skip
                          have t14762 := cv_nle (a := z14757.toInt) rfl (b := x8_lp14755.toInt) rfl c14760
                          refine lv_iload hx hb dX12_best_208 (lv_at hl 0 rfl) ?_
                          refine va_calli (va_runS (As := [.int x8_lp14755]) (rest := []) ⟨hx, hb, hml, hown, hwd⟩ (c_X12_bitsOf l dC dI g c adK adV v_lp14755 F_lp14755 rc H.size x8_lp14755 hg hI ) (va_cwS 1 hwd (gT wk_1308 wk_1306 wk_1307 wk_5) rfl rfl rfl (by decide +kernel) ⟨Nat.le_of_ble_eq_true rfl, Nat.le_of_ble_eq_true rfl⟩) ⟨PM.blind, fun U hU hW => ⟨rfl, PM.at hK hE hP hS hU hW⟩⟩ rfl rfl hl.1 rfl (lv_room (Nat.le_of_ble_eq_true rfl)) dX12_best_210 ⟨Nat.le_of_ble_eq_true rfl, Nat.le_of_ble_eq_true rfl⟩) hS (fun q _ h => (freeM hS) q h) (freeM hS) (fun r14763 u t H1 locs ht hvm hw hB hz1 hk1 hS => ?_)
                          unfold BM at hB
                          rw [ht] at hB
                          have hP : va_P (dC, dI) classes (wM g c v_lp14755 F_lp14755 rc) H1 := hB
                          clear hz1
                          generalize H1 = H at hP hS ⊢
                          have rr_r14763 := i32_rng r14763
                          refine lv_iload hx hb dX12_best_213 (lv_at hl 3 rfl) ?_
                          refine lv_icmp_eq (tgt := 221) hx hb dX12_best_215 (by decide) (fun c14764 => ?_) (fun c14764 => ?_)
                          · skip
                            have t14765 := cv_eq (a := r14763.toInt) rfl (b := z14747.toInt) rfl c14764
                            refine lv_iconst (v := 0) hx hb dX12_best_221 (by decide) ?_
                            refine lv_istore (lv' := [(9, .int 0), (8, .int x8_lp14755), (7, .int x7_lp14755), (6, .int x6_lp14755), (5, .int z14747), (4, .int x4_lp14603), (3, .int x3_lp14603), (0, .ref (g 0)), (1, .int p0), (2, .int p1)]) hx hb dX12_best_222 hl (by decide) rfl (fun ls hl => ?_)
                            have lp14766 : ∀ (n : Nat) (x9_lp14766 : Int32) (v_lp14766 : Nat → Int32) (F_lp14766 : Nat → Nat → Int32) (H : Heap) (locs : List Loc) (ls : Array Slot), (0 ≤ x9_lp14766.toInt) → (2147483648 - x9_lp14766.toInt ≤ (n : Int)) → (∀ k, k ∉ ([] : List Nat) → v_lp14766 k = v_lp14755 k) → IM v_lp14766 F_lp14766 → (∀ k, k ∉ ([30, 31, 42, 43] : List Nat) → F_lp14766 k = F k) → va_P (dC, dI) classes (wM g c v_lp14766 F_lp14766 rc) H → va_S (AM g s.heap.size) s.heap H locs → lv_has ls 12 [(9, .int x9_lp14766), (8, .int x8_lp14755), (7, .int x7_lp14755), (6, .int x6_lp14755), (5, .int z14747), (4, .int x4_lp14603), (3, .int x3_lp14603), (0, .ref (g 0)), (1, .int p0), (2, .int p1)] → W p l e (headSpec (Cond.code yX12_best cX12_best 12 (some .int) :: wA) ({ frames := 8, cells := 0, slots := 0, locals := 320 })).room s m ([.ref (g 0), .int p0, .int p1] : List Value).toArray below meth c0 H locs 0 0 (MQ below (va_Qi (fun (r : Int32) (u : StM) => IM u.1 u.2.1 ∧ u.2.2 = rc ∧ (∀ k, k ∉ ([57, 58] : List Nat) → u.1 k = v k) ∧ (∀ k, k ∉ ([30, 31, 42, 43] : List Nat) → u.2.1 k = F k) ∧ True) (BM dC dI g c) (AM g s.heap.size)) ([.ref (g 0), .int p0, .int p1] : List Value).toArray s 0 0 (AM g s.heap.size)) (F0 m 224 ls []) := by
                              intro n
                              induction n with
                              | zero =>
                                intro x9_lp14766 v_lp14766 F_lp14766 H locs ls t14767 hm hf_lp14766 hI hF hP hS hl
                                exfalso
                                have := i32_rng x9_lp14766
                                have hI1 := hI.1
                                omega
                              | succ n ih_lp14766 =>
                                intro x9_lp14766 v_lp14766 F_lp14766 H locs ls t14767 hm hf_lp14766 hI hF hP hS hl
                                have rx9_lp14766 := i32_rng x9_lp14766
                                refine lv_iload hx hb dX12_best_224 (lv_at hl 0 rfl) ?_
                                refine lv_iload_n hx hb dX12_best_226 rfl (lv_at hl 6 rfl) ?_
                                refine lv_icmp_ge (tgt := 264) hx hb dX12_best_227 (by decide) (fun c14768 => ?_) (fun c14768 => ?_)
                                · skip
                                  have t14769 := cv_le (a := x3_lp14603.toInt) rfl (b := x9_lp14766.toInt) rfl c14768
                                  refine lv_aload_n hx hb dX12_best_264 rfl (lv_at hl 7 rfl) ?_
                                  refine lv_iload_n hx hb dX12_best_265 rfl (lv_at hl 8 rfl) ?_
                                  refine lv_aload_n hx hb dX12_best_266 rfl (lv_at hl 7 rfl) ?_
                                  refine va_get (D := (dC, dI)) (ci := 12) (v := .int (v_lp14766 1)) (C := RX12) (T := TX12) (N := 63) hx hb hwd inA_X12 hown hK hP 0 rfl rfl 1 (by decide) (hwd _ wk_332) (fun _ h9 => h9) rfl dX12_best_267 ?_
                                  refine my_top (v := v 1) ((hf_lp14766 1 (by decide)).trans ((hf_lp14755 1 (by decide)).trans ((hf14753 1 (by decide)).trans (hf_lp14603 1 (by decide))))) ?_
                                  have t14770 : 0 ≤ (v 1).toInt ∧ (v 1).toInt ≤ 9999 := by have h9 := hI.1 1 _ _ rfl; rw [show v_lp14766 1 = v 1 from (hf_lp14766 1 (by decide)).trans ((hf_lp14755 1 (by decide)).trans ((hf14753 1 (by decide)).trans (hf_lp14603 1 (by decide))))] at h9; exact h9
                                  refine lv_aload_n hx hb dX12_best_270 rfl (lv_at hl 7 rfl) ?_
                                  refine va_get (D := (dC, dI)) (ci := 12) (v := .int (v_lp14766 1)) (C := RX12) (T := TX12) (N := 63) hx hb hwd inA_X12 hown hK hP 0 rfl rfl 1 (by decide) (hwd _ wk_332) (fun _ h9 => h9) rfl dX12_best_271 ?_
                                  refine my_top (v := v 1) ((hf_lp14766 1 (by decide)).trans ((hf_lp14755 1 (by decide)).trans ((hf14753 1 (by decide)).trans (hf_lp14603 1 (by decide))))) ?_
                                  have t14771 : 0 ≤ (v 1).toInt ∧ (v 1).toInt ≤ 9999 := by have h9 := hI.1 1 _ _ rfl; rw [show v_lp14766 1 = v 1 from (hf_lp14766 1 (by decide)).trans ((hf_lp14755 1 (by decide)).trans ((hf14753 1 (by decide)).trans (hf_lp14603 1 (by decide))))] at h9; exact h9
                                  refine va_calli (va_runV (As := [.int p0, .int (v 1), .int (v 1)]) (rest := []) ⟨hx, hb, hml, hown, hwd⟩ (c_X12_costOfAll l dC dI g c adK adV v_lp14766 F_lp14766 rc H.size p0 (v 1) (v 1) hg hI (by omega) (JL.to hL (show v_lp14766 31 = v 31 from (hf_lp14766 31 (by decide)).trans ((hf_lp14755 31 (by decide)).trans ((hf14753 31 (by decide)).trans (hf_lp14603 31 (by decide))))) (hF 28 (by decide)) (hF 29 (by decide)) (hF 27 (by decide)))) (cwV 3 hwd (gV wk_1247 wk_1244 wk_1245 wk_1246 wk_5) rfl rfl rfl (by decide +kernel) ⟨Nat.le_of_ble_eq_true rfl, Nat.le_of_ble_eq_true rfl⟩) ⟨PM.blind, va_recv hK hP (ci := 12) (q0 := 0) rfl rfl, fun U hU hW => ⟨rfl, PM.at hK hE hP hS hU hW⟩⟩ rfl rfl hl.1 rfl (lv_room (Nat.le_of_ble_eq_true rfl)) dX12_best_274 ⟨Nat.le_of_ble_eq_true rfl, Nat.le_of_ble_eq_true rfl⟩) hS (fun q _ h => (freeM hS) q h) (freeM hS) (fun r14772 u t H1 locs ht hvm hw hB hz1 hk1 hS => ?_)
                                  unfold BM at hB
                                  rw [ht] at hB
                                  obtain ⟨v14773, F14774, rc9⟩ := u
                                  obtain ⟨hI, hrc, hf14775, hG14776, hw⟩ := hw
                                  dsimp only at hI hrc hB hf14775 hG14776 hw
                                  have hF := frCF (by decide) hG14776 hF
                                  rw [hrc] at hB
                                  have hP : va_P (dC, dI) classes (wM g c v14773 F14774 rc) H1 := hB
                                  clear hz1
                                  generalize H1 = H at hP hS ⊢
                                  have rr_r14772 := i32_rng r14772
                                  refine lv_istore (lv' := [(9, .int r14772), (8, .int x8_lp14755), (7, .int x7_lp14755), (6, .int x6_lp14755), (5, .int z14747), (4, .int x4_lp14603), (3, .int x3_lp14603), (0, .ref (g 0)), (1, .int p0), (2, .int p1)]) hx hb dX12_best_277 hl (by decide) rfl (fun ls hl => ?_)
                                  refine lv_iload hx hb dX12_best_279 (lv_at hl 3 rfl) ?_
                                  refine lv_if_lt (tgt := 353) hx hb dX12_best_281 (by decide) (fun c14777 => ?_) (fun c14777 => ?_)
                                  · skip
                                    have t14778 := cv_lt (a := x6_lp14755.toInt) rfl (b := 0) (by decide) c14777
                                    refine lv_iload hx hb dX12_best_353 (lv_at hl 1 rfl) ?_
                                    refine lv_istore (lv' := [(6, .int x8_lp14755), (9, .int r14772), (8, .int x8_lp14755), (7, .int x7_lp14755), (5, .int z14747), (4, .int x4_lp14603), (3, .int x3_lp14603), (0, .ref (g 0)), (1, .int p0), (2, .int p1)]) hx hb dX12_best_355 hl (by decide) rfl (fun ls hl => ?_)
                                    refine lv_iload hx hb dX12_best_357 (lv_at hl 1 rfl) ?_
                                    refine lv_istore (lv' := [(7, .int r14772), (6, .int x8_lp14755), (9, .int r14772), (8, .int x8_lp14755), (5, .int z14747), (4, .int x4_lp14603), (3, .int x3_lp14603), (0, .ref (g 0)), (1, .int p0), (2, .int p1)]) hx hb dX12_best_359 hl (by decide) rfl (fun ls hl => ?_)
                                    obtain ⟨z14779, e14780⟩ : ∃ y : Int32, y = x8_lp14755 + 1 := ⟨_, rfl⟩
                                    try (have t14781 := tadd e14780 rfl (b := 1) (by decide) (by omega))
                                    refine lv_iinc (v := z14779) (lv' := [(8, .int z14779), (7, .int r14772), (6, .int x8_lp14755), (9, .int r14772), (5, .int z14747), (4, .int x4_lp14603), (3, .int x3_lp14603), (0, .ref (g 0)), (1, .int p0), (2, .int p1)]) hx hb dX12_best_361 hl (k := 3) rfl (by rw [e14780]; rfl) (by decide) rfl (fun ls hl => ?_)
                                    refine lv_goto (tgt := 200) hx hb dX12_best_364 (by decide) ?_
                                    exact ih_lp14755 z14779 r14772 x8_lp14755 v14773 F14774 _ _ _ (by omega) (by omega) (frC (by decide) hf14775 (frC (by decide) hf_lp14766 hf_lp14755)) hI hF hP hS (lv_sub hl [0, 1, 2, 4, 5, 6, 7, 8, 9] rfl)
                                  · skip
                                    have t14782 := cv_nlt (a := x6_lp14755.toInt) rfl (b := 0) (by decide) c14777
                                    refine lv_iload hx hb dX12_best_284 (lv_at hl 1 rfl) ?_
                                    refine lv_iload hx hb dX12_best_286 (lv_at hl 5 rfl) ?_
                                    refine lv_iconst (v := (-1)) hx hb dX12_best_288 (by decide) ?_
                                    refine lv_ixor hx hb dX12_best_289 ?_
                                    refine lv_topi (fun z14783 e14784 => ?_)
                                    refine lv_iand hx hb dX12_best_290 ?_
                                    refine lv_topi (fun z14786 e14787 => ?_)
                                    refine va_calli (va_runS (As := [.int z14786]) (rest := []) ⟨hx, hb, hml, hown, hwd⟩ (c_X12_bitsOf l dC dI g c adK adV v14773 F14774 rc H.size z14786 hg hI ) (va_cwS 1 hwd (gT wk_1308 wk_1306 wk_1307 wk_5) rfl rfl rfl (by decide +kernel) ⟨Nat.le_of_ble_eq_true rfl, Nat.le_of_ble_eq_true rfl⟩) ⟨PM.blind, fun U hU hW => ⟨rfl, PM.at hK hE hP hS hU hW⟩⟩ rfl rfl hl.1 rfl (lv_room (Nat.le_of_ble_eq_true rfl)) dX12_best_291 ⟨Nat.le_of_ble_eq_true rfl, Nat.le_of_ble_eq_true rfl⟩) hS (fun q _ h => (freeM hS) q h) (freeM hS) (fun r14789 u t H1 locs ht hvm hw hB hz1 hk1 hS => ?_)
                                    unfold BM at hB
                                    rw [ht] at hB
                                    have hP : va_P (dC, dI) classes (wM g c v14773 F14774 rc) H1 := hB
                                    clear hz1
                                    generalize H1 = H at hP hS ⊢
                                    have rr_r14789 := i32_rng r14789
                                    refine lv_iload hx hb dX12_best_294 (lv_at hl 3 rfl) ?_
                                    refine lv_iload hx hb dX12_best_296 (lv_at hl 5 rfl) ?_
                                    refine lv_iconst (v := (-1)) hx hb dX12_best_298 (by decide) ?_
                                    refine lv_ixor hx hb dX12_best_299 ?_
                                    refine lv_topi (fun z14790 e14791 => ?_)
                                    refine lv_iand hx hb dX12_best_300 ?_
                                    refine lv_topi (fun z14793 e14794 => ?_)
                                    refine va_calli (va_runS (As := [.int z14793]) (rest := [.int r14789]) ⟨hx, hb, hml, hown, hwd⟩ (c_X12_bitsOf l dC dI g c adK adV v14773 F14774 rc H.size z14793 hg hI ) (va_cwS 1 hwd (gT wk_1308 wk_1306 wk_1307 wk_5) rfl rfl rfl (by decide +kernel) ⟨Nat.le_of_ble_eq_true rfl, Nat.le_of_ble_eq_true rfl⟩) ⟨PM.blind, fun U hU hW => ⟨rfl, PM.at hK hE hP hS hU hW⟩⟩ rfl rfl hl.1 rfl (lv_room (Nat.le_of_ble_eq_true rfl)) dX12_best_301 ⟨Nat.le_of_ble_eq_true rfl, Nat.le_of_ble_eq_true rfl⟩) hS (fun q _ h => (freeM hS) q h) (freeM hS) (fun r14796 u t H1 locs ht hvm hw hB hz1 hk1 hS => ?_)
                                    unfold BM at hB
                                    rw [ht] at hB
                                    have hP : va_P (dC, dI) classes (wM g c v14773 F14774 rc) H1 := hB
                                    clear hz1
                                    generalize H1 = H at hP hS ⊢
                                    have rr_r14796 := i32_rng r14796
                                    refine lv_isub hx hb dX12_best_304 ?_
                                    refine lv_topi (fun z14797 e14798 => ?_)
                                    try (have t14799 := tsub e14798 (a := r14789.toInt) rfl (b := r14796.toInt) rfl (by omega))
                                    refine lv_istore (lv' := [(10, .int z14797), (9, .int r14772), (8, .int x8_lp14755), (7, .int x7_lp14755), (6, .int x6_lp14755), (5, .int z14747), (4, .int x4_lp14603), (3, .int x3_lp14603), (0, .ref (g 0)), (1, .int p0), (2, .int p1)]) hx hb dX12_best_305 hl (by decide) rfl (fun ls hl => ?_)
                                    refine lv_iload hx hb dX12_best_307 (lv_at hl 2 rfl) ?_
                                    refine lv_iload hx hb dX12_best_309 (lv_at hl 4 rfl) ?_
                                    refine lv_ixor hx hb dX12_best_311 ?_
                                    refine lv_topi (fun z14800 e14801 => ?_)
                                    refine lv_istore (lv' := [(11, .int z14800), (10, .int z14797), (9, .int r14772), (8, .int x8_lp14755), (7, .int x7_lp14755), (6, .int x6_lp14755), (5, .int z14747), (4, .int x4_lp14603), (3, .int x3_lp14603), (0, .ref (g 0)), (1, .int p0), (2, .int p1)]) hx hb dX12_best_312 hl (by decide) rfl (fun ls hl => ?_)
                                    refine lv_iload hx hb dX12_best_314 (lv_at hl 2 rfl) ?_
                                    refine lv_iload hx hb dX12_best_316 (lv_at hl 4 rfl) ?_
                                    refine lv_icmp_gt (tgt := 361) hx hb dX12_best_318 (by decide) (fun c14803 => ?_) (fun c14803 => ?_)
                                    · skip
                                      have t14804 := cv_lt (a := x7_lp14755.toInt) rfl (b := r14772.toInt) rfl c14803
                                      obtain ⟨z14805, e14806⟩ : ∃ y : Int32, y = x8_lp14755 + 1 := ⟨_, rfl⟩
                                      try (have t14807 := tadd e14806 rfl (b := 1) (by decide) (by omega))
                                      refine lv_iinc (v := z14805) (lv' := [(8, .int z14805), (11, .int z14800), (10, .int z14797), (9, .int r14772), (7, .int x7_lp14755), (6, .int x6_lp14755), (5, .int z14747), (4, .int x4_lp14603), (3, .int x3_lp14603), (0, .ref (g 0)), (1, .int p0), (2, .int p1)]) hx hb dX12_best_361 hl (k := 3) rfl (by rw [e14806]; rfl) (by decide) rfl (fun ls hl => ?_)
                                      refine lv_goto (tgt := 200) hx hb dX12_best_364 (by decide) ?_
                                      exact ih_lp14755 z14805 x7_lp14755 x6_lp14755 v14773 F14774 _ _ _ (by omega) (by omega) (frC (by decide) hf14775 (frC (by decide) hf_lp14766 hf_lp14755)) hI hF hP hS (lv_sub hl [0, 4, 5, 6, 7, 8, 9, 10, 11] rfl)
                                    · skip
                                      have t14808 := cv_nlt (a := x7_lp14755.toInt) rfl (b := r14772.toInt) rfl c14803
                                      refine lv_iload hx hb dX12_best_321 (lv_at hl 2 rfl) ?_
                                      refine lv_iload hx hb dX12_best_323 (lv_at hl 4 rfl) ?_
                                      refine lv_icmp_ne (tgt := 353) hx hb dX12_best_325 (by decide) (fun c14809 => ?_) (fun c14809 => ?_)
                                      · skip
                                        have t14810 := cv_ne (a := r14772.toInt) rfl (b := x7_lp14755.toInt) rfl c14809
                                        refine lv_iload hx hb dX12_best_353 (lv_at hl 3 rfl) ?_
                                        refine lv_istore (lv' := [(6, .int x8_lp14755), (11, .int z14800), (10, .int z14797), (9, .int r14772), (8, .int x8_lp14755), (7, .int x7_lp14755), (5, .int z14747), (4, .int x4_lp14603), (3, .int x3_lp14603), (0, .ref (g 0)), (1, .int p0), (2, .int p1)]) hx hb dX12_best_355 hl (by decide) rfl (fun ls hl => ?_)
                                        refine lv_iload hx hb dX12_best_357 (lv_at hl 3 rfl) ?_
                                        refine lv_istore (lv' := [(7, .int r14772), (6, .int x8_lp14755), (11, .int z14800), (10, .int z14797), (9, .int r14772), (8, .int x8_lp14755), (5, .int z14747), (4, .int x4_lp14603), (3, .int x3_lp14603), (0, .ref (g 0)), (1, .int p0), (2, .int p1)]) hx hb dX12_best_359 hl (by decide) rfl (fun ls hl => ?_)
                                        obtain ⟨z14811, e14812⟩ : ∃ y : Int32, y = x8_lp14755 + 1 := ⟨_, rfl⟩
                                        try (have t14813 := tadd e14812 rfl (b := 1) (by decide) (by omega))
                                        refine lv_iinc (v := z14811) (lv' := [(8, .int z14811), (7, .int r14772), (6, .int x8_lp14755), (11, .int z14800), (10, .int z14797), (9, .int r14772), (5, .int z14747), (4, .int x4_lp14603), (3, .int x3_lp14603), (0, .ref (g 0)), (1, .int p0), (2, .int p1)]) hx hb dX12_best_361 hl (k := 5) rfl (by rw [e14812]; rfl) (by decide) rfl (fun ls hl => ?_)
                                        refine lv_goto (tgt := 200) hx hb dX12_best_364 (by decide) ?_
                                        exact ih_lp14755 z14811 r14772 x8_lp14755 v14773 F14774 _ _ _ (by omega) (by omega) (frC (by decide) hf14775 (frC (by decide) hf_lp14766 hf_lp14755)) hI hF hP hS (lv_sub hl [0, 1, 2, 6, 7, 8, 9, 10, 11] rfl)
                                      · skip
                                        have t14814 := cv_eq (a := r14772.toInt) rfl (b := x7_lp14755.toInt) rfl c14809
                                        refine lv_iload hx hb dX12_best_328 (lv_at hl 1 rfl) ?_
                                        refine lv_if_gt (tgt := 361) hx hb dX12_best_330 (by decide) (fun c14815 => ?_) (fun c14815 => ?_)
                                        · skip
                                          have t14816 := cv_lt (a := 0) (by decide) (b := z14797.toInt) rfl c14815
                                          obtain ⟨z14817, e14818⟩ : ∃ y : Int32, y = x8_lp14755 + 1 := ⟨_, rfl⟩
                                          try (have t14819 := tadd e14818 rfl (b := 1) (by decide) (by omega))
                                          refine lv_iinc (v := z14817) (lv' := [(8, .int z14817), (11, .int z14800), (10, .int z14797), (9, .int r14772), (7, .int x7_lp14755), (6, .int x6_lp14755), (5, .int z14747), (4, .int x4_lp14603), (3, .int x3_lp14603), (0, .ref (g 0)), (1, .int p0), (2, .int p1)]) hx hb dX12_best_361 hl (k := 3) rfl (by rw [e14818]; rfl) (by decide) rfl (fun ls hl => ?_)
                                          refine lv_goto (tgt := 200) hx hb dX12_best_364 (by decide) ?_
                                          exact ih_lp14755 z14817 x7_lp14755 x6_lp14755 v14773 F14774 _ _ _ (by omega) (by omega) (frC (by decide) hf14775 (frC (by decide) hf_lp14766 hf_lp14755)) hI hF hP hS (lv_sub hl [0, 4, 5, 6, 7, 8, 9, 10, 11] rfl)
                                        · skip
                                          have t14820 := cv_nlt (a := 0) (by decide) (b := z14797.toInt) rfl c14815
                                          refine lv_iload hx hb dX12_best_333 (lv_at hl 1 rfl) ?_
                                          refine lv_if_ne (tgt := 353) hx hb dX12_best_335 (by decide) (fun c14821 => ?_) (fun c14821 => ?_)
                                          · skip
                                            have t14822 := cv_ne (a := z14797.toInt) rfl (b := 0) (by decide) c14821
                                            refine lv_iload hx hb dX12_best_353 (lv_at hl 3 rfl) ?_
                                            refine lv_istore (lv' := [(6, .int x8_lp14755), (11, .int z14800), (10, .int z14797), (9, .int r14772), (8, .int x8_lp14755), (7, .int x7_lp14755), (5, .int z14747), (4, .int x4_lp14603), (3, .int x3_lp14603), (0, .ref (g 0)), (1, .int p0), (2, .int p1)]) hx hb dX12_best_355 hl (by decide) rfl (fun ls hl => ?_)
                                            refine lv_iload hx hb dX12_best_357 (lv_at hl 3 rfl) ?_
                                            refine lv_istore (lv' := [(7, .int r14772), (6, .int x8_lp14755), (11, .int z14800), (10, .int z14797), (9, .int r14772), (8, .int x8_lp14755), (5, .int z14747), (4, .int x4_lp14603), (3, .int x3_lp14603), (0, .ref (g 0)), (1, .int p0), (2, .int p1)]) hx hb dX12_best_359 hl (by decide) rfl (fun ls hl => ?_)
                                            obtain ⟨z14823, e14824⟩ : ∃ y : Int32, y = x8_lp14755 + 1 := ⟨_, rfl⟩
                                            try (have t14825 := tadd e14824 rfl (b := 1) (by decide) (by omega))
                                            refine lv_iinc (v := z14823) (lv' := [(8, .int z14823), (7, .int r14772), (6, .int x8_lp14755), (11, .int z14800), (10, .int z14797), (9, .int r14772), (5, .int z14747), (4, .int x4_lp14603), (3, .int x3_lp14603), (0, .ref (g 0)), (1, .int p0), (2, .int p1)]) hx hb dX12_best_361 hl (k := 5) rfl (by rw [e14824]; rfl) (by decide) rfl (fun ls hl => ?_)
                                            refine lv_goto (tgt := 200) hx hb dX12_best_364 (by decide) ?_
                                            exact ih_lp14755 z14823 r14772 x8_lp14755 v14773 F14774 _ _ _ (by omega) (by omega) (frC (by decide) hf14775 (frC (by decide) hf_lp14766 hf_lp14755)) hI hF hP hS (lv_sub hl [0, 1, 2, 6, 7, 8, 9, 10, 11] rfl)
                                          · skip
                                            have t14826 := cv_eq (a := z14797.toInt) rfl (b := 0) (by decide) c14821
                                            refine lv_iload hx hb dX12_best_338 (lv_at hl 3 rfl) ?_
                                            refine lv_iload hx hb dX12_best_340 (lv_at hl 0 rfl) ?_
                                            refine lv_iand hx hb dX12_best_342 ?_
                                            refine lv_topi (fun z14827 e14828 => ?_)
                                            refine lv_iload hx hb dX12_best_343 (lv_at hl 0 rfl) ?_
                                            refine lv_ineg hx hb dX12_best_345 ?_
                                            refine lv_topi (fun z14830 e14831 => ?_)
                                            refine lv_iand hx hb dX12_best_346 ?_
                                            refine lv_topi (fun z14832 e14833 => ?_)
                                            refine lv_if_ne (tgt := 353) hx hb dX12_best_347 (by decide) (fun c14835 => ?_) (fun c14835 => ?_)
                                            · skip
                                              have t14836 := cv_ne (a := z14832.toInt) rfl (b := 0) (by decide) c14835
                                              refine lv_iload hx hb dX12_best_353 (lv_at hl 3 rfl) ?_
                                              refine lv_istore (lv' := [(6, .int x8_lp14755), (11, .int z14800), (10, .int z14797), (9, .int r14772), (8, .int x8_lp14755), (7, .int x7_lp14755), (5, .int z14747), (4, .int x4_lp14603), (3, .int x3_lp14603), (0, .ref (g 0)), (1, .int p0), (2, .int p1)]) hx hb dX12_best_355 hl (by decide) rfl (fun ls hl => ?_)
                                              refine lv_iload hx hb dX12_best_357 (lv_at hl 3 rfl) ?_
                                              refine lv_istore (lv' := [(7, .int r14772), (6, .int x8_lp14755), (11, .int z14800), (10, .int z14797), (9, .int r14772), (8, .int x8_lp14755), (5, .int z14747), (4, .int x4_lp14603), (3, .int x3_lp14603), (0, .ref (g 0)), (1, .int p0), (2, .int p1)]) hx hb dX12_best_359 hl (by decide) rfl (fun ls hl => ?_)
                                              obtain ⟨z14837, e14838⟩ : ∃ y : Int32, y = x8_lp14755 + 1 := ⟨_, rfl⟩
                                              try (have t14839 := tadd e14838 rfl (b := 1) (by decide) (by omega))
                                              refine lv_iinc (v := z14837) (lv' := [(8, .int z14837), (7, .int r14772), (6, .int x8_lp14755), (11, .int z14800), (10, .int z14797), (9, .int r14772), (5, .int z14747), (4, .int x4_lp14603), (3, .int x3_lp14603), (0, .ref (g 0)), (1, .int p0), (2, .int p1)]) hx hb dX12_best_361 hl (k := 5) rfl (by rw [e14838]; rfl) (by decide) rfl (fun ls hl => ?_)
                                              refine lv_goto (tgt := 200) hx hb dX12_best_364 (by decide) ?_
                                              exact ih_lp14755 z14837 r14772 x8_lp14755 v14773 F14774 _ _ _ (by omega) (by omega) (frC (by decide) hf14775 (frC (by decide) hf_lp14766 hf_lp14755)) hI hF hP hS (lv_sub hl [0, 1, 2, 6, 7, 8, 9, 10, 11] rfl)
                                            · skip
                                              have t14840 := cv_eq (a := z14832.toInt) rfl (b := 0) (by decide) c14835
                                              refine lv_goto (tgt := 361) hx hb dX12_best_350 (by decide) ?_
                                              obtain ⟨z14841, e14842⟩ : ∃ y : Int32, y = x8_lp14755 + 1 := ⟨_, rfl⟩
                                              try (have t14843 := tadd e14842 rfl (b := 1) (by decide) (by omega))
                                              refine lv_iinc (v := z14841) (lv' := [(8, .int z14841), (11, .int z14800), (10, .int z14797), (9, .int r14772), (7, .int x7_lp14755), (6, .int x6_lp14755), (5, .int z14747), (4, .int x4_lp14603), (3, .int x3_lp14603), (0, .ref (g 0)), (1, .int p0), (2, .int p1)]) hx hb dX12_best_361 hl (k := 3) rfl (by rw [e14842]; rfl) (by decide) rfl (fun ls hl => ?_)
                                              refine lv_goto (tgt := 200) hx hb dX12_best_364 (by decide) ?_
                                              exact ih_lp14755 z14841 x7_lp14755 x6_lp14755 v14773 F14774 _ _ _ (by omega) (by omega) (frC (by decide) hf14775 (frC (by decide) hf_lp14766 hf_lp14755)) hI hF hP hS (lv_sub hl [0, 4, 5, 6, 7, 8, 9, 10, 11] rfl)
                                · skip
                                  have t14844 := cv_nle (a := x3_lp14603.toInt) rfl (b := x9_lp14766.toInt) rfl c14768
                                  refine lv_aload_n hx hb dX12_best_230 rfl (lv_at hl 7 rfl) ?_
                                  refine va_get (D := (dC, dI)) (ci := 12) (v := .ref (g 42)) (C := RX12) (T := TX12) (N := 63) hx hb hwd inA_X12 hown hK hP 0 rfl rfl 56 (by decide) (hwd _ wk_224) (fun _ h9 => h9) rfl dX12_best_231 ?_
                                  refine lv_aload_n hx hb dX12_best_234 rfl (lv_at hl 7 rfl) ?_
                                  refine va_get (D := (dC, dI)) (ci := 12) (v := .ref (g 43)) (C := RX12) (T := TX12) (N := 63) hx hb hwd inA_X12 hown hK hP 0 rfl rfl 59 (by decide) (hwd _ wk_225) (fun _ h9 => h9) rfl dX12_best_235 ?_
                                  refine lv_iload hx hb dX12_best_238 (lv_at hl 0 rfl) ?_
                                  refine va_iald hx hb hK hP 43 42 rfl rfl (i := x9_lp14766) (vin (a := x9_lp14766.toInt) rfl (by omega)) dX12_best_240 ?_
                                  refine lv_topi (fun z14845 e14846 => ?_)
                                  have t14847 : 0 ≤ z14845.toInt ∧ z14845.toInt ≤ 99 := by rw [e14846]; exact hI.2 43 _ _ rfl _
                                  refine lv_iload hx hb dX12_best_241 (lv_at hl 1 rfl) ?_
                                  refine lv_iload hx hb dX12_best_243 (lv_at hl 0 rfl) ?_
                                  refine lv_ishr hx hb dX12_best_245 ?_
                                  refine lv_topi (fun z14848 e14849 => ?_)
                                  refine lv_iconst (v := 1) hx hb dX12_best_246 (by decide) ?_
                                  refine lv_iand hx hb dX12_best_247 ?_
                                  refine lv_topi (fun z14851 e14852 => ?_)
                                  refine lv_iconst (v := 1) hx hb dX12_best_248 (by decide) ?_
                                  refine lv_icmp_ne (tgt := 256) hx hb dX12_best_249 (by decide) (fun c14854 => ?_) (fun c14854 => ?_)
                                  · skip
                                    have t14855 := cv_ne (a := z14851.toInt) rfl (b := 1) (by decide) c14854
                                    refine lv_iconst (v := 0) hx hb dX12_best_256 (by decide) ?_
                                    refine va_zast hx hb hK hP (DM hg) hS 42 41 rfl rfl (i := z14845) (x := 0) (vin (a := z14845.toInt) rfl (by omega)) dX12_best_257 (fun H locs hP _ hS => ?_)
                                    have hP := va_P_eq (sM_42 g c _ _ _ _) hP
                                    have hI := IM.store0 hI 42 (z14845 : Int32).toNatClampNeg (vp_nar .boolean 0) rfl
                                    have hF := frUF (k := 42) (f := upd (F_lp14766 42) (z14845 : Int32).toNatClampNeg (vp_nar .boolean 0)) (by decide) hF
                                    have hP : va_P (dC, dI) classes (wM g c v_lp14766 (va_up F_lp14766 42 (upd (F_lp14766 42) (z14845 : Int32).toNatClampNeg (vp_nar .boolean 0))) rc) H := hP
                                    generalize (va_up F_lp14766 42 (upd (F_lp14766 42) (z14845 : Int32).toNatClampNeg (vp_nar .boolean 0))) = F14856 at hP hI hF
                                    obtain ⟨z14857, e14858⟩ : ∃ y : Int32, y = x9_lp14766 + 1 := ⟨_, rfl⟩
                                    try (have t14859 := tadd e14858 rfl (b := 1) (by decide) (by omega))
                                    refine lv_iinc (v := z14857) (lv' := [(9, .int z14857), (8, .int x8_lp14755), (7, .int x7_lp14755), (6, .int x6_lp14755), (5, .int z14747), (4, .int x4_lp14603), (3, .int x3_lp14603), (0, .ref (g 0)), (1, .int p0), (2, .int p1)]) hx hb dX12_best_258 hl (k := 0) rfl (by rw [e14858]; rfl) (by decide) rfl (fun ls hl => ?_)
                                    refine lv_goto (tgt := 224) hx hb dX12_best_261 (by decide) ?_
                                    exact ih_lp14766 z14857 v_lp14766 F14856 _ _ _ (by omega) (by omega) hf_lp14766 hI hF hP hS (lv_sub hl [0, 1, 2, 3, 4, 5, 6, 7, 8, 9] rfl)
                                  · skip
                                    have t14860 := cv_eq (a := z14851.toInt) rfl (b := 1) (by decide) c14854
                                    refine lv_iconst (v := 1) hx hb dX12_best_252 (by decide) ?_
                                    refine lv_goto (tgt := 257) hx hb dX12_best_253 (by decide) ?_
                                    refine va_zast hx hb hK hP (DM hg) hS 42 41 rfl rfl (i := z14845) (x := 1) (vin (a := z14845.toInt) rfl (by omega)) dX12_best_257 (fun H locs hP _ hS => ?_)
                                    have hP := va_P_eq (sM_42 g c _ _ _ _) hP
                                    have hI := IM.store0 hI 42 (z14845 : Int32).toNatClampNeg (vp_nar .boolean 1) rfl
                                    have hF := frUF (k := 42) (f := upd (F_lp14766 42) (z14845 : Int32).toNatClampNeg (vp_nar .boolean 1)) (by decide) hF
                                    have hP : va_P (dC, dI) classes (wM g c v_lp14766 (va_up F_lp14766 42 (upd (F_lp14766 42) (z14845 : Int32).toNatClampNeg (vp_nar .boolean 1))) rc) H := hP
                                    generalize (va_up F_lp14766 42 (upd (F_lp14766 42) (z14845 : Int32).toNatClampNeg (vp_nar .boolean 1))) = F14861 at hP hI hF
                                    obtain ⟨z14862, e14863⟩ : ∃ y : Int32, y = x9_lp14766 + 1 := ⟨_, rfl⟩
                                    try (have t14864 := tadd e14863 rfl (b := 1) (by decide) (by omega))
                                    refine lv_iinc (v := z14862) (lv' := [(9, .int z14862), (8, .int x8_lp14755), (7, .int x7_lp14755), (6, .int x6_lp14755), (5, .int z14747), (4, .int x4_lp14603), (3, .int x3_lp14603), (0, .ref (g 0)), (1, .int p0), (2, .int p1)]) hx hb dX12_best_258 hl (k := 0) rfl (by rw [e14863]; rfl) (by decide) rfl (fun ls hl => ?_)
                                    refine lv_goto (tgt := 224) hx hb dX12_best_261 (by decide) ?_
                                    exact ih_lp14766 z14862 v_lp14766 F14861 _ _ _ (by omega) (by omega) hf_lp14766 hI hF hP hS (lv_sub hl [0, 1, 2, 3, 4, 5, 6, 7, 8, 9] rfl)
                            obtain ⟨n9, hn9⟩ : ∃ n : Nat, 2147483648 - 0 ≤ (n : Int) := ⟨((2147483648 - 0 : Int)).toNat, by omega⟩
                            exact lp14766 n9 0 v_lp14755 F_lp14755 H _ ls (by have : (0 : Int32).toInt = 0 := (by decide); omega) (by have : (0 : Int32).toInt = 0 := (by decide); omega) (fun _ _ => rfl) hI hF hP hS hl
                          · skip
                            have t14865 := cv_ne (a := r14763.toInt) rfl (b := z14747.toInt) rfl c14764
                            refine lv_goto (tgt := 361) hx hb dX12_best_218 (by decide) ?_
                            obtain ⟨z14866, e14867⟩ : ∃ y : Int32, y = x8_lp14755 + 1 := ⟨_, rfl⟩
                            try (have t14868 := tadd e14867 rfl (b := 1) (by decide) (by omega))
                            refine lv_iinc (v := z14866) (lv' := [(8, .int z14866), (7, .int x7_lp14755), (6, .int x6_lp14755), (5, .int z14747), (4, .int x4_lp14603), (3, .int x3_lp14603), (0, .ref (g 0)), (1, .int p0), (2, .int p1)]) hx hb dX12_best_361 hl (k := 0) rfl (by rw [e14867]; rfl) (by decide) rfl (fun ls hl => ?_)
                            refine lv_goto (tgt := 200) hx hb dX12_best_364 (by decide) ?_
                            exact ih_lp14755 z14866 x7_lp14755 x6_lp14755 v_lp14755 F_lp14755 _ _ _ (by omega) (by omega) hf_lp14755 hI hF hP hS (lv_sub hl [0, 1, 2, 3, 4, 5, 6, 7, 8] rfl)
                    obtain ⟨n9, hn9⟩ : ∃ n : Nat, 2147483648 - 0 ≤ (n : Int) := ⟨((2147483648 - 0 : Int)).toNat, by omega⟩
                    exact lp14755 n9 0 0 (-1) v14751 F14752 H _ ls (by have : (0 : Int32).toInt = 0 := (by decide); have : (0 : Int32).toInt = 0 := (by decide); have : ((-1) : Int32).toInt = (-1) := (by decide); omega) (by have : (0 : Int32).toInt = 0 := (by decide); have : (0 : Int32).toInt = 0 := (by decide); have : ((-1) : Int32).toInt = (-1) := (by decide); omega) (fun _ _ => rfl) hI hF hP hS hl
                · skip
                  have t14869 := cv_nle (a := (v 14).toInt) rfl (b := x5_lp14603.toInt) rfl c14608
                  refine lv_aload_n hx hb dX12_best_68 rfl (lv_at hl 3 rfl) ?_
                  refine va_get (D := (dC, dI)) (ci := 12) (v := .ref (g 11)) (C := RX12) (T := TX12) (N := 63) hx hb hwd inA_X12 hown hK hP 0 rfl rfl 15 (by decide) (hwd _ wk_192) (fun _ h9 => h9) rfl dX12_best_69 ?_
                  refine lv_iload hx hb dX12_best_72 (lv_at hl 0 rfl) ?_
                  refine va_iald hx hb hK hP 11 10 rfl rfl (i := x5_lp14603) (vin (a := x5_lp14603.toInt) rfl (by omega)) dX12_best_74 ?_
                  refine lv_topi (fun z14870 e14871 => ?_)
                  have t14872 : 0 ≤ z14870.toInt ∧ z14870.toInt ≤ 9 := by rw [e14871]; exact hI.2 11 _ _ rfl _
                  have e14871 : z14870 = F 11 (x5_lp14603 : Int32).toNatClampNeg := e14871.trans (congrFun (hF 11 (by decide)) _)
                  refine lv_iload_n hx hb dX12_best_75 rfl (lv_at hl 5 rfl) ?_
                  refine lv_icmp_ne (tgt := 148) hx hb dX12_best_76 (by decide) (fun c14873 => ?_) (fun c14873 => ?_)
                  · skip
                    have t14874 := cv_ne (a := z14870.toInt) rfl (b := p1.toInt) rfl c14873
                    obtain ⟨z14875, e14876⟩ : ∃ y : Int32, y = x5_lp14603 + 1 := ⟨_, rfl⟩
                    try (have t14877 := tadd e14876 rfl (b := 1) (by decide) (by omega))
                    refine lv_iinc (v := z14875) (lv' := [(5, .int z14875), (4, .int x4_lp14603), (3, .int x3_lp14603), (0, .ref (g 0)), (1, .int p0), (2, .int p1)]) hx hb dX12_best_148 hl (k := 0) rfl (by rw [e14876]; rfl) (by decide) rfl (fun ls hl => ?_)
                    refine lv_goto (tgt := 59) hx hb dX12_best_151 (by decide) ?_
                    exact ih_lp14603 z14875 x4_lp14603 x3_lp14603 v_lp14603 F_lp14603 _ _ _ (by omega) (by omega) (by omega) (by omega) hf_lp14603 hI hF hP hS (lv_sub hl [0, 1, 2, 3, 4, 5] rfl)
                  · skip
                    have t14878 := cv_eq (a := z14870.toInt) rfl (b := p1.toInt) rfl c14873
                    refine lv_aload_n hx hb dX12_best_79 rfl (lv_at hl 3 rfl) ?_
                    refine va_get (D := (dC, dI)) (ci := 12) (v := .ref (g 13)) (C := RX12) (T := TX12) (N := 63) hx hb hwd inA_X12 hown hK hP 0 rfl rfl 17 (by decide) (hwd _ wk_194) (fun _ h9 => h9) rfl dX12_best_80 ?_
                    refine lv_iload hx hb dX12_best_83 (lv_at hl 0 rfl) ?_
                    refine va_iald hx hb hK hP 13 12 rfl rfl (i := x5_lp14603) (vin (a := x5_lp14603.toInt) rfl (by omega)) dX12_best_85 ?_
                    refine lv_topi (fun z14879 e14880 => ?_)
                    have t14881 : 0 ≤ z14879.toInt ∧ z14879.toInt ≤ 12 := by rw [e14880]; exact hI.2 13 _ _ rfl _
                    have e14880 : z14879 = F 13 (x5_lp14603 : Int32).toNatClampNeg := e14880.trans (congrFun (hF 13 (by decide)) _)
                    refine lv_iload_n hx hb dX12_best_86 rfl (lv_at hl 4 rfl) ?_
                    refine lv_icmp_eq (tgt := 105) hx hb dX12_best_87 (by decide) (fun c14882 => ?_) (fun c14882 => ?_)
                    · skip
                      have t14883 := cv_eq (a := z14879.toInt) rfl (b := p0.toInt) rfl c14882
                      refine lv_iload_n hx hb dX12_best_105 rfl (lv_at hl 2 rfl) ?_
                      refine lv_bipush (v := 8) hx hb dX12_best_106 (by decide) ?_
                      refine lv_icmp_ne (tgt := 114) hx hb dX12_best_108 (by decide) (fun c14884 => ?_) (fun c14884 => ?_)
                      · skip
                        have t14885 := cv_ne (a := x3_lp14603.toInt) rfl (b := 8) (by decide) c14884
                        refine lv_aload_n hx hb dX12_best_114 rfl (lv_at hl 3 rfl) ?_
                        refine va_get (D := (dC, dI)) (ci := 12) (v := .ref (g 43)) (C := RX12) (T := TX12) (N := 63) hx hb hwd inA_X12 hown hK hP 0 rfl rfl 59 (by decide) (hwd _ wk_225) (fun _ h9 => h9) rfl dX12_best_115 ?_
                        refine lv_iload_n hx hb dX12_best_118 rfl (lv_at hl 2 rfl) ?_
                        refine lv_iload hx hb dX12_best_119 (lv_at hl 0 rfl) ?_
                        refine va_iast hx hb hK hP (DM hg) hS 43 42 rfl rfl (i := x3_lp14603) (x := x5_lp14603) (vin (a := x3_lp14603.toInt) rfl (by omega)) dX12_best_121 (fun H locs hP _ hS => ?_)
                        have hP := va_P_eq (sM_43 g c _ _ _ _) hP
                        have hI := IM.store hI 43 (x3_lp14603 : Int32).toNatClampNeg x5_lp14603 rfl (by omega)
                        have hF := frUF (k := 43) (f := upd (F_lp14603 43) (x3_lp14603 : Int32).toNatClampNeg x5_lp14603) (by decide) hF
                        have hP : va_P (dC, dI) classes (wM g c v_lp14603 (va_up F_lp14603 43 (upd (F_lp14603 43) (x3_lp14603 : Int32).toNatClampNeg x5_lp14603)) rc) H := hP
                        generalize (va_up F_lp14603 43 (upd (F_lp14603 43) (x3_lp14603 : Int32).toNatClampNeg x5_lp14603)) = F14886 at hP hI hF
                        refine lv_iload hx hb dX12_best_122 (lv_at hl 1 rfl) ?_
                        refine lv_aload_n hx hb dX12_best_124 rfl (lv_at hl 3 rfl) ?_
                        refine va_get (D := (dC, dI)) (ci := 12) (v := .ref (g 13)) (C := RX12) (T := TX12) (N := 63) hx hb hwd inA_X12 hown hK hP 0 rfl rfl 17 (by decide) (hwd _ wk_194) (fun _ h9 => h9) rfl dX12_best_125 ?_
                        refine lv_iload hx hb dX12_best_128 (lv_at hl 0 rfl) ?_
                        refine va_iald hx hb hK hP 13 12 rfl rfl (i := x5_lp14603) (vin (a := x5_lp14603.toInt) rfl (by omega)) dX12_best_130 ?_
                        refine lv_topi (fun z14887 e14888 => ?_)
                        have t14889 : 0 ≤ z14887.toInt ∧ z14887.toInt ≤ 12 := by rw [e14888]; exact hI.2 13 _ _ rfl _
                        have e14888 : z14887 = F 13 (x5_lp14603 : Int32).toNatClampNeg := e14888.trans (congrFun (hF 13 (by decide)) _)
                        refine lv_iload_n hx hb dX12_best_131 rfl (lv_at hl 4 rfl) ?_
                        refine lv_icmp_ne (tgt := 141) hx hb dX12_best_132 (by decide) (fun c14890 => ?_) (fun c14890 => ?_)
                        · skip
                          have t14891 := cv_ne (a := z14887.toInt) rfl (b := p0.toInt) rfl c14890
                          refine lv_iconst (v := 0) hx hb dX12_best_141 (by decide) ?_
                          refine lv_ior hx hb dX12_best_142 ?_
                          refine lv_topi (fun z14892 e14893 => ?_)
                          refine lv_istore (lv' := [(4, .int z14892), (5, .int x5_lp14603), (3, .int x3_lp14603), (0, .ref (g 0)), (1, .int p0), (2, .int p1)]) hx hb dX12_best_143 hl (by decide) rfl (fun ls hl => ?_)
                          obtain ⟨z14895, e14896⟩ : ∃ y : Int32, y = x3_lp14603 + 1 := ⟨_, rfl⟩
                          try (have t14897 := tadd e14896 rfl (b := 1) (by decide) (by omega))
                          refine lv_iinc (v := z14895) (lv' := [(3, .int z14895), (4, .int z14892), (5, .int x5_lp14603), (0, .ref (g 0)), (1, .int p0), (2, .int p1)]) hx hb dX12_best_145 hl (k := 2) rfl (by rw [e14896]; rfl) (by decide) rfl (fun ls hl => ?_)
                          obtain ⟨z14898, e14899⟩ : ∃ y : Int32, y = x5_lp14603 + 1 := ⟨_, rfl⟩
                          try (have t14900 := tadd e14899 rfl (b := 1) (by decide) (by omega))
                          refine lv_iinc (v := z14898) (lv' := [(5, .int z14898), (3, .int z14895), (4, .int z14892), (0, .ref (g 0)), (1, .int p0), (2, .int p1)]) hx hb dX12_best_148 hl (k := 2) rfl (by rw [e14899]; rfl) (by decide) rfl (fun ls hl => ?_)
                          refine lv_goto (tgt := 59) hx hb dX12_best_151 (by decide) ?_
                          exact ih_lp14603 z14898 z14892 z14895 v_lp14603 F14886 _ _ _ (by omega) (by omega) (by omega) (by omega) hf_lp14603 hI hF hP hS (lv_sub hl [0, 2, 1, 3, 4, 5] rfl)
                        · skip
                          have t14901 := cv_eq (a := z14887.toInt) rfl (b := p0.toInt) rfl c14890
                          refine lv_iconst (v := 1) hx hb dX12_best_135 (by decide) ?_
                          refine lv_iload_n hx hb dX12_best_136 rfl (lv_at hl 2 rfl) ?_
                          refine lv_ishl hx hb dX12_best_137 ?_
                          refine lv_topi (fun z14902 e14903 => ?_)
                          have rr_z14902 := i32_rng z14902
                          refine lv_goto (tgt := 142) hx hb dX12_best_138 (by decide) ?_
                          refine lv_ior hx hb dX12_best_142 ?_
                          refine lv_topi (fun z14905 e14906 => ?_)
                          refine lv_istore (lv' := [(4, .int z14905), (5, .int x5_lp14603), (3, .int x3_lp14603), (0, .ref (g 0)), (1, .int p0), (2, .int p1)]) hx hb dX12_best_143 hl (by decide) rfl (fun ls hl => ?_)
                          obtain ⟨z14908, e14909⟩ : ∃ y : Int32, y = x3_lp14603 + 1 := ⟨_, rfl⟩
                          try (have t14910 := tadd e14909 rfl (b := 1) (by decide) (by omega))
                          refine lv_iinc (v := z14908) (lv' := [(3, .int z14908), (4, .int z14905), (5, .int x5_lp14603), (0, .ref (g 0)), (1, .int p0), (2, .int p1)]) hx hb dX12_best_145 hl (k := 2) rfl (by rw [e14909]; rfl) (by decide) rfl (fun ls hl => ?_)
                          obtain ⟨z14911, e14912⟩ : ∃ y : Int32, y = x5_lp14603 + 1 := ⟨_, rfl⟩
                          try (have t14913 := tadd e14912 rfl (b := 1) (by decide) (by omega))
                          refine lv_iinc (v := z14911) (lv' := [(5, .int z14911), (3, .int z14908), (4, .int z14905), (0, .ref (g 0)), (1, .int p0), (2, .int p1)]) hx hb dX12_best_148 hl (k := 2) rfl (by rw [e14912]; rfl) (by decide) rfl (fun ls hl => ?_)
                          refine lv_goto (tgt := 59) hx hb dX12_best_151 (by decide) ?_
                          exact ih_lp14603 z14911 z14905 z14908 v_lp14603 F14886 _ _ _ (by omega) (by omega) (by omega) (by omega) hf_lp14603 hI hF hP hS (lv_sub hl [0, 2, 1, 3, 4, 5] rfl)
                      · skip
                        have t14914 := cv_eq (a := x3_lp14603.toInt) rfl (b := 8) (by decide) c14884
                        refine lv_bipush (v := (-4)) hx hb dX12_best_111 (by decide) ?_
                        have hP9 : va_P (dC, dI) classes (wM g c v_lp14603 F_lp14603 rc) H := hP
                        exact W.iret (v := (-4)) hx hb hr (fun t ht hW => ⟨⟨(-4), (v_lp14603, F_lp14603, rc), rfl, ⟨hI, rfl, (frC (by decide) hf_lp14603 (fun _ _ => rfl)), hF, trivial⟩, (by show va_P _ _ _ t.heap; rw [ht]; exact hP9)⟩, hS.F ht⟩) hS.2.2 dX12_best_113
                    · skip
                      have t14915 := cv_ne (a := z14879.toInt) rfl (b := p0.toInt) rfl c14882
                      refine lv_aload_n hx hb dX12_best_90 rfl (lv_at hl 3 rfl) ?_
                      refine va_get (D := (dC, dI)) (ci := 12) (v := .ref (g 13)) (C := RX12) (T := TX12) (N := 63) hx hb hwd inA_X12 hown hK hP 0 rfl rfl 17 (by decide) (hwd _ wk_194) (fun _ h9 => h9) rfl dX12_best_91 ?_
                      refine lv_iload hx hb dX12_best_94 (lv_at hl 0 rfl) ?_
                      refine va_iald hx hb hK hP 13 12 rfl rfl (i := x5_lp14603) (vin (a := x5_lp14603.toInt) rfl (by omega)) dX12_best_96 ?_
                      refine lv_topi (fun z14916 e14917 => ?_)
                      have t14918 : 0 ≤ z14916.toInt ∧ z14916.toInt ≤ 12 := by rw [e14917]; exact hI.2 13 _ _ rfl _
                      have e14917 : z14916 = F 13 (x5_lp14603 : Int32).toNatClampNeg := e14917.trans (congrFun (hF 13 (by decide)) _)
                      refine lv_bipush (v := 11) hx hb dX12_best_97 (by decide) ?_
                      refine lv_icmp_eq (tgt := 105) hx hb dX12_best_99 (by decide) (fun c14919 => ?_) (fun c14919 => ?_)
                      · skip
                        have t14920 := cv_eq (a := z14916.toInt) rfl (b := 11) (by decide) c14919
                        refine lv_iload_n hx hb dX12_best_105 rfl (lv_at hl 2 rfl) ?_
                        refine lv_bipush (v := 8) hx hb dX12_best_106 (by decide) ?_
                        refine lv_icmp_ne (tgt := 114) hx hb dX12_best_108 (by decide) (fun c14921 => ?_) (fun c14921 => ?_)
                        · skip
                          have t14922 := cv_ne (a := x3_lp14603.toInt) rfl (b := 8) (by decide) c14921
                          refine lv_aload_n hx hb dX12_best_114 rfl (lv_at hl 3 rfl) ?_
                          refine va_get (D := (dC, dI)) (ci := 12) (v := .ref (g 43)) (C := RX12) (T := TX12) (N := 63) hx hb hwd inA_X12 hown hK hP 0 rfl rfl 59 (by decide) (hwd _ wk_225) (fun _ h9 => h9) rfl dX12_best_115 ?_
                          refine lv_iload_n hx hb dX12_best_118 rfl (lv_at hl 2 rfl) ?_
                          refine lv_iload hx hb dX12_best_119 (lv_at hl 0 rfl) ?_
                          refine va_iast hx hb hK hP (DM hg) hS 43 42 rfl rfl (i := x3_lp14603) (x := x5_lp14603) (vin (a := x3_lp14603.toInt) rfl (by omega)) dX12_best_121 (fun H locs hP _ hS => ?_)
                          have hP := va_P_eq (sM_43 g c _ _ _ _) hP
                          have hI := IM.store hI 43 (x3_lp14603 : Int32).toNatClampNeg x5_lp14603 rfl (by omega)
                          have hF := frUF (k := 43) (f := upd (F_lp14603 43) (x3_lp14603 : Int32).toNatClampNeg x5_lp14603) (by decide) hF
                          have hP : va_P (dC, dI) classes (wM g c v_lp14603 (va_up F_lp14603 43 (upd (F_lp14603 43) (x3_lp14603 : Int32).toNatClampNeg x5_lp14603)) rc) H := hP
                          generalize (va_up F_lp14603 43 (upd (F_lp14603 43) (x3_lp14603 : Int32).toNatClampNeg x5_lp14603)) = F14923 at hP hI hF
                          refine lv_iload hx hb dX12_best_122 (lv_at hl 1 rfl) ?_
                          refine lv_aload_n hx hb dX12_best_124 rfl (lv_at hl 3 rfl) ?_
                          refine va_get (D := (dC, dI)) (ci := 12) (v := .ref (g 13)) (C := RX12) (T := TX12) (N := 63) hx hb hwd inA_X12 hown hK hP 0 rfl rfl 17 (by decide) (hwd _ wk_194) (fun _ h9 => h9) rfl dX12_best_125 ?_
                          refine lv_iload hx hb dX12_best_128 (lv_at hl 0 rfl) ?_
                          refine va_iald hx hb hK hP 13 12 rfl rfl (i := x5_lp14603) (vin (a := x5_lp14603.toInt) rfl (by omega)) dX12_best_130 ?_
                          refine lv_topi (fun z14924 e14925 => ?_)
                          have t14926 : 0 ≤ z14924.toInt ∧ z14924.toInt ≤ 12 := by rw [e14925]; exact hI.2 13 _ _ rfl _
                          have e14925 : z14924 = F 13 (x5_lp14603 : Int32).toNatClampNeg := e14925.trans (congrFun (hF 13 (by decide)) _)
                          refine lv_iload_n hx hb dX12_best_131 rfl (lv_at hl 4 rfl) ?_
                          refine lv_icmp_ne (tgt := 141) hx hb dX12_best_132 (by decide) (fun c14927 => ?_) (fun c14927 => ?_)
                          · skip
                            have t14928 := cv_ne (a := z14924.toInt) rfl (b := p0.toInt) rfl c14927
                            refine lv_iconst (v := 0) hx hb dX12_best_141 (by decide) ?_
                            refine lv_ior hx hb dX12_best_142 ?_
                            refine lv_topi (fun z14929 e14930 => ?_)
                            refine lv_istore (lv' := [(4, .int z14929), (5, .int x5_lp14603), (3, .int x3_lp14603), (0, .ref (g 0)), (1, .int p0), (2, .int p1)]) hx hb dX12_best_143 hl (by decide) rfl (fun ls hl => ?_)
                            obtain ⟨z14932, e14933⟩ : ∃ y : Int32, y = x3_lp14603 + 1 := ⟨_, rfl⟩
                            try (have t14934 := tadd e14933 rfl (b := 1) (by decide) (by omega))
                            refine lv_iinc (v := z14932) (lv' := [(3, .int z14932), (4, .int z14929), (5, .int x5_lp14603), (0, .ref (g 0)), (1, .int p0), (2, .int p1)]) hx hb dX12_best_145 hl (k := 2) rfl (by rw [e14933]; rfl) (by decide) rfl (fun ls hl => ?_)
                            obtain ⟨z14935, e14936⟩ : ∃ y : Int32, y = x5_lp14603 + 1 := ⟨_, rfl⟩
                            try (have t14937 := tadd e14936 rfl (b := 1) (by decide) (by omega))
                            refine lv_iinc (v := z14935) (lv' := [(5, .int z14935), (3, .int z14932), (4, .int z14929), (0, .ref (g 0)), (1, .int p0), (2, .int p1)]) hx hb dX12_best_148 hl (k := 2) rfl (by rw [e14936]; rfl) (by decide) rfl (fun ls hl => ?_)
                            refine lv_goto (tgt := 59) hx hb dX12_best_151 (by decide) ?_
                            exact ih_lp14603 z14935 z14929 z14932 v_lp14603 F14923 _ _ _ (by omega) (by omega) (by omega) (by omega) hf_lp14603 hI hF hP hS (lv_sub hl [0, 2, 1, 3, 4, 5] rfl)
                          · skip
                            have t14938 := cv_eq (a := z14924.toInt) rfl (b := p0.toInt) rfl c14927
                            refine lv_iconst (v := 1) hx hb dX12_best_135 (by decide) ?_
                            refine lv_iload_n hx hb dX12_best_136 rfl (lv_at hl 2 rfl) ?_
                            refine lv_ishl hx hb dX12_best_137 ?_
                            refine lv_topi (fun z14939 e14940 => ?_)
                            have rr_z14939 := i32_rng z14939
                            refine lv_goto (tgt := 142) hx hb dX12_best_138 (by decide) ?_
                            refine lv_ior hx hb dX12_best_142 ?_
                            refine lv_topi (fun z14942 e14943 => ?_)
                            refine lv_istore (lv' := [(4, .int z14942), (5, .int x5_lp14603), (3, .int x3_lp14603), (0, .ref (g 0)), (1, .int p0), (2, .int p1)]) hx hb dX12_best_143 hl (by decide) rfl (fun ls hl => ?_)
                            obtain ⟨z14945, e14946⟩ : ∃ y : Int32, y = x3_lp14603 + 1 := ⟨_, rfl⟩
                            try (have t14947 := tadd e14946 rfl (b := 1) (by decide) (by omega))
                            refine lv_iinc (v := z14945) (lv' := [(3, .int z14945), (4, .int z14942), (5, .int x5_lp14603), (0, .ref (g 0)), (1, .int p0), (2, .int p1)]) hx hb dX12_best_145 hl (k := 2) rfl (by rw [e14946]; rfl) (by decide) rfl (fun ls hl => ?_)
                            obtain ⟨z14948, e14949⟩ : ∃ y : Int32, y = x5_lp14603 + 1 := ⟨_, rfl⟩
                            try (have t14950 := tadd e14949 rfl (b := 1) (by decide) (by omega))
                            refine lv_iinc (v := z14948) (lv' := [(5, .int z14948), (3, .int z14945), (4, .int z14942), (0, .ref (g 0)), (1, .int p0), (2, .int p1)]) hx hb dX12_best_148 hl (k := 2) rfl (by rw [e14949]; rfl) (by decide) rfl (fun ls hl => ?_)
                            refine lv_goto (tgt := 59) hx hb dX12_best_151 (by decide) ?_
                            exact ih_lp14603 z14948 z14942 z14945 v_lp14603 F14923 _ _ _ (by omega) (by omega) (by omega) (by omega) hf_lp14603 hI hF hP hS (lv_sub hl [0, 2, 1, 3, 4, 5] rfl)
                        · skip
                          have t14951 := cv_eq (a := x3_lp14603.toInt) rfl (b := 8) (by decide) c14921
                          refine lv_bipush (v := (-4)) hx hb dX12_best_111 (by decide) ?_
                          have hP9 : va_P (dC, dI) classes (wM g c v_lp14603 F_lp14603 rc) H := hP
                          exact W.iret (v := (-4)) hx hb hr (fun t ht hW => ⟨⟨(-4), (v_lp14603, F_lp14603, rc), rfl, ⟨hI, rfl, (frC (by decide) hf_lp14603 (fun _ _ => rfl)), hF, trivial⟩, (by show va_P _ _ _ t.heap; rw [ht]; exact hP9)⟩, hS.F ht⟩) hS.2.2 dX12_best_113
                      · skip
                        have t14952 := cv_ne (a := z14916.toInt) rfl (b := 11) (by decide) c14919
                        refine lv_goto (tgt := 148) hx hb dX12_best_102 (by decide) ?_
                        obtain ⟨z14953, e14954⟩ : ∃ y : Int32, y = x5_lp14603 + 1 := ⟨_, rfl⟩
                        try (have t14955 := tadd e14954 rfl (b := 1) (by decide) (by omega))
                        refine lv_iinc (v := z14953) (lv' := [(5, .int z14953), (4, .int x4_lp14603), (3, .int x3_lp14603), (0, .ref (g 0)), (1, .int p0), (2, .int p1)]) hx hb dX12_best_148 hl (k := 0) rfl (by rw [e14954]; rfl) (by decide) rfl (fun ls hl => ?_)
                        refine lv_goto (tgt := 59) hx hb dX12_best_151 (by decide) ?_
                        exact ih_lp14603 z14953 x4_lp14603 x3_lp14603 v_lp14603 F_lp14603 _ _ _ (by omega) (by omega) (by omega) (by omega) hf_lp14603 hI hF hP hS (lv_sub hl [0, 1, 2, 3, 4, 5] rfl)
            obtain ⟨n9, hn9⟩ : ∃ n : Nat, 2147483648 - 0 ≤ (n : Int) := ⟨((2147483648 - 0 : Int)).toNat, by omega⟩
            exact lp14603 n9 0 0 0 v F H _ ls (by have : (0 : Int32).toInt = 0 := (by decide); have : (0 : Int32).toInt = 0 := (by decide); have : (0 : Int32).toInt = 0 := (by decide); omega) (by have : (0 : Int32).toInt = 0 := (by decide); have : (0 : Int32).toInt = 0 := (by decide); have : (0 : Int32).toInt = 0 := (by decide); omega) (by have : (0 : Int32).toInt = 0 := (by decide); have : (0 : Int32).toInt = 0 := (by decide); have : (0 : Int32).toInt = 0 := (by decide); omega) (by have : (0 : Int32).toInt = 0 := (by decide); have : (0 : Int32).toInt = 0 := (by decide); have : (0 : Int32).toInt = 0 := (by decide); omega) (fun _ _ => rfl) hI hF hP hS hl
          · skip
            have t14956 := cv_eq (a := z14599.toInt) rfl (b := 0) (by decide) c14601
            refine lv_bipush (v := (-2)) hx hb dX12_best_48 (by decide) ?_
            have hP9 : va_P (dC, dI) classes (wM g c v F rc) H := hP
            exact W.iret (v := (-2)) hx hb hr (fun t ht hW => ⟨⟨(-2), (v, F, rc), rfl, ⟨hI, rfl, (fun _ _ => rfl), hF, trivial⟩, (by show va_P _ _ _ t.heap; rw [ht]; exact hP9)⟩, hS.F ht⟩) hS.2.2 dX12_best_50
    · skip
      have t14957 := cv_eq (a := r14582.toInt) rfl (b := 0) (by decide) c14583
      refine lv_iconst (v := (-1)) hx hb dX12_best_16 (by decide) ?_
      have hP9 : va_P (dC, dI) classes (wM g c v F rc) H := hP
      exact W.iret (v := (-1)) hx hb hr (fun t ht hW => ⟨⟨(-1), (v, F, rc), rfl, ⟨hI, rfl, (fun _ _ => rfl), hF, trivial⟩, (by show va_P _ _ _ t.heap; rw [ht]; exact hP9)⟩, hS.F ht⟩) hS.2.2 dX12_best_17
